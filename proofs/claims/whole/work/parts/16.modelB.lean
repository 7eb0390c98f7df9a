/-! X4_inside -/
def f_X4_inside_L (mis : Nat → Int32) : Nat → Nat → Int32 → Int32
  | 0, j, cnt => cnt
  | r + 1, j, cnt => if (mis (nI j).toNatClampNeg) = 0 then f_X4_inside_L mis r (j + 1) (cnt + 0)
    else f_X4_inside_L mis r (j + 1) (cnt + 1)
def f_X4_inside (mis : Nat → Int32) : Int32 :=
  f_X4_inside_L mis 4 0 0
theorem iw_X4_inside_RX4 : ∀ w ∈ u_ws RX4 TX4 19, w ∈ wsX4_inside := by decide +kernel
set_option maxHeartbeats 4000000 in
set_option maxRecDepth 100000 in
theorem c_X4_inside (l : Launch) (G : GT) (b : Nat → Nat) (sz : Nat) (mth : Int32) (mck : Int32) (mbn : Int32) (mai : Int32) (mtm : Int32) (mst : Int32) (msm : Int32) (mon : Int32) (mlt : Int32) (mis : Nat → Int32) : Met l yX4_inside wsX4_inside ({ frames := 0, cells := 0, slots := 0, locals := 0 }) (GP G [.ref (b 0)] [wcM b mth mck mbn mai mtm mst msm mon mlt, wcZ G (b 7) 4 mis] sz) (PQo (.returned (some (.int (f_X4_inside mis))))) 0 0 (fun _ => False) := by
  refine bodyM (cc := cX4_inside) (maxL := 3) (ret := (some .int)) (by decide) rfl (Nat.le_of_ble_eq_true rfl) ?_
  intro p e s m below meth c ls C
  obtain ⟨hx, hb, hr, hts, hown, hlocks, hml, hsz, hP, hE, hD, hZ, hA, hS, hl⟩ := C
  subst hsz
  have hl : lv_has ls 3 [(0, .ref (b 0))] := hl
  refine lv_iconst (v := 0) hx hb dX4_inside_0 (by decide) ?_
  refine lv_istore_n (lv' := [(1, .int 0), (0, .ref (b 0))]) hx hb dX4_inside_1 rfl hl (by decide) rfl (fun ls hl => ?_)
  refine lv_iconst (v := 0) hx hb dX4_inside_2 (by decide) ?_
  refine lv_istore_n (lv' := [(2, .int 0), (1, .int 0), (0, .ref (b 0))]) hx hb dX4_inside_3 rfl hl (by decide) rfl (fun ls hl => ?_)
  refine k_loopP (α := Int32) (fun (r j : Nat) (x : Int32) (ls : Array Slot) => j + r = 4 ∧ f_X4_inside mis = f_X4_inside_L mis r j x ∧ lv_has ls 3 [(2, .int (nI j)), (1, .int x), (0, .ref (b 0))]) 4 0 0 ⟨by omega, (by rw [f_X4_inside]), lv_sub hl [0, 1, 2] rfl⟩ ?_ ?_
  · intro j x ls hI
    obtain ⟨cnt, rfl⟩ : ∃ y, y = x := ⟨_, rfl⟩
    obtain ⟨hj, hf, hl⟩ := hI
    have hl : lv_has ls 3 [(2, .int (nI j)), (1, .int cnt), (0, .ref (b 0))] := hl
    have hf : f_X4_inside mis = f_X4_inside_L mis 0 j cnt := hf
    refine lv_iload_n hx hb dX4_inside_4 rfl (lv_at hl 0 rfl) ?_
    refine lv_iconst (v := 4) hx hb dX4_inside_5 (by decide) ?_
    refine lv_icmp_ge (tgt := 32) hx hb dX4_inside_6 (by decide) (fun c_6 => ?_) (fun c_6 => absurd (lp_a n4_eq (by omega) (by omega)) c_6)
    refine lv_iload_n hx hb dX4_inside_32 rfl (lv_at hl 1 rfl) ?_
    have hq : f_X4_inside mis = cnt := (hf.trans (by rw [f_X4_inside_L]))
    exact W.iret (v := cnt) hx hb hr (fun t ht _ => ⟨by rw [hq], ht⟩) (fun _ h => nomatch h) dX4_inside_33
  · intro r ih j x ls hI
    obtain ⟨cnt, rfl⟩ : ∃ y, y = x := ⟨_, rfl⟩
    obtain ⟨hj, hf, hl⟩ := hI
    have hl : lv_has ls 3 [(2, .int (nI j)), (1, .int cnt), (0, .ref (b 0))] := hl
    have hf : f_X4_inside mis = f_X4_inside_L mis (r + 1) j cnt := hf
    refine lv_iload_n hx hb dX4_inside_4 rfl (lv_at hl 0 rfl) ?_
    refine lv_iconst (v := 4) hx hb dX4_inside_5 (by decide) ?_
    refine lv_icmp_ge (tgt := 32) hx hb dX4_inside_6 (by decide) (fun c_6 => absurd c_6 (lp_b (r := r) n4_eq (by omega) (by omega))) (fun c_6 => ?_)
    refine lv_iload_n hx hb dX4_inside_9 rfl (lv_at hl 1 rfl) ?_
    refine lv_aload_n hx hb dX4_inside_10 rfl (lv_at hl 2 rfl) ?_
    refine va_get (D := G.1) (ci := 4) (v := .ref (b 7)) (C := RX4) (T := TX4) (N := 19) hx hb hts iw_X4_inside_RX4 hown hE.1 hP 0 rfl rfl 13 (by decide) (hts (.fieldLink RX4 29 "RackrailModel" "isInside" "[Z") (by decide +kernel)) (fun _ h9 => h9) rfl dX4_inside_11 ?_
    refine lv_iload_n hx hb dX4_inside_14 rfl (lv_at hl 0 rfl) ?_
    refine va_zald hx hb hE.1 hP 1 1 rfl rfl (vp_in_nI (by omega) (by decide)) dX4_inside_15 ?_
    refine lv_if_eq (tgt := 23) hx hb dX4_inside_16 (by decide) (fun c_16 => ?_) (fun c_16 => ?_)
    · refine lv_iconst (v := 0) hx hb dX4_inside_23 (by decide) ?_
      refine lv_iadd hx hb dX4_inside_24 ?_
      refine lv_istore_n (lv' := [(1, .int (cnt + 0)), (2, .int (nI j)), (0, .ref (b 0))]) hx hb dX4_inside_25 rfl hl (by decide) rfl (fun ls hl => ?_)
      refine lv_iinc (v := nI (j + 1)) (lv' := [(2, .int (nI (j + 1))), (1, .int (cnt + 0)), (0, .ref (b 0))]) hx hb dX4_inside_26 hl (k := 1) rfl (inc1 _) (by decide) rfl (fun ls hl => ?_)
      refine lv_goto (tgt := 4) hx hb dX4_inside_29 (by decide) ?_
      exact ih (j + 1) (cnt + 0) _ ⟨by omega, (hf.trans (by rw [f_X4_inside_L, if_pos c_16])), lv_sub hl [0, 1, 2] rfl⟩
    · refine lv_iconst (v := 1) hx hb dX4_inside_19 (by decide) ?_
      refine lv_goto (tgt := 24) hx hb dX4_inside_20 (by decide) ?_
      refine lv_iadd hx hb dX4_inside_24 ?_
      refine lv_istore_n (lv' := [(1, .int (cnt + 1)), (2, .int (nI j)), (0, .ref (b 0))]) hx hb dX4_inside_25 rfl hl (by decide) rfl (fun ls hl => ?_)
      refine lv_iinc (v := nI (j + 1)) (lv' := [(2, .int (nI (j + 1))), (1, .int (cnt + 1)), (0, .ref (b 0))]) hx hb dX4_inside_26 hl (k := 1) rfl (inc1 _) (by decide) rfl (fun ls hl => ?_)
      refine lv_goto (tgt := 4) hx hb dX4_inside_29 (by decide) ?_
      exact ih (j + 1) (cnt + 1) _ ⟨by omega, (hf.trans (by rw [f_X4_inside_L, if_neg c_16])), lv_sub hl [0, 1, 2] rfl⟩

/-! X4_open -/
def f_X4_open (mai : Int32) (mtm : Int32) (mst : Int32) (msm : Int32) (mdb : Nat → Int32) (mis : Nat → Int32) (p0 : Int32) : Int32 × Int32 × Int32 × Int32 :=
  if 0 < (f_X4_inside mis) then (if (f_X4_in p0 0 6) = 0 then (0, 1, mai, mtm)
      else (0, 2, mai, mtm))
    else if 0 < mtm then (if (f_X4_in p0 0 6) = 0 then (0, 1, mai, mtm)
      else (0, 2, mai, mtm))
    else if (mdb mai.toNatClampNeg) = 0 then (if mst = 0 then (if msm = 0 then (if (f_X4_in p0 0 6) = 0 then (0, 1, mai, mtm)
          else if p0 ≤ mai then (mai - p0, 0, p0, mai - p0)
          else (p0 - mai, 0, p0, p0 - mai))
        else if (f_X4_in p0 0 6) = 0 then (0, 1, mai, mtm)
        else (0, 2, mai, mtm))
      else if (f_X4_in p0 0 6) = 0 then (0, 1, mai, mtm)
      else (0, 2, mai, mtm))
    else if (f_X4_in p0 0 6) = 0 then (0, 1, mai, mtm)
    else (0, 2, mai, mtm)
theorem iw_X4_open_RX4 : ∀ w ∈ u_ws RX4 TX4 19, w ∈ wsX4_open := by decide +kernel
set_option maxHeartbeats 4000000 in
set_option maxRecDepth 100000 in
theorem c_X4_open (l : Launch) (G : GT) (b : Nat → Nat) (sz : Nat) (mth : Int32) (mck : Int32) (mbn : Int32) (mai : Int32) (mtm : Int32) (mst : Int32) (msm : Int32) (mon : Int32) (mlt : Int32) (mdb : Nat → Int32) (mis : Nat → Int32) (p0 : Int32) (hai : vp_in mai 7) : Met l yX4_open wsX4_open ({ frames := 1, cells := 0, slots := 0, locals := 22 }) (GP G [.ref (b 0), .int p0] [wcM b mth mck mbn mai mtm mst msm mon mlt, wcZ G (b 6) 7 mdb, wcZ G (b 7) 4 mis] sz) (MQo G (.returned (some (.int ((f_X4_open mai mtm mst msm mdb mis p0).1)))) [wcM b ((f_X4_open mai mtm mst msm mdb mis p0).2.1) mck mbn ((f_X4_open mai mtm mst msm mdb mis p0).2.2.1) ((f_X4_open mai mtm mst msm mdb mis p0).2.2.2) mst msm mon mlt, wcZ G (b 6) 7 mdb, wcZ G (b 7) 4 mis] (va_A [wcM b mth mck mbn mai mtm mst msm mon mlt, wcZ G (b 6) 7 mdb, wcZ G (b 7) 4 mis] sz)) 0 0 (va_A [wcM b mth mck mbn mai mtm mst msm mon mlt, wcZ G (b 6) 7 mdb, wcZ G (b 7) 4 mis] sz) := by
  refine bodyM (cc := cX4_open) (maxL := 3) (ret := (some .int)) (by decide) rfl (Nat.le_of_ble_eq_true rfl) ?_
  intro p e s m below meth c ls C
  obtain ⟨hx, hb, hr, hts, hown, hlocks, hml, hsz, hP, hE, hD, hZ, hA, hS, hl⟩ := C
  subst hsz
  have hl : lv_has ls 3 [(0, .ref (b 0)), (1, .int p0)] := hl
  refine lv_aload_n hx hb dX4_open_0 rfl (lv_at hl 0 rfl) ?_
  refine k_p (va_runV (As := []) (rest := []) ⟨hx, hb, hml, hown, hts⟩ (c_X4_inside l G b s.heap.size mth mck mbn mai mtm mst msm mon mlt mis) (cwV 0 hts gX4_open_X4_inside rfl rfl rfl ⟨rfl, by decide +kernel, by decide +kernel, by decide +kernel⟩ ⟨Nat.le_of_ble_eq_true rfl, Nat.le_of_ble_eq_true rfl⟩) ⟨GP.blind, va_recv hE.1 hP (ci := 4) (q0 := 0) rfl rfl, GP.go (wc := [wcM b mth mck mbn mai mtm mst msm mon mlt, wcZ G (b 7) 4 mis]) hE hZ hP hD hS hA [0, 2] rfl (by decide) [.ref (b 0)]⟩ rfl rfl hl.1 rfl (lv_room (Nat.le_of_ble_eq_true rfl)) dX4_open_1 ⟨Nat.le_of_ble_eq_true rfl, Nat.le_of_ble_eq_true rfl⟩) ?_
  refine lv_if_gt (tgt := 40) hx hb dX4_open_4 (by decide) (fun c_4 => ?_) (fun c_4 => ?_)
  · refine lv_iconst (v := 1) hx hb dX4_open_40 (by decide) ?_
    refine lv_goto (tgt := 45) hx hb dX4_open_41 (by decide) ?_
    refine lv_istore_n (lv' := [(2, .int 1), (0, .ref (b 0)), (1, .int p0)]) hx hb dX4_open_45 rfl hl (by decide) rfl (fun ls hl => ?_)
    refine lv_aload_n hx hb dX4_open_46 rfl (lv_at hl 1 rfl) ?_
    refine lv_iload_n hx hb dX4_open_47 rfl (lv_at hl 2 rfl) ?_
    refine lv_iconst (v := 0) hx hb dX4_open_48 (by decide) ?_
    refine lv_bipush (v := 6) hx hb dX4_open_49 (by decide) ?_
    refine k_p (va_runS (As := [.int p0, .int 0, .int 6]) (rest := [.ref (b 0)]) ⟨hx, hb, hml, hown, hts⟩ (c_X4_in l G s.heap.size p0 0 6) (va_cwS 3 hts gX4_open_X4_in rfl rfl rfl ⟨by decide +kernel, by decide +kernel, by decide +kernel⟩ ⟨Nat.le_of_ble_eq_true rfl, Nat.le_of_ble_eq_true rfl⟩) ⟨GP.blind, GP.go (wc := []) hE hZ hP hD hS hA [] rfl (by decide) [.int p0, .int 0, .int 6]⟩ rfl rfl hl.1 rfl (lv_room (Nat.le_of_ble_eq_true rfl)) dX4_open_51 ⟨Nat.le_of_ble_eq_true rfl, Nat.le_of_ble_eq_true rfl⟩) ?_
    refine lv_if_ne (tgt := 61) hx hb dX4_open_54 (by decide) (fun c_54 => ?_) (fun c_54 => ?_)
    · refine lv_iload_n hx hb dX4_open_61 rfl (lv_at hl 0 rfl) ?_
      refine lv_if_eq (tgt := 69) hx hb dX4_open_62 (by decide) (fun c_62 => absurd c_62 (by decide)) (fun c_62 => ?_)
      refine lv_iconst (v := 2) hx hb dX4_open_65 (by decide) ?_
      refine lv_goto (tgt := 70) hx hb dX4_open_66 (by decide) ?_
      refine va_put (D := G.1) (ci := 4) (v := .int 2) (ty := .int) (C := RX4) (T := TX4) (N := 19) hx hb hts iw_X4_open_RX4 tyX4 tyX4_ok nmX4 hown hE.1 hP hD hS 0 rfl rfl 0 (by decide) (hts (.fieldLink RX4 41 "RackrailModel" "thrown" "I") (by decide +kernel)) (fun _ h9 => h9) rfl (by decide +kernel) rfl rfl (Nat.le_of_ble_eq_true rfl) dX4_open_70 (fun H locs hP hD hS => ?_)
      have hP : va_P G.1 vwCl [wcM b 2 mck mbn mai mtm mst msm mon mlt, wcZ G (b 6) 7 mdb, wcZ G (b 7) 4 mis] H := hP
      have hD : va_D _ [wcM b 2 mck mbn mai mtm mst msm mon mlt, wcZ G (b 6) 7 mdb, wcZ G (b 7) 4 mis] := hD
      refine lv_aload_n hx hb dX4_open_73 rfl (lv_at hl 1 rfl) ?_
      refine va_get (D := G.1) (ci := 4) (v := .int 2) (C := RX4) (T := TX4) (N := 19) hx hb hts iw_X4_open_RX4 hown hE.1 hP 0 rfl rfl 0 (by decide) (hts (.fieldLink RX4 41 "RackrailModel" "thrown" "I") (by decide +kernel)) (fun _ h9 => h9) rfl dX4_open_74 ?_
      refine lv_if_le (tgt := 82) hx hb dX4_open_77 (by decide) (fun c_77 => absurd c_77 (by decide)) (fun c_77 => ?_)
      refine lv_iconst (v := 0) hx hb dX4_open_80 (by decide) ?_
      have hq : f_X4_open mai mtm mst msm mdb mis p0 = (0, 2, mai, mtm) := (by rw [f_X4_open, if_pos c_4, if_neg c_54])
      exact W.iret (v := 0) hx hb hr (fun t ht _ => ⟨by rw [hq], by rw [hq, ht]; exact hP, hS.F ht⟩) hS.2.2 dX4_open_81
    · refine lv_iconst (v := 1) hx hb dX4_open_57 (by decide) ?_
      refine lv_goto (tgt := 70) hx hb dX4_open_58 (by decide) ?_
      refine va_put (D := G.1) (ci := 4) (v := .int 1) (ty := .int) (C := RX4) (T := TX4) (N := 19) hx hb hts iw_X4_open_RX4 tyX4 tyX4_ok nmX4 hown hE.1 hP hD hS 0 rfl rfl 0 (by decide) (hts (.fieldLink RX4 41 "RackrailModel" "thrown" "I") (by decide +kernel)) (fun _ h9 => h9) rfl (by decide +kernel) rfl rfl (Nat.le_of_ble_eq_true rfl) dX4_open_70 (fun H locs hP hD hS => ?_)
      have hP : va_P G.1 vwCl [wcM b 1 mck mbn mai mtm mst msm mon mlt, wcZ G (b 6) 7 mdb, wcZ G (b 7) 4 mis] H := hP
      have hD : va_D _ [wcM b 1 mck mbn mai mtm mst msm mon mlt, wcZ G (b 6) 7 mdb, wcZ G (b 7) 4 mis] := hD
      refine lv_aload_n hx hb dX4_open_73 rfl (lv_at hl 1 rfl) ?_
      refine va_get (D := G.1) (ci := 4) (v := .int 1) (C := RX4) (T := TX4) (N := 19) hx hb hts iw_X4_open_RX4 hown hE.1 hP 0 rfl rfl 0 (by decide) (hts (.fieldLink RX4 41 "RackrailModel" "thrown" "I") (by decide +kernel)) (fun _ h9 => h9) rfl dX4_open_74 ?_
      refine lv_if_le (tgt := 82) hx hb dX4_open_77 (by decide) (fun c_77 => absurd c_77 (by decide)) (fun c_77 => ?_)
      refine lv_iconst (v := 0) hx hb dX4_open_80 (by decide) ?_
      have hq : f_X4_open mai mtm mst msm mdb mis p0 = (0, 1, mai, mtm) := (by rw [f_X4_open, if_pos c_4, if_pos c_54])
      exact W.iret (v := 0) hx hb hr (fun t ht _ => ⟨by rw [hq], by rw [hq, ht]; exact hP, hS.F ht⟩) hS.2.2 dX4_open_81
  · refine lv_aload_n hx hb dX4_open_7 rfl (lv_at hl 0 rfl) ?_
    refine va_get (D := G.1) (ci := 4) (v := .int mtm) (C := RX4) (T := TX4) (N := 19) hx hb hts iw_X4_open_RX4 hown hE.1 hP 0 rfl rfl 9 (by decide) (hts (.fieldLink RX4 86 "RackrailModel" "toMove" "I") (by decide +kernel)) (fun _ h9 => h9) rfl dX4_open_8 ?_
    refine lv_if_gt (tgt := 40) hx hb dX4_open_11 (by decide) (fun c_11 => ?_) (fun c_11 => ?_)
    · refine lv_iconst (v := 1) hx hb dX4_open_40 (by decide) ?_
      refine lv_goto (tgt := 45) hx hb dX4_open_41 (by decide) ?_
      refine lv_istore_n (lv' := [(2, .int 1), (0, .ref (b 0)), (1, .int p0)]) hx hb dX4_open_45 rfl hl (by decide) rfl (fun ls hl => ?_)
      refine lv_aload_n hx hb dX4_open_46 rfl (lv_at hl 1 rfl) ?_
      refine lv_iload_n hx hb dX4_open_47 rfl (lv_at hl 2 rfl) ?_
      refine lv_iconst (v := 0) hx hb dX4_open_48 (by decide) ?_
      refine lv_bipush (v := 6) hx hb dX4_open_49 (by decide) ?_
      refine k_p (va_runS (As := [.int p0, .int 0, .int 6]) (rest := [.ref (b 0)]) ⟨hx, hb, hml, hown, hts⟩ (c_X4_in l G s.heap.size p0 0 6) (va_cwS 3 hts gX4_open_X4_in rfl rfl rfl ⟨by decide +kernel, by decide +kernel, by decide +kernel⟩ ⟨Nat.le_of_ble_eq_true rfl, Nat.le_of_ble_eq_true rfl⟩) ⟨GP.blind, GP.go (wc := []) hE hZ hP hD hS hA [] rfl (by decide) [.int p0, .int 0, .int 6]⟩ rfl rfl hl.1 rfl (lv_room (Nat.le_of_ble_eq_true rfl)) dX4_open_51 ⟨Nat.le_of_ble_eq_true rfl, Nat.le_of_ble_eq_true rfl⟩) ?_
      refine lv_if_ne (tgt := 61) hx hb dX4_open_54 (by decide) (fun c_54 => ?_) (fun c_54 => ?_)
      · refine lv_iload_n hx hb dX4_open_61 rfl (lv_at hl 0 rfl) ?_
        refine lv_if_eq (tgt := 69) hx hb dX4_open_62 (by decide) (fun c_62 => absurd c_62 (by decide)) (fun c_62 => ?_)
        refine lv_iconst (v := 2) hx hb dX4_open_65 (by decide) ?_
        refine lv_goto (tgt := 70) hx hb dX4_open_66 (by decide) ?_
        refine va_put (D := G.1) (ci := 4) (v := .int 2) (ty := .int) (C := RX4) (T := TX4) (N := 19) hx hb hts iw_X4_open_RX4 tyX4 tyX4_ok nmX4 hown hE.1 hP hD hS 0 rfl rfl 0 (by decide) (hts (.fieldLink RX4 41 "RackrailModel" "thrown" "I") (by decide +kernel)) (fun _ h9 => h9) rfl (by decide +kernel) rfl rfl (Nat.le_of_ble_eq_true rfl) dX4_open_70 (fun H locs hP hD hS => ?_)
        have hP : va_P G.1 vwCl [wcM b 2 mck mbn mai mtm mst msm mon mlt, wcZ G (b 6) 7 mdb, wcZ G (b 7) 4 mis] H := hP
        have hD : va_D _ [wcM b 2 mck mbn mai mtm mst msm mon mlt, wcZ G (b 6) 7 mdb, wcZ G (b 7) 4 mis] := hD
        refine lv_aload_n hx hb dX4_open_73 rfl (lv_at hl 1 rfl) ?_
        refine va_get (D := G.1) (ci := 4) (v := .int 2) (C := RX4) (T := TX4) (N := 19) hx hb hts iw_X4_open_RX4 hown hE.1 hP 0 rfl rfl 0 (by decide) (hts (.fieldLink RX4 41 "RackrailModel" "thrown" "I") (by decide +kernel)) (fun _ h9 => h9) rfl dX4_open_74 ?_
        refine lv_if_le (tgt := 82) hx hb dX4_open_77 (by decide) (fun c_77 => absurd c_77 (by decide)) (fun c_77 => ?_)
        refine lv_iconst (v := 0) hx hb dX4_open_80 (by decide) ?_
        have hq : f_X4_open mai mtm mst msm mdb mis p0 = (0, 2, mai, mtm) := (by rw [f_X4_open, if_neg c_4, if_pos c_11, if_neg c_54])
        exact W.iret (v := 0) hx hb hr (fun t ht _ => ⟨by rw [hq], by rw [hq, ht]; exact hP, hS.F ht⟩) hS.2.2 dX4_open_81
      · refine lv_iconst (v := 1) hx hb dX4_open_57 (by decide) ?_
        refine lv_goto (tgt := 70) hx hb dX4_open_58 (by decide) ?_
        refine va_put (D := G.1) (ci := 4) (v := .int 1) (ty := .int) (C := RX4) (T := TX4) (N := 19) hx hb hts iw_X4_open_RX4 tyX4 tyX4_ok nmX4 hown hE.1 hP hD hS 0 rfl rfl 0 (by decide) (hts (.fieldLink RX4 41 "RackrailModel" "thrown" "I") (by decide +kernel)) (fun _ h9 => h9) rfl (by decide +kernel) rfl rfl (Nat.le_of_ble_eq_true rfl) dX4_open_70 (fun H locs hP hD hS => ?_)
        have hP : va_P G.1 vwCl [wcM b 1 mck mbn mai mtm mst msm mon mlt, wcZ G (b 6) 7 mdb, wcZ G (b 7) 4 mis] H := hP
        have hD : va_D _ [wcM b 1 mck mbn mai mtm mst msm mon mlt, wcZ G (b 6) 7 mdb, wcZ G (b 7) 4 mis] := hD
        refine lv_aload_n hx hb dX4_open_73 rfl (lv_at hl 1 rfl) ?_
        refine va_get (D := G.1) (ci := 4) (v := .int 1) (C := RX4) (T := TX4) (N := 19) hx hb hts iw_X4_open_RX4 hown hE.1 hP 0 rfl rfl 0 (by decide) (hts (.fieldLink RX4 41 "RackrailModel" "thrown" "I") (by decide +kernel)) (fun _ h9 => h9) rfl dX4_open_74 ?_
        refine lv_if_le (tgt := 82) hx hb dX4_open_77 (by decide) (fun c_77 => absurd c_77 (by decide)) (fun c_77 => ?_)
        refine lv_iconst (v := 0) hx hb dX4_open_80 (by decide) ?_
        have hq : f_X4_open mai mtm mst msm mdb mis p0 = (0, 1, mai, mtm) := (by rw [f_X4_open, if_neg c_4, if_pos c_11, if_pos c_54])
        exact W.iret (v := 0) hx hb hr (fun t ht _ => ⟨by rw [hq], by rw [hq, ht]; exact hP, hS.F ht⟩) hS.2.2 dX4_open_81
    · refine lv_aload_n hx hb dX4_open_14 rfl (lv_at hl 0 rfl) ?_
      refine va_get (D := G.1) (ci := 4) (v := .ref (b 6)) (C := RX4) (T := TX4) (N := 19) hx hb hts iw_X4_open_RX4 hown hE.1 hP 0 rfl rfl 12 (by decide) (hts (.fieldLink RX4 25 "RackrailModel" "doubts" "[Z") (by decide +kernel)) (fun _ h9 => h9) rfl dX4_open_15 ?_
      refine lv_aload_n hx hb dX4_open_18 rfl (lv_at hl 0 rfl) ?_
      refine va_get (D := G.1) (ci := 4) (v := .int mai) (C := RX4) (T := TX4) (N := 19) hx hb hts iw_X4_open_RX4 hown hE.1 hP 0 rfl rfl 8 (by decide) (hts (.fieldLink RX4 89 "RackrailModel" "aisle" "I") (by decide +kernel)) (fun _ h9 => h9) rfl dX4_open_19 ?_
      refine va_zald hx hb hE.1 hP 1 1 rfl rfl (hai) dX4_open_22 ?_
      refine lv_if_ne (tgt := 40) hx hb dX4_open_23 (by decide) (fun c_23 => ?_) (fun c_23 => ?_)
      · refine lv_iconst (v := 1) hx hb dX4_open_40 (by decide) ?_
        refine lv_goto (tgt := 45) hx hb dX4_open_41 (by decide) ?_
        refine lv_istore_n (lv' := [(2, .int 1), (0, .ref (b 0)), (1, .int p0)]) hx hb dX4_open_45 rfl hl (by decide) rfl (fun ls hl => ?_)
        refine lv_aload_n hx hb dX4_open_46 rfl (lv_at hl 1 rfl) ?_
        refine lv_iload_n hx hb dX4_open_47 rfl (lv_at hl 2 rfl) ?_
        refine lv_iconst (v := 0) hx hb dX4_open_48 (by decide) ?_
        refine lv_bipush (v := 6) hx hb dX4_open_49 (by decide) ?_
        refine k_p (va_runS (As := [.int p0, .int 0, .int 6]) (rest := [.ref (b 0)]) ⟨hx, hb, hml, hown, hts⟩ (c_X4_in l G s.heap.size p0 0 6) (va_cwS 3 hts gX4_open_X4_in rfl rfl rfl ⟨by decide +kernel, by decide +kernel, by decide +kernel⟩ ⟨Nat.le_of_ble_eq_true rfl, Nat.le_of_ble_eq_true rfl⟩) ⟨GP.blind, GP.go (wc := []) hE hZ hP hD hS hA [] rfl (by decide) [.int p0, .int 0, .int 6]⟩ rfl rfl hl.1 rfl (lv_room (Nat.le_of_ble_eq_true rfl)) dX4_open_51 ⟨Nat.le_of_ble_eq_true rfl, Nat.le_of_ble_eq_true rfl⟩) ?_
        refine lv_if_ne (tgt := 61) hx hb dX4_open_54 (by decide) (fun c_54 => ?_) (fun c_54 => ?_)
        · refine lv_iload_n hx hb dX4_open_61 rfl (lv_at hl 0 rfl) ?_
          refine lv_if_eq (tgt := 69) hx hb dX4_open_62 (by decide) (fun c_62 => absurd c_62 (by decide)) (fun c_62 => ?_)
          refine lv_iconst (v := 2) hx hb dX4_open_65 (by decide) ?_
          refine lv_goto (tgt := 70) hx hb dX4_open_66 (by decide) ?_
          refine va_put (D := G.1) (ci := 4) (v := .int 2) (ty := .int) (C := RX4) (T := TX4) (N := 19) hx hb hts iw_X4_open_RX4 tyX4 tyX4_ok nmX4 hown hE.1 hP hD hS 0 rfl rfl 0 (by decide) (hts (.fieldLink RX4 41 "RackrailModel" "thrown" "I") (by decide +kernel)) (fun _ h9 => h9) rfl (by decide +kernel) rfl rfl (Nat.le_of_ble_eq_true rfl) dX4_open_70 (fun H locs hP hD hS => ?_)
          have hP : va_P G.1 vwCl [wcM b 2 mck mbn mai mtm mst msm mon mlt, wcZ G (b 6) 7 mdb, wcZ G (b 7) 4 mis] H := hP
          have hD : va_D _ [wcM b 2 mck mbn mai mtm mst msm mon mlt, wcZ G (b 6) 7 mdb, wcZ G (b 7) 4 mis] := hD
          refine lv_aload_n hx hb dX4_open_73 rfl (lv_at hl 1 rfl) ?_
          refine va_get (D := G.1) (ci := 4) (v := .int 2) (C := RX4) (T := TX4) (N := 19) hx hb hts iw_X4_open_RX4 hown hE.1 hP 0 rfl rfl 0 (by decide) (hts (.fieldLink RX4 41 "RackrailModel" "thrown" "I") (by decide +kernel)) (fun _ h9 => h9) rfl dX4_open_74 ?_
          refine lv_if_le (tgt := 82) hx hb dX4_open_77 (by decide) (fun c_77 => absurd c_77 (by decide)) (fun c_77 => ?_)
          refine lv_iconst (v := 0) hx hb dX4_open_80 (by decide) ?_
          have hq : f_X4_open mai mtm mst msm mdb mis p0 = (0, 2, mai, mtm) := (by rw [f_X4_open, if_neg c_4, if_neg c_11, if_neg c_23, if_neg c_54])
          exact W.iret (v := 0) hx hb hr (fun t ht _ => ⟨by rw [hq], by rw [hq, ht]; exact hP, hS.F ht⟩) hS.2.2 dX4_open_81
        · refine lv_iconst (v := 1) hx hb dX4_open_57 (by decide) ?_
          refine lv_goto (tgt := 70) hx hb dX4_open_58 (by decide) ?_
          refine va_put (D := G.1) (ci := 4) (v := .int 1) (ty := .int) (C := RX4) (T := TX4) (N := 19) hx hb hts iw_X4_open_RX4 tyX4 tyX4_ok nmX4 hown hE.1 hP hD hS 0 rfl rfl 0 (by decide) (hts (.fieldLink RX4 41 "RackrailModel" "thrown" "I") (by decide +kernel)) (fun _ h9 => h9) rfl (by decide +kernel) rfl rfl (Nat.le_of_ble_eq_true rfl) dX4_open_70 (fun H locs hP hD hS => ?_)
          have hP : va_P G.1 vwCl [wcM b 1 mck mbn mai mtm mst msm mon mlt, wcZ G (b 6) 7 mdb, wcZ G (b 7) 4 mis] H := hP
          have hD : va_D _ [wcM b 1 mck mbn mai mtm mst msm mon mlt, wcZ G (b 6) 7 mdb, wcZ G (b 7) 4 mis] := hD
          refine lv_aload_n hx hb dX4_open_73 rfl (lv_at hl 1 rfl) ?_
          refine va_get (D := G.1) (ci := 4) (v := .int 1) (C := RX4) (T := TX4) (N := 19) hx hb hts iw_X4_open_RX4 hown hE.1 hP 0 rfl rfl 0 (by decide) (hts (.fieldLink RX4 41 "RackrailModel" "thrown" "I") (by decide +kernel)) (fun _ h9 => h9) rfl dX4_open_74 ?_
          refine lv_if_le (tgt := 82) hx hb dX4_open_77 (by decide) (fun c_77 => absurd c_77 (by decide)) (fun c_77 => ?_)
          refine lv_iconst (v := 0) hx hb dX4_open_80 (by decide) ?_
          have hq : f_X4_open mai mtm mst msm mdb mis p0 = (0, 1, mai, mtm) := (by rw [f_X4_open, if_neg c_4, if_neg c_11, if_neg c_23, if_pos c_54])
          exact W.iret (v := 0) hx hb hr (fun t ht _ => ⟨by rw [hq], by rw [hq, ht]; exact hP, hS.F ht⟩) hS.2.2 dX4_open_81
      · refine lv_aload_n hx hb dX4_open_26 rfl (lv_at hl 0 rfl) ?_
        refine va_get (D := G.1) (ci := 4) (v := .int mst) (C := RX4) (T := TX4) (N := 19) hx hb hts iw_X4_open_RX4 hown hE.1 hP 0 rfl rfl 10 (by decide) (hts (.fieldLink RX4 92 "RackrailModel" "isStalled" "Z") (by decide +kernel)) (fun _ h9 => h9) rfl dX4_open_27 ?_
        refine lv_if_ne (tgt := 40) hx hb dX4_open_30 (by decide) (fun c_30 => ?_) (fun c_30 => ?_)
        · refine lv_iconst (v := 1) hx hb dX4_open_40 (by decide) ?_
          refine lv_goto (tgt := 45) hx hb dX4_open_41 (by decide) ?_
          refine lv_istore_n (lv' := [(2, .int 1), (0, .ref (b 0)), (1, .int p0)]) hx hb dX4_open_45 rfl hl (by decide) rfl (fun ls hl => ?_)
          refine lv_aload_n hx hb dX4_open_46 rfl (lv_at hl 1 rfl) ?_
          refine lv_iload_n hx hb dX4_open_47 rfl (lv_at hl 2 rfl) ?_
          refine lv_iconst (v := 0) hx hb dX4_open_48 (by decide) ?_
          refine lv_bipush (v := 6) hx hb dX4_open_49 (by decide) ?_
          refine k_p (va_runS (As := [.int p0, .int 0, .int 6]) (rest := [.ref (b 0)]) ⟨hx, hb, hml, hown, hts⟩ (c_X4_in l G s.heap.size p0 0 6) (va_cwS 3 hts gX4_open_X4_in rfl rfl rfl ⟨by decide +kernel, by decide +kernel, by decide +kernel⟩ ⟨Nat.le_of_ble_eq_true rfl, Nat.le_of_ble_eq_true rfl⟩) ⟨GP.blind, GP.go (wc := []) hE hZ hP hD hS hA [] rfl (by decide) [.int p0, .int 0, .int 6]⟩ rfl rfl hl.1 rfl (lv_room (Nat.le_of_ble_eq_true rfl)) dX4_open_51 ⟨Nat.le_of_ble_eq_true rfl, Nat.le_of_ble_eq_true rfl⟩) ?_
          refine lv_if_ne (tgt := 61) hx hb dX4_open_54 (by decide) (fun c_54 => ?_) (fun c_54 => ?_)
          · refine lv_iload_n hx hb dX4_open_61 rfl (lv_at hl 0 rfl) ?_
            refine lv_if_eq (tgt := 69) hx hb dX4_open_62 (by decide) (fun c_62 => absurd c_62 (by decide)) (fun c_62 => ?_)
            refine lv_iconst (v := 2) hx hb dX4_open_65 (by decide) ?_
            refine lv_goto (tgt := 70) hx hb dX4_open_66 (by decide) ?_
            refine va_put (D := G.1) (ci := 4) (v := .int 2) (ty := .int) (C := RX4) (T := TX4) (N := 19) hx hb hts iw_X4_open_RX4 tyX4 tyX4_ok nmX4 hown hE.1 hP hD hS 0 rfl rfl 0 (by decide) (hts (.fieldLink RX4 41 "RackrailModel" "thrown" "I") (by decide +kernel)) (fun _ h9 => h9) rfl (by decide +kernel) rfl rfl (Nat.le_of_ble_eq_true rfl) dX4_open_70 (fun H locs hP hD hS => ?_)
            have hP : va_P G.1 vwCl [wcM b 2 mck mbn mai mtm mst msm mon mlt, wcZ G (b 6) 7 mdb, wcZ G (b 7) 4 mis] H := hP
            have hD : va_D _ [wcM b 2 mck mbn mai mtm mst msm mon mlt, wcZ G (b 6) 7 mdb, wcZ G (b 7) 4 mis] := hD
            refine lv_aload_n hx hb dX4_open_73 rfl (lv_at hl 1 rfl) ?_
            refine va_get (D := G.1) (ci := 4) (v := .int 2) (C := RX4) (T := TX4) (N := 19) hx hb hts iw_X4_open_RX4 hown hE.1 hP 0 rfl rfl 0 (by decide) (hts (.fieldLink RX4 41 "RackrailModel" "thrown" "I") (by decide +kernel)) (fun _ h9 => h9) rfl dX4_open_74 ?_
            refine lv_if_le (tgt := 82) hx hb dX4_open_77 (by decide) (fun c_77 => absurd c_77 (by decide)) (fun c_77 => ?_)
            refine lv_iconst (v := 0) hx hb dX4_open_80 (by decide) ?_
            have hq : f_X4_open mai mtm mst msm mdb mis p0 = (0, 2, mai, mtm) := (by rw [f_X4_open, if_neg c_4, if_neg c_11, if_pos c_23, if_neg c_30, if_neg c_54])
            exact W.iret (v := 0) hx hb hr (fun t ht _ => ⟨by rw [hq], by rw [hq, ht]; exact hP, hS.F ht⟩) hS.2.2 dX4_open_81
          · refine lv_iconst (v := 1) hx hb dX4_open_57 (by decide) ?_
            refine lv_goto (tgt := 70) hx hb dX4_open_58 (by decide) ?_
            refine va_put (D := G.1) (ci := 4) (v := .int 1) (ty := .int) (C := RX4) (T := TX4) (N := 19) hx hb hts iw_X4_open_RX4 tyX4 tyX4_ok nmX4 hown hE.1 hP hD hS 0 rfl rfl 0 (by decide) (hts (.fieldLink RX4 41 "RackrailModel" "thrown" "I") (by decide +kernel)) (fun _ h9 => h9) rfl (by decide +kernel) rfl rfl (Nat.le_of_ble_eq_true rfl) dX4_open_70 (fun H locs hP hD hS => ?_)
            have hP : va_P G.1 vwCl [wcM b 1 mck mbn mai mtm mst msm mon mlt, wcZ G (b 6) 7 mdb, wcZ G (b 7) 4 mis] H := hP
            have hD : va_D _ [wcM b 1 mck mbn mai mtm mst msm mon mlt, wcZ G (b 6) 7 mdb, wcZ G (b 7) 4 mis] := hD
            refine lv_aload_n hx hb dX4_open_73 rfl (lv_at hl 1 rfl) ?_
            refine va_get (D := G.1) (ci := 4) (v := .int 1) (C := RX4) (T := TX4) (N := 19) hx hb hts iw_X4_open_RX4 hown hE.1 hP 0 rfl rfl 0 (by decide) (hts (.fieldLink RX4 41 "RackrailModel" "thrown" "I") (by decide +kernel)) (fun _ h9 => h9) rfl dX4_open_74 ?_
            refine lv_if_le (tgt := 82) hx hb dX4_open_77 (by decide) (fun c_77 => absurd c_77 (by decide)) (fun c_77 => ?_)
            refine lv_iconst (v := 0) hx hb dX4_open_80 (by decide) ?_
            have hq : f_X4_open mai mtm mst msm mdb mis p0 = (0, 1, mai, mtm) := (by rw [f_X4_open, if_neg c_4, if_neg c_11, if_pos c_23, if_neg c_30, if_pos c_54])
            exact W.iret (v := 0) hx hb hr (fun t ht _ => ⟨by rw [hq], by rw [hq, ht]; exact hP, hS.F ht⟩) hS.2.2 dX4_open_81
        · refine lv_aload_n hx hb dX4_open_33 rfl (lv_at hl 0 rfl) ?_
          refine va_get (D := G.1) (ci := 4) (v := .int msm) (C := RX4) (T := TX4) (N := 19) hx hb hts iw_X4_open_RX4 hown hE.1 hP 0 rfl rfl 11 (by decide) (hts (.fieldLink RX4 96 "RackrailModel" "isSmoke" "Z") (by decide +kernel)) (fun _ h9 => h9) rfl dX4_open_34 ?_
          refine lv_if_eq (tgt := 44) hx hb dX4_open_37 (by decide) (fun c_37 => ?_) (fun c_37 => ?_)
          · refine lv_iconst (v := 0) hx hb dX4_open_44 (by decide) ?_
            refine lv_istore_n (lv' := [(2, .int 0), (0, .ref (b 0)), (1, .int p0)]) hx hb dX4_open_45 rfl hl (by decide) rfl (fun ls hl => ?_)
            refine lv_aload_n hx hb dX4_open_46 rfl (lv_at hl 1 rfl) ?_
            refine lv_iload_n hx hb dX4_open_47 rfl (lv_at hl 2 rfl) ?_
            refine lv_iconst (v := 0) hx hb dX4_open_48 (by decide) ?_
            refine lv_bipush (v := 6) hx hb dX4_open_49 (by decide) ?_
            refine k_p (va_runS (As := [.int p0, .int 0, .int 6]) (rest := [.ref (b 0)]) ⟨hx, hb, hml, hown, hts⟩ (c_X4_in l G s.heap.size p0 0 6) (va_cwS 3 hts gX4_open_X4_in rfl rfl rfl ⟨by decide +kernel, by decide +kernel, by decide +kernel⟩ ⟨Nat.le_of_ble_eq_true rfl, Nat.le_of_ble_eq_true rfl⟩) ⟨GP.blind, GP.go (wc := []) hE hZ hP hD hS hA [] rfl (by decide) [.int p0, .int 0, .int 6]⟩ rfl rfl hl.1 rfl (lv_room (Nat.le_of_ble_eq_true rfl)) dX4_open_51 ⟨Nat.le_of_ble_eq_true rfl, Nat.le_of_ble_eq_true rfl⟩) ?_
            refine lv_if_ne (tgt := 61) hx hb dX4_open_54 (by decide) (fun c_54 => ?_) (fun c_54 => ?_)
            · refine lv_iload_n hx hb dX4_open_61 rfl (lv_at hl 0 rfl) ?_
              refine lv_if_eq (tgt := 69) hx hb dX4_open_62 (by decide) (fun c_62 => ?_) (fun c_62 => absurd (by decide) c_62)
              refine lv_iconst (v := 0) hx hb dX4_open_69 (by decide) ?_
              refine va_put (D := G.1) (ci := 4) (v := .int 0) (ty := .int) (C := RX4) (T := TX4) (N := 19) hx hb hts iw_X4_open_RX4 tyX4 tyX4_ok nmX4 hown hE.1 hP hD hS 0 rfl rfl 0 (by decide) (hts (.fieldLink RX4 41 "RackrailModel" "thrown" "I") (by decide +kernel)) (fun _ h9 => h9) rfl (by decide +kernel) rfl rfl (Nat.le_of_ble_eq_true rfl) dX4_open_70 (fun H locs hP hD hS => ?_)
              have hP : va_P G.1 vwCl [wcM b 0 mck mbn mai mtm mst msm mon mlt, wcZ G (b 6) 7 mdb, wcZ G (b 7) 4 mis] H := hP
              have hD : va_D _ [wcM b 0 mck mbn mai mtm mst msm mon mlt, wcZ G (b 6) 7 mdb, wcZ G (b 7) 4 mis] := hD
              refine lv_aload_n hx hb dX4_open_73 rfl (lv_at hl 1 rfl) ?_
              refine va_get (D := G.1) (ci := 4) (v := .int 0) (C := RX4) (T := TX4) (N := 19) hx hb hts iw_X4_open_RX4 hown hE.1 hP 0 rfl rfl 0 (by decide) (hts (.fieldLink RX4 41 "RackrailModel" "thrown" "I") (by decide +kernel)) (fun _ h9 => h9) rfl dX4_open_74 ?_
              refine lv_if_le (tgt := 82) hx hb dX4_open_77 (by decide) (fun c_77 => ?_) (fun c_77 => absurd (by decide) c_77)
              refine lv_aload_n hx hb dX4_open_82 rfl (lv_at hl 1 rfl) ?_
              refine lv_iload_n hx hb dX4_open_83 rfl (lv_at hl 2 rfl) ?_
              refine lv_aload_n hx hb dX4_open_84 rfl (lv_at hl 1 rfl) ?_
              refine va_get (D := G.1) (ci := 4) (v := .int mai) (C := RX4) (T := TX4) (N := 19) hx hb hts iw_X4_open_RX4 hown hE.1 hP 0 rfl rfl 8 (by decide) (hts (.fieldLink RX4 89 "RackrailModel" "aisle" "I") (by decide +kernel)) (fun _ h9 => h9) rfl dX4_open_85 ?_
              refine lv_icmp_le (tgt := 100) hx hb dX4_open_88 (by decide) (fun c_88 => ?_) (fun c_88 => ?_)
              · refine lv_aload_n hx hb dX4_open_100 rfl (lv_at hl 1 rfl) ?_
                refine va_get (D := G.1) (ci := 4) (v := .int mai) (C := RX4) (T := TX4) (N := 19) hx hb hts iw_X4_open_RX4 hown hE.1 hP 0 rfl rfl 8 (by decide) (hts (.fieldLink RX4 89 "RackrailModel" "aisle" "I") (by decide +kernel)) (fun _ h9 => h9) rfl dX4_open_101 ?_
                refine lv_iload_n hx hb dX4_open_104 rfl (lv_at hl 2 rfl) ?_
                refine lv_isub hx hb dX4_open_105 ?_
                refine va_put (D := G.1) (ci := 4) (v := .int (mai - p0)) (ty := .int) (C := RX4) (T := TX4) (N := 19) hx hb hts iw_X4_open_RX4 tyX4 tyX4_ok nmX4 hown hE.1 hP hD hS 0 rfl rfl 9 (by decide) (hts (.fieldLink RX4 86 "RackrailModel" "toMove" "I") (by decide +kernel)) (fun _ h9 => h9) rfl (by decide +kernel) rfl rfl (Nat.le_of_ble_eq_true rfl) dX4_open_106 (fun H locs hP hD hS => ?_)
                have hP : va_P G.1 vwCl [wcM b 0 mck mbn mai (mai - p0) mst msm mon mlt, wcZ G (b 6) 7 mdb, wcZ G (b 7) 4 mis] H := hP
                have hD : va_D _ [wcM b 0 mck mbn mai (mai - p0) mst msm mon mlt, wcZ G (b 6) 7 mdb, wcZ G (b 7) 4 mis] := hD
                refine lv_aload_n hx hb dX4_open_109 rfl (lv_at hl 1 rfl) ?_
                refine lv_iload_n hx hb dX4_open_110 rfl (lv_at hl 2 rfl) ?_
                refine va_put (D := G.1) (ci := 4) (v := .int p0) (ty := .int) (C := RX4) (T := TX4) (N := 19) hx hb hts iw_X4_open_RX4 tyX4 tyX4_ok nmX4 hown hE.1 hP hD hS 0 rfl rfl 8 (by decide) (hts (.fieldLink RX4 89 "RackrailModel" "aisle" "I") (by decide +kernel)) (fun _ h9 => h9) rfl (by decide +kernel) rfl rfl (Nat.le_of_ble_eq_true rfl) dX4_open_111 (fun H locs hP hD hS => ?_)
                have hP : va_P G.1 vwCl [wcM b 0 mck mbn p0 (mai - p0) mst msm mon mlt, wcZ G (b 6) 7 mdb, wcZ G (b 7) 4 mis] H := hP
                have hD : va_D _ [wcM b 0 mck mbn p0 (mai - p0) mst msm mon mlt, wcZ G (b 6) 7 mdb, wcZ G (b 7) 4 mis] := hD
                refine lv_aload_n hx hb dX4_open_114 rfl (lv_at hl 1 rfl) ?_
                refine va_get (D := G.1) (ci := 4) (v := .int (mai - p0)) (C := RX4) (T := TX4) (N := 19) hx hb hts iw_X4_open_RX4 hown hE.1 hP 0 rfl rfl 9 (by decide) (hts (.fieldLink RX4 86 "RackrailModel" "toMove" "I") (by decide +kernel)) (fun _ h9 => h9) rfl dX4_open_115 ?_
                have hq : f_X4_open mai mtm mst msm mdb mis p0 = (mai - p0, 0, p0, mai - p0) := (by rw [f_X4_open, if_neg c_4, if_neg c_11, if_pos c_23, if_pos c_30, if_pos c_37, if_neg c_54, if_pos c_88])
                exact W.iret (v := mai - p0) hx hb hr (fun t ht _ => ⟨by rw [hq], by rw [hq, ht]; exact hP, hS.F ht⟩) hS.2.2 dX4_open_118
              · refine lv_iload_n hx hb dX4_open_91 rfl (lv_at hl 2 rfl) ?_
                refine lv_aload_n hx hb dX4_open_92 rfl (lv_at hl 1 rfl) ?_
                refine va_get (D := G.1) (ci := 4) (v := .int mai) (C := RX4) (T := TX4) (N := 19) hx hb hts iw_X4_open_RX4 hown hE.1 hP 0 rfl rfl 8 (by decide) (hts (.fieldLink RX4 89 "RackrailModel" "aisle" "I") (by decide +kernel)) (fun _ h9 => h9) rfl dX4_open_93 ?_
                refine lv_isub hx hb dX4_open_96 ?_
                refine lv_goto (tgt := 106) hx hb dX4_open_97 (by decide) ?_
                refine va_put (D := G.1) (ci := 4) (v := .int (p0 - mai)) (ty := .int) (C := RX4) (T := TX4) (N := 19) hx hb hts iw_X4_open_RX4 tyX4 tyX4_ok nmX4 hown hE.1 hP hD hS 0 rfl rfl 9 (by decide) (hts (.fieldLink RX4 86 "RackrailModel" "toMove" "I") (by decide +kernel)) (fun _ h9 => h9) rfl (by decide +kernel) rfl rfl (Nat.le_of_ble_eq_true rfl) dX4_open_106 (fun H locs hP hD hS => ?_)
                have hP : va_P G.1 vwCl [wcM b 0 mck mbn mai (p0 - mai) mst msm mon mlt, wcZ G (b 6) 7 mdb, wcZ G (b 7) 4 mis] H := hP
                have hD : va_D _ [wcM b 0 mck mbn mai (p0 - mai) mst msm mon mlt, wcZ G (b 6) 7 mdb, wcZ G (b 7) 4 mis] := hD
                refine lv_aload_n hx hb dX4_open_109 rfl (lv_at hl 1 rfl) ?_
                refine lv_iload_n hx hb dX4_open_110 rfl (lv_at hl 2 rfl) ?_
                refine va_put (D := G.1) (ci := 4) (v := .int p0) (ty := .int) (C := RX4) (T := TX4) (N := 19) hx hb hts iw_X4_open_RX4 tyX4 tyX4_ok nmX4 hown hE.1 hP hD hS 0 rfl rfl 8 (by decide) (hts (.fieldLink RX4 89 "RackrailModel" "aisle" "I") (by decide +kernel)) (fun _ h9 => h9) rfl (by decide +kernel) rfl rfl (Nat.le_of_ble_eq_true rfl) dX4_open_111 (fun H locs hP hD hS => ?_)
                have hP : va_P G.1 vwCl [wcM b 0 mck mbn p0 (p0 - mai) mst msm mon mlt, wcZ G (b 6) 7 mdb, wcZ G (b 7) 4 mis] H := hP
                have hD : va_D _ [wcM b 0 mck mbn p0 (p0 - mai) mst msm mon mlt, wcZ G (b 6) 7 mdb, wcZ G (b 7) 4 mis] := hD
                refine lv_aload_n hx hb dX4_open_114 rfl (lv_at hl 1 rfl) ?_
                refine va_get (D := G.1) (ci := 4) (v := .int (p0 - mai)) (C := RX4) (T := TX4) (N := 19) hx hb hts iw_X4_open_RX4 hown hE.1 hP 0 rfl rfl 9 (by decide) (hts (.fieldLink RX4 86 "RackrailModel" "toMove" "I") (by decide +kernel)) (fun _ h9 => h9) rfl dX4_open_115 ?_
                have hq : f_X4_open mai mtm mst msm mdb mis p0 = (p0 - mai, 0, p0, p0 - mai) := (by rw [f_X4_open, if_neg c_4, if_neg c_11, if_pos c_23, if_pos c_30, if_pos c_37, if_neg c_54, if_neg c_88])
                exact W.iret (v := p0 - mai) hx hb hr (fun t ht _ => ⟨by rw [hq], by rw [hq, ht]; exact hP, hS.F ht⟩) hS.2.2 dX4_open_118
            · refine lv_iconst (v := 1) hx hb dX4_open_57 (by decide) ?_
              refine lv_goto (tgt := 70) hx hb dX4_open_58 (by decide) ?_
              refine va_put (D := G.1) (ci := 4) (v := .int 1) (ty := .int) (C := RX4) (T := TX4) (N := 19) hx hb hts iw_X4_open_RX4 tyX4 tyX4_ok nmX4 hown hE.1 hP hD hS 0 rfl rfl 0 (by decide) (hts (.fieldLink RX4 41 "RackrailModel" "thrown" "I") (by decide +kernel)) (fun _ h9 => h9) rfl (by decide +kernel) rfl rfl (Nat.le_of_ble_eq_true rfl) dX4_open_70 (fun H locs hP hD hS => ?_)
              have hP : va_P G.1 vwCl [wcM b 1 mck mbn mai mtm mst msm mon mlt, wcZ G (b 6) 7 mdb, wcZ G (b 7) 4 mis] H := hP
              have hD : va_D _ [wcM b 1 mck mbn mai mtm mst msm mon mlt, wcZ G (b 6) 7 mdb, wcZ G (b 7) 4 mis] := hD
              refine lv_aload_n hx hb dX4_open_73 rfl (lv_at hl 1 rfl) ?_
              refine va_get (D := G.1) (ci := 4) (v := .int 1) (C := RX4) (T := TX4) (N := 19) hx hb hts iw_X4_open_RX4 hown hE.1 hP 0 rfl rfl 0 (by decide) (hts (.fieldLink RX4 41 "RackrailModel" "thrown" "I") (by decide +kernel)) (fun _ h9 => h9) rfl dX4_open_74 ?_
              refine lv_if_le (tgt := 82) hx hb dX4_open_77 (by decide) (fun c_77 => absurd c_77 (by decide)) (fun c_77 => ?_)
              refine lv_iconst (v := 0) hx hb dX4_open_80 (by decide) ?_
              have hq : f_X4_open mai mtm mst msm mdb mis p0 = (0, 1, mai, mtm) := (by rw [f_X4_open, if_neg c_4, if_neg c_11, if_pos c_23, if_pos c_30, if_pos c_37, if_pos c_54])
              exact W.iret (v := 0) hx hb hr (fun t ht _ => ⟨by rw [hq], by rw [hq, ht]; exact hP, hS.F ht⟩) hS.2.2 dX4_open_81
          · refine lv_iconst (v := 1) hx hb dX4_open_40 (by decide) ?_
            refine lv_goto (tgt := 45) hx hb dX4_open_41 (by decide) ?_
            refine lv_istore_n (lv' := [(2, .int 1), (0, .ref (b 0)), (1, .int p0)]) hx hb dX4_open_45 rfl hl (by decide) rfl (fun ls hl => ?_)
            refine lv_aload_n hx hb dX4_open_46 rfl (lv_at hl 1 rfl) ?_
            refine lv_iload_n hx hb dX4_open_47 rfl (lv_at hl 2 rfl) ?_
            refine lv_iconst (v := 0) hx hb dX4_open_48 (by decide) ?_
            refine lv_bipush (v := 6) hx hb dX4_open_49 (by decide) ?_
            refine k_p (va_runS (As := [.int p0, .int 0, .int 6]) (rest := [.ref (b 0)]) ⟨hx, hb, hml, hown, hts⟩ (c_X4_in l G s.heap.size p0 0 6) (va_cwS 3 hts gX4_open_X4_in rfl rfl rfl ⟨by decide +kernel, by decide +kernel, by decide +kernel⟩ ⟨Nat.le_of_ble_eq_true rfl, Nat.le_of_ble_eq_true rfl⟩) ⟨GP.blind, GP.go (wc := []) hE hZ hP hD hS hA [] rfl (by decide) [.int p0, .int 0, .int 6]⟩ rfl rfl hl.1 rfl (lv_room (Nat.le_of_ble_eq_true rfl)) dX4_open_51 ⟨Nat.le_of_ble_eq_true rfl, Nat.le_of_ble_eq_true rfl⟩) ?_
            refine lv_if_ne (tgt := 61) hx hb dX4_open_54 (by decide) (fun c_54 => ?_) (fun c_54 => ?_)
            · refine lv_iload_n hx hb dX4_open_61 rfl (lv_at hl 0 rfl) ?_
              refine lv_if_eq (tgt := 69) hx hb dX4_open_62 (by decide) (fun c_62 => absurd c_62 (by decide)) (fun c_62 => ?_)
              refine lv_iconst (v := 2) hx hb dX4_open_65 (by decide) ?_
              refine lv_goto (tgt := 70) hx hb dX4_open_66 (by decide) ?_
              refine va_put (D := G.1) (ci := 4) (v := .int 2) (ty := .int) (C := RX4) (T := TX4) (N := 19) hx hb hts iw_X4_open_RX4 tyX4 tyX4_ok nmX4 hown hE.1 hP hD hS 0 rfl rfl 0 (by decide) (hts (.fieldLink RX4 41 "RackrailModel" "thrown" "I") (by decide +kernel)) (fun _ h9 => h9) rfl (by decide +kernel) rfl rfl (Nat.le_of_ble_eq_true rfl) dX4_open_70 (fun H locs hP hD hS => ?_)
              have hP : va_P G.1 vwCl [wcM b 2 mck mbn mai mtm mst msm mon mlt, wcZ G (b 6) 7 mdb, wcZ G (b 7) 4 mis] H := hP
              have hD : va_D _ [wcM b 2 mck mbn mai mtm mst msm mon mlt, wcZ G (b 6) 7 mdb, wcZ G (b 7) 4 mis] := hD
              refine lv_aload_n hx hb dX4_open_73 rfl (lv_at hl 1 rfl) ?_
              refine va_get (D := G.1) (ci := 4) (v := .int 2) (C := RX4) (T := TX4) (N := 19) hx hb hts iw_X4_open_RX4 hown hE.1 hP 0 rfl rfl 0 (by decide) (hts (.fieldLink RX4 41 "RackrailModel" "thrown" "I") (by decide +kernel)) (fun _ h9 => h9) rfl dX4_open_74 ?_
              refine lv_if_le (tgt := 82) hx hb dX4_open_77 (by decide) (fun c_77 => absurd c_77 (by decide)) (fun c_77 => ?_)
              refine lv_iconst (v := 0) hx hb dX4_open_80 (by decide) ?_
              have hq : f_X4_open mai mtm mst msm mdb mis p0 = (0, 2, mai, mtm) := (by rw [f_X4_open, if_neg c_4, if_neg c_11, if_pos c_23, if_pos c_30, if_neg c_37, if_neg c_54])
              exact W.iret (v := 0) hx hb hr (fun t ht _ => ⟨by rw [hq], by rw [hq, ht]; exact hP, hS.F ht⟩) hS.2.2 dX4_open_81
            · refine lv_iconst (v := 1) hx hb dX4_open_57 (by decide) ?_
              refine lv_goto (tgt := 70) hx hb dX4_open_58 (by decide) ?_
              refine va_put (D := G.1) (ci := 4) (v := .int 1) (ty := .int) (C := RX4) (T := TX4) (N := 19) hx hb hts iw_X4_open_RX4 tyX4 tyX4_ok nmX4 hown hE.1 hP hD hS 0 rfl rfl 0 (by decide) (hts (.fieldLink RX4 41 "RackrailModel" "thrown" "I") (by decide +kernel)) (fun _ h9 => h9) rfl (by decide +kernel) rfl rfl (Nat.le_of_ble_eq_true rfl) dX4_open_70 (fun H locs hP hD hS => ?_)
              have hP : va_P G.1 vwCl [wcM b 1 mck mbn mai mtm mst msm mon mlt, wcZ G (b 6) 7 mdb, wcZ G (b 7) 4 mis] H := hP
              have hD : va_D _ [wcM b 1 mck mbn mai mtm mst msm mon mlt, wcZ G (b 6) 7 mdb, wcZ G (b 7) 4 mis] := hD
              refine lv_aload_n hx hb dX4_open_73 rfl (lv_at hl 1 rfl) ?_
              refine va_get (D := G.1) (ci := 4) (v := .int 1) (C := RX4) (T := TX4) (N := 19) hx hb hts iw_X4_open_RX4 hown hE.1 hP 0 rfl rfl 0 (by decide) (hts (.fieldLink RX4 41 "RackrailModel" "thrown" "I") (by decide +kernel)) (fun _ h9 => h9) rfl dX4_open_74 ?_
              refine lv_if_le (tgt := 82) hx hb dX4_open_77 (by decide) (fun c_77 => absurd c_77 (by decide)) (fun c_77 => ?_)
              refine lv_iconst (v := 0) hx hb dX4_open_80 (by decide) ?_
              have hq : f_X4_open mai mtm mst msm mdb mis p0 = (0, 1, mai, mtm) := (by rw [f_X4_open, if_neg c_4, if_neg c_11, if_pos c_23, if_pos c_30, if_neg c_37, if_pos c_54])
              exact W.iret (v := 0) hx hb hr (fun t ht _ => ⟨by rw [hq], by rw [hq, ht]; exact hP, hS.F ht⟩) hS.2.2 dX4_open_81

/-! X4_opened -/
def f_X4_opened (mai : Int32) (mtm : Int32) : Int32 × Int32 :=
  if mtm ≤ 0 then (mai, 0)
    else ((-1), 0)
theorem iw_X4_opened_RX4 : ∀ w ∈ u_ws RX4 TX4 19, w ∈ wsX4_opened := by decide +kernel
set_option maxHeartbeats 4000000 in
set_option maxRecDepth 100000 in
theorem c_X4_opened (l : Launch) (G : GT) (b : Nat → Nat) (sz : Nat) (mth : Int32) (mck : Int32) (mbn : Int32) (mai : Int32) (mtm : Int32) (mst : Int32) (msm : Int32) (mon : Int32) (mlt : Int32) : Met l yX4_opened wsX4_opened ({ frames := 0, cells := 0, slots := 0, locals := 0 }) (GP G [.ref (b 0)] [wcM b mth mck mbn mai mtm mst msm mon mlt] sz) (MQo G (.returned (some (.int ((f_X4_opened mai mtm).1)))) [wcM b ((f_X4_opened mai mtm).2) mck mbn mai mtm mst msm mon mlt] (va_A [wcM b mth mck mbn mai mtm mst msm mon mlt] sz)) 0 0 (va_A [wcM b mth mck mbn mai mtm mst msm mon mlt] sz) := by
  refine bodyM (cc := cX4_opened) (maxL := 1) (ret := (some .int)) (by decide) rfl (Nat.le_of_ble_eq_true rfl) ?_
  intro p e s m below meth c ls C
  obtain ⟨hx, hb, hr, hts, hown, hlocks, hml, hsz, hP, hE, hD, hZ, hA, hS, hl⟩ := C
  subst hsz
  have hl : lv_has ls 1 [(0, .ref (b 0))] := hl
  refine lv_aload_n hx hb dX4_opened_0 rfl (lv_at hl 0 rfl) ?_
  refine lv_iconst (v := 0) hx hb dX4_opened_1 (by decide) ?_
  refine va_put (D := G.1) (ci := 4) (v := .int 0) (ty := .int) (C := RX4) (T := TX4) (N := 19) hx hb hts iw_X4_opened_RX4 tyX4 tyX4_ok nmX4 hown hE.1 hP hD hS 0 rfl rfl 0 (by decide) (hts (.fieldLink RX4 41 "RackrailModel" "thrown" "I") (by decide +kernel)) (fun _ h9 => h9) rfl (by decide +kernel) rfl rfl (Nat.le_of_ble_eq_true rfl) dX4_opened_2 (fun H locs hP hD hS => ?_)
  have hP : va_P G.1 vwCl [wcM b 0 mck mbn mai mtm mst msm mon mlt] H := hP
  have hD : va_D _ [wcM b 0 mck mbn mai mtm mst msm mon mlt] := hD
  refine lv_aload_n hx hb dX4_opened_5 rfl (lv_at hl 0 rfl) ?_
  refine va_get (D := G.1) (ci := 4) (v := .int mtm) (C := RX4) (T := TX4) (N := 19) hx hb hts iw_X4_opened_RX4 hown hE.1 hP 0 rfl rfl 9 (by decide) (hts (.fieldLink RX4 86 "RackrailModel" "toMove" "I") (by decide +kernel)) (fun _ h9 => h9) rfl dX4_opened_6 ?_
  refine lv_if_le (tgt := 16) hx hb dX4_opened_9 (by decide) (fun c_9 => ?_) (fun c_9 => ?_)
  · refine lv_aload_n hx hb dX4_opened_16 rfl (lv_at hl 0 rfl) ?_
    refine va_get (D := G.1) (ci := 4) (v := .int mai) (C := RX4) (T := TX4) (N := 19) hx hb hts iw_X4_opened_RX4 hown hE.1 hP 0 rfl rfl 8 (by decide) (hts (.fieldLink RX4 89 "RackrailModel" "aisle" "I") (by decide +kernel)) (fun _ h9 => h9) rfl dX4_opened_17 ?_
    have hq : f_X4_opened mai mtm = (mai, 0) := (by rw [f_X4_opened, if_pos c_9])
    exact W.iret (v := mai) hx hb hr (fun t ht _ => ⟨by rw [hq], by rw [hq, ht]; exact hP, hS.F ht⟩) hS.2.2 dX4_opened_20
  · refine lv_iconst (v := (-1)) hx hb dX4_opened_12 (by decide) ?_
    refine lv_goto (tgt := 20) hx hb dX4_opened_13 (by decide) ?_
    have hq : f_X4_opened mai mtm = ((-1), 0) := (by rw [f_X4_opened, if_neg c_9])
    exact W.iret (v := (-1)) hx hb hr (fun t ht _ => ⟨by rw [hq], by rw [hq, ht]; exact hP, hS.F ht⟩) hS.2.2 dX4_opened_20

/-! X4_openedByMoves -/
def f_X4_openedByMoves (mai : Int32) (mtm : Int32) : Int32 × Int32 :=
  ((f_X4_opened mai mtm).1, (f_X4_opened mai mtm).2)
set_option maxHeartbeats 4000000 in
set_option maxRecDepth 100000 in
theorem c_X4_openedByMoves (l : Launch) (G : GT) (b : Nat → Nat) (sz : Nat) (mth : Int32) (mck : Int32) (mbn : Int32) (mai : Int32) (mtm : Int32) (mst : Int32) (msm : Int32) (mon : Int32) (mlt : Int32) : Met l yX4_openedByMoves wsX4_openedByMoves ({ frames := 1, cells := 0, slots := 0, locals := 20 }) (GP G [.ref (b 0)] [wcM b mth mck mbn mai mtm mst msm mon mlt] sz) (MQo G (.returned (some (.int ((f_X4_openedByMoves mai mtm).1)))) [wcM b ((f_X4_openedByMoves mai mtm).2) mck mbn mai mtm mst msm mon mlt] (va_A [wcM b mth mck mbn mai mtm mst msm mon mlt] sz)) 0 0 (va_A [wcM b mth mck mbn mai mtm mst msm mon mlt] sz) := by
  refine bodyM (cc := cX4_openedByMoves) (maxL := 1) (ret := (some .int)) (by decide) rfl (Nat.le_of_ble_eq_true rfl) ?_
  intro p e s m below meth c ls C
  obtain ⟨hx, hb, hr, hts, hown, hlocks, hml, hsz, hP, hE, hD, hZ, hA, hS, hl⟩ := C
  subst hsz
  have hl : lv_has ls 1 [(0, .ref (b 0))] := hl
  refine lv_aload_n hx hb dX4_openedByMoves_0 rfl (lv_at hl 0 rfl) ?_
  refine k_m (wc := [wcM b mth mck mbn mai mtm mst msm mon mlt]) (w1 := [wcM b ((f_X4_opened mai mtm).2) mck mbn mai mtm mst msm mon mlt]) (wn := [wcM b ((f_X4_opened mai mtm).2) mck mbn mai mtm mst msm mon mlt]) (va_runV (As := []) (rest := []) ⟨hx, hb, hml, hown, hts⟩ (c_X4_opened l G b s.heap.size mth mck mbn mai mtm mst msm mon mlt) (cwV 0 hts gX4_openedByMoves_X4_opened rfl rfl rfl ⟨rfl, by decide +kernel, by decide +kernel, by decide +kernel⟩ ⟨Nat.le_of_ble_eq_true rfl, Nat.le_of_ble_eq_true rfl⟩) ⟨GP.blind, va_recv hE.1 hP (ci := 4) (q0 := 0) rfl rfl, GP.go (wc := [wcM b mth mck mbn mai mtm mst msm mon mlt]) hE hZ hP hD hS hA [0] rfl (by decide) [.ref (b 0)]⟩ rfl rfl hl.1 rfl (lv_room (Nat.le_of_ble_eq_true rfl)) dX4_openedByMoves_1 ⟨Nat.le_of_ble_eq_true rfl, Nat.le_of_ble_eq_true rfl⟩) hP hD hS hA [0] rfl rfl rfl rfl (fun H locs hP hD hS => ?_)
  have hq : f_X4_openedByMoves mai mtm = ((f_X4_opened mai mtm).1, (f_X4_opened mai mtm).2) := (by rw [f_X4_openedByMoves])
  exact W.iret (v := (f_X4_opened mai mtm).1) hx hb hr (fun t ht _ => ⟨by rw [hq], by rw [hq, ht]; exact hP, hS.F ht⟩) hS.2.2 dX4_openedByMoves_4

/-! X4_goIn -/
def f_X4_goIn (mtm : Int32) (msm : Int32) (mis : Nat → Int32) (p0 : Int32) : Int32 × Int32 × (Nat → Int32) :=
  if (f_X4_isPerson p0) = 0 then (0, 1, mis)
    else if (mis p0.toNatClampNeg) = 0 then (if 0 < mtm then (0, 2, mis)
      else if msm = 0 then (f_X4_inside (upd mis p0.toNatClampNeg 1), 0, upd mis p0.toNatClampNeg 1)
      else (0, 2, mis))
    else (0, 2, mis)
theorem iw_X4_goIn_RX4 : ∀ w ∈ u_ws RX4 TX4 19, w ∈ wsX4_goIn := by decide +kernel
set_option maxHeartbeats 4000000 in
set_option maxRecDepth 100000 in
theorem c_X4_goIn (l : Launch) (G : GT) (b : Nat → Nat) (sz : Nat) (mth : Int32) (mck : Int32) (mbn : Int32) (mai : Int32) (mtm : Int32) (mst : Int32) (msm : Int32) (mon : Int32) (mlt : Int32) (mis : Nat → Int32) (p0 : Int32) : Met l yX4_goIn wsX4_goIn ({ frames := 2, cells := 0, slots := 0, locals := 42 }) (GP G [.ref (b 0), .int p0] [wcM b mth mck mbn mai mtm mst msm mon mlt, wcZ G (b 7) 4 mis] sz) (MQo G (.returned (some (.int ((f_X4_goIn mtm msm mis p0).1)))) [wcM b ((f_X4_goIn mtm msm mis p0).2.1) mck mbn mai mtm mst msm mon mlt, wcZ G (b 7) 4 ((f_X4_goIn mtm msm mis p0).2.2)] (va_A [wcM b mth mck mbn mai mtm mst msm mon mlt, wcZ G (b 7) 4 mis] sz)) 0 0 (va_A [wcM b mth mck mbn mai mtm mst msm mon mlt, wcZ G (b 7) 4 mis] sz) := by
  refine bodyM (cc := cX4_goIn) (maxL := 2) (ret := (some .int)) (by decide) rfl (Nat.le_of_ble_eq_true rfl) ?_
  intro p e s m below meth c ls C
  obtain ⟨hx, hb, hr, hts, hown, hlocks, hml, hsz, hP, hE, hD, hZ, hA, hS, hl⟩ := C
  subst hsz
  have hl : lv_has ls 2 [(0, .ref (b 0)), (1, .int p0)] := hl
  refine lv_aload_n hx hb dX4_goIn_0 rfl (lv_at hl 0 rfl) ?_
  refine lv_iload_n hx hb dX4_goIn_1 rfl (lv_at hl 1 rfl) ?_
  refine k_p (va_runS (As := [.int p0]) (rest := [.ref (b 0)]) ⟨hx, hb, hml, hown, hts⟩ (c_X4_isPerson l G s.heap.size p0) (va_cwS 1 hts gX4_goIn_X4_isPerson rfl rfl rfl ⟨by decide +kernel, by decide +kernel, by decide +kernel⟩ ⟨Nat.le_of_ble_eq_true rfl, Nat.le_of_ble_eq_true rfl⟩) ⟨GP.blind, GP.go (wc := []) hE hZ hP hD hS hA [] rfl (by decide) [.int p0]⟩ rfl rfl hl.1 rfl (lv_room (Nat.le_of_ble_eq_true rfl)) dX4_goIn_2 ⟨Nat.le_of_ble_eq_true rfl, Nat.le_of_ble_eq_true rfl⟩) ?_
  refine lv_if_ne (tgt := 12) hx hb dX4_goIn_5 (by decide) (fun c_5 => ?_) (fun c_5 => ?_)
  · refine lv_aload_n hx hb dX4_goIn_12 rfl (lv_at hl 0 rfl) ?_
    refine va_get (D := G.1) (ci := 4) (v := .ref (b 7)) (C := RX4) (T := TX4) (N := 19) hx hb hts iw_X4_goIn_RX4 hown hE.1 hP 0 rfl rfl 13 (by decide) (hts (.fieldLink RX4 29 "RackrailModel" "isInside" "[Z") (by decide +kernel)) (fun _ h9 => h9) rfl dX4_goIn_13 ?_
    refine lv_iload_n hx hb dX4_goIn_16 rfl (lv_at hl 1 rfl) ?_
    refine va_zald hx hb hE.1 hP 1 1 rfl rfl (in_pers c_5) dX4_goIn_17 ?_
    refine lv_if_ne (tgt := 35) hx hb dX4_goIn_18 (by decide) (fun c_18 => ?_) (fun c_18 => ?_)
    · refine lv_iconst (v := 2) hx hb dX4_goIn_35 (by decide) ?_
      refine lv_goto (tgt := 40) hx hb dX4_goIn_36 (by decide) ?_
      refine va_put (D := G.1) (ci := 4) (v := .int 2) (ty := .int) (C := RX4) (T := TX4) (N := 19) hx hb hts iw_X4_goIn_RX4 tyX4 tyX4_ok nmX4 hown hE.1 hP hD hS 0 rfl rfl 0 (by decide) (hts (.fieldLink RX4 41 "RackrailModel" "thrown" "I") (by decide +kernel)) (fun _ h9 => h9) rfl (by decide +kernel) rfl rfl (Nat.le_of_ble_eq_true rfl) dX4_goIn_40 (fun H locs hP hD hS => ?_)
      have hP : va_P G.1 vwCl [wcM b 2 mck mbn mai mtm mst msm mon mlt, wcZ G (b 7) 4 mis] H := hP
      have hD : va_D _ [wcM b 2 mck mbn mai mtm mst msm mon mlt, wcZ G (b 7) 4 mis] := hD
      refine lv_aload_n hx hb dX4_goIn_43 rfl (lv_at hl 0 rfl) ?_
      refine va_get (D := G.1) (ci := 4) (v := .int 2) (C := RX4) (T := TX4) (N := 19) hx hb hts iw_X4_goIn_RX4 hown hE.1 hP 0 rfl rfl 0 (by decide) (hts (.fieldLink RX4 41 "RackrailModel" "thrown" "I") (by decide +kernel)) (fun _ h9 => h9) rfl dX4_goIn_44 ?_
      refine lv_if_le (tgt := 52) hx hb dX4_goIn_47 (by decide) (fun c_47 => absurd c_47 (by decide)) (fun c_47 => ?_)
      refine lv_iconst (v := 0) hx hb dX4_goIn_50 (by decide) ?_
      have hq : f_X4_goIn mtm msm mis p0 = (0, 2, mis) := (by rw [f_X4_goIn, if_neg c_5, if_neg c_18])
      exact W.iret (v := 0) hx hb hr (fun t ht _ => ⟨by rw [hq], by rw [hq, ht]; exact hP, hS.F ht⟩) hS.2.2 dX4_goIn_51
    · refine lv_aload_n hx hb dX4_goIn_21 rfl (lv_at hl 0 rfl) ?_
      refine va_get (D := G.1) (ci := 4) (v := .int mtm) (C := RX4) (T := TX4) (N := 19) hx hb hts iw_X4_goIn_RX4 hown hE.1 hP 0 rfl rfl 9 (by decide) (hts (.fieldLink RX4 86 "RackrailModel" "toMove" "I") (by decide +kernel)) (fun _ h9 => h9) rfl dX4_goIn_22 ?_
      refine lv_if_gt (tgt := 35) hx hb dX4_goIn_25 (by decide) (fun c_25 => ?_) (fun c_25 => ?_)
      · refine lv_iconst (v := 2) hx hb dX4_goIn_35 (by decide) ?_
        refine lv_goto (tgt := 40) hx hb dX4_goIn_36 (by decide) ?_
        refine va_put (D := G.1) (ci := 4) (v := .int 2) (ty := .int) (C := RX4) (T := TX4) (N := 19) hx hb hts iw_X4_goIn_RX4 tyX4 tyX4_ok nmX4 hown hE.1 hP hD hS 0 rfl rfl 0 (by decide) (hts (.fieldLink RX4 41 "RackrailModel" "thrown" "I") (by decide +kernel)) (fun _ h9 => h9) rfl (by decide +kernel) rfl rfl (Nat.le_of_ble_eq_true rfl) dX4_goIn_40 (fun H locs hP hD hS => ?_)
        have hP : va_P G.1 vwCl [wcM b 2 mck mbn mai mtm mst msm mon mlt, wcZ G (b 7) 4 mis] H := hP
        have hD : va_D _ [wcM b 2 mck mbn mai mtm mst msm mon mlt, wcZ G (b 7) 4 mis] := hD
        refine lv_aload_n hx hb dX4_goIn_43 rfl (lv_at hl 0 rfl) ?_
        refine va_get (D := G.1) (ci := 4) (v := .int 2) (C := RX4) (T := TX4) (N := 19) hx hb hts iw_X4_goIn_RX4 hown hE.1 hP 0 rfl rfl 0 (by decide) (hts (.fieldLink RX4 41 "RackrailModel" "thrown" "I") (by decide +kernel)) (fun _ h9 => h9) rfl dX4_goIn_44 ?_
        refine lv_if_le (tgt := 52) hx hb dX4_goIn_47 (by decide) (fun c_47 => absurd c_47 (by decide)) (fun c_47 => ?_)
        refine lv_iconst (v := 0) hx hb dX4_goIn_50 (by decide) ?_
        have hq : f_X4_goIn mtm msm mis p0 = (0, 2, mis) := (by rw [f_X4_goIn, if_neg c_5, if_pos c_18, if_pos c_25])
        exact W.iret (v := 0) hx hb hr (fun t ht _ => ⟨by rw [hq], by rw [hq, ht]; exact hP, hS.F ht⟩) hS.2.2 dX4_goIn_51
      · refine lv_aload_n hx hb dX4_goIn_28 rfl (lv_at hl 0 rfl) ?_
        refine va_get (D := G.1) (ci := 4) (v := .int msm) (C := RX4) (T := TX4) (N := 19) hx hb hts iw_X4_goIn_RX4 hown hE.1 hP 0 rfl rfl 11 (by decide) (hts (.fieldLink RX4 96 "RackrailModel" "isSmoke" "Z") (by decide +kernel)) (fun _ h9 => h9) rfl dX4_goIn_29 ?_
        refine lv_if_eq (tgt := 39) hx hb dX4_goIn_32 (by decide) (fun c_32 => ?_) (fun c_32 => ?_)
        · refine lv_iconst (v := 0) hx hb dX4_goIn_39 (by decide) ?_
          refine va_put (D := G.1) (ci := 4) (v := .int 0) (ty := .int) (C := RX4) (T := TX4) (N := 19) hx hb hts iw_X4_goIn_RX4 tyX4 tyX4_ok nmX4 hown hE.1 hP hD hS 0 rfl rfl 0 (by decide) (hts (.fieldLink RX4 41 "RackrailModel" "thrown" "I") (by decide +kernel)) (fun _ h9 => h9) rfl (by decide +kernel) rfl rfl (Nat.le_of_ble_eq_true rfl) dX4_goIn_40 (fun H locs hP hD hS => ?_)
          have hP : va_P G.1 vwCl [wcM b 0 mck mbn mai mtm mst msm mon mlt, wcZ G (b 7) 4 mis] H := hP
          have hD : va_D _ [wcM b 0 mck mbn mai mtm mst msm mon mlt, wcZ G (b 7) 4 mis] := hD
          refine lv_aload_n hx hb dX4_goIn_43 rfl (lv_at hl 0 rfl) ?_
          refine va_get (D := G.1) (ci := 4) (v := .int 0) (C := RX4) (T := TX4) (N := 19) hx hb hts iw_X4_goIn_RX4 hown hE.1 hP 0 rfl rfl 0 (by decide) (hts (.fieldLink RX4 41 "RackrailModel" "thrown" "I") (by decide +kernel)) (fun _ h9 => h9) rfl dX4_goIn_44 ?_
          refine lv_if_le (tgt := 52) hx hb dX4_goIn_47 (by decide) (fun c_47 => ?_) (fun c_47 => absurd (by decide) c_47)
          refine lv_aload_n hx hb dX4_goIn_52 rfl (lv_at hl 0 rfl) ?_
          refine va_get (D := G.1) (ci := 4) (v := .ref (b 7)) (C := RX4) (T := TX4) (N := 19) hx hb hts iw_X4_goIn_RX4 hown hE.1 hP 0 rfl rfl 13 (by decide) (hts (.fieldLink RX4 29 "RackrailModel" "isInside" "[Z") (by decide +kernel)) (fun _ h9 => h9) rfl dX4_goIn_53 ?_
          refine lv_iload_n hx hb dX4_goIn_56 rfl (lv_at hl 1 rfl) ?_
          refine lv_iconst (v := 1) hx hb dX4_goIn_57 (by decide) ?_
          refine va_zast hx hb hE.1 hP hD hS 1 1 rfl rfl (in_pers c_5) dX4_goIn_58 (fun H locs hP hD hS => ?_)
          have hP : va_P G.1 vwCl [wcM b 0 mck mbn mai mtm mst msm mon mlt, wcZ G (b 7) 4 (upd mis p0.toNatClampNeg 1)] H := hP
          have hD : va_D _ [wcM b 0 mck mbn mai mtm mst msm mon mlt, wcZ G (b 7) 4 (upd mis p0.toNatClampNeg 1)] := hD
          refine lv_aload_n hx hb dX4_goIn_59 rfl (lv_at hl 0 rfl) ?_
          refine k_p (va_runV (As := []) (rest := []) ⟨hx, hb, hml, hown, hts⟩ (c_X4_inside l G b H.size 0 mck mbn mai mtm mst msm mon mlt (upd mis p0.toNatClampNeg 1)) (cwV 0 hts gX4_goIn_X4_inside rfl rfl rfl ⟨rfl, by decide +kernel, by decide +kernel, by decide +kernel⟩ ⟨Nat.le_of_ble_eq_true rfl, Nat.le_of_ble_eq_true rfl⟩) ⟨GP.blind, va_recv hE.1 hP (ci := 4) (q0 := 0) rfl rfl, GP.go (wc := [wcM b 0 mck mbn mai mtm mst msm mon mlt, wcZ G (b 7) 4 (upd mis p0.toNatClampNeg 1)]) hE hZ hP hD hS hA [0, 1] rfl (by decide) [.ref (b 0)]⟩ rfl rfl hl.1 rfl (lv_room (Nat.le_of_ble_eq_true rfl)) dX4_goIn_60 ⟨Nat.le_of_ble_eq_true rfl, Nat.le_of_ble_eq_true rfl⟩) ?_
          have hq : f_X4_goIn mtm msm mis p0 = (f_X4_inside (upd mis p0.toNatClampNeg 1), 0, upd mis p0.toNatClampNeg 1) := (by rw [f_X4_goIn, if_neg c_5, if_pos c_18, if_neg c_25, if_pos c_32])
          exact W.iret (v := f_X4_inside (upd mis p0.toNatClampNeg 1)) hx hb hr (fun t ht _ => ⟨by rw [hq], by rw [hq, ht]; exact hP, hS.F ht⟩) hS.2.2 dX4_goIn_63
        · refine lv_iconst (v := 2) hx hb dX4_goIn_35 (by decide) ?_
          refine lv_goto (tgt := 40) hx hb dX4_goIn_36 (by decide) ?_
          refine va_put (D := G.1) (ci := 4) (v := .int 2) (ty := .int) (C := RX4) (T := TX4) (N := 19) hx hb hts iw_X4_goIn_RX4 tyX4 tyX4_ok nmX4 hown hE.1 hP hD hS 0 rfl rfl 0 (by decide) (hts (.fieldLink RX4 41 "RackrailModel" "thrown" "I") (by decide +kernel)) (fun _ h9 => h9) rfl (by decide +kernel) rfl rfl (Nat.le_of_ble_eq_true rfl) dX4_goIn_40 (fun H locs hP hD hS => ?_)
          have hP : va_P G.1 vwCl [wcM b 2 mck mbn mai mtm mst msm mon mlt, wcZ G (b 7) 4 mis] H := hP
          have hD : va_D _ [wcM b 2 mck mbn mai mtm mst msm mon mlt, wcZ G (b 7) 4 mis] := hD
          refine lv_aload_n hx hb dX4_goIn_43 rfl (lv_at hl 0 rfl) ?_
          refine va_get (D := G.1) (ci := 4) (v := .int 2) (C := RX4) (T := TX4) (N := 19) hx hb hts iw_X4_goIn_RX4 hown hE.1 hP 0 rfl rfl 0 (by decide) (hts (.fieldLink RX4 41 "RackrailModel" "thrown" "I") (by decide +kernel)) (fun _ h9 => h9) rfl dX4_goIn_44 ?_
          refine lv_if_le (tgt := 52) hx hb dX4_goIn_47 (by decide) (fun c_47 => absurd c_47 (by decide)) (fun c_47 => ?_)
          refine lv_iconst (v := 0) hx hb dX4_goIn_50 (by decide) ?_
          have hq : f_X4_goIn mtm msm mis p0 = (0, 2, mis) := (by rw [f_X4_goIn, if_neg c_5, if_pos c_18, if_neg c_25, if_neg c_32])
          exact W.iret (v := 0) hx hb hr (fun t ht _ => ⟨by rw [hq], by rw [hq, ht]; exact hP, hS.F ht⟩) hS.2.2 dX4_goIn_51
  · refine lv_iconst (v := 1) hx hb dX4_goIn_8 (by decide) ?_
    refine lv_goto (tgt := 40) hx hb dX4_goIn_9 (by decide) ?_
    refine va_put (D := G.1) (ci := 4) (v := .int 1) (ty := .int) (C := RX4) (T := TX4) (N := 19) hx hb hts iw_X4_goIn_RX4 tyX4 tyX4_ok nmX4 hown hE.1 hP hD hS 0 rfl rfl 0 (by decide) (hts (.fieldLink RX4 41 "RackrailModel" "thrown" "I") (by decide +kernel)) (fun _ h9 => h9) rfl (by decide +kernel) rfl rfl (Nat.le_of_ble_eq_true rfl) dX4_goIn_40 (fun H locs hP hD hS => ?_)
    have hP : va_P G.1 vwCl [wcM b 1 mck mbn mai mtm mst msm mon mlt, wcZ G (b 7) 4 mis] H := hP
    have hD : va_D _ [wcM b 1 mck mbn mai mtm mst msm mon mlt, wcZ G (b 7) 4 mis] := hD
    refine lv_aload_n hx hb dX4_goIn_43 rfl (lv_at hl 0 rfl) ?_
    refine va_get (D := G.1) (ci := 4) (v := .int 1) (C := RX4) (T := TX4) (N := 19) hx hb hts iw_X4_goIn_RX4 hown hE.1 hP 0 rfl rfl 0 (by decide) (hts (.fieldLink RX4 41 "RackrailModel" "thrown" "I") (by decide +kernel)) (fun _ h9 => h9) rfl dX4_goIn_44 ?_
    refine lv_if_le (tgt := 52) hx hb dX4_goIn_47 (by decide) (fun c_47 => absurd c_47 (by decide)) (fun c_47 => ?_)
    refine lv_iconst (v := 0) hx hb dX4_goIn_50 (by decide) ?_
    have hq : f_X4_goIn mtm msm mis p0 = (0, 1, mis) := (by rw [f_X4_goIn, if_pos c_5])
    exact W.iret (v := 0) hx hb hr (fun t ht _ => ⟨by rw [hq], by rw [hq, ht]; exact hP, hS.F ht⟩) hS.2.2 dX4_goIn_51

/-! X4_goOut -/
def f_X4_goOut (mis : Nat → Int32) (p0 : Int32) : Int32 × Int32 × (Nat → Int32) :=
  if (f_X4_isPerson p0) = 0 then (0, 1, mis)
    else if (mis p0.toNatClampNeg) = 0 then (0, 2, mis)
    else (f_X4_inside (upd mis p0.toNatClampNeg 0), 0, upd mis p0.toNatClampNeg 0)
theorem iw_X4_goOut_RX4 : ∀ w ∈ u_ws RX4 TX4 19, w ∈ wsX4_goOut := by decide +kernel
set_option maxHeartbeats 4000000 in
set_option maxRecDepth 100000 in
theorem c_X4_goOut (l : Launch) (G : GT) (b : Nat → Nat) (sz : Nat) (mth : Int32) (mck : Int32) (mbn : Int32) (mai : Int32) (mtm : Int32) (mst : Int32) (msm : Int32) (mon : Int32) (mlt : Int32) (mis : Nat → Int32) (p0 : Int32) : Met l yX4_goOut wsX4_goOut ({ frames := 2, cells := 0, slots := 0, locals := 42 }) (GP G [.ref (b 0), .int p0] [wcM b mth mck mbn mai mtm mst msm mon mlt, wcZ G (b 7) 4 mis] sz) (MQo G (.returned (some (.int ((f_X4_goOut mis p0).1)))) [wcM b ((f_X4_goOut mis p0).2.1) mck mbn mai mtm mst msm mon mlt, wcZ G (b 7) 4 ((f_X4_goOut mis p0).2.2)] (va_A [wcM b mth mck mbn mai mtm mst msm mon mlt, wcZ G (b 7) 4 mis] sz)) 0 0 (va_A [wcM b mth mck mbn mai mtm mst msm mon mlt, wcZ G (b 7) 4 mis] sz) := by
  refine bodyM (cc := cX4_goOut) (maxL := 2) (ret := (some .int)) (by decide) rfl (Nat.le_of_ble_eq_true rfl) ?_
  intro p e s m below meth c ls C
  obtain ⟨hx, hb, hr, hts, hown, hlocks, hml, hsz, hP, hE, hD, hZ, hA, hS, hl⟩ := C
  subst hsz
  have hl : lv_has ls 2 [(0, .ref (b 0)), (1, .int p0)] := hl
  refine lv_aload_n hx hb dX4_goOut_0 rfl (lv_at hl 0 rfl) ?_
  refine lv_iload_n hx hb dX4_goOut_1 rfl (lv_at hl 1 rfl) ?_
  refine k_p (va_runS (As := [.int p0]) (rest := [.ref (b 0)]) ⟨hx, hb, hml, hown, hts⟩ (c_X4_isPerson l G s.heap.size p0) (va_cwS 1 hts gX4_goOut_X4_isPerson rfl rfl rfl ⟨by decide +kernel, by decide +kernel, by decide +kernel⟩ ⟨Nat.le_of_ble_eq_true rfl, Nat.le_of_ble_eq_true rfl⟩) ⟨GP.blind, GP.go (wc := []) hE hZ hP hD hS hA [] rfl (by decide) [.int p0]⟩ rfl rfl hl.1 rfl (lv_room (Nat.le_of_ble_eq_true rfl)) dX4_goOut_2 ⟨Nat.le_of_ble_eq_true rfl, Nat.le_of_ble_eq_true rfl⟩) ?_
  refine lv_if_ne (tgt := 12) hx hb dX4_goOut_5 (by decide) (fun c_5 => ?_) (fun c_5 => ?_)
  · refine lv_aload_n hx hb dX4_goOut_12 rfl (lv_at hl 0 rfl) ?_
    refine va_get (D := G.1) (ci := 4) (v := .ref (b 7)) (C := RX4) (T := TX4) (N := 19) hx hb hts iw_X4_goOut_RX4 hown hE.1 hP 0 rfl rfl 13 (by decide) (hts (.fieldLink RX4 29 "RackrailModel" "isInside" "[Z") (by decide +kernel)) (fun _ h9 => h9) rfl dX4_goOut_13 ?_
    refine lv_iload_n hx hb dX4_goOut_16 rfl (lv_at hl 1 rfl) ?_
    refine va_zald hx hb hE.1 hP 1 1 rfl rfl (in_pers c_5) dX4_goOut_17 ?_
    refine lv_if_eq (tgt := 25) hx hb dX4_goOut_18 (by decide) (fun c_18 => ?_) (fun c_18 => ?_)
    · refine lv_iconst (v := 2) hx hb dX4_goOut_25 (by decide) ?_
      refine va_put (D := G.1) (ci := 4) (v := .int 2) (ty := .int) (C := RX4) (T := TX4) (N := 19) hx hb hts iw_X4_goOut_RX4 tyX4 tyX4_ok nmX4 hown hE.1 hP hD hS 0 rfl rfl 0 (by decide) (hts (.fieldLink RX4 41 "RackrailModel" "thrown" "I") (by decide +kernel)) (fun _ h9 => h9) rfl (by decide +kernel) rfl rfl (Nat.le_of_ble_eq_true rfl) dX4_goOut_26 (fun H locs hP hD hS => ?_)
      have hP : va_P G.1 vwCl [wcM b 2 mck mbn mai mtm mst msm mon mlt, wcZ G (b 7) 4 mis] H := hP
      have hD : va_D _ [wcM b 2 mck mbn mai mtm mst msm mon mlt, wcZ G (b 7) 4 mis] := hD
      refine lv_aload_n hx hb dX4_goOut_29 rfl (lv_at hl 0 rfl) ?_
      refine va_get (D := G.1) (ci := 4) (v := .int 2) (C := RX4) (T := TX4) (N := 19) hx hb hts iw_X4_goOut_RX4 hown hE.1 hP 0 rfl rfl 0 (by decide) (hts (.fieldLink RX4 41 "RackrailModel" "thrown" "I") (by decide +kernel)) (fun _ h9 => h9) rfl dX4_goOut_30 ?_
      refine lv_if_le (tgt := 38) hx hb dX4_goOut_33 (by decide) (fun c_33 => absurd c_33 (by decide)) (fun c_33 => ?_)
      refine lv_iconst (v := 0) hx hb dX4_goOut_36 (by decide) ?_
      have hq : f_X4_goOut mis p0 = (0, 2, mis) := (by rw [f_X4_goOut, if_neg c_5, if_pos c_18])
      exact W.iret (v := 0) hx hb hr (fun t ht _ => ⟨by rw [hq], by rw [hq, ht]; exact hP, hS.F ht⟩) hS.2.2 dX4_goOut_37
    · refine lv_iconst (v := 0) hx hb dX4_goOut_21 (by decide) ?_
      refine lv_goto (tgt := 26) hx hb dX4_goOut_22 (by decide) ?_
      refine va_put (D := G.1) (ci := 4) (v := .int 0) (ty := .int) (C := RX4) (T := TX4) (N := 19) hx hb hts iw_X4_goOut_RX4 tyX4 tyX4_ok nmX4 hown hE.1 hP hD hS 0 rfl rfl 0 (by decide) (hts (.fieldLink RX4 41 "RackrailModel" "thrown" "I") (by decide +kernel)) (fun _ h9 => h9) rfl (by decide +kernel) rfl rfl (Nat.le_of_ble_eq_true rfl) dX4_goOut_26 (fun H locs hP hD hS => ?_)
      have hP : va_P G.1 vwCl [wcM b 0 mck mbn mai mtm mst msm mon mlt, wcZ G (b 7) 4 mis] H := hP
      have hD : va_D _ [wcM b 0 mck mbn mai mtm mst msm mon mlt, wcZ G (b 7) 4 mis] := hD
      refine lv_aload_n hx hb dX4_goOut_29 rfl (lv_at hl 0 rfl) ?_
      refine va_get (D := G.1) (ci := 4) (v := .int 0) (C := RX4) (T := TX4) (N := 19) hx hb hts iw_X4_goOut_RX4 hown hE.1 hP 0 rfl rfl 0 (by decide) (hts (.fieldLink RX4 41 "RackrailModel" "thrown" "I") (by decide +kernel)) (fun _ h9 => h9) rfl dX4_goOut_30 ?_
      refine lv_if_le (tgt := 38) hx hb dX4_goOut_33 (by decide) (fun c_33 => ?_) (fun c_33 => absurd (by decide) c_33)
      refine lv_aload_n hx hb dX4_goOut_38 rfl (lv_at hl 0 rfl) ?_
      refine va_get (D := G.1) (ci := 4) (v := .ref (b 7)) (C := RX4) (T := TX4) (N := 19) hx hb hts iw_X4_goOut_RX4 hown hE.1 hP 0 rfl rfl 13 (by decide) (hts (.fieldLink RX4 29 "RackrailModel" "isInside" "[Z") (by decide +kernel)) (fun _ h9 => h9) rfl dX4_goOut_39 ?_
      refine lv_iload_n hx hb dX4_goOut_42 rfl (lv_at hl 1 rfl) ?_
      refine lv_iconst (v := 0) hx hb dX4_goOut_43 (by decide) ?_
      refine va_zast hx hb hE.1 hP hD hS 1 1 rfl rfl (in_pers c_5) dX4_goOut_44 (fun H locs hP hD hS => ?_)
      have hP : va_P G.1 vwCl [wcM b 0 mck mbn mai mtm mst msm mon mlt, wcZ G (b 7) 4 (upd mis p0.toNatClampNeg 0)] H := hP
      have hD : va_D _ [wcM b 0 mck mbn mai mtm mst msm mon mlt, wcZ G (b 7) 4 (upd mis p0.toNatClampNeg 0)] := hD
      refine lv_aload_n hx hb dX4_goOut_45 rfl (lv_at hl 0 rfl) ?_
      refine k_p (va_runV (As := []) (rest := []) ⟨hx, hb, hml, hown, hts⟩ (c_X4_inside l G b H.size 0 mck mbn mai mtm mst msm mon mlt (upd mis p0.toNatClampNeg 0)) (cwV 0 hts gX4_goOut_X4_inside rfl rfl rfl ⟨rfl, by decide +kernel, by decide +kernel, by decide +kernel⟩ ⟨Nat.le_of_ble_eq_true rfl, Nat.le_of_ble_eq_true rfl⟩) ⟨GP.blind, va_recv hE.1 hP (ci := 4) (q0 := 0) rfl rfl, GP.go (wc := [wcM b 0 mck mbn mai mtm mst msm mon mlt, wcZ G (b 7) 4 (upd mis p0.toNatClampNeg 0)]) hE hZ hP hD hS hA [0, 1] rfl (by decide) [.ref (b 0)]⟩ rfl rfl hl.1 rfl (lv_room (Nat.le_of_ble_eq_true rfl)) dX4_goOut_46 ⟨Nat.le_of_ble_eq_true rfl, Nat.le_of_ble_eq_true rfl⟩) ?_
      have hq : f_X4_goOut mis p0 = (f_X4_inside (upd mis p0.toNatClampNeg 0), 0, upd mis p0.toNatClampNeg 0) := (by rw [f_X4_goOut, if_neg c_5, if_neg c_18])
      exact W.iret (v := f_X4_inside (upd mis p0.toNatClampNeg 0)) hx hb hr (fun t ht _ => ⟨by rw [hq], by rw [hq, ht]; exact hP, hS.F ht⟩) hS.2.2 dX4_goOut_49
  · refine lv_iconst (v := 1) hx hb dX4_goOut_8 (by decide) ?_
    refine lv_goto (tgt := 26) hx hb dX4_goOut_9 (by decide) ?_
    refine va_put (D := G.1) (ci := 4) (v := .int 1) (ty := .int) (C := RX4) (T := TX4) (N := 19) hx hb hts iw_X4_goOut_RX4 tyX4 tyX4_ok nmX4 hown hE.1 hP hD hS 0 rfl rfl 0 (by decide) (hts (.fieldLink RX4 41 "RackrailModel" "thrown" "I") (by decide +kernel)) (fun _ h9 => h9) rfl (by decide +kernel) rfl rfl (Nat.le_of_ble_eq_true rfl) dX4_goOut_26 (fun H locs hP hD hS => ?_)
    have hP : va_P G.1 vwCl [wcM b 1 mck mbn mai mtm mst msm mon mlt, wcZ G (b 7) 4 mis] H := hP
    have hD : va_D _ [wcM b 1 mck mbn mai mtm mst msm mon mlt, wcZ G (b 7) 4 mis] := hD
    refine lv_aload_n hx hb dX4_goOut_29 rfl (lv_at hl 0 rfl) ?_
    refine va_get (D := G.1) (ci := 4) (v := .int 1) (C := RX4) (T := TX4) (N := 19) hx hb hts iw_X4_goOut_RX4 hown hE.1 hP 0 rfl rfl 0 (by decide) (hts (.fieldLink RX4 41 "RackrailModel" "thrown" "I") (by decide +kernel)) (fun _ h9 => h9) rfl dX4_goOut_30 ?_
    refine lv_if_le (tgt := 38) hx hb dX4_goOut_33 (by decide) (fun c_33 => absurd c_33 (by decide)) (fun c_33 => ?_)
    refine lv_iconst (v := 0) hx hb dX4_goOut_36 (by decide) ?_
    have hq : f_X4_goOut mis p0 = (0, 1, mis) := (by rw [f_X4_goOut, if_pos c_5])
    exact W.iret (v := 0) hx hb hr (fun t ht _ => ⟨by rw [hq], by rw [hq, ht]; exact hP, hS.F ht⟩) hS.2.2 dX4_goOut_37

/-! X4_doubt -/
def f_X4_doubt (mdb : Nat → Int32) (p0 : Int32) : Int32 × Int32 × (Nat → Int32) :=
  if (f_X4_in p0 0 6) = 0 then (0, 1, mdb)
    else if (mdb p0.toNatClampNeg) = 0 then (1, 0, upd mdb p0.toNatClampNeg 1)
    else (0, 0, upd mdb p0.toNatClampNeg 1)
theorem iw_X4_doubt_RX4 : ∀ w ∈ u_ws RX4 TX4 19, w ∈ wsX4_doubt := by decide +kernel
set_option maxHeartbeats 4000000 in
set_option maxRecDepth 100000 in
theorem c_X4_doubt (l : Launch) (G : GT) (b : Nat → Nat) (sz : Nat) (mth : Int32) (mck : Int32) (mbn : Int32) (mai : Int32) (mtm : Int32) (mst : Int32) (msm : Int32) (mon : Int32) (mlt : Int32) (mdb : Nat → Int32) (p0 : Int32) : Met l yX4_doubt wsX4_doubt ({ frames := 1, cells := 0, slots := 0, locals := 22 }) (GP G [.ref (b 0), .int p0] [wcM b mth mck mbn mai mtm mst msm mon mlt, wcZ G (b 6) 7 mdb] sz) (MQo G (.returned (some (.int ((f_X4_doubt mdb p0).1)))) [wcM b ((f_X4_doubt mdb p0).2.1) mck mbn mai mtm mst msm mon mlt, wcZ G (b 6) 7 ((f_X4_doubt mdb p0).2.2)] (va_A [wcM b mth mck mbn mai mtm mst msm mon mlt, wcZ G (b 6) 7 mdb] sz)) 0 0 (va_A [wcM b mth mck mbn mai mtm mst msm mon mlt, wcZ G (b 6) 7 mdb] sz) := by
  refine bodyM (cc := cX4_doubt) (maxL := 3) (ret := (some .boolean)) (by decide) rfl (Nat.le_of_ble_eq_true rfl) ?_
  intro p e s m below meth c ls C
  obtain ⟨hx, hb, hr, hts, hown, hlocks, hml, hsz, hP, hE, hD, hZ, hA, hS, hl⟩ := C
  subst hsz
  have hl : lv_has ls 3 [(0, .ref (b 0)), (1, .int p0)] := hl
  refine lv_aload_n hx hb dX4_doubt_0 rfl (lv_at hl 0 rfl) ?_
  refine lv_iload_n hx hb dX4_doubt_1 rfl (lv_at hl 1 rfl) ?_
  refine lv_iconst (v := 0) hx hb dX4_doubt_2 (by decide) ?_
  refine lv_bipush (v := 6) hx hb dX4_doubt_3 (by decide) ?_
  refine k_p (va_runS (As := [.int p0, .int 0, .int 6]) (rest := [.ref (b 0)]) ⟨hx, hb, hml, hown, hts⟩ (c_X4_in l G s.heap.size p0 0 6) (va_cwS 3 hts gX4_doubt_X4_in rfl rfl rfl ⟨by decide +kernel, by decide +kernel, by decide +kernel⟩ ⟨Nat.le_of_ble_eq_true rfl, Nat.le_of_ble_eq_true rfl⟩) ⟨GP.blind, GP.go (wc := []) hE hZ hP hD hS hA [] rfl (by decide) [.int p0, .int 0, .int 6]⟩ rfl rfl hl.1 rfl (lv_room (Nat.le_of_ble_eq_true rfl)) dX4_doubt_5 ⟨Nat.le_of_ble_eq_true rfl, Nat.le_of_ble_eq_true rfl⟩) ?_
  refine lv_if_eq (tgt := 15) hx hb dX4_doubt_8 (by decide) (fun c_8 => ?_) (fun c_8 => ?_)
  · refine lv_iconst (v := 1) hx hb dX4_doubt_15 (by decide) ?_
    refine va_put (D := G.1) (ci := 4) (v := .int 1) (ty := .int) (C := RX4) (T := TX4) (N := 19) hx hb hts iw_X4_doubt_RX4 tyX4 tyX4_ok nmX4 hown hE.1 hP hD hS 0 rfl rfl 0 (by decide) (hts (.fieldLink RX4 41 "RackrailModel" "thrown" "I") (by decide +kernel)) (fun _ h9 => h9) rfl (by decide +kernel) rfl rfl (Nat.le_of_ble_eq_true rfl) dX4_doubt_16 (fun H locs hP hD hS => ?_)
    have hP : va_P G.1 vwCl [wcM b 1 mck mbn mai mtm mst msm mon mlt, wcZ G (b 6) 7 mdb] H := hP
    have hD : va_D _ [wcM b 1 mck mbn mai mtm mst msm mon mlt, wcZ G (b 6) 7 mdb] := hD
    refine lv_aload_n hx hb dX4_doubt_19 rfl (lv_at hl 0 rfl) ?_
    refine va_get (D := G.1) (ci := 4) (v := .int 1) (C := RX4) (T := TX4) (N := 19) hx hb hts iw_X4_doubt_RX4 hown hE.1 hP 0 rfl rfl 0 (by decide) (hts (.fieldLink RX4 41 "RackrailModel" "thrown" "I") (by decide +kernel)) (fun _ h9 => h9) rfl dX4_doubt_20 ?_
    refine lv_if_le (tgt := 28) hx hb dX4_doubt_23 (by decide) (fun c_23 => absurd c_23 (by decide)) (fun c_23 => ?_)
    refine lv_iconst (v := 0) hx hb dX4_doubt_26 (by decide) ?_
    have hq : f_X4_doubt mdb p0 = (0, 1, mdb) := (by rw [f_X4_doubt, if_pos c_8])
    exact W.zret (v := 0) hx hb hr rfl (fun t ht _ => ⟨by rw [hq], by rw [hq, ht]; exact hP, hS.F ht⟩) hS.2.2 dX4_doubt_27
  · refine lv_iconst (v := 0) hx hb dX4_doubt_11 (by decide) ?_
    refine lv_goto (tgt := 16) hx hb dX4_doubt_12 (by decide) ?_
    refine va_put (D := G.1) (ci := 4) (v := .int 0) (ty := .int) (C := RX4) (T := TX4) (N := 19) hx hb hts iw_X4_doubt_RX4 tyX4 tyX4_ok nmX4 hown hE.1 hP hD hS 0 rfl rfl 0 (by decide) (hts (.fieldLink RX4 41 "RackrailModel" "thrown" "I") (by decide +kernel)) (fun _ h9 => h9) rfl (by decide +kernel) rfl rfl (Nat.le_of_ble_eq_true rfl) dX4_doubt_16 (fun H locs hP hD hS => ?_)
    have hP : va_P G.1 vwCl [wcM b 0 mck mbn mai mtm mst msm mon mlt, wcZ G (b 6) 7 mdb] H := hP
    have hD : va_D _ [wcM b 0 mck mbn mai mtm mst msm mon mlt, wcZ G (b 6) 7 mdb] := hD
    refine lv_aload_n hx hb dX4_doubt_19 rfl (lv_at hl 0 rfl) ?_
    refine va_get (D := G.1) (ci := 4) (v := .int 0) (C := RX4) (T := TX4) (N := 19) hx hb hts iw_X4_doubt_RX4 hown hE.1 hP 0 rfl rfl 0 (by decide) (hts (.fieldLink RX4 41 "RackrailModel" "thrown" "I") (by decide +kernel)) (fun _ h9 => h9) rfl dX4_doubt_20 ?_
    refine lv_if_le (tgt := 28) hx hb dX4_doubt_23 (by decide) (fun c_23 => ?_) (fun c_23 => absurd (by decide) c_23)
    refine lv_aload_n hx hb dX4_doubt_28 rfl (lv_at hl 0 rfl) ?_
    refine va_get (D := G.1) (ci := 4) (v := .ref (b 6)) (C := RX4) (T := TX4) (N := 19) hx hb hts iw_X4_doubt_RX4 hown hE.1 hP 0 rfl rfl 12 (by decide) (hts (.fieldLink RX4 25 "RackrailModel" "doubts" "[Z") (by decide +kernel)) (fun _ h9 => h9) rfl dX4_doubt_29 ?_
    refine lv_iload_n hx hb dX4_doubt_32 rfl (lv_at hl 1 rfl) ?_
    refine va_zald hx hb hE.1 hP 1 1 rfl rfl (in_in (y := 6) (N := 6) rfl (by decide) c_8) dX4_doubt_33 ?_
    refine lv_if_ne (tgt := 41) hx hb dX4_doubt_34 (by decide) (fun c_34 => ?_) (fun c_34 => ?_)
    · refine lv_iconst (v := 0) hx hb dX4_doubt_41 (by decide) ?_
      refine lv_istore_n (lv' := [(2, .int 0), (0, .ref (b 0)), (1, .int p0)]) hx hb dX4_doubt_42 rfl hl (by decide) rfl (fun ls hl => ?_)
      refine lv_aload_n hx hb dX4_doubt_43 rfl (lv_at hl 1 rfl) ?_
      refine va_get (D := G.1) (ci := 4) (v := .ref (b 6)) (C := RX4) (T := TX4) (N := 19) hx hb hts iw_X4_doubt_RX4 hown hE.1 hP 0 rfl rfl 12 (by decide) (hts (.fieldLink RX4 25 "RackrailModel" "doubts" "[Z") (by decide +kernel)) (fun _ h9 => h9) rfl dX4_doubt_44 ?_
      refine lv_iload_n hx hb dX4_doubt_47 rfl (lv_at hl 2 rfl) ?_
      refine lv_iconst (v := 1) hx hb dX4_doubt_48 (by decide) ?_
      refine va_zast hx hb hE.1 hP hD hS 1 1 rfl rfl (in_in (y := 6) (N := 6) rfl (by decide) c_8) dX4_doubt_49 (fun H locs hP hD hS => ?_)
      have hP : va_P G.1 vwCl [wcM b 0 mck mbn mai mtm mst msm mon mlt, wcZ G (b 6) 7 (upd mdb p0.toNatClampNeg 1)] H := hP
      have hD : va_D _ [wcM b 0 mck mbn mai mtm mst msm mon mlt, wcZ G (b 6) 7 (upd mdb p0.toNatClampNeg 1)] := hD
      refine lv_iload_n hx hb dX4_doubt_50 rfl (lv_at hl 0 rfl) ?_
      have hq : f_X4_doubt mdb p0 = (0, 0, upd mdb p0.toNatClampNeg 1) := (by rw [f_X4_doubt, if_neg c_8, if_neg c_34])
      exact W.zret (v := 0) hx hb hr rfl (fun t ht _ => ⟨by rw [hq], by rw [hq, ht]; exact hP, hS.F ht⟩) hS.2.2 dX4_doubt_51
    · refine lv_iconst (v := 1) hx hb dX4_doubt_37 (by decide) ?_
      refine lv_goto (tgt := 42) hx hb dX4_doubt_38 (by decide) ?_
      refine lv_istore_n (lv' := [(2, .int 1), (0, .ref (b 0)), (1, .int p0)]) hx hb dX4_doubt_42 rfl hl (by decide) rfl (fun ls hl => ?_)
      refine lv_aload_n hx hb dX4_doubt_43 rfl (lv_at hl 1 rfl) ?_
      refine va_get (D := G.1) (ci := 4) (v := .ref (b 6)) (C := RX4) (T := TX4) (N := 19) hx hb hts iw_X4_doubt_RX4 hown hE.1 hP 0 rfl rfl 12 (by decide) (hts (.fieldLink RX4 25 "RackrailModel" "doubts" "[Z") (by decide +kernel)) (fun _ h9 => h9) rfl dX4_doubt_44 ?_
      refine lv_iload_n hx hb dX4_doubt_47 rfl (lv_at hl 2 rfl) ?_
      refine lv_iconst (v := 1) hx hb dX4_doubt_48 (by decide) ?_
      refine va_zast hx hb hE.1 hP hD hS 1 1 rfl rfl (in_in (y := 6) (N := 6) rfl (by decide) c_8) dX4_doubt_49 (fun H locs hP hD hS => ?_)
      have hP : va_P G.1 vwCl [wcM b 0 mck mbn mai mtm mst msm mon mlt, wcZ G (b 6) 7 (upd mdb p0.toNatClampNeg 1)] H := hP
      have hD : va_D _ [wcM b 0 mck mbn mai mtm mst msm mon mlt, wcZ G (b 6) 7 (upd mdb p0.toNatClampNeg 1)] := hD
      refine lv_iload_n hx hb dX4_doubt_50 rfl (lv_at hl 0 rfl) ?_
      have hq : f_X4_doubt mdb p0 = (1, 0, upd mdb p0.toNatClampNeg 1) := (by rw [f_X4_doubt, if_neg c_8, if_pos c_34])
      exact W.zret (v := 1) hx hb hr rfl (fun t ht _ => ⟨by rw [hq], by rw [hq, ht]; exact hP, hS.F ht⟩) hS.2.2 dX4_doubt_51

/-! X4_look -/
def f_X4_look (mai : Int32) (mtm : Int32) (mdb : Nat → Int32) : Int32 × Int32 × (Nat → Int32) :=
  if mtm ≤ 0 then (mdb mai.toNatClampNeg, 0, upd mdb mai.toNatClampNeg 0)
    else (0, 1, mdb)
theorem iw_X4_look_RX4 : ∀ w ∈ u_ws RX4 TX4 19, w ∈ wsX4_look := by decide +kernel
set_option maxHeartbeats 4000000 in
set_option maxRecDepth 100000 in
theorem c_X4_look (l : Launch) (G : GT) (b : Nat → Nat) (sz : Nat) (mth : Int32) (mck : Int32) (mbn : Int32) (mai : Int32) (mtm : Int32) (mst : Int32) (msm : Int32) (mon : Int32) (mlt : Int32) (mdb : Nat → Int32) (hai : vp_in mai 7) (hdb : ∀ k : Nat, k < 7 → mdb k = 0 ∨ mdb k = 1) : Met l yX4_look wsX4_look ({ frames := 0, cells := 0, slots := 0, locals := 0 }) (GP G [.ref (b 0)] [wcM b mth mck mbn mai mtm mst msm mon mlt, wcZ G (b 6) 7 mdb] sz) (MQo G (.returned (some (.int ((f_X4_look mai mtm mdb).1)))) [wcM b ((f_X4_look mai mtm mdb).2.1) mck mbn mai mtm mst msm mon mlt, wcZ G (b 6) 7 ((f_X4_look mai mtm mdb).2.2)] (va_A [wcM b mth mck mbn mai mtm mst msm mon mlt, wcZ G (b 6) 7 mdb] sz)) 0 0 (va_A [wcM b mth mck mbn mai mtm mst msm mon mlt, wcZ G (b 6) 7 mdb] sz) := by
  refine bodyM (cc := cX4_look) (maxL := 2) (ret := (some .boolean)) (by decide) rfl (Nat.le_of_ble_eq_true rfl) ?_
  intro p e s m below meth c ls C
  obtain ⟨hx, hb, hr, hts, hown, hlocks, hml, hsz, hP, hE, hD, hZ, hA, hS, hl⟩ := C
  subst hsz
  have hl : lv_has ls 2 [(0, .ref (b 0))] := hl
  refine lv_aload_n hx hb dX4_look_0 rfl (lv_at hl 0 rfl) ?_
  refine lv_aload_n hx hb dX4_look_1 rfl (lv_at hl 0 rfl) ?_
  refine va_get (D := G.1) (ci := 4) (v := .int mtm) (C := RX4) (T := TX4) (N := 19) hx hb hts iw_X4_look_RX4 hown hE.1 hP 0 rfl rfl 9 (by decide) (hts (.fieldLink RX4 86 "RackrailModel" "toMove" "I") (by decide +kernel)) (fun _ h9 => h9) rfl dX4_look_2 ?_
  refine lv_if_le (tgt := 12) hx hb dX4_look_5 (by decide) (fun c_5 => ?_) (fun c_5 => ?_)
  · refine lv_iconst (v := 0) hx hb dX4_look_12 (by decide) ?_
    refine va_put (D := G.1) (ci := 4) (v := .int 0) (ty := .int) (C := RX4) (T := TX4) (N := 19) hx hb hts iw_X4_look_RX4 tyX4 tyX4_ok nmX4 hown hE.1 hP hD hS 0 rfl rfl 0 (by decide) (hts (.fieldLink RX4 41 "RackrailModel" "thrown" "I") (by decide +kernel)) (fun _ h9 => h9) rfl (by decide +kernel) rfl rfl (Nat.le_of_ble_eq_true rfl) dX4_look_13 (fun H locs hP hD hS => ?_)
    have hP : va_P G.1 vwCl [wcM b 0 mck mbn mai mtm mst msm mon mlt, wcZ G (b 6) 7 mdb] H := hP
    have hD : va_D _ [wcM b 0 mck mbn mai mtm mst msm mon mlt, wcZ G (b 6) 7 mdb] := hD
    refine lv_aload_n hx hb dX4_look_16 rfl (lv_at hl 0 rfl) ?_
    refine va_get (D := G.1) (ci := 4) (v := .int 0) (C := RX4) (T := TX4) (N := 19) hx hb hts iw_X4_look_RX4 hown hE.1 hP 0 rfl rfl 0 (by decide) (hts (.fieldLink RX4 41 "RackrailModel" "thrown" "I") (by decide +kernel)) (fun _ h9 => h9) rfl dX4_look_17 ?_
    refine lv_if_le (tgt := 25) hx hb dX4_look_20 (by decide) (fun c_20 => ?_) (fun c_20 => absurd (by decide) c_20)
    refine lv_aload_n hx hb dX4_look_25 rfl (lv_at hl 0 rfl) ?_
    refine va_get (D := G.1) (ci := 4) (v := .ref (b 6)) (C := RX4) (T := TX4) (N := 19) hx hb hts iw_X4_look_RX4 hown hE.1 hP 0 rfl rfl 12 (by decide) (hts (.fieldLink RX4 25 "RackrailModel" "doubts" "[Z") (by decide +kernel)) (fun _ h9 => h9) rfl dX4_look_26 ?_
    refine lv_aload_n hx hb dX4_look_29 rfl (lv_at hl 0 rfl) ?_
    refine va_get (D := G.1) (ci := 4) (v := .int mai) (C := RX4) (T := TX4) (N := 19) hx hb hts iw_X4_look_RX4 hown hE.1 hP 0 rfl rfl 8 (by decide) (hts (.fieldLink RX4 89 "RackrailModel" "aisle" "I") (by decide +kernel)) (fun _ h9 => h9) rfl dX4_look_30 ?_
    refine va_zald hx hb hE.1 hP 1 1 rfl rfl (hai) dX4_look_33 ?_
    refine lv_istore_n (lv' := [(1, .int (mdb mai.toNatClampNeg)), (0, .ref (b 0))]) hx hb dX4_look_34 rfl hl (by decide) rfl (fun ls hl => ?_)
    refine lv_aload_n hx hb dX4_look_35 rfl (lv_at hl 1 rfl) ?_
    refine va_get (D := G.1) (ci := 4) (v := .ref (b 6)) (C := RX4) (T := TX4) (N := 19) hx hb hts iw_X4_look_RX4 hown hE.1 hP 0 rfl rfl 12 (by decide) (hts (.fieldLink RX4 25 "RackrailModel" "doubts" "[Z") (by decide +kernel)) (fun _ h9 => h9) rfl dX4_look_36 ?_
    refine lv_aload_n hx hb dX4_look_39 rfl (lv_at hl 1 rfl) ?_
    refine va_get (D := G.1) (ci := 4) (v := .int mai) (C := RX4) (T := TX4) (N := 19) hx hb hts iw_X4_look_RX4 hown hE.1 hP 0 rfl rfl 8 (by decide) (hts (.fieldLink RX4 89 "RackrailModel" "aisle" "I") (by decide +kernel)) (fun _ h9 => h9) rfl dX4_look_40 ?_
    refine lv_iconst (v := 0) hx hb dX4_look_43 (by decide) ?_
    refine va_zast hx hb hE.1 hP hD hS 1 1 rfl rfl (hai) dX4_look_44 (fun H locs hP hD hS => ?_)
    have hP : va_P G.1 vwCl [wcM b 0 mck mbn mai mtm mst msm mon mlt, wcZ G (b 6) 7 (upd mdb mai.toNatClampNeg 0)] H := hP
    have hD : va_D _ [wcM b 0 mck mbn mai mtm mst msm mon mlt, wcZ G (b 6) 7 (upd mdb mai.toNatClampNeg 0)] := hD
    refine lv_iload_n hx hb dX4_look_45 rfl (lv_at hl 0 rfl) ?_
    have hq : f_X4_look mai mtm mdb = (mdb mai.toNatClampNeg, 0, upd mdb mai.toNatClampNeg 0) := (by rw [f_X4_look, if_pos c_5])
    exact W.zret (v := mdb mai.toNatClampNeg) hx hb hr (bool_nar (hdb _ (vp_lt hai))) (fun t ht _ => ⟨by rw [hq], by rw [hq, ht]; exact hP, hS.F ht⟩) hS.2.2 dX4_look_46
  · refine lv_iconst (v := 1) hx hb dX4_look_8 (by decide) ?_
    refine lv_goto (tgt := 13) hx hb dX4_look_9 (by decide) ?_
    refine va_put (D := G.1) (ci := 4) (v := .int 1) (ty := .int) (C := RX4) (T := TX4) (N := 19) hx hb hts iw_X4_look_RX4 tyX4 tyX4_ok nmX4 hown hE.1 hP hD hS 0 rfl rfl 0 (by decide) (hts (.fieldLink RX4 41 "RackrailModel" "thrown" "I") (by decide +kernel)) (fun _ h9 => h9) rfl (by decide +kernel) rfl rfl (Nat.le_of_ble_eq_true rfl) dX4_look_13 (fun H locs hP hD hS => ?_)
    have hP : va_P G.1 vwCl [wcM b 1 mck mbn mai mtm mst msm mon mlt, wcZ G (b 6) 7 mdb] H := hP
    have hD : va_D _ [wcM b 1 mck mbn mai mtm mst msm mon mlt, wcZ G (b 6) 7 mdb] := hD
    refine lv_aload_n hx hb dX4_look_16 rfl (lv_at hl 0 rfl) ?_
    refine va_get (D := G.1) (ci := 4) (v := .int 1) (C := RX4) (T := TX4) (N := 19) hx hb hts iw_X4_look_RX4 hown hE.1 hP 0 rfl rfl 0 (by decide) (hts (.fieldLink RX4 41 "RackrailModel" "thrown" "I") (by decide +kernel)) (fun _ h9 => h9) rfl dX4_look_17 ?_
    refine lv_if_le (tgt := 25) hx hb dX4_look_20 (by decide) (fun c_20 => absurd c_20 (by decide)) (fun c_20 => ?_)
    refine lv_iconst (v := 0) hx hb dX4_look_23 (by decide) ?_
    have hq : f_X4_look mai mtm mdb = (0, 1, mdb) := (by rw [f_X4_look, if_neg c_5])
    exact W.zret (v := 0) hx hb hr rfl (fun t ht _ => ⟨by rw [hq], by rw [hq, ht]; exact hP, hS.F ht⟩) hS.2.2 dX4_look_24

/-! X4_stall -/
def f_X4_stall (mst : Int32) (p0 : Int32) : Int32 × Int32 × Int32 :=
  if mst = p0 then (0, 0, p0)
    else (1, 0, p0)
theorem iw_X4_stall_RX4 : ∀ w ∈ u_ws RX4 TX4 19, w ∈ wsX4_stall := by decide +kernel
set_option maxHeartbeats 4000000 in
set_option maxRecDepth 100000 in
theorem c_X4_stall (l : Launch) (G : GT) (b : Nat → Nat) (sz : Nat) (mth : Int32) (mck : Int32) (mbn : Int32) (mai : Int32) (mtm : Int32) (mst : Int32) (msm : Int32) (mon : Int32) (mlt : Int32) (p0 : Int32) (hp : p0 = 0 ∨ p0 = 1) : Met l yX4_stall wsX4_stall ({ frames := 0, cells := 0, slots := 0, locals := 0 }) (GP G [.ref (b 0), .int p0] [wcM b mth mck mbn mai mtm mst msm mon mlt] sz) (MQo G (.returned (some (.int ((f_X4_stall mst p0).1)))) [wcM b ((f_X4_stall mst p0).2.1) mck mbn mai mtm ((f_X4_stall mst p0).2.2) msm mon mlt] (va_A [wcM b mth mck mbn mai mtm mst msm mon mlt] sz)) 0 0 (va_A [wcM b mth mck mbn mai mtm mst msm mon mlt] sz) := by
  refine bodyM (cc := cX4_stall) (maxL := 3) (ret := (some .boolean)) (by decide) rfl (Nat.le_of_ble_eq_true rfl) ?_
  intro p e s m below meth c ls C
  obtain ⟨hx, hb, hr, hts, hown, hlocks, hml, hsz, hP, hE, hD, hZ, hA, hS, hl⟩ := C
  subst hsz
  have hl : lv_has ls 3 [(0, .ref (b 0)), (1, .int p0)] := hl
  refine lv_aload_n hx hb dX4_stall_0 rfl (lv_at hl 0 rfl) ?_
  refine lv_iconst (v := 0) hx hb dX4_stall_1 (by decide) ?_
  refine va_put (D := G.1) (ci := 4) (v := .int 0) (ty := .int) (C := RX4) (T := TX4) (N := 19) hx hb hts iw_X4_stall_RX4 tyX4 tyX4_ok nmX4 hown hE.1 hP hD hS 0 rfl rfl 0 (by decide) (hts (.fieldLink RX4 41 "RackrailModel" "thrown" "I") (by decide +kernel)) (fun _ h9 => h9) rfl (by decide +kernel) rfl rfl (Nat.le_of_ble_eq_true rfl) dX4_stall_2 (fun H locs hP hD hS => ?_)
  have hP : va_P G.1 vwCl [wcM b 0 mck mbn mai mtm mst msm mon mlt] H := hP
  have hD : va_D _ [wcM b 0 mck mbn mai mtm mst msm mon mlt] := hD
  refine lv_aload_n hx hb dX4_stall_5 rfl (lv_at hl 0 rfl) ?_
  refine va_get (D := G.1) (ci := 4) (v := .int mst) (C := RX4) (T := TX4) (N := 19) hx hb hts iw_X4_stall_RX4 hown hE.1 hP 0 rfl rfl 10 (by decide) (hts (.fieldLink RX4 92 "RackrailModel" "isStalled" "Z") (by decide +kernel)) (fun _ h9 => h9) rfl dX4_stall_6 ?_
  refine lv_iload_n hx hb dX4_stall_9 rfl (lv_at hl 1 rfl) ?_
  refine lv_icmp_eq (tgt := 17) hx hb dX4_stall_10 (by decide) (fun c_10 => ?_) (fun c_10 => ?_)
  · refine lv_iconst (v := 0) hx hb dX4_stall_17 (by decide) ?_
    refine lv_istore_n (lv' := [(2, .int 0), (0, .ref (b 0)), (1, .int p0)]) hx hb dX4_stall_18 rfl hl (by decide) rfl (fun ls hl => ?_)
    refine lv_aload_n hx hb dX4_stall_19 rfl (lv_at hl 1 rfl) ?_
    refine lv_iload_n hx hb dX4_stall_20 rfl (lv_at hl 2 rfl) ?_
    refine va_put (D := G.1) (ci := 4) (v := .int p0) (ty := .boolean) (C := RX4) (T := TX4) (N := 19) hx hb hts iw_X4_stall_RX4 tyX4 tyX4_ok nmX4 hown hE.1 hP hD hS 0 rfl rfl 10 (by decide) (hts (.fieldLink RX4 92 "RackrailModel" "isStalled" "Z") (by decide +kernel)) (fun _ h9 => h9) rfl (by decide +kernel) (bool_nar (hp)) (bool_fits (hp)) (Nat.le_of_ble_eq_true rfl) dX4_stall_21 (fun H locs hP hD hS => ?_)
    have hP : va_P G.1 vwCl [wcM b 0 mck mbn mai mtm p0 msm mon mlt] H := hP
    have hD : va_D _ [wcM b 0 mck mbn mai mtm p0 msm mon mlt] := hD
    refine lv_iload_n hx hb dX4_stall_24 rfl (lv_at hl 0 rfl) ?_
    have hq : f_X4_stall mst p0 = (0, 0, p0) := (by rw [f_X4_stall, if_pos c_10])
    exact W.zret (v := 0) hx hb hr rfl (fun t ht _ => ⟨by rw [hq], by rw [hq, ht]; exact hP, hS.F ht⟩) hS.2.2 dX4_stall_25
  · refine lv_iconst (v := 1) hx hb dX4_stall_13 (by decide) ?_
    refine lv_goto (tgt := 18) hx hb dX4_stall_14 (by decide) ?_
    refine lv_istore_n (lv' := [(2, .int 1), (0, .ref (b 0)), (1, .int p0)]) hx hb dX4_stall_18 rfl hl (by decide) rfl (fun ls hl => ?_)
    refine lv_aload_n hx hb dX4_stall_19 rfl (lv_at hl 1 rfl) ?_
    refine lv_iload_n hx hb dX4_stall_20 rfl (lv_at hl 2 rfl) ?_
    refine va_put (D := G.1) (ci := 4) (v := .int p0) (ty := .boolean) (C := RX4) (T := TX4) (N := 19) hx hb hts iw_X4_stall_RX4 tyX4 tyX4_ok nmX4 hown hE.1 hP hD hS 0 rfl rfl 10 (by decide) (hts (.fieldLink RX4 92 "RackrailModel" "isStalled" "Z") (by decide +kernel)) (fun _ h9 => h9) rfl (by decide +kernel) (bool_nar (hp)) (bool_fits (hp)) (Nat.le_of_ble_eq_true rfl) dX4_stall_21 (fun H locs hP hD hS => ?_)
    have hP : va_P G.1 vwCl [wcM b 0 mck mbn mai mtm p0 msm mon mlt] H := hP
    have hD : va_D _ [wcM b 0 mck mbn mai mtm p0 msm mon mlt] := hD
    refine lv_iload_n hx hb dX4_stall_24 rfl (lv_at hl 0 rfl) ?_
    have hq : f_X4_stall mst p0 = (1, 0, p0) := (by rw [f_X4_stall, if_neg c_10])
    exact W.zret (v := 1) hx hb hr rfl (fun t ht _ => ⟨by rw [hq], by rw [hq, ht]; exact hP, hS.F ht⟩) hS.2.2 dX4_stall_25

/-! X4_smoke -/
def f_X4_smoke_L (p0 : Int32) : Nat → Nat → Int32 → (Nat → Int32) → Int32 × Int32 × Int32 × (Nat → Int32)
  | 0, j, rn, mis1 => (rn, 0, p0, mis1)
  | r + 1, j, rn, mis1 => if (mis1 (nI j).toNatClampNeg) = 0 then f_X4_smoke_L p0 r (j + 1) rn (upd mis1 (nI j).toNatClampNeg 0)
    else if p0 = 0 then f_X4_smoke_L p0 r (j + 1) rn (upd mis1 (nI j).toNatClampNeg 1)
    else f_X4_smoke_L p0 r (j + 1) rn (upd mis1 (nI j).toNatClampNeg 0)
def f_X4_smoke (mis : Nat → Int32) (p0 : Int32) : Int32 × Int32 × Int32 × (Nat → Int32) :=
  if p0 = 0 then f_X4_smoke_L p0 4 0 0 mis
    else f_X4_smoke_L p0 4 0 (f_X4_inside mis) mis
theorem iw_X4_smoke_RX4 : ∀ w ∈ u_ws RX4 TX4 19, w ∈ wsX4_smoke := by decide +kernel
set_option maxHeartbeats 4000000 in
set_option maxRecDepth 100000 in
theorem c_X4_smoke (l : Launch) (G : GT) (b : Nat → Nat) (sz : Nat) (mth : Int32) (mck : Int32) (mbn : Int32) (mai : Int32) (mtm : Int32) (mst : Int32) (msm : Int32) (mon : Int32) (mlt : Int32) (mis : Nat → Int32) (p0 : Int32) (hp : p0 = 0 ∨ p0 = 1) : Met l yX4_smoke wsX4_smoke ({ frames := 1, cells := 0, slots := 0, locals := 22 }) (GP G [.ref (b 0), .int p0] [wcM b mth mck mbn mai mtm mst msm mon mlt, wcZ G (b 7) 4 mis] sz) (MQo G (.returned (some (.int ((f_X4_smoke mis p0).1)))) [wcM b ((f_X4_smoke mis p0).2.1) mck mbn mai mtm mst ((f_X4_smoke mis p0).2.2.1) mon mlt, wcZ G (b 7) 4 ((f_X4_smoke mis p0).2.2.2)] (va_A [wcM b mth mck mbn mai mtm mst msm mon mlt, wcZ G (b 7) 4 mis] sz)) 0 0 (va_A [wcM b mth mck mbn mai mtm mst msm mon mlt, wcZ G (b 7) 4 mis] sz) := by
  refine bodyM (cc := cX4_smoke) (maxL := 4) (ret := (some .int)) (by decide) rfl (Nat.le_of_ble_eq_true rfl) ?_
  intro p e s m below meth c ls C
  obtain ⟨hx, hb, hr, hts, hown, hlocks, hml, hsz, hP, hE, hD, hZ, hA, hS, hl⟩ := C
  subst hsz
  have hl : lv_has ls 4 [(0, .ref (b 0)), (1, .int p0)] := hl
  refine lv_aload_n hx hb dX4_smoke_0 rfl (lv_at hl 0 rfl) ?_
  refine lv_iconst (v := 0) hx hb dX4_smoke_1 (by decide) ?_
  refine va_put (D := G.1) (ci := 4) (v := .int 0) (ty := .int) (C := RX4) (T := TX4) (N := 19) hx hb hts iw_X4_smoke_RX4 tyX4 tyX4_ok nmX4 hown hE.1 hP hD hS 0 rfl rfl 0 (by decide) (hts (.fieldLink RX4 41 "RackrailModel" "thrown" "I") (by decide +kernel)) (fun _ h9 => h9) rfl (by decide +kernel) rfl rfl (Nat.le_of_ble_eq_true rfl) dX4_smoke_2 (fun H locs hP hD hS => ?_)
  have hP : va_P G.1 vwCl [wcM b 0 mck mbn mai mtm mst msm mon mlt, wcZ G (b 7) 4 mis] H := hP
  have hD : va_D _ [wcM b 0 mck mbn mai mtm mst msm mon mlt, wcZ G (b 7) 4 mis] := hD
  refine lv_iload_n hx hb dX4_smoke_5 rfl (lv_at hl 1 rfl) ?_
  refine lv_if_eq (tgt := 16) hx hb dX4_smoke_6 (by decide) (fun c_6 => ?_) (fun c_6 => ?_)
  · refine lv_iconst (v := 0) hx hb dX4_smoke_16 (by decide) ?_
    refine lv_istore_n (lv' := [(2, .int 0), (0, .ref (b 0)), (1, .int p0)]) hx hb dX4_smoke_17 rfl hl (by decide) rfl (fun ls hl => ?_)
    refine lv_aload_n hx hb dX4_smoke_18 rfl (lv_at hl 1 rfl) ?_
    refine lv_iload_n hx hb dX4_smoke_19 rfl (lv_at hl 2 rfl) ?_
    refine va_put (D := G.1) (ci := 4) (v := .int p0) (ty := .boolean) (C := RX4) (T := TX4) (N := 19) hx hb hts iw_X4_smoke_RX4 tyX4 tyX4_ok nmX4 hown hE.1 hP hD hS 0 rfl rfl 11 (by decide) (hts (.fieldLink RX4 96 "RackrailModel" "isSmoke" "Z") (by decide +kernel)) (fun _ h9 => h9) rfl (by decide +kernel) (bool_nar (hp)) (bool_fits (hp)) (Nat.le_of_ble_eq_true rfl) dX4_smoke_20 (fun H locs hP hD hS => ?_)
    have hP : va_P G.1 vwCl [wcM b 0 mck mbn mai mtm mst p0 mon mlt, wcZ G (b 7) 4 mis] H := hP
    have hD : va_D _ [wcM b 0 mck mbn mai mtm mst p0 mon mlt, wcZ G (b 7) 4 mis] := hD
    refine lv_iconst (v := 0) hx hb dX4_smoke_23 (by decide) ?_
    refine lv_istore_n (lv' := [(3, .int 0), (2, .int 0), (0, .ref (b 0)), (1, .int p0)]) hx hb dX4_smoke_24 rfl hl (by decide) rfl (fun ls hl => ?_)
    refine k_loopM (α := Int32 × (Nat → Int32)) (fun (r j : Nat) (x : Int32 × (Nat → Int32)) (H : Heap) (locs : List Loc) (ls : Array Slot) => j + r = 4 ∧ f_X4_smoke mis p0 = f_X4_smoke_L p0 r j x.1 x.2 ∧ lv_has ls 4 [(3, .int (nI j)), (2, .int x.1), (0, .ref (b 0)), (1, .int p0)] ∧ va_P G.1 vwCl [wcM b 0 mck mbn mai mtm mst p0 mon mlt, wcZ G (b 7) 4 x.2] H ∧ va_D (va_A [wcM b mth mck mbn mai mtm mst msm mon mlt, wcZ G (b 7) 4 mis] s.heap.size) [wcM b 0 mck mbn mai mtm mst p0 mon mlt, wcZ G (b 7) 4 x.2] ∧ va_S (va_A [wcM b mth mck mbn mai mtm mst msm mon mlt, wcZ G (b 7) 4 mis] s.heap.size) s.heap H locs) 4 0 (0, mis) ⟨by omega, (by rw [f_X4_smoke, if_pos c_6]), lv_sub hl [0, 1, 2, 3] rfl, hP, hD, hS⟩ ?_ ?_
    · intro j x H locs ls hI
      obtain ⟨rn, mis1⟩ := x
      obtain ⟨hj, hf, hl, hP, hD, hS⟩ := hI
      have hl : lv_has ls 4 [(3, .int (nI j)), (2, .int rn), (0, .ref (b 0)), (1, .int p0)] := hl
      have hf : f_X4_smoke mis p0 = f_X4_smoke_L p0 0 j rn mis1 := hf
      have hP : va_P G.1 vwCl [wcM b 0 mck mbn mai mtm mst p0 mon mlt, wcZ G (b 7) 4 mis1] H := hP
      have hD : va_D _ [wcM b 0 mck mbn mai mtm mst p0 mon mlt, wcZ G (b 7) 4 mis1] := hD
      refine lv_iload_n hx hb dX4_smoke_25 rfl (lv_at hl 0 rfl) ?_
      refine lv_iconst (v := 4) hx hb dX4_smoke_26 (by decide) ?_
      refine lv_icmp_ge (tgt := 60) hx hb dX4_smoke_27 (by decide) (fun c_27 => ?_) (fun c_27 => absurd (lp_a n4_eq (by omega) (by omega)) c_27)
      refine lv_iload_n hx hb dX4_smoke_60 rfl (lv_at hl 1 rfl) ?_
      have hq : f_X4_smoke mis p0 = (rn, 0, p0, mis1) := (hf.trans (by rw [f_X4_smoke_L]))
      exact W.iret (v := rn) hx hb hr (fun t ht _ => ⟨by rw [hq], by rw [hq, ht]; exact hP, hS.F ht⟩) hS.2.2 dX4_smoke_61
    · intro r ih j x H locs ls hI
      obtain ⟨rn, mis1⟩ := x
      obtain ⟨hj, hf, hl, hP, hD, hS⟩ := hI
      have hl : lv_has ls 4 [(3, .int (nI j)), (2, .int rn), (0, .ref (b 0)), (1, .int p0)] := hl
      have hf : f_X4_smoke mis p0 = f_X4_smoke_L p0 (r + 1) j rn mis1 := hf
      have hP : va_P G.1 vwCl [wcM b 0 mck mbn mai mtm mst p0 mon mlt, wcZ G (b 7) 4 mis1] H := hP
      have hD : va_D _ [wcM b 0 mck mbn mai mtm mst p0 mon mlt, wcZ G (b 7) 4 mis1] := hD
      refine lv_iload_n hx hb dX4_smoke_25 rfl (lv_at hl 0 rfl) ?_
      refine lv_iconst (v := 4) hx hb dX4_smoke_26 (by decide) ?_
      refine lv_icmp_ge (tgt := 60) hx hb dX4_smoke_27 (by decide) (fun c_27 => absurd c_27 (lp_b (r := r) n4_eq (by omega) (by omega))) (fun c_27 => ?_)
      refine lv_aload_n hx hb dX4_smoke_30 rfl (lv_at hl 2 rfl) ?_
      refine va_get (D := G.1) (ci := 4) (v := .ref (b 7)) (C := RX4) (T := TX4) (N := 19) hx hb hts iw_X4_smoke_RX4 hown hE.1 hP 0 rfl rfl 13 (by decide) (hts (.fieldLink RX4 29 "RackrailModel" "isInside" "[Z") (by decide +kernel)) (fun _ h9 => h9) rfl dX4_smoke_31 ?_
      refine lv_iload_n hx hb dX4_smoke_34 rfl (lv_at hl 0 rfl) ?_
      refine lv_aload_n hx hb dX4_smoke_35 rfl (lv_at hl 2 rfl) ?_
      refine va_get (D := G.1) (ci := 4) (v := .ref (b 7)) (C := RX4) (T := TX4) (N := 19) hx hb hts iw_X4_smoke_RX4 hown hE.1 hP 0 rfl rfl 13 (by decide) (hts (.fieldLink RX4 29 "RackrailModel" "isInside" "[Z") (by decide +kernel)) (fun _ h9 => h9) rfl dX4_smoke_36 ?_
      refine lv_iload_n hx hb dX4_smoke_39 rfl (lv_at hl 0 rfl) ?_
      refine va_zald hx hb hE.1 hP 1 1 rfl rfl (vp_in_nI (by omega) (by decide)) dX4_smoke_40 ?_
      refine lv_if_eq (tgt := 52) hx hb dX4_smoke_41 (by decide) (fun c_41 => ?_) (fun c_41 => ?_)
      · refine lv_iconst (v := 0) hx hb dX4_smoke_52 (by decide) ?_
        refine va_zast hx hb hE.1 hP hD hS 1 1 rfl rfl (vp_in_nI (by omega) (by decide)) dX4_smoke_53 (fun H locs hP hD hS => ?_)
        have hP : va_P G.1 vwCl [wcM b 0 mck mbn mai mtm mst p0 mon mlt, wcZ G (b 7) 4 (upd mis1 (nI j).toNatClampNeg 0)] H := hP
        have hD : va_D _ [wcM b 0 mck mbn mai mtm mst p0 mon mlt, wcZ G (b 7) 4 (upd mis1 (nI j).toNatClampNeg 0)] := hD
        refine lv_iinc (v := nI (j + 1)) (lv' := [(3, .int (nI (j + 1))), (2, .int rn), (0, .ref (b 0)), (1, .int p0)]) hx hb dX4_smoke_54 hl (k := 0) rfl (inc1 _) (by decide) rfl (fun ls hl => ?_)
        refine lv_goto (tgt := 25) hx hb dX4_smoke_57 (by decide) ?_
        exact ih (j + 1) (rn, upd mis1 (nI j).toNatClampNeg 0) _ _ _ ⟨by omega, (hf.trans (by rw [f_X4_smoke_L, if_pos c_41])), lv_sub hl [0, 1, 2, 3] rfl, hP, hD, hS⟩
      · refine lv_iload_n hx hb dX4_smoke_44 rfl (lv_at hl 3 rfl) ?_
        refine lv_if_ne (tgt := 52) hx hb dX4_smoke_45 (by decide) (fun c_45 => ?_) (fun c_45 => ?_)
        · refine lv_iconst (v := 0) hx hb dX4_smoke_52 (by decide) ?_
          refine va_zast hx hb hE.1 hP hD hS 1 1 rfl rfl (vp_in_nI (by omega) (by decide)) dX4_smoke_53 (fun H locs hP hD hS => ?_)
          have hP : va_P G.1 vwCl [wcM b 0 mck mbn mai mtm mst p0 mon mlt, wcZ G (b 7) 4 (upd mis1 (nI j).toNatClampNeg 0)] H := hP
          have hD : va_D _ [wcM b 0 mck mbn mai mtm mst p0 mon mlt, wcZ G (b 7) 4 (upd mis1 (nI j).toNatClampNeg 0)] := hD
          refine lv_iinc (v := nI (j + 1)) (lv' := [(3, .int (nI (j + 1))), (2, .int rn), (0, .ref (b 0)), (1, .int p0)]) hx hb dX4_smoke_54 hl (k := 0) rfl (inc1 _) (by decide) rfl (fun ls hl => ?_)
          refine lv_goto (tgt := 25) hx hb dX4_smoke_57 (by decide) ?_
          exact ih (j + 1) (rn, upd mis1 (nI j).toNatClampNeg 0) _ _ _ ⟨by omega, (hf.trans (by rw [f_X4_smoke_L, if_neg c_41, if_neg c_45])), lv_sub hl [0, 1, 2, 3] rfl, hP, hD, hS⟩
        · refine lv_iconst (v := 1) hx hb dX4_smoke_48 (by decide) ?_
          refine lv_goto (tgt := 53) hx hb dX4_smoke_49 (by decide) ?_
          refine va_zast hx hb hE.1 hP hD hS 1 1 rfl rfl (vp_in_nI (by omega) (by decide)) dX4_smoke_53 (fun H locs hP hD hS => ?_)
          have hP : va_P G.1 vwCl [wcM b 0 mck mbn mai mtm mst p0 mon mlt, wcZ G (b 7) 4 (upd mis1 (nI j).toNatClampNeg 1)] H := hP
          have hD : va_D _ [wcM b 0 mck mbn mai mtm mst p0 mon mlt, wcZ G (b 7) 4 (upd mis1 (nI j).toNatClampNeg 1)] := hD
          refine lv_iinc (v := nI (j + 1)) (lv' := [(3, .int (nI (j + 1))), (2, .int rn), (0, .ref (b 0)), (1, .int p0)]) hx hb dX4_smoke_54 hl (k := 0) rfl (inc1 _) (by decide) rfl (fun ls hl => ?_)
          refine lv_goto (tgt := 25) hx hb dX4_smoke_57 (by decide) ?_
          exact ih (j + 1) (rn, upd mis1 (nI j).toNatClampNeg 1) _ _ _ ⟨by omega, (hf.trans (by rw [f_X4_smoke_L, if_neg c_41, if_pos c_45])), lv_sub hl [0, 1, 2, 3] rfl, hP, hD, hS⟩
  · refine lv_aload_n hx hb dX4_smoke_9 rfl (lv_at hl 0 rfl) ?_
    refine k_p (va_runV (As := []) (rest := []) ⟨hx, hb, hml, hown, hts⟩ (c_X4_inside l G b H.size 0 mck mbn mai mtm mst msm mon mlt mis) (cwV 0 hts gX4_smoke_X4_inside rfl rfl rfl ⟨rfl, by decide +kernel, by decide +kernel, by decide +kernel⟩ ⟨Nat.le_of_ble_eq_true rfl, Nat.le_of_ble_eq_true rfl⟩) ⟨GP.blind, va_recv hE.1 hP (ci := 4) (q0 := 0) rfl rfl, GP.go (wc := [wcM b 0 mck mbn mai mtm mst msm mon mlt, wcZ G (b 7) 4 mis]) hE hZ hP hD hS hA [0, 1] rfl (by decide) [.ref (b 0)]⟩ rfl rfl hl.1 rfl (lv_room (Nat.le_of_ble_eq_true rfl)) dX4_smoke_10 ⟨Nat.le_of_ble_eq_true rfl, Nat.le_of_ble_eq_true rfl⟩) ?_
    refine lv_goto (tgt := 17) hx hb dX4_smoke_13 (by decide) ?_
    refine lv_istore_n (lv' := [(2, .int (f_X4_inside mis)), (0, .ref (b 0)), (1, .int p0)]) hx hb dX4_smoke_17 rfl hl (by decide) rfl (fun ls hl => ?_)
    refine lv_aload_n hx hb dX4_smoke_18 rfl (lv_at hl 1 rfl) ?_
    refine lv_iload_n hx hb dX4_smoke_19 rfl (lv_at hl 2 rfl) ?_
    refine va_put (D := G.1) (ci := 4) (v := .int p0) (ty := .boolean) (C := RX4) (T := TX4) (N := 19) hx hb hts iw_X4_smoke_RX4 tyX4 tyX4_ok nmX4 hown hE.1 hP hD hS 0 rfl rfl 11 (by decide) (hts (.fieldLink RX4 96 "RackrailModel" "isSmoke" "Z") (by decide +kernel)) (fun _ h9 => h9) rfl (by decide +kernel) (bool_nar (hp)) (bool_fits (hp)) (Nat.le_of_ble_eq_true rfl) dX4_smoke_20 (fun H locs hP hD hS => ?_)
    have hP : va_P G.1 vwCl [wcM b 0 mck mbn mai mtm mst p0 mon mlt, wcZ G (b 7) 4 mis] H := hP
    have hD : va_D _ [wcM b 0 mck mbn mai mtm mst p0 mon mlt, wcZ G (b 7) 4 mis] := hD
    refine lv_iconst (v := 0) hx hb dX4_smoke_23 (by decide) ?_
    refine lv_istore_n (lv' := [(3, .int 0), (2, .int (f_X4_inside mis)), (0, .ref (b 0)), (1, .int p0)]) hx hb dX4_smoke_24 rfl hl (by decide) rfl (fun ls hl => ?_)
    refine k_loopM (α := Int32 × (Nat → Int32)) (fun (r j : Nat) (x : Int32 × (Nat → Int32)) (H : Heap) (locs : List Loc) (ls : Array Slot) => j + r = 4 ∧ f_X4_smoke mis p0 = f_X4_smoke_L p0 r j x.1 x.2 ∧ lv_has ls 4 [(3, .int (nI j)), (2, .int x.1), (0, .ref (b 0)), (1, .int p0)] ∧ va_P G.1 vwCl [wcM b 0 mck mbn mai mtm mst p0 mon mlt, wcZ G (b 7) 4 x.2] H ∧ va_D (va_A [wcM b mth mck mbn mai mtm mst msm mon mlt, wcZ G (b 7) 4 mis] s.heap.size) [wcM b 0 mck mbn mai mtm mst p0 mon mlt, wcZ G (b 7) 4 x.2] ∧ va_S (va_A [wcM b mth mck mbn mai mtm mst msm mon mlt, wcZ G (b 7) 4 mis] s.heap.size) s.heap H locs) 4 0 (f_X4_inside mis, mis) ⟨by omega, (by rw [f_X4_smoke, if_neg c_6]), lv_sub hl [0, 1, 2, 3] rfl, hP, hD, hS⟩ ?_ ?_
    · intro j x H locs ls hI
      obtain ⟨rn, mis1⟩ := x
      obtain ⟨hj, hf, hl, hP, hD, hS⟩ := hI
      have hl : lv_has ls 4 [(3, .int (nI j)), (2, .int rn), (0, .ref (b 0)), (1, .int p0)] := hl
      have hf : f_X4_smoke mis p0 = f_X4_smoke_L p0 0 j rn mis1 := hf
      have hP : va_P G.1 vwCl [wcM b 0 mck mbn mai mtm mst p0 mon mlt, wcZ G (b 7) 4 mis1] H := hP
      have hD : va_D _ [wcM b 0 mck mbn mai mtm mst p0 mon mlt, wcZ G (b 7) 4 mis1] := hD
      refine lv_iload_n hx hb dX4_smoke_25 rfl (lv_at hl 0 rfl) ?_
      refine lv_iconst (v := 4) hx hb dX4_smoke_26 (by decide) ?_
      refine lv_icmp_ge (tgt := 60) hx hb dX4_smoke_27 (by decide) (fun c_27 => ?_) (fun c_27 => absurd (lp_a n4_eq (by omega) (by omega)) c_27)
      refine lv_iload_n hx hb dX4_smoke_60 rfl (lv_at hl 1 rfl) ?_
      have hq : f_X4_smoke mis p0 = (rn, 0, p0, mis1) := (hf.trans (by rw [f_X4_smoke_L]))
      exact W.iret (v := rn) hx hb hr (fun t ht _ => ⟨by rw [hq], by rw [hq, ht]; exact hP, hS.F ht⟩) hS.2.2 dX4_smoke_61
    · intro r ih j x H locs ls hI
      obtain ⟨rn, mis1⟩ := x
      obtain ⟨hj, hf, hl, hP, hD, hS⟩ := hI
      have hl : lv_has ls 4 [(3, .int (nI j)), (2, .int rn), (0, .ref (b 0)), (1, .int p0)] := hl
      have hf : f_X4_smoke mis p0 = f_X4_smoke_L p0 (r + 1) j rn mis1 := hf
      have hP : va_P G.1 vwCl [wcM b 0 mck mbn mai mtm mst p0 mon mlt, wcZ G (b 7) 4 mis1] H := hP
      have hD : va_D _ [wcM b 0 mck mbn mai mtm mst p0 mon mlt, wcZ G (b 7) 4 mis1] := hD
      refine lv_iload_n hx hb dX4_smoke_25 rfl (lv_at hl 0 rfl) ?_
      refine lv_iconst (v := 4) hx hb dX4_smoke_26 (by decide) ?_
      refine lv_icmp_ge (tgt := 60) hx hb dX4_smoke_27 (by decide) (fun c_27 => absurd c_27 (lp_b (r := r) n4_eq (by omega) (by omega))) (fun c_27 => ?_)
      refine lv_aload_n hx hb dX4_smoke_30 rfl (lv_at hl 2 rfl) ?_
      refine va_get (D := G.1) (ci := 4) (v := .ref (b 7)) (C := RX4) (T := TX4) (N := 19) hx hb hts iw_X4_smoke_RX4 hown hE.1 hP 0 rfl rfl 13 (by decide) (hts (.fieldLink RX4 29 "RackrailModel" "isInside" "[Z") (by decide +kernel)) (fun _ h9 => h9) rfl dX4_smoke_31 ?_
      refine lv_iload_n hx hb dX4_smoke_34 rfl (lv_at hl 0 rfl) ?_
      refine lv_aload_n hx hb dX4_smoke_35 rfl (lv_at hl 2 rfl) ?_
      refine va_get (D := G.1) (ci := 4) (v := .ref (b 7)) (C := RX4) (T := TX4) (N := 19) hx hb hts iw_X4_smoke_RX4 hown hE.1 hP 0 rfl rfl 13 (by decide) (hts (.fieldLink RX4 29 "RackrailModel" "isInside" "[Z") (by decide +kernel)) (fun _ h9 => h9) rfl dX4_smoke_36 ?_
      refine lv_iload_n hx hb dX4_smoke_39 rfl (lv_at hl 0 rfl) ?_
      refine va_zald hx hb hE.1 hP 1 1 rfl rfl (vp_in_nI (by omega) (by decide)) dX4_smoke_40 ?_
      refine lv_if_eq (tgt := 52) hx hb dX4_smoke_41 (by decide) (fun c_41 => ?_) (fun c_41 => ?_)
      · refine lv_iconst (v := 0) hx hb dX4_smoke_52 (by decide) ?_
        refine va_zast hx hb hE.1 hP hD hS 1 1 rfl rfl (vp_in_nI (by omega) (by decide)) dX4_smoke_53 (fun H locs hP hD hS => ?_)
        have hP : va_P G.1 vwCl [wcM b 0 mck mbn mai mtm mst p0 mon mlt, wcZ G (b 7) 4 (upd mis1 (nI j).toNatClampNeg 0)] H := hP
        have hD : va_D _ [wcM b 0 mck mbn mai mtm mst p0 mon mlt, wcZ G (b 7) 4 (upd mis1 (nI j).toNatClampNeg 0)] := hD
        refine lv_iinc (v := nI (j + 1)) (lv' := [(3, .int (nI (j + 1))), (2, .int rn), (0, .ref (b 0)), (1, .int p0)]) hx hb dX4_smoke_54 hl (k := 0) rfl (inc1 _) (by decide) rfl (fun ls hl => ?_)
        refine lv_goto (tgt := 25) hx hb dX4_smoke_57 (by decide) ?_
        exact ih (j + 1) (rn, upd mis1 (nI j).toNatClampNeg 0) _ _ _ ⟨by omega, (hf.trans (by rw [f_X4_smoke_L, if_pos c_41])), lv_sub hl [0, 1, 2, 3] rfl, hP, hD, hS⟩
      · refine lv_iload_n hx hb dX4_smoke_44 rfl (lv_at hl 3 rfl) ?_
        refine lv_if_ne (tgt := 52) hx hb dX4_smoke_45 (by decide) (fun c_45 => ?_) (fun c_45 => ?_)
        · refine lv_iconst (v := 0) hx hb dX4_smoke_52 (by decide) ?_
          refine va_zast hx hb hE.1 hP hD hS 1 1 rfl rfl (vp_in_nI (by omega) (by decide)) dX4_smoke_53 (fun H locs hP hD hS => ?_)
          have hP : va_P G.1 vwCl [wcM b 0 mck mbn mai mtm mst p0 mon mlt, wcZ G (b 7) 4 (upd mis1 (nI j).toNatClampNeg 0)] H := hP
          have hD : va_D _ [wcM b 0 mck mbn mai mtm mst p0 mon mlt, wcZ G (b 7) 4 (upd mis1 (nI j).toNatClampNeg 0)] := hD
          refine lv_iinc (v := nI (j + 1)) (lv' := [(3, .int (nI (j + 1))), (2, .int rn), (0, .ref (b 0)), (1, .int p0)]) hx hb dX4_smoke_54 hl (k := 0) rfl (inc1 _) (by decide) rfl (fun ls hl => ?_)
          refine lv_goto (tgt := 25) hx hb dX4_smoke_57 (by decide) ?_
          exact ih (j + 1) (rn, upd mis1 (nI j).toNatClampNeg 0) _ _ _ ⟨by omega, (hf.trans (by rw [f_X4_smoke_L, if_neg c_41, if_neg c_45])), lv_sub hl [0, 1, 2, 3] rfl, hP, hD, hS⟩
        · refine lv_iconst (v := 1) hx hb dX4_smoke_48 (by decide) ?_
          refine lv_goto (tgt := 53) hx hb dX4_smoke_49 (by decide) ?_
          refine va_zast hx hb hE.1 hP hD hS 1 1 rfl rfl (vp_in_nI (by omega) (by decide)) dX4_smoke_53 (fun H locs hP hD hS => ?_)
          have hP : va_P G.1 vwCl [wcM b 0 mck mbn mai mtm mst p0 mon mlt, wcZ G (b 7) 4 (upd mis1 (nI j).toNatClampNeg 1)] H := hP
          have hD : va_D _ [wcM b 0 mck mbn mai mtm mst p0 mon mlt, wcZ G (b 7) 4 (upd mis1 (nI j).toNatClampNeg 1)] := hD
          refine lv_iinc (v := nI (j + 1)) (lv' := [(3, .int (nI (j + 1))), (2, .int rn), (0, .ref (b 0)), (1, .int p0)]) hx hb dX4_smoke_54 hl (k := 0) rfl (inc1 _) (by decide) rfl (fun ls hl => ?_)
          refine lv_goto (tgt := 25) hx hb dX4_smoke_57 (by decide) ?_
          exact ih (j + 1) (rn, upd mis1 (nI j).toNatClampNeg 1) _ _ _ ⟨by omega, (hf.trans (by rw [f_X4_smoke_L, if_neg c_41, if_pos c_45])), lv_sub hl [0, 1, 2, 3] rfl, hP, hD, hS⟩

/-! X4_pass -/
def f_X4_pass (mck : Int32) (mtm : Int32) (mst : Int32) (msm : Int32) (p0 : Int32) : Int32 × Int32 × Int32 × Int32 :=
  if (f_X4_in p0 1 100) = 0 then (0, 1, mck, mtm)
    else if (mck + p0) ≤ 10000 then (if mst = 0 then (if msm = 0 then (if mtm ≤ p0 then (mck + p0, 0, mck + p0, 0)
          else (mck + p0, 0, mck + p0, mtm - p0))
        else (mck + p0, 0, mck + p0, mtm))
      else (mck + p0, 0, mck + p0, mtm))
    else (0, 2, mck, mtm)
theorem iw_X4_pass_RX4 : ∀ w ∈ u_ws RX4 TX4 19, w ∈ wsX4_pass := by decide +kernel
set_option maxHeartbeats 4000000 in
set_option maxRecDepth 100000 in
theorem c_X4_pass (l : Launch) (G : GT) (b : Nat → Nat) (sz : Nat) (mth : Int32) (mck : Int32) (mbn : Int32) (mai : Int32) (mtm : Int32) (mst : Int32) (msm : Int32) (mon : Int32) (mlt : Int32) (p0 : Int32) : Met l yX4_pass wsX4_pass ({ frames := 1, cells := 0, slots := 0, locals := 22 }) (GP G [.ref (b 0), .int p0] [wcM b mth mck mbn mai mtm mst msm mon mlt] sz) (MQo G (.returned (some (.int ((f_X4_pass mck mtm mst msm p0).1)))) [wcM b ((f_X4_pass mck mtm mst msm p0).2.1) ((f_X4_pass mck mtm mst msm p0).2.2.1) mbn mai ((f_X4_pass mck mtm mst msm p0).2.2.2) mst msm mon mlt] (va_A [wcM b mth mck mbn mai mtm mst msm mon mlt] sz)) 0 0 (va_A [wcM b mth mck mbn mai mtm mst msm mon mlt] sz) := by
  refine bodyM (cc := cX4_pass) (maxL := 2) (ret := (some .int)) (by decide) rfl (Nat.le_of_ble_eq_true rfl) ?_
  intro p e s m below meth c ls C
  obtain ⟨hx, hb, hr, hts, hown, hlocks, hml, hsz, hP, hE, hD, hZ, hA, hS, hl⟩ := C
  subst hsz
  have hl : lv_has ls 2 [(0, .ref (b 0)), (1, .int p0)] := hl
  refine lv_aload_n hx hb dX4_pass_0 rfl (lv_at hl 0 rfl) ?_
  refine lv_iload_n hx hb dX4_pass_1 rfl (lv_at hl 1 rfl) ?_
  refine lv_iconst (v := 1) hx hb dX4_pass_2 (by decide) ?_
  refine lv_bipush (v := 100) hx hb dX4_pass_3 (by decide) ?_
  refine k_p (va_runS (As := [.int p0, .int 1, .int 100]) (rest := [.ref (b 0)]) ⟨hx, hb, hml, hown, hts⟩ (c_X4_in l G s.heap.size p0 1 100) (va_cwS 3 hts gX4_pass_X4_in rfl rfl rfl ⟨by decide +kernel, by decide +kernel, by decide +kernel⟩ ⟨Nat.le_of_ble_eq_true rfl, Nat.le_of_ble_eq_true rfl⟩) ⟨GP.blind, GP.go (wc := []) hE hZ hP hD hS hA [] rfl (by decide) [.int p0, .int 1, .int 100]⟩ rfl rfl hl.1 rfl (lv_room (Nat.le_of_ble_eq_true rfl)) dX4_pass_5 ⟨Nat.le_of_ble_eq_true rfl, Nat.le_of_ble_eq_true rfl⟩) ?_
  refine lv_if_ne (tgt := 15) hx hb dX4_pass_8 (by decide) (fun c_8 => ?_) (fun c_8 => ?_)
  · refine lv_aload_n hx hb dX4_pass_15 rfl (lv_at hl 0 rfl) ?_
    refine va_get (D := G.1) (ci := 4) (v := .int mck) (C := RX4) (T := TX4) (N := 19) hx hb hts iw_X4_pass_RX4 hown hE.1 hP 0 rfl rfl 1 (by decide) (hts (.fieldLink RX4 105 "RackrailModel" "clock" "I") (by decide +kernel)) (fun _ h9 => h9) rfl dX4_pass_16 ?_
    refine lv_iload_n hx hb dX4_pass_19 rfl (lv_at hl 1 rfl) ?_
    refine lv_iadd hx hb dX4_pass_20 ?_
    refine lv_sipush (v := 10000) hx hb dX4_pass_21 (by decide) ?_
    refine lv_icmp_le (tgt := 31) hx hb dX4_pass_24 (by decide) (fun c_24 => ?_) (fun c_24 => ?_)
    · refine lv_iconst (v := 0) hx hb dX4_pass_31 (by decide) ?_
      refine va_put (D := G.1) (ci := 4) (v := .int 0) (ty := .int) (C := RX4) (T := TX4) (N := 19) hx hb hts iw_X4_pass_RX4 tyX4 tyX4_ok nmX4 hown hE.1 hP hD hS 0 rfl rfl 0 (by decide) (hts (.fieldLink RX4 41 "RackrailModel" "thrown" "I") (by decide +kernel)) (fun _ h9 => h9) rfl (by decide +kernel) rfl rfl (Nat.le_of_ble_eq_true rfl) dX4_pass_32 (fun H locs hP hD hS => ?_)
      have hP : va_P G.1 vwCl [wcM b 0 mck mbn mai mtm mst msm mon mlt] H := hP
      have hD : va_D _ [wcM b 0 mck mbn mai mtm mst msm mon mlt] := hD
      refine lv_aload_n hx hb dX4_pass_35 rfl (lv_at hl 0 rfl) ?_
      refine va_get (D := G.1) (ci := 4) (v := .int 0) (C := RX4) (T := TX4) (N := 19) hx hb hts iw_X4_pass_RX4 hown hE.1 hP 0 rfl rfl 0 (by decide) (hts (.fieldLink RX4 41 "RackrailModel" "thrown" "I") (by decide +kernel)) (fun _ h9 => h9) rfl dX4_pass_36 ?_
      refine lv_if_le (tgt := 44) hx hb dX4_pass_39 (by decide) (fun c_39 => ?_) (fun c_39 => absurd (by decide) c_39)
      refine lv_aload_n hx hb dX4_pass_44 rfl (lv_at hl 0 rfl) ?_
      refine lv_dup hx hb dX4_pass_45 rfl ?_
      refine va_get (D := G.1) (ci := 4) (v := .int mck) (C := RX4) (T := TX4) (N := 19) hx hb hts iw_X4_pass_RX4 hown hE.1 hP 0 rfl rfl 1 (by decide) (hts (.fieldLink RX4 105 "RackrailModel" "clock" "I") (by decide +kernel)) (fun _ h9 => h9) rfl dX4_pass_46 ?_
      refine lv_iload_n hx hb dX4_pass_49 rfl (lv_at hl 1 rfl) ?_
      refine lv_iadd hx hb dX4_pass_50 ?_
      refine va_put (D := G.1) (ci := 4) (v := .int (mck + p0)) (ty := .int) (C := RX4) (T := TX4) (N := 19) hx hb hts iw_X4_pass_RX4 tyX4 tyX4_ok nmX4 hown hE.1 hP hD hS 0 rfl rfl 1 (by decide) (hts (.fieldLink RX4 105 "RackrailModel" "clock" "I") (by decide +kernel)) (fun _ h9 => h9) rfl (by decide +kernel) rfl rfl (Nat.le_of_ble_eq_true rfl) dX4_pass_51 (fun H locs hP hD hS => ?_)
      have hP : va_P G.1 vwCl [wcM b 0 (mck + p0) mbn mai mtm mst msm mon mlt] H := hP
      have hD : va_D _ [wcM b 0 (mck + p0) mbn mai mtm mst msm mon mlt] := hD
      refine lv_aload_n hx hb dX4_pass_54 rfl (lv_at hl 0 rfl) ?_
      refine va_get (D := G.1) (ci := 4) (v := .int mst) (C := RX4) (T := TX4) (N := 19) hx hb hts iw_X4_pass_RX4 hown hE.1 hP 0 rfl rfl 10 (by decide) (hts (.fieldLink RX4 92 "RackrailModel" "isStalled" "Z") (by decide +kernel)) (fun _ h9 => h9) rfl dX4_pass_55 ?_
      refine lv_if_ne (tgt := 90) hx hb dX4_pass_58 (by decide) (fun c_58 => ?_) (fun c_58 => ?_)
      · refine lv_aload_n hx hb dX4_pass_90 rfl (lv_at hl 0 rfl) ?_
        refine va_get (D := G.1) (ci := 4) (v := .int (mck + p0)) (C := RX4) (T := TX4) (N := 19) hx hb hts iw_X4_pass_RX4 hown hE.1 hP 0 rfl rfl 1 (by decide) (hts (.fieldLink RX4 105 "RackrailModel" "clock" "I") (by decide +kernel)) (fun _ h9 => h9) rfl dX4_pass_91 ?_
        have hq : f_X4_pass mck mtm mst msm p0 = (mck + p0, 0, mck + p0, mtm) := (by rw [f_X4_pass, if_neg c_8, if_pos c_24, if_neg c_58])
        exact W.iret (v := mck + p0) hx hb hr (fun t ht _ => ⟨by rw [hq], by rw [hq, ht]; exact hP, hS.F ht⟩) hS.2.2 dX4_pass_94
      · refine lv_aload_n hx hb dX4_pass_61 rfl (lv_at hl 0 rfl) ?_
        refine va_get (D := G.1) (ci := 4) (v := .int msm) (C := RX4) (T := TX4) (N := 19) hx hb hts iw_X4_pass_RX4 hown hE.1 hP 0 rfl rfl 11 (by decide) (hts (.fieldLink RX4 96 "RackrailModel" "isSmoke" "Z") (by decide +kernel)) (fun _ h9 => h9) rfl dX4_pass_62 ?_
        refine lv_if_ne (tgt := 90) hx hb dX4_pass_65 (by decide) (fun c_65 => ?_) (fun c_65 => ?_)
        · refine lv_aload_n hx hb dX4_pass_90 rfl (lv_at hl 0 rfl) ?_
          refine va_get (D := G.1) (ci := 4) (v := .int (mck + p0)) (C := RX4) (T := TX4) (N := 19) hx hb hts iw_X4_pass_RX4 hown hE.1 hP 0 rfl rfl 1 (by decide) (hts (.fieldLink RX4 105 "RackrailModel" "clock" "I") (by decide +kernel)) (fun _ h9 => h9) rfl dX4_pass_91 ?_
          have hq : f_X4_pass mck mtm mst msm p0 = (mck + p0, 0, mck + p0, mtm) := (by rw [f_X4_pass, if_neg c_8, if_pos c_24, if_pos c_58, if_neg c_65])
          exact W.iret (v := mck + p0) hx hb hr (fun t ht _ => ⟨by rw [hq], by rw [hq, ht]; exact hP, hS.F ht⟩) hS.2.2 dX4_pass_94
        · refine lv_aload_n hx hb dX4_pass_68 rfl (lv_at hl 0 rfl) ?_
          refine lv_aload_n hx hb dX4_pass_69 rfl (lv_at hl 0 rfl) ?_
          refine va_get (D := G.1) (ci := 4) (v := .int mtm) (C := RX4) (T := TX4) (N := 19) hx hb hts iw_X4_pass_RX4 hown hE.1 hP 0 rfl rfl 9 (by decide) (hts (.fieldLink RX4 86 "RackrailModel" "toMove" "I") (by decide +kernel)) (fun _ h9 => h9) rfl dX4_pass_70 ?_
          refine lv_iload_n hx hb dX4_pass_73 rfl (lv_at hl 1 rfl) ?_
          refine lv_icmp_le (tgt := 86) hx hb dX4_pass_74 (by decide) (fun c_74 => ?_) (fun c_74 => ?_)
          · refine lv_iconst (v := 0) hx hb dX4_pass_86 (by decide) ?_
            refine va_put (D := G.1) (ci := 4) (v := .int 0) (ty := .int) (C := RX4) (T := TX4) (N := 19) hx hb hts iw_X4_pass_RX4 tyX4 tyX4_ok nmX4 hown hE.1 hP hD hS 0 rfl rfl 9 (by decide) (hts (.fieldLink RX4 86 "RackrailModel" "toMove" "I") (by decide +kernel)) (fun _ h9 => h9) rfl (by decide +kernel) rfl rfl (Nat.le_of_ble_eq_true rfl) dX4_pass_87 (fun H locs hP hD hS => ?_)
            have hP : va_P G.1 vwCl [wcM b 0 (mck + p0) mbn mai 0 mst msm mon mlt] H := hP
            have hD : va_D _ [wcM b 0 (mck + p0) mbn mai 0 mst msm mon mlt] := hD
            refine lv_aload_n hx hb dX4_pass_90 rfl (lv_at hl 0 rfl) ?_
            refine va_get (D := G.1) (ci := 4) (v := .int (mck + p0)) (C := RX4) (T := TX4) (N := 19) hx hb hts iw_X4_pass_RX4 hown hE.1 hP 0 rfl rfl 1 (by decide) (hts (.fieldLink RX4 105 "RackrailModel" "clock" "I") (by decide +kernel)) (fun _ h9 => h9) rfl dX4_pass_91 ?_
            have hq : f_X4_pass mck mtm mst msm p0 = (mck + p0, 0, mck + p0, 0) := (by rw [f_X4_pass, if_neg c_8, if_pos c_24, if_pos c_58, if_pos c_65, if_pos c_74])
            exact W.iret (v := mck + p0) hx hb hr (fun t ht _ => ⟨by rw [hq], by rw [hq, ht]; exact hP, hS.F ht⟩) hS.2.2 dX4_pass_94
          · refine lv_aload_n hx hb dX4_pass_77 rfl (lv_at hl 0 rfl) ?_
            refine va_get (D := G.1) (ci := 4) (v := .int mtm) (C := RX4) (T := TX4) (N := 19) hx hb hts iw_X4_pass_RX4 hown hE.1 hP 0 rfl rfl 9 (by decide) (hts (.fieldLink RX4 86 "RackrailModel" "toMove" "I") (by decide +kernel)) (fun _ h9 => h9) rfl dX4_pass_78 ?_
            refine lv_iload_n hx hb dX4_pass_81 rfl (lv_at hl 1 rfl) ?_
            refine lv_isub hx hb dX4_pass_82 ?_
            refine lv_goto (tgt := 87) hx hb dX4_pass_83 (by decide) ?_
            refine va_put (D := G.1) (ci := 4) (v := .int (mtm - p0)) (ty := .int) (C := RX4) (T := TX4) (N := 19) hx hb hts iw_X4_pass_RX4 tyX4 tyX4_ok nmX4 hown hE.1 hP hD hS 0 rfl rfl 9 (by decide) (hts (.fieldLink RX4 86 "RackrailModel" "toMove" "I") (by decide +kernel)) (fun _ h9 => h9) rfl (by decide +kernel) rfl rfl (Nat.le_of_ble_eq_true rfl) dX4_pass_87 (fun H locs hP hD hS => ?_)
            have hP : va_P G.1 vwCl [wcM b 0 (mck + p0) mbn mai (mtm - p0) mst msm mon mlt] H := hP
            have hD : va_D _ [wcM b 0 (mck + p0) mbn mai (mtm - p0) mst msm mon mlt] := hD
            refine lv_aload_n hx hb dX4_pass_90 rfl (lv_at hl 0 rfl) ?_
            refine va_get (D := G.1) (ci := 4) (v := .int (mck + p0)) (C := RX4) (T := TX4) (N := 19) hx hb hts iw_X4_pass_RX4 hown hE.1 hP 0 rfl rfl 1 (by decide) (hts (.fieldLink RX4 105 "RackrailModel" "clock" "I") (by decide +kernel)) (fun _ h9 => h9) rfl dX4_pass_91 ?_
            have hq : f_X4_pass mck mtm mst msm p0 = (mck + p0, 0, mck + p0, mtm - p0) := (by rw [f_X4_pass, if_neg c_8, if_pos c_24, if_pos c_58, if_pos c_65, if_neg c_74])
            exact W.iret (v := mck + p0) hx hb hr (fun t ht _ => ⟨by rw [hq], by rw [hq, ht]; exact hP, hS.F ht⟩) hS.2.2 dX4_pass_94
    · refine lv_iconst (v := 2) hx hb dX4_pass_27 (by decide) ?_
      refine lv_goto (tgt := 32) hx hb dX4_pass_28 (by decide) ?_
      refine va_put (D := G.1) (ci := 4) (v := .int 2) (ty := .int) (C := RX4) (T := TX4) (N := 19) hx hb hts iw_X4_pass_RX4 tyX4 tyX4_ok nmX4 hown hE.1 hP hD hS 0 rfl rfl 0 (by decide) (hts (.fieldLink RX4 41 "RackrailModel" "thrown" "I") (by decide +kernel)) (fun _ h9 => h9) rfl (by decide +kernel) rfl rfl (Nat.le_of_ble_eq_true rfl) dX4_pass_32 (fun H locs hP hD hS => ?_)
      have hP : va_P G.1 vwCl [wcM b 2 mck mbn mai mtm mst msm mon mlt] H := hP
      have hD : va_D _ [wcM b 2 mck mbn mai mtm mst msm mon mlt] := hD
      refine lv_aload_n hx hb dX4_pass_35 rfl (lv_at hl 0 rfl) ?_
      refine va_get (D := G.1) (ci := 4) (v := .int 2) (C := RX4) (T := TX4) (N := 19) hx hb hts iw_X4_pass_RX4 hown hE.1 hP 0 rfl rfl 0 (by decide) (hts (.fieldLink RX4 41 "RackrailModel" "thrown" "I") (by decide +kernel)) (fun _ h9 => h9) rfl dX4_pass_36 ?_
      refine lv_if_le (tgt := 44) hx hb dX4_pass_39 (by decide) (fun c_39 => absurd c_39 (by decide)) (fun c_39 => ?_)
      refine lv_iconst (v := 0) hx hb dX4_pass_42 (by decide) ?_
      have hq : f_X4_pass mck mtm mst msm p0 = (0, 2, mck, mtm) := (by rw [f_X4_pass, if_neg c_8, if_neg c_24])
      exact W.iret (v := 0) hx hb hr (fun t ht _ => ⟨by rw [hq], by rw [hq, ht]; exact hP, hS.F ht⟩) hS.2.2 dX4_pass_43
  · refine lv_iconst (v := 1) hx hb dX4_pass_11 (by decide) ?_
    refine lv_goto (tgt := 32) hx hb dX4_pass_12 (by decide) ?_
    refine va_put (D := G.1) (ci := 4) (v := .int 1) (ty := .int) (C := RX4) (T := TX4) (N := 19) hx hb hts iw_X4_pass_RX4 tyX4 tyX4_ok nmX4 hown hE.1 hP hD hS 0 rfl rfl 0 (by decide) (hts (.fieldLink RX4 41 "RackrailModel" "thrown" "I") (by decide +kernel)) (fun _ h9 => h9) rfl (by decide +kernel) rfl rfl (Nat.le_of_ble_eq_true rfl) dX4_pass_32 (fun H locs hP hD hS => ?_)
    have hP : va_P G.1 vwCl [wcM b 1 mck mbn mai mtm mst msm mon mlt] H := hP
    have hD : va_D _ [wcM b 1 mck mbn mai mtm mst msm mon mlt] := hD
    refine lv_aload_n hx hb dX4_pass_35 rfl (lv_at hl 0 rfl) ?_
    refine va_get (D := G.1) (ci := 4) (v := .int 1) (C := RX4) (T := TX4) (N := 19) hx hb hts iw_X4_pass_RX4 hown hE.1 hP 0 rfl rfl 0 (by decide) (hts (.fieldLink RX4 41 "RackrailModel" "thrown" "I") (by decide +kernel)) (fun _ h9 => h9) rfl dX4_pass_36 ?_
    refine lv_if_le (tgt := 44) hx hb dX4_pass_39 (by decide) (fun c_39 => absurd c_39 (by decide)) (fun c_39 => ?_)
    refine lv_iconst (v := 0) hx hb dX4_pass_42 (by decide) ?_
    have hq : f_X4_pass mck mtm mst msm p0 = (0, 1, mck, mtm) := (by rw [f_X4_pass, if_pos c_8])
    exact W.iret (v := 0) hx hb hr (fun t ht _ => ⟨by rw [hq], by rw [hq, ht]; exact hP, hS.F ht⟩) hS.2.2 dX4_pass_43

/-! X4_hasOpen -/
def f_X4_hasOpen_L (mob : Nat → Int32) (mdn : Nat → Int32) (p0 : Int32) : Nat → Nat → Int32 → Int32
  | 0, j, iso => iso
  | r + 1, j, iso => if iso = 0 then (if (mob (nI j).toNatClampNeg) = p0 then (if (mdn (nI j).toNatClampNeg) = 0 then f_X4_hasOpen_L mob mdn p0 r (j + 1) 1
        else f_X4_hasOpen_L mob mdn p0 r (j + 1) 0)
      else f_X4_hasOpen_L mob mdn p0 r (j + 1) 0)
    else f_X4_hasOpen_L mob mdn p0 r (j + 1) 1
def f_X4_hasOpen (mon : Int32) (mob : Nat → Int32) (mdn : Nat → Int32) (p0 : Int32) : Int32 :=
  f_X4_hasOpen_L mob mdn p0 mon.toNatClampNeg 0 0
theorem hasOpen_L_b {mob mdn : Nat → Int32} {p0 : Int32} : ∀ (r j : Nat) (iso : Int32), (iso = 0 ∨ iso = 1) → (f_X4_hasOpen_L mob mdn p0 r j iso = 0 ∨ f_X4_hasOpen_L mob mdn p0 r j iso = 1) := by
  intro r
  induction r with
  | zero => intro j iso h; rw [f_X4_hasOpen_L]; exact h
  | succ r ih =>
    intro j iso h
    rw [f_X4_hasOpen_L]
    (repeat' split) <;> first | exact ih _ _ (Or.inl rfl) | exact ih _ _ (Or.inr rfl)
theorem iw_X4_hasOpen_RX4 : ∀ w ∈ u_ws RX4 TX4 19, w ∈ wsX4_hasOpen := by decide +kernel
set_option maxHeartbeats 4000000 in
set_option maxRecDepth 100000 in
theorem c_X4_hasOpen (l : Launch) (G : GT) (b : Nat → Nat) (sz : Nat) (mth : Int32) (mck : Int32) (mbn : Int32) (mai : Int32) (mtm : Int32) (mst : Int32) (msm : Int32) (mon : Int32) (mlt : Int32) (mob : Nat → Int32) (mdn : Nat → Int32) (p0 : Int32) (hmo : okN 30 mon) : Met l yX4_hasOpen wsX4_hasOpen ({ frames := 0, cells := 0, slots := 0, locals := 0 }) (GP G [.ref (b 0), .int p0] [wcM b mth mck mbn mai mtm mst msm mon mlt, wcI G (b 8) 30 mob, wcZ G (b 10) 30 mdn] sz) (PQo (.returned (some (.int (f_X4_hasOpen mon mob mdn p0))))) 0 0 (fun _ => False) := by
  refine bodyM (cc := cX4_hasOpen) (maxL := 4) (ret := (some .boolean)) (by decide) rfl (Nat.le_of_ble_eq_true rfl) ?_
  intro p e s m below meth c ls C
  obtain ⟨hx, hb, hr, hts, hown, hlocks, hml, hsz, hP, hE, hD, hZ, hA, hS, hl⟩ := C
  subst hsz
  have hl : lv_has ls 4 [(0, .ref (b 0)), (1, .int p0)] := hl
  obtain ⟨n, hn, hmo2⟩ := id hmo
  have hcl : mon.toNatClampNeg = n := by rw [hmo2]; exact nI_clamp (by omega)
  refine lv_iconst (v := 0) hx hb dX4_hasOpen_0 (by decide) ?_
  refine lv_istore_n (lv' := [(2, .int 0), (0, .ref (b 0)), (1, .int p0)]) hx hb dX4_hasOpen_1 rfl hl (by decide) rfl (fun ls hl => ?_)
  refine lv_iconst (v := 0) hx hb dX4_hasOpen_2 (by decide) ?_
  refine lv_istore_n (lv' := [(3, .int 0), (2, .int 0), (0, .ref (b 0)), (1, .int p0)]) hx hb dX4_hasOpen_3 rfl hl (by decide) rfl (fun ls hl => ?_)
  refine k_loopP (α := Int32) (fun (r j : Nat) (x : Int32) (ls : Array Slot) => j + r = n ∧ (x = 0 ∨ x = 1) ∧ f_X4_hasOpen mon mob mdn p0 = f_X4_hasOpen_L mob mdn p0 r j x ∧ lv_has ls 4 [(3, .int (nI j)), (2, .int x), (0, .ref (b 0)), (1, .int p0)]) n 0 0 ⟨by omega, Or.inl rfl, (by rw [f_X4_hasOpen, hcl]), lv_sub hl [0, 1, 2, 3] rfl⟩ ?_ ?_
  · intro j x ls hI
    obtain ⟨iso, rfl⟩ : ∃ y, y = x := ⟨_, rfl⟩
    obtain ⟨hj, hinv, hf, hl⟩ := hI
    have hl : lv_has ls 4 [(3, .int (nI j)), (2, .int iso), (0, .ref (b 0)), (1, .int p0)] := hl
    have hf : f_X4_hasOpen mon mob mdn p0 = f_X4_hasOpen_L mob mdn p0 0 j iso := hf
    have hinv : iso = 0 ∨ iso = 1 := hinv
    refine lv_iload_n hx hb dX4_hasOpen_4 rfl (lv_at hl 0 rfl) ?_
    refine lv_aload_n hx hb dX4_hasOpen_5 rfl (lv_at hl 2 rfl) ?_
    refine va_get (D := G.1) (ci := 4) (v := .int mon) (C := RX4) (T := TX4) (N := 19) hx hb hts iw_X4_hasOpen_RX4 hown hE.1 hP 0 rfl rfl 14 (by decide) (hts (.fieldLink RX4 108 "RackrailModel" "orderMany" "I") (by decide +kernel)) (fun _ h9 => h9) rfl dX4_hasOpen_6 ?_
    refine lv_icmp_ge (tgt := 47) hx hb dX4_hasOpen_9 (by decide) (fun c_9 => ?_) (fun c_9 => absurd (lp_a hmo2 (by omega) (by omega)) c_9)
    refine lv_iload_n hx hb dX4_hasOpen_47 rfl (lv_at hl 1 rfl) ?_
    have hq : f_X4_hasOpen mon mob mdn p0 = iso := (hf.trans (by rw [f_X4_hasOpen_L]))
    exact W.zret (v := iso) hx hb hr (bool_nar (hinv)) (fun t ht _ => ⟨by rw [hq], ht⟩) (fun _ h => nomatch h) dX4_hasOpen_48
  · intro r ih j x ls hI
    obtain ⟨iso, rfl⟩ : ∃ y, y = x := ⟨_, rfl⟩
    obtain ⟨hj, hinv, hf, hl⟩ := hI
    have hl : lv_has ls 4 [(3, .int (nI j)), (2, .int iso), (0, .ref (b 0)), (1, .int p0)] := hl
    have hf : f_X4_hasOpen mon mob mdn p0 = f_X4_hasOpen_L mob mdn p0 (r + 1) j iso := hf
    have hinv : iso = 0 ∨ iso = 1 := hinv
    refine lv_iload_n hx hb dX4_hasOpen_4 rfl (lv_at hl 0 rfl) ?_
    refine lv_aload_n hx hb dX4_hasOpen_5 rfl (lv_at hl 2 rfl) ?_
    refine va_get (D := G.1) (ci := 4) (v := .int mon) (C := RX4) (T := TX4) (N := 19) hx hb hts iw_X4_hasOpen_RX4 hown hE.1 hP 0 rfl rfl 14 (by decide) (hts (.fieldLink RX4 108 "RackrailModel" "orderMany" "I") (by decide +kernel)) (fun _ h9 => h9) rfl dX4_hasOpen_6 ?_
    refine lv_icmp_ge (tgt := 47) hx hb dX4_hasOpen_9 (by decide) (fun c_9 => absurd c_9 (lp_b (r := r) hmo2 (by omega) (by omega))) (fun c_9 => ?_)
    refine lv_iload_n hx hb dX4_hasOpen_12 rfl (lv_at hl 1 rfl) ?_
    refine lv_if_ne (tgt := 35) hx hb dX4_hasOpen_13 (by decide) (fun c_13 => ?_) (fun c_13 => ?_)
    · refine lv_iconst (v := 1) hx hb dX4_hasOpen_35 (by decide) ?_
      refine lv_goto (tgt := 40) hx hb dX4_hasOpen_36 (by decide) ?_
      refine lv_istore_n (lv' := [(2, .int 1), (3, .int (nI j)), (0, .ref (b 0)), (1, .int p0)]) hx hb dX4_hasOpen_40 rfl hl (by decide) rfl (fun ls hl => ?_)
      refine lv_iinc (v := nI (j + 1)) (lv' := [(3, .int (nI (j + 1))), (2, .int 1), (0, .ref (b 0)), (1, .int p0)]) hx hb dX4_hasOpen_41 hl (k := 1) rfl (inc1 _) (by decide) rfl (fun ls hl => ?_)
      refine lv_goto (tgt := 4) hx hb dX4_hasOpen_44 (by decide) ?_
      exact ih (j + 1) 1 _ ⟨by omega, by first | exact Or.inl rfl | exact Or.inr rfl, (hf.trans (by rw [f_X4_hasOpen_L, if_neg c_13])), lv_sub hl [0, 1, 2, 3] rfl⟩
    · refine lv_aload_n hx hb dX4_hasOpen_16 rfl (lv_at hl 2 rfl) ?_
      refine va_get (D := G.1) (ci := 4) (v := .ref (b 8)) (C := RX4) (T := TX4) (N := 19) hx hb hts iw_X4_hasOpen_RX4 hown hE.1 hP 0 rfl rfl 15 (by decide) (hts (.fieldLink RX4 32 "RackrailModel" "orderBoxes" "[I") (by decide +kernel)) (fun _ h9 => h9) rfl dX4_hasOpen_17 ?_
      refine lv_iload_n hx hb dX4_hasOpen_20 rfl (lv_at hl 0 rfl) ?_
      refine va_iald hx hb hE.1 hP 1 0 rfl rfl (vp_in_nI (by omega) (by decide)) dX4_hasOpen_21 ?_
      refine lv_iload_n hx hb dX4_hasOpen_22 rfl (lv_at hl 3 rfl) ?_
      refine lv_icmp_ne (tgt := 39) hx hb dX4_hasOpen_23 (by decide) (fun c_23 => ?_) (fun c_23 => ?_)
      · refine lv_iconst (v := 0) hx hb dX4_hasOpen_39 (by decide) ?_
        refine lv_istore_n (lv' := [(2, .int 0), (3, .int (nI j)), (0, .ref (b 0)), (1, .int p0)]) hx hb dX4_hasOpen_40 rfl hl (by decide) rfl (fun ls hl => ?_)
        refine lv_iinc (v := nI (j + 1)) (lv' := [(3, .int (nI (j + 1))), (2, .int 0), (0, .ref (b 0)), (1, .int p0)]) hx hb dX4_hasOpen_41 hl (k := 1) rfl (inc1 _) (by decide) rfl (fun ls hl => ?_)
        refine lv_goto (tgt := 4) hx hb dX4_hasOpen_44 (by decide) ?_
        exact ih (j + 1) 0 _ ⟨by omega, by first | exact Or.inl rfl | exact Or.inr rfl, (hf.trans (by rw [f_X4_hasOpen_L, if_pos c_13, if_neg c_23])), lv_sub hl [0, 1, 2, 3] rfl⟩
      · refine lv_aload_n hx hb dX4_hasOpen_26 rfl (lv_at hl 2 rfl) ?_
        refine va_get (D := G.1) (ci := 4) (v := .ref (b 10)) (C := RX4) (T := TX4) (N := 19) hx hb hts iw_X4_hasOpen_RX4 hown hE.1 hP 0 rfl rfl 17 (by decide) (hts (.fieldLink RX4 38 "RackrailModel" "isDone" "[Z") (by decide +kernel)) (fun _ h9 => h9) rfl dX4_hasOpen_27 ?_
        refine lv_iload_n hx hb dX4_hasOpen_30 rfl (lv_at hl 0 rfl) ?_
        refine va_zald hx hb hE.1 hP 2 1 rfl rfl (vp_in_nI (by omega) (by decide)) dX4_hasOpen_31 ?_
        refine lv_if_ne (tgt := 39) hx hb dX4_hasOpen_32 (by decide) (fun c_32 => ?_) (fun c_32 => ?_)
        · refine lv_iconst (v := 0) hx hb dX4_hasOpen_39 (by decide) ?_
          refine lv_istore_n (lv' := [(2, .int 0), (3, .int (nI j)), (0, .ref (b 0)), (1, .int p0)]) hx hb dX4_hasOpen_40 rfl hl (by decide) rfl (fun ls hl => ?_)
          refine lv_iinc (v := nI (j + 1)) (lv' := [(3, .int (nI (j + 1))), (2, .int 0), (0, .ref (b 0)), (1, .int p0)]) hx hb dX4_hasOpen_41 hl (k := 1) rfl (inc1 _) (by decide) rfl (fun ls hl => ?_)
          refine lv_goto (tgt := 4) hx hb dX4_hasOpen_44 (by decide) ?_
          exact ih (j + 1) 0 _ ⟨by omega, by first | exact Or.inl rfl | exact Or.inr rfl, (hf.trans (by rw [f_X4_hasOpen_L, if_pos c_13, if_pos c_23, if_neg c_32])), lv_sub hl [0, 1, 2, 3] rfl⟩
        · refine lv_iconst (v := 1) hx hb dX4_hasOpen_35 (by decide) ?_
          refine lv_goto (tgt := 40) hx hb dX4_hasOpen_36 (by decide) ?_
          refine lv_istore_n (lv' := [(2, .int 1), (3, .int (nI j)), (0, .ref (b 0)), (1, .int p0)]) hx hb dX4_hasOpen_40 rfl hl (by decide) rfl (fun ls hl => ?_)
          refine lv_iinc (v := nI (j + 1)) (lv' := [(3, .int (nI (j + 1))), (2, .int 1), (0, .ref (b 0)), (1, .int p0)]) hx hb dX4_hasOpen_41 hl (k := 1) rfl (inc1 _) (by decide) rfl (fun ls hl => ?_)
          refine lv_goto (tgt := 4) hx hb dX4_hasOpen_44 (by decide) ?_
          exact ih (j + 1) 1 _ ⟨by omega, by first | exact Or.inl rfl | exact Or.inr rfl, (hf.trans (by rw [f_X4_hasOpen_L, if_pos c_13, if_pos c_23, if_pos c_32])), lv_sub hl [0, 1, 2, 3] rfl⟩

/-! X4_order -/
def f_X4_order (mbn : Int32) (mon : Int32) (mob : Nat → Int32) (mdl : Nat → Int32) (mdn : Nat → Int32) (p0 : Int32) (p1 : Int32) : Int32 × Int32 × Int32 × (Nat → Int32) × (Nat → Int32) :=
  if (f_X4_isBox mbn p0) = 0 then (0, 1, mon, mob, mdl)
    else if (f_X4_in p1 0 10000) = 0 then (0, 2, mon, mob, mdl)
    else if (f_X4_hasOpen mon mob mdn p0) = 0 then (if mon = 30 then (0, 3, mon, mob, mdl)
      else ((mon + 1) - 1, 0, mon + 1, upd mob mon.toNatClampNeg p0, upd mdl mon.toNatClampNeg p1))
    else (0, 3, mon, mob, mdl)
theorem iw_X4_order_RX4 : ∀ w ∈ u_ws RX4 TX4 19, w ∈ wsX4_order := by decide +kernel
set_option maxHeartbeats 4000000 in
set_option maxRecDepth 100000 in
theorem c_X4_order (l : Launch) (G : GT) (b : Nat → Nat) (sz : Nat) (mth : Int32) (mck : Int32) (mbn : Int32) (mai : Int32) (mtm : Int32) (mst : Int32) (msm : Int32) (mon : Int32) (mlt : Int32) (mob : Nat → Int32) (mdl : Nat → Int32) (mdn : Nat → Int32) (p0 : Int32) (p1 : Int32) (hmo : okN 30 mon) : Met l yX4_order wsX4_order ({ frames := 2, cells := 0, slots := 0, locals := 43 }) (GP G [.ref (b 0), .int p0, .int p1] [wcM b mth mck mbn mai mtm mst msm mon mlt, wcI G (b 8) 30 mob, wcI G (b 9) 30 mdl, wcZ G (b 10) 30 mdn] sz) (MQo G (.returned (some (.int ((f_X4_order mbn mon mob mdl mdn p0 p1).1)))) [wcM b ((f_X4_order mbn mon mob mdl mdn p0 p1).2.1) mck mbn mai mtm mst msm ((f_X4_order mbn mon mob mdl mdn p0 p1).2.2.1) mlt, wcI G (b 8) 30 ((f_X4_order mbn mon mob mdl mdn p0 p1).2.2.2.1), wcI G (b 9) 30 ((f_X4_order mbn mon mob mdl mdn p0 p1).2.2.2.2), wcZ G (b 10) 30 mdn] (va_A [wcM b mth mck mbn mai mtm mst msm mon mlt, wcI G (b 8) 30 mob, wcI G (b 9) 30 mdl, wcZ G (b 10) 30 mdn] sz)) 0 0 (va_A [wcM b mth mck mbn mai mtm mst msm mon mlt, wcI G (b 8) 30 mob, wcI G (b 9) 30 mdl, wcZ G (b 10) 30 mdn] sz) := by
  refine bodyM (cc := cX4_order) (maxL := 3) (ret := (some .int)) (by decide) rfl (Nat.le_of_ble_eq_true rfl) ?_
  intro p e s m below meth c ls C
  obtain ⟨hx, hb, hr, hts, hown, hlocks, hml, hsz, hP, hE, hD, hZ, hA, hS, hl⟩ := C
  subst hsz
  have hl : lv_has ls 3 [(0, .ref (b 0)), (1, .int p0), (2, .int p1)] := hl
  refine lv_aload_n hx hb dX4_order_0 rfl (lv_at hl 0 rfl) ?_
  refine lv_aload_n hx hb dX4_order_1 rfl (lv_at hl 0 rfl) ?_
  refine lv_iload_n hx hb dX4_order_2 rfl (lv_at hl 1 rfl) ?_
  refine k_p (va_runV (As := [.int p0]) (rest := [.ref (b 0)]) ⟨hx, hb, hml, hown, hts⟩ (c_X4_isBox l G b s.heap.size mth mck mbn mai mtm mst msm mon mlt p0) (cwV 1 hts gX4_order_X4_isBox rfl rfl rfl ⟨rfl, by decide +kernel, by decide +kernel, by decide +kernel⟩ ⟨Nat.le_of_ble_eq_true rfl, Nat.le_of_ble_eq_true rfl⟩) ⟨GP.blind, va_recv hE.1 hP (ci := 4) (q0 := 0) rfl rfl, GP.go (wc := [wcM b mth mck mbn mai mtm mst msm mon mlt]) hE hZ hP hD hS hA [0] rfl (by decide) [.ref (b 0), .int p0]⟩ rfl rfl hl.1 rfl (lv_room (Nat.le_of_ble_eq_true rfl)) dX4_order_3 ⟨Nat.le_of_ble_eq_true rfl, Nat.le_of_ble_eq_true rfl⟩) ?_
  refine lv_if_ne (tgt := 13) hx hb dX4_order_6 (by decide) (fun c_6 => ?_) (fun c_6 => ?_)
  · refine lv_iload_n hx hb dX4_order_13 rfl (lv_at hl 2 rfl) ?_
    refine lv_iconst (v := 0) hx hb dX4_order_14 (by decide) ?_
    refine lv_sipush (v := 10000) hx hb dX4_order_15 (by decide) ?_
    refine k_p (va_runS (As := [.int p1, .int 0, .int 10000]) (rest := [.ref (b 0)]) ⟨hx, hb, hml, hown, hts⟩ (c_X4_in l G s.heap.size p1 0 10000) (va_cwS 3 hts gX4_order_X4_in rfl rfl rfl ⟨by decide +kernel, by decide +kernel, by decide +kernel⟩ ⟨Nat.le_of_ble_eq_true rfl, Nat.le_of_ble_eq_true rfl⟩) ⟨GP.blind, GP.go (wc := []) hE hZ hP hD hS hA [] rfl (by decide) [.int p1, .int 0, .int 10000]⟩ rfl rfl hl.1 rfl (lv_room (Nat.le_of_ble_eq_true rfl)) dX4_order_18 ⟨Nat.le_of_ble_eq_true rfl, Nat.le_of_ble_eq_true rfl⟩) ?_
    refine lv_if_ne (tgt := 28) hx hb dX4_order_21 (by decide) (fun c_21 => ?_) (fun c_21 => ?_)
    · refine lv_aload_n hx hb dX4_order_28 rfl (lv_at hl 0 rfl) ?_
      refine lv_iload_n hx hb dX4_order_29 rfl (lv_at hl 1 rfl) ?_
      refine k_p (va_runV (As := [.int p0]) (rest := [.ref (b 0)]) ⟨hx, hb, hml, hown, hts⟩ (c_X4_hasOpen l G b s.heap.size mth mck mbn mai mtm mst msm mon mlt mob mdn p0 hmo) (cwV 1 hts gX4_order_X4_hasOpen rfl rfl rfl ⟨rfl, by decide +kernel, by decide +kernel, by decide +kernel⟩ ⟨Nat.le_of_ble_eq_true rfl, Nat.le_of_ble_eq_true rfl⟩) ⟨GP.blind, va_recv hE.1 hP (ci := 4) (q0 := 0) rfl rfl, GP.go (wc := [wcM b mth mck mbn mai mtm mst msm mon mlt, wcI G (b 8) 30 mob, wcZ G (b 10) 30 mdn]) hE hZ hP hD hS hA [0, 1, 3] rfl (by decide) [.ref (b 0), .int p0]⟩ rfl rfl hl.1 rfl (lv_room (Nat.le_of_ble_eq_true rfl)) dX4_order_30 ⟨Nat.le_of_ble_eq_true rfl, Nat.le_of_ble_eq_true rfl⟩) ?_
      refine lv_if_ne (tgt := 45) hx hb dX4_order_33 (by decide) (fun c_33 => ?_) (fun c_33 => ?_)
      · refine lv_iconst (v := 3) hx hb dX4_order_45 (by decide) ?_
        refine lv_goto (tgt := 50) hx hb dX4_order_46 (by decide) ?_
        refine va_put (D := G.1) (ci := 4) (v := .int 3) (ty := .int) (C := RX4) (T := TX4) (N := 19) hx hb hts iw_X4_order_RX4 tyX4 tyX4_ok nmX4 hown hE.1 hP hD hS 0 rfl rfl 0 (by decide) (hts (.fieldLink RX4 41 "RackrailModel" "thrown" "I") (by decide +kernel)) (fun _ h9 => h9) rfl (by decide +kernel) rfl rfl (Nat.le_of_ble_eq_true rfl) dX4_order_50 (fun H locs hP hD hS => ?_)
        have hP : va_P G.1 vwCl [wcM b 3 mck mbn mai mtm mst msm mon mlt, wcI G (b 8) 30 mob, wcI G (b 9) 30 mdl, wcZ G (b 10) 30 mdn] H := hP
        have hD : va_D _ [wcM b 3 mck mbn mai mtm mst msm mon mlt, wcI G (b 8) 30 mob, wcI G (b 9) 30 mdl, wcZ G (b 10) 30 mdn] := hD
        refine lv_aload_n hx hb dX4_order_53 rfl (lv_at hl 0 rfl) ?_
        refine va_get (D := G.1) (ci := 4) (v := .int 3) (C := RX4) (T := TX4) (N := 19) hx hb hts iw_X4_order_RX4 hown hE.1 hP 0 rfl rfl 0 (by decide) (hts (.fieldLink RX4 41 "RackrailModel" "thrown" "I") (by decide +kernel)) (fun _ h9 => h9) rfl dX4_order_54 ?_
        refine lv_if_le (tgt := 62) hx hb dX4_order_57 (by decide) (fun c_57 => absurd c_57 (by decide)) (fun c_57 => ?_)
        refine lv_iconst (v := 0) hx hb dX4_order_60 (by decide) ?_
        have hq : f_X4_order mbn mon mob mdl mdn p0 p1 = (0, 3, mon, mob, mdl) := (by rw [f_X4_order, if_neg c_6, if_neg c_21, if_neg c_33])
        exact W.iret (v := 0) hx hb hr (fun t ht _ => ⟨by rw [hq], by rw [hq, ht]; exact hP, hS.F ht⟩) hS.2.2 dX4_order_61
      · refine lv_aload_n hx hb dX4_order_36 rfl (lv_at hl 0 rfl) ?_
        refine va_get (D := G.1) (ci := 4) (v := .int mon) (C := RX4) (T := TX4) (N := 19) hx hb hts iw_X4_order_RX4 hown hE.1 hP 0 rfl rfl 14 (by decide) (hts (.fieldLink RX4 108 "RackrailModel" "orderMany" "I") (by decide +kernel)) (fun _ h9 => h9) rfl dX4_order_37 ?_
        refine lv_bipush (v := 30) hx hb dX4_order_40 (by decide) ?_
        refine lv_icmp_ne (tgt := 49) hx hb dX4_order_42 (by decide) (fun c_42 => ?_) (fun c_42 => ?_)
        · refine lv_iconst (v := 0) hx hb dX4_order_49 (by decide) ?_
          refine va_put (D := G.1) (ci := 4) (v := .int 0) (ty := .int) (C := RX4) (T := TX4) (N := 19) hx hb hts iw_X4_order_RX4 tyX4 tyX4_ok nmX4 hown hE.1 hP hD hS 0 rfl rfl 0 (by decide) (hts (.fieldLink RX4 41 "RackrailModel" "thrown" "I") (by decide +kernel)) (fun _ h9 => h9) rfl (by decide +kernel) rfl rfl (Nat.le_of_ble_eq_true rfl) dX4_order_50 (fun H locs hP hD hS => ?_)
          have hP : va_P G.1 vwCl [wcM b 0 mck mbn mai mtm mst msm mon mlt, wcI G (b 8) 30 mob, wcI G (b 9) 30 mdl, wcZ G (b 10) 30 mdn] H := hP
          have hD : va_D _ [wcM b 0 mck mbn mai mtm mst msm mon mlt, wcI G (b 8) 30 mob, wcI G (b 9) 30 mdl, wcZ G (b 10) 30 mdn] := hD
          refine lv_aload_n hx hb dX4_order_53 rfl (lv_at hl 0 rfl) ?_
          refine va_get (D := G.1) (ci := 4) (v := .int 0) (C := RX4) (T := TX4) (N := 19) hx hb hts iw_X4_order_RX4 hown hE.1 hP 0 rfl rfl 0 (by decide) (hts (.fieldLink RX4 41 "RackrailModel" "thrown" "I") (by decide +kernel)) (fun _ h9 => h9) rfl dX4_order_54 ?_
          refine lv_if_le (tgt := 62) hx hb dX4_order_57 (by decide) (fun c_57 => ?_) (fun c_57 => absurd (by decide) c_57)
          refine lv_aload_n hx hb dX4_order_62 rfl (lv_at hl 0 rfl) ?_
          refine va_get (D := G.1) (ci := 4) (v := .ref (b 8)) (C := RX4) (T := TX4) (N := 19) hx hb hts iw_X4_order_RX4 hown hE.1 hP 0 rfl rfl 15 (by decide) (hts (.fieldLink RX4 32 "RackrailModel" "orderBoxes" "[I") (by decide +kernel)) (fun _ h9 => h9) rfl dX4_order_63 ?_
          refine lv_aload_n hx hb dX4_order_66 rfl (lv_at hl 0 rfl) ?_
          refine va_get (D := G.1) (ci := 4) (v := .int mon) (C := RX4) (T := TX4) (N := 19) hx hb hts iw_X4_order_RX4 hown hE.1 hP 0 rfl rfl 14 (by decide) (hts (.fieldLink RX4 108 "RackrailModel" "orderMany" "I") (by decide +kernel)) (fun _ h9 => h9) rfl dX4_order_67 ?_
          refine lv_iload_n hx hb dX4_order_70 rfl (lv_at hl 1 rfl) ?_
          refine va_iast hx hb hE.1 hP hD hS 1 0 rfl rfl (in_fullM hmo c_42) dX4_order_71 (fun H locs hP hD hS => ?_)
          have hP : va_P G.1 vwCl [wcM b 0 mck mbn mai mtm mst msm mon mlt, wcI G (b 8) 30 (upd mob mon.toNatClampNeg p0), wcI G (b 9) 30 mdl, wcZ G (b 10) 30 mdn] H := hP
          have hD : va_D _ [wcM b 0 mck mbn mai mtm mst msm mon mlt, wcI G (b 8) 30 (upd mob mon.toNatClampNeg p0), wcI G (b 9) 30 mdl, wcZ G (b 10) 30 mdn] := hD
          refine lv_aload_n hx hb dX4_order_72 rfl (lv_at hl 0 rfl) ?_
          refine va_get (D := G.1) (ci := 4) (v := .ref (b 9)) (C := RX4) (T := TX4) (N := 19) hx hb hts iw_X4_order_RX4 hown hE.1 hP 0 rfl rfl 16 (by decide) (hts (.fieldLink RX4 35 "RackrailModel" "deadlines" "[I") (by decide +kernel)) (fun _ h9 => h9) rfl dX4_order_73 ?_
          refine lv_aload_n hx hb dX4_order_76 rfl (lv_at hl 0 rfl) ?_
          refine va_get (D := G.1) (ci := 4) (v := .int mon) (C := RX4) (T := TX4) (N := 19) hx hb hts iw_X4_order_RX4 hown hE.1 hP 0 rfl rfl 14 (by decide) (hts (.fieldLink RX4 108 "RackrailModel" "orderMany" "I") (by decide +kernel)) (fun _ h9 => h9) rfl dX4_order_77 ?_
          refine lv_iload_n hx hb dX4_order_80 rfl (lv_at hl 2 rfl) ?_
          refine va_iast hx hb hE.1 hP hD hS 2 0 rfl rfl (in_fullM hmo c_42) dX4_order_81 (fun H locs hP hD hS => ?_)
          have hP : va_P G.1 vwCl [wcM b 0 mck mbn mai mtm mst msm mon mlt, wcI G (b 8) 30 (upd mob mon.toNatClampNeg p0), wcI G (b 9) 30 (upd mdl mon.toNatClampNeg p1), wcZ G (b 10) 30 mdn] H := hP
          have hD : va_D _ [wcM b 0 mck mbn mai mtm mst msm mon mlt, wcI G (b 8) 30 (upd mob mon.toNatClampNeg p0), wcI G (b 9) 30 (upd mdl mon.toNatClampNeg p1), wcZ G (b 10) 30 mdn] := hD
          refine lv_aload_n hx hb dX4_order_82 rfl (lv_at hl 0 rfl) ?_
          refine lv_dup hx hb dX4_order_83 rfl ?_
          refine va_get (D := G.1) (ci := 4) (v := .int mon) (C := RX4) (T := TX4) (N := 19) hx hb hts iw_X4_order_RX4 hown hE.1 hP 0 rfl rfl 14 (by decide) (hts (.fieldLink RX4 108 "RackrailModel" "orderMany" "I") (by decide +kernel)) (fun _ h9 => h9) rfl dX4_order_84 ?_
          refine lv_iconst (v := 1) hx hb dX4_order_87 (by decide) ?_
          refine lv_iadd hx hb dX4_order_88 ?_
          refine va_put (D := G.1) (ci := 4) (v := .int (mon + 1)) (ty := .int) (C := RX4) (T := TX4) (N := 19) hx hb hts iw_X4_order_RX4 tyX4 tyX4_ok nmX4 hown hE.1 hP hD hS 0 rfl rfl 14 (by decide) (hts (.fieldLink RX4 108 "RackrailModel" "orderMany" "I") (by decide +kernel)) (fun _ h9 => h9) rfl (by decide +kernel) rfl rfl (Nat.le_of_ble_eq_true rfl) dX4_order_89 (fun H locs hP hD hS => ?_)
          have hP : va_P G.1 vwCl [wcM b 0 mck mbn mai mtm mst msm (mon + 1) mlt, wcI G (b 8) 30 (upd mob mon.toNatClampNeg p0), wcI G (b 9) 30 (upd mdl mon.toNatClampNeg p1), wcZ G (b 10) 30 mdn] H := hP
          have hD : va_D _ [wcM b 0 mck mbn mai mtm mst msm (mon + 1) mlt, wcI G (b 8) 30 (upd mob mon.toNatClampNeg p0), wcI G (b 9) 30 (upd mdl mon.toNatClampNeg p1), wcZ G (b 10) 30 mdn] := hD
          refine lv_aload_n hx hb dX4_order_92 rfl (lv_at hl 0 rfl) ?_
          refine va_get (D := G.1) (ci := 4) (v := .int (mon + 1)) (C := RX4) (T := TX4) (N := 19) hx hb hts iw_X4_order_RX4 hown hE.1 hP 0 rfl rfl 14 (by decide) (hts (.fieldLink RX4 108 "RackrailModel" "orderMany" "I") (by decide +kernel)) (fun _ h9 => h9) rfl dX4_order_93 ?_
          refine lv_iconst (v := 1) hx hb dX4_order_96 (by decide) ?_
          refine lv_isub hx hb dX4_order_97 ?_
          have hq : f_X4_order mbn mon mob mdl mdn p0 p1 = ((mon + 1) - 1, 0, mon + 1, upd mob mon.toNatClampNeg p0, upd mdl mon.toNatClampNeg p1) := (by rw [f_X4_order, if_neg c_6, if_neg c_21, if_pos c_33, if_neg c_42])
          exact W.iret (v := (mon + 1) - 1) hx hb hr (fun t ht _ => ⟨by rw [hq], by rw [hq, ht]; exact hP, hS.F ht⟩) hS.2.2 dX4_order_98
        · refine lv_iconst (v := 3) hx hb dX4_order_45 (by decide) ?_
          refine lv_goto (tgt := 50) hx hb dX4_order_46 (by decide) ?_
          refine va_put (D := G.1) (ci := 4) (v := .int 3) (ty := .int) (C := RX4) (T := TX4) (N := 19) hx hb hts iw_X4_order_RX4 tyX4 tyX4_ok nmX4 hown hE.1 hP hD hS 0 rfl rfl 0 (by decide) (hts (.fieldLink RX4 41 "RackrailModel" "thrown" "I") (by decide +kernel)) (fun _ h9 => h9) rfl (by decide +kernel) rfl rfl (Nat.le_of_ble_eq_true rfl) dX4_order_50 (fun H locs hP hD hS => ?_)
          have hP : va_P G.1 vwCl [wcM b 3 mck mbn mai mtm mst msm mon mlt, wcI G (b 8) 30 mob, wcI G (b 9) 30 mdl, wcZ G (b 10) 30 mdn] H := hP
          have hD : va_D _ [wcM b 3 mck mbn mai mtm mst msm mon mlt, wcI G (b 8) 30 mob, wcI G (b 9) 30 mdl, wcZ G (b 10) 30 mdn] := hD
          refine lv_aload_n hx hb dX4_order_53 rfl (lv_at hl 0 rfl) ?_
          refine va_get (D := G.1) (ci := 4) (v := .int 3) (C := RX4) (T := TX4) (N := 19) hx hb hts iw_X4_order_RX4 hown hE.1 hP 0 rfl rfl 0 (by decide) (hts (.fieldLink RX4 41 "RackrailModel" "thrown" "I") (by decide +kernel)) (fun _ h9 => h9) rfl dX4_order_54 ?_
          refine lv_if_le (tgt := 62) hx hb dX4_order_57 (by decide) (fun c_57 => absurd c_57 (by decide)) (fun c_57 => ?_)
          refine lv_iconst (v := 0) hx hb dX4_order_60 (by decide) ?_
          have hq : f_X4_order mbn mon mob mdl mdn p0 p1 = (0, 3, mon, mob, mdl) := (by rw [f_X4_order, if_neg c_6, if_neg c_21, if_pos c_33, if_pos c_42])
          exact W.iret (v := 0) hx hb hr (fun t ht _ => ⟨by rw [hq], by rw [hq, ht]; exact hP, hS.F ht⟩) hS.2.2 dX4_order_61
    · refine lv_iconst (v := 2) hx hb dX4_order_24 (by decide) ?_
      refine lv_goto (tgt := 50) hx hb dX4_order_25 (by decide) ?_
      refine va_put (D := G.1) (ci := 4) (v := .int 2) (ty := .int) (C := RX4) (T := TX4) (N := 19) hx hb hts iw_X4_order_RX4 tyX4 tyX4_ok nmX4 hown hE.1 hP hD hS 0 rfl rfl 0 (by decide) (hts (.fieldLink RX4 41 "RackrailModel" "thrown" "I") (by decide +kernel)) (fun _ h9 => h9) rfl (by decide +kernel) rfl rfl (Nat.le_of_ble_eq_true rfl) dX4_order_50 (fun H locs hP hD hS => ?_)
      have hP : va_P G.1 vwCl [wcM b 2 mck mbn mai mtm mst msm mon mlt, wcI G (b 8) 30 mob, wcI G (b 9) 30 mdl, wcZ G (b 10) 30 mdn] H := hP
      have hD : va_D _ [wcM b 2 mck mbn mai mtm mst msm mon mlt, wcI G (b 8) 30 mob, wcI G (b 9) 30 mdl, wcZ G (b 10) 30 mdn] := hD
      refine lv_aload_n hx hb dX4_order_53 rfl (lv_at hl 0 rfl) ?_
      refine va_get (D := G.1) (ci := 4) (v := .int 2) (C := RX4) (T := TX4) (N := 19) hx hb hts iw_X4_order_RX4 hown hE.1 hP 0 rfl rfl 0 (by decide) (hts (.fieldLink RX4 41 "RackrailModel" "thrown" "I") (by decide +kernel)) (fun _ h9 => h9) rfl dX4_order_54 ?_
      refine lv_if_le (tgt := 62) hx hb dX4_order_57 (by decide) (fun c_57 => absurd c_57 (by decide)) (fun c_57 => ?_)
      refine lv_iconst (v := 0) hx hb dX4_order_60 (by decide) ?_
      have hq : f_X4_order mbn mon mob mdl mdn p0 p1 = (0, 2, mon, mob, mdl) := (by rw [f_X4_order, if_neg c_6, if_pos c_21])
      exact W.iret (v := 0) hx hb hr (fun t ht _ => ⟨by rw [hq], by rw [hq, ht]; exact hP, hS.F ht⟩) hS.2.2 dX4_order_61
  · refine lv_iconst (v := 1) hx hb dX4_order_9 (by decide) ?_
    refine lv_goto (tgt := 50) hx hb dX4_order_10 (by decide) ?_
    refine va_put (D := G.1) (ci := 4) (v := .int 1) (ty := .int) (C := RX4) (T := TX4) (N := 19) hx hb hts iw_X4_order_RX4 tyX4 tyX4_ok nmX4 hown hE.1 hP hD hS 0 rfl rfl 0 (by decide) (hts (.fieldLink RX4 41 "RackrailModel" "thrown" "I") (by decide +kernel)) (fun _ h9 => h9) rfl (by decide +kernel) rfl rfl (Nat.le_of_ble_eq_true rfl) dX4_order_50 (fun H locs hP hD hS => ?_)
    have hP : va_P G.1 vwCl [wcM b 1 mck mbn mai mtm mst msm mon mlt, wcI G (b 8) 30 mob, wcI G (b 9) 30 mdl, wcZ G (b 10) 30 mdn] H := hP
    have hD : va_D _ [wcM b 1 mck mbn mai mtm mst msm mon mlt, wcI G (b 8) 30 mob, wcI G (b 9) 30 mdl, wcZ G (b 10) 30 mdn] := hD
    refine lv_aload_n hx hb dX4_order_53 rfl (lv_at hl 0 rfl) ?_
    refine va_get (D := G.1) (ci := 4) (v := .int 1) (C := RX4) (T := TX4) (N := 19) hx hb hts iw_X4_order_RX4 hown hE.1 hP 0 rfl rfl 0 (by decide) (hts (.fieldLink RX4 41 "RackrailModel" "thrown" "I") (by decide +kernel)) (fun _ h9 => h9) rfl dX4_order_54 ?_
    refine lv_if_le (tgt := 62) hx hb dX4_order_57 (by decide) (fun c_57 => absurd c_57 (by decide)) (fun c_57 => ?_)
    refine lv_iconst (v := 0) hx hb dX4_order_60 (by decide) ?_
    have hq : f_X4_order mbn mon mob mdl mdn p0 p1 = (0, 1, mon, mob, mdl) := (by rw [f_X4_order, if_pos c_6])
    exact W.iret (v := 0) hx hb hr (fun t ht _ => ⟨by rw [hq], by rw [hq, ht]; exact hP, hS.F ht⟩) hS.2.2 dX4_order_61

/-! X4_first -/
def f_X4_first_L (mli : Nat → Int32) (mob : Nat → Int32) (mdl : Nat → Int32) (mdn : Nat → Int32) (p0 : Int32) : Nat → Nat → Int32 → Int32
  | 0, j, its => its
  | r + 1, j, its => if (mdn (nI j).toNatClampNeg) = 0 then (if (f_X4_spot mli (mob (nI j).toNatClampNeg)) = (-1) then f_X4_first_L mli mob mdl mdn p0 r (j + 1) its
      else if p0 = (-1) then (if its = (-1) then f_X4_first_L mli mob mdl mdn p0 r (j + 1) (nI j)
        else if (mdl its.toNatClampNeg) ≤ (mdl (nI j).toNatClampNeg) then f_X4_first_L mli mob mdl mdn p0 r (j + 1) its
        else f_X4_first_L mli mob mdl mdn p0 r (j + 1) (nI j))
      else if (f_X4_aisleOf (f_X4_spot mli (mob (nI j).toNatClampNeg))) = p0 then (if its = (-1) then f_X4_first_L mli mob mdl mdn p0 r (j + 1) (nI j)
        else if (mdl its.toNatClampNeg) ≤ (mdl (nI j).toNatClampNeg) then f_X4_first_L mli mob mdl mdn p0 r (j + 1) its
        else f_X4_first_L mli mob mdl mdn p0 r (j + 1) (nI j))
      else f_X4_first_L mli mob mdl mdn p0 r (j + 1) its)
    else f_X4_first_L mli mob mdl mdn p0 r (j + 1) its
def f_X4_first (mon : Int32) (mli : Nat → Int32) (mob : Nat → Int32) (mdl : Nat → Int32) (mdn : Nat → Int32) (p0 : Int32) : Int32 :=
  f_X4_first_L mli mob mdl mdn p0 mon.toNatClampNeg 0 (-1)
theorem first_L {mli mob mdl mdn : Nat → Int32} {p0 : Int32} {P : Int32 → Prop} {N : Nat} (hs : ∀ j : Nat, j < N → mdn (nI j).toNatClampNeg = 0 → ¬ f_X4_spot mli (mob (nI j).toNatClampNeg) = -1 → P (nI j)) : ∀ (r j : Nat) (its : Int32), j + r = N → P its → P (f_X4_first_L mli mob mdl mdn p0 r j its) := by
  intro r
  induction r with
  | zero => intro j its _ h; rw [f_X4_first_L]; exact h
  | succ r ih =>
    intro j its hj h
    rw [f_X4_first_L]
    (repeat' split) <;> first | exact ih _ _ (by omega) h | exact ih _ _ (by omega) (hs j (by omega) (by assumption) (by assumption))
theorem first_P {mon : Int32} {mli mob mdl mdn : Nat → Int32} {p0 : Int32} (hmo : okN 30 mon) (h : ¬ f_X4_first mon mli mob mdl mdn p0 = -1) :
    vp_in (f_X4_first mon mli mob mdl mdn p0) 30 ∧ ¬ f_X4_spot mli (mob (f_X4_first mon mli mob mdl mdn p0).toNatClampNeg) = -1 := by
  obtain ⟨n, hn, rfl⟩ := hmo
  have hc : (nI n).toNatClampNeg = n := nI_clamp (by omega)
  have key := first_L (mli := mli) (mob := mob) (mdl := mdl) (mdn := mdn) (p0 := p0) (P := fun z => z = -1 ∨ (vp_in z 30 ∧ ¬ f_X4_spot mli (mob z.toNatClampNeg) = -1)) (N := n) (fun j hj _ h2 => Or.inr ⟨vp_in_nI (by omega) (by decide), h2⟩) (nI n).toNatClampNeg 0 (-1) (by omega) (Or.inl rfl)
  exact key.resolve_left h
theorem iw_X4_first_RX4 : ∀ w ∈ u_ws RX4 TX4 19, w ∈ wsX4_first := by decide +kernel
set_option maxHeartbeats 4000000 in
set_option maxRecDepth 100000 in
theorem c_X4_first (l : Launch) (G : GT) (b : Nat → Nat) (sz : Nat) (mth : Int32) (mck : Int32) (mbn : Int32) (mai : Int32) (mtm : Int32) (mst : Int32) (msm : Int32) (mon : Int32) (mlt : Int32) (mli : Nat → Int32) (mob : Nat → Int32) (mdl : Nat → Int32) (mdn : Nat → Int32) (p0 : Int32) (hmo : okN 30 mon) : Met l yX4_first wsX4_first ({ frames := 1, cells := 0, slots := 0, locals := 23 }) (GP G [.ref (b 0), .int p0] [wcM b mth mck mbn mai mtm mst msm mon mlt, wcI G (b 5) 36 mli, wcI G (b 8) 30 mob, wcI G (b 9) 30 mdl, wcZ G (b 10) 30 mdn] sz) (PQo (.returned (some (.int (f_X4_first mon mli mob mdl mdn p0))))) 0 0 (fun _ => False) := by
  refine bodyM (cc := cX4_first) (maxL := 6) (ret := (some .int)) (by decide) rfl (Nat.le_of_ble_eq_true rfl) ?_
  intro p e s m below meth c ls C
  obtain ⟨hx, hb, hr, hts, hown, hlocks, hml, hsz, hP, hE, hD, hZ, hA, hS, hl⟩ := C
  subst hsz
  have hl : lv_has ls 6 [(0, .ref (b 0)), (1, .int p0)] := hl
  obtain ⟨n, hn, hmo2⟩ := id hmo
  have hcl : mon.toNatClampNeg = n := by rw [hmo2]; exact nI_clamp (by omega)
  refine lv_iconst (v := (-1)) hx hb dX4_first_0 (by decide) ?_
  refine lv_istore_n (lv' := [(2, .int (-1)), (0, .ref (b 0)), (1, .int p0)]) hx hb dX4_first_1 rfl hl (by decide) rfl (fun ls hl => ?_)
  refine lv_iconst (v := 0) hx hb dX4_first_2 (by decide) ?_
  refine lv_istore_n (lv' := [(3, .int 0), (2, .int (-1)), (0, .ref (b 0)), (1, .int p0)]) hx hb dX4_first_3 rfl hl (by decide) rfl (fun ls hl => ?_)
  refine k_loopP (α := Int32) (fun (r j : Nat) (x : Int32) (ls : Array Slot) => j + r = n ∧ (x = -1 ∨ vp_in x 30) ∧ f_X4_first mon mli mob mdl mdn p0 = f_X4_first_L mli mob mdl mdn p0 r j x ∧ lv_has ls 6 [(3, .int (nI j)), (2, .int x), (0, .ref (b 0)), (1, .int p0)]) n 0 (-1) ⟨by omega, Or.inl rfl, (by rw [f_X4_first, hcl]), lv_sub hl [0, 1, 2, 3] rfl⟩ ?_ ?_
  · intro j x ls hI
    obtain ⟨its, rfl⟩ : ∃ y, y = x := ⟨_, rfl⟩
    obtain ⟨hj, hinv, hf, hl⟩ := hI
    have hl : lv_has ls 6 [(3, .int (nI j)), (2, .int its), (0, .ref (b 0)), (1, .int p0)] := hl
    have hf : f_X4_first mon mli mob mdl mdn p0 = f_X4_first_L mli mob mdl mdn p0 0 j its := hf
    have hinv : its = -1 ∨ vp_in its 30 := hinv
    refine lv_iload_n hx hb dX4_first_4 rfl (lv_at hl 0 rfl) ?_
    refine lv_aload_n hx hb dX4_first_5 rfl (lv_at hl 2 rfl) ?_
    refine va_get (D := G.1) (ci := 4) (v := .int mon) (C := RX4) (T := TX4) (N := 19) hx hb hts iw_X4_first_RX4 hown hE.1 hP 0 rfl rfl 14 (by decide) (hts (.fieldLink RX4 108 "RackrailModel" "orderMany" "I") (by decide +kernel)) (fun _ h9 => h9) rfl dX4_first_6 ?_
    refine lv_icmp_ge (tgt := 101) hx hb dX4_first_9 (by decide) (fun c_9 => ?_) (fun c_9 => absurd (lp_a hmo2 (by omega) (by omega)) c_9)
    refine lv_iload_n hx hb dX4_first_101 rfl (lv_at hl 1 rfl) ?_
    have hq : f_X4_first mon mli mob mdl mdn p0 = its := (hf.trans (by rw [f_X4_first_L]))
    exact W.iret (v := its) hx hb hr (fun t ht _ => ⟨by rw [hq], ht⟩) (fun _ h => nomatch h) dX4_first_102
  · intro r ih j x ls hI
    obtain ⟨its, rfl⟩ : ∃ y, y = x := ⟨_, rfl⟩
    obtain ⟨hj, hinv, hf, hl⟩ := hI
    have hl : lv_has ls 6 [(3, .int (nI j)), (2, .int its), (0, .ref (b 0)), (1, .int p0)] := hl
    have hf : f_X4_first mon mli mob mdl mdn p0 = f_X4_first_L mli mob mdl mdn p0 (r + 1) j its := hf
    have hinv : its = -1 ∨ vp_in its 30 := hinv
    refine lv_iload_n hx hb dX4_first_4 rfl (lv_at hl 0 rfl) ?_
    refine lv_aload_n hx hb dX4_first_5 rfl (lv_at hl 2 rfl) ?_
    refine va_get (D := G.1) (ci := 4) (v := .int mon) (C := RX4) (T := TX4) (N := 19) hx hb hts iw_X4_first_RX4 hown hE.1 hP 0 rfl rfl 14 (by decide) (hts (.fieldLink RX4 108 "RackrailModel" "orderMany" "I") (by decide +kernel)) (fun _ h9 => h9) rfl dX4_first_6 ?_
    refine lv_icmp_ge (tgt := 101) hx hb dX4_first_9 (by decide) (fun c_9 => absurd c_9 (lp_b (r := r) hmo2 (by omega) (by omega))) (fun c_9 => ?_)
    refine lv_aload_n hx hb dX4_first_12 rfl (lv_at hl 2 rfl) ?_
    refine va_get (D := G.1) (ci := 4) (v := .ref (b 10)) (C := RX4) (T := TX4) (N := 19) hx hb hts iw_X4_first_RX4 hown hE.1 hP 0 rfl rfl 17 (by decide) (hts (.fieldLink RX4 38 "RackrailModel" "isDone" "[Z") (by decide +kernel)) (fun _ h9 => h9) rfl dX4_first_13 ?_
    refine lv_iload_n hx hb dX4_first_16 rfl (lv_at hl 0 rfl) ?_
    refine va_zald hx hb hE.1 hP 4 1 rfl rfl (vp_in_nI (by omega) (by decide)) dX4_first_17 ?_
    refine lv_if_eq (tgt := 25) hx hb dX4_first_18 (by decide) (fun c_18 => ?_) (fun c_18 => ?_)
    · refine lv_aload_n hx hb dX4_first_25 rfl (lv_at hl 2 rfl) ?_
      refine lv_aload_n hx hb dX4_first_26 rfl (lv_at hl 2 rfl) ?_
      refine va_get (D := G.1) (ci := 4) (v := .ref (b 8)) (C := RX4) (T := TX4) (N := 19) hx hb hts iw_X4_first_RX4 hown hE.1 hP 0 rfl rfl 15 (by decide) (hts (.fieldLink RX4 32 "RackrailModel" "orderBoxes" "[I") (by decide +kernel)) (fun _ h9 => h9) rfl dX4_first_27 ?_
      refine lv_iload_n hx hb dX4_first_30 rfl (lv_at hl 0 rfl) ?_
      refine va_iald hx hb hE.1 hP 2 0 rfl rfl (vp_in_nI (by omega) (by decide)) dX4_first_31 ?_
      refine k_p (va_runV (As := [.int (mob (nI j).toNatClampNeg)]) (rest := []) ⟨hx, hb, hml, hown, hts⟩ (c_X4_spot l G b s.heap.size mth mck mbn mai mtm mst msm mon mlt mli (mob (nI j).toNatClampNeg)) (cwV 1 hts gX4_first_X4_spot rfl rfl rfl ⟨rfl, by decide +kernel, by decide +kernel, by decide +kernel⟩ ⟨Nat.le_of_ble_eq_true rfl, Nat.le_of_ble_eq_true rfl⟩) ⟨GP.blind, va_recv hE.1 hP (ci := 4) (q0 := 0) rfl rfl, GP.go (wc := [wcM b mth mck mbn mai mtm mst msm mon mlt, wcI G (b 5) 36 mli]) hE hZ hP hD hS hA [0, 1] rfl (by decide) [.ref (b 0), .int (mob (nI j).toNatClampNeg)]⟩ rfl rfl hl.1 rfl (lv_room (Nat.le_of_ble_eq_true rfl)) dX4_first_32 ⟨Nat.le_of_ble_eq_true rfl, Nat.le_of_ble_eq_true rfl⟩) ?_
      refine lv_istore (lv' := [(4, .int (f_X4_spot mli (mob (nI j).toNatClampNeg))), (3, .int (nI j)), (2, .int its), (0, .ref (b 0)), (1, .int p0)]) hx hb dX4_first_35 hl (by decide) rfl (fun ls hl => ?_)
      refine lv_iload hx hb dX4_first_37 (lv_at hl 0 rfl) ?_
      refine lv_iconst (v := (-1)) hx hb dX4_first_39 (by decide) ?_
      refine lv_icmp_eq (tgt := 61) hx hb dX4_first_40 (by decide) (fun c_40 => ?_) (fun c_40 => ?_)
      · refine lv_iconst (v := 0) hx hb dX4_first_61 (by decide) ?_
        refine lv_istore (lv' := [(5, .int 0), (4, .int (f_X4_spot mli (mob (nI j).toNatClampNeg))), (3, .int (nI j)), (2, .int its), (0, .ref (b 0)), (1, .int p0)]) hx hb dX4_first_62 hl (by decide) rfl (fun ls hl => ?_)
        refine lv_iload hx hb dX4_first_64 (lv_at hl 0 rfl) ?_
        refine lv_if_eq (tgt := 93) hx hb dX4_first_66 (by decide) (fun c_66 => ?_) (fun c_66 => absurd (by decide) c_66)
        refine lv_iload_n hx hb dX4_first_93 rfl (lv_at hl 3 rfl) ?_
        refine lv_istore_n (lv' := [(2, .int its), (5, .int 0), (4, .int (f_X4_spot mli (mob (nI j).toNatClampNeg))), (3, .int (nI j)), (0, .ref (b 0)), (1, .int p0)]) hx hb dX4_first_94 rfl hl (by decide) rfl (fun ls hl => ?_)
        refine lv_iinc (v := nI (j + 1)) (lv' := [(3, .int (nI (j + 1))), (2, .int its), (5, .int 0), (4, .int (f_X4_spot mli (mob (nI j).toNatClampNeg))), (0, .ref (b 0)), (1, .int p0)]) hx hb dX4_first_95 hl (k := 3) rfl (inc1 _) (by decide) rfl (fun ls hl => ?_)
        refine lv_goto (tgt := 4) hx hb dX4_first_98 (by decide) ?_
        exact ih (j + 1) its _ ⟨by omega, by first | exact hinv | exact Or.inr (vp_in_nI (by omega) (by decide)), (hf.trans (by rw [f_X4_first_L, if_pos c_18, if_pos c_40])), lv_sub hl [0, 1, 4, 5] rfl⟩
      · refine lv_iload_n hx hb dX4_first_43 rfl (lv_at hl 4 rfl) ?_
        refine lv_iconst (v := (-1)) hx hb dX4_first_44 (by decide) ?_
        refine lv_icmp_eq (tgt := 57) hx hb dX4_first_45 (by decide) (fun c_45 => ?_) (fun c_45 => ?_)
        · refine lv_iconst (v := 1) hx hb dX4_first_57 (by decide) ?_
          refine lv_goto (tgt := 62) hx hb dX4_first_58 (by decide) ?_
          refine lv_istore (lv' := [(5, .int 1), (4, .int (f_X4_spot mli (mob (nI j).toNatClampNeg))), (3, .int (nI j)), (2, .int its), (0, .ref (b 0)), (1, .int p0)]) hx hb dX4_first_62 hl (by decide) rfl (fun ls hl => ?_)
          refine lv_iload hx hb dX4_first_64 (lv_at hl 0 rfl) ?_
          refine lv_if_eq (tgt := 93) hx hb dX4_first_66 (by decide) (fun c_66 => absurd c_66 (by decide)) (fun c_66 => ?_)
          refine lv_iload_n hx hb dX4_first_69 rfl (lv_at hl 3 rfl) ?_
          refine lv_iconst (v := (-1)) hx hb dX4_first_70 (by decide) ?_
          refine lv_icmp_eq (tgt := 89) hx hb dX4_first_71 (by decide) (fun c_71 => ?_) (fun c_71 => ?_)
          · refine lv_iload_n hx hb dX4_first_89 rfl (lv_at hl 2 rfl) ?_
            refine lv_goto (tgt := 94) hx hb dX4_first_90 (by decide) ?_
            refine lv_istore_n (lv' := [(2, .int (nI j)), (5, .int 1), (4, .int (f_X4_spot mli (mob (nI j).toNatClampNeg))), (3, .int (nI j)), (0, .ref (b 0)), (1, .int p0)]) hx hb dX4_first_94 rfl hl (by decide) rfl (fun ls hl => ?_)
            refine lv_iinc (v := nI (j + 1)) (lv' := [(3, .int (nI (j + 1))), (2, .int (nI j)), (5, .int 1), (4, .int (f_X4_spot mli (mob (nI j).toNatClampNeg))), (0, .ref (b 0)), (1, .int p0)]) hx hb dX4_first_95 hl (k := 3) rfl (inc1 _) (by decide) rfl (fun ls hl => ?_)
            refine lv_goto (tgt := 4) hx hb dX4_first_98 (by decide) ?_
            exact ih (j + 1) (nI j) _ ⟨by omega, by first | exact hinv | exact Or.inr (vp_in_nI (by omega) (by decide)), (hf.trans (by rw [f_X4_first_L, if_pos c_18, if_neg c_40, if_pos c_45, if_pos c_71])), lv_sub hl [0, 1, 4, 5] rfl⟩
          · refine lv_aload_n hx hb dX4_first_74 rfl (lv_at hl 4 rfl) ?_
            refine va_get (D := G.1) (ci := 4) (v := .ref (b 9)) (C := RX4) (T := TX4) (N := 19) hx hb hts iw_X4_first_RX4 hown hE.1 hP 0 rfl rfl 16 (by decide) (hts (.fieldLink RX4 35 "RackrailModel" "deadlines" "[I") (by decide +kernel)) (fun _ h9 => h9) rfl dX4_first_75 ?_
            refine lv_iload_n hx hb dX4_first_78 rfl (lv_at hl 2 rfl) ?_
            refine va_iald hx hb hE.1 hP 3 0 rfl rfl (vp_in_nI (by omega) (by decide)) dX4_first_79 ?_
            refine lv_aload_n hx hb dX4_first_80 rfl (lv_at hl 4 rfl) ?_
            refine va_get (D := G.1) (ci := 4) (v := .ref (b 9)) (C := RX4) (T := TX4) (N := 19) hx hb hts iw_X4_first_RX4 hown hE.1 hP 0 rfl rfl 16 (by decide) (hts (.fieldLink RX4 35 "RackrailModel" "deadlines" "[I") (by decide +kernel)) (fun _ h9 => h9) rfl dX4_first_81 ?_
            refine lv_iload_n hx hb dX4_first_84 rfl (lv_at hl 3 rfl) ?_
            refine va_iald hx hb hE.1 hP 3 0 rfl rfl (hinv.resolve_left c_71) dX4_first_85 ?_
            refine lv_icmp_ge (tgt := 93) hx hb dX4_first_86 (by decide) (fun c_86 => ?_) (fun c_86 => ?_)
            · refine lv_iload_n hx hb dX4_first_93 rfl (lv_at hl 3 rfl) ?_
              refine lv_istore_n (lv' := [(2, .int its), (5, .int 1), (4, .int (f_X4_spot mli (mob (nI j).toNatClampNeg))), (3, .int (nI j)), (0, .ref (b 0)), (1, .int p0)]) hx hb dX4_first_94 rfl hl (by decide) rfl (fun ls hl => ?_)
              refine lv_iinc (v := nI (j + 1)) (lv' := [(3, .int (nI (j + 1))), (2, .int its), (5, .int 1), (4, .int (f_X4_spot mli (mob (nI j).toNatClampNeg))), (0, .ref (b 0)), (1, .int p0)]) hx hb dX4_first_95 hl (k := 3) rfl (inc1 _) (by decide) rfl (fun ls hl => ?_)
              refine lv_goto (tgt := 4) hx hb dX4_first_98 (by decide) ?_
              exact ih (j + 1) its _ ⟨by omega, by first | exact hinv | exact Or.inr (vp_in_nI (by omega) (by decide)), (hf.trans (by rw [f_X4_first_L, if_pos c_18, if_neg c_40, if_pos c_45, if_neg c_71, if_pos c_86])), lv_sub hl [0, 1, 4, 5] rfl⟩
            · refine lv_iload_n hx hb dX4_first_89 rfl (lv_at hl 2 rfl) ?_
              refine lv_goto (tgt := 94) hx hb dX4_first_90 (by decide) ?_
              refine lv_istore_n (lv' := [(2, .int (nI j)), (5, .int 1), (4, .int (f_X4_spot mli (mob (nI j).toNatClampNeg))), (3, .int (nI j)), (0, .ref (b 0)), (1, .int p0)]) hx hb dX4_first_94 rfl hl (by decide) rfl (fun ls hl => ?_)
              refine lv_iinc (v := nI (j + 1)) (lv' := [(3, .int (nI (j + 1))), (2, .int (nI j)), (5, .int 1), (4, .int (f_X4_spot mli (mob (nI j).toNatClampNeg))), (0, .ref (b 0)), (1, .int p0)]) hx hb dX4_first_95 hl (k := 3) rfl (inc1 _) (by decide) rfl (fun ls hl => ?_)
              refine lv_goto (tgt := 4) hx hb dX4_first_98 (by decide) ?_
              exact ih (j + 1) (nI j) _ ⟨by omega, by first | exact hinv | exact Or.inr (vp_in_nI (by omega) (by decide)), (hf.trans (by rw [f_X4_first_L, if_pos c_18, if_neg c_40, if_pos c_45, if_neg c_71, if_neg c_86])), lv_sub hl [0, 1, 4, 5] rfl⟩
        · refine lv_iload hx hb dX4_first_48 (lv_at hl 0 rfl) ?_
          refine k_p (va_runS (As := [.int (f_X4_spot mli (mob (nI j).toNatClampNeg))]) (rest := []) ⟨hx, hb, hml, hown, hts⟩ (c_X4_aisleOf l G s.heap.size (f_X4_spot mli (mob (nI j).toNatClampNeg))) (va_cwS 1 hts gX4_first_X4_aisleOf rfl rfl rfl ⟨by decide +kernel, by decide +kernel, by decide +kernel⟩ ⟨Nat.le_of_ble_eq_true rfl, Nat.le_of_ble_eq_true rfl⟩) ⟨GP.blind, GP.go (wc := []) hE hZ hP hD hS hA [] rfl (by decide) [.int (f_X4_spot mli (mob (nI j).toNatClampNeg))]⟩ rfl rfl hl.1 rfl (lv_room (Nat.le_of_ble_eq_true rfl)) dX4_first_50 ⟨Nat.le_of_ble_eq_true rfl, Nat.le_of_ble_eq_true rfl⟩) ?_
          refine lv_iload_n hx hb dX4_first_53 rfl (lv_at hl 4 rfl) ?_
          refine lv_icmp_ne (tgt := 61) hx hb dX4_first_54 (by decide) (fun c_54 => ?_) (fun c_54 => ?_)
          · refine lv_iconst (v := 0) hx hb dX4_first_61 (by decide) ?_
            refine lv_istore (lv' := [(5, .int 0), (4, .int (f_X4_spot mli (mob (nI j).toNatClampNeg))), (3, .int (nI j)), (2, .int its), (0, .ref (b 0)), (1, .int p0)]) hx hb dX4_first_62 hl (by decide) rfl (fun ls hl => ?_)
            refine lv_iload hx hb dX4_first_64 (lv_at hl 0 rfl) ?_
            refine lv_if_eq (tgt := 93) hx hb dX4_first_66 (by decide) (fun c_66 => ?_) (fun c_66 => absurd (by decide) c_66)
            refine lv_iload_n hx hb dX4_first_93 rfl (lv_at hl 3 rfl) ?_
            refine lv_istore_n (lv' := [(2, .int its), (5, .int 0), (4, .int (f_X4_spot mli (mob (nI j).toNatClampNeg))), (3, .int (nI j)), (0, .ref (b 0)), (1, .int p0)]) hx hb dX4_first_94 rfl hl (by decide) rfl (fun ls hl => ?_)
            refine lv_iinc (v := nI (j + 1)) (lv' := [(3, .int (nI (j + 1))), (2, .int its), (5, .int 0), (4, .int (f_X4_spot mli (mob (nI j).toNatClampNeg))), (0, .ref (b 0)), (1, .int p0)]) hx hb dX4_first_95 hl (k := 3) rfl (inc1 _) (by decide) rfl (fun ls hl => ?_)
            refine lv_goto (tgt := 4) hx hb dX4_first_98 (by decide) ?_
            exact ih (j + 1) its _ ⟨by omega, by first | exact hinv | exact Or.inr (vp_in_nI (by omega) (by decide)), (hf.trans (by rw [f_X4_first_L, if_pos c_18, if_neg c_40, if_neg c_45, if_neg c_54])), lv_sub hl [0, 1, 4, 5] rfl⟩
          · refine lv_iconst (v := 1) hx hb dX4_first_57 (by decide) ?_
            refine lv_goto (tgt := 62) hx hb dX4_first_58 (by decide) ?_
            refine lv_istore (lv' := [(5, .int 1), (4, .int (f_X4_spot mli (mob (nI j).toNatClampNeg))), (3, .int (nI j)), (2, .int its), (0, .ref (b 0)), (1, .int p0)]) hx hb dX4_first_62 hl (by decide) rfl (fun ls hl => ?_)
            refine lv_iload hx hb dX4_first_64 (lv_at hl 0 rfl) ?_
            refine lv_if_eq (tgt := 93) hx hb dX4_first_66 (by decide) (fun c_66 => absurd c_66 (by decide)) (fun c_66 => ?_)
            refine lv_iload_n hx hb dX4_first_69 rfl (lv_at hl 3 rfl) ?_
            refine lv_iconst (v := (-1)) hx hb dX4_first_70 (by decide) ?_
            refine lv_icmp_eq (tgt := 89) hx hb dX4_first_71 (by decide) (fun c_71 => ?_) (fun c_71 => ?_)
            · refine lv_iload_n hx hb dX4_first_89 rfl (lv_at hl 2 rfl) ?_
              refine lv_goto (tgt := 94) hx hb dX4_first_90 (by decide) ?_
              refine lv_istore_n (lv' := [(2, .int (nI j)), (5, .int 1), (4, .int (f_X4_spot mli (mob (nI j).toNatClampNeg))), (3, .int (nI j)), (0, .ref (b 0)), (1, .int p0)]) hx hb dX4_first_94 rfl hl (by decide) rfl (fun ls hl => ?_)
              refine lv_iinc (v := nI (j + 1)) (lv' := [(3, .int (nI (j + 1))), (2, .int (nI j)), (5, .int 1), (4, .int (f_X4_spot mli (mob (nI j).toNatClampNeg))), (0, .ref (b 0)), (1, .int p0)]) hx hb dX4_first_95 hl (k := 3) rfl (inc1 _) (by decide) rfl (fun ls hl => ?_)
              refine lv_goto (tgt := 4) hx hb dX4_first_98 (by decide) ?_
              exact ih (j + 1) (nI j) _ ⟨by omega, by first | exact hinv | exact Or.inr (vp_in_nI (by omega) (by decide)), (hf.trans (by rw [f_X4_first_L, if_pos c_18, if_neg c_40, if_neg c_45, if_pos c_54, if_pos c_71])), lv_sub hl [0, 1, 4, 5] rfl⟩
            · refine lv_aload_n hx hb dX4_first_74 rfl (lv_at hl 4 rfl) ?_
              refine va_get (D := G.1) (ci := 4) (v := .ref (b 9)) (C := RX4) (T := TX4) (N := 19) hx hb hts iw_X4_first_RX4 hown hE.1 hP 0 rfl rfl 16 (by decide) (hts (.fieldLink RX4 35 "RackrailModel" "deadlines" "[I") (by decide +kernel)) (fun _ h9 => h9) rfl dX4_first_75 ?_
              refine lv_iload_n hx hb dX4_first_78 rfl (lv_at hl 2 rfl) ?_
              refine va_iald hx hb hE.1 hP 3 0 rfl rfl (vp_in_nI (by omega) (by decide)) dX4_first_79 ?_
              refine lv_aload_n hx hb dX4_first_80 rfl (lv_at hl 4 rfl) ?_
              refine va_get (D := G.1) (ci := 4) (v := .ref (b 9)) (C := RX4) (T := TX4) (N := 19) hx hb hts iw_X4_first_RX4 hown hE.1 hP 0 rfl rfl 16 (by decide) (hts (.fieldLink RX4 35 "RackrailModel" "deadlines" "[I") (by decide +kernel)) (fun _ h9 => h9) rfl dX4_first_81 ?_
              refine lv_iload_n hx hb dX4_first_84 rfl (lv_at hl 3 rfl) ?_
              refine va_iald hx hb hE.1 hP 3 0 rfl rfl (hinv.resolve_left c_71) dX4_first_85 ?_
              refine lv_icmp_ge (tgt := 93) hx hb dX4_first_86 (by decide) (fun c_86 => ?_) (fun c_86 => ?_)
              · refine lv_iload_n hx hb dX4_first_93 rfl (lv_at hl 3 rfl) ?_
                refine lv_istore_n (lv' := [(2, .int its), (5, .int 1), (4, .int (f_X4_spot mli (mob (nI j).toNatClampNeg))), (3, .int (nI j)), (0, .ref (b 0)), (1, .int p0)]) hx hb dX4_first_94 rfl hl (by decide) rfl (fun ls hl => ?_)
                refine lv_iinc (v := nI (j + 1)) (lv' := [(3, .int (nI (j + 1))), (2, .int its), (5, .int 1), (4, .int (f_X4_spot mli (mob (nI j).toNatClampNeg))), (0, .ref (b 0)), (1, .int p0)]) hx hb dX4_first_95 hl (k := 3) rfl (inc1 _) (by decide) rfl (fun ls hl => ?_)
                refine lv_goto (tgt := 4) hx hb dX4_first_98 (by decide) ?_
                exact ih (j + 1) its _ ⟨by omega, by first | exact hinv | exact Or.inr (vp_in_nI (by omega) (by decide)), (hf.trans (by rw [f_X4_first_L, if_pos c_18, if_neg c_40, if_neg c_45, if_pos c_54, if_neg c_71, if_pos c_86])), lv_sub hl [0, 1, 4, 5] rfl⟩
              · refine lv_iload_n hx hb dX4_first_89 rfl (lv_at hl 2 rfl) ?_
                refine lv_goto (tgt := 94) hx hb dX4_first_90 (by decide) ?_
                refine lv_istore_n (lv' := [(2, .int (nI j)), (5, .int 1), (4, .int (f_X4_spot mli (mob (nI j).toNatClampNeg))), (3, .int (nI j)), (0, .ref (b 0)), (1, .int p0)]) hx hb dX4_first_94 rfl hl (by decide) rfl (fun ls hl => ?_)
                refine lv_iinc (v := nI (j + 1)) (lv' := [(3, .int (nI (j + 1))), (2, .int (nI j)), (5, .int 1), (4, .int (f_X4_spot mli (mob (nI j).toNatClampNeg))), (0, .ref (b 0)), (1, .int p0)]) hx hb dX4_first_95 hl (k := 3) rfl (inc1 _) (by decide) rfl (fun ls hl => ?_)
                refine lv_goto (tgt := 4) hx hb dX4_first_98 (by decide) ?_
                exact ih (j + 1) (nI j) _ ⟨by omega, by first | exact hinv | exact Or.inr (vp_in_nI (by omega) (by decide)), (hf.trans (by rw [f_X4_first_L, if_pos c_18, if_neg c_40, if_neg c_45, if_pos c_54, if_neg c_71, if_neg c_86])), lv_sub hl [0, 1, 4, 5] rfl⟩
    · refine lv_iconst (v := (-1)) hx hb dX4_first_21 (by decide) ?_
      refine lv_goto (tgt := 35) hx hb dX4_first_22 (by decide) ?_
      refine lv_istore (lv' := [(4, .int (-1)), (3, .int (nI j)), (2, .int its), (0, .ref (b 0)), (1, .int p0)]) hx hb dX4_first_35 hl (by decide) rfl (fun ls hl => ?_)
      refine lv_iload hx hb dX4_first_37 (lv_at hl 0 rfl) ?_
      refine lv_iconst (v := (-1)) hx hb dX4_first_39 (by decide) ?_
      refine lv_icmp_eq (tgt := 61) hx hb dX4_first_40 (by decide) (fun c_40 => ?_) (fun c_40 => absurd (by decide) c_40)
      refine lv_iconst (v := 0) hx hb dX4_first_61 (by decide) ?_
      refine lv_istore (lv' := [(5, .int 0), (4, .int (-1)), (3, .int (nI j)), (2, .int its), (0, .ref (b 0)), (1, .int p0)]) hx hb dX4_first_62 hl (by decide) rfl (fun ls hl => ?_)
      refine lv_iload hx hb dX4_first_64 (lv_at hl 0 rfl) ?_
      refine lv_if_eq (tgt := 93) hx hb dX4_first_66 (by decide) (fun c_66 => ?_) (fun c_66 => absurd (by decide) c_66)
      refine lv_iload_n hx hb dX4_first_93 rfl (lv_at hl 3 rfl) ?_
      refine lv_istore_n (lv' := [(2, .int its), (5, .int 0), (4, .int (-1)), (3, .int (nI j)), (0, .ref (b 0)), (1, .int p0)]) hx hb dX4_first_94 rfl hl (by decide) rfl (fun ls hl => ?_)
      refine lv_iinc (v := nI (j + 1)) (lv' := [(3, .int (nI (j + 1))), (2, .int its), (5, .int 0), (4, .int (-1)), (0, .ref (b 0)), (1, .int p0)]) hx hb dX4_first_95 hl (k := 3) rfl (inc1 _) (by decide) rfl (fun ls hl => ?_)
      refine lv_goto (tgt := 4) hx hb dX4_first_98 (by decide) ?_
      exact ih (j + 1) its _ ⟨by omega, by first | exact hinv | exact Or.inr (vp_in_nI (by omega) (by decide)), (hf.trans (by rw [f_X4_first_L, if_neg c_18])), lv_sub hl [0, 1, 4, 5] rfl⟩

/-! X4_nextAisle -/
def f_X4_nextAisle (mon : Int32) (mli : Nat → Int32) (mob : Nat → Int32) (mdl : Nat → Int32) (mdn : Nat → Int32) : Int32 × Int32 :=
  if (f_X4_first mon mli mob mdl mdn (-1)) = (-1) then ((-1), 0)
    else (f_X4_aisleOf (f_X4_spot mli (mob (f_X4_first mon mli mob mdl mdn (-1)).toNatClampNeg)), 0)
theorem iw_X4_nextAisle_RX4 : ∀ w ∈ u_ws RX4 TX4 19, w ∈ wsX4_nextAisle := by decide +kernel
set_option maxHeartbeats 4000000 in
set_option maxRecDepth 100000 in
theorem c_X4_nextAisle (l : Launch) (G : GT) (b : Nat → Nat) (sz : Nat) (mth : Int32) (mck : Int32) (mbn : Int32) (mai : Int32) (mtm : Int32) (mst : Int32) (msm : Int32) (mon : Int32) (mlt : Int32) (mli : Nat → Int32) (mob : Nat → Int32) (mdl : Nat → Int32) (mdn : Nat → Int32) (hmo : okN 30 mon) : Met l yX4_nextAisle wsX4_nextAisle ({ frames := 2, cells := 0, slots := 0, locals := 48 }) (GP G [.ref (b 0)] [wcM b mth mck mbn mai mtm mst msm mon mlt, wcI G (b 5) 36 mli, wcI G (b 8) 30 mob, wcI G (b 9) 30 mdl, wcZ G (b 10) 30 mdn] sz) (MQo G (.returned (some (.int ((f_X4_nextAisle mon mli mob mdl mdn).1)))) [wcM b ((f_X4_nextAisle mon mli mob mdl mdn).2) mck mbn mai mtm mst msm mon mlt, wcI G (b 5) 36 mli, wcI G (b 8) 30 mob, wcI G (b 9) 30 mdl, wcZ G (b 10) 30 mdn] (va_A [wcM b mth mck mbn mai mtm mst msm mon mlt, wcI G (b 5) 36 mli, wcI G (b 8) 30 mob, wcI G (b 9) 30 mdl, wcZ G (b 10) 30 mdn] sz)) 0 0 (va_A [wcM b mth mck mbn mai mtm mst msm mon mlt, wcI G (b 5) 36 mli, wcI G (b 8) 30 mob, wcI G (b 9) 30 mdl, wcZ G (b 10) 30 mdn] sz) := by
  refine bodyM (cc := cX4_nextAisle) (maxL := 2) (ret := (some .int)) (by decide) rfl (Nat.le_of_ble_eq_true rfl) ?_
  intro p e s m below meth c ls C
  obtain ⟨hx, hb, hr, hts, hown, hlocks, hml, hsz, hP, hE, hD, hZ, hA, hS, hl⟩ := C
  subst hsz
  have hl : lv_has ls 2 [(0, .ref (b 0))] := hl
  refine lv_aload_n hx hb dX4_nextAisle_0 rfl (lv_at hl 0 rfl) ?_
  refine lv_iconst (v := 0) hx hb dX4_nextAisle_1 (by decide) ?_
  refine va_put (D := G.1) (ci := 4) (v := .int 0) (ty := .int) (C := RX4) (T := TX4) (N := 19) hx hb hts iw_X4_nextAisle_RX4 tyX4 tyX4_ok nmX4 hown hE.1 hP hD hS 0 rfl rfl 0 (by decide) (hts (.fieldLink RX4 41 "RackrailModel" "thrown" "I") (by decide +kernel)) (fun _ h9 => h9) rfl (by decide +kernel) rfl rfl (Nat.le_of_ble_eq_true rfl) dX4_nextAisle_2 (fun H locs hP hD hS => ?_)
  have hP : va_P G.1 vwCl [wcM b 0 mck mbn mai mtm mst msm mon mlt, wcI G (b 5) 36 mli, wcI G (b 8) 30 mob, wcI G (b 9) 30 mdl, wcZ G (b 10) 30 mdn] H := hP
  have hD : va_D _ [wcM b 0 mck mbn mai mtm mst msm mon mlt, wcI G (b 5) 36 mli, wcI G (b 8) 30 mob, wcI G (b 9) 30 mdl, wcZ G (b 10) 30 mdn] := hD
  refine lv_aload_n hx hb dX4_nextAisle_5 rfl (lv_at hl 0 rfl) ?_
  refine lv_iconst (v := (-1)) hx hb dX4_nextAisle_6 (by decide) ?_
  refine k_p (va_runV (As := [.int (-1)]) (rest := []) ⟨hx, hb, hml, hown, hts⟩ (c_X4_first l G b H.size 0 mck mbn mai mtm mst msm mon mlt mli mob mdl mdn (-1) hmo) (cwV 1 hts gX4_nextAisle_X4_first rfl rfl rfl ⟨rfl, by decide +kernel, by decide +kernel, by decide +kernel⟩ ⟨Nat.le_of_ble_eq_true rfl, Nat.le_of_ble_eq_true rfl⟩) ⟨GP.blind, va_recv hE.1 hP (ci := 4) (q0 := 0) rfl rfl, GP.go (wc := [wcM b 0 mck mbn mai mtm mst msm mon mlt, wcI G (b 5) 36 mli, wcI G (b 8) 30 mob, wcI G (b 9) 30 mdl, wcZ G (b 10) 30 mdn]) hE hZ hP hD hS hA [0, 1, 2, 3, 4] rfl (by decide) [.ref (b 0), .int (-1)]⟩ rfl rfl hl.1 rfl (lv_room (Nat.le_of_ble_eq_true rfl)) dX4_nextAisle_7 ⟨Nat.le_of_ble_eq_true rfl, Nat.le_of_ble_eq_true rfl⟩) ?_
  refine lv_istore_n (lv' := [(1, .int (f_X4_first mon mli mob mdl mdn (-1))), (0, .ref (b 0))]) hx hb dX4_nextAisle_10 rfl hl (by decide) rfl (fun ls hl => ?_)
  refine lv_iload_n hx hb dX4_nextAisle_11 rfl (lv_at hl 0 rfl) ?_
  refine lv_iconst (v := (-1)) hx hb dX4_nextAisle_12 (by decide) ?_
  refine lv_icmp_ne (tgt := 20) hx hb dX4_nextAisle_13 (by decide) (fun c_13 => ?_) (fun c_13 => ?_)
  · refine lv_aload_n hx hb dX4_nextAisle_20 rfl (lv_at hl 1 rfl) ?_
    refine lv_aload_n hx hb dX4_nextAisle_21 rfl (lv_at hl 1 rfl) ?_
    refine va_get (D := G.1) (ci := 4) (v := .ref (b 8)) (C := RX4) (T := TX4) (N := 19) hx hb hts iw_X4_nextAisle_RX4 hown hE.1 hP 0 rfl rfl 15 (by decide) (hts (.fieldLink RX4 32 "RackrailModel" "orderBoxes" "[I") (by decide +kernel)) (fun _ h9 => h9) rfl dX4_nextAisle_22 ?_
    refine lv_iload_n hx hb dX4_nextAisle_25 rfl (lv_at hl 0 rfl) ?_
    refine va_iald hx hb hE.1 hP 2 0 rfl rfl ((first_P hmo c_13).1) dX4_nextAisle_26 ?_
    refine k_p (va_runV (As := [.int (mob (f_X4_first mon mli mob mdl mdn (-1)).toNatClampNeg)]) (rest := []) ⟨hx, hb, hml, hown, hts⟩ (c_X4_spot l G b H.size 0 mck mbn mai mtm mst msm mon mlt mli (mob (f_X4_first mon mli mob mdl mdn (-1)).toNatClampNeg)) (cwV 1 hts gX4_nextAisle_X4_spot rfl rfl rfl ⟨rfl, by decide +kernel, by decide +kernel, by decide +kernel⟩ ⟨Nat.le_of_ble_eq_true rfl, Nat.le_of_ble_eq_true rfl⟩) ⟨GP.blind, va_recv hE.1 hP (ci := 4) (q0 := 0) rfl rfl, GP.go (wc := [wcM b 0 mck mbn mai mtm mst msm mon mlt, wcI G (b 5) 36 mli]) hE hZ hP hD hS hA [0, 1] rfl (by decide) [.ref (b 0), .int (mob (f_X4_first mon mli mob mdl mdn (-1)).toNatClampNeg)]⟩ rfl rfl hl.1 rfl (lv_room (Nat.le_of_ble_eq_true rfl)) dX4_nextAisle_27 ⟨Nat.le_of_ble_eq_true rfl, Nat.le_of_ble_eq_true rfl⟩) ?_
    refine k_p (va_runS (As := [.int (f_X4_spot mli (mob (f_X4_first mon mli mob mdl mdn (-1)).toNatClampNeg))]) (rest := []) ⟨hx, hb, hml, hown, hts⟩ (c_X4_aisleOf l G H.size (f_X4_spot mli (mob (f_X4_first mon mli mob mdl mdn (-1)).toNatClampNeg))) (va_cwS 1 hts gX4_nextAisle_X4_aisleOf rfl rfl rfl ⟨by decide +kernel, by decide +kernel, by decide +kernel⟩ ⟨Nat.le_of_ble_eq_true rfl, Nat.le_of_ble_eq_true rfl⟩) ⟨GP.blind, GP.go (wc := []) hE hZ hP hD hS hA [] rfl (by decide) [.int (f_X4_spot mli (mob (f_X4_first mon mli mob mdl mdn (-1)).toNatClampNeg))]⟩ rfl rfl hl.1 rfl (lv_room (Nat.le_of_ble_eq_true rfl)) dX4_nextAisle_30 ⟨Nat.le_of_ble_eq_true rfl, Nat.le_of_ble_eq_true rfl⟩) ?_
    have hq : f_X4_nextAisle mon mli mob mdl mdn = (f_X4_aisleOf (f_X4_spot mli (mob (f_X4_first mon mli mob mdl mdn (-1)).toNatClampNeg)), 0) := (by rw [f_X4_nextAisle, if_neg c_13])
    exact W.iret (v := f_X4_aisleOf (f_X4_spot mli (mob (f_X4_first mon mli mob mdl mdn (-1)).toNatClampNeg))) hx hb hr (fun t ht _ => ⟨by rw [hq], by rw [hq, ht]; exact hP, hS.F ht⟩) hS.2.2 dX4_nextAisle_33
  · refine lv_iconst (v := (-1)) hx hb dX4_nextAisle_16 (by decide) ?_
    refine lv_goto (tgt := 33) hx hb dX4_nextAisle_17 (by decide) ?_
    have hq : f_X4_nextAisle mon mli mob mdl mdn = ((-1), 0) := (by rw [f_X4_nextAisle, if_pos c_13])
    exact W.iret (v := (-1)) hx hb hr (fun t ht _ => ⟨by rw [hq], by rw [hq, ht]; exact hP, hS.F ht⟩) hS.2.2 dX4_nextAisle_33

/-! X4_fetch -/
def f_X4_fetch (mck : Int32) (mai : Int32) (mon : Int32) (mlt : Int32) (mli : Nat → Int32) (mis : Nat → Int32) (mob : Nat → Int32) (mdl : Nat → Int32) (mdn : Nat → Int32) (p0 : Int32) : Int32 × Int32 × Int32 × (Nat → Int32) × (Nat → Int32) :=
  if (f_X4_isPerson p0) = 0 then (0, 1, mlt, mli, mdn)
    else if (mis p0.toNatClampNeg) = 0 then (0, 2, mlt, mli, mdn)
    else if (f_X4_first mon mli mob mdl mdn mai) = (-1) then (0, 2, mlt, mli, mdn)
    else if mck ≤ (mdl (f_X4_first mon mli mob mdl mdn mai).toNatClampNeg) then (f_X4_first mon mli mob mdl mdn mai, 0, mlt + 0, upd mli (f_X4_spot mli (mob (f_X4_first mon mli mob mdl mdn mai).toNatClampNeg)).toNatClampNeg 0, upd mdn (f_X4_first mon mli mob mdl mdn mai).toNatClampNeg 1)
    else (f_X4_first mon mli mob mdl mdn mai, 0, mlt + 1, upd mli (f_X4_spot mli (mob (f_X4_first mon mli mob mdl mdn mai).toNatClampNeg)).toNatClampNeg 0, upd mdn (f_X4_first mon mli mob mdl mdn mai).toNatClampNeg 1)
theorem iw_X4_fetch_RX4 : ∀ w ∈ u_ws RX4 TX4 19, w ∈ wsX4_fetch := by decide +kernel
set_option maxHeartbeats 4000000 in
set_option maxRecDepth 100000 in
theorem c_X4_fetch (l : Launch) (G : GT) (b : Nat → Nat) (sz : Nat) (mth : Int32) (mck : Int32) (mbn : Int32) (mai : Int32) (mtm : Int32) (mst : Int32) (msm : Int32) (mon : Int32) (mlt : Int32) (mli : Nat → Int32) (mis : Nat → Int32) (mob : Nat → Int32) (mdl : Nat → Int32) (mdn : Nat → Int32) (p0 : Int32) (hmo : okN 30 mon) (hai : vp_in mai 7) : Met l yX4_fetch wsX4_fetch ({ frames := 2, cells := 0, slots := 0, locals := 48 }) (GP G [.ref (b 0), .int p0] [wcM b mth mck mbn mai mtm mst msm mon mlt, wcI G (b 5) 36 mli, wcZ G (b 7) 4 mis, wcI G (b 8) 30 mob, wcI G (b 9) 30 mdl, wcZ G (b 10) 30 mdn] sz) (MQo G (.returned (some (.int ((f_X4_fetch mck mai mon mlt mli mis mob mdl mdn p0).1)))) [wcM b ((f_X4_fetch mck mai mon mlt mli mis mob mdl mdn p0).2.1) mck mbn mai mtm mst msm mon ((f_X4_fetch mck mai mon mlt mli mis mob mdl mdn p0).2.2.1), wcI G (b 5) 36 ((f_X4_fetch mck mai mon mlt mli mis mob mdl mdn p0).2.2.2.1), wcZ G (b 7) 4 mis, wcI G (b 8) 30 mob, wcI G (b 9) 30 mdl, wcZ G (b 10) 30 ((f_X4_fetch mck mai mon mlt mli mis mob mdl mdn p0).2.2.2.2)] (va_A [wcM b mth mck mbn mai mtm mst msm mon mlt, wcI G (b 5) 36 mli, wcZ G (b 7) 4 mis, wcI G (b 8) 30 mob, wcI G (b 9) 30 mdl, wcZ G (b 10) 30 mdn] sz)) 0 0 (va_A [wcM b mth mck mbn mai mtm mst msm mon mlt, wcI G (b 5) 36 mli, wcZ G (b 7) 4 mis, wcI G (b 8) 30 mob, wcI G (b 9) 30 mdl, wcZ G (b 10) 30 mdn] sz) := by
  refine bodyM (cc := cX4_fetch) (maxL := 3) (ret := (some .int)) (by decide) rfl (Nat.le_of_ble_eq_true rfl) ?_
  intro p e s m below meth c ls C
  obtain ⟨hx, hb, hr, hts, hown, hlocks, hml, hsz, hP, hE, hD, hZ, hA, hS, hl⟩ := C
  subst hsz
  have hl : lv_has ls 3 [(0, .ref (b 0)), (1, .int p0)] := hl
  refine lv_aload_n hx hb dX4_fetch_0 rfl (lv_at hl 0 rfl) ?_
  refine lv_iload_n hx hb dX4_fetch_1 rfl (lv_at hl 1 rfl) ?_
  refine k_p (va_runS (As := [.int p0]) (rest := [.ref (b 0)]) ⟨hx, hb, hml, hown, hts⟩ (c_X4_isPerson l G s.heap.size p0) (va_cwS 1 hts gX4_fetch_X4_isPerson rfl rfl rfl ⟨by decide +kernel, by decide +kernel, by decide +kernel⟩ ⟨Nat.le_of_ble_eq_true rfl, Nat.le_of_ble_eq_true rfl⟩) ⟨GP.blind, GP.go (wc := []) hE hZ hP hD hS hA [] rfl (by decide) [.int p0]⟩ rfl rfl hl.1 rfl (lv_room (Nat.le_of_ble_eq_true rfl)) dX4_fetch_2 ⟨Nat.le_of_ble_eq_true rfl, Nat.le_of_ble_eq_true rfl⟩) ?_
  refine lv_if_ne (tgt := 12) hx hb dX4_fetch_5 (by decide) (fun c_5 => ?_) (fun c_5 => ?_)
  · refine lv_aload_n hx hb dX4_fetch_12 rfl (lv_at hl 0 rfl) ?_
    refine va_get (D := G.1) (ci := 4) (v := .ref (b 7)) (C := RX4) (T := TX4) (N := 19) hx hb hts iw_X4_fetch_RX4 hown hE.1 hP 0 rfl rfl 13 (by decide) (hts (.fieldLink RX4 29 "RackrailModel" "isInside" "[Z") (by decide +kernel)) (fun _ h9 => h9) rfl dX4_fetch_13 ?_
    refine lv_iload_n hx hb dX4_fetch_16 rfl (lv_at hl 1 rfl) ?_
    refine va_zald hx hb hE.1 hP 2 1 rfl rfl (in_pers c_5) dX4_fetch_17 ?_
    refine lv_if_eq (tgt := 33) hx hb dX4_fetch_18 (by decide) (fun c_18 => ?_) (fun c_18 => ?_)
    · refine lv_iconst (v := 2) hx hb dX4_fetch_33 (by decide) ?_
      refine lv_goto (tgt := 38) hx hb dX4_fetch_34 (by decide) ?_
      refine va_put (D := G.1) (ci := 4) (v := .int 2) (ty := .int) (C := RX4) (T := TX4) (N := 19) hx hb hts iw_X4_fetch_RX4 tyX4 tyX4_ok nmX4 hown hE.1 hP hD hS 0 rfl rfl 0 (by decide) (hts (.fieldLink RX4 41 "RackrailModel" "thrown" "I") (by decide +kernel)) (fun _ h9 => h9) rfl (by decide +kernel) rfl rfl (Nat.le_of_ble_eq_true rfl) dX4_fetch_38 (fun H locs hP hD hS => ?_)
      have hP : va_P G.1 vwCl [wcM b 2 mck mbn mai mtm mst msm mon mlt, wcI G (b 5) 36 mli, wcZ G (b 7) 4 mis, wcI G (b 8) 30 mob, wcI G (b 9) 30 mdl, wcZ G (b 10) 30 mdn] H := hP
      have hD : va_D _ [wcM b 2 mck mbn mai mtm mst msm mon mlt, wcI G (b 5) 36 mli, wcZ G (b 7) 4 mis, wcI G (b 8) 30 mob, wcI G (b 9) 30 mdl, wcZ G (b 10) 30 mdn] := hD
      refine lv_aload_n hx hb dX4_fetch_41 rfl (lv_at hl 0 rfl) ?_
      refine va_get (D := G.1) (ci := 4) (v := .int 2) (C := RX4) (T := TX4) (N := 19) hx hb hts iw_X4_fetch_RX4 hown hE.1 hP 0 rfl rfl 0 (by decide) (hts (.fieldLink RX4 41 "RackrailModel" "thrown" "I") (by decide +kernel)) (fun _ h9 => h9) rfl dX4_fetch_42 ?_
      refine lv_if_le (tgt := 50) hx hb dX4_fetch_45 (by decide) (fun c_45 => absurd c_45 (by decide)) (fun c_45 => ?_)
      refine lv_iconst (v := 0) hx hb dX4_fetch_48 (by decide) ?_
      have hq : f_X4_fetch mck mai mon mlt mli mis mob mdl mdn p0 = (0, 2, mlt, mli, mdn) := (by rw [f_X4_fetch, if_neg c_5, if_pos c_18])
      exact W.iret (v := 0) hx hb hr (fun t ht _ => ⟨by rw [hq], by rw [hq, ht]; exact hP, hS.F ht⟩) hS.2.2 dX4_fetch_49
    · refine lv_aload_n hx hb dX4_fetch_21 rfl (lv_at hl 0 rfl) ?_
      refine lv_aload_n hx hb dX4_fetch_22 rfl (lv_at hl 0 rfl) ?_
      refine va_get (D := G.1) (ci := 4) (v := .int mai) (C := RX4) (T := TX4) (N := 19) hx hb hts iw_X4_fetch_RX4 hown hE.1 hP 0 rfl rfl 8 (by decide) (hts (.fieldLink RX4 89 "RackrailModel" "aisle" "I") (by decide +kernel)) (fun _ h9 => h9) rfl dX4_fetch_23 ?_
      refine k_p (va_runV (As := [.int mai]) (rest := [.ref (b 0)]) ⟨hx, hb, hml, hown, hts⟩ (c_X4_first l G b s.heap.size mth mck mbn mai mtm mst msm mon mlt mli mob mdl mdn mai hmo) (cwV 1 hts gX4_fetch_X4_first rfl rfl rfl ⟨rfl, by decide +kernel, by decide +kernel, by decide +kernel⟩ ⟨Nat.le_of_ble_eq_true rfl, Nat.le_of_ble_eq_true rfl⟩) ⟨GP.blind, va_recv hE.1 hP (ci := 4) (q0 := 0) rfl rfl, GP.go (wc := [wcM b mth mck mbn mai mtm mst msm mon mlt, wcI G (b 5) 36 mli, wcI G (b 8) 30 mob, wcI G (b 9) 30 mdl, wcZ G (b 10) 30 mdn]) hE hZ hP hD hS hA [0, 1, 3, 4, 5] rfl (by decide) [.ref (b 0), .int mai]⟩ rfl rfl hl.1 rfl (lv_room (Nat.le_of_ble_eq_true rfl)) dX4_fetch_26 ⟨Nat.le_of_ble_eq_true rfl, Nat.le_of_ble_eq_true rfl⟩) ?_
      refine lv_iconst (v := (-1)) hx hb dX4_fetch_29 (by decide) ?_
      refine lv_icmp_ne (tgt := 37) hx hb dX4_fetch_30 (by decide) (fun c_30 => ?_) (fun c_30 => ?_)
      · refine lv_iconst (v := 0) hx hb dX4_fetch_37 (by decide) ?_
        refine va_put (D := G.1) (ci := 4) (v := .int 0) (ty := .int) (C := RX4) (T := TX4) (N := 19) hx hb hts iw_X4_fetch_RX4 tyX4 tyX4_ok nmX4 hown hE.1 hP hD hS 0 rfl rfl 0 (by decide) (hts (.fieldLink RX4 41 "RackrailModel" "thrown" "I") (by decide +kernel)) (fun _ h9 => h9) rfl (by decide +kernel) rfl rfl (Nat.le_of_ble_eq_true rfl) dX4_fetch_38 (fun H locs hP hD hS => ?_)
        have hP : va_P G.1 vwCl [wcM b 0 mck mbn mai mtm mst msm mon mlt, wcI G (b 5) 36 mli, wcZ G (b 7) 4 mis, wcI G (b 8) 30 mob, wcI G (b 9) 30 mdl, wcZ G (b 10) 30 mdn] H := hP
        have hD : va_D _ [wcM b 0 mck mbn mai mtm mst msm mon mlt, wcI G (b 5) 36 mli, wcZ G (b 7) 4 mis, wcI G (b 8) 30 mob, wcI G (b 9) 30 mdl, wcZ G (b 10) 30 mdn] := hD
        refine lv_aload_n hx hb dX4_fetch_41 rfl (lv_at hl 0 rfl) ?_
        refine va_get (D := G.1) (ci := 4) (v := .int 0) (C := RX4) (T := TX4) (N := 19) hx hb hts iw_X4_fetch_RX4 hown hE.1 hP 0 rfl rfl 0 (by decide) (hts (.fieldLink RX4 41 "RackrailModel" "thrown" "I") (by decide +kernel)) (fun _ h9 => h9) rfl dX4_fetch_42 ?_
        refine lv_if_le (tgt := 50) hx hb dX4_fetch_45 (by decide) (fun c_45 => ?_) (fun c_45 => absurd (by decide) c_45)
        refine lv_aload_n hx hb dX4_fetch_50 rfl (lv_at hl 0 rfl) ?_
        refine lv_aload_n hx hb dX4_fetch_51 rfl (lv_at hl 0 rfl) ?_
        refine va_get (D := G.1) (ci := 4) (v := .int mai) (C := RX4) (T := TX4) (N := 19) hx hb hts iw_X4_fetch_RX4 hown hE.1 hP 0 rfl rfl 8 (by decide) (hts (.fieldLink RX4 89 "RackrailModel" "aisle" "I") (by decide +kernel)) (fun _ h9 => h9) rfl dX4_fetch_52 ?_
        refine k_p (va_runV (As := [.int mai]) (rest := []) ⟨hx, hb, hml, hown, hts⟩ (c_X4_first l G b H.size 0 mck mbn mai mtm mst msm mon mlt mli mob mdl mdn mai hmo) (cwV 1 hts gX4_fetch_X4_first rfl rfl rfl ⟨rfl, by decide +kernel, by decide +kernel, by decide +kernel⟩ ⟨Nat.le_of_ble_eq_true rfl, Nat.le_of_ble_eq_true rfl⟩) ⟨GP.blind, va_recv hE.1 hP (ci := 4) (q0 := 0) rfl rfl, GP.go (wc := [wcM b 0 mck mbn mai mtm mst msm mon mlt, wcI G (b 5) 36 mli, wcI G (b 8) 30 mob, wcI G (b 9) 30 mdl, wcZ G (b 10) 30 mdn]) hE hZ hP hD hS hA [0, 1, 3, 4, 5] rfl (by decide) [.ref (b 0), .int mai]⟩ rfl rfl hl.1 rfl (lv_room (Nat.le_of_ble_eq_true rfl)) dX4_fetch_55 ⟨Nat.le_of_ble_eq_true rfl, Nat.le_of_ble_eq_true rfl⟩) ?_
        refine lv_istore_n (lv' := [(2, .int (f_X4_first mon mli mob mdl mdn mai)), (0, .ref (b 0)), (1, .int p0)]) hx hb dX4_fetch_58 rfl hl (by decide) rfl (fun ls hl => ?_)
        refine lv_aload_n hx hb dX4_fetch_59 rfl (lv_at hl 1 rfl) ?_
        refine va_get (D := G.1) (ci := 4) (v := .ref (b 5)) (C := RX4) (T := TX4) (N := 19) hx hb hts iw_X4_fetch_RX4 hown hE.1 hP 0 rfl rfl 7 (by decide) (hts (.fieldLink RX4 22 "RackrailModel" "lies" "[I") (by decide +kernel)) (fun _ h9 => h9) rfl dX4_fetch_60 ?_
        refine lv_aload_n hx hb dX4_fetch_63 rfl (lv_at hl 1 rfl) ?_
        refine lv_aload_n hx hb dX4_fetch_64 rfl (lv_at hl 1 rfl) ?_
        refine va_get (D := G.1) (ci := 4) (v := .ref (b 8)) (C := RX4) (T := TX4) (N := 19) hx hb hts iw_X4_fetch_RX4 hown hE.1 hP 0 rfl rfl 15 (by decide) (hts (.fieldLink RX4 32 "RackrailModel" "orderBoxes" "[I") (by decide +kernel)) (fun _ h9 => h9) rfl dX4_fetch_65 ?_
        refine lv_iload_n hx hb dX4_fetch_68 rfl (lv_at hl 0 rfl) ?_
        refine va_iald hx hb hE.1 hP 3 0 rfl rfl ((first_P hmo c_30).1) dX4_fetch_69 ?_
        refine k_p (va_runV (As := [.int (mob (f_X4_first mon mli mob mdl mdn mai).toNatClampNeg)]) (rest := [.ref (b 5)]) ⟨hx, hb, hml, hown, hts⟩ (c_X4_spot l G b H.size 0 mck mbn mai mtm mst msm mon mlt mli (mob (f_X4_first mon mli mob mdl mdn mai).toNatClampNeg)) (cwV 1 hts gX4_fetch_X4_spot rfl rfl rfl ⟨rfl, by decide +kernel, by decide +kernel, by decide +kernel⟩ ⟨Nat.le_of_ble_eq_true rfl, Nat.le_of_ble_eq_true rfl⟩) ⟨GP.blind, va_recv hE.1 hP (ci := 4) (q0 := 0) rfl rfl, GP.go (wc := [wcM b 0 mck mbn mai mtm mst msm mon mlt, wcI G (b 5) 36 mli]) hE hZ hP hD hS hA [0, 1] rfl (by decide) [.ref (b 0), .int (mob (f_X4_first mon mli mob mdl mdn mai).toNatClampNeg)]⟩ rfl rfl hl.1 rfl (lv_room (Nat.le_of_ble_eq_true rfl)) dX4_fetch_70 ⟨Nat.le_of_ble_eq_true rfl, Nat.le_of_ble_eq_true rfl⟩) ?_
        refine lv_iconst (v := 0) hx hb dX4_fetch_73 (by decide) ?_
        refine va_iast hx hb hE.1 hP hD hS 1 0 rfl rfl (in_spot (first_P hmo c_30).2) dX4_fetch_74 (fun H locs hP hD hS => ?_)
        have hP : va_P G.1 vwCl [wcM b 0 mck mbn mai mtm mst msm mon mlt, wcI G (b 5) 36 (upd mli (f_X4_spot mli (mob (f_X4_first mon mli mob mdl mdn mai).toNatClampNeg)).toNatClampNeg 0), wcZ G (b 7) 4 mis, wcI G (b 8) 30 mob, wcI G (b 9) 30 mdl, wcZ G (b 10) 30 mdn] H := hP
        have hD : va_D _ [wcM b 0 mck mbn mai mtm mst msm mon mlt, wcI G (b 5) 36 (upd mli (f_X4_spot mli (mob (f_X4_first mon mli mob mdl mdn mai).toNatClampNeg)).toNatClampNeg 0), wcZ G (b 7) 4 mis, wcI G (b 8) 30 mob, wcI G (b 9) 30 mdl, wcZ G (b 10) 30 mdn] := hD
        refine lv_aload_n hx hb dX4_fetch_75 rfl (lv_at hl 1 rfl) ?_
        refine va_get (D := G.1) (ci := 4) (v := .ref (b 10)) (C := RX4) (T := TX4) (N := 19) hx hb hts iw_X4_fetch_RX4 hown hE.1 hP 0 rfl rfl 17 (by decide) (hts (.fieldLink RX4 38 "RackrailModel" "isDone" "[Z") (by decide +kernel)) (fun _ h9 => h9) rfl dX4_fetch_76 ?_
        refine lv_iload_n hx hb dX4_fetch_79 rfl (lv_at hl 0 rfl) ?_
        refine lv_iconst (v := 1) hx hb dX4_fetch_80 (by decide) ?_
        refine va_zast hx hb hE.1 hP hD hS 5 1 rfl rfl ((first_P hmo c_30).1) dX4_fetch_81 (fun H locs hP hD hS => ?_)
        have hP : va_P G.1 vwCl [wcM b 0 mck mbn mai mtm mst msm mon mlt, wcI G (b 5) 36 (upd mli (f_X4_spot mli (mob (f_X4_first mon mli mob mdl mdn mai).toNatClampNeg)).toNatClampNeg 0), wcZ G (b 7) 4 mis, wcI G (b 8) 30 mob, wcI G (b 9) 30 mdl, wcZ G (b 10) 30 (upd mdn (f_X4_first mon mli mob mdl mdn mai).toNatClampNeg 1)] H := hP
        have hD : va_D _ [wcM b 0 mck mbn mai mtm mst msm mon mlt, wcI G (b 5) 36 (upd mli (f_X4_spot mli (mob (f_X4_first mon mli mob mdl mdn mai).toNatClampNeg)).toNatClampNeg 0), wcZ G (b 7) 4 mis, wcI G (b 8) 30 mob, wcI G (b 9) 30 mdl, wcZ G (b 10) 30 (upd mdn (f_X4_first mon mli mob mdl mdn mai).toNatClampNeg 1)] := hD
        refine lv_aload_n hx hb dX4_fetch_82 rfl (lv_at hl 1 rfl) ?_
        refine lv_dup hx hb dX4_fetch_83 rfl ?_
        refine va_get (D := G.1) (ci := 4) (v := .int mlt) (C := RX4) (T := TX4) (N := 19) hx hb hts iw_X4_fetch_RX4 hown hE.1 hP 0 rfl rfl 18 (by decide) (hts (.fieldLink RX4 120 "RackrailModel" "lateMany" "I") (by decide +kernel)) (fun _ h9 => h9) rfl dX4_fetch_84 ?_
        refine lv_aload_n hx hb dX4_fetch_87 rfl (lv_at hl 1 rfl) ?_
        refine va_get (D := G.1) (ci := 4) (v := .int mck) (C := RX4) (T := TX4) (N := 19) hx hb hts iw_X4_fetch_RX4 hown hE.1 hP 0 rfl rfl 1 (by decide) (hts (.fieldLink RX4 105 "RackrailModel" "clock" "I") (by decide +kernel)) (fun _ h9 => h9) rfl dX4_fetch_88 ?_
        refine lv_aload_n hx hb dX4_fetch_91 rfl (lv_at hl 1 rfl) ?_
        refine va_get (D := G.1) (ci := 4) (v := .ref (b 9)) (C := RX4) (T := TX4) (N := 19) hx hb hts iw_X4_fetch_RX4 hown hE.1 hP 0 rfl rfl 16 (by decide) (hts (.fieldLink RX4 35 "RackrailModel" "deadlines" "[I") (by decide +kernel)) (fun _ h9 => h9) rfl dX4_fetch_92 ?_
        refine lv_iload_n hx hb dX4_fetch_95 rfl (lv_at hl 0 rfl) ?_
        refine va_iald hx hb hE.1 hP 4 0 rfl rfl ((first_P hmo c_30).1) dX4_fetch_96 ?_
        refine lv_icmp_le (tgt := 104) hx hb dX4_fetch_97 (by decide) (fun c_97 => ?_) (fun c_97 => ?_)
        · refine lv_iconst (v := 0) hx hb dX4_fetch_104 (by decide) ?_
          refine lv_iadd hx hb dX4_fetch_105 ?_
          refine va_put (D := G.1) (ci := 4) (v := .int (mlt + 0)) (ty := .int) (C := RX4) (T := TX4) (N := 19) hx hb hts iw_X4_fetch_RX4 tyX4 tyX4_ok nmX4 hown hE.1 hP hD hS 0 rfl rfl 18 (by decide) (hts (.fieldLink RX4 120 "RackrailModel" "lateMany" "I") (by decide +kernel)) (fun _ h9 => h9) rfl (by decide +kernel) rfl rfl (Nat.le_of_ble_eq_true rfl) dX4_fetch_106 (fun H locs hP hD hS => ?_)
          have hP : va_P G.1 vwCl [wcM b 0 mck mbn mai mtm mst msm mon (mlt + 0), wcI G (b 5) 36 (upd mli (f_X4_spot mli (mob (f_X4_first mon mli mob mdl mdn mai).toNatClampNeg)).toNatClampNeg 0), wcZ G (b 7) 4 mis, wcI G (b 8) 30 mob, wcI G (b 9) 30 mdl, wcZ G (b 10) 30 (upd mdn (f_X4_first mon mli mob mdl mdn mai).toNatClampNeg 1)] H := hP
          have hD : va_D _ [wcM b 0 mck mbn mai mtm mst msm mon (mlt + 0), wcI G (b 5) 36 (upd mli (f_X4_spot mli (mob (f_X4_first mon mli mob mdl mdn mai).toNatClampNeg)).toNatClampNeg 0), wcZ G (b 7) 4 mis, wcI G (b 8) 30 mob, wcI G (b 9) 30 mdl, wcZ G (b 10) 30 (upd mdn (f_X4_first mon mli mob mdl mdn mai).toNatClampNeg 1)] := hD
          refine lv_iload_n hx hb dX4_fetch_109 rfl (lv_at hl 0 rfl) ?_
          have hq : f_X4_fetch mck mai mon mlt mli mis mob mdl mdn p0 = (f_X4_first mon mli mob mdl mdn mai, 0, mlt + 0, upd mli (f_X4_spot mli (mob (f_X4_first mon mli mob mdl mdn mai).toNatClampNeg)).toNatClampNeg 0, upd mdn (f_X4_first mon mli mob mdl mdn mai).toNatClampNeg 1) := (by rw [f_X4_fetch, if_neg c_5, if_neg c_18, if_neg c_30, if_pos c_97])
          exact W.iret (v := f_X4_first mon mli mob mdl mdn mai) hx hb hr (fun t ht _ => ⟨by rw [hq], by rw [hq, ht]; exact hP, hS.F ht⟩) hS.2.2 dX4_fetch_110
        · refine lv_iconst (v := 1) hx hb dX4_fetch_100 (by decide) ?_
          refine lv_goto (tgt := 105) hx hb dX4_fetch_101 (by decide) ?_
          refine lv_iadd hx hb dX4_fetch_105 ?_
          refine va_put (D := G.1) (ci := 4) (v := .int (mlt + 1)) (ty := .int) (C := RX4) (T := TX4) (N := 19) hx hb hts iw_X4_fetch_RX4 tyX4 tyX4_ok nmX4 hown hE.1 hP hD hS 0 rfl rfl 18 (by decide) (hts (.fieldLink RX4 120 "RackrailModel" "lateMany" "I") (by decide +kernel)) (fun _ h9 => h9) rfl (by decide +kernel) rfl rfl (Nat.le_of_ble_eq_true rfl) dX4_fetch_106 (fun H locs hP hD hS => ?_)
          have hP : va_P G.1 vwCl [wcM b 0 mck mbn mai mtm mst msm mon (mlt + 1), wcI G (b 5) 36 (upd mli (f_X4_spot mli (mob (f_X4_first mon mli mob mdl mdn mai).toNatClampNeg)).toNatClampNeg 0), wcZ G (b 7) 4 mis, wcI G (b 8) 30 mob, wcI G (b 9) 30 mdl, wcZ G (b 10) 30 (upd mdn (f_X4_first mon mli mob mdl mdn mai).toNatClampNeg 1)] H := hP
          have hD : va_D _ [wcM b 0 mck mbn mai mtm mst msm mon (mlt + 1), wcI G (b 5) 36 (upd mli (f_X4_spot mli (mob (f_X4_first mon mli mob mdl mdn mai).toNatClampNeg)).toNatClampNeg 0), wcZ G (b 7) 4 mis, wcI G (b 8) 30 mob, wcI G (b 9) 30 mdl, wcZ G (b 10) 30 (upd mdn (f_X4_first mon mli mob mdl mdn mai).toNatClampNeg 1)] := hD
          refine lv_iload_n hx hb dX4_fetch_109 rfl (lv_at hl 0 rfl) ?_
          have hq : f_X4_fetch mck mai mon mlt mli mis mob mdl mdn p0 = (f_X4_first mon mli mob mdl mdn mai, 0, mlt + 1, upd mli (f_X4_spot mli (mob (f_X4_first mon mli mob mdl mdn mai).toNatClampNeg)).toNatClampNeg 0, upd mdn (f_X4_first mon mli mob mdl mdn mai).toNatClampNeg 1) := (by rw [f_X4_fetch, if_neg c_5, if_neg c_18, if_neg c_30, if_neg c_97])
          exact W.iret (v := f_X4_first mon mli mob mdl mdn mai) hx hb hr (fun t ht _ => ⟨by rw [hq], by rw [hq, ht]; exact hP, hS.F ht⟩) hS.2.2 dX4_fetch_110
      · refine lv_iconst (v := 2) hx hb dX4_fetch_33 (by decide) ?_
        refine lv_goto (tgt := 38) hx hb dX4_fetch_34 (by decide) ?_
        refine va_put (D := G.1) (ci := 4) (v := .int 2) (ty := .int) (C := RX4) (T := TX4) (N := 19) hx hb hts iw_X4_fetch_RX4 tyX4 tyX4_ok nmX4 hown hE.1 hP hD hS 0 rfl rfl 0 (by decide) (hts (.fieldLink RX4 41 "RackrailModel" "thrown" "I") (by decide +kernel)) (fun _ h9 => h9) rfl (by decide +kernel) rfl rfl (Nat.le_of_ble_eq_true rfl) dX4_fetch_38 (fun H locs hP hD hS => ?_)
        have hP : va_P G.1 vwCl [wcM b 2 mck mbn mai mtm mst msm mon mlt, wcI G (b 5) 36 mli, wcZ G (b 7) 4 mis, wcI G (b 8) 30 mob, wcI G (b 9) 30 mdl, wcZ G (b 10) 30 mdn] H := hP
        have hD : va_D _ [wcM b 2 mck mbn mai mtm mst msm mon mlt, wcI G (b 5) 36 mli, wcZ G (b 7) 4 mis, wcI G (b 8) 30 mob, wcI G (b 9) 30 mdl, wcZ G (b 10) 30 mdn] := hD
        refine lv_aload_n hx hb dX4_fetch_41 rfl (lv_at hl 0 rfl) ?_
        refine va_get (D := G.1) (ci := 4) (v := .int 2) (C := RX4) (T := TX4) (N := 19) hx hb hts iw_X4_fetch_RX4 hown hE.1 hP 0 rfl rfl 0 (by decide) (hts (.fieldLink RX4 41 "RackrailModel" "thrown" "I") (by decide +kernel)) (fun _ h9 => h9) rfl dX4_fetch_42 ?_
        refine lv_if_le (tgt := 50) hx hb dX4_fetch_45 (by decide) (fun c_45 => absurd c_45 (by decide)) (fun c_45 => ?_)
        refine lv_iconst (v := 0) hx hb dX4_fetch_48 (by decide) ?_
        have hq : f_X4_fetch mck mai mon mlt mli mis mob mdl mdn p0 = (0, 2, mlt, mli, mdn) := (by rw [f_X4_fetch, if_neg c_5, if_neg c_18, if_pos c_30])
        exact W.iret (v := 0) hx hb hr (fun t ht _ => ⟨by rw [hq], by rw [hq, ht]; exact hP, hS.F ht⟩) hS.2.2 dX4_fetch_49
  · refine lv_iconst (v := 1) hx hb dX4_fetch_8 (by decide) ?_
    refine lv_goto (tgt := 38) hx hb dX4_fetch_9 (by decide) ?_
    refine va_put (D := G.1) (ci := 4) (v := .int 1) (ty := .int) (C := RX4) (T := TX4) (N := 19) hx hb hts iw_X4_fetch_RX4 tyX4 tyX4_ok nmX4 hown hE.1 hP hD hS 0 rfl rfl 0 (by decide) (hts (.fieldLink RX4 41 "RackrailModel" "thrown" "I") (by decide +kernel)) (fun _ h9 => h9) rfl (by decide +kernel) rfl rfl (Nat.le_of_ble_eq_true rfl) dX4_fetch_38 (fun H locs hP hD hS => ?_)
    have hP : va_P G.1 vwCl [wcM b 1 mck mbn mai mtm mst msm mon mlt, wcI G (b 5) 36 mli, wcZ G (b 7) 4 mis, wcI G (b 8) 30 mob, wcI G (b 9) 30 mdl, wcZ G (b 10) 30 mdn] H := hP
    have hD : va_D _ [wcM b 1 mck mbn mai mtm mst msm mon mlt, wcI G (b 5) 36 mli, wcZ G (b 7) 4 mis, wcI G (b 8) 30 mob, wcI G (b 9) 30 mdl, wcZ G (b 10) 30 mdn] := hD
    refine lv_aload_n hx hb dX4_fetch_41 rfl (lv_at hl 0 rfl) ?_
    refine va_get (D := G.1) (ci := 4) (v := .int 1) (C := RX4) (T := TX4) (N := 19) hx hb hts iw_X4_fetch_RX4 hown hE.1 hP 0 rfl rfl 0 (by decide) (hts (.fieldLink RX4 41 "RackrailModel" "thrown" "I") (by decide +kernel)) (fun _ h9 => h9) rfl dX4_fetch_42 ?_
    refine lv_if_le (tgt := 50) hx hb dX4_fetch_45 (by decide) (fun c_45 => absurd c_45 (by decide)) (fun c_45 => ?_)
    refine lv_iconst (v := 0) hx hb dX4_fetch_48 (by decide) ?_
    have hq : f_X4_fetch mck mai mon mlt mli mis mob mdl mdn p0 = (0, 1, mlt, mli, mdn) := (by rw [f_X4_fetch, if_pos c_5])
    exact W.iret (v := 0) hx hb hr (fun t ht _ => ⟨by rw [hq], by rw [hq, ht]; exact hP, hS.F ht⟩) hS.2.2 dX4_fetch_49

/-! X4_giveBack -/
def f_X4_giveBack (mbn : Int32) (mai : Int32) (msc : Nat → Int32) (mcl : Nat → Int32) (mli : Nat → Int32) (mis : Nat → Int32) (p0 : Int32) (p1 : Int32) (p2 : Int32) : Int32 × Int32 × (Nat → Int32) :=
  if (f_X4_isPerson p0) = 0 then (0, 1, mli)
    else if (f_X4_isBox mbn p1) = 0 then (0, 1, mli)
    else if (f_X4_row p2) = (-1) then (0, 1, mli)
    else if (mis p0.toNatClampNeg) = 0 then (0, (f_X4_fails 2).2, mli)
    else if (f_X4_spot mli p1) = (-1) then (if (f_X4_aisleOf (f_X4_row p2)) = mai then (if (mli (f_X4_row p2).toNatClampNeg) = 0 then (if (msc ((f_X4_row p2) / 6).toNatClampNeg) = (mcl p1.toNatClampNeg) then (1, 0, upd mli (f_X4_row p2).toNatClampNeg (p1 + 1))
          else (0, 0, upd mli (f_X4_row p2).toNatClampNeg (p1 + 1)))
        else (0, (f_X4_fails 2).2, mli))
      else (0, (f_X4_fails 2).2, mli))
    else (0, (f_X4_fails 2).2, mli)
theorem iw_X4_giveBack_RX4 : ∀ w ∈ u_ws RX4 TX4 19, w ∈ wsX4_giveBack := by decide +kernel
set_option maxHeartbeats 4000000 in
set_option maxRecDepth 100000 in
theorem c_X4_giveBack (l : Launch) (G : GT) (b : Nat → Nat) (sz : Nat) (mth : Int32) (mck : Int32) (mbn : Int32) (mai : Int32) (mtm : Int32) (mst : Int32) (msm : Int32) (mon : Int32) (mlt : Int32) (msc : Nat → Int32) (mcl : Nat → Int32) (mli : Nat → Int32) (mis : Nat → Int32) (p0 : Int32) (p1 : Int32) (p2 : Int32) (hmn : okN 20 mbn) : Met l yX4_giveBack wsX4_giveBack ({ frames := 2, cells := 0, slots := 0, locals := 43 }) (GP G [.ref (b 0), .int p0, .int p1, .int p2] [wcM b mth mck mbn mai mtm mst msm mon mlt, wcI G (b 1) 6 msc, wcI G (b 2) 20 mcl, wcI G (b 5) 36 mli, wcZ G (b 7) 4 mis] sz) (MQo G (.returned (some (.int ((f_X4_giveBack mbn mai msc mcl mli mis p0 p1 p2).1)))) [wcM b ((f_X4_giveBack mbn mai msc mcl mli mis p0 p1 p2).2.1) mck mbn mai mtm mst msm mon mlt, wcI G (b 1) 6 msc, wcI G (b 2) 20 mcl, wcI G (b 5) 36 ((f_X4_giveBack mbn mai msc mcl mli mis p0 p1 p2).2.2), wcZ G (b 7) 4 mis] (va_A [wcM b mth mck mbn mai mtm mst msm mon mlt, wcI G (b 1) 6 msc, wcI G (b 2) 20 mcl, wcI G (b 5) 36 mli, wcZ G (b 7) 4 mis] sz)) 0 0 (va_A [wcM b mth mck mbn mai mtm mst msm mon mlt, wcI G (b 1) 6 msc, wcI G (b 2) 20 mcl, wcI G (b 5) 36 mli, wcZ G (b 7) 4 mis] sz) := by
  refine bodyM (cc := cX4_giveBack) (maxL := 6) (ret := (some .boolean)) (by decide) rfl (Nat.le_of_ble_eq_true rfl) ?_
  intro p e s m below meth c ls C
  obtain ⟨hx, hb, hr, hts, hown, hlocks, hml, hsz, hP, hE, hD, hZ, hA, hS, hl⟩ := C
  subst hsz
  have hl : lv_has ls 6 [(0, .ref (b 0)), (1, .int p0), (2, .int p1), (3, .int p2)] := hl
  refine lv_iload_n hx hb dX4_giveBack_0 rfl (lv_at hl 3 rfl) ?_
  refine k_p (va_runS (As := [.int p2]) (rest := []) ⟨hx, hb, hml, hown, hts⟩ (c_X4_row l G s.heap.size p2) (va_cwS 1 hts gX4_giveBack_X4_row rfl rfl rfl ⟨by decide +kernel, by decide +kernel, by decide +kernel⟩ ⟨Nat.le_of_ble_eq_true rfl, Nat.le_of_ble_eq_true rfl⟩) ⟨GP.blind, GP.go (wc := []) hE hZ hP hD hS hA [] rfl (by decide) [.int p2]⟩ rfl rfl hl.1 rfl (lv_room (Nat.le_of_ble_eq_true rfl)) dX4_giveBack_1 ⟨Nat.le_of_ble_eq_true rfl, Nat.le_of_ble_eq_true rfl⟩) ?_
  refine lv_istore (lv' := [(4, .int (f_X4_row p2)), (0, .ref (b 0)), (1, .int p0), (2, .int p1), (3, .int p2)]) hx hb dX4_giveBack_4 hl (by decide) rfl (fun ls hl => ?_)
  refine lv_aload_n hx hb dX4_giveBack_6 rfl (lv_at hl 1 rfl) ?_
  refine lv_iload_n hx hb dX4_giveBack_7 rfl (lv_at hl 2 rfl) ?_
  refine k_p (va_runS (As := [.int p0]) (rest := [.ref (b 0)]) ⟨hx, hb, hml, hown, hts⟩ (c_X4_isPerson l G s.heap.size p0) (va_cwS 1 hts gX4_giveBack_X4_isPerson rfl rfl rfl ⟨by decide +kernel, by decide +kernel, by decide +kernel⟩ ⟨Nat.le_of_ble_eq_true rfl, Nat.le_of_ble_eq_true rfl⟩) ⟨GP.blind, GP.go (wc := []) hE hZ hP hD hS hA [] rfl (by decide) [.int p0]⟩ rfl rfl hl.1 rfl (lv_room (Nat.le_of_ble_eq_true rfl)) dX4_giveBack_8 ⟨Nat.le_of_ble_eq_true rfl, Nat.le_of_ble_eq_true rfl⟩) ?_
  refine lv_if_eq (tgt := 28) hx hb dX4_giveBack_11 (by decide) (fun c_11 => ?_) (fun c_11 => ?_)
  · refine lv_iconst (v := 1) hx hb dX4_giveBack_28 (by decide) ?_
    refine lv_goto (tgt := 33) hx hb dX4_giveBack_29 (by decide) ?_
    refine va_put (D := G.1) (ci := 4) (v := .int 1) (ty := .int) (C := RX4) (T := TX4) (N := 19) hx hb hts iw_X4_giveBack_RX4 tyX4 tyX4_ok nmX4 hown hE.1 hP hD hS 0 rfl rfl 0 (by decide) (hts (.fieldLink RX4 41 "RackrailModel" "thrown" "I") (by decide +kernel)) (fun _ h9 => h9) rfl (by decide +kernel) rfl rfl (Nat.le_of_ble_eq_true rfl) dX4_giveBack_33 (fun H locs hP hD hS => ?_)
    have hP : va_P G.1 vwCl [wcM b 1 mck mbn mai mtm mst msm mon mlt, wcI G (b 1) 6 msc, wcI G (b 2) 20 mcl, wcI G (b 5) 36 mli, wcZ G (b 7) 4 mis] H := hP
    have hD : va_D _ [wcM b 1 mck mbn mai mtm mst msm mon mlt, wcI G (b 1) 6 msc, wcI G (b 2) 20 mcl, wcI G (b 5) 36 mli, wcZ G (b 7) 4 mis] := hD
    refine lv_aload_n hx hb dX4_giveBack_36 rfl (lv_at hl 1 rfl) ?_
    refine va_get (D := G.1) (ci := 4) (v := .int 1) (C := RX4) (T := TX4) (N := 19) hx hb hts iw_X4_giveBack_RX4 hown hE.1 hP 0 rfl rfl 0 (by decide) (hts (.fieldLink RX4 41 "RackrailModel" "thrown" "I") (by decide +kernel)) (fun _ h9 => h9) rfl dX4_giveBack_37 ?_
    refine lv_if_le (tgt := 45) hx hb dX4_giveBack_40 (by decide) (fun c_40 => absurd c_40 (by decide)) (fun c_40 => ?_)
    refine lv_iconst (v := 0) hx hb dX4_giveBack_43 (by decide) ?_
    have hq : f_X4_giveBack mbn mai msc mcl mli mis p0 p1 p2 = (0, 1, mli) := (by rw [f_X4_giveBack, if_pos c_11])
    exact W.zret (v := 0) hx hb hr rfl (fun t ht _ => ⟨by rw [hq], by rw [hq, ht]; exact hP, hS.F ht⟩) hS.2.2 dX4_giveBack_44
  · refine lv_aload_n hx hb dX4_giveBack_14 rfl (lv_at hl 1 rfl) ?_
    refine lv_iload_n hx hb dX4_giveBack_15 rfl (lv_at hl 3 rfl) ?_
    refine k_p (va_runV (As := [.int p1]) (rest := [.ref (b 0)]) ⟨hx, hb, hml, hown, hts⟩ (c_X4_isBox l G b s.heap.size mth mck mbn mai mtm mst msm mon mlt p1) (cwV 1 hts gX4_giveBack_X4_isBox rfl rfl rfl ⟨rfl, by decide +kernel, by decide +kernel, by decide +kernel⟩ ⟨Nat.le_of_ble_eq_true rfl, Nat.le_of_ble_eq_true rfl⟩) ⟨GP.blind, va_recv hE.1 hP (ci := 4) (q0 := 0) rfl rfl, GP.go (wc := [wcM b mth mck mbn mai mtm mst msm mon mlt]) hE hZ hP hD hS hA [0] rfl (by decide) [.ref (b 0), .int p1]⟩ rfl rfl hl.1 rfl (lv_room (Nat.le_of_ble_eq_true rfl)) dX4_giveBack_16 ⟨Nat.le_of_ble_eq_true rfl, Nat.le_of_ble_eq_true rfl⟩) ?_
    refine lv_if_eq (tgt := 28) hx hb dX4_giveBack_19 (by decide) (fun c_19 => ?_) (fun c_19 => ?_)
    · refine lv_iconst (v := 1) hx hb dX4_giveBack_28 (by decide) ?_
      refine lv_goto (tgt := 33) hx hb dX4_giveBack_29 (by decide) ?_
      refine va_put (D := G.1) (ci := 4) (v := .int 1) (ty := .int) (C := RX4) (T := TX4) (N := 19) hx hb hts iw_X4_giveBack_RX4 tyX4 tyX4_ok nmX4 hown hE.1 hP hD hS 0 rfl rfl 0 (by decide) (hts (.fieldLink RX4 41 "RackrailModel" "thrown" "I") (by decide +kernel)) (fun _ h9 => h9) rfl (by decide +kernel) rfl rfl (Nat.le_of_ble_eq_true rfl) dX4_giveBack_33 (fun H locs hP hD hS => ?_)
      have hP : va_P G.1 vwCl [wcM b 1 mck mbn mai mtm mst msm mon mlt, wcI G (b 1) 6 msc, wcI G (b 2) 20 mcl, wcI G (b 5) 36 mli, wcZ G (b 7) 4 mis] H := hP
      have hD : va_D _ [wcM b 1 mck mbn mai mtm mst msm mon mlt, wcI G (b 1) 6 msc, wcI G (b 2) 20 mcl, wcI G (b 5) 36 mli, wcZ G (b 7) 4 mis] := hD
      refine lv_aload_n hx hb dX4_giveBack_36 rfl (lv_at hl 1 rfl) ?_
      refine va_get (D := G.1) (ci := 4) (v := .int 1) (C := RX4) (T := TX4) (N := 19) hx hb hts iw_X4_giveBack_RX4 hown hE.1 hP 0 rfl rfl 0 (by decide) (hts (.fieldLink RX4 41 "RackrailModel" "thrown" "I") (by decide +kernel)) (fun _ h9 => h9) rfl dX4_giveBack_37 ?_
      refine lv_if_le (tgt := 45) hx hb dX4_giveBack_40 (by decide) (fun c_40 => absurd c_40 (by decide)) (fun c_40 => ?_)
      refine lv_iconst (v := 0) hx hb dX4_giveBack_43 (by decide) ?_
      have hq : f_X4_giveBack mbn mai msc mcl mli mis p0 p1 p2 = (0, 1, mli) := (by rw [f_X4_giveBack, if_neg c_11, if_pos c_19])
      exact W.zret (v := 0) hx hb hr rfl (fun t ht _ => ⟨by rw [hq], by rw [hq, ht]; exact hP, hS.F ht⟩) hS.2.2 dX4_giveBack_44
    · refine lv_iload hx hb dX4_giveBack_22 (lv_at hl 0 rfl) ?_
      refine lv_iconst (v := (-1)) hx hb dX4_giveBack_24 (by decide) ?_
      refine lv_icmp_ne (tgt := 32) hx hb dX4_giveBack_25 (by decide) (fun c_25 => ?_) (fun c_25 => ?_)
      · refine lv_iconst (v := 0) hx hb dX4_giveBack_32 (by decide) ?_
        refine va_put (D := G.1) (ci := 4) (v := .int 0) (ty := .int) (C := RX4) (T := TX4) (N := 19) hx hb hts iw_X4_giveBack_RX4 tyX4 tyX4_ok nmX4 hown hE.1 hP hD hS 0 rfl rfl 0 (by decide) (hts (.fieldLink RX4 41 "RackrailModel" "thrown" "I") (by decide +kernel)) (fun _ h9 => h9) rfl (by decide +kernel) rfl rfl (Nat.le_of_ble_eq_true rfl) dX4_giveBack_33 (fun H locs hP hD hS => ?_)
        have hP : va_P G.1 vwCl [wcM b 0 mck mbn mai mtm mst msm mon mlt, wcI G (b 1) 6 msc, wcI G (b 2) 20 mcl, wcI G (b 5) 36 mli, wcZ G (b 7) 4 mis] H := hP
        have hD : va_D _ [wcM b 0 mck mbn mai mtm mst msm mon mlt, wcI G (b 1) 6 msc, wcI G (b 2) 20 mcl, wcI G (b 5) 36 mli, wcZ G (b 7) 4 mis] := hD
        refine lv_aload_n hx hb dX4_giveBack_36 rfl (lv_at hl 1 rfl) ?_
        refine va_get (D := G.1) (ci := 4) (v := .int 0) (C := RX4) (T := TX4) (N := 19) hx hb hts iw_X4_giveBack_RX4 hown hE.1 hP 0 rfl rfl 0 (by decide) (hts (.fieldLink RX4 41 "RackrailModel" "thrown" "I") (by decide +kernel)) (fun _ h9 => h9) rfl dX4_giveBack_37 ?_
        refine lv_if_le (tgt := 45) hx hb dX4_giveBack_40 (by decide) (fun c_40 => ?_) (fun c_40 => absurd (by decide) c_40)
        refine lv_aload_n hx hb dX4_giveBack_45 rfl (lv_at hl 1 rfl) ?_
        refine va_get (D := G.1) (ci := 4) (v := .ref (b 7)) (C := RX4) (T := TX4) (N := 19) hx hb hts iw_X4_giveBack_RX4 hown hE.1 hP 0 rfl rfl 13 (by decide) (hts (.fieldLink RX4 29 "RackrailModel" "isInside" "[Z") (by decide +kernel)) (fun _ h9 => h9) rfl dX4_giveBack_46 ?_
        refine lv_iload_n hx hb dX4_giveBack_49 rfl (lv_at hl 2 rfl) ?_
        refine va_zald hx hb hE.1 hP 4 1 rfl rfl (in_pers c_11) dX4_giveBack_50 ?_
        refine lv_if_eq (tgt := 89) hx hb dX4_giveBack_51 (by decide) (fun c_51 => ?_) (fun c_51 => ?_)
        · refine lv_iconst (v := 0) hx hb dX4_giveBack_89 (by decide) ?_
          refine lv_istore (lv' := [(5, .int 0), (4, .int (f_X4_row p2)), (0, .ref (b 0)), (1, .int p0), (2, .int p1), (3, .int p2)]) hx hb dX4_giveBack_90 hl (by decide) rfl (fun ls hl => ?_)
          refine lv_iload hx hb dX4_giveBack_92 (lv_at hl 0 rfl) ?_
          refine lv_if_ne (tgt := 105) hx hb dX4_giveBack_94 (by decide) (fun c_94 => absurd (by decide) c_94) (fun c_94 => ?_)
          refine lv_aload_n hx hb dX4_giveBack_97 rfl (lv_at hl 2 rfl) ?_
          refine lv_iconst (v := 2) hx hb dX4_giveBack_98 (by decide) ?_
          refine k_m (wc := [wcM b 0 mck mbn mai mtm mst msm mon mlt]) (w1 := [wcM b ((f_X4_fails 2).2) mck mbn mai mtm mst msm mon mlt]) (wn := [wcM b ((f_X4_fails 2).2) mck mbn mai mtm mst msm mon mlt, wcI G (b 1) 6 msc, wcI G (b 2) 20 mcl, wcI G (b 5) 36 mli, wcZ G (b 7) 4 mis]) (va_runV (As := [.int 2]) (rest := []) ⟨hx, hb, hml, hown, hts⟩ (c_X4_fails l G b H.size 0 mck mbn mai mtm mst msm mon mlt 2) (cwV 1 hts gX4_giveBack_X4_fails rfl rfl rfl ⟨rfl, by decide +kernel, by decide +kernel, by decide +kernel⟩ ⟨Nat.le_of_ble_eq_true rfl, Nat.le_of_ble_eq_true rfl⟩) ⟨GP.blind, va_recv hE.1 hP (ci := 4) (q0 := 0) rfl rfl, GP.go (wc := [wcM b 0 mck mbn mai mtm mst msm mon mlt]) hE hZ hP hD hS hA [0] rfl (by decide) [.ref (b 0), .int 2]⟩ rfl rfl hl.1 rfl (lv_room (Nat.le_of_ble_eq_true rfl)) dX4_giveBack_99 ⟨Nat.le_of_ble_eq_true rfl, Nat.le_of_ble_eq_true rfl⟩) hP hD hS hA [0] rfl rfl rfl rfl (fun H locs hP hD hS => ?_)
          refine lv_pop hx hb dX4_giveBack_102 rfl ?_
          refine lv_iconst (v := 0) hx hb dX4_giveBack_103 (by decide) ?_
          have hq : f_X4_giveBack mbn mai msc mcl mli mis p0 p1 p2 = (0, (f_X4_fails 2).2, mli) := (by rw [f_X4_giveBack, if_neg c_11, if_neg c_19, if_neg c_25, if_pos c_51])
          exact W.zret (v := 0) hx hb hr rfl (fun t ht _ => ⟨by rw [hq], by rw [hq, ht]; exact hP, hS.F ht⟩) hS.2.2 dX4_giveBack_104
        · refine lv_aload_n hx hb dX4_giveBack_54 rfl (lv_at hl 1 rfl) ?_
          refine lv_iload_n hx hb dX4_giveBack_55 rfl (lv_at hl 3 rfl) ?_
          refine k_p (va_runV (As := [.int p1]) (rest := []) ⟨hx, hb, hml, hown, hts⟩ (c_X4_spot l G b H.size 0 mck mbn mai mtm mst msm mon mlt mli p1) (cwV 1 hts gX4_giveBack_X4_spot rfl rfl rfl ⟨rfl, by decide +kernel, by decide +kernel, by decide +kernel⟩ ⟨Nat.le_of_ble_eq_true rfl, Nat.le_of_ble_eq_true rfl⟩) ⟨GP.blind, va_recv hE.1 hP (ci := 4) (q0 := 0) rfl rfl, GP.go (wc := [wcM b 0 mck mbn mai mtm mst msm mon mlt, wcI G (b 5) 36 mli]) hE hZ hP hD hS hA [0, 3] rfl (by decide) [.ref (b 0), .int p1]⟩ rfl rfl hl.1 rfl (lv_room (Nat.le_of_ble_eq_true rfl)) dX4_giveBack_56 ⟨Nat.le_of_ble_eq_true rfl, Nat.le_of_ble_eq_true rfl⟩) ?_
          refine lv_iconst (v := (-1)) hx hb dX4_giveBack_59 (by decide) ?_
          refine lv_icmp_ne (tgt := 89) hx hb dX4_giveBack_60 (by decide) (fun c_60 => ?_) (fun c_60 => ?_)
          · refine lv_iconst (v := 0) hx hb dX4_giveBack_89 (by decide) ?_
            refine lv_istore (lv' := [(5, .int 0), (4, .int (f_X4_row p2)), (0, .ref (b 0)), (1, .int p0), (2, .int p1), (3, .int p2)]) hx hb dX4_giveBack_90 hl (by decide) rfl (fun ls hl => ?_)
            refine lv_iload hx hb dX4_giveBack_92 (lv_at hl 0 rfl) ?_
            refine lv_if_ne (tgt := 105) hx hb dX4_giveBack_94 (by decide) (fun c_94 => absurd (by decide) c_94) (fun c_94 => ?_)
            refine lv_aload_n hx hb dX4_giveBack_97 rfl (lv_at hl 2 rfl) ?_
            refine lv_iconst (v := 2) hx hb dX4_giveBack_98 (by decide) ?_
            refine k_m (wc := [wcM b 0 mck mbn mai mtm mst msm mon mlt]) (w1 := [wcM b ((f_X4_fails 2).2) mck mbn mai mtm mst msm mon mlt]) (wn := [wcM b ((f_X4_fails 2).2) mck mbn mai mtm mst msm mon mlt, wcI G (b 1) 6 msc, wcI G (b 2) 20 mcl, wcI G (b 5) 36 mli, wcZ G (b 7) 4 mis]) (va_runV (As := [.int 2]) (rest := []) ⟨hx, hb, hml, hown, hts⟩ (c_X4_fails l G b H.size 0 mck mbn mai mtm mst msm mon mlt 2) (cwV 1 hts gX4_giveBack_X4_fails rfl rfl rfl ⟨rfl, by decide +kernel, by decide +kernel, by decide +kernel⟩ ⟨Nat.le_of_ble_eq_true rfl, Nat.le_of_ble_eq_true rfl⟩) ⟨GP.blind, va_recv hE.1 hP (ci := 4) (q0 := 0) rfl rfl, GP.go (wc := [wcM b 0 mck mbn mai mtm mst msm mon mlt]) hE hZ hP hD hS hA [0] rfl (by decide) [.ref (b 0), .int 2]⟩ rfl rfl hl.1 rfl (lv_room (Nat.le_of_ble_eq_true rfl)) dX4_giveBack_99 ⟨Nat.le_of_ble_eq_true rfl, Nat.le_of_ble_eq_true rfl⟩) hP hD hS hA [0] rfl rfl rfl rfl (fun H locs hP hD hS => ?_)
            refine lv_pop hx hb dX4_giveBack_102 rfl ?_
            refine lv_iconst (v := 0) hx hb dX4_giveBack_103 (by decide) ?_
            have hq : f_X4_giveBack mbn mai msc mcl mli mis p0 p1 p2 = (0, (f_X4_fails 2).2, mli) := (by rw [f_X4_giveBack, if_neg c_11, if_neg c_19, if_neg c_25, if_neg c_51, if_neg c_60])
            exact W.zret (v := 0) hx hb hr rfl (fun t ht _ => ⟨by rw [hq], by rw [hq, ht]; exact hP, hS.F ht⟩) hS.2.2 dX4_giveBack_104
          · refine lv_iload hx hb dX4_giveBack_63 (lv_at hl 0 rfl) ?_
            refine k_p (va_runS (As := [.int (f_X4_row p2)]) (rest := []) ⟨hx, hb, hml, hown, hts⟩ (c_X4_aisleOf l G H.size (f_X4_row p2)) (va_cwS 1 hts gX4_giveBack_X4_aisleOf rfl rfl rfl ⟨by decide +kernel, by decide +kernel, by decide +kernel⟩ ⟨Nat.le_of_ble_eq_true rfl, Nat.le_of_ble_eq_true rfl⟩) ⟨GP.blind, GP.go (wc := []) hE hZ hP hD hS hA [] rfl (by decide) [.int (f_X4_row p2)]⟩ rfl rfl hl.1 rfl (lv_room (Nat.le_of_ble_eq_true rfl)) dX4_giveBack_65 ⟨Nat.le_of_ble_eq_true rfl, Nat.le_of_ble_eq_true rfl⟩) ?_
            refine lv_aload_n hx hb dX4_giveBack_68 rfl (lv_at hl 1 rfl) ?_
            refine va_get (D := G.1) (ci := 4) (v := .int mai) (C := RX4) (T := TX4) (N := 19) hx hb hts iw_X4_giveBack_RX4 hown hE.1 hP 0 rfl rfl 8 (by decide) (hts (.fieldLink RX4 89 "RackrailModel" "aisle" "I") (by decide +kernel)) (fun _ h9 => h9) rfl dX4_giveBack_69 ?_
            refine lv_icmp_ne (tgt := 89) hx hb dX4_giveBack_72 (by decide) (fun c_72 => ?_) (fun c_72 => ?_)
            · refine lv_iconst (v := 0) hx hb dX4_giveBack_89 (by decide) ?_
              refine lv_istore (lv' := [(5, .int 0), (4, .int (f_X4_row p2)), (0, .ref (b 0)), (1, .int p0), (2, .int p1), (3, .int p2)]) hx hb dX4_giveBack_90 hl (by decide) rfl (fun ls hl => ?_)
              refine lv_iload hx hb dX4_giveBack_92 (lv_at hl 0 rfl) ?_
              refine lv_if_ne (tgt := 105) hx hb dX4_giveBack_94 (by decide) (fun c_94 => absurd (by decide) c_94) (fun c_94 => ?_)
              refine lv_aload_n hx hb dX4_giveBack_97 rfl (lv_at hl 2 rfl) ?_
              refine lv_iconst (v := 2) hx hb dX4_giveBack_98 (by decide) ?_
              refine k_m (wc := [wcM b 0 mck mbn mai mtm mst msm mon mlt]) (w1 := [wcM b ((f_X4_fails 2).2) mck mbn mai mtm mst msm mon mlt]) (wn := [wcM b ((f_X4_fails 2).2) mck mbn mai mtm mst msm mon mlt, wcI G (b 1) 6 msc, wcI G (b 2) 20 mcl, wcI G (b 5) 36 mli, wcZ G (b 7) 4 mis]) (va_runV (As := [.int 2]) (rest := []) ⟨hx, hb, hml, hown, hts⟩ (c_X4_fails l G b H.size 0 mck mbn mai mtm mst msm mon mlt 2) (cwV 1 hts gX4_giveBack_X4_fails rfl rfl rfl ⟨rfl, by decide +kernel, by decide +kernel, by decide +kernel⟩ ⟨Nat.le_of_ble_eq_true rfl, Nat.le_of_ble_eq_true rfl⟩) ⟨GP.blind, va_recv hE.1 hP (ci := 4) (q0 := 0) rfl rfl, GP.go (wc := [wcM b 0 mck mbn mai mtm mst msm mon mlt]) hE hZ hP hD hS hA [0] rfl (by decide) [.ref (b 0), .int 2]⟩ rfl rfl hl.1 rfl (lv_room (Nat.le_of_ble_eq_true rfl)) dX4_giveBack_99 ⟨Nat.le_of_ble_eq_true rfl, Nat.le_of_ble_eq_true rfl⟩) hP hD hS hA [0] rfl rfl rfl rfl (fun H locs hP hD hS => ?_)
              refine lv_pop hx hb dX4_giveBack_102 rfl ?_
              refine lv_iconst (v := 0) hx hb dX4_giveBack_103 (by decide) ?_
              have hq : f_X4_giveBack mbn mai msc mcl mli mis p0 p1 p2 = (0, (f_X4_fails 2).2, mli) := (by rw [f_X4_giveBack, if_neg c_11, if_neg c_19, if_neg c_25, if_neg c_51, if_pos c_60, if_neg c_72])
              exact W.zret (v := 0) hx hb hr rfl (fun t ht _ => ⟨by rw [hq], by rw [hq, ht]; exact hP, hS.F ht⟩) hS.2.2 dX4_giveBack_104
            · refine lv_aload_n hx hb dX4_giveBack_75 rfl (lv_at hl 1 rfl) ?_
              refine va_get (D := G.1) (ci := 4) (v := .ref (b 5)) (C := RX4) (T := TX4) (N := 19) hx hb hts iw_X4_giveBack_RX4 hown hE.1 hP 0 rfl rfl 7 (by decide) (hts (.fieldLink RX4 22 "RackrailModel" "lies" "[I") (by decide +kernel)) (fun _ h9 => h9) rfl dX4_giveBack_76 ?_
              refine lv_iload hx hb dX4_giveBack_79 (lv_at hl 0 rfl) ?_
              refine va_iald hx hb hE.1 hP 3 0 rfl rfl (in_row c_25) dX4_giveBack_81 ?_
              refine lv_if_ne (tgt := 89) hx hb dX4_giveBack_82 (by decide) (fun c_82 => ?_) (fun c_82 => ?_)
              · refine lv_iconst (v := 0) hx hb dX4_giveBack_89 (by decide) ?_
                refine lv_istore (lv' := [(5, .int 0), (4, .int (f_X4_row p2)), (0, .ref (b 0)), (1, .int p0), (2, .int p1), (3, .int p2)]) hx hb dX4_giveBack_90 hl (by decide) rfl (fun ls hl => ?_)
                refine lv_iload hx hb dX4_giveBack_92 (lv_at hl 0 rfl) ?_
                refine lv_if_ne (tgt := 105) hx hb dX4_giveBack_94 (by decide) (fun c_94 => absurd (by decide) c_94) (fun c_94 => ?_)
                refine lv_aload_n hx hb dX4_giveBack_97 rfl (lv_at hl 2 rfl) ?_
                refine lv_iconst (v := 2) hx hb dX4_giveBack_98 (by decide) ?_
                refine k_m (wc := [wcM b 0 mck mbn mai mtm mst msm mon mlt]) (w1 := [wcM b ((f_X4_fails 2).2) mck mbn mai mtm mst msm mon mlt]) (wn := [wcM b ((f_X4_fails 2).2) mck mbn mai mtm mst msm mon mlt, wcI G (b 1) 6 msc, wcI G (b 2) 20 mcl, wcI G (b 5) 36 mli, wcZ G (b 7) 4 mis]) (va_runV (As := [.int 2]) (rest := []) ⟨hx, hb, hml, hown, hts⟩ (c_X4_fails l G b H.size 0 mck mbn mai mtm mst msm mon mlt 2) (cwV 1 hts gX4_giveBack_X4_fails rfl rfl rfl ⟨rfl, by decide +kernel, by decide +kernel, by decide +kernel⟩ ⟨Nat.le_of_ble_eq_true rfl, Nat.le_of_ble_eq_true rfl⟩) ⟨GP.blind, va_recv hE.1 hP (ci := 4) (q0 := 0) rfl rfl, GP.go (wc := [wcM b 0 mck mbn mai mtm mst msm mon mlt]) hE hZ hP hD hS hA [0] rfl (by decide) [.ref (b 0), .int 2]⟩ rfl rfl hl.1 rfl (lv_room (Nat.le_of_ble_eq_true rfl)) dX4_giveBack_99 ⟨Nat.le_of_ble_eq_true rfl, Nat.le_of_ble_eq_true rfl⟩) hP hD hS hA [0] rfl rfl rfl rfl (fun H locs hP hD hS => ?_)
                refine lv_pop hx hb dX4_giveBack_102 rfl ?_
                refine lv_iconst (v := 0) hx hb dX4_giveBack_103 (by decide) ?_
                have hq : f_X4_giveBack mbn mai msc mcl mli mis p0 p1 p2 = (0, (f_X4_fails 2).2, mli) := (by rw [f_X4_giveBack, if_neg c_11, if_neg c_19, if_neg c_25, if_neg c_51, if_pos c_60, if_pos c_72, if_neg c_82])
                exact W.zret (v := 0) hx hb hr rfl (fun t ht _ => ⟨by rw [hq], by rw [hq, ht]; exact hP, hS.F ht⟩) hS.2.2 dX4_giveBack_104
              · refine lv_iconst (v := 1) hx hb dX4_giveBack_85 (by decide) ?_
                refine lv_goto (tgt := 90) hx hb dX4_giveBack_86 (by decide) ?_
                refine lv_istore (lv' := [(5, .int 1), (4, .int (f_X4_row p2)), (0, .ref (b 0)), (1, .int p0), (2, .int p1), (3, .int p2)]) hx hb dX4_giveBack_90 hl (by decide) rfl (fun ls hl => ?_)
                refine lv_iload hx hb dX4_giveBack_92 (lv_at hl 0 rfl) ?_
                refine lv_if_ne (tgt := 105) hx hb dX4_giveBack_94 (by decide) (fun c_94 => ?_) (fun c_94 => absurd c_94 (by decide))
                refine lv_aload_n hx hb dX4_giveBack_105 rfl (lv_at hl 2 rfl) ?_
                refine va_get (D := G.1) (ci := 4) (v := .ref (b 5)) (C := RX4) (T := TX4) (N := 19) hx hb hts iw_X4_giveBack_RX4 hown hE.1 hP 0 rfl rfl 7 (by decide) (hts (.fieldLink RX4 22 "RackrailModel" "lies" "[I") (by decide +kernel)) (fun _ h9 => h9) rfl dX4_giveBack_106 ?_
                refine lv_iload hx hb dX4_giveBack_109 (lv_at hl 1 rfl) ?_
                refine lv_iload_n hx hb dX4_giveBack_111 rfl (lv_at hl 4 rfl) ?_
                refine lv_iconst (v := 1) hx hb dX4_giveBack_112 (by decide) ?_
                refine lv_iadd hx hb dX4_giveBack_113 ?_
                refine va_iast hx hb hE.1 hP hD hS 3 0 rfl rfl (in_row c_25) dX4_giveBack_114 (fun H locs hP hD hS => ?_)
                have hP : va_P G.1 vwCl [wcM b 0 mck mbn mai mtm mst msm mon mlt, wcI G (b 1) 6 msc, wcI G (b 2) 20 mcl, wcI G (b 5) 36 (upd mli (f_X4_row p2).toNatClampNeg (p1 + 1)), wcZ G (b 7) 4 mis] H := hP
                have hD : va_D _ [wcM b 0 mck mbn mai mtm mst msm mon mlt, wcI G (b 1) 6 msc, wcI G (b 2) 20 mcl, wcI G (b 5) 36 (upd mli (f_X4_row p2).toNatClampNeg (p1 + 1)), wcZ G (b 7) 4 mis] := hD
                refine lv_aload_n hx hb dX4_giveBack_115 rfl (lv_at hl 2 rfl) ?_
                refine va_get (D := G.1) (ci := 4) (v := .ref (b 1)) (C := RX4) (T := TX4) (N := 19) hx hb hts iw_X4_giveBack_RX4 hown hE.1 hP 0 rfl rfl 2 (by decide) (hts (.fieldLink RX4 7 "RackrailModel" "climates" "[I") (by decide +kernel)) (fun _ h9 => h9) rfl dX4_giveBack_116 ?_
                refine lv_iload hx hb dX4_giveBack_119 (lv_at hl 1 rfl) ?_
                refine lv_bipush (v := 6) hx hb dX4_giveBack_121 (by decide) ?_
                refine lv_idiv hx hb dX4_giveBack_123 (by decide) ?_
                refine va_iald hx hb hE.1 hP 1 0 rfl rfl (in_row6 c_25) dX4_giveBack_124 ?_
                refine lv_aload_n hx hb dX4_giveBack_125 rfl (lv_at hl 2 rfl) ?_
                refine va_get (D := G.1) (ci := 4) (v := .ref (b 2)) (C := RX4) (T := TX4) (N := 19) hx hb hts iw_X4_giveBack_RX4 hown hE.1 hP 0 rfl rfl 4 (by decide) (hts (.fieldLink RX4 13 "RackrailModel" "boxClimates" "[I") (by decide +kernel)) (fun _ h9 => h9) rfl dX4_giveBack_126 ?_
                refine lv_iload_n hx hb dX4_giveBack_129 rfl (lv_at hl 4 rfl) ?_
                refine va_iald hx hb hE.1 hP 2 0 rfl rfl (in_boxM hmn c_19) dX4_giveBack_130 ?_
                refine lv_icmp_ne (tgt := 138) hx hb dX4_giveBack_131 (by decide) (fun c_131 => ?_) (fun c_131 => ?_)
                · refine lv_iconst (v := 0) hx hb dX4_giveBack_138 (by decide) ?_
                  have hq : f_X4_giveBack mbn mai msc mcl mli mis p0 p1 p2 = (0, 0, upd mli (f_X4_row p2).toNatClampNeg (p1 + 1)) := (by rw [f_X4_giveBack, if_neg c_11, if_neg c_19, if_neg c_25, if_neg c_51, if_pos c_60, if_pos c_72, if_pos c_82, if_neg c_131])
                  exact W.zret (v := 0) hx hb hr rfl (fun t ht _ => ⟨by rw [hq], by rw [hq, ht]; exact hP, hS.F ht⟩) hS.2.2 dX4_giveBack_139
                · refine lv_iconst (v := 1) hx hb dX4_giveBack_134 (by decide) ?_
                  refine lv_goto (tgt := 139) hx hb dX4_giveBack_135 (by decide) ?_
                  have hq : f_X4_giveBack mbn mai msc mcl mli mis p0 p1 p2 = (1, 0, upd mli (f_X4_row p2).toNatClampNeg (p1 + 1)) := (by rw [f_X4_giveBack, if_neg c_11, if_neg c_19, if_neg c_25, if_neg c_51, if_pos c_60, if_pos c_72, if_pos c_82, if_pos c_131])
                  exact W.zret (v := 1) hx hb hr rfl (fun t ht _ => ⟨by rw [hq], by rw [hq, ht]; exact hP, hS.F ht⟩) hS.2.2 dX4_giveBack_139
      · refine lv_iconst (v := 1) hx hb dX4_giveBack_28 (by decide) ?_
        refine lv_goto (tgt := 33) hx hb dX4_giveBack_29 (by decide) ?_
        refine va_put (D := G.1) (ci := 4) (v := .int 1) (ty := .int) (C := RX4) (T := TX4) (N := 19) hx hb hts iw_X4_giveBack_RX4 tyX4 tyX4_ok nmX4 hown hE.1 hP hD hS 0 rfl rfl 0 (by decide) (hts (.fieldLink RX4 41 "RackrailModel" "thrown" "I") (by decide +kernel)) (fun _ h9 => h9) rfl (by decide +kernel) rfl rfl (Nat.le_of_ble_eq_true rfl) dX4_giveBack_33 (fun H locs hP hD hS => ?_)
        have hP : va_P G.1 vwCl [wcM b 1 mck mbn mai mtm mst msm mon mlt, wcI G (b 1) 6 msc, wcI G (b 2) 20 mcl, wcI G (b 5) 36 mli, wcZ G (b 7) 4 mis] H := hP
        have hD : va_D _ [wcM b 1 mck mbn mai mtm mst msm mon mlt, wcI G (b 1) 6 msc, wcI G (b 2) 20 mcl, wcI G (b 5) 36 mli, wcZ G (b 7) 4 mis] := hD
        refine lv_aload_n hx hb dX4_giveBack_36 rfl (lv_at hl 1 rfl) ?_
        refine va_get (D := G.1) (ci := 4) (v := .int 1) (C := RX4) (T := TX4) (N := 19) hx hb hts iw_X4_giveBack_RX4 hown hE.1 hP 0 rfl rfl 0 (by decide) (hts (.fieldLink RX4 41 "RackrailModel" "thrown" "I") (by decide +kernel)) (fun _ h9 => h9) rfl dX4_giveBack_37 ?_
        refine lv_if_le (tgt := 45) hx hb dX4_giveBack_40 (by decide) (fun c_40 => absurd c_40 (by decide)) (fun c_40 => ?_)
        refine lv_iconst (v := 0) hx hb dX4_giveBack_43 (by decide) ?_
        have hq : f_X4_giveBack mbn mai msc mcl mli mis p0 p1 p2 = (0, 1, mli) := (by rw [f_X4_giveBack, if_neg c_11, if_neg c_19, if_pos c_25])
        exact W.zret (v := 0) hx hb hr rfl (fun t ht _ => ⟨by rw [hq], by rw [hq, ht]; exact hP, hS.F ht⟩) hS.2.2 dX4_giveBack_44

/-! X4_waiting -/
def f_X4_waiting_L (mdn : Nat → Int32) : Nat → Nat → Int32 → Int32 × Int32
  | 0, j, cnt => (cnt, 0)
  | r + 1, j, cnt => if (mdn (nI j).toNatClampNeg) = 0 then f_X4_waiting_L mdn r (j + 1) (cnt + 1)
    else f_X4_waiting_L mdn r (j + 1) (cnt + 0)
def f_X4_waiting (mon : Int32) (mdn : Nat → Int32) : Int32 × Int32 :=
  f_X4_waiting_L mdn mon.toNatClampNeg 0 0
theorem iw_X4_waiting_RX4 : ∀ w ∈ u_ws RX4 TX4 19, w ∈ wsX4_waiting := by decide +kernel
set_option maxHeartbeats 4000000 in
set_option maxRecDepth 100000 in
theorem c_X4_waiting (l : Launch) (G : GT) (b : Nat → Nat) (sz : Nat) (mth : Int32) (mck : Int32) (mbn : Int32) (mai : Int32) (mtm : Int32) (mst : Int32) (msm : Int32) (mon : Int32) (mlt : Int32) (mdn : Nat → Int32) (hmo : okN 30 mon) : Met l yX4_waiting wsX4_waiting ({ frames := 0, cells := 0, slots := 0, locals := 0 }) (GP G [.ref (b 0)] [wcM b mth mck mbn mai mtm mst msm mon mlt, wcZ G (b 10) 30 mdn] sz) (MQo G (.returned (some (.int ((f_X4_waiting mon mdn).1)))) [wcM b ((f_X4_waiting mon mdn).2) mck mbn mai mtm mst msm mon mlt, wcZ G (b 10) 30 mdn] (va_A [wcM b mth mck mbn mai mtm mst msm mon mlt, wcZ G (b 10) 30 mdn] sz)) 0 0 (va_A [wcM b mth mck mbn mai mtm mst msm mon mlt, wcZ G (b 10) 30 mdn] sz) := by
  refine bodyM (cc := cX4_waiting) (maxL := 3) (ret := (some .int)) (by decide) rfl (Nat.le_of_ble_eq_true rfl) ?_
  intro p e s m below meth c ls C
  obtain ⟨hx, hb, hr, hts, hown, hlocks, hml, hsz, hP, hE, hD, hZ, hA, hS, hl⟩ := C
  subst hsz
  have hl : lv_has ls 3 [(0, .ref (b 0))] := hl
  obtain ⟨n, hn, hmo2⟩ := id hmo
  have hcl : mon.toNatClampNeg = n := by rw [hmo2]; exact nI_clamp (by omega)
  refine lv_aload_n hx hb dX4_waiting_0 rfl (lv_at hl 0 rfl) ?_
  refine lv_iconst (v := 0) hx hb dX4_waiting_1 (by decide) ?_
  refine va_put (D := G.1) (ci := 4) (v := .int 0) (ty := .int) (C := RX4) (T := TX4) (N := 19) hx hb hts iw_X4_waiting_RX4 tyX4 tyX4_ok nmX4 hown hE.1 hP hD hS 0 rfl rfl 0 (by decide) (hts (.fieldLink RX4 41 "RackrailModel" "thrown" "I") (by decide +kernel)) (fun _ h9 => h9) rfl (by decide +kernel) rfl rfl (Nat.le_of_ble_eq_true rfl) dX4_waiting_2 (fun H locs hP hD hS => ?_)
  have hP : va_P G.1 vwCl [wcM b 0 mck mbn mai mtm mst msm mon mlt, wcZ G (b 10) 30 mdn] H := hP
  have hD : va_D _ [wcM b 0 mck mbn mai mtm mst msm mon mlt, wcZ G (b 10) 30 mdn] := hD
  refine lv_iconst (v := 0) hx hb dX4_waiting_5 (by decide) ?_
  refine lv_istore_n (lv' := [(1, .int 0), (0, .ref (b 0))]) hx hb dX4_waiting_6 rfl hl (by decide) rfl (fun ls hl => ?_)
  refine lv_iconst (v := 0) hx hb dX4_waiting_7 (by decide) ?_
  refine lv_istore_n (lv' := [(2, .int 0), (1, .int 0), (0, .ref (b 0))]) hx hb dX4_waiting_8 rfl hl (by decide) rfl (fun ls hl => ?_)
  refine k_loopP (α := Int32) (fun (r j : Nat) (x : Int32) (ls : Array Slot) => j + r = n ∧ f_X4_waiting mon mdn = f_X4_waiting_L mdn r j x ∧ lv_has ls 3 [(2, .int (nI j)), (1, .int x), (0, .ref (b 0))]) n 0 0 ⟨by omega, (by rw [f_X4_waiting, hcl]), lv_sub hl [0, 1, 2] rfl⟩ ?_ ?_
  · intro j x ls hI
    obtain ⟨cnt, rfl⟩ : ∃ y, y = x := ⟨_, rfl⟩
    obtain ⟨hj, hf, hl⟩ := hI
    have hl : lv_has ls 3 [(2, .int (nI j)), (1, .int cnt), (0, .ref (b 0))] := hl
    have hf : f_X4_waiting mon mdn = f_X4_waiting_L mdn 0 j cnt := hf
    refine lv_iload_n hx hb dX4_waiting_9 rfl (lv_at hl 0 rfl) ?_
    refine lv_aload_n hx hb dX4_waiting_10 rfl (lv_at hl 2 rfl) ?_
    refine va_get (D := G.1) (ci := 4) (v := .int mon) (C := RX4) (T := TX4) (N := 19) hx hb hts iw_X4_waiting_RX4 hown hE.1 hP 0 rfl rfl 14 (by decide) (hts (.fieldLink RX4 108 "RackrailModel" "orderMany" "I") (by decide +kernel)) (fun _ h9 => h9) rfl dX4_waiting_11 ?_
    refine lv_icmp_ge (tgt := 40) hx hb dX4_waiting_14 (by decide) (fun c_14 => ?_) (fun c_14 => absurd (lp_a hmo2 (by omega) (by omega)) c_14)
    refine lv_iload_n hx hb dX4_waiting_40 rfl (lv_at hl 1 rfl) ?_
    have hq : f_X4_waiting mon mdn = (cnt, 0) := (hf.trans (by rw [f_X4_waiting_L]))
    exact W.iret (v := cnt) hx hb hr (fun t ht _ => ⟨by rw [hq], by rw [hq, ht]; exact hP, hS.F ht⟩) hS.2.2 dX4_waiting_41
  · intro r ih j x ls hI
    obtain ⟨cnt, rfl⟩ : ∃ y, y = x := ⟨_, rfl⟩
    obtain ⟨hj, hf, hl⟩ := hI
    have hl : lv_has ls 3 [(2, .int (nI j)), (1, .int cnt), (0, .ref (b 0))] := hl
    have hf : f_X4_waiting mon mdn = f_X4_waiting_L mdn (r + 1) j cnt := hf
    refine lv_iload_n hx hb dX4_waiting_9 rfl (lv_at hl 0 rfl) ?_
    refine lv_aload_n hx hb dX4_waiting_10 rfl (lv_at hl 2 rfl) ?_
    refine va_get (D := G.1) (ci := 4) (v := .int mon) (C := RX4) (T := TX4) (N := 19) hx hb hts iw_X4_waiting_RX4 hown hE.1 hP 0 rfl rfl 14 (by decide) (hts (.fieldLink RX4 108 "RackrailModel" "orderMany" "I") (by decide +kernel)) (fun _ h9 => h9) rfl dX4_waiting_11 ?_
    refine lv_icmp_ge (tgt := 40) hx hb dX4_waiting_14 (by decide) (fun c_14 => absurd c_14 (lp_b (r := r) hmo2 (by omega) (by omega))) (fun c_14 => ?_)
    refine lv_iload_n hx hb dX4_waiting_17 rfl (lv_at hl 1 rfl) ?_
    refine lv_aload_n hx hb dX4_waiting_18 rfl (lv_at hl 2 rfl) ?_
    refine va_get (D := G.1) (ci := 4) (v := .ref (b 10)) (C := RX4) (T := TX4) (N := 19) hx hb hts iw_X4_waiting_RX4 hown hE.1 hP 0 rfl rfl 17 (by decide) (hts (.fieldLink RX4 38 "RackrailModel" "isDone" "[Z") (by decide +kernel)) (fun _ h9 => h9) rfl dX4_waiting_19 ?_
    refine lv_iload_n hx hb dX4_waiting_22 rfl (lv_at hl 0 rfl) ?_
    refine va_zald hx hb hE.1 hP 1 1 rfl rfl (vp_in_nI (by omega) (by decide)) dX4_waiting_23 ?_
    refine lv_if_eq (tgt := 31) hx hb dX4_waiting_24 (by decide) (fun c_24 => ?_) (fun c_24 => ?_)
    · refine lv_iconst (v := 1) hx hb dX4_waiting_31 (by decide) ?_
      refine lv_iadd hx hb dX4_waiting_32 ?_
      refine lv_istore_n (lv' := [(1, .int (cnt + 1)), (2, .int (nI j)), (0, .ref (b 0))]) hx hb dX4_waiting_33 rfl hl (by decide) rfl (fun ls hl => ?_)
      refine lv_iinc (v := nI (j + 1)) (lv' := [(2, .int (nI (j + 1))), (1, .int (cnt + 1)), (0, .ref (b 0))]) hx hb dX4_waiting_34 hl (k := 1) rfl (inc1 _) (by decide) rfl (fun ls hl => ?_)
      refine lv_goto (tgt := 9) hx hb dX4_waiting_37 (by decide) ?_
      exact ih (j + 1) (cnt + 1) _ ⟨by omega, (hf.trans (by rw [f_X4_waiting_L, if_pos c_24])), lv_sub hl [0, 1, 2] rfl⟩
    · refine lv_iconst (v := 0) hx hb dX4_waiting_27 (by decide) ?_
      refine lv_goto (tgt := 32) hx hb dX4_waiting_28 (by decide) ?_
      refine lv_iadd hx hb dX4_waiting_32 ?_
      refine lv_istore_n (lv' := [(1, .int (cnt + 0)), (2, .int (nI j)), (0, .ref (b 0))]) hx hb dX4_waiting_33 rfl hl (by decide) rfl (fun ls hl => ?_)
      refine lv_iinc (v := nI (j + 1)) (lv' := [(2, .int (nI (j + 1))), (1, .int (cnt + 0)), (0, .ref (b 0))]) hx hb dX4_waiting_34 hl (k := 1) rfl (inc1 _) (by decide) rfl (fun ls hl => ?_)
      refine lv_goto (tgt := 9) hx hb dX4_waiting_37 (by decide) ?_
      exact ih (j + 1) (cnt + 0) _ ⟨by omega, (hf.trans (by rw [f_X4_waiting_L, if_neg c_24])), lv_sub hl [0, 1, 2] rfl⟩

/-! X4_late -/
def f_X4_late (mlt : Int32) : Int32 × Int32 :=
  (mlt, 0)
theorem iw_X4_late_RX4 : ∀ w ∈ u_ws RX4 TX4 19, w ∈ wsX4_late := by decide +kernel
set_option maxHeartbeats 4000000 in
set_option maxRecDepth 100000 in
theorem c_X4_late (l : Launch) (G : GT) (b : Nat → Nat) (sz : Nat) (mth : Int32) (mck : Int32) (mbn : Int32) (mai : Int32) (mtm : Int32) (mst : Int32) (msm : Int32) (mon : Int32) (mlt : Int32) : Met l yX4_late wsX4_late ({ frames := 0, cells := 0, slots := 0, locals := 0 }) (GP G [.ref (b 0)] [wcM b mth mck mbn mai mtm mst msm mon mlt] sz) (MQo G (.returned (some (.int ((f_X4_late mlt).1)))) [wcM b ((f_X4_late mlt).2) mck mbn mai mtm mst msm mon mlt] (va_A [wcM b mth mck mbn mai mtm mst msm mon mlt] sz)) 0 0 (va_A [wcM b mth mck mbn mai mtm mst msm mon mlt] sz) := by
  refine bodyM (cc := cX4_late) (maxL := 1) (ret := (some .int)) (by decide) rfl (Nat.le_of_ble_eq_true rfl) ?_
  intro p e s m below meth c ls C
  obtain ⟨hx, hb, hr, hts, hown, hlocks, hml, hsz, hP, hE, hD, hZ, hA, hS, hl⟩ := C
  subst hsz
  have hl : lv_has ls 1 [(0, .ref (b 0))] := hl
  refine lv_aload_n hx hb dX4_late_0 rfl (lv_at hl 0 rfl) ?_
  refine lv_iconst (v := 0) hx hb dX4_late_1 (by decide) ?_
  refine va_put (D := G.1) (ci := 4) (v := .int 0) (ty := .int) (C := RX4) (T := TX4) (N := 19) hx hb hts iw_X4_late_RX4 tyX4 tyX4_ok nmX4 hown hE.1 hP hD hS 0 rfl rfl 0 (by decide) (hts (.fieldLink RX4 41 "RackrailModel" "thrown" "I") (by decide +kernel)) (fun _ h9 => h9) rfl (by decide +kernel) rfl rfl (Nat.le_of_ble_eq_true rfl) dX4_late_2 (fun H locs hP hD hS => ?_)
  have hP : va_P G.1 vwCl [wcM b 0 mck mbn mai mtm mst msm mon mlt] H := hP
  have hD : va_D _ [wcM b 0 mck mbn mai mtm mst msm mon mlt] := hD
  refine lv_aload_n hx hb dX4_late_5 rfl (lv_at hl 0 rfl) ?_
  refine va_get (D := G.1) (ci := 4) (v := .int mlt) (C := RX4) (T := TX4) (N := 19) hx hb hts iw_X4_late_RX4 hown hE.1 hP 0 rfl rfl 18 (by decide) (hts (.fieldLink RX4 120 "RackrailModel" "lateMany" "I") (by decide +kernel)) (fun _ h9 => h9) rfl dX4_late_6 ?_
  have hq : f_X4_late mlt = (mlt, 0) := (by rw [f_X4_late])
  exact W.iret (v := mlt) hx hb hr (fun t ht _ => ⟨by rw [hq], by rw [hq, ht]; exact hP, hS.F ht⟩) hS.2.2 dX4_late_9

