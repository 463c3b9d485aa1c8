set_option maxHeartbeats 4000000 in
set_option maxRecDepth 100000 in
theorem K12_X7_feed (l : Launch) (D : va_G) (cB cI cZ : ClassId) (sz : Nat) (h0 : Nat)  (y0 : Int64) (g0 : Value) (g1 : Value) (g2 : Value) (g3 : Value) (g4 : Value) (g5 : Value) (g6 : Value) (g7 : Value) (g8 : Value)  :
    CtI l D cB cI cZ yX7_feed wsX7_feed { frames := 0, cells := 0, slots := 0, locals := 0 } [.ref h0, .long y0, .int 0] [(h0, .inr (6, [g0, g1, g2, g3, g4, g5, g6, g7, g8]))] sz 0 0
      (fun (r : Int32) (u : Unit) => r = 0)
      (fun u => []) := by
  refine mk_metI (cc := cX7_feed) (maxL := 5) (ret := (some .int)) (by decide) rfl (Nat.le_of_ble_eq_true rfl) ?_
  intro p e s m below meth c A hx hb hr hml hts hown hlocks hin hP hK hN hD hA hS ls hl
  have hown : s.vm.findClass RX7 = some m.cls := hown
  have hl : lv_has ls 5 [(0, .ref h0), (1, .long y0), (3, .int 0)] := hl
  refine lv_iload_n hx hb dX7_feed_0 rfl (lv_at hl 2 rfl) ?_
  refine lv_if_lt (tgt := 10) hx hb dX7_feed_1 (by decide) (fun c => absurd c (by decide)) (fun c => ?_)
  refine lv_iload_n hx hb dX7_feed_4 rfl (lv_at hl 2 rfl) ?_
  refine lv_bipush (v := 8) hx hb dX7_feed_5 (by decide) ?_
  refine lv_icmp_le (tgt := 13) hx hb dX7_feed_7 (by decide) (fun c => ?_) (fun c => absurd (by decide) c)
  refine lv_iload_n hx hb dX7_feed_13 rfl (lv_at hl 2 rfl) ?_
  refine lv_if_ne (tgt := 24) hx hb dX7_feed_14 (by decide) (fun c => absurd (by decide) c) (fun c => ?_)
  refine lv_aload_n hx hb dX7_feed_17 rfl (lv_at hl 0 rfl) ?_
  refine lv_iconst (v := 0) hx hb dX7_feed_18 (by decide) ?_
  refine va_put (D := D) (ci := 6) (v := .int 0) (ty := .int) (C := RX7) (T := TX7) (N := 9) hx hb hts inX7_feed_X7 tyX7 tyX7_ok nmX7 hown hK hP hD hS 0 rfl rfl 7 (by decide) (hts _ wdX7_feed_0) (fun _ h9 => h9) rfl (by decide +kernel) rfl rfl (Nat.le_of_ble_eq_true rfl) dX7_feed_19 (fun H locs hP hD hS => ?_)
  have hP : va_P D vwCl [(h0, .inr (6, [g0, g1, g2, g3, g4, g5, g6, .int 0, g8]))] H := hP
  have hD : va_D A [(h0, .inr (6, [g0, g1, g2, g3, g4, g5, g6, .int 0, g8]))] := hD
  refine lv_iconst (v := 0) hx hb dX7_feed_22 (by decide) ?_
  exact kr_i () hx hb hr hlocks (hP.sub [] rfl) (hD.sub [] (by decide) rfl) hS rfl dX7_feed_23
set_option maxHeartbeats 4000000 in
set_option maxRecDepth 100000 in
theorem K14_X8_in (l : Launch) (D : va_G) (cB cI cZ : ClassId) (sz : Nat)     :
    CtI l D cB cI cZ yX8_in wsX8_in { frames := 0, cells := 0, slots := 0, locals := 0 } [.int 0, .int 0, .int 8] [] sz 0 0
      (fun (r : Int32) (u : Unit) => r = 1)
      (fun u => []) := by
  refine mk_metI (cc := cX8_in) (maxL := 3) (ret := (some .boolean)) (by decide) rfl (Nat.le_of_ble_eq_true rfl) ?_
  intro p e s m below meth c A hx hb hr hml hts hown hlocks hin hP hK hN hD hA hS ls hl
  have hown : s.vm.findClass RX8 = some m.cls := hown
  have hl : lv_has ls 3 [(0, .int 0), (1, .int 0), (2, .int 8)] := hl
  refine lv_iload_n hx hb dX8_in_0 rfl (lv_at hl 0 rfl) ?_
  refine lv_iload_n hx hb dX8_in_1 rfl (lv_at hl 1 rfl) ?_
  refine lv_icmp_lt (tgt := 14) hx hb dX8_in_2 (by decide) (fun c => absurd c (by decide)) (fun c => ?_)
  refine lv_iload_n hx hb dX8_in_5 rfl (lv_at hl 0 rfl) ?_
  refine lv_iload_n hx hb dX8_in_6 rfl (lv_at hl 2 rfl) ?_
  refine lv_icmp_gt (tgt := 14) hx hb dX8_in_7 (by decide) (fun c => absurd c (by decide)) (fun c => ?_)
  refine lv_iconst (v := 1) hx hb dX8_in_10 (by decide) ?_
  refine lv_goto (tgt := 15) hx hb dX8_in_11 (by decide) ?_
  exact kr_z () hx hb hr rfl hlocks hP hD hS rfl dX8_in_15
set_option maxHeartbeats 4000000 in
set_option maxRecDepth 100000 in
theorem K13_X8_feed (l : Launch) (D : va_G) (cB cI cZ : ClassId) (sz : Nat) (h0 : Nat)  (y0 : Int64) (g0 : Value) (g1 : Value) (g2 : Value) (g3 : Value) (g4 : Value) (g5 : Value) (g6 : Value) (g7 : Value) (g8 : Value) (g9 : Value) (g10 : Value) (g11 : Value) (g12 : Value) (g13 : Value) (g14 : Value) (g15 : Value) (g16 : Value) (g17 : Value) (g18 : Value) (g19 : Value) (g20 : Value) (g21 : Value) (g22 : Value) (g23 : Value) (g24 : Value) (g25 : Value) (g26 : Value) (g27 : Value) (g28 : Value) (g29 : Value)  :
    CtI l D cB cI cZ yX8_feed wsX8_feed { frames := 1, cells := 0, slots := 0, locals := 22 } [.ref h0, .long y0, .int 0] [(h0, .inr (7, [g0, g1, g2, g3, g4, g5, g6, g7, g8, g9, g10, g11, g12, g13, g14, g15, g16, g17, g18, g19, g20, g21, g22, g23, g24, g25, g26, g27, g28, g29]))] sz 0 0
      (fun (r : Int32) (u : Unit) => r = 0)
      (fun u => []) := by
  refine mk_metI (cc := cX8_feed) (maxL := 5) (ret := (some .int)) (by decide) rfl (Nat.le_of_ble_eq_true rfl) ?_
  intro p e s m below meth c A hx hb hr hml hts hown hlocks hin hP hK hN hD hA hS ls hl
  have hown : s.vm.findClass RX8 = some m.cls := hown
  have hl : lv_has ls 5 [(0, .ref h0), (1, .long y0), (3, .int 0)] := hl
  refine lv_aload_n hx hb dX8_feed_0 rfl (lv_at hl 0 rfl) ?_
  refine lv_iconst (v := 0) hx hb dX8_feed_1 (by decide) ?_
  refine va_put (D := D) (ci := 7) (v := .int 0) (ty := .int) (C := RX8) (T := TX8) (N := 30) hx hb hts inX8_feed_X8 tyX8 tyX8_ok nmX8 hown hK hP hD hS 0 rfl rfl 0 (by decide) (hts _ wdX8_feed_0) (fun _ h9 => h9) rfl (by decide +kernel) rfl rfl (Nat.le_of_ble_eq_true rfl) dX8_feed_2 (fun H locs hP hD hS => ?_)
  have hP : va_P D vwCl [(h0, .inr (7, [.int 0, g1, g2, g3, g4, g5, g6, g7, g8, g9, g10, g11, g12, g13, g14, g15, g16, g17, g18, g19, g20, g21, g22, g23, g24, g25, g26, g27, g28, g29]))] H := hP
  have hD : va_D A [(h0, .inr (7, [.int 0, g1, g2, g3, g4, g5, g6, g7, g8, g9, g10, g11, g12, g13, g14, g15, g16, g17, g18, g19, g20, g21, g22, g23, g24, g25, g26, g27, g28, g29]))] := hD
  refine lv_iload_n hx hb dX8_feed_5 rfl (lv_at hl 2 rfl) ?_
  refine lv_iconst (v := 0) hx hb dX8_feed_6 (by decide) ?_
  refine lv_bipush (v := 8) hx hb dX8_feed_7 (by decide) ?_
  refine kc_i (wr := [(h0, .inr (7, [.int 0, g1, g2, g3, g4, g5, g6, g7, g8, g9, g10, g11, g12, g13, g14, g15, g16, g17, g18, g19, g20, g21, g22, g23, g24, g25, g26, g27, g28, g29]))]) (va_runS (As := [.int 0, .int 0, .int 8]) (rest := []) ⟨hx, hb, hml, hown, hts⟩ (K14_X8_in l D cB cI cZ _ ) (va_cwS 3 hts gX8_feed_X8_in rfl rfl rfl (by decide +kernel) ⟨Nat.le_of_ble_eq_true rfl, Nat.le_of_ble_eq_true rfl⟩) (pre_S (hP.sub [] rfl) hK hN (hD.sub [] (by decide) rfl)) rfl rfl hl.1 rfl (lv_room (Nat.le_of_ble_eq_true rfl)) dX8_feed_9 ⟨Nat.le_of_ble_eq_true rfl, Nat.le_of_ble_eq_true rfl⟩) hP hD hS hA [] [0] rfl rfl (by decide) (by decide) (fun r_1 u H locs hw hP hD hS => ?_)
  have k_2 := hw
  obtain rfl : r_1 = 1 := k_2
  have hP : va_P D vwCl [(h0, .inr (7, [.int 0, g1, g2, g3, g4, g5, g6, g7, g8, g9, g10, g11, g12, g13, g14, g15, g16, g17, g18, g19, g20, g21, g22, g23, g24, g25, g26, g27, g28, g29]))] H := hP
  have hD : va_D A [(h0, .inr (7, [.int 0, g1, g2, g3, g4, g5, g6, g7, g8, g9, g10, g11, g12, g13, g14, g15, g16, g17, g18, g19, g20, g21, g22, g23, g24, g25, g26, g27, g28, g29]))] := hD
  refine lv_if_ne (tgt := 18) hx hb dX8_feed_12 (by decide) (fun c => ?_) (fun c => absurd c (by decide))
  refine lv_iload_n hx hb dX8_feed_18 rfl (lv_at hl 2 rfl) ?_
  refine lv_if_ne (tgt := 29) hx hb dX8_feed_19 (by decide) (fun c => absurd (by decide) c) (fun c => ?_)
  refine lv_aload_n hx hb dX8_feed_22 rfl (lv_at hl 0 rfl) ?_
  refine lv_iconst (v := 0) hx hb dX8_feed_23 (by decide) ?_
  refine va_put (D := D) (ci := 7) (v := .int 0) (ty := .int) (C := RX8) (T := TX8) (N := 30) hx hb hts inX8_feed_X8 tyX8 tyX8_ok nmX8 hown hK hP hD hS 0 rfl rfl 23 (by decide) (hts _ wdX8_feed_1) (fun _ h9 => h9) rfl (by decide +kernel) rfl rfl (Nat.le_of_ble_eq_true rfl) dX8_feed_24 (fun H locs hP hD hS => ?_)
  have hP : va_P D vwCl [(h0, .inr (7, [.int 0, g1, g2, g3, g4, g5, g6, g7, g8, g9, g10, g11, g12, g13, g14, g15, g16, g17, g18, g19, g20, g21, g22, .int 0, g24, g25, g26, g27, g28, g29]))] H := hP
  have hD : va_D A [(h0, .inr (7, [.int 0, g1, g2, g3, g4, g5, g6, g7, g8, g9, g10, g11, g12, g13, g14, g15, g16, g17, g18, g19, g20, g21, g22, .int 0, g24, g25, g26, g27, g28, g29]))] := hD
  refine lv_iconst (v := 0) hx hb dX8_feed_27 (by decide) ?_
  exact kr_i () hx hb hr hlocks (hP.sub [] rfl) (hD.sub [] (by decide) rfl) hS rfl dX8_feed_28
set_option maxHeartbeats 4000000 in
set_option maxRecDepth 100000 in
theorem K15_X7_feed (l : Launch) (D : va_G) (cB cI cZ : ClassId) (sz : Nat) (h0 : Nat)  (y0 : Int64) (p0 : Int32) (g0 : Value) (g1 : Value) (g2 : Value) (g3 : Value) (g4 : Value) (g5 : Value) (g6 : Value) (g7 : Value) (g8 : Value) (i_p0 : 9 ≤ p0.toInt) :
    CtI l D cB cI cZ yX7_feed wsX7_feed { frames := 0, cells := 0, slots := 0, locals := 0 } [.ref h0, .long y0, .int p0] [(h0, .inr (6, [g0, g1, g2, g3, g4, g5, g6, g7, g8]))] sz 0 0
      (fun (r : Int32) (u : Unit) => r = (-2))
      (fun u => []) := by
  refine mk_metI (cc := cX7_feed) (maxL := 5) (ret := (some .int)) (by decide) rfl (Nat.le_of_ble_eq_true rfl) ?_
  intro p e s m below meth c A hx hb hr hml hts hown hlocks hin hP hK hN hD hA hS ls hl
  have hown : s.vm.findClass RX7 = some m.cls := hown
  have hl : lv_has ls 5 [(0, .ref h0), (1, .long y0), (3, .int p0)] := hl
  refine lv_iload_n hx hb dX7_feed_0 rfl (lv_at hl 2 rfl) ?_
  refine lv_if_lt (tgt := 10) hx hb dX7_feed_1 (by decide) (fun c => absurd ((ti_lt (x := p0) (y := 0) (a := p0.toInt) (b := 0) rfl (by decide)).mp c) (by omega)) (fun c => ?_)
  refine lv_iload_n hx hb dX7_feed_4 rfl (lv_at hl 2 rfl) ?_
  refine lv_bipush (v := 8) hx hb dX7_feed_5 (by decide) ?_
  refine lv_icmp_le (tgt := 13) hx hb dX7_feed_7 (by decide) (fun c => absurd ((ti_le (x := p0) (y := 8) (a := p0.toInt) (b := 8) rfl (by decide)).mp c) (by omega)) (fun c => ?_)
  refine lv_bipush (v := (-2)) hx hb dX7_feed_10 (by decide) ?_
  exact kr_i () hx hb hr hlocks (hP.sub [] rfl) (hD.sub [] (by decide) rfl) hS rfl dX7_feed_12
set_option maxHeartbeats 4000000 in
set_option maxRecDepth 100000 in
theorem K17_X8_in (l : Launch) (D : va_G) (cB cI cZ : ClassId) (sz : Nat)   (p0 : Int32) (i_p0 : 9 ≤ p0.toInt) :
    CtI l D cB cI cZ yX8_in wsX8_in { frames := 0, cells := 0, slots := 0, locals := 0 } [.int p0, .int 0, .int 8] [] sz 0 0
      (fun (r : Int32) (u : Unit) => r = 0)
      (fun u => []) := by
  refine mk_metI (cc := cX8_in) (maxL := 3) (ret := (some .boolean)) (by decide) rfl (Nat.le_of_ble_eq_true rfl) ?_
  intro p e s m below meth c A hx hb hr hml hts hown hlocks hin hP hK hN hD hA hS ls hl
  have hown : s.vm.findClass RX8 = some m.cls := hown
  have hl : lv_has ls 3 [(0, .int p0), (1, .int 0), (2, .int 8)] := hl
  refine lv_iload_n hx hb dX8_in_0 rfl (lv_at hl 0 rfl) ?_
  refine lv_iload_n hx hb dX8_in_1 rfl (lv_at hl 1 rfl) ?_
  refine lv_icmp_lt (tgt := 14) hx hb dX8_in_2 (by decide) (fun c => absurd ((ti_lt (x := p0) (y := 0) (a := p0.toInt) (b := 0) rfl (by decide)).mp c) (by omega)) (fun c => ?_)
  refine lv_iload_n hx hb dX8_in_5 rfl (lv_at hl 0 rfl) ?_
  refine lv_iload_n hx hb dX8_in_6 rfl (lv_at hl 2 rfl) ?_
  refine lv_icmp_gt (tgt := 14) hx hb dX8_in_7 (by decide) (fun c => ?_) (fun c => absurd ((ti_lt (x := 8) (y := p0) (a := 8) (b := p0.toInt) (by decide) rfl).mpr (by omega)) c)
  refine lv_iconst (v := 0) hx hb dX8_in_14 (by decide) ?_
  exact kr_z () hx hb hr rfl hlocks hP hD hS rfl dX8_in_15
set_option maxHeartbeats 4000000 in
set_option maxRecDepth 100000 in
theorem K16_X8_feed (l : Launch) (D : va_G) (cB cI cZ : ClassId) (sz : Nat) (h0 : Nat)  (y0 : Int64) (p0 : Int32) (g0 : Value) (g1 : Value) (g2 : Value) (g3 : Value) (g4 : Value) (g5 : Value) (g6 : Value) (g7 : Value) (g8 : Value) (g9 : Value) (g10 : Value) (g11 : Value) (g12 : Value) (g13 : Value) (g14 : Value) (g15 : Value) (g16 : Value) (g17 : Value) (g18 : Value) (g19 : Value) (g20 : Value) (g21 : Value) (g22 : Value) (g23 : Value) (g24 : Value) (g25 : Value) (g26 : Value) (g27 : Value) (g28 : Value) (g29 : Value) (i_p0 : 9 ≤ p0.toInt) :
    CtI l D cB cI cZ yX8_feed wsX8_feed { frames := 1, cells := 0, slots := 0, locals := 22 } [.ref h0, .long y0, .int p0] [(h0, .inr (7, [g0, g1, g2, g3, g4, g5, g6, g7, g8, g9, g10, g11, g12, g13, g14, g15, g16, g17, g18, g19, g20, g21, g22, g23, g24, g25, g26, g27, g28, g29]))] sz 0 0
      (fun (r : Int32) (u : Unit) => r = (-2))
      (fun u => []) := by
  refine mk_metI (cc := cX8_feed) (maxL := 5) (ret := (some .int)) (by decide) rfl (Nat.le_of_ble_eq_true rfl) ?_
  intro p e s m below meth c A hx hb hr hml hts hown hlocks hin hP hK hN hD hA hS ls hl
  have hown : s.vm.findClass RX8 = some m.cls := hown
  have hl : lv_has ls 5 [(0, .ref h0), (1, .long y0), (3, .int p0)] := hl
  refine lv_aload_n hx hb dX8_feed_0 rfl (lv_at hl 0 rfl) ?_
  refine lv_iconst (v := 0) hx hb dX8_feed_1 (by decide) ?_
  refine va_put (D := D) (ci := 7) (v := .int 0) (ty := .int) (C := RX8) (T := TX8) (N := 30) hx hb hts inX8_feed_X8 tyX8 tyX8_ok nmX8 hown hK hP hD hS 0 rfl rfl 0 (by decide) (hts _ wdX8_feed_0) (fun _ h9 => h9) rfl (by decide +kernel) rfl rfl (Nat.le_of_ble_eq_true rfl) dX8_feed_2 (fun H locs hP hD hS => ?_)
  have hP : va_P D vwCl [(h0, .inr (7, [.int 0, g1, g2, g3, g4, g5, g6, g7, g8, g9, g10, g11, g12, g13, g14, g15, g16, g17, g18, g19, g20, g21, g22, g23, g24, g25, g26, g27, g28, g29]))] H := hP
  have hD : va_D A [(h0, .inr (7, [.int 0, g1, g2, g3, g4, g5, g6, g7, g8, g9, g10, g11, g12, g13, g14, g15, g16, g17, g18, g19, g20, g21, g22, g23, g24, g25, g26, g27, g28, g29]))] := hD
  refine lv_iload_n hx hb dX8_feed_5 rfl (lv_at hl 2 rfl) ?_
  refine lv_iconst (v := 0) hx hb dX8_feed_6 (by decide) ?_
  refine lv_bipush (v := 8) hx hb dX8_feed_7 (by decide) ?_
  refine kc_i (wr := [(h0, .inr (7, [.int 0, g1, g2, g3, g4, g5, g6, g7, g8, g9, g10, g11, g12, g13, g14, g15, g16, g17, g18, g19, g20, g21, g22, g23, g24, g25, g26, g27, g28, g29]))]) (va_runS (As := [.int p0, .int 0, .int 8]) (rest := []) ⟨hx, hb, hml, hown, hts⟩ (K17_X8_in l D cB cI cZ _ p0 (by omega)) (va_cwS 3 hts gX8_feed_X8_in rfl rfl rfl (by decide +kernel) ⟨Nat.le_of_ble_eq_true rfl, Nat.le_of_ble_eq_true rfl⟩) (pre_S (hP.sub [] rfl) hK hN (hD.sub [] (by decide) rfl)) rfl rfl hl.1 rfl (lv_room (Nat.le_of_ble_eq_true rfl)) dX8_feed_9 ⟨Nat.le_of_ble_eq_true rfl, Nat.le_of_ble_eq_true rfl⟩) hP hD hS hA [] [0] rfl rfl (by decide) (by decide) (fun r_1 u H locs hw hP hD hS => ?_)
  have k_2 := hw
  obtain rfl : r_1 = 0 := k_2
  have hP : va_P D vwCl [(h0, .inr (7, [.int 0, g1, g2, g3, g4, g5, g6, g7, g8, g9, g10, g11, g12, g13, g14, g15, g16, g17, g18, g19, g20, g21, g22, g23, g24, g25, g26, g27, g28, g29]))] H := hP
  have hD : va_D A [(h0, .inr (7, [.int 0, g1, g2, g3, g4, g5, g6, g7, g8, g9, g10, g11, g12, g13, g14, g15, g16, g17, g18, g19, g20, g21, g22, g23, g24, g25, g26, g27, g28, g29]))] := hD
  refine lv_if_ne (tgt := 18) hx hb dX8_feed_12 (by decide) (fun c => absurd (by decide) c) (fun c => ?_)
  refine lv_bipush (v := (-2)) hx hb dX8_feed_15 (by decide) ?_
  exact kr_i () hx hb hr hlocks (hP.sub [] rfl) (hD.sub [] (by decide) rfl) hS rfl dX8_feed_17
set_option maxHeartbeats 4000000 in
set_option maxRecDepth 100000 in
theorem K18_X7_feed (l : Launch) (D : va_G) (cB cI cZ : ClassId) (sz : Nat) (h0 : Nat) (h1 : Nat)  (y0 : Int64) (g0 : Value) (g1 : Value) (g2 : Value) (g3 : Value) (g4 : Value) (g5 : Value) (g6 : Value)  :
    CtI l D cB cI cZ yX7_feed wsX7_feed { frames := 0, cells := 0, slots := 0, locals := 0 } [.ref h0, .long y0, .int 1] [(h0, .inr (6, [g0, g1, g2, g3, g4, g5, .ref h1, .int 0, g6])), (h1, .inl (cB, 100, .inl zf))] sz 0 0
      (fun (r : Int32) (u : Unit) => r = 1)
      (fun u => []) := by
  refine mk_metI (cc := cX7_feed) (maxL := 5) (ret := (some .int)) (by decide) rfl (Nat.le_of_ble_eq_true rfl) ?_
  intro p e s m below meth c A hx hb hr hml hts hown hlocks hin hP hK hN hD hA hS ls hl
  have hown : s.vm.findClass RX7 = some m.cls := hown
  have hl : lv_has ls 5 [(0, .ref h0), (1, .long y0), (3, .int 1)] := hl
  refine lv_iload_n hx hb dX7_feed_0 rfl (lv_at hl 2 rfl) ?_
  refine lv_if_lt (tgt := 10) hx hb dX7_feed_1 (by decide) (fun c => absurd c (by decide)) (fun c => ?_)
  refine lv_iload_n hx hb dX7_feed_4 rfl (lv_at hl 2 rfl) ?_
  refine lv_bipush (v := 8) hx hb dX7_feed_5 (by decide) ?_
  refine lv_icmp_le (tgt := 13) hx hb dX7_feed_7 (by decide) (fun c => ?_) (fun c => absurd (by decide) c)
  refine lv_iload_n hx hb dX7_feed_13 rfl (lv_at hl 2 rfl) ?_
  refine lv_if_ne (tgt := 24) hx hb dX7_feed_14 (by decide) (fun c => ?_) (fun c => absurd c (by decide))
  refine lv_aload_n hx hb dX7_feed_24 rfl (lv_at hl 0 rfl) ?_
  refine va_get (D := D) (ci := 6) (v := .int 0) (C := RX7) (T := TX7) (N := 9) hx hb hts inX7_feed_X7 hown hK hP 0 rfl rfl 7 (by decide) (hts _ wdX7_feed_0) (fun _ h9 => h9) rfl dX7_feed_25 ?_
  refine lv_iload_n hx hb dX7_feed_28 rfl (lv_at hl 2 rfl) ?_
  refine lv_iadd hx hb dX7_feed_29 ?_
  refine lv_topi (fun z_1 ez_1 => ?_)
  obtain rfl : z_1 = 1 := ez_1.trans (by decide)
  refine lv_bipush (v := 100) hx hb dX7_feed_30 (by decide) ?_
  refine lv_icmp_le (tgt := 38) hx hb dX7_feed_32 (by decide) (fun c => ?_) (fun c => absurd (by decide) c)
  refine lv_iload_n hx hb dX7_feed_38 rfl (lv_at hl 2 rfl) ?_
  refine lv_iconst (v := 1) hx hb dX7_feed_39 (by decide) ?_
  refine lv_isub hx hb dX7_feed_40 ?_
  refine lv_topi (fun z_2 ez_2 => ?_)
  obtain rfl : z_2 = 0 := ez_2.trans (by decide)
  refine lv_istore (lv' := [(4, .int 0), (0, .ref h0), (1, .long y0), (3, .int 1)]) hx hb dX7_feed_41 hl (by decide) rfl (fun ls hl => ?_)
  refine lv_iload hx hb dX7_feed_43 (lv_at hl 0 rfl) ?_
  refine lv_if_lt (tgt := 82) hx hb dX7_feed_45 (by decide) (fun c => absurd c (by decide)) (fun c => ?_)
  refine lv_aload_n hx hb dX7_feed_48 rfl (lv_at hl 1 rfl) ?_
  refine va_get (D := D) (ci := 6) (v := .ref h1) (C := RX7) (T := TX7) (N := 9) hx hb hts inX7_feed_X7 hown hK hP 0 rfl rfl 6 (by decide) (hts _ wdX7_feed_1) (fun _ h9 => h9) rfl dX7_feed_49 ?_
  refine lv_aload_n hx hb dX7_feed_52 rfl (lv_at hl 1 rfl) ?_
  refine va_get (D := D) (ci := 6) (v := .int 0) (C := RX7) (T := TX7) (N := 9) hx hb hts inX7_feed_X7 hown hK hP 0 rfl rfl 7 (by decide) (hts _ wdX7_feed_0) (fun _ h9 => h9) rfl dX7_feed_53 ?_
  refine lv_lload_n hx hb dX7_feed_56 rfl (lv_at hl 2 rfl) ?_
  refine lv_bipush (v := 8) hx hb dX7_feed_57 (by decide) ?_
  refine lv_iload hx hb dX7_feed_59 (lv_at hl 0 rfl) ?_
  refine lv_imul hx hb dX7_feed_61 ?_
  refine lv_topi (fun z_3 ez_3 => ?_)
  obtain rfl : z_3 = 0 := ez_3.trans (by decide)
  refine lv_lushr hx hb dX7_feed_62 rfl ?_
  refine lv_topl (fun y_4 _ => ?_)
  refine lv_l2i hx hb dX7_feed_63 rfl ?_
  refine lv_topi (fun x_5 ex_5 => ?_)
  refine lv_i2b hx hb dX7_feed_64 rfl ?_
  refine lv_topi (fun x_6 ex_6 => ?_)
  refine va_bast hx hb hK hP hD hS 1 0 rfl rfl (ti_in (a := 0) (by decide) (by decide) (by decide)) dX7_feed_65 (fun H locs hP hD hS => ?_)
  obtain ⟨f_7, ef_7⟩ : ∃ g : Nat → Int32, g = upd zf (Int32.toNatClampNeg 0) (vp_nar .byte x_6) := ⟨_, rfl⟩
  rw [← ef_7] at hP hD
  have bf_7 : FB f_7 := by rw [ef_7]; exact FB_upd FB_zf _ _
  have hP : va_P D vwCl [(h0, .inr (6, [g0, g1, g2, g3, g4, g5, .ref h1, .int 0, g6])), (h1, .inl (cB, 100, .inl f_7))] H := hP
  have hD : va_D A [(h0, .inr (6, [g0, g1, g2, g3, g4, g5, .ref h1, .int 0, g6])), (h1, .inl (cB, 100, .inl f_7))] := hD
  refine lv_aload_n hx hb dX7_feed_66 rfl (lv_at hl 1 rfl) ?_
  refine lv_dup hx hb dX7_feed_67 rfl ?_
  refine va_get (D := D) (ci := 6) (v := .int 0) (C := RX7) (T := TX7) (N := 9) hx hb hts inX7_feed_X7 hown hK hP 0 rfl rfl 7 (by decide) (hts _ wdX7_feed_0) (fun _ h9 => h9) rfl dX7_feed_68 ?_
  refine lv_iconst (v := 1) hx hb dX7_feed_71 (by decide) ?_
  refine lv_iadd hx hb dX7_feed_72 ?_
  refine lv_topi (fun z_8 ez_8 => ?_)
  obtain rfl : z_8 = 1 := ez_8.trans (by decide)
  refine va_put (D := D) (ci := 6) (v := .int 1) (ty := .int) (C := RX7) (T := TX7) (N := 9) hx hb hts inX7_feed_X7 tyX7 tyX7_ok nmX7 hown hK hP hD hS 0 rfl rfl 7 (by decide) (hts _ wdX7_feed_0) (fun _ h9 => h9) rfl (by decide +kernel) rfl rfl (Nat.le_of_ble_eq_true rfl) dX7_feed_73 (fun H locs hP hD hS => ?_)
  have hP : va_P D vwCl [(h0, .inr (6, [g0, g1, g2, g3, g4, g5, .ref h1, .int 1, g6])), (h1, .inl (cB, 100, .inl f_7))] H := hP
  have hD : va_D A [(h0, .inr (6, [g0, g1, g2, g3, g4, g5, .ref h1, .int 1, g6])), (h1, .inl (cB, 100, .inl f_7))] := hD
  refine lv_iinc (v := (-1)) (lv' := [(4, .int (-1)), (0, .ref h0), (1, .long y0), (3, .int 1)]) hx hb dX7_feed_76 hl (k := 0) rfl (by decide) (by decide) rfl (fun ls hl => ?_)
  refine lv_goto (tgt := 43) hx hb dX7_feed_79 (by decide) ?_
  refine lv_iload hx hb dX7_feed_43 (lv_at hl 0 rfl) ?_
  refine lv_if_lt (tgt := 82) hx hb dX7_feed_45 (by decide) (fun c => ?_) (fun c => absurd (by decide) c)
  refine lv_aload_n hx hb dX7_feed_82 rfl (lv_at hl 1 rfl) ?_
  refine va_get (D := D) (ci := 6) (v := .int 1) (C := RX7) (T := TX7) (N := 9) hx hb hts inX7_feed_X7 hown hK hP 0 rfl rfl 7 (by decide) (hts _ wdX7_feed_0) (fun _ h9 => h9) rfl dX7_feed_83 ?_
  exact kr_i () hx hb hr hlocks (hP.sub [] rfl) (hD.sub [] (by decide) rfl) hS rfl dX7_feed_86
set_option maxHeartbeats 4000000 in
set_option maxRecDepth 100000 in
theorem K20_X8_in (l : Launch) (D : va_G) (cB cI cZ : ClassId) (sz : Nat)     :
    CtI l D cB cI cZ yX8_in wsX8_in { frames := 0, cells := 0, slots := 0, locals := 0 } [.int 1, .int 0, .int 8] [] sz 0 0
      (fun (r : Int32) (u : Unit) => r = 1)
      (fun u => []) := by
  refine mk_metI (cc := cX8_in) (maxL := 3) (ret := (some .boolean)) (by decide) rfl (Nat.le_of_ble_eq_true rfl) ?_
  intro p e s m below meth c A hx hb hr hml hts hown hlocks hin hP hK hN hD hA hS ls hl
  have hown : s.vm.findClass RX8 = some m.cls := hown
  have hl : lv_has ls 3 [(0, .int 1), (1, .int 0), (2, .int 8)] := hl
  refine lv_iload_n hx hb dX8_in_0 rfl (lv_at hl 0 rfl) ?_
  refine lv_iload_n hx hb dX8_in_1 rfl (lv_at hl 1 rfl) ?_
  refine lv_icmp_lt (tgt := 14) hx hb dX8_in_2 (by decide) (fun c => absurd c (by decide)) (fun c => ?_)
  refine lv_iload_n hx hb dX8_in_5 rfl (lv_at hl 0 rfl) ?_
  refine lv_iload_n hx hb dX8_in_6 rfl (lv_at hl 2 rfl) ?_
  refine lv_icmp_gt (tgt := 14) hx hb dX8_in_7 (by decide) (fun c => absurd c (by decide)) (fun c => ?_)
  refine lv_iconst (v := 1) hx hb dX8_in_10 (by decide) ?_
  refine lv_goto (tgt := 15) hx hb dX8_in_11 (by decide) ?_
  exact kr_z () hx hb hr rfl hlocks hP hD hS rfl dX8_in_15
set_option maxHeartbeats 4000000 in
set_option maxRecDepth 100000 in
theorem K19_X8_feed (l : Launch) (D : va_G) (cB cI cZ : ClassId) (sz : Nat) (h0 : Nat) (h1 : Nat)  (y0 : Int64) (g0 : Value) (g1 : Value) (g2 : Value) (g3 : Value) (g4 : Value) (g5 : Value) (g6 : Value) (g7 : Value) (g8 : Value) (g9 : Value) (g10 : Value) (g11 : Value) (g12 : Value) (g13 : Value) (g14 : Value) (g15 : Value) (g16 : Value) (g17 : Value) (g18 : Value) (g19 : Value) (g20 : Value) (g21 : Value) (g22 : Value) (g23 : Value) (g24 : Value) (g25 : Value) (g26 : Value) (g27 : Value)  :
    CtI l D cB cI cZ yX8_feed wsX8_feed { frames := 1, cells := 0, slots := 0, locals := 22 } [.ref h0, .long y0, .int 1] [(h0, .inr (7, [g0, g1, g2, g3, g4, g5, g6, g7, g8, g9, g10, g11, g12, g13, g14, g15, g16, g17, g18, g19, g20, g21, .ref h1, .int 0, g22, g23, g24, g25, g26, g27])), (h1, .inl (cB, 100, .inl zf))] sz 0 0
      (fun (r : Int32) (u : Unit) => r = 1)
      (fun u => []) := by
  refine mk_metI (cc := cX8_feed) (maxL := 5) (ret := (some .int)) (by decide) rfl (Nat.le_of_ble_eq_true rfl) ?_
  intro p e s m below meth c A hx hb hr hml hts hown hlocks hin hP hK hN hD hA hS ls hl
  have hown : s.vm.findClass RX8 = some m.cls := hown
  have hl : lv_has ls 5 [(0, .ref h0), (1, .long y0), (3, .int 1)] := hl
  refine lv_aload_n hx hb dX8_feed_0 rfl (lv_at hl 0 rfl) ?_
  refine lv_iconst (v := 0) hx hb dX8_feed_1 (by decide) ?_
  refine va_put (D := D) (ci := 7) (v := .int 0) (ty := .int) (C := RX8) (T := TX8) (N := 30) hx hb hts inX8_feed_X8 tyX8 tyX8_ok nmX8 hown hK hP hD hS 0 rfl rfl 0 (by decide) (hts _ wdX8_feed_0) (fun _ h9 => h9) rfl (by decide +kernel) rfl rfl (Nat.le_of_ble_eq_true rfl) dX8_feed_2 (fun H locs hP hD hS => ?_)
  have hP : va_P D vwCl [(h0, .inr (7, [.int 0, g1, g2, g3, g4, g5, g6, g7, g8, g9, g10, g11, g12, g13, g14, g15, g16, g17, g18, g19, g20, g21, .ref h1, .int 0, g22, g23, g24, g25, g26, g27])), (h1, .inl (cB, 100, .inl zf))] H := hP
  have hD : va_D A [(h0, .inr (7, [.int 0, g1, g2, g3, g4, g5, g6, g7, g8, g9, g10, g11, g12, g13, g14, g15, g16, g17, g18, g19, g20, g21, .ref h1, .int 0, g22, g23, g24, g25, g26, g27])), (h1, .inl (cB, 100, .inl zf))] := hD
  refine lv_iload_n hx hb dX8_feed_5 rfl (lv_at hl 2 rfl) ?_
  refine lv_iconst (v := 0) hx hb dX8_feed_6 (by decide) ?_
  refine lv_bipush (v := 8) hx hb dX8_feed_7 (by decide) ?_
  refine kc_i (wr := [(h0, .inr (7, [.int 0, g1, g2, g3, g4, g5, g6, g7, g8, g9, g10, g11, g12, g13, g14, g15, g16, g17, g18, g19, g20, g21, .ref h1, .int 0, g22, g23, g24, g25, g26, g27])), (h1, .inl (cB, 100, .inl zf))]) (va_runS (As := [.int 1, .int 0, .int 8]) (rest := []) ⟨hx, hb, hml, hown, hts⟩ (K20_X8_in l D cB cI cZ _ ) (va_cwS 3 hts gX8_feed_X8_in rfl rfl rfl (by decide +kernel) ⟨Nat.le_of_ble_eq_true rfl, Nat.le_of_ble_eq_true rfl⟩) (pre_S (hP.sub [] rfl) hK hN (hD.sub [] (by decide) rfl)) rfl rfl hl.1 rfl (lv_room (Nat.le_of_ble_eq_true rfl)) dX8_feed_9 ⟨Nat.le_of_ble_eq_true rfl, Nat.le_of_ble_eq_true rfl⟩) hP hD hS hA [] [0, 1] rfl rfl (by decide) (by decide) (fun r_1 u H locs hw hP hD hS => ?_)
  have k_2 := hw
  obtain rfl : r_1 = 1 := k_2
  have hP : va_P D vwCl [(h0, .inr (7, [.int 0, g1, g2, g3, g4, g5, g6, g7, g8, g9, g10, g11, g12, g13, g14, g15, g16, g17, g18, g19, g20, g21, .ref h1, .int 0, g22, g23, g24, g25, g26, g27])), (h1, .inl (cB, 100, .inl zf))] H := hP
  have hD : va_D A [(h0, .inr (7, [.int 0, g1, g2, g3, g4, g5, g6, g7, g8, g9, g10, g11, g12, g13, g14, g15, g16, g17, g18, g19, g20, g21, .ref h1, .int 0, g22, g23, g24, g25, g26, g27])), (h1, .inl (cB, 100, .inl zf))] := hD
  refine lv_if_ne (tgt := 18) hx hb dX8_feed_12 (by decide) (fun c => ?_) (fun c => absurd c (by decide))
  refine lv_iload_n hx hb dX8_feed_18 rfl (lv_at hl 2 rfl) ?_
  refine lv_if_ne (tgt := 29) hx hb dX8_feed_19 (by decide) (fun c => ?_) (fun c => absurd c (by decide))
  refine lv_aload_n hx hb dX8_feed_29 rfl (lv_at hl 0 rfl) ?_
  refine va_get (D := D) (ci := 7) (v := .int 0) (C := RX8) (T := TX8) (N := 30) hx hb hts inX8_feed_X8 hown hK hP 0 rfl rfl 23 (by decide) (hts _ wdX8_feed_1) (fun _ h9 => h9) rfl dX8_feed_30 ?_
  refine lv_iload_n hx hb dX8_feed_33 rfl (lv_at hl 2 rfl) ?_
  refine lv_iadd hx hb dX8_feed_34 ?_
  refine lv_topi (fun z_3 ez_3 => ?_)
  obtain rfl : z_3 = 1 := ez_3.trans (by decide)
  refine lv_bipush (v := 100) hx hb dX8_feed_35 (by decide) ?_
  refine lv_icmp_le (tgt := 43) hx hb dX8_feed_37 (by decide) (fun c => ?_) (fun c => absurd (by decide) c)
  refine lv_iload_n hx hb dX8_feed_43 rfl (lv_at hl 2 rfl) ?_
  refine lv_iconst (v := 1) hx hb dX8_feed_44 (by decide) ?_
  refine lv_isub hx hb dX8_feed_45 ?_
  refine lv_topi (fun z_4 ez_4 => ?_)
  obtain rfl : z_4 = 0 := ez_4.trans (by decide)
  refine lv_istore (lv' := [(4, .int 0), (0, .ref h0), (1, .long y0), (3, .int 1)]) hx hb dX8_feed_46 hl (by decide) rfl (fun ls hl => ?_)
  refine lv_iload hx hb dX8_feed_48 (lv_at hl 0 rfl) ?_
  refine lv_if_lt (tgt := 87) hx hb dX8_feed_50 (by decide) (fun c => absurd c (by decide)) (fun c => ?_)
  refine lv_aload_n hx hb dX8_feed_53 rfl (lv_at hl 1 rfl) ?_
  refine va_get (D := D) (ci := 7) (v := .ref h1) (C := RX8) (T := TX8) (N := 30) hx hb hts inX8_feed_X8 hown hK hP 0 rfl rfl 22 (by decide) (hts _ wdX8_feed_2) (fun _ h9 => h9) rfl dX8_feed_54 ?_
  refine lv_aload_n hx hb dX8_feed_57 rfl (lv_at hl 1 rfl) ?_
  refine va_get (D := D) (ci := 7) (v := .int 0) (C := RX8) (T := TX8) (N := 30) hx hb hts inX8_feed_X8 hown hK hP 0 rfl rfl 23 (by decide) (hts _ wdX8_feed_1) (fun _ h9 => h9) rfl dX8_feed_58 ?_
  refine lv_lload_n hx hb dX8_feed_61 rfl (lv_at hl 2 rfl) ?_
  refine lv_bipush (v := 8) hx hb dX8_feed_62 (by decide) ?_
  refine lv_iload hx hb dX8_feed_64 (lv_at hl 0 rfl) ?_
  refine lv_imul hx hb dX8_feed_66 ?_
  refine lv_topi (fun z_5 ez_5 => ?_)
  obtain rfl : z_5 = 0 := ez_5.trans (by decide)
  refine lv_lshr hx hb dX8_feed_67 rfl ?_
  refine lv_topl (fun y_6 _ => ?_)
  refine lv_l2i hx hb dX8_feed_68 rfl ?_
  refine lv_topi (fun x_7 ex_7 => ?_)
  refine lv_i2b hx hb dX8_feed_69 rfl ?_
  refine lv_topi (fun x_8 ex_8 => ?_)
  refine va_bast hx hb hK hP hD hS 1 0 rfl rfl (ti_in (a := 0) (by decide) (by decide) (by decide)) dX8_feed_70 (fun H locs hP hD hS => ?_)
  obtain ⟨f_9, ef_9⟩ : ∃ g : Nat → Int32, g = upd zf (Int32.toNatClampNeg 0) (vp_nar .byte x_8) := ⟨_, rfl⟩
  rw [← ef_9] at hP hD
  have bf_9 : FB f_9 := by rw [ef_9]; exact FB_upd FB_zf _ _
  have hP : va_P D vwCl [(h0, .inr (7, [.int 0, g1, g2, g3, g4, g5, g6, g7, g8, g9, g10, g11, g12, g13, g14, g15, g16, g17, g18, g19, g20, g21, .ref h1, .int 0, g22, g23, g24, g25, g26, g27])), (h1, .inl (cB, 100, .inl f_9))] H := hP
  have hD : va_D A [(h0, .inr (7, [.int 0, g1, g2, g3, g4, g5, g6, g7, g8, g9, g10, g11, g12, g13, g14, g15, g16, g17, g18, g19, g20, g21, .ref h1, .int 0, g22, g23, g24, g25, g26, g27])), (h1, .inl (cB, 100, .inl f_9))] := hD
  refine lv_aload_n hx hb dX8_feed_71 rfl (lv_at hl 1 rfl) ?_
  refine lv_dup hx hb dX8_feed_72 rfl ?_
  refine va_get (D := D) (ci := 7) (v := .int 0) (C := RX8) (T := TX8) (N := 30) hx hb hts inX8_feed_X8 hown hK hP 0 rfl rfl 23 (by decide) (hts _ wdX8_feed_1) (fun _ h9 => h9) rfl dX8_feed_73 ?_
  refine lv_iconst (v := 1) hx hb dX8_feed_76 (by decide) ?_
  refine lv_iadd hx hb dX8_feed_77 ?_
  refine lv_topi (fun z_10 ez_10 => ?_)
  obtain rfl : z_10 = 1 := ez_10.trans (by decide)
  refine va_put (D := D) (ci := 7) (v := .int 1) (ty := .int) (C := RX8) (T := TX8) (N := 30) hx hb hts inX8_feed_X8 tyX8 tyX8_ok nmX8 hown hK hP hD hS 0 rfl rfl 23 (by decide) (hts _ wdX8_feed_1) (fun _ h9 => h9) rfl (by decide +kernel) rfl rfl (Nat.le_of_ble_eq_true rfl) dX8_feed_78 (fun H locs hP hD hS => ?_)
  have hP : va_P D vwCl [(h0, .inr (7, [.int 0, g1, g2, g3, g4, g5, g6, g7, g8, g9, g10, g11, g12, g13, g14, g15, g16, g17, g18, g19, g20, g21, .ref h1, .int 1, g22, g23, g24, g25, g26, g27])), (h1, .inl (cB, 100, .inl f_9))] H := hP
  have hD : va_D A [(h0, .inr (7, [.int 0, g1, g2, g3, g4, g5, g6, g7, g8, g9, g10, g11, g12, g13, g14, g15, g16, g17, g18, g19, g20, g21, .ref h1, .int 1, g22, g23, g24, g25, g26, g27])), (h1, .inl (cB, 100, .inl f_9))] := hD
  refine lv_iinc (v := (-1)) (lv' := [(4, .int (-1)), (0, .ref h0), (1, .long y0), (3, .int 1)]) hx hb dX8_feed_81 hl (k := 0) rfl (by decide) (by decide) rfl (fun ls hl => ?_)
  refine lv_goto (tgt := 48) hx hb dX8_feed_84 (by decide) ?_
  refine lv_iload hx hb dX8_feed_48 (lv_at hl 0 rfl) ?_
  refine lv_if_lt (tgt := 87) hx hb dX8_feed_50 (by decide) (fun c => ?_) (fun c => absurd (by decide) c)
  refine lv_aload_n hx hb dX8_feed_87 rfl (lv_at hl 1 rfl) ?_
  refine va_get (D := D) (ci := 7) (v := .int 1) (C := RX8) (T := TX8) (N := 30) hx hb hts inX8_feed_X8 hown hK hP 0 rfl rfl 23 (by decide) (hts _ wdX8_feed_1) (fun _ h9 => h9) rfl dX8_feed_88 ?_
  exact kr_i () hx hb hr hlocks (hP.sub [] rfl) (hD.sub [] (by decide) rfl) hS rfl dX8_feed_91
set_option maxHeartbeats 4000000 in
set_option maxRecDepth 100000 in
theorem K21_X7_feed (l : Launch) (D : va_G) (cB cI cZ : ClassId) (sz : Nat) (h0 : Nat) (h1 : Nat)  (y0 : Int64) (g0 : Value) (g1 : Value) (g2 : Value) (g3 : Value) (g4 : Value) (g5 : Value) (g6 : Value)  :
    CtI l D cB cI cZ yX7_feed wsX7_feed { frames := 0, cells := 0, slots := 0, locals := 0 } [.ref h0, .long y0, .int 2] [(h0, .inr (6, [g0, g1, g2, g3, g4, g5, .ref h1, .int 0, g6])), (h1, .inl (cB, 100, .inl zf))] sz 0 0
      (fun (r : Int32) (u : Unit) => r = 2)
      (fun u => []) := by
  refine mk_metI (cc := cX7_feed) (maxL := 5) (ret := (some .int)) (by decide) rfl (Nat.le_of_ble_eq_true rfl) ?_
  intro p e s m below meth c A hx hb hr hml hts hown hlocks hin hP hK hN hD hA hS ls hl
  have hown : s.vm.findClass RX7 = some m.cls := hown
  have hl : lv_has ls 5 [(0, .ref h0), (1, .long y0), (3, .int 2)] := hl
  refine lv_iload_n hx hb dX7_feed_0 rfl (lv_at hl 2 rfl) ?_
  refine lv_if_lt (tgt := 10) hx hb dX7_feed_1 (by decide) (fun c => absurd c (by decide)) (fun c => ?_)
  refine lv_iload_n hx hb dX7_feed_4 rfl (lv_at hl 2 rfl) ?_
  refine lv_bipush (v := 8) hx hb dX7_feed_5 (by decide) ?_
  refine lv_icmp_le (tgt := 13) hx hb dX7_feed_7 (by decide) (fun c => ?_) (fun c => absurd (by decide) c)
  refine lv_iload_n hx hb dX7_feed_13 rfl (lv_at hl 2 rfl) ?_
  refine lv_if_ne (tgt := 24) hx hb dX7_feed_14 (by decide) (fun c => ?_) (fun c => absurd c (by decide))
  refine lv_aload_n hx hb dX7_feed_24 rfl (lv_at hl 0 rfl) ?_
  refine va_get (D := D) (ci := 6) (v := .int 0) (C := RX7) (T := TX7) (N := 9) hx hb hts inX7_feed_X7 hown hK hP 0 rfl rfl 7 (by decide) (hts _ wdX7_feed_0) (fun _ h9 => h9) rfl dX7_feed_25 ?_
  refine lv_iload_n hx hb dX7_feed_28 rfl (lv_at hl 2 rfl) ?_
  refine lv_iadd hx hb dX7_feed_29 ?_
  refine lv_topi (fun z_1 ez_1 => ?_)
  obtain rfl : z_1 = 2 := ez_1.trans (by decide)
  refine lv_bipush (v := 100) hx hb dX7_feed_30 (by decide) ?_
  refine lv_icmp_le (tgt := 38) hx hb dX7_feed_32 (by decide) (fun c => ?_) (fun c => absurd (by decide) c)
  refine lv_iload_n hx hb dX7_feed_38 rfl (lv_at hl 2 rfl) ?_
  refine lv_iconst (v := 1) hx hb dX7_feed_39 (by decide) ?_
  refine lv_isub hx hb dX7_feed_40 ?_
  refine lv_topi (fun z_2 ez_2 => ?_)
  obtain rfl : z_2 = 1 := ez_2.trans (by decide)
  refine lv_istore (lv' := [(4, .int 1), (0, .ref h0), (1, .long y0), (3, .int 2)]) hx hb dX7_feed_41 hl (by decide) rfl (fun ls hl => ?_)
  refine lv_iload hx hb dX7_feed_43 (lv_at hl 0 rfl) ?_
  refine lv_if_lt (tgt := 82) hx hb dX7_feed_45 (by decide) (fun c => absurd c (by decide)) (fun c => ?_)
  refine lv_aload_n hx hb dX7_feed_48 rfl (lv_at hl 1 rfl) ?_
  refine va_get (D := D) (ci := 6) (v := .ref h1) (C := RX7) (T := TX7) (N := 9) hx hb hts inX7_feed_X7 hown hK hP 0 rfl rfl 6 (by decide) (hts _ wdX7_feed_1) (fun _ h9 => h9) rfl dX7_feed_49 ?_
  refine lv_aload_n hx hb dX7_feed_52 rfl (lv_at hl 1 rfl) ?_
  refine va_get (D := D) (ci := 6) (v := .int 0) (C := RX7) (T := TX7) (N := 9) hx hb hts inX7_feed_X7 hown hK hP 0 rfl rfl 7 (by decide) (hts _ wdX7_feed_0) (fun _ h9 => h9) rfl dX7_feed_53 ?_
  refine lv_lload_n hx hb dX7_feed_56 rfl (lv_at hl 2 rfl) ?_
  refine lv_bipush (v := 8) hx hb dX7_feed_57 (by decide) ?_
  refine lv_iload hx hb dX7_feed_59 (lv_at hl 0 rfl) ?_
  refine lv_imul hx hb dX7_feed_61 ?_
  refine lv_topi (fun z_3 ez_3 => ?_)
  obtain rfl : z_3 = 8 := ez_3.trans (by decide)
  refine lv_lushr hx hb dX7_feed_62 rfl ?_
  refine lv_topl (fun y_4 _ => ?_)
  refine lv_l2i hx hb dX7_feed_63 rfl ?_
  refine lv_topi (fun x_5 ex_5 => ?_)
  refine lv_i2b hx hb dX7_feed_64 rfl ?_
  refine lv_topi (fun x_6 ex_6 => ?_)
  refine va_bast hx hb hK hP hD hS 1 0 rfl rfl (ti_in (a := 0) (by decide) (by decide) (by decide)) dX7_feed_65 (fun H locs hP hD hS => ?_)
  obtain ⟨f_7, ef_7⟩ : ∃ g : Nat → Int32, g = upd zf (Int32.toNatClampNeg 0) (vp_nar .byte x_6) := ⟨_, rfl⟩
  rw [← ef_7] at hP hD
  have bf_7 : FB f_7 := by rw [ef_7]; exact FB_upd FB_zf _ _
  have hP : va_P D vwCl [(h0, .inr (6, [g0, g1, g2, g3, g4, g5, .ref h1, .int 0, g6])), (h1, .inl (cB, 100, .inl f_7))] H := hP
  have hD : va_D A [(h0, .inr (6, [g0, g1, g2, g3, g4, g5, .ref h1, .int 0, g6])), (h1, .inl (cB, 100, .inl f_7))] := hD
  refine lv_aload_n hx hb dX7_feed_66 rfl (lv_at hl 1 rfl) ?_
  refine lv_dup hx hb dX7_feed_67 rfl ?_
  refine va_get (D := D) (ci := 6) (v := .int 0) (C := RX7) (T := TX7) (N := 9) hx hb hts inX7_feed_X7 hown hK hP 0 rfl rfl 7 (by decide) (hts _ wdX7_feed_0) (fun _ h9 => h9) rfl dX7_feed_68 ?_
  refine lv_iconst (v := 1) hx hb dX7_feed_71 (by decide) ?_
  refine lv_iadd hx hb dX7_feed_72 ?_
  refine lv_topi (fun z_8 ez_8 => ?_)
  obtain rfl : z_8 = 1 := ez_8.trans (by decide)
  refine va_put (D := D) (ci := 6) (v := .int 1) (ty := .int) (C := RX7) (T := TX7) (N := 9) hx hb hts inX7_feed_X7 tyX7 tyX7_ok nmX7 hown hK hP hD hS 0 rfl rfl 7 (by decide) (hts _ wdX7_feed_0) (fun _ h9 => h9) rfl (by decide +kernel) rfl rfl (Nat.le_of_ble_eq_true rfl) dX7_feed_73 (fun H locs hP hD hS => ?_)
  have hP : va_P D vwCl [(h0, .inr (6, [g0, g1, g2, g3, g4, g5, .ref h1, .int 1, g6])), (h1, .inl (cB, 100, .inl f_7))] H := hP
  have hD : va_D A [(h0, .inr (6, [g0, g1, g2, g3, g4, g5, .ref h1, .int 1, g6])), (h1, .inl (cB, 100, .inl f_7))] := hD
  refine lv_iinc (v := 0) (lv' := [(4, .int 0), (0, .ref h0), (1, .long y0), (3, .int 2)]) hx hb dX7_feed_76 hl (k := 0) rfl (by decide) (by decide) rfl (fun ls hl => ?_)
  refine lv_goto (tgt := 43) hx hb dX7_feed_79 (by decide) ?_
  refine lv_iload hx hb dX7_feed_43 (lv_at hl 0 rfl) ?_
  refine lv_if_lt (tgt := 82) hx hb dX7_feed_45 (by decide) (fun c => absurd c (by decide)) (fun c => ?_)
  refine lv_aload_n hx hb dX7_feed_48 rfl (lv_at hl 1 rfl) ?_
  refine va_get (D := D) (ci := 6) (v := .ref h1) (C := RX7) (T := TX7) (N := 9) hx hb hts inX7_feed_X7 hown hK hP 0 rfl rfl 6 (by decide) (hts _ wdX7_feed_1) (fun _ h9 => h9) rfl dX7_feed_49 ?_
  refine lv_aload_n hx hb dX7_feed_52 rfl (lv_at hl 1 rfl) ?_
  refine va_get (D := D) (ci := 6) (v := .int 1) (C := RX7) (T := TX7) (N := 9) hx hb hts inX7_feed_X7 hown hK hP 0 rfl rfl 7 (by decide) (hts _ wdX7_feed_0) (fun _ h9 => h9) rfl dX7_feed_53 ?_
  refine lv_lload_n hx hb dX7_feed_56 rfl (lv_at hl 2 rfl) ?_
  refine lv_bipush (v := 8) hx hb dX7_feed_57 (by decide) ?_
  refine lv_iload hx hb dX7_feed_59 (lv_at hl 0 rfl) ?_
  refine lv_imul hx hb dX7_feed_61 ?_
  refine lv_topi (fun z_9 ez_9 => ?_)
  obtain rfl : z_9 = 0 := ez_9.trans (by decide)
  refine lv_lushr hx hb dX7_feed_62 rfl ?_
  refine lv_topl (fun y_10 _ => ?_)
  refine lv_l2i hx hb dX7_feed_63 rfl ?_
  refine lv_topi (fun x_11 ex_11 => ?_)
  refine lv_i2b hx hb dX7_feed_64 rfl ?_
  refine lv_topi (fun x_12 ex_12 => ?_)
  refine va_bast hx hb hK hP hD hS 1 0 rfl rfl (ti_in (a := 1) (by decide) (by decide) (by decide)) dX7_feed_65 (fun H locs hP hD hS => ?_)
  obtain ⟨f_13, ef_13⟩ : ∃ g : Nat → Int32, g = upd f_7 (Int32.toNatClampNeg 1) (vp_nar .byte x_12) := ⟨_, rfl⟩
  rw [← ef_13] at hP hD
  have bf_13 : FB f_13 := by rw [ef_13]; exact FB_upd bf_7 _ _
  have hP : va_P D vwCl [(h0, .inr (6, [g0, g1, g2, g3, g4, g5, .ref h1, .int 1, g6])), (h1, .inl (cB, 100, .inl f_13))] H := hP
  have hD : va_D A [(h0, .inr (6, [g0, g1, g2, g3, g4, g5, .ref h1, .int 1, g6])), (h1, .inl (cB, 100, .inl f_13))] := hD
  refine lv_aload_n hx hb dX7_feed_66 rfl (lv_at hl 1 rfl) ?_
  refine lv_dup hx hb dX7_feed_67 rfl ?_
  refine va_get (D := D) (ci := 6) (v := .int 1) (C := RX7) (T := TX7) (N := 9) hx hb hts inX7_feed_X7 hown hK hP 0 rfl rfl 7 (by decide) (hts _ wdX7_feed_0) (fun _ h9 => h9) rfl dX7_feed_68 ?_
  refine lv_iconst (v := 1) hx hb dX7_feed_71 (by decide) ?_
  refine lv_iadd hx hb dX7_feed_72 ?_
  refine lv_topi (fun z_14 ez_14 => ?_)
  obtain rfl : z_14 = 2 := ez_14.trans (by decide)
  refine va_put (D := D) (ci := 6) (v := .int 2) (ty := .int) (C := RX7) (T := TX7) (N := 9) hx hb hts inX7_feed_X7 tyX7 tyX7_ok nmX7 hown hK hP hD hS 0 rfl rfl 7 (by decide) (hts _ wdX7_feed_0) (fun _ h9 => h9) rfl (by decide +kernel) rfl rfl (Nat.le_of_ble_eq_true rfl) dX7_feed_73 (fun H locs hP hD hS => ?_)
  have hP : va_P D vwCl [(h0, .inr (6, [g0, g1, g2, g3, g4, g5, .ref h1, .int 2, g6])), (h1, .inl (cB, 100, .inl f_13))] H := hP
  have hD : va_D A [(h0, .inr (6, [g0, g1, g2, g3, g4, g5, .ref h1, .int 2, g6])), (h1, .inl (cB, 100, .inl f_13))] := hD
  refine lv_iinc (v := (-1)) (lv' := [(4, .int (-1)), (0, .ref h0), (1, .long y0), (3, .int 2)]) hx hb dX7_feed_76 hl (k := 0) rfl (by decide) (by decide) rfl (fun ls hl => ?_)
  refine lv_goto (tgt := 43) hx hb dX7_feed_79 (by decide) ?_
  refine lv_iload hx hb dX7_feed_43 (lv_at hl 0 rfl) ?_
  refine lv_if_lt (tgt := 82) hx hb dX7_feed_45 (by decide) (fun c => ?_) (fun c => absurd (by decide) c)
  refine lv_aload_n hx hb dX7_feed_82 rfl (lv_at hl 1 rfl) ?_
  refine va_get (D := D) (ci := 6) (v := .int 2) (C := RX7) (T := TX7) (N := 9) hx hb hts inX7_feed_X7 hown hK hP 0 rfl rfl 7 (by decide) (hts _ wdX7_feed_0) (fun _ h9 => h9) rfl dX7_feed_83 ?_
  exact kr_i () hx hb hr hlocks (hP.sub [] rfl) (hD.sub [] (by decide) rfl) hS rfl dX7_feed_86
set_option maxHeartbeats 4000000 in
set_option maxRecDepth 100000 in
theorem K23_X8_in (l : Launch) (D : va_G) (cB cI cZ : ClassId) (sz : Nat)     :
    CtI l D cB cI cZ yX8_in wsX8_in { frames := 0, cells := 0, slots := 0, locals := 0 } [.int 2, .int 0, .int 8] [] sz 0 0
      (fun (r : Int32) (u : Unit) => r = 1)
      (fun u => []) := by
  refine mk_metI (cc := cX8_in) (maxL := 3) (ret := (some .boolean)) (by decide) rfl (Nat.le_of_ble_eq_true rfl) ?_
  intro p e s m below meth c A hx hb hr hml hts hown hlocks hin hP hK hN hD hA hS ls hl
  have hown : s.vm.findClass RX8 = some m.cls := hown
  have hl : lv_has ls 3 [(0, .int 2), (1, .int 0), (2, .int 8)] := hl
  refine lv_iload_n hx hb dX8_in_0 rfl (lv_at hl 0 rfl) ?_
  refine lv_iload_n hx hb dX8_in_1 rfl (lv_at hl 1 rfl) ?_
  refine lv_icmp_lt (tgt := 14) hx hb dX8_in_2 (by decide) (fun c => absurd c (by decide)) (fun c => ?_)
  refine lv_iload_n hx hb dX8_in_5 rfl (lv_at hl 0 rfl) ?_
  refine lv_iload_n hx hb dX8_in_6 rfl (lv_at hl 2 rfl) ?_
  refine lv_icmp_gt (tgt := 14) hx hb dX8_in_7 (by decide) (fun c => absurd c (by decide)) (fun c => ?_)
  refine lv_iconst (v := 1) hx hb dX8_in_10 (by decide) ?_
  refine lv_goto (tgt := 15) hx hb dX8_in_11 (by decide) ?_
  exact kr_z () hx hb hr rfl hlocks hP hD hS rfl dX8_in_15
set_option maxHeartbeats 4000000 in
set_option maxRecDepth 100000 in
theorem K22_X8_feed (l : Launch) (D : va_G) (cB cI cZ : ClassId) (sz : Nat) (h0 : Nat) (h1 : Nat)  (y0 : Int64) (g0 : Value) (g1 : Value) (g2 : Value) (g3 : Value) (g4 : Value) (g5 : Value) (g6 : Value) (g7 : Value) (g8 : Value) (g9 : Value) (g10 : Value) (g11 : Value) (g12 : Value) (g13 : Value) (g14 : Value) (g15 : Value) (g16 : Value) (g17 : Value) (g18 : Value) (g19 : Value) (g20 : Value) (g21 : Value) (g22 : Value) (g23 : Value) (g24 : Value) (g25 : Value) (g26 : Value) (g27 : Value)  :
    CtI l D cB cI cZ yX8_feed wsX8_feed { frames := 1, cells := 0, slots := 0, locals := 22 } [.ref h0, .long y0, .int 2] [(h0, .inr (7, [g0, g1, g2, g3, g4, g5, g6, g7, g8, g9, g10, g11, g12, g13, g14, g15, g16, g17, g18, g19, g20, g21, .ref h1, .int 0, g22, g23, g24, g25, g26, g27])), (h1, .inl (cB, 100, .inl zf))] sz 0 0
      (fun (r : Int32) (u : Unit) => r = 2)
      (fun u => []) := by
  refine mk_metI (cc := cX8_feed) (maxL := 5) (ret := (some .int)) (by decide) rfl (Nat.le_of_ble_eq_true rfl) ?_
  intro p e s m below meth c A hx hb hr hml hts hown hlocks hin hP hK hN hD hA hS ls hl
  have hown : s.vm.findClass RX8 = some m.cls := hown
  have hl : lv_has ls 5 [(0, .ref h0), (1, .long y0), (3, .int 2)] := hl
  refine lv_aload_n hx hb dX8_feed_0 rfl (lv_at hl 0 rfl) ?_
  refine lv_iconst (v := 0) hx hb dX8_feed_1 (by decide) ?_
  refine va_put (D := D) (ci := 7) (v := .int 0) (ty := .int) (C := RX8) (T := TX8) (N := 30) hx hb hts inX8_feed_X8 tyX8 tyX8_ok nmX8 hown hK hP hD hS 0 rfl rfl 0 (by decide) (hts _ wdX8_feed_0) (fun _ h9 => h9) rfl (by decide +kernel) rfl rfl (Nat.le_of_ble_eq_true rfl) dX8_feed_2 (fun H locs hP hD hS => ?_)
  have hP : va_P D vwCl [(h0, .inr (7, [.int 0, g1, g2, g3, g4, g5, g6, g7, g8, g9, g10, g11, g12, g13, g14, g15, g16, g17, g18, g19, g20, g21, .ref h1, .int 0, g22, g23, g24, g25, g26, g27])), (h1, .inl (cB, 100, .inl zf))] H := hP
  have hD : va_D A [(h0, .inr (7, [.int 0, g1, g2, g3, g4, g5, g6, g7, g8, g9, g10, g11, g12, g13, g14, g15, g16, g17, g18, g19, g20, g21, .ref h1, .int 0, g22, g23, g24, g25, g26, g27])), (h1, .inl (cB, 100, .inl zf))] := hD
  refine lv_iload_n hx hb dX8_feed_5 rfl (lv_at hl 2 rfl) ?_
  refine lv_iconst (v := 0) hx hb dX8_feed_6 (by decide) ?_
  refine lv_bipush (v := 8) hx hb dX8_feed_7 (by decide) ?_
  refine kc_i (wr := [(h0, .inr (7, [.int 0, g1, g2, g3, g4, g5, g6, g7, g8, g9, g10, g11, g12, g13, g14, g15, g16, g17, g18, g19, g20, g21, .ref h1, .int 0, g22, g23, g24, g25, g26, g27])), (h1, .inl (cB, 100, .inl zf))]) (va_runS (As := [.int 2, .int 0, .int 8]) (rest := []) ⟨hx, hb, hml, hown, hts⟩ (K23_X8_in l D cB cI cZ _ ) (va_cwS 3 hts gX8_feed_X8_in rfl rfl rfl (by decide +kernel) ⟨Nat.le_of_ble_eq_true rfl, Nat.le_of_ble_eq_true rfl⟩) (pre_S (hP.sub [] rfl) hK hN (hD.sub [] (by decide) rfl)) rfl rfl hl.1 rfl (lv_room (Nat.le_of_ble_eq_true rfl)) dX8_feed_9 ⟨Nat.le_of_ble_eq_true rfl, Nat.le_of_ble_eq_true rfl⟩) hP hD hS hA [] [0, 1] rfl rfl (by decide) (by decide) (fun r_1 u H locs hw hP hD hS => ?_)
  have k_2 := hw
  obtain rfl : r_1 = 1 := k_2
  have hP : va_P D vwCl [(h0, .inr (7, [.int 0, g1, g2, g3, g4, g5, g6, g7, g8, g9, g10, g11, g12, g13, g14, g15, g16, g17, g18, g19, g20, g21, .ref h1, .int 0, g22, g23, g24, g25, g26, g27])), (h1, .inl (cB, 100, .inl zf))] H := hP
  have hD : va_D A [(h0, .inr (7, [.int 0, g1, g2, g3, g4, g5, g6, g7, g8, g9, g10, g11, g12, g13, g14, g15, g16, g17, g18, g19, g20, g21, .ref h1, .int 0, g22, g23, g24, g25, g26, g27])), (h1, .inl (cB, 100, .inl zf))] := hD
  refine lv_if_ne (tgt := 18) hx hb dX8_feed_12 (by decide) (fun c => ?_) (fun c => absurd c (by decide))
  refine lv_iload_n hx hb dX8_feed_18 rfl (lv_at hl 2 rfl) ?_
  refine lv_if_ne (tgt := 29) hx hb dX8_feed_19 (by decide) (fun c => ?_) (fun c => absurd c (by decide))
  refine lv_aload_n hx hb dX8_feed_29 rfl (lv_at hl 0 rfl) ?_
  refine va_get (D := D) (ci := 7) (v := .int 0) (C := RX8) (T := TX8) (N := 30) hx hb hts inX8_feed_X8 hown hK hP 0 rfl rfl 23 (by decide) (hts _ wdX8_feed_1) (fun _ h9 => h9) rfl dX8_feed_30 ?_
  refine lv_iload_n hx hb dX8_feed_33 rfl (lv_at hl 2 rfl) ?_
  refine lv_iadd hx hb dX8_feed_34 ?_
  refine lv_topi (fun z_3 ez_3 => ?_)
  obtain rfl : z_3 = 2 := ez_3.trans (by decide)
  refine lv_bipush (v := 100) hx hb dX8_feed_35 (by decide) ?_
  refine lv_icmp_le (tgt := 43) hx hb dX8_feed_37 (by decide) (fun c => ?_) (fun c => absurd (by decide) c)
  refine lv_iload_n hx hb dX8_feed_43 rfl (lv_at hl 2 rfl) ?_
  refine lv_iconst (v := 1) hx hb dX8_feed_44 (by decide) ?_
  refine lv_isub hx hb dX8_feed_45 ?_
  refine lv_topi (fun z_4 ez_4 => ?_)
  obtain rfl : z_4 = 1 := ez_4.trans (by decide)
  refine lv_istore (lv' := [(4, .int 1), (0, .ref h0), (1, .long y0), (3, .int 2)]) hx hb dX8_feed_46 hl (by decide) rfl (fun ls hl => ?_)
  refine lv_iload hx hb dX8_feed_48 (lv_at hl 0 rfl) ?_
  refine lv_if_lt (tgt := 87) hx hb dX8_feed_50 (by decide) (fun c => absurd c (by decide)) (fun c => ?_)
  refine lv_aload_n hx hb dX8_feed_53 rfl (lv_at hl 1 rfl) ?_
  refine va_get (D := D) (ci := 7) (v := .ref h1) (C := RX8) (T := TX8) (N := 30) hx hb hts inX8_feed_X8 hown hK hP 0 rfl rfl 22 (by decide) (hts _ wdX8_feed_2) (fun _ h9 => h9) rfl dX8_feed_54 ?_
  refine lv_aload_n hx hb dX8_feed_57 rfl (lv_at hl 1 rfl) ?_
  refine va_get (D := D) (ci := 7) (v := .int 0) (C := RX8) (T := TX8) (N := 30) hx hb hts inX8_feed_X8 hown hK hP 0 rfl rfl 23 (by decide) (hts _ wdX8_feed_1) (fun _ h9 => h9) rfl dX8_feed_58 ?_
  refine lv_lload_n hx hb dX8_feed_61 rfl (lv_at hl 2 rfl) ?_
  refine lv_bipush (v := 8) hx hb dX8_feed_62 (by decide) ?_
  refine lv_iload hx hb dX8_feed_64 (lv_at hl 0 rfl) ?_
  refine lv_imul hx hb dX8_feed_66 ?_
  refine lv_topi (fun z_5 ez_5 => ?_)
  obtain rfl : z_5 = 8 := ez_5.trans (by decide)
  refine lv_lshr hx hb dX8_feed_67 rfl ?_
  refine lv_topl (fun y_6 _ => ?_)
  refine lv_l2i hx hb dX8_feed_68 rfl ?_
  refine lv_topi (fun x_7 ex_7 => ?_)
  refine lv_i2b hx hb dX8_feed_69 rfl ?_
  refine lv_topi (fun x_8 ex_8 => ?_)
  refine va_bast hx hb hK hP hD hS 1 0 rfl rfl (ti_in (a := 0) (by decide) (by decide) (by decide)) dX8_feed_70 (fun H locs hP hD hS => ?_)
  obtain ⟨f_9, ef_9⟩ : ∃ g : Nat → Int32, g = upd zf (Int32.toNatClampNeg 0) (vp_nar .byte x_8) := ⟨_, rfl⟩
  rw [← ef_9] at hP hD
  have bf_9 : FB f_9 := by rw [ef_9]; exact FB_upd FB_zf _ _
  have hP : va_P D vwCl [(h0, .inr (7, [.int 0, g1, g2, g3, g4, g5, g6, g7, g8, g9, g10, g11, g12, g13, g14, g15, g16, g17, g18, g19, g20, g21, .ref h1, .int 0, g22, g23, g24, g25, g26, g27])), (h1, .inl (cB, 100, .inl f_9))] H := hP
  have hD : va_D A [(h0, .inr (7, [.int 0, g1, g2, g3, g4, g5, g6, g7, g8, g9, g10, g11, g12, g13, g14, g15, g16, g17, g18, g19, g20, g21, .ref h1, .int 0, g22, g23, g24, g25, g26, g27])), (h1, .inl (cB, 100, .inl f_9))] := hD
  refine lv_aload_n hx hb dX8_feed_71 rfl (lv_at hl 1 rfl) ?_
  refine lv_dup hx hb dX8_feed_72 rfl ?_
  refine va_get (D := D) (ci := 7) (v := .int 0) (C := RX8) (T := TX8) (N := 30) hx hb hts inX8_feed_X8 hown hK hP 0 rfl rfl 23 (by decide) (hts _ wdX8_feed_1) (fun _ h9 => h9) rfl dX8_feed_73 ?_
  refine lv_iconst (v := 1) hx hb dX8_feed_76 (by decide) ?_
  refine lv_iadd hx hb dX8_feed_77 ?_
  refine lv_topi (fun z_10 ez_10 => ?_)
  obtain rfl : z_10 = 1 := ez_10.trans (by decide)
  refine va_put (D := D) (ci := 7) (v := .int 1) (ty := .int) (C := RX8) (T := TX8) (N := 30) hx hb hts inX8_feed_X8 tyX8 tyX8_ok nmX8 hown hK hP hD hS 0 rfl rfl 23 (by decide) (hts _ wdX8_feed_1) (fun _ h9 => h9) rfl (by decide +kernel) rfl rfl (Nat.le_of_ble_eq_true rfl) dX8_feed_78 (fun H locs hP hD hS => ?_)
  have hP : va_P D vwCl [(h0, .inr (7, [.int 0, g1, g2, g3, g4, g5, g6, g7, g8, g9, g10, g11, g12, g13, g14, g15, g16, g17, g18, g19, g20, g21, .ref h1, .int 1, g22, g23, g24, g25, g26, g27])), (h1, .inl (cB, 100, .inl f_9))] H := hP
  have hD : va_D A [(h0, .inr (7, [.int 0, g1, g2, g3, g4, g5, g6, g7, g8, g9, g10, g11, g12, g13, g14, g15, g16, g17, g18, g19, g20, g21, .ref h1, .int 1, g22, g23, g24, g25, g26, g27])), (h1, .inl (cB, 100, .inl f_9))] := hD
  refine lv_iinc (v := 0) (lv' := [(4, .int 0), (0, .ref h0), (1, .long y0), (3, .int 2)]) hx hb dX8_feed_81 hl (k := 0) rfl (by decide) (by decide) rfl (fun ls hl => ?_)
  refine lv_goto (tgt := 48) hx hb dX8_feed_84 (by decide) ?_
  refine lv_iload hx hb dX8_feed_48 (lv_at hl 0 rfl) ?_
  refine lv_if_lt (tgt := 87) hx hb dX8_feed_50 (by decide) (fun c => absurd c (by decide)) (fun c => ?_)
  refine lv_aload_n hx hb dX8_feed_53 rfl (lv_at hl 1 rfl) ?_
  refine va_get (D := D) (ci := 7) (v := .ref h1) (C := RX8) (T := TX8) (N := 30) hx hb hts inX8_feed_X8 hown hK hP 0 rfl rfl 22 (by decide) (hts _ wdX8_feed_2) (fun _ h9 => h9) rfl dX8_feed_54 ?_
  refine lv_aload_n hx hb dX8_feed_57 rfl (lv_at hl 1 rfl) ?_
  refine va_get (D := D) (ci := 7) (v := .int 1) (C := RX8) (T := TX8) (N := 30) hx hb hts inX8_feed_X8 hown hK hP 0 rfl rfl 23 (by decide) (hts _ wdX8_feed_1) (fun _ h9 => h9) rfl dX8_feed_58 ?_
  refine lv_lload_n hx hb dX8_feed_61 rfl (lv_at hl 2 rfl) ?_
  refine lv_bipush (v := 8) hx hb dX8_feed_62 (by decide) ?_
  refine lv_iload hx hb dX8_feed_64 (lv_at hl 0 rfl) ?_
  refine lv_imul hx hb dX8_feed_66 ?_
  refine lv_topi (fun z_11 ez_11 => ?_)
  obtain rfl : z_11 = 0 := ez_11.trans (by decide)
  refine lv_lshr hx hb dX8_feed_67 rfl ?_
  refine lv_topl (fun y_12 _ => ?_)
  refine lv_l2i hx hb dX8_feed_68 rfl ?_
  refine lv_topi (fun x_13 ex_13 => ?_)
  refine lv_i2b hx hb dX8_feed_69 rfl ?_
  refine lv_topi (fun x_14 ex_14 => ?_)
  refine va_bast hx hb hK hP hD hS 1 0 rfl rfl (ti_in (a := 1) (by decide) (by decide) (by decide)) dX8_feed_70 (fun H locs hP hD hS => ?_)
  obtain ⟨f_15, ef_15⟩ : ∃ g : Nat → Int32, g = upd f_9 (Int32.toNatClampNeg 1) (vp_nar .byte x_14) := ⟨_, rfl⟩
  rw [← ef_15] at hP hD
  have bf_15 : FB f_15 := by rw [ef_15]; exact FB_upd bf_9 _ _
  have hP : va_P D vwCl [(h0, .inr (7, [.int 0, g1, g2, g3, g4, g5, g6, g7, g8, g9, g10, g11, g12, g13, g14, g15, g16, g17, g18, g19, g20, g21, .ref h1, .int 1, g22, g23, g24, g25, g26, g27])), (h1, .inl (cB, 100, .inl f_15))] H := hP
  have hD : va_D A [(h0, .inr (7, [.int 0, g1, g2, g3, g4, g5, g6, g7, g8, g9, g10, g11, g12, g13, g14, g15, g16, g17, g18, g19, g20, g21, .ref h1, .int 1, g22, g23, g24, g25, g26, g27])), (h1, .inl (cB, 100, .inl f_15))] := hD
  refine lv_aload_n hx hb dX8_feed_71 rfl (lv_at hl 1 rfl) ?_
  refine lv_dup hx hb dX8_feed_72 rfl ?_
  refine va_get (D := D) (ci := 7) (v := .int 1) (C := RX8) (T := TX8) (N := 30) hx hb hts inX8_feed_X8 hown hK hP 0 rfl rfl 23 (by decide) (hts _ wdX8_feed_1) (fun _ h9 => h9) rfl dX8_feed_73 ?_
  refine lv_iconst (v := 1) hx hb dX8_feed_76 (by decide) ?_
  refine lv_iadd hx hb dX8_feed_77 ?_
  refine lv_topi (fun z_16 ez_16 => ?_)
  obtain rfl : z_16 = 2 := ez_16.trans (by decide)
  refine va_put (D := D) (ci := 7) (v := .int 2) (ty := .int) (C := RX8) (T := TX8) (N := 30) hx hb hts inX8_feed_X8 tyX8 tyX8_ok nmX8 hown hK hP hD hS 0 rfl rfl 23 (by decide) (hts _ wdX8_feed_1) (fun _ h9 => h9) rfl (by decide +kernel) rfl rfl (Nat.le_of_ble_eq_true rfl) dX8_feed_78 (fun H locs hP hD hS => ?_)
  have hP : va_P D vwCl [(h0, .inr (7, [.int 0, g1, g2, g3, g4, g5, g6, g7, g8, g9, g10, g11, g12, g13, g14, g15, g16, g17, g18, g19, g20, g21, .ref h1, .int 2, g22, g23, g24, g25, g26, g27])), (h1, .inl (cB, 100, .inl f_15))] H := hP
  have hD : va_D A [(h0, .inr (7, [.int 0, g1, g2, g3, g4, g5, g6, g7, g8, g9, g10, g11, g12, g13, g14, g15, g16, g17, g18, g19, g20, g21, .ref h1, .int 2, g22, g23, g24, g25, g26, g27])), (h1, .inl (cB, 100, .inl f_15))] := hD
  refine lv_iinc (v := (-1)) (lv' := [(4, .int (-1)), (0, .ref h0), (1, .long y0), (3, .int 2)]) hx hb dX8_feed_81 hl (k := 0) rfl (by decide) (by decide) rfl (fun ls hl => ?_)
  refine lv_goto (tgt := 48) hx hb dX8_feed_84 (by decide) ?_
  refine lv_iload hx hb dX8_feed_48 (lv_at hl 0 rfl) ?_
  refine lv_if_lt (tgt := 87) hx hb dX8_feed_50 (by decide) (fun c => ?_) (fun c => absurd (by decide) c)
  refine lv_aload_n hx hb dX8_feed_87 rfl (lv_at hl 1 rfl) ?_
  refine va_get (D := D) (ci := 7) (v := .int 2) (C := RX8) (T := TX8) (N := 30) hx hb hts inX8_feed_X8 hown hK hP 0 rfl rfl 23 (by decide) (hts _ wdX8_feed_1) (fun _ h9 => h9) rfl dX8_feed_88 ?_
  exact kr_i () hx hb hr hlocks (hP.sub [] rfl) (hD.sub [] (by decide) rfl) hS rfl dX8_feed_91
set_option maxHeartbeats 4000000 in
set_option maxRecDepth 100000 in
theorem K24_X7_feed (l : Launch) (D : va_G) (cB cI cZ : ClassId) (sz : Nat) (h0 : Nat) (h1 : Nat)  (y0 : Int64) (g0 : Value) (g1 : Value) (g2 : Value) (g3 : Value) (g4 : Value) (g5 : Value) (g6 : Value)  :
    CtI l D cB cI cZ yX7_feed wsX7_feed { frames := 0, cells := 0, slots := 0, locals := 0 } [.ref h0, .long y0, .int 3] [(h0, .inr (6, [g0, g1, g2, g3, g4, g5, .ref h1, .int 0, g6])), (h1, .inl (cB, 100, .inl zf))] sz 0 0
      (fun (r : Int32) (u : Unit) => r = 3)
      (fun u => []) := by
  refine mk_metI (cc := cX7_feed) (maxL := 5) (ret := (some .int)) (by decide) rfl (Nat.le_of_ble_eq_true rfl) ?_
  intro p e s m below meth c A hx hb hr hml hts hown hlocks hin hP hK hN hD hA hS ls hl
  have hown : s.vm.findClass RX7 = some m.cls := hown
  have hl : lv_has ls 5 [(0, .ref h0), (1, .long y0), (3, .int 3)] := hl
  refine lv_iload_n hx hb dX7_feed_0 rfl (lv_at hl 2 rfl) ?_
  refine lv_if_lt (tgt := 10) hx hb dX7_feed_1 (by decide) (fun c => absurd c (by decide)) (fun c => ?_)
  refine lv_iload_n hx hb dX7_feed_4 rfl (lv_at hl 2 rfl) ?_
  refine lv_bipush (v := 8) hx hb dX7_feed_5 (by decide) ?_
  refine lv_icmp_le (tgt := 13) hx hb dX7_feed_7 (by decide) (fun c => ?_) (fun c => absurd (by decide) c)
  refine lv_iload_n hx hb dX7_feed_13 rfl (lv_at hl 2 rfl) ?_
  refine lv_if_ne (tgt := 24) hx hb dX7_feed_14 (by decide) (fun c => ?_) (fun c => absurd c (by decide))
  refine lv_aload_n hx hb dX7_feed_24 rfl (lv_at hl 0 rfl) ?_
  refine va_get (D := D) (ci := 6) (v := .int 0) (C := RX7) (T := TX7) (N := 9) hx hb hts inX7_feed_X7 hown hK hP 0 rfl rfl 7 (by decide) (hts _ wdX7_feed_0) (fun _ h9 => h9) rfl dX7_feed_25 ?_
  refine lv_iload_n hx hb dX7_feed_28 rfl (lv_at hl 2 rfl) ?_
  refine lv_iadd hx hb dX7_feed_29 ?_
  refine lv_topi (fun z_1 ez_1 => ?_)
  obtain rfl : z_1 = 3 := ez_1.trans (by decide)
  refine lv_bipush (v := 100) hx hb dX7_feed_30 (by decide) ?_
  refine lv_icmp_le (tgt := 38) hx hb dX7_feed_32 (by decide) (fun c => ?_) (fun c => absurd (by decide) c)
  refine lv_iload_n hx hb dX7_feed_38 rfl (lv_at hl 2 rfl) ?_
  refine lv_iconst (v := 1) hx hb dX7_feed_39 (by decide) ?_
  refine lv_isub hx hb dX7_feed_40 ?_
  refine lv_topi (fun z_2 ez_2 => ?_)
  obtain rfl : z_2 = 2 := ez_2.trans (by decide)
  refine lv_istore (lv' := [(4, .int 2), (0, .ref h0), (1, .long y0), (3, .int 3)]) hx hb dX7_feed_41 hl (by decide) rfl (fun ls hl => ?_)
  refine lv_iload hx hb dX7_feed_43 (lv_at hl 0 rfl) ?_
  refine lv_if_lt (tgt := 82) hx hb dX7_feed_45 (by decide) (fun c => absurd c (by decide)) (fun c => ?_)
  refine lv_aload_n hx hb dX7_feed_48 rfl (lv_at hl 1 rfl) ?_
  refine va_get (D := D) (ci := 6) (v := .ref h1) (C := RX7) (T := TX7) (N := 9) hx hb hts inX7_feed_X7 hown hK hP 0 rfl rfl 6 (by decide) (hts _ wdX7_feed_1) (fun _ h9 => h9) rfl dX7_feed_49 ?_
  refine lv_aload_n hx hb dX7_feed_52 rfl (lv_at hl 1 rfl) ?_
  refine va_get (D := D) (ci := 6) (v := .int 0) (C := RX7) (T := TX7) (N := 9) hx hb hts inX7_feed_X7 hown hK hP 0 rfl rfl 7 (by decide) (hts _ wdX7_feed_0) (fun _ h9 => h9) rfl dX7_feed_53 ?_
  refine lv_lload_n hx hb dX7_feed_56 rfl (lv_at hl 2 rfl) ?_
  refine lv_bipush (v := 8) hx hb dX7_feed_57 (by decide) ?_
  refine lv_iload hx hb dX7_feed_59 (lv_at hl 0 rfl) ?_
  refine lv_imul hx hb dX7_feed_61 ?_
  refine lv_topi (fun z_3 ez_3 => ?_)
  obtain rfl : z_3 = 16 := ez_3.trans (by decide)
  refine lv_lushr hx hb dX7_feed_62 rfl ?_
  refine lv_topl (fun y_4 _ => ?_)
  refine lv_l2i hx hb dX7_feed_63 rfl ?_
  refine lv_topi (fun x_5 ex_5 => ?_)
  refine lv_i2b hx hb dX7_feed_64 rfl ?_
  refine lv_topi (fun x_6 ex_6 => ?_)
  refine va_bast hx hb hK hP hD hS 1 0 rfl rfl (ti_in (a := 0) (by decide) (by decide) (by decide)) dX7_feed_65 (fun H locs hP hD hS => ?_)
  obtain ⟨f_7, ef_7⟩ : ∃ g : Nat → Int32, g = upd zf (Int32.toNatClampNeg 0) (vp_nar .byte x_6) := ⟨_, rfl⟩
  rw [← ef_7] at hP hD
  have bf_7 : FB f_7 := by rw [ef_7]; exact FB_upd FB_zf _ _
  have hP : va_P D vwCl [(h0, .inr (6, [g0, g1, g2, g3, g4, g5, .ref h1, .int 0, g6])), (h1, .inl (cB, 100, .inl f_7))] H := hP
  have hD : va_D A [(h0, .inr (6, [g0, g1, g2, g3, g4, g5, .ref h1, .int 0, g6])), (h1, .inl (cB, 100, .inl f_7))] := hD
  refine lv_aload_n hx hb dX7_feed_66 rfl (lv_at hl 1 rfl) ?_
  refine lv_dup hx hb dX7_feed_67 rfl ?_
  refine va_get (D := D) (ci := 6) (v := .int 0) (C := RX7) (T := TX7) (N := 9) hx hb hts inX7_feed_X7 hown hK hP 0 rfl rfl 7 (by decide) (hts _ wdX7_feed_0) (fun _ h9 => h9) rfl dX7_feed_68 ?_
  refine lv_iconst (v := 1) hx hb dX7_feed_71 (by decide) ?_
  refine lv_iadd hx hb dX7_feed_72 ?_
  refine lv_topi (fun z_8 ez_8 => ?_)
  obtain rfl : z_8 = 1 := ez_8.trans (by decide)
  refine va_put (D := D) (ci := 6) (v := .int 1) (ty := .int) (C := RX7) (T := TX7) (N := 9) hx hb hts inX7_feed_X7 tyX7 tyX7_ok nmX7 hown hK hP hD hS 0 rfl rfl 7 (by decide) (hts _ wdX7_feed_0) (fun _ h9 => h9) rfl (by decide +kernel) rfl rfl (Nat.le_of_ble_eq_true rfl) dX7_feed_73 (fun H locs hP hD hS => ?_)
  have hP : va_P D vwCl [(h0, .inr (6, [g0, g1, g2, g3, g4, g5, .ref h1, .int 1, g6])), (h1, .inl (cB, 100, .inl f_7))] H := hP
  have hD : va_D A [(h0, .inr (6, [g0, g1, g2, g3, g4, g5, .ref h1, .int 1, g6])), (h1, .inl (cB, 100, .inl f_7))] := hD
  refine lv_iinc (v := 1) (lv' := [(4, .int 1), (0, .ref h0), (1, .long y0), (3, .int 3)]) hx hb dX7_feed_76 hl (k := 0) rfl (by decide) (by decide) rfl (fun ls hl => ?_)
  refine lv_goto (tgt := 43) hx hb dX7_feed_79 (by decide) ?_
  refine lv_iload hx hb dX7_feed_43 (lv_at hl 0 rfl) ?_
  refine lv_if_lt (tgt := 82) hx hb dX7_feed_45 (by decide) (fun c => absurd c (by decide)) (fun c => ?_)
  refine lv_aload_n hx hb dX7_feed_48 rfl (lv_at hl 1 rfl) ?_
  refine va_get (D := D) (ci := 6) (v := .ref h1) (C := RX7) (T := TX7) (N := 9) hx hb hts inX7_feed_X7 hown hK hP 0 rfl rfl 6 (by decide) (hts _ wdX7_feed_1) (fun _ h9 => h9) rfl dX7_feed_49 ?_
  refine lv_aload_n hx hb dX7_feed_52 rfl (lv_at hl 1 rfl) ?_
  refine va_get (D := D) (ci := 6) (v := .int 1) (C := RX7) (T := TX7) (N := 9) hx hb hts inX7_feed_X7 hown hK hP 0 rfl rfl 7 (by decide) (hts _ wdX7_feed_0) (fun _ h9 => h9) rfl dX7_feed_53 ?_
  refine lv_lload_n hx hb dX7_feed_56 rfl (lv_at hl 2 rfl) ?_
  refine lv_bipush (v := 8) hx hb dX7_feed_57 (by decide) ?_
  refine lv_iload hx hb dX7_feed_59 (lv_at hl 0 rfl) ?_
  refine lv_imul hx hb dX7_feed_61 ?_
  refine lv_topi (fun z_9 ez_9 => ?_)
  obtain rfl : z_9 = 8 := ez_9.trans (by decide)
  refine lv_lushr hx hb dX7_feed_62 rfl ?_
  refine lv_topl (fun y_10 _ => ?_)
  refine lv_l2i hx hb dX7_feed_63 rfl ?_
  refine lv_topi (fun x_11 ex_11 => ?_)
  refine lv_i2b hx hb dX7_feed_64 rfl ?_
  refine lv_topi (fun x_12 ex_12 => ?_)
  refine va_bast hx hb hK hP hD hS 1 0 rfl rfl (ti_in (a := 1) (by decide) (by decide) (by decide)) dX7_feed_65 (fun H locs hP hD hS => ?_)
  obtain ⟨f_13, ef_13⟩ : ∃ g : Nat → Int32, g = upd f_7 (Int32.toNatClampNeg 1) (vp_nar .byte x_12) := ⟨_, rfl⟩
  rw [← ef_13] at hP hD
  have bf_13 : FB f_13 := by rw [ef_13]; exact FB_upd bf_7 _ _
  have hP : va_P D vwCl [(h0, .inr (6, [g0, g1, g2, g3, g4, g5, .ref h1, .int 1, g6])), (h1, .inl (cB, 100, .inl f_13))] H := hP
  have hD : va_D A [(h0, .inr (6, [g0, g1, g2, g3, g4, g5, .ref h1, .int 1, g6])), (h1, .inl (cB, 100, .inl f_13))] := hD
  refine lv_aload_n hx hb dX7_feed_66 rfl (lv_at hl 1 rfl) ?_
  refine lv_dup hx hb dX7_feed_67 rfl ?_
  refine va_get (D := D) (ci := 6) (v := .int 1) (C := RX7) (T := TX7) (N := 9) hx hb hts inX7_feed_X7 hown hK hP 0 rfl rfl 7 (by decide) (hts _ wdX7_feed_0) (fun _ h9 => h9) rfl dX7_feed_68 ?_
  refine lv_iconst (v := 1) hx hb dX7_feed_71 (by decide) ?_
  refine lv_iadd hx hb dX7_feed_72 ?_
  refine lv_topi (fun z_14 ez_14 => ?_)
  obtain rfl : z_14 = 2 := ez_14.trans (by decide)
  refine va_put (D := D) (ci := 6) (v := .int 2) (ty := .int) (C := RX7) (T := TX7) (N := 9) hx hb hts inX7_feed_X7 tyX7 tyX7_ok nmX7 hown hK hP hD hS 0 rfl rfl 7 (by decide) (hts _ wdX7_feed_0) (fun _ h9 => h9) rfl (by decide +kernel) rfl rfl (Nat.le_of_ble_eq_true rfl) dX7_feed_73 (fun H locs hP hD hS => ?_)
  have hP : va_P D vwCl [(h0, .inr (6, [g0, g1, g2, g3, g4, g5, .ref h1, .int 2, g6])), (h1, .inl (cB, 100, .inl f_13))] H := hP
  have hD : va_D A [(h0, .inr (6, [g0, g1, g2, g3, g4, g5, .ref h1, .int 2, g6])), (h1, .inl (cB, 100, .inl f_13))] := hD
  refine lv_iinc (v := 0) (lv' := [(4, .int 0), (0, .ref h0), (1, .long y0), (3, .int 3)]) hx hb dX7_feed_76 hl (k := 0) rfl (by decide) (by decide) rfl (fun ls hl => ?_)
  refine lv_goto (tgt := 43) hx hb dX7_feed_79 (by decide) ?_
  refine lv_iload hx hb dX7_feed_43 (lv_at hl 0 rfl) ?_
  refine lv_if_lt (tgt := 82) hx hb dX7_feed_45 (by decide) (fun c => absurd c (by decide)) (fun c => ?_)
  refine lv_aload_n hx hb dX7_feed_48 rfl (lv_at hl 1 rfl) ?_
  refine va_get (D := D) (ci := 6) (v := .ref h1) (C := RX7) (T := TX7) (N := 9) hx hb hts inX7_feed_X7 hown hK hP 0 rfl rfl 6 (by decide) (hts _ wdX7_feed_1) (fun _ h9 => h9) rfl dX7_feed_49 ?_
  refine lv_aload_n hx hb dX7_feed_52 rfl (lv_at hl 1 rfl) ?_
  refine va_get (D := D) (ci := 6) (v := .int 2) (C := RX7) (T := TX7) (N := 9) hx hb hts inX7_feed_X7 hown hK hP 0 rfl rfl 7 (by decide) (hts _ wdX7_feed_0) (fun _ h9 => h9) rfl dX7_feed_53 ?_
  refine lv_lload_n hx hb dX7_feed_56 rfl (lv_at hl 2 rfl) ?_
  refine lv_bipush (v := 8) hx hb dX7_feed_57 (by decide) ?_
  refine lv_iload hx hb dX7_feed_59 (lv_at hl 0 rfl) ?_
  refine lv_imul hx hb dX7_feed_61 ?_
  refine lv_topi (fun z_15 ez_15 => ?_)
  obtain rfl : z_15 = 0 := ez_15.trans (by decide)
  refine lv_lushr hx hb dX7_feed_62 rfl ?_
  refine lv_topl (fun y_16 _ => ?_)
  refine lv_l2i hx hb dX7_feed_63 rfl ?_
  refine lv_topi (fun x_17 ex_17 => ?_)
  refine lv_i2b hx hb dX7_feed_64 rfl ?_
  refine lv_topi (fun x_18 ex_18 => ?_)
  refine va_bast hx hb hK hP hD hS 1 0 rfl rfl (ti_in (a := 2) (by decide) (by decide) (by decide)) dX7_feed_65 (fun H locs hP hD hS => ?_)
  obtain ⟨f_19, ef_19⟩ : ∃ g : Nat → Int32, g = upd f_13 (Int32.toNatClampNeg 2) (vp_nar .byte x_18) := ⟨_, rfl⟩
  rw [← ef_19] at hP hD
  have bf_19 : FB f_19 := by rw [ef_19]; exact FB_upd bf_13 _ _
  have hP : va_P D vwCl [(h0, .inr (6, [g0, g1, g2, g3, g4, g5, .ref h1, .int 2, g6])), (h1, .inl (cB, 100, .inl f_19))] H := hP
  have hD : va_D A [(h0, .inr (6, [g0, g1, g2, g3, g4, g5, .ref h1, .int 2, g6])), (h1, .inl (cB, 100, .inl f_19))] := hD
  refine lv_aload_n hx hb dX7_feed_66 rfl (lv_at hl 1 rfl) ?_
  refine lv_dup hx hb dX7_feed_67 rfl ?_
  refine va_get (D := D) (ci := 6) (v := .int 2) (C := RX7) (T := TX7) (N := 9) hx hb hts inX7_feed_X7 hown hK hP 0 rfl rfl 7 (by decide) (hts _ wdX7_feed_0) (fun _ h9 => h9) rfl dX7_feed_68 ?_
  refine lv_iconst (v := 1) hx hb dX7_feed_71 (by decide) ?_
  refine lv_iadd hx hb dX7_feed_72 ?_
  refine lv_topi (fun z_20 ez_20 => ?_)
  obtain rfl : z_20 = 3 := ez_20.trans (by decide)
  refine va_put (D := D) (ci := 6) (v := .int 3) (ty := .int) (C := RX7) (T := TX7) (N := 9) hx hb hts inX7_feed_X7 tyX7 tyX7_ok nmX7 hown hK hP hD hS 0 rfl rfl 7 (by decide) (hts _ wdX7_feed_0) (fun _ h9 => h9) rfl (by decide +kernel) rfl rfl (Nat.le_of_ble_eq_true rfl) dX7_feed_73 (fun H locs hP hD hS => ?_)
  have hP : va_P D vwCl [(h0, .inr (6, [g0, g1, g2, g3, g4, g5, .ref h1, .int 3, g6])), (h1, .inl (cB, 100, .inl f_19))] H := hP
  have hD : va_D A [(h0, .inr (6, [g0, g1, g2, g3, g4, g5, .ref h1, .int 3, g6])), (h1, .inl (cB, 100, .inl f_19))] := hD
  refine lv_iinc (v := (-1)) (lv' := [(4, .int (-1)), (0, .ref h0), (1, .long y0), (3, .int 3)]) hx hb dX7_feed_76 hl (k := 0) rfl (by decide) (by decide) rfl (fun ls hl => ?_)
  refine lv_goto (tgt := 43) hx hb dX7_feed_79 (by decide) ?_
  refine lv_iload hx hb dX7_feed_43 (lv_at hl 0 rfl) ?_
  refine lv_if_lt (tgt := 82) hx hb dX7_feed_45 (by decide) (fun c => ?_) (fun c => absurd (by decide) c)
  refine lv_aload_n hx hb dX7_feed_82 rfl (lv_at hl 1 rfl) ?_
  refine va_get (D := D) (ci := 6) (v := .int 3) (C := RX7) (T := TX7) (N := 9) hx hb hts inX7_feed_X7 hown hK hP 0 rfl rfl 7 (by decide) (hts _ wdX7_feed_0) (fun _ h9 => h9) rfl dX7_feed_83 ?_
  exact kr_i () hx hb hr hlocks (hP.sub [] rfl) (hD.sub [] (by decide) rfl) hS rfl dX7_feed_86
set_option maxHeartbeats 4000000 in
set_option maxRecDepth 100000 in
theorem K26_X8_in (l : Launch) (D : va_G) (cB cI cZ : ClassId) (sz : Nat)     :
    CtI l D cB cI cZ yX8_in wsX8_in { frames := 0, cells := 0, slots := 0, locals := 0 } [.int 3, .int 0, .int 8] [] sz 0 0
      (fun (r : Int32) (u : Unit) => r = 1)
      (fun u => []) := by
  refine mk_metI (cc := cX8_in) (maxL := 3) (ret := (some .boolean)) (by decide) rfl (Nat.le_of_ble_eq_true rfl) ?_
  intro p e s m below meth c A hx hb hr hml hts hown hlocks hin hP hK hN hD hA hS ls hl
  have hown : s.vm.findClass RX8 = some m.cls := hown
  have hl : lv_has ls 3 [(0, .int 3), (1, .int 0), (2, .int 8)] := hl
  refine lv_iload_n hx hb dX8_in_0 rfl (lv_at hl 0 rfl) ?_
  refine lv_iload_n hx hb dX8_in_1 rfl (lv_at hl 1 rfl) ?_
  refine lv_icmp_lt (tgt := 14) hx hb dX8_in_2 (by decide) (fun c => absurd c (by decide)) (fun c => ?_)
  refine lv_iload_n hx hb dX8_in_5 rfl (lv_at hl 0 rfl) ?_
  refine lv_iload_n hx hb dX8_in_6 rfl (lv_at hl 2 rfl) ?_
  refine lv_icmp_gt (tgt := 14) hx hb dX8_in_7 (by decide) (fun c => absurd c (by decide)) (fun c => ?_)
  refine lv_iconst (v := 1) hx hb dX8_in_10 (by decide) ?_
  refine lv_goto (tgt := 15) hx hb dX8_in_11 (by decide) ?_
  exact kr_z () hx hb hr rfl hlocks hP hD hS rfl dX8_in_15
set_option maxHeartbeats 4000000 in
set_option maxRecDepth 100000 in
theorem K25_X8_feed (l : Launch) (D : va_G) (cB cI cZ : ClassId) (sz : Nat) (h0 : Nat) (h1 : Nat)  (y0 : Int64) (g0 : Value) (g1 : Value) (g2 : Value) (g3 : Value) (g4 : Value) (g5 : Value) (g6 : Value) (g7 : Value) (g8 : Value) (g9 : Value) (g10 : Value) (g11 : Value) (g12 : Value) (g13 : Value) (g14 : Value) (g15 : Value) (g16 : Value) (g17 : Value) (g18 : Value) (g19 : Value) (g20 : Value) (g21 : Value) (g22 : Value) (g23 : Value) (g24 : Value) (g25 : Value) (g26 : Value) (g27 : Value)  :
    CtI l D cB cI cZ yX8_feed wsX8_feed { frames := 1, cells := 0, slots := 0, locals := 22 } [.ref h0, .long y0, .int 3] [(h0, .inr (7, [g0, g1, g2, g3, g4, g5, g6, g7, g8, g9, g10, g11, g12, g13, g14, g15, g16, g17, g18, g19, g20, g21, .ref h1, .int 0, g22, g23, g24, g25, g26, g27])), (h1, .inl (cB, 100, .inl zf))] sz 0 0
      (fun (r : Int32) (u : Unit) => r = 3)
      (fun u => []) := by
  refine mk_metI (cc := cX8_feed) (maxL := 5) (ret := (some .int)) (by decide) rfl (Nat.le_of_ble_eq_true rfl) ?_
  intro p e s m below meth c A hx hb hr hml hts hown hlocks hin hP hK hN hD hA hS ls hl
  have hown : s.vm.findClass RX8 = some m.cls := hown
  have hl : lv_has ls 5 [(0, .ref h0), (1, .long y0), (3, .int 3)] := hl
  refine lv_aload_n hx hb dX8_feed_0 rfl (lv_at hl 0 rfl) ?_
  refine lv_iconst (v := 0) hx hb dX8_feed_1 (by decide) ?_
  refine va_put (D := D) (ci := 7) (v := .int 0) (ty := .int) (C := RX8) (T := TX8) (N := 30) hx hb hts inX8_feed_X8 tyX8 tyX8_ok nmX8 hown hK hP hD hS 0 rfl rfl 0 (by decide) (hts _ wdX8_feed_0) (fun _ h9 => h9) rfl (by decide +kernel) rfl rfl (Nat.le_of_ble_eq_true rfl) dX8_feed_2 (fun H locs hP hD hS => ?_)
  have hP : va_P D vwCl [(h0, .inr (7, [.int 0, g1, g2, g3, g4, g5, g6, g7, g8, g9, g10, g11, g12, g13, g14, g15, g16, g17, g18, g19, g20, g21, .ref h1, .int 0, g22, g23, g24, g25, g26, g27])), (h1, .inl (cB, 100, .inl zf))] H := hP
  have hD : va_D A [(h0, .inr (7, [.int 0, g1, g2, g3, g4, g5, g6, g7, g8, g9, g10, g11, g12, g13, g14, g15, g16, g17, g18, g19, g20, g21, .ref h1, .int 0, g22, g23, g24, g25, g26, g27])), (h1, .inl (cB, 100, .inl zf))] := hD
  refine lv_iload_n hx hb dX8_feed_5 rfl (lv_at hl 2 rfl) ?_
  refine lv_iconst (v := 0) hx hb dX8_feed_6 (by decide) ?_
  refine lv_bipush (v := 8) hx hb dX8_feed_7 (by decide) ?_
  refine kc_i (wr := [(h0, .inr (7, [.int 0, g1, g2, g3, g4, g5, g6, g7, g8, g9, g10, g11, g12, g13, g14, g15, g16, g17, g18, g19, g20, g21, .ref h1, .int 0, g22, g23, g24, g25, g26, g27])), (h1, .inl (cB, 100, .inl zf))]) (va_runS (As := [.int 3, .int 0, .int 8]) (rest := []) ⟨hx, hb, hml, hown, hts⟩ (K26_X8_in l D cB cI cZ _ ) (va_cwS 3 hts gX8_feed_X8_in rfl rfl rfl (by decide +kernel) ⟨Nat.le_of_ble_eq_true rfl, Nat.le_of_ble_eq_true rfl⟩) (pre_S (hP.sub [] rfl) hK hN (hD.sub [] (by decide) rfl)) rfl rfl hl.1 rfl (lv_room (Nat.le_of_ble_eq_true rfl)) dX8_feed_9 ⟨Nat.le_of_ble_eq_true rfl, Nat.le_of_ble_eq_true rfl⟩) hP hD hS hA [] [0, 1] rfl rfl (by decide) (by decide) (fun r_1 u H locs hw hP hD hS => ?_)
  have k_2 := hw
  obtain rfl : r_1 = 1 := k_2
  have hP : va_P D vwCl [(h0, .inr (7, [.int 0, g1, g2, g3, g4, g5, g6, g7, g8, g9, g10, g11, g12, g13, g14, g15, g16, g17, g18, g19, g20, g21, .ref h1, .int 0, g22, g23, g24, g25, g26, g27])), (h1, .inl (cB, 100, .inl zf))] H := hP
  have hD : va_D A [(h0, .inr (7, [.int 0, g1, g2, g3, g4, g5, g6, g7, g8, g9, g10, g11, g12, g13, g14, g15, g16, g17, g18, g19, g20, g21, .ref h1, .int 0, g22, g23, g24, g25, g26, g27])), (h1, .inl (cB, 100, .inl zf))] := hD
  refine lv_if_ne (tgt := 18) hx hb dX8_feed_12 (by decide) (fun c => ?_) (fun c => absurd c (by decide))
  refine lv_iload_n hx hb dX8_feed_18 rfl (lv_at hl 2 rfl) ?_
  refine lv_if_ne (tgt := 29) hx hb dX8_feed_19 (by decide) (fun c => ?_) (fun c => absurd c (by decide))
  refine lv_aload_n hx hb dX8_feed_29 rfl (lv_at hl 0 rfl) ?_
  refine va_get (D := D) (ci := 7) (v := .int 0) (C := RX8) (T := TX8) (N := 30) hx hb hts inX8_feed_X8 hown hK hP 0 rfl rfl 23 (by decide) (hts _ wdX8_feed_1) (fun _ h9 => h9) rfl dX8_feed_30 ?_
  refine lv_iload_n hx hb dX8_feed_33 rfl (lv_at hl 2 rfl) ?_
  refine lv_iadd hx hb dX8_feed_34 ?_
  refine lv_topi (fun z_3 ez_3 => ?_)
  obtain rfl : z_3 = 3 := ez_3.trans (by decide)
  refine lv_bipush (v := 100) hx hb dX8_feed_35 (by decide) ?_
  refine lv_icmp_le (tgt := 43) hx hb dX8_feed_37 (by decide) (fun c => ?_) (fun c => absurd (by decide) c)
  refine lv_iload_n hx hb dX8_feed_43 rfl (lv_at hl 2 rfl) ?_
  refine lv_iconst (v := 1) hx hb dX8_feed_44 (by decide) ?_
  refine lv_isub hx hb dX8_feed_45 ?_
  refine lv_topi (fun z_4 ez_4 => ?_)
  obtain rfl : z_4 = 2 := ez_4.trans (by decide)
  refine lv_istore (lv' := [(4, .int 2), (0, .ref h0), (1, .long y0), (3, .int 3)]) hx hb dX8_feed_46 hl (by decide) rfl (fun ls hl => ?_)
  refine lv_iload hx hb dX8_feed_48 (lv_at hl 0 rfl) ?_
  refine lv_if_lt (tgt := 87) hx hb dX8_feed_50 (by decide) (fun c => absurd c (by decide)) (fun c => ?_)
  refine lv_aload_n hx hb dX8_feed_53 rfl (lv_at hl 1 rfl) ?_
  refine va_get (D := D) (ci := 7) (v := .ref h1) (C := RX8) (T := TX8) (N := 30) hx hb hts inX8_feed_X8 hown hK hP 0 rfl rfl 22 (by decide) (hts _ wdX8_feed_2) (fun _ h9 => h9) rfl dX8_feed_54 ?_
  refine lv_aload_n hx hb dX8_feed_57 rfl (lv_at hl 1 rfl) ?_
  refine va_get (D := D) (ci := 7) (v := .int 0) (C := RX8) (T := TX8) (N := 30) hx hb hts inX8_feed_X8 hown hK hP 0 rfl rfl 23 (by decide) (hts _ wdX8_feed_1) (fun _ h9 => h9) rfl dX8_feed_58 ?_
  refine lv_lload_n hx hb dX8_feed_61 rfl (lv_at hl 2 rfl) ?_
  refine lv_bipush (v := 8) hx hb dX8_feed_62 (by decide) ?_
  refine lv_iload hx hb dX8_feed_64 (lv_at hl 0 rfl) ?_
  refine lv_imul hx hb dX8_feed_66 ?_
  refine lv_topi (fun z_5 ez_5 => ?_)
  obtain rfl : z_5 = 16 := ez_5.trans (by decide)
  refine lv_lshr hx hb dX8_feed_67 rfl ?_
  refine lv_topl (fun y_6 _ => ?_)
  refine lv_l2i hx hb dX8_feed_68 rfl ?_
  refine lv_topi (fun x_7 ex_7 => ?_)
  refine lv_i2b hx hb dX8_feed_69 rfl ?_
  refine lv_topi (fun x_8 ex_8 => ?_)
  refine va_bast hx hb hK hP hD hS 1 0 rfl rfl (ti_in (a := 0) (by decide) (by decide) (by decide)) dX8_feed_70 (fun H locs hP hD hS => ?_)
  obtain ⟨f_9, ef_9⟩ : ∃ g : Nat → Int32, g = upd zf (Int32.toNatClampNeg 0) (vp_nar .byte x_8) := ⟨_, rfl⟩
  rw [← ef_9] at hP hD
  have bf_9 : FB f_9 := by rw [ef_9]; exact FB_upd FB_zf _ _
  have hP : va_P D vwCl [(h0, .inr (7, [.int 0, g1, g2, g3, g4, g5, g6, g7, g8, g9, g10, g11, g12, g13, g14, g15, g16, g17, g18, g19, g20, g21, .ref h1, .int 0, g22, g23, g24, g25, g26, g27])), (h1, .inl (cB, 100, .inl f_9))] H := hP
  have hD : va_D A [(h0, .inr (7, [.int 0, g1, g2, g3, g4, g5, g6, g7, g8, g9, g10, g11, g12, g13, g14, g15, g16, g17, g18, g19, g20, g21, .ref h1, .int 0, g22, g23, g24, g25, g26, g27])), (h1, .inl (cB, 100, .inl f_9))] := hD
  refine lv_aload_n hx hb dX8_feed_71 rfl (lv_at hl 1 rfl) ?_
  refine lv_dup hx hb dX8_feed_72 rfl ?_
  refine va_get (D := D) (ci := 7) (v := .int 0) (C := RX8) (T := TX8) (N := 30) hx hb hts inX8_feed_X8 hown hK hP 0 rfl rfl 23 (by decide) (hts _ wdX8_feed_1) (fun _ h9 => h9) rfl dX8_feed_73 ?_
  refine lv_iconst (v := 1) hx hb dX8_feed_76 (by decide) ?_
  refine lv_iadd hx hb dX8_feed_77 ?_
  refine lv_topi (fun z_10 ez_10 => ?_)
  obtain rfl : z_10 = 1 := ez_10.trans (by decide)
  refine va_put (D := D) (ci := 7) (v := .int 1) (ty := .int) (C := RX8) (T := TX8) (N := 30) hx hb hts inX8_feed_X8 tyX8 tyX8_ok nmX8 hown hK hP hD hS 0 rfl rfl 23 (by decide) (hts _ wdX8_feed_1) (fun _ h9 => h9) rfl (by decide +kernel) rfl rfl (Nat.le_of_ble_eq_true rfl) dX8_feed_78 (fun H locs hP hD hS => ?_)
  have hP : va_P D vwCl [(h0, .inr (7, [.int 0, g1, g2, g3, g4, g5, g6, g7, g8, g9, g10, g11, g12, g13, g14, g15, g16, g17, g18, g19, g20, g21, .ref h1, .int 1, g22, g23, g24, g25, g26, g27])), (h1, .inl (cB, 100, .inl f_9))] H := hP
  have hD : va_D A [(h0, .inr (7, [.int 0, g1, g2, g3, g4, g5, g6, g7, g8, g9, g10, g11, g12, g13, g14, g15, g16, g17, g18, g19, g20, g21, .ref h1, .int 1, g22, g23, g24, g25, g26, g27])), (h1, .inl (cB, 100, .inl f_9))] := hD
  refine lv_iinc (v := 1) (lv' := [(4, .int 1), (0, .ref h0), (1, .long y0), (3, .int 3)]) hx hb dX8_feed_81 hl (k := 0) rfl (by decide) (by decide) rfl (fun ls hl => ?_)
  refine lv_goto (tgt := 48) hx hb dX8_feed_84 (by decide) ?_
  refine lv_iload hx hb dX8_feed_48 (lv_at hl 0 rfl) ?_
  refine lv_if_lt (tgt := 87) hx hb dX8_feed_50 (by decide) (fun c => absurd c (by decide)) (fun c => ?_)
  refine lv_aload_n hx hb dX8_feed_53 rfl (lv_at hl 1 rfl) ?_
  refine va_get (D := D) (ci := 7) (v := .ref h1) (C := RX8) (T := TX8) (N := 30) hx hb hts inX8_feed_X8 hown hK hP 0 rfl rfl 22 (by decide) (hts _ wdX8_feed_2) (fun _ h9 => h9) rfl dX8_feed_54 ?_
  refine lv_aload_n hx hb dX8_feed_57 rfl (lv_at hl 1 rfl) ?_
  refine va_get (D := D) (ci := 7) (v := .int 1) (C := RX8) (T := TX8) (N := 30) hx hb hts inX8_feed_X8 hown hK hP 0 rfl rfl 23 (by decide) (hts _ wdX8_feed_1) (fun _ h9 => h9) rfl dX8_feed_58 ?_
  refine lv_lload_n hx hb dX8_feed_61 rfl (lv_at hl 2 rfl) ?_
  refine lv_bipush (v := 8) hx hb dX8_feed_62 (by decide) ?_
  refine lv_iload hx hb dX8_feed_64 (lv_at hl 0 rfl) ?_
  refine lv_imul hx hb dX8_feed_66 ?_
  refine lv_topi (fun z_11 ez_11 => ?_)
  obtain rfl : z_11 = 8 := ez_11.trans (by decide)
  refine lv_lshr hx hb dX8_feed_67 rfl ?_
  refine lv_topl (fun y_12 _ => ?_)
  refine lv_l2i hx hb dX8_feed_68 rfl ?_
  refine lv_topi (fun x_13 ex_13 => ?_)
  refine lv_i2b hx hb dX8_feed_69 rfl ?_
  refine lv_topi (fun x_14 ex_14 => ?_)
  refine va_bast hx hb hK hP hD hS 1 0 rfl rfl (ti_in (a := 1) (by decide) (by decide) (by decide)) dX8_feed_70 (fun H locs hP hD hS => ?_)
  obtain ⟨f_15, ef_15⟩ : ∃ g : Nat → Int32, g = upd f_9 (Int32.toNatClampNeg 1) (vp_nar .byte x_14) := ⟨_, rfl⟩
  rw [← ef_15] at hP hD
  have bf_15 : FB f_15 := by rw [ef_15]; exact FB_upd bf_9 _ _
  have hP : va_P D vwCl [(h0, .inr (7, [.int 0, g1, g2, g3, g4, g5, g6, g7, g8, g9, g10, g11, g12, g13, g14, g15, g16, g17, g18, g19, g20, g21, .ref h1, .int 1, g22, g23, g24, g25, g26, g27])), (h1, .inl (cB, 100, .inl f_15))] H := hP
  have hD : va_D A [(h0, .inr (7, [.int 0, g1, g2, g3, g4, g5, g6, g7, g8, g9, g10, g11, g12, g13, g14, g15, g16, g17, g18, g19, g20, g21, .ref h1, .int 1, g22, g23, g24, g25, g26, g27])), (h1, .inl (cB, 100, .inl f_15))] := hD
  refine lv_aload_n hx hb dX8_feed_71 rfl (lv_at hl 1 rfl) ?_
  refine lv_dup hx hb dX8_feed_72 rfl ?_
  refine va_get (D := D) (ci := 7) (v := .int 1) (C := RX8) (T := TX8) (N := 30) hx hb hts inX8_feed_X8 hown hK hP 0 rfl rfl 23 (by decide) (hts _ wdX8_feed_1) (fun _ h9 => h9) rfl dX8_feed_73 ?_
  refine lv_iconst (v := 1) hx hb dX8_feed_76 (by decide) ?_
  refine lv_iadd hx hb dX8_feed_77 ?_
  refine lv_topi (fun z_16 ez_16 => ?_)
  obtain rfl : z_16 = 2 := ez_16.trans (by decide)
  refine va_put (D := D) (ci := 7) (v := .int 2) (ty := .int) (C := RX8) (T := TX8) (N := 30) hx hb hts inX8_feed_X8 tyX8 tyX8_ok nmX8 hown hK hP hD hS 0 rfl rfl 23 (by decide) (hts _ wdX8_feed_1) (fun _ h9 => h9) rfl (by decide +kernel) rfl rfl (Nat.le_of_ble_eq_true rfl) dX8_feed_78 (fun H locs hP hD hS => ?_)
  have hP : va_P D vwCl [(h0, .inr (7, [.int 0, g1, g2, g3, g4, g5, g6, g7, g8, g9, g10, g11, g12, g13, g14, g15, g16, g17, g18, g19, g20, g21, .ref h1, .int 2, g22, g23, g24, g25, g26, g27])), (h1, .inl (cB, 100, .inl f_15))] H := hP
  have hD : va_D A [(h0, .inr (7, [.int 0, g1, g2, g3, g4, g5, g6, g7, g8, g9, g10, g11, g12, g13, g14, g15, g16, g17, g18, g19, g20, g21, .ref h1, .int 2, g22, g23, g24, g25, g26, g27])), (h1, .inl (cB, 100, .inl f_15))] := hD
  refine lv_iinc (v := 0) (lv' := [(4, .int 0), (0, .ref h0), (1, .long y0), (3, .int 3)]) hx hb dX8_feed_81 hl (k := 0) rfl (by decide) (by decide) rfl (fun ls hl => ?_)
  refine lv_goto (tgt := 48) hx hb dX8_feed_84 (by decide) ?_
  refine lv_iload hx hb dX8_feed_48 (lv_at hl 0 rfl) ?_
  refine lv_if_lt (tgt := 87) hx hb dX8_feed_50 (by decide) (fun c => absurd c (by decide)) (fun c => ?_)
  refine lv_aload_n hx hb dX8_feed_53 rfl (lv_at hl 1 rfl) ?_
  refine va_get (D := D) (ci := 7) (v := .ref h1) (C := RX8) (T := TX8) (N := 30) hx hb hts inX8_feed_X8 hown hK hP 0 rfl rfl 22 (by decide) (hts _ wdX8_feed_2) (fun _ h9 => h9) rfl dX8_feed_54 ?_
  refine lv_aload_n hx hb dX8_feed_57 rfl (lv_at hl 1 rfl) ?_
  refine va_get (D := D) (ci := 7) (v := .int 2) (C := RX8) (T := TX8) (N := 30) hx hb hts inX8_feed_X8 hown hK hP 0 rfl rfl 23 (by decide) (hts _ wdX8_feed_1) (fun _ h9 => h9) rfl dX8_feed_58 ?_
  refine lv_lload_n hx hb dX8_feed_61 rfl (lv_at hl 2 rfl) ?_
  refine lv_bipush (v := 8) hx hb dX8_feed_62 (by decide) ?_
  refine lv_iload hx hb dX8_feed_64 (lv_at hl 0 rfl) ?_
  refine lv_imul hx hb dX8_feed_66 ?_
  refine lv_topi (fun z_17 ez_17 => ?_)
  obtain rfl : z_17 = 0 := ez_17.trans (by decide)
  refine lv_lshr hx hb dX8_feed_67 rfl ?_
  refine lv_topl (fun y_18 _ => ?_)
  refine lv_l2i hx hb dX8_feed_68 rfl ?_
  refine lv_topi (fun x_19 ex_19 => ?_)
  refine lv_i2b hx hb dX8_feed_69 rfl ?_
  refine lv_topi (fun x_20 ex_20 => ?_)
  refine va_bast hx hb hK hP hD hS 1 0 rfl rfl (ti_in (a := 2) (by decide) (by decide) (by decide)) dX8_feed_70 (fun H locs hP hD hS => ?_)
  obtain ⟨f_21, ef_21⟩ : ∃ g : Nat → Int32, g = upd f_15 (Int32.toNatClampNeg 2) (vp_nar .byte x_20) := ⟨_, rfl⟩
  rw [← ef_21] at hP hD
  have bf_21 : FB f_21 := by rw [ef_21]; exact FB_upd bf_15 _ _
  have hP : va_P D vwCl [(h0, .inr (7, [.int 0, g1, g2, g3, g4, g5, g6, g7, g8, g9, g10, g11, g12, g13, g14, g15, g16, g17, g18, g19, g20, g21, .ref h1, .int 2, g22, g23, g24, g25, g26, g27])), (h1, .inl (cB, 100, .inl f_21))] H := hP
  have hD : va_D A [(h0, .inr (7, [.int 0, g1, g2, g3, g4, g5, g6, g7, g8, g9, g10, g11, g12, g13, g14, g15, g16, g17, g18, g19, g20, g21, .ref h1, .int 2, g22, g23, g24, g25, g26, g27])), (h1, .inl (cB, 100, .inl f_21))] := hD
  refine lv_aload_n hx hb dX8_feed_71 rfl (lv_at hl 1 rfl) ?_
  refine lv_dup hx hb dX8_feed_72 rfl ?_
  refine va_get (D := D) (ci := 7) (v := .int 2) (C := RX8) (T := TX8) (N := 30) hx hb hts inX8_feed_X8 hown hK hP 0 rfl rfl 23 (by decide) (hts _ wdX8_feed_1) (fun _ h9 => h9) rfl dX8_feed_73 ?_
  refine lv_iconst (v := 1) hx hb dX8_feed_76 (by decide) ?_
  refine lv_iadd hx hb dX8_feed_77 ?_
  refine lv_topi (fun z_22 ez_22 => ?_)
  obtain rfl : z_22 = 3 := ez_22.trans (by decide)
  refine va_put (D := D) (ci := 7) (v := .int 3) (ty := .int) (C := RX8) (T := TX8) (N := 30) hx hb hts inX8_feed_X8 tyX8 tyX8_ok nmX8 hown hK hP hD hS 0 rfl rfl 23 (by decide) (hts _ wdX8_feed_1) (fun _ h9 => h9) rfl (by decide +kernel) rfl rfl (Nat.le_of_ble_eq_true rfl) dX8_feed_78 (fun H locs hP hD hS => ?_)
  have hP : va_P D vwCl [(h0, .inr (7, [.int 0, g1, g2, g3, g4, g5, g6, g7, g8, g9, g10, g11, g12, g13, g14, g15, g16, g17, g18, g19, g20, g21, .ref h1, .int 3, g22, g23, g24, g25, g26, g27])), (h1, .inl (cB, 100, .inl f_21))] H := hP
  have hD : va_D A [(h0, .inr (7, [.int 0, g1, g2, g3, g4, g5, g6, g7, g8, g9, g10, g11, g12, g13, g14, g15, g16, g17, g18, g19, g20, g21, .ref h1, .int 3, g22, g23, g24, g25, g26, g27])), (h1, .inl (cB, 100, .inl f_21))] := hD
  refine lv_iinc (v := (-1)) (lv' := [(4, .int (-1)), (0, .ref h0), (1, .long y0), (3, .int 3)]) hx hb dX8_feed_81 hl (k := 0) rfl (by decide) (by decide) rfl (fun ls hl => ?_)
  refine lv_goto (tgt := 48) hx hb dX8_feed_84 (by decide) ?_
  refine lv_iload hx hb dX8_feed_48 (lv_at hl 0 rfl) ?_
  refine lv_if_lt (tgt := 87) hx hb dX8_feed_50 (by decide) (fun c => ?_) (fun c => absurd (by decide) c)
  refine lv_aload_n hx hb dX8_feed_87 rfl (lv_at hl 1 rfl) ?_
  refine va_get (D := D) (ci := 7) (v := .int 3) (C := RX8) (T := TX8) (N := 30) hx hb hts inX8_feed_X8 hown hK hP 0 rfl rfl 23 (by decide) (hts _ wdX8_feed_1) (fun _ h9 => h9) rfl dX8_feed_88 ?_
  exact kr_i () hx hb hr hlocks (hP.sub [] rfl) (hD.sub [] (by decide) rfl) hS rfl dX8_feed_91
set_option maxHeartbeats 4000000 in
set_option maxRecDepth 100000 in
theorem K27_X7_feed (l : Launch) (D : va_G) (cB cI cZ : ClassId) (sz : Nat) (h0 : Nat) (h1 : Nat)  (y0 : Int64) (g0 : Value) (g1 : Value) (g2 : Value) (g3 : Value) (g4 : Value) (g5 : Value) (g6 : Value)  :
    CtI l D cB cI cZ yX7_feed wsX7_feed { frames := 0, cells := 0, slots := 0, locals := 0 } [.ref h0, .long y0, .int 4] [(h0, .inr (6, [g0, g1, g2, g3, g4, g5, .ref h1, .int 0, g6])), (h1, .inl (cB, 100, .inl zf))] sz 0 0
      (fun (r : Int32) (u : Unit) => r = 4)
      (fun u => []) := by
  refine mk_metI (cc := cX7_feed) (maxL := 5) (ret := (some .int)) (by decide) rfl (Nat.le_of_ble_eq_true rfl) ?_
  intro p e s m below meth c A hx hb hr hml hts hown hlocks hin hP hK hN hD hA hS ls hl
  have hown : s.vm.findClass RX7 = some m.cls := hown
  have hl : lv_has ls 5 [(0, .ref h0), (1, .long y0), (3, .int 4)] := hl
  refine lv_iload_n hx hb dX7_feed_0 rfl (lv_at hl 2 rfl) ?_
  refine lv_if_lt (tgt := 10) hx hb dX7_feed_1 (by decide) (fun c => absurd c (by decide)) (fun c => ?_)
  refine lv_iload_n hx hb dX7_feed_4 rfl (lv_at hl 2 rfl) ?_
  refine lv_bipush (v := 8) hx hb dX7_feed_5 (by decide) ?_
  refine lv_icmp_le (tgt := 13) hx hb dX7_feed_7 (by decide) (fun c => ?_) (fun c => absurd (by decide) c)
  refine lv_iload_n hx hb dX7_feed_13 rfl (lv_at hl 2 rfl) ?_
  refine lv_if_ne (tgt := 24) hx hb dX7_feed_14 (by decide) (fun c => ?_) (fun c => absurd c (by decide))
  refine lv_aload_n hx hb dX7_feed_24 rfl (lv_at hl 0 rfl) ?_
  refine va_get (D := D) (ci := 6) (v := .int 0) (C := RX7) (T := TX7) (N := 9) hx hb hts inX7_feed_X7 hown hK hP 0 rfl rfl 7 (by decide) (hts _ wdX7_feed_0) (fun _ h9 => h9) rfl dX7_feed_25 ?_
  refine lv_iload_n hx hb dX7_feed_28 rfl (lv_at hl 2 rfl) ?_
  refine lv_iadd hx hb dX7_feed_29 ?_
  refine lv_topi (fun z_1 ez_1 => ?_)
  obtain rfl : z_1 = 4 := ez_1.trans (by decide)
  refine lv_bipush (v := 100) hx hb dX7_feed_30 (by decide) ?_
  refine lv_icmp_le (tgt := 38) hx hb dX7_feed_32 (by decide) (fun c => ?_) (fun c => absurd (by decide) c)
  refine lv_iload_n hx hb dX7_feed_38 rfl (lv_at hl 2 rfl) ?_
  refine lv_iconst (v := 1) hx hb dX7_feed_39 (by decide) ?_
  refine lv_isub hx hb dX7_feed_40 ?_
  refine lv_topi (fun z_2 ez_2 => ?_)
  obtain rfl : z_2 = 3 := ez_2.trans (by decide)
  refine lv_istore (lv' := [(4, .int 3), (0, .ref h0), (1, .long y0), (3, .int 4)]) hx hb dX7_feed_41 hl (by decide) rfl (fun ls hl => ?_)
  refine lv_iload hx hb dX7_feed_43 (lv_at hl 0 rfl) ?_
  refine lv_if_lt (tgt := 82) hx hb dX7_feed_45 (by decide) (fun c => absurd c (by decide)) (fun c => ?_)
  refine lv_aload_n hx hb dX7_feed_48 rfl (lv_at hl 1 rfl) ?_
  refine va_get (D := D) (ci := 6) (v := .ref h1) (C := RX7) (T := TX7) (N := 9) hx hb hts inX7_feed_X7 hown hK hP 0 rfl rfl 6 (by decide) (hts _ wdX7_feed_1) (fun _ h9 => h9) rfl dX7_feed_49 ?_
  refine lv_aload_n hx hb dX7_feed_52 rfl (lv_at hl 1 rfl) ?_
  refine va_get (D := D) (ci := 6) (v := .int 0) (C := RX7) (T := TX7) (N := 9) hx hb hts inX7_feed_X7 hown hK hP 0 rfl rfl 7 (by decide) (hts _ wdX7_feed_0) (fun _ h9 => h9) rfl dX7_feed_53 ?_
  refine lv_lload_n hx hb dX7_feed_56 rfl (lv_at hl 2 rfl) ?_
  refine lv_bipush (v := 8) hx hb dX7_feed_57 (by decide) ?_
  refine lv_iload hx hb dX7_feed_59 (lv_at hl 0 rfl) ?_
  refine lv_imul hx hb dX7_feed_61 ?_
  refine lv_topi (fun z_3 ez_3 => ?_)
  obtain rfl : z_3 = 24 := ez_3.trans (by decide)
  refine lv_lushr hx hb dX7_feed_62 rfl ?_
  refine lv_topl (fun y_4 _ => ?_)
  refine lv_l2i hx hb dX7_feed_63 rfl ?_
  refine lv_topi (fun x_5 ex_5 => ?_)
  refine lv_i2b hx hb dX7_feed_64 rfl ?_
  refine lv_topi (fun x_6 ex_6 => ?_)
  refine va_bast hx hb hK hP hD hS 1 0 rfl rfl (ti_in (a := 0) (by decide) (by decide) (by decide)) dX7_feed_65 (fun H locs hP hD hS => ?_)
  obtain ⟨f_7, ef_7⟩ : ∃ g : Nat → Int32, g = upd zf (Int32.toNatClampNeg 0) (vp_nar .byte x_6) := ⟨_, rfl⟩
  rw [← ef_7] at hP hD
  have bf_7 : FB f_7 := by rw [ef_7]; exact FB_upd FB_zf _ _
  have hP : va_P D vwCl [(h0, .inr (6, [g0, g1, g2, g3, g4, g5, .ref h1, .int 0, g6])), (h1, .inl (cB, 100, .inl f_7))] H := hP
  have hD : va_D A [(h0, .inr (6, [g0, g1, g2, g3, g4, g5, .ref h1, .int 0, g6])), (h1, .inl (cB, 100, .inl f_7))] := hD
  refine lv_aload_n hx hb dX7_feed_66 rfl (lv_at hl 1 rfl) ?_
  refine lv_dup hx hb dX7_feed_67 rfl ?_
  refine va_get (D := D) (ci := 6) (v := .int 0) (C := RX7) (T := TX7) (N := 9) hx hb hts inX7_feed_X7 hown hK hP 0 rfl rfl 7 (by decide) (hts _ wdX7_feed_0) (fun _ h9 => h9) rfl dX7_feed_68 ?_
  refine lv_iconst (v := 1) hx hb dX7_feed_71 (by decide) ?_
  refine lv_iadd hx hb dX7_feed_72 ?_
  refine lv_topi (fun z_8 ez_8 => ?_)
  obtain rfl : z_8 = 1 := ez_8.trans (by decide)
  refine va_put (D := D) (ci := 6) (v := .int 1) (ty := .int) (C := RX7) (T := TX7) (N := 9) hx hb hts inX7_feed_X7 tyX7 tyX7_ok nmX7 hown hK hP hD hS 0 rfl rfl 7 (by decide) (hts _ wdX7_feed_0) (fun _ h9 => h9) rfl (by decide +kernel) rfl rfl (Nat.le_of_ble_eq_true rfl) dX7_feed_73 (fun H locs hP hD hS => ?_)
  have hP : va_P D vwCl [(h0, .inr (6, [g0, g1, g2, g3, g4, g5, .ref h1, .int 1, g6])), (h1, .inl (cB, 100, .inl f_7))] H := hP
  have hD : va_D A [(h0, .inr (6, [g0, g1, g2, g3, g4, g5, .ref h1, .int 1, g6])), (h1, .inl (cB, 100, .inl f_7))] := hD
  refine lv_iinc (v := 2) (lv' := [(4, .int 2), (0, .ref h0), (1, .long y0), (3, .int 4)]) hx hb dX7_feed_76 hl (k := 0) rfl (by decide) (by decide) rfl (fun ls hl => ?_)
  refine lv_goto (tgt := 43) hx hb dX7_feed_79 (by decide) ?_
  refine lv_iload hx hb dX7_feed_43 (lv_at hl 0 rfl) ?_
  refine lv_if_lt (tgt := 82) hx hb dX7_feed_45 (by decide) (fun c => absurd c (by decide)) (fun c => ?_)
  refine lv_aload_n hx hb dX7_feed_48 rfl (lv_at hl 1 rfl) ?_
  refine va_get (D := D) (ci := 6) (v := .ref h1) (C := RX7) (T := TX7) (N := 9) hx hb hts inX7_feed_X7 hown hK hP 0 rfl rfl 6 (by decide) (hts _ wdX7_feed_1) (fun _ h9 => h9) rfl dX7_feed_49 ?_
  refine lv_aload_n hx hb dX7_feed_52 rfl (lv_at hl 1 rfl) ?_
  refine va_get (D := D) (ci := 6) (v := .int 1) (C := RX7) (T := TX7) (N := 9) hx hb hts inX7_feed_X7 hown hK hP 0 rfl rfl 7 (by decide) (hts _ wdX7_feed_0) (fun _ h9 => h9) rfl dX7_feed_53 ?_
  refine lv_lload_n hx hb dX7_feed_56 rfl (lv_at hl 2 rfl) ?_
  refine lv_bipush (v := 8) hx hb dX7_feed_57 (by decide) ?_
  refine lv_iload hx hb dX7_feed_59 (lv_at hl 0 rfl) ?_
  refine lv_imul hx hb dX7_feed_61 ?_
  refine lv_topi (fun z_9 ez_9 => ?_)
  obtain rfl : z_9 = 16 := ez_9.trans (by decide)
  refine lv_lushr hx hb dX7_feed_62 rfl ?_
  refine lv_topl (fun y_10 _ => ?_)
  refine lv_l2i hx hb dX7_feed_63 rfl ?_
  refine lv_topi (fun x_11 ex_11 => ?_)
  refine lv_i2b hx hb dX7_feed_64 rfl ?_
  refine lv_topi (fun x_12 ex_12 => ?_)
  refine va_bast hx hb hK hP hD hS 1 0 rfl rfl (ti_in (a := 1) (by decide) (by decide) (by decide)) dX7_feed_65 (fun H locs hP hD hS => ?_)
  obtain ⟨f_13, ef_13⟩ : ∃ g : Nat → Int32, g = upd f_7 (Int32.toNatClampNeg 1) (vp_nar .byte x_12) := ⟨_, rfl⟩
  rw [← ef_13] at hP hD
  have bf_13 : FB f_13 := by rw [ef_13]; exact FB_upd bf_7 _ _
  have hP : va_P D vwCl [(h0, .inr (6, [g0, g1, g2, g3, g4, g5, .ref h1, .int 1, g6])), (h1, .inl (cB, 100, .inl f_13))] H := hP
  have hD : va_D A [(h0, .inr (6, [g0, g1, g2, g3, g4, g5, .ref h1, .int 1, g6])), (h1, .inl (cB, 100, .inl f_13))] := hD
  refine lv_aload_n hx hb dX7_feed_66 rfl (lv_at hl 1 rfl) ?_
  refine lv_dup hx hb dX7_feed_67 rfl ?_
  refine va_get (D := D) (ci := 6) (v := .int 1) (C := RX7) (T := TX7) (N := 9) hx hb hts inX7_feed_X7 hown hK hP 0 rfl rfl 7 (by decide) (hts _ wdX7_feed_0) (fun _ h9 => h9) rfl dX7_feed_68 ?_
  refine lv_iconst (v := 1) hx hb dX7_feed_71 (by decide) ?_
  refine lv_iadd hx hb dX7_feed_72 ?_
  refine lv_topi (fun z_14 ez_14 => ?_)
  obtain rfl : z_14 = 2 := ez_14.trans (by decide)
  refine va_put (D := D) (ci := 6) (v := .int 2) (ty := .int) (C := RX7) (T := TX7) (N := 9) hx hb hts inX7_feed_X7 tyX7 tyX7_ok nmX7 hown hK hP hD hS 0 rfl rfl 7 (by decide) (hts _ wdX7_feed_0) (fun _ h9 => h9) rfl (by decide +kernel) rfl rfl (Nat.le_of_ble_eq_true rfl) dX7_feed_73 (fun H locs hP hD hS => ?_)
  have hP : va_P D vwCl [(h0, .inr (6, [g0, g1, g2, g3, g4, g5, .ref h1, .int 2, g6])), (h1, .inl (cB, 100, .inl f_13))] H := hP
  have hD : va_D A [(h0, .inr (6, [g0, g1, g2, g3, g4, g5, .ref h1, .int 2, g6])), (h1, .inl (cB, 100, .inl f_13))] := hD
  refine lv_iinc (v := 1) (lv' := [(4, .int 1), (0, .ref h0), (1, .long y0), (3, .int 4)]) hx hb dX7_feed_76 hl (k := 0) rfl (by decide) (by decide) rfl (fun ls hl => ?_)
  refine lv_goto (tgt := 43) hx hb dX7_feed_79 (by decide) ?_
  refine lv_iload hx hb dX7_feed_43 (lv_at hl 0 rfl) ?_
  refine lv_if_lt (tgt := 82) hx hb dX7_feed_45 (by decide) (fun c => absurd c (by decide)) (fun c => ?_)
  refine lv_aload_n hx hb dX7_feed_48 rfl (lv_at hl 1 rfl) ?_
  refine va_get (D := D) (ci := 6) (v := .ref h1) (C := RX7) (T := TX7) (N := 9) hx hb hts inX7_feed_X7 hown hK hP 0 rfl rfl 6 (by decide) (hts _ wdX7_feed_1) (fun _ h9 => h9) rfl dX7_feed_49 ?_
  refine lv_aload_n hx hb dX7_feed_52 rfl (lv_at hl 1 rfl) ?_
  refine va_get (D := D) (ci := 6) (v := .int 2) (C := RX7) (T := TX7) (N := 9) hx hb hts inX7_feed_X7 hown hK hP 0 rfl rfl 7 (by decide) (hts _ wdX7_feed_0) (fun _ h9 => h9) rfl dX7_feed_53 ?_
  refine lv_lload_n hx hb dX7_feed_56 rfl (lv_at hl 2 rfl) ?_
  refine lv_bipush (v := 8) hx hb dX7_feed_57 (by decide) ?_
  refine lv_iload hx hb dX7_feed_59 (lv_at hl 0 rfl) ?_
  refine lv_imul hx hb dX7_feed_61 ?_
  refine lv_topi (fun z_15 ez_15 => ?_)
  obtain rfl : z_15 = 8 := ez_15.trans (by decide)
  refine lv_lushr hx hb dX7_feed_62 rfl ?_
  refine lv_topl (fun y_16 _ => ?_)
  refine lv_l2i hx hb dX7_feed_63 rfl ?_
  refine lv_topi (fun x_17 ex_17 => ?_)
  refine lv_i2b hx hb dX7_feed_64 rfl ?_
  refine lv_topi (fun x_18 ex_18 => ?_)
  refine va_bast hx hb hK hP hD hS 1 0 rfl rfl (ti_in (a := 2) (by decide) (by decide) (by decide)) dX7_feed_65 (fun H locs hP hD hS => ?_)
  obtain ⟨f_19, ef_19⟩ : ∃ g : Nat → Int32, g = upd f_13 (Int32.toNatClampNeg 2) (vp_nar .byte x_18) := ⟨_, rfl⟩
  rw [← ef_19] at hP hD
  have bf_19 : FB f_19 := by rw [ef_19]; exact FB_upd bf_13 _ _
  have hP : va_P D vwCl [(h0, .inr (6, [g0, g1, g2, g3, g4, g5, .ref h1, .int 2, g6])), (h1, .inl (cB, 100, .inl f_19))] H := hP
  have hD : va_D A [(h0, .inr (6, [g0, g1, g2, g3, g4, g5, .ref h1, .int 2, g6])), (h1, .inl (cB, 100, .inl f_19))] := hD
  refine lv_aload_n hx hb dX7_feed_66 rfl (lv_at hl 1 rfl) ?_
  refine lv_dup hx hb dX7_feed_67 rfl ?_
  refine va_get (D := D) (ci := 6) (v := .int 2) (C := RX7) (T := TX7) (N := 9) hx hb hts inX7_feed_X7 hown hK hP 0 rfl rfl 7 (by decide) (hts _ wdX7_feed_0) (fun _ h9 => h9) rfl dX7_feed_68 ?_
  refine lv_iconst (v := 1) hx hb dX7_feed_71 (by decide) ?_
  refine lv_iadd hx hb dX7_feed_72 ?_
  refine lv_topi (fun z_20 ez_20 => ?_)
  obtain rfl : z_20 = 3 := ez_20.trans (by decide)
  refine va_put (D := D) (ci := 6) (v := .int 3) (ty := .int) (C := RX7) (T := TX7) (N := 9) hx hb hts inX7_feed_X7 tyX7 tyX7_ok nmX7 hown hK hP hD hS 0 rfl rfl 7 (by decide) (hts _ wdX7_feed_0) (fun _ h9 => h9) rfl (by decide +kernel) rfl rfl (Nat.le_of_ble_eq_true rfl) dX7_feed_73 (fun H locs hP hD hS => ?_)
  have hP : va_P D vwCl [(h0, .inr (6, [g0, g1, g2, g3, g4, g5, .ref h1, .int 3, g6])), (h1, .inl (cB, 100, .inl f_19))] H := hP
  have hD : va_D A [(h0, .inr (6, [g0, g1, g2, g3, g4, g5, .ref h1, .int 3, g6])), (h1, .inl (cB, 100, .inl f_19))] := hD
  refine lv_iinc (v := 0) (lv' := [(4, .int 0), (0, .ref h0), (1, .long y0), (3, .int 4)]) hx hb dX7_feed_76 hl (k := 0) rfl (by decide) (by decide) rfl (fun ls hl => ?_)
  refine lv_goto (tgt := 43) hx hb dX7_feed_79 (by decide) ?_
  refine lv_iload hx hb dX7_feed_43 (lv_at hl 0 rfl) ?_
  refine lv_if_lt (tgt := 82) hx hb dX7_feed_45 (by decide) (fun c => absurd c (by decide)) (fun c => ?_)
  refine lv_aload_n hx hb dX7_feed_48 rfl (lv_at hl 1 rfl) ?_
  refine va_get (D := D) (ci := 6) (v := .ref h1) (C := RX7) (T := TX7) (N := 9) hx hb hts inX7_feed_X7 hown hK hP 0 rfl rfl 6 (by decide) (hts _ wdX7_feed_1) (fun _ h9 => h9) rfl dX7_feed_49 ?_
  refine lv_aload_n hx hb dX7_feed_52 rfl (lv_at hl 1 rfl) ?_
  refine va_get (D := D) (ci := 6) (v := .int 3) (C := RX7) (T := TX7) (N := 9) hx hb hts inX7_feed_X7 hown hK hP 0 rfl rfl 7 (by decide) (hts _ wdX7_feed_0) (fun _ h9 => h9) rfl dX7_feed_53 ?_
  refine lv_lload_n hx hb dX7_feed_56 rfl (lv_at hl 2 rfl) ?_
  refine lv_bipush (v := 8) hx hb dX7_feed_57 (by decide) ?_
  refine lv_iload hx hb dX7_feed_59 (lv_at hl 0 rfl) ?_
  refine lv_imul hx hb dX7_feed_61 ?_
  refine lv_topi (fun z_21 ez_21 => ?_)
  obtain rfl : z_21 = 0 := ez_21.trans (by decide)
  refine lv_lushr hx hb dX7_feed_62 rfl ?_
  refine lv_topl (fun y_22 _ => ?_)
  refine lv_l2i hx hb dX7_feed_63 rfl ?_
  refine lv_topi (fun x_23 ex_23 => ?_)
  refine lv_i2b hx hb dX7_feed_64 rfl ?_
  refine lv_topi (fun x_24 ex_24 => ?_)
  refine va_bast hx hb hK hP hD hS 1 0 rfl rfl (ti_in (a := 3) (by decide) (by decide) (by decide)) dX7_feed_65 (fun H locs hP hD hS => ?_)
  obtain ⟨f_25, ef_25⟩ : ∃ g : Nat → Int32, g = upd f_19 (Int32.toNatClampNeg 3) (vp_nar .byte x_24) := ⟨_, rfl⟩
  rw [← ef_25] at hP hD
  have bf_25 : FB f_25 := by rw [ef_25]; exact FB_upd bf_19 _ _
  have hP : va_P D vwCl [(h0, .inr (6, [g0, g1, g2, g3, g4, g5, .ref h1, .int 3, g6])), (h1, .inl (cB, 100, .inl f_25))] H := hP
  have hD : va_D A [(h0, .inr (6, [g0, g1, g2, g3, g4, g5, .ref h1, .int 3, g6])), (h1, .inl (cB, 100, .inl f_25))] := hD
  refine lv_aload_n hx hb dX7_feed_66 rfl (lv_at hl 1 rfl) ?_
  refine lv_dup hx hb dX7_feed_67 rfl ?_
  refine va_get (D := D) (ci := 6) (v := .int 3) (C := RX7) (T := TX7) (N := 9) hx hb hts inX7_feed_X7 hown hK hP 0 rfl rfl 7 (by decide) (hts _ wdX7_feed_0) (fun _ h9 => h9) rfl dX7_feed_68 ?_
  refine lv_iconst (v := 1) hx hb dX7_feed_71 (by decide) ?_
  refine lv_iadd hx hb dX7_feed_72 ?_
  refine lv_topi (fun z_26 ez_26 => ?_)
  obtain rfl : z_26 = 4 := ez_26.trans (by decide)
  refine va_put (D := D) (ci := 6) (v := .int 4) (ty := .int) (C := RX7) (T := TX7) (N := 9) hx hb hts inX7_feed_X7 tyX7 tyX7_ok nmX7 hown hK hP hD hS 0 rfl rfl 7 (by decide) (hts _ wdX7_feed_0) (fun _ h9 => h9) rfl (by decide +kernel) rfl rfl (Nat.le_of_ble_eq_true rfl) dX7_feed_73 (fun H locs hP hD hS => ?_)
  have hP : va_P D vwCl [(h0, .inr (6, [g0, g1, g2, g3, g4, g5, .ref h1, .int 4, g6])), (h1, .inl (cB, 100, .inl f_25))] H := hP
  have hD : va_D A [(h0, .inr (6, [g0, g1, g2, g3, g4, g5, .ref h1, .int 4, g6])), (h1, .inl (cB, 100, .inl f_25))] := hD
  refine lv_iinc (v := (-1)) (lv' := [(4, .int (-1)), (0, .ref h0), (1, .long y0), (3, .int 4)]) hx hb dX7_feed_76 hl (k := 0) rfl (by decide) (by decide) rfl (fun ls hl => ?_)
  refine lv_goto (tgt := 43) hx hb dX7_feed_79 (by decide) ?_
  refine lv_iload hx hb dX7_feed_43 (lv_at hl 0 rfl) ?_
  refine lv_if_lt (tgt := 82) hx hb dX7_feed_45 (by decide) (fun c => ?_) (fun c => absurd (by decide) c)
  refine lv_aload_n hx hb dX7_feed_82 rfl (lv_at hl 1 rfl) ?_
  refine va_get (D := D) (ci := 6) (v := .int 4) (C := RX7) (T := TX7) (N := 9) hx hb hts inX7_feed_X7 hown hK hP 0 rfl rfl 7 (by decide) (hts _ wdX7_feed_0) (fun _ h9 => h9) rfl dX7_feed_83 ?_
  exact kr_i () hx hb hr hlocks (hP.sub [] rfl) (hD.sub [] (by decide) rfl) hS rfl dX7_feed_86
set_option maxHeartbeats 4000000 in
set_option maxRecDepth 100000 in
theorem K29_X8_in (l : Launch) (D : va_G) (cB cI cZ : ClassId) (sz : Nat)     :
    CtI l D cB cI cZ yX8_in wsX8_in { frames := 0, cells := 0, slots := 0, locals := 0 } [.int 4, .int 0, .int 8] [] sz 0 0
      (fun (r : Int32) (u : Unit) => r = 1)
      (fun u => []) := by
  refine mk_metI (cc := cX8_in) (maxL := 3) (ret := (some .boolean)) (by decide) rfl (Nat.le_of_ble_eq_true rfl) ?_
  intro p e s m below meth c A hx hb hr hml hts hown hlocks hin hP hK hN hD hA hS ls hl
  have hown : s.vm.findClass RX8 = some m.cls := hown
  have hl : lv_has ls 3 [(0, .int 4), (1, .int 0), (2, .int 8)] := hl
  refine lv_iload_n hx hb dX8_in_0 rfl (lv_at hl 0 rfl) ?_
  refine lv_iload_n hx hb dX8_in_1 rfl (lv_at hl 1 rfl) ?_
  refine lv_icmp_lt (tgt := 14) hx hb dX8_in_2 (by decide) (fun c => absurd c (by decide)) (fun c => ?_)
  refine lv_iload_n hx hb dX8_in_5 rfl (lv_at hl 0 rfl) ?_
  refine lv_iload_n hx hb dX8_in_6 rfl (lv_at hl 2 rfl) ?_
  refine lv_icmp_gt (tgt := 14) hx hb dX8_in_7 (by decide) (fun c => absurd c (by decide)) (fun c => ?_)
  refine lv_iconst (v := 1) hx hb dX8_in_10 (by decide) ?_
  refine lv_goto (tgt := 15) hx hb dX8_in_11 (by decide) ?_
  exact kr_z () hx hb hr rfl hlocks hP hD hS rfl dX8_in_15
set_option maxHeartbeats 4000000 in
set_option maxRecDepth 100000 in
theorem K28_X8_feed (l : Launch) (D : va_G) (cB cI cZ : ClassId) (sz : Nat) (h0 : Nat) (h1 : Nat)  (y0 : Int64) (g0 : Value) (g1 : Value) (g2 : Value) (g3 : Value) (g4 : Value) (g5 : Value) (g6 : Value) (g7 : Value) (g8 : Value) (g9 : Value) (g10 : Value) (g11 : Value) (g12 : Value) (g13 : Value) (g14 : Value) (g15 : Value) (g16 : Value) (g17 : Value) (g18 : Value) (g19 : Value) (g20 : Value) (g21 : Value) (g22 : Value) (g23 : Value) (g24 : Value) (g25 : Value) (g26 : Value) (g27 : Value)  :
    CtI l D cB cI cZ yX8_feed wsX8_feed { frames := 1, cells := 0, slots := 0, locals := 22 } [.ref h0, .long y0, .int 4] [(h0, .inr (7, [g0, g1, g2, g3, g4, g5, g6, g7, g8, g9, g10, g11, g12, g13, g14, g15, g16, g17, g18, g19, g20, g21, .ref h1, .int 0, g22, g23, g24, g25, g26, g27])), (h1, .inl (cB, 100, .inl zf))] sz 0 0
      (fun (r : Int32) (u : Unit) => r = 4)
      (fun u => []) := by
  refine mk_metI (cc := cX8_feed) (maxL := 5) (ret := (some .int)) (by decide) rfl (Nat.le_of_ble_eq_true rfl) ?_
  intro p e s m below meth c A hx hb hr hml hts hown hlocks hin hP hK hN hD hA hS ls hl
  have hown : s.vm.findClass RX8 = some m.cls := hown
  have hl : lv_has ls 5 [(0, .ref h0), (1, .long y0), (3, .int 4)] := hl
  refine lv_aload_n hx hb dX8_feed_0 rfl (lv_at hl 0 rfl) ?_
  refine lv_iconst (v := 0) hx hb dX8_feed_1 (by decide) ?_
  refine va_put (D := D) (ci := 7) (v := .int 0) (ty := .int) (C := RX8) (T := TX8) (N := 30) hx hb hts inX8_feed_X8 tyX8 tyX8_ok nmX8 hown hK hP hD hS 0 rfl rfl 0 (by decide) (hts _ wdX8_feed_0) (fun _ h9 => h9) rfl (by decide +kernel) rfl rfl (Nat.le_of_ble_eq_true rfl) dX8_feed_2 (fun H locs hP hD hS => ?_)
  have hP : va_P D vwCl [(h0, .inr (7, [.int 0, g1, g2, g3, g4, g5, g6, g7, g8, g9, g10, g11, g12, g13, g14, g15, g16, g17, g18, g19, g20, g21, .ref h1, .int 0, g22, g23, g24, g25, g26, g27])), (h1, .inl (cB, 100, .inl zf))] H := hP
  have hD : va_D A [(h0, .inr (7, [.int 0, g1, g2, g3, g4, g5, g6, g7, g8, g9, g10, g11, g12, g13, g14, g15, g16, g17, g18, g19, g20, g21, .ref h1, .int 0, g22, g23, g24, g25, g26, g27])), (h1, .inl (cB, 100, .inl zf))] := hD
  refine lv_iload_n hx hb dX8_feed_5 rfl (lv_at hl 2 rfl) ?_
  refine lv_iconst (v := 0) hx hb dX8_feed_6 (by decide) ?_
  refine lv_bipush (v := 8) hx hb dX8_feed_7 (by decide) ?_
  refine kc_i (wr := [(h0, .inr (7, [.int 0, g1, g2, g3, g4, g5, g6, g7, g8, g9, g10, g11, g12, g13, g14, g15, g16, g17, g18, g19, g20, g21, .ref h1, .int 0, g22, g23, g24, g25, g26, g27])), (h1, .inl (cB, 100, .inl zf))]) (va_runS (As := [.int 4, .int 0, .int 8]) (rest := []) ⟨hx, hb, hml, hown, hts⟩ (K29_X8_in l D cB cI cZ _ ) (va_cwS 3 hts gX8_feed_X8_in rfl rfl rfl (by decide +kernel) ⟨Nat.le_of_ble_eq_true rfl, Nat.le_of_ble_eq_true rfl⟩) (pre_S (hP.sub [] rfl) hK hN (hD.sub [] (by decide) rfl)) rfl rfl hl.1 rfl (lv_room (Nat.le_of_ble_eq_true rfl)) dX8_feed_9 ⟨Nat.le_of_ble_eq_true rfl, Nat.le_of_ble_eq_true rfl⟩) hP hD hS hA [] [0, 1] rfl rfl (by decide) (by decide) (fun r_1 u H locs hw hP hD hS => ?_)
  have k_2 := hw
  obtain rfl : r_1 = 1 := k_2
  have hP : va_P D vwCl [(h0, .inr (7, [.int 0, g1, g2, g3, g4, g5, g6, g7, g8, g9, g10, g11, g12, g13, g14, g15, g16, g17, g18, g19, g20, g21, .ref h1, .int 0, g22, g23, g24, g25, g26, g27])), (h1, .inl (cB, 100, .inl zf))] H := hP
  have hD : va_D A [(h0, .inr (7, [.int 0, g1, g2, g3, g4, g5, g6, g7, g8, g9, g10, g11, g12, g13, g14, g15, g16, g17, g18, g19, g20, g21, .ref h1, .int 0, g22, g23, g24, g25, g26, g27])), (h1, .inl (cB, 100, .inl zf))] := hD
  refine lv_if_ne (tgt := 18) hx hb dX8_feed_12 (by decide) (fun c => ?_) (fun c => absurd c (by decide))
  refine lv_iload_n hx hb dX8_feed_18 rfl (lv_at hl 2 rfl) ?_
  refine lv_if_ne (tgt := 29) hx hb dX8_feed_19 (by decide) (fun c => ?_) (fun c => absurd c (by decide))
  refine lv_aload_n hx hb dX8_feed_29 rfl (lv_at hl 0 rfl) ?_
  refine va_get (D := D) (ci := 7) (v := .int 0) (C := RX8) (T := TX8) (N := 30) hx hb hts inX8_feed_X8 hown hK hP 0 rfl rfl 23 (by decide) (hts _ wdX8_feed_1) (fun _ h9 => h9) rfl dX8_feed_30 ?_
  refine lv_iload_n hx hb dX8_feed_33 rfl (lv_at hl 2 rfl) ?_
  refine lv_iadd hx hb dX8_feed_34 ?_
  refine lv_topi (fun z_3 ez_3 => ?_)
  obtain rfl : z_3 = 4 := ez_3.trans (by decide)
  refine lv_bipush (v := 100) hx hb dX8_feed_35 (by decide) ?_
  refine lv_icmp_le (tgt := 43) hx hb dX8_feed_37 (by decide) (fun c => ?_) (fun c => absurd (by decide) c)
  refine lv_iload_n hx hb dX8_feed_43 rfl (lv_at hl 2 rfl) ?_
  refine lv_iconst (v := 1) hx hb dX8_feed_44 (by decide) ?_
  refine lv_isub hx hb dX8_feed_45 ?_
  refine lv_topi (fun z_4 ez_4 => ?_)
  obtain rfl : z_4 = 3 := ez_4.trans (by decide)
  refine lv_istore (lv' := [(4, .int 3), (0, .ref h0), (1, .long y0), (3, .int 4)]) hx hb dX8_feed_46 hl (by decide) rfl (fun ls hl => ?_)
  refine lv_iload hx hb dX8_feed_48 (lv_at hl 0 rfl) ?_
  refine lv_if_lt (tgt := 87) hx hb dX8_feed_50 (by decide) (fun c => absurd c (by decide)) (fun c => ?_)
  refine lv_aload_n hx hb dX8_feed_53 rfl (lv_at hl 1 rfl) ?_
  refine va_get (D := D) (ci := 7) (v := .ref h1) (C := RX8) (T := TX8) (N := 30) hx hb hts inX8_feed_X8 hown hK hP 0 rfl rfl 22 (by decide) (hts _ wdX8_feed_2) (fun _ h9 => h9) rfl dX8_feed_54 ?_
  refine lv_aload_n hx hb dX8_feed_57 rfl (lv_at hl 1 rfl) ?_
  refine va_get (D := D) (ci := 7) (v := .int 0) (C := RX8) (T := TX8) (N := 30) hx hb hts inX8_feed_X8 hown hK hP 0 rfl rfl 23 (by decide) (hts _ wdX8_feed_1) (fun _ h9 => h9) rfl dX8_feed_58 ?_
  refine lv_lload_n hx hb dX8_feed_61 rfl (lv_at hl 2 rfl) ?_
  refine lv_bipush (v := 8) hx hb dX8_feed_62 (by decide) ?_
  refine lv_iload hx hb dX8_feed_64 (lv_at hl 0 rfl) ?_
  refine lv_imul hx hb dX8_feed_66 ?_
  refine lv_topi (fun z_5 ez_5 => ?_)
  obtain rfl : z_5 = 24 := ez_5.trans (by decide)
  refine lv_lshr hx hb dX8_feed_67 rfl ?_
  refine lv_topl (fun y_6 _ => ?_)
  refine lv_l2i hx hb dX8_feed_68 rfl ?_
  refine lv_topi (fun x_7 ex_7 => ?_)
  refine lv_i2b hx hb dX8_feed_69 rfl ?_
  refine lv_topi (fun x_8 ex_8 => ?_)
  refine va_bast hx hb hK hP hD hS 1 0 rfl rfl (ti_in (a := 0) (by decide) (by decide) (by decide)) dX8_feed_70 (fun H locs hP hD hS => ?_)
  obtain ⟨f_9, ef_9⟩ : ∃ g : Nat → Int32, g = upd zf (Int32.toNatClampNeg 0) (vp_nar .byte x_8) := ⟨_, rfl⟩
  rw [← ef_9] at hP hD
  have bf_9 : FB f_9 := by rw [ef_9]; exact FB_upd FB_zf _ _
  have hP : va_P D vwCl [(h0, .inr (7, [.int 0, g1, g2, g3, g4, g5, g6, g7, g8, g9, g10, g11, g12, g13, g14, g15, g16, g17, g18, g19, g20, g21, .ref h1, .int 0, g22, g23, g24, g25, g26, g27])), (h1, .inl (cB, 100, .inl f_9))] H := hP
  have hD : va_D A [(h0, .inr (7, [.int 0, g1, g2, g3, g4, g5, g6, g7, g8, g9, g10, g11, g12, g13, g14, g15, g16, g17, g18, g19, g20, g21, .ref h1, .int 0, g22, g23, g24, g25, g26, g27])), (h1, .inl (cB, 100, .inl f_9))] := hD
  refine lv_aload_n hx hb dX8_feed_71 rfl (lv_at hl 1 rfl) ?_
  refine lv_dup hx hb dX8_feed_72 rfl ?_
  refine va_get (D := D) (ci := 7) (v := .int 0) (C := RX8) (T := TX8) (N := 30) hx hb hts inX8_feed_X8 hown hK hP 0 rfl rfl 23 (by decide) (hts _ wdX8_feed_1) (fun _ h9 => h9) rfl dX8_feed_73 ?_
  refine lv_iconst (v := 1) hx hb dX8_feed_76 (by decide) ?_
  refine lv_iadd hx hb dX8_feed_77 ?_
  refine lv_topi (fun z_10 ez_10 => ?_)
  obtain rfl : z_10 = 1 := ez_10.trans (by decide)
  refine va_put (D := D) (ci := 7) (v := .int 1) (ty := .int) (C := RX8) (T := TX8) (N := 30) hx hb hts inX8_feed_X8 tyX8 tyX8_ok nmX8 hown hK hP hD hS 0 rfl rfl 23 (by decide) (hts _ wdX8_feed_1) (fun _ h9 => h9) rfl (by decide +kernel) rfl rfl (Nat.le_of_ble_eq_true rfl) dX8_feed_78 (fun H locs hP hD hS => ?_)
  have hP : va_P D vwCl [(h0, .inr (7, [.int 0, g1, g2, g3, g4, g5, g6, g7, g8, g9, g10, g11, g12, g13, g14, g15, g16, g17, g18, g19, g20, g21, .ref h1, .int 1, g22, g23, g24, g25, g26, g27])), (h1, .inl (cB, 100, .inl f_9))] H := hP
  have hD : va_D A [(h0, .inr (7, [.int 0, g1, g2, g3, g4, g5, g6, g7, g8, g9, g10, g11, g12, g13, g14, g15, g16, g17, g18, g19, g20, g21, .ref h1, .int 1, g22, g23, g24, g25, g26, g27])), (h1, .inl (cB, 100, .inl f_9))] := hD
  refine lv_iinc (v := 2) (lv' := [(4, .int 2), (0, .ref h0), (1, .long y0), (3, .int 4)]) hx hb dX8_feed_81 hl (k := 0) rfl (by decide) (by decide) rfl (fun ls hl => ?_)
  refine lv_goto (tgt := 48) hx hb dX8_feed_84 (by decide) ?_
  refine lv_iload hx hb dX8_feed_48 (lv_at hl 0 rfl) ?_
  refine lv_if_lt (tgt := 87) hx hb dX8_feed_50 (by decide) (fun c => absurd c (by decide)) (fun c => ?_)
  refine lv_aload_n hx hb dX8_feed_53 rfl (lv_at hl 1 rfl) ?_
  refine va_get (D := D) (ci := 7) (v := .ref h1) (C := RX8) (T := TX8) (N := 30) hx hb hts inX8_feed_X8 hown hK hP 0 rfl rfl 22 (by decide) (hts _ wdX8_feed_2) (fun _ h9 => h9) rfl dX8_feed_54 ?_
  refine lv_aload_n hx hb dX8_feed_57 rfl (lv_at hl 1 rfl) ?_
  refine va_get (D := D) (ci := 7) (v := .int 1) (C := RX8) (T := TX8) (N := 30) hx hb hts inX8_feed_X8 hown hK hP 0 rfl rfl 23 (by decide) (hts _ wdX8_feed_1) (fun _ h9 => h9) rfl dX8_feed_58 ?_
  refine lv_lload_n hx hb dX8_feed_61 rfl (lv_at hl 2 rfl) ?_
  refine lv_bipush (v := 8) hx hb dX8_feed_62 (by decide) ?_
  refine lv_iload hx hb dX8_feed_64 (lv_at hl 0 rfl) ?_
  refine lv_imul hx hb dX8_feed_66 ?_
  refine lv_topi (fun z_11 ez_11 => ?_)
  obtain rfl : z_11 = 16 := ez_11.trans (by decide)
  refine lv_lshr hx hb dX8_feed_67 rfl ?_
  refine lv_topl (fun y_12 _ => ?_)
  refine lv_l2i hx hb dX8_feed_68 rfl ?_
  refine lv_topi (fun x_13 ex_13 => ?_)
  refine lv_i2b hx hb dX8_feed_69 rfl ?_
  refine lv_topi (fun x_14 ex_14 => ?_)
  refine va_bast hx hb hK hP hD hS 1 0 rfl rfl (ti_in (a := 1) (by decide) (by decide) (by decide)) dX8_feed_70 (fun H locs hP hD hS => ?_)
  obtain ⟨f_15, ef_15⟩ : ∃ g : Nat → Int32, g = upd f_9 (Int32.toNatClampNeg 1) (vp_nar .byte x_14) := ⟨_, rfl⟩
  rw [← ef_15] at hP hD
  have bf_15 : FB f_15 := by rw [ef_15]; exact FB_upd bf_9 _ _
  have hP : va_P D vwCl [(h0, .inr (7, [.int 0, g1, g2, g3, g4, g5, g6, g7, g8, g9, g10, g11, g12, g13, g14, g15, g16, g17, g18, g19, g20, g21, .ref h1, .int 1, g22, g23, g24, g25, g26, g27])), (h1, .inl (cB, 100, .inl f_15))] H := hP
  have hD : va_D A [(h0, .inr (7, [.int 0, g1, g2, g3, g4, g5, g6, g7, g8, g9, g10, g11, g12, g13, g14, g15, g16, g17, g18, g19, g20, g21, .ref h1, .int 1, g22, g23, g24, g25, g26, g27])), (h1, .inl (cB, 100, .inl f_15))] := hD
  refine lv_aload_n hx hb dX8_feed_71 rfl (lv_at hl 1 rfl) ?_
  refine lv_dup hx hb dX8_feed_72 rfl ?_
  refine va_get (D := D) (ci := 7) (v := .int 1) (C := RX8) (T := TX8) (N := 30) hx hb hts inX8_feed_X8 hown hK hP 0 rfl rfl 23 (by decide) (hts _ wdX8_feed_1) (fun _ h9 => h9) rfl dX8_feed_73 ?_
  refine lv_iconst (v := 1) hx hb dX8_feed_76 (by decide) ?_
  refine lv_iadd hx hb dX8_feed_77 ?_
  refine lv_topi (fun z_16 ez_16 => ?_)
  obtain rfl : z_16 = 2 := ez_16.trans (by decide)
  refine va_put (D := D) (ci := 7) (v := .int 2) (ty := .int) (C := RX8) (T := TX8) (N := 30) hx hb hts inX8_feed_X8 tyX8 tyX8_ok nmX8 hown hK hP hD hS 0 rfl rfl 23 (by decide) (hts _ wdX8_feed_1) (fun _ h9 => h9) rfl (by decide +kernel) rfl rfl (Nat.le_of_ble_eq_true rfl) dX8_feed_78 (fun H locs hP hD hS => ?_)
  have hP : va_P D vwCl [(h0, .inr (7, [.int 0, g1, g2, g3, g4, g5, g6, g7, g8, g9, g10, g11, g12, g13, g14, g15, g16, g17, g18, g19, g20, g21, .ref h1, .int 2, g22, g23, g24, g25, g26, g27])), (h1, .inl (cB, 100, .inl f_15))] H := hP
  have hD : va_D A [(h0, .inr (7, [.int 0, g1, g2, g3, g4, g5, g6, g7, g8, g9, g10, g11, g12, g13, g14, g15, g16, g17, g18, g19, g20, g21, .ref h1, .int 2, g22, g23, g24, g25, g26, g27])), (h1, .inl (cB, 100, .inl f_15))] := hD
  refine lv_iinc (v := 1) (lv' := [(4, .int 1), (0, .ref h0), (1, .long y0), (3, .int 4)]) hx hb dX8_feed_81 hl (k := 0) rfl (by decide) (by decide) rfl (fun ls hl => ?_)
  refine lv_goto (tgt := 48) hx hb dX8_feed_84 (by decide) ?_
  refine lv_iload hx hb dX8_feed_48 (lv_at hl 0 rfl) ?_
  refine lv_if_lt (tgt := 87) hx hb dX8_feed_50 (by decide) (fun c => absurd c (by decide)) (fun c => ?_)
  refine lv_aload_n hx hb dX8_feed_53 rfl (lv_at hl 1 rfl) ?_
  refine va_get (D := D) (ci := 7) (v := .ref h1) (C := RX8) (T := TX8) (N := 30) hx hb hts inX8_feed_X8 hown hK hP 0 rfl rfl 22 (by decide) (hts _ wdX8_feed_2) (fun _ h9 => h9) rfl dX8_feed_54 ?_
  refine lv_aload_n hx hb dX8_feed_57 rfl (lv_at hl 1 rfl) ?_
  refine va_get (D := D) (ci := 7) (v := .int 2) (C := RX8) (T := TX8) (N := 30) hx hb hts inX8_feed_X8 hown hK hP 0 rfl rfl 23 (by decide) (hts _ wdX8_feed_1) (fun _ h9 => h9) rfl dX8_feed_58 ?_
  refine lv_lload_n hx hb dX8_feed_61 rfl (lv_at hl 2 rfl) ?_
  refine lv_bipush (v := 8) hx hb dX8_feed_62 (by decide) ?_
  refine lv_iload hx hb dX8_feed_64 (lv_at hl 0 rfl) ?_
  refine lv_imul hx hb dX8_feed_66 ?_
  refine lv_topi (fun z_17 ez_17 => ?_)
  obtain rfl : z_17 = 8 := ez_17.trans (by decide)
  refine lv_lshr hx hb dX8_feed_67 rfl ?_
  refine lv_topl (fun y_18 _ => ?_)
  refine lv_l2i hx hb dX8_feed_68 rfl ?_
  refine lv_topi (fun x_19 ex_19 => ?_)
  refine lv_i2b hx hb dX8_feed_69 rfl ?_
  refine lv_topi (fun x_20 ex_20 => ?_)
  refine va_bast hx hb hK hP hD hS 1 0 rfl rfl (ti_in (a := 2) (by decide) (by decide) (by decide)) dX8_feed_70 (fun H locs hP hD hS => ?_)
  obtain ⟨f_21, ef_21⟩ : ∃ g : Nat → Int32, g = upd f_15 (Int32.toNatClampNeg 2) (vp_nar .byte x_20) := ⟨_, rfl⟩
  rw [← ef_21] at hP hD
  have bf_21 : FB f_21 := by rw [ef_21]; exact FB_upd bf_15 _ _
  have hP : va_P D vwCl [(h0, .inr (7, [.int 0, g1, g2, g3, g4, g5, g6, g7, g8, g9, g10, g11, g12, g13, g14, g15, g16, g17, g18, g19, g20, g21, .ref h1, .int 2, g22, g23, g24, g25, g26, g27])), (h1, .inl (cB, 100, .inl f_21))] H := hP
  have hD : va_D A [(h0, .inr (7, [.int 0, g1, g2, g3, g4, g5, g6, g7, g8, g9, g10, g11, g12, g13, g14, g15, g16, g17, g18, g19, g20, g21, .ref h1, .int 2, g22, g23, g24, g25, g26, g27])), (h1, .inl (cB, 100, .inl f_21))] := hD
  refine lv_aload_n hx hb dX8_feed_71 rfl (lv_at hl 1 rfl) ?_
  refine lv_dup hx hb dX8_feed_72 rfl ?_
  refine va_get (D := D) (ci := 7) (v := .int 2) (C := RX8) (T := TX8) (N := 30) hx hb hts inX8_feed_X8 hown hK hP 0 rfl rfl 23 (by decide) (hts _ wdX8_feed_1) (fun _ h9 => h9) rfl dX8_feed_73 ?_
  refine lv_iconst (v := 1) hx hb dX8_feed_76 (by decide) ?_
  refine lv_iadd hx hb dX8_feed_77 ?_
  refine lv_topi (fun z_22 ez_22 => ?_)
  obtain rfl : z_22 = 3 := ez_22.trans (by decide)
  refine va_put (D := D) (ci := 7) (v := .int 3) (ty := .int) (C := RX8) (T := TX8) (N := 30) hx hb hts inX8_feed_X8 tyX8 tyX8_ok nmX8 hown hK hP hD hS 0 rfl rfl 23 (by decide) (hts _ wdX8_feed_1) (fun _ h9 => h9) rfl (by decide +kernel) rfl rfl (Nat.le_of_ble_eq_true rfl) dX8_feed_78 (fun H locs hP hD hS => ?_)
  have hP : va_P D vwCl [(h0, .inr (7, [.int 0, g1, g2, g3, g4, g5, g6, g7, g8, g9, g10, g11, g12, g13, g14, g15, g16, g17, g18, g19, g20, g21, .ref h1, .int 3, g22, g23, g24, g25, g26, g27])), (h1, .inl (cB, 100, .inl f_21))] H := hP
  have hD : va_D A [(h0, .inr (7, [.int 0, g1, g2, g3, g4, g5, g6, g7, g8, g9, g10, g11, g12, g13, g14, g15, g16, g17, g18, g19, g20, g21, .ref h1, .int 3, g22, g23, g24, g25, g26, g27])), (h1, .inl (cB, 100, .inl f_21))] := hD
  refine lv_iinc (v := 0) (lv' := [(4, .int 0), (0, .ref h0), (1, .long y0), (3, .int 4)]) hx hb dX8_feed_81 hl (k := 0) rfl (by decide) (by decide) rfl (fun ls hl => ?_)
  refine lv_goto (tgt := 48) hx hb dX8_feed_84 (by decide) ?_
  refine lv_iload hx hb dX8_feed_48 (lv_at hl 0 rfl) ?_
  refine lv_if_lt (tgt := 87) hx hb dX8_feed_50 (by decide) (fun c => absurd c (by decide)) (fun c => ?_)
  refine lv_aload_n hx hb dX8_feed_53 rfl (lv_at hl 1 rfl) ?_
  refine va_get (D := D) (ci := 7) (v := .ref h1) (C := RX8) (T := TX8) (N := 30) hx hb hts inX8_feed_X8 hown hK hP 0 rfl rfl 22 (by decide) (hts _ wdX8_feed_2) (fun _ h9 => h9) rfl dX8_feed_54 ?_
  refine lv_aload_n hx hb dX8_feed_57 rfl (lv_at hl 1 rfl) ?_
  refine va_get (D := D) (ci := 7) (v := .int 3) (C := RX8) (T := TX8) (N := 30) hx hb hts inX8_feed_X8 hown hK hP 0 rfl rfl 23 (by decide) (hts _ wdX8_feed_1) (fun _ h9 => h9) rfl dX8_feed_58 ?_
  refine lv_lload_n hx hb dX8_feed_61 rfl (lv_at hl 2 rfl) ?_
  refine lv_bipush (v := 8) hx hb dX8_feed_62 (by decide) ?_
  refine lv_iload hx hb dX8_feed_64 (lv_at hl 0 rfl) ?_
  refine lv_imul hx hb dX8_feed_66 ?_
  refine lv_topi (fun z_23 ez_23 => ?_)
  obtain rfl : z_23 = 0 := ez_23.trans (by decide)
  refine lv_lshr hx hb dX8_feed_67 rfl ?_
  refine lv_topl (fun y_24 _ => ?_)
  refine lv_l2i hx hb dX8_feed_68 rfl ?_
  refine lv_topi (fun x_25 ex_25 => ?_)
  refine lv_i2b hx hb dX8_feed_69 rfl ?_
  refine lv_topi (fun x_26 ex_26 => ?_)
  refine va_bast hx hb hK hP hD hS 1 0 rfl rfl (ti_in (a := 3) (by decide) (by decide) (by decide)) dX8_feed_70 (fun H locs hP hD hS => ?_)
  obtain ⟨f_27, ef_27⟩ : ∃ g : Nat → Int32, g = upd f_21 (Int32.toNatClampNeg 3) (vp_nar .byte x_26) := ⟨_, rfl⟩
  rw [← ef_27] at hP hD
  have bf_27 : FB f_27 := by rw [ef_27]; exact FB_upd bf_21 _ _
  have hP : va_P D vwCl [(h0, .inr (7, [.int 0, g1, g2, g3, g4, g5, g6, g7, g8, g9, g10, g11, g12, g13, g14, g15, g16, g17, g18, g19, g20, g21, .ref h1, .int 3, g22, g23, g24, g25, g26, g27])), (h1, .inl (cB, 100, .inl f_27))] H := hP
  have hD : va_D A [(h0, .inr (7, [.int 0, g1, g2, g3, g4, g5, g6, g7, g8, g9, g10, g11, g12, g13, g14, g15, g16, g17, g18, g19, g20, g21, .ref h1, .int 3, g22, g23, g24, g25, g26, g27])), (h1, .inl (cB, 100, .inl f_27))] := hD
  refine lv_aload_n hx hb dX8_feed_71 rfl (lv_at hl 1 rfl) ?_
  refine lv_dup hx hb dX8_feed_72 rfl ?_
  refine va_get (D := D) (ci := 7) (v := .int 3) (C := RX8) (T := TX8) (N := 30) hx hb hts inX8_feed_X8 hown hK hP 0 rfl rfl 23 (by decide) (hts _ wdX8_feed_1) (fun _ h9 => h9) rfl dX8_feed_73 ?_
  refine lv_iconst (v := 1) hx hb dX8_feed_76 (by decide) ?_
  refine lv_iadd hx hb dX8_feed_77 ?_
  refine lv_topi (fun z_28 ez_28 => ?_)
  obtain rfl : z_28 = 4 := ez_28.trans (by decide)
  refine va_put (D := D) (ci := 7) (v := .int 4) (ty := .int) (C := RX8) (T := TX8) (N := 30) hx hb hts inX8_feed_X8 tyX8 tyX8_ok nmX8 hown hK hP hD hS 0 rfl rfl 23 (by decide) (hts _ wdX8_feed_1) (fun _ h9 => h9) rfl (by decide +kernel) rfl rfl (Nat.le_of_ble_eq_true rfl) dX8_feed_78 (fun H locs hP hD hS => ?_)
  have hP : va_P D vwCl [(h0, .inr (7, [.int 0, g1, g2, g3, g4, g5, g6, g7, g8, g9, g10, g11, g12, g13, g14, g15, g16, g17, g18, g19, g20, g21, .ref h1, .int 4, g22, g23, g24, g25, g26, g27])), (h1, .inl (cB, 100, .inl f_27))] H := hP
  have hD : va_D A [(h0, .inr (7, [.int 0, g1, g2, g3, g4, g5, g6, g7, g8, g9, g10, g11, g12, g13, g14, g15, g16, g17, g18, g19, g20, g21, .ref h1, .int 4, g22, g23, g24, g25, g26, g27])), (h1, .inl (cB, 100, .inl f_27))] := hD
  refine lv_iinc (v := (-1)) (lv' := [(4, .int (-1)), (0, .ref h0), (1, .long y0), (3, .int 4)]) hx hb dX8_feed_81 hl (k := 0) rfl (by decide) (by decide) rfl (fun ls hl => ?_)
  refine lv_goto (tgt := 48) hx hb dX8_feed_84 (by decide) ?_
  refine lv_iload hx hb dX8_feed_48 (lv_at hl 0 rfl) ?_
  refine lv_if_lt (tgt := 87) hx hb dX8_feed_50 (by decide) (fun c => ?_) (fun c => absurd (by decide) c)
  refine lv_aload_n hx hb dX8_feed_87 rfl (lv_at hl 1 rfl) ?_
  refine va_get (D := D) (ci := 7) (v := .int 4) (C := RX8) (T := TX8) (N := 30) hx hb hts inX8_feed_X8 hown hK hP 0 rfl rfl 23 (by decide) (hts _ wdX8_feed_1) (fun _ h9 => h9) rfl dX8_feed_88 ?_
  exact kr_i () hx hb hr hlocks (hP.sub [] rfl) (hD.sub [] (by decide) rfl) hS rfl dX8_feed_91
set_option maxHeartbeats 4000000 in
set_option maxRecDepth 100000 in
theorem K30_X7_feed (l : Launch) (D : va_G) (cB cI cZ : ClassId) (sz : Nat) (h0 : Nat) (h1 : Nat)  (y0 : Int64) (g0 : Value) (g1 : Value) (g2 : Value) (g3 : Value) (g4 : Value) (g5 : Value) (g6 : Value)  :
    CtI l D cB cI cZ yX7_feed wsX7_feed { frames := 0, cells := 0, slots := 0, locals := 0 } [.ref h0, .long y0, .int 5] [(h0, .inr (6, [g0, g1, g2, g3, g4, g5, .ref h1, .int 0, g6])), (h1, .inl (cB, 100, .inl zf))] sz 0 0
      (fun (r : Int32) (u : Unit) => r = 5)
      (fun u => []) := by
  refine mk_metI (cc := cX7_feed) (maxL := 5) (ret := (some .int)) (by decide) rfl (Nat.le_of_ble_eq_true rfl) ?_
  intro p e s m below meth c A hx hb hr hml hts hown hlocks hin hP hK hN hD hA hS ls hl
  have hown : s.vm.findClass RX7 = some m.cls := hown
  have hl : lv_has ls 5 [(0, .ref h0), (1, .long y0), (3, .int 5)] := hl
  refine lv_iload_n hx hb dX7_feed_0 rfl (lv_at hl 2 rfl) ?_
  refine lv_if_lt (tgt := 10) hx hb dX7_feed_1 (by decide) (fun c => absurd c (by decide)) (fun c => ?_)
  refine lv_iload_n hx hb dX7_feed_4 rfl (lv_at hl 2 rfl) ?_
  refine lv_bipush (v := 8) hx hb dX7_feed_5 (by decide) ?_
  refine lv_icmp_le (tgt := 13) hx hb dX7_feed_7 (by decide) (fun c => ?_) (fun c => absurd (by decide) c)
  refine lv_iload_n hx hb dX7_feed_13 rfl (lv_at hl 2 rfl) ?_
  refine lv_if_ne (tgt := 24) hx hb dX7_feed_14 (by decide) (fun c => ?_) (fun c => absurd c (by decide))
  refine lv_aload_n hx hb dX7_feed_24 rfl (lv_at hl 0 rfl) ?_
  refine va_get (D := D) (ci := 6) (v := .int 0) (C := RX7) (T := TX7) (N := 9) hx hb hts inX7_feed_X7 hown hK hP 0 rfl rfl 7 (by decide) (hts _ wdX7_feed_0) (fun _ h9 => h9) rfl dX7_feed_25 ?_
  refine lv_iload_n hx hb dX7_feed_28 rfl (lv_at hl 2 rfl) ?_
  refine lv_iadd hx hb dX7_feed_29 ?_
  refine lv_topi (fun z_1 ez_1 => ?_)
  obtain rfl : z_1 = 5 := ez_1.trans (by decide)
  refine lv_bipush (v := 100) hx hb dX7_feed_30 (by decide) ?_
  refine lv_icmp_le (tgt := 38) hx hb dX7_feed_32 (by decide) (fun c => ?_) (fun c => absurd (by decide) c)
  refine lv_iload_n hx hb dX7_feed_38 rfl (lv_at hl 2 rfl) ?_
  refine lv_iconst (v := 1) hx hb dX7_feed_39 (by decide) ?_
  refine lv_isub hx hb dX7_feed_40 ?_
  refine lv_topi (fun z_2 ez_2 => ?_)
  obtain rfl : z_2 = 4 := ez_2.trans (by decide)
  refine lv_istore (lv' := [(4, .int 4), (0, .ref h0), (1, .long y0), (3, .int 5)]) hx hb dX7_feed_41 hl (by decide) rfl (fun ls hl => ?_)
  refine lv_iload hx hb dX7_feed_43 (lv_at hl 0 rfl) ?_
  refine lv_if_lt (tgt := 82) hx hb dX7_feed_45 (by decide) (fun c => absurd c (by decide)) (fun c => ?_)
  refine lv_aload_n hx hb dX7_feed_48 rfl (lv_at hl 1 rfl) ?_
  refine va_get (D := D) (ci := 6) (v := .ref h1) (C := RX7) (T := TX7) (N := 9) hx hb hts inX7_feed_X7 hown hK hP 0 rfl rfl 6 (by decide) (hts _ wdX7_feed_1) (fun _ h9 => h9) rfl dX7_feed_49 ?_
  refine lv_aload_n hx hb dX7_feed_52 rfl (lv_at hl 1 rfl) ?_
  refine va_get (D := D) (ci := 6) (v := .int 0) (C := RX7) (T := TX7) (N := 9) hx hb hts inX7_feed_X7 hown hK hP 0 rfl rfl 7 (by decide) (hts _ wdX7_feed_0) (fun _ h9 => h9) rfl dX7_feed_53 ?_
  refine lv_lload_n hx hb dX7_feed_56 rfl (lv_at hl 2 rfl) ?_
  refine lv_bipush (v := 8) hx hb dX7_feed_57 (by decide) ?_
  refine lv_iload hx hb dX7_feed_59 (lv_at hl 0 rfl) ?_
  refine lv_imul hx hb dX7_feed_61 ?_
  refine lv_topi (fun z_3 ez_3 => ?_)
  obtain rfl : z_3 = 32 := ez_3.trans (by decide)
  refine lv_lushr hx hb dX7_feed_62 rfl ?_
  refine lv_topl (fun y_4 _ => ?_)
  refine lv_l2i hx hb dX7_feed_63 rfl ?_
  refine lv_topi (fun x_5 ex_5 => ?_)
  refine lv_i2b hx hb dX7_feed_64 rfl ?_
  refine lv_topi (fun x_6 ex_6 => ?_)
  refine va_bast hx hb hK hP hD hS 1 0 rfl rfl (ti_in (a := 0) (by decide) (by decide) (by decide)) dX7_feed_65 (fun H locs hP hD hS => ?_)
  obtain ⟨f_7, ef_7⟩ : ∃ g : Nat → Int32, g = upd zf (Int32.toNatClampNeg 0) (vp_nar .byte x_6) := ⟨_, rfl⟩
  rw [← ef_7] at hP hD
  have bf_7 : FB f_7 := by rw [ef_7]; exact FB_upd FB_zf _ _
  have hP : va_P D vwCl [(h0, .inr (6, [g0, g1, g2, g3, g4, g5, .ref h1, .int 0, g6])), (h1, .inl (cB, 100, .inl f_7))] H := hP
  have hD : va_D A [(h0, .inr (6, [g0, g1, g2, g3, g4, g5, .ref h1, .int 0, g6])), (h1, .inl (cB, 100, .inl f_7))] := hD
  refine lv_aload_n hx hb dX7_feed_66 rfl (lv_at hl 1 rfl) ?_
  refine lv_dup hx hb dX7_feed_67 rfl ?_
  refine va_get (D := D) (ci := 6) (v := .int 0) (C := RX7) (T := TX7) (N := 9) hx hb hts inX7_feed_X7 hown hK hP 0 rfl rfl 7 (by decide) (hts _ wdX7_feed_0) (fun _ h9 => h9) rfl dX7_feed_68 ?_
  refine lv_iconst (v := 1) hx hb dX7_feed_71 (by decide) ?_
  refine lv_iadd hx hb dX7_feed_72 ?_
  refine lv_topi (fun z_8 ez_8 => ?_)
  obtain rfl : z_8 = 1 := ez_8.trans (by decide)
  refine va_put (D := D) (ci := 6) (v := .int 1) (ty := .int) (C := RX7) (T := TX7) (N := 9) hx hb hts inX7_feed_X7 tyX7 tyX7_ok nmX7 hown hK hP hD hS 0 rfl rfl 7 (by decide) (hts _ wdX7_feed_0) (fun _ h9 => h9) rfl (by decide +kernel) rfl rfl (Nat.le_of_ble_eq_true rfl) dX7_feed_73 (fun H locs hP hD hS => ?_)
  have hP : va_P D vwCl [(h0, .inr (6, [g0, g1, g2, g3, g4, g5, .ref h1, .int 1, g6])), (h1, .inl (cB, 100, .inl f_7))] H := hP
  have hD : va_D A [(h0, .inr (6, [g0, g1, g2, g3, g4, g5, .ref h1, .int 1, g6])), (h1, .inl (cB, 100, .inl f_7))] := hD
  refine lv_iinc (v := 3) (lv' := [(4, .int 3), (0, .ref h0), (1, .long y0), (3, .int 5)]) hx hb dX7_feed_76 hl (k := 0) rfl (by decide) (by decide) rfl (fun ls hl => ?_)
  refine lv_goto (tgt := 43) hx hb dX7_feed_79 (by decide) ?_
  refine lv_iload hx hb dX7_feed_43 (lv_at hl 0 rfl) ?_
  refine lv_if_lt (tgt := 82) hx hb dX7_feed_45 (by decide) (fun c => absurd c (by decide)) (fun c => ?_)
  refine lv_aload_n hx hb dX7_feed_48 rfl (lv_at hl 1 rfl) ?_
  refine va_get (D := D) (ci := 6) (v := .ref h1) (C := RX7) (T := TX7) (N := 9) hx hb hts inX7_feed_X7 hown hK hP 0 rfl rfl 6 (by decide) (hts _ wdX7_feed_1) (fun _ h9 => h9) rfl dX7_feed_49 ?_
  refine lv_aload_n hx hb dX7_feed_52 rfl (lv_at hl 1 rfl) ?_
  refine va_get (D := D) (ci := 6) (v := .int 1) (C := RX7) (T := TX7) (N := 9) hx hb hts inX7_feed_X7 hown hK hP 0 rfl rfl 7 (by decide) (hts _ wdX7_feed_0) (fun _ h9 => h9) rfl dX7_feed_53 ?_
  refine lv_lload_n hx hb dX7_feed_56 rfl (lv_at hl 2 rfl) ?_
  refine lv_bipush (v := 8) hx hb dX7_feed_57 (by decide) ?_
  refine lv_iload hx hb dX7_feed_59 (lv_at hl 0 rfl) ?_
  refine lv_imul hx hb dX7_feed_61 ?_
  refine lv_topi (fun z_9 ez_9 => ?_)
  obtain rfl : z_9 = 24 := ez_9.trans (by decide)
  refine lv_lushr hx hb dX7_feed_62 rfl ?_
  refine lv_topl (fun y_10 _ => ?_)
  refine lv_l2i hx hb dX7_feed_63 rfl ?_
  refine lv_topi (fun x_11 ex_11 => ?_)
  refine lv_i2b hx hb dX7_feed_64 rfl ?_
  refine lv_topi (fun x_12 ex_12 => ?_)
  refine va_bast hx hb hK hP hD hS 1 0 rfl rfl (ti_in (a := 1) (by decide) (by decide) (by decide)) dX7_feed_65 (fun H locs hP hD hS => ?_)
  obtain ⟨f_13, ef_13⟩ : ∃ g : Nat → Int32, g = upd f_7 (Int32.toNatClampNeg 1) (vp_nar .byte x_12) := ⟨_, rfl⟩
  rw [← ef_13] at hP hD
  have bf_13 : FB f_13 := by rw [ef_13]; exact FB_upd bf_7 _ _
  have hP : va_P D vwCl [(h0, .inr (6, [g0, g1, g2, g3, g4, g5, .ref h1, .int 1, g6])), (h1, .inl (cB, 100, .inl f_13))] H := hP
  have hD : va_D A [(h0, .inr (6, [g0, g1, g2, g3, g4, g5, .ref h1, .int 1, g6])), (h1, .inl (cB, 100, .inl f_13))] := hD
  refine lv_aload_n hx hb dX7_feed_66 rfl (lv_at hl 1 rfl) ?_
  refine lv_dup hx hb dX7_feed_67 rfl ?_
  refine va_get (D := D) (ci := 6) (v := .int 1) (C := RX7) (T := TX7) (N := 9) hx hb hts inX7_feed_X7 hown hK hP 0 rfl rfl 7 (by decide) (hts _ wdX7_feed_0) (fun _ h9 => h9) rfl dX7_feed_68 ?_
  refine lv_iconst (v := 1) hx hb dX7_feed_71 (by decide) ?_
  refine lv_iadd hx hb dX7_feed_72 ?_
  refine lv_topi (fun z_14 ez_14 => ?_)
  obtain rfl : z_14 = 2 := ez_14.trans (by decide)
  refine va_put (D := D) (ci := 6) (v := .int 2) (ty := .int) (C := RX7) (T := TX7) (N := 9) hx hb hts inX7_feed_X7 tyX7 tyX7_ok nmX7 hown hK hP hD hS 0 rfl rfl 7 (by decide) (hts _ wdX7_feed_0) (fun _ h9 => h9) rfl (by decide +kernel) rfl rfl (Nat.le_of_ble_eq_true rfl) dX7_feed_73 (fun H locs hP hD hS => ?_)
  have hP : va_P D vwCl [(h0, .inr (6, [g0, g1, g2, g3, g4, g5, .ref h1, .int 2, g6])), (h1, .inl (cB, 100, .inl f_13))] H := hP
  have hD : va_D A [(h0, .inr (6, [g0, g1, g2, g3, g4, g5, .ref h1, .int 2, g6])), (h1, .inl (cB, 100, .inl f_13))] := hD
  refine lv_iinc (v := 2) (lv' := [(4, .int 2), (0, .ref h0), (1, .long y0), (3, .int 5)]) hx hb dX7_feed_76 hl (k := 0) rfl (by decide) (by decide) rfl (fun ls hl => ?_)
  refine lv_goto (tgt := 43) hx hb dX7_feed_79 (by decide) ?_
  refine lv_iload hx hb dX7_feed_43 (lv_at hl 0 rfl) ?_
  refine lv_if_lt (tgt := 82) hx hb dX7_feed_45 (by decide) (fun c => absurd c (by decide)) (fun c => ?_)
  refine lv_aload_n hx hb dX7_feed_48 rfl (lv_at hl 1 rfl) ?_
  refine va_get (D := D) (ci := 6) (v := .ref h1) (C := RX7) (T := TX7) (N := 9) hx hb hts inX7_feed_X7 hown hK hP 0 rfl rfl 6 (by decide) (hts _ wdX7_feed_1) (fun _ h9 => h9) rfl dX7_feed_49 ?_
  refine lv_aload_n hx hb dX7_feed_52 rfl (lv_at hl 1 rfl) ?_
  refine va_get (D := D) (ci := 6) (v := .int 2) (C := RX7) (T := TX7) (N := 9) hx hb hts inX7_feed_X7 hown hK hP 0 rfl rfl 7 (by decide) (hts _ wdX7_feed_0) (fun _ h9 => h9) rfl dX7_feed_53 ?_
  refine lv_lload_n hx hb dX7_feed_56 rfl (lv_at hl 2 rfl) ?_
  refine lv_bipush (v := 8) hx hb dX7_feed_57 (by decide) ?_
  refine lv_iload hx hb dX7_feed_59 (lv_at hl 0 rfl) ?_
  refine lv_imul hx hb dX7_feed_61 ?_
  refine lv_topi (fun z_15 ez_15 => ?_)
  obtain rfl : z_15 = 16 := ez_15.trans (by decide)
  refine lv_lushr hx hb dX7_feed_62 rfl ?_
  refine lv_topl (fun y_16 _ => ?_)
  refine lv_l2i hx hb dX7_feed_63 rfl ?_
  refine lv_topi (fun x_17 ex_17 => ?_)
  refine lv_i2b hx hb dX7_feed_64 rfl ?_
  refine lv_topi (fun x_18 ex_18 => ?_)
  refine va_bast hx hb hK hP hD hS 1 0 rfl rfl (ti_in (a := 2) (by decide) (by decide) (by decide)) dX7_feed_65 (fun H locs hP hD hS => ?_)
  obtain ⟨f_19, ef_19⟩ : ∃ g : Nat → Int32, g = upd f_13 (Int32.toNatClampNeg 2) (vp_nar .byte x_18) := ⟨_, rfl⟩
  rw [← ef_19] at hP hD
  have bf_19 : FB f_19 := by rw [ef_19]; exact FB_upd bf_13 _ _
  have hP : va_P D vwCl [(h0, .inr (6, [g0, g1, g2, g3, g4, g5, .ref h1, .int 2, g6])), (h1, .inl (cB, 100, .inl f_19))] H := hP
  have hD : va_D A [(h0, .inr (6, [g0, g1, g2, g3, g4, g5, .ref h1, .int 2, g6])), (h1, .inl (cB, 100, .inl f_19))] := hD
  refine lv_aload_n hx hb dX7_feed_66 rfl (lv_at hl 1 rfl) ?_
  refine lv_dup hx hb dX7_feed_67 rfl ?_
  refine va_get (D := D) (ci := 6) (v := .int 2) (C := RX7) (T := TX7) (N := 9) hx hb hts inX7_feed_X7 hown hK hP 0 rfl rfl 7 (by decide) (hts _ wdX7_feed_0) (fun _ h9 => h9) rfl dX7_feed_68 ?_
  refine lv_iconst (v := 1) hx hb dX7_feed_71 (by decide) ?_
  refine lv_iadd hx hb dX7_feed_72 ?_
  refine lv_topi (fun z_20 ez_20 => ?_)
  obtain rfl : z_20 = 3 := ez_20.trans (by decide)
  refine va_put (D := D) (ci := 6) (v := .int 3) (ty := .int) (C := RX7) (T := TX7) (N := 9) hx hb hts inX7_feed_X7 tyX7 tyX7_ok nmX7 hown hK hP hD hS 0 rfl rfl 7 (by decide) (hts _ wdX7_feed_0) (fun _ h9 => h9) rfl (by decide +kernel) rfl rfl (Nat.le_of_ble_eq_true rfl) dX7_feed_73 (fun H locs hP hD hS => ?_)
  have hP : va_P D vwCl [(h0, .inr (6, [g0, g1, g2, g3, g4, g5, .ref h1, .int 3, g6])), (h1, .inl (cB, 100, .inl f_19))] H := hP
  have hD : va_D A [(h0, .inr (6, [g0, g1, g2, g3, g4, g5, .ref h1, .int 3, g6])), (h1, .inl (cB, 100, .inl f_19))] := hD
  refine lv_iinc (v := 1) (lv' := [(4, .int 1), (0, .ref h0), (1, .long y0), (3, .int 5)]) hx hb dX7_feed_76 hl (k := 0) rfl (by decide) (by decide) rfl (fun ls hl => ?_)
  refine lv_goto (tgt := 43) hx hb dX7_feed_79 (by decide) ?_
  refine lv_iload hx hb dX7_feed_43 (lv_at hl 0 rfl) ?_
  refine lv_if_lt (tgt := 82) hx hb dX7_feed_45 (by decide) (fun c => absurd c (by decide)) (fun c => ?_)
  refine lv_aload_n hx hb dX7_feed_48 rfl (lv_at hl 1 rfl) ?_
  refine va_get (D := D) (ci := 6) (v := .ref h1) (C := RX7) (T := TX7) (N := 9) hx hb hts inX7_feed_X7 hown hK hP 0 rfl rfl 6 (by decide) (hts _ wdX7_feed_1) (fun _ h9 => h9) rfl dX7_feed_49 ?_
  refine lv_aload_n hx hb dX7_feed_52 rfl (lv_at hl 1 rfl) ?_
  refine va_get (D := D) (ci := 6) (v := .int 3) (C := RX7) (T := TX7) (N := 9) hx hb hts inX7_feed_X7 hown hK hP 0 rfl rfl 7 (by decide) (hts _ wdX7_feed_0) (fun _ h9 => h9) rfl dX7_feed_53 ?_
  refine lv_lload_n hx hb dX7_feed_56 rfl (lv_at hl 2 rfl) ?_
  refine lv_bipush (v := 8) hx hb dX7_feed_57 (by decide) ?_
  refine lv_iload hx hb dX7_feed_59 (lv_at hl 0 rfl) ?_
  refine lv_imul hx hb dX7_feed_61 ?_
  refine lv_topi (fun z_21 ez_21 => ?_)
  obtain rfl : z_21 = 8 := ez_21.trans (by decide)
  refine lv_lushr hx hb dX7_feed_62 rfl ?_
  refine lv_topl (fun y_22 _ => ?_)
  refine lv_l2i hx hb dX7_feed_63 rfl ?_
  refine lv_topi (fun x_23 ex_23 => ?_)
  refine lv_i2b hx hb dX7_feed_64 rfl ?_
  refine lv_topi (fun x_24 ex_24 => ?_)
  refine va_bast hx hb hK hP hD hS 1 0 rfl rfl (ti_in (a := 3) (by decide) (by decide) (by decide)) dX7_feed_65 (fun H locs hP hD hS => ?_)
  obtain ⟨f_25, ef_25⟩ : ∃ g : Nat → Int32, g = upd f_19 (Int32.toNatClampNeg 3) (vp_nar .byte x_24) := ⟨_, rfl⟩
  rw [← ef_25] at hP hD
  have bf_25 : FB f_25 := by rw [ef_25]; exact FB_upd bf_19 _ _
  have hP : va_P D vwCl [(h0, .inr (6, [g0, g1, g2, g3, g4, g5, .ref h1, .int 3, g6])), (h1, .inl (cB, 100, .inl f_25))] H := hP
  have hD : va_D A [(h0, .inr (6, [g0, g1, g2, g3, g4, g5, .ref h1, .int 3, g6])), (h1, .inl (cB, 100, .inl f_25))] := hD
  refine lv_aload_n hx hb dX7_feed_66 rfl (lv_at hl 1 rfl) ?_
  refine lv_dup hx hb dX7_feed_67 rfl ?_
  refine va_get (D := D) (ci := 6) (v := .int 3) (C := RX7) (T := TX7) (N := 9) hx hb hts inX7_feed_X7 hown hK hP 0 rfl rfl 7 (by decide) (hts _ wdX7_feed_0) (fun _ h9 => h9) rfl dX7_feed_68 ?_
  refine lv_iconst (v := 1) hx hb dX7_feed_71 (by decide) ?_
  refine lv_iadd hx hb dX7_feed_72 ?_
  refine lv_topi (fun z_26 ez_26 => ?_)
  obtain rfl : z_26 = 4 := ez_26.trans (by decide)
  refine va_put (D := D) (ci := 6) (v := .int 4) (ty := .int) (C := RX7) (T := TX7) (N := 9) hx hb hts inX7_feed_X7 tyX7 tyX7_ok nmX7 hown hK hP hD hS 0 rfl rfl 7 (by decide) (hts _ wdX7_feed_0) (fun _ h9 => h9) rfl (by decide +kernel) rfl rfl (Nat.le_of_ble_eq_true rfl) dX7_feed_73 (fun H locs hP hD hS => ?_)
  have hP : va_P D vwCl [(h0, .inr (6, [g0, g1, g2, g3, g4, g5, .ref h1, .int 4, g6])), (h1, .inl (cB, 100, .inl f_25))] H := hP
  have hD : va_D A [(h0, .inr (6, [g0, g1, g2, g3, g4, g5, .ref h1, .int 4, g6])), (h1, .inl (cB, 100, .inl f_25))] := hD
  refine lv_iinc (v := 0) (lv' := [(4, .int 0), (0, .ref h0), (1, .long y0), (3, .int 5)]) hx hb dX7_feed_76 hl (k := 0) rfl (by decide) (by decide) rfl (fun ls hl => ?_)
  refine lv_goto (tgt := 43) hx hb dX7_feed_79 (by decide) ?_
  refine lv_iload hx hb dX7_feed_43 (lv_at hl 0 rfl) ?_
  refine lv_if_lt (tgt := 82) hx hb dX7_feed_45 (by decide) (fun c => absurd c (by decide)) (fun c => ?_)
  refine lv_aload_n hx hb dX7_feed_48 rfl (lv_at hl 1 rfl) ?_
  refine va_get (D := D) (ci := 6) (v := .ref h1) (C := RX7) (T := TX7) (N := 9) hx hb hts inX7_feed_X7 hown hK hP 0 rfl rfl 6 (by decide) (hts _ wdX7_feed_1) (fun _ h9 => h9) rfl dX7_feed_49 ?_
  refine lv_aload_n hx hb dX7_feed_52 rfl (lv_at hl 1 rfl) ?_
  refine va_get (D := D) (ci := 6) (v := .int 4) (C := RX7) (T := TX7) (N := 9) hx hb hts inX7_feed_X7 hown hK hP 0 rfl rfl 7 (by decide) (hts _ wdX7_feed_0) (fun _ h9 => h9) rfl dX7_feed_53 ?_
  refine lv_lload_n hx hb dX7_feed_56 rfl (lv_at hl 2 rfl) ?_
  refine lv_bipush (v := 8) hx hb dX7_feed_57 (by decide) ?_
  refine lv_iload hx hb dX7_feed_59 (lv_at hl 0 rfl) ?_
  refine lv_imul hx hb dX7_feed_61 ?_
  refine lv_topi (fun z_27 ez_27 => ?_)
  obtain rfl : z_27 = 0 := ez_27.trans (by decide)
  refine lv_lushr hx hb dX7_feed_62 rfl ?_
  refine lv_topl (fun y_28 _ => ?_)
  refine lv_l2i hx hb dX7_feed_63 rfl ?_
  refine lv_topi (fun x_29 ex_29 => ?_)
  refine lv_i2b hx hb dX7_feed_64 rfl ?_
  refine lv_topi (fun x_30 ex_30 => ?_)
  refine va_bast hx hb hK hP hD hS 1 0 rfl rfl (ti_in (a := 4) (by decide) (by decide) (by decide)) dX7_feed_65 (fun H locs hP hD hS => ?_)
  obtain ⟨f_31, ef_31⟩ : ∃ g : Nat → Int32, g = upd f_25 (Int32.toNatClampNeg 4) (vp_nar .byte x_30) := ⟨_, rfl⟩
  rw [← ef_31] at hP hD
  have bf_31 : FB f_31 := by rw [ef_31]; exact FB_upd bf_25 _ _
  have hP : va_P D vwCl [(h0, .inr (6, [g0, g1, g2, g3, g4, g5, .ref h1, .int 4, g6])), (h1, .inl (cB, 100, .inl f_31))] H := hP
  have hD : va_D A [(h0, .inr (6, [g0, g1, g2, g3, g4, g5, .ref h1, .int 4, g6])), (h1, .inl (cB, 100, .inl f_31))] := hD
  refine lv_aload_n hx hb dX7_feed_66 rfl (lv_at hl 1 rfl) ?_
  refine lv_dup hx hb dX7_feed_67 rfl ?_
  refine va_get (D := D) (ci := 6) (v := .int 4) (C := RX7) (T := TX7) (N := 9) hx hb hts inX7_feed_X7 hown hK hP 0 rfl rfl 7 (by decide) (hts _ wdX7_feed_0) (fun _ h9 => h9) rfl dX7_feed_68 ?_
  refine lv_iconst (v := 1) hx hb dX7_feed_71 (by decide) ?_
  refine lv_iadd hx hb dX7_feed_72 ?_
  refine lv_topi (fun z_32 ez_32 => ?_)
  obtain rfl : z_32 = 5 := ez_32.trans (by decide)
  refine va_put (D := D) (ci := 6) (v := .int 5) (ty := .int) (C := RX7) (T := TX7) (N := 9) hx hb hts inX7_feed_X7 tyX7 tyX7_ok nmX7 hown hK hP hD hS 0 rfl rfl 7 (by decide) (hts _ wdX7_feed_0) (fun _ h9 => h9) rfl (by decide +kernel) rfl rfl (Nat.le_of_ble_eq_true rfl) dX7_feed_73 (fun H locs hP hD hS => ?_)
  have hP : va_P D vwCl [(h0, .inr (6, [g0, g1, g2, g3, g4, g5, .ref h1, .int 5, g6])), (h1, .inl (cB, 100, .inl f_31))] H := hP
  have hD : va_D A [(h0, .inr (6, [g0, g1, g2, g3, g4, g5, .ref h1, .int 5, g6])), (h1, .inl (cB, 100, .inl f_31))] := hD
  refine lv_iinc (v := (-1)) (lv' := [(4, .int (-1)), (0, .ref h0), (1, .long y0), (3, .int 5)]) hx hb dX7_feed_76 hl (k := 0) rfl (by decide) (by decide) rfl (fun ls hl => ?_)
  refine lv_goto (tgt := 43) hx hb dX7_feed_79 (by decide) ?_
  refine lv_iload hx hb dX7_feed_43 (lv_at hl 0 rfl) ?_
  refine lv_if_lt (tgt := 82) hx hb dX7_feed_45 (by decide) (fun c => ?_) (fun c => absurd (by decide) c)
  refine lv_aload_n hx hb dX7_feed_82 rfl (lv_at hl 1 rfl) ?_
  refine va_get (D := D) (ci := 6) (v := .int 5) (C := RX7) (T := TX7) (N := 9) hx hb hts inX7_feed_X7 hown hK hP 0 rfl rfl 7 (by decide) (hts _ wdX7_feed_0) (fun _ h9 => h9) rfl dX7_feed_83 ?_
  exact kr_i () hx hb hr hlocks (hP.sub [] rfl) (hD.sub [] (by decide) rfl) hS rfl dX7_feed_86
set_option maxHeartbeats 4000000 in
set_option maxRecDepth 100000 in
theorem K32_X8_in (l : Launch) (D : va_G) (cB cI cZ : ClassId) (sz : Nat)     :
    CtI l D cB cI cZ yX8_in wsX8_in { frames := 0, cells := 0, slots := 0, locals := 0 } [.int 5, .int 0, .int 8] [] sz 0 0
      (fun (r : Int32) (u : Unit) => r = 1)
      (fun u => []) := by
  refine mk_metI (cc := cX8_in) (maxL := 3) (ret := (some .boolean)) (by decide) rfl (Nat.le_of_ble_eq_true rfl) ?_
  intro p e s m below meth c A hx hb hr hml hts hown hlocks hin hP hK hN hD hA hS ls hl
  have hown : s.vm.findClass RX8 = some m.cls := hown
  have hl : lv_has ls 3 [(0, .int 5), (1, .int 0), (2, .int 8)] := hl
  refine lv_iload_n hx hb dX8_in_0 rfl (lv_at hl 0 rfl) ?_
  refine lv_iload_n hx hb dX8_in_1 rfl (lv_at hl 1 rfl) ?_
  refine lv_icmp_lt (tgt := 14) hx hb dX8_in_2 (by decide) (fun c => absurd c (by decide)) (fun c => ?_)
  refine lv_iload_n hx hb dX8_in_5 rfl (lv_at hl 0 rfl) ?_
  refine lv_iload_n hx hb dX8_in_6 rfl (lv_at hl 2 rfl) ?_
  refine lv_icmp_gt (tgt := 14) hx hb dX8_in_7 (by decide) (fun c => absurd c (by decide)) (fun c => ?_)
  refine lv_iconst (v := 1) hx hb dX8_in_10 (by decide) ?_
  refine lv_goto (tgt := 15) hx hb dX8_in_11 (by decide) ?_
  exact kr_z () hx hb hr rfl hlocks hP hD hS rfl dX8_in_15
set_option maxHeartbeats 4000000 in
set_option maxRecDepth 100000 in
theorem K31_X8_feed (l : Launch) (D : va_G) (cB cI cZ : ClassId) (sz : Nat) (h0 : Nat) (h1 : Nat)  (y0 : Int64) (g0 : Value) (g1 : Value) (g2 : Value) (g3 : Value) (g4 : Value) (g5 : Value) (g6 : Value) (g7 : Value) (g8 : Value) (g9 : Value) (g10 : Value) (g11 : Value) (g12 : Value) (g13 : Value) (g14 : Value) (g15 : Value) (g16 : Value) (g17 : Value) (g18 : Value) (g19 : Value) (g20 : Value) (g21 : Value) (g22 : Value) (g23 : Value) (g24 : Value) (g25 : Value) (g26 : Value) (g27 : Value)  :
    CtI l D cB cI cZ yX8_feed wsX8_feed { frames := 1, cells := 0, slots := 0, locals := 22 } [.ref h0, .long y0, .int 5] [(h0, .inr (7, [g0, g1, g2, g3, g4, g5, g6, g7, g8, g9, g10, g11, g12, g13, g14, g15, g16, g17, g18, g19, g20, g21, .ref h1, .int 0, g22, g23, g24, g25, g26, g27])), (h1, .inl (cB, 100, .inl zf))] sz 0 0
      (fun (r : Int32) (u : Unit) => r = 5)
      (fun u => []) := by
  refine mk_metI (cc := cX8_feed) (maxL := 5) (ret := (some .int)) (by decide) rfl (Nat.le_of_ble_eq_true rfl) ?_
  intro p e s m below meth c A hx hb hr hml hts hown hlocks hin hP hK hN hD hA hS ls hl
  have hown : s.vm.findClass RX8 = some m.cls := hown
  have hl : lv_has ls 5 [(0, .ref h0), (1, .long y0), (3, .int 5)] := hl
  refine lv_aload_n hx hb dX8_feed_0 rfl (lv_at hl 0 rfl) ?_
  refine lv_iconst (v := 0) hx hb dX8_feed_1 (by decide) ?_
  refine va_put (D := D) (ci := 7) (v := .int 0) (ty := .int) (C := RX8) (T := TX8) (N := 30) hx hb hts inX8_feed_X8 tyX8 tyX8_ok nmX8 hown hK hP hD hS 0 rfl rfl 0 (by decide) (hts _ wdX8_feed_0) (fun _ h9 => h9) rfl (by decide +kernel) rfl rfl (Nat.le_of_ble_eq_true rfl) dX8_feed_2 (fun H locs hP hD hS => ?_)
  have hP : va_P D vwCl [(h0, .inr (7, [.int 0, g1, g2, g3, g4, g5, g6, g7, g8, g9, g10, g11, g12, g13, g14, g15, g16, g17, g18, g19, g20, g21, .ref h1, .int 0, g22, g23, g24, g25, g26, g27])), (h1, .inl (cB, 100, .inl zf))] H := hP
  have hD : va_D A [(h0, .inr (7, [.int 0, g1, g2, g3, g4, g5, g6, g7, g8, g9, g10, g11, g12, g13, g14, g15, g16, g17, g18, g19, g20, g21, .ref h1, .int 0, g22, g23, g24, g25, g26, g27])), (h1, .inl (cB, 100, .inl zf))] := hD
  refine lv_iload_n hx hb dX8_feed_5 rfl (lv_at hl 2 rfl) ?_
  refine lv_iconst (v := 0) hx hb dX8_feed_6 (by decide) ?_
  refine lv_bipush (v := 8) hx hb dX8_feed_7 (by decide) ?_
  refine kc_i (wr := [(h0, .inr (7, [.int 0, g1, g2, g3, g4, g5, g6, g7, g8, g9, g10, g11, g12, g13, g14, g15, g16, g17, g18, g19, g20, g21, .ref h1, .int 0, g22, g23, g24, g25, g26, g27])), (h1, .inl (cB, 100, .inl zf))]) (va_runS (As := [.int 5, .int 0, .int 8]) (rest := []) ⟨hx, hb, hml, hown, hts⟩ (K32_X8_in l D cB cI cZ _ ) (va_cwS 3 hts gX8_feed_X8_in rfl rfl rfl (by decide +kernel) ⟨Nat.le_of_ble_eq_true rfl, Nat.le_of_ble_eq_true rfl⟩) (pre_S (hP.sub [] rfl) hK hN (hD.sub [] (by decide) rfl)) rfl rfl hl.1 rfl (lv_room (Nat.le_of_ble_eq_true rfl)) dX8_feed_9 ⟨Nat.le_of_ble_eq_true rfl, Nat.le_of_ble_eq_true rfl⟩) hP hD hS hA [] [0, 1] rfl rfl (by decide) (by decide) (fun r_1 u H locs hw hP hD hS => ?_)
  have k_2 := hw
  obtain rfl : r_1 = 1 := k_2
  have hP : va_P D vwCl [(h0, .inr (7, [.int 0, g1, g2, g3, g4, g5, g6, g7, g8, g9, g10, g11, g12, g13, g14, g15, g16, g17, g18, g19, g20, g21, .ref h1, .int 0, g22, g23, g24, g25, g26, g27])), (h1, .inl (cB, 100, .inl zf))] H := hP
  have hD : va_D A [(h0, .inr (7, [.int 0, g1, g2, g3, g4, g5, g6, g7, g8, g9, g10, g11, g12, g13, g14, g15, g16, g17, g18, g19, g20, g21, .ref h1, .int 0, g22, g23, g24, g25, g26, g27])), (h1, .inl (cB, 100, .inl zf))] := hD
  refine lv_if_ne (tgt := 18) hx hb dX8_feed_12 (by decide) (fun c => ?_) (fun c => absurd c (by decide))
  refine lv_iload_n hx hb dX8_feed_18 rfl (lv_at hl 2 rfl) ?_
  refine lv_if_ne (tgt := 29) hx hb dX8_feed_19 (by decide) (fun c => ?_) (fun c => absurd c (by decide))
  refine lv_aload_n hx hb dX8_feed_29 rfl (lv_at hl 0 rfl) ?_
  refine va_get (D := D) (ci := 7) (v := .int 0) (C := RX8) (T := TX8) (N := 30) hx hb hts inX8_feed_X8 hown hK hP 0 rfl rfl 23 (by decide) (hts _ wdX8_feed_1) (fun _ h9 => h9) rfl dX8_feed_30 ?_
  refine lv_iload_n hx hb dX8_feed_33 rfl (lv_at hl 2 rfl) ?_
  refine lv_iadd hx hb dX8_feed_34 ?_
  refine lv_topi (fun z_3 ez_3 => ?_)
  obtain rfl : z_3 = 5 := ez_3.trans (by decide)
  refine lv_bipush (v := 100) hx hb dX8_feed_35 (by decide) ?_
  refine lv_icmp_le (tgt := 43) hx hb dX8_feed_37 (by decide) (fun c => ?_) (fun c => absurd (by decide) c)
  refine lv_iload_n hx hb dX8_feed_43 rfl (lv_at hl 2 rfl) ?_
  refine lv_iconst (v := 1) hx hb dX8_feed_44 (by decide) ?_
  refine lv_isub hx hb dX8_feed_45 ?_
  refine lv_topi (fun z_4 ez_4 => ?_)
  obtain rfl : z_4 = 4 := ez_4.trans (by decide)
  refine lv_istore (lv' := [(4, .int 4), (0, .ref h0), (1, .long y0), (3, .int 5)]) hx hb dX8_feed_46 hl (by decide) rfl (fun ls hl => ?_)
  refine lv_iload hx hb dX8_feed_48 (lv_at hl 0 rfl) ?_
  refine lv_if_lt (tgt := 87) hx hb dX8_feed_50 (by decide) (fun c => absurd c (by decide)) (fun c => ?_)
  refine lv_aload_n hx hb dX8_feed_53 rfl (lv_at hl 1 rfl) ?_
  refine va_get (D := D) (ci := 7) (v := .ref h1) (C := RX8) (T := TX8) (N := 30) hx hb hts inX8_feed_X8 hown hK hP 0 rfl rfl 22 (by decide) (hts _ wdX8_feed_2) (fun _ h9 => h9) rfl dX8_feed_54 ?_
  refine lv_aload_n hx hb dX8_feed_57 rfl (lv_at hl 1 rfl) ?_
  refine va_get (D := D) (ci := 7) (v := .int 0) (C := RX8) (T := TX8) (N := 30) hx hb hts inX8_feed_X8 hown hK hP 0 rfl rfl 23 (by decide) (hts _ wdX8_feed_1) (fun _ h9 => h9) rfl dX8_feed_58 ?_
  refine lv_lload_n hx hb dX8_feed_61 rfl (lv_at hl 2 rfl) ?_
  refine lv_bipush (v := 8) hx hb dX8_feed_62 (by decide) ?_
  refine lv_iload hx hb dX8_feed_64 (lv_at hl 0 rfl) ?_
  refine lv_imul hx hb dX8_feed_66 ?_
  refine lv_topi (fun z_5 ez_5 => ?_)
  obtain rfl : z_5 = 32 := ez_5.trans (by decide)
  refine lv_lshr hx hb dX8_feed_67 rfl ?_
  refine lv_topl (fun y_6 _ => ?_)
  refine lv_l2i hx hb dX8_feed_68 rfl ?_
  refine lv_topi (fun x_7 ex_7 => ?_)
  refine lv_i2b hx hb dX8_feed_69 rfl ?_
  refine lv_topi (fun x_8 ex_8 => ?_)
  refine va_bast hx hb hK hP hD hS 1 0 rfl rfl (ti_in (a := 0) (by decide) (by decide) (by decide)) dX8_feed_70 (fun H locs hP hD hS => ?_)
  obtain ⟨f_9, ef_9⟩ : ∃ g : Nat → Int32, g = upd zf (Int32.toNatClampNeg 0) (vp_nar .byte x_8) := ⟨_, rfl⟩
  rw [← ef_9] at hP hD
  have bf_9 : FB f_9 := by rw [ef_9]; exact FB_upd FB_zf _ _
  have hP : va_P D vwCl [(h0, .inr (7, [.int 0, g1, g2, g3, g4, g5, g6, g7, g8, g9, g10, g11, g12, g13, g14, g15, g16, g17, g18, g19, g20, g21, .ref h1, .int 0, g22, g23, g24, g25, g26, g27])), (h1, .inl (cB, 100, .inl f_9))] H := hP
  have hD : va_D A [(h0, .inr (7, [.int 0, g1, g2, g3, g4, g5, g6, g7, g8, g9, g10, g11, g12, g13, g14, g15, g16, g17, g18, g19, g20, g21, .ref h1, .int 0, g22, g23, g24, g25, g26, g27])), (h1, .inl (cB, 100, .inl f_9))] := hD
  refine lv_aload_n hx hb dX8_feed_71 rfl (lv_at hl 1 rfl) ?_
  refine lv_dup hx hb dX8_feed_72 rfl ?_
  refine va_get (D := D) (ci := 7) (v := .int 0) (C := RX8) (T := TX8) (N := 30) hx hb hts inX8_feed_X8 hown hK hP 0 rfl rfl 23 (by decide) (hts _ wdX8_feed_1) (fun _ h9 => h9) rfl dX8_feed_73 ?_
  refine lv_iconst (v := 1) hx hb dX8_feed_76 (by decide) ?_
  refine lv_iadd hx hb dX8_feed_77 ?_
  refine lv_topi (fun z_10 ez_10 => ?_)
  obtain rfl : z_10 = 1 := ez_10.trans (by decide)
  refine va_put (D := D) (ci := 7) (v := .int 1) (ty := .int) (C := RX8) (T := TX8) (N := 30) hx hb hts inX8_feed_X8 tyX8 tyX8_ok nmX8 hown hK hP hD hS 0 rfl rfl 23 (by decide) (hts _ wdX8_feed_1) (fun _ h9 => h9) rfl (by decide +kernel) rfl rfl (Nat.le_of_ble_eq_true rfl) dX8_feed_78 (fun H locs hP hD hS => ?_)
  have hP : va_P D vwCl [(h0, .inr (7, [.int 0, g1, g2, g3, g4, g5, g6, g7, g8, g9, g10, g11, g12, g13, g14, g15, g16, g17, g18, g19, g20, g21, .ref h1, .int 1, g22, g23, g24, g25, g26, g27])), (h1, .inl (cB, 100, .inl f_9))] H := hP
  have hD : va_D A [(h0, .inr (7, [.int 0, g1, g2, g3, g4, g5, g6, g7, g8, g9, g10, g11, g12, g13, g14, g15, g16, g17, g18, g19, g20, g21, .ref h1, .int 1, g22, g23, g24, g25, g26, g27])), (h1, .inl (cB, 100, .inl f_9))] := hD
  refine lv_iinc (v := 3) (lv' := [(4, .int 3), (0, .ref h0), (1, .long y0), (3, .int 5)]) hx hb dX8_feed_81 hl (k := 0) rfl (by decide) (by decide) rfl (fun ls hl => ?_)
  refine lv_goto (tgt := 48) hx hb dX8_feed_84 (by decide) ?_
  refine lv_iload hx hb dX8_feed_48 (lv_at hl 0 rfl) ?_
  refine lv_if_lt (tgt := 87) hx hb dX8_feed_50 (by decide) (fun c => absurd c (by decide)) (fun c => ?_)
  refine lv_aload_n hx hb dX8_feed_53 rfl (lv_at hl 1 rfl) ?_
  refine va_get (D := D) (ci := 7) (v := .ref h1) (C := RX8) (T := TX8) (N := 30) hx hb hts inX8_feed_X8 hown hK hP 0 rfl rfl 22 (by decide) (hts _ wdX8_feed_2) (fun _ h9 => h9) rfl dX8_feed_54 ?_
  refine lv_aload_n hx hb dX8_feed_57 rfl (lv_at hl 1 rfl) ?_
  refine va_get (D := D) (ci := 7) (v := .int 1) (C := RX8) (T := TX8) (N := 30) hx hb hts inX8_feed_X8 hown hK hP 0 rfl rfl 23 (by decide) (hts _ wdX8_feed_1) (fun _ h9 => h9) rfl dX8_feed_58 ?_
  refine lv_lload_n hx hb dX8_feed_61 rfl (lv_at hl 2 rfl) ?_
  refine lv_bipush (v := 8) hx hb dX8_feed_62 (by decide) ?_
  refine lv_iload hx hb dX8_feed_64 (lv_at hl 0 rfl) ?_
  refine lv_imul hx hb dX8_feed_66 ?_
  refine lv_topi (fun z_11 ez_11 => ?_)
  obtain rfl : z_11 = 24 := ez_11.trans (by decide)
  refine lv_lshr hx hb dX8_feed_67 rfl ?_
  refine lv_topl (fun y_12 _ => ?_)
  refine lv_l2i hx hb dX8_feed_68 rfl ?_
  refine lv_topi (fun x_13 ex_13 => ?_)
  refine lv_i2b hx hb dX8_feed_69 rfl ?_
  refine lv_topi (fun x_14 ex_14 => ?_)
  refine va_bast hx hb hK hP hD hS 1 0 rfl rfl (ti_in (a := 1) (by decide) (by decide) (by decide)) dX8_feed_70 (fun H locs hP hD hS => ?_)
  obtain ⟨f_15, ef_15⟩ : ∃ g : Nat → Int32, g = upd f_9 (Int32.toNatClampNeg 1) (vp_nar .byte x_14) := ⟨_, rfl⟩
  rw [← ef_15] at hP hD
  have bf_15 : FB f_15 := by rw [ef_15]; exact FB_upd bf_9 _ _
  have hP : va_P D vwCl [(h0, .inr (7, [.int 0, g1, g2, g3, g4, g5, g6, g7, g8, g9, g10, g11, g12, g13, g14, g15, g16, g17, g18, g19, g20, g21, .ref h1, .int 1, g22, g23, g24, g25, g26, g27])), (h1, .inl (cB, 100, .inl f_15))] H := hP
  have hD : va_D A [(h0, .inr (7, [.int 0, g1, g2, g3, g4, g5, g6, g7, g8, g9, g10, g11, g12, g13, g14, g15, g16, g17, g18, g19, g20, g21, .ref h1, .int 1, g22, g23, g24, g25, g26, g27])), (h1, .inl (cB, 100, .inl f_15))] := hD
  refine lv_aload_n hx hb dX8_feed_71 rfl (lv_at hl 1 rfl) ?_
  refine lv_dup hx hb dX8_feed_72 rfl ?_
  refine va_get (D := D) (ci := 7) (v := .int 1) (C := RX8) (T := TX8) (N := 30) hx hb hts inX8_feed_X8 hown hK hP 0 rfl rfl 23 (by decide) (hts _ wdX8_feed_1) (fun _ h9 => h9) rfl dX8_feed_73 ?_
  refine lv_iconst (v := 1) hx hb dX8_feed_76 (by decide) ?_
  refine lv_iadd hx hb dX8_feed_77 ?_
  refine lv_topi (fun z_16 ez_16 => ?_)
  obtain rfl : z_16 = 2 := ez_16.trans (by decide)
  refine va_put (D := D) (ci := 7) (v := .int 2) (ty := .int) (C := RX8) (T := TX8) (N := 30) hx hb hts inX8_feed_X8 tyX8 tyX8_ok nmX8 hown hK hP hD hS 0 rfl rfl 23 (by decide) (hts _ wdX8_feed_1) (fun _ h9 => h9) rfl (by decide +kernel) rfl rfl (Nat.le_of_ble_eq_true rfl) dX8_feed_78 (fun H locs hP hD hS => ?_)
  have hP : va_P D vwCl [(h0, .inr (7, [.int 0, g1, g2, g3, g4, g5, g6, g7, g8, g9, g10, g11, g12, g13, g14, g15, g16, g17, g18, g19, g20, g21, .ref h1, .int 2, g22, g23, g24, g25, g26, g27])), (h1, .inl (cB, 100, .inl f_15))] H := hP
  have hD : va_D A [(h0, .inr (7, [.int 0, g1, g2, g3, g4, g5, g6, g7, g8, g9, g10, g11, g12, g13, g14, g15, g16, g17, g18, g19, g20, g21, .ref h1, .int 2, g22, g23, g24, g25, g26, g27])), (h1, .inl (cB, 100, .inl f_15))] := hD
  refine lv_iinc (v := 2) (lv' := [(4, .int 2), (0, .ref h0), (1, .long y0), (3, .int 5)]) hx hb dX8_feed_81 hl (k := 0) rfl (by decide) (by decide) rfl (fun ls hl => ?_)
  refine lv_goto (tgt := 48) hx hb dX8_feed_84 (by decide) ?_
  refine lv_iload hx hb dX8_feed_48 (lv_at hl 0 rfl) ?_
  refine lv_if_lt (tgt := 87) hx hb dX8_feed_50 (by decide) (fun c => absurd c (by decide)) (fun c => ?_)
  refine lv_aload_n hx hb dX8_feed_53 rfl (lv_at hl 1 rfl) ?_
  refine va_get (D := D) (ci := 7) (v := .ref h1) (C := RX8) (T := TX8) (N := 30) hx hb hts inX8_feed_X8 hown hK hP 0 rfl rfl 22 (by decide) (hts _ wdX8_feed_2) (fun _ h9 => h9) rfl dX8_feed_54 ?_
  refine lv_aload_n hx hb dX8_feed_57 rfl (lv_at hl 1 rfl) ?_
  refine va_get (D := D) (ci := 7) (v := .int 2) (C := RX8) (T := TX8) (N := 30) hx hb hts inX8_feed_X8 hown hK hP 0 rfl rfl 23 (by decide) (hts _ wdX8_feed_1) (fun _ h9 => h9) rfl dX8_feed_58 ?_
  refine lv_lload_n hx hb dX8_feed_61 rfl (lv_at hl 2 rfl) ?_
  refine lv_bipush (v := 8) hx hb dX8_feed_62 (by decide) ?_
  refine lv_iload hx hb dX8_feed_64 (lv_at hl 0 rfl) ?_
  refine lv_imul hx hb dX8_feed_66 ?_
  refine lv_topi (fun z_17 ez_17 => ?_)
  obtain rfl : z_17 = 16 := ez_17.trans (by decide)
  refine lv_lshr hx hb dX8_feed_67 rfl ?_
  refine lv_topl (fun y_18 _ => ?_)
  refine lv_l2i hx hb dX8_feed_68 rfl ?_
  refine lv_topi (fun x_19 ex_19 => ?_)
  refine lv_i2b hx hb dX8_feed_69 rfl ?_
  refine lv_topi (fun x_20 ex_20 => ?_)
  refine va_bast hx hb hK hP hD hS 1 0 rfl rfl (ti_in (a := 2) (by decide) (by decide) (by decide)) dX8_feed_70 (fun H locs hP hD hS => ?_)
  obtain ⟨f_21, ef_21⟩ : ∃ g : Nat → Int32, g = upd f_15 (Int32.toNatClampNeg 2) (vp_nar .byte x_20) := ⟨_, rfl⟩
  rw [← ef_21] at hP hD
  have bf_21 : FB f_21 := by rw [ef_21]; exact FB_upd bf_15 _ _
  have hP : va_P D vwCl [(h0, .inr (7, [.int 0, g1, g2, g3, g4, g5, g6, g7, g8, g9, g10, g11, g12, g13, g14, g15, g16, g17, g18, g19, g20, g21, .ref h1, .int 2, g22, g23, g24, g25, g26, g27])), (h1, .inl (cB, 100, .inl f_21))] H := hP
  have hD : va_D A [(h0, .inr (7, [.int 0, g1, g2, g3, g4, g5, g6, g7, g8, g9, g10, g11, g12, g13, g14, g15, g16, g17, g18, g19, g20, g21, .ref h1, .int 2, g22, g23, g24, g25, g26, g27])), (h1, .inl (cB, 100, .inl f_21))] := hD
  refine lv_aload_n hx hb dX8_feed_71 rfl (lv_at hl 1 rfl) ?_
  refine lv_dup hx hb dX8_feed_72 rfl ?_
  refine va_get (D := D) (ci := 7) (v := .int 2) (C := RX8) (T := TX8) (N := 30) hx hb hts inX8_feed_X8 hown hK hP 0 rfl rfl 23 (by decide) (hts _ wdX8_feed_1) (fun _ h9 => h9) rfl dX8_feed_73 ?_
  refine lv_iconst (v := 1) hx hb dX8_feed_76 (by decide) ?_
  refine lv_iadd hx hb dX8_feed_77 ?_
  refine lv_topi (fun z_22 ez_22 => ?_)
  obtain rfl : z_22 = 3 := ez_22.trans (by decide)
  refine va_put (D := D) (ci := 7) (v := .int 3) (ty := .int) (C := RX8) (T := TX8) (N := 30) hx hb hts inX8_feed_X8 tyX8 tyX8_ok nmX8 hown hK hP hD hS 0 rfl rfl 23 (by decide) (hts _ wdX8_feed_1) (fun _ h9 => h9) rfl (by decide +kernel) rfl rfl (Nat.le_of_ble_eq_true rfl) dX8_feed_78 (fun H locs hP hD hS => ?_)
  have hP : va_P D vwCl [(h0, .inr (7, [.int 0, g1, g2, g3, g4, g5, g6, g7, g8, g9, g10, g11, g12, g13, g14, g15, g16, g17, g18, g19, g20, g21, .ref h1, .int 3, g22, g23, g24, g25, g26, g27])), (h1, .inl (cB, 100, .inl f_21))] H := hP
  have hD : va_D A [(h0, .inr (7, [.int 0, g1, g2, g3, g4, g5, g6, g7, g8, g9, g10, g11, g12, g13, g14, g15, g16, g17, g18, g19, g20, g21, .ref h1, .int 3, g22, g23, g24, g25, g26, g27])), (h1, .inl (cB, 100, .inl f_21))] := hD
  refine lv_iinc (v := 1) (lv' := [(4, .int 1), (0, .ref h0), (1, .long y0), (3, .int 5)]) hx hb dX8_feed_81 hl (k := 0) rfl (by decide) (by decide) rfl (fun ls hl => ?_)
  refine lv_goto (tgt := 48) hx hb dX8_feed_84 (by decide) ?_
  refine lv_iload hx hb dX8_feed_48 (lv_at hl 0 rfl) ?_
  refine lv_if_lt (tgt := 87) hx hb dX8_feed_50 (by decide) (fun c => absurd c (by decide)) (fun c => ?_)
  refine lv_aload_n hx hb dX8_feed_53 rfl (lv_at hl 1 rfl) ?_
  refine va_get (D := D) (ci := 7) (v := .ref h1) (C := RX8) (T := TX8) (N := 30) hx hb hts inX8_feed_X8 hown hK hP 0 rfl rfl 22 (by decide) (hts _ wdX8_feed_2) (fun _ h9 => h9) rfl dX8_feed_54 ?_
  refine lv_aload_n hx hb dX8_feed_57 rfl (lv_at hl 1 rfl) ?_
  refine va_get (D := D) (ci := 7) (v := .int 3) (C := RX8) (T := TX8) (N := 30) hx hb hts inX8_feed_X8 hown hK hP 0 rfl rfl 23 (by decide) (hts _ wdX8_feed_1) (fun _ h9 => h9) rfl dX8_feed_58 ?_
  refine lv_lload_n hx hb dX8_feed_61 rfl (lv_at hl 2 rfl) ?_
  refine lv_bipush (v := 8) hx hb dX8_feed_62 (by decide) ?_
  refine lv_iload hx hb dX8_feed_64 (lv_at hl 0 rfl) ?_
  refine lv_imul hx hb dX8_feed_66 ?_
  refine lv_topi (fun z_23 ez_23 => ?_)
  obtain rfl : z_23 = 8 := ez_23.trans (by decide)
  refine lv_lshr hx hb dX8_feed_67 rfl ?_
  refine lv_topl (fun y_24 _ => ?_)
  refine lv_l2i hx hb dX8_feed_68 rfl ?_
  refine lv_topi (fun x_25 ex_25 => ?_)
  refine lv_i2b hx hb dX8_feed_69 rfl ?_
  refine lv_topi (fun x_26 ex_26 => ?_)
  refine va_bast hx hb hK hP hD hS 1 0 rfl rfl (ti_in (a := 3) (by decide) (by decide) (by decide)) dX8_feed_70 (fun H locs hP hD hS => ?_)
  obtain ⟨f_27, ef_27⟩ : ∃ g : Nat → Int32, g = upd f_21 (Int32.toNatClampNeg 3) (vp_nar .byte x_26) := ⟨_, rfl⟩
  rw [← ef_27] at hP hD
  have bf_27 : FB f_27 := by rw [ef_27]; exact FB_upd bf_21 _ _
  have hP : va_P D vwCl [(h0, .inr (7, [.int 0, g1, g2, g3, g4, g5, g6, g7, g8, g9, g10, g11, g12, g13, g14, g15, g16, g17, g18, g19, g20, g21, .ref h1, .int 3, g22, g23, g24, g25, g26, g27])), (h1, .inl (cB, 100, .inl f_27))] H := hP
  have hD : va_D A [(h0, .inr (7, [.int 0, g1, g2, g3, g4, g5, g6, g7, g8, g9, g10, g11, g12, g13, g14, g15, g16, g17, g18, g19, g20, g21, .ref h1, .int 3, g22, g23, g24, g25, g26, g27])), (h1, .inl (cB, 100, .inl f_27))] := hD
  refine lv_aload_n hx hb dX8_feed_71 rfl (lv_at hl 1 rfl) ?_
  refine lv_dup hx hb dX8_feed_72 rfl ?_
  refine va_get (D := D) (ci := 7) (v := .int 3) (C := RX8) (T := TX8) (N := 30) hx hb hts inX8_feed_X8 hown hK hP 0 rfl rfl 23 (by decide) (hts _ wdX8_feed_1) (fun _ h9 => h9) rfl dX8_feed_73 ?_
  refine lv_iconst (v := 1) hx hb dX8_feed_76 (by decide) ?_
  refine lv_iadd hx hb dX8_feed_77 ?_
  refine lv_topi (fun z_28 ez_28 => ?_)
  obtain rfl : z_28 = 4 := ez_28.trans (by decide)
  refine va_put (D := D) (ci := 7) (v := .int 4) (ty := .int) (C := RX8) (T := TX8) (N := 30) hx hb hts inX8_feed_X8 tyX8 tyX8_ok nmX8 hown hK hP hD hS 0 rfl rfl 23 (by decide) (hts _ wdX8_feed_1) (fun _ h9 => h9) rfl (by decide +kernel) rfl rfl (Nat.le_of_ble_eq_true rfl) dX8_feed_78 (fun H locs hP hD hS => ?_)
  have hP : va_P D vwCl [(h0, .inr (7, [.int 0, g1, g2, g3, g4, g5, g6, g7, g8, g9, g10, g11, g12, g13, g14, g15, g16, g17, g18, g19, g20, g21, .ref h1, .int 4, g22, g23, g24, g25, g26, g27])), (h1, .inl (cB, 100, .inl f_27))] H := hP
  have hD : va_D A [(h0, .inr (7, [.int 0, g1, g2, g3, g4, g5, g6, g7, g8, g9, g10, g11, g12, g13, g14, g15, g16, g17, g18, g19, g20, g21, .ref h1, .int 4, g22, g23, g24, g25, g26, g27])), (h1, .inl (cB, 100, .inl f_27))] := hD
  refine lv_iinc (v := 0) (lv' := [(4, .int 0), (0, .ref h0), (1, .long y0), (3, .int 5)]) hx hb dX8_feed_81 hl (k := 0) rfl (by decide) (by decide) rfl (fun ls hl => ?_)
  refine lv_goto (tgt := 48) hx hb dX8_feed_84 (by decide) ?_
  refine lv_iload hx hb dX8_feed_48 (lv_at hl 0 rfl) ?_
  refine lv_if_lt (tgt := 87) hx hb dX8_feed_50 (by decide) (fun c => absurd c (by decide)) (fun c => ?_)
  refine lv_aload_n hx hb dX8_feed_53 rfl (lv_at hl 1 rfl) ?_
  refine va_get (D := D) (ci := 7) (v := .ref h1) (C := RX8) (T := TX8) (N := 30) hx hb hts inX8_feed_X8 hown hK hP 0 rfl rfl 22 (by decide) (hts _ wdX8_feed_2) (fun _ h9 => h9) rfl dX8_feed_54 ?_
  refine lv_aload_n hx hb dX8_feed_57 rfl (lv_at hl 1 rfl) ?_
  refine va_get (D := D) (ci := 7) (v := .int 4) (C := RX8) (T := TX8) (N := 30) hx hb hts inX8_feed_X8 hown hK hP 0 rfl rfl 23 (by decide) (hts _ wdX8_feed_1) (fun _ h9 => h9) rfl dX8_feed_58 ?_
  refine lv_lload_n hx hb dX8_feed_61 rfl (lv_at hl 2 rfl) ?_
  refine lv_bipush (v := 8) hx hb dX8_feed_62 (by decide) ?_
  refine lv_iload hx hb dX8_feed_64 (lv_at hl 0 rfl) ?_
  refine lv_imul hx hb dX8_feed_66 ?_
  refine lv_topi (fun z_29 ez_29 => ?_)
  obtain rfl : z_29 = 0 := ez_29.trans (by decide)
  refine lv_lshr hx hb dX8_feed_67 rfl ?_
  refine lv_topl (fun y_30 _ => ?_)
  refine lv_l2i hx hb dX8_feed_68 rfl ?_
  refine lv_topi (fun x_31 ex_31 => ?_)
  refine lv_i2b hx hb dX8_feed_69 rfl ?_
  refine lv_topi (fun x_32 ex_32 => ?_)
  refine va_bast hx hb hK hP hD hS 1 0 rfl rfl (ti_in (a := 4) (by decide) (by decide) (by decide)) dX8_feed_70 (fun H locs hP hD hS => ?_)
  obtain ⟨f_33, ef_33⟩ : ∃ g : Nat → Int32, g = upd f_27 (Int32.toNatClampNeg 4) (vp_nar .byte x_32) := ⟨_, rfl⟩
  rw [← ef_33] at hP hD
  have bf_33 : FB f_33 := by rw [ef_33]; exact FB_upd bf_27 _ _
  have hP : va_P D vwCl [(h0, .inr (7, [.int 0, g1, g2, g3, g4, g5, g6, g7, g8, g9, g10, g11, g12, g13, g14, g15, g16, g17, g18, g19, g20, g21, .ref h1, .int 4, g22, g23, g24, g25, g26, g27])), (h1, .inl (cB, 100, .inl f_33))] H := hP
  have hD : va_D A [(h0, .inr (7, [.int 0, g1, g2, g3, g4, g5, g6, g7, g8, g9, g10, g11, g12, g13, g14, g15, g16, g17, g18, g19, g20, g21, .ref h1, .int 4, g22, g23, g24, g25, g26, g27])), (h1, .inl (cB, 100, .inl f_33))] := hD
  refine lv_aload_n hx hb dX8_feed_71 rfl (lv_at hl 1 rfl) ?_
  refine lv_dup hx hb dX8_feed_72 rfl ?_
  refine va_get (D := D) (ci := 7) (v := .int 4) (C := RX8) (T := TX8) (N := 30) hx hb hts inX8_feed_X8 hown hK hP 0 rfl rfl 23 (by decide) (hts _ wdX8_feed_1) (fun _ h9 => h9) rfl dX8_feed_73 ?_
  refine lv_iconst (v := 1) hx hb dX8_feed_76 (by decide) ?_
  refine lv_iadd hx hb dX8_feed_77 ?_
  refine lv_topi (fun z_34 ez_34 => ?_)
  obtain rfl : z_34 = 5 := ez_34.trans (by decide)
  refine va_put (D := D) (ci := 7) (v := .int 5) (ty := .int) (C := RX8) (T := TX8) (N := 30) hx hb hts inX8_feed_X8 tyX8 tyX8_ok nmX8 hown hK hP hD hS 0 rfl rfl 23 (by decide) (hts _ wdX8_feed_1) (fun _ h9 => h9) rfl (by decide +kernel) rfl rfl (Nat.le_of_ble_eq_true rfl) dX8_feed_78 (fun H locs hP hD hS => ?_)
  have hP : va_P D vwCl [(h0, .inr (7, [.int 0, g1, g2, g3, g4, g5, g6, g7, g8, g9, g10, g11, g12, g13, g14, g15, g16, g17, g18, g19, g20, g21, .ref h1, .int 5, g22, g23, g24, g25, g26, g27])), (h1, .inl (cB, 100, .inl f_33))] H := hP
  have hD : va_D A [(h0, .inr (7, [.int 0, g1, g2, g3, g4, g5, g6, g7, g8, g9, g10, g11, g12, g13, g14, g15, g16, g17, g18, g19, g20, g21, .ref h1, .int 5, g22, g23, g24, g25, g26, g27])), (h1, .inl (cB, 100, .inl f_33))] := hD
  refine lv_iinc (v := (-1)) (lv' := [(4, .int (-1)), (0, .ref h0), (1, .long y0), (3, .int 5)]) hx hb dX8_feed_81 hl (k := 0) rfl (by decide) (by decide) rfl (fun ls hl => ?_)
  refine lv_goto (tgt := 48) hx hb dX8_feed_84 (by decide) ?_
  refine lv_iload hx hb dX8_feed_48 (lv_at hl 0 rfl) ?_
  refine lv_if_lt (tgt := 87) hx hb dX8_feed_50 (by decide) (fun c => ?_) (fun c => absurd (by decide) c)
  refine lv_aload_n hx hb dX8_feed_87 rfl (lv_at hl 1 rfl) ?_
  refine va_get (D := D) (ci := 7) (v := .int 5) (C := RX8) (T := TX8) (N := 30) hx hb hts inX8_feed_X8 hown hK hP 0 rfl rfl 23 (by decide) (hts _ wdX8_feed_1) (fun _ h9 => h9) rfl dX8_feed_88 ?_
  exact kr_i () hx hb hr hlocks (hP.sub [] rfl) (hD.sub [] (by decide) rfl) hS rfl dX8_feed_91
