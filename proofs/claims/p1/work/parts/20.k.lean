set_option maxHeartbeats 4000000 in
set_option maxRecDepth 100000 in
theorem K228_X7_disk (l : Launch) (D : va_G) (cB cI cZ : ClassId) (sz : Nat) (h0 : Nat)  (p0 : Int32) (p1 : Int32) (g0 : Value) (g1 : Value) (g2 : Value) (g3 : Value) (g4 : Value) (g5 : Value) (g6 : Value) (g7 : Value) (g8 : Value) (i_p0 : 64 ≤ p0.toInt) :
    CtI l D cB cI cZ yX7_disk wsX7_disk { frames := 1, cells := 0, slots := 0, locals := 21 } [.ref h0, .int p0, .int p1] [(h0, .inr (6, [g0, g1, g2, g3, g4, g5, g6, g7, g8]))] sz 0 0
      (fun (r : Int32) (u : Unit) => r = (-1))
      (fun u => []) := by
  refine mk_metI (cc := cX7_disk) (maxL := 3) (ret := (some .int)) (by decide) rfl (Nat.le_of_ble_eq_true rfl) ?_
  intro p e s m below meth c A hx hb hr hml hts hown hlocks hin hP hK hN hD hA hS ls hl
  have hown : s.vm.findClass RX7 = some m.cls := hown
  have hl : lv_has ls 3 [(0, .ref h0), (1, .int p0), (2, .int p1)] := hl
  refine lv_iload_n hx hb dX7_disk_0 rfl (lv_at hl 1 rfl) ?_
  refine lv_iload_n hx hb dX7_disk_1 rfl (lv_at hl 2 rfl) ?_
  refine kc_i (wr := [(h0, .inr (6, [g0, g1, g2, g3, g4, g5, g6, g7, g8]))]) (va_runS (As := [.int p0, .int p1]) (rest := []) ⟨hx, hb, hml, hown, hts⟩ (K229_X7_isOctet l D cB cI cZ _ p0 p1 (by omega)) (va_cwS 2 hts gX7_disk_X7_isOctet rfl rfl rfl (by decide +kernel) ⟨Nat.le_of_ble_eq_true rfl, Nat.le_of_ble_eq_true rfl⟩) (pre_S (hP.sub [] rfl) hK hN (hD.sub [] (by decide) rfl)) rfl rfl hl.1 rfl (lv_room (Nat.le_of_ble_eq_true rfl)) dX7_disk_2 ⟨Nat.le_of_ble_eq_true rfl, Nat.le_of_ble_eq_true rfl⟩) hP hD hS hA [] [0] rfl rfl (by decide) (by decide) (fun r_1 u H locs hw hP hD hS => ?_)
  have k_2 := hw
  obtain rfl : r_1 = 0 := k_2
  have hP : va_P D vwCl [(h0, .inr (6, [g0, g1, g2, g3, g4, g5, g6, g7, g8]))] H := hP
  have hD : va_D A [(h0, .inr (6, [g0, g1, g2, g3, g4, g5, g6, g7, g8]))] := hD
  refine lv_if_ne (tgt := 10) hx hb dX7_disk_5 (by decide) (fun c => absurd (by decide) c) (fun c => ?_)
  refine lv_iconst (v := (-1)) hx hb dX7_disk_8 (by decide) ?_
  exact kr_i () hx hb hr hlocks (hP.sub [] rfl) (hD.sub [] (by decide) rfl) hS rfl dX7_disk_9
set_option maxHeartbeats 4000000 in
set_option maxRecDepth 100000 in
theorem K230_X8_disk (l : Launch) (D : va_G) (cB cI cZ : ClassId) (sz : Nat) (h0 : Nat)  (p0 : Int32) (p1 : Int32) (g0 : Value) (g1 : Value) (g2 : Value) (g3 : Value) (g4 : Value) (g5 : Value) (g6 : Value) (g7 : Value) (g8 : Value) (g9 : Value) (g10 : Value) (g11 : Value) (g12 : Value) (g13 : Value) (g14 : Value) (g15 : Value) (g16 : Value) (g17 : Value) (g18 : Value) (g19 : Value) (g20 : Value) (g21 : Value) (g22 : Value) (g23 : Value) (g24 : Value) (g25 : Value) (g26 : Value) (g27 : Value) (g28 : Value) (g29 : Value) (i_p0 : 64 ≤ p0.toInt) :
    CtI l D cB cI cZ yX8_disk wsX8_disk { frames := 1, cells := 0, slots := 0, locals := 22 } [.ref h0, .int p0, .int p1] [(h0, .inr (7, [g0, g1, g2, g3, g4, g5, g6, g7, g8, g9, g10, g11, g12, g13, g14, g15, g16, g17, g18, g19, g20, g21, g22, g23, g24, g25, g26, g27, g28, g29]))] sz 0 0
      (fun (r : Int32) (u : Unit) => r = (-1))
      (fun u => []) := by
  refine mk_metI (cc := cX8_disk) (maxL := 3) (ret := (some .int)) (by decide) rfl (Nat.le_of_ble_eq_true rfl) ?_
  intro p e s m below meth c A hx hb hr hml hts hown hlocks hin hP hK hN hD hA hS ls hl
  have hown : s.vm.findClass RX8 = some m.cls := hown
  have hl : lv_has ls 3 [(0, .ref h0), (1, .int p0), (2, .int p1)] := hl
  refine lv_aload_n hx hb dX8_disk_0 rfl (lv_at hl 0 rfl) ?_
  refine lv_iconst (v := 0) hx hb dX8_disk_1 (by decide) ?_
  refine va_put (D := D) (ci := 7) (v := .int 0) (ty := .int) (C := RX8) (T := TX8) (N := 30) hx hb hts inX8_disk_X8 tyX8 tyX8_ok nmX8 hown hK hP hD hS 0 rfl rfl 0 (by decide) (hts _ wdX8_disk_0) (fun _ h9 => h9) rfl (by decide +kernel) rfl rfl (Nat.le_of_ble_eq_true rfl) dX8_disk_2 (fun H locs hP hD hS => ?_)
  have hP : va_P D vwCl [(h0, .inr (7, [.int 0, g1, g2, g3, g4, g5, g6, g7, g8, g9, g10, g11, g12, g13, g14, g15, g16, g17, g18, g19, g20, g21, g22, g23, g24, g25, g26, g27, g28, g29]))] H := hP
  have hD : va_D A [(h0, .inr (7, [.int 0, g1, g2, g3, g4, g5, g6, g7, g8, g9, g10, g11, g12, g13, g14, g15, g16, g17, g18, g19, g20, g21, g22, g23, g24, g25, g26, g27, g28, g29]))] := hD
  refine lv_iload_n hx hb dX8_disk_5 rfl (lv_at hl 1 rfl) ?_
  refine lv_iconst (v := 0) hx hb dX8_disk_6 (by decide) ?_
  refine lv_bipush (v := 63) hx hb dX8_disk_7 (by decide) ?_
  refine kc_i (wr := [(h0, .inr (7, [.int 0, g1, g2, g3, g4, g5, g6, g7, g8, g9, g10, g11, g12, g13, g14, g15, g16, g17, g18, g19, g20, g21, g22, g23, g24, g25, g26, g27, g28, g29]))]) (va_runS (As := [.int p0, .int 0, .int 63]) (rest := []) ⟨hx, hb, hml, hown, hts⟩ (K188_X8_in l D cB cI cZ _ p0 (by omega)) (va_cwS 3 hts gX8_disk_X8_in rfl rfl rfl (by decide +kernel) ⟨Nat.le_of_ble_eq_true rfl, Nat.le_of_ble_eq_true rfl⟩) (pre_S (hP.sub [] rfl) hK hN (hD.sub [] (by decide) rfl)) rfl rfl hl.1 rfl (lv_room (Nat.le_of_ble_eq_true rfl)) dX8_disk_9 ⟨Nat.le_of_ble_eq_true rfl, Nat.le_of_ble_eq_true rfl⟩) hP hD hS hA [] [0] rfl rfl (by decide) (by decide) (fun r_1 u H locs hw hP hD hS => ?_)
  have k_2 := hw
  obtain rfl : r_1 = 0 := k_2
  have hP : va_P D vwCl [(h0, .inr (7, [.int 0, g1, g2, g3, g4, g5, g6, g7, g8, g9, g10, g11, g12, g13, g14, g15, g16, g17, g18, g19, g20, g21, g22, g23, g24, g25, g26, g27, g28, g29]))] H := hP
  have hD : va_D A [(h0, .inr (7, [.int 0, g1, g2, g3, g4, g5, g6, g7, g8, g9, g10, g11, g12, g13, g14, g15, g16, g17, g18, g19, g20, g21, g22, g23, g24, g25, g26, g27, g28, g29]))] := hD
  refine lv_if_eq (tgt := 43) hx hb dX8_disk_12 (by decide) (fun c => ?_) (fun c => absurd (by decide) c)
  refine lv_iconst (v := (-1)) hx hb dX8_disk_43 (by decide) ?_
  exact kr_i () hx hb hr hlocks (hP.sub [] rfl) (hD.sub [] (by decide) rfl) hS rfl dX8_disk_44
set_option maxHeartbeats 4000000 in
set_option maxRecDepth 100000 in
theorem K232_X7_isOctet (l : Launch) (D : va_G) (cB cI cZ : ClassId) (sz : Nat)   (p0 : Int32) (p1 : Int32) (i_p0 : 0 ≤ p0.toInt ∧ p0.toInt ≤ 63) (i_p1 : p1.toInt ≤ (-1)) :
    CtI l D cB cI cZ yX7_isOctet wsX7_isOctet { frames := 0, cells := 0, slots := 0, locals := 0 } [.int p0, .int p1] [] sz 0 0
      (fun (r : Int32) (u : Unit) => r = 0)
      (fun u => []) := by
  refine mk_metI (cc := cX7_isOctet) (maxL := 2) (ret := (some .boolean)) (by decide) rfl (Nat.le_of_ble_eq_true rfl) ?_
  intro p e s m below meth c A hx hb hr hml hts hown hlocks hin hP hK hN hD hA hS ls hl
  have hown : s.vm.findClass RX7 = some m.cls := hown
  have hl : lv_has ls 2 [(0, .int p0), (1, .int p1)] := hl
  refine lv_iload_n hx hb dX7_isOctet_0 rfl (lv_at hl 0 rfl) ?_
  refine lv_if_lt (tgt := 25) hx hb dX7_isOctet_1 (by decide) (fun c => absurd ((ti_lt (x := p0) (y := 0) (a := p0.toInt) (b := 0) rfl (by decide)).mp c) (by omega)) (fun c => ?_)
  refine lv_iload_n hx hb dX7_isOctet_4 rfl (lv_at hl 0 rfl) ?_
  refine lv_bipush (v := 64) hx hb dX7_isOctet_5 (by decide) ?_
  refine lv_icmp_ge (tgt := 25) hx hb dX7_isOctet_7 (by decide) (fun c => absurd ((ti_le (x := 64) (y := p0) (a := 64) (b := p0.toInt) (by decide) rfl).mp c) (by omega)) (fun c => ?_)
  refine lv_iload_n hx hb dX7_isOctet_10 rfl (lv_at hl 1 rfl) ?_
  refine lv_if_lt (tgt := 25) hx hb dX7_isOctet_11 (by decide) (fun c => ?_) (fun c => absurd ((ti_lt (x := p1) (y := 0) (a := p1.toInt) (b := 0) rfl (by decide)).mpr (by omega)) c)
  refine lv_iconst (v := 0) hx hb dX7_isOctet_25 (by decide) ?_
  exact kr_z () hx hb hr rfl hlocks hP hD hS rfl dX7_isOctet_26
set_option maxHeartbeats 4000000 in
set_option maxRecDepth 100000 in
theorem K231_X7_disk (l : Launch) (D : va_G) (cB cI cZ : ClassId) (sz : Nat) (h0 : Nat)  (p0 : Int32) (p1 : Int32) (g0 : Value) (g1 : Value) (g2 : Value) (g3 : Value) (g4 : Value) (g5 : Value) (g6 : Value) (g7 : Value) (g8 : Value) (i_p0 : 0 ≤ p0.toInt ∧ p0.toInt ≤ 63) (i_p1 : p1.toInt ≤ (-1)) :
    CtI l D cB cI cZ yX7_disk wsX7_disk { frames := 1, cells := 0, slots := 0, locals := 21 } [.ref h0, .int p0, .int p1] [(h0, .inr (6, [g0, g1, g2, g3, g4, g5, g6, g7, g8]))] sz 0 0
      (fun (r : Int32) (u : Unit) => r = (-1))
      (fun u => []) := by
  refine mk_metI (cc := cX7_disk) (maxL := 3) (ret := (some .int)) (by decide) rfl (Nat.le_of_ble_eq_true rfl) ?_
  intro p e s m below meth c A hx hb hr hml hts hown hlocks hin hP hK hN hD hA hS ls hl
  have hown : s.vm.findClass RX7 = some m.cls := hown
  have hl : lv_has ls 3 [(0, .ref h0), (1, .int p0), (2, .int p1)] := hl
  refine lv_iload_n hx hb dX7_disk_0 rfl (lv_at hl 1 rfl) ?_
  refine lv_iload_n hx hb dX7_disk_1 rfl (lv_at hl 2 rfl) ?_
  refine kc_i (wr := [(h0, .inr (6, [g0, g1, g2, g3, g4, g5, g6, g7, g8]))]) (va_runS (As := [.int p0, .int p1]) (rest := []) ⟨hx, hb, hml, hown, hts⟩ (K232_X7_isOctet l D cB cI cZ _ p0 p1 ⟨by omega, by omega⟩ (by omega)) (va_cwS 2 hts gX7_disk_X7_isOctet rfl rfl rfl (by decide +kernel) ⟨Nat.le_of_ble_eq_true rfl, Nat.le_of_ble_eq_true rfl⟩) (pre_S (hP.sub [] rfl) hK hN (hD.sub [] (by decide) rfl)) rfl rfl hl.1 rfl (lv_room (Nat.le_of_ble_eq_true rfl)) dX7_disk_2 ⟨Nat.le_of_ble_eq_true rfl, Nat.le_of_ble_eq_true rfl⟩) hP hD hS hA [] [0] rfl rfl (by decide) (by decide) (fun r_1 u H locs hw hP hD hS => ?_)
  have k_2 := hw
  obtain rfl : r_1 = 0 := k_2
  have hP : va_P D vwCl [(h0, .inr (6, [g0, g1, g2, g3, g4, g5, g6, g7, g8]))] H := hP
  have hD : va_D A [(h0, .inr (6, [g0, g1, g2, g3, g4, g5, g6, g7, g8]))] := hD
  refine lv_if_ne (tgt := 10) hx hb dX7_disk_5 (by decide) (fun c => absurd (by decide) c) (fun c => ?_)
  refine lv_iconst (v := (-1)) hx hb dX7_disk_8 (by decide) ?_
  exact kr_i () hx hb hr hlocks (hP.sub [] rfl) (hD.sub [] (by decide) rfl) hS rfl dX7_disk_9
set_option maxHeartbeats 4000000 in
set_option maxRecDepth 100000 in
theorem K234_X8_in (l : Launch) (D : va_G) (cB cI cZ : ClassId) (sz : Nat)   (p0 : Int32) (i_p0 : p0.toInt ≤ (-1)) :
    CtI l D cB cI cZ yX8_in wsX8_in { frames := 0, cells := 0, slots := 0, locals := 0 } [.int p0, .int 0, .int 1023] [] sz 0 0
      (fun (r : Int32) (u : Unit) => r = 0)
      (fun u => []) := by
  refine mk_metI (cc := cX8_in) (maxL := 3) (ret := (some .boolean)) (by decide) rfl (Nat.le_of_ble_eq_true rfl) ?_
  intro p e s m below meth c A hx hb hr hml hts hown hlocks hin hP hK hN hD hA hS ls hl
  have hown : s.vm.findClass RX8 = some m.cls := hown
  have hl : lv_has ls 3 [(0, .int p0), (1, .int 0), (2, .int 1023)] := hl
  refine lv_iload_n hx hb dX8_in_0 rfl (lv_at hl 0 rfl) ?_
  refine lv_iload_n hx hb dX8_in_1 rfl (lv_at hl 1 rfl) ?_
  refine lv_icmp_lt (tgt := 14) hx hb dX8_in_2 (by decide) (fun c => ?_) (fun c => absurd ((ti_lt (x := p0) (y := 0) (a := p0.toInt) (b := 0) rfl (by decide)).mpr (by omega)) c)
  refine lv_iconst (v := 0) hx hb dX8_in_14 (by decide) ?_
  exact kr_z () hx hb hr rfl hlocks hP hD hS rfl dX8_in_15
set_option maxHeartbeats 4000000 in
set_option maxRecDepth 100000 in
theorem K233_X8_disk (l : Launch) (D : va_G) (cB cI cZ : ClassId) (sz : Nat) (h0 : Nat)  (p0 : Int32) (p1 : Int32) (g0 : Value) (g1 : Value) (g2 : Value) (g3 : Value) (g4 : Value) (g5 : Value) (g6 : Value) (g7 : Value) (g8 : Value) (g9 : Value) (g10 : Value) (g11 : Value) (g12 : Value) (g13 : Value) (g14 : Value) (g15 : Value) (g16 : Value) (g17 : Value) (g18 : Value) (g19 : Value) (g20 : Value) (g21 : Value) (g22 : Value) (g23 : Value) (g24 : Value) (g25 : Value) (g26 : Value) (g27 : Value) (g28 : Value) (g29 : Value) (i_p0 : 0 ≤ p0.toInt ∧ p0.toInt ≤ 63) (i_p1 : p1.toInt ≤ (-1)) :
    CtI l D cB cI cZ yX8_disk wsX8_disk { frames := 1, cells := 0, slots := 0, locals := 22 } [.ref h0, .int p0, .int p1] [(h0, .inr (7, [g0, g1, g2, g3, g4, g5, g6, g7, g8, g9, g10, g11, g12, g13, g14, g15, g16, g17, g18, g19, g20, g21, g22, g23, g24, g25, g26, g27, g28, g29]))] sz 0 0
      (fun (r : Int32) (u : Unit) => r = (-1))
      (fun u => []) := by
  refine mk_metI (cc := cX8_disk) (maxL := 3) (ret := (some .int)) (by decide) rfl (Nat.le_of_ble_eq_true rfl) ?_
  intro p e s m below meth c A hx hb hr hml hts hown hlocks hin hP hK hN hD hA hS ls hl
  have hown : s.vm.findClass RX8 = some m.cls := hown
  have hl : lv_has ls 3 [(0, .ref h0), (1, .int p0), (2, .int p1)] := hl
  refine lv_aload_n hx hb dX8_disk_0 rfl (lv_at hl 0 rfl) ?_
  refine lv_iconst (v := 0) hx hb dX8_disk_1 (by decide) ?_
  refine va_put (D := D) (ci := 7) (v := .int 0) (ty := .int) (C := RX8) (T := TX8) (N := 30) hx hb hts inX8_disk_X8 tyX8 tyX8_ok nmX8 hown hK hP hD hS 0 rfl rfl 0 (by decide) (hts _ wdX8_disk_0) (fun _ h9 => h9) rfl (by decide +kernel) rfl rfl (Nat.le_of_ble_eq_true rfl) dX8_disk_2 (fun H locs hP hD hS => ?_)
  have hP : va_P D vwCl [(h0, .inr (7, [.int 0, g1, g2, g3, g4, g5, g6, g7, g8, g9, g10, g11, g12, g13, g14, g15, g16, g17, g18, g19, g20, g21, g22, g23, g24, g25, g26, g27, g28, g29]))] H := hP
  have hD : va_D A [(h0, .inr (7, [.int 0, g1, g2, g3, g4, g5, g6, g7, g8, g9, g10, g11, g12, g13, g14, g15, g16, g17, g18, g19, g20, g21, g22, g23, g24, g25, g26, g27, g28, g29]))] := hD
  refine lv_iload_n hx hb dX8_disk_5 rfl (lv_at hl 1 rfl) ?_
  refine lv_iconst (v := 0) hx hb dX8_disk_6 (by decide) ?_
  refine lv_bipush (v := 63) hx hb dX8_disk_7 (by decide) ?_
  refine kc_i (wr := [(h0, .inr (7, [.int 0, g1, g2, g3, g4, g5, g6, g7, g8, g9, g10, g11, g12, g13, g14, g15, g16, g17, g18, g19, g20, g21, g22, g23, g24, g25, g26, g27, g28, g29]))]) (va_runS (As := [.int p0, .int 0, .int 63]) (rest := []) ⟨hx, hb, hml, hown, hts⟩ (K192_X8_in l D cB cI cZ _ p0 ⟨by omega, by omega⟩) (va_cwS 3 hts gX8_disk_X8_in rfl rfl rfl (by decide +kernel) ⟨Nat.le_of_ble_eq_true rfl, Nat.le_of_ble_eq_true rfl⟩) (pre_S (hP.sub [] rfl) hK hN (hD.sub [] (by decide) rfl)) rfl rfl hl.1 rfl (lv_room (Nat.le_of_ble_eq_true rfl)) dX8_disk_9 ⟨Nat.le_of_ble_eq_true rfl, Nat.le_of_ble_eq_true rfl⟩) hP hD hS hA [] [0] rfl rfl (by decide) (by decide) (fun r_1 u H locs hw hP hD hS => ?_)
  have k_2 := hw
  obtain rfl : r_1 = 1 := k_2
  have hP : va_P D vwCl [(h0, .inr (7, [.int 0, g1, g2, g3, g4, g5, g6, g7, g8, g9, g10, g11, g12, g13, g14, g15, g16, g17, g18, g19, g20, g21, g22, g23, g24, g25, g26, g27, g28, g29]))] H := hP
  have hD : va_D A [(h0, .inr (7, [.int 0, g1, g2, g3, g4, g5, g6, g7, g8, g9, g10, g11, g12, g13, g14, g15, g16, g17, g18, g19, g20, g21, g22, g23, g24, g25, g26, g27, g28, g29]))] := hD
  refine lv_if_eq (tgt := 43) hx hb dX8_disk_12 (by decide) (fun c => absurd c (by decide)) (fun c => ?_)
  refine lv_iload_n hx hb dX8_disk_15 rfl (lv_at hl 2 rfl) ?_
  refine lv_iconst (v := 0) hx hb dX8_disk_16 (by decide) ?_
  refine lv_sipush (v := 1023) hx hb dX8_disk_17 (by decide) ?_
  refine kc_i (wr := [(h0, .inr (7, [.int 0, g1, g2, g3, g4, g5, g6, g7, g8, g9, g10, g11, g12, g13, g14, g15, g16, g17, g18, g19, g20, g21, g22, g23, g24, g25, g26, g27, g28, g29]))]) (va_runS (As := [.int p1, .int 0, .int 1023]) (rest := []) ⟨hx, hb, hml, hown, hts⟩ (K234_X8_in l D cB cI cZ _ p1 (by omega)) (va_cwS 3 hts gX8_disk_X8_in rfl rfl rfl (by decide +kernel) ⟨Nat.le_of_ble_eq_true rfl, Nat.le_of_ble_eq_true rfl⟩) (pre_S (hP.sub [] rfl) hK hN (hD.sub [] (by decide) rfl)) rfl rfl hl.1 rfl (lv_room (Nat.le_of_ble_eq_true rfl)) dX8_disk_20 ⟨Nat.le_of_ble_eq_true rfl, Nat.le_of_ble_eq_true rfl⟩) hP hD hS hA [] [0] rfl rfl (by decide) (by decide) (fun r_3 u H locs hw hP hD hS => ?_)
  have k_4 := hw
  obtain rfl : r_3 = 0 := k_4
  have hP : va_P D vwCl [(h0, .inr (7, [.int 0, g1, g2, g3, g4, g5, g6, g7, g8, g9, g10, g11, g12, g13, g14, g15, g16, g17, g18, g19, g20, g21, g22, g23, g24, g25, g26, g27, g28, g29]))] H := hP
  have hD : va_D A [(h0, .inr (7, [.int 0, g1, g2, g3, g4, g5, g6, g7, g8, g9, g10, g11, g12, g13, g14, g15, g16, g17, g18, g19, g20, g21, g22, g23, g24, g25, g26, g27, g28, g29]))] := hD
  refine lv_if_eq (tgt := 43) hx hb dX8_disk_23 (by decide) (fun c => ?_) (fun c => absurd (by decide) c)
  refine lv_iconst (v := (-1)) hx hb dX8_disk_43 (by decide) ?_
  exact kr_i () hx hb hr hlocks (hP.sub [] rfl) (hD.sub [] (by decide) rfl) hS rfl dX8_disk_44
set_option maxHeartbeats 4000000 in
set_option maxRecDepth 100000 in
theorem K236_X7_isOctet (l : Launch) (D : va_G) (cB cI cZ : ClassId) (sz : Nat)   (p0 : Int32) (p1 : Int32) (i_p0 : 0 ≤ p0.toInt ∧ p0.toInt ≤ 63) (i_p1 : 1024 ≤ p1.toInt) :
    CtI l D cB cI cZ yX7_isOctet wsX7_isOctet { frames := 0, cells := 0, slots := 0, locals := 0 } [.int p0, .int p1] [] sz 0 0
      (fun (r : Int32) (u : Unit) => r = 0)
      (fun u => []) := by
  refine mk_metI (cc := cX7_isOctet) (maxL := 2) (ret := (some .boolean)) (by decide) rfl (Nat.le_of_ble_eq_true rfl) ?_
  intro p e s m below meth c A hx hb hr hml hts hown hlocks hin hP hK hN hD hA hS ls hl
  have hown : s.vm.findClass RX7 = some m.cls := hown
  have hl : lv_has ls 2 [(0, .int p0), (1, .int p1)] := hl
  refine lv_iload_n hx hb dX7_isOctet_0 rfl (lv_at hl 0 rfl) ?_
  refine lv_if_lt (tgt := 25) hx hb dX7_isOctet_1 (by decide) (fun c => absurd ((ti_lt (x := p0) (y := 0) (a := p0.toInt) (b := 0) rfl (by decide)).mp c) (by omega)) (fun c => ?_)
  refine lv_iload_n hx hb dX7_isOctet_4 rfl (lv_at hl 0 rfl) ?_
  refine lv_bipush (v := 64) hx hb dX7_isOctet_5 (by decide) ?_
  refine lv_icmp_ge (tgt := 25) hx hb dX7_isOctet_7 (by decide) (fun c => absurd ((ti_le (x := 64) (y := p0) (a := 64) (b := p0.toInt) (by decide) rfl).mp c) (by omega)) (fun c => ?_)
  refine lv_iload_n hx hb dX7_isOctet_10 rfl (lv_at hl 1 rfl) ?_
  refine lv_if_lt (tgt := 25) hx hb dX7_isOctet_11 (by decide) (fun c => absurd ((ti_lt (x := p1) (y := 0) (a := p1.toInt) (b := 0) rfl (by decide)).mp c) (by omega)) (fun c => ?_)
  refine lv_iload_n hx hb dX7_isOctet_14 rfl (lv_at hl 1 rfl) ?_
  refine lv_sipush (v := 1024) hx hb dX7_isOctet_15 (by decide) ?_
  refine lv_icmp_ge (tgt := 25) hx hb dX7_isOctet_18 (by decide) (fun c => ?_) (fun c => absurd ((ti_le (x := 1024) (y := p1) (a := 1024) (b := p1.toInt) (by decide) rfl).mpr (by omega)) c)
  refine lv_iconst (v := 0) hx hb dX7_isOctet_25 (by decide) ?_
  exact kr_z () hx hb hr rfl hlocks hP hD hS rfl dX7_isOctet_26
set_option maxHeartbeats 4000000 in
set_option maxRecDepth 100000 in
theorem K235_X7_disk (l : Launch) (D : va_G) (cB cI cZ : ClassId) (sz : Nat) (h0 : Nat)  (p0 : Int32) (p1 : Int32) (g0 : Value) (g1 : Value) (g2 : Value) (g3 : Value) (g4 : Value) (g5 : Value) (g6 : Value) (g7 : Value) (g8 : Value) (i_p0 : 0 ≤ p0.toInt ∧ p0.toInt ≤ 63) (i_p1 : 1024 ≤ p1.toInt) :
    CtI l D cB cI cZ yX7_disk wsX7_disk { frames := 1, cells := 0, slots := 0, locals := 21 } [.ref h0, .int p0, .int p1] [(h0, .inr (6, [g0, g1, g2, g3, g4, g5, g6, g7, g8]))] sz 0 0
      (fun (r : Int32) (u : Unit) => r = (-1))
      (fun u => []) := by
  refine mk_metI (cc := cX7_disk) (maxL := 3) (ret := (some .int)) (by decide) rfl (Nat.le_of_ble_eq_true rfl) ?_
  intro p e s m below meth c A hx hb hr hml hts hown hlocks hin hP hK hN hD hA hS ls hl
  have hown : s.vm.findClass RX7 = some m.cls := hown
  have hl : lv_has ls 3 [(0, .ref h0), (1, .int p0), (2, .int p1)] := hl
  refine lv_iload_n hx hb dX7_disk_0 rfl (lv_at hl 1 rfl) ?_
  refine lv_iload_n hx hb dX7_disk_1 rfl (lv_at hl 2 rfl) ?_
  refine kc_i (wr := [(h0, .inr (6, [g0, g1, g2, g3, g4, g5, g6, g7, g8]))]) (va_runS (As := [.int p0, .int p1]) (rest := []) ⟨hx, hb, hml, hown, hts⟩ (K236_X7_isOctet l D cB cI cZ _ p0 p1 ⟨by omega, by omega⟩ (by omega)) (va_cwS 2 hts gX7_disk_X7_isOctet rfl rfl rfl (by decide +kernel) ⟨Nat.le_of_ble_eq_true rfl, Nat.le_of_ble_eq_true rfl⟩) (pre_S (hP.sub [] rfl) hK hN (hD.sub [] (by decide) rfl)) rfl rfl hl.1 rfl (lv_room (Nat.le_of_ble_eq_true rfl)) dX7_disk_2 ⟨Nat.le_of_ble_eq_true rfl, Nat.le_of_ble_eq_true rfl⟩) hP hD hS hA [] [0] rfl rfl (by decide) (by decide) (fun r_1 u H locs hw hP hD hS => ?_)
  have k_2 := hw
  obtain rfl : r_1 = 0 := k_2
  have hP : va_P D vwCl [(h0, .inr (6, [g0, g1, g2, g3, g4, g5, g6, g7, g8]))] H := hP
  have hD : va_D A [(h0, .inr (6, [g0, g1, g2, g3, g4, g5, g6, g7, g8]))] := hD
  refine lv_if_ne (tgt := 10) hx hb dX7_disk_5 (by decide) (fun c => absurd (by decide) c) (fun c => ?_)
  refine lv_iconst (v := (-1)) hx hb dX7_disk_8 (by decide) ?_
  exact kr_i () hx hb hr hlocks (hP.sub [] rfl) (hD.sub [] (by decide) rfl) hS rfl dX7_disk_9
set_option maxHeartbeats 4000000 in
set_option maxRecDepth 100000 in
theorem K238_X8_in (l : Launch) (D : va_G) (cB cI cZ : ClassId) (sz : Nat)   (p0 : Int32) (i_p0 : 1024 ≤ p0.toInt) :
    CtI l D cB cI cZ yX8_in wsX8_in { frames := 0, cells := 0, slots := 0, locals := 0 } [.int p0, .int 0, .int 1023] [] sz 0 0
      (fun (r : Int32) (u : Unit) => r = 0)
      (fun u => []) := by
  refine mk_metI (cc := cX8_in) (maxL := 3) (ret := (some .boolean)) (by decide) rfl (Nat.le_of_ble_eq_true rfl) ?_
  intro p e s m below meth c A hx hb hr hml hts hown hlocks hin hP hK hN hD hA hS ls hl
  have hown : s.vm.findClass RX8 = some m.cls := hown
  have hl : lv_has ls 3 [(0, .int p0), (1, .int 0), (2, .int 1023)] := hl
  refine lv_iload_n hx hb dX8_in_0 rfl (lv_at hl 0 rfl) ?_
  refine lv_iload_n hx hb dX8_in_1 rfl (lv_at hl 1 rfl) ?_
  refine lv_icmp_lt (tgt := 14) hx hb dX8_in_2 (by decide) (fun c => absurd ((ti_lt (x := p0) (y := 0) (a := p0.toInt) (b := 0) rfl (by decide)).mp c) (by omega)) (fun c => ?_)
  refine lv_iload_n hx hb dX8_in_5 rfl (lv_at hl 0 rfl) ?_
  refine lv_iload_n hx hb dX8_in_6 rfl (lv_at hl 2 rfl) ?_
  refine lv_icmp_gt (tgt := 14) hx hb dX8_in_7 (by decide) (fun c => ?_) (fun c => absurd ((ti_lt (x := 1023) (y := p0) (a := 1023) (b := p0.toInt) (by decide) rfl).mpr (by omega)) c)
  refine lv_iconst (v := 0) hx hb dX8_in_14 (by decide) ?_
  exact kr_z () hx hb hr rfl hlocks hP hD hS rfl dX8_in_15
set_option maxHeartbeats 4000000 in
set_option maxRecDepth 100000 in
theorem K237_X8_disk (l : Launch) (D : va_G) (cB cI cZ : ClassId) (sz : Nat) (h0 : Nat)  (p0 : Int32) (p1 : Int32) (g0 : Value) (g1 : Value) (g2 : Value) (g3 : Value) (g4 : Value) (g5 : Value) (g6 : Value) (g7 : Value) (g8 : Value) (g9 : Value) (g10 : Value) (g11 : Value) (g12 : Value) (g13 : Value) (g14 : Value) (g15 : Value) (g16 : Value) (g17 : Value) (g18 : Value) (g19 : Value) (g20 : Value) (g21 : Value) (g22 : Value) (g23 : Value) (g24 : Value) (g25 : Value) (g26 : Value) (g27 : Value) (g28 : Value) (g29 : Value) (i_p0 : 0 ≤ p0.toInt ∧ p0.toInt ≤ 63) (i_p1 : 1024 ≤ p1.toInt) :
    CtI l D cB cI cZ yX8_disk wsX8_disk { frames := 1, cells := 0, slots := 0, locals := 22 } [.ref h0, .int p0, .int p1] [(h0, .inr (7, [g0, g1, g2, g3, g4, g5, g6, g7, g8, g9, g10, g11, g12, g13, g14, g15, g16, g17, g18, g19, g20, g21, g22, g23, g24, g25, g26, g27, g28, g29]))] sz 0 0
      (fun (r : Int32) (u : Unit) => r = (-1))
      (fun u => []) := by
  refine mk_metI (cc := cX8_disk) (maxL := 3) (ret := (some .int)) (by decide) rfl (Nat.le_of_ble_eq_true rfl) ?_
  intro p e s m below meth c A hx hb hr hml hts hown hlocks hin hP hK hN hD hA hS ls hl
  have hown : s.vm.findClass RX8 = some m.cls := hown
  have hl : lv_has ls 3 [(0, .ref h0), (1, .int p0), (2, .int p1)] := hl
  refine lv_aload_n hx hb dX8_disk_0 rfl (lv_at hl 0 rfl) ?_
  refine lv_iconst (v := 0) hx hb dX8_disk_1 (by decide) ?_
  refine va_put (D := D) (ci := 7) (v := .int 0) (ty := .int) (C := RX8) (T := TX8) (N := 30) hx hb hts inX8_disk_X8 tyX8 tyX8_ok nmX8 hown hK hP hD hS 0 rfl rfl 0 (by decide) (hts _ wdX8_disk_0) (fun _ h9 => h9) rfl (by decide +kernel) rfl rfl (Nat.le_of_ble_eq_true rfl) dX8_disk_2 (fun H locs hP hD hS => ?_)
  have hP : va_P D vwCl [(h0, .inr (7, [.int 0, g1, g2, g3, g4, g5, g6, g7, g8, g9, g10, g11, g12, g13, g14, g15, g16, g17, g18, g19, g20, g21, g22, g23, g24, g25, g26, g27, g28, g29]))] H := hP
  have hD : va_D A [(h0, .inr (7, [.int 0, g1, g2, g3, g4, g5, g6, g7, g8, g9, g10, g11, g12, g13, g14, g15, g16, g17, g18, g19, g20, g21, g22, g23, g24, g25, g26, g27, g28, g29]))] := hD
  refine lv_iload_n hx hb dX8_disk_5 rfl (lv_at hl 1 rfl) ?_
  refine lv_iconst (v := 0) hx hb dX8_disk_6 (by decide) ?_
  refine lv_bipush (v := 63) hx hb dX8_disk_7 (by decide) ?_
  refine kc_i (wr := [(h0, .inr (7, [.int 0, g1, g2, g3, g4, g5, g6, g7, g8, g9, g10, g11, g12, g13, g14, g15, g16, g17, g18, g19, g20, g21, g22, g23, g24, g25, g26, g27, g28, g29]))]) (va_runS (As := [.int p0, .int 0, .int 63]) (rest := []) ⟨hx, hb, hml, hown, hts⟩ (K192_X8_in l D cB cI cZ _ p0 ⟨by omega, by omega⟩) (va_cwS 3 hts gX8_disk_X8_in rfl rfl rfl (by decide +kernel) ⟨Nat.le_of_ble_eq_true rfl, Nat.le_of_ble_eq_true rfl⟩) (pre_S (hP.sub [] rfl) hK hN (hD.sub [] (by decide) rfl)) rfl rfl hl.1 rfl (lv_room (Nat.le_of_ble_eq_true rfl)) dX8_disk_9 ⟨Nat.le_of_ble_eq_true rfl, Nat.le_of_ble_eq_true rfl⟩) hP hD hS hA [] [0] rfl rfl (by decide) (by decide) (fun r_1 u H locs hw hP hD hS => ?_)
  have k_2 := hw
  obtain rfl : r_1 = 1 := k_2
  have hP : va_P D vwCl [(h0, .inr (7, [.int 0, g1, g2, g3, g4, g5, g6, g7, g8, g9, g10, g11, g12, g13, g14, g15, g16, g17, g18, g19, g20, g21, g22, g23, g24, g25, g26, g27, g28, g29]))] H := hP
  have hD : va_D A [(h0, .inr (7, [.int 0, g1, g2, g3, g4, g5, g6, g7, g8, g9, g10, g11, g12, g13, g14, g15, g16, g17, g18, g19, g20, g21, g22, g23, g24, g25, g26, g27, g28, g29]))] := hD
  refine lv_if_eq (tgt := 43) hx hb dX8_disk_12 (by decide) (fun c => absurd c (by decide)) (fun c => ?_)
  refine lv_iload_n hx hb dX8_disk_15 rfl (lv_at hl 2 rfl) ?_
  refine lv_iconst (v := 0) hx hb dX8_disk_16 (by decide) ?_
  refine lv_sipush (v := 1023) hx hb dX8_disk_17 (by decide) ?_
  refine kc_i (wr := [(h0, .inr (7, [.int 0, g1, g2, g3, g4, g5, g6, g7, g8, g9, g10, g11, g12, g13, g14, g15, g16, g17, g18, g19, g20, g21, g22, g23, g24, g25, g26, g27, g28, g29]))]) (va_runS (As := [.int p1, .int 0, .int 1023]) (rest := []) ⟨hx, hb, hml, hown, hts⟩ (K238_X8_in l D cB cI cZ _ p1 (by omega)) (va_cwS 3 hts gX8_disk_X8_in rfl rfl rfl (by decide +kernel) ⟨Nat.le_of_ble_eq_true rfl, Nat.le_of_ble_eq_true rfl⟩) (pre_S (hP.sub [] rfl) hK hN (hD.sub [] (by decide) rfl)) rfl rfl hl.1 rfl (lv_room (Nat.le_of_ble_eq_true rfl)) dX8_disk_20 ⟨Nat.le_of_ble_eq_true rfl, Nat.le_of_ble_eq_true rfl⟩) hP hD hS hA [] [0] rfl rfl (by decide) (by decide) (fun r_3 u H locs hw hP hD hS => ?_)
  have k_4 := hw
  obtain rfl : r_3 = 0 := k_4
  have hP : va_P D vwCl [(h0, .inr (7, [.int 0, g1, g2, g3, g4, g5, g6, g7, g8, g9, g10, g11, g12, g13, g14, g15, g16, g17, g18, g19, g20, g21, g22, g23, g24, g25, g26, g27, g28, g29]))] H := hP
  have hD : va_D A [(h0, .inr (7, [.int 0, g1, g2, g3, g4, g5, g6, g7, g8, g9, g10, g11, g12, g13, g14, g15, g16, g17, g18, g19, g20, g21, g22, g23, g24, g25, g26, g27, g28, g29]))] := hD
  refine lv_if_eq (tgt := 43) hx hb dX8_disk_23 (by decide) (fun c => ?_) (fun c => absurd (by decide) c)
  refine lv_iconst (v := (-1)) hx hb dX8_disk_43 (by decide) ?_
  exact kr_i () hx hb hr hlocks (hP.sub [] rfl) (hD.sub [] (by decide) rfl) hS rfl dX8_disk_44
set_option maxHeartbeats 4000000 in
set_option maxRecDepth 100000 in
theorem K240_X7_isOctet (l : Launch) (D : va_G) (cB cI cZ : ClassId) (sz : Nat)   (p0 : Int32) (p1 : Int32) (i_p0 : 0 ≤ p0.toInt ∧ p0.toInt ≤ 63) (i_p1 : 0 ≤ p1.toInt ∧ p1.toInt ≤ 1023) :
    CtI l D cB cI cZ yX7_isOctet wsX7_isOctet { frames := 0, cells := 0, slots := 0, locals := 0 } [.int p0, .int p1] [] sz 0 0
      (fun (r : Int32) (u : Unit) => r = 1)
      (fun u => []) := by
  refine mk_metI (cc := cX7_isOctet) (maxL := 2) (ret := (some .boolean)) (by decide) rfl (Nat.le_of_ble_eq_true rfl) ?_
  intro p e s m below meth c A hx hb hr hml hts hown hlocks hin hP hK hN hD hA hS ls hl
  have hown : s.vm.findClass RX7 = some m.cls := hown
  have hl : lv_has ls 2 [(0, .int p0), (1, .int p1)] := hl
  refine lv_iload_n hx hb dX7_isOctet_0 rfl (lv_at hl 0 rfl) ?_
  refine lv_if_lt (tgt := 25) hx hb dX7_isOctet_1 (by decide) (fun c => absurd ((ti_lt (x := p0) (y := 0) (a := p0.toInt) (b := 0) rfl (by decide)).mp c) (by omega)) (fun c => ?_)
  refine lv_iload_n hx hb dX7_isOctet_4 rfl (lv_at hl 0 rfl) ?_
  refine lv_bipush (v := 64) hx hb dX7_isOctet_5 (by decide) ?_
  refine lv_icmp_ge (tgt := 25) hx hb dX7_isOctet_7 (by decide) (fun c => absurd ((ti_le (x := 64) (y := p0) (a := 64) (b := p0.toInt) (by decide) rfl).mp c) (by omega)) (fun c => ?_)
  refine lv_iload_n hx hb dX7_isOctet_10 rfl (lv_at hl 1 rfl) ?_
  refine lv_if_lt (tgt := 25) hx hb dX7_isOctet_11 (by decide) (fun c => absurd ((ti_lt (x := p1) (y := 0) (a := p1.toInt) (b := 0) rfl (by decide)).mp c) (by omega)) (fun c => ?_)
  refine lv_iload_n hx hb dX7_isOctet_14 rfl (lv_at hl 1 rfl) ?_
  refine lv_sipush (v := 1024) hx hb dX7_isOctet_15 (by decide) ?_
  refine lv_icmp_ge (tgt := 25) hx hb dX7_isOctet_18 (by decide) (fun c => absurd ((ti_le (x := 1024) (y := p1) (a := 1024) (b := p1.toInt) (by decide) rfl).mp c) (by omega)) (fun c => ?_)
  refine lv_iconst (v := 1) hx hb dX7_isOctet_21 (by decide) ?_
  refine lv_goto (tgt := 26) hx hb dX7_isOctet_22 (by decide) ?_
  exact kr_z () hx hb hr rfl hlocks hP hD hS rfl dX7_isOctet_26
set_option maxHeartbeats 4000000 in
set_option maxRecDepth 100000 in
theorem K239_X7_disk (l : Launch) (D : va_G) (cB cI cZ : ClassId) (sz : Nat) (h0 : Nat) (h1 : Nat) (h2 : Nat)  (p0 : Int32) (p1 : Int32) (g0 : Value) (g1 : Value) (g2 : Value) (g3 : Value) (g4 : Value) (g5 : Value) (g6 : Value) (g7 : Value) (g8 : Value) (g9 : Value) (g10 : Value) (g11 : Value) (i_p0 : 0 ≤ p0.toInt ∧ p0.toInt ≤ 63) (i_p1 : 0 ≤ p1.toInt ∧ p1.toInt ≤ 1023) :
    CtI l D cB cI cZ yX7_disk wsX7_disk { frames := 2, cells := 0, slots := 0, locals := 46 } [.ref h0, .int p0, .int p1] [(h0, .inr (6, [.ref h1, g0, g1, g2, g3, g4, g5, g6, g7])), (h1, .inr (1, [.ref h2, g8, g9, g10, g11])), (h2, .inl (cB, 65536, .inl zf))] sz 0 0
      (fun (r : Int32) (u : Unit) => r = 0)
      (fun u => []) := by
  refine mk_metI (cc := cX7_disk) (maxL := 3) (ret := (some .int)) (by decide) rfl (Nat.le_of_ble_eq_true rfl) ?_
  intro p e s m below meth c A hx hb hr hml hts hown hlocks hin hP hK hN hD hA hS ls hl
  have hown : s.vm.findClass RX7 = some m.cls := hown
  have hl : lv_has ls 3 [(0, .ref h0), (1, .int p0), (2, .int p1)] := hl
  refine lv_iload_n hx hb dX7_disk_0 rfl (lv_at hl 1 rfl) ?_
  refine lv_iload_n hx hb dX7_disk_1 rfl (lv_at hl 2 rfl) ?_
  refine kc_i (wr := [(h0, .inr (6, [.ref h1, g0, g1, g2, g3, g4, g5, g6, g7])), (h1, .inr (1, [.ref h2, g8, g9, g10, g11])), (h2, .inl (cB, 65536, .inl zf))]) (va_runS (As := [.int p0, .int p1]) (rest := []) ⟨hx, hb, hml, hown, hts⟩ (K240_X7_isOctet l D cB cI cZ _ p0 p1 ⟨by omega, by omega⟩ ⟨by omega, by omega⟩) (va_cwS 2 hts gX7_disk_X7_isOctet rfl rfl rfl (by decide +kernel) ⟨Nat.le_of_ble_eq_true rfl, Nat.le_of_ble_eq_true rfl⟩) (pre_S (hP.sub [] rfl) hK hN (hD.sub [] (by decide) rfl)) rfl rfl hl.1 rfl (lv_room (Nat.le_of_ble_eq_true rfl)) dX7_disk_2 ⟨Nat.le_of_ble_eq_true rfl, Nat.le_of_ble_eq_true rfl⟩) hP hD hS hA [] [0, 1, 2] rfl rfl (by decide) (by decide) (fun r_1 u H locs hw hP hD hS => ?_)
  have k_2 := hw
  obtain rfl : r_1 = 1 := k_2
  have hP : va_P D vwCl [(h0, .inr (6, [.ref h1, g0, g1, g2, g3, g4, g5, g6, g7])), (h1, .inr (1, [.ref h2, g8, g9, g10, g11])), (h2, .inl (cB, 65536, .inl zf))] H := hP
  have hD : va_D A [(h0, .inr (6, [.ref h1, g0, g1, g2, g3, g4, g5, g6, g7])), (h1, .inr (1, [.ref h2, g8, g9, g10, g11])), (h2, .inl (cB, 65536, .inl zf))] := hD
  refine lv_if_ne (tgt := 10) hx hb dX7_disk_5 (by decide) (fun c => ?_) (fun c => absurd c (by decide))
  refine lv_aload_n hx hb dX7_disk_10 rfl (lv_at hl 0 rfl) ?_
  refine va_get (D := D) (ci := 6) (v := .ref h1) (C := RX7) (T := TX7) (N := 9) hx hb hts inX7_disk_X7 hown hK hP 0 rfl rfl 0 (by decide) (hts _ wdX7_disk_0) (fun _ h9 => h9) rfl dX7_disk_11 ?_
  refine va_getN (D := D) (ci := 1) (v := .ref h2) (C := RX1) (T := TX1) (N := 5) hx hb hts inX7_disk_X1 hown hK hP 1 rfl rfl 0 (by decide) (hN.f (a := "AgedLog") (i := 139) (b := "AgedLog$Disk") (n := "row") (d := "[B") (by decide +kernel)) (fun _ h9 => h9) rfl dX7_disk_14 ?_
  refine lv_iload_n hx hb dX7_disk_17 rfl (lv_at hl 1 rfl) ?_
  refine lv_sipush (v := 1024) hx hb dX7_disk_18 (by decide) ?_
  refine lv_imul hx hb dX7_disk_21 ?_
  refine lv_topi (fun x_3 ex_3 => ?_)
  have tx_3 : x_3.toInt = p0.toInt * 1024 := by rw [ex_3]; exact ti_mul rfl (by decide) (by omega) (by omega)
  refine lv_iload_n hx hb dX7_disk_22 rfl (lv_at hl 2 rfl) ?_
  refine lv_iadd hx hb dX7_disk_23 ?_
  refine lv_topi (fun x_4 ex_4 => ?_)
  have tx_4 : x_4.toInt = x_3.toInt + p1.toInt := by rw [ex_4]; exact ti_add rfl rfl (by omega) (by omega)
  refine lv_iconst (v := 1) hx hb dX7_disk_24 (by decide) ?_
  refine kc_i (wr := [(h0, .inr (6, [.ref h1, g0, g1, g2, g3, g4, g5, g6, g7])), (h1, .inr (1, [.ref h2, g8, g9, g10, g11]))]) (va_runS (As := [.ref h2, .int x_4, .int 1]) (rest := []) ⟨hx, hb, hml, hown, hts⟩ (K206_X4_number l D cB cI cZ _ h2 x_4 ⟨by omega, by omega⟩) (va_cwS 3 hts gX7_disk_X4_number rfl rfl rfl (by decide +kernel) ⟨Nat.le_of_ble_eq_true rfl, Nat.le_of_ble_eq_true rfl⟩) (pre_S (hP.sub [2] rfl) hK hN (hD.sub [2] (by decide) rfl)) rfl rfl hl.1 rfl (lv_room (Nat.le_of_ble_eq_true rfl)) dX7_disk_25 ⟨Nat.le_of_ble_eq_true rfl, Nat.le_of_ble_eq_true rfl⟩) hP hD hS hA [2] [0, 1] rfl rfl (by decide) (by decide) (fun r_5 u H locs hw hP hD hS => ?_)
  have k_6 := hw
  obtain rfl : r_5 = 0 := k_6
  have hP : va_P D vwCl [(h0, .inr (6, [.ref h1, g0, g1, g2, g3, g4, g5, g6, g7])), (h1, .inr (1, [.ref h2, g8, g9, g10, g11])), (h2, .inl (cB, 65536, .inl zf))] H := hP
  have hD : va_D A [(h0, .inr (6, [.ref h1, g0, g1, g2, g3, g4, g5, g6, g7])), (h1, .inr (1, [.ref h2, g8, g9, g10, g11])), (h2, .inl (cB, 65536, .inl zf))] := hD
  exact kr_i () hx hb hr hlocks (hP.sub [] rfl) (hD.sub [] (by decide) rfl) hS rfl dX7_disk_28
set_option maxHeartbeats 4000000 in
set_option maxRecDepth 100000 in
theorem K242_X8_in (l : Launch) (D : va_G) (cB cI cZ : ClassId) (sz : Nat)   (p0 : Int32) (i_p0 : 0 ≤ p0.toInt ∧ p0.toInt ≤ 1023) :
    CtI l D cB cI cZ yX8_in wsX8_in { frames := 0, cells := 0, slots := 0, locals := 0 } [.int p0, .int 0, .int 1023] [] sz 0 0
      (fun (r : Int32) (u : Unit) => r = 1)
      (fun u => []) := by
  refine mk_metI (cc := cX8_in) (maxL := 3) (ret := (some .boolean)) (by decide) rfl (Nat.le_of_ble_eq_true rfl) ?_
  intro p e s m below meth c A hx hb hr hml hts hown hlocks hin hP hK hN hD hA hS ls hl
  have hown : s.vm.findClass RX8 = some m.cls := hown
  have hl : lv_has ls 3 [(0, .int p0), (1, .int 0), (2, .int 1023)] := hl
  refine lv_iload_n hx hb dX8_in_0 rfl (lv_at hl 0 rfl) ?_
  refine lv_iload_n hx hb dX8_in_1 rfl (lv_at hl 1 rfl) ?_
  refine lv_icmp_lt (tgt := 14) hx hb dX8_in_2 (by decide) (fun c => absurd ((ti_lt (x := p0) (y := 0) (a := p0.toInt) (b := 0) rfl (by decide)).mp c) (by omega)) (fun c => ?_)
  refine lv_iload_n hx hb dX8_in_5 rfl (lv_at hl 0 rfl) ?_
  refine lv_iload_n hx hb dX8_in_6 rfl (lv_at hl 2 rfl) ?_
  refine lv_icmp_gt (tgt := 14) hx hb dX8_in_7 (by decide) (fun c => absurd ((ti_lt (x := 1023) (y := p0) (a := 1023) (b := p0.toInt) (by decide) rfl).mp c) (by omega)) (fun c => ?_)
  refine lv_iconst (v := 1) hx hb dX8_in_10 (by decide) ?_
  refine lv_goto (tgt := 15) hx hb dX8_in_11 (by decide) ?_
  exact kr_z () hx hb hr rfl hlocks hP hD hS rfl dX8_in_15
set_option maxHeartbeats 4000000 in
set_option maxRecDepth 100000 in
theorem K243_X8_at (l : Launch) (D : va_G) (cB cI cZ : ClassId) (sz : Nat)   (p0 : Int32) (p1 : Int32) (i_p0 : 0 ≤ p0.toInt ∧ p0.toInt ≤ 63) (i_p1 : 0 ≤ p1.toInt ∧ p1.toInt ≤ 1023) :
    CtI l D cB cI cZ yX8_at wsX8_at { frames := 0, cells := 0, slots := 0, locals := 0 } [.int p0, .int p1] [] sz 0 0
      (fun (r : Int32) (u : Unit) => 0 ≤ r.toInt ∧ r.toInt ≤ 65535 ∧ (r.toInt = 1024 * p0.toInt + p1.toInt))
      (fun u => []) := by
  refine mk_metI (cc := cX8_at) (maxL := 2) (ret := (some .int)) (by decide) rfl (Nat.le_of_ble_eq_true rfl) ?_
  intro p e s m below meth c A hx hb hr hml hts hown hlocks hin hP hK hN hD hA hS ls hl
  have hown : s.vm.findClass RX8 = some m.cls := hown
  have hl : lv_has ls 2 [(0, .int p0), (1, .int p1)] := hl
  refine lv_sipush (v := 1024) hx hb dX8_at_0 (by decide) ?_
  refine lv_iload_n hx hb dX8_at_3 rfl (lv_at hl 0 rfl) ?_
  refine lv_imul hx hb dX8_at_4 ?_
  refine lv_topi (fun x_1 ex_1 => ?_)
  have tx_1 : x_1.toInt = 1024 * p0.toInt := by rw [ex_1]; exact ti_mul (by decide) rfl (by omega) (by omega)
  refine lv_iload_n hx hb dX8_at_5 rfl (lv_at hl 1 rfl) ?_
  refine lv_iadd hx hb dX8_at_6 ?_
  refine lv_topi (fun x_2 ex_2 => ?_)
  have tx_2 : x_2.toInt = x_1.toInt + p1.toInt := by rw [ex_2]; exact ti_add rfl rfl (by omega) (by omega)
  exact kr_i () hx hb hr hlocks hP hD hS ⟨(by show 0 ≤ Int32.toInt x_2; omega), (by show Int32.toInt x_2 ≤ 65535; omega), (by omega)⟩ dX8_at_7
set_option maxHeartbeats 4000000 in
set_option maxRecDepth 100000 in
theorem K241_X8_disk (l : Launch) (D : va_G) (cB cI cZ : ClassId) (sz : Nat) (h0 : Nat) (h1 : Nat)  (p0 : Int32) (p1 : Int32) (g0 : Value) (g1 : Value) (g2 : Value) (g3 : Value) (g4 : Value) (g5 : Value) (g6 : Value) (g7 : Value) (g8 : Value) (g9 : Value) (g10 : Value) (g11 : Value) (g12 : Value) (g13 : Value) (g14 : Value) (g15 : Value) (g16 : Value) (g17 : Value) (g18 : Value) (g19 : Value) (g20 : Value) (g21 : Value) (g22 : Value) (g23 : Value) (g24 : Value) (g25 : Value) (g26 : Value) (g27 : Value) (g28 : Value) (i_p0 : 0 ≤ p0.toInt ∧ p0.toInt ≤ 63) (i_p1 : 0 ≤ p1.toInt ∧ p1.toInt ≤ 1023) :
    CtI l D cB cI cZ yX8_disk wsX8_disk { frames := 1, cells := 0, slots := 0, locals := 22 } [.ref h0, .int p0, .int p1] [(h0, .inr (7, [g0, g1, .ref h1, g2, g3, g4, g5, g6, g7, g8, g9, g10, g11, g12, g13, g14, g15, g16, g17, g18, g19, g20, g21, g22, g23, g24, g25, g26, g27, g28])), (h1, .inl (cB, 65536, .inl zf))] sz 0 0
      (fun (r : Int32) (u : Unit) => r = 0)
      (fun u => []) := by
  refine mk_metI (cc := cX8_disk) (maxL := 3) (ret := (some .int)) (by decide) rfl (Nat.le_of_ble_eq_true rfl) ?_
  intro p e s m below meth c A hx hb hr hml hts hown hlocks hin hP hK hN hD hA hS ls hl
  have hown : s.vm.findClass RX8 = some m.cls := hown
  have hl : lv_has ls 3 [(0, .ref h0), (1, .int p0), (2, .int p1)] := hl
  refine lv_aload_n hx hb dX8_disk_0 rfl (lv_at hl 0 rfl) ?_
  refine lv_iconst (v := 0) hx hb dX8_disk_1 (by decide) ?_
  refine va_put (D := D) (ci := 7) (v := .int 0) (ty := .int) (C := RX8) (T := TX8) (N := 30) hx hb hts inX8_disk_X8 tyX8 tyX8_ok nmX8 hown hK hP hD hS 0 rfl rfl 0 (by decide) (hts _ wdX8_disk_0) (fun _ h9 => h9) rfl (by decide +kernel) rfl rfl (Nat.le_of_ble_eq_true rfl) dX8_disk_2 (fun H locs hP hD hS => ?_)
  have hP : va_P D vwCl [(h0, .inr (7, [.int 0, g1, .ref h1, g2, g3, g4, g5, g6, g7, g8, g9, g10, g11, g12, g13, g14, g15, g16, g17, g18, g19, g20, g21, g22, g23, g24, g25, g26, g27, g28])), (h1, .inl (cB, 65536, .inl zf))] H := hP
  have hD : va_D A [(h0, .inr (7, [.int 0, g1, .ref h1, g2, g3, g4, g5, g6, g7, g8, g9, g10, g11, g12, g13, g14, g15, g16, g17, g18, g19, g20, g21, g22, g23, g24, g25, g26, g27, g28])), (h1, .inl (cB, 65536, .inl zf))] := hD
  refine lv_iload_n hx hb dX8_disk_5 rfl (lv_at hl 1 rfl) ?_
  refine lv_iconst (v := 0) hx hb dX8_disk_6 (by decide) ?_
  refine lv_bipush (v := 63) hx hb dX8_disk_7 (by decide) ?_
  refine kc_i (wr := [(h0, .inr (7, [.int 0, g1, .ref h1, g2, g3, g4, g5, g6, g7, g8, g9, g10, g11, g12, g13, g14, g15, g16, g17, g18, g19, g20, g21, g22, g23, g24, g25, g26, g27, g28])), (h1, .inl (cB, 65536, .inl zf))]) (va_runS (As := [.int p0, .int 0, .int 63]) (rest := []) ⟨hx, hb, hml, hown, hts⟩ (K192_X8_in l D cB cI cZ _ p0 ⟨by omega, by omega⟩) (va_cwS 3 hts gX8_disk_X8_in rfl rfl rfl (by decide +kernel) ⟨Nat.le_of_ble_eq_true rfl, Nat.le_of_ble_eq_true rfl⟩) (pre_S (hP.sub [] rfl) hK hN (hD.sub [] (by decide) rfl)) rfl rfl hl.1 rfl (lv_room (Nat.le_of_ble_eq_true rfl)) dX8_disk_9 ⟨Nat.le_of_ble_eq_true rfl, Nat.le_of_ble_eq_true rfl⟩) hP hD hS hA [] [0, 1] rfl rfl (by decide) (by decide) (fun r_1 u H locs hw hP hD hS => ?_)
  have k_2 := hw
  obtain rfl : r_1 = 1 := k_2
  have hP : va_P D vwCl [(h0, .inr (7, [.int 0, g1, .ref h1, g2, g3, g4, g5, g6, g7, g8, g9, g10, g11, g12, g13, g14, g15, g16, g17, g18, g19, g20, g21, g22, g23, g24, g25, g26, g27, g28])), (h1, .inl (cB, 65536, .inl zf))] H := hP
  have hD : va_D A [(h0, .inr (7, [.int 0, g1, .ref h1, g2, g3, g4, g5, g6, g7, g8, g9, g10, g11, g12, g13, g14, g15, g16, g17, g18, g19, g20, g21, g22, g23, g24, g25, g26, g27, g28])), (h1, .inl (cB, 65536, .inl zf))] := hD
  refine lv_if_eq (tgt := 43) hx hb dX8_disk_12 (by decide) (fun c => absurd c (by decide)) (fun c => ?_)
  refine lv_iload_n hx hb dX8_disk_15 rfl (lv_at hl 2 rfl) ?_
  refine lv_iconst (v := 0) hx hb dX8_disk_16 (by decide) ?_
  refine lv_sipush (v := 1023) hx hb dX8_disk_17 (by decide) ?_
  refine kc_i (wr := [(h0, .inr (7, [.int 0, g1, .ref h1, g2, g3, g4, g5, g6, g7, g8, g9, g10, g11, g12, g13, g14, g15, g16, g17, g18, g19, g20, g21, g22, g23, g24, g25, g26, g27, g28])), (h1, .inl (cB, 65536, .inl zf))]) (va_runS (As := [.int p1, .int 0, .int 1023]) (rest := []) ⟨hx, hb, hml, hown, hts⟩ (K242_X8_in l D cB cI cZ _ p1 ⟨by omega, by omega⟩) (va_cwS 3 hts gX8_disk_X8_in rfl rfl rfl (by decide +kernel) ⟨Nat.le_of_ble_eq_true rfl, Nat.le_of_ble_eq_true rfl⟩) (pre_S (hP.sub [] rfl) hK hN (hD.sub [] (by decide) rfl)) rfl rfl hl.1 rfl (lv_room (Nat.le_of_ble_eq_true rfl)) dX8_disk_20 ⟨Nat.le_of_ble_eq_true rfl, Nat.le_of_ble_eq_true rfl⟩) hP hD hS hA [] [0, 1] rfl rfl (by decide) (by decide) (fun r_3 u H locs hw hP hD hS => ?_)
  have k_4 := hw
  obtain rfl : r_3 = 1 := k_4
  have hP : va_P D vwCl [(h0, .inr (7, [.int 0, g1, .ref h1, g2, g3, g4, g5, g6, g7, g8, g9, g10, g11, g12, g13, g14, g15, g16, g17, g18, g19, g20, g21, g22, g23, g24, g25, g26, g27, g28])), (h1, .inl (cB, 65536, .inl zf))] H := hP
  have hD : va_D A [(h0, .inr (7, [.int 0, g1, .ref h1, g2, g3, g4, g5, g6, g7, g8, g9, g10, g11, g12, g13, g14, g15, g16, g17, g18, g19, g20, g21, g22, g23, g24, g25, g26, g27, g28])), (h1, .inl (cB, 65536, .inl zf))] := hD
  refine lv_if_eq (tgt := 43) hx hb dX8_disk_23 (by decide) (fun c => absurd c (by decide)) (fun c => ?_)
  refine lv_aload_n hx hb dX8_disk_26 rfl (lv_at hl 0 rfl) ?_
  refine va_get (D := D) (ci := 7) (v := .ref h1) (C := RX8) (T := TX8) (N := 30) hx hb hts inX8_disk_X8 hown hK hP 0 rfl rfl 2 (by decide) (hts _ wdX8_disk_1) (fun _ h9 => h9) rfl dX8_disk_27 ?_
  refine lv_iload_n hx hb dX8_disk_30 rfl (lv_at hl 1 rfl) ?_
  refine lv_iload_n hx hb dX8_disk_31 rfl (lv_at hl 2 rfl) ?_
  refine kc_i (wr := [(h0, .inr (7, [.int 0, g1, .ref h1, g2, g3, g4, g5, g6, g7, g8, g9, g10, g11, g12, g13, g14, g15, g16, g17, g18, g19, g20, g21, g22, g23, g24, g25, g26, g27, g28])), (h1, .inl (cB, 65536, .inl zf))]) (va_runS (As := [.int p0, .int p1]) (rest := [.ref h1]) ⟨hx, hb, hml, hown, hts⟩ (K243_X8_at l D cB cI cZ _ p0 p1 ⟨by omega, by omega⟩ ⟨by omega, by omega⟩) (va_cwS 2 hts gX8_disk_X8_at rfl rfl rfl (by decide +kernel) ⟨Nat.le_of_ble_eq_true rfl, Nat.le_of_ble_eq_true rfl⟩) (pre_S (hP.sub [] rfl) hK hN (hD.sub [] (by decide) rfl)) rfl rfl hl.1 rfl (lv_room (Nat.le_of_ble_eq_true rfl)) dX8_disk_32 ⟨Nat.le_of_ble_eq_true rfl, Nat.le_of_ble_eq_true rfl⟩) hP hD hS hA [] [0, 1] rfl rfl (by decide) (by decide) (fun r_5 u H locs hw hP hD hS => ?_)
  obtain ⟨k_6, k_7, ek_8⟩ := hw
  have k_6 : 0 ≤ r_5.toInt := k_6
  have k_7 : r_5.toInt ≤ 65535 := k_7
  have hP : va_P D vwCl [(h0, .inr (7, [.int 0, g1, .ref h1, g2, g3, g4, g5, g6, g7, g8, g9, g10, g11, g12, g13, g14, g15, g16, g17, g18, g19, g20, g21, g22, g23, g24, g25, g26, g27, g28])), (h1, .inl (cB, 65536, .inl zf))] H := hP
  have hD : va_D A [(h0, .inr (7, [.int 0, g1, .ref h1, g2, g3, g4, g5, g6, g7, g8, g9, g10, g11, g12, g13, g14, g15, g16, g17, g18, g19, g20, g21, g22, g23, g24, g25, g26, g27, g28])), (h1, .inl (cB, 65536, .inl zf))] := hD
  refine va_bald hx hb hK hP 1 0 rfl rfl (ti_in (a := r_5.toInt) rfl (by omega) (by omega)) dX8_disk_35 ?_
  refine lv_topi (fun z_9 ez_9 => ?_)
  obtain rfl : z_9 = 0 := ez_9
  refine lv_sipush (v := 255) hx hb dX8_disk_36 (by decide) ?_
  refine lv_iand hx hb dX8_disk_39 ?_
  refine lv_topi (fun z_10 ez_10 => ?_)
  obtain rfl : z_10 = 0 := ez_10.trans (by decide)
  refine lv_goto (tgt := 44) hx hb dX8_disk_40 (by decide) ?_
  exact kr_i () hx hb hr hlocks (hP.sub [] rfl) (hD.sub [] (by decide) rfl) hS rfl dX8_disk_44
set_option maxHeartbeats 4000000 in
set_option maxRecDepth 100000 in
theorem K244_X7_poke (l : Launch) (D : va_G) (cB cI cZ : ClassId) (sz : Nat) (h0 : Nat)  (p0 : Int32) (p1 : Int32) (p2 : Int32) (g0 : Value) (g1 : Value) (g2 : Value) (g3 : Value) (g4 : Value) (g5 : Value) (g6 : Value) (g7 : Value) (g8 : Value) (i_p0 : p0.toInt ≤ (-1)) :
    CtI l D cB cI cZ yX7_poke wsX7_poke { frames := 1, cells := 0, slots := 0, locals := 21 } [.ref h0, .int p0, .int p1, .int p2] [(h0, .inr (6, [g0, g1, g2, g3, g4, g5, g6, g7, g8]))] sz 0 0
      (fun (r : Int32) (u : Unit) => r = (-1))
      (fun u => []) := by
  refine mk_metI (cc := cX7_poke) (maxL := 4) (ret := (some .int)) (by decide) rfl (Nat.le_of_ble_eq_true rfl) ?_
  intro p e s m below meth c A hx hb hr hml hts hown hlocks hin hP hK hN hD hA hS ls hl
  have hown : s.vm.findClass RX7 = some m.cls := hown
  have hl : lv_has ls 4 [(0, .ref h0), (1, .int p0), (2, .int p1), (3, .int p2)] := hl
  refine lv_iload_n hx hb dX7_poke_0 rfl (lv_at hl 1 rfl) ?_
  refine lv_iload_n hx hb dX7_poke_1 rfl (lv_at hl 2 rfl) ?_
  refine kc_i (wr := [(h0, .inr (6, [g0, g1, g2, g3, g4, g5, g6, g7, g8]))]) (va_runS (As := [.int p0, .int p1]) (rest := []) ⟨hx, hb, hml, hown, hts⟩ (K226_X7_isOctet l D cB cI cZ _ p0 p1 (by omega)) (va_cwS 2 hts gX7_poke_X7_isOctet rfl rfl rfl (by decide +kernel) ⟨Nat.le_of_ble_eq_true rfl, Nat.le_of_ble_eq_true rfl⟩) (pre_S (hP.sub [] rfl) hK hN (hD.sub [] (by decide) rfl)) rfl rfl hl.1 rfl (lv_room (Nat.le_of_ble_eq_true rfl)) dX7_poke_2 ⟨Nat.le_of_ble_eq_true rfl, Nat.le_of_ble_eq_true rfl⟩) hP hD hS hA [] [0] rfl rfl (by decide) (by decide) (fun r_1 u H locs hw hP hD hS => ?_)
  have k_2 := hw
  obtain rfl : r_1 = 0 := k_2
  have hP : va_P D vwCl [(h0, .inr (6, [g0, g1, g2, g3, g4, g5, g6, g7, g8]))] H := hP
  have hD : va_D A [(h0, .inr (6, [g0, g1, g2, g3, g4, g5, g6, g7, g8]))] := hD
  refine lv_if_ne (tgt := 10) hx hb dX7_poke_5 (by decide) (fun c => absurd (by decide) c) (fun c => ?_)
  refine lv_iconst (v := (-1)) hx hb dX7_poke_8 (by decide) ?_
  exact kr_i () hx hb hr hlocks (hP.sub [] rfl) (hD.sub [] (by decide) rfl) hS rfl dX7_poke_9
set_option maxHeartbeats 4000000 in
set_option maxRecDepth 100000 in
theorem K245_X8_poke (l : Launch) (D : va_G) (cB cI cZ : ClassId) (sz : Nat) (h0 : Nat)  (p0 : Int32) (p1 : Int32) (p2 : Int32) (g0 : Value) (g1 : Value) (g2 : Value) (g3 : Value) (g4 : Value) (g5 : Value) (g6 : Value) (g7 : Value) (g8 : Value) (g9 : Value) (g10 : Value) (g11 : Value) (g12 : Value) (g13 : Value) (g14 : Value) (g15 : Value) (g16 : Value) (g17 : Value) (g18 : Value) (g19 : Value) (g20 : Value) (g21 : Value) (g22 : Value) (g23 : Value) (g24 : Value) (g25 : Value) (g26 : Value) (g27 : Value) (g28 : Value) (g29 : Value) (i_p0 : p0.toInt ≤ (-1)) :
    CtI l D cB cI cZ yX8_poke wsX8_poke { frames := 1, cells := 0, slots := 0, locals := 22 } [.ref h0, .int p0, .int p1, .int p2] [(h0, .inr (7, [g0, g1, g2, g3, g4, g5, g6, g7, g8, g9, g10, g11, g12, g13, g14, g15, g16, g17, g18, g19, g20, g21, g22, g23, g24, g25, g26, g27, g28, g29]))] sz 0 0
      (fun (r : Int32) (u : Unit) => r = (-1))
      (fun u => []) := by
  refine mk_metI (cc := cX8_poke) (maxL := 4) (ret := (some .int)) (by decide) rfl (Nat.le_of_ble_eq_true rfl) ?_
  intro p e s m below meth c A hx hb hr hml hts hown hlocks hin hP hK hN hD hA hS ls hl
  have hown : s.vm.findClass RX8 = some m.cls := hown
  have hl : lv_has ls 4 [(0, .ref h0), (1, .int p0), (2, .int p1), (3, .int p2)] := hl
  refine lv_aload_n hx hb dX8_poke_0 rfl (lv_at hl 0 rfl) ?_
  refine lv_iconst (v := 0) hx hb dX8_poke_1 (by decide) ?_
  refine va_put (D := D) (ci := 7) (v := .int 0) (ty := .int) (C := RX8) (T := TX8) (N := 30) hx hb hts inX8_poke_X8 tyX8 tyX8_ok nmX8 hown hK hP hD hS 0 rfl rfl 0 (by decide) (hts _ wdX8_poke_0) (fun _ h9 => h9) rfl (by decide +kernel) rfl rfl (Nat.le_of_ble_eq_true rfl) dX8_poke_2 (fun H locs hP hD hS => ?_)
  have hP : va_P D vwCl [(h0, .inr (7, [.int 0, g1, g2, g3, g4, g5, g6, g7, g8, g9, g10, g11, g12, g13, g14, g15, g16, g17, g18, g19, g20, g21, g22, g23, g24, g25, g26, g27, g28, g29]))] H := hP
  have hD : va_D A [(h0, .inr (7, [.int 0, g1, g2, g3, g4, g5, g6, g7, g8, g9, g10, g11, g12, g13, g14, g15, g16, g17, g18, g19, g20, g21, g22, g23, g24, g25, g26, g27, g28, g29]))] := hD
  refine lv_iload_n hx hb dX8_poke_5 rfl (lv_at hl 1 rfl) ?_
  refine lv_iconst (v := 0) hx hb dX8_poke_6 (by decide) ?_
  refine lv_bipush (v := 63) hx hb dX8_poke_7 (by decide) ?_
  refine kc_i (wr := [(h0, .inr (7, [.int 0, g1, g2, g3, g4, g5, g6, g7, g8, g9, g10, g11, g12, g13, g14, g15, g16, g17, g18, g19, g20, g21, g22, g23, g24, g25, g26, g27, g28, g29]))]) (va_runS (As := [.int p0, .int 0, .int 63]) (rest := []) ⟨hx, hb, hml, hown, hts⟩ (K185_X8_in l D cB cI cZ _ p0 (by omega)) (va_cwS 3 hts gX8_poke_X8_in rfl rfl rfl (by decide +kernel) ⟨Nat.le_of_ble_eq_true rfl, Nat.le_of_ble_eq_true rfl⟩) (pre_S (hP.sub [] rfl) hK hN (hD.sub [] (by decide) rfl)) rfl rfl hl.1 rfl (lv_room (Nat.le_of_ble_eq_true rfl)) dX8_poke_9 ⟨Nat.le_of_ble_eq_true rfl, Nat.le_of_ble_eq_true rfl⟩) hP hD hS hA [] [0] rfl rfl (by decide) (by decide) (fun r_1 u H locs hw hP hD hS => ?_)
  have k_2 := hw
  obtain rfl : r_1 = 0 := k_2
  have hP : va_P D vwCl [(h0, .inr (7, [.int 0, g1, g2, g3, g4, g5, g6, g7, g8, g9, g10, g11, g12, g13, g14, g15, g16, g17, g18, g19, g20, g21, g22, g23, g24, g25, g26, g27, g28, g29]))] H := hP
  have hD : va_D A [(h0, .inr (7, [.int 0, g1, g2, g3, g4, g5, g6, g7, g8, g9, g10, g11, g12, g13, g14, g15, g16, g17, g18, g19, g20, g21, g22, g23, g24, g25, g26, g27, g28, g29]))] := hD
  refine lv_if_eq (tgt := 26) hx hb dX8_poke_12 (by decide) (fun c => ?_) (fun c => absurd (by decide) c)
  refine lv_iconst (v := (-1)) hx hb dX8_poke_26 (by decide) ?_
  exact kr_i () hx hb hr hlocks (hP.sub [] rfl) (hD.sub [] (by decide) rfl) hS rfl dX8_poke_27
set_option maxHeartbeats 4000000 in
set_option maxRecDepth 100000 in
theorem K246_X7_poke (l : Launch) (D : va_G) (cB cI cZ : ClassId) (sz : Nat) (h0 : Nat)  (p0 : Int32) (p1 : Int32) (p2 : Int32) (g0 : Value) (g1 : Value) (g2 : Value) (g3 : Value) (g4 : Value) (g5 : Value) (g6 : Value) (g7 : Value) (g8 : Value) (i_p0 : 64 ≤ p0.toInt) :
    CtI l D cB cI cZ yX7_poke wsX7_poke { frames := 1, cells := 0, slots := 0, locals := 21 } [.ref h0, .int p0, .int p1, .int p2] [(h0, .inr (6, [g0, g1, g2, g3, g4, g5, g6, g7, g8]))] sz 0 0
      (fun (r : Int32) (u : Unit) => r = (-1))
      (fun u => []) := by
  refine mk_metI (cc := cX7_poke) (maxL := 4) (ret := (some .int)) (by decide) rfl (Nat.le_of_ble_eq_true rfl) ?_
  intro p e s m below meth c A hx hb hr hml hts hown hlocks hin hP hK hN hD hA hS ls hl
  have hown : s.vm.findClass RX7 = some m.cls := hown
  have hl : lv_has ls 4 [(0, .ref h0), (1, .int p0), (2, .int p1), (3, .int p2)] := hl
  refine lv_iload_n hx hb dX7_poke_0 rfl (lv_at hl 1 rfl) ?_
  refine lv_iload_n hx hb dX7_poke_1 rfl (lv_at hl 2 rfl) ?_
  refine kc_i (wr := [(h0, .inr (6, [g0, g1, g2, g3, g4, g5, g6, g7, g8]))]) (va_runS (As := [.int p0, .int p1]) (rest := []) ⟨hx, hb, hml, hown, hts⟩ (K229_X7_isOctet l D cB cI cZ _ p0 p1 (by omega)) (va_cwS 2 hts gX7_poke_X7_isOctet rfl rfl rfl (by decide +kernel) ⟨Nat.le_of_ble_eq_true rfl, Nat.le_of_ble_eq_true rfl⟩) (pre_S (hP.sub [] rfl) hK hN (hD.sub [] (by decide) rfl)) rfl rfl hl.1 rfl (lv_room (Nat.le_of_ble_eq_true rfl)) dX7_poke_2 ⟨Nat.le_of_ble_eq_true rfl, Nat.le_of_ble_eq_true rfl⟩) hP hD hS hA [] [0] rfl rfl (by decide) (by decide) (fun r_1 u H locs hw hP hD hS => ?_)
  have k_2 := hw
  obtain rfl : r_1 = 0 := k_2
  have hP : va_P D vwCl [(h0, .inr (6, [g0, g1, g2, g3, g4, g5, g6, g7, g8]))] H := hP
  have hD : va_D A [(h0, .inr (6, [g0, g1, g2, g3, g4, g5, g6, g7, g8]))] := hD
  refine lv_if_ne (tgt := 10) hx hb dX7_poke_5 (by decide) (fun c => absurd (by decide) c) (fun c => ?_)
  refine lv_iconst (v := (-1)) hx hb dX7_poke_8 (by decide) ?_
  exact kr_i () hx hb hr hlocks (hP.sub [] rfl) (hD.sub [] (by decide) rfl) hS rfl dX7_poke_9
set_option maxHeartbeats 4000000 in
set_option maxRecDepth 100000 in
theorem K247_X8_poke (l : Launch) (D : va_G) (cB cI cZ : ClassId) (sz : Nat) (h0 : Nat)  (p0 : Int32) (p1 : Int32) (p2 : Int32) (g0 : Value) (g1 : Value) (g2 : Value) (g3 : Value) (g4 : Value) (g5 : Value) (g6 : Value) (g7 : Value) (g8 : Value) (g9 : Value) (g10 : Value) (g11 : Value) (g12 : Value) (g13 : Value) (g14 : Value) (g15 : Value) (g16 : Value) (g17 : Value) (g18 : Value) (g19 : Value) (g20 : Value) (g21 : Value) (g22 : Value) (g23 : Value) (g24 : Value) (g25 : Value) (g26 : Value) (g27 : Value) (g28 : Value) (g29 : Value) (i_p0 : 64 ≤ p0.toInt) :
    CtI l D cB cI cZ yX8_poke wsX8_poke { frames := 1, cells := 0, slots := 0, locals := 22 } [.ref h0, .int p0, .int p1, .int p2] [(h0, .inr (7, [g0, g1, g2, g3, g4, g5, g6, g7, g8, g9, g10, g11, g12, g13, g14, g15, g16, g17, g18, g19, g20, g21, g22, g23, g24, g25, g26, g27, g28, g29]))] sz 0 0
      (fun (r : Int32) (u : Unit) => r = (-1))
      (fun u => []) := by
  refine mk_metI (cc := cX8_poke) (maxL := 4) (ret := (some .int)) (by decide) rfl (Nat.le_of_ble_eq_true rfl) ?_
  intro p e s m below meth c A hx hb hr hml hts hown hlocks hin hP hK hN hD hA hS ls hl
  have hown : s.vm.findClass RX8 = some m.cls := hown
  have hl : lv_has ls 4 [(0, .ref h0), (1, .int p0), (2, .int p1), (3, .int p2)] := hl
  refine lv_aload_n hx hb dX8_poke_0 rfl (lv_at hl 0 rfl) ?_
  refine lv_iconst (v := 0) hx hb dX8_poke_1 (by decide) ?_
  refine va_put (D := D) (ci := 7) (v := .int 0) (ty := .int) (C := RX8) (T := TX8) (N := 30) hx hb hts inX8_poke_X8 tyX8 tyX8_ok nmX8 hown hK hP hD hS 0 rfl rfl 0 (by decide) (hts _ wdX8_poke_0) (fun _ h9 => h9) rfl (by decide +kernel) rfl rfl (Nat.le_of_ble_eq_true rfl) dX8_poke_2 (fun H locs hP hD hS => ?_)
  have hP : va_P D vwCl [(h0, .inr (7, [.int 0, g1, g2, g3, g4, g5, g6, g7, g8, g9, g10, g11, g12, g13, g14, g15, g16, g17, g18, g19, g20, g21, g22, g23, g24, g25, g26, g27, g28, g29]))] H := hP
  have hD : va_D A [(h0, .inr (7, [.int 0, g1, g2, g3, g4, g5, g6, g7, g8, g9, g10, g11, g12, g13, g14, g15, g16, g17, g18, g19, g20, g21, g22, g23, g24, g25, g26, g27, g28, g29]))] := hD
  refine lv_iload_n hx hb dX8_poke_5 rfl (lv_at hl 1 rfl) ?_
  refine lv_iconst (v := 0) hx hb dX8_poke_6 (by decide) ?_
  refine lv_bipush (v := 63) hx hb dX8_poke_7 (by decide) ?_
  refine kc_i (wr := [(h0, .inr (7, [.int 0, g1, g2, g3, g4, g5, g6, g7, g8, g9, g10, g11, g12, g13, g14, g15, g16, g17, g18, g19, g20, g21, g22, g23, g24, g25, g26, g27, g28, g29]))]) (va_runS (As := [.int p0, .int 0, .int 63]) (rest := []) ⟨hx, hb, hml, hown, hts⟩ (K188_X8_in l D cB cI cZ _ p0 (by omega)) (va_cwS 3 hts gX8_poke_X8_in rfl rfl rfl (by decide +kernel) ⟨Nat.le_of_ble_eq_true rfl, Nat.le_of_ble_eq_true rfl⟩) (pre_S (hP.sub [] rfl) hK hN (hD.sub [] (by decide) rfl)) rfl rfl hl.1 rfl (lv_room (Nat.le_of_ble_eq_true rfl)) dX8_poke_9 ⟨Nat.le_of_ble_eq_true rfl, Nat.le_of_ble_eq_true rfl⟩) hP hD hS hA [] [0] rfl rfl (by decide) (by decide) (fun r_1 u H locs hw hP hD hS => ?_)
  have k_2 := hw
  obtain rfl : r_1 = 0 := k_2
  have hP : va_P D vwCl [(h0, .inr (7, [.int 0, g1, g2, g3, g4, g5, g6, g7, g8, g9, g10, g11, g12, g13, g14, g15, g16, g17, g18, g19, g20, g21, g22, g23, g24, g25, g26, g27, g28, g29]))] H := hP
  have hD : va_D A [(h0, .inr (7, [.int 0, g1, g2, g3, g4, g5, g6, g7, g8, g9, g10, g11, g12, g13, g14, g15, g16, g17, g18, g19, g20, g21, g22, g23, g24, g25, g26, g27, g28, g29]))] := hD
  refine lv_if_eq (tgt := 26) hx hb dX8_poke_12 (by decide) (fun c => ?_) (fun c => absurd (by decide) c)
  refine lv_iconst (v := (-1)) hx hb dX8_poke_26 (by decide) ?_
  exact kr_i () hx hb hr hlocks (hP.sub [] rfl) (hD.sub [] (by decide) rfl) hS rfl dX8_poke_27
set_option maxHeartbeats 4000000 in
set_option maxRecDepth 100000 in
theorem K248_X7_poke (l : Launch) (D : va_G) (cB cI cZ : ClassId) (sz : Nat) (h0 : Nat)  (p0 : Int32) (p1 : Int32) (p2 : Int32) (g0 : Value) (g1 : Value) (g2 : Value) (g3 : Value) (g4 : Value) (g5 : Value) (g6 : Value) (g7 : Value) (g8 : Value) (i_p0 : 0 ≤ p0.toInt ∧ p0.toInt ≤ 63) (i_p1 : p1.toInt ≤ (-1)) :
    CtI l D cB cI cZ yX7_poke wsX7_poke { frames := 1, cells := 0, slots := 0, locals := 21 } [.ref h0, .int p0, .int p1, .int p2] [(h0, .inr (6, [g0, g1, g2, g3, g4, g5, g6, g7, g8]))] sz 0 0
      (fun (r : Int32) (u : Unit) => r = (-1))
      (fun u => []) := by
  refine mk_metI (cc := cX7_poke) (maxL := 4) (ret := (some .int)) (by decide) rfl (Nat.le_of_ble_eq_true rfl) ?_
  intro p e s m below meth c A hx hb hr hml hts hown hlocks hin hP hK hN hD hA hS ls hl
  have hown : s.vm.findClass RX7 = some m.cls := hown
  have hl : lv_has ls 4 [(0, .ref h0), (1, .int p0), (2, .int p1), (3, .int p2)] := hl
  refine lv_iload_n hx hb dX7_poke_0 rfl (lv_at hl 1 rfl) ?_
  refine lv_iload_n hx hb dX7_poke_1 rfl (lv_at hl 2 rfl) ?_
  refine kc_i (wr := [(h0, .inr (6, [g0, g1, g2, g3, g4, g5, g6, g7, g8]))]) (va_runS (As := [.int p0, .int p1]) (rest := []) ⟨hx, hb, hml, hown, hts⟩ (K232_X7_isOctet l D cB cI cZ _ p0 p1 ⟨by omega, by omega⟩ (by omega)) (va_cwS 2 hts gX7_poke_X7_isOctet rfl rfl rfl (by decide +kernel) ⟨Nat.le_of_ble_eq_true rfl, Nat.le_of_ble_eq_true rfl⟩) (pre_S (hP.sub [] rfl) hK hN (hD.sub [] (by decide) rfl)) rfl rfl hl.1 rfl (lv_room (Nat.le_of_ble_eq_true rfl)) dX7_poke_2 ⟨Nat.le_of_ble_eq_true rfl, Nat.le_of_ble_eq_true rfl⟩) hP hD hS hA [] [0] rfl rfl (by decide) (by decide) (fun r_1 u H locs hw hP hD hS => ?_)
  have k_2 := hw
  obtain rfl : r_1 = 0 := k_2
  have hP : va_P D vwCl [(h0, .inr (6, [g0, g1, g2, g3, g4, g5, g6, g7, g8]))] H := hP
  have hD : va_D A [(h0, .inr (6, [g0, g1, g2, g3, g4, g5, g6, g7, g8]))] := hD
  refine lv_if_ne (tgt := 10) hx hb dX7_poke_5 (by decide) (fun c => absurd (by decide) c) (fun c => ?_)
  refine lv_iconst (v := (-1)) hx hb dX7_poke_8 (by decide) ?_
  exact kr_i () hx hb hr hlocks (hP.sub [] rfl) (hD.sub [] (by decide) rfl) hS rfl dX7_poke_9
set_option maxHeartbeats 4000000 in
set_option maxRecDepth 100000 in
theorem K249_X8_poke (l : Launch) (D : va_G) (cB cI cZ : ClassId) (sz : Nat) (h0 : Nat)  (p0 : Int32) (p1 : Int32) (p2 : Int32) (g0 : Value) (g1 : Value) (g2 : Value) (g3 : Value) (g4 : Value) (g5 : Value) (g6 : Value) (g7 : Value) (g8 : Value) (g9 : Value) (g10 : Value) (g11 : Value) (g12 : Value) (g13 : Value) (g14 : Value) (g15 : Value) (g16 : Value) (g17 : Value) (g18 : Value) (g19 : Value) (g20 : Value) (g21 : Value) (g22 : Value) (g23 : Value) (g24 : Value) (g25 : Value) (g26 : Value) (g27 : Value) (g28 : Value) (g29 : Value) (i_p0 : 0 ≤ p0.toInt ∧ p0.toInt ≤ 63) (i_p1 : p1.toInt ≤ (-1)) :
    CtI l D cB cI cZ yX8_poke wsX8_poke { frames := 1, cells := 0, slots := 0, locals := 22 } [.ref h0, .int p0, .int p1, .int p2] [(h0, .inr (7, [g0, g1, g2, g3, g4, g5, g6, g7, g8, g9, g10, g11, g12, g13, g14, g15, g16, g17, g18, g19, g20, g21, g22, g23, g24, g25, g26, g27, g28, g29]))] sz 0 0
      (fun (r : Int32) (u : Unit) => r = (-1))
      (fun u => []) := by
  refine mk_metI (cc := cX8_poke) (maxL := 4) (ret := (some .int)) (by decide) rfl (Nat.le_of_ble_eq_true rfl) ?_
  intro p e s m below meth c A hx hb hr hml hts hown hlocks hin hP hK hN hD hA hS ls hl
  have hown : s.vm.findClass RX8 = some m.cls := hown
  have hl : lv_has ls 4 [(0, .ref h0), (1, .int p0), (2, .int p1), (3, .int p2)] := hl
  refine lv_aload_n hx hb dX8_poke_0 rfl (lv_at hl 0 rfl) ?_
  refine lv_iconst (v := 0) hx hb dX8_poke_1 (by decide) ?_
  refine va_put (D := D) (ci := 7) (v := .int 0) (ty := .int) (C := RX8) (T := TX8) (N := 30) hx hb hts inX8_poke_X8 tyX8 tyX8_ok nmX8 hown hK hP hD hS 0 rfl rfl 0 (by decide) (hts _ wdX8_poke_0) (fun _ h9 => h9) rfl (by decide +kernel) rfl rfl (Nat.le_of_ble_eq_true rfl) dX8_poke_2 (fun H locs hP hD hS => ?_)
  have hP : va_P D vwCl [(h0, .inr (7, [.int 0, g1, g2, g3, g4, g5, g6, g7, g8, g9, g10, g11, g12, g13, g14, g15, g16, g17, g18, g19, g20, g21, g22, g23, g24, g25, g26, g27, g28, g29]))] H := hP
  have hD : va_D A [(h0, .inr (7, [.int 0, g1, g2, g3, g4, g5, g6, g7, g8, g9, g10, g11, g12, g13, g14, g15, g16, g17, g18, g19, g20, g21, g22, g23, g24, g25, g26, g27, g28, g29]))] := hD
  refine lv_iload_n hx hb dX8_poke_5 rfl (lv_at hl 1 rfl) ?_
  refine lv_iconst (v := 0) hx hb dX8_poke_6 (by decide) ?_
  refine lv_bipush (v := 63) hx hb dX8_poke_7 (by decide) ?_
  refine kc_i (wr := [(h0, .inr (7, [.int 0, g1, g2, g3, g4, g5, g6, g7, g8, g9, g10, g11, g12, g13, g14, g15, g16, g17, g18, g19, g20, g21, g22, g23, g24, g25, g26, g27, g28, g29]))]) (va_runS (As := [.int p0, .int 0, .int 63]) (rest := []) ⟨hx, hb, hml, hown, hts⟩ (K192_X8_in l D cB cI cZ _ p0 ⟨by omega, by omega⟩) (va_cwS 3 hts gX8_poke_X8_in rfl rfl rfl (by decide +kernel) ⟨Nat.le_of_ble_eq_true rfl, Nat.le_of_ble_eq_true rfl⟩) (pre_S (hP.sub [] rfl) hK hN (hD.sub [] (by decide) rfl)) rfl rfl hl.1 rfl (lv_room (Nat.le_of_ble_eq_true rfl)) dX8_poke_9 ⟨Nat.le_of_ble_eq_true rfl, Nat.le_of_ble_eq_true rfl⟩) hP hD hS hA [] [0] rfl rfl (by decide) (by decide) (fun r_1 u H locs hw hP hD hS => ?_)
  have k_2 := hw
  obtain rfl : r_1 = 1 := k_2
  have hP : va_P D vwCl [(h0, .inr (7, [.int 0, g1, g2, g3, g4, g5, g6, g7, g8, g9, g10, g11, g12, g13, g14, g15, g16, g17, g18, g19, g20, g21, g22, g23, g24, g25, g26, g27, g28, g29]))] H := hP
  have hD : va_D A [(h0, .inr (7, [.int 0, g1, g2, g3, g4, g5, g6, g7, g8, g9, g10, g11, g12, g13, g14, g15, g16, g17, g18, g19, g20, g21, g22, g23, g24, g25, g26, g27, g28, g29]))] := hD
  refine lv_if_eq (tgt := 26) hx hb dX8_poke_12 (by decide) (fun c => absurd c (by decide)) (fun c => ?_)
  refine lv_iload_n hx hb dX8_poke_15 rfl (lv_at hl 2 rfl) ?_
  refine lv_iconst (v := 0) hx hb dX8_poke_16 (by decide) ?_
  refine lv_sipush (v := 1023) hx hb dX8_poke_17 (by decide) ?_
  refine kc_i (wr := [(h0, .inr (7, [.int 0, g1, g2, g3, g4, g5, g6, g7, g8, g9, g10, g11, g12, g13, g14, g15, g16, g17, g18, g19, g20, g21, g22, g23, g24, g25, g26, g27, g28, g29]))]) (va_runS (As := [.int p1, .int 0, .int 1023]) (rest := []) ⟨hx, hb, hml, hown, hts⟩ (K234_X8_in l D cB cI cZ _ p1 (by omega)) (va_cwS 3 hts gX8_poke_X8_in rfl rfl rfl (by decide +kernel) ⟨Nat.le_of_ble_eq_true rfl, Nat.le_of_ble_eq_true rfl⟩) (pre_S (hP.sub [] rfl) hK hN (hD.sub [] (by decide) rfl)) rfl rfl hl.1 rfl (lv_room (Nat.le_of_ble_eq_true rfl)) dX8_poke_20 ⟨Nat.le_of_ble_eq_true rfl, Nat.le_of_ble_eq_true rfl⟩) hP hD hS hA [] [0] rfl rfl (by decide) (by decide) (fun r_3 u H locs hw hP hD hS => ?_)
  have k_4 := hw
  obtain rfl : r_3 = 0 := k_4
  have hP : va_P D vwCl [(h0, .inr (7, [.int 0, g1, g2, g3, g4, g5, g6, g7, g8, g9, g10, g11, g12, g13, g14, g15, g16, g17, g18, g19, g20, g21, g22, g23, g24, g25, g26, g27, g28, g29]))] H := hP
  have hD : va_D A [(h0, .inr (7, [.int 0, g1, g2, g3, g4, g5, g6, g7, g8, g9, g10, g11, g12, g13, g14, g15, g16, g17, g18, g19, g20, g21, g22, g23, g24, g25, g26, g27, g28, g29]))] := hD
  refine lv_if_ne (tgt := 28) hx hb dX8_poke_23 (by decide) (fun c => absurd (by decide) c) (fun c => ?_)
  refine lv_iconst (v := (-1)) hx hb dX8_poke_26 (by decide) ?_
  exact kr_i () hx hb hr hlocks (hP.sub [] rfl) (hD.sub [] (by decide) rfl) hS rfl dX8_poke_27
set_option maxHeartbeats 4000000 in
set_option maxRecDepth 100000 in
theorem K250_X7_poke (l : Launch) (D : va_G) (cB cI cZ : ClassId) (sz : Nat) (h0 : Nat)  (p0 : Int32) (p1 : Int32) (p2 : Int32) (g0 : Value) (g1 : Value) (g2 : Value) (g3 : Value) (g4 : Value) (g5 : Value) (g6 : Value) (g7 : Value) (g8 : Value) (i_p0 : 0 ≤ p0.toInt ∧ p0.toInt ≤ 63) (i_p1 : 1024 ≤ p1.toInt) :
    CtI l D cB cI cZ yX7_poke wsX7_poke { frames := 1, cells := 0, slots := 0, locals := 21 } [.ref h0, .int p0, .int p1, .int p2] [(h0, .inr (6, [g0, g1, g2, g3, g4, g5, g6, g7, g8]))] sz 0 0
      (fun (r : Int32) (u : Unit) => r = (-1))
      (fun u => []) := by
  refine mk_metI (cc := cX7_poke) (maxL := 4) (ret := (some .int)) (by decide) rfl (Nat.le_of_ble_eq_true rfl) ?_
  intro p e s m below meth c A hx hb hr hml hts hown hlocks hin hP hK hN hD hA hS ls hl
  have hown : s.vm.findClass RX7 = some m.cls := hown
  have hl : lv_has ls 4 [(0, .ref h0), (1, .int p0), (2, .int p1), (3, .int p2)] := hl
  refine lv_iload_n hx hb dX7_poke_0 rfl (lv_at hl 1 rfl) ?_
  refine lv_iload_n hx hb dX7_poke_1 rfl (lv_at hl 2 rfl) ?_
  refine kc_i (wr := [(h0, .inr (6, [g0, g1, g2, g3, g4, g5, g6, g7, g8]))]) (va_runS (As := [.int p0, .int p1]) (rest := []) ⟨hx, hb, hml, hown, hts⟩ (K236_X7_isOctet l D cB cI cZ _ p0 p1 ⟨by omega, by omega⟩ (by omega)) (va_cwS 2 hts gX7_poke_X7_isOctet rfl rfl rfl (by decide +kernel) ⟨Nat.le_of_ble_eq_true rfl, Nat.le_of_ble_eq_true rfl⟩) (pre_S (hP.sub [] rfl) hK hN (hD.sub [] (by decide) rfl)) rfl rfl hl.1 rfl (lv_room (Nat.le_of_ble_eq_true rfl)) dX7_poke_2 ⟨Nat.le_of_ble_eq_true rfl, Nat.le_of_ble_eq_true rfl⟩) hP hD hS hA [] [0] rfl rfl (by decide) (by decide) (fun r_1 u H locs hw hP hD hS => ?_)
  have k_2 := hw
  obtain rfl : r_1 = 0 := k_2
  have hP : va_P D vwCl [(h0, .inr (6, [g0, g1, g2, g3, g4, g5, g6, g7, g8]))] H := hP
  have hD : va_D A [(h0, .inr (6, [g0, g1, g2, g3, g4, g5, g6, g7, g8]))] := hD
  refine lv_if_ne (tgt := 10) hx hb dX7_poke_5 (by decide) (fun c => absurd (by decide) c) (fun c => ?_)
  refine lv_iconst (v := (-1)) hx hb dX7_poke_8 (by decide) ?_
  exact kr_i () hx hb hr hlocks (hP.sub [] rfl) (hD.sub [] (by decide) rfl) hS rfl dX7_poke_9
set_option maxHeartbeats 4000000 in
set_option maxRecDepth 100000 in
theorem K251_X8_poke (l : Launch) (D : va_G) (cB cI cZ : ClassId) (sz : Nat) (h0 : Nat)  (p0 : Int32) (p1 : Int32) (p2 : Int32) (g0 : Value) (g1 : Value) (g2 : Value) (g3 : Value) (g4 : Value) (g5 : Value) (g6 : Value) (g7 : Value) (g8 : Value) (g9 : Value) (g10 : Value) (g11 : Value) (g12 : Value) (g13 : Value) (g14 : Value) (g15 : Value) (g16 : Value) (g17 : Value) (g18 : Value) (g19 : Value) (g20 : Value) (g21 : Value) (g22 : Value) (g23 : Value) (g24 : Value) (g25 : Value) (g26 : Value) (g27 : Value) (g28 : Value) (g29 : Value) (i_p0 : 0 ≤ p0.toInt ∧ p0.toInt ≤ 63) (i_p1 : 1024 ≤ p1.toInt) :
    CtI l D cB cI cZ yX8_poke wsX8_poke { frames := 1, cells := 0, slots := 0, locals := 22 } [.ref h0, .int p0, .int p1, .int p2] [(h0, .inr (7, [g0, g1, g2, g3, g4, g5, g6, g7, g8, g9, g10, g11, g12, g13, g14, g15, g16, g17, g18, g19, g20, g21, g22, g23, g24, g25, g26, g27, g28, g29]))] sz 0 0
      (fun (r : Int32) (u : Unit) => r = (-1))
      (fun u => []) := by
  refine mk_metI (cc := cX8_poke) (maxL := 4) (ret := (some .int)) (by decide) rfl (Nat.le_of_ble_eq_true rfl) ?_
  intro p e s m below meth c A hx hb hr hml hts hown hlocks hin hP hK hN hD hA hS ls hl
  have hown : s.vm.findClass RX8 = some m.cls := hown
  have hl : lv_has ls 4 [(0, .ref h0), (1, .int p0), (2, .int p1), (3, .int p2)] := hl
  refine lv_aload_n hx hb dX8_poke_0 rfl (lv_at hl 0 rfl) ?_
  refine lv_iconst (v := 0) hx hb dX8_poke_1 (by decide) ?_
  refine va_put (D := D) (ci := 7) (v := .int 0) (ty := .int) (C := RX8) (T := TX8) (N := 30) hx hb hts inX8_poke_X8 tyX8 tyX8_ok nmX8 hown hK hP hD hS 0 rfl rfl 0 (by decide) (hts _ wdX8_poke_0) (fun _ h9 => h9) rfl (by decide +kernel) rfl rfl (Nat.le_of_ble_eq_true rfl) dX8_poke_2 (fun H locs hP hD hS => ?_)
  have hP : va_P D vwCl [(h0, .inr (7, [.int 0, g1, g2, g3, g4, g5, g6, g7, g8, g9, g10, g11, g12, g13, g14, g15, g16, g17, g18, g19, g20, g21, g22, g23, g24, g25, g26, g27, g28, g29]))] H := hP
  have hD : va_D A [(h0, .inr (7, [.int 0, g1, g2, g3, g4, g5, g6, g7, g8, g9, g10, g11, g12, g13, g14, g15, g16, g17, g18, g19, g20, g21, g22, g23, g24, g25, g26, g27, g28, g29]))] := hD
  refine lv_iload_n hx hb dX8_poke_5 rfl (lv_at hl 1 rfl) ?_
  refine lv_iconst (v := 0) hx hb dX8_poke_6 (by decide) ?_
  refine lv_bipush (v := 63) hx hb dX8_poke_7 (by decide) ?_
  refine kc_i (wr := [(h0, .inr (7, [.int 0, g1, g2, g3, g4, g5, g6, g7, g8, g9, g10, g11, g12, g13, g14, g15, g16, g17, g18, g19, g20, g21, g22, g23, g24, g25, g26, g27, g28, g29]))]) (va_runS (As := [.int p0, .int 0, .int 63]) (rest := []) ⟨hx, hb, hml, hown, hts⟩ (K192_X8_in l D cB cI cZ _ p0 ⟨by omega, by omega⟩) (va_cwS 3 hts gX8_poke_X8_in rfl rfl rfl (by decide +kernel) ⟨Nat.le_of_ble_eq_true rfl, Nat.le_of_ble_eq_true rfl⟩) (pre_S (hP.sub [] rfl) hK hN (hD.sub [] (by decide) rfl)) rfl rfl hl.1 rfl (lv_room (Nat.le_of_ble_eq_true rfl)) dX8_poke_9 ⟨Nat.le_of_ble_eq_true rfl, Nat.le_of_ble_eq_true rfl⟩) hP hD hS hA [] [0] rfl rfl (by decide) (by decide) (fun r_1 u H locs hw hP hD hS => ?_)
  have k_2 := hw
  obtain rfl : r_1 = 1 := k_2
  have hP : va_P D vwCl [(h0, .inr (7, [.int 0, g1, g2, g3, g4, g5, g6, g7, g8, g9, g10, g11, g12, g13, g14, g15, g16, g17, g18, g19, g20, g21, g22, g23, g24, g25, g26, g27, g28, g29]))] H := hP
  have hD : va_D A [(h0, .inr (7, [.int 0, g1, g2, g3, g4, g5, g6, g7, g8, g9, g10, g11, g12, g13, g14, g15, g16, g17, g18, g19, g20, g21, g22, g23, g24, g25, g26, g27, g28, g29]))] := hD
  refine lv_if_eq (tgt := 26) hx hb dX8_poke_12 (by decide) (fun c => absurd c (by decide)) (fun c => ?_)
  refine lv_iload_n hx hb dX8_poke_15 rfl (lv_at hl 2 rfl) ?_
  refine lv_iconst (v := 0) hx hb dX8_poke_16 (by decide) ?_
  refine lv_sipush (v := 1023) hx hb dX8_poke_17 (by decide) ?_
  refine kc_i (wr := [(h0, .inr (7, [.int 0, g1, g2, g3, g4, g5, g6, g7, g8, g9, g10, g11, g12, g13, g14, g15, g16, g17, g18, g19, g20, g21, g22, g23, g24, g25, g26, g27, g28, g29]))]) (va_runS (As := [.int p1, .int 0, .int 1023]) (rest := []) ⟨hx, hb, hml, hown, hts⟩ (K238_X8_in l D cB cI cZ _ p1 (by omega)) (va_cwS 3 hts gX8_poke_X8_in rfl rfl rfl (by decide +kernel) ⟨Nat.le_of_ble_eq_true rfl, Nat.le_of_ble_eq_true rfl⟩) (pre_S (hP.sub [] rfl) hK hN (hD.sub [] (by decide) rfl)) rfl rfl hl.1 rfl (lv_room (Nat.le_of_ble_eq_true rfl)) dX8_poke_20 ⟨Nat.le_of_ble_eq_true rfl, Nat.le_of_ble_eq_true rfl⟩) hP hD hS hA [] [0] rfl rfl (by decide) (by decide) (fun r_3 u H locs hw hP hD hS => ?_)
  have k_4 := hw
  obtain rfl : r_3 = 0 := k_4
  have hP : va_P D vwCl [(h0, .inr (7, [.int 0, g1, g2, g3, g4, g5, g6, g7, g8, g9, g10, g11, g12, g13, g14, g15, g16, g17, g18, g19, g20, g21, g22, g23, g24, g25, g26, g27, g28, g29]))] H := hP
  have hD : va_D A [(h0, .inr (7, [.int 0, g1, g2, g3, g4, g5, g6, g7, g8, g9, g10, g11, g12, g13, g14, g15, g16, g17, g18, g19, g20, g21, g22, g23, g24, g25, g26, g27, g28, g29]))] := hD
  refine lv_if_ne (tgt := 28) hx hb dX8_poke_23 (by decide) (fun c => absurd (by decide) c) (fun c => ?_)
  refine lv_iconst (v := (-1)) hx hb dX8_poke_26 (by decide) ?_
  exact kr_i () hx hb hr hlocks (hP.sub [] rfl) (hD.sub [] (by decide) rfl) hS rfl dX8_poke_27
set_option maxHeartbeats 4000000 in
set_option maxRecDepth 100000 in
theorem K252_X7_poke (l : Launch) (D : va_G) (cB cI cZ : ClassId) (sz : Nat) (h0 : Nat)  (p0 : Int32) (p1 : Int32) (p2 : Int32) (g0 : Value) (g1 : Value) (g2 : Value) (g3 : Value) (g4 : Value) (g5 : Value) (g6 : Value) (g7 : Value) (g8 : Value) (i_p0 : 0 ≤ p0.toInt ∧ p0.toInt ≤ 63) (i_p1 : 0 ≤ p1.toInt ∧ p1.toInt ≤ 1023) (i_p2 : p2.toInt ≤ (-1)) :
    CtI l D cB cI cZ yX7_poke wsX7_poke { frames := 1, cells := 0, slots := 0, locals := 21 } [.ref h0, .int p0, .int p1, .int p2] [(h0, .inr (6, [g0, g1, g2, g3, g4, g5, g6, g7, g8]))] sz 0 0
      (fun (r : Int32) (u : Unit) => r = (-2))
      (fun u => []) := by
  refine mk_metI (cc := cX7_poke) (maxL := 4) (ret := (some .int)) (by decide) rfl (Nat.le_of_ble_eq_true rfl) ?_
  intro p e s m below meth c A hx hb hr hml hts hown hlocks hin hP hK hN hD hA hS ls hl
  have hown : s.vm.findClass RX7 = some m.cls := hown
  have hl : lv_has ls 4 [(0, .ref h0), (1, .int p0), (2, .int p1), (3, .int p2)] := hl
  refine lv_iload_n hx hb dX7_poke_0 rfl (lv_at hl 1 rfl) ?_
  refine lv_iload_n hx hb dX7_poke_1 rfl (lv_at hl 2 rfl) ?_
  refine kc_i (wr := [(h0, .inr (6, [g0, g1, g2, g3, g4, g5, g6, g7, g8]))]) (va_runS (As := [.int p0, .int p1]) (rest := []) ⟨hx, hb, hml, hown, hts⟩ (K240_X7_isOctet l D cB cI cZ _ p0 p1 ⟨by omega, by omega⟩ ⟨by omega, by omega⟩) (va_cwS 2 hts gX7_poke_X7_isOctet rfl rfl rfl (by decide +kernel) ⟨Nat.le_of_ble_eq_true rfl, Nat.le_of_ble_eq_true rfl⟩) (pre_S (hP.sub [] rfl) hK hN (hD.sub [] (by decide) rfl)) rfl rfl hl.1 rfl (lv_room (Nat.le_of_ble_eq_true rfl)) dX7_poke_2 ⟨Nat.le_of_ble_eq_true rfl, Nat.le_of_ble_eq_true rfl⟩) hP hD hS hA [] [0] rfl rfl (by decide) (by decide) (fun r_1 u H locs hw hP hD hS => ?_)
  have k_2 := hw
  obtain rfl : r_1 = 1 := k_2
  have hP : va_P D vwCl [(h0, .inr (6, [g0, g1, g2, g3, g4, g5, g6, g7, g8]))] H := hP
  have hD : va_D A [(h0, .inr (6, [g0, g1, g2, g3, g4, g5, g6, g7, g8]))] := hD
  refine lv_if_ne (tgt := 10) hx hb dX7_poke_5 (by decide) (fun c => ?_) (fun c => absurd c (by decide))
  refine lv_iload_n hx hb dX7_poke_10 rfl (lv_at hl 3 rfl) ?_
  refine lv_if_lt (tgt := 21) hx hb dX7_poke_11 (by decide) (fun c => ?_) (fun c => absurd ((ti_lt (x := p2) (y := 0) (a := p2.toInt) (b := 0) rfl (by decide)).mpr (by omega)) c)
  refine lv_bipush (v := (-2)) hx hb dX7_poke_21 (by decide) ?_
  exact kr_i () hx hb hr hlocks (hP.sub [] rfl) (hD.sub [] (by decide) rfl) hS rfl dX7_poke_23
set_option maxHeartbeats 4000000 in
set_option maxRecDepth 100000 in
theorem K254_X8_in (l : Launch) (D : va_G) (cB cI cZ : ClassId) (sz : Nat)   (p0 : Int32) (i_p0 : p0.toInt ≤ (-1)) :
    CtI l D cB cI cZ yX8_in wsX8_in { frames := 0, cells := 0, slots := 0, locals := 0 } [.int p0, .int 0, .int 255] [] sz 0 0
      (fun (r : Int32) (u : Unit) => r = 0)
      (fun u => []) := by
  refine mk_metI (cc := cX8_in) (maxL := 3) (ret := (some .boolean)) (by decide) rfl (Nat.le_of_ble_eq_true rfl) ?_
  intro p e s m below meth c A hx hb hr hml hts hown hlocks hin hP hK hN hD hA hS ls hl
  have hown : s.vm.findClass RX8 = some m.cls := hown
  have hl : lv_has ls 3 [(0, .int p0), (1, .int 0), (2, .int 255)] := hl
  refine lv_iload_n hx hb dX8_in_0 rfl (lv_at hl 0 rfl) ?_
  refine lv_iload_n hx hb dX8_in_1 rfl (lv_at hl 1 rfl) ?_
  refine lv_icmp_lt (tgt := 14) hx hb dX8_in_2 (by decide) (fun c => ?_) (fun c => absurd ((ti_lt (x := p0) (y := 0) (a := p0.toInt) (b := 0) rfl (by decide)).mpr (by omega)) c)
  refine lv_iconst (v := 0) hx hb dX8_in_14 (by decide) ?_
  exact kr_z () hx hb hr rfl hlocks hP hD hS rfl dX8_in_15
set_option maxHeartbeats 4000000 in
set_option maxRecDepth 100000 in
theorem K253_X8_poke (l : Launch) (D : va_G) (cB cI cZ : ClassId) (sz : Nat) (h0 : Nat)  (p0 : Int32) (p1 : Int32) (p2 : Int32) (g0 : Value) (g1 : Value) (g2 : Value) (g3 : Value) (g4 : Value) (g5 : Value) (g6 : Value) (g7 : Value) (g8 : Value) (g9 : Value) (g10 : Value) (g11 : Value) (g12 : Value) (g13 : Value) (g14 : Value) (g15 : Value) (g16 : Value) (g17 : Value) (g18 : Value) (g19 : Value) (g20 : Value) (g21 : Value) (g22 : Value) (g23 : Value) (g24 : Value) (g25 : Value) (g26 : Value) (g27 : Value) (g28 : Value) (g29 : Value) (i_p0 : 0 ≤ p0.toInt ∧ p0.toInt ≤ 63) (i_p1 : 0 ≤ p1.toInt ∧ p1.toInt ≤ 1023) (i_p2 : p2.toInt ≤ (-1)) :
    CtI l D cB cI cZ yX8_poke wsX8_poke { frames := 1, cells := 0, slots := 0, locals := 22 } [.ref h0, .int p0, .int p1, .int p2] [(h0, .inr (7, [g0, g1, g2, g3, g4, g5, g6, g7, g8, g9, g10, g11, g12, g13, g14, g15, g16, g17, g18, g19, g20, g21, g22, g23, g24, g25, g26, g27, g28, g29]))] sz 0 0
      (fun (r : Int32) (u : Unit) => r = (-2))
      (fun u => []) := by
  refine mk_metI (cc := cX8_poke) (maxL := 4) (ret := (some .int)) (by decide) rfl (Nat.le_of_ble_eq_true rfl) ?_
  intro p e s m below meth c A hx hb hr hml hts hown hlocks hin hP hK hN hD hA hS ls hl
  have hown : s.vm.findClass RX8 = some m.cls := hown
  have hl : lv_has ls 4 [(0, .ref h0), (1, .int p0), (2, .int p1), (3, .int p2)] := hl
  refine lv_aload_n hx hb dX8_poke_0 rfl (lv_at hl 0 rfl) ?_
  refine lv_iconst (v := 0) hx hb dX8_poke_1 (by decide) ?_
  refine va_put (D := D) (ci := 7) (v := .int 0) (ty := .int) (C := RX8) (T := TX8) (N := 30) hx hb hts inX8_poke_X8 tyX8 tyX8_ok nmX8 hown hK hP hD hS 0 rfl rfl 0 (by decide) (hts _ wdX8_poke_0) (fun _ h9 => h9) rfl (by decide +kernel) rfl rfl (Nat.le_of_ble_eq_true rfl) dX8_poke_2 (fun H locs hP hD hS => ?_)
  have hP : va_P D vwCl [(h0, .inr (7, [.int 0, g1, g2, g3, g4, g5, g6, g7, g8, g9, g10, g11, g12, g13, g14, g15, g16, g17, g18, g19, g20, g21, g22, g23, g24, g25, g26, g27, g28, g29]))] H := hP
  have hD : va_D A [(h0, .inr (7, [.int 0, g1, g2, g3, g4, g5, g6, g7, g8, g9, g10, g11, g12, g13, g14, g15, g16, g17, g18, g19, g20, g21, g22, g23, g24, g25, g26, g27, g28, g29]))] := hD
  refine lv_iload_n hx hb dX8_poke_5 rfl (lv_at hl 1 rfl) ?_
  refine lv_iconst (v := 0) hx hb dX8_poke_6 (by decide) ?_
  refine lv_bipush (v := 63) hx hb dX8_poke_7 (by decide) ?_
  refine kc_i (wr := [(h0, .inr (7, [.int 0, g1, g2, g3, g4, g5, g6, g7, g8, g9, g10, g11, g12, g13, g14, g15, g16, g17, g18, g19, g20, g21, g22, g23, g24, g25, g26, g27, g28, g29]))]) (va_runS (As := [.int p0, .int 0, .int 63]) (rest := []) ⟨hx, hb, hml, hown, hts⟩ (K192_X8_in l D cB cI cZ _ p0 ⟨by omega, by omega⟩) (va_cwS 3 hts gX8_poke_X8_in rfl rfl rfl (by decide +kernel) ⟨Nat.le_of_ble_eq_true rfl, Nat.le_of_ble_eq_true rfl⟩) (pre_S (hP.sub [] rfl) hK hN (hD.sub [] (by decide) rfl)) rfl rfl hl.1 rfl (lv_room (Nat.le_of_ble_eq_true rfl)) dX8_poke_9 ⟨Nat.le_of_ble_eq_true rfl, Nat.le_of_ble_eq_true rfl⟩) hP hD hS hA [] [0] rfl rfl (by decide) (by decide) (fun r_1 u H locs hw hP hD hS => ?_)
  have k_2 := hw
  obtain rfl : r_1 = 1 := k_2
  have hP : va_P D vwCl [(h0, .inr (7, [.int 0, g1, g2, g3, g4, g5, g6, g7, g8, g9, g10, g11, g12, g13, g14, g15, g16, g17, g18, g19, g20, g21, g22, g23, g24, g25, g26, g27, g28, g29]))] H := hP
  have hD : va_D A [(h0, .inr (7, [.int 0, g1, g2, g3, g4, g5, g6, g7, g8, g9, g10, g11, g12, g13, g14, g15, g16, g17, g18, g19, g20, g21, g22, g23, g24, g25, g26, g27, g28, g29]))] := hD
  refine lv_if_eq (tgt := 26) hx hb dX8_poke_12 (by decide) (fun c => absurd c (by decide)) (fun c => ?_)
  refine lv_iload_n hx hb dX8_poke_15 rfl (lv_at hl 2 rfl) ?_
  refine lv_iconst (v := 0) hx hb dX8_poke_16 (by decide) ?_
  refine lv_sipush (v := 1023) hx hb dX8_poke_17 (by decide) ?_
  refine kc_i (wr := [(h0, .inr (7, [.int 0, g1, g2, g3, g4, g5, g6, g7, g8, g9, g10, g11, g12, g13, g14, g15, g16, g17, g18, g19, g20, g21, g22, g23, g24, g25, g26, g27, g28, g29]))]) (va_runS (As := [.int p1, .int 0, .int 1023]) (rest := []) ⟨hx, hb, hml, hown, hts⟩ (K242_X8_in l D cB cI cZ _ p1 ⟨by omega, by omega⟩) (va_cwS 3 hts gX8_poke_X8_in rfl rfl rfl (by decide +kernel) ⟨Nat.le_of_ble_eq_true rfl, Nat.le_of_ble_eq_true rfl⟩) (pre_S (hP.sub [] rfl) hK hN (hD.sub [] (by decide) rfl)) rfl rfl hl.1 rfl (lv_room (Nat.le_of_ble_eq_true rfl)) dX8_poke_20 ⟨Nat.le_of_ble_eq_true rfl, Nat.le_of_ble_eq_true rfl⟩) hP hD hS hA [] [0] rfl rfl (by decide) (by decide) (fun r_3 u H locs hw hP hD hS => ?_)
  have k_4 := hw
  obtain rfl : r_3 = 1 := k_4
  have hP : va_P D vwCl [(h0, .inr (7, [.int 0, g1, g2, g3, g4, g5, g6, g7, g8, g9, g10, g11, g12, g13, g14, g15, g16, g17, g18, g19, g20, g21, g22, g23, g24, g25, g26, g27, g28, g29]))] H := hP
  have hD : va_D A [(h0, .inr (7, [.int 0, g1, g2, g3, g4, g5, g6, g7, g8, g9, g10, g11, g12, g13, g14, g15, g16, g17, g18, g19, g20, g21, g22, g23, g24, g25, g26, g27, g28, g29]))] := hD
  refine lv_if_ne (tgt := 28) hx hb dX8_poke_23 (by decide) (fun c => ?_) (fun c => absurd c (by decide))
  refine lv_iload_n hx hb dX8_poke_28 rfl (lv_at hl 3 rfl) ?_
  refine lv_iconst (v := 0) hx hb dX8_poke_29 (by decide) ?_
  refine lv_sipush (v := 255) hx hb dX8_poke_30 (by decide) ?_
  refine kc_i (wr := [(h0, .inr (7, [.int 0, g1, g2, g3, g4, g5, g6, g7, g8, g9, g10, g11, g12, g13, g14, g15, g16, g17, g18, g19, g20, g21, g22, g23, g24, g25, g26, g27, g28, g29]))]) (va_runS (As := [.int p2, .int 0, .int 255]) (rest := []) ⟨hx, hb, hml, hown, hts⟩ (K254_X8_in l D cB cI cZ _ p2 (by omega)) (va_cwS 3 hts gX8_poke_X8_in rfl rfl rfl (by decide +kernel) ⟨Nat.le_of_ble_eq_true rfl, Nat.le_of_ble_eq_true rfl⟩) (pre_S (hP.sub [] rfl) hK hN (hD.sub [] (by decide) rfl)) rfl rfl hl.1 rfl (lv_room (Nat.le_of_ble_eq_true rfl)) dX8_poke_33 ⟨Nat.le_of_ble_eq_true rfl, Nat.le_of_ble_eq_true rfl⟩) hP hD hS hA [] [0] rfl rfl (by decide) (by decide) (fun r_5 u H locs hw hP hD hS => ?_)
  have k_6 := hw
  obtain rfl : r_5 = 0 := k_6
  have hP : va_P D vwCl [(h0, .inr (7, [.int 0, g1, g2, g3, g4, g5, g6, g7, g8, g9, g10, g11, g12, g13, g14, g15, g16, g17, g18, g19, g20, g21, g22, g23, g24, g25, g26, g27, g28, g29]))] H := hP
  have hD : va_D A [(h0, .inr (7, [.int 0, g1, g2, g3, g4, g5, g6, g7, g8, g9, g10, g11, g12, g13, g14, g15, g16, g17, g18, g19, g20, g21, g22, g23, g24, g25, g26, g27, g28, g29]))] := hD
  refine lv_if_ne (tgt := 42) hx hb dX8_poke_36 (by decide) (fun c => absurd (by decide) c) (fun c => ?_)
  refine lv_bipush (v := (-2)) hx hb dX8_poke_39 (by decide) ?_
  exact kr_i () hx hb hr hlocks (hP.sub [] rfl) (hD.sub [] (by decide) rfl) hS rfl dX8_poke_41
set_option maxHeartbeats 4000000 in
set_option maxRecDepth 100000 in
theorem K255_X7_poke (l : Launch) (D : va_G) (cB cI cZ : ClassId) (sz : Nat) (h0 : Nat)  (p0 : Int32) (p1 : Int32) (p2 : Int32) (g0 : Value) (g1 : Value) (g2 : Value) (g3 : Value) (g4 : Value) (g5 : Value) (g6 : Value) (g7 : Value) (g8 : Value) (i_p0 : 0 ≤ p0.toInt ∧ p0.toInt ≤ 63) (i_p1 : 0 ≤ p1.toInt ∧ p1.toInt ≤ 1023) (i_p2 : 256 ≤ p2.toInt) :
    CtI l D cB cI cZ yX7_poke wsX7_poke { frames := 1, cells := 0, slots := 0, locals := 21 } [.ref h0, .int p0, .int p1, .int p2] [(h0, .inr (6, [g0, g1, g2, g3, g4, g5, g6, g7, g8]))] sz 0 0
      (fun (r : Int32) (u : Unit) => r = (-2))
      (fun u => []) := by
  refine mk_metI (cc := cX7_poke) (maxL := 4) (ret := (some .int)) (by decide) rfl (Nat.le_of_ble_eq_true rfl) ?_
  intro p e s m below meth c A hx hb hr hml hts hown hlocks hin hP hK hN hD hA hS ls hl
  have hown : s.vm.findClass RX7 = some m.cls := hown
  have hl : lv_has ls 4 [(0, .ref h0), (1, .int p0), (2, .int p1), (3, .int p2)] := hl
  refine lv_iload_n hx hb dX7_poke_0 rfl (lv_at hl 1 rfl) ?_
  refine lv_iload_n hx hb dX7_poke_1 rfl (lv_at hl 2 rfl) ?_
  refine kc_i (wr := [(h0, .inr (6, [g0, g1, g2, g3, g4, g5, g6, g7, g8]))]) (va_runS (As := [.int p0, .int p1]) (rest := []) ⟨hx, hb, hml, hown, hts⟩ (K240_X7_isOctet l D cB cI cZ _ p0 p1 ⟨by omega, by omega⟩ ⟨by omega, by omega⟩) (va_cwS 2 hts gX7_poke_X7_isOctet rfl rfl rfl (by decide +kernel) ⟨Nat.le_of_ble_eq_true rfl, Nat.le_of_ble_eq_true rfl⟩) (pre_S (hP.sub [] rfl) hK hN (hD.sub [] (by decide) rfl)) rfl rfl hl.1 rfl (lv_room (Nat.le_of_ble_eq_true rfl)) dX7_poke_2 ⟨Nat.le_of_ble_eq_true rfl, Nat.le_of_ble_eq_true rfl⟩) hP hD hS hA [] [0] rfl rfl (by decide) (by decide) (fun r_1 u H locs hw hP hD hS => ?_)
  have k_2 := hw
  obtain rfl : r_1 = 1 := k_2
  have hP : va_P D vwCl [(h0, .inr (6, [g0, g1, g2, g3, g4, g5, g6, g7, g8]))] H := hP
  have hD : va_D A [(h0, .inr (6, [g0, g1, g2, g3, g4, g5, g6, g7, g8]))] := hD
  refine lv_if_ne (tgt := 10) hx hb dX7_poke_5 (by decide) (fun c => ?_) (fun c => absurd c (by decide))
  refine lv_iload_n hx hb dX7_poke_10 rfl (lv_at hl 3 rfl) ?_
  refine lv_if_lt (tgt := 21) hx hb dX7_poke_11 (by decide) (fun c => absurd ((ti_lt (x := p2) (y := 0) (a := p2.toInt) (b := 0) rfl (by decide)).mp c) (by omega)) (fun c => ?_)
  refine lv_iload_n hx hb dX7_poke_14 rfl (lv_at hl 3 rfl) ?_
  refine lv_sipush (v := 255) hx hb dX7_poke_15 (by decide) ?_
  refine lv_icmp_le (tgt := 24) hx hb dX7_poke_18 (by decide) (fun c => absurd ((ti_le (x := p2) (y := 255) (a := p2.toInt) (b := 255) rfl (by decide)).mp c) (by omega)) (fun c => ?_)
  refine lv_bipush (v := (-2)) hx hb dX7_poke_21 (by decide) ?_
  exact kr_i () hx hb hr hlocks (hP.sub [] rfl) (hD.sub [] (by decide) rfl) hS rfl dX7_poke_23
set_option maxHeartbeats 4000000 in
set_option maxRecDepth 100000 in
theorem K257_X8_in (l : Launch) (D : va_G) (cB cI cZ : ClassId) (sz : Nat)   (p0 : Int32) (i_p0 : 256 ≤ p0.toInt) :
    CtI l D cB cI cZ yX8_in wsX8_in { frames := 0, cells := 0, slots := 0, locals := 0 } [.int p0, .int 0, .int 255] [] sz 0 0
      (fun (r : Int32) (u : Unit) => r = 0)
      (fun u => []) := by
  refine mk_metI (cc := cX8_in) (maxL := 3) (ret := (some .boolean)) (by decide) rfl (Nat.le_of_ble_eq_true rfl) ?_
  intro p e s m below meth c A hx hb hr hml hts hown hlocks hin hP hK hN hD hA hS ls hl
  have hown : s.vm.findClass RX8 = some m.cls := hown
  have hl : lv_has ls 3 [(0, .int p0), (1, .int 0), (2, .int 255)] := hl
  refine lv_iload_n hx hb dX8_in_0 rfl (lv_at hl 0 rfl) ?_
  refine lv_iload_n hx hb dX8_in_1 rfl (lv_at hl 1 rfl) ?_
  refine lv_icmp_lt (tgt := 14) hx hb dX8_in_2 (by decide) (fun c => absurd ((ti_lt (x := p0) (y := 0) (a := p0.toInt) (b := 0) rfl (by decide)).mp c) (by omega)) (fun c => ?_)
  refine lv_iload_n hx hb dX8_in_5 rfl (lv_at hl 0 rfl) ?_
  refine lv_iload_n hx hb dX8_in_6 rfl (lv_at hl 2 rfl) ?_
  refine lv_icmp_gt (tgt := 14) hx hb dX8_in_7 (by decide) (fun c => ?_) (fun c => absurd ((ti_lt (x := 255) (y := p0) (a := 255) (b := p0.toInt) (by decide) rfl).mpr (by omega)) c)
  refine lv_iconst (v := 0) hx hb dX8_in_14 (by decide) ?_
  exact kr_z () hx hb hr rfl hlocks hP hD hS rfl dX8_in_15
set_option maxHeartbeats 4000000 in
set_option maxRecDepth 100000 in
theorem K256_X8_poke (l : Launch) (D : va_G) (cB cI cZ : ClassId) (sz : Nat) (h0 : Nat)  (p0 : Int32) (p1 : Int32) (p2 : Int32) (g0 : Value) (g1 : Value) (g2 : Value) (g3 : Value) (g4 : Value) (g5 : Value) (g6 : Value) (g7 : Value) (g8 : Value) (g9 : Value) (g10 : Value) (g11 : Value) (g12 : Value) (g13 : Value) (g14 : Value) (g15 : Value) (g16 : Value) (g17 : Value) (g18 : Value) (g19 : Value) (g20 : Value) (g21 : Value) (g22 : Value) (g23 : Value) (g24 : Value) (g25 : Value) (g26 : Value) (g27 : Value) (g28 : Value) (g29 : Value) (i_p0 : 0 ≤ p0.toInt ∧ p0.toInt ≤ 63) (i_p1 : 0 ≤ p1.toInt ∧ p1.toInt ≤ 1023) (i_p2 : 256 ≤ p2.toInt) :
    CtI l D cB cI cZ yX8_poke wsX8_poke { frames := 1, cells := 0, slots := 0, locals := 22 } [.ref h0, .int p0, .int p1, .int p2] [(h0, .inr (7, [g0, g1, g2, g3, g4, g5, g6, g7, g8, g9, g10, g11, g12, g13, g14, g15, g16, g17, g18, g19, g20, g21, g22, g23, g24, g25, g26, g27, g28, g29]))] sz 0 0
      (fun (r : Int32) (u : Unit) => r = (-2))
      (fun u => []) := by
  refine mk_metI (cc := cX8_poke) (maxL := 4) (ret := (some .int)) (by decide) rfl (Nat.le_of_ble_eq_true rfl) ?_
  intro p e s m below meth c A hx hb hr hml hts hown hlocks hin hP hK hN hD hA hS ls hl
  have hown : s.vm.findClass RX8 = some m.cls := hown
  have hl : lv_has ls 4 [(0, .ref h0), (1, .int p0), (2, .int p1), (3, .int p2)] := hl
  refine lv_aload_n hx hb dX8_poke_0 rfl (lv_at hl 0 rfl) ?_
  refine lv_iconst (v := 0) hx hb dX8_poke_1 (by decide) ?_
  refine va_put (D := D) (ci := 7) (v := .int 0) (ty := .int) (C := RX8) (T := TX8) (N := 30) hx hb hts inX8_poke_X8 tyX8 tyX8_ok nmX8 hown hK hP hD hS 0 rfl rfl 0 (by decide) (hts _ wdX8_poke_0) (fun _ h9 => h9) rfl (by decide +kernel) rfl rfl (Nat.le_of_ble_eq_true rfl) dX8_poke_2 (fun H locs hP hD hS => ?_)
  have hP : va_P D vwCl [(h0, .inr (7, [.int 0, g1, g2, g3, g4, g5, g6, g7, g8, g9, g10, g11, g12, g13, g14, g15, g16, g17, g18, g19, g20, g21, g22, g23, g24, g25, g26, g27, g28, g29]))] H := hP
  have hD : va_D A [(h0, .inr (7, [.int 0, g1, g2, g3, g4, g5, g6, g7, g8, g9, g10, g11, g12, g13, g14, g15, g16, g17, g18, g19, g20, g21, g22, g23, g24, g25, g26, g27, g28, g29]))] := hD
  refine lv_iload_n hx hb dX8_poke_5 rfl (lv_at hl 1 rfl) ?_
  refine lv_iconst (v := 0) hx hb dX8_poke_6 (by decide) ?_
  refine lv_bipush (v := 63) hx hb dX8_poke_7 (by decide) ?_
  refine kc_i (wr := [(h0, .inr (7, [.int 0, g1, g2, g3, g4, g5, g6, g7, g8, g9, g10, g11, g12, g13, g14, g15, g16, g17, g18, g19, g20, g21, g22, g23, g24, g25, g26, g27, g28, g29]))]) (va_runS (As := [.int p0, .int 0, .int 63]) (rest := []) ⟨hx, hb, hml, hown, hts⟩ (K192_X8_in l D cB cI cZ _ p0 ⟨by omega, by omega⟩) (va_cwS 3 hts gX8_poke_X8_in rfl rfl rfl (by decide +kernel) ⟨Nat.le_of_ble_eq_true rfl, Nat.le_of_ble_eq_true rfl⟩) (pre_S (hP.sub [] rfl) hK hN (hD.sub [] (by decide) rfl)) rfl rfl hl.1 rfl (lv_room (Nat.le_of_ble_eq_true rfl)) dX8_poke_9 ⟨Nat.le_of_ble_eq_true rfl, Nat.le_of_ble_eq_true rfl⟩) hP hD hS hA [] [0] rfl rfl (by decide) (by decide) (fun r_1 u H locs hw hP hD hS => ?_)
  have k_2 := hw
  obtain rfl : r_1 = 1 := k_2
  have hP : va_P D vwCl [(h0, .inr (7, [.int 0, g1, g2, g3, g4, g5, g6, g7, g8, g9, g10, g11, g12, g13, g14, g15, g16, g17, g18, g19, g20, g21, g22, g23, g24, g25, g26, g27, g28, g29]))] H := hP
  have hD : va_D A [(h0, .inr (7, [.int 0, g1, g2, g3, g4, g5, g6, g7, g8, g9, g10, g11, g12, g13, g14, g15, g16, g17, g18, g19, g20, g21, g22, g23, g24, g25, g26, g27, g28, g29]))] := hD
  refine lv_if_eq (tgt := 26) hx hb dX8_poke_12 (by decide) (fun c => absurd c (by decide)) (fun c => ?_)
  refine lv_iload_n hx hb dX8_poke_15 rfl (lv_at hl 2 rfl) ?_
  refine lv_iconst (v := 0) hx hb dX8_poke_16 (by decide) ?_
  refine lv_sipush (v := 1023) hx hb dX8_poke_17 (by decide) ?_
  refine kc_i (wr := [(h0, .inr (7, [.int 0, g1, g2, g3, g4, g5, g6, g7, g8, g9, g10, g11, g12, g13, g14, g15, g16, g17, g18, g19, g20, g21, g22, g23, g24, g25, g26, g27, g28, g29]))]) (va_runS (As := [.int p1, .int 0, .int 1023]) (rest := []) ⟨hx, hb, hml, hown, hts⟩ (K242_X8_in l D cB cI cZ _ p1 ⟨by omega, by omega⟩) (va_cwS 3 hts gX8_poke_X8_in rfl rfl rfl (by decide +kernel) ⟨Nat.le_of_ble_eq_true rfl, Nat.le_of_ble_eq_true rfl⟩) (pre_S (hP.sub [] rfl) hK hN (hD.sub [] (by decide) rfl)) rfl rfl hl.1 rfl (lv_room (Nat.le_of_ble_eq_true rfl)) dX8_poke_20 ⟨Nat.le_of_ble_eq_true rfl, Nat.le_of_ble_eq_true rfl⟩) hP hD hS hA [] [0] rfl rfl (by decide) (by decide) (fun r_3 u H locs hw hP hD hS => ?_)
  have k_4 := hw
  obtain rfl : r_3 = 1 := k_4
  have hP : va_P D vwCl [(h0, .inr (7, [.int 0, g1, g2, g3, g4, g5, g6, g7, g8, g9, g10, g11, g12, g13, g14, g15, g16, g17, g18, g19, g20, g21, g22, g23, g24, g25, g26, g27, g28, g29]))] H := hP
  have hD : va_D A [(h0, .inr (7, [.int 0, g1, g2, g3, g4, g5, g6, g7, g8, g9, g10, g11, g12, g13, g14, g15, g16, g17, g18, g19, g20, g21, g22, g23, g24, g25, g26, g27, g28, g29]))] := hD
  refine lv_if_ne (tgt := 28) hx hb dX8_poke_23 (by decide) (fun c => ?_) (fun c => absurd c (by decide))
  refine lv_iload_n hx hb dX8_poke_28 rfl (lv_at hl 3 rfl) ?_
  refine lv_iconst (v := 0) hx hb dX8_poke_29 (by decide) ?_
  refine lv_sipush (v := 255) hx hb dX8_poke_30 (by decide) ?_
  refine kc_i (wr := [(h0, .inr (7, [.int 0, g1, g2, g3, g4, g5, g6, g7, g8, g9, g10, g11, g12, g13, g14, g15, g16, g17, g18, g19, g20, g21, g22, g23, g24, g25, g26, g27, g28, g29]))]) (va_runS (As := [.int p2, .int 0, .int 255]) (rest := []) ⟨hx, hb, hml, hown, hts⟩ (K257_X8_in l D cB cI cZ _ p2 (by omega)) (va_cwS 3 hts gX8_poke_X8_in rfl rfl rfl (by decide +kernel) ⟨Nat.le_of_ble_eq_true rfl, Nat.le_of_ble_eq_true rfl⟩) (pre_S (hP.sub [] rfl) hK hN (hD.sub [] (by decide) rfl)) rfl rfl hl.1 rfl (lv_room (Nat.le_of_ble_eq_true rfl)) dX8_poke_33 ⟨Nat.le_of_ble_eq_true rfl, Nat.le_of_ble_eq_true rfl⟩) hP hD hS hA [] [0] rfl rfl (by decide) (by decide) (fun r_5 u H locs hw hP hD hS => ?_)
  have k_6 := hw
  obtain rfl : r_5 = 0 := k_6
  have hP : va_P D vwCl [(h0, .inr (7, [.int 0, g1, g2, g3, g4, g5, g6, g7, g8, g9, g10, g11, g12, g13, g14, g15, g16, g17, g18, g19, g20, g21, g22, g23, g24, g25, g26, g27, g28, g29]))] H := hP
  have hD : va_D A [(h0, .inr (7, [.int 0, g1, g2, g3, g4, g5, g6, g7, g8, g9, g10, g11, g12, g13, g14, g15, g16, g17, g18, g19, g20, g21, g22, g23, g24, g25, g26, g27, g28, g29]))] := hD
  refine lv_if_ne (tgt := 42) hx hb dX8_poke_36 (by decide) (fun c => absurd (by decide) c) (fun c => ?_)
  refine lv_bipush (v := (-2)) hx hb dX8_poke_39 (by decide) ?_
  exact kr_i () hx hb hr hlocks (hP.sub [] rfl) (hD.sub [] (by decide) rfl) hS rfl dX8_poke_41
set_option maxHeartbeats 4000000 in
set_option maxRecDepth 100000 in
theorem K260_X4_number (l : Launch) (D : va_G) (cB cI cZ : ClassId) (sz : Nat) (h0 : Nat)  (p0 : Int32) (f0 : Nat → Int32) (i_p0 : 0 ≤ p0.toInt ∧ p0.toInt ≤ 65535) (b_f0 : FB f0) :
    CtI l D cB cI cZ yX4_number wsX4_number { frames := 1, cells := 0, slots := 0, locals := 22 } [.ref h0, .int p0, .int 1] [(h0, .inl (cB, 65536, .inl f0))] sz 0 0
      (fun (r : Int32) (u : Unit) => (r = 0 ||| (f0 (Int32.toNatClampNeg p0) &&& 255)))
      (fun u => [(h0, .inl (cB, 65536, .inl f0))]) := by
  refine mk_metI (cc := cX4_number) (maxL := 5) (ret := (some .int)) (by decide) rfl (Nat.le_of_ble_eq_true rfl) ?_
  intro p e s m below meth c A hx hb hr hml hts hown hlocks hin hP hK hN hD hA hS ls hl
  have hown : s.vm.findClass RX4 = some m.cls := hown
  have hl : lv_has ls 5 [(0, .ref h0), (1, .int p0), (2, .int 1)] := hl
  refine lv_aload_n hx hb dX4_number_0 rfl (lv_at hl 0 rfl) ?_
  refine lv_iload_n hx hb dX4_number_1 rfl (lv_at hl 1 rfl) ?_
  refine lv_iload_n hx hb dX4_number_2 rfl (lv_at hl 2 rfl) ?_
  refine kc_i (wr := []) (va_runS (As := [.ref h0, .int p0, .int 1]) (rest := []) ⟨hx, hb, hml, hown, hts⟩ (K62_X4_isWithin l D cB cI cZ _ h0 p0 f0 ⟨by omega, by omega⟩ b_f0) (va_cwS 3 hts gX4_number_X4_isWithin rfl rfl rfl (by decide +kernel) ⟨Nat.le_of_ble_eq_true rfl, Nat.le_of_ble_eq_true rfl⟩) (pre_S (hP.sub [0] rfl) hK hN (hD.sub [0] (by decide) rfl)) rfl rfl hl.1 rfl (lv_room (Nat.le_of_ble_eq_true rfl)) dX4_number_3 ⟨Nat.le_of_ble_eq_true rfl, Nat.le_of_ble_eq_true rfl⟩) hP hD hS hA [0] [] rfl rfl (by decide) (by decide) (fun r_1 u H locs hw hP hD hS => ?_)
  have k_2 := hw
  obtain rfl : r_1 = 1 := k_2
  have hP : va_P D vwCl [(h0, .inl (cB, 65536, .inl f0))] H := hP
  have hD : va_D A [(h0, .inl (cB, 65536, .inl f0))] := hD
  refine lv_if_ne (tgt := 11) hx hb dX4_number_6 (by decide) (fun c => ?_) (fun c => absurd c (by decide))
  refine lv_iconst (v := 0) hx hb dX4_number_11 (by decide) ?_
  refine lv_istore_n (lv' := [(3, .int 0), (0, .ref h0), (1, .int p0), (2, .int 1)]) hx hb dX4_number_12 rfl hl (by decide) rfl (fun ls hl => ?_)
  refine lv_iload_n hx hb dX4_number_13 rfl (lv_at hl 2 rfl) ?_
  refine lv_istore (lv' := [(4, .int p0), (3, .int 0), (0, .ref h0), (1, .int p0), (2, .int 1)]) hx hb dX4_number_14 hl (by decide) rfl (fun ls hl => ?_)
  refine lv_iload hx hb dX4_number_16 (lv_at hl 0 rfl) ?_
  refine lv_iload_n hx hb dX4_number_18 rfl (lv_at hl 3 rfl) ?_
  refine lv_iload_n hx hb dX4_number_19 rfl (lv_at hl 4 rfl) ?_
  refine lv_iadd hx hb dX4_number_20 ?_
  refine lv_topi (fun x_3 ex_3 => ?_)
  have tx_3 : x_3.toInt = p0.toInt + 1 := by rw [ex_3]; exact ti_add rfl (by decide) (by omega) (by omega)
  refine lv_icmp_ge (tgt := 44) hx hb dX4_number_21 (by decide) (fun c => absurd ((ti_le (x := x_3) (y := p0) (a := x_3.toInt) (b := p0.toInt) rfl rfl).mp c) (by omega)) (fun c => ?_)
  refine lv_iload_n hx hb dX4_number_24 rfl (lv_at hl 1 rfl) ?_
  refine lv_bipush (v := 8) hx hb dX4_number_25 (by decide) ?_
  refine lv_ishl hx hb dX4_number_27 ?_
  refine lv_topi (fun z_4 ez_4 => ?_)
  obtain rfl : z_4 = 0 := ez_4.trans (by decide)
  refine lv_aload_n hx hb dX4_number_28 rfl (lv_at hl 2 rfl) ?_
  refine lv_iload hx hb dX4_number_29 (lv_at hl 0 rfl) ?_
  refine va_bald hx hb hK hP 0 0 rfl rfl (ti_in (a := p0.toInt) rfl (by omega) (by omega)) dX4_number_31 ?_
  refine lv_topi (fun x_5 ex_5 => ?_)
  refine lv_sipush (v := 255) hx hb dX4_number_32 (by decide) ?_
  refine lv_iand hx hb dX4_number_35 ?_
  refine lv_topi (fun x_6 ex_6 => ?_)
  refine lv_ior hx hb dX4_number_36 ?_
  refine lv_topi (fun x_7 ex_7 => ?_)
  refine lv_istore_n (lv' := [(3, .int x_7), (4, .int p0), (0, .ref h0), (1, .int p0), (2, .int 1)]) hx hb dX4_number_37 rfl hl (by decide) rfl (fun ls hl => ?_)
  obtain ⟨x_8, ex_8⟩ : ∃ y : Int32, y = p0 + 1 := ⟨_, rfl⟩
  have tx_8 : x_8.toInt = p0.toInt + 1 := by rw [ex_8]; exact ti_add rfl (by decide) (by omega) (by omega)
  refine lv_iinc (v := x_8) (lv' := [(4, .int x_8), (3, .int x_7), (0, .ref h0), (1, .int p0), (2, .int 1)]) hx hb dX4_number_38 hl (k := 1) rfl (by rw [ex_8]; rfl) (by decide) rfl (fun ls hl => ?_)
  refine lv_goto (tgt := 16) hx hb dX4_number_41 (by decide) ?_
  refine lv_iload hx hb dX4_number_16 (lv_at hl 0 rfl) ?_
  refine lv_iload_n hx hb dX4_number_18 rfl (lv_at hl 3 rfl) ?_
  refine lv_iload_n hx hb dX4_number_19 rfl (lv_at hl 4 rfl) ?_
  refine lv_iadd hx hb dX4_number_20 ?_
  refine lv_topi (fun x_9 ex_9 => ?_)
  have tx_9 : x_9.toInt = p0.toInt + 1 := by rw [ex_9]; exact ti_add rfl (by decide) (by omega) (by omega)
  refine lv_icmp_ge (tgt := 44) hx hb dX4_number_21 (by decide) (fun c => ?_) (fun c => absurd ((ti_le (x := x_9) (y := x_8) (a := x_9.toInt) (b := x_8.toInt) rfl rfl).mpr (by omega)) c)
  refine lv_iload_n hx hb dX4_number_44 rfl (lv_at hl 1 rfl) ?_
  exact kr_i () hx hb hr hlocks hP hD hS (by rw [ex_7, ex_6, ex_5]) dX4_number_45
set_option maxHeartbeats 4000000 in
set_option maxRecDepth 100000 in
theorem K259_X1_flip (l : Launch) (D : va_G) (cB cI cZ : ClassId) (sz : Nat) (h0 : Nat) (h1 : Nat)  (p0 : Int32) (p1 : Int32) (g0 : Value) (g1 : Value) (g2 : Value) (g3 : Value) (i_p0 : 0 ≤ p0.toInt ∧ p0.toInt ≤ 65535) (i_p1 : 0 ≤ p1.toInt ∧ p1.toInt ≤ 255) :
    CtI l D cB cI cZ yX1_flip wsX1_flip { frames := 2, cells := 0, slots := 0, locals := 47 } [.ref h0, .int p0, .int p1] [(h0, .inr (1, [.ref h1, g0, g1, g2, g3])), (h1, .inl (cB, 65536, .inl zf))] sz 0 0
      (fun (r : Int32) (u : (Nat → Int32)) => r.toInt = p1.toInt + 0 ∧ FB u)
      (fun u => [(h0, .inr (1, [.ref h1, g0, g1, g2, g3])), (h1, .inl (cB, 65536, .inl u))]) := by
  refine mk_metI (cc := cX1_flip) (maxL := 3) (ret := (some .int)) (by decide) rfl (Nat.le_of_ble_eq_true rfl) ?_
  intro p e s m below meth c A hx hb hr hml hts hown hlocks hin hP hK hN hD hA hS ls hl
  have hown : s.vm.findClass RX1 = some m.cls := hown
  have hl : lv_has ls 3 [(0, .ref h0), (1, .int p0), (2, .int p1)] := hl
  refine lv_aload_n hx hb dX1_flip_0 rfl (lv_at hl 0 rfl) ?_
  refine va_get (D := D) (ci := 1) (v := .ref h1) (C := RX1) (T := TX1) (N := 5) hx hb hts inX1_flip_X1 hown hK hP 0 rfl rfl 0 (by decide) (hts _ wdX1_flip_0) (fun _ h9 => h9) rfl dX1_flip_1 ?_
  refine lv_iload_n hx hb dX1_flip_4 rfl (lv_at hl 1 rfl) ?_
  refine lv_iconst (v := 1) hx hb dX1_flip_5 (by decide) ?_
  refine lv_aload_n hx hb dX1_flip_6 rfl (lv_at hl 0 rfl) ?_
  refine va_get (D := D) (ci := 1) (v := .ref h1) (C := RX1) (T := TX1) (N := 5) hx hb hts inX1_flip_X1 hown hK hP 0 rfl rfl 0 (by decide) (hts _ wdX1_flip_0) (fun _ h9 => h9) rfl dX1_flip_7 ?_
  refine lv_iload_n hx hb dX1_flip_10 rfl (lv_at hl 1 rfl) ?_
  refine lv_iconst (v := 1) hx hb dX1_flip_11 (by decide) ?_
  refine kc_i (wr := [(h0, .inr (1, [.ref h1, g0, g1, g2, g3]))]) (va_runS (As := [.ref h1, .int p0, .int 1]) (rest := [.int 1, .int p0, .ref h1]) ⟨hx, hb, hml, hown, hts⟩ (K206_X4_number l D cB cI cZ _ h1 p0 ⟨by omega, by omega⟩) (va_cwS 3 hts gX1_flip_X4_number rfl rfl rfl (by decide +kernel) ⟨Nat.le_of_ble_eq_true rfl, Nat.le_of_ble_eq_true rfl⟩) (pre_S (hP.sub [1] rfl) hK hN (hD.sub [1] (by decide) rfl)) rfl rfl hl.1 rfl (lv_room (Nat.le_of_ble_eq_true rfl)) dX1_flip_12 ⟨Nat.le_of_ble_eq_true rfl, Nat.le_of_ble_eq_true rfl⟩) hP hD hS hA [1] [0] rfl rfl (by decide) (by decide) (fun r_1 u H locs hw hP hD hS => ?_)
  have k_2 := hw
  obtain rfl : r_1 = 0 := k_2
  have hP : va_P D vwCl [(h0, .inr (1, [.ref h1, g0, g1, g2, g3])), (h1, .inl (cB, 65536, .inl zf))] H := hP
  have hD : va_D A [(h0, .inr (1, [.ref h1, g0, g1, g2, g3])), (h1, .inl (cB, 65536, .inl zf))] := hD
  refine lv_iload_n hx hb dX1_flip_15 rfl (lv_at hl 2 rfl) ?_
  refine lv_ixor hx hb dX1_flip_16 ?_
  refine lv_topi (fun x_3 ex_3 => ?_)
  refine kc_v (wr := [(h0, .inr (1, [.ref h1, g0, g1, g2, g3]))]) (va_runS (As := [.ref h1, .int p0, .int 1, .int x_3]) (rest := []) ⟨hx, hb, hml, hown, hts⟩ (K59_X4_setNumber l D cB cI cZ _ h1 p0 x_3 ⟨by omega, by omega⟩) (va_cwS 4 hts gX1_flip_X4_setNumber rfl rfl rfl (by decide +kernel) ⟨Nat.le_of_ble_eq_true rfl, Nat.le_of_ble_eq_true rfl⟩) (pre_S (hP.sub [1] rfl) hK hN (hD.sub [1] (by decide) rfl)) rfl rfl hl.1 rfl (lv_room (Nat.le_of_ble_eq_true rfl)) dX1_flip_17 ⟨Nat.le_of_ble_eq_true rfl, Nat.le_of_ble_eq_true rfl⟩) hP hD hS hA [1] [0] rfl rfl (by decide) (by decide) (fun  u H locs hw hP hD hS => ?_)
  obtain ⟨f_4, rfl⟩ : ∃ z, z = u := ⟨_, rfl⟩
  obtain ⟨bf_4, ek_5⟩ := hw
  have bf_4 : FB f_4 := bf_4
  have hP : va_P D vwCl [(h0, .inr (1, [.ref h1, g0, g1, g2, g3])), (h1, .inl (cB, 65536, .inl f_4))] H := hP
  have hD : va_D A [(h0, .inr (1, [.ref h1, g0, g1, g2, g3])), (h1, .inl (cB, 65536, .inl f_4))] := hD
  refine lv_aload_n hx hb dX1_flip_20 rfl (lv_at hl 0 rfl) ?_
  refine va_get (D := D) (ci := 1) (v := .ref h1) (C := RX1) (T := TX1) (N := 5) hx hb hts inX1_flip_X1 hown hK hP 0 rfl rfl 0 (by decide) (hts _ wdX1_flip_0) (fun _ h9 => h9) rfl dX1_flip_21 ?_
  refine lv_iload_n hx hb dX1_flip_24 rfl (lv_at hl 1 rfl) ?_
  refine lv_iconst (v := 1) hx hb dX1_flip_25 (by decide) ?_
  refine kc_i (wr := [(h0, .inr (1, [.ref h1, g0, g1, g2, g3]))]) (va_runS (As := [.ref h1, .int p0, .int 1]) (rest := []) ⟨hx, hb, hml, hown, hts⟩ (K260_X4_number l D cB cI cZ _ h1 p0 f_4 ⟨by omega, by omega⟩ bf_4) (va_cwS 3 hts gX1_flip_X4_number rfl rfl rfl (by decide +kernel) ⟨Nat.le_of_ble_eq_true rfl, Nat.le_of_ble_eq_true rfl⟩) (pre_S (hP.sub [1] rfl) hK hN (hD.sub [1] (by decide) rfl)) rfl rfl hl.1 rfl (lv_room (Nat.le_of_ble_eq_true rfl)) dX1_flip_26 ⟨Nat.le_of_ble_eq_true rfl, Nat.le_of_ble_eq_true rfl⟩) hP hD hS hA [1] [0] rfl rfl (by decide) (by decide) (fun r_6 u H locs hw hP hD hS => ?_)
  have ek_7 := hw
  have hP : va_P D vwCl [(h0, .inr (1, [.ref h1, g0, g1, g2, g3])), (h1, .inl (cB, 65536, .inl f_4))] H := hP
  have hD : va_D A [(h0, .inr (1, [.ref h1, g0, g1, g2, g3])), (h1, .inl (cB, 65536, .inl f_4))] := hD
  exact kr_i f_4 hx hb hr hlocks hP hD hS ⟨(by have h9 : r_6 = p1 := (by rw [ek_7, ek_5, pk_us, ex_3]; exact fl_1 (by omega) (by omega)); rw [h9]; omega), bf_4⟩ dX1_flip_29
set_option maxHeartbeats 4000000 in
set_option maxRecDepth 100000 in
theorem K258_X7_poke (l : Launch) (D : va_G) (cB cI cZ : ClassId) (sz : Nat) (h0 : Nat) (h1 : Nat) (h2 : Nat)  (p0 : Int32) (p1 : Int32) (p2 : Int32) (g0 : Value) (g1 : Value) (g2 : Value) (g3 : Value) (g4 : Value) (g5 : Value) (g6 : Value) (g7 : Value) (g8 : Value) (g9 : Value) (g10 : Value) (g11 : Value) (i_p0 : 0 ≤ p0.toInt ∧ p0.toInt ≤ 63) (i_p1 : 0 ≤ p1.toInt ∧ p1.toInt ≤ 1023) (i_p2 : 0 ≤ p2.toInt ∧ p2.toInt ≤ 255) :
    CtI l D cB cI cZ yX7_poke wsX7_poke { frames := 3, cells := 0, slots := 0, locals := 69 } [.ref h0, .int p0, .int p1, .int p2] [(h0, .inr (6, [.ref h1, g0, g1, g2, g3, g4, g5, g6, g7])), (h1, .inr (1, [.ref h2, g8, g9, g10, g11])), (h2, .inl (cB, 65536, .inl zf))] sz 0 0
      (fun (r : Int32) (u : Unit) => r.toInt = p2.toInt + 0)
      (fun u => []) := by
  refine mk_metI (cc := cX7_poke) (maxL := 4) (ret := (some .int)) (by decide) rfl (Nat.le_of_ble_eq_true rfl) ?_
  intro p e s m below meth c A hx hb hr hml hts hown hlocks hin hP hK hN hD hA hS ls hl
  have hown : s.vm.findClass RX7 = some m.cls := hown
  have hl : lv_has ls 4 [(0, .ref h0), (1, .int p0), (2, .int p1), (3, .int p2)] := hl
  refine lv_iload_n hx hb dX7_poke_0 rfl (lv_at hl 1 rfl) ?_
  refine lv_iload_n hx hb dX7_poke_1 rfl (lv_at hl 2 rfl) ?_
  refine kc_i (wr := [(h0, .inr (6, [.ref h1, g0, g1, g2, g3, g4, g5, g6, g7])), (h1, .inr (1, [.ref h2, g8, g9, g10, g11])), (h2, .inl (cB, 65536, .inl zf))]) (va_runS (As := [.int p0, .int p1]) (rest := []) ⟨hx, hb, hml, hown, hts⟩ (K240_X7_isOctet l D cB cI cZ _ p0 p1 ⟨by omega, by omega⟩ ⟨by omega, by omega⟩) (va_cwS 2 hts gX7_poke_X7_isOctet rfl rfl rfl (by decide +kernel) ⟨Nat.le_of_ble_eq_true rfl, Nat.le_of_ble_eq_true rfl⟩) (pre_S (hP.sub [] rfl) hK hN (hD.sub [] (by decide) rfl)) rfl rfl hl.1 rfl (lv_room (Nat.le_of_ble_eq_true rfl)) dX7_poke_2 ⟨Nat.le_of_ble_eq_true rfl, Nat.le_of_ble_eq_true rfl⟩) hP hD hS hA [] [0, 1, 2] rfl rfl (by decide) (by decide) (fun r_1 u H locs hw hP hD hS => ?_)
  have k_2 := hw
  obtain rfl : r_1 = 1 := k_2
  have hP : va_P D vwCl [(h0, .inr (6, [.ref h1, g0, g1, g2, g3, g4, g5, g6, g7])), (h1, .inr (1, [.ref h2, g8, g9, g10, g11])), (h2, .inl (cB, 65536, .inl zf))] H := hP
  have hD : va_D A [(h0, .inr (6, [.ref h1, g0, g1, g2, g3, g4, g5, g6, g7])), (h1, .inr (1, [.ref h2, g8, g9, g10, g11])), (h2, .inl (cB, 65536, .inl zf))] := hD
  refine lv_if_ne (tgt := 10) hx hb dX7_poke_5 (by decide) (fun c => ?_) (fun c => absurd c (by decide))
  refine lv_iload_n hx hb dX7_poke_10 rfl (lv_at hl 3 rfl) ?_
  refine lv_if_lt (tgt := 21) hx hb dX7_poke_11 (by decide) (fun c => absurd ((ti_lt (x := p2) (y := 0) (a := p2.toInt) (b := 0) rfl (by decide)).mp c) (by omega)) (fun c => ?_)
  refine lv_iload_n hx hb dX7_poke_14 rfl (lv_at hl 3 rfl) ?_
  refine lv_sipush (v := 255) hx hb dX7_poke_15 (by decide) ?_
  refine lv_icmp_le (tgt := 24) hx hb dX7_poke_18 (by decide) (fun c => ?_) (fun c => absurd ((ti_le (x := p2) (y := 255) (a := p2.toInt) (b := 255) rfl (by decide)).mpr (by omega)) c)
  refine lv_aload_n hx hb dX7_poke_24 rfl (lv_at hl 0 rfl) ?_
  refine va_get (D := D) (ci := 6) (v := .ref h1) (C := RX7) (T := TX7) (N := 9) hx hb hts inX7_poke_X7 hown hK hP 0 rfl rfl 0 (by decide) (hts _ wdX7_poke_0) (fun _ h9 => h9) rfl dX7_poke_25 ?_
  refine lv_iload_n hx hb dX7_poke_28 rfl (lv_at hl 1 rfl) ?_
  refine lv_sipush (v := 1024) hx hb dX7_poke_29 (by decide) ?_
  refine lv_imul hx hb dX7_poke_32 ?_
  refine lv_topi (fun x_3 ex_3 => ?_)
  have tx_3 : x_3.toInt = p0.toInt * 1024 := by rw [ex_3]; exact ti_mul rfl (by decide) (by omega) (by omega)
  refine lv_iload_n hx hb dX7_poke_33 rfl (lv_at hl 2 rfl) ?_
  refine lv_iadd hx hb dX7_poke_34 ?_
  refine lv_topi (fun x_4 ex_4 => ?_)
  have tx_4 : x_4.toInt = x_3.toInt + p1.toInt := by rw [ex_4]; exact ti_add rfl rfl (by omega) (by omega)
  refine lv_iload_n hx hb dX7_poke_35 rfl (lv_at hl 3 rfl) ?_
  refine kc_i (wr := [(h0, .inr (6, [.ref h1, g0, g1, g2, g3, g4, g5, g6, g7]))]) (va_runV (As := [.int x_4, .int p2]) (rest := []) ⟨hx, hb, hml, hown, hts⟩ (K259_X1_flip l D cB cI cZ _ h1 h2 x_4 p2 (g8) (g9) (g10) (g11) ⟨by omega, by omega⟩ ⟨by omega, by omega⟩) (cwV 2 hts gX7_poke_X1_flip rfl rfl rfl (by decide +kernel) ⟨Nat.le_of_ble_eq_true rfl, Nat.le_of_ble_eq_true rfl⟩) (pre_V (q := (RX1, TX1, 5)) (ci := 1) (q0 := 0) (hP.sub [1, 2] rfl) hK hN (hD.sub [1, 2] (by decide) rfl) rfl rfl) rfl rfl hl.1 rfl (lv_room (Nat.le_of_ble_eq_true rfl)) dX7_poke_36 ⟨Nat.le_of_ble_eq_true rfl, Nat.le_of_ble_eq_true rfl⟩) hP hD hS hA [1, 2] [0] rfl rfl (by decide) (by decide) (fun r_5 u H locs hw hP hD hS => ?_)
  obtain ⟨f_6, rfl⟩ : ∃ z, z = u := ⟨_, rfl⟩
  obtain ⟨k_7, bf_6⟩ := hw
  have k_7 : r_5.toInt = p2.toInt + 0 := k_7
  have bf_6 : FB f_6 := bf_6
  have hP : va_P D vwCl [(h0, .inr (6, [.ref h1, g0, g1, g2, g3, g4, g5, g6, g7])), (h1, .inr (1, [.ref h2, g8, g9, g10, g11])), (h2, .inl (cB, 65536, .inl f_6))] H := hP
  have hD : va_D A [(h0, .inr (6, [.ref h1, g0, g1, g2, g3, g4, g5, g6, g7])), (h1, .inr (1, [.ref h2, g8, g9, g10, g11])), (h2, .inl (cB, 65536, .inl f_6))] := hD
  exact kr_i () hx hb hr hlocks (hP.sub [] rfl) (hD.sub [] (by decide) rfl) hS (by first | omega | (show Int32.toInt r_5 = Int32.toInt p2 + 0; omega) | decide) dX7_poke_39
set_option maxHeartbeats 4000000 in
set_option maxRecDepth 100000 in
theorem K262_X8_in (l : Launch) (D : va_G) (cB cI cZ : ClassId) (sz : Nat)   (p0 : Int32) (i_p0 : 0 ≤ p0.toInt ∧ p0.toInt ≤ 255) :
    CtI l D cB cI cZ yX8_in wsX8_in { frames := 0, cells := 0, slots := 0, locals := 0 } [.int p0, .int 0, .int 255] [] sz 0 0
      (fun (r : Int32) (u : Unit) => r = 1)
      (fun u => []) := by
  refine mk_metI (cc := cX8_in) (maxL := 3) (ret := (some .boolean)) (by decide) rfl (Nat.le_of_ble_eq_true rfl) ?_
  intro p e s m below meth c A hx hb hr hml hts hown hlocks hin hP hK hN hD hA hS ls hl
  have hown : s.vm.findClass RX8 = some m.cls := hown
  have hl : lv_has ls 3 [(0, .int p0), (1, .int 0), (2, .int 255)] := hl
  refine lv_iload_n hx hb dX8_in_0 rfl (lv_at hl 0 rfl) ?_
  refine lv_iload_n hx hb dX8_in_1 rfl (lv_at hl 1 rfl) ?_
  refine lv_icmp_lt (tgt := 14) hx hb dX8_in_2 (by decide) (fun c => absurd ((ti_lt (x := p0) (y := 0) (a := p0.toInt) (b := 0) rfl (by decide)).mp c) (by omega)) (fun c => ?_)
  refine lv_iload_n hx hb dX8_in_5 rfl (lv_at hl 0 rfl) ?_
  refine lv_iload_n hx hb dX8_in_6 rfl (lv_at hl 2 rfl) ?_
  refine lv_icmp_gt (tgt := 14) hx hb dX8_in_7 (by decide) (fun c => absurd ((ti_lt (x := 255) (y := p0) (a := 255) (b := p0.toInt) (by decide) rfl).mp c) (by omega)) (fun c => ?_)
  refine lv_iconst (v := 1) hx hb dX8_in_10 (by decide) ?_
  refine lv_goto (tgt := 15) hx hb dX8_in_11 (by decide) ?_
  exact kr_z () hx hb hr rfl hlocks hP hD hS rfl dX8_in_15
set_option maxHeartbeats 4000000 in
set_option maxRecDepth 100000 in
theorem K261_X8_poke (l : Launch) (D : va_G) (cB cI cZ : ClassId) (sz : Nat) (h0 : Nat) (h1 : Nat)  (p0 : Int32) (p1 : Int32) (p2 : Int32) (g0 : Value) (g1 : Value) (g2 : Value) (g3 : Value) (g4 : Value) (g5 : Value) (g6 : Value) (g7 : Value) (g8 : Value) (g9 : Value) (g10 : Value) (g11 : Value) (g12 : Value) (g13 : Value) (g14 : Value) (g15 : Value) (g16 : Value) (g17 : Value) (g18 : Value) (g19 : Value) (g20 : Value) (g21 : Value) (g22 : Value) (g23 : Value) (g24 : Value) (g25 : Value) (g26 : Value) (g27 : Value) (g28 : Value) (i_p0 : 0 ≤ p0.toInt ∧ p0.toInt ≤ 63) (i_p1 : 0 ≤ p1.toInt ∧ p1.toInt ≤ 1023) (i_p2 : 0 ≤ p2.toInt ∧ p2.toInt ≤ 255) :
    CtI l D cB cI cZ yX8_poke wsX8_poke { frames := 1, cells := 0, slots := 0, locals := 22 } [.ref h0, .int p0, .int p1, .int p2] [(h0, .inr (7, [g0, g1, .ref h1, g2, g3, g4, g5, g6, g7, g8, g9, g10, g11, g12, g13, g14, g15, g16, g17, g18, g19, g20, g21, g22, g23, g24, g25, g26, g27, g28])), (h1, .inl (cB, 65536, .inl zf))] sz 0 0
      (fun (r : Int32) (u : Unit) => r.toInt = p2.toInt + 0)
      (fun u => []) := by
  refine mk_metI (cc := cX8_poke) (maxL := 4) (ret := (some .int)) (by decide) rfl (Nat.le_of_ble_eq_true rfl) ?_
  intro p e s m below meth c A hx hb hr hml hts hown hlocks hin hP hK hN hD hA hS ls hl
  have hown : s.vm.findClass RX8 = some m.cls := hown
  have hl : lv_has ls 4 [(0, .ref h0), (1, .int p0), (2, .int p1), (3, .int p2)] := hl
  refine lv_aload_n hx hb dX8_poke_0 rfl (lv_at hl 0 rfl) ?_
  refine lv_iconst (v := 0) hx hb dX8_poke_1 (by decide) ?_
  refine va_put (D := D) (ci := 7) (v := .int 0) (ty := .int) (C := RX8) (T := TX8) (N := 30) hx hb hts inX8_poke_X8 tyX8 tyX8_ok nmX8 hown hK hP hD hS 0 rfl rfl 0 (by decide) (hts _ wdX8_poke_0) (fun _ h9 => h9) rfl (by decide +kernel) rfl rfl (Nat.le_of_ble_eq_true rfl) dX8_poke_2 (fun H locs hP hD hS => ?_)
  have hP : va_P D vwCl [(h0, .inr (7, [.int 0, g1, .ref h1, g2, g3, g4, g5, g6, g7, g8, g9, g10, g11, g12, g13, g14, g15, g16, g17, g18, g19, g20, g21, g22, g23, g24, g25, g26, g27, g28])), (h1, .inl (cB, 65536, .inl zf))] H := hP
  have hD : va_D A [(h0, .inr (7, [.int 0, g1, .ref h1, g2, g3, g4, g5, g6, g7, g8, g9, g10, g11, g12, g13, g14, g15, g16, g17, g18, g19, g20, g21, g22, g23, g24, g25, g26, g27, g28])), (h1, .inl (cB, 65536, .inl zf))] := hD
  refine lv_iload_n hx hb dX8_poke_5 rfl (lv_at hl 1 rfl) ?_
  refine lv_iconst (v := 0) hx hb dX8_poke_6 (by decide) ?_
  refine lv_bipush (v := 63) hx hb dX8_poke_7 (by decide) ?_
  refine kc_i (wr := [(h0, .inr (7, [.int 0, g1, .ref h1, g2, g3, g4, g5, g6, g7, g8, g9, g10, g11, g12, g13, g14, g15, g16, g17, g18, g19, g20, g21, g22, g23, g24, g25, g26, g27, g28])), (h1, .inl (cB, 65536, .inl zf))]) (va_runS (As := [.int p0, .int 0, .int 63]) (rest := []) ⟨hx, hb, hml, hown, hts⟩ (K192_X8_in l D cB cI cZ _ p0 ⟨by omega, by omega⟩) (va_cwS 3 hts gX8_poke_X8_in rfl rfl rfl (by decide +kernel) ⟨Nat.le_of_ble_eq_true rfl, Nat.le_of_ble_eq_true rfl⟩) (pre_S (hP.sub [] rfl) hK hN (hD.sub [] (by decide) rfl)) rfl rfl hl.1 rfl (lv_room (Nat.le_of_ble_eq_true rfl)) dX8_poke_9 ⟨Nat.le_of_ble_eq_true rfl, Nat.le_of_ble_eq_true rfl⟩) hP hD hS hA [] [0, 1] rfl rfl (by decide) (by decide) (fun r_1 u H locs hw hP hD hS => ?_)
  have k_2 := hw
  obtain rfl : r_1 = 1 := k_2
  have hP : va_P D vwCl [(h0, .inr (7, [.int 0, g1, .ref h1, g2, g3, g4, g5, g6, g7, g8, g9, g10, g11, g12, g13, g14, g15, g16, g17, g18, g19, g20, g21, g22, g23, g24, g25, g26, g27, g28])), (h1, .inl (cB, 65536, .inl zf))] H := hP
  have hD : va_D A [(h0, .inr (7, [.int 0, g1, .ref h1, g2, g3, g4, g5, g6, g7, g8, g9, g10, g11, g12, g13, g14, g15, g16, g17, g18, g19, g20, g21, g22, g23, g24, g25, g26, g27, g28])), (h1, .inl (cB, 65536, .inl zf))] := hD
  refine lv_if_eq (tgt := 26) hx hb dX8_poke_12 (by decide) (fun c => absurd c (by decide)) (fun c => ?_)
  refine lv_iload_n hx hb dX8_poke_15 rfl (lv_at hl 2 rfl) ?_
  refine lv_iconst (v := 0) hx hb dX8_poke_16 (by decide) ?_
  refine lv_sipush (v := 1023) hx hb dX8_poke_17 (by decide) ?_
  refine kc_i (wr := [(h0, .inr (7, [.int 0, g1, .ref h1, g2, g3, g4, g5, g6, g7, g8, g9, g10, g11, g12, g13, g14, g15, g16, g17, g18, g19, g20, g21, g22, g23, g24, g25, g26, g27, g28])), (h1, .inl (cB, 65536, .inl zf))]) (va_runS (As := [.int p1, .int 0, .int 1023]) (rest := []) ⟨hx, hb, hml, hown, hts⟩ (K242_X8_in l D cB cI cZ _ p1 ⟨by omega, by omega⟩) (va_cwS 3 hts gX8_poke_X8_in rfl rfl rfl (by decide +kernel) ⟨Nat.le_of_ble_eq_true rfl, Nat.le_of_ble_eq_true rfl⟩) (pre_S (hP.sub [] rfl) hK hN (hD.sub [] (by decide) rfl)) rfl rfl hl.1 rfl (lv_room (Nat.le_of_ble_eq_true rfl)) dX8_poke_20 ⟨Nat.le_of_ble_eq_true rfl, Nat.le_of_ble_eq_true rfl⟩) hP hD hS hA [] [0, 1] rfl rfl (by decide) (by decide) (fun r_3 u H locs hw hP hD hS => ?_)
  have k_4 := hw
  obtain rfl : r_3 = 1 := k_4
  have hP : va_P D vwCl [(h0, .inr (7, [.int 0, g1, .ref h1, g2, g3, g4, g5, g6, g7, g8, g9, g10, g11, g12, g13, g14, g15, g16, g17, g18, g19, g20, g21, g22, g23, g24, g25, g26, g27, g28])), (h1, .inl (cB, 65536, .inl zf))] H := hP
  have hD : va_D A [(h0, .inr (7, [.int 0, g1, .ref h1, g2, g3, g4, g5, g6, g7, g8, g9, g10, g11, g12, g13, g14, g15, g16, g17, g18, g19, g20, g21, g22, g23, g24, g25, g26, g27, g28])), (h1, .inl (cB, 65536, .inl zf))] := hD
  refine lv_if_ne (tgt := 28) hx hb dX8_poke_23 (by decide) (fun c => ?_) (fun c => absurd c (by decide))
  refine lv_iload_n hx hb dX8_poke_28 rfl (lv_at hl 3 rfl) ?_
  refine lv_iconst (v := 0) hx hb dX8_poke_29 (by decide) ?_
  refine lv_sipush (v := 255) hx hb dX8_poke_30 (by decide) ?_
  refine kc_i (wr := [(h0, .inr (7, [.int 0, g1, .ref h1, g2, g3, g4, g5, g6, g7, g8, g9, g10, g11, g12, g13, g14, g15, g16, g17, g18, g19, g20, g21, g22, g23, g24, g25, g26, g27, g28])), (h1, .inl (cB, 65536, .inl zf))]) (va_runS (As := [.int p2, .int 0, .int 255]) (rest := []) ⟨hx, hb, hml, hown, hts⟩ (K262_X8_in l D cB cI cZ _ p2 ⟨by omega, by omega⟩) (va_cwS 3 hts gX8_poke_X8_in rfl rfl rfl (by decide +kernel) ⟨Nat.le_of_ble_eq_true rfl, Nat.le_of_ble_eq_true rfl⟩) (pre_S (hP.sub [] rfl) hK hN (hD.sub [] (by decide) rfl)) rfl rfl hl.1 rfl (lv_room (Nat.le_of_ble_eq_true rfl)) dX8_poke_33 ⟨Nat.le_of_ble_eq_true rfl, Nat.le_of_ble_eq_true rfl⟩) hP hD hS hA [] [0, 1] rfl rfl (by decide) (by decide) (fun r_5 u H locs hw hP hD hS => ?_)
  have k_6 := hw
  obtain rfl : r_5 = 1 := k_6
  have hP : va_P D vwCl [(h0, .inr (7, [.int 0, g1, .ref h1, g2, g3, g4, g5, g6, g7, g8, g9, g10, g11, g12, g13, g14, g15, g16, g17, g18, g19, g20, g21, g22, g23, g24, g25, g26, g27, g28])), (h1, .inl (cB, 65536, .inl zf))] H := hP
  have hD : va_D A [(h0, .inr (7, [.int 0, g1, .ref h1, g2, g3, g4, g5, g6, g7, g8, g9, g10, g11, g12, g13, g14, g15, g16, g17, g18, g19, g20, g21, g22, g23, g24, g25, g26, g27, g28])), (h1, .inl (cB, 65536, .inl zf))] := hD
  refine lv_if_ne (tgt := 42) hx hb dX8_poke_36 (by decide) (fun c => ?_) (fun c => absurd c (by decide))
  refine lv_aload_n hx hb dX8_poke_42 rfl (lv_at hl 0 rfl) ?_
  refine va_get (D := D) (ci := 7) (v := .ref h1) (C := RX8) (T := TX8) (N := 30) hx hb hts inX8_poke_X8 hown hK hP 0 rfl rfl 2 (by decide) (hts _ wdX8_poke_1) (fun _ h9 => h9) rfl dX8_poke_43 ?_
  refine lv_iload_n hx hb dX8_poke_46 rfl (lv_at hl 1 rfl) ?_
  refine lv_iload_n hx hb dX8_poke_47 rfl (lv_at hl 2 rfl) ?_
  refine kc_i (wr := [(h0, .inr (7, [.int 0, g1, .ref h1, g2, g3, g4, g5, g6, g7, g8, g9, g10, g11, g12, g13, g14, g15, g16, g17, g18, g19, g20, g21, g22, g23, g24, g25, g26, g27, g28])), (h1, .inl (cB, 65536, .inl zf))]) (va_runS (As := [.int p0, .int p1]) (rest := [.ref h1]) ⟨hx, hb, hml, hown, hts⟩ (K243_X8_at l D cB cI cZ _ p0 p1 ⟨by omega, by omega⟩ ⟨by omega, by omega⟩) (va_cwS 2 hts gX8_poke_X8_at rfl rfl rfl (by decide +kernel) ⟨Nat.le_of_ble_eq_true rfl, Nat.le_of_ble_eq_true rfl⟩) (pre_S (hP.sub [] rfl) hK hN (hD.sub [] (by decide) rfl)) rfl rfl hl.1 rfl (lv_room (Nat.le_of_ble_eq_true rfl)) dX8_poke_48 ⟨Nat.le_of_ble_eq_true rfl, Nat.le_of_ble_eq_true rfl⟩) hP hD hS hA [] [0, 1] rfl rfl (by decide) (by decide) (fun r_7 u H locs hw hP hD hS => ?_)
  obtain ⟨k_8, k_9, ek_10⟩ := hw
  have k_8 : 0 ≤ r_7.toInt := k_8
  have k_9 : r_7.toInt ≤ 65535 := k_9
  have hP : va_P D vwCl [(h0, .inr (7, [.int 0, g1, .ref h1, g2, g3, g4, g5, g6, g7, g8, g9, g10, g11, g12, g13, g14, g15, g16, g17, g18, g19, g20, g21, g22, g23, g24, g25, g26, g27, g28])), (h1, .inl (cB, 65536, .inl zf))] H := hP
  have hD : va_D A [(h0, .inr (7, [.int 0, g1, .ref h1, g2, g3, g4, g5, g6, g7, g8, g9, g10, g11, g12, g13, g14, g15, g16, g17, g18, g19, g20, g21, g22, g23, g24, g25, g26, g27, g28])), (h1, .inl (cB, 65536, .inl zf))] := hD
  refine lv_dup2_11 hx hb dX8_poke_51 rfl rfl ?_
  refine va_bald hx hb hK hP 1 0 rfl rfl (ti_in (a := r_7.toInt) rfl (by omega) (by omega)) dX8_poke_52 ?_
  refine lv_topi (fun z_11 ez_11 => ?_)
  obtain rfl : z_11 = 0 := ez_11
  refine lv_iload_n hx hb dX8_poke_53 rfl (lv_at hl 3 rfl) ?_
  refine lv_i2b hx hb dX8_poke_54 rfl ?_
  refine lv_topi (fun x_12 ex_12 => ?_)
  refine lv_ixor hx hb dX8_poke_55 ?_
  refine lv_topi (fun x_13 ex_13 => ?_)
  refine lv_i2b hx hb dX8_poke_56 rfl ?_
  refine lv_topi (fun x_14 ex_14 => ?_)
  refine va_bast hx hb hK hP hD hS 1 0 rfl rfl (ti_in (a := r_7.toInt) rfl (by omega) (by omega)) dX8_poke_57 (fun H locs hP hD hS => ?_)
  obtain ⟨f_15, ef_15⟩ : ∃ g : Nat → Int32, g = upd zf (Int32.toNatClampNeg r_7) (vp_nar .byte x_14) := ⟨_, rfl⟩
  rw [← ef_15] at hP hD
  have bf_15 : FB f_15 := by rw [ef_15]; exact FB_upd FB_zf _ _
  have hP : va_P D vwCl [(h0, .inr (7, [.int 0, g1, .ref h1, g2, g3, g4, g5, g6, g7, g8, g9, g10, g11, g12, g13, g14, g15, g16, g17, g18, g19, g20, g21, g22, g23, g24, g25, g26, g27, g28])), (h1, .inl (cB, 65536, .inl f_15))] H := hP
  have hD : va_D A [(h0, .inr (7, [.int 0, g1, .ref h1, g2, g3, g4, g5, g6, g7, g8, g9, g10, g11, g12, g13, g14, g15, g16, g17, g18, g19, g20, g21, g22, g23, g24, g25, g26, g27, g28])), (h1, .inl (cB, 65536, .inl f_15))] := hD
  refine lv_aload_n hx hb dX8_poke_58 rfl (lv_at hl 0 rfl) ?_
  refine va_get (D := D) (ci := 7) (v := .ref h1) (C := RX8) (T := TX8) (N := 30) hx hb hts inX8_poke_X8 hown hK hP 0 rfl rfl 2 (by decide) (hts _ wdX8_poke_1) (fun _ h9 => h9) rfl dX8_poke_59 ?_
  refine lv_iload_n hx hb dX8_poke_62 rfl (lv_at hl 1 rfl) ?_
  refine lv_iload_n hx hb dX8_poke_63 rfl (lv_at hl 2 rfl) ?_
  refine kc_i (wr := [(h0, .inr (7, [.int 0, g1, .ref h1, g2, g3, g4, g5, g6, g7, g8, g9, g10, g11, g12, g13, g14, g15, g16, g17, g18, g19, g20, g21, g22, g23, g24, g25, g26, g27, g28])), (h1, .inl (cB, 65536, .inl f_15))]) (va_runS (As := [.int p0, .int p1]) (rest := [.ref h1]) ⟨hx, hb, hml, hown, hts⟩ (K243_X8_at l D cB cI cZ _ p0 p1 ⟨by omega, by omega⟩ ⟨by omega, by omega⟩) (va_cwS 2 hts gX8_poke_X8_at rfl rfl rfl (by decide +kernel) ⟨Nat.le_of_ble_eq_true rfl, Nat.le_of_ble_eq_true rfl⟩) (pre_S (hP.sub [] rfl) hK hN (hD.sub [] (by decide) rfl)) rfl rfl hl.1 rfl (lv_room (Nat.le_of_ble_eq_true rfl)) dX8_poke_64 ⟨Nat.le_of_ble_eq_true rfl, Nat.le_of_ble_eq_true rfl⟩) hP hD hS hA [] [0, 1] rfl rfl (by decide) (by decide) (fun r_16 u H locs hw hP hD hS => ?_)
  obtain ⟨k_17, k_18, ek_19⟩ := hw
  have k_17 : 0 ≤ r_16.toInt := k_17
  have k_18 : r_16.toInt ≤ 65535 := k_18
  have hP : va_P D vwCl [(h0, .inr (7, [.int 0, g1, .ref h1, g2, g3, g4, g5, g6, g7, g8, g9, g10, g11, g12, g13, g14, g15, g16, g17, g18, g19, g20, g21, g22, g23, g24, g25, g26, g27, g28])), (h1, .inl (cB, 65536, .inl f_15))] H := hP
  have hD : va_D A [(h0, .inr (7, [.int 0, g1, .ref h1, g2, g3, g4, g5, g6, g7, g8, g9, g10, g11, g12, g13, g14, g15, g16, g17, g18, g19, g20, g21, g22, g23, g24, g25, g26, g27, g28])), (h1, .inl (cB, 65536, .inl f_15))] := hD
  refine va_bald hx hb hK hP 1 0 rfl rfl (ti_in (a := r_16.toInt) rfl (by omega) (by omega)) dX8_poke_67 ?_
  refine lv_topi (fun x_20 ex_20 => ?_)
  refine lv_sipush (v := 255) hx hb dX8_poke_68 (by decide) ?_
  refine lv_iand hx hb dX8_poke_71 ?_
  refine lv_topi (fun x_21 ex_21 => ?_)
  exact kr_i () hx hb hr hlocks (hP.sub [] rfl) (hD.sub [] (by decide) rfl) hS (by have h9 : x_21 = p2 := (by rw [ex_21, ex_20, show r_16 = r_7 from ti_inj (a := r_7.toInt) rfl (by omega), ef_15, pk_us, ex_14, ex_13, ex_12]; exact fl_2 (by omega) (by omega)); rw [h9]; omega) dX8_poke_72
set_option maxHeartbeats 4000000 in
set_option maxRecDepth 100000 in
theorem K264_X7_isOfLog (l : Launch) (D : va_G) (cB cI cZ : ClassId) (sz : Nat)   (p0 : Int32) (i_p0 : p0.toInt ≤ 7) :
    CtI l D cB cI cZ yX7_isOfLog wsX7_isOfLog { frames := 0, cells := 0, slots := 0, locals := 0 } [.int p0] [] sz 0 0
      (fun (r : Int32) (u : Unit) => r = 0)
      (fun u => []) := by
  refine mk_metI (cc := cX7_isOfLog) (maxL := 1) (ret := (some .boolean)) (by decide) rfl (Nat.le_of_ble_eq_true rfl) ?_
  intro p e s m below meth c A hx hb hr hml hts hown hlocks hin hP hK hN hD hA hS ls hl
  have hown : s.vm.findClass RX7 = some m.cls := hown
  have hl : lv_has ls 1 [(0, .int p0)] := hl
  refine lv_iload_n hx hb dX7_isOfLog_0 rfl (lv_at hl 0 rfl) ?_
  refine lv_bipush (v := 8) hx hb dX7_isOfLog_1 (by decide) ?_
  refine lv_icmp_lt (tgt := 16) hx hb dX7_isOfLog_3 (by decide) (fun c => ?_) (fun c => absurd ((ti_lt (x := p0) (y := 8) (a := p0.toInt) (b := 8) rfl (by decide)).mpr (by omega)) c)
  refine lv_iconst (v := 0) hx hb dX7_isOfLog_16 (by decide) ?_
  exact kr_z () hx hb hr rfl hlocks hP hD hS rfl dX7_isOfLog_17
set_option maxHeartbeats 4000000 in
set_option maxRecDepth 100000 in
theorem K263_X7_segment (l : Launch) (D : va_G) (cB cI cZ : ClassId) (sz : Nat) (h0 : Nat)  (p0 : Int32) (p1 : Int32) (g0 : Value) (g1 : Value) (g2 : Value) (g3 : Value) (g4 : Value) (g5 : Value) (g6 : Value) (g7 : Value) (i_p0 : p0.toInt ≤ 7) :
    CtI l D cB cI cZ yX7_segment wsX7_segment { frames := 1, cells := 0, slots := 0, locals := 20 } [.ref h0, .int p0, .int p1] [(h0, .inr (6, [g0, g1, g2, g3, g4, g5, g6, g7, .int 0]))] sz 0 0
      (fun (r : Int32) (u : Unit) => r = (-1))
      (fun u => []) := by
  refine mk_metI (cc := cX7_segment) (maxL := 3) (ret := (some .int)) (by decide) rfl (Nat.le_of_ble_eq_true rfl) ?_
  intro p e s m below meth c A hx hb hr hml hts hown hlocks hin hP hK hN hD hA hS ls hl
  have hown : s.vm.findClass RX7 = some m.cls := hown
  have hl : lv_has ls 3 [(0, .ref h0), (1, .int p0), (2, .int p1)] := hl
  refine lv_aload_n hx hb dX7_segment_0 rfl (lv_at hl 0 rfl) ?_
  refine va_get (D := D) (ci := 6) (v := .int 0) (C := RX7) (T := TX7) (N := 9) hx hb hts inX7_segment_X7 hown hK hP 0 rfl rfl 8 (by decide) (hts _ wdX7_segment_0) (fun _ h9 => h9) rfl dX7_segment_1 ?_
  refine lv_if_eq (tgt := 10) hx hb dX7_segment_4 (by decide) (fun c => ?_) (fun c => absurd (by decide) c)
  refine lv_iload_n hx hb dX7_segment_10 rfl (lv_at hl 1 rfl) ?_
  refine kc_i (wr := [(h0, .inr (6, [g0, g1, g2, g3, g4, g5, g6, g7, .int 0]))]) (va_runS (As := [.int p0]) (rest := []) ⟨hx, hb, hml, hown, hts⟩ (K264_X7_isOfLog l D cB cI cZ _ p0 (by omega)) (va_cwS 1 hts gX7_segment_X7_isOfLog rfl rfl rfl (by decide +kernel) ⟨Nat.le_of_ble_eq_true rfl, Nat.le_of_ble_eq_true rfl⟩) (pre_S (hP.sub [] rfl) hK hN (hD.sub [] (by decide) rfl)) rfl rfl hl.1 rfl (lv_room (Nat.le_of_ble_eq_true rfl)) dX7_segment_11 ⟨Nat.le_of_ble_eq_true rfl, Nat.le_of_ble_eq_true rfl⟩) hP hD hS hA [] [0] rfl rfl (by decide) (by decide) (fun r_1 u H locs hw hP hD hS => ?_)
  have k_2 := hw
  obtain rfl : r_1 = 0 := k_2
  have hP : va_P D vwCl [(h0, .inr (6, [g0, g1, g2, g3, g4, g5, g6, g7, .int 0]))] H := hP
  have hD : va_D A [(h0, .inr (6, [g0, g1, g2, g3, g4, g5, g6, g7, .int 0]))] := hD
  refine lv_if_ne (tgt := 19) hx hb dX7_segment_14 (by decide) (fun c => absurd (by decide) c) (fun c => ?_)
  refine lv_iconst (v := (-1)) hx hb dX7_segment_17 (by decide) ?_
  exact kr_i () hx hb hr hlocks (hP.sub [] rfl) (hD.sub [] (by decide) rfl) hS rfl dX7_segment_18
set_option maxHeartbeats 4000000 in
set_option maxRecDepth 100000 in
theorem K266_X8_in (l : Launch) (D : va_G) (cB cI cZ : ClassId) (sz : Nat)   (p0 : Int32) (i_p0 : p0.toInt ≤ 7) :
    CtI l D cB cI cZ yX8_in wsX8_in { frames := 0, cells := 0, slots := 0, locals := 0 } [.int p0, .int 8, .int 63] [] sz 0 0
      (fun (r : Int32) (u : Unit) => r = 0)
      (fun u => []) := by
  refine mk_metI (cc := cX8_in) (maxL := 3) (ret := (some .boolean)) (by decide) rfl (Nat.le_of_ble_eq_true rfl) ?_
  intro p e s m below meth c A hx hb hr hml hts hown hlocks hin hP hK hN hD hA hS ls hl
  have hown : s.vm.findClass RX8 = some m.cls := hown
  have hl : lv_has ls 3 [(0, .int p0), (1, .int 8), (2, .int 63)] := hl
  refine lv_iload_n hx hb dX8_in_0 rfl (lv_at hl 0 rfl) ?_
  refine lv_iload_n hx hb dX8_in_1 rfl (lv_at hl 1 rfl) ?_
  refine lv_icmp_lt (tgt := 14) hx hb dX8_in_2 (by decide) (fun c => ?_) (fun c => absurd ((ti_lt (x := p0) (y := 8) (a := p0.toInt) (b := 8) rfl (by decide)).mpr (by omega)) c)
  refine lv_iconst (v := 0) hx hb dX8_in_14 (by decide) ?_
  exact kr_z () hx hb hr rfl hlocks hP hD hS rfl dX8_in_15
set_option maxHeartbeats 4000000 in
set_option maxRecDepth 100000 in
theorem K265_X8_segment (l : Launch) (D : va_G) (cB cI cZ : ClassId) (sz : Nat) (h0 : Nat)  (p0 : Int32) (p1 : Int32) (g0 : Value) (g1 : Value) (g2 : Value) (g3 : Value) (g4 : Value) (g5 : Value) (g6 : Value) (g7 : Value) (g8 : Value) (g9 : Value) (g10 : Value) (g11 : Value) (g12 : Value) (g13 : Value) (g14 : Value) (g15 : Value) (g16 : Value) (g17 : Value) (g18 : Value) (g19 : Value) (g20 : Value) (g21 : Value) (g22 : Value) (g23 : Value) (g24 : Value) (g25 : Value) (g26 : Value) (g27 : Value) (g28 : Value) (i_p0 : p0.toInt ≤ 7) :
    CtI l D cB cI cZ yX8_segment wsX8_segment { frames := 1, cells := 0, slots := 0, locals := 22 } [.ref h0, .int p0, .int p1] [(h0, .inr (7, [g0, .int 0, g1, g2, g3, g4, g5, g6, g7, g8, g9, g10, g11, g12, g13, g14, g15, g16, g17, g18, g19, g20, g21, g22, g23, g24, g25, g26, g27, g28]))] sz 0 0
      (fun (r : Int32) (u : Unit) => r = (-1))
      (fun u => []) := by
  refine mk_metI (cc := cX8_segment) (maxL := 3) (ret := (some .int)) (by decide) rfl (Nat.le_of_ble_eq_true rfl) ?_
  intro p e s m below meth c A hx hb hr hml hts hown hlocks hin hP hK hN hD hA hS ls hl
  have hown : s.vm.findClass RX8 = some m.cls := hown
  have hl : lv_has ls 3 [(0, .ref h0), (1, .int p0), (2, .int p1)] := hl
  refine lv_aload_n hx hb dX8_segment_0 rfl (lv_at hl 0 rfl) ?_
  refine lv_iconst (v := 0) hx hb dX8_segment_1 (by decide) ?_
  refine va_put (D := D) (ci := 7) (v := .int 0) (ty := .int) (C := RX8) (T := TX8) (N := 30) hx hb hts inX8_segment_X8 tyX8 tyX8_ok nmX8 hown hK hP hD hS 0 rfl rfl 0 (by decide) (hts _ wdX8_segment_0) (fun _ h9 => h9) rfl (by decide +kernel) rfl rfl (Nat.le_of_ble_eq_true rfl) dX8_segment_2 (fun H locs hP hD hS => ?_)
  have hP : va_P D vwCl [(h0, .inr (7, [.int 0, .int 0, g1, g2, g3, g4, g5, g6, g7, g8, g9, g10, g11, g12, g13, g14, g15, g16, g17, g18, g19, g20, g21, g22, g23, g24, g25, g26, g27, g28]))] H := hP
  have hD : va_D A [(h0, .inr (7, [.int 0, .int 0, g1, g2, g3, g4, g5, g6, g7, g8, g9, g10, g11, g12, g13, g14, g15, g16, g17, g18, g19, g20, g21, g22, g23, g24, g25, g26, g27, g28]))] := hD
  refine lv_aload_n hx hb dX8_segment_5 rfl (lv_at hl 0 rfl) ?_
  refine va_get (D := D) (ci := 7) (v := .int 0) (C := RX8) (T := TX8) (N := 30) hx hb hts inX8_segment_X8 hown hK hP 0 rfl rfl 1 (by decide) (hts _ wdX8_segment_1) (fun _ h9 => h9) rfl dX8_segment_6 ?_
  refine lv_if_eq (tgt := 15) hx hb dX8_segment_9 (by decide) (fun c => ?_) (fun c => absurd (by decide) c)
  refine lv_iload_n hx hb dX8_segment_15 rfl (lv_at hl 1 rfl) ?_
  refine lv_bipush (v := 8) hx hb dX8_segment_16 (by decide) ?_
  refine lv_bipush (v := 63) hx hb dX8_segment_18 (by decide) ?_
  refine kc_i (wr := [(h0, .inr (7, [.int 0, .int 0, g1, g2, g3, g4, g5, g6, g7, g8, g9, g10, g11, g12, g13, g14, g15, g16, g17, g18, g19, g20, g21, g22, g23, g24, g25, g26, g27, g28]))]) (va_runS (As := [.int p0, .int 8, .int 63]) (rest := []) ⟨hx, hb, hml, hown, hts⟩ (K266_X8_in l D cB cI cZ _ p0 (by omega)) (va_cwS 3 hts gX8_segment_X8_in rfl rfl rfl (by decide +kernel) ⟨Nat.le_of_ble_eq_true rfl, Nat.le_of_ble_eq_true rfl⟩) (pre_S (hP.sub [] rfl) hK hN (hD.sub [] (by decide) rfl)) rfl rfl hl.1 rfl (lv_room (Nat.le_of_ble_eq_true rfl)) dX8_segment_20 ⟨Nat.le_of_ble_eq_true rfl, Nat.le_of_ble_eq_true rfl⟩) hP hD hS hA [] [0] rfl rfl (by decide) (by decide) (fun r_1 u H locs hw hP hD hS => ?_)
  have k_2 := hw
  obtain rfl : r_1 = 0 := k_2
  have hP : va_P D vwCl [(h0, .inr (7, [.int 0, .int 0, g1, g2, g3, g4, g5, g6, g7, g8, g9, g10, g11, g12, g13, g14, g15, g16, g17, g18, g19, g20, g21, g22, g23, g24, g25, g26, g27, g28]))] H := hP
  have hD : va_D A [(h0, .inr (7, [.int 0, .int 0, g1, g2, g3, g4, g5, g6, g7, g8, g9, g10, g11, g12, g13, g14, g15, g16, g17, g18, g19, g20, g21, g22, g23, g24, g25, g26, g27, g28]))] := hD
  refine lv_if_ne (tgt := 28) hx hb dX8_segment_23 (by decide) (fun c => absurd (by decide) c) (fun c => ?_)
  refine lv_iconst (v := (-1)) hx hb dX8_segment_26 (by decide) ?_
  exact kr_i () hx hb hr hlocks (hP.sub [] rfl) (hD.sub [] (by decide) rfl) hS rfl dX8_segment_27
set_option maxHeartbeats 4000000 in
set_option maxRecDepth 100000 in
theorem K268_X7_isOfLog (l : Launch) (D : va_G) (cB cI cZ : ClassId) (sz : Nat)   (p0 : Int32) (i_p0 : 64 ≤ p0.toInt) :
    CtI l D cB cI cZ yX7_isOfLog wsX7_isOfLog { frames := 0, cells := 0, slots := 0, locals := 0 } [.int p0] [] sz 0 0
      (fun (r : Int32) (u : Unit) => r = 0)
      (fun u => []) := by
  refine mk_metI (cc := cX7_isOfLog) (maxL := 1) (ret := (some .boolean)) (by decide) rfl (Nat.le_of_ble_eq_true rfl) ?_
  intro p e s m below meth c A hx hb hr hml hts hown hlocks hin hP hK hN hD hA hS ls hl
  have hown : s.vm.findClass RX7 = some m.cls := hown
  have hl : lv_has ls 1 [(0, .int p0)] := hl
  refine lv_iload_n hx hb dX7_isOfLog_0 rfl (lv_at hl 0 rfl) ?_
  refine lv_bipush (v := 8) hx hb dX7_isOfLog_1 (by decide) ?_
  refine lv_icmp_lt (tgt := 16) hx hb dX7_isOfLog_3 (by decide) (fun c => absurd ((ti_lt (x := p0) (y := 8) (a := p0.toInt) (b := 8) rfl (by decide)).mp c) (by omega)) (fun c => ?_)
  refine lv_iload_n hx hb dX7_isOfLog_6 rfl (lv_at hl 0 rfl) ?_
  refine lv_bipush (v := 64) hx hb dX7_isOfLog_7 (by decide) ?_
  refine lv_icmp_ge (tgt := 16) hx hb dX7_isOfLog_9 (by decide) (fun c => ?_) (fun c => absurd ((ti_le (x := 64) (y := p0) (a := 64) (b := p0.toInt) (by decide) rfl).mpr (by omega)) c)
  refine lv_iconst (v := 0) hx hb dX7_isOfLog_16 (by decide) ?_
  exact kr_z () hx hb hr rfl hlocks hP hD hS rfl dX7_isOfLog_17
set_option maxHeartbeats 4000000 in
set_option maxRecDepth 100000 in
theorem K267_X7_segment (l : Launch) (D : va_G) (cB cI cZ : ClassId) (sz : Nat) (h0 : Nat)  (p0 : Int32) (p1 : Int32) (g0 : Value) (g1 : Value) (g2 : Value) (g3 : Value) (g4 : Value) (g5 : Value) (g6 : Value) (g7 : Value) (i_p0 : 64 ≤ p0.toInt) :
    CtI l D cB cI cZ yX7_segment wsX7_segment { frames := 1, cells := 0, slots := 0, locals := 20 } [.ref h0, .int p0, .int p1] [(h0, .inr (6, [g0, g1, g2, g3, g4, g5, g6, g7, .int 0]))] sz 0 0
      (fun (r : Int32) (u : Unit) => r = (-1))
      (fun u => []) := by
  refine mk_metI (cc := cX7_segment) (maxL := 3) (ret := (some .int)) (by decide) rfl (Nat.le_of_ble_eq_true rfl) ?_
  intro p e s m below meth c A hx hb hr hml hts hown hlocks hin hP hK hN hD hA hS ls hl
  have hown : s.vm.findClass RX7 = some m.cls := hown
  have hl : lv_has ls 3 [(0, .ref h0), (1, .int p0), (2, .int p1)] := hl
  refine lv_aload_n hx hb dX7_segment_0 rfl (lv_at hl 0 rfl) ?_
  refine va_get (D := D) (ci := 6) (v := .int 0) (C := RX7) (T := TX7) (N := 9) hx hb hts inX7_segment_X7 hown hK hP 0 rfl rfl 8 (by decide) (hts _ wdX7_segment_0) (fun _ h9 => h9) rfl dX7_segment_1 ?_
  refine lv_if_eq (tgt := 10) hx hb dX7_segment_4 (by decide) (fun c => ?_) (fun c => absurd (by decide) c)
  refine lv_iload_n hx hb dX7_segment_10 rfl (lv_at hl 1 rfl) ?_
  refine kc_i (wr := [(h0, .inr (6, [g0, g1, g2, g3, g4, g5, g6, g7, .int 0]))]) (va_runS (As := [.int p0]) (rest := []) ⟨hx, hb, hml, hown, hts⟩ (K268_X7_isOfLog l D cB cI cZ _ p0 (by omega)) (va_cwS 1 hts gX7_segment_X7_isOfLog rfl rfl rfl (by decide +kernel) ⟨Nat.le_of_ble_eq_true rfl, Nat.le_of_ble_eq_true rfl⟩) (pre_S (hP.sub [] rfl) hK hN (hD.sub [] (by decide) rfl)) rfl rfl hl.1 rfl (lv_room (Nat.le_of_ble_eq_true rfl)) dX7_segment_11 ⟨Nat.le_of_ble_eq_true rfl, Nat.le_of_ble_eq_true rfl⟩) hP hD hS hA [] [0] rfl rfl (by decide) (by decide) (fun r_1 u H locs hw hP hD hS => ?_)
  have k_2 := hw
  obtain rfl : r_1 = 0 := k_2
  have hP : va_P D vwCl [(h0, .inr (6, [g0, g1, g2, g3, g4, g5, g6, g7, .int 0]))] H := hP
  have hD : va_D A [(h0, .inr (6, [g0, g1, g2, g3, g4, g5, g6, g7, .int 0]))] := hD
  refine lv_if_ne (tgt := 19) hx hb dX7_segment_14 (by decide) (fun c => absurd (by decide) c) (fun c => ?_)
  refine lv_iconst (v := (-1)) hx hb dX7_segment_17 (by decide) ?_
  exact kr_i () hx hb hr hlocks (hP.sub [] rfl) (hD.sub [] (by decide) rfl) hS rfl dX7_segment_18
set_option maxHeartbeats 4000000 in
set_option maxRecDepth 100000 in
theorem K270_X8_in (l : Launch) (D : va_G) (cB cI cZ : ClassId) (sz : Nat)   (p0 : Int32) (i_p0 : 64 ≤ p0.toInt) :
    CtI l D cB cI cZ yX8_in wsX8_in { frames := 0, cells := 0, slots := 0, locals := 0 } [.int p0, .int 8, .int 63] [] sz 0 0
      (fun (r : Int32) (u : Unit) => r = 0)
      (fun u => []) := by
  refine mk_metI (cc := cX8_in) (maxL := 3) (ret := (some .boolean)) (by decide) rfl (Nat.le_of_ble_eq_true rfl) ?_
  intro p e s m below meth c A hx hb hr hml hts hown hlocks hin hP hK hN hD hA hS ls hl
  have hown : s.vm.findClass RX8 = some m.cls := hown
  have hl : lv_has ls 3 [(0, .int p0), (1, .int 8), (2, .int 63)] := hl
  refine lv_iload_n hx hb dX8_in_0 rfl (lv_at hl 0 rfl) ?_
  refine lv_iload_n hx hb dX8_in_1 rfl (lv_at hl 1 rfl) ?_
  refine lv_icmp_lt (tgt := 14) hx hb dX8_in_2 (by decide) (fun c => absurd ((ti_lt (x := p0) (y := 8) (a := p0.toInt) (b := 8) rfl (by decide)).mp c) (by omega)) (fun c => ?_)
  refine lv_iload_n hx hb dX8_in_5 rfl (lv_at hl 0 rfl) ?_
  refine lv_iload_n hx hb dX8_in_6 rfl (lv_at hl 2 rfl) ?_
  refine lv_icmp_gt (tgt := 14) hx hb dX8_in_7 (by decide) (fun c => ?_) (fun c => absurd ((ti_lt (x := 63) (y := p0) (a := 63) (b := p0.toInt) (by decide) rfl).mpr (by omega)) c)
  refine lv_iconst (v := 0) hx hb dX8_in_14 (by decide) ?_
  exact kr_z () hx hb hr rfl hlocks hP hD hS rfl dX8_in_15
set_option maxHeartbeats 4000000 in
set_option maxRecDepth 100000 in
theorem K269_X8_segment (l : Launch) (D : va_G) (cB cI cZ : ClassId) (sz : Nat) (h0 : Nat)  (p0 : Int32) (p1 : Int32) (g0 : Value) (g1 : Value) (g2 : Value) (g3 : Value) (g4 : Value) (g5 : Value) (g6 : Value) (g7 : Value) (g8 : Value) (g9 : Value) (g10 : Value) (g11 : Value) (g12 : Value) (g13 : Value) (g14 : Value) (g15 : Value) (g16 : Value) (g17 : Value) (g18 : Value) (g19 : Value) (g20 : Value) (g21 : Value) (g22 : Value) (g23 : Value) (g24 : Value) (g25 : Value) (g26 : Value) (g27 : Value) (g28 : Value) (i_p0 : 64 ≤ p0.toInt) :
    CtI l D cB cI cZ yX8_segment wsX8_segment { frames := 1, cells := 0, slots := 0, locals := 22 } [.ref h0, .int p0, .int p1] [(h0, .inr (7, [g0, .int 0, g1, g2, g3, g4, g5, g6, g7, g8, g9, g10, g11, g12, g13, g14, g15, g16, g17, g18, g19, g20, g21, g22, g23, g24, g25, g26, g27, g28]))] sz 0 0
      (fun (r : Int32) (u : Unit) => r = (-1))
      (fun u => []) := by
  refine mk_metI (cc := cX8_segment) (maxL := 3) (ret := (some .int)) (by decide) rfl (Nat.le_of_ble_eq_true rfl) ?_
  intro p e s m below meth c A hx hb hr hml hts hown hlocks hin hP hK hN hD hA hS ls hl
  have hown : s.vm.findClass RX8 = some m.cls := hown
  have hl : lv_has ls 3 [(0, .ref h0), (1, .int p0), (2, .int p1)] := hl
  refine lv_aload_n hx hb dX8_segment_0 rfl (lv_at hl 0 rfl) ?_
  refine lv_iconst (v := 0) hx hb dX8_segment_1 (by decide) ?_
  refine va_put (D := D) (ci := 7) (v := .int 0) (ty := .int) (C := RX8) (T := TX8) (N := 30) hx hb hts inX8_segment_X8 tyX8 tyX8_ok nmX8 hown hK hP hD hS 0 rfl rfl 0 (by decide) (hts _ wdX8_segment_0) (fun _ h9 => h9) rfl (by decide +kernel) rfl rfl (Nat.le_of_ble_eq_true rfl) dX8_segment_2 (fun H locs hP hD hS => ?_)
  have hP : va_P D vwCl [(h0, .inr (7, [.int 0, .int 0, g1, g2, g3, g4, g5, g6, g7, g8, g9, g10, g11, g12, g13, g14, g15, g16, g17, g18, g19, g20, g21, g22, g23, g24, g25, g26, g27, g28]))] H := hP
  have hD : va_D A [(h0, .inr (7, [.int 0, .int 0, g1, g2, g3, g4, g5, g6, g7, g8, g9, g10, g11, g12, g13, g14, g15, g16, g17, g18, g19, g20, g21, g22, g23, g24, g25, g26, g27, g28]))] := hD
  refine lv_aload_n hx hb dX8_segment_5 rfl (lv_at hl 0 rfl) ?_
  refine va_get (D := D) (ci := 7) (v := .int 0) (C := RX8) (T := TX8) (N := 30) hx hb hts inX8_segment_X8 hown hK hP 0 rfl rfl 1 (by decide) (hts _ wdX8_segment_1) (fun _ h9 => h9) rfl dX8_segment_6 ?_
  refine lv_if_eq (tgt := 15) hx hb dX8_segment_9 (by decide) (fun c => ?_) (fun c => absurd (by decide) c)
  refine lv_iload_n hx hb dX8_segment_15 rfl (lv_at hl 1 rfl) ?_
  refine lv_bipush (v := 8) hx hb dX8_segment_16 (by decide) ?_
  refine lv_bipush (v := 63) hx hb dX8_segment_18 (by decide) ?_
  refine kc_i (wr := [(h0, .inr (7, [.int 0, .int 0, g1, g2, g3, g4, g5, g6, g7, g8, g9, g10, g11, g12, g13, g14, g15, g16, g17, g18, g19, g20, g21, g22, g23, g24, g25, g26, g27, g28]))]) (va_runS (As := [.int p0, .int 8, .int 63]) (rest := []) ⟨hx, hb, hml, hown, hts⟩ (K270_X8_in l D cB cI cZ _ p0 (by omega)) (va_cwS 3 hts gX8_segment_X8_in rfl rfl rfl (by decide +kernel) ⟨Nat.le_of_ble_eq_true rfl, Nat.le_of_ble_eq_true rfl⟩) (pre_S (hP.sub [] rfl) hK hN (hD.sub [] (by decide) rfl)) rfl rfl hl.1 rfl (lv_room (Nat.le_of_ble_eq_true rfl)) dX8_segment_20 ⟨Nat.le_of_ble_eq_true rfl, Nat.le_of_ble_eq_true rfl⟩) hP hD hS hA [] [0] rfl rfl (by decide) (by decide) (fun r_1 u H locs hw hP hD hS => ?_)
  have k_2 := hw
  obtain rfl : r_1 = 0 := k_2
  have hP : va_P D vwCl [(h0, .inr (7, [.int 0, .int 0, g1, g2, g3, g4, g5, g6, g7, g8, g9, g10, g11, g12, g13, g14, g15, g16, g17, g18, g19, g20, g21, g22, g23, g24, g25, g26, g27, g28]))] H := hP
  have hD : va_D A [(h0, .inr (7, [.int 0, .int 0, g1, g2, g3, g4, g5, g6, g7, g8, g9, g10, g11, g12, g13, g14, g15, g16, g17, g18, g19, g20, g21, g22, g23, g24, g25, g26, g27, g28]))] := hD
  refine lv_if_ne (tgt := 28) hx hb dX8_segment_23 (by decide) (fun c => absurd (by decide) c) (fun c => ?_)
  refine lv_iconst (v := (-1)) hx hb dX8_segment_26 (by decide) ?_
  exact kr_i () hx hb hr hlocks (hP.sub [] rfl) (hD.sub [] (by decide) rfl) hS rfl dX8_segment_27
set_option maxHeartbeats 4000000 in
set_option maxRecDepth 100000 in
theorem K271_X7_segment (l : Launch) (D : va_G) (cB cI cZ : ClassId) (sz : Nat) (h0 : Nat)  (p0 : Int32) (p1 : Int32) (g0 : Value) (g1 : Value) (g2 : Value) (g3 : Value) (g4 : Value) (g5 : Value) (g6 : Value) (g7 : Value) (i_p0 : 8 ≤ p0.toInt ∧ p0.toInt ≤ 63) (i_p1 : p1.toInt ≤ (-1)) :
    CtI l D cB cI cZ yX7_segment wsX7_segment { frames := 1, cells := 0, slots := 0, locals := 20 } [.ref h0, .int p0, .int p1] [(h0, .inr (6, [g0, g1, g2, g3, g4, g5, g6, g7, .int 0]))] sz 0 0
      (fun (r : Int32) (u : Unit) => r = (-2))
      (fun u => []) := by
  refine mk_metI (cc := cX7_segment) (maxL := 3) (ret := (some .int)) (by decide) rfl (Nat.le_of_ble_eq_true rfl) ?_
  intro p e s m below meth c A hx hb hr hml hts hown hlocks hin hP hK hN hD hA hS ls hl
  have hown : s.vm.findClass RX7 = some m.cls := hown
  have hl : lv_has ls 3 [(0, .ref h0), (1, .int p0), (2, .int p1)] := hl
  refine lv_aload_n hx hb dX7_segment_0 rfl (lv_at hl 0 rfl) ?_
  refine va_get (D := D) (ci := 6) (v := .int 0) (C := RX7) (T := TX7) (N := 9) hx hb hts inX7_segment_X7 hown hK hP 0 rfl rfl 8 (by decide) (hts _ wdX7_segment_0) (fun _ h9 => h9) rfl dX7_segment_1 ?_
  refine lv_if_eq (tgt := 10) hx hb dX7_segment_4 (by decide) (fun c => ?_) (fun c => absurd (by decide) c)
  refine lv_iload_n hx hb dX7_segment_10 rfl (lv_at hl 1 rfl) ?_
  refine kc_i (wr := [(h0, .inr (6, [g0, g1, g2, g3, g4, g5, g6, g7, .int 0]))]) (va_runS (As := [.int p0]) (rest := []) ⟨hx, hb, hml, hown, hts⟩ (K133_X7_isOfLog l D cB cI cZ _ p0 ⟨by omega, by omega⟩) (va_cwS 1 hts gX7_segment_X7_isOfLog rfl rfl rfl (by decide +kernel) ⟨Nat.le_of_ble_eq_true rfl, Nat.le_of_ble_eq_true rfl⟩) (pre_S (hP.sub [] rfl) hK hN (hD.sub [] (by decide) rfl)) rfl rfl hl.1 rfl (lv_room (Nat.le_of_ble_eq_true rfl)) dX7_segment_11 ⟨Nat.le_of_ble_eq_true rfl, Nat.le_of_ble_eq_true rfl⟩) hP hD hS hA [] [0] rfl rfl (by decide) (by decide) (fun r_1 u H locs hw hP hD hS => ?_)
  have k_2 := hw
  obtain rfl : r_1 = 1 := k_2
  have hP : va_P D vwCl [(h0, .inr (6, [g0, g1, g2, g3, g4, g5, g6, g7, .int 0]))] H := hP
  have hD : va_D A [(h0, .inr (6, [g0, g1, g2, g3, g4, g5, g6, g7, .int 0]))] := hD
  refine lv_if_ne (tgt := 19) hx hb dX7_segment_14 (by decide) (fun c => ?_) (fun c => absurd c (by decide))
  refine lv_iload_n hx hb dX7_segment_19 rfl (lv_at hl 2 rfl) ?_
  refine lv_tableOut (tgt := 133) hx hb dX7_segment_20 (Or.inl (by omega)) (by decide) ?_
  refine lv_bipush (v := (-2)) hx hb dX7_segment_133 (by decide) ?_
  exact kr_i () hx hb hr hlocks (hP.sub [] rfl) (hD.sub [] (by decide) rfl) hS rfl dX7_segment_135
set_option maxHeartbeats 4000000 in
set_option maxRecDepth 100000 in
theorem K273_X8_in (l : Launch) (D : va_G) (cB cI cZ : ClassId) (sz : Nat)   (p0 : Int32) (i_p0 : 8 ≤ p0.toInt ∧ p0.toInt ≤ 63) :
    CtI l D cB cI cZ yX8_in wsX8_in { frames := 0, cells := 0, slots := 0, locals := 0 } [.int p0, .int 8, .int 63] [] sz 0 0
      (fun (r : Int32) (u : Unit) => r = 1)
      (fun u => []) := by
  refine mk_metI (cc := cX8_in) (maxL := 3) (ret := (some .boolean)) (by decide) rfl (Nat.le_of_ble_eq_true rfl) ?_
  intro p e s m below meth c A hx hb hr hml hts hown hlocks hin hP hK hN hD hA hS ls hl
  have hown : s.vm.findClass RX8 = some m.cls := hown
  have hl : lv_has ls 3 [(0, .int p0), (1, .int 8), (2, .int 63)] := hl
  refine lv_iload_n hx hb dX8_in_0 rfl (lv_at hl 0 rfl) ?_
  refine lv_iload_n hx hb dX8_in_1 rfl (lv_at hl 1 rfl) ?_
  refine lv_icmp_lt (tgt := 14) hx hb dX8_in_2 (by decide) (fun c => absurd ((ti_lt (x := p0) (y := 8) (a := p0.toInt) (b := 8) rfl (by decide)).mp c) (by omega)) (fun c => ?_)
  refine lv_iload_n hx hb dX8_in_5 rfl (lv_at hl 0 rfl) ?_
  refine lv_iload_n hx hb dX8_in_6 rfl (lv_at hl 2 rfl) ?_
  refine lv_icmp_gt (tgt := 14) hx hb dX8_in_7 (by decide) (fun c => absurd ((ti_lt (x := 63) (y := p0) (a := 63) (b := p0.toInt) (by decide) rfl).mp c) (by omega)) (fun c => ?_)
  refine lv_iconst (v := 1) hx hb dX8_in_10 (by decide) ?_
  refine lv_goto (tgt := 15) hx hb dX8_in_11 (by decide) ?_
  exact kr_z () hx hb hr rfl hlocks hP hD hS rfl dX8_in_15
set_option maxHeartbeats 4000000 in
set_option maxRecDepth 100000 in
theorem K274_X8_in (l : Launch) (D : va_G) (cB cI cZ : ClassId) (sz : Nat)   (p0 : Int32) (i_p0 : p0.toInt ≤ (-1)) :
    CtI l D cB cI cZ yX8_in wsX8_in { frames := 0, cells := 0, slots := 0, locals := 0 } [.int p0, .int 0, .int 3] [] sz 0 0
      (fun (r : Int32) (u : Unit) => r = 0)
      (fun u => []) := by
  refine mk_metI (cc := cX8_in) (maxL := 3) (ret := (some .boolean)) (by decide) rfl (Nat.le_of_ble_eq_true rfl) ?_
  intro p e s m below meth c A hx hb hr hml hts hown hlocks hin hP hK hN hD hA hS ls hl
  have hown : s.vm.findClass RX8 = some m.cls := hown
  have hl : lv_has ls 3 [(0, .int p0), (1, .int 0), (2, .int 3)] := hl
  refine lv_iload_n hx hb dX8_in_0 rfl (lv_at hl 0 rfl) ?_
  refine lv_iload_n hx hb dX8_in_1 rfl (lv_at hl 1 rfl) ?_
  refine lv_icmp_lt (tgt := 14) hx hb dX8_in_2 (by decide) (fun c => ?_) (fun c => absurd ((ti_lt (x := p0) (y := 0) (a := p0.toInt) (b := 0) rfl (by decide)).mpr (by omega)) c)
  refine lv_iconst (v := 0) hx hb dX8_in_14 (by decide) ?_
  exact kr_z () hx hb hr rfl hlocks hP hD hS rfl dX8_in_15
set_option maxHeartbeats 4000000 in
set_option maxRecDepth 100000 in
theorem K272_X8_segment (l : Launch) (D : va_G) (cB cI cZ : ClassId) (sz : Nat) (h0 : Nat)  (p0 : Int32) (p1 : Int32) (g0 : Value) (g1 : Value) (g2 : Value) (g3 : Value) (g4 : Value) (g5 : Value) (g6 : Value) (g7 : Value) (g8 : Value) (g9 : Value) (g10 : Value) (g11 : Value) (g12 : Value) (g13 : Value) (g14 : Value) (g15 : Value) (g16 : Value) (g17 : Value) (g18 : Value) (g19 : Value) (g20 : Value) (g21 : Value) (g22 : Value) (g23 : Value) (g24 : Value) (g25 : Value) (g26 : Value) (g27 : Value) (g28 : Value) (i_p0 : 8 ≤ p0.toInt ∧ p0.toInt ≤ 63) (i_p1 : p1.toInt ≤ (-1)) :
    CtI l D cB cI cZ yX8_segment wsX8_segment { frames := 1, cells := 0, slots := 0, locals := 22 } [.ref h0, .int p0, .int p1] [(h0, .inr (7, [g0, .int 0, g1, g2, g3, g4, g5, g6, g7, g8, g9, g10, g11, g12, g13, g14, g15, g16, g17, g18, g19, g20, g21, g22, g23, g24, g25, g26, g27, g28]))] sz 0 0
      (fun (r : Int32) (u : Unit) => r = (-2))
      (fun u => []) := by
  refine mk_metI (cc := cX8_segment) (maxL := 3) (ret := (some .int)) (by decide) rfl (Nat.le_of_ble_eq_true rfl) ?_
  intro p e s m below meth c A hx hb hr hml hts hown hlocks hin hP hK hN hD hA hS ls hl
  have hown : s.vm.findClass RX8 = some m.cls := hown
  have hl : lv_has ls 3 [(0, .ref h0), (1, .int p0), (2, .int p1)] := hl
  refine lv_aload_n hx hb dX8_segment_0 rfl (lv_at hl 0 rfl) ?_
  refine lv_iconst (v := 0) hx hb dX8_segment_1 (by decide) ?_
  refine va_put (D := D) (ci := 7) (v := .int 0) (ty := .int) (C := RX8) (T := TX8) (N := 30) hx hb hts inX8_segment_X8 tyX8 tyX8_ok nmX8 hown hK hP hD hS 0 rfl rfl 0 (by decide) (hts _ wdX8_segment_0) (fun _ h9 => h9) rfl (by decide +kernel) rfl rfl (Nat.le_of_ble_eq_true rfl) dX8_segment_2 (fun H locs hP hD hS => ?_)
  have hP : va_P D vwCl [(h0, .inr (7, [.int 0, .int 0, g1, g2, g3, g4, g5, g6, g7, g8, g9, g10, g11, g12, g13, g14, g15, g16, g17, g18, g19, g20, g21, g22, g23, g24, g25, g26, g27, g28]))] H := hP
  have hD : va_D A [(h0, .inr (7, [.int 0, .int 0, g1, g2, g3, g4, g5, g6, g7, g8, g9, g10, g11, g12, g13, g14, g15, g16, g17, g18, g19, g20, g21, g22, g23, g24, g25, g26, g27, g28]))] := hD
  refine lv_aload_n hx hb dX8_segment_5 rfl (lv_at hl 0 rfl) ?_
  refine va_get (D := D) (ci := 7) (v := .int 0) (C := RX8) (T := TX8) (N := 30) hx hb hts inX8_segment_X8 hown hK hP 0 rfl rfl 1 (by decide) (hts _ wdX8_segment_1) (fun _ h9 => h9) rfl dX8_segment_6 ?_
  refine lv_if_eq (tgt := 15) hx hb dX8_segment_9 (by decide) (fun c => ?_) (fun c => absurd (by decide) c)
  refine lv_iload_n hx hb dX8_segment_15 rfl (lv_at hl 1 rfl) ?_
  refine lv_bipush (v := 8) hx hb dX8_segment_16 (by decide) ?_
  refine lv_bipush (v := 63) hx hb dX8_segment_18 (by decide) ?_
  refine kc_i (wr := [(h0, .inr (7, [.int 0, .int 0, g1, g2, g3, g4, g5, g6, g7, g8, g9, g10, g11, g12, g13, g14, g15, g16, g17, g18, g19, g20, g21, g22, g23, g24, g25, g26, g27, g28]))]) (va_runS (As := [.int p0, .int 8, .int 63]) (rest := []) ⟨hx, hb, hml, hown, hts⟩ (K273_X8_in l D cB cI cZ _ p0 ⟨by omega, by omega⟩) (va_cwS 3 hts gX8_segment_X8_in rfl rfl rfl (by decide +kernel) ⟨Nat.le_of_ble_eq_true rfl, Nat.le_of_ble_eq_true rfl⟩) (pre_S (hP.sub [] rfl) hK hN (hD.sub [] (by decide) rfl)) rfl rfl hl.1 rfl (lv_room (Nat.le_of_ble_eq_true rfl)) dX8_segment_20 ⟨Nat.le_of_ble_eq_true rfl, Nat.le_of_ble_eq_true rfl⟩) hP hD hS hA [] [0] rfl rfl (by decide) (by decide) (fun r_1 u H locs hw hP hD hS => ?_)
  have k_2 := hw
  obtain rfl : r_1 = 1 := k_2
  have hP : va_P D vwCl [(h0, .inr (7, [.int 0, .int 0, g1, g2, g3, g4, g5, g6, g7, g8, g9, g10, g11, g12, g13, g14, g15, g16, g17, g18, g19, g20, g21, g22, g23, g24, g25, g26, g27, g28]))] H := hP
  have hD : va_D A [(h0, .inr (7, [.int 0, .int 0, g1, g2, g3, g4, g5, g6, g7, g8, g9, g10, g11, g12, g13, g14, g15, g16, g17, g18, g19, g20, g21, g22, g23, g24, g25, g26, g27, g28]))] := hD
  refine lv_if_ne (tgt := 28) hx hb dX8_segment_23 (by decide) (fun c => ?_) (fun c => absurd c (by decide))
  refine lv_iload_n hx hb dX8_segment_28 rfl (lv_at hl 2 rfl) ?_
  refine lv_iconst (v := 0) hx hb dX8_segment_29 (by decide) ?_
  refine lv_iconst (v := 3) hx hb dX8_segment_30 (by decide) ?_
  refine kc_i (wr := [(h0, .inr (7, [.int 0, .int 0, g1, g2, g3, g4, g5, g6, g7, g8, g9, g10, g11, g12, g13, g14, g15, g16, g17, g18, g19, g20, g21, g22, g23, g24, g25, g26, g27, g28]))]) (va_runS (As := [.int p1, .int 0, .int 3]) (rest := []) ⟨hx, hb, hml, hown, hts⟩ (K274_X8_in l D cB cI cZ _ p1 (by omega)) (va_cwS 3 hts gX8_segment_X8_in rfl rfl rfl (by decide +kernel) ⟨Nat.le_of_ble_eq_true rfl, Nat.le_of_ble_eq_true rfl⟩) (pre_S (hP.sub [] rfl) hK hN (hD.sub [] (by decide) rfl)) rfl rfl hl.1 rfl (lv_room (Nat.le_of_ble_eq_true rfl)) dX8_segment_31 ⟨Nat.le_of_ble_eq_true rfl, Nat.le_of_ble_eq_true rfl⟩) hP hD hS hA [] [0] rfl rfl (by decide) (by decide) (fun r_3 u H locs hw hP hD hS => ?_)
  have k_4 := hw
  obtain rfl : r_3 = 0 := k_4
  have hP : va_P D vwCl [(h0, .inr (7, [.int 0, .int 0, g1, g2, g3, g4, g5, g6, g7, g8, g9, g10, g11, g12, g13, g14, g15, g16, g17, g18, g19, g20, g21, g22, g23, g24, g25, g26, g27, g28]))] H := hP
  have hD : va_D A [(h0, .inr (7, [.int 0, .int 0, g1, g2, g3, g4, g5, g6, g7, g8, g9, g10, g11, g12, g13, g14, g15, g16, g17, g18, g19, g20, g21, g22, g23, g24, g25, g26, g27, g28]))] := hD
  refine lv_if_ne (tgt := 40) hx hb dX8_segment_34 (by decide) (fun c => absurd (by decide) c) (fun c => ?_)
  refine lv_bipush (v := (-2)) hx hb dX8_segment_37 (by decide) ?_
  exact kr_i () hx hb hr hlocks (hP.sub [] rfl) (hD.sub [] (by decide) rfl) hS rfl dX8_segment_39
set_option maxHeartbeats 4000000 in
set_option maxRecDepth 100000 in
theorem K275_X7_segment (l : Launch) (D : va_G) (cB cI cZ : ClassId) (sz : Nat) (h0 : Nat)  (p0 : Int32) (p1 : Int32) (g0 : Value) (g1 : Value) (g2 : Value) (g3 : Value) (g4 : Value) (g5 : Value) (g6 : Value) (g7 : Value) (i_p0 : 8 ≤ p0.toInt ∧ p0.toInt ≤ 63) (i_p1 : 4 ≤ p1.toInt) :
    CtI l D cB cI cZ yX7_segment wsX7_segment { frames := 1, cells := 0, slots := 0, locals := 20 } [.ref h0, .int p0, .int p1] [(h0, .inr (6, [g0, g1, g2, g3, g4, g5, g6, g7, .int 0]))] sz 0 0
      (fun (r : Int32) (u : Unit) => r = (-2))
      (fun u => []) := by
  refine mk_metI (cc := cX7_segment) (maxL := 3) (ret := (some .int)) (by decide) rfl (Nat.le_of_ble_eq_true rfl) ?_
  intro p e s m below meth c A hx hb hr hml hts hown hlocks hin hP hK hN hD hA hS ls hl
  have hown : s.vm.findClass RX7 = some m.cls := hown
  have hl : lv_has ls 3 [(0, .ref h0), (1, .int p0), (2, .int p1)] := hl
  refine lv_aload_n hx hb dX7_segment_0 rfl (lv_at hl 0 rfl) ?_
  refine va_get (D := D) (ci := 6) (v := .int 0) (C := RX7) (T := TX7) (N := 9) hx hb hts inX7_segment_X7 hown hK hP 0 rfl rfl 8 (by decide) (hts _ wdX7_segment_0) (fun _ h9 => h9) rfl dX7_segment_1 ?_
  refine lv_if_eq (tgt := 10) hx hb dX7_segment_4 (by decide) (fun c => ?_) (fun c => absurd (by decide) c)
  refine lv_iload_n hx hb dX7_segment_10 rfl (lv_at hl 1 rfl) ?_
  refine kc_i (wr := [(h0, .inr (6, [g0, g1, g2, g3, g4, g5, g6, g7, .int 0]))]) (va_runS (As := [.int p0]) (rest := []) ⟨hx, hb, hml, hown, hts⟩ (K133_X7_isOfLog l D cB cI cZ _ p0 ⟨by omega, by omega⟩) (va_cwS 1 hts gX7_segment_X7_isOfLog rfl rfl rfl (by decide +kernel) ⟨Nat.le_of_ble_eq_true rfl, Nat.le_of_ble_eq_true rfl⟩) (pre_S (hP.sub [] rfl) hK hN (hD.sub [] (by decide) rfl)) rfl rfl hl.1 rfl (lv_room (Nat.le_of_ble_eq_true rfl)) dX7_segment_11 ⟨Nat.le_of_ble_eq_true rfl, Nat.le_of_ble_eq_true rfl⟩) hP hD hS hA [] [0] rfl rfl (by decide) (by decide) (fun r_1 u H locs hw hP hD hS => ?_)
  have k_2 := hw
  obtain rfl : r_1 = 1 := k_2
  have hP : va_P D vwCl [(h0, .inr (6, [g0, g1, g2, g3, g4, g5, g6, g7, .int 0]))] H := hP
  have hD : va_D A [(h0, .inr (6, [g0, g1, g2, g3, g4, g5, g6, g7, .int 0]))] := hD
  refine lv_if_ne (tgt := 19) hx hb dX7_segment_14 (by decide) (fun c => ?_) (fun c => absurd c (by decide))
  refine lv_iload_n hx hb dX7_segment_19 rfl (lv_at hl 2 rfl) ?_
  refine lv_tableOut (tgt := 133) hx hb dX7_segment_20 (Or.inr (by omega)) (by decide) ?_
  refine lv_bipush (v := (-2)) hx hb dX7_segment_133 (by decide) ?_
  exact kr_i () hx hb hr hlocks (hP.sub [] rfl) (hD.sub [] (by decide) rfl) hS rfl dX7_segment_135
set_option maxHeartbeats 4000000 in
set_option maxRecDepth 100000 in
theorem K277_X8_in (l : Launch) (D : va_G) (cB cI cZ : ClassId) (sz : Nat)   (p0 : Int32) (i_p0 : 4 ≤ p0.toInt) :
    CtI l D cB cI cZ yX8_in wsX8_in { frames := 0, cells := 0, slots := 0, locals := 0 } [.int p0, .int 0, .int 3] [] sz 0 0
      (fun (r : Int32) (u : Unit) => r = 0)
      (fun u => []) := by
  refine mk_metI (cc := cX8_in) (maxL := 3) (ret := (some .boolean)) (by decide) rfl (Nat.le_of_ble_eq_true rfl) ?_
  intro p e s m below meth c A hx hb hr hml hts hown hlocks hin hP hK hN hD hA hS ls hl
  have hown : s.vm.findClass RX8 = some m.cls := hown
  have hl : lv_has ls 3 [(0, .int p0), (1, .int 0), (2, .int 3)] := hl
  refine lv_iload_n hx hb dX8_in_0 rfl (lv_at hl 0 rfl) ?_
  refine lv_iload_n hx hb dX8_in_1 rfl (lv_at hl 1 rfl) ?_
  refine lv_icmp_lt (tgt := 14) hx hb dX8_in_2 (by decide) (fun c => absurd ((ti_lt (x := p0) (y := 0) (a := p0.toInt) (b := 0) rfl (by decide)).mp c) (by omega)) (fun c => ?_)
  refine lv_iload_n hx hb dX8_in_5 rfl (lv_at hl 0 rfl) ?_
  refine lv_iload_n hx hb dX8_in_6 rfl (lv_at hl 2 rfl) ?_
  refine lv_icmp_gt (tgt := 14) hx hb dX8_in_7 (by decide) (fun c => ?_) (fun c => absurd ((ti_lt (x := 3) (y := p0) (a := 3) (b := p0.toInt) (by decide) rfl).mpr (by omega)) c)
  refine lv_iconst (v := 0) hx hb dX8_in_14 (by decide) ?_
  exact kr_z () hx hb hr rfl hlocks hP hD hS rfl dX8_in_15
set_option maxHeartbeats 4000000 in
set_option maxRecDepth 100000 in
theorem K276_X8_segment (l : Launch) (D : va_G) (cB cI cZ : ClassId) (sz : Nat) (h0 : Nat)  (p0 : Int32) (p1 : Int32) (g0 : Value) (g1 : Value) (g2 : Value) (g3 : Value) (g4 : Value) (g5 : Value) (g6 : Value) (g7 : Value) (g8 : Value) (g9 : Value) (g10 : Value) (g11 : Value) (g12 : Value) (g13 : Value) (g14 : Value) (g15 : Value) (g16 : Value) (g17 : Value) (g18 : Value) (g19 : Value) (g20 : Value) (g21 : Value) (g22 : Value) (g23 : Value) (g24 : Value) (g25 : Value) (g26 : Value) (g27 : Value) (g28 : Value) (i_p0 : 8 ≤ p0.toInt ∧ p0.toInt ≤ 63) (i_p1 : 4 ≤ p1.toInt) :
    CtI l D cB cI cZ yX8_segment wsX8_segment { frames := 1, cells := 0, slots := 0, locals := 22 } [.ref h0, .int p0, .int p1] [(h0, .inr (7, [g0, .int 0, g1, g2, g3, g4, g5, g6, g7, g8, g9, g10, g11, g12, g13, g14, g15, g16, g17, g18, g19, g20, g21, g22, g23, g24, g25, g26, g27, g28]))] sz 0 0
      (fun (r : Int32) (u : Unit) => r = (-2))
      (fun u => []) := by
  refine mk_metI (cc := cX8_segment) (maxL := 3) (ret := (some .int)) (by decide) rfl (Nat.le_of_ble_eq_true rfl) ?_
  intro p e s m below meth c A hx hb hr hml hts hown hlocks hin hP hK hN hD hA hS ls hl
  have hown : s.vm.findClass RX8 = some m.cls := hown
  have hl : lv_has ls 3 [(0, .ref h0), (1, .int p0), (2, .int p1)] := hl
  refine lv_aload_n hx hb dX8_segment_0 rfl (lv_at hl 0 rfl) ?_
  refine lv_iconst (v := 0) hx hb dX8_segment_1 (by decide) ?_
  refine va_put (D := D) (ci := 7) (v := .int 0) (ty := .int) (C := RX8) (T := TX8) (N := 30) hx hb hts inX8_segment_X8 tyX8 tyX8_ok nmX8 hown hK hP hD hS 0 rfl rfl 0 (by decide) (hts _ wdX8_segment_0) (fun _ h9 => h9) rfl (by decide +kernel) rfl rfl (Nat.le_of_ble_eq_true rfl) dX8_segment_2 (fun H locs hP hD hS => ?_)
  have hP : va_P D vwCl [(h0, .inr (7, [.int 0, .int 0, g1, g2, g3, g4, g5, g6, g7, g8, g9, g10, g11, g12, g13, g14, g15, g16, g17, g18, g19, g20, g21, g22, g23, g24, g25, g26, g27, g28]))] H := hP
  have hD : va_D A [(h0, .inr (7, [.int 0, .int 0, g1, g2, g3, g4, g5, g6, g7, g8, g9, g10, g11, g12, g13, g14, g15, g16, g17, g18, g19, g20, g21, g22, g23, g24, g25, g26, g27, g28]))] := hD
  refine lv_aload_n hx hb dX8_segment_5 rfl (lv_at hl 0 rfl) ?_
  refine va_get (D := D) (ci := 7) (v := .int 0) (C := RX8) (T := TX8) (N := 30) hx hb hts inX8_segment_X8 hown hK hP 0 rfl rfl 1 (by decide) (hts _ wdX8_segment_1) (fun _ h9 => h9) rfl dX8_segment_6 ?_
  refine lv_if_eq (tgt := 15) hx hb dX8_segment_9 (by decide) (fun c => ?_) (fun c => absurd (by decide) c)
  refine lv_iload_n hx hb dX8_segment_15 rfl (lv_at hl 1 rfl) ?_
  refine lv_bipush (v := 8) hx hb dX8_segment_16 (by decide) ?_
  refine lv_bipush (v := 63) hx hb dX8_segment_18 (by decide) ?_
  refine kc_i (wr := [(h0, .inr (7, [.int 0, .int 0, g1, g2, g3, g4, g5, g6, g7, g8, g9, g10, g11, g12, g13, g14, g15, g16, g17, g18, g19, g20, g21, g22, g23, g24, g25, g26, g27, g28]))]) (va_runS (As := [.int p0, .int 8, .int 63]) (rest := []) ⟨hx, hb, hml, hown, hts⟩ (K273_X8_in l D cB cI cZ _ p0 ⟨by omega, by omega⟩) (va_cwS 3 hts gX8_segment_X8_in rfl rfl rfl (by decide +kernel) ⟨Nat.le_of_ble_eq_true rfl, Nat.le_of_ble_eq_true rfl⟩) (pre_S (hP.sub [] rfl) hK hN (hD.sub [] (by decide) rfl)) rfl rfl hl.1 rfl (lv_room (Nat.le_of_ble_eq_true rfl)) dX8_segment_20 ⟨Nat.le_of_ble_eq_true rfl, Nat.le_of_ble_eq_true rfl⟩) hP hD hS hA [] [0] rfl rfl (by decide) (by decide) (fun r_1 u H locs hw hP hD hS => ?_)
  have k_2 := hw
  obtain rfl : r_1 = 1 := k_2
  have hP : va_P D vwCl [(h0, .inr (7, [.int 0, .int 0, g1, g2, g3, g4, g5, g6, g7, g8, g9, g10, g11, g12, g13, g14, g15, g16, g17, g18, g19, g20, g21, g22, g23, g24, g25, g26, g27, g28]))] H := hP
  have hD : va_D A [(h0, .inr (7, [.int 0, .int 0, g1, g2, g3, g4, g5, g6, g7, g8, g9, g10, g11, g12, g13, g14, g15, g16, g17, g18, g19, g20, g21, g22, g23, g24, g25, g26, g27, g28]))] := hD
  refine lv_if_ne (tgt := 28) hx hb dX8_segment_23 (by decide) (fun c => ?_) (fun c => absurd c (by decide))
  refine lv_iload_n hx hb dX8_segment_28 rfl (lv_at hl 2 rfl) ?_
  refine lv_iconst (v := 0) hx hb dX8_segment_29 (by decide) ?_
  refine lv_iconst (v := 3) hx hb dX8_segment_30 (by decide) ?_
  refine kc_i (wr := [(h0, .inr (7, [.int 0, .int 0, g1, g2, g3, g4, g5, g6, g7, g8, g9, g10, g11, g12, g13, g14, g15, g16, g17, g18, g19, g20, g21, g22, g23, g24, g25, g26, g27, g28]))]) (va_runS (As := [.int p1, .int 0, .int 3]) (rest := []) ⟨hx, hb, hml, hown, hts⟩ (K277_X8_in l D cB cI cZ _ p1 (by omega)) (va_cwS 3 hts gX8_segment_X8_in rfl rfl rfl (by decide +kernel) ⟨Nat.le_of_ble_eq_true rfl, Nat.le_of_ble_eq_true rfl⟩) (pre_S (hP.sub [] rfl) hK hN (hD.sub [] (by decide) rfl)) rfl rfl hl.1 rfl (lv_room (Nat.le_of_ble_eq_true rfl)) dX8_segment_31 ⟨Nat.le_of_ble_eq_true rfl, Nat.le_of_ble_eq_true rfl⟩) hP hD hS hA [] [0] rfl rfl (by decide) (by decide) (fun r_3 u H locs hw hP hD hS => ?_)
  have k_4 := hw
  obtain rfl : r_3 = 0 := k_4
  have hP : va_P D vwCl [(h0, .inr (7, [.int 0, .int 0, g1, g2, g3, g4, g5, g6, g7, g8, g9, g10, g11, g12, g13, g14, g15, g16, g17, g18, g19, g20, g21, g22, g23, g24, g25, g26, g27, g28]))] H := hP
  have hD : va_D A [(h0, .inr (7, [.int 0, .int 0, g1, g2, g3, g4, g5, g6, g7, g8, g9, g10, g11, g12, g13, g14, g15, g16, g17, g18, g19, g20, g21, g22, g23, g24, g25, g26, g27, g28]))] := hD
  refine lv_if_ne (tgt := 40) hx hb dX8_segment_34 (by decide) (fun c => absurd (by decide) c) (fun c => ?_)
  refine lv_bipush (v := (-2)) hx hb dX8_segment_37 (by decide) ?_
  exact kr_i () hx hb hr hlocks (hP.sub [] rfl) (hD.sub [] (by decide) rfl) hS rfl dX8_segment_39
set_option maxHeartbeats 4000000 in
set_option maxRecDepth 100000 in
theorem K278_X7_segment (l : Launch) (D : va_G) (cB cI cZ : ClassId) (sz : Nat) (h0 : Nat) (h1 : Nat) (h2 : Nat)  (p0 : Int32) (g0 : Value) (g1 : Value) (g2 : Value) (g3 : Value) (g4 : Value) (g5 : Value) (g6 : Value) (g7 : Value) (g8 : Value) (g9 : Value) (g10 : Value) (g11 : Value) (g12 : Value) (g13 : Value) (g14 : Value) (g15 : Value) (g16 : Value) (g17 : Value) (g18 : Value) (i_p0 : 8 ≤ p0.toInt ∧ p0.toInt ≤ 63) :
    CtI l D cB cI cZ yX7_segment wsX7_segment { frames := 2, cells := 0, slots := 0, locals := 41 } [.ref h0, .int p0, .int 0] [(h0, .inr (6, [g0, g1, .ref h1, g2, g3, g4, g5, g6, .int 0])), (h1, .inr (3, [g7, g8, .ref h2, g9, g10, g11, g12, g13, g14, .int 0, g15, g16, g17, g18])), (h2, .inl (cI, 64, .inl zf))] sz 0 0
      (fun (r : Int32) (u : Unit) => r = 0)
      (fun u => []) := by
  refine mk_metI (cc := cX7_segment) (maxL := 3) (ret := (some .int)) (by decide) rfl (Nat.le_of_ble_eq_true rfl) ?_
  intro p e s m below meth c A hx hb hr hml hts hown hlocks hin hP hK hN hD hA hS ls hl
  have hown : s.vm.findClass RX7 = some m.cls := hown
  have hl : lv_has ls 3 [(0, .ref h0), (1, .int p0), (2, .int 0)] := hl
  refine lv_aload_n hx hb dX7_segment_0 rfl (lv_at hl 0 rfl) ?_
  refine va_get (D := D) (ci := 6) (v := .int 0) (C := RX7) (T := TX7) (N := 9) hx hb hts inX7_segment_X7 hown hK hP 0 rfl rfl 8 (by decide) (hts _ wdX7_segment_0) (fun _ h9 => h9) rfl dX7_segment_1 ?_
  refine lv_if_eq (tgt := 10) hx hb dX7_segment_4 (by decide) (fun c => ?_) (fun c => absurd (by decide) c)
  refine lv_iload_n hx hb dX7_segment_10 rfl (lv_at hl 1 rfl) ?_
  refine kc_i (wr := [(h0, .inr (6, [g0, g1, .ref h1, g2, g3, g4, g5, g6, .int 0])), (h1, .inr (3, [g7, g8, .ref h2, g9, g10, g11, g12, g13, g14, .int 0, g15, g16, g17, g18])), (h2, .inl (cI, 64, .inl zf))]) (va_runS (As := [.int p0]) (rest := []) ⟨hx, hb, hml, hown, hts⟩ (K133_X7_isOfLog l D cB cI cZ _ p0 ⟨by omega, by omega⟩) (va_cwS 1 hts gX7_segment_X7_isOfLog rfl rfl rfl (by decide +kernel) ⟨Nat.le_of_ble_eq_true rfl, Nat.le_of_ble_eq_true rfl⟩) (pre_S (hP.sub [] rfl) hK hN (hD.sub [] (by decide) rfl)) rfl rfl hl.1 rfl (lv_room (Nat.le_of_ble_eq_true rfl)) dX7_segment_11 ⟨Nat.le_of_ble_eq_true rfl, Nat.le_of_ble_eq_true rfl⟩) hP hD hS hA [] [0, 1, 2] rfl rfl (by decide) (by decide) (fun r_1 u H locs hw hP hD hS => ?_)
  have k_2 := hw
  obtain rfl : r_1 = 1 := k_2
  have hP : va_P D vwCl [(h0, .inr (6, [g0, g1, .ref h1, g2, g3, g4, g5, g6, .int 0])), (h1, .inr (3, [g7, g8, .ref h2, g9, g10, g11, g12, g13, g14, .int 0, g15, g16, g17, g18])), (h2, .inl (cI, 64, .inl zf))] H := hP
  have hD : va_D A [(h0, .inr (6, [g0, g1, .ref h1, g2, g3, g4, g5, g6, .int 0])), (h1, .inr (3, [g7, g8, .ref h2, g9, g10, g11, g12, g13, g14, .int 0, g15, g16, g17, g18])), (h2, .inl (cI, 64, .inl zf))] := hD
  refine lv_if_ne (tgt := 19) hx hb dX7_segment_14 (by decide) (fun c => ?_) (fun c => absurd c (by decide))
  refine lv_iload_n hx hb dX7_segment_19 rfl (lv_at hl 2 rfl) ?_
  refine lv_tableIn (tgt := 52) (off := 32) hx hb dX7_segment_20 (by decide) (by decide) (by decide) (by decide) ?_
  refine lv_aload_n hx hb dX7_segment_52 rfl (lv_at hl 0 rfl) ?_
  refine va_get (D := D) (ci := 6) (v := .ref h1) (C := RX7) (T := TX7) (N := 9) hx hb hts inX7_segment_X7 hown hK hP 0 rfl rfl 2 (by decide) (hts _ wdX7_segment_1) (fun _ h9 => h9) rfl dX7_segment_53 ?_
  refine lv_iload_n hx hb dX7_segment_56 rfl (lv_at hl 1 rfl) ?_
  refine kc_i (wr := [(h0, .inr (6, [g0, g1, .ref h1, g2, g3, g4, g5, g6, .int 0]))]) (va_runV (As := [.int p0]) (rest := []) ⟨hx, hb, hml, hown, hts⟩ (K158_X3_stateOf l D cB cI cZ _ h1 h2 p0 (g7) (g8) (g9) (g10) (g11) (g12) (g13) (g14) (g15) (g16) (g17) (g18) ⟨by omega, by omega⟩) (cwV 1 hts gX7_segment_X3_stateOf rfl rfl rfl (by decide +kernel) ⟨Nat.le_of_ble_eq_true rfl, Nat.le_of_ble_eq_true rfl⟩) (pre_V (q := (RX3, TX3, 14)) (ci := 3) (q0 := 0) (hP.sub [1, 2] rfl) hK hN (hD.sub [1, 2] (by decide) rfl) rfl rfl) rfl rfl hl.1 rfl (lv_room (Nat.le_of_ble_eq_true rfl)) dX7_segment_57 ⟨Nat.le_of_ble_eq_true rfl, Nat.le_of_ble_eq_true rfl⟩) hP hD hS hA [1, 2] [0] rfl rfl (by decide) (by decide) (fun r_3 u H locs hw hP hD hS => ?_)
  have k_4 := hw
  obtain rfl : r_3 = 0 := k_4
  have hP : va_P D vwCl [(h0, .inr (6, [g0, g1, .ref h1, g2, g3, g4, g5, g6, .int 0])), (h1, .inr (3, [g7, g8, .ref h2, g9, g10, g11, g12, g13, g14, .int 0, g15, g16, g17, g18])), (h2, .inl (cI, 64, .inl zf))] H := hP
  have hD : va_D A [(h0, .inr (6, [g0, g1, .ref h1, g2, g3, g4, g5, g6, .int 0])), (h1, .inr (3, [g7, g8, .ref h2, g9, g10, g11, g12, g13, g14, .int 0, g15, g16, g17, g18])), (h2, .inl (cI, 64, .inl zf))] := hD
  exact kr_i () hx hb hr hlocks (hP.sub [] rfl) (hD.sub [] (by decide) rfl) hS rfl dX7_segment_60
