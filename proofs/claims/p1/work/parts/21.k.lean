set_option maxHeartbeats 4000000 in
set_option maxRecDepth 100000 in
theorem K280_X8_in (l : Launch) (D : va_G) (cB cI cZ : ClassId) (sz : Nat)     :
    CtI l D cB cI cZ yX8_in wsX8_in { frames := 0, cells := 0, slots := 0, locals := 0 } [.int 0, .int 0, .int 3] [] sz 0 0
      (fun (r : Int32) (u : Unit) => r = 1)
      (fun u => []) := by
  refine mk_metI (cc := cX8_in) (maxL := 3) (ret := (some .boolean)) (by decide) rfl (Nat.le_of_ble_eq_true rfl) ?_
  intro p e s m below meth c A hx hb hr hml hts hown hlocks hin hP hK hN hD hA hS ls hl
  have hown : s.vm.findClass RX8 = some m.cls := hown
  have hl : lv_has ls 3 [(0, .int 0), (1, .int 0), (2, .int 3)] := hl
  refine lv_iload_n hx hb dX8_in_0 rfl (lv_at hl 0 rfl) ?_
  refine lv_iload_n hx hb dX8_in_1 rfl (lv_at hl 1 rfl) ?_
  refine lv_icmp_lt (tgt := 14) hx hb dX8_in_2 (by decide) (fun c => absurd c (by decide)) (fun c => ?_)
  refine lv_iload_n hx hb dX8_in_5 rfl (lv_at hl 0 rfl) ?_
  refine lv_iload_n hx hb dX8_in_6 rfl (lv_at hl 2 rfl) ?_
  refine lv_icmp_gt (tgt := 14) hx hb dX8_in_7 (by decide) (fun c => absurd c (by decide)) (fun c => ?_)
  refine lv_iconst (v := 1) hx hb dX8_in_10 (by decide) ?_
  refine lv_goto (tgt := 15) hx hb dX8_in_11 (by decide) ?_
  exact kr_z () hx hb hr rfl hlocks hP hD hS rfl dX8_in_15
set_option maxHeartbeats 4000000 in
set_option maxRecDepth 100000 in
theorem K279_X8_segment (l : Launch) (D : va_G) (cB cI cZ : ClassId) (sz : Nat) (h0 : Nat) (h1 : Nat)  (p0 : Int32) (g0 : Value) (g1 : Value) (g2 : Value) (g3 : Value) (g4 : Value) (g5 : Value) (g6 : Value) (g7 : Value) (g8 : Value) (g9 : Value) (g10 : Value) (g11 : Value) (g12 : Value) (g13 : Value) (g14 : Value) (g15 : Value) (g16 : Value) (g17 : Value) (g18 : Value) (g19 : Value) (g20 : Value) (g21 : Value) (g22 : Value) (g23 : Value) (g24 : Value) (g25 : Value) (g26 : Value) (g27 : Value) (i_p0 : 8 ≤ p0.toInt ∧ p0.toInt ≤ 63) :
    CtI l D cB cI cZ yX8_segment wsX8_segment { frames := 1, cells := 0, slots := 0, locals := 22 } [.ref h0, .int p0, .int 0] [(h0, .inr (7, [g0, .int 0, g1, g2, g3, .ref h1, g4, g5, g6, g7, g8, g9, g10, g11, g12, g13, g14, g15, g16, g17, g18, g19, g20, g21, g22, g23, g24, g25, g26, g27])), (h1, .inl (cI, 64, .inl zf))] sz 0 0
      (fun (r : Int32) (u : Unit) => r = 0)
      (fun u => []) := by
  refine mk_metI (cc := cX8_segment) (maxL := 3) (ret := (some .int)) (by decide) rfl (Nat.le_of_ble_eq_true rfl) ?_
  intro p e s m below meth c A hx hb hr hml hts hown hlocks hin hP hK hN hD hA hS ls hl
  have hown : s.vm.findClass RX8 = some m.cls := hown
  have hl : lv_has ls 3 [(0, .ref h0), (1, .int p0), (2, .int 0)] := hl
  refine lv_aload_n hx hb dX8_segment_0 rfl (lv_at hl 0 rfl) ?_
  refine lv_iconst (v := 0) hx hb dX8_segment_1 (by decide) ?_
  refine va_put (D := D) (ci := 7) (v := .int 0) (ty := .int) (C := RX8) (T := TX8) (N := 30) hx hb hts inX8_segment_X8 tyX8 tyX8_ok nmX8 hown hK hP hD hS 0 rfl rfl 0 (by decide) (hts _ wdX8_segment_0) (fun _ h9 => h9) rfl (by decide +kernel) rfl rfl (Nat.le_of_ble_eq_true rfl) dX8_segment_2 (fun H locs hP hD hS => ?_)
  have hP : va_P D vwCl [(h0, .inr (7, [.int 0, .int 0, g1, g2, g3, .ref h1, g4, g5, g6, g7, g8, g9, g10, g11, g12, g13, g14, g15, g16, g17, g18, g19, g20, g21, g22, g23, g24, g25, g26, g27])), (h1, .inl (cI, 64, .inl zf))] H := hP
  have hD : va_D A [(h0, .inr (7, [.int 0, .int 0, g1, g2, g3, .ref h1, g4, g5, g6, g7, g8, g9, g10, g11, g12, g13, g14, g15, g16, g17, g18, g19, g20, g21, g22, g23, g24, g25, g26, g27])), (h1, .inl (cI, 64, .inl zf))] := hD
  refine lv_aload_n hx hb dX8_segment_5 rfl (lv_at hl 0 rfl) ?_
  refine va_get (D := D) (ci := 7) (v := .int 0) (C := RX8) (T := TX8) (N := 30) hx hb hts inX8_segment_X8 hown hK hP 0 rfl rfl 1 (by decide) (hts _ wdX8_segment_1) (fun _ h9 => h9) rfl dX8_segment_6 ?_
  refine lv_if_eq (tgt := 15) hx hb dX8_segment_9 (by decide) (fun c => ?_) (fun c => absurd (by decide) c)
  refine lv_iload_n hx hb dX8_segment_15 rfl (lv_at hl 1 rfl) ?_
  refine lv_bipush (v := 8) hx hb dX8_segment_16 (by decide) ?_
  refine lv_bipush (v := 63) hx hb dX8_segment_18 (by decide) ?_
  refine kc_i (wr := [(h0, .inr (7, [.int 0, .int 0, g1, g2, g3, .ref h1, g4, g5, g6, g7, g8, g9, g10, g11, g12, g13, g14, g15, g16, g17, g18, g19, g20, g21, g22, g23, g24, g25, g26, g27])), (h1, .inl (cI, 64, .inl zf))]) (va_runS (As := [.int p0, .int 8, .int 63]) (rest := []) ⟨hx, hb, hml, hown, hts⟩ (K273_X8_in l D cB cI cZ _ p0 ⟨by omega, by omega⟩) (va_cwS 3 hts gX8_segment_X8_in rfl rfl rfl (by decide +kernel) ⟨Nat.le_of_ble_eq_true rfl, Nat.le_of_ble_eq_true rfl⟩) (pre_S (hP.sub [] rfl) hK hN (hD.sub [] (by decide) rfl)) rfl rfl hl.1 rfl (lv_room (Nat.le_of_ble_eq_true rfl)) dX8_segment_20 ⟨Nat.le_of_ble_eq_true rfl, Nat.le_of_ble_eq_true rfl⟩) hP hD hS hA [] [0, 1] rfl rfl (by decide) (by decide) (fun r_1 u H locs hw hP hD hS => ?_)
  have k_2 := hw
  obtain rfl : r_1 = 1 := k_2
  have hP : va_P D vwCl [(h0, .inr (7, [.int 0, .int 0, g1, g2, g3, .ref h1, g4, g5, g6, g7, g8, g9, g10, g11, g12, g13, g14, g15, g16, g17, g18, g19, g20, g21, g22, g23, g24, g25, g26, g27])), (h1, .inl (cI, 64, .inl zf))] H := hP
  have hD : va_D A [(h0, .inr (7, [.int 0, .int 0, g1, g2, g3, .ref h1, g4, g5, g6, g7, g8, g9, g10, g11, g12, g13, g14, g15, g16, g17, g18, g19, g20, g21, g22, g23, g24, g25, g26, g27])), (h1, .inl (cI, 64, .inl zf))] := hD
  refine lv_if_ne (tgt := 28) hx hb dX8_segment_23 (by decide) (fun c => ?_) (fun c => absurd c (by decide))
  refine lv_iload_n hx hb dX8_segment_28 rfl (lv_at hl 2 rfl) ?_
  refine lv_iconst (v := 0) hx hb dX8_segment_29 (by decide) ?_
  refine lv_iconst (v := 3) hx hb dX8_segment_30 (by decide) ?_
  refine kc_i (wr := [(h0, .inr (7, [.int 0, .int 0, g1, g2, g3, .ref h1, g4, g5, g6, g7, g8, g9, g10, g11, g12, g13, g14, g15, g16, g17, g18, g19, g20, g21, g22, g23, g24, g25, g26, g27])), (h1, .inl (cI, 64, .inl zf))]) (va_runS (As := [.int 0, .int 0, .int 3]) (rest := []) ⟨hx, hb, hml, hown, hts⟩ (K280_X8_in l D cB cI cZ _ ) (va_cwS 3 hts gX8_segment_X8_in rfl rfl rfl (by decide +kernel) ⟨Nat.le_of_ble_eq_true rfl, Nat.le_of_ble_eq_true rfl⟩) (pre_S (hP.sub [] rfl) hK hN (hD.sub [] (by decide) rfl)) rfl rfl hl.1 rfl (lv_room (Nat.le_of_ble_eq_true rfl)) dX8_segment_31 ⟨Nat.le_of_ble_eq_true rfl, Nat.le_of_ble_eq_true rfl⟩) hP hD hS hA [] [0, 1] rfl rfl (by decide) (by decide) (fun r_3 u H locs hw hP hD hS => ?_)
  have k_4 := hw
  obtain rfl : r_3 = 1 := k_4
  have hP : va_P D vwCl [(h0, .inr (7, [.int 0, .int 0, g1, g2, g3, .ref h1, g4, g5, g6, g7, g8, g9, g10, g11, g12, g13, g14, g15, g16, g17, g18, g19, g20, g21, g22, g23, g24, g25, g26, g27])), (h1, .inl (cI, 64, .inl zf))] H := hP
  have hD : va_D A [(h0, .inr (7, [.int 0, .int 0, g1, g2, g3, .ref h1, g4, g5, g6, g7, g8, g9, g10, g11, g12, g13, g14, g15, g16, g17, g18, g19, g20, g21, g22, g23, g24, g25, g26, g27])), (h1, .inl (cI, 64, .inl zf))] := hD
  refine lv_if_ne (tgt := 40) hx hb dX8_segment_34 (by decide) (fun c => ?_) (fun c => absurd c (by decide))
  refine lv_iload_n hx hb dX8_segment_40 rfl (lv_at hl 2 rfl) ?_
  refine lv_if_ne (tgt := 51) hx hb dX8_segment_41 (by decide) (fun c => absurd (by decide) c) (fun c => ?_)
  refine lv_aload_n hx hb dX8_segment_44 rfl (lv_at hl 0 rfl) ?_
  refine va_get (D := D) (ci := 7) (v := .ref h1) (C := RX8) (T := TX8) (N := 30) hx hb hts inX8_segment_X8 hown hK hP 0 rfl rfl 5 (by decide) (hts _ wdX8_segment_2) (fun _ h9 => h9) rfl dX8_segment_45 ?_
  refine lv_iload_n hx hb dX8_segment_48 rfl (lv_at hl 1 rfl) ?_
  refine va_iald hx hb hK hP 1 1 rfl rfl (ti_in (a := p0.toInt) rfl (by omega) (by omega)) dX8_segment_49 ?_
  refine lv_topi (fun z_5 ez_5 => ?_)
  obtain rfl : z_5 = 0 := ez_5
  exact kr_i () hx hb hr hlocks (hP.sub [] rfl) (hD.sub [] (by decide) rfl) hS rfl dX8_segment_50
set_option maxHeartbeats 4000000 in
set_option maxRecDepth 100000 in
theorem K281_X7_segment (l : Launch) (D : va_G) (cB cI cZ : ClassId) (sz : Nat) (h0 : Nat) (h1 : Nat) (h2 : Nat)  (p0 : Int32) (g0 : Value) (g1 : Value) (g2 : Value) (g3 : Value) (g4 : Value) (g5 : Value) (g6 : Value) (g7 : Value) (g8 : Value) (g9 : Value) (g10 : Value) (g11 : Value) (g12 : Value) (g13 : Value) (g14 : Value) (g15 : Value) (g16 : Value) (g17 : Value) (g18 : Value) (g19 : Value) (i_p0 : 8 ≤ p0.toInt ∧ p0.toInt ≤ 63) :
    CtI l D cB cI cZ yX7_segment wsX7_segment { frames := 2, cells := 0, slots := 0, locals := 41 } [.ref h0, .int p0, .int 1] [(h0, .inr (6, [g0, g1, .ref h1, g2, g3, g4, g5, g6, .int 0])), (h1, .inr (3, [g7, g8, .ref h2, g9, g10, g11, g12, g13, g14, g15, g16, g17, g18, g19])), (h2, .inl (cI, 64, .inl zf))] sz 0 0
      (fun (r : Int32) (u : Unit) => r = 0)
      (fun u => []) := by
  refine mk_metI (cc := cX7_segment) (maxL := 3) (ret := (some .int)) (by decide) rfl (Nat.le_of_ble_eq_true rfl) ?_
  intro p e s m below meth c A hx hb hr hml hts hown hlocks hin hP hK hN hD hA hS ls hl
  have hown : s.vm.findClass RX7 = some m.cls := hown
  have hl : lv_has ls 3 [(0, .ref h0), (1, .int p0), (2, .int 1)] := hl
  refine lv_aload_n hx hb dX7_segment_0 rfl (lv_at hl 0 rfl) ?_
  refine va_get (D := D) (ci := 6) (v := .int 0) (C := RX7) (T := TX7) (N := 9) hx hb hts inX7_segment_X7 hown hK hP 0 rfl rfl 8 (by decide) (hts _ wdX7_segment_0) (fun _ h9 => h9) rfl dX7_segment_1 ?_
  refine lv_if_eq (tgt := 10) hx hb dX7_segment_4 (by decide) (fun c => ?_) (fun c => absurd (by decide) c)
  refine lv_iload_n hx hb dX7_segment_10 rfl (lv_at hl 1 rfl) ?_
  refine kc_i (wr := [(h0, .inr (6, [g0, g1, .ref h1, g2, g3, g4, g5, g6, .int 0])), (h1, .inr (3, [g7, g8, .ref h2, g9, g10, g11, g12, g13, g14, g15, g16, g17, g18, g19])), (h2, .inl (cI, 64, .inl zf))]) (va_runS (As := [.int p0]) (rest := []) ⟨hx, hb, hml, hown, hts⟩ (K133_X7_isOfLog l D cB cI cZ _ p0 ⟨by omega, by omega⟩) (va_cwS 1 hts gX7_segment_X7_isOfLog rfl rfl rfl (by decide +kernel) ⟨Nat.le_of_ble_eq_true rfl, Nat.le_of_ble_eq_true rfl⟩) (pre_S (hP.sub [] rfl) hK hN (hD.sub [] (by decide) rfl)) rfl rfl hl.1 rfl (lv_room (Nat.le_of_ble_eq_true rfl)) dX7_segment_11 ⟨Nat.le_of_ble_eq_true rfl, Nat.le_of_ble_eq_true rfl⟩) hP hD hS hA [] [0, 1, 2] rfl rfl (by decide) (by decide) (fun r_1 u H locs hw hP hD hS => ?_)
  have k_2 := hw
  obtain rfl : r_1 = 1 := k_2
  have hP : va_P D vwCl [(h0, .inr (6, [g0, g1, .ref h1, g2, g3, g4, g5, g6, .int 0])), (h1, .inr (3, [g7, g8, .ref h2, g9, g10, g11, g12, g13, g14, g15, g16, g17, g18, g19])), (h2, .inl (cI, 64, .inl zf))] H := hP
  have hD : va_D A [(h0, .inr (6, [g0, g1, .ref h1, g2, g3, g4, g5, g6, .int 0])), (h1, .inr (3, [g7, g8, .ref h2, g9, g10, g11, g12, g13, g14, g15, g16, g17, g18, g19])), (h2, .inl (cI, 64, .inl zf))] := hD
  refine lv_if_ne (tgt := 19) hx hb dX7_segment_14 (by decide) (fun c => ?_) (fun c => absurd c (by decide))
  refine lv_iload_n hx hb dX7_segment_19 rfl (lv_at hl 2 rfl) ?_
  refine lv_tableIn (tgt := 61) (off := 41) hx hb dX7_segment_20 (by decide) (by decide) (by decide) (by decide) ?_
  refine lv_aload_n hx hb dX7_segment_61 rfl (lv_at hl 0 rfl) ?_
  refine va_get (D := D) (ci := 6) (v := .ref h1) (C := RX7) (T := TX7) (N := 9) hx hb hts inX7_segment_X7 hown hK hP 0 rfl rfl 2 (by decide) (hts _ wdX7_segment_1) (fun _ h9 => h9) rfl dX7_segment_62 ?_
  refine lv_iload_n hx hb dX7_segment_65 rfl (lv_at hl 1 rfl) ?_
  refine kc_i (wr := [(h0, .inr (6, [g0, g1, .ref h1, g2, g3, g4, g5, g6, .int 0]))]) (va_runV (As := [.int p0]) (rest := []) ⟨hx, hb, hml, hown, hts⟩ (K132_X3_isUsed l D cB cI cZ _ h1 h2 p0 (g7) (g8) (g9) (g10) (g11) (g12) (g13) (g14) (g15) (g16) (g17) (g18) (g19) ⟨by omega, by omega⟩) (cwV 1 hts gX7_segment_X3_isUsed rfl rfl rfl (by decide +kernel) ⟨Nat.le_of_ble_eq_true rfl, Nat.le_of_ble_eq_true rfl⟩) (pre_V (q := (RX3, TX3, 14)) (ci := 3) (q0 := 0) (hP.sub [1, 2] rfl) hK hN (hD.sub [1, 2] (by decide) rfl) rfl rfl) rfl rfl hl.1 rfl (lv_room (Nat.le_of_ble_eq_true rfl)) dX7_segment_66 ⟨Nat.le_of_ble_eq_true rfl, Nat.le_of_ble_eq_true rfl⟩) hP hD hS hA [1, 2] [0] rfl rfl (by decide) (by decide) (fun r_3 u H locs hw hP hD hS => ?_)
  have k_4 := hw
  obtain rfl : r_3 = 0 := k_4
  have hP : va_P D vwCl [(h0, .inr (6, [g0, g1, .ref h1, g2, g3, g4, g5, g6, .int 0])), (h1, .inr (3, [g7, g8, .ref h2, g9, g10, g11, g12, g13, g14, g15, g16, g17, g18, g19])), (h2, .inl (cI, 64, .inl zf))] H := hP
  have hD : va_D A [(h0, .inr (6, [g0, g1, .ref h1, g2, g3, g4, g5, g6, .int 0])), (h1, .inr (3, [g7, g8, .ref h2, g9, g10, g11, g12, g13, g14, g15, g16, g17, g18, g19])), (h2, .inl (cI, 64, .inl zf))] := hD
  refine lv_if_eq (tgt := 83) hx hb dX7_segment_69 (by decide) (fun c => ?_) (fun c => absurd (by decide) c)
  refine lv_iconst (v := 0) hx hb dX7_segment_83 (by decide) ?_
  exact kr_i () hx hb hr hlocks (hP.sub [] rfl) (hD.sub [] (by decide) rfl) hS rfl dX7_segment_84
set_option maxHeartbeats 4000000 in
set_option maxRecDepth 100000 in
theorem K283_X8_in (l : Launch) (D : va_G) (cB cI cZ : ClassId) (sz : Nat)     :
    CtI l D cB cI cZ yX8_in wsX8_in { frames := 0, cells := 0, slots := 0, locals := 0 } [.int 1, .int 0, .int 3] [] sz 0 0
      (fun (r : Int32) (u : Unit) => r = 1)
      (fun u => []) := by
  refine mk_metI (cc := cX8_in) (maxL := 3) (ret := (some .boolean)) (by decide) rfl (Nat.le_of_ble_eq_true rfl) ?_
  intro p e s m below meth c A hx hb hr hml hts hown hlocks hin hP hK hN hD hA hS ls hl
  have hown : s.vm.findClass RX8 = some m.cls := hown
  have hl : lv_has ls 3 [(0, .int 1), (1, .int 0), (2, .int 3)] := hl
  refine lv_iload_n hx hb dX8_in_0 rfl (lv_at hl 0 rfl) ?_
  refine lv_iload_n hx hb dX8_in_1 rfl (lv_at hl 1 rfl) ?_
  refine lv_icmp_lt (tgt := 14) hx hb dX8_in_2 (by decide) (fun c => absurd c (by decide)) (fun c => ?_)
  refine lv_iload_n hx hb dX8_in_5 rfl (lv_at hl 0 rfl) ?_
  refine lv_iload_n hx hb dX8_in_6 rfl (lv_at hl 2 rfl) ?_
  refine lv_icmp_gt (tgt := 14) hx hb dX8_in_7 (by decide) (fun c => absurd c (by decide)) (fun c => ?_)
  refine lv_iconst (v := 1) hx hb dX8_in_10 (by decide) ?_
  refine lv_goto (tgt := 15) hx hb dX8_in_11 (by decide) ?_
  exact kr_z () hx hb hr rfl hlocks hP hD hS rfl dX8_in_15
set_option maxHeartbeats 4000000 in
set_option maxRecDepth 100000 in
theorem K282_X8_segment (l : Launch) (D : va_G) (cB cI cZ : ClassId) (sz : Nat) (h0 : Nat) (h1 : Nat)  (p0 : Int32) (g0 : Value) (g1 : Value) (g2 : Value) (g3 : Value) (g4 : Value) (g5 : Value) (g6 : Value) (g7 : Value) (g8 : Value) (g9 : Value) (g10 : Value) (g11 : Value) (g12 : Value) (g13 : Value) (g14 : Value) (g15 : Value) (g16 : Value) (g17 : Value) (g18 : Value) (g19 : Value) (g20 : Value) (g21 : Value) (g22 : Value) (g23 : Value) (g24 : Value) (g25 : Value) (g26 : Value) (g27 : Value) (i_p0 : 8 ≤ p0.toInt ∧ p0.toInt ≤ 63) :
    CtI l D cB cI cZ yX8_segment wsX8_segment { frames := 1, cells := 0, slots := 0, locals := 22 } [.ref h0, .int p0, .int 1] [(h0, .inr (7, [g0, .int 0, g1, g2, g3, .ref h1, g4, g5, g6, g7, g8, g9, g10, g11, g12, g13, g14, g15, g16, g17, g18, g19, g20, g21, g22, g23, g24, g25, g26, g27])), (h1, .inl (cI, 64, .inl zf))] sz 0 0
      (fun (r : Int32) (u : Unit) => r = 0)
      (fun u => []) := by
  refine mk_metI (cc := cX8_segment) (maxL := 3) (ret := (some .int)) (by decide) rfl (Nat.le_of_ble_eq_true rfl) ?_
  intro p e s m below meth c A hx hb hr hml hts hown hlocks hin hP hK hN hD hA hS ls hl
  have hown : s.vm.findClass RX8 = some m.cls := hown
  have hl : lv_has ls 3 [(0, .ref h0), (1, .int p0), (2, .int 1)] := hl
  refine lv_aload_n hx hb dX8_segment_0 rfl (lv_at hl 0 rfl) ?_
  refine lv_iconst (v := 0) hx hb dX8_segment_1 (by decide) ?_
  refine va_put (D := D) (ci := 7) (v := .int 0) (ty := .int) (C := RX8) (T := TX8) (N := 30) hx hb hts inX8_segment_X8 tyX8 tyX8_ok nmX8 hown hK hP hD hS 0 rfl rfl 0 (by decide) (hts _ wdX8_segment_0) (fun _ h9 => h9) rfl (by decide +kernel) rfl rfl (Nat.le_of_ble_eq_true rfl) dX8_segment_2 (fun H locs hP hD hS => ?_)
  have hP : va_P D vwCl [(h0, .inr (7, [.int 0, .int 0, g1, g2, g3, .ref h1, g4, g5, g6, g7, g8, g9, g10, g11, g12, g13, g14, g15, g16, g17, g18, g19, g20, g21, g22, g23, g24, g25, g26, g27])), (h1, .inl (cI, 64, .inl zf))] H := hP
  have hD : va_D A [(h0, .inr (7, [.int 0, .int 0, g1, g2, g3, .ref h1, g4, g5, g6, g7, g8, g9, g10, g11, g12, g13, g14, g15, g16, g17, g18, g19, g20, g21, g22, g23, g24, g25, g26, g27])), (h1, .inl (cI, 64, .inl zf))] := hD
  refine lv_aload_n hx hb dX8_segment_5 rfl (lv_at hl 0 rfl) ?_
  refine va_get (D := D) (ci := 7) (v := .int 0) (C := RX8) (T := TX8) (N := 30) hx hb hts inX8_segment_X8 hown hK hP 0 rfl rfl 1 (by decide) (hts _ wdX8_segment_1) (fun _ h9 => h9) rfl dX8_segment_6 ?_
  refine lv_if_eq (tgt := 15) hx hb dX8_segment_9 (by decide) (fun c => ?_) (fun c => absurd (by decide) c)
  refine lv_iload_n hx hb dX8_segment_15 rfl (lv_at hl 1 rfl) ?_
  refine lv_bipush (v := 8) hx hb dX8_segment_16 (by decide) ?_
  refine lv_bipush (v := 63) hx hb dX8_segment_18 (by decide) ?_
  refine kc_i (wr := [(h0, .inr (7, [.int 0, .int 0, g1, g2, g3, .ref h1, g4, g5, g6, g7, g8, g9, g10, g11, g12, g13, g14, g15, g16, g17, g18, g19, g20, g21, g22, g23, g24, g25, g26, g27])), (h1, .inl (cI, 64, .inl zf))]) (va_runS (As := [.int p0, .int 8, .int 63]) (rest := []) ⟨hx, hb, hml, hown, hts⟩ (K273_X8_in l D cB cI cZ _ p0 ⟨by omega, by omega⟩) (va_cwS 3 hts gX8_segment_X8_in rfl rfl rfl (by decide +kernel) ⟨Nat.le_of_ble_eq_true rfl, Nat.le_of_ble_eq_true rfl⟩) (pre_S (hP.sub [] rfl) hK hN (hD.sub [] (by decide) rfl)) rfl rfl hl.1 rfl (lv_room (Nat.le_of_ble_eq_true rfl)) dX8_segment_20 ⟨Nat.le_of_ble_eq_true rfl, Nat.le_of_ble_eq_true rfl⟩) hP hD hS hA [] [0, 1] rfl rfl (by decide) (by decide) (fun r_1 u H locs hw hP hD hS => ?_)
  have k_2 := hw
  obtain rfl : r_1 = 1 := k_2
  have hP : va_P D vwCl [(h0, .inr (7, [.int 0, .int 0, g1, g2, g3, .ref h1, g4, g5, g6, g7, g8, g9, g10, g11, g12, g13, g14, g15, g16, g17, g18, g19, g20, g21, g22, g23, g24, g25, g26, g27])), (h1, .inl (cI, 64, .inl zf))] H := hP
  have hD : va_D A [(h0, .inr (7, [.int 0, .int 0, g1, g2, g3, .ref h1, g4, g5, g6, g7, g8, g9, g10, g11, g12, g13, g14, g15, g16, g17, g18, g19, g20, g21, g22, g23, g24, g25, g26, g27])), (h1, .inl (cI, 64, .inl zf))] := hD
  refine lv_if_ne (tgt := 28) hx hb dX8_segment_23 (by decide) (fun c => ?_) (fun c => absurd c (by decide))
  refine lv_iload_n hx hb dX8_segment_28 rfl (lv_at hl 2 rfl) ?_
  refine lv_iconst (v := 0) hx hb dX8_segment_29 (by decide) ?_
  refine lv_iconst (v := 3) hx hb dX8_segment_30 (by decide) ?_
  refine kc_i (wr := [(h0, .inr (7, [.int 0, .int 0, g1, g2, g3, .ref h1, g4, g5, g6, g7, g8, g9, g10, g11, g12, g13, g14, g15, g16, g17, g18, g19, g20, g21, g22, g23, g24, g25, g26, g27])), (h1, .inl (cI, 64, .inl zf))]) (va_runS (As := [.int 1, .int 0, .int 3]) (rest := []) ⟨hx, hb, hml, hown, hts⟩ (K283_X8_in l D cB cI cZ _ ) (va_cwS 3 hts gX8_segment_X8_in rfl rfl rfl (by decide +kernel) ⟨Nat.le_of_ble_eq_true rfl, Nat.le_of_ble_eq_true rfl⟩) (pre_S (hP.sub [] rfl) hK hN (hD.sub [] (by decide) rfl)) rfl rfl hl.1 rfl (lv_room (Nat.le_of_ble_eq_true rfl)) dX8_segment_31 ⟨Nat.le_of_ble_eq_true rfl, Nat.le_of_ble_eq_true rfl⟩) hP hD hS hA [] [0, 1] rfl rfl (by decide) (by decide) (fun r_3 u H locs hw hP hD hS => ?_)
  have k_4 := hw
  obtain rfl : r_3 = 1 := k_4
  have hP : va_P D vwCl [(h0, .inr (7, [.int 0, .int 0, g1, g2, g3, .ref h1, g4, g5, g6, g7, g8, g9, g10, g11, g12, g13, g14, g15, g16, g17, g18, g19, g20, g21, g22, g23, g24, g25, g26, g27])), (h1, .inl (cI, 64, .inl zf))] H := hP
  have hD : va_D A [(h0, .inr (7, [.int 0, .int 0, g1, g2, g3, .ref h1, g4, g5, g6, g7, g8, g9, g10, g11, g12, g13, g14, g15, g16, g17, g18, g19, g20, g21, g22, g23, g24, g25, g26, g27])), (h1, .inl (cI, 64, .inl zf))] := hD
  refine lv_if_ne (tgt := 40) hx hb dX8_segment_34 (by decide) (fun c => ?_) (fun c => absurd c (by decide))
  refine lv_iload_n hx hb dX8_segment_40 rfl (lv_at hl 2 rfl) ?_
  refine lv_if_ne (tgt := 51) hx hb dX8_segment_41 (by decide) (fun c => ?_) (fun c => absurd c (by decide))
  refine lv_aload_n hx hb dX8_segment_51 rfl (lv_at hl 0 rfl) ?_
  refine va_get (D := D) (ci := 7) (v := .ref h1) (C := RX8) (T := TX8) (N := 30) hx hb hts inX8_segment_X8 hown hK hP 0 rfl rfl 5 (by decide) (hts _ wdX8_segment_2) (fun _ h9 => h9) rfl dX8_segment_52 ?_
  refine lv_iload_n hx hb dX8_segment_55 rfl (lv_at hl 1 rfl) ?_
  refine va_iald hx hb hK hP 1 1 rfl rfl (ti_in (a := p0.toInt) rfl (by omega) (by omega)) dX8_segment_56 ?_
  refine lv_topi (fun z_5 ez_5 => ?_)
  obtain rfl : z_5 = 0 := ez_5
  refine lv_if_eq (tgt := 70) hx hb dX8_segment_57 (by decide) (fun c => ?_) (fun c => absurd (by decide) c)
  refine lv_iconst (v := 0) hx hb dX8_segment_70 (by decide) ?_
  exact kr_i () hx hb hr hlocks (hP.sub [] rfl) (hD.sub [] (by decide) rfl) hS rfl dX8_segment_71
set_option maxHeartbeats 4000000 in
set_option maxRecDepth 100000 in
theorem K284_X7_segment (l : Launch) (D : va_G) (cB cI cZ : ClassId) (sz : Nat) (h0 : Nat) (h1 : Nat) (h2 : Nat)  (p0 : Int32) (g0 : Value) (g1 : Value) (g2 : Value) (g3 : Value) (g4 : Value) (g5 : Value) (g6 : Value) (g7 : Value) (g8 : Value) (g9 : Value) (g10 : Value) (g11 : Value) (g12 : Value) (g13 : Value) (g14 : Value) (g15 : Value) (g16 : Value) (g17 : Value) (g18 : Value) (g19 : Value) (i_p0 : 8 ≤ p0.toInt ∧ p0.toInt ≤ 63) :
    CtI l D cB cI cZ yX7_segment wsX7_segment { frames := 2, cells := 0, slots := 0, locals := 41 } [.ref h0, .int p0, .int 2] [(h0, .inr (6, [g0, g1, .ref h1, g2, g3, g4, g5, g6, .int 0])), (h1, .inr (3, [g7, g8, .ref h2, g9, g10, g11, g12, g13, g14, g15, g16, g17, g18, g19])), (h2, .inl (cI, 64, .inl zf))] sz 0 0
      (fun (r : Int32) (u : Unit) => r = 0)
      (fun u => []) := by
  refine mk_metI (cc := cX7_segment) (maxL := 3) (ret := (some .int)) (by decide) rfl (Nat.le_of_ble_eq_true rfl) ?_
  intro p e s m below meth c A hx hb hr hml hts hown hlocks hin hP hK hN hD hA hS ls hl
  have hown : s.vm.findClass RX7 = some m.cls := hown
  have hl : lv_has ls 3 [(0, .ref h0), (1, .int p0), (2, .int 2)] := hl
  refine lv_aload_n hx hb dX7_segment_0 rfl (lv_at hl 0 rfl) ?_
  refine va_get (D := D) (ci := 6) (v := .int 0) (C := RX7) (T := TX7) (N := 9) hx hb hts inX7_segment_X7 hown hK hP 0 rfl rfl 8 (by decide) (hts _ wdX7_segment_0) (fun _ h9 => h9) rfl dX7_segment_1 ?_
  refine lv_if_eq (tgt := 10) hx hb dX7_segment_4 (by decide) (fun c => ?_) (fun c => absurd (by decide) c)
  refine lv_iload_n hx hb dX7_segment_10 rfl (lv_at hl 1 rfl) ?_
  refine kc_i (wr := [(h0, .inr (6, [g0, g1, .ref h1, g2, g3, g4, g5, g6, .int 0])), (h1, .inr (3, [g7, g8, .ref h2, g9, g10, g11, g12, g13, g14, g15, g16, g17, g18, g19])), (h2, .inl (cI, 64, .inl zf))]) (va_runS (As := [.int p0]) (rest := []) ⟨hx, hb, hml, hown, hts⟩ (K133_X7_isOfLog l D cB cI cZ _ p0 ⟨by omega, by omega⟩) (va_cwS 1 hts gX7_segment_X7_isOfLog rfl rfl rfl (by decide +kernel) ⟨Nat.le_of_ble_eq_true rfl, Nat.le_of_ble_eq_true rfl⟩) (pre_S (hP.sub [] rfl) hK hN (hD.sub [] (by decide) rfl)) rfl rfl hl.1 rfl (lv_room (Nat.le_of_ble_eq_true rfl)) dX7_segment_11 ⟨Nat.le_of_ble_eq_true rfl, Nat.le_of_ble_eq_true rfl⟩) hP hD hS hA [] [0, 1, 2] rfl rfl (by decide) (by decide) (fun r_1 u H locs hw hP hD hS => ?_)
  have k_2 := hw
  obtain rfl : r_1 = 1 := k_2
  have hP : va_P D vwCl [(h0, .inr (6, [g0, g1, .ref h1, g2, g3, g4, g5, g6, .int 0])), (h1, .inr (3, [g7, g8, .ref h2, g9, g10, g11, g12, g13, g14, g15, g16, g17, g18, g19])), (h2, .inl (cI, 64, .inl zf))] H := hP
  have hD : va_D A [(h0, .inr (6, [g0, g1, .ref h1, g2, g3, g4, g5, g6, .int 0])), (h1, .inr (3, [g7, g8, .ref h2, g9, g10, g11, g12, g13, g14, g15, g16, g17, g18, g19])), (h2, .inl (cI, 64, .inl zf))] := hD
  refine lv_if_ne (tgt := 19) hx hb dX7_segment_14 (by decide) (fun c => ?_) (fun c => absurd c (by decide))
  refine lv_iload_n hx hb dX7_segment_19 rfl (lv_at hl 2 rfl) ?_
  refine lv_tableIn (tgt := 85) (off := 65) hx hb dX7_segment_20 (by decide) (by decide) (by decide) (by decide) ?_
  refine lv_aload_n hx hb dX7_segment_85 rfl (lv_at hl 0 rfl) ?_
  refine va_get (D := D) (ci := 6) (v := .ref h1) (C := RX7) (T := TX7) (N := 9) hx hb hts inX7_segment_X7 hown hK hP 0 rfl rfl 2 (by decide) (hts _ wdX7_segment_1) (fun _ h9 => h9) rfl dX7_segment_86 ?_
  refine lv_iload_n hx hb dX7_segment_89 rfl (lv_at hl 1 rfl) ?_
  refine kc_i (wr := [(h0, .inr (6, [g0, g1, .ref h1, g2, g3, g4, g5, g6, .int 0]))]) (va_runV (As := [.int p0]) (rest := []) ⟨hx, hb, hml, hown, hts⟩ (K132_X3_isUsed l D cB cI cZ _ h1 h2 p0 (g7) (g8) (g9) (g10) (g11) (g12) (g13) (g14) (g15) (g16) (g17) (g18) (g19) ⟨by omega, by omega⟩) (cwV 1 hts gX7_segment_X3_isUsed rfl rfl rfl (by decide +kernel) ⟨Nat.le_of_ble_eq_true rfl, Nat.le_of_ble_eq_true rfl⟩) (pre_V (q := (RX3, TX3, 14)) (ci := 3) (q0 := 0) (hP.sub [1, 2] rfl) hK hN (hD.sub [1, 2] (by decide) rfl) rfl rfl) rfl rfl hl.1 rfl (lv_room (Nat.le_of_ble_eq_true rfl)) dX7_segment_90 ⟨Nat.le_of_ble_eq_true rfl, Nat.le_of_ble_eq_true rfl⟩) hP hD hS hA [1, 2] [0] rfl rfl (by decide) (by decide) (fun r_3 u H locs hw hP hD hS => ?_)
  have k_4 := hw
  obtain rfl : r_3 = 0 := k_4
  have hP : va_P D vwCl [(h0, .inr (6, [g0, g1, .ref h1, g2, g3, g4, g5, g6, .int 0])), (h1, .inr (3, [g7, g8, .ref h2, g9, g10, g11, g12, g13, g14, g15, g16, g17, g18, g19])), (h2, .inl (cI, 64, .inl zf))] H := hP
  have hD : va_D A [(h0, .inr (6, [g0, g1, .ref h1, g2, g3, g4, g5, g6, .int 0])), (h1, .inr (3, [g7, g8, .ref h2, g9, g10, g11, g12, g13, g14, g15, g16, g17, g18, g19])), (h2, .inl (cI, 64, .inl zf))] := hD
  refine lv_if_eq (tgt := 107) hx hb dX7_segment_93 (by decide) (fun c => ?_) (fun c => absurd (by decide) c)
  refine lv_iconst (v := 0) hx hb dX7_segment_107 (by decide) ?_
  exact kr_i () hx hb hr hlocks (hP.sub [] rfl) (hD.sub [] (by decide) rfl) hS rfl dX7_segment_108
set_option maxHeartbeats 4000000 in
set_option maxRecDepth 100000 in
theorem K286_X8_in (l : Launch) (D : va_G) (cB cI cZ : ClassId) (sz : Nat)     :
    CtI l D cB cI cZ yX8_in wsX8_in { frames := 0, cells := 0, slots := 0, locals := 0 } [.int 2, .int 0, .int 3] [] sz 0 0
      (fun (r : Int32) (u : Unit) => r = 1)
      (fun u => []) := by
  refine mk_metI (cc := cX8_in) (maxL := 3) (ret := (some .boolean)) (by decide) rfl (Nat.le_of_ble_eq_true rfl) ?_
  intro p e s m below meth c A hx hb hr hml hts hown hlocks hin hP hK hN hD hA hS ls hl
  have hown : s.vm.findClass RX8 = some m.cls := hown
  have hl : lv_has ls 3 [(0, .int 2), (1, .int 0), (2, .int 3)] := hl
  refine lv_iload_n hx hb dX8_in_0 rfl (lv_at hl 0 rfl) ?_
  refine lv_iload_n hx hb dX8_in_1 rfl (lv_at hl 1 rfl) ?_
  refine lv_icmp_lt (tgt := 14) hx hb dX8_in_2 (by decide) (fun c => absurd c (by decide)) (fun c => ?_)
  refine lv_iload_n hx hb dX8_in_5 rfl (lv_at hl 0 rfl) ?_
  refine lv_iload_n hx hb dX8_in_6 rfl (lv_at hl 2 rfl) ?_
  refine lv_icmp_gt (tgt := 14) hx hb dX8_in_7 (by decide) (fun c => absurd c (by decide)) (fun c => ?_)
  refine lv_iconst (v := 1) hx hb dX8_in_10 (by decide) ?_
  refine lv_goto (tgt := 15) hx hb dX8_in_11 (by decide) ?_
  exact kr_z () hx hb hr rfl hlocks hP hD hS rfl dX8_in_15
set_option maxHeartbeats 4000000 in
set_option maxRecDepth 100000 in
theorem K285_X8_segment (l : Launch) (D : va_G) (cB cI cZ : ClassId) (sz : Nat) (h0 : Nat) (h1 : Nat)  (p0 : Int32) (g0 : Value) (g1 : Value) (g2 : Value) (g3 : Value) (g4 : Value) (g5 : Value) (g6 : Value) (g7 : Value) (g8 : Value) (g9 : Value) (g10 : Value) (g11 : Value) (g12 : Value) (g13 : Value) (g14 : Value) (g15 : Value) (g16 : Value) (g17 : Value) (g18 : Value) (g19 : Value) (g20 : Value) (g21 : Value) (g22 : Value) (g23 : Value) (g24 : Value) (g25 : Value) (g26 : Value) (g27 : Value) (i_p0 : 8 ≤ p0.toInt ∧ p0.toInt ≤ 63) :
    CtI l D cB cI cZ yX8_segment wsX8_segment { frames := 1, cells := 0, slots := 0, locals := 22 } [.ref h0, .int p0, .int 2] [(h0, .inr (7, [g0, .int 0, g1, g2, g3, .ref h1, g4, g5, g6, g7, g8, g9, g10, g11, g12, g13, g14, g15, g16, g17, g18, g19, g20, g21, g22, g23, g24, g25, g26, g27])), (h1, .inl (cI, 64, .inl zf))] sz 0 0
      (fun (r : Int32) (u : Unit) => r = 0)
      (fun u => []) := by
  refine mk_metI (cc := cX8_segment) (maxL := 3) (ret := (some .int)) (by decide) rfl (Nat.le_of_ble_eq_true rfl) ?_
  intro p e s m below meth c A hx hb hr hml hts hown hlocks hin hP hK hN hD hA hS ls hl
  have hown : s.vm.findClass RX8 = some m.cls := hown
  have hl : lv_has ls 3 [(0, .ref h0), (1, .int p0), (2, .int 2)] := hl
  refine lv_aload_n hx hb dX8_segment_0 rfl (lv_at hl 0 rfl) ?_
  refine lv_iconst (v := 0) hx hb dX8_segment_1 (by decide) ?_
  refine va_put (D := D) (ci := 7) (v := .int 0) (ty := .int) (C := RX8) (T := TX8) (N := 30) hx hb hts inX8_segment_X8 tyX8 tyX8_ok nmX8 hown hK hP hD hS 0 rfl rfl 0 (by decide) (hts _ wdX8_segment_0) (fun _ h9 => h9) rfl (by decide +kernel) rfl rfl (Nat.le_of_ble_eq_true rfl) dX8_segment_2 (fun H locs hP hD hS => ?_)
  have hP : va_P D vwCl [(h0, .inr (7, [.int 0, .int 0, g1, g2, g3, .ref h1, g4, g5, g6, g7, g8, g9, g10, g11, g12, g13, g14, g15, g16, g17, g18, g19, g20, g21, g22, g23, g24, g25, g26, g27])), (h1, .inl (cI, 64, .inl zf))] H := hP
  have hD : va_D A [(h0, .inr (7, [.int 0, .int 0, g1, g2, g3, .ref h1, g4, g5, g6, g7, g8, g9, g10, g11, g12, g13, g14, g15, g16, g17, g18, g19, g20, g21, g22, g23, g24, g25, g26, g27])), (h1, .inl (cI, 64, .inl zf))] := hD
  refine lv_aload_n hx hb dX8_segment_5 rfl (lv_at hl 0 rfl) ?_
  refine va_get (D := D) (ci := 7) (v := .int 0) (C := RX8) (T := TX8) (N := 30) hx hb hts inX8_segment_X8 hown hK hP 0 rfl rfl 1 (by decide) (hts _ wdX8_segment_1) (fun _ h9 => h9) rfl dX8_segment_6 ?_
  refine lv_if_eq (tgt := 15) hx hb dX8_segment_9 (by decide) (fun c => ?_) (fun c => absurd (by decide) c)
  refine lv_iload_n hx hb dX8_segment_15 rfl (lv_at hl 1 rfl) ?_
  refine lv_bipush (v := 8) hx hb dX8_segment_16 (by decide) ?_
  refine lv_bipush (v := 63) hx hb dX8_segment_18 (by decide) ?_
  refine kc_i (wr := [(h0, .inr (7, [.int 0, .int 0, g1, g2, g3, .ref h1, g4, g5, g6, g7, g8, g9, g10, g11, g12, g13, g14, g15, g16, g17, g18, g19, g20, g21, g22, g23, g24, g25, g26, g27])), (h1, .inl (cI, 64, .inl zf))]) (va_runS (As := [.int p0, .int 8, .int 63]) (rest := []) ⟨hx, hb, hml, hown, hts⟩ (K273_X8_in l D cB cI cZ _ p0 ⟨by omega, by omega⟩) (va_cwS 3 hts gX8_segment_X8_in rfl rfl rfl (by decide +kernel) ⟨Nat.le_of_ble_eq_true rfl, Nat.le_of_ble_eq_true rfl⟩) (pre_S (hP.sub [] rfl) hK hN (hD.sub [] (by decide) rfl)) rfl rfl hl.1 rfl (lv_room (Nat.le_of_ble_eq_true rfl)) dX8_segment_20 ⟨Nat.le_of_ble_eq_true rfl, Nat.le_of_ble_eq_true rfl⟩) hP hD hS hA [] [0, 1] rfl rfl (by decide) (by decide) (fun r_1 u H locs hw hP hD hS => ?_)
  have k_2 := hw
  obtain rfl : r_1 = 1 := k_2
  have hP : va_P D vwCl [(h0, .inr (7, [.int 0, .int 0, g1, g2, g3, .ref h1, g4, g5, g6, g7, g8, g9, g10, g11, g12, g13, g14, g15, g16, g17, g18, g19, g20, g21, g22, g23, g24, g25, g26, g27])), (h1, .inl (cI, 64, .inl zf))] H := hP
  have hD : va_D A [(h0, .inr (7, [.int 0, .int 0, g1, g2, g3, .ref h1, g4, g5, g6, g7, g8, g9, g10, g11, g12, g13, g14, g15, g16, g17, g18, g19, g20, g21, g22, g23, g24, g25, g26, g27])), (h1, .inl (cI, 64, .inl zf))] := hD
  refine lv_if_ne (tgt := 28) hx hb dX8_segment_23 (by decide) (fun c => ?_) (fun c => absurd c (by decide))
  refine lv_iload_n hx hb dX8_segment_28 rfl (lv_at hl 2 rfl) ?_
  refine lv_iconst (v := 0) hx hb dX8_segment_29 (by decide) ?_
  refine lv_iconst (v := 3) hx hb dX8_segment_30 (by decide) ?_
  refine kc_i (wr := [(h0, .inr (7, [.int 0, .int 0, g1, g2, g3, .ref h1, g4, g5, g6, g7, g8, g9, g10, g11, g12, g13, g14, g15, g16, g17, g18, g19, g20, g21, g22, g23, g24, g25, g26, g27])), (h1, .inl (cI, 64, .inl zf))]) (va_runS (As := [.int 2, .int 0, .int 3]) (rest := []) ⟨hx, hb, hml, hown, hts⟩ (K286_X8_in l D cB cI cZ _ ) (va_cwS 3 hts gX8_segment_X8_in rfl rfl rfl (by decide +kernel) ⟨Nat.le_of_ble_eq_true rfl, Nat.le_of_ble_eq_true rfl⟩) (pre_S (hP.sub [] rfl) hK hN (hD.sub [] (by decide) rfl)) rfl rfl hl.1 rfl (lv_room (Nat.le_of_ble_eq_true rfl)) dX8_segment_31 ⟨Nat.le_of_ble_eq_true rfl, Nat.le_of_ble_eq_true rfl⟩) hP hD hS hA [] [0, 1] rfl rfl (by decide) (by decide) (fun r_3 u H locs hw hP hD hS => ?_)
  have k_4 := hw
  obtain rfl : r_3 = 1 := k_4
  have hP : va_P D vwCl [(h0, .inr (7, [.int 0, .int 0, g1, g2, g3, .ref h1, g4, g5, g6, g7, g8, g9, g10, g11, g12, g13, g14, g15, g16, g17, g18, g19, g20, g21, g22, g23, g24, g25, g26, g27])), (h1, .inl (cI, 64, .inl zf))] H := hP
  have hD : va_D A [(h0, .inr (7, [.int 0, .int 0, g1, g2, g3, .ref h1, g4, g5, g6, g7, g8, g9, g10, g11, g12, g13, g14, g15, g16, g17, g18, g19, g20, g21, g22, g23, g24, g25, g26, g27])), (h1, .inl (cI, 64, .inl zf))] := hD
  refine lv_if_ne (tgt := 40) hx hb dX8_segment_34 (by decide) (fun c => ?_) (fun c => absurd c (by decide))
  refine lv_iload_n hx hb dX8_segment_40 rfl (lv_at hl 2 rfl) ?_
  refine lv_if_ne (tgt := 51) hx hb dX8_segment_41 (by decide) (fun c => ?_) (fun c => absurd c (by decide))
  refine lv_aload_n hx hb dX8_segment_51 rfl (lv_at hl 0 rfl) ?_
  refine va_get (D := D) (ci := 7) (v := .ref h1) (C := RX8) (T := TX8) (N := 30) hx hb hts inX8_segment_X8 hown hK hP 0 rfl rfl 5 (by decide) (hts _ wdX8_segment_2) (fun _ h9 => h9) rfl dX8_segment_52 ?_
  refine lv_iload_n hx hb dX8_segment_55 rfl (lv_at hl 1 rfl) ?_
  refine va_iald hx hb hK hP 1 1 rfl rfl (ti_in (a := p0.toInt) rfl (by omega) (by omega)) dX8_segment_56 ?_
  refine lv_topi (fun z_5 ez_5 => ?_)
  obtain rfl : z_5 = 0 := ez_5
  refine lv_if_eq (tgt := 70) hx hb dX8_segment_57 (by decide) (fun c => ?_) (fun c => absurd (by decide) c)
  refine lv_iconst (v := 0) hx hb dX8_segment_70 (by decide) ?_
  exact kr_i () hx hb hr hlocks (hP.sub [] rfl) (hD.sub [] (by decide) rfl) hS rfl dX8_segment_71
set_option maxHeartbeats 4000000 in
set_option maxRecDepth 100000 in
theorem K287_X7_segment (l : Launch) (D : va_G) (cB cI cZ : ClassId) (sz : Nat) (h0 : Nat) (h1 : Nat) (h2 : Nat)  (p0 : Int32) (g0 : Value) (g1 : Value) (g2 : Value) (g3 : Value) (g4 : Value) (g5 : Value) (g6 : Value) (g7 : Value) (g8 : Value) (g9 : Value) (g10 : Value) (g11 : Value) (g12 : Value) (g13 : Value) (g14 : Value) (g15 : Value) (g16 : Value) (g17 : Value) (g18 : Value) (g19 : Value) (i_p0 : 8 ≤ p0.toInt ∧ p0.toInt ≤ 63) :
    CtI l D cB cI cZ yX7_segment wsX7_segment { frames := 2, cells := 0, slots := 0, locals := 41 } [.ref h0, .int p0, .int 3] [(h0, .inr (6, [g0, g1, .ref h1, g2, g3, g4, g5, g6, .int 0])), (h1, .inr (3, [g7, g8, .ref h2, g9, g10, g11, g12, g13, g14, g15, g16, g17, g18, g19])), (h2, .inl (cI, 64, .inl zf))] sz 0 0
      (fun (r : Int32) (u : Unit) => r = 0)
      (fun u => []) := by
  refine mk_metI (cc := cX7_segment) (maxL := 3) (ret := (some .int)) (by decide) rfl (Nat.le_of_ble_eq_true rfl) ?_
  intro p e s m below meth c A hx hb hr hml hts hown hlocks hin hP hK hN hD hA hS ls hl
  have hown : s.vm.findClass RX7 = some m.cls := hown
  have hl : lv_has ls 3 [(0, .ref h0), (1, .int p0), (2, .int 3)] := hl
  refine lv_aload_n hx hb dX7_segment_0 rfl (lv_at hl 0 rfl) ?_
  refine va_get (D := D) (ci := 6) (v := .int 0) (C := RX7) (T := TX7) (N := 9) hx hb hts inX7_segment_X7 hown hK hP 0 rfl rfl 8 (by decide) (hts _ wdX7_segment_0) (fun _ h9 => h9) rfl dX7_segment_1 ?_
  refine lv_if_eq (tgt := 10) hx hb dX7_segment_4 (by decide) (fun c => ?_) (fun c => absurd (by decide) c)
  refine lv_iload_n hx hb dX7_segment_10 rfl (lv_at hl 1 rfl) ?_
  refine kc_i (wr := [(h0, .inr (6, [g0, g1, .ref h1, g2, g3, g4, g5, g6, .int 0])), (h1, .inr (3, [g7, g8, .ref h2, g9, g10, g11, g12, g13, g14, g15, g16, g17, g18, g19])), (h2, .inl (cI, 64, .inl zf))]) (va_runS (As := [.int p0]) (rest := []) ⟨hx, hb, hml, hown, hts⟩ (K133_X7_isOfLog l D cB cI cZ _ p0 ⟨by omega, by omega⟩) (va_cwS 1 hts gX7_segment_X7_isOfLog rfl rfl rfl (by decide +kernel) ⟨Nat.le_of_ble_eq_true rfl, Nat.le_of_ble_eq_true rfl⟩) (pre_S (hP.sub [] rfl) hK hN (hD.sub [] (by decide) rfl)) rfl rfl hl.1 rfl (lv_room (Nat.le_of_ble_eq_true rfl)) dX7_segment_11 ⟨Nat.le_of_ble_eq_true rfl, Nat.le_of_ble_eq_true rfl⟩) hP hD hS hA [] [0, 1, 2] rfl rfl (by decide) (by decide) (fun r_1 u H locs hw hP hD hS => ?_)
  have k_2 := hw
  obtain rfl : r_1 = 1 := k_2
  have hP : va_P D vwCl [(h0, .inr (6, [g0, g1, .ref h1, g2, g3, g4, g5, g6, .int 0])), (h1, .inr (3, [g7, g8, .ref h2, g9, g10, g11, g12, g13, g14, g15, g16, g17, g18, g19])), (h2, .inl (cI, 64, .inl zf))] H := hP
  have hD : va_D A [(h0, .inr (6, [g0, g1, .ref h1, g2, g3, g4, g5, g6, .int 0])), (h1, .inr (3, [g7, g8, .ref h2, g9, g10, g11, g12, g13, g14, g15, g16, g17, g18, g19])), (h2, .inl (cI, 64, .inl zf))] := hD
  refine lv_if_ne (tgt := 19) hx hb dX7_segment_14 (by decide) (fun c => ?_) (fun c => absurd c (by decide))
  refine lv_iload_n hx hb dX7_segment_19 rfl (lv_at hl 2 rfl) ?_
  refine lv_tableIn (tgt := 109) (off := 89) hx hb dX7_segment_20 (by decide) (by decide) (by decide) (by decide) ?_
  refine lv_aload_n hx hb dX7_segment_109 rfl (lv_at hl 0 rfl) ?_
  refine va_get (D := D) (ci := 6) (v := .ref h1) (C := RX7) (T := TX7) (N := 9) hx hb hts inX7_segment_X7 hown hK hP 0 rfl rfl 2 (by decide) (hts _ wdX7_segment_1) (fun _ h9 => h9) rfl dX7_segment_110 ?_
  refine lv_iload_n hx hb dX7_segment_113 rfl (lv_at hl 1 rfl) ?_
  refine kc_i (wr := [(h0, .inr (6, [g0, g1, .ref h1, g2, g3, g4, g5, g6, .int 0]))]) (va_runV (As := [.int p0]) (rest := []) ⟨hx, hb, hml, hown, hts⟩ (K132_X3_isUsed l D cB cI cZ _ h1 h2 p0 (g7) (g8) (g9) (g10) (g11) (g12) (g13) (g14) (g15) (g16) (g17) (g18) (g19) ⟨by omega, by omega⟩) (cwV 1 hts gX7_segment_X3_isUsed rfl rfl rfl (by decide +kernel) ⟨Nat.le_of_ble_eq_true rfl, Nat.le_of_ble_eq_true rfl⟩) (pre_V (q := (RX3, TX3, 14)) (ci := 3) (q0 := 0) (hP.sub [1, 2] rfl) hK hN (hD.sub [1, 2] (by decide) rfl) rfl rfl) rfl rfl hl.1 rfl (lv_room (Nat.le_of_ble_eq_true rfl)) dX7_segment_114 ⟨Nat.le_of_ble_eq_true rfl, Nat.le_of_ble_eq_true rfl⟩) hP hD hS hA [1, 2] [0] rfl rfl (by decide) (by decide) (fun r_3 u H locs hw hP hD hS => ?_)
  have k_4 := hw
  obtain rfl : r_3 = 0 := k_4
  have hP : va_P D vwCl [(h0, .inr (6, [g0, g1, .ref h1, g2, g3, g4, g5, g6, .int 0])), (h1, .inr (3, [g7, g8, .ref h2, g9, g10, g11, g12, g13, g14, g15, g16, g17, g18, g19])), (h2, .inl (cI, 64, .inl zf))] H := hP
  have hD : va_D A [(h0, .inr (6, [g0, g1, .ref h1, g2, g3, g4, g5, g6, .int 0])), (h1, .inr (3, [g7, g8, .ref h2, g9, g10, g11, g12, g13, g14, g15, g16, g17, g18, g19])), (h2, .inl (cI, 64, .inl zf))] := hD
  refine lv_if_eq (tgt := 131) hx hb dX7_segment_117 (by decide) (fun c => ?_) (fun c => absurd (by decide) c)
  refine lv_iconst (v := 0) hx hb dX7_segment_131 (by decide) ?_
  exact kr_i () hx hb hr hlocks (hP.sub [] rfl) (hD.sub [] (by decide) rfl) hS rfl dX7_segment_132
set_option maxHeartbeats 4000000 in
set_option maxRecDepth 100000 in
theorem K289_X8_in (l : Launch) (D : va_G) (cB cI cZ : ClassId) (sz : Nat)     :
    CtI l D cB cI cZ yX8_in wsX8_in { frames := 0, cells := 0, slots := 0, locals := 0 } [.int 3, .int 0, .int 3] [] sz 0 0
      (fun (r : Int32) (u : Unit) => r = 1)
      (fun u => []) := by
  refine mk_metI (cc := cX8_in) (maxL := 3) (ret := (some .boolean)) (by decide) rfl (Nat.le_of_ble_eq_true rfl) ?_
  intro p e s m below meth c A hx hb hr hml hts hown hlocks hin hP hK hN hD hA hS ls hl
  have hown : s.vm.findClass RX8 = some m.cls := hown
  have hl : lv_has ls 3 [(0, .int 3), (1, .int 0), (2, .int 3)] := hl
  refine lv_iload_n hx hb dX8_in_0 rfl (lv_at hl 0 rfl) ?_
  refine lv_iload_n hx hb dX8_in_1 rfl (lv_at hl 1 rfl) ?_
  refine lv_icmp_lt (tgt := 14) hx hb dX8_in_2 (by decide) (fun c => absurd c (by decide)) (fun c => ?_)
  refine lv_iload_n hx hb dX8_in_5 rfl (lv_at hl 0 rfl) ?_
  refine lv_iload_n hx hb dX8_in_6 rfl (lv_at hl 2 rfl) ?_
  refine lv_icmp_gt (tgt := 14) hx hb dX8_in_7 (by decide) (fun c => absurd c (by decide)) (fun c => ?_)
  refine lv_iconst (v := 1) hx hb dX8_in_10 (by decide) ?_
  refine lv_goto (tgt := 15) hx hb dX8_in_11 (by decide) ?_
  exact kr_z () hx hb hr rfl hlocks hP hD hS rfl dX8_in_15
set_option maxHeartbeats 4000000 in
set_option maxRecDepth 100000 in
theorem K288_X8_segment (l : Launch) (D : va_G) (cB cI cZ : ClassId) (sz : Nat) (h0 : Nat) (h1 : Nat)  (p0 : Int32) (g0 : Value) (g1 : Value) (g2 : Value) (g3 : Value) (g4 : Value) (g5 : Value) (g6 : Value) (g7 : Value) (g8 : Value) (g9 : Value) (g10 : Value) (g11 : Value) (g12 : Value) (g13 : Value) (g14 : Value) (g15 : Value) (g16 : Value) (g17 : Value) (g18 : Value) (g19 : Value) (g20 : Value) (g21 : Value) (g22 : Value) (g23 : Value) (g24 : Value) (g25 : Value) (g26 : Value) (g27 : Value) (i_p0 : 8 ≤ p0.toInt ∧ p0.toInt ≤ 63) :
    CtI l D cB cI cZ yX8_segment wsX8_segment { frames := 1, cells := 0, slots := 0, locals := 22 } [.ref h0, .int p0, .int 3] [(h0, .inr (7, [g0, .int 0, g1, g2, g3, .ref h1, g4, g5, g6, g7, g8, g9, g10, g11, g12, g13, g14, g15, g16, g17, g18, g19, g20, g21, g22, g23, g24, g25, g26, g27])), (h1, .inl (cI, 64, .inl zf))] sz 0 0
      (fun (r : Int32) (u : Unit) => r = 0)
      (fun u => []) := by
  refine mk_metI (cc := cX8_segment) (maxL := 3) (ret := (some .int)) (by decide) rfl (Nat.le_of_ble_eq_true rfl) ?_
  intro p e s m below meth c A hx hb hr hml hts hown hlocks hin hP hK hN hD hA hS ls hl
  have hown : s.vm.findClass RX8 = some m.cls := hown
  have hl : lv_has ls 3 [(0, .ref h0), (1, .int p0), (2, .int 3)] := hl
  refine lv_aload_n hx hb dX8_segment_0 rfl (lv_at hl 0 rfl) ?_
  refine lv_iconst (v := 0) hx hb dX8_segment_1 (by decide) ?_
  refine va_put (D := D) (ci := 7) (v := .int 0) (ty := .int) (C := RX8) (T := TX8) (N := 30) hx hb hts inX8_segment_X8 tyX8 tyX8_ok nmX8 hown hK hP hD hS 0 rfl rfl 0 (by decide) (hts _ wdX8_segment_0) (fun _ h9 => h9) rfl (by decide +kernel) rfl rfl (Nat.le_of_ble_eq_true rfl) dX8_segment_2 (fun H locs hP hD hS => ?_)
  have hP : va_P D vwCl [(h0, .inr (7, [.int 0, .int 0, g1, g2, g3, .ref h1, g4, g5, g6, g7, g8, g9, g10, g11, g12, g13, g14, g15, g16, g17, g18, g19, g20, g21, g22, g23, g24, g25, g26, g27])), (h1, .inl (cI, 64, .inl zf))] H := hP
  have hD : va_D A [(h0, .inr (7, [.int 0, .int 0, g1, g2, g3, .ref h1, g4, g5, g6, g7, g8, g9, g10, g11, g12, g13, g14, g15, g16, g17, g18, g19, g20, g21, g22, g23, g24, g25, g26, g27])), (h1, .inl (cI, 64, .inl zf))] := hD
  refine lv_aload_n hx hb dX8_segment_5 rfl (lv_at hl 0 rfl) ?_
  refine va_get (D := D) (ci := 7) (v := .int 0) (C := RX8) (T := TX8) (N := 30) hx hb hts inX8_segment_X8 hown hK hP 0 rfl rfl 1 (by decide) (hts _ wdX8_segment_1) (fun _ h9 => h9) rfl dX8_segment_6 ?_
  refine lv_if_eq (tgt := 15) hx hb dX8_segment_9 (by decide) (fun c => ?_) (fun c => absurd (by decide) c)
  refine lv_iload_n hx hb dX8_segment_15 rfl (lv_at hl 1 rfl) ?_
  refine lv_bipush (v := 8) hx hb dX8_segment_16 (by decide) ?_
  refine lv_bipush (v := 63) hx hb dX8_segment_18 (by decide) ?_
  refine kc_i (wr := [(h0, .inr (7, [.int 0, .int 0, g1, g2, g3, .ref h1, g4, g5, g6, g7, g8, g9, g10, g11, g12, g13, g14, g15, g16, g17, g18, g19, g20, g21, g22, g23, g24, g25, g26, g27])), (h1, .inl (cI, 64, .inl zf))]) (va_runS (As := [.int p0, .int 8, .int 63]) (rest := []) ⟨hx, hb, hml, hown, hts⟩ (K273_X8_in l D cB cI cZ _ p0 ⟨by omega, by omega⟩) (va_cwS 3 hts gX8_segment_X8_in rfl rfl rfl (by decide +kernel) ⟨Nat.le_of_ble_eq_true rfl, Nat.le_of_ble_eq_true rfl⟩) (pre_S (hP.sub [] rfl) hK hN (hD.sub [] (by decide) rfl)) rfl rfl hl.1 rfl (lv_room (Nat.le_of_ble_eq_true rfl)) dX8_segment_20 ⟨Nat.le_of_ble_eq_true rfl, Nat.le_of_ble_eq_true rfl⟩) hP hD hS hA [] [0, 1] rfl rfl (by decide) (by decide) (fun r_1 u H locs hw hP hD hS => ?_)
  have k_2 := hw
  obtain rfl : r_1 = 1 := k_2
  have hP : va_P D vwCl [(h0, .inr (7, [.int 0, .int 0, g1, g2, g3, .ref h1, g4, g5, g6, g7, g8, g9, g10, g11, g12, g13, g14, g15, g16, g17, g18, g19, g20, g21, g22, g23, g24, g25, g26, g27])), (h1, .inl (cI, 64, .inl zf))] H := hP
  have hD : va_D A [(h0, .inr (7, [.int 0, .int 0, g1, g2, g3, .ref h1, g4, g5, g6, g7, g8, g9, g10, g11, g12, g13, g14, g15, g16, g17, g18, g19, g20, g21, g22, g23, g24, g25, g26, g27])), (h1, .inl (cI, 64, .inl zf))] := hD
  refine lv_if_ne (tgt := 28) hx hb dX8_segment_23 (by decide) (fun c => ?_) (fun c => absurd c (by decide))
  refine lv_iload_n hx hb dX8_segment_28 rfl (lv_at hl 2 rfl) ?_
  refine lv_iconst (v := 0) hx hb dX8_segment_29 (by decide) ?_
  refine lv_iconst (v := 3) hx hb dX8_segment_30 (by decide) ?_
  refine kc_i (wr := [(h0, .inr (7, [.int 0, .int 0, g1, g2, g3, .ref h1, g4, g5, g6, g7, g8, g9, g10, g11, g12, g13, g14, g15, g16, g17, g18, g19, g20, g21, g22, g23, g24, g25, g26, g27])), (h1, .inl (cI, 64, .inl zf))]) (va_runS (As := [.int 3, .int 0, .int 3]) (rest := []) ⟨hx, hb, hml, hown, hts⟩ (K289_X8_in l D cB cI cZ _ ) (va_cwS 3 hts gX8_segment_X8_in rfl rfl rfl (by decide +kernel) ⟨Nat.le_of_ble_eq_true rfl, Nat.le_of_ble_eq_true rfl⟩) (pre_S (hP.sub [] rfl) hK hN (hD.sub [] (by decide) rfl)) rfl rfl hl.1 rfl (lv_room (Nat.le_of_ble_eq_true rfl)) dX8_segment_31 ⟨Nat.le_of_ble_eq_true rfl, Nat.le_of_ble_eq_true rfl⟩) hP hD hS hA [] [0, 1] rfl rfl (by decide) (by decide) (fun r_3 u H locs hw hP hD hS => ?_)
  have k_4 := hw
  obtain rfl : r_3 = 1 := k_4
  have hP : va_P D vwCl [(h0, .inr (7, [.int 0, .int 0, g1, g2, g3, .ref h1, g4, g5, g6, g7, g8, g9, g10, g11, g12, g13, g14, g15, g16, g17, g18, g19, g20, g21, g22, g23, g24, g25, g26, g27])), (h1, .inl (cI, 64, .inl zf))] H := hP
  have hD : va_D A [(h0, .inr (7, [.int 0, .int 0, g1, g2, g3, .ref h1, g4, g5, g6, g7, g8, g9, g10, g11, g12, g13, g14, g15, g16, g17, g18, g19, g20, g21, g22, g23, g24, g25, g26, g27])), (h1, .inl (cI, 64, .inl zf))] := hD
  refine lv_if_ne (tgt := 40) hx hb dX8_segment_34 (by decide) (fun c => ?_) (fun c => absurd c (by decide))
  refine lv_iload_n hx hb dX8_segment_40 rfl (lv_at hl 2 rfl) ?_
  refine lv_if_ne (tgt := 51) hx hb dX8_segment_41 (by decide) (fun c => ?_) (fun c => absurd c (by decide))
  refine lv_aload_n hx hb dX8_segment_51 rfl (lv_at hl 0 rfl) ?_
  refine va_get (D := D) (ci := 7) (v := .ref h1) (C := RX8) (T := TX8) (N := 30) hx hb hts inX8_segment_X8 hown hK hP 0 rfl rfl 5 (by decide) (hts _ wdX8_segment_2) (fun _ h9 => h9) rfl dX8_segment_52 ?_
  refine lv_iload_n hx hb dX8_segment_55 rfl (lv_at hl 1 rfl) ?_
  refine va_iald hx hb hK hP 1 1 rfl rfl (ti_in (a := p0.toInt) rfl (by omega) (by omega)) dX8_segment_56 ?_
  refine lv_topi (fun z_5 ez_5 => ?_)
  obtain rfl : z_5 = 0 := ez_5
  refine lv_if_eq (tgt := 70) hx hb dX8_segment_57 (by decide) (fun c => ?_) (fun c => absurd (by decide) c)
  refine lv_iconst (v := 0) hx hb dX8_segment_70 (by decide) ?_
  exact kr_i () hx hb hr hlocks (hP.sub [] rfl) (hD.sub [] (by decide) rfl) hS rfl dX8_segment_71
set_option maxHeartbeats 4000000 in
set_option maxRecDepth 100000 in
theorem K290_X7_where (l : Launch) (D : va_G) (cB cI cZ : ClassId) (sz : Nat) (h0 : Nat) (h1 : Nat) (h2 : Nat)  (p0 : Int32) (p1 : Int32) (g0 : Value) (g1 : Value) (g2 : Value) (g3 : Value) (g4 : Value) (g5 : Value) (g6 : Value) (g7 : Value) (g8 : Value)  :
    CtI l D cB cI cZ yX7_where wsX7_where { frames := 2, cells := 0, slots := 0, locals := 41 } [.ref h0, .int p0, .int p1] [(h0, .inr (6, [g0, .ref h1, g1, g2, g3, g4, g5, g6, .int 0])), (h1, .inr (2, [.ref h2, g7, g8])), (h2, .inl (cI, 300, .inl zf))] sz 0 0
      (fun (r : Int32) (u : Unit) => r = (-1))
      (fun u => []) := by
  refine mk_metI (cc := cX7_where) (maxL := 3) (ret := (some .int)) (by decide) rfl (Nat.le_of_ble_eq_true rfl) ?_
  intro p e s m below meth c A hx hb hr hml hts hown hlocks hin hP hK hN hD hA hS ls hl
  have hown : s.vm.findClass RX7 = some m.cls := hown
  have hl : lv_has ls 3 [(0, .ref h0), (1, .int p0), (2, .int p1)] := hl
  refine lv_aload_n hx hb dX7_where_0 rfl (lv_at hl 0 rfl) ?_
  refine va_get (D := D) (ci := 6) (v := .int 0) (C := RX7) (T := TX7) (N := 9) hx hb hts inX7_where_X7 hown hK hP 0 rfl rfl 8 (by decide) (hts _ wdX7_where_0) (fun _ h9 => h9) rfl dX7_where_1 ?_
  refine lv_if_eq (tgt := 10) hx hb dX7_where_4 (by decide) (fun c => ?_) (fun c => absurd (by decide) c)
  refine lv_aload_n hx hb dX7_where_10 rfl (lv_at hl 0 rfl) ?_
  refine va_get (D := D) (ci := 6) (v := .ref h1) (C := RX7) (T := TX7) (N := 9) hx hb hts inX7_where_X7 hown hK hP 0 rfl rfl 1 (by decide) (hts _ wdX7_where_1) (fun _ h9 => h9) rfl dX7_where_11 ?_
  refine lv_iload_n hx hb dX7_where_14 rfl (lv_at hl 1 rfl) ?_
  refine kc_i (wr := [(h0, .inr (6, [g0, .ref h1, g1, g2, g3, g4, g5, g6, .int 0]))]) (va_runV (As := [.int p0]) (rest := []) ⟨hx, hb, hml, hown, hts⟩ (K103_X2_has l D cB cI cZ _ h1 h2 p0 (g7) (g8)) (cwV 1 hts gX7_where_X2_has rfl rfl rfl (by decide +kernel) ⟨Nat.le_of_ble_eq_true rfl, Nat.le_of_ble_eq_true rfl⟩) (pre_V (q := (RX2, TX2, 3)) (ci := 2) (q0 := 0) (hP.sub [1, 2] rfl) hK hN (hD.sub [1, 2] (by decide) rfl) rfl rfl) rfl rfl hl.1 rfl (lv_room (Nat.le_of_ble_eq_true rfl)) dX7_where_15 ⟨Nat.le_of_ble_eq_true rfl, Nat.le_of_ble_eq_true rfl⟩) hP hD hS hA [1, 2] [0] rfl rfl (by decide) (by decide) (fun r_1 u H locs hw hP hD hS => ?_)
  have k_2 := hw
  obtain rfl : r_1 = 0 := k_2
  have hP : va_P D vwCl [(h0, .inr (6, [g0, .ref h1, g1, g2, g3, g4, g5, g6, .int 0])), (h1, .inr (2, [.ref h2, g7, g8])), (h2, .inl (cI, 300, .inl zf))] H := hP
  have hD : va_D A [(h0, .inr (6, [g0, .ref h1, g1, g2, g3, g4, g5, g6, .int 0])), (h1, .inr (2, [.ref h2, g7, g8])), (h2, .inl (cI, 300, .inl zf))] := hD
  refine lv_if_ne (tgt := 23) hx hb dX7_where_18 (by decide) (fun c => absurd (by decide) c) (fun c => ?_)
  refine lv_iconst (v := (-1)) hx hb dX7_where_21 (by decide) ?_
  exact kr_i () hx hb hr hlocks (hP.sub [] rfl) (hD.sub [] (by decide) rfl) hS rfl dX7_where_22
set_option maxHeartbeats 4000000 in
set_option maxRecDepth 100000 in
theorem K291_X8_where (l : Launch) (D : va_G) (cB cI cZ : ClassId) (sz : Nat) (h0 : Nat) (h1 : Nat)  (p0 : Int32) (p1 : Int32) (g0 : Value) (g1 : Value) (g2 : Value) (g3 : Value) (g4 : Value) (g5 : Value) (g6 : Value) (g7 : Value) (g8 : Value) (g9 : Value) (g10 : Value) (g11 : Value) (g12 : Value) (g13 : Value) (g14 : Value) (g15 : Value) (g16 : Value) (g17 : Value) (g18 : Value) (g19 : Value) (g20 : Value) (g21 : Value) (g22 : Value) (g23 : Value) (g24 : Value) (g25 : Value) (g26 : Value) (g27 : Value)  :
    CtI l D cB cI cZ yX8_where wsX8_where { frames := 2, cells := 0, slots := 0, locals := 43 } [.ref h0, .int p0, .int p1] [(h0, .inr (7, [g0, .int 0, g1, g2, g3, g4, g5, g6, g7, g8, g9, g10, g11, g12, g13, g14, .ref h1, g15, g16, g17, g18, g19, g20, g21, g22, g23, g24, g25, g26, g27])), (h1, .inl (cI, 300, .inl zf))] sz 0 0
      (fun (r : Int32) (u : Unit) => r = (-1))
      (fun u => []) := by
  refine mk_metI (cc := cX8_where) (maxL := 3) (ret := (some .int)) (by decide) rfl (Nat.le_of_ble_eq_true rfl) ?_
  intro p e s m below meth c A hx hb hr hml hts hown hlocks hin hP hK hN hD hA hS ls hl
  have hown : s.vm.findClass RX8 = some m.cls := hown
  have hl : lv_has ls 3 [(0, .ref h0), (1, .int p0), (2, .int p1)] := hl
  refine lv_aload_n hx hb dX8_where_0 rfl (lv_at hl 0 rfl) ?_
  refine lv_iconst (v := 0) hx hb dX8_where_1 (by decide) ?_
  refine va_put (D := D) (ci := 7) (v := .int 0) (ty := .int) (C := RX8) (T := TX8) (N := 30) hx hb hts inX8_where_X8 tyX8 tyX8_ok nmX8 hown hK hP hD hS 0 rfl rfl 0 (by decide) (hts _ wdX8_where_0) (fun _ h9 => h9) rfl (by decide +kernel) rfl rfl (Nat.le_of_ble_eq_true rfl) dX8_where_2 (fun H locs hP hD hS => ?_)
  have hP : va_P D vwCl [(h0, .inr (7, [.int 0, .int 0, g1, g2, g3, g4, g5, g6, g7, g8, g9, g10, g11, g12, g13, g14, .ref h1, g15, g16, g17, g18, g19, g20, g21, g22, g23, g24, g25, g26, g27])), (h1, .inl (cI, 300, .inl zf))] H := hP
  have hD : va_D A [(h0, .inr (7, [.int 0, .int 0, g1, g2, g3, g4, g5, g6, g7, g8, g9, g10, g11, g12, g13, g14, .ref h1, g15, g16, g17, g18, g19, g20, g21, g22, g23, g24, g25, g26, g27])), (h1, .inl (cI, 300, .inl zf))] := hD
  refine lv_aload_n hx hb dX8_where_5 rfl (lv_at hl 0 rfl) ?_
  refine va_get (D := D) (ci := 7) (v := .int 0) (C := RX8) (T := TX8) (N := 30) hx hb hts inX8_where_X8 hown hK hP 0 rfl rfl 1 (by decide) (hts _ wdX8_where_1) (fun _ h9 => h9) rfl dX8_where_6 ?_
  refine lv_if_eq (tgt := 15) hx hb dX8_where_9 (by decide) (fun c => ?_) (fun c => absurd (by decide) c)
  refine lv_aload_n hx hb dX8_where_15 rfl (lv_at hl 0 rfl) ?_
  refine lv_iload_n hx hb dX8_where_16 rfl (lv_at hl 1 rfl) ?_
  refine kc_i (wr := []) (va_runV (As := [.int p0]) (rest := []) ⟨hx, hb, hml, hown, hts⟩ (K107_X8_none l D cB cI cZ _ h0 h1 p0 ((.int 0)) ((.int 0)) (g1) (g2) (g3) (g4) (g5) (g6) (g7) (g8) (g9) (g10) (g11) (g12) (g13) (g14) (g15) (g16) (g17) (g18) (g19) (g20) (g21) (g22) (g23) (g24) (g25) (g26) (g27)) (cwV 1 hts gX8_where_X8_none rfl rfl rfl (by decide +kernel) ⟨Nat.le_of_ble_eq_true rfl, Nat.le_of_ble_eq_true rfl⟩) (pre_V (q := (RX8, TX8, 30)) (ci := 7) (q0 := 0) (hP.sub [0, 1] rfl) hK hN (hD.sub [0, 1] (by decide) rfl) rfl rfl) rfl rfl hl.1 rfl (lv_room (Nat.le_of_ble_eq_true rfl)) dX8_where_17 ⟨Nat.le_of_ble_eq_true rfl, Nat.le_of_ble_eq_true rfl⟩) hP hD hS hA [0, 1] [] rfl rfl (by decide) (by decide) (fun r_1 u H locs hw hP hD hS => ?_)
  have k_2 := hw
  obtain rfl : r_1 = 1 := k_2
  have hP : va_P D vwCl [(h0, .inr (7, [.int 0, .int 0, g1, g2, g3, g4, g5, g6, g7, g8, g9, g10, g11, g12, g13, g14, .ref h1, g15, g16, g17, g18, g19, g20, g21, g22, g23, g24, g25, g26, g27])), (h1, .inl (cI, 300, .inl zf))] H := hP
  have hD : va_D A [(h0, .inr (7, [.int 0, .int 0, g1, g2, g3, g4, g5, g6, g7, g8, g9, g10, g11, g12, g13, g14, .ref h1, g15, g16, g17, g18, g19, g20, g21, g22, g23, g24, g25, g26, g27])), (h1, .inl (cI, 300, .inl zf))] := hD
  refine lv_if_eq (tgt := 25) hx hb dX8_where_20 (by decide) (fun c => absurd c (by decide)) (fun c => ?_)
  refine lv_iconst (v := (-1)) hx hb dX8_where_23 (by decide) ?_
  exact kr_i () hx hb hr hlocks (hP.sub [] rfl) (hD.sub [] (by decide) rfl) hS rfl dX8_where_24
set_option maxHeartbeats 4000000 in
set_option maxRecDepth 100000 in
theorem K292_X7_told (l : Launch) (D : va_G) (cB cI cZ : ClassId) (sz : Nat) (h0 : Nat)  (p0 : Int32) (g0 : Value) (g1 : Value) (g2 : Value) (g3 : Value) (g4 : Value) (g5 : Value) (g6 : Value) (g7 : Value) (g8 : Value) (i_p0 : p0.toInt ≤ (-1)) :
    CtI l D cB cI cZ yX7_told wsX7_told { frames := 0, cells := 0, slots := 0, locals := 0 } [.ref h0, .int p0] [(h0, .inr (6, [g0, g1, g2, g3, g4, g5, g6, g7, g8]))] sz 0 0
      (fun (r : Int32) (u : Unit) => r = (-2))
      (fun u => []) := by
  refine mk_metI (cc := cX7_told) (maxL := 2) (ret := (some .int)) (by decide) rfl (Nat.le_of_ble_eq_true rfl) ?_
  intro p e s m below meth c A hx hb hr hml hts hown hlocks hin hP hK hN hD hA hS ls hl
  have hown : s.vm.findClass RX7 = some m.cls := hown
  have hl : lv_has ls 2 [(0, .ref h0), (1, .int p0)] := hl
  refine lv_iload_n hx hb dX7_told_0 rfl (lv_at hl 1 rfl) ?_
  refine lv_if_lt (tgt := 10) hx hb dX7_told_1 (by decide) (fun c => ?_) (fun c => absurd ((ti_lt (x := p0) (y := 0) (a := p0.toInt) (b := 0) rfl (by decide)).mpr (by omega)) c)
  refine lv_bipush (v := (-2)) hx hb dX7_told_10 (by decide) ?_
  exact kr_i () hx hb hr hlocks (hP.sub [] rfl) (hD.sub [] (by decide) rfl) hS rfl dX7_told_12
set_option maxHeartbeats 4000000 in
set_option maxRecDepth 100000 in
theorem K294_X8_in (l : Launch) (D : va_G) (cB cI cZ : ClassId) (sz : Nat)   (p0 : Int32) (i_p0 : p0.toInt ≤ (-1)) :
    CtI l D cB cI cZ yX8_in wsX8_in { frames := 0, cells := 0, slots := 0, locals := 0 } [.int p0, .int 0, .int 9] [] sz 0 0
      (fun (r : Int32) (u : Unit) => r = 0)
      (fun u => []) := by
  refine mk_metI (cc := cX8_in) (maxL := 3) (ret := (some .boolean)) (by decide) rfl (Nat.le_of_ble_eq_true rfl) ?_
  intro p e s m below meth c A hx hb hr hml hts hown hlocks hin hP hK hN hD hA hS ls hl
  have hown : s.vm.findClass RX8 = some m.cls := hown
  have hl : lv_has ls 3 [(0, .int p0), (1, .int 0), (2, .int 9)] := hl
  refine lv_iload_n hx hb dX8_in_0 rfl (lv_at hl 0 rfl) ?_
  refine lv_iload_n hx hb dX8_in_1 rfl (lv_at hl 1 rfl) ?_
  refine lv_icmp_lt (tgt := 14) hx hb dX8_in_2 (by decide) (fun c => ?_) (fun c => absurd ((ti_lt (x := p0) (y := 0) (a := p0.toInt) (b := 0) rfl (by decide)).mpr (by omega)) c)
  refine lv_iconst (v := 0) hx hb dX8_in_14 (by decide) ?_
  exact kr_z () hx hb hr rfl hlocks hP hD hS rfl dX8_in_15
set_option maxHeartbeats 4000000 in
set_option maxRecDepth 100000 in
theorem K293_X8_told (l : Launch) (D : va_G) (cB cI cZ : ClassId) (sz : Nat) (h0 : Nat)  (p0 : Int32) (g0 : Value) (g1 : Value) (g2 : Value) (g3 : Value) (g4 : Value) (g5 : Value) (g6 : Value) (g7 : Value) (g8 : Value) (g9 : Value) (g10 : Value) (g11 : Value) (g12 : Value) (g13 : Value) (g14 : Value) (g15 : Value) (g16 : Value) (g17 : Value) (g18 : Value) (g19 : Value) (g20 : Value) (g21 : Value) (g22 : Value) (g23 : Value) (g24 : Value) (g25 : Value) (g26 : Value) (g27 : Value) (g28 : Value) (g29 : Value) (i_p0 : p0.toInt ≤ (-1)) :
    CtI l D cB cI cZ yX8_told wsX8_told { frames := 1, cells := 0, slots := 0, locals := 22 } [.ref h0, .int p0] [(h0, .inr (7, [g0, g1, g2, g3, g4, g5, g6, g7, g8, g9, g10, g11, g12, g13, g14, g15, g16, g17, g18, g19, g20, g21, g22, g23, g24, g25, g26, g27, g28, g29]))] sz 0 0
      (fun (r : Int32) (u : Unit) => r = (-2))
      (fun u => []) := by
  refine mk_metI (cc := cX8_told) (maxL := 4) (ret := (some .int)) (by decide) rfl (Nat.le_of_ble_eq_true rfl) ?_
  intro p e s m below meth c A hx hb hr hml hts hown hlocks hin hP hK hN hD hA hS ls hl
  have hown : s.vm.findClass RX8 = some m.cls := hown
  have hl : lv_has ls 4 [(0, .ref h0), (1, .int p0)] := hl
  refine lv_aload_n hx hb dX8_told_0 rfl (lv_at hl 0 rfl) ?_
  refine lv_iconst (v := 0) hx hb dX8_told_1 (by decide) ?_
  refine va_put (D := D) (ci := 7) (v := .int 0) (ty := .int) (C := RX8) (T := TX8) (N := 30) hx hb hts inX8_told_X8 tyX8 tyX8_ok nmX8 hown hK hP hD hS 0 rfl rfl 0 (by decide) (hts _ wdX8_told_0) (fun _ h9 => h9) rfl (by decide +kernel) rfl rfl (Nat.le_of_ble_eq_true rfl) dX8_told_2 (fun H locs hP hD hS => ?_)
  have hP : va_P D vwCl [(h0, .inr (7, [.int 0, g1, g2, g3, g4, g5, g6, g7, g8, g9, g10, g11, g12, g13, g14, g15, g16, g17, g18, g19, g20, g21, g22, g23, g24, g25, g26, g27, g28, g29]))] H := hP
  have hD : va_D A [(h0, .inr (7, [.int 0, g1, g2, g3, g4, g5, g6, g7, g8, g9, g10, g11, g12, g13, g14, g15, g16, g17, g18, g19, g20, g21, g22, g23, g24, g25, g26, g27, g28, g29]))] := hD
  refine lv_iload_n hx hb dX8_told_5 rfl (lv_at hl 1 rfl) ?_
  refine lv_iconst (v := 0) hx hb dX8_told_6 (by decide) ?_
  refine lv_bipush (v := 9) hx hb dX8_told_7 (by decide) ?_
  refine kc_i (wr := [(h0, .inr (7, [.int 0, g1, g2, g3, g4, g5, g6, g7, g8, g9, g10, g11, g12, g13, g14, g15, g16, g17, g18, g19, g20, g21, g22, g23, g24, g25, g26, g27, g28, g29]))]) (va_runS (As := [.int p0, .int 0, .int 9]) (rest := []) ⟨hx, hb, hml, hown, hts⟩ (K294_X8_in l D cB cI cZ _ p0 (by omega)) (va_cwS 3 hts gX8_told_X8_in rfl rfl rfl (by decide +kernel) ⟨Nat.le_of_ble_eq_true rfl, Nat.le_of_ble_eq_true rfl⟩) (pre_S (hP.sub [] rfl) hK hN (hD.sub [] (by decide) rfl)) rfl rfl hl.1 rfl (lv_room (Nat.le_of_ble_eq_true rfl)) dX8_told_9 ⟨Nat.le_of_ble_eq_true rfl, Nat.le_of_ble_eq_true rfl⟩) hP hD hS hA [] [0] rfl rfl (by decide) (by decide) (fun r_1 u H locs hw hP hD hS => ?_)
  have k_2 := hw
  obtain rfl : r_1 = 0 := k_2
  have hP : va_P D vwCl [(h0, .inr (7, [.int 0, g1, g2, g3, g4, g5, g6, g7, g8, g9, g10, g11, g12, g13, g14, g15, g16, g17, g18, g19, g20, g21, g22, g23, g24, g25, g26, g27, g28, g29]))] H := hP
  have hD : va_D A [(h0, .inr (7, [.int 0, g1, g2, g3, g4, g5, g6, g7, g8, g9, g10, g11, g12, g13, g14, g15, g16, g17, g18, g19, g20, g21, g22, g23, g24, g25, g26, g27, g28, g29]))] := hD
  refine lv_if_ne (tgt := 18) hx hb dX8_told_12 (by decide) (fun c => absurd (by decide) c) (fun c => ?_)
  refine lv_bipush (v := (-2)) hx hb dX8_told_15 (by decide) ?_
  exact kr_i () hx hb hr hlocks (hP.sub [] rfl) (hD.sub [] (by decide) rfl) hS rfl dX8_told_17
set_option maxHeartbeats 4000000 in
set_option maxRecDepth 100000 in
theorem K295_X7_told (l : Launch) (D : va_G) (cB cI cZ : ClassId) (sz : Nat) (h0 : Nat)  (p0 : Int32) (g0 : Value) (g1 : Value) (g2 : Value) (g3 : Value) (g4 : Value) (g5 : Value) (g6 : Value) (g7 : Value) (g8 : Value) (i_p0 : 10 ≤ p0.toInt) :
    CtI l D cB cI cZ yX7_told wsX7_told { frames := 0, cells := 0, slots := 0, locals := 0 } [.ref h0, .int p0] [(h0, .inr (6, [g0, g1, g2, g3, g4, g5, g6, g7, g8]))] sz 0 0
      (fun (r : Int32) (u : Unit) => r = (-2))
      (fun u => []) := by
  refine mk_metI (cc := cX7_told) (maxL := 2) (ret := (some .int)) (by decide) rfl (Nat.le_of_ble_eq_true rfl) ?_
  intro p e s m below meth c A hx hb hr hml hts hown hlocks hin hP hK hN hD hA hS ls hl
  have hown : s.vm.findClass RX7 = some m.cls := hown
  have hl : lv_has ls 2 [(0, .ref h0), (1, .int p0)] := hl
  refine lv_iload_n hx hb dX7_told_0 rfl (lv_at hl 1 rfl) ?_
  refine lv_if_lt (tgt := 10) hx hb dX7_told_1 (by decide) (fun c => absurd ((ti_lt (x := p0) (y := 0) (a := p0.toInt) (b := 0) rfl (by decide)).mp c) (by omega)) (fun c => ?_)
  refine lv_iload_n hx hb dX7_told_4 rfl (lv_at hl 1 rfl) ?_
  refine lv_bipush (v := 9) hx hb dX7_told_5 (by decide) ?_
  refine lv_icmp_le (tgt := 13) hx hb dX7_told_7 (by decide) (fun c => absurd ((ti_le (x := p0) (y := 9) (a := p0.toInt) (b := 9) rfl (by decide)).mp c) (by omega)) (fun c => ?_)
  refine lv_bipush (v := (-2)) hx hb dX7_told_10 (by decide) ?_
  exact kr_i () hx hb hr hlocks (hP.sub [] rfl) (hD.sub [] (by decide) rfl) hS rfl dX7_told_12
set_option maxHeartbeats 4000000 in
set_option maxRecDepth 100000 in
theorem K297_X8_in (l : Launch) (D : va_G) (cB cI cZ : ClassId) (sz : Nat)   (p0 : Int32) (i_p0 : 10 ≤ p0.toInt) :
    CtI l D cB cI cZ yX8_in wsX8_in { frames := 0, cells := 0, slots := 0, locals := 0 } [.int p0, .int 0, .int 9] [] sz 0 0
      (fun (r : Int32) (u : Unit) => r = 0)
      (fun u => []) := by
  refine mk_metI (cc := cX8_in) (maxL := 3) (ret := (some .boolean)) (by decide) rfl (Nat.le_of_ble_eq_true rfl) ?_
  intro p e s m below meth c A hx hb hr hml hts hown hlocks hin hP hK hN hD hA hS ls hl
  have hown : s.vm.findClass RX8 = some m.cls := hown
  have hl : lv_has ls 3 [(0, .int p0), (1, .int 0), (2, .int 9)] := hl
  refine lv_iload_n hx hb dX8_in_0 rfl (lv_at hl 0 rfl) ?_
  refine lv_iload_n hx hb dX8_in_1 rfl (lv_at hl 1 rfl) ?_
  refine lv_icmp_lt (tgt := 14) hx hb dX8_in_2 (by decide) (fun c => absurd ((ti_lt (x := p0) (y := 0) (a := p0.toInt) (b := 0) rfl (by decide)).mp c) (by omega)) (fun c => ?_)
  refine lv_iload_n hx hb dX8_in_5 rfl (lv_at hl 0 rfl) ?_
  refine lv_iload_n hx hb dX8_in_6 rfl (lv_at hl 2 rfl) ?_
  refine lv_icmp_gt (tgt := 14) hx hb dX8_in_7 (by decide) (fun c => ?_) (fun c => absurd ((ti_lt (x := 9) (y := p0) (a := 9) (b := p0.toInt) (by decide) rfl).mpr (by omega)) c)
  refine lv_iconst (v := 0) hx hb dX8_in_14 (by decide) ?_
  exact kr_z () hx hb hr rfl hlocks hP hD hS rfl dX8_in_15
set_option maxHeartbeats 4000000 in
set_option maxRecDepth 100000 in
theorem K296_X8_told (l : Launch) (D : va_G) (cB cI cZ : ClassId) (sz : Nat) (h0 : Nat)  (p0 : Int32) (g0 : Value) (g1 : Value) (g2 : Value) (g3 : Value) (g4 : Value) (g5 : Value) (g6 : Value) (g7 : Value) (g8 : Value) (g9 : Value) (g10 : Value) (g11 : Value) (g12 : Value) (g13 : Value) (g14 : Value) (g15 : Value) (g16 : Value) (g17 : Value) (g18 : Value) (g19 : Value) (g20 : Value) (g21 : Value) (g22 : Value) (g23 : Value) (g24 : Value) (g25 : Value) (g26 : Value) (g27 : Value) (g28 : Value) (g29 : Value) (i_p0 : 10 ≤ p0.toInt) :
    CtI l D cB cI cZ yX8_told wsX8_told { frames := 1, cells := 0, slots := 0, locals := 22 } [.ref h0, .int p0] [(h0, .inr (7, [g0, g1, g2, g3, g4, g5, g6, g7, g8, g9, g10, g11, g12, g13, g14, g15, g16, g17, g18, g19, g20, g21, g22, g23, g24, g25, g26, g27, g28, g29]))] sz 0 0
      (fun (r : Int32) (u : Unit) => r = (-2))
      (fun u => []) := by
  refine mk_metI (cc := cX8_told) (maxL := 4) (ret := (some .int)) (by decide) rfl (Nat.le_of_ble_eq_true rfl) ?_
  intro p e s m below meth c A hx hb hr hml hts hown hlocks hin hP hK hN hD hA hS ls hl
  have hown : s.vm.findClass RX8 = some m.cls := hown
  have hl : lv_has ls 4 [(0, .ref h0), (1, .int p0)] := hl
  refine lv_aload_n hx hb dX8_told_0 rfl (lv_at hl 0 rfl) ?_
  refine lv_iconst (v := 0) hx hb dX8_told_1 (by decide) ?_
  refine va_put (D := D) (ci := 7) (v := .int 0) (ty := .int) (C := RX8) (T := TX8) (N := 30) hx hb hts inX8_told_X8 tyX8 tyX8_ok nmX8 hown hK hP hD hS 0 rfl rfl 0 (by decide) (hts _ wdX8_told_0) (fun _ h9 => h9) rfl (by decide +kernel) rfl rfl (Nat.le_of_ble_eq_true rfl) dX8_told_2 (fun H locs hP hD hS => ?_)
  have hP : va_P D vwCl [(h0, .inr (7, [.int 0, g1, g2, g3, g4, g5, g6, g7, g8, g9, g10, g11, g12, g13, g14, g15, g16, g17, g18, g19, g20, g21, g22, g23, g24, g25, g26, g27, g28, g29]))] H := hP
  have hD : va_D A [(h0, .inr (7, [.int 0, g1, g2, g3, g4, g5, g6, g7, g8, g9, g10, g11, g12, g13, g14, g15, g16, g17, g18, g19, g20, g21, g22, g23, g24, g25, g26, g27, g28, g29]))] := hD
  refine lv_iload_n hx hb dX8_told_5 rfl (lv_at hl 1 rfl) ?_
  refine lv_iconst (v := 0) hx hb dX8_told_6 (by decide) ?_
  refine lv_bipush (v := 9) hx hb dX8_told_7 (by decide) ?_
  refine kc_i (wr := [(h0, .inr (7, [.int 0, g1, g2, g3, g4, g5, g6, g7, g8, g9, g10, g11, g12, g13, g14, g15, g16, g17, g18, g19, g20, g21, g22, g23, g24, g25, g26, g27, g28, g29]))]) (va_runS (As := [.int p0, .int 0, .int 9]) (rest := []) ⟨hx, hb, hml, hown, hts⟩ (K297_X8_in l D cB cI cZ _ p0 (by omega)) (va_cwS 3 hts gX8_told_X8_in rfl rfl rfl (by decide +kernel) ⟨Nat.le_of_ble_eq_true rfl, Nat.le_of_ble_eq_true rfl⟩) (pre_S (hP.sub [] rfl) hK hN (hD.sub [] (by decide) rfl)) rfl rfl hl.1 rfl (lv_room (Nat.le_of_ble_eq_true rfl)) dX8_told_9 ⟨Nat.le_of_ble_eq_true rfl, Nat.le_of_ble_eq_true rfl⟩) hP hD hS hA [] [0] rfl rfl (by decide) (by decide) (fun r_1 u H locs hw hP hD hS => ?_)
  have k_2 := hw
  obtain rfl : r_1 = 0 := k_2
  have hP : va_P D vwCl [(h0, .inr (7, [.int 0, g1, g2, g3, g4, g5, g6, g7, g8, g9, g10, g11, g12, g13, g14, g15, g16, g17, g18, g19, g20, g21, g22, g23, g24, g25, g26, g27, g28, g29]))] H := hP
  have hD : va_D A [(h0, .inr (7, [.int 0, g1, g2, g3, g4, g5, g6, g7, g8, g9, g10, g11, g12, g13, g14, g15, g16, g17, g18, g19, g20, g21, g22, g23, g24, g25, g26, g27, g28, g29]))] := hD
  refine lv_if_ne (tgt := 18) hx hb dX8_told_12 (by decide) (fun c => absurd (by decide) c) (fun c => ?_)
  refine lv_bipush (v := (-2)) hx hb dX8_told_15 (by decide) ?_
  exact kr_i () hx hb hr hlocks (hP.sub [] rfl) (hD.sub [] (by decide) rfl) hS rfl dX8_told_17
set_option maxHeartbeats 4000000 in
set_option maxRecDepth 100000 in
theorem K299_X7_toldWhileUp (l : Launch) (D : va_G) (cB cI cZ : ClassId) (sz : Nat) (h0 : Nat) (h1 : Nat)  (g0 : Value) (g1 : Value) (g2 : Value) (g3 : Value) (g4 : Value) (g5 : Value) (g6 : Value) (g7 : Value) (g8 : Value) (g9 : Value) (g10 : Value) (g11 : Value) (g12 : Value) (g13 : Value) (g14 : Value) (g15 : Value) (g16 : Value) (g17 : Value) (g18 : Value) (g19 : Value) (g20 : Value)  :
    CtI l D cB cI cZ yX7_toldWhileUp wsX7_toldWhileUp { frames := 0, cells := 0, slots := 0, locals := 0 } [.ref h0, .int 0] [(h0, .inr (6, [g0, g1, .ref h1, g2, g3, g4, g5, g6, g7])), (h1, .inr (3, [g8, g9, g10, g11, g12, g13, g14, g15, g16, g17, g18, g19, .int 1, g20]))] sz 0 0
      (fun (r : Int32) (u : Unit) => r = 1)
      (fun u => [(h0, .inr (6, [g0, g1, .ref h1, g2, g3, g4, g5, g6, g7])), (h1, .inr (3, [g8, g9, g10, g11, g12, g13, g14, g15, g16, g17, g18, g19, .int 1, g20]))]) := by
  refine mk_metI (cc := cX7_toldWhileUp) (maxL := 2) (ret := (some .int)) (by decide) rfl (Nat.le_of_ble_eq_true rfl) ?_
  intro p e s m below meth c A hx hb hr hml hts hown hlocks hin hP hK hN hD hA hS ls hl
  have hown : s.vm.findClass RX7 = some m.cls := hown
  have hl : lv_has ls 2 [(0, .ref h0), (1, .int 0)] := hl
  refine lv_iload_n hx hb dX7_toldWhileUp_0 rfl (lv_at hl 1 rfl) ?_
  refine lv_tableIn (tgt := 44) (off := 43) hx hb dX7_toldWhileUp_1 (by decide) (by decide) (by decide) (by decide) ?_
  refine lv_aload_n hx hb dX7_toldWhileUp_44 rfl (lv_at hl 0 rfl) ?_
  refine va_get (D := D) (ci := 6) (v := .ref h1) (C := RX7) (T := TX7) (N := 9) hx hb hts inX7_toldWhileUp_X7 hown hK hP 0 rfl rfl 2 (by decide) (hts _ wdX7_toldWhileUp_0) (fun _ h9 => h9) rfl dX7_toldWhileUp_45 ?_
  refine va_getN (D := D) (ci := 3) (v := .int 1) (C := RX3) (T := TX3) (N := 14) hx hb hts inX7_toldWhileUp_X3 hown hK hP 1 rfl rfl 12 (by decide) (hN.f (a := "AgedLog") (i := 182) (b := "AgedLog$Log") (n := "nextSequence") (d := "I") (by decide +kernel)) (fun _ h9 => h9) rfl dX7_toldWhileUp_48 ?_
  exact kr_i () hx hb hr hlocks hP hD hS rfl dX7_toldWhileUp_51
set_option maxHeartbeats 4000000 in
set_option maxRecDepth 100000 in
theorem K298_X7_told (l : Launch) (D : va_G) (cB cI cZ : ClassId) (sz : Nat) (h0 : Nat) (h1 : Nat)  (g0 : Value) (g1 : Value) (g2 : Value) (g3 : Value) (g4 : Value) (g5 : Value) (g6 : Value) (g7 : Value) (g8 : Value) (g9 : Value) (g10 : Value) (g11 : Value) (g12 : Value) (g13 : Value) (g14 : Value) (g15 : Value) (g16 : Value) (g17 : Value) (g18 : Value) (g19 : Value)  :
    CtI l D cB cI cZ yX7_told wsX7_told { frames := 1, cells := 0, slots := 0, locals := 21 } [.ref h0, .int 0] [(h0, .inr (6, [g0, g1, .ref h1, g2, g3, g4, g5, g6, .int 0])), (h1, .inr (3, [g7, g8, g9, g10, g11, g12, g13, g14, g15, g16, g17, g18, .int 1, g19]))] sz 0 0
      (fun (r : Int32) (u : Unit) => r = 1)
      (fun u => []) := by
  refine mk_metI (cc := cX7_told) (maxL := 2) (ret := (some .int)) (by decide) rfl (Nat.le_of_ble_eq_true rfl) ?_
  intro p e s m below meth c A hx hb hr hml hts hown hlocks hin hP hK hN hD hA hS ls hl
  have hown : s.vm.findClass RX7 = some m.cls := hown
  have hl : lv_has ls 2 [(0, .ref h0), (1, .int 0)] := hl
  refine lv_iload_n hx hb dX7_told_0 rfl (lv_at hl 1 rfl) ?_
  refine lv_if_lt (tgt := 10) hx hb dX7_told_1 (by decide) (fun c => absurd c (by decide)) (fun c => ?_)
  refine lv_iload_n hx hb dX7_told_4 rfl (lv_at hl 1 rfl) ?_
  refine lv_bipush (v := 9) hx hb dX7_told_5 (by decide) ?_
  refine lv_icmp_le (tgt := 13) hx hb dX7_told_7 (by decide) (fun c => ?_) (fun c => absurd (by decide) c)
  refine lv_iload_n hx hb dX7_told_13 rfl (lv_at hl 1 rfl) ?_
  refine lv_bipush (v := 9) hx hb dX7_told_14 (by decide) ?_
  refine lv_icmp_ne (tgt := 32) hx hb dX7_told_16 (by decide) (fun c => ?_) (fun c => absurd c (by decide))
  refine lv_iload_n hx hb dX7_told_32 rfl (lv_at hl 1 rfl) ?_
  refine lv_bipush (v := 8) hx hb dX7_told_33 (by decide) ?_
  refine lv_icmp_ne (tgt := 46) hx hb dX7_told_35 (by decide) (fun c => ?_) (fun c => absurd c (by decide))
  refine lv_aload_n hx hb dX7_told_46 rfl (lv_at hl 0 rfl) ?_
  refine va_get (D := D) (ci := 6) (v := .int 0) (C := RX7) (T := TX7) (N := 9) hx hb hts inX7_told_X7 hown hK hP 0 rfl rfl 8 (by decide) (hts _ wdX7_told_0) (fun _ h9 => h9) rfl dX7_told_47 ?_
  refine lv_if_eq (tgt := 57) hx hb dX7_told_50 (by decide) (fun c => ?_) (fun c => absurd (by decide) c)
  refine lv_aload_n hx hb dX7_told_57 rfl (lv_at hl 0 rfl) ?_
  refine lv_iload_n hx hb dX7_told_58 rfl (lv_at hl 1 rfl) ?_
  refine kc_i (wr := []) (va_runV (As := [.int 0]) (rest := []) ⟨hx, hb, hml, hown, hts⟩ (K299_X7_toldWhileUp l D cB cI cZ _ h0 h1 (g0) (g1) (g2) (g3) (g4) (g5) (g6) ((.int 0)) (g7) (g8) (g9) (g10) (g11) (g12) (g13) (g14) (g15) (g16) (g17) (g18) (g19)) (cwV 1 hts gX7_told_X7_toldWhileUp rfl rfl rfl (by decide +kernel) ⟨Nat.le_of_ble_eq_true rfl, Nat.le_of_ble_eq_true rfl⟩) (pre_V (q := (RX7, TX7, 9)) (ci := 6) (q0 := 0) (hP.sub [0, 1] rfl) hK hN (hD.sub [0, 1] (by decide) rfl) rfl rfl) rfl rfl hl.1 rfl (lv_room (Nat.le_of_ble_eq_true rfl)) dX7_told_59 ⟨Nat.le_of_ble_eq_true rfl, Nat.le_of_ble_eq_true rfl⟩) hP hD hS hA [0, 1] [] rfl rfl (by decide) (by decide) (fun r_1 u H locs hw hP hD hS => ?_)
  have k_2 := hw
  obtain rfl : r_1 = 1 := k_2
  have hP : va_P D vwCl [(h0, .inr (6, [g0, g1, .ref h1, g2, g3, g4, g5, g6, .int 0])), (h1, .inr (3, [g7, g8, g9, g10, g11, g12, g13, g14, g15, g16, g17, g18, .int 1, g19]))] H := hP
  have hD : va_D A [(h0, .inr (6, [g0, g1, .ref h1, g2, g3, g4, g5, g6, .int 0])), (h1, .inr (3, [g7, g8, g9, g10, g11, g12, g13, g14, g15, g16, g17, g18, .int 1, g19]))] := hD
  exact kr_i () hx hb hr hlocks (hP.sub [] rfl) (hD.sub [] (by decide) rfl) hS rfl dX7_told_62
set_option maxHeartbeats 4000000 in
set_option maxRecDepth 100000 in
theorem K301_X8_in (l : Launch) (D : va_G) (cB cI cZ : ClassId) (sz : Nat)     :
    CtI l D cB cI cZ yX8_in wsX8_in { frames := 0, cells := 0, slots := 0, locals := 0 } [.int 0, .int 0, .int 9] [] sz 0 0
      (fun (r : Int32) (u : Unit) => r = 1)
      (fun u => []) := by
  refine mk_metI (cc := cX8_in) (maxL := 3) (ret := (some .boolean)) (by decide) rfl (Nat.le_of_ble_eq_true rfl) ?_
  intro p e s m below meth c A hx hb hr hml hts hown hlocks hin hP hK hN hD hA hS ls hl
  have hown : s.vm.findClass RX8 = some m.cls := hown
  have hl : lv_has ls 3 [(0, .int 0), (1, .int 0), (2, .int 9)] := hl
  refine lv_iload_n hx hb dX8_in_0 rfl (lv_at hl 0 rfl) ?_
  refine lv_iload_n hx hb dX8_in_1 rfl (lv_at hl 1 rfl) ?_
  refine lv_icmp_lt (tgt := 14) hx hb dX8_in_2 (by decide) (fun c => absurd c (by decide)) (fun c => ?_)
  refine lv_iload_n hx hb dX8_in_5 rfl (lv_at hl 0 rfl) ?_
  refine lv_iload_n hx hb dX8_in_6 rfl (lv_at hl 2 rfl) ?_
  refine lv_icmp_gt (tgt := 14) hx hb dX8_in_7 (by decide) (fun c => absurd c (by decide)) (fun c => ?_)
  refine lv_iconst (v := 1) hx hb dX8_in_10 (by decide) ?_
  refine lv_goto (tgt := 15) hx hb dX8_in_11 (by decide) ?_
  exact kr_z () hx hb hr rfl hlocks hP hD hS rfl dX8_in_15
set_option maxHeartbeats 4000000 in
set_option maxRecDepth 100000 in
theorem K300_X8_told (l : Launch) (D : va_G) (cB cI cZ : ClassId) (sz : Nat) (h0 : Nat)  (g0 : Value) (g1 : Value) (g2 : Value) (g3 : Value) (g4 : Value) (g5 : Value) (g6 : Value) (g7 : Value) (g8 : Value) (g9 : Value) (g10 : Value) (g11 : Value) (g12 : Value) (g13 : Value) (g14 : Value) (g15 : Value) (g16 : Value) (g17 : Value) (g18 : Value) (g19 : Value) (g20 : Value) (g21 : Value) (g22 : Value) (g23 : Value) (g24 : Value) (g25 : Value) (g26 : Value) (g27 : Value)  :
    CtI l D cB cI cZ yX8_told wsX8_told { frames := 1, cells := 0, slots := 0, locals := 22 } [.ref h0, .int 0] [(h0, .inr (7, [g0, .int 0, g1, g2, g3, g4, g5, g6, g7, .int 1, g8, g9, g10, g11, g12, g13, g14, g15, g16, g17, g18, g19, g20, g21, g22, g23, g24, g25, g26, g27]))] sz 0 0
      (fun (r : Int32) (u : Unit) => r = 1)
      (fun u => []) := by
  refine mk_metI (cc := cX8_told) (maxL := 4) (ret := (some .int)) (by decide) rfl (Nat.le_of_ble_eq_true rfl) ?_
  intro p e s m below meth c A hx hb hr hml hts hown hlocks hin hP hK hN hD hA hS ls hl
  have hown : s.vm.findClass RX8 = some m.cls := hown
  have hl : lv_has ls 4 [(0, .ref h0), (1, .int 0)] := hl
  refine lv_aload_n hx hb dX8_told_0 rfl (lv_at hl 0 rfl) ?_
  refine lv_iconst (v := 0) hx hb dX8_told_1 (by decide) ?_
  refine va_put (D := D) (ci := 7) (v := .int 0) (ty := .int) (C := RX8) (T := TX8) (N := 30) hx hb hts inX8_told_X8 tyX8 tyX8_ok nmX8 hown hK hP hD hS 0 rfl rfl 0 (by decide) (hts _ wdX8_told_0) (fun _ h9 => h9) rfl (by decide +kernel) rfl rfl (Nat.le_of_ble_eq_true rfl) dX8_told_2 (fun H locs hP hD hS => ?_)
  have hP : va_P D vwCl [(h0, .inr (7, [.int 0, .int 0, g1, g2, g3, g4, g5, g6, g7, .int 1, g8, g9, g10, g11, g12, g13, g14, g15, g16, g17, g18, g19, g20, g21, g22, g23, g24, g25, g26, g27]))] H := hP
  have hD : va_D A [(h0, .inr (7, [.int 0, .int 0, g1, g2, g3, g4, g5, g6, g7, .int 1, g8, g9, g10, g11, g12, g13, g14, g15, g16, g17, g18, g19, g20, g21, g22, g23, g24, g25, g26, g27]))] := hD
  refine lv_iload_n hx hb dX8_told_5 rfl (lv_at hl 1 rfl) ?_
  refine lv_iconst (v := 0) hx hb dX8_told_6 (by decide) ?_
  refine lv_bipush (v := 9) hx hb dX8_told_7 (by decide) ?_
  refine kc_i (wr := [(h0, .inr (7, [.int 0, .int 0, g1, g2, g3, g4, g5, g6, g7, .int 1, g8, g9, g10, g11, g12, g13, g14, g15, g16, g17, g18, g19, g20, g21, g22, g23, g24, g25, g26, g27]))]) (va_runS (As := [.int 0, .int 0, .int 9]) (rest := []) ⟨hx, hb, hml, hown, hts⟩ (K301_X8_in l D cB cI cZ _ ) (va_cwS 3 hts gX8_told_X8_in rfl rfl rfl (by decide +kernel) ⟨Nat.le_of_ble_eq_true rfl, Nat.le_of_ble_eq_true rfl⟩) (pre_S (hP.sub [] rfl) hK hN (hD.sub [] (by decide) rfl)) rfl rfl hl.1 rfl (lv_room (Nat.le_of_ble_eq_true rfl)) dX8_told_9 ⟨Nat.le_of_ble_eq_true rfl, Nat.le_of_ble_eq_true rfl⟩) hP hD hS hA [] [0] rfl rfl (by decide) (by decide) (fun r_1 u H locs hw hP hD hS => ?_)
  have k_2 := hw
  obtain rfl : r_1 = 1 := k_2
  have hP : va_P D vwCl [(h0, .inr (7, [.int 0, .int 0, g1, g2, g3, g4, g5, g6, g7, .int 1, g8, g9, g10, g11, g12, g13, g14, g15, g16, g17, g18, g19, g20, g21, g22, g23, g24, g25, g26, g27]))] H := hP
  have hD : va_D A [(h0, .inr (7, [.int 0, .int 0, g1, g2, g3, g4, g5, g6, g7, .int 1, g8, g9, g10, g11, g12, g13, g14, g15, g16, g17, g18, g19, g20, g21, g22, g23, g24, g25, g26, g27]))] := hD
  refine lv_if_ne (tgt := 18) hx hb dX8_told_12 (by decide) (fun c => ?_) (fun c => absurd c (by decide))
  refine lv_iload_n hx hb dX8_told_18 rfl (lv_at hl 1 rfl) ?_
  refine lv_bipush (v := 7) hx hb dX8_told_19 (by decide) ?_
  refine lv_icmp_le (tgt := 50) hx hb dX8_told_21 (by decide) (fun c => ?_) (fun c => absurd (by decide) c)
  refine lv_aload_n hx hb dX8_told_50 rfl (lv_at hl 0 rfl) ?_
  refine va_get (D := D) (ci := 7) (v := .int 0) (C := RX8) (T := TX8) (N := 30) hx hb hts inX8_told_X8 hown hK hP 0 rfl rfl 1 (by decide) (hts _ wdX8_told_1) (fun _ h9 => h9) rfl dX8_told_51 ?_
  refine lv_if_eq (tgt := 59) hx hb dX8_told_54 (by decide) (fun c => ?_) (fun c => absurd (by decide) c)
  refine lv_iload_n hx hb dX8_told_59 rfl (lv_at hl 1 rfl) ?_
  refine lv_tableIn (tgt := 104) (off := 44) hx hb dX8_told_60 (by decide) (by decide) (by decide) (by decide) ?_
  refine lv_aload_n hx hb dX8_told_104 rfl (lv_at hl 0 rfl) ?_
  refine va_get (D := D) (ci := 7) (v := .int 1) (C := RX8) (T := TX8) (N := 30) hx hb hts inX8_told_X8 hown hK hP 0 rfl rfl 9 (by decide) (hts _ wdX8_told_2) (fun _ h9 => h9) rfl dX8_told_105 ?_
  exact kr_i () hx hb hr hlocks (hP.sub [] rfl) (hD.sub [] (by decide) rfl) hS rfl dX8_told_108
set_option maxHeartbeats 4000000 in
set_option maxRecDepth 100000 in
theorem K303_X7_toldWhileUp (l : Launch) (D : va_G) (cB cI cZ : ClassId) (sz : Nat) (h0 : Nat) (h1 : Nat)  (g0 : Value) (g1 : Value) (g2 : Value) (g3 : Value) (g4 : Value) (g5 : Value) (g6 : Value) (g7 : Value) (g8 : Value) (g9 : Value) (g10 : Value) (g11 : Value) (g12 : Value) (g13 : Value) (g14 : Value) (g15 : Value) (g16 : Value) (g17 : Value) (g18 : Value) (g19 : Value) (g20 : Value)  :
    CtI l D cB cI cZ yX7_toldWhileUp wsX7_toldWhileUp { frames := 0, cells := 0, slots := 0, locals := 0 } [.ref h0, .int 1] [(h0, .inr (6, [g0, g1, .ref h1, g2, g3, g4, g5, g6, g7])), (h1, .inr (3, [g8, g9, g10, g11, g12, g13, g14, g15, g16, g17, g18, g19, g20, .int 0]))] sz 0 0
      (fun (r : Int32) (u : Unit) => r = 0)
      (fun u => [(h0, .inr (6, [g0, g1, .ref h1, g2, g3, g4, g5, g6, g7])), (h1, .inr (3, [g8, g9, g10, g11, g12, g13, g14, g15, g16, g17, g18, g19, g20, .int 0]))]) := by
  refine mk_metI (cc := cX7_toldWhileUp) (maxL := 2) (ret := (some .int)) (by decide) rfl (Nat.le_of_ble_eq_true rfl) ?_
  intro p e s m below meth c A hx hb hr hml hts hown hlocks hin hP hK hN hD hA hS ls hl
  have hown : s.vm.findClass RX7 = some m.cls := hown
  have hl : lv_has ls 2 [(0, .ref h0), (1, .int 1)] := hl
  refine lv_iload_n hx hb dX7_toldWhileUp_0 rfl (lv_at hl 1 rfl) ?_
  refine lv_tableIn (tgt := 52) (off := 51) hx hb dX7_toldWhileUp_1 (by decide) (by decide) (by decide) (by decide) ?_
  refine lv_aload_n hx hb dX7_toldWhileUp_52 rfl (lv_at hl 0 rfl) ?_
  refine va_get (D := D) (ci := 6) (v := .ref h1) (C := RX7) (T := TX7) (N := 9) hx hb hts inX7_toldWhileUp_X7 hown hK hP 0 rfl rfl 2 (by decide) (hts _ wdX7_toldWhileUp_0) (fun _ h9 => h9) rfl dX7_toldWhileUp_53 ?_
  refine va_getN (D := D) (ci := 3) (v := .int 0) (C := RX3) (T := TX3) (N := 14) hx hb hts inX7_toldWhileUp_X3 hown hK hP 1 rfl rfl 13 (by decide) (hN.f (a := "AgedLog") (i := 78) (b := "AgedLog$Log") (n := "clock") (d := "I") (by decide +kernel)) (fun _ h9 => h9) rfl dX7_toldWhileUp_56 ?_
  exact kr_i () hx hb hr hlocks hP hD hS rfl dX7_toldWhileUp_59
set_option maxHeartbeats 4000000 in
set_option maxRecDepth 100000 in
theorem K302_X7_told (l : Launch) (D : va_G) (cB cI cZ : ClassId) (sz : Nat) (h0 : Nat) (h1 : Nat)  (g0 : Value) (g1 : Value) (g2 : Value) (g3 : Value) (g4 : Value) (g5 : Value) (g6 : Value) (g7 : Value) (g8 : Value) (g9 : Value) (g10 : Value) (g11 : Value) (g12 : Value) (g13 : Value) (g14 : Value) (g15 : Value) (g16 : Value) (g17 : Value) (g18 : Value) (g19 : Value)  :
    CtI l D cB cI cZ yX7_told wsX7_told { frames := 1, cells := 0, slots := 0, locals := 21 } [.ref h0, .int 1] [(h0, .inr (6, [g0, g1, .ref h1, g2, g3, g4, g5, g6, .int 0])), (h1, .inr (3, [g7, g8, g9, g10, g11, g12, g13, g14, g15, g16, g17, g18, g19, .int 0]))] sz 0 0
      (fun (r : Int32) (u : Unit) => r = 0)
      (fun u => []) := by
  refine mk_metI (cc := cX7_told) (maxL := 2) (ret := (some .int)) (by decide) rfl (Nat.le_of_ble_eq_true rfl) ?_
  intro p e s m below meth c A hx hb hr hml hts hown hlocks hin hP hK hN hD hA hS ls hl
  have hown : s.vm.findClass RX7 = some m.cls := hown
  have hl : lv_has ls 2 [(0, .ref h0), (1, .int 1)] := hl
  refine lv_iload_n hx hb dX7_told_0 rfl (lv_at hl 1 rfl) ?_
  refine lv_if_lt (tgt := 10) hx hb dX7_told_1 (by decide) (fun c => absurd c (by decide)) (fun c => ?_)
  refine lv_iload_n hx hb dX7_told_4 rfl (lv_at hl 1 rfl) ?_
  refine lv_bipush (v := 9) hx hb dX7_told_5 (by decide) ?_
  refine lv_icmp_le (tgt := 13) hx hb dX7_told_7 (by decide) (fun c => ?_) (fun c => absurd (by decide) c)
  refine lv_iload_n hx hb dX7_told_13 rfl (lv_at hl 1 rfl) ?_
  refine lv_bipush (v := 9) hx hb dX7_told_14 (by decide) ?_
  refine lv_icmp_ne (tgt := 32) hx hb dX7_told_16 (by decide) (fun c => ?_) (fun c => absurd c (by decide))
  refine lv_iload_n hx hb dX7_told_32 rfl (lv_at hl 1 rfl) ?_
  refine lv_bipush (v := 8) hx hb dX7_told_33 (by decide) ?_
  refine lv_icmp_ne (tgt := 46) hx hb dX7_told_35 (by decide) (fun c => ?_) (fun c => absurd c (by decide))
  refine lv_aload_n hx hb dX7_told_46 rfl (lv_at hl 0 rfl) ?_
  refine va_get (D := D) (ci := 6) (v := .int 0) (C := RX7) (T := TX7) (N := 9) hx hb hts inX7_told_X7 hown hK hP 0 rfl rfl 8 (by decide) (hts _ wdX7_told_0) (fun _ h9 => h9) rfl dX7_told_47 ?_
  refine lv_if_eq (tgt := 57) hx hb dX7_told_50 (by decide) (fun c => ?_) (fun c => absurd (by decide) c)
  refine lv_aload_n hx hb dX7_told_57 rfl (lv_at hl 0 rfl) ?_
  refine lv_iload_n hx hb dX7_told_58 rfl (lv_at hl 1 rfl) ?_
  refine kc_i (wr := []) (va_runV (As := [.int 1]) (rest := []) ⟨hx, hb, hml, hown, hts⟩ (K303_X7_toldWhileUp l D cB cI cZ _ h0 h1 (g0) (g1) (g2) (g3) (g4) (g5) (g6) ((.int 0)) (g7) (g8) (g9) (g10) (g11) (g12) (g13) (g14) (g15) (g16) (g17) (g18) (g19)) (cwV 1 hts gX7_told_X7_toldWhileUp rfl rfl rfl (by decide +kernel) ⟨Nat.le_of_ble_eq_true rfl, Nat.le_of_ble_eq_true rfl⟩) (pre_V (q := (RX7, TX7, 9)) (ci := 6) (q0 := 0) (hP.sub [0, 1] rfl) hK hN (hD.sub [0, 1] (by decide) rfl) rfl rfl) rfl rfl hl.1 rfl (lv_room (Nat.le_of_ble_eq_true rfl)) dX7_told_59 ⟨Nat.le_of_ble_eq_true rfl, Nat.le_of_ble_eq_true rfl⟩) hP hD hS hA [0, 1] [] rfl rfl (by decide) (by decide) (fun r_1 u H locs hw hP hD hS => ?_)
  have k_2 := hw
  obtain rfl : r_1 = 0 := k_2
  have hP : va_P D vwCl [(h0, .inr (6, [g0, g1, .ref h1, g2, g3, g4, g5, g6, .int 0])), (h1, .inr (3, [g7, g8, g9, g10, g11, g12, g13, g14, g15, g16, g17, g18, g19, .int 0]))] H := hP
  have hD : va_D A [(h0, .inr (6, [g0, g1, .ref h1, g2, g3, g4, g5, g6, .int 0])), (h1, .inr (3, [g7, g8, g9, g10, g11, g12, g13, g14, g15, g16, g17, g18, g19, .int 0]))] := hD
  exact kr_i () hx hb hr hlocks (hP.sub [] rfl) (hD.sub [] (by decide) rfl) hS rfl dX7_told_62
set_option maxHeartbeats 4000000 in
set_option maxRecDepth 100000 in
theorem K305_X8_in (l : Launch) (D : va_G) (cB cI cZ : ClassId) (sz : Nat)     :
    CtI l D cB cI cZ yX8_in wsX8_in { frames := 0, cells := 0, slots := 0, locals := 0 } [.int 1, .int 0, .int 9] [] sz 0 0
      (fun (r : Int32) (u : Unit) => r = 1)
      (fun u => []) := by
  refine mk_metI (cc := cX8_in) (maxL := 3) (ret := (some .boolean)) (by decide) rfl (Nat.le_of_ble_eq_true rfl) ?_
  intro p e s m below meth c A hx hb hr hml hts hown hlocks hin hP hK hN hD hA hS ls hl
  have hown : s.vm.findClass RX8 = some m.cls := hown
  have hl : lv_has ls 3 [(0, .int 1), (1, .int 0), (2, .int 9)] := hl
  refine lv_iload_n hx hb dX8_in_0 rfl (lv_at hl 0 rfl) ?_
  refine lv_iload_n hx hb dX8_in_1 rfl (lv_at hl 1 rfl) ?_
  refine lv_icmp_lt (tgt := 14) hx hb dX8_in_2 (by decide) (fun c => absurd c (by decide)) (fun c => ?_)
  refine lv_iload_n hx hb dX8_in_5 rfl (lv_at hl 0 rfl) ?_
  refine lv_iload_n hx hb dX8_in_6 rfl (lv_at hl 2 rfl) ?_
  refine lv_icmp_gt (tgt := 14) hx hb dX8_in_7 (by decide) (fun c => absurd c (by decide)) (fun c => ?_)
  refine lv_iconst (v := 1) hx hb dX8_in_10 (by decide) ?_
  refine lv_goto (tgt := 15) hx hb dX8_in_11 (by decide) ?_
  exact kr_z () hx hb hr rfl hlocks hP hD hS rfl dX8_in_15
set_option maxHeartbeats 4000000 in
set_option maxRecDepth 100000 in
theorem K304_X8_told (l : Launch) (D : va_G) (cB cI cZ : ClassId) (sz : Nat) (h0 : Nat)  (g0 : Value) (g1 : Value) (g2 : Value) (g3 : Value) (g4 : Value) (g5 : Value) (g6 : Value) (g7 : Value) (g8 : Value) (g9 : Value) (g10 : Value) (g11 : Value) (g12 : Value) (g13 : Value) (g14 : Value) (g15 : Value) (g16 : Value) (g17 : Value) (g18 : Value) (g19 : Value) (g20 : Value) (g21 : Value) (g22 : Value) (g23 : Value) (g24 : Value) (g25 : Value) (g26 : Value) (g27 : Value)  :
    CtI l D cB cI cZ yX8_told wsX8_told { frames := 1, cells := 0, slots := 0, locals := 22 } [.ref h0, .int 1] [(h0, .inr (7, [g0, .int 0, g1, g2, g3, g4, g5, g6, g7, g8, .int 0, g9, g10, g11, g12, g13, g14, g15, g16, g17, g18, g19, g20, g21, g22, g23, g24, g25, g26, g27]))] sz 0 0
      (fun (r : Int32) (u : Unit) => r = 0)
      (fun u => []) := by
  refine mk_metI (cc := cX8_told) (maxL := 4) (ret := (some .int)) (by decide) rfl (Nat.le_of_ble_eq_true rfl) ?_
  intro p e s m below meth c A hx hb hr hml hts hown hlocks hin hP hK hN hD hA hS ls hl
  have hown : s.vm.findClass RX8 = some m.cls := hown
  have hl : lv_has ls 4 [(0, .ref h0), (1, .int 1)] := hl
  refine lv_aload_n hx hb dX8_told_0 rfl (lv_at hl 0 rfl) ?_
  refine lv_iconst (v := 0) hx hb dX8_told_1 (by decide) ?_
  refine va_put (D := D) (ci := 7) (v := .int 0) (ty := .int) (C := RX8) (T := TX8) (N := 30) hx hb hts inX8_told_X8 tyX8 tyX8_ok nmX8 hown hK hP hD hS 0 rfl rfl 0 (by decide) (hts _ wdX8_told_0) (fun _ h9 => h9) rfl (by decide +kernel) rfl rfl (Nat.le_of_ble_eq_true rfl) dX8_told_2 (fun H locs hP hD hS => ?_)
  have hP : va_P D vwCl [(h0, .inr (7, [.int 0, .int 0, g1, g2, g3, g4, g5, g6, g7, g8, .int 0, g9, g10, g11, g12, g13, g14, g15, g16, g17, g18, g19, g20, g21, g22, g23, g24, g25, g26, g27]))] H := hP
  have hD : va_D A [(h0, .inr (7, [.int 0, .int 0, g1, g2, g3, g4, g5, g6, g7, g8, .int 0, g9, g10, g11, g12, g13, g14, g15, g16, g17, g18, g19, g20, g21, g22, g23, g24, g25, g26, g27]))] := hD
  refine lv_iload_n hx hb dX8_told_5 rfl (lv_at hl 1 rfl) ?_
  refine lv_iconst (v := 0) hx hb dX8_told_6 (by decide) ?_
  refine lv_bipush (v := 9) hx hb dX8_told_7 (by decide) ?_
  refine kc_i (wr := [(h0, .inr (7, [.int 0, .int 0, g1, g2, g3, g4, g5, g6, g7, g8, .int 0, g9, g10, g11, g12, g13, g14, g15, g16, g17, g18, g19, g20, g21, g22, g23, g24, g25, g26, g27]))]) (va_runS (As := [.int 1, .int 0, .int 9]) (rest := []) ⟨hx, hb, hml, hown, hts⟩ (K305_X8_in l D cB cI cZ _ ) (va_cwS 3 hts gX8_told_X8_in rfl rfl rfl (by decide +kernel) ⟨Nat.le_of_ble_eq_true rfl, Nat.le_of_ble_eq_true rfl⟩) (pre_S (hP.sub [] rfl) hK hN (hD.sub [] (by decide) rfl)) rfl rfl hl.1 rfl (lv_room (Nat.le_of_ble_eq_true rfl)) dX8_told_9 ⟨Nat.le_of_ble_eq_true rfl, Nat.le_of_ble_eq_true rfl⟩) hP hD hS hA [] [0] rfl rfl (by decide) (by decide) (fun r_1 u H locs hw hP hD hS => ?_)
  have k_2 := hw
  obtain rfl : r_1 = 1 := k_2
  have hP : va_P D vwCl [(h0, .inr (7, [.int 0, .int 0, g1, g2, g3, g4, g5, g6, g7, g8, .int 0, g9, g10, g11, g12, g13, g14, g15, g16, g17, g18, g19, g20, g21, g22, g23, g24, g25, g26, g27]))] H := hP
  have hD : va_D A [(h0, .inr (7, [.int 0, .int 0, g1, g2, g3, g4, g5, g6, g7, g8, .int 0, g9, g10, g11, g12, g13, g14, g15, g16, g17, g18, g19, g20, g21, g22, g23, g24, g25, g26, g27]))] := hD
  refine lv_if_ne (tgt := 18) hx hb dX8_told_12 (by decide) (fun c => ?_) (fun c => absurd c (by decide))
  refine lv_iload_n hx hb dX8_told_18 rfl (lv_at hl 1 rfl) ?_
  refine lv_bipush (v := 7) hx hb dX8_told_19 (by decide) ?_
  refine lv_icmp_le (tgt := 50) hx hb dX8_told_21 (by decide) (fun c => ?_) (fun c => absurd (by decide) c)
  refine lv_aload_n hx hb dX8_told_50 rfl (lv_at hl 0 rfl) ?_
  refine va_get (D := D) (ci := 7) (v := .int 0) (C := RX8) (T := TX8) (N := 30) hx hb hts inX8_told_X8 hown hK hP 0 rfl rfl 1 (by decide) (hts _ wdX8_told_1) (fun _ h9 => h9) rfl dX8_told_51 ?_
  refine lv_if_eq (tgt := 59) hx hb dX8_told_54 (by decide) (fun c => ?_) (fun c => absurd (by decide) c)
  refine lv_iload_n hx hb dX8_told_59 rfl (lv_at hl 1 rfl) ?_
  refine lv_tableIn (tgt := 109) (off := 49) hx hb dX8_told_60 (by decide) (by decide) (by decide) (by decide) ?_
  refine lv_aload_n hx hb dX8_told_109 rfl (lv_at hl 0 rfl) ?_
  refine va_get (D := D) (ci := 7) (v := .int 0) (C := RX8) (T := TX8) (N := 30) hx hb hts inX8_told_X8 hown hK hP 0 rfl rfl 10 (by decide) (hts _ wdX8_told_3) (fun _ h9 => h9) rfl dX8_told_110 ?_
  exact kr_i () hx hb hr hlocks (hP.sub [] rfl) (hD.sub [] (by decide) rfl) hS rfl dX8_told_113
set_option maxHeartbeats 4000000 in
set_option maxRecDepth 100000 in
theorem K307_X7_toldWhileUp (l : Launch) (D : va_G) (cB cI cZ : ClassId) (sz : Nat) (h0 : Nat) (h1 : Nat)  (g0 : Value) (g1 : Value) (g2 : Value) (g3 : Value) (g4 : Value) (g5 : Value) (g6 : Value) (g7 : Value) (g8 : Value) (g9 : Value) (g10 : Value) (g11 : Value) (g12 : Value) (g13 : Value) (g14 : Value) (g15 : Value) (g16 : Value) (g17 : Value) (g18 : Value) (g19 : Value) (g20 : Value)  :
    CtI l D cB cI cZ yX7_toldWhileUp wsX7_toldWhileUp { frames := 0, cells := 0, slots := 0, locals := 0 } [.ref h0, .int 2] [(h0, .inr (6, [g0, g1, .ref h1, g2, g3, g4, g5, g6, g7])), (h1, .inr (3, [g8, g9, g10, g11, g12, g13, g14, g15, g16, .int 0, g17, g18, g19, g20]))] sz 0 0
      (fun (r : Int32) (u : Unit) => r = 0)
      (fun u => [(h0, .inr (6, [g0, g1, .ref h1, g2, g3, g4, g5, g6, g7])), (h1, .inr (3, [g8, g9, g10, g11, g12, g13, g14, g15, g16, .int 0, g17, g18, g19, g20]))]) := by
  refine mk_metI (cc := cX7_toldWhileUp) (maxL := 2) (ret := (some .int)) (by decide) rfl (Nat.le_of_ble_eq_true rfl) ?_
  intro p e s m below meth c A hx hb hr hml hts hown hlocks hin hP hK hN hD hA hS ls hl
  have hown : s.vm.findClass RX7 = some m.cls := hown
  have hl : lv_has ls 2 [(0, .ref h0), (1, .int 2)] := hl
  refine lv_iload_n hx hb dX7_toldWhileUp_0 rfl (lv_at hl 1 rfl) ?_
  refine lv_tableIn (tgt := 60) (off := 59) hx hb dX7_toldWhileUp_1 (by decide) (by decide) (by decide) (by decide) ?_
  refine lv_aload_n hx hb dX7_toldWhileUp_60 rfl (lv_at hl 0 rfl) ?_
  refine va_get (D := D) (ci := 6) (v := .ref h1) (C := RX7) (T := TX7) (N := 9) hx hb hts inX7_toldWhileUp_X7 hown hK hP 0 rfl rfl 2 (by decide) (hts _ wdX7_toldWhileUp_0) (fun _ h9 => h9) rfl dX7_toldWhileUp_61 ?_
  refine va_getN (D := D) (ci := 3) (v := .int 0) (C := RX3) (T := TX3) (N := 14) hx hb hts inX7_toldWhileUp_X3 hown hK hP 1 rfl rfl 9 (by decide) (hN.f (a := "AgedLog") (i := 185) (b := "AgedLog$Log") (n := "open") (d := "I") (by decide +kernel)) (fun _ h9 => h9) rfl dX7_toldWhileUp_64 ?_
  exact kr_i () hx hb hr hlocks hP hD hS rfl dX7_toldWhileUp_67
set_option maxHeartbeats 4000000 in
set_option maxRecDepth 100000 in
theorem K306_X7_told (l : Launch) (D : va_G) (cB cI cZ : ClassId) (sz : Nat) (h0 : Nat) (h1 : Nat)  (g0 : Value) (g1 : Value) (g2 : Value) (g3 : Value) (g4 : Value) (g5 : Value) (g6 : Value) (g7 : Value) (g8 : Value) (g9 : Value) (g10 : Value) (g11 : Value) (g12 : Value) (g13 : Value) (g14 : Value) (g15 : Value) (g16 : Value) (g17 : Value) (g18 : Value) (g19 : Value)  :
    CtI l D cB cI cZ yX7_told wsX7_told { frames := 1, cells := 0, slots := 0, locals := 21 } [.ref h0, .int 2] [(h0, .inr (6, [g0, g1, .ref h1, g2, g3, g4, g5, g6, .int 0])), (h1, .inr (3, [g7, g8, g9, g10, g11, g12, g13, g14, g15, .int 0, g16, g17, g18, g19]))] sz 0 0
      (fun (r : Int32) (u : Unit) => r = 0)
      (fun u => []) := by
  refine mk_metI (cc := cX7_told) (maxL := 2) (ret := (some .int)) (by decide) rfl (Nat.le_of_ble_eq_true rfl) ?_
  intro p e s m below meth c A hx hb hr hml hts hown hlocks hin hP hK hN hD hA hS ls hl
  have hown : s.vm.findClass RX7 = some m.cls := hown
  have hl : lv_has ls 2 [(0, .ref h0), (1, .int 2)] := hl
  refine lv_iload_n hx hb dX7_told_0 rfl (lv_at hl 1 rfl) ?_
  refine lv_if_lt (tgt := 10) hx hb dX7_told_1 (by decide) (fun c => absurd c (by decide)) (fun c => ?_)
  refine lv_iload_n hx hb dX7_told_4 rfl (lv_at hl 1 rfl) ?_
  refine lv_bipush (v := 9) hx hb dX7_told_5 (by decide) ?_
  refine lv_icmp_le (tgt := 13) hx hb dX7_told_7 (by decide) (fun c => ?_) (fun c => absurd (by decide) c)
  refine lv_iload_n hx hb dX7_told_13 rfl (lv_at hl 1 rfl) ?_
  refine lv_bipush (v := 9) hx hb dX7_told_14 (by decide) ?_
  refine lv_icmp_ne (tgt := 32) hx hb dX7_told_16 (by decide) (fun c => ?_) (fun c => absurd c (by decide))
  refine lv_iload_n hx hb dX7_told_32 rfl (lv_at hl 1 rfl) ?_
  refine lv_bipush (v := 8) hx hb dX7_told_33 (by decide) ?_
  refine lv_icmp_ne (tgt := 46) hx hb dX7_told_35 (by decide) (fun c => ?_) (fun c => absurd c (by decide))
  refine lv_aload_n hx hb dX7_told_46 rfl (lv_at hl 0 rfl) ?_
  refine va_get (D := D) (ci := 6) (v := .int 0) (C := RX7) (T := TX7) (N := 9) hx hb hts inX7_told_X7 hown hK hP 0 rfl rfl 8 (by decide) (hts _ wdX7_told_0) (fun _ h9 => h9) rfl dX7_told_47 ?_
  refine lv_if_eq (tgt := 57) hx hb dX7_told_50 (by decide) (fun c => ?_) (fun c => absurd (by decide) c)
  refine lv_aload_n hx hb dX7_told_57 rfl (lv_at hl 0 rfl) ?_
  refine lv_iload_n hx hb dX7_told_58 rfl (lv_at hl 1 rfl) ?_
  refine kc_i (wr := []) (va_runV (As := [.int 2]) (rest := []) ⟨hx, hb, hml, hown, hts⟩ (K307_X7_toldWhileUp l D cB cI cZ _ h0 h1 (g0) (g1) (g2) (g3) (g4) (g5) (g6) ((.int 0)) (g7) (g8) (g9) (g10) (g11) (g12) (g13) (g14) (g15) (g16) (g17) (g18) (g19)) (cwV 1 hts gX7_told_X7_toldWhileUp rfl rfl rfl (by decide +kernel) ⟨Nat.le_of_ble_eq_true rfl, Nat.le_of_ble_eq_true rfl⟩) (pre_V (q := (RX7, TX7, 9)) (ci := 6) (q0 := 0) (hP.sub [0, 1] rfl) hK hN (hD.sub [0, 1] (by decide) rfl) rfl rfl) rfl rfl hl.1 rfl (lv_room (Nat.le_of_ble_eq_true rfl)) dX7_told_59 ⟨Nat.le_of_ble_eq_true rfl, Nat.le_of_ble_eq_true rfl⟩) hP hD hS hA [0, 1] [] rfl rfl (by decide) (by decide) (fun r_1 u H locs hw hP hD hS => ?_)
  have k_2 := hw
  obtain rfl : r_1 = 0 := k_2
  have hP : va_P D vwCl [(h0, .inr (6, [g0, g1, .ref h1, g2, g3, g4, g5, g6, .int 0])), (h1, .inr (3, [g7, g8, g9, g10, g11, g12, g13, g14, g15, .int 0, g16, g17, g18, g19]))] H := hP
  have hD : va_D A [(h0, .inr (6, [g0, g1, .ref h1, g2, g3, g4, g5, g6, .int 0])), (h1, .inr (3, [g7, g8, g9, g10, g11, g12, g13, g14, g15, .int 0, g16, g17, g18, g19]))] := hD
  exact kr_i () hx hb hr hlocks (hP.sub [] rfl) (hD.sub [] (by decide) rfl) hS rfl dX7_told_62
set_option maxHeartbeats 4000000 in
set_option maxRecDepth 100000 in
theorem K309_X8_in (l : Launch) (D : va_G) (cB cI cZ : ClassId) (sz : Nat)     :
    CtI l D cB cI cZ yX8_in wsX8_in { frames := 0, cells := 0, slots := 0, locals := 0 } [.int 2, .int 0, .int 9] [] sz 0 0
      (fun (r : Int32) (u : Unit) => r = 1)
      (fun u => []) := by
  refine mk_metI (cc := cX8_in) (maxL := 3) (ret := (some .boolean)) (by decide) rfl (Nat.le_of_ble_eq_true rfl) ?_
  intro p e s m below meth c A hx hb hr hml hts hown hlocks hin hP hK hN hD hA hS ls hl
  have hown : s.vm.findClass RX8 = some m.cls := hown
  have hl : lv_has ls 3 [(0, .int 2), (1, .int 0), (2, .int 9)] := hl
  refine lv_iload_n hx hb dX8_in_0 rfl (lv_at hl 0 rfl) ?_
  refine lv_iload_n hx hb dX8_in_1 rfl (lv_at hl 1 rfl) ?_
  refine lv_icmp_lt (tgt := 14) hx hb dX8_in_2 (by decide) (fun c => absurd c (by decide)) (fun c => ?_)
  refine lv_iload_n hx hb dX8_in_5 rfl (lv_at hl 0 rfl) ?_
  refine lv_iload_n hx hb dX8_in_6 rfl (lv_at hl 2 rfl) ?_
  refine lv_icmp_gt (tgt := 14) hx hb dX8_in_7 (by decide) (fun c => absurd c (by decide)) (fun c => ?_)
  refine lv_iconst (v := 1) hx hb dX8_in_10 (by decide) ?_
  refine lv_goto (tgt := 15) hx hb dX8_in_11 (by decide) ?_
  exact kr_z () hx hb hr rfl hlocks hP hD hS rfl dX8_in_15
set_option maxHeartbeats 4000000 in
set_option maxRecDepth 100000 in
theorem K308_X8_told (l : Launch) (D : va_G) (cB cI cZ : ClassId) (sz : Nat) (h0 : Nat)  (g0 : Value) (g1 : Value) (g2 : Value) (g3 : Value) (g4 : Value) (g5 : Value) (g6 : Value) (g7 : Value) (g8 : Value) (g9 : Value) (g10 : Value) (g11 : Value) (g12 : Value) (g13 : Value) (g14 : Value) (g15 : Value) (g16 : Value) (g17 : Value) (g18 : Value) (g19 : Value) (g20 : Value) (g21 : Value) (g22 : Value) (g23 : Value) (g24 : Value) (g25 : Value) (g26 : Value) (g27 : Value)  :
    CtI l D cB cI cZ yX8_told wsX8_told { frames := 1, cells := 0, slots := 0, locals := 22 } [.ref h0, .int 2] [(h0, .inr (7, [g0, .int 0, g1, g2, g3, g4, .int 0, g5, g6, g7, g8, g9, g10, g11, g12, g13, g14, g15, g16, g17, g18, g19, g20, g21, g22, g23, g24, g25, g26, g27]))] sz 0 0
      (fun (r : Int32) (u : Unit) => r = 0)
      (fun u => []) := by
  refine mk_metI (cc := cX8_told) (maxL := 4) (ret := (some .int)) (by decide) rfl (Nat.le_of_ble_eq_true rfl) ?_
  intro p e s m below meth c A hx hb hr hml hts hown hlocks hin hP hK hN hD hA hS ls hl
  have hown : s.vm.findClass RX8 = some m.cls := hown
  have hl : lv_has ls 4 [(0, .ref h0), (1, .int 2)] := hl
  refine lv_aload_n hx hb dX8_told_0 rfl (lv_at hl 0 rfl) ?_
  refine lv_iconst (v := 0) hx hb dX8_told_1 (by decide) ?_
  refine va_put (D := D) (ci := 7) (v := .int 0) (ty := .int) (C := RX8) (T := TX8) (N := 30) hx hb hts inX8_told_X8 tyX8 tyX8_ok nmX8 hown hK hP hD hS 0 rfl rfl 0 (by decide) (hts _ wdX8_told_0) (fun _ h9 => h9) rfl (by decide +kernel) rfl rfl (Nat.le_of_ble_eq_true rfl) dX8_told_2 (fun H locs hP hD hS => ?_)
  have hP : va_P D vwCl [(h0, .inr (7, [.int 0, .int 0, g1, g2, g3, g4, .int 0, g5, g6, g7, g8, g9, g10, g11, g12, g13, g14, g15, g16, g17, g18, g19, g20, g21, g22, g23, g24, g25, g26, g27]))] H := hP
  have hD : va_D A [(h0, .inr (7, [.int 0, .int 0, g1, g2, g3, g4, .int 0, g5, g6, g7, g8, g9, g10, g11, g12, g13, g14, g15, g16, g17, g18, g19, g20, g21, g22, g23, g24, g25, g26, g27]))] := hD
  refine lv_iload_n hx hb dX8_told_5 rfl (lv_at hl 1 rfl) ?_
  refine lv_iconst (v := 0) hx hb dX8_told_6 (by decide) ?_
  refine lv_bipush (v := 9) hx hb dX8_told_7 (by decide) ?_
  refine kc_i (wr := [(h0, .inr (7, [.int 0, .int 0, g1, g2, g3, g4, .int 0, g5, g6, g7, g8, g9, g10, g11, g12, g13, g14, g15, g16, g17, g18, g19, g20, g21, g22, g23, g24, g25, g26, g27]))]) (va_runS (As := [.int 2, .int 0, .int 9]) (rest := []) ⟨hx, hb, hml, hown, hts⟩ (K309_X8_in l D cB cI cZ _ ) (va_cwS 3 hts gX8_told_X8_in rfl rfl rfl (by decide +kernel) ⟨Nat.le_of_ble_eq_true rfl, Nat.le_of_ble_eq_true rfl⟩) (pre_S (hP.sub [] rfl) hK hN (hD.sub [] (by decide) rfl)) rfl rfl hl.1 rfl (lv_room (Nat.le_of_ble_eq_true rfl)) dX8_told_9 ⟨Nat.le_of_ble_eq_true rfl, Nat.le_of_ble_eq_true rfl⟩) hP hD hS hA [] [0] rfl rfl (by decide) (by decide) (fun r_1 u H locs hw hP hD hS => ?_)
  have k_2 := hw
  obtain rfl : r_1 = 1 := k_2
  have hP : va_P D vwCl [(h0, .inr (7, [.int 0, .int 0, g1, g2, g3, g4, .int 0, g5, g6, g7, g8, g9, g10, g11, g12, g13, g14, g15, g16, g17, g18, g19, g20, g21, g22, g23, g24, g25, g26, g27]))] H := hP
  have hD : va_D A [(h0, .inr (7, [.int 0, .int 0, g1, g2, g3, g4, .int 0, g5, g6, g7, g8, g9, g10, g11, g12, g13, g14, g15, g16, g17, g18, g19, g20, g21, g22, g23, g24, g25, g26, g27]))] := hD
  refine lv_if_ne (tgt := 18) hx hb dX8_told_12 (by decide) (fun c => ?_) (fun c => absurd c (by decide))
  refine lv_iload_n hx hb dX8_told_18 rfl (lv_at hl 1 rfl) ?_
  refine lv_bipush (v := 7) hx hb dX8_told_19 (by decide) ?_
  refine lv_icmp_le (tgt := 50) hx hb dX8_told_21 (by decide) (fun c => ?_) (fun c => absurd (by decide) c)
  refine lv_aload_n hx hb dX8_told_50 rfl (lv_at hl 0 rfl) ?_
  refine va_get (D := D) (ci := 7) (v := .int 0) (C := RX8) (T := TX8) (N := 30) hx hb hts inX8_told_X8 hown hK hP 0 rfl rfl 1 (by decide) (hts _ wdX8_told_1) (fun _ h9 => h9) rfl dX8_told_51 ?_
  refine lv_if_eq (tgt := 59) hx hb dX8_told_54 (by decide) (fun c => ?_) (fun c => absurd (by decide) c)
  refine lv_iload_n hx hb dX8_told_59 rfl (lv_at hl 1 rfl) ?_
  refine lv_tableIn (tgt := 114) (off := 54) hx hb dX8_told_60 (by decide) (by decide) (by decide) (by decide) ?_
  refine lv_aload_n hx hb dX8_told_114 rfl (lv_at hl 0 rfl) ?_
  refine va_get (D := D) (ci := 7) (v := .int 0) (C := RX8) (T := TX8) (N := 30) hx hb hts inX8_told_X8 hown hK hP 0 rfl rfl 6 (by decide) (hts _ wdX8_told_4) (fun _ h9 => h9) rfl dX8_told_115 ?_
  exact kr_i () hx hb hr hlocks (hP.sub [] rfl) (hD.sub [] (by decide) rfl) hS rfl dX8_told_118
set_option maxHeartbeats 4000000 in
set_option maxRecDepth 100000 in
theorem K311_X7_toldWhileUp (l : Launch) (D : va_G) (cB cI cZ : ClassId) (sz : Nat) (h0 : Nat) (h1 : Nat)  (g0 : Value) (g1 : Value) (g2 : Value) (g3 : Value) (g4 : Value) (g5 : Value) (g6 : Value) (g7 : Value) (g8 : Value) (g9 : Value) (g10 : Value) (g11 : Value) (g12 : Value) (g13 : Value) (g14 : Value) (g15 : Value) (g16 : Value) (g17 : Value) (g18 : Value) (g19 : Value) (g20 : Value)  :
    CtI l D cB cI cZ yX7_toldWhileUp wsX7_toldWhileUp { frames := 0, cells := 0, slots := 0, locals := 0 } [.ref h0, .int 3] [(h0, .inr (6, [g0, g1, .ref h1, g2, g3, g4, g5, g6, g7])), (h1, .inr (3, [g8, g9, g10, g11, g12, g13, g14, g15, g16, g17, .int 0, g18, g19, g20]))] sz 0 0
      (fun (r : Int32) (u : Unit) => r = 0)
      (fun u => [(h0, .inr (6, [g0, g1, .ref h1, g2, g3, g4, g5, g6, g7])), (h1, .inr (3, [g8, g9, g10, g11, g12, g13, g14, g15, g16, g17, .int 0, g18, g19, g20]))]) := by
  refine mk_metI (cc := cX7_toldWhileUp) (maxL := 2) (ret := (some .int)) (by decide) rfl (Nat.le_of_ble_eq_true rfl) ?_
  intro p e s m below meth c A hx hb hr hml hts hown hlocks hin hP hK hN hD hA hS ls hl
  have hown : s.vm.findClass RX7 = some m.cls := hown
  have hl : lv_has ls 2 [(0, .ref h0), (1, .int 3)] := hl
  refine lv_iload_n hx hb dX7_toldWhileUp_0 rfl (lv_at hl 1 rfl) ?_
  refine lv_tableIn (tgt := 68) (off := 67) hx hb dX7_toldWhileUp_1 (by decide) (by decide) (by decide) (by decide) ?_
  refine lv_aload_n hx hb dX7_toldWhileUp_68 rfl (lv_at hl 0 rfl) ?_
  refine va_get (D := D) (ci := 6) (v := .ref h1) (C := RX7) (T := TX7) (N := 9) hx hb hts inX7_toldWhileUp_X7 hown hK hP 0 rfl rfl 2 (by decide) (hts _ wdX7_toldWhileUp_0) (fun _ h9 => h9) rfl dX7_toldWhileUp_69 ?_
  refine va_getN (D := D) (ci := 3) (v := .int 0) (C := RX3) (T := TX3) (N := 14) hx hb hts inX7_toldWhileUp_X3 hown hK hP 1 rfl rfl 10 (by decide) (hN.f (a := "AgedLog") (i := 188) (b := "AgedLog$Log") (n := "place") (d := "I") (by decide +kernel)) (fun _ h9 => h9) rfl dX7_toldWhileUp_72 ?_
  exact kr_i () hx hb hr hlocks hP hD hS rfl dX7_toldWhileUp_75
set_option maxHeartbeats 4000000 in
set_option maxRecDepth 100000 in
theorem K310_X7_told (l : Launch) (D : va_G) (cB cI cZ : ClassId) (sz : Nat) (h0 : Nat) (h1 : Nat)  (g0 : Value) (g1 : Value) (g2 : Value) (g3 : Value) (g4 : Value) (g5 : Value) (g6 : Value) (g7 : Value) (g8 : Value) (g9 : Value) (g10 : Value) (g11 : Value) (g12 : Value) (g13 : Value) (g14 : Value) (g15 : Value) (g16 : Value) (g17 : Value) (g18 : Value) (g19 : Value)  :
    CtI l D cB cI cZ yX7_told wsX7_told { frames := 1, cells := 0, slots := 0, locals := 21 } [.ref h0, .int 3] [(h0, .inr (6, [g0, g1, .ref h1, g2, g3, g4, g5, g6, .int 0])), (h1, .inr (3, [g7, g8, g9, g10, g11, g12, g13, g14, g15, g16, .int 0, g17, g18, g19]))] sz 0 0
      (fun (r : Int32) (u : Unit) => r = 0)
      (fun u => []) := by
  refine mk_metI (cc := cX7_told) (maxL := 2) (ret := (some .int)) (by decide) rfl (Nat.le_of_ble_eq_true rfl) ?_
  intro p e s m below meth c A hx hb hr hml hts hown hlocks hin hP hK hN hD hA hS ls hl
  have hown : s.vm.findClass RX7 = some m.cls := hown
  have hl : lv_has ls 2 [(0, .ref h0), (1, .int 3)] := hl
  refine lv_iload_n hx hb dX7_told_0 rfl (lv_at hl 1 rfl) ?_
  refine lv_if_lt (tgt := 10) hx hb dX7_told_1 (by decide) (fun c => absurd c (by decide)) (fun c => ?_)
  refine lv_iload_n hx hb dX7_told_4 rfl (lv_at hl 1 rfl) ?_
  refine lv_bipush (v := 9) hx hb dX7_told_5 (by decide) ?_
  refine lv_icmp_le (tgt := 13) hx hb dX7_told_7 (by decide) (fun c => ?_) (fun c => absurd (by decide) c)
  refine lv_iload_n hx hb dX7_told_13 rfl (lv_at hl 1 rfl) ?_
  refine lv_bipush (v := 9) hx hb dX7_told_14 (by decide) ?_
  refine lv_icmp_ne (tgt := 32) hx hb dX7_told_16 (by decide) (fun c => ?_) (fun c => absurd c (by decide))
  refine lv_iload_n hx hb dX7_told_32 rfl (lv_at hl 1 rfl) ?_
  refine lv_bipush (v := 8) hx hb dX7_told_33 (by decide) ?_
  refine lv_icmp_ne (tgt := 46) hx hb dX7_told_35 (by decide) (fun c => ?_) (fun c => absurd c (by decide))
  refine lv_aload_n hx hb dX7_told_46 rfl (lv_at hl 0 rfl) ?_
  refine va_get (D := D) (ci := 6) (v := .int 0) (C := RX7) (T := TX7) (N := 9) hx hb hts inX7_told_X7 hown hK hP 0 rfl rfl 8 (by decide) (hts _ wdX7_told_0) (fun _ h9 => h9) rfl dX7_told_47 ?_
  refine lv_if_eq (tgt := 57) hx hb dX7_told_50 (by decide) (fun c => ?_) (fun c => absurd (by decide) c)
  refine lv_aload_n hx hb dX7_told_57 rfl (lv_at hl 0 rfl) ?_
  refine lv_iload_n hx hb dX7_told_58 rfl (lv_at hl 1 rfl) ?_
  refine kc_i (wr := []) (va_runV (As := [.int 3]) (rest := []) ⟨hx, hb, hml, hown, hts⟩ (K311_X7_toldWhileUp l D cB cI cZ _ h0 h1 (g0) (g1) (g2) (g3) (g4) (g5) (g6) ((.int 0)) (g7) (g8) (g9) (g10) (g11) (g12) (g13) (g14) (g15) (g16) (g17) (g18) (g19)) (cwV 1 hts gX7_told_X7_toldWhileUp rfl rfl rfl (by decide +kernel) ⟨Nat.le_of_ble_eq_true rfl, Nat.le_of_ble_eq_true rfl⟩) (pre_V (q := (RX7, TX7, 9)) (ci := 6) (q0 := 0) (hP.sub [0, 1] rfl) hK hN (hD.sub [0, 1] (by decide) rfl) rfl rfl) rfl rfl hl.1 rfl (lv_room (Nat.le_of_ble_eq_true rfl)) dX7_told_59 ⟨Nat.le_of_ble_eq_true rfl, Nat.le_of_ble_eq_true rfl⟩) hP hD hS hA [0, 1] [] rfl rfl (by decide) (by decide) (fun r_1 u H locs hw hP hD hS => ?_)
  have k_2 := hw
  obtain rfl : r_1 = 0 := k_2
  have hP : va_P D vwCl [(h0, .inr (6, [g0, g1, .ref h1, g2, g3, g4, g5, g6, .int 0])), (h1, .inr (3, [g7, g8, g9, g10, g11, g12, g13, g14, g15, g16, .int 0, g17, g18, g19]))] H := hP
  have hD : va_D A [(h0, .inr (6, [g0, g1, .ref h1, g2, g3, g4, g5, g6, .int 0])), (h1, .inr (3, [g7, g8, g9, g10, g11, g12, g13, g14, g15, g16, .int 0, g17, g18, g19]))] := hD
  exact kr_i () hx hb hr hlocks (hP.sub [] rfl) (hD.sub [] (by decide) rfl) hS rfl dX7_told_62
set_option maxHeartbeats 4000000 in
set_option maxRecDepth 100000 in
theorem K313_X8_in (l : Launch) (D : va_G) (cB cI cZ : ClassId) (sz : Nat)     :
    CtI l D cB cI cZ yX8_in wsX8_in { frames := 0, cells := 0, slots := 0, locals := 0 } [.int 3, .int 0, .int 9] [] sz 0 0
      (fun (r : Int32) (u : Unit) => r = 1)
      (fun u => []) := by
  refine mk_metI (cc := cX8_in) (maxL := 3) (ret := (some .boolean)) (by decide) rfl (Nat.le_of_ble_eq_true rfl) ?_
  intro p e s m below meth c A hx hb hr hml hts hown hlocks hin hP hK hN hD hA hS ls hl
  have hown : s.vm.findClass RX8 = some m.cls := hown
  have hl : lv_has ls 3 [(0, .int 3), (1, .int 0), (2, .int 9)] := hl
  refine lv_iload_n hx hb dX8_in_0 rfl (lv_at hl 0 rfl) ?_
  refine lv_iload_n hx hb dX8_in_1 rfl (lv_at hl 1 rfl) ?_
  refine lv_icmp_lt (tgt := 14) hx hb dX8_in_2 (by decide) (fun c => absurd c (by decide)) (fun c => ?_)
  refine lv_iload_n hx hb dX8_in_5 rfl (lv_at hl 0 rfl) ?_
  refine lv_iload_n hx hb dX8_in_6 rfl (lv_at hl 2 rfl) ?_
  refine lv_icmp_gt (tgt := 14) hx hb dX8_in_7 (by decide) (fun c => absurd c (by decide)) (fun c => ?_)
  refine lv_iconst (v := 1) hx hb dX8_in_10 (by decide) ?_
  refine lv_goto (tgt := 15) hx hb dX8_in_11 (by decide) ?_
  exact kr_z () hx hb hr rfl hlocks hP hD hS rfl dX8_in_15
set_option maxHeartbeats 4000000 in
set_option maxRecDepth 100000 in
theorem K312_X8_told (l : Launch) (D : va_G) (cB cI cZ : ClassId) (sz : Nat) (h0 : Nat)  (g0 : Value) (g1 : Value) (g2 : Value) (g3 : Value) (g4 : Value) (g5 : Value) (g6 : Value) (g7 : Value) (g8 : Value) (g9 : Value) (g10 : Value) (g11 : Value) (g12 : Value) (g13 : Value) (g14 : Value) (g15 : Value) (g16 : Value) (g17 : Value) (g18 : Value) (g19 : Value) (g20 : Value) (g21 : Value) (g22 : Value) (g23 : Value) (g24 : Value) (g25 : Value) (g26 : Value) (g27 : Value)  :
    CtI l D cB cI cZ yX8_told wsX8_told { frames := 1, cells := 0, slots := 0, locals := 22 } [.ref h0, .int 3] [(h0, .inr (7, [g0, .int 0, g1, g2, g3, g4, .int 0, g5, g6, g7, g8, g9, g10, g11, g12, g13, g14, g15, g16, g17, g18, g19, g20, g21, g22, g23, g24, g25, g26, g27]))] sz 0 0
      (fun (r : Int32) (u : Unit) => r = 0)
      (fun u => []) := by
  refine mk_metI (cc := cX8_told) (maxL := 4) (ret := (some .int)) (by decide) rfl (Nat.le_of_ble_eq_true rfl) ?_
  intro p e s m below meth c A hx hb hr hml hts hown hlocks hin hP hK hN hD hA hS ls hl
  have hown : s.vm.findClass RX8 = some m.cls := hown
  have hl : lv_has ls 4 [(0, .ref h0), (1, .int 3)] := hl
  refine lv_aload_n hx hb dX8_told_0 rfl (lv_at hl 0 rfl) ?_
  refine lv_iconst (v := 0) hx hb dX8_told_1 (by decide) ?_
  refine va_put (D := D) (ci := 7) (v := .int 0) (ty := .int) (C := RX8) (T := TX8) (N := 30) hx hb hts inX8_told_X8 tyX8 tyX8_ok nmX8 hown hK hP hD hS 0 rfl rfl 0 (by decide) (hts _ wdX8_told_0) (fun _ h9 => h9) rfl (by decide +kernel) rfl rfl (Nat.le_of_ble_eq_true rfl) dX8_told_2 (fun H locs hP hD hS => ?_)
  have hP : va_P D vwCl [(h0, .inr (7, [.int 0, .int 0, g1, g2, g3, g4, .int 0, g5, g6, g7, g8, g9, g10, g11, g12, g13, g14, g15, g16, g17, g18, g19, g20, g21, g22, g23, g24, g25, g26, g27]))] H := hP
  have hD : va_D A [(h0, .inr (7, [.int 0, .int 0, g1, g2, g3, g4, .int 0, g5, g6, g7, g8, g9, g10, g11, g12, g13, g14, g15, g16, g17, g18, g19, g20, g21, g22, g23, g24, g25, g26, g27]))] := hD
  refine lv_iload_n hx hb dX8_told_5 rfl (lv_at hl 1 rfl) ?_
  refine lv_iconst (v := 0) hx hb dX8_told_6 (by decide) ?_
  refine lv_bipush (v := 9) hx hb dX8_told_7 (by decide) ?_
  refine kc_i (wr := [(h0, .inr (7, [.int 0, .int 0, g1, g2, g3, g4, .int 0, g5, g6, g7, g8, g9, g10, g11, g12, g13, g14, g15, g16, g17, g18, g19, g20, g21, g22, g23, g24, g25, g26, g27]))]) (va_runS (As := [.int 3, .int 0, .int 9]) (rest := []) ⟨hx, hb, hml, hown, hts⟩ (K313_X8_in l D cB cI cZ _ ) (va_cwS 3 hts gX8_told_X8_in rfl rfl rfl (by decide +kernel) ⟨Nat.le_of_ble_eq_true rfl, Nat.le_of_ble_eq_true rfl⟩) (pre_S (hP.sub [] rfl) hK hN (hD.sub [] (by decide) rfl)) rfl rfl hl.1 rfl (lv_room (Nat.le_of_ble_eq_true rfl)) dX8_told_9 ⟨Nat.le_of_ble_eq_true rfl, Nat.le_of_ble_eq_true rfl⟩) hP hD hS hA [] [0] rfl rfl (by decide) (by decide) (fun r_1 u H locs hw hP hD hS => ?_)
  have k_2 := hw
  obtain rfl : r_1 = 1 := k_2
  have hP : va_P D vwCl [(h0, .inr (7, [.int 0, .int 0, g1, g2, g3, g4, .int 0, g5, g6, g7, g8, g9, g10, g11, g12, g13, g14, g15, g16, g17, g18, g19, g20, g21, g22, g23, g24, g25, g26, g27]))] H := hP
  have hD : va_D A [(h0, .inr (7, [.int 0, .int 0, g1, g2, g3, g4, .int 0, g5, g6, g7, g8, g9, g10, g11, g12, g13, g14, g15, g16, g17, g18, g19, g20, g21, g22, g23, g24, g25, g26, g27]))] := hD
  refine lv_if_ne (tgt := 18) hx hb dX8_told_12 (by decide) (fun c => ?_) (fun c => absurd c (by decide))
  refine lv_iload_n hx hb dX8_told_18 rfl (lv_at hl 1 rfl) ?_
  refine lv_bipush (v := 7) hx hb dX8_told_19 (by decide) ?_
  refine lv_icmp_le (tgt := 50) hx hb dX8_told_21 (by decide) (fun c => ?_) (fun c => absurd (by decide) c)
  refine lv_aload_n hx hb dX8_told_50 rfl (lv_at hl 0 rfl) ?_
  refine va_get (D := D) (ci := 7) (v := .int 0) (C := RX8) (T := TX8) (N := 30) hx hb hts inX8_told_X8 hown hK hP 0 rfl rfl 1 (by decide) (hts _ wdX8_told_1) (fun _ h9 => h9) rfl dX8_told_51 ?_
  refine lv_if_eq (tgt := 59) hx hb dX8_told_54 (by decide) (fun c => ?_) (fun c => absurd (by decide) c)
  refine lv_iload_n hx hb dX8_told_59 rfl (lv_at hl 1 rfl) ?_
  refine lv_tableIn (tgt := 119) (off := 59) hx hb dX8_told_60 (by decide) (by decide) (by decide) (by decide) ?_
  refine lv_aload_n hx hb dX8_told_119 rfl (lv_at hl 0 rfl) ?_
  refine va_get (D := D) (ci := 7) (v := .int 0) (C := RX8) (T := TX8) (N := 30) hx hb hts inX8_told_X8 hown hK hP 0 rfl rfl 6 (by decide) (hts _ wdX8_told_4) (fun _ h9 => h9) rfl dX8_told_120 ?_
  refine lv_if_ne (tgt := 130) hx hb dX8_told_123 (by decide) (fun c => absurd (by decide) c) (fun c => ?_)
  refine lv_iconst (v := 0) hx hb dX8_told_126 (by decide) ?_
  refine lv_goto (tgt := 134) hx hb dX8_told_127 (by decide) ?_
  exact kr_i () hx hb hr hlocks (hP.sub [] rfl) (hD.sub [] (by decide) rfl) hS rfl dX8_told_134
set_option maxHeartbeats 4000000 in
set_option maxRecDepth 100000 in
theorem K315_X7_toldWhileUp (l : Launch) (D : va_G) (cB cI cZ : ClassId) (sz : Nat) (h0 : Nat) (h1 : Nat) (h2 : Nat)  (g0 : Value) (g1 : Value) (g2 : Value) (g3 : Value) (g4 : Value) (g5 : Value) (g6 : Value) (g7 : Value) (g8 : Value) (g9 : Value) (g10 : Value) (g11 : Value) (g12 : Value) (g13 : Value) (g14 : Value) (g15 : Value) (g16 : Value) (g17 : Value) (g18 : Value) (g19 : Value) (g20 : Value)  :
    CtI l D cB cI cZ yX7_toldWhileUp wsX7_toldWhileUp { frames := 1, cells := 0, slots := 0, locals := 22 } [.ref h0, .int 4] [(h0, .inr (6, [g0, g1, .ref h1, g2, g3, g4, g5, g6, g7])), (h1, .inr (3, [g8, g9, .ref h2, g10, g11, g12, g13, g14, g15, g16, g17, g18, g19, g20])), (h2, .inl (cI, 64, .inl zf))] sz 0 0
      (fun (r : Int32) (u : Unit) => r = 56)
      (fun u => [(h0, .inr (6, [g0, g1, .ref h1, g2, g3, g4, g5, g6, g7])), (h1, .inr (3, [g8, g9, .ref h2, g10, g11, g12, g13, g14, g15, g16, g17, g18, g19, g20])), (h2, .inl (cI, 64, .inl zf))]) := by
  refine mk_metI (cc := cX7_toldWhileUp) (maxL := 2) (ret := (some .int)) (by decide) rfl (Nat.le_of_ble_eq_true rfl) ?_
  intro p e s m below meth c A hx hb hr hml hts hown hlocks hin hP hK hN hD hA hS ls hl
  have hown : s.vm.findClass RX7 = some m.cls := hown
  have hl : lv_has ls 2 [(0, .ref h0), (1, .int 4)] := hl
  refine lv_iload_n hx hb dX7_toldWhileUp_0 rfl (lv_at hl 1 rfl) ?_
  refine lv_tableIn (tgt := 76) (off := 75) hx hb dX7_toldWhileUp_1 (by decide) (by decide) (by decide) (by decide) ?_
  refine lv_aload_n hx hb dX7_toldWhileUp_76 rfl (lv_at hl 0 rfl) ?_
  refine va_get (D := D) (ci := 6) (v := .ref h1) (C := RX7) (T := TX7) (N := 9) hx hb hts inX7_toldWhileUp_X7 hown hK hP 0 rfl rfl 2 (by decide) (hts _ wdX7_toldWhileUp_0) (fun _ h9 => h9) rfl dX7_toldWhileUp_77 ?_
  refine kc_i (wr := [(h0, .inr (6, [g0, g1, .ref h1, g2, g3, g4, g5, g6, g7]))]) (va_runV (As := []) (rest := []) ⟨hx, hb, hml, hown, hts⟩ (K50_X3_countFree l D cB cI cZ _ h1 h2 (g8) (g9) (g10) (g11) (g12) (g13) (g14) (g15) (g16) (g17) (g18) (g19) (g20)) (cwV 0 hts gX7_toldWhileUp_X3_countFree rfl rfl rfl (by decide +kernel) ⟨Nat.le_of_ble_eq_true rfl, Nat.le_of_ble_eq_true rfl⟩) (pre_V (q := (RX3, TX3, 14)) (ci := 3) (q0 := 0) (hP.sub [1, 2] rfl) hK hN (hD.sub [1, 2] (by decide) rfl) rfl rfl) rfl rfl hl.1 rfl (lv_room (Nat.le_of_ble_eq_true rfl)) dX7_toldWhileUp_80 ⟨Nat.le_of_ble_eq_true rfl, Nat.le_of_ble_eq_true rfl⟩) hP hD hS hA [1, 2] [0] rfl rfl (by decide) (by decide) (fun r_1 u H locs hw hP hD hS => ?_)
  have k_2 := hw
  obtain rfl : r_1 = 56 := k_2
  have hP : va_P D vwCl [(h0, .inr (6, [g0, g1, .ref h1, g2, g3, g4, g5, g6, g7])), (h1, .inr (3, [g8, g9, .ref h2, g10, g11, g12, g13, g14, g15, g16, g17, g18, g19, g20])), (h2, .inl (cI, 64, .inl zf))] H := hP
  have hD : va_D A [(h0, .inr (6, [g0, g1, .ref h1, g2, g3, g4, g5, g6, g7])), (h1, .inr (3, [g8, g9, .ref h2, g10, g11, g12, g13, g14, g15, g16, g17, g18, g19, g20])), (h2, .inl (cI, 64, .inl zf))] := hD
  exact kr_i () hx hb hr hlocks hP hD hS rfl dX7_toldWhileUp_83
set_option maxHeartbeats 4000000 in
set_option maxRecDepth 100000 in
theorem K314_X7_told (l : Launch) (D : va_G) (cB cI cZ : ClassId) (sz : Nat) (h0 : Nat) (h1 : Nat) (h2 : Nat)  (g0 : Value) (g1 : Value) (g2 : Value) (g3 : Value) (g4 : Value) (g5 : Value) (g6 : Value) (g7 : Value) (g8 : Value) (g9 : Value) (g10 : Value) (g11 : Value) (g12 : Value) (g13 : Value) (g14 : Value) (g15 : Value) (g16 : Value) (g17 : Value) (g18 : Value) (g19 : Value)  :
    CtI l D cB cI cZ yX7_told wsX7_told { frames := 2, cells := 0, slots := 0, locals := 43 } [.ref h0, .int 4] [(h0, .inr (6, [g0, g1, .ref h1, g2, g3, g4, g5, g6, .int 0])), (h1, .inr (3, [g7, g8, .ref h2, g9, g10, g11, g12, g13, g14, g15, g16, g17, g18, g19])), (h2, .inl (cI, 64, .inl zf))] sz 0 0
      (fun (r : Int32) (u : Unit) => r = 56)
      (fun u => []) := by
  refine mk_metI (cc := cX7_told) (maxL := 2) (ret := (some .int)) (by decide) rfl (Nat.le_of_ble_eq_true rfl) ?_
  intro p e s m below meth c A hx hb hr hml hts hown hlocks hin hP hK hN hD hA hS ls hl
  have hown : s.vm.findClass RX7 = some m.cls := hown
  have hl : lv_has ls 2 [(0, .ref h0), (1, .int 4)] := hl
  refine lv_iload_n hx hb dX7_told_0 rfl (lv_at hl 1 rfl) ?_
  refine lv_if_lt (tgt := 10) hx hb dX7_told_1 (by decide) (fun c => absurd c (by decide)) (fun c => ?_)
  refine lv_iload_n hx hb dX7_told_4 rfl (lv_at hl 1 rfl) ?_
  refine lv_bipush (v := 9) hx hb dX7_told_5 (by decide) ?_
  refine lv_icmp_le (tgt := 13) hx hb dX7_told_7 (by decide) (fun c => ?_) (fun c => absurd (by decide) c)
  refine lv_iload_n hx hb dX7_told_13 rfl (lv_at hl 1 rfl) ?_
  refine lv_bipush (v := 9) hx hb dX7_told_14 (by decide) ?_
  refine lv_icmp_ne (tgt := 32) hx hb dX7_told_16 (by decide) (fun c => ?_) (fun c => absurd c (by decide))
  refine lv_iload_n hx hb dX7_told_32 rfl (lv_at hl 1 rfl) ?_
  refine lv_bipush (v := 8) hx hb dX7_told_33 (by decide) ?_
  refine lv_icmp_ne (tgt := 46) hx hb dX7_told_35 (by decide) (fun c => ?_) (fun c => absurd c (by decide))
  refine lv_aload_n hx hb dX7_told_46 rfl (lv_at hl 0 rfl) ?_
  refine va_get (D := D) (ci := 6) (v := .int 0) (C := RX7) (T := TX7) (N := 9) hx hb hts inX7_told_X7 hown hK hP 0 rfl rfl 8 (by decide) (hts _ wdX7_told_0) (fun _ h9 => h9) rfl dX7_told_47 ?_
  refine lv_if_eq (tgt := 57) hx hb dX7_told_50 (by decide) (fun c => ?_) (fun c => absurd (by decide) c)
  refine lv_aload_n hx hb dX7_told_57 rfl (lv_at hl 0 rfl) ?_
  refine lv_iload_n hx hb dX7_told_58 rfl (lv_at hl 1 rfl) ?_
  refine kc_i (wr := []) (va_runV (As := [.int 4]) (rest := []) ⟨hx, hb, hml, hown, hts⟩ (K315_X7_toldWhileUp l D cB cI cZ _ h0 h1 h2 (g0) (g1) (g2) (g3) (g4) (g5) (g6) ((.int 0)) (g7) (g8) (g9) (g10) (g11) (g12) (g13) (g14) (g15) (g16) (g17) (g18) (g19)) (cwV 1 hts gX7_told_X7_toldWhileUp rfl rfl rfl (by decide +kernel) ⟨Nat.le_of_ble_eq_true rfl, Nat.le_of_ble_eq_true rfl⟩) (pre_V (q := (RX7, TX7, 9)) (ci := 6) (q0 := 0) (hP.sub [0, 1, 2] rfl) hK hN (hD.sub [0, 1, 2] (by decide) rfl) rfl rfl) rfl rfl hl.1 rfl (lv_room (Nat.le_of_ble_eq_true rfl)) dX7_told_59 ⟨Nat.le_of_ble_eq_true rfl, Nat.le_of_ble_eq_true rfl⟩) hP hD hS hA [0, 1, 2] [] rfl rfl (by decide) (by decide) (fun r_1 u H locs hw hP hD hS => ?_)
  have k_2 := hw
  obtain rfl : r_1 = 56 := k_2
  have hP : va_P D vwCl [(h0, .inr (6, [g0, g1, .ref h1, g2, g3, g4, g5, g6, .int 0])), (h1, .inr (3, [g7, g8, .ref h2, g9, g10, g11, g12, g13, g14, g15, g16, g17, g18, g19])), (h2, .inl (cI, 64, .inl zf))] H := hP
  have hD : va_D A [(h0, .inr (6, [g0, g1, .ref h1, g2, g3, g4, g5, g6, .int 0])), (h1, .inr (3, [g7, g8, .ref h2, g9, g10, g11, g12, g13, g14, g15, g16, g17, g18, g19])), (h2, .inl (cI, 64, .inl zf))] := hD
  exact kr_i () hx hb hr hlocks (hP.sub [] rfl) (hD.sub [] (by decide) rfl) hS rfl dX7_told_62
set_option maxHeartbeats 4000000 in
set_option maxRecDepth 100000 in
theorem K317_X8_in (l : Launch) (D : va_G) (cB cI cZ : ClassId) (sz : Nat)     :
    CtI l D cB cI cZ yX8_in wsX8_in { frames := 0, cells := 0, slots := 0, locals := 0 } [.int 4, .int 0, .int 9] [] sz 0 0
      (fun (r : Int32) (u : Unit) => r = 1)
      (fun u => []) := by
  refine mk_metI (cc := cX8_in) (maxL := 3) (ret := (some .boolean)) (by decide) rfl (Nat.le_of_ble_eq_true rfl) ?_
  intro p e s m below meth c A hx hb hr hml hts hown hlocks hin hP hK hN hD hA hS ls hl
  have hown : s.vm.findClass RX8 = some m.cls := hown
  have hl : lv_has ls 3 [(0, .int 4), (1, .int 0), (2, .int 9)] := hl
  refine lv_iload_n hx hb dX8_in_0 rfl (lv_at hl 0 rfl) ?_
  refine lv_iload_n hx hb dX8_in_1 rfl (lv_at hl 1 rfl) ?_
  refine lv_icmp_lt (tgt := 14) hx hb dX8_in_2 (by decide) (fun c => absurd c (by decide)) (fun c => ?_)
  refine lv_iload_n hx hb dX8_in_5 rfl (lv_at hl 0 rfl) ?_
  refine lv_iload_n hx hb dX8_in_6 rfl (lv_at hl 2 rfl) ?_
  refine lv_icmp_gt (tgt := 14) hx hb dX8_in_7 (by decide) (fun c => absurd c (by decide)) (fun c => ?_)
  refine lv_iconst (v := 1) hx hb dX8_in_10 (by decide) ?_
  refine lv_goto (tgt := 15) hx hb dX8_in_11 (by decide) ?_
  exact kr_z () hx hb hr rfl hlocks hP hD hS rfl dX8_in_15
set_option maxHeartbeats 4000000 in
set_option maxRecDepth 100000 in
theorem K316_X8_told (l : Launch) (D : va_G) (cB cI cZ : ClassId) (sz : Nat) (h0 : Nat) (h1 : Nat)  (g0 : Value) (g1 : Value) (g2 : Value) (g3 : Value) (g4 : Value) (g5 : Value) (g6 : Value) (g7 : Value) (g8 : Value) (g9 : Value) (g10 : Value) (g11 : Value) (g12 : Value) (g13 : Value) (g14 : Value) (g15 : Value) (g16 : Value) (g17 : Value) (g18 : Value) (g19 : Value) (g20 : Value) (g21 : Value) (g22 : Value) (g23 : Value) (g24 : Value) (g25 : Value) (g26 : Value) (g27 : Value)  :
    CtI l D cB cI cZ yX8_told wsX8_told { frames := 1, cells := 0, slots := 0, locals := 22 } [.ref h0, .int 4] [(h0, .inr (7, [g0, .int 0, g1, g2, g3, .ref h1, g4, g5, g6, g7, g8, g9, g10, g11, g12, g13, g14, g15, g16, g17, g18, g19, g20, g21, g22, g23, g24, g25, g26, g27])), (h1, .inl (cI, 64, .inl zf))] sz 0 0
      (fun (r : Int32) (u : Unit) => r = 56)
      (fun u => []) := by
  refine mk_metI (cc := cX8_told) (maxL := 4) (ret := (some .int)) (by decide) rfl (Nat.le_of_ble_eq_true rfl) ?_
  intro p e s m below meth c A hx hb hr hml hts hown hlocks hin hP hK hN hD hA hS ls hl
  have hown : s.vm.findClass RX8 = some m.cls := hown
  have hl : lv_has ls 4 [(0, .ref h0), (1, .int 4)] := hl
  refine lv_aload_n hx hb dX8_told_0 rfl (lv_at hl 0 rfl) ?_
  refine lv_iconst (v := 0) hx hb dX8_told_1 (by decide) ?_
  refine va_put (D := D) (ci := 7) (v := .int 0) (ty := .int) (C := RX8) (T := TX8) (N := 30) hx hb hts inX8_told_X8 tyX8 tyX8_ok nmX8 hown hK hP hD hS 0 rfl rfl 0 (by decide) (hts _ wdX8_told_0) (fun _ h9 => h9) rfl (by decide +kernel) rfl rfl (Nat.le_of_ble_eq_true rfl) dX8_told_2 (fun H locs hP hD hS => ?_)
  have hP : va_P D vwCl [(h0, .inr (7, [.int 0, .int 0, g1, g2, g3, .ref h1, g4, g5, g6, g7, g8, g9, g10, g11, g12, g13, g14, g15, g16, g17, g18, g19, g20, g21, g22, g23, g24, g25, g26, g27])), (h1, .inl (cI, 64, .inl zf))] H := hP
  have hD : va_D A [(h0, .inr (7, [.int 0, .int 0, g1, g2, g3, .ref h1, g4, g5, g6, g7, g8, g9, g10, g11, g12, g13, g14, g15, g16, g17, g18, g19, g20, g21, g22, g23, g24, g25, g26, g27])), (h1, .inl (cI, 64, .inl zf))] := hD
  refine lv_iload_n hx hb dX8_told_5 rfl (lv_at hl 1 rfl) ?_
  refine lv_iconst (v := 0) hx hb dX8_told_6 (by decide) ?_
  refine lv_bipush (v := 9) hx hb dX8_told_7 (by decide) ?_
  refine kc_i (wr := [(h0, .inr (7, [.int 0, .int 0, g1, g2, g3, .ref h1, g4, g5, g6, g7, g8, g9, g10, g11, g12, g13, g14, g15, g16, g17, g18, g19, g20, g21, g22, g23, g24, g25, g26, g27])), (h1, .inl (cI, 64, .inl zf))]) (va_runS (As := [.int 4, .int 0, .int 9]) (rest := []) ⟨hx, hb, hml, hown, hts⟩ (K317_X8_in l D cB cI cZ _ ) (va_cwS 3 hts gX8_told_X8_in rfl rfl rfl (by decide +kernel) ⟨Nat.le_of_ble_eq_true rfl, Nat.le_of_ble_eq_true rfl⟩) (pre_S (hP.sub [] rfl) hK hN (hD.sub [] (by decide) rfl)) rfl rfl hl.1 rfl (lv_room (Nat.le_of_ble_eq_true rfl)) dX8_told_9 ⟨Nat.le_of_ble_eq_true rfl, Nat.le_of_ble_eq_true rfl⟩) hP hD hS hA [] [0, 1] rfl rfl (by decide) (by decide) (fun r_1 u H locs hw hP hD hS => ?_)
  have k_2 := hw
  obtain rfl : r_1 = 1 := k_2
  have hP : va_P D vwCl [(h0, .inr (7, [.int 0, .int 0, g1, g2, g3, .ref h1, g4, g5, g6, g7, g8, g9, g10, g11, g12, g13, g14, g15, g16, g17, g18, g19, g20, g21, g22, g23, g24, g25, g26, g27])), (h1, .inl (cI, 64, .inl zf))] H := hP
  have hD : va_D A [(h0, .inr (7, [.int 0, .int 0, g1, g2, g3, .ref h1, g4, g5, g6, g7, g8, g9, g10, g11, g12, g13, g14, g15, g16, g17, g18, g19, g20, g21, g22, g23, g24, g25, g26, g27])), (h1, .inl (cI, 64, .inl zf))] := hD
  refine lv_if_ne (tgt := 18) hx hb dX8_told_12 (by decide) (fun c => ?_) (fun c => absurd c (by decide))
  refine lv_iload_n hx hb dX8_told_18 rfl (lv_at hl 1 rfl) ?_
  refine lv_bipush (v := 7) hx hb dX8_told_19 (by decide) ?_
  refine lv_icmp_le (tgt := 50) hx hb dX8_told_21 (by decide) (fun c => ?_) (fun c => absurd (by decide) c)
  refine lv_aload_n hx hb dX8_told_50 rfl (lv_at hl 0 rfl) ?_
  refine va_get (D := D) (ci := 7) (v := .int 0) (C := RX8) (T := TX8) (N := 30) hx hb hts inX8_told_X8 hown hK hP 0 rfl rfl 1 (by decide) (hts _ wdX8_told_1) (fun _ h9 => h9) rfl dX8_told_51 ?_
  refine lv_if_eq (tgt := 59) hx hb dX8_told_54 (by decide) (fun c => ?_) (fun c => absurd (by decide) c)
  refine lv_iload_n hx hb dX8_told_59 rfl (lv_at hl 1 rfl) ?_
  refine lv_tableIn (tgt := 135) (off := 75) hx hb dX8_told_60 (by decide) (by decide) (by decide) (by decide) ?_
  refine lv_aload_n hx hb dX8_told_135 rfl (lv_at hl 0 rfl) ?_
  refine kc_i (wr := []) (va_runV (As := []) (rest := []) ⟨hx, hb, hml, hown, hts⟩ (K84_X8_frees l D cB cI cZ _ h0 h1 ((.int 0)) ((.int 0)) (g1) (g2) (g3) (g4) (g5) (g6) (g7) (g8) (g9) (g10) (g11) (g12) (g13) (g14) (g15) (g16) (g17) (g18) (g19) (g20) (g21) (g22) (g23) (g24) (g25) (g26) (g27)) (cwV 0 hts gX8_told_X8_frees rfl rfl rfl (by decide +kernel) ⟨Nat.le_of_ble_eq_true rfl, Nat.le_of_ble_eq_true rfl⟩) (pre_V (q := (RX8, TX8, 30)) (ci := 7) (q0 := 0) (hP.sub [0, 1] rfl) hK hN (hD.sub [0, 1] (by decide) rfl) rfl rfl) rfl rfl hl.1 rfl (lv_room (Nat.le_of_ble_eq_true rfl)) dX8_told_136 ⟨Nat.le_of_ble_eq_true rfl, Nat.le_of_ble_eq_true rfl⟩) hP hD hS hA [0, 1] [] rfl rfl (by decide) (by decide) (fun r_3 u H locs hw hP hD hS => ?_)
  have k_4 := hw
  obtain rfl : r_3 = 56 := k_4
  have hP : va_P D vwCl [(h0, .inr (7, [.int 0, .int 0, g1, g2, g3, .ref h1, g4, g5, g6, g7, g8, g9, g10, g11, g12, g13, g14, g15, g16, g17, g18, g19, g20, g21, g22, g23, g24, g25, g26, g27])), (h1, .inl (cI, 64, .inl zf))] H := hP
  have hD : va_D A [(h0, .inr (7, [.int 0, .int 0, g1, g2, g3, .ref h1, g4, g5, g6, g7, g8, g9, g10, g11, g12, g13, g14, g15, g16, g17, g18, g19, g20, g21, g22, g23, g24, g25, g26, g27])), (h1, .inl (cI, 64, .inl zf))] := hD
  exact kr_i () hx hb hr hlocks (hP.sub [] rfl) (hD.sub [] (by decide) rfl) hS rfl dX8_told_139
set_option maxHeartbeats 4000000 in
set_option maxRecDepth 100000 in
theorem K319_X7_toldWhileUp (l : Launch) (D : va_G) (cB cI cZ : ClassId) (sz : Nat) (h0 : Nat) (h1 : Nat)  (g0 : Value) (g1 : Value) (g2 : Value) (g3 : Value) (g4 : Value) (g5 : Value) (g6 : Value) (g7 : Value) (g8 : Value) (g9 : Value)  :
    CtI l D cB cI cZ yX7_toldWhileUp wsX7_toldWhileUp { frames := 0, cells := 0, slots := 0, locals := 0 } [.ref h0, .int 5] [(h0, .inr (6, [g0, .ref h1, g1, g2, g3, g4, g5, g6, g7])), (h1, .inr (2, [g8, g9, .int 0]))] sz 0 0
      (fun (r : Int32) (u : Unit) => r = 0)
      (fun u => [(h0, .inr (6, [g0, .ref h1, g1, g2, g3, g4, g5, g6, g7])), (h1, .inr (2, [g8, g9, .int 0]))]) := by
  refine mk_metI (cc := cX7_toldWhileUp) (maxL := 2) (ret := (some .int)) (by decide) rfl (Nat.le_of_ble_eq_true rfl) ?_
  intro p e s m below meth c A hx hb hr hml hts hown hlocks hin hP hK hN hD hA hS ls hl
  have hown : s.vm.findClass RX7 = some m.cls := hown
  have hl : lv_has ls 2 [(0, .ref h0), (1, .int 5)] := hl
  refine lv_iload_n hx hb dX7_toldWhileUp_0 rfl (lv_at hl 1 rfl) ?_
  refine lv_tableIn (tgt := 84) (off := 83) hx hb dX7_toldWhileUp_1 (by decide) (by decide) (by decide) (by decide) ?_
  refine lv_aload_n hx hb dX7_toldWhileUp_84 rfl (lv_at hl 0 rfl) ?_
  refine va_get (D := D) (ci := 6) (v := .ref h1) (C := RX7) (T := TX7) (N := 9) hx hb hts inX7_toldWhileUp_X7 hown hK hP 0 rfl rfl 1 (by decide) (hts _ wdX7_toldWhileUp_1) (fun _ h9 => h9) rfl dX7_toldWhileUp_85 ?_
  refine va_getN (D := D) (ci := 2) (v := .int 0) (C := RX2) (T := TX2) (N := 3) hx hb hts inX7_toldWhileUp_X2 hown hK hP 1 rfl rfl 2 (by decide) (hN.f (a := "AgedLog") (i := 194) (b := "AgedLog$Index") (n := "count") (d := "I") (by decide +kernel)) (fun _ h9 => h9) rfl dX7_toldWhileUp_88 ?_
  exact kr_i () hx hb hr hlocks hP hD hS rfl dX7_toldWhileUp_91
set_option maxHeartbeats 4000000 in
set_option maxRecDepth 100000 in
theorem K318_X7_told (l : Launch) (D : va_G) (cB cI cZ : ClassId) (sz : Nat) (h0 : Nat) (h1 : Nat)  (g0 : Value) (g1 : Value) (g2 : Value) (g3 : Value) (g4 : Value) (g5 : Value) (g6 : Value) (g7 : Value) (g8 : Value)  :
    CtI l D cB cI cZ yX7_told wsX7_told { frames := 1, cells := 0, slots := 0, locals := 21 } [.ref h0, .int 5] [(h0, .inr (6, [g0, .ref h1, g1, g2, g3, g4, g5, g6, .int 0])), (h1, .inr (2, [g7, g8, .int 0]))] sz 0 0
      (fun (r : Int32) (u : Unit) => r = 0)
      (fun u => []) := by
  refine mk_metI (cc := cX7_told) (maxL := 2) (ret := (some .int)) (by decide) rfl (Nat.le_of_ble_eq_true rfl) ?_
  intro p e s m below meth c A hx hb hr hml hts hown hlocks hin hP hK hN hD hA hS ls hl
  have hown : s.vm.findClass RX7 = some m.cls := hown
  have hl : lv_has ls 2 [(0, .ref h0), (1, .int 5)] := hl
  refine lv_iload_n hx hb dX7_told_0 rfl (lv_at hl 1 rfl) ?_
  refine lv_if_lt (tgt := 10) hx hb dX7_told_1 (by decide) (fun c => absurd c (by decide)) (fun c => ?_)
  refine lv_iload_n hx hb dX7_told_4 rfl (lv_at hl 1 rfl) ?_
  refine lv_bipush (v := 9) hx hb dX7_told_5 (by decide) ?_
  refine lv_icmp_le (tgt := 13) hx hb dX7_told_7 (by decide) (fun c => ?_) (fun c => absurd (by decide) c)
  refine lv_iload_n hx hb dX7_told_13 rfl (lv_at hl 1 rfl) ?_
  refine lv_bipush (v := 9) hx hb dX7_told_14 (by decide) ?_
  refine lv_icmp_ne (tgt := 32) hx hb dX7_told_16 (by decide) (fun c => ?_) (fun c => absurd c (by decide))
  refine lv_iload_n hx hb dX7_told_32 rfl (lv_at hl 1 rfl) ?_
  refine lv_bipush (v := 8) hx hb dX7_told_33 (by decide) ?_
  refine lv_icmp_ne (tgt := 46) hx hb dX7_told_35 (by decide) (fun c => ?_) (fun c => absurd c (by decide))
  refine lv_aload_n hx hb dX7_told_46 rfl (lv_at hl 0 rfl) ?_
  refine va_get (D := D) (ci := 6) (v := .int 0) (C := RX7) (T := TX7) (N := 9) hx hb hts inX7_told_X7 hown hK hP 0 rfl rfl 8 (by decide) (hts _ wdX7_told_0) (fun _ h9 => h9) rfl dX7_told_47 ?_
  refine lv_if_eq (tgt := 57) hx hb dX7_told_50 (by decide) (fun c => ?_) (fun c => absurd (by decide) c)
  refine lv_aload_n hx hb dX7_told_57 rfl (lv_at hl 0 rfl) ?_
  refine lv_iload_n hx hb dX7_told_58 rfl (lv_at hl 1 rfl) ?_
  refine kc_i (wr := []) (va_runV (As := [.int 5]) (rest := []) ⟨hx, hb, hml, hown, hts⟩ (K319_X7_toldWhileUp l D cB cI cZ _ h0 h1 (g0) (g1) (g2) (g3) (g4) (g5) (g6) ((.int 0)) (g7) (g8)) (cwV 1 hts gX7_told_X7_toldWhileUp rfl rfl rfl (by decide +kernel) ⟨Nat.le_of_ble_eq_true rfl, Nat.le_of_ble_eq_true rfl⟩) (pre_V (q := (RX7, TX7, 9)) (ci := 6) (q0 := 0) (hP.sub [0, 1] rfl) hK hN (hD.sub [0, 1] (by decide) rfl) rfl rfl) rfl rfl hl.1 rfl (lv_room (Nat.le_of_ble_eq_true rfl)) dX7_told_59 ⟨Nat.le_of_ble_eq_true rfl, Nat.le_of_ble_eq_true rfl⟩) hP hD hS hA [0, 1] [] rfl rfl (by decide) (by decide) (fun r_1 u H locs hw hP hD hS => ?_)
  have k_2 := hw
  obtain rfl : r_1 = 0 := k_2
  have hP : va_P D vwCl [(h0, .inr (6, [g0, .ref h1, g1, g2, g3, g4, g5, g6, .int 0])), (h1, .inr (2, [g7, g8, .int 0]))] H := hP
  have hD : va_D A [(h0, .inr (6, [g0, .ref h1, g1, g2, g3, g4, g5, g6, .int 0])), (h1, .inr (2, [g7, g8, .int 0]))] := hD
  exact kr_i () hx hb hr hlocks (hP.sub [] rfl) (hD.sub [] (by decide) rfl) hS rfl dX7_told_62
set_option maxHeartbeats 4000000 in
set_option maxRecDepth 100000 in
theorem K321_X8_in (l : Launch) (D : va_G) (cB cI cZ : ClassId) (sz : Nat)     :
    CtI l D cB cI cZ yX8_in wsX8_in { frames := 0, cells := 0, slots := 0, locals := 0 } [.int 5, .int 0, .int 9] [] sz 0 0
      (fun (r : Int32) (u : Unit) => r = 1)
      (fun u => []) := by
  refine mk_metI (cc := cX8_in) (maxL := 3) (ret := (some .boolean)) (by decide) rfl (Nat.le_of_ble_eq_true rfl) ?_
  intro p e s m below meth c A hx hb hr hml hts hown hlocks hin hP hK hN hD hA hS ls hl
  have hown : s.vm.findClass RX8 = some m.cls := hown
  have hl : lv_has ls 3 [(0, .int 5), (1, .int 0), (2, .int 9)] := hl
  refine lv_iload_n hx hb dX8_in_0 rfl (lv_at hl 0 rfl) ?_
  refine lv_iload_n hx hb dX8_in_1 rfl (lv_at hl 1 rfl) ?_
  refine lv_icmp_lt (tgt := 14) hx hb dX8_in_2 (by decide) (fun c => absurd c (by decide)) (fun c => ?_)
  refine lv_iload_n hx hb dX8_in_5 rfl (lv_at hl 0 rfl) ?_
  refine lv_iload_n hx hb dX8_in_6 rfl (lv_at hl 2 rfl) ?_
  refine lv_icmp_gt (tgt := 14) hx hb dX8_in_7 (by decide) (fun c => absurd c (by decide)) (fun c => ?_)
  refine lv_iconst (v := 1) hx hb dX8_in_10 (by decide) ?_
  refine lv_goto (tgt := 15) hx hb dX8_in_11 (by decide) ?_
  exact kr_z () hx hb hr rfl hlocks hP hD hS rfl dX8_in_15
set_option maxHeartbeats 4000000 in
set_option maxRecDepth 100000 in
theorem K320_X8_told (l : Launch) (D : va_G) (cB cI cZ : ClassId) (sz : Nat) (h0 : Nat) (h1 : Nat)  (g0 : Value) (g1 : Value) (g2 : Value) (g3 : Value) (g4 : Value) (g5 : Value) (g6 : Value) (g7 : Value) (g8 : Value) (g9 : Value) (g10 : Value) (g11 : Value) (g12 : Value) (g13 : Value) (g14 : Value) (g15 : Value) (g16 : Value) (g17 : Value) (g18 : Value) (g19 : Value) (g20 : Value) (g21 : Value) (g22 : Value) (g23 : Value) (g24 : Value) (g25 : Value) (g26 : Value) (g27 : Value)  :
    CtI l D cB cI cZ yX8_told wsX8_told { frames := 1, cells := 0, slots := 0, locals := 22 } [.ref h0, .int 5] [(h0, .inr (7, [g0, .int 0, g1, g2, g3, g4, g5, g6, g7, g8, g9, g10, g11, g12, g13, g14, .ref h1, g15, g16, g17, g18, g19, g20, g21, g22, g23, g24, g25, g26, g27])), (h1, .inl (cI, 300, .inl zf))] sz 0 0
      (fun (r : Int32) (u : Unit) => r = 0)
      (fun u => []) := by
  refine mk_metI (cc := cX8_told) (maxL := 4) (ret := (some .int)) (by decide) rfl (Nat.le_of_ble_eq_true rfl) ?_
  intro p e s m below meth c A hx hb hr hml hts hown hlocks hin hP hK hN hD hA hS ls hl
  have hown : s.vm.findClass RX8 = some m.cls := hown
  have hl : lv_has ls 4 [(0, .ref h0), (1, .int 5)] := hl
  refine lv_aload_n hx hb dX8_told_0 rfl (lv_at hl 0 rfl) ?_
  refine lv_iconst (v := 0) hx hb dX8_told_1 (by decide) ?_
  refine va_put (D := D) (ci := 7) (v := .int 0) (ty := .int) (C := RX8) (T := TX8) (N := 30) hx hb hts inX8_told_X8 tyX8 tyX8_ok nmX8 hown hK hP hD hS 0 rfl rfl 0 (by decide) (hts _ wdX8_told_0) (fun _ h9 => h9) rfl (by decide +kernel) rfl rfl (Nat.le_of_ble_eq_true rfl) dX8_told_2 (fun H locs hP hD hS => ?_)
  have hP : va_P D vwCl [(h0, .inr (7, [.int 0, .int 0, g1, g2, g3, g4, g5, g6, g7, g8, g9, g10, g11, g12, g13, g14, .ref h1, g15, g16, g17, g18, g19, g20, g21, g22, g23, g24, g25, g26, g27])), (h1, .inl (cI, 300, .inl zf))] H := hP
  have hD : va_D A [(h0, .inr (7, [.int 0, .int 0, g1, g2, g3, g4, g5, g6, g7, g8, g9, g10, g11, g12, g13, g14, .ref h1, g15, g16, g17, g18, g19, g20, g21, g22, g23, g24, g25, g26, g27])), (h1, .inl (cI, 300, .inl zf))] := hD
  refine lv_iload_n hx hb dX8_told_5 rfl (lv_at hl 1 rfl) ?_
  refine lv_iconst (v := 0) hx hb dX8_told_6 (by decide) ?_
  refine lv_bipush (v := 9) hx hb dX8_told_7 (by decide) ?_
  refine kc_i (wr := [(h0, .inr (7, [.int 0, .int 0, g1, g2, g3, g4, g5, g6, g7, g8, g9, g10, g11, g12, g13, g14, .ref h1, g15, g16, g17, g18, g19, g20, g21, g22, g23, g24, g25, g26, g27])), (h1, .inl (cI, 300, .inl zf))]) (va_runS (As := [.int 5, .int 0, .int 9]) (rest := []) ⟨hx, hb, hml, hown, hts⟩ (K321_X8_in l D cB cI cZ _ ) (va_cwS 3 hts gX8_told_X8_in rfl rfl rfl (by decide +kernel) ⟨Nat.le_of_ble_eq_true rfl, Nat.le_of_ble_eq_true rfl⟩) (pre_S (hP.sub [] rfl) hK hN (hD.sub [] (by decide) rfl)) rfl rfl hl.1 rfl (lv_room (Nat.le_of_ble_eq_true rfl)) dX8_told_9 ⟨Nat.le_of_ble_eq_true rfl, Nat.le_of_ble_eq_true rfl⟩) hP hD hS hA [] [0, 1] rfl rfl (by decide) (by decide) (fun r_1 u H locs hw hP hD hS => ?_)
  have k_2 := hw
  obtain rfl : r_1 = 1 := k_2
  have hP : va_P D vwCl [(h0, .inr (7, [.int 0, .int 0, g1, g2, g3, g4, g5, g6, g7, g8, g9, g10, g11, g12, g13, g14, .ref h1, g15, g16, g17, g18, g19, g20, g21, g22, g23, g24, g25, g26, g27])), (h1, .inl (cI, 300, .inl zf))] H := hP
  have hD : va_D A [(h0, .inr (7, [.int 0, .int 0, g1, g2, g3, g4, g5, g6, g7, g8, g9, g10, g11, g12, g13, g14, .ref h1, g15, g16, g17, g18, g19, g20, g21, g22, g23, g24, g25, g26, g27])), (h1, .inl (cI, 300, .inl zf))] := hD
  refine lv_if_ne (tgt := 18) hx hb dX8_told_12 (by decide) (fun c => ?_) (fun c => absurd c (by decide))
  refine lv_iload_n hx hb dX8_told_18 rfl (lv_at hl 1 rfl) ?_
  refine lv_bipush (v := 7) hx hb dX8_told_19 (by decide) ?_
  refine lv_icmp_le (tgt := 50) hx hb dX8_told_21 (by decide) (fun c => ?_) (fun c => absurd (by decide) c)
  refine lv_aload_n hx hb dX8_told_50 rfl (lv_at hl 0 rfl) ?_
  refine va_get (D := D) (ci := 7) (v := .int 0) (C := RX8) (T := TX8) (N := 30) hx hb hts inX8_told_X8 hown hK hP 0 rfl rfl 1 (by decide) (hts _ wdX8_told_1) (fun _ h9 => h9) rfl dX8_told_51 ?_
  refine lv_if_eq (tgt := 59) hx hb dX8_told_54 (by decide) (fun c => ?_) (fun c => absurd (by decide) c)
  refine lv_iload_n hx hb dX8_told_59 rfl (lv_at hl 1 rfl) ?_
  refine lv_tableIn (tgt := 140) (off := 80) hx hb dX8_told_60 (by decide) (by decide) (by decide) (by decide) ?_
  refine lv_aload_n hx hb dX8_told_140 rfl (lv_at hl 0 rfl) ?_
  refine kc_i (wr := []) (va_runV (As := []) (rest := []) ⟨hx, hb, hml, hown, hts⟩ (K144_X8_keys l D cB cI cZ _ h0 h1 ((.int 0)) ((.int 0)) (g1) (g2) (g3) (g4) (g5) (g6) (g7) (g8) (g9) (g10) (g11) (g12) (g13) (g14) (g15) (g16) (g17) (g18) (g19) (g20) (g21) (g22) (g23) (g24) (g25) (g26) (g27)) (cwV 0 hts gX8_told_X8_keys rfl rfl rfl (by decide +kernel) ⟨Nat.le_of_ble_eq_true rfl, Nat.le_of_ble_eq_true rfl⟩) (pre_V (q := (RX8, TX8, 30)) (ci := 7) (q0 := 0) (hP.sub [0, 1] rfl) hK hN (hD.sub [0, 1] (by decide) rfl) rfl rfl) rfl rfl hl.1 rfl (lv_room (Nat.le_of_ble_eq_true rfl)) dX8_told_141 ⟨Nat.le_of_ble_eq_true rfl, Nat.le_of_ble_eq_true rfl⟩) hP hD hS hA [0, 1] [] rfl rfl (by decide) (by decide) (fun r_3 u H locs hw hP hD hS => ?_)
  have k_4 := hw
  obtain rfl : r_3 = 0 := k_4
  have hP : va_P D vwCl [(h0, .inr (7, [.int 0, .int 0, g1, g2, g3, g4, g5, g6, g7, g8, g9, g10, g11, g12, g13, g14, .ref h1, g15, g16, g17, g18, g19, g20, g21, g22, g23, g24, g25, g26, g27])), (h1, .inl (cI, 300, .inl zf))] H := hP
  have hD : va_D A [(h0, .inr (7, [.int 0, .int 0, g1, g2, g3, g4, g5, g6, g7, g8, g9, g10, g11, g12, g13, g14, .ref h1, g15, g16, g17, g18, g19, g20, g21, g22, g23, g24, g25, g26, g27])), (h1, .inl (cI, 300, .inl zf))] := hD
  exact kr_i () hx hb hr hlocks (hP.sub [] rfl) (hD.sub [] (by decide) rfl) hS rfl dX8_told_144
set_option maxHeartbeats 4000000 in
set_option maxRecDepth 100000 in
theorem K324_X3_countFreshOctets (l : Launch) (D : va_G) (cB cI cZ : ClassId) (sz : Nat) (h0 : Nat)  (g0 : Value) (g1 : Value) (g2 : Value) (g3 : Value) (g4 : Value) (g5 : Value) (g6 : Value) (g7 : Value) (g8 : Value) (g9 : Value) (g10 : Value) (g11 : Value) (g12 : Value)  :
    CtI l D cB cI cZ yX3_countFreshOctets wsX3_countFreshOctets { frames := 0, cells := 0, slots := 0, locals := 0 } [.ref h0] [(h0, .inr (3, [g0, g1, g2, g3, g4, g5, g6, g7, .int 0, g8, g9, g10, g11, g12]))] sz 0 0
      (fun (r : Int32) (u : Unit) => r = 0)
      (fun u => [(h0, .inr (3, [g0, g1, g2, g3, g4, g5, g6, g7, .int 0, g8, g9, g10, g11, g12]))]) := by
  refine mk_metI (cc := cX3_countFreshOctets) (maxL := 3) (ret := (some .int)) (by decide) rfl (Nat.le_of_ble_eq_true rfl) ?_
  intro p e s m below meth c A hx hb hr hml hts hown hlocks hin hP hK hN hD hA hS ls hl
  have hown : s.vm.findClass RX3 = some m.cls := hown
  have hl : lv_has ls 3 [(0, .ref h0)] := hl
  refine lv_iconst (v := 0) hx hb dX3_countFreshOctets_0 (by decide) ?_
  refine lv_istore_n (lv' := [(1, .int 0), (0, .ref h0)]) hx hb dX3_countFreshOctets_1 rfl hl (by decide) rfl (fun ls hl => ?_)
  refine lv_iconst (v := 0) hx hb dX3_countFreshOctets_2 (by decide) ?_
  refine lv_istore_n (lv' := [(2, .int 0), (1, .int 0), (0, .ref h0)]) hx hb dX3_countFreshOctets_3 rfl hl (by decide) rfl (fun ls hl => ?_)
  refine lv_iload_n hx hb dX3_countFreshOctets_4 rfl (lv_at hl 0 rfl) ?_
  refine lv_aload_n hx hb dX3_countFreshOctets_5 rfl (lv_at hl 2 rfl) ?_
  refine va_get (D := D) (ci := 3) (v := .int 0) (C := RX3) (T := TX3) (N := 14) hx hb hts inX3_countFreshOctets_X3 hown hK hP 0 rfl rfl 8 (by decide) (hts _ wdX3_countFreshOctets_0) (fun _ h9 => h9) rfl dX3_countFreshOctets_6 ?_
  refine lv_icmp_ge (tgt := 44) hx hb dX3_countFreshOctets_9 (by decide) (fun c => ?_) (fun c => absurd (by decide) c)
  refine lv_iload_n hx hb dX3_countFreshOctets_44 rfl (lv_at hl 1 rfl) ?_
  exact kr_i () hx hb hr hlocks hP hD hS rfl dX3_countFreshOctets_45
set_option maxHeartbeats 4000000 in
set_option maxRecDepth 100000 in
theorem K323_X7_toldWhileUp (l : Launch) (D : va_G) (cB cI cZ : ClassId) (sz : Nat) (h0 : Nat) (h1 : Nat)  (g0 : Value) (g1 : Value) (g2 : Value) (g3 : Value) (g4 : Value) (g5 : Value) (g6 : Value) (g7 : Value) (g8 : Value) (g9 : Value) (g10 : Value) (g11 : Value) (g12 : Value) (g13 : Value) (g14 : Value) (g15 : Value) (g16 : Value) (g17 : Value) (g18 : Value) (g19 : Value) (g20 : Value)  :
    CtI l D cB cI cZ yX7_toldWhileUp wsX7_toldWhileUp { frames := 1, cells := 0, slots := 0, locals := 22 } [.ref h0, .int 6] [(h0, .inr (6, [g0, g1, .ref h1, g2, g3, g4, g5, g6, g7])), (h1, .inr (3, [g8, g9, g10, g11, g12, g13, g14, g15, .int 0, g16, g17, g18, g19, g20]))] sz 0 0
      (fun (r : Int32) (u : Unit) => r = 0)
      (fun u => [(h0, .inr (6, [g0, g1, .ref h1, g2, g3, g4, g5, g6, g7])), (h1, .inr (3, [g8, g9, g10, g11, g12, g13, g14, g15, .int 0, g16, g17, g18, g19, g20]))]) := by
  refine mk_metI (cc := cX7_toldWhileUp) (maxL := 2) (ret := (some .int)) (by decide) rfl (Nat.le_of_ble_eq_true rfl) ?_
  intro p e s m below meth c A hx hb hr hml hts hown hlocks hin hP hK hN hD hA hS ls hl
  have hown : s.vm.findClass RX7 = some m.cls := hown
  have hl : lv_has ls 2 [(0, .ref h0), (1, .int 6)] := hl
  refine lv_iload_n hx hb dX7_toldWhileUp_0 rfl (lv_at hl 1 rfl) ?_
  refine lv_tableIn (tgt := 92) (off := 91) hx hb dX7_toldWhileUp_1 (by decide) (by decide) (by decide) (by decide) ?_
  refine lv_aload_n hx hb dX7_toldWhileUp_92 rfl (lv_at hl 0 rfl) ?_
  refine va_get (D := D) (ci := 6) (v := .ref h1) (C := RX7) (T := TX7) (N := 9) hx hb hts inX7_toldWhileUp_X7 hown hK hP 0 rfl rfl 2 (by decide) (hts _ wdX7_toldWhileUp_0) (fun _ h9 => h9) rfl dX7_toldWhileUp_93 ?_
  refine kc_i (wr := [(h0, .inr (6, [g0, g1, .ref h1, g2, g3, g4, g5, g6, g7]))]) (va_runV (As := []) (rest := []) ⟨hx, hb, hml, hown, hts⟩ (K324_X3_countFreshOctets l D cB cI cZ _ h1 (g8) (g9) (g10) (g11) (g12) (g13) (g14) (g15) (g16) (g17) (g18) (g19) (g20)) (cwV 0 hts gX7_toldWhileUp_X3_countFreshOctets rfl rfl rfl (by decide +kernel) ⟨Nat.le_of_ble_eq_true rfl, Nat.le_of_ble_eq_true rfl⟩) (pre_V (q := (RX3, TX3, 14)) (ci := 3) (q0 := 0) (hP.sub [1] rfl) hK hN (hD.sub [1] (by decide) rfl) rfl rfl) rfl rfl hl.1 rfl (lv_room (Nat.le_of_ble_eq_true rfl)) dX7_toldWhileUp_96 ⟨Nat.le_of_ble_eq_true rfl, Nat.le_of_ble_eq_true rfl⟩) hP hD hS hA [1] [0] rfl rfl (by decide) (by decide) (fun r_1 u H locs hw hP hD hS => ?_)
  have k_2 := hw
  obtain rfl : r_1 = 0 := k_2
  have hP : va_P D vwCl [(h0, .inr (6, [g0, g1, .ref h1, g2, g3, g4, g5, g6, g7])), (h1, .inr (3, [g8, g9, g10, g11, g12, g13, g14, g15, .int 0, g16, g17, g18, g19, g20]))] H := hP
  have hD : va_D A [(h0, .inr (6, [g0, g1, .ref h1, g2, g3, g4, g5, g6, g7])), (h1, .inr (3, [g8, g9, g10, g11, g12, g13, g14, g15, .int 0, g16, g17, g18, g19, g20]))] := hD
  exact kr_i () hx hb hr hlocks hP hD hS rfl dX7_toldWhileUp_99
set_option maxHeartbeats 4000000 in
set_option maxRecDepth 100000 in
theorem K322_X7_told (l : Launch) (D : va_G) (cB cI cZ : ClassId) (sz : Nat) (h0 : Nat) (h1 : Nat)  (g0 : Value) (g1 : Value) (g2 : Value) (g3 : Value) (g4 : Value) (g5 : Value) (g6 : Value) (g7 : Value) (g8 : Value) (g9 : Value) (g10 : Value) (g11 : Value) (g12 : Value) (g13 : Value) (g14 : Value) (g15 : Value) (g16 : Value) (g17 : Value) (g18 : Value) (g19 : Value)  :
    CtI l D cB cI cZ yX7_told wsX7_told { frames := 2, cells := 0, slots := 0, locals := 43 } [.ref h0, .int 6] [(h0, .inr (6, [g0, g1, .ref h1, g2, g3, g4, g5, g6, .int 0])), (h1, .inr (3, [g7, g8, g9, g10, g11, g12, g13, g14, .int 0, g15, g16, g17, g18, g19]))] sz 0 0
      (fun (r : Int32) (u : Unit) => r = 0)
      (fun u => []) := by
  refine mk_metI (cc := cX7_told) (maxL := 2) (ret := (some .int)) (by decide) rfl (Nat.le_of_ble_eq_true rfl) ?_
  intro p e s m below meth c A hx hb hr hml hts hown hlocks hin hP hK hN hD hA hS ls hl
  have hown : s.vm.findClass RX7 = some m.cls := hown
  have hl : lv_has ls 2 [(0, .ref h0), (1, .int 6)] := hl
  refine lv_iload_n hx hb dX7_told_0 rfl (lv_at hl 1 rfl) ?_
  refine lv_if_lt (tgt := 10) hx hb dX7_told_1 (by decide) (fun c => absurd c (by decide)) (fun c => ?_)
  refine lv_iload_n hx hb dX7_told_4 rfl (lv_at hl 1 rfl) ?_
  refine lv_bipush (v := 9) hx hb dX7_told_5 (by decide) ?_
  refine lv_icmp_le (tgt := 13) hx hb dX7_told_7 (by decide) (fun c => ?_) (fun c => absurd (by decide) c)
  refine lv_iload_n hx hb dX7_told_13 rfl (lv_at hl 1 rfl) ?_
  refine lv_bipush (v := 9) hx hb dX7_told_14 (by decide) ?_
  refine lv_icmp_ne (tgt := 32) hx hb dX7_told_16 (by decide) (fun c => ?_) (fun c => absurd c (by decide))
  refine lv_iload_n hx hb dX7_told_32 rfl (lv_at hl 1 rfl) ?_
  refine lv_bipush (v := 8) hx hb dX7_told_33 (by decide) ?_
  refine lv_icmp_ne (tgt := 46) hx hb dX7_told_35 (by decide) (fun c => ?_) (fun c => absurd c (by decide))
  refine lv_aload_n hx hb dX7_told_46 rfl (lv_at hl 0 rfl) ?_
  refine va_get (D := D) (ci := 6) (v := .int 0) (C := RX7) (T := TX7) (N := 9) hx hb hts inX7_told_X7 hown hK hP 0 rfl rfl 8 (by decide) (hts _ wdX7_told_0) (fun _ h9 => h9) rfl dX7_told_47 ?_
  refine lv_if_eq (tgt := 57) hx hb dX7_told_50 (by decide) (fun c => ?_) (fun c => absurd (by decide) c)
  refine lv_aload_n hx hb dX7_told_57 rfl (lv_at hl 0 rfl) ?_
  refine lv_iload_n hx hb dX7_told_58 rfl (lv_at hl 1 rfl) ?_
  refine kc_i (wr := []) (va_runV (As := [.int 6]) (rest := []) ⟨hx, hb, hml, hown, hts⟩ (K323_X7_toldWhileUp l D cB cI cZ _ h0 h1 (g0) (g1) (g2) (g3) (g4) (g5) (g6) ((.int 0)) (g7) (g8) (g9) (g10) (g11) (g12) (g13) (g14) (g15) (g16) (g17) (g18) (g19)) (cwV 1 hts gX7_told_X7_toldWhileUp rfl rfl rfl (by decide +kernel) ⟨Nat.le_of_ble_eq_true rfl, Nat.le_of_ble_eq_true rfl⟩) (pre_V (q := (RX7, TX7, 9)) (ci := 6) (q0 := 0) (hP.sub [0, 1] rfl) hK hN (hD.sub [0, 1] (by decide) rfl) rfl rfl) rfl rfl hl.1 rfl (lv_room (Nat.le_of_ble_eq_true rfl)) dX7_told_59 ⟨Nat.le_of_ble_eq_true rfl, Nat.le_of_ble_eq_true rfl⟩) hP hD hS hA [0, 1] [] rfl rfl (by decide) (by decide) (fun r_1 u H locs hw hP hD hS => ?_)
  have k_2 := hw
  obtain rfl : r_1 = 0 := k_2
  have hP : va_P D vwCl [(h0, .inr (6, [g0, g1, .ref h1, g2, g3, g4, g5, g6, .int 0])), (h1, .inr (3, [g7, g8, g9, g10, g11, g12, g13, g14, .int 0, g15, g16, g17, g18, g19]))] H := hP
  have hD : va_D A [(h0, .inr (6, [g0, g1, .ref h1, g2, g3, g4, g5, g6, .int 0])), (h1, .inr (3, [g7, g8, g9, g10, g11, g12, g13, g14, .int 0, g15, g16, g17, g18, g19]))] := hD
  exact kr_i () hx hb hr hlocks (hP.sub [] rfl) (hD.sub [] (by decide) rfl) hS rfl dX7_told_62
set_option maxHeartbeats 4000000 in
set_option maxRecDepth 100000 in
theorem K326_X8_in (l : Launch) (D : va_G) (cB cI cZ : ClassId) (sz : Nat)     :
    CtI l D cB cI cZ yX8_in wsX8_in { frames := 0, cells := 0, slots := 0, locals := 0 } [.int 6, .int 0, .int 9] [] sz 0 0
      (fun (r : Int32) (u : Unit) => r = 1)
      (fun u => []) := by
  refine mk_metI (cc := cX8_in) (maxL := 3) (ret := (some .boolean)) (by decide) rfl (Nat.le_of_ble_eq_true rfl) ?_
  intro p e s m below meth c A hx hb hr hml hts hown hlocks hin hP hK hN hD hA hS ls hl
  have hown : s.vm.findClass RX8 = some m.cls := hown
  have hl : lv_has ls 3 [(0, .int 6), (1, .int 0), (2, .int 9)] := hl
  refine lv_iload_n hx hb dX8_in_0 rfl (lv_at hl 0 rfl) ?_
  refine lv_iload_n hx hb dX8_in_1 rfl (lv_at hl 1 rfl) ?_
  refine lv_icmp_lt (tgt := 14) hx hb dX8_in_2 (by decide) (fun c => absurd c (by decide)) (fun c => ?_)
  refine lv_iload_n hx hb dX8_in_5 rfl (lv_at hl 0 rfl) ?_
  refine lv_iload_n hx hb dX8_in_6 rfl (lv_at hl 2 rfl) ?_
  refine lv_icmp_gt (tgt := 14) hx hb dX8_in_7 (by decide) (fun c => absurd c (by decide)) (fun c => ?_)
  refine lv_iconst (v := 1) hx hb dX8_in_10 (by decide) ?_
  refine lv_goto (tgt := 15) hx hb dX8_in_11 (by decide) ?_
  exact kr_z () hx hb hr rfl hlocks hP hD hS rfl dX8_in_15
set_option maxHeartbeats 4000000 in
set_option maxRecDepth 100000 in
theorem K325_X8_told (l : Launch) (D : va_G) (cB cI cZ : ClassId) (sz : Nat) (h0 : Nat)  (g0 : Value) (g1 : Value) (g2 : Value) (g3 : Value) (g4 : Value) (g5 : Value) (g6 : Value) (g7 : Value) (g8 : Value) (g9 : Value) (g10 : Value) (g11 : Value) (g12 : Value) (g13 : Value) (g14 : Value) (g15 : Value) (g16 : Value) (g17 : Value) (g18 : Value) (g19 : Value) (g20 : Value) (g21 : Value) (g22 : Value) (g23 : Value) (g24 : Value) (g25 : Value) (g26 : Value) (g27 : Value)  :
    CtI l D cB cI cZ yX8_told wsX8_told { frames := 1, cells := 0, slots := 0, locals := 22 } [.ref h0, .int 6] [(h0, .inr (7, [g0, .int 0, g1, g2, g3, g4, g5, g6, g7, g8, g9, g10, g11, g12, g13, g14, g15, g16, .int 0, g17, g18, g19, g20, g21, g22, g23, g24, g25, g26, g27]))] sz 0 0
      (fun (r : Int32) (u : Unit) => r = 0)
      (fun u => []) := by
  refine mk_metI (cc := cX8_told) (maxL := 4) (ret := (some .int)) (by decide) rfl (Nat.le_of_ble_eq_true rfl) ?_
  intro p e s m below meth c A hx hb hr hml hts hown hlocks hin hP hK hN hD hA hS ls hl
  have hown : s.vm.findClass RX8 = some m.cls := hown
  have hl : lv_has ls 4 [(0, .ref h0), (1, .int 6)] := hl
  refine lv_aload_n hx hb dX8_told_0 rfl (lv_at hl 0 rfl) ?_
  refine lv_iconst (v := 0) hx hb dX8_told_1 (by decide) ?_
  refine va_put (D := D) (ci := 7) (v := .int 0) (ty := .int) (C := RX8) (T := TX8) (N := 30) hx hb hts inX8_told_X8 tyX8 tyX8_ok nmX8 hown hK hP hD hS 0 rfl rfl 0 (by decide) (hts _ wdX8_told_0) (fun _ h9 => h9) rfl (by decide +kernel) rfl rfl (Nat.le_of_ble_eq_true rfl) dX8_told_2 (fun H locs hP hD hS => ?_)
  have hP : va_P D vwCl [(h0, .inr (7, [.int 0, .int 0, g1, g2, g3, g4, g5, g6, g7, g8, g9, g10, g11, g12, g13, g14, g15, g16, .int 0, g17, g18, g19, g20, g21, g22, g23, g24, g25, g26, g27]))] H := hP
  have hD : va_D A [(h0, .inr (7, [.int 0, .int 0, g1, g2, g3, g4, g5, g6, g7, g8, g9, g10, g11, g12, g13, g14, g15, g16, .int 0, g17, g18, g19, g20, g21, g22, g23, g24, g25, g26, g27]))] := hD
  refine lv_iload_n hx hb dX8_told_5 rfl (lv_at hl 1 rfl) ?_
  refine lv_iconst (v := 0) hx hb dX8_told_6 (by decide) ?_
  refine lv_bipush (v := 9) hx hb dX8_told_7 (by decide) ?_
  refine kc_i (wr := [(h0, .inr (7, [.int 0, .int 0, g1, g2, g3, g4, g5, g6, g7, g8, g9, g10, g11, g12, g13, g14, g15, g16, .int 0, g17, g18, g19, g20, g21, g22, g23, g24, g25, g26, g27]))]) (va_runS (As := [.int 6, .int 0, .int 9]) (rest := []) ⟨hx, hb, hml, hown, hts⟩ (K326_X8_in l D cB cI cZ _ ) (va_cwS 3 hts gX8_told_X8_in rfl rfl rfl (by decide +kernel) ⟨Nat.le_of_ble_eq_true rfl, Nat.le_of_ble_eq_true rfl⟩) (pre_S (hP.sub [] rfl) hK hN (hD.sub [] (by decide) rfl)) rfl rfl hl.1 rfl (lv_room (Nat.le_of_ble_eq_true rfl)) dX8_told_9 ⟨Nat.le_of_ble_eq_true rfl, Nat.le_of_ble_eq_true rfl⟩) hP hD hS hA [] [0] rfl rfl (by decide) (by decide) (fun r_1 u H locs hw hP hD hS => ?_)
  have k_2 := hw
  obtain rfl : r_1 = 1 := k_2
  have hP : va_P D vwCl [(h0, .inr (7, [.int 0, .int 0, g1, g2, g3, g4, g5, g6, g7, g8, g9, g10, g11, g12, g13, g14, g15, g16, .int 0, g17, g18, g19, g20, g21, g22, g23, g24, g25, g26, g27]))] H := hP
  have hD : va_D A [(h0, .inr (7, [.int 0, .int 0, g1, g2, g3, g4, g5, g6, g7, g8, g9, g10, g11, g12, g13, g14, g15, g16, .int 0, g17, g18, g19, g20, g21, g22, g23, g24, g25, g26, g27]))] := hD
  refine lv_if_ne (tgt := 18) hx hb dX8_told_12 (by decide) (fun c => ?_) (fun c => absurd c (by decide))
  refine lv_iload_n hx hb dX8_told_18 rfl (lv_at hl 1 rfl) ?_
  refine lv_bipush (v := 7) hx hb dX8_told_19 (by decide) ?_
  refine lv_icmp_le (tgt := 50) hx hb dX8_told_21 (by decide) (fun c => ?_) (fun c => absurd (by decide) c)
  refine lv_aload_n hx hb dX8_told_50 rfl (lv_at hl 0 rfl) ?_
  refine va_get (D := D) (ci := 7) (v := .int 0) (C := RX8) (T := TX8) (N := 30) hx hb hts inX8_told_X8 hown hK hP 0 rfl rfl 1 (by decide) (hts _ wdX8_told_1) (fun _ h9 => h9) rfl dX8_told_51 ?_
  refine lv_if_eq (tgt := 59) hx hb dX8_told_54 (by decide) (fun c => ?_) (fun c => absurd (by decide) c)
  refine lv_iload_n hx hb dX8_told_59 rfl (lv_at hl 1 rfl) ?_
  refine lv_tableIn (tgt := 145) (off := 85) hx hb dX8_told_60 (by decide) (by decide) (by decide) (by decide) ?_
  refine lv_iconst (v := 0) hx hb dX8_told_145 (by decide) ?_
  refine lv_istore_n (lv' := [(2, .int 0), (0, .ref h0), (1, .int 6)]) hx hb dX8_told_146 rfl hl (by decide) rfl (fun ls hl => ?_)
  refine lv_iconst (v := 0) hx hb dX8_told_147 (by decide) ?_
  refine lv_istore_n (lv' := [(3, .int 0), (2, .int 0), (0, .ref h0), (1, .int 6)]) hx hb dX8_told_148 rfl hl (by decide) rfl (fun ls hl => ?_)
  refine lv_iload_n hx hb dX8_told_149 rfl (lv_at hl 0 rfl) ?_
  refine lv_aload_n hx hb dX8_told_150 rfl (lv_at hl 2 rfl) ?_
  refine va_get (D := D) (ci := 7) (v := .int 0) (C := RX8) (T := TX8) (N := 30) hx hb hts inX8_told_X8 hown hK hP 0 rfl rfl 18 (by decide) (hts _ wdX8_told_5) (fun _ h9 => h9) rfl dX8_told_151 ?_
  refine lv_icmp_ge (tgt := 179) hx hb dX8_told_154 (by decide) (fun c => ?_) (fun c => absurd (by decide) c)
  refine lv_iload_n hx hb dX8_told_179 rfl (lv_at hl 1 rfl) ?_
  exact kr_i () hx hb hr hlocks (hP.sub [] rfl) (hD.sub [] (by decide) rfl) hS rfl dX8_told_180
set_option maxHeartbeats 4000000 in
set_option maxRecDepth 100000 in
theorem K328_X7_toldWhileUp (l : Launch) (D : va_G) (cB cI cZ : ClassId) (sz : Nat) (h0 : Nat) (h1 : Nat)  (g0 : Value) (g1 : Value) (g2 : Value) (g3 : Value) (g4 : Value) (g5 : Value) (g6 : Value) (g7 : Value) (g8 : Value) (g9 : Value) (g10 : Value) (g11 : Value) (g12 : Value)  :
    CtI l D cB cI cZ yX7_toldWhileUp wsX7_toldWhileUp { frames := 0, cells := 0, slots := 0, locals := 0 } [.ref h0, .int 7] [(h0, .inr (6, [g0, g1, g2, g3, .ref h1, g4, g5, g6, g7])), (h1, .inr (5, [g8, g9, g10, g11, .int 0, g12]))] sz 0 0
      (fun (r : Int32) (u : Unit) => r = 0)
      (fun u => [(h0, .inr (6, [g0, g1, g2, g3, .ref h1, g4, g5, g6, g7])), (h1, .inr (5, [g8, g9, g10, g11, .int 0, g12]))]) := by
  refine mk_metI (cc := cX7_toldWhileUp) (maxL := 2) (ret := (some .int)) (by decide) rfl (Nat.le_of_ble_eq_true rfl) ?_
  intro p e s m below meth c A hx hb hr hml hts hown hlocks hin hP hK hN hD hA hS ls hl
  have hown : s.vm.findClass RX7 = some m.cls := hown
  have hl : lv_has ls 2 [(0, .ref h0), (1, .int 7)] := hl
  refine lv_iload_n hx hb dX7_toldWhileUp_0 rfl (lv_at hl 1 rfl) ?_
  refine lv_tableOut (tgt := 100) hx hb dX7_toldWhileUp_1 (by decide) (by decide) ?_
  refine lv_aload_n hx hb dX7_toldWhileUp_100 rfl (lv_at hl 0 rfl) ?_
  refine va_get (D := D) (ci := 6) (v := .ref h1) (C := RX7) (T := TX7) (N := 9) hx hb hts inX7_toldWhileUp_X7 hown hK hP 0 rfl rfl 4 (by decide) (hts _ wdX7_toldWhileUp_2) (fun _ h9 => h9) rfl dX7_toldWhileUp_101 ?_
  refine va_getN (D := D) (ci := 5) (v := .int 0) (C := RX6) (T := TX6) (N := 6) hx hb hts inX7_toldWhileUp_X6 hown hK hP 1 rfl rfl 4 (by decide) (hN.f (a := "AgedLog") (i := 115) (b := "AgedLog$Regions") (n := "number") (d := "I") (by decide +kernel)) (fun _ h9 => h9) rfl dX7_toldWhileUp_104 ?_
  exact kr_i () hx hb hr hlocks hP hD hS rfl dX7_toldWhileUp_107
set_option maxHeartbeats 4000000 in
set_option maxRecDepth 100000 in
theorem K327_X7_told (l : Launch) (D : va_G) (cB cI cZ : ClassId) (sz : Nat) (h0 : Nat) (h1 : Nat)  (g0 : Value) (g1 : Value) (g2 : Value) (g3 : Value) (g4 : Value) (g5 : Value) (g6 : Value) (g7 : Value) (g8 : Value) (g9 : Value) (g10 : Value) (g11 : Value)  :
    CtI l D cB cI cZ yX7_told wsX7_told { frames := 1, cells := 0, slots := 0, locals := 21 } [.ref h0, .int 7] [(h0, .inr (6, [g0, g1, g2, g3, .ref h1, g4, g5, g6, .int 0])), (h1, .inr (5, [g7, g8, g9, g10, .int 0, g11]))] sz 0 0
      (fun (r : Int32) (u : Unit) => r = 0)
      (fun u => []) := by
  refine mk_metI (cc := cX7_told) (maxL := 2) (ret := (some .int)) (by decide) rfl (Nat.le_of_ble_eq_true rfl) ?_
  intro p e s m below meth c A hx hb hr hml hts hown hlocks hin hP hK hN hD hA hS ls hl
  have hown : s.vm.findClass RX7 = some m.cls := hown
  have hl : lv_has ls 2 [(0, .ref h0), (1, .int 7)] := hl
  refine lv_iload_n hx hb dX7_told_0 rfl (lv_at hl 1 rfl) ?_
  refine lv_if_lt (tgt := 10) hx hb dX7_told_1 (by decide) (fun c => absurd c (by decide)) (fun c => ?_)
  refine lv_iload_n hx hb dX7_told_4 rfl (lv_at hl 1 rfl) ?_
  refine lv_bipush (v := 9) hx hb dX7_told_5 (by decide) ?_
  refine lv_icmp_le (tgt := 13) hx hb dX7_told_7 (by decide) (fun c => ?_) (fun c => absurd (by decide) c)
  refine lv_iload_n hx hb dX7_told_13 rfl (lv_at hl 1 rfl) ?_
  refine lv_bipush (v := 9) hx hb dX7_told_14 (by decide) ?_
  refine lv_icmp_ne (tgt := 32) hx hb dX7_told_16 (by decide) (fun c => ?_) (fun c => absurd c (by decide))
  refine lv_iload_n hx hb dX7_told_32 rfl (lv_at hl 1 rfl) ?_
  refine lv_bipush (v := 8) hx hb dX7_told_33 (by decide) ?_
  refine lv_icmp_ne (tgt := 46) hx hb dX7_told_35 (by decide) (fun c => ?_) (fun c => absurd c (by decide))
  refine lv_aload_n hx hb dX7_told_46 rfl (lv_at hl 0 rfl) ?_
  refine va_get (D := D) (ci := 6) (v := .int 0) (C := RX7) (T := TX7) (N := 9) hx hb hts inX7_told_X7 hown hK hP 0 rfl rfl 8 (by decide) (hts _ wdX7_told_0) (fun _ h9 => h9) rfl dX7_told_47 ?_
  refine lv_if_eq (tgt := 57) hx hb dX7_told_50 (by decide) (fun c => ?_) (fun c => absurd (by decide) c)
  refine lv_aload_n hx hb dX7_told_57 rfl (lv_at hl 0 rfl) ?_
  refine lv_iload_n hx hb dX7_told_58 rfl (lv_at hl 1 rfl) ?_
  refine kc_i (wr := []) (va_runV (As := [.int 7]) (rest := []) ⟨hx, hb, hml, hown, hts⟩ (K328_X7_toldWhileUp l D cB cI cZ _ h0 h1 (g0) (g1) (g2) (g3) (g4) (g5) (g6) ((.int 0)) (g7) (g8) (g9) (g10) (g11)) (cwV 1 hts gX7_told_X7_toldWhileUp rfl rfl rfl (by decide +kernel) ⟨Nat.le_of_ble_eq_true rfl, Nat.le_of_ble_eq_true rfl⟩) (pre_V (q := (RX7, TX7, 9)) (ci := 6) (q0 := 0) (hP.sub [0, 1] rfl) hK hN (hD.sub [0, 1] (by decide) rfl) rfl rfl) rfl rfl hl.1 rfl (lv_room (Nat.le_of_ble_eq_true rfl)) dX7_told_59 ⟨Nat.le_of_ble_eq_true rfl, Nat.le_of_ble_eq_true rfl⟩) hP hD hS hA [0, 1] [] rfl rfl (by decide) (by decide) (fun r_1 u H locs hw hP hD hS => ?_)
  have k_2 := hw
  obtain rfl : r_1 = 0 := k_2
  have hP : va_P D vwCl [(h0, .inr (6, [g0, g1, g2, g3, .ref h1, g4, g5, g6, .int 0])), (h1, .inr (5, [g7, g8, g9, g10, .int 0, g11]))] H := hP
  have hD : va_D A [(h0, .inr (6, [g0, g1, g2, g3, .ref h1, g4, g5, g6, .int 0])), (h1, .inr (5, [g7, g8, g9, g10, .int 0, g11]))] := hD
  exact kr_i () hx hb hr hlocks (hP.sub [] rfl) (hD.sub [] (by decide) rfl) hS rfl dX7_told_62
set_option maxHeartbeats 4000000 in
set_option maxRecDepth 100000 in
theorem K330_X8_in (l : Launch) (D : va_G) (cB cI cZ : ClassId) (sz : Nat)     :
    CtI l D cB cI cZ yX8_in wsX8_in { frames := 0, cells := 0, slots := 0, locals := 0 } [.int 7, .int 0, .int 9] [] sz 0 0
      (fun (r : Int32) (u : Unit) => r = 1)
      (fun u => []) := by
  refine mk_metI (cc := cX8_in) (maxL := 3) (ret := (some .boolean)) (by decide) rfl (Nat.le_of_ble_eq_true rfl) ?_
  intro p e s m below meth c A hx hb hr hml hts hown hlocks hin hP hK hN hD hA hS ls hl
  have hown : s.vm.findClass RX8 = some m.cls := hown
  have hl : lv_has ls 3 [(0, .int 7), (1, .int 0), (2, .int 9)] := hl
  refine lv_iload_n hx hb dX8_in_0 rfl (lv_at hl 0 rfl) ?_
  refine lv_iload_n hx hb dX8_in_1 rfl (lv_at hl 1 rfl) ?_
  refine lv_icmp_lt (tgt := 14) hx hb dX8_in_2 (by decide) (fun c => absurd c (by decide)) (fun c => ?_)
  refine lv_iload_n hx hb dX8_in_5 rfl (lv_at hl 0 rfl) ?_
  refine lv_iload_n hx hb dX8_in_6 rfl (lv_at hl 2 rfl) ?_
  refine lv_icmp_gt (tgt := 14) hx hb dX8_in_7 (by decide) (fun c => absurd c (by decide)) (fun c => ?_)
  refine lv_iconst (v := 1) hx hb dX8_in_10 (by decide) ?_
  refine lv_goto (tgt := 15) hx hb dX8_in_11 (by decide) ?_
  exact kr_z () hx hb hr rfl hlocks hP hD hS rfl dX8_in_15
