set_option maxHeartbeats 4000000 in
set_option maxRecDepth 100000 in
theorem K329_X8_told (l : Launch) (D : va_G) (cB cI cZ : ClassId) (sz : Nat) (h0 : Nat)  (g0 : Value) (g1 : Value) (g2 : Value) (g3 : Value) (g4 : Value) (g5 : Value) (g6 : Value) (g7 : Value) (g8 : Value) (g9 : Value) (g10 : Value) (g11 : Value) (g12 : Value) (g13 : Value) (g14 : Value) (g15 : Value) (g16 : Value) (g17 : Value) (g18 : Value) (g19 : Value) (g20 : Value) (g21 : Value) (g22 : Value) (g23 : Value) (g24 : Value) (g25 : Value) (g26 : Value) (g27 : Value)  :
    CtI l D cB cI cZ yX8_told wsX8_told { frames := 1, cells := 0, slots := 0, locals := 22 } [.ref h0, .int 7] [(h0, .inr (7, [g0, .int 0, g1, g2, g3, g4, g5, g6, g7, g8, g9, .int 0, g10, g11, g12, g13, g14, g15, g16, g17, g18, g19, g20, g21, g22, g23, g24, g25, g26, g27]))] sz 0 0
      (fun (r : Int32) (u : Unit) => r = 0)
      (fun u => []) := by
  refine mk_metI (cc := cX8_told) (maxL := 4) (ret := (some .int)) (by decide) rfl (Nat.le_of_ble_eq_true rfl) ?_
  intro p e s m below meth c A hx hb hr hml hts hown hlocks hin hP hK hN hD hA hS ls hl
  have hown : s.vm.findClass RX8 = some m.cls := hown
  have hl : lv_has ls 4 [(0, .ref h0), (1, .int 7)] := hl
  refine lv_aload_n hx hb dX8_told_0 rfl (lv_at hl 0 rfl) ?_
  refine lv_iconst (v := 0) hx hb dX8_told_1 (by decide) ?_
  refine va_put (D := D) (ci := 7) (v := .int 0) (ty := .int) (C := RX8) (T := TX8) (N := 30) hx hb hts inX8_told_X8 tyX8 tyX8_ok nmX8 hown hK hP hD hS 0 rfl rfl 0 (by decide) (hts _ wdX8_told_0) (fun _ h9 => h9) rfl (by decide +kernel) rfl rfl (Nat.le_of_ble_eq_true rfl) dX8_told_2 (fun H locs hP hD hS => ?_)
  have hP : va_P D vwCl [(h0, .inr (7, [.int 0, .int 0, g1, g2, g3, g4, g5, g6, g7, g8, g9, .int 0, g10, g11, g12, g13, g14, g15, g16, g17, g18, g19, g20, g21, g22, g23, g24, g25, g26, g27]))] H := hP
  have hD : va_D A [(h0, .inr (7, [.int 0, .int 0, g1, g2, g3, g4, g5, g6, g7, g8, g9, .int 0, g10, g11, g12, g13, g14, g15, g16, g17, g18, g19, g20, g21, g22, g23, g24, g25, g26, g27]))] := hD
  refine lv_iload_n hx hb dX8_told_5 rfl (lv_at hl 1 rfl) ?_
  refine lv_iconst (v := 0) hx hb dX8_told_6 (by decide) ?_
  refine lv_bipush (v := 9) hx hb dX8_told_7 (by decide) ?_
  refine kc_i (wr := [(h0, .inr (7, [.int 0, .int 0, g1, g2, g3, g4, g5, g6, g7, g8, g9, .int 0, g10, g11, g12, g13, g14, g15, g16, g17, g18, g19, g20, g21, g22, g23, g24, g25, g26, g27]))]) (va_runS (As := [.int 7, .int 0, .int 9]) (rest := []) ⟨hx, hb, hml, hown, hts⟩ (K330_X8_in l D cB cI cZ _ ) (va_cwS 3 hts gX8_told_X8_in rfl rfl rfl (by decide +kernel) ⟨Nat.le_of_ble_eq_true rfl, Nat.le_of_ble_eq_true rfl⟩) (pre_S (hP.sub [] rfl) hK hN (hD.sub [] (by decide) rfl)) rfl rfl hl.1 rfl (lv_room (Nat.le_of_ble_eq_true rfl)) dX8_told_9 ⟨Nat.le_of_ble_eq_true rfl, Nat.le_of_ble_eq_true rfl⟩) hP hD hS hA [] [0] rfl rfl (by decide) (by decide) (fun r_1 u H locs hw hP hD hS => ?_)
  have k_2 := hw
  obtain rfl : r_1 = 1 := k_2
  have hP : va_P D vwCl [(h0, .inr (7, [.int 0, .int 0, g1, g2, g3, g4, g5, g6, g7, g8, g9, .int 0, g10, g11, g12, g13, g14, g15, g16, g17, g18, g19, g20, g21, g22, g23, g24, g25, g26, g27]))] H := hP
  have hD : va_D A [(h0, .inr (7, [.int 0, .int 0, g1, g2, g3, g4, g5, g6, g7, g8, g9, .int 0, g10, g11, g12, g13, g14, g15, g16, g17, g18, g19, g20, g21, g22, g23, g24, g25, g26, g27]))] := hD
  refine lv_if_ne (tgt := 18) hx hb dX8_told_12 (by decide) (fun c => ?_) (fun c => absurd c (by decide))
  refine lv_iload_n hx hb dX8_told_18 rfl (lv_at hl 1 rfl) ?_
  refine lv_bipush (v := 7) hx hb dX8_told_19 (by decide) ?_
  refine lv_icmp_le (tgt := 50) hx hb dX8_told_21 (by decide) (fun c => ?_) (fun c => absurd (by decide) c)
  refine lv_aload_n hx hb dX8_told_50 rfl (lv_at hl 0 rfl) ?_
  refine va_get (D := D) (ci := 7) (v := .int 0) (C := RX8) (T := TX8) (N := 30) hx hb hts inX8_told_X8 hown hK hP 0 rfl rfl 1 (by decide) (hts _ wdX8_told_1) (fun _ h9 => h9) rfl dX8_told_51 ?_
  refine lv_if_eq (tgt := 59) hx hb dX8_told_54 (by decide) (fun c => ?_) (fun c => absurd (by decide) c)
  refine lv_iload_n hx hb dX8_told_59 rfl (lv_at hl 1 rfl) ?_
  refine lv_tableOut (tgt := 181) hx hb dX8_told_60 (by decide) (by decide) ?_
  refine lv_aload_n hx hb dX8_told_181 rfl (lv_at hl 0 rfl) ?_
  refine va_get (D := D) (ci := 7) (v := .int 0) (C := RX8) (T := TX8) (N := 30) hx hb hts inX8_told_X8 hown hK hP 0 rfl rfl 11 (by decide) (hts _ wdX8_told_6) (fun _ h9 => h9) rfl dX8_told_182 ?_
  exact kr_i () hx hb hr hlocks (hP.sub [] rfl) (hD.sub [] (by decide) rfl) hS rfl dX8_told_185
set_option maxHeartbeats 4000000 in
set_option maxRecDepth 100000 in
theorem K331_X7_told (l : Launch) (D : va_G) (cB cI cZ : ClassId) (sz : Nat) (h0 : Nat) (h1 : Nat)  (g0 : Value) (g1 : Value) (g2 : Value) (g3 : Value) (g4 : Value) (g5 : Value) (g6 : Value) (g7 : Value) (g8 : Value) (g9 : Value) (g10 : Value) (g11 : Value)  :
    CtI l D cB cI cZ yX7_told wsX7_told { frames := 0, cells := 0, slots := 0, locals := 0 } [.ref h0, .int 8] [(h0, .inr (6, [.ref h1, g0, g1, g2, g3, g4, g5, g6, g7])), (h1, .inr (1, [g8, g9, .int 0, g10, g11]))] sz 0 0
      (fun (r : Int32) (u : Unit) => r = 0)
      (fun u => []) := by
  refine mk_metI (cc := cX7_told) (maxL := 2) (ret := (some .int)) (by decide) rfl (Nat.le_of_ble_eq_true rfl) ?_
  intro p e s m below meth c A hx hb hr hml hts hown hlocks hin hP hK hN hD hA hS ls hl
  have hown : s.vm.findClass RX7 = some m.cls := hown
  have hl : lv_has ls 2 [(0, .ref h0), (1, .int 8)] := hl
  refine lv_iload_n hx hb dX7_told_0 rfl (lv_at hl 1 rfl) ?_
  refine lv_if_lt (tgt := 10) hx hb dX7_told_1 (by decide) (fun c => absurd c (by decide)) (fun c => ?_)
  refine lv_iload_n hx hb dX7_told_4 rfl (lv_at hl 1 rfl) ?_
  refine lv_bipush (v := 9) hx hb dX7_told_5 (by decide) ?_
  refine lv_icmp_le (tgt := 13) hx hb dX7_told_7 (by decide) (fun c => ?_) (fun c => absurd (by decide) c)
  refine lv_iload_n hx hb dX7_told_13 rfl (lv_at hl 1 rfl) ?_
  refine lv_bipush (v := 9) hx hb dX7_told_14 (by decide) ?_
  refine lv_icmp_ne (tgt := 32) hx hb dX7_told_16 (by decide) (fun c => ?_) (fun c => absurd c (by decide))
  refine lv_iload_n hx hb dX7_told_32 rfl (lv_at hl 1 rfl) ?_
  refine lv_bipush (v := 8) hx hb dX7_told_33 (by decide) ?_
  refine lv_icmp_ne (tgt := 46) hx hb dX7_told_35 (by decide) (fun c => absurd (by decide) c) (fun c => ?_)
  refine lv_aload_n hx hb dX7_told_38 rfl (lv_at hl 0 rfl) ?_
  refine va_get (D := D) (ci := 6) (v := .ref h1) (C := RX7) (T := TX7) (N := 9) hx hb hts inX7_told_X7 hown hK hP 0 rfl rfl 0 (by decide) (hts _ wdX7_told_1) (fun _ h9 => h9) rfl dX7_told_39 ?_
  refine va_getN (D := D) (ci := 1) (v := .int 0) (C := RX1) (T := TX1) (N := 5) hx hb hts inX7_told_X1 hown hK hP 1 rfl rfl 2 (by decide) (hN.f (a := "AgedLog") (i := 176) (b := "AgedLog$Disk") (n := "written") (d := "I") (by decide +kernel)) (fun _ h9 => h9) rfl dX7_told_42 ?_
  exact kr_i () hx hb hr hlocks (hP.sub [] rfl) (hD.sub [] (by decide) rfl) hS rfl dX7_told_45
set_option maxHeartbeats 4000000 in
set_option maxRecDepth 100000 in
theorem K333_X8_in (l : Launch) (D : va_G) (cB cI cZ : ClassId) (sz : Nat)     :
    CtI l D cB cI cZ yX8_in wsX8_in { frames := 0, cells := 0, slots := 0, locals := 0 } [.int 8, .int 0, .int 9] [] sz 0 0
      (fun (r : Int32) (u : Unit) => r = 1)
      (fun u => []) := by
  refine mk_metI (cc := cX8_in) (maxL := 3) (ret := (some .boolean)) (by decide) rfl (Nat.le_of_ble_eq_true rfl) ?_
  intro p e s m below meth c A hx hb hr hml hts hown hlocks hin hP hK hN hD hA hS ls hl
  have hown : s.vm.findClass RX8 = some m.cls := hown
  have hl : lv_has ls 3 [(0, .int 8), (1, .int 0), (2, .int 9)] := hl
  refine lv_iload_n hx hb dX8_in_0 rfl (lv_at hl 0 rfl) ?_
  refine lv_iload_n hx hb dX8_in_1 rfl (lv_at hl 1 rfl) ?_
  refine lv_icmp_lt (tgt := 14) hx hb dX8_in_2 (by decide) (fun c => absurd c (by decide)) (fun c => ?_)
  refine lv_iload_n hx hb dX8_in_5 rfl (lv_at hl 0 rfl) ?_
  refine lv_iload_n hx hb dX8_in_6 rfl (lv_at hl 2 rfl) ?_
  refine lv_icmp_gt (tgt := 14) hx hb dX8_in_7 (by decide) (fun c => absurd c (by decide)) (fun c => ?_)
  refine lv_iconst (v := 1) hx hb dX8_in_10 (by decide) ?_
  refine lv_goto (tgt := 15) hx hb dX8_in_11 (by decide) ?_
  exact kr_z () hx hb hr rfl hlocks hP hD hS rfl dX8_in_15
set_option maxHeartbeats 4000000 in
set_option maxRecDepth 100000 in
theorem K332_X8_told (l : Launch) (D : va_G) (cB cI cZ : ClassId) (sz : Nat) (h0 : Nat)  (g0 : Value) (g1 : Value) (g2 : Value) (g3 : Value) (g4 : Value) (g5 : Value) (g6 : Value) (g7 : Value) (g8 : Value) (g9 : Value) (g10 : Value) (g11 : Value) (g12 : Value) (g13 : Value) (g14 : Value) (g15 : Value) (g16 : Value) (g17 : Value) (g18 : Value) (g19 : Value) (g20 : Value) (g21 : Value) (g22 : Value) (g23 : Value) (g24 : Value) (g25 : Value) (g26 : Value) (g27 : Value) (g28 : Value)  :
    CtI l D cB cI cZ yX8_told wsX8_told { frames := 1, cells := 0, slots := 0, locals := 22 } [.ref h0, .int 8] [(h0, .inr (7, [g0, g1, g2, g3, g4, g5, g6, g7, g8, g9, g10, g11, g12, .int 0, g13, g14, g15, g16, g17, g18, g19, g20, g21, g22, g23, g24, g25, g26, g27, g28]))] sz 0 0
      (fun (r : Int32) (u : Unit) => r = 0)
      (fun u => []) := by
  refine mk_metI (cc := cX8_told) (maxL := 4) (ret := (some .int)) (by decide) rfl (Nat.le_of_ble_eq_true rfl) ?_
  intro p e s m below meth c A hx hb hr hml hts hown hlocks hin hP hK hN hD hA hS ls hl
  have hown : s.vm.findClass RX8 = some m.cls := hown
  have hl : lv_has ls 4 [(0, .ref h0), (1, .int 8)] := hl
  refine lv_aload_n hx hb dX8_told_0 rfl (lv_at hl 0 rfl) ?_
  refine lv_iconst (v := 0) hx hb dX8_told_1 (by decide) ?_
  refine va_put (D := D) (ci := 7) (v := .int 0) (ty := .int) (C := RX8) (T := TX8) (N := 30) hx hb hts inX8_told_X8 tyX8 tyX8_ok nmX8 hown hK hP hD hS 0 rfl rfl 0 (by decide) (hts _ wdX8_told_0) (fun _ h9 => h9) rfl (by decide +kernel) rfl rfl (Nat.le_of_ble_eq_true rfl) dX8_told_2 (fun H locs hP hD hS => ?_)
  have hP : va_P D vwCl [(h0, .inr (7, [.int 0, g1, g2, g3, g4, g5, g6, g7, g8, g9, g10, g11, g12, .int 0, g13, g14, g15, g16, g17, g18, g19, g20, g21, g22, g23, g24, g25, g26, g27, g28]))] H := hP
  have hD : va_D A [(h0, .inr (7, [.int 0, g1, g2, g3, g4, g5, g6, g7, g8, g9, g10, g11, g12, .int 0, g13, g14, g15, g16, g17, g18, g19, g20, g21, g22, g23, g24, g25, g26, g27, g28]))] := hD
  refine lv_iload_n hx hb dX8_told_5 rfl (lv_at hl 1 rfl) ?_
  refine lv_iconst (v := 0) hx hb dX8_told_6 (by decide) ?_
  refine lv_bipush (v := 9) hx hb dX8_told_7 (by decide) ?_
  refine kc_i (wr := [(h0, .inr (7, [.int 0, g1, g2, g3, g4, g5, g6, g7, g8, g9, g10, g11, g12, .int 0, g13, g14, g15, g16, g17, g18, g19, g20, g21, g22, g23, g24, g25, g26, g27, g28]))]) (va_runS (As := [.int 8, .int 0, .int 9]) (rest := []) ⟨hx, hb, hml, hown, hts⟩ (K333_X8_in l D cB cI cZ _ ) (va_cwS 3 hts gX8_told_X8_in rfl rfl rfl (by decide +kernel) ⟨Nat.le_of_ble_eq_true rfl, Nat.le_of_ble_eq_true rfl⟩) (pre_S (hP.sub [] rfl) hK hN (hD.sub [] (by decide) rfl)) rfl rfl hl.1 rfl (lv_room (Nat.le_of_ble_eq_true rfl)) dX8_told_9 ⟨Nat.le_of_ble_eq_true rfl, Nat.le_of_ble_eq_true rfl⟩) hP hD hS hA [] [0] rfl rfl (by decide) (by decide) (fun r_1 u H locs hw hP hD hS => ?_)
  have k_2 := hw
  obtain rfl : r_1 = 1 := k_2
  have hP : va_P D vwCl [(h0, .inr (7, [.int 0, g1, g2, g3, g4, g5, g6, g7, g8, g9, g10, g11, g12, .int 0, g13, g14, g15, g16, g17, g18, g19, g20, g21, g22, g23, g24, g25, g26, g27, g28]))] H := hP
  have hD : va_D A [(h0, .inr (7, [.int 0, g1, g2, g3, g4, g5, g6, g7, g8, g9, g10, g11, g12, .int 0, g13, g14, g15, g16, g17, g18, g19, g20, g21, g22, g23, g24, g25, g26, g27, g28]))] := hD
  refine lv_if_ne (tgt := 18) hx hb dX8_told_12 (by decide) (fun c => ?_) (fun c => absurd c (by decide))
  refine lv_iload_n hx hb dX8_told_18 rfl (lv_at hl 1 rfl) ?_
  refine lv_bipush (v := 7) hx hb dX8_told_19 (by decide) ?_
  refine lv_icmp_le (tgt := 50) hx hb dX8_told_21 (by decide) (fun c => absurd c (by decide)) (fun c => ?_)
  refine lv_iload_n hx hb dX8_told_24 rfl (lv_at hl 1 rfl) ?_
  refine lv_bipush (v := 8) hx hb dX8_told_25 (by decide) ?_
  refine lv_icmp_ne (tgt := 37) hx hb dX8_told_27 (by decide) (fun c => absurd (by decide) c) (fun c => ?_)
  refine lv_aload_n hx hb dX8_told_30 rfl (lv_at hl 0 rfl) ?_
  refine va_get (D := D) (ci := 7) (v := .int 0) (C := RX8) (T := TX8) (N := 30) hx hb hts inX8_told_X8 hown hK hP 0 rfl rfl 13 (by decide) (hts _ wdX8_told_7) (fun _ h9 => h9) rfl dX8_told_31 ?_
  refine lv_goto (tgt := 49) hx hb dX8_told_34 (by decide) ?_
  exact kr_i () hx hb hr hlocks (hP.sub [] rfl) (hD.sub [] (by decide) rfl) hS rfl dX8_told_49
set_option maxHeartbeats 4000000 in
set_option maxRecDepth 100000 in
theorem K334_X7_told (l : Launch) (D : va_G) (cB cI cZ : ClassId) (sz : Nat) (h0 : Nat)  (g0 : Value) (g1 : Value) (g2 : Value) (g3 : Value) (g4 : Value) (g5 : Value) (g6 : Value) (g7 : Value)  :
    CtI l D cB cI cZ yX7_told wsX7_told { frames := 0, cells := 0, slots := 0, locals := 0 } [.ref h0, .int 9] [(h0, .inr (6, [g0, g1, g2, g3, g4, g5, g6, g7, .int 0]))] sz 0 0
      (fun (r : Int32) (u : Unit) => r = 0)
      (fun u => []) := by
  refine mk_metI (cc := cX7_told) (maxL := 2) (ret := (some .int)) (by decide) rfl (Nat.le_of_ble_eq_true rfl) ?_
  intro p e s m below meth c A hx hb hr hml hts hown hlocks hin hP hK hN hD hA hS ls hl
  have hown : s.vm.findClass RX7 = some m.cls := hown
  have hl : lv_has ls 2 [(0, .ref h0), (1, .int 9)] := hl
  refine lv_iload_n hx hb dX7_told_0 rfl (lv_at hl 1 rfl) ?_
  refine lv_if_lt (tgt := 10) hx hb dX7_told_1 (by decide) (fun c => absurd c (by decide)) (fun c => ?_)
  refine lv_iload_n hx hb dX7_told_4 rfl (lv_at hl 1 rfl) ?_
  refine lv_bipush (v := 9) hx hb dX7_told_5 (by decide) ?_
  refine lv_icmp_le (tgt := 13) hx hb dX7_told_7 (by decide) (fun c => ?_) (fun c => absurd (by decide) c)
  refine lv_iload_n hx hb dX7_told_13 rfl (lv_at hl 1 rfl) ?_
  refine lv_bipush (v := 9) hx hb dX7_told_14 (by decide) ?_
  refine lv_icmp_ne (tgt := 32) hx hb dX7_told_16 (by decide) (fun c => absurd (by decide) c) (fun c => ?_)
  refine lv_aload_n hx hb dX7_told_19 rfl (lv_at hl 0 rfl) ?_
  refine va_get (D := D) (ci := 6) (v := .int 0) (C := RX7) (T := TX7) (N := 9) hx hb hts inX7_told_X7 hown hK hP 0 rfl rfl 8 (by decide) (hts _ wdX7_told_0) (fun _ h9 => h9) rfl dX7_told_20 ?_
  refine lv_if_eq (tgt := 30) hx hb dX7_told_23 (by decide) (fun c => ?_) (fun c => absurd (by decide) c)
  refine lv_iconst (v := 0) hx hb dX7_told_30 (by decide) ?_
  exact kr_i () hx hb hr hlocks (hP.sub [] rfl) (hD.sub [] (by decide) rfl) hS rfl dX7_told_31
set_option maxHeartbeats 4000000 in
set_option maxRecDepth 100000 in
theorem K336_X8_in (l : Launch) (D : va_G) (cB cI cZ : ClassId) (sz : Nat)     :
    CtI l D cB cI cZ yX8_in wsX8_in { frames := 0, cells := 0, slots := 0, locals := 0 } [.int 9, .int 0, .int 9] [] sz 0 0
      (fun (r : Int32) (u : Unit) => r = 1)
      (fun u => []) := by
  refine mk_metI (cc := cX8_in) (maxL := 3) (ret := (some .boolean)) (by decide) rfl (Nat.le_of_ble_eq_true rfl) ?_
  intro p e s m below meth c A hx hb hr hml hts hown hlocks hin hP hK hN hD hA hS ls hl
  have hown : s.vm.findClass RX8 = some m.cls := hown
  have hl : lv_has ls 3 [(0, .int 9), (1, .int 0), (2, .int 9)] := hl
  refine lv_iload_n hx hb dX8_in_0 rfl (lv_at hl 0 rfl) ?_
  refine lv_iload_n hx hb dX8_in_1 rfl (lv_at hl 1 rfl) ?_
  refine lv_icmp_lt (tgt := 14) hx hb dX8_in_2 (by decide) (fun c => absurd c (by decide)) (fun c => ?_)
  refine lv_iload_n hx hb dX8_in_5 rfl (lv_at hl 0 rfl) ?_
  refine lv_iload_n hx hb dX8_in_6 rfl (lv_at hl 2 rfl) ?_
  refine lv_icmp_gt (tgt := 14) hx hb dX8_in_7 (by decide) (fun c => absurd c (by decide)) (fun c => ?_)
  refine lv_iconst (v := 1) hx hb dX8_in_10 (by decide) ?_
  refine lv_goto (tgt := 15) hx hb dX8_in_11 (by decide) ?_
  exact kr_z () hx hb hr rfl hlocks hP hD hS rfl dX8_in_15
set_option maxHeartbeats 4000000 in
set_option maxRecDepth 100000 in
theorem K335_X8_told (l : Launch) (D : va_G) (cB cI cZ : ClassId) (sz : Nat) (h0 : Nat)  (g0 : Value) (g1 : Value) (g2 : Value) (g3 : Value) (g4 : Value) (g5 : Value) (g6 : Value) (g7 : Value) (g8 : Value) (g9 : Value) (g10 : Value) (g11 : Value) (g12 : Value) (g13 : Value) (g14 : Value) (g15 : Value) (g16 : Value) (g17 : Value) (g18 : Value) (g19 : Value) (g20 : Value) (g21 : Value) (g22 : Value) (g23 : Value) (g24 : Value) (g25 : Value) (g26 : Value) (g27 : Value) (g28 : Value)  :
    CtI l D cB cI cZ yX8_told wsX8_told { frames := 1, cells := 0, slots := 0, locals := 22 } [.ref h0, .int 9] [(h0, .inr (7, [g0, .int 0, g1, g2, g3, g4, g5, g6, g7, g8, g9, g10, g11, g12, g13, g14, g15, g16, g17, g18, g19, g20, g21, g22, g23, g24, g25, g26, g27, g28]))] sz 0 0
      (fun (r : Int32) (u : Unit) => r = 0)
      (fun u => []) := by
  refine mk_metI (cc := cX8_told) (maxL := 4) (ret := (some .int)) (by decide) rfl (Nat.le_of_ble_eq_true rfl) ?_
  intro p e s m below meth c A hx hb hr hml hts hown hlocks hin hP hK hN hD hA hS ls hl
  have hown : s.vm.findClass RX8 = some m.cls := hown
  have hl : lv_has ls 4 [(0, .ref h0), (1, .int 9)] := hl
  refine lv_aload_n hx hb dX8_told_0 rfl (lv_at hl 0 rfl) ?_
  refine lv_iconst (v := 0) hx hb dX8_told_1 (by decide) ?_
  refine va_put (D := D) (ci := 7) (v := .int 0) (ty := .int) (C := RX8) (T := TX8) (N := 30) hx hb hts inX8_told_X8 tyX8 tyX8_ok nmX8 hown hK hP hD hS 0 rfl rfl 0 (by decide) (hts _ wdX8_told_0) (fun _ h9 => h9) rfl (by decide +kernel) rfl rfl (Nat.le_of_ble_eq_true rfl) dX8_told_2 (fun H locs hP hD hS => ?_)
  have hP : va_P D vwCl [(h0, .inr (7, [.int 0, .int 0, g1, g2, g3, g4, g5, g6, g7, g8, g9, g10, g11, g12, g13, g14, g15, g16, g17, g18, g19, g20, g21, g22, g23, g24, g25, g26, g27, g28]))] H := hP
  have hD : va_D A [(h0, .inr (7, [.int 0, .int 0, g1, g2, g3, g4, g5, g6, g7, g8, g9, g10, g11, g12, g13, g14, g15, g16, g17, g18, g19, g20, g21, g22, g23, g24, g25, g26, g27, g28]))] := hD
  refine lv_iload_n hx hb dX8_told_5 rfl (lv_at hl 1 rfl) ?_
  refine lv_iconst (v := 0) hx hb dX8_told_6 (by decide) ?_
  refine lv_bipush (v := 9) hx hb dX8_told_7 (by decide) ?_
  refine kc_i (wr := [(h0, .inr (7, [.int 0, .int 0, g1, g2, g3, g4, g5, g6, g7, g8, g9, g10, g11, g12, g13, g14, g15, g16, g17, g18, g19, g20, g21, g22, g23, g24, g25, g26, g27, g28]))]) (va_runS (As := [.int 9, .int 0, .int 9]) (rest := []) ⟨hx, hb, hml, hown, hts⟩ (K336_X8_in l D cB cI cZ _ ) (va_cwS 3 hts gX8_told_X8_in rfl rfl rfl (by decide +kernel) ⟨Nat.le_of_ble_eq_true rfl, Nat.le_of_ble_eq_true rfl⟩) (pre_S (hP.sub [] rfl) hK hN (hD.sub [] (by decide) rfl)) rfl rfl hl.1 rfl (lv_room (Nat.le_of_ble_eq_true rfl)) dX8_told_9 ⟨Nat.le_of_ble_eq_true rfl, Nat.le_of_ble_eq_true rfl⟩) hP hD hS hA [] [0] rfl rfl (by decide) (by decide) (fun r_1 u H locs hw hP hD hS => ?_)
  have k_2 := hw
  obtain rfl : r_1 = 1 := k_2
  have hP : va_P D vwCl [(h0, .inr (7, [.int 0, .int 0, g1, g2, g3, g4, g5, g6, g7, g8, g9, g10, g11, g12, g13, g14, g15, g16, g17, g18, g19, g20, g21, g22, g23, g24, g25, g26, g27, g28]))] H := hP
  have hD : va_D A [(h0, .inr (7, [.int 0, .int 0, g1, g2, g3, g4, g5, g6, g7, g8, g9, g10, g11, g12, g13, g14, g15, g16, g17, g18, g19, g20, g21, g22, g23, g24, g25, g26, g27, g28]))] := hD
  refine lv_if_ne (tgt := 18) hx hb dX8_told_12 (by decide) (fun c => ?_) (fun c => absurd c (by decide))
  refine lv_iload_n hx hb dX8_told_18 rfl (lv_at hl 1 rfl) ?_
  refine lv_bipush (v := 7) hx hb dX8_told_19 (by decide) ?_
  refine lv_icmp_le (tgt := 50) hx hb dX8_told_21 (by decide) (fun c => absurd c (by decide)) (fun c => ?_)
  refine lv_iload_n hx hb dX8_told_24 rfl (lv_at hl 1 rfl) ?_
  refine lv_bipush (v := 8) hx hb dX8_told_25 (by decide) ?_
  refine lv_icmp_ne (tgt := 37) hx hb dX8_told_27 (by decide) (fun c => ?_) (fun c => absurd c (by decide))
  refine lv_aload_n hx hb dX8_told_37 rfl (lv_at hl 0 rfl) ?_
  refine va_get (D := D) (ci := 7) (v := .int 0) (C := RX8) (T := TX8) (N := 30) hx hb hts inX8_told_X8 hown hK hP 0 rfl rfl 1 (by decide) (hts _ wdX8_told_1) (fun _ h9 => h9) rfl dX8_told_38 ?_
  refine lv_if_eq (tgt := 48) hx hb dX8_told_41 (by decide) (fun c => ?_) (fun c => absurd (by decide) c)
  refine lv_iconst (v := 0) hx hb dX8_told_48 (by decide) ?_
  exact kr_i () hx hb hr hlocks (hP.sub [] rfl) (hD.sub [] (by decide) rfl) hS rfl dX8_told_49
