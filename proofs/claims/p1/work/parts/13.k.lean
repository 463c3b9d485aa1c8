set_option maxHeartbeats 4000000 in
set_option maxRecDepth 100000 in
theorem K43_X7_isKey (l : Launch) (D : va_G) (cB cI cZ : ClassId) (sz : Nat)   (p0 : Int32) (i_p0 : p0.toInt ≤ (-1)) :
    CtI l D cB cI cZ yX7_isKey wsX7_isKey { frames := 0, cells := 0, slots := 0, locals := 0 } [.int p0] [] sz 0 0
      (fun (r : Int32) (u : Unit) => r = 0)
      (fun u => []) := by
  refine mk_metI (cc := cX7_isKey) (maxL := 1) (ret := (some .boolean)) (by decide) rfl (Nat.le_of_ble_eq_true rfl) ?_
  intro p e s m below meth c A hx hb hr hml hts hown hlocks hin hP hK hN hD hA hS ls hl
  have hown : s.vm.findClass RX7 = some m.cls := hown
  have hl : lv_has ls 1 [(0, .int p0)] := hl
  refine lv_iload_n hx hb dX7_isKey_0 rfl (lv_at hl 0 rfl) ?_
  refine lv_if_lt (tgt := 15) hx hb dX7_isKey_1 (by decide) (fun c => ?_) (fun c => absurd ((ti_lt (x := p0) (y := 0) (a := p0.toInt) (b := 0) rfl (by decide)).mpr (by omega)) c)
  refine lv_iconst (v := 0) hx hb dX7_isKey_15 (by decide) ?_
  exact kr_z () hx hb hr rfl hlocks hP hD hS rfl dX7_isKey_16
set_option maxHeartbeats 4000000 in
set_option maxRecDepth 100000 in
theorem K42_X7_put (l : Launch) (D : va_G) (cB cI cZ : ClassId) (sz : Nat) (h0 : Nat)  (p0 : Int32) (g0 : Value) (g1 : Value) (g2 : Value) (g3 : Value) (g4 : Value) (g5 : Value) (g6 : Value) (g7 : Value) (i_p0 : p0.toInt ≤ (-1)) :
    CtI l D cB cI cZ yX7_put wsX7_put { frames := 1, cells := 0, slots := 0, locals := 20 } [.ref h0, .int p0] [(h0, .inr (6, [g0, g1, g2, g3, g4, g5, g6, g7, .int 0]))] sz 0 0
      (fun (r : Int32) (u : Unit) => r = (-2))
      (fun u => []) := by
  refine mk_metI (cc := cX7_put) (maxL := 3) (ret := (some .int)) (by decide) rfl (Nat.le_of_ble_eq_true rfl) ?_
  intro p e s m below meth c A hx hb hr hml hts hown hlocks hin hP hK hN hD hA hS ls hl
  have hown : s.vm.findClass RX7 = some m.cls := hown
  have hl : lv_has ls 3 [(0, .ref h0), (1, .int p0)] := hl
  refine lv_aload_n hx hb dX7_put_0 rfl (lv_at hl 0 rfl) ?_
  refine va_get (D := D) (ci := 6) (v := .int 0) (C := RX7) (T := TX7) (N := 9) hx hb hts inX7_put_X7 hown hK hP 0 rfl rfl 8 (by decide) (hts _ wdX7_put_0) (fun _ h9 => h9) rfl dX7_put_1 ?_
  refine lv_if_eq (tgt := 10) hx hb dX7_put_4 (by decide) (fun c => ?_) (fun c => absurd (by decide) c)
  refine lv_iload_n hx hb dX7_put_10 rfl (lv_at hl 1 rfl) ?_
  refine kc_i (wr := [(h0, .inr (6, [g0, g1, g2, g3, g4, g5, g6, g7, .int 0]))]) (va_runS (As := [.int p0]) (rest := []) ⟨hx, hb, hml, hown, hts⟩ (K43_X7_isKey l D cB cI cZ _ p0 (by omega)) (va_cwS 1 hts gX7_put_X7_isKey rfl rfl rfl (by decide +kernel) ⟨Nat.le_of_ble_eq_true rfl, Nat.le_of_ble_eq_true rfl⟩) (pre_S (hP.sub [] rfl) hK hN (hD.sub [] (by decide) rfl)) rfl rfl hl.1 rfl (lv_room (Nat.le_of_ble_eq_true rfl)) dX7_put_11 ⟨Nat.le_of_ble_eq_true rfl, Nat.le_of_ble_eq_true rfl⟩) hP hD hS hA [] [0] rfl rfl (by decide) (by decide) (fun r_1 u H locs hw hP hD hS => ?_)
  have k_2 := hw
  obtain rfl : r_1 = 0 := k_2
  have hP : va_P D vwCl [(h0, .inr (6, [g0, g1, g2, g3, g4, g5, g6, g7, .int 0]))] H := hP
  have hD : va_D A [(h0, .inr (6, [g0, g1, g2, g3, g4, g5, g6, g7, .int 0]))] := hD
  refine lv_if_ne (tgt := 20) hx hb dX7_put_14 (by decide) (fun c => absurd (by decide) c) (fun c => ?_)
  refine lv_bipush (v := (-2)) hx hb dX7_put_17 (by decide) ?_
  exact kr_i () hx hb hr hlocks (hP.sub [] rfl) (hD.sub [] (by decide) rfl) hS rfl dX7_put_19
set_option maxHeartbeats 4000000 in
set_option maxRecDepth 100000 in
theorem K45_X8_in (l : Launch) (D : va_G) (cB cI cZ : ClassId) (sz : Nat)   (p0 : Int32) (i_p0 : p0.toInt ≤ (-1)) :
    CtI l D cB cI cZ yX8_in wsX8_in { frames := 0, cells := 0, slots := 0, locals := 0 } [.int p0, .int 0, .int 299] [] sz 0 0
      (fun (r : Int32) (u : Unit) => r = 0)
      (fun u => []) := by
  refine mk_metI (cc := cX8_in) (maxL := 3) (ret := (some .boolean)) (by decide) rfl (Nat.le_of_ble_eq_true rfl) ?_
  intro p e s m below meth c A hx hb hr hml hts hown hlocks hin hP hK hN hD hA hS ls hl
  have hown : s.vm.findClass RX8 = some m.cls := hown
  have hl : lv_has ls 3 [(0, .int p0), (1, .int 0), (2, .int 299)] := hl
  refine lv_iload_n hx hb dX8_in_0 rfl (lv_at hl 0 rfl) ?_
  refine lv_iload_n hx hb dX8_in_1 rfl (lv_at hl 1 rfl) ?_
  refine lv_icmp_lt (tgt := 14) hx hb dX8_in_2 (by decide) (fun c => ?_) (fun c => absurd ((ti_lt (x := p0) (y := 0) (a := p0.toInt) (b := 0) rfl (by decide)).mpr (by omega)) c)
  refine lv_iconst (v := 0) hx hb dX8_in_14 (by decide) ?_
  exact kr_z () hx hb hr rfl hlocks hP hD hS rfl dX8_in_15
set_option maxHeartbeats 4000000 in
set_option maxRecDepth 100000 in
theorem K44_X8_put (l : Launch) (D : va_G) (cB cI cZ : ClassId) (sz : Nat) (h0 : Nat)  (p0 : Int32) (g0 : Value) (g1 : Value) (g2 : Value) (g3 : Value) (g4 : Value) (g5 : Value) (g6 : Value) (g7 : Value) (g8 : Value) (g9 : Value) (g10 : Value) (g11 : Value) (g12 : Value) (g13 : Value) (g14 : Value) (g15 : Value) (g16 : Value) (g17 : Value) (g18 : Value) (g19 : Value) (g20 : Value) (g21 : Value) (g22 : Value) (g23 : Value) (g24 : Value) (g25 : Value) (g26 : Value) (g27 : Value) (g28 : Value) (i_p0 : p0.toInt ≤ (-1)) :
    CtI l D cB cI cZ yX8_put wsX8_put { frames := 1, cells := 0, slots := 0, locals := 22 } [.ref h0, .int p0] [(h0, .inr (7, [g0, .int 0, g1, g2, g3, g4, g5, g6, g7, g8, g9, g10, g11, g12, g13, g14, g15, g16, g17, g18, g19, g20, g21, g22, g23, g24, g25, g26, g27, g28]))] sz 0 0
      (fun (r : Int32) (u : Unit) => r = (-2))
      (fun u => []) := by
  refine mk_metI (cc := cX8_put) (maxL := 3) (ret := (some .int)) (by decide) rfl (Nat.le_of_ble_eq_true rfl) ?_
  intro p e s m below meth c A hx hb hr hml hts hown hlocks hin hP hK hN hD hA hS ls hl
  have hown : s.vm.findClass RX8 = some m.cls := hown
  have hl : lv_has ls 3 [(0, .ref h0), (1, .int p0)] := hl
  refine lv_aload_n hx hb dX8_put_0 rfl (lv_at hl 0 rfl) ?_
  refine lv_iconst (v := 0) hx hb dX8_put_1 (by decide) ?_
  refine va_put (D := D) (ci := 7) (v := .int 0) (ty := .int) (C := RX8) (T := TX8) (N := 30) hx hb hts inX8_put_X8 tyX8 tyX8_ok nmX8 hown hK hP hD hS 0 rfl rfl 0 (by decide) (hts _ wdX8_put_0) (fun _ h9 => h9) rfl (by decide +kernel) rfl rfl (Nat.le_of_ble_eq_true rfl) dX8_put_2 (fun H locs hP hD hS => ?_)
  have hP : va_P D vwCl [(h0, .inr (7, [.int 0, .int 0, g1, g2, g3, g4, g5, g6, g7, g8, g9, g10, g11, g12, g13, g14, g15, g16, g17, g18, g19, g20, g21, g22, g23, g24, g25, g26, g27, g28]))] H := hP
  have hD : va_D A [(h0, .inr (7, [.int 0, .int 0, g1, g2, g3, g4, g5, g6, g7, g8, g9, g10, g11, g12, g13, g14, g15, g16, g17, g18, g19, g20, g21, g22, g23, g24, g25, g26, g27, g28]))] := hD
  refine lv_aload_n hx hb dX8_put_5 rfl (lv_at hl 0 rfl) ?_
  refine va_get (D := D) (ci := 7) (v := .int 0) (C := RX8) (T := TX8) (N := 30) hx hb hts inX8_put_X8 hown hK hP 0 rfl rfl 1 (by decide) (hts _ wdX8_put_1) (fun _ h9 => h9) rfl dX8_put_6 ?_
  refine lv_if_eq (tgt := 15) hx hb dX8_put_9 (by decide) (fun c => ?_) (fun c => absurd (by decide) c)
  refine lv_iload_n hx hb dX8_put_15 rfl (lv_at hl 1 rfl) ?_
  refine lv_iconst (v := 0) hx hb dX8_put_16 (by decide) ?_
  refine lv_sipush (v := 299) hx hb dX8_put_17 (by decide) ?_
  refine kc_i (wr := [(h0, .inr (7, [.int 0, .int 0, g1, g2, g3, g4, g5, g6, g7, g8, g9, g10, g11, g12, g13, g14, g15, g16, g17, g18, g19, g20, g21, g22, g23, g24, g25, g26, g27, g28]))]) (va_runS (As := [.int p0, .int 0, .int 299]) (rest := []) ⟨hx, hb, hml, hown, hts⟩ (K45_X8_in l D cB cI cZ _ p0 (by omega)) (va_cwS 3 hts gX8_put_X8_in rfl rfl rfl (by decide +kernel) ⟨Nat.le_of_ble_eq_true rfl, Nat.le_of_ble_eq_true rfl⟩) (pre_S (hP.sub [] rfl) hK hN (hD.sub [] (by decide) rfl)) rfl rfl hl.1 rfl (lv_room (Nat.le_of_ble_eq_true rfl)) dX8_put_20 ⟨Nat.le_of_ble_eq_true rfl, Nat.le_of_ble_eq_true rfl⟩) hP hD hS hA [] [0] rfl rfl (by decide) (by decide) (fun r_1 u H locs hw hP hD hS => ?_)
  have k_2 := hw
  obtain rfl : r_1 = 0 := k_2
  have hP : va_P D vwCl [(h0, .inr (7, [.int 0, .int 0, g1, g2, g3, g4, g5, g6, g7, g8, g9, g10, g11, g12, g13, g14, g15, g16, g17, g18, g19, g20, g21, g22, g23, g24, g25, g26, g27, g28]))] H := hP
  have hD : va_D A [(h0, .inr (7, [.int 0, .int 0, g1, g2, g3, g4, g5, g6, g7, g8, g9, g10, g11, g12, g13, g14, g15, g16, g17, g18, g19, g20, g21, g22, g23, g24, g25, g26, g27, g28]))] := hD
  refine lv_if_ne (tgt := 29) hx hb dX8_put_23 (by decide) (fun c => absurd (by decide) c) (fun c => ?_)
  refine lv_bipush (v := (-2)) hx hb dX8_put_26 (by decide) ?_
  exact kr_i () hx hb hr hlocks (hP.sub [] rfl) (hD.sub [] (by decide) rfl) hS rfl dX8_put_28
set_option maxHeartbeats 4000000 in
set_option maxRecDepth 100000 in
theorem K47_X7_isKey (l : Launch) (D : va_G) (cB cI cZ : ClassId) (sz : Nat)   (p0 : Int32) (i_p0 : 0 ≤ p0.toInt ∧ p0.toInt ≤ 299) :
    CtI l D cB cI cZ yX7_isKey wsX7_isKey { frames := 0, cells := 0, slots := 0, locals := 0 } [.int p0] [] sz 0 0
      (fun (r : Int32) (u : Unit) => r = 1)
      (fun u => []) := by
  refine mk_metI (cc := cX7_isKey) (maxL := 1) (ret := (some .boolean)) (by decide) rfl (Nat.le_of_ble_eq_true rfl) ?_
  intro p e s m below meth c A hx hb hr hml hts hown hlocks hin hP hK hN hD hA hS ls hl
  have hown : s.vm.findClass RX7 = some m.cls := hown
  have hl : lv_has ls 1 [(0, .int p0)] := hl
  refine lv_iload_n hx hb dX7_isKey_0 rfl (lv_at hl 0 rfl) ?_
  refine lv_if_lt (tgt := 15) hx hb dX7_isKey_1 (by decide) (fun c => absurd ((ti_lt (x := p0) (y := 0) (a := p0.toInt) (b := 0) rfl (by decide)).mp c) (by omega)) (fun c => ?_)
  refine lv_iload_n hx hb dX7_isKey_4 rfl (lv_at hl 0 rfl) ?_
  refine lv_sipush (v := 300) hx hb dX7_isKey_5 (by decide) ?_
  refine lv_icmp_ge (tgt := 15) hx hb dX7_isKey_8 (by decide) (fun c => absurd ((ti_le (x := 300) (y := p0) (a := 300) (b := p0.toInt) (by decide) rfl).mp c) (by omega)) (fun c => ?_)
  refine lv_iconst (v := 1) hx hb dX7_isKey_11 (by decide) ?_
  refine lv_goto (tgt := 16) hx hb dX7_isKey_12 (by decide) ?_
  exact kr_z () hx hb hr rfl hlocks hP hD hS rfl dX7_isKey_16
set_option maxHeartbeats 4000000 in
set_option maxRecDepth 100000 in
theorem K49_X3_fits (l : Launch) (D : va_G) (cB cI cZ : ClassId) (sz : Nat) (h0 : Nat)  (g0 : Value) (g1 : Value) (g2 : Value) (g3 : Value) (g4 : Value) (g5 : Value) (g6 : Value) (g7 : Value) (g8 : Value) (g9 : Value) (g10 : Value) (g11 : Value) (g12 : Value)  :
    CtI l D cB cI cZ yX3_fits wsX3_fits { frames := 0, cells := 0, slots := 0, locals := 0 } [.ref h0, .int 16] [(h0, .inr (3, [g0, g1, g2, g3, g4, g5, g6, g7, g8, .int 0, g9, g10, g11, g12]))] sz 0 0
      (fun (r : Int32) (u : Unit) => r = 0)
      (fun u => [(h0, .inr (3, [g0, g1, g2, g3, g4, g5, g6, g7, g8, .int 0, g9, g10, g11, g12]))]) := by
  refine mk_metI (cc := cX3_fits) (maxL := 2) (ret := (some .boolean)) (by decide) rfl (Nat.le_of_ble_eq_true rfl) ?_
  intro p e s m below meth c A hx hb hr hml hts hown hlocks hin hP hK hN hD hA hS ls hl
  have hown : s.vm.findClass RX3 = some m.cls := hown
  have hl : lv_has ls 2 [(0, .ref h0), (1, .int 16)] := hl
  refine lv_aload_n hx hb dX3_fits_0 rfl (lv_at hl 0 rfl) ?_
  refine va_get (D := D) (ci := 3) (v := .int 0) (C := RX3) (T := TX3) (N := 14) hx hb hts inX3_fits_X3 hown hK hP 0 rfl rfl 9 (by decide) (hts _ wdX3_fits_0) (fun _ h9 => h9) rfl dX3_fits_1 ?_
  refine lv_if_eq (tgt := 23) hx hb dX3_fits_4 (by decide) (fun c => ?_) (fun c => absurd (by decide) c)
  refine lv_iconst (v := 0) hx hb dX3_fits_23 (by decide) ?_
  exact kr_z () hx hb hr rfl hlocks hP hD hS rfl dX3_fits_24
set_option maxHeartbeats 4000000 in
set_option maxRecDepth 100000 in
theorem K50_X3_countFree (l : Launch) (D : va_G) (cB cI cZ : ClassId) (sz : Nat) (h0 : Nat) (h1 : Nat)  (g0 : Value) (g1 : Value) (g2 : Value) (g3 : Value) (g4 : Value) (g5 : Value) (g6 : Value) (g7 : Value) (g8 : Value) (g9 : Value) (g10 : Value) (g11 : Value) (g12 : Value)  :
    CtI l D cB cI cZ yX3_countFree wsX3_countFree { frames := 0, cells := 0, slots := 0, locals := 0 } [.ref h0] [(h0, .inr (3, [g0, g1, .ref h1, g2, g3, g4, g5, g6, g7, g8, g9, g10, g11, g12])), (h1, .inl (cI, 64, .inl zf))] sz 0 0
      (fun (r : Int32) (u : Unit) => r = 56)
      (fun u => [(h0, .inr (3, [g0, g1, .ref h1, g2, g3, g4, g5, g6, g7, g8, g9, g10, g11, g12])), (h1, .inl (cI, 64, .inl zf))]) := by
  refine mk_metI (cc := cX3_countFree) (maxL := 3) (ret := (some .int)) (by decide) rfl (Nat.le_of_ble_eq_true rfl) ?_
  intro p e s m below meth c A hx hb hr hml hts hown hlocks hin hP hK hN hD hA hS ls hl
  have hown : s.vm.findClass RX3 = some m.cls := hown
  have hl : lv_has ls 3 [(0, .ref h0)] := hl
  refine lv_iconst (v := 0) hx hb dX3_countFree_0 (by decide) ?_
  refine lv_istore_n (lv' := [(1, .int 0), (0, .ref h0)]) hx hb dX3_countFree_1 rfl hl (by decide) rfl (fun ls hl => ?_)
  refine lv_bipush (v := 8) hx hb dX3_countFree_2 (by decide) ?_
  refine lv_istore_n (lv' := [(2, .int 8), (1, .int 0), (0, .ref h0)]) hx hb dX3_countFree_4 rfl hl (by decide) rfl (fun ls hl => ?_)
  refine kl (α := Int32 × Int32) (fun n a H locs ls => (8 ≤ Int32.toInt (a.1)) ∧ (Int32.toInt (a.1) ≤ 64) ∧ (Int32.toInt (a.2) = Int32.toInt (a.1) + (-8)) ∧ (64 - Int32.toInt (a.1) < ((n : Nat) : Int)) ∧ va_P D vwCl [(h0, .inr (3, [g0, g1, .ref h1, g2, g3, g4, g5, g6, g7, g8, g9, g10, g11, g12])), (h1, .inl (cI, 64, .inl zf))] H ∧ va_D A [(h0, .inr (3, [g0, g1, .ref h1, g2, g3, g4, g5, g6, g7, g8, g9, g10, g11, g12])), (h1, .inl (cI, 64, .inl zf))] ∧ va_S A s.heap H locs ∧ lv_has ls 3 [(2, .int (a.1)), (1, .int (a.2)), (0, .ref h0)]) 57 (8, 0) ⟨(by show 8 ≤ Int32.toInt 8; decide), (by show Int32.toInt 8 ≤ 64; decide), (by show Int32.toInt 0 = Int32.toInt 8 + (-8); decide), (by show 64 - Int32.toInt 8 < ((57 : Nat) : Int); have := (by decide : Int32.toInt 8 = 8); omega), hP, hD, hS, hl⟩ (fun a H locs ls h => ?_) (fun n_3 ih_4 a H locs ls h => ?_)
  · obtain ⟨j_5, j_6, j_7, j_8, _⟩ := h
    omega
  obtain ⟨v_2, v_1⟩ := a
  obtain ⟨j_5, j_6, j_7, j_8, hP, hD, hS, hl⟩ := h
  have j_5 : 8 ≤ Int32.toInt v_2 := j_5
  have j_6 : Int32.toInt v_2 ≤ 64 := j_6
  have j_7 : Int32.toInt v_1 = Int32.toInt v_2 + (-8) := j_7
  have j_8 : 64 - Int32.toInt v_2 < ((n_3 + 1 : Nat) : Int) := j_8
  have hP : va_P D vwCl [(h0, .inr (3, [g0, g1, .ref h1, g2, g3, g4, g5, g6, g7, g8, g9, g10, g11, g12])), (h1, .inl (cI, 64, .inl zf))] H := hP
  have hD : va_D A [(h0, .inr (3, [g0, g1, .ref h1, g2, g3, g4, g5, g6, g7, g8, g9, g10, g11, g12])), (h1, .inl (cI, 64, .inl zf))] := hD
  have hl : lv_has ls 3 [(2, .int v_2), (1, .int v_1), (0, .ref h0)] := hl
  refine lv_iload_n hx hb dX3_countFree_5 rfl (lv_at hl 0 rfl) ?_
  refine lv_bipush (v := 64) hx hb dX3_countFree_6 (by decide) ?_
  refine lv_icmp_ge (tgt := 29) hx hb dX3_countFree_8 (by decide) (fun c => ?_) (fun c => ?_)
  · skip
    have k_9 := (ti_le (x := 64) (y := v_2) (a := 64) (b := v_2.toInt) (by decide) rfl).mp c
    obtain rfl : v_1 = 56 := ti_inj (a := 56) (by decide) (by omega)
    obtain rfl : v_2 = 64 := ti_inj (a := 64) (by decide) (by omega)
    refine lv_iload_n hx hb dX3_countFree_29 rfl (lv_at hl 1 rfl) ?_
    exact kr_i () hx hb hr hlocks hP hD hS rfl dX3_countFree_30
  · skip
    have k_10 := mt (ti_le (x := 64) (y := v_2) (a := 64) (b := v_2.toInt) (by decide) rfl).mpr c
    refine lv_aload_n hx hb dX3_countFree_11 rfl (lv_at hl 2 rfl) ?_
    refine va_get (D := D) (ci := 3) (v := .ref h1) (C := RX3) (T := TX3) (N := 14) hx hb hts inX3_countFree_X3 hown hK hP 0 rfl rfl 2 (by decide) (hts _ wdX3_countFree_0) (fun _ h9 => h9) rfl dX3_countFree_12 ?_
    refine lv_iload_n hx hb dX3_countFree_15 rfl (lv_at hl 0 rfl) ?_
    refine va_iald hx hb hK hP 1 1 rfl rfl (ti_in (a := v_2.toInt) rfl (by omega) (by omega)) dX3_countFree_16 ?_
    refine lv_topi (fun z_11 ez_11 => ?_)
    obtain rfl : z_11 = 0 := ez_11
    refine lv_if_ne (tgt := 23) hx hb dX3_countFree_17 (by decide) (fun c => absurd (by decide) c) (fun c => ?_)
    obtain ⟨x_12, ex_12⟩ : ∃ y : Int32, y = v_1 + 1 := ⟨_, rfl⟩
    have tx_12 : x_12.toInt = v_1.toInt + 1 := by rw [ex_12]; exact ti_add rfl (by decide) (by omega) (by omega)
    refine lv_iinc (v := x_12) (lv' := [(1, .int x_12), (2, .int v_2), (0, .ref h0)]) hx hb dX3_countFree_20 hl (k := 1) rfl (by rw [ex_12]; rfl) (by decide) rfl (fun ls hl => ?_)
    obtain ⟨x_13, ex_13⟩ : ∃ y : Int32, y = v_2 + 1 := ⟨_, rfl⟩
    have tx_13 : x_13.toInt = v_2.toInt + 1 := by rw [ex_13]; exact ti_add rfl (by decide) (by omega) (by omega)
    refine lv_iinc (v := x_13) (lv' := [(2, .int x_13), (1, .int x_12), (0, .ref h0)]) hx hb dX3_countFree_23 hl (k := 1) rfl (by rw [ex_13]; rfl) (by decide) rfl (fun ls hl => ?_)
    refine lv_goto (tgt := 5) hx hb dX3_countFree_26 (by decide) ?_
    exact ih_4 (x_13, x_12) _ _ _ ⟨(by show 8 ≤ Int32.toInt x_13; omega), (by show Int32.toInt x_13 ≤ 64; omega), (by show Int32.toInt x_12 = Int32.toInt x_13 + (-8); omega), (by show 64 - Int32.toInt x_13 < ((n_3 : Nat) : Int); omega), hP, hD, hS, hl⟩
set_option maxHeartbeats 4000000 in
set_option maxRecDepth 100000 in
theorem K48_X3_hasRoomFor (l : Launch) (D : va_G) (cB cI cZ : ClassId) (sz : Nat) (h0 : Nat) (h1 : Nat)  (g0 : Value) (g1 : Value) (g2 : Value) (g3 : Value) (g4 : Value) (g5 : Value) (g6 : Value) (g7 : Value) (g8 : Value) (g9 : Value) (g10 : Value) (g11 : Value)  :
    CtI l D cB cI cZ yX3_hasRoomFor wsX3_hasRoomFor { frames := 1, cells := 0, slots := 0, locals := 22 } [.ref h0, .int 16] [(h0, .inr (3, [g0, g1, .ref h1, g2, g3, g4, g5, g6, g7, .int 0, g8, g9, g10, g11])), (h1, .inl (cI, 64, .inl zf))] sz 0 0
      (fun (r : Int32) (u : Unit) => r = 1)
      (fun u => [(h0, .inr (3, [g0, g1, .ref h1, g2, g3, g4, g5, g6, g7, .int 0, g8, g9, g10, g11])), (h1, .inl (cI, 64, .inl zf))]) := by
  refine mk_metI (cc := cX3_hasRoomFor) (maxL := 2) (ret := (some .boolean)) (by decide) rfl (Nat.le_of_ble_eq_true rfl) ?_
  intro p e s m below meth c A hx hb hr hml hts hown hlocks hin hP hK hN hD hA hS ls hl
  have hown : s.vm.findClass RX3 = some m.cls := hown
  have hl : lv_has ls 2 [(0, .ref h0), (1, .int 16)] := hl
  refine lv_aload_n hx hb dX3_hasRoomFor_0 rfl (lv_at hl 0 rfl) ?_
  refine lv_iload_n hx hb dX3_hasRoomFor_1 rfl (lv_at hl 1 rfl) ?_
  refine kc_i (wr := [(h1, .inl (cI, 64, .inl zf))]) (va_runV (As := [.int 16]) (rest := []) ⟨hx, hb, hml, hown, hts⟩ (K49_X3_fits l D cB cI cZ _ h0 (g0) (g1) ((.ref h1)) (g2) (g3) (g4) (g5) (g6) (g7) (g8) (g9) (g10) (g11)) (cwV 1 hts gX3_hasRoomFor_X3_fits rfl rfl rfl (by decide +kernel) ⟨Nat.le_of_ble_eq_true rfl, Nat.le_of_ble_eq_true rfl⟩) (pre_V (q := (RX3, TX3, 14)) (ci := 3) (q0 := 0) (hP.sub [0] rfl) hK hN (hD.sub [0] (by decide) rfl) rfl rfl) rfl rfl hl.1 rfl (lv_room (Nat.le_of_ble_eq_true rfl)) dX3_hasRoomFor_2 ⟨Nat.le_of_ble_eq_true rfl, Nat.le_of_ble_eq_true rfl⟩) hP hD hS hA [0] [1] rfl rfl (by decide) (by decide) (fun r_1 u H locs hw hP hD hS => ?_)
  have k_2 := hw
  obtain rfl : r_1 = 0 := k_2
  have hP : va_P D vwCl [(h1, .inl (cI, 64, .inl zf)), (h0, .inr (3, [g0, g1, .ref h1, g2, g3, g4, g5, g6, g7, .int 0, g8, g9, g10, g11]))] H := hP
  have hD : va_D A [(h1, .inl (cI, 64, .inl zf)), (h0, .inr (3, [g0, g1, .ref h1, g2, g3, g4, g5, g6, g7, .int 0, g8, g9, g10, g11]))] := hD
  refine lv_if_ne (tgt := 16) hx hb dX3_hasRoomFor_5 (by decide) (fun c => absurd (by decide) c) (fun c => ?_)
  refine lv_aload_n hx hb dX3_hasRoomFor_8 rfl (lv_at hl 0 rfl) ?_
  refine kc_i (wr := []) (va_runV (As := []) (rest := []) ⟨hx, hb, hml, hown, hts⟩ (K50_X3_countFree l D cB cI cZ _ h0 h1 (g0) (g1) (g2) (g3) (g4) (g5) (g6) (g7) ((.int 0)) (g8) (g9) (g10) (g11)) (cwV 0 hts gX3_hasRoomFor_X3_countFree rfl rfl rfl (by decide +kernel) ⟨Nat.le_of_ble_eq_true rfl, Nat.le_of_ble_eq_true rfl⟩) (pre_V (q := (RX3, TX3, 14)) (ci := 3) (q0 := 0) (hP.sub [1, 0] rfl) hK hN (hD.sub [1, 0] (by decide) rfl) rfl rfl) rfl rfl hl.1 rfl (lv_room (Nat.le_of_ble_eq_true rfl)) dX3_hasRoomFor_9 ⟨Nat.le_of_ble_eq_true rfl, Nat.le_of_ble_eq_true rfl⟩) hP hD hS hA [1, 0] [] rfl rfl (by decide) (by decide) (fun r_3 u H locs hw hP hD hS => ?_)
  have k_4 := hw
  obtain rfl : r_3 = 56 := k_4
  have hP : va_P D vwCl [(h0, .inr (3, [g0, g1, .ref h1, g2, g3, g4, g5, g6, g7, .int 0, g8, g9, g10, g11])), (h1, .inl (cI, 64, .inl zf))] H := hP
  have hD : va_D A [(h0, .inr (3, [g0, g1, .ref h1, g2, g3, g4, g5, g6, g7, .int 0, g8, g9, g10, g11])), (h1, .inl (cI, 64, .inl zf))] := hD
  refine lv_iconst (v := 2) hx hb dX3_hasRoomFor_12 (by decide) ?_
  refine lv_icmp_le (tgt := 20) hx hb dX3_hasRoomFor_13 (by decide) (fun c => absurd c (by decide)) (fun c => ?_)
  refine lv_iconst (v := 1) hx hb dX3_hasRoomFor_16 (by decide) ?_
  refine lv_goto (tgt := 21) hx hb dX3_hasRoomFor_17 (by decide) ?_
  exact kr_z () hx hb hr rfl hlocks hP hD hS rfl dX3_hasRoomFor_21
set_option maxHeartbeats 4000000 in
set_option maxRecDepth 100000 in
theorem K53_X3_leastFree (l : Launch) (D : va_G) (cB cI cZ : ClassId) (sz : Nat) (h0 : Nat) (h1 : Nat)  (g0 : Value) (g1 : Value) (g2 : Value) (g3 : Value) (g4 : Value) (g5 : Value) (g6 : Value) (g7 : Value) (g8 : Value) (g9 : Value) (g10 : Value) (g11 : Value) (g12 : Value)  :
    CtI l D cB cI cZ yX3_leastFree wsX3_leastFree { frames := 0, cells := 0, slots := 0, locals := 0 } [.ref h0] [(h0, .inr (3, [g0, g1, .ref h1, g2, g3, g4, g5, g6, g7, g8, g9, g10, g11, g12])), (h1, .inl (cI, 64, .inl zf))] sz 0 0
      (fun (r : Int32) (u : Unit) => r = 8)
      (fun u => [(h0, .inr (3, [g0, g1, .ref h1, g2, g3, g4, g5, g6, g7, g8, g9, g10, g11, g12])), (h1, .inl (cI, 64, .inl zf))]) := by
  refine mk_metI (cc := cX3_leastFree) (maxL := 2) (ret := (some .int)) (by decide) rfl (Nat.le_of_ble_eq_true rfl) ?_
  intro p e s m below meth c A hx hb hr hml hts hown hlocks hin hP hK hN hD hA hS ls hl
  have hown : s.vm.findClass RX3 = some m.cls := hown
  have hl : lv_has ls 2 [(0, .ref h0)] := hl
  refine lv_bipush (v := 8) hx hb dX3_leastFree_0 (by decide) ?_
  refine lv_istore_n (lv' := [(1, .int 8), (0, .ref h0)]) hx hb dX3_leastFree_2 rfl hl (by decide) rfl (fun ls hl => ?_)
  refine lv_iload_n hx hb dX3_leastFree_3 rfl (lv_at hl 0 rfl) ?_
  refine lv_bipush (v := 64) hx hb dX3_leastFree_4 (by decide) ?_
  refine lv_icmp_ge (tgt := 26) hx hb dX3_leastFree_6 (by decide) (fun c => absurd c (by decide)) (fun c => ?_)
  refine lv_aload_n hx hb dX3_leastFree_9 rfl (lv_at hl 1 rfl) ?_
  refine va_get (D := D) (ci := 3) (v := .ref h1) (C := RX3) (T := TX3) (N := 14) hx hb hts inX3_leastFree_X3 hown hK hP 0 rfl rfl 2 (by decide) (hts _ wdX3_leastFree_0) (fun _ h9 => h9) rfl dX3_leastFree_10 ?_
  refine lv_iload_n hx hb dX3_leastFree_13 rfl (lv_at hl 0 rfl) ?_
  refine va_iald hx hb hK hP 1 1 rfl rfl (ti_in (a := 8) (by decide) (by decide) (by decide)) dX3_leastFree_14 ?_
  refine lv_topi (fun z_1 ez_1 => ?_)
  obtain rfl : z_1 = 0 := ez_1
  refine lv_if_ne (tgt := 20) hx hb dX3_leastFree_15 (by decide) (fun c => absurd (by decide) c) (fun c => ?_)
  refine lv_iload_n hx hb dX3_leastFree_18 rfl (lv_at hl 0 rfl) ?_
  exact kr_i () hx hb hr hlocks hP hD hS rfl dX3_leastFree_19
set_option maxHeartbeats 4000000 in
set_option maxRecDepth 100000 in
theorem K55_X7_isOfLog (l : Launch) (D : va_G) (cB cI cZ : ClassId) (sz : Nat)     :
    CtI l D cB cI cZ yX7_isOfLog wsX7_isOfLog { frames := 0, cells := 0, slots := 0, locals := 0 } [.int 8] [] sz 0 0
      (fun (r : Int32) (u : Unit) => r = 1)
      (fun u => []) := by
  refine mk_metI (cc := cX7_isOfLog) (maxL := 1) (ret := (some .boolean)) (by decide) rfl (Nat.le_of_ble_eq_true rfl) ?_
  intro p e s m below meth c A hx hb hr hml hts hown hlocks hin hP hK hN hD hA hS ls hl
  have hown : s.vm.findClass RX7 = some m.cls := hown
  have hl : lv_has ls 1 [(0, .int 8)] := hl
  refine lv_iload_n hx hb dX7_isOfLog_0 rfl (lv_at hl 0 rfl) ?_
  refine lv_bipush (v := 8) hx hb dX7_isOfLog_1 (by decide) ?_
  refine lv_icmp_lt (tgt := 16) hx hb dX7_isOfLog_3 (by decide) (fun c => absurd c (by decide)) (fun c => ?_)
  refine lv_iload_n hx hb dX7_isOfLog_6 rfl (lv_at hl 0 rfl) ?_
  refine lv_bipush (v := 64) hx hb dX7_isOfLog_7 (by decide) ?_
  refine lv_icmp_ge (tgt := 16) hx hb dX7_isOfLog_9 (by decide) (fun c => absurd c (by decide)) (fun c => ?_)
  refine lv_iconst (v := 1) hx hb dX7_isOfLog_12 (by decide) ?_
  refine lv_goto (tgt := 17) hx hb dX7_isOfLog_13 (by decide) ?_
  exact kr_z () hx hb hr rfl hlocks hP hD hS rfl dX7_isOfLog_17
set_option maxHeartbeats 4000000 in
set_option maxRecDepth 100000 in
theorem K54_X3_use (l : Launch) (D : va_G) (cB cI cZ : ClassId) (sz : Nat) (h0 : Nat) (h1 : Nat)  (g0 : Value) (g1 : Value) (g2 : Value) (g3 : Value) (g4 : Value) (g5 : Value) (g6 : Value) (g7 : Value) (g8 : Value) (g9 : Value) (g10 : Value) (g11 : Value) (g12 : Value)  :
    CtV l D cB cI cZ yX3_use wsX3_use { frames := 1, cells := 0, slots := 0, locals := 20 } [.ref h0, .int 8] [(h0, .inr (3, [g0, g1, .ref h1, g2, g3, g4, g5, g6, g7, g8, g9, g10, g11, g12])), (h1, .inl (cI, 64, .inl zf))] sz 0 0
      (fun (u : (Nat → Int32)) => True)
      (fun u => [(h0, .inr (3, [g0, g1, .ref h1, g2, g3, g4, g5, g6, g7, g8, g9, g10, g11, g12])), (h1, .inl (cI, 64, .inl u))]) := by
  refine mk_metV (cc := cX3_use) (maxL := 2) (ret := none) (by decide) rfl (Nat.le_of_ble_eq_true rfl) ?_
  intro p e s m below meth c A hx hb hr hml hts hown hlocks hin hP hK hN hD hA hS ls hl
  have hown : s.vm.findClass RX3 = some m.cls := hown
  have hl : lv_has ls 2 [(0, .ref h0), (1, .int 8)] := hl
  refine lv_iload_n hx hb dX3_use_0 rfl (lv_at hl 1 rfl) ?_
  refine kc_i (wr := [(h0, .inr (3, [g0, g1, .ref h1, g2, g3, g4, g5, g6, g7, g8, g9, g10, g11, g12])), (h1, .inl (cI, 64, .inl zf))]) (va_runSN (As := [.int 8]) (rest := []) ⟨hx, hb, hml, hown, hts⟩ (K55_X7_isOfLog l D cB cI cZ _ ) ⟨va_cnB 1 hts gX3_use_X7_isOfLog_n65 rfl rfl rfl (hN.m (a := RX3) (i := 65) (y := yX7_isOfLog) (by decide +kernel)) (hts _ wdX3_use_0) (by decide +kernel) ⟨Nat.le_of_ble_eq_true rfl, Nat.le_of_ble_eq_true rfl⟩, hts _ wdX3_use_1, trivial⟩ (pre_S (hP.sub [] rfl) hK hN (hD.sub [] (by decide) rfl)) rfl rfl hl.1 rfl (lv_room (Nat.le_of_ble_eq_true rfl)) dX3_use_1 ⟨Nat.le_of_ble_eq_true rfl, Nat.le_of_ble_eq_true rfl⟩) hP hD hS hA [] [0, 1] rfl rfl (by decide) (by decide) (fun r_1 u H locs hw hP hD hS => ?_)
  have k_2 := hw
  obtain rfl : r_1 = 1 := k_2
  have hP : va_P D vwCl [(h0, .inr (3, [g0, g1, .ref h1, g2, g3, g4, g5, g6, g7, g8, g9, g10, g11, g12])), (h1, .inl (cI, 64, .inl zf))] H := hP
  have hD : va_D A [(h0, .inr (3, [g0, g1, .ref h1, g2, g3, g4, g5, g6, g7, g8, g9, g10, g11, g12])), (h1, .inl (cI, 64, .inl zf))] := hD
  refine lv_if_eq (tgt := 14) hx hb dX3_use_4 (by decide) (fun c => absurd c (by decide)) (fun c => ?_)
  refine lv_aload_n hx hb dX3_use_7 rfl (lv_at hl 0 rfl) ?_
  refine va_get (D := D) (ci := 3) (v := .ref h1) (C := RX3) (T := TX3) (N := 14) hx hb hts inX3_use_X3 hown hK hP 0 rfl rfl 2 (by decide) (hts _ wdX3_use_2) (fun _ h9 => h9) rfl dX3_use_8 ?_
  refine lv_iload_n hx hb dX3_use_11 rfl (lv_at hl 1 rfl) ?_
  refine lv_iconst (v := 1) hx hb dX3_use_12 (by decide) ?_
  refine va_iast hx hb hK hP hD hS 1 1 rfl rfl (ti_in (a := 8) (by decide) (by decide) (by decide)) dX3_use_13 (fun H locs hP hD hS => ?_)
  obtain ⟨f_3, ef_3⟩ : ∃ g : Nat → Int32, g = upd zf (Int32.toNatClampNeg 8) 1 := ⟨_, rfl⟩
  rw [← ef_3] at hP hD
  have hP : va_P D vwCl [(h0, .inr (3, [g0, g1, .ref h1, g2, g3, g4, g5, g6, g7, g8, g9, g10, g11, g12])), (h1, .inl (cI, 64, .inl f_3))] H := hP
  have hD : va_D A [(h0, .inr (3, [g0, g1, .ref h1, g2, g3, g4, g5, g6, g7, g8, g9, g10, g11, g12])), (h1, .inl (cI, 64, .inl f_3))] := hD
  exact kr_v f_3 hx hb hr hlocks hP hD hS trivial dX3_use_14
set_option maxHeartbeats 4000000 in
set_option maxRecDepth 100000 in
theorem K56_X3_forgetTimes (l : Launch) (D : va_G) (cB cI cZ : ClassId) (sz : Nat) (h0 : Nat) (h1 : Nat)  (g0 : Value) (g1 : Value) (g2 : Value) (g3 : Value) (g4 : Value) (g5 : Value) (g6 : Value) (g7 : Value) (g8 : Value) (g9 : Value) (g10 : Value) (g11 : Value) (g12 : Value)  :
    CtV l D cB cI cZ yX3_forgetTimes wsX3_forgetTimes { frames := 1, cells := 0, slots := 0, locals := 20 } [.ref h0, .int 8] [(h0, .inr (3, [g0, g1, g2, .ref h1, g3, g4, g5, g6, g7, g8, g9, g10, g11, g12])), (h1, .inl (cZ, 64, .inl zf))] sz 0 0
      (fun (u : Unit) => True)
      (fun u => [(h0, .inr (3, [g0, g1, g2, .ref h1, g3, g4, g5, g6, g7, g8, g9, g10, g11, g12])), (h1, .inl (cZ, 64, .inl zf))]) := by
  refine mk_metV (cc := cX3_forgetTimes) (maxL := 2) (ret := none) (by decide) rfl (Nat.le_of_ble_eq_true rfl) ?_
  intro p e s m below meth c A hx hb hr hml hts hown hlocks hin hP hK hN hD hA hS ls hl
  have hown : s.vm.findClass RX3 = some m.cls := hown
  have hl : lv_has ls 2 [(0, .ref h0), (1, .int 8)] := hl
  refine lv_iload_n hx hb dX3_forgetTimes_0 rfl (lv_at hl 1 rfl) ?_
  refine kc_i (wr := [(h0, .inr (3, [g0, g1, g2, .ref h1, g3, g4, g5, g6, g7, g8, g9, g10, g11, g12])), (h1, .inl (cZ, 64, .inl zf))]) (va_runSN (As := [.int 8]) (rest := []) ⟨hx, hb, hml, hown, hts⟩ (K55_X7_isOfLog l D cB cI cZ _ ) ⟨va_cnB 1 hts gX3_forgetTimes_X7_isOfLog_n65 rfl rfl rfl (hN.m (a := RX3) (i := 65) (y := yX7_isOfLog) (by decide +kernel)) (hts _ wdX3_forgetTimes_0) (by decide +kernel) ⟨Nat.le_of_ble_eq_true rfl, Nat.le_of_ble_eq_true rfl⟩, hts _ wdX3_forgetTimes_1, trivial⟩ (pre_S (hP.sub [] rfl) hK hN (hD.sub [] (by decide) rfl)) rfl rfl hl.1 rfl (lv_room (Nat.le_of_ble_eq_true rfl)) dX3_forgetTimes_1 ⟨Nat.le_of_ble_eq_true rfl, Nat.le_of_ble_eq_true rfl⟩) hP hD hS hA [] [0, 1] rfl rfl (by decide) (by decide) (fun r_1 u H locs hw hP hD hS => ?_)
  have k_2 := hw
  obtain rfl : r_1 = 1 := k_2
  have hP : va_P D vwCl [(h0, .inr (3, [g0, g1, g2, .ref h1, g3, g4, g5, g6, g7, g8, g9, g10, g11, g12])), (h1, .inl (cZ, 64, .inl zf))] H := hP
  have hD : va_D A [(h0, .inr (3, [g0, g1, g2, .ref h1, g3, g4, g5, g6, g7, g8, g9, g10, g11, g12])), (h1, .inl (cZ, 64, .inl zf))] := hD
  refine lv_if_eq (tgt := 14) hx hb dX3_forgetTimes_4 (by decide) (fun c => absurd c (by decide)) (fun c => ?_)
  refine lv_aload_n hx hb dX3_forgetTimes_7 rfl (lv_at hl 0 rfl) ?_
  refine va_get (D := D) (ci := 3) (v := .ref h1) (C := RX3) (T := TX3) (N := 14) hx hb hts inX3_forgetTimes_X3 hown hK hP 0 rfl rfl 3 (by decide) (hts _ wdX3_forgetTimes_2) (fun _ h9 => h9) rfl dX3_forgetTimes_8 ?_
  refine lv_iload_n hx hb dX3_forgetTimes_11 rfl (lv_at hl 1 rfl) ?_
  refine lv_iconst (v := 0) hx hb dX3_forgetTimes_12 (by decide) ?_
  refine va_zast hx hb hK hP hD hS 1 2 rfl rfl (ti_in (a := 8) (by decide) (by decide) (by decide)) dX3_forgetTimes_13 (fun H locs hP hD hS => ?_)
  rw [zf_updZ] at hP hD
  have hP : va_P D vwCl [(h0, .inr (3, [g0, g1, g2, .ref h1, g3, g4, g5, g6, g7, g8, g9, g10, g11, g12])), (h1, .inl (cZ, 64, .inl zf))] H := hP
  have hD : va_D A [(h0, .inr (3, [g0, g1, g2, .ref h1, g3, g4, g5, g6, g7, g8, g9, g10, g11, g12])), (h1, .inl (cZ, 64, .inl zf))] := hD
  exact kr_v () hx hb hr hlocks hP hD hS trivial dX3_forgetTimes_14
set_option maxHeartbeats 4000000 in
set_option maxRecDepth 100000 in
theorem K58_X4_isWithin (l : Launch) (D : va_G) (cB cI cZ : ClassId) (sz : Nat) (h0 : Nat)    :
    CtI l D cB cI cZ yX4_isWithin wsX4_isWithin { frames := 0, cells := 0, slots := 0, locals := 0 } [.ref h0, .int 8192, .int 1024] [(h0, .inl (cB, 65536, .inl zf))] sz 0 0
      (fun (r : Int32) (u : Unit) => r = 1)
      (fun u => [(h0, .inl (cB, 65536, .inl zf))]) := by
  refine mk_metI (cc := cX4_isWithin) (maxL := 3) (ret := (some .boolean)) (by decide) rfl (Nat.le_of_ble_eq_true rfl) ?_
  intro p e s m below meth c A hx hb hr hml hts hown hlocks hin hP hK hN hD hA hS ls hl
  have hown : s.vm.findClass RX4 = some m.cls := hown
  have hl : lv_has ls 3 [(0, .ref h0), (1, .int 8192), (2, .int 1024)] := hl
  refine lv_iload_n hx hb dX4_isWithin_0 rfl (lv_at hl 1 rfl) ?_
  refine lv_if_lt (tgt := 26) hx hb dX4_isWithin_1 (by decide) (fun c => absurd c (by decide)) (fun c => ?_)
  refine lv_iload_n hx hb dX4_isWithin_4 rfl (lv_at hl 2 rfl) ?_
  refine lv_if_lt (tgt := 26) hx hb dX4_isWithin_5 (by decide) (fun c => absurd c (by decide)) (fun c => ?_)
  refine lv_iload_n hx hb dX4_isWithin_8 rfl (lv_at hl 2 rfl) ?_
  refine lv_aload_n hx hb dX4_isWithin_9 rfl (lv_at hl 0 rfl) ?_
  refine va_alen (v := 65536) hx hb hK hP 0 0 rfl rfl (show Int32.ofNat 65536 = 65536 by decide) dX4_isWithin_10 ?_
  refine lv_icmp_gt (tgt := 26) hx hb dX4_isWithin_11 (by decide) (fun c => absurd c (by decide)) (fun c => ?_)
  refine lv_iload_n hx hb dX4_isWithin_14 rfl (lv_at hl 1 rfl) ?_
  refine lv_aload_n hx hb dX4_isWithin_15 rfl (lv_at hl 0 rfl) ?_
  refine va_alen (v := 65536) hx hb hK hP 0 0 rfl rfl (show Int32.ofNat 65536 = 65536 by decide) dX4_isWithin_16 ?_
  refine lv_iload_n hx hb dX4_isWithin_17 rfl (lv_at hl 2 rfl) ?_
  refine lv_isub hx hb dX4_isWithin_18 ?_
  refine lv_topi (fun z_1 ez_1 => ?_)
  obtain rfl : z_1 = 64512 := ez_1.trans (by decide)
  refine lv_icmp_gt (tgt := 26) hx hb dX4_isWithin_19 (by decide) (fun c => absurd c (by decide)) (fun c => ?_)
  refine lv_iconst (v := 1) hx hb dX4_isWithin_22 (by decide) ?_
  refine lv_goto (tgt := 27) hx hb dX4_isWithin_23 (by decide) ?_
  exact kr_z () hx hb hr rfl hlocks hP hD hS rfl dX4_isWithin_27
set_option maxHeartbeats 4000000 in
set_option maxRecDepth 100000 in
theorem K57_X4_clear (l : Launch) (D : va_G) (cB cI cZ : ClassId) (sz : Nat) (h0 : Nat)    :
    CtV l D cB cI cZ yX4_clear wsX4_clear { frames := 1, cells := 0, slots := 0, locals := 22 } [.ref h0, .int 8192, .int 1024] [(h0, .inl (cB, 65536, .inl zf))] sz 0 0
      (fun (u : Unit) => True)
      (fun u => [(h0, .inl (cB, 65536, .inl zf))]) := by
  refine mk_metV (cc := cX4_clear) (maxL := 4) (ret := none) (by decide) rfl (Nat.le_of_ble_eq_true rfl) ?_
  intro p e s m below meth c A hx hb hr hml hts hown hlocks hin hP hK hN hD hA hS ls hl
  have hown : s.vm.findClass RX4 = some m.cls := hown
  have hl : lv_has ls 4 [(0, .ref h0), (1, .int 8192), (2, .int 1024)] := hl
  refine lv_aload_n hx hb dX4_clear_0 rfl (lv_at hl 0 rfl) ?_
  refine lv_iload_n hx hb dX4_clear_1 rfl (lv_at hl 1 rfl) ?_
  refine lv_iload_n hx hb dX4_clear_2 rfl (lv_at hl 2 rfl) ?_
  refine kc_i (wr := []) (va_runS (As := [.ref h0, .int 8192, .int 1024]) (rest := []) ⟨hx, hb, hml, hown, hts⟩ (K58_X4_isWithin l D cB cI cZ _ h0) (va_cwS 3 hts gX4_clear_X4_isWithin rfl rfl rfl (by decide +kernel) ⟨Nat.le_of_ble_eq_true rfl, Nat.le_of_ble_eq_true rfl⟩) (pre_S (hP.sub [0] rfl) hK hN (hD.sub [0] (by decide) rfl)) rfl rfl hl.1 rfl (lv_room (Nat.le_of_ble_eq_true rfl)) dX4_clear_3 ⟨Nat.le_of_ble_eq_true rfl, Nat.le_of_ble_eq_true rfl⟩) hP hD hS hA [0] [] rfl rfl (by decide) (by decide) (fun r_1 u H locs hw hP hD hS => ?_)
  have k_2 := hw
  obtain rfl : r_1 = 1 := k_2
  have hP : va_P D vwCl [(h0, .inl (cB, 65536, .inl zf))] H := hP
  have hD : va_D A [(h0, .inl (cB, 65536, .inl zf))] := hD
  refine lv_if_ne (tgt := 10) hx hb dX4_clear_6 (by decide) (fun c => ?_) (fun c => absurd c (by decide))
  refine lv_iload_n hx hb dX4_clear_10 rfl (lv_at hl 1 rfl) ?_
  refine lv_istore_n (lv' := [(3, .int 8192), (0, .ref h0), (1, .int 8192), (2, .int 1024)]) hx hb dX4_clear_11 rfl hl (by decide) rfl (fun ls hl => ?_)
  refine kl (α := Int32) (fun n a H locs ls => (0 ≤ Int32.toInt a) ∧ (Int32.toInt a ≤ 65536) ∧ (65536 - Int32.toInt a < ((n : Nat) : Int)) ∧ va_P D vwCl [(h0, .inl (cB, 65536, .inl zf))] H ∧ va_D A [(h0, .inl (cB, 65536, .inl zf))] ∧ va_S A s.heap H locs ∧ lv_has ls 4 [(3, .int a), (0, .ref h0), (1, .int 8192), (2, .int 1024)]) 65537 8192 ⟨(by show 0 ≤ Int32.toInt 8192; decide), (by show Int32.toInt 8192 ≤ 65536; decide), (by show 65536 - Int32.toInt 8192 < ((65537 : Nat) : Int); have := (by decide : Int32.toInt 8192 = 8192); omega), hP, hD, hS, hl⟩ (fun a H locs ls h => ?_) (fun n_4 ih_5 a H locs ls h => ?_)
  · obtain ⟨j_6, j_7, j_8, _⟩ := h
    omega
  obtain ⟨v_3, rfl⟩ : ∃ z, z = a := ⟨_, rfl⟩
  obtain ⟨j_6, j_7, j_8, hP, hD, hS, hl⟩ := h
  have j_6 : 0 ≤ Int32.toInt v_3 := j_6
  have j_7 : Int32.toInt v_3 ≤ 65536 := j_7
  have j_8 : 65536 - Int32.toInt v_3 < ((n_4 + 1 : Nat) : Int) := j_8
  have hP : va_P D vwCl [(h0, .inl (cB, 65536, .inl zf))] H := hP
  have hD : va_D A [(h0, .inl (cB, 65536, .inl zf))] := hD
  have hl : lv_has ls 4 [(3, .int v_3), (0, .ref h0), (1, .int 8192), (2, .int 1024)] := hl
  refine lv_iload_n hx hb dX4_clear_12 rfl (lv_at hl 0 rfl) ?_
  refine lv_iload_n hx hb dX4_clear_13 rfl (lv_at hl 2 rfl) ?_
  refine lv_iload_n hx hb dX4_clear_14 rfl (lv_at hl 3 rfl) ?_
  refine lv_iadd hx hb dX4_clear_15 ?_
  refine lv_topi (fun z_9 ez_9 => ?_)
  obtain rfl : z_9 = 9216 := ez_9.trans (by decide)
  refine lv_icmp_ge (tgt := 29) hx hb dX4_clear_16 (by decide) (fun c => ?_) (fun c => ?_)
  · skip
    have k_10 := (ti_le (x := 9216) (y := v_3) (a := 9216) (b := v_3.toInt) (by decide) rfl).mp c
    exact kr_v () hx hb hr hlocks hP hD hS trivial dX4_clear_29
  · skip
    have k_11 := mt (ti_le (x := 9216) (y := v_3) (a := 9216) (b := v_3.toInt) (by decide) rfl).mpr c
    refine lv_aload_n hx hb dX4_clear_19 rfl (lv_at hl 1 rfl) ?_
    refine lv_iload_n hx hb dX4_clear_20 rfl (lv_at hl 0 rfl) ?_
    refine lv_iconst (v := 0) hx hb dX4_clear_21 (by decide) ?_
    refine va_bast hx hb hK hP hD hS 0 0 rfl rfl (ti_in (a := v_3.toInt) rfl (by omega) (by omega)) dX4_clear_22 (fun H locs hP hD hS => ?_)
    rw [zf_updB] at hP hD
    have hP : va_P D vwCl [(h0, .inl (cB, 65536, .inl zf))] H := hP
    have hD : va_D A [(h0, .inl (cB, 65536, .inl zf))] := hD
    obtain ⟨x_12, ex_12⟩ : ∃ y : Int32, y = v_3 + 1 := ⟨_, rfl⟩
    have tx_12 : x_12.toInt = v_3.toInt + 1 := by rw [ex_12]; exact ti_add rfl (by decide) (by omega) (by omega)
    refine lv_iinc (v := x_12) (lv' := [(3, .int x_12), (0, .ref h0), (1, .int 8192), (2, .int 1024)]) hx hb dX4_clear_23 hl (k := 0) rfl (by rw [ex_12]; rfl) (by decide) rfl (fun ls hl => ?_)
    refine lv_goto (tgt := 12) hx hb dX4_clear_26 (by decide) ?_
    exact ih_5 x_12 _ _ _ ⟨(by show 0 ≤ Int32.toInt x_12; omega), (by show Int32.toInt x_12 ≤ 65536; omega), (by show 65536 - Int32.toInt x_12 < ((n_4 : Nat) : Int); omega), hP, hD, hS, hl⟩
set_option maxHeartbeats 4000000 in
set_option maxRecDepth 100000 in
theorem K60_X4_isWithin (l : Launch) (D : va_G) (cB cI cZ : ClassId) (sz : Nat) (h0 : Nat)  (p0 : Int32) (i_p0 : 0 ≤ p0.toInt ∧ p0.toInt ≤ 65535) :
    CtI l D cB cI cZ yX4_isWithin wsX4_isWithin { frames := 0, cells := 0, slots := 0, locals := 0 } [.ref h0, .int p0, .int 1] [(h0, .inl (cB, 65536, .inl zf))] sz 0 0
      (fun (r : Int32) (u : Unit) => r = 1)
      (fun u => [(h0, .inl (cB, 65536, .inl zf))]) := by
  refine mk_metI (cc := cX4_isWithin) (maxL := 3) (ret := (some .boolean)) (by decide) rfl (Nat.le_of_ble_eq_true rfl) ?_
  intro p e s m below meth c A hx hb hr hml hts hown hlocks hin hP hK hN hD hA hS ls hl
  have hown : s.vm.findClass RX4 = some m.cls := hown
  have hl : lv_has ls 3 [(0, .ref h0), (1, .int p0), (2, .int 1)] := hl
  refine lv_iload_n hx hb dX4_isWithin_0 rfl (lv_at hl 1 rfl) ?_
  refine lv_if_lt (tgt := 26) hx hb dX4_isWithin_1 (by decide) (fun c => absurd ((ti_lt (x := p0) (y := 0) (a := p0.toInt) (b := 0) rfl (by decide)).mp c) (by omega)) (fun c => ?_)
  refine lv_iload_n hx hb dX4_isWithin_4 rfl (lv_at hl 2 rfl) ?_
  refine lv_if_lt (tgt := 26) hx hb dX4_isWithin_5 (by decide) (fun c => absurd c (by decide)) (fun c => ?_)
  refine lv_iload_n hx hb dX4_isWithin_8 rfl (lv_at hl 2 rfl) ?_
  refine lv_aload_n hx hb dX4_isWithin_9 rfl (lv_at hl 0 rfl) ?_
  refine va_alen (v := 65536) hx hb hK hP 0 0 rfl rfl (show Int32.ofNat 65536 = 65536 by decide) dX4_isWithin_10 ?_
  refine lv_icmp_gt (tgt := 26) hx hb dX4_isWithin_11 (by decide) (fun c => absurd c (by decide)) (fun c => ?_)
  refine lv_iload_n hx hb dX4_isWithin_14 rfl (lv_at hl 1 rfl) ?_
  refine lv_aload_n hx hb dX4_isWithin_15 rfl (lv_at hl 0 rfl) ?_
  refine va_alen (v := 65536) hx hb hK hP 0 0 rfl rfl (show Int32.ofNat 65536 = 65536 by decide) dX4_isWithin_16 ?_
  refine lv_iload_n hx hb dX4_isWithin_17 rfl (lv_at hl 2 rfl) ?_
  refine lv_isub hx hb dX4_isWithin_18 ?_
  refine lv_topi (fun z_1 ez_1 => ?_)
  obtain rfl : z_1 = 65535 := ez_1.trans (by decide)
  refine lv_icmp_gt (tgt := 26) hx hb dX4_isWithin_19 (by decide) (fun c => absurd ((ti_lt (x := 65535) (y := p0) (a := 65535) (b := p0.toInt) (by decide) rfl).mp c) (by omega)) (fun c => ?_)
  refine lv_iconst (v := 1) hx hb dX4_isWithin_22 (by decide) ?_
  refine lv_goto (tgt := 27) hx hb dX4_isWithin_23 (by decide) ?_
  exact kr_z () hx hb hr rfl hlocks hP hD hS rfl dX4_isWithin_27
set_option maxHeartbeats 4000000 in
set_option maxRecDepth 100000 in
theorem K59_X4_setNumber (l : Launch) (D : va_G) (cB cI cZ : ClassId) (sz : Nat) (h0 : Nat)  (p0 : Int32) (p1 : Int32) (i_p0 : 0 ≤ p0.toInt ∧ p0.toInt ≤ 65535) :
    CtV l D cB cI cZ yX4_setNumber wsX4_setNumber { frames := 1, cells := 0, slots := 0, locals := 22 } [.ref h0, .int p0, .int 1, .int p1] [(h0, .inl (cB, 65536, .inl zf))] sz 0 0
      (fun (u : (Nat → Int32)) => FB u ∧ (u = upd zf (Int32.toNatClampNeg p0) (vp_nar .byte (Int8.toInt32 (Int32.toInt8 p1)))))
      (fun u => [(h0, .inl (cB, 65536, .inl u))]) := by
  refine mk_metV (cc := cX4_setNumber) (maxL := 6) (ret := none) (by decide) rfl (Nat.le_of_ble_eq_true rfl) ?_
  intro p e s m below meth c A hx hb hr hml hts hown hlocks hin hP hK hN hD hA hS ls hl
  have hown : s.vm.findClass RX4 = some m.cls := hown
  have hl : lv_has ls 6 [(0, .ref h0), (1, .int p0), (2, .int 1), (3, .int p1)] := hl
  refine lv_aload_n hx hb dX4_setNumber_0 rfl (lv_at hl 0 rfl) ?_
  refine lv_iload_n hx hb dX4_setNumber_1 rfl (lv_at hl 1 rfl) ?_
  refine lv_iload_n hx hb dX4_setNumber_2 rfl (lv_at hl 2 rfl) ?_
  refine kc_i (wr := []) (va_runS (As := [.ref h0, .int p0, .int 1]) (rest := []) ⟨hx, hb, hml, hown, hts⟩ (K60_X4_isWithin l D cB cI cZ _ h0 p0 ⟨by omega, by omega⟩) (va_cwS 3 hts gX4_setNumber_X4_isWithin rfl rfl rfl (by decide +kernel) ⟨Nat.le_of_ble_eq_true rfl, Nat.le_of_ble_eq_true rfl⟩) (pre_S (hP.sub [0] rfl) hK hN (hD.sub [0] (by decide) rfl)) rfl rfl hl.1 rfl (lv_room (Nat.le_of_ble_eq_true rfl)) dX4_setNumber_3 ⟨Nat.le_of_ble_eq_true rfl, Nat.le_of_ble_eq_true rfl⟩) hP hD hS hA [0] [] rfl rfl (by decide) (by decide) (fun r_1 u H locs hw hP hD hS => ?_)
  have k_2 := hw
  obtain rfl : r_1 = 1 := k_2
  have hP : va_P D vwCl [(h0, .inl (cB, 65536, .inl zf))] H := hP
  have hD : va_D A [(h0, .inl (cB, 65536, .inl zf))] := hD
  refine lv_if_ne (tgt := 10) hx hb dX4_setNumber_6 (by decide) (fun c => ?_) (fun c => absurd c (by decide))
  refine lv_iload_n hx hb dX4_setNumber_10 rfl (lv_at hl 3 rfl) ?_
  refine lv_istore (lv' := [(4, .int p1), (0, .ref h0), (1, .int p0), (2, .int 1), (3, .int p1)]) hx hb dX4_setNumber_11 hl (by decide) rfl (fun ls hl => ?_)
  refine lv_iload_n hx hb dX4_setNumber_13 rfl (lv_at hl 2 rfl) ?_
  refine lv_iload_n hx hb dX4_setNumber_14 rfl (lv_at hl 3 rfl) ?_
  refine lv_iadd hx hb dX4_setNumber_15 ?_
  refine lv_topi (fun x_3 ex_3 => ?_)
  have tx_3 : x_3.toInt = p0.toInt + 1 := by rw [ex_3]; exact ti_add rfl (by decide) (by omega) (by omega)
  refine lv_iconst (v := 1) hx hb dX4_setNumber_16 (by decide) ?_
  refine lv_isub hx hb dX4_setNumber_17 ?_
  refine lv_topi (fun x_4 ex_4 => ?_)
  have tx_4 : x_4.toInt = x_3.toInt - 1 := by rw [ex_4]; exact ti_sub rfl (by decide) (by omega) (by omega)
  refine lv_istore (lv' := [(5, .int x_4), (4, .int p1), (0, .ref h0), (1, .int p0), (2, .int 1), (3, .int p1)]) hx hb dX4_setNumber_18 hl (by decide) rfl (fun ls hl => ?_)
  refine lv_iload hx hb dX4_setNumber_20 (lv_at hl 0 rfl) ?_
  refine lv_iload_n hx hb dX4_setNumber_22 rfl (lv_at hl 3 rfl) ?_
  refine lv_icmp_lt (tgt := 46) hx hb dX4_setNumber_23 (by decide) (fun c => absurd ((ti_lt (x := x_4) (y := p0) (a := x_4.toInt) (b := p0.toInt) rfl rfl).mp c) (by omega)) (fun c => ?_)
  refine lv_aload_n hx hb dX4_setNumber_26 rfl (lv_at hl 2 rfl) ?_
  refine lv_iload hx hb dX4_setNumber_27 (lv_at hl 0 rfl) ?_
  refine lv_iload hx hb dX4_setNumber_29 (lv_at hl 1 rfl) ?_
  refine lv_i2b hx hb dX4_setNumber_31 rfl ?_
  refine lv_topi (fun x_5 ex_5 => ?_)
  refine va_bast hx hb hK hP hD hS 0 0 rfl rfl (ti_in (a := x_4.toInt) rfl (by omega) (by omega)) dX4_setNumber_32 (fun H locs hP hD hS => ?_)
  obtain ⟨f_6, ef_6⟩ : ∃ g : Nat → Int32, g = upd zf (Int32.toNatClampNeg x_4) (vp_nar .byte x_5) := ⟨_, rfl⟩
  rw [← ef_6] at hP hD
  have bf_6 : FB f_6 := by rw [ef_6]; exact FB_upd FB_zf _ _
  have hP : va_P D vwCl [(h0, .inl (cB, 65536, .inl f_6))] H := hP
  have hD : va_D A [(h0, .inl (cB, 65536, .inl f_6))] := hD
  refine lv_iload hx hb dX4_setNumber_33 (lv_at hl 1 rfl) ?_
  refine lv_bipush (v := 8) hx hb dX4_setNumber_35 (by decide) ?_
  refine lv_iushr hx hb dX4_setNumber_37 rfl ?_
  refine lv_topi (fun x_7 ex_7 => ?_)
  refine lv_istore (lv' := [(4, .int x_7), (5, .int x_4), (0, .ref h0), (1, .int p0), (2, .int 1), (3, .int p1)]) hx hb dX4_setNumber_38 hl (by decide) rfl (fun ls hl => ?_)
  obtain ⟨x_8, ex_8⟩ : ∃ y : Int32, y = x_4 + (-1) := ⟨_, rfl⟩
  have tx_8 : x_8.toInt = x_4.toInt + (-1) := by rw [ex_8]; exact ti_add rfl (by decide) (by omega) (by omega)
  refine lv_iinc (v := x_8) (lv' := [(5, .int x_8), (4, .int x_7), (0, .ref h0), (1, .int p0), (2, .int 1), (3, .int p1)]) hx hb dX4_setNumber_40 hl (k := 1) rfl (by rw [ex_8]; rfl) (by decide) rfl (fun ls hl => ?_)
  refine lv_goto (tgt := 20) hx hb dX4_setNumber_43 (by decide) ?_
  refine lv_iload hx hb dX4_setNumber_20 (lv_at hl 0 rfl) ?_
  refine lv_iload_n hx hb dX4_setNumber_22 rfl (lv_at hl 3 rfl) ?_
  refine lv_icmp_lt (tgt := 46) hx hb dX4_setNumber_23 (by decide) (fun c => ?_) (fun c => absurd ((ti_lt (x := x_8) (y := p0) (a := x_8.toInt) (b := p0.toInt) rfl rfl).mpr (by omega)) c)
  exact kr_v f_6 hx hb hr hlocks hP hD hS ⟨bf_6, (by rw [ef_6, ex_5, show x_4 = p0 from ti_inj (a := p0.toInt) rfl (by omega)])⟩ dX4_setNumber_46
set_option maxHeartbeats 4000000 in
set_option maxRecDepth 100000 in
theorem K62_X4_isWithin (l : Launch) (D : va_G) (cB cI cZ : ClassId) (sz : Nat) (h0 : Nat)  (p0 : Int32) (f0 : Nat → Int32) (i_p0 : 0 ≤ p0.toInt ∧ p0.toInt ≤ 65535) (b_f0 : FB f0) :
    CtI l D cB cI cZ yX4_isWithin wsX4_isWithin { frames := 0, cells := 0, slots := 0, locals := 0 } [.ref h0, .int p0, .int 1] [(h0, .inl (cB, 65536, .inl f0))] sz 0 0
      (fun (r : Int32) (u : Unit) => r = 1)
      (fun u => [(h0, .inl (cB, 65536, .inl f0))]) := by
  refine mk_metI (cc := cX4_isWithin) (maxL := 3) (ret := (some .boolean)) (by decide) rfl (Nat.le_of_ble_eq_true rfl) ?_
  intro p e s m below meth c A hx hb hr hml hts hown hlocks hin hP hK hN hD hA hS ls hl
  have hown : s.vm.findClass RX4 = some m.cls := hown
  have hl : lv_has ls 3 [(0, .ref h0), (1, .int p0), (2, .int 1)] := hl
  refine lv_iload_n hx hb dX4_isWithin_0 rfl (lv_at hl 1 rfl) ?_
  refine lv_if_lt (tgt := 26) hx hb dX4_isWithin_1 (by decide) (fun c => absurd ((ti_lt (x := p0) (y := 0) (a := p0.toInt) (b := 0) rfl (by decide)).mp c) (by omega)) (fun c => ?_)
  refine lv_iload_n hx hb dX4_isWithin_4 rfl (lv_at hl 2 rfl) ?_
  refine lv_if_lt (tgt := 26) hx hb dX4_isWithin_5 (by decide) (fun c => absurd c (by decide)) (fun c => ?_)
  refine lv_iload_n hx hb dX4_isWithin_8 rfl (lv_at hl 2 rfl) ?_
  refine lv_aload_n hx hb dX4_isWithin_9 rfl (lv_at hl 0 rfl) ?_
  refine va_alen (v := 65536) hx hb hK hP 0 0 rfl rfl (show Int32.ofNat 65536 = 65536 by decide) dX4_isWithin_10 ?_
  refine lv_icmp_gt (tgt := 26) hx hb dX4_isWithin_11 (by decide) (fun c => absurd c (by decide)) (fun c => ?_)
  refine lv_iload_n hx hb dX4_isWithin_14 rfl (lv_at hl 1 rfl) ?_
  refine lv_aload_n hx hb dX4_isWithin_15 rfl (lv_at hl 0 rfl) ?_
  refine va_alen (v := 65536) hx hb hK hP 0 0 rfl rfl (show Int32.ofNat 65536 = 65536 by decide) dX4_isWithin_16 ?_
  refine lv_iload_n hx hb dX4_isWithin_17 rfl (lv_at hl 2 rfl) ?_
  refine lv_isub hx hb dX4_isWithin_18 ?_
  refine lv_topi (fun z_1 ez_1 => ?_)
  obtain rfl : z_1 = 65535 := ez_1.trans (by decide)
  refine lv_icmp_gt (tgt := 26) hx hb dX4_isWithin_19 (by decide) (fun c => absurd ((ti_lt (x := 65535) (y := p0) (a := 65535) (b := p0.toInt) (by decide) rfl).mp c) (by omega)) (fun c => ?_)
  refine lv_iconst (v := 1) hx hb dX4_isWithin_22 (by decide) ?_
  refine lv_goto (tgt := 27) hx hb dX4_isWithin_23 (by decide) ?_
  exact kr_z () hx hb hr rfl hlocks hP hD hS rfl dX4_isWithin_27
set_option maxHeartbeats 4000000 in
set_option maxRecDepth 100000 in
theorem K61_X4_setNumber (l : Launch) (D : va_G) (cB cI cZ : ClassId) (sz : Nat) (h0 : Nat)  (p0 : Int32) (p1 : Int32) (f0 : Nat → Int32) (i_p0 : 0 ≤ p0.toInt ∧ p0.toInt ≤ 65535) (b_f0 : FB f0) :
    CtV l D cB cI cZ yX4_setNumber wsX4_setNumber { frames := 1, cells := 0, slots := 0, locals := 22 } [.ref h0, .int p0, .int 1, .int p1] [(h0, .inl (cB, 65536, .inl f0))] sz 0 0
      (fun (u : (Nat → Int32)) => FB u)
      (fun u => [(h0, .inl (cB, 65536, .inl u))]) := by
  refine mk_metV (cc := cX4_setNumber) (maxL := 6) (ret := none) (by decide) rfl (Nat.le_of_ble_eq_true rfl) ?_
  intro p e s m below meth c A hx hb hr hml hts hown hlocks hin hP hK hN hD hA hS ls hl
  have hown : s.vm.findClass RX4 = some m.cls := hown
  have hl : lv_has ls 6 [(0, .ref h0), (1, .int p0), (2, .int 1), (3, .int p1)] := hl
  refine lv_aload_n hx hb dX4_setNumber_0 rfl (lv_at hl 0 rfl) ?_
  refine lv_iload_n hx hb dX4_setNumber_1 rfl (lv_at hl 1 rfl) ?_
  refine lv_iload_n hx hb dX4_setNumber_2 rfl (lv_at hl 2 rfl) ?_
  refine kc_i (wr := []) (va_runS (As := [.ref h0, .int p0, .int 1]) (rest := []) ⟨hx, hb, hml, hown, hts⟩ (K62_X4_isWithin l D cB cI cZ _ h0 p0 f0 ⟨by omega, by omega⟩ b_f0) (va_cwS 3 hts gX4_setNumber_X4_isWithin rfl rfl rfl (by decide +kernel) ⟨Nat.le_of_ble_eq_true rfl, Nat.le_of_ble_eq_true rfl⟩) (pre_S (hP.sub [0] rfl) hK hN (hD.sub [0] (by decide) rfl)) rfl rfl hl.1 rfl (lv_room (Nat.le_of_ble_eq_true rfl)) dX4_setNumber_3 ⟨Nat.le_of_ble_eq_true rfl, Nat.le_of_ble_eq_true rfl⟩) hP hD hS hA [0] [] rfl rfl (by decide) (by decide) (fun r_1 u H locs hw hP hD hS => ?_)
  have k_2 := hw
  obtain rfl : r_1 = 1 := k_2
  have hP : va_P D vwCl [(h0, .inl (cB, 65536, .inl f0))] H := hP
  have hD : va_D A [(h0, .inl (cB, 65536, .inl f0))] := hD
  refine lv_if_ne (tgt := 10) hx hb dX4_setNumber_6 (by decide) (fun c => ?_) (fun c => absurd c (by decide))
  refine lv_iload_n hx hb dX4_setNumber_10 rfl (lv_at hl 3 rfl) ?_
  refine lv_istore (lv' := [(4, .int p1), (0, .ref h0), (1, .int p0), (2, .int 1), (3, .int p1)]) hx hb dX4_setNumber_11 hl (by decide) rfl (fun ls hl => ?_)
  refine lv_iload_n hx hb dX4_setNumber_13 rfl (lv_at hl 2 rfl) ?_
  refine lv_iload_n hx hb dX4_setNumber_14 rfl (lv_at hl 3 rfl) ?_
  refine lv_iadd hx hb dX4_setNumber_15 ?_
  refine lv_topi (fun x_3 ex_3 => ?_)
  have tx_3 : x_3.toInt = p0.toInt + 1 := by rw [ex_3]; exact ti_add rfl (by decide) (by omega) (by omega)
  refine lv_iconst (v := 1) hx hb dX4_setNumber_16 (by decide) ?_
  refine lv_isub hx hb dX4_setNumber_17 ?_
  refine lv_topi (fun x_4 ex_4 => ?_)
  have tx_4 : x_4.toInt = x_3.toInt - 1 := by rw [ex_4]; exact ti_sub rfl (by decide) (by omega) (by omega)
  refine lv_istore (lv' := [(5, .int x_4), (4, .int p1), (0, .ref h0), (1, .int p0), (2, .int 1), (3, .int p1)]) hx hb dX4_setNumber_18 hl (by decide) rfl (fun ls hl => ?_)
  refine lv_iload hx hb dX4_setNumber_20 (lv_at hl 0 rfl) ?_
  refine lv_iload_n hx hb dX4_setNumber_22 rfl (lv_at hl 3 rfl) ?_
  refine lv_icmp_lt (tgt := 46) hx hb dX4_setNumber_23 (by decide) (fun c => absurd ((ti_lt (x := x_4) (y := p0) (a := x_4.toInt) (b := p0.toInt) rfl rfl).mp c) (by omega)) (fun c => ?_)
  refine lv_aload_n hx hb dX4_setNumber_26 rfl (lv_at hl 2 rfl) ?_
  refine lv_iload hx hb dX4_setNumber_27 (lv_at hl 0 rfl) ?_
  refine lv_iload hx hb dX4_setNumber_29 (lv_at hl 1 rfl) ?_
  refine lv_i2b hx hb dX4_setNumber_31 rfl ?_
  refine lv_topi (fun x_5 ex_5 => ?_)
  refine va_bast hx hb hK hP hD hS 0 0 rfl rfl (ti_in (a := x_4.toInt) rfl (by omega) (by omega)) dX4_setNumber_32 (fun H locs hP hD hS => ?_)
  obtain ⟨f_6, ef_6⟩ : ∃ g : Nat → Int32, g = upd f0 (Int32.toNatClampNeg x_4) (vp_nar .byte x_5) := ⟨_, rfl⟩
  rw [← ef_6] at hP hD
  have bf_6 : FB f_6 := by rw [ef_6]; exact FB_upd b_f0 _ _
  have hP : va_P D vwCl [(h0, .inl (cB, 65536, .inl f_6))] H := hP
  have hD : va_D A [(h0, .inl (cB, 65536, .inl f_6))] := hD
  refine lv_iload hx hb dX4_setNumber_33 (lv_at hl 1 rfl) ?_
  refine lv_bipush (v := 8) hx hb dX4_setNumber_35 (by decide) ?_
  refine lv_iushr hx hb dX4_setNumber_37 rfl ?_
  refine lv_topi (fun x_7 ex_7 => ?_)
  refine lv_istore (lv' := [(4, .int x_7), (5, .int x_4), (0, .ref h0), (1, .int p0), (2, .int 1), (3, .int p1)]) hx hb dX4_setNumber_38 hl (by decide) rfl (fun ls hl => ?_)
  obtain ⟨x_8, ex_8⟩ : ∃ y : Int32, y = x_4 + (-1) := ⟨_, rfl⟩
  have tx_8 : x_8.toInt = x_4.toInt + (-1) := by rw [ex_8]; exact ti_add rfl (by decide) (by omega) (by omega)
  refine lv_iinc (v := x_8) (lv' := [(5, .int x_8), (4, .int x_7), (0, .ref h0), (1, .int p0), (2, .int 1), (3, .int p1)]) hx hb dX4_setNumber_40 hl (k := 1) rfl (by rw [ex_8]; rfl) (by decide) rfl (fun ls hl => ?_)
  refine lv_goto (tgt := 20) hx hb dX4_setNumber_43 (by decide) ?_
  refine lv_iload hx hb dX4_setNumber_20 (lv_at hl 0 rfl) ?_
  refine lv_iload_n hx hb dX4_setNumber_22 rfl (lv_at hl 3 rfl) ?_
  refine lv_icmp_lt (tgt := 46) hx hb dX4_setNumber_23 (by decide) (fun c => ?_) (fun c => absurd ((ti_lt (x := x_8) (y := p0) (a := x_8.toInt) (b := p0.toInt) rfl rfl).mpr (by omega)) c)
  exact kr_v f_6 hx hb hr hlocks hP hD hS bf_6 dX4_setNumber_46
set_option maxHeartbeats 4000000 in
set_option maxRecDepth 100000 in
theorem K64_X4_isWithin (l : Launch) (D : va_G) (cB cI cZ : ClassId) (sz : Nat) (h0 : Nat)  (p0 : Int32) (f0 : Nat → Int32) (i_p0 : 0 ≤ p0.toInt ∧ p0.toInt ≤ 65532) (b_f0 : FB f0) :
    CtI l D cB cI cZ yX4_isWithin wsX4_isWithin { frames := 0, cells := 0, slots := 0, locals := 0 } [.ref h0, .int p0, .int 4] [(h0, .inl (cB, 65536, .inl f0))] sz 0 0
      (fun (r : Int32) (u : Unit) => r = 1)
      (fun u => [(h0, .inl (cB, 65536, .inl f0))]) := by
  refine mk_metI (cc := cX4_isWithin) (maxL := 3) (ret := (some .boolean)) (by decide) rfl (Nat.le_of_ble_eq_true rfl) ?_
  intro p e s m below meth c A hx hb hr hml hts hown hlocks hin hP hK hN hD hA hS ls hl
  have hown : s.vm.findClass RX4 = some m.cls := hown
  have hl : lv_has ls 3 [(0, .ref h0), (1, .int p0), (2, .int 4)] := hl
  refine lv_iload_n hx hb dX4_isWithin_0 rfl (lv_at hl 1 rfl) ?_
  refine lv_if_lt (tgt := 26) hx hb dX4_isWithin_1 (by decide) (fun c => absurd ((ti_lt (x := p0) (y := 0) (a := p0.toInt) (b := 0) rfl (by decide)).mp c) (by omega)) (fun c => ?_)
  refine lv_iload_n hx hb dX4_isWithin_4 rfl (lv_at hl 2 rfl) ?_
  refine lv_if_lt (tgt := 26) hx hb dX4_isWithin_5 (by decide) (fun c => absurd c (by decide)) (fun c => ?_)
  refine lv_iload_n hx hb dX4_isWithin_8 rfl (lv_at hl 2 rfl) ?_
  refine lv_aload_n hx hb dX4_isWithin_9 rfl (lv_at hl 0 rfl) ?_
  refine va_alen (v := 65536) hx hb hK hP 0 0 rfl rfl (show Int32.ofNat 65536 = 65536 by decide) dX4_isWithin_10 ?_
  refine lv_icmp_gt (tgt := 26) hx hb dX4_isWithin_11 (by decide) (fun c => absurd c (by decide)) (fun c => ?_)
  refine lv_iload_n hx hb dX4_isWithin_14 rfl (lv_at hl 1 rfl) ?_
  refine lv_aload_n hx hb dX4_isWithin_15 rfl (lv_at hl 0 rfl) ?_
  refine va_alen (v := 65536) hx hb hK hP 0 0 rfl rfl (show Int32.ofNat 65536 = 65536 by decide) dX4_isWithin_16 ?_
  refine lv_iload_n hx hb dX4_isWithin_17 rfl (lv_at hl 2 rfl) ?_
  refine lv_isub hx hb dX4_isWithin_18 ?_
  refine lv_topi (fun z_1 ez_1 => ?_)
  obtain rfl : z_1 = 65532 := ez_1.trans (by decide)
  refine lv_icmp_gt (tgt := 26) hx hb dX4_isWithin_19 (by decide) (fun c => absurd ((ti_lt (x := 65532) (y := p0) (a := 65532) (b := p0.toInt) (by decide) rfl).mp c) (by omega)) (fun c => ?_)
  refine lv_iconst (v := 1) hx hb dX4_isWithin_22 (by decide) ?_
  refine lv_goto (tgt := 27) hx hb dX4_isWithin_23 (by decide) ?_
  exact kr_z () hx hb hr rfl hlocks hP hD hS rfl dX4_isWithin_27
set_option maxHeartbeats 4000000 in
set_option maxRecDepth 100000 in
theorem K63_X4_setNumber (l : Launch) (D : va_G) (cB cI cZ : ClassId) (sz : Nat) (h0 : Nat)  (p0 : Int32) (p1 : Int32) (f0 : Nat → Int32) (i_p0 : 0 ≤ p0.toInt ∧ p0.toInt ≤ 65532) (b_f0 : FB f0) :
    CtV l D cB cI cZ yX4_setNumber wsX4_setNumber { frames := 1, cells := 0, slots := 0, locals := 22 } [.ref h0, .int p0, .int 4, .int p1] [(h0, .inl (cB, 65536, .inl f0))] sz 0 0
      (fun (u : (Nat → Int32)) => FB u)
      (fun u => [(h0, .inl (cB, 65536, .inl u))]) := by
  refine mk_metV (cc := cX4_setNumber) (maxL := 6) (ret := none) (by decide) rfl (Nat.le_of_ble_eq_true rfl) ?_
  intro p e s m below meth c A hx hb hr hml hts hown hlocks hin hP hK hN hD hA hS ls hl
  have hown : s.vm.findClass RX4 = some m.cls := hown
  have hl : lv_has ls 6 [(0, .ref h0), (1, .int p0), (2, .int 4), (3, .int p1)] := hl
  refine lv_aload_n hx hb dX4_setNumber_0 rfl (lv_at hl 0 rfl) ?_
  refine lv_iload_n hx hb dX4_setNumber_1 rfl (lv_at hl 1 rfl) ?_
  refine lv_iload_n hx hb dX4_setNumber_2 rfl (lv_at hl 2 rfl) ?_
  refine kc_i (wr := []) (va_runS (As := [.ref h0, .int p0, .int 4]) (rest := []) ⟨hx, hb, hml, hown, hts⟩ (K64_X4_isWithin l D cB cI cZ _ h0 p0 f0 ⟨by omega, by omega⟩ b_f0) (va_cwS 3 hts gX4_setNumber_X4_isWithin rfl rfl rfl (by decide +kernel) ⟨Nat.le_of_ble_eq_true rfl, Nat.le_of_ble_eq_true rfl⟩) (pre_S (hP.sub [0] rfl) hK hN (hD.sub [0] (by decide) rfl)) rfl rfl hl.1 rfl (lv_room (Nat.le_of_ble_eq_true rfl)) dX4_setNumber_3 ⟨Nat.le_of_ble_eq_true rfl, Nat.le_of_ble_eq_true rfl⟩) hP hD hS hA [0] [] rfl rfl (by decide) (by decide) (fun r_1 u H locs hw hP hD hS => ?_)
  have k_2 := hw
  obtain rfl : r_1 = 1 := k_2
  have hP : va_P D vwCl [(h0, .inl (cB, 65536, .inl f0))] H := hP
  have hD : va_D A [(h0, .inl (cB, 65536, .inl f0))] := hD
  refine lv_if_ne (tgt := 10) hx hb dX4_setNumber_6 (by decide) (fun c => ?_) (fun c => absurd c (by decide))
  refine lv_iload_n hx hb dX4_setNumber_10 rfl (lv_at hl 3 rfl) ?_
  refine lv_istore (lv' := [(4, .int p1), (0, .ref h0), (1, .int p0), (2, .int 4), (3, .int p1)]) hx hb dX4_setNumber_11 hl (by decide) rfl (fun ls hl => ?_)
  refine lv_iload_n hx hb dX4_setNumber_13 rfl (lv_at hl 2 rfl) ?_
  refine lv_iload_n hx hb dX4_setNumber_14 rfl (lv_at hl 3 rfl) ?_
  refine lv_iadd hx hb dX4_setNumber_15 ?_
  refine lv_topi (fun x_3 ex_3 => ?_)
  have tx_3 : x_3.toInt = p0.toInt + 4 := by rw [ex_3]; exact ti_add rfl (by decide) (by omega) (by omega)
  refine lv_iconst (v := 1) hx hb dX4_setNumber_16 (by decide) ?_
  refine lv_isub hx hb dX4_setNumber_17 ?_
  refine lv_topi (fun x_4 ex_4 => ?_)
  have tx_4 : x_4.toInt = x_3.toInt - 1 := by rw [ex_4]; exact ti_sub rfl (by decide) (by omega) (by omega)
  refine lv_istore (lv' := [(5, .int x_4), (4, .int p1), (0, .ref h0), (1, .int p0), (2, .int 4), (3, .int p1)]) hx hb dX4_setNumber_18 hl (by decide) rfl (fun ls hl => ?_)
  refine lv_iload hx hb dX4_setNumber_20 (lv_at hl 0 rfl) ?_
  refine lv_iload_n hx hb dX4_setNumber_22 rfl (lv_at hl 3 rfl) ?_
  refine lv_icmp_lt (tgt := 46) hx hb dX4_setNumber_23 (by decide) (fun c => absurd ((ti_lt (x := x_4) (y := p0) (a := x_4.toInt) (b := p0.toInt) rfl rfl).mp c) (by omega)) (fun c => ?_)
  refine lv_aload_n hx hb dX4_setNumber_26 rfl (lv_at hl 2 rfl) ?_
  refine lv_iload hx hb dX4_setNumber_27 (lv_at hl 0 rfl) ?_
  refine lv_iload hx hb dX4_setNumber_29 (lv_at hl 1 rfl) ?_
  refine lv_i2b hx hb dX4_setNumber_31 rfl ?_
  refine lv_topi (fun x_5 ex_5 => ?_)
  refine va_bast hx hb hK hP hD hS 0 0 rfl rfl (ti_in (a := x_4.toInt) rfl (by omega) (by omega)) dX4_setNumber_32 (fun H locs hP hD hS => ?_)
  obtain ⟨f_6, ef_6⟩ : ∃ g : Nat → Int32, g = upd f0 (Int32.toNatClampNeg x_4) (vp_nar .byte x_5) := ⟨_, rfl⟩
  rw [← ef_6] at hP hD
  have bf_6 : FB f_6 := by rw [ef_6]; exact FB_upd b_f0 _ _
  have hP : va_P D vwCl [(h0, .inl (cB, 65536, .inl f_6))] H := hP
  have hD : va_D A [(h0, .inl (cB, 65536, .inl f_6))] := hD
  refine lv_iload hx hb dX4_setNumber_33 (lv_at hl 1 rfl) ?_
  refine lv_bipush (v := 8) hx hb dX4_setNumber_35 (by decide) ?_
  refine lv_iushr hx hb dX4_setNumber_37 rfl ?_
  refine lv_topi (fun x_7 ex_7 => ?_)
  refine lv_istore (lv' := [(4, .int x_7), (5, .int x_4), (0, .ref h0), (1, .int p0), (2, .int 4), (3, .int p1)]) hx hb dX4_setNumber_38 hl (by decide) rfl (fun ls hl => ?_)
  obtain ⟨x_8, ex_8⟩ : ∃ y : Int32, y = x_4 + (-1) := ⟨_, rfl⟩
  have tx_8 : x_8.toInt = x_4.toInt + (-1) := by rw [ex_8]; exact ti_add rfl (by decide) (by omega) (by omega)
  refine lv_iinc (v := x_8) (lv' := [(5, .int x_8), (4, .int x_7), (0, .ref h0), (1, .int p0), (2, .int 4), (3, .int p1)]) hx hb dX4_setNumber_40 hl (k := 1) rfl (by rw [ex_8]; rfl) (by decide) rfl (fun ls hl => ?_)
  refine lv_goto (tgt := 20) hx hb dX4_setNumber_43 (by decide) ?_
  refine lv_iload hx hb dX4_setNumber_20 (lv_at hl 0 rfl) ?_
  refine lv_iload_n hx hb dX4_setNumber_22 rfl (lv_at hl 3 rfl) ?_
  refine lv_icmp_lt (tgt := 46) hx hb dX4_setNumber_23 (by decide) (fun c => absurd ((ti_lt (x := x_8) (y := p0) (a := x_8.toInt) (b := p0.toInt) rfl rfl).mp c) (by omega)) (fun c => ?_)
  refine lv_aload_n hx hb dX4_setNumber_26 rfl (lv_at hl 2 rfl) ?_
  refine lv_iload hx hb dX4_setNumber_27 (lv_at hl 0 rfl) ?_
  refine lv_iload hx hb dX4_setNumber_29 (lv_at hl 1 rfl) ?_
  refine lv_i2b hx hb dX4_setNumber_31 rfl ?_
  refine lv_topi (fun x_9 ex_9 => ?_)
  refine va_bast hx hb hK hP hD hS 0 0 rfl rfl (ti_in (a := x_8.toInt) rfl (by omega) (by omega)) dX4_setNumber_32 (fun H locs hP hD hS => ?_)
  obtain ⟨f_10, ef_10⟩ : ∃ g : Nat → Int32, g = upd f_6 (Int32.toNatClampNeg x_8) (vp_nar .byte x_9) := ⟨_, rfl⟩
  rw [← ef_10] at hP hD
  have bf_10 : FB f_10 := by rw [ef_10]; exact FB_upd bf_6 _ _
  have hP : va_P D vwCl [(h0, .inl (cB, 65536, .inl f_10))] H := hP
  have hD : va_D A [(h0, .inl (cB, 65536, .inl f_10))] := hD
  refine lv_iload hx hb dX4_setNumber_33 (lv_at hl 1 rfl) ?_
  refine lv_bipush (v := 8) hx hb dX4_setNumber_35 (by decide) ?_
  refine lv_iushr hx hb dX4_setNumber_37 rfl ?_
  refine lv_topi (fun x_11 ex_11 => ?_)
  refine lv_istore (lv' := [(4, .int x_11), (5, .int x_8), (0, .ref h0), (1, .int p0), (2, .int 4), (3, .int p1)]) hx hb dX4_setNumber_38 hl (by decide) rfl (fun ls hl => ?_)
  obtain ⟨x_12, ex_12⟩ : ∃ y : Int32, y = x_8 + (-1) := ⟨_, rfl⟩
  have tx_12 : x_12.toInt = x_8.toInt + (-1) := by rw [ex_12]; exact ti_add rfl (by decide) (by omega) (by omega)
  refine lv_iinc (v := x_12) (lv' := [(5, .int x_12), (4, .int x_11), (0, .ref h0), (1, .int p0), (2, .int 4), (3, .int p1)]) hx hb dX4_setNumber_40 hl (k := 1) rfl (by rw [ex_12]; rfl) (by decide) rfl (fun ls hl => ?_)
  refine lv_goto (tgt := 20) hx hb dX4_setNumber_43 (by decide) ?_
  refine lv_iload hx hb dX4_setNumber_20 (lv_at hl 0 rfl) ?_
  refine lv_iload_n hx hb dX4_setNumber_22 rfl (lv_at hl 3 rfl) ?_
  refine lv_icmp_lt (tgt := 46) hx hb dX4_setNumber_23 (by decide) (fun c => absurd ((ti_lt (x := x_12) (y := p0) (a := x_12.toInt) (b := p0.toInt) rfl rfl).mp c) (by omega)) (fun c => ?_)
  refine lv_aload_n hx hb dX4_setNumber_26 rfl (lv_at hl 2 rfl) ?_
  refine lv_iload hx hb dX4_setNumber_27 (lv_at hl 0 rfl) ?_
  refine lv_iload hx hb dX4_setNumber_29 (lv_at hl 1 rfl) ?_
  refine lv_i2b hx hb dX4_setNumber_31 rfl ?_
  refine lv_topi (fun x_13 ex_13 => ?_)
  refine va_bast hx hb hK hP hD hS 0 0 rfl rfl (ti_in (a := x_12.toInt) rfl (by omega) (by omega)) dX4_setNumber_32 (fun H locs hP hD hS => ?_)
  obtain ⟨f_14, ef_14⟩ : ∃ g : Nat → Int32, g = upd f_10 (Int32.toNatClampNeg x_12) (vp_nar .byte x_13) := ⟨_, rfl⟩
  rw [← ef_14] at hP hD
  have bf_14 : FB f_14 := by rw [ef_14]; exact FB_upd bf_10 _ _
  have hP : va_P D vwCl [(h0, .inl (cB, 65536, .inl f_14))] H := hP
  have hD : va_D A [(h0, .inl (cB, 65536, .inl f_14))] := hD
  refine lv_iload hx hb dX4_setNumber_33 (lv_at hl 1 rfl) ?_
  refine lv_bipush (v := 8) hx hb dX4_setNumber_35 (by decide) ?_
  refine lv_iushr hx hb dX4_setNumber_37 rfl ?_
  refine lv_topi (fun x_15 ex_15 => ?_)
  refine lv_istore (lv' := [(4, .int x_15), (5, .int x_12), (0, .ref h0), (1, .int p0), (2, .int 4), (3, .int p1)]) hx hb dX4_setNumber_38 hl (by decide) rfl (fun ls hl => ?_)
  obtain ⟨x_16, ex_16⟩ : ∃ y : Int32, y = x_12 + (-1) := ⟨_, rfl⟩
  have tx_16 : x_16.toInt = x_12.toInt + (-1) := by rw [ex_16]; exact ti_add rfl (by decide) (by omega) (by omega)
  refine lv_iinc (v := x_16) (lv' := [(5, .int x_16), (4, .int x_15), (0, .ref h0), (1, .int p0), (2, .int 4), (3, .int p1)]) hx hb dX4_setNumber_40 hl (k := 1) rfl (by rw [ex_16]; rfl) (by decide) rfl (fun ls hl => ?_)
  refine lv_goto (tgt := 20) hx hb dX4_setNumber_43 (by decide) ?_
  refine lv_iload hx hb dX4_setNumber_20 (lv_at hl 0 rfl) ?_
  refine lv_iload_n hx hb dX4_setNumber_22 rfl (lv_at hl 3 rfl) ?_
  refine lv_icmp_lt (tgt := 46) hx hb dX4_setNumber_23 (by decide) (fun c => absurd ((ti_lt (x := x_16) (y := p0) (a := x_16.toInt) (b := p0.toInt) rfl rfl).mp c) (by omega)) (fun c => ?_)
  refine lv_aload_n hx hb dX4_setNumber_26 rfl (lv_at hl 2 rfl) ?_
  refine lv_iload hx hb dX4_setNumber_27 (lv_at hl 0 rfl) ?_
  refine lv_iload hx hb dX4_setNumber_29 (lv_at hl 1 rfl) ?_
  refine lv_i2b hx hb dX4_setNumber_31 rfl ?_
  refine lv_topi (fun x_17 ex_17 => ?_)
  refine va_bast hx hb hK hP hD hS 0 0 rfl rfl (ti_in (a := x_16.toInt) rfl (by omega) (by omega)) dX4_setNumber_32 (fun H locs hP hD hS => ?_)
  obtain ⟨f_18, ef_18⟩ : ∃ g : Nat → Int32, g = upd f_14 (Int32.toNatClampNeg x_16) (vp_nar .byte x_17) := ⟨_, rfl⟩
  rw [← ef_18] at hP hD
  have bf_18 : FB f_18 := by rw [ef_18]; exact FB_upd bf_14 _ _
  have hP : va_P D vwCl [(h0, .inl (cB, 65536, .inl f_18))] H := hP
  have hD : va_D A [(h0, .inl (cB, 65536, .inl f_18))] := hD
  refine lv_iload hx hb dX4_setNumber_33 (lv_at hl 1 rfl) ?_
  refine lv_bipush (v := 8) hx hb dX4_setNumber_35 (by decide) ?_
  refine lv_iushr hx hb dX4_setNumber_37 rfl ?_
  refine lv_topi (fun x_19 ex_19 => ?_)
  refine lv_istore (lv' := [(4, .int x_19), (5, .int x_16), (0, .ref h0), (1, .int p0), (2, .int 4), (3, .int p1)]) hx hb dX4_setNumber_38 hl (by decide) rfl (fun ls hl => ?_)
  obtain ⟨x_20, ex_20⟩ : ∃ y : Int32, y = x_16 + (-1) := ⟨_, rfl⟩
  have tx_20 : x_20.toInt = x_16.toInt + (-1) := by rw [ex_20]; exact ti_add rfl (by decide) (by omega) (by omega)
  refine lv_iinc (v := x_20) (lv' := [(5, .int x_20), (4, .int x_19), (0, .ref h0), (1, .int p0), (2, .int 4), (3, .int p1)]) hx hb dX4_setNumber_40 hl (k := 1) rfl (by rw [ex_20]; rfl) (by decide) rfl (fun ls hl => ?_)
  refine lv_goto (tgt := 20) hx hb dX4_setNumber_43 (by decide) ?_
  refine lv_iload hx hb dX4_setNumber_20 (lv_at hl 0 rfl) ?_
  refine lv_iload_n hx hb dX4_setNumber_22 rfl (lv_at hl 3 rfl) ?_
  refine lv_icmp_lt (tgt := 46) hx hb dX4_setNumber_23 (by decide) (fun c => ?_) (fun c => absurd ((ti_lt (x := x_20) (y := p0) (a := x_20.toInt) (b := p0.toInt) rfl rfl).mpr (by omega)) c)
  exact kr_v f_18 hx hb hr hlocks hP hD hS bf_18 dX4_setNumber_46
set_option maxHeartbeats 4000000 in
set_option maxRecDepth 100000 in
theorem K67_X4_isWithin (l : Launch) (D : va_G) (cB cI cZ : ClassId) (sz : Nat) (h0 : Nat)  (p0 : Int32) (f0 : Nat → Int32) (i_p0 : 0 ≤ p0.toInt ∧ p0.toInt ≤ 65530) (b_f0 : FB f0) :
    CtI l D cB cI cZ yX4_isWithin wsX4_isWithin { frames := 0, cells := 0, slots := 0, locals := 0 } [.ref h0, .int p0, .int 6] [(h0, .inl (cB, 65536, .inl f0))] sz 0 0
      (fun (r : Int32) (u : Unit) => r = 1)
      (fun u => [(h0, .inl (cB, 65536, .inl f0))]) := by
  refine mk_metI (cc := cX4_isWithin) (maxL := 3) (ret := (some .boolean)) (by decide) rfl (Nat.le_of_ble_eq_true rfl) ?_
  intro p e s m below meth c A hx hb hr hml hts hown hlocks hin hP hK hN hD hA hS ls hl
  have hown : s.vm.findClass RX4 = some m.cls := hown
  have hl : lv_has ls 3 [(0, .ref h0), (1, .int p0), (2, .int 6)] := hl
  refine lv_iload_n hx hb dX4_isWithin_0 rfl (lv_at hl 1 rfl) ?_
  refine lv_if_lt (tgt := 26) hx hb dX4_isWithin_1 (by decide) (fun c => absurd ((ti_lt (x := p0) (y := 0) (a := p0.toInt) (b := 0) rfl (by decide)).mp c) (by omega)) (fun c => ?_)
  refine lv_iload_n hx hb dX4_isWithin_4 rfl (lv_at hl 2 rfl) ?_
  refine lv_if_lt (tgt := 26) hx hb dX4_isWithin_5 (by decide) (fun c => absurd c (by decide)) (fun c => ?_)
  refine lv_iload_n hx hb dX4_isWithin_8 rfl (lv_at hl 2 rfl) ?_
  refine lv_aload_n hx hb dX4_isWithin_9 rfl (lv_at hl 0 rfl) ?_
  refine va_alen (v := 65536) hx hb hK hP 0 0 rfl rfl (show Int32.ofNat 65536 = 65536 by decide) dX4_isWithin_10 ?_
  refine lv_icmp_gt (tgt := 26) hx hb dX4_isWithin_11 (by decide) (fun c => absurd c (by decide)) (fun c => ?_)
  refine lv_iload_n hx hb dX4_isWithin_14 rfl (lv_at hl 1 rfl) ?_
  refine lv_aload_n hx hb dX4_isWithin_15 rfl (lv_at hl 0 rfl) ?_
  refine va_alen (v := 65536) hx hb hK hP 0 0 rfl rfl (show Int32.ofNat 65536 = 65536 by decide) dX4_isWithin_16 ?_
  refine lv_iload_n hx hb dX4_isWithin_17 rfl (lv_at hl 2 rfl) ?_
  refine lv_isub hx hb dX4_isWithin_18 ?_
  refine lv_topi (fun z_1 ez_1 => ?_)
  obtain rfl : z_1 = 65530 := ez_1.trans (by decide)
  refine lv_icmp_gt (tgt := 26) hx hb dX4_isWithin_19 (by decide) (fun c => absurd ((ti_lt (x := 65530) (y := p0) (a := 65530) (b := p0.toInt) (by decide) rfl).mp c) (by omega)) (fun c => ?_)
  refine lv_iconst (v := 1) hx hb dX4_isWithin_22 (by decide) ?_
  refine lv_goto (tgt := 27) hx hb dX4_isWithin_23 (by decide) ?_
  exact kr_z () hx hb hr rfl hlocks hP hD hS rfl dX4_isWithin_27
set_option maxHeartbeats 4000000 in
set_option maxRecDepth 100000 in
theorem K68_J6_rotateLeft_7cf53 (l : Launch) (D : va_G) (cB cI cZ : ClassId) (sz : Nat)   (p0 : Int32)  :
    CtI l D cB cI cZ yJ6_rotateLeft_7cf53 wsJ6_rotateLeft_7cf53 { frames := 0, cells := 0, slots := 0, locals := 0 } [.int p0, .int 5] [] sz 0 0
      (fun (r : Int32) (u : Unit) => True)
      (fun u => []) := by
  refine mk_metI (cc := cJ6_rotateLeft_7cf53) (maxL := 2) (ret := (some .int)) (by decide) rfl (Nat.le_of_ble_eq_true rfl) ?_
  intro p e s m below meth c A hx hb hr hml hts hown hlocks hin hP hK hN hD hA hS ls hl
  have hown : s.vm.findClass RJ6 = some m.cls := hown
  have hl : lv_has ls 2 [(0, .int p0), (1, .int 5)] := hl
  refine lv_iload_n hx hb dJ6_rotateLeft_7cf53_0 rfl (lv_at hl 0 rfl) ?_
  refine lv_iload_n hx hb dJ6_rotateLeft_7cf53_1 rfl (lv_at hl 1 rfl) ?_
  refine lv_ishl hx hb dJ6_rotateLeft_7cf53_2 ?_
  refine lv_topi (fun x_1 ex_1 => ?_)
  refine lv_iload_n hx hb dJ6_rotateLeft_7cf53_3 rfl (lv_at hl 0 rfl) ?_
  refine lv_iload_n hx hb dJ6_rotateLeft_7cf53_4 rfl (lv_at hl 1 rfl) ?_
  refine lv_ineg hx hb dJ6_rotateLeft_7cf53_5 ?_
  refine lv_topi (fun z_2 ez_2 => ?_)
  obtain rfl : z_2 = (-5) := ez_2.trans (by decide)
  refine lv_iushr hx hb dJ6_rotateLeft_7cf53_6 rfl ?_
  refine lv_topi (fun x_3 ex_3 => ?_)
  refine lv_ior hx hb dJ6_rotateLeft_7cf53_7 ?_
  refine lv_topi (fun x_4 ex_4 => ?_)
  exact kr_i () hx hb hr hlocks hP hD hS trivial dJ6_rotateLeft_7cf53_8
set_option maxHeartbeats 4000000 in
set_option maxRecDepth 100000 in
theorem K66_X4_sum (l : Launch) (D : va_G) (cB cI cZ : ClassId) (sz : Nat) (h0 : Nat)  (p0 : Int32) (f0 : Nat → Int32) (i_p0 : 0 ≤ p0.toInt ∧ p0.toInt ≤ 65530) (b_f0 : FB f0) :
    CtI l D cB cI cZ yX4_sum wsX4_sum { frames := 1, cells := 0, slots := 0, locals := 22 } [.ref h0, .int p0, .int 6] [(h0, .inl (cB, 65536, .inl f0))] sz 0 0
      (fun (r : Int32) (u : Unit) => True)
      (fun u => [(h0, .inl (cB, 65536, .inl f0))]) := by
  refine mk_metI (cc := cX4_sum) (maxL := 5) (ret := (some .int)) (by decide) rfl (Nat.le_of_ble_eq_true rfl) ?_
  intro p e s m below meth c A hx hb hr hml hts hown hlocks hin hP hK hN hD hA hS ls hl
  have hown : s.vm.findClass RX4 = some m.cls := hown
  have hl : lv_has ls 5 [(0, .ref h0), (1, .int p0), (2, .int 6)] := hl
  refine lv_aload_n hx hb dX4_sum_0 rfl (lv_at hl 0 rfl) ?_
  refine lv_iload_n hx hb dX4_sum_1 rfl (lv_at hl 1 rfl) ?_
  refine lv_iload_n hx hb dX4_sum_2 rfl (lv_at hl 2 rfl) ?_
  refine kc_i (wr := []) (va_runS (As := [.ref h0, .int p0, .int 6]) (rest := []) ⟨hx, hb, hml, hown, hts⟩ (K67_X4_isWithin l D cB cI cZ _ h0 p0 f0 ⟨by omega, by omega⟩ b_f0) (va_cwS 3 hts gX4_sum_X4_isWithin rfl rfl rfl (by decide +kernel) ⟨Nat.le_of_ble_eq_true rfl, Nat.le_of_ble_eq_true rfl⟩) (pre_S (hP.sub [0] rfl) hK hN (hD.sub [0] (by decide) rfl)) rfl rfl hl.1 rfl (lv_room (Nat.le_of_ble_eq_true rfl)) dX4_sum_3 ⟨Nat.le_of_ble_eq_true rfl, Nat.le_of_ble_eq_true rfl⟩) hP hD hS hA [0] [] rfl rfl (by decide) (by decide) (fun r_1 u H locs hw hP hD hS => ?_)
  have k_2 := hw
  obtain rfl : r_1 = 1 := k_2
  have hP : va_P D vwCl [(h0, .inl (cB, 65536, .inl f0))] H := hP
  have hD : va_D A [(h0, .inl (cB, 65536, .inl f0))] := hD
  refine lv_if_ne (tgt := 11) hx hb dX4_sum_6 (by decide) (fun c => ?_) (fun c => absurd c (by decide))
  refine lv_iconst (v := 0) hx hb dX4_sum_11 (by decide) ?_
  refine lv_istore_n (lv' := [(3, .int 0), (0, .ref h0), (1, .int p0), (2, .int 6)]) hx hb dX4_sum_12 rfl hl (by decide) rfl (fun ls hl => ?_)
  refine lv_iload_n hx hb dX4_sum_13 rfl (lv_at hl 2 rfl) ?_
  refine lv_istore (lv' := [(4, .int p0), (3, .int 0), (0, .ref h0), (1, .int p0), (2, .int 6)]) hx hb dX4_sum_14 hl (by decide) rfl (fun ls hl => ?_)
  refine kl (α := Int32 × Int32) (fun n a H locs ls => (0 ≤ Int32.toInt (a.1)) ∧ (Int32.toInt (a.1) ≤ 65536) ∧ (65536 - Int32.toInt (a.1) < ((n : Nat) : Int)) ∧ va_P D vwCl [(h0, .inl (cB, 65536, .inl f0))] H ∧ va_D A [(h0, .inl (cB, 65536, .inl f0))] ∧ va_S A s.heap H locs ∧ lv_has ls 5 [(4, .int (a.1)), (3, .int (a.2)), (0, .ref h0), (1, .int p0), (2, .int 6)]) 65537 (p0, 0) ⟨(by show 0 ≤ Int32.toInt p0; omega), (by show Int32.toInt p0 ≤ 65536; omega), (by show 65536 - Int32.toInt p0 < ((65537 : Nat) : Int); omega), hP, hD, hS, hl⟩ (fun a H locs ls h => ?_) (fun n_5 ih_6 a H locs ls h => ?_)
  · obtain ⟨j_7, j_8, j_9, _⟩ := h
    omega
  obtain ⟨v_4, v_3⟩ := a
  obtain ⟨j_7, j_8, j_9, hP, hD, hS, hl⟩ := h
  have j_7 : 0 ≤ Int32.toInt v_4 := j_7
  have j_8 : Int32.toInt v_4 ≤ 65536 := j_8
  have j_9 : 65536 - Int32.toInt v_4 < ((n_5 + 1 : Nat) : Int) := j_9
  have hP : va_P D vwCl [(h0, .inl (cB, 65536, .inl f0))] H := hP
  have hD : va_D A [(h0, .inl (cB, 65536, .inl f0))] := hD
  have hl : lv_has ls 5 [(4, .int v_4), (3, .int v_3), (0, .ref h0), (1, .int p0), (2, .int 6)] := hl
  refine lv_iload hx hb dX4_sum_16 (lv_at hl 0 rfl) ?_
  refine lv_iload_n hx hb dX4_sum_18 rfl (lv_at hl 3 rfl) ?_
  refine lv_iload_n hx hb dX4_sum_19 rfl (lv_at hl 4 rfl) ?_
  refine lv_iadd hx hb dX4_sum_20 ?_
  refine lv_topi (fun x_10 ex_10 => ?_)
  have tx_10 : x_10.toInt = p0.toInt + 6 := by rw [ex_10]; exact ti_add rfl (by decide) (by omega) (by omega)
  refine lv_icmp_ge (tgt := 48) hx hb dX4_sum_21 (by decide) (fun c => ?_) (fun c => ?_)
  · skip
    have k_11 := (ti_le (x := x_10) (y := v_4) (a := x_10.toInt) (b := v_4.toInt) rfl rfl).mp c
    refine lv_iload_n hx hb dX4_sum_48 rfl (lv_at hl 1 rfl) ?_
    exact kr_i () hx hb hr hlocks hP hD hS trivial dX4_sum_49
  · skip
    have k_12 := mt (ti_le (x := x_10) (y := v_4) (a := x_10.toInt) (b := v_4.toInt) rfl rfl).mpr c
    refine lv_iload_n hx hb dX4_sum_24 rfl (lv_at hl 1 rfl) ?_
    refine lv_aload_n hx hb dX4_sum_25 rfl (lv_at hl 2 rfl) ?_
    refine lv_iload hx hb dX4_sum_26 (lv_at hl 0 rfl) ?_
    refine va_bald hx hb hK hP 0 0 rfl rfl (ti_in (a := v_4.toInt) rfl (by omega) (by omega)) dX4_sum_28 ?_
    refine lv_topi (fun x_13 ex_13 => ?_)
    refine lv_sipush (v := 255) hx hb dX4_sum_29 (by decide) ?_
    refine lv_iand hx hb dX4_sum_32 ?_
    refine lv_topi (fun x_14 ex_14 => ?_)
    refine lv_ixor hx hb dX4_sum_33 ?_
    refine lv_topi (fun x_15 ex_15 => ?_)
    refine lv_iconst (v := 5) hx hb dX4_sum_34 (by decide) ?_
    refine kc_i (wr := [(h0, .inl (cB, 65536, .inl f0))]) (va_runS (As := [.int x_15, .int 5]) (rest := []) ⟨hx, hb, hml, hown, hts⟩ (K68_J6_rotateLeft_7cf53 l D cB cI cZ _ x_15) (va_cwS 2 hts gX4_sum_J6_rotateLeft_7cf53 rfl rfl rfl (by decide +kernel) ⟨Nat.le_of_ble_eq_true rfl, Nat.le_of_ble_eq_true rfl⟩) (pre_S (hP.sub [] rfl) hK hN (hD.sub [] (by decide) rfl)) rfl rfl hl.1 rfl (lv_room (Nat.le_of_ble_eq_true rfl)) dX4_sum_35 ⟨Nat.le_of_ble_eq_true rfl, Nat.le_of_ble_eq_true rfl⟩) hP hD hS hA [] [0] rfl rfl (by decide) (by decide) (fun r_16 u H locs hw hP hD hS => ?_)
    have hP : va_P D vwCl [(h0, .inl (cB, 65536, .inl f0))] H := hP
    have hD : va_D A [(h0, .inl (cB, 65536, .inl f0))] := hD
    refine lv_ldc (v := (-1640531535)) hx hb hown (hts _ wdX4_sum_0) dX4_sum_38 ?_
    refine lv_imul hx hb dX4_sum_40 ?_
    refine lv_topi (fun x_17 ex_17 => ?_)
    refine lv_istore_n (lv' := [(3, .int x_17), (4, .int v_4), (0, .ref h0), (1, .int p0), (2, .int 6)]) hx hb dX4_sum_41 rfl hl (by decide) rfl (fun ls hl => ?_)
    obtain ⟨x_18, ex_18⟩ : ∃ y : Int32, y = v_4 + 1 := ⟨_, rfl⟩
    have tx_18 : x_18.toInt = v_4.toInt + 1 := by rw [ex_18]; exact ti_add rfl (by decide) (by omega) (by omega)
    refine lv_iinc (v := x_18) (lv' := [(4, .int x_18), (3, .int x_17), (0, .ref h0), (1, .int p0), (2, .int 6)]) hx hb dX4_sum_42 hl (k := 1) rfl (by rw [ex_18]; rfl) (by decide) rfl (fun ls hl => ?_)
    refine lv_goto (tgt := 16) hx hb dX4_sum_45 (by decide) ?_
    exact ih_6 (x_18, x_17) _ _ _ ⟨(by show 0 ≤ Int32.toInt x_18; omega), (by show Int32.toInt x_18 ≤ 65536; omega), (by show 65536 - Int32.toInt x_18 < ((n_5 : Nat) : Int); omega), hP, hD, hS, hl⟩
set_option maxHeartbeats 4000000 in
set_option maxRecDepth 100000 in
theorem K65_X4_setSum (l : Launch) (D : va_G) (cB cI cZ : ClassId) (sz : Nat) (h0 : Nat)  (f0 : Nat → Int32) (b_f0 : FB f0) :
    CtV l D cB cI cZ yX4_setSum wsX4_setSum { frames := 2, cells := 0, slots := 0, locals := 47 } [.ref h0, .int 8192, .int 6] [(h0, .inl (cB, 65536, .inl f0))] sz 0 0
      (fun (u : (Nat → Int32)) => FB u)
      (fun u => [(h0, .inl (cB, 65536, .inl u))]) := by
  refine mk_metV (cc := cX4_setSum) (maxL := 3) (ret := none) (by decide) rfl (Nat.le_of_ble_eq_true rfl) ?_
  intro p e s m below meth c A hx hb hr hml hts hown hlocks hin hP hK hN hD hA hS ls hl
  have hown : s.vm.findClass RX4 = some m.cls := hown
  have hl : lv_has ls 3 [(0, .ref h0), (1, .int 8192), (2, .int 6)] := hl
  refine lv_aload_n hx hb dX4_setSum_0 rfl (lv_at hl 0 rfl) ?_
  refine lv_iload_n hx hb dX4_setSum_1 rfl (lv_at hl 1 rfl) ?_
  refine lv_iload_n hx hb dX4_setSum_2 rfl (lv_at hl 2 rfl) ?_
  refine lv_iadd hx hb dX4_setSum_3 ?_
  refine lv_topi (fun z_1 ez_1 => ?_)
  obtain rfl : z_1 = 8198 := ez_1.trans (by decide)
  refine lv_iconst (v := 4) hx hb dX4_setSum_4 (by decide) ?_
  refine lv_aload_n hx hb dX4_setSum_5 rfl (lv_at hl 0 rfl) ?_
  refine lv_iload_n hx hb dX4_setSum_6 rfl (lv_at hl 1 rfl) ?_
  refine lv_iload_n hx hb dX4_setSum_7 rfl (lv_at hl 2 rfl) ?_
  refine kc_i (wr := []) (va_runS (As := [.ref h0, .int 8192, .int 6]) (rest := [.int 4, .int 8198, .ref h0]) ⟨hx, hb, hml, hown, hts⟩ (K66_X4_sum l D cB cI cZ _ h0 8192 f0 (by decide) b_f0) (va_cwS 3 hts gX4_setSum_X4_sum rfl rfl rfl (by decide +kernel) ⟨Nat.le_of_ble_eq_true rfl, Nat.le_of_ble_eq_true rfl⟩) (pre_S (hP.sub [0] rfl) hK hN (hD.sub [0] (by decide) rfl)) rfl rfl hl.1 rfl (lv_room (Nat.le_of_ble_eq_true rfl)) dX4_setSum_8 ⟨Nat.le_of_ble_eq_true rfl, Nat.le_of_ble_eq_true rfl⟩) hP hD hS hA [0] [] rfl rfl (by decide) (by decide) (fun r_2 u H locs hw hP hD hS => ?_)
  have hP : va_P D vwCl [(h0, .inl (cB, 65536, .inl f0))] H := hP
  have hD : va_D A [(h0, .inl (cB, 65536, .inl f0))] := hD
  refine kc_v (wr := []) (va_runS (As := [.ref h0, .int 8198, .int 4, .int r_2]) (rest := []) ⟨hx, hb, hml, hown, hts⟩ (K63_X4_setNumber l D cB cI cZ _ h0 8198 r_2 f0 (by decide) b_f0) (va_cwS 4 hts gX4_setSum_X4_setNumber rfl rfl rfl (by decide +kernel) ⟨Nat.le_of_ble_eq_true rfl, Nat.le_of_ble_eq_true rfl⟩) (pre_S (hP.sub [0] rfl) hK hN (hD.sub [0] (by decide) rfl)) rfl rfl hl.1 rfl (lv_room (Nat.le_of_ble_eq_true rfl)) dX4_setSum_11 ⟨Nat.le_of_ble_eq_true rfl, Nat.le_of_ble_eq_true rfl⟩) hP hD hS hA [0] [] rfl rfl (by decide) (by decide) (fun  u H locs hw hP hD hS => ?_)
  obtain ⟨f_3, rfl⟩ : ∃ z, z = u := ⟨_, rfl⟩
  have bf_3 := hw
  have bf_3 : FB f_3 := bf_3
  have hP : va_P D vwCl [(h0, .inl (cB, 65536, .inl f_3))] H := hP
  have hD : va_D A [(h0, .inl (cB, 65536, .inl f_3))] := hD
  exact kr_v f_3 hx hb hr hlocks hP hD hS bf_3 dX4_setSum_14
set_option maxHeartbeats 4000000 in
set_option maxRecDepth 100000 in
theorem K69_X3_noteFresh (l : Launch) (D : va_G) (cB cI cZ : ClassId) (sz : Nat) (h0 : Nat) (h1 : Nat) (h2 : Nat) (h3 : Nat)  (g0 : Value) (g1 : Value) (g2 : Value) (g3 : Value) (g4 : Value) (g5 : Value) (g6 : Value) (g7 : Value)  :
    CtV l D cB cI cZ yX3_noteFresh wsX3_noteFresh { frames := 1, cells := 0, slots := 0, locals := 20 } [.ref h0, .int 10] [(h0, .inr (3, [g0, g1, g2, g3, g4, .ref h1, .ref h2, .ref h3, .int 0, .int 8, .int 0, g5, g6, g7])), (h1, .inl (cI, 64, .inl zf)), (h2, .inl (cI, 64, .inl zf)), (h3, .inl (cI, 64, .inl zf))] sz 0 0
      (fun (u : (Nat → Int32) × (Nat → Int32)) => True)
      (fun u => [(h0, .inr (3, [g0, g1, g2, g3, g4, .ref h1, .ref h2, .ref h3, .int 1, .int 8, .int 10, g5, g6, g7])), (h1, .inl (cI, 64, .inl u.1)), (h2, .inl (cI, 64, .inl zf)), (h3, .inl (cI, 64, .inl u.2))]) := by
  refine mk_metV (cc := cX3_noteFresh) (maxL := 3) (ret := none) (by decide) rfl (Nat.le_of_ble_eq_true rfl) ?_
  intro p e s m below meth c A hx hb hr hml hts hown hlocks hin hP hK hN hD hA hS ls hl
  have hown : s.vm.findClass RX3 = some m.cls := hown
  have hl : lv_has ls 3 [(0, .ref h0), (1, .int 10)] := hl
  refine lv_aload_n hx hb dX3_noteFresh_0 rfl (lv_at hl 0 rfl) ?_
  refine va_get (D := D) (ci := 3) (v := .int 8) (C := RX3) (T := TX3) (N := 14) hx hb hts inX3_noteFresh_X3 hown hK hP 0 rfl rfl 9 (by decide) (hts _ wdX3_noteFresh_0) (fun _ h9 => h9) rfl dX3_noteFresh_1 ?_
  refine kc_i (wr := [(h0, .inr (3, [g0, g1, g2, g3, g4, .ref h1, .ref h2, .ref h3, .int 0, .int 8, .int 0, g5, g6, g7])), (h1, .inl (cI, 64, .inl zf)), (h2, .inl (cI, 64, .inl zf)), (h3, .inl (cI, 64, .inl zf))]) (va_runSN (As := [.int 8]) (rest := []) ⟨hx, hb, hml, hown, hts⟩ (K55_X7_isOfLog l D cB cI cZ _ ) ⟨va_cnB 1 hts gX3_noteFresh_X7_isOfLog_n65 rfl rfl rfl (hN.m (a := RX3) (i := 65) (y := yX7_isOfLog) (by decide +kernel)) (hts _ wdX3_noteFresh_1) (by decide +kernel) ⟨Nat.le_of_ble_eq_true rfl, Nat.le_of_ble_eq_true rfl⟩, hts _ wdX3_noteFresh_2, trivial⟩ (pre_S (hP.sub [] rfl) hK hN (hD.sub [] (by decide) rfl)) rfl rfl hl.1 rfl (lv_room (Nat.le_of_ble_eq_true rfl)) dX3_noteFresh_4 ⟨Nat.le_of_ble_eq_true rfl, Nat.le_of_ble_eq_true rfl⟩) hP hD hS hA [] [0, 1, 2, 3] rfl rfl (by decide) (by decide) (fun r_1 u H locs hw hP hD hS => ?_)
  have k_2 := hw
  obtain rfl : r_1 = 1 := k_2
  have hP : va_P D vwCl [(h0, .inr (3, [g0, g1, g2, g3, g4, .ref h1, .ref h2, .ref h3, .int 0, .int 8, .int 0, g5, g6, g7])), (h1, .inl (cI, 64, .inl zf)), (h2, .inl (cI, 64, .inl zf)), (h3, .inl (cI, 64, .inl zf))] H := hP
  have hD : va_D A [(h0, .inr (3, [g0, g1, g2, g3, g4, .ref h1, .ref h2, .ref h3, .int 0, .int 8, .int 0, g5, g6, g7])), (h1, .inl (cI, 64, .inl zf)), (h2, .inl (cI, 64, .inl zf)), (h3, .inl (cI, 64, .inl zf))] := hD
  refine lv_if_ne (tgt := 11) hx hb dX3_noteFresh_7 (by decide) (fun c => ?_) (fun c => absurd c (by decide))
  refine lv_aload_n hx hb dX3_noteFresh_11 rfl (lv_at hl 0 rfl) ?_
  refine va_get (D := D) (ci := 3) (v := .int 0) (C := RX3) (T := TX3) (N := 14) hx hb hts inX3_noteFresh_X3 hown hK hP 0 rfl rfl 8 (by decide) (hts _ wdX3_noteFresh_3) (fun _ h9 => h9) rfl dX3_noteFresh_12 ?_
  refine lv_if_le (tgt := 40) hx hb dX3_noteFresh_15 (by decide) (fun c => ?_) (fun c => absurd (by decide) c)
  refine lv_iconst (v := 0) hx hb dX3_noteFresh_40 (by decide) ?_
  refine lv_istore_n (lv' := [(2, .int 0), (0, .ref h0), (1, .int 10)]) hx hb dX3_noteFresh_41 rfl hl (by decide) rfl (fun ls hl => ?_)
  refine lv_iload_n hx hb dX3_noteFresh_42 rfl (lv_at hl 0 rfl) ?_
  refine lv_if_ne (tgt := 91) hx hb dX3_noteFresh_43 (by decide) (fun c => absurd (by decide) c) (fun c => ?_)
  refine lv_aload_n hx hb dX3_noteFresh_46 rfl (lv_at hl 1 rfl) ?_
  refine va_get (D := D) (ci := 3) (v := .int 0) (C := RX3) (T := TX3) (N := 14) hx hb hts inX3_noteFresh_X3 hown hK hP 0 rfl rfl 8 (by decide) (hts _ wdX3_noteFresh_3) (fun _ h9 => h9) rfl dX3_noteFresh_47 ?_
  refine lv_bipush (v := 64) hx hb dX3_noteFresh_50 (by decide) ?_
  refine lv_icmp_ge (tgt := 91) hx hb dX3_noteFresh_52 (by decide) (fun c => absurd c (by decide)) (fun c => ?_)
  refine lv_aload_n hx hb dX3_noteFresh_55 rfl (lv_at hl 1 rfl) ?_
  refine va_get (D := D) (ci := 3) (v := .ref h1) (C := RX3) (T := TX3) (N := 14) hx hb hts inX3_noteFresh_X3 hown hK hP 0 rfl rfl 5 (by decide) (hts _ wdX3_noteFresh_4) (fun _ h9 => h9) rfl dX3_noteFresh_56 ?_
  refine lv_aload_n hx hb dX3_noteFresh_59 rfl (lv_at hl 1 rfl) ?_
  refine va_get (D := D) (ci := 3) (v := .int 0) (C := RX3) (T := TX3) (N := 14) hx hb hts inX3_noteFresh_X3 hown hK hP 0 rfl rfl 8 (by decide) (hts _ wdX3_noteFresh_3) (fun _ h9 => h9) rfl dX3_noteFresh_60 ?_
  refine lv_aload_n hx hb dX3_noteFresh_63 rfl (lv_at hl 1 rfl) ?_
  refine va_get (D := D) (ci := 3) (v := .int 8) (C := RX3) (T := TX3) (N := 14) hx hb hts inX3_noteFresh_X3 hown hK hP 0 rfl rfl 9 (by decide) (hts _ wdX3_noteFresh_0) (fun _ h9 => h9) rfl dX3_noteFresh_64 ?_
  refine va_iast hx hb hK hP hD hS 1 1 rfl rfl (ti_in (a := 0) (by decide) (by decide) (by decide)) dX3_noteFresh_67 (fun H locs hP hD hS => ?_)
  obtain ⟨f_3, ef_3⟩ : ∃ g : Nat → Int32, g = upd zf (Int32.toNatClampNeg 0) 8 := ⟨_, rfl⟩
  rw [← ef_3] at hP hD
  have hP : va_P D vwCl [(h0, .inr (3, [g0, g1, g2, g3, g4, .ref h1, .ref h2, .ref h3, .int 0, .int 8, .int 0, g5, g6, g7])), (h1, .inl (cI, 64, .inl f_3)), (h2, .inl (cI, 64, .inl zf)), (h3, .inl (cI, 64, .inl zf))] H := hP
  have hD : va_D A [(h0, .inr (3, [g0, g1, g2, g3, g4, .ref h1, .ref h2, .ref h3, .int 0, .int 8, .int 0, g5, g6, g7])), (h1, .inl (cI, 64, .inl f_3)), (h2, .inl (cI, 64, .inl zf)), (h3, .inl (cI, 64, .inl zf))] := hD
  refine lv_aload_n hx hb dX3_noteFresh_68 rfl (lv_at hl 1 rfl) ?_
  refine lv_dup hx hb dX3_noteFresh_69 rfl ?_
  refine va_get (D := D) (ci := 3) (v := .int 0) (C := RX3) (T := TX3) (N := 14) hx hb hts inX3_noteFresh_X3 hown hK hP 0 rfl rfl 8 (by decide) (hts _ wdX3_noteFresh_3) (fun _ h9 => h9) rfl dX3_noteFresh_70 ?_
  refine lv_iconst (v := 1) hx hb dX3_noteFresh_73 (by decide) ?_
  refine lv_iadd hx hb dX3_noteFresh_74 ?_
  refine lv_topi (fun z_4 ez_4 => ?_)
  obtain rfl : z_4 = 1 := ez_4.trans (by decide)
  refine va_put (D := D) (ci := 3) (v := .int 1) (ty := .int) (C := RX3) (T := TX3) (N := 14) hx hb hts inX3_noteFresh_X3 tyX3 tyX3_ok nmX3 hown hK hP hD hS 0 rfl rfl 8 (by decide) (hts _ wdX3_noteFresh_3) (fun _ h9 => h9) rfl (by decide +kernel) rfl rfl (Nat.le_of_ble_eq_true rfl) dX3_noteFresh_75 (fun H locs hP hD hS => ?_)
  have hP : va_P D vwCl [(h0, .inr (3, [g0, g1, g2, g3, g4, .ref h1, .ref h2, .ref h3, .int 1, .int 8, .int 0, g5, g6, g7])), (h1, .inl (cI, 64, .inl f_3)), (h2, .inl (cI, 64, .inl zf)), (h3, .inl (cI, 64, .inl zf))] H := hP
  have hD : va_D A [(h0, .inr (3, [g0, g1, g2, g3, g4, .ref h1, .ref h2, .ref h3, .int 1, .int 8, .int 0, g5, g6, g7])), (h1, .inl (cI, 64, .inl f_3)), (h2, .inl (cI, 64, .inl zf)), (h3, .inl (cI, 64, .inl zf))] := hD
  refine lv_aload_n hx hb dX3_noteFresh_78 rfl (lv_at hl 1 rfl) ?_
  refine va_get (D := D) (ci := 3) (v := .ref h2) (C := RX3) (T := TX3) (N := 14) hx hb hts inX3_noteFresh_X3 hown hK hP 0 rfl rfl 6 (by decide) (hts _ wdX3_noteFresh_5) (fun _ h9 => h9) rfl dX3_noteFresh_79 ?_
  refine lv_aload_n hx hb dX3_noteFresh_82 rfl (lv_at hl 1 rfl) ?_
  refine va_get (D := D) (ci := 3) (v := .int 8) (C := RX3) (T := TX3) (N := 14) hx hb hts inX3_noteFresh_X3 hown hK hP 0 rfl rfl 9 (by decide) (hts _ wdX3_noteFresh_0) (fun _ h9 => h9) rfl dX3_noteFresh_83 ?_
  refine lv_aload_n hx hb dX3_noteFresh_86 rfl (lv_at hl 1 rfl) ?_
  refine va_get (D := D) (ci := 3) (v := .int 0) (C := RX3) (T := TX3) (N := 14) hx hb hts inX3_noteFresh_X3 hown hK hP 0 rfl rfl 10 (by decide) (hts _ wdX3_noteFresh_6) (fun _ h9 => h9) rfl dX3_noteFresh_87 ?_
  refine va_iast hx hb hK hP hD hS 2 1 rfl rfl (ti_in (a := 8) (by decide) (by decide) (by decide)) dX3_noteFresh_90 (fun H locs hP hD hS => ?_)
  rw [zf_upd] at hP hD
  have hP : va_P D vwCl [(h0, .inr (3, [g0, g1, g2, g3, g4, .ref h1, .ref h2, .ref h3, .int 1, .int 8, .int 0, g5, g6, g7])), (h1, .inl (cI, 64, .inl f_3)), (h2, .inl (cI, 64, .inl zf)), (h3, .inl (cI, 64, .inl zf))] H := hP
  have hD : va_D A [(h0, .inr (3, [g0, g1, g2, g3, g4, .ref h1, .ref h2, .ref h3, .int 1, .int 8, .int 0, g5, g6, g7])), (h1, .inl (cI, 64, .inl f_3)), (h2, .inl (cI, 64, .inl zf)), (h3, .inl (cI, 64, .inl zf))] := hD
  refine lv_aload_n hx hb dX3_noteFresh_91 rfl (lv_at hl 1 rfl) ?_
  refine lv_dup hx hb dX3_noteFresh_92 rfl ?_
  refine va_get (D := D) (ci := 3) (v := .int 0) (C := RX3) (T := TX3) (N := 14) hx hb hts inX3_noteFresh_X3 hown hK hP 0 rfl rfl 10 (by decide) (hts _ wdX3_noteFresh_6) (fun _ h9 => h9) rfl dX3_noteFresh_93 ?_
  refine lv_iload_n hx hb dX3_noteFresh_96 rfl (lv_at hl 2 rfl) ?_
  refine lv_iadd hx hb dX3_noteFresh_97 ?_
  refine lv_topi (fun z_5 ez_5 => ?_)
  obtain rfl : z_5 = 10 := ez_5.trans (by decide)
  refine va_put (D := D) (ci := 3) (v := .int 10) (ty := .int) (C := RX3) (T := TX3) (N := 14) hx hb hts inX3_noteFresh_X3 tyX3 tyX3_ok nmX3 hown hK hP hD hS 0 rfl rfl 10 (by decide) (hts _ wdX3_noteFresh_6) (fun _ h9 => h9) rfl (by decide +kernel) rfl rfl (Nat.le_of_ble_eq_true rfl) dX3_noteFresh_98 (fun H locs hP hD hS => ?_)
  have hP : va_P D vwCl [(h0, .inr (3, [g0, g1, g2, g3, g4, .ref h1, .ref h2, .ref h3, .int 1, .int 8, .int 10, g5, g6, g7])), (h1, .inl (cI, 64, .inl f_3)), (h2, .inl (cI, 64, .inl zf)), (h3, .inl (cI, 64, .inl zf))] H := hP
  have hD : va_D A [(h0, .inr (3, [g0, g1, g2, g3, g4, .ref h1, .ref h2, .ref h3, .int 1, .int 8, .int 10, g5, g6, g7])), (h1, .inl (cI, 64, .inl f_3)), (h2, .inl (cI, 64, .inl zf)), (h3, .inl (cI, 64, .inl zf))] := hD
  refine lv_aload_n hx hb dX3_noteFresh_101 rfl (lv_at hl 1 rfl) ?_
  refine va_get (D := D) (ci := 3) (v := .ref h3) (C := RX3) (T := TX3) (N := 14) hx hb hts inX3_noteFresh_X3 hown hK hP 0 rfl rfl 7 (by decide) (hts _ wdX3_noteFresh_7) (fun _ h9 => h9) rfl dX3_noteFresh_102 ?_
  refine lv_aload_n hx hb dX3_noteFresh_105 rfl (lv_at hl 1 rfl) ?_
  refine va_get (D := D) (ci := 3) (v := .int 8) (C := RX3) (T := TX3) (N := 14) hx hb hts inX3_noteFresh_X3 hown hK hP 0 rfl rfl 9 (by decide) (hts _ wdX3_noteFresh_0) (fun _ h9 => h9) rfl dX3_noteFresh_106 ?_
  refine lv_aload_n hx hb dX3_noteFresh_109 rfl (lv_at hl 1 rfl) ?_
  refine va_get (D := D) (ci := 3) (v := .int 10) (C := RX3) (T := TX3) (N := 14) hx hb hts inX3_noteFresh_X3 hown hK hP 0 rfl rfl 10 (by decide) (hts _ wdX3_noteFresh_6) (fun _ h9 => h9) rfl dX3_noteFresh_110 ?_
  refine va_iast hx hb hK hP hD hS 3 1 rfl rfl (ti_in (a := 8) (by decide) (by decide) (by decide)) dX3_noteFresh_113 (fun H locs hP hD hS => ?_)
  obtain ⟨f_6, ef_6⟩ : ∃ g : Nat → Int32, g = upd zf (Int32.toNatClampNeg 8) 10 := ⟨_, rfl⟩
  rw [← ef_6] at hP hD
  have hP : va_P D vwCl [(h0, .inr (3, [g0, g1, g2, g3, g4, .ref h1, .ref h2, .ref h3, .int 1, .int 8, .int 10, g5, g6, g7])), (h1, .inl (cI, 64, .inl f_3)), (h2, .inl (cI, 64, .inl zf)), (h3, .inl (cI, 64, .inl f_6))] H := hP
  have hD : va_D A [(h0, .inr (3, [g0, g1, g2, g3, g4, .ref h1, .ref h2, .ref h3, .int 1, .int 8, .int 10, g5, g6, g7])), (h1, .inl (cI, 64, .inl f_3)), (h2, .inl (cI, 64, .inl zf)), (h3, .inl (cI, 64, .inl f_6))] := hD
  exact kr_v (f_3, f_6) hx hb hr hlocks hP hD hS trivial dX3_noteFresh_114
set_option maxHeartbeats 4000000 in
set_option maxRecDepth 100000 in
theorem K52_X3_openNext (l : Launch) (D : va_G) (cB cI cZ : ClassId) (sz : Nat) (h0 : Nat) (h1 : Nat) (h2 : Nat) (h3 : Nat) (h4 : Nat) (h5 : Nat) (h6 : Nat)  (g0 : Value) (g1 : Value) (g2 : Value) (g3 : Value)  :
    CtV l D cB cI cZ yX3_openNext wsX3_openNext { frames := 3, cells := 0, slots := 0, locals := 69 } [.ref h0] [(h0, .inr (3, [g0, .ref h1, .ref h2, .ref h3, g1, .ref h4, .ref h5, .ref h6, .int 0, .int 0, .int 0, .int 0, g2, g3])), (h1, .inl (cB, 65536, .inl zf)), (h2, .inl (cI, 64, .inl zf)), (h3, .inl (cZ, 64, .inl zf)), (h4, .inl (cI, 64, .inl zf)), (h5, .inl (cI, 64, .inl zf)), (h6, .inl (cI, 64, .inl zf))] sz 0 0
      (fun (u : (Nat → Int32) × (Nat → Int32) × (Nat → Int32) × (Nat → Int32)) => FB u.2.1)
      (fun u => [(h2, .inl (cI, 64, .inl u.1)), (h3, .inl (cZ, 64, .inl zf)), (h1, .inl (cB, 65536, .inl u.2.1)), (h0, .inr (3, [g0, .ref h1, .ref h2, .ref h3, g1, .ref h4, .ref h5, .ref h6, .int 1, .int 8, .int 10, .int 1, g2, g3])), (h4, .inl (cI, 64, .inl u.2.2.1)), (h5, .inl (cI, 64, .inl zf)), (h6, .inl (cI, 64, .inl u.2.2.2))]) := by
  refine mk_metV (cc := cX3_openNext) (maxL := 3) (ret := none) (by decide) rfl (Nat.le_of_ble_eq_true rfl) ?_
  intro p e s m below meth c A hx hb hr hml hts hown hlocks hin hP hK hN hD hA hS ls hl
  have hown : s.vm.findClass RX3 = some m.cls := hown
  have hl : lv_has ls 3 [(0, .ref h0)] := hl
  refine lv_aload_n hx hb dX3_openNext_0 rfl (lv_at hl 0 rfl) ?_
  refine kc_i (wr := [(h1, .inl (cB, 65536, .inl zf)), (h3, .inl (cZ, 64, .inl zf)), (h4, .inl (cI, 64, .inl zf)), (h5, .inl (cI, 64, .inl zf)), (h6, .inl (cI, 64, .inl zf))]) (va_runV (As := []) (rest := []) ⟨hx, hb, hml, hown, hts⟩ (K53_X3_leastFree l D cB cI cZ _ h0 h2 (g0) ((.ref h1)) ((.ref h3)) (g1) ((.ref h4)) ((.ref h5)) ((.ref h6)) ((.int 0)) ((.int 0)) ((.int 0)) ((.int 0)) (g2) (g3)) (cwV 0 hts gX3_openNext_X3_leastFree rfl rfl rfl (by decide +kernel) ⟨Nat.le_of_ble_eq_true rfl, Nat.le_of_ble_eq_true rfl⟩) (pre_V (q := (RX3, TX3, 14)) (ci := 3) (q0 := 0) (hP.sub [0, 2] rfl) hK hN (hD.sub [0, 2] (by decide) rfl) rfl rfl) rfl rfl hl.1 rfl (lv_room (Nat.le_of_ble_eq_true rfl)) dX3_openNext_1 ⟨Nat.le_of_ble_eq_true rfl, Nat.le_of_ble_eq_true rfl⟩) hP hD hS hA [0, 2] [1, 3, 4, 5, 6] rfl rfl (by decide) (by decide) (fun r_1 u H locs hw hP hD hS => ?_)
  have k_2 := hw
  obtain rfl : r_1 = 8 := k_2
  have hP : va_P D vwCl [(h1, .inl (cB, 65536, .inl zf)), (h3, .inl (cZ, 64, .inl zf)), (h4, .inl (cI, 64, .inl zf)), (h5, .inl (cI, 64, .inl zf)), (h6, .inl (cI, 64, .inl zf)), (h0, .inr (3, [g0, .ref h1, .ref h2, .ref h3, g1, .ref h4, .ref h5, .ref h6, .int 0, .int 0, .int 0, .int 0, g2, g3])), (h2, .inl (cI, 64, .inl zf))] H := hP
  have hD : va_D A [(h1, .inl (cB, 65536, .inl zf)), (h3, .inl (cZ, 64, .inl zf)), (h4, .inl (cI, 64, .inl zf)), (h5, .inl (cI, 64, .inl zf)), (h6, .inl (cI, 64, .inl zf)), (h0, .inr (3, [g0, .ref h1, .ref h2, .ref h3, g1, .ref h4, .ref h5, .ref h6, .int 0, .int 0, .int 0, .int 0, g2, g3])), (h2, .inl (cI, 64, .inl zf))] := hD
  refine lv_istore_n (lv' := [(1, .int 8), (0, .ref h0)]) hx hb dX3_openNext_4 rfl hl (by decide) rfl (fun ls hl => ?_)
  refine lv_iload_n hx hb dX3_openNext_5 rfl (lv_at hl 0 rfl) ?_
  refine lv_if_ne (tgt := 10) hx hb dX3_openNext_6 (by decide) (fun c => ?_) (fun c => absurd c (by decide))
  refine lv_aload_n hx hb dX3_openNext_10 rfl (lv_at hl 1 rfl) ?_
  refine lv_iload_n hx hb dX3_openNext_11 rfl (lv_at hl 0 rfl) ?_
  refine kc_v (wr := [(h1, .inl (cB, 65536, .inl zf)), (h3, .inl (cZ, 64, .inl zf)), (h4, .inl (cI, 64, .inl zf)), (h5, .inl (cI, 64, .inl zf)), (h6, .inl (cI, 64, .inl zf))]) (va_runV (As := [.int 8]) (rest := []) ⟨hx, hb, hml, hown, hts⟩ (K54_X3_use l D cB cI cZ _ h0 h2 (g0) ((.ref h1)) ((.ref h3)) (g1) ((.ref h4)) ((.ref h5)) ((.ref h6)) ((.int 0)) ((.int 0)) ((.int 0)) ((.int 0)) (g2) (g3)) (cwV 1 hts gX3_openNext_X3_use rfl rfl rfl (by decide +kernel) ⟨Nat.le_of_ble_eq_true rfl, Nat.le_of_ble_eq_true rfl⟩) (pre_V (q := (RX3, TX3, 14)) (ci := 3) (q0 := 0) (hP.sub [5, 6] rfl) hK hN (hD.sub [5, 6] (by decide) rfl) rfl rfl) rfl rfl hl.1 rfl (lv_room (Nat.le_of_ble_eq_true rfl)) dX3_openNext_12 ⟨Nat.le_of_ble_eq_true rfl, Nat.le_of_ble_eq_true rfl⟩) hP hD hS hA [5, 6] [0, 1, 2, 3, 4] rfl rfl (by decide) (by decide) (fun  u H locs hw hP hD hS => ?_)
  obtain ⟨f_3, rfl⟩ : ∃ z, z = u := ⟨_, rfl⟩
  have hP : va_P D vwCl [(h1, .inl (cB, 65536, .inl zf)), (h3, .inl (cZ, 64, .inl zf)), (h4, .inl (cI, 64, .inl zf)), (h5, .inl (cI, 64, .inl zf)), (h6, .inl (cI, 64, .inl zf)), (h0, .inr (3, [g0, .ref h1, .ref h2, .ref h3, g1, .ref h4, .ref h5, .ref h6, .int 0, .int 0, .int 0, .int 0, g2, g3])), (h2, .inl (cI, 64, .inl f_3))] H := hP
  have hD : va_D A [(h1, .inl (cB, 65536, .inl zf)), (h3, .inl (cZ, 64, .inl zf)), (h4, .inl (cI, 64, .inl zf)), (h5, .inl (cI, 64, .inl zf)), (h6, .inl (cI, 64, .inl zf)), (h0, .inr (3, [g0, .ref h1, .ref h2, .ref h3, g1, .ref h4, .ref h5, .ref h6, .int 0, .int 0, .int 0, .int 0, g2, g3])), (h2, .inl (cI, 64, .inl f_3))] := hD
  refine lv_aload_n hx hb dX3_openNext_15 rfl (lv_at hl 1 rfl) ?_
  refine lv_iload_n hx hb dX3_openNext_16 rfl (lv_at hl 0 rfl) ?_
  refine kc_v (wr := [(h1, .inl (cB, 65536, .inl zf)), (h4, .inl (cI, 64, .inl zf)), (h5, .inl (cI, 64, .inl zf)), (h6, .inl (cI, 64, .inl zf)), (h2, .inl (cI, 64, .inl f_3))]) (va_runV (As := [.int 8]) (rest := []) ⟨hx, hb, hml, hown, hts⟩ (K56_X3_forgetTimes l D cB cI cZ _ h0 h3 (g0) ((.ref h1)) ((.ref h2)) (g1) ((.ref h4)) ((.ref h5)) ((.ref h6)) ((.int 0)) ((.int 0)) ((.int 0)) ((.int 0)) (g2) (g3)) (cwV 1 hts gX3_openNext_X3_forgetTimes rfl rfl rfl (by decide +kernel) ⟨Nat.le_of_ble_eq_true rfl, Nat.le_of_ble_eq_true rfl⟩) (pre_V (q := (RX3, TX3, 14)) (ci := 3) (q0 := 0) (hP.sub [5, 1] rfl) hK hN (hD.sub [5, 1] (by decide) rfl) rfl rfl) rfl rfl hl.1 rfl (lv_room (Nat.le_of_ble_eq_true rfl)) dX3_openNext_17 ⟨Nat.le_of_ble_eq_true rfl, Nat.le_of_ble_eq_true rfl⟩) hP hD hS hA [5, 1] [0, 2, 3, 4, 6] rfl rfl (by decide) (by decide) (fun  u H locs hw hP hD hS => ?_)
  have hP : va_P D vwCl [(h1, .inl (cB, 65536, .inl zf)), (h4, .inl (cI, 64, .inl zf)), (h5, .inl (cI, 64, .inl zf)), (h6, .inl (cI, 64, .inl zf)), (h2, .inl (cI, 64, .inl f_3)), (h0, .inr (3, [g0, .ref h1, .ref h2, .ref h3, g1, .ref h4, .ref h5, .ref h6, .int 0, .int 0, .int 0, .int 0, g2, g3])), (h3, .inl (cZ, 64, .inl zf))] H := hP
  have hD : va_D A [(h1, .inl (cB, 65536, .inl zf)), (h4, .inl (cI, 64, .inl zf)), (h5, .inl (cI, 64, .inl zf)), (h6, .inl (cI, 64, .inl zf)), (h2, .inl (cI, 64, .inl f_3)), (h0, .inr (3, [g0, .ref h1, .ref h2, .ref h3, g1, .ref h4, .ref h5, .ref h6, .int 0, .int 0, .int 0, .int 0, g2, g3])), (h3, .inl (cZ, 64, .inl zf))] := hD
  refine lv_aload_n hx hb dX3_openNext_20 rfl (lv_at hl 1 rfl) ?_
  refine lv_iload_n hx hb dX3_openNext_21 rfl (lv_at hl 0 rfl) ?_
  refine va_put (D := D) (ci := 3) (v := .int 8) (ty := .int) (C := RX3) (T := TX3) (N := 14) hx hb hts inX3_openNext_X3 tyX3 tyX3_ok nmX3 hown hK hP hD hS 5 rfl rfl 9 (by decide) (hts _ wdX3_openNext_0) (fun _ h9 => h9) rfl (by decide +kernel) rfl rfl (Nat.le_of_ble_eq_true rfl) dX3_openNext_22 (fun H locs hP hD hS => ?_)
  have hP : va_P D vwCl [(h1, .inl (cB, 65536, .inl zf)), (h4, .inl (cI, 64, .inl zf)), (h5, .inl (cI, 64, .inl zf)), (h6, .inl (cI, 64, .inl zf)), (h2, .inl (cI, 64, .inl f_3)), (h0, .inr (3, [g0, .ref h1, .ref h2, .ref h3, g1, .ref h4, .ref h5, .ref h6, .int 0, .int 8, .int 0, .int 0, g2, g3])), (h3, .inl (cZ, 64, .inl zf))] H := hP
  have hD : va_D A [(h1, .inl (cB, 65536, .inl zf)), (h4, .inl (cI, 64, .inl zf)), (h5, .inl (cI, 64, .inl zf)), (h6, .inl (cI, 64, .inl zf)), (h2, .inl (cI, 64, .inl f_3)), (h0, .inr (3, [g0, .ref h1, .ref h2, .ref h3, g1, .ref h4, .ref h5, .ref h6, .int 0, .int 8, .int 0, .int 0, g2, g3])), (h3, .inl (cZ, 64, .inl zf))] := hD
  refine lv_aload_n hx hb dX3_openNext_25 rfl (lv_at hl 1 rfl) ?_
  refine lv_iconst (v := 0) hx hb dX3_openNext_26 (by decide) ?_
  refine va_put (D := D) (ci := 3) (v := .int 0) (ty := .int) (C := RX3) (T := TX3) (N := 14) hx hb hts inX3_openNext_X3 tyX3 tyX3_ok nmX3 hown hK hP hD hS 5 rfl rfl 10 (by decide) (hts _ wdX3_openNext_1) (fun _ h9 => h9) rfl (by decide +kernel) rfl rfl (Nat.le_of_ble_eq_true rfl) dX3_openNext_27 (fun H locs hP hD hS => ?_)
  have hP : va_P D vwCl [(h1, .inl (cB, 65536, .inl zf)), (h4, .inl (cI, 64, .inl zf)), (h5, .inl (cI, 64, .inl zf)), (h6, .inl (cI, 64, .inl zf)), (h2, .inl (cI, 64, .inl f_3)), (h0, .inr (3, [g0, .ref h1, .ref h2, .ref h3, g1, .ref h4, .ref h5, .ref h6, .int 0, .int 8, .int 0, .int 0, g2, g3])), (h3, .inl (cZ, 64, .inl zf))] H := hP
  have hD : va_D A [(h1, .inl (cB, 65536, .inl zf)), (h4, .inl (cI, 64, .inl zf)), (h5, .inl (cI, 64, .inl zf)), (h6, .inl (cI, 64, .inl zf)), (h2, .inl (cI, 64, .inl f_3)), (h0, .inr (3, [g0, .ref h1, .ref h2, .ref h3, g1, .ref h4, .ref h5, .ref h6, .int 0, .int 8, .int 0, .int 0, g2, g3])), (h3, .inl (cZ, 64, .inl zf))] := hD
  refine lv_aload_n hx hb dX3_openNext_30 rfl (lv_at hl 1 rfl) ?_
  refine lv_dup hx hb dX3_openNext_31 rfl ?_
  refine va_get (D := D) (ci := 3) (v := .int 0) (C := RX3) (T := TX3) (N := 14) hx hb hts inX3_openNext_X3 hown hK hP 5 rfl rfl 11 (by decide) (hts _ wdX3_openNext_2) (fun _ h9 => h9) rfl dX3_openNext_32 ?_
  refine lv_iconst (v := 1) hx hb dX3_openNext_35 (by decide) ?_
  refine lv_iadd hx hb dX3_openNext_36 ?_
  refine lv_topi (fun z_4 ez_4 => ?_)
  obtain rfl : z_4 = 1 := ez_4.trans (by decide)
  refine va_put (D := D) (ci := 3) (v := .int 1) (ty := .int) (C := RX3) (T := TX3) (N := 14) hx hb hts inX3_openNext_X3 tyX3 tyX3_ok nmX3 hown hK hP hD hS 5 rfl rfl 11 (by decide) (hts _ wdX3_openNext_2) (fun _ h9 => h9) rfl (by decide +kernel) rfl rfl (Nat.le_of_ble_eq_true rfl) dX3_openNext_37 (fun H locs hP hD hS => ?_)
  have hP : va_P D vwCl [(h1, .inl (cB, 65536, .inl zf)), (h4, .inl (cI, 64, .inl zf)), (h5, .inl (cI, 64, .inl zf)), (h6, .inl (cI, 64, .inl zf)), (h2, .inl (cI, 64, .inl f_3)), (h0, .inr (3, [g0, .ref h1, .ref h2, .ref h3, g1, .ref h4, .ref h5, .ref h6, .int 0, .int 8, .int 0, .int 1, g2, g3])), (h3, .inl (cZ, 64, .inl zf))] H := hP
  have hD : va_D A [(h1, .inl (cB, 65536, .inl zf)), (h4, .inl (cI, 64, .inl zf)), (h5, .inl (cI, 64, .inl zf)), (h6, .inl (cI, 64, .inl zf)), (h2, .inl (cI, 64, .inl f_3)), (h0, .inr (3, [g0, .ref h1, .ref h2, .ref h3, g1, .ref h4, .ref h5, .ref h6, .int 0, .int 8, .int 0, .int 1, g2, g3])), (h3, .inl (cZ, 64, .inl zf))] := hD
  refine lv_iload_n hx hb dX3_openNext_40 rfl (lv_at hl 0 rfl) ?_
  refine lv_sipush (v := 1024) hx hb dX3_openNext_41 (by decide) ?_
  refine lv_imul hx hb dX3_openNext_44 ?_
  refine lv_topi (fun z_5 ez_5 => ?_)
  obtain rfl : z_5 = 8192 := ez_5.trans (by decide)
  refine lv_istore_n (lv' := [(2, .int 8192), (1, .int 8), (0, .ref h0)]) hx hb dX3_openNext_45 rfl hl (by decide) rfl (fun ls hl => ?_)
  refine lv_aload_n hx hb dX3_openNext_46 rfl (lv_at hl 2 rfl) ?_
  refine va_get (D := D) (ci := 3) (v := .ref h1) (C := RX3) (T := TX3) (N := 14) hx hb hts inX3_openNext_X3 hown hK hP 5 rfl rfl 1 (by decide) (hts _ wdX3_openNext_3) (fun _ h9 => h9) rfl dX3_openNext_47 ?_
  refine lv_iload_n hx hb dX3_openNext_50 rfl (lv_at hl 0 rfl) ?_
  refine lv_sipush (v := 1024) hx hb dX3_openNext_51 (by decide) ?_
  refine kc_v (wr := [(h4, .inl (cI, 64, .inl zf)), (h5, .inl (cI, 64, .inl zf)), (h6, .inl (cI, 64, .inl zf)), (h2, .inl (cI, 64, .inl f_3)), (h0, .inr (3, [g0, .ref h1, .ref h2, .ref h3, g1, .ref h4, .ref h5, .ref h6, .int 0, .int 8, .int 0, .int 1, g2, g3])), (h3, .inl (cZ, 64, .inl zf))]) (va_runS (As := [.ref h1, .int 8192, .int 1024]) (rest := []) ⟨hx, hb, hml, hown, hts⟩ (K57_X4_clear l D cB cI cZ _ h1) (va_cwS 3 hts gX3_openNext_X4_clear rfl rfl rfl (by decide +kernel) ⟨Nat.le_of_ble_eq_true rfl, Nat.le_of_ble_eq_true rfl⟩) (pre_S (hP.sub [0] rfl) hK hN (hD.sub [0] (by decide) rfl)) rfl rfl hl.1 rfl (lv_room (Nat.le_of_ble_eq_true rfl)) dX3_openNext_54 ⟨Nat.le_of_ble_eq_true rfl, Nat.le_of_ble_eq_true rfl⟩) hP hD hS hA [0] [1, 2, 3, 4, 5, 6] rfl rfl (by decide) (by decide) (fun  u H locs hw hP hD hS => ?_)
  have hP : va_P D vwCl [(h4, .inl (cI, 64, .inl zf)), (h5, .inl (cI, 64, .inl zf)), (h6, .inl (cI, 64, .inl zf)), (h2, .inl (cI, 64, .inl f_3)), (h0, .inr (3, [g0, .ref h1, .ref h2, .ref h3, g1, .ref h4, .ref h5, .ref h6, .int 0, .int 8, .int 0, .int 1, g2, g3])), (h3, .inl (cZ, 64, .inl zf)), (h1, .inl (cB, 65536, .inl zf))] H := hP
  have hD : va_D A [(h4, .inl (cI, 64, .inl zf)), (h5, .inl (cI, 64, .inl zf)), (h6, .inl (cI, 64, .inl zf)), (h2, .inl (cI, 64, .inl f_3)), (h0, .inr (3, [g0, .ref h1, .ref h2, .ref h3, g1, .ref h4, .ref h5, .ref h6, .int 0, .int 8, .int 0, .int 1, g2, g3])), (h3, .inl (cZ, 64, .inl zf)), (h1, .inl (cB, 65536, .inl zf))] := hD
  refine lv_aload_n hx hb dX3_openNext_57 rfl (lv_at hl 2 rfl) ?_
  refine va_get (D := D) (ci := 3) (v := .ref h1) (C := RX3) (T := TX3) (N := 14) hx hb hts inX3_openNext_X3 hown hK hP 4 rfl rfl 1 (by decide) (hts _ wdX3_openNext_3) (fun _ h9 => h9) rfl dX3_openNext_58 ?_
  refine lv_iload_n hx hb dX3_openNext_61 rfl (lv_at hl 0 rfl) ?_
  refine lv_iconst (v := 1) hx hb dX3_openNext_62 (by decide) ?_
  refine lv_bipush (v := 76) hx hb dX3_openNext_63 (by decide) ?_
  refine kc_v (wr := [(h4, .inl (cI, 64, .inl zf)), (h5, .inl (cI, 64, .inl zf)), (h6, .inl (cI, 64, .inl zf)), (h2, .inl (cI, 64, .inl f_3)), (h0, .inr (3, [g0, .ref h1, .ref h2, .ref h3, g1, .ref h4, .ref h5, .ref h6, .int 0, .int 8, .int 0, .int 1, g2, g3])), (h3, .inl (cZ, 64, .inl zf))]) (va_runS (As := [.ref h1, .int 8192, .int 1, .int 76]) (rest := []) ⟨hx, hb, hml, hown, hts⟩ (K59_X4_setNumber l D cB cI cZ _ h1 8192 76 (by decide)) (va_cwS 4 hts gX3_openNext_X4_setNumber rfl rfl rfl (by decide +kernel) ⟨Nat.le_of_ble_eq_true rfl, Nat.le_of_ble_eq_true rfl⟩) (pre_S (hP.sub [6] rfl) hK hN (hD.sub [6] (by decide) rfl)) rfl rfl hl.1 rfl (lv_room (Nat.le_of_ble_eq_true rfl)) dX3_openNext_65 ⟨Nat.le_of_ble_eq_true rfl, Nat.le_of_ble_eq_true rfl⟩) hP hD hS hA [6] [0, 1, 2, 3, 4, 5] rfl rfl (by decide) (by decide) (fun  u H locs hw hP hD hS => ?_)
  obtain ⟨f_6, rfl⟩ : ∃ z, z = u := ⟨_, rfl⟩
  obtain ⟨bf_6, ek_7⟩ := hw
  have bf_6 : FB f_6 := bf_6
  have hP : va_P D vwCl [(h4, .inl (cI, 64, .inl zf)), (h5, .inl (cI, 64, .inl zf)), (h6, .inl (cI, 64, .inl zf)), (h2, .inl (cI, 64, .inl f_3)), (h0, .inr (3, [g0, .ref h1, .ref h2, .ref h3, g1, .ref h4, .ref h5, .ref h6, .int 0, .int 8, .int 0, .int 1, g2, g3])), (h3, .inl (cZ, 64, .inl zf)), (h1, .inl (cB, 65536, .inl f_6))] H := hP
  have hD : va_D A [(h4, .inl (cI, 64, .inl zf)), (h5, .inl (cI, 64, .inl zf)), (h6, .inl (cI, 64, .inl zf)), (h2, .inl (cI, 64, .inl f_3)), (h0, .inr (3, [g0, .ref h1, .ref h2, .ref h3, g1, .ref h4, .ref h5, .ref h6, .int 0, .int 8, .int 0, .int 1, g2, g3])), (h3, .inl (cZ, 64, .inl zf)), (h1, .inl (cB, 65536, .inl f_6))] := hD
  refine lv_aload_n hx hb dX3_openNext_68 rfl (lv_at hl 2 rfl) ?_
  refine va_get (D := D) (ci := 3) (v := .ref h1) (C := RX3) (T := TX3) (N := 14) hx hb hts inX3_openNext_X3 hown hK hP 4 rfl rfl 1 (by decide) (hts _ wdX3_openNext_3) (fun _ h9 => h9) rfl dX3_openNext_69 ?_
  refine lv_iload_n hx hb dX3_openNext_72 rfl (lv_at hl 0 rfl) ?_
  refine lv_iconst (v := 1) hx hb dX3_openNext_73 (by decide) ?_
  refine lv_iadd hx hb dX3_openNext_74 ?_
  refine lv_topi (fun z_8 ez_8 => ?_)
  obtain rfl : z_8 = 8193 := ez_8.trans (by decide)
  refine lv_iconst (v := 1) hx hb dX3_openNext_75 (by decide) ?_
  refine lv_bipush (v := 71) hx hb dX3_openNext_76 (by decide) ?_
  refine kc_v (wr := [(h4, .inl (cI, 64, .inl zf)), (h5, .inl (cI, 64, .inl zf)), (h6, .inl (cI, 64, .inl zf)), (h2, .inl (cI, 64, .inl f_3)), (h0, .inr (3, [g0, .ref h1, .ref h2, .ref h3, g1, .ref h4, .ref h5, .ref h6, .int 0, .int 8, .int 0, .int 1, g2, g3])), (h3, .inl (cZ, 64, .inl zf))]) (va_runS (As := [.ref h1, .int 8193, .int 1, .int 71]) (rest := []) ⟨hx, hb, hml, hown, hts⟩ (K61_X4_setNumber l D cB cI cZ _ h1 8193 71 f_6 (by decide) bf_6) (va_cwS 4 hts gX3_openNext_X4_setNumber rfl rfl rfl (by decide +kernel) ⟨Nat.le_of_ble_eq_true rfl, Nat.le_of_ble_eq_true rfl⟩) (pre_S (hP.sub [6] rfl) hK hN (hD.sub [6] (by decide) rfl)) rfl rfl hl.1 rfl (lv_room (Nat.le_of_ble_eq_true rfl)) dX3_openNext_78 ⟨Nat.le_of_ble_eq_true rfl, Nat.le_of_ble_eq_true rfl⟩) hP hD hS hA [6] [0, 1, 2, 3, 4, 5] rfl rfl (by decide) (by decide) (fun  u H locs hw hP hD hS => ?_)
  obtain ⟨f_9, rfl⟩ : ∃ z, z = u := ⟨_, rfl⟩
  have bf_9 := hw
  have bf_9 : FB f_9 := bf_9
  have hP : va_P D vwCl [(h4, .inl (cI, 64, .inl zf)), (h5, .inl (cI, 64, .inl zf)), (h6, .inl (cI, 64, .inl zf)), (h2, .inl (cI, 64, .inl f_3)), (h0, .inr (3, [g0, .ref h1, .ref h2, .ref h3, g1, .ref h4, .ref h5, .ref h6, .int 0, .int 8, .int 0, .int 1, g2, g3])), (h3, .inl (cZ, 64, .inl zf)), (h1, .inl (cB, 65536, .inl f_9))] H := hP
  have hD : va_D A [(h4, .inl (cI, 64, .inl zf)), (h5, .inl (cI, 64, .inl zf)), (h6, .inl (cI, 64, .inl zf)), (h2, .inl (cI, 64, .inl f_3)), (h0, .inr (3, [g0, .ref h1, .ref h2, .ref h3, g1, .ref h4, .ref h5, .ref h6, .int 0, .int 8, .int 0, .int 1, g2, g3])), (h3, .inl (cZ, 64, .inl zf)), (h1, .inl (cB, 65536, .inl f_9))] := hD
  refine lv_aload_n hx hb dX3_openNext_81 rfl (lv_at hl 2 rfl) ?_
  refine va_get (D := D) (ci := 3) (v := .ref h1) (C := RX3) (T := TX3) (N := 14) hx hb hts inX3_openNext_X3 hown hK hP 4 rfl rfl 1 (by decide) (hts _ wdX3_openNext_3) (fun _ h9 => h9) rfl dX3_openNext_82 ?_
  refine lv_iload_n hx hb dX3_openNext_85 rfl (lv_at hl 0 rfl) ?_
  refine lv_iconst (v := 2) hx hb dX3_openNext_86 (by decide) ?_
  refine lv_iadd hx hb dX3_openNext_87 ?_
  refine lv_topi (fun z_10 ez_10 => ?_)
  obtain rfl : z_10 = 8194 := ez_10.trans (by decide)
  refine lv_iconst (v := 4) hx hb dX3_openNext_88 (by decide) ?_
  refine lv_aload_n hx hb dX3_openNext_89 rfl (lv_at hl 2 rfl) ?_
  refine va_get (D := D) (ci := 3) (v := .int 1) (C := RX3) (T := TX3) (N := 14) hx hb hts inX3_openNext_X3 hown hK hP 4 rfl rfl 11 (by decide) (hts _ wdX3_openNext_2) (fun _ h9 => h9) rfl dX3_openNext_90 ?_
  refine kc_v (wr := [(h4, .inl (cI, 64, .inl zf)), (h5, .inl (cI, 64, .inl zf)), (h6, .inl (cI, 64, .inl zf)), (h2, .inl (cI, 64, .inl f_3)), (h0, .inr (3, [g0, .ref h1, .ref h2, .ref h3, g1, .ref h4, .ref h5, .ref h6, .int 0, .int 8, .int 0, .int 1, g2, g3])), (h3, .inl (cZ, 64, .inl zf))]) (va_runS (As := [.ref h1, .int 8194, .int 4, .int 1]) (rest := []) ⟨hx, hb, hml, hown, hts⟩ (K63_X4_setNumber l D cB cI cZ _ h1 8194 1 f_9 (by decide) bf_9) (va_cwS 4 hts gX3_openNext_X4_setNumber rfl rfl rfl (by decide +kernel) ⟨Nat.le_of_ble_eq_true rfl, Nat.le_of_ble_eq_true rfl⟩) (pre_S (hP.sub [6] rfl) hK hN (hD.sub [6] (by decide) rfl)) rfl rfl hl.1 rfl (lv_room (Nat.le_of_ble_eq_true rfl)) dX3_openNext_93 ⟨Nat.le_of_ble_eq_true rfl, Nat.le_of_ble_eq_true rfl⟩) hP hD hS hA [6] [0, 1, 2, 3, 4, 5] rfl rfl (by decide) (by decide) (fun  u H locs hw hP hD hS => ?_)
  obtain ⟨f_11, rfl⟩ : ∃ z, z = u := ⟨_, rfl⟩
  have bf_11 := hw
  have bf_11 : FB f_11 := bf_11
  have hP : va_P D vwCl [(h4, .inl (cI, 64, .inl zf)), (h5, .inl (cI, 64, .inl zf)), (h6, .inl (cI, 64, .inl zf)), (h2, .inl (cI, 64, .inl f_3)), (h0, .inr (3, [g0, .ref h1, .ref h2, .ref h3, g1, .ref h4, .ref h5, .ref h6, .int 0, .int 8, .int 0, .int 1, g2, g3])), (h3, .inl (cZ, 64, .inl zf)), (h1, .inl (cB, 65536, .inl f_11))] H := hP
  have hD : va_D A [(h4, .inl (cI, 64, .inl zf)), (h5, .inl (cI, 64, .inl zf)), (h6, .inl (cI, 64, .inl zf)), (h2, .inl (cI, 64, .inl f_3)), (h0, .inr (3, [g0, .ref h1, .ref h2, .ref h3, g1, .ref h4, .ref h5, .ref h6, .int 0, .int 8, .int 0, .int 1, g2, g3])), (h3, .inl (cZ, 64, .inl zf)), (h1, .inl (cB, 65536, .inl f_11))] := hD
  refine lv_aload_n hx hb dX3_openNext_96 rfl (lv_at hl 2 rfl) ?_
  refine va_get (D := D) (ci := 3) (v := .ref h1) (C := RX3) (T := TX3) (N := 14) hx hb hts inX3_openNext_X3 hown hK hP 4 rfl rfl 1 (by decide) (hts _ wdX3_openNext_3) (fun _ h9 => h9) rfl dX3_openNext_97 ?_
  refine lv_iload_n hx hb dX3_openNext_100 rfl (lv_at hl 0 rfl) ?_
  refine lv_bipush (v := 6) hx hb dX3_openNext_101 (by decide) ?_
  refine kc_v (wr := [(h4, .inl (cI, 64, .inl zf)), (h5, .inl (cI, 64, .inl zf)), (h6, .inl (cI, 64, .inl zf)), (h2, .inl (cI, 64, .inl f_3)), (h0, .inr (3, [g0, .ref h1, .ref h2, .ref h3, g1, .ref h4, .ref h5, .ref h6, .int 0, .int 8, .int 0, .int 1, g2, g3])), (h3, .inl (cZ, 64, .inl zf))]) (va_runS (As := [.ref h1, .int 8192, .int 6]) (rest := []) ⟨hx, hb, hml, hown, hts⟩ (K65_X4_setSum l D cB cI cZ _ h1 f_11 bf_11) (va_cwS 3 hts gX3_openNext_X4_setSum rfl rfl rfl (by decide +kernel) ⟨Nat.le_of_ble_eq_true rfl, Nat.le_of_ble_eq_true rfl⟩) (pre_S (hP.sub [6] rfl) hK hN (hD.sub [6] (by decide) rfl)) rfl rfl hl.1 rfl (lv_room (Nat.le_of_ble_eq_true rfl)) dX3_openNext_103 ⟨Nat.le_of_ble_eq_true rfl, Nat.le_of_ble_eq_true rfl⟩) hP hD hS hA [6] [0, 1, 2, 3, 4, 5] rfl rfl (by decide) (by decide) (fun  u H locs hw hP hD hS => ?_)
  obtain ⟨f_12, rfl⟩ : ∃ z, z = u := ⟨_, rfl⟩
  have bf_12 := hw
  have bf_12 : FB f_12 := bf_12
  have hP : va_P D vwCl [(h4, .inl (cI, 64, .inl zf)), (h5, .inl (cI, 64, .inl zf)), (h6, .inl (cI, 64, .inl zf)), (h2, .inl (cI, 64, .inl f_3)), (h0, .inr (3, [g0, .ref h1, .ref h2, .ref h3, g1, .ref h4, .ref h5, .ref h6, .int 0, .int 8, .int 0, .int 1, g2, g3])), (h3, .inl (cZ, 64, .inl zf)), (h1, .inl (cB, 65536, .inl f_12))] H := hP
  have hD : va_D A [(h4, .inl (cI, 64, .inl zf)), (h5, .inl (cI, 64, .inl zf)), (h6, .inl (cI, 64, .inl zf)), (h2, .inl (cI, 64, .inl f_3)), (h0, .inr (3, [g0, .ref h1, .ref h2, .ref h3, g1, .ref h4, .ref h5, .ref h6, .int 0, .int 8, .int 0, .int 1, g2, g3])), (h3, .inl (cZ, 64, .inl zf)), (h1, .inl (cB, 65536, .inl f_12))] := hD
  refine lv_aload_n hx hb dX3_openNext_106 rfl (lv_at hl 2 rfl) ?_
  refine lv_bipush (v := 10) hx hb dX3_openNext_107 (by decide) ?_
  refine kc_v (wr := [(h2, .inl (cI, 64, .inl f_3)), (h3, .inl (cZ, 64, .inl zf)), (h1, .inl (cB, 65536, .inl f_12))]) (va_runV (As := [.int 10]) (rest := []) ⟨hx, hb, hml, hown, hts⟩ (K69_X3_noteFresh l D cB cI cZ _ h0 h4 h5 h6 (g0) ((.ref h1)) ((.ref h2)) ((.ref h3)) (g1) ((.int 1)) (g2) (g3)) (cwV 1 hts gX3_openNext_X3_noteFresh rfl rfl rfl (by decide +kernel) ⟨Nat.le_of_ble_eq_true rfl, Nat.le_of_ble_eq_true rfl⟩) (pre_V (q := (RX3, TX3, 14)) (ci := 3) (q0 := 0) (hP.sub [4, 0, 1, 2] rfl) hK hN (hD.sub [4, 0, 1, 2] (by decide) rfl) rfl rfl) rfl rfl hl.1 rfl (lv_room (Nat.le_of_ble_eq_true rfl)) dX3_openNext_109 ⟨Nat.le_of_ble_eq_true rfl, Nat.le_of_ble_eq_true rfl⟩) hP hD hS hA [4, 0, 1, 2] [3, 5, 6] rfl rfl (by decide) (by decide) (fun  u H locs hw hP hD hS => ?_)
  obtain ⟨f_13, f_14⟩ := u
  have hP : va_P D vwCl [(h2, .inl (cI, 64, .inl f_3)), (h3, .inl (cZ, 64, .inl zf)), (h1, .inl (cB, 65536, .inl f_12)), (h0, .inr (3, [g0, .ref h1, .ref h2, .ref h3, g1, .ref h4, .ref h5, .ref h6, .int 1, .int 8, .int 10, .int 1, g2, g3])), (h4, .inl (cI, 64, .inl f_13)), (h5, .inl (cI, 64, .inl zf)), (h6, .inl (cI, 64, .inl f_14))] H := hP
  have hD : va_D A [(h2, .inl (cI, 64, .inl f_3)), (h3, .inl (cZ, 64, .inl zf)), (h1, .inl (cB, 65536, .inl f_12)), (h0, .inr (3, [g0, .ref h1, .ref h2, .ref h3, g1, .ref h4, .ref h5, .ref h6, .int 1, .int 8, .int 10, .int 1, g2, g3])), (h4, .inl (cI, 64, .inl f_13)), (h5, .inl (cI, 64, .inl zf)), (h6, .inl (cI, 64, .inl f_14))] := hD
  exact kr_v (f_3, f_12, f_13, f_14) hx hb hr hlocks hP hD hS bf_12 dX3_openNext_112
set_option maxHeartbeats 4000000 in
set_option maxRecDepth 100000 in
theorem K71_X4_isWithin (l : Launch) (D : va_G) (cB cI cZ : ClassId) (sz : Nat) (h0 : Nat)  (p0 : Int32) (f0 : Nat → Int32) (i_p0 : 0 ≤ p0.toInt ∧ p0.toInt ≤ 65534) (b_f0 : FB f0) :
    CtI l D cB cI cZ yX4_isWithin wsX4_isWithin { frames := 0, cells := 0, slots := 0, locals := 0 } [.ref h0, .int p0, .int 2] [(h0, .inl (cB, 65536, .inl f0))] sz 0 0
      (fun (r : Int32) (u : Unit) => r = 1)
      (fun u => [(h0, .inl (cB, 65536, .inl f0))]) := by
  refine mk_metI (cc := cX4_isWithin) (maxL := 3) (ret := (some .boolean)) (by decide) rfl (Nat.le_of_ble_eq_true rfl) ?_
  intro p e s m below meth c A hx hb hr hml hts hown hlocks hin hP hK hN hD hA hS ls hl
  have hown : s.vm.findClass RX4 = some m.cls := hown
  have hl : lv_has ls 3 [(0, .ref h0), (1, .int p0), (2, .int 2)] := hl
  refine lv_iload_n hx hb dX4_isWithin_0 rfl (lv_at hl 1 rfl) ?_
  refine lv_if_lt (tgt := 26) hx hb dX4_isWithin_1 (by decide) (fun c => absurd ((ti_lt (x := p0) (y := 0) (a := p0.toInt) (b := 0) rfl (by decide)).mp c) (by omega)) (fun c => ?_)
  refine lv_iload_n hx hb dX4_isWithin_4 rfl (lv_at hl 2 rfl) ?_
  refine lv_if_lt (tgt := 26) hx hb dX4_isWithin_5 (by decide) (fun c => absurd c (by decide)) (fun c => ?_)
  refine lv_iload_n hx hb dX4_isWithin_8 rfl (lv_at hl 2 rfl) ?_
  refine lv_aload_n hx hb dX4_isWithin_9 rfl (lv_at hl 0 rfl) ?_
  refine va_alen (v := 65536) hx hb hK hP 0 0 rfl rfl (show Int32.ofNat 65536 = 65536 by decide) dX4_isWithin_10 ?_
  refine lv_icmp_gt (tgt := 26) hx hb dX4_isWithin_11 (by decide) (fun c => absurd c (by decide)) (fun c => ?_)
  refine lv_iload_n hx hb dX4_isWithin_14 rfl (lv_at hl 1 rfl) ?_
  refine lv_aload_n hx hb dX4_isWithin_15 rfl (lv_at hl 0 rfl) ?_
  refine va_alen (v := 65536) hx hb hK hP 0 0 rfl rfl (show Int32.ofNat 65536 = 65536 by decide) dX4_isWithin_16 ?_
  refine lv_iload_n hx hb dX4_isWithin_17 rfl (lv_at hl 2 rfl) ?_
  refine lv_isub hx hb dX4_isWithin_18 ?_
  refine lv_topi (fun z_1 ez_1 => ?_)
  obtain rfl : z_1 = 65534 := ez_1.trans (by decide)
  refine lv_icmp_gt (tgt := 26) hx hb dX4_isWithin_19 (by decide) (fun c => absurd ((ti_lt (x := 65534) (y := p0) (a := 65534) (b := p0.toInt) (by decide) rfl).mp c) (by omega)) (fun c => ?_)
  refine lv_iconst (v := 1) hx hb dX4_isWithin_22 (by decide) ?_
  refine lv_goto (tgt := 27) hx hb dX4_isWithin_23 (by decide) ?_
  exact kr_z () hx hb hr rfl hlocks hP hD hS rfl dX4_isWithin_27
set_option maxHeartbeats 4000000 in
set_option maxRecDepth 100000 in
theorem K70_X4_setNumber (l : Launch) (D : va_G) (cB cI cZ : ClassId) (sz : Nat) (h0 : Nat)  (p0 : Int32) (p1 : Int32) (f0 : Nat → Int32) (i_p0 : 0 ≤ p0.toInt ∧ p0.toInt ≤ 65534) (b_f0 : FB f0) :
    CtV l D cB cI cZ yX4_setNumber wsX4_setNumber { frames := 1, cells := 0, slots := 0, locals := 22 } [.ref h0, .int p0, .int 2, .int p1] [(h0, .inl (cB, 65536, .inl f0))] sz 0 0
      (fun (u : (Nat → Int32)) => FB u)
      (fun u => [(h0, .inl (cB, 65536, .inl u))]) := by
  refine mk_metV (cc := cX4_setNumber) (maxL := 6) (ret := none) (by decide) rfl (Nat.le_of_ble_eq_true rfl) ?_
  intro p e s m below meth c A hx hb hr hml hts hown hlocks hin hP hK hN hD hA hS ls hl
  have hown : s.vm.findClass RX4 = some m.cls := hown
  have hl : lv_has ls 6 [(0, .ref h0), (1, .int p0), (2, .int 2), (3, .int p1)] := hl
  refine lv_aload_n hx hb dX4_setNumber_0 rfl (lv_at hl 0 rfl) ?_
  refine lv_iload_n hx hb dX4_setNumber_1 rfl (lv_at hl 1 rfl) ?_
  refine lv_iload_n hx hb dX4_setNumber_2 rfl (lv_at hl 2 rfl) ?_
  refine kc_i (wr := []) (va_runS (As := [.ref h0, .int p0, .int 2]) (rest := []) ⟨hx, hb, hml, hown, hts⟩ (K71_X4_isWithin l D cB cI cZ _ h0 p0 f0 ⟨by omega, by omega⟩ b_f0) (va_cwS 3 hts gX4_setNumber_X4_isWithin rfl rfl rfl (by decide +kernel) ⟨Nat.le_of_ble_eq_true rfl, Nat.le_of_ble_eq_true rfl⟩) (pre_S (hP.sub [0] rfl) hK hN (hD.sub [0] (by decide) rfl)) rfl rfl hl.1 rfl (lv_room (Nat.le_of_ble_eq_true rfl)) dX4_setNumber_3 ⟨Nat.le_of_ble_eq_true rfl, Nat.le_of_ble_eq_true rfl⟩) hP hD hS hA [0] [] rfl rfl (by decide) (by decide) (fun r_1 u H locs hw hP hD hS => ?_)
  have k_2 := hw
  obtain rfl : r_1 = 1 := k_2
  have hP : va_P D vwCl [(h0, .inl (cB, 65536, .inl f0))] H := hP
  have hD : va_D A [(h0, .inl (cB, 65536, .inl f0))] := hD
  refine lv_if_ne (tgt := 10) hx hb dX4_setNumber_6 (by decide) (fun c => ?_) (fun c => absurd c (by decide))
  refine lv_iload_n hx hb dX4_setNumber_10 rfl (lv_at hl 3 rfl) ?_
  refine lv_istore (lv' := [(4, .int p1), (0, .ref h0), (1, .int p0), (2, .int 2), (3, .int p1)]) hx hb dX4_setNumber_11 hl (by decide) rfl (fun ls hl => ?_)
  refine lv_iload_n hx hb dX4_setNumber_13 rfl (lv_at hl 2 rfl) ?_
  refine lv_iload_n hx hb dX4_setNumber_14 rfl (lv_at hl 3 rfl) ?_
  refine lv_iadd hx hb dX4_setNumber_15 ?_
  refine lv_topi (fun x_3 ex_3 => ?_)
  have tx_3 : x_3.toInt = p0.toInt + 2 := by rw [ex_3]; exact ti_add rfl (by decide) (by omega) (by omega)
  refine lv_iconst (v := 1) hx hb dX4_setNumber_16 (by decide) ?_
  refine lv_isub hx hb dX4_setNumber_17 ?_
  refine lv_topi (fun x_4 ex_4 => ?_)
  have tx_4 : x_4.toInt = x_3.toInt - 1 := by rw [ex_4]; exact ti_sub rfl (by decide) (by omega) (by omega)
  refine lv_istore (lv' := [(5, .int x_4), (4, .int p1), (0, .ref h0), (1, .int p0), (2, .int 2), (3, .int p1)]) hx hb dX4_setNumber_18 hl (by decide) rfl (fun ls hl => ?_)
  refine lv_iload hx hb dX4_setNumber_20 (lv_at hl 0 rfl) ?_
  refine lv_iload_n hx hb dX4_setNumber_22 rfl (lv_at hl 3 rfl) ?_
  refine lv_icmp_lt (tgt := 46) hx hb dX4_setNumber_23 (by decide) (fun c => absurd ((ti_lt (x := x_4) (y := p0) (a := x_4.toInt) (b := p0.toInt) rfl rfl).mp c) (by omega)) (fun c => ?_)
  refine lv_aload_n hx hb dX4_setNumber_26 rfl (lv_at hl 2 rfl) ?_
  refine lv_iload hx hb dX4_setNumber_27 (lv_at hl 0 rfl) ?_
  refine lv_iload hx hb dX4_setNumber_29 (lv_at hl 1 rfl) ?_
  refine lv_i2b hx hb dX4_setNumber_31 rfl ?_
  refine lv_topi (fun x_5 ex_5 => ?_)
  refine va_bast hx hb hK hP hD hS 0 0 rfl rfl (ti_in (a := x_4.toInt) rfl (by omega) (by omega)) dX4_setNumber_32 (fun H locs hP hD hS => ?_)
  obtain ⟨f_6, ef_6⟩ : ∃ g : Nat → Int32, g = upd f0 (Int32.toNatClampNeg x_4) (vp_nar .byte x_5) := ⟨_, rfl⟩
  rw [← ef_6] at hP hD
  have bf_6 : FB f_6 := by rw [ef_6]; exact FB_upd b_f0 _ _
  have hP : va_P D vwCl [(h0, .inl (cB, 65536, .inl f_6))] H := hP
  have hD : va_D A [(h0, .inl (cB, 65536, .inl f_6))] := hD
  refine lv_iload hx hb dX4_setNumber_33 (lv_at hl 1 rfl) ?_
  refine lv_bipush (v := 8) hx hb dX4_setNumber_35 (by decide) ?_
  refine lv_iushr hx hb dX4_setNumber_37 rfl ?_
  refine lv_topi (fun x_7 ex_7 => ?_)
  refine lv_istore (lv' := [(4, .int x_7), (5, .int x_4), (0, .ref h0), (1, .int p0), (2, .int 2), (3, .int p1)]) hx hb dX4_setNumber_38 hl (by decide) rfl (fun ls hl => ?_)
  obtain ⟨x_8, ex_8⟩ : ∃ y : Int32, y = x_4 + (-1) := ⟨_, rfl⟩
  have tx_8 : x_8.toInt = x_4.toInt + (-1) := by rw [ex_8]; exact ti_add rfl (by decide) (by omega) (by omega)
  refine lv_iinc (v := x_8) (lv' := [(5, .int x_8), (4, .int x_7), (0, .ref h0), (1, .int p0), (2, .int 2), (3, .int p1)]) hx hb dX4_setNumber_40 hl (k := 1) rfl (by rw [ex_8]; rfl) (by decide) rfl (fun ls hl => ?_)
  refine lv_goto (tgt := 20) hx hb dX4_setNumber_43 (by decide) ?_
  refine lv_iload hx hb dX4_setNumber_20 (lv_at hl 0 rfl) ?_
  refine lv_iload_n hx hb dX4_setNumber_22 rfl (lv_at hl 3 rfl) ?_
  refine lv_icmp_lt (tgt := 46) hx hb dX4_setNumber_23 (by decide) (fun c => absurd ((ti_lt (x := x_8) (y := p0) (a := x_8.toInt) (b := p0.toInt) rfl rfl).mp c) (by omega)) (fun c => ?_)
  refine lv_aload_n hx hb dX4_setNumber_26 rfl (lv_at hl 2 rfl) ?_
  refine lv_iload hx hb dX4_setNumber_27 (lv_at hl 0 rfl) ?_
  refine lv_iload hx hb dX4_setNumber_29 (lv_at hl 1 rfl) ?_
  refine lv_i2b hx hb dX4_setNumber_31 rfl ?_
  refine lv_topi (fun x_9 ex_9 => ?_)
  refine va_bast hx hb hK hP hD hS 0 0 rfl rfl (ti_in (a := x_8.toInt) rfl (by omega) (by omega)) dX4_setNumber_32 (fun H locs hP hD hS => ?_)
  obtain ⟨f_10, ef_10⟩ : ∃ g : Nat → Int32, g = upd f_6 (Int32.toNatClampNeg x_8) (vp_nar .byte x_9) := ⟨_, rfl⟩
  rw [← ef_10] at hP hD
  have bf_10 : FB f_10 := by rw [ef_10]; exact FB_upd bf_6 _ _
  have hP : va_P D vwCl [(h0, .inl (cB, 65536, .inl f_10))] H := hP
  have hD : va_D A [(h0, .inl (cB, 65536, .inl f_10))] := hD
  refine lv_iload hx hb dX4_setNumber_33 (lv_at hl 1 rfl) ?_
  refine lv_bipush (v := 8) hx hb dX4_setNumber_35 (by decide) ?_
  refine lv_iushr hx hb dX4_setNumber_37 rfl ?_
  refine lv_topi (fun x_11 ex_11 => ?_)
  refine lv_istore (lv' := [(4, .int x_11), (5, .int x_8), (0, .ref h0), (1, .int p0), (2, .int 2), (3, .int p1)]) hx hb dX4_setNumber_38 hl (by decide) rfl (fun ls hl => ?_)
  obtain ⟨x_12, ex_12⟩ : ∃ y : Int32, y = x_8 + (-1) := ⟨_, rfl⟩
  have tx_12 : x_12.toInt = x_8.toInt + (-1) := by rw [ex_12]; exact ti_add rfl (by decide) (by omega) (by omega)
  refine lv_iinc (v := x_12) (lv' := [(5, .int x_12), (4, .int x_11), (0, .ref h0), (1, .int p0), (2, .int 2), (3, .int p1)]) hx hb dX4_setNumber_40 hl (k := 1) rfl (by rw [ex_12]; rfl) (by decide) rfl (fun ls hl => ?_)
  refine lv_goto (tgt := 20) hx hb dX4_setNumber_43 (by decide) ?_
  refine lv_iload hx hb dX4_setNumber_20 (lv_at hl 0 rfl) ?_
  refine lv_iload_n hx hb dX4_setNumber_22 rfl (lv_at hl 3 rfl) ?_
  refine lv_icmp_lt (tgt := 46) hx hb dX4_setNumber_23 (by decide) (fun c => ?_) (fun c => absurd ((ti_lt (x := x_12) (y := p0) (a := x_12.toInt) (b := p0.toInt) rfl rfl).mpr (by omega)) c)
  exact kr_v f_10 hx hb hr hlocks hP hD hS bf_10 dX4_setNumber_46
set_option maxHeartbeats 4000000 in
set_option maxRecDepth 100000 in
theorem K73_X4_isWithin (l : Launch) (D : va_G) (cB cI cZ : ClassId) (sz : Nat) (h0 : Nat)    :
    CtI l D cB cI cZ yX4_isWithin wsX4_isWithin { frames := 0, cells := 0, slots := 0, locals := 0 } [.ref h0, .int 0, .int 0] [(h0, .inl (cB, 100, .inl zf))] sz 0 0
      (fun (r : Int32) (u : Unit) => r = 1)
      (fun u => [(h0, .inl (cB, 100, .inl zf))]) := by
  refine mk_metI (cc := cX4_isWithin) (maxL := 3) (ret := (some .boolean)) (by decide) rfl (Nat.le_of_ble_eq_true rfl) ?_
  intro p e s m below meth c A hx hb hr hml hts hown hlocks hin hP hK hN hD hA hS ls hl
  have hown : s.vm.findClass RX4 = some m.cls := hown
  have hl : lv_has ls 3 [(0, .ref h0), (1, .int 0), (2, .int 0)] := hl
  refine lv_iload_n hx hb dX4_isWithin_0 rfl (lv_at hl 1 rfl) ?_
  refine lv_if_lt (tgt := 26) hx hb dX4_isWithin_1 (by decide) (fun c => absurd c (by decide)) (fun c => ?_)
  refine lv_iload_n hx hb dX4_isWithin_4 rfl (lv_at hl 2 rfl) ?_
  refine lv_if_lt (tgt := 26) hx hb dX4_isWithin_5 (by decide) (fun c => absurd c (by decide)) (fun c => ?_)
  refine lv_iload_n hx hb dX4_isWithin_8 rfl (lv_at hl 2 rfl) ?_
  refine lv_aload_n hx hb dX4_isWithin_9 rfl (lv_at hl 0 rfl) ?_
  refine va_alen (v := 100) hx hb hK hP 0 0 rfl rfl (show Int32.ofNat 100 = 100 by decide) dX4_isWithin_10 ?_
  refine lv_icmp_gt (tgt := 26) hx hb dX4_isWithin_11 (by decide) (fun c => absurd c (by decide)) (fun c => ?_)
  refine lv_iload_n hx hb dX4_isWithin_14 rfl (lv_at hl 1 rfl) ?_
  refine lv_aload_n hx hb dX4_isWithin_15 rfl (lv_at hl 0 rfl) ?_
  refine va_alen (v := 100) hx hb hK hP 0 0 rfl rfl (show Int32.ofNat 100 = 100 by decide) dX4_isWithin_16 ?_
  refine lv_iload_n hx hb dX4_isWithin_17 rfl (lv_at hl 2 rfl) ?_
  refine lv_isub hx hb dX4_isWithin_18 ?_
  refine lv_topi (fun z_1 ez_1 => ?_)
  obtain rfl : z_1 = 100 := ez_1.trans (by decide)
  refine lv_icmp_gt (tgt := 26) hx hb dX4_isWithin_19 (by decide) (fun c => absurd c (by decide)) (fun c => ?_)
  refine lv_iconst (v := 1) hx hb dX4_isWithin_22 (by decide) ?_
  refine lv_goto (tgt := 27) hx hb dX4_isWithin_23 (by decide) ?_
  exact kr_z () hx hb hr rfl hlocks hP hD hS rfl dX4_isWithin_27
set_option maxHeartbeats 4000000 in
set_option maxRecDepth 100000 in
theorem K74_X4_isWithin (l : Launch) (D : va_G) (cB cI cZ : ClassId) (sz : Nat) (h0 : Nat)  (f0 : Nat → Int32) (b_f0 : FB f0) :
    CtI l D cB cI cZ yX4_isWithin wsX4_isWithin { frames := 0, cells := 0, slots := 0, locals := 0 } [.ref h0, .int 8214, .int 0] [(h0, .inl (cB, 65536, .inl f0))] sz 0 0
      (fun (r : Int32) (u : Unit) => r = 1)
      (fun u => [(h0, .inl (cB, 65536, .inl f0))]) := by
  refine mk_metI (cc := cX4_isWithin) (maxL := 3) (ret := (some .boolean)) (by decide) rfl (Nat.le_of_ble_eq_true rfl) ?_
  intro p e s m below meth c A hx hb hr hml hts hown hlocks hin hP hK hN hD hA hS ls hl
  have hown : s.vm.findClass RX4 = some m.cls := hown
  have hl : lv_has ls 3 [(0, .ref h0), (1, .int 8214), (2, .int 0)] := hl
  refine lv_iload_n hx hb dX4_isWithin_0 rfl (lv_at hl 1 rfl) ?_
  refine lv_if_lt (tgt := 26) hx hb dX4_isWithin_1 (by decide) (fun c => absurd c (by decide)) (fun c => ?_)
  refine lv_iload_n hx hb dX4_isWithin_4 rfl (lv_at hl 2 rfl) ?_
  refine lv_if_lt (tgt := 26) hx hb dX4_isWithin_5 (by decide) (fun c => absurd c (by decide)) (fun c => ?_)
  refine lv_iload_n hx hb dX4_isWithin_8 rfl (lv_at hl 2 rfl) ?_
  refine lv_aload_n hx hb dX4_isWithin_9 rfl (lv_at hl 0 rfl) ?_
  refine va_alen (v := 65536) hx hb hK hP 0 0 rfl rfl (show Int32.ofNat 65536 = 65536 by decide) dX4_isWithin_10 ?_
  refine lv_icmp_gt (tgt := 26) hx hb dX4_isWithin_11 (by decide) (fun c => absurd c (by decide)) (fun c => ?_)
  refine lv_iload_n hx hb dX4_isWithin_14 rfl (lv_at hl 1 rfl) ?_
  refine lv_aload_n hx hb dX4_isWithin_15 rfl (lv_at hl 0 rfl) ?_
  refine va_alen (v := 65536) hx hb hK hP 0 0 rfl rfl (show Int32.ofNat 65536 = 65536 by decide) dX4_isWithin_16 ?_
  refine lv_iload_n hx hb dX4_isWithin_17 rfl (lv_at hl 2 rfl) ?_
  refine lv_isub hx hb dX4_isWithin_18 ?_
  refine lv_topi (fun z_1 ez_1 => ?_)
  obtain rfl : z_1 = 65536 := ez_1.trans (by decide)
  refine lv_icmp_gt (tgt := 26) hx hb dX4_isWithin_19 (by decide) (fun c => absurd c (by decide)) (fun c => ?_)
  refine lv_iconst (v := 1) hx hb dX4_isWithin_22 (by decide) ?_
  refine lv_goto (tgt := 27) hx hb dX4_isWithin_23 (by decide) ?_
  exact kr_z () hx hb hr rfl hlocks hP hD hS rfl dX4_isWithin_27
set_option maxHeartbeats 4000000 in
set_option maxRecDepth 100000 in
theorem K72_X4_copy (l : Launch) (D : va_G) (cB cI cZ : ClassId) (sz : Nat) (h0 : Nat) (h1 : Nat)  (f0 : Nat → Int32) (b_f0 : FB f0) :
    CtV l D cB cI cZ yX4_copy wsX4_copy { frames := 1, cells := 0, slots := 0, locals := 60 } [.ref h0, .int 0, .ref h1, .int 8214, .int 0] [(h0, .inl (cB, 100, .inl zf)), (h1, .inl (cB, 65536, .inl f0))] sz 0 0
      (fun (u : (Nat → Int32)) => FB u)
      (fun u => [(h0, .inl (cB, 100, .inl zf)), (h1, .inl (cB, 65536, .inl u))]) := by
  refine mk_metV (cc := cX4_copy) (maxL := 5) (ret := none) (by decide) rfl (Nat.le_of_ble_eq_true rfl) ?_
  intro p e s m below meth c A hx hb hr hml hts hown hlocks hin hP hK hN hD hA hS ls hl
  have hown : s.vm.findClass RX4 = some m.cls := hown
  have hl : lv_has ls 5 [(0, .ref h0), (1, .int 0), (2, .ref h1), (3, .int 8214), (4, .int 0)] := hl
  refine lv_aload_n hx hb dX4_copy_0 rfl (lv_at hl 0 rfl) ?_
  refine lv_iload_n hx hb dX4_copy_1 rfl (lv_at hl 1 rfl) ?_
  refine lv_iload hx hb dX4_copy_2 (lv_at hl 4 rfl) ?_
  refine kc_i (wr := [(h1, .inl (cB, 65536, .inl f0))]) (va_runS (As := [.ref h0, .int 0, .int 0]) (rest := []) ⟨hx, hb, hml, hown, hts⟩ (K73_X4_isWithin l D cB cI cZ _ h0) (va_cwS 3 hts gX4_copy_X4_isWithin rfl rfl rfl (by decide +kernel) ⟨Nat.le_of_ble_eq_true rfl, Nat.le_of_ble_eq_true rfl⟩) (pre_S (hP.sub [0] rfl) hK hN (hD.sub [0] (by decide) rfl)) rfl rfl hl.1 rfl (lv_room (Nat.le_of_ble_eq_true rfl)) dX4_copy_4 ⟨Nat.le_of_ble_eq_true rfl, Nat.le_of_ble_eq_true rfl⟩) hP hD hS hA [0] [1] rfl rfl (by decide) (by decide) (fun r_1 u H locs hw hP hD hS => ?_)
  have k_2 := hw
  obtain rfl : r_1 = 1 := k_2
  have hP : va_P D vwCl [(h1, .inl (cB, 65536, .inl f0)), (h0, .inl (cB, 100, .inl zf))] H := hP
  have hD : va_D A [(h1, .inl (cB, 65536, .inl f0)), (h0, .inl (cB, 100, .inl zf))] := hD
  refine lv_if_eq (tgt := 29) hx hb dX4_copy_7 (by decide) (fun c => absurd c (by decide)) (fun c => ?_)
  refine lv_aload_n hx hb dX4_copy_10 rfl (lv_at hl 2 rfl) ?_
  refine lv_iload_n hx hb dX4_copy_11 rfl (lv_at hl 3 rfl) ?_
  refine lv_iload hx hb dX4_copy_12 (lv_at hl 4 rfl) ?_
  refine kc_i (wr := [(h0, .inl (cB, 100, .inl zf))]) (va_runS (As := [.ref h1, .int 8214, .int 0]) (rest := []) ⟨hx, hb, hml, hown, hts⟩ (K74_X4_isWithin l D cB cI cZ _ h1 f0 b_f0) (va_cwS 3 hts gX4_copy_X4_isWithin rfl rfl rfl (by decide +kernel) ⟨Nat.le_of_ble_eq_true rfl, Nat.le_of_ble_eq_true rfl⟩) (pre_S (hP.sub [0] rfl) hK hN (hD.sub [0] (by decide) rfl)) rfl rfl hl.1 rfl (lv_room (Nat.le_of_ble_eq_true rfl)) dX4_copy_14 ⟨Nat.le_of_ble_eq_true rfl, Nat.le_of_ble_eq_true rfl⟩) hP hD hS hA [0] [1] rfl rfl (by decide) (by decide) (fun r_3 u H locs hw hP hD hS => ?_)
  have k_4 := hw
  obtain rfl : r_3 = 1 := k_4
  have hP : va_P D vwCl [(h0, .inl (cB, 100, .inl zf)), (h1, .inl (cB, 65536, .inl f0))] H := hP
  have hD : va_D A [(h0, .inl (cB, 100, .inl zf)), (h1, .inl (cB, 65536, .inl f0))] := hD
  refine lv_if_eq (tgt := 29) hx hb dX4_copy_17 (by decide) (fun c => absurd c (by decide)) (fun c => ?_)
  refine lv_aload_n hx hb dX4_copy_20 rfl (lv_at hl 0 rfl) ?_
  refine lv_iload_n hx hb dX4_copy_21 rfl (lv_at hl 1 rfl) ?_
  refine lv_aload_n hx hb dX4_copy_22 rfl (lv_at hl 2 rfl) ?_
  refine lv_iload_n hx hb dX4_copy_23 rfl (lv_at hl 3 rfl) ?_
  refine lv_iload hx hb dX4_copy_24 (lv_at hl 4 rfl) ?_
  refine va_copyi hx hb (hml.trans hl.1.symm) hown (hts _ wdX4_copy_0) (hts _ wdX4_copy_1) (hts _ wdX4_copy_2) (hts _ wdX4_copy_3) hK hP hD hS 0 1 0 0 rfl rfl rfl rfl rfl (by decide) (by decide) (by decide) (ac_le (x := 0) (n := 0) (a := 0) (b := 0) (by decide) (by decide) (by omega) (by omega) (by omega)) (ac_le (x := 8214) (n := 0) (a := 8214) (b := 0) (by decide) (by decide) (by omega) (by omega) (by omega)) (fun i _ => FB_zf _) (Nat.le_of_ble_eq_true rfl) (Nat.le_of_ble_eq_true (by decide +kernel)) dX4_copy_26 (fun H locs hP hD hS => ?_)
  obtain ⟨f_5, ef_5⟩ : ∃ g : Nat → Int32, g = va_cpy zf f0 (Int32.toNatClampNeg 0) (Int32.toNatClampNeg 8214) (Int32.toNatClampNeg 0) := ⟨_, rfl⟩
  rw [← ef_5] at hP hD
  have bf_5 : FB f_5 := by rw [ef_5]; exact FB_cpy FB_zf b_f0 _ _ _
  have hP : va_P D vwCl [(h0, .inl (cB, 100, .inl zf)), (h1, .inl (cB, 65536, .inl f_5))] H := hP
  have hD : va_D A [(h0, .inl (cB, 100, .inl zf)), (h1, .inl (cB, 65536, .inl f_5))] := hD
  exact kr_v f_5 hx hb hr hlocks hP hD hS bf_5 dX4_copy_29
set_option maxHeartbeats 4000000 in
set_option maxRecDepth 100000 in
theorem K77_X4_isWithin (l : Launch) (D : va_G) (cB cI cZ : ClassId) (sz : Nat) (h0 : Nat)  (p0 : Int32) (f0 : Nat → Int32) (i_p0 : 0 ≤ p0.toInt ∧ p0.toInt ≤ 65524) (b_f0 : FB f0) :
    CtI l D cB cI cZ yX4_isWithin wsX4_isWithin { frames := 0, cells := 0, slots := 0, locals := 0 } [.ref h0, .int p0, .int 12] [(h0, .inl (cB, 65536, .inl f0))] sz 0 0
      (fun (r : Int32) (u : Unit) => r = 1)
      (fun u => [(h0, .inl (cB, 65536, .inl f0))]) := by
  refine mk_metI (cc := cX4_isWithin) (maxL := 3) (ret := (some .boolean)) (by decide) rfl (Nat.le_of_ble_eq_true rfl) ?_
  intro p e s m below meth c A hx hb hr hml hts hown hlocks hin hP hK hN hD hA hS ls hl
  have hown : s.vm.findClass RX4 = some m.cls := hown
  have hl : lv_has ls 3 [(0, .ref h0), (1, .int p0), (2, .int 12)] := hl
  refine lv_iload_n hx hb dX4_isWithin_0 rfl (lv_at hl 1 rfl) ?_
  refine lv_if_lt (tgt := 26) hx hb dX4_isWithin_1 (by decide) (fun c => absurd ((ti_lt (x := p0) (y := 0) (a := p0.toInt) (b := 0) rfl (by decide)).mp c) (by omega)) (fun c => ?_)
  refine lv_iload_n hx hb dX4_isWithin_4 rfl (lv_at hl 2 rfl) ?_
  refine lv_if_lt (tgt := 26) hx hb dX4_isWithin_5 (by decide) (fun c => absurd c (by decide)) (fun c => ?_)
  refine lv_iload_n hx hb dX4_isWithin_8 rfl (lv_at hl 2 rfl) ?_
  refine lv_aload_n hx hb dX4_isWithin_9 rfl (lv_at hl 0 rfl) ?_
  refine va_alen (v := 65536) hx hb hK hP 0 0 rfl rfl (show Int32.ofNat 65536 = 65536 by decide) dX4_isWithin_10 ?_
  refine lv_icmp_gt (tgt := 26) hx hb dX4_isWithin_11 (by decide) (fun c => absurd c (by decide)) (fun c => ?_)
  refine lv_iload_n hx hb dX4_isWithin_14 rfl (lv_at hl 1 rfl) ?_
  refine lv_aload_n hx hb dX4_isWithin_15 rfl (lv_at hl 0 rfl) ?_
  refine va_alen (v := 65536) hx hb hK hP 0 0 rfl rfl (show Int32.ofNat 65536 = 65536 by decide) dX4_isWithin_16 ?_
  refine lv_iload_n hx hb dX4_isWithin_17 rfl (lv_at hl 2 rfl) ?_
  refine lv_isub hx hb dX4_isWithin_18 ?_
  refine lv_topi (fun z_1 ez_1 => ?_)
  obtain rfl : z_1 = 65524 := ez_1.trans (by decide)
  refine lv_icmp_gt (tgt := 26) hx hb dX4_isWithin_19 (by decide) (fun c => absurd ((ti_lt (x := 65524) (y := p0) (a := 65524) (b := p0.toInt) (by decide) rfl).mp c) (by omega)) (fun c => ?_)
  refine lv_iconst (v := 1) hx hb dX4_isWithin_22 (by decide) ?_
  refine lv_goto (tgt := 27) hx hb dX4_isWithin_23 (by decide) ?_
  exact kr_z () hx hb hr rfl hlocks hP hD hS rfl dX4_isWithin_27
set_option maxHeartbeats 4000000 in
set_option maxRecDepth 100000 in
theorem K76_X4_sum (l : Launch) (D : va_G) (cB cI cZ : ClassId) (sz : Nat) (h0 : Nat)  (p0 : Int32) (f0 : Nat → Int32) (i_p0 : 0 ≤ p0.toInt ∧ p0.toInt ≤ 65524) (b_f0 : FB f0) :
    CtI l D cB cI cZ yX4_sum wsX4_sum { frames := 1, cells := 0, slots := 0, locals := 22 } [.ref h0, .int p0, .int 12] [(h0, .inl (cB, 65536, .inl f0))] sz 0 0
      (fun (r : Int32) (u : Unit) => True)
      (fun u => [(h0, .inl (cB, 65536, .inl f0))]) := by
  refine mk_metI (cc := cX4_sum) (maxL := 5) (ret := (some .int)) (by decide) rfl (Nat.le_of_ble_eq_true rfl) ?_
  intro p e s m below meth c A hx hb hr hml hts hown hlocks hin hP hK hN hD hA hS ls hl
  have hown : s.vm.findClass RX4 = some m.cls := hown
  have hl : lv_has ls 5 [(0, .ref h0), (1, .int p0), (2, .int 12)] := hl
  refine lv_aload_n hx hb dX4_sum_0 rfl (lv_at hl 0 rfl) ?_
  refine lv_iload_n hx hb dX4_sum_1 rfl (lv_at hl 1 rfl) ?_
  refine lv_iload_n hx hb dX4_sum_2 rfl (lv_at hl 2 rfl) ?_
  refine kc_i (wr := []) (va_runS (As := [.ref h0, .int p0, .int 12]) (rest := []) ⟨hx, hb, hml, hown, hts⟩ (K77_X4_isWithin l D cB cI cZ _ h0 p0 f0 ⟨by omega, by omega⟩ b_f0) (va_cwS 3 hts gX4_sum_X4_isWithin rfl rfl rfl (by decide +kernel) ⟨Nat.le_of_ble_eq_true rfl, Nat.le_of_ble_eq_true rfl⟩) (pre_S (hP.sub [0] rfl) hK hN (hD.sub [0] (by decide) rfl)) rfl rfl hl.1 rfl (lv_room (Nat.le_of_ble_eq_true rfl)) dX4_sum_3 ⟨Nat.le_of_ble_eq_true rfl, Nat.le_of_ble_eq_true rfl⟩) hP hD hS hA [0] [] rfl rfl (by decide) (by decide) (fun r_1 u H locs hw hP hD hS => ?_)
  have k_2 := hw
  obtain rfl : r_1 = 1 := k_2
  have hP : va_P D vwCl [(h0, .inl (cB, 65536, .inl f0))] H := hP
  have hD : va_D A [(h0, .inl (cB, 65536, .inl f0))] := hD
  refine lv_if_ne (tgt := 11) hx hb dX4_sum_6 (by decide) (fun c => ?_) (fun c => absurd c (by decide))
  refine lv_iconst (v := 0) hx hb dX4_sum_11 (by decide) ?_
  refine lv_istore_n (lv' := [(3, .int 0), (0, .ref h0), (1, .int p0), (2, .int 12)]) hx hb dX4_sum_12 rfl hl (by decide) rfl (fun ls hl => ?_)
  refine lv_iload_n hx hb dX4_sum_13 rfl (lv_at hl 2 rfl) ?_
  refine lv_istore (lv' := [(4, .int p0), (3, .int 0), (0, .ref h0), (1, .int p0), (2, .int 12)]) hx hb dX4_sum_14 hl (by decide) rfl (fun ls hl => ?_)
  refine kl (α := Int32 × Int32) (fun n a H locs ls => (0 ≤ Int32.toInt (a.1)) ∧ (Int32.toInt (a.1) ≤ 65536) ∧ (65536 - Int32.toInt (a.1) < ((n : Nat) : Int)) ∧ va_P D vwCl [(h0, .inl (cB, 65536, .inl f0))] H ∧ va_D A [(h0, .inl (cB, 65536, .inl f0))] ∧ va_S A s.heap H locs ∧ lv_has ls 5 [(4, .int (a.1)), (3, .int (a.2)), (0, .ref h0), (1, .int p0), (2, .int 12)]) 65537 (p0, 0) ⟨(by show 0 ≤ Int32.toInt p0; omega), (by show Int32.toInt p0 ≤ 65536; omega), (by show 65536 - Int32.toInt p0 < ((65537 : Nat) : Int); omega), hP, hD, hS, hl⟩ (fun a H locs ls h => ?_) (fun n_5 ih_6 a H locs ls h => ?_)
  · obtain ⟨j_7, j_8, j_9, _⟩ := h
    omega
  obtain ⟨v_4, v_3⟩ := a
  obtain ⟨j_7, j_8, j_9, hP, hD, hS, hl⟩ := h
  have j_7 : 0 ≤ Int32.toInt v_4 := j_7
  have j_8 : Int32.toInt v_4 ≤ 65536 := j_8
  have j_9 : 65536 - Int32.toInt v_4 < ((n_5 + 1 : Nat) : Int) := j_9
  have hP : va_P D vwCl [(h0, .inl (cB, 65536, .inl f0))] H := hP
  have hD : va_D A [(h0, .inl (cB, 65536, .inl f0))] := hD
  have hl : lv_has ls 5 [(4, .int v_4), (3, .int v_3), (0, .ref h0), (1, .int p0), (2, .int 12)] := hl
  refine lv_iload hx hb dX4_sum_16 (lv_at hl 0 rfl) ?_
  refine lv_iload_n hx hb dX4_sum_18 rfl (lv_at hl 3 rfl) ?_
  refine lv_iload_n hx hb dX4_sum_19 rfl (lv_at hl 4 rfl) ?_
  refine lv_iadd hx hb dX4_sum_20 ?_
  refine lv_topi (fun x_10 ex_10 => ?_)
  have tx_10 : x_10.toInt = p0.toInt + 12 := by rw [ex_10]; exact ti_add rfl (by decide) (by omega) (by omega)
  refine lv_icmp_ge (tgt := 48) hx hb dX4_sum_21 (by decide) (fun c => ?_) (fun c => ?_)
  · skip
    have k_11 := (ti_le (x := x_10) (y := v_4) (a := x_10.toInt) (b := v_4.toInt) rfl rfl).mp c
    refine lv_iload_n hx hb dX4_sum_48 rfl (lv_at hl 1 rfl) ?_
    exact kr_i () hx hb hr hlocks hP hD hS trivial dX4_sum_49
  · skip
    have k_12 := mt (ti_le (x := x_10) (y := v_4) (a := x_10.toInt) (b := v_4.toInt) rfl rfl).mpr c
    refine lv_iload_n hx hb dX4_sum_24 rfl (lv_at hl 1 rfl) ?_
    refine lv_aload_n hx hb dX4_sum_25 rfl (lv_at hl 2 rfl) ?_
    refine lv_iload hx hb dX4_sum_26 (lv_at hl 0 rfl) ?_
    refine va_bald hx hb hK hP 0 0 rfl rfl (ti_in (a := v_4.toInt) rfl (by omega) (by omega)) dX4_sum_28 ?_
    refine lv_topi (fun x_13 ex_13 => ?_)
    refine lv_sipush (v := 255) hx hb dX4_sum_29 (by decide) ?_
    refine lv_iand hx hb dX4_sum_32 ?_
    refine lv_topi (fun x_14 ex_14 => ?_)
    refine lv_ixor hx hb dX4_sum_33 ?_
    refine lv_topi (fun x_15 ex_15 => ?_)
    refine lv_iconst (v := 5) hx hb dX4_sum_34 (by decide) ?_
    refine kc_i (wr := [(h0, .inl (cB, 65536, .inl f0))]) (va_runS (As := [.int x_15, .int 5]) (rest := []) ⟨hx, hb, hml, hown, hts⟩ (K68_J6_rotateLeft_7cf53 l D cB cI cZ _ x_15) (va_cwS 2 hts gX4_sum_J6_rotateLeft_7cf53 rfl rfl rfl (by decide +kernel) ⟨Nat.le_of_ble_eq_true rfl, Nat.le_of_ble_eq_true rfl⟩) (pre_S (hP.sub [] rfl) hK hN (hD.sub [] (by decide) rfl)) rfl rfl hl.1 rfl (lv_room (Nat.le_of_ble_eq_true rfl)) dX4_sum_35 ⟨Nat.le_of_ble_eq_true rfl, Nat.le_of_ble_eq_true rfl⟩) hP hD hS hA [] [0] rfl rfl (by decide) (by decide) (fun r_16 u H locs hw hP hD hS => ?_)
    have hP : va_P D vwCl [(h0, .inl (cB, 65536, .inl f0))] H := hP
    have hD : va_D A [(h0, .inl (cB, 65536, .inl f0))] := hD
    refine lv_ldc (v := (-1640531535)) hx hb hown (hts _ wdX4_sum_0) dX4_sum_38 ?_
    refine lv_imul hx hb dX4_sum_40 ?_
    refine lv_topi (fun x_17 ex_17 => ?_)
    refine lv_istore_n (lv' := [(3, .int x_17), (4, .int v_4), (0, .ref h0), (1, .int p0), (2, .int 12)]) hx hb dX4_sum_41 rfl hl (by decide) rfl (fun ls hl => ?_)
    obtain ⟨x_18, ex_18⟩ : ∃ y : Int32, y = v_4 + 1 := ⟨_, rfl⟩
    have tx_18 : x_18.toInt = v_4.toInt + 1 := by rw [ex_18]; exact ti_add rfl (by decide) (by omega) (by omega)
    refine lv_iinc (v := x_18) (lv' := [(4, .int x_18), (3, .int x_17), (0, .ref h0), (1, .int p0), (2, .int 12)]) hx hb dX4_sum_42 hl (k := 1) rfl (by rw [ex_18]; rfl) (by decide) rfl (fun ls hl => ?_)
    refine lv_goto (tgt := 16) hx hb dX4_sum_45 (by decide) ?_
    exact ih_6 (x_18, x_17) _ _ _ ⟨(by show 0 ≤ Int32.toInt x_18; omega), (by show Int32.toInt x_18 ≤ 65536; omega), (by show 65536 - Int32.toInt x_18 < ((n_5 : Nat) : Int); omega), hP, hD, hS, hl⟩
set_option maxHeartbeats 4000000 in
set_option maxRecDepth 100000 in
theorem K75_X4_setSum (l : Launch) (D : va_G) (cB cI cZ : ClassId) (sz : Nat) (h0 : Nat)  (f0 : Nat → Int32) (b_f0 : FB f0) :
    CtV l D cB cI cZ yX4_setSum wsX4_setSum { frames := 2, cells := 0, slots := 0, locals := 47 } [.ref h0, .int 8202, .int 12] [(h0, .inl (cB, 65536, .inl f0))] sz 0 0
      (fun (u : (Nat → Int32)) => FB u)
      (fun u => [(h0, .inl (cB, 65536, .inl u))]) := by
  refine mk_metV (cc := cX4_setSum) (maxL := 3) (ret := none) (by decide) rfl (Nat.le_of_ble_eq_true rfl) ?_
  intro p e s m below meth c A hx hb hr hml hts hown hlocks hin hP hK hN hD hA hS ls hl
  have hown : s.vm.findClass RX4 = some m.cls := hown
  have hl : lv_has ls 3 [(0, .ref h0), (1, .int 8202), (2, .int 12)] := hl
  refine lv_aload_n hx hb dX4_setSum_0 rfl (lv_at hl 0 rfl) ?_
  refine lv_iload_n hx hb dX4_setSum_1 rfl (lv_at hl 1 rfl) ?_
  refine lv_iload_n hx hb dX4_setSum_2 rfl (lv_at hl 2 rfl) ?_
  refine lv_iadd hx hb dX4_setSum_3 ?_
  refine lv_topi (fun z_1 ez_1 => ?_)
  obtain rfl : z_1 = 8214 := ez_1.trans (by decide)
  refine lv_iconst (v := 4) hx hb dX4_setSum_4 (by decide) ?_
  refine lv_aload_n hx hb dX4_setSum_5 rfl (lv_at hl 0 rfl) ?_
  refine lv_iload_n hx hb dX4_setSum_6 rfl (lv_at hl 1 rfl) ?_
  refine lv_iload_n hx hb dX4_setSum_7 rfl (lv_at hl 2 rfl) ?_
  refine kc_i (wr := []) (va_runS (As := [.ref h0, .int 8202, .int 12]) (rest := [.int 4, .int 8214, .ref h0]) ⟨hx, hb, hml, hown, hts⟩ (K76_X4_sum l D cB cI cZ _ h0 8202 f0 (by decide) b_f0) (va_cwS 3 hts gX4_setSum_X4_sum rfl rfl rfl (by decide +kernel) ⟨Nat.le_of_ble_eq_true rfl, Nat.le_of_ble_eq_true rfl⟩) (pre_S (hP.sub [0] rfl) hK hN (hD.sub [0] (by decide) rfl)) rfl rfl hl.1 rfl (lv_room (Nat.le_of_ble_eq_true rfl)) dX4_setSum_8 ⟨Nat.le_of_ble_eq_true rfl, Nat.le_of_ble_eq_true rfl⟩) hP hD hS hA [0] [] rfl rfl (by decide) (by decide) (fun r_2 u H locs hw hP hD hS => ?_)
  have hP : va_P D vwCl [(h0, .inl (cB, 65536, .inl f0))] H := hP
  have hD : va_D A [(h0, .inl (cB, 65536, .inl f0))] := hD
  refine kc_v (wr := []) (va_runS (As := [.ref h0, .int 8214, .int 4, .int r_2]) (rest := []) ⟨hx, hb, hml, hown, hts⟩ (K63_X4_setNumber l D cB cI cZ _ h0 8214 r_2 f0 (by decide) b_f0) (va_cwS 4 hts gX4_setSum_X4_setNumber rfl rfl rfl (by decide +kernel) ⟨Nat.le_of_ble_eq_true rfl, Nat.le_of_ble_eq_true rfl⟩) (pre_S (hP.sub [0] rfl) hK hN (hD.sub [0] (by decide) rfl)) rfl rfl hl.1 rfl (lv_room (Nat.le_of_ble_eq_true rfl)) dX4_setSum_11 ⟨Nat.le_of_ble_eq_true rfl, Nat.le_of_ble_eq_true rfl⟩) hP hD hS hA [0] [] rfl rfl (by decide) (by decide) (fun  u H locs hw hP hD hS => ?_)
  obtain ⟨f_3, rfl⟩ : ∃ z, z = u := ⟨_, rfl⟩
  have bf_3 := hw
  have bf_3 : FB f_3 := bf_3
  have hP : va_P D vwCl [(h0, .inl (cB, 65536, .inl f_3))] H := hP
  have hD : va_D A [(h0, .inl (cB, 65536, .inl f_3))] := hD
  exact kr_v f_3 hx hb hr hlocks hP hD hS bf_3 dX4_setSum_14
set_option maxHeartbeats 4000000 in
set_option maxRecDepth 100000 in
theorem K78_X2_follow (l : Launch) (D : va_G) (cB cI cZ : ClassId) (sz : Nat) (h0 : Nat) (h1 : Nat) (h2 : Nat)  (p0 : Int32) (i_p0 : 0 ≤ p0.toInt ∧ p0.toInt ≤ 299) :
    CtV l D cB cI cZ yX2_follow wsX2_follow { frames := 1, cells := 0, slots := 0, locals := 20 } [.ref h0, .int 1, .int p0, .int 8, .int 10] [(h0, .inr (2, [.ref h1, .ref h2, .int 0])), (h1, .inl (cI, 300, .inl zf)), (h2, .inl (cI, 300, .inl zf))] sz 0 0
      (fun (u : Int32 × (Nat → Int32) × (Nat → Int32)) => 0 ≤ u.1.toInt ∧ u.1.toInt ≤ 1)
      (fun u => [(h0, .inr (2, [.ref h1, .ref h2, .int u.1])), (h1, .inl (cI, 300, .inl u.2.1)), (h2, .inl (cI, 300, .inl u.2.2))]) := by
  refine mk_metV (cc := cX2_follow) (maxL := 5) (ret := none) (by decide) rfl (Nat.le_of_ble_eq_true rfl) ?_
  intro p e s m below meth c A hx hb hr hml hts hown hlocks hin hP hK hN hD hA hS ls hl
  have hown : s.vm.findClass RX2 = some m.cls := hown
  have hl : lv_has ls 5 [(0, .ref h0), (1, .int 1), (2, .int p0), (3, .int 8), (4, .int 10)] := hl
  refine lv_iload_n hx hb dX2_follow_0 rfl (lv_at hl 2 rfl) ?_
  refine kc_i (wr := [(h0, .inr (2, [.ref h1, .ref h2, .int 0])), (h1, .inl (cI, 300, .inl zf)), (h2, .inl (cI, 300, .inl zf))]) (va_runSN (As := [.int p0]) (rest := []) ⟨hx, hb, hml, hown, hts⟩ (K47_X7_isKey l D cB cI cZ _ p0 ⟨by omega, by omega⟩) ⟨va_cnB 1 hts gX2_follow_X7_isKey_n22 rfl rfl rfl (hN.m (a := RX2) (i := 22) (y := yX7_isKey) (by decide +kernel)) (hts _ wdX2_follow_0) (by decide +kernel) ⟨Nat.le_of_ble_eq_true rfl, Nat.le_of_ble_eq_true rfl⟩, hts _ wdX2_follow_1, trivial⟩ (pre_S (hP.sub [] rfl) hK hN (hD.sub [] (by decide) rfl)) rfl rfl hl.1 rfl (lv_room (Nat.le_of_ble_eq_true rfl)) dX2_follow_1 ⟨Nat.le_of_ble_eq_true rfl, Nat.le_of_ble_eq_true rfl⟩) hP hD hS hA [] [0, 1, 2] rfl rfl (by decide) (by decide) (fun r_1 u H locs hw hP hD hS => ?_)
  have k_2 := hw
  obtain rfl : r_1 = 1 := k_2
  have hP : va_P D vwCl [(h0, .inr (2, [.ref h1, .ref h2, .int 0])), (h1, .inl (cI, 300, .inl zf)), (h2, .inl (cI, 300, .inl zf))] H := hP
  have hD : va_D A [(h0, .inr (2, [.ref h1, .ref h2, .int 0])), (h1, .inl (cI, 300, .inl zf)), (h2, .inl (cI, 300, .inl zf))] := hD
  refine lv_if_ne (tgt := 8) hx hb dX2_follow_4 (by decide) (fun c => ?_) (fun c => absurd c (by decide))
  refine lv_aload_n hx hb dX2_follow_8 rfl (lv_at hl 0 rfl) ?_
  refine va_get (D := D) (ci := 2) (v := .ref h1) (C := RX2) (T := TX2) (N := 3) hx hb hts inX2_follow_X2 hown hK hP 0 rfl rfl 0 (by decide) (hts _ wdX2_follow_2) (fun _ h9 => h9) rfl dX2_follow_9 ?_
  refine lv_iload_n hx hb dX2_follow_12 rfl (lv_at hl 2 rfl) ?_
  refine va_iald hx hb hK hP 1 1 rfl rfl (ti_in (a := p0.toInt) rfl (by omega) (by omega)) dX2_follow_13 ?_
  refine lv_topi (fun z_3 ez_3 => ?_)
  obtain rfl : z_3 = 0 := ez_3
  refine lv_if_eq (tgt := 27) hx hb dX2_follow_14 (by decide) (fun c => ?_) (fun c => absurd (by decide) c)
  refine lv_aload_n hx hb dX2_follow_27 rfl (lv_at hl 0 rfl) ?_
  refine va_get (D := D) (ci := 2) (v := .ref h1) (C := RX2) (T := TX2) (N := 3) hx hb hts inX2_follow_X2 hown hK hP 0 rfl rfl 0 (by decide) (hts _ wdX2_follow_2) (fun _ h9 => h9) rfl dX2_follow_28 ?_
  refine lv_iload_n hx hb dX2_follow_31 rfl (lv_at hl 2 rfl) ?_
  refine lv_iload_n hx hb dX2_follow_32 rfl (lv_at hl 1 rfl) ?_
  refine lv_iconst (v := 1) hx hb dX2_follow_33 (by decide) ?_
  refine lv_icmp_ne (tgt := 41) hx hb dX2_follow_34 (by decide) (fun c => absurd (by decide) c) (fun c => ?_)
  refine lv_iload_n hx hb dX2_follow_37 rfl (lv_at hl 3 rfl) ?_
  refine lv_goto (tgt := 42) hx hb dX2_follow_38 (by decide) ?_
  refine va_iast hx hb hK hP hD hS 1 1 rfl rfl (ti_in (a := p0.toInt) rfl (by omega) (by omega)) dX2_follow_42 (fun H locs hP hD hS => ?_)
  obtain ⟨f_4, ef_4⟩ : ∃ g : Nat → Int32, g = upd zf (Int32.toNatClampNeg p0) 8 := ⟨_, rfl⟩
  rw [← ef_4] at hP hD
  have hP : va_P D vwCl [(h0, .inr (2, [.ref h1, .ref h2, .int 0])), (h1, .inl (cI, 300, .inl f_4)), (h2, .inl (cI, 300, .inl zf))] H := hP
  have hD : va_D A [(h0, .inr (2, [.ref h1, .ref h2, .int 0])), (h1, .inl (cI, 300, .inl f_4)), (h2, .inl (cI, 300, .inl zf))] := hD
  refine lv_aload_n hx hb dX2_follow_43 rfl (lv_at hl 0 rfl) ?_
  refine va_get (D := D) (ci := 2) (v := .ref h2) (C := RX2) (T := TX2) (N := 3) hx hb hts inX2_follow_X2 hown hK hP 0 rfl rfl 1 (by decide) (hts _ wdX2_follow_3) (fun _ h9 => h9) rfl dX2_follow_44 ?_
  refine lv_iload_n hx hb dX2_follow_47 rfl (lv_at hl 2 rfl) ?_
  refine lv_iload_n hx hb dX2_follow_48 rfl (lv_at hl 1 rfl) ?_
  refine lv_iconst (v := 1) hx hb dX2_follow_49 (by decide) ?_
  refine lv_icmp_ne (tgt := 58) hx hb dX2_follow_50 (by decide) (fun c => absurd (by decide) c) (fun c => ?_)
  refine lv_iload hx hb dX2_follow_53 (lv_at hl 4 rfl) ?_
  refine lv_goto (tgt := 59) hx hb dX2_follow_55 (by decide) ?_
  refine va_iast hx hb hK hP hD hS 2 1 rfl rfl (ti_in (a := p0.toInt) rfl (by omega) (by omega)) dX2_follow_59 (fun H locs hP hD hS => ?_)
  obtain ⟨f_5, ef_5⟩ : ∃ g : Nat → Int32, g = upd zf (Int32.toNatClampNeg p0) 10 := ⟨_, rfl⟩
  rw [← ef_5] at hP hD
  have hP : va_P D vwCl [(h0, .inr (2, [.ref h1, .ref h2, .int 0])), (h1, .inl (cI, 300, .inl f_4)), (h2, .inl (cI, 300, .inl f_5))] H := hP
  have hD : va_D A [(h0, .inr (2, [.ref h1, .ref h2, .int 0])), (h1, .inl (cI, 300, .inl f_4)), (h2, .inl (cI, 300, .inl f_5))] := hD
  refine lv_aload_n hx hb dX2_follow_60 rfl (lv_at hl 0 rfl) ?_
  refine va_get (D := D) (ci := 2) (v := .ref h1) (C := RX2) (T := TX2) (N := 3) hx hb hts inX2_follow_X2 hown hK hP 0 rfl rfl 0 (by decide) (hts _ wdX2_follow_2) (fun _ h9 => h9) rfl dX2_follow_61 ?_
  refine lv_iload_n hx hb dX2_follow_64 rfl (lv_at hl 2 rfl) ?_
  refine va_iald hx hb hK hP 1 1 rfl rfl (ti_in (a := p0.toInt) rfl (by omega) (by omega)) dX2_follow_65 ?_
  refine lv_topi (fun x_6 ex_6 => ?_)
  refine lv_if_eq (tgt := 79) hx hb dX2_follow_66 (by decide) (fun c => ?_) (fun c => ?_)
  · skip
    have k_7 := (ti_eq (x := x_6) (y := 0) (a := x_6.toInt) (b := 0) rfl (by decide)).mp c
    exact kr_v (0, f_4, f_5) hx hb hr hlocks hP hD hS ⟨(by show 0 ≤ Int32.toInt 0; decide), (by show Int32.toInt 0 ≤ 1; decide)⟩ dX2_follow_79
  · skip
    have k_8 := mt (ti_eq (x := x_6) (y := 0) (a := x_6.toInt) (b := 0) rfl (by decide)).mpr c
    refine lv_aload_n hx hb dX2_follow_69 rfl (lv_at hl 0 rfl) ?_
    refine lv_dup hx hb dX2_follow_70 rfl ?_
    refine va_get (D := D) (ci := 2) (v := .int 0) (C := RX2) (T := TX2) (N := 3) hx hb hts inX2_follow_X2 hown hK hP 0 rfl rfl 2 (by decide) (hts _ wdX2_follow_4) (fun _ h9 => h9) rfl dX2_follow_71 ?_
    refine lv_iconst (v := 1) hx hb dX2_follow_74 (by decide) ?_
    refine lv_iadd hx hb dX2_follow_75 ?_
    refine lv_topi (fun z_9 ez_9 => ?_)
    obtain rfl : z_9 = 1 := ez_9.trans (by decide)
    refine va_put (D := D) (ci := 2) (v := .int 1) (ty := .int) (C := RX2) (T := TX2) (N := 3) hx hb hts inX2_follow_X2 tyX2 tyX2_ok nmX2 hown hK hP hD hS 0 rfl rfl 2 (by decide) (hts _ wdX2_follow_4) (fun _ h9 => h9) rfl (by decide +kernel) rfl rfl (Nat.le_of_ble_eq_true rfl) dX2_follow_76 (fun H locs hP hD hS => ?_)
    have hP : va_P D vwCl [(h0, .inr (2, [.ref h1, .ref h2, .int 1])), (h1, .inl (cI, 300, .inl f_4)), (h2, .inl (cI, 300, .inl f_5))] H := hP
    have hD : va_D A [(h0, .inr (2, [.ref h1, .ref h2, .int 1])), (h1, .inl (cI, 300, .inl f_4)), (h2, .inl (cI, 300, .inl f_5))] := hD
    exact kr_v (1, f_4, f_5) hx hb hr hlocks hP hD hS ⟨(by show 0 ≤ Int32.toInt 1; decide), (by show Int32.toInt 1 ≤ 1; decide)⟩ dX2_follow_79
set_option maxHeartbeats 4000000 in
set_option maxRecDepth 100000 in
theorem K79_X3_noteTime (l : Launch) (D : va_G) (cB cI cZ : ClassId) (sz : Nat) (h0 : Nat) (h1 : Nat) (h2 : Nat)  (g0 : Value) (g1 : Value) (g2 : Value) (g3 : Value) (g4 : Value) (g5 : Value) (g6 : Value) (g7 : Value) (g8 : Value) (g9 : Value) (g10 : Value) (g11 : Value)  :
    CtV l D cB cI cZ yX3_noteTime wsX3_noteTime { frames := 1, cells := 0, slots := 0, locals := 20 } [.ref h0, .int 8, .int 0] [(h0, .inr (3, [g0, g1, g2, .ref h1, .ref h2, g3, g4, g5, g6, g7, g8, g9, g10, g11])), (h1, .inl (cZ, 64, .inl zf)), (h2, .inl (cI, 64, .inl zf))] sz 0 0
      (fun (u : (Nat → Int32)) => True)
      (fun u => [(h0, .inr (3, [g0, g1, g2, .ref h1, .ref h2, g3, g4, g5, g6, g7, g8, g9, g10, g11])), (h1, .inl (cZ, 64, .inl u)), (h2, .inl (cI, 64, .inl zf))]) := by
  refine mk_metV (cc := cX3_noteTime) (maxL := 3) (ret := none) (by decide) rfl (Nat.le_of_ble_eq_true rfl) ?_
  intro p e s m below meth c A hx hb hr hml hts hown hlocks hin hP hK hN hD hA hS ls hl
  have hown : s.vm.findClass RX3 = some m.cls := hown
  have hl : lv_has ls 3 [(0, .ref h0), (1, .int 8), (2, .int 0)] := hl
  refine lv_iload_n hx hb dX3_noteTime_0 rfl (lv_at hl 1 rfl) ?_
  refine kc_i (wr := [(h0, .inr (3, [g0, g1, g2, .ref h1, .ref h2, g3, g4, g5, g6, g7, g8, g9, g10, g11])), (h1, .inl (cZ, 64, .inl zf)), (h2, .inl (cI, 64, .inl zf))]) (va_runSN (As := [.int 8]) (rest := []) ⟨hx, hb, hml, hown, hts⟩ (K55_X7_isOfLog l D cB cI cZ _ ) ⟨va_cnB 1 hts gX3_noteTime_X7_isOfLog_n65 rfl rfl rfl (hN.m (a := RX3) (i := 65) (y := yX7_isOfLog) (by decide +kernel)) (hts _ wdX3_noteTime_0) (by decide +kernel) ⟨Nat.le_of_ble_eq_true rfl, Nat.le_of_ble_eq_true rfl⟩, hts _ wdX3_noteTime_1, trivial⟩ (pre_S (hP.sub [] rfl) hK hN (hD.sub [] (by decide) rfl)) rfl rfl hl.1 rfl (lv_room (Nat.le_of_ble_eq_true rfl)) dX3_noteTime_1 ⟨Nat.le_of_ble_eq_true rfl, Nat.le_of_ble_eq_true rfl⟩) hP hD hS hA [] [0, 1, 2] rfl rfl (by decide) (by decide) (fun r_1 u H locs hw hP hD hS => ?_)
  have k_2 := hw
  obtain rfl : r_1 = 1 := k_2
  have hP : va_P D vwCl [(h0, .inr (3, [g0, g1, g2, .ref h1, .ref h2, g3, g4, g5, g6, g7, g8, g9, g10, g11])), (h1, .inl (cZ, 64, .inl zf)), (h2, .inl (cI, 64, .inl zf))] H := hP
  have hD : va_D A [(h0, .inr (3, [g0, g1, g2, .ref h1, .ref h2, g3, g4, g5, g6, g7, g8, g9, g10, g11])), (h1, .inl (cZ, 64, .inl zf)), (h2, .inl (cI, 64, .inl zf))] := hD
  refine lv_if_ne (tgt := 8) hx hb dX3_noteTime_4 (by decide) (fun c => ?_) (fun c => absurd c (by decide))
  refine lv_aload_n hx hb dX3_noteTime_8 rfl (lv_at hl 0 rfl) ?_
  refine va_get (D := D) (ci := 3) (v := .ref h1) (C := RX3) (T := TX3) (N := 14) hx hb hts inX3_noteTime_X3 hown hK hP 0 rfl rfl 3 (by decide) (hts _ wdX3_noteTime_2) (fun _ h9 => h9) rfl dX3_noteTime_9 ?_
  refine lv_iload_n hx hb dX3_noteTime_12 rfl (lv_at hl 1 rfl) ?_
  refine va_zald hx hb hK hP 1 2 rfl rfl (ti_in (a := 8) (by decide) (by decide) (by decide)) dX3_noteTime_13 ?_
  refine lv_topi (fun z_3 ez_3 => ?_)
  obtain rfl : z_3 = 0 := ez_3
  refine lv_if_eq (tgt := 27) hx hb dX3_noteTime_14 (by decide) (fun c => ?_) (fun c => absurd (by decide) c)
  refine lv_aload_n hx hb dX3_noteTime_27 rfl (lv_at hl 0 rfl) ?_
  refine va_get (D := D) (ci := 3) (v := .ref h2) (C := RX3) (T := TX3) (N := 14) hx hb hts inX3_noteTime_X3 hown hK hP 0 rfl rfl 4 (by decide) (hts _ wdX3_noteTime_3) (fun _ h9 => h9) rfl dX3_noteTime_28 ?_
  refine lv_iload_n hx hb dX3_noteTime_31 rfl (lv_at hl 1 rfl) ?_
  refine lv_iload_n hx hb dX3_noteTime_32 rfl (lv_at hl 2 rfl) ?_
  refine va_iast hx hb hK hP hD hS 2 1 rfl rfl (ti_in (a := 8) (by decide) (by decide) (by decide)) dX3_noteTime_33 (fun H locs hP hD hS => ?_)
  rw [zf_upd] at hP hD
  have hP : va_P D vwCl [(h0, .inr (3, [g0, g1, g2, .ref h1, .ref h2, g3, g4, g5, g6, g7, g8, g9, g10, g11])), (h1, .inl (cZ, 64, .inl zf)), (h2, .inl (cI, 64, .inl zf))] H := hP
  have hD : va_D A [(h0, .inr (3, [g0, g1, g2, .ref h1, .ref h2, g3, g4, g5, g6, g7, g8, g9, g10, g11])), (h1, .inl (cZ, 64, .inl zf)), (h2, .inl (cI, 64, .inl zf))] := hD
  refine lv_aload_n hx hb dX3_noteTime_34 rfl (lv_at hl 0 rfl) ?_
  refine va_get (D := D) (ci := 3) (v := .ref h1) (C := RX3) (T := TX3) (N := 14) hx hb hts inX3_noteTime_X3 hown hK hP 0 rfl rfl 3 (by decide) (hts _ wdX3_noteTime_2) (fun _ h9 => h9) rfl dX3_noteTime_35 ?_
  refine lv_iload_n hx hb dX3_noteTime_38 rfl (lv_at hl 1 rfl) ?_
  refine lv_iconst (v := 1) hx hb dX3_noteTime_39 (by decide) ?_
  refine va_zast hx hb hK hP hD hS 1 2 rfl rfl (ti_in (a := 8) (by decide) (by decide) (by decide)) dX3_noteTime_40 (fun H locs hP hD hS => ?_)
  obtain ⟨f_4, ef_4⟩ : ∃ g : Nat → Int32, g = upd zf (Int32.toNatClampNeg 8) (vp_nar .boolean 1) := ⟨_, rfl⟩
  rw [← ef_4] at hP hD
  have hP : va_P D vwCl [(h0, .inr (3, [g0, g1, g2, .ref h1, .ref h2, g3, g4, g5, g6, g7, g8, g9, g10, g11])), (h1, .inl (cZ, 64, .inl f_4)), (h2, .inl (cI, 64, .inl zf))] H := hP
  have hD : va_D A [(h0, .inr (3, [g0, g1, g2, .ref h1, .ref h2, g3, g4, g5, g6, g7, g8, g9, g10, g11])), (h1, .inl (cZ, 64, .inl f_4)), (h2, .inl (cI, 64, .inl zf))] := hD
  exact kr_v f_4 hx hb hr hlocks hP hD hS trivial dX3_noteTime_41
set_option maxHeartbeats 4000000 in
set_option maxRecDepth 100000 in
theorem K80_X3_noteFresh (l : Launch) (D : va_G) (cB cI cZ : ClassId) (sz : Nat) (h0 : Nat) (h1 : Nat) (h2 : Nat) (h3 : Nat)  (g0 : Value) (g1 : Value) (g2 : Value) (g3 : Value) (g4 : Value) (g5 : Value) (g6 : Value) (g7 : Value) (f0 : Nat → Int32) (f1 : Nat → Int32)  :
    CtV l D cB cI cZ yX3_noteFresh wsX3_noteFresh { frames := 1, cells := 0, slots := 0, locals := 20 } [.ref h0, .int 16] [(h0, .inr (3, [g0, g1, g2, g3, g4, .ref h1, .ref h2, .ref h3, .int 1, .int 8, .int 10, g5, g6, g7])), (h1, .inl (cI, 64, .inl f0)), (h2, .inl (cI, 64, .inl zf)), (h3, .inl (cI, 64, .inl f1))] sz 0 0
      (fun (u : Int32 × (Nat → Int32) × (Nat → Int32) × (Nat → Int32)) => 1 ≤ u.1.toInt ∧ u.1.toInt ≤ 2)
      (fun u => [(h0, .inr (3, [g0, g1, g2, g3, g4, .ref h1, .ref h2, .ref h3, .int u.1, .int 8, .int 26, g5, g6, g7])), (h1, .inl (cI, 64, .inl u.2.1)), (h2, .inl (cI, 64, .inl u.2.2.1)), (h3, .inl (cI, 64, .inl u.2.2.2))]) := by
  refine mk_metV (cc := cX3_noteFresh) (maxL := 3) (ret := none) (by decide) rfl (Nat.le_of_ble_eq_true rfl) ?_
  intro p e s m below meth c A hx hb hr hml hts hown hlocks hin hP hK hN hD hA hS ls hl
  have hown : s.vm.findClass RX3 = some m.cls := hown
  have hl : lv_has ls 3 [(0, .ref h0), (1, .int 16)] := hl
  refine lv_aload_n hx hb dX3_noteFresh_0 rfl (lv_at hl 0 rfl) ?_
  refine va_get (D := D) (ci := 3) (v := .int 8) (C := RX3) (T := TX3) (N := 14) hx hb hts inX3_noteFresh_X3 hown hK hP 0 rfl rfl 9 (by decide) (hts _ wdX3_noteFresh_0) (fun _ h9 => h9) rfl dX3_noteFresh_1 ?_
  refine kc_i (wr := [(h0, .inr (3, [g0, g1, g2, g3, g4, .ref h1, .ref h2, .ref h3, .int 1, .int 8, .int 10, g5, g6, g7])), (h1, .inl (cI, 64, .inl f0)), (h2, .inl (cI, 64, .inl zf)), (h3, .inl (cI, 64, .inl f1))]) (va_runSN (As := [.int 8]) (rest := []) ⟨hx, hb, hml, hown, hts⟩ (K55_X7_isOfLog l D cB cI cZ _ ) ⟨va_cnB 1 hts gX3_noteFresh_X7_isOfLog_n65 rfl rfl rfl (hN.m (a := RX3) (i := 65) (y := yX7_isOfLog) (by decide +kernel)) (hts _ wdX3_noteFresh_1) (by decide +kernel) ⟨Nat.le_of_ble_eq_true rfl, Nat.le_of_ble_eq_true rfl⟩, hts _ wdX3_noteFresh_2, trivial⟩ (pre_S (hP.sub [] rfl) hK hN (hD.sub [] (by decide) rfl)) rfl rfl hl.1 rfl (lv_room (Nat.le_of_ble_eq_true rfl)) dX3_noteFresh_4 ⟨Nat.le_of_ble_eq_true rfl, Nat.le_of_ble_eq_true rfl⟩) hP hD hS hA [] [0, 1, 2, 3] rfl rfl (by decide) (by decide) (fun r_1 u H locs hw hP hD hS => ?_)
  have k_2 := hw
  obtain rfl : r_1 = 1 := k_2
  have hP : va_P D vwCl [(h0, .inr (3, [g0, g1, g2, g3, g4, .ref h1, .ref h2, .ref h3, .int 1, .int 8, .int 10, g5, g6, g7])), (h1, .inl (cI, 64, .inl f0)), (h2, .inl (cI, 64, .inl zf)), (h3, .inl (cI, 64, .inl f1))] H := hP
  have hD : va_D A [(h0, .inr (3, [g0, g1, g2, g3, g4, .ref h1, .ref h2, .ref h3, .int 1, .int 8, .int 10, g5, g6, g7])), (h1, .inl (cI, 64, .inl f0)), (h2, .inl (cI, 64, .inl zf)), (h3, .inl (cI, 64, .inl f1))] := hD
  refine lv_if_ne (tgt := 11) hx hb dX3_noteFresh_7 (by decide) (fun c => ?_) (fun c => absurd c (by decide))
  refine lv_aload_n hx hb dX3_noteFresh_11 rfl (lv_at hl 0 rfl) ?_
  refine va_get (D := D) (ci := 3) (v := .int 1) (C := RX3) (T := TX3) (N := 14) hx hb hts inX3_noteFresh_X3 hown hK hP 0 rfl rfl 8 (by decide) (hts _ wdX3_noteFresh_3) (fun _ h9 => h9) rfl dX3_noteFresh_12 ?_
  refine lv_if_le (tgt := 40) hx hb dX3_noteFresh_15 (by decide) (fun c => absurd c (by decide)) (fun c => ?_)
  refine lv_aload_n hx hb dX3_noteFresh_18 rfl (lv_at hl 0 rfl) ?_
  refine va_get (D := D) (ci := 3) (v := .ref h1) (C := RX3) (T := TX3) (N := 14) hx hb hts inX3_noteFresh_X3 hown hK hP 0 rfl rfl 5 (by decide) (hts _ wdX3_noteFresh_4) (fun _ h9 => h9) rfl dX3_noteFresh_19 ?_
  refine lv_aload_n hx hb dX3_noteFresh_22 rfl (lv_at hl 0 rfl) ?_
  refine va_get (D := D) (ci := 3) (v := .int 1) (C := RX3) (T := TX3) (N := 14) hx hb hts inX3_noteFresh_X3 hown hK hP 0 rfl rfl 8 (by decide) (hts _ wdX3_noteFresh_3) (fun _ h9 => h9) rfl dX3_noteFresh_23 ?_
  refine lv_iconst (v := 1) hx hb dX3_noteFresh_26 (by decide) ?_
  refine lv_isub hx hb dX3_noteFresh_27 ?_
  refine lv_topi (fun z_3 ez_3 => ?_)
  obtain rfl : z_3 = 0 := ez_3.trans (by decide)
  refine va_iald hx hb hK hP 1 1 rfl rfl (ti_in (a := 0) (by decide) (by decide) (by decide)) dX3_noteFresh_28 ?_
  refine lv_topi (fun x_4 ex_4 => ?_)
  refine lv_aload_n hx hb dX3_noteFresh_29 rfl (lv_at hl 0 rfl) ?_
  refine va_get (D := D) (ci := 3) (v := .int 8) (C := RX3) (T := TX3) (N := 14) hx hb hts inX3_noteFresh_X3 hown hK hP 0 rfl rfl 9 (by decide) (hts _ wdX3_noteFresh_0) (fun _ h9 => h9) rfl dX3_noteFresh_30 ?_
  refine lv_icmp_ne (tgt := 40) hx hb dX3_noteFresh_33 (by decide) (fun c => ?_) (fun c => ?_)
  · skip
    have k_5 := mt (ti_eq (x := x_4) (y := 8) (a := x_4.toInt) (b := 8) rfl (by decide)).mpr c
    refine lv_iconst (v := 0) hx hb dX3_noteFresh_40 (by decide) ?_
    refine lv_istore_n (lv' := [(2, .int 0), (0, .ref h0), (1, .int 16)]) hx hb dX3_noteFresh_41 rfl hl (by decide) rfl (fun ls hl => ?_)
    refine lv_iload_n hx hb dX3_noteFresh_42 rfl (lv_at hl 0 rfl) ?_
    refine lv_if_ne (tgt := 91) hx hb dX3_noteFresh_43 (by decide) (fun c => absurd (by decide) c) (fun c => ?_)
    refine lv_aload_n hx hb dX3_noteFresh_46 rfl (lv_at hl 1 rfl) ?_
    refine va_get (D := D) (ci := 3) (v := .int 1) (C := RX3) (T := TX3) (N := 14) hx hb hts inX3_noteFresh_X3 hown hK hP 0 rfl rfl 8 (by decide) (hts _ wdX3_noteFresh_3) (fun _ h9 => h9) rfl dX3_noteFresh_47 ?_
    refine lv_bipush (v := 64) hx hb dX3_noteFresh_50 (by decide) ?_
    refine lv_icmp_ge (tgt := 91) hx hb dX3_noteFresh_52 (by decide) (fun c => absurd c (by decide)) (fun c => ?_)
    refine lv_aload_n hx hb dX3_noteFresh_55 rfl (lv_at hl 1 rfl) ?_
    refine va_get (D := D) (ci := 3) (v := .ref h1) (C := RX3) (T := TX3) (N := 14) hx hb hts inX3_noteFresh_X3 hown hK hP 0 rfl rfl 5 (by decide) (hts _ wdX3_noteFresh_4) (fun _ h9 => h9) rfl dX3_noteFresh_56 ?_
    refine lv_aload_n hx hb dX3_noteFresh_59 rfl (lv_at hl 1 rfl) ?_
    refine va_get (D := D) (ci := 3) (v := .int 1) (C := RX3) (T := TX3) (N := 14) hx hb hts inX3_noteFresh_X3 hown hK hP 0 rfl rfl 8 (by decide) (hts _ wdX3_noteFresh_3) (fun _ h9 => h9) rfl dX3_noteFresh_60 ?_
    refine lv_aload_n hx hb dX3_noteFresh_63 rfl (lv_at hl 1 rfl) ?_
    refine va_get (D := D) (ci := 3) (v := .int 8) (C := RX3) (T := TX3) (N := 14) hx hb hts inX3_noteFresh_X3 hown hK hP 0 rfl rfl 9 (by decide) (hts _ wdX3_noteFresh_0) (fun _ h9 => h9) rfl dX3_noteFresh_64 ?_
    refine va_iast hx hb hK hP hD hS 1 1 rfl rfl (ti_in (a := 1) (by decide) (by decide) (by decide)) dX3_noteFresh_67 (fun H locs hP hD hS => ?_)
    obtain ⟨f_6, ef_6⟩ : ∃ g : Nat → Int32, g = upd f0 (Int32.toNatClampNeg 1) 8 := ⟨_, rfl⟩
    rw [← ef_6] at hP hD
    have hP : va_P D vwCl [(h0, .inr (3, [g0, g1, g2, g3, g4, .ref h1, .ref h2, .ref h3, .int 1, .int 8, .int 10, g5, g6, g7])), (h1, .inl (cI, 64, .inl f_6)), (h2, .inl (cI, 64, .inl zf)), (h3, .inl (cI, 64, .inl f1))] H := hP
    have hD : va_D A [(h0, .inr (3, [g0, g1, g2, g3, g4, .ref h1, .ref h2, .ref h3, .int 1, .int 8, .int 10, g5, g6, g7])), (h1, .inl (cI, 64, .inl f_6)), (h2, .inl (cI, 64, .inl zf)), (h3, .inl (cI, 64, .inl f1))] := hD
    refine lv_aload_n hx hb dX3_noteFresh_68 rfl (lv_at hl 1 rfl) ?_
    refine lv_dup hx hb dX3_noteFresh_69 rfl ?_
    refine va_get (D := D) (ci := 3) (v := .int 1) (C := RX3) (T := TX3) (N := 14) hx hb hts inX3_noteFresh_X3 hown hK hP 0 rfl rfl 8 (by decide) (hts _ wdX3_noteFresh_3) (fun _ h9 => h9) rfl dX3_noteFresh_70 ?_
    refine lv_iconst (v := 1) hx hb dX3_noteFresh_73 (by decide) ?_
    refine lv_iadd hx hb dX3_noteFresh_74 ?_
    refine lv_topi (fun z_7 ez_7 => ?_)
    obtain rfl : z_7 = 2 := ez_7.trans (by decide)
    refine va_put (D := D) (ci := 3) (v := .int 2) (ty := .int) (C := RX3) (T := TX3) (N := 14) hx hb hts inX3_noteFresh_X3 tyX3 tyX3_ok nmX3 hown hK hP hD hS 0 rfl rfl 8 (by decide) (hts _ wdX3_noteFresh_3) (fun _ h9 => h9) rfl (by decide +kernel) rfl rfl (Nat.le_of_ble_eq_true rfl) dX3_noteFresh_75 (fun H locs hP hD hS => ?_)
    have hP : va_P D vwCl [(h0, .inr (3, [g0, g1, g2, g3, g4, .ref h1, .ref h2, .ref h3, .int 2, .int 8, .int 10, g5, g6, g7])), (h1, .inl (cI, 64, .inl f_6)), (h2, .inl (cI, 64, .inl zf)), (h3, .inl (cI, 64, .inl f1))] H := hP
    have hD : va_D A [(h0, .inr (3, [g0, g1, g2, g3, g4, .ref h1, .ref h2, .ref h3, .int 2, .int 8, .int 10, g5, g6, g7])), (h1, .inl (cI, 64, .inl f_6)), (h2, .inl (cI, 64, .inl zf)), (h3, .inl (cI, 64, .inl f1))] := hD
    refine lv_aload_n hx hb dX3_noteFresh_78 rfl (lv_at hl 1 rfl) ?_
    refine va_get (D := D) (ci := 3) (v := .ref h2) (C := RX3) (T := TX3) (N := 14) hx hb hts inX3_noteFresh_X3 hown hK hP 0 rfl rfl 6 (by decide) (hts _ wdX3_noteFresh_5) (fun _ h9 => h9) rfl dX3_noteFresh_79 ?_
    refine lv_aload_n hx hb dX3_noteFresh_82 rfl (lv_at hl 1 rfl) ?_
    refine va_get (D := D) (ci := 3) (v := .int 8) (C := RX3) (T := TX3) (N := 14) hx hb hts inX3_noteFresh_X3 hown hK hP 0 rfl rfl 9 (by decide) (hts _ wdX3_noteFresh_0) (fun _ h9 => h9) rfl dX3_noteFresh_83 ?_
    refine lv_aload_n hx hb dX3_noteFresh_86 rfl (lv_at hl 1 rfl) ?_
    refine va_get (D := D) (ci := 3) (v := .int 10) (C := RX3) (T := TX3) (N := 14) hx hb hts inX3_noteFresh_X3 hown hK hP 0 rfl rfl 10 (by decide) (hts _ wdX3_noteFresh_6) (fun _ h9 => h9) rfl dX3_noteFresh_87 ?_
    refine va_iast hx hb hK hP hD hS 2 1 rfl rfl (ti_in (a := 8) (by decide) (by decide) (by decide)) dX3_noteFresh_90 (fun H locs hP hD hS => ?_)
    obtain ⟨f_8, ef_8⟩ : ∃ g : Nat → Int32, g = upd zf (Int32.toNatClampNeg 8) 10 := ⟨_, rfl⟩
    rw [← ef_8] at hP hD
    have hP : va_P D vwCl [(h0, .inr (3, [g0, g1, g2, g3, g4, .ref h1, .ref h2, .ref h3, .int 2, .int 8, .int 10, g5, g6, g7])), (h1, .inl (cI, 64, .inl f_6)), (h2, .inl (cI, 64, .inl f_8)), (h3, .inl (cI, 64, .inl f1))] H := hP
    have hD : va_D A [(h0, .inr (3, [g0, g1, g2, g3, g4, .ref h1, .ref h2, .ref h3, .int 2, .int 8, .int 10, g5, g6, g7])), (h1, .inl (cI, 64, .inl f_6)), (h2, .inl (cI, 64, .inl f_8)), (h3, .inl (cI, 64, .inl f1))] := hD
    refine lv_aload_n hx hb dX3_noteFresh_91 rfl (lv_at hl 1 rfl) ?_
    refine lv_dup hx hb dX3_noteFresh_92 rfl ?_
    refine va_get (D := D) (ci := 3) (v := .int 10) (C := RX3) (T := TX3) (N := 14) hx hb hts inX3_noteFresh_X3 hown hK hP 0 rfl rfl 10 (by decide) (hts _ wdX3_noteFresh_6) (fun _ h9 => h9) rfl dX3_noteFresh_93 ?_
    refine lv_iload_n hx hb dX3_noteFresh_96 rfl (lv_at hl 2 rfl) ?_
    refine lv_iadd hx hb dX3_noteFresh_97 ?_
    refine lv_topi (fun z_9 ez_9 => ?_)
    obtain rfl : z_9 = 26 := ez_9.trans (by decide)
    refine va_put (D := D) (ci := 3) (v := .int 26) (ty := .int) (C := RX3) (T := TX3) (N := 14) hx hb hts inX3_noteFresh_X3 tyX3 tyX3_ok nmX3 hown hK hP hD hS 0 rfl rfl 10 (by decide) (hts _ wdX3_noteFresh_6) (fun _ h9 => h9) rfl (by decide +kernel) rfl rfl (Nat.le_of_ble_eq_true rfl) dX3_noteFresh_98 (fun H locs hP hD hS => ?_)
    have hP : va_P D vwCl [(h0, .inr (3, [g0, g1, g2, g3, g4, .ref h1, .ref h2, .ref h3, .int 2, .int 8, .int 26, g5, g6, g7])), (h1, .inl (cI, 64, .inl f_6)), (h2, .inl (cI, 64, .inl f_8)), (h3, .inl (cI, 64, .inl f1))] H := hP
    have hD : va_D A [(h0, .inr (3, [g0, g1, g2, g3, g4, .ref h1, .ref h2, .ref h3, .int 2, .int 8, .int 26, g5, g6, g7])), (h1, .inl (cI, 64, .inl f_6)), (h2, .inl (cI, 64, .inl f_8)), (h3, .inl (cI, 64, .inl f1))] := hD
    refine lv_aload_n hx hb dX3_noteFresh_101 rfl (lv_at hl 1 rfl) ?_
    refine va_get (D := D) (ci := 3) (v := .ref h3) (C := RX3) (T := TX3) (N := 14) hx hb hts inX3_noteFresh_X3 hown hK hP 0 rfl rfl 7 (by decide) (hts _ wdX3_noteFresh_7) (fun _ h9 => h9) rfl dX3_noteFresh_102 ?_
    refine lv_aload_n hx hb dX3_noteFresh_105 rfl (lv_at hl 1 rfl) ?_
    refine va_get (D := D) (ci := 3) (v := .int 8) (C := RX3) (T := TX3) (N := 14) hx hb hts inX3_noteFresh_X3 hown hK hP 0 rfl rfl 9 (by decide) (hts _ wdX3_noteFresh_0) (fun _ h9 => h9) rfl dX3_noteFresh_106 ?_
    refine lv_aload_n hx hb dX3_noteFresh_109 rfl (lv_at hl 1 rfl) ?_
    refine va_get (D := D) (ci := 3) (v := .int 26) (C := RX3) (T := TX3) (N := 14) hx hb hts inX3_noteFresh_X3 hown hK hP 0 rfl rfl 10 (by decide) (hts _ wdX3_noteFresh_6) (fun _ h9 => h9) rfl dX3_noteFresh_110 ?_
    refine va_iast hx hb hK hP hD hS 3 1 rfl rfl (ti_in (a := 8) (by decide) (by decide) (by decide)) dX3_noteFresh_113 (fun H locs hP hD hS => ?_)
    obtain ⟨f_10, ef_10⟩ : ∃ g : Nat → Int32, g = upd f1 (Int32.toNatClampNeg 8) 26 := ⟨_, rfl⟩
    rw [← ef_10] at hP hD
    have hP : va_P D vwCl [(h0, .inr (3, [g0, g1, g2, g3, g4, .ref h1, .ref h2, .ref h3, .int 2, .int 8, .int 26, g5, g6, g7])), (h1, .inl (cI, 64, .inl f_6)), (h2, .inl (cI, 64, .inl f_8)), (h3, .inl (cI, 64, .inl f_10))] H := hP
    have hD : va_D A [(h0, .inr (3, [g0, g1, g2, g3, g4, .ref h1, .ref h2, .ref h3, .int 2, .int 8, .int 26, g5, g6, g7])), (h1, .inl (cI, 64, .inl f_6)), (h2, .inl (cI, 64, .inl f_8)), (h3, .inl (cI, 64, .inl f_10))] := hD
    exact kr_v (2, f_6, f_8, f_10) hx hb hr hlocks hP hD hS ⟨(by show 1 ≤ Int32.toInt 2; decide), (by show Int32.toInt 2 ≤ 2; decide)⟩ dX3_noteFresh_114
  · skip
    have k_11 := (ti_eq (x := x_4) (y := 8) (a := x_4.toInt) (b := 8) rfl (by decide)).mp c
    refine lv_iconst (v := 1) hx hb dX3_noteFresh_36 (by decide) ?_
    refine lv_goto (tgt := 41) hx hb dX3_noteFresh_37 (by decide) ?_
    refine lv_istore_n (lv' := [(2, .int 1), (0, .ref h0), (1, .int 16)]) hx hb dX3_noteFresh_41 rfl hl (by decide) rfl (fun ls hl => ?_)
    refine lv_iload_n hx hb dX3_noteFresh_42 rfl (lv_at hl 0 rfl) ?_
    refine lv_if_ne (tgt := 91) hx hb dX3_noteFresh_43 (by decide) (fun c => ?_) (fun c => absurd c (by decide))
    refine lv_aload_n hx hb dX3_noteFresh_91 rfl (lv_at hl 1 rfl) ?_
    refine lv_dup hx hb dX3_noteFresh_92 rfl ?_
    refine va_get (D := D) (ci := 3) (v := .int 10) (C := RX3) (T := TX3) (N := 14) hx hb hts inX3_noteFresh_X3 hown hK hP 0 rfl rfl 10 (by decide) (hts _ wdX3_noteFresh_6) (fun _ h9 => h9) rfl dX3_noteFresh_93 ?_
    refine lv_iload_n hx hb dX3_noteFresh_96 rfl (lv_at hl 2 rfl) ?_
    refine lv_iadd hx hb dX3_noteFresh_97 ?_
    refine lv_topi (fun z_12 ez_12 => ?_)
    obtain rfl : z_12 = 26 := ez_12.trans (by decide)
    refine va_put (D := D) (ci := 3) (v := .int 26) (ty := .int) (C := RX3) (T := TX3) (N := 14) hx hb hts inX3_noteFresh_X3 tyX3 tyX3_ok nmX3 hown hK hP hD hS 0 rfl rfl 10 (by decide) (hts _ wdX3_noteFresh_6) (fun _ h9 => h9) rfl (by decide +kernel) rfl rfl (Nat.le_of_ble_eq_true rfl) dX3_noteFresh_98 (fun H locs hP hD hS => ?_)
    have hP : va_P D vwCl [(h0, .inr (3, [g0, g1, g2, g3, g4, .ref h1, .ref h2, .ref h3, .int 1, .int 8, .int 26, g5, g6, g7])), (h1, .inl (cI, 64, .inl f0)), (h2, .inl (cI, 64, .inl zf)), (h3, .inl (cI, 64, .inl f1))] H := hP
    have hD : va_D A [(h0, .inr (3, [g0, g1, g2, g3, g4, .ref h1, .ref h2, .ref h3, .int 1, .int 8, .int 26, g5, g6, g7])), (h1, .inl (cI, 64, .inl f0)), (h2, .inl (cI, 64, .inl zf)), (h3, .inl (cI, 64, .inl f1))] := hD
    refine lv_aload_n hx hb dX3_noteFresh_101 rfl (lv_at hl 1 rfl) ?_
    refine va_get (D := D) (ci := 3) (v := .ref h3) (C := RX3) (T := TX3) (N := 14) hx hb hts inX3_noteFresh_X3 hown hK hP 0 rfl rfl 7 (by decide) (hts _ wdX3_noteFresh_7) (fun _ h9 => h9) rfl dX3_noteFresh_102 ?_
    refine lv_aload_n hx hb dX3_noteFresh_105 rfl (lv_at hl 1 rfl) ?_
    refine va_get (D := D) (ci := 3) (v := .int 8) (C := RX3) (T := TX3) (N := 14) hx hb hts inX3_noteFresh_X3 hown hK hP 0 rfl rfl 9 (by decide) (hts _ wdX3_noteFresh_0) (fun _ h9 => h9) rfl dX3_noteFresh_106 ?_
    refine lv_aload_n hx hb dX3_noteFresh_109 rfl (lv_at hl 1 rfl) ?_
    refine va_get (D := D) (ci := 3) (v := .int 26) (C := RX3) (T := TX3) (N := 14) hx hb hts inX3_noteFresh_X3 hown hK hP 0 rfl rfl 10 (by decide) (hts _ wdX3_noteFresh_6) (fun _ h9 => h9) rfl dX3_noteFresh_110 ?_
    refine va_iast hx hb hK hP hD hS 3 1 rfl rfl (ti_in (a := 8) (by decide) (by decide) (by decide)) dX3_noteFresh_113 (fun H locs hP hD hS => ?_)
    obtain ⟨f_13, ef_13⟩ : ∃ g : Nat → Int32, g = upd f1 (Int32.toNatClampNeg 8) 26 := ⟨_, rfl⟩
    rw [← ef_13] at hP hD
    have hP : va_P D vwCl [(h0, .inr (3, [g0, g1, g2, g3, g4, .ref h1, .ref h2, .ref h3, .int 1, .int 8, .int 26, g5, g6, g7])), (h1, .inl (cI, 64, .inl f0)), (h2, .inl (cI, 64, .inl zf)), (h3, .inl (cI, 64, .inl f_13))] H := hP
    have hD : va_D A [(h0, .inr (3, [g0, g1, g2, g3, g4, .ref h1, .ref h2, .ref h3, .int 1, .int 8, .int 26, g5, g6, g7])), (h1, .inl (cI, 64, .inl f0)), (h2, .inl (cI, 64, .inl zf)), (h3, .inl (cI, 64, .inl f_13))] := hD
    exact kr_v (1, f0, zf, f_13) hx hb hr hlocks hP hD hS ⟨(by show 1 ≤ Int32.toInt 1; decide), (by show Int32.toInt 1 ≤ 2; decide)⟩ dX3_noteFresh_114
