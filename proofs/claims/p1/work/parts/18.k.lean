set_option maxHeartbeats 4000000 in
set_option maxRecDepth 100000 in
theorem K163_X8_best (l : Launch) (D : va_G) (cB cI cZ : ClassId) (sz : Nat) (h0 : Nat) (h1 : Nat)  (g0 : Value) (g1 : Value) (g2 : Value) (g3 : Value) (g4 : Value) (g5 : Value) (g6 : Value) (g7 : Value) (g8 : Value) (g9 : Value) (g10 : Value) (g11 : Value) (g12 : Value) (g13 : Value) (g14 : Value) (g15 : Value) (g16 : Value) (g17 : Value) (g18 : Value) (g19 : Value) (g20 : Value) (g21 : Value) (g22 : Value) (g23 : Value) (g24 : Value) (g25 : Value) (g26 : Value) (g27 : Value) (g28 : Value)  :
    CtI l D cB cI cZ yX8_best wsX8_best { frames := 0, cells := 0, slots := 0, locals := 0 } [.ref h0] [(h0, .inr (7, [g0, g1, g2, g3, g4, .ref h1, g5, g6, g7, g8, g9, g10, g11, g12, g13, g14, g15, g16, g17, g18, g19, g20, g21, g22, g23, g24, g25, g26, g27, g28])), (h1, .inl (cI, 64, .inl zf))] sz 0 0
      (fun (r : Int32) (u : Unit) => r = (-1))
      (fun u => [(h0, .inr (7, [g0, g1, g2, g3, g4, .ref h1, g5, g6, g7, g8, g9, g10, g11, g12, g13, g14, g15, g16, g17, g18, g19, g20, g21, g22, g23, g24, g25, g26, g27, g28])), (h1, .inl (cI, 64, .inl zf))]) := by
  refine mk_metI (cc := cX8_best) (maxL := 11) (ret := (some .int)) (by decide) rfl (Nat.le_of_ble_eq_true rfl) ?_
  intro p e s m below meth c A hx hb hr hml hts hown hlocks hin hP hK hN hD hA hS ls hl
  have hown : s.vm.findClass RX8 = some m.cls := hown
  have hl : lv_has ls 11 [(0, .ref h0)] := hl
  refine lv_iconst (v := (-1)) hx hb dX8_best_0 (by decide) ?_
  refine lv_istore_n (lv' := [(1, .int (-1)), (0, .ref h0)]) hx hb dX8_best_1 rfl hl (by decide) rfl (fun ls hl => ?_)
  refine lv_lconst hx hb dX8_best_2 rfl ?_
  refine lv_topl (fun y_1 _ => ?_)
  refine lv_lstore_n (lv' := [(2, .long y_1), (1, .int (-1)), (0, .ref h0)]) hx hb dX8_best_3 rfl hl (by decide) rfl (fun ls hl => ?_)
  refine lv_lconst hx hb dX8_best_4 rfl ?_
  refine lv_topl (fun y_2 _ => ?_)
  refine lv_lstore (lv' := [(4, .long y_2), (2, .long y_1), (1, .int (-1)), (0, .ref h0)]) hx hb dX8_best_5 hl (by decide) rfl (fun ls hl => ?_)
  refine lv_bipush (v := 8) hx hb dX8_best_7 (by decide) ?_
  refine lv_istore (lv' := [(6, .int 8), (4, .long y_2), (2, .long y_1), (1, .int (-1)), (0, .ref h0)]) hx hb dX8_best_9 hl (by decide) rfl (fun ls hl => ?_)
  refine kl (α := Int32) (fun n a H locs ls => (8 ≤ Int32.toInt a) ∧ (Int32.toInt a ≤ 64) ∧ (64 - Int32.toInt a < ((n : Nat) : Int)) ∧ va_P D vwCl [(h0, .inr (7, [g0, g1, g2, g3, g4, .ref h1, g5, g6, g7, g8, g9, g10, g11, g12, g13, g14, g15, g16, g17, g18, g19, g20, g21, g22, g23, g24, g25, g26, g27, g28])), (h1, .inl (cI, 64, .inl zf))] H ∧ va_D A [(h0, .inr (7, [g0, g1, g2, g3, g4, .ref h1, g5, g6, g7, g8, g9, g10, g11, g12, g13, g14, g15, g16, g17, g18, g19, g20, g21, g22, g23, g24, g25, g26, g27, g28])), (h1, .inl (cI, 64, .inl zf))] ∧ va_S A s.heap H locs ∧ lv_has ls 11 [(6, .int a), (4, .long y_2), (2, .long y_1), (1, .int (-1)), (0, .ref h0)]) 57 8 ⟨(by show 8 ≤ Int32.toInt 8; decide), (by show Int32.toInt 8 ≤ 64; decide), (by show 64 - Int32.toInt 8 < ((57 : Nat) : Int); have := (by decide : Int32.toInt 8 = 8); omega), hP, hD, hS, hl⟩ (fun a H locs ls h => ?_) (fun n_4 ih_5 a H locs ls h => ?_)
  · obtain ⟨j_6, j_7, j_8, _⟩ := h
    omega
  obtain ⟨v_3, rfl⟩ : ∃ z, z = a := ⟨_, rfl⟩
  obtain ⟨j_6, j_7, j_8, hP, hD, hS, hl⟩ := h
  have j_6 : 8 ≤ Int32.toInt v_3 := j_6
  have j_7 : Int32.toInt v_3 ≤ 64 := j_7
  have j_8 : 64 - Int32.toInt v_3 < ((n_4 + 1 : Nat) : Int) := j_8
  have hP : va_P D vwCl [(h0, .inr (7, [g0, g1, g2, g3, g4, .ref h1, g5, g6, g7, g8, g9, g10, g11, g12, g13, g14, g15, g16, g17, g18, g19, g20, g21, g22, g23, g24, g25, g26, g27, g28])), (h1, .inl (cI, 64, .inl zf))] H := hP
  have hD : va_D A [(h0, .inr (7, [g0, g1, g2, g3, g4, .ref h1, g5, g6, g7, g8, g9, g10, g11, g12, g13, g14, g15, g16, g17, g18, g19, g20, g21, g22, g23, g24, g25, g26, g27, g28])), (h1, .inl (cI, 64, .inl zf))] := hD
  have hl : lv_has ls 11 [(6, .int v_3), (4, .long y_2), (2, .long y_1), (1, .int (-1)), (0, .ref h0)] := hl
  refine lv_iload hx hb dX8_best_11 (lv_at hl 0 rfl) ?_
  refine lv_bipush (v := 64) hx hb dX8_best_13 (by decide) ?_
  refine lv_icmp_ge (tgt := 117) hx hb dX8_best_15 (by decide) (fun c => ?_) (fun c => ?_)
  · skip
    have k_9 := (ti_le (x := 64) (y := v_3) (a := 64) (b := v_3.toInt) (by decide) rfl).mp c
    obtain rfl : v_3 = 64 := ti_inj (a := 64) (by decide) (by omega)
    refine lv_iload_n hx hb dX8_best_117 rfl (lv_at hl 3 rfl) ?_
    exact kr_i () hx hb hr hlocks hP hD hS rfl dX8_best_118
  · skip
    have k_10 := mt (ti_le (x := 64) (y := v_3) (a := 64) (b := v_3.toInt) (by decide) rfl).mpr c
    refine lv_aload_n hx hb dX8_best_18 rfl (lv_at hl 4 rfl) ?_
    refine va_get (D := D) (ci := 7) (v := .ref h1) (C := RX8) (T := TX8) (N := 30) hx hb hts inX8_best_X8 hown hK hP 0 rfl rfl 5 (by decide) (hts _ wdX8_best_0) (fun _ h9 => h9) rfl dX8_best_19 ?_
    refine lv_iload hx hb dX8_best_22 (lv_at hl 0 rfl) ?_
    refine va_iald hx hb hK hP 1 1 rfl rfl (ti_in (a := v_3.toInt) rfl (by omega) (by omega)) dX8_best_24 ?_
    refine lv_topi (fun z_11 ez_11 => ?_)
    obtain rfl : z_11 = 0 := ez_11
    refine lv_iconst (v := 1) hx hb dX8_best_25 (by decide) ?_
    refine lv_icmp_ne (tgt := 111) hx hb dX8_best_26 (by decide) (fun c => ?_) (fun c => absurd c (by decide))
    obtain ⟨x_12, ex_12⟩ : ∃ y : Int32, y = v_3 + 1 := ⟨_, rfl⟩
    have tx_12 : x_12.toInt = v_3.toInt + 1 := by rw [ex_12]; exact ti_add rfl (by decide) (by omega) (by omega)
    refine lv_iinc (v := x_12) (lv' := [(6, .int x_12), (4, .long y_2), (2, .long y_1), (1, .int (-1)), (0, .ref h0)]) hx hb dX8_best_111 hl (k := 0) rfl (by rw [ex_12]; rfl) (by decide) rfl (fun ls hl => ?_)
    refine lv_goto (tgt := 11) hx hb dX8_best_114 (by decide) ?_
    exact ih_5 x_12 _ _ _ ⟨(by show 8 ≤ Int32.toInt x_12; omega), (by show Int32.toInt x_12 ≤ 64; omega), (by show 64 - Int32.toInt x_12 < ((n_4 : Nat) : Int); omega), hP, hD, hS, hl⟩
set_option maxHeartbeats 4000000 in
set_option maxRecDepth 100000 in
theorem K161_X8_clean (l : Launch) (D : va_G) (cB cI cZ : ClassId) (sz : Nat) (h0 : Nat) (h1 : Nat) (h2 : Nat) (h3 : Nat)  (p0 : Int32) (g0 : Value) (g1 : Value) (g2 : Value) (g3 : Value) (g4 : Value) (g5 : Value) (g6 : Value) (g7 : Value) (g8 : Value) (g9 : Value) (g10 : Value) (g11 : Value) (g12 : Value) (g13 : Value) (g14 : Value) (g15 : Value) (g16 : Value) (g17 : Value) (g18 : Value) (g19 : Value) (g20 : Value) (g21 : Value) (g22 : Value) (g23 : Value) (g24 : Value) (i_p0 : 1 ≤ p0.toInt ∧ p0.toInt ≤ 8) :
    CtI l D cB cI cZ yX8_clean wsX8_clean { frames := 1, cells := 0, slots := 0, locals := 30 } [.ref h0, .int p0] [(h0, .inr (7, [g0, .int 0, g1, g2, g3, .ref h1, .int 0, g4, g5, g6, g7, g8, g9, g10, g11, g12, .ref h2, g13, g14, g15, g16, g17, g18, g19, g20, g21, g22, g23, .ref h3, g24])), (h1, .inl (cI, 64, .inl zf)), (h2, .inl (cI, 300, .inl zf)), (h3, .inl (cZ, 64, .inl zf))] sz 0 0
      (fun (r : Int32) (u : Unit) => r = 0)
      (fun u => []) := by
  refine mk_metI (cc := cX8_clean) (maxL := 12) (ret := (some .int)) (by decide) rfl (Nat.le_of_ble_eq_true rfl) ?_
  intro p e s m below meth c A hx hb hr hml hts hown hlocks hin hP hK hN hD hA hS ls hl
  have hown : s.vm.findClass RX8 = some m.cls := hown
  have hl : lv_has ls 12 [(0, .ref h0), (1, .int p0)] := hl
  refine lv_aload_n hx hb dX8_clean_0 rfl (lv_at hl 0 rfl) ?_
  refine lv_iconst (v := 0) hx hb dX8_clean_1 (by decide) ?_
  refine va_put (D := D) (ci := 7) (v := .int 0) (ty := .int) (C := RX8) (T := TX8) (N := 30) hx hb hts inX8_clean_X8 tyX8 tyX8_ok nmX8 hown hK hP hD hS 0 rfl rfl 0 (by decide) (hts _ wdX8_clean_0) (fun _ h9 => h9) rfl (by decide +kernel) rfl rfl (Nat.le_of_ble_eq_true rfl) dX8_clean_2 (fun H locs hP hD hS => ?_)
  have hP : va_P D vwCl [(h0, .inr (7, [.int 0, .int 0, g1, g2, g3, .ref h1, .int 0, g4, g5, g6, g7, g8, g9, g10, g11, g12, .ref h2, g13, g14, g15, g16, g17, g18, g19, g20, g21, g22, g23, .ref h3, g24])), (h1, .inl (cI, 64, .inl zf)), (h2, .inl (cI, 300, .inl zf)), (h3, .inl (cZ, 64, .inl zf))] H := hP
  have hD : va_D A [(h0, .inr (7, [.int 0, .int 0, g1, g2, g3, .ref h1, .int 0, g4, g5, g6, g7, g8, g9, g10, g11, g12, .ref h2, g13, g14, g15, g16, g17, g18, g19, g20, g21, g22, g23, .ref h3, g24])), (h1, .inl (cI, 64, .inl zf)), (h2, .inl (cI, 300, .inl zf)), (h3, .inl (cZ, 64, .inl zf))] := hD
  refine lv_aload_n hx hb dX8_clean_5 rfl (lv_at hl 0 rfl) ?_
  refine va_get (D := D) (ci := 7) (v := .int 0) (C := RX8) (T := TX8) (N := 30) hx hb hts inX8_clean_X8 hown hK hP 0 rfl rfl 1 (by decide) (hts _ wdX8_clean_1) (fun _ h9 => h9) rfl dX8_clean_6 ?_
  refine lv_if_eq (tgt := 15) hx hb dX8_clean_9 (by decide) (fun c => ?_) (fun c => absurd (by decide) c)
  refine lv_iload_n hx hb dX8_clean_15 rfl (lv_at hl 1 rfl) ?_
  refine lv_iconst (v := 1) hx hb dX8_clean_16 (by decide) ?_
  refine lv_bipush (v := 8) hx hb dX8_clean_17 (by decide) ?_
  refine kc_i (wr := [(h0, .inr (7, [.int 0, .int 0, g1, g2, g3, .ref h1, .int 0, g4, g5, g6, g7, g8, g9, g10, g11, g12, .ref h2, g13, g14, g15, g16, g17, g18, g19, g20, g21, g22, g23, .ref h3, g24])), (h1, .inl (cI, 64, .inl zf)), (h2, .inl (cI, 300, .inl zf)), (h3, .inl (cZ, 64, .inl zf))]) (va_runS (As := [.int p0, .int 1, .int 8]) (rest := []) ⟨hx, hb, hml, hown, hts⟩ (K162_X8_in l D cB cI cZ _ p0 ⟨by omega, by omega⟩) (va_cwS 3 hts gX8_clean_X8_in rfl rfl rfl (by decide +kernel) ⟨Nat.le_of_ble_eq_true rfl, Nat.le_of_ble_eq_true rfl⟩) (pre_S (hP.sub [] rfl) hK hN (hD.sub [] (by decide) rfl)) rfl rfl hl.1 rfl (lv_room (Nat.le_of_ble_eq_true rfl)) dX8_clean_19 ⟨Nat.le_of_ble_eq_true rfl, Nat.le_of_ble_eq_true rfl⟩) hP hD hS hA [] [0, 1, 2, 3] rfl rfl (by decide) (by decide) (fun r_1 u H locs hw hP hD hS => ?_)
  have k_2 := hw
  obtain rfl : r_1 = 1 := k_2
  have hP : va_P D vwCl [(h0, .inr (7, [.int 0, .int 0, g1, g2, g3, .ref h1, .int 0, g4, g5, g6, g7, g8, g9, g10, g11, g12, .ref h2, g13, g14, g15, g16, g17, g18, g19, g20, g21, g22, g23, .ref h3, g24])), (h1, .inl (cI, 64, .inl zf)), (h2, .inl (cI, 300, .inl zf)), (h3, .inl (cZ, 64, .inl zf))] H := hP
  have hD : va_D A [(h0, .inr (7, [.int 0, .int 0, g1, g2, g3, .ref h1, .int 0, g4, g5, g6, g7, g8, g9, g10, g11, g12, .ref h2, g13, g14, g15, g16, g17, g18, g19, g20, g21, g22, g23, .ref h3, g24])), (h1, .inl (cI, 64, .inl zf)), (h2, .inl (cI, 300, .inl zf)), (h3, .inl (cZ, 64, .inl zf))] := hD
  refine lv_if_ne (tgt := 28) hx hb dX8_clean_22 (by decide) (fun c => ?_) (fun c => absurd c (by decide))
  refine lv_iconst (v := 0) hx hb dX8_clean_28 (by decide) ?_
  refine lv_istore_n (lv' := [(2, .int 0), (0, .ref h0), (1, .int p0)]) hx hb dX8_clean_29 rfl hl (by decide) rfl (fun ls hl => ?_)
  refine kl (α := Int32) (fun n a H locs ls => (0 ≤ Int32.toInt a) ∧ (Int32.toInt a ≤ 64) ∧ (64 - Int32.toInt a < ((n : Nat) : Int)) ∧ va_P D vwCl [(h0, .inr (7, [.int 0, .int 0, g1, g2, g3, .ref h1, .int 0, g4, g5, g6, g7, g8, g9, g10, g11, g12, .ref h2, g13, g14, g15, g16, g17, g18, g19, g20, g21, g22, g23, .ref h3, g24])), (h1, .inl (cI, 64, .inl zf)), (h2, .inl (cI, 300, .inl zf)), (h3, .inl (cZ, 64, .inl zf))] H ∧ va_D A [(h0, .inr (7, [.int 0, .int 0, g1, g2, g3, .ref h1, .int 0, g4, g5, g6, g7, g8, g9, g10, g11, g12, .ref h2, g13, g14, g15, g16, g17, g18, g19, g20, g21, g22, g23, .ref h3, g24])), (h1, .inl (cI, 64, .inl zf)), (h2, .inl (cI, 300, .inl zf)), (h3, .inl (cZ, 64, .inl zf))] ∧ va_S A s.heap H locs ∧ lv_has ls 12 [(2, .int a), (0, .ref h0), (1, .int p0)]) 65 0 ⟨(by show 0 ≤ Int32.toInt 0; decide), (by show Int32.toInt 0 ≤ 64; decide), (by show 64 - Int32.toInt 0 < ((65 : Nat) : Int); have := (by decide : Int32.toInt 0 = 0); omega), hP, hD, hS, hl⟩ (fun a H locs ls h => ?_) (fun n_4 ih_5 a H locs ls h => ?_)
  · obtain ⟨j_6, j_7, j_8, _⟩ := h
    omega
  obtain ⟨v_3, rfl⟩ : ∃ z, z = a := ⟨_, rfl⟩
  obtain ⟨j_6, j_7, j_8, hP, hD, hS, hl⟩ := h
  have j_6 : 0 ≤ Int32.toInt v_3 := j_6
  have j_7 : Int32.toInt v_3 ≤ 64 := j_7
  have j_8 : 64 - Int32.toInt v_3 < ((n_4 + 1 : Nat) : Int) := j_8
  have hP : va_P D vwCl [(h0, .inr (7, [.int 0, .int 0, g1, g2, g3, .ref h1, .int 0, g4, g5, g6, g7, g8, g9, g10, g11, g12, .ref h2, g13, g14, g15, g16, g17, g18, g19, g20, g21, g22, g23, .ref h3, g24])), (h1, .inl (cI, 64, .inl zf)), (h2, .inl (cI, 300, .inl zf)), (h3, .inl (cZ, 64, .inl zf))] H := hP
  have hD : va_D A [(h0, .inr (7, [.int 0, .int 0, g1, g2, g3, .ref h1, .int 0, g4, g5, g6, g7, g8, g9, g10, g11, g12, .ref h2, g13, g14, g15, g16, g17, g18, g19, g20, g21, g22, g23, .ref h3, g24])), (h1, .inl (cI, 64, .inl zf)), (h2, .inl (cI, 300, .inl zf)), (h3, .inl (cZ, 64, .inl zf))] := hD
  have hl : lv_has ls 12 [(2, .int v_3), (0, .ref h0), (1, .int p0)] := hl
  refine lv_iload_n hx hb dX8_clean_30 rfl (lv_at hl 0 rfl) ?_
  refine lv_bipush (v := 64) hx hb dX8_clean_31 (by decide) ?_
  refine lv_icmp_ge (tgt := 49) hx hb dX8_clean_33 (by decide) (fun c => ?_) (fun c => ?_)
  · skip
    have k_9 := (ti_le (x := 64) (y := v_3) (a := 64) (b := v_3.toInt) (by decide) rfl).mp c
    obtain rfl : v_3 = 64 := ti_inj (a := 64) (by decide) (by omega)
    refine lv_iconst (v := 0) hx hb dX8_clean_49 (by decide) ?_
    refine lv_istore_n (lv' := [(2, .int 0), (0, .ref h0), (1, .int p0)]) hx hb dX8_clean_50 rfl hl (by decide) rfl (fun ls hl => ?_)
    refine lv_aload_n hx hb dX8_clean_51 rfl (lv_at hl 1 rfl) ?_
    refine kc_i (wr := [(h2, .inl (cI, 300, .inl zf)), (h3, .inl (cZ, 64, .inl zf))]) (va_runV (As := []) (rest := []) ⟨hx, hb, hml, hown, hts⟩ (K163_X8_best l D cB cI cZ _ h0 h1 ((.int 0)) ((.int 0)) (g1) (g2) (g3) ((.int 0)) (g4) (g5) (g6) (g7) (g8) (g9) (g10) (g11) (g12) ((.ref h2)) (g13) (g14) (g15) (g16) (g17) (g18) (g19) (g20) (g21) (g22) (g23) ((.ref h3)) (g24)) (cwV 0 hts gX8_clean_X8_best rfl rfl rfl (by decide +kernel) ⟨Nat.le_of_ble_eq_true rfl, Nat.le_of_ble_eq_true rfl⟩) (pre_V (q := (RX8, TX8, 30)) (ci := 7) (q0 := 0) (hP.sub [0, 1] rfl) hK hN (hD.sub [0, 1] (by decide) rfl) rfl rfl) rfl rfl hl.1 rfl (lv_room (Nat.le_of_ble_eq_true rfl)) dX8_clean_52 ⟨Nat.le_of_ble_eq_true rfl, Nat.le_of_ble_eq_true rfl⟩) hP hD hS hA [0, 1] [2, 3] rfl rfl (by decide) (by decide) (fun r_10 u H locs hw hP hD hS => ?_)
    have k_11 := hw
    obtain rfl : r_10 = (-1) := k_11
    have hP : va_P D vwCl [(h2, .inl (cI, 300, .inl zf)), (h3, .inl (cZ, 64, .inl zf)), (h0, .inr (7, [.int 0, .int 0, g1, g2, g3, .ref h1, .int 0, g4, g5, g6, g7, g8, g9, g10, g11, g12, .ref h2, g13, g14, g15, g16, g17, g18, g19, g20, g21, g22, g23, .ref h3, g24])), (h1, .inl (cI, 64, .inl zf))] H := hP
    have hD : va_D A [(h2, .inl (cI, 300, .inl zf)), (h3, .inl (cZ, 64, .inl zf)), (h0, .inr (7, [.int 0, .int 0, g1, g2, g3, .ref h1, .int 0, g4, g5, g6, g7, g8, g9, g10, g11, g12, .ref h2, g13, g14, g15, g16, g17, g18, g19, g20, g21, g22, g23, .ref h3, g24])), (h1, .inl (cI, 64, .inl zf))] := hD
    refine lv_istore_n (lv' := [(3, .int (-1)), (2, .int 0), (0, .ref h0), (1, .int p0)]) hx hb dX8_clean_55 rfl hl (by decide) rfl (fun ls hl => ?_)
    refine lv_iload_n hx hb dX8_clean_56 rfl (lv_at hl 1 rfl) ?_
    refine lv_iload_n hx hb dX8_clean_57 rfl (lv_at hl 3 rfl) ?_
    refine lv_icmp_ge (tgt := 83) hx hb dX8_clean_58 (by decide) (fun c => absurd ((ti_le (x := p0) (y := 0) (a := p0.toInt) (b := 0) rfl (by decide)).mp c) (by omega)) (fun c => ?_)
    refine lv_iload_n hx hb dX8_clean_61 rfl (lv_at hl 0 rfl) ?_
    refine lv_if_lt (tgt := 83) hx hb dX8_clean_62 (by decide) (fun c => ?_) (fun c => absurd (by decide) c)
    refine lv_iconst (v := 0) hx hb dX8_clean_83 (by decide) ?_
    refine lv_istore (lv' := [(4, .int 0), (3, .int (-1)), (2, .int 0), (0, .ref h0), (1, .int p0)]) hx hb dX8_clean_84 hl (by decide) rfl (fun ls hl => ?_)
    refine lv_iconst (v := 0) hx hb dX8_clean_86 (by decide) ?_
    refine lv_istore (lv' := [(5, .int 0), (4, .int 0), (3, .int (-1)), (2, .int 0), (0, .ref h0), (1, .int p0)]) hx hb dX8_clean_87 hl (by decide) rfl (fun ls hl => ?_)
    refine kl (α := Int32) (fun n a H locs ls => (0 ≤ Int32.toInt a) ∧ (Int32.toInt a ≤ 300) ∧ (300 - Int32.toInt a < ((n : Nat) : Int)) ∧ va_P D vwCl [(h2, .inl (cI, 300, .inl zf)), (h3, .inl (cZ, 64, .inl zf)), (h0, .inr (7, [.int 0, .int 0, g1, g2, g3, .ref h1, .int 0, g4, g5, g6, g7, g8, g9, g10, g11, g12, .ref h2, g13, g14, g15, g16, g17, g18, g19, g20, g21, g22, g23, .ref h3, g24])), (h1, .inl (cI, 64, .inl zf))] H ∧ va_D A [(h2, .inl (cI, 300, .inl zf)), (h3, .inl (cZ, 64, .inl zf)), (h0, .inr (7, [.int 0, .int 0, g1, g2, g3, .ref h1, .int 0, g4, g5, g6, g7, g8, g9, g10, g11, g12, .ref h2, g13, g14, g15, g16, g17, g18, g19, g20, g21, g22, g23, .ref h3, g24])), (h1, .inl (cI, 64, .inl zf))] ∧ va_S A s.heap H locs ∧ lv_has ls 12 [(5, .int a), (4, .int 0), (3, .int (-1)), (2, .int 0), (0, .ref h0), (1, .int p0)]) 301 0 ⟨(by show 0 ≤ Int32.toInt 0; decide), (by show Int32.toInt 0 ≤ 300; decide), (by show 300 - Int32.toInt 0 < ((301 : Nat) : Int); have := (by decide : Int32.toInt 0 = 0); omega), hP, hD, hS, hl⟩ (fun a H locs ls h => ?_) (fun n_13 ih_14 a H locs ls h => ?_)
    · obtain ⟨j_15, j_16, j_17, _⟩ := h
      omega
    obtain ⟨v_12, rfl⟩ : ∃ z, z = a := ⟨_, rfl⟩
    obtain ⟨j_15, j_16, j_17, hP, hD, hS, hl⟩ := h
    have j_15 : 0 ≤ Int32.toInt v_12 := j_15
    have j_16 : Int32.toInt v_12 ≤ 300 := j_16
    have j_17 : 300 - Int32.toInt v_12 < ((n_13 + 1 : Nat) : Int) := j_17
    have hP : va_P D vwCl [(h2, .inl (cI, 300, .inl zf)), (h3, .inl (cZ, 64, .inl zf)), (h0, .inr (7, [.int 0, .int 0, g1, g2, g3, .ref h1, .int 0, g4, g5, g6, g7, g8, g9, g10, g11, g12, .ref h2, g13, g14, g15, g16, g17, g18, g19, g20, g21, g22, g23, .ref h3, g24])), (h1, .inl (cI, 64, .inl zf))] H := hP
    have hD : va_D A [(h2, .inl (cI, 300, .inl zf)), (h3, .inl (cZ, 64, .inl zf)), (h0, .inr (7, [.int 0, .int 0, g1, g2, g3, .ref h1, .int 0, g4, g5, g6, g7, g8, g9, g10, g11, g12, .ref h2, g13, g14, g15, g16, g17, g18, g19, g20, g21, g22, g23, .ref h3, g24])), (h1, .inl (cI, 64, .inl zf))] := hD
    have hl : lv_has ls 12 [(5, .int v_12), (4, .int 0), (3, .int (-1)), (2, .int 0), (0, .ref h0), (1, .int p0)] := hl
    refine lv_iload hx hb dX8_clean_89 (lv_at hl 0 rfl) ?_
    refine lv_sipush (v := 300) hx hb dX8_clean_91 (by decide) ?_
    refine lv_icmp_ge (tgt := 240) hx hb dX8_clean_94 (by decide) (fun c => ?_) (fun c => ?_)
    · skip
      have k_18 := (ti_le (x := 300) (y := v_12) (a := 300) (b := v_12.toInt) (by decide) rfl).mp c
      obtain rfl : v_12 = 300 := ti_inj (a := 300) (by decide) (by omega)
      refine lv_iconst (v := 0) hx hb dX8_clean_240 (by decide) ?_
      refine lv_istore (lv' := [(5, .int 0), (4, .int 0), (3, .int (-1)), (2, .int 0), (0, .ref h0), (1, .int p0)]) hx hb dX8_clean_241 hl (by decide) rfl (fun ls hl => ?_)
      refine lv_aload_n hx hb dX8_clean_243 rfl (lv_at hl 4 rfl) ?_
      refine va_get (D := D) (ci := 7) (v := .int 0) (C := RX8) (T := TX8) (N := 30) hx hb hts inX8_clean_X8 hown hK hP 2 rfl rfl 6 (by decide) (hts _ wdX8_clean_2) (fun _ h9 => h9) rfl dX8_clean_244 ?_
      refine lv_if_ne (tgt := 256) hx hb dX8_clean_247 (by decide) (fun c => absurd (by decide) c) (fun c => ?_)
      refine lv_sipush (v := 1024) hx hb dX8_clean_250 (by decide) ?_
      refine lv_goto (tgt := 260) hx hb dX8_clean_253 (by decide) ?_
      refine lv_istore (lv' := [(6, .int 1024), (5, .int 0), (4, .int 0), (3, .int (-1)), (2, .int 0), (0, .ref h0), (1, .int p0)]) hx hb dX8_clean_260 hl (by decide) rfl (fun ls hl => ?_)
      refine lv_iconst (v := 0) hx hb dX8_clean_262 (by decide) ?_
      refine lv_istore (lv' := [(7, .int 0), (6, .int 1024), (5, .int 0), (4, .int 0), (3, .int (-1)), (2, .int 0), (0, .ref h0), (1, .int p0)]) hx hb dX8_clean_263 hl (by decide) rfl (fun ls hl => ?_)
      refine lv_iload hx hb dX8_clean_265 (lv_at hl 0 rfl) ?_
      refine lv_iload hx hb dX8_clean_267 (lv_at hl 3 rfl) ?_
      refine lv_icmp_ge (tgt := 338) hx hb dX8_clean_269 (by decide) (fun c => ?_) (fun c => absurd (by decide) c)
      refine lv_iload hx hb dX8_clean_338 (lv_at hl 2 rfl) ?_
      refine lv_aload_n hx hb dX8_clean_340 rfl (lv_at hl 6 rfl) ?_
      refine kc_i (wr := [(h2, .inl (cI, 300, .inl zf)), (h3, .inl (cZ, 64, .inl zf))]) (va_runV (As := []) (rest := [.int 0]) ⟨hx, hb, hml, hown, hts⟩ (K84_X8_frees l D cB cI cZ _ h0 h1 ((.int 0)) ((.int 0)) (g1) (g2) (g3) ((.int 0)) (g4) (g5) (g6) (g7) (g8) (g9) (g10) (g11) (g12) ((.ref h2)) (g13) (g14) (g15) (g16) (g17) (g18) (g19) (g20) (g21) (g22) (g23) ((.ref h3)) (g24)) (cwV 0 hts gX8_clean_X8_frees rfl rfl rfl (by decide +kernel) ⟨Nat.le_of_ble_eq_true rfl, Nat.le_of_ble_eq_true rfl⟩) (pre_V (q := (RX8, TX8, 30)) (ci := 7) (q0 := 0) (hP.sub [2, 3] rfl) hK hN (hD.sub [2, 3] (by decide) rfl) rfl rfl) rfl rfl hl.1 rfl (lv_room (Nat.le_of_ble_eq_true rfl)) dX8_clean_341 ⟨Nat.le_of_ble_eq_true rfl, Nat.le_of_ble_eq_true rfl⟩) hP hD hS hA [2, 3] [0, 1] rfl rfl (by decide) (by decide) (fun r_19 u H locs hw hP hD hS => ?_)
      have k_20 := hw
      obtain rfl : r_19 = 56 := k_20
      have hP : va_P D vwCl [(h2, .inl (cI, 300, .inl zf)), (h3, .inl (cZ, 64, .inl zf)), (h0, .inr (7, [.int 0, .int 0, g1, g2, g3, .ref h1, .int 0, g4, g5, g6, g7, g8, g9, g10, g11, g12, .ref h2, g13, g14, g15, g16, g17, g18, g19, g20, g21, g22, g23, .ref h3, g24])), (h1, .inl (cI, 64, .inl zf))] H := hP
      have hD : va_D A [(h2, .inl (cI, 300, .inl zf)), (h3, .inl (cZ, 64, .inl zf)), (h0, .inr (7, [.int 0, .int 0, g1, g2, g3, .ref h1, .int 0, g4, g5, g6, g7, g8, g9, g10, g11, g12, .ref h2, g13, g14, g15, g16, g17, g18, g19, g20, g21, g22, g23, .ref h3, g24])), (h1, .inl (cI, 64, .inl zf))] := hD
      refine lv_icmp_le (tgt := 350) hx hb dX8_clean_344 (by decide) (fun c => ?_) (fun c => absurd (by decide) c)
      refine lv_iconst (v := 0) hx hb dX8_clean_350 (by decide) ?_
      refine lv_istore (lv' := [(7, .int 0), (6, .int 1024), (5, .int 0), (4, .int 0), (3, .int (-1)), (2, .int 0), (0, .ref h0), (1, .int p0)]) hx hb dX8_clean_351 hl (by decide) rfl (fun ls hl => ?_)
      refine lv_iload hx hb dX8_clean_353 (lv_at hl 0 rfl) ?_
      refine lv_iload hx hb dX8_clean_355 (lv_at hl 3 rfl) ?_
      refine lv_icmp_ge (tgt := 456) hx hb dX8_clean_357 (by decide) (fun c => ?_) (fun c => absurd (by decide) c)
      refine lv_bipush (v := 8) hx hb dX8_clean_456 (by decide) ?_
      refine lv_istore (lv' := [(7, .int 8), (6, .int 1024), (5, .int 0), (4, .int 0), (3, .int (-1)), (2, .int 0), (0, .ref h0), (1, .int p0)]) hx hb dX8_clean_458 hl (by decide) rfl (fun ls hl => ?_)
      refine kl (α := Int32) (fun n a H locs ls => (8 ≤ Int32.toInt a) ∧ (Int32.toInt a ≤ 64) ∧ (64 - Int32.toInt a < ((n : Nat) : Int)) ∧ va_P D vwCl [(h2, .inl (cI, 300, .inl zf)), (h3, .inl (cZ, 64, .inl zf)), (h0, .inr (7, [.int 0, .int 0, g1, g2, g3, .ref h1, .int 0, g4, g5, g6, g7, g8, g9, g10, g11, g12, .ref h2, g13, g14, g15, g16, g17, g18, g19, g20, g21, g22, g23, .ref h3, g24])), (h1, .inl (cI, 64, .inl zf))] H ∧ va_D A [(h2, .inl (cI, 300, .inl zf)), (h3, .inl (cZ, 64, .inl zf)), (h0, .inr (7, [.int 0, .int 0, g1, g2, g3, .ref h1, .int 0, g4, g5, g6, g7, g8, g9, g10, g11, g12, .ref h2, g13, g14, g15, g16, g17, g18, g19, g20, g21, g22, g23, .ref h3, g24])), (h1, .inl (cI, 64, .inl zf))] ∧ va_S A s.heap H locs ∧ lv_has ls 12 [(7, .int a), (6, .int 1024), (5, .int 0), (4, .int 0), (3, .int (-1)), (2, .int 0), (0, .ref h0), (1, .int p0)]) 57 8 ⟨(by show 8 ≤ Int32.toInt 8; decide), (by show Int32.toInt 8 ≤ 64; decide), (by show 64 - Int32.toInt 8 < ((57 : Nat) : Int); have := (by decide : Int32.toInt 8 = 8); omega), hP, hD, hS, hl⟩ (fun a H locs ls h => ?_) (fun n_22 ih_23 a H locs ls h => ?_)
      · obtain ⟨j_24, j_25, j_26, _⟩ := h
        omega
      obtain ⟨v_21, rfl⟩ : ∃ z, z = a := ⟨_, rfl⟩
      obtain ⟨j_24, j_25, j_26, hP, hD, hS, hl⟩ := h
      have j_24 : 8 ≤ Int32.toInt v_21 := j_24
      have j_25 : Int32.toInt v_21 ≤ 64 := j_25
      have j_26 : 64 - Int32.toInt v_21 < ((n_22 + 1 : Nat) : Int) := j_26
      have hP : va_P D vwCl [(h2, .inl (cI, 300, .inl zf)), (h3, .inl (cZ, 64, .inl zf)), (h0, .inr (7, [.int 0, .int 0, g1, g2, g3, .ref h1, .int 0, g4, g5, g6, g7, g8, g9, g10, g11, g12, .ref h2, g13, g14, g15, g16, g17, g18, g19, g20, g21, g22, g23, .ref h3, g24])), (h1, .inl (cI, 64, .inl zf))] H := hP
      have hD : va_D A [(h2, .inl (cI, 300, .inl zf)), (h3, .inl (cZ, 64, .inl zf)), (h0, .inr (7, [.int 0, .int 0, g1, g2, g3, .ref h1, .int 0, g4, g5, g6, g7, g8, g9, g10, g11, g12, .ref h2, g13, g14, g15, g16, g17, g18, g19, g20, g21, g22, g23, .ref h3, g24])), (h1, .inl (cI, 64, .inl zf))] := hD
      have hl : lv_has ls 12 [(7, .int v_21), (6, .int 1024), (5, .int 0), (4, .int 0), (3, .int (-1)), (2, .int 0), (0, .ref h0), (1, .int p0)] := hl
      refine lv_iload hx hb dX8_clean_460 (lv_at hl 0 rfl) ?_
      refine lv_bipush (v := 64) hx hb dX8_clean_462 (by decide) ?_
      refine lv_icmp_ge (tgt := 501) hx hb dX8_clean_464 (by decide) (fun c => ?_) (fun c => ?_)
      · skip
        have k_27 := (ti_le (x := 64) (y := v_21) (a := 64) (b := v_21.toInt) (by decide) rfl).mp c
        obtain rfl : v_21 = 64 := ti_inj (a := 64) (by decide) (by omega)
        refine lv_iload_n hx hb dX8_clean_501 rfl (lv_at hl 5 rfl) ?_
        exact kr_i () hx hb hr hlocks (hP.sub [] rfl) (hD.sub [] (by decide) rfl) hS rfl dX8_clean_502
      · skip
        have k_28 := mt (ti_le (x := 64) (y := v_21) (a := 64) (b := v_21.toInt) (by decide) rfl).mpr c
        refine lv_aload_n hx hb dX8_clean_467 rfl (lv_at hl 6 rfl) ?_
        refine va_get (D := D) (ci := 7) (v := .ref h1) (C := RX8) (T := TX8) (N := 30) hx hb hts inX8_clean_X8 hown hK hP 2 rfl rfl 5 (by decide) (hts _ wdX8_clean_3) (fun _ h9 => h9) rfl dX8_clean_468 ?_
        refine lv_iload hx hb dX8_clean_471 (lv_at hl 0 rfl) ?_
        refine lv_aload_n hx hb dX8_clean_473 rfl (lv_at hl 6 rfl) ?_
        refine va_get (D := D) (ci := 7) (v := .ref h3) (C := RX8) (T := TX8) (N := 30) hx hb hts inX8_clean_X8 hown hK hP 2 rfl rfl 28 (by decide) (hts _ wdX8_clean_4) (fun _ h9 => h9) rfl dX8_clean_474 ?_
        refine lv_iload hx hb dX8_clean_477 (lv_at hl 0 rfl) ?_
        refine va_zald hx hb hK hP 1 2 rfl rfl (ti_in (a := v_21.toInt) rfl (by omega) (by omega)) dX8_clean_479 ?_
        refine lv_topi (fun z_29 ez_29 => ?_)
        obtain rfl : z_29 = 0 := ez_29
        refine lv_if_eq (tgt := 487) hx hb dX8_clean_480 (by decide) (fun c => ?_) (fun c => absurd (by decide) c)
        refine lv_aload_n hx hb dX8_clean_487 rfl (lv_at hl 6 rfl) ?_
        refine va_get (D := D) (ci := 7) (v := .ref h1) (C := RX8) (T := TX8) (N := 30) hx hb hts inX8_clean_X8 hown hK hP 2 rfl rfl 5 (by decide) (hts _ wdX8_clean_3) (fun _ h9 => h9) rfl dX8_clean_488 ?_
        refine lv_iload hx hb dX8_clean_491 (lv_at hl 0 rfl) ?_
        refine va_iald hx hb hK hP 3 1 rfl rfl (ti_in (a := v_21.toInt) rfl (by omega) (by omega)) dX8_clean_493 ?_
        refine lv_topi (fun z_30 ez_30 => ?_)
        obtain rfl : z_30 = 0 := ez_30
        refine va_iast hx hb hK hP hD hS 3 1 rfl rfl (ti_in (a := v_21.toInt) rfl (by omega) (by omega)) dX8_clean_494 (fun H locs hP hD hS => ?_)
        rw [zf_upd] at hP hD
        have hP : va_P D vwCl [(h2, .inl (cI, 300, .inl zf)), (h3, .inl (cZ, 64, .inl zf)), (h0, .inr (7, [.int 0, .int 0, g1, g2, g3, .ref h1, .int 0, g4, g5, g6, g7, g8, g9, g10, g11, g12, .ref h2, g13, g14, g15, g16, g17, g18, g19, g20, g21, g22, g23, .ref h3, g24])), (h1, .inl (cI, 64, .inl zf))] H := hP
        have hD : va_D A [(h2, .inl (cI, 300, .inl zf)), (h3, .inl (cZ, 64, .inl zf)), (h0, .inr (7, [.int 0, .int 0, g1, g2, g3, .ref h1, .int 0, g4, g5, g6, g7, g8, g9, g10, g11, g12, .ref h2, g13, g14, g15, g16, g17, g18, g19, g20, g21, g22, g23, .ref h3, g24])), (h1, .inl (cI, 64, .inl zf))] := hD
        obtain ⟨x_31, ex_31⟩ : ∃ y : Int32, y = v_21 + 1 := ⟨_, rfl⟩
        have tx_31 : x_31.toInt = v_21.toInt + 1 := by rw [ex_31]; exact ti_add rfl (by decide) (by omega) (by omega)
        refine lv_iinc (v := x_31) (lv' := [(7, .int x_31), (6, .int 1024), (5, .int 0), (4, .int 0), (3, .int (-1)), (2, .int 0), (0, .ref h0), (1, .int p0)]) hx hb dX8_clean_495 hl (k := 0) rfl (by rw [ex_31]; rfl) (by decide) rfl (fun ls hl => ?_)
        refine lv_goto (tgt := 460) hx hb dX8_clean_498 (by decide) ?_
        exact ih_23 x_31 _ _ _ ⟨(by show 8 ≤ Int32.toInt x_31; omega), (by show Int32.toInt x_31 ≤ 64; omega), (by show 64 - Int32.toInt x_31 < ((n_22 : Nat) : Int); omega), hP, hD, hS, hl⟩
    · skip
      have k_32 := mt (ti_le (x := 300) (y := v_12) (a := 300) (b := v_12.toInt) (by decide) rfl).mpr c
      refine lv_aload_n hx hb dX8_clean_97 rfl (lv_at hl 4 rfl) ?_
      refine va_get (D := D) (ci := 7) (v := .ref h2) (C := RX8) (T := TX8) (N := 30) hx hb hts inX8_clean_X8 hown hK hP 2 rfl rfl 16 (by decide) (hts _ wdX8_clean_5) (fun _ h9 => h9) rfl dX8_clean_98 ?_
      refine lv_iload hx hb dX8_clean_101 (lv_at hl 0 rfl) ?_
      refine va_iald hx hb hK hP 0 1 rfl rfl (ti_in (a := v_12.toInt) rfl (by omega) (by omega)) dX8_clean_103 ?_
      refine lv_topi (fun z_33 ez_33 => ?_)
      obtain rfl : z_33 = 0 := ez_33
      refine lv_if_eq (tgt := 234) hx hb dX8_clean_104 (by decide) (fun c => ?_) (fun c => absurd (by decide) c)
      obtain ⟨x_34, ex_34⟩ : ∃ y : Int32, y = v_12 + 1 := ⟨_, rfl⟩
      have tx_34 : x_34.toInt = v_12.toInt + 1 := by rw [ex_34]; exact ti_add rfl (by decide) (by omega) (by omega)
      refine lv_iinc (v := x_34) (lv' := [(5, .int x_34), (4, .int 0), (3, .int (-1)), (2, .int 0), (0, .ref h0), (1, .int p0)]) hx hb dX8_clean_234 hl (k := 0) rfl (by rw [ex_34]; rfl) (by decide) rfl (fun ls hl => ?_)
      refine lv_goto (tgt := 89) hx hb dX8_clean_237 (by decide) ?_
      exact ih_14 x_34 _ _ _ ⟨(by show 0 ≤ Int32.toInt x_34; omega), (by show Int32.toInt x_34 ≤ 300; omega), (by show 300 - Int32.toInt x_34 < ((n_13 : Nat) : Int); omega), hP, hD, hS, hl⟩
  · skip
    have k_35 := mt (ti_le (x := 64) (y := v_3) (a := 64) (b := v_3.toInt) (by decide) rfl).mpr c
    refine lv_aload_n hx hb dX8_clean_36 rfl (lv_at hl 1 rfl) ?_
    refine va_get (D := D) (ci := 7) (v := .ref h3) (C := RX8) (T := TX8) (N := 30) hx hb hts inX8_clean_X8 hown hK hP 0 rfl rfl 28 (by decide) (hts _ wdX8_clean_4) (fun _ h9 => h9) rfl dX8_clean_37 ?_
    refine lv_iload_n hx hb dX8_clean_40 rfl (lv_at hl 0 rfl) ?_
    refine lv_iconst (v := 0) hx hb dX8_clean_41 (by decide) ?_
    refine va_zast hx hb hK hP hD hS 3 2 rfl rfl (ti_in (a := v_3.toInt) rfl (by omega) (by omega)) dX8_clean_42 (fun H locs hP hD hS => ?_)
    rw [zf_updZ] at hP hD
    have hP : va_P D vwCl [(h0, .inr (7, [.int 0, .int 0, g1, g2, g3, .ref h1, .int 0, g4, g5, g6, g7, g8, g9, g10, g11, g12, .ref h2, g13, g14, g15, g16, g17, g18, g19, g20, g21, g22, g23, .ref h3, g24])), (h1, .inl (cI, 64, .inl zf)), (h2, .inl (cI, 300, .inl zf)), (h3, .inl (cZ, 64, .inl zf))] H := hP
    have hD : va_D A [(h0, .inr (7, [.int 0, .int 0, g1, g2, g3, .ref h1, .int 0, g4, g5, g6, g7, g8, g9, g10, g11, g12, .ref h2, g13, g14, g15, g16, g17, g18, g19, g20, g21, g22, g23, .ref h3, g24])), (h1, .inl (cI, 64, .inl zf)), (h2, .inl (cI, 300, .inl zf)), (h3, .inl (cZ, 64, .inl zf))] := hD
    obtain ⟨x_36, ex_36⟩ : ∃ y : Int32, y = v_3 + 1 := ⟨_, rfl⟩
    have tx_36 : x_36.toInt = v_3.toInt + 1 := by rw [ex_36]; exact ti_add rfl (by decide) (by omega) (by omega)
    refine lv_iinc (v := x_36) (lv' := [(2, .int x_36), (0, .ref h0), (1, .int p0)]) hx hb dX8_clean_43 hl (k := 0) rfl (by rw [ex_36]; rfl) (by decide) rfl (fun ls hl => ?_)
    refine lv_goto (tgt := 30) hx hb dX8_clean_46 (by decide) ?_
    exact ih_5 x_36 _ _ _ ⟨(by show 0 ≤ Int32.toInt x_36; omega), (by show Int32.toInt x_36 ≤ 64; omega), (by show 64 - Int32.toInt x_36 < ((n_4 : Nat) : Int); omega), hP, hD, hS, hl⟩
set_option maxHeartbeats 4000000 in
set_option maxRecDepth 100000 in
theorem K164_X7_clean (l : Launch) (D : va_G) (cB cI cZ : ClassId) (sz : Nat) (h0 : Nat)  (p0 : Int32) (g0 : Value) (g1 : Value) (g2 : Value) (g3 : Value) (g4 : Value) (g5 : Value) (g6 : Value) (g7 : Value) (i_p0 : 9 ≤ p0.toInt) :
    CtI l D cB cI cZ yX7_clean wsX7_clean { frames := 0, cells := 0, slots := 0, locals := 0 } [.ref h0, .int p0] [(h0, .inr (6, [g0, g1, g2, g3, g4, g5, g6, g7, .int 0]))] sz 0 0
      (fun (r : Int32) (u : Unit) => r = (-2))
      (fun u => []) := by
  refine mk_metI (cc := cX7_clean) (maxL := 2) (ret := (some .int)) (by decide) rfl (Nat.le_of_ble_eq_true rfl) ?_
  intro p e s m below meth c A hx hb hr hml hts hown hlocks hin hP hK hN hD hA hS ls hl
  have hown : s.vm.findClass RX7 = some m.cls := hown
  have hl : lv_has ls 2 [(0, .ref h0), (1, .int p0)] := hl
  refine lv_aload_n hx hb dX7_clean_0 rfl (lv_at hl 0 rfl) ?_
  refine va_get (D := D) (ci := 6) (v := .int 0) (C := RX7) (T := TX7) (N := 9) hx hb hts inX7_clean_X7 hown hK hP 0 rfl rfl 8 (by decide) (hts _ wdX7_clean_0) (fun _ h9 => h9) rfl dX7_clean_1 ?_
  refine lv_if_eq (tgt := 10) hx hb dX7_clean_4 (by decide) (fun c => ?_) (fun c => absurd (by decide) c)
  refine lv_iload_n hx hb dX7_clean_10 rfl (lv_at hl 1 rfl) ?_
  refine lv_iconst (v := 1) hx hb dX7_clean_11 (by decide) ?_
  refine lv_icmp_lt (tgt := 21) hx hb dX7_clean_12 (by decide) (fun c => absurd ((ti_lt (x := p0) (y := 1) (a := p0.toInt) (b := 1) rfl (by decide)).mp c) (by omega)) (fun c => ?_)
  refine lv_iload_n hx hb dX7_clean_15 rfl (lv_at hl 1 rfl) ?_
  refine lv_bipush (v := 8) hx hb dX7_clean_16 (by decide) ?_
  refine lv_icmp_le (tgt := 24) hx hb dX7_clean_18 (by decide) (fun c => absurd ((ti_le (x := p0) (y := 8) (a := p0.toInt) (b := 8) rfl (by decide)).mp c) (by omega)) (fun c => ?_)
  refine lv_bipush (v := (-2)) hx hb dX7_clean_21 (by decide) ?_
  exact kr_i () hx hb hr hlocks (hP.sub [] rfl) (hD.sub [] (by decide) rfl) hS rfl dX7_clean_23
set_option maxHeartbeats 4000000 in
set_option maxRecDepth 100000 in
theorem K166_X8_in (l : Launch) (D : va_G) (cB cI cZ : ClassId) (sz : Nat)   (p0 : Int32) (i_p0 : 9 ≤ p0.toInt) :
    CtI l D cB cI cZ yX8_in wsX8_in { frames := 0, cells := 0, slots := 0, locals := 0 } [.int p0, .int 1, .int 8] [] sz 0 0
      (fun (r : Int32) (u : Unit) => r = 0)
      (fun u => []) := by
  refine mk_metI (cc := cX8_in) (maxL := 3) (ret := (some .boolean)) (by decide) rfl (Nat.le_of_ble_eq_true rfl) ?_
  intro p e s m below meth c A hx hb hr hml hts hown hlocks hin hP hK hN hD hA hS ls hl
  have hown : s.vm.findClass RX8 = some m.cls := hown
  have hl : lv_has ls 3 [(0, .int p0), (1, .int 1), (2, .int 8)] := hl
  refine lv_iload_n hx hb dX8_in_0 rfl (lv_at hl 0 rfl) ?_
  refine lv_iload_n hx hb dX8_in_1 rfl (lv_at hl 1 rfl) ?_
  refine lv_icmp_lt (tgt := 14) hx hb dX8_in_2 (by decide) (fun c => absurd ((ti_lt (x := p0) (y := 1) (a := p0.toInt) (b := 1) rfl (by decide)).mp c) (by omega)) (fun c => ?_)
  refine lv_iload_n hx hb dX8_in_5 rfl (lv_at hl 0 rfl) ?_
  refine lv_iload_n hx hb dX8_in_6 rfl (lv_at hl 2 rfl) ?_
  refine lv_icmp_gt (tgt := 14) hx hb dX8_in_7 (by decide) (fun c => ?_) (fun c => absurd ((ti_lt (x := 8) (y := p0) (a := 8) (b := p0.toInt) (by decide) rfl).mpr (by omega)) c)
  refine lv_iconst (v := 0) hx hb dX8_in_14 (by decide) ?_
  exact kr_z () hx hb hr rfl hlocks hP hD hS rfl dX8_in_15
set_option maxHeartbeats 4000000 in
set_option maxRecDepth 100000 in
theorem K165_X8_clean (l : Launch) (D : va_G) (cB cI cZ : ClassId) (sz : Nat) (h0 : Nat)  (p0 : Int32) (g0 : Value) (g1 : Value) (g2 : Value) (g3 : Value) (g4 : Value) (g5 : Value) (g6 : Value) (g7 : Value) (g8 : Value) (g9 : Value) (g10 : Value) (g11 : Value) (g12 : Value) (g13 : Value) (g14 : Value) (g15 : Value) (g16 : Value) (g17 : Value) (g18 : Value) (g19 : Value) (g20 : Value) (g21 : Value) (g22 : Value) (g23 : Value) (g24 : Value) (g25 : Value) (g26 : Value) (g27 : Value) (g28 : Value) (i_p0 : 9 ≤ p0.toInt) :
    CtI l D cB cI cZ yX8_clean wsX8_clean { frames := 1, cells := 0, slots := 0, locals := 22 } [.ref h0, .int p0] [(h0, .inr (7, [g0, .int 0, g1, g2, g3, g4, g5, g6, g7, g8, g9, g10, g11, g12, g13, g14, g15, g16, g17, g18, g19, g20, g21, g22, g23, g24, g25, g26, g27, g28]))] sz 0 0
      (fun (r : Int32) (u : Unit) => r = (-2))
      (fun u => []) := by
  refine mk_metI (cc := cX8_clean) (maxL := 12) (ret := (some .int)) (by decide) rfl (Nat.le_of_ble_eq_true rfl) ?_
  intro p e s m below meth c A hx hb hr hml hts hown hlocks hin hP hK hN hD hA hS ls hl
  have hown : s.vm.findClass RX8 = some m.cls := hown
  have hl : lv_has ls 12 [(0, .ref h0), (1, .int p0)] := hl
  refine lv_aload_n hx hb dX8_clean_0 rfl (lv_at hl 0 rfl) ?_
  refine lv_iconst (v := 0) hx hb dX8_clean_1 (by decide) ?_
  refine va_put (D := D) (ci := 7) (v := .int 0) (ty := .int) (C := RX8) (T := TX8) (N := 30) hx hb hts inX8_clean_X8 tyX8 tyX8_ok nmX8 hown hK hP hD hS 0 rfl rfl 0 (by decide) (hts _ wdX8_clean_0) (fun _ h9 => h9) rfl (by decide +kernel) rfl rfl (Nat.le_of_ble_eq_true rfl) dX8_clean_2 (fun H locs hP hD hS => ?_)
  have hP : va_P D vwCl [(h0, .inr (7, [.int 0, .int 0, g1, g2, g3, g4, g5, g6, g7, g8, g9, g10, g11, g12, g13, g14, g15, g16, g17, g18, g19, g20, g21, g22, g23, g24, g25, g26, g27, g28]))] H := hP
  have hD : va_D A [(h0, .inr (7, [.int 0, .int 0, g1, g2, g3, g4, g5, g6, g7, g8, g9, g10, g11, g12, g13, g14, g15, g16, g17, g18, g19, g20, g21, g22, g23, g24, g25, g26, g27, g28]))] := hD
  refine lv_aload_n hx hb dX8_clean_5 rfl (lv_at hl 0 rfl) ?_
  refine va_get (D := D) (ci := 7) (v := .int 0) (C := RX8) (T := TX8) (N := 30) hx hb hts inX8_clean_X8 hown hK hP 0 rfl rfl 1 (by decide) (hts _ wdX8_clean_1) (fun _ h9 => h9) rfl dX8_clean_6 ?_
  refine lv_if_eq (tgt := 15) hx hb dX8_clean_9 (by decide) (fun c => ?_) (fun c => absurd (by decide) c)
  refine lv_iload_n hx hb dX8_clean_15 rfl (lv_at hl 1 rfl) ?_
  refine lv_iconst (v := 1) hx hb dX8_clean_16 (by decide) ?_
  refine lv_bipush (v := 8) hx hb dX8_clean_17 (by decide) ?_
  refine kc_i (wr := [(h0, .inr (7, [.int 0, .int 0, g1, g2, g3, g4, g5, g6, g7, g8, g9, g10, g11, g12, g13, g14, g15, g16, g17, g18, g19, g20, g21, g22, g23, g24, g25, g26, g27, g28]))]) (va_runS (As := [.int p0, .int 1, .int 8]) (rest := []) ⟨hx, hb, hml, hown, hts⟩ (K166_X8_in l D cB cI cZ _ p0 (by omega)) (va_cwS 3 hts gX8_clean_X8_in rfl rfl rfl (by decide +kernel) ⟨Nat.le_of_ble_eq_true rfl, Nat.le_of_ble_eq_true rfl⟩) (pre_S (hP.sub [] rfl) hK hN (hD.sub [] (by decide) rfl)) rfl rfl hl.1 rfl (lv_room (Nat.le_of_ble_eq_true rfl)) dX8_clean_19 ⟨Nat.le_of_ble_eq_true rfl, Nat.le_of_ble_eq_true rfl⟩) hP hD hS hA [] [0] rfl rfl (by decide) (by decide) (fun r_1 u H locs hw hP hD hS => ?_)
  have k_2 := hw
  obtain rfl : r_1 = 0 := k_2
  have hP : va_P D vwCl [(h0, .inr (7, [.int 0, .int 0, g1, g2, g3, g4, g5, g6, g7, g8, g9, g10, g11, g12, g13, g14, g15, g16, g17, g18, g19, g20, g21, g22, g23, g24, g25, g26, g27, g28]))] H := hP
  have hD : va_D A [(h0, .inr (7, [.int 0, .int 0, g1, g2, g3, g4, g5, g6, g7, g8, g9, g10, g11, g12, g13, g14, g15, g16, g17, g18, g19, g20, g21, g22, g23, g24, g25, g26, g27, g28]))] := hD
  refine lv_if_ne (tgt := 28) hx hb dX8_clean_22 (by decide) (fun c => absurd (by decide) c) (fun c => ?_)
  refine lv_bipush (v := (-2)) hx hb dX8_clean_25 (by decide) ?_
  exact kr_i () hx hb hr hlocks (hP.sub [] rfl) (hD.sub [] (by decide) rfl) hS rfl dX8_clean_27
set_option maxHeartbeats 4000000 in
set_option maxRecDepth 100000 in
theorem K167_X7_tick (l : Launch) (D : va_G) (cB cI cZ : ClassId) (sz : Nat) (h0 : Nat)  (p0 : Int32) (g0 : Value) (g1 : Value) (g2 : Value) (g3 : Value) (g4 : Value) (g5 : Value) (g6 : Value) (g7 : Value) (i_p0 : p0.toInt ≤ (-1)) :
    CtI l D cB cI cZ yX7_tick wsX7_tick { frames := 0, cells := 0, slots := 0, locals := 0 } [.ref h0, .int p0] [(h0, .inr (6, [g0, g1, g2, g3, g4, g5, g6, g7, .int 0]))] sz 0 0
      (fun (r : Int32) (u : Unit) => r = (-2))
      (fun u => []) := by
  refine mk_metI (cc := cX7_tick) (maxL := 2) (ret := (some .int)) (by decide) rfl (Nat.le_of_ble_eq_true rfl) ?_
  intro p e s m below meth c A hx hb hr hml hts hown hlocks hin hP hK hN hD hA hS ls hl
  have hown : s.vm.findClass RX7 = some m.cls := hown
  have hl : lv_has ls 2 [(0, .ref h0), (1, .int p0)] := hl
  refine lv_aload_n hx hb dX7_tick_0 rfl (lv_at hl 0 rfl) ?_
  refine va_get (D := D) (ci := 6) (v := .int 0) (C := RX7) (T := TX7) (N := 9) hx hb hts inX7_tick_X7 hown hK hP 0 rfl rfl 8 (by decide) (hts _ wdX7_tick_0) (fun _ h9 => h9) rfl dX7_tick_1 ?_
  refine lv_if_eq (tgt := 10) hx hb dX7_tick_4 (by decide) (fun c => ?_) (fun c => absurd (by decide) c)
  refine lv_iload_n hx hb dX7_tick_10 rfl (lv_at hl 1 rfl) ?_
  refine lv_if_lt (tgt := 20) hx hb dX7_tick_11 (by decide) (fun c => ?_) (fun c => absurd ((ti_lt (x := p0) (y := 0) (a := p0.toInt) (b := 0) rfl (by decide)).mpr (by omega)) c)
  refine lv_bipush (v := (-2)) hx hb dX7_tick_20 (by decide) ?_
  exact kr_i () hx hb hr hlocks (hP.sub [] rfl) (hD.sub [] (by decide) rfl) hS rfl dX7_tick_22
set_option maxHeartbeats 4000000 in
set_option maxRecDepth 100000 in
theorem K169_X8_in (l : Launch) (D : va_G) (cB cI cZ : ClassId) (sz : Nat)   (p0 : Int32) (i_p0 : p0.toInt ≤ (-1)) :
    CtI l D cB cI cZ yX8_in wsX8_in { frames := 0, cells := 0, slots := 0, locals := 0 } [.int p0, .int 0, .int 100000] [] sz 0 0
      (fun (r : Int32) (u : Unit) => r = 0)
      (fun u => []) := by
  refine mk_metI (cc := cX8_in) (maxL := 3) (ret := (some .boolean)) (by decide) rfl (Nat.le_of_ble_eq_true rfl) ?_
  intro p e s m below meth c A hx hb hr hml hts hown hlocks hin hP hK hN hD hA hS ls hl
  have hown : s.vm.findClass RX8 = some m.cls := hown
  have hl : lv_has ls 3 [(0, .int p0), (1, .int 0), (2, .int 100000)] := hl
  refine lv_iload_n hx hb dX8_in_0 rfl (lv_at hl 0 rfl) ?_
  refine lv_iload_n hx hb dX8_in_1 rfl (lv_at hl 1 rfl) ?_
  refine lv_icmp_lt (tgt := 14) hx hb dX8_in_2 (by decide) (fun c => ?_) (fun c => absurd ((ti_lt (x := p0) (y := 0) (a := p0.toInt) (b := 0) rfl (by decide)).mpr (by omega)) c)
  refine lv_iconst (v := 0) hx hb dX8_in_14 (by decide) ?_
  exact kr_z () hx hb hr rfl hlocks hP hD hS rfl dX8_in_15
set_option maxHeartbeats 4000000 in
set_option maxRecDepth 100000 in
theorem K168_X8_tick (l : Launch) (D : va_G) (cB cI cZ : ClassId) (sz : Nat) (h0 : Nat)  (p0 : Int32) (g0 : Value) (g1 : Value) (g2 : Value) (g3 : Value) (g4 : Value) (g5 : Value) (g6 : Value) (g7 : Value) (g8 : Value) (g9 : Value) (g10 : Value) (g11 : Value) (g12 : Value) (g13 : Value) (g14 : Value) (g15 : Value) (g16 : Value) (g17 : Value) (g18 : Value) (g19 : Value) (g20 : Value) (g21 : Value) (g22 : Value) (g23 : Value) (g24 : Value) (g25 : Value) (g26 : Value) (g27 : Value) (g28 : Value) (i_p0 : p0.toInt ≤ (-1)) :
    CtI l D cB cI cZ yX8_tick wsX8_tick { frames := 1, cells := 0, slots := 0, locals := 22 } [.ref h0, .int p0] [(h0, .inr (7, [g0, .int 0, g1, g2, g3, g4, g5, g6, g7, g8, g9, g10, g11, g12, g13, g14, g15, g16, g17, g18, g19, g20, g21, g22, g23, g24, g25, g26, g27, g28]))] sz 0 0
      (fun (r : Int32) (u : Unit) => r = (-2))
      (fun u => []) := by
  refine mk_metI (cc := cX8_tick) (maxL := 2) (ret := (some .int)) (by decide) rfl (Nat.le_of_ble_eq_true rfl) ?_
  intro p e s m below meth c A hx hb hr hml hts hown hlocks hin hP hK hN hD hA hS ls hl
  have hown : s.vm.findClass RX8 = some m.cls := hown
  have hl : lv_has ls 2 [(0, .ref h0), (1, .int p0)] := hl
  refine lv_aload_n hx hb dX8_tick_0 rfl (lv_at hl 0 rfl) ?_
  refine lv_iconst (v := 0) hx hb dX8_tick_1 (by decide) ?_
  refine va_put (D := D) (ci := 7) (v := .int 0) (ty := .int) (C := RX8) (T := TX8) (N := 30) hx hb hts inX8_tick_X8 tyX8 tyX8_ok nmX8 hown hK hP hD hS 0 rfl rfl 0 (by decide) (hts _ wdX8_tick_0) (fun _ h9 => h9) rfl (by decide +kernel) rfl rfl (Nat.le_of_ble_eq_true rfl) dX8_tick_2 (fun H locs hP hD hS => ?_)
  have hP : va_P D vwCl [(h0, .inr (7, [.int 0, .int 0, g1, g2, g3, g4, g5, g6, g7, g8, g9, g10, g11, g12, g13, g14, g15, g16, g17, g18, g19, g20, g21, g22, g23, g24, g25, g26, g27, g28]))] H := hP
  have hD : va_D A [(h0, .inr (7, [.int 0, .int 0, g1, g2, g3, g4, g5, g6, g7, g8, g9, g10, g11, g12, g13, g14, g15, g16, g17, g18, g19, g20, g21, g22, g23, g24, g25, g26, g27, g28]))] := hD
  refine lv_aload_n hx hb dX8_tick_5 rfl (lv_at hl 0 rfl) ?_
  refine va_get (D := D) (ci := 7) (v := .int 0) (C := RX8) (T := TX8) (N := 30) hx hb hts inX8_tick_X8 hown hK hP 0 rfl rfl 1 (by decide) (hts _ wdX8_tick_1) (fun _ h9 => h9) rfl dX8_tick_6 ?_
  refine lv_if_eq (tgt := 15) hx hb dX8_tick_9 (by decide) (fun c => ?_) (fun c => absurd (by decide) c)
  refine lv_iload_n hx hb dX8_tick_15 rfl (lv_at hl 1 rfl) ?_
  refine lv_iconst (v := 0) hx hb dX8_tick_16 (by decide) ?_
  refine lv_ldc (v := 100000) hx hb hown (hts _ wdX8_tick_2) dX8_tick_17 ?_
  refine kc_i (wr := [(h0, .inr (7, [.int 0, .int 0, g1, g2, g3, g4, g5, g6, g7, g8, g9, g10, g11, g12, g13, g14, g15, g16, g17, g18, g19, g20, g21, g22, g23, g24, g25, g26, g27, g28]))]) (va_runS (As := [.int p0, .int 0, .int 100000]) (rest := []) ⟨hx, hb, hml, hown, hts⟩ (K169_X8_in l D cB cI cZ _ p0 (by omega)) (va_cwS 3 hts gX8_tick_X8_in rfl rfl rfl (by decide +kernel) ⟨Nat.le_of_ble_eq_true rfl, Nat.le_of_ble_eq_true rfl⟩) (pre_S (hP.sub [] rfl) hK hN (hD.sub [] (by decide) rfl)) rfl rfl hl.1 rfl (lv_room (Nat.le_of_ble_eq_true rfl)) dX8_tick_19 ⟨Nat.le_of_ble_eq_true rfl, Nat.le_of_ble_eq_true rfl⟩) hP hD hS hA [] [0] rfl rfl (by decide) (by decide) (fun r_1 u H locs hw hP hD hS => ?_)
  have k_2 := hw
  obtain rfl : r_1 = 0 := k_2
  have hP : va_P D vwCl [(h0, .inr (7, [.int 0, .int 0, g1, g2, g3, g4, g5, g6, g7, g8, g9, g10, g11, g12, g13, g14, g15, g16, g17, g18, g19, g20, g21, g22, g23, g24, g25, g26, g27, g28]))] H := hP
  have hD : va_D A [(h0, .inr (7, [.int 0, .int 0, g1, g2, g3, g4, g5, g6, g7, g8, g9, g10, g11, g12, g13, g14, g15, g16, g17, g18, g19, g20, g21, g22, g23, g24, g25, g26, g27, g28]))] := hD
  refine lv_if_ne (tgt := 28) hx hb dX8_tick_22 (by decide) (fun c => absurd (by decide) c) (fun c => ?_)
  refine lv_bipush (v := (-2)) hx hb dX8_tick_25 (by decide) ?_
  exact kr_i () hx hb hr hlocks (hP.sub [] rfl) (hD.sub [] (by decide) rfl) hS rfl dX8_tick_27
set_option maxHeartbeats 4000000 in
set_option maxRecDepth 100000 in
theorem K170_X7_tick (l : Launch) (D : va_G) (cB cI cZ : ClassId) (sz : Nat) (h0 : Nat) (h1 : Nat)  (p0 : Int32) (g0 : Value) (g1 : Value) (g2 : Value) (g3 : Value) (g4 : Value) (g5 : Value) (g6 : Value) (g7 : Value) (g8 : Value) (g9 : Value) (g10 : Value) (g11 : Value) (g12 : Value) (g13 : Value) (g14 : Value) (g15 : Value) (g16 : Value) (g17 : Value) (g18 : Value) (g19 : Value) (i_p0 : 0 ≤ p0.toInt ∧ p0.toInt ≤ 100000) :
    CtI l D cB cI cZ yX7_tick wsX7_tick { frames := 0, cells := 0, slots := 0, locals := 0 } [.ref h0, .int p0] [(h0, .inr (6, [g0, g1, .ref h1, g2, g3, g4, g5, g6, .int 0])), (h1, .inr (3, [g7, g8, g9, g10, g11, g12, g13, g14, g15, g16, g17, g18, g19, .int 0]))] sz 0 0
      (fun (r : Int32) (u : Unit) => r.toInt = p0.toInt + 0)
      (fun u => []) := by
  refine mk_metI (cc := cX7_tick) (maxL := 2) (ret := (some .int)) (by decide) rfl (Nat.le_of_ble_eq_true rfl) ?_
  intro p e s m below meth c A hx hb hr hml hts hown hlocks hin hP hK hN hD hA hS ls hl
  have hown : s.vm.findClass RX7 = some m.cls := hown
  have hl : lv_has ls 2 [(0, .ref h0), (1, .int p0)] := hl
  refine lv_aload_n hx hb dX7_tick_0 rfl (lv_at hl 0 rfl) ?_
  refine va_get (D := D) (ci := 6) (v := .int 0) (C := RX7) (T := TX7) (N := 9) hx hb hts inX7_tick_X7 hown hK hP 0 rfl rfl 8 (by decide) (hts _ wdX7_tick_0) (fun _ h9 => h9) rfl dX7_tick_1 ?_
  refine lv_if_eq (tgt := 10) hx hb dX7_tick_4 (by decide) (fun c => ?_) (fun c => absurd (by decide) c)
  refine lv_iload_n hx hb dX7_tick_10 rfl (lv_at hl 1 rfl) ?_
  refine lv_if_lt (tgt := 20) hx hb dX7_tick_11 (by decide) (fun c => absurd ((ti_lt (x := p0) (y := 0) (a := p0.toInt) (b := 0) rfl (by decide)).mp c) (by omega)) (fun c => ?_)
  refine lv_iload_n hx hb dX7_tick_14 rfl (lv_at hl 1 rfl) ?_
  refine lv_ldc (v := 100000) hx hb hown (hts _ wdX7_tick_1) dX7_tick_15 ?_
  refine lv_icmp_le (tgt := 23) hx hb dX7_tick_17 (by decide) (fun c => ?_) (fun c => absurd ((ti_le (x := p0) (y := 100000) (a := p0.toInt) (b := 100000) rfl (by decide)).mpr (by omega)) c)
  refine lv_aload_n hx hb dX7_tick_23 rfl (lv_at hl 0 rfl) ?_
  refine va_get (D := D) (ci := 6) (v := .ref h1) (C := RX7) (T := TX7) (N := 9) hx hb hts inX7_tick_X7 hown hK hP 0 rfl rfl 2 (by decide) (hts _ wdX7_tick_2) (fun _ h9 => h9) rfl dX7_tick_24 ?_
  refine lv_dup hx hb dX7_tick_27 rfl ?_
  refine va_getN (D := D) (ci := 3) (v := .int 0) (C := RX3) (T := TX3) (N := 14) hx hb hts inX7_tick_X3 hown hK hP 1 rfl rfl 13 (by decide) (hN.f (a := "AgedLog") (i := 78) (b := "AgedLog$Log") (n := "clock") (d := "I") (by decide +kernel)) (fun _ h9 => h9) rfl dX7_tick_28 ?_
  refine lv_iload_n hx hb dX7_tick_31 rfl (lv_at hl 1 rfl) ?_
  refine lv_iadd hx hb dX7_tick_32 ?_
  refine lv_topi (fun x_1 ex_1 => ?_)
  have tx_1 : x_1.toInt = 0 + p0.toInt := by rw [ex_1]; exact ti_add (by decide) rfl (by omega) (by omega)
  refine va_putN (D := D) (ci := 3) (v := .int x_1) (ty := .int) (C := RX3) (T := TX3) (N := 14) hx hb hts inX7_tick_X3 tyX3 tyX3_ok nmX3 hown hK hP hD hS 1 rfl rfl 13 (by decide) (hN.f (a := "AgedLog") (i := 78) (b := "AgedLog$Log") (n := "clock") (d := "I") (by decide +kernel)) (fun _ h9 => h9) rfl (by decide +kernel) rfl rfl (Nat.le_of_ble_eq_true rfl) dX7_tick_33 (fun H locs hP hD hS => ?_)
  have hP : va_P D vwCl [(h0, .inr (6, [g0, g1, .ref h1, g2, g3, g4, g5, g6, .int 0])), (h1, .inr (3, [g7, g8, g9, g10, g11, g12, g13, g14, g15, g16, g17, g18, g19, .int x_1]))] H := hP
  have hD : va_D A [(h0, .inr (6, [g0, g1, .ref h1, g2, g3, g4, g5, g6, .int 0])), (h1, .inr (3, [g7, g8, g9, g10, g11, g12, g13, g14, g15, g16, g17, g18, g19, .int x_1]))] := hD
  refine lv_aload_n hx hb dX7_tick_36 rfl (lv_at hl 0 rfl) ?_
  refine va_get (D := D) (ci := 6) (v := .ref h1) (C := RX7) (T := TX7) (N := 9) hx hb hts inX7_tick_X7 hown hK hP 0 rfl rfl 2 (by decide) (hts _ wdX7_tick_2) (fun _ h9 => h9) rfl dX7_tick_37 ?_
  refine va_getN (D := D) (ci := 3) (v := .int x_1) (C := RX3) (T := TX3) (N := 14) hx hb hts inX7_tick_X3 hown hK hP 1 rfl rfl 13 (by decide) (hN.f (a := "AgedLog") (i := 78) (b := "AgedLog$Log") (n := "clock") (d := "I") (by decide +kernel)) (fun _ h9 => h9) rfl dX7_tick_40 ?_
  exact kr_i () hx hb hr hlocks (hP.sub [] rfl) (hD.sub [] (by decide) rfl) hS (by first | omega | (show Int32.toInt x_1 = Int32.toInt p0 + 0; omega) | decide) dX7_tick_43
set_option maxHeartbeats 4000000 in
set_option maxRecDepth 100000 in
theorem K172_X8_in (l : Launch) (D : va_G) (cB cI cZ : ClassId) (sz : Nat)   (p0 : Int32) (i_p0 : 0 ≤ p0.toInt ∧ p0.toInt ≤ 100000) :
    CtI l D cB cI cZ yX8_in wsX8_in { frames := 0, cells := 0, slots := 0, locals := 0 } [.int p0, .int 0, .int 100000] [] sz 0 0
      (fun (r : Int32) (u : Unit) => r = 1)
      (fun u => []) := by
  refine mk_metI (cc := cX8_in) (maxL := 3) (ret := (some .boolean)) (by decide) rfl (Nat.le_of_ble_eq_true rfl) ?_
  intro p e s m below meth c A hx hb hr hml hts hown hlocks hin hP hK hN hD hA hS ls hl
  have hown : s.vm.findClass RX8 = some m.cls := hown
  have hl : lv_has ls 3 [(0, .int p0), (1, .int 0), (2, .int 100000)] := hl
  refine lv_iload_n hx hb dX8_in_0 rfl (lv_at hl 0 rfl) ?_
  refine lv_iload_n hx hb dX8_in_1 rfl (lv_at hl 1 rfl) ?_
  refine lv_icmp_lt (tgt := 14) hx hb dX8_in_2 (by decide) (fun c => absurd ((ti_lt (x := p0) (y := 0) (a := p0.toInt) (b := 0) rfl (by decide)).mp c) (by omega)) (fun c => ?_)
  refine lv_iload_n hx hb dX8_in_5 rfl (lv_at hl 0 rfl) ?_
  refine lv_iload_n hx hb dX8_in_6 rfl (lv_at hl 2 rfl) ?_
  refine lv_icmp_gt (tgt := 14) hx hb dX8_in_7 (by decide) (fun c => absurd ((ti_lt (x := 100000) (y := p0) (a := 100000) (b := p0.toInt) (by decide) rfl).mp c) (by omega)) (fun c => ?_)
  refine lv_iconst (v := 1) hx hb dX8_in_10 (by decide) ?_
  refine lv_goto (tgt := 15) hx hb dX8_in_11 (by decide) ?_
  exact kr_z () hx hb hr rfl hlocks hP hD hS rfl dX8_in_15
set_option maxHeartbeats 4000000 in
set_option maxRecDepth 100000 in
theorem K171_X8_tick (l : Launch) (D : va_G) (cB cI cZ : ClassId) (sz : Nat) (h0 : Nat)  (p0 : Int32) (g0 : Value) (g1 : Value) (g2 : Value) (g3 : Value) (g4 : Value) (g5 : Value) (g6 : Value) (g7 : Value) (g8 : Value) (g9 : Value) (g10 : Value) (g11 : Value) (g12 : Value) (g13 : Value) (g14 : Value) (g15 : Value) (g16 : Value) (g17 : Value) (g18 : Value) (g19 : Value) (g20 : Value) (g21 : Value) (g22 : Value) (g23 : Value) (g24 : Value) (g25 : Value) (g26 : Value) (g27 : Value) (i_p0 : 0 ≤ p0.toInt ∧ p0.toInt ≤ 100000) :
    CtI l D cB cI cZ yX8_tick wsX8_tick { frames := 1, cells := 0, slots := 0, locals := 22 } [.ref h0, .int p0] [(h0, .inr (7, [g0, .int 0, g1, g2, g3, g4, g5, g6, g7, g8, .int 0, g9, g10, g11, g12, g13, g14, g15, g16, g17, g18, g19, g20, g21, g22, g23, g24, g25, g26, g27]))] sz 0 0
      (fun (r : Int32) (u : Unit) => r.toInt = p0.toInt + 0)
      (fun u => []) := by
  refine mk_metI (cc := cX8_tick) (maxL := 2) (ret := (some .int)) (by decide) rfl (Nat.le_of_ble_eq_true rfl) ?_
  intro p e s m below meth c A hx hb hr hml hts hown hlocks hin hP hK hN hD hA hS ls hl
  have hown : s.vm.findClass RX8 = some m.cls := hown
  have hl : lv_has ls 2 [(0, .ref h0), (1, .int p0)] := hl
  refine lv_aload_n hx hb dX8_tick_0 rfl (lv_at hl 0 rfl) ?_
  refine lv_iconst (v := 0) hx hb dX8_tick_1 (by decide) ?_
  refine va_put (D := D) (ci := 7) (v := .int 0) (ty := .int) (C := RX8) (T := TX8) (N := 30) hx hb hts inX8_tick_X8 tyX8 tyX8_ok nmX8 hown hK hP hD hS 0 rfl rfl 0 (by decide) (hts _ wdX8_tick_0) (fun _ h9 => h9) rfl (by decide +kernel) rfl rfl (Nat.le_of_ble_eq_true rfl) dX8_tick_2 (fun H locs hP hD hS => ?_)
  have hP : va_P D vwCl [(h0, .inr (7, [.int 0, .int 0, g1, g2, g3, g4, g5, g6, g7, g8, .int 0, g9, g10, g11, g12, g13, g14, g15, g16, g17, g18, g19, g20, g21, g22, g23, g24, g25, g26, g27]))] H := hP
  have hD : va_D A [(h0, .inr (7, [.int 0, .int 0, g1, g2, g3, g4, g5, g6, g7, g8, .int 0, g9, g10, g11, g12, g13, g14, g15, g16, g17, g18, g19, g20, g21, g22, g23, g24, g25, g26, g27]))] := hD
  refine lv_aload_n hx hb dX8_tick_5 rfl (lv_at hl 0 rfl) ?_
  refine va_get (D := D) (ci := 7) (v := .int 0) (C := RX8) (T := TX8) (N := 30) hx hb hts inX8_tick_X8 hown hK hP 0 rfl rfl 1 (by decide) (hts _ wdX8_tick_1) (fun _ h9 => h9) rfl dX8_tick_6 ?_
  refine lv_if_eq (tgt := 15) hx hb dX8_tick_9 (by decide) (fun c => ?_) (fun c => absurd (by decide) c)
  refine lv_iload_n hx hb dX8_tick_15 rfl (lv_at hl 1 rfl) ?_
  refine lv_iconst (v := 0) hx hb dX8_tick_16 (by decide) ?_
  refine lv_ldc (v := 100000) hx hb hown (hts _ wdX8_tick_2) dX8_tick_17 ?_
  refine kc_i (wr := [(h0, .inr (7, [.int 0, .int 0, g1, g2, g3, g4, g5, g6, g7, g8, .int 0, g9, g10, g11, g12, g13, g14, g15, g16, g17, g18, g19, g20, g21, g22, g23, g24, g25, g26, g27]))]) (va_runS (As := [.int p0, .int 0, .int 100000]) (rest := []) ⟨hx, hb, hml, hown, hts⟩ (K172_X8_in l D cB cI cZ _ p0 ⟨by omega, by omega⟩) (va_cwS 3 hts gX8_tick_X8_in rfl rfl rfl (by decide +kernel) ⟨Nat.le_of_ble_eq_true rfl, Nat.le_of_ble_eq_true rfl⟩) (pre_S (hP.sub [] rfl) hK hN (hD.sub [] (by decide) rfl)) rfl rfl hl.1 rfl (lv_room (Nat.le_of_ble_eq_true rfl)) dX8_tick_19 ⟨Nat.le_of_ble_eq_true rfl, Nat.le_of_ble_eq_true rfl⟩) hP hD hS hA [] [0] rfl rfl (by decide) (by decide) (fun r_1 u H locs hw hP hD hS => ?_)
  have k_2 := hw
  obtain rfl : r_1 = 1 := k_2
  have hP : va_P D vwCl [(h0, .inr (7, [.int 0, .int 0, g1, g2, g3, g4, g5, g6, g7, g8, .int 0, g9, g10, g11, g12, g13, g14, g15, g16, g17, g18, g19, g20, g21, g22, g23, g24, g25, g26, g27]))] H := hP
  have hD : va_D A [(h0, .inr (7, [.int 0, .int 0, g1, g2, g3, g4, g5, g6, g7, g8, .int 0, g9, g10, g11, g12, g13, g14, g15, g16, g17, g18, g19, g20, g21, g22, g23, g24, g25, g26, g27]))] := hD
  refine lv_if_ne (tgt := 28) hx hb dX8_tick_22 (by decide) (fun c => ?_) (fun c => absurd c (by decide))
  refine lv_aload_n hx hb dX8_tick_28 rfl (lv_at hl 0 rfl) ?_
  refine lv_dup hx hb dX8_tick_29 rfl ?_
  refine va_get (D := D) (ci := 7) (v := .int 0) (C := RX8) (T := TX8) (N := 30) hx hb hts inX8_tick_X8 hown hK hP 0 rfl rfl 10 (by decide) (hts _ wdX8_tick_3) (fun _ h9 => h9) rfl dX8_tick_30 ?_
  refine lv_iload_n hx hb dX8_tick_33 rfl (lv_at hl 1 rfl) ?_
  refine lv_iadd hx hb dX8_tick_34 ?_
  refine lv_topi (fun x_3 ex_3 => ?_)
  have tx_3 : x_3.toInt = 0 + p0.toInt := by rw [ex_3]; exact ti_add (by decide) rfl (by omega) (by omega)
  refine va_put (D := D) (ci := 7) (v := .int x_3) (ty := .int) (C := RX8) (T := TX8) (N := 30) hx hb hts inX8_tick_X8 tyX8 tyX8_ok nmX8 hown hK hP hD hS 0 rfl rfl 10 (by decide) (hts _ wdX8_tick_3) (fun _ h9 => h9) rfl (by decide +kernel) rfl rfl (Nat.le_of_ble_eq_true rfl) dX8_tick_35 (fun H locs hP hD hS => ?_)
  have hP : va_P D vwCl [(h0, .inr (7, [.int 0, .int 0, g1, g2, g3, g4, g5, g6, g7, g8, .int x_3, g9, g10, g11, g12, g13, g14, g15, g16, g17, g18, g19, g20, g21, g22, g23, g24, g25, g26, g27]))] H := hP
  have hD : va_D A [(h0, .inr (7, [.int 0, .int 0, g1, g2, g3, g4, g5, g6, g7, g8, .int x_3, g9, g10, g11, g12, g13, g14, g15, g16, g17, g18, g19, g20, g21, g22, g23, g24, g25, g26, g27]))] := hD
  refine lv_aload_n hx hb dX8_tick_38 rfl (lv_at hl 0 rfl) ?_
  refine va_get (D := D) (ci := 7) (v := .int x_3) (C := RX8) (T := TX8) (N := 30) hx hb hts inX8_tick_X8 hown hK hP 0 rfl rfl 10 (by decide) (hts _ wdX8_tick_3) (fun _ h9 => h9) rfl dX8_tick_39 ?_
  exact kr_i () hx hb hr hlocks (hP.sub [] rfl) (hD.sub [] (by decide) rfl) hS (by first | omega | (show Int32.toInt x_3 = Int32.toInt p0 + 0; omega) | decide) dX8_tick_42
set_option maxHeartbeats 4000000 in
set_option maxRecDepth 100000 in
theorem K173_X7_tick (l : Launch) (D : va_G) (cB cI cZ : ClassId) (sz : Nat) (h0 : Nat)  (p0 : Int32) (g0 : Value) (g1 : Value) (g2 : Value) (g3 : Value) (g4 : Value) (g5 : Value) (g6 : Value) (g7 : Value) (i_p0 : 100001 ≤ p0.toInt) :
    CtI l D cB cI cZ yX7_tick wsX7_tick { frames := 0, cells := 0, slots := 0, locals := 0 } [.ref h0, .int p0] [(h0, .inr (6, [g0, g1, g2, g3, g4, g5, g6, g7, .int 0]))] sz 0 0
      (fun (r : Int32) (u : Unit) => r = (-2))
      (fun u => []) := by
  refine mk_metI (cc := cX7_tick) (maxL := 2) (ret := (some .int)) (by decide) rfl (Nat.le_of_ble_eq_true rfl) ?_
  intro p e s m below meth c A hx hb hr hml hts hown hlocks hin hP hK hN hD hA hS ls hl
  have hown : s.vm.findClass RX7 = some m.cls := hown
  have hl : lv_has ls 2 [(0, .ref h0), (1, .int p0)] := hl
  refine lv_aload_n hx hb dX7_tick_0 rfl (lv_at hl 0 rfl) ?_
  refine va_get (D := D) (ci := 6) (v := .int 0) (C := RX7) (T := TX7) (N := 9) hx hb hts inX7_tick_X7 hown hK hP 0 rfl rfl 8 (by decide) (hts _ wdX7_tick_0) (fun _ h9 => h9) rfl dX7_tick_1 ?_
  refine lv_if_eq (tgt := 10) hx hb dX7_tick_4 (by decide) (fun c => ?_) (fun c => absurd (by decide) c)
  refine lv_iload_n hx hb dX7_tick_10 rfl (lv_at hl 1 rfl) ?_
  refine lv_if_lt (tgt := 20) hx hb dX7_tick_11 (by decide) (fun c => absurd ((ti_lt (x := p0) (y := 0) (a := p0.toInt) (b := 0) rfl (by decide)).mp c) (by omega)) (fun c => ?_)
  refine lv_iload_n hx hb dX7_tick_14 rfl (lv_at hl 1 rfl) ?_
  refine lv_ldc (v := 100000) hx hb hown (hts _ wdX7_tick_1) dX7_tick_15 ?_
  refine lv_icmp_le (tgt := 23) hx hb dX7_tick_17 (by decide) (fun c => absurd ((ti_le (x := p0) (y := 100000) (a := p0.toInt) (b := 100000) rfl (by decide)).mp c) (by omega)) (fun c => ?_)
  refine lv_bipush (v := (-2)) hx hb dX7_tick_20 (by decide) ?_
  exact kr_i () hx hb hr hlocks (hP.sub [] rfl) (hD.sub [] (by decide) rfl) hS rfl dX7_tick_22
set_option maxHeartbeats 4000000 in
set_option maxRecDepth 100000 in
theorem K175_X8_in (l : Launch) (D : va_G) (cB cI cZ : ClassId) (sz : Nat)   (p0 : Int32) (i_p0 : 100001 ≤ p0.toInt) :
    CtI l D cB cI cZ yX8_in wsX8_in { frames := 0, cells := 0, slots := 0, locals := 0 } [.int p0, .int 0, .int 100000] [] sz 0 0
      (fun (r : Int32) (u : Unit) => r = 0)
      (fun u => []) := by
  refine mk_metI (cc := cX8_in) (maxL := 3) (ret := (some .boolean)) (by decide) rfl (Nat.le_of_ble_eq_true rfl) ?_
  intro p e s m below meth c A hx hb hr hml hts hown hlocks hin hP hK hN hD hA hS ls hl
  have hown : s.vm.findClass RX8 = some m.cls := hown
  have hl : lv_has ls 3 [(0, .int p0), (1, .int 0), (2, .int 100000)] := hl
  refine lv_iload_n hx hb dX8_in_0 rfl (lv_at hl 0 rfl) ?_
  refine lv_iload_n hx hb dX8_in_1 rfl (lv_at hl 1 rfl) ?_
  refine lv_icmp_lt (tgt := 14) hx hb dX8_in_2 (by decide) (fun c => absurd ((ti_lt (x := p0) (y := 0) (a := p0.toInt) (b := 0) rfl (by decide)).mp c) (by omega)) (fun c => ?_)
  refine lv_iload_n hx hb dX8_in_5 rfl (lv_at hl 0 rfl) ?_
  refine lv_iload_n hx hb dX8_in_6 rfl (lv_at hl 2 rfl) ?_
  refine lv_icmp_gt (tgt := 14) hx hb dX8_in_7 (by decide) (fun c => ?_) (fun c => absurd ((ti_lt (x := 100000) (y := p0) (a := 100000) (b := p0.toInt) (by decide) rfl).mpr (by omega)) c)
  refine lv_iconst (v := 0) hx hb dX8_in_14 (by decide) ?_
  exact kr_z () hx hb hr rfl hlocks hP hD hS rfl dX8_in_15
set_option maxHeartbeats 4000000 in
set_option maxRecDepth 100000 in
theorem K174_X8_tick (l : Launch) (D : va_G) (cB cI cZ : ClassId) (sz : Nat) (h0 : Nat)  (p0 : Int32) (g0 : Value) (g1 : Value) (g2 : Value) (g3 : Value) (g4 : Value) (g5 : Value) (g6 : Value) (g7 : Value) (g8 : Value) (g9 : Value) (g10 : Value) (g11 : Value) (g12 : Value) (g13 : Value) (g14 : Value) (g15 : Value) (g16 : Value) (g17 : Value) (g18 : Value) (g19 : Value) (g20 : Value) (g21 : Value) (g22 : Value) (g23 : Value) (g24 : Value) (g25 : Value) (g26 : Value) (g27 : Value) (g28 : Value) (i_p0 : 100001 ≤ p0.toInt) :
    CtI l D cB cI cZ yX8_tick wsX8_tick { frames := 1, cells := 0, slots := 0, locals := 22 } [.ref h0, .int p0] [(h0, .inr (7, [g0, .int 0, g1, g2, g3, g4, g5, g6, g7, g8, g9, g10, g11, g12, g13, g14, g15, g16, g17, g18, g19, g20, g21, g22, g23, g24, g25, g26, g27, g28]))] sz 0 0
      (fun (r : Int32) (u : Unit) => r = (-2))
      (fun u => []) := by
  refine mk_metI (cc := cX8_tick) (maxL := 2) (ret := (some .int)) (by decide) rfl (Nat.le_of_ble_eq_true rfl) ?_
  intro p e s m below meth c A hx hb hr hml hts hown hlocks hin hP hK hN hD hA hS ls hl
  have hown : s.vm.findClass RX8 = some m.cls := hown
  have hl : lv_has ls 2 [(0, .ref h0), (1, .int p0)] := hl
  refine lv_aload_n hx hb dX8_tick_0 rfl (lv_at hl 0 rfl) ?_
  refine lv_iconst (v := 0) hx hb dX8_tick_1 (by decide) ?_
  refine va_put (D := D) (ci := 7) (v := .int 0) (ty := .int) (C := RX8) (T := TX8) (N := 30) hx hb hts inX8_tick_X8 tyX8 tyX8_ok nmX8 hown hK hP hD hS 0 rfl rfl 0 (by decide) (hts _ wdX8_tick_0) (fun _ h9 => h9) rfl (by decide +kernel) rfl rfl (Nat.le_of_ble_eq_true rfl) dX8_tick_2 (fun H locs hP hD hS => ?_)
  have hP : va_P D vwCl [(h0, .inr (7, [.int 0, .int 0, g1, g2, g3, g4, g5, g6, g7, g8, g9, g10, g11, g12, g13, g14, g15, g16, g17, g18, g19, g20, g21, g22, g23, g24, g25, g26, g27, g28]))] H := hP
  have hD : va_D A [(h0, .inr (7, [.int 0, .int 0, g1, g2, g3, g4, g5, g6, g7, g8, g9, g10, g11, g12, g13, g14, g15, g16, g17, g18, g19, g20, g21, g22, g23, g24, g25, g26, g27, g28]))] := hD
  refine lv_aload_n hx hb dX8_tick_5 rfl (lv_at hl 0 rfl) ?_
  refine va_get (D := D) (ci := 7) (v := .int 0) (C := RX8) (T := TX8) (N := 30) hx hb hts inX8_tick_X8 hown hK hP 0 rfl rfl 1 (by decide) (hts _ wdX8_tick_1) (fun _ h9 => h9) rfl dX8_tick_6 ?_
  refine lv_if_eq (tgt := 15) hx hb dX8_tick_9 (by decide) (fun c => ?_) (fun c => absurd (by decide) c)
  refine lv_iload_n hx hb dX8_tick_15 rfl (lv_at hl 1 rfl) ?_
  refine lv_iconst (v := 0) hx hb dX8_tick_16 (by decide) ?_
  refine lv_ldc (v := 100000) hx hb hown (hts _ wdX8_tick_2) dX8_tick_17 ?_
  refine kc_i (wr := [(h0, .inr (7, [.int 0, .int 0, g1, g2, g3, g4, g5, g6, g7, g8, g9, g10, g11, g12, g13, g14, g15, g16, g17, g18, g19, g20, g21, g22, g23, g24, g25, g26, g27, g28]))]) (va_runS (As := [.int p0, .int 0, .int 100000]) (rest := []) ⟨hx, hb, hml, hown, hts⟩ (K175_X8_in l D cB cI cZ _ p0 (by omega)) (va_cwS 3 hts gX8_tick_X8_in rfl rfl rfl (by decide +kernel) ⟨Nat.le_of_ble_eq_true rfl, Nat.le_of_ble_eq_true rfl⟩) (pre_S (hP.sub [] rfl) hK hN (hD.sub [] (by decide) rfl)) rfl rfl hl.1 rfl (lv_room (Nat.le_of_ble_eq_true rfl)) dX8_tick_19 ⟨Nat.le_of_ble_eq_true rfl, Nat.le_of_ble_eq_true rfl⟩) hP hD hS hA [] [0] rfl rfl (by decide) (by decide) (fun r_1 u H locs hw hP hD hS => ?_)
  have k_2 := hw
  obtain rfl : r_1 = 0 := k_2
  have hP : va_P D vwCl [(h0, .inr (7, [.int 0, .int 0, g1, g2, g3, g4, g5, g6, g7, g8, g9, g10, g11, g12, g13, g14, g15, g16, g17, g18, g19, g20, g21, g22, g23, g24, g25, g26, g27, g28]))] H := hP
  have hD : va_D A [(h0, .inr (7, [.int 0, .int 0, g1, g2, g3, g4, g5, g6, g7, g8, g9, g10, g11, g12, g13, g14, g15, g16, g17, g18, g19, g20, g21, g22, g23, g24, g25, g26, g27, g28]))] := hD
  refine lv_if_ne (tgt := 28) hx hb dX8_tick_22 (by decide) (fun c => absurd (by decide) c) (fun c => ?_)
  refine lv_bipush (v := (-2)) hx hb dX8_tick_25 (by decide) ?_
  exact kr_i () hx hb hr hlocks (hP.sub [] rfl) (hD.sub [] (by decide) rfl) hS rfl dX8_tick_27
set_option maxHeartbeats 4000000 in
set_option maxRecDepth 100000 in
theorem K176_X7_cut (l : Launch) (D : va_G) (cB cI cZ : ClassId) (sz : Nat) (h0 : Nat)  (p0 : Int32) (p1 : Int32) (g0 : Value) (g1 : Value) (g2 : Value) (g3 : Value) (g4 : Value) (g5 : Value) (g6 : Value) (g7 : Value) (i_p0 : p0.toInt ≤ (-1)) :
    CtI l D cB cI cZ yX7_cut wsX7_cut { frames := 0, cells := 0, slots := 0, locals := 0 } [.ref h0, .int p0, .int p1] [(h0, .inr (6, [g0, g1, g2, g3, g4, g5, g6, g7, .int 0]))] sz 0 0
      (fun (r : Int32) (u : Unit) => r = (-2))
      (fun u => []) := by
  refine mk_metI (cc := cX7_cut) (maxL := 3) (ret := (some .int)) (by decide) rfl (Nat.le_of_ble_eq_true rfl) ?_
  intro p e s m below meth c A hx hb hr hml hts hown hlocks hin hP hK hN hD hA hS ls hl
  have hown : s.vm.findClass RX7 = some m.cls := hown
  have hl : lv_has ls 3 [(0, .ref h0), (1, .int p0), (2, .int p1)] := hl
  refine lv_aload_n hx hb dX7_cut_0 rfl (lv_at hl 0 rfl) ?_
  refine va_get (D := D) (ci := 6) (v := .int 0) (C := RX7) (T := TX7) (N := 9) hx hb hts inX7_cut_X7 hown hK hP 0 rfl rfl 8 (by decide) (hts _ wdX7_cut_0) (fun _ h9 => h9) rfl dX7_cut_1 ?_
  refine lv_if_eq (tgt := 10) hx hb dX7_cut_4 (by decide) (fun c => ?_) (fun c => absurd (by decide) c)
  refine lv_iload_n hx hb dX7_cut_10 rfl (lv_at hl 1 rfl) ?_
  refine lv_if_lt (tgt := 31) hx hb dX7_cut_11 (by decide) (fun c => ?_) (fun c => absurd ((ti_lt (x := p0) (y := 0) (a := p0.toInt) (b := 0) rfl (by decide)).mpr (by omega)) c)
  refine lv_bipush (v := (-2)) hx hb dX7_cut_31 (by decide) ?_
  exact kr_i () hx hb hr hlocks (hP.sub [] rfl) (hD.sub [] (by decide) rfl) hS rfl dX7_cut_33
set_option maxHeartbeats 4000000 in
set_option maxRecDepth 100000 in
theorem K178_X8_in (l : Launch) (D : va_G) (cB cI cZ : ClassId) (sz : Nat)   (p0 : Int32) (i_p0 : p0.toInt ≤ (-1)) :
    CtI l D cB cI cZ yX8_in wsX8_in { frames := 0, cells := 0, slots := 0, locals := 0 } [.int p0, .int 0, .int 10000] [] sz 0 0
      (fun (r : Int32) (u : Unit) => r = 0)
      (fun u => []) := by
  refine mk_metI (cc := cX8_in) (maxL := 3) (ret := (some .boolean)) (by decide) rfl (Nat.le_of_ble_eq_true rfl) ?_
  intro p e s m below meth c A hx hb hr hml hts hown hlocks hin hP hK hN hD hA hS ls hl
  have hown : s.vm.findClass RX8 = some m.cls := hown
  have hl : lv_has ls 3 [(0, .int p0), (1, .int 0), (2, .int 10000)] := hl
  refine lv_iload_n hx hb dX8_in_0 rfl (lv_at hl 0 rfl) ?_
  refine lv_iload_n hx hb dX8_in_1 rfl (lv_at hl 1 rfl) ?_
  refine lv_icmp_lt (tgt := 14) hx hb dX8_in_2 (by decide) (fun c => ?_) (fun c => absurd ((ti_lt (x := p0) (y := 0) (a := p0.toInt) (b := 0) rfl (by decide)).mpr (by omega)) c)
  refine lv_iconst (v := 0) hx hb dX8_in_14 (by decide) ?_
  exact kr_z () hx hb hr rfl hlocks hP hD hS rfl dX8_in_15
set_option maxHeartbeats 4000000 in
set_option maxRecDepth 100000 in
theorem K177_X8_cut (l : Launch) (D : va_G) (cB cI cZ : ClassId) (sz : Nat) (h0 : Nat)  (p0 : Int32) (p1 : Int32) (g0 : Value) (g1 : Value) (g2 : Value) (g3 : Value) (g4 : Value) (g5 : Value) (g6 : Value) (g7 : Value) (g8 : Value) (g9 : Value) (g10 : Value) (g11 : Value) (g12 : Value) (g13 : Value) (g14 : Value) (g15 : Value) (g16 : Value) (g17 : Value) (g18 : Value) (g19 : Value) (g20 : Value) (g21 : Value) (g22 : Value) (g23 : Value) (g24 : Value) (g25 : Value) (g26 : Value) (g27 : Value) (g28 : Value) (i_p0 : p0.toInt ≤ (-1)) :
    CtI l D cB cI cZ yX8_cut wsX8_cut { frames := 1, cells := 0, slots := 0, locals := 22 } [.ref h0, .int p0, .int p1] [(h0, .inr (7, [g0, .int 0, g1, g2, g3, g4, g5, g6, g7, g8, g9, g10, g11, g12, g13, g14, g15, g16, g17, g18, g19, g20, g21, g22, g23, g24, g25, g26, g27, g28]))] sz 0 0
      (fun (r : Int32) (u : Unit) => r = (-2))
      (fun u => []) := by
  refine mk_metI (cc := cX8_cut) (maxL := 3) (ret := (some .int)) (by decide) rfl (Nat.le_of_ble_eq_true rfl) ?_
  intro p e s m below meth c A hx hb hr hml hts hown hlocks hin hP hK hN hD hA hS ls hl
  have hown : s.vm.findClass RX8 = some m.cls := hown
  have hl : lv_has ls 3 [(0, .ref h0), (1, .int p0), (2, .int p1)] := hl
  refine lv_aload_n hx hb dX8_cut_0 rfl (lv_at hl 0 rfl) ?_
  refine lv_iconst (v := 0) hx hb dX8_cut_1 (by decide) ?_
  refine va_put (D := D) (ci := 7) (v := .int 0) (ty := .int) (C := RX8) (T := TX8) (N := 30) hx hb hts inX8_cut_X8 tyX8 tyX8_ok nmX8 hown hK hP hD hS 0 rfl rfl 0 (by decide) (hts _ wdX8_cut_0) (fun _ h9 => h9) rfl (by decide +kernel) rfl rfl (Nat.le_of_ble_eq_true rfl) dX8_cut_2 (fun H locs hP hD hS => ?_)
  have hP : va_P D vwCl [(h0, .inr (7, [.int 0, .int 0, g1, g2, g3, g4, g5, g6, g7, g8, g9, g10, g11, g12, g13, g14, g15, g16, g17, g18, g19, g20, g21, g22, g23, g24, g25, g26, g27, g28]))] H := hP
  have hD : va_D A [(h0, .inr (7, [.int 0, .int 0, g1, g2, g3, g4, g5, g6, g7, g8, g9, g10, g11, g12, g13, g14, g15, g16, g17, g18, g19, g20, g21, g22, g23, g24, g25, g26, g27, g28]))] := hD
  refine lv_aload_n hx hb dX8_cut_5 rfl (lv_at hl 0 rfl) ?_
  refine va_get (D := D) (ci := 7) (v := .int 0) (C := RX8) (T := TX8) (N := 30) hx hb hts inX8_cut_X8 hown hK hP 0 rfl rfl 1 (by decide) (hts _ wdX8_cut_1) (fun _ h9 => h9) rfl dX8_cut_6 ?_
  refine lv_if_eq (tgt := 15) hx hb dX8_cut_9 (by decide) (fun c => ?_) (fun c => absurd (by decide) c)
  refine lv_iload_n hx hb dX8_cut_15 rfl (lv_at hl 1 rfl) ?_
  refine lv_iconst (v := 0) hx hb dX8_cut_16 (by decide) ?_
  refine lv_sipush (v := 10000) hx hb dX8_cut_17 (by decide) ?_
  refine kc_i (wr := [(h0, .inr (7, [.int 0, .int 0, g1, g2, g3, g4, g5, g6, g7, g8, g9, g10, g11, g12, g13, g14, g15, g16, g17, g18, g19, g20, g21, g22, g23, g24, g25, g26, g27, g28]))]) (va_runS (As := [.int p0, .int 0, .int 10000]) (rest := []) ⟨hx, hb, hml, hown, hts⟩ (K178_X8_in l D cB cI cZ _ p0 (by omega)) (va_cwS 3 hts gX8_cut_X8_in rfl rfl rfl (by decide +kernel) ⟨Nat.le_of_ble_eq_true rfl, Nat.le_of_ble_eq_true rfl⟩) (pre_S (hP.sub [] rfl) hK hN (hD.sub [] (by decide) rfl)) rfl rfl hl.1 rfl (lv_room (Nat.le_of_ble_eq_true rfl)) dX8_cut_20 ⟨Nat.le_of_ble_eq_true rfl, Nat.le_of_ble_eq_true rfl⟩) hP hD hS hA [] [0] rfl rfl (by decide) (by decide) (fun r_1 u H locs hw hP hD hS => ?_)
  have k_2 := hw
  obtain rfl : r_1 = 0 := k_2
  have hP : va_P D vwCl [(h0, .inr (7, [.int 0, .int 0, g1, g2, g3, g4, g5, g6, g7, g8, g9, g10, g11, g12, g13, g14, g15, g16, g17, g18, g19, g20, g21, g22, g23, g24, g25, g26, g27, g28]))] H := hP
  have hD : va_D A [(h0, .inr (7, [.int 0, .int 0, g1, g2, g3, g4, g5, g6, g7, g8, g9, g10, g11, g12, g13, g14, g15, g16, g17, g18, g19, g20, g21, g22, g23, g24, g25, g26, g27, g28]))] := hD
  refine lv_if_eq (tgt := 36) hx hb dX8_cut_23 (by decide) (fun c => ?_) (fun c => absurd (by decide) c)
  refine lv_bipush (v := (-2)) hx hb dX8_cut_36 (by decide) ?_
  exact kr_i () hx hb hr hlocks (hP.sub [] rfl) (hD.sub [] (by decide) rfl) hS rfl dX8_cut_38
set_option maxHeartbeats 4000000 in
set_option maxRecDepth 100000 in
theorem K179_X7_cut (l : Launch) (D : va_G) (cB cI cZ : ClassId) (sz : Nat) (h0 : Nat)  (p0 : Int32) (p1 : Int32) (g0 : Value) (g1 : Value) (g2 : Value) (g3 : Value) (g4 : Value) (g5 : Value) (g6 : Value) (g7 : Value) (i_p0 : 10001 ≤ p0.toInt) :
    CtI l D cB cI cZ yX7_cut wsX7_cut { frames := 0, cells := 0, slots := 0, locals := 0 } [.ref h0, .int p0, .int p1] [(h0, .inr (6, [g0, g1, g2, g3, g4, g5, g6, g7, .int 0]))] sz 0 0
      (fun (r : Int32) (u : Unit) => r = (-2))
      (fun u => []) := by
  refine mk_metI (cc := cX7_cut) (maxL := 3) (ret := (some .int)) (by decide) rfl (Nat.le_of_ble_eq_true rfl) ?_
  intro p e s m below meth c A hx hb hr hml hts hown hlocks hin hP hK hN hD hA hS ls hl
  have hown : s.vm.findClass RX7 = some m.cls := hown
  have hl : lv_has ls 3 [(0, .ref h0), (1, .int p0), (2, .int p1)] := hl
  refine lv_aload_n hx hb dX7_cut_0 rfl (lv_at hl 0 rfl) ?_
  refine va_get (D := D) (ci := 6) (v := .int 0) (C := RX7) (T := TX7) (N := 9) hx hb hts inX7_cut_X7 hown hK hP 0 rfl rfl 8 (by decide) (hts _ wdX7_cut_0) (fun _ h9 => h9) rfl dX7_cut_1 ?_
  refine lv_if_eq (tgt := 10) hx hb dX7_cut_4 (by decide) (fun c => ?_) (fun c => absurd (by decide) c)
  refine lv_iload_n hx hb dX7_cut_10 rfl (lv_at hl 1 rfl) ?_
  refine lv_if_lt (tgt := 31) hx hb dX7_cut_11 (by decide) (fun c => absurd ((ti_lt (x := p0) (y := 0) (a := p0.toInt) (b := 0) rfl (by decide)).mp c) (by omega)) (fun c => ?_)
  refine lv_iload_n hx hb dX7_cut_14 rfl (lv_at hl 1 rfl) ?_
  refine lv_sipush (v := 10000) hx hb dX7_cut_15 (by decide) ?_
  refine lv_icmp_gt (tgt := 31) hx hb dX7_cut_18 (by decide) (fun c => ?_) (fun c => absurd ((ti_lt (x := 10000) (y := p0) (a := 10000) (b := p0.toInt) (by decide) rfl).mpr (by omega)) c)
  refine lv_bipush (v := (-2)) hx hb dX7_cut_31 (by decide) ?_
  exact kr_i () hx hb hr hlocks (hP.sub [] rfl) (hD.sub [] (by decide) rfl) hS rfl dX7_cut_33
set_option maxHeartbeats 4000000 in
set_option maxRecDepth 100000 in
theorem K181_X8_in (l : Launch) (D : va_G) (cB cI cZ : ClassId) (sz : Nat)   (p0 : Int32) (i_p0 : 10001 ≤ p0.toInt) :
    CtI l D cB cI cZ yX8_in wsX8_in { frames := 0, cells := 0, slots := 0, locals := 0 } [.int p0, .int 0, .int 10000] [] sz 0 0
      (fun (r : Int32) (u : Unit) => r = 0)
      (fun u => []) := by
  refine mk_metI (cc := cX8_in) (maxL := 3) (ret := (some .boolean)) (by decide) rfl (Nat.le_of_ble_eq_true rfl) ?_
  intro p e s m below meth c A hx hb hr hml hts hown hlocks hin hP hK hN hD hA hS ls hl
  have hown : s.vm.findClass RX8 = some m.cls := hown
  have hl : lv_has ls 3 [(0, .int p0), (1, .int 0), (2, .int 10000)] := hl
  refine lv_iload_n hx hb dX8_in_0 rfl (lv_at hl 0 rfl) ?_
  refine lv_iload_n hx hb dX8_in_1 rfl (lv_at hl 1 rfl) ?_
  refine lv_icmp_lt (tgt := 14) hx hb dX8_in_2 (by decide) (fun c => absurd ((ti_lt (x := p0) (y := 0) (a := p0.toInt) (b := 0) rfl (by decide)).mp c) (by omega)) (fun c => ?_)
  refine lv_iload_n hx hb dX8_in_5 rfl (lv_at hl 0 rfl) ?_
  refine lv_iload_n hx hb dX8_in_6 rfl (lv_at hl 2 rfl) ?_
  refine lv_icmp_gt (tgt := 14) hx hb dX8_in_7 (by decide) (fun c => ?_) (fun c => absurd ((ti_lt (x := 10000) (y := p0) (a := 10000) (b := p0.toInt) (by decide) rfl).mpr (by omega)) c)
  refine lv_iconst (v := 0) hx hb dX8_in_14 (by decide) ?_
  exact kr_z () hx hb hr rfl hlocks hP hD hS rfl dX8_in_15
set_option maxHeartbeats 4000000 in
set_option maxRecDepth 100000 in
theorem K180_X8_cut (l : Launch) (D : va_G) (cB cI cZ : ClassId) (sz : Nat) (h0 : Nat)  (p0 : Int32) (p1 : Int32) (g0 : Value) (g1 : Value) (g2 : Value) (g3 : Value) (g4 : Value) (g5 : Value) (g6 : Value) (g7 : Value) (g8 : Value) (g9 : Value) (g10 : Value) (g11 : Value) (g12 : Value) (g13 : Value) (g14 : Value) (g15 : Value) (g16 : Value) (g17 : Value) (g18 : Value) (g19 : Value) (g20 : Value) (g21 : Value) (g22 : Value) (g23 : Value) (g24 : Value) (g25 : Value) (g26 : Value) (g27 : Value) (g28 : Value) (i_p0 : 10001 ≤ p0.toInt) :
    CtI l D cB cI cZ yX8_cut wsX8_cut { frames := 1, cells := 0, slots := 0, locals := 22 } [.ref h0, .int p0, .int p1] [(h0, .inr (7, [g0, .int 0, g1, g2, g3, g4, g5, g6, g7, g8, g9, g10, g11, g12, g13, g14, g15, g16, g17, g18, g19, g20, g21, g22, g23, g24, g25, g26, g27, g28]))] sz 0 0
      (fun (r : Int32) (u : Unit) => r = (-2))
      (fun u => []) := by
  refine mk_metI (cc := cX8_cut) (maxL := 3) (ret := (some .int)) (by decide) rfl (Nat.le_of_ble_eq_true rfl) ?_
  intro p e s m below meth c A hx hb hr hml hts hown hlocks hin hP hK hN hD hA hS ls hl
  have hown : s.vm.findClass RX8 = some m.cls := hown
  have hl : lv_has ls 3 [(0, .ref h0), (1, .int p0), (2, .int p1)] := hl
  refine lv_aload_n hx hb dX8_cut_0 rfl (lv_at hl 0 rfl) ?_
  refine lv_iconst (v := 0) hx hb dX8_cut_1 (by decide) ?_
  refine va_put (D := D) (ci := 7) (v := .int 0) (ty := .int) (C := RX8) (T := TX8) (N := 30) hx hb hts inX8_cut_X8 tyX8 tyX8_ok nmX8 hown hK hP hD hS 0 rfl rfl 0 (by decide) (hts _ wdX8_cut_0) (fun _ h9 => h9) rfl (by decide +kernel) rfl rfl (Nat.le_of_ble_eq_true rfl) dX8_cut_2 (fun H locs hP hD hS => ?_)
  have hP : va_P D vwCl [(h0, .inr (7, [.int 0, .int 0, g1, g2, g3, g4, g5, g6, g7, g8, g9, g10, g11, g12, g13, g14, g15, g16, g17, g18, g19, g20, g21, g22, g23, g24, g25, g26, g27, g28]))] H := hP
  have hD : va_D A [(h0, .inr (7, [.int 0, .int 0, g1, g2, g3, g4, g5, g6, g7, g8, g9, g10, g11, g12, g13, g14, g15, g16, g17, g18, g19, g20, g21, g22, g23, g24, g25, g26, g27, g28]))] := hD
  refine lv_aload_n hx hb dX8_cut_5 rfl (lv_at hl 0 rfl) ?_
  refine va_get (D := D) (ci := 7) (v := .int 0) (C := RX8) (T := TX8) (N := 30) hx hb hts inX8_cut_X8 hown hK hP 0 rfl rfl 1 (by decide) (hts _ wdX8_cut_1) (fun _ h9 => h9) rfl dX8_cut_6 ?_
  refine lv_if_eq (tgt := 15) hx hb dX8_cut_9 (by decide) (fun c => ?_) (fun c => absurd (by decide) c)
  refine lv_iload_n hx hb dX8_cut_15 rfl (lv_at hl 1 rfl) ?_
  refine lv_iconst (v := 0) hx hb dX8_cut_16 (by decide) ?_
  refine lv_sipush (v := 10000) hx hb dX8_cut_17 (by decide) ?_
  refine kc_i (wr := [(h0, .inr (7, [.int 0, .int 0, g1, g2, g3, g4, g5, g6, g7, g8, g9, g10, g11, g12, g13, g14, g15, g16, g17, g18, g19, g20, g21, g22, g23, g24, g25, g26, g27, g28]))]) (va_runS (As := [.int p0, .int 0, .int 10000]) (rest := []) ⟨hx, hb, hml, hown, hts⟩ (K181_X8_in l D cB cI cZ _ p0 (by omega)) (va_cwS 3 hts gX8_cut_X8_in rfl rfl rfl (by decide +kernel) ⟨Nat.le_of_ble_eq_true rfl, Nat.le_of_ble_eq_true rfl⟩) (pre_S (hP.sub [] rfl) hK hN (hD.sub [] (by decide) rfl)) rfl rfl hl.1 rfl (lv_room (Nat.le_of_ble_eq_true rfl)) dX8_cut_20 ⟨Nat.le_of_ble_eq_true rfl, Nat.le_of_ble_eq_true rfl⟩) hP hD hS hA [] [0] rfl rfl (by decide) (by decide) (fun r_1 u H locs hw hP hD hS => ?_)
  have k_2 := hw
  obtain rfl : r_1 = 0 := k_2
  have hP : va_P D vwCl [(h0, .inr (7, [.int 0, .int 0, g1, g2, g3, g4, g5, g6, g7, g8, g9, g10, g11, g12, g13, g14, g15, g16, g17, g18, g19, g20, g21, g22, g23, g24, g25, g26, g27, g28]))] H := hP
  have hD : va_D A [(h0, .inr (7, [.int 0, .int 0, g1, g2, g3, g4, g5, g6, g7, g8, g9, g10, g11, g12, g13, g14, g15, g16, g17, g18, g19, g20, g21, g22, g23, g24, g25, g26, g27, g28]))] := hD
  refine lv_if_eq (tgt := 36) hx hb dX8_cut_23 (by decide) (fun c => ?_) (fun c => absurd (by decide) c)
  refine lv_bipush (v := (-2)) hx hb dX8_cut_36 (by decide) ?_
  exact kr_i () hx hb hr hlocks (hP.sub [] rfl) (hD.sub [] (by decide) rfl) hS rfl dX8_cut_38
set_option maxHeartbeats 4000000 in
set_option maxRecDepth 100000 in
theorem K182_X7_cut (l : Launch) (D : va_G) (cB cI cZ : ClassId) (sz : Nat) (h0 : Nat)  (p0 : Int32) (p1 : Int32) (g0 : Value) (g1 : Value) (g2 : Value) (g3 : Value) (g4 : Value) (g5 : Value) (g6 : Value) (g7 : Value) (i_p0 : 0 ≤ p0.toInt ∧ p0.toInt ≤ 10000) (i_p1 : p1.toInt ≤ (-1)) :
    CtI l D cB cI cZ yX7_cut wsX7_cut { frames := 0, cells := 0, slots := 0, locals := 0 } [.ref h0, .int p0, .int p1] [(h0, .inr (6, [g0, g1, g2, g3, g4, g5, g6, g7, .int 0]))] sz 0 0
      (fun (r : Int32) (u : Unit) => r = (-2))
      (fun u => []) := by
  refine mk_metI (cc := cX7_cut) (maxL := 3) (ret := (some .int)) (by decide) rfl (Nat.le_of_ble_eq_true rfl) ?_
  intro p e s m below meth c A hx hb hr hml hts hown hlocks hin hP hK hN hD hA hS ls hl
  have hown : s.vm.findClass RX7 = some m.cls := hown
  have hl : lv_has ls 3 [(0, .ref h0), (1, .int p0), (2, .int p1)] := hl
  refine lv_aload_n hx hb dX7_cut_0 rfl (lv_at hl 0 rfl) ?_
  refine va_get (D := D) (ci := 6) (v := .int 0) (C := RX7) (T := TX7) (N := 9) hx hb hts inX7_cut_X7 hown hK hP 0 rfl rfl 8 (by decide) (hts _ wdX7_cut_0) (fun _ h9 => h9) rfl dX7_cut_1 ?_
  refine lv_if_eq (tgt := 10) hx hb dX7_cut_4 (by decide) (fun c => ?_) (fun c => absurd (by decide) c)
  refine lv_iload_n hx hb dX7_cut_10 rfl (lv_at hl 1 rfl) ?_
  refine lv_if_lt (tgt := 31) hx hb dX7_cut_11 (by decide) (fun c => absurd ((ti_lt (x := p0) (y := 0) (a := p0.toInt) (b := 0) rfl (by decide)).mp c) (by omega)) (fun c => ?_)
  refine lv_iload_n hx hb dX7_cut_14 rfl (lv_at hl 1 rfl) ?_
  refine lv_sipush (v := 10000) hx hb dX7_cut_15 (by decide) ?_
  refine lv_icmp_gt (tgt := 31) hx hb dX7_cut_18 (by decide) (fun c => absurd ((ti_lt (x := 10000) (y := p0) (a := 10000) (b := p0.toInt) (by decide) rfl).mp c) (by omega)) (fun c => ?_)
  refine lv_iload_n hx hb dX7_cut_21 rfl (lv_at hl 2 rfl) ?_
  refine lv_if_lt (tgt := 31) hx hb dX7_cut_22 (by decide) (fun c => ?_) (fun c => absurd ((ti_lt (x := p1) (y := 0) (a := p1.toInt) (b := 0) rfl (by decide)).mpr (by omega)) c)
  refine lv_bipush (v := (-2)) hx hb dX7_cut_31 (by decide) ?_
  exact kr_i () hx hb hr hlocks (hP.sub [] rfl) (hD.sub [] (by decide) rfl) hS rfl dX7_cut_33
set_option maxHeartbeats 4000000 in
set_option maxRecDepth 100000 in
theorem K184_X8_in (l : Launch) (D : va_G) (cB cI cZ : ClassId) (sz : Nat)   (p0 : Int32) (i_p0 : 0 ≤ p0.toInt ∧ p0.toInt ≤ 10000) :
    CtI l D cB cI cZ yX8_in wsX8_in { frames := 0, cells := 0, slots := 0, locals := 0 } [.int p0, .int 0, .int 10000] [] sz 0 0
      (fun (r : Int32) (u : Unit) => r = 1)
      (fun u => []) := by
  refine mk_metI (cc := cX8_in) (maxL := 3) (ret := (some .boolean)) (by decide) rfl (Nat.le_of_ble_eq_true rfl) ?_
  intro p e s m below meth c A hx hb hr hml hts hown hlocks hin hP hK hN hD hA hS ls hl
  have hown : s.vm.findClass RX8 = some m.cls := hown
  have hl : lv_has ls 3 [(0, .int p0), (1, .int 0), (2, .int 10000)] := hl
  refine lv_iload_n hx hb dX8_in_0 rfl (lv_at hl 0 rfl) ?_
  refine lv_iload_n hx hb dX8_in_1 rfl (lv_at hl 1 rfl) ?_
  refine lv_icmp_lt (tgt := 14) hx hb dX8_in_2 (by decide) (fun c => absurd ((ti_lt (x := p0) (y := 0) (a := p0.toInt) (b := 0) rfl (by decide)).mp c) (by omega)) (fun c => ?_)
  refine lv_iload_n hx hb dX8_in_5 rfl (lv_at hl 0 rfl) ?_
  refine lv_iload_n hx hb dX8_in_6 rfl (lv_at hl 2 rfl) ?_
  refine lv_icmp_gt (tgt := 14) hx hb dX8_in_7 (by decide) (fun c => absurd ((ti_lt (x := 10000) (y := p0) (a := 10000) (b := p0.toInt) (by decide) rfl).mp c) (by omega)) (fun c => ?_)
  refine lv_iconst (v := 1) hx hb dX8_in_10 (by decide) ?_
  refine lv_goto (tgt := 15) hx hb dX8_in_11 (by decide) ?_
  exact kr_z () hx hb hr rfl hlocks hP hD hS rfl dX8_in_15
set_option maxHeartbeats 4000000 in
set_option maxRecDepth 100000 in
theorem K185_X8_in (l : Launch) (D : va_G) (cB cI cZ : ClassId) (sz : Nat)   (p0 : Int32) (i_p0 : p0.toInt ≤ (-1)) :
    CtI l D cB cI cZ yX8_in wsX8_in { frames := 0, cells := 0, slots := 0, locals := 0 } [.int p0, .int 0, .int 63] [] sz 0 0
      (fun (r : Int32) (u : Unit) => r = 0)
      (fun u => []) := by
  refine mk_metI (cc := cX8_in) (maxL := 3) (ret := (some .boolean)) (by decide) rfl (Nat.le_of_ble_eq_true rfl) ?_
  intro p e s m below meth c A hx hb hr hml hts hown hlocks hin hP hK hN hD hA hS ls hl
  have hown : s.vm.findClass RX8 = some m.cls := hown
  have hl : lv_has ls 3 [(0, .int p0), (1, .int 0), (2, .int 63)] := hl
  refine lv_iload_n hx hb dX8_in_0 rfl (lv_at hl 0 rfl) ?_
  refine lv_iload_n hx hb dX8_in_1 rfl (lv_at hl 1 rfl) ?_
  refine lv_icmp_lt (tgt := 14) hx hb dX8_in_2 (by decide) (fun c => ?_) (fun c => absurd ((ti_lt (x := p0) (y := 0) (a := p0.toInt) (b := 0) rfl (by decide)).mpr (by omega)) c)
  refine lv_iconst (v := 0) hx hb dX8_in_14 (by decide) ?_
  exact kr_z () hx hb hr rfl hlocks hP hD hS rfl dX8_in_15
set_option maxHeartbeats 4000000 in
set_option maxRecDepth 100000 in
theorem K183_X8_cut (l : Launch) (D : va_G) (cB cI cZ : ClassId) (sz : Nat) (h0 : Nat)  (p0 : Int32) (p1 : Int32) (g0 : Value) (g1 : Value) (g2 : Value) (g3 : Value) (g4 : Value) (g5 : Value) (g6 : Value) (g7 : Value) (g8 : Value) (g9 : Value) (g10 : Value) (g11 : Value) (g12 : Value) (g13 : Value) (g14 : Value) (g15 : Value) (g16 : Value) (g17 : Value) (g18 : Value) (g19 : Value) (g20 : Value) (g21 : Value) (g22 : Value) (g23 : Value) (g24 : Value) (g25 : Value) (g26 : Value) (g27 : Value) (g28 : Value) (i_p0 : 0 ≤ p0.toInt ∧ p0.toInt ≤ 10000) (i_p1 : p1.toInt ≤ (-1)) :
    CtI l D cB cI cZ yX8_cut wsX8_cut { frames := 1, cells := 0, slots := 0, locals := 22 } [.ref h0, .int p0, .int p1] [(h0, .inr (7, [g0, .int 0, g1, g2, g3, g4, g5, g6, g7, g8, g9, g10, g11, g12, g13, g14, g15, g16, g17, g18, g19, g20, g21, g22, g23, g24, g25, g26, g27, g28]))] sz 0 0
      (fun (r : Int32) (u : Unit) => r = (-2))
      (fun u => []) := by
  refine mk_metI (cc := cX8_cut) (maxL := 3) (ret := (some .int)) (by decide) rfl (Nat.le_of_ble_eq_true rfl) ?_
  intro p e s m below meth c A hx hb hr hml hts hown hlocks hin hP hK hN hD hA hS ls hl
  have hown : s.vm.findClass RX8 = some m.cls := hown
  have hl : lv_has ls 3 [(0, .ref h0), (1, .int p0), (2, .int p1)] := hl
  refine lv_aload_n hx hb dX8_cut_0 rfl (lv_at hl 0 rfl) ?_
  refine lv_iconst (v := 0) hx hb dX8_cut_1 (by decide) ?_
  refine va_put (D := D) (ci := 7) (v := .int 0) (ty := .int) (C := RX8) (T := TX8) (N := 30) hx hb hts inX8_cut_X8 tyX8 tyX8_ok nmX8 hown hK hP hD hS 0 rfl rfl 0 (by decide) (hts _ wdX8_cut_0) (fun _ h9 => h9) rfl (by decide +kernel) rfl rfl (Nat.le_of_ble_eq_true rfl) dX8_cut_2 (fun H locs hP hD hS => ?_)
  have hP : va_P D vwCl [(h0, .inr (7, [.int 0, .int 0, g1, g2, g3, g4, g5, g6, g7, g8, g9, g10, g11, g12, g13, g14, g15, g16, g17, g18, g19, g20, g21, g22, g23, g24, g25, g26, g27, g28]))] H := hP
  have hD : va_D A [(h0, .inr (7, [.int 0, .int 0, g1, g2, g3, g4, g5, g6, g7, g8, g9, g10, g11, g12, g13, g14, g15, g16, g17, g18, g19, g20, g21, g22, g23, g24, g25, g26, g27, g28]))] := hD
  refine lv_aload_n hx hb dX8_cut_5 rfl (lv_at hl 0 rfl) ?_
  refine va_get (D := D) (ci := 7) (v := .int 0) (C := RX8) (T := TX8) (N := 30) hx hb hts inX8_cut_X8 hown hK hP 0 rfl rfl 1 (by decide) (hts _ wdX8_cut_1) (fun _ h9 => h9) rfl dX8_cut_6 ?_
  refine lv_if_eq (tgt := 15) hx hb dX8_cut_9 (by decide) (fun c => ?_) (fun c => absurd (by decide) c)
  refine lv_iload_n hx hb dX8_cut_15 rfl (lv_at hl 1 rfl) ?_
  refine lv_iconst (v := 0) hx hb dX8_cut_16 (by decide) ?_
  refine lv_sipush (v := 10000) hx hb dX8_cut_17 (by decide) ?_
  refine kc_i (wr := [(h0, .inr (7, [.int 0, .int 0, g1, g2, g3, g4, g5, g6, g7, g8, g9, g10, g11, g12, g13, g14, g15, g16, g17, g18, g19, g20, g21, g22, g23, g24, g25, g26, g27, g28]))]) (va_runS (As := [.int p0, .int 0, .int 10000]) (rest := []) ⟨hx, hb, hml, hown, hts⟩ (K184_X8_in l D cB cI cZ _ p0 ⟨by omega, by omega⟩) (va_cwS 3 hts gX8_cut_X8_in rfl rfl rfl (by decide +kernel) ⟨Nat.le_of_ble_eq_true rfl, Nat.le_of_ble_eq_true rfl⟩) (pre_S (hP.sub [] rfl) hK hN (hD.sub [] (by decide) rfl)) rfl rfl hl.1 rfl (lv_room (Nat.le_of_ble_eq_true rfl)) dX8_cut_20 ⟨Nat.le_of_ble_eq_true rfl, Nat.le_of_ble_eq_true rfl⟩) hP hD hS hA [] [0] rfl rfl (by decide) (by decide) (fun r_1 u H locs hw hP hD hS => ?_)
  have k_2 := hw
  obtain rfl : r_1 = 1 := k_2
  have hP : va_P D vwCl [(h0, .inr (7, [.int 0, .int 0, g1, g2, g3, g4, g5, g6, g7, g8, g9, g10, g11, g12, g13, g14, g15, g16, g17, g18, g19, g20, g21, g22, g23, g24, g25, g26, g27, g28]))] H := hP
  have hD : va_D A [(h0, .inr (7, [.int 0, .int 0, g1, g2, g3, g4, g5, g6, g7, g8, g9, g10, g11, g12, g13, g14, g15, g16, g17, g18, g19, g20, g21, g22, g23, g24, g25, g26, g27, g28]))] := hD
  refine lv_if_eq (tgt := 36) hx hb dX8_cut_23 (by decide) (fun c => absurd c (by decide)) (fun c => ?_)
  refine lv_iload_n hx hb dX8_cut_26 rfl (lv_at hl 2 rfl) ?_
  refine lv_iconst (v := 0) hx hb dX8_cut_27 (by decide) ?_
  refine lv_bipush (v := 63) hx hb dX8_cut_28 (by decide) ?_
  refine kc_i (wr := [(h0, .inr (7, [.int 0, .int 0, g1, g2, g3, g4, g5, g6, g7, g8, g9, g10, g11, g12, g13, g14, g15, g16, g17, g18, g19, g20, g21, g22, g23, g24, g25, g26, g27, g28]))]) (va_runS (As := [.int p1, .int 0, .int 63]) (rest := []) ⟨hx, hb, hml, hown, hts⟩ (K185_X8_in l D cB cI cZ _ p1 (by omega)) (va_cwS 3 hts gX8_cut_X8_in rfl rfl rfl (by decide +kernel) ⟨Nat.le_of_ble_eq_true rfl, Nat.le_of_ble_eq_true rfl⟩) (pre_S (hP.sub [] rfl) hK hN (hD.sub [] (by decide) rfl)) rfl rfl hl.1 rfl (lv_room (Nat.le_of_ble_eq_true rfl)) dX8_cut_30 ⟨Nat.le_of_ble_eq_true rfl, Nat.le_of_ble_eq_true rfl⟩) hP hD hS hA [] [0] rfl rfl (by decide) (by decide) (fun r_3 u H locs hw hP hD hS => ?_)
  have k_4 := hw
  obtain rfl : r_3 = 0 := k_4
  have hP : va_P D vwCl [(h0, .inr (7, [.int 0, .int 0, g1, g2, g3, g4, g5, g6, g7, g8, g9, g10, g11, g12, g13, g14, g15, g16, g17, g18, g19, g20, g21, g22, g23, g24, g25, g26, g27, g28]))] H := hP
  have hD : va_D A [(h0, .inr (7, [.int 0, .int 0, g1, g2, g3, g4, g5, g6, g7, g8, g9, g10, g11, g12, g13, g14, g15, g16, g17, g18, g19, g20, g21, g22, g23, g24, g25, g26, g27, g28]))] := hD
  refine lv_if_ne (tgt := 39) hx hb dX8_cut_33 (by decide) (fun c => absurd (by decide) c) (fun c => ?_)
  refine lv_bipush (v := (-2)) hx hb dX8_cut_36 (by decide) ?_
  exact kr_i () hx hb hr hlocks (hP.sub [] rfl) (hD.sub [] (by decide) rfl) hS rfl dX8_cut_38
set_option maxHeartbeats 4000000 in
set_option maxRecDepth 100000 in
theorem K186_X7_cut (l : Launch) (D : va_G) (cB cI cZ : ClassId) (sz : Nat) (h0 : Nat)  (p0 : Int32) (p1 : Int32) (g0 : Value) (g1 : Value) (g2 : Value) (g3 : Value) (g4 : Value) (g5 : Value) (g6 : Value) (g7 : Value) (i_p0 : 0 ≤ p0.toInt ∧ p0.toInt ≤ 10000) (i_p1 : 64 ≤ p1.toInt) :
    CtI l D cB cI cZ yX7_cut wsX7_cut { frames := 0, cells := 0, slots := 0, locals := 0 } [.ref h0, .int p0, .int p1] [(h0, .inr (6, [g0, g1, g2, g3, g4, g5, g6, g7, .int 0]))] sz 0 0
      (fun (r : Int32) (u : Unit) => r = (-2))
      (fun u => []) := by
  refine mk_metI (cc := cX7_cut) (maxL := 3) (ret := (some .int)) (by decide) rfl (Nat.le_of_ble_eq_true rfl) ?_
  intro p e s m below meth c A hx hb hr hml hts hown hlocks hin hP hK hN hD hA hS ls hl
  have hown : s.vm.findClass RX7 = some m.cls := hown
  have hl : lv_has ls 3 [(0, .ref h0), (1, .int p0), (2, .int p1)] := hl
  refine lv_aload_n hx hb dX7_cut_0 rfl (lv_at hl 0 rfl) ?_
  refine va_get (D := D) (ci := 6) (v := .int 0) (C := RX7) (T := TX7) (N := 9) hx hb hts inX7_cut_X7 hown hK hP 0 rfl rfl 8 (by decide) (hts _ wdX7_cut_0) (fun _ h9 => h9) rfl dX7_cut_1 ?_
  refine lv_if_eq (tgt := 10) hx hb dX7_cut_4 (by decide) (fun c => ?_) (fun c => absurd (by decide) c)
  refine lv_iload_n hx hb dX7_cut_10 rfl (lv_at hl 1 rfl) ?_
  refine lv_if_lt (tgt := 31) hx hb dX7_cut_11 (by decide) (fun c => absurd ((ti_lt (x := p0) (y := 0) (a := p0.toInt) (b := 0) rfl (by decide)).mp c) (by omega)) (fun c => ?_)
  refine lv_iload_n hx hb dX7_cut_14 rfl (lv_at hl 1 rfl) ?_
  refine lv_sipush (v := 10000) hx hb dX7_cut_15 (by decide) ?_
  refine lv_icmp_gt (tgt := 31) hx hb dX7_cut_18 (by decide) (fun c => absurd ((ti_lt (x := 10000) (y := p0) (a := 10000) (b := p0.toInt) (by decide) rfl).mp c) (by omega)) (fun c => ?_)
  refine lv_iload_n hx hb dX7_cut_21 rfl (lv_at hl 2 rfl) ?_
  refine lv_if_lt (tgt := 31) hx hb dX7_cut_22 (by decide) (fun c => absurd ((ti_lt (x := p1) (y := 0) (a := p1.toInt) (b := 0) rfl (by decide)).mp c) (by omega)) (fun c => ?_)
  refine lv_iload_n hx hb dX7_cut_25 rfl (lv_at hl 2 rfl) ?_
  refine lv_bipush (v := 64) hx hb dX7_cut_26 (by decide) ?_
  refine lv_icmp_lt (tgt := 34) hx hb dX7_cut_28 (by decide) (fun c => absurd ((ti_lt (x := p1) (y := 64) (a := p1.toInt) (b := 64) rfl (by decide)).mp c) (by omega)) (fun c => ?_)
  refine lv_bipush (v := (-2)) hx hb dX7_cut_31 (by decide) ?_
  exact kr_i () hx hb hr hlocks (hP.sub [] rfl) (hD.sub [] (by decide) rfl) hS rfl dX7_cut_33
set_option maxHeartbeats 4000000 in
set_option maxRecDepth 100000 in
theorem K188_X8_in (l : Launch) (D : va_G) (cB cI cZ : ClassId) (sz : Nat)   (p0 : Int32) (i_p0 : 64 ≤ p0.toInt) :
    CtI l D cB cI cZ yX8_in wsX8_in { frames := 0, cells := 0, slots := 0, locals := 0 } [.int p0, .int 0, .int 63] [] sz 0 0
      (fun (r : Int32) (u : Unit) => r = 0)
      (fun u => []) := by
  refine mk_metI (cc := cX8_in) (maxL := 3) (ret := (some .boolean)) (by decide) rfl (Nat.le_of_ble_eq_true rfl) ?_
  intro p e s m below meth c A hx hb hr hml hts hown hlocks hin hP hK hN hD hA hS ls hl
  have hown : s.vm.findClass RX8 = some m.cls := hown
  have hl : lv_has ls 3 [(0, .int p0), (1, .int 0), (2, .int 63)] := hl
  refine lv_iload_n hx hb dX8_in_0 rfl (lv_at hl 0 rfl) ?_
  refine lv_iload_n hx hb dX8_in_1 rfl (lv_at hl 1 rfl) ?_
  refine lv_icmp_lt (tgt := 14) hx hb dX8_in_2 (by decide) (fun c => absurd ((ti_lt (x := p0) (y := 0) (a := p0.toInt) (b := 0) rfl (by decide)).mp c) (by omega)) (fun c => ?_)
  refine lv_iload_n hx hb dX8_in_5 rfl (lv_at hl 0 rfl) ?_
  refine lv_iload_n hx hb dX8_in_6 rfl (lv_at hl 2 rfl) ?_
  refine lv_icmp_gt (tgt := 14) hx hb dX8_in_7 (by decide) (fun c => ?_) (fun c => absurd ((ti_lt (x := 63) (y := p0) (a := 63) (b := p0.toInt) (by decide) rfl).mpr (by omega)) c)
  refine lv_iconst (v := 0) hx hb dX8_in_14 (by decide) ?_
  exact kr_z () hx hb hr rfl hlocks hP hD hS rfl dX8_in_15
set_option maxHeartbeats 4000000 in
set_option maxRecDepth 100000 in
theorem K187_X8_cut (l : Launch) (D : va_G) (cB cI cZ : ClassId) (sz : Nat) (h0 : Nat)  (p0 : Int32) (p1 : Int32) (g0 : Value) (g1 : Value) (g2 : Value) (g3 : Value) (g4 : Value) (g5 : Value) (g6 : Value) (g7 : Value) (g8 : Value) (g9 : Value) (g10 : Value) (g11 : Value) (g12 : Value) (g13 : Value) (g14 : Value) (g15 : Value) (g16 : Value) (g17 : Value) (g18 : Value) (g19 : Value) (g20 : Value) (g21 : Value) (g22 : Value) (g23 : Value) (g24 : Value) (g25 : Value) (g26 : Value) (g27 : Value) (g28 : Value) (i_p0 : 0 ≤ p0.toInt ∧ p0.toInt ≤ 10000) (i_p1 : 64 ≤ p1.toInt) :
    CtI l D cB cI cZ yX8_cut wsX8_cut { frames := 1, cells := 0, slots := 0, locals := 22 } [.ref h0, .int p0, .int p1] [(h0, .inr (7, [g0, .int 0, g1, g2, g3, g4, g5, g6, g7, g8, g9, g10, g11, g12, g13, g14, g15, g16, g17, g18, g19, g20, g21, g22, g23, g24, g25, g26, g27, g28]))] sz 0 0
      (fun (r : Int32) (u : Unit) => r = (-2))
      (fun u => []) := by
  refine mk_metI (cc := cX8_cut) (maxL := 3) (ret := (some .int)) (by decide) rfl (Nat.le_of_ble_eq_true rfl) ?_
  intro p e s m below meth c A hx hb hr hml hts hown hlocks hin hP hK hN hD hA hS ls hl
  have hown : s.vm.findClass RX8 = some m.cls := hown
  have hl : lv_has ls 3 [(0, .ref h0), (1, .int p0), (2, .int p1)] := hl
  refine lv_aload_n hx hb dX8_cut_0 rfl (lv_at hl 0 rfl) ?_
  refine lv_iconst (v := 0) hx hb dX8_cut_1 (by decide) ?_
  refine va_put (D := D) (ci := 7) (v := .int 0) (ty := .int) (C := RX8) (T := TX8) (N := 30) hx hb hts inX8_cut_X8 tyX8 tyX8_ok nmX8 hown hK hP hD hS 0 rfl rfl 0 (by decide) (hts _ wdX8_cut_0) (fun _ h9 => h9) rfl (by decide +kernel) rfl rfl (Nat.le_of_ble_eq_true rfl) dX8_cut_2 (fun H locs hP hD hS => ?_)
  have hP : va_P D vwCl [(h0, .inr (7, [.int 0, .int 0, g1, g2, g3, g4, g5, g6, g7, g8, g9, g10, g11, g12, g13, g14, g15, g16, g17, g18, g19, g20, g21, g22, g23, g24, g25, g26, g27, g28]))] H := hP
  have hD : va_D A [(h0, .inr (7, [.int 0, .int 0, g1, g2, g3, g4, g5, g6, g7, g8, g9, g10, g11, g12, g13, g14, g15, g16, g17, g18, g19, g20, g21, g22, g23, g24, g25, g26, g27, g28]))] := hD
  refine lv_aload_n hx hb dX8_cut_5 rfl (lv_at hl 0 rfl) ?_
  refine va_get (D := D) (ci := 7) (v := .int 0) (C := RX8) (T := TX8) (N := 30) hx hb hts inX8_cut_X8 hown hK hP 0 rfl rfl 1 (by decide) (hts _ wdX8_cut_1) (fun _ h9 => h9) rfl dX8_cut_6 ?_
  refine lv_if_eq (tgt := 15) hx hb dX8_cut_9 (by decide) (fun c => ?_) (fun c => absurd (by decide) c)
  refine lv_iload_n hx hb dX8_cut_15 rfl (lv_at hl 1 rfl) ?_
  refine lv_iconst (v := 0) hx hb dX8_cut_16 (by decide) ?_
  refine lv_sipush (v := 10000) hx hb dX8_cut_17 (by decide) ?_
  refine kc_i (wr := [(h0, .inr (7, [.int 0, .int 0, g1, g2, g3, g4, g5, g6, g7, g8, g9, g10, g11, g12, g13, g14, g15, g16, g17, g18, g19, g20, g21, g22, g23, g24, g25, g26, g27, g28]))]) (va_runS (As := [.int p0, .int 0, .int 10000]) (rest := []) ⟨hx, hb, hml, hown, hts⟩ (K184_X8_in l D cB cI cZ _ p0 ⟨by omega, by omega⟩) (va_cwS 3 hts gX8_cut_X8_in rfl rfl rfl (by decide +kernel) ⟨Nat.le_of_ble_eq_true rfl, Nat.le_of_ble_eq_true rfl⟩) (pre_S (hP.sub [] rfl) hK hN (hD.sub [] (by decide) rfl)) rfl rfl hl.1 rfl (lv_room (Nat.le_of_ble_eq_true rfl)) dX8_cut_20 ⟨Nat.le_of_ble_eq_true rfl, Nat.le_of_ble_eq_true rfl⟩) hP hD hS hA [] [0] rfl rfl (by decide) (by decide) (fun r_1 u H locs hw hP hD hS => ?_)
  have k_2 := hw
  obtain rfl : r_1 = 1 := k_2
  have hP : va_P D vwCl [(h0, .inr (7, [.int 0, .int 0, g1, g2, g3, g4, g5, g6, g7, g8, g9, g10, g11, g12, g13, g14, g15, g16, g17, g18, g19, g20, g21, g22, g23, g24, g25, g26, g27, g28]))] H := hP
  have hD : va_D A [(h0, .inr (7, [.int 0, .int 0, g1, g2, g3, g4, g5, g6, g7, g8, g9, g10, g11, g12, g13, g14, g15, g16, g17, g18, g19, g20, g21, g22, g23, g24, g25, g26, g27, g28]))] := hD
  refine lv_if_eq (tgt := 36) hx hb dX8_cut_23 (by decide) (fun c => absurd c (by decide)) (fun c => ?_)
  refine lv_iload_n hx hb dX8_cut_26 rfl (lv_at hl 2 rfl) ?_
  refine lv_iconst (v := 0) hx hb dX8_cut_27 (by decide) ?_
  refine lv_bipush (v := 63) hx hb dX8_cut_28 (by decide) ?_
  refine kc_i (wr := [(h0, .inr (7, [.int 0, .int 0, g1, g2, g3, g4, g5, g6, g7, g8, g9, g10, g11, g12, g13, g14, g15, g16, g17, g18, g19, g20, g21, g22, g23, g24, g25, g26, g27, g28]))]) (va_runS (As := [.int p1, .int 0, .int 63]) (rest := []) ⟨hx, hb, hml, hown, hts⟩ (K188_X8_in l D cB cI cZ _ p1 (by omega)) (va_cwS 3 hts gX8_cut_X8_in rfl rfl rfl (by decide +kernel) ⟨Nat.le_of_ble_eq_true rfl, Nat.le_of_ble_eq_true rfl⟩) (pre_S (hP.sub [] rfl) hK hN (hD.sub [] (by decide) rfl)) rfl rfl hl.1 rfl (lv_room (Nat.le_of_ble_eq_true rfl)) dX8_cut_30 ⟨Nat.le_of_ble_eq_true rfl, Nat.le_of_ble_eq_true rfl⟩) hP hD hS hA [] [0] rfl rfl (by decide) (by decide) (fun r_3 u H locs hw hP hD hS => ?_)
  have k_4 := hw
  obtain rfl : r_3 = 0 := k_4
  have hP : va_P D vwCl [(h0, .inr (7, [.int 0, .int 0, g1, g2, g3, g4, g5, g6, g7, g8, g9, g10, g11, g12, g13, g14, g15, g16, g17, g18, g19, g20, g21, g22, g23, g24, g25, g26, g27, g28]))] H := hP
  have hD : va_D A [(h0, .inr (7, [.int 0, .int 0, g1, g2, g3, g4, g5, g6, g7, g8, g9, g10, g11, g12, g13, g14, g15, g16, g17, g18, g19, g20, g21, g22, g23, g24, g25, g26, g27, g28]))] := hD
  refine lv_if_ne (tgt := 39) hx hb dX8_cut_33 (by decide) (fun c => absurd (by decide) c) (fun c => ?_)
  refine lv_bipush (v := (-2)) hx hb dX8_cut_36 (by decide) ?_
  exact kr_i () hx hb hr hlocks (hP.sub [] rfl) (hD.sub [] (by decide) rfl) hS rfl dX8_cut_38
set_option maxHeartbeats 4000000 in
set_option maxRecDepth 100000 in
theorem K190_X1_cutAt (l : Launch) (D : va_G) (cB cI cZ : ClassId) (sz : Nat) (h0 : Nat)  (p0 : Int32) (p1 : Int32) (g0 : Value) (g1 : Value) (g2 : Value) (g3 : Value) (g4 : Value) (i_p0 : 0 ≤ p0.toInt ∧ p0.toInt ≤ 10000) (i_p1 : 0 ≤ p1.toInt ∧ p1.toInt ≤ 63) :
    CtV l D cB cI cZ yX1_cutAt wsX1_cutAt { frames := 0, cells := 0, slots := 0, locals := 0 } [.ref h0, .int p0, .int p1] [(h0, .inr (1, [g0, g1, g2, g3, g4]))] sz 0 0
      (fun (u : Unit) => True)
      (fun u => [(h0, .inr (1, [g0, g1, g2, .int p0, .int p1]))]) := by
  refine mk_metV (cc := cX1_cutAt) (maxL := 3) (ret := none) (by decide) rfl (Nat.le_of_ble_eq_true rfl) ?_
  intro p e s m below meth c A hx hb hr hml hts hown hlocks hin hP hK hN hD hA hS ls hl
  have hown : s.vm.findClass RX1 = some m.cls := hown
  have hl : lv_has ls 3 [(0, .ref h0), (1, .int p0), (2, .int p1)] := hl
  refine lv_aload_n hx hb dX1_cutAt_0 rfl (lv_at hl 0 rfl) ?_
  refine lv_iload_n hx hb dX1_cutAt_1 rfl (lv_at hl 1 rfl) ?_
  refine va_put (D := D) (ci := 1) (v := .int p0) (ty := .int) (C := RX1) (T := TX1) (N := 5) hx hb hts inX1_cutAt_X1 tyX1 tyX1_ok nmX1 hown hK hP hD hS 0 rfl rfl 3 (by decide) (hts _ wdX1_cutAt_0) (fun _ h9 => h9) rfl (by decide +kernel) rfl rfl (Nat.le_of_ble_eq_true rfl) dX1_cutAt_2 (fun H locs hP hD hS => ?_)
  have hP : va_P D vwCl [(h0, .inr (1, [g0, g1, g2, .int p0, g4]))] H := hP
  have hD : va_D A [(h0, .inr (1, [g0, g1, g2, .int p0, g4]))] := hD
  refine lv_aload_n hx hb dX1_cutAt_5 rfl (lv_at hl 0 rfl) ?_
  refine lv_iload_n hx hb dX1_cutAt_6 rfl (lv_at hl 2 rfl) ?_
  refine va_put (D := D) (ci := 1) (v := .int p1) (ty := .int) (C := RX1) (T := TX1) (N := 5) hx hb hts inX1_cutAt_X1 tyX1 tyX1_ok nmX1 hown hK hP hD hS 0 rfl rfl 4 (by decide) (hts _ wdX1_cutAt_1) (fun _ h9 => h9) rfl (by decide +kernel) rfl rfl (Nat.le_of_ble_eq_true rfl) dX1_cutAt_7 (fun H locs hP hD hS => ?_)
  have hP : va_P D vwCl [(h0, .inr (1, [g0, g1, g2, .int p0, .int p1]))] H := hP
  have hD : va_D A [(h0, .inr (1, [g0, g1, g2, .int p0, .int p1]))] := hD
  exact kr_v () hx hb hr hlocks hP hD hS trivial dX1_cutAt_10
set_option maxHeartbeats 4000000 in
set_option maxRecDepth 100000 in
theorem K189_X7_cut (l : Launch) (D : va_G) (cB cI cZ : ClassId) (sz : Nat) (h0 : Nat) (h1 : Nat)  (p0 : Int32) (p1 : Int32) (g0 : Value) (g1 : Value) (g2 : Value) (g3 : Value) (g4 : Value) (g5 : Value) (g6 : Value) (g7 : Value) (g8 : Value) (g9 : Value) (g10 : Value) (g11 : Value) (i_p0 : 0 ≤ p0.toInt ∧ p0.toInt ≤ 10000) (i_p1 : 0 ≤ p1.toInt ∧ p1.toInt ≤ 63) :
    CtI l D cB cI cZ yX7_cut wsX7_cut { frames := 1, cells := 0, slots := 0, locals := 22 } [.ref h0, .int p0, .int p1] [(h0, .inr (6, [.ref h1, g0, g1, g2, g3, g4, g5, g6, .int 0])), (h1, .inr (1, [g7, g8, g9, g10, g11]))] sz 0 0
      (fun (r : Int32) (u : Unit) => r = 1)
      (fun u => []) := by
  refine mk_metI (cc := cX7_cut) (maxL := 3) (ret := (some .int)) (by decide) rfl (Nat.le_of_ble_eq_true rfl) ?_
  intro p e s m below meth c A hx hb hr hml hts hown hlocks hin hP hK hN hD hA hS ls hl
  have hown : s.vm.findClass RX7 = some m.cls := hown
  have hl : lv_has ls 3 [(0, .ref h0), (1, .int p0), (2, .int p1)] := hl
  refine lv_aload_n hx hb dX7_cut_0 rfl (lv_at hl 0 rfl) ?_
  refine va_get (D := D) (ci := 6) (v := .int 0) (C := RX7) (T := TX7) (N := 9) hx hb hts inX7_cut_X7 hown hK hP 0 rfl rfl 8 (by decide) (hts _ wdX7_cut_0) (fun _ h9 => h9) rfl dX7_cut_1 ?_
  refine lv_if_eq (tgt := 10) hx hb dX7_cut_4 (by decide) (fun c => ?_) (fun c => absurd (by decide) c)
  refine lv_iload_n hx hb dX7_cut_10 rfl (lv_at hl 1 rfl) ?_
  refine lv_if_lt (tgt := 31) hx hb dX7_cut_11 (by decide) (fun c => absurd ((ti_lt (x := p0) (y := 0) (a := p0.toInt) (b := 0) rfl (by decide)).mp c) (by omega)) (fun c => ?_)
  refine lv_iload_n hx hb dX7_cut_14 rfl (lv_at hl 1 rfl) ?_
  refine lv_sipush (v := 10000) hx hb dX7_cut_15 (by decide) ?_
  refine lv_icmp_gt (tgt := 31) hx hb dX7_cut_18 (by decide) (fun c => absurd ((ti_lt (x := 10000) (y := p0) (a := 10000) (b := p0.toInt) (by decide) rfl).mp c) (by omega)) (fun c => ?_)
  refine lv_iload_n hx hb dX7_cut_21 rfl (lv_at hl 2 rfl) ?_
  refine lv_if_lt (tgt := 31) hx hb dX7_cut_22 (by decide) (fun c => absurd ((ti_lt (x := p1) (y := 0) (a := p1.toInt) (b := 0) rfl (by decide)).mp c) (by omega)) (fun c => ?_)
  refine lv_iload_n hx hb dX7_cut_25 rfl (lv_at hl 2 rfl) ?_
  refine lv_bipush (v := 64) hx hb dX7_cut_26 (by decide) ?_
  refine lv_icmp_lt (tgt := 34) hx hb dX7_cut_28 (by decide) (fun c => ?_) (fun c => absurd ((ti_lt (x := p1) (y := 64) (a := p1.toInt) (b := 64) rfl (by decide)).mpr (by omega)) c)
  refine lv_aload_n hx hb dX7_cut_34 rfl (lv_at hl 0 rfl) ?_
  refine va_get (D := D) (ci := 6) (v := .ref h1) (C := RX7) (T := TX7) (N := 9) hx hb hts inX7_cut_X7 hown hK hP 0 rfl rfl 0 (by decide) (hts _ wdX7_cut_1) (fun _ h9 => h9) rfl dX7_cut_35 ?_
  refine lv_iload_n hx hb dX7_cut_38 rfl (lv_at hl 1 rfl) ?_
  refine lv_iload_n hx hb dX7_cut_39 rfl (lv_at hl 2 rfl) ?_
  refine kc_v (wr := [(h0, .inr (6, [.ref h1, g0, g1, g2, g3, g4, g5, g6, .int 0]))]) (va_runV (As := [.int p0, .int p1]) (rest := []) ⟨hx, hb, hml, hown, hts⟩ (K190_X1_cutAt l D cB cI cZ _ h1 p0 p1 (g7) (g8) (g9) (g10) (g11) ⟨by omega, by omega⟩ ⟨by omega, by omega⟩) (cwV 2 hts gX7_cut_X1_cutAt rfl rfl rfl (by decide +kernel) ⟨Nat.le_of_ble_eq_true rfl, Nat.le_of_ble_eq_true rfl⟩) (pre_V (q := (RX1, TX1, 5)) (ci := 1) (q0 := 0) (hP.sub [1] rfl) hK hN (hD.sub [1] (by decide) rfl) rfl rfl) rfl rfl hl.1 rfl (lv_room (Nat.le_of_ble_eq_true rfl)) dX7_cut_40 ⟨Nat.le_of_ble_eq_true rfl, Nat.le_of_ble_eq_true rfl⟩) hP hD hS hA [1] [0] rfl rfl (by decide) (by decide) (fun  u H locs hw hP hD hS => ?_)
  have hP : va_P D vwCl [(h0, .inr (6, [.ref h1, g0, g1, g2, g3, g4, g5, g6, .int 0])), (h1, .inr (1, [g7, g8, g9, .int p0, .int p1]))] H := hP
  have hD : va_D A [(h0, .inr (6, [.ref h1, g0, g1, g2, g3, g4, g5, g6, .int 0])), (h1, .inr (1, [g7, g8, g9, .int p0, .int p1]))] := hD
  refine lv_iconst (v := 1) hx hb dX7_cut_43 (by decide) ?_
  exact kr_i () hx hb hr hlocks (hP.sub [] rfl) (hD.sub [] (by decide) rfl) hS rfl dX7_cut_44
set_option maxHeartbeats 4000000 in
set_option maxRecDepth 100000 in
theorem K192_X8_in (l : Launch) (D : va_G) (cB cI cZ : ClassId) (sz : Nat)   (p0 : Int32) (i_p0 : 0 ≤ p0.toInt ∧ p0.toInt ≤ 63) :
    CtI l D cB cI cZ yX8_in wsX8_in { frames := 0, cells := 0, slots := 0, locals := 0 } [.int p0, .int 0, .int 63] [] sz 0 0
      (fun (r : Int32) (u : Unit) => r = 1)
      (fun u => []) := by
  refine mk_metI (cc := cX8_in) (maxL := 3) (ret := (some .boolean)) (by decide) rfl (Nat.le_of_ble_eq_true rfl) ?_
  intro p e s m below meth c A hx hb hr hml hts hown hlocks hin hP hK hN hD hA hS ls hl
  have hown : s.vm.findClass RX8 = some m.cls := hown
  have hl : lv_has ls 3 [(0, .int p0), (1, .int 0), (2, .int 63)] := hl
  refine lv_iload_n hx hb dX8_in_0 rfl (lv_at hl 0 rfl) ?_
  refine lv_iload_n hx hb dX8_in_1 rfl (lv_at hl 1 rfl) ?_
  refine lv_icmp_lt (tgt := 14) hx hb dX8_in_2 (by decide) (fun c => absurd ((ti_lt (x := p0) (y := 0) (a := p0.toInt) (b := 0) rfl (by decide)).mp c) (by omega)) (fun c => ?_)
  refine lv_iload_n hx hb dX8_in_5 rfl (lv_at hl 0 rfl) ?_
  refine lv_iload_n hx hb dX8_in_6 rfl (lv_at hl 2 rfl) ?_
  refine lv_icmp_gt (tgt := 14) hx hb dX8_in_7 (by decide) (fun c => absurd ((ti_lt (x := 63) (y := p0) (a := 63) (b := p0.toInt) (by decide) rfl).mp c) (by omega)) (fun c => ?_)
  refine lv_iconst (v := 1) hx hb dX8_in_10 (by decide) ?_
  refine lv_goto (tgt := 15) hx hb dX8_in_11 (by decide) ?_
  exact kr_z () hx hb hr rfl hlocks hP hD hS rfl dX8_in_15
set_option maxHeartbeats 4000000 in
set_option maxRecDepth 100000 in
theorem K191_X8_cut (l : Launch) (D : va_G) (cB cI cZ : ClassId) (sz : Nat) (h0 : Nat)  (p0 : Int32) (p1 : Int32) (g0 : Value) (g1 : Value) (g2 : Value) (g3 : Value) (g4 : Value) (g5 : Value) (g6 : Value) (g7 : Value) (g8 : Value) (g9 : Value) (g10 : Value) (g11 : Value) (g12 : Value) (g13 : Value) (g14 : Value) (g15 : Value) (g16 : Value) (g17 : Value) (g18 : Value) (g19 : Value) (g20 : Value) (g21 : Value) (g22 : Value) (g23 : Value) (g24 : Value) (g25 : Value) (g26 : Value) (g27 : Value) (g28 : Value) (i_p0 : 0 ≤ p0.toInt ∧ p0.toInt ≤ 10000) (i_p1 : 0 ≤ p1.toInt ∧ p1.toInt ≤ 63) :
    CtI l D cB cI cZ yX8_cut wsX8_cut { frames := 1, cells := 0, slots := 0, locals := 22 } [.ref h0, .int p0, .int p1] [(h0, .inr (7, [g0, .int 0, g1, g2, g3, g4, g5, g6, g7, g8, g9, g10, g11, g12, g13, g14, g15, g16, g17, g18, g19, g20, g21, g22, g23, g24, g25, g26, g27, g28]))] sz 0 0
      (fun (r : Int32) (u : Unit) => r = 1)
      (fun u => []) := by
  refine mk_metI (cc := cX8_cut) (maxL := 3) (ret := (some .int)) (by decide) rfl (Nat.le_of_ble_eq_true rfl) ?_
  intro p e s m below meth c A hx hb hr hml hts hown hlocks hin hP hK hN hD hA hS ls hl
  have hown : s.vm.findClass RX8 = some m.cls := hown
  have hl : lv_has ls 3 [(0, .ref h0), (1, .int p0), (2, .int p1)] := hl
  refine lv_aload_n hx hb dX8_cut_0 rfl (lv_at hl 0 rfl) ?_
  refine lv_iconst (v := 0) hx hb dX8_cut_1 (by decide) ?_
  refine va_put (D := D) (ci := 7) (v := .int 0) (ty := .int) (C := RX8) (T := TX8) (N := 30) hx hb hts inX8_cut_X8 tyX8 tyX8_ok nmX8 hown hK hP hD hS 0 rfl rfl 0 (by decide) (hts _ wdX8_cut_0) (fun _ h9 => h9) rfl (by decide +kernel) rfl rfl (Nat.le_of_ble_eq_true rfl) dX8_cut_2 (fun H locs hP hD hS => ?_)
  have hP : va_P D vwCl [(h0, .inr (7, [.int 0, .int 0, g1, g2, g3, g4, g5, g6, g7, g8, g9, g10, g11, g12, g13, g14, g15, g16, g17, g18, g19, g20, g21, g22, g23, g24, g25, g26, g27, g28]))] H := hP
  have hD : va_D A [(h0, .inr (7, [.int 0, .int 0, g1, g2, g3, g4, g5, g6, g7, g8, g9, g10, g11, g12, g13, g14, g15, g16, g17, g18, g19, g20, g21, g22, g23, g24, g25, g26, g27, g28]))] := hD
  refine lv_aload_n hx hb dX8_cut_5 rfl (lv_at hl 0 rfl) ?_
  refine va_get (D := D) (ci := 7) (v := .int 0) (C := RX8) (T := TX8) (N := 30) hx hb hts inX8_cut_X8 hown hK hP 0 rfl rfl 1 (by decide) (hts _ wdX8_cut_1) (fun _ h9 => h9) rfl dX8_cut_6 ?_
  refine lv_if_eq (tgt := 15) hx hb dX8_cut_9 (by decide) (fun c => ?_) (fun c => absurd (by decide) c)
  refine lv_iload_n hx hb dX8_cut_15 rfl (lv_at hl 1 rfl) ?_
  refine lv_iconst (v := 0) hx hb dX8_cut_16 (by decide) ?_
  refine lv_sipush (v := 10000) hx hb dX8_cut_17 (by decide) ?_
  refine kc_i (wr := [(h0, .inr (7, [.int 0, .int 0, g1, g2, g3, g4, g5, g6, g7, g8, g9, g10, g11, g12, g13, g14, g15, g16, g17, g18, g19, g20, g21, g22, g23, g24, g25, g26, g27, g28]))]) (va_runS (As := [.int p0, .int 0, .int 10000]) (rest := []) ⟨hx, hb, hml, hown, hts⟩ (K184_X8_in l D cB cI cZ _ p0 ⟨by omega, by omega⟩) (va_cwS 3 hts gX8_cut_X8_in rfl rfl rfl (by decide +kernel) ⟨Nat.le_of_ble_eq_true rfl, Nat.le_of_ble_eq_true rfl⟩) (pre_S (hP.sub [] rfl) hK hN (hD.sub [] (by decide) rfl)) rfl rfl hl.1 rfl (lv_room (Nat.le_of_ble_eq_true rfl)) dX8_cut_20 ⟨Nat.le_of_ble_eq_true rfl, Nat.le_of_ble_eq_true rfl⟩) hP hD hS hA [] [0] rfl rfl (by decide) (by decide) (fun r_1 u H locs hw hP hD hS => ?_)
  have k_2 := hw
  obtain rfl : r_1 = 1 := k_2
  have hP : va_P D vwCl [(h0, .inr (7, [.int 0, .int 0, g1, g2, g3, g4, g5, g6, g7, g8, g9, g10, g11, g12, g13, g14, g15, g16, g17, g18, g19, g20, g21, g22, g23, g24, g25, g26, g27, g28]))] H := hP
  have hD : va_D A [(h0, .inr (7, [.int 0, .int 0, g1, g2, g3, g4, g5, g6, g7, g8, g9, g10, g11, g12, g13, g14, g15, g16, g17, g18, g19, g20, g21, g22, g23, g24, g25, g26, g27, g28]))] := hD
  refine lv_if_eq (tgt := 36) hx hb dX8_cut_23 (by decide) (fun c => absurd c (by decide)) (fun c => ?_)
  refine lv_iload_n hx hb dX8_cut_26 rfl (lv_at hl 2 rfl) ?_
  refine lv_iconst (v := 0) hx hb dX8_cut_27 (by decide) ?_
  refine lv_bipush (v := 63) hx hb dX8_cut_28 (by decide) ?_
  refine kc_i (wr := [(h0, .inr (7, [.int 0, .int 0, g1, g2, g3, g4, g5, g6, g7, g8, g9, g10, g11, g12, g13, g14, g15, g16, g17, g18, g19, g20, g21, g22, g23, g24, g25, g26, g27, g28]))]) (va_runS (As := [.int p1, .int 0, .int 63]) (rest := []) ⟨hx, hb, hml, hown, hts⟩ (K192_X8_in l D cB cI cZ _ p1 ⟨by omega, by omega⟩) (va_cwS 3 hts gX8_cut_X8_in rfl rfl rfl (by decide +kernel) ⟨Nat.le_of_ble_eq_true rfl, Nat.le_of_ble_eq_true rfl⟩) (pre_S (hP.sub [] rfl) hK hN (hD.sub [] (by decide) rfl)) rfl rfl hl.1 rfl (lv_room (Nat.le_of_ble_eq_true rfl)) dX8_cut_30 ⟨Nat.le_of_ble_eq_true rfl, Nat.le_of_ble_eq_true rfl⟩) hP hD hS hA [] [0] rfl rfl (by decide) (by decide) (fun r_3 u H locs hw hP hD hS => ?_)
  have k_4 := hw
  obtain rfl : r_3 = 1 := k_4
  have hP : va_P D vwCl [(h0, .inr (7, [.int 0, .int 0, g1, g2, g3, g4, g5, g6, g7, g8, g9, g10, g11, g12, g13, g14, g15, g16, g17, g18, g19, g20, g21, g22, g23, g24, g25, g26, g27, g28]))] H := hP
  have hD : va_D A [(h0, .inr (7, [.int 0, .int 0, g1, g2, g3, g4, g5, g6, g7, g8, g9, g10, g11, g12, g13, g14, g15, g16, g17, g18, g19, g20, g21, g22, g23, g24, g25, g26, g27, g28]))] := hD
  refine lv_if_ne (tgt := 39) hx hb dX8_cut_33 (by decide) (fun c => ?_) (fun c => absurd c (by decide))
  refine lv_aload_n hx hb dX8_cut_39 rfl (lv_at hl 0 rfl) ?_
  refine lv_iload_n hx hb dX8_cut_40 rfl (lv_at hl 1 rfl) ?_
  refine va_put (D := D) (ci := 7) (v := .int p0) (ty := .int) (C := RX8) (T := TX8) (N := 30) hx hb hts inX8_cut_X8 tyX8 tyX8_ok nmX8 hown hK hP hD hS 0 rfl rfl 14 (by decide) (hts _ wdX8_cut_2) (fun _ h9 => h9) rfl (by decide +kernel) rfl rfl (Nat.le_of_ble_eq_true rfl) dX8_cut_41 (fun H locs hP hD hS => ?_)
  have hP : va_P D vwCl [(h0, .inr (7, [.int 0, .int 0, g1, g2, g3, g4, g5, g6, g7, g8, g9, g10, g11, g12, .int p0, g14, g15, g16, g17, g18, g19, g20, g21, g22, g23, g24, g25, g26, g27, g28]))] H := hP
  have hD : va_D A [(h0, .inr (7, [.int 0, .int 0, g1, g2, g3, g4, g5, g6, g7, g8, g9, g10, g11, g12, .int p0, g14, g15, g16, g17, g18, g19, g20, g21, g22, g23, g24, g25, g26, g27, g28]))] := hD
  refine lv_aload_n hx hb dX8_cut_44 rfl (lv_at hl 0 rfl) ?_
  refine lv_iload_n hx hb dX8_cut_45 rfl (lv_at hl 2 rfl) ?_
  refine va_put (D := D) (ci := 7) (v := .int p1) (ty := .int) (C := RX8) (T := TX8) (N := 30) hx hb hts inX8_cut_X8 tyX8 tyX8_ok nmX8 hown hK hP hD hS 0 rfl rfl 15 (by decide) (hts _ wdX8_cut_3) (fun _ h9 => h9) rfl (by decide +kernel) rfl rfl (Nat.le_of_ble_eq_true rfl) dX8_cut_46 (fun H locs hP hD hS => ?_)
  have hP : va_P D vwCl [(h0, .inr (7, [.int 0, .int 0, g1, g2, g3, g4, g5, g6, g7, g8, g9, g10, g11, g12, .int p0, .int p1, g15, g16, g17, g18, g19, g20, g21, g22, g23, g24, g25, g26, g27, g28]))] H := hP
  have hD : va_D A [(h0, .inr (7, [.int 0, .int 0, g1, g2, g3, g4, g5, g6, g7, g8, g9, g10, g11, g12, .int p0, .int p1, g15, g16, g17, g18, g19, g20, g21, g22, g23, g24, g25, g26, g27, g28]))] := hD
  refine lv_iconst (v := 1) hx hb dX8_cut_49 (by decide) ?_
  exact kr_i () hx hb hr hlocks (hP.sub [] rfl) (hD.sub [] (by decide) rfl) hS rfl dX8_cut_50
set_option maxHeartbeats 4000000 in
set_option maxRecDepth 100000 in
theorem K194_X1_cutAt (l : Launch) (D : va_G) (cB cI cZ : ClassId) (sz : Nat) (h0 : Nat)  (g0 : Value) (g1 : Value) (g2 : Value) (g3 : Value) (g4 : Value)  :
    CtV l D cB cI cZ yX1_cutAt wsX1_cutAt { frames := 0, cells := 0, slots := 0, locals := 0 } [.ref h0, .int 0, .int 0] [(h0, .inr (1, [g0, g1, g2, g3, g4]))] sz 0 0
      (fun (u : Unit) => True)
      (fun u => [(h0, .inr (1, [g0, g1, g2, .int 0, .int 0]))]) := by
  refine mk_metV (cc := cX1_cutAt) (maxL := 3) (ret := none) (by decide) rfl (Nat.le_of_ble_eq_true rfl) ?_
  intro p e s m below meth c A hx hb hr hml hts hown hlocks hin hP hK hN hD hA hS ls hl
  have hown : s.vm.findClass RX1 = some m.cls := hown
  have hl : lv_has ls 3 [(0, .ref h0), (1, .int 0), (2, .int 0)] := hl
  refine lv_aload_n hx hb dX1_cutAt_0 rfl (lv_at hl 0 rfl) ?_
  refine lv_iload_n hx hb dX1_cutAt_1 rfl (lv_at hl 1 rfl) ?_
  refine va_put (D := D) (ci := 1) (v := .int 0) (ty := .int) (C := RX1) (T := TX1) (N := 5) hx hb hts inX1_cutAt_X1 tyX1 tyX1_ok nmX1 hown hK hP hD hS 0 rfl rfl 3 (by decide) (hts _ wdX1_cutAt_0) (fun _ h9 => h9) rfl (by decide +kernel) rfl rfl (Nat.le_of_ble_eq_true rfl) dX1_cutAt_2 (fun H locs hP hD hS => ?_)
  have hP : va_P D vwCl [(h0, .inr (1, [g0, g1, g2, .int 0, g4]))] H := hP
  have hD : va_D A [(h0, .inr (1, [g0, g1, g2, .int 0, g4]))] := hD
  refine lv_aload_n hx hb dX1_cutAt_5 rfl (lv_at hl 0 rfl) ?_
  refine lv_iload_n hx hb dX1_cutAt_6 rfl (lv_at hl 2 rfl) ?_
  refine va_put (D := D) (ci := 1) (v := .int 0) (ty := .int) (C := RX1) (T := TX1) (N := 5) hx hb hts inX1_cutAt_X1 tyX1 tyX1_ok nmX1 hown hK hP hD hS 0 rfl rfl 4 (by decide) (hts _ wdX1_cutAt_1) (fun _ h9 => h9) rfl (by decide +kernel) rfl rfl (Nat.le_of_ble_eq_true rfl) dX1_cutAt_7 (fun H locs hP hD hS => ?_)
  have hP : va_P D vwCl [(h0, .inr (1, [g0, g1, g2, .int 0, .int 0]))] H := hP
  have hD : va_D A [(h0, .inr (1, [g0, g1, g2, .int 0, .int 0]))] := hD
  exact kr_v () hx hb hr hlocks hP hD hS trivial dX1_cutAt_10
set_option maxHeartbeats 4000000 in
set_option maxRecDepth 100000 in
theorem K196_X3_setAsAtFirst (l : Launch) (D : va_G) (cB cI cZ : ClassId) (sz : Nat) (h0 : Nat) (h1 : Nat)  (g0 : Value) (g1 : Value) (g2 : Value) (g3 : Value) (g4 : Value) (g5 : Value) (g6 : Value) (g7 : Value) (g8 : Value) (g9 : Value) (g10 : Value) (g11 : Value) (g12 : Value)  :
    CtV l D cB cI cZ yX3_setAsAtFirst wsX3_setAsAtFirst { frames := 1, cells := 0, slots := 0, locals := 23 } [.ref h0] [(h0, .inr (3, [g0, g1, .ref h1, g2, g3, g4, g5, g6, g7, g8, g9, g10, g11, g12])), (h1, .inl (cI, 64, .inl zf))] sz 0 0
      (fun (u : Unit) => True)
      (fun u => [(h0, .inr (3, [g0, g1, .ref h1, g2, g3, g4, g5, g6, .int 0, .int 0, .int 0, .int 0, .int 1, .int 0])), (h1, .inl (cI, 64, .inl zf))]) := by
  refine mk_metV (cc := cX3_setAsAtFirst) (maxL := 1) (ret := none) (by decide) rfl (Nat.le_of_ble_eq_true rfl) ?_
  intro p e s m below meth c A hx hb hr hml hts hown hlocks hin hP hK hN hD hA hS ls hl
  have hown : s.vm.findClass RX3 = some m.cls := hown
  have hl : lv_has ls 1 [(0, .ref h0)] := hl
  refine lv_aload_n hx hb dX3_setAsAtFirst_0 rfl (lv_at hl 0 rfl) ?_
  refine va_get (D := D) (ci := 3) (v := .ref h1) (C := RX3) (T := TX3) (N := 14) hx hb hts inX3_setAsAtFirst_X3 hown hK hP 0 rfl rfl 2 (by decide) (hts _ wdX3_setAsAtFirst_0) (fun _ h9 => h9) rfl dX3_setAsAtFirst_1 ?_
  refine lv_iconst (v := 0) hx hb dX3_setAsAtFirst_4 (by decide) ?_
  refine kc_v (wr := [(h0, .inr (3, [g0, g1, .ref h1, g2, g3, g4, g5, g6, g7, g8, g9, g10, g11, g12]))]) (va_runS (As := [.ref h1, .int 0]) (rest := []) ⟨hx, hb, hml, hown, hts⟩ (K156_J7_fill_53178 l D cB cI cZ _ h1) (va_cwS 2 hts gX3_setAsAtFirst_J7_fill_53178 rfl rfl rfl (by decide +kernel) ⟨Nat.le_of_ble_eq_true rfl, Nat.le_of_ble_eq_true rfl⟩) (pre_S (hP.sub [1] rfl) hK hN (hD.sub [1] (by decide) rfl)) rfl rfl hl.1 rfl (lv_room (Nat.le_of_ble_eq_true rfl)) dX3_setAsAtFirst_5 ⟨Nat.le_of_ble_eq_true rfl, Nat.le_of_ble_eq_true rfl⟩) hP hD hS hA [1] [0] rfl rfl (by decide) (by decide) (fun  u H locs hw hP hD hS => ?_)
  have hP : va_P D vwCl [(h0, .inr (3, [g0, g1, .ref h1, g2, g3, g4, g5, g6, g7, g8, g9, g10, g11, g12])), (h1, .inl (cI, 64, .inl zf))] H := hP
  have hD : va_D A [(h0, .inr (3, [g0, g1, .ref h1, g2, g3, g4, g5, g6, g7, g8, g9, g10, g11, g12])), (h1, .inl (cI, 64, .inl zf))] := hD
  refine lv_aload_n hx hb dX3_setAsAtFirst_8 rfl (lv_at hl 0 rfl) ?_
  refine lv_iconst (v := 0) hx hb dX3_setAsAtFirst_9 (by decide) ?_
  refine va_put (D := D) (ci := 3) (v := .int 0) (ty := .int) (C := RX3) (T := TX3) (N := 14) hx hb hts inX3_setAsAtFirst_X3 tyX3 tyX3_ok nmX3 hown hK hP hD hS 0 rfl rfl 8 (by decide) (hts _ wdX3_setAsAtFirst_1) (fun _ h9 => h9) rfl (by decide +kernel) rfl rfl (Nat.le_of_ble_eq_true rfl) dX3_setAsAtFirst_10 (fun H locs hP hD hS => ?_)
  have hP : va_P D vwCl [(h0, .inr (3, [g0, g1, .ref h1, g2, g3, g4, g5, g6, .int 0, g8, g9, g10, g11, g12])), (h1, .inl (cI, 64, .inl zf))] H := hP
  have hD : va_D A [(h0, .inr (3, [g0, g1, .ref h1, g2, g3, g4, g5, g6, .int 0, g8, g9, g10, g11, g12])), (h1, .inl (cI, 64, .inl zf))] := hD
  refine lv_aload_n hx hb dX3_setAsAtFirst_13 rfl (lv_at hl 0 rfl) ?_
  refine lv_iconst (v := 0) hx hb dX3_setAsAtFirst_14 (by decide) ?_
  refine va_put (D := D) (ci := 3) (v := .int 0) (ty := .int) (C := RX3) (T := TX3) (N := 14) hx hb hts inX3_setAsAtFirst_X3 tyX3 tyX3_ok nmX3 hown hK hP hD hS 0 rfl rfl 9 (by decide) (hts _ wdX3_setAsAtFirst_2) (fun _ h9 => h9) rfl (by decide +kernel) rfl rfl (Nat.le_of_ble_eq_true rfl) dX3_setAsAtFirst_15 (fun H locs hP hD hS => ?_)
  have hP : va_P D vwCl [(h0, .inr (3, [g0, g1, .ref h1, g2, g3, g4, g5, g6, .int 0, .int 0, g9, g10, g11, g12])), (h1, .inl (cI, 64, .inl zf))] H := hP
  have hD : va_D A [(h0, .inr (3, [g0, g1, .ref h1, g2, g3, g4, g5, g6, .int 0, .int 0, g9, g10, g11, g12])), (h1, .inl (cI, 64, .inl zf))] := hD
  refine lv_aload_n hx hb dX3_setAsAtFirst_18 rfl (lv_at hl 0 rfl) ?_
  refine lv_iconst (v := 0) hx hb dX3_setAsAtFirst_19 (by decide) ?_
  refine va_put (D := D) (ci := 3) (v := .int 0) (ty := .int) (C := RX3) (T := TX3) (N := 14) hx hb hts inX3_setAsAtFirst_X3 tyX3 tyX3_ok nmX3 hown hK hP hD hS 0 rfl rfl 10 (by decide) (hts _ wdX3_setAsAtFirst_3) (fun _ h9 => h9) rfl (by decide +kernel) rfl rfl (Nat.le_of_ble_eq_true rfl) dX3_setAsAtFirst_20 (fun H locs hP hD hS => ?_)
  have hP : va_P D vwCl [(h0, .inr (3, [g0, g1, .ref h1, g2, g3, g4, g5, g6, .int 0, .int 0, .int 0, g10, g11, g12])), (h1, .inl (cI, 64, .inl zf))] H := hP
  have hD : va_D A [(h0, .inr (3, [g0, g1, .ref h1, g2, g3, g4, g5, g6, .int 0, .int 0, .int 0, g10, g11, g12])), (h1, .inl (cI, 64, .inl zf))] := hD
  refine lv_aload_n hx hb dX3_setAsAtFirst_23 rfl (lv_at hl 0 rfl) ?_
  refine lv_iconst (v := 0) hx hb dX3_setAsAtFirst_24 (by decide) ?_
  refine va_put (D := D) (ci := 3) (v := .int 0) (ty := .int) (C := RX3) (T := TX3) (N := 14) hx hb hts inX3_setAsAtFirst_X3 tyX3 tyX3_ok nmX3 hown hK hP hD hS 0 rfl rfl 11 (by decide) (hts _ wdX3_setAsAtFirst_4) (fun _ h9 => h9) rfl (by decide +kernel) rfl rfl (Nat.le_of_ble_eq_true rfl) dX3_setAsAtFirst_25 (fun H locs hP hD hS => ?_)
  have hP : va_P D vwCl [(h0, .inr (3, [g0, g1, .ref h1, g2, g3, g4, g5, g6, .int 0, .int 0, .int 0, .int 0, g11, g12])), (h1, .inl (cI, 64, .inl zf))] H := hP
  have hD : va_D A [(h0, .inr (3, [g0, g1, .ref h1, g2, g3, g4, g5, g6, .int 0, .int 0, .int 0, .int 0, g11, g12])), (h1, .inl (cI, 64, .inl zf))] := hD
  refine lv_aload_n hx hb dX3_setAsAtFirst_28 rfl (lv_at hl 0 rfl) ?_
  refine lv_iconst (v := 1) hx hb dX3_setAsAtFirst_29 (by decide) ?_
  refine va_put (D := D) (ci := 3) (v := .int 1) (ty := .int) (C := RX3) (T := TX3) (N := 14) hx hb hts inX3_setAsAtFirst_X3 tyX3 tyX3_ok nmX3 hown hK hP hD hS 0 rfl rfl 12 (by decide) (hts _ wdX3_setAsAtFirst_5) (fun _ h9 => h9) rfl (by decide +kernel) rfl rfl (Nat.le_of_ble_eq_true rfl) dX3_setAsAtFirst_30 (fun H locs hP hD hS => ?_)
  have hP : va_P D vwCl [(h0, .inr (3, [g0, g1, .ref h1, g2, g3, g4, g5, g6, .int 0, .int 0, .int 0, .int 0, .int 1, g12])), (h1, .inl (cI, 64, .inl zf))] H := hP
  have hD : va_D A [(h0, .inr (3, [g0, g1, .ref h1, g2, g3, g4, g5, g6, .int 0, .int 0, .int 0, .int 0, .int 1, g12])), (h1, .inl (cI, 64, .inl zf))] := hD
  refine lv_aload_n hx hb dX3_setAsAtFirst_33 rfl (lv_at hl 0 rfl) ?_
  refine lv_iconst (v := 0) hx hb dX3_setAsAtFirst_34 (by decide) ?_
  refine va_put (D := D) (ci := 3) (v := .int 0) (ty := .int) (C := RX3) (T := TX3) (N := 14) hx hb hts inX3_setAsAtFirst_X3 tyX3 tyX3_ok nmX3 hown hK hP hD hS 0 rfl rfl 13 (by decide) (hts _ wdX3_setAsAtFirst_6) (fun _ h9 => h9) rfl (by decide +kernel) rfl rfl (Nat.le_of_ble_eq_true rfl) dX3_setAsAtFirst_35 (fun H locs hP hD hS => ?_)
  have hP : va_P D vwCl [(h0, .inr (3, [g0, g1, .ref h1, g2, g3, g4, g5, g6, .int 0, .int 0, .int 0, .int 0, .int 1, .int 0])), (h1, .inl (cI, 64, .inl zf))] H := hP
  have hD : va_D A [(h0, .inr (3, [g0, g1, .ref h1, g2, g3, g4, g5, g6, .int 0, .int 0, .int 0, .int 0, .int 1, .int 0])), (h1, .inl (cI, 64, .inl zf))] := hD
  exact kr_v () hx hb hr hlocks hP hD hS trivial dX3_setAsAtFirst_38
set_option maxHeartbeats 4000000 in
set_option maxRecDepth 100000 in
theorem K197_X6_setAsAtFirst (l : Launch) (D : va_G) (cB cI cZ : ClassId) (sz : Nat) (h0 : Nat)  (g0 : Value) (g1 : Value) (g2 : Value) (g3 : Value) (g4 : Value) (g5 : Value)  :
    CtV l D cB cI cZ yX6_setAsAtFirst wsX6_setAsAtFirst { frames := 0, cells := 0, slots := 0, locals := 0 } [.ref h0] [(h0, .inr (5, [g0, g1, g2, g3, g4, g5]))] sz 0 0
      (fun (u : Unit) => True)
      (fun u => [(h0, .inr (5, [g0, g1, g2, g3, .int 0, .int 0]))]) := by
  refine mk_metV (cc := cX6_setAsAtFirst) (maxL := 1) (ret := none) (by decide) rfl (Nat.le_of_ble_eq_true rfl) ?_
  intro p e s m below meth c A hx hb hr hml hts hown hlocks hin hP hK hN hD hA hS ls hl
  have hown : s.vm.findClass RX6 = some m.cls := hown
  have hl : lv_has ls 1 [(0, .ref h0)] := hl
  refine lv_aload_n hx hb dX6_setAsAtFirst_0 rfl (lv_at hl 0 rfl) ?_
  refine lv_iconst (v := 0) hx hb dX6_setAsAtFirst_1 (by decide) ?_
  refine va_put (D := D) (ci := 5) (v := .int 0) (ty := .int) (C := RX6) (T := TX6) (N := 6) hx hb hts inX6_setAsAtFirst_X6 tyX6 tyX6_ok nmX6 hown hK hP hD hS 0 rfl rfl 4 (by decide) (hts _ wdX6_setAsAtFirst_0) (fun _ h9 => h9) rfl (by decide +kernel) rfl rfl (Nat.le_of_ble_eq_true rfl) dX6_setAsAtFirst_2 (fun H locs hP hD hS => ?_)
  have hP : va_P D vwCl [(h0, .inr (5, [g0, g1, g2, g3, .int 0, g5]))] H := hP
  have hD : va_D A [(h0, .inr (5, [g0, g1, g2, g3, .int 0, g5]))] := hD
  refine lv_aload_n hx hb dX6_setAsAtFirst_5 rfl (lv_at hl 0 rfl) ?_
  refine lv_iconst (v := 0) hx hb dX6_setAsAtFirst_6 (by decide) ?_
  refine va_put (D := D) (ci := 5) (v := .int 0) (ty := .int) (C := RX6) (T := TX6) (N := 6) hx hb hts inX6_setAsAtFirst_X6 tyX6 tyX6_ok nmX6 hown hK hP hD hS 0 rfl rfl 5 (by decide) (hts _ wdX6_setAsAtFirst_1) (fun _ h9 => h9) rfl (by decide +kernel) rfl rfl (Nat.le_of_ble_eq_true rfl) dX6_setAsAtFirst_7 (fun H locs hP hD hS => ?_)
  have hP : va_P D vwCl [(h0, .inr (5, [g0, g1, g2, g3, .int 0, .int 0]))] H := hP
  have hD : va_D A [(h0, .inr (5, [g0, g1, g2, g3, .int 0, .int 0]))] := hD
  exact kr_v () hx hb hr hlocks hP hD hS trivial dX6_setAsAtFirst_10
set_option maxHeartbeats 4000000 in
set_option maxRecDepth 100000 in
theorem K199_J7_fill_53178 (l : Launch) (D : va_G) (cB cI cZ : ClassId) (sz : Nat) (h0 : Nat)    :
    CtV l D cB cI cZ yJ7_fill_53178 wsJ7_fill_53178 { frames := 0, cells := 0, slots := 0, locals := 0 } [.ref h0, .int 0] [(h0, .inl (cI, 300, .inl zf))] sz 0 0
      (fun (u : Unit) => True)
      (fun u => [(h0, .inl (cI, 300, .inl zf))]) := by
  refine mk_metV (cc := cJ7_fill_53178) (maxL := 4) (ret := none) (by decide) rfl (Nat.le_of_ble_eq_true rfl) ?_
  intro p e s m below meth c A hx hb hr hml hts hown hlocks hin hP hK hN hD hA hS ls hl
  have hown : s.vm.findClass RJ7 = some m.cls := hown
  have hl : lv_has ls 4 [(0, .ref h0), (1, .int 0)] := hl
  refine lv_iconst (v := 0) hx hb dJ7_fill_53178_0 (by decide) ?_
  refine lv_istore_n (lv' := [(2, .int 0), (0, .ref h0), (1, .int 0)]) hx hb dJ7_fill_53178_1 rfl hl (by decide) rfl (fun ls hl => ?_)
  refine lv_aload_n hx hb dJ7_fill_53178_2 rfl (lv_at hl 1 rfl) ?_
  refine va_alen (v := 300) hx hb hK hP 0 1 rfl rfl (show Int32.ofNat 300 = 300 by decide) dJ7_fill_53178_3 ?_
  refine lv_istore_n (lv' := [(3, .int 300), (2, .int 0), (0, .ref h0), (1, .int 0)]) hx hb dJ7_fill_53178_4 rfl hl (by decide) rfl (fun ls hl => ?_)
  refine kl (α := Int32) (fun n a H locs ls => (0 ≤ Int32.toInt a) ∧ (Int32.toInt a ≤ 300) ∧ (300 - Int32.toInt a < ((n : Nat) : Int)) ∧ va_P D vwCl [(h0, .inl (cI, 300, .inl zf))] H ∧ va_D A [(h0, .inl (cI, 300, .inl zf))] ∧ va_S A s.heap H locs ∧ lv_has ls 4 [(3, .int 300), (2, .int a), (0, .ref h0), (1, .int 0)]) 301 0 ⟨(by show 0 ≤ Int32.toInt 0; decide), (by show Int32.toInt 0 ≤ 300; decide), (by show 300 - Int32.toInt 0 < ((301 : Nat) : Int); have := (by decide : Int32.toInt 0 = 0); omega), hP, hD, hS, hl⟩ (fun a H locs ls h => ?_) (fun n_2 ih_3 a H locs ls h => ?_)
  · obtain ⟨j_4, j_5, j_6, _⟩ := h
    omega
  obtain ⟨v_1, rfl⟩ : ∃ z, z = a := ⟨_, rfl⟩
  obtain ⟨j_4, j_5, j_6, hP, hD, hS, hl⟩ := h
  have j_4 : 0 ≤ Int32.toInt v_1 := j_4
  have j_5 : Int32.toInt v_1 ≤ 300 := j_5
  have j_6 : 300 - Int32.toInt v_1 < ((n_2 + 1 : Nat) : Int) := j_6
  have hP : va_P D vwCl [(h0, .inl (cI, 300, .inl zf))] H := hP
  have hD : va_D A [(h0, .inl (cI, 300, .inl zf))] := hD
  have hl : lv_has ls 4 [(3, .int 300), (2, .int v_1), (0, .ref h0), (1, .int 0)] := hl
  refine lv_iload_n hx hb dJ7_fill_53178_5 rfl (lv_at hl 1 rfl) ?_
  refine lv_iload_n hx hb dJ7_fill_53178_6 rfl (lv_at hl 0 rfl) ?_
  refine lv_icmp_ge (tgt := 20) hx hb dJ7_fill_53178_7 (by decide) (fun c => ?_) (fun c => ?_)
  · skip
    have k_7 := (ti_le (x := 300) (y := v_1) (a := 300) (b := v_1.toInt) (by decide) rfl).mp c
    obtain rfl : v_1 = 300 := ti_inj (a := 300) (by decide) (by omega)
    exact kr_v () hx hb hr hlocks hP hD hS trivial dJ7_fill_53178_20
  · skip
    have k_8 := mt (ti_le (x := 300) (y := v_1) (a := 300) (b := v_1.toInt) (by decide) rfl).mpr c
    refine lv_aload_n hx hb dJ7_fill_53178_10 rfl (lv_at hl 2 rfl) ?_
    refine lv_iload_n hx hb dJ7_fill_53178_11 rfl (lv_at hl 1 rfl) ?_
    refine lv_iload_n hx hb dJ7_fill_53178_12 rfl (lv_at hl 3 rfl) ?_
    refine va_iast hx hb hK hP hD hS 0 1 rfl rfl (ti_in (a := v_1.toInt) rfl (by omega) (by omega)) dJ7_fill_53178_13 (fun H locs hP hD hS => ?_)
    rw [zf_upd] at hP hD
    have hP : va_P D vwCl [(h0, .inl (cI, 300, .inl zf))] H := hP
    have hD : va_D A [(h0, .inl (cI, 300, .inl zf))] := hD
    obtain ⟨x_9, ex_9⟩ : ∃ y : Int32, y = v_1 + 1 := ⟨_, rfl⟩
    have tx_9 : x_9.toInt = v_1.toInt + 1 := by rw [ex_9]; exact ti_add rfl (by decide) (by omega) (by omega)
    refine lv_iinc (v := x_9) (lv' := [(2, .int x_9), (3, .int 300), (0, .ref h0), (1, .int 0)]) hx hb dJ7_fill_53178_14 hl (k := 1) rfl (by rw [ex_9]; rfl) (by decide) rfl (fun ls hl => ?_)
    refine lv_goto (tgt := 5) hx hb dJ7_fill_53178_17 (by decide) ?_
    exact ih_3 x_9 _ _ _ ⟨(by show 0 ≤ Int32.toInt x_9; omega), (by show Int32.toInt x_9 ≤ 300; omega), (by show 300 - Int32.toInt x_9 < ((n_2 : Nat) : Int); omega), hP, hD, hS, (lv_sub hl [1, 0, 2, 3] rfl)⟩
set_option maxHeartbeats 4000000 in
set_option maxRecDepth 100000 in
theorem K198_X2_clear (l : Launch) (D : va_G) (cB cI cZ : ClassId) (sz : Nat) (h0 : Nat) (h1 : Nat) (h2 : Nat)  (g0 : Value)  :
    CtV l D cB cI cZ yX2_clear wsX2_clear { frames := 1, cells := 0, slots := 0, locals := 23 } [.ref h0] [(h0, .inr (2, [.ref h1, .ref h2, g0])), (h1, .inl (cI, 300, .inl zf)), (h2, .inl (cI, 300, .inl zf))] sz 0 0
      (fun (u : Unit) => True)
      (fun u => [(h0, .inr (2, [.ref h1, .ref h2, .int 0])), (h1, .inl (cI, 300, .inl zf)), (h2, .inl (cI, 300, .inl zf))]) := by
  refine mk_metV (cc := cX2_clear) (maxL := 1) (ret := none) (by decide) rfl (Nat.le_of_ble_eq_true rfl) ?_
  intro p e s m below meth c A hx hb hr hml hts hown hlocks hin hP hK hN hD hA hS ls hl
  have hown : s.vm.findClass RX2 = some m.cls := hown
  have hl : lv_has ls 1 [(0, .ref h0)] := hl
  refine lv_aload_n hx hb dX2_clear_0 rfl (lv_at hl 0 rfl) ?_
  refine va_get (D := D) (ci := 2) (v := .ref h1) (C := RX2) (T := TX2) (N := 3) hx hb hts inX2_clear_X2 hown hK hP 0 rfl rfl 0 (by decide) (hts _ wdX2_clear_0) (fun _ h9 => h9) rfl dX2_clear_1 ?_
  refine lv_iconst (v := 0) hx hb dX2_clear_4 (by decide) ?_
  refine kc_v (wr := [(h0, .inr (2, [.ref h1, .ref h2, g0])), (h2, .inl (cI, 300, .inl zf))]) (va_runS (As := [.ref h1, .int 0]) (rest := []) ⟨hx, hb, hml, hown, hts⟩ (K199_J7_fill_53178 l D cB cI cZ _ h1) (va_cwS 2 hts gX2_clear_J7_fill_53178 rfl rfl rfl (by decide +kernel) ⟨Nat.le_of_ble_eq_true rfl, Nat.le_of_ble_eq_true rfl⟩) (pre_S (hP.sub [1] rfl) hK hN (hD.sub [1] (by decide) rfl)) rfl rfl hl.1 rfl (lv_room (Nat.le_of_ble_eq_true rfl)) dX2_clear_5 ⟨Nat.le_of_ble_eq_true rfl, Nat.le_of_ble_eq_true rfl⟩) hP hD hS hA [1] [0, 2] rfl rfl (by decide) (by decide) (fun  u H locs hw hP hD hS => ?_)
  have hP : va_P D vwCl [(h0, .inr (2, [.ref h1, .ref h2, g0])), (h2, .inl (cI, 300, .inl zf)), (h1, .inl (cI, 300, .inl zf))] H := hP
  have hD : va_D A [(h0, .inr (2, [.ref h1, .ref h2, g0])), (h2, .inl (cI, 300, .inl zf)), (h1, .inl (cI, 300, .inl zf))] := hD
  refine lv_aload_n hx hb dX2_clear_8 rfl (lv_at hl 0 rfl) ?_
  refine va_get (D := D) (ci := 2) (v := .ref h2) (C := RX2) (T := TX2) (N := 3) hx hb hts inX2_clear_X2 hown hK hP 0 rfl rfl 1 (by decide) (hts _ wdX2_clear_1) (fun _ h9 => h9) rfl dX2_clear_9 ?_
  refine lv_iconst (v := 0) hx hb dX2_clear_12 (by decide) ?_
  refine kc_v (wr := [(h0, .inr (2, [.ref h1, .ref h2, g0])), (h1, .inl (cI, 300, .inl zf))]) (va_runS (As := [.ref h2, .int 0]) (rest := []) ⟨hx, hb, hml, hown, hts⟩ (K199_J7_fill_53178 l D cB cI cZ _ h2) (va_cwS 2 hts gX2_clear_J7_fill_53178 rfl rfl rfl (by decide +kernel) ⟨Nat.le_of_ble_eq_true rfl, Nat.le_of_ble_eq_true rfl⟩) (pre_S (hP.sub [1] rfl) hK hN (hD.sub [1] (by decide) rfl)) rfl rfl hl.1 rfl (lv_room (Nat.le_of_ble_eq_true rfl)) dX2_clear_13 ⟨Nat.le_of_ble_eq_true rfl, Nat.le_of_ble_eq_true rfl⟩) hP hD hS hA [1] [0, 2] rfl rfl (by decide) (by decide) (fun  u H locs hw hP hD hS => ?_)
  have hP : va_P D vwCl [(h0, .inr (2, [.ref h1, .ref h2, g0])), (h1, .inl (cI, 300, .inl zf)), (h2, .inl (cI, 300, .inl zf))] H := hP
  have hD : va_D A [(h0, .inr (2, [.ref h1, .ref h2, g0])), (h1, .inl (cI, 300, .inl zf)), (h2, .inl (cI, 300, .inl zf))] := hD
  refine lv_aload_n hx hb dX2_clear_16 rfl (lv_at hl 0 rfl) ?_
  refine lv_iconst (v := 0) hx hb dX2_clear_17 (by decide) ?_
  refine va_put (D := D) (ci := 2) (v := .int 0) (ty := .int) (C := RX2) (T := TX2) (N := 3) hx hb hts inX2_clear_X2 tyX2 tyX2_ok nmX2 hown hK hP hD hS 0 rfl rfl 2 (by decide) (hts _ wdX2_clear_2) (fun _ h9 => h9) rfl (by decide +kernel) rfl rfl (Nat.le_of_ble_eq_true rfl) dX2_clear_18 (fun H locs hP hD hS => ?_)
  have hP : va_P D vwCl [(h0, .inr (2, [.ref h1, .ref h2, .int 0])), (h1, .inl (cI, 300, .inl zf)), (h2, .inl (cI, 300, .inl zf))] H := hP
  have hD : va_D A [(h0, .inr (2, [.ref h1, .ref h2, .int 0])), (h1, .inl (cI, 300, .inl zf)), (h2, .inl (cI, 300, .inl zf))] := hD
  exact kr_v () hx hb hr hlocks hP hD hS trivial dX2_clear_21
set_option maxHeartbeats 4000000 in
set_option maxRecDepth 100000 in
theorem K204_X4_isWithin (l : Launch) (D : va_G) (cB cI cZ : ClassId) (sz : Nat) (h0 : Nat)  (p0 : Int32) (i_p0 : 0 ≤ p0.toInt ∧ p0.toInt ≤ 65534) :
    CtI l D cB cI cZ yX4_isWithin wsX4_isWithin { frames := 0, cells := 0, slots := 0, locals := 0 } [.ref h0, .int p0, .int 2] [(h0, .inl (cB, 65536, .inl zf))] sz 0 0
      (fun (r : Int32) (u : Unit) => r = 1)
      (fun u => [(h0, .inl (cB, 65536, .inl zf))]) := by
  refine mk_metI (cc := cX4_isWithin) (maxL := 3) (ret := (some .boolean)) (by decide) rfl (Nat.le_of_ble_eq_true rfl) ?_
  intro p e s m below meth c A hx hb hr hml hts hown hlocks hin hP hK hN hD hA hS ls hl
  have hown : s.vm.findClass RX4 = some m.cls := hown
  have hl : lv_has ls 3 [(0, .ref h0), (1, .int p0), (2, .int 2)] := hl
  refine lv_iload_n hx hb dX4_isWithin_0 rfl (lv_at hl 1 rfl) ?_
  refine lv_if_lt (tgt := 26) hx hb dX4_isWithin_1 (by decide) (fun c => absurd ((ti_lt (x := p0) (y := 0) (a := p0.toInt) (b := 0) rfl (by decide)).mp c) (by omega)) (fun c => ?_)
  refine lv_iload_n hx hb dX4_isWithin_4 rfl (lv_at hl 2 rfl) ?_
  refine lv_if_lt (tgt := 26) hx hb dX4_isWithin_5 (by decide) (fun c => absurd c (by decide)) (fun c => ?_)
  refine lv_iload_n hx hb dX4_isWithin_8 rfl (lv_at hl 2 rfl) ?_
  refine lv_aload_n hx hb dX4_isWithin_9 rfl (lv_at hl 0 rfl) ?_
  refine va_alen (v := 65536) hx hb hK hP 0 0 rfl rfl (show Int32.ofNat 65536 = 65536 by decide) dX4_isWithin_10 ?_
  refine lv_icmp_gt (tgt := 26) hx hb dX4_isWithin_11 (by decide) (fun c => absurd c (by decide)) (fun c => ?_)
  refine lv_iload_n hx hb dX4_isWithin_14 rfl (lv_at hl 1 rfl) ?_
  refine lv_aload_n hx hb dX4_isWithin_15 rfl (lv_at hl 0 rfl) ?_
  refine va_alen (v := 65536) hx hb hK hP 0 0 rfl rfl (show Int32.ofNat 65536 = 65536 by decide) dX4_isWithin_16 ?_
  refine lv_iload_n hx hb dX4_isWithin_17 rfl (lv_at hl 2 rfl) ?_
  refine lv_isub hx hb dX4_isWithin_18 ?_
  refine lv_topi (fun z_1 ez_1 => ?_)
  obtain rfl : z_1 = 65534 := ez_1.trans (by decide)
  refine lv_icmp_gt (tgt := 26) hx hb dX4_isWithin_19 (by decide) (fun c => absurd ((ti_lt (x := 65534) (y := p0) (a := 65534) (b := p0.toInt) (by decide) rfl).mp c) (by omega)) (fun c => ?_)
  refine lv_iconst (v := 1) hx hb dX4_isWithin_22 (by decide) ?_
  refine lv_goto (tgt := 27) hx hb dX4_isWithin_23 (by decide) ?_
  exact kr_z () hx hb hr rfl hlocks hP hD hS rfl dX4_isWithin_27
set_option maxHeartbeats 4000000 in
set_option maxRecDepth 100000 in
theorem K203_X4_number (l : Launch) (D : va_G) (cB cI cZ : ClassId) (sz : Nat) (h0 : Nat)  (p0 : Int32) (i_p0 : 0 ≤ p0.toInt ∧ p0.toInt ≤ 65534) :
    CtI l D cB cI cZ yX4_number wsX4_number { frames := 1, cells := 0, slots := 0, locals := 22 } [.ref h0, .int p0, .int 2] [(h0, .inl (cB, 65536, .inl zf))] sz 0 0
      (fun (r : Int32) (u : Unit) => r = 0)
      (fun u => [(h0, .inl (cB, 65536, .inl zf))]) := by
  refine mk_metI (cc := cX4_number) (maxL := 5) (ret := (some .int)) (by decide) rfl (Nat.le_of_ble_eq_true rfl) ?_
  intro p e s m below meth c A hx hb hr hml hts hown hlocks hin hP hK hN hD hA hS ls hl
  have hown : s.vm.findClass RX4 = some m.cls := hown
  have hl : lv_has ls 5 [(0, .ref h0), (1, .int p0), (2, .int 2)] := hl
  refine lv_aload_n hx hb dX4_number_0 rfl (lv_at hl 0 rfl) ?_
  refine lv_iload_n hx hb dX4_number_1 rfl (lv_at hl 1 rfl) ?_
  refine lv_iload_n hx hb dX4_number_2 rfl (lv_at hl 2 rfl) ?_
  refine kc_i (wr := []) (va_runS (As := [.ref h0, .int p0, .int 2]) (rest := []) ⟨hx, hb, hml, hown, hts⟩ (K204_X4_isWithin l D cB cI cZ _ h0 p0 ⟨by omega, by omega⟩) (va_cwS 3 hts gX4_number_X4_isWithin rfl rfl rfl (by decide +kernel) ⟨Nat.le_of_ble_eq_true rfl, Nat.le_of_ble_eq_true rfl⟩) (pre_S (hP.sub [0] rfl) hK hN (hD.sub [0] (by decide) rfl)) rfl rfl hl.1 rfl (lv_room (Nat.le_of_ble_eq_true rfl)) dX4_number_3 ⟨Nat.le_of_ble_eq_true rfl, Nat.le_of_ble_eq_true rfl⟩) hP hD hS hA [0] [] rfl rfl (by decide) (by decide) (fun r_1 u H locs hw hP hD hS => ?_)
  have k_2 := hw
  obtain rfl : r_1 = 1 := k_2
  have hP : va_P D vwCl [(h0, .inl (cB, 65536, .inl zf))] H := hP
  have hD : va_D A [(h0, .inl (cB, 65536, .inl zf))] := hD
  refine lv_if_ne (tgt := 11) hx hb dX4_number_6 (by decide) (fun c => ?_) (fun c => absurd c (by decide))
  refine lv_iconst (v := 0) hx hb dX4_number_11 (by decide) ?_
  refine lv_istore_n (lv' := [(3, .int 0), (0, .ref h0), (1, .int p0), (2, .int 2)]) hx hb dX4_number_12 rfl hl (by decide) rfl (fun ls hl => ?_)
  refine lv_iload_n hx hb dX4_number_13 rfl (lv_at hl 2 rfl) ?_
  refine lv_istore (lv' := [(4, .int p0), (3, .int 0), (0, .ref h0), (1, .int p0), (2, .int 2)]) hx hb dX4_number_14 hl (by decide) rfl (fun ls hl => ?_)
  refine lv_iload hx hb dX4_number_16 (lv_at hl 0 rfl) ?_
  refine lv_iload_n hx hb dX4_number_18 rfl (lv_at hl 3 rfl) ?_
  refine lv_iload_n hx hb dX4_number_19 rfl (lv_at hl 4 rfl) ?_
  refine lv_iadd hx hb dX4_number_20 ?_
  refine lv_topi (fun x_3 ex_3 => ?_)
  have tx_3 : x_3.toInt = p0.toInt + 2 := by rw [ex_3]; exact ti_add rfl (by decide) (by omega) (by omega)
  refine lv_icmp_ge (tgt := 44) hx hb dX4_number_21 (by decide) (fun c => absurd ((ti_le (x := x_3) (y := p0) (a := x_3.toInt) (b := p0.toInt) rfl rfl).mp c) (by omega)) (fun c => ?_)
  refine lv_iload_n hx hb dX4_number_24 rfl (lv_at hl 1 rfl) ?_
  refine lv_bipush (v := 8) hx hb dX4_number_25 (by decide) ?_
  refine lv_ishl hx hb dX4_number_27 ?_
  refine lv_topi (fun z_4 ez_4 => ?_)
  obtain rfl : z_4 = 0 := ez_4.trans (by decide)
  refine lv_aload_n hx hb dX4_number_28 rfl (lv_at hl 2 rfl) ?_
  refine lv_iload hx hb dX4_number_29 (lv_at hl 0 rfl) ?_
  refine va_bald hx hb hK hP 0 0 rfl rfl (ti_in (a := p0.toInt) rfl (by omega) (by omega)) dX4_number_31 ?_
  refine lv_topi (fun z_5 ez_5 => ?_)
  obtain rfl : z_5 = 0 := ez_5
  refine lv_sipush (v := 255) hx hb dX4_number_32 (by decide) ?_
  refine lv_iand hx hb dX4_number_35 ?_
  refine lv_topi (fun z_6 ez_6 => ?_)
  obtain rfl : z_6 = 0 := ez_6.trans (by decide)
  refine lv_ior hx hb dX4_number_36 ?_
  refine lv_topi (fun z_7 ez_7 => ?_)
  obtain rfl : z_7 = 0 := ez_7.trans (by decide)
  refine lv_istore_n (lv' := [(3, .int 0), (4, .int p0), (0, .ref h0), (1, .int p0), (2, .int 2)]) hx hb dX4_number_37 rfl hl (by decide) rfl (fun ls hl => ?_)
  obtain ⟨x_8, ex_8⟩ : ∃ y : Int32, y = p0 + 1 := ⟨_, rfl⟩
  have tx_8 : x_8.toInt = p0.toInt + 1 := by rw [ex_8]; exact ti_add rfl (by decide) (by omega) (by omega)
  refine lv_iinc (v := x_8) (lv' := [(4, .int x_8), (3, .int 0), (0, .ref h0), (1, .int p0), (2, .int 2)]) hx hb dX4_number_38 hl (k := 1) rfl (by rw [ex_8]; rfl) (by decide) rfl (fun ls hl => ?_)
  refine lv_goto (tgt := 16) hx hb dX4_number_41 (by decide) ?_
  refine lv_iload hx hb dX4_number_16 (lv_at hl 0 rfl) ?_
  refine lv_iload_n hx hb dX4_number_18 rfl (lv_at hl 3 rfl) ?_
  refine lv_iload_n hx hb dX4_number_19 rfl (lv_at hl 4 rfl) ?_
  refine lv_iadd hx hb dX4_number_20 ?_
  refine lv_topi (fun x_9 ex_9 => ?_)
  have tx_9 : x_9.toInt = p0.toInt + 2 := by rw [ex_9]; exact ti_add rfl (by decide) (by omega) (by omega)
  refine lv_icmp_ge (tgt := 44) hx hb dX4_number_21 (by decide) (fun c => absurd ((ti_le (x := x_9) (y := x_8) (a := x_9.toInt) (b := x_8.toInt) rfl rfl).mp c) (by omega)) (fun c => ?_)
  refine lv_iload_n hx hb dX4_number_24 rfl (lv_at hl 1 rfl) ?_
  refine lv_bipush (v := 8) hx hb dX4_number_25 (by decide) ?_
  refine lv_ishl hx hb dX4_number_27 ?_
  refine lv_topi (fun z_10 ez_10 => ?_)
  obtain rfl : z_10 = 0 := ez_10.trans (by decide)
  refine lv_aload_n hx hb dX4_number_28 rfl (lv_at hl 2 rfl) ?_
  refine lv_iload hx hb dX4_number_29 (lv_at hl 0 rfl) ?_
  refine va_bald hx hb hK hP 0 0 rfl rfl (ti_in (a := x_8.toInt) rfl (by omega) (by omega)) dX4_number_31 ?_
  refine lv_topi (fun z_11 ez_11 => ?_)
  obtain rfl : z_11 = 0 := ez_11
  refine lv_sipush (v := 255) hx hb dX4_number_32 (by decide) ?_
  refine lv_iand hx hb dX4_number_35 ?_
  refine lv_topi (fun z_12 ez_12 => ?_)
  obtain rfl : z_12 = 0 := ez_12.trans (by decide)
  refine lv_ior hx hb dX4_number_36 ?_
  refine lv_topi (fun z_13 ez_13 => ?_)
  obtain rfl : z_13 = 0 := ez_13.trans (by decide)
  refine lv_istore_n (lv' := [(3, .int 0), (4, .int x_8), (0, .ref h0), (1, .int p0), (2, .int 2)]) hx hb dX4_number_37 rfl hl (by decide) rfl (fun ls hl => ?_)
  obtain ⟨x_14, ex_14⟩ : ∃ y : Int32, y = x_8 + 1 := ⟨_, rfl⟩
  have tx_14 : x_14.toInt = x_8.toInt + 1 := by rw [ex_14]; exact ti_add rfl (by decide) (by omega) (by omega)
  refine lv_iinc (v := x_14) (lv' := [(4, .int x_14), (3, .int 0), (0, .ref h0), (1, .int p0), (2, .int 2)]) hx hb dX4_number_38 hl (k := 1) rfl (by rw [ex_14]; rfl) (by decide) rfl (fun ls hl => ?_)
  refine lv_goto (tgt := 16) hx hb dX4_number_41 (by decide) ?_
  refine lv_iload hx hb dX4_number_16 (lv_at hl 0 rfl) ?_
  refine lv_iload_n hx hb dX4_number_18 rfl (lv_at hl 3 rfl) ?_
  refine lv_iload_n hx hb dX4_number_19 rfl (lv_at hl 4 rfl) ?_
  refine lv_iadd hx hb dX4_number_20 ?_
  refine lv_topi (fun x_15 ex_15 => ?_)
  have tx_15 : x_15.toInt = p0.toInt + 2 := by rw [ex_15]; exact ti_add rfl (by decide) (by omega) (by omega)
  refine lv_icmp_ge (tgt := 44) hx hb dX4_number_21 (by decide) (fun c => ?_) (fun c => absurd ((ti_le (x := x_15) (y := x_14) (a := x_15.toInt) (b := x_14.toInt) rfl rfl).mpr (by omega)) c)
  refine lv_iload_n hx hb dX4_number_44 rfl (lv_at hl 1 rfl) ?_
  exact kr_i () hx hb hr hlocks hP hD hS rfl dX4_number_45
set_option maxHeartbeats 4000000 in
set_option maxRecDepth 100000 in
theorem K202_X6_numberAt (l : Launch) (D : va_G) (cB cI cZ : ClassId) (sz : Nat) (h0 : Nat) (h1 : Nat) (h2 : Nat)  (g0 : Value) (g1 : Value) (g2 : Value) (g3 : Value) (g4 : Value) (g5 : Value) (g6 : Value) (g7 : Value) (g8 : Value)  :
    CtI l D cB cI cZ yX6_numberAt wsX6_numberAt { frames := 2, cells := 0, slots := 0, locals := 46 } [.ref h0, .int 0, .int 21, .int 2] [(h0, .inr (5, [.ref h1, g0, g1, g2, g3, g4])), (h1, .inr (1, [.ref h2, g5, g6, g7, g8])), (h2, .inl (cB, 65536, .inl zf))] sz 0 0
      (fun (r : Int32) (u : Unit) => r = 0)
      (fun u => [(h0, .inr (5, [.ref h1, g0, g1, g2, g3, g4])), (h1, .inr (1, [.ref h2, g5, g6, g7, g8])), (h2, .inl (cB, 65536, .inl zf))]) := by
  refine mk_metI (cc := cX6_numberAt) (maxL := 4) (ret := (some .int)) (by decide) rfl (Nat.le_of_ble_eq_true rfl) ?_
  intro p e s m below meth c A hx hb hr hml hts hown hlocks hin hP hK hN hD hA hS ls hl
  have hown : s.vm.findClass RX6 = some m.cls := hown
  have hl : lv_has ls 4 [(0, .ref h0), (1, .int 0), (2, .int 21), (3, .int 2)] := hl
  refine lv_aload_n hx hb dX6_numberAt_0 rfl (lv_at hl 0 rfl) ?_
  refine va_get (D := D) (ci := 5) (v := .ref h1) (C := RX6) (T := TX6) (N := 6) hx hb hts inX6_numberAt_X6 hown hK hP 0 rfl rfl 0 (by decide) (hts _ wdX6_numberAt_0) (fun _ h9 => h9) rfl dX6_numberAt_1 ?_
  refine va_getN (D := D) (ci := 1) (v := .ref h2) (C := RX1) (T := TX1) (N := 5) hx hb hts inX6_numberAt_X1 hown hK hP 1 rfl rfl 0 (by decide) (hN.f (a := "AgedLog$Regions") (i := 103) (b := "AgedLog$Disk") (n := "row") (d := "[B") (by decide +kernel)) (fun _ h9 => h9) rfl dX6_numberAt_4 ?_
  refine lv_iload_n hx hb dX6_numberAt_7 rfl (lv_at hl 1 rfl) ?_
  refine lv_sipush (v := 4096) hx hb dX6_numberAt_8 (by decide) ?_
  refine lv_imul hx hb dX6_numberAt_11 ?_
  refine lv_topi (fun z_1 ez_1 => ?_)
  obtain rfl : z_1 = 0 := ez_1.trans (by decide)
  refine lv_iload_n hx hb dX6_numberAt_12 rfl (lv_at hl 2 rfl) ?_
  refine lv_iadd hx hb dX6_numberAt_13 ?_
  refine lv_topi (fun z_2 ez_2 => ?_)
  obtain rfl : z_2 = 21 := ez_2.trans (by decide)
  refine lv_iload_n hx hb dX6_numberAt_14 rfl (lv_at hl 3 rfl) ?_
  refine kc_i (wr := [(h0, .inr (5, [.ref h1, g0, g1, g2, g3, g4])), (h1, .inr (1, [.ref h2, g5, g6, g7, g8]))]) (va_runS (As := [.ref h2, .int 21, .int 2]) (rest := []) ⟨hx, hb, hml, hown, hts⟩ (K203_X4_number l D cB cI cZ _ h2 21 (by decide)) (va_cwS 3 hts gX6_numberAt_X4_number rfl rfl rfl (by decide +kernel) ⟨Nat.le_of_ble_eq_true rfl, Nat.le_of_ble_eq_true rfl⟩) (pre_S (hP.sub [2] rfl) hK hN (hD.sub [2] (by decide) rfl)) rfl rfl hl.1 rfl (lv_room (Nat.le_of_ble_eq_true rfl)) dX6_numberAt_15 ⟨Nat.le_of_ble_eq_true rfl, Nat.le_of_ble_eq_true rfl⟩) hP hD hS hA [2] [0, 1] rfl rfl (by decide) (by decide) (fun r_3 u H locs hw hP hD hS => ?_)
  have k_4 := hw
  obtain rfl : r_3 = 0 := k_4
  have hP : va_P D vwCl [(h0, .inr (5, [.ref h1, g0, g1, g2, g3, g4])), (h1, .inr (1, [.ref h2, g5, g6, g7, g8])), (h2, .inl (cB, 65536, .inl zf))] H := hP
  have hD : va_D A [(h0, .inr (5, [.ref h1, g0, g1, g2, g3, g4])), (h1, .inr (1, [.ref h2, g5, g6, g7, g8])), (h2, .inl (cB, 65536, .inl zf))] := hD
  exact kr_i () hx hb hr hlocks hP hD hS rfl dX6_numberAt_18
set_option maxHeartbeats 4000000 in
set_option maxRecDepth 100000 in
theorem K206_X4_number (l : Launch) (D : va_G) (cB cI cZ : ClassId) (sz : Nat) (h0 : Nat)  (p0 : Int32) (i_p0 : 0 ≤ p0.toInt ∧ p0.toInt ≤ 65535) :
    CtI l D cB cI cZ yX4_number wsX4_number { frames := 1, cells := 0, slots := 0, locals := 22 } [.ref h0, .int p0, .int 1] [(h0, .inl (cB, 65536, .inl zf))] sz 0 0
      (fun (r : Int32) (u : Unit) => r = 0)
      (fun u => [(h0, .inl (cB, 65536, .inl zf))]) := by
  refine mk_metI (cc := cX4_number) (maxL := 5) (ret := (some .int)) (by decide) rfl (Nat.le_of_ble_eq_true rfl) ?_
  intro p e s m below meth c A hx hb hr hml hts hown hlocks hin hP hK hN hD hA hS ls hl
  have hown : s.vm.findClass RX4 = some m.cls := hown
  have hl : lv_has ls 5 [(0, .ref h0), (1, .int p0), (2, .int 1)] := hl
  refine lv_aload_n hx hb dX4_number_0 rfl (lv_at hl 0 rfl) ?_
  refine lv_iload_n hx hb dX4_number_1 rfl (lv_at hl 1 rfl) ?_
  refine lv_iload_n hx hb dX4_number_2 rfl (lv_at hl 2 rfl) ?_
  refine kc_i (wr := []) (va_runS (As := [.ref h0, .int p0, .int 1]) (rest := []) ⟨hx, hb, hml, hown, hts⟩ (K60_X4_isWithin l D cB cI cZ _ h0 p0 ⟨by omega, by omega⟩) (va_cwS 3 hts gX4_number_X4_isWithin rfl rfl rfl (by decide +kernel) ⟨Nat.le_of_ble_eq_true rfl, Nat.le_of_ble_eq_true rfl⟩) (pre_S (hP.sub [0] rfl) hK hN (hD.sub [0] (by decide) rfl)) rfl rfl hl.1 rfl (lv_room (Nat.le_of_ble_eq_true rfl)) dX4_number_3 ⟨Nat.le_of_ble_eq_true rfl, Nat.le_of_ble_eq_true rfl⟩) hP hD hS hA [0] [] rfl rfl (by decide) (by decide) (fun r_1 u H locs hw hP hD hS => ?_)
  have k_2 := hw
  obtain rfl : r_1 = 1 := k_2
  have hP : va_P D vwCl [(h0, .inl (cB, 65536, .inl zf))] H := hP
  have hD : va_D A [(h0, .inl (cB, 65536, .inl zf))] := hD
  refine lv_if_ne (tgt := 11) hx hb dX4_number_6 (by decide) (fun c => ?_) (fun c => absurd c (by decide))
  refine lv_iconst (v := 0) hx hb dX4_number_11 (by decide) ?_
  refine lv_istore_n (lv' := [(3, .int 0), (0, .ref h0), (1, .int p0), (2, .int 1)]) hx hb dX4_number_12 rfl hl (by decide) rfl (fun ls hl => ?_)
  refine lv_iload_n hx hb dX4_number_13 rfl (lv_at hl 2 rfl) ?_
  refine lv_istore (lv' := [(4, .int p0), (3, .int 0), (0, .ref h0), (1, .int p0), (2, .int 1)]) hx hb dX4_number_14 hl (by decide) rfl (fun ls hl => ?_)
  refine lv_iload hx hb dX4_number_16 (lv_at hl 0 rfl) ?_
  refine lv_iload_n hx hb dX4_number_18 rfl (lv_at hl 3 rfl) ?_
  refine lv_iload_n hx hb dX4_number_19 rfl (lv_at hl 4 rfl) ?_
  refine lv_iadd hx hb dX4_number_20 ?_
  refine lv_topi (fun x_3 ex_3 => ?_)
  have tx_3 : x_3.toInt = p0.toInt + 1 := by rw [ex_3]; exact ti_add rfl (by decide) (by omega) (by omega)
  refine lv_icmp_ge (tgt := 44) hx hb dX4_number_21 (by decide) (fun c => absurd ((ti_le (x := x_3) (y := p0) (a := x_3.toInt) (b := p0.toInt) rfl rfl).mp c) (by omega)) (fun c => ?_)
  refine lv_iload_n hx hb dX4_number_24 rfl (lv_at hl 1 rfl) ?_
  refine lv_bipush (v := 8) hx hb dX4_number_25 (by decide) ?_
  refine lv_ishl hx hb dX4_number_27 ?_
  refine lv_topi (fun z_4 ez_4 => ?_)
  obtain rfl : z_4 = 0 := ez_4.trans (by decide)
  refine lv_aload_n hx hb dX4_number_28 rfl (lv_at hl 2 rfl) ?_
  refine lv_iload hx hb dX4_number_29 (lv_at hl 0 rfl) ?_
  refine va_bald hx hb hK hP 0 0 rfl rfl (ti_in (a := p0.toInt) rfl (by omega) (by omega)) dX4_number_31 ?_
  refine lv_topi (fun z_5 ez_5 => ?_)
  obtain rfl : z_5 = 0 := ez_5
  refine lv_sipush (v := 255) hx hb dX4_number_32 (by decide) ?_
  refine lv_iand hx hb dX4_number_35 ?_
  refine lv_topi (fun z_6 ez_6 => ?_)
  obtain rfl : z_6 = 0 := ez_6.trans (by decide)
  refine lv_ior hx hb dX4_number_36 ?_
  refine lv_topi (fun z_7 ez_7 => ?_)
  obtain rfl : z_7 = 0 := ez_7.trans (by decide)
  refine lv_istore_n (lv' := [(3, .int 0), (4, .int p0), (0, .ref h0), (1, .int p0), (2, .int 1)]) hx hb dX4_number_37 rfl hl (by decide) rfl (fun ls hl => ?_)
  obtain ⟨x_8, ex_8⟩ : ∃ y : Int32, y = p0 + 1 := ⟨_, rfl⟩
  have tx_8 : x_8.toInt = p0.toInt + 1 := by rw [ex_8]; exact ti_add rfl (by decide) (by omega) (by omega)
  refine lv_iinc (v := x_8) (lv' := [(4, .int x_8), (3, .int 0), (0, .ref h0), (1, .int p0), (2, .int 1)]) hx hb dX4_number_38 hl (k := 1) rfl (by rw [ex_8]; rfl) (by decide) rfl (fun ls hl => ?_)
  refine lv_goto (tgt := 16) hx hb dX4_number_41 (by decide) ?_
  refine lv_iload hx hb dX4_number_16 (lv_at hl 0 rfl) ?_
  refine lv_iload_n hx hb dX4_number_18 rfl (lv_at hl 3 rfl) ?_
  refine lv_iload_n hx hb dX4_number_19 rfl (lv_at hl 4 rfl) ?_
  refine lv_iadd hx hb dX4_number_20 ?_
  refine lv_topi (fun x_9 ex_9 => ?_)
  have tx_9 : x_9.toInt = p0.toInt + 1 := by rw [ex_9]; exact ti_add rfl (by decide) (by omega) (by omega)
  refine lv_icmp_ge (tgt := 44) hx hb dX4_number_21 (by decide) (fun c => ?_) (fun c => absurd ((ti_le (x := x_9) (y := x_8) (a := x_9.toInt) (b := x_8.toInt) rfl rfl).mpr (by omega)) c)
  refine lv_iload_n hx hb dX4_number_44 rfl (lv_at hl 1 rfl) ?_
  exact kr_i () hx hb hr hlocks hP hD hS rfl dX4_number_45
set_option maxHeartbeats 4000000 in
set_option maxRecDepth 100000 in
theorem K205_X6_numberAt (l : Launch) (D : va_G) (cB cI cZ : ClassId) (sz : Nat) (h0 : Nat) (h1 : Nat) (h2 : Nat)  (g0 : Value) (g1 : Value) (g2 : Value) (g3 : Value) (g4 : Value) (g5 : Value) (g6 : Value) (g7 : Value) (g8 : Value)  :
    CtI l D cB cI cZ yX6_numberAt wsX6_numberAt { frames := 2, cells := 0, slots := 0, locals := 46 } [.ref h0, .int 0, .int 0, .int 1] [(h0, .inr (5, [.ref h1, g0, g1, g2, g3, g4])), (h1, .inr (1, [.ref h2, g5, g6, g7, g8])), (h2, .inl (cB, 65536, .inl zf))] sz 0 0
      (fun (r : Int32) (u : Unit) => r = 0)
      (fun u => [(h0, .inr (5, [.ref h1, g0, g1, g2, g3, g4])), (h1, .inr (1, [.ref h2, g5, g6, g7, g8])), (h2, .inl (cB, 65536, .inl zf))]) := by
  refine mk_metI (cc := cX6_numberAt) (maxL := 4) (ret := (some .int)) (by decide) rfl (Nat.le_of_ble_eq_true rfl) ?_
  intro p e s m below meth c A hx hb hr hml hts hown hlocks hin hP hK hN hD hA hS ls hl
  have hown : s.vm.findClass RX6 = some m.cls := hown
  have hl : lv_has ls 4 [(0, .ref h0), (1, .int 0), (2, .int 0), (3, .int 1)] := hl
  refine lv_aload_n hx hb dX6_numberAt_0 rfl (lv_at hl 0 rfl) ?_
  refine va_get (D := D) (ci := 5) (v := .ref h1) (C := RX6) (T := TX6) (N := 6) hx hb hts inX6_numberAt_X6 hown hK hP 0 rfl rfl 0 (by decide) (hts _ wdX6_numberAt_0) (fun _ h9 => h9) rfl dX6_numberAt_1 ?_
  refine va_getN (D := D) (ci := 1) (v := .ref h2) (C := RX1) (T := TX1) (N := 5) hx hb hts inX6_numberAt_X1 hown hK hP 1 rfl rfl 0 (by decide) (hN.f (a := "AgedLog$Regions") (i := 103) (b := "AgedLog$Disk") (n := "row") (d := "[B") (by decide +kernel)) (fun _ h9 => h9) rfl dX6_numberAt_4 ?_
  refine lv_iload_n hx hb dX6_numberAt_7 rfl (lv_at hl 1 rfl) ?_
  refine lv_sipush (v := 4096) hx hb dX6_numberAt_8 (by decide) ?_
  refine lv_imul hx hb dX6_numberAt_11 ?_
  refine lv_topi (fun z_1 ez_1 => ?_)
  obtain rfl : z_1 = 0 := ez_1.trans (by decide)
  refine lv_iload_n hx hb dX6_numberAt_12 rfl (lv_at hl 2 rfl) ?_
  refine lv_iadd hx hb dX6_numberAt_13 ?_
  refine lv_topi (fun z_2 ez_2 => ?_)
  obtain rfl : z_2 = 0 := ez_2.trans (by decide)
  refine lv_iload_n hx hb dX6_numberAt_14 rfl (lv_at hl 3 rfl) ?_
  refine kc_i (wr := [(h0, .inr (5, [.ref h1, g0, g1, g2, g3, g4])), (h1, .inr (1, [.ref h2, g5, g6, g7, g8]))]) (va_runS (As := [.ref h2, .int 0, .int 1]) (rest := []) ⟨hx, hb, hml, hown, hts⟩ (K206_X4_number l D cB cI cZ _ h2 0 (by decide)) (va_cwS 3 hts gX6_numberAt_X4_number rfl rfl rfl (by decide +kernel) ⟨Nat.le_of_ble_eq_true rfl, Nat.le_of_ble_eq_true rfl⟩) (pre_S (hP.sub [2] rfl) hK hN (hD.sub [2] (by decide) rfl)) rfl rfl hl.1 rfl (lv_room (Nat.le_of_ble_eq_true rfl)) dX6_numberAt_15 ⟨Nat.le_of_ble_eq_true rfl, Nat.le_of_ble_eq_true rfl⟩) hP hD hS hA [2] [0, 1] rfl rfl (by decide) (by decide) (fun r_3 u H locs hw hP hD hS => ?_)
  have k_4 := hw
  obtain rfl : r_3 = 0 := k_4
  have hP : va_P D vwCl [(h0, .inr (5, [.ref h1, g0, g1, g2, g3, g4])), (h1, .inr (1, [.ref h2, g5, g6, g7, g8])), (h2, .inl (cB, 65536, .inl zf))] H := hP
  have hD : va_D A [(h0, .inr (5, [.ref h1, g0, g1, g2, g3, g4])), (h1, .inr (1, [.ref h2, g5, g6, g7, g8])), (h2, .inl (cB, 65536, .inl zf))] := hD
  exact kr_i () hx hb hr hlocks hP hD hS rfl dX6_numberAt_18
set_option maxHeartbeats 4000000 in
set_option maxRecDepth 100000 in
theorem K201_X6_isRight (l : Launch) (D : va_G) (cB cI cZ : ClassId) (sz : Nat) (h0 : Nat) (h1 : Nat) (h2 : Nat)  (g0 : Value) (g1 : Value) (g2 : Value) (g3 : Value) (g4 : Value) (g5 : Value) (g6 : Value) (g7 : Value) (g8 : Value)  :
    CtI l D cB cI cZ yX6_isRight wsX6_isRight { frames := 3, cells := 0, slots := 0, locals := 69 } [.ref h0, .int 0] [(h0, .inr (5, [.ref h1, g0, g1, g2, g3, g4])), (h1, .inr (1, [.ref h2, g5, g6, g7, g8])), (h2, .inl (cB, 65536, .inl zf))] sz 0 0
      (fun (r : Int32) (u : Unit) => r = 0)
      (fun u => [(h0, .inr (5, [.ref h1, g0, g1, g2, g3, g4])), (h1, .inr (1, [.ref h2, g5, g6, g7, g8])), (h2, .inl (cB, 65536, .inl zf))]) := by
  refine mk_metI (cc := cX6_isRight) (maxL := 4) (ret := (some .boolean)) (by decide) rfl (Nat.le_of_ble_eq_true rfl) ?_
  intro p e s m below meth c A hx hb hr hml hts hown hlocks hin hP hK hN hD hA hS ls hl
  have hown : s.vm.findClass RX6 = some m.cls := hown
  have hl : lv_has ls 4 [(0, .ref h0), (1, .int 0)] := hl
  refine lv_aload_n hx hb dX6_isRight_0 rfl (lv_at hl 0 rfl) ?_
  refine lv_iload_n hx hb dX6_isRight_1 rfl (lv_at hl 1 rfl) ?_
  refine lv_bipush (v := 21) hx hb dX6_isRight_2 (by decide) ?_
  refine lv_iconst (v := 2) hx hb dX6_isRight_4 (by decide) ?_
  refine kc_i (wr := []) (va_runV (As := [.int 0, .int 21, .int 2]) (rest := []) ⟨hx, hb, hml, hown, hts⟩ (K202_X6_numberAt l D cB cI cZ _ h0 h1 h2 (g0) (g1) (g2) (g3) (g4) (g5) (g6) (g7) (g8)) (cwV 3 hts gX6_isRight_X6_numberAt rfl rfl rfl (by decide +kernel) ⟨Nat.le_of_ble_eq_true rfl, Nat.le_of_ble_eq_true rfl⟩) (pre_V (q := (RX6, TX6, 6)) (ci := 5) (q0 := 0) (hP.sub [0, 1, 2] rfl) hK hN (hD.sub [0, 1, 2] (by decide) rfl) rfl rfl) rfl rfl hl.1 rfl (lv_room (Nat.le_of_ble_eq_true rfl)) dX6_isRight_5 ⟨Nat.le_of_ble_eq_true rfl, Nat.le_of_ble_eq_true rfl⟩) hP hD hS hA [0, 1, 2] [] rfl rfl (by decide) (by decide) (fun r_1 u H locs hw hP hD hS => ?_)
  have k_2 := hw
  obtain rfl : r_1 = 0 := k_2
  have hP : va_P D vwCl [(h0, .inr (5, [.ref h1, g0, g1, g2, g3, g4])), (h1, .inr (1, [.ref h2, g5, g6, g7, g8])), (h2, .inl (cB, 65536, .inl zf))] H := hP
  have hD : va_D A [(h0, .inr (5, [.ref h1, g0, g1, g2, g3, g4])), (h1, .inr (1, [.ref h2, g5, g6, g7, g8])), (h2, .inl (cB, 65536, .inl zf))] := hD
  refine lv_istore_n (lv' := [(2, .int 0), (0, .ref h0), (1, .int 0)]) hx hb dX6_isRight_8 rfl hl (by decide) rfl (fun ls hl => ?_)
  refine lv_bipush (v := 23) hx hb dX6_isRight_9 (by decide) ?_
  refine lv_iload_n hx hb dX6_isRight_11 rfl (lv_at hl 0 rfl) ?_
  refine lv_iconst (v := 5) hx hb dX6_isRight_12 (by decide) ?_
  refine lv_imul hx hb dX6_isRight_13 ?_
  refine lv_topi (fun z_3 ez_3 => ?_)
  obtain rfl : z_3 = 0 := ez_3.trans (by decide)
  refine lv_iadd hx hb dX6_isRight_14 ?_
  refine lv_topi (fun z_4 ez_4 => ?_)
  obtain rfl : z_4 = 23 := ez_4.trans (by decide)
  refine lv_istore_n (lv' := [(3, .int 23), (2, .int 0), (0, .ref h0), (1, .int 0)]) hx hb dX6_isRight_15 rfl hl (by decide) rfl (fun ls hl => ?_)
  refine lv_aload_n hx hb dX6_isRight_16 rfl (lv_at hl 2 rfl) ?_
  refine lv_iload_n hx hb dX6_isRight_17 rfl (lv_at hl 3 rfl) ?_
  refine lv_iconst (v := 0) hx hb dX6_isRight_18 (by decide) ?_
  refine lv_iconst (v := 1) hx hb dX6_isRight_19 (by decide) ?_
  refine kc_i (wr := []) (va_runV (As := [.int 0, .int 0, .int 1]) (rest := []) ⟨hx, hb, hml, hown, hts⟩ (K205_X6_numberAt l D cB cI cZ _ h0 h1 h2 (g0) (g1) (g2) (g3) (g4) (g5) (g6) (g7) (g8)) (cwV 3 hts gX6_isRight_X6_numberAt rfl rfl rfl (by decide +kernel) ⟨Nat.le_of_ble_eq_true rfl, Nat.le_of_ble_eq_true rfl⟩) (pre_V (q := (RX6, TX6, 6)) (ci := 5) (q0 := 0) (hP.sub [0, 1, 2] rfl) hK hN (hD.sub [0, 1, 2] (by decide) rfl) rfl rfl) rfl rfl hl.1 rfl (lv_room (Nat.le_of_ble_eq_true rfl)) dX6_isRight_20 ⟨Nat.le_of_ble_eq_true rfl, Nat.le_of_ble_eq_true rfl⟩) hP hD hS hA [0, 1, 2] [] rfl rfl (by decide) (by decide) (fun r_5 u H locs hw hP hD hS => ?_)
  have k_6 := hw
  obtain rfl : r_5 = 0 := k_6
  have hP : va_P D vwCl [(h0, .inr (5, [.ref h1, g0, g1, g2, g3, g4])), (h1, .inr (1, [.ref h2, g5, g6, g7, g8])), (h2, .inl (cB, 65536, .inl zf))] H := hP
  have hD : va_D A [(h0, .inr (5, [.ref h1, g0, g1, g2, g3, g4])), (h1, .inr (1, [.ref h2, g5, g6, g7, g8])), (h2, .inl (cB, 65536, .inl zf))] := hD
  refine lv_bipush (v := 67) hx hb dX6_isRight_23 (by decide) ?_
  refine lv_icmp_ne (tgt := 107) hx hb dX6_isRight_25 (by decide) (fun c => ?_) (fun c => absurd c (by decide))
  refine lv_iconst (v := 0) hx hb dX6_isRight_107 (by decide) ?_
  exact kr_z () hx hb hr rfl hlocks hP hD hS rfl dX6_isRight_108
set_option maxHeartbeats 4000000 in
set_option maxRecDepth 100000 in
theorem K208_X6_numberAt (l : Launch) (D : va_G) (cB cI cZ : ClassId) (sz : Nat) (h0 : Nat) (h1 : Nat) (h2 : Nat)  (g0 : Value) (g1 : Value) (g2 : Value) (g3 : Value) (g4 : Value) (g5 : Value) (g6 : Value) (g7 : Value) (g8 : Value)  :
    CtI l D cB cI cZ yX6_numberAt wsX6_numberAt { frames := 2, cells := 0, slots := 0, locals := 46 } [.ref h0, .int 1, .int 21, .int 2] [(h0, .inr (5, [.ref h1, g0, g1, g2, g3, g4])), (h1, .inr (1, [.ref h2, g5, g6, g7, g8])), (h2, .inl (cB, 65536, .inl zf))] sz 0 0
      (fun (r : Int32) (u : Unit) => r = 0)
      (fun u => [(h0, .inr (5, [.ref h1, g0, g1, g2, g3, g4])), (h1, .inr (1, [.ref h2, g5, g6, g7, g8])), (h2, .inl (cB, 65536, .inl zf))]) := by
  refine mk_metI (cc := cX6_numberAt) (maxL := 4) (ret := (some .int)) (by decide) rfl (Nat.le_of_ble_eq_true rfl) ?_
  intro p e s m below meth c A hx hb hr hml hts hown hlocks hin hP hK hN hD hA hS ls hl
  have hown : s.vm.findClass RX6 = some m.cls := hown
  have hl : lv_has ls 4 [(0, .ref h0), (1, .int 1), (2, .int 21), (3, .int 2)] := hl
  refine lv_aload_n hx hb dX6_numberAt_0 rfl (lv_at hl 0 rfl) ?_
  refine va_get (D := D) (ci := 5) (v := .ref h1) (C := RX6) (T := TX6) (N := 6) hx hb hts inX6_numberAt_X6 hown hK hP 0 rfl rfl 0 (by decide) (hts _ wdX6_numberAt_0) (fun _ h9 => h9) rfl dX6_numberAt_1 ?_
  refine va_getN (D := D) (ci := 1) (v := .ref h2) (C := RX1) (T := TX1) (N := 5) hx hb hts inX6_numberAt_X1 hown hK hP 1 rfl rfl 0 (by decide) (hN.f (a := "AgedLog$Regions") (i := 103) (b := "AgedLog$Disk") (n := "row") (d := "[B") (by decide +kernel)) (fun _ h9 => h9) rfl dX6_numberAt_4 ?_
  refine lv_iload_n hx hb dX6_numberAt_7 rfl (lv_at hl 1 rfl) ?_
  refine lv_sipush (v := 4096) hx hb dX6_numberAt_8 (by decide) ?_
  refine lv_imul hx hb dX6_numberAt_11 ?_
  refine lv_topi (fun z_1 ez_1 => ?_)
  obtain rfl : z_1 = 4096 := ez_1.trans (by decide)
  refine lv_iload_n hx hb dX6_numberAt_12 rfl (lv_at hl 2 rfl) ?_
  refine lv_iadd hx hb dX6_numberAt_13 ?_
  refine lv_topi (fun z_2 ez_2 => ?_)
  obtain rfl : z_2 = 4117 := ez_2.trans (by decide)
  refine lv_iload_n hx hb dX6_numberAt_14 rfl (lv_at hl 3 rfl) ?_
  refine kc_i (wr := [(h0, .inr (5, [.ref h1, g0, g1, g2, g3, g4])), (h1, .inr (1, [.ref h2, g5, g6, g7, g8]))]) (va_runS (As := [.ref h2, .int 4117, .int 2]) (rest := []) ⟨hx, hb, hml, hown, hts⟩ (K203_X4_number l D cB cI cZ _ h2 4117 (by decide)) (va_cwS 3 hts gX6_numberAt_X4_number rfl rfl rfl (by decide +kernel) ⟨Nat.le_of_ble_eq_true rfl, Nat.le_of_ble_eq_true rfl⟩) (pre_S (hP.sub [2] rfl) hK hN (hD.sub [2] (by decide) rfl)) rfl rfl hl.1 rfl (lv_room (Nat.le_of_ble_eq_true rfl)) dX6_numberAt_15 ⟨Nat.le_of_ble_eq_true rfl, Nat.le_of_ble_eq_true rfl⟩) hP hD hS hA [2] [0, 1] rfl rfl (by decide) (by decide) (fun r_3 u H locs hw hP hD hS => ?_)
  have k_4 := hw
  obtain rfl : r_3 = 0 := k_4
  have hP : va_P D vwCl [(h0, .inr (5, [.ref h1, g0, g1, g2, g3, g4])), (h1, .inr (1, [.ref h2, g5, g6, g7, g8])), (h2, .inl (cB, 65536, .inl zf))] H := hP
  have hD : va_D A [(h0, .inr (5, [.ref h1, g0, g1, g2, g3, g4])), (h1, .inr (1, [.ref h2, g5, g6, g7, g8])), (h2, .inl (cB, 65536, .inl zf))] := hD
  exact kr_i () hx hb hr hlocks hP hD hS rfl dX6_numberAt_18
