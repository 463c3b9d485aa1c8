set_option maxHeartbeats 4000000 in
set_option maxRecDepth 100000 in
theorem K96_X8_came (l : Launch) (D : va_G) (cB cI cZ : ClassId) (sz : Nat) (h0 : Nat) (h1 : Nat) (h2 : Nat) (h3 : Nat)  (g0 : Value) (g1 : Value) (g2 : Value) (g3 : Value) (g4 : Value) (g5 : Value) (g6 : Value) (g7 : Value) (g8 : Value) (g9 : Value) (g10 : Value) (g11 : Value) (g12 : Value) (g13 : Value) (g14 : Value) (g15 : Value) (g16 : Value) (g17 : Value) (g18 : Value) (g19 : Value) (g20 : Value) (g21 : Value) (g22 : Value) (g23 : Value) (g24 : Value) (g25 : Value) (f0 : Nat → Int32) (f1 : Nat → Int32)  :
    CtV l D cB cI cZ yX8_came wsX8_came { frames := 0, cells := 0, slots := 0, locals := 0 } [.ref h0, .int 8, .int 10, .int 26] [(h0, .inr (7, [g0, g1, g2, g3, g4, g5, g6, g7, g8, g9, g10, g11, g12, g13, g14, g15, g16, g17, .int 1, .ref h1, .ref h2, .ref h3, g18, g19, g20, g21, g22, g23, g24, g25])), (h1, .inl (cI, 128, .inl f0)), (h2, .inl (cI, 128, .inl zf)), (h3, .inl (cI, 128, .inl f1))] sz 0 0
      (fun (u : Int32 × (Nat → Int32) × (Nat → Int32) × (Nat → Int32)) => 1 ≤ u.1.toInt ∧ u.1.toInt ≤ 2)
      (fun u => [(h0, .inr (7, [g0, g1, g2, g3, g4, g5, g6, g7, g8, g9, g10, g11, g12, g13, g14, g15, g16, g17, .int u.1, .ref h1, .ref h2, .ref h3, g18, g19, g20, g21, g22, g23, g24, g25])), (h1, .inl (cI, 128, .inl u.2.1)), (h2, .inl (cI, 128, .inl u.2.2.1)), (h3, .inl (cI, 128, .inl u.2.2.2))]) := by
  refine mk_metV (cc := cX8_came) (maxL := 4) (ret := none) (by decide) rfl (Nat.le_of_ble_eq_true rfl) ?_
  intro p e s m below meth c A hx hb hr hml hts hown hlocks hin hP hK hN hD hA hS ls hl
  have hown : s.vm.findClass RX8 = some m.cls := hown
  have hl : lv_has ls 4 [(0, .ref h0), (1, .int 8), (2, .int 10), (3, .int 26)] := hl
  refine lv_aload_n hx hb dX8_came_0 rfl (lv_at hl 0 rfl) ?_
  refine va_get (D := D) (ci := 7) (v := .int 1) (C := RX8) (T := TX8) (N := 30) hx hb hts inX8_came_X8 hown hK hP 0 rfl rfl 18 (by decide) (hts _ wdX8_came_0) (fun _ h9 => h9) rfl dX8_came_1 ?_
  refine lv_if_le (tgt := 35) hx hb dX8_came_4 (by decide) (fun c => absurd c (by decide)) (fun c => ?_)
  refine lv_aload_n hx hb dX8_came_7 rfl (lv_at hl 0 rfl) ?_
  refine va_get (D := D) (ci := 7) (v := .ref h1) (C := RX8) (T := TX8) (N := 30) hx hb hts inX8_came_X8 hown hK hP 0 rfl rfl 19 (by decide) (hts _ wdX8_came_1) (fun _ h9 => h9) rfl dX8_came_8 ?_
  refine lv_aload_n hx hb dX8_came_11 rfl (lv_at hl 0 rfl) ?_
  refine va_get (D := D) (ci := 7) (v := .int 1) (C := RX8) (T := TX8) (N := 30) hx hb hts inX8_came_X8 hown hK hP 0 rfl rfl 18 (by decide) (hts _ wdX8_came_0) (fun _ h9 => h9) rfl dX8_came_12 ?_
  refine lv_iconst (v := 1) hx hb dX8_came_15 (by decide) ?_
  refine lv_isub hx hb dX8_came_16 ?_
  refine lv_topi (fun z_1 ez_1 => ?_)
  obtain rfl : z_1 = 0 := ez_1.trans (by decide)
  refine va_iald hx hb hK hP 1 1 rfl rfl (ti_in (a := 0) (by decide) (by decide) (by decide)) dX8_came_17 ?_
  refine lv_topi (fun x_2 ex_2 => ?_)
  refine lv_iload_n hx hb dX8_came_18 rfl (lv_at hl 1 rfl) ?_
  refine lv_icmp_ne (tgt := 35) hx hb dX8_came_19 (by decide) (fun c => ?_) (fun c => ?_)
  · skip
    have k_3 := mt (ti_eq (x := x_2) (y := 8) (a := x_2.toInt) (b := 8) rfl (by decide)).mpr c
    refine lv_aload_n hx hb dX8_came_35 rfl (lv_at hl 0 rfl) ?_
    refine va_get (D := D) (ci := 7) (v := .ref h1) (C := RX8) (T := TX8) (N := 30) hx hb hts inX8_came_X8 hown hK hP 0 rfl rfl 19 (by decide) (hts _ wdX8_came_1) (fun _ h9 => h9) rfl dX8_came_36 ?_
    refine lv_aload_n hx hb dX8_came_39 rfl (lv_at hl 0 rfl) ?_
    refine va_get (D := D) (ci := 7) (v := .int 1) (C := RX8) (T := TX8) (N := 30) hx hb hts inX8_came_X8 hown hK hP 0 rfl rfl 18 (by decide) (hts _ wdX8_came_0) (fun _ h9 => h9) rfl dX8_came_40 ?_
    refine lv_iload_n hx hb dX8_came_43 rfl (lv_at hl 1 rfl) ?_
    refine va_iast hx hb hK hP hD hS 1 1 rfl rfl (ti_in (a := 1) (by decide) (by decide) (by decide)) dX8_came_44 (fun H locs hP hD hS => ?_)
    obtain ⟨f_4, ef_4⟩ : ∃ g : Nat → Int32, g = upd f0 (Int32.toNatClampNeg 1) 8 := ⟨_, rfl⟩
    rw [← ef_4] at hP hD
    have hP : va_P D vwCl [(h0, .inr (7, [g0, g1, g2, g3, g4, g5, g6, g7, g8, g9, g10, g11, g12, g13, g14, g15, g16, g17, .int 1, .ref h1, .ref h2, .ref h3, g18, g19, g20, g21, g22, g23, g24, g25])), (h1, .inl (cI, 128, .inl f_4)), (h2, .inl (cI, 128, .inl zf)), (h3, .inl (cI, 128, .inl f1))] H := hP
    have hD : va_D A [(h0, .inr (7, [g0, g1, g2, g3, g4, g5, g6, g7, g8, g9, g10, g11, g12, g13, g14, g15, g16, g17, .int 1, .ref h1, .ref h2, .ref h3, g18, g19, g20, g21, g22, g23, g24, g25])), (h1, .inl (cI, 128, .inl f_4)), (h2, .inl (cI, 128, .inl zf)), (h3, .inl (cI, 128, .inl f1))] := hD
    refine lv_aload_n hx hb dX8_came_45 rfl (lv_at hl 0 rfl) ?_
    refine va_get (D := D) (ci := 7) (v := .ref h2) (C := RX8) (T := TX8) (N := 30) hx hb hts inX8_came_X8 hown hK hP 0 rfl rfl 20 (by decide) (hts _ wdX8_came_2) (fun _ h9 => h9) rfl dX8_came_46 ?_
    refine lv_aload_n hx hb dX8_came_49 rfl (lv_at hl 0 rfl) ?_
    refine va_get (D := D) (ci := 7) (v := .int 1) (C := RX8) (T := TX8) (N := 30) hx hb hts inX8_came_X8 hown hK hP 0 rfl rfl 18 (by decide) (hts _ wdX8_came_0) (fun _ h9 => h9) rfl dX8_came_50 ?_
    refine lv_iload_n hx hb dX8_came_53 rfl (lv_at hl 2 rfl) ?_
    refine va_iast hx hb hK hP hD hS 2 1 rfl rfl (ti_in (a := 1) (by decide) (by decide) (by decide)) dX8_came_54 (fun H locs hP hD hS => ?_)
    obtain ⟨f_5, ef_5⟩ : ∃ g : Nat → Int32, g = upd zf (Int32.toNatClampNeg 1) 10 := ⟨_, rfl⟩
    rw [← ef_5] at hP hD
    have hP : va_P D vwCl [(h0, .inr (7, [g0, g1, g2, g3, g4, g5, g6, g7, g8, g9, g10, g11, g12, g13, g14, g15, g16, g17, .int 1, .ref h1, .ref h2, .ref h3, g18, g19, g20, g21, g22, g23, g24, g25])), (h1, .inl (cI, 128, .inl f_4)), (h2, .inl (cI, 128, .inl f_5)), (h3, .inl (cI, 128, .inl f1))] H := hP
    have hD : va_D A [(h0, .inr (7, [g0, g1, g2, g3, g4, g5, g6, g7, g8, g9, g10, g11, g12, g13, g14, g15, g16, g17, .int 1, .ref h1, .ref h2, .ref h3, g18, g19, g20, g21, g22, g23, g24, g25])), (h1, .inl (cI, 128, .inl f_4)), (h2, .inl (cI, 128, .inl f_5)), (h3, .inl (cI, 128, .inl f1))] := hD
    refine lv_aload_n hx hb dX8_came_55 rfl (lv_at hl 0 rfl) ?_
    refine va_get (D := D) (ci := 7) (v := .ref h3) (C := RX8) (T := TX8) (N := 30) hx hb hts inX8_came_X8 hown hK hP 0 rfl rfl 21 (by decide) (hts _ wdX8_came_3) (fun _ h9 => h9) rfl dX8_came_56 ?_
    refine lv_aload_n hx hb dX8_came_59 rfl (lv_at hl 0 rfl) ?_
    refine va_get (D := D) (ci := 7) (v := .int 1) (C := RX8) (T := TX8) (N := 30) hx hb hts inX8_came_X8 hown hK hP 0 rfl rfl 18 (by decide) (hts _ wdX8_came_0) (fun _ h9 => h9) rfl dX8_came_60 ?_
    refine lv_iload_n hx hb dX8_came_63 rfl (lv_at hl 3 rfl) ?_
    refine va_iast hx hb hK hP hD hS 3 1 rfl rfl (ti_in (a := 1) (by decide) (by decide) (by decide)) dX8_came_64 (fun H locs hP hD hS => ?_)
    obtain ⟨f_6, ef_6⟩ : ∃ g : Nat → Int32, g = upd f1 (Int32.toNatClampNeg 1) 26 := ⟨_, rfl⟩
    rw [← ef_6] at hP hD
    have hP : va_P D vwCl [(h0, .inr (7, [g0, g1, g2, g3, g4, g5, g6, g7, g8, g9, g10, g11, g12, g13, g14, g15, g16, g17, .int 1, .ref h1, .ref h2, .ref h3, g18, g19, g20, g21, g22, g23, g24, g25])), (h1, .inl (cI, 128, .inl f_4)), (h2, .inl (cI, 128, .inl f_5)), (h3, .inl (cI, 128, .inl f_6))] H := hP
    have hD : va_D A [(h0, .inr (7, [g0, g1, g2, g3, g4, g5, g6, g7, g8, g9, g10, g11, g12, g13, g14, g15, g16, g17, .int 1, .ref h1, .ref h2, .ref h3, g18, g19, g20, g21, g22, g23, g24, g25])), (h1, .inl (cI, 128, .inl f_4)), (h2, .inl (cI, 128, .inl f_5)), (h3, .inl (cI, 128, .inl f_6))] := hD
    refine lv_aload_n hx hb dX8_came_65 rfl (lv_at hl 0 rfl) ?_
    refine lv_dup hx hb dX8_came_66 rfl ?_
    refine va_get (D := D) (ci := 7) (v := .int 1) (C := RX8) (T := TX8) (N := 30) hx hb hts inX8_came_X8 hown hK hP 0 rfl rfl 18 (by decide) (hts _ wdX8_came_0) (fun _ h9 => h9) rfl dX8_came_67 ?_
    refine lv_iconst (v := 1) hx hb dX8_came_70 (by decide) ?_
    refine lv_iadd hx hb dX8_came_71 ?_
    refine lv_topi (fun z_7 ez_7 => ?_)
    obtain rfl : z_7 = 2 := ez_7.trans (by decide)
    refine va_put (D := D) (ci := 7) (v := .int 2) (ty := .int) (C := RX8) (T := TX8) (N := 30) hx hb hts inX8_came_X8 tyX8 tyX8_ok nmX8 hown hK hP hD hS 0 rfl rfl 18 (by decide) (hts _ wdX8_came_0) (fun _ h9 => h9) rfl (by decide +kernel) rfl rfl (Nat.le_of_ble_eq_true rfl) dX8_came_72 (fun H locs hP hD hS => ?_)
    have hP : va_P D vwCl [(h0, .inr (7, [g0, g1, g2, g3, g4, g5, g6, g7, g8, g9, g10, g11, g12, g13, g14, g15, g16, g17, .int 2, .ref h1, .ref h2, .ref h3, g18, g19, g20, g21, g22, g23, g24, g25])), (h1, .inl (cI, 128, .inl f_4)), (h2, .inl (cI, 128, .inl f_5)), (h3, .inl (cI, 128, .inl f_6))] H := hP
    have hD : va_D A [(h0, .inr (7, [g0, g1, g2, g3, g4, g5, g6, g7, g8, g9, g10, g11, g12, g13, g14, g15, g16, g17, .int 2, .ref h1, .ref h2, .ref h3, g18, g19, g20, g21, g22, g23, g24, g25])), (h1, .inl (cI, 128, .inl f_4)), (h2, .inl (cI, 128, .inl f_5)), (h3, .inl (cI, 128, .inl f_6))] := hD
    exact kr_v (2, f_4, f_5, f_6) hx hb hr hlocks hP hD hS ⟨(by show 1 ≤ Int32.toInt 2; decide), (by show Int32.toInt 2 ≤ 2; decide)⟩ dX8_came_75
  · skip
    have k_8 := (ti_eq (x := x_2) (y := 8) (a := x_2.toInt) (b := 8) rfl (by decide)).mp c
    refine lv_aload_n hx hb dX8_came_22 rfl (lv_at hl 0 rfl) ?_
    refine va_get (D := D) (ci := 7) (v := .ref h3) (C := RX8) (T := TX8) (N := 30) hx hb hts inX8_came_X8 hown hK hP 0 rfl rfl 21 (by decide) (hts _ wdX8_came_3) (fun _ h9 => h9) rfl dX8_came_23 ?_
    refine lv_aload_n hx hb dX8_came_26 rfl (lv_at hl 0 rfl) ?_
    refine va_get (D := D) (ci := 7) (v := .int 1) (C := RX8) (T := TX8) (N := 30) hx hb hts inX8_came_X8 hown hK hP 0 rfl rfl 18 (by decide) (hts _ wdX8_came_0) (fun _ h9 => h9) rfl dX8_came_27 ?_
    refine lv_iconst (v := 1) hx hb dX8_came_30 (by decide) ?_
    refine lv_isub hx hb dX8_came_31 ?_
    refine lv_topi (fun z_9 ez_9 => ?_)
    obtain rfl : z_9 = 0 := ez_9.trans (by decide)
    refine lv_iload_n hx hb dX8_came_32 rfl (lv_at hl 3 rfl) ?_
    refine va_iast hx hb hK hP hD hS 3 1 rfl rfl (ti_in (a := 0) (by decide) (by decide) (by decide)) dX8_came_33 (fun H locs hP hD hS => ?_)
    obtain ⟨f_10, ef_10⟩ : ∃ g : Nat → Int32, g = upd f1 (Int32.toNatClampNeg 0) 26 := ⟨_, rfl⟩
    rw [← ef_10] at hP hD
    have hP : va_P D vwCl [(h0, .inr (7, [g0, g1, g2, g3, g4, g5, g6, g7, g8, g9, g10, g11, g12, g13, g14, g15, g16, g17, .int 1, .ref h1, .ref h2, .ref h3, g18, g19, g20, g21, g22, g23, g24, g25])), (h1, .inl (cI, 128, .inl f0)), (h2, .inl (cI, 128, .inl zf)), (h3, .inl (cI, 128, .inl f_10))] H := hP
    have hD : va_D A [(h0, .inr (7, [g0, g1, g2, g3, g4, g5, g6, g7, g8, g9, g10, g11, g12, g13, g14, g15, g16, g17, .int 1, .ref h1, .ref h2, .ref h3, g18, g19, g20, g21, g22, g23, g24, g25])), (h1, .inl (cI, 128, .inl f0)), (h2, .inl (cI, 128, .inl zf)), (h3, .inl (cI, 128, .inl f_10))] := hD
    exact kr_v (1, f0, zf, f_10) hx hb hr hlocks hP hD hS ⟨(by show 1 ≤ Int32.toInt 1; decide), (by show Int32.toInt 1 ≤ 2; decide)⟩ dX8_came_34
set_option maxHeartbeats 4000000 in
set_option maxRecDepth 100000 in
theorem K97_X8_at (l : Launch) (D : va_G) (cB cI cZ : ClassId) (sz : Nat)   (p0 : Int32) (i_p0 : 10 ≤ p0.toInt ∧ p0.toInt ≤ 25) :
    CtI l D cB cI cZ yX8_at wsX8_at { frames := 0, cells := 0, slots := 0, locals := 0 } [.int 8, .int p0] [] sz 0 0
      (fun (r : Int32) (u : Unit) => r.toInt = p0.toInt + 8192)
      (fun u => []) := by
  refine mk_metI (cc := cX8_at) (maxL := 2) (ret := (some .int)) (by decide) rfl (Nat.le_of_ble_eq_true rfl) ?_
  intro p e s m below meth c A hx hb hr hml hts hown hlocks hin hP hK hN hD hA hS ls hl
  have hown : s.vm.findClass RX8 = some m.cls := hown
  have hl : lv_has ls 2 [(0, .int 8), (1, .int p0)] := hl
  refine lv_sipush (v := 1024) hx hb dX8_at_0 (by decide) ?_
  refine lv_iload_n hx hb dX8_at_3 rfl (lv_at hl 0 rfl) ?_
  refine lv_imul hx hb dX8_at_4 ?_
  refine lv_topi (fun z_1 ez_1 => ?_)
  obtain rfl : z_1 = 8192 := ez_1.trans (by decide)
  refine lv_iload_n hx hb dX8_at_5 rfl (lv_at hl 1 rfl) ?_
  refine lv_iadd hx hb dX8_at_6 ?_
  refine lv_topi (fun x_2 ex_2 => ?_)
  have tx_2 : x_2.toInt = 8192 + p0.toInt := by rw [ex_2]; exact ti_add (by decide) rfl (by omega) (by omega)
  exact kr_i () hx hb hr hlocks hP hD hS (by first | omega | (show Int32.toInt x_2 = Int32.toInt p0 + 8192; omega) | decide) dX8_at_7
set_option maxHeartbeats 4000000 in
set_option maxRecDepth 100000 in
theorem K85_X8_record (l : Launch) (D : va_G) (cB cI cZ : ClassId) (sz : Nat) (h0 : Nat) (h1 : Nat) (h2 : Nat) (h3 : Nat) (h4 : Nat) (h5 : Nat) (h6 : Nat) (h7 : Nat) (h8 : Nat) (h9 : Nat)  (p0 : Int32) (g0 : Value) (g1 : Value) (g2 : Value) (g3 : Value) (g4 : Value) (g5 : Value) (g6 : Value) (g7 : Value) (g8 : Value) (g9 : Value) (g10 : Value) (g11 : Value) (g12 : Value) (g13 : Value) (g14 : Value) (i_p0 : 0 ≤ p0.toInt ∧ p0.toInt ≤ 299) :
    CtV l D cB cI cZ yX8_record wsX8_record { frames := 2, cells := 0, slots := 0, locals := 47 } [.ref h0, .int 1, .int p0, .int 0, .int 0] [(h0, .inr (7, [g0, g1, g2, .ref h1, g3, .ref h2, .int 0, .int 0, .int 0, .int 1, g4, g5, g6, g7, g8, g9, .ref h3, .ref h4, .int 0, .ref h5, .ref h6, .ref h7, g10, g11, .ref h8, .int 0, .ref h9, g12, g13, g14])), (h1, .inl (cB, 65536, .inl zf)), (h2, .inl (cI, 64, .inl zf)), (h3, .inl (cI, 300, .inl zf)), (h4, .inl (cI, 300, .inl zf)), (h5, .inl (cI, 128, .inl zf)), (h6, .inl (cI, 128, .inl zf)), (h7, .inl (cI, 128, .inl zf)), (h8, .inl (cB, 4096, .inl zf)), (h9, .inl (cI, 64, .inl zf))] sz 0 0
      (fun (u : (Nat → Int32) × (Nat → Int32) × (Nat → Int32) × (Nat → Int32) × (Nat → Int32) × Int32 × (Nat → Int32) × (Nat → Int32) × (Nat → Int32)) => FB u.2.2.1 ∧ FB u.2.2.2.2.1 ∧ 1 ≤ u.2.2.2.2.2.1.toInt ∧ u.2.2.2.2.2.1.toInt ≤ 2)
      (fun u => [(h3, .inl (cI, 300, .inl u.1)), (h4, .inl (cI, 300, .inl u.2.1)), (h1, .inl (cB, 65536, .inl u.2.2.1)), (h2, .inl (cI, 64, .inl u.2.2.2.1)), (h9, .inl (cI, 64, .inl zf)), (h8, .inl (cB, 4096, .inl u.2.2.2.2.1)), (h0, .inr (7, [g0, g1, g2, .ref h1, g3, .ref h2, .int 8, .int 26, .int 1, .int 2, g4, g5, g6, g7, g8, g9, .ref h3, .ref h4, .int u.2.2.2.2.2.1, .ref h5, .ref h6, .ref h7, g10, g11, .ref h8, .int 16, .ref h9, g12, g13, g14])), (h5, .inl (cI, 128, .inl u.2.2.2.2.2.2.1)), (h6, .inl (cI, 128, .inl u.2.2.2.2.2.2.2.1)), (h7, .inl (cI, 128, .inl u.2.2.2.2.2.2.2.2))]) := by
  refine mk_metV (cc := cX8_record) (maxL := 6) (ret := none) (by decide) rfl (Nat.le_of_ble_eq_true rfl) ?_
  intro p e s m below meth c A hx hb hr hml hts hown hlocks hin hP hK hN hD hA hS ls hl
  have hown : s.vm.findClass RX8 = some m.cls := hown
  have hl : lv_has ls 6 [(0, .ref h0), (1, .int 1), (2, .int p0), (3, .int 0), (4, .int 0)] := hl
  refine lv_aload_n hx hb dX8_record_0 rfl (lv_at hl 0 rfl) ?_
  refine lv_bipush (v := 16) hx hb dX8_record_1 (by decide) ?_
  refine lv_iload_n hx hb dX8_record_3 rfl (lv_at hl 3 rfl) ?_
  refine lv_iadd hx hb dX8_record_4 ?_
  refine lv_topi (fun z_1 ez_1 => ?_)
  obtain rfl : z_1 = 16 := ez_1.trans (by decide)
  refine kc_i (wr := [(h1, .inl (cB, 65536, .inl zf)), (h2, .inl (cI, 64, .inl zf)), (h3, .inl (cI, 300, .inl zf)), (h4, .inl (cI, 300, .inl zf)), (h5, .inl (cI, 128, .inl zf)), (h6, .inl (cI, 128, .inl zf)), (h7, .inl (cI, 128, .inl zf)), (h8, .inl (cB, 4096, .inl zf)), (h9, .inl (cI, 64, .inl zf))]) (va_runV (As := [.int 16]) (rest := []) ⟨hx, hb, hml, hown, hts⟩ (K83_X8_opens l D cB cI cZ _ h0 (g0) (g1) (g2) ((.ref h1)) (g3) ((.ref h2)) ((.int 0)) ((.int 0)) ((.int 1)) (g4) (g5) (g6) (g7) (g8) (g9) ((.ref h3)) ((.ref h4)) ((.int 0)) ((.ref h5)) ((.ref h6)) ((.ref h7)) (g10) (g11) ((.ref h8)) ((.int 0)) ((.ref h9)) (g12) (g13) (g14)) (cwV 1 hts gX8_record_X8_opens rfl rfl rfl (by decide +kernel) ⟨Nat.le_of_ble_eq_true rfl, Nat.le_of_ble_eq_true rfl⟩) (pre_V (q := (RX8, TX8, 30)) (ci := 7) (q0 := 0) (hP.sub [0] rfl) hK hN (hD.sub [0] (by decide) rfl) rfl rfl) rfl rfl hl.1 rfl (lv_room (Nat.le_of_ble_eq_true rfl)) dX8_record_5 ⟨Nat.le_of_ble_eq_true rfl, Nat.le_of_ble_eq_true rfl⟩) hP hD hS hA [0] [1, 2, 3, 4, 5, 6, 7, 8, 9] rfl rfl (by decide) (by decide) (fun r_2 u H locs hw hP hD hS => ?_)
  have k_3 := hw
  obtain rfl : r_2 = 1 := k_3
  have hP : va_P D vwCl [(h1, .inl (cB, 65536, .inl zf)), (h2, .inl (cI, 64, .inl zf)), (h3, .inl (cI, 300, .inl zf)), (h4, .inl (cI, 300, .inl zf)), (h5, .inl (cI, 128, .inl zf)), (h6, .inl (cI, 128, .inl zf)), (h7, .inl (cI, 128, .inl zf)), (h8, .inl (cB, 4096, .inl zf)), (h9, .inl (cI, 64, .inl zf)), (h0, .inr (7, [g0, g1, g2, .ref h1, g3, .ref h2, .int 0, .int 0, .int 0, .int 1, g4, g5, g6, g7, g8, g9, .ref h3, .ref h4, .int 0, .ref h5, .ref h6, .ref h7, g10, g11, .ref h8, .int 0, .ref h9, g12, g13, g14]))] H := hP
  have hD : va_D A [(h1, .inl (cB, 65536, .inl zf)), (h2, .inl (cI, 64, .inl zf)), (h3, .inl (cI, 300, .inl zf)), (h4, .inl (cI, 300, .inl zf)), (h5, .inl (cI, 128, .inl zf)), (h6, .inl (cI, 128, .inl zf)), (h7, .inl (cI, 128, .inl zf)), (h8, .inl (cB, 4096, .inl zf)), (h9, .inl (cI, 64, .inl zf)), (h0, .inr (7, [g0, g1, g2, .ref h1, g3, .ref h2, .int 0, .int 0, .int 0, .int 1, g4, g5, g6, g7, g8, g9, .ref h3, .ref h4, .int 0, .ref h5, .ref h6, .ref h7, g10, g11, .ref h8, .int 0, .ref h9, g12, g13, g14]))] := hD
  refine lv_if_eq (tgt := 15) hx hb dX8_record_8 (by decide) (fun c => absurd c (by decide)) (fun c => ?_)
  refine lv_aload_n hx hb dX8_record_11 rfl (lv_at hl 0 rfl) ?_
  refine kc_v (wr := [(h3, .inl (cI, 300, .inl zf)), (h4, .inl (cI, 300, .inl zf))]) (va_runV (As := []) (rest := []) ⟨hx, hb, hml, hown, hts⟩ (K86_X8_openNext l D cB cI cZ _ h0 h1 h2 h5 h6 h7 h8 h9 (g0) (g1) (g2) (g3) ((.int 0)) ((.int 1)) (g4) (g5) (g6) (g7) (g8) (g9) ((.ref h3)) ((.ref h4)) (g10) (g11) (g12) (g13) (g14)) (cwV 0 hts gX8_record_X8_openNext rfl rfl rfl (by decide +kernel) ⟨Nat.le_of_ble_eq_true rfl, Nat.le_of_ble_eq_true rfl⟩) (pre_V (q := (RX8, TX8, 30)) (ci := 7) (q0 := 0) (hP.sub [9, 0, 1, 4, 5, 6, 7, 8] rfl) hK hN (hD.sub [9, 0, 1, 4, 5, 6, 7, 8] (by decide) rfl) rfl rfl) rfl rfl hl.1 rfl (lv_room (Nat.le_of_ble_eq_true rfl)) dX8_record_12 ⟨Nat.le_of_ble_eq_true rfl, Nat.le_of_ble_eq_true rfl⟩) hP hD hS hA [9, 0, 1, 4, 5, 6, 7, 8] [2, 3] rfl rfl (by decide) (by decide) (fun  u H locs hw hP hD hS => ?_)
  obtain ⟨f_4, f_5, f_6, f_7, f_8⟩ := u
  obtain ⟨bf_4, bf_6⟩ := hw
  have bf_4 : FB f_4 := bf_4
  have bf_6 : FB f_6 := bf_6
  have hP : va_P D vwCl [(h3, .inl (cI, 300, .inl zf)), (h4, .inl (cI, 300, .inl zf)), (h1, .inl (cB, 65536, .inl f_4)), (h2, .inl (cI, 64, .inl f_5)), (h9, .inl (cI, 64, .inl zf)), (h8, .inl (cB, 4096, .inl f_6)), (h0, .inr (7, [g0, g1, g2, .ref h1, g3, .ref h2, .int 8, .int 10, .int 1, .int 1, g4, g5, g6, g7, g8, g9, .ref h3, .ref h4, .int 1, .ref h5, .ref h6, .ref h7, g10, g11, .ref h8, .int 10, .ref h9, g12, g13, g14])), (h5, .inl (cI, 128, .inl f_7)), (h6, .inl (cI, 128, .inl zf)), (h7, .inl (cI, 128, .inl f_8))] H := hP
  have hD : va_D A [(h3, .inl (cI, 300, .inl zf)), (h4, .inl (cI, 300, .inl zf)), (h1, .inl (cB, 65536, .inl f_4)), (h2, .inl (cI, 64, .inl f_5)), (h9, .inl (cI, 64, .inl zf)), (h8, .inl (cB, 4096, .inl f_6)), (h0, .inr (7, [g0, g1, g2, .ref h1, g3, .ref h2, .int 8, .int 10, .int 1, .int 1, g4, g5, g6, g7, g8, g9, .ref h3, .ref h4, .int 1, .ref h5, .ref h6, .ref h7, g10, g11, .ref h8, .int 10, .ref h9, g12, g13, g14])), (h5, .inl (cI, 128, .inl f_7)), (h6, .inl (cI, 128, .inl zf)), (h7, .inl (cI, 128, .inl f_8))] := hD
  refine lv_aload_n hx hb dX8_record_15 rfl (lv_at hl 0 rfl) ?_
  refine lv_iconst (v := 0) hx hb dX8_record_16 (by decide) ?_
  refine va_put (D := D) (ci := 7) (v := .int 0) (ty := .int) (C := RX8) (T := TX8) (N := 30) hx hb hts inX8_record_X8 tyX8 tyX8_ok nmX8 hown hK hP hD hS 6 rfl rfl 25 (by decide) (hts _ wdX8_record_0) (fun _ h9 => h9) rfl (by decide +kernel) rfl rfl (Nat.le_of_ble_eq_true rfl) dX8_record_17 (fun H locs hP hD hS => ?_)
  have hP : va_P D vwCl [(h3, .inl (cI, 300, .inl zf)), (h4, .inl (cI, 300, .inl zf)), (h1, .inl (cB, 65536, .inl f_4)), (h2, .inl (cI, 64, .inl f_5)), (h9, .inl (cI, 64, .inl zf)), (h8, .inl (cB, 4096, .inl f_6)), (h0, .inr (7, [g0, g1, g2, .ref h1, g3, .ref h2, .int 8, .int 10, .int 1, .int 1, g4, g5, g6, g7, g8, g9, .ref h3, .ref h4, .int 1, .ref h5, .ref h6, .ref h7, g10, g11, .ref h8, .int 0, .ref h9, g12, g13, g14])), (h5, .inl (cI, 128, .inl f_7)), (h6, .inl (cI, 128, .inl zf)), (h7, .inl (cI, 128, .inl f_8))] H := hP
  have hD : va_D A [(h3, .inl (cI, 300, .inl zf)), (h4, .inl (cI, 300, .inl zf)), (h1, .inl (cB, 65536, .inl f_4)), (h2, .inl (cI, 64, .inl f_5)), (h9, .inl (cI, 64, .inl zf)), (h8, .inl (cB, 4096, .inl f_6)), (h0, .inr (7, [g0, g1, g2, .ref h1, g3, .ref h2, .int 8, .int 10, .int 1, .int 1, g4, g5, g6, g7, g8, g9, .ref h3, .ref h4, .int 1, .ref h5, .ref h6, .ref h7, g10, g11, .ref h8, .int 0, .ref h9, g12, g13, g14])), (h5, .inl (cI, 128, .inl f_7)), (h6, .inl (cI, 128, .inl zf)), (h7, .inl (cI, 128, .inl f_8))] := hD
  refine lv_aload_n hx hb dX8_record_20 rfl (lv_at hl 0 rfl) ?_
  refine lv_iload_n hx hb dX8_record_21 rfl (lv_at hl 1 rfl) ?_
  refine lv_iconst (v := 1) hx hb dX8_record_22 (by decide) ?_
  refine kc_v (wr := [(h3, .inl (cI, 300, .inl zf)), (h4, .inl (cI, 300, .inl zf)), (h1, .inl (cB, 65536, .inl f_4)), (h2, .inl (cI, 64, .inl f_5)), (h9, .inl (cI, 64, .inl zf)), (h5, .inl (cI, 128, .inl f_7)), (h6, .inl (cI, 128, .inl zf)), (h7, .inl (cI, 128, .inl f_8))]) (va_runV (As := [.int 1, .int 1]) (rest := []) ⟨hx, hb, hml, hown, hts⟩ (K88_X8_octets l D cB cI cZ _ h0 h8 1 (g0) (g1) (g2) ((.ref h1)) (g3) ((.ref h2)) ((.int 8)) ((.int 10)) ((.int 1)) ((.int 1)) (g4) (g5) (g6) (g7) (g8) (g9) ((.ref h3)) ((.ref h4)) ((.int 1)) ((.ref h5)) ((.ref h6)) ((.ref h7)) (g10) (g11) 0 ((.ref h9)) (g12) (g13) (g14) f_6 (by decide) bf_6) (cwV 2 hts gX8_record_X8_octets rfl rfl rfl (by decide +kernel) ⟨Nat.le_of_ble_eq_true rfl, Nat.le_of_ble_eq_true rfl⟩) (pre_V (q := (RX8, TX8, 30)) (ci := 7) (q0 := 0) (hP.sub [6, 5] rfl) hK hN (hD.sub [6, 5] (by decide) rfl) rfl rfl) rfl rfl hl.1 rfl (lv_room (Nat.le_of_ble_eq_true rfl)) dX8_record_23 ⟨Nat.le_of_ble_eq_true rfl, Nat.le_of_ble_eq_true rfl⟩) hP hD hS hA [6, 5] [0, 1, 2, 3, 4, 7, 8, 9] rfl rfl (by decide) (by decide) (fun  u H locs hw hP hD hS => ?_)
  obtain ⟨x_9, f_10⟩ := u
  obtain ⟨k_11, bf_10⟩ := hw
  obtain rfl : x_9 = 1 := ti_inj (a := 1) (by decide) (k_11.trans (by decide))
  have bf_10 : FB f_10 := bf_10
  have hP : va_P D vwCl [(h3, .inl (cI, 300, .inl zf)), (h4, .inl (cI, 300, .inl zf)), (h1, .inl (cB, 65536, .inl f_4)), (h2, .inl (cI, 64, .inl f_5)), (h9, .inl (cI, 64, .inl zf)), (h5, .inl (cI, 128, .inl f_7)), (h6, .inl (cI, 128, .inl zf)), (h7, .inl (cI, 128, .inl f_8)), (h0, .inr (7, [g0, g1, g2, .ref h1, g3, .ref h2, .int 8, .int 10, .int 1, .int 1, g4, g5, g6, g7, g8, g9, .ref h3, .ref h4, .int 1, .ref h5, .ref h6, .ref h7, g10, g11, .ref h8, .int 1, .ref h9, g12, g13, g14])), (h8, .inl (cB, 4096, .inl f_10))] H := hP
  have hD : va_D A [(h3, .inl (cI, 300, .inl zf)), (h4, .inl (cI, 300, .inl zf)), (h1, .inl (cB, 65536, .inl f_4)), (h2, .inl (cI, 64, .inl f_5)), (h9, .inl (cI, 64, .inl zf)), (h5, .inl (cI, 128, .inl f_7)), (h6, .inl (cI, 128, .inl zf)), (h7, .inl (cI, 128, .inl f_8)), (h0, .inr (7, [g0, g1, g2, .ref h1, g3, .ref h2, .int 8, .int 10, .int 1, .int 1, g4, g5, g6, g7, g8, g9, .ref h3, .ref h4, .int 1, .ref h5, .ref h6, .ref h7, g10, g11, .ref h8, .int 1, .ref h9, g12, g13, g14])), (h8, .inl (cB, 4096, .inl f_10))] := hD
  refine lv_aload_n hx hb dX8_record_26 rfl (lv_at hl 0 rfl) ?_
  refine lv_iload_n hx hb dX8_record_27 rfl (lv_at hl 2 rfl) ?_
  refine lv_iconst (v := 2) hx hb dX8_record_28 (by decide) ?_
  refine kc_v (wr := [(h3, .inl (cI, 300, .inl zf)), (h4, .inl (cI, 300, .inl zf)), (h1, .inl (cB, 65536, .inl f_4)), (h2, .inl (cI, 64, .inl f_5)), (h9, .inl (cI, 64, .inl zf)), (h5, .inl (cI, 128, .inl f_7)), (h6, .inl (cI, 128, .inl zf)), (h7, .inl (cI, 128, .inl f_8))]) (va_runV (As := [.int p0, .int 2]) (rest := []) ⟨hx, hb, hml, hown, hts⟩ (K94_X8_octets l D cB cI cZ _ h0 h8 p0 (g0) (g1) (g2) ((.ref h1)) (g3) ((.ref h2)) ((.int 8)) ((.int 10)) ((.int 1)) ((.int 1)) (g4) (g5) (g6) (g7) (g8) (g9) ((.ref h3)) ((.ref h4)) ((.int 1)) ((.ref h5)) ((.ref h6)) ((.ref h7)) (g10) (g11) 1 ((.ref h9)) (g12) (g13) (g14) f_10 (by decide) bf_10) (cwV 2 hts gX8_record_X8_octets rfl rfl rfl (by decide +kernel) ⟨Nat.le_of_ble_eq_true rfl, Nat.le_of_ble_eq_true rfl⟩) (pre_V (q := (RX8, TX8, 30)) (ci := 7) (q0 := 0) (hP.sub [8, 9] rfl) hK hN (hD.sub [8, 9] (by decide) rfl) rfl rfl) rfl rfl hl.1 rfl (lv_room (Nat.le_of_ble_eq_true rfl)) dX8_record_29 ⟨Nat.le_of_ble_eq_true rfl, Nat.le_of_ble_eq_true rfl⟩) hP hD hS hA [8, 9] [0, 1, 2, 3, 4, 5, 6, 7] rfl rfl (by decide) (by decide) (fun  u H locs hw hP hD hS => ?_)
  obtain ⟨x_12, f_13⟩ := u
  obtain ⟨k_14, bf_13⟩ := hw
  obtain rfl : x_12 = 3 := ti_inj (a := 3) (by decide) (k_14.trans (by decide))
  have bf_13 : FB f_13 := bf_13
  have hP : va_P D vwCl [(h3, .inl (cI, 300, .inl zf)), (h4, .inl (cI, 300, .inl zf)), (h1, .inl (cB, 65536, .inl f_4)), (h2, .inl (cI, 64, .inl f_5)), (h9, .inl (cI, 64, .inl zf)), (h5, .inl (cI, 128, .inl f_7)), (h6, .inl (cI, 128, .inl zf)), (h7, .inl (cI, 128, .inl f_8)), (h0, .inr (7, [g0, g1, g2, .ref h1, g3, .ref h2, .int 8, .int 10, .int 1, .int 1, g4, g5, g6, g7, g8, g9, .ref h3, .ref h4, .int 1, .ref h5, .ref h6, .ref h7, g10, g11, .ref h8, .int 3, .ref h9, g12, g13, g14])), (h8, .inl (cB, 4096, .inl f_13))] H := hP
  have hD : va_D A [(h3, .inl (cI, 300, .inl zf)), (h4, .inl (cI, 300, .inl zf)), (h1, .inl (cB, 65536, .inl f_4)), (h2, .inl (cI, 64, .inl f_5)), (h9, .inl (cI, 64, .inl zf)), (h5, .inl (cI, 128, .inl f_7)), (h6, .inl (cI, 128, .inl zf)), (h7, .inl (cI, 128, .inl f_8)), (h0, .inr (7, [g0, g1, g2, .ref h1, g3, .ref h2, .int 8, .int 10, .int 1, .int 1, g4, g5, g6, g7, g8, g9, .ref h3, .ref h4, .int 1, .ref h5, .ref h6, .ref h7, g10, g11, .ref h8, .int 3, .ref h9, g12, g13, g14])), (h8, .inl (cB, 4096, .inl f_13))] := hD
  refine lv_aload_n hx hb dX8_record_32 rfl (lv_at hl 0 rfl) ?_
  refine lv_iload_n hx hb dX8_record_33 rfl (lv_at hl 3 rfl) ?_
  refine lv_iconst (v := 1) hx hb dX8_record_34 (by decide) ?_
  refine kc_v (wr := [(h3, .inl (cI, 300, .inl zf)), (h4, .inl (cI, 300, .inl zf)), (h1, .inl (cB, 65536, .inl f_4)), (h2, .inl (cI, 64, .inl f_5)), (h9, .inl (cI, 64, .inl zf)), (h5, .inl (cI, 128, .inl f_7)), (h6, .inl (cI, 128, .inl zf)), (h7, .inl (cI, 128, .inl f_8))]) (va_runV (As := [.int 0, .int 1]) (rest := []) ⟨hx, hb, hml, hown, hts⟩ (K88_X8_octets l D cB cI cZ _ h0 h8 0 (g0) (g1) (g2) ((.ref h1)) (g3) ((.ref h2)) ((.int 8)) ((.int 10)) ((.int 1)) ((.int 1)) (g4) (g5) (g6) (g7) (g8) (g9) ((.ref h3)) ((.ref h4)) ((.int 1)) ((.ref h5)) ((.ref h6)) ((.ref h7)) (g10) (g11) 3 ((.ref h9)) (g12) (g13) (g14) f_13 (by decide) bf_13) (cwV 2 hts gX8_record_X8_octets rfl rfl rfl (by decide +kernel) ⟨Nat.le_of_ble_eq_true rfl, Nat.le_of_ble_eq_true rfl⟩) (pre_V (q := (RX8, TX8, 30)) (ci := 7) (q0 := 0) (hP.sub [8, 9] rfl) hK hN (hD.sub [8, 9] (by decide) rfl) rfl rfl) rfl rfl hl.1 rfl (lv_room (Nat.le_of_ble_eq_true rfl)) dX8_record_35 ⟨Nat.le_of_ble_eq_true rfl, Nat.le_of_ble_eq_true rfl⟩) hP hD hS hA [8, 9] [0, 1, 2, 3, 4, 5, 6, 7] rfl rfl (by decide) (by decide) (fun  u H locs hw hP hD hS => ?_)
  obtain ⟨x_15, f_16⟩ := u
  obtain ⟨k_17, bf_16⟩ := hw
  obtain rfl : x_15 = 4 := ti_inj (a := 4) (by decide) (k_17.trans (by decide))
  have bf_16 : FB f_16 := bf_16
  have hP : va_P D vwCl [(h3, .inl (cI, 300, .inl zf)), (h4, .inl (cI, 300, .inl zf)), (h1, .inl (cB, 65536, .inl f_4)), (h2, .inl (cI, 64, .inl f_5)), (h9, .inl (cI, 64, .inl zf)), (h5, .inl (cI, 128, .inl f_7)), (h6, .inl (cI, 128, .inl zf)), (h7, .inl (cI, 128, .inl f_8)), (h0, .inr (7, [g0, g1, g2, .ref h1, g3, .ref h2, .int 8, .int 10, .int 1, .int 1, g4, g5, g6, g7, g8, g9, .ref h3, .ref h4, .int 1, .ref h5, .ref h6, .ref h7, g10, g11, .ref h8, .int 4, .ref h9, g12, g13, g14])), (h8, .inl (cB, 4096, .inl f_16))] H := hP
  have hD : va_D A [(h3, .inl (cI, 300, .inl zf)), (h4, .inl (cI, 300, .inl zf)), (h1, .inl (cB, 65536, .inl f_4)), (h2, .inl (cI, 64, .inl f_5)), (h9, .inl (cI, 64, .inl zf)), (h5, .inl (cI, 128, .inl f_7)), (h6, .inl (cI, 128, .inl zf)), (h7, .inl (cI, 128, .inl f_8)), (h0, .inr (7, [g0, g1, g2, .ref h1, g3, .ref h2, .int 8, .int 10, .int 1, .int 1, g4, g5, g6, g7, g8, g9, .ref h3, .ref h4, .int 1, .ref h5, .ref h6, .ref h7, g10, g11, .ref h8, .int 4, .ref h9, g12, g13, g14])), (h8, .inl (cB, 4096, .inl f_16))] := hD
  refine lv_aload_n hx hb dX8_record_38 rfl (lv_at hl 0 rfl) ?_
  refine lv_aload_n hx hb dX8_record_39 rfl (lv_at hl 0 rfl) ?_
  refine va_get (D := D) (ci := 7) (v := .int 1) (C := RX8) (T := TX8) (N := 30) hx hb hts inX8_record_X8 hown hK hP 8 rfl rfl 9 (by decide) (hts _ wdX8_record_1) (fun _ h9 => h9) rfl dX8_record_40 ?_
  refine lv_iconst (v := 4) hx hb dX8_record_43 (by decide) ?_
  refine kc_v (wr := [(h3, .inl (cI, 300, .inl zf)), (h4, .inl (cI, 300, .inl zf)), (h1, .inl (cB, 65536, .inl f_4)), (h2, .inl (cI, 64, .inl f_5)), (h9, .inl (cI, 64, .inl zf)), (h5, .inl (cI, 128, .inl f_7)), (h6, .inl (cI, 128, .inl zf)), (h7, .inl (cI, 128, .inl f_8))]) (va_runV (As := [.int 1, .int 4]) (rest := []) ⟨hx, hb, hml, hown, hts⟩ (K89_X8_octets l D cB cI cZ _ h0 h8 1 (g0) (g1) (g2) ((.ref h1)) (g3) ((.ref h2)) ((.int 8)) ((.int 10)) ((.int 1)) ((.int 1)) (g4) (g5) (g6) (g7) (g8) (g9) ((.ref h3)) ((.ref h4)) ((.int 1)) ((.ref h5)) ((.ref h6)) ((.ref h7)) (g10) (g11) 4 ((.ref h9)) (g12) (g13) (g14) f_16 (by decide) bf_16) (cwV 2 hts gX8_record_X8_octets rfl rfl rfl (by decide +kernel) ⟨Nat.le_of_ble_eq_true rfl, Nat.le_of_ble_eq_true rfl⟩) (pre_V (q := (RX8, TX8, 30)) (ci := 7) (q0 := 0) (hP.sub [8, 9] rfl) hK hN (hD.sub [8, 9] (by decide) rfl) rfl rfl) rfl rfl hl.1 rfl (lv_room (Nat.le_of_ble_eq_true rfl)) dX8_record_44 ⟨Nat.le_of_ble_eq_true rfl, Nat.le_of_ble_eq_true rfl⟩) hP hD hS hA [8, 9] [0, 1, 2, 3, 4, 5, 6, 7] rfl rfl (by decide) (by decide) (fun  u H locs hw hP hD hS => ?_)
  obtain ⟨x_18, f_19⟩ := u
  obtain ⟨k_20, bf_19⟩ := hw
  obtain rfl : x_18 = 8 := ti_inj (a := 8) (by decide) (k_20.trans (by decide))
  have bf_19 : FB f_19 := bf_19
  have hP : va_P D vwCl [(h3, .inl (cI, 300, .inl zf)), (h4, .inl (cI, 300, .inl zf)), (h1, .inl (cB, 65536, .inl f_4)), (h2, .inl (cI, 64, .inl f_5)), (h9, .inl (cI, 64, .inl zf)), (h5, .inl (cI, 128, .inl f_7)), (h6, .inl (cI, 128, .inl zf)), (h7, .inl (cI, 128, .inl f_8)), (h0, .inr (7, [g0, g1, g2, .ref h1, g3, .ref h2, .int 8, .int 10, .int 1, .int 1, g4, g5, g6, g7, g8, g9, .ref h3, .ref h4, .int 1, .ref h5, .ref h6, .ref h7, g10, g11, .ref h8, .int 8, .ref h9, g12, g13, g14])), (h8, .inl (cB, 4096, .inl f_19))] H := hP
  have hD : va_D A [(h3, .inl (cI, 300, .inl zf)), (h4, .inl (cI, 300, .inl zf)), (h1, .inl (cB, 65536, .inl f_4)), (h2, .inl (cI, 64, .inl f_5)), (h9, .inl (cI, 64, .inl zf)), (h5, .inl (cI, 128, .inl f_7)), (h6, .inl (cI, 128, .inl zf)), (h7, .inl (cI, 128, .inl f_8)), (h0, .inr (7, [g0, g1, g2, .ref h1, g3, .ref h2, .int 8, .int 10, .int 1, .int 1, g4, g5, g6, g7, g8, g9, .ref h3, .ref h4, .int 1, .ref h5, .ref h6, .ref h7, g10, g11, .ref h8, .int 8, .ref h9, g12, g13, g14])), (h8, .inl (cB, 4096, .inl f_19))] := hD
  refine lv_aload_n hx hb dX8_record_47 rfl (lv_at hl 0 rfl) ?_
  refine lv_iload hx hb dX8_record_48 (lv_at hl 4 rfl) ?_
  refine lv_iconst (v := 4) hx hb dX8_record_50 (by decide) ?_
  refine kc_v (wr := [(h3, .inl (cI, 300, .inl zf)), (h4, .inl (cI, 300, .inl zf)), (h1, .inl (cB, 65536, .inl f_4)), (h2, .inl (cI, 64, .inl f_5)), (h9, .inl (cI, 64, .inl zf)), (h5, .inl (cI, 128, .inl f_7)), (h6, .inl (cI, 128, .inl zf)), (h7, .inl (cI, 128, .inl f_8))]) (va_runV (As := [.int 0, .int 4]) (rest := []) ⟨hx, hb, hml, hown, hts⟩ (K89_X8_octets l D cB cI cZ _ h0 h8 0 (g0) (g1) (g2) ((.ref h1)) (g3) ((.ref h2)) ((.int 8)) ((.int 10)) ((.int 1)) ((.int 1)) (g4) (g5) (g6) (g7) (g8) (g9) ((.ref h3)) ((.ref h4)) ((.int 1)) ((.ref h5)) ((.ref h6)) ((.ref h7)) (g10) (g11) 8 ((.ref h9)) (g12) (g13) (g14) f_19 (by decide) bf_19) (cwV 2 hts gX8_record_X8_octets rfl rfl rfl (by decide +kernel) ⟨Nat.le_of_ble_eq_true rfl, Nat.le_of_ble_eq_true rfl⟩) (pre_V (q := (RX8, TX8, 30)) (ci := 7) (q0 := 0) (hP.sub [8, 9] rfl) hK hN (hD.sub [8, 9] (by decide) rfl) rfl rfl) rfl rfl hl.1 rfl (lv_room (Nat.le_of_ble_eq_true rfl)) dX8_record_51 ⟨Nat.le_of_ble_eq_true rfl, Nat.le_of_ble_eq_true rfl⟩) hP hD hS hA [8, 9] [0, 1, 2, 3, 4, 5, 6, 7] rfl rfl (by decide) (by decide) (fun  u H locs hw hP hD hS => ?_)
  obtain ⟨x_21, f_22⟩ := u
  obtain ⟨k_23, bf_22⟩ := hw
  obtain rfl : x_21 = 12 := ti_inj (a := 12) (by decide) (k_23.trans (by decide))
  have bf_22 : FB f_22 := bf_22
  have hP : va_P D vwCl [(h3, .inl (cI, 300, .inl zf)), (h4, .inl (cI, 300, .inl zf)), (h1, .inl (cB, 65536, .inl f_4)), (h2, .inl (cI, 64, .inl f_5)), (h9, .inl (cI, 64, .inl zf)), (h5, .inl (cI, 128, .inl f_7)), (h6, .inl (cI, 128, .inl zf)), (h7, .inl (cI, 128, .inl f_8)), (h0, .inr (7, [g0, g1, g2, .ref h1, g3, .ref h2, .int 8, .int 10, .int 1, .int 1, g4, g5, g6, g7, g8, g9, .ref h3, .ref h4, .int 1, .ref h5, .ref h6, .ref h7, g10, g11, .ref h8, .int 12, .ref h9, g12, g13, g14])), (h8, .inl (cB, 4096, .inl f_22))] H := hP
  have hD : va_D A [(h3, .inl (cI, 300, .inl zf)), (h4, .inl (cI, 300, .inl zf)), (h1, .inl (cB, 65536, .inl f_4)), (h2, .inl (cI, 64, .inl f_5)), (h9, .inl (cI, 64, .inl zf)), (h5, .inl (cI, 128, .inl f_7)), (h6, .inl (cI, 128, .inl zf)), (h7, .inl (cI, 128, .inl f_8)), (h0, .inr (7, [g0, g1, g2, .ref h1, g3, .ref h2, .int 8, .int 10, .int 1, .int 1, g4, g5, g6, g7, g8, g9, .ref h3, .ref h4, .int 1, .ref h5, .ref h6, .ref h7, g10, g11, .ref h8, .int 12, .ref h9, g12, g13, g14])), (h8, .inl (cB, 4096, .inl f_22))] := hD
  refine lv_iconst (v := 0) hx hb dX8_record_54 (by decide) ?_
  refine lv_istore (lv' := [(5, .int 0), (0, .ref h0), (1, .int 1), (2, .int p0), (3, .int 0), (4, .int 0)]) hx hb dX8_record_55 hl (by decide) rfl (fun ls hl => ?_)
  refine lv_iload hx hb dX8_record_57 (lv_at hl 0 rfl) ?_
  refine lv_iload_n hx hb dX8_record_59 rfl (lv_at hl 4 rfl) ?_
  refine lv_icmp_ge (tgt := 81) hx hb dX8_record_60 (by decide) (fun c => ?_) (fun c => absurd (by decide) c)
  refine lv_aload_n hx hb dX8_record_81 rfl (lv_at hl 1 rfl) ?_
  refine lv_aload_n hx hb dX8_record_82 rfl (lv_at hl 1 rfl) ?_
  refine va_get (D := D) (ci := 7) (v := .ref h8) (C := RX8) (T := TX8) (N := 30) hx hb hts inX8_record_X8 hown hK hP 8 rfl rfl 24 (by decide) (hts _ wdX8_record_2) (fun _ h9 => h9) rfl dX8_record_83 ?_
  refine lv_iconst (v := 0) hx hb dX8_record_86 (by decide) ?_
  refine lv_aload_n hx hb dX8_record_87 rfl (lv_at hl 1 rfl) ?_
  refine va_get (D := D) (ci := 7) (v := .int 12) (C := RX8) (T := TX8) (N := 30) hx hb hts inX8_record_X8 hown hK hP 8 rfl rfl 25 (by decide) (hts _ wdX8_record_0) (fun _ h9 => h9) rfl dX8_record_88 ?_
  refine kc_i (wr := [(h3, .inl (cI, 300, .inl zf)), (h4, .inl (cI, 300, .inl zf)), (h1, .inl (cB, 65536, .inl f_4)), (h2, .inl (cI, 64, .inl f_5)), (h9, .inl (cI, 64, .inl zf)), (h5, .inl (cI, 128, .inl f_7)), (h6, .inl (cI, 128, .inl zf)), (h7, .inl (cI, 128, .inl f_8)), (h0, .inr (7, [g0, g1, g2, .ref h1, g3, .ref h2, .int 8, .int 10, .int 1, .int 1, g4, g5, g6, g7, g8, g9, .ref h3, .ref h4, .int 1, .ref h5, .ref h6, .ref h7, g10, g11, .ref h8, .int 12, .ref h9, g12, g13, g14]))]) (va_runS (As := [.ref h8, .int 0, .int 12]) (rest := [.ref h0]) ⟨hx, hb, hml, hown, hts⟩ (K95_X8_sum l D cB cI cZ _ h8 f_22 bf_22) (va_cwS 3 hts gX8_record_X8_sum rfl rfl rfl (by decide +kernel) ⟨Nat.le_of_ble_eq_true rfl, Nat.le_of_ble_eq_true rfl⟩) (pre_S (hP.sub [9] rfl) hK hN (hD.sub [9] (by decide) rfl)) rfl rfl hl.1 rfl (lv_room (Nat.le_of_ble_eq_true rfl)) dX8_record_91 ⟨Nat.le_of_ble_eq_true rfl, Nat.le_of_ble_eq_true rfl⟩) hP hD hS hA [9] [0, 1, 2, 3, 4, 5, 6, 7, 8] rfl rfl (by decide) (by decide) (fun r_24 u H locs hw hP hD hS => ?_)
  have hP : va_P D vwCl [(h3, .inl (cI, 300, .inl zf)), (h4, .inl (cI, 300, .inl zf)), (h1, .inl (cB, 65536, .inl f_4)), (h2, .inl (cI, 64, .inl f_5)), (h9, .inl (cI, 64, .inl zf)), (h5, .inl (cI, 128, .inl f_7)), (h6, .inl (cI, 128, .inl zf)), (h7, .inl (cI, 128, .inl f_8)), (h0, .inr (7, [g0, g1, g2, .ref h1, g3, .ref h2, .int 8, .int 10, .int 1, .int 1, g4, g5, g6, g7, g8, g9, .ref h3, .ref h4, .int 1, .ref h5, .ref h6, .ref h7, g10, g11, .ref h8, .int 12, .ref h9, g12, g13, g14])), (h8, .inl (cB, 4096, .inl f_22))] H := hP
  have hD : va_D A [(h3, .inl (cI, 300, .inl zf)), (h4, .inl (cI, 300, .inl zf)), (h1, .inl (cB, 65536, .inl f_4)), (h2, .inl (cI, 64, .inl f_5)), (h9, .inl (cI, 64, .inl zf)), (h5, .inl (cI, 128, .inl f_7)), (h6, .inl (cI, 128, .inl zf)), (h7, .inl (cI, 128, .inl f_8)), (h0, .inr (7, [g0, g1, g2, .ref h1, g3, .ref h2, .int 8, .int 10, .int 1, .int 1, g4, g5, g6, g7, g8, g9, .ref h3, .ref h4, .int 1, .ref h5, .ref h6, .ref h7, g10, g11, .ref h8, .int 12, .ref h9, g12, g13, g14])), (h8, .inl (cB, 4096, .inl f_22))] := hD
  refine lv_iconst (v := 4) hx hb dX8_record_94 (by decide) ?_
  refine kc_v (wr := [(h3, .inl (cI, 300, .inl zf)), (h4, .inl (cI, 300, .inl zf)), (h1, .inl (cB, 65536, .inl f_4)), (h2, .inl (cI, 64, .inl f_5)), (h9, .inl (cI, 64, .inl zf)), (h5, .inl (cI, 128, .inl f_7)), (h6, .inl (cI, 128, .inl zf)), (h7, .inl (cI, 128, .inl f_8))]) (va_runV (As := [.int r_24, .int 4]) (rest := []) ⟨hx, hb, hml, hown, hts⟩ (K89_X8_octets l D cB cI cZ _ h0 h8 r_24 (g0) (g1) (g2) ((.ref h1)) (g3) ((.ref h2)) ((.int 8)) ((.int 10)) ((.int 1)) ((.int 1)) (g4) (g5) (g6) (g7) (g8) (g9) ((.ref h3)) ((.ref h4)) ((.int 1)) ((.ref h5)) ((.ref h6)) ((.ref h7)) (g10) (g11) 12 ((.ref h9)) (g12) (g13) (g14) f_22 (by decide) bf_22) (cwV 2 hts gX8_record_X8_octets rfl rfl rfl (by decide +kernel) ⟨Nat.le_of_ble_eq_true rfl, Nat.le_of_ble_eq_true rfl⟩) (pre_V (q := (RX8, TX8, 30)) (ci := 7) (q0 := 0) (hP.sub [8, 9] rfl) hK hN (hD.sub [8, 9] (by decide) rfl) rfl rfl) rfl rfl hl.1 rfl (lv_room (Nat.le_of_ble_eq_true rfl)) dX8_record_95 ⟨Nat.le_of_ble_eq_true rfl, Nat.le_of_ble_eq_true rfl⟩) hP hD hS hA [8, 9] [0, 1, 2, 3, 4, 5, 6, 7] rfl rfl (by decide) (by decide) (fun  u H locs hw hP hD hS => ?_)
  obtain ⟨x_25, f_26⟩ := u
  obtain ⟨k_27, bf_26⟩ := hw
  obtain rfl : x_25 = 16 := ti_inj (a := 16) (by decide) (k_27.trans (by decide))
  have bf_26 : FB f_26 := bf_26
  have hP : va_P D vwCl [(h3, .inl (cI, 300, .inl zf)), (h4, .inl (cI, 300, .inl zf)), (h1, .inl (cB, 65536, .inl f_4)), (h2, .inl (cI, 64, .inl f_5)), (h9, .inl (cI, 64, .inl zf)), (h5, .inl (cI, 128, .inl f_7)), (h6, .inl (cI, 128, .inl zf)), (h7, .inl (cI, 128, .inl f_8)), (h0, .inr (7, [g0, g1, g2, .ref h1, g3, .ref h2, .int 8, .int 10, .int 1, .int 1, g4, g5, g6, g7, g8, g9, .ref h3, .ref h4, .int 1, .ref h5, .ref h6, .ref h7, g10, g11, .ref h8, .int 16, .ref h9, g12, g13, g14])), (h8, .inl (cB, 4096, .inl f_26))] H := hP
  have hD : va_D A [(h3, .inl (cI, 300, .inl zf)), (h4, .inl (cI, 300, .inl zf)), (h1, .inl (cB, 65536, .inl f_4)), (h2, .inl (cI, 64, .inl f_5)), (h9, .inl (cI, 64, .inl zf)), (h5, .inl (cI, 128, .inl f_7)), (h6, .inl (cI, 128, .inl zf)), (h7, .inl (cI, 128, .inl f_8)), (h0, .inr (7, [g0, g1, g2, .ref h1, g3, .ref h2, .int 8, .int 10, .int 1, .int 1, g4, g5, g6, g7, g8, g9, .ref h3, .ref h4, .int 1, .ref h5, .ref h6, .ref h7, g10, g11, .ref h8, .int 16, .ref h9, g12, g13, g14])), (h8, .inl (cB, 4096, .inl f_26))] := hD
  refine lv_iconst (v := 0) hx hb dX8_record_98 (by decide) ?_
  refine lv_istore (lv' := [(5, .int 0), (0, .ref h0), (1, .int 1), (2, .int p0), (3, .int 0), (4, .int 0)]) hx hb dX8_record_99 hl (by decide) rfl (fun ls hl => ?_)
  refine kl (α := Int32 × (Nat → Int32)) (fun n a H locs ls => (0 ≤ Int32.toInt (a.1)) ∧ (Int32.toInt (a.1) ≤ 16) ∧ (FB (a.2)) ∧ (16 - Int32.toInt (a.1) < ((n : Nat) : Int)) ∧ va_P D vwCl [(h3, .inl (cI, 300, .inl zf)), (h4, .inl (cI, 300, .inl zf)), (h1, .inl (cB, 65536, .inl (a.2))), (h2, .inl (cI, 64, .inl f_5)), (h9, .inl (cI, 64, .inl zf)), (h5, .inl (cI, 128, .inl f_7)), (h6, .inl (cI, 128, .inl zf)), (h7, .inl (cI, 128, .inl f_8)), (h0, .inr (7, [g0, g1, g2, .ref h1, g3, .ref h2, .int 8, .int 10, .int 1, .int 1, g4, g5, g6, g7, g8, g9, .ref h3, .ref h4, .int 1, .ref h5, .ref h6, .ref h7, g10, g11, .ref h8, .int 16, .ref h9, g12, g13, g14])), (h8, .inl (cB, 4096, .inl f_26))] H ∧ va_D A [(h3, .inl (cI, 300, .inl zf)), (h4, .inl (cI, 300, .inl zf)), (h1, .inl (cB, 65536, .inl (a.2))), (h2, .inl (cI, 64, .inl f_5)), (h9, .inl (cI, 64, .inl zf)), (h5, .inl (cI, 128, .inl f_7)), (h6, .inl (cI, 128, .inl zf)), (h7, .inl (cI, 128, .inl f_8)), (h0, .inr (7, [g0, g1, g2, .ref h1, g3, .ref h2, .int 8, .int 10, .int 1, .int 1, g4, g5, g6, g7, g8, g9, .ref h3, .ref h4, .int 1, .ref h5, .ref h6, .ref h7, g10, g11, .ref h8, .int 16, .ref h9, g12, g13, g14])), (h8, .inl (cB, 4096, .inl f_26))] ∧ va_S A s.heap H locs ∧ lv_has ls 6 [(5, .int (a.1)), (0, .ref h0), (1, .int 1), (2, .int p0), (3, .int 0), (4, .int 0)]) 17 (0, f_4) ⟨(by show 0 ≤ Int32.toInt 0; decide), (by show Int32.toInt 0 ≤ 16; decide), bf_4, (by show 16 - Int32.toInt 0 < ((17 : Nat) : Int); have := (by decide : Int32.toInt 0 = 0); omega), hP, hD, hS, hl⟩ (fun a H locs ls h => ?_) (fun n_30 ih_31 a H locs ls h => ?_)
  · obtain ⟨j_32, j_33, j_34, j_35, _⟩ := h
    omega
  obtain ⟨v_29, f_28⟩ := a
  obtain ⟨j_32, j_33, j_34, j_35, hP, hD, hS, hl⟩ := h
  have j_32 : 0 ≤ Int32.toInt v_29 := j_32
  have j_33 : Int32.toInt v_29 ≤ 16 := j_33
  have bf_28 : FB f_28 := j_34
  have j_35 : 16 - Int32.toInt v_29 < ((n_30 + 1 : Nat) : Int) := j_35
  have hP : va_P D vwCl [(h3, .inl (cI, 300, .inl zf)), (h4, .inl (cI, 300, .inl zf)), (h1, .inl (cB, 65536, .inl f_28)), (h2, .inl (cI, 64, .inl f_5)), (h9, .inl (cI, 64, .inl zf)), (h5, .inl (cI, 128, .inl f_7)), (h6, .inl (cI, 128, .inl zf)), (h7, .inl (cI, 128, .inl f_8)), (h0, .inr (7, [g0, g1, g2, .ref h1, g3, .ref h2, .int 8, .int 10, .int 1, .int 1, g4, g5, g6, g7, g8, g9, .ref h3, .ref h4, .int 1, .ref h5, .ref h6, .ref h7, g10, g11, .ref h8, .int 16, .ref h9, g12, g13, g14])), (h8, .inl (cB, 4096, .inl f_26))] H := hP
  have hD : va_D A [(h3, .inl (cI, 300, .inl zf)), (h4, .inl (cI, 300, .inl zf)), (h1, .inl (cB, 65536, .inl f_28)), (h2, .inl (cI, 64, .inl f_5)), (h9, .inl (cI, 64, .inl zf)), (h5, .inl (cI, 128, .inl f_7)), (h6, .inl (cI, 128, .inl zf)), (h7, .inl (cI, 128, .inl f_8)), (h0, .inr (7, [g0, g1, g2, .ref h1, g3, .ref h2, .int 8, .int 10, .int 1, .int 1, g4, g5, g6, g7, g8, g9, .ref h3, .ref h4, .int 1, .ref h5, .ref h6, .ref h7, g10, g11, .ref h8, .int 16, .ref h9, g12, g13, g14])), (h8, .inl (cB, 4096, .inl f_26))] := hD
  have hl : lv_has ls 6 [(5, .int v_29), (0, .ref h0), (1, .int 1), (2, .int p0), (3, .int 0), (4, .int 0)] := hl
  refine lv_iload hx hb dX8_record_101 (lv_at hl 0 rfl) ?_
  refine lv_aload_n hx hb dX8_record_103 rfl (lv_at hl 1 rfl) ?_
  refine va_get (D := D) (ci := 7) (v := .int 16) (C := RX8) (T := TX8) (N := 30) hx hb hts inX8_record_X8 hown hK hP 8 rfl rfl 25 (by decide) (hts _ wdX8_record_0) (fun _ h9 => h9) rfl dX8_record_104 ?_
  refine lv_icmp_ge (tgt := 142) hx hb dX8_record_107 (by decide) (fun c => ?_) (fun c => ?_)
  · skip
    have k_36 := (ti_le (x := 16) (y := v_29) (a := 16) (b := v_29.toInt) (by decide) rfl).mp c
    obtain rfl : v_29 = 16 := ti_inj (a := 16) (by decide) (by omega)
    refine lv_aload_n hx hb dX8_record_142 rfl (lv_at hl 1 rfl) ?_
    refine va_get (D := D) (ci := 7) (v := .ref h3) (C := RX8) (T := TX8) (N := 30) hx hb hts inX8_record_X8 hown hK hP 8 rfl rfl 16 (by decide) (hts _ wdX8_record_3) (fun _ h9 => h9) rfl dX8_record_143 ?_
    refine lv_iload_n hx hb dX8_record_146 rfl (lv_at hl 3 rfl) ?_
    refine lv_iload_n hx hb dX8_record_147 rfl (lv_at hl 2 rfl) ?_
    refine lv_iconst (v := 1) hx hb dX8_record_148 (by decide) ?_
    refine lv_icmp_ne (tgt := 159) hx hb dX8_record_149 (by decide) (fun c => absurd (by decide) c) (fun c => ?_)
    refine lv_aload_n hx hb dX8_record_152 rfl (lv_at hl 1 rfl) ?_
    refine va_get (D := D) (ci := 7) (v := .int 8) (C := RX8) (T := TX8) (N := 30) hx hb hts inX8_record_X8 hown hK hP 8 rfl rfl 6 (by decide) (hts _ wdX8_record_4) (fun _ h9 => h9) rfl dX8_record_153 ?_
    refine lv_goto (tgt := 160) hx hb dX8_record_156 (by decide) ?_
    refine va_iast hx hb hK hP hD hS 0 1 rfl rfl (ti_in (a := p0.toInt) rfl (by omega) (by omega)) dX8_record_160 (fun H locs hP hD hS => ?_)
    obtain ⟨f_37, ef_37⟩ : ∃ g : Nat → Int32, g = upd zf (Int32.toNatClampNeg p0) 8 := ⟨_, rfl⟩
    rw [← ef_37] at hP hD
    have hP : va_P D vwCl [(h3, .inl (cI, 300, .inl f_37)), (h4, .inl (cI, 300, .inl zf)), (h1, .inl (cB, 65536, .inl f_28)), (h2, .inl (cI, 64, .inl f_5)), (h9, .inl (cI, 64, .inl zf)), (h5, .inl (cI, 128, .inl f_7)), (h6, .inl (cI, 128, .inl zf)), (h7, .inl (cI, 128, .inl f_8)), (h0, .inr (7, [g0, g1, g2, .ref h1, g3, .ref h2, .int 8, .int 10, .int 1, .int 1, g4, g5, g6, g7, g8, g9, .ref h3, .ref h4, .int 1, .ref h5, .ref h6, .ref h7, g10, g11, .ref h8, .int 16, .ref h9, g12, g13, g14])), (h8, .inl (cB, 4096, .inl f_26))] H := hP
    have hD : va_D A [(h3, .inl (cI, 300, .inl f_37)), (h4, .inl (cI, 300, .inl zf)), (h1, .inl (cB, 65536, .inl f_28)), (h2, .inl (cI, 64, .inl f_5)), (h9, .inl (cI, 64, .inl zf)), (h5, .inl (cI, 128, .inl f_7)), (h6, .inl (cI, 128, .inl zf)), (h7, .inl (cI, 128, .inl f_8)), (h0, .inr (7, [g0, g1, g2, .ref h1, g3, .ref h2, .int 8, .int 10, .int 1, .int 1, g4, g5, g6, g7, g8, g9, .ref h3, .ref h4, .int 1, .ref h5, .ref h6, .ref h7, g10, g11, .ref h8, .int 16, .ref h9, g12, g13, g14])), (h8, .inl (cB, 4096, .inl f_26))] := hD
    refine lv_aload_n hx hb dX8_record_161 rfl (lv_at hl 1 rfl) ?_
    refine va_get (D := D) (ci := 7) (v := .ref h4) (C := RX8) (T := TX8) (N := 30) hx hb hts inX8_record_X8 hown hK hP 8 rfl rfl 17 (by decide) (hts _ wdX8_record_5) (fun _ h9 => h9) rfl dX8_record_162 ?_
    refine lv_iload_n hx hb dX8_record_165 rfl (lv_at hl 3 rfl) ?_
    refine lv_aload_n hx hb dX8_record_166 rfl (lv_at hl 1 rfl) ?_
    refine va_get (D := D) (ci := 7) (v := .int 10) (C := RX8) (T := TX8) (N := 30) hx hb hts inX8_record_X8 hown hK hP 8 rfl rfl 7 (by decide) (hts _ wdX8_record_6) (fun _ h9 => h9) rfl dX8_record_167 ?_
    refine va_iast hx hb hK hP hD hS 1 1 rfl rfl (ti_in (a := p0.toInt) rfl (by omega) (by omega)) dX8_record_170 (fun H locs hP hD hS => ?_)
    obtain ⟨f_38, ef_38⟩ : ∃ g : Nat → Int32, g = upd zf (Int32.toNatClampNeg p0) 10 := ⟨_, rfl⟩
    rw [← ef_38] at hP hD
    have hP : va_P D vwCl [(h3, .inl (cI, 300, .inl f_37)), (h4, .inl (cI, 300, .inl f_38)), (h1, .inl (cB, 65536, .inl f_28)), (h2, .inl (cI, 64, .inl f_5)), (h9, .inl (cI, 64, .inl zf)), (h5, .inl (cI, 128, .inl f_7)), (h6, .inl (cI, 128, .inl zf)), (h7, .inl (cI, 128, .inl f_8)), (h0, .inr (7, [g0, g1, g2, .ref h1, g3, .ref h2, .int 8, .int 10, .int 1, .int 1, g4, g5, g6, g7, g8, g9, .ref h3, .ref h4, .int 1, .ref h5, .ref h6, .ref h7, g10, g11, .ref h8, .int 16, .ref h9, g12, g13, g14])), (h8, .inl (cB, 4096, .inl f_26))] H := hP
    have hD : va_D A [(h3, .inl (cI, 300, .inl f_37)), (h4, .inl (cI, 300, .inl f_38)), (h1, .inl (cB, 65536, .inl f_28)), (h2, .inl (cI, 64, .inl f_5)), (h9, .inl (cI, 64, .inl zf)), (h5, .inl (cI, 128, .inl f_7)), (h6, .inl (cI, 128, .inl zf)), (h7, .inl (cI, 128, .inl f_8)), (h0, .inr (7, [g0, g1, g2, .ref h1, g3, .ref h2, .int 8, .int 10, .int 1, .int 1, g4, g5, g6, g7, g8, g9, .ref h3, .ref h4, .int 1, .ref h5, .ref h6, .ref h7, g10, g11, .ref h8, .int 16, .ref h9, g12, g13, g14])), (h8, .inl (cB, 4096, .inl f_26))] := hD
    refine lv_aload_n hx hb dX8_record_171 rfl (lv_at hl 1 rfl) ?_
    refine lv_aload_n hx hb dX8_record_172 rfl (lv_at hl 1 rfl) ?_
    refine va_get (D := D) (ci := 7) (v := .int 8) (C := RX8) (T := TX8) (N := 30) hx hb hts inX8_record_X8 hown hK hP 8 rfl rfl 6 (by decide) (hts _ wdX8_record_4) (fun _ h9 => h9) rfl dX8_record_173 ?_
    refine lv_aload_n hx hb dX8_record_176 rfl (lv_at hl 1 rfl) ?_
    refine va_get (D := D) (ci := 7) (v := .int 10) (C := RX8) (T := TX8) (N := 30) hx hb hts inX8_record_X8 hown hK hP 8 rfl rfl 7 (by decide) (hts _ wdX8_record_6) (fun _ h9 => h9) rfl dX8_record_177 ?_
    refine lv_aload_n hx hb dX8_record_180 rfl (lv_at hl 1 rfl) ?_
    refine va_get (D := D) (ci := 7) (v := .int 10) (C := RX8) (T := TX8) (N := 30) hx hb hts inX8_record_X8 hown hK hP 8 rfl rfl 7 (by decide) (hts _ wdX8_record_6) (fun _ h9 => h9) rfl dX8_record_181 ?_
    refine lv_aload_n hx hb dX8_record_184 rfl (lv_at hl 1 rfl) ?_
    refine va_get (D := D) (ci := 7) (v := .int 16) (C := RX8) (T := TX8) (N := 30) hx hb hts inX8_record_X8 hown hK hP 8 rfl rfl 25 (by decide) (hts _ wdX8_record_0) (fun _ h9 => h9) rfl dX8_record_185 ?_
    refine lv_iadd hx hb dX8_record_188 ?_
    refine lv_topi (fun z_39 ez_39 => ?_)
    obtain rfl : z_39 = 26 := ez_39.trans (by decide)
    refine kc_v (wr := [(h3, .inl (cI, 300, .inl f_37)), (h4, .inl (cI, 300, .inl f_38)), (h1, .inl (cB, 65536, .inl f_28)), (h2, .inl (cI, 64, .inl f_5)), (h9, .inl (cI, 64, .inl zf)), (h8, .inl (cB, 4096, .inl f_26))]) (va_runV (As := [.int 8, .int 10, .int 26]) (rest := []) ⟨hx, hb, hml, hown, hts⟩ (K96_X8_came l D cB cI cZ _ h0 h5 h6 h7 (g0) (g1) (g2) ((.ref h1)) (g3) ((.ref h2)) ((.int 8)) ((.int 10)) ((.int 1)) ((.int 1)) (g4) (g5) (g6) (g7) (g8) (g9) ((.ref h3)) ((.ref h4)) (g10) (g11) ((.ref h8)) ((.int 16)) ((.ref h9)) (g12) (g13) (g14) f_7 f_8) (cwV 3 hts gX8_record_X8_came rfl rfl rfl (by decide +kernel) ⟨Nat.le_of_ble_eq_true rfl, Nat.le_of_ble_eq_true rfl⟩) (pre_V (q := (RX8, TX8, 30)) (ci := 7) (q0 := 0) (hP.sub [8, 5, 6, 7] rfl) hK hN (hD.sub [8, 5, 6, 7] (by decide) rfl) rfl rfl) rfl rfl hl.1 rfl (lv_room (Nat.le_of_ble_eq_true rfl)) dX8_record_189 ⟨Nat.le_of_ble_eq_true rfl, Nat.le_of_ble_eq_true rfl⟩) hP hD hS hA [8, 5, 6, 7] [0, 1, 2, 3, 4, 9] rfl rfl (by decide) (by decide) (fun  u H locs hw hP hD hS => ?_)
    obtain ⟨x_40, f_41, f_42, f_43⟩ := u
    obtain ⟨k_44, k_45⟩ := hw
    have k_44 : 1 ≤ x_40.toInt := k_44
    have k_45 : x_40.toInt ≤ 2 := k_45
    have hP : va_P D vwCl [(h3, .inl (cI, 300, .inl f_37)), (h4, .inl (cI, 300, .inl f_38)), (h1, .inl (cB, 65536, .inl f_28)), (h2, .inl (cI, 64, .inl f_5)), (h9, .inl (cI, 64, .inl zf)), (h8, .inl (cB, 4096, .inl f_26)), (h0, .inr (7, [g0, g1, g2, .ref h1, g3, .ref h2, .int 8, .int 10, .int 1, .int 1, g4, g5, g6, g7, g8, g9, .ref h3, .ref h4, .int x_40, .ref h5, .ref h6, .ref h7, g10, g11, .ref h8, .int 16, .ref h9, g12, g13, g14])), (h5, .inl (cI, 128, .inl f_41)), (h6, .inl (cI, 128, .inl f_42)), (h7, .inl (cI, 128, .inl f_43))] H := hP
    have hD : va_D A [(h3, .inl (cI, 300, .inl f_37)), (h4, .inl (cI, 300, .inl f_38)), (h1, .inl (cB, 65536, .inl f_28)), (h2, .inl (cI, 64, .inl f_5)), (h9, .inl (cI, 64, .inl zf)), (h8, .inl (cB, 4096, .inl f_26)), (h0, .inr (7, [g0, g1, g2, .ref h1, g3, .ref h2, .int 8, .int 10, .int 1, .int 1, g4, g5, g6, g7, g8, g9, .ref h3, .ref h4, .int x_40, .ref h5, .ref h6, .ref h7, g10, g11, .ref h8, .int 16, .ref h9, g12, g13, g14])), (h5, .inl (cI, 128, .inl f_41)), (h6, .inl (cI, 128, .inl f_42)), (h7, .inl (cI, 128, .inl f_43))] := hD
    refine lv_aload_n hx hb dX8_record_192 rfl (lv_at hl 1 rfl) ?_
    refine va_get (D := D) (ci := 7) (v := .ref h9) (C := RX8) (T := TX8) (N := 30) hx hb hts inX8_record_X8 hown hK hP 6 rfl rfl 26 (by decide) (hts _ wdX8_record_7) (fun _ h9 => h9) rfl dX8_record_193 ?_
    refine lv_aload_n hx hb dX8_record_196 rfl (lv_at hl 1 rfl) ?_
    refine va_get (D := D) (ci := 7) (v := .int 8) (C := RX8) (T := TX8) (N := 30) hx hb hts inX8_record_X8 hown hK hP 6 rfl rfl 6 (by decide) (hts _ wdX8_record_4) (fun _ h9 => h9) rfl dX8_record_197 ?_
    refine lv_iload hx hb dX8_record_200 (lv_at hl 5 rfl) ?_
    refine lv_aload_n hx hb dX8_record_202 rfl (lv_at hl 1 rfl) ?_
    refine va_get (D := D) (ci := 7) (v := .ref h9) (C := RX8) (T := TX8) (N := 30) hx hb hts inX8_record_X8 hown hK hP 6 rfl rfl 26 (by decide) (hts _ wdX8_record_7) (fun _ h9 => h9) rfl dX8_record_203 ?_
    refine lv_aload_n hx hb dX8_record_206 rfl (lv_at hl 1 rfl) ?_
    refine va_get (D := D) (ci := 7) (v := .int 8) (C := RX8) (T := TX8) (N := 30) hx hb hts inX8_record_X8 hown hK hP 6 rfl rfl 6 (by decide) (hts _ wdX8_record_4) (fun _ h9 => h9) rfl dX8_record_207 ?_
    refine va_iald hx hb hK hP 4 1 rfl rfl (ti_in (a := 8) (by decide) (by decide) (by decide)) dX8_record_210 ?_
    refine lv_topi (fun z_46 ez_46 => ?_)
    obtain rfl : z_46 = 0 := ez_46
    refine lv_icmp_le (tgt := 219) hx hb dX8_record_211 (by decide) (fun c => ?_) (fun c => absurd (by decide) c)
    refine lv_aload_n hx hb dX8_record_219 rfl (lv_at hl 1 rfl) ?_
    refine va_get (D := D) (ci := 7) (v := .ref h9) (C := RX8) (T := TX8) (N := 30) hx hb hts inX8_record_X8 hown hK hP 6 rfl rfl 26 (by decide) (hts _ wdX8_record_7) (fun _ h9 => h9) rfl dX8_record_220 ?_
    refine lv_aload_n hx hb dX8_record_223 rfl (lv_at hl 1 rfl) ?_
    refine va_get (D := D) (ci := 7) (v := .int 8) (C := RX8) (T := TX8) (N := 30) hx hb hts inX8_record_X8 hown hK hP 6 rfl rfl 6 (by decide) (hts _ wdX8_record_4) (fun _ h9 => h9) rfl dX8_record_224 ?_
    refine va_iald hx hb hK hP 4 1 rfl rfl (ti_in (a := 8) (by decide) (by decide) (by decide)) dX8_record_227 ?_
    refine lv_topi (fun z_47 ez_47 => ?_)
    obtain rfl : z_47 = 0 := ez_47
    refine va_iast hx hb hK hP hD hS 4 1 rfl rfl (ti_in (a := 8) (by decide) (by decide) (by decide)) dX8_record_228 (fun H locs hP hD hS => ?_)
    rw [zf_upd] at hP hD
    have hP : va_P D vwCl [(h3, .inl (cI, 300, .inl f_37)), (h4, .inl (cI, 300, .inl f_38)), (h1, .inl (cB, 65536, .inl f_28)), (h2, .inl (cI, 64, .inl f_5)), (h9, .inl (cI, 64, .inl zf)), (h8, .inl (cB, 4096, .inl f_26)), (h0, .inr (7, [g0, g1, g2, .ref h1, g3, .ref h2, .int 8, .int 10, .int 1, .int 1, g4, g5, g6, g7, g8, g9, .ref h3, .ref h4, .int x_40, .ref h5, .ref h6, .ref h7, g10, g11, .ref h8, .int 16, .ref h9, g12, g13, g14])), (h5, .inl (cI, 128, .inl f_41)), (h6, .inl (cI, 128, .inl f_42)), (h7, .inl (cI, 128, .inl f_43))] H := hP
    have hD : va_D A [(h3, .inl (cI, 300, .inl f_37)), (h4, .inl (cI, 300, .inl f_38)), (h1, .inl (cB, 65536, .inl f_28)), (h2, .inl (cI, 64, .inl f_5)), (h9, .inl (cI, 64, .inl zf)), (h8, .inl (cB, 4096, .inl f_26)), (h0, .inr (7, [g0, g1, g2, .ref h1, g3, .ref h2, .int 8, .int 10, .int 1, .int 1, g4, g5, g6, g7, g8, g9, .ref h3, .ref h4, .int x_40, .ref h5, .ref h6, .ref h7, g10, g11, .ref h8, .int 16, .ref h9, g12, g13, g14])), (h5, .inl (cI, 128, .inl f_41)), (h6, .inl (cI, 128, .inl f_42)), (h7, .inl (cI, 128, .inl f_43))] := hD
    refine lv_aload_n hx hb dX8_record_229 rfl (lv_at hl 1 rfl) ?_
    refine lv_dup hx hb dX8_record_230 rfl ?_
    refine va_get (D := D) (ci := 7) (v := .int 10) (C := RX8) (T := TX8) (N := 30) hx hb hts inX8_record_X8 hown hK hP 6 rfl rfl 7 (by decide) (hts _ wdX8_record_6) (fun _ h9 => h9) rfl dX8_record_231 ?_
    refine lv_aload_n hx hb dX8_record_234 rfl (lv_at hl 1 rfl) ?_
    refine va_get (D := D) (ci := 7) (v := .int 16) (C := RX8) (T := TX8) (N := 30) hx hb hts inX8_record_X8 hown hK hP 6 rfl rfl 25 (by decide) (hts _ wdX8_record_0) (fun _ h9 => h9) rfl dX8_record_235 ?_
    refine lv_iadd hx hb dX8_record_238 ?_
    refine lv_topi (fun z_48 ez_48 => ?_)
    obtain rfl : z_48 = 26 := ez_48.trans (by decide)
    refine va_put (D := D) (ci := 7) (v := .int 26) (ty := .int) (C := RX8) (T := TX8) (N := 30) hx hb hts inX8_record_X8 tyX8 tyX8_ok nmX8 hown hK hP hD hS 6 rfl rfl 7 (by decide) (hts _ wdX8_record_6) (fun _ h9 => h9) rfl (by decide +kernel) rfl rfl (Nat.le_of_ble_eq_true rfl) dX8_record_239 (fun H locs hP hD hS => ?_)
    have hP : va_P D vwCl [(h3, .inl (cI, 300, .inl f_37)), (h4, .inl (cI, 300, .inl f_38)), (h1, .inl (cB, 65536, .inl f_28)), (h2, .inl (cI, 64, .inl f_5)), (h9, .inl (cI, 64, .inl zf)), (h8, .inl (cB, 4096, .inl f_26)), (h0, .inr (7, [g0, g1, g2, .ref h1, g3, .ref h2, .int 8, .int 26, .int 1, .int 1, g4, g5, g6, g7, g8, g9, .ref h3, .ref h4, .int x_40, .ref h5, .ref h6, .ref h7, g10, g11, .ref h8, .int 16, .ref h9, g12, g13, g14])), (h5, .inl (cI, 128, .inl f_41)), (h6, .inl (cI, 128, .inl f_42)), (h7, .inl (cI, 128, .inl f_43))] H := hP
    have hD : va_D A [(h3, .inl (cI, 300, .inl f_37)), (h4, .inl (cI, 300, .inl f_38)), (h1, .inl (cB, 65536, .inl f_28)), (h2, .inl (cI, 64, .inl f_5)), (h9, .inl (cI, 64, .inl zf)), (h8, .inl (cB, 4096, .inl f_26)), (h0, .inr (7, [g0, g1, g2, .ref h1, g3, .ref h2, .int 8, .int 26, .int 1, .int 1, g4, g5, g6, g7, g8, g9, .ref h3, .ref h4, .int x_40, .ref h5, .ref h6, .ref h7, g10, g11, .ref h8, .int 16, .ref h9, g12, g13, g14])), (h5, .inl (cI, 128, .inl f_41)), (h6, .inl (cI, 128, .inl f_42)), (h7, .inl (cI, 128, .inl f_43))] := hD
    refine lv_aload_n hx hb dX8_record_242 rfl (lv_at hl 1 rfl) ?_
    refine lv_dup hx hb dX8_record_243 rfl ?_
    refine va_get (D := D) (ci := 7) (v := .int 1) (C := RX8) (T := TX8) (N := 30) hx hb hts inX8_record_X8 hown hK hP 6 rfl rfl 9 (by decide) (hts _ wdX8_record_1) (fun _ h9 => h9) rfl dX8_record_244 ?_
    refine lv_iconst (v := 1) hx hb dX8_record_247 (by decide) ?_
    refine lv_iadd hx hb dX8_record_248 ?_
    refine lv_topi (fun z_49 ez_49 => ?_)
    obtain rfl : z_49 = 2 := ez_49.trans (by decide)
    refine va_put (D := D) (ci := 7) (v := .int 2) (ty := .int) (C := RX8) (T := TX8) (N := 30) hx hb hts inX8_record_X8 tyX8 tyX8_ok nmX8 hown hK hP hD hS 6 rfl rfl 9 (by decide) (hts _ wdX8_record_1) (fun _ h9 => h9) rfl (by decide +kernel) rfl rfl (Nat.le_of_ble_eq_true rfl) dX8_record_249 (fun H locs hP hD hS => ?_)
    have hP : va_P D vwCl [(h3, .inl (cI, 300, .inl f_37)), (h4, .inl (cI, 300, .inl f_38)), (h1, .inl (cB, 65536, .inl f_28)), (h2, .inl (cI, 64, .inl f_5)), (h9, .inl (cI, 64, .inl zf)), (h8, .inl (cB, 4096, .inl f_26)), (h0, .inr (7, [g0, g1, g2, .ref h1, g3, .ref h2, .int 8, .int 26, .int 1, .int 2, g4, g5, g6, g7, g8, g9, .ref h3, .ref h4, .int x_40, .ref h5, .ref h6, .ref h7, g10, g11, .ref h8, .int 16, .ref h9, g12, g13, g14])), (h5, .inl (cI, 128, .inl f_41)), (h6, .inl (cI, 128, .inl f_42)), (h7, .inl (cI, 128, .inl f_43))] H := hP
    have hD : va_D A [(h3, .inl (cI, 300, .inl f_37)), (h4, .inl (cI, 300, .inl f_38)), (h1, .inl (cB, 65536, .inl f_28)), (h2, .inl (cI, 64, .inl f_5)), (h9, .inl (cI, 64, .inl zf)), (h8, .inl (cB, 4096, .inl f_26)), (h0, .inr (7, [g0, g1, g2, .ref h1, g3, .ref h2, .int 8, .int 26, .int 1, .int 2, g4, g5, g6, g7, g8, g9, .ref h3, .ref h4, .int x_40, .ref h5, .ref h6, .ref h7, g10, g11, .ref h8, .int 16, .ref h9, g12, g13, g14])), (h5, .inl (cI, 128, .inl f_41)), (h6, .inl (cI, 128, .inl f_42)), (h7, .inl (cI, 128, .inl f_43))] := hD
    exact kr_v (f_37, f_38, f_28, f_5, f_26, x_40, f_41, f_42, f_43) hx hb hr hlocks hP hD hS ⟨bf_28, bf_26, (by show 1 ≤ Int32.toInt x_40; omega), (by show Int32.toInt x_40 ≤ 2; omega)⟩ dX8_record_252
  · skip
    have k_50 := mt (ti_le (x := 16) (y := v_29) (a := 16) (b := v_29.toInt) (by decide) rfl).mpr c
    refine lv_aload_n hx hb dX8_record_110 rfl (lv_at hl 1 rfl) ?_
    refine va_get (D := D) (ci := 7) (v := .ref h1) (C := RX8) (T := TX8) (N := 30) hx hb hts inX8_record_X8 hown hK hP 8 rfl rfl 3 (by decide) (hts _ wdX8_record_8) (fun _ h9 => h9) rfl dX8_record_111 ?_
    refine lv_aload_n hx hb dX8_record_114 rfl (lv_at hl 1 rfl) ?_
    refine va_get (D := D) (ci := 7) (v := .int 8) (C := RX8) (T := TX8) (N := 30) hx hb hts inX8_record_X8 hown hK hP 8 rfl rfl 6 (by decide) (hts _ wdX8_record_4) (fun _ h9 => h9) rfl dX8_record_115 ?_
    refine lv_aload_n hx hb dX8_record_118 rfl (lv_at hl 1 rfl) ?_
    refine va_get (D := D) (ci := 7) (v := .int 10) (C := RX8) (T := TX8) (N := 30) hx hb hts inX8_record_X8 hown hK hP 8 rfl rfl 7 (by decide) (hts _ wdX8_record_6) (fun _ h9 => h9) rfl dX8_record_119 ?_
    refine lv_iload hx hb dX8_record_122 (lv_at hl 0 rfl) ?_
    refine lv_iadd hx hb dX8_record_124 ?_
    refine lv_topi (fun x_51 ex_51 => ?_)
    have tx_51 : x_51.toInt = 10 + v_29.toInt := by rw [ex_51]; exact ti_add (by decide) rfl (by omega) (by omega)
    refine kc_i (wr := [(h3, .inl (cI, 300, .inl zf)), (h4, .inl (cI, 300, .inl zf)), (h1, .inl (cB, 65536, .inl f_28)), (h2, .inl (cI, 64, .inl f_5)), (h9, .inl (cI, 64, .inl zf)), (h5, .inl (cI, 128, .inl f_7)), (h6, .inl (cI, 128, .inl zf)), (h7, .inl (cI, 128, .inl f_8)), (h0, .inr (7, [g0, g1, g2, .ref h1, g3, .ref h2, .int 8, .int 10, .int 1, .int 1, g4, g5, g6, g7, g8, g9, .ref h3, .ref h4, .int 1, .ref h5, .ref h6, .ref h7, g10, g11, .ref h8, .int 16, .ref h9, g12, g13, g14])), (h8, .inl (cB, 4096, .inl f_26))]) (va_runS (As := [.int 8, .int x_51]) (rest := [.ref h1]) ⟨hx, hb, hml, hown, hts⟩ (K97_X8_at l D cB cI cZ _ x_51 ⟨by omega, by omega⟩) (va_cwS 2 hts gX8_record_X8_at rfl rfl rfl (by decide +kernel) ⟨Nat.le_of_ble_eq_true rfl, Nat.le_of_ble_eq_true rfl⟩) (pre_S (hP.sub [] rfl) hK hN (hD.sub [] (by decide) rfl)) rfl rfl hl.1 rfl (lv_room (Nat.le_of_ble_eq_true rfl)) dX8_record_125 ⟨Nat.le_of_ble_eq_true rfl, Nat.le_of_ble_eq_true rfl⟩) hP hD hS hA [] [0, 1, 2, 3, 4, 5, 6, 7, 8, 9] rfl rfl (by decide) (by decide) (fun r_52 u H locs hw hP hD hS => ?_)
    have k_53 := hw
    have k_53 : r_52.toInt = x_51.toInt + 8192 := k_53
    have hP : va_P D vwCl [(h3, .inl (cI, 300, .inl zf)), (h4, .inl (cI, 300, .inl zf)), (h1, .inl (cB, 65536, .inl f_28)), (h2, .inl (cI, 64, .inl f_5)), (h9, .inl (cI, 64, .inl zf)), (h5, .inl (cI, 128, .inl f_7)), (h6, .inl (cI, 128, .inl zf)), (h7, .inl (cI, 128, .inl f_8)), (h0, .inr (7, [g0, g1, g2, .ref h1, g3, .ref h2, .int 8, .int 10, .int 1, .int 1, g4, g5, g6, g7, g8, g9, .ref h3, .ref h4, .int 1, .ref h5, .ref h6, .ref h7, g10, g11, .ref h8, .int 16, .ref h9, g12, g13, g14])), (h8, .inl (cB, 4096, .inl f_26))] H := hP
    have hD : va_D A [(h3, .inl (cI, 300, .inl zf)), (h4, .inl (cI, 300, .inl zf)), (h1, .inl (cB, 65536, .inl f_28)), (h2, .inl (cI, 64, .inl f_5)), (h9, .inl (cI, 64, .inl zf)), (h5, .inl (cI, 128, .inl f_7)), (h6, .inl (cI, 128, .inl zf)), (h7, .inl (cI, 128, .inl f_8)), (h0, .inr (7, [g0, g1, g2, .ref h1, g3, .ref h2, .int 8, .int 10, .int 1, .int 1, g4, g5, g6, g7, g8, g9, .ref h3, .ref h4, .int 1, .ref h5, .ref h6, .ref h7, g10, g11, .ref h8, .int 16, .ref h9, g12, g13, g14])), (h8, .inl (cB, 4096, .inl f_26))] := hD
    refine lv_aload_n hx hb dX8_record_128 rfl (lv_at hl 1 rfl) ?_
    refine va_get (D := D) (ci := 7) (v := .ref h8) (C := RX8) (T := TX8) (N := 30) hx hb hts inX8_record_X8 hown hK hP 8 rfl rfl 24 (by decide) (hts _ wdX8_record_2) (fun _ h9 => h9) rfl dX8_record_129 ?_
    refine lv_iload hx hb dX8_record_132 (lv_at hl 0 rfl) ?_
    refine va_bald hx hb hK hP 9 0 rfl rfl (ti_in (a := v_29.toInt) rfl (by omega) (by omega)) dX8_record_134 ?_
    refine lv_topi (fun x_54 ex_54 => ?_)
    refine va_bast hx hb hK hP hD hS 2 0 rfl rfl (ti_in (a := r_52.toInt) rfl (by omega) (by omega)) dX8_record_135 (fun H locs hP hD hS => ?_)
    obtain ⟨f_55, ef_55⟩ : ∃ g : Nat → Int32, g = upd f_28 (Int32.toNatClampNeg r_52) (vp_nar .byte x_54) := ⟨_, rfl⟩
    rw [← ef_55] at hP hD
    have bf_55 : FB f_55 := by rw [ef_55]; exact FB_upd bf_28 _ _
    have hP : va_P D vwCl [(h3, .inl (cI, 300, .inl zf)), (h4, .inl (cI, 300, .inl zf)), (h1, .inl (cB, 65536, .inl f_55)), (h2, .inl (cI, 64, .inl f_5)), (h9, .inl (cI, 64, .inl zf)), (h5, .inl (cI, 128, .inl f_7)), (h6, .inl (cI, 128, .inl zf)), (h7, .inl (cI, 128, .inl f_8)), (h0, .inr (7, [g0, g1, g2, .ref h1, g3, .ref h2, .int 8, .int 10, .int 1, .int 1, g4, g5, g6, g7, g8, g9, .ref h3, .ref h4, .int 1, .ref h5, .ref h6, .ref h7, g10, g11, .ref h8, .int 16, .ref h9, g12, g13, g14])), (h8, .inl (cB, 4096, .inl f_26))] H := hP
    have hD : va_D A [(h3, .inl (cI, 300, .inl zf)), (h4, .inl (cI, 300, .inl zf)), (h1, .inl (cB, 65536, .inl f_55)), (h2, .inl (cI, 64, .inl f_5)), (h9, .inl (cI, 64, .inl zf)), (h5, .inl (cI, 128, .inl f_7)), (h6, .inl (cI, 128, .inl zf)), (h7, .inl (cI, 128, .inl f_8)), (h0, .inr (7, [g0, g1, g2, .ref h1, g3, .ref h2, .int 8, .int 10, .int 1, .int 1, g4, g5, g6, g7, g8, g9, .ref h3, .ref h4, .int 1, .ref h5, .ref h6, .ref h7, g10, g11, .ref h8, .int 16, .ref h9, g12, g13, g14])), (h8, .inl (cB, 4096, .inl f_26))] := hD
    obtain ⟨x_56, ex_56⟩ : ∃ y : Int32, y = v_29 + 1 := ⟨_, rfl⟩
    have tx_56 : x_56.toInt = v_29.toInt + 1 := by rw [ex_56]; exact ti_add rfl (by decide) (by omega) (by omega)
    refine lv_iinc (v := x_56) (lv' := [(5, .int x_56), (0, .ref h0), (1, .int 1), (2, .int p0), (3, .int 0), (4, .int 0)]) hx hb dX8_record_136 hl (k := 0) rfl (by rw [ex_56]; rfl) (by decide) rfl (fun ls hl => ?_)
    refine lv_goto (tgt := 101) hx hb dX8_record_139 (by decide) ?_
    exact ih_31 (x_56, f_55) _ _ _ ⟨(by show 0 ≤ Int32.toInt x_56; omega), (by show Int32.toInt x_56 ≤ 16; omega), bf_55, (by show 16 - Int32.toInt x_56 < ((n_30 : Nat) : Int); omega), hP, hD, hS, hl⟩
set_option maxHeartbeats 4000000 in
set_option maxRecDepth 100000 in
theorem K81_X8_put (l : Launch) (D : va_G) (cB cI cZ : ClassId) (sz : Nat) (h0 : Nat) (h1 : Nat) (h2 : Nat) (h3 : Nat) (h4 : Nat) (h5 : Nat) (h6 : Nat) (h7 : Nat) (h8 : Nat) (h9 : Nat)  (p0 : Int32) (g0 : Value) (g1 : Value) (g2 : Value) (g3 : Value) (g4 : Value) (g5 : Value) (g6 : Value) (g7 : Value) (g8 : Value) (g9 : Value) (g10 : Value) (g11 : Value) (i_p0 : 0 ≤ p0.toInt ∧ p0.toInt ≤ 299) :
    CtI l D cB cI cZ yX8_put wsX8_put { frames := 3, cells := 0, slots := 0, locals := 72 } [.ref h0, .int p0] [(h0, .inr (7, [g0, .int 0, g1, .ref h1, g2, .ref h2, .int 0, .int 0, .int 0, .int 1, .int 0, g3, g4, g5, g6, g7, .ref h3, .ref h4, .int 0, .ref h5, .ref h6, .ref h7, g8, .int 0, .ref h8, .int 0, .ref h9, g9, g10, g11])), (h1, .inl (cB, 65536, .inl zf)), (h2, .inl (cI, 64, .inl zf)), (h3, .inl (cI, 300, .inl zf)), (h4, .inl (cI, 300, .inl zf)), (h5, .inl (cI, 128, .inl zf)), (h6, .inl (cI, 128, .inl zf)), (h7, .inl (cI, 128, .inl zf)), (h8, .inl (cB, 4096, .inl zf)), (h9, .inl (cI, 64, .inl zf))] sz 0 0
      (fun (r : Int32) (u : Unit) => r = 1)
      (fun u => []) := by
  refine mk_metI (cc := cX8_put) (maxL := 3) (ret := (some .int)) (by decide) rfl (Nat.le_of_ble_eq_true rfl) ?_
  intro p e s m below meth c A hx hb hr hml hts hown hlocks hin hP hK hN hD hA hS ls hl
  have hown : s.vm.findClass RX8 = some m.cls := hown
  have hl : lv_has ls 3 [(0, .ref h0), (1, .int p0)] := hl
  refine lv_aload_n hx hb dX8_put_0 rfl (lv_at hl 0 rfl) ?_
  refine lv_iconst (v := 0) hx hb dX8_put_1 (by decide) ?_
  refine va_put (D := D) (ci := 7) (v := .int 0) (ty := .int) (C := RX8) (T := TX8) (N := 30) hx hb hts inX8_put_X8 tyX8 tyX8_ok nmX8 hown hK hP hD hS 0 rfl rfl 0 (by decide) (hts _ wdX8_put_0) (fun _ h9 => h9) rfl (by decide +kernel) rfl rfl (Nat.le_of_ble_eq_true rfl) dX8_put_2 (fun H locs hP hD hS => ?_)
  have hP : va_P D vwCl [(h0, .inr (7, [.int 0, .int 0, g1, .ref h1, g2, .ref h2, .int 0, .int 0, .int 0, .int 1, .int 0, g3, g4, g5, g6, g7, .ref h3, .ref h4, .int 0, .ref h5, .ref h6, .ref h7, g8, .int 0, .ref h8, .int 0, .ref h9, g9, g10, g11])), (h1, .inl (cB, 65536, .inl zf)), (h2, .inl (cI, 64, .inl zf)), (h3, .inl (cI, 300, .inl zf)), (h4, .inl (cI, 300, .inl zf)), (h5, .inl (cI, 128, .inl zf)), (h6, .inl (cI, 128, .inl zf)), (h7, .inl (cI, 128, .inl zf)), (h8, .inl (cB, 4096, .inl zf)), (h9, .inl (cI, 64, .inl zf))] H := hP
  have hD : va_D A [(h0, .inr (7, [.int 0, .int 0, g1, .ref h1, g2, .ref h2, .int 0, .int 0, .int 0, .int 1, .int 0, g3, g4, g5, g6, g7, .ref h3, .ref h4, .int 0, .ref h5, .ref h6, .ref h7, g8, .int 0, .ref h8, .int 0, .ref h9, g9, g10, g11])), (h1, .inl (cB, 65536, .inl zf)), (h2, .inl (cI, 64, .inl zf)), (h3, .inl (cI, 300, .inl zf)), (h4, .inl (cI, 300, .inl zf)), (h5, .inl (cI, 128, .inl zf)), (h6, .inl (cI, 128, .inl zf)), (h7, .inl (cI, 128, .inl zf)), (h8, .inl (cB, 4096, .inl zf)), (h9, .inl (cI, 64, .inl zf))] := hD
  refine lv_aload_n hx hb dX8_put_5 rfl (lv_at hl 0 rfl) ?_
  refine va_get (D := D) (ci := 7) (v := .int 0) (C := RX8) (T := TX8) (N := 30) hx hb hts inX8_put_X8 hown hK hP 0 rfl rfl 1 (by decide) (hts _ wdX8_put_1) (fun _ h9 => h9) rfl dX8_put_6 ?_
  refine lv_if_eq (tgt := 15) hx hb dX8_put_9 (by decide) (fun c => ?_) (fun c => absurd (by decide) c)
  refine lv_iload_n hx hb dX8_put_15 rfl (lv_at hl 1 rfl) ?_
  refine lv_iconst (v := 0) hx hb dX8_put_16 (by decide) ?_
  refine lv_sipush (v := 299) hx hb dX8_put_17 (by decide) ?_
  refine kc_i (wr := [(h0, .inr (7, [.int 0, .int 0, g1, .ref h1, g2, .ref h2, .int 0, .int 0, .int 0, .int 1, .int 0, g3, g4, g5, g6, g7, .ref h3, .ref h4, .int 0, .ref h5, .ref h6, .ref h7, g8, .int 0, .ref h8, .int 0, .ref h9, g9, g10, g11])), (h1, .inl (cB, 65536, .inl zf)), (h2, .inl (cI, 64, .inl zf)), (h3, .inl (cI, 300, .inl zf)), (h4, .inl (cI, 300, .inl zf)), (h5, .inl (cI, 128, .inl zf)), (h6, .inl (cI, 128, .inl zf)), (h7, .inl (cI, 128, .inl zf)), (h8, .inl (cB, 4096, .inl zf)), (h9, .inl (cI, 64, .inl zf))]) (va_runS (As := [.int p0, .int 0, .int 299]) (rest := []) ⟨hx, hb, hml, hown, hts⟩ (K82_X8_in l D cB cI cZ _ p0 ⟨by omega, by omega⟩) (va_cwS 3 hts gX8_put_X8_in rfl rfl rfl (by decide +kernel) ⟨Nat.le_of_ble_eq_true rfl, Nat.le_of_ble_eq_true rfl⟩) (pre_S (hP.sub [] rfl) hK hN (hD.sub [] (by decide) rfl)) rfl rfl hl.1 rfl (lv_room (Nat.le_of_ble_eq_true rfl)) dX8_put_20 ⟨Nat.le_of_ble_eq_true rfl, Nat.le_of_ble_eq_true rfl⟩) hP hD hS hA [] [0, 1, 2, 3, 4, 5, 6, 7, 8, 9] rfl rfl (by decide) (by decide) (fun r_1 u H locs hw hP hD hS => ?_)
  have k_2 := hw
  obtain rfl : r_1 = 1 := k_2
  have hP : va_P D vwCl [(h0, .inr (7, [.int 0, .int 0, g1, .ref h1, g2, .ref h2, .int 0, .int 0, .int 0, .int 1, .int 0, g3, g4, g5, g6, g7, .ref h3, .ref h4, .int 0, .ref h5, .ref h6, .ref h7, g8, .int 0, .ref h8, .int 0, .ref h9, g9, g10, g11])), (h1, .inl (cB, 65536, .inl zf)), (h2, .inl (cI, 64, .inl zf)), (h3, .inl (cI, 300, .inl zf)), (h4, .inl (cI, 300, .inl zf)), (h5, .inl (cI, 128, .inl zf)), (h6, .inl (cI, 128, .inl zf)), (h7, .inl (cI, 128, .inl zf)), (h8, .inl (cB, 4096, .inl zf)), (h9, .inl (cI, 64, .inl zf))] H := hP
  have hD : va_D A [(h0, .inr (7, [.int 0, .int 0, g1, .ref h1, g2, .ref h2, .int 0, .int 0, .int 0, .int 1, .int 0, g3, g4, g5, g6, g7, .ref h3, .ref h4, .int 0, .ref h5, .ref h6, .ref h7, g8, .int 0, .ref h8, .int 0, .ref h9, g9, g10, g11])), (h1, .inl (cB, 65536, .inl zf)), (h2, .inl (cI, 64, .inl zf)), (h3, .inl (cI, 300, .inl zf)), (h4, .inl (cI, 300, .inl zf)), (h5, .inl (cI, 128, .inl zf)), (h6, .inl (cI, 128, .inl zf)), (h7, .inl (cI, 128, .inl zf)), (h8, .inl (cB, 4096, .inl zf)), (h9, .inl (cI, 64, .inl zf))] := hD
  refine lv_if_ne (tgt := 29) hx hb dX8_put_23 (by decide) (fun c => ?_) (fun c => absurd c (by decide))
  refine lv_aload_n hx hb dX8_put_29 rfl (lv_at hl 0 rfl) ?_
  refine lv_bipush (v := 16) hx hb dX8_put_30 (by decide) ?_
  refine lv_aload_n hx hb dX8_put_32 rfl (lv_at hl 0 rfl) ?_
  refine va_get (D := D) (ci := 7) (v := .int 0) (C := RX8) (T := TX8) (N := 30) hx hb hts inX8_put_X8 hown hK hP 0 rfl rfl 23 (by decide) (hts _ wdX8_put_2) (fun _ h9 => h9) rfl dX8_put_33 ?_
  refine lv_iadd hx hb dX8_put_36 ?_
  refine lv_topi (fun z_3 ez_3 => ?_)
  obtain rfl : z_3 = 16 := ez_3.trans (by decide)
  refine kc_i (wr := [(h1, .inl (cB, 65536, .inl zf)), (h2, .inl (cI, 64, .inl zf)), (h3, .inl (cI, 300, .inl zf)), (h4, .inl (cI, 300, .inl zf)), (h5, .inl (cI, 128, .inl zf)), (h6, .inl (cI, 128, .inl zf)), (h7, .inl (cI, 128, .inl zf)), (h8, .inl (cB, 4096, .inl zf)), (h9, .inl (cI, 64, .inl zf))]) (va_runV (As := [.int 16]) (rest := []) ⟨hx, hb, hml, hown, hts⟩ (K83_X8_opens l D cB cI cZ _ h0 ((.int 0)) ((.int 0)) (g1) ((.ref h1)) (g2) ((.ref h2)) ((.int 0)) ((.int 0)) ((.int 1)) ((.int 0)) (g3) (g4) (g5) (g6) (g7) ((.ref h3)) ((.ref h4)) ((.int 0)) ((.ref h5)) ((.ref h6)) ((.ref h7)) (g8) ((.int 0)) ((.ref h8)) ((.int 0)) ((.ref h9)) (g9) (g10) (g11)) (cwV 1 hts gX8_put_X8_opens rfl rfl rfl (by decide +kernel) ⟨Nat.le_of_ble_eq_true rfl, Nat.le_of_ble_eq_true rfl⟩) (pre_V (q := (RX8, TX8, 30)) (ci := 7) (q0 := 0) (hP.sub [0] rfl) hK hN (hD.sub [0] (by decide) rfl) rfl rfl) rfl rfl hl.1 rfl (lv_room (Nat.le_of_ble_eq_true rfl)) dX8_put_37 ⟨Nat.le_of_ble_eq_true rfl, Nat.le_of_ble_eq_true rfl⟩) hP hD hS hA [0] [1, 2, 3, 4, 5, 6, 7, 8, 9] rfl rfl (by decide) (by decide) (fun r_4 u H locs hw hP hD hS => ?_)
  have k_5 := hw
  obtain rfl : r_4 = 1 := k_5
  have hP : va_P D vwCl [(h1, .inl (cB, 65536, .inl zf)), (h2, .inl (cI, 64, .inl zf)), (h3, .inl (cI, 300, .inl zf)), (h4, .inl (cI, 300, .inl zf)), (h5, .inl (cI, 128, .inl zf)), (h6, .inl (cI, 128, .inl zf)), (h7, .inl (cI, 128, .inl zf)), (h8, .inl (cB, 4096, .inl zf)), (h9, .inl (cI, 64, .inl zf)), (h0, .inr (7, [.int 0, .int 0, g1, .ref h1, g2, .ref h2, .int 0, .int 0, .int 0, .int 1, .int 0, g3, g4, g5, g6, g7, .ref h3, .ref h4, .int 0, .ref h5, .ref h6, .ref h7, g8, .int 0, .ref h8, .int 0, .ref h9, g9, g10, g11]))] H := hP
  have hD : va_D A [(h1, .inl (cB, 65536, .inl zf)), (h2, .inl (cI, 64, .inl zf)), (h3, .inl (cI, 300, .inl zf)), (h4, .inl (cI, 300, .inl zf)), (h5, .inl (cI, 128, .inl zf)), (h6, .inl (cI, 128, .inl zf)), (h7, .inl (cI, 128, .inl zf)), (h8, .inl (cB, 4096, .inl zf)), (h9, .inl (cI, 64, .inl zf)), (h0, .inr (7, [.int 0, .int 0, g1, .ref h1, g2, .ref h2, .int 0, .int 0, .int 0, .int 1, .int 0, g3, g4, g5, g6, g7, .ref h3, .ref h4, .int 0, .ref h5, .ref h6, .ref h7, g8, .int 0, .ref h8, .int 0, .ref h9, g9, g10, g11]))] := hD
  refine lv_if_eq (tgt := 54) hx hb dX8_put_40 (by decide) (fun c => absurd c (by decide)) (fun c => ?_)
  refine lv_aload_n hx hb dX8_put_43 rfl (lv_at hl 0 rfl) ?_
  refine kc_i (wr := [(h1, .inl (cB, 65536, .inl zf)), (h3, .inl (cI, 300, .inl zf)), (h4, .inl (cI, 300, .inl zf)), (h5, .inl (cI, 128, .inl zf)), (h6, .inl (cI, 128, .inl zf)), (h7, .inl (cI, 128, .inl zf)), (h8, .inl (cB, 4096, .inl zf)), (h9, .inl (cI, 64, .inl zf))]) (va_runV (As := []) (rest := []) ⟨hx, hb, hml, hown, hts⟩ (K84_X8_frees l D cB cI cZ _ h0 h2 ((.int 0)) ((.int 0)) (g1) ((.ref h1)) (g2) ((.int 0)) ((.int 0)) ((.int 0)) ((.int 1)) ((.int 0)) (g3) (g4) (g5) (g6) (g7) ((.ref h3)) ((.ref h4)) ((.int 0)) ((.ref h5)) ((.ref h6)) ((.ref h7)) (g8) ((.int 0)) ((.ref h8)) ((.int 0)) ((.ref h9)) (g9) (g10) (g11)) (cwV 0 hts gX8_put_X8_frees rfl rfl rfl (by decide +kernel) ⟨Nat.le_of_ble_eq_true rfl, Nat.le_of_ble_eq_true rfl⟩) (pre_V (q := (RX8, TX8, 30)) (ci := 7) (q0 := 0) (hP.sub [9, 1] rfl) hK hN (hD.sub [9, 1] (by decide) rfl) rfl rfl) rfl rfl hl.1 rfl (lv_room (Nat.le_of_ble_eq_true rfl)) dX8_put_44 ⟨Nat.le_of_ble_eq_true rfl, Nat.le_of_ble_eq_true rfl⟩) hP hD hS hA [9, 1] [0, 2, 3, 4, 5, 6, 7, 8] rfl rfl (by decide) (by decide) (fun r_6 u H locs hw hP hD hS => ?_)
  have k_7 := hw
  obtain rfl : r_6 = 56 := k_7
  have hP : va_P D vwCl [(h1, .inl (cB, 65536, .inl zf)), (h3, .inl (cI, 300, .inl zf)), (h4, .inl (cI, 300, .inl zf)), (h5, .inl (cI, 128, .inl zf)), (h6, .inl (cI, 128, .inl zf)), (h7, .inl (cI, 128, .inl zf)), (h8, .inl (cB, 4096, .inl zf)), (h9, .inl (cI, 64, .inl zf)), (h0, .inr (7, [.int 0, .int 0, g1, .ref h1, g2, .ref h2, .int 0, .int 0, .int 0, .int 1, .int 0, g3, g4, g5, g6, g7, .ref h3, .ref h4, .int 0, .ref h5, .ref h6, .ref h7, g8, .int 0, .ref h8, .int 0, .ref h9, g9, g10, g11])), (h2, .inl (cI, 64, .inl zf))] H := hP
  have hD : va_D A [(h1, .inl (cB, 65536, .inl zf)), (h3, .inl (cI, 300, .inl zf)), (h4, .inl (cI, 300, .inl zf)), (h5, .inl (cI, 128, .inl zf)), (h6, .inl (cI, 128, .inl zf)), (h7, .inl (cI, 128, .inl zf)), (h8, .inl (cB, 4096, .inl zf)), (h9, .inl (cI, 64, .inl zf)), (h0, .inr (7, [.int 0, .int 0, g1, .ref h1, g2, .ref h2, .int 0, .int 0, .int 0, .int 1, .int 0, g3, g4, g5, g6, g7, .ref h3, .ref h4, .int 0, .ref h5, .ref h6, .ref h7, g8, .int 0, .ref h8, .int 0, .ref h9, g9, g10, g11])), (h2, .inl (cI, 64, .inl zf))] := hD
  refine lv_iconst (v := 2) hx hb dX8_put_47 (by decide) ?_
  refine lv_icmp_gt (tgt := 54) hx hb dX8_put_48 (by decide) (fun c => ?_) (fun c => absurd (by decide) c)
  refine lv_iconst (v := 0) hx hb dX8_put_54 (by decide) ?_
  refine lv_istore_n (lv' := [(2, .int 0), (0, .ref h0), (1, .int p0)]) hx hb dX8_put_55 rfl hl (by decide) rfl (fun ls hl => ?_)
  refine lv_iload_n hx hb dX8_put_56 rfl (lv_at hl 0 rfl) ?_
  refine lv_aload_n hx hb dX8_put_57 rfl (lv_at hl 1 rfl) ?_
  refine va_get (D := D) (ci := 7) (v := .int 0) (C := RX8) (T := TX8) (N := 30) hx hb hts inX8_put_X8 hown hK hP 8 rfl rfl 23 (by decide) (hts _ wdX8_put_2) (fun _ h9 => h9) rfl dX8_put_58 ?_
  refine lv_icmp_ge (tgt := 82) hx hb dX8_put_61 (by decide) (fun c => ?_) (fun c => absurd (by decide) c)
  refine lv_aload_n hx hb dX8_put_82 rfl (lv_at hl 1 rfl) ?_
  refine lv_iconst (v := 1) hx hb dX8_put_83 (by decide) ?_
  refine lv_iload_n hx hb dX8_put_84 rfl (lv_at hl 2 rfl) ?_
  refine lv_aload_n hx hb dX8_put_85 rfl (lv_at hl 1 rfl) ?_
  refine va_get (D := D) (ci := 7) (v := .int 0) (C := RX8) (T := TX8) (N := 30) hx hb hts inX8_put_X8 hown hK hP 8 rfl rfl 23 (by decide) (hts _ wdX8_put_2) (fun _ h9 => h9) rfl dX8_put_86 ?_
  refine lv_aload_n hx hb dX8_put_89 rfl (lv_at hl 1 rfl) ?_
  refine va_get (D := D) (ci := 7) (v := .int 0) (C := RX8) (T := TX8) (N := 30) hx hb hts inX8_put_X8 hown hK hP 8 rfl rfl 10 (by decide) (hts _ wdX8_put_3) (fun _ h9 => h9) rfl dX8_put_90 ?_
  refine kc_v (wr := []) (va_runV (As := [.int 1, .int p0, .int 0, .int 0]) (rest := []) ⟨hx, hb, hml, hown, hts⟩ (K85_X8_record l D cB cI cZ _ h0 h1 h2 h3 h4 h5 h6 h7 h8 h9 p0 ((.int 0)) ((.int 0)) (g1) (g2) ((.int 0)) (g3) (g4) (g5) (g6) (g7) (g8) ((.int 0)) (g9) (g10) (g11) ⟨by omega, by omega⟩) (cwV 4 hts gX8_put_X8_record rfl rfl rfl (by decide +kernel) ⟨Nat.le_of_ble_eq_true rfl, Nat.le_of_ble_eq_true rfl⟩) (pre_V (q := (RX8, TX8, 30)) (ci := 7) (q0 := 0) (hP.sub [8, 0, 9, 1, 2, 3, 4, 5, 6, 7] rfl) hK hN (hD.sub [8, 0, 9, 1, 2, 3, 4, 5, 6, 7] (by decide) rfl) rfl rfl) rfl rfl hl.1 rfl (lv_room (Nat.le_of_ble_eq_true rfl)) dX8_put_93 ⟨Nat.le_of_ble_eq_true rfl, Nat.le_of_ble_eq_true rfl⟩) hP hD hS hA [8, 0, 9, 1, 2, 3, 4, 5, 6, 7] [] rfl rfl (by decide) (by decide) (fun  u H locs hw hP hD hS => ?_)
  obtain ⟨f_8, f_9, f_10, f_11, f_12, x_13, f_14, f_15, f_16⟩ := u
  obtain ⟨bf_10, bf_12, k_17, k_18⟩ := hw
  have bf_10 : FB f_10 := bf_10
  have bf_12 : FB f_12 := bf_12
  have k_17 : 1 ≤ x_13.toInt := k_17
  have k_18 : x_13.toInt ≤ 2 := k_18
  have hP : va_P D vwCl [(h3, .inl (cI, 300, .inl f_8)), (h4, .inl (cI, 300, .inl f_9)), (h1, .inl (cB, 65536, .inl f_10)), (h2, .inl (cI, 64, .inl f_11)), (h9, .inl (cI, 64, .inl zf)), (h8, .inl (cB, 4096, .inl f_12)), (h0, .inr (7, [.int 0, .int 0, g1, .ref h1, g2, .ref h2, .int 8, .int 26, .int 1, .int 2, .int 0, g3, g4, g5, g6, g7, .ref h3, .ref h4, .int x_13, .ref h5, .ref h6, .ref h7, g8, .int 0, .ref h8, .int 16, .ref h9, g9, g10, g11])), (h5, .inl (cI, 128, .inl f_14)), (h6, .inl (cI, 128, .inl f_15)), (h7, .inl (cI, 128, .inl f_16))] H := hP
  have hD : va_D A [(h3, .inl (cI, 300, .inl f_8)), (h4, .inl (cI, 300, .inl f_9)), (h1, .inl (cB, 65536, .inl f_10)), (h2, .inl (cI, 64, .inl f_11)), (h9, .inl (cI, 64, .inl zf)), (h8, .inl (cB, 4096, .inl f_12)), (h0, .inr (7, [.int 0, .int 0, g1, .ref h1, g2, .ref h2, .int 8, .int 26, .int 1, .int 2, .int 0, g3, g4, g5, g6, g7, .ref h3, .ref h4, .int x_13, .ref h5, .ref h6, .ref h7, g8, .int 0, .ref h8, .int 16, .ref h9, g9, g10, g11])), (h5, .inl (cI, 128, .inl f_14)), (h6, .inl (cI, 128, .inl f_15)), (h7, .inl (cI, 128, .inl f_16))] := hD
  refine lv_aload_n hx hb dX8_put_96 rfl (lv_at hl 1 rfl) ?_
  refine lv_iconst (v := 0) hx hb dX8_put_97 (by decide) ?_
  refine va_put (D := D) (ci := 7) (v := .int 0) (ty := .int) (C := RX8) (T := TX8) (N := 30) hx hb hts inX8_put_X8 tyX8 tyX8_ok nmX8 hown hK hP hD hS 6 rfl rfl 23 (by decide) (hts _ wdX8_put_2) (fun _ h9 => h9) rfl (by decide +kernel) rfl rfl (Nat.le_of_ble_eq_true rfl) dX8_put_98 (fun H locs hP hD hS => ?_)
  have hP : va_P D vwCl [(h3, .inl (cI, 300, .inl f_8)), (h4, .inl (cI, 300, .inl f_9)), (h1, .inl (cB, 65536, .inl f_10)), (h2, .inl (cI, 64, .inl f_11)), (h9, .inl (cI, 64, .inl zf)), (h8, .inl (cB, 4096, .inl f_12)), (h0, .inr (7, [.int 0, .int 0, g1, .ref h1, g2, .ref h2, .int 8, .int 26, .int 1, .int 2, .int 0, g3, g4, g5, g6, g7, .ref h3, .ref h4, .int x_13, .ref h5, .ref h6, .ref h7, g8, .int 0, .ref h8, .int 16, .ref h9, g9, g10, g11])), (h5, .inl (cI, 128, .inl f_14)), (h6, .inl (cI, 128, .inl f_15)), (h7, .inl (cI, 128, .inl f_16))] H := hP
  have hD : va_D A [(h3, .inl (cI, 300, .inl f_8)), (h4, .inl (cI, 300, .inl f_9)), (h1, .inl (cB, 65536, .inl f_10)), (h2, .inl (cI, 64, .inl f_11)), (h9, .inl (cI, 64, .inl zf)), (h8, .inl (cB, 4096, .inl f_12)), (h0, .inr (7, [.int 0, .int 0, g1, .ref h1, g2, .ref h2, .int 8, .int 26, .int 1, .int 2, .int 0, g3, g4, g5, g6, g7, .ref h3, .ref h4, .int x_13, .ref h5, .ref h6, .ref h7, g8, .int 0, .ref h8, .int 16, .ref h9, g9, g10, g11])), (h5, .inl (cI, 128, .inl f_14)), (h6, .inl (cI, 128, .inl f_15)), (h7, .inl (cI, 128, .inl f_16))] := hD
  refine lv_aload_n hx hb dX8_put_101 rfl (lv_at hl 1 rfl) ?_
  refine va_get (D := D) (ci := 7) (v := .int 2) (C := RX8) (T := TX8) (N := 30) hx hb hts inX8_put_X8 hown hK hP 6 rfl rfl 9 (by decide) (hts _ wdX8_put_4) (fun _ h9 => h9) rfl dX8_put_102 ?_
  refine lv_iconst (v := 1) hx hb dX8_put_105 (by decide) ?_
  refine lv_isub hx hb dX8_put_106 ?_
  refine lv_topi (fun z_19 ez_19 => ?_)
  obtain rfl : z_19 = 1 := ez_19.trans (by decide)
  exact kr_i () hx hb hr hlocks (hP.sub [] rfl) (hD.sub [] (by decide) rfl) hS rfl dX8_put_107
set_option maxHeartbeats 4000000 in
set_option maxRecDepth 100000 in
theorem K99_X7_isKey (l : Launch) (D : va_G) (cB cI cZ : ClassId) (sz : Nat)   (p0 : Int32) (i_p0 : 300 ≤ p0.toInt) :
    CtI l D cB cI cZ yX7_isKey wsX7_isKey { frames := 0, cells := 0, slots := 0, locals := 0 } [.int p0] [] sz 0 0
      (fun (r : Int32) (u : Unit) => r = 0)
      (fun u => []) := by
  refine mk_metI (cc := cX7_isKey) (maxL := 1) (ret := (some .boolean)) (by decide) rfl (Nat.le_of_ble_eq_true rfl) ?_
  intro p e s m below meth c A hx hb hr hml hts hown hlocks hin hP hK hN hD hA hS ls hl
  have hown : s.vm.findClass RX7 = some m.cls := hown
  have hl : lv_has ls 1 [(0, .int p0)] := hl
  refine lv_iload_n hx hb dX7_isKey_0 rfl (lv_at hl 0 rfl) ?_
  refine lv_if_lt (tgt := 15) hx hb dX7_isKey_1 (by decide) (fun c => absurd ((ti_lt (x := p0) (y := 0) (a := p0.toInt) (b := 0) rfl (by decide)).mp c) (by omega)) (fun c => ?_)
  refine lv_iload_n hx hb dX7_isKey_4 rfl (lv_at hl 0 rfl) ?_
  refine lv_sipush (v := 300) hx hb dX7_isKey_5 (by decide) ?_
  refine lv_icmp_ge (tgt := 15) hx hb dX7_isKey_8 (by decide) (fun c => ?_) (fun c => absurd ((ti_le (x := 300) (y := p0) (a := 300) (b := p0.toInt) (by decide) rfl).mpr (by omega)) c)
  refine lv_iconst (v := 0) hx hb dX7_isKey_15 (by decide) ?_
  exact kr_z () hx hb hr rfl hlocks hP hD hS rfl dX7_isKey_16
set_option maxHeartbeats 4000000 in
set_option maxRecDepth 100000 in
theorem K98_X7_put (l : Launch) (D : va_G) (cB cI cZ : ClassId) (sz : Nat) (h0 : Nat)  (p0 : Int32) (g0 : Value) (g1 : Value) (g2 : Value) (g3 : Value) (g4 : Value) (g5 : Value) (g6 : Value) (g7 : Value) (i_p0 : 300 ≤ p0.toInt) :
    CtI l D cB cI cZ yX7_put wsX7_put { frames := 1, cells := 0, slots := 0, locals := 20 } [.ref h0, .int p0] [(h0, .inr (6, [g0, g1, g2, g3, g4, g5, g6, g7, .int 0]))] sz 0 0
      (fun (r : Int32) (u : Unit) => r = (-2))
      (fun u => []) := by
  refine mk_metI (cc := cX7_put) (maxL := 3) (ret := (some .int)) (by decide) rfl (Nat.le_of_ble_eq_true rfl) ?_
  intro p e s m below meth c A hx hb hr hml hts hown hlocks hin hP hK hN hD hA hS ls hl
  have hown : s.vm.findClass RX7 = some m.cls := hown
  have hl : lv_has ls 3 [(0, .ref h0), (1, .int p0)] := hl
  refine lv_aload_n hx hb dX7_put_0 rfl (lv_at hl 0 rfl) ?_
  refine va_get (D := D) (ci := 6) (v := .int 0) (C := RX7) (T := TX7) (N := 9) hx hb hts inX7_put_X7 hown hK hP 0 rfl rfl 8 (by decide) (hts _ wdX7_put_0) (fun _ h9 => h9) rfl dX7_put_1 ?_
  refine lv_if_eq (tgt := 10) hx hb dX7_put_4 (by decide) (fun c => ?_) (fun c => absurd (by decide) c)
  refine lv_iload_n hx hb dX7_put_10 rfl (lv_at hl 1 rfl) ?_
  refine kc_i (wr := [(h0, .inr (6, [g0, g1, g2, g3, g4, g5, g6, g7, .int 0]))]) (va_runS (As := [.int p0]) (rest := []) ⟨hx, hb, hml, hown, hts⟩ (K99_X7_isKey l D cB cI cZ _ p0 (by omega)) (va_cwS 1 hts gX7_put_X7_isKey rfl rfl rfl (by decide +kernel) ⟨Nat.le_of_ble_eq_true rfl, Nat.le_of_ble_eq_true rfl⟩) (pre_S (hP.sub [] rfl) hK hN (hD.sub [] (by decide) rfl)) rfl rfl hl.1 rfl (lv_room (Nat.le_of_ble_eq_true rfl)) dX7_put_11 ⟨Nat.le_of_ble_eq_true rfl, Nat.le_of_ble_eq_true rfl⟩) hP hD hS hA [] [0] rfl rfl (by decide) (by decide) (fun r_1 u H locs hw hP hD hS => ?_)
  have k_2 := hw
  obtain rfl : r_1 = 0 := k_2
  have hP : va_P D vwCl [(h0, .inr (6, [g0, g1, g2, g3, g4, g5, g6, g7, .int 0]))] H := hP
  have hD : va_D A [(h0, .inr (6, [g0, g1, g2, g3, g4, g5, g6, g7, .int 0]))] := hD
  refine lv_if_ne (tgt := 20) hx hb dX7_put_14 (by decide) (fun c => absurd (by decide) c) (fun c => ?_)
  refine lv_bipush (v := (-2)) hx hb dX7_put_17 (by decide) ?_
  exact kr_i () hx hb hr hlocks (hP.sub [] rfl) (hD.sub [] (by decide) rfl) hS rfl dX7_put_19
set_option maxHeartbeats 4000000 in
set_option maxRecDepth 100000 in
theorem K101_X8_in (l : Launch) (D : va_G) (cB cI cZ : ClassId) (sz : Nat)   (p0 : Int32) (i_p0 : 300 ≤ p0.toInt) :
    CtI l D cB cI cZ yX8_in wsX8_in { frames := 0, cells := 0, slots := 0, locals := 0 } [.int p0, .int 0, .int 299] [] sz 0 0
      (fun (r : Int32) (u : Unit) => r = 0)
      (fun u => []) := by
  refine mk_metI (cc := cX8_in) (maxL := 3) (ret := (some .boolean)) (by decide) rfl (Nat.le_of_ble_eq_true rfl) ?_
  intro p e s m below meth c A hx hb hr hml hts hown hlocks hin hP hK hN hD hA hS ls hl
  have hown : s.vm.findClass RX8 = some m.cls := hown
  have hl : lv_has ls 3 [(0, .int p0), (1, .int 0), (2, .int 299)] := hl
  refine lv_iload_n hx hb dX8_in_0 rfl (lv_at hl 0 rfl) ?_
  refine lv_iload_n hx hb dX8_in_1 rfl (lv_at hl 1 rfl) ?_
  refine lv_icmp_lt (tgt := 14) hx hb dX8_in_2 (by decide) (fun c => absurd ((ti_lt (x := p0) (y := 0) (a := p0.toInt) (b := 0) rfl (by decide)).mp c) (by omega)) (fun c => ?_)
  refine lv_iload_n hx hb dX8_in_5 rfl (lv_at hl 0 rfl) ?_
  refine lv_iload_n hx hb dX8_in_6 rfl (lv_at hl 2 rfl) ?_
  refine lv_icmp_gt (tgt := 14) hx hb dX8_in_7 (by decide) (fun c => ?_) (fun c => absurd ((ti_lt (x := 299) (y := p0) (a := 299) (b := p0.toInt) (by decide) rfl).mpr (by omega)) c)
  refine lv_iconst (v := 0) hx hb dX8_in_14 (by decide) ?_
  exact kr_z () hx hb hr rfl hlocks hP hD hS rfl dX8_in_15
set_option maxHeartbeats 4000000 in
set_option maxRecDepth 100000 in
theorem K100_X8_put (l : Launch) (D : va_G) (cB cI cZ : ClassId) (sz : Nat) (h0 : Nat)  (p0 : Int32) (g0 : Value) (g1 : Value) (g2 : Value) (g3 : Value) (g4 : Value) (g5 : Value) (g6 : Value) (g7 : Value) (g8 : Value) (g9 : Value) (g10 : Value) (g11 : Value) (g12 : Value) (g13 : Value) (g14 : Value) (g15 : Value) (g16 : Value) (g17 : Value) (g18 : Value) (g19 : Value) (g20 : Value) (g21 : Value) (g22 : Value) (g23 : Value) (g24 : Value) (g25 : Value) (g26 : Value) (g27 : Value) (g28 : Value) (i_p0 : 300 ≤ p0.toInt) :
    CtI l D cB cI cZ yX8_put wsX8_put { frames := 1, cells := 0, slots := 0, locals := 22 } [.ref h0, .int p0] [(h0, .inr (7, [g0, .int 0, g1, g2, g3, g4, g5, g6, g7, g8, g9, g10, g11, g12, g13, g14, g15, g16, g17, g18, g19, g20, g21, g22, g23, g24, g25, g26, g27, g28]))] sz 0 0
      (fun (r : Int32) (u : Unit) => r = (-2))
      (fun u => []) := by
  refine mk_metI (cc := cX8_put) (maxL := 3) (ret := (some .int)) (by decide) rfl (Nat.le_of_ble_eq_true rfl) ?_
  intro p e s m below meth c A hx hb hr hml hts hown hlocks hin hP hK hN hD hA hS ls hl
  have hown : s.vm.findClass RX8 = some m.cls := hown
  have hl : lv_has ls 3 [(0, .ref h0), (1, .int p0)] := hl
  refine lv_aload_n hx hb dX8_put_0 rfl (lv_at hl 0 rfl) ?_
  refine lv_iconst (v := 0) hx hb dX8_put_1 (by decide) ?_
  refine va_put (D := D) (ci := 7) (v := .int 0) (ty := .int) (C := RX8) (T := TX8) (N := 30) hx hb hts inX8_put_X8 tyX8 tyX8_ok nmX8 hown hK hP hD hS 0 rfl rfl 0 (by decide) (hts _ wdX8_put_0) (fun _ h9 => h9) rfl (by decide +kernel) rfl rfl (Nat.le_of_ble_eq_true rfl) dX8_put_2 (fun H locs hP hD hS => ?_)
  have hP : va_P D vwCl [(h0, .inr (7, [.int 0, .int 0, g1, g2, g3, g4, g5, g6, g7, g8, g9, g10, g11, g12, g13, g14, g15, g16, g17, g18, g19, g20, g21, g22, g23, g24, g25, g26, g27, g28]))] H := hP
  have hD : va_D A [(h0, .inr (7, [.int 0, .int 0, g1, g2, g3, g4, g5, g6, g7, g8, g9, g10, g11, g12, g13, g14, g15, g16, g17, g18, g19, g20, g21, g22, g23, g24, g25, g26, g27, g28]))] := hD
  refine lv_aload_n hx hb dX8_put_5 rfl (lv_at hl 0 rfl) ?_
  refine va_get (D := D) (ci := 7) (v := .int 0) (C := RX8) (T := TX8) (N := 30) hx hb hts inX8_put_X8 hown hK hP 0 rfl rfl 1 (by decide) (hts _ wdX8_put_1) (fun _ h9 => h9) rfl dX8_put_6 ?_
  refine lv_if_eq (tgt := 15) hx hb dX8_put_9 (by decide) (fun c => ?_) (fun c => absurd (by decide) c)
  refine lv_iload_n hx hb dX8_put_15 rfl (lv_at hl 1 rfl) ?_
  refine lv_iconst (v := 0) hx hb dX8_put_16 (by decide) ?_
  refine lv_sipush (v := 299) hx hb dX8_put_17 (by decide) ?_
  refine kc_i (wr := [(h0, .inr (7, [.int 0, .int 0, g1, g2, g3, g4, g5, g6, g7, g8, g9, g10, g11, g12, g13, g14, g15, g16, g17, g18, g19, g20, g21, g22, g23, g24, g25, g26, g27, g28]))]) (va_runS (As := [.int p0, .int 0, .int 299]) (rest := []) ⟨hx, hb, hml, hown, hts⟩ (K101_X8_in l D cB cI cZ _ p0 (by omega)) (va_cwS 3 hts gX8_put_X8_in rfl rfl rfl (by decide +kernel) ⟨Nat.le_of_ble_eq_true rfl, Nat.le_of_ble_eq_true rfl⟩) (pre_S (hP.sub [] rfl) hK hN (hD.sub [] (by decide) rfl)) rfl rfl hl.1 rfl (lv_room (Nat.le_of_ble_eq_true rfl)) dX8_put_20 ⟨Nat.le_of_ble_eq_true rfl, Nat.le_of_ble_eq_true rfl⟩) hP hD hS hA [] [0] rfl rfl (by decide) (by decide) (fun r_1 u H locs hw hP hD hS => ?_)
  have k_2 := hw
  obtain rfl : r_1 = 0 := k_2
  have hP : va_P D vwCl [(h0, .inr (7, [.int 0, .int 0, g1, g2, g3, g4, g5, g6, g7, g8, g9, g10, g11, g12, g13, g14, g15, g16, g17, g18, g19, g20, g21, g22, g23, g24, g25, g26, g27, g28]))] H := hP
  have hD : va_D A [(h0, .inr (7, [.int 0, .int 0, g1, g2, g3, g4, g5, g6, g7, g8, g9, g10, g11, g12, g13, g14, g15, g16, g17, g18, g19, g20, g21, g22, g23, g24, g25, g26, g27, g28]))] := hD
  refine lv_if_ne (tgt := 29) hx hb dX8_put_23 (by decide) (fun c => absurd (by decide) c) (fun c => ?_)
  refine lv_bipush (v := (-2)) hx hb dX8_put_26 (by decide) ?_
  exact kr_i () hx hb hr hlocks (hP.sub [] rfl) (hD.sub [] (by decide) rfl) hS rfl dX8_put_28
set_option maxHeartbeats 4000000 in
set_option maxRecDepth 100000 in
theorem K104_X7_isKey (l : Launch) (D : va_G) (cB cI cZ : ClassId) (sz : Nat)   (p0 : Int32)  :
    CtI l D cB cI cZ yX7_isKey wsX7_isKey { frames := 0, cells := 0, slots := 0, locals := 0 } [.int p0] [] sz 0 0
      (fun (r : Int32) (u : Unit) => ((r = 0) ∨ (r = 1 ∧ 0 ≤ p0.toInt ∧ p0.toInt ≤ 299)))
      (fun u => []) := by
  refine mk_metI (cc := cX7_isKey) (maxL := 1) (ret := (some .boolean)) (by decide) rfl (Nat.le_of_ble_eq_true rfl) ?_
  intro p e s m below meth c A hx hb hr hml hts hown hlocks hin hP hK hN hD hA hS ls hl
  have hown : s.vm.findClass RX7 = some m.cls := hown
  have hl : lv_has ls 1 [(0, .int p0)] := hl
  refine lv_iload_n hx hb dX7_isKey_0 rfl (lv_at hl 0 rfl) ?_
  refine lv_if_lt (tgt := 15) hx hb dX7_isKey_1 (by decide) (fun c => ?_) (fun c => ?_)
  · skip
    have k_1 := (ti_lt (x := p0) (y := 0) (a := p0.toInt) (b := 0) rfl (by decide)).mp c
    refine lv_iconst (v := 0) hx hb dX7_isKey_15 (by decide) ?_
    exact kr_z () hx hb hr rfl hlocks hP hD hS (Or.inl rfl) dX7_isKey_16
  · skip
    have k_2 := mt (ti_lt (x := p0) (y := 0) (a := p0.toInt) (b := 0) rfl (by decide)).mpr c
    refine lv_iload_n hx hb dX7_isKey_4 rfl (lv_at hl 0 rfl) ?_
    refine lv_sipush (v := 300) hx hb dX7_isKey_5 (by decide) ?_
    refine lv_icmp_ge (tgt := 15) hx hb dX7_isKey_8 (by decide) (fun c => ?_) (fun c => ?_)
    · skip
      have k_3 := (ti_le (x := 300) (y := p0) (a := 300) (b := p0.toInt) (by decide) rfl).mp c
      refine lv_iconst (v := 0) hx hb dX7_isKey_15 (by decide) ?_
      exact kr_z () hx hb hr rfl hlocks hP hD hS (Or.inl rfl) dX7_isKey_16
    · skip
      have k_4 := mt (ti_le (x := 300) (y := p0) (a := 300) (b := p0.toInt) (by decide) rfl).mpr c
      refine lv_iconst (v := 1) hx hb dX7_isKey_11 (by decide) ?_
      refine lv_goto (tgt := 16) hx hb dX7_isKey_12 (by decide) ?_
      exact kr_z () hx hb hr rfl hlocks hP hD hS (Or.inr ⟨rfl, (by first | omega | decide), (by first | omega | decide)⟩) dX7_isKey_16
set_option maxHeartbeats 4000000 in
set_option maxRecDepth 100000 in
theorem K105_X7_isOfLog (l : Launch) (D : va_G) (cB cI cZ : ClassId) (sz : Nat)     :
    CtI l D cB cI cZ yX7_isOfLog wsX7_isOfLog { frames := 0, cells := 0, slots := 0, locals := 0 } [.int 0] [] sz 0 0
      (fun (r : Int32) (u : Unit) => r = 0)
      (fun u => []) := by
  refine mk_metI (cc := cX7_isOfLog) (maxL := 1) (ret := (some .boolean)) (by decide) rfl (Nat.le_of_ble_eq_true rfl) ?_
  intro p e s m below meth c A hx hb hr hml hts hown hlocks hin hP hK hN hD hA hS ls hl
  have hown : s.vm.findClass RX7 = some m.cls := hown
  have hl : lv_has ls 1 [(0, .int 0)] := hl
  refine lv_iload_n hx hb dX7_isOfLog_0 rfl (lv_at hl 0 rfl) ?_
  refine lv_bipush (v := 8) hx hb dX7_isOfLog_1 (by decide) ?_
  refine lv_icmp_lt (tgt := 16) hx hb dX7_isOfLog_3 (by decide) (fun c => ?_) (fun c => absurd (by decide) c)
  refine lv_iconst (v := 0) hx hb dX7_isOfLog_16 (by decide) ?_
  exact kr_z () hx hb hr rfl hlocks hP hD hS rfl dX7_isOfLog_17
set_option maxHeartbeats 4000000 in
set_option maxRecDepth 100000 in
theorem K103_X2_has (l : Launch) (D : va_G) (cB cI cZ : ClassId) (sz : Nat) (h0 : Nat) (h1 : Nat)  (p0 : Int32) (g0 : Value) (g1 : Value)  :
    CtI l D cB cI cZ yX2_has wsX2_has { frames := 1, cells := 0, slots := 0, locals := 20 } [.ref h0, .int p0] [(h0, .inr (2, [.ref h1, g0, g1])), (h1, .inl (cI, 300, .inl zf))] sz 0 0
      (fun (r : Int32) (u : Unit) => r = 0)
      (fun u => [(h0, .inr (2, [.ref h1, g0, g1])), (h1, .inl (cI, 300, .inl zf))]) := by
  refine mk_metI (cc := cX2_has) (maxL := 2) (ret := (some .boolean)) (by decide) rfl (Nat.le_of_ble_eq_true rfl) ?_
  intro p e s m below meth c A hx hb hr hml hts hown hlocks hin hP hK hN hD hA hS ls hl
  have hown : s.vm.findClass RX2 = some m.cls := hown
  have hl : lv_has ls 2 [(0, .ref h0), (1, .int p0)] := hl
  refine lv_iload_n hx hb dX2_has_0 rfl (lv_at hl 1 rfl) ?_
  refine kc_i (wr := [(h0, .inr (2, [.ref h1, g0, g1])), (h1, .inl (cI, 300, .inl zf))]) (va_runSN (As := [.int p0]) (rest := []) ⟨hx, hb, hml, hown, hts⟩ (K104_X7_isKey l D cB cI cZ _ p0) ⟨va_cnB 1 hts gX2_has_X7_isKey_n22 rfl rfl rfl (hN.m (a := RX2) (i := 22) (y := yX7_isKey) (by decide +kernel)) (hts _ wdX2_has_0) (by decide +kernel) ⟨Nat.le_of_ble_eq_true rfl, Nat.le_of_ble_eq_true rfl⟩, hts _ wdX2_has_1, trivial⟩ (pre_S (hP.sub [] rfl) hK hN (hD.sub [] (by decide) rfl)) rfl rfl hl.1 rfl (lv_room (Nat.le_of_ble_eq_true rfl)) dX2_has_1 ⟨Nat.le_of_ble_eq_true rfl, Nat.le_of_ble_eq_true rfl⟩) hP hD hS hA [] [0, 1] rfl rfl (by decide) (by decide) (fun r_1 u H locs hw hP hD hS => ?_)
  have hcs := hw
  have hP : va_P D vwCl [(h0, .inr (2, [.ref h1, g0, g1])), (h1, .inl (cI, 300, .inl zf))] H := hP
  have hD : va_D A [(h0, .inr (2, [.ref h1, g0, g1])), (h1, .inl (cI, 300, .inl zf))] := hD
  rcases hcs with hcs | hcs
  · skip
    obtain rfl := hcs
    refine lv_if_eq (tgt := 23) hx hb dX2_has_4 (by decide) (fun c => ?_) (fun c => absurd (by decide) c)
    refine lv_iconst (v := 0) hx hb dX2_has_23 (by decide) ?_
    exact kr_z () hx hb hr rfl hlocks hP hD hS rfl dX2_has_24
  · skip
    obtain ⟨rfl, k_2, k_3⟩ := hcs
    refine lv_if_eq (tgt := 23) hx hb dX2_has_4 (by decide) (fun c => absurd c (by decide)) (fun c => ?_)
    refine lv_aload_n hx hb dX2_has_7 rfl (lv_at hl 0 rfl) ?_
    refine va_get (D := D) (ci := 2) (v := .ref h1) (C := RX2) (T := TX2) (N := 3) hx hb hts inX2_has_X2 hown hK hP 0 rfl rfl 0 (by decide) (hts _ wdX2_has_2) (fun _ h9 => h9) rfl dX2_has_8 ?_
    refine lv_iload_n hx hb dX2_has_11 rfl (lv_at hl 1 rfl) ?_
    refine va_iald hx hb hK hP 1 1 rfl rfl (ti_in (a := p0.toInt) rfl (by omega) (by omega)) dX2_has_12 ?_
    refine lv_topi (fun z_4 ez_4 => ?_)
    obtain rfl : z_4 = 0 := ez_4
    refine kc_i (wr := [(h0, .inr (2, [.ref h1, g0, g1])), (h1, .inl (cI, 300, .inl zf))]) (va_runSN (As := [.int 0]) (rest := []) ⟨hx, hb, hml, hown, hts⟩ (K105_X7_isOfLog l D cB cI cZ _ ) ⟨va_cnB 1 hts gX2_has_X7_isOfLog_n26 rfl rfl rfl (hN.m (a := RX2) (i := 26) (y := yX7_isOfLog) (by decide +kernel)) (hts _ wdX2_has_0) (by decide +kernel) ⟨Nat.le_of_ble_eq_true rfl, Nat.le_of_ble_eq_true rfl⟩, hts _ wdX2_has_3, trivial⟩ (pre_S (hP.sub [] rfl) hK hN (hD.sub [] (by decide) rfl)) rfl rfl hl.1 rfl (lv_room (Nat.le_of_ble_eq_true rfl)) dX2_has_13 ⟨Nat.le_of_ble_eq_true rfl, Nat.le_of_ble_eq_true rfl⟩) hP hD hS hA [] [0, 1] rfl rfl (by decide) (by decide) (fun r_5 u H locs hw hP hD hS => ?_)
    have k_6 := hw
    obtain rfl : r_5 = 0 := k_6
    have hP : va_P D vwCl [(h0, .inr (2, [.ref h1, g0, g1])), (h1, .inl (cI, 300, .inl zf))] H := hP
    have hD : va_D A [(h0, .inr (2, [.ref h1, g0, g1])), (h1, .inl (cI, 300, .inl zf))] := hD
    refine lv_if_eq (tgt := 23) hx hb dX2_has_16 (by decide) (fun c => ?_) (fun c => absurd (by decide) c)
    refine lv_iconst (v := 0) hx hb dX2_has_23 (by decide) ?_
    exact kr_z () hx hb hr rfl hlocks hP hD hS rfl dX2_has_24
set_option maxHeartbeats 4000000 in
set_option maxRecDepth 100000 in
theorem K102_X7_remove (l : Launch) (D : va_G) (cB cI cZ : ClassId) (sz : Nat) (h0 : Nat) (h1 : Nat) (h2 : Nat)  (p0 : Int32) (g0 : Value) (g1 : Value) (g2 : Value) (g3 : Value) (g4 : Value) (g5 : Value) (g6 : Value) (g7 : Value) (g8 : Value)  :
    CtI l D cB cI cZ yX7_remove wsX7_remove { frames := 2, cells := 0, slots := 0, locals := 41 } [.ref h0, .int p0] [(h0, .inr (6, [g0, .ref h1, g1, g2, g3, g4, g5, g6, .int 0])), (h1, .inr (2, [.ref h2, g7, g8])), (h2, .inl (cI, 300, .inl zf))] sz 0 0
      (fun (r : Int32) (u : Unit) => r = (-1))
      (fun u => []) := by
  refine mk_metI (cc := cX7_remove) (maxL := 2) (ret := (some .int)) (by decide) rfl (Nat.le_of_ble_eq_true rfl) ?_
  intro p e s m below meth c A hx hb hr hml hts hown hlocks hin hP hK hN hD hA hS ls hl
  have hown : s.vm.findClass RX7 = some m.cls := hown
  have hl : lv_has ls 2 [(0, .ref h0), (1, .int p0)] := hl
  refine lv_aload_n hx hb dX7_remove_0 rfl (lv_at hl 0 rfl) ?_
  refine va_get (D := D) (ci := 6) (v := .int 0) (C := RX7) (T := TX7) (N := 9) hx hb hts inX7_remove_X7 hown hK hP 0 rfl rfl 8 (by decide) (hts _ wdX7_remove_0) (fun _ h9 => h9) rfl dX7_remove_1 ?_
  refine lv_if_eq (tgt := 10) hx hb dX7_remove_4 (by decide) (fun c => ?_) (fun c => absurd (by decide) c)
  refine lv_aload_n hx hb dX7_remove_10 rfl (lv_at hl 0 rfl) ?_
  refine va_get (D := D) (ci := 6) (v := .ref h1) (C := RX7) (T := TX7) (N := 9) hx hb hts inX7_remove_X7 hown hK hP 0 rfl rfl 1 (by decide) (hts _ wdX7_remove_1) (fun _ h9 => h9) rfl dX7_remove_11 ?_
  refine lv_iload_n hx hb dX7_remove_14 rfl (lv_at hl 1 rfl) ?_
  refine kc_i (wr := [(h0, .inr (6, [g0, .ref h1, g1, g2, g3, g4, g5, g6, .int 0]))]) (va_runV (As := [.int p0]) (rest := []) ⟨hx, hb, hml, hown, hts⟩ (K103_X2_has l D cB cI cZ _ h1 h2 p0 (g7) (g8)) (cwV 1 hts gX7_remove_X2_has rfl rfl rfl (by decide +kernel) ⟨Nat.le_of_ble_eq_true rfl, Nat.le_of_ble_eq_true rfl⟩) (pre_V (q := (RX2, TX2, 3)) (ci := 2) (q0 := 0) (hP.sub [1, 2] rfl) hK hN (hD.sub [1, 2] (by decide) rfl) rfl rfl) rfl rfl hl.1 rfl (lv_room (Nat.le_of_ble_eq_true rfl)) dX7_remove_15 ⟨Nat.le_of_ble_eq_true rfl, Nat.le_of_ble_eq_true rfl⟩) hP hD hS hA [1, 2] [0] rfl rfl (by decide) (by decide) (fun r_1 u H locs hw hP hD hS => ?_)
  have k_2 := hw
  obtain rfl : r_1 = 0 := k_2
  have hP : va_P D vwCl [(h0, .inr (6, [g0, .ref h1, g1, g2, g3, g4, g5, g6, .int 0])), (h1, .inr (2, [.ref h2, g7, g8])), (h2, .inl (cI, 300, .inl zf))] H := hP
  have hD : va_D A [(h0, .inr (6, [g0, .ref h1, g1, g2, g3, g4, g5, g6, .int 0])), (h1, .inr (2, [.ref h2, g7, g8])), (h2, .inl (cI, 300, .inl zf))] := hD
  refine lv_if_ne (tgt := 23) hx hb dX7_remove_18 (by decide) (fun c => absurd (by decide) c) (fun c => ?_)
  refine lv_iconst (v := (-1)) hx hb dX7_remove_21 (by decide) ?_
  exact kr_i () hx hb hr hlocks (hP.sub [] rfl) (hD.sub [] (by decide) rfl) hS rfl dX7_remove_22
set_option maxHeartbeats 4000000 in
set_option maxRecDepth 100000 in
theorem K108_X8_in (l : Launch) (D : va_G) (cB cI cZ : ClassId) (sz : Nat)   (p0 : Int32)  :
    CtI l D cB cI cZ yX8_in wsX8_in { frames := 0, cells := 0, slots := 0, locals := 0 } [.int p0, .int 0, .int 299] [] sz 0 0
      (fun (r : Int32) (u : Unit) => ((r = 0) ∨ (r = 1 ∧ 0 ≤ p0.toInt ∧ p0.toInt ≤ 299)))
      (fun u => []) := by
  refine mk_metI (cc := cX8_in) (maxL := 3) (ret := (some .boolean)) (by decide) rfl (Nat.le_of_ble_eq_true rfl) ?_
  intro p e s m below meth c A hx hb hr hml hts hown hlocks hin hP hK hN hD hA hS ls hl
  have hown : s.vm.findClass RX8 = some m.cls := hown
  have hl : lv_has ls 3 [(0, .int p0), (1, .int 0), (2, .int 299)] := hl
  refine lv_iload_n hx hb dX8_in_0 rfl (lv_at hl 0 rfl) ?_
  refine lv_iload_n hx hb dX8_in_1 rfl (lv_at hl 1 rfl) ?_
  refine lv_icmp_lt (tgt := 14) hx hb dX8_in_2 (by decide) (fun c => ?_) (fun c => ?_)
  · skip
    have k_1 := (ti_lt (x := p0) (y := 0) (a := p0.toInt) (b := 0) rfl (by decide)).mp c
    refine lv_iconst (v := 0) hx hb dX8_in_14 (by decide) ?_
    exact kr_z () hx hb hr rfl hlocks hP hD hS (Or.inl rfl) dX8_in_15
  · skip
    have k_2 := mt (ti_lt (x := p0) (y := 0) (a := p0.toInt) (b := 0) rfl (by decide)).mpr c
    refine lv_iload_n hx hb dX8_in_5 rfl (lv_at hl 0 rfl) ?_
    refine lv_iload_n hx hb dX8_in_6 rfl (lv_at hl 2 rfl) ?_
    refine lv_icmp_gt (tgt := 14) hx hb dX8_in_7 (by decide) (fun c => ?_) (fun c => ?_)
    · skip
      have k_3 := (ti_lt (x := 299) (y := p0) (a := 299) (b := p0.toInt) (by decide) rfl).mp c
      refine lv_iconst (v := 0) hx hb dX8_in_14 (by decide) ?_
      exact kr_z () hx hb hr rfl hlocks hP hD hS (Or.inl rfl) dX8_in_15
    · skip
      have k_4 := mt (ti_lt (x := 299) (y := p0) (a := 299) (b := p0.toInt) (by decide) rfl).mpr c
      refine lv_iconst (v := 1) hx hb dX8_in_10 (by decide) ?_
      refine lv_goto (tgt := 15) hx hb dX8_in_11 (by decide) ?_
      exact kr_z () hx hb hr rfl hlocks hP hD hS (Or.inr ⟨rfl, (by first | omega | decide), (by first | omega | decide)⟩) dX8_in_15
set_option maxHeartbeats 4000000 in
set_option maxRecDepth 100000 in
theorem K107_X8_none (l : Launch) (D : va_G) (cB cI cZ : ClassId) (sz : Nat) (h0 : Nat) (h1 : Nat)  (p0 : Int32) (g0 : Value) (g1 : Value) (g2 : Value) (g3 : Value) (g4 : Value) (g5 : Value) (g6 : Value) (g7 : Value) (g8 : Value) (g9 : Value) (g10 : Value) (g11 : Value) (g12 : Value) (g13 : Value) (g14 : Value) (g15 : Value) (g16 : Value) (g17 : Value) (g18 : Value) (g19 : Value) (g20 : Value) (g21 : Value) (g22 : Value) (g23 : Value) (g24 : Value) (g25 : Value) (g26 : Value) (g27 : Value) (g28 : Value)  :
    CtI l D cB cI cZ yX8_none wsX8_none { frames := 1, cells := 0, slots := 0, locals := 22 } [.ref h0, .int p0] [(h0, .inr (7, [g0, g1, g2, g3, g4, g5, g6, g7, g8, g9, g10, g11, g12, g13, g14, g15, .ref h1, g16, g17, g18, g19, g20, g21, g22, g23, g24, g25, g26, g27, g28])), (h1, .inl (cI, 300, .inl zf))] sz 0 0
      (fun (r : Int32) (u : Unit) => r = 1)
      (fun u => [(h0, .inr (7, [g0, g1, g2, g3, g4, g5, g6, g7, g8, g9, g10, g11, g12, g13, g14, g15, .ref h1, g16, g17, g18, g19, g20, g21, g22, g23, g24, g25, g26, g27, g28])), (h1, .inl (cI, 300, .inl zf))]) := by
  refine mk_metI (cc := cX8_none) (maxL := 2) (ret := (some .boolean)) (by decide) rfl (Nat.le_of_ble_eq_true rfl) ?_
  intro p e s m below meth c A hx hb hr hml hts hown hlocks hin hP hK hN hD hA hS ls hl
  have hown : s.vm.findClass RX8 = some m.cls := hown
  have hl : lv_has ls 2 [(0, .ref h0), (1, .int p0)] := hl
  refine lv_iload_n hx hb dX8_none_0 rfl (lv_at hl 1 rfl) ?_
  refine lv_iconst (v := 0) hx hb dX8_none_1 (by decide) ?_
  refine lv_sipush (v := 299) hx hb dX8_none_2 (by decide) ?_
  refine kc_i (wr := [(h0, .inr (7, [g0, g1, g2, g3, g4, g5, g6, g7, g8, g9, g10, g11, g12, g13, g14, g15, .ref h1, g16, g17, g18, g19, g20, g21, g22, g23, g24, g25, g26, g27, g28])), (h1, .inl (cI, 300, .inl zf))]) (va_runS (As := [.int p0, .int 0, .int 299]) (rest := []) ⟨hx, hb, hml, hown, hts⟩ (K108_X8_in l D cB cI cZ _ p0) (va_cwS 3 hts gX8_none_X8_in rfl rfl rfl (by decide +kernel) ⟨Nat.le_of_ble_eq_true rfl, Nat.le_of_ble_eq_true rfl⟩) (pre_S (hP.sub [] rfl) hK hN (hD.sub [] (by decide) rfl)) rfl rfl hl.1 rfl (lv_room (Nat.le_of_ble_eq_true rfl)) dX8_none_5 ⟨Nat.le_of_ble_eq_true rfl, Nat.le_of_ble_eq_true rfl⟩) hP hD hS hA [] [0, 1] rfl rfl (by decide) (by decide) (fun r_1 u H locs hw hP hD hS => ?_)
  have hcs := hw
  have hP : va_P D vwCl [(h0, .inr (7, [g0, g1, g2, g3, g4, g5, g6, g7, g8, g9, g10, g11, g12, g13, g14, g15, .ref h1, g16, g17, g18, g19, g20, g21, g22, g23, g24, g25, g26, g27, g28])), (h1, .inl (cI, 300, .inl zf))] H := hP
  have hD : va_D A [(h0, .inr (7, [g0, g1, g2, g3, g4, g5, g6, g7, g8, g9, g10, g11, g12, g13, g14, g15, .ref h1, g16, g17, g18, g19, g20, g21, g22, g23, g24, g25, g26, g27, g28])), (h1, .inl (cI, 300, .inl zf))] := hD
  rcases hcs with hcs | hcs
  · skip
    obtain rfl := hcs
    refine lv_if_eq (tgt := 20) hx hb dX8_none_8 (by decide) (fun c => ?_) (fun c => absurd (by decide) c)
    refine lv_iconst (v := 1) hx hb dX8_none_20 (by decide) ?_
    refine lv_goto (tgt := 25) hx hb dX8_none_21 (by decide) ?_
    exact kr_z () hx hb hr rfl hlocks hP hD hS rfl dX8_none_25
  · skip
    obtain ⟨rfl, k_2, k_3⟩ := hcs
    refine lv_if_eq (tgt := 20) hx hb dX8_none_8 (by decide) (fun c => absurd c (by decide)) (fun c => ?_)
    refine lv_aload_n hx hb dX8_none_11 rfl (lv_at hl 0 rfl) ?_
    refine va_get (D := D) (ci := 7) (v := .ref h1) (C := RX8) (T := TX8) (N := 30) hx hb hts inX8_none_X8 hown hK hP 0 rfl rfl 16 (by decide) (hts _ wdX8_none_0) (fun _ h9 => h9) rfl dX8_none_12 ?_
    refine lv_iload_n hx hb dX8_none_15 rfl (lv_at hl 1 rfl) ?_
    refine va_iald hx hb hK hP 1 1 rfl rfl (ti_in (a := p0.toInt) rfl (by omega) (by omega)) dX8_none_16 ?_
    refine lv_topi (fun z_4 ez_4 => ?_)
    obtain rfl : z_4 = 0 := ez_4
    refine lv_if_ne (tgt := 24) hx hb dX8_none_17 (by decide) (fun c => absurd (by decide) c) (fun c => ?_)
    refine lv_iconst (v := 1) hx hb dX8_none_20 (by decide) ?_
    refine lv_goto (tgt := 25) hx hb dX8_none_21 (by decide) ?_
    exact kr_z () hx hb hr rfl hlocks hP hD hS rfl dX8_none_25
set_option maxHeartbeats 4000000 in
set_option maxRecDepth 100000 in
theorem K106_X8_remove (l : Launch) (D : va_G) (cB cI cZ : ClassId) (sz : Nat) (h0 : Nat) (h1 : Nat)  (p0 : Int32) (g0 : Value) (g1 : Value) (g2 : Value) (g3 : Value) (g4 : Value) (g5 : Value) (g6 : Value) (g7 : Value) (g8 : Value) (g9 : Value) (g10 : Value) (g11 : Value) (g12 : Value) (g13 : Value) (g14 : Value) (g15 : Value) (g16 : Value) (g17 : Value) (g18 : Value) (g19 : Value) (g20 : Value) (g21 : Value) (g22 : Value) (g23 : Value) (g24 : Value) (g25 : Value) (g26 : Value) (g27 : Value)  :
    CtI l D cB cI cZ yX8_remove wsX8_remove { frames := 2, cells := 0, slots := 0, locals := 43 } [.ref h0, .int p0] [(h0, .inr (7, [g0, .int 0, g1, g2, g3, g4, g5, g6, g7, g8, g9, g10, g11, g12, g13, g14, .ref h1, g15, g16, g17, g18, g19, g20, g21, g22, g23, g24, g25, g26, g27])), (h1, .inl (cI, 300, .inl zf))] sz 0 0
      (fun (r : Int32) (u : Unit) => r = (-1))
      (fun u => []) := by
  refine mk_metI (cc := cX8_remove) (maxL := 2) (ret := (some .int)) (by decide) rfl (Nat.le_of_ble_eq_true rfl) ?_
  intro p e s m below meth c A hx hb hr hml hts hown hlocks hin hP hK hN hD hA hS ls hl
  have hown : s.vm.findClass RX8 = some m.cls := hown
  have hl : lv_has ls 2 [(0, .ref h0), (1, .int p0)] := hl
  refine lv_aload_n hx hb dX8_remove_0 rfl (lv_at hl 0 rfl) ?_
  refine lv_iconst (v := 0) hx hb dX8_remove_1 (by decide) ?_
  refine va_put (D := D) (ci := 7) (v := .int 0) (ty := .int) (C := RX8) (T := TX8) (N := 30) hx hb hts inX8_remove_X8 tyX8 tyX8_ok nmX8 hown hK hP hD hS 0 rfl rfl 0 (by decide) (hts _ wdX8_remove_0) (fun _ h9 => h9) rfl (by decide +kernel) rfl rfl (Nat.le_of_ble_eq_true rfl) dX8_remove_2 (fun H locs hP hD hS => ?_)
  have hP : va_P D vwCl [(h0, .inr (7, [.int 0, .int 0, g1, g2, g3, g4, g5, g6, g7, g8, g9, g10, g11, g12, g13, g14, .ref h1, g15, g16, g17, g18, g19, g20, g21, g22, g23, g24, g25, g26, g27])), (h1, .inl (cI, 300, .inl zf))] H := hP
  have hD : va_D A [(h0, .inr (7, [.int 0, .int 0, g1, g2, g3, g4, g5, g6, g7, g8, g9, g10, g11, g12, g13, g14, .ref h1, g15, g16, g17, g18, g19, g20, g21, g22, g23, g24, g25, g26, g27])), (h1, .inl (cI, 300, .inl zf))] := hD
  refine lv_aload_n hx hb dX8_remove_5 rfl (lv_at hl 0 rfl) ?_
  refine va_get (D := D) (ci := 7) (v := .int 0) (C := RX8) (T := TX8) (N := 30) hx hb hts inX8_remove_X8 hown hK hP 0 rfl rfl 1 (by decide) (hts _ wdX8_remove_1) (fun _ h9 => h9) rfl dX8_remove_6 ?_
  refine lv_if_eq (tgt := 15) hx hb dX8_remove_9 (by decide) (fun c => ?_) (fun c => absurd (by decide) c)
  refine lv_aload_n hx hb dX8_remove_15 rfl (lv_at hl 0 rfl) ?_
  refine lv_iload_n hx hb dX8_remove_16 rfl (lv_at hl 1 rfl) ?_
  refine kc_i (wr := []) (va_runV (As := [.int p0]) (rest := []) ⟨hx, hb, hml, hown, hts⟩ (K107_X8_none l D cB cI cZ _ h0 h1 p0 ((.int 0)) ((.int 0)) (g1) (g2) (g3) (g4) (g5) (g6) (g7) (g8) (g9) (g10) (g11) (g12) (g13) (g14) (g15) (g16) (g17) (g18) (g19) (g20) (g21) (g22) (g23) (g24) (g25) (g26) (g27)) (cwV 1 hts gX8_remove_X8_none rfl rfl rfl (by decide +kernel) ⟨Nat.le_of_ble_eq_true rfl, Nat.le_of_ble_eq_true rfl⟩) (pre_V (q := (RX8, TX8, 30)) (ci := 7) (q0 := 0) (hP.sub [0, 1] rfl) hK hN (hD.sub [0, 1] (by decide) rfl) rfl rfl) rfl rfl hl.1 rfl (lv_room (Nat.le_of_ble_eq_true rfl)) dX8_remove_17 ⟨Nat.le_of_ble_eq_true rfl, Nat.le_of_ble_eq_true rfl⟩) hP hD hS hA [0, 1] [] rfl rfl (by decide) (by decide) (fun r_1 u H locs hw hP hD hS => ?_)
  have k_2 := hw
  obtain rfl : r_1 = 1 := k_2
  have hP : va_P D vwCl [(h0, .inr (7, [.int 0, .int 0, g1, g2, g3, g4, g5, g6, g7, g8, g9, g10, g11, g12, g13, g14, .ref h1, g15, g16, g17, g18, g19, g20, g21, g22, g23, g24, g25, g26, g27])), (h1, .inl (cI, 300, .inl zf))] H := hP
  have hD : va_D A [(h0, .inr (7, [.int 0, .int 0, g1, g2, g3, g4, g5, g6, g7, g8, g9, g10, g11, g12, g13, g14, .ref h1, g15, g16, g17, g18, g19, g20, g21, g22, g23, g24, g25, g26, g27])), (h1, .inl (cI, 300, .inl zf))] := hD
  refine lv_if_eq (tgt := 25) hx hb dX8_remove_20 (by decide) (fun c => absurd c (by decide)) (fun c => ?_)
  refine lv_iconst (v := (-1)) hx hb dX8_remove_23 (by decide) ?_
  exact kr_i () hx hb hr hlocks (hP.sub [] rfl) (hD.sub [] (by decide) rfl) hS rfl dX8_remove_24
set_option maxHeartbeats 4000000 in
set_option maxRecDepth 100000 in
theorem K109_X7_size (l : Launch) (D : va_G) (cB cI cZ : ClassId) (sz : Nat) (h0 : Nat) (h1 : Nat) (h2 : Nat)  (p0 : Int32) (g0 : Value) (g1 : Value) (g2 : Value) (g3 : Value) (g4 : Value) (g5 : Value) (g6 : Value) (g7 : Value) (g8 : Value)  :
    CtI l D cB cI cZ yX7_size wsX7_size { frames := 2, cells := 0, slots := 0, locals := 41 } [.ref h0, .int p0] [(h0, .inr (6, [g0, .ref h1, g1, g2, g3, g4, g5, g6, .int 0])), (h1, .inr (2, [.ref h2, g7, g8])), (h2, .inl (cI, 300, .inl zf))] sz 0 0
      (fun (r : Int32) (u : Unit) => r = (-1))
      (fun u => []) := by
  refine mk_metI (cc := cX7_size) (maxL := 2) (ret := (some .int)) (by decide) rfl (Nat.le_of_ble_eq_true rfl) ?_
  intro p e s m below meth c A hx hb hr hml hts hown hlocks hin hP hK hN hD hA hS ls hl
  have hown : s.vm.findClass RX7 = some m.cls := hown
  have hl : lv_has ls 2 [(0, .ref h0), (1, .int p0)] := hl
  refine lv_aload_n hx hb dX7_size_0 rfl (lv_at hl 0 rfl) ?_
  refine va_get (D := D) (ci := 6) (v := .int 0) (C := RX7) (T := TX7) (N := 9) hx hb hts inX7_size_X7 hown hK hP 0 rfl rfl 8 (by decide) (hts _ wdX7_size_0) (fun _ h9 => h9) rfl dX7_size_1 ?_
  refine lv_if_eq (tgt := 10) hx hb dX7_size_4 (by decide) (fun c => ?_) (fun c => absurd (by decide) c)
  refine lv_aload_n hx hb dX7_size_10 rfl (lv_at hl 0 rfl) ?_
  refine va_get (D := D) (ci := 6) (v := .ref h1) (C := RX7) (T := TX7) (N := 9) hx hb hts inX7_size_X7 hown hK hP 0 rfl rfl 1 (by decide) (hts _ wdX7_size_1) (fun _ h9 => h9) rfl dX7_size_11 ?_
  refine lv_iload_n hx hb dX7_size_14 rfl (lv_at hl 1 rfl) ?_
  refine kc_i (wr := [(h0, .inr (6, [g0, .ref h1, g1, g2, g3, g4, g5, g6, .int 0]))]) (va_runV (As := [.int p0]) (rest := []) ⟨hx, hb, hml, hown, hts⟩ (K103_X2_has l D cB cI cZ _ h1 h2 p0 (g7) (g8)) (cwV 1 hts gX7_size_X2_has rfl rfl rfl (by decide +kernel) ⟨Nat.le_of_ble_eq_true rfl, Nat.le_of_ble_eq_true rfl⟩) (pre_V (q := (RX2, TX2, 3)) (ci := 2) (q0 := 0) (hP.sub [1, 2] rfl) hK hN (hD.sub [1, 2] (by decide) rfl) rfl rfl) rfl rfl hl.1 rfl (lv_room (Nat.le_of_ble_eq_true rfl)) dX7_size_15 ⟨Nat.le_of_ble_eq_true rfl, Nat.le_of_ble_eq_true rfl⟩) hP hD hS hA [1, 2] [0] rfl rfl (by decide) (by decide) (fun r_1 u H locs hw hP hD hS => ?_)
  have k_2 := hw
  obtain rfl : r_1 = 0 := k_2
  have hP : va_P D vwCl [(h0, .inr (6, [g0, .ref h1, g1, g2, g3, g4, g5, g6, .int 0])), (h1, .inr (2, [.ref h2, g7, g8])), (h2, .inl (cI, 300, .inl zf))] H := hP
  have hD : va_D A [(h0, .inr (6, [g0, .ref h1, g1, g2, g3, g4, g5, g6, .int 0])), (h1, .inr (2, [.ref h2, g7, g8])), (h2, .inl (cI, 300, .inl zf))] := hD
  refine lv_if_eq (tgt := 32) hx hb dX7_size_18 (by decide) (fun c => ?_) (fun c => absurd (by decide) c)
  refine lv_iconst (v := (-1)) hx hb dX7_size_32 (by decide) ?_
  exact kr_i () hx hb hr hlocks (hP.sub [] rfl) (hD.sub [] (by decide) rfl) hS rfl dX7_size_33
set_option maxHeartbeats 4000000 in
set_option maxRecDepth 100000 in
theorem K110_X8_size (l : Launch) (D : va_G) (cB cI cZ : ClassId) (sz : Nat) (h0 : Nat) (h1 : Nat)  (p0 : Int32) (g0 : Value) (g1 : Value) (g2 : Value) (g3 : Value) (g4 : Value) (g5 : Value) (g6 : Value) (g7 : Value) (g8 : Value) (g9 : Value) (g10 : Value) (g11 : Value) (g12 : Value) (g13 : Value) (g14 : Value) (g15 : Value) (g16 : Value) (g17 : Value) (g18 : Value) (g19 : Value) (g20 : Value) (g21 : Value) (g22 : Value) (g23 : Value) (g24 : Value) (g25 : Value) (g26 : Value) (g27 : Value)  :
    CtI l D cB cI cZ yX8_size wsX8_size { frames := 2, cells := 0, slots := 0, locals := 43 } [.ref h0, .int p0] [(h0, .inr (7, [g0, .int 0, g1, g2, g3, g4, g5, g6, g7, g8, g9, g10, g11, g12, g13, g14, .ref h1, g15, g16, g17, g18, g19, g20, g21, g22, g23, g24, g25, g26, g27])), (h1, .inl (cI, 300, .inl zf))] sz 0 0
      (fun (r : Int32) (u : Unit) => r = (-1))
      (fun u => []) := by
  refine mk_metI (cc := cX8_size) (maxL := 2) (ret := (some .int)) (by decide) rfl (Nat.le_of_ble_eq_true rfl) ?_
  intro p e s m below meth c A hx hb hr hml hts hown hlocks hin hP hK hN hD hA hS ls hl
  have hown : s.vm.findClass RX8 = some m.cls := hown
  have hl : lv_has ls 2 [(0, .ref h0), (1, .int p0)] := hl
  refine lv_aload_n hx hb dX8_size_0 rfl (lv_at hl 0 rfl) ?_
  refine lv_iconst (v := 0) hx hb dX8_size_1 (by decide) ?_
  refine va_put (D := D) (ci := 7) (v := .int 0) (ty := .int) (C := RX8) (T := TX8) (N := 30) hx hb hts inX8_size_X8 tyX8 tyX8_ok nmX8 hown hK hP hD hS 0 rfl rfl 0 (by decide) (hts _ wdX8_size_0) (fun _ h9 => h9) rfl (by decide +kernel) rfl rfl (Nat.le_of_ble_eq_true rfl) dX8_size_2 (fun H locs hP hD hS => ?_)
  have hP : va_P D vwCl [(h0, .inr (7, [.int 0, .int 0, g1, g2, g3, g4, g5, g6, g7, g8, g9, g10, g11, g12, g13, g14, .ref h1, g15, g16, g17, g18, g19, g20, g21, g22, g23, g24, g25, g26, g27])), (h1, .inl (cI, 300, .inl zf))] H := hP
  have hD : va_D A [(h0, .inr (7, [.int 0, .int 0, g1, g2, g3, g4, g5, g6, g7, g8, g9, g10, g11, g12, g13, g14, .ref h1, g15, g16, g17, g18, g19, g20, g21, g22, g23, g24, g25, g26, g27])), (h1, .inl (cI, 300, .inl zf))] := hD
  refine lv_aload_n hx hb dX8_size_5 rfl (lv_at hl 0 rfl) ?_
  refine va_get (D := D) (ci := 7) (v := .int 0) (C := RX8) (T := TX8) (N := 30) hx hb hts inX8_size_X8 hown hK hP 0 rfl rfl 1 (by decide) (hts _ wdX8_size_1) (fun _ h9 => h9) rfl dX8_size_6 ?_
  refine lv_if_eq (tgt := 17) hx hb dX8_size_9 (by decide) (fun c => ?_) (fun c => absurd (by decide) c)
  refine lv_aload_n hx hb dX8_size_17 rfl (lv_at hl 0 rfl) ?_
  refine lv_iload_n hx hb dX8_size_18 rfl (lv_at hl 1 rfl) ?_
  refine kc_i (wr := []) (va_runV (As := [.int p0]) (rest := []) ⟨hx, hb, hml, hown, hts⟩ (K107_X8_none l D cB cI cZ _ h0 h1 p0 ((.int 0)) ((.int 0)) (g1) (g2) (g3) (g4) (g5) (g6) (g7) (g8) (g9) (g10) (g11) (g12) (g13) (g14) (g15) (g16) (g17) (g18) (g19) (g20) (g21) (g22) (g23) (g24) (g25) (g26) (g27)) (cwV 1 hts gX8_size_X8_none rfl rfl rfl (by decide +kernel) ⟨Nat.le_of_ble_eq_true rfl, Nat.le_of_ble_eq_true rfl⟩) (pre_V (q := (RX8, TX8, 30)) (ci := 7) (q0 := 0) (hP.sub [0, 1] rfl) hK hN (hD.sub [0, 1] (by decide) rfl) rfl rfl) rfl rfl hl.1 rfl (lv_room (Nat.le_of_ble_eq_true rfl)) dX8_size_19 ⟨Nat.le_of_ble_eq_true rfl, Nat.le_of_ble_eq_true rfl⟩) hP hD hS hA [0, 1] [] rfl rfl (by decide) (by decide) (fun r_1 u H locs hw hP hD hS => ?_)
  have k_2 := hw
  obtain rfl : r_1 = 1 := k_2
  have hP : va_P D vwCl [(h0, .inr (7, [.int 0, .int 0, g1, g2, g3, g4, g5, g6, g7, g8, g9, g10, g11, g12, g13, g14, .ref h1, g15, g16, g17, g18, g19, g20, g21, g22, g23, g24, g25, g26, g27])), (h1, .inl (cI, 300, .inl zf))] H := hP
  have hD : va_D A [(h0, .inr (7, [.int 0, .int 0, g1, g2, g3, g4, g5, g6, g7, g8, g9, g10, g11, g12, g13, g14, .ref h1, g15, g16, g17, g18, g19, g20, g21, g22, g23, g24, g25, g26, g27])), (h1, .inl (cI, 300, .inl zf))] := hD
  refine lv_if_eq (tgt := 29) hx hb dX8_size_22 (by decide) (fun c => absurd c (by decide)) (fun c => ?_)
  refine lv_iconst (v := (-1)) hx hb dX8_size_25 (by decide) ?_
  refine lv_goto (tgt := 37) hx hb dX8_size_26 (by decide) ?_
  exact kr_i () hx hb hr hlocks (hP.sub [] rfl) (hD.sub [] (by decide) rfl) hS rfl dX8_size_37
set_option maxHeartbeats 4000000 in
set_option maxRecDepth 100000 in
theorem K111_X7_value (l : Launch) (D : va_G) (cB cI cZ : ClassId) (sz : Nat) (h0 : Nat) (h1 : Nat) (h2 : Nat)  (p0 : Int32) (p1 : Int32) (g0 : Value) (g1 : Value) (g2 : Value) (g3 : Value) (g4 : Value) (g5 : Value) (g6 : Value) (g7 : Value) (g8 : Value)  :
    CtI l D cB cI cZ yX7_value wsX7_value { frames := 2, cells := 0, slots := 0, locals := 41 } [.ref h0, .int p0, .int p1] [(h0, .inr (6, [g0, .ref h1, g1, g2, g3, g4, g5, g6, .int 0])), (h1, .inr (2, [.ref h2, g7, g8])), (h2, .inl (cI, 300, .inl zf))] sz 0 0
      (fun (r : Int32) (u : Unit) => r = (-1))
      (fun u => []) := by
  refine mk_metI (cc := cX7_value) (maxL := 3) (ret := (some .int)) (by decide) rfl (Nat.le_of_ble_eq_true rfl) ?_
  intro p e s m below meth c A hx hb hr hml hts hown hlocks hin hP hK hN hD hA hS ls hl
  have hown : s.vm.findClass RX7 = some m.cls := hown
  have hl : lv_has ls 3 [(0, .ref h0), (1, .int p0), (2, .int p1)] := hl
  refine lv_aload_n hx hb dX7_value_0 rfl (lv_at hl 0 rfl) ?_
  refine va_get (D := D) (ci := 6) (v := .int 0) (C := RX7) (T := TX7) (N := 9) hx hb hts inX7_value_X7 hown hK hP 0 rfl rfl 8 (by decide) (hts _ wdX7_value_0) (fun _ h9 => h9) rfl dX7_value_1 ?_
  refine lv_if_eq (tgt := 10) hx hb dX7_value_4 (by decide) (fun c => ?_) (fun c => absurd (by decide) c)
  refine lv_aload_n hx hb dX7_value_10 rfl (lv_at hl 0 rfl) ?_
  refine va_get (D := D) (ci := 6) (v := .ref h1) (C := RX7) (T := TX7) (N := 9) hx hb hts inX7_value_X7 hown hK hP 0 rfl rfl 1 (by decide) (hts _ wdX7_value_1) (fun _ h9 => h9) rfl dX7_value_11 ?_
  refine lv_iload_n hx hb dX7_value_14 rfl (lv_at hl 1 rfl) ?_
  refine kc_i (wr := [(h0, .inr (6, [g0, .ref h1, g1, g2, g3, g4, g5, g6, .int 0]))]) (va_runV (As := [.int p0]) (rest := []) ⟨hx, hb, hml, hown, hts⟩ (K103_X2_has l D cB cI cZ _ h1 h2 p0 (g7) (g8)) (cwV 1 hts gX7_value_X2_has rfl rfl rfl (by decide +kernel) ⟨Nat.le_of_ble_eq_true rfl, Nat.le_of_ble_eq_true rfl⟩) (pre_V (q := (RX2, TX2, 3)) (ci := 2) (q0 := 0) (hP.sub [1, 2] rfl) hK hN (hD.sub [1, 2] (by decide) rfl) rfl rfl) rfl rfl hl.1 rfl (lv_room (Nat.le_of_ble_eq_true rfl)) dX7_value_15 ⟨Nat.le_of_ble_eq_true rfl, Nat.le_of_ble_eq_true rfl⟩) hP hD hS hA [1, 2] [0] rfl rfl (by decide) (by decide) (fun r_1 u H locs hw hP hD hS => ?_)
  have k_2 := hw
  obtain rfl : r_1 = 0 := k_2
  have hP : va_P D vwCl [(h0, .inr (6, [g0, .ref h1, g1, g2, g3, g4, g5, g6, .int 0])), (h1, .inr (2, [.ref h2, g7, g8])), (h2, .inl (cI, 300, .inl zf))] H := hP
  have hD : va_D A [(h0, .inr (6, [g0, .ref h1, g1, g2, g3, g4, g5, g6, .int 0])), (h1, .inr (2, [.ref h2, g7, g8])), (h2, .inl (cI, 300, .inl zf))] := hD
  refine lv_if_eq (tgt := 37) hx hb dX7_value_18 (by decide) (fun c => ?_) (fun c => absurd (by decide) c)
  refine lv_iconst (v := (-1)) hx hb dX7_value_37 (by decide) ?_
  exact kr_i () hx hb hr hlocks (hP.sub [] rfl) (hD.sub [] (by decide) rfl) hS rfl dX7_value_38
set_option maxHeartbeats 4000000 in
set_option maxRecDepth 100000 in
theorem K112_X8_value (l : Launch) (D : va_G) (cB cI cZ : ClassId) (sz : Nat) (h0 : Nat) (h1 : Nat)  (p0 : Int32) (p1 : Int32) (g0 : Value) (g1 : Value) (g2 : Value) (g3 : Value) (g4 : Value) (g5 : Value) (g6 : Value) (g7 : Value) (g8 : Value) (g9 : Value) (g10 : Value) (g11 : Value) (g12 : Value) (g13 : Value) (g14 : Value) (g15 : Value) (g16 : Value) (g17 : Value) (g18 : Value) (g19 : Value) (g20 : Value) (g21 : Value) (g22 : Value) (g23 : Value) (g24 : Value) (g25 : Value) (g26 : Value) (g27 : Value)  :
    CtI l D cB cI cZ yX8_value wsX8_value { frames := 2, cells := 0, slots := 0, locals := 43 } [.ref h0, .int p0, .int p1] [(h0, .inr (7, [g0, .int 0, g1, g2, g3, g4, g5, g6, g7, g8, g9, g10, g11, g12, g13, g14, .ref h1, g15, g16, g17, g18, g19, g20, g21, g22, g23, g24, g25, g26, g27])), (h1, .inl (cI, 300, .inl zf))] sz 0 0
      (fun (r : Int32) (u : Unit) => r = (-1))
      (fun u => []) := by
  refine mk_metI (cc := cX8_value) (maxL := 3) (ret := (some .int)) (by decide) rfl (Nat.le_of_ble_eq_true rfl) ?_
  intro p e s m below meth c A hx hb hr hml hts hown hlocks hin hP hK hN hD hA hS ls hl
  have hown : s.vm.findClass RX8 = some m.cls := hown
  have hl : lv_has ls 3 [(0, .ref h0), (1, .int p0), (2, .int p1)] := hl
  refine lv_aload_n hx hb dX8_value_0 rfl (lv_at hl 0 rfl) ?_
  refine lv_iconst (v := 0) hx hb dX8_value_1 (by decide) ?_
  refine va_put (D := D) (ci := 7) (v := .int 0) (ty := .int) (C := RX8) (T := TX8) (N := 30) hx hb hts inX8_value_X8 tyX8 tyX8_ok nmX8 hown hK hP hD hS 0 rfl rfl 0 (by decide) (hts _ wdX8_value_0) (fun _ h9 => h9) rfl (by decide +kernel) rfl rfl (Nat.le_of_ble_eq_true rfl) dX8_value_2 (fun H locs hP hD hS => ?_)
  have hP : va_P D vwCl [(h0, .inr (7, [.int 0, .int 0, g1, g2, g3, g4, g5, g6, g7, g8, g9, g10, g11, g12, g13, g14, .ref h1, g15, g16, g17, g18, g19, g20, g21, g22, g23, g24, g25, g26, g27])), (h1, .inl (cI, 300, .inl zf))] H := hP
  have hD : va_D A [(h0, .inr (7, [.int 0, .int 0, g1, g2, g3, g4, g5, g6, g7, g8, g9, g10, g11, g12, g13, g14, .ref h1, g15, g16, g17, g18, g19, g20, g21, g22, g23, g24, g25, g26, g27])), (h1, .inl (cI, 300, .inl zf))] := hD
  refine lv_aload_n hx hb dX8_value_5 rfl (lv_at hl 0 rfl) ?_
  refine va_get (D := D) (ci := 7) (v := .int 0) (C := RX8) (T := TX8) (N := 30) hx hb hts inX8_value_X8 hown hK hP 0 rfl rfl 1 (by decide) (hts _ wdX8_value_1) (fun _ h9 => h9) rfl dX8_value_6 ?_
  refine lv_if_eq (tgt := 15) hx hb dX8_value_9 (by decide) (fun c => ?_) (fun c => absurd (by decide) c)
  refine lv_aload_n hx hb dX8_value_15 rfl (lv_at hl 0 rfl) ?_
  refine lv_iload_n hx hb dX8_value_16 rfl (lv_at hl 1 rfl) ?_
  refine kc_i (wr := []) (va_runV (As := [.int p0]) (rest := []) ⟨hx, hb, hml, hown, hts⟩ (K107_X8_none l D cB cI cZ _ h0 h1 p0 ((.int 0)) ((.int 0)) (g1) (g2) (g3) (g4) (g5) (g6) (g7) (g8) (g9) (g10) (g11) (g12) (g13) (g14) (g15) (g16) (g17) (g18) (g19) (g20) (g21) (g22) (g23) (g24) (g25) (g26) (g27)) (cwV 1 hts gX8_value_X8_none rfl rfl rfl (by decide +kernel) ⟨Nat.le_of_ble_eq_true rfl, Nat.le_of_ble_eq_true rfl⟩) (pre_V (q := (RX8, TX8, 30)) (ci := 7) (q0 := 0) (hP.sub [0, 1] rfl) hK hN (hD.sub [0, 1] (by decide) rfl) rfl rfl) rfl rfl hl.1 rfl (lv_room (Nat.le_of_ble_eq_true rfl)) dX8_value_17 ⟨Nat.le_of_ble_eq_true rfl, Nat.le_of_ble_eq_true rfl⟩) hP hD hS hA [0, 1] [] rfl rfl (by decide) (by decide) (fun r_1 u H locs hw hP hD hS => ?_)
  have k_2 := hw
  obtain rfl : r_1 = 1 := k_2
  have hP : va_P D vwCl [(h0, .inr (7, [.int 0, .int 0, g1, g2, g3, g4, g5, g6, g7, g8, g9, g10, g11, g12, g13, g14, .ref h1, g15, g16, g17, g18, g19, g20, g21, g22, g23, g24, g25, g26, g27])), (h1, .inl (cI, 300, .inl zf))] H := hP
  have hD : va_D A [(h0, .inr (7, [.int 0, .int 0, g1, g2, g3, g4, g5, g6, g7, g8, g9, g10, g11, g12, g13, g14, .ref h1, g15, g16, g17, g18, g19, g20, g21, g22, g23, g24, g25, g26, g27])), (h1, .inl (cI, 300, .inl zf))] := hD
  refine lv_if_ne (tgt := 39) hx hb dX8_value_20 (by decide) (fun c => ?_) (fun c => absurd c (by decide))
  refine lv_iconst (v := (-1)) hx hb dX8_value_39 (by decide) ?_
  refine lv_goto (tgt := 72) hx hb dX8_value_40 (by decide) ?_
  exact kr_i () hx hb hr hlocks (hP.sub [] rfl) (hD.sub [] (by decide) rfl) hS rfl dX8_value_72
set_option maxHeartbeats 4000000 in
set_option maxRecDepth 100000 in
theorem K114_X3_writeFresh (l : Launch) (D : va_G) (cB cI cZ : ClassId) (sz : Nat) (h0 : Nat) (h1 : Nat) (g0 : Value) (g1 : Value) (g2 : Value) (g3 : Value) (g4 : Value) (g5 : Value) (g6 : Value) (g7 : Value) (g8 : Value) (g9 : Value) (g10 : Value) (g11 : Value) (g12 : Value)  :
    CtI l D cB cI cZ yX3_writeFresh wsX3_writeFresh { frames := 0, cells := 0, slots := 0, locals := 0 } [.ref h0, .ref h1] [(h0, .inr (3, [g0, g1, g2, g3, g4, g5, g6, g7, .int 0, g8, g9, g10, g11, g12]))] sz 0 0
      (fun (r : Int32) (u : Unit) => r = 0)
      (fun u => [(h0, .inr (3, [g0, g1, g2, g3, g4, g5, g6, g7, .int 0, g8, g9, g10, g11, g12]))]) := by
  refine mk_metI (cc := cX3_writeFresh) (maxL := 5) (ret := (some .int)) (by decide) rfl (Nat.le_of_ble_eq_true rfl) ?_
  intro p e s m below meth c A hx hb hr hml hts hown hlocks hin hP hK hN hD hA hS ls hl
  have hown : s.vm.findClass RX3 = some m.cls := hown
  have hl : lv_has ls 5 [(0, .ref h0), (1, .ref h1)] := hl
  refine lv_iconst (v := 0) hx hb dX3_writeFresh_0 (by decide) ?_
  refine lv_istore_n (lv' := [(2, .int 0), (0, .ref h0), (1, .ref h1)]) hx hb dX3_writeFresh_1 rfl hl (by decide) rfl (fun ls hl => ?_)
  refine lv_iconst (v := 0) hx hb dX3_writeFresh_2 (by decide) ?_
  refine lv_istore_n (lv' := [(3, .int 0), (2, .int 0), (0, .ref h0), (1, .ref h1)]) hx hb dX3_writeFresh_3 rfl hl (by decide) rfl (fun ls hl => ?_)
  refine lv_iload_n hx hb dX3_writeFresh_4 rfl (lv_at hl 0 rfl) ?_
  refine lv_aload_n hx hb dX3_writeFresh_5 rfl (lv_at hl 2 rfl) ?_
  refine va_get (D := D) (ci := 3) (v := .int 0) (C := RX3) (T := TX3) (N := 14) hx hb hts inX3_writeFresh_X3 hown hK hP 0 rfl rfl 8 (by decide) (hts _ wdX3_writeFresh_0) (fun _ h9 => h9) rfl dX3_writeFresh_6 ?_
  refine lv_icmp_ge (tgt := 46) hx hb dX3_writeFresh_9 (by decide) (fun c => ?_) (fun c => absurd (by decide) c)
  refine lv_aload_n hx hb dX3_writeFresh_46 rfl (lv_at hl 2 rfl) ?_
  refine lv_iconst (v := 0) hx hb dX3_writeFresh_47 (by decide) ?_
  refine va_put (D := D) (ci := 3) (v := .int 0) (ty := .int) (C := RX3) (T := TX3) (N := 14) hx hb hts inX3_writeFresh_X3 tyX3 tyX3_ok nmX3 hown hK hP hD hS 0 rfl rfl 8 (by decide) (hts _ wdX3_writeFresh_0) (fun _ h9 => h9) rfl (by decide +kernel) rfl rfl (Nat.le_of_ble_eq_true rfl) dX3_writeFresh_48 (fun H locs hP hD hS => ?_)
  have hP : va_P D vwCl [(h0, .inr (3, [g0, g1, g2, g3, g4, g5, g6, g7, .int 0, g8, g9, g10, g11, g12]))] H := hP
  have hD : va_D A [(h0, .inr (3, [g0, g1, g2, g3, g4, g5, g6, g7, .int 0, g8, g9, g10, g11, g12]))] := hD
  refine lv_iload_n hx hb dX3_writeFresh_51 rfl (lv_at hl 1 rfl) ?_
  exact kr_i () hx hb hr hlocks hP hD hS rfl dX3_writeFresh_52
set_option maxHeartbeats 4000000 in
set_option maxRecDepth 100000 in
theorem K113_X7_sync (l : Launch) (D : va_G) (cB cI cZ : ClassId) (sz : Nat) (h0 : Nat) (h2 : Nat) (h1 : Nat) (g0 : Value) (g1 : Value) (g2 : Value) (g3 : Value) (g4 : Value) (g5 : Value) (g6 : Value) (g7 : Value) (g8 : Value) (g9 : Value) (g10 : Value) (g11 : Value) (g12 : Value) (g13 : Value) (g14 : Value) (g15 : Value) (g16 : Value) (g17 : Value) (g18 : Value)  :
    CtI l D cB cI cZ yX7_sync wsX7_sync { frames := 1, cells := 0, slots := 0, locals := 24 } [.ref h0] [(h0, .inr (6, [.ref h1, g0, .ref h2, g1, g2, g3, g4, g5, .int 0])), (h2, .inr (3, [g6, g7, g8, g9, g10, g11, g12, g13, .int 0, g14, g15, g16, g17, g18]))] sz 0 0
      (fun (r : Int32) (u : Unit) => r = 0)
      (fun u => []) := by
  refine mk_metI (cc := cX7_sync) (maxL := 2) (ret := (some .int)) (by decide) rfl (Nat.le_of_ble_eq_true rfl) ?_
  intro p e s m below meth c A hx hb hr hml hts hown hlocks hin hP hK hN hD hA hS ls hl
  have hown : s.vm.findClass RX7 = some m.cls := hown
  have hl : lv_has ls 2 [(0, .ref h0)] := hl
  refine lv_aload_n hx hb dX7_sync_0 rfl (lv_at hl 0 rfl) ?_
  refine va_get (D := D) (ci := 6) (v := .int 0) (C := RX7) (T := TX7) (N := 9) hx hb hts inX7_sync_X7 hown hK hP 0 rfl rfl 8 (by decide) (hts _ wdX7_sync_0) (fun _ h9 => h9) rfl dX7_sync_1 ?_
  refine lv_if_eq (tgt := 10) hx hb dX7_sync_4 (by decide) (fun c => ?_) (fun c => absurd (by decide) c)
  refine lv_aload_n hx hb dX7_sync_10 rfl (lv_at hl 0 rfl) ?_
  refine va_get (D := D) (ci := 6) (v := .ref h2) (C := RX7) (T := TX7) (N := 9) hx hb hts inX7_sync_X7 hown hK hP 0 rfl rfl 2 (by decide) (hts _ wdX7_sync_1) (fun _ h9 => h9) rfl dX7_sync_11 ?_
  refine lv_aload_n hx hb dX7_sync_14 rfl (lv_at hl 0 rfl) ?_
  refine va_get (D := D) (ci := 6) (v := .ref h1) (C := RX7) (T := TX7) (N := 9) hx hb hts inX7_sync_X7 hown hK hP 0 rfl rfl 0 (by decide) (hts _ wdX7_sync_2) (fun _ h9 => h9) rfl dX7_sync_15 ?_
  refine kc_i (wr := [(h0, .inr (6, [.ref h1, g0, .ref h2, g1, g2, g3, g4, g5, .int 0]))]) (va_runV (As := [.ref h1]) (rest := []) ⟨hx, hb, hml, hown, hts⟩ (K114_X3_writeFresh l D cB cI cZ _ h2 h1 (g6) (g7) (g8) (g9) (g10) (g11) (g12) (g13) (g14) (g15) (g16) (g17) (g18)) (cwV 1 hts gX7_sync_X3_writeFresh rfl rfl rfl (by decide +kernel) ⟨Nat.le_of_ble_eq_true rfl, Nat.le_of_ble_eq_true rfl⟩) (pre_V (q := (RX3, TX3, 14)) (ci := 3) (q0 := 0) (hP.sub [1] rfl) hK hN (hD.sub [1] (by decide) rfl) rfl rfl) rfl rfl hl.1 rfl (lv_room (Nat.le_of_ble_eq_true rfl)) dX7_sync_18 ⟨Nat.le_of_ble_eq_true rfl, Nat.le_of_ble_eq_true rfl⟩) hP hD hS hA [1] [0] rfl rfl (by decide) (by decide) (fun r_1 u H locs hw hP hD hS => ?_)
  have k_2 := hw
  obtain rfl : r_1 = 0 := k_2
  have hP : va_P D vwCl [(h0, .inr (6, [.ref h1, g0, .ref h2, g1, g2, g3, g4, g5, .int 0])), (h2, .inr (3, [g6, g7, g8, g9, g10, g11, g12, g13, .int 0, g14, g15, g16, g17, g18]))] H := hP
  have hD : va_D A [(h0, .inr (6, [.ref h1, g0, .ref h2, g1, g2, g3, g4, g5, .int 0])), (h2, .inr (3, [g6, g7, g8, g9, g10, g11, g12, g13, .int 0, g14, g15, g16, g17, g18]))] := hD
  refine lv_istore_n (lv' := [(1, .int 0), (0, .ref h0)]) hx hb dX7_sync_21 rfl hl (by decide) rfl (fun ls hl => ?_)
  refine lv_aload_n hx hb dX7_sync_22 rfl (lv_at hl 1 rfl) ?_
  refine lv_iload_n hx hb dX7_sync_23 rfl (lv_at hl 0 rfl) ?_
  refine lv_bipush (v := (-5)) hx hb dX7_sync_24 (by decide) ?_
  refine lv_icmp_ne (tgt := 33) hx hb dX7_sync_26 (by decide) (fun c => ?_) (fun c => absurd c (by decide))
  refine lv_iconst (v := 0) hx hb dX7_sync_33 (by decide) ?_
  refine va_put (D := D) (ci := 6) (v := .int 0) (ty := .boolean) (C := RX7) (T := TX7) (N := 9) hx hb hts inX7_sync_X7 tyX7 tyX7_ok nmX7 hown hK hP hD hS 0 rfl rfl 8 (by decide) (hts _ wdX7_sync_0) (fun _ h9 => h9) rfl (by decide +kernel) rfl rfl (Nat.le_of_ble_eq_true rfl) dX7_sync_34 (fun H locs hP hD hS => ?_)
  have hP : va_P D vwCl [(h0, .inr (6, [.ref h1, g0, .ref h2, g1, g2, g3, g4, g5, .int 0])), (h2, .inr (3, [g6, g7, g8, g9, g10, g11, g12, g13, .int 0, g14, g15, g16, g17, g18]))] H := hP
  have hD : va_D A [(h0, .inr (6, [.ref h1, g0, .ref h2, g1, g2, g3, g4, g5, .int 0])), (h2, .inr (3, [g6, g7, g8, g9, g10, g11, g12, g13, .int 0, g14, g15, g16, g17, g18]))] := hD
  refine lv_iload_n hx hb dX7_sync_37 rfl (lv_at hl 0 rfl) ?_
  exact kr_i () hx hb hr hlocks (hP.sub [] rfl) (hD.sub [] (by decide) rfl) hS rfl dX7_sync_38
set_option maxHeartbeats 4000000 in
set_option maxRecDepth 100000 in
theorem K116_X8_syncAll (l : Launch) (D : va_G) (cB cI cZ : ClassId) (sz : Nat) (h0 : Nat)  (g0 : Value) (g1 : Value) (g2 : Value) (g3 : Value) (g4 : Value) (g5 : Value) (g6 : Value) (g7 : Value) (g8 : Value) (g9 : Value) (g10 : Value) (g11 : Value) (g12 : Value) (g13 : Value) (g14 : Value) (g15 : Value) (g16 : Value) (g17 : Value) (g18 : Value) (g19 : Value) (g20 : Value) (g21 : Value) (g22 : Value) (g23 : Value) (g24 : Value) (g25 : Value) (g26 : Value) (g27 : Value) (g28 : Value)  :
    CtI l D cB cI cZ yX8_syncAll wsX8_syncAll { frames := 0, cells := 0, slots := 0, locals := 0 } [.ref h0] [(h0, .inr (7, [g0, g1, g2, g3, g4, g5, g6, g7, g8, g9, g10, g11, g12, g13, g14, g15, g16, g17, .int 0, g18, g19, g20, g21, g22, g23, g24, g25, g26, g27, g28]))] sz 0 0
      (fun (r : Int32) (u : Unit) => r = 0)
      (fun u => [(h0, .inr (7, [g0, g1, g2, g3, g4, g5, g6, g7, g8, g9, g10, g11, g12, g13, g14, g15, g16, g17, .int 0, g18, g19, g20, g21, g22, g23, g24, g25, g26, g27, g28]))]) := by
  refine mk_metI (cc := cX8_syncAll) (maxL := 5) (ret := (some .int)) (by decide) rfl (Nat.le_of_ble_eq_true rfl) ?_
  intro p e s m below meth c A hx hb hr hml hts hown hlocks hin hP hK hN hD hA hS ls hl
  have hown : s.vm.findClass RX8 = some m.cls := hown
  have hl : lv_has ls 5 [(0, .ref h0)] := hl
  refine lv_iconst (v := 0) hx hb dX8_syncAll_0 (by decide) ?_
  refine lv_istore_n (lv' := [(1, .int 0), (0, .ref h0)]) hx hb dX8_syncAll_1 rfl hl (by decide) rfl (fun ls hl => ?_)
  refine lv_iconst (v := 0) hx hb dX8_syncAll_2 (by decide) ?_
  refine lv_istore_n (lv' := [(2, .int 0), (1, .int 0), (0, .ref h0)]) hx hb dX8_syncAll_3 rfl hl (by decide) rfl (fun ls hl => ?_)
  refine lv_iload_n hx hb dX8_syncAll_4 rfl (lv_at hl 0 rfl) ?_
  refine lv_aload_n hx hb dX8_syncAll_5 rfl (lv_at hl 2 rfl) ?_
  refine va_get (D := D) (ci := 7) (v := .int 0) (C := RX8) (T := TX8) (N := 30) hx hb hts inX8_syncAll_X8 hown hK hP 0 rfl rfl 18 (by decide) (hts _ wdX8_syncAll_0) (fun _ h9 => h9) rfl dX8_syncAll_6 ?_
  refine lv_icmp_ge (tgt := 154) hx hb dX8_syncAll_9 (by decide) (fun c => ?_) (fun c => absurd (by decide) c)
  refine lv_aload_n hx hb dX8_syncAll_154 rfl (lv_at hl 2 rfl) ?_
  refine lv_iconst (v := 0) hx hb dX8_syncAll_155 (by decide) ?_
  refine va_put (D := D) (ci := 7) (v := .int 0) (ty := .int) (C := RX8) (T := TX8) (N := 30) hx hb hts inX8_syncAll_X8 tyX8 tyX8_ok nmX8 hown hK hP hD hS 0 rfl rfl 18 (by decide) (hts _ wdX8_syncAll_0) (fun _ h9 => h9) rfl (by decide +kernel) rfl rfl (Nat.le_of_ble_eq_true rfl) dX8_syncAll_156 (fun H locs hP hD hS => ?_)
  have hP : va_P D vwCl [(h0, .inr (7, [g0, g1, g2, g3, g4, g5, g6, g7, g8, g9, g10, g11, g12, g13, g14, g15, g16, g17, .int 0, g18, g19, g20, g21, g22, g23, g24, g25, g26, g27, g28]))] H := hP
  have hD : va_D A [(h0, .inr (7, [g0, g1, g2, g3, g4, g5, g6, g7, g8, g9, g10, g11, g12, g13, g14, g15, g16, g17, .int 0, g18, g19, g20, g21, g22, g23, g24, g25, g26, g27, g28]))] := hD
  refine lv_iload_n hx hb dX8_syncAll_159 rfl (lv_at hl 1 rfl) ?_
  exact kr_i () hx hb hr hlocks hP hD hS rfl dX8_syncAll_160
set_option maxHeartbeats 4000000 in
set_option maxRecDepth 100000 in
theorem K115_X8_sync (l : Launch) (D : va_G) (cB cI cZ : ClassId) (sz : Nat) (h0 : Nat)  (g0 : Value) (g1 : Value) (g2 : Value) (g3 : Value) (g4 : Value) (g5 : Value) (g6 : Value) (g7 : Value) (g8 : Value) (g9 : Value) (g10 : Value) (g11 : Value) (g12 : Value) (g13 : Value) (g14 : Value) (g15 : Value) (g16 : Value) (g17 : Value) (g18 : Value) (g19 : Value) (g20 : Value) (g21 : Value) (g22 : Value) (g23 : Value) (g24 : Value) (g25 : Value) (g26 : Value) (g27 : Value)  :
    CtI l D cB cI cZ yX8_sync wsX8_sync { frames := 1, cells := 0, slots := 0, locals := 24 } [.ref h0] [(h0, .inr (7, [g0, .int 0, g1, g2, g3, g4, g5, g6, g7, g8, g9, g10, g11, g12, g13, g14, g15, g16, .int 0, g17, g18, g19, g20, g21, g22, g23, g24, g25, g26, g27]))] sz 0 0
      (fun (r : Int32) (u : Unit) => r = 0)
      (fun u => []) := by
  refine mk_metI (cc := cX8_sync) (maxL := 1) (ret := (some .int)) (by decide) rfl (Nat.le_of_ble_eq_true rfl) ?_
  intro p e s m below meth c A hx hb hr hml hts hown hlocks hin hP hK hN hD hA hS ls hl
  have hown : s.vm.findClass RX8 = some m.cls := hown
  have hl : lv_has ls 1 [(0, .ref h0)] := hl
  refine lv_aload_n hx hb dX8_sync_0 rfl (lv_at hl 0 rfl) ?_
  refine lv_iconst (v := 0) hx hb dX8_sync_1 (by decide) ?_
  refine va_put (D := D) (ci := 7) (v := .int 0) (ty := .int) (C := RX8) (T := TX8) (N := 30) hx hb hts inX8_sync_X8 tyX8 tyX8_ok nmX8 hown hK hP hD hS 0 rfl rfl 0 (by decide) (hts _ wdX8_sync_0) (fun _ h9 => h9) rfl (by decide +kernel) rfl rfl (Nat.le_of_ble_eq_true rfl) dX8_sync_2 (fun H locs hP hD hS => ?_)
  have hP : va_P D vwCl [(h0, .inr (7, [.int 0, .int 0, g1, g2, g3, g4, g5, g6, g7, g8, g9, g10, g11, g12, g13, g14, g15, g16, .int 0, g17, g18, g19, g20, g21, g22, g23, g24, g25, g26, g27]))] H := hP
  have hD : va_D A [(h0, .inr (7, [.int 0, .int 0, g1, g2, g3, g4, g5, g6, g7, g8, g9, g10, g11, g12, g13, g14, g15, g16, .int 0, g17, g18, g19, g20, g21, g22, g23, g24, g25, g26, g27]))] := hD
  refine lv_aload_n hx hb dX8_sync_5 rfl (lv_at hl 0 rfl) ?_
  refine va_get (D := D) (ci := 7) (v := .int 0) (C := RX8) (T := TX8) (N := 30) hx hb hts inX8_sync_X8 hown hK hP 0 rfl rfl 1 (by decide) (hts _ wdX8_sync_1) (fun _ h9 => h9) rfl dX8_sync_6 ?_
  refine lv_if_eq (tgt := 17) hx hb dX8_sync_9 (by decide) (fun c => ?_) (fun c => absurd (by decide) c)
  refine lv_aload_n hx hb dX8_sync_17 rfl (lv_at hl 0 rfl) ?_
  refine kc_i (wr := []) (va_runV (As := []) (rest := []) ⟨hx, hb, hml, hown, hts⟩ (K116_X8_syncAll l D cB cI cZ _ h0 ((.int 0)) ((.int 0)) (g1) (g2) (g3) (g4) (g5) (g6) (g7) (g8) (g9) (g10) (g11) (g12) (g13) (g14) (g15) (g16) (g17) (g18) (g19) (g20) (g21) (g22) (g23) (g24) (g25) (g26) (g27)) (cwV 0 hts gX8_sync_X8_syncAll rfl rfl rfl (by decide +kernel) ⟨Nat.le_of_ble_eq_true rfl, Nat.le_of_ble_eq_true rfl⟩) (pre_V (q := (RX8, TX8, 30)) (ci := 7) (q0 := 0) (hP.sub [0] rfl) hK hN (hD.sub [0] (by decide) rfl) rfl rfl) rfl rfl hl.1 rfl (lv_room (Nat.le_of_ble_eq_true rfl)) dX8_sync_18 ⟨Nat.le_of_ble_eq_true rfl, Nat.le_of_ble_eq_true rfl⟩) hP hD hS hA [0] [] rfl rfl (by decide) (by decide) (fun r_1 u H locs hw hP hD hS => ?_)
  have k_2 := hw
  obtain rfl : r_1 = 0 := k_2
  have hP : va_P D vwCl [(h0, .inr (7, [.int 0, .int 0, g1, g2, g3, g4, g5, g6, g7, g8, g9, g10, g11, g12, g13, g14, g15, g16, .int 0, g17, g18, g19, g20, g21, g22, g23, g24, g25, g26, g27]))] H := hP
  have hD : va_D A [(h0, .inr (7, [.int 0, .int 0, g1, g2, g3, g4, g5, g6, g7, g8, g9, g10, g11, g12, g13, g14, g15, g16, .int 0, g17, g18, g19, g20, g21, g22, g23, g24, g25, g26, g27]))] := hD
  exact kr_i () hx hb hr hlocks (hP.sub [] rfl) (hD.sub [] (by decide) rfl) hS rfl dX8_sync_21
set_option maxHeartbeats 4000000 in
set_option maxRecDepth 100000 in
theorem K120_J7_fill_031fb (l : Launch) (D : va_G) (cB cI cZ : ClassId) (sz : Nat) (h0 : Nat)    :
    CtV l D cB cI cZ yJ7_fill_031fb wsJ7_fill_031fb { frames := 0, cells := 0, slots := 0, locals := 0 } [.ref h0, .int 0] [(h0, .inl (cB, 1600, .inl zf))] sz 0 0
      (fun (u : Unit) => True)
      (fun u => [(h0, .inl (cB, 1600, .inl zf))]) := by
  refine mk_metV (cc := cJ7_fill_031fb) (maxL := 4) (ret := none) (by decide) rfl (Nat.le_of_ble_eq_true rfl) ?_
  intro p e s m below meth c A hx hb hr hml hts hown hlocks hin hP hK hN hD hA hS ls hl
  have hown : s.vm.findClass RJ7 = some m.cls := hown
  have hl : lv_has ls 4 [(0, .ref h0), (1, .int 0)] := hl
  refine lv_iconst (v := 0) hx hb dJ7_fill_031fb_0 (by decide) ?_
  refine lv_istore_n (lv' := [(2, .int 0), (0, .ref h0), (1, .int 0)]) hx hb dJ7_fill_031fb_1 rfl hl (by decide) rfl (fun ls hl => ?_)
  refine lv_aload_n hx hb dJ7_fill_031fb_2 rfl (lv_at hl 1 rfl) ?_
  refine va_alen (v := 1600) hx hb hK hP 0 0 rfl rfl (show Int32.ofNat 1600 = 1600 by decide) dJ7_fill_031fb_3 ?_
  refine lv_istore_n (lv' := [(3, .int 1600), (2, .int 0), (0, .ref h0), (1, .int 0)]) hx hb dJ7_fill_031fb_4 rfl hl (by decide) rfl (fun ls hl => ?_)
  refine kl (α := Int32) (fun n a H locs ls => (0 ≤ Int32.toInt a) ∧ (Int32.toInt a ≤ 1600) ∧ (1600 - Int32.toInt a < ((n : Nat) : Int)) ∧ va_P D vwCl [(h0, .inl (cB, 1600, .inl zf))] H ∧ va_D A [(h0, .inl (cB, 1600, .inl zf))] ∧ va_S A s.heap H locs ∧ lv_has ls 4 [(3, .int 1600), (2, .int a), (0, .ref h0), (1, .int 0)]) 1601 0 ⟨(by show 0 ≤ Int32.toInt 0; decide), (by show Int32.toInt 0 ≤ 1600; decide), (by show 1600 - Int32.toInt 0 < ((1601 : Nat) : Int); have := (by decide : Int32.toInt 0 = 0); omega), hP, hD, hS, hl⟩ (fun a H locs ls h => ?_) (fun n_2 ih_3 a H locs ls h => ?_)
  · obtain ⟨j_4, j_5, j_6, _⟩ := h
    omega
  obtain ⟨v_1, rfl⟩ : ∃ z, z = a := ⟨_, rfl⟩
  obtain ⟨j_4, j_5, j_6, hP, hD, hS, hl⟩ := h
  have j_4 : 0 ≤ Int32.toInt v_1 := j_4
  have j_5 : Int32.toInt v_1 ≤ 1600 := j_5
  have j_6 : 1600 - Int32.toInt v_1 < ((n_2 + 1 : Nat) : Int) := j_6
  have hP : va_P D vwCl [(h0, .inl (cB, 1600, .inl zf))] H := hP
  have hD : va_D A [(h0, .inl (cB, 1600, .inl zf))] := hD
  have hl : lv_has ls 4 [(3, .int 1600), (2, .int v_1), (0, .ref h0), (1, .int 0)] := hl
  refine lv_iload_n hx hb dJ7_fill_031fb_5 rfl (lv_at hl 1 rfl) ?_
  refine lv_iload_n hx hb dJ7_fill_031fb_6 rfl (lv_at hl 0 rfl) ?_
  refine lv_icmp_ge (tgt := 20) hx hb dJ7_fill_031fb_7 (by decide) (fun c => ?_) (fun c => ?_)
  · skip
    have k_7 := (ti_le (x := 1600) (y := v_1) (a := 1600) (b := v_1.toInt) (by decide) rfl).mp c
    obtain rfl : v_1 = 1600 := ti_inj (a := 1600) (by decide) (by omega)
    exact kr_v () hx hb hr hlocks hP hD hS trivial dJ7_fill_031fb_20
  · skip
    have k_8 := mt (ti_le (x := 1600) (y := v_1) (a := 1600) (b := v_1.toInt) (by decide) rfl).mpr c
    refine lv_aload_n hx hb dJ7_fill_031fb_10 rfl (lv_at hl 2 rfl) ?_
    refine lv_iload_n hx hb dJ7_fill_031fb_11 rfl (lv_at hl 1 rfl) ?_
    refine lv_iload_n hx hb dJ7_fill_031fb_12 rfl (lv_at hl 3 rfl) ?_
    refine va_bast hx hb hK hP hD hS 0 0 rfl rfl (ti_in (a := v_1.toInt) rfl (by omega) (by omega)) dJ7_fill_031fb_13 (fun H locs hP hD hS => ?_)
    rw [zf_updB] at hP hD
    have hP : va_P D vwCl [(h0, .inl (cB, 1600, .inl zf))] H := hP
    have hD : va_D A [(h0, .inl (cB, 1600, .inl zf))] := hD
    obtain ⟨x_9, ex_9⟩ : ∃ y : Int32, y = v_1 + 1 := ⟨_, rfl⟩
    have tx_9 : x_9.toInt = v_1.toInt + 1 := by rw [ex_9]; exact ti_add rfl (by decide) (by omega) (by omega)
    refine lv_iinc (v := x_9) (lv' := [(2, .int x_9), (3, .int 1600), (0, .ref h0), (1, .int 0)]) hx hb dJ7_fill_031fb_14 hl (k := 1) rfl (by rw [ex_9]; rfl) (by decide) rfl (fun ls hl => ?_)
    refine lv_goto (tgt := 5) hx hb dJ7_fill_031fb_17 (by decide) ?_
    exact ih_3 x_9 _ _ _ ⟨(by show 0 ≤ Int32.toInt x_9; omega), (by show Int32.toInt x_9 ≤ 1600; omega), (by show 1600 - Int32.toInt x_9 < ((n_2 : Nat) : Int); omega), hP, hD, hS, (lv_sub hl [1, 0, 2, 3] rfl)⟩
set_option maxHeartbeats 4000000 in
set_option maxRecDepth 100000 in
theorem K122_X4_isWithin (l : Launch) (D : va_G) (cB cI cZ : ClassId) (sz : Nat) (h0 : Nat)  (p0 : Int32) (i_p0 : 0 ≤ p0.toInt ∧ p0.toInt ≤ 1599) :
    CtI l D cB cI cZ yX4_isWithin wsX4_isWithin { frames := 0, cells := 0, slots := 0, locals := 0 } [.ref h0, .int p0, .int 1] [(h0, .inl (cB, 1600, .inl zf))] sz 0 0
      (fun (r : Int32) (u : Unit) => r = 1)
      (fun u => [(h0, .inl (cB, 1600, .inl zf))]) := by
  refine mk_metI (cc := cX4_isWithin) (maxL := 3) (ret := (some .boolean)) (by decide) rfl (Nat.le_of_ble_eq_true rfl) ?_
  intro p e s m below meth c A hx hb hr hml hts hown hlocks hin hP hK hN hD hA hS ls hl
  have hown : s.vm.findClass RX4 = some m.cls := hown
  have hl : lv_has ls 3 [(0, .ref h0), (1, .int p0), (2, .int 1)] := hl
  refine lv_iload_n hx hb dX4_isWithin_0 rfl (lv_at hl 1 rfl) ?_
  refine lv_if_lt (tgt := 26) hx hb dX4_isWithin_1 (by decide) (fun c => absurd ((ti_lt (x := p0) (y := 0) (a := p0.toInt) (b := 0) rfl (by decide)).mp c) (by omega)) (fun c => ?_)
  refine lv_iload_n hx hb dX4_isWithin_4 rfl (lv_at hl 2 rfl) ?_
  refine lv_if_lt (tgt := 26) hx hb dX4_isWithin_5 (by decide) (fun c => absurd c (by decide)) (fun c => ?_)
  refine lv_iload_n hx hb dX4_isWithin_8 rfl (lv_at hl 2 rfl) ?_
  refine lv_aload_n hx hb dX4_isWithin_9 rfl (lv_at hl 0 rfl) ?_
  refine va_alen (v := 1600) hx hb hK hP 0 0 rfl rfl (show Int32.ofNat 1600 = 1600 by decide) dX4_isWithin_10 ?_
  refine lv_icmp_gt (tgt := 26) hx hb dX4_isWithin_11 (by decide) (fun c => absurd c (by decide)) (fun c => ?_)
  refine lv_iload_n hx hb dX4_isWithin_14 rfl (lv_at hl 1 rfl) ?_
  refine lv_aload_n hx hb dX4_isWithin_15 rfl (lv_at hl 0 rfl) ?_
  refine va_alen (v := 1600) hx hb hK hP 0 0 rfl rfl (show Int32.ofNat 1600 = 1600 by decide) dX4_isWithin_16 ?_
  refine lv_iload_n hx hb dX4_isWithin_17 rfl (lv_at hl 2 rfl) ?_
  refine lv_isub hx hb dX4_isWithin_18 ?_
  refine lv_topi (fun z_1 ez_1 => ?_)
  obtain rfl : z_1 = 1599 := ez_1.trans (by decide)
  refine lv_icmp_gt (tgt := 26) hx hb dX4_isWithin_19 (by decide) (fun c => absurd ((ti_lt (x := 1599) (y := p0) (a := 1599) (b := p0.toInt) (by decide) rfl).mp c) (by omega)) (fun c => ?_)
  refine lv_iconst (v := 1) hx hb dX4_isWithin_22 (by decide) ?_
  refine lv_goto (tgt := 27) hx hb dX4_isWithin_23 (by decide) ?_
  exact kr_z () hx hb hr rfl hlocks hP hD hS rfl dX4_isWithin_27
set_option maxHeartbeats 4000000 in
set_option maxRecDepth 100000 in
theorem K121_X4_setNumber (l : Launch) (D : va_G) (cB cI cZ : ClassId) (sz : Nat) (h0 : Nat)  (p0 : Int32) (p1 : Int32) (i_p0 : 0 ≤ p0.toInt ∧ p0.toInt ≤ 1599) :
    CtV l D cB cI cZ yX4_setNumber wsX4_setNumber { frames := 1, cells := 0, slots := 0, locals := 22 } [.ref h0, .int p0, .int 1, .int p1] [(h0, .inl (cB, 1600, .inl zf))] sz 0 0
      (fun (u : (Nat → Int32)) => FB u)
      (fun u => [(h0, .inl (cB, 1600, .inl u))]) := by
  refine mk_metV (cc := cX4_setNumber) (maxL := 6) (ret := none) (by decide) rfl (Nat.le_of_ble_eq_true rfl) ?_
  intro p e s m below meth c A hx hb hr hml hts hown hlocks hin hP hK hN hD hA hS ls hl
  have hown : s.vm.findClass RX4 = some m.cls := hown
  have hl : lv_has ls 6 [(0, .ref h0), (1, .int p0), (2, .int 1), (3, .int p1)] := hl
  refine lv_aload_n hx hb dX4_setNumber_0 rfl (lv_at hl 0 rfl) ?_
  refine lv_iload_n hx hb dX4_setNumber_1 rfl (lv_at hl 1 rfl) ?_
  refine lv_iload_n hx hb dX4_setNumber_2 rfl (lv_at hl 2 rfl) ?_
  refine kc_i (wr := []) (va_runS (As := [.ref h0, .int p0, .int 1]) (rest := []) ⟨hx, hb, hml, hown, hts⟩ (K122_X4_isWithin l D cB cI cZ _ h0 p0 ⟨by omega, by omega⟩) (va_cwS 3 hts gX4_setNumber_X4_isWithin rfl rfl rfl (by decide +kernel) ⟨Nat.le_of_ble_eq_true rfl, Nat.le_of_ble_eq_true rfl⟩) (pre_S (hP.sub [0] rfl) hK hN (hD.sub [0] (by decide) rfl)) rfl rfl hl.1 rfl (lv_room (Nat.le_of_ble_eq_true rfl)) dX4_setNumber_3 ⟨Nat.le_of_ble_eq_true rfl, Nat.le_of_ble_eq_true rfl⟩) hP hD hS hA [0] [] rfl rfl (by decide) (by decide) (fun r_1 u H locs hw hP hD hS => ?_)
  have k_2 := hw
  obtain rfl : r_1 = 1 := k_2
  have hP : va_P D vwCl [(h0, .inl (cB, 1600, .inl zf))] H := hP
  have hD : va_D A [(h0, .inl (cB, 1600, .inl zf))] := hD
  refine lv_if_ne (tgt := 10) hx hb dX4_setNumber_6 (by decide) (fun c => ?_) (fun c => absurd c (by decide))
  refine lv_iload_n hx hb dX4_setNumber_10 rfl (lv_at hl 3 rfl) ?_
  refine lv_istore (lv' := [(4, .int p1), (0, .ref h0), (1, .int p0), (2, .int 1), (3, .int p1)]) hx hb dX4_setNumber_11 hl (by decide) rfl (fun ls hl => ?_)
  refine lv_iload_n hx hb dX4_setNumber_13 rfl (lv_at hl 2 rfl) ?_
  refine lv_iload_n hx hb dX4_setNumber_14 rfl (lv_at hl 3 rfl) ?_
  refine lv_iadd hx hb dX4_setNumber_15 ?_
  refine lv_topi (fun x_3 ex_3 => ?_)
  have tx_3 : x_3.toInt = p0.toInt + 1 := by rw [ex_3]; exact ti_add rfl (by decide) (by omega) (by omega)
  refine lv_iconst (v := 1) hx hb dX4_setNumber_16 (by decide) ?_
  refine lv_isub hx hb dX4_setNumber_17 ?_
  refine lv_topi (fun x_4 ex_4 => ?_)
  have tx_4 : x_4.toInt = x_3.toInt - 1 := by rw [ex_4]; exact ti_sub rfl (by decide) (by omega) (by omega)
  refine lv_istore (lv' := [(5, .int x_4), (4, .int p1), (0, .ref h0), (1, .int p0), (2, .int 1), (3, .int p1)]) hx hb dX4_setNumber_18 hl (by decide) rfl (fun ls hl => ?_)
  refine lv_iload hx hb dX4_setNumber_20 (lv_at hl 0 rfl) ?_
  refine lv_iload_n hx hb dX4_setNumber_22 rfl (lv_at hl 3 rfl) ?_
  refine lv_icmp_lt (tgt := 46) hx hb dX4_setNumber_23 (by decide) (fun c => absurd ((ti_lt (x := x_4) (y := p0) (a := x_4.toInt) (b := p0.toInt) rfl rfl).mp c) (by omega)) (fun c => ?_)
  refine lv_aload_n hx hb dX4_setNumber_26 rfl (lv_at hl 2 rfl) ?_
  refine lv_iload hx hb dX4_setNumber_27 (lv_at hl 0 rfl) ?_
  refine lv_iload hx hb dX4_setNumber_29 (lv_at hl 1 rfl) ?_
  refine lv_i2b hx hb dX4_setNumber_31 rfl ?_
  refine lv_topi (fun x_5 ex_5 => ?_)
  refine va_bast hx hb hK hP hD hS 0 0 rfl rfl (ti_in (a := x_4.toInt) rfl (by omega) (by omega)) dX4_setNumber_32 (fun H locs hP hD hS => ?_)
  obtain ⟨f_6, ef_6⟩ : ∃ g : Nat → Int32, g = upd zf (Int32.toNatClampNeg x_4) (vp_nar .byte x_5) := ⟨_, rfl⟩
  rw [← ef_6] at hP hD
  have bf_6 : FB f_6 := by rw [ef_6]; exact FB_upd FB_zf _ _
  have hP : va_P D vwCl [(h0, .inl (cB, 1600, .inl f_6))] H := hP
  have hD : va_D A [(h0, .inl (cB, 1600, .inl f_6))] := hD
  refine lv_iload hx hb dX4_setNumber_33 (lv_at hl 1 rfl) ?_
  refine lv_bipush (v := 8) hx hb dX4_setNumber_35 (by decide) ?_
  refine lv_iushr hx hb dX4_setNumber_37 rfl ?_
  refine lv_topi (fun x_7 ex_7 => ?_)
  refine lv_istore (lv' := [(4, .int x_7), (5, .int x_4), (0, .ref h0), (1, .int p0), (2, .int 1), (3, .int p1)]) hx hb dX4_setNumber_38 hl (by decide) rfl (fun ls hl => ?_)
  obtain ⟨x_8, ex_8⟩ : ∃ y : Int32, y = x_4 + (-1) := ⟨_, rfl⟩
  have tx_8 : x_8.toInt = x_4.toInt + (-1) := by rw [ex_8]; exact ti_add rfl (by decide) (by omega) (by omega)
  refine lv_iinc (v := x_8) (lv' := [(5, .int x_8), (4, .int x_7), (0, .ref h0), (1, .int p0), (2, .int 1), (3, .int p1)]) hx hb dX4_setNumber_40 hl (k := 1) rfl (by rw [ex_8]; rfl) (by decide) rfl (fun ls hl => ?_)
  refine lv_goto (tgt := 20) hx hb dX4_setNumber_43 (by decide) ?_
  refine lv_iload hx hb dX4_setNumber_20 (lv_at hl 0 rfl) ?_
  refine lv_iload_n hx hb dX4_setNumber_22 rfl (lv_at hl 3 rfl) ?_
  refine lv_icmp_lt (tgt := 46) hx hb dX4_setNumber_23 (by decide) (fun c => ?_) (fun c => absurd ((ti_lt (x := x_8) (y := p0) (a := x_8.toInt) (b := p0.toInt) rfl rfl).mpr (by omega)) c)
  exact kr_v f_6 hx hb hr hlocks hP hD hS bf_6 dX4_setNumber_46
set_option maxHeartbeats 4000000 in
set_option maxRecDepth 100000 in
theorem K124_X4_isWithin (l : Launch) (D : va_G) (cB cI cZ : ClassId) (sz : Nat) (h0 : Nat)  (p0 : Int32) (f0 : Nat → Int32) (i_p0 : 0 ≤ p0.toInt ∧ p0.toInt ≤ 1599) (b_f0 : FB f0) :
    CtI l D cB cI cZ yX4_isWithin wsX4_isWithin { frames := 0, cells := 0, slots := 0, locals := 0 } [.ref h0, .int p0, .int 1] [(h0, .inl (cB, 1600, .inl f0))] sz 0 0
      (fun (r : Int32) (u : Unit) => r = 1)
      (fun u => [(h0, .inl (cB, 1600, .inl f0))]) := by
  refine mk_metI (cc := cX4_isWithin) (maxL := 3) (ret := (some .boolean)) (by decide) rfl (Nat.le_of_ble_eq_true rfl) ?_
  intro p e s m below meth c A hx hb hr hml hts hown hlocks hin hP hK hN hD hA hS ls hl
  have hown : s.vm.findClass RX4 = some m.cls := hown
  have hl : lv_has ls 3 [(0, .ref h0), (1, .int p0), (2, .int 1)] := hl
  refine lv_iload_n hx hb dX4_isWithin_0 rfl (lv_at hl 1 rfl) ?_
  refine lv_if_lt (tgt := 26) hx hb dX4_isWithin_1 (by decide) (fun c => absurd ((ti_lt (x := p0) (y := 0) (a := p0.toInt) (b := 0) rfl (by decide)).mp c) (by omega)) (fun c => ?_)
  refine lv_iload_n hx hb dX4_isWithin_4 rfl (lv_at hl 2 rfl) ?_
  refine lv_if_lt (tgt := 26) hx hb dX4_isWithin_5 (by decide) (fun c => absurd c (by decide)) (fun c => ?_)
  refine lv_iload_n hx hb dX4_isWithin_8 rfl (lv_at hl 2 rfl) ?_
  refine lv_aload_n hx hb dX4_isWithin_9 rfl (lv_at hl 0 rfl) ?_
  refine va_alen (v := 1600) hx hb hK hP 0 0 rfl rfl (show Int32.ofNat 1600 = 1600 by decide) dX4_isWithin_10 ?_
  refine lv_icmp_gt (tgt := 26) hx hb dX4_isWithin_11 (by decide) (fun c => absurd c (by decide)) (fun c => ?_)
  refine lv_iload_n hx hb dX4_isWithin_14 rfl (lv_at hl 1 rfl) ?_
  refine lv_aload_n hx hb dX4_isWithin_15 rfl (lv_at hl 0 rfl) ?_
  refine va_alen (v := 1600) hx hb hK hP 0 0 rfl rfl (show Int32.ofNat 1600 = 1600 by decide) dX4_isWithin_16 ?_
  refine lv_iload_n hx hb dX4_isWithin_17 rfl (lv_at hl 2 rfl) ?_
  refine lv_isub hx hb dX4_isWithin_18 ?_
  refine lv_topi (fun z_1 ez_1 => ?_)
  obtain rfl : z_1 = 1599 := ez_1.trans (by decide)
  refine lv_icmp_gt (tgt := 26) hx hb dX4_isWithin_19 (by decide) (fun c => absurd ((ti_lt (x := 1599) (y := p0) (a := 1599) (b := p0.toInt) (by decide) rfl).mp c) (by omega)) (fun c => ?_)
  refine lv_iconst (v := 1) hx hb dX4_isWithin_22 (by decide) ?_
  refine lv_goto (tgt := 27) hx hb dX4_isWithin_23 (by decide) ?_
  exact kr_z () hx hb hr rfl hlocks hP hD hS rfl dX4_isWithin_27
set_option maxHeartbeats 4000000 in
set_option maxRecDepth 100000 in
theorem K123_X4_setNumber (l : Launch) (D : va_G) (cB cI cZ : ClassId) (sz : Nat) (h0 : Nat)  (p0 : Int32) (p1 : Int32) (f0 : Nat → Int32) (i_p0 : 0 ≤ p0.toInt ∧ p0.toInt ≤ 1599) (b_f0 : FB f0) :
    CtV l D cB cI cZ yX4_setNumber wsX4_setNumber { frames := 1, cells := 0, slots := 0, locals := 22 } [.ref h0, .int p0, .int 1, .int p1] [(h0, .inl (cB, 1600, .inl f0))] sz 0 0
      (fun (u : (Nat → Int32)) => FB u)
      (fun u => [(h0, .inl (cB, 1600, .inl u))]) := by
  refine mk_metV (cc := cX4_setNumber) (maxL := 6) (ret := none) (by decide) rfl (Nat.le_of_ble_eq_true rfl) ?_
  intro p e s m below meth c A hx hb hr hml hts hown hlocks hin hP hK hN hD hA hS ls hl
  have hown : s.vm.findClass RX4 = some m.cls := hown
  have hl : lv_has ls 6 [(0, .ref h0), (1, .int p0), (2, .int 1), (3, .int p1)] := hl
  refine lv_aload_n hx hb dX4_setNumber_0 rfl (lv_at hl 0 rfl) ?_
  refine lv_iload_n hx hb dX4_setNumber_1 rfl (lv_at hl 1 rfl) ?_
  refine lv_iload_n hx hb dX4_setNumber_2 rfl (lv_at hl 2 rfl) ?_
  refine kc_i (wr := []) (va_runS (As := [.ref h0, .int p0, .int 1]) (rest := []) ⟨hx, hb, hml, hown, hts⟩ (K124_X4_isWithin l D cB cI cZ _ h0 p0 f0 ⟨by omega, by omega⟩ b_f0) (va_cwS 3 hts gX4_setNumber_X4_isWithin rfl rfl rfl (by decide +kernel) ⟨Nat.le_of_ble_eq_true rfl, Nat.le_of_ble_eq_true rfl⟩) (pre_S (hP.sub [0] rfl) hK hN (hD.sub [0] (by decide) rfl)) rfl rfl hl.1 rfl (lv_room (Nat.le_of_ble_eq_true rfl)) dX4_setNumber_3 ⟨Nat.le_of_ble_eq_true rfl, Nat.le_of_ble_eq_true rfl⟩) hP hD hS hA [0] [] rfl rfl (by decide) (by decide) (fun r_1 u H locs hw hP hD hS => ?_)
  have k_2 := hw
  obtain rfl : r_1 = 1 := k_2
  have hP : va_P D vwCl [(h0, .inl (cB, 1600, .inl f0))] H := hP
  have hD : va_D A [(h0, .inl (cB, 1600, .inl f0))] := hD
  refine lv_if_ne (tgt := 10) hx hb dX4_setNumber_6 (by decide) (fun c => ?_) (fun c => absurd c (by decide))
  refine lv_iload_n hx hb dX4_setNumber_10 rfl (lv_at hl 3 rfl) ?_
  refine lv_istore (lv' := [(4, .int p1), (0, .ref h0), (1, .int p0), (2, .int 1), (3, .int p1)]) hx hb dX4_setNumber_11 hl (by decide) rfl (fun ls hl => ?_)
  refine lv_iload_n hx hb dX4_setNumber_13 rfl (lv_at hl 2 rfl) ?_
  refine lv_iload_n hx hb dX4_setNumber_14 rfl (lv_at hl 3 rfl) ?_
  refine lv_iadd hx hb dX4_setNumber_15 ?_
  refine lv_topi (fun x_3 ex_3 => ?_)
  have tx_3 : x_3.toInt = p0.toInt + 1 := by rw [ex_3]; exact ti_add rfl (by decide) (by omega) (by omega)
  refine lv_iconst (v := 1) hx hb dX4_setNumber_16 (by decide) ?_
  refine lv_isub hx hb dX4_setNumber_17 ?_
  refine lv_topi (fun x_4 ex_4 => ?_)
  have tx_4 : x_4.toInt = x_3.toInt - 1 := by rw [ex_4]; exact ti_sub rfl (by decide) (by omega) (by omega)
  refine lv_istore (lv' := [(5, .int x_4), (4, .int p1), (0, .ref h0), (1, .int p0), (2, .int 1), (3, .int p1)]) hx hb dX4_setNumber_18 hl (by decide) rfl (fun ls hl => ?_)
  refine lv_iload hx hb dX4_setNumber_20 (lv_at hl 0 rfl) ?_
  refine lv_iload_n hx hb dX4_setNumber_22 rfl (lv_at hl 3 rfl) ?_
  refine lv_icmp_lt (tgt := 46) hx hb dX4_setNumber_23 (by decide) (fun c => absurd ((ti_lt (x := x_4) (y := p0) (a := x_4.toInt) (b := p0.toInt) rfl rfl).mp c) (by omega)) (fun c => ?_)
  refine lv_aload_n hx hb dX4_setNumber_26 rfl (lv_at hl 2 rfl) ?_
  refine lv_iload hx hb dX4_setNumber_27 (lv_at hl 0 rfl) ?_
  refine lv_iload hx hb dX4_setNumber_29 (lv_at hl 1 rfl) ?_
  refine lv_i2b hx hb dX4_setNumber_31 rfl ?_
  refine lv_topi (fun x_5 ex_5 => ?_)
  refine va_bast hx hb hK hP hD hS 0 0 rfl rfl (ti_in (a := x_4.toInt) rfl (by omega) (by omega)) dX4_setNumber_32 (fun H locs hP hD hS => ?_)
  obtain ⟨f_6, ef_6⟩ : ∃ g : Nat → Int32, g = upd f0 (Int32.toNatClampNeg x_4) (vp_nar .byte x_5) := ⟨_, rfl⟩
  rw [← ef_6] at hP hD
  have bf_6 : FB f_6 := by rw [ef_6]; exact FB_upd b_f0 _ _
  have hP : va_P D vwCl [(h0, .inl (cB, 1600, .inl f_6))] H := hP
  have hD : va_D A [(h0, .inl (cB, 1600, .inl f_6))] := hD
  refine lv_iload hx hb dX4_setNumber_33 (lv_at hl 1 rfl) ?_
  refine lv_bipush (v := 8) hx hb dX4_setNumber_35 (by decide) ?_
  refine lv_iushr hx hb dX4_setNumber_37 rfl ?_
  refine lv_topi (fun x_7 ex_7 => ?_)
  refine lv_istore (lv' := [(4, .int x_7), (5, .int x_4), (0, .ref h0), (1, .int p0), (2, .int 1), (3, .int p1)]) hx hb dX4_setNumber_38 hl (by decide) rfl (fun ls hl => ?_)
  obtain ⟨x_8, ex_8⟩ : ∃ y : Int32, y = x_4 + (-1) := ⟨_, rfl⟩
  have tx_8 : x_8.toInt = x_4.toInt + (-1) := by rw [ex_8]; exact ti_add rfl (by decide) (by omega) (by omega)
  refine lv_iinc (v := x_8) (lv' := [(5, .int x_8), (4, .int x_7), (0, .ref h0), (1, .int p0), (2, .int 1), (3, .int p1)]) hx hb dX4_setNumber_40 hl (k := 1) rfl (by rw [ex_8]; rfl) (by decide) rfl (fun ls hl => ?_)
  refine lv_goto (tgt := 20) hx hb dX4_setNumber_43 (by decide) ?_
  refine lv_iload hx hb dX4_setNumber_20 (lv_at hl 0 rfl) ?_
  refine lv_iload_n hx hb dX4_setNumber_22 rfl (lv_at hl 3 rfl) ?_
  refine lv_icmp_lt (tgt := 46) hx hb dX4_setNumber_23 (by decide) (fun c => ?_) (fun c => absurd ((ti_lt (x := x_8) (y := p0) (a := x_8.toInt) (b := p0.toInt) rfl rfl).mpr (by omega)) c)
  exact kr_v f_6 hx hb hr hlocks hP hD hS bf_6 dX4_setNumber_46
set_option maxHeartbeats 4000000 in
set_option maxRecDepth 100000 in
theorem K126_X4_isWithin (l : Launch) (D : va_G) (cB cI cZ : ClassId) (sz : Nat) (h0 : Nat)  (p0 : Int32) (f0 : Nat → Int32) (i_p0 : 0 ≤ p0.toInt ∧ p0.toInt ≤ 1596) (b_f0 : FB f0) :
    CtI l D cB cI cZ yX4_isWithin wsX4_isWithin { frames := 0, cells := 0, slots := 0, locals := 0 } [.ref h0, .int p0, .int 4] [(h0, .inl (cB, 1600, .inl f0))] sz 0 0
      (fun (r : Int32) (u : Unit) => r = 1)
      (fun u => [(h0, .inl (cB, 1600, .inl f0))]) := by
  refine mk_metI (cc := cX4_isWithin) (maxL := 3) (ret := (some .boolean)) (by decide) rfl (Nat.le_of_ble_eq_true rfl) ?_
  intro p e s m below meth c A hx hb hr hml hts hown hlocks hin hP hK hN hD hA hS ls hl
  have hown : s.vm.findClass RX4 = some m.cls := hown
  have hl : lv_has ls 3 [(0, .ref h0), (1, .int p0), (2, .int 4)] := hl
  refine lv_iload_n hx hb dX4_isWithin_0 rfl (lv_at hl 1 rfl) ?_
  refine lv_if_lt (tgt := 26) hx hb dX4_isWithin_1 (by decide) (fun c => absurd ((ti_lt (x := p0) (y := 0) (a := p0.toInt) (b := 0) rfl (by decide)).mp c) (by omega)) (fun c => ?_)
  refine lv_iload_n hx hb dX4_isWithin_4 rfl (lv_at hl 2 rfl) ?_
  refine lv_if_lt (tgt := 26) hx hb dX4_isWithin_5 (by decide) (fun c => absurd c (by decide)) (fun c => ?_)
  refine lv_iload_n hx hb dX4_isWithin_8 rfl (lv_at hl 2 rfl) ?_
  refine lv_aload_n hx hb dX4_isWithin_9 rfl (lv_at hl 0 rfl) ?_
  refine va_alen (v := 1600) hx hb hK hP 0 0 rfl rfl (show Int32.ofNat 1600 = 1600 by decide) dX4_isWithin_10 ?_
  refine lv_icmp_gt (tgt := 26) hx hb dX4_isWithin_11 (by decide) (fun c => absurd c (by decide)) (fun c => ?_)
  refine lv_iload_n hx hb dX4_isWithin_14 rfl (lv_at hl 1 rfl) ?_
  refine lv_aload_n hx hb dX4_isWithin_15 rfl (lv_at hl 0 rfl) ?_
  refine va_alen (v := 1600) hx hb hK hP 0 0 rfl rfl (show Int32.ofNat 1600 = 1600 by decide) dX4_isWithin_16 ?_
  refine lv_iload_n hx hb dX4_isWithin_17 rfl (lv_at hl 2 rfl) ?_
  refine lv_isub hx hb dX4_isWithin_18 ?_
  refine lv_topi (fun z_1 ez_1 => ?_)
  obtain rfl : z_1 = 1596 := ez_1.trans (by decide)
  refine lv_icmp_gt (tgt := 26) hx hb dX4_isWithin_19 (by decide) (fun c => absurd ((ti_lt (x := 1596) (y := p0) (a := 1596) (b := p0.toInt) (by decide) rfl).mp c) (by omega)) (fun c => ?_)
  refine lv_iconst (v := 1) hx hb dX4_isWithin_22 (by decide) ?_
  refine lv_goto (tgt := 27) hx hb dX4_isWithin_23 (by decide) ?_
  exact kr_z () hx hb hr rfl hlocks hP hD hS rfl dX4_isWithin_27
