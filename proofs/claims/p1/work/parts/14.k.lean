set_option maxHeartbeats 4000000 in
set_option maxRecDepth 100000 in
theorem K51_X3_append (l : Launch) (D : va_G) (cB cI cZ : ClassId) (sz : Nat) (h0 : Nat) (h1 : Nat) (h2 : Nat) (h3 : Nat) (h4 : Nat) (h5 : Nat) (h6 : Nat) (h7 : Nat) (h8 : Nat) (h9 : Nat) (h10 : Nat) (h11 : Nat)  (p0 : Int32) (g0 : Value) (i_p0 : 0 ≤ p0.toInt ∧ p0.toInt ≤ 299) :
    CtI l D cB cI cZ yX3_append wsX3_append { frames := 4, cells := 0, slots := 0, locals := 91 } [.ref h0, .int 1, .int p0, .int 0, .ref h1, .int 0, .int 0] [(h0, .inr (3, [.ref h2, .ref h3, .ref h4, .ref h5, .ref h6, .ref h7, .ref h8, .ref h9, .int 0, .int 0, .int 0, .int 0, .int 1, g0])), (h1, .inl (cB, 100, .inl zf)), (h2, .inr (2, [.ref h10, .ref h11, .int 0])), (h3, .inl (cB, 65536, .inl zf)), (h4, .inl (cI, 64, .inl zf)), (h5, .inl (cZ, 64, .inl zf)), (h6, .inl (cI, 64, .inl zf)), (h7, .inl (cI, 64, .inl zf)), (h8, .inl (cI, 64, .inl zf)), (h9, .inl (cI, 64, .inl zf)), (h10, .inl (cI, 300, .inl zf)), (h11, .inl (cI, 300, .inl zf))] sz 0 0
      (fun (r : Int32) (u : (Nat → Int32) × (Nat → Int32) × Int32 × (Nat → Int32) × (Nat → Int32) × (Nat → Int32) × Int32 × (Nat → Int32) × (Nat → Int32) × (Nat → Int32)) => r = 1 ∧ FB u.2.1 ∧ 0 ≤ u.2.2.1.toInt ∧ u.2.2.1.toInt ≤ 1 ∧ 1 ≤ u.2.2.2.2.2.2.1.toInt ∧ u.2.2.2.2.2.2.1.toInt ≤ 2)
      (fun u => [(h4, .inl (cI, 64, .inl u.1)), (h1, .inl (cB, 100, .inl zf)), (h3, .inl (cB, 65536, .inl u.2.1)), (h2, .inr (2, [.ref h10, .ref h11, .int u.2.2.1])), (h10, .inl (cI, 300, .inl u.2.2.2.1)), (h11, .inl (cI, 300, .inl u.2.2.2.2.1)), (h5, .inl (cZ, 64, .inl u.2.2.2.2.2.1)), (h6, .inl (cI, 64, .inl zf)), (h0, .inr (3, [.ref h2, .ref h3, .ref h4, .ref h5, .ref h6, .ref h7, .ref h8, .ref h9, .int u.2.2.2.2.2.2.1, .int 8, .int 26, .int 1, .int 2, g0])), (h7, .inl (cI, 64, .inl u.2.2.2.2.2.2.2.1)), (h8, .inl (cI, 64, .inl u.2.2.2.2.2.2.2.2.1)), (h9, .inl (cI, 64, .inl u.2.2.2.2.2.2.2.2.2))]) := by
  refine mk_metI (cc := cX3_append) (maxL := 9) (ret := (some .int)) (by decide) rfl (Nat.le_of_ble_eq_true rfl) ?_
  intro p e s m below meth c A hx hb hr hml hts hown hlocks hin hP hK hN hD hA hS ls hl
  have hown : s.vm.findClass RX3 = some m.cls := hown
  have hl : lv_has ls 9 [(0, .ref h0), (1, .int 1), (2, .int p0), (3, .int 0), (4, .ref h1), (5, .int 0), (6, .int 0)] := hl
  refine lv_aload_n hx hb dX3_append_0 rfl (lv_at hl 0 rfl) ?_
  refine lv_bipush (v := 16) hx hb dX3_append_1 (by decide) ?_
  refine lv_iload hx hb dX3_append_3 (lv_at hl 6 rfl) ?_
  refine lv_iadd hx hb dX3_append_5 ?_
  refine lv_topi (fun z_1 ez_1 => ?_)
  obtain rfl : z_1 = 16 := ez_1.trans (by decide)
  refine kc_i (wr := [(h1, .inl (cB, 100, .inl zf)), (h2, .inr (2, [.ref h10, .ref h11, .int 0])), (h3, .inl (cB, 65536, .inl zf)), (h4, .inl (cI, 64, .inl zf)), (h5, .inl (cZ, 64, .inl zf)), (h6, .inl (cI, 64, .inl zf)), (h7, .inl (cI, 64, .inl zf)), (h8, .inl (cI, 64, .inl zf)), (h9, .inl (cI, 64, .inl zf)), (h10, .inl (cI, 300, .inl zf)), (h11, .inl (cI, 300, .inl zf))]) (va_runV (As := [.int 16]) (rest := []) ⟨hx, hb, hml, hown, hts⟩ (K49_X3_fits l D cB cI cZ _ h0 ((.ref h2)) ((.ref h3)) ((.ref h4)) ((.ref h5)) ((.ref h6)) ((.ref h7)) ((.ref h8)) ((.ref h9)) ((.int 0)) ((.int 0)) ((.int 0)) ((.int 1)) (g0)) (cwV 1 hts gX3_append_X3_fits rfl rfl rfl (by decide +kernel) ⟨Nat.le_of_ble_eq_true rfl, Nat.le_of_ble_eq_true rfl⟩) (pre_V (q := (RX3, TX3, 14)) (ci := 3) (q0 := 0) (hP.sub [0] rfl) hK hN (hD.sub [0] (by decide) rfl) rfl rfl) rfl rfl hl.1 rfl (lv_room (Nat.le_of_ble_eq_true rfl)) dX3_append_6 ⟨Nat.le_of_ble_eq_true rfl, Nat.le_of_ble_eq_true rfl⟩) hP hD hS hA [0] [1, 2, 3, 4, 5, 6, 7, 8, 9, 10, 11] rfl rfl (by decide) (by decide) (fun r_2 u H locs hw hP hD hS => ?_)
  have k_3 := hw
  obtain rfl : r_2 = 0 := k_3
  have hP : va_P D vwCl [(h1, .inl (cB, 100, .inl zf)), (h2, .inr (2, [.ref h10, .ref h11, .int 0])), (h3, .inl (cB, 65536, .inl zf)), (h4, .inl (cI, 64, .inl zf)), (h5, .inl (cZ, 64, .inl zf)), (h6, .inl (cI, 64, .inl zf)), (h7, .inl (cI, 64, .inl zf)), (h8, .inl (cI, 64, .inl zf)), (h9, .inl (cI, 64, .inl zf)), (h10, .inl (cI, 300, .inl zf)), (h11, .inl (cI, 300, .inl zf)), (h0, .inr (3, [.ref h2, .ref h3, .ref h4, .ref h5, .ref h6, .ref h7, .ref h8, .ref h9, .int 0, .int 0, .int 0, .int 0, .int 1, g0]))] H := hP
  have hD : va_D A [(h1, .inl (cB, 100, .inl zf)), (h2, .inr (2, [.ref h10, .ref h11, .int 0])), (h3, .inl (cB, 65536, .inl zf)), (h4, .inl (cI, 64, .inl zf)), (h5, .inl (cZ, 64, .inl zf)), (h6, .inl (cI, 64, .inl zf)), (h7, .inl (cI, 64, .inl zf)), (h8, .inl (cI, 64, .inl zf)), (h9, .inl (cI, 64, .inl zf)), (h10, .inl (cI, 300, .inl zf)), (h11, .inl (cI, 300, .inl zf)), (h0, .inr (3, [.ref h2, .ref h3, .ref h4, .ref h5, .ref h6, .ref h7, .ref h8, .ref h9, .int 0, .int 0, .int 0, .int 0, .int 1, g0]))] := hD
  refine lv_if_ne (tgt := 16) hx hb dX3_append_9 (by decide) (fun c => absurd (by decide) c) (fun c => ?_)
  refine lv_aload_n hx hb dX3_append_12 rfl (lv_at hl 0 rfl) ?_
  refine kc_v (wr := [(h1, .inl (cB, 100, .inl zf)), (h2, .inr (2, [.ref h10, .ref h11, .int 0])), (h6, .inl (cI, 64, .inl zf)), (h10, .inl (cI, 300, .inl zf)), (h11, .inl (cI, 300, .inl zf))]) (va_runV (As := []) (rest := []) ⟨hx, hb, hml, hown, hts⟩ (K52_X3_openNext l D cB cI cZ _ h0 h3 h4 h5 h7 h8 h9 ((.ref h2)) ((.ref h6)) ((.int 1)) (g0)) (cwV 0 hts gX3_append_X3_openNext rfl rfl rfl (by decide +kernel) ⟨Nat.le_of_ble_eq_true rfl, Nat.le_of_ble_eq_true rfl⟩) (pre_V (q := (RX3, TX3, 14)) (ci := 3) (q0 := 0) (hP.sub [11, 2, 3, 4, 6, 7, 8] rfl) hK hN (hD.sub [11, 2, 3, 4, 6, 7, 8] (by decide) rfl) rfl rfl) rfl rfl hl.1 rfl (lv_room (Nat.le_of_ble_eq_true rfl)) dX3_append_13 ⟨Nat.le_of_ble_eq_true rfl, Nat.le_of_ble_eq_true rfl⟩) hP hD hS hA [11, 2, 3, 4, 6, 7, 8] [0, 1, 5, 9, 10] rfl rfl (by decide) (by decide) (fun  u H locs hw hP hD hS => ?_)
  obtain ⟨f_4, f_5, f_6, f_7⟩ := u
  have bf_5 := hw
  have bf_5 : FB f_5 := bf_5
  have hP : va_P D vwCl [(h1, .inl (cB, 100, .inl zf)), (h2, .inr (2, [.ref h10, .ref h11, .int 0])), (h6, .inl (cI, 64, .inl zf)), (h10, .inl (cI, 300, .inl zf)), (h11, .inl (cI, 300, .inl zf)), (h4, .inl (cI, 64, .inl f_4)), (h5, .inl (cZ, 64, .inl zf)), (h3, .inl (cB, 65536, .inl f_5)), (h0, .inr (3, [.ref h2, .ref h3, .ref h4, .ref h5, .ref h6, .ref h7, .ref h8, .ref h9, .int 1, .int 8, .int 10, .int 1, .int 1, g0])), (h7, .inl (cI, 64, .inl f_6)), (h8, .inl (cI, 64, .inl zf)), (h9, .inl (cI, 64, .inl f_7))] H := hP
  have hD : va_D A [(h1, .inl (cB, 100, .inl zf)), (h2, .inr (2, [.ref h10, .ref h11, .int 0])), (h6, .inl (cI, 64, .inl zf)), (h10, .inl (cI, 300, .inl zf)), (h11, .inl (cI, 300, .inl zf)), (h4, .inl (cI, 64, .inl f_4)), (h5, .inl (cZ, 64, .inl zf)), (h3, .inl (cB, 65536, .inl f_5)), (h0, .inr (3, [.ref h2, .ref h3, .ref h4, .ref h5, .ref h6, .ref h7, .ref h8, .ref h9, .int 1, .int 8, .int 10, .int 1, .int 1, g0])), (h7, .inl (cI, 64, .inl f_6)), (h8, .inl (cI, 64, .inl zf)), (h9, .inl (cI, 64, .inl f_7))] := hD
  refine lv_aload_n hx hb dX3_append_16 rfl (lv_at hl 0 rfl) ?_
  refine va_get (D := D) (ci := 3) (v := .int 1) (C := RX3) (T := TX3) (N := 14) hx hb hts inX3_append_X3 hown hK hP 8 rfl rfl 12 (by decide) (hts _ wdX3_append_0) (fun _ h9 => h9) rfl dX3_append_17 ?_
  refine lv_istore (lv' := [(7, .int 1), (0, .ref h0), (1, .int 1), (2, .int p0), (3, .int 0), (4, .ref h1), (5, .int 0), (6, .int 0)]) hx hb dX3_append_20 hl (by decide) rfl (fun ls hl => ?_)
  refine lv_aload_n hx hb dX3_append_22 rfl (lv_at hl 1 rfl) ?_
  refine lv_dup hx hb dX3_append_23 rfl ?_
  refine va_get (D := D) (ci := 3) (v := .int 1) (C := RX3) (T := TX3) (N := 14) hx hb hts inX3_append_X3 hown hK hP 8 rfl rfl 12 (by decide) (hts _ wdX3_append_0) (fun _ h9 => h9) rfl dX3_append_24 ?_
  refine lv_iconst (v := 1) hx hb dX3_append_27 (by decide) ?_
  refine lv_iadd hx hb dX3_append_28 ?_
  refine lv_topi (fun z_8 ez_8 => ?_)
  obtain rfl : z_8 = 2 := ez_8.trans (by decide)
  refine va_put (D := D) (ci := 3) (v := .int 2) (ty := .int) (C := RX3) (T := TX3) (N := 14) hx hb hts inX3_append_X3 tyX3 tyX3_ok nmX3 hown hK hP hD hS 8 rfl rfl 12 (by decide) (hts _ wdX3_append_0) (fun _ h9 => h9) rfl (by decide +kernel) rfl rfl (Nat.le_of_ble_eq_true rfl) dX3_append_29 (fun H locs hP hD hS => ?_)
  have hP : va_P D vwCl [(h1, .inl (cB, 100, .inl zf)), (h2, .inr (2, [.ref h10, .ref h11, .int 0])), (h6, .inl (cI, 64, .inl zf)), (h10, .inl (cI, 300, .inl zf)), (h11, .inl (cI, 300, .inl zf)), (h4, .inl (cI, 64, .inl f_4)), (h5, .inl (cZ, 64, .inl zf)), (h3, .inl (cB, 65536, .inl f_5)), (h0, .inr (3, [.ref h2, .ref h3, .ref h4, .ref h5, .ref h6, .ref h7, .ref h8, .ref h9, .int 1, .int 8, .int 10, .int 1, .int 2, g0])), (h7, .inl (cI, 64, .inl f_6)), (h8, .inl (cI, 64, .inl zf)), (h9, .inl (cI, 64, .inl f_7))] H := hP
  have hD : va_D A [(h1, .inl (cB, 100, .inl zf)), (h2, .inr (2, [.ref h10, .ref h11, .int 0])), (h6, .inl (cI, 64, .inl zf)), (h10, .inl (cI, 300, .inl zf)), (h11, .inl (cI, 300, .inl zf)), (h4, .inl (cI, 64, .inl f_4)), (h5, .inl (cZ, 64, .inl zf)), (h3, .inl (cB, 65536, .inl f_5)), (h0, .inr (3, [.ref h2, .ref h3, .ref h4, .ref h5, .ref h6, .ref h7, .ref h8, .ref h9, .int 1, .int 8, .int 10, .int 1, .int 2, g0])), (h7, .inl (cI, 64, .inl f_6)), (h8, .inl (cI, 64, .inl zf)), (h9, .inl (cI, 64, .inl f_7))] := hD
  refine lv_aload_n hx hb dX3_append_32 rfl (lv_at hl 1 rfl) ?_
  refine va_get (D := D) (ci := 3) (v := .int 8) (C := RX3) (T := TX3) (N := 14) hx hb hts inX3_append_X3 hown hK hP 8 rfl rfl 9 (by decide) (hts _ wdX3_append_1) (fun _ h9 => h9) rfl dX3_append_33 ?_
  refine lv_sipush (v := 1024) hx hb dX3_append_36 (by decide) ?_
  refine lv_imul hx hb dX3_append_39 ?_
  refine lv_topi (fun z_9 ez_9 => ?_)
  obtain rfl : z_9 = 8192 := ez_9.trans (by decide)
  refine lv_aload_n hx hb dX3_append_40 rfl (lv_at hl 1 rfl) ?_
  refine va_get (D := D) (ci := 3) (v := .int 10) (C := RX3) (T := TX3) (N := 14) hx hb hts inX3_append_X3 hown hK hP 8 rfl rfl 10 (by decide) (hts _ wdX3_append_2) (fun _ h9 => h9) rfl dX3_append_41 ?_
  refine lv_iadd hx hb dX3_append_44 ?_
  refine lv_topi (fun z_10 ez_10 => ?_)
  obtain rfl : z_10 = 8202 := ez_10.trans (by decide)
  refine lv_istore (lv' := [(8, .int 8202), (7, .int 1), (0, .ref h0), (1, .int 1), (2, .int p0), (3, .int 0), (4, .ref h1), (5, .int 0), (6, .int 0)]) hx hb dX3_append_45 hl (by decide) rfl (fun ls hl => ?_)
  refine lv_aload_n hx hb dX3_append_47 rfl (lv_at hl 2 rfl) ?_
  refine va_get (D := D) (ci := 3) (v := .ref h3) (C := RX3) (T := TX3) (N := 14) hx hb hts inX3_append_X3 hown hK hP 8 rfl rfl 1 (by decide) (hts _ wdX3_append_3) (fun _ h9 => h9) rfl dX3_append_48 ?_
  refine lv_iload hx hb dX3_append_51 (lv_at hl 0 rfl) ?_
  refine lv_iconst (v := 1) hx hb dX3_append_53 (by decide) ?_
  refine lv_iload_n hx hb dX3_append_54 rfl (lv_at hl 3 rfl) ?_
  refine kc_v (wr := [(h1, .inl (cB, 100, .inl zf)), (h2, .inr (2, [.ref h10, .ref h11, .int 0])), (h6, .inl (cI, 64, .inl zf)), (h10, .inl (cI, 300, .inl zf)), (h11, .inl (cI, 300, .inl zf)), (h4, .inl (cI, 64, .inl f_4)), (h5, .inl (cZ, 64, .inl zf)), (h0, .inr (3, [.ref h2, .ref h3, .ref h4, .ref h5, .ref h6, .ref h7, .ref h8, .ref h9, .int 1, .int 8, .int 10, .int 1, .int 2, g0])), (h7, .inl (cI, 64, .inl f_6)), (h8, .inl (cI, 64, .inl zf)), (h9, .inl (cI, 64, .inl f_7))]) (va_runS (As := [.ref h3, .int 8202, .int 1, .int 1]) (rest := []) ⟨hx, hb, hml, hown, hts⟩ (K61_X4_setNumber l D cB cI cZ _ h3 8202 1 f_5 (by decide) bf_5) (va_cwS 4 hts gX3_append_X4_setNumber rfl rfl rfl (by decide +kernel) ⟨Nat.le_of_ble_eq_true rfl, Nat.le_of_ble_eq_true rfl⟩) (pre_S (hP.sub [7] rfl) hK hN (hD.sub [7] (by decide) rfl)) rfl rfl hl.1 rfl (lv_room (Nat.le_of_ble_eq_true rfl)) dX3_append_55 ⟨Nat.le_of_ble_eq_true rfl, Nat.le_of_ble_eq_true rfl⟩) hP hD hS hA [7] [0, 1, 2, 3, 4, 5, 6, 8, 9, 10, 11] rfl rfl (by decide) (by decide) (fun  u H locs hw hP hD hS => ?_)
  obtain ⟨f_11, rfl⟩ : ∃ z, z = u := ⟨_, rfl⟩
  have bf_11 := hw
  have bf_11 : FB f_11 := bf_11
  have hP : va_P D vwCl [(h1, .inl (cB, 100, .inl zf)), (h2, .inr (2, [.ref h10, .ref h11, .int 0])), (h6, .inl (cI, 64, .inl zf)), (h10, .inl (cI, 300, .inl zf)), (h11, .inl (cI, 300, .inl zf)), (h4, .inl (cI, 64, .inl f_4)), (h5, .inl (cZ, 64, .inl zf)), (h0, .inr (3, [.ref h2, .ref h3, .ref h4, .ref h5, .ref h6, .ref h7, .ref h8, .ref h9, .int 1, .int 8, .int 10, .int 1, .int 2, g0])), (h7, .inl (cI, 64, .inl f_6)), (h8, .inl (cI, 64, .inl zf)), (h9, .inl (cI, 64, .inl f_7)), (h3, .inl (cB, 65536, .inl f_11))] H := hP
  have hD : va_D A [(h1, .inl (cB, 100, .inl zf)), (h2, .inr (2, [.ref h10, .ref h11, .int 0])), (h6, .inl (cI, 64, .inl zf)), (h10, .inl (cI, 300, .inl zf)), (h11, .inl (cI, 300, .inl zf)), (h4, .inl (cI, 64, .inl f_4)), (h5, .inl (cZ, 64, .inl zf)), (h0, .inr (3, [.ref h2, .ref h3, .ref h4, .ref h5, .ref h6, .ref h7, .ref h8, .ref h9, .int 1, .int 8, .int 10, .int 1, .int 2, g0])), (h7, .inl (cI, 64, .inl f_6)), (h8, .inl (cI, 64, .inl zf)), (h9, .inl (cI, 64, .inl f_7)), (h3, .inl (cB, 65536, .inl f_11))] := hD
  refine lv_aload_n hx hb dX3_append_58 rfl (lv_at hl 2 rfl) ?_
  refine va_get (D := D) (ci := 3) (v := .ref h3) (C := RX3) (T := TX3) (N := 14) hx hb hts inX3_append_X3 hown hK hP 7 rfl rfl 1 (by decide) (hts _ wdX3_append_3) (fun _ h9 => h9) rfl dX3_append_59 ?_
  refine lv_iload hx hb dX3_append_62 (lv_at hl 0 rfl) ?_
  refine lv_iconst (v := 1) hx hb dX3_append_64 (by decide) ?_
  refine lv_iadd hx hb dX3_append_65 ?_
  refine lv_topi (fun z_12 ez_12 => ?_)
  obtain rfl : z_12 = 8203 := ez_12.trans (by decide)
  refine lv_iconst (v := 2) hx hb dX3_append_66 (by decide) ?_
  refine lv_iload_n hx hb dX3_append_67 rfl (lv_at hl 4 rfl) ?_
  refine kc_v (wr := [(h1, .inl (cB, 100, .inl zf)), (h2, .inr (2, [.ref h10, .ref h11, .int 0])), (h6, .inl (cI, 64, .inl zf)), (h10, .inl (cI, 300, .inl zf)), (h11, .inl (cI, 300, .inl zf)), (h4, .inl (cI, 64, .inl f_4)), (h5, .inl (cZ, 64, .inl zf)), (h0, .inr (3, [.ref h2, .ref h3, .ref h4, .ref h5, .ref h6, .ref h7, .ref h8, .ref h9, .int 1, .int 8, .int 10, .int 1, .int 2, g0])), (h7, .inl (cI, 64, .inl f_6)), (h8, .inl (cI, 64, .inl zf)), (h9, .inl (cI, 64, .inl f_7))]) (va_runS (As := [.ref h3, .int 8203, .int 2, .int p0]) (rest := []) ⟨hx, hb, hml, hown, hts⟩ (K70_X4_setNumber l D cB cI cZ _ h3 8203 p0 f_11 (by decide) bf_11) (va_cwS 4 hts gX3_append_X4_setNumber rfl rfl rfl (by decide +kernel) ⟨Nat.le_of_ble_eq_true rfl, Nat.le_of_ble_eq_true rfl⟩) (pre_S (hP.sub [11] rfl) hK hN (hD.sub [11] (by decide) rfl)) rfl rfl hl.1 rfl (lv_room (Nat.le_of_ble_eq_true rfl)) dX3_append_68 ⟨Nat.le_of_ble_eq_true rfl, Nat.le_of_ble_eq_true rfl⟩) hP hD hS hA [11] [0, 1, 2, 3, 4, 5, 6, 7, 8, 9, 10] rfl rfl (by decide) (by decide) (fun  u H locs hw hP hD hS => ?_)
  obtain ⟨f_13, rfl⟩ : ∃ z, z = u := ⟨_, rfl⟩
  have bf_13 := hw
  have bf_13 : FB f_13 := bf_13
  have hP : va_P D vwCl [(h1, .inl (cB, 100, .inl zf)), (h2, .inr (2, [.ref h10, .ref h11, .int 0])), (h6, .inl (cI, 64, .inl zf)), (h10, .inl (cI, 300, .inl zf)), (h11, .inl (cI, 300, .inl zf)), (h4, .inl (cI, 64, .inl f_4)), (h5, .inl (cZ, 64, .inl zf)), (h0, .inr (3, [.ref h2, .ref h3, .ref h4, .ref h5, .ref h6, .ref h7, .ref h8, .ref h9, .int 1, .int 8, .int 10, .int 1, .int 2, g0])), (h7, .inl (cI, 64, .inl f_6)), (h8, .inl (cI, 64, .inl zf)), (h9, .inl (cI, 64, .inl f_7)), (h3, .inl (cB, 65536, .inl f_13))] H := hP
  have hD : va_D A [(h1, .inl (cB, 100, .inl zf)), (h2, .inr (2, [.ref h10, .ref h11, .int 0])), (h6, .inl (cI, 64, .inl zf)), (h10, .inl (cI, 300, .inl zf)), (h11, .inl (cI, 300, .inl zf)), (h4, .inl (cI, 64, .inl f_4)), (h5, .inl (cZ, 64, .inl zf)), (h0, .inr (3, [.ref h2, .ref h3, .ref h4, .ref h5, .ref h6, .ref h7, .ref h8, .ref h9, .int 1, .int 8, .int 10, .int 1, .int 2, g0])), (h7, .inl (cI, 64, .inl f_6)), (h8, .inl (cI, 64, .inl zf)), (h9, .inl (cI, 64, .inl f_7)), (h3, .inl (cB, 65536, .inl f_13))] := hD
  refine lv_aload_n hx hb dX3_append_71 rfl (lv_at hl 2 rfl) ?_
  refine va_get (D := D) (ci := 3) (v := .ref h3) (C := RX3) (T := TX3) (N := 14) hx hb hts inX3_append_X3 hown hK hP 7 rfl rfl 1 (by decide) (hts _ wdX3_append_3) (fun _ h9 => h9) rfl dX3_append_72 ?_
  refine lv_iload hx hb dX3_append_75 (lv_at hl 0 rfl) ?_
  refine lv_iconst (v := 3) hx hb dX3_append_77 (by decide) ?_
  refine lv_iadd hx hb dX3_append_78 ?_
  refine lv_topi (fun z_14 ez_14 => ?_)
  obtain rfl : z_14 = 8205 := ez_14.trans (by decide)
  refine lv_iconst (v := 1) hx hb dX3_append_79 (by decide) ?_
  refine lv_iload hx hb dX3_append_80 (lv_at hl 8 rfl) ?_
  refine kc_v (wr := [(h1, .inl (cB, 100, .inl zf)), (h2, .inr (2, [.ref h10, .ref h11, .int 0])), (h6, .inl (cI, 64, .inl zf)), (h10, .inl (cI, 300, .inl zf)), (h11, .inl (cI, 300, .inl zf)), (h4, .inl (cI, 64, .inl f_4)), (h5, .inl (cZ, 64, .inl zf)), (h0, .inr (3, [.ref h2, .ref h3, .ref h4, .ref h5, .ref h6, .ref h7, .ref h8, .ref h9, .int 1, .int 8, .int 10, .int 1, .int 2, g0])), (h7, .inl (cI, 64, .inl f_6)), (h8, .inl (cI, 64, .inl zf)), (h9, .inl (cI, 64, .inl f_7))]) (va_runS (As := [.ref h3, .int 8205, .int 1, .int 0]) (rest := []) ⟨hx, hb, hml, hown, hts⟩ (K61_X4_setNumber l D cB cI cZ _ h3 8205 0 f_13 (by decide) bf_13) (va_cwS 4 hts gX3_append_X4_setNumber rfl rfl rfl (by decide +kernel) ⟨Nat.le_of_ble_eq_true rfl, Nat.le_of_ble_eq_true rfl⟩) (pre_S (hP.sub [11] rfl) hK hN (hD.sub [11] (by decide) rfl)) rfl rfl hl.1 rfl (lv_room (Nat.le_of_ble_eq_true rfl)) dX3_append_82 ⟨Nat.le_of_ble_eq_true rfl, Nat.le_of_ble_eq_true rfl⟩) hP hD hS hA [11] [0, 1, 2, 3, 4, 5, 6, 7, 8, 9, 10] rfl rfl (by decide) (by decide) (fun  u H locs hw hP hD hS => ?_)
  obtain ⟨f_15, rfl⟩ : ∃ z, z = u := ⟨_, rfl⟩
  have bf_15 := hw
  have bf_15 : FB f_15 := bf_15
  have hP : va_P D vwCl [(h1, .inl (cB, 100, .inl zf)), (h2, .inr (2, [.ref h10, .ref h11, .int 0])), (h6, .inl (cI, 64, .inl zf)), (h10, .inl (cI, 300, .inl zf)), (h11, .inl (cI, 300, .inl zf)), (h4, .inl (cI, 64, .inl f_4)), (h5, .inl (cZ, 64, .inl zf)), (h0, .inr (3, [.ref h2, .ref h3, .ref h4, .ref h5, .ref h6, .ref h7, .ref h8, .ref h9, .int 1, .int 8, .int 10, .int 1, .int 2, g0])), (h7, .inl (cI, 64, .inl f_6)), (h8, .inl (cI, 64, .inl zf)), (h9, .inl (cI, 64, .inl f_7)), (h3, .inl (cB, 65536, .inl f_15))] H := hP
  have hD : va_D A [(h1, .inl (cB, 100, .inl zf)), (h2, .inr (2, [.ref h10, .ref h11, .int 0])), (h6, .inl (cI, 64, .inl zf)), (h10, .inl (cI, 300, .inl zf)), (h11, .inl (cI, 300, .inl zf)), (h4, .inl (cI, 64, .inl f_4)), (h5, .inl (cZ, 64, .inl zf)), (h0, .inr (3, [.ref h2, .ref h3, .ref h4, .ref h5, .ref h6, .ref h7, .ref h8, .ref h9, .int 1, .int 8, .int 10, .int 1, .int 2, g0])), (h7, .inl (cI, 64, .inl f_6)), (h8, .inl (cI, 64, .inl zf)), (h9, .inl (cI, 64, .inl f_7)), (h3, .inl (cB, 65536, .inl f_15))] := hD
  refine lv_aload_n hx hb dX3_append_85 rfl (lv_at hl 2 rfl) ?_
  refine va_get (D := D) (ci := 3) (v := .ref h3) (C := RX3) (T := TX3) (N := 14) hx hb hts inX3_append_X3 hown hK hP 7 rfl rfl 1 (by decide) (hts _ wdX3_append_3) (fun _ h9 => h9) rfl dX3_append_86 ?_
  refine lv_iload hx hb dX3_append_89 (lv_at hl 0 rfl) ?_
  refine lv_iconst (v := 4) hx hb dX3_append_91 (by decide) ?_
  refine lv_iadd hx hb dX3_append_92 ?_
  refine lv_topi (fun z_16 ez_16 => ?_)
  obtain rfl : z_16 = 8206 := ez_16.trans (by decide)
  refine lv_iconst (v := 4) hx hb dX3_append_93 (by decide) ?_
  refine lv_iload hx hb dX3_append_94 (lv_at hl 1 rfl) ?_
  refine kc_v (wr := [(h1, .inl (cB, 100, .inl zf)), (h2, .inr (2, [.ref h10, .ref h11, .int 0])), (h6, .inl (cI, 64, .inl zf)), (h10, .inl (cI, 300, .inl zf)), (h11, .inl (cI, 300, .inl zf)), (h4, .inl (cI, 64, .inl f_4)), (h5, .inl (cZ, 64, .inl zf)), (h0, .inr (3, [.ref h2, .ref h3, .ref h4, .ref h5, .ref h6, .ref h7, .ref h8, .ref h9, .int 1, .int 8, .int 10, .int 1, .int 2, g0])), (h7, .inl (cI, 64, .inl f_6)), (h8, .inl (cI, 64, .inl zf)), (h9, .inl (cI, 64, .inl f_7))]) (va_runS (As := [.ref h3, .int 8206, .int 4, .int 1]) (rest := []) ⟨hx, hb, hml, hown, hts⟩ (K63_X4_setNumber l D cB cI cZ _ h3 8206 1 f_15 (by decide) bf_15) (va_cwS 4 hts gX3_append_X4_setNumber rfl rfl rfl (by decide +kernel) ⟨Nat.le_of_ble_eq_true rfl, Nat.le_of_ble_eq_true rfl⟩) (pre_S (hP.sub [11] rfl) hK hN (hD.sub [11] (by decide) rfl)) rfl rfl hl.1 rfl (lv_room (Nat.le_of_ble_eq_true rfl)) dX3_append_96 ⟨Nat.le_of_ble_eq_true rfl, Nat.le_of_ble_eq_true rfl⟩) hP hD hS hA [11] [0, 1, 2, 3, 4, 5, 6, 7, 8, 9, 10] rfl rfl (by decide) (by decide) (fun  u H locs hw hP hD hS => ?_)
  obtain ⟨f_17, rfl⟩ : ∃ z, z = u := ⟨_, rfl⟩
  have bf_17 := hw
  have bf_17 : FB f_17 := bf_17
  have hP : va_P D vwCl [(h1, .inl (cB, 100, .inl zf)), (h2, .inr (2, [.ref h10, .ref h11, .int 0])), (h6, .inl (cI, 64, .inl zf)), (h10, .inl (cI, 300, .inl zf)), (h11, .inl (cI, 300, .inl zf)), (h4, .inl (cI, 64, .inl f_4)), (h5, .inl (cZ, 64, .inl zf)), (h0, .inr (3, [.ref h2, .ref h3, .ref h4, .ref h5, .ref h6, .ref h7, .ref h8, .ref h9, .int 1, .int 8, .int 10, .int 1, .int 2, g0])), (h7, .inl (cI, 64, .inl f_6)), (h8, .inl (cI, 64, .inl zf)), (h9, .inl (cI, 64, .inl f_7)), (h3, .inl (cB, 65536, .inl f_17))] H := hP
  have hD : va_D A [(h1, .inl (cB, 100, .inl zf)), (h2, .inr (2, [.ref h10, .ref h11, .int 0])), (h6, .inl (cI, 64, .inl zf)), (h10, .inl (cI, 300, .inl zf)), (h11, .inl (cI, 300, .inl zf)), (h4, .inl (cI, 64, .inl f_4)), (h5, .inl (cZ, 64, .inl zf)), (h0, .inr (3, [.ref h2, .ref h3, .ref h4, .ref h5, .ref h6, .ref h7, .ref h8, .ref h9, .int 1, .int 8, .int 10, .int 1, .int 2, g0])), (h7, .inl (cI, 64, .inl f_6)), (h8, .inl (cI, 64, .inl zf)), (h9, .inl (cI, 64, .inl f_7)), (h3, .inl (cB, 65536, .inl f_17))] := hD
  refine lv_aload_n hx hb dX3_append_99 rfl (lv_at hl 2 rfl) ?_
  refine va_get (D := D) (ci := 3) (v := .ref h3) (C := RX3) (T := TX3) (N := 14) hx hb hts inX3_append_X3 hown hK hP 7 rfl rfl 1 (by decide) (hts _ wdX3_append_3) (fun _ h9 => h9) rfl dX3_append_100 ?_
  refine lv_iload hx hb dX3_append_103 (lv_at hl 0 rfl) ?_
  refine lv_bipush (v := 8) hx hb dX3_append_105 (by decide) ?_
  refine lv_iadd hx hb dX3_append_107 ?_
  refine lv_topi (fun z_18 ez_18 => ?_)
  obtain rfl : z_18 = 8210 := ez_18.trans (by decide)
  refine lv_iconst (v := 4) hx hb dX3_append_108 (by decide) ?_
  refine lv_iload_n hx hb dX3_append_109 rfl (lv_at hl 5 rfl) ?_
  refine kc_v (wr := [(h1, .inl (cB, 100, .inl zf)), (h2, .inr (2, [.ref h10, .ref h11, .int 0])), (h6, .inl (cI, 64, .inl zf)), (h10, .inl (cI, 300, .inl zf)), (h11, .inl (cI, 300, .inl zf)), (h4, .inl (cI, 64, .inl f_4)), (h5, .inl (cZ, 64, .inl zf)), (h0, .inr (3, [.ref h2, .ref h3, .ref h4, .ref h5, .ref h6, .ref h7, .ref h8, .ref h9, .int 1, .int 8, .int 10, .int 1, .int 2, g0])), (h7, .inl (cI, 64, .inl f_6)), (h8, .inl (cI, 64, .inl zf)), (h9, .inl (cI, 64, .inl f_7))]) (va_runS (As := [.ref h3, .int 8210, .int 4, .int 0]) (rest := []) ⟨hx, hb, hml, hown, hts⟩ (K63_X4_setNumber l D cB cI cZ _ h3 8210 0 f_17 (by decide) bf_17) (va_cwS 4 hts gX3_append_X4_setNumber rfl rfl rfl (by decide +kernel) ⟨Nat.le_of_ble_eq_true rfl, Nat.le_of_ble_eq_true rfl⟩) (pre_S (hP.sub [11] rfl) hK hN (hD.sub [11] (by decide) rfl)) rfl rfl hl.1 rfl (lv_room (Nat.le_of_ble_eq_true rfl)) dX3_append_110 ⟨Nat.le_of_ble_eq_true rfl, Nat.le_of_ble_eq_true rfl⟩) hP hD hS hA [11] [0, 1, 2, 3, 4, 5, 6, 7, 8, 9, 10] rfl rfl (by decide) (by decide) (fun  u H locs hw hP hD hS => ?_)
  obtain ⟨f_19, rfl⟩ : ∃ z, z = u := ⟨_, rfl⟩
  have bf_19 := hw
  have bf_19 : FB f_19 := bf_19
  have hP : va_P D vwCl [(h1, .inl (cB, 100, .inl zf)), (h2, .inr (2, [.ref h10, .ref h11, .int 0])), (h6, .inl (cI, 64, .inl zf)), (h10, .inl (cI, 300, .inl zf)), (h11, .inl (cI, 300, .inl zf)), (h4, .inl (cI, 64, .inl f_4)), (h5, .inl (cZ, 64, .inl zf)), (h0, .inr (3, [.ref h2, .ref h3, .ref h4, .ref h5, .ref h6, .ref h7, .ref h8, .ref h9, .int 1, .int 8, .int 10, .int 1, .int 2, g0])), (h7, .inl (cI, 64, .inl f_6)), (h8, .inl (cI, 64, .inl zf)), (h9, .inl (cI, 64, .inl f_7)), (h3, .inl (cB, 65536, .inl f_19))] H := hP
  have hD : va_D A [(h1, .inl (cB, 100, .inl zf)), (h2, .inr (2, [.ref h10, .ref h11, .int 0])), (h6, .inl (cI, 64, .inl zf)), (h10, .inl (cI, 300, .inl zf)), (h11, .inl (cI, 300, .inl zf)), (h4, .inl (cI, 64, .inl f_4)), (h5, .inl (cZ, 64, .inl zf)), (h0, .inr (3, [.ref h2, .ref h3, .ref h4, .ref h5, .ref h6, .ref h7, .ref h8, .ref h9, .int 1, .int 8, .int 10, .int 1, .int 2, g0])), (h7, .inl (cI, 64, .inl f_6)), (h8, .inl (cI, 64, .inl zf)), (h9, .inl (cI, 64, .inl f_7)), (h3, .inl (cB, 65536, .inl f_19))] := hD
  refine lv_aload hx hb dX3_append_113 (lv_at hl 6 rfl) ?_
  refine lv_iload hx hb dX3_append_115 (lv_at hl 7 rfl) ?_
  refine lv_aload_n hx hb dX3_append_117 rfl (lv_at hl 2 rfl) ?_
  refine va_get (D := D) (ci := 3) (v := .ref h3) (C := RX3) (T := TX3) (N := 14) hx hb hts inX3_append_X3 hown hK hP 7 rfl rfl 1 (by decide) (hts _ wdX3_append_3) (fun _ h9 => h9) rfl dX3_append_118 ?_
  refine lv_iload hx hb dX3_append_121 (lv_at hl 0 rfl) ?_
  refine lv_bipush (v := 12) hx hb dX3_append_123 (by decide) ?_
  refine lv_iadd hx hb dX3_append_125 ?_
  refine lv_topi (fun z_20 ez_20 => ?_)
  obtain rfl : z_20 = 8214 := ez_20.trans (by decide)
  refine lv_iload hx hb dX3_append_126 (lv_at hl 8 rfl) ?_
  refine kc_v (wr := [(h2, .inr (2, [.ref h10, .ref h11, .int 0])), (h6, .inl (cI, 64, .inl zf)), (h10, .inl (cI, 300, .inl zf)), (h11, .inl (cI, 300, .inl zf)), (h4, .inl (cI, 64, .inl f_4)), (h5, .inl (cZ, 64, .inl zf)), (h0, .inr (3, [.ref h2, .ref h3, .ref h4, .ref h5, .ref h6, .ref h7, .ref h8, .ref h9, .int 1, .int 8, .int 10, .int 1, .int 2, g0])), (h7, .inl (cI, 64, .inl f_6)), (h8, .inl (cI, 64, .inl zf)), (h9, .inl (cI, 64, .inl f_7))]) (va_runS (As := [.ref h1, .int 0, .ref h3, .int 8214, .int 0]) (rest := []) ⟨hx, hb, hml, hown, hts⟩ (K72_X4_copy l D cB cI cZ _ h1 h3 f_19 bf_19) (va_cwS 5 hts gX3_append_X4_copy rfl rfl rfl (by decide +kernel) ⟨Nat.le_of_ble_eq_true rfl, Nat.le_of_ble_eq_true rfl⟩) (pre_S (hP.sub [0, 11] rfl) hK hN (hD.sub [0, 11] (by decide) rfl)) rfl rfl hl.1 rfl (lv_room (Nat.le_of_ble_eq_true rfl)) dX3_append_128 ⟨Nat.le_of_ble_eq_true rfl, Nat.le_of_ble_eq_true rfl⟩) hP hD hS hA [0, 11] [1, 2, 3, 4, 5, 6, 7, 8, 9, 10] rfl rfl (by decide) (by decide) (fun  u H locs hw hP hD hS => ?_)
  obtain ⟨f_21, rfl⟩ : ∃ z, z = u := ⟨_, rfl⟩
  have bf_21 := hw
  have bf_21 : FB f_21 := bf_21
  have hP : va_P D vwCl [(h2, .inr (2, [.ref h10, .ref h11, .int 0])), (h6, .inl (cI, 64, .inl zf)), (h10, .inl (cI, 300, .inl zf)), (h11, .inl (cI, 300, .inl zf)), (h4, .inl (cI, 64, .inl f_4)), (h5, .inl (cZ, 64, .inl zf)), (h0, .inr (3, [.ref h2, .ref h3, .ref h4, .ref h5, .ref h6, .ref h7, .ref h8, .ref h9, .int 1, .int 8, .int 10, .int 1, .int 2, g0])), (h7, .inl (cI, 64, .inl f_6)), (h8, .inl (cI, 64, .inl zf)), (h9, .inl (cI, 64, .inl f_7)), (h1, .inl (cB, 100, .inl zf)), (h3, .inl (cB, 65536, .inl f_21))] H := hP
  have hD : va_D A [(h2, .inr (2, [.ref h10, .ref h11, .int 0])), (h6, .inl (cI, 64, .inl zf)), (h10, .inl (cI, 300, .inl zf)), (h11, .inl (cI, 300, .inl zf)), (h4, .inl (cI, 64, .inl f_4)), (h5, .inl (cZ, 64, .inl zf)), (h0, .inr (3, [.ref h2, .ref h3, .ref h4, .ref h5, .ref h6, .ref h7, .ref h8, .ref h9, .int 1, .int 8, .int 10, .int 1, .int 2, g0])), (h7, .inl (cI, 64, .inl f_6)), (h8, .inl (cI, 64, .inl zf)), (h9, .inl (cI, 64, .inl f_7)), (h1, .inl (cB, 100, .inl zf)), (h3, .inl (cB, 65536, .inl f_21))] := hD
  refine lv_aload_n hx hb dX3_append_131 rfl (lv_at hl 2 rfl) ?_
  refine va_get (D := D) (ci := 3) (v := .ref h3) (C := RX3) (T := TX3) (N := 14) hx hb hts inX3_append_X3 hown hK hP 6 rfl rfl 1 (by decide) (hts _ wdX3_append_3) (fun _ h9 => h9) rfl dX3_append_132 ?_
  refine lv_iload hx hb dX3_append_135 (lv_at hl 0 rfl) ?_
  refine lv_bipush (v := 12) hx hb dX3_append_137 (by decide) ?_
  refine lv_iload hx hb dX3_append_139 (lv_at hl 8 rfl) ?_
  refine lv_iadd hx hb dX3_append_141 ?_
  refine lv_topi (fun z_22 ez_22 => ?_)
  obtain rfl : z_22 = 12 := ez_22.trans (by decide)
  refine kc_v (wr := [(h2, .inr (2, [.ref h10, .ref h11, .int 0])), (h6, .inl (cI, 64, .inl zf)), (h10, .inl (cI, 300, .inl zf)), (h11, .inl (cI, 300, .inl zf)), (h4, .inl (cI, 64, .inl f_4)), (h5, .inl (cZ, 64, .inl zf)), (h0, .inr (3, [.ref h2, .ref h3, .ref h4, .ref h5, .ref h6, .ref h7, .ref h8, .ref h9, .int 1, .int 8, .int 10, .int 1, .int 2, g0])), (h7, .inl (cI, 64, .inl f_6)), (h8, .inl (cI, 64, .inl zf)), (h9, .inl (cI, 64, .inl f_7)), (h1, .inl (cB, 100, .inl zf))]) (va_runS (As := [.ref h3, .int 8202, .int 12]) (rest := []) ⟨hx, hb, hml, hown, hts⟩ (K75_X4_setSum l D cB cI cZ _ h3 f_21 bf_21) (va_cwS 3 hts gX3_append_X4_setSum rfl rfl rfl (by decide +kernel) ⟨Nat.le_of_ble_eq_true rfl, Nat.le_of_ble_eq_true rfl⟩) (pre_S (hP.sub [11] rfl) hK hN (hD.sub [11] (by decide) rfl)) rfl rfl hl.1 rfl (lv_room (Nat.le_of_ble_eq_true rfl)) dX3_append_142 ⟨Nat.le_of_ble_eq_true rfl, Nat.le_of_ble_eq_true rfl⟩) hP hD hS hA [11] [0, 1, 2, 3, 4, 5, 6, 7, 8, 9, 10] rfl rfl (by decide) (by decide) (fun  u H locs hw hP hD hS => ?_)
  obtain ⟨f_23, rfl⟩ : ∃ z, z = u := ⟨_, rfl⟩
  have bf_23 := hw
  have bf_23 : FB f_23 := bf_23
  have hP : va_P D vwCl [(h2, .inr (2, [.ref h10, .ref h11, .int 0])), (h6, .inl (cI, 64, .inl zf)), (h10, .inl (cI, 300, .inl zf)), (h11, .inl (cI, 300, .inl zf)), (h4, .inl (cI, 64, .inl f_4)), (h5, .inl (cZ, 64, .inl zf)), (h0, .inr (3, [.ref h2, .ref h3, .ref h4, .ref h5, .ref h6, .ref h7, .ref h8, .ref h9, .int 1, .int 8, .int 10, .int 1, .int 2, g0])), (h7, .inl (cI, 64, .inl f_6)), (h8, .inl (cI, 64, .inl zf)), (h9, .inl (cI, 64, .inl f_7)), (h1, .inl (cB, 100, .inl zf)), (h3, .inl (cB, 65536, .inl f_23))] H := hP
  have hD : va_D A [(h2, .inr (2, [.ref h10, .ref h11, .int 0])), (h6, .inl (cI, 64, .inl zf)), (h10, .inl (cI, 300, .inl zf)), (h11, .inl (cI, 300, .inl zf)), (h4, .inl (cI, 64, .inl f_4)), (h5, .inl (cZ, 64, .inl zf)), (h0, .inr (3, [.ref h2, .ref h3, .ref h4, .ref h5, .ref h6, .ref h7, .ref h8, .ref h9, .int 1, .int 8, .int 10, .int 1, .int 2, g0])), (h7, .inl (cI, 64, .inl f_6)), (h8, .inl (cI, 64, .inl zf)), (h9, .inl (cI, 64, .inl f_7)), (h1, .inl (cB, 100, .inl zf)), (h3, .inl (cB, 65536, .inl f_23))] := hD
  refine lv_aload_n hx hb dX3_append_145 rfl (lv_at hl 2 rfl) ?_
  refine va_get (D := D) (ci := 3) (v := .ref h2) (C := RX3) (T := TX3) (N := 14) hx hb hts inX3_append_X3 hown hK hP 6 rfl rfl 0 (by decide) (hts _ wdX3_append_4) (fun _ h9 => h9) rfl dX3_append_146 ?_
  refine lv_iload_n hx hb dX3_append_149 rfl (lv_at hl 3 rfl) ?_
  refine lv_iload_n hx hb dX3_append_150 rfl (lv_at hl 4 rfl) ?_
  refine lv_aload_n hx hb dX3_append_151 rfl (lv_at hl 2 rfl) ?_
  refine va_get (D := D) (ci := 3) (v := .int 8) (C := RX3) (T := TX3) (N := 14) hx hb hts inX3_append_X3 hown hK hP 6 rfl rfl 9 (by decide) (hts _ wdX3_append_1) (fun _ h9 => h9) rfl dX3_append_152 ?_
  refine lv_aload_n hx hb dX3_append_155 rfl (lv_at hl 2 rfl) ?_
  refine va_get (D := D) (ci := 3) (v := .int 10) (C := RX3) (T := TX3) (N := 14) hx hb hts inX3_append_X3 hown hK hP 6 rfl rfl 10 (by decide) (hts _ wdX3_append_2) (fun _ h9 => h9) rfl dX3_append_156 ?_
  refine kc_v (wr := [(h6, .inl (cI, 64, .inl zf)), (h4, .inl (cI, 64, .inl f_4)), (h5, .inl (cZ, 64, .inl zf)), (h0, .inr (3, [.ref h2, .ref h3, .ref h4, .ref h5, .ref h6, .ref h7, .ref h8, .ref h9, .int 1, .int 8, .int 10, .int 1, .int 2, g0])), (h7, .inl (cI, 64, .inl f_6)), (h8, .inl (cI, 64, .inl zf)), (h9, .inl (cI, 64, .inl f_7)), (h1, .inl (cB, 100, .inl zf)), (h3, .inl (cB, 65536, .inl f_23))]) (va_runV (As := [.int 1, .int p0, .int 8, .int 10]) (rest := []) ⟨hx, hb, hml, hown, hts⟩ (K78_X2_follow l D cB cI cZ _ h2 h10 h11 p0 ⟨by omega, by omega⟩) (cwV 4 hts gX3_append_X2_follow rfl rfl rfl (by decide +kernel) ⟨Nat.le_of_ble_eq_true rfl, Nat.le_of_ble_eq_true rfl⟩) (pre_V (q := (RX2, TX2, 3)) (ci := 2) (q0 := 0) (hP.sub [0, 2, 3] rfl) hK hN (hD.sub [0, 2, 3] (by decide) rfl) rfl rfl) rfl rfl hl.1 rfl (lv_room (Nat.le_of_ble_eq_true rfl)) dX3_append_159 ⟨Nat.le_of_ble_eq_true rfl, Nat.le_of_ble_eq_true rfl⟩) hP hD hS hA [0, 2, 3] [1, 4, 5, 6, 7, 8, 9, 10, 11] rfl rfl (by decide) (by decide) (fun  u H locs hw hP hD hS => ?_)
  obtain ⟨x_24, f_25, f_26⟩ := u
  obtain ⟨k_27, k_28⟩ := hw
  have k_27 : 0 ≤ x_24.toInt := k_27
  have k_28 : x_24.toInt ≤ 1 := k_28
  have hP : va_P D vwCl [(h6, .inl (cI, 64, .inl zf)), (h4, .inl (cI, 64, .inl f_4)), (h5, .inl (cZ, 64, .inl zf)), (h0, .inr (3, [.ref h2, .ref h3, .ref h4, .ref h5, .ref h6, .ref h7, .ref h8, .ref h9, .int 1, .int 8, .int 10, .int 1, .int 2, g0])), (h7, .inl (cI, 64, .inl f_6)), (h8, .inl (cI, 64, .inl zf)), (h9, .inl (cI, 64, .inl f_7)), (h1, .inl (cB, 100, .inl zf)), (h3, .inl (cB, 65536, .inl f_23)), (h2, .inr (2, [.ref h10, .ref h11, .int x_24])), (h10, .inl (cI, 300, .inl f_25)), (h11, .inl (cI, 300, .inl f_26))] H := hP
  have hD : va_D A [(h6, .inl (cI, 64, .inl zf)), (h4, .inl (cI, 64, .inl f_4)), (h5, .inl (cZ, 64, .inl zf)), (h0, .inr (3, [.ref h2, .ref h3, .ref h4, .ref h5, .ref h6, .ref h7, .ref h8, .ref h9, .int 1, .int 8, .int 10, .int 1, .int 2, g0])), (h7, .inl (cI, 64, .inl f_6)), (h8, .inl (cI, 64, .inl zf)), (h9, .inl (cI, 64, .inl f_7)), (h1, .inl (cB, 100, .inl zf)), (h3, .inl (cB, 65536, .inl f_23)), (h2, .inr (2, [.ref h10, .ref h11, .int x_24])), (h10, .inl (cI, 300, .inl f_25)), (h11, .inl (cI, 300, .inl f_26))] := hD
  refine lv_aload_n hx hb dX3_append_162 rfl (lv_at hl 2 rfl) ?_
  refine lv_aload_n hx hb dX3_append_163 rfl (lv_at hl 2 rfl) ?_
  refine va_get (D := D) (ci := 3) (v := .int 8) (C := RX3) (T := TX3) (N := 14) hx hb hts inX3_append_X3 hown hK hP 3 rfl rfl 9 (by decide) (hts _ wdX3_append_1) (fun _ h9 => h9) rfl dX3_append_164 ?_
  refine lv_iload_n hx hb dX3_append_167 rfl (lv_at hl 5 rfl) ?_
  refine kc_v (wr := [(h4, .inl (cI, 64, .inl f_4)), (h7, .inl (cI, 64, .inl f_6)), (h8, .inl (cI, 64, .inl zf)), (h9, .inl (cI, 64, .inl f_7)), (h1, .inl (cB, 100, .inl zf)), (h3, .inl (cB, 65536, .inl f_23)), (h2, .inr (2, [.ref h10, .ref h11, .int x_24])), (h10, .inl (cI, 300, .inl f_25)), (h11, .inl (cI, 300, .inl f_26))]) (va_runV (As := [.int 8, .int 0]) (rest := []) ⟨hx, hb, hml, hown, hts⟩ (K79_X3_noteTime l D cB cI cZ _ h0 h5 h6 ((.ref h2)) ((.ref h3)) ((.ref h4)) ((.ref h7)) ((.ref h8)) ((.ref h9)) ((.int 1)) ((.int 8)) ((.int 10)) ((.int 1)) ((.int 2)) (g0)) (cwV 2 hts gX3_append_X3_noteTime rfl rfl rfl (by decide +kernel) ⟨Nat.le_of_ble_eq_true rfl, Nat.le_of_ble_eq_true rfl⟩) (pre_V (q := (RX3, TX3, 14)) (ci := 3) (q0 := 0) (hP.sub [3, 2, 0] rfl) hK hN (hD.sub [3, 2, 0] (by decide) rfl) rfl rfl) rfl rfl hl.1 rfl (lv_room (Nat.le_of_ble_eq_true rfl)) dX3_append_168 ⟨Nat.le_of_ble_eq_true rfl, Nat.le_of_ble_eq_true rfl⟩) hP hD hS hA [3, 2, 0] [1, 4, 5, 6, 7, 8, 9, 10, 11] rfl rfl (by decide) (by decide) (fun  u H locs hw hP hD hS => ?_)
  obtain ⟨f_29, rfl⟩ : ∃ z, z = u := ⟨_, rfl⟩
  have hP : va_P D vwCl [(h4, .inl (cI, 64, .inl f_4)), (h7, .inl (cI, 64, .inl f_6)), (h8, .inl (cI, 64, .inl zf)), (h9, .inl (cI, 64, .inl f_7)), (h1, .inl (cB, 100, .inl zf)), (h3, .inl (cB, 65536, .inl f_23)), (h2, .inr (2, [.ref h10, .ref h11, .int x_24])), (h10, .inl (cI, 300, .inl f_25)), (h11, .inl (cI, 300, .inl f_26)), (h0, .inr (3, [.ref h2, .ref h3, .ref h4, .ref h5, .ref h6, .ref h7, .ref h8, .ref h9, .int 1, .int 8, .int 10, .int 1, .int 2, g0])), (h5, .inl (cZ, 64, .inl f_29)), (h6, .inl (cI, 64, .inl zf))] H := hP
  have hD : va_D A [(h4, .inl (cI, 64, .inl f_4)), (h7, .inl (cI, 64, .inl f_6)), (h8, .inl (cI, 64, .inl zf)), (h9, .inl (cI, 64, .inl f_7)), (h1, .inl (cB, 100, .inl zf)), (h3, .inl (cB, 65536, .inl f_23)), (h2, .inr (2, [.ref h10, .ref h11, .int x_24])), (h10, .inl (cI, 300, .inl f_25)), (h11, .inl (cI, 300, .inl f_26)), (h0, .inr (3, [.ref h2, .ref h3, .ref h4, .ref h5, .ref h6, .ref h7, .ref h8, .ref h9, .int 1, .int 8, .int 10, .int 1, .int 2, g0])), (h5, .inl (cZ, 64, .inl f_29)), (h6, .inl (cI, 64, .inl zf))] := hD
  refine lv_aload_n hx hb dX3_append_171 rfl (lv_at hl 2 rfl) ?_
  refine lv_bipush (v := 16) hx hb dX3_append_172 (by decide) ?_
  refine lv_iload hx hb dX3_append_174 (lv_at hl 8 rfl) ?_
  refine lv_iadd hx hb dX3_append_176 ?_
  refine lv_topi (fun z_30 ez_30 => ?_)
  obtain rfl : z_30 = 16 := ez_30.trans (by decide)
  refine kc_v (wr := [(h4, .inl (cI, 64, .inl f_4)), (h1, .inl (cB, 100, .inl zf)), (h3, .inl (cB, 65536, .inl f_23)), (h2, .inr (2, [.ref h10, .ref h11, .int x_24])), (h10, .inl (cI, 300, .inl f_25)), (h11, .inl (cI, 300, .inl f_26)), (h5, .inl (cZ, 64, .inl f_29)), (h6, .inl (cI, 64, .inl zf))]) (va_runV (As := [.int 16]) (rest := []) ⟨hx, hb, hml, hown, hts⟩ (K80_X3_noteFresh l D cB cI cZ _ h0 h7 h8 h9 ((.ref h2)) ((.ref h3)) ((.ref h4)) ((.ref h5)) ((.ref h6)) ((.int 1)) ((.int 2)) (g0) f_6 f_7) (cwV 1 hts gX3_append_X3_noteFresh rfl rfl rfl (by decide +kernel) ⟨Nat.le_of_ble_eq_true rfl, Nat.le_of_ble_eq_true rfl⟩) (pre_V (q := (RX3, TX3, 14)) (ci := 3) (q0 := 0) (hP.sub [9, 1, 2, 3] rfl) hK hN (hD.sub [9, 1, 2, 3] (by decide) rfl) rfl rfl) rfl rfl hl.1 rfl (lv_room (Nat.le_of_ble_eq_true rfl)) dX3_append_177 ⟨Nat.le_of_ble_eq_true rfl, Nat.le_of_ble_eq_true rfl⟩) hP hD hS hA [9, 1, 2, 3] [0, 4, 5, 6, 7, 8, 10, 11] rfl rfl (by decide) (by decide) (fun  u H locs hw hP hD hS => ?_)
  obtain ⟨x_31, f_32, f_33, f_34⟩ := u
  obtain ⟨k_35, k_36⟩ := hw
  have k_35 : 1 ≤ x_31.toInt := k_35
  have k_36 : x_31.toInt ≤ 2 := k_36
  have hP : va_P D vwCl [(h4, .inl (cI, 64, .inl f_4)), (h1, .inl (cB, 100, .inl zf)), (h3, .inl (cB, 65536, .inl f_23)), (h2, .inr (2, [.ref h10, .ref h11, .int x_24])), (h10, .inl (cI, 300, .inl f_25)), (h11, .inl (cI, 300, .inl f_26)), (h5, .inl (cZ, 64, .inl f_29)), (h6, .inl (cI, 64, .inl zf)), (h0, .inr (3, [.ref h2, .ref h3, .ref h4, .ref h5, .ref h6, .ref h7, .ref h8, .ref h9, .int x_31, .int 8, .int 26, .int 1, .int 2, g0])), (h7, .inl (cI, 64, .inl f_32)), (h8, .inl (cI, 64, .inl f_33)), (h9, .inl (cI, 64, .inl f_34))] H := hP
  have hD : va_D A [(h4, .inl (cI, 64, .inl f_4)), (h1, .inl (cB, 100, .inl zf)), (h3, .inl (cB, 65536, .inl f_23)), (h2, .inr (2, [.ref h10, .ref h11, .int x_24])), (h10, .inl (cI, 300, .inl f_25)), (h11, .inl (cI, 300, .inl f_26)), (h5, .inl (cZ, 64, .inl f_29)), (h6, .inl (cI, 64, .inl zf)), (h0, .inr (3, [.ref h2, .ref h3, .ref h4, .ref h5, .ref h6, .ref h7, .ref h8, .ref h9, .int x_31, .int 8, .int 26, .int 1, .int 2, g0])), (h7, .inl (cI, 64, .inl f_32)), (h8, .inl (cI, 64, .inl f_33)), (h9, .inl (cI, 64, .inl f_34))] := hD
  refine lv_iload hx hb dX3_append_180 (lv_at hl 1 rfl) ?_
  exact kr_i (f_4, f_23, x_24, f_25, f_26, f_29, x_31, f_32, f_33, f_34) hx hb hr hlocks hP hD hS ⟨rfl, bf_23, (by show 0 ≤ Int32.toInt x_24; omega), (by show Int32.toInt x_24 ≤ 1; omega), (by show 1 ≤ Int32.toInt x_31; omega), (by show Int32.toInt x_31 ≤ 2; omega)⟩ dX3_append_182
set_option maxHeartbeats 4000000 in
set_option maxRecDepth 100000 in
theorem K46_X7_put (l : Launch) (D : va_G) (cB cI cZ : ClassId) (sz : Nat) (h0 : Nat) (h1 : Nat) (h2 : Nat) (h3 : Nat) (h4 : Nat) (h5 : Nat) (h6 : Nat) (h7 : Nat) (h8 : Nat) (h9 : Nat) (h10 : Nat) (h11 : Nat) (h12 : Nat)  (p0 : Int32) (g0 : Value) (g1 : Value) (g2 : Value) (g3 : Value) (g4 : Value) (i_p0 : 0 ≤ p0.toInt ∧ p0.toInt ≤ 299) :
    CtI l D cB cI cZ yX7_put wsX7_put { frames := 5, cells := 0, slots := 0, locals := 119 } [.ref h0, .int p0] [(h0, .inr (6, [g0, g1, .ref h1, g2, g3, g4, .ref h2, .int 0, .int 0])), (h1, .inr (3, [.ref h3, .ref h4, .ref h5, .ref h6, .ref h7, .ref h8, .ref h9, .ref h10, .int 0, .int 0, .int 0, .int 0, .int 1, .int 0])), (h2, .inl (cB, 100, .inl zf)), (h3, .inr (2, [.ref h11, .ref h12, .int 0])), (h4, .inl (cB, 65536, .inl zf)), (h5, .inl (cI, 64, .inl zf)), (h6, .inl (cZ, 64, .inl zf)), (h7, .inl (cI, 64, .inl zf)), (h8, .inl (cI, 64, .inl zf)), (h9, .inl (cI, 64, .inl zf)), (h10, .inl (cI, 64, .inl zf)), (h11, .inl (cI, 300, .inl zf)), (h12, .inl (cI, 300, .inl zf))] sz 0 0
      (fun (r : Int32) (u : Unit) => r = 1)
      (fun u => []) := by
  refine mk_metI (cc := cX7_put) (maxL := 3) (ret := (some .int)) (by decide) rfl (Nat.le_of_ble_eq_true rfl) ?_
  intro p e s m below meth c A hx hb hr hml hts hown hlocks hin hP hK hN hD hA hS ls hl
  have hown : s.vm.findClass RX7 = some m.cls := hown
  have hl : lv_has ls 3 [(0, .ref h0), (1, .int p0)] := hl
  refine lv_aload_n hx hb dX7_put_0 rfl (lv_at hl 0 rfl) ?_
  refine va_get (D := D) (ci := 6) (v := .int 0) (C := RX7) (T := TX7) (N := 9) hx hb hts inX7_put_X7 hown hK hP 0 rfl rfl 8 (by decide) (hts _ wdX7_put_0) (fun _ h9 => h9) rfl dX7_put_1 ?_
  refine lv_if_eq (tgt := 10) hx hb dX7_put_4 (by decide) (fun c => ?_) (fun c => absurd (by decide) c)
  refine lv_iload_n hx hb dX7_put_10 rfl (lv_at hl 1 rfl) ?_
  refine kc_i (wr := [(h0, .inr (6, [g0, g1, .ref h1, g2, g3, g4, .ref h2, .int 0, .int 0])), (h1, .inr (3, [.ref h3, .ref h4, .ref h5, .ref h6, .ref h7, .ref h8, .ref h9, .ref h10, .int 0, .int 0, .int 0, .int 0, .int 1, .int 0])), (h2, .inl (cB, 100, .inl zf)), (h3, .inr (2, [.ref h11, .ref h12, .int 0])), (h4, .inl (cB, 65536, .inl zf)), (h5, .inl (cI, 64, .inl zf)), (h6, .inl (cZ, 64, .inl zf)), (h7, .inl (cI, 64, .inl zf)), (h8, .inl (cI, 64, .inl zf)), (h9, .inl (cI, 64, .inl zf)), (h10, .inl (cI, 64, .inl zf)), (h11, .inl (cI, 300, .inl zf)), (h12, .inl (cI, 300, .inl zf))]) (va_runS (As := [.int p0]) (rest := []) ⟨hx, hb, hml, hown, hts⟩ (K47_X7_isKey l D cB cI cZ _ p0 ⟨by omega, by omega⟩) (va_cwS 1 hts gX7_put_X7_isKey rfl rfl rfl (by decide +kernel) ⟨Nat.le_of_ble_eq_true rfl, Nat.le_of_ble_eq_true rfl⟩) (pre_S (hP.sub [] rfl) hK hN (hD.sub [] (by decide) rfl)) rfl rfl hl.1 rfl (lv_room (Nat.le_of_ble_eq_true rfl)) dX7_put_11 ⟨Nat.le_of_ble_eq_true rfl, Nat.le_of_ble_eq_true rfl⟩) hP hD hS hA [] [0, 1, 2, 3, 4, 5, 6, 7, 8, 9, 10, 11, 12] rfl rfl (by decide) (by decide) (fun r_1 u H locs hw hP hD hS => ?_)
  have k_2 := hw
  obtain rfl : r_1 = 1 := k_2
  have hP : va_P D vwCl [(h0, .inr (6, [g0, g1, .ref h1, g2, g3, g4, .ref h2, .int 0, .int 0])), (h1, .inr (3, [.ref h3, .ref h4, .ref h5, .ref h6, .ref h7, .ref h8, .ref h9, .ref h10, .int 0, .int 0, .int 0, .int 0, .int 1, .int 0])), (h2, .inl (cB, 100, .inl zf)), (h3, .inr (2, [.ref h11, .ref h12, .int 0])), (h4, .inl (cB, 65536, .inl zf)), (h5, .inl (cI, 64, .inl zf)), (h6, .inl (cZ, 64, .inl zf)), (h7, .inl (cI, 64, .inl zf)), (h8, .inl (cI, 64, .inl zf)), (h9, .inl (cI, 64, .inl zf)), (h10, .inl (cI, 64, .inl zf)), (h11, .inl (cI, 300, .inl zf)), (h12, .inl (cI, 300, .inl zf))] H := hP
  have hD : va_D A [(h0, .inr (6, [g0, g1, .ref h1, g2, g3, g4, .ref h2, .int 0, .int 0])), (h1, .inr (3, [.ref h3, .ref h4, .ref h5, .ref h6, .ref h7, .ref h8, .ref h9, .ref h10, .int 0, .int 0, .int 0, .int 0, .int 1, .int 0])), (h2, .inl (cB, 100, .inl zf)), (h3, .inr (2, [.ref h11, .ref h12, .int 0])), (h4, .inl (cB, 65536, .inl zf)), (h5, .inl (cI, 64, .inl zf)), (h6, .inl (cZ, 64, .inl zf)), (h7, .inl (cI, 64, .inl zf)), (h8, .inl (cI, 64, .inl zf)), (h9, .inl (cI, 64, .inl zf)), (h10, .inl (cI, 64, .inl zf)), (h11, .inl (cI, 300, .inl zf)), (h12, .inl (cI, 300, .inl zf))] := hD
  refine lv_if_ne (tgt := 20) hx hb dX7_put_14 (by decide) (fun c => ?_) (fun c => absurd c (by decide))
  refine lv_aload_n hx hb dX7_put_20 rfl (lv_at hl 0 rfl) ?_
  refine va_get (D := D) (ci := 6) (v := .ref h1) (C := RX7) (T := TX7) (N := 9) hx hb hts inX7_put_X7 hown hK hP 0 rfl rfl 2 (by decide) (hts _ wdX7_put_1) (fun _ h9 => h9) rfl dX7_put_21 ?_
  refine lv_bipush (v := 16) hx hb dX7_put_24 (by decide) ?_
  refine lv_aload_n hx hb dX7_put_26 rfl (lv_at hl 0 rfl) ?_
  refine va_get (D := D) (ci := 6) (v := .int 0) (C := RX7) (T := TX7) (N := 9) hx hb hts inX7_put_X7 hown hK hP 0 rfl rfl 7 (by decide) (hts _ wdX7_put_2) (fun _ h9 => h9) rfl dX7_put_27 ?_
  refine lv_iadd hx hb dX7_put_30 ?_
  refine lv_topi (fun z_3 ez_3 => ?_)
  obtain rfl : z_3 = 16 := ez_3.trans (by decide)
  refine kc_i (wr := [(h0, .inr (6, [g0, g1, .ref h1, g2, g3, g4, .ref h2, .int 0, .int 0])), (h2, .inl (cB, 100, .inl zf)), (h3, .inr (2, [.ref h11, .ref h12, .int 0])), (h4, .inl (cB, 65536, .inl zf)), (h6, .inl (cZ, 64, .inl zf)), (h7, .inl (cI, 64, .inl zf)), (h8, .inl (cI, 64, .inl zf)), (h9, .inl (cI, 64, .inl zf)), (h10, .inl (cI, 64, .inl zf)), (h11, .inl (cI, 300, .inl zf)), (h12, .inl (cI, 300, .inl zf))]) (va_runV (As := [.int 16]) (rest := []) ⟨hx, hb, hml, hown, hts⟩ (K48_X3_hasRoomFor l D cB cI cZ _ h1 h5 ((.ref h3)) ((.ref h4)) ((.ref h6)) ((.ref h7)) ((.ref h8)) ((.ref h9)) ((.ref h10)) ((.int 0)) ((.int 0)) ((.int 0)) ((.int 1)) ((.int 0))) (cwV 1 hts gX7_put_X3_hasRoomFor rfl rfl rfl (by decide +kernel) ⟨Nat.le_of_ble_eq_true rfl, Nat.le_of_ble_eq_true rfl⟩) (pre_V (q := (RX3, TX3, 14)) (ci := 3) (q0 := 0) (hP.sub [1, 5] rfl) hK hN (hD.sub [1, 5] (by decide) rfl) rfl rfl) rfl rfl hl.1 rfl (lv_room (Nat.le_of_ble_eq_true rfl)) dX7_put_31 ⟨Nat.le_of_ble_eq_true rfl, Nat.le_of_ble_eq_true rfl⟩) hP hD hS hA [1, 5] [0, 2, 3, 4, 6, 7, 8, 9, 10, 11, 12] rfl rfl (by decide) (by decide) (fun r_4 u H locs hw hP hD hS => ?_)
  have k_5 := hw
  obtain rfl : r_4 = 1 := k_5
  have hP : va_P D vwCl [(h0, .inr (6, [g0, g1, .ref h1, g2, g3, g4, .ref h2, .int 0, .int 0])), (h2, .inl (cB, 100, .inl zf)), (h3, .inr (2, [.ref h11, .ref h12, .int 0])), (h4, .inl (cB, 65536, .inl zf)), (h6, .inl (cZ, 64, .inl zf)), (h7, .inl (cI, 64, .inl zf)), (h8, .inl (cI, 64, .inl zf)), (h9, .inl (cI, 64, .inl zf)), (h10, .inl (cI, 64, .inl zf)), (h11, .inl (cI, 300, .inl zf)), (h12, .inl (cI, 300, .inl zf)), (h1, .inr (3, [.ref h3, .ref h4, .ref h5, .ref h6, .ref h7, .ref h8, .ref h9, .ref h10, .int 0, .int 0, .int 0, .int 0, .int 1, .int 0])), (h5, .inl (cI, 64, .inl zf))] H := hP
  have hD : va_D A [(h0, .inr (6, [g0, g1, .ref h1, g2, g3, g4, .ref h2, .int 0, .int 0])), (h2, .inl (cB, 100, .inl zf)), (h3, .inr (2, [.ref h11, .ref h12, .int 0])), (h4, .inl (cB, 65536, .inl zf)), (h6, .inl (cZ, 64, .inl zf)), (h7, .inl (cI, 64, .inl zf)), (h8, .inl (cI, 64, .inl zf)), (h9, .inl (cI, 64, .inl zf)), (h10, .inl (cI, 64, .inl zf)), (h11, .inl (cI, 300, .inl zf)), (h12, .inl (cI, 300, .inl zf)), (h1, .inr (3, [.ref h3, .ref h4, .ref h5, .ref h6, .ref h7, .ref h8, .ref h9, .ref h10, .int 0, .int 0, .int 0, .int 0, .int 1, .int 0])), (h5, .inl (cI, 64, .inl zf))] := hD
  refine lv_if_ne (tgt := 40) hx hb dX7_put_34 (by decide) (fun c => ?_) (fun c => absurd c (by decide))
  refine lv_aload_n hx hb dX7_put_40 rfl (lv_at hl 0 rfl) ?_
  refine va_get (D := D) (ci := 6) (v := .ref h1) (C := RX7) (T := TX7) (N := 9) hx hb hts inX7_put_X7 hown hK hP 0 rfl rfl 2 (by decide) (hts _ wdX7_put_1) (fun _ h9 => h9) rfl dX7_put_41 ?_
  refine lv_iconst (v := 1) hx hb dX7_put_44 (by decide) ?_
  refine lv_iload_n hx hb dX7_put_45 rfl (lv_at hl 1 rfl) ?_
  refine lv_aload_n hx hb dX7_put_46 rfl (lv_at hl 0 rfl) ?_
  refine va_get (D := D) (ci := 6) (v := .ref h1) (C := RX7) (T := TX7) (N := 9) hx hb hts inX7_put_X7 hown hK hP 0 rfl rfl 2 (by decide) (hts _ wdX7_put_1) (fun _ h9 => h9) rfl dX7_put_47 ?_
  refine va_getN (D := D) (ci := 3) (v := .int 0) (C := RX3) (T := TX3) (N := 14) hx hb hts inX7_put_X3 hown hK hP 11 rfl rfl 13 (by decide) (hN.f (a := "AgedLog") (i := 78) (b := "AgedLog$Log") (n := "clock") (d := "I") (by decide +kernel)) (fun _ h9 => h9) rfl dX7_put_50 ?_
  refine lv_aload_n hx hb dX7_put_53 rfl (lv_at hl 0 rfl) ?_
  refine va_get (D := D) (ci := 6) (v := .ref h2) (C := RX7) (T := TX7) (N := 9) hx hb hts inX7_put_X7 hown hK hP 0 rfl rfl 6 (by decide) (hts _ wdX7_put_3) (fun _ h9 => h9) rfl dX7_put_54 ?_
  refine lv_iconst (v := 0) hx hb dX7_put_57 (by decide) ?_
  refine lv_aload_n hx hb dX7_put_58 rfl (lv_at hl 0 rfl) ?_
  refine va_get (D := D) (ci := 6) (v := .int 0) (C := RX7) (T := TX7) (N := 9) hx hb hts inX7_put_X7 hown hK hP 0 rfl rfl 7 (by decide) (hts _ wdX7_put_2) (fun _ h9 => h9) rfl dX7_put_59 ?_
  refine kc_i (wr := [(h0, .inr (6, [g0, g1, .ref h1, g2, g3, g4, .ref h2, .int 0, .int 0]))]) (va_runV (As := [.int 1, .int p0, .int 0, .ref h2, .int 0, .int 0]) (rest := []) ⟨hx, hb, hml, hown, hts⟩ (K51_X3_append l D cB cI cZ _ h1 h2 h3 h4 h5 h6 h7 h8 h9 h10 h11 h12 p0 ((.int 0)) ⟨by omega, by omega⟩) (cwV 6 hts gX7_put_X3_append rfl rfl rfl (by decide +kernel) ⟨Nat.le_of_ble_eq_true rfl, Nat.le_of_ble_eq_true rfl⟩) (pre_V (q := (RX3, TX3, 14)) (ci := 3) (q0 := 0) (hP.sub [11, 1, 2, 3, 12, 4, 5, 6, 7, 8, 9, 10] rfl) hK hN (hD.sub [11, 1, 2, 3, 12, 4, 5, 6, 7, 8, 9, 10] (by decide) rfl) rfl rfl) rfl rfl hl.1 rfl (lv_room (Nat.le_of_ble_eq_true rfl)) dX7_put_62 ⟨Nat.le_of_ble_eq_true rfl, Nat.le_of_ble_eq_true rfl⟩) hP hD hS hA [11, 1, 2, 3, 12, 4, 5, 6, 7, 8, 9, 10] [0] rfl rfl (by decide) (by decide) (fun r_6 u H locs hw hP hD hS => ?_)
  obtain ⟨f_7, f_8, x_9, f_10, f_11, f_12, x_13, f_14, f_15, f_16⟩ := u
  obtain ⟨k_17, bf_8, k_18, k_19, k_20, k_21⟩ := hw
  obtain rfl : r_6 = 1 := k_17
  have bf_8 : FB f_8 := bf_8
  have k_18 : 0 ≤ x_9.toInt := k_18
  have k_19 : x_9.toInt ≤ 1 := k_19
  have k_20 : 1 ≤ x_13.toInt := k_20
  have k_21 : x_13.toInt ≤ 2 := k_21
  have hP : va_P D vwCl [(h0, .inr (6, [g0, g1, .ref h1, g2, g3, g4, .ref h2, .int 0, .int 0])), (h5, .inl (cI, 64, .inl f_7)), (h2, .inl (cB, 100, .inl zf)), (h4, .inl (cB, 65536, .inl f_8)), (h3, .inr (2, [.ref h11, .ref h12, .int x_9])), (h11, .inl (cI, 300, .inl f_10)), (h12, .inl (cI, 300, .inl f_11)), (h6, .inl (cZ, 64, .inl f_12)), (h7, .inl (cI, 64, .inl zf)), (h1, .inr (3, [.ref h3, .ref h4, .ref h5, .ref h6, .ref h7, .ref h8, .ref h9, .ref h10, .int x_13, .int 8, .int 26, .int 1, .int 2, .int 0])), (h8, .inl (cI, 64, .inl f_14)), (h9, .inl (cI, 64, .inl f_15)), (h10, .inl (cI, 64, .inl f_16))] H := hP
  have hD : va_D A [(h0, .inr (6, [g0, g1, .ref h1, g2, g3, g4, .ref h2, .int 0, .int 0])), (h5, .inl (cI, 64, .inl f_7)), (h2, .inl (cB, 100, .inl zf)), (h4, .inl (cB, 65536, .inl f_8)), (h3, .inr (2, [.ref h11, .ref h12, .int x_9])), (h11, .inl (cI, 300, .inl f_10)), (h12, .inl (cI, 300, .inl f_11)), (h6, .inl (cZ, 64, .inl f_12)), (h7, .inl (cI, 64, .inl zf)), (h1, .inr (3, [.ref h3, .ref h4, .ref h5, .ref h6, .ref h7, .ref h8, .ref h9, .ref h10, .int x_13, .int 8, .int 26, .int 1, .int 2, .int 0])), (h8, .inl (cI, 64, .inl f_14)), (h9, .inl (cI, 64, .inl f_15)), (h10, .inl (cI, 64, .inl f_16))] := hD
  refine lv_istore_n (lv' := [(2, .int 1), (0, .ref h0), (1, .int p0)]) hx hb dX7_put_65 rfl hl (by decide) rfl (fun ls hl => ?_)
  refine lv_aload_n hx hb dX7_put_66 rfl (lv_at hl 1 rfl) ?_
  refine lv_iconst (v := 0) hx hb dX7_put_67 (by decide) ?_
  refine va_put (D := D) (ci := 6) (v := .int 0) (ty := .int) (C := RX7) (T := TX7) (N := 9) hx hb hts inX7_put_X7 tyX7 tyX7_ok nmX7 hown hK hP hD hS 0 rfl rfl 7 (by decide) (hts _ wdX7_put_2) (fun _ h9 => h9) rfl (by decide +kernel) rfl rfl (Nat.le_of_ble_eq_true rfl) dX7_put_68 (fun H locs hP hD hS => ?_)
  have hP : va_P D vwCl [(h0, .inr (6, [g0, g1, .ref h1, g2, g3, g4, .ref h2, .int 0, .int 0])), (h5, .inl (cI, 64, .inl f_7)), (h2, .inl (cB, 100, .inl zf)), (h4, .inl (cB, 65536, .inl f_8)), (h3, .inr (2, [.ref h11, .ref h12, .int x_9])), (h11, .inl (cI, 300, .inl f_10)), (h12, .inl (cI, 300, .inl f_11)), (h6, .inl (cZ, 64, .inl f_12)), (h7, .inl (cI, 64, .inl zf)), (h1, .inr (3, [.ref h3, .ref h4, .ref h5, .ref h6, .ref h7, .ref h8, .ref h9, .ref h10, .int x_13, .int 8, .int 26, .int 1, .int 2, .int 0])), (h8, .inl (cI, 64, .inl f_14)), (h9, .inl (cI, 64, .inl f_15)), (h10, .inl (cI, 64, .inl f_16))] H := hP
  have hD : va_D A [(h0, .inr (6, [g0, g1, .ref h1, g2, g3, g4, .ref h2, .int 0, .int 0])), (h5, .inl (cI, 64, .inl f_7)), (h2, .inl (cB, 100, .inl zf)), (h4, .inl (cB, 65536, .inl f_8)), (h3, .inr (2, [.ref h11, .ref h12, .int x_9])), (h11, .inl (cI, 300, .inl f_10)), (h12, .inl (cI, 300, .inl f_11)), (h6, .inl (cZ, 64, .inl f_12)), (h7, .inl (cI, 64, .inl zf)), (h1, .inr (3, [.ref h3, .ref h4, .ref h5, .ref h6, .ref h7, .ref h8, .ref h9, .ref h10, .int x_13, .int 8, .int 26, .int 1, .int 2, .int 0])), (h8, .inl (cI, 64, .inl f_14)), (h9, .inl (cI, 64, .inl f_15)), (h10, .inl (cI, 64, .inl f_16))] := hD
  refine lv_iload_n hx hb dX7_put_71 rfl (lv_at hl 0 rfl) ?_
  exact kr_i () hx hb hr hlocks (hP.sub [] rfl) (hD.sub [] (by decide) rfl) hS rfl dX7_put_72
set_option maxHeartbeats 4000000 in
set_option maxRecDepth 100000 in
theorem K82_X8_in (l : Launch) (D : va_G) (cB cI cZ : ClassId) (sz : Nat)   (p0 : Int32) (i_p0 : 0 ≤ p0.toInt ∧ p0.toInt ≤ 299) :
    CtI l D cB cI cZ yX8_in wsX8_in { frames := 0, cells := 0, slots := 0, locals := 0 } [.int p0, .int 0, .int 299] [] sz 0 0
      (fun (r : Int32) (u : Unit) => r = 1)
      (fun u => []) := by
  refine mk_metI (cc := cX8_in) (maxL := 3) (ret := (some .boolean)) (by decide) rfl (Nat.le_of_ble_eq_true rfl) ?_
  intro p e s m below meth c A hx hb hr hml hts hown hlocks hin hP hK hN hD hA hS ls hl
  have hown : s.vm.findClass RX8 = some m.cls := hown
  have hl : lv_has ls 3 [(0, .int p0), (1, .int 0), (2, .int 299)] := hl
  refine lv_iload_n hx hb dX8_in_0 rfl (lv_at hl 0 rfl) ?_
  refine lv_iload_n hx hb dX8_in_1 rfl (lv_at hl 1 rfl) ?_
  refine lv_icmp_lt (tgt := 14) hx hb dX8_in_2 (by decide) (fun c => absurd ((ti_lt (x := p0) (y := 0) (a := p0.toInt) (b := 0) rfl (by decide)).mp c) (by omega)) (fun c => ?_)
  refine lv_iload_n hx hb dX8_in_5 rfl (lv_at hl 0 rfl) ?_
  refine lv_iload_n hx hb dX8_in_6 rfl (lv_at hl 2 rfl) ?_
  refine lv_icmp_gt (tgt := 14) hx hb dX8_in_7 (by decide) (fun c => absurd ((ti_lt (x := 299) (y := p0) (a := 299) (b := p0.toInt) (by decide) rfl).mp c) (by omega)) (fun c => ?_)
  refine lv_iconst (v := 1) hx hb dX8_in_10 (by decide) ?_
  refine lv_goto (tgt := 15) hx hb dX8_in_11 (by decide) ?_
  exact kr_z () hx hb hr rfl hlocks hP hD hS rfl dX8_in_15
set_option maxHeartbeats 4000000 in
set_option maxRecDepth 100000 in
theorem K83_X8_opens (l : Launch) (D : va_G) (cB cI cZ : ClassId) (sz : Nat) (h0 : Nat)  (g0 : Value) (g1 : Value) (g2 : Value) (g3 : Value) (g4 : Value) (g5 : Value) (g6 : Value) (g7 : Value) (g8 : Value) (g9 : Value) (g10 : Value) (g11 : Value) (g12 : Value) (g13 : Value) (g14 : Value) (g15 : Value) (g16 : Value) (g17 : Value) (g18 : Value) (g19 : Value) (g20 : Value) (g21 : Value) (g22 : Value) (g23 : Value) (g24 : Value) (g25 : Value) (g26 : Value) (g27 : Value) (g28 : Value)  :
    CtI l D cB cI cZ yX8_opens wsX8_opens { frames := 0, cells := 0, slots := 0, locals := 0 } [.ref h0, .int 16] [(h0, .inr (7, [g0, g1, g2, g3, g4, g5, .int 0, g6, g7, g8, g9, g10, g11, g12, g13, g14, g15, g16, g17, g18, g19, g20, g21, g22, g23, g24, g25, g26, g27, g28]))] sz 0 0
      (fun (r : Int32) (u : Unit) => r = 1)
      (fun u => [(h0, .inr (7, [g0, g1, g2, g3, g4, g5, .int 0, g6, g7, g8, g9, g10, g11, g12, g13, g14, g15, g16, g17, g18, g19, g20, g21, g22, g23, g24, g25, g26, g27, g28]))]) := by
  refine mk_metI (cc := cX8_opens) (maxL := 2) (ret := (some .boolean)) (by decide) rfl (Nat.le_of_ble_eq_true rfl) ?_
  intro p e s m below meth c A hx hb hr hml hts hown hlocks hin hP hK hN hD hA hS ls hl
  have hown : s.vm.findClass RX8 = some m.cls := hown
  have hl : lv_has ls 2 [(0, .ref h0), (1, .int 16)] := hl
  refine lv_aload_n hx hb dX8_opens_0 rfl (lv_at hl 0 rfl) ?_
  refine va_get (D := D) (ci := 7) (v := .int 0) (C := RX8) (T := TX8) (N := 30) hx hb hts inX8_opens_X8 hown hK hP 0 rfl rfl 6 (by decide) (hts _ wdX8_opens_0) (fun _ h9 => h9) rfl dX8_opens_1 ?_
  refine lv_if_eq (tgt := 19) hx hb dX8_opens_4 (by decide) (fun c => ?_) (fun c => absurd (by decide) c)
  refine lv_iconst (v := 1) hx hb dX8_opens_19 (by decide) ?_
  refine lv_goto (tgt := 24) hx hb dX8_opens_20 (by decide) ?_
  exact kr_z () hx hb hr rfl hlocks hP hD hS rfl dX8_opens_24
set_option maxHeartbeats 4000000 in
set_option maxRecDepth 100000 in
theorem K84_X8_frees (l : Launch) (D : va_G) (cB cI cZ : ClassId) (sz : Nat) (h0 : Nat) (h1 : Nat)  (g0 : Value) (g1 : Value) (g2 : Value) (g3 : Value) (g4 : Value) (g5 : Value) (g6 : Value) (g7 : Value) (g8 : Value) (g9 : Value) (g10 : Value) (g11 : Value) (g12 : Value) (g13 : Value) (g14 : Value) (g15 : Value) (g16 : Value) (g17 : Value) (g18 : Value) (g19 : Value) (g20 : Value) (g21 : Value) (g22 : Value) (g23 : Value) (g24 : Value) (g25 : Value) (g26 : Value) (g27 : Value) (g28 : Value)  :
    CtI l D cB cI cZ yX8_frees wsX8_frees { frames := 0, cells := 0, slots := 0, locals := 0 } [.ref h0] [(h0, .inr (7, [g0, g1, g2, g3, g4, .ref h1, g5, g6, g7, g8, g9, g10, g11, g12, g13, g14, g15, g16, g17, g18, g19, g20, g21, g22, g23, g24, g25, g26, g27, g28])), (h1, .inl (cI, 64, .inl zf))] sz 0 0
      (fun (r : Int32) (u : Unit) => r = 56)
      (fun u => [(h0, .inr (7, [g0, g1, g2, g3, g4, .ref h1, g5, g6, g7, g8, g9, g10, g11, g12, g13, g14, g15, g16, g17, g18, g19, g20, g21, g22, g23, g24, g25, g26, g27, g28])), (h1, .inl (cI, 64, .inl zf))]) := by
  refine mk_metI (cc := cX8_frees) (maxL := 3) (ret := (some .int)) (by decide) rfl (Nat.le_of_ble_eq_true rfl) ?_
  intro p e s m below meth c A hx hb hr hml hts hown hlocks hin hP hK hN hD hA hS ls hl
  have hown : s.vm.findClass RX8 = some m.cls := hown
  have hl : lv_has ls 3 [(0, .ref h0)] := hl
  refine lv_iconst (v := 0) hx hb dX8_frees_0 (by decide) ?_
  refine lv_istore_n (lv' := [(1, .int 0), (0, .ref h0)]) hx hb dX8_frees_1 rfl hl (by decide) rfl (fun ls hl => ?_)
  refine lv_bipush (v := 8) hx hb dX8_frees_2 (by decide) ?_
  refine lv_istore_n (lv' := [(2, .int 8), (1, .int 0), (0, .ref h0)]) hx hb dX8_frees_4 rfl hl (by decide) rfl (fun ls hl => ?_)
  refine kl (α := Int32 × Int32) (fun n a H locs ls => (8 ≤ Int32.toInt (a.1)) ∧ (Int32.toInt (a.1) ≤ 64) ∧ (Int32.toInt (a.2) = Int32.toInt (a.1) + (-8)) ∧ (64 - Int32.toInt (a.1) < ((n : Nat) : Int)) ∧ va_P D vwCl [(h0, .inr (7, [g0, g1, g2, g3, g4, .ref h1, g5, g6, g7, g8, g9, g10, g11, g12, g13, g14, g15, g16, g17, g18, g19, g20, g21, g22, g23, g24, g25, g26, g27, g28])), (h1, .inl (cI, 64, .inl zf))] H ∧ va_D A [(h0, .inr (7, [g0, g1, g2, g3, g4, .ref h1, g5, g6, g7, g8, g9, g10, g11, g12, g13, g14, g15, g16, g17, g18, g19, g20, g21, g22, g23, g24, g25, g26, g27, g28])), (h1, .inl (cI, 64, .inl zf))] ∧ va_S A s.heap H locs ∧ lv_has ls 3 [(2, .int (a.1)), (1, .int (a.2)), (0, .ref h0)]) 57 (8, 0) ⟨(by show 8 ≤ Int32.toInt 8; decide), (by show Int32.toInt 8 ≤ 64; decide), (by show Int32.toInt 0 = Int32.toInt 8 + (-8); decide), (by show 64 - Int32.toInt 8 < ((57 : Nat) : Int); have := (by decide : Int32.toInt 8 = 8); omega), hP, hD, hS, hl⟩ (fun a H locs ls h => ?_) (fun n_3 ih_4 a H locs ls h => ?_)
  · obtain ⟨j_5, j_6, j_7, j_8, _⟩ := h
    omega
  obtain ⟨v_2, v_1⟩ := a
  obtain ⟨j_5, j_6, j_7, j_8, hP, hD, hS, hl⟩ := h
  have j_5 : 8 ≤ Int32.toInt v_2 := j_5
  have j_6 : Int32.toInt v_2 ≤ 64 := j_6
  have j_7 : Int32.toInt v_1 = Int32.toInt v_2 + (-8) := j_7
  have j_8 : 64 - Int32.toInt v_2 < ((n_3 + 1 : Nat) : Int) := j_8
  have hP : va_P D vwCl [(h0, .inr (7, [g0, g1, g2, g3, g4, .ref h1, g5, g6, g7, g8, g9, g10, g11, g12, g13, g14, g15, g16, g17, g18, g19, g20, g21, g22, g23, g24, g25, g26, g27, g28])), (h1, .inl (cI, 64, .inl zf))] H := hP
  have hD : va_D A [(h0, .inr (7, [g0, g1, g2, g3, g4, .ref h1, g5, g6, g7, g8, g9, g10, g11, g12, g13, g14, g15, g16, g17, g18, g19, g20, g21, g22, g23, g24, g25, g26, g27, g28])), (h1, .inl (cI, 64, .inl zf))] := hD
  have hl : lv_has ls 3 [(2, .int v_2), (1, .int v_1), (0, .ref h0)] := hl
  refine lv_iload_n hx hb dX8_frees_5 rfl (lv_at hl 0 rfl) ?_
  refine lv_bipush (v := 64) hx hb dX8_frees_6 (by decide) ?_
  refine lv_icmp_ge (tgt := 34) hx hb dX8_frees_8 (by decide) (fun c => ?_) (fun c => ?_)
  · skip
    have k_9 := (ti_le (x := 64) (y := v_2) (a := 64) (b := v_2.toInt) (by decide) rfl).mp c
    obtain rfl : v_1 = 56 := ti_inj (a := 56) (by decide) (by omega)
    obtain rfl : v_2 = 64 := ti_inj (a := 64) (by decide) (by omega)
    refine lv_iload_n hx hb dX8_frees_34 rfl (lv_at hl 1 rfl) ?_
    exact kr_i () hx hb hr hlocks hP hD hS rfl dX8_frees_35
  · skip
    have k_10 := mt (ti_le (x := 64) (y := v_2) (a := 64) (b := v_2.toInt) (by decide) rfl).mpr c
    refine lv_iload_n hx hb dX8_frees_11 rfl (lv_at hl 1 rfl) ?_
    refine lv_aload_n hx hb dX8_frees_12 rfl (lv_at hl 2 rfl) ?_
    refine va_get (D := D) (ci := 7) (v := .ref h1) (C := RX8) (T := TX8) (N := 30) hx hb hts inX8_frees_X8 hown hK hP 0 rfl rfl 5 (by decide) (hts _ wdX8_frees_0) (fun _ h9 => h9) rfl dX8_frees_13 ?_
    refine lv_iload_n hx hb dX8_frees_16 rfl (lv_at hl 0 rfl) ?_
    refine va_iald hx hb hK hP 1 1 rfl rfl (ti_in (a := v_2.toInt) rfl (by omega) (by omega)) dX8_frees_17 ?_
    refine lv_topi (fun z_11 ez_11 => ?_)
    obtain rfl : z_11 = 0 := ez_11
    refine lv_if_ne (tgt := 25) hx hb dX8_frees_18 (by decide) (fun c => absurd (by decide) c) (fun c => ?_)
    refine lv_iconst (v := 1) hx hb dX8_frees_21 (by decide) ?_
    refine lv_goto (tgt := 26) hx hb dX8_frees_22 (by decide) ?_
    refine lv_iadd hx hb dX8_frees_26 ?_
    refine lv_topi (fun x_12 ex_12 => ?_)
    have tx_12 : x_12.toInt = v_1.toInt + 1 := by rw [ex_12]; exact ti_add rfl (by decide) (by omega) (by omega)
    refine lv_istore_n (lv' := [(1, .int x_12), (2, .int v_2), (0, .ref h0)]) hx hb dX8_frees_27 rfl hl (by decide) rfl (fun ls hl => ?_)
    obtain ⟨x_13, ex_13⟩ : ∃ y : Int32, y = v_2 + 1 := ⟨_, rfl⟩
    have tx_13 : x_13.toInt = v_2.toInt + 1 := by rw [ex_13]; exact ti_add rfl (by decide) (by omega) (by omega)
    refine lv_iinc (v := x_13) (lv' := [(2, .int x_13), (1, .int x_12), (0, .ref h0)]) hx hb dX8_frees_28 hl (k := 1) rfl (by rw [ex_13]; rfl) (by decide) rfl (fun ls hl => ?_)
    refine lv_goto (tgt := 5) hx hb dX8_frees_31 (by decide) ?_
    exact ih_4 (x_13, x_12) _ _ _ ⟨(by show 8 ≤ Int32.toInt x_13; omega), (by show Int32.toInt x_13 ≤ 64; omega), (by show Int32.toInt x_12 = Int32.toInt x_13 + (-8); omega), (by show 64 - Int32.toInt x_13 < ((n_3 : Nat) : Int); omega), hP, hD, hS, hl⟩
set_option maxHeartbeats 4000000 in
set_option maxRecDepth 100000 in
theorem K87_X8_octets (l : Launch) (D : va_G) (cB cI cZ : ClassId) (sz : Nat) (h0 : Nat) (h1 : Nat)  (p0 : Int32) (g0 : Value) (g1 : Value) (g2 : Value) (g3 : Value) (g4 : Value) (g5 : Value) (g6 : Value) (g7 : Value) (g8 : Value) (g9 : Value) (g10 : Value) (g11 : Value) (g12 : Value) (g13 : Value) (g14 : Value) (g15 : Value) (g16 : Value) (g17 : Value) (g18 : Value) (g19 : Value) (g20 : Value) (g21 : Value) (g22 : Value) (g23 : Value) (p1 : Int32) (g24 : Value) (g25 : Value) (g26 : Value) (g27 : Value) (i_p1 : 0 ≤ p1.toInt ∧ p1.toInt ≤ 4000) :
    CtV l D cB cI cZ yX8_octets wsX8_octets { frames := 0, cells := 0, slots := 0, locals := 0 } [.ref h0, .int p0, .int 1] [(h0, .inr (7, [g0, g1, g2, g3, g4, g5, g6, g7, g8, g9, g10, g11, g12, g13, g14, g15, g16, g17, g18, g19, g20, g21, g22, g23, .ref h1, .int p1, g24, g25, g26, g27])), (h1, .inl (cB, 4096, .inl zf))] sz 0 0
      (fun (u : Int32 × (Nat → Int32)) => u.1.toInt = p1.toInt + 1 ∧ FB u.2)
      (fun u => [(h0, .inr (7, [g0, g1, g2, g3, g4, g5, g6, g7, g8, g9, g10, g11, g12, g13, g14, g15, g16, g17, g18, g19, g20, g21, g22, g23, .ref h1, .int u.1, g24, g25, g26, g27])), (h1, .inl (cB, 4096, .inl u.2))]) := by
  refine mk_metV (cc := cX8_octets) (maxL := 4) (ret := none) (by decide) rfl (Nat.le_of_ble_eq_true rfl) ?_
  intro p e s m below meth c A hx hb hr hml hts hown hlocks hin hP hK hN hD hA hS ls hl
  have hown : s.vm.findClass RX8 = some m.cls := hown
  have hl : lv_has ls 4 [(0, .ref h0), (1, .int p0), (2, .int 1)] := hl
  refine lv_iload_n hx hb dX8_octets_0 rfl (lv_at hl 2 rfl) ?_
  refine lv_iconst (v := 1) hx hb dX8_octets_1 (by decide) ?_
  refine lv_isub hx hb dX8_octets_2 ?_
  refine lv_topi (fun z_1 ez_1 => ?_)
  obtain rfl : z_1 = 0 := ez_1.trans (by decide)
  refine lv_istore_n (lv' := [(3, .int 0), (0, .ref h0), (1, .int p0), (2, .int 1)]) hx hb dX8_octets_3 rfl hl (by decide) rfl (fun ls hl => ?_)
  refine lv_iload_n hx hb dX8_octets_4 rfl (lv_at hl 0 rfl) ?_
  refine lv_if_lt (tgt := 40) hx hb dX8_octets_5 (by decide) (fun c => absurd c (by decide)) (fun c => ?_)
  refine lv_aload_n hx hb dX8_octets_8 rfl (lv_at hl 1 rfl) ?_
  refine va_get (D := D) (ci := 7) (v := .ref h1) (C := RX8) (T := TX8) (N := 30) hx hb hts inX8_octets_X8 hown hK hP 0 rfl rfl 24 (by decide) (hts _ wdX8_octets_0) (fun _ h9 => h9) rfl dX8_octets_9 ?_
  refine lv_aload_n hx hb dX8_octets_12 rfl (lv_at hl 1 rfl) ?_
  refine va_get (D := D) (ci := 7) (v := .int p1) (C := RX8) (T := TX8) (N := 30) hx hb hts inX8_octets_X8 hown hK hP 0 rfl rfl 25 (by decide) (hts _ wdX8_octets_1) (fun _ h9 => h9) rfl dX8_octets_13 ?_
  refine lv_iload_n hx hb dX8_octets_16 rfl (lv_at hl 2 rfl) ?_
  refine lv_bipush (v := 8) hx hb dX8_octets_17 (by decide) ?_
  refine lv_iload_n hx hb dX8_octets_19 rfl (lv_at hl 0 rfl) ?_
  refine lv_imul hx hb dX8_octets_20 ?_
  refine lv_topi (fun z_2 ez_2 => ?_)
  obtain rfl : z_2 = 0 := ez_2.trans (by decide)
  refine lv_ishr hx hb dX8_octets_21 ?_
  refine lv_topi (fun x_3 ex_3 => ?_)
  refine lv_i2b hx hb dX8_octets_22 rfl ?_
  refine lv_topi (fun x_4 ex_4 => ?_)
  refine va_bast hx hb hK hP hD hS 1 0 rfl rfl (ti_in (a := p1.toInt) rfl (by omega) (by omega)) dX8_octets_23 (fun H locs hP hD hS => ?_)
  obtain ⟨f_5, ef_5⟩ : ∃ g : Nat → Int32, g = upd zf (Int32.toNatClampNeg p1) (vp_nar .byte x_4) := ⟨_, rfl⟩
  rw [← ef_5] at hP hD
  have bf_5 : FB f_5 := by rw [ef_5]; exact FB_upd FB_zf _ _
  have hP : va_P D vwCl [(h0, .inr (7, [g0, g1, g2, g3, g4, g5, g6, g7, g8, g9, g10, g11, g12, g13, g14, g15, g16, g17, g18, g19, g20, g21, g22, g23, .ref h1, .int p1, g24, g25, g26, g27])), (h1, .inl (cB, 4096, .inl f_5))] H := hP
  have hD : va_D A [(h0, .inr (7, [g0, g1, g2, g3, g4, g5, g6, g7, g8, g9, g10, g11, g12, g13, g14, g15, g16, g17, g18, g19, g20, g21, g22, g23, .ref h1, .int p1, g24, g25, g26, g27])), (h1, .inl (cB, 4096, .inl f_5))] := hD
  refine lv_aload_n hx hb dX8_octets_24 rfl (lv_at hl 1 rfl) ?_
  refine lv_dup hx hb dX8_octets_25 rfl ?_
  refine va_get (D := D) (ci := 7) (v := .int p1) (C := RX8) (T := TX8) (N := 30) hx hb hts inX8_octets_X8 hown hK hP 0 rfl rfl 25 (by decide) (hts _ wdX8_octets_1) (fun _ h9 => h9) rfl dX8_octets_26 ?_
  refine lv_iconst (v := 1) hx hb dX8_octets_29 (by decide) ?_
  refine lv_iadd hx hb dX8_octets_30 ?_
  refine lv_topi (fun x_6 ex_6 => ?_)
  have tx_6 : x_6.toInt = p1.toInt + 1 := by rw [ex_6]; exact ti_add rfl (by decide) (by omega) (by omega)
  refine va_put (D := D) (ci := 7) (v := .int x_6) (ty := .int) (C := RX8) (T := TX8) (N := 30) hx hb hts inX8_octets_X8 tyX8 tyX8_ok nmX8 hown hK hP hD hS 0 rfl rfl 25 (by decide) (hts _ wdX8_octets_1) (fun _ h9 => h9) rfl (by decide +kernel) rfl rfl (Nat.le_of_ble_eq_true rfl) dX8_octets_31 (fun H locs hP hD hS => ?_)
  have hP : va_P D vwCl [(h0, .inr (7, [g0, g1, g2, g3, g4, g5, g6, g7, g8, g9, g10, g11, g12, g13, g14, g15, g16, g17, g18, g19, g20, g21, g22, g23, .ref h1, .int x_6, g24, g25, g26, g27])), (h1, .inl (cB, 4096, .inl f_5))] H := hP
  have hD : va_D A [(h0, .inr (7, [g0, g1, g2, g3, g4, g5, g6, g7, g8, g9, g10, g11, g12, g13, g14, g15, g16, g17, g18, g19, g20, g21, g22, g23, .ref h1, .int x_6, g24, g25, g26, g27])), (h1, .inl (cB, 4096, .inl f_5))] := hD
  refine lv_iinc (v := (-1)) (lv' := [(3, .int (-1)), (0, .ref h0), (1, .int p0), (2, .int 1)]) hx hb dX8_octets_34 hl (k := 0) rfl (by decide) (by decide) rfl (fun ls hl => ?_)
  refine lv_goto (tgt := 4) hx hb dX8_octets_37 (by decide) ?_
  refine lv_iload_n hx hb dX8_octets_4 rfl (lv_at hl 0 rfl) ?_
  refine lv_if_lt (tgt := 40) hx hb dX8_octets_5 (by decide) (fun c => ?_) (fun c => absurd (by decide) c)
  exact kr_v (x_6, f_5) hx hb hr hlocks hP hD hS ⟨(by first | omega | (show Int32.toInt x_6 = Int32.toInt p1 + 1; omega) | decide), bf_5⟩ dX8_octets_40
set_option maxHeartbeats 4000000 in
set_option maxRecDepth 100000 in
theorem K88_X8_octets (l : Launch) (D : va_G) (cB cI cZ : ClassId) (sz : Nat) (h0 : Nat) (h1 : Nat)  (p0 : Int32) (g0 : Value) (g1 : Value) (g2 : Value) (g3 : Value) (g4 : Value) (g5 : Value) (g6 : Value) (g7 : Value) (g8 : Value) (g9 : Value) (g10 : Value) (g11 : Value) (g12 : Value) (g13 : Value) (g14 : Value) (g15 : Value) (g16 : Value) (g17 : Value) (g18 : Value) (g19 : Value) (g20 : Value) (g21 : Value) (g22 : Value) (g23 : Value) (p1 : Int32) (g24 : Value) (g25 : Value) (g26 : Value) (g27 : Value) (f0 : Nat → Int32) (i_p1 : 0 ≤ p1.toInt ∧ p1.toInt ≤ 4000) (b_f0 : FB f0) :
    CtV l D cB cI cZ yX8_octets wsX8_octets { frames := 0, cells := 0, slots := 0, locals := 0 } [.ref h0, .int p0, .int 1] [(h0, .inr (7, [g0, g1, g2, g3, g4, g5, g6, g7, g8, g9, g10, g11, g12, g13, g14, g15, g16, g17, g18, g19, g20, g21, g22, g23, .ref h1, .int p1, g24, g25, g26, g27])), (h1, .inl (cB, 4096, .inl f0))] sz 0 0
      (fun (u : Int32 × (Nat → Int32)) => u.1.toInt = p1.toInt + 1 ∧ FB u.2)
      (fun u => [(h0, .inr (7, [g0, g1, g2, g3, g4, g5, g6, g7, g8, g9, g10, g11, g12, g13, g14, g15, g16, g17, g18, g19, g20, g21, g22, g23, .ref h1, .int u.1, g24, g25, g26, g27])), (h1, .inl (cB, 4096, .inl u.2))]) := by
  refine mk_metV (cc := cX8_octets) (maxL := 4) (ret := none) (by decide) rfl (Nat.le_of_ble_eq_true rfl) ?_
  intro p e s m below meth c A hx hb hr hml hts hown hlocks hin hP hK hN hD hA hS ls hl
  have hown : s.vm.findClass RX8 = some m.cls := hown
  have hl : lv_has ls 4 [(0, .ref h0), (1, .int p0), (2, .int 1)] := hl
  refine lv_iload_n hx hb dX8_octets_0 rfl (lv_at hl 2 rfl) ?_
  refine lv_iconst (v := 1) hx hb dX8_octets_1 (by decide) ?_
  refine lv_isub hx hb dX8_octets_2 ?_
  refine lv_topi (fun z_1 ez_1 => ?_)
  obtain rfl : z_1 = 0 := ez_1.trans (by decide)
  refine lv_istore_n (lv' := [(3, .int 0), (0, .ref h0), (1, .int p0), (2, .int 1)]) hx hb dX8_octets_3 rfl hl (by decide) rfl (fun ls hl => ?_)
  refine lv_iload_n hx hb dX8_octets_4 rfl (lv_at hl 0 rfl) ?_
  refine lv_if_lt (tgt := 40) hx hb dX8_octets_5 (by decide) (fun c => absurd c (by decide)) (fun c => ?_)
  refine lv_aload_n hx hb dX8_octets_8 rfl (lv_at hl 1 rfl) ?_
  refine va_get (D := D) (ci := 7) (v := .ref h1) (C := RX8) (T := TX8) (N := 30) hx hb hts inX8_octets_X8 hown hK hP 0 rfl rfl 24 (by decide) (hts _ wdX8_octets_0) (fun _ h9 => h9) rfl dX8_octets_9 ?_
  refine lv_aload_n hx hb dX8_octets_12 rfl (lv_at hl 1 rfl) ?_
  refine va_get (D := D) (ci := 7) (v := .int p1) (C := RX8) (T := TX8) (N := 30) hx hb hts inX8_octets_X8 hown hK hP 0 rfl rfl 25 (by decide) (hts _ wdX8_octets_1) (fun _ h9 => h9) rfl dX8_octets_13 ?_
  refine lv_iload_n hx hb dX8_octets_16 rfl (lv_at hl 2 rfl) ?_
  refine lv_bipush (v := 8) hx hb dX8_octets_17 (by decide) ?_
  refine lv_iload_n hx hb dX8_octets_19 rfl (lv_at hl 0 rfl) ?_
  refine lv_imul hx hb dX8_octets_20 ?_
  refine lv_topi (fun z_2 ez_2 => ?_)
  obtain rfl : z_2 = 0 := ez_2.trans (by decide)
  refine lv_ishr hx hb dX8_octets_21 ?_
  refine lv_topi (fun x_3 ex_3 => ?_)
  refine lv_i2b hx hb dX8_octets_22 rfl ?_
  refine lv_topi (fun x_4 ex_4 => ?_)
  refine va_bast hx hb hK hP hD hS 1 0 rfl rfl (ti_in (a := p1.toInt) rfl (by omega) (by omega)) dX8_octets_23 (fun H locs hP hD hS => ?_)
  obtain ⟨f_5, ef_5⟩ : ∃ g : Nat → Int32, g = upd f0 (Int32.toNatClampNeg p1) (vp_nar .byte x_4) := ⟨_, rfl⟩
  rw [← ef_5] at hP hD
  have bf_5 : FB f_5 := by rw [ef_5]; exact FB_upd b_f0 _ _
  have hP : va_P D vwCl [(h0, .inr (7, [g0, g1, g2, g3, g4, g5, g6, g7, g8, g9, g10, g11, g12, g13, g14, g15, g16, g17, g18, g19, g20, g21, g22, g23, .ref h1, .int p1, g24, g25, g26, g27])), (h1, .inl (cB, 4096, .inl f_5))] H := hP
  have hD : va_D A [(h0, .inr (7, [g0, g1, g2, g3, g4, g5, g6, g7, g8, g9, g10, g11, g12, g13, g14, g15, g16, g17, g18, g19, g20, g21, g22, g23, .ref h1, .int p1, g24, g25, g26, g27])), (h1, .inl (cB, 4096, .inl f_5))] := hD
  refine lv_aload_n hx hb dX8_octets_24 rfl (lv_at hl 1 rfl) ?_
  refine lv_dup hx hb dX8_octets_25 rfl ?_
  refine va_get (D := D) (ci := 7) (v := .int p1) (C := RX8) (T := TX8) (N := 30) hx hb hts inX8_octets_X8 hown hK hP 0 rfl rfl 25 (by decide) (hts _ wdX8_octets_1) (fun _ h9 => h9) rfl dX8_octets_26 ?_
  refine lv_iconst (v := 1) hx hb dX8_octets_29 (by decide) ?_
  refine lv_iadd hx hb dX8_octets_30 ?_
  refine lv_topi (fun x_6 ex_6 => ?_)
  have tx_6 : x_6.toInt = p1.toInt + 1 := by rw [ex_6]; exact ti_add rfl (by decide) (by omega) (by omega)
  refine va_put (D := D) (ci := 7) (v := .int x_6) (ty := .int) (C := RX8) (T := TX8) (N := 30) hx hb hts inX8_octets_X8 tyX8 tyX8_ok nmX8 hown hK hP hD hS 0 rfl rfl 25 (by decide) (hts _ wdX8_octets_1) (fun _ h9 => h9) rfl (by decide +kernel) rfl rfl (Nat.le_of_ble_eq_true rfl) dX8_octets_31 (fun H locs hP hD hS => ?_)
  have hP : va_P D vwCl [(h0, .inr (7, [g0, g1, g2, g3, g4, g5, g6, g7, g8, g9, g10, g11, g12, g13, g14, g15, g16, g17, g18, g19, g20, g21, g22, g23, .ref h1, .int x_6, g24, g25, g26, g27])), (h1, .inl (cB, 4096, .inl f_5))] H := hP
  have hD : va_D A [(h0, .inr (7, [g0, g1, g2, g3, g4, g5, g6, g7, g8, g9, g10, g11, g12, g13, g14, g15, g16, g17, g18, g19, g20, g21, g22, g23, .ref h1, .int x_6, g24, g25, g26, g27])), (h1, .inl (cB, 4096, .inl f_5))] := hD
  refine lv_iinc (v := (-1)) (lv' := [(3, .int (-1)), (0, .ref h0), (1, .int p0), (2, .int 1)]) hx hb dX8_octets_34 hl (k := 0) rfl (by decide) (by decide) rfl (fun ls hl => ?_)
  refine lv_goto (tgt := 4) hx hb dX8_octets_37 (by decide) ?_
  refine lv_iload_n hx hb dX8_octets_4 rfl (lv_at hl 0 rfl) ?_
  refine lv_if_lt (tgt := 40) hx hb dX8_octets_5 (by decide) (fun c => ?_) (fun c => absurd (by decide) c)
  exact kr_v (x_6, f_5) hx hb hr hlocks hP hD hS ⟨(by first | omega | (show Int32.toInt x_6 = Int32.toInt p1 + 1; omega) | decide), bf_5⟩ dX8_octets_40
set_option maxHeartbeats 4000000 in
set_option maxRecDepth 100000 in
theorem K89_X8_octets (l : Launch) (D : va_G) (cB cI cZ : ClassId) (sz : Nat) (h0 : Nat) (h1 : Nat)  (p0 : Int32) (g0 : Value) (g1 : Value) (g2 : Value) (g3 : Value) (g4 : Value) (g5 : Value) (g6 : Value) (g7 : Value) (g8 : Value) (g9 : Value) (g10 : Value) (g11 : Value) (g12 : Value) (g13 : Value) (g14 : Value) (g15 : Value) (g16 : Value) (g17 : Value) (g18 : Value) (g19 : Value) (g20 : Value) (g21 : Value) (g22 : Value) (g23 : Value) (p1 : Int32) (g24 : Value) (g25 : Value) (g26 : Value) (g27 : Value) (f0 : Nat → Int32) (i_p1 : 0 ≤ p1.toInt ∧ p1.toInt ≤ 4000) (b_f0 : FB f0) :
    CtV l D cB cI cZ yX8_octets wsX8_octets { frames := 0, cells := 0, slots := 0, locals := 0 } [.ref h0, .int p0, .int 4] [(h0, .inr (7, [g0, g1, g2, g3, g4, g5, g6, g7, g8, g9, g10, g11, g12, g13, g14, g15, g16, g17, g18, g19, g20, g21, g22, g23, .ref h1, .int p1, g24, g25, g26, g27])), (h1, .inl (cB, 4096, .inl f0))] sz 0 0
      (fun (u : Int32 × (Nat → Int32)) => u.1.toInt = p1.toInt + 4 ∧ FB u.2)
      (fun u => [(h0, .inr (7, [g0, g1, g2, g3, g4, g5, g6, g7, g8, g9, g10, g11, g12, g13, g14, g15, g16, g17, g18, g19, g20, g21, g22, g23, .ref h1, .int u.1, g24, g25, g26, g27])), (h1, .inl (cB, 4096, .inl u.2))]) := by
  refine mk_metV (cc := cX8_octets) (maxL := 4) (ret := none) (by decide) rfl (Nat.le_of_ble_eq_true rfl) ?_
  intro p e s m below meth c A hx hb hr hml hts hown hlocks hin hP hK hN hD hA hS ls hl
  have hown : s.vm.findClass RX8 = some m.cls := hown
  have hl : lv_has ls 4 [(0, .ref h0), (1, .int p0), (2, .int 4)] := hl
  refine lv_iload_n hx hb dX8_octets_0 rfl (lv_at hl 2 rfl) ?_
  refine lv_iconst (v := 1) hx hb dX8_octets_1 (by decide) ?_
  refine lv_isub hx hb dX8_octets_2 ?_
  refine lv_topi (fun z_1 ez_1 => ?_)
  obtain rfl : z_1 = 3 := ez_1.trans (by decide)
  refine lv_istore_n (lv' := [(3, .int 3), (0, .ref h0), (1, .int p0), (2, .int 4)]) hx hb dX8_octets_3 rfl hl (by decide) rfl (fun ls hl => ?_)
  refine lv_iload_n hx hb dX8_octets_4 rfl (lv_at hl 0 rfl) ?_
  refine lv_if_lt (tgt := 40) hx hb dX8_octets_5 (by decide) (fun c => absurd c (by decide)) (fun c => ?_)
  refine lv_aload_n hx hb dX8_octets_8 rfl (lv_at hl 1 rfl) ?_
  refine va_get (D := D) (ci := 7) (v := .ref h1) (C := RX8) (T := TX8) (N := 30) hx hb hts inX8_octets_X8 hown hK hP 0 rfl rfl 24 (by decide) (hts _ wdX8_octets_0) (fun _ h9 => h9) rfl dX8_octets_9 ?_
  refine lv_aload_n hx hb dX8_octets_12 rfl (lv_at hl 1 rfl) ?_
  refine va_get (D := D) (ci := 7) (v := .int p1) (C := RX8) (T := TX8) (N := 30) hx hb hts inX8_octets_X8 hown hK hP 0 rfl rfl 25 (by decide) (hts _ wdX8_octets_1) (fun _ h9 => h9) rfl dX8_octets_13 ?_
  refine lv_iload_n hx hb dX8_octets_16 rfl (lv_at hl 2 rfl) ?_
  refine lv_bipush (v := 8) hx hb dX8_octets_17 (by decide) ?_
  refine lv_iload_n hx hb dX8_octets_19 rfl (lv_at hl 0 rfl) ?_
  refine lv_imul hx hb dX8_octets_20 ?_
  refine lv_topi (fun z_2 ez_2 => ?_)
  obtain rfl : z_2 = 24 := ez_2.trans (by decide)
  refine lv_ishr hx hb dX8_octets_21 ?_
  refine lv_topi (fun x_3 ex_3 => ?_)
  refine lv_i2b hx hb dX8_octets_22 rfl ?_
  refine lv_topi (fun x_4 ex_4 => ?_)
  refine va_bast hx hb hK hP hD hS 1 0 rfl rfl (ti_in (a := p1.toInt) rfl (by omega) (by omega)) dX8_octets_23 (fun H locs hP hD hS => ?_)
  obtain ⟨f_5, ef_5⟩ : ∃ g : Nat → Int32, g = upd f0 (Int32.toNatClampNeg p1) (vp_nar .byte x_4) := ⟨_, rfl⟩
  rw [← ef_5] at hP hD
  have bf_5 : FB f_5 := by rw [ef_5]; exact FB_upd b_f0 _ _
  have hP : va_P D vwCl [(h0, .inr (7, [g0, g1, g2, g3, g4, g5, g6, g7, g8, g9, g10, g11, g12, g13, g14, g15, g16, g17, g18, g19, g20, g21, g22, g23, .ref h1, .int p1, g24, g25, g26, g27])), (h1, .inl (cB, 4096, .inl f_5))] H := hP
  have hD : va_D A [(h0, .inr (7, [g0, g1, g2, g3, g4, g5, g6, g7, g8, g9, g10, g11, g12, g13, g14, g15, g16, g17, g18, g19, g20, g21, g22, g23, .ref h1, .int p1, g24, g25, g26, g27])), (h1, .inl (cB, 4096, .inl f_5))] := hD
  refine lv_aload_n hx hb dX8_octets_24 rfl (lv_at hl 1 rfl) ?_
  refine lv_dup hx hb dX8_octets_25 rfl ?_
  refine va_get (D := D) (ci := 7) (v := .int p1) (C := RX8) (T := TX8) (N := 30) hx hb hts inX8_octets_X8 hown hK hP 0 rfl rfl 25 (by decide) (hts _ wdX8_octets_1) (fun _ h9 => h9) rfl dX8_octets_26 ?_
  refine lv_iconst (v := 1) hx hb dX8_octets_29 (by decide) ?_
  refine lv_iadd hx hb dX8_octets_30 ?_
  refine lv_topi (fun x_6 ex_6 => ?_)
  have tx_6 : x_6.toInt = p1.toInt + 1 := by rw [ex_6]; exact ti_add rfl (by decide) (by omega) (by omega)
  refine va_put (D := D) (ci := 7) (v := .int x_6) (ty := .int) (C := RX8) (T := TX8) (N := 30) hx hb hts inX8_octets_X8 tyX8 tyX8_ok nmX8 hown hK hP hD hS 0 rfl rfl 25 (by decide) (hts _ wdX8_octets_1) (fun _ h9 => h9) rfl (by decide +kernel) rfl rfl (Nat.le_of_ble_eq_true rfl) dX8_octets_31 (fun H locs hP hD hS => ?_)
  have hP : va_P D vwCl [(h0, .inr (7, [g0, g1, g2, g3, g4, g5, g6, g7, g8, g9, g10, g11, g12, g13, g14, g15, g16, g17, g18, g19, g20, g21, g22, g23, .ref h1, .int x_6, g24, g25, g26, g27])), (h1, .inl (cB, 4096, .inl f_5))] H := hP
  have hD : va_D A [(h0, .inr (7, [g0, g1, g2, g3, g4, g5, g6, g7, g8, g9, g10, g11, g12, g13, g14, g15, g16, g17, g18, g19, g20, g21, g22, g23, .ref h1, .int x_6, g24, g25, g26, g27])), (h1, .inl (cB, 4096, .inl f_5))] := hD
  refine lv_iinc (v := 2) (lv' := [(3, .int 2), (0, .ref h0), (1, .int p0), (2, .int 4)]) hx hb dX8_octets_34 hl (k := 0) rfl (by decide) (by decide) rfl (fun ls hl => ?_)
  refine lv_goto (tgt := 4) hx hb dX8_octets_37 (by decide) ?_
  refine lv_iload_n hx hb dX8_octets_4 rfl (lv_at hl 0 rfl) ?_
  refine lv_if_lt (tgt := 40) hx hb dX8_octets_5 (by decide) (fun c => absurd c (by decide)) (fun c => ?_)
  refine lv_aload_n hx hb dX8_octets_8 rfl (lv_at hl 1 rfl) ?_
  refine va_get (D := D) (ci := 7) (v := .ref h1) (C := RX8) (T := TX8) (N := 30) hx hb hts inX8_octets_X8 hown hK hP 0 rfl rfl 24 (by decide) (hts _ wdX8_octets_0) (fun _ h9 => h9) rfl dX8_octets_9 ?_
  refine lv_aload_n hx hb dX8_octets_12 rfl (lv_at hl 1 rfl) ?_
  refine va_get (D := D) (ci := 7) (v := .int x_6) (C := RX8) (T := TX8) (N := 30) hx hb hts inX8_octets_X8 hown hK hP 0 rfl rfl 25 (by decide) (hts _ wdX8_octets_1) (fun _ h9 => h9) rfl dX8_octets_13 ?_
  refine lv_iload_n hx hb dX8_octets_16 rfl (lv_at hl 2 rfl) ?_
  refine lv_bipush (v := 8) hx hb dX8_octets_17 (by decide) ?_
  refine lv_iload_n hx hb dX8_octets_19 rfl (lv_at hl 0 rfl) ?_
  refine lv_imul hx hb dX8_octets_20 ?_
  refine lv_topi (fun z_7 ez_7 => ?_)
  obtain rfl : z_7 = 16 := ez_7.trans (by decide)
  refine lv_ishr hx hb dX8_octets_21 ?_
  refine lv_topi (fun x_8 ex_8 => ?_)
  refine lv_i2b hx hb dX8_octets_22 rfl ?_
  refine lv_topi (fun x_9 ex_9 => ?_)
  refine va_bast hx hb hK hP hD hS 1 0 rfl rfl (ti_in (a := x_6.toInt) rfl (by omega) (by omega)) dX8_octets_23 (fun H locs hP hD hS => ?_)
  obtain ⟨f_10, ef_10⟩ : ∃ g : Nat → Int32, g = upd f_5 (Int32.toNatClampNeg x_6) (vp_nar .byte x_9) := ⟨_, rfl⟩
  rw [← ef_10] at hP hD
  have bf_10 : FB f_10 := by rw [ef_10]; exact FB_upd bf_5 _ _
  have hP : va_P D vwCl [(h0, .inr (7, [g0, g1, g2, g3, g4, g5, g6, g7, g8, g9, g10, g11, g12, g13, g14, g15, g16, g17, g18, g19, g20, g21, g22, g23, .ref h1, .int x_6, g24, g25, g26, g27])), (h1, .inl (cB, 4096, .inl f_10))] H := hP
  have hD : va_D A [(h0, .inr (7, [g0, g1, g2, g3, g4, g5, g6, g7, g8, g9, g10, g11, g12, g13, g14, g15, g16, g17, g18, g19, g20, g21, g22, g23, .ref h1, .int x_6, g24, g25, g26, g27])), (h1, .inl (cB, 4096, .inl f_10))] := hD
  refine lv_aload_n hx hb dX8_octets_24 rfl (lv_at hl 1 rfl) ?_
  refine lv_dup hx hb dX8_octets_25 rfl ?_
  refine va_get (D := D) (ci := 7) (v := .int x_6) (C := RX8) (T := TX8) (N := 30) hx hb hts inX8_octets_X8 hown hK hP 0 rfl rfl 25 (by decide) (hts _ wdX8_octets_1) (fun _ h9 => h9) rfl dX8_octets_26 ?_
  refine lv_iconst (v := 1) hx hb dX8_octets_29 (by decide) ?_
  refine lv_iadd hx hb dX8_octets_30 ?_
  refine lv_topi (fun x_11 ex_11 => ?_)
  have tx_11 : x_11.toInt = x_6.toInt + 1 := by rw [ex_11]; exact ti_add rfl (by decide) (by omega) (by omega)
  refine va_put (D := D) (ci := 7) (v := .int x_11) (ty := .int) (C := RX8) (T := TX8) (N := 30) hx hb hts inX8_octets_X8 tyX8 tyX8_ok nmX8 hown hK hP hD hS 0 rfl rfl 25 (by decide) (hts _ wdX8_octets_1) (fun _ h9 => h9) rfl (by decide +kernel) rfl rfl (Nat.le_of_ble_eq_true rfl) dX8_octets_31 (fun H locs hP hD hS => ?_)
  have hP : va_P D vwCl [(h0, .inr (7, [g0, g1, g2, g3, g4, g5, g6, g7, g8, g9, g10, g11, g12, g13, g14, g15, g16, g17, g18, g19, g20, g21, g22, g23, .ref h1, .int x_11, g24, g25, g26, g27])), (h1, .inl (cB, 4096, .inl f_10))] H := hP
  have hD : va_D A [(h0, .inr (7, [g0, g1, g2, g3, g4, g5, g6, g7, g8, g9, g10, g11, g12, g13, g14, g15, g16, g17, g18, g19, g20, g21, g22, g23, .ref h1, .int x_11, g24, g25, g26, g27])), (h1, .inl (cB, 4096, .inl f_10))] := hD
  refine lv_iinc (v := 1) (lv' := [(3, .int 1), (0, .ref h0), (1, .int p0), (2, .int 4)]) hx hb dX8_octets_34 hl (k := 0) rfl (by decide) (by decide) rfl (fun ls hl => ?_)
  refine lv_goto (tgt := 4) hx hb dX8_octets_37 (by decide) ?_
  refine lv_iload_n hx hb dX8_octets_4 rfl (lv_at hl 0 rfl) ?_
  refine lv_if_lt (tgt := 40) hx hb dX8_octets_5 (by decide) (fun c => absurd c (by decide)) (fun c => ?_)
  refine lv_aload_n hx hb dX8_octets_8 rfl (lv_at hl 1 rfl) ?_
  refine va_get (D := D) (ci := 7) (v := .ref h1) (C := RX8) (T := TX8) (N := 30) hx hb hts inX8_octets_X8 hown hK hP 0 rfl rfl 24 (by decide) (hts _ wdX8_octets_0) (fun _ h9 => h9) rfl dX8_octets_9 ?_
  refine lv_aload_n hx hb dX8_octets_12 rfl (lv_at hl 1 rfl) ?_
  refine va_get (D := D) (ci := 7) (v := .int x_11) (C := RX8) (T := TX8) (N := 30) hx hb hts inX8_octets_X8 hown hK hP 0 rfl rfl 25 (by decide) (hts _ wdX8_octets_1) (fun _ h9 => h9) rfl dX8_octets_13 ?_
  refine lv_iload_n hx hb dX8_octets_16 rfl (lv_at hl 2 rfl) ?_
  refine lv_bipush (v := 8) hx hb dX8_octets_17 (by decide) ?_
  refine lv_iload_n hx hb dX8_octets_19 rfl (lv_at hl 0 rfl) ?_
  refine lv_imul hx hb dX8_octets_20 ?_
  refine lv_topi (fun z_12 ez_12 => ?_)
  obtain rfl : z_12 = 8 := ez_12.trans (by decide)
  refine lv_ishr hx hb dX8_octets_21 ?_
  refine lv_topi (fun x_13 ex_13 => ?_)
  refine lv_i2b hx hb dX8_octets_22 rfl ?_
  refine lv_topi (fun x_14 ex_14 => ?_)
  refine va_bast hx hb hK hP hD hS 1 0 rfl rfl (ti_in (a := x_11.toInt) rfl (by omega) (by omega)) dX8_octets_23 (fun H locs hP hD hS => ?_)
  obtain ⟨f_15, ef_15⟩ : ∃ g : Nat → Int32, g = upd f_10 (Int32.toNatClampNeg x_11) (vp_nar .byte x_14) := ⟨_, rfl⟩
  rw [← ef_15] at hP hD
  have bf_15 : FB f_15 := by rw [ef_15]; exact FB_upd bf_10 _ _
  have hP : va_P D vwCl [(h0, .inr (7, [g0, g1, g2, g3, g4, g5, g6, g7, g8, g9, g10, g11, g12, g13, g14, g15, g16, g17, g18, g19, g20, g21, g22, g23, .ref h1, .int x_11, g24, g25, g26, g27])), (h1, .inl (cB, 4096, .inl f_15))] H := hP
  have hD : va_D A [(h0, .inr (7, [g0, g1, g2, g3, g4, g5, g6, g7, g8, g9, g10, g11, g12, g13, g14, g15, g16, g17, g18, g19, g20, g21, g22, g23, .ref h1, .int x_11, g24, g25, g26, g27])), (h1, .inl (cB, 4096, .inl f_15))] := hD
  refine lv_aload_n hx hb dX8_octets_24 rfl (lv_at hl 1 rfl) ?_
  refine lv_dup hx hb dX8_octets_25 rfl ?_
  refine va_get (D := D) (ci := 7) (v := .int x_11) (C := RX8) (T := TX8) (N := 30) hx hb hts inX8_octets_X8 hown hK hP 0 rfl rfl 25 (by decide) (hts _ wdX8_octets_1) (fun _ h9 => h9) rfl dX8_octets_26 ?_
  refine lv_iconst (v := 1) hx hb dX8_octets_29 (by decide) ?_
  refine lv_iadd hx hb dX8_octets_30 ?_
  refine lv_topi (fun x_16 ex_16 => ?_)
  have tx_16 : x_16.toInt = x_11.toInt + 1 := by rw [ex_16]; exact ti_add rfl (by decide) (by omega) (by omega)
  refine va_put (D := D) (ci := 7) (v := .int x_16) (ty := .int) (C := RX8) (T := TX8) (N := 30) hx hb hts inX8_octets_X8 tyX8 tyX8_ok nmX8 hown hK hP hD hS 0 rfl rfl 25 (by decide) (hts _ wdX8_octets_1) (fun _ h9 => h9) rfl (by decide +kernel) rfl rfl (Nat.le_of_ble_eq_true rfl) dX8_octets_31 (fun H locs hP hD hS => ?_)
  have hP : va_P D vwCl [(h0, .inr (7, [g0, g1, g2, g3, g4, g5, g6, g7, g8, g9, g10, g11, g12, g13, g14, g15, g16, g17, g18, g19, g20, g21, g22, g23, .ref h1, .int x_16, g24, g25, g26, g27])), (h1, .inl (cB, 4096, .inl f_15))] H := hP
  have hD : va_D A [(h0, .inr (7, [g0, g1, g2, g3, g4, g5, g6, g7, g8, g9, g10, g11, g12, g13, g14, g15, g16, g17, g18, g19, g20, g21, g22, g23, .ref h1, .int x_16, g24, g25, g26, g27])), (h1, .inl (cB, 4096, .inl f_15))] := hD
  refine lv_iinc (v := 0) (lv' := [(3, .int 0), (0, .ref h0), (1, .int p0), (2, .int 4)]) hx hb dX8_octets_34 hl (k := 0) rfl (by decide) (by decide) rfl (fun ls hl => ?_)
  refine lv_goto (tgt := 4) hx hb dX8_octets_37 (by decide) ?_
  refine lv_iload_n hx hb dX8_octets_4 rfl (lv_at hl 0 rfl) ?_
  refine lv_if_lt (tgt := 40) hx hb dX8_octets_5 (by decide) (fun c => absurd c (by decide)) (fun c => ?_)
  refine lv_aload_n hx hb dX8_octets_8 rfl (lv_at hl 1 rfl) ?_
  refine va_get (D := D) (ci := 7) (v := .ref h1) (C := RX8) (T := TX8) (N := 30) hx hb hts inX8_octets_X8 hown hK hP 0 rfl rfl 24 (by decide) (hts _ wdX8_octets_0) (fun _ h9 => h9) rfl dX8_octets_9 ?_
  refine lv_aload_n hx hb dX8_octets_12 rfl (lv_at hl 1 rfl) ?_
  refine va_get (D := D) (ci := 7) (v := .int x_16) (C := RX8) (T := TX8) (N := 30) hx hb hts inX8_octets_X8 hown hK hP 0 rfl rfl 25 (by decide) (hts _ wdX8_octets_1) (fun _ h9 => h9) rfl dX8_octets_13 ?_
  refine lv_iload_n hx hb dX8_octets_16 rfl (lv_at hl 2 rfl) ?_
  refine lv_bipush (v := 8) hx hb dX8_octets_17 (by decide) ?_
  refine lv_iload_n hx hb dX8_octets_19 rfl (lv_at hl 0 rfl) ?_
  refine lv_imul hx hb dX8_octets_20 ?_
  refine lv_topi (fun z_17 ez_17 => ?_)
  obtain rfl : z_17 = 0 := ez_17.trans (by decide)
  refine lv_ishr hx hb dX8_octets_21 ?_
  refine lv_topi (fun x_18 ex_18 => ?_)
  refine lv_i2b hx hb dX8_octets_22 rfl ?_
  refine lv_topi (fun x_19 ex_19 => ?_)
  refine va_bast hx hb hK hP hD hS 1 0 rfl rfl (ti_in (a := x_16.toInt) rfl (by omega) (by omega)) dX8_octets_23 (fun H locs hP hD hS => ?_)
  obtain ⟨f_20, ef_20⟩ : ∃ g : Nat → Int32, g = upd f_15 (Int32.toNatClampNeg x_16) (vp_nar .byte x_19) := ⟨_, rfl⟩
  rw [← ef_20] at hP hD
  have bf_20 : FB f_20 := by rw [ef_20]; exact FB_upd bf_15 _ _
  have hP : va_P D vwCl [(h0, .inr (7, [g0, g1, g2, g3, g4, g5, g6, g7, g8, g9, g10, g11, g12, g13, g14, g15, g16, g17, g18, g19, g20, g21, g22, g23, .ref h1, .int x_16, g24, g25, g26, g27])), (h1, .inl (cB, 4096, .inl f_20))] H := hP
  have hD : va_D A [(h0, .inr (7, [g0, g1, g2, g3, g4, g5, g6, g7, g8, g9, g10, g11, g12, g13, g14, g15, g16, g17, g18, g19, g20, g21, g22, g23, .ref h1, .int x_16, g24, g25, g26, g27])), (h1, .inl (cB, 4096, .inl f_20))] := hD
  refine lv_aload_n hx hb dX8_octets_24 rfl (lv_at hl 1 rfl) ?_
  refine lv_dup hx hb dX8_octets_25 rfl ?_
  refine va_get (D := D) (ci := 7) (v := .int x_16) (C := RX8) (T := TX8) (N := 30) hx hb hts inX8_octets_X8 hown hK hP 0 rfl rfl 25 (by decide) (hts _ wdX8_octets_1) (fun _ h9 => h9) rfl dX8_octets_26 ?_
  refine lv_iconst (v := 1) hx hb dX8_octets_29 (by decide) ?_
  refine lv_iadd hx hb dX8_octets_30 ?_
  refine lv_topi (fun x_21 ex_21 => ?_)
  have tx_21 : x_21.toInt = x_16.toInt + 1 := by rw [ex_21]; exact ti_add rfl (by decide) (by omega) (by omega)
  refine va_put (D := D) (ci := 7) (v := .int x_21) (ty := .int) (C := RX8) (T := TX8) (N := 30) hx hb hts inX8_octets_X8 tyX8 tyX8_ok nmX8 hown hK hP hD hS 0 rfl rfl 25 (by decide) (hts _ wdX8_octets_1) (fun _ h9 => h9) rfl (by decide +kernel) rfl rfl (Nat.le_of_ble_eq_true rfl) dX8_octets_31 (fun H locs hP hD hS => ?_)
  have hP : va_P D vwCl [(h0, .inr (7, [g0, g1, g2, g3, g4, g5, g6, g7, g8, g9, g10, g11, g12, g13, g14, g15, g16, g17, g18, g19, g20, g21, g22, g23, .ref h1, .int x_21, g24, g25, g26, g27])), (h1, .inl (cB, 4096, .inl f_20))] H := hP
  have hD : va_D A [(h0, .inr (7, [g0, g1, g2, g3, g4, g5, g6, g7, g8, g9, g10, g11, g12, g13, g14, g15, g16, g17, g18, g19, g20, g21, g22, g23, .ref h1, .int x_21, g24, g25, g26, g27])), (h1, .inl (cB, 4096, .inl f_20))] := hD
  refine lv_iinc (v := (-1)) (lv' := [(3, .int (-1)), (0, .ref h0), (1, .int p0), (2, .int 4)]) hx hb dX8_octets_34 hl (k := 0) rfl (by decide) (by decide) rfl (fun ls hl => ?_)
  refine lv_goto (tgt := 4) hx hb dX8_octets_37 (by decide) ?_
  refine lv_iload_n hx hb dX8_octets_4 rfl (lv_at hl 0 rfl) ?_
  refine lv_if_lt (tgt := 40) hx hb dX8_octets_5 (by decide) (fun c => ?_) (fun c => absurd (by decide) c)
  exact kr_v (x_21, f_20) hx hb hr hlocks hP hD hS ⟨(by first | omega | (show Int32.toInt x_21 = Int32.toInt p1 + 4; omega) | decide), bf_20⟩ dX8_octets_40
set_option maxHeartbeats 4000000 in
set_option maxRecDepth 100000 in
theorem K90_X8_sum (l : Launch) (D : va_G) (cB cI cZ : ClassId) (sz : Nat) (h0 : Nat)  (f0 : Nat → Int32) (b_f0 : FB f0) :
    CtI l D cB cI cZ yX8_sum wsX8_sum { frames := 0, cells := 0, slots := 0, locals := 0 } [.ref h0, .int 0, .int 6] [(h0, .inl (cB, 4096, .inl f0))] sz 0 0
      (fun (r : Int32) (u : Unit) => True)
      (fun u => [(h0, .inl (cB, 4096, .inl f0))]) := by
  refine mk_metI (cc := cX8_sum) (maxL := 6) (ret := (some .int)) (by decide) rfl (Nat.le_of_ble_eq_true rfl) ?_
  intro p e s m below meth c A hx hb hr hml hts hown hlocks hin hP hK hN hD hA hS ls hl
  have hown : s.vm.findClass RX8 = some m.cls := hown
  have hl : lv_has ls 6 [(0, .ref h0), (1, .int 0), (2, .int 6)] := hl
  refine lv_iconst (v := 0) hx hb dX8_sum_0 (by decide) ?_
  refine lv_istore_n (lv' := [(3, .int 0), (0, .ref h0), (1, .int 0), (2, .int 6)]) hx hb dX8_sum_1 rfl hl (by decide) rfl (fun ls hl => ?_)
  refine lv_iconst (v := 0) hx hb dX8_sum_2 (by decide) ?_
  refine lv_istore (lv' := [(4, .int 0), (3, .int 0), (0, .ref h0), (1, .int 0), (2, .int 6)]) hx hb dX8_sum_3 hl (by decide) rfl (fun ls hl => ?_)
  refine kl (α := Int32 × Int32) (fun n a H locs ls => (0 ≤ Int32.toInt (a.1)) ∧ (Int32.toInt (a.1) ≤ 6) ∧ (6 - Int32.toInt (a.1) < ((n : Nat) : Int)) ∧ va_P D vwCl [(h0, .inl (cB, 4096, .inl f0))] H ∧ va_D A [(h0, .inl (cB, 4096, .inl f0))] ∧ va_S A s.heap H locs ∧ lv_has ls 6 [(4, .int (a.1)), (3, .int (a.2)), (0, .ref h0), (1, .int 0), (2, .int 6)]) 7 (0, 0) ⟨(by show 0 ≤ Int32.toInt 0; decide), (by show Int32.toInt 0 ≤ 6; decide), (by show 6 - Int32.toInt 0 < ((7 : Nat) : Int); have := (by decide : Int32.toInt 0 = 0); omega), hP, hD, hS, hl⟩ (fun a H locs ls h => ?_) (fun n_3 ih_4 a H locs ls h => ?_)
  · obtain ⟨j_5, j_6, j_7, _⟩ := h
    omega
  obtain ⟨v_2, v_1⟩ := a
  obtain ⟨j_5, j_6, j_7, hP, hD, hS, hl⟩ := h
  have j_5 : 0 ≤ Int32.toInt v_2 := j_5
  have j_6 : Int32.toInt v_2 ≤ 6 := j_6
  have j_7 : 6 - Int32.toInt v_2 < ((n_3 + 1 : Nat) : Int) := j_7
  have hP : va_P D vwCl [(h0, .inl (cB, 4096, .inl f0))] H := hP
  have hD : va_D A [(h0, .inl (cB, 4096, .inl f0))] := hD
  have hl : lv_has ls 6 [(4, .int v_2), (3, .int v_1), (0, .ref h0), (1, .int 0), (2, .int 6)] := hl
  refine lv_iload hx hb dX8_sum_5 (lv_at hl 0 rfl) ?_
  refine lv_iload_n hx hb dX8_sum_7 rfl (lv_at hl 4 rfl) ?_
  refine lv_icmp_ge (tgt := 45) hx hb dX8_sum_8 (by decide) (fun c => ?_) (fun c => ?_)
  · skip
    have k_8 := (ti_le (x := 6) (y := v_2) (a := 6) (b := v_2.toInt) (by decide) rfl).mp c
    obtain rfl : v_2 = 6 := ti_inj (a := 6) (by decide) (by omega)
    refine lv_iload_n hx hb dX8_sum_45 rfl (lv_at hl 1 rfl) ?_
    exact kr_i () hx hb hr hlocks hP hD hS trivial dX8_sum_46
  · skip
    have k_9 := mt (ti_le (x := 6) (y := v_2) (a := 6) (b := v_2.toInt) (by decide) rfl).mpr c
    refine lv_iload_n hx hb dX8_sum_11 rfl (lv_at hl 1 rfl) ?_
    refine lv_aload_n hx hb dX8_sum_12 rfl (lv_at hl 2 rfl) ?_
    refine lv_iload_n hx hb dX8_sum_13 rfl (lv_at hl 3 rfl) ?_
    refine lv_iload hx hb dX8_sum_14 (lv_at hl 0 rfl) ?_
    refine lv_iadd hx hb dX8_sum_16 ?_
    refine lv_topi (fun x_10 ex_10 => ?_)
    have tx_10 : x_10.toInt = 0 + v_2.toInt := by rw [ex_10]; exact ti_add (by decide) rfl (by omega) (by omega)
    refine va_bald hx hb hK hP 0 0 rfl rfl (ti_in (a := x_10.toInt) rfl (by omega) (by omega)) dX8_sum_17 ?_
    refine lv_topi (fun x_11 ex_11 => ?_)
    refine lv_sipush (v := 255) hx hb dX8_sum_18 (by decide) ?_
    refine lv_iand hx hb dX8_sum_21 ?_
    refine lv_topi (fun x_12 ex_12 => ?_)
    refine lv_ixor hx hb dX8_sum_22 ?_
    refine lv_topi (fun x_13 ex_13 => ?_)
    refine lv_istore (lv' := [(5, .int x_13), (4, .int v_2), (3, .int v_1), (0, .ref h0), (1, .int 0), (2, .int 6)]) hx hb dX8_sum_23 hl (by decide) rfl (fun ls hl => ?_)
    refine lv_iload hx hb dX8_sum_25 (lv_at hl 0 rfl) ?_
    refine lv_iconst (v := 5) hx hb dX8_sum_27 (by decide) ?_
    refine lv_ishl hx hb dX8_sum_28 ?_
    refine lv_topi (fun x_14 ex_14 => ?_)
    refine lv_iload hx hb dX8_sum_29 (lv_at hl 0 rfl) ?_
    refine lv_bipush (v := 27) hx hb dX8_sum_31 (by decide) ?_
    refine lv_iushr hx hb dX8_sum_33 rfl ?_
    refine lv_topi (fun x_15 ex_15 => ?_)
    refine lv_ior hx hb dX8_sum_34 ?_
    refine lv_topi (fun x_16 ex_16 => ?_)
    refine lv_ldc (v := (-1640531535)) hx hb hown (hts _ wdX8_sum_0) dX8_sum_35 ?_
    refine lv_imul hx hb dX8_sum_37 ?_
    refine lv_topi (fun x_17 ex_17 => ?_)
    refine lv_istore_n (lv' := [(3, .int x_17), (5, .int x_13), (4, .int v_2), (0, .ref h0), (1, .int 0), (2, .int 6)]) hx hb dX8_sum_38 rfl hl (by decide) rfl (fun ls hl => ?_)
    obtain ⟨x_18, ex_18⟩ : ∃ y : Int32, y = v_2 + 1 := ⟨_, rfl⟩
    have tx_18 : x_18.toInt = v_2.toInt + 1 := by rw [ex_18]; exact ti_add rfl (by decide) (by omega) (by omega)
    refine lv_iinc (v := x_18) (lv' := [(4, .int x_18), (3, .int x_17), (5, .int x_13), (0, .ref h0), (1, .int 0), (2, .int 6)]) hx hb dX8_sum_39 hl (k := 2) rfl (by rw [ex_18]; rfl) (by decide) rfl (fun ls hl => ?_)
    refine lv_goto (tgt := 5) hx hb dX8_sum_42 (by decide) ?_
    exact ih_4 (x_18, x_17) _ _ _ ⟨(by show 0 ≤ Int32.toInt x_18; omega), (by show Int32.toInt x_18 ≤ 6; omega), (by show 6 - Int32.toInt x_18 < ((n_3 : Nat) : Int); omega), hP, hD, hS, (lv_sub hl [0, 1, 3, 4, 5] rfl)⟩
set_option maxHeartbeats 4000000 in
set_option maxRecDepth 100000 in
theorem K91_X8_came (l : Launch) (D : va_G) (cB cI cZ : ClassId) (sz : Nat) (h0 : Nat) (h1 : Nat) (h2 : Nat) (h3 : Nat)  (g0 : Value) (g1 : Value) (g2 : Value) (g3 : Value) (g4 : Value) (g5 : Value) (g6 : Value) (g7 : Value) (g8 : Value) (g9 : Value) (g10 : Value) (g11 : Value) (g12 : Value) (g13 : Value) (g14 : Value) (g15 : Value) (g16 : Value) (g17 : Value) (g18 : Value) (g19 : Value) (g20 : Value) (g21 : Value) (g22 : Value) (g23 : Value) (g24 : Value) (g25 : Value)  :
    CtV l D cB cI cZ yX8_came wsX8_came { frames := 0, cells := 0, slots := 0, locals := 0 } [.ref h0, .int 8, .int 0, .int 10] [(h0, .inr (7, [g0, g1, g2, g3, g4, g5, g6, g7, g8, g9, g10, g11, g12, g13, g14, g15, g16, g17, .int 0, .ref h1, .ref h2, .ref h3, g18, g19, g20, g21, g22, g23, g24, g25])), (h1, .inl (cI, 128, .inl zf)), (h2, .inl (cI, 128, .inl zf)), (h3, .inl (cI, 128, .inl zf))] sz 0 0
      (fun (u : (Nat → Int32) × (Nat → Int32)) => True)
      (fun u => [(h0, .inr (7, [g0, g1, g2, g3, g4, g5, g6, g7, g8, g9, g10, g11, g12, g13, g14, g15, g16, g17, .int 1, .ref h1, .ref h2, .ref h3, g18, g19, g20, g21, g22, g23, g24, g25])), (h1, .inl (cI, 128, .inl u.1)), (h2, .inl (cI, 128, .inl zf)), (h3, .inl (cI, 128, .inl u.2))]) := by
  refine mk_metV (cc := cX8_came) (maxL := 4) (ret := none) (by decide) rfl (Nat.le_of_ble_eq_true rfl) ?_
  intro p e s m below meth c A hx hb hr hml hts hown hlocks hin hP hK hN hD hA hS ls hl
  have hown : s.vm.findClass RX8 = some m.cls := hown
  have hl : lv_has ls 4 [(0, .ref h0), (1, .int 8), (2, .int 0), (3, .int 10)] := hl
  refine lv_aload_n hx hb dX8_came_0 rfl (lv_at hl 0 rfl) ?_
  refine va_get (D := D) (ci := 7) (v := .int 0) (C := RX8) (T := TX8) (N := 30) hx hb hts inX8_came_X8 hown hK hP 0 rfl rfl 18 (by decide) (hts _ wdX8_came_0) (fun _ h9 => h9) rfl dX8_came_1 ?_
  refine lv_if_le (tgt := 35) hx hb dX8_came_4 (by decide) (fun c => ?_) (fun c => absurd (by decide) c)
  refine lv_aload_n hx hb dX8_came_35 rfl (lv_at hl 0 rfl) ?_
  refine va_get (D := D) (ci := 7) (v := .ref h1) (C := RX8) (T := TX8) (N := 30) hx hb hts inX8_came_X8 hown hK hP 0 rfl rfl 19 (by decide) (hts _ wdX8_came_1) (fun _ h9 => h9) rfl dX8_came_36 ?_
  refine lv_aload_n hx hb dX8_came_39 rfl (lv_at hl 0 rfl) ?_
  refine va_get (D := D) (ci := 7) (v := .int 0) (C := RX8) (T := TX8) (N := 30) hx hb hts inX8_came_X8 hown hK hP 0 rfl rfl 18 (by decide) (hts _ wdX8_came_0) (fun _ h9 => h9) rfl dX8_came_40 ?_
  refine lv_iload_n hx hb dX8_came_43 rfl (lv_at hl 1 rfl) ?_
  refine va_iast hx hb hK hP hD hS 1 1 rfl rfl (ti_in (a := 0) (by decide) (by decide) (by decide)) dX8_came_44 (fun H locs hP hD hS => ?_)
  obtain ⟨f_1, ef_1⟩ : ∃ g : Nat → Int32, g = upd zf (Int32.toNatClampNeg 0) 8 := ⟨_, rfl⟩
  rw [← ef_1] at hP hD
  have hP : va_P D vwCl [(h0, .inr (7, [g0, g1, g2, g3, g4, g5, g6, g7, g8, g9, g10, g11, g12, g13, g14, g15, g16, g17, .int 0, .ref h1, .ref h2, .ref h3, g18, g19, g20, g21, g22, g23, g24, g25])), (h1, .inl (cI, 128, .inl f_1)), (h2, .inl (cI, 128, .inl zf)), (h3, .inl (cI, 128, .inl zf))] H := hP
  have hD : va_D A [(h0, .inr (7, [g0, g1, g2, g3, g4, g5, g6, g7, g8, g9, g10, g11, g12, g13, g14, g15, g16, g17, .int 0, .ref h1, .ref h2, .ref h3, g18, g19, g20, g21, g22, g23, g24, g25])), (h1, .inl (cI, 128, .inl f_1)), (h2, .inl (cI, 128, .inl zf)), (h3, .inl (cI, 128, .inl zf))] := hD
  refine lv_aload_n hx hb dX8_came_45 rfl (lv_at hl 0 rfl) ?_
  refine va_get (D := D) (ci := 7) (v := .ref h2) (C := RX8) (T := TX8) (N := 30) hx hb hts inX8_came_X8 hown hK hP 0 rfl rfl 20 (by decide) (hts _ wdX8_came_2) (fun _ h9 => h9) rfl dX8_came_46 ?_
  refine lv_aload_n hx hb dX8_came_49 rfl (lv_at hl 0 rfl) ?_
  refine va_get (D := D) (ci := 7) (v := .int 0) (C := RX8) (T := TX8) (N := 30) hx hb hts inX8_came_X8 hown hK hP 0 rfl rfl 18 (by decide) (hts _ wdX8_came_0) (fun _ h9 => h9) rfl dX8_came_50 ?_
  refine lv_iload_n hx hb dX8_came_53 rfl (lv_at hl 2 rfl) ?_
  refine va_iast hx hb hK hP hD hS 2 1 rfl rfl (ti_in (a := 0) (by decide) (by decide) (by decide)) dX8_came_54 (fun H locs hP hD hS => ?_)
  rw [zf_upd] at hP hD
  have hP : va_P D vwCl [(h0, .inr (7, [g0, g1, g2, g3, g4, g5, g6, g7, g8, g9, g10, g11, g12, g13, g14, g15, g16, g17, .int 0, .ref h1, .ref h2, .ref h3, g18, g19, g20, g21, g22, g23, g24, g25])), (h1, .inl (cI, 128, .inl f_1)), (h2, .inl (cI, 128, .inl zf)), (h3, .inl (cI, 128, .inl zf))] H := hP
  have hD : va_D A [(h0, .inr (7, [g0, g1, g2, g3, g4, g5, g6, g7, g8, g9, g10, g11, g12, g13, g14, g15, g16, g17, .int 0, .ref h1, .ref h2, .ref h3, g18, g19, g20, g21, g22, g23, g24, g25])), (h1, .inl (cI, 128, .inl f_1)), (h2, .inl (cI, 128, .inl zf)), (h3, .inl (cI, 128, .inl zf))] := hD
  refine lv_aload_n hx hb dX8_came_55 rfl (lv_at hl 0 rfl) ?_
  refine va_get (D := D) (ci := 7) (v := .ref h3) (C := RX8) (T := TX8) (N := 30) hx hb hts inX8_came_X8 hown hK hP 0 rfl rfl 21 (by decide) (hts _ wdX8_came_3) (fun _ h9 => h9) rfl dX8_came_56 ?_
  refine lv_aload_n hx hb dX8_came_59 rfl (lv_at hl 0 rfl) ?_
  refine va_get (D := D) (ci := 7) (v := .int 0) (C := RX8) (T := TX8) (N := 30) hx hb hts inX8_came_X8 hown hK hP 0 rfl rfl 18 (by decide) (hts _ wdX8_came_0) (fun _ h9 => h9) rfl dX8_came_60 ?_
  refine lv_iload_n hx hb dX8_came_63 rfl (lv_at hl 3 rfl) ?_
  refine va_iast hx hb hK hP hD hS 3 1 rfl rfl (ti_in (a := 0) (by decide) (by decide) (by decide)) dX8_came_64 (fun H locs hP hD hS => ?_)
  obtain ⟨f_2, ef_2⟩ : ∃ g : Nat → Int32, g = upd zf (Int32.toNatClampNeg 0) 10 := ⟨_, rfl⟩
  rw [← ef_2] at hP hD
  have hP : va_P D vwCl [(h0, .inr (7, [g0, g1, g2, g3, g4, g5, g6, g7, g8, g9, g10, g11, g12, g13, g14, g15, g16, g17, .int 0, .ref h1, .ref h2, .ref h3, g18, g19, g20, g21, g22, g23, g24, g25])), (h1, .inl (cI, 128, .inl f_1)), (h2, .inl (cI, 128, .inl zf)), (h3, .inl (cI, 128, .inl f_2))] H := hP
  have hD : va_D A [(h0, .inr (7, [g0, g1, g2, g3, g4, g5, g6, g7, g8, g9, g10, g11, g12, g13, g14, g15, g16, g17, .int 0, .ref h1, .ref h2, .ref h3, g18, g19, g20, g21, g22, g23, g24, g25])), (h1, .inl (cI, 128, .inl f_1)), (h2, .inl (cI, 128, .inl zf)), (h3, .inl (cI, 128, .inl f_2))] := hD
  refine lv_aload_n hx hb dX8_came_65 rfl (lv_at hl 0 rfl) ?_
  refine lv_dup hx hb dX8_came_66 rfl ?_
  refine va_get (D := D) (ci := 7) (v := .int 0) (C := RX8) (T := TX8) (N := 30) hx hb hts inX8_came_X8 hown hK hP 0 rfl rfl 18 (by decide) (hts _ wdX8_came_0) (fun _ h9 => h9) rfl dX8_came_67 ?_
  refine lv_iconst (v := 1) hx hb dX8_came_70 (by decide) ?_
  refine lv_iadd hx hb dX8_came_71 ?_
  refine lv_topi (fun z_3 ez_3 => ?_)
  obtain rfl : z_3 = 1 := ez_3.trans (by decide)
  refine va_put (D := D) (ci := 7) (v := .int 1) (ty := .int) (C := RX8) (T := TX8) (N := 30) hx hb hts inX8_came_X8 tyX8 tyX8_ok nmX8 hown hK hP hD hS 0 rfl rfl 18 (by decide) (hts _ wdX8_came_0) (fun _ h9 => h9) rfl (by decide +kernel) rfl rfl (Nat.le_of_ble_eq_true rfl) dX8_came_72 (fun H locs hP hD hS => ?_)
  have hP : va_P D vwCl [(h0, .inr (7, [g0, g1, g2, g3, g4, g5, g6, g7, g8, g9, g10, g11, g12, g13, g14, g15, g16, g17, .int 1, .ref h1, .ref h2, .ref h3, g18, g19, g20, g21, g22, g23, g24, g25])), (h1, .inl (cI, 128, .inl f_1)), (h2, .inl (cI, 128, .inl zf)), (h3, .inl (cI, 128, .inl f_2))] H := hP
  have hD : va_D A [(h0, .inr (7, [g0, g1, g2, g3, g4, g5, g6, g7, g8, g9, g10, g11, g12, g13, g14, g15, g16, g17, .int 1, .ref h1, .ref h2, .ref h3, g18, g19, g20, g21, g22, g23, g24, g25])), (h1, .inl (cI, 128, .inl f_1)), (h2, .inl (cI, 128, .inl zf)), (h3, .inl (cI, 128, .inl f_2))] := hD
  exact kr_v (f_1, f_2) hx hb hr hlocks hP hD hS trivial dX8_came_75
set_option maxHeartbeats 4000000 in
set_option maxRecDepth 100000 in
theorem K92_X8_at (l : Launch) (D : va_G) (cB cI cZ : ClassId) (sz : Nat)   (p0 : Int32) (i_p0 : 0 ≤ p0.toInt ∧ p0.toInt ≤ 9) :
    CtI l D cB cI cZ yX8_at wsX8_at { frames := 0, cells := 0, slots := 0, locals := 0 } [.int 8, .int p0] [] sz 0 0
      (fun (r : Int32) (u : Unit) => r.toInt = p0.toInt + 8192)
      (fun u => []) := by
  refine mk_metI (cc := cX8_at) (maxL := 2) (ret := (some .int)) (by decide) rfl (Nat.le_of_ble_eq_true rfl) ?_
  intro p e s m below meth c A hx hb hr hml hts hown hlocks hin hP hK hN hD hA hS ls hl
  have hown : s.vm.findClass RX8 = some m.cls := hown
  have hl : lv_has ls 2 [(0, .int 8), (1, .int p0)] := hl
  refine lv_sipush (v := 1024) hx hb dX8_at_0 (by decide) ?_
  refine lv_iload_n hx hb dX8_at_3 rfl (lv_at hl 0 rfl) ?_
  refine lv_imul hx hb dX8_at_4 ?_
  refine lv_topi (fun z_1 ez_1 => ?_)
  obtain rfl : z_1 = 8192 := ez_1.trans (by decide)
  refine lv_iload_n hx hb dX8_at_5 rfl (lv_at hl 1 rfl) ?_
  refine lv_iadd hx hb dX8_at_6 ?_
  refine lv_topi (fun x_2 ex_2 => ?_)
  have tx_2 : x_2.toInt = 8192 + p0.toInt := by rw [ex_2]; exact ti_add (by decide) rfl (by omega) (by omega)
  exact kr_i () hx hb hr hlocks hP hD hS (by first | omega | (show Int32.toInt x_2 = Int32.toInt p0 + 8192; omega) | decide) dX8_at_7
set_option maxHeartbeats 4000000 in
set_option maxRecDepth 100000 in
theorem K93_X8_at (l : Launch) (D : va_G) (cB cI cZ : ClassId) (sz : Nat)   (p0 : Int32) (i_p0 : 0 ≤ p0.toInt ∧ p0.toInt ≤ 1023) :
    CtI l D cB cI cZ yX8_at wsX8_at { frames := 0, cells := 0, slots := 0, locals := 0 } [.int 8, .int p0] [] sz 0 0
      (fun (r : Int32) (u : Unit) => r.toInt = p0.toInt + 8192)
      (fun u => []) := by
  refine mk_metI (cc := cX8_at) (maxL := 2) (ret := (some .int)) (by decide) rfl (Nat.le_of_ble_eq_true rfl) ?_
  intro p e s m below meth c A hx hb hr hml hts hown hlocks hin hP hK hN hD hA hS ls hl
  have hown : s.vm.findClass RX8 = some m.cls := hown
  have hl : lv_has ls 2 [(0, .int 8), (1, .int p0)] := hl
  refine lv_sipush (v := 1024) hx hb dX8_at_0 (by decide) ?_
  refine lv_iload_n hx hb dX8_at_3 rfl (lv_at hl 0 rfl) ?_
  refine lv_imul hx hb dX8_at_4 ?_
  refine lv_topi (fun z_1 ez_1 => ?_)
  obtain rfl : z_1 = 8192 := ez_1.trans (by decide)
  refine lv_iload_n hx hb dX8_at_5 rfl (lv_at hl 1 rfl) ?_
  refine lv_iadd hx hb dX8_at_6 ?_
  refine lv_topi (fun x_2 ex_2 => ?_)
  have tx_2 : x_2.toInt = 8192 + p0.toInt := by rw [ex_2]; exact ti_add (by decide) rfl (by omega) (by omega)
  exact kr_i () hx hb hr hlocks hP hD hS (by first | omega | (show Int32.toInt x_2 = Int32.toInt p0 + 8192; omega) | decide) dX8_at_7
set_option maxHeartbeats 4000000 in
set_option maxRecDepth 100000 in
theorem K86_X8_openNext (l : Launch) (D : va_G) (cB cI cZ : ClassId) (sz : Nat) (h0 : Nat) (h1 : Nat) (h2 : Nat) (h3 : Nat) (h4 : Nat) (h5 : Nat) (h6 : Nat) (h7 : Nat)  (g0 : Value) (g1 : Value) (g2 : Value) (g3 : Value) (g4 : Value) (g5 : Value) (g6 : Value) (g7 : Value) (g8 : Value) (g9 : Value) (g10 : Value) (g11 : Value) (g12 : Value) (g13 : Value) (g14 : Value) (g15 : Value) (g16 : Value) (g17 : Value) (g18 : Value)  :
    CtV l D cB cI cZ yX8_openNext wsX8_openNext { frames := 1, cells := 0, slots := 0, locals := 25 } [.ref h0] [(h0, .inr (7, [g0, g1, g2, .ref h1, g3, .ref h2, .int 0, g4, .int 0, g5, g6, g7, g8, g9, g10, g11, g12, g13, .int 0, .ref h3, .ref h4, .ref h5, g14, g15, .ref h6, .int 0, .ref h7, g16, g17, g18])), (h1, .inl (cB, 65536, .inl zf)), (h2, .inl (cI, 64, .inl zf)), (h3, .inl (cI, 128, .inl zf)), (h4, .inl (cI, 128, .inl zf)), (h5, .inl (cI, 128, .inl zf)), (h6, .inl (cB, 4096, .inl zf)), (h7, .inl (cI, 64, .inl zf))] sz 0 0
      (fun (u : (Nat → Int32) × (Nat → Int32) × (Nat → Int32) × (Nat → Int32) × (Nat → Int32)) => FB u.1 ∧ FB u.2.2.1)
      (fun u => [(h1, .inl (cB, 65536, .inl u.1)), (h2, .inl (cI, 64, .inl u.2.1)), (h7, .inl (cI, 64, .inl zf)), (h6, .inl (cB, 4096, .inl u.2.2.1)), (h0, .inr (7, [g0, g1, g2, .ref h1, g3, .ref h2, .int 8, .int 10, .int 1, g5, g6, g7, g8, g9, g10, g11, g12, g13, .int 1, .ref h3, .ref h4, .ref h5, g14, g15, .ref h6, .int 10, .ref h7, g16, g17, g18])), (h3, .inl (cI, 128, .inl u.2.2.2.1)), (h4, .inl (cI, 128, .inl zf)), (h5, .inl (cI, 128, .inl u.2.2.2.2))]) := by
  refine mk_metV (cc := cX8_openNext) (maxL := 3) (ret := none) (by decide) rfl (Nat.le_of_ble_eq_true rfl) ?_
  intro p e s m below meth c A hx hb hr hml hts hown hlocks hin hP hK hN hD hA hS ls hl
  have hown : s.vm.findClass RX8 = some m.cls := hown
  have hl : lv_has ls 3 [(0, .ref h0)] := hl
  refine lv_bipush (v := 8) hx hb dX8_openNext_0 (by decide) ?_
  refine lv_istore_n (lv' := [(1, .int 8), (0, .ref h0)]) hx hb dX8_openNext_2 rfl hl (by decide) rfl (fun ls hl => ?_)
  refine lv_aload_n hx hb dX8_openNext_3 rfl (lv_at hl 1 rfl) ?_
  refine va_get (D := D) (ci := 7) (v := .ref h2) (C := RX8) (T := TX8) (N := 30) hx hb hts inX8_openNext_X8 hown hK hP 0 rfl rfl 5 (by decide) (hts _ wdX8_openNext_0) (fun _ h9 => h9) rfl dX8_openNext_4 ?_
  refine lv_iload_n hx hb dX8_openNext_7 rfl (lv_at hl 0 rfl) ?_
  refine va_iald hx hb hK hP 2 1 rfl rfl (ti_in (a := 8) (by decide) (by decide) (by decide)) dX8_openNext_8 ?_
  refine lv_topi (fun z_1 ez_1 => ?_)
  obtain rfl : z_1 = 0 := ez_1
  refine lv_if_eq (tgt := 18) hx hb dX8_openNext_9 (by decide) (fun c => ?_) (fun c => absurd (by decide) c)
  refine lv_aload_n hx hb dX8_openNext_18 rfl (lv_at hl 1 rfl) ?_
  refine va_get (D := D) (ci := 7) (v := .int 0) (C := RX8) (T := TX8) (N := 30) hx hb hts inX8_openNext_X8 hown hK hP 0 rfl rfl 6 (by decide) (hts _ wdX8_openNext_1) (fun _ h9 => h9) rfl dX8_openNext_19 ?_
  refine lv_if_le (tgt := 35) hx hb dX8_openNext_22 (by decide) (fun c => ?_) (fun c => absurd (by decide) c)
  refine lv_aload_n hx hb dX8_openNext_35 rfl (lv_at hl 1 rfl) ?_
  refine va_get (D := D) (ci := 7) (v := .ref h2) (C := RX8) (T := TX8) (N := 30) hx hb hts inX8_openNext_X8 hown hK hP 0 rfl rfl 5 (by decide) (hts _ wdX8_openNext_0) (fun _ h9 => h9) rfl dX8_openNext_36 ?_
  refine lv_iload_n hx hb dX8_openNext_39 rfl (lv_at hl 0 rfl) ?_
  refine lv_iconst (v := 2) hx hb dX8_openNext_40 (by decide) ?_
  refine va_iast hx hb hK hP hD hS 2 1 rfl rfl (ti_in (a := 8) (by decide) (by decide) (by decide)) dX8_openNext_41 (fun H locs hP hD hS => ?_)
  obtain ⟨f_2, ef_2⟩ : ∃ g : Nat → Int32, g = upd zf (Int32.toNatClampNeg 8) 2 := ⟨_, rfl⟩
  rw [← ef_2] at hP hD
  have hP : va_P D vwCl [(h0, .inr (7, [g0, g1, g2, .ref h1, g3, .ref h2, .int 0, g4, .int 0, g5, g6, g7, g8, g9, g10, g11, g12, g13, .int 0, .ref h3, .ref h4, .ref h5, g14, g15, .ref h6, .int 0, .ref h7, g16, g17, g18])), (h1, .inl (cB, 65536, .inl zf)), (h2, .inl (cI, 64, .inl f_2)), (h3, .inl (cI, 128, .inl zf)), (h4, .inl (cI, 128, .inl zf)), (h5, .inl (cI, 128, .inl zf)), (h6, .inl (cB, 4096, .inl zf)), (h7, .inl (cI, 64, .inl zf))] H := hP
  have hD : va_D A [(h0, .inr (7, [g0, g1, g2, .ref h1, g3, .ref h2, .int 0, g4, .int 0, g5, g6, g7, g8, g9, g10, g11, g12, g13, .int 0, .ref h3, .ref h4, .ref h5, g14, g15, .ref h6, .int 0, .ref h7, g16, g17, g18])), (h1, .inl (cB, 65536, .inl zf)), (h2, .inl (cI, 64, .inl f_2)), (h3, .inl (cI, 128, .inl zf)), (h4, .inl (cI, 128, .inl zf)), (h5, .inl (cI, 128, .inl zf)), (h6, .inl (cB, 4096, .inl zf)), (h7, .inl (cI, 64, .inl zf))] := hD
  refine lv_aload_n hx hb dX8_openNext_42 rfl (lv_at hl 1 rfl) ?_
  refine lv_iload_n hx hb dX8_openNext_43 rfl (lv_at hl 0 rfl) ?_
  refine va_put (D := D) (ci := 7) (v := .int 8) (ty := .int) (C := RX8) (T := TX8) (N := 30) hx hb hts inX8_openNext_X8 tyX8 tyX8_ok nmX8 hown hK hP hD hS 0 rfl rfl 6 (by decide) (hts _ wdX8_openNext_1) (fun _ h9 => h9) rfl (by decide +kernel) rfl rfl (Nat.le_of_ble_eq_true rfl) dX8_openNext_44 (fun H locs hP hD hS => ?_)
  have hP : va_P D vwCl [(h0, .inr (7, [g0, g1, g2, .ref h1, g3, .ref h2, .int 8, g4, .int 0, g5, g6, g7, g8, g9, g10, g11, g12, g13, .int 0, .ref h3, .ref h4, .ref h5, g14, g15, .ref h6, .int 0, .ref h7, g16, g17, g18])), (h1, .inl (cB, 65536, .inl zf)), (h2, .inl (cI, 64, .inl f_2)), (h3, .inl (cI, 128, .inl zf)), (h4, .inl (cI, 128, .inl zf)), (h5, .inl (cI, 128, .inl zf)), (h6, .inl (cB, 4096, .inl zf)), (h7, .inl (cI, 64, .inl zf))] H := hP
  have hD : va_D A [(h0, .inr (7, [g0, g1, g2, .ref h1, g3, .ref h2, .int 8, g4, .int 0, g5, g6, g7, g8, g9, g10, g11, g12, g13, .int 0, .ref h3, .ref h4, .ref h5, g14, g15, .ref h6, .int 0, .ref h7, g16, g17, g18])), (h1, .inl (cB, 65536, .inl zf)), (h2, .inl (cI, 64, .inl f_2)), (h3, .inl (cI, 128, .inl zf)), (h4, .inl (cI, 128, .inl zf)), (h5, .inl (cI, 128, .inl zf)), (h6, .inl (cB, 4096, .inl zf)), (h7, .inl (cI, 64, .inl zf))] := hD
  refine lv_aload_n hx hb dX8_openNext_47 rfl (lv_at hl 1 rfl) ?_
  refine lv_dup hx hb dX8_openNext_48 rfl ?_
  refine va_get (D := D) (ci := 7) (v := .int 0) (C := RX8) (T := TX8) (N := 30) hx hb hts inX8_openNext_X8 hown hK hP 0 rfl rfl 8 (by decide) (hts _ wdX8_openNext_2) (fun _ h9 => h9) rfl dX8_openNext_49 ?_
  refine lv_iconst (v := 1) hx hb dX8_openNext_52 (by decide) ?_
  refine lv_iadd hx hb dX8_openNext_53 ?_
  refine lv_topi (fun z_3 ez_3 => ?_)
  obtain rfl : z_3 = 1 := ez_3.trans (by decide)
  refine va_put (D := D) (ci := 7) (v := .int 1) (ty := .int) (C := RX8) (T := TX8) (N := 30) hx hb hts inX8_openNext_X8 tyX8 tyX8_ok nmX8 hown hK hP hD hS 0 rfl rfl 8 (by decide) (hts _ wdX8_openNext_2) (fun _ h9 => h9) rfl (by decide +kernel) rfl rfl (Nat.le_of_ble_eq_true rfl) dX8_openNext_54 (fun H locs hP hD hS => ?_)
  have hP : va_P D vwCl [(h0, .inr (7, [g0, g1, g2, .ref h1, g3, .ref h2, .int 8, g4, .int 1, g5, g6, g7, g8, g9, g10, g11, g12, g13, .int 0, .ref h3, .ref h4, .ref h5, g14, g15, .ref h6, .int 0, .ref h7, g16, g17, g18])), (h1, .inl (cB, 65536, .inl zf)), (h2, .inl (cI, 64, .inl f_2)), (h3, .inl (cI, 128, .inl zf)), (h4, .inl (cI, 128, .inl zf)), (h5, .inl (cI, 128, .inl zf)), (h6, .inl (cB, 4096, .inl zf)), (h7, .inl (cI, 64, .inl zf))] H := hP
  have hD : va_D A [(h0, .inr (7, [g0, g1, g2, .ref h1, g3, .ref h2, .int 8, g4, .int 1, g5, g6, g7, g8, g9, g10, g11, g12, g13, .int 0, .ref h3, .ref h4, .ref h5, g14, g15, .ref h6, .int 0, .ref h7, g16, g17, g18])), (h1, .inl (cB, 65536, .inl zf)), (h2, .inl (cI, 64, .inl f_2)), (h3, .inl (cI, 128, .inl zf)), (h4, .inl (cI, 128, .inl zf)), (h5, .inl (cI, 128, .inl zf)), (h6, .inl (cB, 4096, .inl zf)), (h7, .inl (cI, 64, .inl zf))] := hD
  refine lv_iconst (v := 0) hx hb dX8_openNext_57 (by decide) ?_
  refine lv_istore_n (lv' := [(2, .int 0), (1, .int 8), (0, .ref h0)]) hx hb dX8_openNext_58 rfl hl (by decide) rfl (fun ls hl => ?_)
  refine kl (α := Int32) (fun n a H locs ls => (0 ≤ Int32.toInt a) ∧ (Int32.toInt a ≤ 1024) ∧ (1024 - Int32.toInt a < ((n : Nat) : Int)) ∧ va_P D vwCl [(h0, .inr (7, [g0, g1, g2, .ref h1, g3, .ref h2, .int 8, g4, .int 1, g5, g6, g7, g8, g9, g10, g11, g12, g13, .int 0, .ref h3, .ref h4, .ref h5, g14, g15, .ref h6, .int 0, .ref h7, g16, g17, g18])), (h1, .inl (cB, 65536, .inl zf)), (h2, .inl (cI, 64, .inl f_2)), (h3, .inl (cI, 128, .inl zf)), (h4, .inl (cI, 128, .inl zf)), (h5, .inl (cI, 128, .inl zf)), (h6, .inl (cB, 4096, .inl zf)), (h7, .inl (cI, 64, .inl zf))] H ∧ va_D A [(h0, .inr (7, [g0, g1, g2, .ref h1, g3, .ref h2, .int 8, g4, .int 1, g5, g6, g7, g8, g9, g10, g11, g12, g13, .int 0, .ref h3, .ref h4, .ref h5, g14, g15, .ref h6, .int 0, .ref h7, g16, g17, g18])), (h1, .inl (cB, 65536, .inl zf)), (h2, .inl (cI, 64, .inl f_2)), (h3, .inl (cI, 128, .inl zf)), (h4, .inl (cI, 128, .inl zf)), (h5, .inl (cI, 128, .inl zf)), (h6, .inl (cB, 4096, .inl zf)), (h7, .inl (cI, 64, .inl zf))] ∧ va_S A s.heap H locs ∧ lv_has ls 3 [(2, .int a), (1, .int 8), (0, .ref h0)]) 1025 0 ⟨(by show 0 ≤ Int32.toInt 0; decide), (by show Int32.toInt 0 ≤ 1024; decide), (by show 1024 - Int32.toInt 0 < ((1025 : Nat) : Int); have := (by decide : Int32.toInt 0 = 0); omega), hP, hD, hS, hl⟩ (fun a H locs ls h => ?_) (fun n_5 ih_6 a H locs ls h => ?_)
  · obtain ⟨j_7, j_8, j_9, _⟩ := h
    omega
  obtain ⟨v_4, rfl⟩ : ∃ z, z = a := ⟨_, rfl⟩
  obtain ⟨j_7, j_8, j_9, hP, hD, hS, hl⟩ := h
  have j_7 : 0 ≤ Int32.toInt v_4 := j_7
  have j_8 : Int32.toInt v_4 ≤ 1024 := j_8
  have j_9 : 1024 - Int32.toInt v_4 < ((n_5 + 1 : Nat) : Int) := j_9
  have hP : va_P D vwCl [(h0, .inr (7, [g0, g1, g2, .ref h1, g3, .ref h2, .int 8, g4, .int 1, g5, g6, g7, g8, g9, g10, g11, g12, g13, .int 0, .ref h3, .ref h4, .ref h5, g14, g15, .ref h6, .int 0, .ref h7, g16, g17, g18])), (h1, .inl (cB, 65536, .inl zf)), (h2, .inl (cI, 64, .inl f_2)), (h3, .inl (cI, 128, .inl zf)), (h4, .inl (cI, 128, .inl zf)), (h5, .inl (cI, 128, .inl zf)), (h6, .inl (cB, 4096, .inl zf)), (h7, .inl (cI, 64, .inl zf))] H := hP
  have hD : va_D A [(h0, .inr (7, [g0, g1, g2, .ref h1, g3, .ref h2, .int 8, g4, .int 1, g5, g6, g7, g8, g9, g10, g11, g12, g13, .int 0, .ref h3, .ref h4, .ref h5, g14, g15, .ref h6, .int 0, .ref h7, g16, g17, g18])), (h1, .inl (cB, 65536, .inl zf)), (h2, .inl (cI, 64, .inl f_2)), (h3, .inl (cI, 128, .inl zf)), (h4, .inl (cI, 128, .inl zf)), (h5, .inl (cI, 128, .inl zf)), (h6, .inl (cB, 4096, .inl zf)), (h7, .inl (cI, 64, .inl zf))] := hD
  have hl : lv_has ls 3 [(2, .int v_4), (1, .int 8), (0, .ref h0)] := hl
  refine lv_iload_n hx hb dX8_openNext_59 rfl (lv_at hl 0 rfl) ?_
  refine lv_sipush (v := 1024) hx hb dX8_openNext_60 (by decide) ?_
  refine lv_icmp_ge (tgt := 83) hx hb dX8_openNext_63 (by decide) (fun c => ?_) (fun c => ?_)
  · skip
    have k_10 := (ti_le (x := 1024) (y := v_4) (a := 1024) (b := v_4.toInt) (by decide) rfl).mp c
    obtain rfl : v_4 = 1024 := ti_inj (a := 1024) (by decide) (by omega)
    refine lv_aload_n hx hb dX8_openNext_83 rfl (lv_at hl 2 rfl) ?_
    refine lv_iconst (v := 0) hx hb dX8_openNext_84 (by decide) ?_
    refine va_put (D := D) (ci := 7) (v := .int 0) (ty := .int) (C := RX8) (T := TX8) (N := 30) hx hb hts inX8_openNext_X8 tyX8 tyX8_ok nmX8 hown hK hP hD hS 0 rfl rfl 25 (by decide) (hts _ wdX8_openNext_3) (fun _ h9 => h9) rfl (by decide +kernel) rfl rfl (Nat.le_of_ble_eq_true rfl) dX8_openNext_85 (fun H locs hP hD hS => ?_)
    have hP : va_P D vwCl [(h0, .inr (7, [g0, g1, g2, .ref h1, g3, .ref h2, .int 8, g4, .int 1, g5, g6, g7, g8, g9, g10, g11, g12, g13, .int 0, .ref h3, .ref h4, .ref h5, g14, g15, .ref h6, .int 0, .ref h7, g16, g17, g18])), (h1, .inl (cB, 65536, .inl zf)), (h2, .inl (cI, 64, .inl f_2)), (h3, .inl (cI, 128, .inl zf)), (h4, .inl (cI, 128, .inl zf)), (h5, .inl (cI, 128, .inl zf)), (h6, .inl (cB, 4096, .inl zf)), (h7, .inl (cI, 64, .inl zf))] H := hP
    have hD : va_D A [(h0, .inr (7, [g0, g1, g2, .ref h1, g3, .ref h2, .int 8, g4, .int 1, g5, g6, g7, g8, g9, g10, g11, g12, g13, .int 0, .ref h3, .ref h4, .ref h5, g14, g15, .ref h6, .int 0, .ref h7, g16, g17, g18])), (h1, .inl (cB, 65536, .inl zf)), (h2, .inl (cI, 64, .inl f_2)), (h3, .inl (cI, 128, .inl zf)), (h4, .inl (cI, 128, .inl zf)), (h5, .inl (cI, 128, .inl zf)), (h6, .inl (cB, 4096, .inl zf)), (h7, .inl (cI, 64, .inl zf))] := hD
    refine lv_aload_n hx hb dX8_openNext_88 rfl (lv_at hl 2 rfl) ?_
    refine lv_bipush (v := 76) hx hb dX8_openNext_89 (by decide) ?_
    refine lv_iconst (v := 1) hx hb dX8_openNext_91 (by decide) ?_
    refine kc_v (wr := [(h1, .inl (cB, 65536, .inl zf)), (h2, .inl (cI, 64, .inl f_2)), (h3, .inl (cI, 128, .inl zf)), (h4, .inl (cI, 128, .inl zf)), (h5, .inl (cI, 128, .inl zf)), (h7, .inl (cI, 64, .inl zf))]) (va_runV (As := [.int 76, .int 1]) (rest := []) ⟨hx, hb, hml, hown, hts⟩ (K87_X8_octets l D cB cI cZ _ h0 h6 76 (g0) (g1) (g2) ((.ref h1)) (g3) ((.ref h2)) ((.int 8)) (g4) ((.int 1)) (g5) (g6) (g7) (g8) (g9) (g10) (g11) (g12) (g13) ((.int 0)) ((.ref h3)) ((.ref h4)) ((.ref h5)) (g14) (g15) 0 ((.ref h7)) (g16) (g17) (g18) (by decide)) (cwV 2 hts gX8_openNext_X8_octets rfl rfl rfl (by decide +kernel) ⟨Nat.le_of_ble_eq_true rfl, Nat.le_of_ble_eq_true rfl⟩) (pre_V (q := (RX8, TX8, 30)) (ci := 7) (q0 := 0) (hP.sub [0, 6] rfl) hK hN (hD.sub [0, 6] (by decide) rfl) rfl rfl) rfl rfl hl.1 rfl (lv_room (Nat.le_of_ble_eq_true rfl)) dX8_openNext_92 ⟨Nat.le_of_ble_eq_true rfl, Nat.le_of_ble_eq_true rfl⟩) hP hD hS hA [0, 6] [1, 2, 3, 4, 5, 7] rfl rfl (by decide) (by decide) (fun  u H locs hw hP hD hS => ?_)
    obtain ⟨x_11, f_12⟩ := u
    obtain ⟨k_13, bf_12⟩ := hw
    obtain rfl : x_11 = 1 := ti_inj (a := 1) (by decide) (k_13.trans (by decide))
    have bf_12 : FB f_12 := bf_12
    have hP : va_P D vwCl [(h1, .inl (cB, 65536, .inl zf)), (h2, .inl (cI, 64, .inl f_2)), (h3, .inl (cI, 128, .inl zf)), (h4, .inl (cI, 128, .inl zf)), (h5, .inl (cI, 128, .inl zf)), (h7, .inl (cI, 64, .inl zf)), (h0, .inr (7, [g0, g1, g2, .ref h1, g3, .ref h2, .int 8, g4, .int 1, g5, g6, g7, g8, g9, g10, g11, g12, g13, .int 0, .ref h3, .ref h4, .ref h5, g14, g15, .ref h6, .int 1, .ref h7, g16, g17, g18])), (h6, .inl (cB, 4096, .inl f_12))] H := hP
    have hD : va_D A [(h1, .inl (cB, 65536, .inl zf)), (h2, .inl (cI, 64, .inl f_2)), (h3, .inl (cI, 128, .inl zf)), (h4, .inl (cI, 128, .inl zf)), (h5, .inl (cI, 128, .inl zf)), (h7, .inl (cI, 64, .inl zf)), (h0, .inr (7, [g0, g1, g2, .ref h1, g3, .ref h2, .int 8, g4, .int 1, g5, g6, g7, g8, g9, g10, g11, g12, g13, .int 0, .ref h3, .ref h4, .ref h5, g14, g15, .ref h6, .int 1, .ref h7, g16, g17, g18])), (h6, .inl (cB, 4096, .inl f_12))] := hD
    refine lv_aload_n hx hb dX8_openNext_95 rfl (lv_at hl 2 rfl) ?_
    refine lv_bipush (v := 71) hx hb dX8_openNext_96 (by decide) ?_
    refine lv_iconst (v := 1) hx hb dX8_openNext_98 (by decide) ?_
    refine kc_v (wr := [(h1, .inl (cB, 65536, .inl zf)), (h2, .inl (cI, 64, .inl f_2)), (h3, .inl (cI, 128, .inl zf)), (h4, .inl (cI, 128, .inl zf)), (h5, .inl (cI, 128, .inl zf)), (h7, .inl (cI, 64, .inl zf))]) (va_runV (As := [.int 71, .int 1]) (rest := []) ⟨hx, hb, hml, hown, hts⟩ (K88_X8_octets l D cB cI cZ _ h0 h6 71 (g0) (g1) (g2) ((.ref h1)) (g3) ((.ref h2)) ((.int 8)) (g4) ((.int 1)) (g5) (g6) (g7) (g8) (g9) (g10) (g11) (g12) (g13) ((.int 0)) ((.ref h3)) ((.ref h4)) ((.ref h5)) (g14) (g15) 1 ((.ref h7)) (g16) (g17) (g18) f_12 (by decide) bf_12) (cwV 2 hts gX8_openNext_X8_octets rfl rfl rfl (by decide +kernel) ⟨Nat.le_of_ble_eq_true rfl, Nat.le_of_ble_eq_true rfl⟩) (pre_V (q := (RX8, TX8, 30)) (ci := 7) (q0 := 0) (hP.sub [6, 7] rfl) hK hN (hD.sub [6, 7] (by decide) rfl) rfl rfl) rfl rfl hl.1 rfl (lv_room (Nat.le_of_ble_eq_true rfl)) dX8_openNext_99 ⟨Nat.le_of_ble_eq_true rfl, Nat.le_of_ble_eq_true rfl⟩) hP hD hS hA [6, 7] [0, 1, 2, 3, 4, 5] rfl rfl (by decide) (by decide) (fun  u H locs hw hP hD hS => ?_)
    obtain ⟨x_14, f_15⟩ := u
    obtain ⟨k_16, bf_15⟩ := hw
    obtain rfl : x_14 = 2 := ti_inj (a := 2) (by decide) (k_16.trans (by decide))
    have bf_15 : FB f_15 := bf_15
    have hP : va_P D vwCl [(h1, .inl (cB, 65536, .inl zf)), (h2, .inl (cI, 64, .inl f_2)), (h3, .inl (cI, 128, .inl zf)), (h4, .inl (cI, 128, .inl zf)), (h5, .inl (cI, 128, .inl zf)), (h7, .inl (cI, 64, .inl zf)), (h0, .inr (7, [g0, g1, g2, .ref h1, g3, .ref h2, .int 8, g4, .int 1, g5, g6, g7, g8, g9, g10, g11, g12, g13, .int 0, .ref h3, .ref h4, .ref h5, g14, g15, .ref h6, .int 2, .ref h7, g16, g17, g18])), (h6, .inl (cB, 4096, .inl f_15))] H := hP
    have hD : va_D A [(h1, .inl (cB, 65536, .inl zf)), (h2, .inl (cI, 64, .inl f_2)), (h3, .inl (cI, 128, .inl zf)), (h4, .inl (cI, 128, .inl zf)), (h5, .inl (cI, 128, .inl zf)), (h7, .inl (cI, 64, .inl zf)), (h0, .inr (7, [g0, g1, g2, .ref h1, g3, .ref h2, .int 8, g4, .int 1, g5, g6, g7, g8, g9, g10, g11, g12, g13, .int 0, .ref h3, .ref h4, .ref h5, g14, g15, .ref h6, .int 2, .ref h7, g16, g17, g18])), (h6, .inl (cB, 4096, .inl f_15))] := hD
    refine lv_aload_n hx hb dX8_openNext_102 rfl (lv_at hl 2 rfl) ?_
    refine lv_aload_n hx hb dX8_openNext_103 rfl (lv_at hl 2 rfl) ?_
    refine va_get (D := D) (ci := 7) (v := .int 1) (C := RX8) (T := TX8) (N := 30) hx hb hts inX8_openNext_X8 hown hK hP 6 rfl rfl 8 (by decide) (hts _ wdX8_openNext_2) (fun _ h9 => h9) rfl dX8_openNext_104 ?_
    refine lv_iconst (v := 4) hx hb dX8_openNext_107 (by decide) ?_
    refine kc_v (wr := [(h1, .inl (cB, 65536, .inl zf)), (h2, .inl (cI, 64, .inl f_2)), (h3, .inl (cI, 128, .inl zf)), (h4, .inl (cI, 128, .inl zf)), (h5, .inl (cI, 128, .inl zf)), (h7, .inl (cI, 64, .inl zf))]) (va_runV (As := [.int 1, .int 4]) (rest := []) ⟨hx, hb, hml, hown, hts⟩ (K89_X8_octets l D cB cI cZ _ h0 h6 1 (g0) (g1) (g2) ((.ref h1)) (g3) ((.ref h2)) ((.int 8)) (g4) ((.int 1)) (g5) (g6) (g7) (g8) (g9) (g10) (g11) (g12) (g13) ((.int 0)) ((.ref h3)) ((.ref h4)) ((.ref h5)) (g14) (g15) 2 ((.ref h7)) (g16) (g17) (g18) f_15 (by decide) bf_15) (cwV 2 hts gX8_openNext_X8_octets rfl rfl rfl (by decide +kernel) ⟨Nat.le_of_ble_eq_true rfl, Nat.le_of_ble_eq_true rfl⟩) (pre_V (q := (RX8, TX8, 30)) (ci := 7) (q0 := 0) (hP.sub [6, 7] rfl) hK hN (hD.sub [6, 7] (by decide) rfl) rfl rfl) rfl rfl hl.1 rfl (lv_room (Nat.le_of_ble_eq_true rfl)) dX8_openNext_108 ⟨Nat.le_of_ble_eq_true rfl, Nat.le_of_ble_eq_true rfl⟩) hP hD hS hA [6, 7] [0, 1, 2, 3, 4, 5] rfl rfl (by decide) (by decide) (fun  u H locs hw hP hD hS => ?_)
    obtain ⟨x_17, f_18⟩ := u
    obtain ⟨k_19, bf_18⟩ := hw
    obtain rfl : x_17 = 6 := ti_inj (a := 6) (by decide) (k_19.trans (by decide))
    have bf_18 : FB f_18 := bf_18
    have hP : va_P D vwCl [(h1, .inl (cB, 65536, .inl zf)), (h2, .inl (cI, 64, .inl f_2)), (h3, .inl (cI, 128, .inl zf)), (h4, .inl (cI, 128, .inl zf)), (h5, .inl (cI, 128, .inl zf)), (h7, .inl (cI, 64, .inl zf)), (h0, .inr (7, [g0, g1, g2, .ref h1, g3, .ref h2, .int 8, g4, .int 1, g5, g6, g7, g8, g9, g10, g11, g12, g13, .int 0, .ref h3, .ref h4, .ref h5, g14, g15, .ref h6, .int 6, .ref h7, g16, g17, g18])), (h6, .inl (cB, 4096, .inl f_18))] H := hP
    have hD : va_D A [(h1, .inl (cB, 65536, .inl zf)), (h2, .inl (cI, 64, .inl f_2)), (h3, .inl (cI, 128, .inl zf)), (h4, .inl (cI, 128, .inl zf)), (h5, .inl (cI, 128, .inl zf)), (h7, .inl (cI, 64, .inl zf)), (h0, .inr (7, [g0, g1, g2, .ref h1, g3, .ref h2, .int 8, g4, .int 1, g5, g6, g7, g8, g9, g10, g11, g12, g13, .int 0, .ref h3, .ref h4, .ref h5, g14, g15, .ref h6, .int 6, .ref h7, g16, g17, g18])), (h6, .inl (cB, 4096, .inl f_18))] := hD
    refine lv_aload_n hx hb dX8_openNext_111 rfl (lv_at hl 2 rfl) ?_
    refine lv_aload_n hx hb dX8_openNext_112 rfl (lv_at hl 2 rfl) ?_
    refine va_get (D := D) (ci := 7) (v := .ref h6) (C := RX8) (T := TX8) (N := 30) hx hb hts inX8_openNext_X8 hown hK hP 6 rfl rfl 24 (by decide) (hts _ wdX8_openNext_4) (fun _ h9 => h9) rfl dX8_openNext_113 ?_
    refine lv_iconst (v := 0) hx hb dX8_openNext_116 (by decide) ?_
    refine lv_bipush (v := 6) hx hb dX8_openNext_117 (by decide) ?_
    refine kc_i (wr := [(h1, .inl (cB, 65536, .inl zf)), (h2, .inl (cI, 64, .inl f_2)), (h3, .inl (cI, 128, .inl zf)), (h4, .inl (cI, 128, .inl zf)), (h5, .inl (cI, 128, .inl zf)), (h7, .inl (cI, 64, .inl zf)), (h0, .inr (7, [g0, g1, g2, .ref h1, g3, .ref h2, .int 8, g4, .int 1, g5, g6, g7, g8, g9, g10, g11, g12, g13, .int 0, .ref h3, .ref h4, .ref h5, g14, g15, .ref h6, .int 6, .ref h7, g16, g17, g18]))]) (va_runS (As := [.ref h6, .int 0, .int 6]) (rest := [.ref h0]) ⟨hx, hb, hml, hown, hts⟩ (K90_X8_sum l D cB cI cZ _ h6 f_18 bf_18) (va_cwS 3 hts gX8_openNext_X8_sum rfl rfl rfl (by decide +kernel) ⟨Nat.le_of_ble_eq_true rfl, Nat.le_of_ble_eq_true rfl⟩) (pre_S (hP.sub [7] rfl) hK hN (hD.sub [7] (by decide) rfl)) rfl rfl hl.1 rfl (lv_room (Nat.le_of_ble_eq_true rfl)) dX8_openNext_119 ⟨Nat.le_of_ble_eq_true rfl, Nat.le_of_ble_eq_true rfl⟩) hP hD hS hA [7] [0, 1, 2, 3, 4, 5, 6] rfl rfl (by decide) (by decide) (fun r_20 u H locs hw hP hD hS => ?_)
    have hP : va_P D vwCl [(h1, .inl (cB, 65536, .inl zf)), (h2, .inl (cI, 64, .inl f_2)), (h3, .inl (cI, 128, .inl zf)), (h4, .inl (cI, 128, .inl zf)), (h5, .inl (cI, 128, .inl zf)), (h7, .inl (cI, 64, .inl zf)), (h0, .inr (7, [g0, g1, g2, .ref h1, g3, .ref h2, .int 8, g4, .int 1, g5, g6, g7, g8, g9, g10, g11, g12, g13, .int 0, .ref h3, .ref h4, .ref h5, g14, g15, .ref h6, .int 6, .ref h7, g16, g17, g18])), (h6, .inl (cB, 4096, .inl f_18))] H := hP
    have hD : va_D A [(h1, .inl (cB, 65536, .inl zf)), (h2, .inl (cI, 64, .inl f_2)), (h3, .inl (cI, 128, .inl zf)), (h4, .inl (cI, 128, .inl zf)), (h5, .inl (cI, 128, .inl zf)), (h7, .inl (cI, 64, .inl zf)), (h0, .inr (7, [g0, g1, g2, .ref h1, g3, .ref h2, .int 8, g4, .int 1, g5, g6, g7, g8, g9, g10, g11, g12, g13, .int 0, .ref h3, .ref h4, .ref h5, g14, g15, .ref h6, .int 6, .ref h7, g16, g17, g18])), (h6, .inl (cB, 4096, .inl f_18))] := hD
    refine lv_iconst (v := 4) hx hb dX8_openNext_122 (by decide) ?_
    refine kc_v (wr := [(h1, .inl (cB, 65536, .inl zf)), (h2, .inl (cI, 64, .inl f_2)), (h3, .inl (cI, 128, .inl zf)), (h4, .inl (cI, 128, .inl zf)), (h5, .inl (cI, 128, .inl zf)), (h7, .inl (cI, 64, .inl zf))]) (va_runV (As := [.int r_20, .int 4]) (rest := []) ⟨hx, hb, hml, hown, hts⟩ (K89_X8_octets l D cB cI cZ _ h0 h6 r_20 (g0) (g1) (g2) ((.ref h1)) (g3) ((.ref h2)) ((.int 8)) (g4) ((.int 1)) (g5) (g6) (g7) (g8) (g9) (g10) (g11) (g12) (g13) ((.int 0)) ((.ref h3)) ((.ref h4)) ((.ref h5)) (g14) (g15) 6 ((.ref h7)) (g16) (g17) (g18) f_18 (by decide) bf_18) (cwV 2 hts gX8_openNext_X8_octets rfl rfl rfl (by decide +kernel) ⟨Nat.le_of_ble_eq_true rfl, Nat.le_of_ble_eq_true rfl⟩) (pre_V (q := (RX8, TX8, 30)) (ci := 7) (q0 := 0) (hP.sub [6, 7] rfl) hK hN (hD.sub [6, 7] (by decide) rfl) rfl rfl) rfl rfl hl.1 rfl (lv_room (Nat.le_of_ble_eq_true rfl)) dX8_openNext_123 ⟨Nat.le_of_ble_eq_true rfl, Nat.le_of_ble_eq_true rfl⟩) hP hD hS hA [6, 7] [0, 1, 2, 3, 4, 5] rfl rfl (by decide) (by decide) (fun  u H locs hw hP hD hS => ?_)
    obtain ⟨x_21, f_22⟩ := u
    obtain ⟨k_23, bf_22⟩ := hw
    obtain rfl : x_21 = 10 := ti_inj (a := 10) (by decide) (k_23.trans (by decide))
    have bf_22 : FB f_22 := bf_22
    have hP : va_P D vwCl [(h1, .inl (cB, 65536, .inl zf)), (h2, .inl (cI, 64, .inl f_2)), (h3, .inl (cI, 128, .inl zf)), (h4, .inl (cI, 128, .inl zf)), (h5, .inl (cI, 128, .inl zf)), (h7, .inl (cI, 64, .inl zf)), (h0, .inr (7, [g0, g1, g2, .ref h1, g3, .ref h2, .int 8, g4, .int 1, g5, g6, g7, g8, g9, g10, g11, g12, g13, .int 0, .ref h3, .ref h4, .ref h5, g14, g15, .ref h6, .int 10, .ref h7, g16, g17, g18])), (h6, .inl (cB, 4096, .inl f_22))] H := hP
    have hD : va_D A [(h1, .inl (cB, 65536, .inl zf)), (h2, .inl (cI, 64, .inl f_2)), (h3, .inl (cI, 128, .inl zf)), (h4, .inl (cI, 128, .inl zf)), (h5, .inl (cI, 128, .inl zf)), (h7, .inl (cI, 64, .inl zf)), (h0, .inr (7, [g0, g1, g2, .ref h1, g3, .ref h2, .int 8, g4, .int 1, g5, g6, g7, g8, g9, g10, g11, g12, g13, .int 0, .ref h3, .ref h4, .ref h5, g14, g15, .ref h6, .int 10, .ref h7, g16, g17, g18])), (h6, .inl (cB, 4096, .inl f_22))] := hD
    refine lv_iconst (v := 0) hx hb dX8_openNext_126 (by decide) ?_
    refine lv_istore_n (lv' := [(2, .int 0), (1, .int 8), (0, .ref h0)]) hx hb dX8_openNext_127 rfl hl (by decide) rfl (fun ls hl => ?_)
    refine kl (α := Int32 × (Nat → Int32)) (fun n a H locs ls => (0 ≤ Int32.toInt (a.1)) ∧ (Int32.toInt (a.1) ≤ 10) ∧ (FB (a.2)) ∧ (10 - Int32.toInt (a.1) < ((n : Nat) : Int)) ∧ va_P D vwCl [(h1, .inl (cB, 65536, .inl (a.2))), (h2, .inl (cI, 64, .inl f_2)), (h3, .inl (cI, 128, .inl zf)), (h4, .inl (cI, 128, .inl zf)), (h5, .inl (cI, 128, .inl zf)), (h7, .inl (cI, 64, .inl zf)), (h0, .inr (7, [g0, g1, g2, .ref h1, g3, .ref h2, .int 8, g4, .int 1, g5, g6, g7, g8, g9, g10, g11, g12, g13, .int 0, .ref h3, .ref h4, .ref h5, g14, g15, .ref h6, .int 10, .ref h7, g16, g17, g18])), (h6, .inl (cB, 4096, .inl f_22))] H ∧ va_D A [(h1, .inl (cB, 65536, .inl (a.2))), (h2, .inl (cI, 64, .inl f_2)), (h3, .inl (cI, 128, .inl zf)), (h4, .inl (cI, 128, .inl zf)), (h5, .inl (cI, 128, .inl zf)), (h7, .inl (cI, 64, .inl zf)), (h0, .inr (7, [g0, g1, g2, .ref h1, g3, .ref h2, .int 8, g4, .int 1, g5, g6, g7, g8, g9, g10, g11, g12, g13, .int 0, .ref h3, .ref h4, .ref h5, g14, g15, .ref h6, .int 10, .ref h7, g16, g17, g18])), (h6, .inl (cB, 4096, .inl f_22))] ∧ va_S A s.heap H locs ∧ lv_has ls 3 [(2, .int (a.1)), (1, .int 8), (0, .ref h0)]) 11 (0, zf) ⟨(by show 0 ≤ Int32.toInt 0; decide), (by show Int32.toInt 0 ≤ 10; decide), FB_zf, (by show 10 - Int32.toInt 0 < ((11 : Nat) : Int); have := (by decide : Int32.toInt 0 = 0); omega), hP, hD, hS, hl⟩ (fun a H locs ls h => ?_) (fun n_26 ih_27 a H locs ls h => ?_)
    · obtain ⟨j_28, j_29, j_30, j_31, _⟩ := h
      omega
    obtain ⟨v_25, f_24⟩ := a
    obtain ⟨j_28, j_29, j_30, j_31, hP, hD, hS, hl⟩ := h
    have j_28 : 0 ≤ Int32.toInt v_25 := j_28
    have j_29 : Int32.toInt v_25 ≤ 10 := j_29
    have bf_24 : FB f_24 := j_30
    have j_31 : 10 - Int32.toInt v_25 < ((n_26 + 1 : Nat) : Int) := j_31
    have hP : va_P D vwCl [(h1, .inl (cB, 65536, .inl f_24)), (h2, .inl (cI, 64, .inl f_2)), (h3, .inl (cI, 128, .inl zf)), (h4, .inl (cI, 128, .inl zf)), (h5, .inl (cI, 128, .inl zf)), (h7, .inl (cI, 64, .inl zf)), (h0, .inr (7, [g0, g1, g2, .ref h1, g3, .ref h2, .int 8, g4, .int 1, g5, g6, g7, g8, g9, g10, g11, g12, g13, .int 0, .ref h3, .ref h4, .ref h5, g14, g15, .ref h6, .int 10, .ref h7, g16, g17, g18])), (h6, .inl (cB, 4096, .inl f_22))] H := hP
    have hD : va_D A [(h1, .inl (cB, 65536, .inl f_24)), (h2, .inl (cI, 64, .inl f_2)), (h3, .inl (cI, 128, .inl zf)), (h4, .inl (cI, 128, .inl zf)), (h5, .inl (cI, 128, .inl zf)), (h7, .inl (cI, 64, .inl zf)), (h0, .inr (7, [g0, g1, g2, .ref h1, g3, .ref h2, .int 8, g4, .int 1, g5, g6, g7, g8, g9, g10, g11, g12, g13, .int 0, .ref h3, .ref h4, .ref h5, g14, g15, .ref h6, .int 10, .ref h7, g16, g17, g18])), (h6, .inl (cB, 4096, .inl f_22))] := hD
    have hl : lv_has ls 3 [(2, .int v_25), (1, .int 8), (0, .ref h0)] := hl
    refine lv_iload_n hx hb dX8_openNext_128 rfl (lv_at hl 0 rfl) ?_
    refine lv_bipush (v := 10) hx hb dX8_openNext_129 (by decide) ?_
    refine lv_icmp_ge (tgt := 156) hx hb dX8_openNext_131 (by decide) (fun c => ?_) (fun c => ?_)
    · skip
      have k_32 := (ti_le (x := 10) (y := v_25) (a := 10) (b := v_25.toInt) (by decide) rfl).mp c
      obtain rfl : v_25 = 10 := ti_inj (a := 10) (by decide) (by omega)
      refine lv_aload_n hx hb dX8_openNext_156 rfl (lv_at hl 2 rfl) ?_
      refine lv_bipush (v := 10) hx hb dX8_openNext_157 (by decide) ?_
      refine va_put (D := D) (ci := 7) (v := .int 10) (ty := .int) (C := RX8) (T := TX8) (N := 30) hx hb hts inX8_openNext_X8 tyX8 tyX8_ok nmX8 hown hK hP hD hS 6 rfl rfl 7 (by decide) (hts _ wdX8_openNext_5) (fun _ h9 => h9) rfl (by decide +kernel) rfl rfl (Nat.le_of_ble_eq_true rfl) dX8_openNext_159 (fun H locs hP hD hS => ?_)
      have hP : va_P D vwCl [(h1, .inl (cB, 65536, .inl f_24)), (h2, .inl (cI, 64, .inl f_2)), (h3, .inl (cI, 128, .inl zf)), (h4, .inl (cI, 128, .inl zf)), (h5, .inl (cI, 128, .inl zf)), (h7, .inl (cI, 64, .inl zf)), (h0, .inr (7, [g0, g1, g2, .ref h1, g3, .ref h2, .int 8, .int 10, .int 1, g5, g6, g7, g8, g9, g10, g11, g12, g13, .int 0, .ref h3, .ref h4, .ref h5, g14, g15, .ref h6, .int 10, .ref h7, g16, g17, g18])), (h6, .inl (cB, 4096, .inl f_22))] H := hP
      have hD : va_D A [(h1, .inl (cB, 65536, .inl f_24)), (h2, .inl (cI, 64, .inl f_2)), (h3, .inl (cI, 128, .inl zf)), (h4, .inl (cI, 128, .inl zf)), (h5, .inl (cI, 128, .inl zf)), (h7, .inl (cI, 64, .inl zf)), (h0, .inr (7, [g0, g1, g2, .ref h1, g3, .ref h2, .int 8, .int 10, .int 1, g5, g6, g7, g8, g9, g10, g11, g12, g13, .int 0, .ref h3, .ref h4, .ref h5, g14, g15, .ref h6, .int 10, .ref h7, g16, g17, g18])), (h6, .inl (cB, 4096, .inl f_22))] := hD
      refine lv_aload_n hx hb dX8_openNext_162 rfl (lv_at hl 2 rfl) ?_
      refine va_get (D := D) (ci := 7) (v := .ref h7) (C := RX8) (T := TX8) (N := 30) hx hb hts inX8_openNext_X8 hown hK hP 6 rfl rfl 26 (by decide) (hts _ wdX8_openNext_6) (fun _ h9 => h9) rfl dX8_openNext_163 ?_
      refine lv_iload_n hx hb dX8_openNext_166 rfl (lv_at hl 1 rfl) ?_
      refine lv_iconst (v := 0) hx hb dX8_openNext_167 (by decide) ?_
      refine va_iast hx hb hK hP hD hS 5 1 rfl rfl (ti_in (a := 8) (by decide) (by decide) (by decide)) dX8_openNext_168 (fun H locs hP hD hS => ?_)
      rw [zf_upd] at hP hD
      have hP : va_P D vwCl [(h1, .inl (cB, 65536, .inl f_24)), (h2, .inl (cI, 64, .inl f_2)), (h3, .inl (cI, 128, .inl zf)), (h4, .inl (cI, 128, .inl zf)), (h5, .inl (cI, 128, .inl zf)), (h7, .inl (cI, 64, .inl zf)), (h0, .inr (7, [g0, g1, g2, .ref h1, g3, .ref h2, .int 8, .int 10, .int 1, g5, g6, g7, g8, g9, g10, g11, g12, g13, .int 0, .ref h3, .ref h4, .ref h5, g14, g15, .ref h6, .int 10, .ref h7, g16, g17, g18])), (h6, .inl (cB, 4096, .inl f_22))] H := hP
      have hD : va_D A [(h1, .inl (cB, 65536, .inl f_24)), (h2, .inl (cI, 64, .inl f_2)), (h3, .inl (cI, 128, .inl zf)), (h4, .inl (cI, 128, .inl zf)), (h5, .inl (cI, 128, .inl zf)), (h7, .inl (cI, 64, .inl zf)), (h0, .inr (7, [g0, g1, g2, .ref h1, g3, .ref h2, .int 8, .int 10, .int 1, g5, g6, g7, g8, g9, g10, g11, g12, g13, .int 0, .ref h3, .ref h4, .ref h5, g14, g15, .ref h6, .int 10, .ref h7, g16, g17, g18])), (h6, .inl (cB, 4096, .inl f_22))] := hD
      refine lv_aload_n hx hb dX8_openNext_169 rfl (lv_at hl 2 rfl) ?_
      refine lv_iload_n hx hb dX8_openNext_170 rfl (lv_at hl 1 rfl) ?_
      refine lv_iconst (v := 0) hx hb dX8_openNext_171 (by decide) ?_
      refine lv_bipush (v := 10) hx hb dX8_openNext_172 (by decide) ?_
      refine kc_v (wr := [(h1, .inl (cB, 65536, .inl f_24)), (h2, .inl (cI, 64, .inl f_2)), (h7, .inl (cI, 64, .inl zf)), (h6, .inl (cB, 4096, .inl f_22))]) (va_runV (As := [.int 8, .int 0, .int 10]) (rest := []) ⟨hx, hb, hml, hown, hts⟩ (K91_X8_came l D cB cI cZ _ h0 h3 h4 h5 (g0) (g1) (g2) ((.ref h1)) (g3) ((.ref h2)) ((.int 8)) ((.int 10)) ((.int 1)) (g5) (g6) (g7) (g8) (g9) (g10) (g11) (g12) (g13) (g14) (g15) ((.ref h6)) ((.int 10)) ((.ref h7)) (g16) (g17) (g18)) (cwV 3 hts gX8_openNext_X8_came rfl rfl rfl (by decide +kernel) ⟨Nat.le_of_ble_eq_true rfl, Nat.le_of_ble_eq_true rfl⟩) (pre_V (q := (RX8, TX8, 30)) (ci := 7) (q0 := 0) (hP.sub [6, 2, 3, 4] rfl) hK hN (hD.sub [6, 2, 3, 4] (by decide) rfl) rfl rfl) rfl rfl hl.1 rfl (lv_room (Nat.le_of_ble_eq_true rfl)) dX8_openNext_174 ⟨Nat.le_of_ble_eq_true rfl, Nat.le_of_ble_eq_true rfl⟩) hP hD hS hA [6, 2, 3, 4] [0, 1, 5, 7] rfl rfl (by decide) (by decide) (fun  u H locs hw hP hD hS => ?_)
      obtain ⟨f_33, f_34⟩ := u
      have hP : va_P D vwCl [(h1, .inl (cB, 65536, .inl f_24)), (h2, .inl (cI, 64, .inl f_2)), (h7, .inl (cI, 64, .inl zf)), (h6, .inl (cB, 4096, .inl f_22)), (h0, .inr (7, [g0, g1, g2, .ref h1, g3, .ref h2, .int 8, .int 10, .int 1, g5, g6, g7, g8, g9, g10, g11, g12, g13, .int 1, .ref h3, .ref h4, .ref h5, g14, g15, .ref h6, .int 10, .ref h7, g16, g17, g18])), (h3, .inl (cI, 128, .inl f_33)), (h4, .inl (cI, 128, .inl zf)), (h5, .inl (cI, 128, .inl f_34))] H := hP
      have hD : va_D A [(h1, .inl (cB, 65536, .inl f_24)), (h2, .inl (cI, 64, .inl f_2)), (h7, .inl (cI, 64, .inl zf)), (h6, .inl (cB, 4096, .inl f_22)), (h0, .inr (7, [g0, g1, g2, .ref h1, g3, .ref h2, .int 8, .int 10, .int 1, g5, g6, g7, g8, g9, g10, g11, g12, g13, .int 1, .ref h3, .ref h4, .ref h5, g14, g15, .ref h6, .int 10, .ref h7, g16, g17, g18])), (h3, .inl (cI, 128, .inl f_33)), (h4, .inl (cI, 128, .inl zf)), (h5, .inl (cI, 128, .inl f_34))] := hD
      exact kr_v (f_24, f_2, f_22, f_33, f_34) hx hb hr hlocks hP hD hS ⟨bf_24, bf_22⟩ dX8_openNext_177
    · skip
      have k_35 := mt (ti_le (x := 10) (y := v_25) (a := 10) (b := v_25.toInt) (by decide) rfl).mpr c
      refine lv_aload_n hx hb dX8_openNext_134 rfl (lv_at hl 2 rfl) ?_
      refine va_get (D := D) (ci := 7) (v := .ref h1) (C := RX8) (T := TX8) (N := 30) hx hb hts inX8_openNext_X8 hown hK hP 6 rfl rfl 3 (by decide) (hts _ wdX8_openNext_7) (fun _ h9 => h9) rfl dX8_openNext_135 ?_
      refine lv_iload_n hx hb dX8_openNext_138 rfl (lv_at hl 1 rfl) ?_
      refine lv_iload_n hx hb dX8_openNext_139 rfl (lv_at hl 0 rfl) ?_
      refine kc_i (wr := [(h1, .inl (cB, 65536, .inl f_24)), (h2, .inl (cI, 64, .inl f_2)), (h3, .inl (cI, 128, .inl zf)), (h4, .inl (cI, 128, .inl zf)), (h5, .inl (cI, 128, .inl zf)), (h7, .inl (cI, 64, .inl zf)), (h0, .inr (7, [g0, g1, g2, .ref h1, g3, .ref h2, .int 8, g4, .int 1, g5, g6, g7, g8, g9, g10, g11, g12, g13, .int 0, .ref h3, .ref h4, .ref h5, g14, g15, .ref h6, .int 10, .ref h7, g16, g17, g18])), (h6, .inl (cB, 4096, .inl f_22))]) (va_runS (As := [.int 8, .int v_25]) (rest := [.ref h1]) ⟨hx, hb, hml, hown, hts⟩ (K92_X8_at l D cB cI cZ _ v_25 ⟨by omega, by omega⟩) (va_cwS 2 hts gX8_openNext_X8_at rfl rfl rfl (by decide +kernel) ⟨Nat.le_of_ble_eq_true rfl, Nat.le_of_ble_eq_true rfl⟩) (pre_S (hP.sub [] rfl) hK hN (hD.sub [] (by decide) rfl)) rfl rfl hl.1 rfl (lv_room (Nat.le_of_ble_eq_true rfl)) dX8_openNext_140 ⟨Nat.le_of_ble_eq_true rfl, Nat.le_of_ble_eq_true rfl⟩) hP hD hS hA [] [0, 1, 2, 3, 4, 5, 6, 7] rfl rfl (by decide) (by decide) (fun r_36 u H locs hw hP hD hS => ?_)
      have k_37 := hw
      have k_37 : r_36.toInt = v_25.toInt + 8192 := k_37
      have hP : va_P D vwCl [(h1, .inl (cB, 65536, .inl f_24)), (h2, .inl (cI, 64, .inl f_2)), (h3, .inl (cI, 128, .inl zf)), (h4, .inl (cI, 128, .inl zf)), (h5, .inl (cI, 128, .inl zf)), (h7, .inl (cI, 64, .inl zf)), (h0, .inr (7, [g0, g1, g2, .ref h1, g3, .ref h2, .int 8, g4, .int 1, g5, g6, g7, g8, g9, g10, g11, g12, g13, .int 0, .ref h3, .ref h4, .ref h5, g14, g15, .ref h6, .int 10, .ref h7, g16, g17, g18])), (h6, .inl (cB, 4096, .inl f_22))] H := hP
      have hD : va_D A [(h1, .inl (cB, 65536, .inl f_24)), (h2, .inl (cI, 64, .inl f_2)), (h3, .inl (cI, 128, .inl zf)), (h4, .inl (cI, 128, .inl zf)), (h5, .inl (cI, 128, .inl zf)), (h7, .inl (cI, 64, .inl zf)), (h0, .inr (7, [g0, g1, g2, .ref h1, g3, .ref h2, .int 8, g4, .int 1, g5, g6, g7, g8, g9, g10, g11, g12, g13, .int 0, .ref h3, .ref h4, .ref h5, g14, g15, .ref h6, .int 10, .ref h7, g16, g17, g18])), (h6, .inl (cB, 4096, .inl f_22))] := hD
      refine lv_aload_n hx hb dX8_openNext_143 rfl (lv_at hl 2 rfl) ?_
      refine va_get (D := D) (ci := 7) (v := .ref h6) (C := RX8) (T := TX8) (N := 30) hx hb hts inX8_openNext_X8 hown hK hP 6 rfl rfl 24 (by decide) (hts _ wdX8_openNext_4) (fun _ h9 => h9) rfl dX8_openNext_144 ?_
      refine lv_iload_n hx hb dX8_openNext_147 rfl (lv_at hl 0 rfl) ?_
      refine va_bald hx hb hK hP 7 0 rfl rfl (ti_in (a := v_25.toInt) rfl (by omega) (by omega)) dX8_openNext_148 ?_
      refine lv_topi (fun x_38 ex_38 => ?_)
      refine va_bast hx hb hK hP hD hS 0 0 rfl rfl (ti_in (a := r_36.toInt) rfl (by omega) (by omega)) dX8_openNext_149 (fun H locs hP hD hS => ?_)
      obtain ⟨f_39, ef_39⟩ : ∃ g : Nat → Int32, g = upd f_24 (Int32.toNatClampNeg r_36) (vp_nar .byte x_38) := ⟨_, rfl⟩
      rw [← ef_39] at hP hD
      have bf_39 : FB f_39 := by rw [ef_39]; exact FB_upd bf_24 _ _
      have hP : va_P D vwCl [(h1, .inl (cB, 65536, .inl f_39)), (h2, .inl (cI, 64, .inl f_2)), (h3, .inl (cI, 128, .inl zf)), (h4, .inl (cI, 128, .inl zf)), (h5, .inl (cI, 128, .inl zf)), (h7, .inl (cI, 64, .inl zf)), (h0, .inr (7, [g0, g1, g2, .ref h1, g3, .ref h2, .int 8, g4, .int 1, g5, g6, g7, g8, g9, g10, g11, g12, g13, .int 0, .ref h3, .ref h4, .ref h5, g14, g15, .ref h6, .int 10, .ref h7, g16, g17, g18])), (h6, .inl (cB, 4096, .inl f_22))] H := hP
      have hD : va_D A [(h1, .inl (cB, 65536, .inl f_39)), (h2, .inl (cI, 64, .inl f_2)), (h3, .inl (cI, 128, .inl zf)), (h4, .inl (cI, 128, .inl zf)), (h5, .inl (cI, 128, .inl zf)), (h7, .inl (cI, 64, .inl zf)), (h0, .inr (7, [g0, g1, g2, .ref h1, g3, .ref h2, .int 8, g4, .int 1, g5, g6, g7, g8, g9, g10, g11, g12, g13, .int 0, .ref h3, .ref h4, .ref h5, g14, g15, .ref h6, .int 10, .ref h7, g16, g17, g18])), (h6, .inl (cB, 4096, .inl f_22))] := hD
      obtain ⟨x_40, ex_40⟩ : ∃ y : Int32, y = v_25 + 1 := ⟨_, rfl⟩
      have tx_40 : x_40.toInt = v_25.toInt + 1 := by rw [ex_40]; exact ti_add rfl (by decide) (by omega) (by omega)
      refine lv_iinc (v := x_40) (lv' := [(2, .int x_40), (1, .int 8), (0, .ref h0)]) hx hb dX8_openNext_150 hl (k := 0) rfl (by rw [ex_40]; rfl) (by decide) rfl (fun ls hl => ?_)
      refine lv_goto (tgt := 128) hx hb dX8_openNext_153 (by decide) ?_
      exact ih_27 (x_40, f_39) _ _ _ ⟨(by show 0 ≤ Int32.toInt x_40; omega), (by show Int32.toInt x_40 ≤ 10; omega), bf_39, (by show 10 - Int32.toInt x_40 < ((n_26 : Nat) : Int); omega), hP, hD, hS, hl⟩
  · skip
    have k_41 := mt (ti_le (x := 1024) (y := v_4) (a := 1024) (b := v_4.toInt) (by decide) rfl).mpr c
    refine lv_aload_n hx hb dX8_openNext_66 rfl (lv_at hl 2 rfl) ?_
    refine va_get (D := D) (ci := 7) (v := .ref h1) (C := RX8) (T := TX8) (N := 30) hx hb hts inX8_openNext_X8 hown hK hP 0 rfl rfl 3 (by decide) (hts _ wdX8_openNext_7) (fun _ h9 => h9) rfl dX8_openNext_67 ?_
    refine lv_iload_n hx hb dX8_openNext_70 rfl (lv_at hl 1 rfl) ?_
    refine lv_iload_n hx hb dX8_openNext_71 rfl (lv_at hl 0 rfl) ?_
    refine kc_i (wr := [(h0, .inr (7, [g0, g1, g2, .ref h1, g3, .ref h2, .int 8, g4, .int 1, g5, g6, g7, g8, g9, g10, g11, g12, g13, .int 0, .ref h3, .ref h4, .ref h5, g14, g15, .ref h6, .int 0, .ref h7, g16, g17, g18])), (h1, .inl (cB, 65536, .inl zf)), (h2, .inl (cI, 64, .inl f_2)), (h3, .inl (cI, 128, .inl zf)), (h4, .inl (cI, 128, .inl zf)), (h5, .inl (cI, 128, .inl zf)), (h6, .inl (cB, 4096, .inl zf)), (h7, .inl (cI, 64, .inl zf))]) (va_runS (As := [.int 8, .int v_4]) (rest := [.ref h1]) ⟨hx, hb, hml, hown, hts⟩ (K93_X8_at l D cB cI cZ _ v_4 ⟨by omega, by omega⟩) (va_cwS 2 hts gX8_openNext_X8_at rfl rfl rfl (by decide +kernel) ⟨Nat.le_of_ble_eq_true rfl, Nat.le_of_ble_eq_true rfl⟩) (pre_S (hP.sub [] rfl) hK hN (hD.sub [] (by decide) rfl)) rfl rfl hl.1 rfl (lv_room (Nat.le_of_ble_eq_true rfl)) dX8_openNext_72 ⟨Nat.le_of_ble_eq_true rfl, Nat.le_of_ble_eq_true rfl⟩) hP hD hS hA [] [0, 1, 2, 3, 4, 5, 6, 7] rfl rfl (by decide) (by decide) (fun r_42 u H locs hw hP hD hS => ?_)
    have k_43 := hw
    have k_43 : r_42.toInt = v_4.toInt + 8192 := k_43
    have hP : va_P D vwCl [(h0, .inr (7, [g0, g1, g2, .ref h1, g3, .ref h2, .int 8, g4, .int 1, g5, g6, g7, g8, g9, g10, g11, g12, g13, .int 0, .ref h3, .ref h4, .ref h5, g14, g15, .ref h6, .int 0, .ref h7, g16, g17, g18])), (h1, .inl (cB, 65536, .inl zf)), (h2, .inl (cI, 64, .inl f_2)), (h3, .inl (cI, 128, .inl zf)), (h4, .inl (cI, 128, .inl zf)), (h5, .inl (cI, 128, .inl zf)), (h6, .inl (cB, 4096, .inl zf)), (h7, .inl (cI, 64, .inl zf))] H := hP
    have hD : va_D A [(h0, .inr (7, [g0, g1, g2, .ref h1, g3, .ref h2, .int 8, g4, .int 1, g5, g6, g7, g8, g9, g10, g11, g12, g13, .int 0, .ref h3, .ref h4, .ref h5, g14, g15, .ref h6, .int 0, .ref h7, g16, g17, g18])), (h1, .inl (cB, 65536, .inl zf)), (h2, .inl (cI, 64, .inl f_2)), (h3, .inl (cI, 128, .inl zf)), (h4, .inl (cI, 128, .inl zf)), (h5, .inl (cI, 128, .inl zf)), (h6, .inl (cB, 4096, .inl zf)), (h7, .inl (cI, 64, .inl zf))] := hD
    refine lv_iconst (v := 0) hx hb dX8_openNext_75 (by decide) ?_
    refine va_bast hx hb hK hP hD hS 1 0 rfl rfl (ti_in (a := r_42.toInt) rfl (by omega) (by omega)) dX8_openNext_76 (fun H locs hP hD hS => ?_)
    rw [zf_updB] at hP hD
    have hP : va_P D vwCl [(h0, .inr (7, [g0, g1, g2, .ref h1, g3, .ref h2, .int 8, g4, .int 1, g5, g6, g7, g8, g9, g10, g11, g12, g13, .int 0, .ref h3, .ref h4, .ref h5, g14, g15, .ref h6, .int 0, .ref h7, g16, g17, g18])), (h1, .inl (cB, 65536, .inl zf)), (h2, .inl (cI, 64, .inl f_2)), (h3, .inl (cI, 128, .inl zf)), (h4, .inl (cI, 128, .inl zf)), (h5, .inl (cI, 128, .inl zf)), (h6, .inl (cB, 4096, .inl zf)), (h7, .inl (cI, 64, .inl zf))] H := hP
    have hD : va_D A [(h0, .inr (7, [g0, g1, g2, .ref h1, g3, .ref h2, .int 8, g4, .int 1, g5, g6, g7, g8, g9, g10, g11, g12, g13, .int 0, .ref h3, .ref h4, .ref h5, g14, g15, .ref h6, .int 0, .ref h7, g16, g17, g18])), (h1, .inl (cB, 65536, .inl zf)), (h2, .inl (cI, 64, .inl f_2)), (h3, .inl (cI, 128, .inl zf)), (h4, .inl (cI, 128, .inl zf)), (h5, .inl (cI, 128, .inl zf)), (h6, .inl (cB, 4096, .inl zf)), (h7, .inl (cI, 64, .inl zf))] := hD
    obtain ⟨x_44, ex_44⟩ : ∃ y : Int32, y = v_4 + 1 := ⟨_, rfl⟩
    have tx_44 : x_44.toInt = v_4.toInt + 1 := by rw [ex_44]; exact ti_add rfl (by decide) (by omega) (by omega)
    refine lv_iinc (v := x_44) (lv' := [(2, .int x_44), (1, .int 8), (0, .ref h0)]) hx hb dX8_openNext_77 hl (k := 0) rfl (by rw [ex_44]; rfl) (by decide) rfl (fun ls hl => ?_)
    refine lv_goto (tgt := 59) hx hb dX8_openNext_80 (by decide) ?_
    exact ih_6 x_44 _ _ _ ⟨(by show 0 ≤ Int32.toInt x_44; omega), (by show Int32.toInt x_44 ≤ 1024; omega), (by show 1024 - Int32.toInt x_44 < ((n_5 : Nat) : Int); omega), hP, hD, hS, hl⟩
set_option maxHeartbeats 4000000 in
set_option maxRecDepth 100000 in
theorem K94_X8_octets (l : Launch) (D : va_G) (cB cI cZ : ClassId) (sz : Nat) (h0 : Nat) (h1 : Nat)  (p0 : Int32) (g0 : Value) (g1 : Value) (g2 : Value) (g3 : Value) (g4 : Value) (g5 : Value) (g6 : Value) (g7 : Value) (g8 : Value) (g9 : Value) (g10 : Value) (g11 : Value) (g12 : Value) (g13 : Value) (g14 : Value) (g15 : Value) (g16 : Value) (g17 : Value) (g18 : Value) (g19 : Value) (g20 : Value) (g21 : Value) (g22 : Value) (g23 : Value) (p1 : Int32) (g24 : Value) (g25 : Value) (g26 : Value) (g27 : Value) (f0 : Nat → Int32) (i_p1 : 0 ≤ p1.toInt ∧ p1.toInt ≤ 4000) (b_f0 : FB f0) :
    CtV l D cB cI cZ yX8_octets wsX8_octets { frames := 0, cells := 0, slots := 0, locals := 0 } [.ref h0, .int p0, .int 2] [(h0, .inr (7, [g0, g1, g2, g3, g4, g5, g6, g7, g8, g9, g10, g11, g12, g13, g14, g15, g16, g17, g18, g19, g20, g21, g22, g23, .ref h1, .int p1, g24, g25, g26, g27])), (h1, .inl (cB, 4096, .inl f0))] sz 0 0
      (fun (u : Int32 × (Nat → Int32)) => u.1.toInt = p1.toInt + 2 ∧ FB u.2)
      (fun u => [(h0, .inr (7, [g0, g1, g2, g3, g4, g5, g6, g7, g8, g9, g10, g11, g12, g13, g14, g15, g16, g17, g18, g19, g20, g21, g22, g23, .ref h1, .int u.1, g24, g25, g26, g27])), (h1, .inl (cB, 4096, .inl u.2))]) := by
  refine mk_metV (cc := cX8_octets) (maxL := 4) (ret := none) (by decide) rfl (Nat.le_of_ble_eq_true rfl) ?_
  intro p e s m below meth c A hx hb hr hml hts hown hlocks hin hP hK hN hD hA hS ls hl
  have hown : s.vm.findClass RX8 = some m.cls := hown
  have hl : lv_has ls 4 [(0, .ref h0), (1, .int p0), (2, .int 2)] := hl
  refine lv_iload_n hx hb dX8_octets_0 rfl (lv_at hl 2 rfl) ?_
  refine lv_iconst (v := 1) hx hb dX8_octets_1 (by decide) ?_
  refine lv_isub hx hb dX8_octets_2 ?_
  refine lv_topi (fun z_1 ez_1 => ?_)
  obtain rfl : z_1 = 1 := ez_1.trans (by decide)
  refine lv_istore_n (lv' := [(3, .int 1), (0, .ref h0), (1, .int p0), (2, .int 2)]) hx hb dX8_octets_3 rfl hl (by decide) rfl (fun ls hl => ?_)
  refine lv_iload_n hx hb dX8_octets_4 rfl (lv_at hl 0 rfl) ?_
  refine lv_if_lt (tgt := 40) hx hb dX8_octets_5 (by decide) (fun c => absurd c (by decide)) (fun c => ?_)
  refine lv_aload_n hx hb dX8_octets_8 rfl (lv_at hl 1 rfl) ?_
  refine va_get (D := D) (ci := 7) (v := .ref h1) (C := RX8) (T := TX8) (N := 30) hx hb hts inX8_octets_X8 hown hK hP 0 rfl rfl 24 (by decide) (hts _ wdX8_octets_0) (fun _ h9 => h9) rfl dX8_octets_9 ?_
  refine lv_aload_n hx hb dX8_octets_12 rfl (lv_at hl 1 rfl) ?_
  refine va_get (D := D) (ci := 7) (v := .int p1) (C := RX8) (T := TX8) (N := 30) hx hb hts inX8_octets_X8 hown hK hP 0 rfl rfl 25 (by decide) (hts _ wdX8_octets_1) (fun _ h9 => h9) rfl dX8_octets_13 ?_
  refine lv_iload_n hx hb dX8_octets_16 rfl (lv_at hl 2 rfl) ?_
  refine lv_bipush (v := 8) hx hb dX8_octets_17 (by decide) ?_
  refine lv_iload_n hx hb dX8_octets_19 rfl (lv_at hl 0 rfl) ?_
  refine lv_imul hx hb dX8_octets_20 ?_
  refine lv_topi (fun z_2 ez_2 => ?_)
  obtain rfl : z_2 = 8 := ez_2.trans (by decide)
  refine lv_ishr hx hb dX8_octets_21 ?_
  refine lv_topi (fun x_3 ex_3 => ?_)
  refine lv_i2b hx hb dX8_octets_22 rfl ?_
  refine lv_topi (fun x_4 ex_4 => ?_)
  refine va_bast hx hb hK hP hD hS 1 0 rfl rfl (ti_in (a := p1.toInt) rfl (by omega) (by omega)) dX8_octets_23 (fun H locs hP hD hS => ?_)
  obtain ⟨f_5, ef_5⟩ : ∃ g : Nat → Int32, g = upd f0 (Int32.toNatClampNeg p1) (vp_nar .byte x_4) := ⟨_, rfl⟩
  rw [← ef_5] at hP hD
  have bf_5 : FB f_5 := by rw [ef_5]; exact FB_upd b_f0 _ _
  have hP : va_P D vwCl [(h0, .inr (7, [g0, g1, g2, g3, g4, g5, g6, g7, g8, g9, g10, g11, g12, g13, g14, g15, g16, g17, g18, g19, g20, g21, g22, g23, .ref h1, .int p1, g24, g25, g26, g27])), (h1, .inl (cB, 4096, .inl f_5))] H := hP
  have hD : va_D A [(h0, .inr (7, [g0, g1, g2, g3, g4, g5, g6, g7, g8, g9, g10, g11, g12, g13, g14, g15, g16, g17, g18, g19, g20, g21, g22, g23, .ref h1, .int p1, g24, g25, g26, g27])), (h1, .inl (cB, 4096, .inl f_5))] := hD
  refine lv_aload_n hx hb dX8_octets_24 rfl (lv_at hl 1 rfl) ?_
  refine lv_dup hx hb dX8_octets_25 rfl ?_
  refine va_get (D := D) (ci := 7) (v := .int p1) (C := RX8) (T := TX8) (N := 30) hx hb hts inX8_octets_X8 hown hK hP 0 rfl rfl 25 (by decide) (hts _ wdX8_octets_1) (fun _ h9 => h9) rfl dX8_octets_26 ?_
  refine lv_iconst (v := 1) hx hb dX8_octets_29 (by decide) ?_
  refine lv_iadd hx hb dX8_octets_30 ?_
  refine lv_topi (fun x_6 ex_6 => ?_)
  have tx_6 : x_6.toInt = p1.toInt + 1 := by rw [ex_6]; exact ti_add rfl (by decide) (by omega) (by omega)
  refine va_put (D := D) (ci := 7) (v := .int x_6) (ty := .int) (C := RX8) (T := TX8) (N := 30) hx hb hts inX8_octets_X8 tyX8 tyX8_ok nmX8 hown hK hP hD hS 0 rfl rfl 25 (by decide) (hts _ wdX8_octets_1) (fun _ h9 => h9) rfl (by decide +kernel) rfl rfl (Nat.le_of_ble_eq_true rfl) dX8_octets_31 (fun H locs hP hD hS => ?_)
  have hP : va_P D vwCl [(h0, .inr (7, [g0, g1, g2, g3, g4, g5, g6, g7, g8, g9, g10, g11, g12, g13, g14, g15, g16, g17, g18, g19, g20, g21, g22, g23, .ref h1, .int x_6, g24, g25, g26, g27])), (h1, .inl (cB, 4096, .inl f_5))] H := hP
  have hD : va_D A [(h0, .inr (7, [g0, g1, g2, g3, g4, g5, g6, g7, g8, g9, g10, g11, g12, g13, g14, g15, g16, g17, g18, g19, g20, g21, g22, g23, .ref h1, .int x_6, g24, g25, g26, g27])), (h1, .inl (cB, 4096, .inl f_5))] := hD
  refine lv_iinc (v := 0) (lv' := [(3, .int 0), (0, .ref h0), (1, .int p0), (2, .int 2)]) hx hb dX8_octets_34 hl (k := 0) rfl (by decide) (by decide) rfl (fun ls hl => ?_)
  refine lv_goto (tgt := 4) hx hb dX8_octets_37 (by decide) ?_
  refine lv_iload_n hx hb dX8_octets_4 rfl (lv_at hl 0 rfl) ?_
  refine lv_if_lt (tgt := 40) hx hb dX8_octets_5 (by decide) (fun c => absurd c (by decide)) (fun c => ?_)
  refine lv_aload_n hx hb dX8_octets_8 rfl (lv_at hl 1 rfl) ?_
  refine va_get (D := D) (ci := 7) (v := .ref h1) (C := RX8) (T := TX8) (N := 30) hx hb hts inX8_octets_X8 hown hK hP 0 rfl rfl 24 (by decide) (hts _ wdX8_octets_0) (fun _ h9 => h9) rfl dX8_octets_9 ?_
  refine lv_aload_n hx hb dX8_octets_12 rfl (lv_at hl 1 rfl) ?_
  refine va_get (D := D) (ci := 7) (v := .int x_6) (C := RX8) (T := TX8) (N := 30) hx hb hts inX8_octets_X8 hown hK hP 0 rfl rfl 25 (by decide) (hts _ wdX8_octets_1) (fun _ h9 => h9) rfl dX8_octets_13 ?_
  refine lv_iload_n hx hb dX8_octets_16 rfl (lv_at hl 2 rfl) ?_
  refine lv_bipush (v := 8) hx hb dX8_octets_17 (by decide) ?_
  refine lv_iload_n hx hb dX8_octets_19 rfl (lv_at hl 0 rfl) ?_
  refine lv_imul hx hb dX8_octets_20 ?_
  refine lv_topi (fun z_7 ez_7 => ?_)
  obtain rfl : z_7 = 0 := ez_7.trans (by decide)
  refine lv_ishr hx hb dX8_octets_21 ?_
  refine lv_topi (fun x_8 ex_8 => ?_)
  refine lv_i2b hx hb dX8_octets_22 rfl ?_
  refine lv_topi (fun x_9 ex_9 => ?_)
  refine va_bast hx hb hK hP hD hS 1 0 rfl rfl (ti_in (a := x_6.toInt) rfl (by omega) (by omega)) dX8_octets_23 (fun H locs hP hD hS => ?_)
  obtain ⟨f_10, ef_10⟩ : ∃ g : Nat → Int32, g = upd f_5 (Int32.toNatClampNeg x_6) (vp_nar .byte x_9) := ⟨_, rfl⟩
  rw [← ef_10] at hP hD
  have bf_10 : FB f_10 := by rw [ef_10]; exact FB_upd bf_5 _ _
  have hP : va_P D vwCl [(h0, .inr (7, [g0, g1, g2, g3, g4, g5, g6, g7, g8, g9, g10, g11, g12, g13, g14, g15, g16, g17, g18, g19, g20, g21, g22, g23, .ref h1, .int x_6, g24, g25, g26, g27])), (h1, .inl (cB, 4096, .inl f_10))] H := hP
  have hD : va_D A [(h0, .inr (7, [g0, g1, g2, g3, g4, g5, g6, g7, g8, g9, g10, g11, g12, g13, g14, g15, g16, g17, g18, g19, g20, g21, g22, g23, .ref h1, .int x_6, g24, g25, g26, g27])), (h1, .inl (cB, 4096, .inl f_10))] := hD
  refine lv_aload_n hx hb dX8_octets_24 rfl (lv_at hl 1 rfl) ?_
  refine lv_dup hx hb dX8_octets_25 rfl ?_
  refine va_get (D := D) (ci := 7) (v := .int x_6) (C := RX8) (T := TX8) (N := 30) hx hb hts inX8_octets_X8 hown hK hP 0 rfl rfl 25 (by decide) (hts _ wdX8_octets_1) (fun _ h9 => h9) rfl dX8_octets_26 ?_
  refine lv_iconst (v := 1) hx hb dX8_octets_29 (by decide) ?_
  refine lv_iadd hx hb dX8_octets_30 ?_
  refine lv_topi (fun x_11 ex_11 => ?_)
  have tx_11 : x_11.toInt = x_6.toInt + 1 := by rw [ex_11]; exact ti_add rfl (by decide) (by omega) (by omega)
  refine va_put (D := D) (ci := 7) (v := .int x_11) (ty := .int) (C := RX8) (T := TX8) (N := 30) hx hb hts inX8_octets_X8 tyX8 tyX8_ok nmX8 hown hK hP hD hS 0 rfl rfl 25 (by decide) (hts _ wdX8_octets_1) (fun _ h9 => h9) rfl (by decide +kernel) rfl rfl (Nat.le_of_ble_eq_true rfl) dX8_octets_31 (fun H locs hP hD hS => ?_)
  have hP : va_P D vwCl [(h0, .inr (7, [g0, g1, g2, g3, g4, g5, g6, g7, g8, g9, g10, g11, g12, g13, g14, g15, g16, g17, g18, g19, g20, g21, g22, g23, .ref h1, .int x_11, g24, g25, g26, g27])), (h1, .inl (cB, 4096, .inl f_10))] H := hP
  have hD : va_D A [(h0, .inr (7, [g0, g1, g2, g3, g4, g5, g6, g7, g8, g9, g10, g11, g12, g13, g14, g15, g16, g17, g18, g19, g20, g21, g22, g23, .ref h1, .int x_11, g24, g25, g26, g27])), (h1, .inl (cB, 4096, .inl f_10))] := hD
  refine lv_iinc (v := (-1)) (lv' := [(3, .int (-1)), (0, .ref h0), (1, .int p0), (2, .int 2)]) hx hb dX8_octets_34 hl (k := 0) rfl (by decide) (by decide) rfl (fun ls hl => ?_)
  refine lv_goto (tgt := 4) hx hb dX8_octets_37 (by decide) ?_
  refine lv_iload_n hx hb dX8_octets_4 rfl (lv_at hl 0 rfl) ?_
  refine lv_if_lt (tgt := 40) hx hb dX8_octets_5 (by decide) (fun c => ?_) (fun c => absurd (by decide) c)
  exact kr_v (x_11, f_10) hx hb hr hlocks hP hD hS ⟨(by first | omega | (show Int32.toInt x_11 = Int32.toInt p1 + 2; omega) | decide), bf_10⟩ dX8_octets_40
set_option maxHeartbeats 4000000 in
set_option maxRecDepth 100000 in
theorem K95_X8_sum (l : Launch) (D : va_G) (cB cI cZ : ClassId) (sz : Nat) (h0 : Nat)  (f0 : Nat → Int32) (b_f0 : FB f0) :
    CtI l D cB cI cZ yX8_sum wsX8_sum { frames := 0, cells := 0, slots := 0, locals := 0 } [.ref h0, .int 0, .int 12] [(h0, .inl (cB, 4096, .inl f0))] sz 0 0
      (fun (r : Int32) (u : Unit) => True)
      (fun u => [(h0, .inl (cB, 4096, .inl f0))]) := by
  refine mk_metI (cc := cX8_sum) (maxL := 6) (ret := (some .int)) (by decide) rfl (Nat.le_of_ble_eq_true rfl) ?_
  intro p e s m below meth c A hx hb hr hml hts hown hlocks hin hP hK hN hD hA hS ls hl
  have hown : s.vm.findClass RX8 = some m.cls := hown
  have hl : lv_has ls 6 [(0, .ref h0), (1, .int 0), (2, .int 12)] := hl
  refine lv_iconst (v := 0) hx hb dX8_sum_0 (by decide) ?_
  refine lv_istore_n (lv' := [(3, .int 0), (0, .ref h0), (1, .int 0), (2, .int 12)]) hx hb dX8_sum_1 rfl hl (by decide) rfl (fun ls hl => ?_)
  refine lv_iconst (v := 0) hx hb dX8_sum_2 (by decide) ?_
  refine lv_istore (lv' := [(4, .int 0), (3, .int 0), (0, .ref h0), (1, .int 0), (2, .int 12)]) hx hb dX8_sum_3 hl (by decide) rfl (fun ls hl => ?_)
  refine kl (α := Int32 × Int32) (fun n a H locs ls => (0 ≤ Int32.toInt (a.1)) ∧ (Int32.toInt (a.1) ≤ 12) ∧ (12 - Int32.toInt (a.1) < ((n : Nat) : Int)) ∧ va_P D vwCl [(h0, .inl (cB, 4096, .inl f0))] H ∧ va_D A [(h0, .inl (cB, 4096, .inl f0))] ∧ va_S A s.heap H locs ∧ lv_has ls 6 [(4, .int (a.1)), (3, .int (a.2)), (0, .ref h0), (1, .int 0), (2, .int 12)]) 13 (0, 0) ⟨(by show 0 ≤ Int32.toInt 0; decide), (by show Int32.toInt 0 ≤ 12; decide), (by show 12 - Int32.toInt 0 < ((13 : Nat) : Int); have := (by decide : Int32.toInt 0 = 0); omega), hP, hD, hS, hl⟩ (fun a H locs ls h => ?_) (fun n_3 ih_4 a H locs ls h => ?_)
  · obtain ⟨j_5, j_6, j_7, _⟩ := h
    omega
  obtain ⟨v_2, v_1⟩ := a
  obtain ⟨j_5, j_6, j_7, hP, hD, hS, hl⟩ := h
  have j_5 : 0 ≤ Int32.toInt v_2 := j_5
  have j_6 : Int32.toInt v_2 ≤ 12 := j_6
  have j_7 : 12 - Int32.toInt v_2 < ((n_3 + 1 : Nat) : Int) := j_7
  have hP : va_P D vwCl [(h0, .inl (cB, 4096, .inl f0))] H := hP
  have hD : va_D A [(h0, .inl (cB, 4096, .inl f0))] := hD
  have hl : lv_has ls 6 [(4, .int v_2), (3, .int v_1), (0, .ref h0), (1, .int 0), (2, .int 12)] := hl
  refine lv_iload hx hb dX8_sum_5 (lv_at hl 0 rfl) ?_
  refine lv_iload_n hx hb dX8_sum_7 rfl (lv_at hl 4 rfl) ?_
  refine lv_icmp_ge (tgt := 45) hx hb dX8_sum_8 (by decide) (fun c => ?_) (fun c => ?_)
  · skip
    have k_8 := (ti_le (x := 12) (y := v_2) (a := 12) (b := v_2.toInt) (by decide) rfl).mp c
    obtain rfl : v_2 = 12 := ti_inj (a := 12) (by decide) (by omega)
    refine lv_iload_n hx hb dX8_sum_45 rfl (lv_at hl 1 rfl) ?_
    exact kr_i () hx hb hr hlocks hP hD hS trivial dX8_sum_46
  · skip
    have k_9 := mt (ti_le (x := 12) (y := v_2) (a := 12) (b := v_2.toInt) (by decide) rfl).mpr c
    refine lv_iload_n hx hb dX8_sum_11 rfl (lv_at hl 1 rfl) ?_
    refine lv_aload_n hx hb dX8_sum_12 rfl (lv_at hl 2 rfl) ?_
    refine lv_iload_n hx hb dX8_sum_13 rfl (lv_at hl 3 rfl) ?_
    refine lv_iload hx hb dX8_sum_14 (lv_at hl 0 rfl) ?_
    refine lv_iadd hx hb dX8_sum_16 ?_
    refine lv_topi (fun x_10 ex_10 => ?_)
    have tx_10 : x_10.toInt = 0 + v_2.toInt := by rw [ex_10]; exact ti_add (by decide) rfl (by omega) (by omega)
    refine va_bald hx hb hK hP 0 0 rfl rfl (ti_in (a := x_10.toInt) rfl (by omega) (by omega)) dX8_sum_17 ?_
    refine lv_topi (fun x_11 ex_11 => ?_)
    refine lv_sipush (v := 255) hx hb dX8_sum_18 (by decide) ?_
    refine lv_iand hx hb dX8_sum_21 ?_
    refine lv_topi (fun x_12 ex_12 => ?_)
    refine lv_ixor hx hb dX8_sum_22 ?_
    refine lv_topi (fun x_13 ex_13 => ?_)
    refine lv_istore (lv' := [(5, .int x_13), (4, .int v_2), (3, .int v_1), (0, .ref h0), (1, .int 0), (2, .int 12)]) hx hb dX8_sum_23 hl (by decide) rfl (fun ls hl => ?_)
    refine lv_iload hx hb dX8_sum_25 (lv_at hl 0 rfl) ?_
    refine lv_iconst (v := 5) hx hb dX8_sum_27 (by decide) ?_
    refine lv_ishl hx hb dX8_sum_28 ?_
    refine lv_topi (fun x_14 ex_14 => ?_)
    refine lv_iload hx hb dX8_sum_29 (lv_at hl 0 rfl) ?_
    refine lv_bipush (v := 27) hx hb dX8_sum_31 (by decide) ?_
    refine lv_iushr hx hb dX8_sum_33 rfl ?_
    refine lv_topi (fun x_15 ex_15 => ?_)
    refine lv_ior hx hb dX8_sum_34 ?_
    refine lv_topi (fun x_16 ex_16 => ?_)
    refine lv_ldc (v := (-1640531535)) hx hb hown (hts _ wdX8_sum_0) dX8_sum_35 ?_
    refine lv_imul hx hb dX8_sum_37 ?_
    refine lv_topi (fun x_17 ex_17 => ?_)
    refine lv_istore_n (lv' := [(3, .int x_17), (5, .int x_13), (4, .int v_2), (0, .ref h0), (1, .int 0), (2, .int 12)]) hx hb dX8_sum_38 rfl hl (by decide) rfl (fun ls hl => ?_)
    obtain ⟨x_18, ex_18⟩ : ∃ y : Int32, y = v_2 + 1 := ⟨_, rfl⟩
    have tx_18 : x_18.toInt = v_2.toInt + 1 := by rw [ex_18]; exact ti_add rfl (by decide) (by omega) (by omega)
    refine lv_iinc (v := x_18) (lv' := [(4, .int x_18), (3, .int x_17), (5, .int x_13), (0, .ref h0), (1, .int 0), (2, .int 12)]) hx hb dX8_sum_39 hl (k := 2) rfl (by rw [ex_18]; rfl) (by decide) rfl (fun ls hl => ?_)
    refine lv_goto (tgt := 5) hx hb dX8_sum_42 (by decide) ?_
    exact ih_4 (x_18, x_17) _ _ _ ⟨(by show 0 ≤ Int32.toInt x_18; omega), (by show Int32.toInt x_18 ≤ 12; omega), (by show 12 - Int32.toInt x_18 < ((n_3 : Nat) : Int); omega), hP, hD, hS, (lv_sub hl [0, 1, 3, 4, 5] rfl)⟩
