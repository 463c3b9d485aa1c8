set_option maxHeartbeats 4000000 in
set_option maxRecDepth 100000 in
theorem K125_X4_setNumber (l : Launch) (D : va_G) (cB cI cZ : ClassId) (sz : Nat) (h0 : Nat)  (p0 : Int32) (p1 : Int32) (f0 : Nat → Int32) (i_p0 : 0 ≤ p0.toInt ∧ p0.toInt ≤ 1596) (b_f0 : FB f0) :
    CtV l D cB cI cZ yX4_setNumber wsX4_setNumber { frames := 1, cells := 0, slots := 0, locals := 22 } [.ref h0, .int p0, .int 4, .int p1] [(h0, .inl (cB, 1600, .inl f0))] sz 0 0
      (fun (u : (Nat → Int32)) => FB u)
      (fun u => [(h0, .inl (cB, 1600, .inl u))]) := by
  refine mk_metV (cc := cX4_setNumber) (maxL := 6) (ret := none) (by decide) rfl (Nat.le_of_ble_eq_true rfl) ?_
  intro p e s m below meth c A hx hb hr hml hts hown hlocks hin hP hK hN hD hA hS ls hl
  have hown : s.vm.findClass RX4 = some m.cls := hown
  have hl : lv_has ls 6 [(0, .ref h0), (1, .int p0), (2, .int 4), (3, .int p1)] := hl
  refine lv_aload_n hx hb dX4_setNumber_0 rfl (lv_at hl 0 rfl) ?_
  refine lv_iload_n hx hb dX4_setNumber_1 rfl (lv_at hl 1 rfl) ?_
  refine lv_iload_n hx hb dX4_setNumber_2 rfl (lv_at hl 2 rfl) ?_
  refine kc_i (wr := []) (va_runS (As := [.ref h0, .int p0, .int 4]) (rest := []) ⟨hx, hb, hml, hown, hts⟩ (K126_X4_isWithin l D cB cI cZ _ h0 p0 f0 ⟨by omega, by omega⟩ b_f0) (va_cwS 3 hts gX4_setNumber_X4_isWithin rfl rfl rfl (by decide +kernel) ⟨Nat.le_of_ble_eq_true rfl, Nat.le_of_ble_eq_true rfl⟩) (pre_S (hP.sub [0] rfl) hK hN (hD.sub [0] (by decide) rfl)) rfl rfl hl.1 rfl (lv_room (Nat.le_of_ble_eq_true rfl)) dX4_setNumber_3 ⟨Nat.le_of_ble_eq_true rfl, Nat.le_of_ble_eq_true rfl⟩) hP hD hS hA [0] [] rfl rfl (by decide) (by decide) (fun r_1 u H locs hw hP hD hS => ?_)
  have k_2 := hw
  obtain rfl : r_1 = 1 := k_2
  have hP : va_P D vwCl [(h0, .inl (cB, 1600, .inl f0))] H := hP
  have hD : va_D A [(h0, .inl (cB, 1600, .inl f0))] := hD
  refine lv_if_ne (tgt := 10) hx hb dX4_setNumber_6 (by decide) (fun c => ?_) (fun c => absurd c (by decide))
  refine lv_iload_n hx hb dX4_setNumber_10 rfl (lv_at hl 3 rfl) ?_
  refine lv_istore (lv' := [(4, .int p1), (0, .ref h0), (1, .int p0), (2, .int 4), (3, .int p1)]) hx hb dX4_setNumber_11 hl (by decide) rfl (fun ls hl => ?_)
  refine lv_iload_n hx hb dX4_setNumber_13 rfl (lv_at hl 2 rfl) ?_
  refine lv_iload_n hx hb dX4_setNumber_14 rfl (lv_at hl 3 rfl) ?_
  refine lv_iadd hx hb dX4_setNumber_15 ?_
  refine lv_topi (fun x_3 ex_3 => ?_)
  have tx_3 : x_3.toInt = p0.toInt + 4 := by rw [ex_3]; exact ti_add rfl (by decide) (by omega) (by omega)
  refine lv_iconst (v := 1) hx hb dX4_setNumber_16 (by decide) ?_
  refine lv_isub hx hb dX4_setNumber_17 ?_
  refine lv_topi (fun x_4 ex_4 => ?_)
  have tx_4 : x_4.toInt = x_3.toInt - 1 := by rw [ex_4]; exact ti_sub rfl (by decide) (by omega) (by omega)
  refine lv_istore (lv' := [(5, .int x_4), (4, .int p1), (0, .ref h0), (1, .int p0), (2, .int 4), (3, .int p1)]) hx hb dX4_setNumber_18 hl (by decide) rfl (fun ls hl => ?_)
  refine lv_iload hx hb dX4_setNumber_20 (lv_at hl 0 rfl) ?_
  refine lv_iload_n hx hb dX4_setNumber_22 rfl (lv_at hl 3 rfl) ?_
  refine lv_icmp_lt (tgt := 46) hx hb dX4_setNumber_23 (by decide) (fun c => absurd ((ti_lt (x := x_4) (y := p0) (a := x_4.toInt) (b := p0.toInt) rfl rfl).mp c) (by omega)) (fun c => ?_)
  refine lv_aload_n hx hb dX4_setNumber_26 rfl (lv_at hl 2 rfl) ?_
  refine lv_iload hx hb dX4_setNumber_27 (lv_at hl 0 rfl) ?_
  refine lv_iload hx hb dX4_setNumber_29 (lv_at hl 1 rfl) ?_
  refine lv_i2b hx hb dX4_setNumber_31 rfl ?_
  refine lv_topi (fun x_5 ex_5 => ?_)
  refine va_bast hx hb hK hP hD hS 0 0 rfl rfl (ti_in (a := x_4.toInt) rfl (by omega) (by omega)) dX4_setNumber_32 (fun H locs hP hD hS => ?_)
  obtain ⟨f_6, ef_6⟩ : ∃ g : Nat → Int32, g = upd f0 (Int32.toNatClampNeg x_4) (vp_nar .byte x_5) := ⟨_, rfl⟩
  rw [← ef_6] at hP hD
  have bf_6 : FB f_6 := by rw [ef_6]; exact FB_upd b_f0 _ _
  have hP : va_P D vwCl [(h0, .inl (cB, 1600, .inl f_6))] H := hP
  have hD : va_D A [(h0, .inl (cB, 1600, .inl f_6))] := hD
  refine lv_iload hx hb dX4_setNumber_33 (lv_at hl 1 rfl) ?_
  refine lv_bipush (v := 8) hx hb dX4_setNumber_35 (by decide) ?_
  refine lv_iushr hx hb dX4_setNumber_37 rfl ?_
  refine lv_topi (fun x_7 ex_7 => ?_)
  refine lv_istore (lv' := [(4, .int x_7), (5, .int x_4), (0, .ref h0), (1, .int p0), (2, .int 4), (3, .int p1)]) hx hb dX4_setNumber_38 hl (by decide) rfl (fun ls hl => ?_)
  obtain ⟨x_8, ex_8⟩ : ∃ y : Int32, y = x_4 + (-1) := ⟨_, rfl⟩
  have tx_8 : x_8.toInt = x_4.toInt + (-1) := by rw [ex_8]; exact ti_add rfl (by decide) (by omega) (by omega)
  refine lv_iinc (v := x_8) (lv' := [(5, .int x_8), (4, .int x_7), (0, .ref h0), (1, .int p0), (2, .int 4), (3, .int p1)]) hx hb dX4_setNumber_40 hl (k := 1) rfl (by rw [ex_8]; rfl) (by decide) rfl (fun ls hl => ?_)
  refine lv_goto (tgt := 20) hx hb dX4_setNumber_43 (by decide) ?_
  refine lv_iload hx hb dX4_setNumber_20 (lv_at hl 0 rfl) ?_
  refine lv_iload_n hx hb dX4_setNumber_22 rfl (lv_at hl 3 rfl) ?_
  refine lv_icmp_lt (tgt := 46) hx hb dX4_setNumber_23 (by decide) (fun c => absurd ((ti_lt (x := x_8) (y := p0) (a := x_8.toInt) (b := p0.toInt) rfl rfl).mp c) (by omega)) (fun c => ?_)
  refine lv_aload_n hx hb dX4_setNumber_26 rfl (lv_at hl 2 rfl) ?_
  refine lv_iload hx hb dX4_setNumber_27 (lv_at hl 0 rfl) ?_
  refine lv_iload hx hb dX4_setNumber_29 (lv_at hl 1 rfl) ?_
  refine lv_i2b hx hb dX4_setNumber_31 rfl ?_
  refine lv_topi (fun x_9 ex_9 => ?_)
  refine va_bast hx hb hK hP hD hS 0 0 rfl rfl (ti_in (a := x_8.toInt) rfl (by omega) (by omega)) dX4_setNumber_32 (fun H locs hP hD hS => ?_)
  obtain ⟨f_10, ef_10⟩ : ∃ g : Nat → Int32, g = upd f_6 (Int32.toNatClampNeg x_8) (vp_nar .byte x_9) := ⟨_, rfl⟩
  rw [← ef_10] at hP hD
  have bf_10 : FB f_10 := by rw [ef_10]; exact FB_upd bf_6 _ _
  have hP : va_P D vwCl [(h0, .inl (cB, 1600, .inl f_10))] H := hP
  have hD : va_D A [(h0, .inl (cB, 1600, .inl f_10))] := hD
  refine lv_iload hx hb dX4_setNumber_33 (lv_at hl 1 rfl) ?_
  refine lv_bipush (v := 8) hx hb dX4_setNumber_35 (by decide) ?_
  refine lv_iushr hx hb dX4_setNumber_37 rfl ?_
  refine lv_topi (fun x_11 ex_11 => ?_)
  refine lv_istore (lv' := [(4, .int x_11), (5, .int x_8), (0, .ref h0), (1, .int p0), (2, .int 4), (3, .int p1)]) hx hb dX4_setNumber_38 hl (by decide) rfl (fun ls hl => ?_)
  obtain ⟨x_12, ex_12⟩ : ∃ y : Int32, y = x_8 + (-1) := ⟨_, rfl⟩
  have tx_12 : x_12.toInt = x_8.toInt + (-1) := by rw [ex_12]; exact ti_add rfl (by decide) (by omega) (by omega)
  refine lv_iinc (v := x_12) (lv' := [(5, .int x_12), (4, .int x_11), (0, .ref h0), (1, .int p0), (2, .int 4), (3, .int p1)]) hx hb dX4_setNumber_40 hl (k := 1) rfl (by rw [ex_12]; rfl) (by decide) rfl (fun ls hl => ?_)
  refine lv_goto (tgt := 20) hx hb dX4_setNumber_43 (by decide) ?_
  refine lv_iload hx hb dX4_setNumber_20 (lv_at hl 0 rfl) ?_
  refine lv_iload_n hx hb dX4_setNumber_22 rfl (lv_at hl 3 rfl) ?_
  refine lv_icmp_lt (tgt := 46) hx hb dX4_setNumber_23 (by decide) (fun c => absurd ((ti_lt (x := x_12) (y := p0) (a := x_12.toInt) (b := p0.toInt) rfl rfl).mp c) (by omega)) (fun c => ?_)
  refine lv_aload_n hx hb dX4_setNumber_26 rfl (lv_at hl 2 rfl) ?_
  refine lv_iload hx hb dX4_setNumber_27 (lv_at hl 0 rfl) ?_
  refine lv_iload hx hb dX4_setNumber_29 (lv_at hl 1 rfl) ?_
  refine lv_i2b hx hb dX4_setNumber_31 rfl ?_
  refine lv_topi (fun x_13 ex_13 => ?_)
  refine va_bast hx hb hK hP hD hS 0 0 rfl rfl (ti_in (a := x_12.toInt) rfl (by omega) (by omega)) dX4_setNumber_32 (fun H locs hP hD hS => ?_)
  obtain ⟨f_14, ef_14⟩ : ∃ g : Nat → Int32, g = upd f_10 (Int32.toNatClampNeg x_12) (vp_nar .byte x_13) := ⟨_, rfl⟩
  rw [← ef_14] at hP hD
  have bf_14 : FB f_14 := by rw [ef_14]; exact FB_upd bf_10 _ _
  have hP : va_P D vwCl [(h0, .inl (cB, 1600, .inl f_14))] H := hP
  have hD : va_D A [(h0, .inl (cB, 1600, .inl f_14))] := hD
  refine lv_iload hx hb dX4_setNumber_33 (lv_at hl 1 rfl) ?_
  refine lv_bipush (v := 8) hx hb dX4_setNumber_35 (by decide) ?_
  refine lv_iushr hx hb dX4_setNumber_37 rfl ?_
  refine lv_topi (fun x_15 ex_15 => ?_)
  refine lv_istore (lv' := [(4, .int x_15), (5, .int x_12), (0, .ref h0), (1, .int p0), (2, .int 4), (3, .int p1)]) hx hb dX4_setNumber_38 hl (by decide) rfl (fun ls hl => ?_)
  obtain ⟨x_16, ex_16⟩ : ∃ y : Int32, y = x_12 + (-1) := ⟨_, rfl⟩
  have tx_16 : x_16.toInt = x_12.toInt + (-1) := by rw [ex_16]; exact ti_add rfl (by decide) (by omega) (by omega)
  refine lv_iinc (v := x_16) (lv' := [(5, .int x_16), (4, .int x_15), (0, .ref h0), (1, .int p0), (2, .int 4), (3, .int p1)]) hx hb dX4_setNumber_40 hl (k := 1) rfl (by rw [ex_16]; rfl) (by decide) rfl (fun ls hl => ?_)
  refine lv_goto (tgt := 20) hx hb dX4_setNumber_43 (by decide) ?_
  refine lv_iload hx hb dX4_setNumber_20 (lv_at hl 0 rfl) ?_
  refine lv_iload_n hx hb dX4_setNumber_22 rfl (lv_at hl 3 rfl) ?_
  refine lv_icmp_lt (tgt := 46) hx hb dX4_setNumber_23 (by decide) (fun c => absurd ((ti_lt (x := x_16) (y := p0) (a := x_16.toInt) (b := p0.toInt) rfl rfl).mp c) (by omega)) (fun c => ?_)
  refine lv_aload_n hx hb dX4_setNumber_26 rfl (lv_at hl 2 rfl) ?_
  refine lv_iload hx hb dX4_setNumber_27 (lv_at hl 0 rfl) ?_
  refine lv_iload hx hb dX4_setNumber_29 (lv_at hl 1 rfl) ?_
  refine lv_i2b hx hb dX4_setNumber_31 rfl ?_
  refine lv_topi (fun x_17 ex_17 => ?_)
  refine va_bast hx hb hK hP hD hS 0 0 rfl rfl (ti_in (a := x_16.toInt) rfl (by omega) (by omega)) dX4_setNumber_32 (fun H locs hP hD hS => ?_)
  obtain ⟨f_18, ef_18⟩ : ∃ g : Nat → Int32, g = upd f_14 (Int32.toNatClampNeg x_16) (vp_nar .byte x_17) := ⟨_, rfl⟩
  rw [← ef_18] at hP hD
  have bf_18 : FB f_18 := by rw [ef_18]; exact FB_upd bf_14 _ _
  have hP : va_P D vwCl [(h0, .inl (cB, 1600, .inl f_18))] H := hP
  have hD : va_D A [(h0, .inl (cB, 1600, .inl f_18))] := hD
  refine lv_iload hx hb dX4_setNumber_33 (lv_at hl 1 rfl) ?_
  refine lv_bipush (v := 8) hx hb dX4_setNumber_35 (by decide) ?_
  refine lv_iushr hx hb dX4_setNumber_37 rfl ?_
  refine lv_topi (fun x_19 ex_19 => ?_)
  refine lv_istore (lv' := [(4, .int x_19), (5, .int x_16), (0, .ref h0), (1, .int p0), (2, .int 4), (3, .int p1)]) hx hb dX4_setNumber_38 hl (by decide) rfl (fun ls hl => ?_)
  obtain ⟨x_20, ex_20⟩ : ∃ y : Int32, y = x_16 + (-1) := ⟨_, rfl⟩
  have tx_20 : x_20.toInt = x_16.toInt + (-1) := by rw [ex_20]; exact ti_add rfl (by decide) (by omega) (by omega)
  refine lv_iinc (v := x_20) (lv' := [(5, .int x_20), (4, .int x_19), (0, .ref h0), (1, .int p0), (2, .int 4), (3, .int p1)]) hx hb dX4_setNumber_40 hl (k := 1) rfl (by rw [ex_20]; rfl) (by decide) rfl (fun ls hl => ?_)
  refine lv_goto (tgt := 20) hx hb dX4_setNumber_43 (by decide) ?_
  refine lv_iload hx hb dX4_setNumber_20 (lv_at hl 0 rfl) ?_
  refine lv_iload_n hx hb dX4_setNumber_22 rfl (lv_at hl 3 rfl) ?_
  refine lv_icmp_lt (tgt := 46) hx hb dX4_setNumber_23 (by decide) (fun c => ?_) (fun c => absurd ((ti_lt (x := x_20) (y := p0) (a := x_20.toInt) (b := p0.toInt) rfl rfl).mpr (by omega)) c)
  exact kr_v f_18 hx hb hr hlocks hP hD hS bf_18 dX4_setNumber_46
set_option maxHeartbeats 4000000 in
set_option maxRecDepth 100000 in
theorem K128_X4_isWithin (l : Launch) (D : va_G) (cB cI cZ : ClassId) (sz : Nat) (h0 : Nat)  (p0 : Int32) (f0 : Nat → Int32) (i_p0 : 0 ≤ p0.toInt ∧ p0.toInt ≤ 1598) (b_f0 : FB f0) :
    CtI l D cB cI cZ yX4_isWithin wsX4_isWithin { frames := 0, cells := 0, slots := 0, locals := 0 } [.ref h0, .int p0, .int 2] [(h0, .inl (cB, 1600, .inl f0))] sz 0 0
      (fun (r : Int32) (u : Unit) => r = 1)
      (fun u => [(h0, .inl (cB, 1600, .inl f0))]) := by
  refine mk_metI (cc := cX4_isWithin) (maxL := 3) (ret := (some .boolean)) (by decide) rfl (Nat.le_of_ble_eq_true rfl) ?_
  intro p e s m below meth c A hx hb hr hml hts hown hlocks hin hP hK hN hD hA hS ls hl
  have hown : s.vm.findClass RX4 = some m.cls := hown
  have hl : lv_has ls 3 [(0, .ref h0), (1, .int p0), (2, .int 2)] := hl
  refine lv_iload_n hx hb dX4_isWithin_0 rfl (lv_at hl 1 rfl) ?_
  refine lv_if_lt (tgt := 26) hx hb dX4_isWithin_1 (by decide) (fun c => absurd ((ti_lt (x := p0) (y := 0) (a := p0.toInt) (b := 0) rfl (by decide)).mp c) (by omega)) (fun c => ?_)
  refine lv_iload_n hx hb dX4_isWithin_4 rfl (lv_at hl 2 rfl) ?_
  refine lv_if_lt (tgt := 26) hx hb dX4_isWithin_5 (by decide) (fun c => absurd c (by decide)) (fun c => ?_)
  refine lv_iload_n hx hb dX4_isWithin_8 rfl (lv_at hl 2 rfl) ?_
  refine lv_aload_n hx hb dX4_isWithin_9 rfl (lv_at hl 0 rfl) ?_
  refine va_alen (v := 1600) hx hb hK hP 0 0 rfl rfl (show Int32.ofNat 1600 = 1600 by decide) dX4_isWithin_10 ?_
  refine lv_icmp_gt (tgt := 26) hx hb dX4_isWithin_11 (by decide) (fun c => absurd c (by decide)) (fun c => ?_)
  refine lv_iload_n hx hb dX4_isWithin_14 rfl (lv_at hl 1 rfl) ?_
  refine lv_aload_n hx hb dX4_isWithin_15 rfl (lv_at hl 0 rfl) ?_
  refine va_alen (v := 1600) hx hb hK hP 0 0 rfl rfl (show Int32.ofNat 1600 = 1600 by decide) dX4_isWithin_16 ?_
  refine lv_iload_n hx hb dX4_isWithin_17 rfl (lv_at hl 2 rfl) ?_
  refine lv_isub hx hb dX4_isWithin_18 ?_
  refine lv_topi (fun z_1 ez_1 => ?_)
  obtain rfl : z_1 = 1598 := ez_1.trans (by decide)
  refine lv_icmp_gt (tgt := 26) hx hb dX4_isWithin_19 (by decide) (fun c => absurd ((ti_lt (x := 1598) (y := p0) (a := 1598) (b := p0.toInt) (by decide) rfl).mp c) (by omega)) (fun c => ?_)
  refine lv_iconst (v := 1) hx hb dX4_isWithin_22 (by decide) ?_
  refine lv_goto (tgt := 27) hx hb dX4_isWithin_23 (by decide) ?_
  exact kr_z () hx hb hr rfl hlocks hP hD hS rfl dX4_isWithin_27
set_option maxHeartbeats 4000000 in
set_option maxRecDepth 100000 in
theorem K127_X4_setNumber (l : Launch) (D : va_G) (cB cI cZ : ClassId) (sz : Nat) (h0 : Nat)  (p0 : Int32) (p1 : Int32) (f0 : Nat → Int32) (i_p0 : 0 ≤ p0.toInt ∧ p0.toInt ≤ 1598) (b_f0 : FB f0) :
    CtV l D cB cI cZ yX4_setNumber wsX4_setNumber { frames := 1, cells := 0, slots := 0, locals := 22 } [.ref h0, .int p0, .int 2, .int p1] [(h0, .inl (cB, 1600, .inl f0))] sz 0 0
      (fun (u : (Nat → Int32)) => FB u)
      (fun u => [(h0, .inl (cB, 1600, .inl u))]) := by
  refine mk_metV (cc := cX4_setNumber) (maxL := 6) (ret := none) (by decide) rfl (Nat.le_of_ble_eq_true rfl) ?_
  intro p e s m below meth c A hx hb hr hml hts hown hlocks hin hP hK hN hD hA hS ls hl
  have hown : s.vm.findClass RX4 = some m.cls := hown
  have hl : lv_has ls 6 [(0, .ref h0), (1, .int p0), (2, .int 2), (3, .int p1)] := hl
  refine lv_aload_n hx hb dX4_setNumber_0 rfl (lv_at hl 0 rfl) ?_
  refine lv_iload_n hx hb dX4_setNumber_1 rfl (lv_at hl 1 rfl) ?_
  refine lv_iload_n hx hb dX4_setNumber_2 rfl (lv_at hl 2 rfl) ?_
  refine kc_i (wr := []) (va_runS (As := [.ref h0, .int p0, .int 2]) (rest := []) ⟨hx, hb, hml, hown, hts⟩ (K128_X4_isWithin l D cB cI cZ _ h0 p0 f0 ⟨by omega, by omega⟩ b_f0) (va_cwS 3 hts gX4_setNumber_X4_isWithin rfl rfl rfl (by decide +kernel) ⟨Nat.le_of_ble_eq_true rfl, Nat.le_of_ble_eq_true rfl⟩) (pre_S (hP.sub [0] rfl) hK hN (hD.sub [0] (by decide) rfl)) rfl rfl hl.1 rfl (lv_room (Nat.le_of_ble_eq_true rfl)) dX4_setNumber_3 ⟨Nat.le_of_ble_eq_true rfl, Nat.le_of_ble_eq_true rfl⟩) hP hD hS hA [0] [] rfl rfl (by decide) (by decide) (fun r_1 u H locs hw hP hD hS => ?_)
  have k_2 := hw
  obtain rfl : r_1 = 1 := k_2
  have hP : va_P D vwCl [(h0, .inl (cB, 1600, .inl f0))] H := hP
  have hD : va_D A [(h0, .inl (cB, 1600, .inl f0))] := hD
  refine lv_if_ne (tgt := 10) hx hb dX4_setNumber_6 (by decide) (fun c => ?_) (fun c => absurd c (by decide))
  refine lv_iload_n hx hb dX4_setNumber_10 rfl (lv_at hl 3 rfl) ?_
  refine lv_istore (lv' := [(4, .int p1), (0, .ref h0), (1, .int p0), (2, .int 2), (3, .int p1)]) hx hb dX4_setNumber_11 hl (by decide) rfl (fun ls hl => ?_)
  refine lv_iload_n hx hb dX4_setNumber_13 rfl (lv_at hl 2 rfl) ?_
  refine lv_iload_n hx hb dX4_setNumber_14 rfl (lv_at hl 3 rfl) ?_
  refine lv_iadd hx hb dX4_setNumber_15 ?_
  refine lv_topi (fun x_3 ex_3 => ?_)
  have tx_3 : x_3.toInt = p0.toInt + 2 := by rw [ex_3]; exact ti_add rfl (by decide) (by omega) (by omega)
  refine lv_iconst (v := 1) hx hb dX4_setNumber_16 (by decide) ?_
  refine lv_isub hx hb dX4_setNumber_17 ?_
  refine lv_topi (fun x_4 ex_4 => ?_)
  have tx_4 : x_4.toInt = x_3.toInt - 1 := by rw [ex_4]; exact ti_sub rfl (by decide) (by omega) (by omega)
  refine lv_istore (lv' := [(5, .int x_4), (4, .int p1), (0, .ref h0), (1, .int p0), (2, .int 2), (3, .int p1)]) hx hb dX4_setNumber_18 hl (by decide) rfl (fun ls hl => ?_)
  refine lv_iload hx hb dX4_setNumber_20 (lv_at hl 0 rfl) ?_
  refine lv_iload_n hx hb dX4_setNumber_22 rfl (lv_at hl 3 rfl) ?_
  refine lv_icmp_lt (tgt := 46) hx hb dX4_setNumber_23 (by decide) (fun c => absurd ((ti_lt (x := x_4) (y := p0) (a := x_4.toInt) (b := p0.toInt) rfl rfl).mp c) (by omega)) (fun c => ?_)
  refine lv_aload_n hx hb dX4_setNumber_26 rfl (lv_at hl 2 rfl) ?_
  refine lv_iload hx hb dX4_setNumber_27 (lv_at hl 0 rfl) ?_
  refine lv_iload hx hb dX4_setNumber_29 (lv_at hl 1 rfl) ?_
  refine lv_i2b hx hb dX4_setNumber_31 rfl ?_
  refine lv_topi (fun x_5 ex_5 => ?_)
  refine va_bast hx hb hK hP hD hS 0 0 rfl rfl (ti_in (a := x_4.toInt) rfl (by omega) (by omega)) dX4_setNumber_32 (fun H locs hP hD hS => ?_)
  obtain ⟨f_6, ef_6⟩ : ∃ g : Nat → Int32, g = upd f0 (Int32.toNatClampNeg x_4) (vp_nar .byte x_5) := ⟨_, rfl⟩
  rw [← ef_6] at hP hD
  have bf_6 : FB f_6 := by rw [ef_6]; exact FB_upd b_f0 _ _
  have hP : va_P D vwCl [(h0, .inl (cB, 1600, .inl f_6))] H := hP
  have hD : va_D A [(h0, .inl (cB, 1600, .inl f_6))] := hD
  refine lv_iload hx hb dX4_setNumber_33 (lv_at hl 1 rfl) ?_
  refine lv_bipush (v := 8) hx hb dX4_setNumber_35 (by decide) ?_
  refine lv_iushr hx hb dX4_setNumber_37 rfl ?_
  refine lv_topi (fun x_7 ex_7 => ?_)
  refine lv_istore (lv' := [(4, .int x_7), (5, .int x_4), (0, .ref h0), (1, .int p0), (2, .int 2), (3, .int p1)]) hx hb dX4_setNumber_38 hl (by decide) rfl (fun ls hl => ?_)
  obtain ⟨x_8, ex_8⟩ : ∃ y : Int32, y = x_4 + (-1) := ⟨_, rfl⟩
  have tx_8 : x_8.toInt = x_4.toInt + (-1) := by rw [ex_8]; exact ti_add rfl (by decide) (by omega) (by omega)
  refine lv_iinc (v := x_8) (lv' := [(5, .int x_8), (4, .int x_7), (0, .ref h0), (1, .int p0), (2, .int 2), (3, .int p1)]) hx hb dX4_setNumber_40 hl (k := 1) rfl (by rw [ex_8]; rfl) (by decide) rfl (fun ls hl => ?_)
  refine lv_goto (tgt := 20) hx hb dX4_setNumber_43 (by decide) ?_
  refine lv_iload hx hb dX4_setNumber_20 (lv_at hl 0 rfl) ?_
  refine lv_iload_n hx hb dX4_setNumber_22 rfl (lv_at hl 3 rfl) ?_
  refine lv_icmp_lt (tgt := 46) hx hb dX4_setNumber_23 (by decide) (fun c => absurd ((ti_lt (x := x_8) (y := p0) (a := x_8.toInt) (b := p0.toInt) rfl rfl).mp c) (by omega)) (fun c => ?_)
  refine lv_aload_n hx hb dX4_setNumber_26 rfl (lv_at hl 2 rfl) ?_
  refine lv_iload hx hb dX4_setNumber_27 (lv_at hl 0 rfl) ?_
  refine lv_iload hx hb dX4_setNumber_29 (lv_at hl 1 rfl) ?_
  refine lv_i2b hx hb dX4_setNumber_31 rfl ?_
  refine lv_topi (fun x_9 ex_9 => ?_)
  refine va_bast hx hb hK hP hD hS 0 0 rfl rfl (ti_in (a := x_8.toInt) rfl (by omega) (by omega)) dX4_setNumber_32 (fun H locs hP hD hS => ?_)
  obtain ⟨f_10, ef_10⟩ : ∃ g : Nat → Int32, g = upd f_6 (Int32.toNatClampNeg x_8) (vp_nar .byte x_9) := ⟨_, rfl⟩
  rw [← ef_10] at hP hD
  have bf_10 : FB f_10 := by rw [ef_10]; exact FB_upd bf_6 _ _
  have hP : va_P D vwCl [(h0, .inl (cB, 1600, .inl f_10))] H := hP
  have hD : va_D A [(h0, .inl (cB, 1600, .inl f_10))] := hD
  refine lv_iload hx hb dX4_setNumber_33 (lv_at hl 1 rfl) ?_
  refine lv_bipush (v := 8) hx hb dX4_setNumber_35 (by decide) ?_
  refine lv_iushr hx hb dX4_setNumber_37 rfl ?_
  refine lv_topi (fun x_11 ex_11 => ?_)
  refine lv_istore (lv' := [(4, .int x_11), (5, .int x_8), (0, .ref h0), (1, .int p0), (2, .int 2), (3, .int p1)]) hx hb dX4_setNumber_38 hl (by decide) rfl (fun ls hl => ?_)
  obtain ⟨x_12, ex_12⟩ : ∃ y : Int32, y = x_8 + (-1) := ⟨_, rfl⟩
  have tx_12 : x_12.toInt = x_8.toInt + (-1) := by rw [ex_12]; exact ti_add rfl (by decide) (by omega) (by omega)
  refine lv_iinc (v := x_12) (lv' := [(5, .int x_12), (4, .int x_11), (0, .ref h0), (1, .int p0), (2, .int 2), (3, .int p1)]) hx hb dX4_setNumber_40 hl (k := 1) rfl (by rw [ex_12]; rfl) (by decide) rfl (fun ls hl => ?_)
  refine lv_goto (tgt := 20) hx hb dX4_setNumber_43 (by decide) ?_
  refine lv_iload hx hb dX4_setNumber_20 (lv_at hl 0 rfl) ?_
  refine lv_iload_n hx hb dX4_setNumber_22 rfl (lv_at hl 3 rfl) ?_
  refine lv_icmp_lt (tgt := 46) hx hb dX4_setNumber_23 (by decide) (fun c => ?_) (fun c => absurd ((ti_lt (x := x_12) (y := p0) (a := x_12.toInt) (b := p0.toInt) rfl rfl).mpr (by omega)) c)
  exact kr_v f_10 hx hb hr hlocks hP hD hS bf_10 dX4_setNumber_46
set_option maxHeartbeats 4000000 in
set_option maxRecDepth 100000 in
theorem K131_X4_isWithin (l : Launch) (D : va_G) (cB cI cZ : ClassId) (sz : Nat) (h0 : Nat)  (p0 : Int32) (f0 : Nat → Int32) (i_p0 : 0 ≤ p0.toInt ∧ p0.toInt ≤ 1521) (b_f0 : FB f0) :
    CtI l D cB cI cZ yX4_isWithin wsX4_isWithin { frames := 0, cells := 0, slots := 0, locals := 0 } [.ref h0, .int p0, .int 79] [(h0, .inl (cB, 1600, .inl f0))] sz 0 0
      (fun (r : Int32) (u : Unit) => r = 1)
      (fun u => [(h0, .inl (cB, 1600, .inl f0))]) := by
  refine mk_metI (cc := cX4_isWithin) (maxL := 3) (ret := (some .boolean)) (by decide) rfl (Nat.le_of_ble_eq_true rfl) ?_
  intro p e s m below meth c A hx hb hr hml hts hown hlocks hin hP hK hN hD hA hS ls hl
  have hown : s.vm.findClass RX4 = some m.cls := hown
  have hl : lv_has ls 3 [(0, .ref h0), (1, .int p0), (2, .int 79)] := hl
  refine lv_iload_n hx hb dX4_isWithin_0 rfl (lv_at hl 1 rfl) ?_
  refine lv_if_lt (tgt := 26) hx hb dX4_isWithin_1 (by decide) (fun c => absurd ((ti_lt (x := p0) (y := 0) (a := p0.toInt) (b := 0) rfl (by decide)).mp c) (by omega)) (fun c => ?_)
  refine lv_iload_n hx hb dX4_isWithin_4 rfl (lv_at hl 2 rfl) ?_
  refine lv_if_lt (tgt := 26) hx hb dX4_isWithin_5 (by decide) (fun c => absurd c (by decide)) (fun c => ?_)
  refine lv_iload_n hx hb dX4_isWithin_8 rfl (lv_at hl 2 rfl) ?_
  refine lv_aload_n hx hb dX4_isWithin_9 rfl (lv_at hl 0 rfl) ?_
  refine va_alen (v := 1600) hx hb hK hP 0 0 rfl rfl (show Int32.ofNat 1600 = 1600 by decide) dX4_isWithin_10 ?_
  refine lv_icmp_gt (tgt := 26) hx hb dX4_isWithin_11 (by decide) (fun c => absurd c (by decide)) (fun c => ?_)
  refine lv_iload_n hx hb dX4_isWithin_14 rfl (lv_at hl 1 rfl) ?_
  refine lv_aload_n hx hb dX4_isWithin_15 rfl (lv_at hl 0 rfl) ?_
  refine va_alen (v := 1600) hx hb hK hP 0 0 rfl rfl (show Int32.ofNat 1600 = 1600 by decide) dX4_isWithin_16 ?_
  refine lv_iload_n hx hb dX4_isWithin_17 rfl (lv_at hl 2 rfl) ?_
  refine lv_isub hx hb dX4_isWithin_18 ?_
  refine lv_topi (fun z_1 ez_1 => ?_)
  obtain rfl : z_1 = 1521 := ez_1.trans (by decide)
  refine lv_icmp_gt (tgt := 26) hx hb dX4_isWithin_19 (by decide) (fun c => absurd ((ti_lt (x := 1521) (y := p0) (a := 1521) (b := p0.toInt) (by decide) rfl).mp c) (by omega)) (fun c => ?_)
  refine lv_iconst (v := 1) hx hb dX4_isWithin_22 (by decide) ?_
  refine lv_goto (tgt := 27) hx hb dX4_isWithin_23 (by decide) ?_
  exact kr_z () hx hb hr rfl hlocks hP hD hS rfl dX4_isWithin_27
set_option maxHeartbeats 4000000 in
set_option maxRecDepth 100000 in
theorem K130_X4_sum (l : Launch) (D : va_G) (cB cI cZ : ClassId) (sz : Nat) (h0 : Nat)  (p0 : Int32) (f0 : Nat → Int32) (i_p0 : 0 ≤ p0.toInt ∧ p0.toInt ≤ 1521) (b_f0 : FB f0) :
    CtI l D cB cI cZ yX4_sum wsX4_sum { frames := 1, cells := 0, slots := 0, locals := 22 } [.ref h0, .int p0, .int 79] [(h0, .inl (cB, 1600, .inl f0))] sz 0 0
      (fun (r : Int32) (u : Unit) => True)
      (fun u => [(h0, .inl (cB, 1600, .inl f0))]) := by
  refine mk_metI (cc := cX4_sum) (maxL := 5) (ret := (some .int)) (by decide) rfl (Nat.le_of_ble_eq_true rfl) ?_
  intro p e s m below meth c A hx hb hr hml hts hown hlocks hin hP hK hN hD hA hS ls hl
  have hown : s.vm.findClass RX4 = some m.cls := hown
  have hl : lv_has ls 5 [(0, .ref h0), (1, .int p0), (2, .int 79)] := hl
  refine lv_aload_n hx hb dX4_sum_0 rfl (lv_at hl 0 rfl) ?_
  refine lv_iload_n hx hb dX4_sum_1 rfl (lv_at hl 1 rfl) ?_
  refine lv_iload_n hx hb dX4_sum_2 rfl (lv_at hl 2 rfl) ?_
  refine kc_i (wr := []) (va_runS (As := [.ref h0, .int p0, .int 79]) (rest := []) ⟨hx, hb, hml, hown, hts⟩ (K131_X4_isWithin l D cB cI cZ _ h0 p0 f0 ⟨by omega, by omega⟩ b_f0) (va_cwS 3 hts gX4_sum_X4_isWithin rfl rfl rfl (by decide +kernel) ⟨Nat.le_of_ble_eq_true rfl, Nat.le_of_ble_eq_true rfl⟩) (pre_S (hP.sub [0] rfl) hK hN (hD.sub [0] (by decide) rfl)) rfl rfl hl.1 rfl (lv_room (Nat.le_of_ble_eq_true rfl)) dX4_sum_3 ⟨Nat.le_of_ble_eq_true rfl, Nat.le_of_ble_eq_true rfl⟩) hP hD hS hA [0] [] rfl rfl (by decide) (by decide) (fun r_1 u H locs hw hP hD hS => ?_)
  have k_2 := hw
  obtain rfl : r_1 = 1 := k_2
  have hP : va_P D vwCl [(h0, .inl (cB, 1600, .inl f0))] H := hP
  have hD : va_D A [(h0, .inl (cB, 1600, .inl f0))] := hD
  refine lv_if_ne (tgt := 11) hx hb dX4_sum_6 (by decide) (fun c => ?_) (fun c => absurd c (by decide))
  refine lv_iconst (v := 0) hx hb dX4_sum_11 (by decide) ?_
  refine lv_istore_n (lv' := [(3, .int 0), (0, .ref h0), (1, .int p0), (2, .int 79)]) hx hb dX4_sum_12 rfl hl (by decide) rfl (fun ls hl => ?_)
  refine lv_iload_n hx hb dX4_sum_13 rfl (lv_at hl 2 rfl) ?_
  refine lv_istore (lv' := [(4, .int p0), (3, .int 0), (0, .ref h0), (1, .int p0), (2, .int 79)]) hx hb dX4_sum_14 hl (by decide) rfl (fun ls hl => ?_)
  refine kl (α := Int32 × Int32) (fun n a H locs ls => (0 ≤ Int32.toInt (a.1)) ∧ (Int32.toInt (a.1) ≤ 1600) ∧ (1600 - Int32.toInt (a.1) < ((n : Nat) : Int)) ∧ va_P D vwCl [(h0, .inl (cB, 1600, .inl f0))] H ∧ va_D A [(h0, .inl (cB, 1600, .inl f0))] ∧ va_S A s.heap H locs ∧ lv_has ls 5 [(4, .int (a.1)), (3, .int (a.2)), (0, .ref h0), (1, .int p0), (2, .int 79)]) 1601 (p0, 0) ⟨(by show 0 ≤ Int32.toInt p0; omega), (by show Int32.toInt p0 ≤ 1600; omega), (by show 1600 - Int32.toInt p0 < ((1601 : Nat) : Int); omega), hP, hD, hS, hl⟩ (fun a H locs ls h => ?_) (fun n_5 ih_6 a H locs ls h => ?_)
  · obtain ⟨j_7, j_8, j_9, _⟩ := h
    omega
  obtain ⟨v_4, v_3⟩ := a
  obtain ⟨j_7, j_8, j_9, hP, hD, hS, hl⟩ := h
  have j_7 : 0 ≤ Int32.toInt v_4 := j_7
  have j_8 : Int32.toInt v_4 ≤ 1600 := j_8
  have j_9 : 1600 - Int32.toInt v_4 < ((n_5 + 1 : Nat) : Int) := j_9
  have hP : va_P D vwCl [(h0, .inl (cB, 1600, .inl f0))] H := hP
  have hD : va_D A [(h0, .inl (cB, 1600, .inl f0))] := hD
  have hl : lv_has ls 5 [(4, .int v_4), (3, .int v_3), (0, .ref h0), (1, .int p0), (2, .int 79)] := hl
  refine lv_iload hx hb dX4_sum_16 (lv_at hl 0 rfl) ?_
  refine lv_iload_n hx hb dX4_sum_18 rfl (lv_at hl 3 rfl) ?_
  refine lv_iload_n hx hb dX4_sum_19 rfl (lv_at hl 4 rfl) ?_
  refine lv_iadd hx hb dX4_sum_20 ?_
  refine lv_topi (fun x_10 ex_10 => ?_)
  have tx_10 : x_10.toInt = p0.toInt + 79 := by rw [ex_10]; exact ti_add rfl (by decide) (by omega) (by omega)
  refine lv_icmp_ge (tgt := 48) hx hb dX4_sum_21 (by decide) (fun c => ?_) (fun c => ?_)
  · skip
    have k_11 := (ti_le (x := x_10) (y := v_4) (a := x_10.toInt) (b := v_4.toInt) rfl rfl).mp c
    refine lv_iload_n hx hb dX4_sum_48 rfl (lv_at hl 1 rfl) ?_
    exact kr_i () hx hb hr hlocks hP hD hS trivial dX4_sum_49
  · skip
    have k_12 := mt (ti_le (x := x_10) (y := v_4) (a := x_10.toInt) (b := v_4.toInt) rfl rfl).mpr c
    refine lv_iload_n hx hb dX4_sum_24 rfl (lv_at hl 1 rfl) ?_
    refine lv_aload_n hx hb dX4_sum_25 rfl (lv_at hl 2 rfl) ?_
    refine lv_iload hx hb dX4_sum_26 (lv_at hl 0 rfl) ?_
    refine va_bald hx hb hK hP 0 0 rfl rfl (ti_in (a := v_4.toInt) rfl (by omega) (by omega)) dX4_sum_28 ?_
    refine lv_topi (fun x_13 ex_13 => ?_)
    refine lv_sipush (v := 255) hx hb dX4_sum_29 (by decide) ?_
    refine lv_iand hx hb dX4_sum_32 ?_
    refine lv_topi (fun x_14 ex_14 => ?_)
    refine lv_ixor hx hb dX4_sum_33 ?_
    refine lv_topi (fun x_15 ex_15 => ?_)
    refine lv_iconst (v := 5) hx hb dX4_sum_34 (by decide) ?_
    refine kc_i (wr := [(h0, .inl (cB, 1600, .inl f0))]) (va_runS (As := [.int x_15, .int 5]) (rest := []) ⟨hx, hb, hml, hown, hts⟩ (K68_J6_rotateLeft_7cf53 l D cB cI cZ _ x_15) (va_cwS 2 hts gX4_sum_J6_rotateLeft_7cf53 rfl rfl rfl (by decide +kernel) ⟨Nat.le_of_ble_eq_true rfl, Nat.le_of_ble_eq_true rfl⟩) (pre_S (hP.sub [] rfl) hK hN (hD.sub [] (by decide) rfl)) rfl rfl hl.1 rfl (lv_room (Nat.le_of_ble_eq_true rfl)) dX4_sum_35 ⟨Nat.le_of_ble_eq_true rfl, Nat.le_of_ble_eq_true rfl⟩) hP hD hS hA [] [0] rfl rfl (by decide) (by decide) (fun r_16 u H locs hw hP hD hS => ?_)
    have hP : va_P D vwCl [(h0, .inl (cB, 1600, .inl f0))] H := hP
    have hD : va_D A [(h0, .inl (cB, 1600, .inl f0))] := hD
    refine lv_ldc (v := (-1640531535)) hx hb hown (hts _ wdX4_sum_0) dX4_sum_38 ?_
    refine lv_imul hx hb dX4_sum_40 ?_
    refine lv_topi (fun x_17 ex_17 => ?_)
    refine lv_istore_n (lv' := [(3, .int x_17), (4, .int v_4), (0, .ref h0), (1, .int p0), (2, .int 79)]) hx hb dX4_sum_41 rfl hl (by decide) rfl (fun ls hl => ?_)
    obtain ⟨x_18, ex_18⟩ : ∃ y : Int32, y = v_4 + 1 := ⟨_, rfl⟩
    have tx_18 : x_18.toInt = v_4.toInt + 1 := by rw [ex_18]; exact ti_add rfl (by decide) (by omega) (by omega)
    refine lv_iinc (v := x_18) (lv' := [(4, .int x_18), (3, .int x_17), (0, .ref h0), (1, .int p0), (2, .int 79)]) hx hb dX4_sum_42 hl (k := 1) rfl (by rw [ex_18]; rfl) (by decide) rfl (fun ls hl => ?_)
    refine lv_goto (tgt := 16) hx hb dX4_sum_45 (by decide) ?_
    exact ih_6 (x_18, x_17) _ _ _ ⟨(by show 0 ≤ Int32.toInt x_18; omega), (by show Int32.toInt x_18 ≤ 1600; omega), (by show 1600 - Int32.toInt x_18 < ((n_5 : Nat) : Int); omega), hP, hD, hS, hl⟩
set_option maxHeartbeats 4000000 in
set_option maxRecDepth 100000 in
theorem K129_X4_setSum (l : Launch) (D : va_G) (cB cI cZ : ClassId) (sz : Nat) (h0 : Nat)  (f0 : Nat → Int32) (b_f0 : FB f0) :
    CtV l D cB cI cZ yX4_setSum wsX4_setSum { frames := 2, cells := 0, slots := 0, locals := 47 } [.ref h0, .int 0, .int 79] [(h0, .inl (cB, 1600, .inl f0))] sz 0 0
      (fun (u : (Nat → Int32)) => FB u)
      (fun u => [(h0, .inl (cB, 1600, .inl u))]) := by
  refine mk_metV (cc := cX4_setSum) (maxL := 3) (ret := none) (by decide) rfl (Nat.le_of_ble_eq_true rfl) ?_
  intro p e s m below meth c A hx hb hr hml hts hown hlocks hin hP hK hN hD hA hS ls hl
  have hown : s.vm.findClass RX4 = some m.cls := hown
  have hl : lv_has ls 3 [(0, .ref h0), (1, .int 0), (2, .int 79)] := hl
  refine lv_aload_n hx hb dX4_setSum_0 rfl (lv_at hl 0 rfl) ?_
  refine lv_iload_n hx hb dX4_setSum_1 rfl (lv_at hl 1 rfl) ?_
  refine lv_iload_n hx hb dX4_setSum_2 rfl (lv_at hl 2 rfl) ?_
  refine lv_iadd hx hb dX4_setSum_3 ?_
  refine lv_topi (fun z_1 ez_1 => ?_)
  obtain rfl : z_1 = 79 := ez_1.trans (by decide)
  refine lv_iconst (v := 4) hx hb dX4_setSum_4 (by decide) ?_
  refine lv_aload_n hx hb dX4_setSum_5 rfl (lv_at hl 0 rfl) ?_
  refine lv_iload_n hx hb dX4_setSum_6 rfl (lv_at hl 1 rfl) ?_
  refine lv_iload_n hx hb dX4_setSum_7 rfl (lv_at hl 2 rfl) ?_
  refine kc_i (wr := []) (va_runS (As := [.ref h0, .int 0, .int 79]) (rest := [.int 4, .int 79, .ref h0]) ⟨hx, hb, hml, hown, hts⟩ (K130_X4_sum l D cB cI cZ _ h0 0 f0 (by decide) b_f0) (va_cwS 3 hts gX4_setSum_X4_sum rfl rfl rfl (by decide +kernel) ⟨Nat.le_of_ble_eq_true rfl, Nat.le_of_ble_eq_true rfl⟩) (pre_S (hP.sub [0] rfl) hK hN (hD.sub [0] (by decide) rfl)) rfl rfl hl.1 rfl (lv_room (Nat.le_of_ble_eq_true rfl)) dX4_setSum_8 ⟨Nat.le_of_ble_eq_true rfl, Nat.le_of_ble_eq_true rfl⟩) hP hD hS hA [0] [] rfl rfl (by decide) (by decide) (fun r_2 u H locs hw hP hD hS => ?_)
  have hP : va_P D vwCl [(h0, .inl (cB, 1600, .inl f0))] H := hP
  have hD : va_D A [(h0, .inl (cB, 1600, .inl f0))] := hD
  refine kc_v (wr := []) (va_runS (As := [.ref h0, .int 79, .int 4, .int r_2]) (rest := []) ⟨hx, hb, hml, hown, hts⟩ (K125_X4_setNumber l D cB cI cZ _ h0 79 r_2 f0 (by decide) b_f0) (va_cwS 4 hts gX4_setSum_X4_setNumber rfl rfl rfl (by decide +kernel) ⟨Nat.le_of_ble_eq_true rfl, Nat.le_of_ble_eq_true rfl⟩) (pre_S (hP.sub [0] rfl) hK hN (hD.sub [0] (by decide) rfl)) rfl rfl hl.1 rfl (lv_room (Nat.le_of_ble_eq_true rfl)) dX4_setSum_11 ⟨Nat.le_of_ble_eq_true rfl, Nat.le_of_ble_eq_true rfl⟩) hP hD hS hA [0] [] rfl rfl (by decide) (by decide) (fun  u H locs hw hP hD hS => ?_)
  obtain ⟨f_3, rfl⟩ : ∃ z, z = u := ⟨_, rfl⟩
  have bf_3 := hw
  have bf_3 : FB f_3 := bf_3
  have hP : va_P D vwCl [(h0, .inl (cB, 1600, .inl f_3))] H := hP
  have hD : va_D A [(h0, .inl (cB, 1600, .inl f_3))] := hD
  exact kr_v f_3 hx hb hr hlocks hP hD hS bf_3 dX4_setSum_14
set_option maxHeartbeats 4000000 in
set_option maxRecDepth 100000 in
theorem K133_X7_isOfLog (l : Launch) (D : va_G) (cB cI cZ : ClassId) (sz : Nat)   (p0 : Int32) (i_p0 : 8 ≤ p0.toInt ∧ p0.toInt ≤ 63) :
    CtI l D cB cI cZ yX7_isOfLog wsX7_isOfLog { frames := 0, cells := 0, slots := 0, locals := 0 } [.int p0] [] sz 0 0
      (fun (r : Int32) (u : Unit) => r = 1)
      (fun u => []) := by
  refine mk_metI (cc := cX7_isOfLog) (maxL := 1) (ret := (some .boolean)) (by decide) rfl (Nat.le_of_ble_eq_true rfl) ?_
  intro p e s m below meth c A hx hb hr hml hts hown hlocks hin hP hK hN hD hA hS ls hl
  have hown : s.vm.findClass RX7 = some m.cls := hown
  have hl : lv_has ls 1 [(0, .int p0)] := hl
  refine lv_iload_n hx hb dX7_isOfLog_0 rfl (lv_at hl 0 rfl) ?_
  refine lv_bipush (v := 8) hx hb dX7_isOfLog_1 (by decide) ?_
  refine lv_icmp_lt (tgt := 16) hx hb dX7_isOfLog_3 (by decide) (fun c => absurd ((ti_lt (x := p0) (y := 8) (a := p0.toInt) (b := 8) rfl (by decide)).mp c) (by omega)) (fun c => ?_)
  refine lv_iload_n hx hb dX7_isOfLog_6 rfl (lv_at hl 0 rfl) ?_
  refine lv_bipush (v := 64) hx hb dX7_isOfLog_7 (by decide) ?_
  refine lv_icmp_ge (tgt := 16) hx hb dX7_isOfLog_9 (by decide) (fun c => absurd ((ti_le (x := 64) (y := p0) (a := 64) (b := p0.toInt) (by decide) rfl).mp c) (by omega)) (fun c => ?_)
  refine lv_iconst (v := 1) hx hb dX7_isOfLog_12 (by decide) ?_
  refine lv_goto (tgt := 17) hx hb dX7_isOfLog_13 (by decide) ?_
  exact kr_z () hx hb hr rfl hlocks hP hD hS rfl dX7_isOfLog_17
set_option maxHeartbeats 4000000 in
set_option maxRecDepth 100000 in
theorem K132_X3_isUsed (l : Launch) (D : va_G) (cB cI cZ : ClassId) (sz : Nat) (h0 : Nat) (h1 : Nat)  (p0 : Int32) (g0 : Value) (g1 : Value) (g2 : Value) (g3 : Value) (g4 : Value) (g5 : Value) (g6 : Value) (g7 : Value) (g8 : Value) (g9 : Value) (g10 : Value) (g11 : Value) (g12 : Value) (i_p0 : 8 ≤ p0.toInt ∧ p0.toInt ≤ 63) :
    CtI l D cB cI cZ yX3_isUsed wsX3_isUsed { frames := 1, cells := 0, slots := 0, locals := 20 } [.ref h0, .int p0] [(h0, .inr (3, [g0, g1, .ref h1, g2, g3, g4, g5, g6, g7, g8, g9, g10, g11, g12])), (h1, .inl (cI, 64, .inl zf))] sz 0 0
      (fun (r : Int32) (u : Unit) => r = 0)
      (fun u => [(h0, .inr (3, [g0, g1, .ref h1, g2, g3, g4, g5, g6, g7, g8, g9, g10, g11, g12])), (h1, .inl (cI, 64, .inl zf))]) := by
  refine mk_metI (cc := cX3_isUsed) (maxL := 2) (ret := (some .boolean)) (by decide) rfl (Nat.le_of_ble_eq_true rfl) ?_
  intro p e s m below meth c A hx hb hr hml hts hown hlocks hin hP hK hN hD hA hS ls hl
  have hown : s.vm.findClass RX3 = some m.cls := hown
  have hl : lv_has ls 2 [(0, .ref h0), (1, .int p0)] := hl
  refine lv_iload_n hx hb dX3_isUsed_0 rfl (lv_at hl 1 rfl) ?_
  refine kc_i (wr := [(h0, .inr (3, [g0, g1, .ref h1, g2, g3, g4, g5, g6, g7, g8, g9, g10, g11, g12])), (h1, .inl (cI, 64, .inl zf))]) (va_runSN (As := [.int p0]) (rest := []) ⟨hx, hb, hml, hown, hts⟩ (K133_X7_isOfLog l D cB cI cZ _ p0 ⟨by omega, by omega⟩) ⟨va_cnB 1 hts gX3_isUsed_X7_isOfLog_n65 rfl rfl rfl (hN.m (a := RX3) (i := 65) (y := yX7_isOfLog) (by decide +kernel)) (hts _ wdX3_isUsed_0) (by decide +kernel) ⟨Nat.le_of_ble_eq_true rfl, Nat.le_of_ble_eq_true rfl⟩, hts _ wdX3_isUsed_1, trivial⟩ (pre_S (hP.sub [] rfl) hK hN (hD.sub [] (by decide) rfl)) rfl rfl hl.1 rfl (lv_room (Nat.le_of_ble_eq_true rfl)) dX3_isUsed_1 ⟨Nat.le_of_ble_eq_true rfl, Nat.le_of_ble_eq_true rfl⟩) hP hD hS hA [] [0, 1] rfl rfl (by decide) (by decide) (fun r_1 u H locs hw hP hD hS => ?_)
  have k_2 := hw
  obtain rfl : r_1 = 1 := k_2
  have hP : va_P D vwCl [(h0, .inr (3, [g0, g1, .ref h1, g2, g3, g4, g5, g6, g7, g8, g9, g10, g11, g12])), (h1, .inl (cI, 64, .inl zf))] H := hP
  have hD : va_D A [(h0, .inr (3, [g0, g1, .ref h1, g2, g3, g4, g5, g6, g7, g8, g9, g10, g11, g12])), (h1, .inl (cI, 64, .inl zf))] := hD
  refine lv_if_eq (tgt := 21) hx hb dX3_isUsed_4 (by decide) (fun c => absurd c (by decide)) (fun c => ?_)
  refine lv_aload_n hx hb dX3_isUsed_7 rfl (lv_at hl 0 rfl) ?_
  refine va_get (D := D) (ci := 3) (v := .ref h1) (C := RX3) (T := TX3) (N := 14) hx hb hts inX3_isUsed_X3 hown hK hP 0 rfl rfl 2 (by decide) (hts _ wdX3_isUsed_2) (fun _ h9 => h9) rfl dX3_isUsed_8 ?_
  refine lv_iload_n hx hb dX3_isUsed_11 rfl (lv_at hl 1 rfl) ?_
  refine va_iald hx hb hK hP 1 1 rfl rfl (ti_in (a := p0.toInt) rfl (by omega) (by omega)) dX3_isUsed_12 ?_
  refine lv_topi (fun z_3 ez_3 => ?_)
  obtain rfl : z_3 = 0 := ez_3
  refine lv_iconst (v := 1) hx hb dX3_isUsed_13 (by decide) ?_
  refine lv_icmp_ne (tgt := 21) hx hb dX3_isUsed_14 (by decide) (fun c => ?_) (fun c => absurd c (by decide))
  refine lv_iconst (v := 0) hx hb dX3_isUsed_21 (by decide) ?_
  exact kr_z () hx hb hr rfl hlocks hP hD hS rfl dX3_isUsed_22
set_option maxHeartbeats 4000000 in
set_option maxRecDepth 100000 in
theorem K134_X2_has (l : Launch) (D : va_G) (cB cI cZ : ClassId) (sz : Nat) (h0 : Nat) (h1 : Nat)  (p0 : Int32) (g0 : Value) (g1 : Value) (i_p0 : 0 ≤ p0.toInt ∧ p0.toInt ≤ 299) :
    CtI l D cB cI cZ yX2_has wsX2_has { frames := 1, cells := 0, slots := 0, locals := 20 } [.ref h0, .int p0] [(h0, .inr (2, [.ref h1, g0, g1])), (h1, .inl (cI, 300, .inl zf))] sz 0 0
      (fun (r : Int32) (u : Unit) => r = 0)
      (fun u => [(h0, .inr (2, [.ref h1, g0, g1])), (h1, .inl (cI, 300, .inl zf))]) := by
  refine mk_metI (cc := cX2_has) (maxL := 2) (ret := (some .boolean)) (by decide) rfl (Nat.le_of_ble_eq_true rfl) ?_
  intro p e s m below meth c A hx hb hr hml hts hown hlocks hin hP hK hN hD hA hS ls hl
  have hown : s.vm.findClass RX2 = some m.cls := hown
  have hl : lv_has ls 2 [(0, .ref h0), (1, .int p0)] := hl
  refine lv_iload_n hx hb dX2_has_0 rfl (lv_at hl 1 rfl) ?_
  refine kc_i (wr := [(h0, .inr (2, [.ref h1, g0, g1])), (h1, .inl (cI, 300, .inl zf))]) (va_runSN (As := [.int p0]) (rest := []) ⟨hx, hb, hml, hown, hts⟩ (K47_X7_isKey l D cB cI cZ _ p0 ⟨by omega, by omega⟩) ⟨va_cnB 1 hts gX2_has_X7_isKey_n22 rfl rfl rfl (hN.m (a := RX2) (i := 22) (y := yX7_isKey) (by decide +kernel)) (hts _ wdX2_has_0) (by decide +kernel) ⟨Nat.le_of_ble_eq_true rfl, Nat.le_of_ble_eq_true rfl⟩, hts _ wdX2_has_1, trivial⟩ (pre_S (hP.sub [] rfl) hK hN (hD.sub [] (by decide) rfl)) rfl rfl hl.1 rfl (lv_room (Nat.le_of_ble_eq_true rfl)) dX2_has_1 ⟨Nat.le_of_ble_eq_true rfl, Nat.le_of_ble_eq_true rfl⟩) hP hD hS hA [] [0, 1] rfl rfl (by decide) (by decide) (fun r_1 u H locs hw hP hD hS => ?_)
  have k_2 := hw
  obtain rfl : r_1 = 1 := k_2
  have hP : va_P D vwCl [(h0, .inr (2, [.ref h1, g0, g1])), (h1, .inl (cI, 300, .inl zf))] H := hP
  have hD : va_D A [(h0, .inr (2, [.ref h1, g0, g1])), (h1, .inl (cI, 300, .inl zf))] := hD
  refine lv_if_eq (tgt := 23) hx hb dX2_has_4 (by decide) (fun c => absurd c (by decide)) (fun c => ?_)
  refine lv_aload_n hx hb dX2_has_7 rfl (lv_at hl 0 rfl) ?_
  refine va_get (D := D) (ci := 2) (v := .ref h1) (C := RX2) (T := TX2) (N := 3) hx hb hts inX2_has_X2 hown hK hP 0 rfl rfl 0 (by decide) (hts _ wdX2_has_2) (fun _ h9 => h9) rfl dX2_has_8 ?_
  refine lv_iload_n hx hb dX2_has_11 rfl (lv_at hl 1 rfl) ?_
  refine va_iald hx hb hK hP 1 1 rfl rfl (ti_in (a := p0.toInt) rfl (by omega) (by omega)) dX2_has_12 ?_
  refine lv_topi (fun z_3 ez_3 => ?_)
  obtain rfl : z_3 = 0 := ez_3
  refine kc_i (wr := [(h0, .inr (2, [.ref h1, g0, g1])), (h1, .inl (cI, 300, .inl zf))]) (va_runSN (As := [.int 0]) (rest := []) ⟨hx, hb, hml, hown, hts⟩ (K105_X7_isOfLog l D cB cI cZ _ ) ⟨va_cnB 1 hts gX2_has_X7_isOfLog_n26 rfl rfl rfl (hN.m (a := RX2) (i := 26) (y := yX7_isOfLog) (by decide +kernel)) (hts _ wdX2_has_0) (by decide +kernel) ⟨Nat.le_of_ble_eq_true rfl, Nat.le_of_ble_eq_true rfl⟩, hts _ wdX2_has_3, trivial⟩ (pre_S (hP.sub [] rfl) hK hN (hD.sub [] (by decide) rfl)) rfl rfl hl.1 rfl (lv_room (Nat.le_of_ble_eq_true rfl)) dX2_has_13 ⟨Nat.le_of_ble_eq_true rfl, Nat.le_of_ble_eq_true rfl⟩) hP hD hS hA [] [0, 1] rfl rfl (by decide) (by decide) (fun r_4 u H locs hw hP hD hS => ?_)
  have k_5 := hw
  obtain rfl : r_4 = 0 := k_5
  have hP : va_P D vwCl [(h0, .inr (2, [.ref h1, g0, g1])), (h1, .inl (cI, 300, .inl zf))] H := hP
  have hD : va_D A [(h0, .inr (2, [.ref h1, g0, g1])), (h1, .inl (cI, 300, .inl zf))] := hD
  refine lv_if_eq (tgt := 23) hx hb dX2_has_16 (by decide) (fun c => ?_) (fun c => absurd (by decide) c)
  refine lv_iconst (v := 0) hx hb dX2_has_23 (by decide) ?_
  exact kr_z () hx hb hr rfl hlocks hP hD hS rfl dX2_has_24
set_option maxHeartbeats 4000000 in
set_option maxRecDepth 100000 in
theorem K119_X6_fillRow (l : Launch) (D : va_G) (cB cI cZ : ClassId) (sz : Nat) (h0 : Nat) (h1 : Nat) (h2 : Nat) (h3 : Nat) (h4 : Nat) (h5 : Nat)  (g0 : Value) (g1 : Value) (g2 : Value) (g3 : Value) (g4 : Value) (g5 : Value) (g6 : Value) (g7 : Value) (g8 : Value) (g9 : Value) (g10 : Value)  :
    CtI l D cB cI cZ yX6_fillRow wsX6_fillRow { frames := 3, cells := 0, slots := 0, locals := 69 } [.ref h0] [(h0, .inr (5, [g0, .ref h1, .ref h2, .ref h3, .int 0, g1])), (h1, .inr (3, [g2, g3, .ref h4, g4, g5, g6, g7, g8, g9, .int 0, .int 0, .int 0, .int 1, .int 0])), (h2, .inr (2, [.ref h5, g10, .int 0])), (h3, .inl (cB, 1600, .inl zf)), (h4, .inl (cI, 64, .inl zf)), (h5, .inl (cI, 300, .inl zf))] sz 0 0
      (fun (r : Int32) (u : (Nat → Int32)) => r = 83 ∧ FB u)
      (fun u => [(h0, .inr (5, [g0, .ref h1, .ref h2, .ref h3, .int 0, g1])), (h1, .inr (3, [g2, g3, .ref h4, g4, g5, g6, g7, g8, g9, .int 0, .int 0, .int 0, .int 1, .int 0])), (h2, .inr (2, [.ref h5, g10, .int 0])), (h4, .inl (cI, 64, .inl zf)), (h5, .inl (cI, 300, .inl zf)), (h3, .inl (cB, 1600, .inl u))]) := by
  refine mk_metI (cc := cX6_fillRow) (maxL := 3) (ret := (some .int)) (by decide) rfl (Nat.le_of_ble_eq_true rfl) ?_
  intro p e s m below meth c A hx hb hr hml hts hown hlocks hin hP hK hN hD hA hS ls hl
  have hown : s.vm.findClass RX6 = some m.cls := hown
  have hl : lv_has ls 3 [(0, .ref h0)] := hl
  refine lv_aload_n hx hb dX6_fillRow_0 rfl (lv_at hl 0 rfl) ?_
  refine va_get (D := D) (ci := 5) (v := .ref h3) (C := RX6) (T := TX6) (N := 6) hx hb hts inX6_fillRow_X6 hown hK hP 0 rfl rfl 3 (by decide) (hts _ wdX6_fillRow_0) (fun _ h9 => h9) rfl dX6_fillRow_1 ?_
  refine lv_iconst (v := 0) hx hb dX6_fillRow_4 (by decide) ?_
  refine kc_v (wr := [(h0, .inr (5, [g0, .ref h1, .ref h2, .ref h3, .int 0, g1])), (h1, .inr (3, [g2, g3, .ref h4, g4, g5, g6, g7, g8, g9, .int 0, .int 0, .int 0, .int 1, .int 0])), (h2, .inr (2, [.ref h5, g10, .int 0])), (h4, .inl (cI, 64, .inl zf)), (h5, .inl (cI, 300, .inl zf))]) (va_runS (As := [.ref h3, .int 0]) (rest := []) ⟨hx, hb, hml, hown, hts⟩ (K120_J7_fill_031fb l D cB cI cZ _ h3) (va_cwS 2 hts gX6_fillRow_J7_fill_031fb rfl rfl rfl (by decide +kernel) ⟨Nat.le_of_ble_eq_true rfl, Nat.le_of_ble_eq_true rfl⟩) (pre_S (hP.sub [3] rfl) hK hN (hD.sub [3] (by decide) rfl)) rfl rfl hl.1 rfl (lv_room (Nat.le_of_ble_eq_true rfl)) dX6_fillRow_5 ⟨Nat.le_of_ble_eq_true rfl, Nat.le_of_ble_eq_true rfl⟩) hP hD hS hA [3] [0, 1, 2, 4, 5] rfl rfl (by decide) (by decide) (fun  u H locs hw hP hD hS => ?_)
  have hP : va_P D vwCl [(h0, .inr (5, [g0, .ref h1, .ref h2, .ref h3, .int 0, g1])), (h1, .inr (3, [g2, g3, .ref h4, g4, g5, g6, g7, g8, g9, .int 0, .int 0, .int 0, .int 1, .int 0])), (h2, .inr (2, [.ref h5, g10, .int 0])), (h4, .inl (cI, 64, .inl zf)), (h5, .inl (cI, 300, .inl zf)), (h3, .inl (cB, 1600, .inl zf))] H := hP
  have hD : va_D A [(h0, .inr (5, [g0, .ref h1, .ref h2, .ref h3, .int 0, g1])), (h1, .inr (3, [g2, g3, .ref h4, g4, g5, g6, g7, g8, g9, .int 0, .int 0, .int 0, .int 1, .int 0])), (h2, .inr (2, [.ref h5, g10, .int 0])), (h4, .inl (cI, 64, .inl zf)), (h5, .inl (cI, 300, .inl zf)), (h3, .inl (cB, 1600, .inl zf))] := hD
  refine lv_aload_n hx hb dX6_fillRow_8 rfl (lv_at hl 0 rfl) ?_
  refine va_get (D := D) (ci := 5) (v := .ref h3) (C := RX6) (T := TX6) (N := 6) hx hb hts inX6_fillRow_X6 hown hK hP 0 rfl rfl 3 (by decide) (hts _ wdX6_fillRow_0) (fun _ h9 => h9) rfl dX6_fillRow_9 ?_
  refine lv_iconst (v := 0) hx hb dX6_fillRow_12 (by decide) ?_
  refine lv_iconst (v := 1) hx hb dX6_fillRow_13 (by decide) ?_
  refine lv_bipush (v := 67) hx hb dX6_fillRow_14 (by decide) ?_
  refine kc_v (wr := [(h0, .inr (5, [g0, .ref h1, .ref h2, .ref h3, .int 0, g1])), (h1, .inr (3, [g2, g3, .ref h4, g4, g5, g6, g7, g8, g9, .int 0, .int 0, .int 0, .int 1, .int 0])), (h2, .inr (2, [.ref h5, g10, .int 0])), (h4, .inl (cI, 64, .inl zf)), (h5, .inl (cI, 300, .inl zf))]) (va_runS (As := [.ref h3, .int 0, .int 1, .int 67]) (rest := []) ⟨hx, hb, hml, hown, hts⟩ (K121_X4_setNumber l D cB cI cZ _ h3 0 67 (by decide)) (va_cwS 4 hts gX6_fillRow_X4_setNumber rfl rfl rfl (by decide +kernel) ⟨Nat.le_of_ble_eq_true rfl, Nat.le_of_ble_eq_true rfl⟩) (pre_S (hP.sub [5] rfl) hK hN (hD.sub [5] (by decide) rfl)) rfl rfl hl.1 rfl (lv_room (Nat.le_of_ble_eq_true rfl)) dX6_fillRow_16 ⟨Nat.le_of_ble_eq_true rfl, Nat.le_of_ble_eq_true rfl⟩) hP hD hS hA [5] [0, 1, 2, 3, 4] rfl rfl (by decide) (by decide) (fun  u H locs hw hP hD hS => ?_)
  obtain ⟨f_1, rfl⟩ : ∃ z, z = u := ⟨_, rfl⟩
  have bf_1 := hw
  have bf_1 : FB f_1 := bf_1
  have hP : va_P D vwCl [(h0, .inr (5, [g0, .ref h1, .ref h2, .ref h3, .int 0, g1])), (h1, .inr (3, [g2, g3, .ref h4, g4, g5, g6, g7, g8, g9, .int 0, .int 0, .int 0, .int 1, .int 0])), (h2, .inr (2, [.ref h5, g10, .int 0])), (h4, .inl (cI, 64, .inl zf)), (h5, .inl (cI, 300, .inl zf)), (h3, .inl (cB, 1600, .inl f_1))] H := hP
  have hD : va_D A [(h0, .inr (5, [g0, .ref h1, .ref h2, .ref h3, .int 0, g1])), (h1, .inr (3, [g2, g3, .ref h4, g4, g5, g6, g7, g8, g9, .int 0, .int 0, .int 0, .int 1, .int 0])), (h2, .inr (2, [.ref h5, g10, .int 0])), (h4, .inl (cI, 64, .inl zf)), (h5, .inl (cI, 300, .inl zf)), (h3, .inl (cB, 1600, .inl f_1))] := hD
  refine lv_aload_n hx hb dX6_fillRow_19 rfl (lv_at hl 0 rfl) ?_
  refine va_get (D := D) (ci := 5) (v := .ref h3) (C := RX6) (T := TX6) (N := 6) hx hb hts inX6_fillRow_X6 hown hK hP 0 rfl rfl 3 (by decide) (hts _ wdX6_fillRow_0) (fun _ h9 => h9) rfl dX6_fillRow_20 ?_
  refine lv_iconst (v := 1) hx hb dX6_fillRow_23 (by decide) ?_
  refine lv_iconst (v := 1) hx hb dX6_fillRow_24 (by decide) ?_
  refine lv_bipush (v := 80) hx hb dX6_fillRow_25 (by decide) ?_
  refine kc_v (wr := [(h0, .inr (5, [g0, .ref h1, .ref h2, .ref h3, .int 0, g1])), (h1, .inr (3, [g2, g3, .ref h4, g4, g5, g6, g7, g8, g9, .int 0, .int 0, .int 0, .int 1, .int 0])), (h2, .inr (2, [.ref h5, g10, .int 0])), (h4, .inl (cI, 64, .inl zf)), (h5, .inl (cI, 300, .inl zf))]) (va_runS (As := [.ref h3, .int 1, .int 1, .int 80]) (rest := []) ⟨hx, hb, hml, hown, hts⟩ (K123_X4_setNumber l D cB cI cZ _ h3 1 80 f_1 (by decide) bf_1) (va_cwS 4 hts gX6_fillRow_X4_setNumber rfl rfl rfl (by decide +kernel) ⟨Nat.le_of_ble_eq_true rfl, Nat.le_of_ble_eq_true rfl⟩) (pre_S (hP.sub [5] rfl) hK hN (hD.sub [5] (by decide) rfl)) rfl rfl hl.1 rfl (lv_room (Nat.le_of_ble_eq_true rfl)) dX6_fillRow_27 ⟨Nat.le_of_ble_eq_true rfl, Nat.le_of_ble_eq_true rfl⟩) hP hD hS hA [5] [0, 1, 2, 3, 4] rfl rfl (by decide) (by decide) (fun  u H locs hw hP hD hS => ?_)
  obtain ⟨f_2, rfl⟩ : ∃ z, z = u := ⟨_, rfl⟩
  have bf_2 := hw
  have bf_2 : FB f_2 := bf_2
  have hP : va_P D vwCl [(h0, .inr (5, [g0, .ref h1, .ref h2, .ref h3, .int 0, g1])), (h1, .inr (3, [g2, g3, .ref h4, g4, g5, g6, g7, g8, g9, .int 0, .int 0, .int 0, .int 1, .int 0])), (h2, .inr (2, [.ref h5, g10, .int 0])), (h4, .inl (cI, 64, .inl zf)), (h5, .inl (cI, 300, .inl zf)), (h3, .inl (cB, 1600, .inl f_2))] H := hP
  have hD : va_D A [(h0, .inr (5, [g0, .ref h1, .ref h2, .ref h3, .int 0, g1])), (h1, .inr (3, [g2, g3, .ref h4, g4, g5, g6, g7, g8, g9, .int 0, .int 0, .int 0, .int 1, .int 0])), (h2, .inr (2, [.ref h5, g10, .int 0])), (h4, .inl (cI, 64, .inl zf)), (h5, .inl (cI, 300, .inl zf)), (h3, .inl (cB, 1600, .inl f_2))] := hD
  refine lv_aload_n hx hb dX6_fillRow_30 rfl (lv_at hl 0 rfl) ?_
  refine va_get (D := D) (ci := 5) (v := .ref h3) (C := RX6) (T := TX6) (N := 6) hx hb hts inX6_fillRow_X6 hown hK hP 0 rfl rfl 3 (by decide) (hts _ wdX6_fillRow_0) (fun _ h9 => h9) rfl dX6_fillRow_31 ?_
  refine lv_iconst (v := 2) hx hb dX6_fillRow_34 (by decide) ?_
  refine lv_iconst (v := 4) hx hb dX6_fillRow_35 (by decide) ?_
  refine lv_aload_n hx hb dX6_fillRow_36 rfl (lv_at hl 0 rfl) ?_
  refine va_get (D := D) (ci := 5) (v := .int 0) (C := RX6) (T := TX6) (N := 6) hx hb hts inX6_fillRow_X6 hown hK hP 0 rfl rfl 4 (by decide) (hts _ wdX6_fillRow_1) (fun _ h9 => h9) rfl dX6_fillRow_37 ?_
  refine lv_iconst (v := 1) hx hb dX6_fillRow_40 (by decide) ?_
  refine lv_iadd hx hb dX6_fillRow_41 ?_
  refine lv_topi (fun z_3 ez_3 => ?_)
  obtain rfl : z_3 = 1 := ez_3.trans (by decide)
  refine kc_v (wr := [(h0, .inr (5, [g0, .ref h1, .ref h2, .ref h3, .int 0, g1])), (h1, .inr (3, [g2, g3, .ref h4, g4, g5, g6, g7, g8, g9, .int 0, .int 0, .int 0, .int 1, .int 0])), (h2, .inr (2, [.ref h5, g10, .int 0])), (h4, .inl (cI, 64, .inl zf)), (h5, .inl (cI, 300, .inl zf))]) (va_runS (As := [.ref h3, .int 2, .int 4, .int 1]) (rest := []) ⟨hx, hb, hml, hown, hts⟩ (K125_X4_setNumber l D cB cI cZ _ h3 2 1 f_2 (by decide) bf_2) (va_cwS 4 hts gX6_fillRow_X4_setNumber rfl rfl rfl (by decide +kernel) ⟨Nat.le_of_ble_eq_true rfl, Nat.le_of_ble_eq_true rfl⟩) (pre_S (hP.sub [5] rfl) hK hN (hD.sub [5] (by decide) rfl)) rfl rfl hl.1 rfl (lv_room (Nat.le_of_ble_eq_true rfl)) dX6_fillRow_42 ⟨Nat.le_of_ble_eq_true rfl, Nat.le_of_ble_eq_true rfl⟩) hP hD hS hA [5] [0, 1, 2, 3, 4] rfl rfl (by decide) (by decide) (fun  u H locs hw hP hD hS => ?_)
  obtain ⟨f_4, rfl⟩ : ∃ z, z = u := ⟨_, rfl⟩
  have bf_4 := hw
  have bf_4 : FB f_4 := bf_4
  have hP : va_P D vwCl [(h0, .inr (5, [g0, .ref h1, .ref h2, .ref h3, .int 0, g1])), (h1, .inr (3, [g2, g3, .ref h4, g4, g5, g6, g7, g8, g9, .int 0, .int 0, .int 0, .int 1, .int 0])), (h2, .inr (2, [.ref h5, g10, .int 0])), (h4, .inl (cI, 64, .inl zf)), (h5, .inl (cI, 300, .inl zf)), (h3, .inl (cB, 1600, .inl f_4))] H := hP
  have hD : va_D A [(h0, .inr (5, [g0, .ref h1, .ref h2, .ref h3, .int 0, g1])), (h1, .inr (3, [g2, g3, .ref h4, g4, g5, g6, g7, g8, g9, .int 0, .int 0, .int 0, .int 1, .int 0])), (h2, .inr (2, [.ref h5, g10, .int 0])), (h4, .inl (cI, 64, .inl zf)), (h5, .inl (cI, 300, .inl zf)), (h3, .inl (cB, 1600, .inl f_4))] := hD
  refine lv_aload_n hx hb dX6_fillRow_45 rfl (lv_at hl 0 rfl) ?_
  refine va_get (D := D) (ci := 5) (v := .ref h3) (C := RX6) (T := TX6) (N := 6) hx hb hts inX6_fillRow_X6 hown hK hP 0 rfl rfl 3 (by decide) (hts _ wdX6_fillRow_0) (fun _ h9 => h9) rfl dX6_fillRow_46 ?_
  refine lv_bipush (v := 6) hx hb dX6_fillRow_49 (by decide) ?_
  refine lv_iconst (v := 4) hx hb dX6_fillRow_51 (by decide) ?_
  refine lv_aload_n hx hb dX6_fillRow_52 rfl (lv_at hl 0 rfl) ?_
  refine va_get (D := D) (ci := 5) (v := .ref h1) (C := RX6) (T := TX6) (N := 6) hx hb hts inX6_fillRow_X6 hown hK hP 0 rfl rfl 1 (by decide) (hts _ wdX6_fillRow_2) (fun _ h9 => h9) rfl dX6_fillRow_53 ?_
  refine va_getN (D := D) (ci := 3) (v := .int 1) (C := RX3) (T := TX3) (N := 14) hx hb hts inX6_fillRow_X3 hown hK hP 1 rfl rfl 12 (by decide) (hN.f (a := "AgedLog$Regions") (i := 56) (b := "AgedLog$Log") (n := "nextSequence") (d := "I") (by decide +kernel)) (fun _ h9 => h9) rfl dX6_fillRow_56 ?_
  refine kc_v (wr := [(h0, .inr (5, [g0, .ref h1, .ref h2, .ref h3, .int 0, g1])), (h1, .inr (3, [g2, g3, .ref h4, g4, g5, g6, g7, g8, g9, .int 0, .int 0, .int 0, .int 1, .int 0])), (h2, .inr (2, [.ref h5, g10, .int 0])), (h4, .inl (cI, 64, .inl zf)), (h5, .inl (cI, 300, .inl zf))]) (va_runS (As := [.ref h3, .int 6, .int 4, .int 1]) (rest := []) ⟨hx, hb, hml, hown, hts⟩ (K125_X4_setNumber l D cB cI cZ _ h3 6 1 f_4 (by decide) bf_4) (va_cwS 4 hts gX6_fillRow_X4_setNumber rfl rfl rfl (by decide +kernel) ⟨Nat.le_of_ble_eq_true rfl, Nat.le_of_ble_eq_true rfl⟩) (pre_S (hP.sub [5] rfl) hK hN (hD.sub [5] (by decide) rfl)) rfl rfl hl.1 rfl (lv_room (Nat.le_of_ble_eq_true rfl)) dX6_fillRow_59 ⟨Nat.le_of_ble_eq_true rfl, Nat.le_of_ble_eq_true rfl⟩) hP hD hS hA [5] [0, 1, 2, 3, 4] rfl rfl (by decide) (by decide) (fun  u H locs hw hP hD hS => ?_)
  obtain ⟨f_5, rfl⟩ : ∃ z, z = u := ⟨_, rfl⟩
  have bf_5 := hw
  have bf_5 : FB f_5 := bf_5
  have hP : va_P D vwCl [(h0, .inr (5, [g0, .ref h1, .ref h2, .ref h3, .int 0, g1])), (h1, .inr (3, [g2, g3, .ref h4, g4, g5, g6, g7, g8, g9, .int 0, .int 0, .int 0, .int 1, .int 0])), (h2, .inr (2, [.ref h5, g10, .int 0])), (h4, .inl (cI, 64, .inl zf)), (h5, .inl (cI, 300, .inl zf)), (h3, .inl (cB, 1600, .inl f_5))] H := hP
  have hD : va_D A [(h0, .inr (5, [g0, .ref h1, .ref h2, .ref h3, .int 0, g1])), (h1, .inr (3, [g2, g3, .ref h4, g4, g5, g6, g7, g8, g9, .int 0, .int 0, .int 0, .int 1, .int 0])), (h2, .inr (2, [.ref h5, g10, .int 0])), (h4, .inl (cI, 64, .inl zf)), (h5, .inl (cI, 300, .inl zf)), (h3, .inl (cB, 1600, .inl f_5))] := hD
  refine lv_aload_n hx hb dX6_fillRow_62 rfl (lv_at hl 0 rfl) ?_
  refine va_get (D := D) (ci := 5) (v := .ref h3) (C := RX6) (T := TX6) (N := 6) hx hb hts inX6_fillRow_X6 hown hK hP 0 rfl rfl 3 (by decide) (hts _ wdX6_fillRow_0) (fun _ h9 => h9) rfl dX6_fillRow_63 ?_
  refine lv_bipush (v := 10) hx hb dX6_fillRow_66 (by decide) ?_
  refine lv_iconst (v := 4) hx hb dX6_fillRow_68 (by decide) ?_
  refine lv_aload_n hx hb dX6_fillRow_69 rfl (lv_at hl 0 rfl) ?_
  refine va_get (D := D) (ci := 5) (v := .ref h1) (C := RX6) (T := TX6) (N := 6) hx hb hts inX6_fillRow_X6 hown hK hP 0 rfl rfl 1 (by decide) (hts _ wdX6_fillRow_2) (fun _ h9 => h9) rfl dX6_fillRow_70 ?_
  refine va_getN (D := D) (ci := 3) (v := .int 0) (C := RX3) (T := TX3) (N := 14) hx hb hts inX6_fillRow_X3 hown hK hP 1 rfl rfl 13 (by decide) (hN.f (a := "AgedLog$Regions") (i := 61) (b := "AgedLog$Log") (n := "clock") (d := "I") (by decide +kernel)) (fun _ h9 => h9) rfl dX6_fillRow_73 ?_
  refine kc_v (wr := [(h0, .inr (5, [g0, .ref h1, .ref h2, .ref h3, .int 0, g1])), (h1, .inr (3, [g2, g3, .ref h4, g4, g5, g6, g7, g8, g9, .int 0, .int 0, .int 0, .int 1, .int 0])), (h2, .inr (2, [.ref h5, g10, .int 0])), (h4, .inl (cI, 64, .inl zf)), (h5, .inl (cI, 300, .inl zf))]) (va_runS (As := [.ref h3, .int 10, .int 4, .int 0]) (rest := []) ⟨hx, hb, hml, hown, hts⟩ (K125_X4_setNumber l D cB cI cZ _ h3 10 0 f_5 (by decide) bf_5) (va_cwS 4 hts gX6_fillRow_X4_setNumber rfl rfl rfl (by decide +kernel) ⟨Nat.le_of_ble_eq_true rfl, Nat.le_of_ble_eq_true rfl⟩) (pre_S (hP.sub [5] rfl) hK hN (hD.sub [5] (by decide) rfl)) rfl rfl hl.1 rfl (lv_room (Nat.le_of_ble_eq_true rfl)) dX6_fillRow_76 ⟨Nat.le_of_ble_eq_true rfl, Nat.le_of_ble_eq_true rfl⟩) hP hD hS hA [5] [0, 1, 2, 3, 4] rfl rfl (by decide) (by decide) (fun  u H locs hw hP hD hS => ?_)
  obtain ⟨f_6, rfl⟩ : ∃ z, z = u := ⟨_, rfl⟩
  have bf_6 := hw
  have bf_6 : FB f_6 := bf_6
  have hP : va_P D vwCl [(h0, .inr (5, [g0, .ref h1, .ref h2, .ref h3, .int 0, g1])), (h1, .inr (3, [g2, g3, .ref h4, g4, g5, g6, g7, g8, g9, .int 0, .int 0, .int 0, .int 1, .int 0])), (h2, .inr (2, [.ref h5, g10, .int 0])), (h4, .inl (cI, 64, .inl zf)), (h5, .inl (cI, 300, .inl zf)), (h3, .inl (cB, 1600, .inl f_6))] H := hP
  have hD : va_D A [(h0, .inr (5, [g0, .ref h1, .ref h2, .ref h3, .int 0, g1])), (h1, .inr (3, [g2, g3, .ref h4, g4, g5, g6, g7, g8, g9, .int 0, .int 0, .int 0, .int 1, .int 0])), (h2, .inr (2, [.ref h5, g10, .int 0])), (h4, .inl (cI, 64, .inl zf)), (h5, .inl (cI, 300, .inl zf)), (h3, .inl (cB, 1600, .inl f_6))] := hD
  refine lv_aload_n hx hb dX6_fillRow_79 rfl (lv_at hl 0 rfl) ?_
  refine va_get (D := D) (ci := 5) (v := .ref h3) (C := RX6) (T := TX6) (N := 6) hx hb hts inX6_fillRow_X6 hown hK hP 0 rfl rfl 3 (by decide) (hts _ wdX6_fillRow_0) (fun _ h9 => h9) rfl dX6_fillRow_80 ?_
  refine lv_bipush (v := 14) hx hb dX6_fillRow_83 (by decide) ?_
  refine lv_iconst (v := 1) hx hb dX6_fillRow_85 (by decide) ?_
  refine lv_aload_n hx hb dX6_fillRow_86 rfl (lv_at hl 0 rfl) ?_
  refine va_get (D := D) (ci := 5) (v := .ref h1) (C := RX6) (T := TX6) (N := 6) hx hb hts inX6_fillRow_X6 hown hK hP 0 rfl rfl 1 (by decide) (hts _ wdX6_fillRow_2) (fun _ h9 => h9) rfl dX6_fillRow_87 ?_
  refine va_getN (D := D) (ci := 3) (v := .int 0) (C := RX3) (T := TX3) (N := 14) hx hb hts inX6_fillRow_X3 hown hK hP 1 rfl rfl 9 (by decide) (hN.f (a := "AgedLog$Regions") (i := 64) (b := "AgedLog$Log") (n := "open") (d := "I") (by decide +kernel)) (fun _ h9 => h9) rfl dX6_fillRow_90 ?_
  refine kc_v (wr := [(h0, .inr (5, [g0, .ref h1, .ref h2, .ref h3, .int 0, g1])), (h1, .inr (3, [g2, g3, .ref h4, g4, g5, g6, g7, g8, g9, .int 0, .int 0, .int 0, .int 1, .int 0])), (h2, .inr (2, [.ref h5, g10, .int 0])), (h4, .inl (cI, 64, .inl zf)), (h5, .inl (cI, 300, .inl zf))]) (va_runS (As := [.ref h3, .int 14, .int 1, .int 0]) (rest := []) ⟨hx, hb, hml, hown, hts⟩ (K123_X4_setNumber l D cB cI cZ _ h3 14 0 f_6 (by decide) bf_6) (va_cwS 4 hts gX6_fillRow_X4_setNumber rfl rfl rfl (by decide +kernel) ⟨Nat.le_of_ble_eq_true rfl, Nat.le_of_ble_eq_true rfl⟩) (pre_S (hP.sub [5] rfl) hK hN (hD.sub [5] (by decide) rfl)) rfl rfl hl.1 rfl (lv_room (Nat.le_of_ble_eq_true rfl)) dX6_fillRow_93 ⟨Nat.le_of_ble_eq_true rfl, Nat.le_of_ble_eq_true rfl⟩) hP hD hS hA [5] [0, 1, 2, 3, 4] rfl rfl (by decide) (by decide) (fun  u H locs hw hP hD hS => ?_)
  obtain ⟨f_7, rfl⟩ : ∃ z, z = u := ⟨_, rfl⟩
  have bf_7 := hw
  have bf_7 : FB f_7 := bf_7
  have hP : va_P D vwCl [(h0, .inr (5, [g0, .ref h1, .ref h2, .ref h3, .int 0, g1])), (h1, .inr (3, [g2, g3, .ref h4, g4, g5, g6, g7, g8, g9, .int 0, .int 0, .int 0, .int 1, .int 0])), (h2, .inr (2, [.ref h5, g10, .int 0])), (h4, .inl (cI, 64, .inl zf)), (h5, .inl (cI, 300, .inl zf)), (h3, .inl (cB, 1600, .inl f_7))] H := hP
  have hD : va_D A [(h0, .inr (5, [g0, .ref h1, .ref h2, .ref h3, .int 0, g1])), (h1, .inr (3, [g2, g3, .ref h4, g4, g5, g6, g7, g8, g9, .int 0, .int 0, .int 0, .int 1, .int 0])), (h2, .inr (2, [.ref h5, g10, .int 0])), (h4, .inl (cI, 64, .inl zf)), (h5, .inl (cI, 300, .inl zf)), (h3, .inl (cB, 1600, .inl f_7))] := hD
  refine lv_aload_n hx hb dX6_fillRow_96 rfl (lv_at hl 0 rfl) ?_
  refine va_get (D := D) (ci := 5) (v := .ref h3) (C := RX6) (T := TX6) (N := 6) hx hb hts inX6_fillRow_X6 hown hK hP 0 rfl rfl 3 (by decide) (hts _ wdX6_fillRow_0) (fun _ h9 => h9) rfl dX6_fillRow_97 ?_
  refine lv_bipush (v := 15) hx hb dX6_fillRow_100 (by decide) ?_
  refine lv_iconst (v := 2) hx hb dX6_fillRow_102 (by decide) ?_
  refine lv_aload_n hx hb dX6_fillRow_103 rfl (lv_at hl 0 rfl) ?_
  refine va_get (D := D) (ci := 5) (v := .ref h1) (C := RX6) (T := TX6) (N := 6) hx hb hts inX6_fillRow_X6 hown hK hP 0 rfl rfl 1 (by decide) (hts _ wdX6_fillRow_2) (fun _ h9 => h9) rfl dX6_fillRow_104 ?_
  refine va_getN (D := D) (ci := 3) (v := .int 0) (C := RX3) (T := TX3) (N := 14) hx hb hts inX6_fillRow_X3 hown hK hP 1 rfl rfl 10 (by decide) (hN.f (a := "AgedLog$Regions") (i := 67) (b := "AgedLog$Log") (n := "place") (d := "I") (by decide +kernel)) (fun _ h9 => h9) rfl dX6_fillRow_107 ?_
  refine kc_v (wr := [(h0, .inr (5, [g0, .ref h1, .ref h2, .ref h3, .int 0, g1])), (h1, .inr (3, [g2, g3, .ref h4, g4, g5, g6, g7, g8, g9, .int 0, .int 0, .int 0, .int 1, .int 0])), (h2, .inr (2, [.ref h5, g10, .int 0])), (h4, .inl (cI, 64, .inl zf)), (h5, .inl (cI, 300, .inl zf))]) (va_runS (As := [.ref h3, .int 15, .int 2, .int 0]) (rest := []) ⟨hx, hb, hml, hown, hts⟩ (K127_X4_setNumber l D cB cI cZ _ h3 15 0 f_7 (by decide) bf_7) (va_cwS 4 hts gX6_fillRow_X4_setNumber rfl rfl rfl (by decide +kernel) ⟨Nat.le_of_ble_eq_true rfl, Nat.le_of_ble_eq_true rfl⟩) (pre_S (hP.sub [5] rfl) hK hN (hD.sub [5] (by decide) rfl)) rfl rfl hl.1 rfl (lv_room (Nat.le_of_ble_eq_true rfl)) dX6_fillRow_110 ⟨Nat.le_of_ble_eq_true rfl, Nat.le_of_ble_eq_true rfl⟩) hP hD hS hA [5] [0, 1, 2, 3, 4] rfl rfl (by decide) (by decide) (fun  u H locs hw hP hD hS => ?_)
  obtain ⟨f_8, rfl⟩ : ∃ z, z = u := ⟨_, rfl⟩
  have bf_8 := hw
  have bf_8 : FB f_8 := bf_8
  have hP : va_P D vwCl [(h0, .inr (5, [g0, .ref h1, .ref h2, .ref h3, .int 0, g1])), (h1, .inr (3, [g2, g3, .ref h4, g4, g5, g6, g7, g8, g9, .int 0, .int 0, .int 0, .int 1, .int 0])), (h2, .inr (2, [.ref h5, g10, .int 0])), (h4, .inl (cI, 64, .inl zf)), (h5, .inl (cI, 300, .inl zf)), (h3, .inl (cB, 1600, .inl f_8))] H := hP
  have hD : va_D A [(h0, .inr (5, [g0, .ref h1, .ref h2, .ref h3, .int 0, g1])), (h1, .inr (3, [g2, g3, .ref h4, g4, g5, g6, g7, g8, g9, .int 0, .int 0, .int 0, .int 1, .int 0])), (h2, .inr (2, [.ref h5, g10, .int 0])), (h4, .inl (cI, 64, .inl zf)), (h5, .inl (cI, 300, .inl zf)), (h3, .inl (cB, 1600, .inl f_8))] := hD
  refine lv_aload_n hx hb dX6_fillRow_113 rfl (lv_at hl 0 rfl) ?_
  refine va_get (D := D) (ci := 5) (v := .ref h3) (C := RX6) (T := TX6) (N := 6) hx hb hts inX6_fillRow_X6 hown hK hP 0 rfl rfl 3 (by decide) (hts _ wdX6_fillRow_0) (fun _ h9 => h9) rfl dX6_fillRow_114 ?_
  refine lv_bipush (v := 17) hx hb dX6_fillRow_117 (by decide) ?_
  refine lv_iconst (v := 4) hx hb dX6_fillRow_119 (by decide) ?_
  refine lv_aload_n hx hb dX6_fillRow_120 rfl (lv_at hl 0 rfl) ?_
  refine va_get (D := D) (ci := 5) (v := .ref h1) (C := RX6) (T := TX6) (N := 6) hx hb hts inX6_fillRow_X6 hown hK hP 0 rfl rfl 1 (by decide) (hts _ wdX6_fillRow_2) (fun _ h9 => h9) rfl dX6_fillRow_121 ?_
  refine va_getN (D := D) (ci := 3) (v := .int 0) (C := RX3) (T := TX3) (N := 14) hx hb hts inX6_fillRow_X3 hown hK hP 1 rfl rfl 11 (by decide) (hN.f (a := "AgedLog$Regions") (i := 70) (b := "AgedLog$Log") (n := "order") (d := "I") (by decide +kernel)) (fun _ h9 => h9) rfl dX6_fillRow_124 ?_
  refine kc_v (wr := [(h0, .inr (5, [g0, .ref h1, .ref h2, .ref h3, .int 0, g1])), (h1, .inr (3, [g2, g3, .ref h4, g4, g5, g6, g7, g8, g9, .int 0, .int 0, .int 0, .int 1, .int 0])), (h2, .inr (2, [.ref h5, g10, .int 0])), (h4, .inl (cI, 64, .inl zf)), (h5, .inl (cI, 300, .inl zf))]) (va_runS (As := [.ref h3, .int 17, .int 4, .int 0]) (rest := []) ⟨hx, hb, hml, hown, hts⟩ (K125_X4_setNumber l D cB cI cZ _ h3 17 0 f_8 (by decide) bf_8) (va_cwS 4 hts gX6_fillRow_X4_setNumber rfl rfl rfl (by decide +kernel) ⟨Nat.le_of_ble_eq_true rfl, Nat.le_of_ble_eq_true rfl⟩) (pre_S (hP.sub [5] rfl) hK hN (hD.sub [5] (by decide) rfl)) rfl rfl hl.1 rfl (lv_room (Nat.le_of_ble_eq_true rfl)) dX6_fillRow_127 ⟨Nat.le_of_ble_eq_true rfl, Nat.le_of_ble_eq_true rfl⟩) hP hD hS hA [5] [0, 1, 2, 3, 4] rfl rfl (by decide) (by decide) (fun  u H locs hw hP hD hS => ?_)
  obtain ⟨f_9, rfl⟩ : ∃ z, z = u := ⟨_, rfl⟩
  have bf_9 := hw
  have bf_9 : FB f_9 := bf_9
  have hP : va_P D vwCl [(h0, .inr (5, [g0, .ref h1, .ref h2, .ref h3, .int 0, g1])), (h1, .inr (3, [g2, g3, .ref h4, g4, g5, g6, g7, g8, g9, .int 0, .int 0, .int 0, .int 1, .int 0])), (h2, .inr (2, [.ref h5, g10, .int 0])), (h4, .inl (cI, 64, .inl zf)), (h5, .inl (cI, 300, .inl zf)), (h3, .inl (cB, 1600, .inl f_9))] H := hP
  have hD : va_D A [(h0, .inr (5, [g0, .ref h1, .ref h2, .ref h3, .int 0, g1])), (h1, .inr (3, [g2, g3, .ref h4, g4, g5, g6, g7, g8, g9, .int 0, .int 0, .int 0, .int 1, .int 0])), (h2, .inr (2, [.ref h5, g10, .int 0])), (h4, .inl (cI, 64, .inl zf)), (h5, .inl (cI, 300, .inl zf)), (h3, .inl (cB, 1600, .inl f_9))] := hD
  refine lv_aload_n hx hb dX6_fillRow_130 rfl (lv_at hl 0 rfl) ?_
  refine va_get (D := D) (ci := 5) (v := .ref h3) (C := RX6) (T := TX6) (N := 6) hx hb hts inX6_fillRow_X6 hown hK hP 0 rfl rfl 3 (by decide) (hts _ wdX6_fillRow_0) (fun _ h9 => h9) rfl dX6_fillRow_131 ?_
  refine lv_bipush (v := 21) hx hb dX6_fillRow_134 (by decide) ?_
  refine lv_iconst (v := 2) hx hb dX6_fillRow_136 (by decide) ?_
  refine lv_aload_n hx hb dX6_fillRow_137 rfl (lv_at hl 0 rfl) ?_
  refine va_get (D := D) (ci := 5) (v := .ref h2) (C := RX6) (T := TX6) (N := 6) hx hb hts inX6_fillRow_X6 hown hK hP 0 rfl rfl 2 (by decide) (hts _ wdX6_fillRow_3) (fun _ h9 => h9) rfl dX6_fillRow_138 ?_
  refine va_getN (D := D) (ci := 2) (v := .int 0) (C := RX2) (T := TX2) (N := 3) hx hb hts inX6_fillRow_X2 hown hK hP 2 rfl rfl 2 (by decide) (hN.f (a := "AgedLog$Regions") (i := 73) (b := "AgedLog$Index") (n := "count") (d := "I") (by decide +kernel)) (fun _ h9 => h9) rfl dX6_fillRow_141 ?_
  refine kc_v (wr := [(h0, .inr (5, [g0, .ref h1, .ref h2, .ref h3, .int 0, g1])), (h1, .inr (3, [g2, g3, .ref h4, g4, g5, g6, g7, g8, g9, .int 0, .int 0, .int 0, .int 1, .int 0])), (h2, .inr (2, [.ref h5, g10, .int 0])), (h4, .inl (cI, 64, .inl zf)), (h5, .inl (cI, 300, .inl zf))]) (va_runS (As := [.ref h3, .int 21, .int 2, .int 0]) (rest := []) ⟨hx, hb, hml, hown, hts⟩ (K127_X4_setNumber l D cB cI cZ _ h3 21 0 f_9 (by decide) bf_9) (va_cwS 4 hts gX6_fillRow_X4_setNumber rfl rfl rfl (by decide +kernel) ⟨Nat.le_of_ble_eq_true rfl, Nat.le_of_ble_eq_true rfl⟩) (pre_S (hP.sub [5] rfl) hK hN (hD.sub [5] (by decide) rfl)) rfl rfl hl.1 rfl (lv_room (Nat.le_of_ble_eq_true rfl)) dX6_fillRow_144 ⟨Nat.le_of_ble_eq_true rfl, Nat.le_of_ble_eq_true rfl⟩) hP hD hS hA [5] [0, 1, 2, 3, 4] rfl rfl (by decide) (by decide) (fun  u H locs hw hP hD hS => ?_)
  obtain ⟨f_10, rfl⟩ : ∃ z, z = u := ⟨_, rfl⟩
  have bf_10 := hw
  have bf_10 : FB f_10 := bf_10
  have hP : va_P D vwCl [(h0, .inr (5, [g0, .ref h1, .ref h2, .ref h3, .int 0, g1])), (h1, .inr (3, [g2, g3, .ref h4, g4, g5, g6, g7, g8, g9, .int 0, .int 0, .int 0, .int 1, .int 0])), (h2, .inr (2, [.ref h5, g10, .int 0])), (h4, .inl (cI, 64, .inl zf)), (h5, .inl (cI, 300, .inl zf)), (h3, .inl (cB, 1600, .inl f_10))] H := hP
  have hD : va_D A [(h0, .inr (5, [g0, .ref h1, .ref h2, .ref h3, .int 0, g1])), (h1, .inr (3, [g2, g3, .ref h4, g4, g5, g6, g7, g8, g9, .int 0, .int 0, .int 0, .int 1, .int 0])), (h2, .inr (2, [.ref h5, g10, .int 0])), (h4, .inl (cI, 64, .inl zf)), (h5, .inl (cI, 300, .inl zf)), (h3, .inl (cB, 1600, .inl f_10))] := hD
  refine lv_bipush (v := 23) hx hb dX6_fillRow_147 (by decide) ?_
  refine lv_istore_n (lv' := [(1, .int 23), (0, .ref h0)]) hx hb dX6_fillRow_149 rfl hl (by decide) rfl (fun ls hl => ?_)
  refine lv_iconst (v := 0) hx hb dX6_fillRow_150 (by decide) ?_
  refine lv_istore_n (lv' := [(2, .int 0), (1, .int 23), (0, .ref h0)]) hx hb dX6_fillRow_151 rfl hl (by decide) rfl (fun ls hl => ?_)
  refine kl (α := Int32) (fun n a H locs ls => (0 ≤ Int32.toInt a) ∧ (Int32.toInt a ≤ 300) ∧ (300 - Int32.toInt a < ((n : Nat) : Int)) ∧ va_P D vwCl [(h0, .inr (5, [g0, .ref h1, .ref h2, .ref h3, .int 0, g1])), (h1, .inr (3, [g2, g3, .ref h4, g4, g5, g6, g7, g8, g9, .int 0, .int 0, .int 0, .int 1, .int 0])), (h2, .inr (2, [.ref h5, g10, .int 0])), (h4, .inl (cI, 64, .inl zf)), (h5, .inl (cI, 300, .inl zf)), (h3, .inl (cB, 1600, .inl f_10))] H ∧ va_D A [(h0, .inr (5, [g0, .ref h1, .ref h2, .ref h3, .int 0, g1])), (h1, .inr (3, [g2, g3, .ref h4, g4, g5, g6, g7, g8, g9, .int 0, .int 0, .int 0, .int 1, .int 0])), (h2, .inr (2, [.ref h5, g10, .int 0])), (h4, .inl (cI, 64, .inl zf)), (h5, .inl (cI, 300, .inl zf)), (h3, .inl (cB, 1600, .inl f_10))] ∧ va_S A s.heap H locs ∧ lv_has ls 3 [(2, .int a), (1, .int 23), (0, .ref h0)]) 301 0 ⟨(by show 0 ≤ Int32.toInt 0; decide), (by show Int32.toInt 0 ≤ 300; decide), (by show 300 - Int32.toInt 0 < ((301 : Nat) : Int); have := (by decide : Int32.toInt 0 = 0); omega), hP, hD, hS, hl⟩ (fun a H locs ls h => ?_) (fun n_12 ih_13 a H locs ls h => ?_)
  · obtain ⟨j_14, j_15, j_16, _⟩ := h
    omega
  obtain ⟨v_11, rfl⟩ : ∃ z, z = a := ⟨_, rfl⟩
  obtain ⟨j_14, j_15, j_16, hP, hD, hS, hl⟩ := h
  have j_14 : 0 ≤ Int32.toInt v_11 := j_14
  have j_15 : Int32.toInt v_11 ≤ 300 := j_15
  have j_16 : 300 - Int32.toInt v_11 < ((n_12 + 1 : Nat) : Int) := j_16
  have hP : va_P D vwCl [(h0, .inr (5, [g0, .ref h1, .ref h2, .ref h3, .int 0, g1])), (h1, .inr (3, [g2, g3, .ref h4, g4, g5, g6, g7, g8, g9, .int 0, .int 0, .int 0, .int 1, .int 0])), (h2, .inr (2, [.ref h5, g10, .int 0])), (h4, .inl (cI, 64, .inl zf)), (h5, .inl (cI, 300, .inl zf)), (h3, .inl (cB, 1600, .inl f_10))] H := hP
  have hD : va_D A [(h0, .inr (5, [g0, .ref h1, .ref h2, .ref h3, .int 0, g1])), (h1, .inr (3, [g2, g3, .ref h4, g4, g5, g6, g7, g8, g9, .int 0, .int 0, .int 0, .int 1, .int 0])), (h2, .inr (2, [.ref h5, g10, .int 0])), (h4, .inl (cI, 64, .inl zf)), (h5, .inl (cI, 300, .inl zf)), (h3, .inl (cB, 1600, .inl f_10))] := hD
  have hl : lv_has ls 3 [(2, .int v_11), (1, .int 23), (0, .ref h0)] := hl
  refine lv_iload_n hx hb dX6_fillRow_152 rfl (lv_at hl 0 rfl) ?_
  refine lv_sipush (v := 300) hx hb dX6_fillRow_153 (by decide) ?_
  refine lv_icmp_ge (tgt := 227) hx hb dX6_fillRow_156 (by decide) (fun c => ?_) (fun c => ?_)
  · skip
    have k_17 := (ti_le (x := 300) (y := v_11) (a := 300) (b := v_11.toInt) (by decide) rfl).mp c
    obtain rfl : v_11 = 300 := ti_inj (a := 300) (by decide) (by omega)
    refine lv_bipush (v := 8) hx hb dX6_fillRow_227 (by decide) ?_
    refine lv_istore_n (lv' := [(2, .int 8), (1, .int 23), (0, .ref h0)]) hx hb dX6_fillRow_229 rfl hl (by decide) rfl (fun ls hl => ?_)
    refine kl (α := Int32 × (Nat → Int32) × Int32) (fun n a H locs ls => (8 ≤ Int32.toInt (a.1)) ∧ (Int32.toInt (a.1) ≤ 64) ∧ (FB (a.2.1)) ∧ (Int32.toInt (a.2.2) = Int32.toInt (a.1) + 15) ∧ (64 - Int32.toInt (a.1) < ((n : Nat) : Int)) ∧ va_P D vwCl [(h0, .inr (5, [g0, .ref h1, .ref h2, .ref h3, .int 0, g1])), (h1, .inr (3, [g2, g3, .ref h4, g4, g5, g6, g7, g8, g9, .int 0, .int 0, .int 0, .int 1, .int 0])), (h2, .inr (2, [.ref h5, g10, .int 0])), (h4, .inl (cI, 64, .inl zf)), (h5, .inl (cI, 300, .inl zf)), (h3, .inl (cB, 1600, .inl (a.2.1)))] H ∧ va_D A [(h0, .inr (5, [g0, .ref h1, .ref h2, .ref h3, .int 0, g1])), (h1, .inr (3, [g2, g3, .ref h4, g4, g5, g6, g7, g8, g9, .int 0, .int 0, .int 0, .int 1, .int 0])), (h2, .inr (2, [.ref h5, g10, .int 0])), (h4, .inl (cI, 64, .inl zf)), (h5, .inl (cI, 300, .inl zf)), (h3, .inl (cB, 1600, .inl (a.2.1)))] ∧ va_S A s.heap H locs ∧ lv_has ls 3 [(2, .int (a.1)), (1, .int (a.2.2)), (0, .ref h0)]) 57 (8, f_10, 23) ⟨(by show 8 ≤ Int32.toInt 8; decide), (by show Int32.toInt 8 ≤ 64; decide), bf_10, (by show Int32.toInt 23 = Int32.toInt 8 + 15; decide), (by show 64 - Int32.toInt 8 < ((57 : Nat) : Int); have := (by decide : Int32.toInt 8 = 8); omega), hP, hD, hS, hl⟩ (fun a H locs ls h => ?_) (fun n_21 ih_22 a H locs ls h => ?_)
    · obtain ⟨j_23, j_24, j_25, j_26, j_27, _⟩ := h
      omega
    obtain ⟨v_20, f_18, v_19⟩ := a
    obtain ⟨j_23, j_24, j_25, j_26, j_27, hP, hD, hS, hl⟩ := h
    have j_23 : 8 ≤ Int32.toInt v_20 := j_23
    have j_24 : Int32.toInt v_20 ≤ 64 := j_24
    have bf_18 : FB f_18 := j_25
    have j_26 : Int32.toInt v_19 = Int32.toInt v_20 + 15 := j_26
    have j_27 : 64 - Int32.toInt v_20 < ((n_21 + 1 : Nat) : Int) := j_27
    have hP : va_P D vwCl [(h0, .inr (5, [g0, .ref h1, .ref h2, .ref h3, .int 0, g1])), (h1, .inr (3, [g2, g3, .ref h4, g4, g5, g6, g7, g8, g9, .int 0, .int 0, .int 0, .int 1, .int 0])), (h2, .inr (2, [.ref h5, g10, .int 0])), (h4, .inl (cI, 64, .inl zf)), (h5, .inl (cI, 300, .inl zf)), (h3, .inl (cB, 1600, .inl f_18))] H := hP
    have hD : va_D A [(h0, .inr (5, [g0, .ref h1, .ref h2, .ref h3, .int 0, g1])), (h1, .inr (3, [g2, g3, .ref h4, g4, g5, g6, g7, g8, g9, .int 0, .int 0, .int 0, .int 1, .int 0])), (h2, .inr (2, [.ref h5, g10, .int 0])), (h4, .inl (cI, 64, .inl zf)), (h5, .inl (cI, 300, .inl zf)), (h3, .inl (cB, 1600, .inl f_18))] := hD
    have hl : lv_has ls 3 [(2, .int v_20), (1, .int v_19), (0, .ref h0)] := hl
    refine lv_iload_n hx hb dX6_fillRow_230 rfl (lv_at hl 0 rfl) ?_
    refine lv_bipush (v := 64) hx hb dX6_fillRow_231 (by decide) ?_
    refine lv_icmp_ge (tgt := 270) hx hb dX6_fillRow_233 (by decide) (fun c => ?_) (fun c => ?_)
    · skip
      have k_28 := (ti_le (x := 64) (y := v_20) (a := 64) (b := v_20.toInt) (by decide) rfl).mp c
      obtain rfl : v_19 = 79 := ti_inj (a := 79) (by decide) (by omega)
      obtain rfl : v_20 = 64 := ti_inj (a := 64) (by decide) (by omega)
      refine lv_aload_n hx hb dX6_fillRow_270 rfl (lv_at hl 2 rfl) ?_
      refine va_get (D := D) (ci := 5) (v := .ref h3) (C := RX6) (T := TX6) (N := 6) hx hb hts inX6_fillRow_X6 hown hK hP 0 rfl rfl 3 (by decide) (hts _ wdX6_fillRow_0) (fun _ h9 => h9) rfl dX6_fillRow_271 ?_
      refine lv_iconst (v := 0) hx hb dX6_fillRow_274 (by decide) ?_
      refine lv_iload_n hx hb dX6_fillRow_275 rfl (lv_at hl 1 rfl) ?_
      refine kc_v (wr := [(h0, .inr (5, [g0, .ref h1, .ref h2, .ref h3, .int 0, g1])), (h1, .inr (3, [g2, g3, .ref h4, g4, g5, g6, g7, g8, g9, .int 0, .int 0, .int 0, .int 1, .int 0])), (h2, .inr (2, [.ref h5, g10, .int 0])), (h4, .inl (cI, 64, .inl zf)), (h5, .inl (cI, 300, .inl zf))]) (va_runS (As := [.ref h3, .int 0, .int 79]) (rest := []) ⟨hx, hb, hml, hown, hts⟩ (K129_X4_setSum l D cB cI cZ _ h3 f_18 bf_18) (va_cwS 3 hts gX6_fillRow_X4_setSum rfl rfl rfl (by decide +kernel) ⟨Nat.le_of_ble_eq_true rfl, Nat.le_of_ble_eq_true rfl⟩) (pre_S (hP.sub [5] rfl) hK hN (hD.sub [5] (by decide) rfl)) rfl rfl hl.1 rfl (lv_room (Nat.le_of_ble_eq_true rfl)) dX6_fillRow_276 ⟨Nat.le_of_ble_eq_true rfl, Nat.le_of_ble_eq_true rfl⟩) hP hD hS hA [5] [0, 1, 2, 3, 4] rfl rfl (by decide) (by decide) (fun  u H locs hw hP hD hS => ?_)
      obtain ⟨f_29, rfl⟩ : ∃ z, z = u := ⟨_, rfl⟩
      have bf_29 := hw
      have bf_29 : FB f_29 := bf_29
      have hP : va_P D vwCl [(h0, .inr (5, [g0, .ref h1, .ref h2, .ref h3, .int 0, g1])), (h1, .inr (3, [g2, g3, .ref h4, g4, g5, g6, g7, g8, g9, .int 0, .int 0, .int 0, .int 1, .int 0])), (h2, .inr (2, [.ref h5, g10, .int 0])), (h4, .inl (cI, 64, .inl zf)), (h5, .inl (cI, 300, .inl zf)), (h3, .inl (cB, 1600, .inl f_29))] H := hP
      have hD : va_D A [(h0, .inr (5, [g0, .ref h1, .ref h2, .ref h3, .int 0, g1])), (h1, .inr (3, [g2, g3, .ref h4, g4, g5, g6, g7, g8, g9, .int 0, .int 0, .int 0, .int 1, .int 0])), (h2, .inr (2, [.ref h5, g10, .int 0])), (h4, .inl (cI, 64, .inl zf)), (h5, .inl (cI, 300, .inl zf)), (h3, .inl (cB, 1600, .inl f_29))] := hD
      refine lv_iload_n hx hb dX6_fillRow_279 rfl (lv_at hl 1 rfl) ?_
      refine lv_iconst (v := 4) hx hb dX6_fillRow_280 (by decide) ?_
      refine lv_iadd hx hb dX6_fillRow_281 ?_
      refine lv_topi (fun z_30 ez_30 => ?_)
      obtain rfl : z_30 = 83 := ez_30.trans (by decide)
      exact kr_i f_29 hx hb hr hlocks hP hD hS ⟨rfl, bf_29⟩ dX6_fillRow_282
    · skip
      have k_31 := mt (ti_le (x := 64) (y := v_20) (a := 64) (b := v_20.toInt) (by decide) rfl).mpr c
      refine lv_aload_n hx hb dX6_fillRow_236 rfl (lv_at hl 2 rfl) ?_
      refine va_get (D := D) (ci := 5) (v := .ref h3) (C := RX6) (T := TX6) (N := 6) hx hb hts inX6_fillRow_X6 hown hK hP 0 rfl rfl 3 (by decide) (hts _ wdX6_fillRow_0) (fun _ h9 => h9) rfl dX6_fillRow_237 ?_
      refine lv_iload_n hx hb dX6_fillRow_240 rfl (lv_at hl 1 rfl) ?_
      refine lv_iconst (v := 1) hx hb dX6_fillRow_241 (by decide) ?_
      refine lv_aload_n hx hb dX6_fillRow_242 rfl (lv_at hl 2 rfl) ?_
      refine va_get (D := D) (ci := 5) (v := .ref h1) (C := RX6) (T := TX6) (N := 6) hx hb hts inX6_fillRow_X6 hown hK hP 0 rfl rfl 1 (by decide) (hts _ wdX6_fillRow_2) (fun _ h9 => h9) rfl dX6_fillRow_243 ?_
      refine lv_iload_n hx hb dX6_fillRow_246 rfl (lv_at hl 0 rfl) ?_
      refine kc_i (wr := [(h0, .inr (5, [g0, .ref h1, .ref h2, .ref h3, .int 0, g1])), (h2, .inr (2, [.ref h5, g10, .int 0])), (h5, .inl (cI, 300, .inl zf)), (h3, .inl (cB, 1600, .inl f_18))]) (va_runV (As := [.int v_20]) (rest := [.int 1, .int v_19, .ref h3]) ⟨hx, hb, hml, hown, hts⟩ (K132_X3_isUsed l D cB cI cZ _ h1 h4 v_20 (g2) (g3) (g4) (g5) (g6) (g7) (g8) (g9) ((.int 0)) ((.int 0)) ((.int 0)) ((.int 1)) ((.int 0)) ⟨by omega, by omega⟩) (cwV 1 hts gX6_fillRow_X3_isUsed rfl rfl rfl (by decide +kernel) ⟨Nat.le_of_ble_eq_true rfl, Nat.le_of_ble_eq_true rfl⟩) (pre_V (q := (RX3, TX3, 14)) (ci := 3) (q0 := 0) (hP.sub [1, 3] rfl) hK hN (hD.sub [1, 3] (by decide) rfl) rfl rfl) rfl rfl hl.1 rfl (lv_room (Nat.le_of_ble_eq_true rfl)) dX6_fillRow_247 ⟨Nat.le_of_ble_eq_true rfl, Nat.le_of_ble_eq_true rfl⟩) hP hD hS hA [1, 3] [0, 2, 4, 5] rfl rfl (by decide) (by decide) (fun r_32 u H locs hw hP hD hS => ?_)
      have k_33 := hw
      obtain rfl : r_32 = 0 := k_33
      have hP : va_P D vwCl [(h0, .inr (5, [g0, .ref h1, .ref h2, .ref h3, .int 0, g1])), (h2, .inr (2, [.ref h5, g10, .int 0])), (h5, .inl (cI, 300, .inl zf)), (h3, .inl (cB, 1600, .inl f_18)), (h1, .inr (3, [g2, g3, .ref h4, g4, g5, g6, g7, g8, g9, .int 0, .int 0, .int 0, .int 1, .int 0])), (h4, .inl (cI, 64, .inl zf))] H := hP
      have hD : va_D A [(h0, .inr (5, [g0, .ref h1, .ref h2, .ref h3, .int 0, g1])), (h2, .inr (2, [.ref h5, g10, .int 0])), (h5, .inl (cI, 300, .inl zf)), (h3, .inl (cB, 1600, .inl f_18)), (h1, .inr (3, [g2, g3, .ref h4, g4, g5, g6, g7, g8, g9, .int 0, .int 0, .int 0, .int 1, .int 0])), (h4, .inl (cI, 64, .inl zf))] := hD
      refine lv_if_eq (tgt := 257) hx hb dX6_fillRow_250 (by decide) (fun c => ?_) (fun c => absurd (by decide) c)
      refine lv_iconst (v := 0) hx hb dX6_fillRow_257 (by decide) ?_
      refine kc_v (wr := [(h0, .inr (5, [g0, .ref h1, .ref h2, .ref h3, .int 0, g1])), (h2, .inr (2, [.ref h5, g10, .int 0])), (h5, .inl (cI, 300, .inl zf)), (h1, .inr (3, [g2, g3, .ref h4, g4, g5, g6, g7, g8, g9, .int 0, .int 0, .int 0, .int 1, .int 0])), (h4, .inl (cI, 64, .inl zf))]) (va_runS (As := [.ref h3, .int v_19, .int 1, .int 0]) (rest := []) ⟨hx, hb, hml, hown, hts⟩ (K123_X4_setNumber l D cB cI cZ _ h3 v_19 0 f_18 ⟨by omega, by omega⟩ bf_18) (va_cwS 4 hts gX6_fillRow_X4_setNumber rfl rfl rfl (by decide +kernel) ⟨Nat.le_of_ble_eq_true rfl, Nat.le_of_ble_eq_true rfl⟩) (pre_S (hP.sub [3] rfl) hK hN (hD.sub [3] (by decide) rfl)) rfl rfl hl.1 rfl (lv_room (Nat.le_of_ble_eq_true rfl)) dX6_fillRow_258 ⟨Nat.le_of_ble_eq_true rfl, Nat.le_of_ble_eq_true rfl⟩) hP hD hS hA [3] [0, 1, 2, 4, 5] rfl rfl (by decide) (by decide) (fun  u H locs hw hP hD hS => ?_)
      obtain ⟨f_34, rfl⟩ : ∃ z, z = u := ⟨_, rfl⟩
      have bf_34 := hw
      have bf_34 : FB f_34 := bf_34
      have hP : va_P D vwCl [(h0, .inr (5, [g0, .ref h1, .ref h2, .ref h3, .int 0, g1])), (h2, .inr (2, [.ref h5, g10, .int 0])), (h5, .inl (cI, 300, .inl zf)), (h1, .inr (3, [g2, g3, .ref h4, g4, g5, g6, g7, g8, g9, .int 0, .int 0, .int 0, .int 1, .int 0])), (h4, .inl (cI, 64, .inl zf)), (h3, .inl (cB, 1600, .inl f_34))] H := hP
      have hD : va_D A [(h0, .inr (5, [g0, .ref h1, .ref h2, .ref h3, .int 0, g1])), (h2, .inr (2, [.ref h5, g10, .int 0])), (h5, .inl (cI, 300, .inl zf)), (h1, .inr (3, [g2, g3, .ref h4, g4, g5, g6, g7, g8, g9, .int 0, .int 0, .int 0, .int 1, .int 0])), (h4, .inl (cI, 64, .inl zf)), (h3, .inl (cB, 1600, .inl f_34))] := hD
      obtain ⟨x_35, ex_35⟩ : ∃ y : Int32, y = v_19 + 1 := ⟨_, rfl⟩
      have tx_35 : x_35.toInt = v_19.toInt + 1 := by rw [ex_35]; exact ti_add rfl (by decide) (by omega) (by omega)
      refine lv_iinc (v := x_35) (lv' := [(1, .int x_35), (2, .int v_20), (0, .ref h0)]) hx hb dX6_fillRow_261 hl (k := 1) rfl (by rw [ex_35]; rfl) (by decide) rfl (fun ls hl => ?_)
      obtain ⟨x_36, ex_36⟩ : ∃ y : Int32, y = v_20 + 1 := ⟨_, rfl⟩
      have tx_36 : x_36.toInt = v_20.toInt + 1 := by rw [ex_36]; exact ti_add rfl (by decide) (by omega) (by omega)
      refine lv_iinc (v := x_36) (lv' := [(2, .int x_36), (1, .int x_35), (0, .ref h0)]) hx hb dX6_fillRow_264 hl (k := 1) rfl (by rw [ex_36]; rfl) (by decide) rfl (fun ls hl => ?_)
      refine lv_goto (tgt := 230) hx hb dX6_fillRow_267 (by decide) ?_
      exact ih_22 (x_36, f_34, x_35) _ _ _ ⟨(by show 8 ≤ Int32.toInt x_36; omega), (by show Int32.toInt x_36 ≤ 64; omega), bf_34, (by show Int32.toInt x_35 = Int32.toInt x_36 + 15; omega), (by show 64 - Int32.toInt x_36 < ((n_21 : Nat) : Int); omega), (hP.sub [0, 3, 1, 4, 2, 5] rfl), (hD.sub [0, 3, 1, 4, 2, 5] (by decide) rfl), hS, hl⟩
  · skip
    have k_37 := mt (ti_le (x := 300) (y := v_11) (a := 300) (b := v_11.toInt) (by decide) rfl).mpr c
    refine lv_aload_n hx hb dX6_fillRow_159 rfl (lv_at hl 2 rfl) ?_
    refine va_get (D := D) (ci := 5) (v := .ref h2) (C := RX6) (T := TX6) (N := 6) hx hb hts inX6_fillRow_X6 hown hK hP 0 rfl rfl 2 (by decide) (hts _ wdX6_fillRow_3) (fun _ h9 => h9) rfl dX6_fillRow_160 ?_
    refine lv_iload_n hx hb dX6_fillRow_163 rfl (lv_at hl 0 rfl) ?_
    refine kc_i (wr := [(h0, .inr (5, [g0, .ref h1, .ref h2, .ref h3, .int 0, g1])), (h1, .inr (3, [g2, g3, .ref h4, g4, g5, g6, g7, g8, g9, .int 0, .int 0, .int 0, .int 1, .int 0])), (h4, .inl (cI, 64, .inl zf)), (h3, .inl (cB, 1600, .inl f_10))]) (va_runV (As := [.int v_11]) (rest := []) ⟨hx, hb, hml, hown, hts⟩ (K134_X2_has l D cB cI cZ _ h2 h5 v_11 (g10) ((.int 0)) ⟨by omega, by omega⟩) (cwV 1 hts gX6_fillRow_X2_has rfl rfl rfl (by decide +kernel) ⟨Nat.le_of_ble_eq_true rfl, Nat.le_of_ble_eq_true rfl⟩) (pre_V (q := (RX2, TX2, 3)) (ci := 2) (q0 := 0) (hP.sub [2, 4] rfl) hK hN (hD.sub [2, 4] (by decide) rfl) rfl rfl) rfl rfl hl.1 rfl (lv_room (Nat.le_of_ble_eq_true rfl)) dX6_fillRow_164 ⟨Nat.le_of_ble_eq_true rfl, Nat.le_of_ble_eq_true rfl⟩) hP hD hS hA [2, 4] [0, 1, 3, 5] rfl rfl (by decide) (by decide) (fun r_38 u H locs hw hP hD hS => ?_)
    have k_39 := hw
    obtain rfl : r_38 = 0 := k_39
    have hP : va_P D vwCl [(h0, .inr (5, [g0, .ref h1, .ref h2, .ref h3, .int 0, g1])), (h1, .inr (3, [g2, g3, .ref h4, g4, g5, g6, g7, g8, g9, .int 0, .int 0, .int 0, .int 1, .int 0])), (h4, .inl (cI, 64, .inl zf)), (h3, .inl (cB, 1600, .inl f_10)), (h2, .inr (2, [.ref h5, g10, .int 0])), (h5, .inl (cI, 300, .inl zf))] H := hP
    have hD : va_D A [(h0, .inr (5, [g0, .ref h1, .ref h2, .ref h3, .int 0, g1])), (h1, .inr (3, [g2, g3, .ref h4, g4, g5, g6, g7, g8, g9, .int 0, .int 0, .int 0, .int 1, .int 0])), (h4, .inl (cI, 64, .inl zf)), (h3, .inl (cB, 1600, .inl f_10)), (h2, .inr (2, [.ref h5, g10, .int 0])), (h5, .inl (cI, 300, .inl zf))] := hD
    refine lv_if_eq (tgt := 221) hx hb dX6_fillRow_167 (by decide) (fun c => ?_) (fun c => absurd (by decide) c)
    obtain ⟨x_40, ex_40⟩ : ∃ y : Int32, y = v_11 + 1 := ⟨_, rfl⟩
    have tx_40 : x_40.toInt = v_11.toInt + 1 := by rw [ex_40]; exact ti_add rfl (by decide) (by omega) (by omega)
    refine lv_iinc (v := x_40) (lv' := [(2, .int x_40), (1, .int 23), (0, .ref h0)]) hx hb dX6_fillRow_221 hl (k := 0) rfl (by rw [ex_40]; rfl) (by decide) rfl (fun ls hl => ?_)
    refine lv_goto (tgt := 152) hx hb dX6_fillRow_224 (by decide) ?_
    exact ih_13 x_40 _ _ _ ⟨(by show 0 ≤ Int32.toInt x_40; omega), (by show Int32.toInt x_40 ≤ 300; omega), (by show 300 - Int32.toInt x_40 < ((n_12 : Nat) : Int); omega), (hP.sub [0, 1, 4, 2, 5, 3] rfl), (hD.sub [0, 1, 4, 2, 5, 3] (by decide) rfl), hS, hl⟩
set_option maxHeartbeats 4000000 in
set_option maxRecDepth 100000 in
theorem K137_X4_isWithin (l : Launch) (D : va_G) (cB cI cZ : ClassId) (sz : Nat) (h0 : Nat)  (p0 : Int32) (f0 : Nat → Int32) (i_p0 : 0 ≤ p0.toInt ∧ p0.toInt ≤ 1536) (b_f0 : FB f0) :
    CtI l D cB cI cZ yX4_isWithin wsX4_isWithin { frames := 0, cells := 0, slots := 0, locals := 0 } [.ref h0, .int p0, .int 64] [(h0, .inl (cB, 1600, .inl f0))] sz 0 0
      (fun (r : Int32) (u : Unit) => r = 1)
      (fun u => [(h0, .inl (cB, 1600, .inl f0))]) := by
  refine mk_metI (cc := cX4_isWithin) (maxL := 3) (ret := (some .boolean)) (by decide) rfl (Nat.le_of_ble_eq_true rfl) ?_
  intro p e s m below meth c A hx hb hr hml hts hown hlocks hin hP hK hN hD hA hS ls hl
  have hown : s.vm.findClass RX4 = some m.cls := hown
  have hl : lv_has ls 3 [(0, .ref h0), (1, .int p0), (2, .int 64)] := hl
  refine lv_iload_n hx hb dX4_isWithin_0 rfl (lv_at hl 1 rfl) ?_
  refine lv_if_lt (tgt := 26) hx hb dX4_isWithin_1 (by decide) (fun c => absurd ((ti_lt (x := p0) (y := 0) (a := p0.toInt) (b := 0) rfl (by decide)).mp c) (by omega)) (fun c => ?_)
  refine lv_iload_n hx hb dX4_isWithin_4 rfl (lv_at hl 2 rfl) ?_
  refine lv_if_lt (tgt := 26) hx hb dX4_isWithin_5 (by decide) (fun c => absurd c (by decide)) (fun c => ?_)
  refine lv_iload_n hx hb dX4_isWithin_8 rfl (lv_at hl 2 rfl) ?_
  refine lv_aload_n hx hb dX4_isWithin_9 rfl (lv_at hl 0 rfl) ?_
  refine va_alen (v := 1600) hx hb hK hP 0 0 rfl rfl (show Int32.ofNat 1600 = 1600 by decide) dX4_isWithin_10 ?_
  refine lv_icmp_gt (tgt := 26) hx hb dX4_isWithin_11 (by decide) (fun c => absurd c (by decide)) (fun c => ?_)
  refine lv_iload_n hx hb dX4_isWithin_14 rfl (lv_at hl 1 rfl) ?_
  refine lv_aload_n hx hb dX4_isWithin_15 rfl (lv_at hl 0 rfl) ?_
  refine va_alen (v := 1600) hx hb hK hP 0 0 rfl rfl (show Int32.ofNat 1600 = 1600 by decide) dX4_isWithin_16 ?_
  refine lv_iload_n hx hb dX4_isWithin_17 rfl (lv_at hl 2 rfl) ?_
  refine lv_isub hx hb dX4_isWithin_18 ?_
  refine lv_topi (fun z_1 ez_1 => ?_)
  obtain rfl : z_1 = 1536 := ez_1.trans (by decide)
  refine lv_icmp_gt (tgt := 26) hx hb dX4_isWithin_19 (by decide) (fun c => absurd ((ti_lt (x := 1536) (y := p0) (a := 1536) (b := p0.toInt) (by decide) rfl).mp c) (by omega)) (fun c => ?_)
  refine lv_iconst (v := 1) hx hb dX4_isWithin_22 (by decide) ?_
  refine lv_goto (tgt := 27) hx hb dX4_isWithin_23 (by decide) ?_
  exact kr_z () hx hb hr rfl hlocks hP hD hS rfl dX4_isWithin_27
set_option maxHeartbeats 4000000 in
set_option maxRecDepth 100000 in
theorem K138_X4_isWithin (l : Launch) (D : va_G) (cB cI cZ : ClassId) (sz : Nat) (h0 : Nat)  (p0 : Int32) (i_p0 : 0 ≤ p0.toInt ∧ p0.toInt ≤ 65472) :
    CtI l D cB cI cZ yX4_isWithin wsX4_isWithin { frames := 0, cells := 0, slots := 0, locals := 0 } [.ref h0, .int p0, .int 64] [(h0, .inl (cB, 65536, .inl zf))] sz 0 0
      (fun (r : Int32) (u : Unit) => r = 1)
      (fun u => [(h0, .inl (cB, 65536, .inl zf))]) := by
  refine mk_metI (cc := cX4_isWithin) (maxL := 3) (ret := (some .boolean)) (by decide) rfl (Nat.le_of_ble_eq_true rfl) ?_
  intro p e s m below meth c A hx hb hr hml hts hown hlocks hin hP hK hN hD hA hS ls hl
  have hown : s.vm.findClass RX4 = some m.cls := hown
  have hl : lv_has ls 3 [(0, .ref h0), (1, .int p0), (2, .int 64)] := hl
  refine lv_iload_n hx hb dX4_isWithin_0 rfl (lv_at hl 1 rfl) ?_
  refine lv_if_lt (tgt := 26) hx hb dX4_isWithin_1 (by decide) (fun c => absurd ((ti_lt (x := p0) (y := 0) (a := p0.toInt) (b := 0) rfl (by decide)).mp c) (by omega)) (fun c => ?_)
  refine lv_iload_n hx hb dX4_isWithin_4 rfl (lv_at hl 2 rfl) ?_
  refine lv_if_lt (tgt := 26) hx hb dX4_isWithin_5 (by decide) (fun c => absurd c (by decide)) (fun c => ?_)
  refine lv_iload_n hx hb dX4_isWithin_8 rfl (lv_at hl 2 rfl) ?_
  refine lv_aload_n hx hb dX4_isWithin_9 rfl (lv_at hl 0 rfl) ?_
  refine va_alen (v := 65536) hx hb hK hP 0 0 rfl rfl (show Int32.ofNat 65536 = 65536 by decide) dX4_isWithin_10 ?_
  refine lv_icmp_gt (tgt := 26) hx hb dX4_isWithin_11 (by decide) (fun c => absurd c (by decide)) (fun c => ?_)
  refine lv_iload_n hx hb dX4_isWithin_14 rfl (lv_at hl 1 rfl) ?_
  refine lv_aload_n hx hb dX4_isWithin_15 rfl (lv_at hl 0 rfl) ?_
  refine va_alen (v := 65536) hx hb hK hP 0 0 rfl rfl (show Int32.ofNat 65536 = 65536 by decide) dX4_isWithin_16 ?_
  refine lv_iload_n hx hb dX4_isWithin_17 rfl (lv_at hl 2 rfl) ?_
  refine lv_isub hx hb dX4_isWithin_18 ?_
  refine lv_topi (fun z_1 ez_1 => ?_)
  obtain rfl : z_1 = 65472 := ez_1.trans (by decide)
  refine lv_icmp_gt (tgt := 26) hx hb dX4_isWithin_19 (by decide) (fun c => absurd ((ti_lt (x := 65472) (y := p0) (a := 65472) (b := p0.toInt) (by decide) rfl).mp c) (by omega)) (fun c => ?_)
  refine lv_iconst (v := 1) hx hb dX4_isWithin_22 (by decide) ?_
  refine lv_goto (tgt := 27) hx hb dX4_isWithin_23 (by decide) ?_
  exact kr_z () hx hb hr rfl hlocks hP hD hS rfl dX4_isWithin_27
set_option maxHeartbeats 4000000 in
set_option maxRecDepth 100000 in
theorem K136_X4_copy (l : Launch) (D : va_G) (cB cI cZ : ClassId) (sz : Nat) (h0 : Nat) (h1 : Nat)  (p0 : Int32) (p1 : Int32) (f0 : Nat → Int32) (i_p0 : 0 ≤ p0.toInt ∧ p0.toInt ≤ 1536) (i_p1 : 0 ≤ p1.toInt ∧ p1.toInt ≤ 65472) (b_f0 : FB f0) :
    CtV l D cB cI cZ yX4_copy wsX4_copy { frames := 1, cells := 0, slots := 0, locals := 60 } [.ref h0, .int p0, .ref h1, .int p1, .int 64] [(h0, .inl (cB, 1600, .inl f0)), (h1, .inl (cB, 65536, .inl zf))] sz 0 0
      (fun (u : (Nat → Int32)) => FB u)
      (fun u => [(h0, .inl (cB, 1600, .inl f0)), (h1, .inl (cB, 65536, .inl u))]) := by
  refine mk_metV (cc := cX4_copy) (maxL := 5) (ret := none) (by decide) rfl (Nat.le_of_ble_eq_true rfl) ?_
  intro p e s m below meth c A hx hb hr hml hts hown hlocks hin hP hK hN hD hA hS ls hl
  have hown : s.vm.findClass RX4 = some m.cls := hown
  have hl : lv_has ls 5 [(0, .ref h0), (1, .int p0), (2, .ref h1), (3, .int p1), (4, .int 64)] := hl
  refine lv_aload_n hx hb dX4_copy_0 rfl (lv_at hl 0 rfl) ?_
  refine lv_iload_n hx hb dX4_copy_1 rfl (lv_at hl 1 rfl) ?_
  refine lv_iload hx hb dX4_copy_2 (lv_at hl 4 rfl) ?_
  refine kc_i (wr := [(h1, .inl (cB, 65536, .inl zf))]) (va_runS (As := [.ref h0, .int p0, .int 64]) (rest := []) ⟨hx, hb, hml, hown, hts⟩ (K137_X4_isWithin l D cB cI cZ _ h0 p0 f0 ⟨by omega, by omega⟩ b_f0) (va_cwS 3 hts gX4_copy_X4_isWithin rfl rfl rfl (by decide +kernel) ⟨Nat.le_of_ble_eq_true rfl, Nat.le_of_ble_eq_true rfl⟩) (pre_S (hP.sub [0] rfl) hK hN (hD.sub [0] (by decide) rfl)) rfl rfl hl.1 rfl (lv_room (Nat.le_of_ble_eq_true rfl)) dX4_copy_4 ⟨Nat.le_of_ble_eq_true rfl, Nat.le_of_ble_eq_true rfl⟩) hP hD hS hA [0] [1] rfl rfl (by decide) (by decide) (fun r_1 u H locs hw hP hD hS => ?_)
  have k_2 := hw
  obtain rfl : r_1 = 1 := k_2
  have hP : va_P D vwCl [(h1, .inl (cB, 65536, .inl zf)), (h0, .inl (cB, 1600, .inl f0))] H := hP
  have hD : va_D A [(h1, .inl (cB, 65536, .inl zf)), (h0, .inl (cB, 1600, .inl f0))] := hD
  refine lv_if_eq (tgt := 29) hx hb dX4_copy_7 (by decide) (fun c => absurd c (by decide)) (fun c => ?_)
  refine lv_aload_n hx hb dX4_copy_10 rfl (lv_at hl 2 rfl) ?_
  refine lv_iload_n hx hb dX4_copy_11 rfl (lv_at hl 3 rfl) ?_
  refine lv_iload hx hb dX4_copy_12 (lv_at hl 4 rfl) ?_
  refine kc_i (wr := [(h0, .inl (cB, 1600, .inl f0))]) (va_runS (As := [.ref h1, .int p1, .int 64]) (rest := []) ⟨hx, hb, hml, hown, hts⟩ (K138_X4_isWithin l D cB cI cZ _ h1 p1 ⟨by omega, by omega⟩) (va_cwS 3 hts gX4_copy_X4_isWithin rfl rfl rfl (by decide +kernel) ⟨Nat.le_of_ble_eq_true rfl, Nat.le_of_ble_eq_true rfl⟩) (pre_S (hP.sub [0] rfl) hK hN (hD.sub [0] (by decide) rfl)) rfl rfl hl.1 rfl (lv_room (Nat.le_of_ble_eq_true rfl)) dX4_copy_14 ⟨Nat.le_of_ble_eq_true rfl, Nat.le_of_ble_eq_true rfl⟩) hP hD hS hA [0] [1] rfl rfl (by decide) (by decide) (fun r_3 u H locs hw hP hD hS => ?_)
  have k_4 := hw
  obtain rfl : r_3 = 1 := k_4
  have hP : va_P D vwCl [(h0, .inl (cB, 1600, .inl f0)), (h1, .inl (cB, 65536, .inl zf))] H := hP
  have hD : va_D A [(h0, .inl (cB, 1600, .inl f0)), (h1, .inl (cB, 65536, .inl zf))] := hD
  refine lv_if_eq (tgt := 29) hx hb dX4_copy_17 (by decide) (fun c => absurd c (by decide)) (fun c => ?_)
  refine lv_aload_n hx hb dX4_copy_20 rfl (lv_at hl 0 rfl) ?_
  refine lv_iload_n hx hb dX4_copy_21 rfl (lv_at hl 1 rfl) ?_
  refine lv_aload_n hx hb dX4_copy_22 rfl (lv_at hl 2 rfl) ?_
  refine lv_iload_n hx hb dX4_copy_23 rfl (lv_at hl 3 rfl) ?_
  refine lv_iload hx hb dX4_copy_24 (lv_at hl 4 rfl) ?_
  refine va_copyi hx hb (hml.trans hl.1.symm) hown (hts _ wdX4_copy_0) (hts _ wdX4_copy_1) (hts _ wdX4_copy_2) (hts _ wdX4_copy_3) hK hP hD hS 0 1 0 0 rfl rfl rfl rfl rfl (fun h => by have := (ti_lt (x := p0) (y := 0) (a := p0.toInt) (b := 0) rfl (by decide)).mp h; omega) (fun h => by have := (ti_lt (x := p1) (y := 0) (a := p1.toInt) (b := 0) rfl (by decide)).mp h; omega) (by decide) (ac_le (x := p0) (n := 64) (a := p0.toInt) (b := 64) rfl (by decide) (by omega) (by omega) (by omega)) (ac_le (x := p1) (n := 64) (a := p1.toInt) (b := 64) rfl (by decide) (by omega) (by omega) (by omega)) (fun i _ => b_f0 _) (Nat.le_of_ble_eq_true rfl) (Nat.le_of_ble_eq_true (by decide +kernel)) dX4_copy_26 (fun H locs hP hD hS => ?_)
  obtain ⟨f_5, ef_5⟩ : ∃ g : Nat → Int32, g = va_cpy f0 zf (Int32.toNatClampNeg p0) (Int32.toNatClampNeg p1) (Int32.toNatClampNeg 64) := ⟨_, rfl⟩
  rw [← ef_5] at hP hD
  have bf_5 : FB f_5 := by rw [ef_5]; exact FB_cpy b_f0 FB_zf _ _ _
  have hP : va_P D vwCl [(h0, .inl (cB, 1600, .inl f0)), (h1, .inl (cB, 65536, .inl f_5))] H := hP
  have hD : va_D A [(h0, .inl (cB, 1600, .inl f0)), (h1, .inl (cB, 65536, .inl f_5))] := hD
  exact kr_v f_5 hx hb hr hlocks hP hD hS bf_5 dX4_copy_29
set_option maxHeartbeats 4000000 in
set_option maxRecDepth 100000 in
theorem K135_X1_write (l : Launch) (D : va_G) (cB cI cZ : ClassId) (sz : Nat) (h0 : Nat) (h1 : Nat) (h2 : Nat) (h3 : Nat)  (p0 : Int32) (p1 : Int32) (p2 : Int32) (g0 : Value) (f0 : Nat → Int32) (i_p0 : 0 ≤ p0.toInt ∧ p0.toInt ≤ 1023) (i_p1 : 0 ≤ p1.toInt ∧ p1.toInt ≤ 1536) (b_f0 : FB f0) :
    CtI l D cB cI cZ yX1_write wsX1_write { frames := 2, cells := 0, slots := 0, locals := 84 } [.ref h0, .int p0, .ref h1, .int p1, .int 0] [(h0, .inr (1, [.ref h2, .ref h3, .int p2, .int 0, g0])), (h1, .inl (cB, 1600, .inl f0)), (h2, .inl (cB, 65536, .inl zf)), (h3, .inl (cI, 1024, .inl zf))] sz 0 0
      (fun (r : Int32) (u : Int32 × (Nat → Int32)) => r = 1 ∧ FB u.2)
      (fun u => [(h0, .inr (1, [.ref h2, .ref h3, .int u.1, .int 0, g0])), (h3, .inl (cI, 1024, .inl zf)), (h1, .inl (cB, 1600, .inl f0)), (h2, .inl (cB, 65536, .inl u.2))]) := by
  refine mk_metI (cc := cX1_write) (maxL := 7) (ret := (some .boolean)) (by decide) rfl (Nat.le_of_ble_eq_true rfl) ?_
  intro p e s m below meth c A hx hb hr hml hts hown hlocks hin hP hK hN hD hA hS ls hl
  have hown : s.vm.findClass RX1 = some m.cls := hown
  have hl : lv_has ls 7 [(0, .ref h0), (1, .int p0), (2, .ref h1), (3, .int p1), (4, .int 0)] := hl
  refine lv_iload_n hx hb dX1_write_0 rfl (lv_at hl 1 rfl) ?_
  refine lv_if_lt (tgt := 13) hx hb dX1_write_1 (by decide) (fun c => absurd ((ti_lt (x := p0) (y := 0) (a := p0.toInt) (b := 0) rfl (by decide)).mp c) (by omega)) (fun c => ?_)
  refine lv_iload_n hx hb dX1_write_4 rfl (lv_at hl 1 rfl) ?_
  refine lv_aload_n hx hb dX1_write_5 rfl (lv_at hl 0 rfl) ?_
  refine va_get (D := D) (ci := 1) (v := .ref h3) (C := RX1) (T := TX1) (N := 5) hx hb hts inX1_write_X1 hown hK hP 0 rfl rfl 1 (by decide) (hts _ wdX1_write_0) (fun _ h9 => h9) rfl dX1_write_6 ?_
  refine va_alen (v := 1024) hx hb hK hP 3 1 rfl rfl (show Int32.ofNat 1024 = 1024 by decide) dX1_write_9 ?_
  refine lv_icmp_lt (tgt := 15) hx hb dX1_write_10 (by decide) (fun c => ?_) (fun c => absurd ((ti_lt (x := p0) (y := 1024) (a := p0.toInt) (b := 1024) rfl (by decide)).mpr (by omega)) c)
  refine lv_aload_n hx hb dX1_write_15 rfl (lv_at hl 0 rfl) ?_
  refine va_get (D := D) (ci := 1) (v := .int 0) (C := RX1) (T := TX1) (N := 5) hx hb hts inX1_write_X1 hown hK hP 0 rfl rfl 3 (by decide) (hts _ wdX1_write_1) (fun _ h9 => h9) rfl dX1_write_16 ?_
  refine lv_iconst (v := 1) hx hb dX1_write_19 (by decide) ?_
  refine lv_icmp_eq (tgt := 27) hx hb dX1_write_20 (by decide) (fun c => absurd c (by decide)) (fun c => ?_)
  refine lv_iconst (v := 1) hx hb dX1_write_23 (by decide) ?_
  refine lv_goto (tgt := 28) hx hb dX1_write_24 (by decide) ?_
  refine lv_istore (lv' := [(5, .int 1), (0, .ref h0), (1, .int p0), (2, .ref h1), (3, .int p1), (4, .int 0)]) hx hb dX1_write_28 hl (by decide) rfl (fun ls hl => ?_)
  refine lv_aload_n hx hb dX1_write_30 rfl (lv_at hl 1 rfl) ?_
  refine va_get (D := D) (ci := 1) (v := .int 0) (C := RX1) (T := TX1) (N := 5) hx hb hts inX1_write_X1 hown hK hP 0 rfl rfl 3 (by decide) (hts _ wdX1_write_1) (fun _ h9 => h9) rfl dX1_write_31 ?_
  refine lv_if_le (tgt := 47) hx hb dX1_write_34 (by decide) (fun c => ?_) (fun c => absurd (by decide) c)
  refine lv_aload_n hx hb dX1_write_47 rfl (lv_at hl 3 rfl) ?_
  refine lv_iload_n hx hb dX1_write_48 rfl (lv_at hl 4 rfl) ?_
  refine lv_aload_n hx hb dX1_write_49 rfl (lv_at hl 1 rfl) ?_
  refine va_get (D := D) (ci := 1) (v := .ref h2) (C := RX1) (T := TX1) (N := 5) hx hb hts inX1_write_X1 hown hK hP 0 rfl rfl 0 (by decide) (hts _ wdX1_write_2) (fun _ h9 => h9) rfl dX1_write_50 ?_
  refine lv_iload_n hx hb dX1_write_53 rfl (lv_at hl 2 rfl) ?_
  refine lv_bipush (v := 64) hx hb dX1_write_54 (by decide) ?_
  refine lv_imul hx hb dX1_write_56 ?_
  refine lv_topi (fun x_1 ex_1 => ?_)
  have tx_1 : x_1.toInt = p0.toInt * 64 := by rw [ex_1]; exact ti_mul rfl (by decide) (by omega) (by omega)
  refine lv_iload hx hb dX1_write_57 (lv_at hl 0 rfl) ?_
  refine lv_if_eq (tgt := 67) hx hb dX1_write_59 (by decide) (fun c => absurd c (by decide)) (fun c => ?_)
  refine lv_bipush (v := 64) hx hb dX1_write_62 (by decide) ?_
  refine lv_goto (tgt := 71) hx hb dX1_write_64 (by decide) ?_
  refine kc_v (wr := [(h0, .inr (1, [.ref h2, .ref h3, .int p2, .int 0, g0])), (h3, .inl (cI, 1024, .inl zf))]) (va_runS (As := [.ref h1, .int p1, .ref h2, .int x_1, .int 64]) (rest := []) ⟨hx, hb, hml, hown, hts⟩ (K136_X4_copy l D cB cI cZ _ h1 h2 p1 x_1 f0 ⟨by omega, by omega⟩ ⟨by omega, by omega⟩ b_f0) (va_cwS 5 hts gX1_write_X4_copy rfl rfl rfl (by decide +kernel) ⟨Nat.le_of_ble_eq_true rfl, Nat.le_of_ble_eq_true rfl⟩) (pre_S (hP.sub [1, 2] rfl) hK hN (hD.sub [1, 2] (by decide) rfl)) rfl rfl hl.1 rfl (lv_room (Nat.le_of_ble_eq_true rfl)) dX1_write_71 ⟨Nat.le_of_ble_eq_true rfl, Nat.le_of_ble_eq_true rfl⟩) hP hD hS hA [1, 2] [0, 3] rfl rfl (by decide) (by decide) (fun  u H locs hw hP hD hS => ?_)
  obtain ⟨f_2, rfl⟩ : ∃ z, z = u := ⟨_, rfl⟩
  have bf_2 := hw
  have bf_2 : FB f_2 := bf_2
  have hP : va_P D vwCl [(h0, .inr (1, [.ref h2, .ref h3, .int p2, .int 0, g0])), (h3, .inl (cI, 1024, .inl zf)), (h1, .inl (cB, 1600, .inl f0)), (h2, .inl (cB, 65536, .inl f_2))] H := hP
  have hD : va_D A [(h0, .inr (1, [.ref h2, .ref h3, .int p2, .int 0, g0])), (h3, .inl (cI, 1024, .inl zf)), (h1, .inl (cB, 1600, .inl f0)), (h2, .inl (cB, 65536, .inl f_2))] := hD
  refine lv_iload hx hb dX1_write_74 (lv_at hl 0 rfl) ?_
  refine lv_if_eq (tgt := 99) hx hb dX1_write_76 (by decide) (fun c => absurd c (by decide)) (fun c => ?_)
  refine lv_aload_n hx hb dX1_write_79 rfl (lv_at hl 1 rfl) ?_
  refine va_get (D := D) (ci := 1) (v := .ref h3) (C := RX1) (T := TX1) (N := 5) hx hb hts inX1_write_X1 hown hK hP 0 rfl rfl 1 (by decide) (hts _ wdX1_write_0) (fun _ h9 => h9) rfl dX1_write_80 ?_
  refine lv_iload_n hx hb dX1_write_83 rfl (lv_at hl 2 rfl) ?_
  refine lv_iconst (v := 0) hx hb dX1_write_84 (by decide) ?_
  refine va_iast hx hb hK hP hD hS 1 1 rfl rfl (ti_in (a := p0.toInt) rfl (by omega) (by omega)) dX1_write_85 (fun H locs hP hD hS => ?_)
  rw [zf_upd] at hP hD
  have hP : va_P D vwCl [(h0, .inr (1, [.ref h2, .ref h3, .int p2, .int 0, g0])), (h3, .inl (cI, 1024, .inl zf)), (h1, .inl (cB, 1600, .inl f0)), (h2, .inl (cB, 65536, .inl f_2))] H := hP
  have hD : va_D A [(h0, .inr (1, [.ref h2, .ref h3, .int p2, .int 0, g0])), (h3, .inl (cI, 1024, .inl zf)), (h1, .inl (cB, 1600, .inl f0)), (h2, .inl (cB, 65536, .inl f_2))] := hD
  refine lv_aload_n hx hb dX1_write_86 rfl (lv_at hl 1 rfl) ?_
  refine lv_dup hx hb dX1_write_87 rfl ?_
  refine va_get (D := D) (ci := 1) (v := .int p2) (C := RX1) (T := TX1) (N := 5) hx hb hts inX1_write_X1 hown hK hP 0 rfl rfl 2 (by decide) (hts _ wdX1_write_3) (fun _ h9 => h9) rfl dX1_write_88 ?_
  refine lv_iconst (v := 1) hx hb dX1_write_91 (by decide) ?_
  refine lv_iadd hx hb dX1_write_92 ?_
  refine lv_topi (fun x_3 ex_3 => ?_)
  refine va_put (D := D) (ci := 1) (v := .int x_3) (ty := .int) (C := RX1) (T := TX1) (N := 5) hx hb hts inX1_write_X1 tyX1 tyX1_ok nmX1 hown hK hP hD hS 0 rfl rfl 2 (by decide) (hts _ wdX1_write_3) (fun _ h9 => h9) rfl (by decide +kernel) rfl rfl (Nat.le_of_ble_eq_true rfl) dX1_write_93 (fun H locs hP hD hS => ?_)
  have hP : va_P D vwCl [(h0, .inr (1, [.ref h2, .ref h3, .int x_3, .int 0, g0])), (h3, .inl (cI, 1024, .inl zf)), (h1, .inl (cB, 1600, .inl f0)), (h2, .inl (cB, 65536, .inl f_2))] H := hP
  have hD : va_D A [(h0, .inr (1, [.ref h2, .ref h3, .int x_3, .int 0, g0])), (h3, .inl (cI, 1024, .inl zf)), (h1, .inl (cB, 1600, .inl f0)), (h2, .inl (cB, 65536, .inl f_2))] := hD
  refine lv_goto (tgt := 130) hx hb dX1_write_96 (by decide) ?_
  refine lv_iload hx hb dX1_write_130 (lv_at hl 0 rfl) ?_
  exact kr_z (x_3, f_2) hx hb hr rfl hlocks hP hD hS ⟨rfl, bf_2⟩ dX1_write_132
set_option maxHeartbeats 4000000 in
set_option maxRecDepth 100000 in
theorem K141_X4_isWithin (l : Launch) (D : va_G) (cB cI cZ : ClassId) (sz : Nat) (h0 : Nat)  (p0 : Int32) (f0 : Nat → Int32) (i_p0 : 0 ≤ p0.toInt ∧ p0.toInt ≤ 65472) (b_f0 : FB f0) :
    CtI l D cB cI cZ yX4_isWithin wsX4_isWithin { frames := 0, cells := 0, slots := 0, locals := 0 } [.ref h0, .int p0, .int 64] [(h0, .inl (cB, 65536, .inl f0))] sz 0 0
      (fun (r : Int32) (u : Unit) => r = 1)
      (fun u => [(h0, .inl (cB, 65536, .inl f0))]) := by
  refine mk_metI (cc := cX4_isWithin) (maxL := 3) (ret := (some .boolean)) (by decide) rfl (Nat.le_of_ble_eq_true rfl) ?_
  intro p e s m below meth c A hx hb hr hml hts hown hlocks hin hP hK hN hD hA hS ls hl
  have hown : s.vm.findClass RX4 = some m.cls := hown
  have hl : lv_has ls 3 [(0, .ref h0), (1, .int p0), (2, .int 64)] := hl
  refine lv_iload_n hx hb dX4_isWithin_0 rfl (lv_at hl 1 rfl) ?_
  refine lv_if_lt (tgt := 26) hx hb dX4_isWithin_1 (by decide) (fun c => absurd ((ti_lt (x := p0) (y := 0) (a := p0.toInt) (b := 0) rfl (by decide)).mp c) (by omega)) (fun c => ?_)
  refine lv_iload_n hx hb dX4_isWithin_4 rfl (lv_at hl 2 rfl) ?_
  refine lv_if_lt (tgt := 26) hx hb dX4_isWithin_5 (by decide) (fun c => absurd c (by decide)) (fun c => ?_)
  refine lv_iload_n hx hb dX4_isWithin_8 rfl (lv_at hl 2 rfl) ?_
  refine lv_aload_n hx hb dX4_isWithin_9 rfl (lv_at hl 0 rfl) ?_
  refine va_alen (v := 65536) hx hb hK hP 0 0 rfl rfl (show Int32.ofNat 65536 = 65536 by decide) dX4_isWithin_10 ?_
  refine lv_icmp_gt (tgt := 26) hx hb dX4_isWithin_11 (by decide) (fun c => absurd c (by decide)) (fun c => ?_)
  refine lv_iload_n hx hb dX4_isWithin_14 rfl (lv_at hl 1 rfl) ?_
  refine lv_aload_n hx hb dX4_isWithin_15 rfl (lv_at hl 0 rfl) ?_
  refine va_alen (v := 65536) hx hb hK hP 0 0 rfl rfl (show Int32.ofNat 65536 = 65536 by decide) dX4_isWithin_16 ?_
  refine lv_iload_n hx hb dX4_isWithin_17 rfl (lv_at hl 2 rfl) ?_
  refine lv_isub hx hb dX4_isWithin_18 ?_
  refine lv_topi (fun z_1 ez_1 => ?_)
  obtain rfl : z_1 = 65472 := ez_1.trans (by decide)
  refine lv_icmp_gt (tgt := 26) hx hb dX4_isWithin_19 (by decide) (fun c => absurd ((ti_lt (x := 65472) (y := p0) (a := 65472) (b := p0.toInt) (by decide) rfl).mp c) (by omega)) (fun c => ?_)
  refine lv_iconst (v := 1) hx hb dX4_isWithin_22 (by decide) ?_
  refine lv_goto (tgt := 27) hx hb dX4_isWithin_23 (by decide) ?_
  exact kr_z () hx hb hr rfl hlocks hP hD hS rfl dX4_isWithin_27
set_option maxHeartbeats 4000000 in
set_option maxRecDepth 100000 in
theorem K140_X4_copy (l : Launch) (D : va_G) (cB cI cZ : ClassId) (sz : Nat) (h0 : Nat) (h1 : Nat)  (p0 : Int32) (p1 : Int32) (f0 : Nat → Int32) (f1 : Nat → Int32) (i_p0 : 0 ≤ p0.toInt ∧ p0.toInt ≤ 1536) (i_p1 : 0 ≤ p1.toInt ∧ p1.toInt ≤ 65472) (b_f0 : FB f0) (b_f1 : FB f1) :
    CtV l D cB cI cZ yX4_copy wsX4_copy { frames := 1, cells := 0, slots := 0, locals := 60 } [.ref h0, .int p0, .ref h1, .int p1, .int 64] [(h0, .inl (cB, 1600, .inl f0)), (h1, .inl (cB, 65536, .inl f1))] sz 0 0
      (fun (u : (Nat → Int32)) => FB u)
      (fun u => [(h0, .inl (cB, 1600, .inl f0)), (h1, .inl (cB, 65536, .inl u))]) := by
  refine mk_metV (cc := cX4_copy) (maxL := 5) (ret := none) (by decide) rfl (Nat.le_of_ble_eq_true rfl) ?_
  intro p e s m below meth c A hx hb hr hml hts hown hlocks hin hP hK hN hD hA hS ls hl
  have hown : s.vm.findClass RX4 = some m.cls := hown
  have hl : lv_has ls 5 [(0, .ref h0), (1, .int p0), (2, .ref h1), (3, .int p1), (4, .int 64)] := hl
  refine lv_aload_n hx hb dX4_copy_0 rfl (lv_at hl 0 rfl) ?_
  refine lv_iload_n hx hb dX4_copy_1 rfl (lv_at hl 1 rfl) ?_
  refine lv_iload hx hb dX4_copy_2 (lv_at hl 4 rfl) ?_
  refine kc_i (wr := [(h1, .inl (cB, 65536, .inl f1))]) (va_runS (As := [.ref h0, .int p0, .int 64]) (rest := []) ⟨hx, hb, hml, hown, hts⟩ (K137_X4_isWithin l D cB cI cZ _ h0 p0 f0 ⟨by omega, by omega⟩ b_f0) (va_cwS 3 hts gX4_copy_X4_isWithin rfl rfl rfl (by decide +kernel) ⟨Nat.le_of_ble_eq_true rfl, Nat.le_of_ble_eq_true rfl⟩) (pre_S (hP.sub [0] rfl) hK hN (hD.sub [0] (by decide) rfl)) rfl rfl hl.1 rfl (lv_room (Nat.le_of_ble_eq_true rfl)) dX4_copy_4 ⟨Nat.le_of_ble_eq_true rfl, Nat.le_of_ble_eq_true rfl⟩) hP hD hS hA [0] [1] rfl rfl (by decide) (by decide) (fun r_1 u H locs hw hP hD hS => ?_)
  have k_2 := hw
  obtain rfl : r_1 = 1 := k_2
  have hP : va_P D vwCl [(h1, .inl (cB, 65536, .inl f1)), (h0, .inl (cB, 1600, .inl f0))] H := hP
  have hD : va_D A [(h1, .inl (cB, 65536, .inl f1)), (h0, .inl (cB, 1600, .inl f0))] := hD
  refine lv_if_eq (tgt := 29) hx hb dX4_copy_7 (by decide) (fun c => absurd c (by decide)) (fun c => ?_)
  refine lv_aload_n hx hb dX4_copy_10 rfl (lv_at hl 2 rfl) ?_
  refine lv_iload_n hx hb dX4_copy_11 rfl (lv_at hl 3 rfl) ?_
  refine lv_iload hx hb dX4_copy_12 (lv_at hl 4 rfl) ?_
  refine kc_i (wr := [(h0, .inl (cB, 1600, .inl f0))]) (va_runS (As := [.ref h1, .int p1, .int 64]) (rest := []) ⟨hx, hb, hml, hown, hts⟩ (K141_X4_isWithin l D cB cI cZ _ h1 p1 f1 ⟨by omega, by omega⟩ b_f1) (va_cwS 3 hts gX4_copy_X4_isWithin rfl rfl rfl (by decide +kernel) ⟨Nat.le_of_ble_eq_true rfl, Nat.le_of_ble_eq_true rfl⟩) (pre_S (hP.sub [0] rfl) hK hN (hD.sub [0] (by decide) rfl)) rfl rfl hl.1 rfl (lv_room (Nat.le_of_ble_eq_true rfl)) dX4_copy_14 ⟨Nat.le_of_ble_eq_true rfl, Nat.le_of_ble_eq_true rfl⟩) hP hD hS hA [0] [1] rfl rfl (by decide) (by decide) (fun r_3 u H locs hw hP hD hS => ?_)
  have k_4 := hw
  obtain rfl : r_3 = 1 := k_4
  have hP : va_P D vwCl [(h0, .inl (cB, 1600, .inl f0)), (h1, .inl (cB, 65536, .inl f1))] H := hP
  have hD : va_D A [(h0, .inl (cB, 1600, .inl f0)), (h1, .inl (cB, 65536, .inl f1))] := hD
  refine lv_if_eq (tgt := 29) hx hb dX4_copy_17 (by decide) (fun c => absurd c (by decide)) (fun c => ?_)
  refine lv_aload_n hx hb dX4_copy_20 rfl (lv_at hl 0 rfl) ?_
  refine lv_iload_n hx hb dX4_copy_21 rfl (lv_at hl 1 rfl) ?_
  refine lv_aload_n hx hb dX4_copy_22 rfl (lv_at hl 2 rfl) ?_
  refine lv_iload_n hx hb dX4_copy_23 rfl (lv_at hl 3 rfl) ?_
  refine lv_iload hx hb dX4_copy_24 (lv_at hl 4 rfl) ?_
  refine va_copyi hx hb (hml.trans hl.1.symm) hown (hts _ wdX4_copy_0) (hts _ wdX4_copy_1) (hts _ wdX4_copy_2) (hts _ wdX4_copy_3) hK hP hD hS 0 1 0 0 rfl rfl rfl rfl rfl (fun h => by have := (ti_lt (x := p0) (y := 0) (a := p0.toInt) (b := 0) rfl (by decide)).mp h; omega) (fun h => by have := (ti_lt (x := p1) (y := 0) (a := p1.toInt) (b := 0) rfl (by decide)).mp h; omega) (by decide) (ac_le (x := p0) (n := 64) (a := p0.toInt) (b := 64) rfl (by decide) (by omega) (by omega) (by omega)) (ac_le (x := p1) (n := 64) (a := p1.toInt) (b := 64) rfl (by decide) (by omega) (by omega) (by omega)) (fun i _ => b_f0 _) (Nat.le_of_ble_eq_true rfl) (Nat.le_of_ble_eq_true (by decide +kernel)) dX4_copy_26 (fun H locs hP hD hS => ?_)
  obtain ⟨f_5, ef_5⟩ : ∃ g : Nat → Int32, g = va_cpy f0 f1 (Int32.toNatClampNeg p0) (Int32.toNatClampNeg p1) (Int32.toNatClampNeg 64) := ⟨_, rfl⟩
  rw [← ef_5] at hP hD
  have bf_5 : FB f_5 := by rw [ef_5]; exact FB_cpy b_f0 b_f1 _ _ _
  have hP : va_P D vwCl [(h0, .inl (cB, 1600, .inl f0)), (h1, .inl (cB, 65536, .inl f_5))] H := hP
  have hD : va_D A [(h0, .inl (cB, 1600, .inl f0)), (h1, .inl (cB, 65536, .inl f_5))] := hD
  exact kr_v f_5 hx hb hr hlocks hP hD hS bf_5 dX4_copy_29
set_option maxHeartbeats 4000000 in
set_option maxRecDepth 100000 in
theorem K139_X1_write (l : Launch) (D : va_G) (cB cI cZ : ClassId) (sz : Nat) (h0 : Nat) (h1 : Nat) (h2 : Nat) (h3 : Nat)  (p0 : Int32) (p1 : Int32) (p2 : Int32) (g0 : Value) (f0 : Nat → Int32) (f1 : Nat → Int32) (i_p0 : 0 ≤ p0.toInt ∧ p0.toInt ≤ 1023) (i_p1 : 0 ≤ p1.toInt ∧ p1.toInt ≤ 1536) (b_f0 : FB f0) (b_f1 : FB f1) :
    CtI l D cB cI cZ yX1_write wsX1_write { frames := 2, cells := 0, slots := 0, locals := 84 } [.ref h0, .int p0, .ref h1, .int p1, .int 0] [(h0, .inr (1, [.ref h2, .ref h3, .int p2, .int 0, g0])), (h1, .inl (cB, 1600, .inl f0)), (h2, .inl (cB, 65536, .inl f1)), (h3, .inl (cI, 1024, .inl zf))] sz 0 0
      (fun (r : Int32) (u : Int32 × (Nat → Int32)) => r = 1 ∧ FB u.2)
      (fun u => [(h0, .inr (1, [.ref h2, .ref h3, .int u.1, .int 0, g0])), (h3, .inl (cI, 1024, .inl zf)), (h1, .inl (cB, 1600, .inl f0)), (h2, .inl (cB, 65536, .inl u.2))]) := by
  refine mk_metI (cc := cX1_write) (maxL := 7) (ret := (some .boolean)) (by decide) rfl (Nat.le_of_ble_eq_true rfl) ?_
  intro p e s m below meth c A hx hb hr hml hts hown hlocks hin hP hK hN hD hA hS ls hl
  have hown : s.vm.findClass RX1 = some m.cls := hown
  have hl : lv_has ls 7 [(0, .ref h0), (1, .int p0), (2, .ref h1), (3, .int p1), (4, .int 0)] := hl
  refine lv_iload_n hx hb dX1_write_0 rfl (lv_at hl 1 rfl) ?_
  refine lv_if_lt (tgt := 13) hx hb dX1_write_1 (by decide) (fun c => absurd ((ti_lt (x := p0) (y := 0) (a := p0.toInt) (b := 0) rfl (by decide)).mp c) (by omega)) (fun c => ?_)
  refine lv_iload_n hx hb dX1_write_4 rfl (lv_at hl 1 rfl) ?_
  refine lv_aload_n hx hb dX1_write_5 rfl (lv_at hl 0 rfl) ?_
  refine va_get (D := D) (ci := 1) (v := .ref h3) (C := RX1) (T := TX1) (N := 5) hx hb hts inX1_write_X1 hown hK hP 0 rfl rfl 1 (by decide) (hts _ wdX1_write_0) (fun _ h9 => h9) rfl dX1_write_6 ?_
  refine va_alen (v := 1024) hx hb hK hP 3 1 rfl rfl (show Int32.ofNat 1024 = 1024 by decide) dX1_write_9 ?_
  refine lv_icmp_lt (tgt := 15) hx hb dX1_write_10 (by decide) (fun c => ?_) (fun c => absurd ((ti_lt (x := p0) (y := 1024) (a := p0.toInt) (b := 1024) rfl (by decide)).mpr (by omega)) c)
  refine lv_aload_n hx hb dX1_write_15 rfl (lv_at hl 0 rfl) ?_
  refine va_get (D := D) (ci := 1) (v := .int 0) (C := RX1) (T := TX1) (N := 5) hx hb hts inX1_write_X1 hown hK hP 0 rfl rfl 3 (by decide) (hts _ wdX1_write_1) (fun _ h9 => h9) rfl dX1_write_16 ?_
  refine lv_iconst (v := 1) hx hb dX1_write_19 (by decide) ?_
  refine lv_icmp_eq (tgt := 27) hx hb dX1_write_20 (by decide) (fun c => absurd c (by decide)) (fun c => ?_)
  refine lv_iconst (v := 1) hx hb dX1_write_23 (by decide) ?_
  refine lv_goto (tgt := 28) hx hb dX1_write_24 (by decide) ?_
  refine lv_istore (lv' := [(5, .int 1), (0, .ref h0), (1, .int p0), (2, .ref h1), (3, .int p1), (4, .int 0)]) hx hb dX1_write_28 hl (by decide) rfl (fun ls hl => ?_)
  refine lv_aload_n hx hb dX1_write_30 rfl (lv_at hl 1 rfl) ?_
  refine va_get (D := D) (ci := 1) (v := .int 0) (C := RX1) (T := TX1) (N := 5) hx hb hts inX1_write_X1 hown hK hP 0 rfl rfl 3 (by decide) (hts _ wdX1_write_1) (fun _ h9 => h9) rfl dX1_write_31 ?_
  refine lv_if_le (tgt := 47) hx hb dX1_write_34 (by decide) (fun c => ?_) (fun c => absurd (by decide) c)
  refine lv_aload_n hx hb dX1_write_47 rfl (lv_at hl 3 rfl) ?_
  refine lv_iload_n hx hb dX1_write_48 rfl (lv_at hl 4 rfl) ?_
  refine lv_aload_n hx hb dX1_write_49 rfl (lv_at hl 1 rfl) ?_
  refine va_get (D := D) (ci := 1) (v := .ref h2) (C := RX1) (T := TX1) (N := 5) hx hb hts inX1_write_X1 hown hK hP 0 rfl rfl 0 (by decide) (hts _ wdX1_write_2) (fun _ h9 => h9) rfl dX1_write_50 ?_
  refine lv_iload_n hx hb dX1_write_53 rfl (lv_at hl 2 rfl) ?_
  refine lv_bipush (v := 64) hx hb dX1_write_54 (by decide) ?_
  refine lv_imul hx hb dX1_write_56 ?_
  refine lv_topi (fun x_1 ex_1 => ?_)
  have tx_1 : x_1.toInt = p0.toInt * 64 := by rw [ex_1]; exact ti_mul rfl (by decide) (by omega) (by omega)
  refine lv_iload hx hb dX1_write_57 (lv_at hl 0 rfl) ?_
  refine lv_if_eq (tgt := 67) hx hb dX1_write_59 (by decide) (fun c => absurd c (by decide)) (fun c => ?_)
  refine lv_bipush (v := 64) hx hb dX1_write_62 (by decide) ?_
  refine lv_goto (tgt := 71) hx hb dX1_write_64 (by decide) ?_
  refine kc_v (wr := [(h0, .inr (1, [.ref h2, .ref h3, .int p2, .int 0, g0])), (h3, .inl (cI, 1024, .inl zf))]) (va_runS (As := [.ref h1, .int p1, .ref h2, .int x_1, .int 64]) (rest := []) ⟨hx, hb, hml, hown, hts⟩ (K140_X4_copy l D cB cI cZ _ h1 h2 p1 x_1 f0 f1 ⟨by omega, by omega⟩ ⟨by omega, by omega⟩ b_f0 b_f1) (va_cwS 5 hts gX1_write_X4_copy rfl rfl rfl (by decide +kernel) ⟨Nat.le_of_ble_eq_true rfl, Nat.le_of_ble_eq_true rfl⟩) (pre_S (hP.sub [1, 2] rfl) hK hN (hD.sub [1, 2] (by decide) rfl)) rfl rfl hl.1 rfl (lv_room (Nat.le_of_ble_eq_true rfl)) dX1_write_71 ⟨Nat.le_of_ble_eq_true rfl, Nat.le_of_ble_eq_true rfl⟩) hP hD hS hA [1, 2] [0, 3] rfl rfl (by decide) (by decide) (fun  u H locs hw hP hD hS => ?_)
  obtain ⟨f_2, rfl⟩ : ∃ z, z = u := ⟨_, rfl⟩
  have bf_2 := hw
  have bf_2 : FB f_2 := bf_2
  have hP : va_P D vwCl [(h0, .inr (1, [.ref h2, .ref h3, .int p2, .int 0, g0])), (h3, .inl (cI, 1024, .inl zf)), (h1, .inl (cB, 1600, .inl f0)), (h2, .inl (cB, 65536, .inl f_2))] H := hP
  have hD : va_D A [(h0, .inr (1, [.ref h2, .ref h3, .int p2, .int 0, g0])), (h3, .inl (cI, 1024, .inl zf)), (h1, .inl (cB, 1600, .inl f0)), (h2, .inl (cB, 65536, .inl f_2))] := hD
  refine lv_iload hx hb dX1_write_74 (lv_at hl 0 rfl) ?_
  refine lv_if_eq (tgt := 99) hx hb dX1_write_76 (by decide) (fun c => absurd c (by decide)) (fun c => ?_)
  refine lv_aload_n hx hb dX1_write_79 rfl (lv_at hl 1 rfl) ?_
  refine va_get (D := D) (ci := 1) (v := .ref h3) (C := RX1) (T := TX1) (N := 5) hx hb hts inX1_write_X1 hown hK hP 0 rfl rfl 1 (by decide) (hts _ wdX1_write_0) (fun _ h9 => h9) rfl dX1_write_80 ?_
  refine lv_iload_n hx hb dX1_write_83 rfl (lv_at hl 2 rfl) ?_
  refine lv_iconst (v := 0) hx hb dX1_write_84 (by decide) ?_
  refine va_iast hx hb hK hP hD hS 1 1 rfl rfl (ti_in (a := p0.toInt) rfl (by omega) (by omega)) dX1_write_85 (fun H locs hP hD hS => ?_)
  rw [zf_upd] at hP hD
  have hP : va_P D vwCl [(h0, .inr (1, [.ref h2, .ref h3, .int p2, .int 0, g0])), (h3, .inl (cI, 1024, .inl zf)), (h1, .inl (cB, 1600, .inl f0)), (h2, .inl (cB, 65536, .inl f_2))] H := hP
  have hD : va_D A [(h0, .inr (1, [.ref h2, .ref h3, .int p2, .int 0, g0])), (h3, .inl (cI, 1024, .inl zf)), (h1, .inl (cB, 1600, .inl f0)), (h2, .inl (cB, 65536, .inl f_2))] := hD
  refine lv_aload_n hx hb dX1_write_86 rfl (lv_at hl 1 rfl) ?_
  refine lv_dup hx hb dX1_write_87 rfl ?_
  refine va_get (D := D) (ci := 1) (v := .int p2) (C := RX1) (T := TX1) (N := 5) hx hb hts inX1_write_X1 hown hK hP 0 rfl rfl 2 (by decide) (hts _ wdX1_write_3) (fun _ h9 => h9) rfl dX1_write_88 ?_
  refine lv_iconst (v := 1) hx hb dX1_write_91 (by decide) ?_
  refine lv_iadd hx hb dX1_write_92 ?_
  refine lv_topi (fun x_3 ex_3 => ?_)
  refine va_put (D := D) (ci := 1) (v := .int x_3) (ty := .int) (C := RX1) (T := TX1) (N := 5) hx hb hts inX1_write_X1 tyX1 tyX1_ok nmX1 hown hK hP hD hS 0 rfl rfl 2 (by decide) (hts _ wdX1_write_3) (fun _ h9 => h9) rfl (by decide +kernel) rfl rfl (Nat.le_of_ble_eq_true rfl) dX1_write_93 (fun H locs hP hD hS => ?_)
  have hP : va_P D vwCl [(h0, .inr (1, [.ref h2, .ref h3, .int x_3, .int 0, g0])), (h3, .inl (cI, 1024, .inl zf)), (h1, .inl (cB, 1600, .inl f0)), (h2, .inl (cB, 65536, .inl f_2))] H := hP
  have hD : va_D A [(h0, .inr (1, [.ref h2, .ref h3, .int x_3, .int 0, g0])), (h3, .inl (cI, 1024, .inl zf)), (h1, .inl (cB, 1600, .inl f0)), (h2, .inl (cB, 65536, .inl f_2))] := hD
  refine lv_goto (tgt := 130) hx hb dX1_write_96 (by decide) ?_
  refine lv_iload hx hb dX1_write_130 (lv_at hl 0 rfl) ?_
  exact kr_z (x_3, f_2) hx hb hr rfl hlocks hP hD hS ⟨rfl, bf_2⟩ dX1_write_132
set_option maxHeartbeats 4000000 in
set_option maxRecDepth 100000 in
theorem K118_X6_write (l : Launch) (D : va_G) (cB cI cZ : ClassId) (sz : Nat) (h0 : Nat) (h1 : Nat) (h2 : Nat) (h3 : Nat) (h4 : Nat) (h5 : Nat) (h6 : Nat) (h7 : Nat) (h8 : Nat)  (g0 : Value) (g1 : Value) (g2 : Value) (g3 : Value) (g4 : Value) (g5 : Value) (g6 : Value) (g7 : Value) (g8 : Value) (g9 : Value)  :
    CtI l D cB cI cZ yX6_write wsX6_write { frames := 4, cells := 0, slots := 0, locals := 110 } [.ref h0] [(h0, .inr (5, [.ref h1, .ref h2, .ref h3, .ref h4, .int 0, .int 0])), (h1, .inr (1, [.ref h5, .ref h6, .int 0, .int 0, g0])), (h2, .inr (3, [g1, g2, .ref h7, g3, g4, g5, g6, g7, g8, .int 0, .int 0, .int 0, .int 1, .int 0])), (h3, .inr (2, [.ref h8, g9, .int 0])), (h4, .inl (cB, 1600, .inl zf)), (h5, .inl (cB, 65536, .inl zf)), (h6, .inl (cI, 1024, .inl zf)), (h7, .inl (cI, 64, .inl zf)), (h8, .inl (cI, 300, .inl zf))] sz 0 0
      (fun (r : Int32) (u : Int32 × (Nat → Int32) × (Nat → Int32)) => r = 1 ∧ FB u.2.1 ∧ FB u.2.2)
      (fun u => [(h0, .inr (5, [.ref h1, .ref h2, .ref h3, .ref h4, .int 1, .int 1])), (h2, .inr (3, [g1, g2, .ref h7, g3, g4, g5, g6, g7, g8, .int 0, .int 0, .int 0, .int 1, .int 0])), (h3, .inr (2, [.ref h8, g9, .int 0])), (h7, .inl (cI, 64, .inl zf)), (h8, .inl (cI, 300, .inl zf)), (h1, .inr (1, [.ref h5, .ref h6, .int u.1, .int 0, g0])), (h6, .inl (cI, 1024, .inl zf)), (h4, .inl (cB, 1600, .inl u.2.1)), (h5, .inl (cB, 65536, .inl u.2.2))]) := by
  refine mk_metI (cc := cX6_write) (maxL := 3) (ret := (some .boolean)) (by decide) rfl (Nat.le_of_ble_eq_true rfl) ?_
  intro p e s m below meth c A hx hb hr hml hts hown hlocks hin hP hK hN hD hA hS ls hl
  have hown : s.vm.findClass RX6 = some m.cls := hown
  have hl : lv_has ls 3 [(0, .ref h0)] := hl
  refine lv_aload_n hx hb dX6_write_0 rfl (lv_at hl 0 rfl) ?_
  refine kc_i (wr := [(h1, .inr (1, [.ref h5, .ref h6, .int 0, .int 0, g0])), (h5, .inl (cB, 65536, .inl zf)), (h6, .inl (cI, 1024, .inl zf))]) (va_runV (As := []) (rest := []) ⟨hx, hb, hml, hown, hts⟩ (K119_X6_fillRow l D cB cI cZ _ h0 h2 h3 h4 h7 h8 ((.ref h1)) ((.int 0)) (g1) (g2) (g3) (g4) (g5) (g6) (g7) (g8) (g9)) (cwV 0 hts gX6_write_X6_fillRow rfl rfl rfl (by decide +kernel) ⟨Nat.le_of_ble_eq_true rfl, Nat.le_of_ble_eq_true rfl⟩) (pre_V (q := (RX6, TX6, 6)) (ci := 5) (q0 := 0) (hP.sub [0, 2, 3, 4, 7, 8] rfl) hK hN (hD.sub [0, 2, 3, 4, 7, 8] (by decide) rfl) rfl rfl) rfl rfl hl.1 rfl (lv_room (Nat.le_of_ble_eq_true rfl)) dX6_write_1 ⟨Nat.le_of_ble_eq_true rfl, Nat.le_of_ble_eq_true rfl⟩) hP hD hS hA [0, 2, 3, 4, 7, 8] [1, 5, 6] rfl rfl (by decide) (by decide) (fun r_1 u H locs hw hP hD hS => ?_)
  obtain ⟨f_2, rfl⟩ : ∃ z, z = u := ⟨_, rfl⟩
  obtain ⟨k_3, bf_2⟩ := hw
  obtain rfl : r_1 = 83 := k_3
  have bf_2 : FB f_2 := bf_2
  have hP : va_P D vwCl [(h1, .inr (1, [.ref h5, .ref h6, .int 0, .int 0, g0])), (h5, .inl (cB, 65536, .inl zf)), (h6, .inl (cI, 1024, .inl zf)), (h0, .inr (5, [.ref h1, .ref h2, .ref h3, .ref h4, .int 0, .int 0])), (h2, .inr (3, [g1, g2, .ref h7, g3, g4, g5, g6, g7, g8, .int 0, .int 0, .int 0, .int 1, .int 0])), (h3, .inr (2, [.ref h8, g9, .int 0])), (h7, .inl (cI, 64, .inl zf)), (h8, .inl (cI, 300, .inl zf)), (h4, .inl (cB, 1600, .inl f_2))] H := hP
  have hD : va_D A [(h1, .inr (1, [.ref h5, .ref h6, .int 0, .int 0, g0])), (h5, .inl (cB, 65536, .inl zf)), (h6, .inl (cI, 1024, .inl zf)), (h0, .inr (5, [.ref h1, .ref h2, .ref h3, .ref h4, .int 0, .int 0])), (h2, .inr (3, [g1, g2, .ref h7, g3, g4, g5, g6, g7, g8, .int 0, .int 0, .int 0, .int 1, .int 0])), (h3, .inr (2, [.ref h8, g9, .int 0])), (h7, .inl (cI, 64, .inl zf)), (h8, .inl (cI, 300, .inl zf)), (h4, .inl (cB, 1600, .inl f_2))] := hD
  refine lv_istore_n (lv' := [(1, .int 83), (0, .ref h0)]) hx hb dX6_write_4 rfl hl (by decide) rfl (fun ls hl => ?_)
  refine lv_iconst (v := 0) hx hb dX6_write_5 (by decide) ?_
  refine lv_istore_n (lv' := [(2, .int 0), (1, .int 83), (0, .ref h0)]) hx hb dX6_write_6 rfl hl (by decide) rfl (fun ls hl => ?_)
  refine lv_iload_n hx hb dX6_write_7 rfl (lv_at hl 0 rfl) ?_
  refine lv_bipush (v := 64) hx hb dX6_write_8 (by decide) ?_
  refine lv_imul hx hb dX6_write_10 ?_
  refine lv_topi (fun z_4 ez_4 => ?_)
  obtain rfl : z_4 = 0 := ez_4.trans (by decide)
  refine lv_iload_n hx hb dX6_write_11 rfl (lv_at hl 1 rfl) ?_
  refine lv_icmp_ge (tgt := 51) hx hb dX6_write_12 (by decide) (fun c => absurd c (by decide)) (fun c => ?_)
  refine lv_aload_n hx hb dX6_write_15 rfl (lv_at hl 2 rfl) ?_
  refine va_get (D := D) (ci := 5) (v := .ref h1) (C := RX6) (T := TX6) (N := 6) hx hb hts inX6_write_X6 hown hK hP 3 rfl rfl 0 (by decide) (hts _ wdX6_write_0) (fun _ h9 => h9) rfl dX6_write_16 ?_
  refine lv_aload_n hx hb dX6_write_19 rfl (lv_at hl 2 rfl) ?_
  refine va_get (D := D) (ci := 5) (v := .int 0) (C := RX6) (T := TX6) (N := 6) hx hb hts inX6_write_X6 hown hK hP 3 rfl rfl 5 (by decide) (hts _ wdX6_write_1) (fun _ h9 => h9) rfl dX6_write_20 ?_
  refine lv_bipush (v := 64) hx hb dX6_write_23 (by decide) ?_
  refine lv_imul hx hb dX6_write_25 ?_
  refine lv_topi (fun z_5 ez_5 => ?_)
  obtain rfl : z_5 = 0 := ez_5.trans (by decide)
  refine lv_iload_n hx hb dX6_write_26 rfl (lv_at hl 0 rfl) ?_
  refine lv_iadd hx hb dX6_write_27 ?_
  refine lv_topi (fun z_6 ez_6 => ?_)
  obtain rfl : z_6 = 0 := ez_6.trans (by decide)
  refine lv_aload_n hx hb dX6_write_28 rfl (lv_at hl 2 rfl) ?_
  refine va_get (D := D) (ci := 5) (v := .ref h4) (C := RX6) (T := TX6) (N := 6) hx hb hts inX6_write_X6 hown hK hP 3 rfl rfl 3 (by decide) (hts _ wdX6_write_2) (fun _ h9 => h9) rfl dX6_write_29 ?_
  refine lv_iload_n hx hb dX6_write_32 rfl (lv_at hl 0 rfl) ?_
  refine lv_bipush (v := 64) hx hb dX6_write_33 (by decide) ?_
  refine lv_imul hx hb dX6_write_35 ?_
  refine lv_topi (fun z_7 ez_7 => ?_)
  obtain rfl : z_7 = 0 := ez_7.trans (by decide)
  refine lv_iconst (v := 0) hx hb dX6_write_36 (by decide) ?_
  refine kc_i (wr := [(h0, .inr (5, [.ref h1, .ref h2, .ref h3, .ref h4, .int 0, .int 0])), (h2, .inr (3, [g1, g2, .ref h7, g3, g4, g5, g6, g7, g8, .int 0, .int 0, .int 0, .int 1, .int 0])), (h3, .inr (2, [.ref h8, g9, .int 0])), (h7, .inl (cI, 64, .inl zf)), (h8, .inl (cI, 300, .inl zf))]) (va_runV (As := [.int 0, .ref h4, .int 0, .int 0]) (rest := []) ⟨hx, hb, hml, hown, hts⟩ (K135_X1_write l D cB cI cZ _ h1 h4 h5 h6 0 0 0 (g0) f_2 (by decide) (by decide) bf_2) (cwV 4 hts gX6_write_X1_write rfl rfl rfl (by decide +kernel) ⟨Nat.le_of_ble_eq_true rfl, Nat.le_of_ble_eq_true rfl⟩) (pre_V (q := (RX1, TX1, 5)) (ci := 1) (q0 := 0) (hP.sub [0, 8, 1, 2] rfl) hK hN (hD.sub [0, 8, 1, 2] (by decide) rfl) rfl rfl) rfl rfl hl.1 rfl (lv_room (Nat.le_of_ble_eq_true rfl)) dX6_write_37 ⟨Nat.le_of_ble_eq_true rfl, Nat.le_of_ble_eq_true rfl⟩) hP hD hS hA [0, 8, 1, 2] [3, 4, 5, 6, 7] rfl rfl (by decide) (by decide) (fun r_8 u H locs hw hP hD hS => ?_)
  obtain ⟨x_9, f_10⟩ := u
  obtain ⟨k_11, bf_10⟩ := hw
  obtain rfl : r_8 = 1 := k_11
  have bf_10 : FB f_10 := bf_10
  have hP : va_P D vwCl [(h0, .inr (5, [.ref h1, .ref h2, .ref h3, .ref h4, .int 0, .int 0])), (h2, .inr (3, [g1, g2, .ref h7, g3, g4, g5, g6, g7, g8, .int 0, .int 0, .int 0, .int 1, .int 0])), (h3, .inr (2, [.ref h8, g9, .int 0])), (h7, .inl (cI, 64, .inl zf)), (h8, .inl (cI, 300, .inl zf)), (h1, .inr (1, [.ref h5, .ref h6, .int x_9, .int 0, g0])), (h6, .inl (cI, 1024, .inl zf)), (h4, .inl (cB, 1600, .inl f_2)), (h5, .inl (cB, 65536, .inl f_10))] H := hP
  have hD : va_D A [(h0, .inr (5, [.ref h1, .ref h2, .ref h3, .ref h4, .int 0, .int 0])), (h2, .inr (3, [g1, g2, .ref h7, g3, g4, g5, g6, g7, g8, .int 0, .int 0, .int 0, .int 1, .int 0])), (h3, .inr (2, [.ref h8, g9, .int 0])), (h7, .inl (cI, 64, .inl zf)), (h8, .inl (cI, 300, .inl zf)), (h1, .inr (1, [.ref h5, .ref h6, .int x_9, .int 0, g0])), (h6, .inl (cI, 1024, .inl zf)), (h4, .inl (cB, 1600, .inl f_2)), (h5, .inl (cB, 65536, .inl f_10))] := hD
  refine lv_if_ne (tgt := 45) hx hb dX6_write_40 (by decide) (fun c => ?_) (fun c => absurd c (by decide))
  refine lv_iinc (v := 1) (lv' := [(2, .int 1), (1, .int 83), (0, .ref h0)]) hx hb dX6_write_45 hl (k := 0) rfl (by decide) (by decide) rfl (fun ls hl => ?_)
  refine lv_goto (tgt := 7) hx hb dX6_write_48 (by decide) ?_
  refine lv_iload_n hx hb dX6_write_7 rfl (lv_at hl 0 rfl) ?_
  refine lv_bipush (v := 64) hx hb dX6_write_8 (by decide) ?_
  refine lv_imul hx hb dX6_write_10 ?_
  refine lv_topi (fun z_12 ez_12 => ?_)
  obtain rfl : z_12 = 64 := ez_12.trans (by decide)
  refine lv_iload_n hx hb dX6_write_11 rfl (lv_at hl 1 rfl) ?_
  refine lv_icmp_ge (tgt := 51) hx hb dX6_write_12 (by decide) (fun c => absurd c (by decide)) (fun c => ?_)
  refine lv_aload_n hx hb dX6_write_15 rfl (lv_at hl 2 rfl) ?_
  refine va_get (D := D) (ci := 5) (v := .ref h1) (C := RX6) (T := TX6) (N := 6) hx hb hts inX6_write_X6 hown hK hP 0 rfl rfl 0 (by decide) (hts _ wdX6_write_0) (fun _ h9 => h9) rfl dX6_write_16 ?_
  refine lv_aload_n hx hb dX6_write_19 rfl (lv_at hl 2 rfl) ?_
  refine va_get (D := D) (ci := 5) (v := .int 0) (C := RX6) (T := TX6) (N := 6) hx hb hts inX6_write_X6 hown hK hP 0 rfl rfl 5 (by decide) (hts _ wdX6_write_1) (fun _ h9 => h9) rfl dX6_write_20 ?_
  refine lv_bipush (v := 64) hx hb dX6_write_23 (by decide) ?_
  refine lv_imul hx hb dX6_write_25 ?_
  refine lv_topi (fun z_13 ez_13 => ?_)
  obtain rfl : z_13 = 0 := ez_13.trans (by decide)
  refine lv_iload_n hx hb dX6_write_26 rfl (lv_at hl 0 rfl) ?_
  refine lv_iadd hx hb dX6_write_27 ?_
  refine lv_topi (fun z_14 ez_14 => ?_)
  obtain rfl : z_14 = 1 := ez_14.trans (by decide)
  refine lv_aload_n hx hb dX6_write_28 rfl (lv_at hl 2 rfl) ?_
  refine va_get (D := D) (ci := 5) (v := .ref h4) (C := RX6) (T := TX6) (N := 6) hx hb hts inX6_write_X6 hown hK hP 0 rfl rfl 3 (by decide) (hts _ wdX6_write_2) (fun _ h9 => h9) rfl dX6_write_29 ?_
  refine lv_iload_n hx hb dX6_write_32 rfl (lv_at hl 0 rfl) ?_
  refine lv_bipush (v := 64) hx hb dX6_write_33 (by decide) ?_
  refine lv_imul hx hb dX6_write_35 ?_
  refine lv_topi (fun z_15 ez_15 => ?_)
  obtain rfl : z_15 = 64 := ez_15.trans (by decide)
  refine lv_iconst (v := 0) hx hb dX6_write_36 (by decide) ?_
  refine kc_i (wr := [(h0, .inr (5, [.ref h1, .ref h2, .ref h3, .ref h4, .int 0, .int 0])), (h2, .inr (3, [g1, g2, .ref h7, g3, g4, g5, g6, g7, g8, .int 0, .int 0, .int 0, .int 1, .int 0])), (h3, .inr (2, [.ref h8, g9, .int 0])), (h7, .inl (cI, 64, .inl zf)), (h8, .inl (cI, 300, .inl zf))]) (va_runV (As := [.int 1, .ref h4, .int 64, .int 0]) (rest := []) ⟨hx, hb, hml, hown, hts⟩ (K139_X1_write l D cB cI cZ _ h1 h4 h5 h6 1 64 x_9 (g0) f_2 f_10 (by decide) (by decide) bf_2 bf_10) (cwV 4 hts gX6_write_X1_write rfl rfl rfl (by decide +kernel) ⟨Nat.le_of_ble_eq_true rfl, Nat.le_of_ble_eq_true rfl⟩) (pre_V (q := (RX1, TX1, 5)) (ci := 1) (q0 := 0) (hP.sub [5, 7, 8, 6] rfl) hK hN (hD.sub [5, 7, 8, 6] (by decide) rfl) rfl rfl) rfl rfl hl.1 rfl (lv_room (Nat.le_of_ble_eq_true rfl)) dX6_write_37 ⟨Nat.le_of_ble_eq_true rfl, Nat.le_of_ble_eq_true rfl⟩) hP hD hS hA [5, 7, 8, 6] [0, 1, 2, 3, 4] rfl rfl (by decide) (by decide) (fun r_16 u H locs hw hP hD hS => ?_)
  obtain ⟨x_17, f_18⟩ := u
  obtain ⟨k_19, bf_18⟩ := hw
  obtain rfl : r_16 = 1 := k_19
  have bf_18 : FB f_18 := bf_18
  have hP : va_P D vwCl [(h0, .inr (5, [.ref h1, .ref h2, .ref h3, .ref h4, .int 0, .int 0])), (h2, .inr (3, [g1, g2, .ref h7, g3, g4, g5, g6, g7, g8, .int 0, .int 0, .int 0, .int 1, .int 0])), (h3, .inr (2, [.ref h8, g9, .int 0])), (h7, .inl (cI, 64, .inl zf)), (h8, .inl (cI, 300, .inl zf)), (h1, .inr (1, [.ref h5, .ref h6, .int x_17, .int 0, g0])), (h6, .inl (cI, 1024, .inl zf)), (h4, .inl (cB, 1600, .inl f_2)), (h5, .inl (cB, 65536, .inl f_18))] H := hP
  have hD : va_D A [(h0, .inr (5, [.ref h1, .ref h2, .ref h3, .ref h4, .int 0, .int 0])), (h2, .inr (3, [g1, g2, .ref h7, g3, g4, g5, g6, g7, g8, .int 0, .int 0, .int 0, .int 1, .int 0])), (h3, .inr (2, [.ref h8, g9, .int 0])), (h7, .inl (cI, 64, .inl zf)), (h8, .inl (cI, 300, .inl zf)), (h1, .inr (1, [.ref h5, .ref h6, .int x_17, .int 0, g0])), (h6, .inl (cI, 1024, .inl zf)), (h4, .inl (cB, 1600, .inl f_2)), (h5, .inl (cB, 65536, .inl f_18))] := hD
  refine lv_if_ne (tgt := 45) hx hb dX6_write_40 (by decide) (fun c => ?_) (fun c => absurd c (by decide))
  refine lv_iinc (v := 2) (lv' := [(2, .int 2), (1, .int 83), (0, .ref h0)]) hx hb dX6_write_45 hl (k := 0) rfl (by decide) (by decide) rfl (fun ls hl => ?_)
  refine lv_goto (tgt := 7) hx hb dX6_write_48 (by decide) ?_
  refine lv_iload_n hx hb dX6_write_7 rfl (lv_at hl 0 rfl) ?_
  refine lv_bipush (v := 64) hx hb dX6_write_8 (by decide) ?_
  refine lv_imul hx hb dX6_write_10 ?_
  refine lv_topi (fun z_20 ez_20 => ?_)
  obtain rfl : z_20 = 128 := ez_20.trans (by decide)
  refine lv_iload_n hx hb dX6_write_11 rfl (lv_at hl 1 rfl) ?_
  refine lv_icmp_ge (tgt := 51) hx hb dX6_write_12 (by decide) (fun c => ?_) (fun c => absurd (by decide) c)
  refine lv_aload_n hx hb dX6_write_51 rfl (lv_at hl 2 rfl) ?_
  refine lv_dup hx hb dX6_write_52 rfl ?_
  refine va_get (D := D) (ci := 5) (v := .int 0) (C := RX6) (T := TX6) (N := 6) hx hb hts inX6_write_X6 hown hK hP 0 rfl rfl 4 (by decide) (hts _ wdX6_write_3) (fun _ h9 => h9) rfl dX6_write_53 ?_
  refine lv_iconst (v := 1) hx hb dX6_write_56 (by decide) ?_
  refine lv_iadd hx hb dX6_write_57 ?_
  refine lv_topi (fun z_21 ez_21 => ?_)
  obtain rfl : z_21 = 1 := ez_21.trans (by decide)
  refine va_put (D := D) (ci := 5) (v := .int 1) (ty := .int) (C := RX6) (T := TX6) (N := 6) hx hb hts inX6_write_X6 tyX6 tyX6_ok nmX6 hown hK hP hD hS 0 rfl rfl 4 (by decide) (hts _ wdX6_write_3) (fun _ h9 => h9) rfl (by decide +kernel) rfl rfl (Nat.le_of_ble_eq_true rfl) dX6_write_58 (fun H locs hP hD hS => ?_)
  have hP : va_P D vwCl [(h0, .inr (5, [.ref h1, .ref h2, .ref h3, .ref h4, .int 1, .int 0])), (h2, .inr (3, [g1, g2, .ref h7, g3, g4, g5, g6, g7, g8, .int 0, .int 0, .int 0, .int 1, .int 0])), (h3, .inr (2, [.ref h8, g9, .int 0])), (h7, .inl (cI, 64, .inl zf)), (h8, .inl (cI, 300, .inl zf)), (h1, .inr (1, [.ref h5, .ref h6, .int x_17, .int 0, g0])), (h6, .inl (cI, 1024, .inl zf)), (h4, .inl (cB, 1600, .inl f_2)), (h5, .inl (cB, 65536, .inl f_18))] H := hP
  have hD : va_D A [(h0, .inr (5, [.ref h1, .ref h2, .ref h3, .ref h4, .int 1, .int 0])), (h2, .inr (3, [g1, g2, .ref h7, g3, g4, g5, g6, g7, g8, .int 0, .int 0, .int 0, .int 1, .int 0])), (h3, .inr (2, [.ref h8, g9, .int 0])), (h7, .inl (cI, 64, .inl zf)), (h8, .inl (cI, 300, .inl zf)), (h1, .inr (1, [.ref h5, .ref h6, .int x_17, .int 0, g0])), (h6, .inl (cI, 1024, .inl zf)), (h4, .inl (cB, 1600, .inl f_2)), (h5, .inl (cB, 65536, .inl f_18))] := hD
  refine lv_aload_n hx hb dX6_write_61 rfl (lv_at hl 2 rfl) ?_
  refine lv_iconst (v := 1) hx hb dX6_write_62 (by decide) ?_
  refine lv_aload_n hx hb dX6_write_63 rfl (lv_at hl 2 rfl) ?_
  refine va_get (D := D) (ci := 5) (v := .int 0) (C := RX6) (T := TX6) (N := 6) hx hb hts inX6_write_X6 hown hK hP 0 rfl rfl 5 (by decide) (hts _ wdX6_write_1) (fun _ h9 => h9) rfl dX6_write_64 ?_
  refine lv_isub hx hb dX6_write_67 ?_
  refine lv_topi (fun z_22 ez_22 => ?_)
  obtain rfl : z_22 = 1 := ez_22.trans (by decide)
  refine va_put (D := D) (ci := 5) (v := .int 1) (ty := .int) (C := RX6) (T := TX6) (N := 6) hx hb hts inX6_write_X6 tyX6 tyX6_ok nmX6 hown hK hP hD hS 0 rfl rfl 5 (by decide) (hts _ wdX6_write_1) (fun _ h9 => h9) rfl (by decide +kernel) rfl rfl (Nat.le_of_ble_eq_true rfl) dX6_write_68 (fun H locs hP hD hS => ?_)
  have hP : va_P D vwCl [(h0, .inr (5, [.ref h1, .ref h2, .ref h3, .ref h4, .int 1, .int 1])), (h2, .inr (3, [g1, g2, .ref h7, g3, g4, g5, g6, g7, g8, .int 0, .int 0, .int 0, .int 1, .int 0])), (h3, .inr (2, [.ref h8, g9, .int 0])), (h7, .inl (cI, 64, .inl zf)), (h8, .inl (cI, 300, .inl zf)), (h1, .inr (1, [.ref h5, .ref h6, .int x_17, .int 0, g0])), (h6, .inl (cI, 1024, .inl zf)), (h4, .inl (cB, 1600, .inl f_2)), (h5, .inl (cB, 65536, .inl f_18))] H := hP
  have hD : va_D A [(h0, .inr (5, [.ref h1, .ref h2, .ref h3, .ref h4, .int 1, .int 1])), (h2, .inr (3, [g1, g2, .ref h7, g3, g4, g5, g6, g7, g8, .int 0, .int 0, .int 0, .int 1, .int 0])), (h3, .inr (2, [.ref h8, g9, .int 0])), (h7, .inl (cI, 64, .inl zf)), (h8, .inl (cI, 300, .inl zf)), (h1, .inr (1, [.ref h5, .ref h6, .int x_17, .int 0, g0])), (h6, .inl (cI, 1024, .inl zf)), (h4, .inl (cB, 1600, .inl f_2)), (h5, .inl (cB, 65536, .inl f_18))] := hD
  refine lv_iconst (v := 1) hx hb dX6_write_71 (by decide) ?_
  exact kr_z (x_17, f_2, f_18) hx hb hr rfl hlocks hP hD hS ⟨rfl, bf_2, bf_18⟩ dX6_write_72
set_option maxHeartbeats 4000000 in
set_option maxRecDepth 100000 in
theorem K142_X3_freeSpent (l : Launch) (D : va_G) (cB cI cZ : ClassId) (sz : Nat) (h0 : Nat) (h1 : Nat)  (g0 : Value) (g1 : Value) (g2 : Value) (g3 : Value) (g4 : Value) (g5 : Value) (g6 : Value) (g7 : Value) (g8 : Value) (g9 : Value) (g10 : Value) (g11 : Value) (g12 : Value)  :
    CtV l D cB cI cZ yX3_freeSpent wsX3_freeSpent { frames := 0, cells := 0, slots := 0, locals := 0 } [.ref h0] [(h0, .inr (3, [g0, g1, .ref h1, g2, g3, g4, g5, g6, g7, g8, g9, g10, g11, g12])), (h1, .inl (cI, 64, .inl zf))] sz 0 0
      (fun (u : Unit) => True)
      (fun u => [(h0, .inr (3, [g0, g1, .ref h1, g2, g3, g4, g5, g6, g7, g8, g9, g10, g11, g12])), (h1, .inl (cI, 64, .inl zf))]) := by
  refine mk_metV (cc := cX3_freeSpent) (maxL := 2) (ret := none) (by decide) rfl (Nat.le_of_ble_eq_true rfl) ?_
  intro p e s m below meth c A hx hb hr hml hts hown hlocks hin hP hK hN hD hA hS ls hl
  have hown : s.vm.findClass RX3 = some m.cls := hown
  have hl : lv_has ls 2 [(0, .ref h0)] := hl
  refine lv_bipush (v := 8) hx hb dX3_freeSpent_0 (by decide) ?_
  refine lv_istore_n (lv' := [(1, .int 8), (0, .ref h0)]) hx hb dX3_freeSpent_2 rfl hl (by decide) rfl (fun ls hl => ?_)
  refine kl (α := Int32) (fun n a H locs ls => (8 ≤ Int32.toInt a) ∧ (Int32.toInt a ≤ 64) ∧ (64 - Int32.toInt a < ((n : Nat) : Int)) ∧ va_P D vwCl [(h0, .inr (3, [g0, g1, .ref h1, g2, g3, g4, g5, g6, g7, g8, g9, g10, g11, g12])), (h1, .inl (cI, 64, .inl zf))] H ∧ va_D A [(h0, .inr (3, [g0, g1, .ref h1, g2, g3, g4, g5, g6, g7, g8, g9, g10, g11, g12])), (h1, .inl (cI, 64, .inl zf))] ∧ va_S A s.heap H locs ∧ lv_has ls 2 [(1, .int a), (0, .ref h0)]) 57 8 ⟨(by show 8 ≤ Int32.toInt 8; decide), (by show Int32.toInt 8 ≤ 64; decide), (by show 64 - Int32.toInt 8 < ((57 : Nat) : Int); have := (by decide : Int32.toInt 8 = 8); omega), hP, hD, hS, hl⟩ (fun a H locs ls h => ?_) (fun n_2 ih_3 a H locs ls h => ?_)
  · obtain ⟨j_4, j_5, j_6, _⟩ := h
    omega
  obtain ⟨v_1, rfl⟩ : ∃ z, z = a := ⟨_, rfl⟩
  obtain ⟨j_4, j_5, j_6, hP, hD, hS, hl⟩ := h
  have j_4 : 8 ≤ Int32.toInt v_1 := j_4
  have j_5 : Int32.toInt v_1 ≤ 64 := j_5
  have j_6 : 64 - Int32.toInt v_1 < ((n_2 + 1 : Nat) : Int) := j_6
  have hP : va_P D vwCl [(h0, .inr (3, [g0, g1, .ref h1, g2, g3, g4, g5, g6, g7, g8, g9, g10, g11, g12])), (h1, .inl (cI, 64, .inl zf))] H := hP
  have hD : va_D A [(h0, .inr (3, [g0, g1, .ref h1, g2, g3, g4, g5, g6, g7, g8, g9, g10, g11, g12])), (h1, .inl (cI, 64, .inl zf))] := hD
  have hl : lv_has ls 2 [(1, .int v_1), (0, .ref h0)] := hl
  refine lv_iload_n hx hb dX3_freeSpent_3 rfl (lv_at hl 0 rfl) ?_
  refine lv_bipush (v := 64) hx hb dX3_freeSpent_4 (by decide) ?_
  refine lv_icmp_ge (tgt := 32) hx hb dX3_freeSpent_6 (by decide) (fun c => ?_) (fun c => ?_)
  · skip
    have k_7 := (ti_le (x := 64) (y := v_1) (a := 64) (b := v_1.toInt) (by decide) rfl).mp c
    obtain rfl : v_1 = 64 := ti_inj (a := 64) (by decide) (by omega)
    exact kr_v () hx hb hr hlocks hP hD hS trivial dX3_freeSpent_32
  · skip
    have k_8 := mt (ti_le (x := 64) (y := v_1) (a := 64) (b := v_1.toInt) (by decide) rfl).mpr c
    refine lv_aload_n hx hb dX3_freeSpent_9 rfl (lv_at hl 1 rfl) ?_
    refine va_get (D := D) (ci := 3) (v := .ref h1) (C := RX3) (T := TX3) (N := 14) hx hb hts inX3_freeSpent_X3 hown hK hP 0 rfl rfl 2 (by decide) (hts _ wdX3_freeSpent_0) (fun _ h9 => h9) rfl dX3_freeSpent_10 ?_
    refine lv_iload_n hx hb dX3_freeSpent_13 rfl (lv_at hl 0 rfl) ?_
    refine va_iald hx hb hK hP 1 1 rfl rfl (ti_in (a := v_1.toInt) rfl (by omega) (by omega)) dX3_freeSpent_14 ?_
    refine lv_topi (fun z_9 ez_9 => ?_)
    obtain rfl : z_9 = 0 := ez_9
    refine lv_iconst (v := 3) hx hb dX3_freeSpent_15 (by decide) ?_
    refine lv_icmp_ne (tgt := 26) hx hb dX3_freeSpent_16 (by decide) (fun c => ?_) (fun c => absurd c (by decide))
    obtain ⟨x_10, ex_10⟩ : ∃ y : Int32, y = v_1 + 1 := ⟨_, rfl⟩
    have tx_10 : x_10.toInt = v_1.toInt + 1 := by rw [ex_10]; exact ti_add rfl (by decide) (by omega) (by omega)
    refine lv_iinc (v := x_10) (lv' := [(1, .int x_10), (0, .ref h0)]) hx hb dX3_freeSpent_26 hl (k := 0) rfl (by rw [ex_10]; rfl) (by decide) rfl (fun ls hl => ?_)
    refine lv_goto (tgt := 3) hx hb dX3_freeSpent_29 (by decide) ?_
    exact ih_3 x_10 _ _ _ ⟨(by show 8 ≤ Int32.toInt x_10; omega), (by show Int32.toInt x_10 ≤ 64; omega), (by show 64 - Int32.toInt x_10 < ((n_2 : Nat) : Int); omega), hP, hD, hS, hl⟩
set_option maxHeartbeats 4000000 in
set_option maxRecDepth 100000 in
theorem K117_X7_checkpoint (l : Launch) (D : va_G) (cB cI cZ : ClassId) (sz : Nat) (h0 : Nat) (h1 : Nat) (h2 : Nat) (h3 : Nat) (h4 : Nat) (h5 : Nat) (h6 : Nat) (h7 : Nat) (h8 : Nat) (h9 : Nat)  (g0 : Value) (g1 : Value) (g2 : Value) (g3 : Value) (g4 : Value) (g5 : Value) (g6 : Value) (g7 : Value) (g8 : Value) (g9 : Value) (g10 : Value) (g11 : Value) (g12 : Value) (g13 : Value)  :
    CtI l D cB cI cZ yX7_checkpoint wsX7_checkpoint { frames := 5, cells := 0, slots := 0, locals := 132 } [.ref h0] [(h0, .inr (6, [.ref h1, g0, .ref h2, g1, .ref h3, g2, g3, g4, .int 0])), (h1, .inr (1, [.ref h4, .ref h5, .int 0, .int 0, g5])), (h2, .inr (3, [g6, g7, .ref h6, g8, g9, g10, g11, g12, .int 0, .int 0, .int 0, .int 0, .int 1, .int 0])), (h3, .inr (5, [.ref h1, .ref h2, .ref h7, .ref h8, .int 0, .int 0])), (h4, .inl (cB, 65536, .inl zf)), (h5, .inl (cI, 1024, .inl zf)), (h6, .inl (cI, 64, .inl zf)), (h7, .inr (2, [.ref h9, g13, .int 0])), (h8, .inl (cB, 1600, .inl zf)), (h9, .inl (cI, 300, .inl zf))] sz 0 0
      (fun (r : Int32) (u : Unit) => r = 1)
      (fun u => []) := by
  refine mk_metI (cc := cX7_checkpoint) (maxL := 1) (ret := (some .int)) (by decide) rfl (Nat.le_of_ble_eq_true rfl) ?_
  intro p e s m below meth c A hx hb hr hml hts hown hlocks hin hP hK hN hD hA hS ls hl
  have hown : s.vm.findClass RX7 = some m.cls := hown
  have hl : lv_has ls 1 [(0, .ref h0)] := hl
  refine lv_aload_n hx hb dX7_checkpoint_0 rfl (lv_at hl 0 rfl) ?_
  refine va_get (D := D) (ci := 6) (v := .int 0) (C := RX7) (T := TX7) (N := 9) hx hb hts inX7_checkpoint_X7 hown hK hP 0 rfl rfl 8 (by decide) (hts _ wdX7_checkpoint_0) (fun _ h9 => h9) rfl dX7_checkpoint_1 ?_
  refine lv_if_eq (tgt := 10) hx hb dX7_checkpoint_4 (by decide) (fun c => ?_) (fun c => absurd (by decide) c)
  refine lv_aload_n hx hb dX7_checkpoint_10 rfl (lv_at hl 0 rfl) ?_
  refine va_get (D := D) (ci := 6) (v := .ref h2) (C := RX7) (T := TX7) (N := 9) hx hb hts inX7_checkpoint_X7 hown hK hP 0 rfl rfl 2 (by decide) (hts _ wdX7_checkpoint_1) (fun _ h9 => h9) rfl dX7_checkpoint_11 ?_
  refine lv_aload_n hx hb dX7_checkpoint_14 rfl (lv_at hl 0 rfl) ?_
  refine va_get (D := D) (ci := 6) (v := .ref h1) (C := RX7) (T := TX7) (N := 9) hx hb hts inX7_checkpoint_X7 hown hK hP 0 rfl rfl 0 (by decide) (hts _ wdX7_checkpoint_2) (fun _ h9 => h9) rfl dX7_checkpoint_15 ?_
  refine kc_i (wr := [(h0, .inr (6, [.ref h1, g0, .ref h2, g1, .ref h3, g2, g3, g4, .int 0])), (h1, .inr (1, [.ref h4, .ref h5, .int 0, .int 0, g5])), (h3, .inr (5, [.ref h1, .ref h2, .ref h7, .ref h8, .int 0, .int 0])), (h4, .inl (cB, 65536, .inl zf)), (h5, .inl (cI, 1024, .inl zf)), (h6, .inl (cI, 64, .inl zf)), (h7, .inr (2, [.ref h9, g13, .int 0])), (h8, .inl (cB, 1600, .inl zf)), (h9, .inl (cI, 300, .inl zf))]) (va_runV (As := [.ref h1]) (rest := []) ⟨hx, hb, hml, hown, hts⟩ (K114_X3_writeFresh l D cB cI cZ _ h2 h1 (g6) (g7) ((.ref h6)) (g8) (g9) (g10) (g11) (g12) ((.int 0)) ((.int 0)) ((.int 0)) ((.int 1)) ((.int 0))) (cwV 1 hts gX7_checkpoint_X3_writeFresh rfl rfl rfl (by decide +kernel) ⟨Nat.le_of_ble_eq_true rfl, Nat.le_of_ble_eq_true rfl⟩) (pre_V (q := (RX3, TX3, 14)) (ci := 3) (q0 := 0) (hP.sub [2] rfl) hK hN (hD.sub [2] (by decide) rfl) rfl rfl) rfl rfl hl.1 rfl (lv_room (Nat.le_of_ble_eq_true rfl)) dX7_checkpoint_18 ⟨Nat.le_of_ble_eq_true rfl, Nat.le_of_ble_eq_true rfl⟩) hP hD hS hA [2] [0, 1, 3, 4, 5, 6, 7, 8, 9] rfl rfl (by decide) (by decide) (fun r_1 u H locs hw hP hD hS => ?_)
  have k_2 := hw
  obtain rfl : r_1 = 0 := k_2
  have hP : va_P D vwCl [(h0, .inr (6, [.ref h1, g0, .ref h2, g1, .ref h3, g2, g3, g4, .int 0])), (h1, .inr (1, [.ref h4, .ref h5, .int 0, .int 0, g5])), (h3, .inr (5, [.ref h1, .ref h2, .ref h7, .ref h8, .int 0, .int 0])), (h4, .inl (cB, 65536, .inl zf)), (h5, .inl (cI, 1024, .inl zf)), (h6, .inl (cI, 64, .inl zf)), (h7, .inr (2, [.ref h9, g13, .int 0])), (h8, .inl (cB, 1600, .inl zf)), (h9, .inl (cI, 300, .inl zf)), (h2, .inr (3, [g6, g7, .ref h6, g8, g9, g10, g11, g12, .int 0, .int 0, .int 0, .int 0, .int 1, .int 0]))] H := hP
  have hD : va_D A [(h0, .inr (6, [.ref h1, g0, .ref h2, g1, .ref h3, g2, g3, g4, .int 0])), (h1, .inr (1, [.ref h4, .ref h5, .int 0, .int 0, g5])), (h3, .inr (5, [.ref h1, .ref h2, .ref h7, .ref h8, .int 0, .int 0])), (h4, .inl (cB, 65536, .inl zf)), (h5, .inl (cI, 1024, .inl zf)), (h6, .inl (cI, 64, .inl zf)), (h7, .inr (2, [.ref h9, g13, .int 0])), (h8, .inl (cB, 1600, .inl zf)), (h9, .inl (cI, 300, .inl zf)), (h2, .inr (3, [g6, g7, .ref h6, g8, g9, g10, g11, g12, .int 0, .int 0, .int 0, .int 0, .int 1, .int 0]))] := hD
  refine lv_bipush (v := (-5)) hx hb dX7_checkpoint_21 (by decide) ?_
  refine lv_icmp_eq (tgt := 36) hx hb dX7_checkpoint_23 (by decide) (fun c => absurd c (by decide)) (fun c => ?_)
  refine lv_aload_n hx hb dX7_checkpoint_26 rfl (lv_at hl 0 rfl) ?_
  refine va_get (D := D) (ci := 6) (v := .ref h3) (C := RX7) (T := TX7) (N := 9) hx hb hts inX7_checkpoint_X7 hown hK hP 0 rfl rfl 4 (by decide) (hts _ wdX7_checkpoint_3) (fun _ h9 => h9) rfl dX7_checkpoint_27 ?_
  refine kc_i (wr := [(h0, .inr (6, [.ref h1, g0, .ref h2, g1, .ref h3, g2, g3, g4, .int 0]))]) (va_runV (As := []) (rest := []) ⟨hx, hb, hml, hown, hts⟩ (K118_X6_write l D cB cI cZ _ h3 h1 h2 h7 h8 h4 h5 h6 h9 (g5) (g6) (g7) (g8) (g9) (g10) (g11) (g12) ((.int 0)) (g13)) (cwV 0 hts gX7_checkpoint_X6_write rfl rfl rfl (by decide +kernel) ⟨Nat.le_of_ble_eq_true rfl, Nat.le_of_ble_eq_true rfl⟩) (pre_V (q := (RX6, TX6, 6)) (ci := 5) (q0 := 0) (hP.sub [2, 1, 9, 6, 7, 3, 4, 5, 8] rfl) hK hN (hD.sub [2, 1, 9, 6, 7, 3, 4, 5, 8] (by decide) rfl) rfl rfl) rfl rfl hl.1 rfl (lv_room (Nat.le_of_ble_eq_true rfl)) dX7_checkpoint_30 ⟨Nat.le_of_ble_eq_true rfl, Nat.le_of_ble_eq_true rfl⟩) hP hD hS hA [2, 1, 9, 6, 7, 3, 4, 5, 8] [0] rfl rfl (by decide) (by decide) (fun r_3 u H locs hw hP hD hS => ?_)
  obtain ⟨x_4, f_5, f_6⟩ := u
  obtain ⟨k_7, bf_5, bf_6⟩ := hw
  obtain rfl : r_3 = 1 := k_7
  have bf_5 : FB f_5 := bf_5
  have bf_6 : FB f_6 := bf_6
  have hP : va_P D vwCl [(h0, .inr (6, [.ref h1, g0, .ref h2, g1, .ref h3, g2, g3, g4, .int 0])), (h3, .inr (5, [.ref h1, .ref h2, .ref h7, .ref h8, .int 1, .int 1])), (h2, .inr (3, [g6, g7, .ref h6, g8, g9, g10, g11, g12, .int 0, .int 0, .int 0, .int 0, .int 1, .int 0])), (h7, .inr (2, [.ref h9, g13, .int 0])), (h6, .inl (cI, 64, .inl zf)), (h9, .inl (cI, 300, .inl zf)), (h1, .inr (1, [.ref h4, .ref h5, .int x_4, .int 0, g5])), (h5, .inl (cI, 1024, .inl zf)), (h8, .inl (cB, 1600, .inl f_5)), (h4, .inl (cB, 65536, .inl f_6))] H := hP
  have hD : va_D A [(h0, .inr (6, [.ref h1, g0, .ref h2, g1, .ref h3, g2, g3, g4, .int 0])), (h3, .inr (5, [.ref h1, .ref h2, .ref h7, .ref h8, .int 1, .int 1])), (h2, .inr (3, [g6, g7, .ref h6, g8, g9, g10, g11, g12, .int 0, .int 0, .int 0, .int 0, .int 1, .int 0])), (h7, .inr (2, [.ref h9, g13, .int 0])), (h6, .inl (cI, 64, .inl zf)), (h9, .inl (cI, 300, .inl zf)), (h1, .inr (1, [.ref h4, .ref h5, .int x_4, .int 0, g5])), (h5, .inl (cI, 1024, .inl zf)), (h8, .inl (cB, 1600, .inl f_5)), (h4, .inl (cB, 65536, .inl f_6))] := hD
  refine lv_if_ne (tgt := 44) hx hb dX7_checkpoint_33 (by decide) (fun c => ?_) (fun c => absurd c (by decide))
  refine lv_aload_n hx hb dX7_checkpoint_44 rfl (lv_at hl 0 rfl) ?_
  refine va_get (D := D) (ci := 6) (v := .ref h2) (C := RX7) (T := TX7) (N := 9) hx hb hts inX7_checkpoint_X7 hown hK hP 0 rfl rfl 2 (by decide) (hts _ wdX7_checkpoint_1) (fun _ h9 => h9) rfl dX7_checkpoint_45 ?_
  refine kc_v (wr := [(h0, .inr (6, [.ref h1, g0, .ref h2, g1, .ref h3, g2, g3, g4, .int 0])), (h3, .inr (5, [.ref h1, .ref h2, .ref h7, .ref h8, .int 1, .int 1])), (h7, .inr (2, [.ref h9, g13, .int 0])), (h9, .inl (cI, 300, .inl zf)), (h1, .inr (1, [.ref h4, .ref h5, .int x_4, .int 0, g5])), (h5, .inl (cI, 1024, .inl zf)), (h8, .inl (cB, 1600, .inl f_5)), (h4, .inl (cB, 65536, .inl f_6))]) (va_runV (As := []) (rest := []) ⟨hx, hb, hml, hown, hts⟩ (K142_X3_freeSpent l D cB cI cZ _ h2 h6 (g6) (g7) (g8) (g9) (g10) (g11) (g12) ((.int 0)) ((.int 0)) ((.int 0)) ((.int 0)) ((.int 1)) ((.int 0))) (cwV 0 hts gX7_checkpoint_X3_freeSpent rfl rfl rfl (by decide +kernel) ⟨Nat.le_of_ble_eq_true rfl, Nat.le_of_ble_eq_true rfl⟩) (pre_V (q := (RX3, TX3, 14)) (ci := 3) (q0 := 0) (hP.sub [2, 4] rfl) hK hN (hD.sub [2, 4] (by decide) rfl) rfl rfl) rfl rfl hl.1 rfl (lv_room (Nat.le_of_ble_eq_true rfl)) dX7_checkpoint_48 ⟨Nat.le_of_ble_eq_true rfl, Nat.le_of_ble_eq_true rfl⟩) hP hD hS hA [2, 4] [0, 1, 3, 5, 6, 7, 8, 9] rfl rfl (by decide) (by decide) (fun  u H locs hw hP hD hS => ?_)
  have hP : va_P D vwCl [(h0, .inr (6, [.ref h1, g0, .ref h2, g1, .ref h3, g2, g3, g4, .int 0])), (h3, .inr (5, [.ref h1, .ref h2, .ref h7, .ref h8, .int 1, .int 1])), (h7, .inr (2, [.ref h9, g13, .int 0])), (h9, .inl (cI, 300, .inl zf)), (h1, .inr (1, [.ref h4, .ref h5, .int x_4, .int 0, g5])), (h5, .inl (cI, 1024, .inl zf)), (h8, .inl (cB, 1600, .inl f_5)), (h4, .inl (cB, 65536, .inl f_6)), (h2, .inr (3, [g6, g7, .ref h6, g8, g9, g10, g11, g12, .int 0, .int 0, .int 0, .int 0, .int 1, .int 0])), (h6, .inl (cI, 64, .inl zf))] H := hP
  have hD : va_D A [(h0, .inr (6, [.ref h1, g0, .ref h2, g1, .ref h3, g2, g3, g4, .int 0])), (h3, .inr (5, [.ref h1, .ref h2, .ref h7, .ref h8, .int 1, .int 1])), (h7, .inr (2, [.ref h9, g13, .int 0])), (h9, .inl (cI, 300, .inl zf)), (h1, .inr (1, [.ref h4, .ref h5, .int x_4, .int 0, g5])), (h5, .inl (cI, 1024, .inl zf)), (h8, .inl (cB, 1600, .inl f_5)), (h4, .inl (cB, 65536, .inl f_6)), (h2, .inr (3, [g6, g7, .ref h6, g8, g9, g10, g11, g12, .int 0, .int 0, .int 0, .int 0, .int 1, .int 0])), (h6, .inl (cI, 64, .inl zf))] := hD
  refine lv_aload_n hx hb dX7_checkpoint_51 rfl (lv_at hl 0 rfl) ?_
  refine va_get (D := D) (ci := 6) (v := .ref h3) (C := RX7) (T := TX7) (N := 9) hx hb hts inX7_checkpoint_X7 hown hK hP 0 rfl rfl 4 (by decide) (hts _ wdX7_checkpoint_3) (fun _ h9 => h9) rfl dX7_checkpoint_52 ?_
  refine va_getN (D := D) (ci := 5) (v := .int 1) (C := RX6) (T := TX6) (N := 6) hx hb hts inX7_checkpoint_X6 hown hK hP 1 rfl rfl 4 (by decide) (hN.f (a := "AgedLog") (i := 115) (b := "AgedLog$Regions") (n := "number") (d := "I") (by decide +kernel)) (fun _ h9 => h9) rfl dX7_checkpoint_55 ?_
  exact kr_i () hx hb hr hlocks (hP.sub [] rfl) (hD.sub [] (by decide) rfl) hS rfl dX7_checkpoint_58
set_option maxHeartbeats 4000000 in
set_option maxRecDepth 100000 in
theorem K144_X8_keys (l : Launch) (D : va_G) (cB cI cZ : ClassId) (sz : Nat) (h0 : Nat) (h1 : Nat)  (g0 : Value) (g1 : Value) (g2 : Value) (g3 : Value) (g4 : Value) (g5 : Value) (g6 : Value) (g7 : Value) (g8 : Value) (g9 : Value) (g10 : Value) (g11 : Value) (g12 : Value) (g13 : Value) (g14 : Value) (g15 : Value) (g16 : Value) (g17 : Value) (g18 : Value) (g19 : Value) (g20 : Value) (g21 : Value) (g22 : Value) (g23 : Value) (g24 : Value) (g25 : Value) (g26 : Value) (g27 : Value) (g28 : Value)  :
    CtI l D cB cI cZ yX8_keys wsX8_keys { frames := 0, cells := 0, slots := 0, locals := 0 } [.ref h0] [(h0, .inr (7, [g0, g1, g2, g3, g4, g5, g6, g7, g8, g9, g10, g11, g12, g13, g14, g15, .ref h1, g16, g17, g18, g19, g20, g21, g22, g23, g24, g25, g26, g27, g28])), (h1, .inl (cI, 300, .inl zf))] sz 0 0
      (fun (r : Int32) (u : Unit) => r = 0)
      (fun u => [(h0, .inr (7, [g0, g1, g2, g3, g4, g5, g6, g7, g8, g9, g10, g11, g12, g13, g14, g15, .ref h1, g16, g17, g18, g19, g20, g21, g22, g23, g24, g25, g26, g27, g28])), (h1, .inl (cI, 300, .inl zf))]) := by
  refine mk_metI (cc := cX8_keys) (maxL := 3) (ret := (some .int)) (by decide) rfl (Nat.le_of_ble_eq_true rfl) ?_
  intro p e s m below meth c A hx hb hr hml hts hown hlocks hin hP hK hN hD hA hS ls hl
  have hown : s.vm.findClass RX8 = some m.cls := hown
  have hl : lv_has ls 3 [(0, .ref h0)] := hl
  refine lv_iconst (v := 0) hx hb dX8_keys_0 (by decide) ?_
  refine lv_istore_n (lv' := [(1, .int 0), (0, .ref h0)]) hx hb dX8_keys_1 rfl hl (by decide) rfl (fun ls hl => ?_)
  refine lv_iconst (v := 0) hx hb dX8_keys_2 (by decide) ?_
  refine lv_istore_n (lv' := [(2, .int 0), (1, .int 0), (0, .ref h0)]) hx hb dX8_keys_3 rfl hl (by decide) rfl (fun ls hl => ?_)
  refine kl (α := Int32) (fun n a H locs ls => (0 ≤ Int32.toInt a) ∧ (Int32.toInt a ≤ 300) ∧ (300 - Int32.toInt a < ((n : Nat) : Int)) ∧ va_P D vwCl [(h0, .inr (7, [g0, g1, g2, g3, g4, g5, g6, g7, g8, g9, g10, g11, g12, g13, g14, g15, .ref h1, g16, g17, g18, g19, g20, g21, g22, g23, g24, g25, g26, g27, g28])), (h1, .inl (cI, 300, .inl zf))] H ∧ va_D A [(h0, .inr (7, [g0, g1, g2, g3, g4, g5, g6, g7, g8, g9, g10, g11, g12, g13, g14, g15, .ref h1, g16, g17, g18, g19, g20, g21, g22, g23, g24, g25, g26, g27, g28])), (h1, .inl (cI, 300, .inl zf))] ∧ va_S A s.heap H locs ∧ lv_has ls 3 [(2, .int a), (1, .int 0), (0, .ref h0)]) 301 0 ⟨(by show 0 ≤ Int32.toInt 0; decide), (by show Int32.toInt 0 ≤ 300; decide), (by show 300 - Int32.toInt 0 < ((301 : Nat) : Int); have := (by decide : Int32.toInt 0 = 0); omega), hP, hD, hS, hl⟩ (fun a H locs ls h => ?_) (fun n_2 ih_3 a H locs ls h => ?_)
  · obtain ⟨j_4, j_5, j_6, _⟩ := h
    omega
  obtain ⟨v_1, rfl⟩ : ∃ z, z = a := ⟨_, rfl⟩
  obtain ⟨j_4, j_5, j_6, hP, hD, hS, hl⟩ := h
  have j_4 : 0 ≤ Int32.toInt v_1 := j_4
  have j_5 : Int32.toInt v_1 ≤ 300 := j_5
  have j_6 : 300 - Int32.toInt v_1 < ((n_2 + 1 : Nat) : Int) := j_6
  have hP : va_P D vwCl [(h0, .inr (7, [g0, g1, g2, g3, g4, g5, g6, g7, g8, g9, g10, g11, g12, g13, g14, g15, .ref h1, g16, g17, g18, g19, g20, g21, g22, g23, g24, g25, g26, g27, g28])), (h1, .inl (cI, 300, .inl zf))] H := hP
  have hD : va_D A [(h0, .inr (7, [g0, g1, g2, g3, g4, g5, g6, g7, g8, g9, g10, g11, g12, g13, g14, g15, .ref h1, g16, g17, g18, g19, g20, g21, g22, g23, g24, g25, g26, g27, g28])), (h1, .inl (cI, 300, .inl zf))] := hD
  have hl : lv_has ls 3 [(2, .int v_1), (1, .int 0), (0, .ref h0)] := hl
  refine lv_iload_n hx hb dX8_keys_4 rfl (lv_at hl 0 rfl) ?_
  refine lv_sipush (v := 300) hx hb dX8_keys_5 (by decide) ?_
  refine lv_icmp_ge (tgt := 34) hx hb dX8_keys_8 (by decide) (fun c => ?_) (fun c => ?_)
  · skip
    have k_7 := (ti_le (x := 300) (y := v_1) (a := 300) (b := v_1.toInt) (by decide) rfl).mp c
    obtain rfl : v_1 = 300 := ti_inj (a := 300) (by decide) (by omega)
    refine lv_iload_n hx hb dX8_keys_34 rfl (lv_at hl 1 rfl) ?_
    exact kr_i () hx hb hr hlocks hP hD hS rfl dX8_keys_35
  · skip
    have k_8 := mt (ti_le (x := 300) (y := v_1) (a := 300) (b := v_1.toInt) (by decide) rfl).mpr c
    refine lv_iload_n hx hb dX8_keys_11 rfl (lv_at hl 1 rfl) ?_
    refine lv_aload_n hx hb dX8_keys_12 rfl (lv_at hl 2 rfl) ?_
    refine va_get (D := D) (ci := 7) (v := .ref h1) (C := RX8) (T := TX8) (N := 30) hx hb hts inX8_keys_X8 hown hK hP 0 rfl rfl 16 (by decide) (hts _ wdX8_keys_0) (fun _ h9 => h9) rfl dX8_keys_13 ?_
    refine lv_iload_n hx hb dX8_keys_16 rfl (lv_at hl 0 rfl) ?_
    refine va_iald hx hb hK hP 1 1 rfl rfl (ti_in (a := v_1.toInt) rfl (by omega) (by omega)) dX8_keys_17 ?_
    refine lv_topi (fun z_9 ez_9 => ?_)
    obtain rfl : z_9 = 0 := ez_9
    refine lv_if_le (tgt := 25) hx hb dX8_keys_18 (by decide) (fun c => ?_) (fun c => absurd (by decide) c)
    refine lv_iconst (v := 0) hx hb dX8_keys_25 (by decide) ?_
    refine lv_iadd hx hb dX8_keys_26 ?_
    refine lv_topi (fun z_10 ez_10 => ?_)
    obtain rfl : z_10 = 0 := ez_10.trans (by decide)
    refine lv_istore_n (lv' := [(1, .int 0), (2, .int v_1), (0, .ref h0)]) hx hb dX8_keys_27 rfl hl (by decide) rfl (fun ls hl => ?_)
    obtain ⟨x_11, ex_11⟩ : ∃ y : Int32, y = v_1 + 1 := ⟨_, rfl⟩
    have tx_11 : x_11.toInt = v_1.toInt + 1 := by rw [ex_11]; exact ti_add rfl (by decide) (by omega) (by omega)
    refine lv_iinc (v := x_11) (lv' := [(2, .int x_11), (1, .int 0), (0, .ref h0)]) hx hb dX8_keys_28 hl (k := 1) rfl (by rw [ex_11]; rfl) (by decide) rfl (fun ls hl => ?_)
    refine lv_goto (tgt := 4) hx hb dX8_keys_31 (by decide) ?_
    exact ih_3 x_11 _ _ _ ⟨(by show 0 ≤ Int32.toInt x_11; omega), (by show Int32.toInt x_11 ≤ 300; omega), (by show 300 - Int32.toInt x_11 < ((n_2 : Nat) : Int); omega), hP, hD, hS, hl⟩
set_option maxHeartbeats 4000000 in
set_option maxRecDepth 100000 in
theorem K145_X8_sum (l : Launch) (D : va_G) (cB cI cZ : ClassId) (sz : Nat) (h0 : Nat)  (f0 : Nat → Int32) (b_f0 : FB f0) :
    CtI l D cB cI cZ yX8_sum wsX8_sum { frames := 0, cells := 0, slots := 0, locals := 0 } [.ref h0, .int 0, .int 79] [(h0, .inl (cB, 4096, .inl f0))] sz 0 0
      (fun (r : Int32) (u : Unit) => True)
      (fun u => [(h0, .inl (cB, 4096, .inl f0))]) := by
  refine mk_metI (cc := cX8_sum) (maxL := 6) (ret := (some .int)) (by decide) rfl (Nat.le_of_ble_eq_true rfl) ?_
  intro p e s m below meth c A hx hb hr hml hts hown hlocks hin hP hK hN hD hA hS ls hl
  have hown : s.vm.findClass RX8 = some m.cls := hown
  have hl : lv_has ls 6 [(0, .ref h0), (1, .int 0), (2, .int 79)] := hl
  refine lv_iconst (v := 0) hx hb dX8_sum_0 (by decide) ?_
  refine lv_istore_n (lv' := [(3, .int 0), (0, .ref h0), (1, .int 0), (2, .int 79)]) hx hb dX8_sum_1 rfl hl (by decide) rfl (fun ls hl => ?_)
  refine lv_iconst (v := 0) hx hb dX8_sum_2 (by decide) ?_
  refine lv_istore (lv' := [(4, .int 0), (3, .int 0), (0, .ref h0), (1, .int 0), (2, .int 79)]) hx hb dX8_sum_3 hl (by decide) rfl (fun ls hl => ?_)
  refine kl (α := Int32 × Int32) (fun n a H locs ls => (0 ≤ Int32.toInt (a.1)) ∧ (Int32.toInt (a.1) ≤ 79) ∧ (79 - Int32.toInt (a.1) < ((n : Nat) : Int)) ∧ va_P D vwCl [(h0, .inl (cB, 4096, .inl f0))] H ∧ va_D A [(h0, .inl (cB, 4096, .inl f0))] ∧ va_S A s.heap H locs ∧ lv_has ls 6 [(4, .int (a.1)), (3, .int (a.2)), (0, .ref h0), (1, .int 0), (2, .int 79)]) 80 (0, 0) ⟨(by show 0 ≤ Int32.toInt 0; decide), (by show Int32.toInt 0 ≤ 79; decide), (by show 79 - Int32.toInt 0 < ((80 : Nat) : Int); have := (by decide : Int32.toInt 0 = 0); omega), hP, hD, hS, hl⟩ (fun a H locs ls h => ?_) (fun n_3 ih_4 a H locs ls h => ?_)
  · obtain ⟨j_5, j_6, j_7, _⟩ := h
    omega
  obtain ⟨v_2, v_1⟩ := a
  obtain ⟨j_5, j_6, j_7, hP, hD, hS, hl⟩ := h
  have j_5 : 0 ≤ Int32.toInt v_2 := j_5
  have j_6 : Int32.toInt v_2 ≤ 79 := j_6
  have j_7 : 79 - Int32.toInt v_2 < ((n_3 + 1 : Nat) : Int) := j_7
  have hP : va_P D vwCl [(h0, .inl (cB, 4096, .inl f0))] H := hP
  have hD : va_D A [(h0, .inl (cB, 4096, .inl f0))] := hD
  have hl : lv_has ls 6 [(4, .int v_2), (3, .int v_1), (0, .ref h0), (1, .int 0), (2, .int 79)] := hl
  refine lv_iload hx hb dX8_sum_5 (lv_at hl 0 rfl) ?_
  refine lv_iload_n hx hb dX8_sum_7 rfl (lv_at hl 4 rfl) ?_
  refine lv_icmp_ge (tgt := 45) hx hb dX8_sum_8 (by decide) (fun c => ?_) (fun c => ?_)
  · skip
    have k_8 := (ti_le (x := 79) (y := v_2) (a := 79) (b := v_2.toInt) (by decide) rfl).mp c
    obtain rfl : v_2 = 79 := ti_inj (a := 79) (by decide) (by omega)
    refine lv_iload_n hx hb dX8_sum_45 rfl (lv_at hl 1 rfl) ?_
    exact kr_i () hx hb hr hlocks hP hD hS trivial dX8_sum_46
  · skip
    have k_9 := mt (ti_le (x := 79) (y := v_2) (a := 79) (b := v_2.toInt) (by decide) rfl).mpr c
    refine lv_iload_n hx hb dX8_sum_11 rfl (lv_at hl 1 rfl) ?_
    refine lv_aload_n hx hb dX8_sum_12 rfl (lv_at hl 2 rfl) ?_
    refine lv_iload_n hx hb dX8_sum_13 rfl (lv_at hl 3 rfl) ?_
    refine lv_iload hx hb dX8_sum_14 (lv_at hl 0 rfl) ?_
    refine lv_iadd hx hb dX8_sum_16 ?_
    refine lv_topi (fun x_10 ex_10 => ?_)
    have tx_10 : x_10.toInt = 0 + v_2.toInt := by rw [ex_10]; exact ti_add (by decide) rfl (by omega) (by omega)
    refine va_bald hx hb hK hP 0 0 rfl rfl (ti_in (a := x_10.toInt) rfl (by omega) (by omega)) dX8_sum_17 ?_
    refine lv_topi (fun x_11 ex_11 => ?_)
    refine lv_sipush (v := 255) hx hb dX8_sum_18 (by decide) ?_
    refine lv_iand hx hb dX8_sum_21 ?_
    refine lv_topi (fun x_12 ex_12 => ?_)
    refine lv_ixor hx hb dX8_sum_22 ?_
    refine lv_topi (fun x_13 ex_13 => ?_)
    refine lv_istore (lv' := [(5, .int x_13), (4, .int v_2), (3, .int v_1), (0, .ref h0), (1, .int 0), (2, .int 79)]) hx hb dX8_sum_23 hl (by decide) rfl (fun ls hl => ?_)
    refine lv_iload hx hb dX8_sum_25 (lv_at hl 0 rfl) ?_
    refine lv_iconst (v := 5) hx hb dX8_sum_27 (by decide) ?_
    refine lv_ishl hx hb dX8_sum_28 ?_
    refine lv_topi (fun x_14 ex_14 => ?_)
    refine lv_iload hx hb dX8_sum_29 (lv_at hl 0 rfl) ?_
    refine lv_bipush (v := 27) hx hb dX8_sum_31 (by decide) ?_
    refine lv_iushr hx hb dX8_sum_33 rfl ?_
    refine lv_topi (fun x_15 ex_15 => ?_)
    refine lv_ior hx hb dX8_sum_34 ?_
    refine lv_topi (fun x_16 ex_16 => ?_)
    refine lv_ldc (v := (-1640531535)) hx hb hown (hts _ wdX8_sum_0) dX8_sum_35 ?_
    refine lv_imul hx hb dX8_sum_37 ?_
    refine lv_topi (fun x_17 ex_17 => ?_)
    refine lv_istore_n (lv' := [(3, .int x_17), (5, .int x_13), (4, .int v_2), (0, .ref h0), (1, .int 0), (2, .int 79)]) hx hb dX8_sum_38 rfl hl (by decide) rfl (fun ls hl => ?_)
    obtain ⟨x_18, ex_18⟩ : ∃ y : Int32, y = v_2 + 1 := ⟨_, rfl⟩
    have tx_18 : x_18.toInt = v_2.toInt + 1 := by rw [ex_18]; exact ti_add rfl (by decide) (by omega) (by omega)
    refine lv_iinc (v := x_18) (lv' := [(4, .int x_18), (3, .int x_17), (5, .int x_13), (0, .ref h0), (1, .int 0), (2, .int 79)]) hx hb dX8_sum_39 hl (k := 2) rfl (by rw [ex_18]; rfl) (by decide) rfl (fun ls hl => ?_)
    refine lv_goto (tgt := 5) hx hb dX8_sum_42 (by decide) ?_
    exact ih_4 (x_18, x_17) _ _ _ ⟨(by show 0 ≤ Int32.toInt x_18; omega), (by show Int32.toInt x_18 ≤ 79; omega), (by show 79 - Int32.toInt x_18 < ((n_3 : Nat) : Int); omega), hP, hD, hS, (lv_sub hl [0, 1, 3, 4, 5] rfl)⟩
set_option maxHeartbeats 4000000 in
set_option maxRecDepth 100000 in
theorem K146_X8_write (l : Launch) (D : va_G) (cB cI cZ : ClassId) (sz : Nat) (h0 : Nat) (h1 : Nat) (h2 : Nat) (h3 : Nat)  (p0 : Int32) (p1 : Int32) (g0 : Value) (g1 : Value) (g2 : Value) (g3 : Value) (g4 : Value) (g5 : Value) (g6 : Value) (g7 : Value) (g8 : Value) (g9 : Value) (p2 : Int32) (g10 : Value) (g11 : Value) (g12 : Value) (g13 : Value) (g14 : Value) (g15 : Value) (g16 : Value) (g17 : Value) (g18 : Value) (g19 : Value) (g20 : Value) (g21 : Value) (g22 : Value) (g23 : Value) (g24 : Value) (f0 : Nat → Int32) (i_p0 : 0 ≤ p0.toInt ∧ p0.toInt ≤ 4032) (i_p1 : 0 ≤ p1.toInt ∧ p1.toInt ≤ 65472) (b_f0 : FB f0) :
    CtI l D cB cI cZ yX8_write wsX8_write { frames := 0, cells := 0, slots := 0, locals := 0 } [.ref h0, .ref h1, .int p0, .int p1, .int 0] [(h0, .inr (7, [g0, .int 0, .ref h2, g1, .ref h3, g2, g3, g4, g5, g6, g7, g8, g9, .int p2, .int 0, g10, g11, g12, g13, g14, g15, g16, g17, g18, g19, g20, g21, g22, g23, g24])), (h1, .inl (cB, 4096, .inl f0)), (h2, .inl (cB, 65536, .inl zf)), (h3, .inl (cZ, 65536, .inl zf))] sz 0 0
      (fun (r : Int32) (u : Int32 × (Nat → Int32)) => r = 0 ∧ FB u.2)
      (fun u => [(h0, .inr (7, [g0, .int 0, .ref h2, g1, .ref h3, g2, g3, g4, g5, g6, g7, g8, g9, .int u.1, .int 0, g10, g11, g12, g13, g14, g15, g16, g17, g18, g19, g20, g21, g22, g23, g24])), (h1, .inl (cB, 4096, .inl f0)), (h2, .inl (cB, 65536, .inl u.2)), (h3, .inl (cZ, 65536, .inl zf))]) := by
  refine mk_metI (cc := cX8_write) (maxL := 7) (ret := (some .boolean)) (by decide) rfl (Nat.le_of_ble_eq_true rfl) ?_
  intro p e s m below meth c A hx hb hr hml hts hown hlocks hin hP hK hN hD hA hS ls hl
  have hown : s.vm.findClass RX8 = some m.cls := hown
  have hl : lv_has ls 7 [(0, .ref h0), (1, .ref h1), (2, .int p0), (3, .int p1), (4, .int 0)] := hl
  refine lv_aload_n hx hb dX8_write_0 rfl (lv_at hl 0 rfl) ?_
  refine va_get (D := D) (ci := 7) (v := .int 0) (C := RX8) (T := TX8) (N := 30) hx hb hts inX8_write_X8 hown hK hP 0 rfl rfl 14 (by decide) (hts _ wdX8_write_0) (fun _ h9 => h9) rfl dX8_write_1 ?_
  refine lv_iconst (v := 1) hx hb dX8_write_4 (by decide) ?_
  refine lv_icmp_ne (tgt := 12) hx hb dX8_write_5 (by decide) (fun c => ?_) (fun c => absurd c (by decide))
  refine lv_iconst (v := 0) hx hb dX8_write_12 (by decide) ?_
  refine lv_istore (lv' := [(5, .int 0), (0, .ref h0), (1, .ref h1), (2, .int p0), (3, .int p1), (4, .int 0)]) hx hb dX8_write_13 hl (by decide) rfl (fun ls hl => ?_)
  refine lv_aload_n hx hb dX8_write_15 rfl (lv_at hl 1 rfl) ?_
  refine lv_dup hx hb dX8_write_16 rfl ?_
  refine va_get (D := D) (ci := 7) (v := .int p2) (C := RX8) (T := TX8) (N := 30) hx hb hts inX8_write_X8 hown hK hP 0 rfl rfl 13 (by decide) (hts _ wdX8_write_1) (fun _ h9 => h9) rfl dX8_write_17 ?_
  refine lv_iload hx hb dX8_write_20 (lv_at hl 0 rfl) ?_
  refine lv_if_eq (tgt := 29) hx hb dX8_write_22 (by decide) (fun c => ?_) (fun c => absurd (by decide) c)
  refine lv_iconst (v := 1) hx hb dX8_write_29 (by decide) ?_
  refine lv_iadd hx hb dX8_write_30 ?_
  refine lv_topi (fun x_1 ex_1 => ?_)
  refine va_put (D := D) (ci := 7) (v := .int x_1) (ty := .int) (C := RX8) (T := TX8) (N := 30) hx hb hts inX8_write_X8 tyX8 tyX8_ok nmX8 hown hK hP hD hS 0 rfl rfl 13 (by decide) (hts _ wdX8_write_1) (fun _ h9 => h9) rfl (by decide +kernel) rfl rfl (Nat.le_of_ble_eq_true rfl) dX8_write_31 (fun H locs hP hD hS => ?_)
  have hP : va_P D vwCl [(h0, .inr (7, [g0, .int 0, .ref h2, g1, .ref h3, g2, g3, g4, g5, g6, g7, g8, g9, .int x_1, .int 0, g10, g11, g12, g13, g14, g15, g16, g17, g18, g19, g20, g21, g22, g23, g24])), (h1, .inl (cB, 4096, .inl f0)), (h2, .inl (cB, 65536, .inl zf)), (h3, .inl (cZ, 65536, .inl zf))] H := hP
  have hD : va_D A [(h0, .inr (7, [g0, .int 0, .ref h2, g1, .ref h3, g2, g3, g4, g5, g6, g7, g8, g9, .int x_1, .int 0, g10, g11, g12, g13, g14, g15, g16, g17, g18, g19, g20, g21, g22, g23, g24])), (h1, .inl (cB, 4096, .inl f0)), (h2, .inl (cB, 65536, .inl zf)), (h3, .inl (cZ, 65536, .inl zf))] := hD
  refine lv_iconst (v := 0) hx hb dX8_write_34 (by decide) ?_
  refine lv_istore (lv' := [(6, .int 0), (5, .int 0), (0, .ref h0), (1, .ref h1), (2, .int p0), (3, .int p1), (4, .int 0)]) hx hb dX8_write_35 hl (by decide) rfl (fun ls hl => ?_)
  refine kl (α := Int32 × (Nat → Int32)) (fun n a H locs ls => (0 ≤ Int32.toInt (a.1)) ∧ (Int32.toInt (a.1) ≤ 64) ∧ (FB (a.2)) ∧ (64 - Int32.toInt (a.1) < ((n : Nat) : Int)) ∧ va_P D vwCl [(h0, .inr (7, [g0, .int 0, .ref h2, g1, .ref h3, g2, g3, g4, g5, g6, g7, g8, g9, .int x_1, .int 0, g10, g11, g12, g13, g14, g15, g16, g17, g18, g19, g20, g21, g22, g23, g24])), (h1, .inl (cB, 4096, .inl f0)), (h2, .inl (cB, 65536, .inl (a.2))), (h3, .inl (cZ, 65536, .inl zf))] H ∧ va_D A [(h0, .inr (7, [g0, .int 0, .ref h2, g1, .ref h3, g2, g3, g4, g5, g6, g7, g8, g9, .int x_1, .int 0, g10, g11, g12, g13, g14, g15, g16, g17, g18, g19, g20, g21, g22, g23, g24])), (h1, .inl (cB, 4096, .inl f0)), (h2, .inl (cB, 65536, .inl (a.2))), (h3, .inl (cZ, 65536, .inl zf))] ∧ va_S A s.heap H locs ∧ lv_has ls 7 [(6, .int (a.1)), (5, .int 0), (0, .ref h0), (1, .ref h1), (2, .int p0), (3, .int p1), (4, .int 0)]) 65 (0, zf) ⟨(by show 0 ≤ Int32.toInt 0; decide), (by show Int32.toInt 0 ≤ 64; decide), FB_zf, (by show 64 - Int32.toInt 0 < ((65 : Nat) : Int); have := (by decide : Int32.toInt 0 = 0); omega), hP, hD, hS, hl⟩ (fun a H locs ls h => ?_) (fun n_4 ih_5 a H locs ls h => ?_)
  · obtain ⟨j_6, j_7, j_8, j_9, _⟩ := h
    omega
  obtain ⟨v_3, f_2⟩ := a
  obtain ⟨j_6, j_7, j_8, j_9, hP, hD, hS, hl⟩ := h
  have j_6 : 0 ≤ Int32.toInt v_3 := j_6
  have j_7 : Int32.toInt v_3 ≤ 64 := j_7
  have bf_2 : FB f_2 := j_8
  have j_9 : 64 - Int32.toInt v_3 < ((n_4 + 1 : Nat) : Int) := j_9
  have hP : va_P D vwCl [(h0, .inr (7, [g0, .int 0, .ref h2, g1, .ref h3, g2, g3, g4, g5, g6, g7, g8, g9, .int x_1, .int 0, g10, g11, g12, g13, g14, g15, g16, g17, g18, g19, g20, g21, g22, g23, g24])), (h1, .inl (cB, 4096, .inl f0)), (h2, .inl (cB, 65536, .inl f_2)), (h3, .inl (cZ, 65536, .inl zf))] H := hP
  have hD : va_D A [(h0, .inr (7, [g0, .int 0, .ref h2, g1, .ref h3, g2, g3, g4, g5, g6, g7, g8, g9, .int x_1, .int 0, g10, g11, g12, g13, g14, g15, g16, g17, g18, g19, g20, g21, g22, g23, g24])), (h1, .inl (cB, 4096, .inl f0)), (h2, .inl (cB, 65536, .inl f_2)), (h3, .inl (cZ, 65536, .inl zf))] := hD
  have hl : lv_has ls 7 [(6, .int v_3), (5, .int 0), (0, .ref h0), (1, .ref h1), (2, .int p0), (3, .int p1), (4, .int 0)] := hl
  refine lv_iload hx hb dX8_write_37 (lv_at hl 0 rfl) ?_
  refine lv_bipush (v := 64) hx hb dX8_write_39 (by decide) ?_
  refine lv_icmp_ge (tgt := 79) hx hb dX8_write_41 (by decide) (fun c => ?_) (fun c => ?_)
  · skip
    have k_10 := (ti_le (x := 64) (y := v_3) (a := 64) (b := v_3.toInt) (by decide) rfl).mp c
    obtain rfl : v_3 = 64 := ti_inj (a := 64) (by decide) (by omega)
    refine lv_iconst (v := 0) hx hb dX8_write_79 (by decide) ?_
    refine lv_istore (lv' := [(6, .int 0), (5, .int 0), (0, .ref h0), (1, .ref h1), (2, .int p0), (3, .int p1), (4, .int 0)]) hx hb dX8_write_80 hl (by decide) rfl (fun ls hl => ?_)
    refine kl (α := Int32) (fun n a H locs ls => (0 ≤ Int32.toInt a) ∧ (Int32.toInt a ≤ 64) ∧ (64 - Int32.toInt a < ((n : Nat) : Int)) ∧ va_P D vwCl [(h0, .inr (7, [g0, .int 0, .ref h2, g1, .ref h3, g2, g3, g4, g5, g6, g7, g8, g9, .int x_1, .int 0, g10, g11, g12, g13, g14, g15, g16, g17, g18, g19, g20, g21, g22, g23, g24])), (h1, .inl (cB, 4096, .inl f0)), (h2, .inl (cB, 65536, .inl f_2)), (h3, .inl (cZ, 65536, .inl zf))] H ∧ va_D A [(h0, .inr (7, [g0, .int 0, .ref h2, g1, .ref h3, g2, g3, g4, g5, g6, g7, g8, g9, .int x_1, .int 0, g10, g11, g12, g13, g14, g15, g16, g17, g18, g19, g20, g21, g22, g23, g24])), (h1, .inl (cB, 4096, .inl f0)), (h2, .inl (cB, 65536, .inl f_2)), (h3, .inl (cZ, 65536, .inl zf))] ∧ va_S A s.heap H locs ∧ lv_has ls 7 [(6, .int a), (5, .int 0), (0, .ref h0), (1, .ref h1), (2, .int p0), (3, .int p1), (4, .int 0)]) 65 0 ⟨(by show 0 ≤ Int32.toInt 0; decide), (by show Int32.toInt 0 ≤ 64; decide), (by show 64 - Int32.toInt 0 < ((65 : Nat) : Int); have := (by decide : Int32.toInt 0 = 0); omega), hP, hD, hS, hl⟩ (fun a H locs ls h => ?_) (fun n_12 ih_13 a H locs ls h => ?_)
    · obtain ⟨j_14, j_15, j_16, _⟩ := h
      omega
    obtain ⟨v_11, rfl⟩ : ∃ z, z = a := ⟨_, rfl⟩
    obtain ⟨j_14, j_15, j_16, hP, hD, hS, hl⟩ := h
    have j_14 : 0 ≤ Int32.toInt v_11 := j_14
    have j_15 : Int32.toInt v_11 ≤ 64 := j_15
    have j_16 : 64 - Int32.toInt v_11 < ((n_12 + 1 : Nat) : Int) := j_16
    have hP : va_P D vwCl [(h0, .inr (7, [g0, .int 0, .ref h2, g1, .ref h3, g2, g3, g4, g5, g6, g7, g8, g9, .int x_1, .int 0, g10, g11, g12, g13, g14, g15, g16, g17, g18, g19, g20, g21, g22, g23, g24])), (h1, .inl (cB, 4096, .inl f0)), (h2, .inl (cB, 65536, .inl f_2)), (h3, .inl (cZ, 65536, .inl zf))] H := hP
    have hD : va_D A [(h0, .inr (7, [g0, .int 0, .ref h2, g1, .ref h3, g2, g3, g4, g5, g6, g7, g8, g9, .int x_1, .int 0, g10, g11, g12, g13, g14, g15, g16, g17, g18, g19, g20, g21, g22, g23, g24])), (h1, .inl (cB, 4096, .inl f0)), (h2, .inl (cB, 65536, .inl f_2)), (h3, .inl (cZ, 65536, .inl zf))] := hD
    have hl : lv_has ls 7 [(6, .int v_11), (5, .int 0), (0, .ref h0), (1, .ref h1), (2, .int p0), (3, .int p1), (4, .int 0)] := hl
    refine lv_iload hx hb dX8_write_82 (lv_at hl 0 rfl) ?_
    refine lv_bipush (v := 64) hx hb dX8_write_84 (by decide) ?_
    refine lv_icmp_ge (tgt := 142) hx hb dX8_write_86 (by decide) (fun c => ?_) (fun c => ?_)
    · skip
      have k_17 := (ti_le (x := 64) (y := v_11) (a := 64) (b := v_11.toInt) (by decide) rfl).mp c
      obtain rfl : v_11 = 64 := ti_inj (a := 64) (by decide) (by omega)
      refine lv_aload_n hx hb dX8_write_142 rfl (lv_at hl 2 rfl) ?_
      refine lv_dup hx hb dX8_write_143 rfl ?_
      refine va_get (D := D) (ci := 7) (v := .int 0) (C := RX8) (T := TX8) (N := 30) hx hb hts inX8_write_X8 hown hK hP 0 rfl rfl 14 (by decide) (hts _ wdX8_write_0) (fun _ h9 => h9) rfl dX8_write_144 ?_
      refine lv_aload_n hx hb dX8_write_147 rfl (lv_at hl 2 rfl) ?_
      refine va_get (D := D) (ci := 7) (v := .int 0) (C := RX8) (T := TX8) (N := 30) hx hb hts inX8_write_X8 hown hK hP 0 rfl rfl 14 (by decide) (hts _ wdX8_write_0) (fun _ h9 => h9) rfl dX8_write_148 ?_
      refine lv_if_le (tgt := 158) hx hb dX8_write_151 (by decide) (fun c => ?_) (fun c => absurd (by decide) c)
      refine lv_iconst (v := 0) hx hb dX8_write_158 (by decide) ?_
      refine lv_isub hx hb dX8_write_159 ?_
      refine lv_topi (fun z_18 ez_18 => ?_)
      obtain rfl : z_18 = 0 := ez_18.trans (by decide)
      refine va_put (D := D) (ci := 7) (v := .int 0) (ty := .int) (C := RX8) (T := TX8) (N := 30) hx hb hts inX8_write_X8 tyX8 tyX8_ok nmX8 hown hK hP hD hS 0 rfl rfl 14 (by decide) (hts _ wdX8_write_0) (fun _ h9 => h9) rfl (by decide +kernel) rfl rfl (Nat.le_of_ble_eq_true rfl) dX8_write_160 (fun H locs hP hD hS => ?_)
      have hP : va_P D vwCl [(h0, .inr (7, [g0, .int 0, .ref h2, g1, .ref h3, g2, g3, g4, g5, g6, g7, g8, g9, .int x_1, .int 0, g10, g11, g12, g13, g14, g15, g16, g17, g18, g19, g20, g21, g22, g23, g24])), (h1, .inl (cB, 4096, .inl f0)), (h2, .inl (cB, 65536, .inl f_2)), (h3, .inl (cZ, 65536, .inl zf))] H := hP
      have hD : va_D A [(h0, .inr (7, [g0, .int 0, .ref h2, g1, .ref h3, g2, g3, g4, g5, g6, g7, g8, g9, .int x_1, .int 0, g10, g11, g12, g13, g14, g15, g16, g17, g18, g19, g20, g21, g22, g23, g24])), (h1, .inl (cB, 4096, .inl f0)), (h2, .inl (cB, 65536, .inl f_2)), (h3, .inl (cZ, 65536, .inl zf))] := hD
      refine lv_aload_n hx hb dX8_write_163 rfl (lv_at hl 2 rfl) ?_
      refine lv_aload_n hx hb dX8_write_164 rfl (lv_at hl 2 rfl) ?_
      refine va_get (D := D) (ci := 7) (v := .int 0) (C := RX8) (T := TX8) (N := 30) hx hb hts inX8_write_X8 hown hK hP 0 rfl rfl 1 (by decide) (hts _ wdX8_write_2) (fun _ h9 => h9) rfl dX8_write_165 ?_
      refine lv_if_ne (tgt := 176) hx hb dX8_write_168 (by decide) (fun c => absurd (by decide) c) (fun c => ?_)
      refine lv_iload hx hb dX8_write_171 (lv_at hl 1 rfl) ?_
      refine lv_if_eq (tgt := 180) hx hb dX8_write_173 (by decide) (fun c => ?_) (fun c => absurd (by decide) c)
      refine lv_iconst (v := 0) hx hb dX8_write_180 (by decide) ?_
      refine va_put (D := D) (ci := 7) (v := .int 0) (ty := .boolean) (C := RX8) (T := TX8) (N := 30) hx hb hts inX8_write_X8 tyX8 tyX8_ok nmX8 hown hK hP hD hS 0 rfl rfl 1 (by decide) (hts _ wdX8_write_2) (fun _ h9 => h9) rfl (by decide +kernel) rfl rfl (Nat.le_of_ble_eq_true rfl) dX8_write_181 (fun H locs hP hD hS => ?_)
      have hP : va_P D vwCl [(h0, .inr (7, [g0, .int 0, .ref h2, g1, .ref h3, g2, g3, g4, g5, g6, g7, g8, g9, .int x_1, .int 0, g10, g11, g12, g13, g14, g15, g16, g17, g18, g19, g20, g21, g22, g23, g24])), (h1, .inl (cB, 4096, .inl f0)), (h2, .inl (cB, 65536, .inl f_2)), (h3, .inl (cZ, 65536, .inl zf))] H := hP
      have hD : va_D A [(h0, .inr (7, [g0, .int 0, .ref h2, g1, .ref h3, g2, g3, g4, g5, g6, g7, g8, g9, .int x_1, .int 0, g10, g11, g12, g13, g14, g15, g16, g17, g18, g19, g20, g21, g22, g23, g24])), (h1, .inl (cB, 4096, .inl f0)), (h2, .inl (cB, 65536, .inl f_2)), (h3, .inl (cZ, 65536, .inl zf))] := hD
      refine lv_iload hx hb dX8_write_184 (lv_at hl 1 rfl) ?_
      exact kr_z (x_1, f_2) hx hb hr rfl hlocks hP hD hS ⟨rfl, bf_2⟩ dX8_write_186
    · skip
      have k_19 := mt (ti_le (x := 64) (y := v_11) (a := 64) (b := v_11.toInt) (by decide) rfl).mpr c
      refine lv_aload_n hx hb dX8_write_89 rfl (lv_at hl 2 rfl) ?_
      refine va_get (D := D) (ci := 7) (v := .ref h3) (C := RX8) (T := TX8) (N := 30) hx hb hts inX8_write_X8 hown hK hP 0 rfl rfl 4 (by decide) (hts _ wdX8_write_3) (fun _ h9 => h9) rfl dX8_write_90 ?_
      refine lv_iload_n hx hb dX8_write_93 rfl (lv_at hl 5 rfl) ?_
      refine lv_iload hx hb dX8_write_94 (lv_at hl 0 rfl) ?_
      refine lv_iadd hx hb dX8_write_96 ?_
      refine lv_topi (fun x_20 ex_20 => ?_)
      have tx_20 : x_20.toInt = p1.toInt + v_11.toInt := by rw [ex_20]; exact ti_add rfl rfl (by omega) (by omega)
      refine lv_iload hx hb dX8_write_97 (lv_at hl 1 rfl) ?_
      refine lv_if_eq (tgt := 134) hx hb dX8_write_99 (by decide) (fun c => ?_) (fun c => absurd (by decide) c)
      refine lv_iconst (v := 0) hx hb dX8_write_134 (by decide) ?_
      refine va_zast hx hb hK hP hD hS 3 2 rfl rfl (ti_in (a := x_20.toInt) rfl (by omega) (by omega)) dX8_write_135 (fun H locs hP hD hS => ?_)
      rw [zf_updZ] at hP hD
      have hP : va_P D vwCl [(h0, .inr (7, [g0, .int 0, .ref h2, g1, .ref h3, g2, g3, g4, g5, g6, g7, g8, g9, .int x_1, .int 0, g10, g11, g12, g13, g14, g15, g16, g17, g18, g19, g20, g21, g22, g23, g24])), (h1, .inl (cB, 4096, .inl f0)), (h2, .inl (cB, 65536, .inl f_2)), (h3, .inl (cZ, 65536, .inl zf))] H := hP
      have hD : va_D A [(h0, .inr (7, [g0, .int 0, .ref h2, g1, .ref h3, g2, g3, g4, g5, g6, g7, g8, g9, .int x_1, .int 0, g10, g11, g12, g13, g14, g15, g16, g17, g18, g19, g20, g21, g22, g23, g24])), (h1, .inl (cB, 4096, .inl f0)), (h2, .inl (cB, 65536, .inl f_2)), (h3, .inl (cZ, 65536, .inl zf))] := hD
      obtain ⟨x_21, ex_21⟩ : ∃ y : Int32, y = v_11 + 1 := ⟨_, rfl⟩
      have tx_21 : x_21.toInt = v_11.toInt + 1 := by rw [ex_21]; exact ti_add rfl (by decide) (by omega) (by omega)
      refine lv_iinc (v := x_21) (lv' := [(6, .int x_21), (5, .int 0), (0, .ref h0), (1, .ref h1), (2, .int p0), (3, .int p1), (4, .int 0)]) hx hb dX8_write_136 hl (k := 0) rfl (by rw [ex_21]; rfl) (by decide) rfl (fun ls hl => ?_)
      refine lv_goto (tgt := 82) hx hb dX8_write_139 (by decide) ?_
      exact ih_13 x_21 _ _ _ ⟨(by show 0 ≤ Int32.toInt x_21; omega), (by show Int32.toInt x_21 ≤ 64; omega), (by show 64 - Int32.toInt x_21 < ((n_12 : Nat) : Int); omega), hP, hD, hS, hl⟩
  · skip
    have k_22 := mt (ti_le (x := 64) (y := v_3) (a := 64) (b := v_3.toInt) (by decide) rfl).mpr c
    refine lv_iload hx hb dX8_write_44 (lv_at hl 1 rfl) ?_
    refine lv_if_eq (tgt := 58) hx hb dX8_write_46 (by decide) (fun c => ?_) (fun c => absurd (by decide) c)
    refine lv_aload_n hx hb dX8_write_58 rfl (lv_at hl 2 rfl) ?_
    refine va_get (D := D) (ci := 7) (v := .ref h2) (C := RX8) (T := TX8) (N := 30) hx hb hts inX8_write_X8 hown hK hP 0 rfl rfl 2 (by decide) (hts _ wdX8_write_4) (fun _ h9 => h9) rfl dX8_write_59 ?_
    refine lv_iload_n hx hb dX8_write_62 rfl (lv_at hl 5 rfl) ?_
    refine lv_iload hx hb dX8_write_63 (lv_at hl 0 rfl) ?_
    refine lv_iadd hx hb dX8_write_65 ?_
    refine lv_topi (fun x_23 ex_23 => ?_)
    have tx_23 : x_23.toInt = p1.toInt + v_3.toInt := by rw [ex_23]; exact ti_add rfl rfl (by omega) (by omega)
    refine lv_aload_n hx hb dX8_write_66 rfl (lv_at hl 3 rfl) ?_
    refine lv_iload_n hx hb dX8_write_67 rfl (lv_at hl 4 rfl) ?_
    refine lv_iload hx hb dX8_write_68 (lv_at hl 0 rfl) ?_
    refine lv_iadd hx hb dX8_write_70 ?_
    refine lv_topi (fun x_24 ex_24 => ?_)
    have tx_24 : x_24.toInt = p0.toInt + v_3.toInt := by rw [ex_24]; exact ti_add rfl rfl (by omega) (by omega)
    refine va_bald hx hb hK hP 1 0 rfl rfl (ti_in (a := x_24.toInt) rfl (by omega) (by omega)) dX8_write_71 ?_
    refine lv_topi (fun x_25 ex_25 => ?_)
    refine va_bast hx hb hK hP hD hS 2 0 rfl rfl (ti_in (a := x_23.toInt) rfl (by omega) (by omega)) dX8_write_72 (fun H locs hP hD hS => ?_)
    obtain ⟨f_26, ef_26⟩ : ∃ g : Nat → Int32, g = upd f_2 (Int32.toNatClampNeg x_23) (vp_nar .byte x_25) := ⟨_, rfl⟩
    rw [← ef_26] at hP hD
    have bf_26 : FB f_26 := by rw [ef_26]; exact FB_upd bf_2 _ _
    have hP : va_P D vwCl [(h0, .inr (7, [g0, .int 0, .ref h2, g1, .ref h3, g2, g3, g4, g5, g6, g7, g8, g9, .int x_1, .int 0, g10, g11, g12, g13, g14, g15, g16, g17, g18, g19, g20, g21, g22, g23, g24])), (h1, .inl (cB, 4096, .inl f0)), (h2, .inl (cB, 65536, .inl f_26)), (h3, .inl (cZ, 65536, .inl zf))] H := hP
    have hD : va_D A [(h0, .inr (7, [g0, .int 0, .ref h2, g1, .ref h3, g2, g3, g4, g5, g6, g7, g8, g9, .int x_1, .int 0, g10, g11, g12, g13, g14, g15, g16, g17, g18, g19, g20, g21, g22, g23, g24])), (h1, .inl (cB, 4096, .inl f0)), (h2, .inl (cB, 65536, .inl f_26)), (h3, .inl (cZ, 65536, .inl zf))] := hD
    obtain ⟨x_27, ex_27⟩ : ∃ y : Int32, y = v_3 + 1 := ⟨_, rfl⟩
    have tx_27 : x_27.toInt = v_3.toInt + 1 := by rw [ex_27]; exact ti_add rfl (by decide) (by omega) (by omega)
    refine lv_iinc (v := x_27) (lv' := [(6, .int x_27), (5, .int 0), (0, .ref h0), (1, .ref h1), (2, .int p0), (3, .int p1), (4, .int 0)]) hx hb dX8_write_73 hl (k := 0) rfl (by rw [ex_27]; rfl) (by decide) rfl (fun ls hl => ?_)
    refine lv_goto (tgt := 37) hx hb dX8_write_76 (by decide) ?_
    exact ih_5 (x_27, f_26) _ _ _ ⟨(by show 0 ≤ Int32.toInt x_27; omega), (by show Int32.toInt x_27 ≤ 64; omega), bf_26, (by show 64 - Int32.toInt x_27 < ((n_4 : Nat) : Int); omega), hP, hD, hS, hl⟩
