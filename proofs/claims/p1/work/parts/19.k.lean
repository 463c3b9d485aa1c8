set_option maxHeartbeats 4000000 in
set_option maxRecDepth 100000 in
theorem K209_X6_numberAt (l : Launch) (D : va_G) (cB cI cZ : ClassId) (sz : Nat) (h0 : Nat) (h1 : Nat) (h2 : Nat)  (g0 : Value) (g1 : Value) (g2 : Value) (g3 : Value) (g4 : Value) (g5 : Value) (g6 : Value) (g7 : Value) (g8 : Value)  :
    CtI l D cB cI cZ yX6_numberAt wsX6_numberAt { frames := 2, cells := 0, slots := 0, locals := 46 } [.ref h0, .int 1, .int 0, .int 1] [(h0, .inr (5, [.ref h1, g0, g1, g2, g3, g4])), (h1, .inr (1, [.ref h2, g5, g6, g7, g8])), (h2, .inl (cB, 65536, .inl zf))] sz 0 0
      (fun (r : Int32) (u : Unit) => r = 0)
      (fun u => [(h0, .inr (5, [.ref h1, g0, g1, g2, g3, g4])), (h1, .inr (1, [.ref h2, g5, g6, g7, g8])), (h2, .inl (cB, 65536, .inl zf))]) := by
  refine mk_metI (cc := cX6_numberAt) (maxL := 4) (ret := (some .int)) (by decide) rfl (Nat.le_of_ble_eq_true rfl) ?_
  intro p e s m below meth c A hx hb hr hml hts hown hlocks hin hP hK hN hD hA hS ls hl
  have hown : s.vm.findClass RX6 = some m.cls := hown
  have hl : lv_has ls 4 [(0, .ref h0), (1, .int 1), (2, .int 0), (3, .int 1)] := hl
  refine lv_aload_n hx hb dX6_numberAt_0 rfl (lv_at hl 0 rfl) ?_
  refine va_get (D := D) (ci := 5) (v := .ref h1) (C := RX6) (T := TX6) (N := 6) hx hb hts inX6_numberAt_X6 hown hK hP 0 rfl rfl 0 (by decide) (hts _ wdX6_numberAt_0) (fun _ h9 => h9) rfl dX6_numberAt_1 ?_
  refine va_getN (D := D) (ci := 1) (v := .ref h2) (C := RX1) (T := TX1) (N := 5) hx hb hts inX6_numberAt_X1 hown hK hP 1 rfl rfl 0 (by decide) (hN.f (a := "AgedLog$Regions") (i := 103) (b := "AgedLog$Disk") (n := "row") (d := "[B") (by decide +kernel)) (fun _ h9 => h9) rfl dX6_numberAt_4 ?_
  refine lv_iload_n hx hb dX6_numberAt_7 rfl (lv_at hl 1 rfl) ?_
  refine lv_sipush (v := 4096) hx hb dX6_numberAt_8 (by decide) ?_
  refine lv_imul hx hb dX6_numberAt_11 ?_
  refine lv_topi (fun z_1 ez_1 => ?_)
  obtain rfl : z_1 = 4096 := ez_1.trans (by decide)
  refine lv_iload_n hx hb dX6_numberAt_12 rfl (lv_at hl 2 rfl) ?_
  refine lv_iadd hx hb dX6_numberAt_13 ?_
  refine lv_topi (fun z_2 ez_2 => ?_)
  obtain rfl : z_2 = 4096 := ez_2.trans (by decide)
  refine lv_iload_n hx hb dX6_numberAt_14 rfl (lv_at hl 3 rfl) ?_
  refine kc_i (wr := [(h0, .inr (5, [.ref h1, g0, g1, g2, g3, g4])), (h1, .inr (1, [.ref h2, g5, g6, g7, g8]))]) (va_runS (As := [.ref h2, .int 4096, .int 1]) (rest := []) ⟨hx, hb, hml, hown, hts⟩ (K206_X4_number l D cB cI cZ _ h2 4096 (by decide)) (va_cwS 3 hts gX6_numberAt_X4_number rfl rfl rfl (by decide +kernel) ⟨Nat.le_of_ble_eq_true rfl, Nat.le_of_ble_eq_true rfl⟩) (pre_S (hP.sub [2] rfl) hK hN (hD.sub [2] (by decide) rfl)) rfl rfl hl.1 rfl (lv_room (Nat.le_of_ble_eq_true rfl)) dX6_numberAt_15 ⟨Nat.le_of_ble_eq_true rfl, Nat.le_of_ble_eq_true rfl⟩) hP hD hS hA [2] [0, 1] rfl rfl (by decide) (by decide) (fun r_3 u H locs hw hP hD hS => ?_)
  have k_4 := hw
  obtain rfl : r_3 = 0 := k_4
  have hP : va_P D vwCl [(h0, .inr (5, [.ref h1, g0, g1, g2, g3, g4])), (h1, .inr (1, [.ref h2, g5, g6, g7, g8])), (h2, .inl (cB, 65536, .inl zf))] H := hP
  have hD : va_D A [(h0, .inr (5, [.ref h1, g0, g1, g2, g3, g4])), (h1, .inr (1, [.ref h2, g5, g6, g7, g8])), (h2, .inl (cB, 65536, .inl zf))] := hD
  exact kr_i () hx hb hr hlocks hP hD hS rfl dX6_numberAt_18
set_option maxHeartbeats 4000000 in
set_option maxRecDepth 100000 in
theorem K207_X6_isRight (l : Launch) (D : va_G) (cB cI cZ : ClassId) (sz : Nat) (h0 : Nat) (h1 : Nat) (h2 : Nat)  (g0 : Value) (g1 : Value) (g2 : Value) (g3 : Value) (g4 : Value) (g5 : Value) (g6 : Value) (g7 : Value) (g8 : Value)  :
    CtI l D cB cI cZ yX6_isRight wsX6_isRight { frames := 3, cells := 0, slots := 0, locals := 69 } [.ref h0, .int 1] [(h0, .inr (5, [.ref h1, g0, g1, g2, g3, g4])), (h1, .inr (1, [.ref h2, g5, g6, g7, g8])), (h2, .inl (cB, 65536, .inl zf))] sz 0 0
      (fun (r : Int32) (u : Unit) => r = 0)
      (fun u => [(h0, .inr (5, [.ref h1, g0, g1, g2, g3, g4])), (h1, .inr (1, [.ref h2, g5, g6, g7, g8])), (h2, .inl (cB, 65536, .inl zf))]) := by
  refine mk_metI (cc := cX6_isRight) (maxL := 4) (ret := (some .boolean)) (by decide) rfl (Nat.le_of_ble_eq_true rfl) ?_
  intro p e s m below meth c A hx hb hr hml hts hown hlocks hin hP hK hN hD hA hS ls hl
  have hown : s.vm.findClass RX6 = some m.cls := hown
  have hl : lv_has ls 4 [(0, .ref h0), (1, .int 1)] := hl
  refine lv_aload_n hx hb dX6_isRight_0 rfl (lv_at hl 0 rfl) ?_
  refine lv_iload_n hx hb dX6_isRight_1 rfl (lv_at hl 1 rfl) ?_
  refine lv_bipush (v := 21) hx hb dX6_isRight_2 (by decide) ?_
  refine lv_iconst (v := 2) hx hb dX6_isRight_4 (by decide) ?_
  refine kc_i (wr := []) (va_runV (As := [.int 1, .int 21, .int 2]) (rest := []) ⟨hx, hb, hml, hown, hts⟩ (K208_X6_numberAt l D cB cI cZ _ h0 h1 h2 (g0) (g1) (g2) (g3) (g4) (g5) (g6) (g7) (g8)) (cwV 3 hts gX6_isRight_X6_numberAt rfl rfl rfl (by decide +kernel) ⟨Nat.le_of_ble_eq_true rfl, Nat.le_of_ble_eq_true rfl⟩) (pre_V (q := (RX6, TX6, 6)) (ci := 5) (q0 := 0) (hP.sub [0, 1, 2] rfl) hK hN (hD.sub [0, 1, 2] (by decide) rfl) rfl rfl) rfl rfl hl.1 rfl (lv_room (Nat.le_of_ble_eq_true rfl)) dX6_isRight_5 ⟨Nat.le_of_ble_eq_true rfl, Nat.le_of_ble_eq_true rfl⟩) hP hD hS hA [0, 1, 2] [] rfl rfl (by decide) (by decide) (fun r_1 u H locs hw hP hD hS => ?_)
  have k_2 := hw
  obtain rfl : r_1 = 0 := k_2
  have hP : va_P D vwCl [(h0, .inr (5, [.ref h1, g0, g1, g2, g3, g4])), (h1, .inr (1, [.ref h2, g5, g6, g7, g8])), (h2, .inl (cB, 65536, .inl zf))] H := hP
  have hD : va_D A [(h0, .inr (5, [.ref h1, g0, g1, g2, g3, g4])), (h1, .inr (1, [.ref h2, g5, g6, g7, g8])), (h2, .inl (cB, 65536, .inl zf))] := hD
  refine lv_istore_n (lv' := [(2, .int 0), (0, .ref h0), (1, .int 1)]) hx hb dX6_isRight_8 rfl hl (by decide) rfl (fun ls hl => ?_)
  refine lv_bipush (v := 23) hx hb dX6_isRight_9 (by decide) ?_
  refine lv_iload_n hx hb dX6_isRight_11 rfl (lv_at hl 0 rfl) ?_
  refine lv_iconst (v := 5) hx hb dX6_isRight_12 (by decide) ?_
  refine lv_imul hx hb dX6_isRight_13 ?_
  refine lv_topi (fun z_3 ez_3 => ?_)
  obtain rfl : z_3 = 0 := ez_3.trans (by decide)
  refine lv_iadd hx hb dX6_isRight_14 ?_
  refine lv_topi (fun z_4 ez_4 => ?_)
  obtain rfl : z_4 = 23 := ez_4.trans (by decide)
  refine lv_istore_n (lv' := [(3, .int 23), (2, .int 0), (0, .ref h0), (1, .int 1)]) hx hb dX6_isRight_15 rfl hl (by decide) rfl (fun ls hl => ?_)
  refine lv_aload_n hx hb dX6_isRight_16 rfl (lv_at hl 2 rfl) ?_
  refine lv_iload_n hx hb dX6_isRight_17 rfl (lv_at hl 3 rfl) ?_
  refine lv_iconst (v := 0) hx hb dX6_isRight_18 (by decide) ?_
  refine lv_iconst (v := 1) hx hb dX6_isRight_19 (by decide) ?_
  refine kc_i (wr := []) (va_runV (As := [.int 1, .int 0, .int 1]) (rest := []) ⟨hx, hb, hml, hown, hts⟩ (K209_X6_numberAt l D cB cI cZ _ h0 h1 h2 (g0) (g1) (g2) (g3) (g4) (g5) (g6) (g7) (g8)) (cwV 3 hts gX6_isRight_X6_numberAt rfl rfl rfl (by decide +kernel) ⟨Nat.le_of_ble_eq_true rfl, Nat.le_of_ble_eq_true rfl⟩) (pre_V (q := (RX6, TX6, 6)) (ci := 5) (q0 := 0) (hP.sub [0, 1, 2] rfl) hK hN (hD.sub [0, 1, 2] (by decide) rfl) rfl rfl) rfl rfl hl.1 rfl (lv_room (Nat.le_of_ble_eq_true rfl)) dX6_isRight_20 ⟨Nat.le_of_ble_eq_true rfl, Nat.le_of_ble_eq_true rfl⟩) hP hD hS hA [0, 1, 2] [] rfl rfl (by decide) (by decide) (fun r_5 u H locs hw hP hD hS => ?_)
  have k_6 := hw
  obtain rfl : r_5 = 0 := k_6
  have hP : va_P D vwCl [(h0, .inr (5, [.ref h1, g0, g1, g2, g3, g4])), (h1, .inr (1, [.ref h2, g5, g6, g7, g8])), (h2, .inl (cB, 65536, .inl zf))] H := hP
  have hD : va_D A [(h0, .inr (5, [.ref h1, g0, g1, g2, g3, g4])), (h1, .inr (1, [.ref h2, g5, g6, g7, g8])), (h2, .inl (cB, 65536, .inl zf))] := hD
  refine lv_bipush (v := 67) hx hb dX6_isRight_23 (by decide) ?_
  refine lv_icmp_ne (tgt := 107) hx hb dX6_isRight_25 (by decide) (fun c => ?_) (fun c => absurd c (by decide))
  refine lv_iconst (v := 0) hx hb dX6_isRight_107 (by decide) ?_
  exact kr_z () hx hb hr rfl hlocks hP hD hS rfl dX6_isRight_108
set_option maxHeartbeats 4000000 in
set_option maxRecDepth 100000 in
theorem K200_X6_newest (l : Launch) (D : va_G) (cB cI cZ : ClassId) (sz : Nat) (h0 : Nat) (h1 : Nat) (h2 : Nat)  (g0 : Value) (g1 : Value) (g2 : Value) (g3 : Value) (g4 : Value) (g5 : Value) (g6 : Value) (g7 : Value) (g8 : Value)  :
    CtI l D cB cI cZ yX6_newest wsX6_newest { frames := 4, cells := 0, slots := 0, locals := 92 } [.ref h0] [(h0, .inr (5, [.ref h1, g0, g1, g2, g3, g4])), (h1, .inr (1, [.ref h2, g5, g6, g7, g8])), (h2, .inl (cB, 65536, .inl zf))] sz 0 0
      (fun (r : Int32) (u : Unit) => r = (-1))
      (fun u => [(h0, .inr (5, [.ref h1, g0, g1, g2, g3, g4])), (h1, .inr (1, [.ref h2, g5, g6, g7, g8])), (h2, .inl (cB, 65536, .inl zf))]) := by
  refine mk_metI (cc := cX6_newest) (maxL := 3) (ret := (some .int)) (by decide) rfl (Nat.le_of_ble_eq_true rfl) ?_
  intro p e s m below meth c A hx hb hr hml hts hown hlocks hin hP hK hN hD hA hS ls hl
  have hown : s.vm.findClass RX6 = some m.cls := hown
  have hl : lv_has ls 3 [(0, .ref h0)] := hl
  refine lv_aload_n hx hb dX6_newest_0 rfl (lv_at hl 0 rfl) ?_
  refine lv_iconst (v := 0) hx hb dX6_newest_1 (by decide) ?_
  refine kc_i (wr := []) (va_runV (As := [.int 0]) (rest := []) ⟨hx, hb, hml, hown, hts⟩ (K201_X6_isRight l D cB cI cZ _ h0 h1 h2 (g0) (g1) (g2) (g3) (g4) (g5) (g6) (g7) (g8)) (cwV 1 hts gX6_newest_X6_isRight rfl rfl rfl (by decide +kernel) ⟨Nat.le_of_ble_eq_true rfl, Nat.le_of_ble_eq_true rfl⟩) (pre_V (q := (RX6, TX6, 6)) (ci := 5) (q0 := 0) (hP.sub [0, 1, 2] rfl) hK hN (hD.sub [0, 1, 2] (by decide) rfl) rfl rfl) rfl rfl hl.1 rfl (lv_room (Nat.le_of_ble_eq_true rfl)) dX6_newest_2 ⟨Nat.le_of_ble_eq_true rfl, Nat.le_of_ble_eq_true rfl⟩) hP hD hS hA [0, 1, 2] [] rfl rfl (by decide) (by decide) (fun r_1 u H locs hw hP hD hS => ?_)
  have k_2 := hw
  obtain rfl : r_1 = 0 := k_2
  have hP : va_P D vwCl [(h0, .inr (5, [.ref h1, g0, g1, g2, g3, g4])), (h1, .inr (1, [.ref h2, g5, g6, g7, g8])), (h2, .inl (cB, 65536, .inl zf))] H := hP
  have hD : va_D A [(h0, .inr (5, [.ref h1, g0, g1, g2, g3, g4])), (h1, .inr (1, [.ref h2, g5, g6, g7, g8])), (h2, .inl (cB, 65536, .inl zf))] := hD
  refine lv_istore_n (lv' := [(1, .int 0), (0, .ref h0)]) hx hb dX6_newest_5 rfl hl (by decide) rfl (fun ls hl => ?_)
  refine lv_aload_n hx hb dX6_newest_6 rfl (lv_at hl 1 rfl) ?_
  refine lv_iconst (v := 1) hx hb dX6_newest_7 (by decide) ?_
  refine kc_i (wr := []) (va_runV (As := [.int 1]) (rest := []) ⟨hx, hb, hml, hown, hts⟩ (K207_X6_isRight l D cB cI cZ _ h0 h1 h2 (g0) (g1) (g2) (g3) (g4) (g5) (g6) (g7) (g8)) (cwV 1 hts gX6_newest_X6_isRight rfl rfl rfl (by decide +kernel) ⟨Nat.le_of_ble_eq_true rfl, Nat.le_of_ble_eq_true rfl⟩) (pre_V (q := (RX6, TX6, 6)) (ci := 5) (q0 := 0) (hP.sub [0, 1, 2] rfl) hK hN (hD.sub [0, 1, 2] (by decide) rfl) rfl rfl) rfl rfl hl.1 rfl (lv_room (Nat.le_of_ble_eq_true rfl)) dX6_newest_8 ⟨Nat.le_of_ble_eq_true rfl, Nat.le_of_ble_eq_true rfl⟩) hP hD hS hA [0, 1, 2] [] rfl rfl (by decide) (by decide) (fun r_3 u H locs hw hP hD hS => ?_)
  have k_4 := hw
  obtain rfl : r_3 = 0 := k_4
  have hP : va_P D vwCl [(h0, .inr (5, [.ref h1, g0, g1, g2, g3, g4])), (h1, .inr (1, [.ref h2, g5, g6, g7, g8])), (h2, .inl (cB, 65536, .inl zf))] H := hP
  have hD : va_D A [(h0, .inr (5, [.ref h1, g0, g1, g2, g3, g4])), (h1, .inr (1, [.ref h2, g5, g6, g7, g8])), (h2, .inl (cB, 65536, .inl zf))] := hD
  refine lv_istore_n (lv' := [(2, .int 0), (1, .int 0), (0, .ref h0)]) hx hb dX6_newest_11 rfl hl (by decide) rfl (fun ls hl => ?_)
  refine lv_iload_n hx hb dX6_newest_12 rfl (lv_at hl 1 rfl) ?_
  refine lv_if_eq (tgt := 43) hx hb dX6_newest_13 (by decide) (fun c => ?_) (fun c => absurd (by decide) c)
  refine lv_iload_n hx hb dX6_newest_43 rfl (lv_at hl 1 rfl) ?_
  refine lv_if_eq (tgt := 49) hx hb dX6_newest_44 (by decide) (fun c => ?_) (fun c => absurd (by decide) c)
  refine lv_iload_n hx hb dX6_newest_49 rfl (lv_at hl 0 rfl) ?_
  refine lv_if_eq (tgt := 57) hx hb dX6_newest_50 (by decide) (fun c => ?_) (fun c => absurd (by decide) c)
  refine lv_iconst (v := (-1)) hx hb dX6_newest_57 (by decide) ?_
  exact kr_i () hx hb hr hlocks hP hD hS rfl dX6_newest_58
set_option maxHeartbeats 4000000 in
set_option maxRecDepth 100000 in
theorem K195_X5_takeCheckpoint (l : Launch) (D : va_G) (cB cI cZ : ClassId) (sz : Nat) (h0 : Nat) (h1 : Nat) (h2 : Nat) (h3 : Nat) (h4 : Nat) (h5 : Nat) (h6 : Nat) (h7 : Nat) (h8 : Nat)  (g0 : Value) (g1 : Value) (g2 : Value) (g3 : Value) (g4 : Value) (g5 : Value) (g6 : Value) (g7 : Value) (g8 : Value) (g9 : Value) (g10 : Value) (g11 : Value) (g12 : Value) (g13 : Value) (g14 : Value) (g15 : Value) (g16 : Value) (g17 : Value) (g18 : Value) (g19 : Value) (g20 : Value) (g21 : Value) (g22 : Value) (g23 : Value)  :
    CtV l D cB cI cZ yX5_takeCheckpoint wsX5_takeCheckpoint { frames := 5, cells := 0, slots := 0, locals := 114 } [.ref h0] [(h0, .inr (4, [g0, .ref h1, .ref h2, .ref h3])), (h1, .inr (3, [g1, g2, .ref h4, g3, g4, g5, g6, g7, g8, g9, g10, g11, g12, g13])), (h2, .inr (2, [.ref h5, .ref h6, g14])), (h3, .inr (5, [.ref h7, g15, g16, g17, g18, g19])), (h4, .inl (cI, 64, .inl zf)), (h5, .inl (cI, 300, .inl zf)), (h6, .inl (cI, 300, .inl zf)), (h7, .inr (1, [.ref h8, g20, g21, g22, g23])), (h8, .inl (cB, 65536, .inl zf))] sz 0 0
      (fun (u : Unit) => True)
      (fun u => [(h0, .inr (4, [g0, .ref h1, .ref h2, .ref h3])), (h1, .inr (3, [g1, g2, .ref h4, g3, g4, g5, g6, g7, .int 0, .int 0, .int 0, .int 0, .int 1, .int 0])), (h4, .inl (cI, 64, .inl zf)), (h2, .inr (2, [.ref h5, .ref h6, .int 0])), (h5, .inl (cI, 300, .inl zf)), (h6, .inl (cI, 300, .inl zf)), (h3, .inr (5, [.ref h7, g15, g16, g17, .int 0, .int 0])), (h7, .inr (1, [.ref h8, g20, g21, g22, g23])), (h8, .inl (cB, 65536, .inl zf))]) := by
  refine mk_metV (cc := cX5_takeCheckpoint) (maxL := 2) (ret := none) (by decide) rfl (Nat.le_of_ble_eq_true rfl) ?_
  intro p e s m below meth c A hx hb hr hml hts hown hlocks hin hP hK hN hD hA hS ls hl
  have hown : s.vm.findClass RX5 = some m.cls := hown
  have hl : lv_has ls 2 [(0, .ref h0)] := hl
  refine lv_aload_n hx hb dX5_takeCheckpoint_0 rfl (lv_at hl 0 rfl) ?_
  refine va_get (D := D) (ci := 4) (v := .ref h1) (C := RX5) (T := TX5) (N := 4) hx hb hts inX5_takeCheckpoint_X5 hown hK hP 0 rfl rfl 1 (by decide) (hts _ wdX5_takeCheckpoint_0) (fun _ h9 => h9) rfl dX5_takeCheckpoint_1 ?_
  refine kc_v (wr := [(h0, .inr (4, [g0, .ref h1, .ref h2, .ref h3])), (h2, .inr (2, [.ref h5, .ref h6, g14])), (h3, .inr (5, [.ref h7, g15, g16, g17, g18, g19])), (h5, .inl (cI, 300, .inl zf)), (h6, .inl (cI, 300, .inl zf)), (h7, .inr (1, [.ref h8, g20, g21, g22, g23])), (h8, .inl (cB, 65536, .inl zf))]) (va_runV (As := []) (rest := []) ⟨hx, hb, hml, hown, hts⟩ (K196_X3_setAsAtFirst l D cB cI cZ _ h1 h4 (g1) (g2) (g3) (g4) (g5) (g6) (g7) (g8) (g9) (g10) (g11) (g12) (g13)) (cwV 0 hts gX5_takeCheckpoint_X3_setAsAtFirst rfl rfl rfl (by decide +kernel) ⟨Nat.le_of_ble_eq_true rfl, Nat.le_of_ble_eq_true rfl⟩) (pre_V (q := (RX3, TX3, 14)) (ci := 3) (q0 := 0) (hP.sub [1, 4] rfl) hK hN (hD.sub [1, 4] (by decide) rfl) rfl rfl) rfl rfl hl.1 rfl (lv_room (Nat.le_of_ble_eq_true rfl)) dX5_takeCheckpoint_4 ⟨Nat.le_of_ble_eq_true rfl, Nat.le_of_ble_eq_true rfl⟩) hP hD hS hA [1, 4] [0, 2, 3, 5, 6, 7, 8] rfl rfl (by decide) (by decide) (fun  u H locs hw hP hD hS => ?_)
  have hP : va_P D vwCl [(h0, .inr (4, [g0, .ref h1, .ref h2, .ref h3])), (h2, .inr (2, [.ref h5, .ref h6, g14])), (h3, .inr (5, [.ref h7, g15, g16, g17, g18, g19])), (h5, .inl (cI, 300, .inl zf)), (h6, .inl (cI, 300, .inl zf)), (h7, .inr (1, [.ref h8, g20, g21, g22, g23])), (h8, .inl (cB, 65536, .inl zf)), (h1, .inr (3, [g1, g2, .ref h4, g3, g4, g5, g6, g7, .int 0, .int 0, .int 0, .int 0, .int 1, .int 0])), (h4, .inl (cI, 64, .inl zf))] H := hP
  have hD : va_D A [(h0, .inr (4, [g0, .ref h1, .ref h2, .ref h3])), (h2, .inr (2, [.ref h5, .ref h6, g14])), (h3, .inr (5, [.ref h7, g15, g16, g17, g18, g19])), (h5, .inl (cI, 300, .inl zf)), (h6, .inl (cI, 300, .inl zf)), (h7, .inr (1, [.ref h8, g20, g21, g22, g23])), (h8, .inl (cB, 65536, .inl zf)), (h1, .inr (3, [g1, g2, .ref h4, g3, g4, g5, g6, g7, .int 0, .int 0, .int 0, .int 0, .int 1, .int 0])), (h4, .inl (cI, 64, .inl zf))] := hD
  refine lv_aload_n hx hb dX5_takeCheckpoint_7 rfl (lv_at hl 0 rfl) ?_
  refine va_get (D := D) (ci := 4) (v := .ref h3) (C := RX5) (T := TX5) (N := 4) hx hb hts inX5_takeCheckpoint_X5 hown hK hP 0 rfl rfl 3 (by decide) (hts _ wdX5_takeCheckpoint_1) (fun _ h9 => h9) rfl dX5_takeCheckpoint_8 ?_
  refine kc_v (wr := [(h0, .inr (4, [g0, .ref h1, .ref h2, .ref h3])), (h2, .inr (2, [.ref h5, .ref h6, g14])), (h5, .inl (cI, 300, .inl zf)), (h6, .inl (cI, 300, .inl zf)), (h7, .inr (1, [.ref h8, g20, g21, g22, g23])), (h8, .inl (cB, 65536, .inl zf)), (h1, .inr (3, [g1, g2, .ref h4, g3, g4, g5, g6, g7, .int 0, .int 0, .int 0, .int 0, .int 1, .int 0])), (h4, .inl (cI, 64, .inl zf))]) (va_runV (As := []) (rest := []) ⟨hx, hb, hml, hown, hts⟩ (K197_X6_setAsAtFirst l D cB cI cZ _ h3 ((.ref h7)) (g15) (g16) (g17) (g18) (g19)) (cwV 0 hts gX5_takeCheckpoint_X6_setAsAtFirst rfl rfl rfl (by decide +kernel) ⟨Nat.le_of_ble_eq_true rfl, Nat.le_of_ble_eq_true rfl⟩) (pre_V (q := (RX6, TX6, 6)) (ci := 5) (q0 := 0) (hP.sub [2] rfl) hK hN (hD.sub [2] (by decide) rfl) rfl rfl) rfl rfl hl.1 rfl (lv_room (Nat.le_of_ble_eq_true rfl)) dX5_takeCheckpoint_11 ⟨Nat.le_of_ble_eq_true rfl, Nat.le_of_ble_eq_true rfl⟩) hP hD hS hA [2] [0, 1, 3, 4, 5, 6, 7, 8] rfl rfl (by decide) (by decide) (fun  u H locs hw hP hD hS => ?_)
  have hP : va_P D vwCl [(h0, .inr (4, [g0, .ref h1, .ref h2, .ref h3])), (h2, .inr (2, [.ref h5, .ref h6, g14])), (h5, .inl (cI, 300, .inl zf)), (h6, .inl (cI, 300, .inl zf)), (h7, .inr (1, [.ref h8, g20, g21, g22, g23])), (h8, .inl (cB, 65536, .inl zf)), (h1, .inr (3, [g1, g2, .ref h4, g3, g4, g5, g6, g7, .int 0, .int 0, .int 0, .int 0, .int 1, .int 0])), (h4, .inl (cI, 64, .inl zf)), (h3, .inr (5, [.ref h7, g15, g16, g17, .int 0, .int 0]))] H := hP
  have hD : va_D A [(h0, .inr (4, [g0, .ref h1, .ref h2, .ref h3])), (h2, .inr (2, [.ref h5, .ref h6, g14])), (h5, .inl (cI, 300, .inl zf)), (h6, .inl (cI, 300, .inl zf)), (h7, .inr (1, [.ref h8, g20, g21, g22, g23])), (h8, .inl (cB, 65536, .inl zf)), (h1, .inr (3, [g1, g2, .ref h4, g3, g4, g5, g6, g7, .int 0, .int 0, .int 0, .int 0, .int 1, .int 0])), (h4, .inl (cI, 64, .inl zf)), (h3, .inr (5, [.ref h7, g15, g16, g17, .int 0, .int 0]))] := hD
  refine lv_aload_n hx hb dX5_takeCheckpoint_14 rfl (lv_at hl 0 rfl) ?_
  refine va_get (D := D) (ci := 4) (v := .ref h2) (C := RX5) (T := TX5) (N := 4) hx hb hts inX5_takeCheckpoint_X5 hown hK hP 0 rfl rfl 2 (by decide) (hts _ wdX5_takeCheckpoint_2) (fun _ h9 => h9) rfl dX5_takeCheckpoint_15 ?_
  refine kc_v (wr := [(h0, .inr (4, [g0, .ref h1, .ref h2, .ref h3])), (h7, .inr (1, [.ref h8, g20, g21, g22, g23])), (h8, .inl (cB, 65536, .inl zf)), (h1, .inr (3, [g1, g2, .ref h4, g3, g4, g5, g6, g7, .int 0, .int 0, .int 0, .int 0, .int 1, .int 0])), (h4, .inl (cI, 64, .inl zf)), (h3, .inr (5, [.ref h7, g15, g16, g17, .int 0, .int 0]))]) (va_runV (As := []) (rest := []) ⟨hx, hb, hml, hown, hts⟩ (K198_X2_clear l D cB cI cZ _ h2 h5 h6 (g14)) (cwV 0 hts gX5_takeCheckpoint_X2_clear rfl rfl rfl (by decide +kernel) ⟨Nat.le_of_ble_eq_true rfl, Nat.le_of_ble_eq_true rfl⟩) (pre_V (q := (RX2, TX2, 3)) (ci := 2) (q0 := 0) (hP.sub [1, 2, 3] rfl) hK hN (hD.sub [1, 2, 3] (by decide) rfl) rfl rfl) rfl rfl hl.1 rfl (lv_room (Nat.le_of_ble_eq_true rfl)) dX5_takeCheckpoint_18 ⟨Nat.le_of_ble_eq_true rfl, Nat.le_of_ble_eq_true rfl⟩) hP hD hS hA [1, 2, 3] [0, 4, 5, 6, 7, 8] rfl rfl (by decide) (by decide) (fun  u H locs hw hP hD hS => ?_)
  have hP : va_P D vwCl [(h0, .inr (4, [g0, .ref h1, .ref h2, .ref h3])), (h7, .inr (1, [.ref h8, g20, g21, g22, g23])), (h8, .inl (cB, 65536, .inl zf)), (h1, .inr (3, [g1, g2, .ref h4, g3, g4, g5, g6, g7, .int 0, .int 0, .int 0, .int 0, .int 1, .int 0])), (h4, .inl (cI, 64, .inl zf)), (h3, .inr (5, [.ref h7, g15, g16, g17, .int 0, .int 0])), (h2, .inr (2, [.ref h5, .ref h6, .int 0])), (h5, .inl (cI, 300, .inl zf)), (h6, .inl (cI, 300, .inl zf))] H := hP
  have hD : va_D A [(h0, .inr (4, [g0, .ref h1, .ref h2, .ref h3])), (h7, .inr (1, [.ref h8, g20, g21, g22, g23])), (h8, .inl (cB, 65536, .inl zf)), (h1, .inr (3, [g1, g2, .ref h4, g3, g4, g5, g6, g7, .int 0, .int 0, .int 0, .int 0, .int 1, .int 0])), (h4, .inl (cI, 64, .inl zf)), (h3, .inr (5, [.ref h7, g15, g16, g17, .int 0, .int 0])), (h2, .inr (2, [.ref h5, .ref h6, .int 0])), (h5, .inl (cI, 300, .inl zf)), (h6, .inl (cI, 300, .inl zf))] := hD
  refine lv_aload_n hx hb dX5_takeCheckpoint_21 rfl (lv_at hl 0 rfl) ?_
  refine va_get (D := D) (ci := 4) (v := .ref h3) (C := RX5) (T := TX5) (N := 4) hx hb hts inX5_takeCheckpoint_X5 hown hK hP 0 rfl rfl 3 (by decide) (hts _ wdX5_takeCheckpoint_1) (fun _ h9 => h9) rfl dX5_takeCheckpoint_22 ?_
  refine kc_i (wr := [(h0, .inr (4, [g0, .ref h1, .ref h2, .ref h3])), (h1, .inr (3, [g1, g2, .ref h4, g3, g4, g5, g6, g7, .int 0, .int 0, .int 0, .int 0, .int 1, .int 0])), (h4, .inl (cI, 64, .inl zf)), (h2, .inr (2, [.ref h5, .ref h6, .int 0])), (h5, .inl (cI, 300, .inl zf)), (h6, .inl (cI, 300, .inl zf))]) (va_runV (As := []) (rest := []) ⟨hx, hb, hml, hown, hts⟩ (K200_X6_newest l D cB cI cZ _ h3 h7 h8 (g15) (g16) (g17) ((.int 0)) ((.int 0)) (g20) (g21) (g22) (g23)) (cwV 0 hts gX5_takeCheckpoint_X6_newest rfl rfl rfl (by decide +kernel) ⟨Nat.le_of_ble_eq_true rfl, Nat.le_of_ble_eq_true rfl⟩) (pre_V (q := (RX6, TX6, 6)) (ci := 5) (q0 := 0) (hP.sub [5, 1, 2] rfl) hK hN (hD.sub [5, 1, 2] (by decide) rfl) rfl rfl) rfl rfl hl.1 rfl (lv_room (Nat.le_of_ble_eq_true rfl)) dX5_takeCheckpoint_25 ⟨Nat.le_of_ble_eq_true rfl, Nat.le_of_ble_eq_true rfl⟩) hP hD hS hA [5, 1, 2] [0, 3, 4, 6, 7, 8] rfl rfl (by decide) (by decide) (fun r_1 u H locs hw hP hD hS => ?_)
  have k_2 := hw
  obtain rfl : r_1 = (-1) := k_2
  have hP : va_P D vwCl [(h0, .inr (4, [g0, .ref h1, .ref h2, .ref h3])), (h1, .inr (3, [g1, g2, .ref h4, g3, g4, g5, g6, g7, .int 0, .int 0, .int 0, .int 0, .int 1, .int 0])), (h4, .inl (cI, 64, .inl zf)), (h2, .inr (2, [.ref h5, .ref h6, .int 0])), (h5, .inl (cI, 300, .inl zf)), (h6, .inl (cI, 300, .inl zf)), (h3, .inr (5, [.ref h7, g15, g16, g17, .int 0, .int 0])), (h7, .inr (1, [.ref h8, g20, g21, g22, g23])), (h8, .inl (cB, 65536, .inl zf))] H := hP
  have hD : va_D A [(h0, .inr (4, [g0, .ref h1, .ref h2, .ref h3])), (h1, .inr (3, [g1, g2, .ref h4, g3, g4, g5, g6, g7, .int 0, .int 0, .int 0, .int 0, .int 1, .int 0])), (h4, .inl (cI, 64, .inl zf)), (h2, .inr (2, [.ref h5, .ref h6, .int 0])), (h5, .inl (cI, 300, .inl zf)), (h6, .inl (cI, 300, .inl zf)), (h3, .inr (5, [.ref h7, g15, g16, g17, .int 0, .int 0])), (h7, .inr (1, [.ref h8, g20, g21, g22, g23])), (h8, .inl (cB, 65536, .inl zf))] := hD
  refine lv_istore_n (lv' := [(1, .int (-1)), (0, .ref h0)]) hx hb dX5_takeCheckpoint_28 rfl hl (by decide) rfl (fun ls hl => ?_)
  refine lv_iload_n hx hb dX5_takeCheckpoint_29 rfl (lv_at hl 0 rfl) ?_
  refine lv_if_lt (tgt := 46) hx hb dX5_takeCheckpoint_30 (by decide) (fun c => ?_) (fun c => absurd (by decide) c)
  exact kr_v () hx hb hr hlocks hP hD hS trivial dX5_takeCheckpoint_46
set_option maxHeartbeats 4000000 in
set_option maxRecDepth 100000 in
theorem K213_X5_rightLength (l : Launch) (D : va_G) (cB cI cZ : ClassId) (sz : Nat) (h0 : Nat)  (g0 : Value) (g1 : Value) (g2 : Value) (g3 : Value)  :
    CtI l D cB cI cZ yX5_rightLength wsX5_rightLength { frames := 1, cells := 0, slots := 0, locals := 20 } [.ref h0, .int 0, .int 0] [(h0, .inr (4, [g0, g1, g2, g3]))] sz 0 0
      (fun (r : Int32) (u : Unit) => r = 0)
      (fun u => [(h0, .inr (4, [g0, g1, g2, g3]))]) := by
  refine mk_metI (cc := cX5_rightLength) (maxL := 7) (ret := (some .int)) (by decide) rfl (Nat.le_of_ble_eq_true rfl) ?_
  intro p e s m below meth c A hx hb hr hml hts hown hlocks hin hP hK hN hD hA hS ls hl
  have hown : s.vm.findClass RX5 = some m.cls := hown
  have hl : lv_has ls 7 [(0, .ref h0), (1, .int 0), (2, .int 0)] := hl
  refine lv_iload_n hx hb dX5_rightLength_0 rfl (lv_at hl 1 rfl) ?_
  refine kc_i (wr := [(h0, .inr (4, [g0, g1, g2, g3]))]) (va_runSN (As := [.int 0]) (rest := []) ⟨hx, hb, hml, hown, hts⟩ (K105_X7_isOfLog l D cB cI cZ _ ) ⟨va_cnB 1 hts gX5_rightLength_X7_isOfLog_n162 rfl rfl rfl (hN.m (a := RX5) (i := 162) (y := yX7_isOfLog) (by decide +kernel)) (hts _ wdX5_rightLength_0) (by decide +kernel) ⟨Nat.le_of_ble_eq_true rfl, Nat.le_of_ble_eq_true rfl⟩, hts _ wdX5_rightLength_1, trivial⟩ (pre_S (hP.sub [] rfl) hK hN (hD.sub [] (by decide) rfl)) rfl rfl hl.1 rfl (lv_room (Nat.le_of_ble_eq_true rfl)) dX5_rightLength_1 ⟨Nat.le_of_ble_eq_true rfl, Nat.le_of_ble_eq_true rfl⟩) hP hD hS hA [] [0] rfl rfl (by decide) (by decide) (fun r_1 u H locs hw hP hD hS => ?_)
  have k_2 := hw
  obtain rfl : r_1 = 0 := k_2
  have hP : va_P D vwCl [(h0, .inr (4, [g0, g1, g2, g3]))] H := hP
  have hD : va_D A [(h0, .inr (4, [g0, g1, g2, g3]))] := hD
  refine lv_if_eq (tgt := 20) hx hb dX5_rightLength_4 (by decide) (fun c => ?_) (fun c => absurd (by decide) c)
  refine lv_iconst (v := 0) hx hb dX5_rightLength_20 (by decide) ?_
  exact kr_i () hx hb hr hlocks hP hD hS rfl dX5_rightLength_21
set_option maxHeartbeats 4000000 in
set_option maxRecDepth 100000 in
theorem K212_X5_isNext (l : Launch) (D : va_G) (cB cI cZ : ClassId) (sz : Nat) (h0 : Nat)  (g0 : Value) (g1 : Value) (g2 : Value) (g3 : Value)  :
    CtI l D cB cI cZ yX5_isNext wsX5_isNext { frames := 2, cells := 0, slots := 0, locals := 46 } [.ref h0, .int 0, .int 0] [(h0, .inr (4, [g0, g1, g2, g3]))] sz 0 0
      (fun (r : Int32) (u : Unit) => r = 0)
      (fun u => [(h0, .inr (4, [g0, g1, g2, g3]))]) := by
  refine mk_metI (cc := cX5_isNext) (maxL := 4) (ret := (some .boolean)) (by decide) rfl (Nat.le_of_ble_eq_true rfl) ?_
  intro p e s m below meth c A hx hb hr hml hts hown hlocks hin hP hK hN hD hA hS ls hl
  have hown : s.vm.findClass RX5 = some m.cls := hown
  have hl : lv_has ls 4 [(0, .ref h0), (1, .int 0), (2, .int 0)] := hl
  refine lv_iload_n hx hb dX5_isNext_0 rfl (lv_at hl 1 rfl) ?_
  refine lv_sipush (v := 1024) hx hb dX5_isNext_1 (by decide) ?_
  refine lv_imul hx hb dX5_isNext_4 ?_
  refine lv_topi (fun z_1 ez_1 => ?_)
  obtain rfl : z_1 = 0 := ez_1.trans (by decide)
  refine lv_iload_n hx hb dX5_isNext_5 rfl (lv_at hl 2 rfl) ?_
  refine lv_iadd hx hb dX5_isNext_6 ?_
  refine lv_topi (fun z_2 ez_2 => ?_)
  obtain rfl : z_2 = 0 := ez_2.trans (by decide)
  refine lv_istore_n (lv' := [(3, .int 0), (0, .ref h0), (1, .int 0), (2, .int 0)]) hx hb dX5_isNext_7 rfl hl (by decide) rfl (fun ls hl => ?_)
  refine lv_aload_n hx hb dX5_isNext_8 rfl (lv_at hl 1 rfl) ?_
  refine lv_iload_n hx hb dX5_isNext_9 rfl (lv_at hl 2 rfl) ?_
  refine lv_iload_n hx hb dX5_isNext_10 rfl (lv_at hl 3 rfl) ?_
  refine kc_i (wr := []) (va_runV (As := [.int 0, .int 0]) (rest := []) ⟨hx, hb, hml, hown, hts⟩ (K213_X5_rightLength l D cB cI cZ _ h0 (g0) (g1) (g2) (g3)) (cwV 2 hts gX5_isNext_X5_rightLength rfl rfl rfl (by decide +kernel) ⟨Nat.le_of_ble_eq_true rfl, Nat.le_of_ble_eq_true rfl⟩) (pre_V (q := (RX5, TX5, 4)) (ci := 4) (q0 := 0) (hP.sub [0] rfl) hK hN (hD.sub [0] (by decide) rfl) rfl rfl) rfl rfl hl.1 rfl (lv_room (Nat.le_of_ble_eq_true rfl)) dX5_isNext_11 ⟨Nat.le_of_ble_eq_true rfl, Nat.le_of_ble_eq_true rfl⟩) hP hD hS hA [0] [] rfl rfl (by decide) (by decide) (fun r_3 u H locs hw hP hD hS => ?_)
  have k_4 := hw
  obtain rfl : r_3 = 0 := k_4
  have hP : va_P D vwCl [(h0, .inr (4, [g0, g1, g2, g3]))] H := hP
  have hD : va_D A [(h0, .inr (4, [g0, g1, g2, g3]))] := hD
  refine lv_if_le (tgt := 45) hx hb dX5_isNext_14 (by decide) (fun c => ?_) (fun c => absurd (by decide) c)
  refine lv_iconst (v := 0) hx hb dX5_isNext_45 (by decide) ?_
  exact kr_z () hx hb hr rfl hlocks hP hD hS rfl dX5_isNext_46
set_option maxHeartbeats 4000000 in
set_option maxRecDepth 100000 in
theorem K214_X5_hasNextHead (l : Launch) (D : va_G) (cB cI cZ : ClassId) (sz : Nat) (h0 : Nat) (h1 : Nat) (h2 : Nat)  (p0 : Int32) (g0 : Value) (g1 : Value) (g2 : Value) (g3 : Value) (g4 : Value) (g5 : Value) (g6 : Value) (i_p0 : 8 ≤ p0.toInt ∧ p0.toInt ≤ 63) :
    CtI l D cB cI cZ yX5_hasNextHead wsX5_hasNextHead { frames := 2, cells := 0, slots := 0, locals := 46 } [.ref h0, .int p0] [(h0, .inr (4, [.ref h1, g0, g1, g2])), (h1, .inr (1, [.ref h2, g3, g4, g5, g6])), (h2, .inl (cB, 65536, .inl zf))] sz 0 0
      (fun (r : Int32) (u : Unit) => r = 0)
      (fun u => [(h0, .inr (4, [.ref h1, g0, g1, g2])), (h1, .inr (1, [.ref h2, g3, g4, g5, g6])), (h2, .inl (cB, 65536, .inl zf))]) := by
  refine mk_metI (cc := cX5_hasNextHead) (maxL := 3) (ret := (some .boolean)) (by decide) rfl (Nat.le_of_ble_eq_true rfl) ?_
  intro p e s m below meth c A hx hb hr hml hts hown hlocks hin hP hK hN hD hA hS ls hl
  have hown : s.vm.findClass RX5 = some m.cls := hown
  have hl : lv_has ls 3 [(0, .ref h0), (1, .int p0)] := hl
  refine lv_iload_n hx hb dX5_hasNextHead_0 rfl (lv_at hl 1 rfl) ?_
  refine lv_sipush (v := 1024) hx hb dX5_hasNextHead_1 (by decide) ?_
  refine lv_imul hx hb dX5_hasNextHead_4 ?_
  refine lv_topi (fun x_1 ex_1 => ?_)
  have tx_1 : x_1.toInt = p0.toInt * 1024 := by rw [ex_1]; exact ti_mul rfl (by decide) (by omega) (by omega)
  refine lv_istore_n (lv' := [(2, .int x_1), (0, .ref h0), (1, .int p0)]) hx hb dX5_hasNextHead_5 rfl hl (by decide) rfl (fun ls hl => ?_)
  refine lv_aload_n hx hb dX5_hasNextHead_6 rfl (lv_at hl 1 rfl) ?_
  refine va_get (D := D) (ci := 4) (v := .ref h1) (C := RX5) (T := TX5) (N := 4) hx hb hts inX5_hasNextHead_X5 hown hK hP 0 rfl rfl 0 (by decide) (hts _ wdX5_hasNextHead_0) (fun _ h9 => h9) rfl dX5_hasNextHead_7 ?_
  refine va_getN (D := D) (ci := 1) (v := .ref h2) (C := RX1) (T := TX1) (N := 5) hx hb hts inX5_hasNextHead_X1 hown hK hP 1 rfl rfl 0 (by decide) (hN.f (a := "AgedLog$Recovery") (i := 116) (b := "AgedLog$Disk") (n := "row") (d := "[B") (by decide +kernel)) (fun _ h9 => h9) rfl dX5_hasNextHead_10 ?_
  refine lv_iload_n hx hb dX5_hasNextHead_13 rfl (lv_at hl 0 rfl) ?_
  refine lv_iconst (v := 1) hx hb dX5_hasNextHead_14 (by decide) ?_
  refine kc_i (wr := [(h0, .inr (4, [.ref h1, g0, g1, g2])), (h1, .inr (1, [.ref h2, g3, g4, g5, g6]))]) (va_runS (As := [.ref h2, .int x_1, .int 1]) (rest := []) ⟨hx, hb, hml, hown, hts⟩ (K206_X4_number l D cB cI cZ _ h2 x_1 ⟨by omega, by omega⟩) (va_cwS 3 hts gX5_hasNextHead_X4_number rfl rfl rfl (by decide +kernel) ⟨Nat.le_of_ble_eq_true rfl, Nat.le_of_ble_eq_true rfl⟩) (pre_S (hP.sub [2] rfl) hK hN (hD.sub [2] (by decide) rfl)) rfl rfl hl.1 rfl (lv_room (Nat.le_of_ble_eq_true rfl)) dX5_hasNextHead_15 ⟨Nat.le_of_ble_eq_true rfl, Nat.le_of_ble_eq_true rfl⟩) hP hD hS hA [2] [0, 1] rfl rfl (by decide) (by decide) (fun r_2 u H locs hw hP hD hS => ?_)
  have k_3 := hw
  obtain rfl : r_2 = 0 := k_3
  have hP : va_P D vwCl [(h0, .inr (4, [.ref h1, g0, g1, g2])), (h1, .inr (1, [.ref h2, g3, g4, g5, g6])), (h2, .inl (cB, 65536, .inl zf))] H := hP
  have hD : va_D A [(h0, .inr (4, [.ref h1, g0, g1, g2])), (h1, .inr (1, [.ref h2, g3, g4, g5, g6])), (h2, .inl (cB, 65536, .inl zf))] := hD
  refine lv_bipush (v := 76) hx hb dX5_hasNextHead_18 (by decide) ?_
  refine lv_icmp_ne (tgt := 85) hx hb dX5_hasNextHead_20 (by decide) (fun c => ?_) (fun c => absurd c (by decide))
  refine lv_iconst (v := 0) hx hb dX5_hasNextHead_85 (by decide) ?_
  exact kr_z () hx hb hr rfl hlocks hP hD hS rfl dX5_hasNextHead_86
set_option maxHeartbeats 4000000 in
set_option maxRecDepth 100000 in
theorem K211_X5_findNext (l : Launch) (D : va_G) (cB cI cZ : ClassId) (sz : Nat) (h0 : Nat) (h1 : Nat) (h2 : Nat) (h3 : Nat) (h4 : Nat)  (g0 : Value) (g1 : Value) (g2 : Value) (g3 : Value) (g4 : Value) (g5 : Value) (g6 : Value) (g7 : Value) (g8 : Value) (g9 : Value) (g10 : Value) (g11 : Value) (g12 : Value) (g13 : Value) (g14 : Value) (g15 : Value) (g16 : Value)  :
    CtI l D cB cI cZ yX5_findNext wsX5_findNext { frames := 3, cells := 0, slots := 0, locals := 69 } [.ref h0] [(h0, .inr (4, [.ref h1, .ref h2, g0, g1])), (h1, .inr (1, [.ref h3, g2, g3, g4, g5])), (h2, .inr (3, [g6, g7, .ref h4, g8, g9, g10, g11, g12, g13, .int 0, .int 0, g14, g15, g16])), (h3, .inl (cB, 65536, .inl zf)), (h4, .inl (cI, 64, .inl zf))] sz 0 0
      (fun (r : Int32) (u : Unit) => r = 0)
      (fun u => [(h1, .inr (1, [.ref h3, g2, g3, g4, g5])), (h2, .inr (3, [g6, g7, .ref h4, g8, g9, g10, g11, g12, g13, .int 0, .int 0, g14, g15, g16])), (h3, .inl (cB, 65536, .inl zf)), (h4, .inl (cI, 64, .inl zf)), (h0, .inr (4, [.ref h1, .ref h2, g0, g1]))]) := by
  refine mk_metI (cc := cX5_findNext) (maxL := 2) (ret := (some .boolean)) (by decide) rfl (Nat.le_of_ble_eq_true rfl) ?_
  intro p e s m below meth c A hx hb hr hml hts hown hlocks hin hP hK hN hD hA hS ls hl
  have hown : s.vm.findClass RX5 = some m.cls := hown
  have hl : lv_has ls 2 [(0, .ref h0)] := hl
  refine lv_aload_n hx hb dX5_findNext_0 rfl (lv_at hl 0 rfl) ?_
  refine lv_aload_n hx hb dX5_findNext_1 rfl (lv_at hl 0 rfl) ?_
  refine va_get (D := D) (ci := 4) (v := .ref h2) (C := RX5) (T := TX5) (N := 4) hx hb hts inX5_findNext_X5 hown hK hP 0 rfl rfl 1 (by decide) (hts _ wdX5_findNext_0) (fun _ h9 => h9) rfl dX5_findNext_2 ?_
  refine va_getN (D := D) (ci := 3) (v := .int 0) (C := RX3) (T := TX3) (N := 14) hx hb hts inX5_findNext_X3 hown hK hP 2 rfl rfl 9 (by decide) (hN.f (a := "AgedLog$Recovery") (i := 89) (b := "AgedLog$Log") (n := "open") (d := "I") (by decide +kernel)) (fun _ h9 => h9) rfl dX5_findNext_5 ?_
  refine lv_aload_n hx hb dX5_findNext_8 rfl (lv_at hl 0 rfl) ?_
  refine va_get (D := D) (ci := 4) (v := .ref h2) (C := RX5) (T := TX5) (N := 4) hx hb hts inX5_findNext_X5 hown hK hP 0 rfl rfl 1 (by decide) (hts _ wdX5_findNext_0) (fun _ h9 => h9) rfl dX5_findNext_9 ?_
  refine va_getN (D := D) (ci := 3) (v := .int 0) (C := RX3) (T := TX3) (N := 14) hx hb hts inX5_findNext_X3 hown hK hP 2 rfl rfl 10 (by decide) (hN.f (a := "AgedLog$Recovery") (i := 93) (b := "AgedLog$Log") (n := "place") (d := "I") (by decide +kernel)) (fun _ h9 => h9) rfl dX5_findNext_12 ?_
  refine kc_i (wr := [(h1, .inr (1, [.ref h3, g2, g3, g4, g5])), (h2, .inr (3, [g6, g7, .ref h4, g8, g9, g10, g11, g12, g13, .int 0, .int 0, g14, g15, g16])), (h3, .inl (cB, 65536, .inl zf)), (h4, .inl (cI, 64, .inl zf))]) (va_runV (As := [.int 0, .int 0]) (rest := []) ⟨hx, hb, hml, hown, hts⟩ (K212_X5_isNext l D cB cI cZ _ h0 ((.ref h1)) ((.ref h2)) (g0) (g1)) (cwV 2 hts gX5_findNext_X5_isNext rfl rfl rfl (by decide +kernel) ⟨Nat.le_of_ble_eq_true rfl, Nat.le_of_ble_eq_true rfl⟩) (pre_V (q := (RX5, TX5, 4)) (ci := 4) (q0 := 0) (hP.sub [0] rfl) hK hN (hD.sub [0] (by decide) rfl) rfl rfl) rfl rfl hl.1 rfl (lv_room (Nat.le_of_ble_eq_true rfl)) dX5_findNext_15 ⟨Nat.le_of_ble_eq_true rfl, Nat.le_of_ble_eq_true rfl⟩) hP hD hS hA [0] [1, 2, 3, 4] rfl rfl (by decide) (by decide) (fun r_1 u H locs hw hP hD hS => ?_)
  have k_2 := hw
  obtain rfl : r_1 = 0 := k_2
  have hP : va_P D vwCl [(h1, .inr (1, [.ref h3, g2, g3, g4, g5])), (h2, .inr (3, [g6, g7, .ref h4, g8, g9, g10, g11, g12, g13, .int 0, .int 0, g14, g15, g16])), (h3, .inl (cB, 65536, .inl zf)), (h4, .inl (cI, 64, .inl zf)), (h0, .inr (4, [.ref h1, .ref h2, g0, g1]))] H := hP
  have hD : va_D A [(h1, .inr (1, [.ref h3, g2, g3, g4, g5])), (h2, .inr (3, [g6, g7, .ref h4, g8, g9, g10, g11, g12, g13, .int 0, .int 0, g14, g15, g16])), (h3, .inl (cB, 65536, .inl zf)), (h4, .inl (cI, 64, .inl zf)), (h0, .inr (4, [.ref h1, .ref h2, g0, g1]))] := hD
  refine lv_if_eq (tgt := 23) hx hb dX5_findNext_18 (by decide) (fun c => ?_) (fun c => absurd (by decide) c)
  refine lv_bipush (v := 8) hx hb dX5_findNext_23 (by decide) ?_
  refine lv_istore_n (lv' := [(1, .int 8), (0, .ref h0)]) hx hb dX5_findNext_25 rfl hl (by decide) rfl (fun ls hl => ?_)
  refine kl (α := Int32) (fun n a H locs ls => (8 ≤ Int32.toInt a) ∧ (Int32.toInt a ≤ 64) ∧ (64 - Int32.toInt a < ((n : Nat) : Int)) ∧ va_P D vwCl [(h1, .inr (1, [.ref h3, g2, g3, g4, g5])), (h2, .inr (3, [g6, g7, .ref h4, g8, g9, g10, g11, g12, g13, .int 0, .int 0, g14, g15, g16])), (h3, .inl (cB, 65536, .inl zf)), (h4, .inl (cI, 64, .inl zf)), (h0, .inr (4, [.ref h1, .ref h2, g0, g1]))] H ∧ va_D A [(h1, .inr (1, [.ref h3, g2, g3, g4, g5])), (h2, .inr (3, [g6, g7, .ref h4, g8, g9, g10, g11, g12, g13, .int 0, .int 0, g14, g15, g16])), (h3, .inl (cB, 65536, .inl zf)), (h4, .inl (cI, 64, .inl zf)), (h0, .inr (4, [.ref h1, .ref h2, g0, g1]))] ∧ va_S A s.heap H locs ∧ lv_has ls 2 [(1, .int a), (0, .ref h0)]) 57 8 ⟨(by show 8 ≤ Int32.toInt 8; decide), (by show Int32.toInt 8 ≤ 64; decide), (by show 64 - Int32.toInt 8 < ((57 : Nat) : Int); have := (by decide : Int32.toInt 8 = 8); omega), hP, hD, hS, hl⟩ (fun a H locs ls h => ?_) (fun n_4 ih_5 a H locs ls h => ?_)
  · obtain ⟨j_6, j_7, j_8, _⟩ := h
    omega
  obtain ⟨v_3, rfl⟩ : ∃ z, z = a := ⟨_, rfl⟩
  obtain ⟨j_6, j_7, j_8, hP, hD, hS, hl⟩ := h
  have j_6 : 8 ≤ Int32.toInt v_3 := j_6
  have j_7 : Int32.toInt v_3 ≤ 64 := j_7
  have j_8 : 64 - Int32.toInt v_3 < ((n_4 + 1 : Nat) : Int) := j_8
  have hP : va_P D vwCl [(h1, .inr (1, [.ref h3, g2, g3, g4, g5])), (h2, .inr (3, [g6, g7, .ref h4, g8, g9, g10, g11, g12, g13, .int 0, .int 0, g14, g15, g16])), (h3, .inl (cB, 65536, .inl zf)), (h4, .inl (cI, 64, .inl zf)), (h0, .inr (4, [.ref h1, .ref h2, g0, g1]))] H := hP
  have hD : va_D A [(h1, .inr (1, [.ref h3, g2, g3, g4, g5])), (h2, .inr (3, [g6, g7, .ref h4, g8, g9, g10, g11, g12, g13, .int 0, .int 0, g14, g15, g16])), (h3, .inl (cB, 65536, .inl zf)), (h4, .inl (cI, 64, .inl zf)), (h0, .inr (4, [.ref h1, .ref h2, g0, g1]))] := hD
  have hl : lv_has ls 2 [(1, .int v_3), (0, .ref h0)] := hl
  refine lv_iload_n hx hb dX5_findNext_26 rfl (lv_at hl 0 rfl) ?_
  refine lv_bipush (v := 64) hx hb dX5_findNext_27 (by decide) ?_
  refine lv_icmp_ge (tgt := 107) hx hb dX5_findNext_29 (by decide) (fun c => ?_) (fun c => ?_)
  · skip
    have k_9 := (ti_le (x := 64) (y := v_3) (a := 64) (b := v_3.toInt) (by decide) rfl).mp c
    obtain rfl : v_3 = 64 := ti_inj (a := 64) (by decide) (by omega)
    refine lv_iconst (v := 0) hx hb dX5_findNext_107 (by decide) ?_
    exact kr_z () hx hb hr rfl hlocks hP hD hS rfl dX5_findNext_108
  · skip
    have k_10 := mt (ti_le (x := 64) (y := v_3) (a := 64) (b := v_3.toInt) (by decide) rfl).mpr c
    refine lv_aload_n hx hb dX5_findNext_32 rfl (lv_at hl 1 rfl) ?_
    refine va_get (D := D) (ci := 4) (v := .ref h2) (C := RX5) (T := TX5) (N := 4) hx hb hts inX5_findNext_X5 hown hK hP 4 rfl rfl 1 (by decide) (hts _ wdX5_findNext_0) (fun _ h9 => h9) rfl dX5_findNext_33 ?_
    refine lv_iload_n hx hb dX5_findNext_36 rfl (lv_at hl 0 rfl) ?_
    refine kc_i (wr := [(h1, .inr (1, [.ref h3, g2, g3, g4, g5])), (h3, .inl (cB, 65536, .inl zf)), (h0, .inr (4, [.ref h1, .ref h2, g0, g1]))]) (va_runV (As := [.int v_3]) (rest := []) ⟨hx, hb, hml, hown, hts⟩ (K132_X3_isUsed l D cB cI cZ _ h2 h4 v_3 (g6) (g7) (g8) (g9) (g10) (g11) (g12) (g13) ((.int 0)) ((.int 0)) (g14) (g15) (g16) ⟨by omega, by omega⟩) (cwV 1 hts gX5_findNext_X3_isUsed rfl rfl rfl (by decide +kernel) ⟨Nat.le_of_ble_eq_true rfl, Nat.le_of_ble_eq_true rfl⟩) (pre_V (q := (RX3, TX3, 14)) (ci := 3) (q0 := 0) (hP.sub [1, 3] rfl) hK hN (hD.sub [1, 3] (by decide) rfl) rfl rfl) rfl rfl hl.1 rfl (lv_room (Nat.le_of_ble_eq_true rfl)) dX5_findNext_37 ⟨Nat.le_of_ble_eq_true rfl, Nat.le_of_ble_eq_true rfl⟩) hP hD hS hA [1, 3] [0, 2, 4] rfl rfl (by decide) (by decide) (fun r_11 u H locs hw hP hD hS => ?_)
    have k_12 := hw
    obtain rfl : r_11 = 0 := k_12
    have hP : va_P D vwCl [(h1, .inr (1, [.ref h3, g2, g3, g4, g5])), (h3, .inl (cB, 65536, .inl zf)), (h0, .inr (4, [.ref h1, .ref h2, g0, g1])), (h2, .inr (3, [g6, g7, .ref h4, g8, g9, g10, g11, g12, g13, .int 0, .int 0, g14, g15, g16])), (h4, .inl (cI, 64, .inl zf))] H := hP
    have hD : va_D A [(h1, .inr (1, [.ref h3, g2, g3, g4, g5])), (h3, .inl (cB, 65536, .inl zf)), (h0, .inr (4, [.ref h1, .ref h2, g0, g1])), (h2, .inr (3, [g6, g7, .ref h4, g8, g9, g10, g11, g12, g13, .int 0, .int 0, g14, g15, g16])), (h4, .inl (cI, 64, .inl zf))] := hD
    refine lv_if_ne (tgt := 101) hx hb dX5_findNext_40 (by decide) (fun c => absurd (by decide) c) (fun c => ?_)
    refine lv_aload_n hx hb dX5_findNext_43 rfl (lv_at hl 1 rfl) ?_
    refine lv_iload_n hx hb dX5_findNext_44 rfl (lv_at hl 0 rfl) ?_
    refine kc_i (wr := [(h2, .inr (3, [g6, g7, .ref h4, g8, g9, g10, g11, g12, g13, .int 0, .int 0, g14, g15, g16])), (h4, .inl (cI, 64, .inl zf))]) (va_runV (As := [.int v_3]) (rest := []) ⟨hx, hb, hml, hown, hts⟩ (K214_X5_hasNextHead l D cB cI cZ _ h0 h1 h3 v_3 ((.ref h2)) (g0) (g1) (g2) (g3) (g4) (g5) ⟨by omega, by omega⟩) (cwV 1 hts gX5_findNext_X5_hasNextHead rfl rfl rfl (by decide +kernel) ⟨Nat.le_of_ble_eq_true rfl, Nat.le_of_ble_eq_true rfl⟩) (pre_V (q := (RX5, TX5, 4)) (ci := 4) (q0 := 0) (hP.sub [2, 0, 1] rfl) hK hN (hD.sub [2, 0, 1] (by decide) rfl) rfl rfl) rfl rfl hl.1 rfl (lv_room (Nat.le_of_ble_eq_true rfl)) dX5_findNext_45 ⟨Nat.le_of_ble_eq_true rfl, Nat.le_of_ble_eq_true rfl⟩) hP hD hS hA [2, 0, 1] [3, 4] rfl rfl (by decide) (by decide) (fun r_13 u H locs hw hP hD hS => ?_)
    have k_14 := hw
    obtain rfl : r_13 = 0 := k_14
    have hP : va_P D vwCl [(h2, .inr (3, [g6, g7, .ref h4, g8, g9, g10, g11, g12, g13, .int 0, .int 0, g14, g15, g16])), (h4, .inl (cI, 64, .inl zf)), (h0, .inr (4, [.ref h1, .ref h2, g0, g1])), (h1, .inr (1, [.ref h3, g2, g3, g4, g5])), (h3, .inl (cB, 65536, .inl zf))] H := hP
    have hD : va_D A [(h2, .inr (3, [g6, g7, .ref h4, g8, g9, g10, g11, g12, g13, .int 0, .int 0, g14, g15, g16])), (h4, .inl (cI, 64, .inl zf)), (h0, .inr (4, [.ref h1, .ref h2, g0, g1])), (h1, .inr (1, [.ref h3, g2, g3, g4, g5])), (h3, .inl (cB, 65536, .inl zf))] := hD
    refine lv_if_eq (tgt := 101) hx hb dX5_findNext_48 (by decide) (fun c => ?_) (fun c => absurd (by decide) c)
    obtain ⟨x_15, ex_15⟩ : ∃ y : Int32, y = v_3 + 1 := ⟨_, rfl⟩
    have tx_15 : x_15.toInt = v_3.toInt + 1 := by rw [ex_15]; exact ti_add rfl (by decide) (by omega) (by omega)
    refine lv_iinc (v := x_15) (lv' := [(1, .int x_15), (0, .ref h0)]) hx hb dX5_findNext_101 hl (k := 0) rfl (by rw [ex_15]; rfl) (by decide) rfl (fun ls hl => ?_)
    refine lv_goto (tgt := 26) hx hb dX5_findNext_104 (by decide) ?_
    exact ih_5 x_15 _ _ _ ⟨(by show 8 ≤ Int32.toInt x_15; omega), (by show Int32.toInt x_15 ≤ 64; omega), (by show 64 - Int32.toInt x_15 < ((n_4 : Nat) : Int); omega), (hP.sub [3, 0, 4, 1, 2] rfl), (hD.sub [3, 0, 4, 1, 2] (by decide) rfl), hS, hl⟩
set_option maxHeartbeats 4000000 in
set_option maxRecDepth 100000 in
theorem K210_X5_goThrough (l : Launch) (D : va_G) (cB cI cZ : ClassId) (sz : Nat) (h0 : Nat) (h1 : Nat) (h2 : Nat) (h3 : Nat) (h4 : Nat)  (g0 : Value) (g1 : Value) (g2 : Value) (g3 : Value) (g4 : Value) (g5 : Value) (g6 : Value) (g7 : Value) (g8 : Value) (g9 : Value) (g10 : Value) (g11 : Value) (g12 : Value) (g13 : Value) (g14 : Value) (g15 : Value) (g16 : Value)  :
    CtI l D cB cI cZ yX5_goThrough wsX5_goThrough { frames := 4, cells := 0, slots := 0, locals := 90 } [.ref h0] [(h0, .inr (4, [.ref h1, .ref h2, g0, g1])), (h1, .inr (1, [.ref h3, g2, g3, g4, g5])), (h2, .inr (3, [g6, g7, .ref h4, g8, g9, g10, g11, g12, g13, .int 0, .int 0, g14, g15, g16])), (h3, .inl (cB, 65536, .inl zf)), (h4, .inl (cI, 64, .inl zf))] sz 0 0
      (fun (r : Int32) (u : Unit) => r = 0)
      (fun u => [(h1, .inr (1, [.ref h3, g2, g3, g4, g5])), (h2, .inr (3, [g6, g7, .ref h4, g8, g9, g10, g11, g12, g13, .int 0, .int 0, g14, g15, g16])), (h3, .inl (cB, 65536, .inl zf)), (h4, .inl (cI, 64, .inl zf)), (h0, .inr (4, [.ref h1, .ref h2, g0, g1]))]) := by
  refine mk_metI (cc := cX5_goThrough) (maxL := 2) (ret := (some .int)) (by decide) rfl (Nat.le_of_ble_eq_true rfl) ?_
  intro p e s m below meth c A hx hb hr hml hts hown hlocks hin hP hK hN hD hA hS ls hl
  have hown : s.vm.findClass RX5 = some m.cls := hown
  have hl : lv_has ls 2 [(0, .ref h0)] := hl
  refine lv_iconst (v := 0) hx hb dX5_goThrough_0 (by decide) ?_
  refine lv_istore_n (lv' := [(1, .int 0), (0, .ref h0)]) hx hb dX5_goThrough_1 rfl hl (by decide) rfl (fun ls hl => ?_)
  refine lv_iload_n hx hb dX5_goThrough_2 rfl (lv_at hl 0 rfl) ?_
  refine lv_sipush (v := 4096) hx hb dX5_goThrough_3 (by decide) ?_
  refine lv_icmp_ge (tgt := 26) hx hb dX5_goThrough_6 (by decide) (fun c => absurd c (by decide)) (fun c => ?_)
  refine lv_aload_n hx hb dX5_goThrough_9 rfl (lv_at hl 1 rfl) ?_
  refine kc_i (wr := []) (va_runV (As := []) (rest := []) ⟨hx, hb, hml, hown, hts⟩ (K211_X5_findNext l D cB cI cZ _ h0 h1 h2 h3 h4 (g0) (g1) (g2) (g3) (g4) (g5) (g6) (g7) (g8) (g9) (g10) (g11) (g12) (g13) (g14) (g15) (g16)) (cwV 0 hts gX5_goThrough_X5_findNext rfl rfl rfl (by decide +kernel) ⟨Nat.le_of_ble_eq_true rfl, Nat.le_of_ble_eq_true rfl⟩) (pre_V (q := (RX5, TX5, 4)) (ci := 4) (q0 := 0) (hP.sub [0, 1, 2, 3, 4] rfl) hK hN (hD.sub [0, 1, 2, 3, 4] (by decide) rfl) rfl rfl) rfl rfl hl.1 rfl (lv_room (Nat.le_of_ble_eq_true rfl)) dX5_goThrough_10 ⟨Nat.le_of_ble_eq_true rfl, Nat.le_of_ble_eq_true rfl⟩) hP hD hS hA [0, 1, 2, 3, 4] [] rfl rfl (by decide) (by decide) (fun r_1 u H locs hw hP hD hS => ?_)
  have k_2 := hw
  obtain rfl : r_1 = 0 := k_2
  have hP : va_P D vwCl [(h1, .inr (1, [.ref h3, g2, g3, g4, g5])), (h2, .inr (3, [g6, g7, .ref h4, g8, g9, g10, g11, g12, g13, .int 0, .int 0, g14, g15, g16])), (h3, .inl (cB, 65536, .inl zf)), (h4, .inl (cI, 64, .inl zf)), (h0, .inr (4, [.ref h1, .ref h2, g0, g1]))] H := hP
  have hD : va_D A [(h1, .inr (1, [.ref h3, g2, g3, g4, g5])), (h2, .inr (3, [g6, g7, .ref h4, g8, g9, g10, g11, g12, g13, .int 0, .int 0, g14, g15, g16])), (h3, .inl (cB, 65536, .inl zf)), (h4, .inl (cI, 64, .inl zf)), (h0, .inr (4, [.ref h1, .ref h2, g0, g1]))] := hD
  refine lv_if_eq (tgt := 26) hx hb dX5_goThrough_13 (by decide) (fun c => ?_) (fun c => absurd (by decide) c)
  refine lv_iload_n hx hb dX5_goThrough_26 rfl (lv_at hl 0 rfl) ?_
  exact kr_i () hx hb hr hlocks hP hD hS rfl dX5_goThrough_27
set_option maxHeartbeats 4000000 in
set_option maxRecDepth 100000 in
theorem K216_X3_loadMemory (l : Launch) (D : va_G) (cB cI cZ : ClassId) (sz : Nat) (h0 : Nat) (h2 : Nat) (h1 : Nat) (g0 : Value) (g1 : Value) (g2 : Value) (g3 : Value) (g4 : Value) (g5 : Value) (g6 : Value) (g7 : Value) (g8 : Value) (g9 : Value) (g10 : Value) (g11 : Value)  :
    CtV l D cB cI cZ yX3_loadMemory wsX3_loadMemory { frames := 2, cells := 0, slots := 0, locals := 41 } [.ref h0, .ref h1] [(h0, .inr (3, [g0, g1, .ref h2, g2, g3, g4, g5, g6, g7, .int 0, g8, g9, g10, g11])), (h2, .inl (cI, 64, .inl zf))] sz 0 0
      (fun (u : Unit) => True)
      (fun u => [(h0, .inr (3, [g0, g1, .ref h2, g2, g3, g4, g5, g6, g7, .int 0, g8, g9, g10, g11])), (h2, .inl (cI, 64, .inl zf))]) := by
  refine mk_metV (cc := cX3_loadMemory) (maxL := 4) (ret := none) (by decide) rfl (Nat.le_of_ble_eq_true rfl) ?_
  intro p e s m below meth c A hx hb hr hml hts hown hlocks hin hP hK hN hD hA hS ls hl
  have hown : s.vm.findClass RX3 = some m.cls := hown
  have hl : lv_has ls 4 [(0, .ref h0), (1, .ref h1)] := hl
  refine lv_bipush (v := 8) hx hb dX3_loadMemory_0 (by decide) ?_
  refine lv_istore_n (lv' := [(2, .int 8), (0, .ref h0), (1, .ref h1)]) hx hb dX3_loadMemory_2 rfl hl (by decide) rfl (fun ls hl => ?_)
  refine kl (α := Int32) (fun n a H locs ls => (8 ≤ Int32.toInt a) ∧ (Int32.toInt a ≤ 64) ∧ (64 - Int32.toInt a < ((n : Nat) : Int)) ∧ va_P D vwCl [(h0, .inr (3, [g0, g1, .ref h2, g2, g3, g4, g5, g6, g7, .int 0, g8, g9, g10, g11])), (h2, .inl (cI, 64, .inl zf))] H ∧ va_D A [(h0, .inr (3, [g0, g1, .ref h2, g2, g3, g4, g5, g6, g7, .int 0, g8, g9, g10, g11])), (h2, .inl (cI, 64, .inl zf))] ∧ va_S A s.heap H locs ∧ lv_has ls 4 [(2, .int a), (0, .ref h0), (1, .ref h1)]) 57 8 ⟨(by show 8 ≤ Int32.toInt 8; decide), (by show Int32.toInt 8 ≤ 64; decide), (by show 64 - Int32.toInt 8 < ((57 : Nat) : Int); have := (by decide : Int32.toInt 8 = 8); omega), hP, hD, hS, hl⟩ (fun a H locs ls h => ?_) (fun n_2 ih_3 a H locs ls h => ?_)
  · obtain ⟨j_4, j_5, j_6, _⟩ := h
    omega
  obtain ⟨v_1, rfl⟩ : ∃ z, z = a := ⟨_, rfl⟩
  obtain ⟨j_4, j_5, j_6, hP, hD, hS, hl⟩ := h
  have j_4 : 8 ≤ Int32.toInt v_1 := j_4
  have j_5 : Int32.toInt v_1 ≤ 64 := j_5
  have j_6 : 64 - Int32.toInt v_1 < ((n_2 + 1 : Nat) : Int) := j_6
  have hP : va_P D vwCl [(h0, .inr (3, [g0, g1, .ref h2, g2, g3, g4, g5, g6, g7, .int 0, g8, g9, g10, g11])), (h2, .inl (cI, 64, .inl zf))] H := hP
  have hD : va_D A [(h0, .inr (3, [g0, g1, .ref h2, g2, g3, g4, g5, g6, g7, .int 0, g8, g9, g10, g11])), (h2, .inl (cI, 64, .inl zf))] := hD
  have hl : lv_has ls 4 [(2, .int v_1), (0, .ref h0), (1, .ref h1)] := hl
  refine lv_iload_n hx hb dX3_loadMemory_3 rfl (lv_at hl 0 rfl) ?_
  refine lv_bipush (v := 64) hx hb dX3_loadMemory_4 (by decide) ?_
  refine lv_icmp_ge (tgt := 45) hx hb dX3_loadMemory_6 (by decide) (fun c => ?_) (fun c => ?_)
  · skip
    have k_7 := (ti_le (x := 64) (y := v_1) (a := 64) (b := v_1.toInt) (by decide) rfl).mp c
    obtain rfl : v_1 = 64 := ti_inj (a := 64) (by decide) (by omega)
    refine lv_aload_n hx hb dX3_loadMemory_45 rfl (lv_at hl 1 rfl) ?_
    refine va_get (D := D) (ci := 3) (v := .int 0) (C := RX3) (T := TX3) (N := 14) hx hb hts inX3_loadMemory_X3 hown hK hP 0 rfl rfl 9 (by decide) (hts _ wdX3_loadMemory_0) (fun _ h9 => h9) rfl dX3_loadMemory_46 ?_
    refine lv_if_eq (tgt := 80) hx hb dX3_loadMemory_49 (by decide) (fun c => ?_) (fun c => absurd (by decide) c)
    exact kr_v () hx hb hr hlocks hP hD hS trivial dX3_loadMemory_80
  · skip
    have k_8 := mt (ti_le (x := 64) (y := v_1) (a := 64) (b := v_1.toInt) (by decide) rfl).mpr c
    refine lv_iload_n hx hb dX3_loadMemory_9 rfl (lv_at hl 0 rfl) ?_
    refine lv_sipush (v := 1024) hx hb dX3_loadMemory_10 (by decide) ?_
    refine lv_imul hx hb dX3_loadMemory_13 ?_
    refine lv_topi (fun x_9 ex_9 => ?_)
    have tx_9 : x_9.toInt = v_1.toInt * 1024 := by rw [ex_9]; exact ti_mul rfl (by decide) (by omega) (by omega)
    refine lv_istore_n (lv' := [(3, .int x_9), (2, .int v_1), (0, .ref h0), (1, .ref h1)]) hx hb dX3_loadMemory_14 rfl hl (by decide) rfl (fun ls hl => ?_)
    refine lv_aload_n hx hb dX3_loadMemory_15 rfl (lv_at hl 2 rfl) ?_
    refine lv_iload_n hx hb dX3_loadMemory_16 rfl (lv_at hl 1 rfl) ?_
    refine kc_i (wr := []) (va_runV (As := [.int v_1]) (rest := []) ⟨hx, hb, hml, hown, hts⟩ (K132_X3_isUsed l D cB cI cZ _ h0 h2 v_1 (g0) (g1) (g2) (g3) (g4) (g5) (g6) (g7) ((.int 0)) (g8) (g9) (g10) (g11) ⟨by omega, by omega⟩) (cwV 1 hts gX3_loadMemory_X3_isUsed rfl rfl rfl (by decide +kernel) ⟨Nat.le_of_ble_eq_true rfl, Nat.le_of_ble_eq_true rfl⟩) (pre_V (q := (RX3, TX3, 14)) (ci := 3) (q0 := 0) (hP.sub [0, 1] rfl) hK hN (hD.sub [0, 1] (by decide) rfl) rfl rfl) rfl rfl hl.1 rfl (lv_room (Nat.le_of_ble_eq_true rfl)) dX3_loadMemory_17 ⟨Nat.le_of_ble_eq_true rfl, Nat.le_of_ble_eq_true rfl⟩) hP hD hS hA [0, 1] [] rfl rfl (by decide) (by decide) (fun r_10 u H locs hw hP hD hS => ?_)
    have k_11 := hw
    obtain rfl : r_10 = 0 := k_11
    have hP : va_P D vwCl [(h0, .inr (3, [g0, g1, .ref h2, g2, g3, g4, g5, g6, g7, .int 0, g8, g9, g10, g11])), (h2, .inl (cI, 64, .inl zf))] H := hP
    have hD : va_D A [(h0, .inr (3, [g0, g1, .ref h2, g2, g3, g4, g5, g6, g7, .int 0, g8, g9, g10, g11])), (h2, .inl (cI, 64, .inl zf))] := hD
    refine lv_if_eq (tgt := 39) hx hb dX3_loadMemory_20 (by decide) (fun c => ?_) (fun c => absurd (by decide) c)
    obtain ⟨x_12, ex_12⟩ : ∃ y : Int32, y = v_1 + 1 := ⟨_, rfl⟩
    have tx_12 : x_12.toInt = v_1.toInt + 1 := by rw [ex_12]; exact ti_add rfl (by decide) (by omega) (by omega)
    refine lv_iinc (v := x_12) (lv' := [(2, .int x_12), (3, .int x_9), (0, .ref h0), (1, .ref h1)]) hx hb dX3_loadMemory_39 hl (k := 1) rfl (by rw [ex_12]; rfl) (by decide) rfl (fun ls hl => ?_)
    refine lv_goto (tgt := 3) hx hb dX3_loadMemory_42 (by decide) ?_
    exact ih_3 x_12 _ _ _ ⟨(by show 8 ≤ Int32.toInt x_12; omega), (by show Int32.toInt x_12 ≤ 64; omega), (by show 64 - Int32.toInt x_12 < ((n_2 : Nat) : Int); omega), hP, hD, hS, (lv_sub hl [0, 2, 3] rfl)⟩
set_option maxHeartbeats 4000000 in
set_option maxRecDepth 100000 in
theorem K217_X3_forgetTimes (l : Launch) (D : va_G) (cB cI cZ : ClassId) (sz : Nat) (h0 : Nat) (h1 : Nat)  (p0 : Int32) (g0 : Value) (g1 : Value) (g2 : Value) (g3 : Value) (g4 : Value) (g5 : Value) (g6 : Value) (g7 : Value) (g8 : Value) (g9 : Value) (g10 : Value) (g11 : Value) (g12 : Value) (i_p0 : 8 ≤ p0.toInt ∧ p0.toInt ≤ 63) :
    CtV l D cB cI cZ yX3_forgetTimes wsX3_forgetTimes { frames := 1, cells := 0, slots := 0, locals := 20 } [.ref h0, .int p0] [(h0, .inr (3, [g0, g1, g2, .ref h1, g3, g4, g5, g6, g7, g8, g9, g10, g11, g12])), (h1, .inl (cZ, 64, .inl zf))] sz 0 0
      (fun (u : Unit) => True)
      (fun u => [(h0, .inr (3, [g0, g1, g2, .ref h1, g3, g4, g5, g6, g7, g8, g9, g10, g11, g12])), (h1, .inl (cZ, 64, .inl zf))]) := by
  refine mk_metV (cc := cX3_forgetTimes) (maxL := 2) (ret := none) (by decide) rfl (Nat.le_of_ble_eq_true rfl) ?_
  intro p e s m below meth c A hx hb hr hml hts hown hlocks hin hP hK hN hD hA hS ls hl
  have hown : s.vm.findClass RX3 = some m.cls := hown
  have hl : lv_has ls 2 [(0, .ref h0), (1, .int p0)] := hl
  refine lv_iload_n hx hb dX3_forgetTimes_0 rfl (lv_at hl 1 rfl) ?_
  refine kc_i (wr := [(h0, .inr (3, [g0, g1, g2, .ref h1, g3, g4, g5, g6, g7, g8, g9, g10, g11, g12])), (h1, .inl (cZ, 64, .inl zf))]) (va_runSN (As := [.int p0]) (rest := []) ⟨hx, hb, hml, hown, hts⟩ (K133_X7_isOfLog l D cB cI cZ _ p0 ⟨by omega, by omega⟩) ⟨va_cnB 1 hts gX3_forgetTimes_X7_isOfLog_n65 rfl rfl rfl (hN.m (a := RX3) (i := 65) (y := yX7_isOfLog) (by decide +kernel)) (hts _ wdX3_forgetTimes_0) (by decide +kernel) ⟨Nat.le_of_ble_eq_true rfl, Nat.le_of_ble_eq_true rfl⟩, hts _ wdX3_forgetTimes_1, trivial⟩ (pre_S (hP.sub [] rfl) hK hN (hD.sub [] (by decide) rfl)) rfl rfl hl.1 rfl (lv_room (Nat.le_of_ble_eq_true rfl)) dX3_forgetTimes_1 ⟨Nat.le_of_ble_eq_true rfl, Nat.le_of_ble_eq_true rfl⟩) hP hD hS hA [] [0, 1] rfl rfl (by decide) (by decide) (fun r_1 u H locs hw hP hD hS => ?_)
  have k_2 := hw
  obtain rfl : r_1 = 1 := k_2
  have hP : va_P D vwCl [(h0, .inr (3, [g0, g1, g2, .ref h1, g3, g4, g5, g6, g7, g8, g9, g10, g11, g12])), (h1, .inl (cZ, 64, .inl zf))] H := hP
  have hD : va_D A [(h0, .inr (3, [g0, g1, g2, .ref h1, g3, g4, g5, g6, g7, g8, g9, g10, g11, g12])), (h1, .inl (cZ, 64, .inl zf))] := hD
  refine lv_if_eq (tgt := 14) hx hb dX3_forgetTimes_4 (by decide) (fun c => absurd c (by decide)) (fun c => ?_)
  refine lv_aload_n hx hb dX3_forgetTimes_7 rfl (lv_at hl 0 rfl) ?_
  refine va_get (D := D) (ci := 3) (v := .ref h1) (C := RX3) (T := TX3) (N := 14) hx hb hts inX3_forgetTimes_X3 hown hK hP 0 rfl rfl 3 (by decide) (hts _ wdX3_forgetTimes_2) (fun _ h9 => h9) rfl dX3_forgetTimes_8 ?_
  refine lv_iload_n hx hb dX3_forgetTimes_11 rfl (lv_at hl 1 rfl) ?_
  refine lv_iconst (v := 0) hx hb dX3_forgetTimes_12 (by decide) ?_
  refine va_zast hx hb hK hP hD hS 1 2 rfl rfl (ti_in (a := p0.toInt) rfl (by omega) (by omega)) dX3_forgetTimes_13 (fun H locs hP hD hS => ?_)
  rw [zf_updZ] at hP hD
  have hP : va_P D vwCl [(h0, .inr (3, [g0, g1, g2, .ref h1, g3, g4, g5, g6, g7, g8, g9, g10, g11, g12])), (h1, .inl (cZ, 64, .inl zf))] H := hP
  have hD : va_D A [(h0, .inr (3, [g0, g1, g2, .ref h1, g3, g4, g5, g6, g7, g8, g9, g10, g11, g12])), (h1, .inl (cZ, 64, .inl zf))] := hD
  exact kr_v () hx hb hr hlocks hP hD hS trivial dX3_forgetTimes_14
set_option maxHeartbeats 4000000 in
set_option maxRecDepth 100000 in
theorem K215_X5_fillMemory (l : Launch) (D : va_G) (cB cI cZ : ClassId) (sz : Nat) (h0 : Nat) (h2 : Nat) (h3 : Nat) (h4 : Nat) (h1 : Nat) (g0 : Value) (g1 : Value) (g2 : Value) (g3 : Value) (g4 : Value) (g5 : Value) (g6 : Value) (g7 : Value) (g8 : Value) (g9 : Value) (g10 : Value) (g11 : Value) (g12 : Value)  :
    CtV l D cB cI cZ yX5_fillMemory wsX5_fillMemory { frames := 3, cells := 0, slots := 0, locals := 64 } [.ref h0] [(h0, .inr (4, [.ref h1, .ref h2, g0, g1])), (h2, .inr (3, [g2, g3, .ref h3, .ref h4, g4, g5, g6, g7, g8, .int 0, g9, g10, g11, g12])), (h3, .inl (cI, 64, .inl zf)), (h4, .inl (cZ, 64, .inl zf))] sz 0 0
      (fun (u : Unit) => True)
      (fun u => [(h0, .inr (4, [.ref h1, .ref h2, g0, g1])), (h4, .inl (cZ, 64, .inl zf)), (h2, .inr (3, [g2, g3, .ref h3, .ref h4, g4, g5, g6, g7, g8, .int 0, g9, g10, g11, g12])), (h3, .inl (cI, 64, .inl zf))]) := by
  refine mk_metV (cc := cX5_fillMemory) (maxL := 2) (ret := none) (by decide) rfl (Nat.le_of_ble_eq_true rfl) ?_
  intro p e s m below meth c A hx hb hr hml hts hown hlocks hin hP hK hN hD hA hS ls hl
  have hown : s.vm.findClass RX5 = some m.cls := hown
  have hl : lv_has ls 2 [(0, .ref h0)] := hl
  refine lv_aload_n hx hb dX5_fillMemory_0 rfl (lv_at hl 0 rfl) ?_
  refine va_get (D := D) (ci := 4) (v := .ref h2) (C := RX5) (T := TX5) (N := 4) hx hb hts inX5_fillMemory_X5 hown hK hP 0 rfl rfl 1 (by decide) (hts _ wdX5_fillMemory_0) (fun _ h9 => h9) rfl dX5_fillMemory_1 ?_
  refine lv_aload_n hx hb dX5_fillMemory_4 rfl (lv_at hl 0 rfl) ?_
  refine va_get (D := D) (ci := 4) (v := .ref h1) (C := RX5) (T := TX5) (N := 4) hx hb hts inX5_fillMemory_X5 hown hK hP 0 rfl rfl 0 (by decide) (hts _ wdX5_fillMemory_1) (fun _ h9 => h9) rfl dX5_fillMemory_5 ?_
  refine kc_v (wr := [(h0, .inr (4, [.ref h1, .ref h2, g0, g1])), (h4, .inl (cZ, 64, .inl zf))]) (va_runV (As := [.ref h1]) (rest := []) ⟨hx, hb, hml, hown, hts⟩ (K216_X3_loadMemory l D cB cI cZ _ h2 h3 h1 (g2) (g3) ((.ref h4)) (g4) (g5) (g6) (g7) (g8) (g9) (g10) (g11) (g12)) (cwV 1 hts gX5_fillMemory_X3_loadMemory rfl rfl rfl (by decide +kernel) ⟨Nat.le_of_ble_eq_true rfl, Nat.le_of_ble_eq_true rfl⟩) (pre_V (q := (RX3, TX3, 14)) (ci := 3) (q0 := 0) (hP.sub [1, 2] rfl) hK hN (hD.sub [1, 2] (by decide) rfl) rfl rfl) rfl rfl hl.1 rfl (lv_room (Nat.le_of_ble_eq_true rfl)) dX5_fillMemory_8 ⟨Nat.le_of_ble_eq_true rfl, Nat.le_of_ble_eq_true rfl⟩) hP hD hS hA [1, 2] [0, 3] rfl rfl (by decide) (by decide) (fun  u H locs hw hP hD hS => ?_)
  have hP : va_P D vwCl [(h0, .inr (4, [.ref h1, .ref h2, g0, g1])), (h4, .inl (cZ, 64, .inl zf)), (h2, .inr (3, [g2, g3, .ref h3, .ref h4, g4, g5, g6, g7, g8, .int 0, g9, g10, g11, g12])), (h3, .inl (cI, 64, .inl zf))] H := hP
  have hD : va_D A [(h0, .inr (4, [.ref h1, .ref h2, g0, g1])), (h4, .inl (cZ, 64, .inl zf)), (h2, .inr (3, [g2, g3, .ref h3, .ref h4, g4, g5, g6, g7, g8, .int 0, g9, g10, g11, g12])), (h3, .inl (cI, 64, .inl zf))] := hD
  refine lv_bipush (v := 8) hx hb dX5_fillMemory_11 (by decide) ?_
  refine lv_istore_n (lv' := [(1, .int 8), (0, .ref h0)]) hx hb dX5_fillMemory_13 rfl hl (by decide) rfl (fun ls hl => ?_)
  refine kl (α := Int32) (fun n a H locs ls => (8 ≤ Int32.toInt a) ∧ (Int32.toInt a ≤ 64) ∧ (64 - Int32.toInt a < ((n : Nat) : Int)) ∧ va_P D vwCl [(h0, .inr (4, [.ref h1, .ref h2, g0, g1])), (h4, .inl (cZ, 64, .inl zf)), (h2, .inr (3, [g2, g3, .ref h3, .ref h4, g4, g5, g6, g7, g8, .int 0, g9, g10, g11, g12])), (h3, .inl (cI, 64, .inl zf))] H ∧ va_D A [(h0, .inr (4, [.ref h1, .ref h2, g0, g1])), (h4, .inl (cZ, 64, .inl zf)), (h2, .inr (3, [g2, g3, .ref h3, .ref h4, g4, g5, g6, g7, g8, .int 0, g9, g10, g11, g12])), (h3, .inl (cI, 64, .inl zf))] ∧ va_S A s.heap H locs ∧ lv_has ls 2 [(1, .int a), (0, .ref h0)]) 57 8 ⟨(by show 8 ≤ Int32.toInt 8; decide), (by show Int32.toInt 8 ≤ 64; decide), (by show 64 - Int32.toInt 8 < ((57 : Nat) : Int); have := (by decide : Int32.toInt 8 = 8); omega), hP, hD, hS, hl⟩ (fun a H locs ls h => ?_) (fun n_2 ih_3 a H locs ls h => ?_)
  · obtain ⟨j_4, j_5, j_6, _⟩ := h
    omega
  obtain ⟨v_1, rfl⟩ : ∃ z, z = a := ⟨_, rfl⟩
  obtain ⟨j_4, j_5, j_6, hP, hD, hS, hl⟩ := h
  have j_4 : 8 ≤ Int32.toInt v_1 := j_4
  have j_5 : Int32.toInt v_1 ≤ 64 := j_5
  have j_6 : 64 - Int32.toInt v_1 < ((n_2 + 1 : Nat) : Int) := j_6
  have hP : va_P D vwCl [(h0, .inr (4, [.ref h1, .ref h2, g0, g1])), (h4, .inl (cZ, 64, .inl zf)), (h2, .inr (3, [g2, g3, .ref h3, .ref h4, g4, g5, g6, g7, g8, .int 0, g9, g10, g11, g12])), (h3, .inl (cI, 64, .inl zf))] H := hP
  have hD : va_D A [(h0, .inr (4, [.ref h1, .ref h2, g0, g1])), (h4, .inl (cZ, 64, .inl zf)), (h2, .inr (3, [g2, g3, .ref h3, .ref h4, g4, g5, g6, g7, g8, .int 0, g9, g10, g11, g12])), (h3, .inl (cI, 64, .inl zf))] := hD
  have hl : lv_has ls 2 [(1, .int v_1), (0, .ref h0)] := hl
  refine lv_iload_n hx hb dX5_fillMemory_14 rfl (lv_at hl 0 rfl) ?_
  refine lv_bipush (v := 64) hx hb dX5_fillMemory_15 (by decide) ?_
  refine lv_icmp_ge (tgt := 50) hx hb dX5_fillMemory_17 (by decide) (fun c => ?_) (fun c => ?_)
  · skip
    have k_7 := (ti_le (x := 64) (y := v_1) (a := 64) (b := v_1.toInt) (by decide) rfl).mp c
    obtain rfl : v_1 = 64 := ti_inj (a := 64) (by decide) (by omega)
    exact kr_v () hx hb hr hlocks hP hD hS trivial dX5_fillMemory_50
  · skip
    have k_8 := mt (ti_le (x := 64) (y := v_1) (a := 64) (b := v_1.toInt) (by decide) rfl).mpr c
    refine lv_aload_n hx hb dX5_fillMemory_20 rfl (lv_at hl 1 rfl) ?_
    refine va_get (D := D) (ci := 4) (v := .ref h2) (C := RX5) (T := TX5) (N := 4) hx hb hts inX5_fillMemory_X5 hown hK hP 0 rfl rfl 1 (by decide) (hts _ wdX5_fillMemory_0) (fun _ h9 => h9) rfl dX5_fillMemory_21 ?_
    refine lv_iload_n hx hb dX5_fillMemory_24 rfl (lv_at hl 0 rfl) ?_
    refine kc_v (wr := [(h0, .inr (4, [.ref h1, .ref h2, g0, g1])), (h3, .inl (cI, 64, .inl zf))]) (va_runV (As := [.int v_1]) (rest := []) ⟨hx, hb, hml, hown, hts⟩ (K217_X3_forgetTimes l D cB cI cZ _ h2 h4 v_1 (g2) (g3) ((.ref h3)) (g4) (g5) (g6) (g7) (g8) ((.int 0)) (g9) (g10) (g11) (g12) ⟨by omega, by omega⟩) (cwV 1 hts gX5_fillMemory_X3_forgetTimes rfl rfl rfl (by decide +kernel) ⟨Nat.le_of_ble_eq_true rfl, Nat.le_of_ble_eq_true rfl⟩) (pre_V (q := (RX3, TX3, 14)) (ci := 3) (q0 := 0) (hP.sub [2, 1] rfl) hK hN (hD.sub [2, 1] (by decide) rfl) rfl rfl) rfl rfl hl.1 rfl (lv_room (Nat.le_of_ble_eq_true rfl)) dX5_fillMemory_25 ⟨Nat.le_of_ble_eq_true rfl, Nat.le_of_ble_eq_true rfl⟩) hP hD hS hA [2, 1] [0, 3] rfl rfl (by decide) (by decide) (fun  u H locs hw hP hD hS => ?_)
    have hP : va_P D vwCl [(h0, .inr (4, [.ref h1, .ref h2, g0, g1])), (h3, .inl (cI, 64, .inl zf)), (h2, .inr (3, [g2, g3, .ref h3, .ref h4, g4, g5, g6, g7, g8, .int 0, g9, g10, g11, g12])), (h4, .inl (cZ, 64, .inl zf))] H := hP
    have hD : va_D A [(h0, .inr (4, [.ref h1, .ref h2, g0, g1])), (h3, .inl (cI, 64, .inl zf)), (h2, .inr (3, [g2, g3, .ref h3, .ref h4, g4, g5, g6, g7, g8, .int 0, g9, g10, g11, g12])), (h4, .inl (cZ, 64, .inl zf))] := hD
    refine lv_aload_n hx hb dX5_fillMemory_28 rfl (lv_at hl 1 rfl) ?_
    refine va_get (D := D) (ci := 4) (v := .ref h2) (C := RX5) (T := TX5) (N := 4) hx hb hts inX5_fillMemory_X5 hown hK hP 0 rfl rfl 1 (by decide) (hts _ wdX5_fillMemory_0) (fun _ h9 => h9) rfl dX5_fillMemory_29 ?_
    refine lv_iload_n hx hb dX5_fillMemory_32 rfl (lv_at hl 0 rfl) ?_
    refine kc_i (wr := [(h0, .inr (4, [.ref h1, .ref h2, g0, g1])), (h4, .inl (cZ, 64, .inl zf))]) (va_runV (As := [.int v_1]) (rest := []) ⟨hx, hb, hml, hown, hts⟩ (K132_X3_isUsed l D cB cI cZ _ h2 h3 v_1 (g2) (g3) ((.ref h4)) (g4) (g5) (g6) (g7) (g8) ((.int 0)) (g9) (g10) (g11) (g12) ⟨by omega, by omega⟩) (cwV 1 hts gX5_fillMemory_X3_isUsed rfl rfl rfl (by decide +kernel) ⟨Nat.le_of_ble_eq_true rfl, Nat.le_of_ble_eq_true rfl⟩) (pre_V (q := (RX3, TX3, 14)) (ci := 3) (q0 := 0) (hP.sub [2, 1] rfl) hK hN (hD.sub [2, 1] (by decide) rfl) rfl rfl) rfl rfl hl.1 rfl (lv_room (Nat.le_of_ble_eq_true rfl)) dX5_fillMemory_33 ⟨Nat.le_of_ble_eq_true rfl, Nat.le_of_ble_eq_true rfl⟩) hP hD hS hA [2, 1] [0, 3] rfl rfl (by decide) (by decide) (fun r_9 u H locs hw hP hD hS => ?_)
    have k_10 := hw
    obtain rfl : r_9 = 0 := k_10
    have hP : va_P D vwCl [(h0, .inr (4, [.ref h1, .ref h2, g0, g1])), (h4, .inl (cZ, 64, .inl zf)), (h2, .inr (3, [g2, g3, .ref h3, .ref h4, g4, g5, g6, g7, g8, .int 0, g9, g10, g11, g12])), (h3, .inl (cI, 64, .inl zf))] H := hP
    have hD : va_D A [(h0, .inr (4, [.ref h1, .ref h2, g0, g1])), (h4, .inl (cZ, 64, .inl zf)), (h2, .inr (3, [g2, g3, .ref h3, .ref h4, g4, g5, g6, g7, g8, .int 0, g9, g10, g11, g12])), (h3, .inl (cI, 64, .inl zf))] := hD
    refine lv_if_eq (tgt := 44) hx hb dX5_fillMemory_36 (by decide) (fun c => ?_) (fun c => absurd (by decide) c)
    obtain ⟨x_11, ex_11⟩ : ∃ y : Int32, y = v_1 + 1 := ⟨_, rfl⟩
    have tx_11 : x_11.toInt = v_1.toInt + 1 := by rw [ex_11]; exact ti_add rfl (by decide) (by omega) (by omega)
    refine lv_iinc (v := x_11) (lv' := [(1, .int x_11), (0, .ref h0)]) hx hb dX5_fillMemory_44 hl (k := 0) rfl (by rw [ex_11]; rfl) (by decide) rfl (fun ls hl => ?_)
    refine lv_goto (tgt := 14) hx hb dX5_fillMemory_47 (by decide) ?_
    exact ih_3 x_11 _ _ _ ⟨(by show 8 ≤ Int32.toInt x_11; omega), (by show Int32.toInt x_11 ≤ 64; omega), (by show 64 - Int32.toInt x_11 < ((n_2 : Nat) : Int); omega), hP, hD, hS, hl⟩
set_option maxHeartbeats 4000000 in
set_option maxRecDepth 100000 in
theorem K193_X7_start (l : Launch) (D : va_G) (cB cI cZ : ClassId) (sz : Nat) (h0 : Nat) (h1 : Nat) (h2 : Nat) (h3 : Nat) (h4 : Nat) (h5 : Nat) (h6 : Nat) (h7 : Nat) (h8 : Nat) (h9 : Nat) (h10 : Nat)  (g0 : Value) (g1 : Value) (g2 : Value) (g3 : Value) (g4 : Value) (g5 : Value) (g6 : Value) (g7 : Value) (g8 : Value) (g9 : Value) (g10 : Value) (g11 : Value) (g12 : Value) (g13 : Value) (g14 : Value) (g15 : Value) (g16 : Value) (g17 : Value) (g18 : Value) (g19 : Value) (g20 : Value) (g21 : Value) (g22 : Value) (g23 : Value) (g24 : Value) (g25 : Value) (g26 : Value)  :
    CtI l D cB cI cZ yX7_start wsX7_start { frames := 6, cells := 0, slots := 0, locals := 135 } [.ref h0] [(h0, .inr (6, [.ref h1, g0, g1, g2, g3, .ref h2, g4, g5, g6])), (h1, .inr (1, [.ref h3, g7, g8, g9, g10])), (h2, .inr (4, [.ref h1, .ref h4, .ref h5, .ref h6])), (h3, .inl (cB, 65536, .inl zf)), (h4, .inr (3, [g11, g12, .ref h7, .ref h8, g13, g14, g15, g16, g17, .int 0, .int 0, g18, g19, g20])), (h5, .inr (2, [.ref h9, .ref h10, g21])), (h6, .inr (5, [.ref h1, g22, g23, g24, g25, g26])), (h7, .inl (cI, 64, .inl zf)), (h8, .inl (cZ, 64, .inl zf)), (h9, .inl (cI, 300, .inl zf)), (h10, .inl (cI, 300, .inl zf))] sz 0 0
      (fun (r : Int32) (u : Unit) => r = 0)
      (fun u => []) := by
  refine mk_metI (cc := cX7_start) (maxL := 2) (ret := (some .int)) (by decide) rfl (Nat.le_of_ble_eq_true rfl) ?_
  intro p e s m below meth c A hx hb hr hml hts hown hlocks hin hP hK hN hD hA hS ls hl
  have hown : s.vm.findClass RX7 = some m.cls := hown
  have hl : lv_has ls 2 [(0, .ref h0)] := hl
  refine lv_aload_n hx hb dX7_start_0 rfl (lv_at hl 0 rfl) ?_
  refine va_get (D := D) (ci := 6) (v := .ref h1) (C := RX7) (T := TX7) (N := 9) hx hb hts inX7_start_X7 hown hK hP 0 rfl rfl 0 (by decide) (hts _ wdX7_start_0) (fun _ h9 => h9) rfl dX7_start_1 ?_
  refine lv_iconst (v := 0) hx hb dX7_start_4 (by decide) ?_
  refine lv_iconst (v := 0) hx hb dX7_start_5 (by decide) ?_
  refine kc_v (wr := [(h0, .inr (6, [.ref h1, g0, g1, g2, g3, .ref h2, g4, g5, g6])), (h2, .inr (4, [.ref h1, .ref h4, .ref h5, .ref h6])), (h3, .inl (cB, 65536, .inl zf)), (h4, .inr (3, [g11, g12, .ref h7, .ref h8, g13, g14, g15, g16, g17, .int 0, .int 0, g18, g19, g20])), (h5, .inr (2, [.ref h9, .ref h10, g21])), (h6, .inr (5, [.ref h1, g22, g23, g24, g25, g26])), (h7, .inl (cI, 64, .inl zf)), (h8, .inl (cZ, 64, .inl zf)), (h9, .inl (cI, 300, .inl zf)), (h10, .inl (cI, 300, .inl zf))]) (va_runV (As := [.int 0, .int 0]) (rest := []) ⟨hx, hb, hml, hown, hts⟩ (K194_X1_cutAt l D cB cI cZ _ h1 ((.ref h3)) (g7) (g8) (g9) (g10)) (cwV 2 hts gX7_start_X1_cutAt rfl rfl rfl (by decide +kernel) ⟨Nat.le_of_ble_eq_true rfl, Nat.le_of_ble_eq_true rfl⟩) (pre_V (q := (RX1, TX1, 5)) (ci := 1) (q0 := 0) (hP.sub [1] rfl) hK hN (hD.sub [1] (by decide) rfl) rfl rfl) rfl rfl hl.1 rfl (lv_room (Nat.le_of_ble_eq_true rfl)) dX7_start_6 ⟨Nat.le_of_ble_eq_true rfl, Nat.le_of_ble_eq_true rfl⟩) hP hD hS hA [1] [0, 2, 3, 4, 5, 6, 7, 8, 9, 10] rfl rfl (by decide) (by decide) (fun  u H locs hw hP hD hS => ?_)
  have hP : va_P D vwCl [(h0, .inr (6, [.ref h1, g0, g1, g2, g3, .ref h2, g4, g5, g6])), (h2, .inr (4, [.ref h1, .ref h4, .ref h5, .ref h6])), (h3, .inl (cB, 65536, .inl zf)), (h4, .inr (3, [g11, g12, .ref h7, .ref h8, g13, g14, g15, g16, g17, .int 0, .int 0, g18, g19, g20])), (h5, .inr (2, [.ref h9, .ref h10, g21])), (h6, .inr (5, [.ref h1, g22, g23, g24, g25, g26])), (h7, .inl (cI, 64, .inl zf)), (h8, .inl (cZ, 64, .inl zf)), (h9, .inl (cI, 300, .inl zf)), (h10, .inl (cI, 300, .inl zf)), (h1, .inr (1, [.ref h3, g7, g8, .int 0, .int 0]))] H := hP
  have hD : va_D A [(h0, .inr (6, [.ref h1, g0, g1, g2, g3, .ref h2, g4, g5, g6])), (h2, .inr (4, [.ref h1, .ref h4, .ref h5, .ref h6])), (h3, .inl (cB, 65536, .inl zf)), (h4, .inr (3, [g11, g12, .ref h7, .ref h8, g13, g14, g15, g16, g17, .int 0, .int 0, g18, g19, g20])), (h5, .inr (2, [.ref h9, .ref h10, g21])), (h6, .inr (5, [.ref h1, g22, g23, g24, g25, g26])), (h7, .inl (cI, 64, .inl zf)), (h8, .inl (cZ, 64, .inl zf)), (h9, .inl (cI, 300, .inl zf)), (h10, .inl (cI, 300, .inl zf)), (h1, .inr (1, [.ref h3, g7, g8, .int 0, .int 0]))] := hD
  refine lv_aload_n hx hb dX7_start_9 rfl (lv_at hl 0 rfl) ?_
  refine lv_iconst (v := 0) hx hb dX7_start_10 (by decide) ?_
  refine va_put (D := D) (ci := 6) (v := .int 0) (ty := .boolean) (C := RX7) (T := TX7) (N := 9) hx hb hts inX7_start_X7 tyX7 tyX7_ok nmX7 hown hK hP hD hS 0 rfl rfl 8 (by decide) (hts _ wdX7_start_1) (fun _ h9 => h9) rfl (by decide +kernel) rfl rfl (Nat.le_of_ble_eq_true rfl) dX7_start_11 (fun H locs hP hD hS => ?_)
  have hP : va_P D vwCl [(h0, .inr (6, [.ref h1, g0, g1, g2, g3, .ref h2, g4, g5, .int 0])), (h2, .inr (4, [.ref h1, .ref h4, .ref h5, .ref h6])), (h3, .inl (cB, 65536, .inl zf)), (h4, .inr (3, [g11, g12, .ref h7, .ref h8, g13, g14, g15, g16, g17, .int 0, .int 0, g18, g19, g20])), (h5, .inr (2, [.ref h9, .ref h10, g21])), (h6, .inr (5, [.ref h1, g22, g23, g24, g25, g26])), (h7, .inl (cI, 64, .inl zf)), (h8, .inl (cZ, 64, .inl zf)), (h9, .inl (cI, 300, .inl zf)), (h10, .inl (cI, 300, .inl zf)), (h1, .inr (1, [.ref h3, g7, g8, .int 0, .int 0]))] H := hP
  have hD : va_D A [(h0, .inr (6, [.ref h1, g0, g1, g2, g3, .ref h2, g4, g5, .int 0])), (h2, .inr (4, [.ref h1, .ref h4, .ref h5, .ref h6])), (h3, .inl (cB, 65536, .inl zf)), (h4, .inr (3, [g11, g12, .ref h7, .ref h8, g13, g14, g15, g16, g17, .int 0, .int 0, g18, g19, g20])), (h5, .inr (2, [.ref h9, .ref h10, g21])), (h6, .inr (5, [.ref h1, g22, g23, g24, g25, g26])), (h7, .inl (cI, 64, .inl zf)), (h8, .inl (cZ, 64, .inl zf)), (h9, .inl (cI, 300, .inl zf)), (h10, .inl (cI, 300, .inl zf)), (h1, .inr (1, [.ref h3, g7, g8, .int 0, .int 0]))] := hD
  refine lv_aload_n hx hb dX7_start_14 rfl (lv_at hl 0 rfl) ?_
  refine va_get (D := D) (ci := 6) (v := .ref h2) (C := RX7) (T := TX7) (N := 9) hx hb hts inX7_start_X7 hown hK hP 0 rfl rfl 5 (by decide) (hts _ wdX7_start_2) (fun _ h9 => h9) rfl dX7_start_15 ?_
  refine kc_v (wr := [(h0, .inr (6, [.ref h1, g0, g1, g2, g3, .ref h2, g4, g5, .int 0])), (h8, .inl (cZ, 64, .inl zf))]) (va_runV (As := []) (rest := []) ⟨hx, hb, hml, hown, hts⟩ (K195_X5_takeCheckpoint l D cB cI cZ _ h2 h4 h5 h6 h7 h9 h10 h1 h3 ((.ref h1)) (g11) (g12) ((.ref h8)) (g13) (g14) (g15) (g16) (g17) ((.int 0)) ((.int 0)) (g18) (g19) (g20) (g21) (g22) (g23) (g24) (g25) (g26) (g7) (g8) ((.int 0)) ((.int 0))) (cwV 0 hts gX7_start_X5_takeCheckpoint rfl rfl rfl (by decide +kernel) ⟨Nat.le_of_ble_eq_true rfl, Nat.le_of_ble_eq_true rfl⟩) (pre_V (q := (RX5, TX5, 4)) (ci := 4) (q0 := 0) (hP.sub [1, 3, 4, 5, 6, 8, 9, 10, 2] rfl) hK hN (hD.sub [1, 3, 4, 5, 6, 8, 9, 10, 2] (by decide) rfl) rfl rfl) rfl rfl hl.1 rfl (lv_room (Nat.le_of_ble_eq_true rfl)) dX7_start_18 ⟨Nat.le_of_ble_eq_true rfl, Nat.le_of_ble_eq_true rfl⟩) hP hD hS hA [1, 3, 4, 5, 6, 8, 9, 10, 2] [0, 7] rfl rfl (by decide) (by decide) (fun  u H locs hw hP hD hS => ?_)
  have hP : va_P D vwCl [(h0, .inr (6, [.ref h1, g0, g1, g2, g3, .ref h2, g4, g5, .int 0])), (h8, .inl (cZ, 64, .inl zf)), (h2, .inr (4, [.ref h1, .ref h4, .ref h5, .ref h6])), (h4, .inr (3, [g11, g12, .ref h7, .ref h8, g13, g14, g15, g16, .int 0, .int 0, .int 0, .int 0, .int 1, .int 0])), (h7, .inl (cI, 64, .inl zf)), (h5, .inr (2, [.ref h9, .ref h10, .int 0])), (h9, .inl (cI, 300, .inl zf)), (h10, .inl (cI, 300, .inl zf)), (h6, .inr (5, [.ref h1, g22, g23, g24, .int 0, .int 0])), (h1, .inr (1, [.ref h3, g7, g8, .int 0, .int 0])), (h3, .inl (cB, 65536, .inl zf))] H := hP
  have hD : va_D A [(h0, .inr (6, [.ref h1, g0, g1, g2, g3, .ref h2, g4, g5, .int 0])), (h8, .inl (cZ, 64, .inl zf)), (h2, .inr (4, [.ref h1, .ref h4, .ref h5, .ref h6])), (h4, .inr (3, [g11, g12, .ref h7, .ref h8, g13, g14, g15, g16, .int 0, .int 0, .int 0, .int 0, .int 1, .int 0])), (h7, .inl (cI, 64, .inl zf)), (h5, .inr (2, [.ref h9, .ref h10, .int 0])), (h9, .inl (cI, 300, .inl zf)), (h10, .inl (cI, 300, .inl zf)), (h6, .inr (5, [.ref h1, g22, g23, g24, .int 0, .int 0])), (h1, .inr (1, [.ref h3, g7, g8, .int 0, .int 0])), (h3, .inl (cB, 65536, .inl zf))] := hD
  refine lv_aload_n hx hb dX7_start_21 rfl (lv_at hl 0 rfl) ?_
  refine va_get (D := D) (ci := 6) (v := .ref h2) (C := RX7) (T := TX7) (N := 9) hx hb hts inX7_start_X7 hown hK hP 0 rfl rfl 5 (by decide) (hts _ wdX7_start_2) (fun _ h9 => h9) rfl dX7_start_22 ?_
  refine kc_i (wr := [(h0, .inr (6, [.ref h1, g0, g1, g2, g3, .ref h2, g4, g5, .int 0])), (h8, .inl (cZ, 64, .inl zf)), (h5, .inr (2, [.ref h9, .ref h10, .int 0])), (h9, .inl (cI, 300, .inl zf)), (h10, .inl (cI, 300, .inl zf)), (h6, .inr (5, [.ref h1, g22, g23, g24, .int 0, .int 0]))]) (va_runV (As := []) (rest := []) ⟨hx, hb, hml, hown, hts⟩ (K210_X5_goThrough l D cB cI cZ _ h2 h1 h4 h3 h7 ((.ref h5)) ((.ref h6)) (g7) (g8) ((.int 0)) ((.int 0)) (g11) (g12) ((.ref h8)) (g13) (g14) (g15) (g16) ((.int 0)) ((.int 0)) ((.int 1)) ((.int 0))) (cwV 0 hts gX7_start_X5_goThrough rfl rfl rfl (by decide +kernel) ⟨Nat.le_of_ble_eq_true rfl, Nat.le_of_ble_eq_true rfl⟩) (pre_V (q := (RX5, TX5, 4)) (ci := 4) (q0 := 0) (hP.sub [2, 9, 3, 10, 4] rfl) hK hN (hD.sub [2, 9, 3, 10, 4] (by decide) rfl) rfl rfl) rfl rfl hl.1 rfl (lv_room (Nat.le_of_ble_eq_true rfl)) dX7_start_25 ⟨Nat.le_of_ble_eq_true rfl, Nat.le_of_ble_eq_true rfl⟩) hP hD hS hA [2, 9, 3, 10, 4] [0, 1, 5, 6, 7, 8] rfl rfl (by decide) (by decide) (fun r_1 u H locs hw hP hD hS => ?_)
  have k_2 := hw
  obtain rfl : r_1 = 0 := k_2
  have hP : va_P D vwCl [(h0, .inr (6, [.ref h1, g0, g1, g2, g3, .ref h2, g4, g5, .int 0])), (h8, .inl (cZ, 64, .inl zf)), (h5, .inr (2, [.ref h9, .ref h10, .int 0])), (h9, .inl (cI, 300, .inl zf)), (h10, .inl (cI, 300, .inl zf)), (h6, .inr (5, [.ref h1, g22, g23, g24, .int 0, .int 0])), (h1, .inr (1, [.ref h3, g7, g8, .int 0, .int 0])), (h4, .inr (3, [g11, g12, .ref h7, .ref h8, g13, g14, g15, g16, .int 0, .int 0, .int 0, .int 0, .int 1, .int 0])), (h3, .inl (cB, 65536, .inl zf)), (h7, .inl (cI, 64, .inl zf)), (h2, .inr (4, [.ref h1, .ref h4, .ref h5, .ref h6]))] H := hP
  have hD : va_D A [(h0, .inr (6, [.ref h1, g0, g1, g2, g3, .ref h2, g4, g5, .int 0])), (h8, .inl (cZ, 64, .inl zf)), (h5, .inr (2, [.ref h9, .ref h10, .int 0])), (h9, .inl (cI, 300, .inl zf)), (h10, .inl (cI, 300, .inl zf)), (h6, .inr (5, [.ref h1, g22, g23, g24, .int 0, .int 0])), (h1, .inr (1, [.ref h3, g7, g8, .int 0, .int 0])), (h4, .inr (3, [g11, g12, .ref h7, .ref h8, g13, g14, g15, g16, .int 0, .int 0, .int 0, .int 0, .int 1, .int 0])), (h3, .inl (cB, 65536, .inl zf)), (h7, .inl (cI, 64, .inl zf)), (h2, .inr (4, [.ref h1, .ref h4, .ref h5, .ref h6]))] := hD
  refine lv_istore_n (lv' := [(1, .int 0), (0, .ref h0)]) hx hb dX7_start_28 rfl hl (by decide) rfl (fun ls hl => ?_)
  refine lv_aload_n hx hb dX7_start_29 rfl (lv_at hl 1 rfl) ?_
  refine va_get (D := D) (ci := 6) (v := .ref h2) (C := RX7) (T := TX7) (N := 9) hx hb hts inX7_start_X7 hown hK hP 0 rfl rfl 5 (by decide) (hts _ wdX7_start_2) (fun _ h9 => h9) rfl dX7_start_30 ?_
  refine kc_v (wr := [(h0, .inr (6, [.ref h1, g0, g1, g2, g3, .ref h2, g4, g5, .int 0])), (h5, .inr (2, [.ref h9, .ref h10, .int 0])), (h9, .inl (cI, 300, .inl zf)), (h10, .inl (cI, 300, .inl zf)), (h6, .inr (5, [.ref h1, g22, g23, g24, .int 0, .int 0])), (h1, .inr (1, [.ref h3, g7, g8, .int 0, .int 0])), (h3, .inl (cB, 65536, .inl zf))]) (va_runV (As := []) (rest := []) ⟨hx, hb, hml, hown, hts⟩ (K215_X5_fillMemory l D cB cI cZ _ h2 h4 h7 h8 h1 ((.ref h5)) ((.ref h6)) (g11) (g12) (g13) (g14) (g15) (g16) ((.int 0)) ((.int 0)) ((.int 0)) ((.int 1)) ((.int 0))) (cwV 0 hts gX7_start_X5_fillMemory rfl rfl rfl (by decide +kernel) ⟨Nat.le_of_ble_eq_true rfl, Nat.le_of_ble_eq_true rfl⟩) (pre_V (q := (RX5, TX5, 4)) (ci := 4) (q0 := 0) (hP.sub [10, 7, 9, 1] rfl) hK hN (hD.sub [10, 7, 9, 1] (by decide) rfl) rfl rfl) rfl rfl hl.1 rfl (lv_room (Nat.le_of_ble_eq_true rfl)) dX7_start_33 ⟨Nat.le_of_ble_eq_true rfl, Nat.le_of_ble_eq_true rfl⟩) hP hD hS hA [10, 7, 9, 1] [0, 2, 3, 4, 5, 6, 8] rfl rfl (by decide) (by decide) (fun  u H locs hw hP hD hS => ?_)
  have hP : va_P D vwCl [(h0, .inr (6, [.ref h1, g0, g1, g2, g3, .ref h2, g4, g5, .int 0])), (h5, .inr (2, [.ref h9, .ref h10, .int 0])), (h9, .inl (cI, 300, .inl zf)), (h10, .inl (cI, 300, .inl zf)), (h6, .inr (5, [.ref h1, g22, g23, g24, .int 0, .int 0])), (h1, .inr (1, [.ref h3, g7, g8, .int 0, .int 0])), (h3, .inl (cB, 65536, .inl zf)), (h2, .inr (4, [.ref h1, .ref h4, .ref h5, .ref h6])), (h8, .inl (cZ, 64, .inl zf)), (h4, .inr (3, [g11, g12, .ref h7, .ref h8, g13, g14, g15, g16, .int 0, .int 0, .int 0, .int 0, .int 1, .int 0])), (h7, .inl (cI, 64, .inl zf))] H := hP
  have hD : va_D A [(h0, .inr (6, [.ref h1, g0, g1, g2, g3, .ref h2, g4, g5, .int 0])), (h5, .inr (2, [.ref h9, .ref h10, .int 0])), (h9, .inl (cI, 300, .inl zf)), (h10, .inl (cI, 300, .inl zf)), (h6, .inr (5, [.ref h1, g22, g23, g24, .int 0, .int 0])), (h1, .inr (1, [.ref h3, g7, g8, .int 0, .int 0])), (h3, .inl (cB, 65536, .inl zf)), (h2, .inr (4, [.ref h1, .ref h4, .ref h5, .ref h6])), (h8, .inl (cZ, 64, .inl zf)), (h4, .inr (3, [g11, g12, .ref h7, .ref h8, g13, g14, g15, g16, .int 0, .int 0, .int 0, .int 0, .int 1, .int 0])), (h7, .inl (cI, 64, .inl zf))] := hD
  refine lv_iload_n hx hb dX7_start_36 rfl (lv_at hl 0 rfl) ?_
  exact kr_i () hx hb hr hlocks (hP.sub [] rfl) (hD.sub [] (by decide) rfl) hS rfl dX7_start_37
set_option maxHeartbeats 4000000 in
set_option maxRecDepth 100000 in
theorem K220_X8_number (l : Launch) (D : va_G) (cB cI cZ : ClassId) (sz : Nat) (h0 : Nat)    :
    CtI l D cB cI cZ yX8_number wsX8_number { frames := 0, cells := 0, slots := 0, locals := 0 } [.ref h0, .int 21, .int 2] [(h0, .inl (cB, 65536, .inl zf))] sz 0 0
      (fun (r : Int32) (u : Unit) => r = 0)
      (fun u => [(h0, .inl (cB, 65536, .inl zf))]) := by
  refine mk_metI (cc := cX8_number) (maxL := 5) (ret := (some .int)) (by decide) rfl (Nat.le_of_ble_eq_true rfl) ?_
  intro p e s m below meth c A hx hb hr hml hts hown hlocks hin hP hK hN hD hA hS ls hl
  have hown : s.vm.findClass RX8 = some m.cls := hown
  have hl : lv_has ls 5 [(0, .ref h0), (1, .int 21), (2, .int 2)] := hl
  refine lv_iconst (v := 0) hx hb dX8_number_0 (by decide) ?_
  refine lv_istore_n (lv' := [(3, .int 0), (0, .ref h0), (1, .int 21), (2, .int 2)]) hx hb dX8_number_1 rfl hl (by decide) rfl (fun ls hl => ?_)
  refine lv_iconst (v := 0) hx hb dX8_number_2 (by decide) ?_
  refine lv_istore (lv' := [(4, .int 0), (3, .int 0), (0, .ref h0), (1, .int 21), (2, .int 2)]) hx hb dX8_number_3 hl (by decide) rfl (fun ls hl => ?_)
  refine lv_iload hx hb dX8_number_5 (lv_at hl 0 rfl) ?_
  refine lv_iload_n hx hb dX8_number_7 rfl (lv_at hl 4 rfl) ?_
  refine lv_icmp_ge (tgt := 33) hx hb dX8_number_8 (by decide) (fun c => absurd c (by decide)) (fun c => ?_)
  refine lv_iload_n hx hb dX8_number_11 rfl (lv_at hl 1 rfl) ?_
  refine lv_bipush (v := 8) hx hb dX8_number_12 (by decide) ?_
  refine lv_ishl hx hb dX8_number_14 ?_
  refine lv_topi (fun z_1 ez_1 => ?_)
  obtain rfl : z_1 = 0 := ez_1.trans (by decide)
  refine lv_aload_n hx hb dX8_number_15 rfl (lv_at hl 2 rfl) ?_
  refine lv_iload_n hx hb dX8_number_16 rfl (lv_at hl 3 rfl) ?_
  refine lv_iload hx hb dX8_number_17 (lv_at hl 0 rfl) ?_
  refine lv_iadd hx hb dX8_number_19 ?_
  refine lv_topi (fun z_2 ez_2 => ?_)
  obtain rfl : z_2 = 21 := ez_2.trans (by decide)
  refine va_bald hx hb hK hP 0 0 rfl rfl (ti_in (a := 21) (by decide) (by decide) (by decide)) dX8_number_20 ?_
  refine lv_topi (fun z_3 ez_3 => ?_)
  obtain rfl : z_3 = 0 := ez_3
  refine lv_sipush (v := 255) hx hb dX8_number_21 (by decide) ?_
  refine lv_iand hx hb dX8_number_24 ?_
  refine lv_topi (fun z_4 ez_4 => ?_)
  obtain rfl : z_4 = 0 := ez_4.trans (by decide)
  refine lv_ior hx hb dX8_number_25 ?_
  refine lv_topi (fun z_5 ez_5 => ?_)
  obtain rfl : z_5 = 0 := ez_5.trans (by decide)
  refine lv_istore_n (lv' := [(3, .int 0), (4, .int 0), (0, .ref h0), (1, .int 21), (2, .int 2)]) hx hb dX8_number_26 rfl hl (by decide) rfl (fun ls hl => ?_)
  refine lv_iinc (v := 1) (lv' := [(4, .int 1), (3, .int 0), (0, .ref h0), (1, .int 21), (2, .int 2)]) hx hb dX8_number_27 hl (k := 1) rfl (by decide) (by decide) rfl (fun ls hl => ?_)
  refine lv_goto (tgt := 5) hx hb dX8_number_30 (by decide) ?_
  refine lv_iload hx hb dX8_number_5 (lv_at hl 0 rfl) ?_
  refine lv_iload_n hx hb dX8_number_7 rfl (lv_at hl 4 rfl) ?_
  refine lv_icmp_ge (tgt := 33) hx hb dX8_number_8 (by decide) (fun c => absurd c (by decide)) (fun c => ?_)
  refine lv_iload_n hx hb dX8_number_11 rfl (lv_at hl 1 rfl) ?_
  refine lv_bipush (v := 8) hx hb dX8_number_12 (by decide) ?_
  refine lv_ishl hx hb dX8_number_14 ?_
  refine lv_topi (fun z_6 ez_6 => ?_)
  obtain rfl : z_6 = 0 := ez_6.trans (by decide)
  refine lv_aload_n hx hb dX8_number_15 rfl (lv_at hl 2 rfl) ?_
  refine lv_iload_n hx hb dX8_number_16 rfl (lv_at hl 3 rfl) ?_
  refine lv_iload hx hb dX8_number_17 (lv_at hl 0 rfl) ?_
  refine lv_iadd hx hb dX8_number_19 ?_
  refine lv_topi (fun z_7 ez_7 => ?_)
  obtain rfl : z_7 = 22 := ez_7.trans (by decide)
  refine va_bald hx hb hK hP 0 0 rfl rfl (ti_in (a := 22) (by decide) (by decide) (by decide)) dX8_number_20 ?_
  refine lv_topi (fun z_8 ez_8 => ?_)
  obtain rfl : z_8 = 0 := ez_8
  refine lv_sipush (v := 255) hx hb dX8_number_21 (by decide) ?_
  refine lv_iand hx hb dX8_number_24 ?_
  refine lv_topi (fun z_9 ez_9 => ?_)
  obtain rfl : z_9 = 0 := ez_9.trans (by decide)
  refine lv_ior hx hb dX8_number_25 ?_
  refine lv_topi (fun z_10 ez_10 => ?_)
  obtain rfl : z_10 = 0 := ez_10.trans (by decide)
  refine lv_istore_n (lv' := [(3, .int 0), (4, .int 1), (0, .ref h0), (1, .int 21), (2, .int 2)]) hx hb dX8_number_26 rfl hl (by decide) rfl (fun ls hl => ?_)
  refine lv_iinc (v := 2) (lv' := [(4, .int 2), (3, .int 0), (0, .ref h0), (1, .int 21), (2, .int 2)]) hx hb dX8_number_27 hl (k := 1) rfl (by decide) (by decide) rfl (fun ls hl => ?_)
  refine lv_goto (tgt := 5) hx hb dX8_number_30 (by decide) ?_
  refine lv_iload hx hb dX8_number_5 (lv_at hl 0 rfl) ?_
  refine lv_iload_n hx hb dX8_number_7 rfl (lv_at hl 4 rfl) ?_
  refine lv_icmp_ge (tgt := 33) hx hb dX8_number_8 (by decide) (fun c => ?_) (fun c => absurd (by decide) c)
  refine lv_iload_n hx hb dX8_number_33 rfl (lv_at hl 1 rfl) ?_
  exact kr_i () hx hb hr hlocks hP hD hS rfl dX8_number_34
set_option maxHeartbeats 4000000 in
set_option maxRecDepth 100000 in
theorem K219_X8_isRight (l : Launch) (D : va_G) (cB cI cZ : ClassId) (sz : Nat) (h0 : Nat) (h1 : Nat)  (g0 : Value) (g1 : Value) (g2 : Value) (g3 : Value) (g4 : Value) (g5 : Value) (g6 : Value) (g7 : Value) (g8 : Value) (g9 : Value) (g10 : Value) (g11 : Value) (g12 : Value) (g13 : Value) (g14 : Value) (g15 : Value) (g16 : Value) (g17 : Value) (g18 : Value) (g19 : Value) (g20 : Value) (g21 : Value) (g22 : Value) (g23 : Value) (g24 : Value) (g25 : Value) (g26 : Value) (g27 : Value) (g28 : Value)  :
    CtI l D cB cI cZ yX8_isRight wsX8_isRight { frames := 1, cells := 0, slots := 0, locals := 24 } [.ref h0, .int 0] [(h0, .inr (7, [g0, g1, .ref h1, g2, g3, g4, g5, g6, g7, g8, g9, g10, g11, g12, g13, g14, g15, g16, g17, g18, g19, g20, g21, g22, g23, g24, g25, g26, g27, g28])), (h1, .inl (cB, 65536, .inl zf))] sz 0 0
      (fun (r : Int32) (u : Unit) => r = 0)
      (fun u => [(h0, .inr (7, [g0, g1, .ref h1, g2, g3, g4, g5, g6, g7, g8, g9, g10, g11, g12, g13, g14, g15, g16, g17, g18, g19, g20, g21, g22, g23, g24, g25, g26, g27, g28])), (h1, .inl (cB, 65536, .inl zf))]) := by
  refine mk_metI (cc := cX8_isRight) (maxL := 11) (ret := (some .boolean)) (by decide) rfl (Nat.le_of_ble_eq_true rfl) ?_
  intro p e s m below meth c A hx hb hr hml hts hown hlocks hin hP hK hN hD hA hS ls hl
  have hown : s.vm.findClass RX8 = some m.cls := hown
  have hl : lv_has ls 11 [(0, .ref h0), (1, .int 0)] := hl
  refine lv_sipush (v := 4096) hx hb dX8_isRight_0 (by decide) ?_
  refine lv_iload_n hx hb dX8_isRight_3 rfl (lv_at hl 1 rfl) ?_
  refine lv_imul hx hb dX8_isRight_4 ?_
  refine lv_topi (fun z_1 ez_1 => ?_)
  obtain rfl : z_1 = 0 := ez_1.trans (by decide)
  refine lv_istore_n (lv' := [(2, .int 0), (0, .ref h0), (1, .int 0)]) hx hb dX8_isRight_5 rfl hl (by decide) rfl (fun ls hl => ?_)
  refine lv_aload_n hx hb dX8_isRight_6 rfl (lv_at hl 1 rfl) ?_
  refine va_get (D := D) (ci := 7) (v := .ref h1) (C := RX8) (T := TX8) (N := 30) hx hb hts inX8_isRight_X8 hown hK hP 0 rfl rfl 2 (by decide) (hts _ wdX8_isRight_0) (fun _ h9 => h9) rfl dX8_isRight_7 ?_
  refine lv_iload_n hx hb dX8_isRight_10 rfl (lv_at hl 0 rfl) ?_
  refine lv_bipush (v := 21) hx hb dX8_isRight_11 (by decide) ?_
  refine lv_iadd hx hb dX8_isRight_13 ?_
  refine lv_topi (fun z_2 ez_2 => ?_)
  obtain rfl : z_2 = 21 := ez_2.trans (by decide)
  refine lv_iconst (v := 2) hx hb dX8_isRight_14 (by decide) ?_
  refine kc_i (wr := [(h0, .inr (7, [g0, g1, .ref h1, g2, g3, g4, g5, g6, g7, g8, g9, g10, g11, g12, g13, g14, g15, g16, g17, g18, g19, g20, g21, g22, g23, g24, g25, g26, g27, g28]))]) (va_runS (As := [.ref h1, .int 21, .int 2]) (rest := []) ⟨hx, hb, hml, hown, hts⟩ (K220_X8_number l D cB cI cZ _ h1) (va_cwS 3 hts gX8_isRight_X8_number rfl rfl rfl (by decide +kernel) ⟨Nat.le_of_ble_eq_true rfl, Nat.le_of_ble_eq_true rfl⟩) (pre_S (hP.sub [1] rfl) hK hN (hD.sub [1] (by decide) rfl)) rfl rfl hl.1 rfl (lv_room (Nat.le_of_ble_eq_true rfl)) dX8_isRight_15 ⟨Nat.le_of_ble_eq_true rfl, Nat.le_of_ble_eq_true rfl⟩) hP hD hS hA [1] [0] rfl rfl (by decide) (by decide) (fun r_3 u H locs hw hP hD hS => ?_)
  have k_4 := hw
  obtain rfl : r_3 = 0 := k_4
  have hP : va_P D vwCl [(h0, .inr (7, [g0, g1, .ref h1, g2, g3, g4, g5, g6, g7, g8, g9, g10, g11, g12, g13, g14, g15, g16, g17, g18, g19, g20, g21, g22, g23, g24, g25, g26, g27, g28])), (h1, .inl (cB, 65536, .inl zf))] H := hP
  have hD : va_D A [(h0, .inr (7, [g0, g1, .ref h1, g2, g3, g4, g5, g6, g7, g8, g9, g10, g11, g12, g13, g14, g15, g16, g17, g18, g19, g20, g21, g22, g23, g24, g25, g26, g27, g28])), (h1, .inl (cB, 65536, .inl zf))] := hD
  refine lv_istore_n (lv' := [(3, .int 0), (2, .int 0), (0, .ref h0), (1, .int 0)]) hx hb dX8_isRight_18 rfl hl (by decide) rfl (fun ls hl => ?_)
  refine lv_aload_n hx hb dX8_isRight_19 rfl (lv_at hl 2 rfl) ?_
  refine va_get (D := D) (ci := 7) (v := .ref h1) (C := RX8) (T := TX8) (N := 30) hx hb hts inX8_isRight_X8 hown hK hP 0 rfl rfl 2 (by decide) (hts _ wdX8_isRight_0) (fun _ h9 => h9) rfl dX8_isRight_20 ?_
  refine lv_iload_n hx hb dX8_isRight_23 rfl (lv_at hl 1 rfl) ?_
  refine va_bald hx hb hK hP 1 0 rfl rfl (ti_in (a := 0) (by decide) (by decide) (by decide)) dX8_isRight_24 ?_
  refine lv_topi (fun z_5 ez_5 => ?_)
  obtain rfl : z_5 = 0 := ez_5
  refine lv_bipush (v := 67) hx hb dX8_isRight_25 (by decide) ?_
  refine lv_icmp_ne (tgt := 50) hx hb dX8_isRight_27 (by decide) (fun c => ?_) (fun c => absurd c (by decide))
  refine lv_iconst (v := 0) hx hb dX8_isRight_50 (by decide) ?_
  exact kr_z () hx hb hr rfl hlocks hP hD hS rfl dX8_isRight_51
set_option maxHeartbeats 4000000 in
set_option maxRecDepth 100000 in
theorem K222_X8_number (l : Launch) (D : va_G) (cB cI cZ : ClassId) (sz : Nat) (h0 : Nat)    :
    CtI l D cB cI cZ yX8_number wsX8_number { frames := 0, cells := 0, slots := 0, locals := 0 } [.ref h0, .int 4117, .int 2] [(h0, .inl (cB, 65536, .inl zf))] sz 0 0
      (fun (r : Int32) (u : Unit) => r = 0)
      (fun u => [(h0, .inl (cB, 65536, .inl zf))]) := by
  refine mk_metI (cc := cX8_number) (maxL := 5) (ret := (some .int)) (by decide) rfl (Nat.le_of_ble_eq_true rfl) ?_
  intro p e s m below meth c A hx hb hr hml hts hown hlocks hin hP hK hN hD hA hS ls hl
  have hown : s.vm.findClass RX8 = some m.cls := hown
  have hl : lv_has ls 5 [(0, .ref h0), (1, .int 4117), (2, .int 2)] := hl
  refine lv_iconst (v := 0) hx hb dX8_number_0 (by decide) ?_
  refine lv_istore_n (lv' := [(3, .int 0), (0, .ref h0), (1, .int 4117), (2, .int 2)]) hx hb dX8_number_1 rfl hl (by decide) rfl (fun ls hl => ?_)
  refine lv_iconst (v := 0) hx hb dX8_number_2 (by decide) ?_
  refine lv_istore (lv' := [(4, .int 0), (3, .int 0), (0, .ref h0), (1, .int 4117), (2, .int 2)]) hx hb dX8_number_3 hl (by decide) rfl (fun ls hl => ?_)
  refine lv_iload hx hb dX8_number_5 (lv_at hl 0 rfl) ?_
  refine lv_iload_n hx hb dX8_number_7 rfl (lv_at hl 4 rfl) ?_
  refine lv_icmp_ge (tgt := 33) hx hb dX8_number_8 (by decide) (fun c => absurd c (by decide)) (fun c => ?_)
  refine lv_iload_n hx hb dX8_number_11 rfl (lv_at hl 1 rfl) ?_
  refine lv_bipush (v := 8) hx hb dX8_number_12 (by decide) ?_
  refine lv_ishl hx hb dX8_number_14 ?_
  refine lv_topi (fun z_1 ez_1 => ?_)
  obtain rfl : z_1 = 0 := ez_1.trans (by decide)
  refine lv_aload_n hx hb dX8_number_15 rfl (lv_at hl 2 rfl) ?_
  refine lv_iload_n hx hb dX8_number_16 rfl (lv_at hl 3 rfl) ?_
  refine lv_iload hx hb dX8_number_17 (lv_at hl 0 rfl) ?_
  refine lv_iadd hx hb dX8_number_19 ?_
  refine lv_topi (fun z_2 ez_2 => ?_)
  obtain rfl : z_2 = 4117 := ez_2.trans (by decide)
  refine va_bald hx hb hK hP 0 0 rfl rfl (ti_in (a := 4117) (by decide) (by decide) (by decide)) dX8_number_20 ?_
  refine lv_topi (fun z_3 ez_3 => ?_)
  obtain rfl : z_3 = 0 := ez_3
  refine lv_sipush (v := 255) hx hb dX8_number_21 (by decide) ?_
  refine lv_iand hx hb dX8_number_24 ?_
  refine lv_topi (fun z_4 ez_4 => ?_)
  obtain rfl : z_4 = 0 := ez_4.trans (by decide)
  refine lv_ior hx hb dX8_number_25 ?_
  refine lv_topi (fun z_5 ez_5 => ?_)
  obtain rfl : z_5 = 0 := ez_5.trans (by decide)
  refine lv_istore_n (lv' := [(3, .int 0), (4, .int 0), (0, .ref h0), (1, .int 4117), (2, .int 2)]) hx hb dX8_number_26 rfl hl (by decide) rfl (fun ls hl => ?_)
  refine lv_iinc (v := 1) (lv' := [(4, .int 1), (3, .int 0), (0, .ref h0), (1, .int 4117), (2, .int 2)]) hx hb dX8_number_27 hl (k := 1) rfl (by decide) (by decide) rfl (fun ls hl => ?_)
  refine lv_goto (tgt := 5) hx hb dX8_number_30 (by decide) ?_
  refine lv_iload hx hb dX8_number_5 (lv_at hl 0 rfl) ?_
  refine lv_iload_n hx hb dX8_number_7 rfl (lv_at hl 4 rfl) ?_
  refine lv_icmp_ge (tgt := 33) hx hb dX8_number_8 (by decide) (fun c => absurd c (by decide)) (fun c => ?_)
  refine lv_iload_n hx hb dX8_number_11 rfl (lv_at hl 1 rfl) ?_
  refine lv_bipush (v := 8) hx hb dX8_number_12 (by decide) ?_
  refine lv_ishl hx hb dX8_number_14 ?_
  refine lv_topi (fun z_6 ez_6 => ?_)
  obtain rfl : z_6 = 0 := ez_6.trans (by decide)
  refine lv_aload_n hx hb dX8_number_15 rfl (lv_at hl 2 rfl) ?_
  refine lv_iload_n hx hb dX8_number_16 rfl (lv_at hl 3 rfl) ?_
  refine lv_iload hx hb dX8_number_17 (lv_at hl 0 rfl) ?_
  refine lv_iadd hx hb dX8_number_19 ?_
  refine lv_topi (fun z_7 ez_7 => ?_)
  obtain rfl : z_7 = 4118 := ez_7.trans (by decide)
  refine va_bald hx hb hK hP 0 0 rfl rfl (ti_in (a := 4118) (by decide) (by decide) (by decide)) dX8_number_20 ?_
  refine lv_topi (fun z_8 ez_8 => ?_)
  obtain rfl : z_8 = 0 := ez_8
  refine lv_sipush (v := 255) hx hb dX8_number_21 (by decide) ?_
  refine lv_iand hx hb dX8_number_24 ?_
  refine lv_topi (fun z_9 ez_9 => ?_)
  obtain rfl : z_9 = 0 := ez_9.trans (by decide)
  refine lv_ior hx hb dX8_number_25 ?_
  refine lv_topi (fun z_10 ez_10 => ?_)
  obtain rfl : z_10 = 0 := ez_10.trans (by decide)
  refine lv_istore_n (lv' := [(3, .int 0), (4, .int 1), (0, .ref h0), (1, .int 4117), (2, .int 2)]) hx hb dX8_number_26 rfl hl (by decide) rfl (fun ls hl => ?_)
  refine lv_iinc (v := 2) (lv' := [(4, .int 2), (3, .int 0), (0, .ref h0), (1, .int 4117), (2, .int 2)]) hx hb dX8_number_27 hl (k := 1) rfl (by decide) (by decide) rfl (fun ls hl => ?_)
  refine lv_goto (tgt := 5) hx hb dX8_number_30 (by decide) ?_
  refine lv_iload hx hb dX8_number_5 (lv_at hl 0 rfl) ?_
  refine lv_iload_n hx hb dX8_number_7 rfl (lv_at hl 4 rfl) ?_
  refine lv_icmp_ge (tgt := 33) hx hb dX8_number_8 (by decide) (fun c => ?_) (fun c => absurd (by decide) c)
  refine lv_iload_n hx hb dX8_number_33 rfl (lv_at hl 1 rfl) ?_
  exact kr_i () hx hb hr hlocks hP hD hS rfl dX8_number_34
set_option maxHeartbeats 4000000 in
set_option maxRecDepth 100000 in
theorem K221_X8_isRight (l : Launch) (D : va_G) (cB cI cZ : ClassId) (sz : Nat) (h0 : Nat) (h1 : Nat)  (g0 : Value) (g1 : Value) (g2 : Value) (g3 : Value) (g4 : Value) (g5 : Value) (g6 : Value) (g7 : Value) (g8 : Value) (g9 : Value) (g10 : Value) (g11 : Value) (g12 : Value) (g13 : Value) (g14 : Value) (g15 : Value) (g16 : Value) (g17 : Value) (g18 : Value) (g19 : Value) (g20 : Value) (g21 : Value) (g22 : Value) (g23 : Value) (g24 : Value) (g25 : Value) (g26 : Value) (g27 : Value) (g28 : Value)  :
    CtI l D cB cI cZ yX8_isRight wsX8_isRight { frames := 1, cells := 0, slots := 0, locals := 24 } [.ref h0, .int 1] [(h0, .inr (7, [g0, g1, .ref h1, g2, g3, g4, g5, g6, g7, g8, g9, g10, g11, g12, g13, g14, g15, g16, g17, g18, g19, g20, g21, g22, g23, g24, g25, g26, g27, g28])), (h1, .inl (cB, 65536, .inl zf))] sz 0 0
      (fun (r : Int32) (u : Unit) => r = 0)
      (fun u => [(h0, .inr (7, [g0, g1, .ref h1, g2, g3, g4, g5, g6, g7, g8, g9, g10, g11, g12, g13, g14, g15, g16, g17, g18, g19, g20, g21, g22, g23, g24, g25, g26, g27, g28])), (h1, .inl (cB, 65536, .inl zf))]) := by
  refine mk_metI (cc := cX8_isRight) (maxL := 11) (ret := (some .boolean)) (by decide) rfl (Nat.le_of_ble_eq_true rfl) ?_
  intro p e s m below meth c A hx hb hr hml hts hown hlocks hin hP hK hN hD hA hS ls hl
  have hown : s.vm.findClass RX8 = some m.cls := hown
  have hl : lv_has ls 11 [(0, .ref h0), (1, .int 1)] := hl
  refine lv_sipush (v := 4096) hx hb dX8_isRight_0 (by decide) ?_
  refine lv_iload_n hx hb dX8_isRight_3 rfl (lv_at hl 1 rfl) ?_
  refine lv_imul hx hb dX8_isRight_4 ?_
  refine lv_topi (fun z_1 ez_1 => ?_)
  obtain rfl : z_1 = 4096 := ez_1.trans (by decide)
  refine lv_istore_n (lv' := [(2, .int 4096), (0, .ref h0), (1, .int 1)]) hx hb dX8_isRight_5 rfl hl (by decide) rfl (fun ls hl => ?_)
  refine lv_aload_n hx hb dX8_isRight_6 rfl (lv_at hl 1 rfl) ?_
  refine va_get (D := D) (ci := 7) (v := .ref h1) (C := RX8) (T := TX8) (N := 30) hx hb hts inX8_isRight_X8 hown hK hP 0 rfl rfl 2 (by decide) (hts _ wdX8_isRight_0) (fun _ h9 => h9) rfl dX8_isRight_7 ?_
  refine lv_iload_n hx hb dX8_isRight_10 rfl (lv_at hl 0 rfl) ?_
  refine lv_bipush (v := 21) hx hb dX8_isRight_11 (by decide) ?_
  refine lv_iadd hx hb dX8_isRight_13 ?_
  refine lv_topi (fun z_2 ez_2 => ?_)
  obtain rfl : z_2 = 4117 := ez_2.trans (by decide)
  refine lv_iconst (v := 2) hx hb dX8_isRight_14 (by decide) ?_
  refine kc_i (wr := [(h0, .inr (7, [g0, g1, .ref h1, g2, g3, g4, g5, g6, g7, g8, g9, g10, g11, g12, g13, g14, g15, g16, g17, g18, g19, g20, g21, g22, g23, g24, g25, g26, g27, g28]))]) (va_runS (As := [.ref h1, .int 4117, .int 2]) (rest := []) ⟨hx, hb, hml, hown, hts⟩ (K222_X8_number l D cB cI cZ _ h1) (va_cwS 3 hts gX8_isRight_X8_number rfl rfl rfl (by decide +kernel) ⟨Nat.le_of_ble_eq_true rfl, Nat.le_of_ble_eq_true rfl⟩) (pre_S (hP.sub [1] rfl) hK hN (hD.sub [1] (by decide) rfl)) rfl rfl hl.1 rfl (lv_room (Nat.le_of_ble_eq_true rfl)) dX8_isRight_15 ⟨Nat.le_of_ble_eq_true rfl, Nat.le_of_ble_eq_true rfl⟩) hP hD hS hA [1] [0] rfl rfl (by decide) (by decide) (fun r_3 u H locs hw hP hD hS => ?_)
  have k_4 := hw
  obtain rfl : r_3 = 0 := k_4
  have hP : va_P D vwCl [(h0, .inr (7, [g0, g1, .ref h1, g2, g3, g4, g5, g6, g7, g8, g9, g10, g11, g12, g13, g14, g15, g16, g17, g18, g19, g20, g21, g22, g23, g24, g25, g26, g27, g28])), (h1, .inl (cB, 65536, .inl zf))] H := hP
  have hD : va_D A [(h0, .inr (7, [g0, g1, .ref h1, g2, g3, g4, g5, g6, g7, g8, g9, g10, g11, g12, g13, g14, g15, g16, g17, g18, g19, g20, g21, g22, g23, g24, g25, g26, g27, g28])), (h1, .inl (cB, 65536, .inl zf))] := hD
  refine lv_istore_n (lv' := [(3, .int 0), (2, .int 4096), (0, .ref h0), (1, .int 1)]) hx hb dX8_isRight_18 rfl hl (by decide) rfl (fun ls hl => ?_)
  refine lv_aload_n hx hb dX8_isRight_19 rfl (lv_at hl 2 rfl) ?_
  refine va_get (D := D) (ci := 7) (v := .ref h1) (C := RX8) (T := TX8) (N := 30) hx hb hts inX8_isRight_X8 hown hK hP 0 rfl rfl 2 (by decide) (hts _ wdX8_isRight_0) (fun _ h9 => h9) rfl dX8_isRight_20 ?_
  refine lv_iload_n hx hb dX8_isRight_23 rfl (lv_at hl 1 rfl) ?_
  refine va_bald hx hb hK hP 1 0 rfl rfl (ti_in (a := 4096) (by decide) (by decide) (by decide)) dX8_isRight_24 ?_
  refine lv_topi (fun z_5 ez_5 => ?_)
  obtain rfl : z_5 = 0 := ez_5
  refine lv_bipush (v := 67) hx hb dX8_isRight_25 (by decide) ?_
  refine lv_icmp_ne (tgt := 50) hx hb dX8_isRight_27 (by decide) (fun c => ?_) (fun c => absurd c (by decide))
  refine lv_iconst (v := 0) hx hb dX8_isRight_50 (by decide) ?_
  exact kr_z () hx hb hr rfl hlocks hP hD hS rfl dX8_isRight_51
set_option maxHeartbeats 4000000 in
set_option maxRecDepth 100000 in
theorem K224_X8_at (l : Launch) (D : va_G) (cB cI cZ : ClassId) (sz : Nat)   (p0 : Int32) (i_p0 : 8 ≤ p0.toInt ∧ p0.toInt ≤ 63) :
    CtI l D cB cI cZ yX8_at wsX8_at { frames := 0, cells := 0, slots := 0, locals := 0 } [.int p0, .int 0] [] sz 0 0
      (fun (r : Int32) (u : Unit) => 8192 ≤ r.toInt ∧ r.toInt ≤ 64512)
      (fun u => []) := by
  refine mk_metI (cc := cX8_at) (maxL := 2) (ret := (some .int)) (by decide) rfl (Nat.le_of_ble_eq_true rfl) ?_
  intro p e s m below meth c A hx hb hr hml hts hown hlocks hin hP hK hN hD hA hS ls hl
  have hown : s.vm.findClass RX8 = some m.cls := hown
  have hl : lv_has ls 2 [(0, .int p0), (1, .int 0)] := hl
  refine lv_sipush (v := 1024) hx hb dX8_at_0 (by decide) ?_
  refine lv_iload_n hx hb dX8_at_3 rfl (lv_at hl 0 rfl) ?_
  refine lv_imul hx hb dX8_at_4 ?_
  refine lv_topi (fun x_1 ex_1 => ?_)
  have tx_1 : x_1.toInt = 1024 * p0.toInt := by rw [ex_1]; exact ti_mul (by decide) rfl (by omega) (by omega)
  refine lv_iload_n hx hb dX8_at_5 rfl (lv_at hl 1 rfl) ?_
  refine lv_iadd hx hb dX8_at_6 ?_
  refine lv_topi (fun x_2 ex_2 => ?_)
  have tx_2 : x_2.toInt = x_1.toInt + 0 := by rw [ex_2]; exact ti_add rfl (by decide) (by omega) (by omega)
  exact kr_i () hx hb hr hlocks hP hD hS ⟨(by show 8192 ≤ Int32.toInt x_2; omega), (by show Int32.toInt x_2 ≤ 64512; omega)⟩ dX8_at_7
set_option maxHeartbeats 4000000 in
set_option maxRecDepth 100000 in
theorem K223_X8_goesOn (l : Launch) (D : va_G) (cB cI cZ : ClassId) (sz : Nat) (h0 : Nat) (h1 : Nat) (h2 : Nat)  (g0 : Value) (g1 : Value) (g2 : Value) (g3 : Value) (g4 : Value) (g5 : Value) (g6 : Value) (g7 : Value) (g8 : Value) (g9 : Value) (g10 : Value) (g11 : Value) (g12 : Value) (g13 : Value) (g14 : Value) (g15 : Value) (g16 : Value) (g17 : Value) (g18 : Value) (g19 : Value) (g20 : Value) (g21 : Value) (g22 : Value) (g23 : Value) (g24 : Value) (g25 : Value) (g26 : Value) (g27 : Value)  :
    CtI l D cB cI cZ yX8_goesOn wsX8_goesOn { frames := 1, cells := 0, slots := 0, locals := 21 } [.ref h0] [(h0, .inr (7, [g0, g1, g2, .ref h1, g3, .ref h2, g4, g5, g6, g7, g8, g9, g10, g11, g12, g13, g14, g15, g16, g17, g18, g19, g20, g21, g22, g23, g24, g25, g26, g27])), (h1, .inl (cB, 65536, .inl zf)), (h2, .inl (cI, 64, .inl zf))] sz 0 0
      (fun (r : Int32) (u : Unit) => r = 0)
      (fun u => [(h0, .inr (7, [g0, g1, g2, .ref h1, g3, .ref h2, g4, g5, g6, g7, g8, g9, g10, g11, g12, g13, g14, g15, g16, g17, g18, g19, g20, g21, g22, g23, g24, g25, g26, g27])), (h1, .inl (cB, 65536, .inl zf)), (h2, .inl (cI, 64, .inl zf))]) := by
  refine mk_metI (cc := cX8_goesOn) (maxL := 4) (ret := (some .boolean)) (by decide) rfl (Nat.le_of_ble_eq_true rfl) ?_
  intro p e s m below meth c A hx hb hr hml hts hown hlocks hin hP hK hN hD hA hS ls hl
  have hown : s.vm.findClass RX8 = some m.cls := hown
  have hl : lv_has ls 4 [(0, .ref h0)] := hl
  refine lv_bipush (v := 8) hx hb dX8_goesOn_0 (by decide) ?_
  refine lv_istore_n (lv' := [(1, .int 8), (0, .ref h0)]) hx hb dX8_goesOn_2 rfl hl (by decide) rfl (fun ls hl => ?_)
  refine kl (α := Int32) (fun n a H locs ls => (8 ≤ Int32.toInt a) ∧ (Int32.toInt a ≤ 64) ∧ (64 - Int32.toInt a < ((n : Nat) : Int)) ∧ va_P D vwCl [(h0, .inr (7, [g0, g1, g2, .ref h1, g3, .ref h2, g4, g5, g6, g7, g8, g9, g10, g11, g12, g13, g14, g15, g16, g17, g18, g19, g20, g21, g22, g23, g24, g25, g26, g27])), (h1, .inl (cB, 65536, .inl zf)), (h2, .inl (cI, 64, .inl zf))] H ∧ va_D A [(h0, .inr (7, [g0, g1, g2, .ref h1, g3, .ref h2, g4, g5, g6, g7, g8, g9, g10, g11, g12, g13, g14, g15, g16, g17, g18, g19, g20, g21, g22, g23, g24, g25, g26, g27])), (h1, .inl (cB, 65536, .inl zf)), (h2, .inl (cI, 64, .inl zf))] ∧ va_S A s.heap H locs ∧ lv_has ls 4 [(1, .int a), (0, .ref h0)]) 57 8 ⟨(by show 8 ≤ Int32.toInt 8; decide), (by show Int32.toInt 8 ≤ 64; decide), (by show 64 - Int32.toInt 8 < ((57 : Nat) : Int); have := (by decide : Int32.toInt 8 = 8); omega), hP, hD, hS, hl⟩ (fun a H locs ls h => ?_) (fun n_2 ih_3 a H locs ls h => ?_)
  · obtain ⟨j_4, j_5, j_6, _⟩ := h
    omega
  obtain ⟨v_1, rfl⟩ : ∃ z, z = a := ⟨_, rfl⟩
  obtain ⟨j_4, j_5, j_6, hP, hD, hS, hl⟩ := h
  have j_4 : 8 ≤ Int32.toInt v_1 := j_4
  have j_5 : Int32.toInt v_1 ≤ 64 := j_5
  have j_6 : 64 - Int32.toInt v_1 < ((n_2 + 1 : Nat) : Int) := j_6
  have hP : va_P D vwCl [(h0, .inr (7, [g0, g1, g2, .ref h1, g3, .ref h2, g4, g5, g6, g7, g8, g9, g10, g11, g12, g13, g14, g15, g16, g17, g18, g19, g20, g21, g22, g23, g24, g25, g26, g27])), (h1, .inl (cB, 65536, .inl zf)), (h2, .inl (cI, 64, .inl zf))] H := hP
  have hD : va_D A [(h0, .inr (7, [g0, g1, g2, .ref h1, g3, .ref h2, g4, g5, g6, g7, g8, g9, g10, g11, g12, g13, g14, g15, g16, g17, g18, g19, g20, g21, g22, g23, g24, g25, g26, g27])), (h1, .inl (cB, 65536, .inl zf)), (h2, .inl (cI, 64, .inl zf))] := hD
  have hl : lv_has ls 4 [(1, .int v_1), (0, .ref h0)] := hl
  refine lv_iload_n hx hb dX8_goesOn_3 rfl (lv_at hl 0 rfl) ?_
  refine lv_bipush (v := 64) hx hb dX8_goesOn_4 (by decide) ?_
  refine lv_icmp_ge (tgt := 176) hx hb dX8_goesOn_6 (by decide) (fun c => ?_) (fun c => ?_)
  · skip
    have k_7 := (ti_le (x := 64) (y := v_1) (a := 64) (b := v_1.toInt) (by decide) rfl).mp c
    obtain rfl : v_1 = 64 := ti_inj (a := 64) (by decide) (by omega)
    refine lv_iconst (v := 0) hx hb dX8_goesOn_176 (by decide) ?_
    exact kr_z () hx hb hr rfl hlocks hP hD hS rfl dX8_goesOn_177
  · skip
    have k_8 := mt (ti_le (x := 64) (y := v_1) (a := 64) (b := v_1.toInt) (by decide) rfl).mpr c
    refine lv_iload_n hx hb dX8_goesOn_9 rfl (lv_at hl 0 rfl) ?_
    refine lv_iconst (v := 0) hx hb dX8_goesOn_10 (by decide) ?_
    refine kc_i (wr := [(h0, .inr (7, [g0, g1, g2, .ref h1, g3, .ref h2, g4, g5, g6, g7, g8, g9, g10, g11, g12, g13, g14, g15, g16, g17, g18, g19, g20, g21, g22, g23, g24, g25, g26, g27])), (h1, .inl (cB, 65536, .inl zf)), (h2, .inl (cI, 64, .inl zf))]) (va_runS (As := [.int v_1, .int 0]) (rest := []) ⟨hx, hb, hml, hown, hts⟩ (K224_X8_at l D cB cI cZ _ v_1 ⟨by omega, by omega⟩) (va_cwS 2 hts gX8_goesOn_X8_at rfl rfl rfl (by decide +kernel) ⟨Nat.le_of_ble_eq_true rfl, Nat.le_of_ble_eq_true rfl⟩) (pre_S (hP.sub [] rfl) hK hN (hD.sub [] (by decide) rfl)) rfl rfl hl.1 rfl (lv_room (Nat.le_of_ble_eq_true rfl)) dX8_goesOn_11 ⟨Nat.le_of_ble_eq_true rfl, Nat.le_of_ble_eq_true rfl⟩) hP hD hS hA [] [0, 1, 2] rfl rfl (by decide) (by decide) (fun r_9 u H locs hw hP hD hS => ?_)
    obtain ⟨k_10, k_11⟩ := hw
    have k_10 : 8192 ≤ r_9.toInt := k_10
    have k_11 : r_9.toInt ≤ 64512 := k_11
    have hP : va_P D vwCl [(h0, .inr (7, [g0, g1, g2, .ref h1, g3, .ref h2, g4, g5, g6, g7, g8, g9, g10, g11, g12, g13, g14, g15, g16, g17, g18, g19, g20, g21, g22, g23, g24, g25, g26, g27])), (h1, .inl (cB, 65536, .inl zf)), (h2, .inl (cI, 64, .inl zf))] H := hP
    have hD : va_D A [(h0, .inr (7, [g0, g1, g2, .ref h1, g3, .ref h2, g4, g5, g6, g7, g8, g9, g10, g11, g12, g13, g14, g15, g16, g17, g18, g19, g20, g21, g22, g23, g24, g25, g26, g27])), (h1, .inl (cB, 65536, .inl zf)), (h2, .inl (cI, 64, .inl zf))] := hD
    refine lv_istore_n (lv' := [(2, .int r_9), (1, .int v_1), (0, .ref h0)]) hx hb dX8_goesOn_14 rfl hl (by decide) rfl (fun ls hl => ?_)
    refine lv_aload_n hx hb dX8_goesOn_15 rfl (lv_at hl 2 rfl) ?_
    refine va_get (D := D) (ci := 7) (v := .ref h2) (C := RX8) (T := TX8) (N := 30) hx hb hts inX8_goesOn_X8 hown hK hP 0 rfl rfl 5 (by decide) (hts _ wdX8_goesOn_0) (fun _ h9 => h9) rfl dX8_goesOn_16 ?_
    refine lv_iload_n hx hb dX8_goesOn_19 rfl (lv_at hl 1 rfl) ?_
    refine va_iald hx hb hK hP 2 1 rfl rfl (ti_in (a := v_1.toInt) rfl (by omega) (by omega)) dX8_goesOn_20 ?_
    refine lv_topi (fun z_12 ez_12 => ?_)
    obtain rfl : z_12 = 0 := ez_12
    refine lv_if_ne (tgt := 107) hx hb dX8_goesOn_21 (by decide) (fun c => absurd (by decide) c) (fun c => ?_)
    refine lv_aload_n hx hb dX8_goesOn_24 rfl (lv_at hl 2 rfl) ?_
    refine va_get (D := D) (ci := 7) (v := .ref h1) (C := RX8) (T := TX8) (N := 30) hx hb hts inX8_goesOn_X8 hown hK hP 0 rfl rfl 3 (by decide) (hts _ wdX8_goesOn_1) (fun _ h9 => h9) rfl dX8_goesOn_25 ?_
    refine lv_iload_n hx hb dX8_goesOn_28 rfl (lv_at hl 0 rfl) ?_
    refine va_bald hx hb hK hP 1 0 rfl rfl (ti_in (a := r_9.toInt) rfl (by omega) (by omega)) dX8_goesOn_29 ?_
    refine lv_topi (fun z_13 ez_13 => ?_)
    obtain rfl : z_13 = 0 := ez_13
    refine lv_bipush (v := 76) hx hb dX8_goesOn_30 (by decide) ?_
    refine lv_icmp_ne (tgt := 107) hx hb dX8_goesOn_32 (by decide) (fun c => ?_) (fun c => absurd c (by decide))
    refine lv_iconst (v := 0) hx hb dX8_goesOn_107 (by decide) ?_
    refine lv_istore_n (lv' := [(3, .int 0), (2, .int r_9), (1, .int v_1), (0, .ref h0)]) hx hb dX8_goesOn_108 rfl hl (by decide) rfl (fun ls hl => ?_)
    refine lv_iload_n hx hb dX8_goesOn_109 rfl (lv_at hl 0 rfl) ?_
    refine lv_if_eq (tgt := 170) hx hb dX8_goesOn_110 (by decide) (fun c => ?_) (fun c => absurd (by decide) c)
    obtain ⟨x_14, ex_14⟩ : ∃ y : Int32, y = v_1 + 1 := ⟨_, rfl⟩
    have tx_14 : x_14.toInt = v_1.toInt + 1 := by rw [ex_14]; exact ti_add rfl (by decide) (by omega) (by omega)
    refine lv_iinc (v := x_14) (lv' := [(1, .int x_14), (3, .int 0), (2, .int r_9), (0, .ref h0)]) hx hb dX8_goesOn_170 hl (k := 2) rfl (by rw [ex_14]; rfl) (by decide) rfl (fun ls hl => ?_)
    refine lv_goto (tgt := 3) hx hb dX8_goesOn_173 (by decide) ?_
    exact ih_3 x_14 _ _ _ ⟨(by show 8 ≤ Int32.toInt x_14; omega), (by show Int32.toInt x_14 ≤ 64; omega), (by show 64 - Int32.toInt x_14 < ((n_2 : Nat) : Int); omega), hP, hD, hS, (lv_sub hl [0, 3] rfl)⟩
set_option maxHeartbeats 4000000 in
set_option maxRecDepth 100000 in
theorem K218_X8_start (l : Launch) (D : va_G) (cB cI cZ : ClassId) (sz : Nat) (h0 : Nat) (h1 : Nat) (h2 : Nat) (h3 : Nat) (h4 : Nat) (h5 : Nat)  (g0 : Value) (g1 : Value) (g2 : Value) (g3 : Value) (g4 : Value) (g5 : Value) (g6 : Value) (g7 : Value) (g8 : Value) (g9 : Value) (g10 : Value) (g11 : Value) (g12 : Value) (g13 : Value) (g14 : Value) (g15 : Value) (g16 : Value) (g17 : Value) (g18 : Value) (g19 : Value) (g20 : Value) (g21 : Value) (g22 : Value)  :
    CtI l D cB cI cZ yX8_start wsX8_start { frames := 2, cells := 0, slots := 0, locals := 54 } [.ref h0] [(h0, .inr (7, [g0, g1, .ref h1, .ref h2, g2, .ref h3, .int 0, .int 0, g3, g4, g5, g6, g7, g8, g9, g10, .ref h4, g11, g12, g13, g14, g15, g16, g17, g18, g19, .ref h5, g20, g21, g22])), (h1, .inl (cB, 65536, .inl zf)), (h2, .inl (cB, 65536, .inl zf)), (h3, .inl (cI, 64, .inl zf)), (h4, .inl (cI, 300, .inl zf)), (h5, .inl (cI, 64, .inl zf))] sz 0 0
      (fun (r : Int32) (u : Unit) => r = 0)
      (fun u => []) := by
  refine mk_metI (cc := cX8_start) (maxL := 8) (ret := (some .int)) (by decide) rfl (Nat.le_of_ble_eq_true rfl) ?_
  intro p e s m below meth c A hx hb hr hml hts hown hlocks hin hP hK hN hD hA hS ls hl
  have hown : s.vm.findClass RX8 = some m.cls := hown
  have hl : lv_has ls 8 [(0, .ref h0)] := hl
  refine lv_aload_n hx hb dX8_start_0 rfl (lv_at hl 0 rfl) ?_
  refine lv_iconst (v := 0) hx hb dX8_start_1 (by decide) ?_
  refine va_put (D := D) (ci := 7) (v := .int 0) (ty := .int) (C := RX8) (T := TX8) (N := 30) hx hb hts inX8_start_X8 tyX8 tyX8_ok nmX8 hown hK hP hD hS 0 rfl rfl 0 (by decide) (hts _ wdX8_start_0) (fun _ h9 => h9) rfl (by decide +kernel) rfl rfl (Nat.le_of_ble_eq_true rfl) dX8_start_2 (fun H locs hP hD hS => ?_)
  have hP : va_P D vwCl [(h0, .inr (7, [.int 0, g1, .ref h1, .ref h2, g2, .ref h3, .int 0, .int 0, g3, g4, g5, g6, g7, g8, g9, g10, .ref h4, g11, g12, g13, g14, g15, g16, g17, g18, g19, .ref h5, g20, g21, g22])), (h1, .inl (cB, 65536, .inl zf)), (h2, .inl (cB, 65536, .inl zf)), (h3, .inl (cI, 64, .inl zf)), (h4, .inl (cI, 300, .inl zf)), (h5, .inl (cI, 64, .inl zf))] H := hP
  have hD : va_D A [(h0, .inr (7, [.int 0, g1, .ref h1, .ref h2, g2, .ref h3, .int 0, .int 0, g3, g4, g5, g6, g7, g8, g9, g10, .ref h4, g11, g12, g13, g14, g15, g16, g17, g18, g19, .ref h5, g20, g21, g22])), (h1, .inl (cB, 65536, .inl zf)), (h2, .inl (cB, 65536, .inl zf)), (h3, .inl (cI, 64, .inl zf)), (h4, .inl (cI, 300, .inl zf)), (h5, .inl (cI, 64, .inl zf))] := hD
  refine lv_aload_n hx hb dX8_start_5 rfl (lv_at hl 0 rfl) ?_
  refine lv_iconst (v := 0) hx hb dX8_start_6 (by decide) ?_
  refine va_put (D := D) (ci := 7) (v := .int 0) (ty := .boolean) (C := RX8) (T := TX8) (N := 30) hx hb hts inX8_start_X8 tyX8 tyX8_ok nmX8 hown hK hP hD hS 0 rfl rfl 1 (by decide) (hts _ wdX8_start_1) (fun _ h9 => h9) rfl (by decide +kernel) rfl rfl (Nat.le_of_ble_eq_true rfl) dX8_start_7 (fun H locs hP hD hS => ?_)
  have hP : va_P D vwCl [(h0, .inr (7, [.int 0, .int 0, .ref h1, .ref h2, g2, .ref h3, .int 0, .int 0, g3, g4, g5, g6, g7, g8, g9, g10, .ref h4, g11, g12, g13, g14, g15, g16, g17, g18, g19, .ref h5, g20, g21, g22])), (h1, .inl (cB, 65536, .inl zf)), (h2, .inl (cB, 65536, .inl zf)), (h3, .inl (cI, 64, .inl zf)), (h4, .inl (cI, 300, .inl zf)), (h5, .inl (cI, 64, .inl zf))] H := hP
  have hD : va_D A [(h0, .inr (7, [.int 0, .int 0, .ref h1, .ref h2, g2, .ref h3, .int 0, .int 0, g3, g4, g5, g6, g7, g8, g9, g10, .ref h4, g11, g12, g13, g14, g15, g16, g17, g18, g19, .ref h5, g20, g21, g22])), (h1, .inl (cB, 65536, .inl zf)), (h2, .inl (cB, 65536, .inl zf)), (h3, .inl (cI, 64, .inl zf)), (h4, .inl (cI, 300, .inl zf)), (h5, .inl (cI, 64, .inl zf))] := hD
  refine lv_aload_n hx hb dX8_start_10 rfl (lv_at hl 0 rfl) ?_
  refine lv_iconst (v := 0) hx hb dX8_start_11 (by decide) ?_
  refine va_put (D := D) (ci := 7) (v := .int 0) (ty := .int) (C := RX8) (T := TX8) (N := 30) hx hb hts inX8_start_X8 tyX8 tyX8_ok nmX8 hown hK hP hD hS 0 rfl rfl 14 (by decide) (hts _ wdX8_start_2) (fun _ h9 => h9) rfl (by decide +kernel) rfl rfl (Nat.le_of_ble_eq_true rfl) dX8_start_12 (fun H locs hP hD hS => ?_)
  have hP : va_P D vwCl [(h0, .inr (7, [.int 0, .int 0, .ref h1, .ref h2, g2, .ref h3, .int 0, .int 0, g3, g4, g5, g6, g7, g8, .int 0, g10, .ref h4, g11, g12, g13, g14, g15, g16, g17, g18, g19, .ref h5, g20, g21, g22])), (h1, .inl (cB, 65536, .inl zf)), (h2, .inl (cB, 65536, .inl zf)), (h3, .inl (cI, 64, .inl zf)), (h4, .inl (cI, 300, .inl zf)), (h5, .inl (cI, 64, .inl zf))] H := hP
  have hD : va_D A [(h0, .inr (7, [.int 0, .int 0, .ref h1, .ref h2, g2, .ref h3, .int 0, .int 0, g3, g4, g5, g6, g7, g8, .int 0, g10, .ref h4, g11, g12, g13, g14, g15, g16, g17, g18, g19, .ref h5, g20, g21, g22])), (h1, .inl (cB, 65536, .inl zf)), (h2, .inl (cB, 65536, .inl zf)), (h3, .inl (cI, 64, .inl zf)), (h4, .inl (cI, 300, .inl zf)), (h5, .inl (cI, 64, .inl zf))] := hD
  refine lv_aload_n hx hb dX8_start_15 rfl (lv_at hl 0 rfl) ?_
  refine lv_iconst (v := 0) hx hb dX8_start_16 (by decide) ?_
  refine va_put (D := D) (ci := 7) (v := .int 0) (ty := .int) (C := RX8) (T := TX8) (N := 30) hx hb hts inX8_start_X8 tyX8 tyX8_ok nmX8 hown hK hP hD hS 0 rfl rfl 18 (by decide) (hts _ wdX8_start_3) (fun _ h9 => h9) rfl (by decide +kernel) rfl rfl (Nat.le_of_ble_eq_true rfl) dX8_start_17 (fun H locs hP hD hS => ?_)
  have hP : va_P D vwCl [(h0, .inr (7, [.int 0, .int 0, .ref h1, .ref h2, g2, .ref h3, .int 0, .int 0, g3, g4, g5, g6, g7, g8, .int 0, g10, .ref h4, g11, .int 0, g13, g14, g15, g16, g17, g18, g19, .ref h5, g20, g21, g22])), (h1, .inl (cB, 65536, .inl zf)), (h2, .inl (cB, 65536, .inl zf)), (h3, .inl (cI, 64, .inl zf)), (h4, .inl (cI, 300, .inl zf)), (h5, .inl (cI, 64, .inl zf))] H := hP
  have hD : va_D A [(h0, .inr (7, [.int 0, .int 0, .ref h1, .ref h2, g2, .ref h3, .int 0, .int 0, g3, g4, g5, g6, g7, g8, .int 0, g10, .ref h4, g11, .int 0, g13, g14, g15, g16, g17, g18, g19, .ref h5, g20, g21, g22])), (h1, .inl (cB, 65536, .inl zf)), (h2, .inl (cB, 65536, .inl zf)), (h3, .inl (cI, 64, .inl zf)), (h4, .inl (cI, 300, .inl zf)), (h5, .inl (cI, 64, .inl zf))] := hD
  refine lv_iconst (v := 0) hx hb dX8_start_20 (by decide) ?_
  refine lv_istore_n (lv' := [(1, .int 0), (0, .ref h0)]) hx hb dX8_start_21 rfl hl (by decide) rfl (fun ls hl => ?_)
  refine kl (α := Int32) (fun n a H locs ls => (0 ≤ Int32.toInt a) ∧ (Int32.toInt a ≤ 65536) ∧ (65536 - Int32.toInt a < ((n : Nat) : Int)) ∧ va_P D vwCl [(h0, .inr (7, [.int 0, .int 0, .ref h1, .ref h2, g2, .ref h3, .int 0, .int 0, g3, g4, g5, g6, g7, g8, .int 0, g10, .ref h4, g11, .int 0, g13, g14, g15, g16, g17, g18, g19, .ref h5, g20, g21, g22])), (h1, .inl (cB, 65536, .inl zf)), (h2, .inl (cB, 65536, .inl zf)), (h3, .inl (cI, 64, .inl zf)), (h4, .inl (cI, 300, .inl zf)), (h5, .inl (cI, 64, .inl zf))] H ∧ va_D A [(h0, .inr (7, [.int 0, .int 0, .ref h1, .ref h2, g2, .ref h3, .int 0, .int 0, g3, g4, g5, g6, g7, g8, .int 0, g10, .ref h4, g11, .int 0, g13, g14, g15, g16, g17, g18, g19, .ref h5, g20, g21, g22])), (h1, .inl (cB, 65536, .inl zf)), (h2, .inl (cB, 65536, .inl zf)), (h3, .inl (cI, 64, .inl zf)), (h4, .inl (cI, 300, .inl zf)), (h5, .inl (cI, 64, .inl zf))] ∧ va_S A s.heap H locs ∧ lv_has ls 8 [(1, .int a), (0, .ref h0)]) 65537 0 ⟨(by show 0 ≤ Int32.toInt 0; decide), (by show Int32.toInt 0 ≤ 65536; decide), (by show 65536 - Int32.toInt 0 < ((65537 : Nat) : Int); have := (by decide : Int32.toInt 0 = 0); omega), hP, hD, hS, hl⟩ (fun a H locs ls h => ?_) (fun n_2 ih_3 a H locs ls h => ?_)
  · obtain ⟨j_4, j_5, j_6, _⟩ := h
    omega
  obtain ⟨v_1, rfl⟩ : ∃ z, z = a := ⟨_, rfl⟩
  obtain ⟨j_4, j_5, j_6, hP, hD, hS, hl⟩ := h
  have j_4 : 0 ≤ Int32.toInt v_1 := j_4
  have j_5 : Int32.toInt v_1 ≤ 65536 := j_5
  have j_6 : 65536 - Int32.toInt v_1 < ((n_2 + 1 : Nat) : Int) := j_6
  have hP : va_P D vwCl [(h0, .inr (7, [.int 0, .int 0, .ref h1, .ref h2, g2, .ref h3, .int 0, .int 0, g3, g4, g5, g6, g7, g8, .int 0, g10, .ref h4, g11, .int 0, g13, g14, g15, g16, g17, g18, g19, .ref h5, g20, g21, g22])), (h1, .inl (cB, 65536, .inl zf)), (h2, .inl (cB, 65536, .inl zf)), (h3, .inl (cI, 64, .inl zf)), (h4, .inl (cI, 300, .inl zf)), (h5, .inl (cI, 64, .inl zf))] H := hP
  have hD : va_D A [(h0, .inr (7, [.int 0, .int 0, .ref h1, .ref h2, g2, .ref h3, .int 0, .int 0, g3, g4, g5, g6, g7, g8, .int 0, g10, .ref h4, g11, .int 0, g13, g14, g15, g16, g17, g18, g19, .ref h5, g20, g21, g22])), (h1, .inl (cB, 65536, .inl zf)), (h2, .inl (cB, 65536, .inl zf)), (h3, .inl (cI, 64, .inl zf)), (h4, .inl (cI, 300, .inl zf)), (h5, .inl (cI, 64, .inl zf))] := hD
  have hl : lv_has ls 8 [(1, .int v_1), (0, .ref h0)] := hl
  refine lv_iload_n hx hb dX8_start_22 rfl (lv_at hl 0 rfl) ?_
  refine lv_ldc (v := 65536) hx hb hown (hts _ wdX8_start_4) dX8_start_23 ?_
  refine lv_icmp_ge (tgt := 46) hx hb dX8_start_25 (by decide) (fun c => ?_) (fun c => ?_)
  · skip
    have k_7 := (ti_le (x := 65536) (y := v_1) (a := 65536) (b := v_1.toInt) (by decide) rfl).mp c
    obtain rfl : v_1 = 65536 := ti_inj (a := 65536) (by decide) (by omega)
    refine lv_iconst (v := 0) hx hb dX8_start_46 (by decide) ?_
    refine lv_istore_n (lv' := [(1, .int 0), (0, .ref h0)]) hx hb dX8_start_47 rfl hl (by decide) rfl (fun ls hl => ?_)
    refine kl (α := Int32) (fun n a H locs ls => (0 ≤ Int32.toInt a) ∧ (Int32.toInt a ≤ 300) ∧ (300 - Int32.toInt a < ((n : Nat) : Int)) ∧ va_P D vwCl [(h0, .inr (7, [.int 0, .int 0, .ref h1, .ref h2, g2, .ref h3, .int 0, .int 0, g3, g4, g5, g6, g7, g8, .int 0, g10, .ref h4, g11, .int 0, g13, g14, g15, g16, g17, g18, g19, .ref h5, g20, g21, g22])), (h1, .inl (cB, 65536, .inl zf)), (h2, .inl (cB, 65536, .inl zf)), (h3, .inl (cI, 64, .inl zf)), (h4, .inl (cI, 300, .inl zf)), (h5, .inl (cI, 64, .inl zf))] H ∧ va_D A [(h0, .inr (7, [.int 0, .int 0, .ref h1, .ref h2, g2, .ref h3, .int 0, .int 0, g3, g4, g5, g6, g7, g8, .int 0, g10, .ref h4, g11, .int 0, g13, g14, g15, g16, g17, g18, g19, .ref h5, g20, g21, g22])), (h1, .inl (cB, 65536, .inl zf)), (h2, .inl (cB, 65536, .inl zf)), (h3, .inl (cI, 64, .inl zf)), (h4, .inl (cI, 300, .inl zf)), (h5, .inl (cI, 64, .inl zf))] ∧ va_S A s.heap H locs ∧ lv_has ls 8 [(1, .int a), (0, .ref h0)]) 301 0 ⟨(by show 0 ≤ Int32.toInt 0; decide), (by show Int32.toInt 0 ≤ 300; decide), (by show 300 - Int32.toInt 0 < ((301 : Nat) : Int); have := (by decide : Int32.toInt 0 = 0); omega), hP, hD, hS, hl⟩ (fun a H locs ls h => ?_) (fun n_9 ih_10 a H locs ls h => ?_)
    · obtain ⟨j_11, j_12, j_13, _⟩ := h
      omega
    obtain ⟨v_8, rfl⟩ : ∃ z, z = a := ⟨_, rfl⟩
    obtain ⟨j_11, j_12, j_13, hP, hD, hS, hl⟩ := h
    have j_11 : 0 ≤ Int32.toInt v_8 := j_11
    have j_12 : Int32.toInt v_8 ≤ 300 := j_12
    have j_13 : 300 - Int32.toInt v_8 < ((n_9 + 1 : Nat) : Int) := j_13
    have hP : va_P D vwCl [(h0, .inr (7, [.int 0, .int 0, .ref h1, .ref h2, g2, .ref h3, .int 0, .int 0, g3, g4, g5, g6, g7, g8, .int 0, g10, .ref h4, g11, .int 0, g13, g14, g15, g16, g17, g18, g19, .ref h5, g20, g21, g22])), (h1, .inl (cB, 65536, .inl zf)), (h2, .inl (cB, 65536, .inl zf)), (h3, .inl (cI, 64, .inl zf)), (h4, .inl (cI, 300, .inl zf)), (h5, .inl (cI, 64, .inl zf))] H := hP
    have hD : va_D A [(h0, .inr (7, [.int 0, .int 0, .ref h1, .ref h2, g2, .ref h3, .int 0, .int 0, g3, g4, g5, g6, g7, g8, .int 0, g10, .ref h4, g11, .int 0, g13, g14, g15, g16, g17, g18, g19, .ref h5, g20, g21, g22])), (h1, .inl (cB, 65536, .inl zf)), (h2, .inl (cB, 65536, .inl zf)), (h3, .inl (cI, 64, .inl zf)), (h4, .inl (cI, 300, .inl zf)), (h5, .inl (cI, 64, .inl zf))] := hD
    have hl : lv_has ls 8 [(1, .int v_8), (0, .ref h0)] := hl
    refine lv_iload_n hx hb dX8_start_48 rfl (lv_at hl 0 rfl) ?_
    refine lv_sipush (v := 300) hx hb dX8_start_49 (by decide) ?_
    refine lv_icmp_ge (tgt := 68) hx hb dX8_start_52 (by decide) (fun c => ?_) (fun c => ?_)
    · skip
      have k_14 := (ti_le (x := 300) (y := v_8) (a := 300) (b := v_8.toInt) (by decide) rfl).mp c
      obtain rfl : v_8 = 300 := ti_inj (a := 300) (by decide) (by omega)
      refine lv_iconst (v := 0) hx hb dX8_start_68 (by decide) ?_
      refine lv_istore_n (lv' := [(1, .int 0), (0, .ref h0)]) hx hb dX8_start_69 rfl hl (by decide) rfl (fun ls hl => ?_)
      refine kl (α := Int32) (fun n a H locs ls => (0 ≤ Int32.toInt a) ∧ (Int32.toInt a ≤ 64) ∧ (64 - Int32.toInt a < ((n : Nat) : Int)) ∧ va_P D vwCl [(h0, .inr (7, [.int 0, .int 0, .ref h1, .ref h2, g2, .ref h3, .int 0, .int 0, g3, g4, g5, g6, g7, g8, .int 0, g10, .ref h4, g11, .int 0, g13, g14, g15, g16, g17, g18, g19, .ref h5, g20, g21, g22])), (h1, .inl (cB, 65536, .inl zf)), (h2, .inl (cB, 65536, .inl zf)), (h3, .inl (cI, 64, .inl zf)), (h4, .inl (cI, 300, .inl zf)), (h5, .inl (cI, 64, .inl zf))] H ∧ va_D A [(h0, .inr (7, [.int 0, .int 0, .ref h1, .ref h2, g2, .ref h3, .int 0, .int 0, g3, g4, g5, g6, g7, g8, .int 0, g10, .ref h4, g11, .int 0, g13, g14, g15, g16, g17, g18, g19, .ref h5, g20, g21, g22])), (h1, .inl (cB, 65536, .inl zf)), (h2, .inl (cB, 65536, .inl zf)), (h3, .inl (cI, 64, .inl zf)), (h4, .inl (cI, 300, .inl zf)), (h5, .inl (cI, 64, .inl zf))] ∧ va_S A s.heap H locs ∧ lv_has ls 8 [(1, .int a), (0, .ref h0)]) 65 0 ⟨(by show 0 ≤ Int32.toInt 0; decide), (by show Int32.toInt 0 ≤ 64; decide), (by show 64 - Int32.toInt 0 < ((65 : Nat) : Int); have := (by decide : Int32.toInt 0 = 0); omega), hP, hD, hS, hl⟩ (fun a H locs ls h => ?_) (fun n_16 ih_17 a H locs ls h => ?_)
      · obtain ⟨j_18, j_19, j_20, _⟩ := h
        omega
      obtain ⟨v_15, rfl⟩ : ∃ z, z = a := ⟨_, rfl⟩
      obtain ⟨j_18, j_19, j_20, hP, hD, hS, hl⟩ := h
      have j_18 : 0 ≤ Int32.toInt v_15 := j_18
      have j_19 : Int32.toInt v_15 ≤ 64 := j_19
      have j_20 : 64 - Int32.toInt v_15 < ((n_16 + 1 : Nat) : Int) := j_20
      have hP : va_P D vwCl [(h0, .inr (7, [.int 0, .int 0, .ref h1, .ref h2, g2, .ref h3, .int 0, .int 0, g3, g4, g5, g6, g7, g8, .int 0, g10, .ref h4, g11, .int 0, g13, g14, g15, g16, g17, g18, g19, .ref h5, g20, g21, g22])), (h1, .inl (cB, 65536, .inl zf)), (h2, .inl (cB, 65536, .inl zf)), (h3, .inl (cI, 64, .inl zf)), (h4, .inl (cI, 300, .inl zf)), (h5, .inl (cI, 64, .inl zf))] H := hP
      have hD : va_D A [(h0, .inr (7, [.int 0, .int 0, .ref h1, .ref h2, g2, .ref h3, .int 0, .int 0, g3, g4, g5, g6, g7, g8, .int 0, g10, .ref h4, g11, .int 0, g13, g14, g15, g16, g17, g18, g19, .ref h5, g20, g21, g22])), (h1, .inl (cB, 65536, .inl zf)), (h2, .inl (cB, 65536, .inl zf)), (h3, .inl (cI, 64, .inl zf)), (h4, .inl (cI, 300, .inl zf)), (h5, .inl (cI, 64, .inl zf))] := hD
      have hl : lv_has ls 8 [(1, .int v_15), (0, .ref h0)] := hl
      refine lv_iload_n hx hb dX8_start_70 rfl (lv_at hl 0 rfl) ?_
      refine lv_bipush (v := 64) hx hb dX8_start_71 (by decide) ?_
      refine lv_icmp_ge (tgt := 89) hx hb dX8_start_73 (by decide) (fun c => ?_) (fun c => ?_)
      · skip
        have k_21 := (ti_le (x := 64) (y := v_15) (a := 64) (b := v_15.toInt) (by decide) rfl).mp c
        obtain rfl : v_15 = 64 := ti_inj (a := 64) (by decide) (by omega)
        refine lv_aload_n hx hb dX8_start_89 rfl (lv_at hl 1 rfl) ?_
        refine lv_iconst (v := 0) hx hb dX8_start_90 (by decide) ?_
        refine va_put (D := D) (ci := 7) (v := .int 0) (ty := .int) (C := RX8) (T := TX8) (N := 30) hx hb hts inX8_start_X8 tyX8 tyX8_ok nmX8 hown hK hP hD hS 0 rfl rfl 6 (by decide) (hts _ wdX8_start_5) (fun _ h9 => h9) rfl (by decide +kernel) rfl rfl (Nat.le_of_ble_eq_true rfl) dX8_start_91 (fun H locs hP hD hS => ?_)
        have hP : va_P D vwCl [(h0, .inr (7, [.int 0, .int 0, .ref h1, .ref h2, g2, .ref h3, .int 0, .int 0, g3, g4, g5, g6, g7, g8, .int 0, g10, .ref h4, g11, .int 0, g13, g14, g15, g16, g17, g18, g19, .ref h5, g20, g21, g22])), (h1, .inl (cB, 65536, .inl zf)), (h2, .inl (cB, 65536, .inl zf)), (h3, .inl (cI, 64, .inl zf)), (h4, .inl (cI, 300, .inl zf)), (h5, .inl (cI, 64, .inl zf))] H := hP
        have hD : va_D A [(h0, .inr (7, [.int 0, .int 0, .ref h1, .ref h2, g2, .ref h3, .int 0, .int 0, g3, g4, g5, g6, g7, g8, .int 0, g10, .ref h4, g11, .int 0, g13, g14, g15, g16, g17, g18, g19, .ref h5, g20, g21, g22])), (h1, .inl (cB, 65536, .inl zf)), (h2, .inl (cB, 65536, .inl zf)), (h3, .inl (cI, 64, .inl zf)), (h4, .inl (cI, 300, .inl zf)), (h5, .inl (cI, 64, .inl zf))] := hD
        refine lv_aload_n hx hb dX8_start_94 rfl (lv_at hl 1 rfl) ?_
        refine lv_iconst (v := 0) hx hb dX8_start_95 (by decide) ?_
        refine va_put (D := D) (ci := 7) (v := .int 0) (ty := .int) (C := RX8) (T := TX8) (N := 30) hx hb hts inX8_start_X8 tyX8 tyX8_ok nmX8 hown hK hP hD hS 0 rfl rfl 7 (by decide) (hts _ wdX8_start_6) (fun _ h9 => h9) rfl (by decide +kernel) rfl rfl (Nat.le_of_ble_eq_true rfl) dX8_start_96 (fun H locs hP hD hS => ?_)
        have hP : va_P D vwCl [(h0, .inr (7, [.int 0, .int 0, .ref h1, .ref h2, g2, .ref h3, .int 0, .int 0, g3, g4, g5, g6, g7, g8, .int 0, g10, .ref h4, g11, .int 0, g13, g14, g15, g16, g17, g18, g19, .ref h5, g20, g21, g22])), (h1, .inl (cB, 65536, .inl zf)), (h2, .inl (cB, 65536, .inl zf)), (h3, .inl (cI, 64, .inl zf)), (h4, .inl (cI, 300, .inl zf)), (h5, .inl (cI, 64, .inl zf))] H := hP
        have hD : va_D A [(h0, .inr (7, [.int 0, .int 0, .ref h1, .ref h2, g2, .ref h3, .int 0, .int 0, g3, g4, g5, g6, g7, g8, .int 0, g10, .ref h4, g11, .int 0, g13, g14, g15, g16, g17, g18, g19, .ref h5, g20, g21, g22])), (h1, .inl (cB, 65536, .inl zf)), (h2, .inl (cB, 65536, .inl zf)), (h3, .inl (cI, 64, .inl zf)), (h4, .inl (cI, 300, .inl zf)), (h5, .inl (cI, 64, .inl zf))] := hD
        refine lv_aload_n hx hb dX8_start_99 rfl (lv_at hl 1 rfl) ?_
        refine lv_iconst (v := 0) hx hb dX8_start_100 (by decide) ?_
        refine va_put (D := D) (ci := 7) (v := .int 0) (ty := .int) (C := RX8) (T := TX8) (N := 30) hx hb hts inX8_start_X8 tyX8 tyX8_ok nmX8 hown hK hP hD hS 0 rfl rfl 8 (by decide) (hts _ wdX8_start_7) (fun _ h9 => h9) rfl (by decide +kernel) rfl rfl (Nat.le_of_ble_eq_true rfl) dX8_start_101 (fun H locs hP hD hS => ?_)
        have hP : va_P D vwCl [(h0, .inr (7, [.int 0, .int 0, .ref h1, .ref h2, g2, .ref h3, .int 0, .int 0, .int 0, g4, g5, g6, g7, g8, .int 0, g10, .ref h4, g11, .int 0, g13, g14, g15, g16, g17, g18, g19, .ref h5, g20, g21, g22])), (h1, .inl (cB, 65536, .inl zf)), (h2, .inl (cB, 65536, .inl zf)), (h3, .inl (cI, 64, .inl zf)), (h4, .inl (cI, 300, .inl zf)), (h5, .inl (cI, 64, .inl zf))] H := hP
        have hD : va_D A [(h0, .inr (7, [.int 0, .int 0, .ref h1, .ref h2, g2, .ref h3, .int 0, .int 0, .int 0, g4, g5, g6, g7, g8, .int 0, g10, .ref h4, g11, .int 0, g13, g14, g15, g16, g17, g18, g19, .ref h5, g20, g21, g22])), (h1, .inl (cB, 65536, .inl zf)), (h2, .inl (cB, 65536, .inl zf)), (h3, .inl (cI, 64, .inl zf)), (h4, .inl (cI, 300, .inl zf)), (h5, .inl (cI, 64, .inl zf))] := hD
        refine lv_aload_n hx hb dX8_start_104 rfl (lv_at hl 1 rfl) ?_
        refine lv_iconst (v := 1) hx hb dX8_start_105 (by decide) ?_
        refine va_put (D := D) (ci := 7) (v := .int 1) (ty := .int) (C := RX8) (T := TX8) (N := 30) hx hb hts inX8_start_X8 tyX8 tyX8_ok nmX8 hown hK hP hD hS 0 rfl rfl 9 (by decide) (hts _ wdX8_start_8) (fun _ h9 => h9) rfl (by decide +kernel) rfl rfl (Nat.le_of_ble_eq_true rfl) dX8_start_106 (fun H locs hP hD hS => ?_)
        have hP : va_P D vwCl [(h0, .inr (7, [.int 0, .int 0, .ref h1, .ref h2, g2, .ref h3, .int 0, .int 0, .int 0, .int 1, g5, g6, g7, g8, .int 0, g10, .ref h4, g11, .int 0, g13, g14, g15, g16, g17, g18, g19, .ref h5, g20, g21, g22])), (h1, .inl (cB, 65536, .inl zf)), (h2, .inl (cB, 65536, .inl zf)), (h3, .inl (cI, 64, .inl zf)), (h4, .inl (cI, 300, .inl zf)), (h5, .inl (cI, 64, .inl zf))] H := hP
        have hD : va_D A [(h0, .inr (7, [.int 0, .int 0, .ref h1, .ref h2, g2, .ref h3, .int 0, .int 0, .int 0, .int 1, g5, g6, g7, g8, .int 0, g10, .ref h4, g11, .int 0, g13, g14, g15, g16, g17, g18, g19, .ref h5, g20, g21, g22])), (h1, .inl (cB, 65536, .inl zf)), (h2, .inl (cB, 65536, .inl zf)), (h3, .inl (cI, 64, .inl zf)), (h4, .inl (cI, 300, .inl zf)), (h5, .inl (cI, 64, .inl zf))] := hD
        refine lv_aload_n hx hb dX8_start_109 rfl (lv_at hl 1 rfl) ?_
        refine lv_iconst (v := 0) hx hb dX8_start_110 (by decide) ?_
        refine va_put (D := D) (ci := 7) (v := .int 0) (ty := .int) (C := RX8) (T := TX8) (N := 30) hx hb hts inX8_start_X8 tyX8 tyX8_ok nmX8 hown hK hP hD hS 0 rfl rfl 10 (by decide) (hts _ wdX8_start_9) (fun _ h9 => h9) rfl (by decide +kernel) rfl rfl (Nat.le_of_ble_eq_true rfl) dX8_start_111 (fun H locs hP hD hS => ?_)
        have hP : va_P D vwCl [(h0, .inr (7, [.int 0, .int 0, .ref h1, .ref h2, g2, .ref h3, .int 0, .int 0, .int 0, .int 1, .int 0, g6, g7, g8, .int 0, g10, .ref h4, g11, .int 0, g13, g14, g15, g16, g17, g18, g19, .ref h5, g20, g21, g22])), (h1, .inl (cB, 65536, .inl zf)), (h2, .inl (cB, 65536, .inl zf)), (h3, .inl (cI, 64, .inl zf)), (h4, .inl (cI, 300, .inl zf)), (h5, .inl (cI, 64, .inl zf))] H := hP
        have hD : va_D A [(h0, .inr (7, [.int 0, .int 0, .ref h1, .ref h2, g2, .ref h3, .int 0, .int 0, .int 0, .int 1, .int 0, g6, g7, g8, .int 0, g10, .ref h4, g11, .int 0, g13, g14, g15, g16, g17, g18, g19, .ref h5, g20, g21, g22])), (h1, .inl (cB, 65536, .inl zf)), (h2, .inl (cB, 65536, .inl zf)), (h3, .inl (cI, 64, .inl zf)), (h4, .inl (cI, 300, .inl zf)), (h5, .inl (cI, 64, .inl zf))] := hD
        refine lv_aload_n hx hb dX8_start_114 rfl (lv_at hl 1 rfl) ?_
        refine lv_iconst (v := 0) hx hb dX8_start_115 (by decide) ?_
        refine va_put (D := D) (ci := 7) (v := .int 0) (ty := .int) (C := RX8) (T := TX8) (N := 30) hx hb hts inX8_start_X8 tyX8 tyX8_ok nmX8 hown hK hP hD hS 0 rfl rfl 11 (by decide) (hts _ wdX8_start_10) (fun _ h9 => h9) rfl (by decide +kernel) rfl rfl (Nat.le_of_ble_eq_true rfl) dX8_start_116 (fun H locs hP hD hS => ?_)
        have hP : va_P D vwCl [(h0, .inr (7, [.int 0, .int 0, .ref h1, .ref h2, g2, .ref h3, .int 0, .int 0, .int 0, .int 1, .int 0, .int 0, g7, g8, .int 0, g10, .ref h4, g11, .int 0, g13, g14, g15, g16, g17, g18, g19, .ref h5, g20, g21, g22])), (h1, .inl (cB, 65536, .inl zf)), (h2, .inl (cB, 65536, .inl zf)), (h3, .inl (cI, 64, .inl zf)), (h4, .inl (cI, 300, .inl zf)), (h5, .inl (cI, 64, .inl zf))] H := hP
        have hD : va_D A [(h0, .inr (7, [.int 0, .int 0, .ref h1, .ref h2, g2, .ref h3, .int 0, .int 0, .int 0, .int 1, .int 0, .int 0, g7, g8, .int 0, g10, .ref h4, g11, .int 0, g13, g14, g15, g16, g17, g18, g19, .ref h5, g20, g21, g22])), (h1, .inl (cB, 65536, .inl zf)), (h2, .inl (cB, 65536, .inl zf)), (h3, .inl (cI, 64, .inl zf)), (h4, .inl (cI, 300, .inl zf)), (h5, .inl (cI, 64, .inl zf))] := hD
        refine lv_aload_n hx hb dX8_start_119 rfl (lv_at hl 1 rfl) ?_
        refine lv_iconst (v := 0) hx hb dX8_start_120 (by decide) ?_
        refine va_put (D := D) (ci := 7) (v := .int 0) (ty := .int) (C := RX8) (T := TX8) (N := 30) hx hb hts inX8_start_X8 tyX8 tyX8_ok nmX8 hown hK hP hD hS 0 rfl rfl 12 (by decide) (hts _ wdX8_start_11) (fun _ h9 => h9) rfl (by decide +kernel) rfl rfl (Nat.le_of_ble_eq_true rfl) dX8_start_121 (fun H locs hP hD hS => ?_)
        have hP : va_P D vwCl [(h0, .inr (7, [.int 0, .int 0, .ref h1, .ref h2, g2, .ref h3, .int 0, .int 0, .int 0, .int 1, .int 0, .int 0, .int 0, g8, .int 0, g10, .ref h4, g11, .int 0, g13, g14, g15, g16, g17, g18, g19, .ref h5, g20, g21, g22])), (h1, .inl (cB, 65536, .inl zf)), (h2, .inl (cB, 65536, .inl zf)), (h3, .inl (cI, 64, .inl zf)), (h4, .inl (cI, 300, .inl zf)), (h5, .inl (cI, 64, .inl zf))] H := hP
        have hD : va_D A [(h0, .inr (7, [.int 0, .int 0, .ref h1, .ref h2, g2, .ref h3, .int 0, .int 0, .int 0, .int 1, .int 0, .int 0, .int 0, g8, .int 0, g10, .ref h4, g11, .int 0, g13, g14, g15, g16, g17, g18, g19, .ref h5, g20, g21, g22])), (h1, .inl (cB, 65536, .inl zf)), (h2, .inl (cB, 65536, .inl zf)), (h3, .inl (cI, 64, .inl zf)), (h4, .inl (cI, 300, .inl zf)), (h5, .inl (cI, 64, .inl zf))] := hD
        refine lv_aload_n hx hb dX8_start_124 rfl (lv_at hl 1 rfl) ?_
        refine lv_iconst (v := 0) hx hb dX8_start_125 (by decide) ?_
        refine kc_i (wr := [(h2, .inl (cB, 65536, .inl zf)), (h3, .inl (cI, 64, .inl zf)), (h4, .inl (cI, 300, .inl zf)), (h5, .inl (cI, 64, .inl zf))]) (va_runV (As := [.int 0]) (rest := []) ⟨hx, hb, hml, hown, hts⟩ (K219_X8_isRight l D cB cI cZ _ h0 h1 ((.int 0)) ((.int 0)) ((.ref h2)) (g2) ((.ref h3)) ((.int 0)) ((.int 0)) ((.int 0)) ((.int 1)) ((.int 0)) ((.int 0)) ((.int 0)) (g8) ((.int 0)) (g10) ((.ref h4)) (g11) ((.int 0)) (g13) (g14) (g15) (g16) (g17) (g18) (g19) ((.ref h5)) (g20) (g21) (g22)) (cwV 1 hts gX8_start_X8_isRight rfl rfl rfl (by decide +kernel) ⟨Nat.le_of_ble_eq_true rfl, Nat.le_of_ble_eq_true rfl⟩) (pre_V (q := (RX8, TX8, 30)) (ci := 7) (q0 := 0) (hP.sub [0, 1] rfl) hK hN (hD.sub [0, 1] (by decide) rfl) rfl rfl) rfl rfl hl.1 rfl (lv_room (Nat.le_of_ble_eq_true rfl)) dX8_start_126 ⟨Nat.le_of_ble_eq_true rfl, Nat.le_of_ble_eq_true rfl⟩) hP hD hS hA [0, 1] [2, 3, 4, 5] rfl rfl (by decide) (by decide) (fun r_22 u H locs hw hP hD hS => ?_)
        have k_23 := hw
        obtain rfl : r_22 = 0 := k_23
        have hP : va_P D vwCl [(h2, .inl (cB, 65536, .inl zf)), (h3, .inl (cI, 64, .inl zf)), (h4, .inl (cI, 300, .inl zf)), (h5, .inl (cI, 64, .inl zf)), (h0, .inr (7, [.int 0, .int 0, .ref h1, .ref h2, g2, .ref h3, .int 0, .int 0, .int 0, .int 1, .int 0, .int 0, .int 0, g8, .int 0, g10, .ref h4, g11, .int 0, g13, g14, g15, g16, g17, g18, g19, .ref h5, g20, g21, g22])), (h1, .inl (cB, 65536, .inl zf))] H := hP
        have hD : va_D A [(h2, .inl (cB, 65536, .inl zf)), (h3, .inl (cI, 64, .inl zf)), (h4, .inl (cI, 300, .inl zf)), (h5, .inl (cI, 64, .inl zf)), (h0, .inr (7, [.int 0, .int 0, .ref h1, .ref h2, g2, .ref h3, .int 0, .int 0, .int 0, .int 1, .int 0, .int 0, .int 0, g8, .int 0, g10, .ref h4, g11, .int 0, g13, g14, g15, g16, g17, g18, g19, .ref h5, g20, g21, g22])), (h1, .inl (cB, 65536, .inl zf))] := hD
        refine lv_istore_n (lv' := [(1, .int 0), (0, .ref h0)]) hx hb dX8_start_129 rfl hl (by decide) rfl (fun ls hl => ?_)
        refine lv_aload_n hx hb dX8_start_130 rfl (lv_at hl 1 rfl) ?_
        refine lv_iconst (v := 1) hx hb dX8_start_131 (by decide) ?_
        refine kc_i (wr := [(h2, .inl (cB, 65536, .inl zf)), (h3, .inl (cI, 64, .inl zf)), (h4, .inl (cI, 300, .inl zf)), (h5, .inl (cI, 64, .inl zf))]) (va_runV (As := [.int 1]) (rest := []) ⟨hx, hb, hml, hown, hts⟩ (K221_X8_isRight l D cB cI cZ _ h0 h1 ((.int 0)) ((.int 0)) ((.ref h2)) (g2) ((.ref h3)) ((.int 0)) ((.int 0)) ((.int 0)) ((.int 1)) ((.int 0)) ((.int 0)) ((.int 0)) (g8) ((.int 0)) (g10) ((.ref h4)) (g11) ((.int 0)) (g13) (g14) (g15) (g16) (g17) (g18) (g19) ((.ref h5)) (g20) (g21) (g22)) (cwV 1 hts gX8_start_X8_isRight rfl rfl rfl (by decide +kernel) ⟨Nat.le_of_ble_eq_true rfl, Nat.le_of_ble_eq_true rfl⟩) (pre_V (q := (RX8, TX8, 30)) (ci := 7) (q0 := 0) (hP.sub [4, 5] rfl) hK hN (hD.sub [4, 5] (by decide) rfl) rfl rfl) rfl rfl hl.1 rfl (lv_room (Nat.le_of_ble_eq_true rfl)) dX8_start_132 ⟨Nat.le_of_ble_eq_true rfl, Nat.le_of_ble_eq_true rfl⟩) hP hD hS hA [4, 5] [0, 1, 2, 3] rfl rfl (by decide) (by decide) (fun r_24 u H locs hw hP hD hS => ?_)
        have k_25 := hw
        obtain rfl : r_24 = 0 := k_25
        have hP : va_P D vwCl [(h2, .inl (cB, 65536, .inl zf)), (h3, .inl (cI, 64, .inl zf)), (h4, .inl (cI, 300, .inl zf)), (h5, .inl (cI, 64, .inl zf)), (h0, .inr (7, [.int 0, .int 0, .ref h1, .ref h2, g2, .ref h3, .int 0, .int 0, .int 0, .int 1, .int 0, .int 0, .int 0, g8, .int 0, g10, .ref h4, g11, .int 0, g13, g14, g15, g16, g17, g18, g19, .ref h5, g20, g21, g22])), (h1, .inl (cB, 65536, .inl zf))] H := hP
        have hD : va_D A [(h2, .inl (cB, 65536, .inl zf)), (h3, .inl (cI, 64, .inl zf)), (h4, .inl (cI, 300, .inl zf)), (h5, .inl (cI, 64, .inl zf)), (h0, .inr (7, [.int 0, .int 0, .ref h1, .ref h2, g2, .ref h3, .int 0, .int 0, .int 0, .int 1, .int 0, .int 0, .int 0, g8, .int 0, g10, .ref h4, g11, .int 0, g13, g14, g15, g16, g17, g18, g19, .ref h5, g20, g21, g22])), (h1, .inl (cB, 65536, .inl zf))] := hD
        refine lv_istore_n (lv' := [(2, .int 0), (1, .int 0), (0, .ref h0)]) hx hb dX8_start_135 rfl hl (by decide) rfl (fun ls hl => ?_)
        refine lv_iload_n hx hb dX8_start_136 rfl (lv_at hl 1 rfl) ?_
        refine lv_if_ne (tgt := 144) hx hb dX8_start_137 (by decide) (fun c => absurd (by decide) c) (fun c => ?_)
        refine lv_iload_n hx hb dX8_start_140 rfl (lv_at hl 0 rfl) ?_
        refine lv_if_eq (tgt := 184) hx hb dX8_start_141 (by decide) (fun c => ?_) (fun c => absurd (by decide) c)
        refine lv_iconst (v := 0) hx hb dX8_start_184 (by decide) ?_
        refine lv_istore_n (lv' := [(3, .int 0), (2, .int 0), (1, .int 0), (0, .ref h0)]) hx hb dX8_start_185 rfl hl (by decide) rfl (fun ls hl => ?_)
        refine lv_iconst (v := 1) hx hb dX8_start_186 (by decide) ?_
        refine lv_istore (lv' := [(4, .int 1), (3, .int 0), (2, .int 0), (1, .int 0), (0, .ref h0)]) hx hb dX8_start_187 hl (by decide) rfl (fun ls hl => ?_)
        refine lv_iload hx hb dX8_start_189 (lv_at hl 0 rfl) ?_
        refine lv_if_eq (tgt := 367) hx hb dX8_start_191 (by decide) (fun c => absurd c (by decide)) (fun c => ?_)
        refine lv_aload_n hx hb dX8_start_194 rfl (lv_at hl 4 rfl) ?_
        refine va_get (D := D) (ci := 7) (v := .int 0) (C := RX8) (T := TX8) (N := 30) hx hb hts inX8_start_X8 hown hK hP 4 rfl rfl 6 (by decide) (hts _ wdX8_start_5) (fun _ h9 => h9) rfl dX8_start_195 ?_
        refine lv_if_le (tgt := 358) hx hb dX8_start_198 (by decide) (fun c => ?_) (fun c => absurd (by decide) c)
        refine lv_aload_n hx hb dX8_start_358 rfl (lv_at hl 4 rfl) ?_
        refine kc_i (wr := [(h4, .inl (cI, 300, .inl zf)), (h5, .inl (cI, 64, .inl zf)), (h1, .inl (cB, 65536, .inl zf))]) (va_runV (As := []) (rest := []) ⟨hx, hb, hml, hown, hts⟩ (K223_X8_goesOn l D cB cI cZ _ h0 h2 h3 ((.int 0)) ((.int 0)) ((.ref h1)) (g2) ((.int 0)) ((.int 0)) ((.int 0)) ((.int 1)) ((.int 0)) ((.int 0)) ((.int 0)) (g8) ((.int 0)) (g10) ((.ref h4)) (g11) ((.int 0)) (g13) (g14) (g15) (g16) (g17) (g18) (g19) ((.ref h5)) (g20) (g21) (g22)) (cwV 0 hts gX8_start_X8_goesOn rfl rfl rfl (by decide +kernel) ⟨Nat.le_of_ble_eq_true rfl, Nat.le_of_ble_eq_true rfl⟩) (pre_V (q := (RX8, TX8, 30)) (ci := 7) (q0 := 0) (hP.sub [4, 0, 1] rfl) hK hN (hD.sub [4, 0, 1] (by decide) rfl) rfl rfl) rfl rfl hl.1 rfl (lv_room (Nat.le_of_ble_eq_true rfl)) dX8_start_359 ⟨Nat.le_of_ble_eq_true rfl, Nat.le_of_ble_eq_true rfl⟩) hP hD hS hA [4, 0, 1] [2, 3, 5] rfl rfl (by decide) (by decide) (fun r_26 u H locs hw hP hD hS => ?_)
        have k_27 := hw
        obtain rfl : r_26 = 0 := k_27
        have hP : va_P D vwCl [(h4, .inl (cI, 300, .inl zf)), (h5, .inl (cI, 64, .inl zf)), (h1, .inl (cB, 65536, .inl zf)), (h0, .inr (7, [.int 0, .int 0, .ref h1, .ref h2, g2, .ref h3, .int 0, .int 0, .int 0, .int 1, .int 0, .int 0, .int 0, g8, .int 0, g10, .ref h4, g11, .int 0, g13, g14, g15, g16, g17, g18, g19, .ref h5, g20, g21, g22])), (h2, .inl (cB, 65536, .inl zf)), (h3, .inl (cI, 64, .inl zf))] H := hP
        have hD : va_D A [(h4, .inl (cI, 300, .inl zf)), (h5, .inl (cI, 64, .inl zf)), (h1, .inl (cB, 65536, .inl zf)), (h0, .inr (7, [.int 0, .int 0, .ref h1, .ref h2, g2, .ref h3, .int 0, .int 0, .int 0, .int 1, .int 0, .int 0, .int 0, g8, .int 0, g10, .ref h4, g11, .int 0, g13, g14, g15, g16, g17, g18, g19, .ref h5, g20, g21, g22])), (h2, .inl (cB, 65536, .inl zf)), (h3, .inl (cI, 64, .inl zf))] := hD
        refine lv_istore (lv' := [(4, .int 0), (3, .int 0), (2, .int 0), (1, .int 0), (0, .ref h0)]) hx hb dX8_start_362 hl (by decide) rfl (fun ls hl => ?_)
        refine lv_goto (tgt := 189) hx hb dX8_start_364 (by decide) ?_
        refine lv_iload hx hb dX8_start_189 (lv_at hl 0 rfl) ?_
        refine lv_if_eq (tgt := 367) hx hb dX8_start_191 (by decide) (fun c => ?_) (fun c => absurd (by decide) c)
        refine lv_aload_n hx hb dX8_start_367 rfl (lv_at hl 4 rfl) ?_
        refine va_get (D := D) (ci := 7) (v := .int 0) (C := RX8) (T := TX8) (N := 30) hx hb hts inX8_start_X8 hown hK hP 3 rfl rfl 7 (by decide) (hts _ wdX8_start_6) (fun _ h9 => h9) rfl dX8_start_368 ?_
        refine lv_istore (lv' := [(5, .int 0), (4, .int 0), (3, .int 0), (2, .int 0), (1, .int 0), (0, .ref h0)]) hx hb dX8_start_371 hl (by decide) rfl (fun ls hl => ?_)
        refine lv_iload hx hb dX8_start_373 (lv_at hl 0 rfl) ?_
        refine lv_sipush (v := 1024) hx hb dX8_start_375 (by decide) ?_
        refine lv_icmp_ge (tgt := 409) hx hb dX8_start_378 (by decide) (fun c => absurd c (by decide)) (fun c => ?_)
        refine lv_aload_n hx hb dX8_start_381 rfl (lv_at hl 5 rfl) ?_
        refine va_get (D := D) (ci := 7) (v := .int 0) (C := RX8) (T := TX8) (N := 30) hx hb hts inX8_start_X8 hown hK hP 3 rfl rfl 6 (by decide) (hts _ wdX8_start_5) (fun _ h9 => h9) rfl dX8_start_382 ?_
        refine lv_if_le (tgt := 409) hx hb dX8_start_385 (by decide) (fun c => ?_) (fun c => absurd (by decide) c)
        refine lv_bipush (v := 8) hx hb dX8_start_409 (by decide) ?_
        refine lv_istore (lv' := [(5, .int 8), (4, .int 0), (3, .int 0), (2, .int 0), (1, .int 0), (0, .ref h0)]) hx hb dX8_start_411 hl (by decide) rfl (fun ls hl => ?_)
        refine kl (α := Int32) (fun n a H locs ls => (8 ≤ Int32.toInt a) ∧ (Int32.toInt a ≤ 64) ∧ (64 - Int32.toInt a < ((n : Nat) : Int)) ∧ va_P D vwCl [(h4, .inl (cI, 300, .inl zf)), (h5, .inl (cI, 64, .inl zf)), (h1, .inl (cB, 65536, .inl zf)), (h0, .inr (7, [.int 0, .int 0, .ref h1, .ref h2, g2, .ref h3, .int 0, .int 0, .int 0, .int 1, .int 0, .int 0, .int 0, g8, .int 0, g10, .ref h4, g11, .int 0, g13, g14, g15, g16, g17, g18, g19, .ref h5, g20, g21, g22])), (h2, .inl (cB, 65536, .inl zf)), (h3, .inl (cI, 64, .inl zf))] H ∧ va_D A [(h4, .inl (cI, 300, .inl zf)), (h5, .inl (cI, 64, .inl zf)), (h1, .inl (cB, 65536, .inl zf)), (h0, .inr (7, [.int 0, .int 0, .ref h1, .ref h2, g2, .ref h3, .int 0, .int 0, .int 0, .int 1, .int 0, .int 0, .int 0, g8, .int 0, g10, .ref h4, g11, .int 0, g13, g14, g15, g16, g17, g18, g19, .ref h5, g20, g21, g22])), (h2, .inl (cB, 65536, .inl zf)), (h3, .inl (cI, 64, .inl zf))] ∧ va_S A s.heap H locs ∧ lv_has ls 8 [(5, .int a), (4, .int 0), (3, .int 0), (2, .int 0), (1, .int 0), (0, .ref h0)]) 57 8 ⟨(by show 8 ≤ Int32.toInt 8; decide), (by show Int32.toInt 8 ≤ 64; decide), (by show 64 - Int32.toInt 8 < ((57 : Nat) : Int); have := (by decide : Int32.toInt 8 = 8); omega), hP, hD, hS, hl⟩ (fun a H locs ls h => ?_) (fun n_29 ih_30 a H locs ls h => ?_)
        · obtain ⟨j_31, j_32, j_33, _⟩ := h
          omega
        obtain ⟨v_28, rfl⟩ : ∃ z, z = a := ⟨_, rfl⟩
        obtain ⟨j_31, j_32, j_33, hP, hD, hS, hl⟩ := h
        have j_31 : 8 ≤ Int32.toInt v_28 := j_31
        have j_32 : Int32.toInt v_28 ≤ 64 := j_32
        have j_33 : 64 - Int32.toInt v_28 < ((n_29 + 1 : Nat) : Int) := j_33
        have hP : va_P D vwCl [(h4, .inl (cI, 300, .inl zf)), (h5, .inl (cI, 64, .inl zf)), (h1, .inl (cB, 65536, .inl zf)), (h0, .inr (7, [.int 0, .int 0, .ref h1, .ref h2, g2, .ref h3, .int 0, .int 0, .int 0, .int 1, .int 0, .int 0, .int 0, g8, .int 0, g10, .ref h4, g11, .int 0, g13, g14, g15, g16, g17, g18, g19, .ref h5, g20, g21, g22])), (h2, .inl (cB, 65536, .inl zf)), (h3, .inl (cI, 64, .inl zf))] H := hP
        have hD : va_D A [(h4, .inl (cI, 300, .inl zf)), (h5, .inl (cI, 64, .inl zf)), (h1, .inl (cB, 65536, .inl zf)), (h0, .inr (7, [.int 0, .int 0, .ref h1, .ref h2, g2, .ref h3, .int 0, .int 0, .int 0, .int 1, .int 0, .int 0, .int 0, g8, .int 0, g10, .ref h4, g11, .int 0, g13, g14, g15, g16, g17, g18, g19, .ref h5, g20, g21, g22])), (h2, .inl (cB, 65536, .inl zf)), (h3, .inl (cI, 64, .inl zf))] := hD
        have hl : lv_has ls 8 [(5, .int v_28), (4, .int 0), (3, .int 0), (2, .int 0), (1, .int 0), (0, .ref h0)] := hl
        refine lv_iload hx hb dX8_start_413 (lv_at hl 0 rfl) ?_
        refine lv_bipush (v := 64) hx hb dX8_start_415 (by decide) ?_
        refine lv_icmp_ge (tgt := 453) hx hb dX8_start_417 (by decide) (fun c => ?_) (fun c => ?_)
        · skip
          have k_34 := (ti_le (x := 64) (y := v_28) (a := 64) (b := v_28.toInt) (by decide) rfl).mp c
          obtain rfl : v_28 = 64 := ti_inj (a := 64) (by decide) (by omega)
          refine lv_iload_n hx hb dX8_start_453 rfl (lv_at hl 2 rfl) ?_
          exact kr_i () hx hb hr hlocks (hP.sub [] rfl) (hD.sub [] (by decide) rfl) hS rfl dX8_start_454
        · skip
          have k_35 := mt (ti_le (x := 64) (y := v_28) (a := 64) (b := v_28.toInt) (by decide) rfl).mpr c
          refine lv_aload_n hx hb dX8_start_420 rfl (lv_at hl 5 rfl) ?_
          refine va_get (D := D) (ci := 7) (v := .ref h5) (C := RX8) (T := TX8) (N := 30) hx hb hts inX8_start_X8 hown hK hP 3 rfl rfl 26 (by decide) (hts _ wdX8_start_12) (fun _ h9 => h9) rfl dX8_start_421 ?_
          refine lv_iload hx hb dX8_start_424 (lv_at hl 0 rfl) ?_
          refine lv_aload_n hx hb dX8_start_426 rfl (lv_at hl 5 rfl) ?_
          refine va_get (D := D) (ci := 7) (v := .ref h3) (C := RX8) (T := TX8) (N := 30) hx hb hts inX8_start_X8 hown hK hP 3 rfl rfl 5 (by decide) (hts _ wdX8_start_13) (fun _ h9 => h9) rfl dX8_start_427 ?_
          refine lv_iload hx hb dX8_start_430 (lv_at hl 0 rfl) ?_
          refine va_iald hx hb hK hP 5 1 rfl rfl (ti_in (a := v_28.toInt) rfl (by omega) (by omega)) dX8_start_432 ?_
          refine lv_topi (fun z_36 ez_36 => ?_)
          obtain rfl : z_36 = 0 := ez_36
          refine lv_if_ne (tgt := 440) hx hb dX8_start_433 (by decide) (fun c => absurd (by decide) c) (fun c => ?_)
          refine lv_iconst (v := 0) hx hb dX8_start_436 (by decide) ?_
          refine lv_goto (tgt := 446) hx hb dX8_start_437 (by decide) ?_
          refine va_iast hx hb hK hP hD hS 1 1 rfl rfl (ti_in (a := v_28.toInt) rfl (by omega) (by omega)) dX8_start_446 (fun H locs hP hD hS => ?_)
          rw [zf_upd] at hP hD
          have hP : va_P D vwCl [(h4, .inl (cI, 300, .inl zf)), (h5, .inl (cI, 64, .inl zf)), (h1, .inl (cB, 65536, .inl zf)), (h0, .inr (7, [.int 0, .int 0, .ref h1, .ref h2, g2, .ref h3, .int 0, .int 0, .int 0, .int 1, .int 0, .int 0, .int 0, g8, .int 0, g10, .ref h4, g11, .int 0, g13, g14, g15, g16, g17, g18, g19, .ref h5, g20, g21, g22])), (h2, .inl (cB, 65536, .inl zf)), (h3, .inl (cI, 64, .inl zf))] H := hP
          have hD : va_D A [(h4, .inl (cI, 300, .inl zf)), (h5, .inl (cI, 64, .inl zf)), (h1, .inl (cB, 65536, .inl zf)), (h0, .inr (7, [.int 0, .int 0, .ref h1, .ref h2, g2, .ref h3, .int 0, .int 0, .int 0, .int 1, .int 0, .int 0, .int 0, g8, .int 0, g10, .ref h4, g11, .int 0, g13, g14, g15, g16, g17, g18, g19, .ref h5, g20, g21, g22])), (h2, .inl (cB, 65536, .inl zf)), (h3, .inl (cI, 64, .inl zf))] := hD
          obtain ⟨x_37, ex_37⟩ : ∃ y : Int32, y = v_28 + 1 := ⟨_, rfl⟩
          have tx_37 : x_37.toInt = v_28.toInt + 1 := by rw [ex_37]; exact ti_add rfl (by decide) (by omega) (by omega)
          refine lv_iinc (v := x_37) (lv' := [(5, .int x_37), (4, .int 0), (3, .int 0), (2, .int 0), (1, .int 0), (0, .ref h0)]) hx hb dX8_start_447 hl (k := 0) rfl (by rw [ex_37]; rfl) (by decide) rfl (fun ls hl => ?_)
          refine lv_goto (tgt := 413) hx hb dX8_start_450 (by decide) ?_
          exact ih_30 x_37 _ _ _ ⟨(by show 8 ≤ Int32.toInt x_37; omega), (by show Int32.toInt x_37 ≤ 64; omega), (by show 64 - Int32.toInt x_37 < ((n_29 : Nat) : Int); omega), hP, hD, hS, hl⟩
      · skip
        have k_38 := mt (ti_le (x := 64) (y := v_15) (a := 64) (b := v_15.toInt) (by decide) rfl).mpr c
        refine lv_aload_n hx hb dX8_start_76 rfl (lv_at hl 1 rfl) ?_
        refine va_get (D := D) (ci := 7) (v := .ref h3) (C := RX8) (T := TX8) (N := 30) hx hb hts inX8_start_X8 hown hK hP 0 rfl rfl 5 (by decide) (hts _ wdX8_start_13) (fun _ h9 => h9) rfl dX8_start_77 ?_
        refine lv_iload_n hx hb dX8_start_80 rfl (lv_at hl 0 rfl) ?_
        refine lv_iconst (v := 0) hx hb dX8_start_81 (by decide) ?_
        refine va_iast hx hb hK hP hD hS 3 1 rfl rfl (ti_in (a := v_15.toInt) rfl (by omega) (by omega)) dX8_start_82 (fun H locs hP hD hS => ?_)
        rw [zf_upd] at hP hD
        have hP : va_P D vwCl [(h0, .inr (7, [.int 0, .int 0, .ref h1, .ref h2, g2, .ref h3, .int 0, .int 0, g3, g4, g5, g6, g7, g8, .int 0, g10, .ref h4, g11, .int 0, g13, g14, g15, g16, g17, g18, g19, .ref h5, g20, g21, g22])), (h1, .inl (cB, 65536, .inl zf)), (h2, .inl (cB, 65536, .inl zf)), (h3, .inl (cI, 64, .inl zf)), (h4, .inl (cI, 300, .inl zf)), (h5, .inl (cI, 64, .inl zf))] H := hP
        have hD : va_D A [(h0, .inr (7, [.int 0, .int 0, .ref h1, .ref h2, g2, .ref h3, .int 0, .int 0, g3, g4, g5, g6, g7, g8, .int 0, g10, .ref h4, g11, .int 0, g13, g14, g15, g16, g17, g18, g19, .ref h5, g20, g21, g22])), (h1, .inl (cB, 65536, .inl zf)), (h2, .inl (cB, 65536, .inl zf)), (h3, .inl (cI, 64, .inl zf)), (h4, .inl (cI, 300, .inl zf)), (h5, .inl (cI, 64, .inl zf))] := hD
        obtain ⟨x_39, ex_39⟩ : ∃ y : Int32, y = v_15 + 1 := ⟨_, rfl⟩
        have tx_39 : x_39.toInt = v_15.toInt + 1 := by rw [ex_39]; exact ti_add rfl (by decide) (by omega) (by omega)
        refine lv_iinc (v := x_39) (lv' := [(1, .int x_39), (0, .ref h0)]) hx hb dX8_start_83 hl (k := 0) rfl (by rw [ex_39]; rfl) (by decide) rfl (fun ls hl => ?_)
        refine lv_goto (tgt := 70) hx hb dX8_start_86 (by decide) ?_
        exact ih_17 x_39 _ _ _ ⟨(by show 0 ≤ Int32.toInt x_39; omega), (by show Int32.toInt x_39 ≤ 64; omega), (by show 64 - Int32.toInt x_39 < ((n_16 : Nat) : Int); omega), hP, hD, hS, hl⟩
    · skip
      have k_40 := mt (ti_le (x := 300) (y := v_8) (a := 300) (b := v_8.toInt) (by decide) rfl).mpr c
      refine lv_aload_n hx hb dX8_start_55 rfl (lv_at hl 1 rfl) ?_
      refine va_get (D := D) (ci := 7) (v := .ref h4) (C := RX8) (T := TX8) (N := 30) hx hb hts inX8_start_X8 hown hK hP 0 rfl rfl 16 (by decide) (hts _ wdX8_start_14) (fun _ h9 => h9) rfl dX8_start_56 ?_
      refine lv_iload_n hx hb dX8_start_59 rfl (lv_at hl 0 rfl) ?_
      refine lv_iconst (v := 0) hx hb dX8_start_60 (by decide) ?_
      refine va_iast hx hb hK hP hD hS 4 1 rfl rfl (ti_in (a := v_8.toInt) rfl (by omega) (by omega)) dX8_start_61 (fun H locs hP hD hS => ?_)
      rw [zf_upd] at hP hD
      have hP : va_P D vwCl [(h0, .inr (7, [.int 0, .int 0, .ref h1, .ref h2, g2, .ref h3, .int 0, .int 0, g3, g4, g5, g6, g7, g8, .int 0, g10, .ref h4, g11, .int 0, g13, g14, g15, g16, g17, g18, g19, .ref h5, g20, g21, g22])), (h1, .inl (cB, 65536, .inl zf)), (h2, .inl (cB, 65536, .inl zf)), (h3, .inl (cI, 64, .inl zf)), (h4, .inl (cI, 300, .inl zf)), (h5, .inl (cI, 64, .inl zf))] H := hP
      have hD : va_D A [(h0, .inr (7, [.int 0, .int 0, .ref h1, .ref h2, g2, .ref h3, .int 0, .int 0, g3, g4, g5, g6, g7, g8, .int 0, g10, .ref h4, g11, .int 0, g13, g14, g15, g16, g17, g18, g19, .ref h5, g20, g21, g22])), (h1, .inl (cB, 65536, .inl zf)), (h2, .inl (cB, 65536, .inl zf)), (h3, .inl (cI, 64, .inl zf)), (h4, .inl (cI, 300, .inl zf)), (h5, .inl (cI, 64, .inl zf))] := hD
      obtain ⟨x_41, ex_41⟩ : ∃ y : Int32, y = v_8 + 1 := ⟨_, rfl⟩
      have tx_41 : x_41.toInt = v_8.toInt + 1 := by rw [ex_41]; exact ti_add rfl (by decide) (by omega) (by omega)
      refine lv_iinc (v := x_41) (lv' := [(1, .int x_41), (0, .ref h0)]) hx hb dX8_start_62 hl (k := 0) rfl (by rw [ex_41]; rfl) (by decide) rfl (fun ls hl => ?_)
      refine lv_goto (tgt := 48) hx hb dX8_start_65 (by decide) ?_
      exact ih_10 x_41 _ _ _ ⟨(by show 0 ≤ Int32.toInt x_41; omega), (by show Int32.toInt x_41 ≤ 300; omega), (by show 300 - Int32.toInt x_41 < ((n_9 : Nat) : Int); omega), hP, hD, hS, hl⟩
  · skip
    have k_42 := mt (ti_le (x := 65536) (y := v_1) (a := 65536) (b := v_1.toInt) (by decide) rfl).mpr c
    refine lv_aload_n hx hb dX8_start_28 rfl (lv_at hl 1 rfl) ?_
    refine va_get (D := D) (ci := 7) (v := .ref h2) (C := RX8) (T := TX8) (N := 30) hx hb hts inX8_start_X8 hown hK hP 0 rfl rfl 3 (by decide) (hts _ wdX8_start_15) (fun _ h9 => h9) rfl dX8_start_29 ?_
    refine lv_iload_n hx hb dX8_start_32 rfl (lv_at hl 0 rfl) ?_
    refine lv_aload_n hx hb dX8_start_33 rfl (lv_at hl 1 rfl) ?_
    refine va_get (D := D) (ci := 7) (v := .ref h1) (C := RX8) (T := TX8) (N := 30) hx hb hts inX8_start_X8 hown hK hP 0 rfl rfl 2 (by decide) (hts _ wdX8_start_16) (fun _ h9 => h9) rfl dX8_start_34 ?_
    refine lv_iload_n hx hb dX8_start_37 rfl (lv_at hl 0 rfl) ?_
    refine va_bald hx hb hK hP 1 0 rfl rfl (ti_in (a := v_1.toInt) rfl (by omega) (by omega)) dX8_start_38 ?_
    refine lv_topi (fun z_43 ez_43 => ?_)
    obtain rfl : z_43 = 0 := ez_43
    refine va_bast hx hb hK hP hD hS 2 0 rfl rfl (ti_in (a := v_1.toInt) rfl (by omega) (by omega)) dX8_start_39 (fun H locs hP hD hS => ?_)
    rw [zf_updB] at hP hD
    have hP : va_P D vwCl [(h0, .inr (7, [.int 0, .int 0, .ref h1, .ref h2, g2, .ref h3, .int 0, .int 0, g3, g4, g5, g6, g7, g8, .int 0, g10, .ref h4, g11, .int 0, g13, g14, g15, g16, g17, g18, g19, .ref h5, g20, g21, g22])), (h1, .inl (cB, 65536, .inl zf)), (h2, .inl (cB, 65536, .inl zf)), (h3, .inl (cI, 64, .inl zf)), (h4, .inl (cI, 300, .inl zf)), (h5, .inl (cI, 64, .inl zf))] H := hP
    have hD : va_D A [(h0, .inr (7, [.int 0, .int 0, .ref h1, .ref h2, g2, .ref h3, .int 0, .int 0, g3, g4, g5, g6, g7, g8, .int 0, g10, .ref h4, g11, .int 0, g13, g14, g15, g16, g17, g18, g19, .ref h5, g20, g21, g22])), (h1, .inl (cB, 65536, .inl zf)), (h2, .inl (cB, 65536, .inl zf)), (h3, .inl (cI, 64, .inl zf)), (h4, .inl (cI, 300, .inl zf)), (h5, .inl (cI, 64, .inl zf))] := hD
    obtain ⟨x_44, ex_44⟩ : ∃ y : Int32, y = v_1 + 1 := ⟨_, rfl⟩
    have tx_44 : x_44.toInt = v_1.toInt + 1 := by rw [ex_44]; exact ti_add rfl (by decide) (by omega) (by omega)
    refine lv_iinc (v := x_44) (lv' := [(1, .int x_44), (0, .ref h0)]) hx hb dX8_start_40 hl (k := 0) rfl (by rw [ex_44]; rfl) (by decide) rfl (fun ls hl => ?_)
    refine lv_goto (tgt := 22) hx hb dX8_start_43 (by decide) ?_
    exact ih_3 x_44 _ _ _ ⟨(by show 0 ≤ Int32.toInt x_44; omega), (by show Int32.toInt x_44 ≤ 65536; omega), (by show 65536 - Int32.toInt x_44 < ((n_2 : Nat) : Int); omega), hP, hD, hS, hl⟩
set_option maxHeartbeats 4000000 in
set_option maxRecDepth 100000 in
theorem K226_X7_isOctet (l : Launch) (D : va_G) (cB cI cZ : ClassId) (sz : Nat)   (p0 : Int32) (p1 : Int32) (i_p0 : p0.toInt ≤ (-1)) :
    CtI l D cB cI cZ yX7_isOctet wsX7_isOctet { frames := 0, cells := 0, slots := 0, locals := 0 } [.int p0, .int p1] [] sz 0 0
      (fun (r : Int32) (u : Unit) => r = 0)
      (fun u => []) := by
  refine mk_metI (cc := cX7_isOctet) (maxL := 2) (ret := (some .boolean)) (by decide) rfl (Nat.le_of_ble_eq_true rfl) ?_
  intro p e s m below meth c A hx hb hr hml hts hown hlocks hin hP hK hN hD hA hS ls hl
  have hown : s.vm.findClass RX7 = some m.cls := hown
  have hl : lv_has ls 2 [(0, .int p0), (1, .int p1)] := hl
  refine lv_iload_n hx hb dX7_isOctet_0 rfl (lv_at hl 0 rfl) ?_
  refine lv_if_lt (tgt := 25) hx hb dX7_isOctet_1 (by decide) (fun c => ?_) (fun c => absurd ((ti_lt (x := p0) (y := 0) (a := p0.toInt) (b := 0) rfl (by decide)).mpr (by omega)) c)
  refine lv_iconst (v := 0) hx hb dX7_isOctet_25 (by decide) ?_
  exact kr_z () hx hb hr rfl hlocks hP hD hS rfl dX7_isOctet_26
set_option maxHeartbeats 4000000 in
set_option maxRecDepth 100000 in
theorem K225_X7_disk (l : Launch) (D : va_G) (cB cI cZ : ClassId) (sz : Nat) (h0 : Nat)  (p0 : Int32) (p1 : Int32) (g0 : Value) (g1 : Value) (g2 : Value) (g3 : Value) (g4 : Value) (g5 : Value) (g6 : Value) (g7 : Value) (g8 : Value) (i_p0 : p0.toInt ≤ (-1)) :
    CtI l D cB cI cZ yX7_disk wsX7_disk { frames := 1, cells := 0, slots := 0, locals := 21 } [.ref h0, .int p0, .int p1] [(h0, .inr (6, [g0, g1, g2, g3, g4, g5, g6, g7, g8]))] sz 0 0
      (fun (r : Int32) (u : Unit) => r = (-1))
      (fun u => []) := by
  refine mk_metI (cc := cX7_disk) (maxL := 3) (ret := (some .int)) (by decide) rfl (Nat.le_of_ble_eq_true rfl) ?_
  intro p e s m below meth c A hx hb hr hml hts hown hlocks hin hP hK hN hD hA hS ls hl
  have hown : s.vm.findClass RX7 = some m.cls := hown
  have hl : lv_has ls 3 [(0, .ref h0), (1, .int p0), (2, .int p1)] := hl
  refine lv_iload_n hx hb dX7_disk_0 rfl (lv_at hl 1 rfl) ?_
  refine lv_iload_n hx hb dX7_disk_1 rfl (lv_at hl 2 rfl) ?_
  refine kc_i (wr := [(h0, .inr (6, [g0, g1, g2, g3, g4, g5, g6, g7, g8]))]) (va_runS (As := [.int p0, .int p1]) (rest := []) ⟨hx, hb, hml, hown, hts⟩ (K226_X7_isOctet l D cB cI cZ _ p0 p1 (by omega)) (va_cwS 2 hts gX7_disk_X7_isOctet rfl rfl rfl (by decide +kernel) ⟨Nat.le_of_ble_eq_true rfl, Nat.le_of_ble_eq_true rfl⟩) (pre_S (hP.sub [] rfl) hK hN (hD.sub [] (by decide) rfl)) rfl rfl hl.1 rfl (lv_room (Nat.le_of_ble_eq_true rfl)) dX7_disk_2 ⟨Nat.le_of_ble_eq_true rfl, Nat.le_of_ble_eq_true rfl⟩) hP hD hS hA [] [0] rfl rfl (by decide) (by decide) (fun r_1 u H locs hw hP hD hS => ?_)
  have k_2 := hw
  obtain rfl : r_1 = 0 := k_2
  have hP : va_P D vwCl [(h0, .inr (6, [g0, g1, g2, g3, g4, g5, g6, g7, g8]))] H := hP
  have hD : va_D A [(h0, .inr (6, [g0, g1, g2, g3, g4, g5, g6, g7, g8]))] := hD
  refine lv_if_ne (tgt := 10) hx hb dX7_disk_5 (by decide) (fun c => absurd (by decide) c) (fun c => ?_)
  refine lv_iconst (v := (-1)) hx hb dX7_disk_8 (by decide) ?_
  exact kr_i () hx hb hr hlocks (hP.sub [] rfl) (hD.sub [] (by decide) rfl) hS rfl dX7_disk_9
set_option maxHeartbeats 4000000 in
set_option maxRecDepth 100000 in
theorem K227_X8_disk (l : Launch) (D : va_G) (cB cI cZ : ClassId) (sz : Nat) (h0 : Nat)  (p0 : Int32) (p1 : Int32) (g0 : Value) (g1 : Value) (g2 : Value) (g3 : Value) (g4 : Value) (g5 : Value) (g6 : Value) (g7 : Value) (g8 : Value) (g9 : Value) (g10 : Value) (g11 : Value) (g12 : Value) (g13 : Value) (g14 : Value) (g15 : Value) (g16 : Value) (g17 : Value) (g18 : Value) (g19 : Value) (g20 : Value) (g21 : Value) (g22 : Value) (g23 : Value) (g24 : Value) (g25 : Value) (g26 : Value) (g27 : Value) (g28 : Value) (g29 : Value) (i_p0 : p0.toInt ≤ (-1)) :
    CtI l D cB cI cZ yX8_disk wsX8_disk { frames := 1, cells := 0, slots := 0, locals := 22 } [.ref h0, .int p0, .int p1] [(h0, .inr (7, [g0, g1, g2, g3, g4, g5, g6, g7, g8, g9, g10, g11, g12, g13, g14, g15, g16, g17, g18, g19, g20, g21, g22, g23, g24, g25, g26, g27, g28, g29]))] sz 0 0
      (fun (r : Int32) (u : Unit) => r = (-1))
      (fun u => []) := by
  refine mk_metI (cc := cX8_disk) (maxL := 3) (ret := (some .int)) (by decide) rfl (Nat.le_of_ble_eq_true rfl) ?_
  intro p e s m below meth c A hx hb hr hml hts hown hlocks hin hP hK hN hD hA hS ls hl
  have hown : s.vm.findClass RX8 = some m.cls := hown
  have hl : lv_has ls 3 [(0, .ref h0), (1, .int p0), (2, .int p1)] := hl
  refine lv_aload_n hx hb dX8_disk_0 rfl (lv_at hl 0 rfl) ?_
  refine lv_iconst (v := 0) hx hb dX8_disk_1 (by decide) ?_
  refine va_put (D := D) (ci := 7) (v := .int 0) (ty := .int) (C := RX8) (T := TX8) (N := 30) hx hb hts inX8_disk_X8 tyX8 tyX8_ok nmX8 hown hK hP hD hS 0 rfl rfl 0 (by decide) (hts _ wdX8_disk_0) (fun _ h9 => h9) rfl (by decide +kernel) rfl rfl (Nat.le_of_ble_eq_true rfl) dX8_disk_2 (fun H locs hP hD hS => ?_)
  have hP : va_P D vwCl [(h0, .inr (7, [.int 0, g1, g2, g3, g4, g5, g6, g7, g8, g9, g10, g11, g12, g13, g14, g15, g16, g17, g18, g19, g20, g21, g22, g23, g24, g25, g26, g27, g28, g29]))] H := hP
  have hD : va_D A [(h0, .inr (7, [.int 0, g1, g2, g3, g4, g5, g6, g7, g8, g9, g10, g11, g12, g13, g14, g15, g16, g17, g18, g19, g20, g21, g22, g23, g24, g25, g26, g27, g28, g29]))] := hD
  refine lv_iload_n hx hb dX8_disk_5 rfl (lv_at hl 1 rfl) ?_
  refine lv_iconst (v := 0) hx hb dX8_disk_6 (by decide) ?_
  refine lv_bipush (v := 63) hx hb dX8_disk_7 (by decide) ?_
  refine kc_i (wr := [(h0, .inr (7, [.int 0, g1, g2, g3, g4, g5, g6, g7, g8, g9, g10, g11, g12, g13, g14, g15, g16, g17, g18, g19, g20, g21, g22, g23, g24, g25, g26, g27, g28, g29]))]) (va_runS (As := [.int p0, .int 0, .int 63]) (rest := []) ⟨hx, hb, hml, hown, hts⟩ (K185_X8_in l D cB cI cZ _ p0 (by omega)) (va_cwS 3 hts gX8_disk_X8_in rfl rfl rfl (by decide +kernel) ⟨Nat.le_of_ble_eq_true rfl, Nat.le_of_ble_eq_true rfl⟩) (pre_S (hP.sub [] rfl) hK hN (hD.sub [] (by decide) rfl)) rfl rfl hl.1 rfl (lv_room (Nat.le_of_ble_eq_true rfl)) dX8_disk_9 ⟨Nat.le_of_ble_eq_true rfl, Nat.le_of_ble_eq_true rfl⟩) hP hD hS hA [] [0] rfl rfl (by decide) (by decide) (fun r_1 u H locs hw hP hD hS => ?_)
  have k_2 := hw
  obtain rfl : r_1 = 0 := k_2
  have hP : va_P D vwCl [(h0, .inr (7, [.int 0, g1, g2, g3, g4, g5, g6, g7, g8, g9, g10, g11, g12, g13, g14, g15, g16, g17, g18, g19, g20, g21, g22, g23, g24, g25, g26, g27, g28, g29]))] H := hP
  have hD : va_D A [(h0, .inr (7, [.int 0, g1, g2, g3, g4, g5, g6, g7, g8, g9, g10, g11, g12, g13, g14, g15, g16, g17, g18, g19, g20, g21, g22, g23, g24, g25, g26, g27, g28, g29]))] := hD
  refine lv_if_eq (tgt := 43) hx hb dX8_disk_12 (by decide) (fun c => ?_) (fun c => absurd (by decide) c)
  refine lv_iconst (v := (-1)) hx hb dX8_disk_43 (by decide) ?_
  exact kr_i () hx hb hr hlocks (hP.sub [] rfl) (hD.sub [] (by decide) rfl) hS rfl dX8_disk_44
set_option maxHeartbeats 4000000 in
set_option maxRecDepth 100000 in
theorem K229_X7_isOctet (l : Launch) (D : va_G) (cB cI cZ : ClassId) (sz : Nat)   (p0 : Int32) (p1 : Int32) (i_p0 : 64 ≤ p0.toInt) :
    CtI l D cB cI cZ yX7_isOctet wsX7_isOctet { frames := 0, cells := 0, slots := 0, locals := 0 } [.int p0, .int p1] [] sz 0 0
      (fun (r : Int32) (u : Unit) => r = 0)
      (fun u => []) := by
  refine mk_metI (cc := cX7_isOctet) (maxL := 2) (ret := (some .boolean)) (by decide) rfl (Nat.le_of_ble_eq_true rfl) ?_
  intro p e s m below meth c A hx hb hr hml hts hown hlocks hin hP hK hN hD hA hS ls hl
  have hown : s.vm.findClass RX7 = some m.cls := hown
  have hl : lv_has ls 2 [(0, .int p0), (1, .int p1)] := hl
  refine lv_iload_n hx hb dX7_isOctet_0 rfl (lv_at hl 0 rfl) ?_
  refine lv_if_lt (tgt := 25) hx hb dX7_isOctet_1 (by decide) (fun c => absurd ((ti_lt (x := p0) (y := 0) (a := p0.toInt) (b := 0) rfl (by decide)).mp c) (by omega)) (fun c => ?_)
  refine lv_iload_n hx hb dX7_isOctet_4 rfl (lv_at hl 0 rfl) ?_
  refine lv_bipush (v := 64) hx hb dX7_isOctet_5 (by decide) ?_
  refine lv_icmp_ge (tgt := 25) hx hb dX7_isOctet_7 (by decide) (fun c => ?_) (fun c => absurd ((ti_le (x := 64) (y := p0) (a := 64) (b := p0.toInt) (by decide) rfl).mpr (by omega)) c)
  refine lv_iconst (v := 0) hx hb dX7_isOctet_25 (by decide) ?_
  exact kr_z () hx hb hr rfl hlocks hP hD hS rfl dX7_isOctet_26
