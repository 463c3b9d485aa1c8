set_option maxHeartbeats 8000000 in
set_option maxRecDepth 100000 in
/-- the law behind its switch, at feed -/
theorem law_0 {p : Program} {e : Env} {s : State} {m : MethodId} {below : List Frame} {meth : Method} {c : Code} (l : Launch) {b : Nat} {xs : Nat → Int32} (C0 : lw_At p s m meth c b 4 xs) (D : va_G) (cB cI cZ : ClassId) (x1 x2 x3 : Int32) (ex1 : x1 = xs 1) (ex2 : x2 = xs 2) (ex3 : x3 = xs 3) (q_1 q_2 q_3 q_4 q_5 q_6 q_7 q_8 q_9 q_10 q_11 q_12 q_13 q_14 q_15 q_16 q_17 q_18 q_19 q_20 q_21 q_22 q_23 q_24 q_25 q_26 q_27 q_28 q_29 q_30 q_31 q_32 q_33 q_34 q_35 q_36 q_37 q_38 q_39 : Nat) (H : Heap) (locs : List Loc) (A : Nat → Prop) (hAe : A = fun q => s.heap.size ≤ q) (hK : va_K D vwCl (TY cB cI cZ) s) (hN : NW s) (hP : va_P D vwCl [(q_1, .inr (6, [.ref q_2, .ref q_5, .ref q_8, .ref q_16, .ref q_20, .ref q_22, .ref q_23, .int 0, .int 0])), (q_2, .inr (1, [.ref q_3, .ref q_4, .int 0, .int 0, .int 0])), (q_3, .inl (cB, 65536, .inl zf)), (q_4, .inl (cI, 1024, .inl zf)), (q_5, .inr (2, [.ref q_6, .ref q_7, .int 0])), (q_6, .inl (cI, 300, .inl zf)), (q_7, .inl (cI, 300, .inl zf)), (q_8, .inr (3, [.ref q_5, .ref q_9, .ref q_10, .ref q_11, .ref q_12, .ref q_13, .ref q_14, .ref q_15, .int 0, .int 0, .int 0, .int 0, .int 1, .int 0])), (q_9, .inl (cB, 65536, .inl zf)), (q_10, .inl (cI, 64, .inl zf)), (q_11, .inl (cZ, 64, .inl zf)), (q_12, .inl (cI, 64, .inl zf)), (q_13, .inl (cI, 64, .inl zf)), (q_14, .inl (cI, 64, .inl zf)), (q_15, .inl (cI, 64, .inl zf)), (q_16, .inr (0, [.ref q_8, .ref q_5, .ref q_17, .ref q_18, .ref q_19, .int 0])), (q_17, .inl (cZ, 64, .inl zf)), (q_18, .inl (cI, 64, .inl zf)), (q_19, .inl (cI, 300, .inl zf)), (q_20, .inr (5, [.ref q_2, .ref q_8, .ref q_5, .ref q_21, .int 0, .int 0])), (q_21, .inl (cB, 1600, .inl zf)), (q_22, .inr (4, [.ref q_2, .ref q_8, .ref q_5, .ref q_20])), (q_23, .inl (cB, 100, .inl zf)), (q_24, .inr (7, [.int 0, .int 0, .ref q_25, .ref q_26, .ref q_27, .ref q_28, .int 0, .int 0, .int 0, .int 1, .int 0, .int 0, .int 0, .int 0, .int 0, .int 0, .ref q_29, .ref q_30, .int 0, .ref q_31, .ref q_32, .ref q_33, .ref q_34, .int 0, .ref q_35, .int 0, .ref q_36, .ref q_37, .ref q_38, .ref q_39])), (q_25, .inl (cB, 65536, .inl zf)), (q_26, .inl (cB, 65536, .inl zf)), (q_27, .inl (cZ, 65536, .inl zf)), (q_28, .inl (cI, 64, .inl zf)), (q_29, .inl (cI, 300, .inl zf)), (q_30, .inl (cI, 300, .inl zf)), (q_31, .inl (cI, 128, .inl zf)), (q_32, .inl (cI, 128, .inl zf)), (q_33, .inl (cI, 128, .inl zf)), (q_34, .inl (cB, 100, .inl zf)), (q_35, .inl (cB, 4096, .inl zf)), (q_36, .inl (cI, 64, .inl zf)), (q_37, .inl (cB, 100, .inl zf)), (q_38, .inl (cZ, 64, .inl zf)), (q_39, .inl (cI, 300, .inl zf))] H) (hD : va_D A [(q_1, .inr (6, [.ref q_2, .ref q_5, .ref q_8, .ref q_16, .ref q_20, .ref q_22, .ref q_23, .int 0, .int 0])), (q_2, .inr (1, [.ref q_3, .ref q_4, .int 0, .int 0, .int 0])), (q_3, .inl (cB, 65536, .inl zf)), (q_4, .inl (cI, 1024, .inl zf)), (q_5, .inr (2, [.ref q_6, .ref q_7, .int 0])), (q_6, .inl (cI, 300, .inl zf)), (q_7, .inl (cI, 300, .inl zf)), (q_8, .inr (3, [.ref q_5, .ref q_9, .ref q_10, .ref q_11, .ref q_12, .ref q_13, .ref q_14, .ref q_15, .int 0, .int 0, .int 0, .int 0, .int 1, .int 0])), (q_9, .inl (cB, 65536, .inl zf)), (q_10, .inl (cI, 64, .inl zf)), (q_11, .inl (cZ, 64, .inl zf)), (q_12, .inl (cI, 64, .inl zf)), (q_13, .inl (cI, 64, .inl zf)), (q_14, .inl (cI, 64, .inl zf)), (q_15, .inl (cI, 64, .inl zf)), (q_16, .inr (0, [.ref q_8, .ref q_5, .ref q_17, .ref q_18, .ref q_19, .int 0])), (q_17, .inl (cZ, 64, .inl zf)), (q_18, .inl (cI, 64, .inl zf)), (q_19, .inl (cI, 300, .inl zf)), (q_20, .inr (5, [.ref q_2, .ref q_8, .ref q_5, .ref q_21, .int 0, .int 0])), (q_21, .inl (cB, 1600, .inl zf)), (q_22, .inr (4, [.ref q_2, .ref q_8, .ref q_5, .ref q_20])), (q_23, .inl (cB, 100, .inl zf)), (q_24, .inr (7, [.int 0, .int 0, .ref q_25, .ref q_26, .ref q_27, .ref q_28, .int 0, .int 0, .int 0, .int 1, .int 0, .int 0, .int 0, .int 0, .int 0, .int 0, .ref q_29, .ref q_30, .int 0, .ref q_31, .ref q_32, .ref q_33, .ref q_34, .int 0, .ref q_35, .int 0, .ref q_36, .ref q_37, .ref q_38, .ref q_39])), (q_25, .inl (cB, 65536, .inl zf)), (q_26, .inl (cB, 65536, .inl zf)), (q_27, .inl (cZ, 65536, .inl zf)), (q_28, .inl (cI, 64, .inl zf)), (q_29, .inl (cI, 300, .inl zf)), (q_30, .inl (cI, 300, .inl zf)), (q_31, .inl (cI, 128, .inl zf)), (q_32, .inl (cI, 128, .inl zf)), (q_33, .inl (cI, 128, .inl zf)), (q_34, .inl (cB, 100, .inl zf)), (q_35, .inl (cB, 4096, .inl zf)), (q_36, .inl (cI, 64, .inl zf)), (q_37, .inl (cB, 100, .inl zf)), (q_38, .inl (cZ, 64, .inl zf)), (q_39, .inl (cI, 300, .inl zf))]) (hS : va_S A s.heap H locs) (ls : Array Slot) (hl : lv_has ls 4 [(3, .int 0), (2, .ref q_24), (1, .ref q_1), (0, .ref b)]) : W p l e room_1 s m #[Value.ref b] below meth c H locs 39 337665 (lw_Z below #[Value.ref b] s) (F0 m 112 ls []) := by
  obtain ⟨hx, hb, hr, hml, hown, hts0, hX0, hbl, hlocks, hgv⟩ := id C0
  have hown : s.vm.findClass RL = some m.cls := hown
  have hts : ∀ w ∈ wsL_law, w.before #[Value.ref b] s = true := fun w h => hts0 w (wsL_law_in w h)
  have hA : ∀ q : Nat, s.heap.size ≤ q → A q := fun q h => by rw [hAe]; exact h
  have hbA : ¬ A b := by rw [hAe]; exact Nat.not_le.mpr hbl
  have hX : va_X b 4 xs s s.heap := hX0
  have hsp : (x3.toInt ≤ (-1)) ∨ x3.toInt = 0 ∨ (9 ≤ x3.toInt) ∨ x3.toInt = 1 ∨ x3.toInt = 2 ∨ x3.toInt = 3 ∨ x3.toInt = 4 ∨ x3.toInt = 5 ∨ x3.toInt = 6 ∨ x3.toInt = 7 ∨ x3.toInt = 8 := by omega
  rcases hsp with hsp | hsp | hsp | hsp | hsp | hsp | hsp | hsp | hsp | hsp | hsp
  · skip
    refine lv_aload_n hx hb dL_law_112 rfl (lv_at hl 2 rfl) ?_
    refine lv_aload_n hx hb dL_law_113 rfl (lv_at hl 3 rfl) ?_
    refine lv_iload_n hx hb dL_law_114 rfl (lv_at hl 0 rfl) ?_
    refine lv_iconst (v := 1) hx hb dL_law_115 (by decide) ?_
    refine lv_iadd hx hb dL_law_116 ?_
    refine lv_topi (fun z_1 ez_1 => ?_)
    obtain rfl : z_1 = 1 := ez_1.trans (by decide)
    refine va_sld hx hb hX hbl hbA hS (ti_in (a := 1) (by decide) (by decide) (by decide)) dL_law_117 ?_
    refine lv_topi (fun z_2 ez_2 => ?_)
    obtain rfl : x1 = z_2 := ((ez_2.trans (congrArg xs (show Int32.toNatClampNeg 1 = 1 by decide))).trans ex1.symm).symm
    refine lv_i2l hx hb dL_law_118 rfl ?_
    refine lv_topl (fun y_3 _ => ?_)
    refine lv_bipush (v := 32) hx hb dL_law_119 (by decide) ?_
    refine lv_lshl hx hb dL_law_121 rfl ?_
    refine lv_topl (fun y_4 _ => ?_)
    refine lv_aload_n hx hb dL_law_122 rfl (lv_at hl 3 rfl) ?_
    refine lv_iload_n hx hb dL_law_123 rfl (lv_at hl 0 rfl) ?_
    refine lv_iconst (v := 2) hx hb dL_law_124 (by decide) ?_
    refine lv_iadd hx hb dL_law_125 ?_
    refine lv_topi (fun z_5 ez_5 => ?_)
    obtain rfl : z_5 = 2 := ez_5.trans (by decide)
    refine va_sld hx hb hX hbl hbA hS (ti_in (a := 2) (by decide) (by decide) (by decide)) dL_law_126 ?_
    refine lv_topi (fun z_6 ez_6 => ?_)
    obtain rfl : x2 = z_6 := ((ez_6.trans (congrArg xs (show Int32.toNatClampNeg 2 = 2 by decide))).trans ex2.symm).symm
    refine lv_i2l hx hb dL_law_127 rfl ?_
    refine lv_topl (fun y_7 _ => ?_)
    refine lv_ldc2 (v := 4294967295) hx hb hown (hts _ wdL_law_10) dL_law_128 ?_
    refine lv_topl (fun y_8 _ => ?_)
    refine lv_land hx hb dL_law_131 ?_
    refine lv_topl (fun y_9 _ => ?_)
    refine lv_lor hx hb dL_law_132 ?_
    refine lv_topl (fun y_10 _ => ?_)
    refine lv_aload_n hx hb dL_law_133 rfl (lv_at hl 3 rfl) ?_
    refine lv_iload_n hx hb dL_law_134 rfl (lv_at hl 0 rfl) ?_
    refine lv_iconst (v := 3) hx hb dL_law_135 (by decide) ?_
    refine lv_iadd hx hb dL_law_136 ?_
    refine lv_topi (fun z_11 ez_11 => ?_)
    obtain rfl : z_11 = 3 := ez_11.trans (by decide)
    refine va_sld hx hb hX hbl hbA hS (ti_in (a := 3) (by decide) (by decide) (by decide)) dL_law_137 ?_
    refine lv_topi (fun z_12 ez_12 => ?_)
    obtain rfl : x3 = z_12 := ((ez_12.trans (congrArg xs (show Int32.toNatClampNeg 3 = 3 by decide))).trans ex3.symm).symm
    refine kc_i (wr := [(q_2, .inr (1, [.ref q_3, .ref q_4, .int 0, .int 0, .int 0])), (q_3, .inl (cB, 65536, .inl zf)), (q_4, .inl (cI, 1024, .inl zf)), (q_5, .inr (2, [.ref q_6, .ref q_7, .int 0])), (q_6, .inl (cI, 300, .inl zf)), (q_7, .inl (cI, 300, .inl zf)), (q_8, .inr (3, [.ref q_5, .ref q_9, .ref q_10, .ref q_11, .ref q_12, .ref q_13, .ref q_14, .ref q_15, .int 0, .int 0, .int 0, .int 0, .int 1, .int 0])), (q_9, .inl (cB, 65536, .inl zf)), (q_10, .inl (cI, 64, .inl zf)), (q_11, .inl (cZ, 64, .inl zf)), (q_12, .inl (cI, 64, .inl zf)), (q_13, .inl (cI, 64, .inl zf)), (q_14, .inl (cI, 64, .inl zf)), (q_15, .inl (cI, 64, .inl zf)), (q_16, .inr (0, [.ref q_8, .ref q_5, .ref q_17, .ref q_18, .ref q_19, .int 0])), (q_17, .inl (cZ, 64, .inl zf)), (q_18, .inl (cI, 64, .inl zf)), (q_19, .inl (cI, 300, .inl zf)), (q_20, .inr (5, [.ref q_2, .ref q_8, .ref q_5, .ref q_21, .int 0, .int 0])), (q_21, .inl (cB, 1600, .inl zf)), (q_22, .inr (4, [.ref q_2, .ref q_8, .ref q_5, .ref q_20])), (q_23, .inl (cB, 100, .inl zf)), (q_24, .inr (7, [.int 0, .int 0, .ref q_25, .ref q_26, .ref q_27, .ref q_28, .int 0, .int 0, .int 0, .int 1, .int 0, .int 0, .int 0, .int 0, .int 0, .int 0, .ref q_29, .ref q_30, .int 0, .ref q_31, .ref q_32, .ref q_33, .ref q_34, .int 0, .ref q_35, .int 0, .ref q_36, .ref q_37, .ref q_38, .ref q_39])), (q_25, .inl (cB, 65536, .inl zf)), (q_26, .inl (cB, 65536, .inl zf)), (q_27, .inl (cZ, 65536, .inl zf)), (q_28, .inl (cI, 64, .inl zf)), (q_29, .inl (cI, 300, .inl zf)), (q_30, .inl (cI, 300, .inl zf)), (q_31, .inl (cI, 128, .inl zf)), (q_32, .inl (cI, 128, .inl zf)), (q_33, .inl (cI, 128, .inl zf)), (q_34, .inl (cB, 100, .inl zf)), (q_35, .inl (cB, 4096, .inl zf)), (q_36, .inl (cI, 64, .inl zf)), (q_37, .inl (cB, 100, .inl zf)), (q_38, .inl (cZ, 64, .inl zf)), (q_39, .inl (cI, 300, .inl zf))]) (va_runV (As := [.long y_10, .int x3]) (rest := []) ⟨hx, hb, hml, hown, hts⟩ (K9_X7_feed l D cB cI cZ _ q_1 y_10 x3 ((.ref q_2)) ((.ref q_5)) ((.ref q_8)) ((.ref q_16)) ((.ref q_20)) ((.ref q_22)) ((.ref q_23)) ((.int 0)) ((.int 0)) (by omega)) (cwV 2 hts gL_law_X7_feed rfl rfl rfl (by decide +kernel) ⟨Nat.le_of_ble_eq_true rfl, Nat.le_of_ble_eq_true rfl⟩) (pre_V (q := (RX7, TX7, 9)) (ci := 6) (q0 := 0) (hP.sub [0] rfl) hK hN (hD.sub [0] (by decide) rfl) rfl rfl) rfl rfl hl.1 rfl (lv_room (Nat.le_of_ble_eq_true rfl)) dL_law_138 ⟨Nat.le_of_ble_eq_true rfl, Nat.le_of_ble_eq_true rfl⟩) hP hD hS hA [0] [1, 2, 3, 4, 5, 6, 7, 8, 9, 10, 11, 12, 13, 14, 15, 16, 17, 18, 19, 20, 21, 22, 23, 24, 25, 26, 27, 28, 29, 30, 31, 32, 33, 34, 35, 36, 37, 38] rfl rfl (by decide) (by decide) (fun r_13 u H locs hw hP hD hS => ?_)
    have k_14 := hw
    obtain rfl : r_13 = (-2) := k_14
    have hP : va_P D vwCl [(q_2, .inr (1, [.ref q_3, .ref q_4, .int 0, .int 0, .int 0])), (q_3, .inl (cB, 65536, .inl zf)), (q_4, .inl (cI, 1024, .inl zf)), (q_5, .inr (2, [.ref q_6, .ref q_7, .int 0])), (q_6, .inl (cI, 300, .inl zf)), (q_7, .inl (cI, 300, .inl zf)), (q_8, .inr (3, [.ref q_5, .ref q_9, .ref q_10, .ref q_11, .ref q_12, .ref q_13, .ref q_14, .ref q_15, .int 0, .int 0, .int 0, .int 0, .int 1, .int 0])), (q_9, .inl (cB, 65536, .inl zf)), (q_10, .inl (cI, 64, .inl zf)), (q_11, .inl (cZ, 64, .inl zf)), (q_12, .inl (cI, 64, .inl zf)), (q_13, .inl (cI, 64, .inl zf)), (q_14, .inl (cI, 64, .inl zf)), (q_15, .inl (cI, 64, .inl zf)), (q_16, .inr (0, [.ref q_8, .ref q_5, .ref q_17, .ref q_18, .ref q_19, .int 0])), (q_17, .inl (cZ, 64, .inl zf)), (q_18, .inl (cI, 64, .inl zf)), (q_19, .inl (cI, 300, .inl zf)), (q_20, .inr (5, [.ref q_2, .ref q_8, .ref q_5, .ref q_21, .int 0, .int 0])), (q_21, .inl (cB, 1600, .inl zf)), (q_22, .inr (4, [.ref q_2, .ref q_8, .ref q_5, .ref q_20])), (q_23, .inl (cB, 100, .inl zf)), (q_24, .inr (7, [.int 0, .int 0, .ref q_25, .ref q_26, .ref q_27, .ref q_28, .int 0, .int 0, .int 0, .int 1, .int 0, .int 0, .int 0, .int 0, .int 0, .int 0, .ref q_29, .ref q_30, .int 0, .ref q_31, .ref q_32, .ref q_33, .ref q_34, .int 0, .ref q_35, .int 0, .ref q_36, .ref q_37, .ref q_38, .ref q_39])), (q_25, .inl (cB, 65536, .inl zf)), (q_26, .inl (cB, 65536, .inl zf)), (q_27, .inl (cZ, 65536, .inl zf)), (q_28, .inl (cI, 64, .inl zf)), (q_29, .inl (cI, 300, .inl zf)), (q_30, .inl (cI, 300, .inl zf)), (q_31, .inl (cI, 128, .inl zf)), (q_32, .inl (cI, 128, .inl zf)), (q_33, .inl (cI, 128, .inl zf)), (q_34, .inl (cB, 100, .inl zf)), (q_35, .inl (cB, 4096, .inl zf)), (q_36, .inl (cI, 64, .inl zf)), (q_37, .inl (cB, 100, .inl zf)), (q_38, .inl (cZ, 64, .inl zf)), (q_39, .inl (cI, 300, .inl zf))] H := hP
    have hD : va_D A [(q_2, .inr (1, [.ref q_3, .ref q_4, .int 0, .int 0, .int 0])), (q_3, .inl (cB, 65536, .inl zf)), (q_4, .inl (cI, 1024, .inl zf)), (q_5, .inr (2, [.ref q_6, .ref q_7, .int 0])), (q_6, .inl (cI, 300, .inl zf)), (q_7, .inl (cI, 300, .inl zf)), (q_8, .inr (3, [.ref q_5, .ref q_9, .ref q_10, .ref q_11, .ref q_12, .ref q_13, .ref q_14, .ref q_15, .int 0, .int 0, .int 0, .int 0, .int 1, .int 0])), (q_9, .inl (cB, 65536, .inl zf)), (q_10, .inl (cI, 64, .inl zf)), (q_11, .inl (cZ, 64, .inl zf)), (q_12, .inl (cI, 64, .inl zf)), (q_13, .inl (cI, 64, .inl zf)), (q_14, .inl (cI, 64, .inl zf)), (q_15, .inl (cI, 64, .inl zf)), (q_16, .inr (0, [.ref q_8, .ref q_5, .ref q_17, .ref q_18, .ref q_19, .int 0])), (q_17, .inl (cZ, 64, .inl zf)), (q_18, .inl (cI, 64, .inl zf)), (q_19, .inl (cI, 300, .inl zf)), (q_20, .inr (5, [.ref q_2, .ref q_8, .ref q_5, .ref q_21, .int 0, .int 0])), (q_21, .inl (cB, 1600, .inl zf)), (q_22, .inr (4, [.ref q_2, .ref q_8, .ref q_5, .ref q_20])), (q_23, .inl (cB, 100, .inl zf)), (q_24, .inr (7, [.int 0, .int 0, .ref q_25, .ref q_26, .ref q_27, .ref q_28, .int 0, .int 0, .int 0, .int 1, .int 0, .int 0, .int 0, .int 0, .int 0, .int 0, .ref q_29, .ref q_30, .int 0, .ref q_31, .ref q_32, .ref q_33, .ref q_34, .int 0, .ref q_35, .int 0, .ref q_36, .ref q_37, .ref q_38, .ref q_39])), (q_25, .inl (cB, 65536, .inl zf)), (q_26, .inl (cB, 65536, .inl zf)), (q_27, .inl (cZ, 65536, .inl zf)), (q_28, .inl (cI, 64, .inl zf)), (q_29, .inl (cI, 300, .inl zf)), (q_30, .inl (cI, 300, .inl zf)), (q_31, .inl (cI, 128, .inl zf)), (q_32, .inl (cI, 128, .inl zf)), (q_33, .inl (cI, 128, .inl zf)), (q_34, .inl (cB, 100, .inl zf)), (q_35, .inl (cB, 4096, .inl zf)), (q_36, .inl (cI, 64, .inl zf)), (q_37, .inl (cB, 100, .inl zf)), (q_38, .inl (cZ, 64, .inl zf)), (q_39, .inl (cI, 300, .inl zf))] := hD
    refine lv_aload_n hx hb dL_law_141 rfl (lv_at hl 1 rfl) ?_
    refine lv_aload_n hx hb dL_law_142 rfl (lv_at hl 3 rfl) ?_
    refine lv_iload_n hx hb dL_law_143 rfl (lv_at hl 0 rfl) ?_
    refine lv_iconst (v := 1) hx hb dL_law_144 (by decide) ?_
    refine lv_iadd hx hb dL_law_145 ?_
    refine lv_topi (fun z_15 ez_15 => ?_)
    obtain rfl : z_15 = 1 := ez_15.trans (by decide)
    refine va_sld hx hb hX hbl hbA hS (ti_in (a := 1) (by decide) (by decide) (by decide)) dL_law_146 ?_
    refine lv_topi (fun z_16 ez_16 => ?_)
    obtain rfl : x1 = z_16 := ((ez_16.trans (congrArg xs (show Int32.toNatClampNeg 1 = 1 by decide))).trans ex1.symm).symm
    refine lv_i2l hx hb dL_law_147 rfl ?_
    refine lv_topl (fun y_17 _ => ?_)
    refine lv_bipush (v := 32) hx hb dL_law_148 (by decide) ?_
    refine lv_lshl hx hb dL_law_150 rfl ?_
    refine lv_topl (fun y_18 _ => ?_)
    refine lv_aload_n hx hb dL_law_151 rfl (lv_at hl 3 rfl) ?_
    refine lv_iload_n hx hb dL_law_152 rfl (lv_at hl 0 rfl) ?_
    refine lv_iconst (v := 2) hx hb dL_law_153 (by decide) ?_
    refine lv_iadd hx hb dL_law_154 ?_
    refine lv_topi (fun z_19 ez_19 => ?_)
    obtain rfl : z_19 = 2 := ez_19.trans (by decide)
    refine va_sld hx hb hX hbl hbA hS (ti_in (a := 2) (by decide) (by decide) (by decide)) dL_law_155 ?_
    refine lv_topi (fun z_20 ez_20 => ?_)
    obtain rfl : x2 = z_20 := ((ez_20.trans (congrArg xs (show Int32.toNatClampNeg 2 = 2 by decide))).trans ex2.symm).symm
    refine lv_i2l hx hb dL_law_156 rfl ?_
    refine lv_topl (fun y_21 _ => ?_)
    refine lv_ldc2 (v := 4294967295) hx hb hown (hts _ wdL_law_10) dL_law_157 ?_
    refine lv_topl (fun y_22 _ => ?_)
    refine lv_land hx hb dL_law_160 ?_
    refine lv_topl (fun y_23 _ => ?_)
    refine lv_lor hx hb dL_law_161 ?_
    refine lv_topl (fun y_24 _ => ?_)
    refine lv_aload_n hx hb dL_law_162 rfl (lv_at hl 3 rfl) ?_
    refine lv_iload_n hx hb dL_law_163 rfl (lv_at hl 0 rfl) ?_
    refine lv_iconst (v := 3) hx hb dL_law_164 (by decide) ?_
    refine lv_iadd hx hb dL_law_165 ?_
    refine lv_topi (fun z_25 ez_25 => ?_)
    obtain rfl : z_25 = 3 := ez_25.trans (by decide)
    refine va_sld hx hb hX hbl hbA hS (ti_in (a := 3) (by decide) (by decide) (by decide)) dL_law_166 ?_
    refine lv_topi (fun z_26 ez_26 => ?_)
    obtain rfl : x3 = z_26 := ((ez_26.trans (congrArg xs (show Int32.toNatClampNeg 3 = 3 by decide))).trans ex3.symm).symm
    refine kc_i (wr := [(q_2, .inr (1, [.ref q_3, .ref q_4, .int 0, .int 0, .int 0])), (q_3, .inl (cB, 65536, .inl zf)), (q_4, .inl (cI, 1024, .inl zf)), (q_5, .inr (2, [.ref q_6, .ref q_7, .int 0])), (q_6, .inl (cI, 300, .inl zf)), (q_7, .inl (cI, 300, .inl zf)), (q_8, .inr (3, [.ref q_5, .ref q_9, .ref q_10, .ref q_11, .ref q_12, .ref q_13, .ref q_14, .ref q_15, .int 0, .int 0, .int 0, .int 0, .int 1, .int 0])), (q_9, .inl (cB, 65536, .inl zf)), (q_10, .inl (cI, 64, .inl zf)), (q_11, .inl (cZ, 64, .inl zf)), (q_12, .inl (cI, 64, .inl zf)), (q_13, .inl (cI, 64, .inl zf)), (q_14, .inl (cI, 64, .inl zf)), (q_15, .inl (cI, 64, .inl zf)), (q_16, .inr (0, [.ref q_8, .ref q_5, .ref q_17, .ref q_18, .ref q_19, .int 0])), (q_17, .inl (cZ, 64, .inl zf)), (q_18, .inl (cI, 64, .inl zf)), (q_19, .inl (cI, 300, .inl zf)), (q_20, .inr (5, [.ref q_2, .ref q_8, .ref q_5, .ref q_21, .int 0, .int 0])), (q_21, .inl (cB, 1600, .inl zf)), (q_22, .inr (4, [.ref q_2, .ref q_8, .ref q_5, .ref q_20])), (q_23, .inl (cB, 100, .inl zf)), (q_25, .inl (cB, 65536, .inl zf)), (q_26, .inl (cB, 65536, .inl zf)), (q_27, .inl (cZ, 65536, .inl zf)), (q_28, .inl (cI, 64, .inl zf)), (q_29, .inl (cI, 300, .inl zf)), (q_30, .inl (cI, 300, .inl zf)), (q_31, .inl (cI, 128, .inl zf)), (q_32, .inl (cI, 128, .inl zf)), (q_33, .inl (cI, 128, .inl zf)), (q_34, .inl (cB, 100, .inl zf)), (q_35, .inl (cB, 4096, .inl zf)), (q_36, .inl (cI, 64, .inl zf)), (q_37, .inl (cB, 100, .inl zf)), (q_38, .inl (cZ, 64, .inl zf)), (q_39, .inl (cI, 300, .inl zf))]) (va_runV (As := [.long y_24, .int x3]) (rest := [.int (-2)]) ⟨hx, hb, hml, hown, hts⟩ (K10_X8_feed l D cB cI cZ _ q_24 y_24 x3 ((.int 0)) ((.int 0)) ((.ref q_25)) ((.ref q_26)) ((.ref q_27)) ((.ref q_28)) ((.int 0)) ((.int 0)) ((.int 0)) ((.int 1)) ((.int 0)) ((.int 0)) ((.int 0)) ((.int 0)) ((.int 0)) ((.int 0)) ((.ref q_29)) ((.ref q_30)) ((.int 0)) ((.ref q_31)) ((.ref q_32)) ((.ref q_33)) ((.ref q_34)) ((.int 0)) ((.ref q_35)) ((.int 0)) ((.ref q_36)) ((.ref q_37)) ((.ref q_38)) ((.ref q_39)) (by omega)) (cwV 2 hts gL_law_X8_feed rfl rfl rfl (by decide +kernel) ⟨Nat.le_of_ble_eq_true rfl, Nat.le_of_ble_eq_true rfl⟩) (pre_V (q := (RX8, TX8, 30)) (ci := 7) (q0 := 0) (hP.sub [22] rfl) hK hN (hD.sub [22] (by decide) rfl) rfl rfl) rfl rfl hl.1 rfl (lv_room (Nat.le_of_ble_eq_true rfl)) dL_law_167 ⟨Nat.le_of_ble_eq_true rfl, Nat.le_of_ble_eq_true rfl⟩) hP hD hS hA [22] [0, 1, 2, 3, 4, 5, 6, 7, 8, 9, 10, 11, 12, 13, 14, 15, 16, 17, 18, 19, 20, 21, 23, 24, 25, 26, 27, 28, 29, 30, 31, 32, 33, 34, 35, 36, 37] rfl rfl (by decide) (by decide) (fun r_27 u H locs hw hP hD hS => ?_)
    have k_28 := hw
    obtain rfl : r_27 = (-2) := k_28
    have hP : va_P D vwCl [(q_2, .inr (1, [.ref q_3, .ref q_4, .int 0, .int 0, .int 0])), (q_3, .inl (cB, 65536, .inl zf)), (q_4, .inl (cI, 1024, .inl zf)), (q_5, .inr (2, [.ref q_6, .ref q_7, .int 0])), (q_6, .inl (cI, 300, .inl zf)), (q_7, .inl (cI, 300, .inl zf)), (q_8, .inr (3, [.ref q_5, .ref q_9, .ref q_10, .ref q_11, .ref q_12, .ref q_13, .ref q_14, .ref q_15, .int 0, .int 0, .int 0, .int 0, .int 1, .int 0])), (q_9, .inl (cB, 65536, .inl zf)), (q_10, .inl (cI, 64, .inl zf)), (q_11, .inl (cZ, 64, .inl zf)), (q_12, .inl (cI, 64, .inl zf)), (q_13, .inl (cI, 64, .inl zf)), (q_14, .inl (cI, 64, .inl zf)), (q_15, .inl (cI, 64, .inl zf)), (q_16, .inr (0, [.ref q_8, .ref q_5, .ref q_17, .ref q_18, .ref q_19, .int 0])), (q_17, .inl (cZ, 64, .inl zf)), (q_18, .inl (cI, 64, .inl zf)), (q_19, .inl (cI, 300, .inl zf)), (q_20, .inr (5, [.ref q_2, .ref q_8, .ref q_5, .ref q_21, .int 0, .int 0])), (q_21, .inl (cB, 1600, .inl zf)), (q_22, .inr (4, [.ref q_2, .ref q_8, .ref q_5, .ref q_20])), (q_23, .inl (cB, 100, .inl zf)), (q_25, .inl (cB, 65536, .inl zf)), (q_26, .inl (cB, 65536, .inl zf)), (q_27, .inl (cZ, 65536, .inl zf)), (q_28, .inl (cI, 64, .inl zf)), (q_29, .inl (cI, 300, .inl zf)), (q_30, .inl (cI, 300, .inl zf)), (q_31, .inl (cI, 128, .inl zf)), (q_32, .inl (cI, 128, .inl zf)), (q_33, .inl (cI, 128, .inl zf)), (q_34, .inl (cB, 100, .inl zf)), (q_35, .inl (cB, 4096, .inl zf)), (q_36, .inl (cI, 64, .inl zf)), (q_37, .inl (cB, 100, .inl zf)), (q_38, .inl (cZ, 64, .inl zf)), (q_39, .inl (cI, 300, .inl zf))] H := hP
    have hD : va_D A [(q_2, .inr (1, [.ref q_3, .ref q_4, .int 0, .int 0, .int 0])), (q_3, .inl (cB, 65536, .inl zf)), (q_4, .inl (cI, 1024, .inl zf)), (q_5, .inr (2, [.ref q_6, .ref q_7, .int 0])), (q_6, .inl (cI, 300, .inl zf)), (q_7, .inl (cI, 300, .inl zf)), (q_8, .inr (3, [.ref q_5, .ref q_9, .ref q_10, .ref q_11, .ref q_12, .ref q_13, .ref q_14, .ref q_15, .int 0, .int 0, .int 0, .int 0, .int 1, .int 0])), (q_9, .inl (cB, 65536, .inl zf)), (q_10, .inl (cI, 64, .inl zf)), (q_11, .inl (cZ, 64, .inl zf)), (q_12, .inl (cI, 64, .inl zf)), (q_13, .inl (cI, 64, .inl zf)), (q_14, .inl (cI, 64, .inl zf)), (q_15, .inl (cI, 64, .inl zf)), (q_16, .inr (0, [.ref q_8, .ref q_5, .ref q_17, .ref q_18, .ref q_19, .int 0])), (q_17, .inl (cZ, 64, .inl zf)), (q_18, .inl (cI, 64, .inl zf)), (q_19, .inl (cI, 300, .inl zf)), (q_20, .inr (5, [.ref q_2, .ref q_8, .ref q_5, .ref q_21, .int 0, .int 0])), (q_21, .inl (cB, 1600, .inl zf)), (q_22, .inr (4, [.ref q_2, .ref q_8, .ref q_5, .ref q_20])), (q_23, .inl (cB, 100, .inl zf)), (q_25, .inl (cB, 65536, .inl zf)), (q_26, .inl (cB, 65536, .inl zf)), (q_27, .inl (cZ, 65536, .inl zf)), (q_28, .inl (cI, 64, .inl zf)), (q_29, .inl (cI, 300, .inl zf)), (q_30, .inl (cI, 300, .inl zf)), (q_31, .inl (cI, 128, .inl zf)), (q_32, .inl (cI, 128, .inl zf)), (q_33, .inl (cI, 128, .inl zf)), (q_34, .inl (cB, 100, .inl zf)), (q_35, .inl (cB, 4096, .inl zf)), (q_36, .inl (cI, 64, .inl zf)), (q_37, .inl (cB, 100, .inl zf)), (q_38, .inl (cZ, 64, .inl zf)), (q_39, .inl (cI, 300, .inl zf))] := hD
    refine lv_icmp_eq (tgt := 560) hx hb dL_law_170 (by decide) (fun c => ?_) (fun c => absurd (by decide) c)
    refine lv_iinc (v := 4) (lv' := [(3, .int 4), (2, .ref q_24), (1, .ref q_1), (0, .ref b)]) hx hb dL_law_560 hl (k := 0) rfl (by decide) (by decide) rfl (fun ls hl => ?_)
    refine lv_goto (tgt := 18) hx hb dL_law_563 (by decide) ?_
    refine lv_iload_n hx hb dL_law_18 rfl (lv_at hl 0 rfl) ?_
    refine lv_aload_n hx hb dL_law_19 rfl (lv_at hl 3 rfl) ?_
    refine va_slen hx hb hX hbl hbA hS dL_law_20 ?_
    refine lv_topi (fun z_29 ez_29 => ?_)
    obtain rfl : z_29 = 4 := ez_29.trans (by decide)
    refine lv_iconst (v := 4) hx hb dL_law_21 (by decide) ?_
    refine lv_isub hx hb dL_law_22 ?_
    refine lv_topi (fun z_30 ez_30 => ?_)
    obtain rfl : z_30 = 0 := ez_30.trans (by decide)
    refine lv_icmp_gt (tgt := 566) hx hb dL_law_23 (by decide) (fun c => ?_) (fun c => absurd (by decide) c)
    refine lv_iconst (v := 1) hx hb dL_law_566 (by decide) ?_
    refine va_forget (fun q hq => by have h9 := hS.2.2 q hq; rw [hAe] at h9; exact h9) ?_
    refine W.widen (k := 600000) (n := 7302250) (Nat.le_of_ble_eq_true rfl) (Nat.le_of_ble_eq_true rfl) ?_
    exact lw_ret hx hb hr hlocks dL_law_567
  · skip
    obtain rfl : x3 = 0 := ti_inj (a := 0) (by decide) hsp
    refine lv_aload_n hx hb dL_law_112 rfl (lv_at hl 2 rfl) ?_
    refine lv_aload_n hx hb dL_law_113 rfl (lv_at hl 3 rfl) ?_
    refine lv_iload_n hx hb dL_law_114 rfl (lv_at hl 0 rfl) ?_
    refine lv_iconst (v := 1) hx hb dL_law_115 (by decide) ?_
    refine lv_iadd hx hb dL_law_116 ?_
    refine lv_topi (fun z_31 ez_31 => ?_)
    obtain rfl : z_31 = 1 := ez_31.trans (by decide)
    refine va_sld hx hb hX hbl hbA hS (ti_in (a := 1) (by decide) (by decide) (by decide)) dL_law_117 ?_
    refine lv_topi (fun z_32 ez_32 => ?_)
    obtain rfl : x1 = z_32 := ((ez_32.trans (congrArg xs (show Int32.toNatClampNeg 1 = 1 by decide))).trans ex1.symm).symm
    refine lv_i2l hx hb dL_law_118 rfl ?_
    refine lv_topl (fun y_33 _ => ?_)
    refine lv_bipush (v := 32) hx hb dL_law_119 (by decide) ?_
    refine lv_lshl hx hb dL_law_121 rfl ?_
    refine lv_topl (fun y_34 _ => ?_)
    refine lv_aload_n hx hb dL_law_122 rfl (lv_at hl 3 rfl) ?_
    refine lv_iload_n hx hb dL_law_123 rfl (lv_at hl 0 rfl) ?_
    refine lv_iconst (v := 2) hx hb dL_law_124 (by decide) ?_
    refine lv_iadd hx hb dL_law_125 ?_
    refine lv_topi (fun z_35 ez_35 => ?_)
    obtain rfl : z_35 = 2 := ez_35.trans (by decide)
    refine va_sld hx hb hX hbl hbA hS (ti_in (a := 2) (by decide) (by decide) (by decide)) dL_law_126 ?_
    refine lv_topi (fun z_36 ez_36 => ?_)
    obtain rfl : x2 = z_36 := ((ez_36.trans (congrArg xs (show Int32.toNatClampNeg 2 = 2 by decide))).trans ex2.symm).symm
    refine lv_i2l hx hb dL_law_127 rfl ?_
    refine lv_topl (fun y_37 _ => ?_)
    refine lv_ldc2 (v := 4294967295) hx hb hown (hts _ wdL_law_10) dL_law_128 ?_
    refine lv_topl (fun y_38 _ => ?_)
    refine lv_land hx hb dL_law_131 ?_
    refine lv_topl (fun y_39 _ => ?_)
    refine lv_lor hx hb dL_law_132 ?_
    refine lv_topl (fun y_40 _ => ?_)
    refine lv_aload_n hx hb dL_law_133 rfl (lv_at hl 3 rfl) ?_
    refine lv_iload_n hx hb dL_law_134 rfl (lv_at hl 0 rfl) ?_
    refine lv_iconst (v := 3) hx hb dL_law_135 (by decide) ?_
    refine lv_iadd hx hb dL_law_136 ?_
    refine lv_topi (fun z_41 ez_41 => ?_)
    obtain rfl : z_41 = 3 := ez_41.trans (by decide)
    refine va_sld hx hb hX hbl hbA hS (ti_in (a := 3) (by decide) (by decide) (by decide)) dL_law_137 ?_
    refine lv_topi (fun z_42 ez_42 => ?_)
    obtain rfl : z_42 = 0 := (ez_42.trans (congrArg xs (show Int32.toNatClampNeg 3 = 3 by decide))).trans ex3.symm
    refine kc_i (wr := [(q_2, .inr (1, [.ref q_3, .ref q_4, .int 0, .int 0, .int 0])), (q_3, .inl (cB, 65536, .inl zf)), (q_4, .inl (cI, 1024, .inl zf)), (q_5, .inr (2, [.ref q_6, .ref q_7, .int 0])), (q_6, .inl (cI, 300, .inl zf)), (q_7, .inl (cI, 300, .inl zf)), (q_8, .inr (3, [.ref q_5, .ref q_9, .ref q_10, .ref q_11, .ref q_12, .ref q_13, .ref q_14, .ref q_15, .int 0, .int 0, .int 0, .int 0, .int 1, .int 0])), (q_9, .inl (cB, 65536, .inl zf)), (q_10, .inl (cI, 64, .inl zf)), (q_11, .inl (cZ, 64, .inl zf)), (q_12, .inl (cI, 64, .inl zf)), (q_13, .inl (cI, 64, .inl zf)), (q_14, .inl (cI, 64, .inl zf)), (q_15, .inl (cI, 64, .inl zf)), (q_16, .inr (0, [.ref q_8, .ref q_5, .ref q_17, .ref q_18, .ref q_19, .int 0])), (q_17, .inl (cZ, 64, .inl zf)), (q_18, .inl (cI, 64, .inl zf)), (q_19, .inl (cI, 300, .inl zf)), (q_20, .inr (5, [.ref q_2, .ref q_8, .ref q_5, .ref q_21, .int 0, .int 0])), (q_21, .inl (cB, 1600, .inl zf)), (q_22, .inr (4, [.ref q_2, .ref q_8, .ref q_5, .ref q_20])), (q_23, .inl (cB, 100, .inl zf)), (q_24, .inr (7, [.int 0, .int 0, .ref q_25, .ref q_26, .ref q_27, .ref q_28, .int 0, .int 0, .int 0, .int 1, .int 0, .int 0, .int 0, .int 0, .int 0, .int 0, .ref q_29, .ref q_30, .int 0, .ref q_31, .ref q_32, .ref q_33, .ref q_34, .int 0, .ref q_35, .int 0, .ref q_36, .ref q_37, .ref q_38, .ref q_39])), (q_25, .inl (cB, 65536, .inl zf)), (q_26, .inl (cB, 65536, .inl zf)), (q_27, .inl (cZ, 65536, .inl zf)), (q_28, .inl (cI, 64, .inl zf)), (q_29, .inl (cI, 300, .inl zf)), (q_30, .inl (cI, 300, .inl zf)), (q_31, .inl (cI, 128, .inl zf)), (q_32, .inl (cI, 128, .inl zf)), (q_33, .inl (cI, 128, .inl zf)), (q_34, .inl (cB, 100, .inl zf)), (q_35, .inl (cB, 4096, .inl zf)), (q_36, .inl (cI, 64, .inl zf)), (q_37, .inl (cB, 100, .inl zf)), (q_38, .inl (cZ, 64, .inl zf)), (q_39, .inl (cI, 300, .inl zf))]) (va_runV (As := [.long y_40, .int 0]) (rest := []) ⟨hx, hb, hml, hown, hts⟩ (K12_X7_feed l D cB cI cZ _ q_1 y_40 ((.ref q_2)) ((.ref q_5)) ((.ref q_8)) ((.ref q_16)) ((.ref q_20)) ((.ref q_22)) ((.ref q_23)) ((.int 0)) ((.int 0))) (cwV 2 hts gL_law_X7_feed rfl rfl rfl (by decide +kernel) ⟨Nat.le_of_ble_eq_true rfl, Nat.le_of_ble_eq_true rfl⟩) (pre_V (q := (RX7, TX7, 9)) (ci := 6) (q0 := 0) (hP.sub [0] rfl) hK hN (hD.sub [0] (by decide) rfl) rfl rfl) rfl rfl hl.1 rfl (lv_room (Nat.le_of_ble_eq_true rfl)) dL_law_138 ⟨Nat.le_of_ble_eq_true rfl, Nat.le_of_ble_eq_true rfl⟩) hP hD hS hA [0] [1, 2, 3, 4, 5, 6, 7, 8, 9, 10, 11, 12, 13, 14, 15, 16, 17, 18, 19, 20, 21, 22, 23, 24, 25, 26, 27, 28, 29, 30, 31, 32, 33, 34, 35, 36, 37, 38] rfl rfl (by decide) (by decide) (fun r_43 u H locs hw hP hD hS => ?_)
    have k_44 := hw
    obtain rfl : r_43 = 0 := k_44
    have hP : va_P D vwCl [(q_2, .inr (1, [.ref q_3, .ref q_4, .int 0, .int 0, .int 0])), (q_3, .inl (cB, 65536, .inl zf)), (q_4, .inl (cI, 1024, .inl zf)), (q_5, .inr (2, [.ref q_6, .ref q_7, .int 0])), (q_6, .inl (cI, 300, .inl zf)), (q_7, .inl (cI, 300, .inl zf)), (q_8, .inr (3, [.ref q_5, .ref q_9, .ref q_10, .ref q_11, .ref q_12, .ref q_13, .ref q_14, .ref q_15, .int 0, .int 0, .int 0, .int 0, .int 1, .int 0])), (q_9, .inl (cB, 65536, .inl zf)), (q_10, .inl (cI, 64, .inl zf)), (q_11, .inl (cZ, 64, .inl zf)), (q_12, .inl (cI, 64, .inl zf)), (q_13, .inl (cI, 64, .inl zf)), (q_14, .inl (cI, 64, .inl zf)), (q_15, .inl (cI, 64, .inl zf)), (q_16, .inr (0, [.ref q_8, .ref q_5, .ref q_17, .ref q_18, .ref q_19, .int 0])), (q_17, .inl (cZ, 64, .inl zf)), (q_18, .inl (cI, 64, .inl zf)), (q_19, .inl (cI, 300, .inl zf)), (q_20, .inr (5, [.ref q_2, .ref q_8, .ref q_5, .ref q_21, .int 0, .int 0])), (q_21, .inl (cB, 1600, .inl zf)), (q_22, .inr (4, [.ref q_2, .ref q_8, .ref q_5, .ref q_20])), (q_23, .inl (cB, 100, .inl zf)), (q_24, .inr (7, [.int 0, .int 0, .ref q_25, .ref q_26, .ref q_27, .ref q_28, .int 0, .int 0, .int 0, .int 1, .int 0, .int 0, .int 0, .int 0, .int 0, .int 0, .ref q_29, .ref q_30, .int 0, .ref q_31, .ref q_32, .ref q_33, .ref q_34, .int 0, .ref q_35, .int 0, .ref q_36, .ref q_37, .ref q_38, .ref q_39])), (q_25, .inl (cB, 65536, .inl zf)), (q_26, .inl (cB, 65536, .inl zf)), (q_27, .inl (cZ, 65536, .inl zf)), (q_28, .inl (cI, 64, .inl zf)), (q_29, .inl (cI, 300, .inl zf)), (q_30, .inl (cI, 300, .inl zf)), (q_31, .inl (cI, 128, .inl zf)), (q_32, .inl (cI, 128, .inl zf)), (q_33, .inl (cI, 128, .inl zf)), (q_34, .inl (cB, 100, .inl zf)), (q_35, .inl (cB, 4096, .inl zf)), (q_36, .inl (cI, 64, .inl zf)), (q_37, .inl (cB, 100, .inl zf)), (q_38, .inl (cZ, 64, .inl zf)), (q_39, .inl (cI, 300, .inl zf))] H := hP
    have hD : va_D A [(q_2, .inr (1, [.ref q_3, .ref q_4, .int 0, .int 0, .int 0])), (q_3, .inl (cB, 65536, .inl zf)), (q_4, .inl (cI, 1024, .inl zf)), (q_5, .inr (2, [.ref q_6, .ref q_7, .int 0])), (q_6, .inl (cI, 300, .inl zf)), (q_7, .inl (cI, 300, .inl zf)), (q_8, .inr (3, [.ref q_5, .ref q_9, .ref q_10, .ref q_11, .ref q_12, .ref q_13, .ref q_14, .ref q_15, .int 0, .int 0, .int 0, .int 0, .int 1, .int 0])), (q_9, .inl (cB, 65536, .inl zf)), (q_10, .inl (cI, 64, .inl zf)), (q_11, .inl (cZ, 64, .inl zf)), (q_12, .inl (cI, 64, .inl zf)), (q_13, .inl (cI, 64, .inl zf)), (q_14, .inl (cI, 64, .inl zf)), (q_15, .inl (cI, 64, .inl zf)), (q_16, .inr (0, [.ref q_8, .ref q_5, .ref q_17, .ref q_18, .ref q_19, .int 0])), (q_17, .inl (cZ, 64, .inl zf)), (q_18, .inl (cI, 64, .inl zf)), (q_19, .inl (cI, 300, .inl zf)), (q_20, .inr (5, [.ref q_2, .ref q_8, .ref q_5, .ref q_21, .int 0, .int 0])), (q_21, .inl (cB, 1600, .inl zf)), (q_22, .inr (4, [.ref q_2, .ref q_8, .ref q_5, .ref q_20])), (q_23, .inl (cB, 100, .inl zf)), (q_24, .inr (7, [.int 0, .int 0, .ref q_25, .ref q_26, .ref q_27, .ref q_28, .int 0, .int 0, .int 0, .int 1, .int 0, .int 0, .int 0, .int 0, .int 0, .int 0, .ref q_29, .ref q_30, .int 0, .ref q_31, .ref q_32, .ref q_33, .ref q_34, .int 0, .ref q_35, .int 0, .ref q_36, .ref q_37, .ref q_38, .ref q_39])), (q_25, .inl (cB, 65536, .inl zf)), (q_26, .inl (cB, 65536, .inl zf)), (q_27, .inl (cZ, 65536, .inl zf)), (q_28, .inl (cI, 64, .inl zf)), (q_29, .inl (cI, 300, .inl zf)), (q_30, .inl (cI, 300, .inl zf)), (q_31, .inl (cI, 128, .inl zf)), (q_32, .inl (cI, 128, .inl zf)), (q_33, .inl (cI, 128, .inl zf)), (q_34, .inl (cB, 100, .inl zf)), (q_35, .inl (cB, 4096, .inl zf)), (q_36, .inl (cI, 64, .inl zf)), (q_37, .inl (cB, 100, .inl zf)), (q_38, .inl (cZ, 64, .inl zf)), (q_39, .inl (cI, 300, .inl zf))] := hD
    refine lv_aload_n hx hb dL_law_141 rfl (lv_at hl 1 rfl) ?_
    refine lv_aload_n hx hb dL_law_142 rfl (lv_at hl 3 rfl) ?_
    refine lv_iload_n hx hb dL_law_143 rfl (lv_at hl 0 rfl) ?_
    refine lv_iconst (v := 1) hx hb dL_law_144 (by decide) ?_
    refine lv_iadd hx hb dL_law_145 ?_
    refine lv_topi (fun z_45 ez_45 => ?_)
    obtain rfl : z_45 = 1 := ez_45.trans (by decide)
    refine va_sld hx hb hX hbl hbA hS (ti_in (a := 1) (by decide) (by decide) (by decide)) dL_law_146 ?_
    refine lv_topi (fun z_46 ez_46 => ?_)
    obtain rfl : x1 = z_46 := ((ez_46.trans (congrArg xs (show Int32.toNatClampNeg 1 = 1 by decide))).trans ex1.symm).symm
    refine lv_i2l hx hb dL_law_147 rfl ?_
    refine lv_topl (fun y_47 _ => ?_)
    refine lv_bipush (v := 32) hx hb dL_law_148 (by decide) ?_
    refine lv_lshl hx hb dL_law_150 rfl ?_
    refine lv_topl (fun y_48 _ => ?_)
    refine lv_aload_n hx hb dL_law_151 rfl (lv_at hl 3 rfl) ?_
    refine lv_iload_n hx hb dL_law_152 rfl (lv_at hl 0 rfl) ?_
    refine lv_iconst (v := 2) hx hb dL_law_153 (by decide) ?_
    refine lv_iadd hx hb dL_law_154 ?_
    refine lv_topi (fun z_49 ez_49 => ?_)
    obtain rfl : z_49 = 2 := ez_49.trans (by decide)
    refine va_sld hx hb hX hbl hbA hS (ti_in (a := 2) (by decide) (by decide) (by decide)) dL_law_155 ?_
    refine lv_topi (fun z_50 ez_50 => ?_)
    obtain rfl : x2 = z_50 := ((ez_50.trans (congrArg xs (show Int32.toNatClampNeg 2 = 2 by decide))).trans ex2.symm).symm
    refine lv_i2l hx hb dL_law_156 rfl ?_
    refine lv_topl (fun y_51 _ => ?_)
    refine lv_ldc2 (v := 4294967295) hx hb hown (hts _ wdL_law_10) dL_law_157 ?_
    refine lv_topl (fun y_52 _ => ?_)
    refine lv_land hx hb dL_law_160 ?_
    refine lv_topl (fun y_53 _ => ?_)
    refine lv_lor hx hb dL_law_161 ?_
    refine lv_topl (fun y_54 _ => ?_)
    refine lv_aload_n hx hb dL_law_162 rfl (lv_at hl 3 rfl) ?_
    refine lv_iload_n hx hb dL_law_163 rfl (lv_at hl 0 rfl) ?_
    refine lv_iconst (v := 3) hx hb dL_law_164 (by decide) ?_
    refine lv_iadd hx hb dL_law_165 ?_
    refine lv_topi (fun z_55 ez_55 => ?_)
    obtain rfl : z_55 = 3 := ez_55.trans (by decide)
    refine va_sld hx hb hX hbl hbA hS (ti_in (a := 3) (by decide) (by decide) (by decide)) dL_law_166 ?_
    refine lv_topi (fun z_56 ez_56 => ?_)
    obtain rfl : z_56 = 0 := (ez_56.trans (congrArg xs (show Int32.toNatClampNeg 3 = 3 by decide))).trans ex3.symm
    refine kc_i (wr := [(q_2, .inr (1, [.ref q_3, .ref q_4, .int 0, .int 0, .int 0])), (q_3, .inl (cB, 65536, .inl zf)), (q_4, .inl (cI, 1024, .inl zf)), (q_5, .inr (2, [.ref q_6, .ref q_7, .int 0])), (q_6, .inl (cI, 300, .inl zf)), (q_7, .inl (cI, 300, .inl zf)), (q_8, .inr (3, [.ref q_5, .ref q_9, .ref q_10, .ref q_11, .ref q_12, .ref q_13, .ref q_14, .ref q_15, .int 0, .int 0, .int 0, .int 0, .int 1, .int 0])), (q_9, .inl (cB, 65536, .inl zf)), (q_10, .inl (cI, 64, .inl zf)), (q_11, .inl (cZ, 64, .inl zf)), (q_12, .inl (cI, 64, .inl zf)), (q_13, .inl (cI, 64, .inl zf)), (q_14, .inl (cI, 64, .inl zf)), (q_15, .inl (cI, 64, .inl zf)), (q_16, .inr (0, [.ref q_8, .ref q_5, .ref q_17, .ref q_18, .ref q_19, .int 0])), (q_17, .inl (cZ, 64, .inl zf)), (q_18, .inl (cI, 64, .inl zf)), (q_19, .inl (cI, 300, .inl zf)), (q_20, .inr (5, [.ref q_2, .ref q_8, .ref q_5, .ref q_21, .int 0, .int 0])), (q_21, .inl (cB, 1600, .inl zf)), (q_22, .inr (4, [.ref q_2, .ref q_8, .ref q_5, .ref q_20])), (q_23, .inl (cB, 100, .inl zf)), (q_25, .inl (cB, 65536, .inl zf)), (q_26, .inl (cB, 65536, .inl zf)), (q_27, .inl (cZ, 65536, .inl zf)), (q_28, .inl (cI, 64, .inl zf)), (q_29, .inl (cI, 300, .inl zf)), (q_30, .inl (cI, 300, .inl zf)), (q_31, .inl (cI, 128, .inl zf)), (q_32, .inl (cI, 128, .inl zf)), (q_33, .inl (cI, 128, .inl zf)), (q_34, .inl (cB, 100, .inl zf)), (q_35, .inl (cB, 4096, .inl zf)), (q_36, .inl (cI, 64, .inl zf)), (q_37, .inl (cB, 100, .inl zf)), (q_38, .inl (cZ, 64, .inl zf)), (q_39, .inl (cI, 300, .inl zf))]) (va_runV (As := [.long y_54, .int 0]) (rest := [.int 0]) ⟨hx, hb, hml, hown, hts⟩ (K13_X8_feed l D cB cI cZ _ q_24 y_54 ((.int 0)) ((.int 0)) ((.ref q_25)) ((.ref q_26)) ((.ref q_27)) ((.ref q_28)) ((.int 0)) ((.int 0)) ((.int 0)) ((.int 1)) ((.int 0)) ((.int 0)) ((.int 0)) ((.int 0)) ((.int 0)) ((.int 0)) ((.ref q_29)) ((.ref q_30)) ((.int 0)) ((.ref q_31)) ((.ref q_32)) ((.ref q_33)) ((.ref q_34)) ((.int 0)) ((.ref q_35)) ((.int 0)) ((.ref q_36)) ((.ref q_37)) ((.ref q_38)) ((.ref q_39))) (cwV 2 hts gL_law_X8_feed rfl rfl rfl (by decide +kernel) ⟨Nat.le_of_ble_eq_true rfl, Nat.le_of_ble_eq_true rfl⟩) (pre_V (q := (RX8, TX8, 30)) (ci := 7) (q0 := 0) (hP.sub [22] rfl) hK hN (hD.sub [22] (by decide) rfl) rfl rfl) rfl rfl hl.1 rfl (lv_room (Nat.le_of_ble_eq_true rfl)) dL_law_167 ⟨Nat.le_of_ble_eq_true rfl, Nat.le_of_ble_eq_true rfl⟩) hP hD hS hA [22] [0, 1, 2, 3, 4, 5, 6, 7, 8, 9, 10, 11, 12, 13, 14, 15, 16, 17, 18, 19, 20, 21, 23, 24, 25, 26, 27, 28, 29, 30, 31, 32, 33, 34, 35, 36, 37] rfl rfl (by decide) (by decide) (fun r_57 u H locs hw hP hD hS => ?_)
    have k_58 := hw
    obtain rfl : r_57 = 0 := k_58
    have hP : va_P D vwCl [(q_2, .inr (1, [.ref q_3, .ref q_4, .int 0, .int 0, .int 0])), (q_3, .inl (cB, 65536, .inl zf)), (q_4, .inl (cI, 1024, .inl zf)), (q_5, .inr (2, [.ref q_6, .ref q_7, .int 0])), (q_6, .inl (cI, 300, .inl zf)), (q_7, .inl (cI, 300, .inl zf)), (q_8, .inr (3, [.ref q_5, .ref q_9, .ref q_10, .ref q_11, .ref q_12, .ref q_13, .ref q_14, .ref q_15, .int 0, .int 0, .int 0, .int 0, .int 1, .int 0])), (q_9, .inl (cB, 65536, .inl zf)), (q_10, .inl (cI, 64, .inl zf)), (q_11, .inl (cZ, 64, .inl zf)), (q_12, .inl (cI, 64, .inl zf)), (q_13, .inl (cI, 64, .inl zf)), (q_14, .inl (cI, 64, .inl zf)), (q_15, .inl (cI, 64, .inl zf)), (q_16, .inr (0, [.ref q_8, .ref q_5, .ref q_17, .ref q_18, .ref q_19, .int 0])), (q_17, .inl (cZ, 64, .inl zf)), (q_18, .inl (cI, 64, .inl zf)), (q_19, .inl (cI, 300, .inl zf)), (q_20, .inr (5, [.ref q_2, .ref q_8, .ref q_5, .ref q_21, .int 0, .int 0])), (q_21, .inl (cB, 1600, .inl zf)), (q_22, .inr (4, [.ref q_2, .ref q_8, .ref q_5, .ref q_20])), (q_23, .inl (cB, 100, .inl zf)), (q_25, .inl (cB, 65536, .inl zf)), (q_26, .inl (cB, 65536, .inl zf)), (q_27, .inl (cZ, 65536, .inl zf)), (q_28, .inl (cI, 64, .inl zf)), (q_29, .inl (cI, 300, .inl zf)), (q_30, .inl (cI, 300, .inl zf)), (q_31, .inl (cI, 128, .inl zf)), (q_32, .inl (cI, 128, .inl zf)), (q_33, .inl (cI, 128, .inl zf)), (q_34, .inl (cB, 100, .inl zf)), (q_35, .inl (cB, 4096, .inl zf)), (q_36, .inl (cI, 64, .inl zf)), (q_37, .inl (cB, 100, .inl zf)), (q_38, .inl (cZ, 64, .inl zf)), (q_39, .inl (cI, 300, .inl zf))] H := hP
    have hD : va_D A [(q_2, .inr (1, [.ref q_3, .ref q_4, .int 0, .int 0, .int 0])), (q_3, .inl (cB, 65536, .inl zf)), (q_4, .inl (cI, 1024, .inl zf)), (q_5, .inr (2, [.ref q_6, .ref q_7, .int 0])), (q_6, .inl (cI, 300, .inl zf)), (q_7, .inl (cI, 300, .inl zf)), (q_8, .inr (3, [.ref q_5, .ref q_9, .ref q_10, .ref q_11, .ref q_12, .ref q_13, .ref q_14, .ref q_15, .int 0, .int 0, .int 0, .int 0, .int 1, .int 0])), (q_9, .inl (cB, 65536, .inl zf)), (q_10, .inl (cI, 64, .inl zf)), (q_11, .inl (cZ, 64, .inl zf)), (q_12, .inl (cI, 64, .inl zf)), (q_13, .inl (cI, 64, .inl zf)), (q_14, .inl (cI, 64, .inl zf)), (q_15, .inl (cI, 64, .inl zf)), (q_16, .inr (0, [.ref q_8, .ref q_5, .ref q_17, .ref q_18, .ref q_19, .int 0])), (q_17, .inl (cZ, 64, .inl zf)), (q_18, .inl (cI, 64, .inl zf)), (q_19, .inl (cI, 300, .inl zf)), (q_20, .inr (5, [.ref q_2, .ref q_8, .ref q_5, .ref q_21, .int 0, .int 0])), (q_21, .inl (cB, 1600, .inl zf)), (q_22, .inr (4, [.ref q_2, .ref q_8, .ref q_5, .ref q_20])), (q_23, .inl (cB, 100, .inl zf)), (q_25, .inl (cB, 65536, .inl zf)), (q_26, .inl (cB, 65536, .inl zf)), (q_27, .inl (cZ, 65536, .inl zf)), (q_28, .inl (cI, 64, .inl zf)), (q_29, .inl (cI, 300, .inl zf)), (q_30, .inl (cI, 300, .inl zf)), (q_31, .inl (cI, 128, .inl zf)), (q_32, .inl (cI, 128, .inl zf)), (q_33, .inl (cI, 128, .inl zf)), (q_34, .inl (cB, 100, .inl zf)), (q_35, .inl (cB, 4096, .inl zf)), (q_36, .inl (cI, 64, .inl zf)), (q_37, .inl (cB, 100, .inl zf)), (q_38, .inl (cZ, 64, .inl zf)), (q_39, .inl (cI, 300, .inl zf))] := hD
    refine lv_icmp_eq (tgt := 560) hx hb dL_law_170 (by decide) (fun c => ?_) (fun c => absurd (by decide) c)
    refine lv_iinc (v := 4) (lv' := [(3, .int 4), (2, .ref q_24), (1, .ref q_1), (0, .ref b)]) hx hb dL_law_560 hl (k := 0) rfl (by decide) (by decide) rfl (fun ls hl => ?_)
    refine lv_goto (tgt := 18) hx hb dL_law_563 (by decide) ?_
    refine lv_iload_n hx hb dL_law_18 rfl (lv_at hl 0 rfl) ?_
    refine lv_aload_n hx hb dL_law_19 rfl (lv_at hl 3 rfl) ?_
    refine va_slen hx hb hX hbl hbA hS dL_law_20 ?_
    refine lv_topi (fun z_59 ez_59 => ?_)
    obtain rfl : z_59 = 4 := ez_59.trans (by decide)
    refine lv_iconst (v := 4) hx hb dL_law_21 (by decide) ?_
    refine lv_isub hx hb dL_law_22 ?_
    refine lv_topi (fun z_60 ez_60 => ?_)
    obtain rfl : z_60 = 0 := ez_60.trans (by decide)
    refine lv_icmp_gt (tgt := 566) hx hb dL_law_23 (by decide) (fun c => ?_) (fun c => absurd (by decide) c)
    refine lv_iconst (v := 1) hx hb dL_law_566 (by decide) ?_
    refine va_forget (fun q hq => by have h9 := hS.2.2 q hq; rw [hAe] at h9; exact h9) ?_
    refine W.widen (k := 600000) (n := 7302250) (Nat.le_of_ble_eq_true rfl) (Nat.le_of_ble_eq_true rfl) ?_
    exact lw_ret hx hb hr hlocks dL_law_567
  · skip
    refine lv_aload_n hx hb dL_law_112 rfl (lv_at hl 2 rfl) ?_
    refine lv_aload_n hx hb dL_law_113 rfl (lv_at hl 3 rfl) ?_
    refine lv_iload_n hx hb dL_law_114 rfl (lv_at hl 0 rfl) ?_
    refine lv_iconst (v := 1) hx hb dL_law_115 (by decide) ?_
    refine lv_iadd hx hb dL_law_116 ?_
    refine lv_topi (fun z_61 ez_61 => ?_)
    obtain rfl : z_61 = 1 := ez_61.trans (by decide)
    refine va_sld hx hb hX hbl hbA hS (ti_in (a := 1) (by decide) (by decide) (by decide)) dL_law_117 ?_
    refine lv_topi (fun z_62 ez_62 => ?_)
    obtain rfl : x1 = z_62 := ((ez_62.trans (congrArg xs (show Int32.toNatClampNeg 1 = 1 by decide))).trans ex1.symm).symm
    refine lv_i2l hx hb dL_law_118 rfl ?_
    refine lv_topl (fun y_63 _ => ?_)
    refine lv_bipush (v := 32) hx hb dL_law_119 (by decide) ?_
    refine lv_lshl hx hb dL_law_121 rfl ?_
    refine lv_topl (fun y_64 _ => ?_)
    refine lv_aload_n hx hb dL_law_122 rfl (lv_at hl 3 rfl) ?_
    refine lv_iload_n hx hb dL_law_123 rfl (lv_at hl 0 rfl) ?_
    refine lv_iconst (v := 2) hx hb dL_law_124 (by decide) ?_
    refine lv_iadd hx hb dL_law_125 ?_
    refine lv_topi (fun z_65 ez_65 => ?_)
    obtain rfl : z_65 = 2 := ez_65.trans (by decide)
    refine va_sld hx hb hX hbl hbA hS (ti_in (a := 2) (by decide) (by decide) (by decide)) dL_law_126 ?_
    refine lv_topi (fun z_66 ez_66 => ?_)
    obtain rfl : x2 = z_66 := ((ez_66.trans (congrArg xs (show Int32.toNatClampNeg 2 = 2 by decide))).trans ex2.symm).symm
    refine lv_i2l hx hb dL_law_127 rfl ?_
    refine lv_topl (fun y_67 _ => ?_)
    refine lv_ldc2 (v := 4294967295) hx hb hown (hts _ wdL_law_10) dL_law_128 ?_
    refine lv_topl (fun y_68 _ => ?_)
    refine lv_land hx hb dL_law_131 ?_
    refine lv_topl (fun y_69 _ => ?_)
    refine lv_lor hx hb dL_law_132 ?_
    refine lv_topl (fun y_70 _ => ?_)
    refine lv_aload_n hx hb dL_law_133 rfl (lv_at hl 3 rfl) ?_
    refine lv_iload_n hx hb dL_law_134 rfl (lv_at hl 0 rfl) ?_
    refine lv_iconst (v := 3) hx hb dL_law_135 (by decide) ?_
    refine lv_iadd hx hb dL_law_136 ?_
    refine lv_topi (fun z_71 ez_71 => ?_)
    obtain rfl : z_71 = 3 := ez_71.trans (by decide)
    refine va_sld hx hb hX hbl hbA hS (ti_in (a := 3) (by decide) (by decide) (by decide)) dL_law_137 ?_
    refine lv_topi (fun z_72 ez_72 => ?_)
    obtain rfl : x3 = z_72 := ((ez_72.trans (congrArg xs (show Int32.toNatClampNeg 3 = 3 by decide))).trans ex3.symm).symm
    refine kc_i (wr := [(q_2, .inr (1, [.ref q_3, .ref q_4, .int 0, .int 0, .int 0])), (q_3, .inl (cB, 65536, .inl zf)), (q_4, .inl (cI, 1024, .inl zf)), (q_5, .inr (2, [.ref q_6, .ref q_7, .int 0])), (q_6, .inl (cI, 300, .inl zf)), (q_7, .inl (cI, 300, .inl zf)), (q_8, .inr (3, [.ref q_5, .ref q_9, .ref q_10, .ref q_11, .ref q_12, .ref q_13, .ref q_14, .ref q_15, .int 0, .int 0, .int 0, .int 0, .int 1, .int 0])), (q_9, .inl (cB, 65536, .inl zf)), (q_10, .inl (cI, 64, .inl zf)), (q_11, .inl (cZ, 64, .inl zf)), (q_12, .inl (cI, 64, .inl zf)), (q_13, .inl (cI, 64, .inl zf)), (q_14, .inl (cI, 64, .inl zf)), (q_15, .inl (cI, 64, .inl zf)), (q_16, .inr (0, [.ref q_8, .ref q_5, .ref q_17, .ref q_18, .ref q_19, .int 0])), (q_17, .inl (cZ, 64, .inl zf)), (q_18, .inl (cI, 64, .inl zf)), (q_19, .inl (cI, 300, .inl zf)), (q_20, .inr (5, [.ref q_2, .ref q_8, .ref q_5, .ref q_21, .int 0, .int 0])), (q_21, .inl (cB, 1600, .inl zf)), (q_22, .inr (4, [.ref q_2, .ref q_8, .ref q_5, .ref q_20])), (q_23, .inl (cB, 100, .inl zf)), (q_24, .inr (7, [.int 0, .int 0, .ref q_25, .ref q_26, .ref q_27, .ref q_28, .int 0, .int 0, .int 0, .int 1, .int 0, .int 0, .int 0, .int 0, .int 0, .int 0, .ref q_29, .ref q_30, .int 0, .ref q_31, .ref q_32, .ref q_33, .ref q_34, .int 0, .ref q_35, .int 0, .ref q_36, .ref q_37, .ref q_38, .ref q_39])), (q_25, .inl (cB, 65536, .inl zf)), (q_26, .inl (cB, 65536, .inl zf)), (q_27, .inl (cZ, 65536, .inl zf)), (q_28, .inl (cI, 64, .inl zf)), (q_29, .inl (cI, 300, .inl zf)), (q_30, .inl (cI, 300, .inl zf)), (q_31, .inl (cI, 128, .inl zf)), (q_32, .inl (cI, 128, .inl zf)), (q_33, .inl (cI, 128, .inl zf)), (q_34, .inl (cB, 100, .inl zf)), (q_35, .inl (cB, 4096, .inl zf)), (q_36, .inl (cI, 64, .inl zf)), (q_37, .inl (cB, 100, .inl zf)), (q_38, .inl (cZ, 64, .inl zf)), (q_39, .inl (cI, 300, .inl zf))]) (va_runV (As := [.long y_70, .int x3]) (rest := []) ⟨hx, hb, hml, hown, hts⟩ (K15_X7_feed l D cB cI cZ _ q_1 y_70 x3 ((.ref q_2)) ((.ref q_5)) ((.ref q_8)) ((.ref q_16)) ((.ref q_20)) ((.ref q_22)) ((.ref q_23)) ((.int 0)) ((.int 0)) (by omega)) (cwV 2 hts gL_law_X7_feed rfl rfl rfl (by decide +kernel) ⟨Nat.le_of_ble_eq_true rfl, Nat.le_of_ble_eq_true rfl⟩) (pre_V (q := (RX7, TX7, 9)) (ci := 6) (q0 := 0) (hP.sub [0] rfl) hK hN (hD.sub [0] (by decide) rfl) rfl rfl) rfl rfl hl.1 rfl (lv_room (Nat.le_of_ble_eq_true rfl)) dL_law_138 ⟨Nat.le_of_ble_eq_true rfl, Nat.le_of_ble_eq_true rfl⟩) hP hD hS hA [0] [1, 2, 3, 4, 5, 6, 7, 8, 9, 10, 11, 12, 13, 14, 15, 16, 17, 18, 19, 20, 21, 22, 23, 24, 25, 26, 27, 28, 29, 30, 31, 32, 33, 34, 35, 36, 37, 38] rfl rfl (by decide) (by decide) (fun r_73 u H locs hw hP hD hS => ?_)
    have k_74 := hw
    obtain rfl : r_73 = (-2) := k_74
    have hP : va_P D vwCl [(q_2, .inr (1, [.ref q_3, .ref q_4, .int 0, .int 0, .int 0])), (q_3, .inl (cB, 65536, .inl zf)), (q_4, .inl (cI, 1024, .inl zf)), (q_5, .inr (2, [.ref q_6, .ref q_7, .int 0])), (q_6, .inl (cI, 300, .inl zf)), (q_7, .inl (cI, 300, .inl zf)), (q_8, .inr (3, [.ref q_5, .ref q_9, .ref q_10, .ref q_11, .ref q_12, .ref q_13, .ref q_14, .ref q_15, .int 0, .int 0, .int 0, .int 0, .int 1, .int 0])), (q_9, .inl (cB, 65536, .inl zf)), (q_10, .inl (cI, 64, .inl zf)), (q_11, .inl (cZ, 64, .inl zf)), (q_12, .inl (cI, 64, .inl zf)), (q_13, .inl (cI, 64, .inl zf)), (q_14, .inl (cI, 64, .inl zf)), (q_15, .inl (cI, 64, .inl zf)), (q_16, .inr (0, [.ref q_8, .ref q_5, .ref q_17, .ref q_18, .ref q_19, .int 0])), (q_17, .inl (cZ, 64, .inl zf)), (q_18, .inl (cI, 64, .inl zf)), (q_19, .inl (cI, 300, .inl zf)), (q_20, .inr (5, [.ref q_2, .ref q_8, .ref q_5, .ref q_21, .int 0, .int 0])), (q_21, .inl (cB, 1600, .inl zf)), (q_22, .inr (4, [.ref q_2, .ref q_8, .ref q_5, .ref q_20])), (q_23, .inl (cB, 100, .inl zf)), (q_24, .inr (7, [.int 0, .int 0, .ref q_25, .ref q_26, .ref q_27, .ref q_28, .int 0, .int 0, .int 0, .int 1, .int 0, .int 0, .int 0, .int 0, .int 0, .int 0, .ref q_29, .ref q_30, .int 0, .ref q_31, .ref q_32, .ref q_33, .ref q_34, .int 0, .ref q_35, .int 0, .ref q_36, .ref q_37, .ref q_38, .ref q_39])), (q_25, .inl (cB, 65536, .inl zf)), (q_26, .inl (cB, 65536, .inl zf)), (q_27, .inl (cZ, 65536, .inl zf)), (q_28, .inl (cI, 64, .inl zf)), (q_29, .inl (cI, 300, .inl zf)), (q_30, .inl (cI, 300, .inl zf)), (q_31, .inl (cI, 128, .inl zf)), (q_32, .inl (cI, 128, .inl zf)), (q_33, .inl (cI, 128, .inl zf)), (q_34, .inl (cB, 100, .inl zf)), (q_35, .inl (cB, 4096, .inl zf)), (q_36, .inl (cI, 64, .inl zf)), (q_37, .inl (cB, 100, .inl zf)), (q_38, .inl (cZ, 64, .inl zf)), (q_39, .inl (cI, 300, .inl zf))] H := hP
    have hD : va_D A [(q_2, .inr (1, [.ref q_3, .ref q_4, .int 0, .int 0, .int 0])), (q_3, .inl (cB, 65536, .inl zf)), (q_4, .inl (cI, 1024, .inl zf)), (q_5, .inr (2, [.ref q_6, .ref q_7, .int 0])), (q_6, .inl (cI, 300, .inl zf)), (q_7, .inl (cI, 300, .inl zf)), (q_8, .inr (3, [.ref q_5, .ref q_9, .ref q_10, .ref q_11, .ref q_12, .ref q_13, .ref q_14, .ref q_15, .int 0, .int 0, .int 0, .int 0, .int 1, .int 0])), (q_9, .inl (cB, 65536, .inl zf)), (q_10, .inl (cI, 64, .inl zf)), (q_11, .inl (cZ, 64, .inl zf)), (q_12, .inl (cI, 64, .inl zf)), (q_13, .inl (cI, 64, .inl zf)), (q_14, .inl (cI, 64, .inl zf)), (q_15, .inl (cI, 64, .inl zf)), (q_16, .inr (0, [.ref q_8, .ref q_5, .ref q_17, .ref q_18, .ref q_19, .int 0])), (q_17, .inl (cZ, 64, .inl zf)), (q_18, .inl (cI, 64, .inl zf)), (q_19, .inl (cI, 300, .inl zf)), (q_20, .inr (5, [.ref q_2, .ref q_8, .ref q_5, .ref q_21, .int 0, .int 0])), (q_21, .inl (cB, 1600, .inl zf)), (q_22, .inr (4, [.ref q_2, .ref q_8, .ref q_5, .ref q_20])), (q_23, .inl (cB, 100, .inl zf)), (q_24, .inr (7, [.int 0, .int 0, .ref q_25, .ref q_26, .ref q_27, .ref q_28, .int 0, .int 0, .int 0, .int 1, .int 0, .int 0, .int 0, .int 0, .int 0, .int 0, .ref q_29, .ref q_30, .int 0, .ref q_31, .ref q_32, .ref q_33, .ref q_34, .int 0, .ref q_35, .int 0, .ref q_36, .ref q_37, .ref q_38, .ref q_39])), (q_25, .inl (cB, 65536, .inl zf)), (q_26, .inl (cB, 65536, .inl zf)), (q_27, .inl (cZ, 65536, .inl zf)), (q_28, .inl (cI, 64, .inl zf)), (q_29, .inl (cI, 300, .inl zf)), (q_30, .inl (cI, 300, .inl zf)), (q_31, .inl (cI, 128, .inl zf)), (q_32, .inl (cI, 128, .inl zf)), (q_33, .inl (cI, 128, .inl zf)), (q_34, .inl (cB, 100, .inl zf)), (q_35, .inl (cB, 4096, .inl zf)), (q_36, .inl (cI, 64, .inl zf)), (q_37, .inl (cB, 100, .inl zf)), (q_38, .inl (cZ, 64, .inl zf)), (q_39, .inl (cI, 300, .inl zf))] := hD
    refine lv_aload_n hx hb dL_law_141 rfl (lv_at hl 1 rfl) ?_
    refine lv_aload_n hx hb dL_law_142 rfl (lv_at hl 3 rfl) ?_
    refine lv_iload_n hx hb dL_law_143 rfl (lv_at hl 0 rfl) ?_
    refine lv_iconst (v := 1) hx hb dL_law_144 (by decide) ?_
    refine lv_iadd hx hb dL_law_145 ?_
    refine lv_topi (fun z_75 ez_75 => ?_)
    obtain rfl : z_75 = 1 := ez_75.trans (by decide)
    refine va_sld hx hb hX hbl hbA hS (ti_in (a := 1) (by decide) (by decide) (by decide)) dL_law_146 ?_
    refine lv_topi (fun z_76 ez_76 => ?_)
    obtain rfl : x1 = z_76 := ((ez_76.trans (congrArg xs (show Int32.toNatClampNeg 1 = 1 by decide))).trans ex1.symm).symm
    refine lv_i2l hx hb dL_law_147 rfl ?_
    refine lv_topl (fun y_77 _ => ?_)
    refine lv_bipush (v := 32) hx hb dL_law_148 (by decide) ?_
    refine lv_lshl hx hb dL_law_150 rfl ?_
    refine lv_topl (fun y_78 _ => ?_)
    refine lv_aload_n hx hb dL_law_151 rfl (lv_at hl 3 rfl) ?_
    refine lv_iload_n hx hb dL_law_152 rfl (lv_at hl 0 rfl) ?_
    refine lv_iconst (v := 2) hx hb dL_law_153 (by decide) ?_
    refine lv_iadd hx hb dL_law_154 ?_
    refine lv_topi (fun z_79 ez_79 => ?_)
    obtain rfl : z_79 = 2 := ez_79.trans (by decide)
    refine va_sld hx hb hX hbl hbA hS (ti_in (a := 2) (by decide) (by decide) (by decide)) dL_law_155 ?_
    refine lv_topi (fun z_80 ez_80 => ?_)
    obtain rfl : x2 = z_80 := ((ez_80.trans (congrArg xs (show Int32.toNatClampNeg 2 = 2 by decide))).trans ex2.symm).symm
    refine lv_i2l hx hb dL_law_156 rfl ?_
    refine lv_topl (fun y_81 _ => ?_)
    refine lv_ldc2 (v := 4294967295) hx hb hown (hts _ wdL_law_10) dL_law_157 ?_
    refine lv_topl (fun y_82 _ => ?_)
    refine lv_land hx hb dL_law_160 ?_
    refine lv_topl (fun y_83 _ => ?_)
    refine lv_lor hx hb dL_law_161 ?_
    refine lv_topl (fun y_84 _ => ?_)
    refine lv_aload_n hx hb dL_law_162 rfl (lv_at hl 3 rfl) ?_
    refine lv_iload_n hx hb dL_law_163 rfl (lv_at hl 0 rfl) ?_
    refine lv_iconst (v := 3) hx hb dL_law_164 (by decide) ?_
    refine lv_iadd hx hb dL_law_165 ?_
    refine lv_topi (fun z_85 ez_85 => ?_)
    obtain rfl : z_85 = 3 := ez_85.trans (by decide)
    refine va_sld hx hb hX hbl hbA hS (ti_in (a := 3) (by decide) (by decide) (by decide)) dL_law_166 ?_
    refine lv_topi (fun z_86 ez_86 => ?_)
    obtain rfl : x3 = z_86 := ((ez_86.trans (congrArg xs (show Int32.toNatClampNeg 3 = 3 by decide))).trans ex3.symm).symm
    refine kc_i (wr := [(q_2, .inr (1, [.ref q_3, .ref q_4, .int 0, .int 0, .int 0])), (q_3, .inl (cB, 65536, .inl zf)), (q_4, .inl (cI, 1024, .inl zf)), (q_5, .inr (2, [.ref q_6, .ref q_7, .int 0])), (q_6, .inl (cI, 300, .inl zf)), (q_7, .inl (cI, 300, .inl zf)), (q_8, .inr (3, [.ref q_5, .ref q_9, .ref q_10, .ref q_11, .ref q_12, .ref q_13, .ref q_14, .ref q_15, .int 0, .int 0, .int 0, .int 0, .int 1, .int 0])), (q_9, .inl (cB, 65536, .inl zf)), (q_10, .inl (cI, 64, .inl zf)), (q_11, .inl (cZ, 64, .inl zf)), (q_12, .inl (cI, 64, .inl zf)), (q_13, .inl (cI, 64, .inl zf)), (q_14, .inl (cI, 64, .inl zf)), (q_15, .inl (cI, 64, .inl zf)), (q_16, .inr (0, [.ref q_8, .ref q_5, .ref q_17, .ref q_18, .ref q_19, .int 0])), (q_17, .inl (cZ, 64, .inl zf)), (q_18, .inl (cI, 64, .inl zf)), (q_19, .inl (cI, 300, .inl zf)), (q_20, .inr (5, [.ref q_2, .ref q_8, .ref q_5, .ref q_21, .int 0, .int 0])), (q_21, .inl (cB, 1600, .inl zf)), (q_22, .inr (4, [.ref q_2, .ref q_8, .ref q_5, .ref q_20])), (q_23, .inl (cB, 100, .inl zf)), (q_25, .inl (cB, 65536, .inl zf)), (q_26, .inl (cB, 65536, .inl zf)), (q_27, .inl (cZ, 65536, .inl zf)), (q_28, .inl (cI, 64, .inl zf)), (q_29, .inl (cI, 300, .inl zf)), (q_30, .inl (cI, 300, .inl zf)), (q_31, .inl (cI, 128, .inl zf)), (q_32, .inl (cI, 128, .inl zf)), (q_33, .inl (cI, 128, .inl zf)), (q_34, .inl (cB, 100, .inl zf)), (q_35, .inl (cB, 4096, .inl zf)), (q_36, .inl (cI, 64, .inl zf)), (q_37, .inl (cB, 100, .inl zf)), (q_38, .inl (cZ, 64, .inl zf)), (q_39, .inl (cI, 300, .inl zf))]) (va_runV (As := [.long y_84, .int x3]) (rest := [.int (-2)]) ⟨hx, hb, hml, hown, hts⟩ (K16_X8_feed l D cB cI cZ _ q_24 y_84 x3 ((.int 0)) ((.int 0)) ((.ref q_25)) ((.ref q_26)) ((.ref q_27)) ((.ref q_28)) ((.int 0)) ((.int 0)) ((.int 0)) ((.int 1)) ((.int 0)) ((.int 0)) ((.int 0)) ((.int 0)) ((.int 0)) ((.int 0)) ((.ref q_29)) ((.ref q_30)) ((.int 0)) ((.ref q_31)) ((.ref q_32)) ((.ref q_33)) ((.ref q_34)) ((.int 0)) ((.ref q_35)) ((.int 0)) ((.ref q_36)) ((.ref q_37)) ((.ref q_38)) ((.ref q_39)) (by omega)) (cwV 2 hts gL_law_X8_feed rfl rfl rfl (by decide +kernel) ⟨Nat.le_of_ble_eq_true rfl, Nat.le_of_ble_eq_true rfl⟩) (pre_V (q := (RX8, TX8, 30)) (ci := 7) (q0 := 0) (hP.sub [22] rfl) hK hN (hD.sub [22] (by decide) rfl) rfl rfl) rfl rfl hl.1 rfl (lv_room (Nat.le_of_ble_eq_true rfl)) dL_law_167 ⟨Nat.le_of_ble_eq_true rfl, Nat.le_of_ble_eq_true rfl⟩) hP hD hS hA [22] [0, 1, 2, 3, 4, 5, 6, 7, 8, 9, 10, 11, 12, 13, 14, 15, 16, 17, 18, 19, 20, 21, 23, 24, 25, 26, 27, 28, 29, 30, 31, 32, 33, 34, 35, 36, 37] rfl rfl (by decide) (by decide) (fun r_87 u H locs hw hP hD hS => ?_)
    have k_88 := hw
    obtain rfl : r_87 = (-2) := k_88
    have hP : va_P D vwCl [(q_2, .inr (1, [.ref q_3, .ref q_4, .int 0, .int 0, .int 0])), (q_3, .inl (cB, 65536, .inl zf)), (q_4, .inl (cI, 1024, .inl zf)), (q_5, .inr (2, [.ref q_6, .ref q_7, .int 0])), (q_6, .inl (cI, 300, .inl zf)), (q_7, .inl (cI, 300, .inl zf)), (q_8, .inr (3, [.ref q_5, .ref q_9, .ref q_10, .ref q_11, .ref q_12, .ref q_13, .ref q_14, .ref q_15, .int 0, .int 0, .int 0, .int 0, .int 1, .int 0])), (q_9, .inl (cB, 65536, .inl zf)), (q_10, .inl (cI, 64, .inl zf)), (q_11, .inl (cZ, 64, .inl zf)), (q_12, .inl (cI, 64, .inl zf)), (q_13, .inl (cI, 64, .inl zf)), (q_14, .inl (cI, 64, .inl zf)), (q_15, .inl (cI, 64, .inl zf)), (q_16, .inr (0, [.ref q_8, .ref q_5, .ref q_17, .ref q_18, .ref q_19, .int 0])), (q_17, .inl (cZ, 64, .inl zf)), (q_18, .inl (cI, 64, .inl zf)), (q_19, .inl (cI, 300, .inl zf)), (q_20, .inr (5, [.ref q_2, .ref q_8, .ref q_5, .ref q_21, .int 0, .int 0])), (q_21, .inl (cB, 1600, .inl zf)), (q_22, .inr (4, [.ref q_2, .ref q_8, .ref q_5, .ref q_20])), (q_23, .inl (cB, 100, .inl zf)), (q_25, .inl (cB, 65536, .inl zf)), (q_26, .inl (cB, 65536, .inl zf)), (q_27, .inl (cZ, 65536, .inl zf)), (q_28, .inl (cI, 64, .inl zf)), (q_29, .inl (cI, 300, .inl zf)), (q_30, .inl (cI, 300, .inl zf)), (q_31, .inl (cI, 128, .inl zf)), (q_32, .inl (cI, 128, .inl zf)), (q_33, .inl (cI, 128, .inl zf)), (q_34, .inl (cB, 100, .inl zf)), (q_35, .inl (cB, 4096, .inl zf)), (q_36, .inl (cI, 64, .inl zf)), (q_37, .inl (cB, 100, .inl zf)), (q_38, .inl (cZ, 64, .inl zf)), (q_39, .inl (cI, 300, .inl zf))] H := hP
    have hD : va_D A [(q_2, .inr (1, [.ref q_3, .ref q_4, .int 0, .int 0, .int 0])), (q_3, .inl (cB, 65536, .inl zf)), (q_4, .inl (cI, 1024, .inl zf)), (q_5, .inr (2, [.ref q_6, .ref q_7, .int 0])), (q_6, .inl (cI, 300, .inl zf)), (q_7, .inl (cI, 300, .inl zf)), (q_8, .inr (3, [.ref q_5, .ref q_9, .ref q_10, .ref q_11, .ref q_12, .ref q_13, .ref q_14, .ref q_15, .int 0, .int 0, .int 0, .int 0, .int 1, .int 0])), (q_9, .inl (cB, 65536, .inl zf)), (q_10, .inl (cI, 64, .inl zf)), (q_11, .inl (cZ, 64, .inl zf)), (q_12, .inl (cI, 64, .inl zf)), (q_13, .inl (cI, 64, .inl zf)), (q_14, .inl (cI, 64, .inl zf)), (q_15, .inl (cI, 64, .inl zf)), (q_16, .inr (0, [.ref q_8, .ref q_5, .ref q_17, .ref q_18, .ref q_19, .int 0])), (q_17, .inl (cZ, 64, .inl zf)), (q_18, .inl (cI, 64, .inl zf)), (q_19, .inl (cI, 300, .inl zf)), (q_20, .inr (5, [.ref q_2, .ref q_8, .ref q_5, .ref q_21, .int 0, .int 0])), (q_21, .inl (cB, 1600, .inl zf)), (q_22, .inr (4, [.ref q_2, .ref q_8, .ref q_5, .ref q_20])), (q_23, .inl (cB, 100, .inl zf)), (q_25, .inl (cB, 65536, .inl zf)), (q_26, .inl (cB, 65536, .inl zf)), (q_27, .inl (cZ, 65536, .inl zf)), (q_28, .inl (cI, 64, .inl zf)), (q_29, .inl (cI, 300, .inl zf)), (q_30, .inl (cI, 300, .inl zf)), (q_31, .inl (cI, 128, .inl zf)), (q_32, .inl (cI, 128, .inl zf)), (q_33, .inl (cI, 128, .inl zf)), (q_34, .inl (cB, 100, .inl zf)), (q_35, .inl (cB, 4096, .inl zf)), (q_36, .inl (cI, 64, .inl zf)), (q_37, .inl (cB, 100, .inl zf)), (q_38, .inl (cZ, 64, .inl zf)), (q_39, .inl (cI, 300, .inl zf))] := hD
    refine lv_icmp_eq (tgt := 560) hx hb dL_law_170 (by decide) (fun c => ?_) (fun c => absurd (by decide) c)
    refine lv_iinc (v := 4) (lv' := [(3, .int 4), (2, .ref q_24), (1, .ref q_1), (0, .ref b)]) hx hb dL_law_560 hl (k := 0) rfl (by decide) (by decide) rfl (fun ls hl => ?_)
    refine lv_goto (tgt := 18) hx hb dL_law_563 (by decide) ?_
    refine lv_iload_n hx hb dL_law_18 rfl (lv_at hl 0 rfl) ?_
    refine lv_aload_n hx hb dL_law_19 rfl (lv_at hl 3 rfl) ?_
    refine va_slen hx hb hX hbl hbA hS dL_law_20 ?_
    refine lv_topi (fun z_89 ez_89 => ?_)
    obtain rfl : z_89 = 4 := ez_89.trans (by decide)
    refine lv_iconst (v := 4) hx hb dL_law_21 (by decide) ?_
    refine lv_isub hx hb dL_law_22 ?_
    refine lv_topi (fun z_90 ez_90 => ?_)
    obtain rfl : z_90 = 0 := ez_90.trans (by decide)
    refine lv_icmp_gt (tgt := 566) hx hb dL_law_23 (by decide) (fun c => ?_) (fun c => absurd (by decide) c)
    refine lv_iconst (v := 1) hx hb dL_law_566 (by decide) ?_
    refine va_forget (fun q hq => by have h9 := hS.2.2 q hq; rw [hAe] at h9; exact h9) ?_
    refine W.widen (k := 600000) (n := 7302250) (Nat.le_of_ble_eq_true rfl) (Nat.le_of_ble_eq_true rfl) ?_
    exact lw_ret hx hb hr hlocks dL_law_567
  · skip
    obtain rfl : x3 = 1 := ti_inj (a := 1) (by decide) hsp
    refine lv_aload_n hx hb dL_law_112 rfl (lv_at hl 2 rfl) ?_
    refine lv_aload_n hx hb dL_law_113 rfl (lv_at hl 3 rfl) ?_
    refine lv_iload_n hx hb dL_law_114 rfl (lv_at hl 0 rfl) ?_
    refine lv_iconst (v := 1) hx hb dL_law_115 (by decide) ?_
    refine lv_iadd hx hb dL_law_116 ?_
    refine lv_topi (fun z_91 ez_91 => ?_)
    obtain rfl : z_91 = 1 := ez_91.trans (by decide)
    refine va_sld hx hb hX hbl hbA hS (ti_in (a := 1) (by decide) (by decide) (by decide)) dL_law_117 ?_
    refine lv_topi (fun z_92 ez_92 => ?_)
    obtain rfl : x1 = z_92 := ((ez_92.trans (congrArg xs (show Int32.toNatClampNeg 1 = 1 by decide))).trans ex1.symm).symm
    refine lv_i2l hx hb dL_law_118 rfl ?_
    refine lv_topl (fun y_93 _ => ?_)
    refine lv_bipush (v := 32) hx hb dL_law_119 (by decide) ?_
    refine lv_lshl hx hb dL_law_121 rfl ?_
    refine lv_topl (fun y_94 _ => ?_)
    refine lv_aload_n hx hb dL_law_122 rfl (lv_at hl 3 rfl) ?_
    refine lv_iload_n hx hb dL_law_123 rfl (lv_at hl 0 rfl) ?_
    refine lv_iconst (v := 2) hx hb dL_law_124 (by decide) ?_
    refine lv_iadd hx hb dL_law_125 ?_
    refine lv_topi (fun z_95 ez_95 => ?_)
    obtain rfl : z_95 = 2 := ez_95.trans (by decide)
    refine va_sld hx hb hX hbl hbA hS (ti_in (a := 2) (by decide) (by decide) (by decide)) dL_law_126 ?_
    refine lv_topi (fun z_96 ez_96 => ?_)
    obtain rfl : x2 = z_96 := ((ez_96.trans (congrArg xs (show Int32.toNatClampNeg 2 = 2 by decide))).trans ex2.symm).symm
    refine lv_i2l hx hb dL_law_127 rfl ?_
    refine lv_topl (fun y_97 _ => ?_)
    refine lv_ldc2 (v := 4294967295) hx hb hown (hts _ wdL_law_10) dL_law_128 ?_
    refine lv_topl (fun y_98 _ => ?_)
    refine lv_land hx hb dL_law_131 ?_
    refine lv_topl (fun y_99 _ => ?_)
    refine lv_lor hx hb dL_law_132 ?_
    refine lv_topl (fun y_100 _ => ?_)
    refine lv_aload_n hx hb dL_law_133 rfl (lv_at hl 3 rfl) ?_
    refine lv_iload_n hx hb dL_law_134 rfl (lv_at hl 0 rfl) ?_
    refine lv_iconst (v := 3) hx hb dL_law_135 (by decide) ?_
    refine lv_iadd hx hb dL_law_136 ?_
    refine lv_topi (fun z_101 ez_101 => ?_)
    obtain rfl : z_101 = 3 := ez_101.trans (by decide)
    refine va_sld hx hb hX hbl hbA hS (ti_in (a := 3) (by decide) (by decide) (by decide)) dL_law_137 ?_
    refine lv_topi (fun z_102 ez_102 => ?_)
    obtain rfl : z_102 = 1 := (ez_102.trans (congrArg xs (show Int32.toNatClampNeg 3 = 3 by decide))).trans ex3.symm
    refine kc_i (wr := [(q_2, .inr (1, [.ref q_3, .ref q_4, .int 0, .int 0, .int 0])), (q_3, .inl (cB, 65536, .inl zf)), (q_4, .inl (cI, 1024, .inl zf)), (q_5, .inr (2, [.ref q_6, .ref q_7, .int 0])), (q_6, .inl (cI, 300, .inl zf)), (q_7, .inl (cI, 300, .inl zf)), (q_8, .inr (3, [.ref q_5, .ref q_9, .ref q_10, .ref q_11, .ref q_12, .ref q_13, .ref q_14, .ref q_15, .int 0, .int 0, .int 0, .int 0, .int 1, .int 0])), (q_9, .inl (cB, 65536, .inl zf)), (q_10, .inl (cI, 64, .inl zf)), (q_11, .inl (cZ, 64, .inl zf)), (q_12, .inl (cI, 64, .inl zf)), (q_13, .inl (cI, 64, .inl zf)), (q_14, .inl (cI, 64, .inl zf)), (q_15, .inl (cI, 64, .inl zf)), (q_16, .inr (0, [.ref q_8, .ref q_5, .ref q_17, .ref q_18, .ref q_19, .int 0])), (q_17, .inl (cZ, 64, .inl zf)), (q_18, .inl (cI, 64, .inl zf)), (q_19, .inl (cI, 300, .inl zf)), (q_20, .inr (5, [.ref q_2, .ref q_8, .ref q_5, .ref q_21, .int 0, .int 0])), (q_21, .inl (cB, 1600, .inl zf)), (q_22, .inr (4, [.ref q_2, .ref q_8, .ref q_5, .ref q_20])), (q_24, .inr (7, [.int 0, .int 0, .ref q_25, .ref q_26, .ref q_27, .ref q_28, .int 0, .int 0, .int 0, .int 1, .int 0, .int 0, .int 0, .int 0, .int 0, .int 0, .ref q_29, .ref q_30, .int 0, .ref q_31, .ref q_32, .ref q_33, .ref q_34, .int 0, .ref q_35, .int 0, .ref q_36, .ref q_37, .ref q_38, .ref q_39])), (q_25, .inl (cB, 65536, .inl zf)), (q_26, .inl (cB, 65536, .inl zf)), (q_27, .inl (cZ, 65536, .inl zf)), (q_28, .inl (cI, 64, .inl zf)), (q_29, .inl (cI, 300, .inl zf)), (q_30, .inl (cI, 300, .inl zf)), (q_31, .inl (cI, 128, .inl zf)), (q_32, .inl (cI, 128, .inl zf)), (q_33, .inl (cI, 128, .inl zf)), (q_34, .inl (cB, 100, .inl zf)), (q_35, .inl (cB, 4096, .inl zf)), (q_36, .inl (cI, 64, .inl zf)), (q_37, .inl (cB, 100, .inl zf)), (q_38, .inl (cZ, 64, .inl zf)), (q_39, .inl (cI, 300, .inl zf))]) (va_runV (As := [.long y_100, .int 1]) (rest := []) ⟨hx, hb, hml, hown, hts⟩ (K18_X7_feed l D cB cI cZ _ q_1 q_23 y_100 ((.ref q_2)) ((.ref q_5)) ((.ref q_8)) ((.ref q_16)) ((.ref q_20)) ((.ref q_22)) ((.int 0))) (cwV 2 hts gL_law_X7_feed rfl rfl rfl (by decide +kernel) ⟨Nat.le_of_ble_eq_true rfl, Nat.le_of_ble_eq_true rfl⟩) (pre_V (q := (RX7, TX7, 9)) (ci := 6) (q0 := 0) (hP.sub [0, 22] rfl) hK hN (hD.sub [0, 22] (by decide) rfl) rfl rfl) rfl rfl hl.1 rfl (lv_room (Nat.le_of_ble_eq_true rfl)) dL_law_138 ⟨Nat.le_of_ble_eq_true rfl, Nat.le_of_ble_eq_true rfl⟩) hP hD hS hA [0, 22] [1, 2, 3, 4, 5, 6, 7, 8, 9, 10, 11, 12, 13, 14, 15, 16, 17, 18, 19, 20, 21, 23, 24, 25, 26, 27, 28, 29, 30, 31, 32, 33, 34, 35, 36, 37, 38] rfl rfl (by decide) (by decide) (fun r_103 u H locs hw hP hD hS => ?_)
    have k_104 := hw
    obtain rfl : r_103 = 1 := k_104
    have hP : va_P D vwCl [(q_2, .inr (1, [.ref q_3, .ref q_4, .int 0, .int 0, .int 0])), (q_3, .inl (cB, 65536, .inl zf)), (q_4, .inl (cI, 1024, .inl zf)), (q_5, .inr (2, [.ref q_6, .ref q_7, .int 0])), (q_6, .inl (cI, 300, .inl zf)), (q_7, .inl (cI, 300, .inl zf)), (q_8, .inr (3, [.ref q_5, .ref q_9, .ref q_10, .ref q_11, .ref q_12, .ref q_13, .ref q_14, .ref q_15, .int 0, .int 0, .int 0, .int 0, .int 1, .int 0])), (q_9, .inl (cB, 65536, .inl zf)), (q_10, .inl (cI, 64, .inl zf)), (q_11, .inl (cZ, 64, .inl zf)), (q_12, .inl (cI, 64, .inl zf)), (q_13, .inl (cI, 64, .inl zf)), (q_14, .inl (cI, 64, .inl zf)), (q_15, .inl (cI, 64, .inl zf)), (q_16, .inr (0, [.ref q_8, .ref q_5, .ref q_17, .ref q_18, .ref q_19, .int 0])), (q_17, .inl (cZ, 64, .inl zf)), (q_18, .inl (cI, 64, .inl zf)), (q_19, .inl (cI, 300, .inl zf)), (q_20, .inr (5, [.ref q_2, .ref q_8, .ref q_5, .ref q_21, .int 0, .int 0])), (q_21, .inl (cB, 1600, .inl zf)), (q_22, .inr (4, [.ref q_2, .ref q_8, .ref q_5, .ref q_20])), (q_24, .inr (7, [.int 0, .int 0, .ref q_25, .ref q_26, .ref q_27, .ref q_28, .int 0, .int 0, .int 0, .int 1, .int 0, .int 0, .int 0, .int 0, .int 0, .int 0, .ref q_29, .ref q_30, .int 0, .ref q_31, .ref q_32, .ref q_33, .ref q_34, .int 0, .ref q_35, .int 0, .ref q_36, .ref q_37, .ref q_38, .ref q_39])), (q_25, .inl (cB, 65536, .inl zf)), (q_26, .inl (cB, 65536, .inl zf)), (q_27, .inl (cZ, 65536, .inl zf)), (q_28, .inl (cI, 64, .inl zf)), (q_29, .inl (cI, 300, .inl zf)), (q_30, .inl (cI, 300, .inl zf)), (q_31, .inl (cI, 128, .inl zf)), (q_32, .inl (cI, 128, .inl zf)), (q_33, .inl (cI, 128, .inl zf)), (q_34, .inl (cB, 100, .inl zf)), (q_35, .inl (cB, 4096, .inl zf)), (q_36, .inl (cI, 64, .inl zf)), (q_37, .inl (cB, 100, .inl zf)), (q_38, .inl (cZ, 64, .inl zf)), (q_39, .inl (cI, 300, .inl zf))] H := hP
    have hD : va_D A [(q_2, .inr (1, [.ref q_3, .ref q_4, .int 0, .int 0, .int 0])), (q_3, .inl (cB, 65536, .inl zf)), (q_4, .inl (cI, 1024, .inl zf)), (q_5, .inr (2, [.ref q_6, .ref q_7, .int 0])), (q_6, .inl (cI, 300, .inl zf)), (q_7, .inl (cI, 300, .inl zf)), (q_8, .inr (3, [.ref q_5, .ref q_9, .ref q_10, .ref q_11, .ref q_12, .ref q_13, .ref q_14, .ref q_15, .int 0, .int 0, .int 0, .int 0, .int 1, .int 0])), (q_9, .inl (cB, 65536, .inl zf)), (q_10, .inl (cI, 64, .inl zf)), (q_11, .inl (cZ, 64, .inl zf)), (q_12, .inl (cI, 64, .inl zf)), (q_13, .inl (cI, 64, .inl zf)), (q_14, .inl (cI, 64, .inl zf)), (q_15, .inl (cI, 64, .inl zf)), (q_16, .inr (0, [.ref q_8, .ref q_5, .ref q_17, .ref q_18, .ref q_19, .int 0])), (q_17, .inl (cZ, 64, .inl zf)), (q_18, .inl (cI, 64, .inl zf)), (q_19, .inl (cI, 300, .inl zf)), (q_20, .inr (5, [.ref q_2, .ref q_8, .ref q_5, .ref q_21, .int 0, .int 0])), (q_21, .inl (cB, 1600, .inl zf)), (q_22, .inr (4, [.ref q_2, .ref q_8, .ref q_5, .ref q_20])), (q_24, .inr (7, [.int 0, .int 0, .ref q_25, .ref q_26, .ref q_27, .ref q_28, .int 0, .int 0, .int 0, .int 1, .int 0, .int 0, .int 0, .int 0, .int 0, .int 0, .ref q_29, .ref q_30, .int 0, .ref q_31, .ref q_32, .ref q_33, .ref q_34, .int 0, .ref q_35, .int 0, .ref q_36, .ref q_37, .ref q_38, .ref q_39])), (q_25, .inl (cB, 65536, .inl zf)), (q_26, .inl (cB, 65536, .inl zf)), (q_27, .inl (cZ, 65536, .inl zf)), (q_28, .inl (cI, 64, .inl zf)), (q_29, .inl (cI, 300, .inl zf)), (q_30, .inl (cI, 300, .inl zf)), (q_31, .inl (cI, 128, .inl zf)), (q_32, .inl (cI, 128, .inl zf)), (q_33, .inl (cI, 128, .inl zf)), (q_34, .inl (cB, 100, .inl zf)), (q_35, .inl (cB, 4096, .inl zf)), (q_36, .inl (cI, 64, .inl zf)), (q_37, .inl (cB, 100, .inl zf)), (q_38, .inl (cZ, 64, .inl zf)), (q_39, .inl (cI, 300, .inl zf))] := hD
    refine lv_aload_n hx hb dL_law_141 rfl (lv_at hl 1 rfl) ?_
    refine lv_aload_n hx hb dL_law_142 rfl (lv_at hl 3 rfl) ?_
    refine lv_iload_n hx hb dL_law_143 rfl (lv_at hl 0 rfl) ?_
    refine lv_iconst (v := 1) hx hb dL_law_144 (by decide) ?_
    refine lv_iadd hx hb dL_law_145 ?_
    refine lv_topi (fun z_105 ez_105 => ?_)
    obtain rfl : z_105 = 1 := ez_105.trans (by decide)
    refine va_sld hx hb hX hbl hbA hS (ti_in (a := 1) (by decide) (by decide) (by decide)) dL_law_146 ?_
    refine lv_topi (fun z_106 ez_106 => ?_)
    obtain rfl : x1 = z_106 := ((ez_106.trans (congrArg xs (show Int32.toNatClampNeg 1 = 1 by decide))).trans ex1.symm).symm
    refine lv_i2l hx hb dL_law_147 rfl ?_
    refine lv_topl (fun y_107 _ => ?_)
    refine lv_bipush (v := 32) hx hb dL_law_148 (by decide) ?_
    refine lv_lshl hx hb dL_law_150 rfl ?_
    refine lv_topl (fun y_108 _ => ?_)
    refine lv_aload_n hx hb dL_law_151 rfl (lv_at hl 3 rfl) ?_
    refine lv_iload_n hx hb dL_law_152 rfl (lv_at hl 0 rfl) ?_
    refine lv_iconst (v := 2) hx hb dL_law_153 (by decide) ?_
    refine lv_iadd hx hb dL_law_154 ?_
    refine lv_topi (fun z_109 ez_109 => ?_)
    obtain rfl : z_109 = 2 := ez_109.trans (by decide)
    refine va_sld hx hb hX hbl hbA hS (ti_in (a := 2) (by decide) (by decide) (by decide)) dL_law_155 ?_
    refine lv_topi (fun z_110 ez_110 => ?_)
    obtain rfl : x2 = z_110 := ((ez_110.trans (congrArg xs (show Int32.toNatClampNeg 2 = 2 by decide))).trans ex2.symm).symm
    refine lv_i2l hx hb dL_law_156 rfl ?_
    refine lv_topl (fun y_111 _ => ?_)
    refine lv_ldc2 (v := 4294967295) hx hb hown (hts _ wdL_law_10) dL_law_157 ?_
    refine lv_topl (fun y_112 _ => ?_)
    refine lv_land hx hb dL_law_160 ?_
    refine lv_topl (fun y_113 _ => ?_)
    refine lv_lor hx hb dL_law_161 ?_
    refine lv_topl (fun y_114 _ => ?_)
    refine lv_aload_n hx hb dL_law_162 rfl (lv_at hl 3 rfl) ?_
    refine lv_iload_n hx hb dL_law_163 rfl (lv_at hl 0 rfl) ?_
    refine lv_iconst (v := 3) hx hb dL_law_164 (by decide) ?_
    refine lv_iadd hx hb dL_law_165 ?_
    refine lv_topi (fun z_115 ez_115 => ?_)
    obtain rfl : z_115 = 3 := ez_115.trans (by decide)
    refine va_sld hx hb hX hbl hbA hS (ti_in (a := 3) (by decide) (by decide) (by decide)) dL_law_166 ?_
    refine lv_topi (fun z_116 ez_116 => ?_)
    obtain rfl : z_116 = 1 := (ez_116.trans (congrArg xs (show Int32.toNatClampNeg 3 = 3 by decide))).trans ex3.symm
    refine kc_i (wr := [(q_2, .inr (1, [.ref q_3, .ref q_4, .int 0, .int 0, .int 0])), (q_3, .inl (cB, 65536, .inl zf)), (q_4, .inl (cI, 1024, .inl zf)), (q_5, .inr (2, [.ref q_6, .ref q_7, .int 0])), (q_6, .inl (cI, 300, .inl zf)), (q_7, .inl (cI, 300, .inl zf)), (q_8, .inr (3, [.ref q_5, .ref q_9, .ref q_10, .ref q_11, .ref q_12, .ref q_13, .ref q_14, .ref q_15, .int 0, .int 0, .int 0, .int 0, .int 1, .int 0])), (q_9, .inl (cB, 65536, .inl zf)), (q_10, .inl (cI, 64, .inl zf)), (q_11, .inl (cZ, 64, .inl zf)), (q_12, .inl (cI, 64, .inl zf)), (q_13, .inl (cI, 64, .inl zf)), (q_14, .inl (cI, 64, .inl zf)), (q_15, .inl (cI, 64, .inl zf)), (q_16, .inr (0, [.ref q_8, .ref q_5, .ref q_17, .ref q_18, .ref q_19, .int 0])), (q_17, .inl (cZ, 64, .inl zf)), (q_18, .inl (cI, 64, .inl zf)), (q_19, .inl (cI, 300, .inl zf)), (q_20, .inr (5, [.ref q_2, .ref q_8, .ref q_5, .ref q_21, .int 0, .int 0])), (q_21, .inl (cB, 1600, .inl zf)), (q_22, .inr (4, [.ref q_2, .ref q_8, .ref q_5, .ref q_20])), (q_25, .inl (cB, 65536, .inl zf)), (q_26, .inl (cB, 65536, .inl zf)), (q_27, .inl (cZ, 65536, .inl zf)), (q_28, .inl (cI, 64, .inl zf)), (q_29, .inl (cI, 300, .inl zf)), (q_30, .inl (cI, 300, .inl zf)), (q_31, .inl (cI, 128, .inl zf)), (q_32, .inl (cI, 128, .inl zf)), (q_33, .inl (cI, 128, .inl zf)), (q_35, .inl (cB, 4096, .inl zf)), (q_36, .inl (cI, 64, .inl zf)), (q_37, .inl (cB, 100, .inl zf)), (q_38, .inl (cZ, 64, .inl zf)), (q_39, .inl (cI, 300, .inl zf))]) (va_runV (As := [.long y_114, .int 1]) (rest := [.int 1]) ⟨hx, hb, hml, hown, hts⟩ (K19_X8_feed l D cB cI cZ _ q_24 q_34 y_114 ((.int 0)) ((.int 0)) ((.ref q_25)) ((.ref q_26)) ((.ref q_27)) ((.ref q_28)) ((.int 0)) ((.int 0)) ((.int 0)) ((.int 1)) ((.int 0)) ((.int 0)) ((.int 0)) ((.int 0)) ((.int 0)) ((.int 0)) ((.ref q_29)) ((.ref q_30)) ((.int 0)) ((.ref q_31)) ((.ref q_32)) ((.ref q_33)) ((.ref q_35)) ((.int 0)) ((.ref q_36)) ((.ref q_37)) ((.ref q_38)) ((.ref q_39))) (cwV 2 hts gL_law_X8_feed rfl rfl rfl (by decide +kernel) ⟨Nat.le_of_ble_eq_true rfl, Nat.le_of_ble_eq_true rfl⟩) (pre_V (q := (RX8, TX8, 30)) (ci := 7) (q0 := 0) (hP.sub [21, 31] rfl) hK hN (hD.sub [21, 31] (by decide) rfl) rfl rfl) rfl rfl hl.1 rfl (lv_room (Nat.le_of_ble_eq_true rfl)) dL_law_167 ⟨Nat.le_of_ble_eq_true rfl, Nat.le_of_ble_eq_true rfl⟩) hP hD hS hA [21, 31] [0, 1, 2, 3, 4, 5, 6, 7, 8, 9, 10, 11, 12, 13, 14, 15, 16, 17, 18, 19, 20, 22, 23, 24, 25, 26, 27, 28, 29, 30, 32, 33, 34, 35, 36] rfl rfl (by decide) (by decide) (fun r_117 u H locs hw hP hD hS => ?_)
    have k_118 := hw
    obtain rfl : r_117 = 1 := k_118
    have hP : va_P D vwCl [(q_2, .inr (1, [.ref q_3, .ref q_4, .int 0, .int 0, .int 0])), (q_3, .inl (cB, 65536, .inl zf)), (q_4, .inl (cI, 1024, .inl zf)), (q_5, .inr (2, [.ref q_6, .ref q_7, .int 0])), (q_6, .inl (cI, 300, .inl zf)), (q_7, .inl (cI, 300, .inl zf)), (q_8, .inr (3, [.ref q_5, .ref q_9, .ref q_10, .ref q_11, .ref q_12, .ref q_13, .ref q_14, .ref q_15, .int 0, .int 0, .int 0, .int 0, .int 1, .int 0])), (q_9, .inl (cB, 65536, .inl zf)), (q_10, .inl (cI, 64, .inl zf)), (q_11, .inl (cZ, 64, .inl zf)), (q_12, .inl (cI, 64, .inl zf)), (q_13, .inl (cI, 64, .inl zf)), (q_14, .inl (cI, 64, .inl zf)), (q_15, .inl (cI, 64, .inl zf)), (q_16, .inr (0, [.ref q_8, .ref q_5, .ref q_17, .ref q_18, .ref q_19, .int 0])), (q_17, .inl (cZ, 64, .inl zf)), (q_18, .inl (cI, 64, .inl zf)), (q_19, .inl (cI, 300, .inl zf)), (q_20, .inr (5, [.ref q_2, .ref q_8, .ref q_5, .ref q_21, .int 0, .int 0])), (q_21, .inl (cB, 1600, .inl zf)), (q_22, .inr (4, [.ref q_2, .ref q_8, .ref q_5, .ref q_20])), (q_25, .inl (cB, 65536, .inl zf)), (q_26, .inl (cB, 65536, .inl zf)), (q_27, .inl (cZ, 65536, .inl zf)), (q_28, .inl (cI, 64, .inl zf)), (q_29, .inl (cI, 300, .inl zf)), (q_30, .inl (cI, 300, .inl zf)), (q_31, .inl (cI, 128, .inl zf)), (q_32, .inl (cI, 128, .inl zf)), (q_33, .inl (cI, 128, .inl zf)), (q_35, .inl (cB, 4096, .inl zf)), (q_36, .inl (cI, 64, .inl zf)), (q_37, .inl (cB, 100, .inl zf)), (q_38, .inl (cZ, 64, .inl zf)), (q_39, .inl (cI, 300, .inl zf))] H := hP
    have hD : va_D A [(q_2, .inr (1, [.ref q_3, .ref q_4, .int 0, .int 0, .int 0])), (q_3, .inl (cB, 65536, .inl zf)), (q_4, .inl (cI, 1024, .inl zf)), (q_5, .inr (2, [.ref q_6, .ref q_7, .int 0])), (q_6, .inl (cI, 300, .inl zf)), (q_7, .inl (cI, 300, .inl zf)), (q_8, .inr (3, [.ref q_5, .ref q_9, .ref q_10, .ref q_11, .ref q_12, .ref q_13, .ref q_14, .ref q_15, .int 0, .int 0, .int 0, .int 0, .int 1, .int 0])), (q_9, .inl (cB, 65536, .inl zf)), (q_10, .inl (cI, 64, .inl zf)), (q_11, .inl (cZ, 64, .inl zf)), (q_12, .inl (cI, 64, .inl zf)), (q_13, .inl (cI, 64, .inl zf)), (q_14, .inl (cI, 64, .inl zf)), (q_15, .inl (cI, 64, .inl zf)), (q_16, .inr (0, [.ref q_8, .ref q_5, .ref q_17, .ref q_18, .ref q_19, .int 0])), (q_17, .inl (cZ, 64, .inl zf)), (q_18, .inl (cI, 64, .inl zf)), (q_19, .inl (cI, 300, .inl zf)), (q_20, .inr (5, [.ref q_2, .ref q_8, .ref q_5, .ref q_21, .int 0, .int 0])), (q_21, .inl (cB, 1600, .inl zf)), (q_22, .inr (4, [.ref q_2, .ref q_8, .ref q_5, .ref q_20])), (q_25, .inl (cB, 65536, .inl zf)), (q_26, .inl (cB, 65536, .inl zf)), (q_27, .inl (cZ, 65536, .inl zf)), (q_28, .inl (cI, 64, .inl zf)), (q_29, .inl (cI, 300, .inl zf)), (q_30, .inl (cI, 300, .inl zf)), (q_31, .inl (cI, 128, .inl zf)), (q_32, .inl (cI, 128, .inl zf)), (q_33, .inl (cI, 128, .inl zf)), (q_35, .inl (cB, 4096, .inl zf)), (q_36, .inl (cI, 64, .inl zf)), (q_37, .inl (cB, 100, .inl zf)), (q_38, .inl (cZ, 64, .inl zf)), (q_39, .inl (cI, 300, .inl zf))] := hD
    refine lv_icmp_eq (tgt := 560) hx hb dL_law_170 (by decide) (fun c => ?_) (fun c => absurd (by decide) c)
    refine lv_iinc (v := 4) (lv' := [(3, .int 4), (2, .ref q_24), (1, .ref q_1), (0, .ref b)]) hx hb dL_law_560 hl (k := 0) rfl (by decide) (by decide) rfl (fun ls hl => ?_)
    refine lv_goto (tgt := 18) hx hb dL_law_563 (by decide) ?_
    refine lv_iload_n hx hb dL_law_18 rfl (lv_at hl 0 rfl) ?_
    refine lv_aload_n hx hb dL_law_19 rfl (lv_at hl 3 rfl) ?_
    refine va_slen hx hb hX hbl hbA hS dL_law_20 ?_
    refine lv_topi (fun z_119 ez_119 => ?_)
    obtain rfl : z_119 = 4 := ez_119.trans (by decide)
    refine lv_iconst (v := 4) hx hb dL_law_21 (by decide) ?_
    refine lv_isub hx hb dL_law_22 ?_
    refine lv_topi (fun z_120 ez_120 => ?_)
    obtain rfl : z_120 = 0 := ez_120.trans (by decide)
    refine lv_icmp_gt (tgt := 566) hx hb dL_law_23 (by decide) (fun c => ?_) (fun c => absurd (by decide) c)
    refine lv_iconst (v := 1) hx hb dL_law_566 (by decide) ?_
    refine va_forget (fun q hq => by have h9 := hS.2.2 q hq; rw [hAe] at h9; exact h9) ?_
    refine W.widen (k := 600000) (n := 7302250) (Nat.le_of_ble_eq_true rfl) (Nat.le_of_ble_eq_true rfl) ?_
    exact lw_ret hx hb hr hlocks dL_law_567
  · skip
    obtain rfl : x3 = 2 := ti_inj (a := 2) (by decide) hsp
    refine lv_aload_n hx hb dL_law_112 rfl (lv_at hl 2 rfl) ?_
    refine lv_aload_n hx hb dL_law_113 rfl (lv_at hl 3 rfl) ?_
    refine lv_iload_n hx hb dL_law_114 rfl (lv_at hl 0 rfl) ?_
    refine lv_iconst (v := 1) hx hb dL_law_115 (by decide) ?_
    refine lv_iadd hx hb dL_law_116 ?_
    refine lv_topi (fun z_121 ez_121 => ?_)
    obtain rfl : z_121 = 1 := ez_121.trans (by decide)
    refine va_sld hx hb hX hbl hbA hS (ti_in (a := 1) (by decide) (by decide) (by decide)) dL_law_117 ?_
    refine lv_topi (fun z_122 ez_122 => ?_)
    obtain rfl : x1 = z_122 := ((ez_122.trans (congrArg xs (show Int32.toNatClampNeg 1 = 1 by decide))).trans ex1.symm).symm
    refine lv_i2l hx hb dL_law_118 rfl ?_
    refine lv_topl (fun y_123 _ => ?_)
    refine lv_bipush (v := 32) hx hb dL_law_119 (by decide) ?_
    refine lv_lshl hx hb dL_law_121 rfl ?_
    refine lv_topl (fun y_124 _ => ?_)
    refine lv_aload_n hx hb dL_law_122 rfl (lv_at hl 3 rfl) ?_
    refine lv_iload_n hx hb dL_law_123 rfl (lv_at hl 0 rfl) ?_
    refine lv_iconst (v := 2) hx hb dL_law_124 (by decide) ?_
    refine lv_iadd hx hb dL_law_125 ?_
    refine lv_topi (fun z_125 ez_125 => ?_)
    obtain rfl : z_125 = 2 := ez_125.trans (by decide)
    refine va_sld hx hb hX hbl hbA hS (ti_in (a := 2) (by decide) (by decide) (by decide)) dL_law_126 ?_
    refine lv_topi (fun z_126 ez_126 => ?_)
    obtain rfl : x2 = z_126 := ((ez_126.trans (congrArg xs (show Int32.toNatClampNeg 2 = 2 by decide))).trans ex2.symm).symm
    refine lv_i2l hx hb dL_law_127 rfl ?_
    refine lv_topl (fun y_127 _ => ?_)
    refine lv_ldc2 (v := 4294967295) hx hb hown (hts _ wdL_law_10) dL_law_128 ?_
    refine lv_topl (fun y_128 _ => ?_)
    refine lv_land hx hb dL_law_131 ?_
    refine lv_topl (fun y_129 _ => ?_)
    refine lv_lor hx hb dL_law_132 ?_
    refine lv_topl (fun y_130 _ => ?_)
    refine lv_aload_n hx hb dL_law_133 rfl (lv_at hl 3 rfl) ?_
    refine lv_iload_n hx hb dL_law_134 rfl (lv_at hl 0 rfl) ?_
    refine lv_iconst (v := 3) hx hb dL_law_135 (by decide) ?_
    refine lv_iadd hx hb dL_law_136 ?_
    refine lv_topi (fun z_131 ez_131 => ?_)
    obtain rfl : z_131 = 3 := ez_131.trans (by decide)
    refine va_sld hx hb hX hbl hbA hS (ti_in (a := 3) (by decide) (by decide) (by decide)) dL_law_137 ?_
    refine lv_topi (fun z_132 ez_132 => ?_)
    obtain rfl : z_132 = 2 := (ez_132.trans (congrArg xs (show Int32.toNatClampNeg 3 = 3 by decide))).trans ex3.symm
    refine kc_i (wr := [(q_2, .inr (1, [.ref q_3, .ref q_4, .int 0, .int 0, .int 0])), (q_3, .inl (cB, 65536, .inl zf)), (q_4, .inl (cI, 1024, .inl zf)), (q_5, .inr (2, [.ref q_6, .ref q_7, .int 0])), (q_6, .inl (cI, 300, .inl zf)), (q_7, .inl (cI, 300, .inl zf)), (q_8, .inr (3, [.ref q_5, .ref q_9, .ref q_10, .ref q_11, .ref q_12, .ref q_13, .ref q_14, .ref q_15, .int 0, .int 0, .int 0, .int 0, .int 1, .int 0])), (q_9, .inl (cB, 65536, .inl zf)), (q_10, .inl (cI, 64, .inl zf)), (q_11, .inl (cZ, 64, .inl zf)), (q_12, .inl (cI, 64, .inl zf)), (q_13, .inl (cI, 64, .inl zf)), (q_14, .inl (cI, 64, .inl zf)), (q_15, .inl (cI, 64, .inl zf)), (q_16, .inr (0, [.ref q_8, .ref q_5, .ref q_17, .ref q_18, .ref q_19, .int 0])), (q_17, .inl (cZ, 64, .inl zf)), (q_18, .inl (cI, 64, .inl zf)), (q_19, .inl (cI, 300, .inl zf)), (q_20, .inr (5, [.ref q_2, .ref q_8, .ref q_5, .ref q_21, .int 0, .int 0])), (q_21, .inl (cB, 1600, .inl zf)), (q_22, .inr (4, [.ref q_2, .ref q_8, .ref q_5, .ref q_20])), (q_24, .inr (7, [.int 0, .int 0, .ref q_25, .ref q_26, .ref q_27, .ref q_28, .int 0, .int 0, .int 0, .int 1, .int 0, .int 0, .int 0, .int 0, .int 0, .int 0, .ref q_29, .ref q_30, .int 0, .ref q_31, .ref q_32, .ref q_33, .ref q_34, .int 0, .ref q_35, .int 0, .ref q_36, .ref q_37, .ref q_38, .ref q_39])), (q_25, .inl (cB, 65536, .inl zf)), (q_26, .inl (cB, 65536, .inl zf)), (q_27, .inl (cZ, 65536, .inl zf)), (q_28, .inl (cI, 64, .inl zf)), (q_29, .inl (cI, 300, .inl zf)), (q_30, .inl (cI, 300, .inl zf)), (q_31, .inl (cI, 128, .inl zf)), (q_32, .inl (cI, 128, .inl zf)), (q_33, .inl (cI, 128, .inl zf)), (q_34, .inl (cB, 100, .inl zf)), (q_35, .inl (cB, 4096, .inl zf)), (q_36, .inl (cI, 64, .inl zf)), (q_37, .inl (cB, 100, .inl zf)), (q_38, .inl (cZ, 64, .inl zf)), (q_39, .inl (cI, 300, .inl zf))]) (va_runV (As := [.long y_130, .int 2]) (rest := []) ⟨hx, hb, hml, hown, hts⟩ (K21_X7_feed l D cB cI cZ _ q_1 q_23 y_130 ((.ref q_2)) ((.ref q_5)) ((.ref q_8)) ((.ref q_16)) ((.ref q_20)) ((.ref q_22)) ((.int 0))) (cwV 2 hts gL_law_X7_feed rfl rfl rfl (by decide +kernel) ⟨Nat.le_of_ble_eq_true rfl, Nat.le_of_ble_eq_true rfl⟩) (pre_V (q := (RX7, TX7, 9)) (ci := 6) (q0 := 0) (hP.sub [0, 22] rfl) hK hN (hD.sub [0, 22] (by decide) rfl) rfl rfl) rfl rfl hl.1 rfl (lv_room (Nat.le_of_ble_eq_true rfl)) dL_law_138 ⟨Nat.le_of_ble_eq_true rfl, Nat.le_of_ble_eq_true rfl⟩) hP hD hS hA [0, 22] [1, 2, 3, 4, 5, 6, 7, 8, 9, 10, 11, 12, 13, 14, 15, 16, 17, 18, 19, 20, 21, 23, 24, 25, 26, 27, 28, 29, 30, 31, 32, 33, 34, 35, 36, 37, 38] rfl rfl (by decide) (by decide) (fun r_133 u H locs hw hP hD hS => ?_)
    have k_134 := hw
    obtain rfl : r_133 = 2 := k_134
    have hP : va_P D vwCl [(q_2, .inr (1, [.ref q_3, .ref q_4, .int 0, .int 0, .int 0])), (q_3, .inl (cB, 65536, .inl zf)), (q_4, .inl (cI, 1024, .inl zf)), (q_5, .inr (2, [.ref q_6, .ref q_7, .int 0])), (q_6, .inl (cI, 300, .inl zf)), (q_7, .inl (cI, 300, .inl zf)), (q_8, .inr (3, [.ref q_5, .ref q_9, .ref q_10, .ref q_11, .ref q_12, .ref q_13, .ref q_14, .ref q_15, .int 0, .int 0, .int 0, .int 0, .int 1, .int 0])), (q_9, .inl (cB, 65536, .inl zf)), (q_10, .inl (cI, 64, .inl zf)), (q_11, .inl (cZ, 64, .inl zf)), (q_12, .inl (cI, 64, .inl zf)), (q_13, .inl (cI, 64, .inl zf)), (q_14, .inl (cI, 64, .inl zf)), (q_15, .inl (cI, 64, .inl zf)), (q_16, .inr (0, [.ref q_8, .ref q_5, .ref q_17, .ref q_18, .ref q_19, .int 0])), (q_17, .inl (cZ, 64, .inl zf)), (q_18, .inl (cI, 64, .inl zf)), (q_19, .inl (cI, 300, .inl zf)), (q_20, .inr (5, [.ref q_2, .ref q_8, .ref q_5, .ref q_21, .int 0, .int 0])), (q_21, .inl (cB, 1600, .inl zf)), (q_22, .inr (4, [.ref q_2, .ref q_8, .ref q_5, .ref q_20])), (q_24, .inr (7, [.int 0, .int 0, .ref q_25, .ref q_26, .ref q_27, .ref q_28, .int 0, .int 0, .int 0, .int 1, .int 0, .int 0, .int 0, .int 0, .int 0, .int 0, .ref q_29, .ref q_30, .int 0, .ref q_31, .ref q_32, .ref q_33, .ref q_34, .int 0, .ref q_35, .int 0, .ref q_36, .ref q_37, .ref q_38, .ref q_39])), (q_25, .inl (cB, 65536, .inl zf)), (q_26, .inl (cB, 65536, .inl zf)), (q_27, .inl (cZ, 65536, .inl zf)), (q_28, .inl (cI, 64, .inl zf)), (q_29, .inl (cI, 300, .inl zf)), (q_30, .inl (cI, 300, .inl zf)), (q_31, .inl (cI, 128, .inl zf)), (q_32, .inl (cI, 128, .inl zf)), (q_33, .inl (cI, 128, .inl zf)), (q_34, .inl (cB, 100, .inl zf)), (q_35, .inl (cB, 4096, .inl zf)), (q_36, .inl (cI, 64, .inl zf)), (q_37, .inl (cB, 100, .inl zf)), (q_38, .inl (cZ, 64, .inl zf)), (q_39, .inl (cI, 300, .inl zf))] H := hP
    have hD : va_D A [(q_2, .inr (1, [.ref q_3, .ref q_4, .int 0, .int 0, .int 0])), (q_3, .inl (cB, 65536, .inl zf)), (q_4, .inl (cI, 1024, .inl zf)), (q_5, .inr (2, [.ref q_6, .ref q_7, .int 0])), (q_6, .inl (cI, 300, .inl zf)), (q_7, .inl (cI, 300, .inl zf)), (q_8, .inr (3, [.ref q_5, .ref q_9, .ref q_10, .ref q_11, .ref q_12, .ref q_13, .ref q_14, .ref q_15, .int 0, .int 0, .int 0, .int 0, .int 1, .int 0])), (q_9, .inl (cB, 65536, .inl zf)), (q_10, .inl (cI, 64, .inl zf)), (q_11, .inl (cZ, 64, .inl zf)), (q_12, .inl (cI, 64, .inl zf)), (q_13, .inl (cI, 64, .inl zf)), (q_14, .inl (cI, 64, .inl zf)), (q_15, .inl (cI, 64, .inl zf)), (q_16, .inr (0, [.ref q_8, .ref q_5, .ref q_17, .ref q_18, .ref q_19, .int 0])), (q_17, .inl (cZ, 64, .inl zf)), (q_18, .inl (cI, 64, .inl zf)), (q_19, .inl (cI, 300, .inl zf)), (q_20, .inr (5, [.ref q_2, .ref q_8, .ref q_5, .ref q_21, .int 0, .int 0])), (q_21, .inl (cB, 1600, .inl zf)), (q_22, .inr (4, [.ref q_2, .ref q_8, .ref q_5, .ref q_20])), (q_24, .inr (7, [.int 0, .int 0, .ref q_25, .ref q_26, .ref q_27, .ref q_28, .int 0, .int 0, .int 0, .int 1, .int 0, .int 0, .int 0, .int 0, .int 0, .int 0, .ref q_29, .ref q_30, .int 0, .ref q_31, .ref q_32, .ref q_33, .ref q_34, .int 0, .ref q_35, .int 0, .ref q_36, .ref q_37, .ref q_38, .ref q_39])), (q_25, .inl (cB, 65536, .inl zf)), (q_26, .inl (cB, 65536, .inl zf)), (q_27, .inl (cZ, 65536, .inl zf)), (q_28, .inl (cI, 64, .inl zf)), (q_29, .inl (cI, 300, .inl zf)), (q_30, .inl (cI, 300, .inl zf)), (q_31, .inl (cI, 128, .inl zf)), (q_32, .inl (cI, 128, .inl zf)), (q_33, .inl (cI, 128, .inl zf)), (q_34, .inl (cB, 100, .inl zf)), (q_35, .inl (cB, 4096, .inl zf)), (q_36, .inl (cI, 64, .inl zf)), (q_37, .inl (cB, 100, .inl zf)), (q_38, .inl (cZ, 64, .inl zf)), (q_39, .inl (cI, 300, .inl zf))] := hD
    refine lv_aload_n hx hb dL_law_141 rfl (lv_at hl 1 rfl) ?_
    refine lv_aload_n hx hb dL_law_142 rfl (lv_at hl 3 rfl) ?_
    refine lv_iload_n hx hb dL_law_143 rfl (lv_at hl 0 rfl) ?_
    refine lv_iconst (v := 1) hx hb dL_law_144 (by decide) ?_
    refine lv_iadd hx hb dL_law_145 ?_
    refine lv_topi (fun z_135 ez_135 => ?_)
    obtain rfl : z_135 = 1 := ez_135.trans (by decide)
    refine va_sld hx hb hX hbl hbA hS (ti_in (a := 1) (by decide) (by decide) (by decide)) dL_law_146 ?_
    refine lv_topi (fun z_136 ez_136 => ?_)
    obtain rfl : x1 = z_136 := ((ez_136.trans (congrArg xs (show Int32.toNatClampNeg 1 = 1 by decide))).trans ex1.symm).symm
    refine lv_i2l hx hb dL_law_147 rfl ?_
    refine lv_topl (fun y_137 _ => ?_)
    refine lv_bipush (v := 32) hx hb dL_law_148 (by decide) ?_
    refine lv_lshl hx hb dL_law_150 rfl ?_
    refine lv_topl (fun y_138 _ => ?_)
    refine lv_aload_n hx hb dL_law_151 rfl (lv_at hl 3 rfl) ?_
    refine lv_iload_n hx hb dL_law_152 rfl (lv_at hl 0 rfl) ?_
    refine lv_iconst (v := 2) hx hb dL_law_153 (by decide) ?_
    refine lv_iadd hx hb dL_law_154 ?_
    refine lv_topi (fun z_139 ez_139 => ?_)
    obtain rfl : z_139 = 2 := ez_139.trans (by decide)
    refine va_sld hx hb hX hbl hbA hS (ti_in (a := 2) (by decide) (by decide) (by decide)) dL_law_155 ?_
    refine lv_topi (fun z_140 ez_140 => ?_)
    obtain rfl : x2 = z_140 := ((ez_140.trans (congrArg xs (show Int32.toNatClampNeg 2 = 2 by decide))).trans ex2.symm).symm
    refine lv_i2l hx hb dL_law_156 rfl ?_
    refine lv_topl (fun y_141 _ => ?_)
    refine lv_ldc2 (v := 4294967295) hx hb hown (hts _ wdL_law_10) dL_law_157 ?_
    refine lv_topl (fun y_142 _ => ?_)
    refine lv_land hx hb dL_law_160 ?_
    refine lv_topl (fun y_143 _ => ?_)
    refine lv_lor hx hb dL_law_161 ?_
    refine lv_topl (fun y_144 _ => ?_)
    refine lv_aload_n hx hb dL_law_162 rfl (lv_at hl 3 rfl) ?_
    refine lv_iload_n hx hb dL_law_163 rfl (lv_at hl 0 rfl) ?_
    refine lv_iconst (v := 3) hx hb dL_law_164 (by decide) ?_
    refine lv_iadd hx hb dL_law_165 ?_
    refine lv_topi (fun z_145 ez_145 => ?_)
    obtain rfl : z_145 = 3 := ez_145.trans (by decide)
    refine va_sld hx hb hX hbl hbA hS (ti_in (a := 3) (by decide) (by decide) (by decide)) dL_law_166 ?_
    refine lv_topi (fun z_146 ez_146 => ?_)
    obtain rfl : z_146 = 2 := (ez_146.trans (congrArg xs (show Int32.toNatClampNeg 3 = 3 by decide))).trans ex3.symm
    refine kc_i (wr := [(q_2, .inr (1, [.ref q_3, .ref q_4, .int 0, .int 0, .int 0])), (q_3, .inl (cB, 65536, .inl zf)), (q_4, .inl (cI, 1024, .inl zf)), (q_5, .inr (2, [.ref q_6, .ref q_7, .int 0])), (q_6, .inl (cI, 300, .inl zf)), (q_7, .inl (cI, 300, .inl zf)), (q_8, .inr (3, [.ref q_5, .ref q_9, .ref q_10, .ref q_11, .ref q_12, .ref q_13, .ref q_14, .ref q_15, .int 0, .int 0, .int 0, .int 0, .int 1, .int 0])), (q_9, .inl (cB, 65536, .inl zf)), (q_10, .inl (cI, 64, .inl zf)), (q_11, .inl (cZ, 64, .inl zf)), (q_12, .inl (cI, 64, .inl zf)), (q_13, .inl (cI, 64, .inl zf)), (q_14, .inl (cI, 64, .inl zf)), (q_15, .inl (cI, 64, .inl zf)), (q_16, .inr (0, [.ref q_8, .ref q_5, .ref q_17, .ref q_18, .ref q_19, .int 0])), (q_17, .inl (cZ, 64, .inl zf)), (q_18, .inl (cI, 64, .inl zf)), (q_19, .inl (cI, 300, .inl zf)), (q_20, .inr (5, [.ref q_2, .ref q_8, .ref q_5, .ref q_21, .int 0, .int 0])), (q_21, .inl (cB, 1600, .inl zf)), (q_22, .inr (4, [.ref q_2, .ref q_8, .ref q_5, .ref q_20])), (q_25, .inl (cB, 65536, .inl zf)), (q_26, .inl (cB, 65536, .inl zf)), (q_27, .inl (cZ, 65536, .inl zf)), (q_28, .inl (cI, 64, .inl zf)), (q_29, .inl (cI, 300, .inl zf)), (q_30, .inl (cI, 300, .inl zf)), (q_31, .inl (cI, 128, .inl zf)), (q_32, .inl (cI, 128, .inl zf)), (q_33, .inl (cI, 128, .inl zf)), (q_35, .inl (cB, 4096, .inl zf)), (q_36, .inl (cI, 64, .inl zf)), (q_37, .inl (cB, 100, .inl zf)), (q_38, .inl (cZ, 64, .inl zf)), (q_39, .inl (cI, 300, .inl zf))]) (va_runV (As := [.long y_144, .int 2]) (rest := [.int 2]) ⟨hx, hb, hml, hown, hts⟩ (K22_X8_feed l D cB cI cZ _ q_24 q_34 y_144 ((.int 0)) ((.int 0)) ((.ref q_25)) ((.ref q_26)) ((.ref q_27)) ((.ref q_28)) ((.int 0)) ((.int 0)) ((.int 0)) ((.int 1)) ((.int 0)) ((.int 0)) ((.int 0)) ((.int 0)) ((.int 0)) ((.int 0)) ((.ref q_29)) ((.ref q_30)) ((.int 0)) ((.ref q_31)) ((.ref q_32)) ((.ref q_33)) ((.ref q_35)) ((.int 0)) ((.ref q_36)) ((.ref q_37)) ((.ref q_38)) ((.ref q_39))) (cwV 2 hts gL_law_X8_feed rfl rfl rfl (by decide +kernel) ⟨Nat.le_of_ble_eq_true rfl, Nat.le_of_ble_eq_true rfl⟩) (pre_V (q := (RX8, TX8, 30)) (ci := 7) (q0 := 0) (hP.sub [21, 31] rfl) hK hN (hD.sub [21, 31] (by decide) rfl) rfl rfl) rfl rfl hl.1 rfl (lv_room (Nat.le_of_ble_eq_true rfl)) dL_law_167 ⟨Nat.le_of_ble_eq_true rfl, Nat.le_of_ble_eq_true rfl⟩) hP hD hS hA [21, 31] [0, 1, 2, 3, 4, 5, 6, 7, 8, 9, 10, 11, 12, 13, 14, 15, 16, 17, 18, 19, 20, 22, 23, 24, 25, 26, 27, 28, 29, 30, 32, 33, 34, 35, 36] rfl rfl (by decide) (by decide) (fun r_147 u H locs hw hP hD hS => ?_)
    have k_148 := hw
    obtain rfl : r_147 = 2 := k_148
    have hP : va_P D vwCl [(q_2, .inr (1, [.ref q_3, .ref q_4, .int 0, .int 0, .int 0])), (q_3, .inl (cB, 65536, .inl zf)), (q_4, .inl (cI, 1024, .inl zf)), (q_5, .inr (2, [.ref q_6, .ref q_7, .int 0])), (q_6, .inl (cI, 300, .inl zf)), (q_7, .inl (cI, 300, .inl zf)), (q_8, .inr (3, [.ref q_5, .ref q_9, .ref q_10, .ref q_11, .ref q_12, .ref q_13, .ref q_14, .ref q_15, .int 0, .int 0, .int 0, .int 0, .int 1, .int 0])), (q_9, .inl (cB, 65536, .inl zf)), (q_10, .inl (cI, 64, .inl zf)), (q_11, .inl (cZ, 64, .inl zf)), (q_12, .inl (cI, 64, .inl zf)), (q_13, .inl (cI, 64, .inl zf)), (q_14, .inl (cI, 64, .inl zf)), (q_15, .inl (cI, 64, .inl zf)), (q_16, .inr (0, [.ref q_8, .ref q_5, .ref q_17, .ref q_18, .ref q_19, .int 0])), (q_17, .inl (cZ, 64, .inl zf)), (q_18, .inl (cI, 64, .inl zf)), (q_19, .inl (cI, 300, .inl zf)), (q_20, .inr (5, [.ref q_2, .ref q_8, .ref q_5, .ref q_21, .int 0, .int 0])), (q_21, .inl (cB, 1600, .inl zf)), (q_22, .inr (4, [.ref q_2, .ref q_8, .ref q_5, .ref q_20])), (q_25, .inl (cB, 65536, .inl zf)), (q_26, .inl (cB, 65536, .inl zf)), (q_27, .inl (cZ, 65536, .inl zf)), (q_28, .inl (cI, 64, .inl zf)), (q_29, .inl (cI, 300, .inl zf)), (q_30, .inl (cI, 300, .inl zf)), (q_31, .inl (cI, 128, .inl zf)), (q_32, .inl (cI, 128, .inl zf)), (q_33, .inl (cI, 128, .inl zf)), (q_35, .inl (cB, 4096, .inl zf)), (q_36, .inl (cI, 64, .inl zf)), (q_37, .inl (cB, 100, .inl zf)), (q_38, .inl (cZ, 64, .inl zf)), (q_39, .inl (cI, 300, .inl zf))] H := hP
    have hD : va_D A [(q_2, .inr (1, [.ref q_3, .ref q_4, .int 0, .int 0, .int 0])), (q_3, .inl (cB, 65536, .inl zf)), (q_4, .inl (cI, 1024, .inl zf)), (q_5, .inr (2, [.ref q_6, .ref q_7, .int 0])), (q_6, .inl (cI, 300, .inl zf)), (q_7, .inl (cI, 300, .inl zf)), (q_8, .inr (3, [.ref q_5, .ref q_9, .ref q_10, .ref q_11, .ref q_12, .ref q_13, .ref q_14, .ref q_15, .int 0, .int 0, .int 0, .int 0, .int 1, .int 0])), (q_9, .inl (cB, 65536, .inl zf)), (q_10, .inl (cI, 64, .inl zf)), (q_11, .inl (cZ, 64, .inl zf)), (q_12, .inl (cI, 64, .inl zf)), (q_13, .inl (cI, 64, .inl zf)), (q_14, .inl (cI, 64, .inl zf)), (q_15, .inl (cI, 64, .inl zf)), (q_16, .inr (0, [.ref q_8, .ref q_5, .ref q_17, .ref q_18, .ref q_19, .int 0])), (q_17, .inl (cZ, 64, .inl zf)), (q_18, .inl (cI, 64, .inl zf)), (q_19, .inl (cI, 300, .inl zf)), (q_20, .inr (5, [.ref q_2, .ref q_8, .ref q_5, .ref q_21, .int 0, .int 0])), (q_21, .inl (cB, 1600, .inl zf)), (q_22, .inr (4, [.ref q_2, .ref q_8, .ref q_5, .ref q_20])), (q_25, .inl (cB, 65536, .inl zf)), (q_26, .inl (cB, 65536, .inl zf)), (q_27, .inl (cZ, 65536, .inl zf)), (q_28, .inl (cI, 64, .inl zf)), (q_29, .inl (cI, 300, .inl zf)), (q_30, .inl (cI, 300, .inl zf)), (q_31, .inl (cI, 128, .inl zf)), (q_32, .inl (cI, 128, .inl zf)), (q_33, .inl (cI, 128, .inl zf)), (q_35, .inl (cB, 4096, .inl zf)), (q_36, .inl (cI, 64, .inl zf)), (q_37, .inl (cB, 100, .inl zf)), (q_38, .inl (cZ, 64, .inl zf)), (q_39, .inl (cI, 300, .inl zf))] := hD
    refine lv_icmp_eq (tgt := 560) hx hb dL_law_170 (by decide) (fun c => ?_) (fun c => absurd (by decide) c)
    refine lv_iinc (v := 4) (lv' := [(3, .int 4), (2, .ref q_24), (1, .ref q_1), (0, .ref b)]) hx hb dL_law_560 hl (k := 0) rfl (by decide) (by decide) rfl (fun ls hl => ?_)
    refine lv_goto (tgt := 18) hx hb dL_law_563 (by decide) ?_
    refine lv_iload_n hx hb dL_law_18 rfl (lv_at hl 0 rfl) ?_
    refine lv_aload_n hx hb dL_law_19 rfl (lv_at hl 3 rfl) ?_
    refine va_slen hx hb hX hbl hbA hS dL_law_20 ?_
    refine lv_topi (fun z_149 ez_149 => ?_)
    obtain rfl : z_149 = 4 := ez_149.trans (by decide)
    refine lv_iconst (v := 4) hx hb dL_law_21 (by decide) ?_
    refine lv_isub hx hb dL_law_22 ?_
    refine lv_topi (fun z_150 ez_150 => ?_)
    obtain rfl : z_150 = 0 := ez_150.trans (by decide)
    refine lv_icmp_gt (tgt := 566) hx hb dL_law_23 (by decide) (fun c => ?_) (fun c => absurd (by decide) c)
    refine lv_iconst (v := 1) hx hb dL_law_566 (by decide) ?_
    refine va_forget (fun q hq => by have h9 := hS.2.2 q hq; rw [hAe] at h9; exact h9) ?_
    refine W.widen (k := 600000) (n := 7302250) (Nat.le_of_ble_eq_true rfl) (Nat.le_of_ble_eq_true rfl) ?_
    exact lw_ret hx hb hr hlocks dL_law_567
  · skip
    obtain rfl : x3 = 3 := ti_inj (a := 3) (by decide) hsp
    refine lv_aload_n hx hb dL_law_112 rfl (lv_at hl 2 rfl) ?_
    refine lv_aload_n hx hb dL_law_113 rfl (lv_at hl 3 rfl) ?_
    refine lv_iload_n hx hb dL_law_114 rfl (lv_at hl 0 rfl) ?_
    refine lv_iconst (v := 1) hx hb dL_law_115 (by decide) ?_
    refine lv_iadd hx hb dL_law_116 ?_
    refine lv_topi (fun z_151 ez_151 => ?_)
    obtain rfl : z_151 = 1 := ez_151.trans (by decide)
    refine va_sld hx hb hX hbl hbA hS (ti_in (a := 1) (by decide) (by decide) (by decide)) dL_law_117 ?_
    refine lv_topi (fun z_152 ez_152 => ?_)
    obtain rfl : x1 = z_152 := ((ez_152.trans (congrArg xs (show Int32.toNatClampNeg 1 = 1 by decide))).trans ex1.symm).symm
    refine lv_i2l hx hb dL_law_118 rfl ?_
    refine lv_topl (fun y_153 _ => ?_)
    refine lv_bipush (v := 32) hx hb dL_law_119 (by decide) ?_
    refine lv_lshl hx hb dL_law_121 rfl ?_
    refine lv_topl (fun y_154 _ => ?_)
    refine lv_aload_n hx hb dL_law_122 rfl (lv_at hl 3 rfl) ?_
    refine lv_iload_n hx hb dL_law_123 rfl (lv_at hl 0 rfl) ?_
    refine lv_iconst (v := 2) hx hb dL_law_124 (by decide) ?_
    refine lv_iadd hx hb dL_law_125 ?_
    refine lv_topi (fun z_155 ez_155 => ?_)
    obtain rfl : z_155 = 2 := ez_155.trans (by decide)
    refine va_sld hx hb hX hbl hbA hS (ti_in (a := 2) (by decide) (by decide) (by decide)) dL_law_126 ?_
    refine lv_topi (fun z_156 ez_156 => ?_)
    obtain rfl : x2 = z_156 := ((ez_156.trans (congrArg xs (show Int32.toNatClampNeg 2 = 2 by decide))).trans ex2.symm).symm
    refine lv_i2l hx hb dL_law_127 rfl ?_
    refine lv_topl (fun y_157 _ => ?_)
    refine lv_ldc2 (v := 4294967295) hx hb hown (hts _ wdL_law_10) dL_law_128 ?_
    refine lv_topl (fun y_158 _ => ?_)
    refine lv_land hx hb dL_law_131 ?_
    refine lv_topl (fun y_159 _ => ?_)
    refine lv_lor hx hb dL_law_132 ?_
    refine lv_topl (fun y_160 _ => ?_)
    refine lv_aload_n hx hb dL_law_133 rfl (lv_at hl 3 rfl) ?_
    refine lv_iload_n hx hb dL_law_134 rfl (lv_at hl 0 rfl) ?_
    refine lv_iconst (v := 3) hx hb dL_law_135 (by decide) ?_
    refine lv_iadd hx hb dL_law_136 ?_
    refine lv_topi (fun z_161 ez_161 => ?_)
    obtain rfl : z_161 = 3 := ez_161.trans (by decide)
    refine va_sld hx hb hX hbl hbA hS (ti_in (a := 3) (by decide) (by decide) (by decide)) dL_law_137 ?_
    refine lv_topi (fun z_162 ez_162 => ?_)
    obtain rfl : z_162 = 3 := (ez_162.trans (congrArg xs (show Int32.toNatClampNeg 3 = 3 by decide))).trans ex3.symm
    refine kc_i (wr := [(q_2, .inr (1, [.ref q_3, .ref q_4, .int 0, .int 0, .int 0])), (q_3, .inl (cB, 65536, .inl zf)), (q_4, .inl (cI, 1024, .inl zf)), (q_5, .inr (2, [.ref q_6, .ref q_7, .int 0])), (q_6, .inl (cI, 300, .inl zf)), (q_7, .inl (cI, 300, .inl zf)), (q_8, .inr (3, [.ref q_5, .ref q_9, .ref q_10, .ref q_11, .ref q_12, .ref q_13, .ref q_14, .ref q_15, .int 0, .int 0, .int 0, .int 0, .int 1, .int 0])), (q_9, .inl (cB, 65536, .inl zf)), (q_10, .inl (cI, 64, .inl zf)), (q_11, .inl (cZ, 64, .inl zf)), (q_12, .inl (cI, 64, .inl zf)), (q_13, .inl (cI, 64, .inl zf)), (q_14, .inl (cI, 64, .inl zf)), (q_15, .inl (cI, 64, .inl zf)), (q_16, .inr (0, [.ref q_8, .ref q_5, .ref q_17, .ref q_18, .ref q_19, .int 0])), (q_17, .inl (cZ, 64, .inl zf)), (q_18, .inl (cI, 64, .inl zf)), (q_19, .inl (cI, 300, .inl zf)), (q_20, .inr (5, [.ref q_2, .ref q_8, .ref q_5, .ref q_21, .int 0, .int 0])), (q_21, .inl (cB, 1600, .inl zf)), (q_22, .inr (4, [.ref q_2, .ref q_8, .ref q_5, .ref q_20])), (q_24, .inr (7, [.int 0, .int 0, .ref q_25, .ref q_26, .ref q_27, .ref q_28, .int 0, .int 0, .int 0, .int 1, .int 0, .int 0, .int 0, .int 0, .int 0, .int 0, .ref q_29, .ref q_30, .int 0, .ref q_31, .ref q_32, .ref q_33, .ref q_34, .int 0, .ref q_35, .int 0, .ref q_36, .ref q_37, .ref q_38, .ref q_39])), (q_25, .inl (cB, 65536, .inl zf)), (q_26, .inl (cB, 65536, .inl zf)), (q_27, .inl (cZ, 65536, .inl zf)), (q_28, .inl (cI, 64, .inl zf)), (q_29, .inl (cI, 300, .inl zf)), (q_30, .inl (cI, 300, .inl zf)), (q_31, .inl (cI, 128, .inl zf)), (q_32, .inl (cI, 128, .inl zf)), (q_33, .inl (cI, 128, .inl zf)), (q_34, .inl (cB, 100, .inl zf)), (q_35, .inl (cB, 4096, .inl zf)), (q_36, .inl (cI, 64, .inl zf)), (q_37, .inl (cB, 100, .inl zf)), (q_38, .inl (cZ, 64, .inl zf)), (q_39, .inl (cI, 300, .inl zf))]) (va_runV (As := [.long y_160, .int 3]) (rest := []) ⟨hx, hb, hml, hown, hts⟩ (K24_X7_feed l D cB cI cZ _ q_1 q_23 y_160 ((.ref q_2)) ((.ref q_5)) ((.ref q_8)) ((.ref q_16)) ((.ref q_20)) ((.ref q_22)) ((.int 0))) (cwV 2 hts gL_law_X7_feed rfl rfl rfl (by decide +kernel) ⟨Nat.le_of_ble_eq_true rfl, Nat.le_of_ble_eq_true rfl⟩) (pre_V (q := (RX7, TX7, 9)) (ci := 6) (q0 := 0) (hP.sub [0, 22] rfl) hK hN (hD.sub [0, 22] (by decide) rfl) rfl rfl) rfl rfl hl.1 rfl (lv_room (Nat.le_of_ble_eq_true rfl)) dL_law_138 ⟨Nat.le_of_ble_eq_true rfl, Nat.le_of_ble_eq_true rfl⟩) hP hD hS hA [0, 22] [1, 2, 3, 4, 5, 6, 7, 8, 9, 10, 11, 12, 13, 14, 15, 16, 17, 18, 19, 20, 21, 23, 24, 25, 26, 27, 28, 29, 30, 31, 32, 33, 34, 35, 36, 37, 38] rfl rfl (by decide) (by decide) (fun r_163 u H locs hw hP hD hS => ?_)
    have k_164 := hw
    obtain rfl : r_163 = 3 := k_164
    have hP : va_P D vwCl [(q_2, .inr (1, [.ref q_3, .ref q_4, .int 0, .int 0, .int 0])), (q_3, .inl (cB, 65536, .inl zf)), (q_4, .inl (cI, 1024, .inl zf)), (q_5, .inr (2, [.ref q_6, .ref q_7, .int 0])), (q_6, .inl (cI, 300, .inl zf)), (q_7, .inl (cI, 300, .inl zf)), (q_8, .inr (3, [.ref q_5, .ref q_9, .ref q_10, .ref q_11, .ref q_12, .ref q_13, .ref q_14, .ref q_15, .int 0, .int 0, .int 0, .int 0, .int 1, .int 0])), (q_9, .inl (cB, 65536, .inl zf)), (q_10, .inl (cI, 64, .inl zf)), (q_11, .inl (cZ, 64, .inl zf)), (q_12, .inl (cI, 64, .inl zf)), (q_13, .inl (cI, 64, .inl zf)), (q_14, .inl (cI, 64, .inl zf)), (q_15, .inl (cI, 64, .inl zf)), (q_16, .inr (0, [.ref q_8, .ref q_5, .ref q_17, .ref q_18, .ref q_19, .int 0])), (q_17, .inl (cZ, 64, .inl zf)), (q_18, .inl (cI, 64, .inl zf)), (q_19, .inl (cI, 300, .inl zf)), (q_20, .inr (5, [.ref q_2, .ref q_8, .ref q_5, .ref q_21, .int 0, .int 0])), (q_21, .inl (cB, 1600, .inl zf)), (q_22, .inr (4, [.ref q_2, .ref q_8, .ref q_5, .ref q_20])), (q_24, .inr (7, [.int 0, .int 0, .ref q_25, .ref q_26, .ref q_27, .ref q_28, .int 0, .int 0, .int 0, .int 1, .int 0, .int 0, .int 0, .int 0, .int 0, .int 0, .ref q_29, .ref q_30, .int 0, .ref q_31, .ref q_32, .ref q_33, .ref q_34, .int 0, .ref q_35, .int 0, .ref q_36, .ref q_37, .ref q_38, .ref q_39])), (q_25, .inl (cB, 65536, .inl zf)), (q_26, .inl (cB, 65536, .inl zf)), (q_27, .inl (cZ, 65536, .inl zf)), (q_28, .inl (cI, 64, .inl zf)), (q_29, .inl (cI, 300, .inl zf)), (q_30, .inl (cI, 300, .inl zf)), (q_31, .inl (cI, 128, .inl zf)), (q_32, .inl (cI, 128, .inl zf)), (q_33, .inl (cI, 128, .inl zf)), (q_34, .inl (cB, 100, .inl zf)), (q_35, .inl (cB, 4096, .inl zf)), (q_36, .inl (cI, 64, .inl zf)), (q_37, .inl (cB, 100, .inl zf)), (q_38, .inl (cZ, 64, .inl zf)), (q_39, .inl (cI, 300, .inl zf))] H := hP
    have hD : va_D A [(q_2, .inr (1, [.ref q_3, .ref q_4, .int 0, .int 0, .int 0])), (q_3, .inl (cB, 65536, .inl zf)), (q_4, .inl (cI, 1024, .inl zf)), (q_5, .inr (2, [.ref q_6, .ref q_7, .int 0])), (q_6, .inl (cI, 300, .inl zf)), (q_7, .inl (cI, 300, .inl zf)), (q_8, .inr (3, [.ref q_5, .ref q_9, .ref q_10, .ref q_11, .ref q_12, .ref q_13, .ref q_14, .ref q_15, .int 0, .int 0, .int 0, .int 0, .int 1, .int 0])), (q_9, .inl (cB, 65536, .inl zf)), (q_10, .inl (cI, 64, .inl zf)), (q_11, .inl (cZ, 64, .inl zf)), (q_12, .inl (cI, 64, .inl zf)), (q_13, .inl (cI, 64, .inl zf)), (q_14, .inl (cI, 64, .inl zf)), (q_15, .inl (cI, 64, .inl zf)), (q_16, .inr (0, [.ref q_8, .ref q_5, .ref q_17, .ref q_18, .ref q_19, .int 0])), (q_17, .inl (cZ, 64, .inl zf)), (q_18, .inl (cI, 64, .inl zf)), (q_19, .inl (cI, 300, .inl zf)), (q_20, .inr (5, [.ref q_2, .ref q_8, .ref q_5, .ref q_21, .int 0, .int 0])), (q_21, .inl (cB, 1600, .inl zf)), (q_22, .inr (4, [.ref q_2, .ref q_8, .ref q_5, .ref q_20])), (q_24, .inr (7, [.int 0, .int 0, .ref q_25, .ref q_26, .ref q_27, .ref q_28, .int 0, .int 0, .int 0, .int 1, .int 0, .int 0, .int 0, .int 0, .int 0, .int 0, .ref q_29, .ref q_30, .int 0, .ref q_31, .ref q_32, .ref q_33, .ref q_34, .int 0, .ref q_35, .int 0, .ref q_36, .ref q_37, .ref q_38, .ref q_39])), (q_25, .inl (cB, 65536, .inl zf)), (q_26, .inl (cB, 65536, .inl zf)), (q_27, .inl (cZ, 65536, .inl zf)), (q_28, .inl (cI, 64, .inl zf)), (q_29, .inl (cI, 300, .inl zf)), (q_30, .inl (cI, 300, .inl zf)), (q_31, .inl (cI, 128, .inl zf)), (q_32, .inl (cI, 128, .inl zf)), (q_33, .inl (cI, 128, .inl zf)), (q_34, .inl (cB, 100, .inl zf)), (q_35, .inl (cB, 4096, .inl zf)), (q_36, .inl (cI, 64, .inl zf)), (q_37, .inl (cB, 100, .inl zf)), (q_38, .inl (cZ, 64, .inl zf)), (q_39, .inl (cI, 300, .inl zf))] := hD
    refine lv_aload_n hx hb dL_law_141 rfl (lv_at hl 1 rfl) ?_
    refine lv_aload_n hx hb dL_law_142 rfl (lv_at hl 3 rfl) ?_
    refine lv_iload_n hx hb dL_law_143 rfl (lv_at hl 0 rfl) ?_
    refine lv_iconst (v := 1) hx hb dL_law_144 (by decide) ?_
    refine lv_iadd hx hb dL_law_145 ?_
    refine lv_topi (fun z_165 ez_165 => ?_)
    obtain rfl : z_165 = 1 := ez_165.trans (by decide)
    refine va_sld hx hb hX hbl hbA hS (ti_in (a := 1) (by decide) (by decide) (by decide)) dL_law_146 ?_
    refine lv_topi (fun z_166 ez_166 => ?_)
    obtain rfl : x1 = z_166 := ((ez_166.trans (congrArg xs (show Int32.toNatClampNeg 1 = 1 by decide))).trans ex1.symm).symm
    refine lv_i2l hx hb dL_law_147 rfl ?_
    refine lv_topl (fun y_167 _ => ?_)
    refine lv_bipush (v := 32) hx hb dL_law_148 (by decide) ?_
    refine lv_lshl hx hb dL_law_150 rfl ?_
    refine lv_topl (fun y_168 _ => ?_)
    refine lv_aload_n hx hb dL_law_151 rfl (lv_at hl 3 rfl) ?_
    refine lv_iload_n hx hb dL_law_152 rfl (lv_at hl 0 rfl) ?_
    refine lv_iconst (v := 2) hx hb dL_law_153 (by decide) ?_
    refine lv_iadd hx hb dL_law_154 ?_
    refine lv_topi (fun z_169 ez_169 => ?_)
    obtain rfl : z_169 = 2 := ez_169.trans (by decide)
    refine va_sld hx hb hX hbl hbA hS (ti_in (a := 2) (by decide) (by decide) (by decide)) dL_law_155 ?_
    refine lv_topi (fun z_170 ez_170 => ?_)
    obtain rfl : x2 = z_170 := ((ez_170.trans (congrArg xs (show Int32.toNatClampNeg 2 = 2 by decide))).trans ex2.symm).symm
    refine lv_i2l hx hb dL_law_156 rfl ?_
    refine lv_topl (fun y_171 _ => ?_)
    refine lv_ldc2 (v := 4294967295) hx hb hown (hts _ wdL_law_10) dL_law_157 ?_
    refine lv_topl (fun y_172 _ => ?_)
    refine lv_land hx hb dL_law_160 ?_
    refine lv_topl (fun y_173 _ => ?_)
    refine lv_lor hx hb dL_law_161 ?_
    refine lv_topl (fun y_174 _ => ?_)
    refine lv_aload_n hx hb dL_law_162 rfl (lv_at hl 3 rfl) ?_
    refine lv_iload_n hx hb dL_law_163 rfl (lv_at hl 0 rfl) ?_
    refine lv_iconst (v := 3) hx hb dL_law_164 (by decide) ?_
    refine lv_iadd hx hb dL_law_165 ?_
    refine lv_topi (fun z_175 ez_175 => ?_)
    obtain rfl : z_175 = 3 := ez_175.trans (by decide)
    refine va_sld hx hb hX hbl hbA hS (ti_in (a := 3) (by decide) (by decide) (by decide)) dL_law_166 ?_
    refine lv_topi (fun z_176 ez_176 => ?_)
    obtain rfl : z_176 = 3 := (ez_176.trans (congrArg xs (show Int32.toNatClampNeg 3 = 3 by decide))).trans ex3.symm
    refine kc_i (wr := [(q_2, .inr (1, [.ref q_3, .ref q_4, .int 0, .int 0, .int 0])), (q_3, .inl (cB, 65536, .inl zf)), (q_4, .inl (cI, 1024, .inl zf)), (q_5, .inr (2, [.ref q_6, .ref q_7, .int 0])), (q_6, .inl (cI, 300, .inl zf)), (q_7, .inl (cI, 300, .inl zf)), (q_8, .inr (3, [.ref q_5, .ref q_9, .ref q_10, .ref q_11, .ref q_12, .ref q_13, .ref q_14, .ref q_15, .int 0, .int 0, .int 0, .int 0, .int 1, .int 0])), (q_9, .inl (cB, 65536, .inl zf)), (q_10, .inl (cI, 64, .inl zf)), (q_11, .inl (cZ, 64, .inl zf)), (q_12, .inl (cI, 64, .inl zf)), (q_13, .inl (cI, 64, .inl zf)), (q_14, .inl (cI, 64, .inl zf)), (q_15, .inl (cI, 64, .inl zf)), (q_16, .inr (0, [.ref q_8, .ref q_5, .ref q_17, .ref q_18, .ref q_19, .int 0])), (q_17, .inl (cZ, 64, .inl zf)), (q_18, .inl (cI, 64, .inl zf)), (q_19, .inl (cI, 300, .inl zf)), (q_20, .inr (5, [.ref q_2, .ref q_8, .ref q_5, .ref q_21, .int 0, .int 0])), (q_21, .inl (cB, 1600, .inl zf)), (q_22, .inr (4, [.ref q_2, .ref q_8, .ref q_5, .ref q_20])), (q_25, .inl (cB, 65536, .inl zf)), (q_26, .inl (cB, 65536, .inl zf)), (q_27, .inl (cZ, 65536, .inl zf)), (q_28, .inl (cI, 64, .inl zf)), (q_29, .inl (cI, 300, .inl zf)), (q_30, .inl (cI, 300, .inl zf)), (q_31, .inl (cI, 128, .inl zf)), (q_32, .inl (cI, 128, .inl zf)), (q_33, .inl (cI, 128, .inl zf)), (q_35, .inl (cB, 4096, .inl zf)), (q_36, .inl (cI, 64, .inl zf)), (q_37, .inl (cB, 100, .inl zf)), (q_38, .inl (cZ, 64, .inl zf)), (q_39, .inl (cI, 300, .inl zf))]) (va_runV (As := [.long y_174, .int 3]) (rest := [.int 3]) ⟨hx, hb, hml, hown, hts⟩ (K25_X8_feed l D cB cI cZ _ q_24 q_34 y_174 ((.int 0)) ((.int 0)) ((.ref q_25)) ((.ref q_26)) ((.ref q_27)) ((.ref q_28)) ((.int 0)) ((.int 0)) ((.int 0)) ((.int 1)) ((.int 0)) ((.int 0)) ((.int 0)) ((.int 0)) ((.int 0)) ((.int 0)) ((.ref q_29)) ((.ref q_30)) ((.int 0)) ((.ref q_31)) ((.ref q_32)) ((.ref q_33)) ((.ref q_35)) ((.int 0)) ((.ref q_36)) ((.ref q_37)) ((.ref q_38)) ((.ref q_39))) (cwV 2 hts gL_law_X8_feed rfl rfl rfl (by decide +kernel) ⟨Nat.le_of_ble_eq_true rfl, Nat.le_of_ble_eq_true rfl⟩) (pre_V (q := (RX8, TX8, 30)) (ci := 7) (q0 := 0) (hP.sub [21, 31] rfl) hK hN (hD.sub [21, 31] (by decide) rfl) rfl rfl) rfl rfl hl.1 rfl (lv_room (Nat.le_of_ble_eq_true rfl)) dL_law_167 ⟨Nat.le_of_ble_eq_true rfl, Nat.le_of_ble_eq_true rfl⟩) hP hD hS hA [21, 31] [0, 1, 2, 3, 4, 5, 6, 7, 8, 9, 10, 11, 12, 13, 14, 15, 16, 17, 18, 19, 20, 22, 23, 24, 25, 26, 27, 28, 29, 30, 32, 33, 34, 35, 36] rfl rfl (by decide) (by decide) (fun r_177 u H locs hw hP hD hS => ?_)
    have k_178 := hw
    obtain rfl : r_177 = 3 := k_178
    have hP : va_P D vwCl [(q_2, .inr (1, [.ref q_3, .ref q_4, .int 0, .int 0, .int 0])), (q_3, .inl (cB, 65536, .inl zf)), (q_4, .inl (cI, 1024, .inl zf)), (q_5, .inr (2, [.ref q_6, .ref q_7, .int 0])), (q_6, .inl (cI, 300, .inl zf)), (q_7, .inl (cI, 300, .inl zf)), (q_8, .inr (3, [.ref q_5, .ref q_9, .ref q_10, .ref q_11, .ref q_12, .ref q_13, .ref q_14, .ref q_15, .int 0, .int 0, .int 0, .int 0, .int 1, .int 0])), (q_9, .inl (cB, 65536, .inl zf)), (q_10, .inl (cI, 64, .inl zf)), (q_11, .inl (cZ, 64, .inl zf)), (q_12, .inl (cI, 64, .inl zf)), (q_13, .inl (cI, 64, .inl zf)), (q_14, .inl (cI, 64, .inl zf)), (q_15, .inl (cI, 64, .inl zf)), (q_16, .inr (0, [.ref q_8, .ref q_5, .ref q_17, .ref q_18, .ref q_19, .int 0])), (q_17, .inl (cZ, 64, .inl zf)), (q_18, .inl (cI, 64, .inl zf)), (q_19, .inl (cI, 300, .inl zf)), (q_20, .inr (5, [.ref q_2, .ref q_8, .ref q_5, .ref q_21, .int 0, .int 0])), (q_21, .inl (cB, 1600, .inl zf)), (q_22, .inr (4, [.ref q_2, .ref q_8, .ref q_5, .ref q_20])), (q_25, .inl (cB, 65536, .inl zf)), (q_26, .inl (cB, 65536, .inl zf)), (q_27, .inl (cZ, 65536, .inl zf)), (q_28, .inl (cI, 64, .inl zf)), (q_29, .inl (cI, 300, .inl zf)), (q_30, .inl (cI, 300, .inl zf)), (q_31, .inl (cI, 128, .inl zf)), (q_32, .inl (cI, 128, .inl zf)), (q_33, .inl (cI, 128, .inl zf)), (q_35, .inl (cB, 4096, .inl zf)), (q_36, .inl (cI, 64, .inl zf)), (q_37, .inl (cB, 100, .inl zf)), (q_38, .inl (cZ, 64, .inl zf)), (q_39, .inl (cI, 300, .inl zf))] H := hP
    have hD : va_D A [(q_2, .inr (1, [.ref q_3, .ref q_4, .int 0, .int 0, .int 0])), (q_3, .inl (cB, 65536, .inl zf)), (q_4, .inl (cI, 1024, .inl zf)), (q_5, .inr (2, [.ref q_6, .ref q_7, .int 0])), (q_6, .inl (cI, 300, .inl zf)), (q_7, .inl (cI, 300, .inl zf)), (q_8, .inr (3, [.ref q_5, .ref q_9, .ref q_10, .ref q_11, .ref q_12, .ref q_13, .ref q_14, .ref q_15, .int 0, .int 0, .int 0, .int 0, .int 1, .int 0])), (q_9, .inl (cB, 65536, .inl zf)), (q_10, .inl (cI, 64, .inl zf)), (q_11, .inl (cZ, 64, .inl zf)), (q_12, .inl (cI, 64, .inl zf)), (q_13, .inl (cI, 64, .inl zf)), (q_14, .inl (cI, 64, .inl zf)), (q_15, .inl (cI, 64, .inl zf)), (q_16, .inr (0, [.ref q_8, .ref q_5, .ref q_17, .ref q_18, .ref q_19, .int 0])), (q_17, .inl (cZ, 64, .inl zf)), (q_18, .inl (cI, 64, .inl zf)), (q_19, .inl (cI, 300, .inl zf)), (q_20, .inr (5, [.ref q_2, .ref q_8, .ref q_5, .ref q_21, .int 0, .int 0])), (q_21, .inl (cB, 1600, .inl zf)), (q_22, .inr (4, [.ref q_2, .ref q_8, .ref q_5, .ref q_20])), (q_25, .inl (cB, 65536, .inl zf)), (q_26, .inl (cB, 65536, .inl zf)), (q_27, .inl (cZ, 65536, .inl zf)), (q_28, .inl (cI, 64, .inl zf)), (q_29, .inl (cI, 300, .inl zf)), (q_30, .inl (cI, 300, .inl zf)), (q_31, .inl (cI, 128, .inl zf)), (q_32, .inl (cI, 128, .inl zf)), (q_33, .inl (cI, 128, .inl zf)), (q_35, .inl (cB, 4096, .inl zf)), (q_36, .inl (cI, 64, .inl zf)), (q_37, .inl (cB, 100, .inl zf)), (q_38, .inl (cZ, 64, .inl zf)), (q_39, .inl (cI, 300, .inl zf))] := hD
    refine lv_icmp_eq (tgt := 560) hx hb dL_law_170 (by decide) (fun c => ?_) (fun c => absurd (by decide) c)
    refine lv_iinc (v := 4) (lv' := [(3, .int 4), (2, .ref q_24), (1, .ref q_1), (0, .ref b)]) hx hb dL_law_560 hl (k := 0) rfl (by decide) (by decide) rfl (fun ls hl => ?_)
    refine lv_goto (tgt := 18) hx hb dL_law_563 (by decide) ?_
    refine lv_iload_n hx hb dL_law_18 rfl (lv_at hl 0 rfl) ?_
    refine lv_aload_n hx hb dL_law_19 rfl (lv_at hl 3 rfl) ?_
    refine va_slen hx hb hX hbl hbA hS dL_law_20 ?_
    refine lv_topi (fun z_179 ez_179 => ?_)
    obtain rfl : z_179 = 4 := ez_179.trans (by decide)
    refine lv_iconst (v := 4) hx hb dL_law_21 (by decide) ?_
    refine lv_isub hx hb dL_law_22 ?_
    refine lv_topi (fun z_180 ez_180 => ?_)
    obtain rfl : z_180 = 0 := ez_180.trans (by decide)
    refine lv_icmp_gt (tgt := 566) hx hb dL_law_23 (by decide) (fun c => ?_) (fun c => absurd (by decide) c)
    refine lv_iconst (v := 1) hx hb dL_law_566 (by decide) ?_
    refine va_forget (fun q hq => by have h9 := hS.2.2 q hq; rw [hAe] at h9; exact h9) ?_
    refine W.widen (k := 600000) (n := 7302250) (Nat.le_of_ble_eq_true rfl) (Nat.le_of_ble_eq_true rfl) ?_
    exact lw_ret hx hb hr hlocks dL_law_567
  · skip
    obtain rfl : x3 = 4 := ti_inj (a := 4) (by decide) hsp
    refine lv_aload_n hx hb dL_law_112 rfl (lv_at hl 2 rfl) ?_
    refine lv_aload_n hx hb dL_law_113 rfl (lv_at hl 3 rfl) ?_
    refine lv_iload_n hx hb dL_law_114 rfl (lv_at hl 0 rfl) ?_
    refine lv_iconst (v := 1) hx hb dL_law_115 (by decide) ?_
    refine lv_iadd hx hb dL_law_116 ?_
    refine lv_topi (fun z_181 ez_181 => ?_)
    obtain rfl : z_181 = 1 := ez_181.trans (by decide)
    refine va_sld hx hb hX hbl hbA hS (ti_in (a := 1) (by decide) (by decide) (by decide)) dL_law_117 ?_
    refine lv_topi (fun z_182 ez_182 => ?_)
    obtain rfl : x1 = z_182 := ((ez_182.trans (congrArg xs (show Int32.toNatClampNeg 1 = 1 by decide))).trans ex1.symm).symm
    refine lv_i2l hx hb dL_law_118 rfl ?_
    refine lv_topl (fun y_183 _ => ?_)
    refine lv_bipush (v := 32) hx hb dL_law_119 (by decide) ?_
    refine lv_lshl hx hb dL_law_121 rfl ?_
    refine lv_topl (fun y_184 _ => ?_)
    refine lv_aload_n hx hb dL_law_122 rfl (lv_at hl 3 rfl) ?_
    refine lv_iload_n hx hb dL_law_123 rfl (lv_at hl 0 rfl) ?_
    refine lv_iconst (v := 2) hx hb dL_law_124 (by decide) ?_
    refine lv_iadd hx hb dL_law_125 ?_
    refine lv_topi (fun z_185 ez_185 => ?_)
    obtain rfl : z_185 = 2 := ez_185.trans (by decide)
    refine va_sld hx hb hX hbl hbA hS (ti_in (a := 2) (by decide) (by decide) (by decide)) dL_law_126 ?_
    refine lv_topi (fun z_186 ez_186 => ?_)
    obtain rfl : x2 = z_186 := ((ez_186.trans (congrArg xs (show Int32.toNatClampNeg 2 = 2 by decide))).trans ex2.symm).symm
    refine lv_i2l hx hb dL_law_127 rfl ?_
    refine lv_topl (fun y_187 _ => ?_)
    refine lv_ldc2 (v := 4294967295) hx hb hown (hts _ wdL_law_10) dL_law_128 ?_
    refine lv_topl (fun y_188 _ => ?_)
    refine lv_land hx hb dL_law_131 ?_
    refine lv_topl (fun y_189 _ => ?_)
    refine lv_lor hx hb dL_law_132 ?_
    refine lv_topl (fun y_190 _ => ?_)
    refine lv_aload_n hx hb dL_law_133 rfl (lv_at hl 3 rfl) ?_
    refine lv_iload_n hx hb dL_law_134 rfl (lv_at hl 0 rfl) ?_
    refine lv_iconst (v := 3) hx hb dL_law_135 (by decide) ?_
    refine lv_iadd hx hb dL_law_136 ?_
    refine lv_topi (fun z_191 ez_191 => ?_)
    obtain rfl : z_191 = 3 := ez_191.trans (by decide)
    refine va_sld hx hb hX hbl hbA hS (ti_in (a := 3) (by decide) (by decide) (by decide)) dL_law_137 ?_
    refine lv_topi (fun z_192 ez_192 => ?_)
    obtain rfl : z_192 = 4 := (ez_192.trans (congrArg xs (show Int32.toNatClampNeg 3 = 3 by decide))).trans ex3.symm
    refine kc_i (wr := [(q_2, .inr (1, [.ref q_3, .ref q_4, .int 0, .int 0, .int 0])), (q_3, .inl (cB, 65536, .inl zf)), (q_4, .inl (cI, 1024, .inl zf)), (q_5, .inr (2, [.ref q_6, .ref q_7, .int 0])), (q_6, .inl (cI, 300, .inl zf)), (q_7, .inl (cI, 300, .inl zf)), (q_8, .inr (3, [.ref q_5, .ref q_9, .ref q_10, .ref q_11, .ref q_12, .ref q_13, .ref q_14, .ref q_15, .int 0, .int 0, .int 0, .int 0, .int 1, .int 0])), (q_9, .inl (cB, 65536, .inl zf)), (q_10, .inl (cI, 64, .inl zf)), (q_11, .inl (cZ, 64, .inl zf)), (q_12, .inl (cI, 64, .inl zf)), (q_13, .inl (cI, 64, .inl zf)), (q_14, .inl (cI, 64, .inl zf)), (q_15, .inl (cI, 64, .inl zf)), (q_16, .inr (0, [.ref q_8, .ref q_5, .ref q_17, .ref q_18, .ref q_19, .int 0])), (q_17, .inl (cZ, 64, .inl zf)), (q_18, .inl (cI, 64, .inl zf)), (q_19, .inl (cI, 300, .inl zf)), (q_20, .inr (5, [.ref q_2, .ref q_8, .ref q_5, .ref q_21, .int 0, .int 0])), (q_21, .inl (cB, 1600, .inl zf)), (q_22, .inr (4, [.ref q_2, .ref q_8, .ref q_5, .ref q_20])), (q_24, .inr (7, [.int 0, .int 0, .ref q_25, .ref q_26, .ref q_27, .ref q_28, .int 0, .int 0, .int 0, .int 1, .int 0, .int 0, .int 0, .int 0, .int 0, .int 0, .ref q_29, .ref q_30, .int 0, .ref q_31, .ref q_32, .ref q_33, .ref q_34, .int 0, .ref q_35, .int 0, .ref q_36, .ref q_37, .ref q_38, .ref q_39])), (q_25, .inl (cB, 65536, .inl zf)), (q_26, .inl (cB, 65536, .inl zf)), (q_27, .inl (cZ, 65536, .inl zf)), (q_28, .inl (cI, 64, .inl zf)), (q_29, .inl (cI, 300, .inl zf)), (q_30, .inl (cI, 300, .inl zf)), (q_31, .inl (cI, 128, .inl zf)), (q_32, .inl (cI, 128, .inl zf)), (q_33, .inl (cI, 128, .inl zf)), (q_34, .inl (cB, 100, .inl zf)), (q_35, .inl (cB, 4096, .inl zf)), (q_36, .inl (cI, 64, .inl zf)), (q_37, .inl (cB, 100, .inl zf)), (q_38, .inl (cZ, 64, .inl zf)), (q_39, .inl (cI, 300, .inl zf))]) (va_runV (As := [.long y_190, .int 4]) (rest := []) ⟨hx, hb, hml, hown, hts⟩ (K27_X7_feed l D cB cI cZ _ q_1 q_23 y_190 ((.ref q_2)) ((.ref q_5)) ((.ref q_8)) ((.ref q_16)) ((.ref q_20)) ((.ref q_22)) ((.int 0))) (cwV 2 hts gL_law_X7_feed rfl rfl rfl (by decide +kernel) ⟨Nat.le_of_ble_eq_true rfl, Nat.le_of_ble_eq_true rfl⟩) (pre_V (q := (RX7, TX7, 9)) (ci := 6) (q0 := 0) (hP.sub [0, 22] rfl) hK hN (hD.sub [0, 22] (by decide) rfl) rfl rfl) rfl rfl hl.1 rfl (lv_room (Nat.le_of_ble_eq_true rfl)) dL_law_138 ⟨Nat.le_of_ble_eq_true rfl, Nat.le_of_ble_eq_true rfl⟩) hP hD hS hA [0, 22] [1, 2, 3, 4, 5, 6, 7, 8, 9, 10, 11, 12, 13, 14, 15, 16, 17, 18, 19, 20, 21, 23, 24, 25, 26, 27, 28, 29, 30, 31, 32, 33, 34, 35, 36, 37, 38] rfl rfl (by decide) (by decide) (fun r_193 u H locs hw hP hD hS => ?_)
    have k_194 := hw
    obtain rfl : r_193 = 4 := k_194
    have hP : va_P D vwCl [(q_2, .inr (1, [.ref q_3, .ref q_4, .int 0, .int 0, .int 0])), (q_3, .inl (cB, 65536, .inl zf)), (q_4, .inl (cI, 1024, .inl zf)), (q_5, .inr (2, [.ref q_6, .ref q_7, .int 0])), (q_6, .inl (cI, 300, .inl zf)), (q_7, .inl (cI, 300, .inl zf)), (q_8, .inr (3, [.ref q_5, .ref q_9, .ref q_10, .ref q_11, .ref q_12, .ref q_13, .ref q_14, .ref q_15, .int 0, .int 0, .int 0, .int 0, .int 1, .int 0])), (q_9, .inl (cB, 65536, .inl zf)), (q_10, .inl (cI, 64, .inl zf)), (q_11, .inl (cZ, 64, .inl zf)), (q_12, .inl (cI, 64, .inl zf)), (q_13, .inl (cI, 64, .inl zf)), (q_14, .inl (cI, 64, .inl zf)), (q_15, .inl (cI, 64, .inl zf)), (q_16, .inr (0, [.ref q_8, .ref q_5, .ref q_17, .ref q_18, .ref q_19, .int 0])), (q_17, .inl (cZ, 64, .inl zf)), (q_18, .inl (cI, 64, .inl zf)), (q_19, .inl (cI, 300, .inl zf)), (q_20, .inr (5, [.ref q_2, .ref q_8, .ref q_5, .ref q_21, .int 0, .int 0])), (q_21, .inl (cB, 1600, .inl zf)), (q_22, .inr (4, [.ref q_2, .ref q_8, .ref q_5, .ref q_20])), (q_24, .inr (7, [.int 0, .int 0, .ref q_25, .ref q_26, .ref q_27, .ref q_28, .int 0, .int 0, .int 0, .int 1, .int 0, .int 0, .int 0, .int 0, .int 0, .int 0, .ref q_29, .ref q_30, .int 0, .ref q_31, .ref q_32, .ref q_33, .ref q_34, .int 0, .ref q_35, .int 0, .ref q_36, .ref q_37, .ref q_38, .ref q_39])), (q_25, .inl (cB, 65536, .inl zf)), (q_26, .inl (cB, 65536, .inl zf)), (q_27, .inl (cZ, 65536, .inl zf)), (q_28, .inl (cI, 64, .inl zf)), (q_29, .inl (cI, 300, .inl zf)), (q_30, .inl (cI, 300, .inl zf)), (q_31, .inl (cI, 128, .inl zf)), (q_32, .inl (cI, 128, .inl zf)), (q_33, .inl (cI, 128, .inl zf)), (q_34, .inl (cB, 100, .inl zf)), (q_35, .inl (cB, 4096, .inl zf)), (q_36, .inl (cI, 64, .inl zf)), (q_37, .inl (cB, 100, .inl zf)), (q_38, .inl (cZ, 64, .inl zf)), (q_39, .inl (cI, 300, .inl zf))] H := hP
    have hD : va_D A [(q_2, .inr (1, [.ref q_3, .ref q_4, .int 0, .int 0, .int 0])), (q_3, .inl (cB, 65536, .inl zf)), (q_4, .inl (cI, 1024, .inl zf)), (q_5, .inr (2, [.ref q_6, .ref q_7, .int 0])), (q_6, .inl (cI, 300, .inl zf)), (q_7, .inl (cI, 300, .inl zf)), (q_8, .inr (3, [.ref q_5, .ref q_9, .ref q_10, .ref q_11, .ref q_12, .ref q_13, .ref q_14, .ref q_15, .int 0, .int 0, .int 0, .int 0, .int 1, .int 0])), (q_9, .inl (cB, 65536, .inl zf)), (q_10, .inl (cI, 64, .inl zf)), (q_11, .inl (cZ, 64, .inl zf)), (q_12, .inl (cI, 64, .inl zf)), (q_13, .inl (cI, 64, .inl zf)), (q_14, .inl (cI, 64, .inl zf)), (q_15, .inl (cI, 64, .inl zf)), (q_16, .inr (0, [.ref q_8, .ref q_5, .ref q_17, .ref q_18, .ref q_19, .int 0])), (q_17, .inl (cZ, 64, .inl zf)), (q_18, .inl (cI, 64, .inl zf)), (q_19, .inl (cI, 300, .inl zf)), (q_20, .inr (5, [.ref q_2, .ref q_8, .ref q_5, .ref q_21, .int 0, .int 0])), (q_21, .inl (cB, 1600, .inl zf)), (q_22, .inr (4, [.ref q_2, .ref q_8, .ref q_5, .ref q_20])), (q_24, .inr (7, [.int 0, .int 0, .ref q_25, .ref q_26, .ref q_27, .ref q_28, .int 0, .int 0, .int 0, .int 1, .int 0, .int 0, .int 0, .int 0, .int 0, .int 0, .ref q_29, .ref q_30, .int 0, .ref q_31, .ref q_32, .ref q_33, .ref q_34, .int 0, .ref q_35, .int 0, .ref q_36, .ref q_37, .ref q_38, .ref q_39])), (q_25, .inl (cB, 65536, .inl zf)), (q_26, .inl (cB, 65536, .inl zf)), (q_27, .inl (cZ, 65536, .inl zf)), (q_28, .inl (cI, 64, .inl zf)), (q_29, .inl (cI, 300, .inl zf)), (q_30, .inl (cI, 300, .inl zf)), (q_31, .inl (cI, 128, .inl zf)), (q_32, .inl (cI, 128, .inl zf)), (q_33, .inl (cI, 128, .inl zf)), (q_34, .inl (cB, 100, .inl zf)), (q_35, .inl (cB, 4096, .inl zf)), (q_36, .inl (cI, 64, .inl zf)), (q_37, .inl (cB, 100, .inl zf)), (q_38, .inl (cZ, 64, .inl zf)), (q_39, .inl (cI, 300, .inl zf))] := hD
    refine lv_aload_n hx hb dL_law_141 rfl (lv_at hl 1 rfl) ?_
    refine lv_aload_n hx hb dL_law_142 rfl (lv_at hl 3 rfl) ?_
    refine lv_iload_n hx hb dL_law_143 rfl (lv_at hl 0 rfl) ?_
    refine lv_iconst (v := 1) hx hb dL_law_144 (by decide) ?_
    refine lv_iadd hx hb dL_law_145 ?_
    refine lv_topi (fun z_195 ez_195 => ?_)
    obtain rfl : z_195 = 1 := ez_195.trans (by decide)
    refine va_sld hx hb hX hbl hbA hS (ti_in (a := 1) (by decide) (by decide) (by decide)) dL_law_146 ?_
    refine lv_topi (fun z_196 ez_196 => ?_)
    obtain rfl : x1 = z_196 := ((ez_196.trans (congrArg xs (show Int32.toNatClampNeg 1 = 1 by decide))).trans ex1.symm).symm
    refine lv_i2l hx hb dL_law_147 rfl ?_
    refine lv_topl (fun y_197 _ => ?_)
    refine lv_bipush (v := 32) hx hb dL_law_148 (by decide) ?_
    refine lv_lshl hx hb dL_law_150 rfl ?_
    refine lv_topl (fun y_198 _ => ?_)
    refine lv_aload_n hx hb dL_law_151 rfl (lv_at hl 3 rfl) ?_
    refine lv_iload_n hx hb dL_law_152 rfl (lv_at hl 0 rfl) ?_
    refine lv_iconst (v := 2) hx hb dL_law_153 (by decide) ?_
    refine lv_iadd hx hb dL_law_154 ?_
    refine lv_topi (fun z_199 ez_199 => ?_)
    obtain rfl : z_199 = 2 := ez_199.trans (by decide)
    refine va_sld hx hb hX hbl hbA hS (ti_in (a := 2) (by decide) (by decide) (by decide)) dL_law_155 ?_
    refine lv_topi (fun z_200 ez_200 => ?_)
    obtain rfl : x2 = z_200 := ((ez_200.trans (congrArg xs (show Int32.toNatClampNeg 2 = 2 by decide))).trans ex2.symm).symm
    refine lv_i2l hx hb dL_law_156 rfl ?_
    refine lv_topl (fun y_201 _ => ?_)
    refine lv_ldc2 (v := 4294967295) hx hb hown (hts _ wdL_law_10) dL_law_157 ?_
    refine lv_topl (fun y_202 _ => ?_)
    refine lv_land hx hb dL_law_160 ?_
    refine lv_topl (fun y_203 _ => ?_)
    refine lv_lor hx hb dL_law_161 ?_
    refine lv_topl (fun y_204 _ => ?_)
    refine lv_aload_n hx hb dL_law_162 rfl (lv_at hl 3 rfl) ?_
    refine lv_iload_n hx hb dL_law_163 rfl (lv_at hl 0 rfl) ?_
    refine lv_iconst (v := 3) hx hb dL_law_164 (by decide) ?_
    refine lv_iadd hx hb dL_law_165 ?_
    refine lv_topi (fun z_205 ez_205 => ?_)
    obtain rfl : z_205 = 3 := ez_205.trans (by decide)
    refine va_sld hx hb hX hbl hbA hS (ti_in (a := 3) (by decide) (by decide) (by decide)) dL_law_166 ?_
    refine lv_topi (fun z_206 ez_206 => ?_)
    obtain rfl : z_206 = 4 := (ez_206.trans (congrArg xs (show Int32.toNatClampNeg 3 = 3 by decide))).trans ex3.symm
    refine kc_i (wr := [(q_2, .inr (1, [.ref q_3, .ref q_4, .int 0, .int 0, .int 0])), (q_3, .inl (cB, 65536, .inl zf)), (q_4, .inl (cI, 1024, .inl zf)), (q_5, .inr (2, [.ref q_6, .ref q_7, .int 0])), (q_6, .inl (cI, 300, .inl zf)), (q_7, .inl (cI, 300, .inl zf)), (q_8, .inr (3, [.ref q_5, .ref q_9, .ref q_10, .ref q_11, .ref q_12, .ref q_13, .ref q_14, .ref q_15, .int 0, .int 0, .int 0, .int 0, .int 1, .int 0])), (q_9, .inl (cB, 65536, .inl zf)), (q_10, .inl (cI, 64, .inl zf)), (q_11, .inl (cZ, 64, .inl zf)), (q_12, .inl (cI, 64, .inl zf)), (q_13, .inl (cI, 64, .inl zf)), (q_14, .inl (cI, 64, .inl zf)), (q_15, .inl (cI, 64, .inl zf)), (q_16, .inr (0, [.ref q_8, .ref q_5, .ref q_17, .ref q_18, .ref q_19, .int 0])), (q_17, .inl (cZ, 64, .inl zf)), (q_18, .inl (cI, 64, .inl zf)), (q_19, .inl (cI, 300, .inl zf)), (q_20, .inr (5, [.ref q_2, .ref q_8, .ref q_5, .ref q_21, .int 0, .int 0])), (q_21, .inl (cB, 1600, .inl zf)), (q_22, .inr (4, [.ref q_2, .ref q_8, .ref q_5, .ref q_20])), (q_25, .inl (cB, 65536, .inl zf)), (q_26, .inl (cB, 65536, .inl zf)), (q_27, .inl (cZ, 65536, .inl zf)), (q_28, .inl (cI, 64, .inl zf)), (q_29, .inl (cI, 300, .inl zf)), (q_30, .inl (cI, 300, .inl zf)), (q_31, .inl (cI, 128, .inl zf)), (q_32, .inl (cI, 128, .inl zf)), (q_33, .inl (cI, 128, .inl zf)), (q_35, .inl (cB, 4096, .inl zf)), (q_36, .inl (cI, 64, .inl zf)), (q_37, .inl (cB, 100, .inl zf)), (q_38, .inl (cZ, 64, .inl zf)), (q_39, .inl (cI, 300, .inl zf))]) (va_runV (As := [.long y_204, .int 4]) (rest := [.int 4]) ⟨hx, hb, hml, hown, hts⟩ (K28_X8_feed l D cB cI cZ _ q_24 q_34 y_204 ((.int 0)) ((.int 0)) ((.ref q_25)) ((.ref q_26)) ((.ref q_27)) ((.ref q_28)) ((.int 0)) ((.int 0)) ((.int 0)) ((.int 1)) ((.int 0)) ((.int 0)) ((.int 0)) ((.int 0)) ((.int 0)) ((.int 0)) ((.ref q_29)) ((.ref q_30)) ((.int 0)) ((.ref q_31)) ((.ref q_32)) ((.ref q_33)) ((.ref q_35)) ((.int 0)) ((.ref q_36)) ((.ref q_37)) ((.ref q_38)) ((.ref q_39))) (cwV 2 hts gL_law_X8_feed rfl rfl rfl (by decide +kernel) ⟨Nat.le_of_ble_eq_true rfl, Nat.le_of_ble_eq_true rfl⟩) (pre_V (q := (RX8, TX8, 30)) (ci := 7) (q0 := 0) (hP.sub [21, 31] rfl) hK hN (hD.sub [21, 31] (by decide) rfl) rfl rfl) rfl rfl hl.1 rfl (lv_room (Nat.le_of_ble_eq_true rfl)) dL_law_167 ⟨Nat.le_of_ble_eq_true rfl, Nat.le_of_ble_eq_true rfl⟩) hP hD hS hA [21, 31] [0, 1, 2, 3, 4, 5, 6, 7, 8, 9, 10, 11, 12, 13, 14, 15, 16, 17, 18, 19, 20, 22, 23, 24, 25, 26, 27, 28, 29, 30, 32, 33, 34, 35, 36] rfl rfl (by decide) (by decide) (fun r_207 u H locs hw hP hD hS => ?_)
    have k_208 := hw
    obtain rfl : r_207 = 4 := k_208
    have hP : va_P D vwCl [(q_2, .inr (1, [.ref q_3, .ref q_4, .int 0, .int 0, .int 0])), (q_3, .inl (cB, 65536, .inl zf)), (q_4, .inl (cI, 1024, .inl zf)), (q_5, .inr (2, [.ref q_6, .ref q_7, .int 0])), (q_6, .inl (cI, 300, .inl zf)), (q_7, .inl (cI, 300, .inl zf)), (q_8, .inr (3, [.ref q_5, .ref q_9, .ref q_10, .ref q_11, .ref q_12, .ref q_13, .ref q_14, .ref q_15, .int 0, .int 0, .int 0, .int 0, .int 1, .int 0])), (q_9, .inl (cB, 65536, .inl zf)), (q_10, .inl (cI, 64, .inl zf)), (q_11, .inl (cZ, 64, .inl zf)), (q_12, .inl (cI, 64, .inl zf)), (q_13, .inl (cI, 64, .inl zf)), (q_14, .inl (cI, 64, .inl zf)), (q_15, .inl (cI, 64, .inl zf)), (q_16, .inr (0, [.ref q_8, .ref q_5, .ref q_17, .ref q_18, .ref q_19, .int 0])), (q_17, .inl (cZ, 64, .inl zf)), (q_18, .inl (cI, 64, .inl zf)), (q_19, .inl (cI, 300, .inl zf)), (q_20, .inr (5, [.ref q_2, .ref q_8, .ref q_5, .ref q_21, .int 0, .int 0])), (q_21, .inl (cB, 1600, .inl zf)), (q_22, .inr (4, [.ref q_2, .ref q_8, .ref q_5, .ref q_20])), (q_25, .inl (cB, 65536, .inl zf)), (q_26, .inl (cB, 65536, .inl zf)), (q_27, .inl (cZ, 65536, .inl zf)), (q_28, .inl (cI, 64, .inl zf)), (q_29, .inl (cI, 300, .inl zf)), (q_30, .inl (cI, 300, .inl zf)), (q_31, .inl (cI, 128, .inl zf)), (q_32, .inl (cI, 128, .inl zf)), (q_33, .inl (cI, 128, .inl zf)), (q_35, .inl (cB, 4096, .inl zf)), (q_36, .inl (cI, 64, .inl zf)), (q_37, .inl (cB, 100, .inl zf)), (q_38, .inl (cZ, 64, .inl zf)), (q_39, .inl (cI, 300, .inl zf))] H := hP
    have hD : va_D A [(q_2, .inr (1, [.ref q_3, .ref q_4, .int 0, .int 0, .int 0])), (q_3, .inl (cB, 65536, .inl zf)), (q_4, .inl (cI, 1024, .inl zf)), (q_5, .inr (2, [.ref q_6, .ref q_7, .int 0])), (q_6, .inl (cI, 300, .inl zf)), (q_7, .inl (cI, 300, .inl zf)), (q_8, .inr (3, [.ref q_5, .ref q_9, .ref q_10, .ref q_11, .ref q_12, .ref q_13, .ref q_14, .ref q_15, .int 0, .int 0, .int 0, .int 0, .int 1, .int 0])), (q_9, .inl (cB, 65536, .inl zf)), (q_10, .inl (cI, 64, .inl zf)), (q_11, .inl (cZ, 64, .inl zf)), (q_12, .inl (cI, 64, .inl zf)), (q_13, .inl (cI, 64, .inl zf)), (q_14, .inl (cI, 64, .inl zf)), (q_15, .inl (cI, 64, .inl zf)), (q_16, .inr (0, [.ref q_8, .ref q_5, .ref q_17, .ref q_18, .ref q_19, .int 0])), (q_17, .inl (cZ, 64, .inl zf)), (q_18, .inl (cI, 64, .inl zf)), (q_19, .inl (cI, 300, .inl zf)), (q_20, .inr (5, [.ref q_2, .ref q_8, .ref q_5, .ref q_21, .int 0, .int 0])), (q_21, .inl (cB, 1600, .inl zf)), (q_22, .inr (4, [.ref q_2, .ref q_8, .ref q_5, .ref q_20])), (q_25, .inl (cB, 65536, .inl zf)), (q_26, .inl (cB, 65536, .inl zf)), (q_27, .inl (cZ, 65536, .inl zf)), (q_28, .inl (cI, 64, .inl zf)), (q_29, .inl (cI, 300, .inl zf)), (q_30, .inl (cI, 300, .inl zf)), (q_31, .inl (cI, 128, .inl zf)), (q_32, .inl (cI, 128, .inl zf)), (q_33, .inl (cI, 128, .inl zf)), (q_35, .inl (cB, 4096, .inl zf)), (q_36, .inl (cI, 64, .inl zf)), (q_37, .inl (cB, 100, .inl zf)), (q_38, .inl (cZ, 64, .inl zf)), (q_39, .inl (cI, 300, .inl zf))] := hD
    refine lv_icmp_eq (tgt := 560) hx hb dL_law_170 (by decide) (fun c => ?_) (fun c => absurd (by decide) c)
    refine lv_iinc (v := 4) (lv' := [(3, .int 4), (2, .ref q_24), (1, .ref q_1), (0, .ref b)]) hx hb dL_law_560 hl (k := 0) rfl (by decide) (by decide) rfl (fun ls hl => ?_)
    refine lv_goto (tgt := 18) hx hb dL_law_563 (by decide) ?_
    refine lv_iload_n hx hb dL_law_18 rfl (lv_at hl 0 rfl) ?_
    refine lv_aload_n hx hb dL_law_19 rfl (lv_at hl 3 rfl) ?_
    refine va_slen hx hb hX hbl hbA hS dL_law_20 ?_
    refine lv_topi (fun z_209 ez_209 => ?_)
    obtain rfl : z_209 = 4 := ez_209.trans (by decide)
    refine lv_iconst (v := 4) hx hb dL_law_21 (by decide) ?_
    refine lv_isub hx hb dL_law_22 ?_
    refine lv_topi (fun z_210 ez_210 => ?_)
    obtain rfl : z_210 = 0 := ez_210.trans (by decide)
    refine lv_icmp_gt (tgt := 566) hx hb dL_law_23 (by decide) (fun c => ?_) (fun c => absurd (by decide) c)
    refine lv_iconst (v := 1) hx hb dL_law_566 (by decide) ?_
    refine va_forget (fun q hq => by have h9 := hS.2.2 q hq; rw [hAe] at h9; exact h9) ?_
    refine W.widen (k := 600000) (n := 7302250) (Nat.le_of_ble_eq_true rfl) (Nat.le_of_ble_eq_true rfl) ?_
    exact lw_ret hx hb hr hlocks dL_law_567
  · skip
    obtain rfl : x3 = 5 := ti_inj (a := 5) (by decide) hsp
    refine lv_aload_n hx hb dL_law_112 rfl (lv_at hl 2 rfl) ?_
    refine lv_aload_n hx hb dL_law_113 rfl (lv_at hl 3 rfl) ?_
    refine lv_iload_n hx hb dL_law_114 rfl (lv_at hl 0 rfl) ?_
    refine lv_iconst (v := 1) hx hb dL_law_115 (by decide) ?_
    refine lv_iadd hx hb dL_law_116 ?_
    refine lv_topi (fun z_211 ez_211 => ?_)
    obtain rfl : z_211 = 1 := ez_211.trans (by decide)
    refine va_sld hx hb hX hbl hbA hS (ti_in (a := 1) (by decide) (by decide) (by decide)) dL_law_117 ?_
    refine lv_topi (fun z_212 ez_212 => ?_)
    obtain rfl : x1 = z_212 := ((ez_212.trans (congrArg xs (show Int32.toNatClampNeg 1 = 1 by decide))).trans ex1.symm).symm
    refine lv_i2l hx hb dL_law_118 rfl ?_
    refine lv_topl (fun y_213 _ => ?_)
    refine lv_bipush (v := 32) hx hb dL_law_119 (by decide) ?_
    refine lv_lshl hx hb dL_law_121 rfl ?_
    refine lv_topl (fun y_214 _ => ?_)
    refine lv_aload_n hx hb dL_law_122 rfl (lv_at hl 3 rfl) ?_
    refine lv_iload_n hx hb dL_law_123 rfl (lv_at hl 0 rfl) ?_
    refine lv_iconst (v := 2) hx hb dL_law_124 (by decide) ?_
    refine lv_iadd hx hb dL_law_125 ?_
    refine lv_topi (fun z_215 ez_215 => ?_)
    obtain rfl : z_215 = 2 := ez_215.trans (by decide)
    refine va_sld hx hb hX hbl hbA hS (ti_in (a := 2) (by decide) (by decide) (by decide)) dL_law_126 ?_
    refine lv_topi (fun z_216 ez_216 => ?_)
    obtain rfl : x2 = z_216 := ((ez_216.trans (congrArg xs (show Int32.toNatClampNeg 2 = 2 by decide))).trans ex2.symm).symm
    refine lv_i2l hx hb dL_law_127 rfl ?_
    refine lv_topl (fun y_217 _ => ?_)
    refine lv_ldc2 (v := 4294967295) hx hb hown (hts _ wdL_law_10) dL_law_128 ?_
    refine lv_topl (fun y_218 _ => ?_)
    refine lv_land hx hb dL_law_131 ?_
    refine lv_topl (fun y_219 _ => ?_)
    refine lv_lor hx hb dL_law_132 ?_
    refine lv_topl (fun y_220 _ => ?_)
    refine lv_aload_n hx hb dL_law_133 rfl (lv_at hl 3 rfl) ?_
    refine lv_iload_n hx hb dL_law_134 rfl (lv_at hl 0 rfl) ?_
    refine lv_iconst (v := 3) hx hb dL_law_135 (by decide) ?_
    refine lv_iadd hx hb dL_law_136 ?_
    refine lv_topi (fun z_221 ez_221 => ?_)
    obtain rfl : z_221 = 3 := ez_221.trans (by decide)
    refine va_sld hx hb hX hbl hbA hS (ti_in (a := 3) (by decide) (by decide) (by decide)) dL_law_137 ?_
    refine lv_topi (fun z_222 ez_222 => ?_)
    obtain rfl : z_222 = 5 := (ez_222.trans (congrArg xs (show Int32.toNatClampNeg 3 = 3 by decide))).trans ex3.symm
    refine kc_i (wr := [(q_2, .inr (1, [.ref q_3, .ref q_4, .int 0, .int 0, .int 0])), (q_3, .inl (cB, 65536, .inl zf)), (q_4, .inl (cI, 1024, .inl zf)), (q_5, .inr (2, [.ref q_6, .ref q_7, .int 0])), (q_6, .inl (cI, 300, .inl zf)), (q_7, .inl (cI, 300, .inl zf)), (q_8, .inr (3, [.ref q_5, .ref q_9, .ref q_10, .ref q_11, .ref q_12, .ref q_13, .ref q_14, .ref q_15, .int 0, .int 0, .int 0, .int 0, .int 1, .int 0])), (q_9, .inl (cB, 65536, .inl zf)), (q_10, .inl (cI, 64, .inl zf)), (q_11, .inl (cZ, 64, .inl zf)), (q_12, .inl (cI, 64, .inl zf)), (q_13, .inl (cI, 64, .inl zf)), (q_14, .inl (cI, 64, .inl zf)), (q_15, .inl (cI, 64, .inl zf)), (q_16, .inr (0, [.ref q_8, .ref q_5, .ref q_17, .ref q_18, .ref q_19, .int 0])), (q_17, .inl (cZ, 64, .inl zf)), (q_18, .inl (cI, 64, .inl zf)), (q_19, .inl (cI, 300, .inl zf)), (q_20, .inr (5, [.ref q_2, .ref q_8, .ref q_5, .ref q_21, .int 0, .int 0])), (q_21, .inl (cB, 1600, .inl zf)), (q_22, .inr (4, [.ref q_2, .ref q_8, .ref q_5, .ref q_20])), (q_24, .inr (7, [.int 0, .int 0, .ref q_25, .ref q_26, .ref q_27, .ref q_28, .int 0, .int 0, .int 0, .int 1, .int 0, .int 0, .int 0, .int 0, .int 0, .int 0, .ref q_29, .ref q_30, .int 0, .ref q_31, .ref q_32, .ref q_33, .ref q_34, .int 0, .ref q_35, .int 0, .ref q_36, .ref q_37, .ref q_38, .ref q_39])), (q_25, .inl (cB, 65536, .inl zf)), (q_26, .inl (cB, 65536, .inl zf)), (q_27, .inl (cZ, 65536, .inl zf)), (q_28, .inl (cI, 64, .inl zf)), (q_29, .inl (cI, 300, .inl zf)), (q_30, .inl (cI, 300, .inl zf)), (q_31, .inl (cI, 128, .inl zf)), (q_32, .inl (cI, 128, .inl zf)), (q_33, .inl (cI, 128, .inl zf)), (q_34, .inl (cB, 100, .inl zf)), (q_35, .inl (cB, 4096, .inl zf)), (q_36, .inl (cI, 64, .inl zf)), (q_37, .inl (cB, 100, .inl zf)), (q_38, .inl (cZ, 64, .inl zf)), (q_39, .inl (cI, 300, .inl zf))]) (va_runV (As := [.long y_220, .int 5]) (rest := []) ⟨hx, hb, hml, hown, hts⟩ (K30_X7_feed l D cB cI cZ _ q_1 q_23 y_220 ((.ref q_2)) ((.ref q_5)) ((.ref q_8)) ((.ref q_16)) ((.ref q_20)) ((.ref q_22)) ((.int 0))) (cwV 2 hts gL_law_X7_feed rfl rfl rfl (by decide +kernel) ⟨Nat.le_of_ble_eq_true rfl, Nat.le_of_ble_eq_true rfl⟩) (pre_V (q := (RX7, TX7, 9)) (ci := 6) (q0 := 0) (hP.sub [0, 22] rfl) hK hN (hD.sub [0, 22] (by decide) rfl) rfl rfl) rfl rfl hl.1 rfl (lv_room (Nat.le_of_ble_eq_true rfl)) dL_law_138 ⟨Nat.le_of_ble_eq_true rfl, Nat.le_of_ble_eq_true rfl⟩) hP hD hS hA [0, 22] [1, 2, 3, 4, 5, 6, 7, 8, 9, 10, 11, 12, 13, 14, 15, 16, 17, 18, 19, 20, 21, 23, 24, 25, 26, 27, 28, 29, 30, 31, 32, 33, 34, 35, 36, 37, 38] rfl rfl (by decide) (by decide) (fun r_223 u H locs hw hP hD hS => ?_)
    have k_224 := hw
    obtain rfl : r_223 = 5 := k_224
    have hP : va_P D vwCl [(q_2, .inr (1, [.ref q_3, .ref q_4, .int 0, .int 0, .int 0])), (q_3, .inl (cB, 65536, .inl zf)), (q_4, .inl (cI, 1024, .inl zf)), (q_5, .inr (2, [.ref q_6, .ref q_7, .int 0])), (q_6, .inl (cI, 300, .inl zf)), (q_7, .inl (cI, 300, .inl zf)), (q_8, .inr (3, [.ref q_5, .ref q_9, .ref q_10, .ref q_11, .ref q_12, .ref q_13, .ref q_14, .ref q_15, .int 0, .int 0, .int 0, .int 0, .int 1, .int 0])), (q_9, .inl (cB, 65536, .inl zf)), (q_10, .inl (cI, 64, .inl zf)), (q_11, .inl (cZ, 64, .inl zf)), (q_12, .inl (cI, 64, .inl zf)), (q_13, .inl (cI, 64, .inl zf)), (q_14, .inl (cI, 64, .inl zf)), (q_15, .inl (cI, 64, .inl zf)), (q_16, .inr (0, [.ref q_8, .ref q_5, .ref q_17, .ref q_18, .ref q_19, .int 0])), (q_17, .inl (cZ, 64, .inl zf)), (q_18, .inl (cI, 64, .inl zf)), (q_19, .inl (cI, 300, .inl zf)), (q_20, .inr (5, [.ref q_2, .ref q_8, .ref q_5, .ref q_21, .int 0, .int 0])), (q_21, .inl (cB, 1600, .inl zf)), (q_22, .inr (4, [.ref q_2, .ref q_8, .ref q_5, .ref q_20])), (q_24, .inr (7, [.int 0, .int 0, .ref q_25, .ref q_26, .ref q_27, .ref q_28, .int 0, .int 0, .int 0, .int 1, .int 0, .int 0, .int 0, .int 0, .int 0, .int 0, .ref q_29, .ref q_30, .int 0, .ref q_31, .ref q_32, .ref q_33, .ref q_34, .int 0, .ref q_35, .int 0, .ref q_36, .ref q_37, .ref q_38, .ref q_39])), (q_25, .inl (cB, 65536, .inl zf)), (q_26, .inl (cB, 65536, .inl zf)), (q_27, .inl (cZ, 65536, .inl zf)), (q_28, .inl (cI, 64, .inl zf)), (q_29, .inl (cI, 300, .inl zf)), (q_30, .inl (cI, 300, .inl zf)), (q_31, .inl (cI, 128, .inl zf)), (q_32, .inl (cI, 128, .inl zf)), (q_33, .inl (cI, 128, .inl zf)), (q_34, .inl (cB, 100, .inl zf)), (q_35, .inl (cB, 4096, .inl zf)), (q_36, .inl (cI, 64, .inl zf)), (q_37, .inl (cB, 100, .inl zf)), (q_38, .inl (cZ, 64, .inl zf)), (q_39, .inl (cI, 300, .inl zf))] H := hP
    have hD : va_D A [(q_2, .inr (1, [.ref q_3, .ref q_4, .int 0, .int 0, .int 0])), (q_3, .inl (cB, 65536, .inl zf)), (q_4, .inl (cI, 1024, .inl zf)), (q_5, .inr (2, [.ref q_6, .ref q_7, .int 0])), (q_6, .inl (cI, 300, .inl zf)), (q_7, .inl (cI, 300, .inl zf)), (q_8, .inr (3, [.ref q_5, .ref q_9, .ref q_10, .ref q_11, .ref q_12, .ref q_13, .ref q_14, .ref q_15, .int 0, .int 0, .int 0, .int 0, .int 1, .int 0])), (q_9, .inl (cB, 65536, .inl zf)), (q_10, .inl (cI, 64, .inl zf)), (q_11, .inl (cZ, 64, .inl zf)), (q_12, .inl (cI, 64, .inl zf)), (q_13, .inl (cI, 64, .inl zf)), (q_14, .inl (cI, 64, .inl zf)), (q_15, .inl (cI, 64, .inl zf)), (q_16, .inr (0, [.ref q_8, .ref q_5, .ref q_17, .ref q_18, .ref q_19, .int 0])), (q_17, .inl (cZ, 64, .inl zf)), (q_18, .inl (cI, 64, .inl zf)), (q_19, .inl (cI, 300, .inl zf)), (q_20, .inr (5, [.ref q_2, .ref q_8, .ref q_5, .ref q_21, .int 0, .int 0])), (q_21, .inl (cB, 1600, .inl zf)), (q_22, .inr (4, [.ref q_2, .ref q_8, .ref q_5, .ref q_20])), (q_24, .inr (7, [.int 0, .int 0, .ref q_25, .ref q_26, .ref q_27, .ref q_28, .int 0, .int 0, .int 0, .int 1, .int 0, .int 0, .int 0, .int 0, .int 0, .int 0, .ref q_29, .ref q_30, .int 0, .ref q_31, .ref q_32, .ref q_33, .ref q_34, .int 0, .ref q_35, .int 0, .ref q_36, .ref q_37, .ref q_38, .ref q_39])), (q_25, .inl (cB, 65536, .inl zf)), (q_26, .inl (cB, 65536, .inl zf)), (q_27, .inl (cZ, 65536, .inl zf)), (q_28, .inl (cI, 64, .inl zf)), (q_29, .inl (cI, 300, .inl zf)), (q_30, .inl (cI, 300, .inl zf)), (q_31, .inl (cI, 128, .inl zf)), (q_32, .inl (cI, 128, .inl zf)), (q_33, .inl (cI, 128, .inl zf)), (q_34, .inl (cB, 100, .inl zf)), (q_35, .inl (cB, 4096, .inl zf)), (q_36, .inl (cI, 64, .inl zf)), (q_37, .inl (cB, 100, .inl zf)), (q_38, .inl (cZ, 64, .inl zf)), (q_39, .inl (cI, 300, .inl zf))] := hD
    refine lv_aload_n hx hb dL_law_141 rfl (lv_at hl 1 rfl) ?_
    refine lv_aload_n hx hb dL_law_142 rfl (lv_at hl 3 rfl) ?_
    refine lv_iload_n hx hb dL_law_143 rfl (lv_at hl 0 rfl) ?_
    refine lv_iconst (v := 1) hx hb dL_law_144 (by decide) ?_
    refine lv_iadd hx hb dL_law_145 ?_
    refine lv_topi (fun z_225 ez_225 => ?_)
    obtain rfl : z_225 = 1 := ez_225.trans (by decide)
    refine va_sld hx hb hX hbl hbA hS (ti_in (a := 1) (by decide) (by decide) (by decide)) dL_law_146 ?_
    refine lv_topi (fun z_226 ez_226 => ?_)
    obtain rfl : x1 = z_226 := ((ez_226.trans (congrArg xs (show Int32.toNatClampNeg 1 = 1 by decide))).trans ex1.symm).symm
    refine lv_i2l hx hb dL_law_147 rfl ?_
    refine lv_topl (fun y_227 _ => ?_)
    refine lv_bipush (v := 32) hx hb dL_law_148 (by decide) ?_
    refine lv_lshl hx hb dL_law_150 rfl ?_
    refine lv_topl (fun y_228 _ => ?_)
    refine lv_aload_n hx hb dL_law_151 rfl (lv_at hl 3 rfl) ?_
    refine lv_iload_n hx hb dL_law_152 rfl (lv_at hl 0 rfl) ?_
    refine lv_iconst (v := 2) hx hb dL_law_153 (by decide) ?_
    refine lv_iadd hx hb dL_law_154 ?_
    refine lv_topi (fun z_229 ez_229 => ?_)
    obtain rfl : z_229 = 2 := ez_229.trans (by decide)
    refine va_sld hx hb hX hbl hbA hS (ti_in (a := 2) (by decide) (by decide) (by decide)) dL_law_155 ?_
    refine lv_topi (fun z_230 ez_230 => ?_)
    obtain rfl : x2 = z_230 := ((ez_230.trans (congrArg xs (show Int32.toNatClampNeg 2 = 2 by decide))).trans ex2.symm).symm
    refine lv_i2l hx hb dL_law_156 rfl ?_
    refine lv_topl (fun y_231 _ => ?_)
    refine lv_ldc2 (v := 4294967295) hx hb hown (hts _ wdL_law_10) dL_law_157 ?_
    refine lv_topl (fun y_232 _ => ?_)
    refine lv_land hx hb dL_law_160 ?_
    refine lv_topl (fun y_233 _ => ?_)
    refine lv_lor hx hb dL_law_161 ?_
    refine lv_topl (fun y_234 _ => ?_)
    refine lv_aload_n hx hb dL_law_162 rfl (lv_at hl 3 rfl) ?_
    refine lv_iload_n hx hb dL_law_163 rfl (lv_at hl 0 rfl) ?_
    refine lv_iconst (v := 3) hx hb dL_law_164 (by decide) ?_
    refine lv_iadd hx hb dL_law_165 ?_
    refine lv_topi (fun z_235 ez_235 => ?_)
    obtain rfl : z_235 = 3 := ez_235.trans (by decide)
    refine va_sld hx hb hX hbl hbA hS (ti_in (a := 3) (by decide) (by decide) (by decide)) dL_law_166 ?_
    refine lv_topi (fun z_236 ez_236 => ?_)
    obtain rfl : z_236 = 5 := (ez_236.trans (congrArg xs (show Int32.toNatClampNeg 3 = 3 by decide))).trans ex3.symm
    refine kc_i (wr := [(q_2, .inr (1, [.ref q_3, .ref q_4, .int 0, .int 0, .int 0])), (q_3, .inl (cB, 65536, .inl zf)), (q_4, .inl (cI, 1024, .inl zf)), (q_5, .inr (2, [.ref q_6, .ref q_7, .int 0])), (q_6, .inl (cI, 300, .inl zf)), (q_7, .inl (cI, 300, .inl zf)), (q_8, .inr (3, [.ref q_5, .ref q_9, .ref q_10, .ref q_11, .ref q_12, .ref q_13, .ref q_14, .ref q_15, .int 0, .int 0, .int 0, .int 0, .int 1, .int 0])), (q_9, .inl (cB, 65536, .inl zf)), (q_10, .inl (cI, 64, .inl zf)), (q_11, .inl (cZ, 64, .inl zf)), (q_12, .inl (cI, 64, .inl zf)), (q_13, .inl (cI, 64, .inl zf)), (q_14, .inl (cI, 64, .inl zf)), (q_15, .inl (cI, 64, .inl zf)), (q_16, .inr (0, [.ref q_8, .ref q_5, .ref q_17, .ref q_18, .ref q_19, .int 0])), (q_17, .inl (cZ, 64, .inl zf)), (q_18, .inl (cI, 64, .inl zf)), (q_19, .inl (cI, 300, .inl zf)), (q_20, .inr (5, [.ref q_2, .ref q_8, .ref q_5, .ref q_21, .int 0, .int 0])), (q_21, .inl (cB, 1600, .inl zf)), (q_22, .inr (4, [.ref q_2, .ref q_8, .ref q_5, .ref q_20])), (q_25, .inl (cB, 65536, .inl zf)), (q_26, .inl (cB, 65536, .inl zf)), (q_27, .inl (cZ, 65536, .inl zf)), (q_28, .inl (cI, 64, .inl zf)), (q_29, .inl (cI, 300, .inl zf)), (q_30, .inl (cI, 300, .inl zf)), (q_31, .inl (cI, 128, .inl zf)), (q_32, .inl (cI, 128, .inl zf)), (q_33, .inl (cI, 128, .inl zf)), (q_35, .inl (cB, 4096, .inl zf)), (q_36, .inl (cI, 64, .inl zf)), (q_37, .inl (cB, 100, .inl zf)), (q_38, .inl (cZ, 64, .inl zf)), (q_39, .inl (cI, 300, .inl zf))]) (va_runV (As := [.long y_234, .int 5]) (rest := [.int 5]) ⟨hx, hb, hml, hown, hts⟩ (K31_X8_feed l D cB cI cZ _ q_24 q_34 y_234 ((.int 0)) ((.int 0)) ((.ref q_25)) ((.ref q_26)) ((.ref q_27)) ((.ref q_28)) ((.int 0)) ((.int 0)) ((.int 0)) ((.int 1)) ((.int 0)) ((.int 0)) ((.int 0)) ((.int 0)) ((.int 0)) ((.int 0)) ((.ref q_29)) ((.ref q_30)) ((.int 0)) ((.ref q_31)) ((.ref q_32)) ((.ref q_33)) ((.ref q_35)) ((.int 0)) ((.ref q_36)) ((.ref q_37)) ((.ref q_38)) ((.ref q_39))) (cwV 2 hts gL_law_X8_feed rfl rfl rfl (by decide +kernel) ⟨Nat.le_of_ble_eq_true rfl, Nat.le_of_ble_eq_true rfl⟩) (pre_V (q := (RX8, TX8, 30)) (ci := 7) (q0 := 0) (hP.sub [21, 31] rfl) hK hN (hD.sub [21, 31] (by decide) rfl) rfl rfl) rfl rfl hl.1 rfl (lv_room (Nat.le_of_ble_eq_true rfl)) dL_law_167 ⟨Nat.le_of_ble_eq_true rfl, Nat.le_of_ble_eq_true rfl⟩) hP hD hS hA [21, 31] [0, 1, 2, 3, 4, 5, 6, 7, 8, 9, 10, 11, 12, 13, 14, 15, 16, 17, 18, 19, 20, 22, 23, 24, 25, 26, 27, 28, 29, 30, 32, 33, 34, 35, 36] rfl rfl (by decide) (by decide) (fun r_237 u H locs hw hP hD hS => ?_)
    have k_238 := hw
    obtain rfl : r_237 = 5 := k_238
    have hP : va_P D vwCl [(q_2, .inr (1, [.ref q_3, .ref q_4, .int 0, .int 0, .int 0])), (q_3, .inl (cB, 65536, .inl zf)), (q_4, .inl (cI, 1024, .inl zf)), (q_5, .inr (2, [.ref q_6, .ref q_7, .int 0])), (q_6, .inl (cI, 300, .inl zf)), (q_7, .inl (cI, 300, .inl zf)), (q_8, .inr (3, [.ref q_5, .ref q_9, .ref q_10, .ref q_11, .ref q_12, .ref q_13, .ref q_14, .ref q_15, .int 0, .int 0, .int 0, .int 0, .int 1, .int 0])), (q_9, .inl (cB, 65536, .inl zf)), (q_10, .inl (cI, 64, .inl zf)), (q_11, .inl (cZ, 64, .inl zf)), (q_12, .inl (cI, 64, .inl zf)), (q_13, .inl (cI, 64, .inl zf)), (q_14, .inl (cI, 64, .inl zf)), (q_15, .inl (cI, 64, .inl zf)), (q_16, .inr (0, [.ref q_8, .ref q_5, .ref q_17, .ref q_18, .ref q_19, .int 0])), (q_17, .inl (cZ, 64, .inl zf)), (q_18, .inl (cI, 64, .inl zf)), (q_19, .inl (cI, 300, .inl zf)), (q_20, .inr (5, [.ref q_2, .ref q_8, .ref q_5, .ref q_21, .int 0, .int 0])), (q_21, .inl (cB, 1600, .inl zf)), (q_22, .inr (4, [.ref q_2, .ref q_8, .ref q_5, .ref q_20])), (q_25, .inl (cB, 65536, .inl zf)), (q_26, .inl (cB, 65536, .inl zf)), (q_27, .inl (cZ, 65536, .inl zf)), (q_28, .inl (cI, 64, .inl zf)), (q_29, .inl (cI, 300, .inl zf)), (q_30, .inl (cI, 300, .inl zf)), (q_31, .inl (cI, 128, .inl zf)), (q_32, .inl (cI, 128, .inl zf)), (q_33, .inl (cI, 128, .inl zf)), (q_35, .inl (cB, 4096, .inl zf)), (q_36, .inl (cI, 64, .inl zf)), (q_37, .inl (cB, 100, .inl zf)), (q_38, .inl (cZ, 64, .inl zf)), (q_39, .inl (cI, 300, .inl zf))] H := hP
    have hD : va_D A [(q_2, .inr (1, [.ref q_3, .ref q_4, .int 0, .int 0, .int 0])), (q_3, .inl (cB, 65536, .inl zf)), (q_4, .inl (cI, 1024, .inl zf)), (q_5, .inr (2, [.ref q_6, .ref q_7, .int 0])), (q_6, .inl (cI, 300, .inl zf)), (q_7, .inl (cI, 300, .inl zf)), (q_8, .inr (3, [.ref q_5, .ref q_9, .ref q_10, .ref q_11, .ref q_12, .ref q_13, .ref q_14, .ref q_15, .int 0, .int 0, .int 0, .int 0, .int 1, .int 0])), (q_9, .inl (cB, 65536, .inl zf)), (q_10, .inl (cI, 64, .inl zf)), (q_11, .inl (cZ, 64, .inl zf)), (q_12, .inl (cI, 64, .inl zf)), (q_13, .inl (cI, 64, .inl zf)), (q_14, .inl (cI, 64, .inl zf)), (q_15, .inl (cI, 64, .inl zf)), (q_16, .inr (0, [.ref q_8, .ref q_5, .ref q_17, .ref q_18, .ref q_19, .int 0])), (q_17, .inl (cZ, 64, .inl zf)), (q_18, .inl (cI, 64, .inl zf)), (q_19, .inl (cI, 300, .inl zf)), (q_20, .inr (5, [.ref q_2, .ref q_8, .ref q_5, .ref q_21, .int 0, .int 0])), (q_21, .inl (cB, 1600, .inl zf)), (q_22, .inr (4, [.ref q_2, .ref q_8, .ref q_5, .ref q_20])), (q_25, .inl (cB, 65536, .inl zf)), (q_26, .inl (cB, 65536, .inl zf)), (q_27, .inl (cZ, 65536, .inl zf)), (q_28, .inl (cI, 64, .inl zf)), (q_29, .inl (cI, 300, .inl zf)), (q_30, .inl (cI, 300, .inl zf)), (q_31, .inl (cI, 128, .inl zf)), (q_32, .inl (cI, 128, .inl zf)), (q_33, .inl (cI, 128, .inl zf)), (q_35, .inl (cB, 4096, .inl zf)), (q_36, .inl (cI, 64, .inl zf)), (q_37, .inl (cB, 100, .inl zf)), (q_38, .inl (cZ, 64, .inl zf)), (q_39, .inl (cI, 300, .inl zf))] := hD
    refine lv_icmp_eq (tgt := 560) hx hb dL_law_170 (by decide) (fun c => ?_) (fun c => absurd (by decide) c)
    refine lv_iinc (v := 4) (lv' := [(3, .int 4), (2, .ref q_24), (1, .ref q_1), (0, .ref b)]) hx hb dL_law_560 hl (k := 0) rfl (by decide) (by decide) rfl (fun ls hl => ?_)
    refine lv_goto (tgt := 18) hx hb dL_law_563 (by decide) ?_
    refine lv_iload_n hx hb dL_law_18 rfl (lv_at hl 0 rfl) ?_
    refine lv_aload_n hx hb dL_law_19 rfl (lv_at hl 3 rfl) ?_
    refine va_slen hx hb hX hbl hbA hS dL_law_20 ?_
    refine lv_topi (fun z_239 ez_239 => ?_)
    obtain rfl : z_239 = 4 := ez_239.trans (by decide)
    refine lv_iconst (v := 4) hx hb dL_law_21 (by decide) ?_
    refine lv_isub hx hb dL_law_22 ?_
    refine lv_topi (fun z_240 ez_240 => ?_)
    obtain rfl : z_240 = 0 := ez_240.trans (by decide)
    refine lv_icmp_gt (tgt := 566) hx hb dL_law_23 (by decide) (fun c => ?_) (fun c => absurd (by decide) c)
    refine lv_iconst (v := 1) hx hb dL_law_566 (by decide) ?_
    refine va_forget (fun q hq => by have h9 := hS.2.2 q hq; rw [hAe] at h9; exact h9) ?_
    refine W.widen (k := 600000) (n := 7302250) (Nat.le_of_ble_eq_true rfl) (Nat.le_of_ble_eq_true rfl) ?_
    exact lw_ret hx hb hr hlocks dL_law_567
  · skip
    obtain rfl : x3 = 6 := ti_inj (a := 6) (by decide) hsp
    refine lv_aload_n hx hb dL_law_112 rfl (lv_at hl 2 rfl) ?_
    refine lv_aload_n hx hb dL_law_113 rfl (lv_at hl 3 rfl) ?_
    refine lv_iload_n hx hb dL_law_114 rfl (lv_at hl 0 rfl) ?_
    refine lv_iconst (v := 1) hx hb dL_law_115 (by decide) ?_
    refine lv_iadd hx hb dL_law_116 ?_
    refine lv_topi (fun z_241 ez_241 => ?_)
    obtain rfl : z_241 = 1 := ez_241.trans (by decide)
    refine va_sld hx hb hX hbl hbA hS (ti_in (a := 1) (by decide) (by decide) (by decide)) dL_law_117 ?_
    refine lv_topi (fun z_242 ez_242 => ?_)
    obtain rfl : x1 = z_242 := ((ez_242.trans (congrArg xs (show Int32.toNatClampNeg 1 = 1 by decide))).trans ex1.symm).symm
    refine lv_i2l hx hb dL_law_118 rfl ?_
    refine lv_topl (fun y_243 _ => ?_)
    refine lv_bipush (v := 32) hx hb dL_law_119 (by decide) ?_
    refine lv_lshl hx hb dL_law_121 rfl ?_
    refine lv_topl (fun y_244 _ => ?_)
    refine lv_aload_n hx hb dL_law_122 rfl (lv_at hl 3 rfl) ?_
    refine lv_iload_n hx hb dL_law_123 rfl (lv_at hl 0 rfl) ?_
    refine lv_iconst (v := 2) hx hb dL_law_124 (by decide) ?_
    refine lv_iadd hx hb dL_law_125 ?_
    refine lv_topi (fun z_245 ez_245 => ?_)
    obtain rfl : z_245 = 2 := ez_245.trans (by decide)
    refine va_sld hx hb hX hbl hbA hS (ti_in (a := 2) (by decide) (by decide) (by decide)) dL_law_126 ?_
    refine lv_topi (fun z_246 ez_246 => ?_)
    obtain rfl : x2 = z_246 := ((ez_246.trans (congrArg xs (show Int32.toNatClampNeg 2 = 2 by decide))).trans ex2.symm).symm
    refine lv_i2l hx hb dL_law_127 rfl ?_
    refine lv_topl (fun y_247 _ => ?_)
    refine lv_ldc2 (v := 4294967295) hx hb hown (hts _ wdL_law_10) dL_law_128 ?_
    refine lv_topl (fun y_248 _ => ?_)
    refine lv_land hx hb dL_law_131 ?_
    refine lv_topl (fun y_249 _ => ?_)
    refine lv_lor hx hb dL_law_132 ?_
    refine lv_topl (fun y_250 _ => ?_)
    refine lv_aload_n hx hb dL_law_133 rfl (lv_at hl 3 rfl) ?_
    refine lv_iload_n hx hb dL_law_134 rfl (lv_at hl 0 rfl) ?_
    refine lv_iconst (v := 3) hx hb dL_law_135 (by decide) ?_
    refine lv_iadd hx hb dL_law_136 ?_
    refine lv_topi (fun z_251 ez_251 => ?_)
    obtain rfl : z_251 = 3 := ez_251.trans (by decide)
    refine va_sld hx hb hX hbl hbA hS (ti_in (a := 3) (by decide) (by decide) (by decide)) dL_law_137 ?_
    refine lv_topi (fun z_252 ez_252 => ?_)
    obtain rfl : z_252 = 6 := (ez_252.trans (congrArg xs (show Int32.toNatClampNeg 3 = 3 by decide))).trans ex3.symm
    refine kc_i (wr := [(q_2, .inr (1, [.ref q_3, .ref q_4, .int 0, .int 0, .int 0])), (q_3, .inl (cB, 65536, .inl zf)), (q_4, .inl (cI, 1024, .inl zf)), (q_5, .inr (2, [.ref q_6, .ref q_7, .int 0])), (q_6, .inl (cI, 300, .inl zf)), (q_7, .inl (cI, 300, .inl zf)), (q_8, .inr (3, [.ref q_5, .ref q_9, .ref q_10, .ref q_11, .ref q_12, .ref q_13, .ref q_14, .ref q_15, .int 0, .int 0, .int 0, .int 0, .int 1, .int 0])), (q_9, .inl (cB, 65536, .inl zf)), (q_10, .inl (cI, 64, .inl zf)), (q_11, .inl (cZ, 64, .inl zf)), (q_12, .inl (cI, 64, .inl zf)), (q_13, .inl (cI, 64, .inl zf)), (q_14, .inl (cI, 64, .inl zf)), (q_15, .inl (cI, 64, .inl zf)), (q_16, .inr (0, [.ref q_8, .ref q_5, .ref q_17, .ref q_18, .ref q_19, .int 0])), (q_17, .inl (cZ, 64, .inl zf)), (q_18, .inl (cI, 64, .inl zf)), (q_19, .inl (cI, 300, .inl zf)), (q_20, .inr (5, [.ref q_2, .ref q_8, .ref q_5, .ref q_21, .int 0, .int 0])), (q_21, .inl (cB, 1600, .inl zf)), (q_22, .inr (4, [.ref q_2, .ref q_8, .ref q_5, .ref q_20])), (q_24, .inr (7, [.int 0, .int 0, .ref q_25, .ref q_26, .ref q_27, .ref q_28, .int 0, .int 0, .int 0, .int 1, .int 0, .int 0, .int 0, .int 0, .int 0, .int 0, .ref q_29, .ref q_30, .int 0, .ref q_31, .ref q_32, .ref q_33, .ref q_34, .int 0, .ref q_35, .int 0, .ref q_36, .ref q_37, .ref q_38, .ref q_39])), (q_25, .inl (cB, 65536, .inl zf)), (q_26, .inl (cB, 65536, .inl zf)), (q_27, .inl (cZ, 65536, .inl zf)), (q_28, .inl (cI, 64, .inl zf)), (q_29, .inl (cI, 300, .inl zf)), (q_30, .inl (cI, 300, .inl zf)), (q_31, .inl (cI, 128, .inl zf)), (q_32, .inl (cI, 128, .inl zf)), (q_33, .inl (cI, 128, .inl zf)), (q_34, .inl (cB, 100, .inl zf)), (q_35, .inl (cB, 4096, .inl zf)), (q_36, .inl (cI, 64, .inl zf)), (q_37, .inl (cB, 100, .inl zf)), (q_38, .inl (cZ, 64, .inl zf)), (q_39, .inl (cI, 300, .inl zf))]) (va_runV (As := [.long y_250, .int 6]) (rest := []) ⟨hx, hb, hml, hown, hts⟩ (K33_X7_feed l D cB cI cZ _ q_1 q_23 y_250 ((.ref q_2)) ((.ref q_5)) ((.ref q_8)) ((.ref q_16)) ((.ref q_20)) ((.ref q_22)) ((.int 0))) (cwV 2 hts gL_law_X7_feed rfl rfl rfl (by decide +kernel) ⟨Nat.le_of_ble_eq_true rfl, Nat.le_of_ble_eq_true rfl⟩) (pre_V (q := (RX7, TX7, 9)) (ci := 6) (q0 := 0) (hP.sub [0, 22] rfl) hK hN (hD.sub [0, 22] (by decide) rfl) rfl rfl) rfl rfl hl.1 rfl (lv_room (Nat.le_of_ble_eq_true rfl)) dL_law_138 ⟨Nat.le_of_ble_eq_true rfl, Nat.le_of_ble_eq_true rfl⟩) hP hD hS hA [0, 22] [1, 2, 3, 4, 5, 6, 7, 8, 9, 10, 11, 12, 13, 14, 15, 16, 17, 18, 19, 20, 21, 23, 24, 25, 26, 27, 28, 29, 30, 31, 32, 33, 34, 35, 36, 37, 38] rfl rfl (by decide) (by decide) (fun r_253 u H locs hw hP hD hS => ?_)
    have k_254 := hw
    obtain rfl : r_253 = 6 := k_254
    have hP : va_P D vwCl [(q_2, .inr (1, [.ref q_3, .ref q_4, .int 0, .int 0, .int 0])), (q_3, .inl (cB, 65536, .inl zf)), (q_4, .inl (cI, 1024, .inl zf)), (q_5, .inr (2, [.ref q_6, .ref q_7, .int 0])), (q_6, .inl (cI, 300, .inl zf)), (q_7, .inl (cI, 300, .inl zf)), (q_8, .inr (3, [.ref q_5, .ref q_9, .ref q_10, .ref q_11, .ref q_12, .ref q_13, .ref q_14, .ref q_15, .int 0, .int 0, .int 0, .int 0, .int 1, .int 0])), (q_9, .inl (cB, 65536, .inl zf)), (q_10, .inl (cI, 64, .inl zf)), (q_11, .inl (cZ, 64, .inl zf)), (q_12, .inl (cI, 64, .inl zf)), (q_13, .inl (cI, 64, .inl zf)), (q_14, .inl (cI, 64, .inl zf)), (q_15, .inl (cI, 64, .inl zf)), (q_16, .inr (0, [.ref q_8, .ref q_5, .ref q_17, .ref q_18, .ref q_19, .int 0])), (q_17, .inl (cZ, 64, .inl zf)), (q_18, .inl (cI, 64, .inl zf)), (q_19, .inl (cI, 300, .inl zf)), (q_20, .inr (5, [.ref q_2, .ref q_8, .ref q_5, .ref q_21, .int 0, .int 0])), (q_21, .inl (cB, 1600, .inl zf)), (q_22, .inr (4, [.ref q_2, .ref q_8, .ref q_5, .ref q_20])), (q_24, .inr (7, [.int 0, .int 0, .ref q_25, .ref q_26, .ref q_27, .ref q_28, .int 0, .int 0, .int 0, .int 1, .int 0, .int 0, .int 0, .int 0, .int 0, .int 0, .ref q_29, .ref q_30, .int 0, .ref q_31, .ref q_32, .ref q_33, .ref q_34, .int 0, .ref q_35, .int 0, .ref q_36, .ref q_37, .ref q_38, .ref q_39])), (q_25, .inl (cB, 65536, .inl zf)), (q_26, .inl (cB, 65536, .inl zf)), (q_27, .inl (cZ, 65536, .inl zf)), (q_28, .inl (cI, 64, .inl zf)), (q_29, .inl (cI, 300, .inl zf)), (q_30, .inl (cI, 300, .inl zf)), (q_31, .inl (cI, 128, .inl zf)), (q_32, .inl (cI, 128, .inl zf)), (q_33, .inl (cI, 128, .inl zf)), (q_34, .inl (cB, 100, .inl zf)), (q_35, .inl (cB, 4096, .inl zf)), (q_36, .inl (cI, 64, .inl zf)), (q_37, .inl (cB, 100, .inl zf)), (q_38, .inl (cZ, 64, .inl zf)), (q_39, .inl (cI, 300, .inl zf))] H := hP
    have hD : va_D A [(q_2, .inr (1, [.ref q_3, .ref q_4, .int 0, .int 0, .int 0])), (q_3, .inl (cB, 65536, .inl zf)), (q_4, .inl (cI, 1024, .inl zf)), (q_5, .inr (2, [.ref q_6, .ref q_7, .int 0])), (q_6, .inl (cI, 300, .inl zf)), (q_7, .inl (cI, 300, .inl zf)), (q_8, .inr (3, [.ref q_5, .ref q_9, .ref q_10, .ref q_11, .ref q_12, .ref q_13, .ref q_14, .ref q_15, .int 0, .int 0, .int 0, .int 0, .int 1, .int 0])), (q_9, .inl (cB, 65536, .inl zf)), (q_10, .inl (cI, 64, .inl zf)), (q_11, .inl (cZ, 64, .inl zf)), (q_12, .inl (cI, 64, .inl zf)), (q_13, .inl (cI, 64, .inl zf)), (q_14, .inl (cI, 64, .inl zf)), (q_15, .inl (cI, 64, .inl zf)), (q_16, .inr (0, [.ref q_8, .ref q_5, .ref q_17, .ref q_18, .ref q_19, .int 0])), (q_17, .inl (cZ, 64, .inl zf)), (q_18, .inl (cI, 64, .inl zf)), (q_19, .inl (cI, 300, .inl zf)), (q_20, .inr (5, [.ref q_2, .ref q_8, .ref q_5, .ref q_21, .int 0, .int 0])), (q_21, .inl (cB, 1600, .inl zf)), (q_22, .inr (4, [.ref q_2, .ref q_8, .ref q_5, .ref q_20])), (q_24, .inr (7, [.int 0, .int 0, .ref q_25, .ref q_26, .ref q_27, .ref q_28, .int 0, .int 0, .int 0, .int 1, .int 0, .int 0, .int 0, .int 0, .int 0, .int 0, .ref q_29, .ref q_30, .int 0, .ref q_31, .ref q_32, .ref q_33, .ref q_34, .int 0, .ref q_35, .int 0, .ref q_36, .ref q_37, .ref q_38, .ref q_39])), (q_25, .inl (cB, 65536, .inl zf)), (q_26, .inl (cB, 65536, .inl zf)), (q_27, .inl (cZ, 65536, .inl zf)), (q_28, .inl (cI, 64, .inl zf)), (q_29, .inl (cI, 300, .inl zf)), (q_30, .inl (cI, 300, .inl zf)), (q_31, .inl (cI, 128, .inl zf)), (q_32, .inl (cI, 128, .inl zf)), (q_33, .inl (cI, 128, .inl zf)), (q_34, .inl (cB, 100, .inl zf)), (q_35, .inl (cB, 4096, .inl zf)), (q_36, .inl (cI, 64, .inl zf)), (q_37, .inl (cB, 100, .inl zf)), (q_38, .inl (cZ, 64, .inl zf)), (q_39, .inl (cI, 300, .inl zf))] := hD
    refine lv_aload_n hx hb dL_law_141 rfl (lv_at hl 1 rfl) ?_
    refine lv_aload_n hx hb dL_law_142 rfl (lv_at hl 3 rfl) ?_
    refine lv_iload_n hx hb dL_law_143 rfl (lv_at hl 0 rfl) ?_
    refine lv_iconst (v := 1) hx hb dL_law_144 (by decide) ?_
    refine lv_iadd hx hb dL_law_145 ?_
    refine lv_topi (fun z_255 ez_255 => ?_)
    obtain rfl : z_255 = 1 := ez_255.trans (by decide)
    refine va_sld hx hb hX hbl hbA hS (ti_in (a := 1) (by decide) (by decide) (by decide)) dL_law_146 ?_
    refine lv_topi (fun z_256 ez_256 => ?_)
    obtain rfl : x1 = z_256 := ((ez_256.trans (congrArg xs (show Int32.toNatClampNeg 1 = 1 by decide))).trans ex1.symm).symm
    refine lv_i2l hx hb dL_law_147 rfl ?_
    refine lv_topl (fun y_257 _ => ?_)
    refine lv_bipush (v := 32) hx hb dL_law_148 (by decide) ?_
    refine lv_lshl hx hb dL_law_150 rfl ?_
    refine lv_topl (fun y_258 _ => ?_)
    refine lv_aload_n hx hb dL_law_151 rfl (lv_at hl 3 rfl) ?_
    refine lv_iload_n hx hb dL_law_152 rfl (lv_at hl 0 rfl) ?_
    refine lv_iconst (v := 2) hx hb dL_law_153 (by decide) ?_
    refine lv_iadd hx hb dL_law_154 ?_
    refine lv_topi (fun z_259 ez_259 => ?_)
    obtain rfl : z_259 = 2 := ez_259.trans (by decide)
    refine va_sld hx hb hX hbl hbA hS (ti_in (a := 2) (by decide) (by decide) (by decide)) dL_law_155 ?_
    refine lv_topi (fun z_260 ez_260 => ?_)
    obtain rfl : x2 = z_260 := ((ez_260.trans (congrArg xs (show Int32.toNatClampNeg 2 = 2 by decide))).trans ex2.symm).symm
    refine lv_i2l hx hb dL_law_156 rfl ?_
    refine lv_topl (fun y_261 _ => ?_)
    refine lv_ldc2 (v := 4294967295) hx hb hown (hts _ wdL_law_10) dL_law_157 ?_
    refine lv_topl (fun y_262 _ => ?_)
    refine lv_land hx hb dL_law_160 ?_
    refine lv_topl (fun y_263 _ => ?_)
    refine lv_lor hx hb dL_law_161 ?_
    refine lv_topl (fun y_264 _ => ?_)
    refine lv_aload_n hx hb dL_law_162 rfl (lv_at hl 3 rfl) ?_
    refine lv_iload_n hx hb dL_law_163 rfl (lv_at hl 0 rfl) ?_
    refine lv_iconst (v := 3) hx hb dL_law_164 (by decide) ?_
    refine lv_iadd hx hb dL_law_165 ?_
    refine lv_topi (fun z_265 ez_265 => ?_)
    obtain rfl : z_265 = 3 := ez_265.trans (by decide)
    refine va_sld hx hb hX hbl hbA hS (ti_in (a := 3) (by decide) (by decide) (by decide)) dL_law_166 ?_
    refine lv_topi (fun z_266 ez_266 => ?_)
    obtain rfl : z_266 = 6 := (ez_266.trans (congrArg xs (show Int32.toNatClampNeg 3 = 3 by decide))).trans ex3.symm
    refine kc_i (wr := [(q_2, .inr (1, [.ref q_3, .ref q_4, .int 0, .int 0, .int 0])), (q_3, .inl (cB, 65536, .inl zf)), (q_4, .inl (cI, 1024, .inl zf)), (q_5, .inr (2, [.ref q_6, .ref q_7, .int 0])), (q_6, .inl (cI, 300, .inl zf)), (q_7, .inl (cI, 300, .inl zf)), (q_8, .inr (3, [.ref q_5, .ref q_9, .ref q_10, .ref q_11, .ref q_12, .ref q_13, .ref q_14, .ref q_15, .int 0, .int 0, .int 0, .int 0, .int 1, .int 0])), (q_9, .inl (cB, 65536, .inl zf)), (q_10, .inl (cI, 64, .inl zf)), (q_11, .inl (cZ, 64, .inl zf)), (q_12, .inl (cI, 64, .inl zf)), (q_13, .inl (cI, 64, .inl zf)), (q_14, .inl (cI, 64, .inl zf)), (q_15, .inl (cI, 64, .inl zf)), (q_16, .inr (0, [.ref q_8, .ref q_5, .ref q_17, .ref q_18, .ref q_19, .int 0])), (q_17, .inl (cZ, 64, .inl zf)), (q_18, .inl (cI, 64, .inl zf)), (q_19, .inl (cI, 300, .inl zf)), (q_20, .inr (5, [.ref q_2, .ref q_8, .ref q_5, .ref q_21, .int 0, .int 0])), (q_21, .inl (cB, 1600, .inl zf)), (q_22, .inr (4, [.ref q_2, .ref q_8, .ref q_5, .ref q_20])), (q_25, .inl (cB, 65536, .inl zf)), (q_26, .inl (cB, 65536, .inl zf)), (q_27, .inl (cZ, 65536, .inl zf)), (q_28, .inl (cI, 64, .inl zf)), (q_29, .inl (cI, 300, .inl zf)), (q_30, .inl (cI, 300, .inl zf)), (q_31, .inl (cI, 128, .inl zf)), (q_32, .inl (cI, 128, .inl zf)), (q_33, .inl (cI, 128, .inl zf)), (q_35, .inl (cB, 4096, .inl zf)), (q_36, .inl (cI, 64, .inl zf)), (q_37, .inl (cB, 100, .inl zf)), (q_38, .inl (cZ, 64, .inl zf)), (q_39, .inl (cI, 300, .inl zf))]) (va_runV (As := [.long y_264, .int 6]) (rest := [.int 6]) ⟨hx, hb, hml, hown, hts⟩ (K34_X8_feed l D cB cI cZ _ q_24 q_34 y_264 ((.int 0)) ((.int 0)) ((.ref q_25)) ((.ref q_26)) ((.ref q_27)) ((.ref q_28)) ((.int 0)) ((.int 0)) ((.int 0)) ((.int 1)) ((.int 0)) ((.int 0)) ((.int 0)) ((.int 0)) ((.int 0)) ((.int 0)) ((.ref q_29)) ((.ref q_30)) ((.int 0)) ((.ref q_31)) ((.ref q_32)) ((.ref q_33)) ((.ref q_35)) ((.int 0)) ((.ref q_36)) ((.ref q_37)) ((.ref q_38)) ((.ref q_39))) (cwV 2 hts gL_law_X8_feed rfl rfl rfl (by decide +kernel) ⟨Nat.le_of_ble_eq_true rfl, Nat.le_of_ble_eq_true rfl⟩) (pre_V (q := (RX8, TX8, 30)) (ci := 7) (q0 := 0) (hP.sub [21, 31] rfl) hK hN (hD.sub [21, 31] (by decide) rfl) rfl rfl) rfl rfl hl.1 rfl (lv_room (Nat.le_of_ble_eq_true rfl)) dL_law_167 ⟨Nat.le_of_ble_eq_true rfl, Nat.le_of_ble_eq_true rfl⟩) hP hD hS hA [21, 31] [0, 1, 2, 3, 4, 5, 6, 7, 8, 9, 10, 11, 12, 13, 14, 15, 16, 17, 18, 19, 20, 22, 23, 24, 25, 26, 27, 28, 29, 30, 32, 33, 34, 35, 36] rfl rfl (by decide) (by decide) (fun r_267 u H locs hw hP hD hS => ?_)
    have k_268 := hw
    obtain rfl : r_267 = 6 := k_268
    have hP : va_P D vwCl [(q_2, .inr (1, [.ref q_3, .ref q_4, .int 0, .int 0, .int 0])), (q_3, .inl (cB, 65536, .inl zf)), (q_4, .inl (cI, 1024, .inl zf)), (q_5, .inr (2, [.ref q_6, .ref q_7, .int 0])), (q_6, .inl (cI, 300, .inl zf)), (q_7, .inl (cI, 300, .inl zf)), (q_8, .inr (3, [.ref q_5, .ref q_9, .ref q_10, .ref q_11, .ref q_12, .ref q_13, .ref q_14, .ref q_15, .int 0, .int 0, .int 0, .int 0, .int 1, .int 0])), (q_9, .inl (cB, 65536, .inl zf)), (q_10, .inl (cI, 64, .inl zf)), (q_11, .inl (cZ, 64, .inl zf)), (q_12, .inl (cI, 64, .inl zf)), (q_13, .inl (cI, 64, .inl zf)), (q_14, .inl (cI, 64, .inl zf)), (q_15, .inl (cI, 64, .inl zf)), (q_16, .inr (0, [.ref q_8, .ref q_5, .ref q_17, .ref q_18, .ref q_19, .int 0])), (q_17, .inl (cZ, 64, .inl zf)), (q_18, .inl (cI, 64, .inl zf)), (q_19, .inl (cI, 300, .inl zf)), (q_20, .inr (5, [.ref q_2, .ref q_8, .ref q_5, .ref q_21, .int 0, .int 0])), (q_21, .inl (cB, 1600, .inl zf)), (q_22, .inr (4, [.ref q_2, .ref q_8, .ref q_5, .ref q_20])), (q_25, .inl (cB, 65536, .inl zf)), (q_26, .inl (cB, 65536, .inl zf)), (q_27, .inl (cZ, 65536, .inl zf)), (q_28, .inl (cI, 64, .inl zf)), (q_29, .inl (cI, 300, .inl zf)), (q_30, .inl (cI, 300, .inl zf)), (q_31, .inl (cI, 128, .inl zf)), (q_32, .inl (cI, 128, .inl zf)), (q_33, .inl (cI, 128, .inl zf)), (q_35, .inl (cB, 4096, .inl zf)), (q_36, .inl (cI, 64, .inl zf)), (q_37, .inl (cB, 100, .inl zf)), (q_38, .inl (cZ, 64, .inl zf)), (q_39, .inl (cI, 300, .inl zf))] H := hP
    have hD : va_D A [(q_2, .inr (1, [.ref q_3, .ref q_4, .int 0, .int 0, .int 0])), (q_3, .inl (cB, 65536, .inl zf)), (q_4, .inl (cI, 1024, .inl zf)), (q_5, .inr (2, [.ref q_6, .ref q_7, .int 0])), (q_6, .inl (cI, 300, .inl zf)), (q_7, .inl (cI, 300, .inl zf)), (q_8, .inr (3, [.ref q_5, .ref q_9, .ref q_10, .ref q_11, .ref q_12, .ref q_13, .ref q_14, .ref q_15, .int 0, .int 0, .int 0, .int 0, .int 1, .int 0])), (q_9, .inl (cB, 65536, .inl zf)), (q_10, .inl (cI, 64, .inl zf)), (q_11, .inl (cZ, 64, .inl zf)), (q_12, .inl (cI, 64, .inl zf)), (q_13, .inl (cI, 64, .inl zf)), (q_14, .inl (cI, 64, .inl zf)), (q_15, .inl (cI, 64, .inl zf)), (q_16, .inr (0, [.ref q_8, .ref q_5, .ref q_17, .ref q_18, .ref q_19, .int 0])), (q_17, .inl (cZ, 64, .inl zf)), (q_18, .inl (cI, 64, .inl zf)), (q_19, .inl (cI, 300, .inl zf)), (q_20, .inr (5, [.ref q_2, .ref q_8, .ref q_5, .ref q_21, .int 0, .int 0])), (q_21, .inl (cB, 1600, .inl zf)), (q_22, .inr (4, [.ref q_2, .ref q_8, .ref q_5, .ref q_20])), (q_25, .inl (cB, 65536, .inl zf)), (q_26, .inl (cB, 65536, .inl zf)), (q_27, .inl (cZ, 65536, .inl zf)), (q_28, .inl (cI, 64, .inl zf)), (q_29, .inl (cI, 300, .inl zf)), (q_30, .inl (cI, 300, .inl zf)), (q_31, .inl (cI, 128, .inl zf)), (q_32, .inl (cI, 128, .inl zf)), (q_33, .inl (cI, 128, .inl zf)), (q_35, .inl (cB, 4096, .inl zf)), (q_36, .inl (cI, 64, .inl zf)), (q_37, .inl (cB, 100, .inl zf)), (q_38, .inl (cZ, 64, .inl zf)), (q_39, .inl (cI, 300, .inl zf))] := hD
    refine lv_icmp_eq (tgt := 560) hx hb dL_law_170 (by decide) (fun c => ?_) (fun c => absurd (by decide) c)
    refine lv_iinc (v := 4) (lv' := [(3, .int 4), (2, .ref q_24), (1, .ref q_1), (0, .ref b)]) hx hb dL_law_560 hl (k := 0) rfl (by decide) (by decide) rfl (fun ls hl => ?_)
    refine lv_goto (tgt := 18) hx hb dL_law_563 (by decide) ?_
    refine lv_iload_n hx hb dL_law_18 rfl (lv_at hl 0 rfl) ?_
    refine lv_aload_n hx hb dL_law_19 rfl (lv_at hl 3 rfl) ?_
    refine va_slen hx hb hX hbl hbA hS dL_law_20 ?_
    refine lv_topi (fun z_269 ez_269 => ?_)
    obtain rfl : z_269 = 4 := ez_269.trans (by decide)
    refine lv_iconst (v := 4) hx hb dL_law_21 (by decide) ?_
    refine lv_isub hx hb dL_law_22 ?_
    refine lv_topi (fun z_270 ez_270 => ?_)
    obtain rfl : z_270 = 0 := ez_270.trans (by decide)
    refine lv_icmp_gt (tgt := 566) hx hb dL_law_23 (by decide) (fun c => ?_) (fun c => absurd (by decide) c)
    refine lv_iconst (v := 1) hx hb dL_law_566 (by decide) ?_
    refine va_forget (fun q hq => by have h9 := hS.2.2 q hq; rw [hAe] at h9; exact h9) ?_
    refine W.widen (k := 600000) (n := 7302250) (Nat.le_of_ble_eq_true rfl) (Nat.le_of_ble_eq_true rfl) ?_
    exact lw_ret hx hb hr hlocks dL_law_567
  · skip
    obtain rfl : x3 = 7 := ti_inj (a := 7) (by decide) hsp
    refine lv_aload_n hx hb dL_law_112 rfl (lv_at hl 2 rfl) ?_
    refine lv_aload_n hx hb dL_law_113 rfl (lv_at hl 3 rfl) ?_
    refine lv_iload_n hx hb dL_law_114 rfl (lv_at hl 0 rfl) ?_
    refine lv_iconst (v := 1) hx hb dL_law_115 (by decide) ?_
    refine lv_iadd hx hb dL_law_116 ?_
    refine lv_topi (fun z_271 ez_271 => ?_)
    obtain rfl : z_271 = 1 := ez_271.trans (by decide)
    refine va_sld hx hb hX hbl hbA hS (ti_in (a := 1) (by decide) (by decide) (by decide)) dL_law_117 ?_
    refine lv_topi (fun z_272 ez_272 => ?_)
    obtain rfl : x1 = z_272 := ((ez_272.trans (congrArg xs (show Int32.toNatClampNeg 1 = 1 by decide))).trans ex1.symm).symm
    refine lv_i2l hx hb dL_law_118 rfl ?_
    refine lv_topl (fun y_273 _ => ?_)
    refine lv_bipush (v := 32) hx hb dL_law_119 (by decide) ?_
    refine lv_lshl hx hb dL_law_121 rfl ?_
    refine lv_topl (fun y_274 _ => ?_)
    refine lv_aload_n hx hb dL_law_122 rfl (lv_at hl 3 rfl) ?_
    refine lv_iload_n hx hb dL_law_123 rfl (lv_at hl 0 rfl) ?_
    refine lv_iconst (v := 2) hx hb dL_law_124 (by decide) ?_
    refine lv_iadd hx hb dL_law_125 ?_
    refine lv_topi (fun z_275 ez_275 => ?_)
    obtain rfl : z_275 = 2 := ez_275.trans (by decide)
    refine va_sld hx hb hX hbl hbA hS (ti_in (a := 2) (by decide) (by decide) (by decide)) dL_law_126 ?_
    refine lv_topi (fun z_276 ez_276 => ?_)
    obtain rfl : x2 = z_276 := ((ez_276.trans (congrArg xs (show Int32.toNatClampNeg 2 = 2 by decide))).trans ex2.symm).symm
    refine lv_i2l hx hb dL_law_127 rfl ?_
    refine lv_topl (fun y_277 _ => ?_)
    refine lv_ldc2 (v := 4294967295) hx hb hown (hts _ wdL_law_10) dL_law_128 ?_
    refine lv_topl (fun y_278 _ => ?_)
    refine lv_land hx hb dL_law_131 ?_
    refine lv_topl (fun y_279 _ => ?_)
    refine lv_lor hx hb dL_law_132 ?_
    refine lv_topl (fun y_280 _ => ?_)
    refine lv_aload_n hx hb dL_law_133 rfl (lv_at hl 3 rfl) ?_
    refine lv_iload_n hx hb dL_law_134 rfl (lv_at hl 0 rfl) ?_
    refine lv_iconst (v := 3) hx hb dL_law_135 (by decide) ?_
    refine lv_iadd hx hb dL_law_136 ?_
    refine lv_topi (fun z_281 ez_281 => ?_)
    obtain rfl : z_281 = 3 := ez_281.trans (by decide)
    refine va_sld hx hb hX hbl hbA hS (ti_in (a := 3) (by decide) (by decide) (by decide)) dL_law_137 ?_
    refine lv_topi (fun z_282 ez_282 => ?_)
    obtain rfl : z_282 = 7 := (ez_282.trans (congrArg xs (show Int32.toNatClampNeg 3 = 3 by decide))).trans ex3.symm
    refine kc_i (wr := [(q_2, .inr (1, [.ref q_3, .ref q_4, .int 0, .int 0, .int 0])), (q_3, .inl (cB, 65536, .inl zf)), (q_4, .inl (cI, 1024, .inl zf)), (q_5, .inr (2, [.ref q_6, .ref q_7, .int 0])), (q_6, .inl (cI, 300, .inl zf)), (q_7, .inl (cI, 300, .inl zf)), (q_8, .inr (3, [.ref q_5, .ref q_9, .ref q_10, .ref q_11, .ref q_12, .ref q_13, .ref q_14, .ref q_15, .int 0, .int 0, .int 0, .int 0, .int 1, .int 0])), (q_9, .inl (cB, 65536, .inl zf)), (q_10, .inl (cI, 64, .inl zf)), (q_11, .inl (cZ, 64, .inl zf)), (q_12, .inl (cI, 64, .inl zf)), (q_13, .inl (cI, 64, .inl zf)), (q_14, .inl (cI, 64, .inl zf)), (q_15, .inl (cI, 64, .inl zf)), (q_16, .inr (0, [.ref q_8, .ref q_5, .ref q_17, .ref q_18, .ref q_19, .int 0])), (q_17, .inl (cZ, 64, .inl zf)), (q_18, .inl (cI, 64, .inl zf)), (q_19, .inl (cI, 300, .inl zf)), (q_20, .inr (5, [.ref q_2, .ref q_8, .ref q_5, .ref q_21, .int 0, .int 0])), (q_21, .inl (cB, 1600, .inl zf)), (q_22, .inr (4, [.ref q_2, .ref q_8, .ref q_5, .ref q_20])), (q_24, .inr (7, [.int 0, .int 0, .ref q_25, .ref q_26, .ref q_27, .ref q_28, .int 0, .int 0, .int 0, .int 1, .int 0, .int 0, .int 0, .int 0, .int 0, .int 0, .ref q_29, .ref q_30, .int 0, .ref q_31, .ref q_32, .ref q_33, .ref q_34, .int 0, .ref q_35, .int 0, .ref q_36, .ref q_37, .ref q_38, .ref q_39])), (q_25, .inl (cB, 65536, .inl zf)), (q_26, .inl (cB, 65536, .inl zf)), (q_27, .inl (cZ, 65536, .inl zf)), (q_28, .inl (cI, 64, .inl zf)), (q_29, .inl (cI, 300, .inl zf)), (q_30, .inl (cI, 300, .inl zf)), (q_31, .inl (cI, 128, .inl zf)), (q_32, .inl (cI, 128, .inl zf)), (q_33, .inl (cI, 128, .inl zf)), (q_34, .inl (cB, 100, .inl zf)), (q_35, .inl (cB, 4096, .inl zf)), (q_36, .inl (cI, 64, .inl zf)), (q_37, .inl (cB, 100, .inl zf)), (q_38, .inl (cZ, 64, .inl zf)), (q_39, .inl (cI, 300, .inl zf))]) (va_runV (As := [.long y_280, .int 7]) (rest := []) ⟨hx, hb, hml, hown, hts⟩ (K36_X7_feed l D cB cI cZ _ q_1 q_23 y_280 ((.ref q_2)) ((.ref q_5)) ((.ref q_8)) ((.ref q_16)) ((.ref q_20)) ((.ref q_22)) ((.int 0))) (cwV 2 hts gL_law_X7_feed rfl rfl rfl (by decide +kernel) ⟨Nat.le_of_ble_eq_true rfl, Nat.le_of_ble_eq_true rfl⟩) (pre_V (q := (RX7, TX7, 9)) (ci := 6) (q0 := 0) (hP.sub [0, 22] rfl) hK hN (hD.sub [0, 22] (by decide) rfl) rfl rfl) rfl rfl hl.1 rfl (lv_room (Nat.le_of_ble_eq_true rfl)) dL_law_138 ⟨Nat.le_of_ble_eq_true rfl, Nat.le_of_ble_eq_true rfl⟩) hP hD hS hA [0, 22] [1, 2, 3, 4, 5, 6, 7, 8, 9, 10, 11, 12, 13, 14, 15, 16, 17, 18, 19, 20, 21, 23, 24, 25, 26, 27, 28, 29, 30, 31, 32, 33, 34, 35, 36, 37, 38] rfl rfl (by decide) (by decide) (fun r_283 u H locs hw hP hD hS => ?_)
    have k_284 := hw
    obtain rfl : r_283 = 7 := k_284
    have hP : va_P D vwCl [(q_2, .inr (1, [.ref q_3, .ref q_4, .int 0, .int 0, .int 0])), (q_3, .inl (cB, 65536, .inl zf)), (q_4, .inl (cI, 1024, .inl zf)), (q_5, .inr (2, [.ref q_6, .ref q_7, .int 0])), (q_6, .inl (cI, 300, .inl zf)), (q_7, .inl (cI, 300, .inl zf)), (q_8, .inr (3, [.ref q_5, .ref q_9, .ref q_10, .ref q_11, .ref q_12, .ref q_13, .ref q_14, .ref q_15, .int 0, .int 0, .int 0, .int 0, .int 1, .int 0])), (q_9, .inl (cB, 65536, .inl zf)), (q_10, .inl (cI, 64, .inl zf)), (q_11, .inl (cZ, 64, .inl zf)), (q_12, .inl (cI, 64, .inl zf)), (q_13, .inl (cI, 64, .inl zf)), (q_14, .inl (cI, 64, .inl zf)), (q_15, .inl (cI, 64, .inl zf)), (q_16, .inr (0, [.ref q_8, .ref q_5, .ref q_17, .ref q_18, .ref q_19, .int 0])), (q_17, .inl (cZ, 64, .inl zf)), (q_18, .inl (cI, 64, .inl zf)), (q_19, .inl (cI, 300, .inl zf)), (q_20, .inr (5, [.ref q_2, .ref q_8, .ref q_5, .ref q_21, .int 0, .int 0])), (q_21, .inl (cB, 1600, .inl zf)), (q_22, .inr (4, [.ref q_2, .ref q_8, .ref q_5, .ref q_20])), (q_24, .inr (7, [.int 0, .int 0, .ref q_25, .ref q_26, .ref q_27, .ref q_28, .int 0, .int 0, .int 0, .int 1, .int 0, .int 0, .int 0, .int 0, .int 0, .int 0, .ref q_29, .ref q_30, .int 0, .ref q_31, .ref q_32, .ref q_33, .ref q_34, .int 0, .ref q_35, .int 0, .ref q_36, .ref q_37, .ref q_38, .ref q_39])), (q_25, .inl (cB, 65536, .inl zf)), (q_26, .inl (cB, 65536, .inl zf)), (q_27, .inl (cZ, 65536, .inl zf)), (q_28, .inl (cI, 64, .inl zf)), (q_29, .inl (cI, 300, .inl zf)), (q_30, .inl (cI, 300, .inl zf)), (q_31, .inl (cI, 128, .inl zf)), (q_32, .inl (cI, 128, .inl zf)), (q_33, .inl (cI, 128, .inl zf)), (q_34, .inl (cB, 100, .inl zf)), (q_35, .inl (cB, 4096, .inl zf)), (q_36, .inl (cI, 64, .inl zf)), (q_37, .inl (cB, 100, .inl zf)), (q_38, .inl (cZ, 64, .inl zf)), (q_39, .inl (cI, 300, .inl zf))] H := hP
    have hD : va_D A [(q_2, .inr (1, [.ref q_3, .ref q_4, .int 0, .int 0, .int 0])), (q_3, .inl (cB, 65536, .inl zf)), (q_4, .inl (cI, 1024, .inl zf)), (q_5, .inr (2, [.ref q_6, .ref q_7, .int 0])), (q_6, .inl (cI, 300, .inl zf)), (q_7, .inl (cI, 300, .inl zf)), (q_8, .inr (3, [.ref q_5, .ref q_9, .ref q_10, .ref q_11, .ref q_12, .ref q_13, .ref q_14, .ref q_15, .int 0, .int 0, .int 0, .int 0, .int 1, .int 0])), (q_9, .inl (cB, 65536, .inl zf)), (q_10, .inl (cI, 64, .inl zf)), (q_11, .inl (cZ, 64, .inl zf)), (q_12, .inl (cI, 64, .inl zf)), (q_13, .inl (cI, 64, .inl zf)), (q_14, .inl (cI, 64, .inl zf)), (q_15, .inl (cI, 64, .inl zf)), (q_16, .inr (0, [.ref q_8, .ref q_5, .ref q_17, .ref q_18, .ref q_19, .int 0])), (q_17, .inl (cZ, 64, .inl zf)), (q_18, .inl (cI, 64, .inl zf)), (q_19, .inl (cI, 300, .inl zf)), (q_20, .inr (5, [.ref q_2, .ref q_8, .ref q_5, .ref q_21, .int 0, .int 0])), (q_21, .inl (cB, 1600, .inl zf)), (q_22, .inr (4, [.ref q_2, .ref q_8, .ref q_5, .ref q_20])), (q_24, .inr (7, [.int 0, .int 0, .ref q_25, .ref q_26, .ref q_27, .ref q_28, .int 0, .int 0, .int 0, .int 1, .int 0, .int 0, .int 0, .int 0, .int 0, .int 0, .ref q_29, .ref q_30, .int 0, .ref q_31, .ref q_32, .ref q_33, .ref q_34, .int 0, .ref q_35, .int 0, .ref q_36, .ref q_37, .ref q_38, .ref q_39])), (q_25, .inl (cB, 65536, .inl zf)), (q_26, .inl (cB, 65536, .inl zf)), (q_27, .inl (cZ, 65536, .inl zf)), (q_28, .inl (cI, 64, .inl zf)), (q_29, .inl (cI, 300, .inl zf)), (q_30, .inl (cI, 300, .inl zf)), (q_31, .inl (cI, 128, .inl zf)), (q_32, .inl (cI, 128, .inl zf)), (q_33, .inl (cI, 128, .inl zf)), (q_34, .inl (cB, 100, .inl zf)), (q_35, .inl (cB, 4096, .inl zf)), (q_36, .inl (cI, 64, .inl zf)), (q_37, .inl (cB, 100, .inl zf)), (q_38, .inl (cZ, 64, .inl zf)), (q_39, .inl (cI, 300, .inl zf))] := hD
    refine lv_aload_n hx hb dL_law_141 rfl (lv_at hl 1 rfl) ?_
    refine lv_aload_n hx hb dL_law_142 rfl (lv_at hl 3 rfl) ?_
    refine lv_iload_n hx hb dL_law_143 rfl (lv_at hl 0 rfl) ?_
    refine lv_iconst (v := 1) hx hb dL_law_144 (by decide) ?_
    refine lv_iadd hx hb dL_law_145 ?_
    refine lv_topi (fun z_285 ez_285 => ?_)
    obtain rfl : z_285 = 1 := ez_285.trans (by decide)
    refine va_sld hx hb hX hbl hbA hS (ti_in (a := 1) (by decide) (by decide) (by decide)) dL_law_146 ?_
    refine lv_topi (fun z_286 ez_286 => ?_)
    obtain rfl : x1 = z_286 := ((ez_286.trans (congrArg xs (show Int32.toNatClampNeg 1 = 1 by decide))).trans ex1.symm).symm
    refine lv_i2l hx hb dL_law_147 rfl ?_
    refine lv_topl (fun y_287 _ => ?_)
    refine lv_bipush (v := 32) hx hb dL_law_148 (by decide) ?_
    refine lv_lshl hx hb dL_law_150 rfl ?_
    refine lv_topl (fun y_288 _ => ?_)
    refine lv_aload_n hx hb dL_law_151 rfl (lv_at hl 3 rfl) ?_
    refine lv_iload_n hx hb dL_law_152 rfl (lv_at hl 0 rfl) ?_
    refine lv_iconst (v := 2) hx hb dL_law_153 (by decide) ?_
    refine lv_iadd hx hb dL_law_154 ?_
    refine lv_topi (fun z_289 ez_289 => ?_)
    obtain rfl : z_289 = 2 := ez_289.trans (by decide)
    refine va_sld hx hb hX hbl hbA hS (ti_in (a := 2) (by decide) (by decide) (by decide)) dL_law_155 ?_
    refine lv_topi (fun z_290 ez_290 => ?_)
    obtain rfl : x2 = z_290 := ((ez_290.trans (congrArg xs (show Int32.toNatClampNeg 2 = 2 by decide))).trans ex2.symm).symm
    refine lv_i2l hx hb dL_law_156 rfl ?_
    refine lv_topl (fun y_291 _ => ?_)
    refine lv_ldc2 (v := 4294967295) hx hb hown (hts _ wdL_law_10) dL_law_157 ?_
    refine lv_topl (fun y_292 _ => ?_)
    refine lv_land hx hb dL_law_160 ?_
    refine lv_topl (fun y_293 _ => ?_)
    refine lv_lor hx hb dL_law_161 ?_
    refine lv_topl (fun y_294 _ => ?_)
    refine lv_aload_n hx hb dL_law_162 rfl (lv_at hl 3 rfl) ?_
    refine lv_iload_n hx hb dL_law_163 rfl (lv_at hl 0 rfl) ?_
    refine lv_iconst (v := 3) hx hb dL_law_164 (by decide) ?_
    refine lv_iadd hx hb dL_law_165 ?_
    refine lv_topi (fun z_295 ez_295 => ?_)
    obtain rfl : z_295 = 3 := ez_295.trans (by decide)
    refine va_sld hx hb hX hbl hbA hS (ti_in (a := 3) (by decide) (by decide) (by decide)) dL_law_166 ?_
    refine lv_topi (fun z_296 ez_296 => ?_)
    obtain rfl : z_296 = 7 := (ez_296.trans (congrArg xs (show Int32.toNatClampNeg 3 = 3 by decide))).trans ex3.symm
    refine kc_i (wr := [(q_2, .inr (1, [.ref q_3, .ref q_4, .int 0, .int 0, .int 0])), (q_3, .inl (cB, 65536, .inl zf)), (q_4, .inl (cI, 1024, .inl zf)), (q_5, .inr (2, [.ref q_6, .ref q_7, .int 0])), (q_6, .inl (cI, 300, .inl zf)), (q_7, .inl (cI, 300, .inl zf)), (q_8, .inr (3, [.ref q_5, .ref q_9, .ref q_10, .ref q_11, .ref q_12, .ref q_13, .ref q_14, .ref q_15, .int 0, .int 0, .int 0, .int 0, .int 1, .int 0])), (q_9, .inl (cB, 65536, .inl zf)), (q_10, .inl (cI, 64, .inl zf)), (q_11, .inl (cZ, 64, .inl zf)), (q_12, .inl (cI, 64, .inl zf)), (q_13, .inl (cI, 64, .inl zf)), (q_14, .inl (cI, 64, .inl zf)), (q_15, .inl (cI, 64, .inl zf)), (q_16, .inr (0, [.ref q_8, .ref q_5, .ref q_17, .ref q_18, .ref q_19, .int 0])), (q_17, .inl (cZ, 64, .inl zf)), (q_18, .inl (cI, 64, .inl zf)), (q_19, .inl (cI, 300, .inl zf)), (q_20, .inr (5, [.ref q_2, .ref q_8, .ref q_5, .ref q_21, .int 0, .int 0])), (q_21, .inl (cB, 1600, .inl zf)), (q_22, .inr (4, [.ref q_2, .ref q_8, .ref q_5, .ref q_20])), (q_25, .inl (cB, 65536, .inl zf)), (q_26, .inl (cB, 65536, .inl zf)), (q_27, .inl (cZ, 65536, .inl zf)), (q_28, .inl (cI, 64, .inl zf)), (q_29, .inl (cI, 300, .inl zf)), (q_30, .inl (cI, 300, .inl zf)), (q_31, .inl (cI, 128, .inl zf)), (q_32, .inl (cI, 128, .inl zf)), (q_33, .inl (cI, 128, .inl zf)), (q_35, .inl (cB, 4096, .inl zf)), (q_36, .inl (cI, 64, .inl zf)), (q_37, .inl (cB, 100, .inl zf)), (q_38, .inl (cZ, 64, .inl zf)), (q_39, .inl (cI, 300, .inl zf))]) (va_runV (As := [.long y_294, .int 7]) (rest := [.int 7]) ⟨hx, hb, hml, hown, hts⟩ (K37_X8_feed l D cB cI cZ _ q_24 q_34 y_294 ((.int 0)) ((.int 0)) ((.ref q_25)) ((.ref q_26)) ((.ref q_27)) ((.ref q_28)) ((.int 0)) ((.int 0)) ((.int 0)) ((.int 1)) ((.int 0)) ((.int 0)) ((.int 0)) ((.int 0)) ((.int 0)) ((.int 0)) ((.ref q_29)) ((.ref q_30)) ((.int 0)) ((.ref q_31)) ((.ref q_32)) ((.ref q_33)) ((.ref q_35)) ((.int 0)) ((.ref q_36)) ((.ref q_37)) ((.ref q_38)) ((.ref q_39))) (cwV 2 hts gL_law_X8_feed rfl rfl rfl (by decide +kernel) ⟨Nat.le_of_ble_eq_true rfl, Nat.le_of_ble_eq_true rfl⟩) (pre_V (q := (RX8, TX8, 30)) (ci := 7) (q0 := 0) (hP.sub [21, 31] rfl) hK hN (hD.sub [21, 31] (by decide) rfl) rfl rfl) rfl rfl hl.1 rfl (lv_room (Nat.le_of_ble_eq_true rfl)) dL_law_167 ⟨Nat.le_of_ble_eq_true rfl, Nat.le_of_ble_eq_true rfl⟩) hP hD hS hA [21, 31] [0, 1, 2, 3, 4, 5, 6, 7, 8, 9, 10, 11, 12, 13, 14, 15, 16, 17, 18, 19, 20, 22, 23, 24, 25, 26, 27, 28, 29, 30, 32, 33, 34, 35, 36] rfl rfl (by decide) (by decide) (fun r_297 u H locs hw hP hD hS => ?_)
    have k_298 := hw
    obtain rfl : r_297 = 7 := k_298
    have hP : va_P D vwCl [(q_2, .inr (1, [.ref q_3, .ref q_4, .int 0, .int 0, .int 0])), (q_3, .inl (cB, 65536, .inl zf)), (q_4, .inl (cI, 1024, .inl zf)), (q_5, .inr (2, [.ref q_6, .ref q_7, .int 0])), (q_6, .inl (cI, 300, .inl zf)), (q_7, .inl (cI, 300, .inl zf)), (q_8, .inr (3, [.ref q_5, .ref q_9, .ref q_10, .ref q_11, .ref q_12, .ref q_13, .ref q_14, .ref q_15, .int 0, .int 0, .int 0, .int 0, .int 1, .int 0])), (q_9, .inl (cB, 65536, .inl zf)), (q_10, .inl (cI, 64, .inl zf)), (q_11, .inl (cZ, 64, .inl zf)), (q_12, .inl (cI, 64, .inl zf)), (q_13, .inl (cI, 64, .inl zf)), (q_14, .inl (cI, 64, .inl zf)), (q_15, .inl (cI, 64, .inl zf)), (q_16, .inr (0, [.ref q_8, .ref q_5, .ref q_17, .ref q_18, .ref q_19, .int 0])), (q_17, .inl (cZ, 64, .inl zf)), (q_18, .inl (cI, 64, .inl zf)), (q_19, .inl (cI, 300, .inl zf)), (q_20, .inr (5, [.ref q_2, .ref q_8, .ref q_5, .ref q_21, .int 0, .int 0])), (q_21, .inl (cB, 1600, .inl zf)), (q_22, .inr (4, [.ref q_2, .ref q_8, .ref q_5, .ref q_20])), (q_25, .inl (cB, 65536, .inl zf)), (q_26, .inl (cB, 65536, .inl zf)), (q_27, .inl (cZ, 65536, .inl zf)), (q_28, .inl (cI, 64, .inl zf)), (q_29, .inl (cI, 300, .inl zf)), (q_30, .inl (cI, 300, .inl zf)), (q_31, .inl (cI, 128, .inl zf)), (q_32, .inl (cI, 128, .inl zf)), (q_33, .inl (cI, 128, .inl zf)), (q_35, .inl (cB, 4096, .inl zf)), (q_36, .inl (cI, 64, .inl zf)), (q_37, .inl (cB, 100, .inl zf)), (q_38, .inl (cZ, 64, .inl zf)), (q_39, .inl (cI, 300, .inl zf))] H := hP
    have hD : va_D A [(q_2, .inr (1, [.ref q_3, .ref q_4, .int 0, .int 0, .int 0])), (q_3, .inl (cB, 65536, .inl zf)), (q_4, .inl (cI, 1024, .inl zf)), (q_5, .inr (2, [.ref q_6, .ref q_7, .int 0])), (q_6, .inl (cI, 300, .inl zf)), (q_7, .inl (cI, 300, .inl zf)), (q_8, .inr (3, [.ref q_5, .ref q_9, .ref q_10, .ref q_11, .ref q_12, .ref q_13, .ref q_14, .ref q_15, .int 0, .int 0, .int 0, .int 0, .int 1, .int 0])), (q_9, .inl (cB, 65536, .inl zf)), (q_10, .inl (cI, 64, .inl zf)), (q_11, .inl (cZ, 64, .inl zf)), (q_12, .inl (cI, 64, .inl zf)), (q_13, .inl (cI, 64, .inl zf)), (q_14, .inl (cI, 64, .inl zf)), (q_15, .inl (cI, 64, .inl zf)), (q_16, .inr (0, [.ref q_8, .ref q_5, .ref q_17, .ref q_18, .ref q_19, .int 0])), (q_17, .inl (cZ, 64, .inl zf)), (q_18, .inl (cI, 64, .inl zf)), (q_19, .inl (cI, 300, .inl zf)), (q_20, .inr (5, [.ref q_2, .ref q_8, .ref q_5, .ref q_21, .int 0, .int 0])), (q_21, .inl (cB, 1600, .inl zf)), (q_22, .inr (4, [.ref q_2, .ref q_8, .ref q_5, .ref q_20])), (q_25, .inl (cB, 65536, .inl zf)), (q_26, .inl (cB, 65536, .inl zf)), (q_27, .inl (cZ, 65536, .inl zf)), (q_28, .inl (cI, 64, .inl zf)), (q_29, .inl (cI, 300, .inl zf)), (q_30, .inl (cI, 300, .inl zf)), (q_31, .inl (cI, 128, .inl zf)), (q_32, .inl (cI, 128, .inl zf)), (q_33, .inl (cI, 128, .inl zf)), (q_35, .inl (cB, 4096, .inl zf)), (q_36, .inl (cI, 64, .inl zf)), (q_37, .inl (cB, 100, .inl zf)), (q_38, .inl (cZ, 64, .inl zf)), (q_39, .inl (cI, 300, .inl zf))] := hD
    refine lv_icmp_eq (tgt := 560) hx hb dL_law_170 (by decide) (fun c => ?_) (fun c => absurd (by decide) c)
    refine lv_iinc (v := 4) (lv' := [(3, .int 4), (2, .ref q_24), (1, .ref q_1), (0, .ref b)]) hx hb dL_law_560 hl (k := 0) rfl (by decide) (by decide) rfl (fun ls hl => ?_)
    refine lv_goto (tgt := 18) hx hb dL_law_563 (by decide) ?_
    refine lv_iload_n hx hb dL_law_18 rfl (lv_at hl 0 rfl) ?_
    refine lv_aload_n hx hb dL_law_19 rfl (lv_at hl 3 rfl) ?_
    refine va_slen hx hb hX hbl hbA hS dL_law_20 ?_
    refine lv_topi (fun z_299 ez_299 => ?_)
    obtain rfl : z_299 = 4 := ez_299.trans (by decide)
    refine lv_iconst (v := 4) hx hb dL_law_21 (by decide) ?_
    refine lv_isub hx hb dL_law_22 ?_
    refine lv_topi (fun z_300 ez_300 => ?_)
    obtain rfl : z_300 = 0 := ez_300.trans (by decide)
    refine lv_icmp_gt (tgt := 566) hx hb dL_law_23 (by decide) (fun c => ?_) (fun c => absurd (by decide) c)
    refine lv_iconst (v := 1) hx hb dL_law_566 (by decide) ?_
    refine va_forget (fun q hq => by have h9 := hS.2.2 q hq; rw [hAe] at h9; exact h9) ?_
    refine W.widen (k := 600000) (n := 7302250) (Nat.le_of_ble_eq_true rfl) (Nat.le_of_ble_eq_true rfl) ?_
    exact lw_ret hx hb hr hlocks dL_law_567
  · skip
    obtain rfl : x3 = 8 := ti_inj (a := 8) (by decide) hsp
    refine lv_aload_n hx hb dL_law_112 rfl (lv_at hl 2 rfl) ?_
    refine lv_aload_n hx hb dL_law_113 rfl (lv_at hl 3 rfl) ?_
    refine lv_iload_n hx hb dL_law_114 rfl (lv_at hl 0 rfl) ?_
    refine lv_iconst (v := 1) hx hb dL_law_115 (by decide) ?_
    refine lv_iadd hx hb dL_law_116 ?_
    refine lv_topi (fun z_301 ez_301 => ?_)
    obtain rfl : z_301 = 1 := ez_301.trans (by decide)
    refine va_sld hx hb hX hbl hbA hS (ti_in (a := 1) (by decide) (by decide) (by decide)) dL_law_117 ?_
    refine lv_topi (fun z_302 ez_302 => ?_)
    obtain rfl : x1 = z_302 := ((ez_302.trans (congrArg xs (show Int32.toNatClampNeg 1 = 1 by decide))).trans ex1.symm).symm
    refine lv_i2l hx hb dL_law_118 rfl ?_
    refine lv_topl (fun y_303 _ => ?_)
    refine lv_bipush (v := 32) hx hb dL_law_119 (by decide) ?_
    refine lv_lshl hx hb dL_law_121 rfl ?_
    refine lv_topl (fun y_304 _ => ?_)
    refine lv_aload_n hx hb dL_law_122 rfl (lv_at hl 3 rfl) ?_
    refine lv_iload_n hx hb dL_law_123 rfl (lv_at hl 0 rfl) ?_
    refine lv_iconst (v := 2) hx hb dL_law_124 (by decide) ?_
    refine lv_iadd hx hb dL_law_125 ?_
    refine lv_topi (fun z_305 ez_305 => ?_)
    obtain rfl : z_305 = 2 := ez_305.trans (by decide)
    refine va_sld hx hb hX hbl hbA hS (ti_in (a := 2) (by decide) (by decide) (by decide)) dL_law_126 ?_
    refine lv_topi (fun z_306 ez_306 => ?_)
    obtain rfl : x2 = z_306 := ((ez_306.trans (congrArg xs (show Int32.toNatClampNeg 2 = 2 by decide))).trans ex2.symm).symm
    refine lv_i2l hx hb dL_law_127 rfl ?_
    refine lv_topl (fun y_307 _ => ?_)
    refine lv_ldc2 (v := 4294967295) hx hb hown (hts _ wdL_law_10) dL_law_128 ?_
    refine lv_topl (fun y_308 _ => ?_)
    refine lv_land hx hb dL_law_131 ?_
    refine lv_topl (fun y_309 _ => ?_)
    refine lv_lor hx hb dL_law_132 ?_
    refine lv_topl (fun y_310 _ => ?_)
    refine lv_aload_n hx hb dL_law_133 rfl (lv_at hl 3 rfl) ?_
    refine lv_iload_n hx hb dL_law_134 rfl (lv_at hl 0 rfl) ?_
    refine lv_iconst (v := 3) hx hb dL_law_135 (by decide) ?_
    refine lv_iadd hx hb dL_law_136 ?_
    refine lv_topi (fun z_311 ez_311 => ?_)
    obtain rfl : z_311 = 3 := ez_311.trans (by decide)
    refine va_sld hx hb hX hbl hbA hS (ti_in (a := 3) (by decide) (by decide) (by decide)) dL_law_137 ?_
    refine lv_topi (fun z_312 ez_312 => ?_)
    obtain rfl : z_312 = 8 := (ez_312.trans (congrArg xs (show Int32.toNatClampNeg 3 = 3 by decide))).trans ex3.symm
    refine kc_i (wr := [(q_2, .inr (1, [.ref q_3, .ref q_4, .int 0, .int 0, .int 0])), (q_3, .inl (cB, 65536, .inl zf)), (q_4, .inl (cI, 1024, .inl zf)), (q_5, .inr (2, [.ref q_6, .ref q_7, .int 0])), (q_6, .inl (cI, 300, .inl zf)), (q_7, .inl (cI, 300, .inl zf)), (q_8, .inr (3, [.ref q_5, .ref q_9, .ref q_10, .ref q_11, .ref q_12, .ref q_13, .ref q_14, .ref q_15, .int 0, .int 0, .int 0, .int 0, .int 1, .int 0])), (q_9, .inl (cB, 65536, .inl zf)), (q_10, .inl (cI, 64, .inl zf)), (q_11, .inl (cZ, 64, .inl zf)), (q_12, .inl (cI, 64, .inl zf)), (q_13, .inl (cI, 64, .inl zf)), (q_14, .inl (cI, 64, .inl zf)), (q_15, .inl (cI, 64, .inl zf)), (q_16, .inr (0, [.ref q_8, .ref q_5, .ref q_17, .ref q_18, .ref q_19, .int 0])), (q_17, .inl (cZ, 64, .inl zf)), (q_18, .inl (cI, 64, .inl zf)), (q_19, .inl (cI, 300, .inl zf)), (q_20, .inr (5, [.ref q_2, .ref q_8, .ref q_5, .ref q_21, .int 0, .int 0])), (q_21, .inl (cB, 1600, .inl zf)), (q_22, .inr (4, [.ref q_2, .ref q_8, .ref q_5, .ref q_20])), (q_24, .inr (7, [.int 0, .int 0, .ref q_25, .ref q_26, .ref q_27, .ref q_28, .int 0, .int 0, .int 0, .int 1, .int 0, .int 0, .int 0, .int 0, .int 0, .int 0, .ref q_29, .ref q_30, .int 0, .ref q_31, .ref q_32, .ref q_33, .ref q_34, .int 0, .ref q_35, .int 0, .ref q_36, .ref q_37, .ref q_38, .ref q_39])), (q_25, .inl (cB, 65536, .inl zf)), (q_26, .inl (cB, 65536, .inl zf)), (q_27, .inl (cZ, 65536, .inl zf)), (q_28, .inl (cI, 64, .inl zf)), (q_29, .inl (cI, 300, .inl zf)), (q_30, .inl (cI, 300, .inl zf)), (q_31, .inl (cI, 128, .inl zf)), (q_32, .inl (cI, 128, .inl zf)), (q_33, .inl (cI, 128, .inl zf)), (q_34, .inl (cB, 100, .inl zf)), (q_35, .inl (cB, 4096, .inl zf)), (q_36, .inl (cI, 64, .inl zf)), (q_37, .inl (cB, 100, .inl zf)), (q_38, .inl (cZ, 64, .inl zf)), (q_39, .inl (cI, 300, .inl zf))]) (va_runV (As := [.long y_310, .int 8]) (rest := []) ⟨hx, hb, hml, hown, hts⟩ (K39_X7_feed l D cB cI cZ _ q_1 q_23 y_310 ((.ref q_2)) ((.ref q_5)) ((.ref q_8)) ((.ref q_16)) ((.ref q_20)) ((.ref q_22)) ((.int 0))) (cwV 2 hts gL_law_X7_feed rfl rfl rfl (by decide +kernel) ⟨Nat.le_of_ble_eq_true rfl, Nat.le_of_ble_eq_true rfl⟩) (pre_V (q := (RX7, TX7, 9)) (ci := 6) (q0 := 0) (hP.sub [0, 22] rfl) hK hN (hD.sub [0, 22] (by decide) rfl) rfl rfl) rfl rfl hl.1 rfl (lv_room (Nat.le_of_ble_eq_true rfl)) dL_law_138 ⟨Nat.le_of_ble_eq_true rfl, Nat.le_of_ble_eq_true rfl⟩) hP hD hS hA [0, 22] [1, 2, 3, 4, 5, 6, 7, 8, 9, 10, 11, 12, 13, 14, 15, 16, 17, 18, 19, 20, 21, 23, 24, 25, 26, 27, 28, 29, 30, 31, 32, 33, 34, 35, 36, 37, 38] rfl rfl (by decide) (by decide) (fun r_313 u H locs hw hP hD hS => ?_)
    have k_314 := hw
    obtain rfl : r_313 = 8 := k_314
    have hP : va_P D vwCl [(q_2, .inr (1, [.ref q_3, .ref q_4, .int 0, .int 0, .int 0])), (q_3, .inl (cB, 65536, .inl zf)), (q_4, .inl (cI, 1024, .inl zf)), (q_5, .inr (2, [.ref q_6, .ref q_7, .int 0])), (q_6, .inl (cI, 300, .inl zf)), (q_7, .inl (cI, 300, .inl zf)), (q_8, .inr (3, [.ref q_5, .ref q_9, .ref q_10, .ref q_11, .ref q_12, .ref q_13, .ref q_14, .ref q_15, .int 0, .int 0, .int 0, .int 0, .int 1, .int 0])), (q_9, .inl (cB, 65536, .inl zf)), (q_10, .inl (cI, 64, .inl zf)), (q_11, .inl (cZ, 64, .inl zf)), (q_12, .inl (cI, 64, .inl zf)), (q_13, .inl (cI, 64, .inl zf)), (q_14, .inl (cI, 64, .inl zf)), (q_15, .inl (cI, 64, .inl zf)), (q_16, .inr (0, [.ref q_8, .ref q_5, .ref q_17, .ref q_18, .ref q_19, .int 0])), (q_17, .inl (cZ, 64, .inl zf)), (q_18, .inl (cI, 64, .inl zf)), (q_19, .inl (cI, 300, .inl zf)), (q_20, .inr (5, [.ref q_2, .ref q_8, .ref q_5, .ref q_21, .int 0, .int 0])), (q_21, .inl (cB, 1600, .inl zf)), (q_22, .inr (4, [.ref q_2, .ref q_8, .ref q_5, .ref q_20])), (q_24, .inr (7, [.int 0, .int 0, .ref q_25, .ref q_26, .ref q_27, .ref q_28, .int 0, .int 0, .int 0, .int 1, .int 0, .int 0, .int 0, .int 0, .int 0, .int 0, .ref q_29, .ref q_30, .int 0, .ref q_31, .ref q_32, .ref q_33, .ref q_34, .int 0, .ref q_35, .int 0, .ref q_36, .ref q_37, .ref q_38, .ref q_39])), (q_25, .inl (cB, 65536, .inl zf)), (q_26, .inl (cB, 65536, .inl zf)), (q_27, .inl (cZ, 65536, .inl zf)), (q_28, .inl (cI, 64, .inl zf)), (q_29, .inl (cI, 300, .inl zf)), (q_30, .inl (cI, 300, .inl zf)), (q_31, .inl (cI, 128, .inl zf)), (q_32, .inl (cI, 128, .inl zf)), (q_33, .inl (cI, 128, .inl zf)), (q_34, .inl (cB, 100, .inl zf)), (q_35, .inl (cB, 4096, .inl zf)), (q_36, .inl (cI, 64, .inl zf)), (q_37, .inl (cB, 100, .inl zf)), (q_38, .inl (cZ, 64, .inl zf)), (q_39, .inl (cI, 300, .inl zf))] H := hP
    have hD : va_D A [(q_2, .inr (1, [.ref q_3, .ref q_4, .int 0, .int 0, .int 0])), (q_3, .inl (cB, 65536, .inl zf)), (q_4, .inl (cI, 1024, .inl zf)), (q_5, .inr (2, [.ref q_6, .ref q_7, .int 0])), (q_6, .inl (cI, 300, .inl zf)), (q_7, .inl (cI, 300, .inl zf)), (q_8, .inr (3, [.ref q_5, .ref q_9, .ref q_10, .ref q_11, .ref q_12, .ref q_13, .ref q_14, .ref q_15, .int 0, .int 0, .int 0, .int 0, .int 1, .int 0])), (q_9, .inl (cB, 65536, .inl zf)), (q_10, .inl (cI, 64, .inl zf)), (q_11, .inl (cZ, 64, .inl zf)), (q_12, .inl (cI, 64, .inl zf)), (q_13, .inl (cI, 64, .inl zf)), (q_14, .inl (cI, 64, .inl zf)), (q_15, .inl (cI, 64, .inl zf)), (q_16, .inr (0, [.ref q_8, .ref q_5, .ref q_17, .ref q_18, .ref q_19, .int 0])), (q_17, .inl (cZ, 64, .inl zf)), (q_18, .inl (cI, 64, .inl zf)), (q_19, .inl (cI, 300, .inl zf)), (q_20, .inr (5, [.ref q_2, .ref q_8, .ref q_5, .ref q_21, .int 0, .int 0])), (q_21, .inl (cB, 1600, .inl zf)), (q_22, .inr (4, [.ref q_2, .ref q_8, .ref q_5, .ref q_20])), (q_24, .inr (7, [.int 0, .int 0, .ref q_25, .ref q_26, .ref q_27, .ref q_28, .int 0, .int 0, .int 0, .int 1, .int 0, .int 0, .int 0, .int 0, .int 0, .int 0, .ref q_29, .ref q_30, .int 0, .ref q_31, .ref q_32, .ref q_33, .ref q_34, .int 0, .ref q_35, .int 0, .ref q_36, .ref q_37, .ref q_38, .ref q_39])), (q_25, .inl (cB, 65536, .inl zf)), (q_26, .inl (cB, 65536, .inl zf)), (q_27, .inl (cZ, 65536, .inl zf)), (q_28, .inl (cI, 64, .inl zf)), (q_29, .inl (cI, 300, .inl zf)), (q_30, .inl (cI, 300, .inl zf)), (q_31, .inl (cI, 128, .inl zf)), (q_32, .inl (cI, 128, .inl zf)), (q_33, .inl (cI, 128, .inl zf)), (q_34, .inl (cB, 100, .inl zf)), (q_35, .inl (cB, 4096, .inl zf)), (q_36, .inl (cI, 64, .inl zf)), (q_37, .inl (cB, 100, .inl zf)), (q_38, .inl (cZ, 64, .inl zf)), (q_39, .inl (cI, 300, .inl zf))] := hD
    refine lv_aload_n hx hb dL_law_141 rfl (lv_at hl 1 rfl) ?_
    refine lv_aload_n hx hb dL_law_142 rfl (lv_at hl 3 rfl) ?_
    refine lv_iload_n hx hb dL_law_143 rfl (lv_at hl 0 rfl) ?_
    refine lv_iconst (v := 1) hx hb dL_law_144 (by decide) ?_
    refine lv_iadd hx hb dL_law_145 ?_
    refine lv_topi (fun z_315 ez_315 => ?_)
    obtain rfl : z_315 = 1 := ez_315.trans (by decide)
    refine va_sld hx hb hX hbl hbA hS (ti_in (a := 1) (by decide) (by decide) (by decide)) dL_law_146 ?_
    refine lv_topi (fun z_316 ez_316 => ?_)
    obtain rfl : x1 = z_316 := ((ez_316.trans (congrArg xs (show Int32.toNatClampNeg 1 = 1 by decide))).trans ex1.symm).symm
    refine lv_i2l hx hb dL_law_147 rfl ?_
    refine lv_topl (fun y_317 _ => ?_)
    refine lv_bipush (v := 32) hx hb dL_law_148 (by decide) ?_
    refine lv_lshl hx hb dL_law_150 rfl ?_
    refine lv_topl (fun y_318 _ => ?_)
    refine lv_aload_n hx hb dL_law_151 rfl (lv_at hl 3 rfl) ?_
    refine lv_iload_n hx hb dL_law_152 rfl (lv_at hl 0 rfl) ?_
    refine lv_iconst (v := 2) hx hb dL_law_153 (by decide) ?_
    refine lv_iadd hx hb dL_law_154 ?_
    refine lv_topi (fun z_319 ez_319 => ?_)
    obtain rfl : z_319 = 2 := ez_319.trans (by decide)
    refine va_sld hx hb hX hbl hbA hS (ti_in (a := 2) (by decide) (by decide) (by decide)) dL_law_155 ?_
    refine lv_topi (fun z_320 ez_320 => ?_)
    obtain rfl : x2 = z_320 := ((ez_320.trans (congrArg xs (show Int32.toNatClampNeg 2 = 2 by decide))).trans ex2.symm).symm
    refine lv_i2l hx hb dL_law_156 rfl ?_
    refine lv_topl (fun y_321 _ => ?_)
    refine lv_ldc2 (v := 4294967295) hx hb hown (hts _ wdL_law_10) dL_law_157 ?_
    refine lv_topl (fun y_322 _ => ?_)
    refine lv_land hx hb dL_law_160 ?_
    refine lv_topl (fun y_323 _ => ?_)
    refine lv_lor hx hb dL_law_161 ?_
    refine lv_topl (fun y_324 _ => ?_)
    refine lv_aload_n hx hb dL_law_162 rfl (lv_at hl 3 rfl) ?_
    refine lv_iload_n hx hb dL_law_163 rfl (lv_at hl 0 rfl) ?_
    refine lv_iconst (v := 3) hx hb dL_law_164 (by decide) ?_
    refine lv_iadd hx hb dL_law_165 ?_
    refine lv_topi (fun z_325 ez_325 => ?_)
    obtain rfl : z_325 = 3 := ez_325.trans (by decide)
    refine va_sld hx hb hX hbl hbA hS (ti_in (a := 3) (by decide) (by decide) (by decide)) dL_law_166 ?_
    refine lv_topi (fun z_326 ez_326 => ?_)
    obtain rfl : z_326 = 8 := (ez_326.trans (congrArg xs (show Int32.toNatClampNeg 3 = 3 by decide))).trans ex3.symm
    refine kc_i (wr := [(q_2, .inr (1, [.ref q_3, .ref q_4, .int 0, .int 0, .int 0])), (q_3, .inl (cB, 65536, .inl zf)), (q_4, .inl (cI, 1024, .inl zf)), (q_5, .inr (2, [.ref q_6, .ref q_7, .int 0])), (q_6, .inl (cI, 300, .inl zf)), (q_7, .inl (cI, 300, .inl zf)), (q_8, .inr (3, [.ref q_5, .ref q_9, .ref q_10, .ref q_11, .ref q_12, .ref q_13, .ref q_14, .ref q_15, .int 0, .int 0, .int 0, .int 0, .int 1, .int 0])), (q_9, .inl (cB, 65536, .inl zf)), (q_10, .inl (cI, 64, .inl zf)), (q_11, .inl (cZ, 64, .inl zf)), (q_12, .inl (cI, 64, .inl zf)), (q_13, .inl (cI, 64, .inl zf)), (q_14, .inl (cI, 64, .inl zf)), (q_15, .inl (cI, 64, .inl zf)), (q_16, .inr (0, [.ref q_8, .ref q_5, .ref q_17, .ref q_18, .ref q_19, .int 0])), (q_17, .inl (cZ, 64, .inl zf)), (q_18, .inl (cI, 64, .inl zf)), (q_19, .inl (cI, 300, .inl zf)), (q_20, .inr (5, [.ref q_2, .ref q_8, .ref q_5, .ref q_21, .int 0, .int 0])), (q_21, .inl (cB, 1600, .inl zf)), (q_22, .inr (4, [.ref q_2, .ref q_8, .ref q_5, .ref q_20])), (q_25, .inl (cB, 65536, .inl zf)), (q_26, .inl (cB, 65536, .inl zf)), (q_27, .inl (cZ, 65536, .inl zf)), (q_28, .inl (cI, 64, .inl zf)), (q_29, .inl (cI, 300, .inl zf)), (q_30, .inl (cI, 300, .inl zf)), (q_31, .inl (cI, 128, .inl zf)), (q_32, .inl (cI, 128, .inl zf)), (q_33, .inl (cI, 128, .inl zf)), (q_35, .inl (cB, 4096, .inl zf)), (q_36, .inl (cI, 64, .inl zf)), (q_37, .inl (cB, 100, .inl zf)), (q_38, .inl (cZ, 64, .inl zf)), (q_39, .inl (cI, 300, .inl zf))]) (va_runV (As := [.long y_324, .int 8]) (rest := [.int 8]) ⟨hx, hb, hml, hown, hts⟩ (K40_X8_feed l D cB cI cZ _ q_24 q_34 y_324 ((.int 0)) ((.int 0)) ((.ref q_25)) ((.ref q_26)) ((.ref q_27)) ((.ref q_28)) ((.int 0)) ((.int 0)) ((.int 0)) ((.int 1)) ((.int 0)) ((.int 0)) ((.int 0)) ((.int 0)) ((.int 0)) ((.int 0)) ((.ref q_29)) ((.ref q_30)) ((.int 0)) ((.ref q_31)) ((.ref q_32)) ((.ref q_33)) ((.ref q_35)) ((.int 0)) ((.ref q_36)) ((.ref q_37)) ((.ref q_38)) ((.ref q_39))) (cwV 2 hts gL_law_X8_feed rfl rfl rfl (by decide +kernel) ⟨Nat.le_of_ble_eq_true rfl, Nat.le_of_ble_eq_true rfl⟩) (pre_V (q := (RX8, TX8, 30)) (ci := 7) (q0 := 0) (hP.sub [21, 31] rfl) hK hN (hD.sub [21, 31] (by decide) rfl) rfl rfl) rfl rfl hl.1 rfl (lv_room (Nat.le_of_ble_eq_true rfl)) dL_law_167 ⟨Nat.le_of_ble_eq_true rfl, Nat.le_of_ble_eq_true rfl⟩) hP hD hS hA [21, 31] [0, 1, 2, 3, 4, 5, 6, 7, 8, 9, 10, 11, 12, 13, 14, 15, 16, 17, 18, 19, 20, 22, 23, 24, 25, 26, 27, 28, 29, 30, 32, 33, 34, 35, 36] rfl rfl (by decide) (by decide) (fun r_327 u H locs hw hP hD hS => ?_)
    have k_328 := hw
    obtain rfl : r_327 = 8 := k_328
    have hP : va_P D vwCl [(q_2, .inr (1, [.ref q_3, .ref q_4, .int 0, .int 0, .int 0])), (q_3, .inl (cB, 65536, .inl zf)), (q_4, .inl (cI, 1024, .inl zf)), (q_5, .inr (2, [.ref q_6, .ref q_7, .int 0])), (q_6, .inl (cI, 300, .inl zf)), (q_7, .inl (cI, 300, .inl zf)), (q_8, .inr (3, [.ref q_5, .ref q_9, .ref q_10, .ref q_11, .ref q_12, .ref q_13, .ref q_14, .ref q_15, .int 0, .int 0, .int 0, .int 0, .int 1, .int 0])), (q_9, .inl (cB, 65536, .inl zf)), (q_10, .inl (cI, 64, .inl zf)), (q_11, .inl (cZ, 64, .inl zf)), (q_12, .inl (cI, 64, .inl zf)), (q_13, .inl (cI, 64, .inl zf)), (q_14, .inl (cI, 64, .inl zf)), (q_15, .inl (cI, 64, .inl zf)), (q_16, .inr (0, [.ref q_8, .ref q_5, .ref q_17, .ref q_18, .ref q_19, .int 0])), (q_17, .inl (cZ, 64, .inl zf)), (q_18, .inl (cI, 64, .inl zf)), (q_19, .inl (cI, 300, .inl zf)), (q_20, .inr (5, [.ref q_2, .ref q_8, .ref q_5, .ref q_21, .int 0, .int 0])), (q_21, .inl (cB, 1600, .inl zf)), (q_22, .inr (4, [.ref q_2, .ref q_8, .ref q_5, .ref q_20])), (q_25, .inl (cB, 65536, .inl zf)), (q_26, .inl (cB, 65536, .inl zf)), (q_27, .inl (cZ, 65536, .inl zf)), (q_28, .inl (cI, 64, .inl zf)), (q_29, .inl (cI, 300, .inl zf)), (q_30, .inl (cI, 300, .inl zf)), (q_31, .inl (cI, 128, .inl zf)), (q_32, .inl (cI, 128, .inl zf)), (q_33, .inl (cI, 128, .inl zf)), (q_35, .inl (cB, 4096, .inl zf)), (q_36, .inl (cI, 64, .inl zf)), (q_37, .inl (cB, 100, .inl zf)), (q_38, .inl (cZ, 64, .inl zf)), (q_39, .inl (cI, 300, .inl zf))] H := hP
    have hD : va_D A [(q_2, .inr (1, [.ref q_3, .ref q_4, .int 0, .int 0, .int 0])), (q_3, .inl (cB, 65536, .inl zf)), (q_4, .inl (cI, 1024, .inl zf)), (q_5, .inr (2, [.ref q_6, .ref q_7, .int 0])), (q_6, .inl (cI, 300, .inl zf)), (q_7, .inl (cI, 300, .inl zf)), (q_8, .inr (3, [.ref q_5, .ref q_9, .ref q_10, .ref q_11, .ref q_12, .ref q_13, .ref q_14, .ref q_15, .int 0, .int 0, .int 0, .int 0, .int 1, .int 0])), (q_9, .inl (cB, 65536, .inl zf)), (q_10, .inl (cI, 64, .inl zf)), (q_11, .inl (cZ, 64, .inl zf)), (q_12, .inl (cI, 64, .inl zf)), (q_13, .inl (cI, 64, .inl zf)), (q_14, .inl (cI, 64, .inl zf)), (q_15, .inl (cI, 64, .inl zf)), (q_16, .inr (0, [.ref q_8, .ref q_5, .ref q_17, .ref q_18, .ref q_19, .int 0])), (q_17, .inl (cZ, 64, .inl zf)), (q_18, .inl (cI, 64, .inl zf)), (q_19, .inl (cI, 300, .inl zf)), (q_20, .inr (5, [.ref q_2, .ref q_8, .ref q_5, .ref q_21, .int 0, .int 0])), (q_21, .inl (cB, 1600, .inl zf)), (q_22, .inr (4, [.ref q_2, .ref q_8, .ref q_5, .ref q_20])), (q_25, .inl (cB, 65536, .inl zf)), (q_26, .inl (cB, 65536, .inl zf)), (q_27, .inl (cZ, 65536, .inl zf)), (q_28, .inl (cI, 64, .inl zf)), (q_29, .inl (cI, 300, .inl zf)), (q_30, .inl (cI, 300, .inl zf)), (q_31, .inl (cI, 128, .inl zf)), (q_32, .inl (cI, 128, .inl zf)), (q_33, .inl (cI, 128, .inl zf)), (q_35, .inl (cB, 4096, .inl zf)), (q_36, .inl (cI, 64, .inl zf)), (q_37, .inl (cB, 100, .inl zf)), (q_38, .inl (cZ, 64, .inl zf)), (q_39, .inl (cI, 300, .inl zf))] := hD
    refine lv_icmp_eq (tgt := 560) hx hb dL_law_170 (by decide) (fun c => ?_) (fun c => absurd (by decide) c)
    refine lv_iinc (v := 4) (lv' := [(3, .int 4), (2, .ref q_24), (1, .ref q_1), (0, .ref b)]) hx hb dL_law_560 hl (k := 0) rfl (by decide) (by decide) rfl (fun ls hl => ?_)
    refine lv_goto (tgt := 18) hx hb dL_law_563 (by decide) ?_
    refine lv_iload_n hx hb dL_law_18 rfl (lv_at hl 0 rfl) ?_
    refine lv_aload_n hx hb dL_law_19 rfl (lv_at hl 3 rfl) ?_
    refine va_slen hx hb hX hbl hbA hS dL_law_20 ?_
    refine lv_topi (fun z_329 ez_329 => ?_)
    obtain rfl : z_329 = 4 := ez_329.trans (by decide)
    refine lv_iconst (v := 4) hx hb dL_law_21 (by decide) ?_
    refine lv_isub hx hb dL_law_22 ?_
    refine lv_topi (fun z_330 ez_330 => ?_)
    obtain rfl : z_330 = 0 := ez_330.trans (by decide)
    refine lv_icmp_gt (tgt := 566) hx hb dL_law_23 (by decide) (fun c => ?_) (fun c => absurd (by decide) c)
    refine lv_iconst (v := 1) hx hb dL_law_566 (by decide) ?_
    refine va_forget (fun q hq => by have h9 := hS.2.2 q hq; rw [hAe] at h9; exact h9) ?_
    refine W.widen (k := 600000) (n := 7302250) (Nat.le_of_ble_eq_true rfl) (Nat.le_of_ble_eq_true rfl) ?_
    exact lw_ret hx hb hr hlocks dL_law_567
