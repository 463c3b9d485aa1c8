set_option maxHeartbeats 4000000 in
set_option maxRecDepth 100000 in
theorem K147_X8_write (l : Launch) (D : va_G) (cB cI cZ : ClassId) (sz : Nat) (h0 : Nat) (h1 : Nat) (h2 : Nat) (h3 : Nat)  (p0 : Int32) (p1 : Int32) (g0 : Value) (g1 : Value) (g2 : Value) (g3 : Value) (g4 : Value) (g5 : Value) (g6 : Value) (g7 : Value) (g8 : Value) (g9 : Value) (p2 : Int32) (g10 : Value) (g11 : Value) (g12 : Value) (g13 : Value) (g14 : Value) (g15 : Value) (g16 : Value) (g17 : Value) (g18 : Value) (g19 : Value) (g20 : Value) (g21 : Value) (g22 : Value) (g23 : Value) (g24 : Value) (f0 : Nat → Int32) (f1 : Nat → Int32) (i_p0 : 0 ≤ p0.toInt ∧ p0.toInt ≤ 4032) (i_p1 : 0 ≤ p1.toInt ∧ p1.toInt ≤ 65472) (b_f0 : FB f0) (b_f1 : FB f1) :
    CtI l D cB cI cZ yX8_write wsX8_write { frames := 0, cells := 0, slots := 0, locals := 0 } [.ref h0, .ref h1, .int p0, .int p1, .int 0] [(h0, .inr (7, [g0, .int 0, .ref h2, g1, .ref h3, g2, g3, g4, g5, g6, g7, g8, g9, .int p2, .int 0, g10, g11, g12, g13, g14, g15, g16, g17, g18, g19, g20, g21, g22, g23, g24])), (h1, .inl (cB, 4096, .inl f0)), (h2, .inl (cB, 65536, .inl f1)), (h3, .inl (cZ, 65536, .inl zf))] sz 0 0
      (fun (r : Int32) (u : Int32 × (Nat → Int32)) => r = 0 ∧ FB u.2)
      (fun u => [(h0, .inr (7, [g0, .int 0, .ref h2, g1, .ref h3, g2, g3, g4, g5, g6, g7, g8, g9, .int u.1, .int 0, g10, g11, g12, g13, g14, g15, g16, g17, g18, g19, g20, g21, g22, g23, g24])), (h1, .inl (cB, 4096, .inl f0)), (h2, .inl (cB, 65536, .inl u.2)), (h3, .inl (cZ, 65536, .inl zf))]) := by
  refine mk_metI (cc := cX8_write) (maxL := 7) (ret := (some .boolean)) (by decide) rfl (Nat.le_of_ble_eq_true rfl) ?_
  intro p e s m below meth c A hx hb hr hml hts hown hlocks hin hP hK hN hD hA hS ls hl
  have hown : s.vm.findClass RX8 = some m.cls := hown
  have hl : lv_has ls 7 [(0, .ref h0), (1, .ref h1), (2, .int p0), (3, .int p1), (4, .int 0)] := hl
  refine lv_aload_n hx hb dX8_write_0 rfl (lv_at hl 0 rfl) ?_
  refine va_get (D := D) (ci := 7) (v := .int 0) (C := RX8) (T := TX8) (N := 30) hx hb hts inX8_write_X8 hown hK hP 0 rfl rfl 14 (by decide) (hts _ wdX8_write_0) (fun _ h9 => h9) rfl dX8_write_1 ?_
  refine lv_iconst (v := 1) hx hb dX8_write_4 (by decide) ?_
  refine lv_icmp_ne (tgt := 12) hx hb dX8_write_5 (by decide) (fun c => ?_) (fun c => absurd c (by decide))
  refine lv_iconst (v := 0) hx hb dX8_write_12 (by decide) ?_
  refine lv_istore (lv' := [(5, .int 0), (0, .ref h0), (1, .ref h1), (2, .int p0), (3, .int p1), (4, .int 0)]) hx hb dX8_write_13 hl (by decide) rfl (fun ls hl => ?_)
  refine lv_aload_n hx hb dX8_write_15 rfl (lv_at hl 1 rfl) ?_
  refine lv_dup hx hb dX8_write_16 rfl ?_
  refine va_get (D := D) (ci := 7) (v := .int p2) (C := RX8) (T := TX8) (N := 30) hx hb hts inX8_write_X8 hown hK hP 0 rfl rfl 13 (by decide) (hts _ wdX8_write_1) (fun _ h9 => h9) rfl dX8_write_17 ?_
  refine lv_iload hx hb dX8_write_20 (lv_at hl 0 rfl) ?_
  refine lv_if_eq (tgt := 29) hx hb dX8_write_22 (by decide) (fun c => ?_) (fun c => absurd (by decide) c)
  refine lv_iconst (v := 1) hx hb dX8_write_29 (by decide) ?_
  refine lv_iadd hx hb dX8_write_30 ?_
  refine lv_topi (fun x_1 ex_1 => ?_)
  refine va_put (D := D) (ci := 7) (v := .int x_1) (ty := .int) (C := RX8) (T := TX8) (N := 30) hx hb hts inX8_write_X8 tyX8 tyX8_ok nmX8 hown hK hP hD hS 0 rfl rfl 13 (by decide) (hts _ wdX8_write_1) (fun _ h9 => h9) rfl (by decide +kernel) rfl rfl (Nat.le_of_ble_eq_true rfl) dX8_write_31 (fun H locs hP hD hS => ?_)
  have hP : va_P D vwCl [(h0, .inr (7, [g0, .int 0, .ref h2, g1, .ref h3, g2, g3, g4, g5, g6, g7, g8, g9, .int x_1, .int 0, g10, g11, g12, g13, g14, g15, g16, g17, g18, g19, g20, g21, g22, g23, g24])), (h1, .inl (cB, 4096, .inl f0)), (h2, .inl (cB, 65536, .inl f1)), (h3, .inl (cZ, 65536, .inl zf))] H := hP
  have hD : va_D A [(h0, .inr (7, [g0, .int 0, .ref h2, g1, .ref h3, g2, g3, g4, g5, g6, g7, g8, g9, .int x_1, .int 0, g10, g11, g12, g13, g14, g15, g16, g17, g18, g19, g20, g21, g22, g23, g24])), (h1, .inl (cB, 4096, .inl f0)), (h2, .inl (cB, 65536, .inl f1)), (h3, .inl (cZ, 65536, .inl zf))] := hD
  refine lv_iconst (v := 0) hx hb dX8_write_34 (by decide) ?_
  refine lv_istore (lv' := [(6, .int 0), (5, .int 0), (0, .ref h0), (1, .ref h1), (2, .int p0), (3, .int p1), (4, .int 0)]) hx hb dX8_write_35 hl (by decide) rfl (fun ls hl => ?_)
  refine kl (α := Int32 × (Nat → Int32)) (fun n a H locs ls => (0 ≤ Int32.toInt (a.1)) ∧ (Int32.toInt (a.1) ≤ 64) ∧ (FB (a.2)) ∧ (64 - Int32.toInt (a.1) < ((n : Nat) : Int)) ∧ va_P D vwCl [(h0, .inr (7, [g0, .int 0, .ref h2, g1, .ref h3, g2, g3, g4, g5, g6, g7, g8, g9, .int x_1, .int 0, g10, g11, g12, g13, g14, g15, g16, g17, g18, g19, g20, g21, g22, g23, g24])), (h1, .inl (cB, 4096, .inl f0)), (h2, .inl (cB, 65536, .inl (a.2))), (h3, .inl (cZ, 65536, .inl zf))] H ∧ va_D A [(h0, .inr (7, [g0, .int 0, .ref h2, g1, .ref h3, g2, g3, g4, g5, g6, g7, g8, g9, .int x_1, .int 0, g10, g11, g12, g13, g14, g15, g16, g17, g18, g19, g20, g21, g22, g23, g24])), (h1, .inl (cB, 4096, .inl f0)), (h2, .inl (cB, 65536, .inl (a.2))), (h3, .inl (cZ, 65536, .inl zf))] ∧ va_S A s.heap H locs ∧ lv_has ls 7 [(6, .int (a.1)), (5, .int 0), (0, .ref h0), (1, .ref h1), (2, .int p0), (3, .int p1), (4, .int 0)]) 65 (0, f1) ⟨(by show 0 ≤ Int32.toInt 0; decide), (by show Int32.toInt 0 ≤ 64; decide), b_f1, (by show 64 - Int32.toInt 0 < ((65 : Nat) : Int); have := (by decide : Int32.toInt 0 = 0); omega), hP, hD, hS, hl⟩ (fun a H locs ls h => ?_) (fun n_4 ih_5 a H locs ls h => ?_)
  · obtain ⟨j_6, j_7, j_8, j_9, _⟩ := h
    omega
  obtain ⟨v_3, f_2⟩ := a
  obtain ⟨j_6, j_7, j_8, j_9, hP, hD, hS, hl⟩ := h
  have j_6 : 0 ≤ Int32.toInt v_3 := j_6
  have j_7 : Int32.toInt v_3 ≤ 64 := j_7
  have bf_2 : FB f_2 := j_8
  have j_9 : 64 - Int32.toInt v_3 < ((n_4 + 1 : Nat) : Int) := j_9
  have hP : va_P D vwCl [(h0, .inr (7, [g0, .int 0, .ref h2, g1, .ref h3, g2, g3, g4, g5, g6, g7, g8, g9, .int x_1, .int 0, g10, g11, g12, g13, g14, g15, g16, g17, g18, g19, g20, g21, g22, g23, g24])), (h1, .inl (cB, 4096, .inl f0)), (h2, .inl (cB, 65536, .inl f_2)), (h3, .inl (cZ, 65536, .inl zf))] H := hP
  have hD : va_D A [(h0, .inr (7, [g0, .int 0, .ref h2, g1, .ref h3, g2, g3, g4, g5, g6, g7, g8, g9, .int x_1, .int 0, g10, g11, g12, g13, g14, g15, g16, g17, g18, g19, g20, g21, g22, g23, g24])), (h1, .inl (cB, 4096, .inl f0)), (h2, .inl (cB, 65536, .inl f_2)), (h3, .inl (cZ, 65536, .inl zf))] := hD
  have hl : lv_has ls 7 [(6, .int v_3), (5, .int 0), (0, .ref h0), (1, .ref h1), (2, .int p0), (3, .int p1), (4, .int 0)] := hl
  refine lv_iload hx hb dX8_write_37 (lv_at hl 0 rfl) ?_
  refine lv_bipush (v := 64) hx hb dX8_write_39 (by decide) ?_
  refine lv_icmp_ge (tgt := 79) hx hb dX8_write_41 (by decide) (fun c => ?_) (fun c => ?_)
  · skip
    have k_10 := (ti_le (x := 64) (y := v_3) (a := 64) (b := v_3.toInt) (by decide) rfl).mp c
    obtain rfl : v_3 = 64 := ti_inj (a := 64) (by decide) (by omega)
    refine lv_iconst (v := 0) hx hb dX8_write_79 (by decide) ?_
    refine lv_istore (lv' := [(6, .int 0), (5, .int 0), (0, .ref h0), (1, .ref h1), (2, .int p0), (3, .int p1), (4, .int 0)]) hx hb dX8_write_80 hl (by decide) rfl (fun ls hl => ?_)
    refine kl (α := Int32) (fun n a H locs ls => (0 ≤ Int32.toInt a) ∧ (Int32.toInt a ≤ 64) ∧ (64 - Int32.toInt a < ((n : Nat) : Int)) ∧ va_P D vwCl [(h0, .inr (7, [g0, .int 0, .ref h2, g1, .ref h3, g2, g3, g4, g5, g6, g7, g8, g9, .int x_1, .int 0, g10, g11, g12, g13, g14, g15, g16, g17, g18, g19, g20, g21, g22, g23, g24])), (h1, .inl (cB, 4096, .inl f0)), (h2, .inl (cB, 65536, .inl f_2)), (h3, .inl (cZ, 65536, .inl zf))] H ∧ va_D A [(h0, .inr (7, [g0, .int 0, .ref h2, g1, .ref h3, g2, g3, g4, g5, g6, g7, g8, g9, .int x_1, .int 0, g10, g11, g12, g13, g14, g15, g16, g17, g18, g19, g20, g21, g22, g23, g24])), (h1, .inl (cB, 4096, .inl f0)), (h2, .inl (cB, 65536, .inl f_2)), (h3, .inl (cZ, 65536, .inl zf))] ∧ va_S A s.heap H locs ∧ lv_has ls 7 [(6, .int a), (5, .int 0), (0, .ref h0), (1, .ref h1), (2, .int p0), (3, .int p1), (4, .int 0)]) 65 0 ⟨(by show 0 ≤ Int32.toInt 0; decide), (by show Int32.toInt 0 ≤ 64; decide), (by show 64 - Int32.toInt 0 < ((65 : Nat) : Int); have := (by decide : Int32.toInt 0 = 0); omega), hP, hD, hS, hl⟩ (fun a H locs ls h => ?_) (fun n_12 ih_13 a H locs ls h => ?_)
    · obtain ⟨j_14, j_15, j_16, _⟩ := h
      omega
    obtain ⟨v_11, rfl⟩ : ∃ z, z = a := ⟨_, rfl⟩
    obtain ⟨j_14, j_15, j_16, hP, hD, hS, hl⟩ := h
    have j_14 : 0 ≤ Int32.toInt v_11 := j_14
    have j_15 : Int32.toInt v_11 ≤ 64 := j_15
    have j_16 : 64 - Int32.toInt v_11 < ((n_12 + 1 : Nat) : Int) := j_16
    have hP : va_P D vwCl [(h0, .inr (7, [g0, .int 0, .ref h2, g1, .ref h3, g2, g3, g4, g5, g6, g7, g8, g9, .int x_1, .int 0, g10, g11, g12, g13, g14, g15, g16, g17, g18, g19, g20, g21, g22, g23, g24])), (h1, .inl (cB, 4096, .inl f0)), (h2, .inl (cB, 65536, .inl f_2)), (h3, .inl (cZ, 65536, .inl zf))] H := hP
    have hD : va_D A [(h0, .inr (7, [g0, .int 0, .ref h2, g1, .ref h3, g2, g3, g4, g5, g6, g7, g8, g9, .int x_1, .int 0, g10, g11, g12, g13, g14, g15, g16, g17, g18, g19, g20, g21, g22, g23, g24])), (h1, .inl (cB, 4096, .inl f0)), (h2, .inl (cB, 65536, .inl f_2)), (h3, .inl (cZ, 65536, .inl zf))] := hD
    have hl : lv_has ls 7 [(6, .int v_11), (5, .int 0), (0, .ref h0), (1, .ref h1), (2, .int p0), (3, .int p1), (4, .int 0)] := hl
    refine lv_iload hx hb dX8_write_82 (lv_at hl 0 rfl) ?_
    refine lv_bipush (v := 64) hx hb dX8_write_84 (by decide) ?_
    refine lv_icmp_ge (tgt := 142) hx hb dX8_write_86 (by decide) (fun c => ?_) (fun c => ?_)
    · skip
      have k_17 := (ti_le (x := 64) (y := v_11) (a := 64) (b := v_11.toInt) (by decide) rfl).mp c
      obtain rfl : v_11 = 64 := ti_inj (a := 64) (by decide) (by omega)
      refine lv_aload_n hx hb dX8_write_142 rfl (lv_at hl 2 rfl) ?_
      refine lv_dup hx hb dX8_write_143 rfl ?_
      refine va_get (D := D) (ci := 7) (v := .int 0) (C := RX8) (T := TX8) (N := 30) hx hb hts inX8_write_X8 hown hK hP 0 rfl rfl 14 (by decide) (hts _ wdX8_write_0) (fun _ h9 => h9) rfl dX8_write_144 ?_
      refine lv_aload_n hx hb dX8_write_147 rfl (lv_at hl 2 rfl) ?_
      refine va_get (D := D) (ci := 7) (v := .int 0) (C := RX8) (T := TX8) (N := 30) hx hb hts inX8_write_X8 hown hK hP 0 rfl rfl 14 (by decide) (hts _ wdX8_write_0) (fun _ h9 => h9) rfl dX8_write_148 ?_
      refine lv_if_le (tgt := 158) hx hb dX8_write_151 (by decide) (fun c => ?_) (fun c => absurd (by decide) c)
      refine lv_iconst (v := 0) hx hb dX8_write_158 (by decide) ?_
      refine lv_isub hx hb dX8_write_159 ?_
      refine lv_topi (fun z_18 ez_18 => ?_)
      obtain rfl : z_18 = 0 := ez_18.trans (by decide)
      refine va_put (D := D) (ci := 7) (v := .int 0) (ty := .int) (C := RX8) (T := TX8) (N := 30) hx hb hts inX8_write_X8 tyX8 tyX8_ok nmX8 hown hK hP hD hS 0 rfl rfl 14 (by decide) (hts _ wdX8_write_0) (fun _ h9 => h9) rfl (by decide +kernel) rfl rfl (Nat.le_of_ble_eq_true rfl) dX8_write_160 (fun H locs hP hD hS => ?_)
      have hP : va_P D vwCl [(h0, .inr (7, [g0, .int 0, .ref h2, g1, .ref h3, g2, g3, g4, g5, g6, g7, g8, g9, .int x_1, .int 0, g10, g11, g12, g13, g14, g15, g16, g17, g18, g19, g20, g21, g22, g23, g24])), (h1, .inl (cB, 4096, .inl f0)), (h2, .inl (cB, 65536, .inl f_2)), (h3, .inl (cZ, 65536, .inl zf))] H := hP
      have hD : va_D A [(h0, .inr (7, [g0, .int 0, .ref h2, g1, .ref h3, g2, g3, g4, g5, g6, g7, g8, g9, .int x_1, .int 0, g10, g11, g12, g13, g14, g15, g16, g17, g18, g19, g20, g21, g22, g23, g24])), (h1, .inl (cB, 4096, .inl f0)), (h2, .inl (cB, 65536, .inl f_2)), (h3, .inl (cZ, 65536, .inl zf))] := hD
      refine lv_aload_n hx hb dX8_write_163 rfl (lv_at hl 2 rfl) ?_
      refine lv_aload_n hx hb dX8_write_164 rfl (lv_at hl 2 rfl) ?_
      refine va_get (D := D) (ci := 7) (v := .int 0) (C := RX8) (T := TX8) (N := 30) hx hb hts inX8_write_X8 hown hK hP 0 rfl rfl 1 (by decide) (hts _ wdX8_write_2) (fun _ h9 => h9) rfl dX8_write_165 ?_
      refine lv_if_ne (tgt := 176) hx hb dX8_write_168 (by decide) (fun c => absurd (by decide) c) (fun c => ?_)
      refine lv_iload hx hb dX8_write_171 (lv_at hl 1 rfl) ?_
      refine lv_if_eq (tgt := 180) hx hb dX8_write_173 (by decide) (fun c => ?_) (fun c => absurd (by decide) c)
      refine lv_iconst (v := 0) hx hb dX8_write_180 (by decide) ?_
      refine va_put (D := D) (ci := 7) (v := .int 0) (ty := .boolean) (C := RX8) (T := TX8) (N := 30) hx hb hts inX8_write_X8 tyX8 tyX8_ok nmX8 hown hK hP hD hS 0 rfl rfl 1 (by decide) (hts _ wdX8_write_2) (fun _ h9 => h9) rfl (by decide +kernel) rfl rfl (Nat.le_of_ble_eq_true rfl) dX8_write_181 (fun H locs hP hD hS => ?_)
      have hP : va_P D vwCl [(h0, .inr (7, [g0, .int 0, .ref h2, g1, .ref h3, g2, g3, g4, g5, g6, g7, g8, g9, .int x_1, .int 0, g10, g11, g12, g13, g14, g15, g16, g17, g18, g19, g20, g21, g22, g23, g24])), (h1, .inl (cB, 4096, .inl f0)), (h2, .inl (cB, 65536, .inl f_2)), (h3, .inl (cZ, 65536, .inl zf))] H := hP
      have hD : va_D A [(h0, .inr (7, [g0, .int 0, .ref h2, g1, .ref h3, g2, g3, g4, g5, g6, g7, g8, g9, .int x_1, .int 0, g10, g11, g12, g13, g14, g15, g16, g17, g18, g19, g20, g21, g22, g23, g24])), (h1, .inl (cB, 4096, .inl f0)), (h2, .inl (cB, 65536, .inl f_2)), (h3, .inl (cZ, 65536, .inl zf))] := hD
      refine lv_iload hx hb dX8_write_184 (lv_at hl 1 rfl) ?_
      exact kr_z (x_1, f_2) hx hb hr rfl hlocks hP hD hS ⟨rfl, bf_2⟩ dX8_write_186
    · skip
      have k_19 := mt (ti_le (x := 64) (y := v_11) (a := 64) (b := v_11.toInt) (by decide) rfl).mpr c
      refine lv_aload_n hx hb dX8_write_89 rfl (lv_at hl 2 rfl) ?_
      refine va_get (D := D) (ci := 7) (v := .ref h3) (C := RX8) (T := TX8) (N := 30) hx hb hts inX8_write_X8 hown hK hP 0 rfl rfl 4 (by decide) (hts _ wdX8_write_3) (fun _ h9 => h9) rfl dX8_write_90 ?_
      refine lv_iload_n hx hb dX8_write_93 rfl (lv_at hl 5 rfl) ?_
      refine lv_iload hx hb dX8_write_94 (lv_at hl 0 rfl) ?_
      refine lv_iadd hx hb dX8_write_96 ?_
      refine lv_topi (fun x_20 ex_20 => ?_)
      have tx_20 : x_20.toInt = p1.toInt + v_11.toInt := by rw [ex_20]; exact ti_add rfl rfl (by omega) (by omega)
      refine lv_iload hx hb dX8_write_97 (lv_at hl 1 rfl) ?_
      refine lv_if_eq (tgt := 134) hx hb dX8_write_99 (by decide) (fun c => ?_) (fun c => absurd (by decide) c)
      refine lv_iconst (v := 0) hx hb dX8_write_134 (by decide) ?_
      refine va_zast hx hb hK hP hD hS 3 2 rfl rfl (ti_in (a := x_20.toInt) rfl (by omega) (by omega)) dX8_write_135 (fun H locs hP hD hS => ?_)
      rw [zf_updZ] at hP hD
      have hP : va_P D vwCl [(h0, .inr (7, [g0, .int 0, .ref h2, g1, .ref h3, g2, g3, g4, g5, g6, g7, g8, g9, .int x_1, .int 0, g10, g11, g12, g13, g14, g15, g16, g17, g18, g19, g20, g21, g22, g23, g24])), (h1, .inl (cB, 4096, .inl f0)), (h2, .inl (cB, 65536, .inl f_2)), (h3, .inl (cZ, 65536, .inl zf))] H := hP
      have hD : va_D A [(h0, .inr (7, [g0, .int 0, .ref h2, g1, .ref h3, g2, g3, g4, g5, g6, g7, g8, g9, .int x_1, .int 0, g10, g11, g12, g13, g14, g15, g16, g17, g18, g19, g20, g21, g22, g23, g24])), (h1, .inl (cB, 4096, .inl f0)), (h2, .inl (cB, 65536, .inl f_2)), (h3, .inl (cZ, 65536, .inl zf))] := hD
      obtain ⟨x_21, ex_21⟩ : ∃ y : Int32, y = v_11 + 1 := ⟨_, rfl⟩
      have tx_21 : x_21.toInt = v_11.toInt + 1 := by rw [ex_21]; exact ti_add rfl (by decide) (by omega) (by omega)
      refine lv_iinc (v := x_21) (lv' := [(6, .int x_21), (5, .int 0), (0, .ref h0), (1, .ref h1), (2, .int p0), (3, .int p1), (4, .int 0)]) hx hb dX8_write_136 hl (k := 0) rfl (by rw [ex_21]; rfl) (by decide) rfl (fun ls hl => ?_)
      refine lv_goto (tgt := 82) hx hb dX8_write_139 (by decide) ?_
      exact ih_13 x_21 _ _ _ ⟨(by show 0 ≤ Int32.toInt x_21; omega), (by show Int32.toInt x_21 ≤ 64; omega), (by show 64 - Int32.toInt x_21 < ((n_12 : Nat) : Int); omega), hP, hD, hS, hl⟩
  · skip
    have k_22 := mt (ti_le (x := 64) (y := v_3) (a := 64) (b := v_3.toInt) (by decide) rfl).mpr c
    refine lv_iload hx hb dX8_write_44 (lv_at hl 1 rfl) ?_
    refine lv_if_eq (tgt := 58) hx hb dX8_write_46 (by decide) (fun c => ?_) (fun c => absurd (by decide) c)
    refine lv_aload_n hx hb dX8_write_58 rfl (lv_at hl 2 rfl) ?_
    refine va_get (D := D) (ci := 7) (v := .ref h2) (C := RX8) (T := TX8) (N := 30) hx hb hts inX8_write_X8 hown hK hP 0 rfl rfl 2 (by decide) (hts _ wdX8_write_4) (fun _ h9 => h9) rfl dX8_write_59 ?_
    refine lv_iload_n hx hb dX8_write_62 rfl (lv_at hl 5 rfl) ?_
    refine lv_iload hx hb dX8_write_63 (lv_at hl 0 rfl) ?_
    refine lv_iadd hx hb dX8_write_65 ?_
    refine lv_topi (fun x_23 ex_23 => ?_)
    have tx_23 : x_23.toInt = p1.toInt + v_3.toInt := by rw [ex_23]; exact ti_add rfl rfl (by omega) (by omega)
    refine lv_aload_n hx hb dX8_write_66 rfl (lv_at hl 3 rfl) ?_
    refine lv_iload_n hx hb dX8_write_67 rfl (lv_at hl 4 rfl) ?_
    refine lv_iload hx hb dX8_write_68 (lv_at hl 0 rfl) ?_
    refine lv_iadd hx hb dX8_write_70 ?_
    refine lv_topi (fun x_24 ex_24 => ?_)
    have tx_24 : x_24.toInt = p0.toInt + v_3.toInt := by rw [ex_24]; exact ti_add rfl rfl (by omega) (by omega)
    refine va_bald hx hb hK hP 1 0 rfl rfl (ti_in (a := x_24.toInt) rfl (by omega) (by omega)) dX8_write_71 ?_
    refine lv_topi (fun x_25 ex_25 => ?_)
    refine va_bast hx hb hK hP hD hS 2 0 rfl rfl (ti_in (a := x_23.toInt) rfl (by omega) (by omega)) dX8_write_72 (fun H locs hP hD hS => ?_)
    obtain ⟨f_26, ef_26⟩ : ∃ g : Nat → Int32, g = upd f_2 (Int32.toNatClampNeg x_23) (vp_nar .byte x_25) := ⟨_, rfl⟩
    rw [← ef_26] at hP hD
    have bf_26 : FB f_26 := by rw [ef_26]; exact FB_upd bf_2 _ _
    have hP : va_P D vwCl [(h0, .inr (7, [g0, .int 0, .ref h2, g1, .ref h3, g2, g3, g4, g5, g6, g7, g8, g9, .int x_1, .int 0, g10, g11, g12, g13, g14, g15, g16, g17, g18, g19, g20, g21, g22, g23, g24])), (h1, .inl (cB, 4096, .inl f0)), (h2, .inl (cB, 65536, .inl f_26)), (h3, .inl (cZ, 65536, .inl zf))] H := hP
    have hD : va_D A [(h0, .inr (7, [g0, .int 0, .ref h2, g1, .ref h3, g2, g3, g4, g5, g6, g7, g8, g9, .int x_1, .int 0, g10, g11, g12, g13, g14, g15, g16, g17, g18, g19, g20, g21, g22, g23, g24])), (h1, .inl (cB, 4096, .inl f0)), (h2, .inl (cB, 65536, .inl f_26)), (h3, .inl (cZ, 65536, .inl zf))] := hD
    obtain ⟨x_27, ex_27⟩ : ∃ y : Int32, y = v_3 + 1 := ⟨_, rfl⟩
    have tx_27 : x_27.toInt = v_3.toInt + 1 := by rw [ex_27]; exact ti_add rfl (by decide) (by omega) (by omega)
    refine lv_iinc (v := x_27) (lv' := [(6, .int x_27), (5, .int 0), (0, .ref h0), (1, .ref h1), (2, .int p0), (3, .int p1), (4, .int 0)]) hx hb dX8_write_73 hl (k := 0) rfl (by rw [ex_27]; rfl) (by decide) rfl (fun ls hl => ?_)
    refine lv_goto (tgt := 37) hx hb dX8_write_76 (by decide) ?_
    exact ih_5 (x_27, f_26) _ _ _ ⟨(by show 0 ≤ Int32.toInt x_27; omega), (by show Int32.toInt x_27 ≤ 64; omega), bf_26, (by show 64 - Int32.toInt x_27 < ((n_4 : Nat) : Int); omega), hP, hD, hS, hl⟩
set_option maxHeartbeats 4000000 in
set_option maxRecDepth 100000 in
theorem K143_X8_checkpoint (l : Launch) (D : va_G) (cB cI cZ : ClassId) (sz : Nat) (h0 : Nat) (h1 : Nat) (h2 : Nat) (h3 : Nat) (h4 : Nat) (h5 : Nat)  (g0 : Value) (g1 : Value) (g2 : Value) (g3 : Value) (g4 : Value) (g5 : Value) (g6 : Value) (g7 : Value) (g8 : Value) (g9 : Value) (g10 : Value) (g11 : Value) (g12 : Value) (g13 : Value)  :
    CtI l D cB cI cZ yX8_checkpoint wsX8_checkpoint { frames := 1, cells := 0, slots := 0, locals := 26 } [.ref h0] [(h0, .inr (7, [g0, .int 0, .ref h1, g1, .ref h2, .ref h3, .int 0, g2, .int 0, .int 1, .int 0, .int 0, .int 0, .int 0, .int 0, g3, .ref h4, g4, .int 0, g5, g6, g7, g8, g9, .ref h5, .int 0, g10, g11, g12, g13])), (h1, .inl (cB, 65536, .inl zf)), (h2, .inl (cZ, 65536, .inl zf)), (h3, .inl (cI, 64, .inl zf)), (h4, .inl (cI, 300, .inl zf)), (h5, .inl (cB, 4096, .inl zf))] sz 0 0
      (fun (r : Int32) (u : Unit) => r = 1)
      (fun u => []) := by
  refine mk_metI (cc := cX8_checkpoint) (maxL := 3) (ret := (some .int)) (by decide) rfl (Nat.le_of_ble_eq_true rfl) ?_
  intro p e s m below meth c A hx hb hr hml hts hown hlocks hin hP hK hN hD hA hS ls hl
  have hown : s.vm.findClass RX8 = some m.cls := hown
  have hl : lv_has ls 3 [(0, .ref h0)] := hl
  refine lv_aload_n hx hb dX8_checkpoint_0 rfl (lv_at hl 0 rfl) ?_
  refine lv_iconst (v := 0) hx hb dX8_checkpoint_1 (by decide) ?_
  refine va_put (D := D) (ci := 7) (v := .int 0) (ty := .int) (C := RX8) (T := TX8) (N := 30) hx hb hts inX8_checkpoint_X8 tyX8 tyX8_ok nmX8 hown hK hP hD hS 0 rfl rfl 0 (by decide) (hts _ wdX8_checkpoint_0) (fun _ h9 => h9) rfl (by decide +kernel) rfl rfl (Nat.le_of_ble_eq_true rfl) dX8_checkpoint_2 (fun H locs hP hD hS => ?_)
  have hP : va_P D vwCl [(h0, .inr (7, [.int 0, .int 0, .ref h1, g1, .ref h2, .ref h3, .int 0, g2, .int 0, .int 1, .int 0, .int 0, .int 0, .int 0, .int 0, g3, .ref h4, g4, .int 0, g5, g6, g7, g8, g9, .ref h5, .int 0, g10, g11, g12, g13])), (h1, .inl (cB, 65536, .inl zf)), (h2, .inl (cZ, 65536, .inl zf)), (h3, .inl (cI, 64, .inl zf)), (h4, .inl (cI, 300, .inl zf)), (h5, .inl (cB, 4096, .inl zf))] H := hP
  have hD : va_D A [(h0, .inr (7, [.int 0, .int 0, .ref h1, g1, .ref h2, .ref h3, .int 0, g2, .int 0, .int 1, .int 0, .int 0, .int 0, .int 0, .int 0, g3, .ref h4, g4, .int 0, g5, g6, g7, g8, g9, .ref h5, .int 0, g10, g11, g12, g13])), (h1, .inl (cB, 65536, .inl zf)), (h2, .inl (cZ, 65536, .inl zf)), (h3, .inl (cI, 64, .inl zf)), (h4, .inl (cI, 300, .inl zf)), (h5, .inl (cB, 4096, .inl zf))] := hD
  refine lv_aload_n hx hb dX8_checkpoint_5 rfl (lv_at hl 0 rfl) ?_
  refine va_get (D := D) (ci := 7) (v := .int 0) (C := RX8) (T := TX8) (N := 30) hx hb hts inX8_checkpoint_X8 hown hK hP 0 rfl rfl 1 (by decide) (hts _ wdX8_checkpoint_1) (fun _ h9 => h9) rfl dX8_checkpoint_6 ?_
  refine lv_if_eq (tgt := 15) hx hb dX8_checkpoint_9 (by decide) (fun c => ?_) (fun c => absurd (by decide) c)
  refine lv_aload_n hx hb dX8_checkpoint_15 rfl (lv_at hl 0 rfl) ?_
  refine kc_i (wr := [(h1, .inl (cB, 65536, .inl zf)), (h2, .inl (cZ, 65536, .inl zf)), (h3, .inl (cI, 64, .inl zf)), (h4, .inl (cI, 300, .inl zf)), (h5, .inl (cB, 4096, .inl zf))]) (va_runV (As := []) (rest := []) ⟨hx, hb, hml, hown, hts⟩ (K116_X8_syncAll l D cB cI cZ _ h0 ((.int 0)) ((.int 0)) ((.ref h1)) (g1) ((.ref h2)) ((.ref h3)) ((.int 0)) (g2) ((.int 0)) ((.int 1)) ((.int 0)) ((.int 0)) ((.int 0)) ((.int 0)) ((.int 0)) (g3) ((.ref h4)) (g4) (g5) (g6) (g7) (g8) (g9) ((.ref h5)) ((.int 0)) (g10) (g11) (g12) (g13)) (cwV 0 hts gX8_checkpoint_X8_syncAll rfl rfl rfl (by decide +kernel) ⟨Nat.le_of_ble_eq_true rfl, Nat.le_of_ble_eq_true rfl⟩) (pre_V (q := (RX8, TX8, 30)) (ci := 7) (q0 := 0) (hP.sub [0] rfl) hK hN (hD.sub [0] (by decide) rfl) rfl rfl) rfl rfl hl.1 rfl (lv_room (Nat.le_of_ble_eq_true rfl)) dX8_checkpoint_16 ⟨Nat.le_of_ble_eq_true rfl, Nat.le_of_ble_eq_true rfl⟩) hP hD hS hA [0] [1, 2, 3, 4, 5] rfl rfl (by decide) (by decide) (fun r_1 u H locs hw hP hD hS => ?_)
  have k_2 := hw
  obtain rfl : r_1 = 0 := k_2
  have hP : va_P D vwCl [(h1, .inl (cB, 65536, .inl zf)), (h2, .inl (cZ, 65536, .inl zf)), (h3, .inl (cI, 64, .inl zf)), (h4, .inl (cI, 300, .inl zf)), (h5, .inl (cB, 4096, .inl zf)), (h0, .inr (7, [.int 0, .int 0, .ref h1, g1, .ref h2, .ref h3, .int 0, g2, .int 0, .int 1, .int 0, .int 0, .int 0, .int 0, .int 0, g3, .ref h4, g4, .int 0, g5, g6, g7, g8, g9, .ref h5, .int 0, g10, g11, g12, g13]))] H := hP
  have hD : va_D A [(h1, .inl (cB, 65536, .inl zf)), (h2, .inl (cZ, 65536, .inl zf)), (h3, .inl (cI, 64, .inl zf)), (h4, .inl (cI, 300, .inl zf)), (h5, .inl (cB, 4096, .inl zf)), (h0, .inr (7, [.int 0, .int 0, .ref h1, g1, .ref h2, .ref h3, .int 0, g2, .int 0, .int 1, .int 0, .int 0, .int 0, .int 0, .int 0, g3, .ref h4, g4, .int 0, g5, g6, g7, g8, g9, .ref h5, .int 0, g10, g11, g12, g13]))] := hD
  refine lv_bipush (v := (-5)) hx hb dX8_checkpoint_19 (by decide) ?_
  refine lv_icmp_ne (tgt := 27) hx hb dX8_checkpoint_21 (by decide) (fun c => ?_) (fun c => absurd c (by decide))
  refine lv_aload_n hx hb dX8_checkpoint_27 rfl (lv_at hl 0 rfl) ?_
  refine lv_iconst (v := 0) hx hb dX8_checkpoint_28 (by decide) ?_
  refine va_put (D := D) (ci := 7) (v := .int 0) (ty := .int) (C := RX8) (T := TX8) (N := 30) hx hb hts inX8_checkpoint_X8 tyX8 tyX8_ok nmX8 hown hK hP hD hS 5 rfl rfl 25 (by decide) (hts _ wdX8_checkpoint_2) (fun _ h9 => h9) rfl (by decide +kernel) rfl rfl (Nat.le_of_ble_eq_true rfl) dX8_checkpoint_29 (fun H locs hP hD hS => ?_)
  have hP : va_P D vwCl [(h1, .inl (cB, 65536, .inl zf)), (h2, .inl (cZ, 65536, .inl zf)), (h3, .inl (cI, 64, .inl zf)), (h4, .inl (cI, 300, .inl zf)), (h5, .inl (cB, 4096, .inl zf)), (h0, .inr (7, [.int 0, .int 0, .ref h1, g1, .ref h2, .ref h3, .int 0, g2, .int 0, .int 1, .int 0, .int 0, .int 0, .int 0, .int 0, g3, .ref h4, g4, .int 0, g5, g6, g7, g8, g9, .ref h5, .int 0, g10, g11, g12, g13]))] H := hP
  have hD : va_D A [(h1, .inl (cB, 65536, .inl zf)), (h2, .inl (cZ, 65536, .inl zf)), (h3, .inl (cI, 64, .inl zf)), (h4, .inl (cI, 300, .inl zf)), (h5, .inl (cB, 4096, .inl zf)), (h0, .inr (7, [.int 0, .int 0, .ref h1, g1, .ref h2, .ref h3, .int 0, g2, .int 0, .int 1, .int 0, .int 0, .int 0, .int 0, .int 0, g3, .ref h4, g4, .int 0, g5, g6, g7, g8, g9, .ref h5, .int 0, g10, g11, g12, g13]))] := hD
  refine lv_aload_n hx hb dX8_checkpoint_32 rfl (lv_at hl 0 rfl) ?_
  refine lv_bipush (v := 67) hx hb dX8_checkpoint_33 (by decide) ?_
  refine lv_iconst (v := 1) hx hb dX8_checkpoint_35 (by decide) ?_
  refine kc_v (wr := [(h1, .inl (cB, 65536, .inl zf)), (h2, .inl (cZ, 65536, .inl zf)), (h3, .inl (cI, 64, .inl zf)), (h4, .inl (cI, 300, .inl zf))]) (va_runV (As := [.int 67, .int 1]) (rest := []) ⟨hx, hb, hml, hown, hts⟩ (K87_X8_octets l D cB cI cZ _ h0 h5 67 ((.int 0)) ((.int 0)) ((.ref h1)) (g1) ((.ref h2)) ((.ref h3)) ((.int 0)) (g2) ((.int 0)) ((.int 1)) ((.int 0)) ((.int 0)) ((.int 0)) ((.int 0)) ((.int 0)) (g3) ((.ref h4)) (g4) ((.int 0)) (g5) (g6) (g7) (g8) (g9) 0 (g10) (g11) (g12) (g13) (by decide)) (cwV 2 hts gX8_checkpoint_X8_octets rfl rfl rfl (by decide +kernel) ⟨Nat.le_of_ble_eq_true rfl, Nat.le_of_ble_eq_true rfl⟩) (pre_V (q := (RX8, TX8, 30)) (ci := 7) (q0 := 0) (hP.sub [5, 4] rfl) hK hN (hD.sub [5, 4] (by decide) rfl) rfl rfl) rfl rfl hl.1 rfl (lv_room (Nat.le_of_ble_eq_true rfl)) dX8_checkpoint_36 ⟨Nat.le_of_ble_eq_true rfl, Nat.le_of_ble_eq_true rfl⟩) hP hD hS hA [5, 4] [0, 1, 2, 3] rfl rfl (by decide) (by decide) (fun  u H locs hw hP hD hS => ?_)
  obtain ⟨x_3, f_4⟩ := u
  obtain ⟨k_5, bf_4⟩ := hw
  obtain rfl : x_3 = 1 := ti_inj (a := 1) (by decide) (k_5.trans (by decide))
  have bf_4 : FB f_4 := bf_4
  have hP : va_P D vwCl [(h1, .inl (cB, 65536, .inl zf)), (h2, .inl (cZ, 65536, .inl zf)), (h3, .inl (cI, 64, .inl zf)), (h4, .inl (cI, 300, .inl zf)), (h0, .inr (7, [.int 0, .int 0, .ref h1, g1, .ref h2, .ref h3, .int 0, g2, .int 0, .int 1, .int 0, .int 0, .int 0, .int 0, .int 0, g3, .ref h4, g4, .int 0, g5, g6, g7, g8, g9, .ref h5, .int 1, g10, g11, g12, g13])), (h5, .inl (cB, 4096, .inl f_4))] H := hP
  have hD : va_D A [(h1, .inl (cB, 65536, .inl zf)), (h2, .inl (cZ, 65536, .inl zf)), (h3, .inl (cI, 64, .inl zf)), (h4, .inl (cI, 300, .inl zf)), (h0, .inr (7, [.int 0, .int 0, .ref h1, g1, .ref h2, .ref h3, .int 0, g2, .int 0, .int 1, .int 0, .int 0, .int 0, .int 0, .int 0, g3, .ref h4, g4, .int 0, g5, g6, g7, g8, g9, .ref h5, .int 1, g10, g11, g12, g13])), (h5, .inl (cB, 4096, .inl f_4))] := hD
  refine lv_aload_n hx hb dX8_checkpoint_39 rfl (lv_at hl 0 rfl) ?_
  refine lv_bipush (v := 80) hx hb dX8_checkpoint_40 (by decide) ?_
  refine lv_iconst (v := 1) hx hb dX8_checkpoint_42 (by decide) ?_
  refine kc_v (wr := [(h1, .inl (cB, 65536, .inl zf)), (h2, .inl (cZ, 65536, .inl zf)), (h3, .inl (cI, 64, .inl zf)), (h4, .inl (cI, 300, .inl zf))]) (va_runV (As := [.int 80, .int 1]) (rest := []) ⟨hx, hb, hml, hown, hts⟩ (K88_X8_octets l D cB cI cZ _ h0 h5 80 ((.int 0)) ((.int 0)) ((.ref h1)) (g1) ((.ref h2)) ((.ref h3)) ((.int 0)) (g2) ((.int 0)) ((.int 1)) ((.int 0)) ((.int 0)) ((.int 0)) ((.int 0)) ((.int 0)) (g3) ((.ref h4)) (g4) ((.int 0)) (g5) (g6) (g7) (g8) (g9) 1 (g10) (g11) (g12) (g13) f_4 (by decide) bf_4) (cwV 2 hts gX8_checkpoint_X8_octets rfl rfl rfl (by decide +kernel) ⟨Nat.le_of_ble_eq_true rfl, Nat.le_of_ble_eq_true rfl⟩) (pre_V (q := (RX8, TX8, 30)) (ci := 7) (q0 := 0) (hP.sub [4, 5] rfl) hK hN (hD.sub [4, 5] (by decide) rfl) rfl rfl) rfl rfl hl.1 rfl (lv_room (Nat.le_of_ble_eq_true rfl)) dX8_checkpoint_43 ⟨Nat.le_of_ble_eq_true rfl, Nat.le_of_ble_eq_true rfl⟩) hP hD hS hA [4, 5] [0, 1, 2, 3] rfl rfl (by decide) (by decide) (fun  u H locs hw hP hD hS => ?_)
  obtain ⟨x_6, f_7⟩ := u
  obtain ⟨k_8, bf_7⟩ := hw
  obtain rfl : x_6 = 2 := ti_inj (a := 2) (by decide) (k_8.trans (by decide))
  have bf_7 : FB f_7 := bf_7
  have hP : va_P D vwCl [(h1, .inl (cB, 65536, .inl zf)), (h2, .inl (cZ, 65536, .inl zf)), (h3, .inl (cI, 64, .inl zf)), (h4, .inl (cI, 300, .inl zf)), (h0, .inr (7, [.int 0, .int 0, .ref h1, g1, .ref h2, .ref h3, .int 0, g2, .int 0, .int 1, .int 0, .int 0, .int 0, .int 0, .int 0, g3, .ref h4, g4, .int 0, g5, g6, g7, g8, g9, .ref h5, .int 2, g10, g11, g12, g13])), (h5, .inl (cB, 4096, .inl f_7))] H := hP
  have hD : va_D A [(h1, .inl (cB, 65536, .inl zf)), (h2, .inl (cZ, 65536, .inl zf)), (h3, .inl (cI, 64, .inl zf)), (h4, .inl (cI, 300, .inl zf)), (h0, .inr (7, [.int 0, .int 0, .ref h1, g1, .ref h2, .ref h3, .int 0, g2, .int 0, .int 1, .int 0, .int 0, .int 0, .int 0, .int 0, g3, .ref h4, g4, .int 0, g5, g6, g7, g8, g9, .ref h5, .int 2, g10, g11, g12, g13])), (h5, .inl (cB, 4096, .inl f_7))] := hD
  refine lv_aload_n hx hb dX8_checkpoint_46 rfl (lv_at hl 0 rfl) ?_
  refine lv_aload_n hx hb dX8_checkpoint_47 rfl (lv_at hl 0 rfl) ?_
  refine va_get (D := D) (ci := 7) (v := .int 0) (C := RX8) (T := TX8) (N := 30) hx hb hts inX8_checkpoint_X8 hown hK hP 4 rfl rfl 11 (by decide) (hts _ wdX8_checkpoint_3) (fun _ h9 => h9) rfl dX8_checkpoint_48 ?_
  refine lv_iconst (v := 1) hx hb dX8_checkpoint_51 (by decide) ?_
  refine lv_iadd hx hb dX8_checkpoint_52 ?_
  refine lv_topi (fun z_9 ez_9 => ?_)
  obtain rfl : z_9 = 1 := ez_9.trans (by decide)
  refine lv_iconst (v := 4) hx hb dX8_checkpoint_53 (by decide) ?_
  refine kc_v (wr := [(h1, .inl (cB, 65536, .inl zf)), (h2, .inl (cZ, 65536, .inl zf)), (h3, .inl (cI, 64, .inl zf)), (h4, .inl (cI, 300, .inl zf))]) (va_runV (As := [.int 1, .int 4]) (rest := []) ⟨hx, hb, hml, hown, hts⟩ (K89_X8_octets l D cB cI cZ _ h0 h5 1 ((.int 0)) ((.int 0)) ((.ref h1)) (g1) ((.ref h2)) ((.ref h3)) ((.int 0)) (g2) ((.int 0)) ((.int 1)) ((.int 0)) ((.int 0)) ((.int 0)) ((.int 0)) ((.int 0)) (g3) ((.ref h4)) (g4) ((.int 0)) (g5) (g6) (g7) (g8) (g9) 2 (g10) (g11) (g12) (g13) f_7 (by decide) bf_7) (cwV 2 hts gX8_checkpoint_X8_octets rfl rfl rfl (by decide +kernel) ⟨Nat.le_of_ble_eq_true rfl, Nat.le_of_ble_eq_true rfl⟩) (pre_V (q := (RX8, TX8, 30)) (ci := 7) (q0 := 0) (hP.sub [4, 5] rfl) hK hN (hD.sub [4, 5] (by decide) rfl) rfl rfl) rfl rfl hl.1 rfl (lv_room (Nat.le_of_ble_eq_true rfl)) dX8_checkpoint_54 ⟨Nat.le_of_ble_eq_true rfl, Nat.le_of_ble_eq_true rfl⟩) hP hD hS hA [4, 5] [0, 1, 2, 3] rfl rfl (by decide) (by decide) (fun  u H locs hw hP hD hS => ?_)
  obtain ⟨x_10, f_11⟩ := u
  obtain ⟨k_12, bf_11⟩ := hw
  obtain rfl : x_10 = 6 := ti_inj (a := 6) (by decide) (k_12.trans (by decide))
  have bf_11 : FB f_11 := bf_11
  have hP : va_P D vwCl [(h1, .inl (cB, 65536, .inl zf)), (h2, .inl (cZ, 65536, .inl zf)), (h3, .inl (cI, 64, .inl zf)), (h4, .inl (cI, 300, .inl zf)), (h0, .inr (7, [.int 0, .int 0, .ref h1, g1, .ref h2, .ref h3, .int 0, g2, .int 0, .int 1, .int 0, .int 0, .int 0, .int 0, .int 0, g3, .ref h4, g4, .int 0, g5, g6, g7, g8, g9, .ref h5, .int 6, g10, g11, g12, g13])), (h5, .inl (cB, 4096, .inl f_11))] H := hP
  have hD : va_D A [(h1, .inl (cB, 65536, .inl zf)), (h2, .inl (cZ, 65536, .inl zf)), (h3, .inl (cI, 64, .inl zf)), (h4, .inl (cI, 300, .inl zf)), (h0, .inr (7, [.int 0, .int 0, .ref h1, g1, .ref h2, .ref h3, .int 0, g2, .int 0, .int 1, .int 0, .int 0, .int 0, .int 0, .int 0, g3, .ref h4, g4, .int 0, g5, g6, g7, g8, g9, .ref h5, .int 6, g10, g11, g12, g13])), (h5, .inl (cB, 4096, .inl f_11))] := hD
  refine lv_aload_n hx hb dX8_checkpoint_57 rfl (lv_at hl 0 rfl) ?_
  refine lv_aload_n hx hb dX8_checkpoint_58 rfl (lv_at hl 0 rfl) ?_
  refine va_get (D := D) (ci := 7) (v := .int 1) (C := RX8) (T := TX8) (N := 30) hx hb hts inX8_checkpoint_X8 hown hK hP 4 rfl rfl 9 (by decide) (hts _ wdX8_checkpoint_4) (fun _ h9 => h9) rfl dX8_checkpoint_59 ?_
  refine lv_iconst (v := 4) hx hb dX8_checkpoint_62 (by decide) ?_
  refine kc_v (wr := [(h1, .inl (cB, 65536, .inl zf)), (h2, .inl (cZ, 65536, .inl zf)), (h3, .inl (cI, 64, .inl zf)), (h4, .inl (cI, 300, .inl zf))]) (va_runV (As := [.int 1, .int 4]) (rest := []) ⟨hx, hb, hml, hown, hts⟩ (K89_X8_octets l D cB cI cZ _ h0 h5 1 ((.int 0)) ((.int 0)) ((.ref h1)) (g1) ((.ref h2)) ((.ref h3)) ((.int 0)) (g2) ((.int 0)) ((.int 1)) ((.int 0)) ((.int 0)) ((.int 0)) ((.int 0)) ((.int 0)) (g3) ((.ref h4)) (g4) ((.int 0)) (g5) (g6) (g7) (g8) (g9) 6 (g10) (g11) (g12) (g13) f_11 (by decide) bf_11) (cwV 2 hts gX8_checkpoint_X8_octets rfl rfl rfl (by decide +kernel) ⟨Nat.le_of_ble_eq_true rfl, Nat.le_of_ble_eq_true rfl⟩) (pre_V (q := (RX8, TX8, 30)) (ci := 7) (q0 := 0) (hP.sub [4, 5] rfl) hK hN (hD.sub [4, 5] (by decide) rfl) rfl rfl) rfl rfl hl.1 rfl (lv_room (Nat.le_of_ble_eq_true rfl)) dX8_checkpoint_63 ⟨Nat.le_of_ble_eq_true rfl, Nat.le_of_ble_eq_true rfl⟩) hP hD hS hA [4, 5] [0, 1, 2, 3] rfl rfl (by decide) (by decide) (fun  u H locs hw hP hD hS => ?_)
  obtain ⟨x_13, f_14⟩ := u
  obtain ⟨k_15, bf_14⟩ := hw
  obtain rfl : x_13 = 10 := ti_inj (a := 10) (by decide) (k_15.trans (by decide))
  have bf_14 : FB f_14 := bf_14
  have hP : va_P D vwCl [(h1, .inl (cB, 65536, .inl zf)), (h2, .inl (cZ, 65536, .inl zf)), (h3, .inl (cI, 64, .inl zf)), (h4, .inl (cI, 300, .inl zf)), (h0, .inr (7, [.int 0, .int 0, .ref h1, g1, .ref h2, .ref h3, .int 0, g2, .int 0, .int 1, .int 0, .int 0, .int 0, .int 0, .int 0, g3, .ref h4, g4, .int 0, g5, g6, g7, g8, g9, .ref h5, .int 10, g10, g11, g12, g13])), (h5, .inl (cB, 4096, .inl f_14))] H := hP
  have hD : va_D A [(h1, .inl (cB, 65536, .inl zf)), (h2, .inl (cZ, 65536, .inl zf)), (h3, .inl (cI, 64, .inl zf)), (h4, .inl (cI, 300, .inl zf)), (h0, .inr (7, [.int 0, .int 0, .ref h1, g1, .ref h2, .ref h3, .int 0, g2, .int 0, .int 1, .int 0, .int 0, .int 0, .int 0, .int 0, g3, .ref h4, g4, .int 0, g5, g6, g7, g8, g9, .ref h5, .int 10, g10, g11, g12, g13])), (h5, .inl (cB, 4096, .inl f_14))] := hD
  refine lv_aload_n hx hb dX8_checkpoint_66 rfl (lv_at hl 0 rfl) ?_
  refine lv_aload_n hx hb dX8_checkpoint_67 rfl (lv_at hl 0 rfl) ?_
  refine va_get (D := D) (ci := 7) (v := .int 0) (C := RX8) (T := TX8) (N := 30) hx hb hts inX8_checkpoint_X8 hown hK hP 4 rfl rfl 10 (by decide) (hts _ wdX8_checkpoint_5) (fun _ h9 => h9) rfl dX8_checkpoint_68 ?_
  refine lv_iconst (v := 4) hx hb dX8_checkpoint_71 (by decide) ?_
  refine kc_v (wr := [(h1, .inl (cB, 65536, .inl zf)), (h2, .inl (cZ, 65536, .inl zf)), (h3, .inl (cI, 64, .inl zf)), (h4, .inl (cI, 300, .inl zf))]) (va_runV (As := [.int 0, .int 4]) (rest := []) ⟨hx, hb, hml, hown, hts⟩ (K89_X8_octets l D cB cI cZ _ h0 h5 0 ((.int 0)) ((.int 0)) ((.ref h1)) (g1) ((.ref h2)) ((.ref h3)) ((.int 0)) (g2) ((.int 0)) ((.int 1)) ((.int 0)) ((.int 0)) ((.int 0)) ((.int 0)) ((.int 0)) (g3) ((.ref h4)) (g4) ((.int 0)) (g5) (g6) (g7) (g8) (g9) 10 (g10) (g11) (g12) (g13) f_14 (by decide) bf_14) (cwV 2 hts gX8_checkpoint_X8_octets rfl rfl rfl (by decide +kernel) ⟨Nat.le_of_ble_eq_true rfl, Nat.le_of_ble_eq_true rfl⟩) (pre_V (q := (RX8, TX8, 30)) (ci := 7) (q0 := 0) (hP.sub [4, 5] rfl) hK hN (hD.sub [4, 5] (by decide) rfl) rfl rfl) rfl rfl hl.1 rfl (lv_room (Nat.le_of_ble_eq_true rfl)) dX8_checkpoint_72 ⟨Nat.le_of_ble_eq_true rfl, Nat.le_of_ble_eq_true rfl⟩) hP hD hS hA [4, 5] [0, 1, 2, 3] rfl rfl (by decide) (by decide) (fun  u H locs hw hP hD hS => ?_)
  obtain ⟨x_16, f_17⟩ := u
  obtain ⟨k_18, bf_17⟩ := hw
  obtain rfl : x_16 = 14 := ti_inj (a := 14) (by decide) (k_18.trans (by decide))
  have bf_17 : FB f_17 := bf_17
  have hP : va_P D vwCl [(h1, .inl (cB, 65536, .inl zf)), (h2, .inl (cZ, 65536, .inl zf)), (h3, .inl (cI, 64, .inl zf)), (h4, .inl (cI, 300, .inl zf)), (h0, .inr (7, [.int 0, .int 0, .ref h1, g1, .ref h2, .ref h3, .int 0, g2, .int 0, .int 1, .int 0, .int 0, .int 0, .int 0, .int 0, g3, .ref h4, g4, .int 0, g5, g6, g7, g8, g9, .ref h5, .int 14, g10, g11, g12, g13])), (h5, .inl (cB, 4096, .inl f_17))] H := hP
  have hD : va_D A [(h1, .inl (cB, 65536, .inl zf)), (h2, .inl (cZ, 65536, .inl zf)), (h3, .inl (cI, 64, .inl zf)), (h4, .inl (cI, 300, .inl zf)), (h0, .inr (7, [.int 0, .int 0, .ref h1, g1, .ref h2, .ref h3, .int 0, g2, .int 0, .int 1, .int 0, .int 0, .int 0, .int 0, .int 0, g3, .ref h4, g4, .int 0, g5, g6, g7, g8, g9, .ref h5, .int 14, g10, g11, g12, g13])), (h5, .inl (cB, 4096, .inl f_17))] := hD
  refine lv_aload_n hx hb dX8_checkpoint_75 rfl (lv_at hl 0 rfl) ?_
  refine lv_aload_n hx hb dX8_checkpoint_76 rfl (lv_at hl 0 rfl) ?_
  refine va_get (D := D) (ci := 7) (v := .int 0) (C := RX8) (T := TX8) (N := 30) hx hb hts inX8_checkpoint_X8 hown hK hP 4 rfl rfl 6 (by decide) (hts _ wdX8_checkpoint_6) (fun _ h9 => h9) rfl dX8_checkpoint_77 ?_
  refine lv_iconst (v := 1) hx hb dX8_checkpoint_80 (by decide) ?_
  refine kc_v (wr := [(h1, .inl (cB, 65536, .inl zf)), (h2, .inl (cZ, 65536, .inl zf)), (h3, .inl (cI, 64, .inl zf)), (h4, .inl (cI, 300, .inl zf))]) (va_runV (As := [.int 0, .int 1]) (rest := []) ⟨hx, hb, hml, hown, hts⟩ (K88_X8_octets l D cB cI cZ _ h0 h5 0 ((.int 0)) ((.int 0)) ((.ref h1)) (g1) ((.ref h2)) ((.ref h3)) ((.int 0)) (g2) ((.int 0)) ((.int 1)) ((.int 0)) ((.int 0)) ((.int 0)) ((.int 0)) ((.int 0)) (g3) ((.ref h4)) (g4) ((.int 0)) (g5) (g6) (g7) (g8) (g9) 14 (g10) (g11) (g12) (g13) f_17 (by decide) bf_17) (cwV 2 hts gX8_checkpoint_X8_octets rfl rfl rfl (by decide +kernel) ⟨Nat.le_of_ble_eq_true rfl, Nat.le_of_ble_eq_true rfl⟩) (pre_V (q := (RX8, TX8, 30)) (ci := 7) (q0 := 0) (hP.sub [4, 5] rfl) hK hN (hD.sub [4, 5] (by decide) rfl) rfl rfl) rfl rfl hl.1 rfl (lv_room (Nat.le_of_ble_eq_true rfl)) dX8_checkpoint_81 ⟨Nat.le_of_ble_eq_true rfl, Nat.le_of_ble_eq_true rfl⟩) hP hD hS hA [4, 5] [0, 1, 2, 3] rfl rfl (by decide) (by decide) (fun  u H locs hw hP hD hS => ?_)
  obtain ⟨x_19, f_20⟩ := u
  obtain ⟨k_21, bf_20⟩ := hw
  obtain rfl : x_19 = 15 := ti_inj (a := 15) (by decide) (k_21.trans (by decide))
  have bf_20 : FB f_20 := bf_20
  have hP : va_P D vwCl [(h1, .inl (cB, 65536, .inl zf)), (h2, .inl (cZ, 65536, .inl zf)), (h3, .inl (cI, 64, .inl zf)), (h4, .inl (cI, 300, .inl zf)), (h0, .inr (7, [.int 0, .int 0, .ref h1, g1, .ref h2, .ref h3, .int 0, g2, .int 0, .int 1, .int 0, .int 0, .int 0, .int 0, .int 0, g3, .ref h4, g4, .int 0, g5, g6, g7, g8, g9, .ref h5, .int 15, g10, g11, g12, g13])), (h5, .inl (cB, 4096, .inl f_20))] H := hP
  have hD : va_D A [(h1, .inl (cB, 65536, .inl zf)), (h2, .inl (cZ, 65536, .inl zf)), (h3, .inl (cI, 64, .inl zf)), (h4, .inl (cI, 300, .inl zf)), (h0, .inr (7, [.int 0, .int 0, .ref h1, g1, .ref h2, .ref h3, .int 0, g2, .int 0, .int 1, .int 0, .int 0, .int 0, .int 0, .int 0, g3, .ref h4, g4, .int 0, g5, g6, g7, g8, g9, .ref h5, .int 15, g10, g11, g12, g13])), (h5, .inl (cB, 4096, .inl f_20))] := hD
  refine lv_aload_n hx hb dX8_checkpoint_84 rfl (lv_at hl 0 rfl) ?_
  refine lv_aload_n hx hb dX8_checkpoint_85 rfl (lv_at hl 0 rfl) ?_
  refine va_get (D := D) (ci := 7) (v := .int 0) (C := RX8) (T := TX8) (N := 30) hx hb hts inX8_checkpoint_X8 hown hK hP 4 rfl rfl 6 (by decide) (hts _ wdX8_checkpoint_6) (fun _ h9 => h9) rfl dX8_checkpoint_86 ?_
  refine lv_if_ne (tgt := 96) hx hb dX8_checkpoint_89 (by decide) (fun c => absurd (by decide) c) (fun c => ?_)
  refine lv_iconst (v := 0) hx hb dX8_checkpoint_92 (by decide) ?_
  refine lv_goto (tgt := 100) hx hb dX8_checkpoint_93 (by decide) ?_
  refine lv_iconst (v := 2) hx hb dX8_checkpoint_100 (by decide) ?_
  refine kc_v (wr := [(h1, .inl (cB, 65536, .inl zf)), (h2, .inl (cZ, 65536, .inl zf)), (h3, .inl (cI, 64, .inl zf)), (h4, .inl (cI, 300, .inl zf))]) (va_runV (As := [.int 0, .int 2]) (rest := []) ⟨hx, hb, hml, hown, hts⟩ (K94_X8_octets l D cB cI cZ _ h0 h5 0 ((.int 0)) ((.int 0)) ((.ref h1)) (g1) ((.ref h2)) ((.ref h3)) ((.int 0)) (g2) ((.int 0)) ((.int 1)) ((.int 0)) ((.int 0)) ((.int 0)) ((.int 0)) ((.int 0)) (g3) ((.ref h4)) (g4) ((.int 0)) (g5) (g6) (g7) (g8) (g9) 15 (g10) (g11) (g12) (g13) f_20 (by decide) bf_20) (cwV 2 hts gX8_checkpoint_X8_octets rfl rfl rfl (by decide +kernel) ⟨Nat.le_of_ble_eq_true rfl, Nat.le_of_ble_eq_true rfl⟩) (pre_V (q := (RX8, TX8, 30)) (ci := 7) (q0 := 0) (hP.sub [4, 5] rfl) hK hN (hD.sub [4, 5] (by decide) rfl) rfl rfl) rfl rfl hl.1 rfl (lv_room (Nat.le_of_ble_eq_true rfl)) dX8_checkpoint_101 ⟨Nat.le_of_ble_eq_true rfl, Nat.le_of_ble_eq_true rfl⟩) hP hD hS hA [4, 5] [0, 1, 2, 3] rfl rfl (by decide) (by decide) (fun  u H locs hw hP hD hS => ?_)
  obtain ⟨x_22, f_23⟩ := u
  obtain ⟨k_24, bf_23⟩ := hw
  obtain rfl : x_22 = 17 := ti_inj (a := 17) (by decide) (k_24.trans (by decide))
  have bf_23 : FB f_23 := bf_23
  have hP : va_P D vwCl [(h1, .inl (cB, 65536, .inl zf)), (h2, .inl (cZ, 65536, .inl zf)), (h3, .inl (cI, 64, .inl zf)), (h4, .inl (cI, 300, .inl zf)), (h0, .inr (7, [.int 0, .int 0, .ref h1, g1, .ref h2, .ref h3, .int 0, g2, .int 0, .int 1, .int 0, .int 0, .int 0, .int 0, .int 0, g3, .ref h4, g4, .int 0, g5, g6, g7, g8, g9, .ref h5, .int 17, g10, g11, g12, g13])), (h5, .inl (cB, 4096, .inl f_23))] H := hP
  have hD : va_D A [(h1, .inl (cB, 65536, .inl zf)), (h2, .inl (cZ, 65536, .inl zf)), (h3, .inl (cI, 64, .inl zf)), (h4, .inl (cI, 300, .inl zf)), (h0, .inr (7, [.int 0, .int 0, .ref h1, g1, .ref h2, .ref h3, .int 0, g2, .int 0, .int 1, .int 0, .int 0, .int 0, .int 0, .int 0, g3, .ref h4, g4, .int 0, g5, g6, g7, g8, g9, .ref h5, .int 17, g10, g11, g12, g13])), (h5, .inl (cB, 4096, .inl f_23))] := hD
  refine lv_aload_n hx hb dX8_checkpoint_104 rfl (lv_at hl 0 rfl) ?_
  refine lv_aload_n hx hb dX8_checkpoint_105 rfl (lv_at hl 0 rfl) ?_
  refine va_get (D := D) (ci := 7) (v := .int 0) (C := RX8) (T := TX8) (N := 30) hx hb hts inX8_checkpoint_X8 hown hK hP 4 rfl rfl 8 (by decide) (hts _ wdX8_checkpoint_7) (fun _ h9 => h9) rfl dX8_checkpoint_106 ?_
  refine lv_iconst (v := 4) hx hb dX8_checkpoint_109 (by decide) ?_
  refine kc_v (wr := [(h1, .inl (cB, 65536, .inl zf)), (h2, .inl (cZ, 65536, .inl zf)), (h3, .inl (cI, 64, .inl zf)), (h4, .inl (cI, 300, .inl zf))]) (va_runV (As := [.int 0, .int 4]) (rest := []) ⟨hx, hb, hml, hown, hts⟩ (K89_X8_octets l D cB cI cZ _ h0 h5 0 ((.int 0)) ((.int 0)) ((.ref h1)) (g1) ((.ref h2)) ((.ref h3)) ((.int 0)) (g2) ((.int 0)) ((.int 1)) ((.int 0)) ((.int 0)) ((.int 0)) ((.int 0)) ((.int 0)) (g3) ((.ref h4)) (g4) ((.int 0)) (g5) (g6) (g7) (g8) (g9) 17 (g10) (g11) (g12) (g13) f_23 (by decide) bf_23) (cwV 2 hts gX8_checkpoint_X8_octets rfl rfl rfl (by decide +kernel) ⟨Nat.le_of_ble_eq_true rfl, Nat.le_of_ble_eq_true rfl⟩) (pre_V (q := (RX8, TX8, 30)) (ci := 7) (q0 := 0) (hP.sub [4, 5] rfl) hK hN (hD.sub [4, 5] (by decide) rfl) rfl rfl) rfl rfl hl.1 rfl (lv_room (Nat.le_of_ble_eq_true rfl)) dX8_checkpoint_110 ⟨Nat.le_of_ble_eq_true rfl, Nat.le_of_ble_eq_true rfl⟩) hP hD hS hA [4, 5] [0, 1, 2, 3] rfl rfl (by decide) (by decide) (fun  u H locs hw hP hD hS => ?_)
  obtain ⟨x_25, f_26⟩ := u
  obtain ⟨k_27, bf_26⟩ := hw
  obtain rfl : x_25 = 21 := ti_inj (a := 21) (by decide) (k_27.trans (by decide))
  have bf_26 : FB f_26 := bf_26
  have hP : va_P D vwCl [(h1, .inl (cB, 65536, .inl zf)), (h2, .inl (cZ, 65536, .inl zf)), (h3, .inl (cI, 64, .inl zf)), (h4, .inl (cI, 300, .inl zf)), (h0, .inr (7, [.int 0, .int 0, .ref h1, g1, .ref h2, .ref h3, .int 0, g2, .int 0, .int 1, .int 0, .int 0, .int 0, .int 0, .int 0, g3, .ref h4, g4, .int 0, g5, g6, g7, g8, g9, .ref h5, .int 21, g10, g11, g12, g13])), (h5, .inl (cB, 4096, .inl f_26))] H := hP
  have hD : va_D A [(h1, .inl (cB, 65536, .inl zf)), (h2, .inl (cZ, 65536, .inl zf)), (h3, .inl (cI, 64, .inl zf)), (h4, .inl (cI, 300, .inl zf)), (h0, .inr (7, [.int 0, .int 0, .ref h1, g1, .ref h2, .ref h3, .int 0, g2, .int 0, .int 1, .int 0, .int 0, .int 0, .int 0, .int 0, g3, .ref h4, g4, .int 0, g5, g6, g7, g8, g9, .ref h5, .int 21, g10, g11, g12, g13])), (h5, .inl (cB, 4096, .inl f_26))] := hD
  refine lv_aload_n hx hb dX8_checkpoint_113 rfl (lv_at hl 0 rfl) ?_
  refine lv_aload_n hx hb dX8_checkpoint_114 rfl (lv_at hl 0 rfl) ?_
  refine kc_i (wr := [(h1, .inl (cB, 65536, .inl zf)), (h2, .inl (cZ, 65536, .inl zf)), (h3, .inl (cI, 64, .inl zf)), (h5, .inl (cB, 4096, .inl f_26))]) (va_runV (As := []) (rest := [.ref h0]) ⟨hx, hb, hml, hown, hts⟩ (K144_X8_keys l D cB cI cZ _ h0 h4 ((.int 0)) ((.int 0)) ((.ref h1)) (g1) ((.ref h2)) ((.ref h3)) ((.int 0)) (g2) ((.int 0)) ((.int 1)) ((.int 0)) ((.int 0)) ((.int 0)) ((.int 0)) ((.int 0)) (g3) (g4) ((.int 0)) (g5) (g6) (g7) (g8) (g9) ((.ref h5)) ((.int 21)) (g10) (g11) (g12) (g13)) (cwV 0 hts gX8_checkpoint_X8_keys rfl rfl rfl (by decide +kernel) ⟨Nat.le_of_ble_eq_true rfl, Nat.le_of_ble_eq_true rfl⟩) (pre_V (q := (RX8, TX8, 30)) (ci := 7) (q0 := 0) (hP.sub [4, 3] rfl) hK hN (hD.sub [4, 3] (by decide) rfl) rfl rfl) rfl rfl hl.1 rfl (lv_room (Nat.le_of_ble_eq_true rfl)) dX8_checkpoint_115 ⟨Nat.le_of_ble_eq_true rfl, Nat.le_of_ble_eq_true rfl⟩) hP hD hS hA [4, 3] [0, 1, 2, 5] rfl rfl (by decide) (by decide) (fun r_28 u H locs hw hP hD hS => ?_)
  have k_29 := hw
  obtain rfl : r_28 = 0 := k_29
  have hP : va_P D vwCl [(h1, .inl (cB, 65536, .inl zf)), (h2, .inl (cZ, 65536, .inl zf)), (h3, .inl (cI, 64, .inl zf)), (h5, .inl (cB, 4096, .inl f_26)), (h0, .inr (7, [.int 0, .int 0, .ref h1, g1, .ref h2, .ref h3, .int 0, g2, .int 0, .int 1, .int 0, .int 0, .int 0, .int 0, .int 0, g3, .ref h4, g4, .int 0, g5, g6, g7, g8, g9, .ref h5, .int 21, g10, g11, g12, g13])), (h4, .inl (cI, 300, .inl zf))] H := hP
  have hD : va_D A [(h1, .inl (cB, 65536, .inl zf)), (h2, .inl (cZ, 65536, .inl zf)), (h3, .inl (cI, 64, .inl zf)), (h5, .inl (cB, 4096, .inl f_26)), (h0, .inr (7, [.int 0, .int 0, .ref h1, g1, .ref h2, .ref h3, .int 0, g2, .int 0, .int 1, .int 0, .int 0, .int 0, .int 0, .int 0, g3, .ref h4, g4, .int 0, g5, g6, g7, g8, g9, .ref h5, .int 21, g10, g11, g12, g13])), (h4, .inl (cI, 300, .inl zf))] := hD
  refine lv_iconst (v := 2) hx hb dX8_checkpoint_118 (by decide) ?_
  refine kc_v (wr := [(h1, .inl (cB, 65536, .inl zf)), (h2, .inl (cZ, 65536, .inl zf)), (h3, .inl (cI, 64, .inl zf)), (h4, .inl (cI, 300, .inl zf))]) (va_runV (As := [.int 0, .int 2]) (rest := []) ⟨hx, hb, hml, hown, hts⟩ (K94_X8_octets l D cB cI cZ _ h0 h5 0 ((.int 0)) ((.int 0)) ((.ref h1)) (g1) ((.ref h2)) ((.ref h3)) ((.int 0)) (g2) ((.int 0)) ((.int 1)) ((.int 0)) ((.int 0)) ((.int 0)) ((.int 0)) ((.int 0)) (g3) ((.ref h4)) (g4) ((.int 0)) (g5) (g6) (g7) (g8) (g9) 21 (g10) (g11) (g12) (g13) f_26 (by decide) bf_26) (cwV 2 hts gX8_checkpoint_X8_octets rfl rfl rfl (by decide +kernel) ⟨Nat.le_of_ble_eq_true rfl, Nat.le_of_ble_eq_true rfl⟩) (pre_V (q := (RX8, TX8, 30)) (ci := 7) (q0 := 0) (hP.sub [4, 3] rfl) hK hN (hD.sub [4, 3] (by decide) rfl) rfl rfl) rfl rfl hl.1 rfl (lv_room (Nat.le_of_ble_eq_true rfl)) dX8_checkpoint_119 ⟨Nat.le_of_ble_eq_true rfl, Nat.le_of_ble_eq_true rfl⟩) hP hD hS hA [4, 3] [0, 1, 2, 5] rfl rfl (by decide) (by decide) (fun  u H locs hw hP hD hS => ?_)
  obtain ⟨x_30, f_31⟩ := u
  obtain ⟨k_32, bf_31⟩ := hw
  obtain rfl : x_30 = 23 := ti_inj (a := 23) (by decide) (k_32.trans (by decide))
  have bf_31 : FB f_31 := bf_31
  have hP : va_P D vwCl [(h1, .inl (cB, 65536, .inl zf)), (h2, .inl (cZ, 65536, .inl zf)), (h3, .inl (cI, 64, .inl zf)), (h4, .inl (cI, 300, .inl zf)), (h0, .inr (7, [.int 0, .int 0, .ref h1, g1, .ref h2, .ref h3, .int 0, g2, .int 0, .int 1, .int 0, .int 0, .int 0, .int 0, .int 0, g3, .ref h4, g4, .int 0, g5, g6, g7, g8, g9, .ref h5, .int 23, g10, g11, g12, g13])), (h5, .inl (cB, 4096, .inl f_31))] H := hP
  have hD : va_D A [(h1, .inl (cB, 65536, .inl zf)), (h2, .inl (cZ, 65536, .inl zf)), (h3, .inl (cI, 64, .inl zf)), (h4, .inl (cI, 300, .inl zf)), (h0, .inr (7, [.int 0, .int 0, .ref h1, g1, .ref h2, .ref h3, .int 0, g2, .int 0, .int 1, .int 0, .int 0, .int 0, .int 0, .int 0, g3, .ref h4, g4, .int 0, g5, g6, g7, g8, g9, .ref h5, .int 23, g10, g11, g12, g13])), (h5, .inl (cB, 4096, .inl f_31))] := hD
  refine lv_iconst (v := 0) hx hb dX8_checkpoint_122 (by decide) ?_
  refine lv_istore_n (lv' := [(1, .int 0), (0, .ref h0)]) hx hb dX8_checkpoint_123 rfl hl (by decide) rfl (fun ls hl => ?_)
  refine kl (α := Int32) (fun n a H locs ls => (0 ≤ Int32.toInt a) ∧ (Int32.toInt a ≤ 300) ∧ (300 - Int32.toInt a < ((n : Nat) : Int)) ∧ va_P D vwCl [(h1, .inl (cB, 65536, .inl zf)), (h2, .inl (cZ, 65536, .inl zf)), (h3, .inl (cI, 64, .inl zf)), (h4, .inl (cI, 300, .inl zf)), (h0, .inr (7, [.int 0, .int 0, .ref h1, g1, .ref h2, .ref h3, .int 0, g2, .int 0, .int 1, .int 0, .int 0, .int 0, .int 0, .int 0, g3, .ref h4, g4, .int 0, g5, g6, g7, g8, g9, .ref h5, .int 23, g10, g11, g12, g13])), (h5, .inl (cB, 4096, .inl f_31))] H ∧ va_D A [(h1, .inl (cB, 65536, .inl zf)), (h2, .inl (cZ, 65536, .inl zf)), (h3, .inl (cI, 64, .inl zf)), (h4, .inl (cI, 300, .inl zf)), (h0, .inr (7, [.int 0, .int 0, .ref h1, g1, .ref h2, .ref h3, .int 0, g2, .int 0, .int 1, .int 0, .int 0, .int 0, .int 0, .int 0, g3, .ref h4, g4, .int 0, g5, g6, g7, g8, g9, .ref h5, .int 23, g10, g11, g12, g13])), (h5, .inl (cB, 4096, .inl f_31))] ∧ va_S A s.heap H locs ∧ lv_has ls 3 [(1, .int a), (0, .ref h0)]) 301 0 ⟨(by show 0 ≤ Int32.toInt 0; decide), (by show Int32.toInt 0 ≤ 300; decide), (by show 300 - Int32.toInt 0 < ((301 : Nat) : Int); have := (by decide : Int32.toInt 0 = 0); omega), hP, hD, hS, hl⟩ (fun a H locs ls h => ?_) (fun n_34 ih_35 a H locs ls h => ?_)
  · obtain ⟨j_36, j_37, j_38, _⟩ := h
    omega
  obtain ⟨v_33, rfl⟩ : ∃ z, z = a := ⟨_, rfl⟩
  obtain ⟨j_36, j_37, j_38, hP, hD, hS, hl⟩ := h
  have j_36 : 0 ≤ Int32.toInt v_33 := j_36
  have j_37 : Int32.toInt v_33 ≤ 300 := j_37
  have j_38 : 300 - Int32.toInt v_33 < ((n_34 + 1 : Nat) : Int) := j_38
  have hP : va_P D vwCl [(h1, .inl (cB, 65536, .inl zf)), (h2, .inl (cZ, 65536, .inl zf)), (h3, .inl (cI, 64, .inl zf)), (h4, .inl (cI, 300, .inl zf)), (h0, .inr (7, [.int 0, .int 0, .ref h1, g1, .ref h2, .ref h3, .int 0, g2, .int 0, .int 1, .int 0, .int 0, .int 0, .int 0, .int 0, g3, .ref h4, g4, .int 0, g5, g6, g7, g8, g9, .ref h5, .int 23, g10, g11, g12, g13])), (h5, .inl (cB, 4096, .inl f_31))] H := hP
  have hD : va_D A [(h1, .inl (cB, 65536, .inl zf)), (h2, .inl (cZ, 65536, .inl zf)), (h3, .inl (cI, 64, .inl zf)), (h4, .inl (cI, 300, .inl zf)), (h0, .inr (7, [.int 0, .int 0, .ref h1, g1, .ref h2, .ref h3, .int 0, g2, .int 0, .int 1, .int 0, .int 0, .int 0, .int 0, .int 0, g3, .ref h4, g4, .int 0, g5, g6, g7, g8, g9, .ref h5, .int 23, g10, g11, g12, g13])), (h5, .inl (cB, 4096, .inl f_31))] := hD
  have hl : lv_has ls 3 [(1, .int v_33), (0, .ref h0)] := hl
  refine lv_iload_n hx hb dX8_checkpoint_124 rfl (lv_at hl 0 rfl) ?_
  refine lv_sipush (v := 300) hx hb dX8_checkpoint_125 (by decide) ?_
  refine lv_icmp_ge (tgt := 174) hx hb dX8_checkpoint_128 (by decide) (fun c => ?_) (fun c => ?_)
  · skip
    have k_39 := (ti_le (x := 300) (y := v_33) (a := 300) (b := v_33.toInt) (by decide) rfl).mp c
    obtain rfl : v_33 = 300 := ti_inj (a := 300) (by decide) (by omega)
    refine lv_bipush (v := 8) hx hb dX8_checkpoint_174 (by decide) ?_
    refine lv_istore_n (lv' := [(1, .int 8), (0, .ref h0)]) hx hb dX8_checkpoint_176 rfl hl (by decide) rfl (fun ls hl => ?_)
    refine kl (α := Int32 × (Nat → Int32) × Int32) (fun n a H locs ls => (8 ≤ Int32.toInt (a.1)) ∧ (Int32.toInt (a.1) ≤ 64) ∧ (FB (a.2.1)) ∧ (Int32.toInt (a.2.2) = Int32.toInt (a.1) + 15) ∧ (64 - Int32.toInt (a.1) < ((n : Nat) : Int)) ∧ va_P D vwCl [(h1, .inl (cB, 65536, .inl zf)), (h2, .inl (cZ, 65536, .inl zf)), (h3, .inl (cI, 64, .inl zf)), (h4, .inl (cI, 300, .inl zf)), (h0, .inr (7, [.int 0, .int 0, .ref h1, g1, .ref h2, .ref h3, .int 0, g2, .int 0, .int 1, .int 0, .int 0, .int 0, .int 0, .int 0, g3, .ref h4, g4, .int 0, g5, g6, g7, g8, g9, .ref h5, .int (a.2.2), g10, g11, g12, g13])), (h5, .inl (cB, 4096, .inl (a.2.1)))] H ∧ va_D A [(h1, .inl (cB, 65536, .inl zf)), (h2, .inl (cZ, 65536, .inl zf)), (h3, .inl (cI, 64, .inl zf)), (h4, .inl (cI, 300, .inl zf)), (h0, .inr (7, [.int 0, .int 0, .ref h1, g1, .ref h2, .ref h3, .int 0, g2, .int 0, .int 1, .int 0, .int 0, .int 0, .int 0, .int 0, g3, .ref h4, g4, .int 0, g5, g6, g7, g8, g9, .ref h5, .int (a.2.2), g10, g11, g12, g13])), (h5, .inl (cB, 4096, .inl (a.2.1)))] ∧ va_S A s.heap H locs ∧ lv_has ls 3 [(1, .int (a.1)), (0, .ref h0)]) 57 (8, f_31, 23) ⟨(by show 8 ≤ Int32.toInt 8; decide), (by show Int32.toInt 8 ≤ 64; decide), bf_31, (by show Int32.toInt 23 = Int32.toInt 8 + 15; decide), (by show 64 - Int32.toInt 8 < ((57 : Nat) : Int); have := (by decide : Int32.toInt 8 = 8); omega), hP, hD, hS, hl⟩ (fun a H locs ls h => ?_) (fun n_43 ih_44 a H locs ls h => ?_)
    · obtain ⟨j_45, j_46, j_47, j_48, j_49, _⟩ := h
      omega
    obtain ⟨v_42, f_40, v_41⟩ := a
    obtain ⟨j_45, j_46, j_47, j_48, j_49, hP, hD, hS, hl⟩ := h
    have j_45 : 8 ≤ Int32.toInt v_42 := j_45
    have j_46 : Int32.toInt v_42 ≤ 64 := j_46
    have bf_40 : FB f_40 := j_47
    have j_48 : Int32.toInt v_41 = Int32.toInt v_42 + 15 := j_48
    have j_49 : 64 - Int32.toInt v_42 < ((n_43 + 1 : Nat) : Int) := j_49
    have hP : va_P D vwCl [(h1, .inl (cB, 65536, .inl zf)), (h2, .inl (cZ, 65536, .inl zf)), (h3, .inl (cI, 64, .inl zf)), (h4, .inl (cI, 300, .inl zf)), (h0, .inr (7, [.int 0, .int 0, .ref h1, g1, .ref h2, .ref h3, .int 0, g2, .int 0, .int 1, .int 0, .int 0, .int 0, .int 0, .int 0, g3, .ref h4, g4, .int 0, g5, g6, g7, g8, g9, .ref h5, .int v_41, g10, g11, g12, g13])), (h5, .inl (cB, 4096, .inl f_40))] H := hP
    have hD : va_D A [(h1, .inl (cB, 65536, .inl zf)), (h2, .inl (cZ, 65536, .inl zf)), (h3, .inl (cI, 64, .inl zf)), (h4, .inl (cI, 300, .inl zf)), (h0, .inr (7, [.int 0, .int 0, .ref h1, g1, .ref h2, .ref h3, .int 0, g2, .int 0, .int 1, .int 0, .int 0, .int 0, .int 0, .int 0, g3, .ref h4, g4, .int 0, g5, g6, g7, g8, g9, .ref h5, .int v_41, g10, g11, g12, g13])), (h5, .inl (cB, 4096, .inl f_40))] := hD
    have hl : lv_has ls 3 [(1, .int v_42), (0, .ref h0)] := hl
    refine lv_iload_n hx hb dX8_checkpoint_177 rfl (lv_at hl 0 rfl) ?_
    refine lv_bipush (v := 64) hx hb dX8_checkpoint_178 (by decide) ?_
    refine lv_icmp_ge (tgt := 219) hx hb dX8_checkpoint_180 (by decide) (fun c => ?_) (fun c => ?_)
    · skip
      have k_50 := (ti_le (x := 64) (y := v_42) (a := 64) (b := v_42.toInt) (by decide) rfl).mp c
      obtain rfl : v_41 = 79 := ti_inj (a := 79) (by decide) (by omega)
      obtain rfl : v_42 = 64 := ti_inj (a := 64) (by decide) (by omega)
      refine lv_aload_n hx hb dX8_checkpoint_219 rfl (lv_at hl 1 rfl) ?_
      refine lv_aload_n hx hb dX8_checkpoint_220 rfl (lv_at hl 1 rfl) ?_
      refine va_get (D := D) (ci := 7) (v := .ref h5) (C := RX8) (T := TX8) (N := 30) hx hb hts inX8_checkpoint_X8 hown hK hP 4 rfl rfl 24 (by decide) (hts _ wdX8_checkpoint_8) (fun _ h9 => h9) rfl dX8_checkpoint_221 ?_
      refine lv_iconst (v := 0) hx hb dX8_checkpoint_224 (by decide) ?_
      refine lv_aload_n hx hb dX8_checkpoint_225 rfl (lv_at hl 1 rfl) ?_
      refine va_get (D := D) (ci := 7) (v := .int 79) (C := RX8) (T := TX8) (N := 30) hx hb hts inX8_checkpoint_X8 hown hK hP 4 rfl rfl 25 (by decide) (hts _ wdX8_checkpoint_2) (fun _ h9 => h9) rfl dX8_checkpoint_226 ?_
      refine kc_i (wr := [(h1, .inl (cB, 65536, .inl zf)), (h2, .inl (cZ, 65536, .inl zf)), (h3, .inl (cI, 64, .inl zf)), (h4, .inl (cI, 300, .inl zf)), (h0, .inr (7, [.int 0, .int 0, .ref h1, g1, .ref h2, .ref h3, .int 0, g2, .int 0, .int 1, .int 0, .int 0, .int 0, .int 0, .int 0, g3, .ref h4, g4, .int 0, g5, g6, g7, g8, g9, .ref h5, .int 79, g10, g11, g12, g13]))]) (va_runS (As := [.ref h5, .int 0, .int 79]) (rest := [.ref h0]) ⟨hx, hb, hml, hown, hts⟩ (K145_X8_sum l D cB cI cZ _ h5 f_40 bf_40) (va_cwS 3 hts gX8_checkpoint_X8_sum rfl rfl rfl (by decide +kernel) ⟨Nat.le_of_ble_eq_true rfl, Nat.le_of_ble_eq_true rfl⟩) (pre_S (hP.sub [5] rfl) hK hN (hD.sub [5] (by decide) rfl)) rfl rfl hl.1 rfl (lv_room (Nat.le_of_ble_eq_true rfl)) dX8_checkpoint_229 ⟨Nat.le_of_ble_eq_true rfl, Nat.le_of_ble_eq_true rfl⟩) hP hD hS hA [5] [0, 1, 2, 3, 4] rfl rfl (by decide) (by decide) (fun r_51 u H locs hw hP hD hS => ?_)
      have hP : va_P D vwCl [(h1, .inl (cB, 65536, .inl zf)), (h2, .inl (cZ, 65536, .inl zf)), (h3, .inl (cI, 64, .inl zf)), (h4, .inl (cI, 300, .inl zf)), (h0, .inr (7, [.int 0, .int 0, .ref h1, g1, .ref h2, .ref h3, .int 0, g2, .int 0, .int 1, .int 0, .int 0, .int 0, .int 0, .int 0, g3, .ref h4, g4, .int 0, g5, g6, g7, g8, g9, .ref h5, .int 79, g10, g11, g12, g13])), (h5, .inl (cB, 4096, .inl f_40))] H := hP
      have hD : va_D A [(h1, .inl (cB, 65536, .inl zf)), (h2, .inl (cZ, 65536, .inl zf)), (h3, .inl (cI, 64, .inl zf)), (h4, .inl (cI, 300, .inl zf)), (h0, .inr (7, [.int 0, .int 0, .ref h1, g1, .ref h2, .ref h3, .int 0, g2, .int 0, .int 1, .int 0, .int 0, .int 0, .int 0, .int 0, g3, .ref h4, g4, .int 0, g5, g6, g7, g8, g9, .ref h5, .int 79, g10, g11, g12, g13])), (h5, .inl (cB, 4096, .inl f_40))] := hD
      refine lv_iconst (v := 4) hx hb dX8_checkpoint_232 (by decide) ?_
      refine kc_v (wr := [(h1, .inl (cB, 65536, .inl zf)), (h2, .inl (cZ, 65536, .inl zf)), (h3, .inl (cI, 64, .inl zf)), (h4, .inl (cI, 300, .inl zf))]) (va_runV (As := [.int r_51, .int 4]) (rest := []) ⟨hx, hb, hml, hown, hts⟩ (K89_X8_octets l D cB cI cZ _ h0 h5 r_51 ((.int 0)) ((.int 0)) ((.ref h1)) (g1) ((.ref h2)) ((.ref h3)) ((.int 0)) (g2) ((.int 0)) ((.int 1)) ((.int 0)) ((.int 0)) ((.int 0)) ((.int 0)) ((.int 0)) (g3) ((.ref h4)) (g4) ((.int 0)) (g5) (g6) (g7) (g8) (g9) 79 (g10) (g11) (g12) (g13) f_40 (by decide) bf_40) (cwV 2 hts gX8_checkpoint_X8_octets rfl rfl rfl (by decide +kernel) ⟨Nat.le_of_ble_eq_true rfl, Nat.le_of_ble_eq_true rfl⟩) (pre_V (q := (RX8, TX8, 30)) (ci := 7) (q0 := 0) (hP.sub [4, 5] rfl) hK hN (hD.sub [4, 5] (by decide) rfl) rfl rfl) rfl rfl hl.1 rfl (lv_room (Nat.le_of_ble_eq_true rfl)) dX8_checkpoint_233 ⟨Nat.le_of_ble_eq_true rfl, Nat.le_of_ble_eq_true rfl⟩) hP hD hS hA [4, 5] [0, 1, 2, 3] rfl rfl (by decide) (by decide) (fun  u H locs hw hP hD hS => ?_)
      obtain ⟨x_52, f_53⟩ := u
      obtain ⟨k_54, bf_53⟩ := hw
      obtain rfl : x_52 = 83 := ti_inj (a := 83) (by decide) (k_54.trans (by decide))
      have bf_53 : FB f_53 := bf_53
      have hP : va_P D vwCl [(h1, .inl (cB, 65536, .inl zf)), (h2, .inl (cZ, 65536, .inl zf)), (h3, .inl (cI, 64, .inl zf)), (h4, .inl (cI, 300, .inl zf)), (h0, .inr (7, [.int 0, .int 0, .ref h1, g1, .ref h2, .ref h3, .int 0, g2, .int 0, .int 1, .int 0, .int 0, .int 0, .int 0, .int 0, g3, .ref h4, g4, .int 0, g5, g6, g7, g8, g9, .ref h5, .int 83, g10, g11, g12, g13])), (h5, .inl (cB, 4096, .inl f_53))] H := hP
      have hD : va_D A [(h1, .inl (cB, 65536, .inl zf)), (h2, .inl (cZ, 65536, .inl zf)), (h3, .inl (cI, 64, .inl zf)), (h4, .inl (cI, 300, .inl zf)), (h0, .inr (7, [.int 0, .int 0, .ref h1, g1, .ref h2, .ref h3, .int 0, g2, .int 0, .int 1, .int 0, .int 0, .int 0, .int 0, .int 0, g3, .ref h4, g4, .int 0, g5, g6, g7, g8, g9, .ref h5, .int 83, g10, g11, g12, g13])), (h5, .inl (cB, 4096, .inl f_53))] := hD
      refine lv_aload_n hx hb dX8_checkpoint_236 rfl (lv_at hl 1 rfl) ?_
      refine va_get (D := D) (ci := 7) (v := .int 83) (C := RX8) (T := TX8) (N := 30) hx hb hts inX8_checkpoint_X8 hown hK hP 4 rfl rfl 25 (by decide) (hts _ wdX8_checkpoint_2) (fun _ h9 => h9) rfl dX8_checkpoint_237 ?_
      refine lv_istore_n (lv' := [(1, .int 83), (0, .ref h0)]) hx hb dX8_checkpoint_240 rfl hl (by decide) rfl (fun ls hl => ?_)
      refine kl (α := Int32 × (Nat → Int32)) (fun n a H locs ls => (83 ≤ Int32.toInt (a.1)) ∧ (Int32.toInt (a.1) ≤ 128) ∧ (FB (a.2)) ∧ (128 - Int32.toInt (a.1) < ((n : Nat) : Int)) ∧ va_P D vwCl [(h1, .inl (cB, 65536, .inl zf)), (h2, .inl (cZ, 65536, .inl zf)), (h3, .inl (cI, 64, .inl zf)), (h4, .inl (cI, 300, .inl zf)), (h0, .inr (7, [.int 0, .int 0, .ref h1, g1, .ref h2, .ref h3, .int 0, g2, .int 0, .int 1, .int 0, .int 0, .int 0, .int 0, .int 0, g3, .ref h4, g4, .int 0, g5, g6, g7, g8, g9, .ref h5, .int (a.1), g10, g11, g12, g13])), (h5, .inl (cB, 4096, .inl (a.2)))] H ∧ va_D A [(h1, .inl (cB, 65536, .inl zf)), (h2, .inl (cZ, 65536, .inl zf)), (h3, .inl (cI, 64, .inl zf)), (h4, .inl (cI, 300, .inl zf)), (h0, .inr (7, [.int 0, .int 0, .ref h1, g1, .ref h2, .ref h3, .int 0, g2, .int 0, .int 1, .int 0, .int 0, .int 0, .int 0, .int 0, g3, .ref h4, g4, .int 0, g5, g6, g7, g8, g9, .ref h5, .int (a.1), g10, g11, g12, g13])), (h5, .inl (cB, 4096, .inl (a.2)))] ∧ va_S A s.heap H locs ∧ lv_has ls 3 [(1, .int 83), (0, .ref h0)]) 46 (83, f_53) ⟨(by show 83 ≤ Int32.toInt 83; decide), (by show Int32.toInt 83 ≤ 128; decide), bf_53, (by show 128 - Int32.toInt 83 < ((46 : Nat) : Int); have := (by decide : Int32.toInt 83 = 83); omega), hP, hD, hS, hl⟩ (fun a H locs ls h => ?_) (fun n_57 ih_58 a H locs ls h => ?_)
      · obtain ⟨j_59, j_60, j_61, j_62, _⟩ := h
        omega
      obtain ⟨v_56, f_55⟩ := a
      obtain ⟨j_59, j_60, j_61, j_62, hP, hD, hS, hl⟩ := h
      have j_59 : 83 ≤ Int32.toInt v_56 := j_59
      have j_60 : Int32.toInt v_56 ≤ 128 := j_60
      have bf_55 : FB f_55 := j_61
      have j_62 : 128 - Int32.toInt v_56 < ((n_57 + 1 : Nat) : Int) := j_62
      have hP : va_P D vwCl [(h1, .inl (cB, 65536, .inl zf)), (h2, .inl (cZ, 65536, .inl zf)), (h3, .inl (cI, 64, .inl zf)), (h4, .inl (cI, 300, .inl zf)), (h0, .inr (7, [.int 0, .int 0, .ref h1, g1, .ref h2, .ref h3, .int 0, g2, .int 0, .int 1, .int 0, .int 0, .int 0, .int 0, .int 0, g3, .ref h4, g4, .int 0, g5, g6, g7, g8, g9, .ref h5, .int v_56, g10, g11, g12, g13])), (h5, .inl (cB, 4096, .inl f_55))] H := hP
      have hD : va_D A [(h1, .inl (cB, 65536, .inl zf)), (h2, .inl (cZ, 65536, .inl zf)), (h3, .inl (cI, 64, .inl zf)), (h4, .inl (cI, 300, .inl zf)), (h0, .inr (7, [.int 0, .int 0, .ref h1, g1, .ref h2, .ref h3, .int 0, g2, .int 0, .int 1, .int 0, .int 0, .int 0, .int 0, .int 0, g3, .ref h4, g4, .int 0, g5, g6, g7, g8, g9, .ref h5, .int v_56, g10, g11, g12, g13])), (h5, .inl (cB, 4096, .inl f_55))] := hD
      have hl : lv_has ls 3 [(1, .int 83), (0, .ref h0)] := hl
      refine lv_aload_n hx hb dX8_checkpoint_241 rfl (lv_at hl 1 rfl) ?_
      refine va_get (D := D) (ci := 7) (v := .int v_56) (C := RX8) (T := TX8) (N := 30) hx hb hts inX8_checkpoint_X8 hown hK hP 4 rfl rfl 25 (by decide) (hts _ wdX8_checkpoint_2) (fun _ h9 => h9) rfl dX8_checkpoint_242 ?_
      refine lv_bipush (v := 64) hx hb dX8_checkpoint_245 (by decide) ?_
      refine lv_irem hx hb dX8_checkpoint_247 (by decide) ?_
      refine lv_topi (fun x_63 ex_63 => ?_)
      refine lv_if_eq (tgt := 260) hx hb dX8_checkpoint_248 (by decide) (fun c => ?_) (fun c => ?_)
      · skip
        have k_64 := (ti_eq (x := x_63) (y := 0) (a := x_63.toInt) (b := 0) rfl (by decide)).mp c
        refine lv_iconst (v := 0) hx hb dX8_checkpoint_260 (by decide) ?_
        refine lv_istore_n (lv' := [(2, .int 0), (1, .int 83), (0, .ref h0)]) hx hb dX8_checkpoint_261 rfl hl (by decide) rfl (fun ls hl => ?_)
        refine lv_iload_n hx hb dX8_checkpoint_262 rfl (lv_at hl 0 rfl) ?_
        refine lv_bipush (v := 64) hx hb dX8_checkpoint_263 (by decide) ?_
        refine lv_imul hx hb dX8_checkpoint_265 ?_
        refine lv_topi (fun z_65 ez_65 => ?_)
        obtain rfl : z_65 = 0 := ez_65.trans (by decide)
        refine lv_iload_n hx hb dX8_checkpoint_266 rfl (lv_at hl 1 rfl) ?_
        refine lv_icmp_ge (tgt := 308) hx hb dX8_checkpoint_267 (by decide) (fun c => absurd c (by decide)) (fun c => ?_)
        refine lv_aload_n hx hb dX8_checkpoint_270 rfl (lv_at hl 2 rfl) ?_
        refine lv_aload_n hx hb dX8_checkpoint_271 rfl (lv_at hl 2 rfl) ?_
        refine va_get (D := D) (ci := 7) (v := .ref h5) (C := RX8) (T := TX8) (N := 30) hx hb hts inX8_checkpoint_X8 hown hK hP 4 rfl rfl 24 (by decide) (hts _ wdX8_checkpoint_8) (fun _ h9 => h9) rfl dX8_checkpoint_272 ?_
        refine lv_bipush (v := 64) hx hb dX8_checkpoint_275 (by decide) ?_
        refine lv_iload_n hx hb dX8_checkpoint_277 rfl (lv_at hl 0 rfl) ?_
        refine lv_imul hx hb dX8_checkpoint_278 ?_
        refine lv_topi (fun z_66 ez_66 => ?_)
        obtain rfl : z_66 = 0 := ez_66.trans (by decide)
        refine lv_sipush (v := 4096) hx hb dX8_checkpoint_279 (by decide) ?_
        refine lv_aload_n hx hb dX8_checkpoint_282 rfl (lv_at hl 2 rfl) ?_
        refine va_get (D := D) (ci := 7) (v := .int 0) (C := RX8) (T := TX8) (N := 30) hx hb hts inX8_checkpoint_X8 hown hK hP 4 rfl rfl 12 (by decide) (hts _ wdX8_checkpoint_9) (fun _ h9 => h9) rfl dX8_checkpoint_283 ?_
        refine lv_imul hx hb dX8_checkpoint_286 ?_
        refine lv_topi (fun z_67 ez_67 => ?_)
        obtain rfl : z_67 = 0 := ez_67.trans (by decide)
        refine lv_bipush (v := 64) hx hb dX8_checkpoint_287 (by decide) ?_
        refine lv_iload_n hx hb dX8_checkpoint_289 rfl (lv_at hl 0 rfl) ?_
        refine lv_imul hx hb dX8_checkpoint_290 ?_
        refine lv_topi (fun z_68 ez_68 => ?_)
        obtain rfl : z_68 = 0 := ez_68.trans (by decide)
        refine lv_iadd hx hb dX8_checkpoint_291 ?_
        refine lv_topi (fun z_69 ez_69 => ?_)
        obtain rfl : z_69 = 0 := ez_69.trans (by decide)
        refine lv_iconst (v := 0) hx hb dX8_checkpoint_292 (by decide) ?_
        refine kc_i (wr := [(h3, .inl (cI, 64, .inl zf)), (h4, .inl (cI, 300, .inl zf))]) (va_runV (As := [.ref h5, .int 0, .int 0, .int 0]) (rest := []) ⟨hx, hb, hml, hown, hts⟩ (K146_X8_write l D cB cI cZ _ h0 h5 h1 h2 0 0 ((.int 0)) (g1) ((.ref h3)) ((.int 0)) (g2) ((.int 0)) ((.int 1)) ((.int 0)) ((.int 0)) ((.int 0)) 0 (g3) ((.ref h4)) (g4) ((.int 0)) (g5) (g6) (g7) (g8) (g9) ((.ref h5)) ((.int v_56)) (g10) (g11) (g12) (g13) f_55 (by decide) (by decide) bf_55) (cwV 4 hts gX8_checkpoint_X8_write rfl rfl rfl (by decide +kernel) ⟨Nat.le_of_ble_eq_true rfl, Nat.le_of_ble_eq_true rfl⟩) (pre_V (q := (RX8, TX8, 30)) (ci := 7) (q0 := 0) (hP.sub [4, 5, 0, 1] rfl) hK hN (hD.sub [4, 5, 0, 1] (by decide) rfl) rfl rfl) rfl rfl hl.1 rfl (lv_room (Nat.le_of_ble_eq_true rfl)) dX8_checkpoint_293 ⟨Nat.le_of_ble_eq_true rfl, Nat.le_of_ble_eq_true rfl⟩) hP hD hS hA [4, 5, 0, 1] [2, 3] rfl rfl (by decide) (by decide) (fun r_70 u H locs hw hP hD hS => ?_)
        obtain ⟨x_71, f_72⟩ := u
        obtain ⟨k_73, bf_72⟩ := hw
        obtain rfl : r_70 = 0 := k_73
        have bf_72 : FB f_72 := bf_72
        have hP : va_P D vwCl [(h3, .inl (cI, 64, .inl zf)), (h4, .inl (cI, 300, .inl zf)), (h0, .inr (7, [.int 0, .int 0, .ref h1, g1, .ref h2, .ref h3, .int 0, g2, .int 0, .int 1, .int 0, .int 0, .int 0, .int x_71, .int 0, g3, .ref h4, g4, .int 0, g5, g6, g7, g8, g9, .ref h5, .int v_56, g10, g11, g12, g13])), (h5, .inl (cB, 4096, .inl f_55)), (h1, .inl (cB, 65536, .inl f_72)), (h2, .inl (cZ, 65536, .inl zf))] H := hP
        have hD : va_D A [(h3, .inl (cI, 64, .inl zf)), (h4, .inl (cI, 300, .inl zf)), (h0, .inr (7, [.int 0, .int 0, .ref h1, g1, .ref h2, .ref h3, .int 0, g2, .int 0, .int 1, .int 0, .int 0, .int 0, .int x_71, .int 0, g3, .ref h4, g4, .int 0, g5, g6, g7, g8, g9, .ref h5, .int v_56, g10, g11, g12, g13])), (h5, .inl (cB, 4096, .inl f_55)), (h1, .inl (cB, 65536, .inl f_72)), (h2, .inl (cZ, 65536, .inl zf))] := hD
        refine lv_if_eq (tgt := 302) hx hb dX8_checkpoint_296 (by decide) (fun c => ?_) (fun c => absurd (by decide) c)
        refine lv_iinc (v := 1) (lv' := [(2, .int 1), (1, .int 83), (0, .ref h0)]) hx hb dX8_checkpoint_302 hl (k := 0) rfl (by decide) (by decide) rfl (fun ls hl => ?_)
        refine lv_goto (tgt := 262) hx hb dX8_checkpoint_305 (by decide) ?_
        refine lv_iload_n hx hb dX8_checkpoint_262 rfl (lv_at hl 0 rfl) ?_
        refine lv_bipush (v := 64) hx hb dX8_checkpoint_263 (by decide) ?_
        refine lv_imul hx hb dX8_checkpoint_265 ?_
        refine lv_topi (fun z_74 ez_74 => ?_)
        obtain rfl : z_74 = 64 := ez_74.trans (by decide)
        refine lv_iload_n hx hb dX8_checkpoint_266 rfl (lv_at hl 1 rfl) ?_
        refine lv_icmp_ge (tgt := 308) hx hb dX8_checkpoint_267 (by decide) (fun c => absurd c (by decide)) (fun c => ?_)
        refine lv_aload_n hx hb dX8_checkpoint_270 rfl (lv_at hl 2 rfl) ?_
        refine lv_aload_n hx hb dX8_checkpoint_271 rfl (lv_at hl 2 rfl) ?_
        refine va_get (D := D) (ci := 7) (v := .ref h5) (C := RX8) (T := TX8) (N := 30) hx hb hts inX8_checkpoint_X8 hown hK hP 2 rfl rfl 24 (by decide) (hts _ wdX8_checkpoint_8) (fun _ h9 => h9) rfl dX8_checkpoint_272 ?_
        refine lv_bipush (v := 64) hx hb dX8_checkpoint_275 (by decide) ?_
        refine lv_iload_n hx hb dX8_checkpoint_277 rfl (lv_at hl 0 rfl) ?_
        refine lv_imul hx hb dX8_checkpoint_278 ?_
        refine lv_topi (fun z_75 ez_75 => ?_)
        obtain rfl : z_75 = 64 := ez_75.trans (by decide)
        refine lv_sipush (v := 4096) hx hb dX8_checkpoint_279 (by decide) ?_
        refine lv_aload_n hx hb dX8_checkpoint_282 rfl (lv_at hl 2 rfl) ?_
        refine va_get (D := D) (ci := 7) (v := .int 0) (C := RX8) (T := TX8) (N := 30) hx hb hts inX8_checkpoint_X8 hown hK hP 2 rfl rfl 12 (by decide) (hts _ wdX8_checkpoint_9) (fun _ h9 => h9) rfl dX8_checkpoint_283 ?_
        refine lv_imul hx hb dX8_checkpoint_286 ?_
        refine lv_topi (fun z_76 ez_76 => ?_)
        obtain rfl : z_76 = 0 := ez_76.trans (by decide)
        refine lv_bipush (v := 64) hx hb dX8_checkpoint_287 (by decide) ?_
        refine lv_iload_n hx hb dX8_checkpoint_289 rfl (lv_at hl 0 rfl) ?_
        refine lv_imul hx hb dX8_checkpoint_290 ?_
        refine lv_topi (fun z_77 ez_77 => ?_)
        obtain rfl : z_77 = 64 := ez_77.trans (by decide)
        refine lv_iadd hx hb dX8_checkpoint_291 ?_
        refine lv_topi (fun z_78 ez_78 => ?_)
        obtain rfl : z_78 = 64 := ez_78.trans (by decide)
        refine lv_iconst (v := 0) hx hb dX8_checkpoint_292 (by decide) ?_
        refine kc_i (wr := [(h3, .inl (cI, 64, .inl zf)), (h4, .inl (cI, 300, .inl zf))]) (va_runV (As := [.ref h5, .int 64, .int 64, .int 0]) (rest := []) ⟨hx, hb, hml, hown, hts⟩ (K147_X8_write l D cB cI cZ _ h0 h5 h1 h2 64 64 ((.int 0)) (g1) ((.ref h3)) ((.int 0)) (g2) ((.int 0)) ((.int 1)) ((.int 0)) ((.int 0)) ((.int 0)) x_71 (g3) ((.ref h4)) (g4) ((.int 0)) (g5) (g6) (g7) (g8) (g9) ((.ref h5)) ((.int v_56)) (g10) (g11) (g12) (g13) f_55 f_72 (by decide) (by decide) bf_55 bf_72) (cwV 4 hts gX8_checkpoint_X8_write rfl rfl rfl (by decide +kernel) ⟨Nat.le_of_ble_eq_true rfl, Nat.le_of_ble_eq_true rfl⟩) (pre_V (q := (RX8, TX8, 30)) (ci := 7) (q0 := 0) (hP.sub [2, 3, 4, 5] rfl) hK hN (hD.sub [2, 3, 4, 5] (by decide) rfl) rfl rfl) rfl rfl hl.1 rfl (lv_room (Nat.le_of_ble_eq_true rfl)) dX8_checkpoint_293 ⟨Nat.le_of_ble_eq_true rfl, Nat.le_of_ble_eq_true rfl⟩) hP hD hS hA [2, 3, 4, 5] [0, 1] rfl rfl (by decide) (by decide) (fun r_79 u H locs hw hP hD hS => ?_)
        obtain ⟨x_80, f_81⟩ := u
        obtain ⟨k_82, bf_81⟩ := hw
        obtain rfl : r_79 = 0 := k_82
        have bf_81 : FB f_81 := bf_81
        have hP : va_P D vwCl [(h3, .inl (cI, 64, .inl zf)), (h4, .inl (cI, 300, .inl zf)), (h0, .inr (7, [.int 0, .int 0, .ref h1, g1, .ref h2, .ref h3, .int 0, g2, .int 0, .int 1, .int 0, .int 0, .int 0, .int x_80, .int 0, g3, .ref h4, g4, .int 0, g5, g6, g7, g8, g9, .ref h5, .int v_56, g10, g11, g12, g13])), (h5, .inl (cB, 4096, .inl f_55)), (h1, .inl (cB, 65536, .inl f_81)), (h2, .inl (cZ, 65536, .inl zf))] H := hP
        have hD : va_D A [(h3, .inl (cI, 64, .inl zf)), (h4, .inl (cI, 300, .inl zf)), (h0, .inr (7, [.int 0, .int 0, .ref h1, g1, .ref h2, .ref h3, .int 0, g2, .int 0, .int 1, .int 0, .int 0, .int 0, .int x_80, .int 0, g3, .ref h4, g4, .int 0, g5, g6, g7, g8, g9, .ref h5, .int v_56, g10, g11, g12, g13])), (h5, .inl (cB, 4096, .inl f_55)), (h1, .inl (cB, 65536, .inl f_81)), (h2, .inl (cZ, 65536, .inl zf))] := hD
        refine lv_if_eq (tgt := 302) hx hb dX8_checkpoint_296 (by decide) (fun c => ?_) (fun c => absurd (by decide) c)
        refine lv_iinc (v := 2) (lv' := [(2, .int 2), (1, .int 83), (0, .ref h0)]) hx hb dX8_checkpoint_302 hl (k := 0) rfl (by decide) (by decide) rfl (fun ls hl => ?_)
        refine lv_goto (tgt := 262) hx hb dX8_checkpoint_305 (by decide) ?_
        refine lv_iload_n hx hb dX8_checkpoint_262 rfl (lv_at hl 0 rfl) ?_
        refine lv_bipush (v := 64) hx hb dX8_checkpoint_263 (by decide) ?_
        refine lv_imul hx hb dX8_checkpoint_265 ?_
        refine lv_topi (fun z_83 ez_83 => ?_)
        obtain rfl : z_83 = 128 := ez_83.trans (by decide)
        refine lv_iload_n hx hb dX8_checkpoint_266 rfl (lv_at hl 1 rfl) ?_
        refine lv_icmp_ge (tgt := 308) hx hb dX8_checkpoint_267 (by decide) (fun c => ?_) (fun c => absurd (by decide) c)
        refine lv_aload_n hx hb dX8_checkpoint_308 rfl (lv_at hl 2 rfl) ?_
        refine lv_dup hx hb dX8_checkpoint_309 rfl ?_
        refine va_get (D := D) (ci := 7) (v := .int 0) (C := RX8) (T := TX8) (N := 30) hx hb hts inX8_checkpoint_X8 hown hK hP 2 rfl rfl 11 (by decide) (hts _ wdX8_checkpoint_3) (fun _ h9 => h9) rfl dX8_checkpoint_310 ?_
        refine lv_iconst (v := 1) hx hb dX8_checkpoint_313 (by decide) ?_
        refine lv_iadd hx hb dX8_checkpoint_314 ?_
        refine lv_topi (fun z_84 ez_84 => ?_)
        obtain rfl : z_84 = 1 := ez_84.trans (by decide)
        refine va_put (D := D) (ci := 7) (v := .int 1) (ty := .int) (C := RX8) (T := TX8) (N := 30) hx hb hts inX8_checkpoint_X8 tyX8 tyX8_ok nmX8 hown hK hP hD hS 2 rfl rfl 11 (by decide) (hts _ wdX8_checkpoint_3) (fun _ h9 => h9) rfl (by decide +kernel) rfl rfl (Nat.le_of_ble_eq_true rfl) dX8_checkpoint_315 (fun H locs hP hD hS => ?_)
        have hP : va_P D vwCl [(h3, .inl (cI, 64, .inl zf)), (h4, .inl (cI, 300, .inl zf)), (h0, .inr (7, [.int 0, .int 0, .ref h1, g1, .ref h2, .ref h3, .int 0, g2, .int 0, .int 1, .int 0, .int 1, .int 0, .int x_80, .int 0, g3, .ref h4, g4, .int 0, g5, g6, g7, g8, g9, .ref h5, .int v_56, g10, g11, g12, g13])), (h5, .inl (cB, 4096, .inl f_55)), (h1, .inl (cB, 65536, .inl f_81)), (h2, .inl (cZ, 65536, .inl zf))] H := hP
        have hD : va_D A [(h3, .inl (cI, 64, .inl zf)), (h4, .inl (cI, 300, .inl zf)), (h0, .inr (7, [.int 0, .int 0, .ref h1, g1, .ref h2, .ref h3, .int 0, g2, .int 0, .int 1, .int 0, .int 1, .int 0, .int x_80, .int 0, g3, .ref h4, g4, .int 0, g5, g6, g7, g8, g9, .ref h5, .int v_56, g10, g11, g12, g13])), (h5, .inl (cB, 4096, .inl f_55)), (h1, .inl (cB, 65536, .inl f_81)), (h2, .inl (cZ, 65536, .inl zf))] := hD
        refine lv_aload_n hx hb dX8_checkpoint_318 rfl (lv_at hl 2 rfl) ?_
        refine lv_iconst (v := 1) hx hb dX8_checkpoint_319 (by decide) ?_
        refine lv_aload_n hx hb dX8_checkpoint_320 rfl (lv_at hl 2 rfl) ?_
        refine va_get (D := D) (ci := 7) (v := .int 0) (C := RX8) (T := TX8) (N := 30) hx hb hts inX8_checkpoint_X8 hown hK hP 2 rfl rfl 12 (by decide) (hts _ wdX8_checkpoint_9) (fun _ h9 => h9) rfl dX8_checkpoint_321 ?_
        refine lv_isub hx hb dX8_checkpoint_324 ?_
        refine lv_topi (fun z_85 ez_85 => ?_)
        obtain rfl : z_85 = 1 := ez_85.trans (by decide)
        refine va_put (D := D) (ci := 7) (v := .int 1) (ty := .int) (C := RX8) (T := TX8) (N := 30) hx hb hts inX8_checkpoint_X8 tyX8 tyX8_ok nmX8 hown hK hP hD hS 2 rfl rfl 12 (by decide) (hts _ wdX8_checkpoint_9) (fun _ h9 => h9) rfl (by decide +kernel) rfl rfl (Nat.le_of_ble_eq_true rfl) dX8_checkpoint_325 (fun H locs hP hD hS => ?_)
        have hP : va_P D vwCl [(h3, .inl (cI, 64, .inl zf)), (h4, .inl (cI, 300, .inl zf)), (h0, .inr (7, [.int 0, .int 0, .ref h1, g1, .ref h2, .ref h3, .int 0, g2, .int 0, .int 1, .int 0, .int 1, .int 1, .int x_80, .int 0, g3, .ref h4, g4, .int 0, g5, g6, g7, g8, g9, .ref h5, .int v_56, g10, g11, g12, g13])), (h5, .inl (cB, 4096, .inl f_55)), (h1, .inl (cB, 65536, .inl f_81)), (h2, .inl (cZ, 65536, .inl zf))] H := hP
        have hD : va_D A [(h3, .inl (cI, 64, .inl zf)), (h4, .inl (cI, 300, .inl zf)), (h0, .inr (7, [.int 0, .int 0, .ref h1, g1, .ref h2, .ref h3, .int 0, g2, .int 0, .int 1, .int 0, .int 1, .int 1, .int x_80, .int 0, g3, .ref h4, g4, .int 0, g5, g6, g7, g8, g9, .ref h5, .int v_56, g10, g11, g12, g13])), (h5, .inl (cB, 4096, .inl f_55)), (h1, .inl (cB, 65536, .inl f_81)), (h2, .inl (cZ, 65536, .inl zf))] := hD
        refine lv_bipush (v := 8) hx hb dX8_checkpoint_328 (by decide) ?_
        refine lv_istore_n (lv' := [(2, .int 8), (1, .int 83), (0, .ref h0)]) hx hb dX8_checkpoint_330 rfl hl (by decide) rfl (fun ls hl => ?_)
        refine kl (α := Int32) (fun n a H locs ls => (8 ≤ Int32.toInt a) ∧ (Int32.toInt a ≤ 64) ∧ (64 - Int32.toInt a < ((n : Nat) : Int)) ∧ va_P D vwCl [(h3, .inl (cI, 64, .inl zf)), (h4, .inl (cI, 300, .inl zf)), (h0, .inr (7, [.int 0, .int 0, .ref h1, g1, .ref h2, .ref h3, .int 0, g2, .int 0, .int 1, .int 0, .int 1, .int 1, .int x_80, .int 0, g3, .ref h4, g4, .int 0, g5, g6, g7, g8, g9, .ref h5, .int v_56, g10, g11, g12, g13])), (h5, .inl (cB, 4096, .inl f_55)), (h1, .inl (cB, 65536, .inl f_81)), (h2, .inl (cZ, 65536, .inl zf))] H ∧ va_D A [(h3, .inl (cI, 64, .inl zf)), (h4, .inl (cI, 300, .inl zf)), (h0, .inr (7, [.int 0, .int 0, .ref h1, g1, .ref h2, .ref h3, .int 0, g2, .int 0, .int 1, .int 0, .int 1, .int 1, .int x_80, .int 0, g3, .ref h4, g4, .int 0, g5, g6, g7, g8, g9, .ref h5, .int v_56, g10, g11, g12, g13])), (h5, .inl (cB, 4096, .inl f_55)), (h1, .inl (cB, 65536, .inl f_81)), (h2, .inl (cZ, 65536, .inl zf))] ∧ va_S A s.heap H locs ∧ lv_has ls 3 [(2, .int a), (1, .int 83), (0, .ref h0)]) 57 8 ⟨(by show 8 ≤ Int32.toInt 8; decide), (by show Int32.toInt 8 ≤ 64; decide), (by show 64 - Int32.toInt 8 < ((57 : Nat) : Int); have := (by decide : Int32.toInt 8 = 8); omega), hP, hD, hS, hl⟩ (fun a H locs ls h => ?_) (fun n_87 ih_88 a H locs ls h => ?_)
        · obtain ⟨j_89, j_90, j_91, _⟩ := h
          omega
        obtain ⟨v_86, rfl⟩ : ∃ z, z = a := ⟨_, rfl⟩
        obtain ⟨j_89, j_90, j_91, hP, hD, hS, hl⟩ := h
        have j_89 : 8 ≤ Int32.toInt v_86 := j_89
        have j_90 : Int32.toInt v_86 ≤ 64 := j_90
        have j_91 : 64 - Int32.toInt v_86 < ((n_87 + 1 : Nat) : Int) := j_91
        have hP : va_P D vwCl [(h3, .inl (cI, 64, .inl zf)), (h4, .inl (cI, 300, .inl zf)), (h0, .inr (7, [.int 0, .int 0, .ref h1, g1, .ref h2, .ref h3, .int 0, g2, .int 0, .int 1, .int 0, .int 1, .int 1, .int x_80, .int 0, g3, .ref h4, g4, .int 0, g5, g6, g7, g8, g9, .ref h5, .int v_56, g10, g11, g12, g13])), (h5, .inl (cB, 4096, .inl f_55)), (h1, .inl (cB, 65536, .inl f_81)), (h2, .inl (cZ, 65536, .inl zf))] H := hP
        have hD : va_D A [(h3, .inl (cI, 64, .inl zf)), (h4, .inl (cI, 300, .inl zf)), (h0, .inr (7, [.int 0, .int 0, .ref h1, g1, .ref h2, .ref h3, .int 0, g2, .int 0, .int 1, .int 0, .int 1, .int 1, .int x_80, .int 0, g3, .ref h4, g4, .int 0, g5, g6, g7, g8, g9, .ref h5, .int v_56, g10, g11, g12, g13])), (h5, .inl (cB, 4096, .inl f_55)), (h1, .inl (cB, 65536, .inl f_81)), (h2, .inl (cZ, 65536, .inl zf))] := hD
        have hl : lv_has ls 3 [(2, .int v_86), (1, .int 83), (0, .ref h0)] := hl
        refine lv_iload_n hx hb dX8_checkpoint_331 rfl (lv_at hl 0 rfl) ?_
        refine lv_bipush (v := 64) hx hb dX8_checkpoint_332 (by decide) ?_
        refine lv_icmp_ge (tgt := 369) hx hb dX8_checkpoint_334 (by decide) (fun c => ?_) (fun c => ?_)
        · skip
          have k_92 := (ti_le (x := 64) (y := v_86) (a := 64) (b := v_86.toInt) (by decide) rfl).mp c
          obtain rfl : v_86 = 64 := ti_inj (a := 64) (by decide) (by omega)
          refine lv_aload_n hx hb dX8_checkpoint_369 rfl (lv_at hl 2 rfl) ?_
          refine va_get (D := D) (ci := 7) (v := .int 1) (C := RX8) (T := TX8) (N := 30) hx hb hts inX8_checkpoint_X8 hown hK hP 2 rfl rfl 11 (by decide) (hts _ wdX8_checkpoint_3) (fun _ h9 => h9) rfl dX8_checkpoint_370 ?_
          exact kr_i () hx hb hr hlocks (hP.sub [] rfl) (hD.sub [] (by decide) rfl) hS rfl dX8_checkpoint_373
        · skip
          have k_93 := mt (ti_le (x := 64) (y := v_86) (a := 64) (b := v_86.toInt) (by decide) rfl).mpr c
          refine lv_aload_n hx hb dX8_checkpoint_337 rfl (lv_at hl 2 rfl) ?_
          refine va_get (D := D) (ci := 7) (v := .ref h3) (C := RX8) (T := TX8) (N := 30) hx hb hts inX8_checkpoint_X8 hown hK hP 2 rfl rfl 5 (by decide) (hts _ wdX8_checkpoint_10) (fun _ h9 => h9) rfl dX8_checkpoint_338 ?_
          refine lv_iload_n hx hb dX8_checkpoint_341 rfl (lv_at hl 0 rfl) ?_
          refine lv_aload_n hx hb dX8_checkpoint_342 rfl (lv_at hl 2 rfl) ?_
          refine va_get (D := D) (ci := 7) (v := .ref h3) (C := RX8) (T := TX8) (N := 30) hx hb hts inX8_checkpoint_X8 hown hK hP 2 rfl rfl 5 (by decide) (hts _ wdX8_checkpoint_10) (fun _ h9 => h9) rfl dX8_checkpoint_343 ?_
          refine lv_iload_n hx hb dX8_checkpoint_346 rfl (lv_at hl 0 rfl) ?_
          refine va_iald hx hb hK hP 0 1 rfl rfl (ti_in (a := v_86.toInt) rfl (by omega) (by omega)) dX8_checkpoint_347 ?_
          refine lv_topi (fun z_94 ez_94 => ?_)
          obtain rfl : z_94 = 0 := ez_94
          refine lv_iconst (v := 3) hx hb dX8_checkpoint_348 (by decide) ?_
          refine lv_icmp_ne (tgt := 356) hx hb dX8_checkpoint_349 (by decide) (fun c => ?_) (fun c => absurd c (by decide))
          refine lv_aload_n hx hb dX8_checkpoint_356 rfl (lv_at hl 2 rfl) ?_
          refine va_get (D := D) (ci := 7) (v := .ref h3) (C := RX8) (T := TX8) (N := 30) hx hb hts inX8_checkpoint_X8 hown hK hP 2 rfl rfl 5 (by decide) (hts _ wdX8_checkpoint_10) (fun _ h9 => h9) rfl dX8_checkpoint_357 ?_
          refine lv_iload_n hx hb dX8_checkpoint_360 rfl (lv_at hl 0 rfl) ?_
          refine va_iald hx hb hK hP 0 1 rfl rfl (ti_in (a := v_86.toInt) rfl (by omega) (by omega)) dX8_checkpoint_361 ?_
          refine lv_topi (fun z_95 ez_95 => ?_)
          obtain rfl : z_95 = 0 := ez_95
          refine va_iast hx hb hK hP hD hS 0 1 rfl rfl (ti_in (a := v_86.toInt) rfl (by omega) (by omega)) dX8_checkpoint_362 (fun H locs hP hD hS => ?_)
          rw [zf_upd] at hP hD
          have hP : va_P D vwCl [(h3, .inl (cI, 64, .inl zf)), (h4, .inl (cI, 300, .inl zf)), (h0, .inr (7, [.int 0, .int 0, .ref h1, g1, .ref h2, .ref h3, .int 0, g2, .int 0, .int 1, .int 0, .int 1, .int 1, .int x_80, .int 0, g3, .ref h4, g4, .int 0, g5, g6, g7, g8, g9, .ref h5, .int v_56, g10, g11, g12, g13])), (h5, .inl (cB, 4096, .inl f_55)), (h1, .inl (cB, 65536, .inl f_81)), (h2, .inl (cZ, 65536, .inl zf))] H := hP
          have hD : va_D A [(h3, .inl (cI, 64, .inl zf)), (h4, .inl (cI, 300, .inl zf)), (h0, .inr (7, [.int 0, .int 0, .ref h1, g1, .ref h2, .ref h3, .int 0, g2, .int 0, .int 1, .int 0, .int 1, .int 1, .int x_80, .int 0, g3, .ref h4, g4, .int 0, g5, g6, g7, g8, g9, .ref h5, .int v_56, g10, g11, g12, g13])), (h5, .inl (cB, 4096, .inl f_55)), (h1, .inl (cB, 65536, .inl f_81)), (h2, .inl (cZ, 65536, .inl zf))] := hD
          obtain ⟨x_96, ex_96⟩ : ∃ y : Int32, y = v_86 + 1 := ⟨_, rfl⟩
          have tx_96 : x_96.toInt = v_86.toInt + 1 := by rw [ex_96]; exact ti_add rfl (by decide) (by omega) (by omega)
          refine lv_iinc (v := x_96) (lv' := [(2, .int x_96), (1, .int 83), (0, .ref h0)]) hx hb dX8_checkpoint_363 hl (k := 0) rfl (by rw [ex_96]; rfl) (by decide) rfl (fun ls hl => ?_)
          refine lv_goto (tgt := 331) hx hb dX8_checkpoint_366 (by decide) ?_
          exact ih_88 x_96 _ _ _ ⟨(by show 8 ≤ Int32.toInt x_96; omega), (by show Int32.toInt x_96 ≤ 64; omega), (by show 64 - Int32.toInt x_96 < ((n_87 : Nat) : Int); omega), hP, hD, hS, hl⟩
      · skip
        have k_97 := mt (ti_eq (x := x_63) (y := 0) (a := x_63.toInt) (b := 0) rfl (by decide)).mpr c
        have k_98 : v_56.toInt ≠ 128 := fun h => c (by rw [ex_63, ti_inj (x := v_56) (y := 128) (a := 128) (by decide) h]; decide)
        refine lv_aload_n hx hb dX8_checkpoint_251 rfl (lv_at hl 1 rfl) ?_
        refine lv_iconst (v := 0) hx hb dX8_checkpoint_252 (by decide) ?_
        refine lv_iconst (v := 1) hx hb dX8_checkpoint_253 (by decide) ?_
        refine kc_v (wr := [(h1, .inl (cB, 65536, .inl zf)), (h2, .inl (cZ, 65536, .inl zf)), (h3, .inl (cI, 64, .inl zf)), (h4, .inl (cI, 300, .inl zf))]) (va_runV (As := [.int 0, .int 1]) (rest := []) ⟨hx, hb, hml, hown, hts⟩ (K88_X8_octets l D cB cI cZ _ h0 h5 0 ((.int 0)) ((.int 0)) ((.ref h1)) (g1) ((.ref h2)) ((.ref h3)) ((.int 0)) (g2) ((.int 0)) ((.int 1)) ((.int 0)) ((.int 0)) ((.int 0)) ((.int 0)) ((.int 0)) (g3) ((.ref h4)) (g4) ((.int 0)) (g5) (g6) (g7) (g8) (g9) v_56 (g10) (g11) (g12) (g13) f_55 ⟨by omega, by omega⟩ bf_55) (cwV 2 hts gX8_checkpoint_X8_octets rfl rfl rfl (by decide +kernel) ⟨Nat.le_of_ble_eq_true rfl, Nat.le_of_ble_eq_true rfl⟩) (pre_V (q := (RX8, TX8, 30)) (ci := 7) (q0 := 0) (hP.sub [4, 5] rfl) hK hN (hD.sub [4, 5] (by decide) rfl) rfl rfl) rfl rfl hl.1 rfl (lv_room (Nat.le_of_ble_eq_true rfl)) dX8_checkpoint_254 ⟨Nat.le_of_ble_eq_true rfl, Nat.le_of_ble_eq_true rfl⟩) hP hD hS hA [4, 5] [0, 1, 2, 3] rfl rfl (by decide) (by decide) (fun  u H locs hw hP hD hS => ?_)
        obtain ⟨x_99, f_100⟩ := u
        obtain ⟨k_101, bf_100⟩ := hw
        have k_101 : x_99.toInt = v_56.toInt + 1 := k_101
        have bf_100 : FB f_100 := bf_100
        have hP : va_P D vwCl [(h1, .inl (cB, 65536, .inl zf)), (h2, .inl (cZ, 65536, .inl zf)), (h3, .inl (cI, 64, .inl zf)), (h4, .inl (cI, 300, .inl zf)), (h0, .inr (7, [.int 0, .int 0, .ref h1, g1, .ref h2, .ref h3, .int 0, g2, .int 0, .int 1, .int 0, .int 0, .int 0, .int 0, .int 0, g3, .ref h4, g4, .int 0, g5, g6, g7, g8, g9, .ref h5, .int x_99, g10, g11, g12, g13])), (h5, .inl (cB, 4096, .inl f_100))] H := hP
        have hD : va_D A [(h1, .inl (cB, 65536, .inl zf)), (h2, .inl (cZ, 65536, .inl zf)), (h3, .inl (cI, 64, .inl zf)), (h4, .inl (cI, 300, .inl zf)), (h0, .inr (7, [.int 0, .int 0, .ref h1, g1, .ref h2, .ref h3, .int 0, g2, .int 0, .int 1, .int 0, .int 0, .int 0, .int 0, .int 0, g3, .ref h4, g4, .int 0, g5, g6, g7, g8, g9, .ref h5, .int x_99, g10, g11, g12, g13])), (h5, .inl (cB, 4096, .inl f_100))] := hD
        refine lv_goto (tgt := 241) hx hb dX8_checkpoint_257 (by decide) ?_
        exact ih_58 (x_99, f_100) _ _ _ ⟨(by show 83 ≤ Int32.toInt x_99; omega), (by show Int32.toInt x_99 ≤ 128; omega), bf_100, (by show 128 - Int32.toInt x_99 < ((n_57 : Nat) : Int); omega), hP, hD, hS, hl⟩
    · skip
      have k_102 := mt (ti_le (x := 64) (y := v_42) (a := 64) (b := v_42.toInt) (by decide) rfl).mpr c
      refine lv_aload_n hx hb dX8_checkpoint_183 rfl (lv_at hl 1 rfl) ?_
      refine lv_aload_n hx hb dX8_checkpoint_184 rfl (lv_at hl 1 rfl) ?_
      refine va_get (D := D) (ci := 7) (v := .ref h3) (C := RX8) (T := TX8) (N := 30) hx hb hts inX8_checkpoint_X8 hown hK hP 4 rfl rfl 5 (by decide) (hts _ wdX8_checkpoint_10) (fun _ h9 => h9) rfl dX8_checkpoint_185 ?_
      refine lv_iload_n hx hb dX8_checkpoint_188 rfl (lv_at hl 0 rfl) ?_
      refine va_iald hx hb hK hP 2 1 rfl rfl (ti_in (a := v_42.toInt) rfl (by omega) (by omega)) dX8_checkpoint_189 ?_
      refine lv_topi (fun z_103 ez_103 => ?_)
      obtain rfl : z_103 = 0 := ez_103
      refine lv_iconst (v := 1) hx hb dX8_checkpoint_190 (by decide) ?_
      refine lv_icmp_eq (tgt := 204) hx hb dX8_checkpoint_191 (by decide) (fun c => absurd c (by decide)) (fun c => ?_)
      refine lv_aload_n hx hb dX8_checkpoint_194 rfl (lv_at hl 1 rfl) ?_
      refine va_get (D := D) (ci := 7) (v := .ref h3) (C := RX8) (T := TX8) (N := 30) hx hb hts inX8_checkpoint_X8 hown hK hP 4 rfl rfl 5 (by decide) (hts _ wdX8_checkpoint_10) (fun _ h9 => h9) rfl dX8_checkpoint_195 ?_
      refine lv_iload_n hx hb dX8_checkpoint_198 rfl (lv_at hl 0 rfl) ?_
      refine va_iald hx hb hK hP 2 1 rfl rfl (ti_in (a := v_42.toInt) rfl (by omega) (by omega)) dX8_checkpoint_199 ?_
      refine lv_topi (fun z_104 ez_104 => ?_)
      obtain rfl : z_104 = 0 := ez_104
      refine lv_iconst (v := 2) hx hb dX8_checkpoint_200 (by decide) ?_
      refine lv_icmp_ne (tgt := 208) hx hb dX8_checkpoint_201 (by decide) (fun c => ?_) (fun c => absurd c (by decide))
      refine lv_iconst (v := 0) hx hb dX8_checkpoint_208 (by decide) ?_
      refine lv_iconst (v := 1) hx hb dX8_checkpoint_209 (by decide) ?_
      refine kc_v (wr := [(h1, .inl (cB, 65536, .inl zf)), (h2, .inl (cZ, 65536, .inl zf)), (h3, .inl (cI, 64, .inl zf)), (h4, .inl (cI, 300, .inl zf))]) (va_runV (As := [.int 0, .int 1]) (rest := []) ⟨hx, hb, hml, hown, hts⟩ (K88_X8_octets l D cB cI cZ _ h0 h5 0 ((.int 0)) ((.int 0)) ((.ref h1)) (g1) ((.ref h2)) ((.ref h3)) ((.int 0)) (g2) ((.int 0)) ((.int 1)) ((.int 0)) ((.int 0)) ((.int 0)) ((.int 0)) ((.int 0)) (g3) ((.ref h4)) (g4) ((.int 0)) (g5) (g6) (g7) (g8) (g9) v_41 (g10) (g11) (g12) (g13) f_40 ⟨by omega, by omega⟩ bf_40) (cwV 2 hts gX8_checkpoint_X8_octets rfl rfl rfl (by decide +kernel) ⟨Nat.le_of_ble_eq_true rfl, Nat.le_of_ble_eq_true rfl⟩) (pre_V (q := (RX8, TX8, 30)) (ci := 7) (q0 := 0) (hP.sub [4, 5] rfl) hK hN (hD.sub [4, 5] (by decide) rfl) rfl rfl) rfl rfl hl.1 rfl (lv_room (Nat.le_of_ble_eq_true rfl)) dX8_checkpoint_210 ⟨Nat.le_of_ble_eq_true rfl, Nat.le_of_ble_eq_true rfl⟩) hP hD hS hA [4, 5] [0, 1, 2, 3] rfl rfl (by decide) (by decide) (fun  u H locs hw hP hD hS => ?_)
      obtain ⟨x_105, f_106⟩ := u
      obtain ⟨k_107, bf_106⟩ := hw
      have k_107 : x_105.toInt = v_41.toInt + 1 := k_107
      have bf_106 : FB f_106 := bf_106
      have hP : va_P D vwCl [(h1, .inl (cB, 65536, .inl zf)), (h2, .inl (cZ, 65536, .inl zf)), (h3, .inl (cI, 64, .inl zf)), (h4, .inl (cI, 300, .inl zf)), (h0, .inr (7, [.int 0, .int 0, .ref h1, g1, .ref h2, .ref h3, .int 0, g2, .int 0, .int 1, .int 0, .int 0, .int 0, .int 0, .int 0, g3, .ref h4, g4, .int 0, g5, g6, g7, g8, g9, .ref h5, .int x_105, g10, g11, g12, g13])), (h5, .inl (cB, 4096, .inl f_106))] H := hP
      have hD : va_D A [(h1, .inl (cB, 65536, .inl zf)), (h2, .inl (cZ, 65536, .inl zf)), (h3, .inl (cI, 64, .inl zf)), (h4, .inl (cI, 300, .inl zf)), (h0, .inr (7, [.int 0, .int 0, .ref h1, g1, .ref h2, .ref h3, .int 0, g2, .int 0, .int 1, .int 0, .int 0, .int 0, .int 0, .int 0, g3, .ref h4, g4, .int 0, g5, g6, g7, g8, g9, .ref h5, .int x_105, g10, g11, g12, g13])), (h5, .inl (cB, 4096, .inl f_106))] := hD
      obtain ⟨x_108, ex_108⟩ : ∃ y : Int32, y = v_42 + 1 := ⟨_, rfl⟩
      have tx_108 : x_108.toInt = v_42.toInt + 1 := by rw [ex_108]; exact ti_add rfl (by decide) (by omega) (by omega)
      refine lv_iinc (v := x_108) (lv' := [(1, .int x_108), (0, .ref h0)]) hx hb dX8_checkpoint_213 hl (k := 0) rfl (by rw [ex_108]; rfl) (by decide) rfl (fun ls hl => ?_)
      refine lv_goto (tgt := 177) hx hb dX8_checkpoint_216 (by decide) ?_
      exact ih_44 (x_108, f_106, x_105) _ _ _ ⟨(by show 8 ≤ Int32.toInt x_108; omega), (by show Int32.toInt x_108 ≤ 64; omega), bf_106, (by show Int32.toInt x_105 = Int32.toInt x_108 + 15; omega), (by show 64 - Int32.toInt x_108 < ((n_43 : Nat) : Int); omega), hP, hD, hS, hl⟩
  · skip
    have k_109 := mt (ti_le (x := 300) (y := v_33) (a := 300) (b := v_33.toInt) (by decide) rfl).mpr c
    refine lv_aload_n hx hb dX8_checkpoint_131 rfl (lv_at hl 1 rfl) ?_
    refine va_get (D := D) (ci := 7) (v := .ref h4) (C := RX8) (T := TX8) (N := 30) hx hb hts inX8_checkpoint_X8 hown hK hP 4 rfl rfl 16 (by decide) (hts _ wdX8_checkpoint_11) (fun _ h9 => h9) rfl dX8_checkpoint_132 ?_
    refine lv_iload_n hx hb dX8_checkpoint_135 rfl (lv_at hl 0 rfl) ?_
    refine va_iald hx hb hK hP 3 1 rfl rfl (ti_in (a := v_33.toInt) rfl (by omega) (by omega)) dX8_checkpoint_136 ?_
    refine lv_topi (fun z_110 ez_110 => ?_)
    obtain rfl : z_110 = 0 := ez_110
    refine lv_if_le (tgt := 168) hx hb dX8_checkpoint_137 (by decide) (fun c => ?_) (fun c => absurd (by decide) c)
    obtain ⟨x_111, ex_111⟩ : ∃ y : Int32, y = v_33 + 1 := ⟨_, rfl⟩
    have tx_111 : x_111.toInt = v_33.toInt + 1 := by rw [ex_111]; exact ti_add rfl (by decide) (by omega) (by omega)
    refine lv_iinc (v := x_111) (lv' := [(1, .int x_111), (0, .ref h0)]) hx hb dX8_checkpoint_168 hl (k := 0) rfl (by rw [ex_111]; rfl) (by decide) rfl (fun ls hl => ?_)
    refine lv_goto (tgt := 124) hx hb dX8_checkpoint_171 (by decide) ?_
    exact ih_35 x_111 _ _ _ ⟨(by show 0 ≤ Int32.toInt x_111; omega), (by show Int32.toInt x_111 ≤ 300; omega), (by show 300 - Int32.toInt x_111 < ((n_34 : Nat) : Int); omega), hP, hD, hS, hl⟩
set_option maxHeartbeats 4000000 in
set_option maxRecDepth 100000 in
theorem K148_X7_clean (l : Launch) (D : va_G) (cB cI cZ : ClassId) (sz : Nat) (h0 : Nat)  (p0 : Int32) (g0 : Value) (g1 : Value) (g2 : Value) (g3 : Value) (g4 : Value) (g5 : Value) (g6 : Value) (g7 : Value) (i_p0 : p0.toInt ≤ 0) :
    CtI l D cB cI cZ yX7_clean wsX7_clean { frames := 0, cells := 0, slots := 0, locals := 0 } [.ref h0, .int p0] [(h0, .inr (6, [g0, g1, g2, g3, g4, g5, g6, g7, .int 0]))] sz 0 0
      (fun (r : Int32) (u : Unit) => r = (-2))
      (fun u => []) := by
  refine mk_metI (cc := cX7_clean) (maxL := 2) (ret := (some .int)) (by decide) rfl (Nat.le_of_ble_eq_true rfl) ?_
  intro p e s m below meth c A hx hb hr hml hts hown hlocks hin hP hK hN hD hA hS ls hl
  have hown : s.vm.findClass RX7 = some m.cls := hown
  have hl : lv_has ls 2 [(0, .ref h0), (1, .int p0)] := hl
  refine lv_aload_n hx hb dX7_clean_0 rfl (lv_at hl 0 rfl) ?_
  refine va_get (D := D) (ci := 6) (v := .int 0) (C := RX7) (T := TX7) (N := 9) hx hb hts inX7_clean_X7 hown hK hP 0 rfl rfl 8 (by decide) (hts _ wdX7_clean_0) (fun _ h9 => h9) rfl dX7_clean_1 ?_
  refine lv_if_eq (tgt := 10) hx hb dX7_clean_4 (by decide) (fun c => ?_) (fun c => absurd (by decide) c)
  refine lv_iload_n hx hb dX7_clean_10 rfl (lv_at hl 1 rfl) ?_
  refine lv_iconst (v := 1) hx hb dX7_clean_11 (by decide) ?_
  refine lv_icmp_lt (tgt := 21) hx hb dX7_clean_12 (by decide) (fun c => ?_) (fun c => absurd ((ti_lt (x := p0) (y := 1) (a := p0.toInt) (b := 1) rfl (by decide)).mpr (by omega)) c)
  refine lv_bipush (v := (-2)) hx hb dX7_clean_21 (by decide) ?_
  exact kr_i () hx hb hr hlocks (hP.sub [] rfl) (hD.sub [] (by decide) rfl) hS rfl dX7_clean_23
set_option maxHeartbeats 4000000 in
set_option maxRecDepth 100000 in
theorem K150_X8_in (l : Launch) (D : va_G) (cB cI cZ : ClassId) (sz : Nat)   (p0 : Int32) (i_p0 : p0.toInt ≤ 0) :
    CtI l D cB cI cZ yX8_in wsX8_in { frames := 0, cells := 0, slots := 0, locals := 0 } [.int p0, .int 1, .int 8] [] sz 0 0
      (fun (r : Int32) (u : Unit) => r = 0)
      (fun u => []) := by
  refine mk_metI (cc := cX8_in) (maxL := 3) (ret := (some .boolean)) (by decide) rfl (Nat.le_of_ble_eq_true rfl) ?_
  intro p e s m below meth c A hx hb hr hml hts hown hlocks hin hP hK hN hD hA hS ls hl
  have hown : s.vm.findClass RX8 = some m.cls := hown
  have hl : lv_has ls 3 [(0, .int p0), (1, .int 1), (2, .int 8)] := hl
  refine lv_iload_n hx hb dX8_in_0 rfl (lv_at hl 0 rfl) ?_
  refine lv_iload_n hx hb dX8_in_1 rfl (lv_at hl 1 rfl) ?_
  refine lv_icmp_lt (tgt := 14) hx hb dX8_in_2 (by decide) (fun c => ?_) (fun c => absurd ((ti_lt (x := p0) (y := 1) (a := p0.toInt) (b := 1) rfl (by decide)).mpr (by omega)) c)
  refine lv_iconst (v := 0) hx hb dX8_in_14 (by decide) ?_
  exact kr_z () hx hb hr rfl hlocks hP hD hS rfl dX8_in_15
set_option maxHeartbeats 4000000 in
set_option maxRecDepth 100000 in
theorem K149_X8_clean (l : Launch) (D : va_G) (cB cI cZ : ClassId) (sz : Nat) (h0 : Nat)  (p0 : Int32) (g0 : Value) (g1 : Value) (g2 : Value) (g3 : Value) (g4 : Value) (g5 : Value) (g6 : Value) (g7 : Value) (g8 : Value) (g9 : Value) (g10 : Value) (g11 : Value) (g12 : Value) (g13 : Value) (g14 : Value) (g15 : Value) (g16 : Value) (g17 : Value) (g18 : Value) (g19 : Value) (g20 : Value) (g21 : Value) (g22 : Value) (g23 : Value) (g24 : Value) (g25 : Value) (g26 : Value) (g27 : Value) (g28 : Value) (i_p0 : p0.toInt ≤ 0) :
    CtI l D cB cI cZ yX8_clean wsX8_clean { frames := 1, cells := 0, slots := 0, locals := 22 } [.ref h0, .int p0] [(h0, .inr (7, [g0, .int 0, g1, g2, g3, g4, g5, g6, g7, g8, g9, g10, g11, g12, g13, g14, g15, g16, g17, g18, g19, g20, g21, g22, g23, g24, g25, g26, g27, g28]))] sz 0 0
      (fun (r : Int32) (u : Unit) => r = (-2))
      (fun u => []) := by
  refine mk_metI (cc := cX8_clean) (maxL := 12) (ret := (some .int)) (by decide) rfl (Nat.le_of_ble_eq_true rfl) ?_
  intro p e s m below meth c A hx hb hr hml hts hown hlocks hin hP hK hN hD hA hS ls hl
  have hown : s.vm.findClass RX8 = some m.cls := hown
  have hl : lv_has ls 12 [(0, .ref h0), (1, .int p0)] := hl
  refine lv_aload_n hx hb dX8_clean_0 rfl (lv_at hl 0 rfl) ?_
  refine lv_iconst (v := 0) hx hb dX8_clean_1 (by decide) ?_
  refine va_put (D := D) (ci := 7) (v := .int 0) (ty := .int) (C := RX8) (T := TX8) (N := 30) hx hb hts inX8_clean_X8 tyX8 tyX8_ok nmX8 hown hK hP hD hS 0 rfl rfl 0 (by decide) (hts _ wdX8_clean_0) (fun _ h9 => h9) rfl (by decide +kernel) rfl rfl (Nat.le_of_ble_eq_true rfl) dX8_clean_2 (fun H locs hP hD hS => ?_)
  have hP : va_P D vwCl [(h0, .inr (7, [.int 0, .int 0, g1, g2, g3, g4, g5, g6, g7, g8, g9, g10, g11, g12, g13, g14, g15, g16, g17, g18, g19, g20, g21, g22, g23, g24, g25, g26, g27, g28]))] H := hP
  have hD : va_D A [(h0, .inr (7, [.int 0, .int 0, g1, g2, g3, g4, g5, g6, g7, g8, g9, g10, g11, g12, g13, g14, g15, g16, g17, g18, g19, g20, g21, g22, g23, g24, g25, g26, g27, g28]))] := hD
  refine lv_aload_n hx hb dX8_clean_5 rfl (lv_at hl 0 rfl) ?_
  refine va_get (D := D) (ci := 7) (v := .int 0) (C := RX8) (T := TX8) (N := 30) hx hb hts inX8_clean_X8 hown hK hP 0 rfl rfl 1 (by decide) (hts _ wdX8_clean_1) (fun _ h9 => h9) rfl dX8_clean_6 ?_
  refine lv_if_eq (tgt := 15) hx hb dX8_clean_9 (by decide) (fun c => ?_) (fun c => absurd (by decide) c)
  refine lv_iload_n hx hb dX8_clean_15 rfl (lv_at hl 1 rfl) ?_
  refine lv_iconst (v := 1) hx hb dX8_clean_16 (by decide) ?_
  refine lv_bipush (v := 8) hx hb dX8_clean_17 (by decide) ?_
  refine kc_i (wr := [(h0, .inr (7, [.int 0, .int 0, g1, g2, g3, g4, g5, g6, g7, g8, g9, g10, g11, g12, g13, g14, g15, g16, g17, g18, g19, g20, g21, g22, g23, g24, g25, g26, g27, g28]))]) (va_runS (As := [.int p0, .int 1, .int 8]) (rest := []) ⟨hx, hb, hml, hown, hts⟩ (K150_X8_in l D cB cI cZ _ p0 (by omega)) (va_cwS 3 hts gX8_clean_X8_in rfl rfl rfl (by decide +kernel) ⟨Nat.le_of_ble_eq_true rfl, Nat.le_of_ble_eq_true rfl⟩) (pre_S (hP.sub [] rfl) hK hN (hD.sub [] (by decide) rfl)) rfl rfl hl.1 rfl (lv_room (Nat.le_of_ble_eq_true rfl)) dX8_clean_19 ⟨Nat.le_of_ble_eq_true rfl, Nat.le_of_ble_eq_true rfl⟩) hP hD hS hA [] [0] rfl rfl (by decide) (by decide) (fun r_1 u H locs hw hP hD hS => ?_)
  have k_2 := hw
  obtain rfl : r_1 = 0 := k_2
  have hP : va_P D vwCl [(h0, .inr (7, [.int 0, .int 0, g1, g2, g3, g4, g5, g6, g7, g8, g9, g10, g11, g12, g13, g14, g15, g16, g17, g18, g19, g20, g21, g22, g23, g24, g25, g26, g27, g28]))] H := hP
  have hD : va_D A [(h0, .inr (7, [.int 0, .int 0, g1, g2, g3, g4, g5, g6, g7, g8, g9, g10, g11, g12, g13, g14, g15, g16, g17, g18, g19, g20, g21, g22, g23, g24, g25, g26, g27, g28]))] := hD
  refine lv_if_ne (tgt := 28) hx hb dX8_clean_22 (by decide) (fun c => absurd (by decide) c) (fun c => ?_)
  refine lv_bipush (v := (-2)) hx hb dX8_clean_25 (by decide) ?_
  exact kr_i () hx hb hr hlocks (hP.sub [] rfl) (hD.sub [] (by decide) rfl) hS rfl dX8_clean_27
set_option maxHeartbeats 4000000 in
set_option maxRecDepth 100000 in
theorem K154_X0_forgetChosen (l : Launch) (D : va_G) (cB cI cZ : ClassId) (sz : Nat) (h0 : Nat) (h1 : Nat)  (g0 : Value) (g1 : Value) (g2 : Value) (g3 : Value) (g4 : Value)  :
    CtV l D cB cI cZ yX0_forgetChosen wsX0_forgetChosen { frames := 0, cells := 0, slots := 0, locals := 0 } [.ref h0] [(h0, .inr (0, [g0, g1, .ref h1, g2, g3, g4])), (h1, .inl (cZ, 64, .inl zf))] sz 0 0
      (fun (u : Unit) => True)
      (fun u => [(h0, .inr (0, [g0, g1, .ref h1, g2, g3, g4])), (h1, .inl (cZ, 64, .inl zf))]) := by
  refine mk_metV (cc := cX0_forgetChosen) (maxL := 2) (ret := none) (by decide) rfl (Nat.le_of_ble_eq_true rfl) ?_
  intro p e s m below meth c A hx hb hr hml hts hown hlocks hin hP hK hN hD hA hS ls hl
  have hown : s.vm.findClass RX0 = some m.cls := hown
  have hl : lv_has ls 2 [(0, .ref h0)] := hl
  refine lv_iconst (v := 0) hx hb dX0_forgetChosen_0 (by decide) ?_
  refine lv_istore_n (lv' := [(1, .int 0), (0, .ref h0)]) hx hb dX0_forgetChosen_1 rfl hl (by decide) rfl (fun ls hl => ?_)
  refine kl (α := Int32) (fun n a H locs ls => (0 ≤ Int32.toInt a) ∧ (Int32.toInt a ≤ 64) ∧ (64 - Int32.toInt a < ((n : Nat) : Int)) ∧ va_P D vwCl [(h0, .inr (0, [g0, g1, .ref h1, g2, g3, g4])), (h1, .inl (cZ, 64, .inl zf))] H ∧ va_D A [(h0, .inr (0, [g0, g1, .ref h1, g2, g3, g4])), (h1, .inl (cZ, 64, .inl zf))] ∧ va_S A s.heap H locs ∧ lv_has ls 2 [(1, .int a), (0, .ref h0)]) 65 0 ⟨(by show 0 ≤ Int32.toInt 0; decide), (by show Int32.toInt 0 ≤ 64; decide), (by show 64 - Int32.toInt 0 < ((65 : Nat) : Int); have := (by decide : Int32.toInt 0 = 0); omega), hP, hD, hS, hl⟩ (fun a H locs ls h => ?_) (fun n_2 ih_3 a H locs ls h => ?_)
  · obtain ⟨j_4, j_5, j_6, _⟩ := h
    omega
  obtain ⟨v_1, rfl⟩ : ∃ z, z = a := ⟨_, rfl⟩
  obtain ⟨j_4, j_5, j_6, hP, hD, hS, hl⟩ := h
  have j_4 : 0 ≤ Int32.toInt v_1 := j_4
  have j_5 : Int32.toInt v_1 ≤ 64 := j_5
  have j_6 : 64 - Int32.toInt v_1 < ((n_2 + 1 : Nat) : Int) := j_6
  have hP : va_P D vwCl [(h0, .inr (0, [g0, g1, .ref h1, g2, g3, g4])), (h1, .inl (cZ, 64, .inl zf))] H := hP
  have hD : va_D A [(h0, .inr (0, [g0, g1, .ref h1, g2, g3, g4])), (h1, .inl (cZ, 64, .inl zf))] := hD
  have hl : lv_has ls 2 [(1, .int v_1), (0, .ref h0)] := hl
  refine lv_iload_n hx hb dX0_forgetChosen_2 rfl (lv_at hl 0 rfl) ?_
  refine lv_bipush (v := 64) hx hb dX0_forgetChosen_3 (by decide) ?_
  refine lv_icmp_ge (tgt := 21) hx hb dX0_forgetChosen_5 (by decide) (fun c => ?_) (fun c => ?_)
  · skip
    have k_7 := (ti_le (x := 64) (y := v_1) (a := 64) (b := v_1.toInt) (by decide) rfl).mp c
    obtain rfl : v_1 = 64 := ti_inj (a := 64) (by decide) (by omega)
    exact kr_v () hx hb hr hlocks hP hD hS trivial dX0_forgetChosen_21
  · skip
    have k_8 := mt (ti_le (x := 64) (y := v_1) (a := 64) (b := v_1.toInt) (by decide) rfl).mpr c
    refine lv_aload_n hx hb dX0_forgetChosen_8 rfl (lv_at hl 1 rfl) ?_
    refine va_get (D := D) (ci := 0) (v := .ref h1) (C := RX0) (T := TX0) (N := 6) hx hb hts inX0_forgetChosen_X0 hown hK hP 0 rfl rfl 2 (by decide) (hts _ wdX0_forgetChosen_0) (fun _ h9 => h9) rfl dX0_forgetChosen_9 ?_
    refine lv_iload_n hx hb dX0_forgetChosen_12 rfl (lv_at hl 0 rfl) ?_
    refine lv_iconst (v := 0) hx hb dX0_forgetChosen_13 (by decide) ?_
    refine va_zast hx hb hK hP hD hS 1 2 rfl rfl (ti_in (a := v_1.toInt) rfl (by omega) (by omega)) dX0_forgetChosen_14 (fun H locs hP hD hS => ?_)
    rw [zf_updZ] at hP hD
    have hP : va_P D vwCl [(h0, .inr (0, [g0, g1, .ref h1, g2, g3, g4])), (h1, .inl (cZ, 64, .inl zf))] H := hP
    have hD : va_D A [(h0, .inr (0, [g0, g1, .ref h1, g2, g3, g4])), (h1, .inl (cZ, 64, .inl zf))] := hD
    obtain ⟨x_9, ex_9⟩ : ∃ y : Int32, y = v_1 + 1 := ⟨_, rfl⟩
    have tx_9 : x_9.toInt = v_1.toInt + 1 := by rw [ex_9]; exact ti_add rfl (by decide) (by omega) (by omega)
    refine lv_iinc (v := x_9) (lv' := [(1, .int x_9), (0, .ref h0)]) hx hb dX0_forgetChosen_15 hl (k := 0) rfl (by rw [ex_9]; rfl) (by decide) rfl (fun ls hl => ?_)
    refine lv_goto (tgt := 2) hx hb dX0_forgetChosen_18 (by decide) ?_
    exact ih_3 x_9 _ _ _ ⟨(by show 0 ≤ Int32.toInt x_9; omega), (by show Int32.toInt x_9 ≤ 64; omega), (by show 64 - Int32.toInt x_9 < ((n_2 : Nat) : Int); omega), hP, hD, hS, hl⟩
set_option maxHeartbeats 4000000 in
set_option maxRecDepth 100000 in
theorem K156_J7_fill_53178 (l : Launch) (D : va_G) (cB cI cZ : ClassId) (sz : Nat) (h0 : Nat)    :
    CtV l D cB cI cZ yJ7_fill_53178 wsJ7_fill_53178 { frames := 0, cells := 0, slots := 0, locals := 0 } [.ref h0, .int 0] [(h0, .inl (cI, 64, .inl zf))] sz 0 0
      (fun (u : Unit) => True)
      (fun u => [(h0, .inl (cI, 64, .inl zf))]) := by
  refine mk_metV (cc := cJ7_fill_53178) (maxL := 4) (ret := none) (by decide) rfl (Nat.le_of_ble_eq_true rfl) ?_
  intro p e s m below meth c A hx hb hr hml hts hown hlocks hin hP hK hN hD hA hS ls hl
  have hown : s.vm.findClass RJ7 = some m.cls := hown
  have hl : lv_has ls 4 [(0, .ref h0), (1, .int 0)] := hl
  refine lv_iconst (v := 0) hx hb dJ7_fill_53178_0 (by decide) ?_
  refine lv_istore_n (lv' := [(2, .int 0), (0, .ref h0), (1, .int 0)]) hx hb dJ7_fill_53178_1 rfl hl (by decide) rfl (fun ls hl => ?_)
  refine lv_aload_n hx hb dJ7_fill_53178_2 rfl (lv_at hl 1 rfl) ?_
  refine va_alen (v := 64) hx hb hK hP 0 1 rfl rfl (show Int32.ofNat 64 = 64 by decide) dJ7_fill_53178_3 ?_
  refine lv_istore_n (lv' := [(3, .int 64), (2, .int 0), (0, .ref h0), (1, .int 0)]) hx hb dJ7_fill_53178_4 rfl hl (by decide) rfl (fun ls hl => ?_)
  refine kl (α := Int32) (fun n a H locs ls => (0 ≤ Int32.toInt a) ∧ (Int32.toInt a ≤ 64) ∧ (64 - Int32.toInt a < ((n : Nat) : Int)) ∧ va_P D vwCl [(h0, .inl (cI, 64, .inl zf))] H ∧ va_D A [(h0, .inl (cI, 64, .inl zf))] ∧ va_S A s.heap H locs ∧ lv_has ls 4 [(3, .int 64), (2, .int a), (0, .ref h0), (1, .int 0)]) 65 0 ⟨(by show 0 ≤ Int32.toInt 0; decide), (by show Int32.toInt 0 ≤ 64; decide), (by show 64 - Int32.toInt 0 < ((65 : Nat) : Int); have := (by decide : Int32.toInt 0 = 0); omega), hP, hD, hS, hl⟩ (fun a H locs ls h => ?_) (fun n_2 ih_3 a H locs ls h => ?_)
  · obtain ⟨j_4, j_5, j_6, _⟩ := h
    omega
  obtain ⟨v_1, rfl⟩ : ∃ z, z = a := ⟨_, rfl⟩
  obtain ⟨j_4, j_5, j_6, hP, hD, hS, hl⟩ := h
  have j_4 : 0 ≤ Int32.toInt v_1 := j_4
  have j_5 : Int32.toInt v_1 ≤ 64 := j_5
  have j_6 : 64 - Int32.toInt v_1 < ((n_2 + 1 : Nat) : Int) := j_6
  have hP : va_P D vwCl [(h0, .inl (cI, 64, .inl zf))] H := hP
  have hD : va_D A [(h0, .inl (cI, 64, .inl zf))] := hD
  have hl : lv_has ls 4 [(3, .int 64), (2, .int v_1), (0, .ref h0), (1, .int 0)] := hl
  refine lv_iload_n hx hb dJ7_fill_53178_5 rfl (lv_at hl 1 rfl) ?_
  refine lv_iload_n hx hb dJ7_fill_53178_6 rfl (lv_at hl 0 rfl) ?_
  refine lv_icmp_ge (tgt := 20) hx hb dJ7_fill_53178_7 (by decide) (fun c => ?_) (fun c => ?_)
  · skip
    have k_7 := (ti_le (x := 64) (y := v_1) (a := 64) (b := v_1.toInt) (by decide) rfl).mp c
    obtain rfl : v_1 = 64 := ti_inj (a := 64) (by decide) (by omega)
    exact kr_v () hx hb hr hlocks hP hD hS trivial dJ7_fill_53178_20
  · skip
    have k_8 := mt (ti_le (x := 64) (y := v_1) (a := 64) (b := v_1.toInt) (by decide) rfl).mpr c
    refine lv_aload_n hx hb dJ7_fill_53178_10 rfl (lv_at hl 2 rfl) ?_
    refine lv_iload_n hx hb dJ7_fill_53178_11 rfl (lv_at hl 1 rfl) ?_
    refine lv_iload_n hx hb dJ7_fill_53178_12 rfl (lv_at hl 3 rfl) ?_
    refine va_iast hx hb hK hP hD hS 0 1 rfl rfl (ti_in (a := v_1.toInt) rfl (by omega) (by omega)) dJ7_fill_53178_13 (fun H locs hP hD hS => ?_)
    rw [zf_upd] at hP hD
    have hP : va_P D vwCl [(h0, .inl (cI, 64, .inl zf))] H := hP
    have hD : va_D A [(h0, .inl (cI, 64, .inl zf))] := hD
    obtain ⟨x_9, ex_9⟩ : ∃ y : Int32, y = v_1 + 1 := ⟨_, rfl⟩
    have tx_9 : x_9.toInt = v_1.toInt + 1 := by rw [ex_9]; exact ti_add rfl (by decide) (by omega) (by omega)
    refine lv_iinc (v := x_9) (lv' := [(2, .int x_9), (3, .int 64), (0, .ref h0), (1, .int 0)]) hx hb dJ7_fill_53178_14 hl (k := 1) rfl (by rw [ex_9]; rfl) (by decide) rfl (fun ls hl => ?_)
    refine lv_goto (tgt := 5) hx hb dJ7_fill_53178_17 (by decide) ?_
    exact ih_3 x_9 _ _ _ ⟨(by show 0 ≤ Int32.toInt x_9; omega), (by show Int32.toInt x_9 ≤ 64; omega), (by show 64 - Int32.toInt x_9 < ((n_2 : Nat) : Int); omega), hP, hD, hS, (lv_sub hl [1, 0, 2, 3] rfl)⟩
set_option maxHeartbeats 4000000 in
set_option maxRecDepth 100000 in
theorem K155_X0_weighLive (l : Launch) (D : va_G) (cB cI cZ : ClassId) (sz : Nat) (h0 : Nat) (h1 : Nat) (h2 : Nat) (h3 : Nat)  (g0 : Value) (g1 : Value) (g2 : Value) (g3 : Value) (g4 : Value) (g5 : Value)  :
    CtV l D cB cI cZ yX0_weighLive wsX0_weighLive { frames := 2, cells := 0, slots := 0, locals := 41 } [.ref h0] [(h0, .inr (0, [g0, .ref h1, g1, .ref h2, g2, g3])), (h1, .inr (2, [.ref h3, g4, g5])), (h2, .inl (cI, 64, .inl zf)), (h3, .inl (cI, 300, .inl zf))] sz 0 0
      (fun (u : Unit) => True)
      (fun u => [(h0, .inr (0, [g0, .ref h1, g1, .ref h2, g2, g3])), (h1, .inr (2, [.ref h3, g4, g5])), (h3, .inl (cI, 300, .inl zf)), (h2, .inl (cI, 64, .inl zf))]) := by
  refine mk_metV (cc := cX0_weighLive) (maxL := 2) (ret := none) (by decide) rfl (Nat.le_of_ble_eq_true rfl) ?_
  intro p e s m below meth c A hx hb hr hml hts hown hlocks hin hP hK hN hD hA hS ls hl
  have hown : s.vm.findClass RX0 = some m.cls := hown
  have hl : lv_has ls 2 [(0, .ref h0)] := hl
  refine lv_aload_n hx hb dX0_weighLive_0 rfl (lv_at hl 0 rfl) ?_
  refine va_get (D := D) (ci := 0) (v := .ref h2) (C := RX0) (T := TX0) (N := 6) hx hb hts inX0_weighLive_X0 hown hK hP 0 rfl rfl 3 (by decide) (hts _ wdX0_weighLive_0) (fun _ h9 => h9) rfl dX0_weighLive_1 ?_
  refine lv_iconst (v := 0) hx hb dX0_weighLive_4 (by decide) ?_
  refine kc_v (wr := [(h0, .inr (0, [g0, .ref h1, g1, .ref h2, g2, g3])), (h1, .inr (2, [.ref h3, g4, g5])), (h3, .inl (cI, 300, .inl zf))]) (va_runS (As := [.ref h2, .int 0]) (rest := []) ⟨hx, hb, hml, hown, hts⟩ (K156_J7_fill_53178 l D cB cI cZ _ h2) (va_cwS 2 hts gX0_weighLive_J7_fill_53178 rfl rfl rfl (by decide +kernel) ⟨Nat.le_of_ble_eq_true rfl, Nat.le_of_ble_eq_true rfl⟩) (pre_S (hP.sub [2] rfl) hK hN (hD.sub [2] (by decide) rfl)) rfl rfl hl.1 rfl (lv_room (Nat.le_of_ble_eq_true rfl)) dX0_weighLive_5 ⟨Nat.le_of_ble_eq_true rfl, Nat.le_of_ble_eq_true rfl⟩) hP hD hS hA [2] [0, 1, 3] rfl rfl (by decide) (by decide) (fun  u H locs hw hP hD hS => ?_)
  have hP : va_P D vwCl [(h0, .inr (0, [g0, .ref h1, g1, .ref h2, g2, g3])), (h1, .inr (2, [.ref h3, g4, g5])), (h3, .inl (cI, 300, .inl zf)), (h2, .inl (cI, 64, .inl zf))] H := hP
  have hD : va_D A [(h0, .inr (0, [g0, .ref h1, g1, .ref h2, g2, g3])), (h1, .inr (2, [.ref h3, g4, g5])), (h3, .inl (cI, 300, .inl zf)), (h2, .inl (cI, 64, .inl zf))] := hD
  refine lv_iconst (v := 0) hx hb dX0_weighLive_8 (by decide) ?_
  refine lv_istore_n (lv' := [(1, .int 0), (0, .ref h0)]) hx hb dX0_weighLive_9 rfl hl (by decide) rfl (fun ls hl => ?_)
  refine kl (α := Int32) (fun n a H locs ls => (0 ≤ Int32.toInt a) ∧ (Int32.toInt a ≤ 300) ∧ (300 - Int32.toInt a < ((n : Nat) : Int)) ∧ va_P D vwCl [(h0, .inr (0, [g0, .ref h1, g1, .ref h2, g2, g3])), (h1, .inr (2, [.ref h3, g4, g5])), (h3, .inl (cI, 300, .inl zf)), (h2, .inl (cI, 64, .inl zf))] H ∧ va_D A [(h0, .inr (0, [g0, .ref h1, g1, .ref h2, g2, g3])), (h1, .inr (2, [.ref h3, g4, g5])), (h3, .inl (cI, 300, .inl zf)), (h2, .inl (cI, 64, .inl zf))] ∧ va_S A s.heap H locs ∧ lv_has ls 2 [(1, .int a), (0, .ref h0)]) 301 0 ⟨(by show 0 ≤ Int32.toInt 0; decide), (by show Int32.toInt 0 ≤ 300; decide), (by show 300 - Int32.toInt 0 < ((301 : Nat) : Int); have := (by decide : Int32.toInt 0 = 0); omega), hP, hD, hS, hl⟩ (fun a H locs ls h => ?_) (fun n_2 ih_3 a H locs ls h => ?_)
  · obtain ⟨j_4, j_5, j_6, _⟩ := h
    omega
  obtain ⟨v_1, rfl⟩ : ∃ z, z = a := ⟨_, rfl⟩
  obtain ⟨j_4, j_5, j_6, hP, hD, hS, hl⟩ := h
  have j_4 : 0 ≤ Int32.toInt v_1 := j_4
  have j_5 : Int32.toInt v_1 ≤ 300 := j_5
  have j_6 : 300 - Int32.toInt v_1 < ((n_2 + 1 : Nat) : Int) := j_6
  have hP : va_P D vwCl [(h0, .inr (0, [g0, .ref h1, g1, .ref h2, g2, g3])), (h1, .inr (2, [.ref h3, g4, g5])), (h3, .inl (cI, 300, .inl zf)), (h2, .inl (cI, 64, .inl zf))] H := hP
  have hD : va_D A [(h0, .inr (0, [g0, .ref h1, g1, .ref h2, g2, g3])), (h1, .inr (2, [.ref h3, g4, g5])), (h3, .inl (cI, 300, .inl zf)), (h2, .inl (cI, 64, .inl zf))] := hD
  have hl : lv_has ls 2 [(1, .int v_1), (0, .ref h0)] := hl
  refine lv_iload_n hx hb dX0_weighLive_10 rfl (lv_at hl 0 rfl) ?_
  refine lv_sipush (v := 300) hx hb dX0_weighLive_11 (by decide) ?_
  refine lv_icmp_ge (tgt := 61) hx hb dX0_weighLive_14 (by decide) (fun c => ?_) (fun c => ?_)
  · skip
    have k_7 := (ti_le (x := 300) (y := v_1) (a := 300) (b := v_1.toInt) (by decide) rfl).mp c
    obtain rfl : v_1 = 300 := ti_inj (a := 300) (by decide) (by omega)
    exact kr_v () hx hb hr hlocks hP hD hS trivial dX0_weighLive_61
  · skip
    have k_8 := mt (ti_le (x := 300) (y := v_1) (a := 300) (b := v_1.toInt) (by decide) rfl).mpr c
    refine lv_aload_n hx hb dX0_weighLive_17 rfl (lv_at hl 1 rfl) ?_
    refine va_get (D := D) (ci := 0) (v := .ref h1) (C := RX0) (T := TX0) (N := 6) hx hb hts inX0_weighLive_X0 hown hK hP 0 rfl rfl 1 (by decide) (hts _ wdX0_weighLive_1) (fun _ h9 => h9) rfl dX0_weighLive_18 ?_
    refine lv_iload_n hx hb dX0_weighLive_21 rfl (lv_at hl 0 rfl) ?_
    refine kc_i (wr := [(h0, .inr (0, [g0, .ref h1, g1, .ref h2, g2, g3])), (h2, .inl (cI, 64, .inl zf))]) (va_runV (As := [.int v_1]) (rest := []) ⟨hx, hb, hml, hown, hts⟩ (K134_X2_has l D cB cI cZ _ h1 h3 v_1 (g4) (g5) ⟨by omega, by omega⟩) (cwV 1 hts gX0_weighLive_X2_has rfl rfl rfl (by decide +kernel) ⟨Nat.le_of_ble_eq_true rfl, Nat.le_of_ble_eq_true rfl⟩) (pre_V (q := (RX2, TX2, 3)) (ci := 2) (q0 := 0) (hP.sub [1, 2] rfl) hK hN (hD.sub [1, 2] (by decide) rfl) rfl rfl) rfl rfl hl.1 rfl (lv_room (Nat.le_of_ble_eq_true rfl)) dX0_weighLive_22 ⟨Nat.le_of_ble_eq_true rfl, Nat.le_of_ble_eq_true rfl⟩) hP hD hS hA [1, 2] [0, 3] rfl rfl (by decide) (by decide) (fun r_9 u H locs hw hP hD hS => ?_)
    have k_10 := hw
    obtain rfl : r_9 = 0 := k_10
    have hP : va_P D vwCl [(h0, .inr (0, [g0, .ref h1, g1, .ref h2, g2, g3])), (h2, .inl (cI, 64, .inl zf)), (h1, .inr (2, [.ref h3, g4, g5])), (h3, .inl (cI, 300, .inl zf))] H := hP
    have hD : va_D A [(h0, .inr (0, [g0, .ref h1, g1, .ref h2, g2, g3])), (h2, .inl (cI, 64, .inl zf)), (h1, .inr (2, [.ref h3, g4, g5])), (h3, .inl (cI, 300, .inl zf))] := hD
    refine lv_if_eq (tgt := 55) hx hb dX0_weighLive_25 (by decide) (fun c => ?_) (fun c => absurd (by decide) c)
    obtain ⟨x_11, ex_11⟩ : ∃ y : Int32, y = v_1 + 1 := ⟨_, rfl⟩
    have tx_11 : x_11.toInt = v_1.toInt + 1 := by rw [ex_11]; exact ti_add rfl (by decide) (by omega) (by omega)
    refine lv_iinc (v := x_11) (lv' := [(1, .int x_11), (0, .ref h0)]) hx hb dX0_weighLive_55 hl (k := 0) rfl (by rw [ex_11]; rfl) (by decide) rfl (fun ls hl => ?_)
    refine lv_goto (tgt := 10) hx hb dX0_weighLive_58 (by decide) ?_
    exact ih_3 x_11 _ _ _ ⟨(by show 0 ≤ Int32.toInt x_11; omega), (by show Int32.toInt x_11 ≤ 300; omega), (by show 300 - Int32.toInt x_11 < ((n_2 : Nat) : Int); omega), (hP.sub [0, 2, 3, 1] rfl), (hD.sub [0, 2, 3, 1] (by decide) rfl), hS, hl⟩
set_option maxHeartbeats 4000000 in
set_option maxRecDepth 100000 in
theorem K158_X3_stateOf (l : Launch) (D : va_G) (cB cI cZ : ClassId) (sz : Nat) (h0 : Nat) (h1 : Nat)  (p0 : Int32) (g0 : Value) (g1 : Value) (g2 : Value) (g3 : Value) (g4 : Value) (g5 : Value) (g6 : Value) (g7 : Value) (g8 : Value) (g9 : Value) (g10 : Value) (g11 : Value) (i_p0 : 8 ≤ p0.toInt ∧ p0.toInt ≤ 63) :
    CtI l D cB cI cZ yX3_stateOf wsX3_stateOf { frames := 1, cells := 0, slots := 0, locals := 20 } [.ref h0, .int p0] [(h0, .inr (3, [g0, g1, .ref h1, g2, g3, g4, g5, g6, g7, .int 0, g8, g9, g10, g11])), (h1, .inl (cI, 64, .inl zf))] sz 0 0
      (fun (r : Int32) (u : Unit) => r = 0)
      (fun u => [(h0, .inr (3, [g0, g1, .ref h1, g2, g3, g4, g5, g6, g7, .int 0, g8, g9, g10, g11])), (h1, .inl (cI, 64, .inl zf))]) := by
  refine mk_metI (cc := cX3_stateOf) (maxL := 2) (ret := (some .int)) (by decide) rfl (Nat.le_of_ble_eq_true rfl) ?_
  intro p e s m below meth c A hx hb hr hml hts hown hlocks hin hP hK hN hD hA hS ls hl
  have hown : s.vm.findClass RX3 = some m.cls := hown
  have hl : lv_has ls 2 [(0, .ref h0), (1, .int p0)] := hl
  refine lv_iload_n hx hb dX3_stateOf_0 rfl (lv_at hl 1 rfl) ?_
  refine kc_i (wr := [(h0, .inr (3, [g0, g1, .ref h1, g2, g3, g4, g5, g6, g7, .int 0, g8, g9, g10, g11])), (h1, .inl (cI, 64, .inl zf))]) (va_runSN (As := [.int p0]) (rest := []) ⟨hx, hb, hml, hown, hts⟩ (K133_X7_isOfLog l D cB cI cZ _ p0 ⟨by omega, by omega⟩) ⟨va_cnB 1 hts gX3_stateOf_X7_isOfLog_n65 rfl rfl rfl (hN.m (a := RX3) (i := 65) (y := yX7_isOfLog) (by decide +kernel)) (hts _ wdX3_stateOf_0) (by decide +kernel) ⟨Nat.le_of_ble_eq_true rfl, Nat.le_of_ble_eq_true rfl⟩, hts _ wdX3_stateOf_1, trivial⟩ (pre_S (hP.sub [] rfl) hK hN (hD.sub [] (by decide) rfl)) rfl rfl hl.1 rfl (lv_room (Nat.le_of_ble_eq_true rfl)) dX3_stateOf_1 ⟨Nat.le_of_ble_eq_true rfl, Nat.le_of_ble_eq_true rfl⟩) hP hD hS hA [] [0, 1] rfl rfl (by decide) (by decide) (fun r_1 u H locs hw hP hD hS => ?_)
  have k_2 := hw
  obtain rfl : r_1 = 1 := k_2
  have hP : va_P D vwCl [(h0, .inr (3, [g0, g1, .ref h1, g2, g3, g4, g5, g6, g7, .int 0, g8, g9, g10, g11])), (h1, .inl (cI, 64, .inl zf))] H := hP
  have hD : va_D A [(h0, .inr (3, [g0, g1, .ref h1, g2, g3, g4, g5, g6, g7, .int 0, g8, g9, g10, g11])), (h1, .inl (cI, 64, .inl zf))] := hD
  refine lv_if_ne (tgt := 9) hx hb dX3_stateOf_4 (by decide) (fun c => ?_) (fun c => absurd c (by decide))
  refine lv_iload_n hx hb dX3_stateOf_9 rfl (lv_at hl 1 rfl) ?_
  refine lv_aload_n hx hb dX3_stateOf_10 rfl (lv_at hl 0 rfl) ?_
  refine va_get (D := D) (ci := 3) (v := .int 0) (C := RX3) (T := TX3) (N := 14) hx hb hts inX3_stateOf_X3 hown hK hP 0 rfl rfl 9 (by decide) (hts _ wdX3_stateOf_2) (fun _ h9 => h9) rfl dX3_stateOf_11 ?_
  refine lv_icmp_ne (tgt := 21) hx hb dX3_stateOf_14 (by decide) (fun c => ?_) (fun c => absurd ((ti_eq (x := p0) (y := 0) (a := p0.toInt) (b := 0) rfl (by decide)).mp c) (by omega))
  refine lv_aload_n hx hb dX3_stateOf_21 rfl (lv_at hl 0 rfl) ?_
  refine va_get (D := D) (ci := 3) (v := .ref h1) (C := RX3) (T := TX3) (N := 14) hx hb hts inX3_stateOf_X3 hown hK hP 0 rfl rfl 2 (by decide) (hts _ wdX3_stateOf_3) (fun _ h9 => h9) rfl dX3_stateOf_22 ?_
  refine lv_iload_n hx hb dX3_stateOf_25 rfl (lv_at hl 1 rfl) ?_
  refine va_iald hx hb hK hP 1 1 rfl rfl (ti_in (a := p0.toInt) rfl (by omega) (by omega)) dX3_stateOf_26 ?_
  refine lv_topi (fun z_3 ez_3 => ?_)
  obtain rfl : z_3 = 0 := ez_3
  exact kr_i () hx hb hr hlocks hP hD hS rfl dX3_stateOf_27
set_option maxHeartbeats 4000000 in
set_option maxRecDepth 100000 in
theorem K157_X0_bestLeft (l : Launch) (D : va_G) (cB cI cZ : ClassId) (sz : Nat) (h0 : Nat) (h1 : Nat) (h2 : Nat)  (g0 : Value) (g1 : Value) (g2 : Value) (g3 : Value) (g4 : Value) (g5 : Value) (g6 : Value) (g7 : Value) (g8 : Value) (g9 : Value) (g10 : Value) (g11 : Value) (g12 : Value) (g13 : Value) (g14 : Value) (g15 : Value) (g16 : Value)  :
    CtI l D cB cI cZ yX0_bestLeft wsX0_bestLeft { frames := 2, cells := 0, slots := 0, locals := 41 } [.ref h0] [(h0, .inr (0, [.ref h1, g0, g1, g2, g3, g4])), (h1, .inr (3, [g5, g6, .ref h2, g7, g8, g9, g10, g11, g12, .int 0, g13, g14, g15, g16])), (h2, .inl (cI, 64, .inl zf))] sz 0 0
      (fun (r : Int32) (u : Unit) => r = 0)
      (fun u => [(h0, .inr (0, [.ref h1, g0, g1, g2, g3, g4])), (h1, .inr (3, [g5, g6, .ref h2, g7, g8, g9, g10, g11, g12, .int 0, g13, g14, g15, g16])), (h2, .inl (cI, 64, .inl zf))]) := by
  refine mk_metI (cc := cX0_bestLeft) (maxL := 4) (ret := (some .int)) (by decide) rfl (Nat.le_of_ble_eq_true rfl) ?_
  intro p e s m below meth c A hx hb hr hml hts hown hlocks hin hP hK hN hD hA hS ls hl
  have hown : s.vm.findClass RX0 = some m.cls := hown
  have hl : lv_has ls 4 [(0, .ref h0)] := hl
  refine lv_iconst (v := 0) hx hb dX0_bestLeft_0 (by decide) ?_
  refine lv_istore_n (lv' := [(1, .int 0), (0, .ref h0)]) hx hb dX0_bestLeft_1 rfl hl (by decide) rfl (fun ls hl => ?_)
  refine lv_bipush (v := 8) hx hb dX0_bestLeft_2 (by decide) ?_
  refine lv_istore_n (lv' := [(2, .int 8), (1, .int 0), (0, .ref h0)]) hx hb dX0_bestLeft_4 rfl hl (by decide) rfl (fun ls hl => ?_)
  refine kl (α := Int32) (fun n a H locs ls => (8 ≤ Int32.toInt a) ∧ (Int32.toInt a ≤ 64) ∧ (64 - Int32.toInt a < ((n : Nat) : Int)) ∧ va_P D vwCl [(h0, .inr (0, [.ref h1, g0, g1, g2, g3, g4])), (h1, .inr (3, [g5, g6, .ref h2, g7, g8, g9, g10, g11, g12, .int 0, g13, g14, g15, g16])), (h2, .inl (cI, 64, .inl zf))] H ∧ va_D A [(h0, .inr (0, [.ref h1, g0, g1, g2, g3, g4])), (h1, .inr (3, [g5, g6, .ref h2, g7, g8, g9, g10, g11, g12, .int 0, g13, g14, g15, g16])), (h2, .inl (cI, 64, .inl zf))] ∧ va_S A s.heap H locs ∧ lv_has ls 4 [(2, .int a), (1, .int 0), (0, .ref h0)]) 57 8 ⟨(by show 8 ≤ Int32.toInt 8; decide), (by show Int32.toInt 8 ≤ 64; decide), (by show 64 - Int32.toInt 8 < ((57 : Nat) : Int); have := (by decide : Int32.toInt 8 = 8); omega), hP, hD, hS, hl⟩ (fun a H locs ls h => ?_) (fun n_2 ih_3 a H locs ls h => ?_)
  · obtain ⟨j_4, j_5, j_6, _⟩ := h
    omega
  obtain ⟨v_1, rfl⟩ : ∃ z, z = a := ⟨_, rfl⟩
  obtain ⟨j_4, j_5, j_6, hP, hD, hS, hl⟩ := h
  have j_4 : 8 ≤ Int32.toInt v_1 := j_4
  have j_5 : Int32.toInt v_1 ≤ 64 := j_5
  have j_6 : 64 - Int32.toInt v_1 < ((n_2 + 1 : Nat) : Int) := j_6
  have hP : va_P D vwCl [(h0, .inr (0, [.ref h1, g0, g1, g2, g3, g4])), (h1, .inr (3, [g5, g6, .ref h2, g7, g8, g9, g10, g11, g12, .int 0, g13, g14, g15, g16])), (h2, .inl (cI, 64, .inl zf))] H := hP
  have hD : va_D A [(h0, .inr (0, [.ref h1, g0, g1, g2, g3, g4])), (h1, .inr (3, [g5, g6, .ref h2, g7, g8, g9, g10, g11, g12, .int 0, g13, g14, g15, g16])), (h2, .inl (cI, 64, .inl zf))] := hD
  have hl : lv_has ls 4 [(2, .int v_1), (1, .int 0), (0, .ref h0)] := hl
  refine lv_iload_n hx hb dX0_bestLeft_5 rfl (lv_at hl 0 rfl) ?_
  refine lv_bipush (v := 64) hx hb dX0_bestLeft_6 (by decide) ?_
  refine lv_icmp_ge (tgt := 63) hx hb dX0_bestLeft_8 (by decide) (fun c => ?_) (fun c => ?_)
  · skip
    have k_7 := (ti_le (x := 64) (y := v_1) (a := 64) (b := v_1.toInt) (by decide) rfl).mp c
    obtain rfl : v_1 = 64 := ti_inj (a := 64) (by decide) (by omega)
    refine lv_iload_n hx hb dX0_bestLeft_63 rfl (lv_at hl 1 rfl) ?_
    exact kr_i () hx hb hr hlocks hP hD hS rfl dX0_bestLeft_64
  · skip
    have k_8 := mt (ti_le (x := 64) (y := v_1) (a := 64) (b := v_1.toInt) (by decide) rfl).mpr c
    refine lv_aload_n hx hb dX0_bestLeft_11 rfl (lv_at hl 2 rfl) ?_
    refine va_get (D := D) (ci := 0) (v := .ref h1) (C := RX0) (T := TX0) (N := 6) hx hb hts inX0_bestLeft_X0 hown hK hP 0 rfl rfl 0 (by decide) (hts _ wdX0_bestLeft_0) (fun _ h9 => h9) rfl dX0_bestLeft_12 ?_
    refine lv_iload_n hx hb dX0_bestLeft_15 rfl (lv_at hl 0 rfl) ?_
    refine kc_i (wr := [(h0, .inr (0, [.ref h1, g0, g1, g2, g3, g4]))]) (va_runV (As := [.int v_1]) (rest := []) ⟨hx, hb, hml, hown, hts⟩ (K158_X3_stateOf l D cB cI cZ _ h1 h2 v_1 (g5) (g6) (g7) (g8) (g9) (g10) (g11) (g12) (g13) (g14) (g15) (g16) ⟨by omega, by omega⟩) (cwV 1 hts gX0_bestLeft_X3_stateOf rfl rfl rfl (by decide +kernel) ⟨Nat.le_of_ble_eq_true rfl, Nat.le_of_ble_eq_true rfl⟩) (pre_V (q := (RX3, TX3, 14)) (ci := 3) (q0 := 0) (hP.sub [1, 2] rfl) hK hN (hD.sub [1, 2] (by decide) rfl) rfl rfl) rfl rfl hl.1 rfl (lv_room (Nat.le_of_ble_eq_true rfl)) dX0_bestLeft_16 ⟨Nat.le_of_ble_eq_true rfl, Nat.le_of_ble_eq_true rfl⟩) hP hD hS hA [1, 2] [0] rfl rfl (by decide) (by decide) (fun r_9 u H locs hw hP hD hS => ?_)
    have k_10 := hw
    obtain rfl : r_9 = 0 := k_10
    have hP : va_P D vwCl [(h0, .inr (0, [.ref h1, g0, g1, g2, g3, g4])), (h1, .inr (3, [g5, g6, .ref h2, g7, g8, g9, g10, g11, g12, .int 0, g13, g14, g15, g16])), (h2, .inl (cI, 64, .inl zf))] H := hP
    have hD : va_D A [(h0, .inr (0, [.ref h1, g0, g1, g2, g3, g4])), (h1, .inr (3, [g5, g6, .ref h2, g7, g8, g9, g10, g11, g12, .int 0, g13, g14, g15, g16])), (h2, .inl (cI, 64, .inl zf))] := hD
    refine lv_iconst (v := 1) hx hb dX0_bestLeft_19 (by decide) ?_
    refine lv_icmp_ne (tgt := 36) hx hb dX0_bestLeft_20 (by decide) (fun c => ?_) (fun c => absurd c (by decide))
    refine lv_iconst (v := 0) hx hb dX0_bestLeft_36 (by decide) ?_
    refine lv_istore_n (lv' := [(3, .int 0), (2, .int v_1), (1, .int 0), (0, .ref h0)]) hx hb dX0_bestLeft_37 rfl hl (by decide) rfl (fun ls hl => ?_)
    refine lv_iload_n hx hb dX0_bestLeft_38 rfl (lv_at hl 0 rfl) ?_
    refine lv_if_eq (tgt := 57) hx hb dX0_bestLeft_39 (by decide) (fun c => ?_) (fun c => absurd (by decide) c)
    obtain ⟨x_11, ex_11⟩ : ∃ y : Int32, y = v_1 + 1 := ⟨_, rfl⟩
    have tx_11 : x_11.toInt = v_1.toInt + 1 := by rw [ex_11]; exact ti_add rfl (by decide) (by omega) (by omega)
    refine lv_iinc (v := x_11) (lv' := [(2, .int x_11), (3, .int 0), (1, .int 0), (0, .ref h0)]) hx hb dX0_bestLeft_57 hl (k := 1) rfl (by rw [ex_11]; rfl) (by decide) rfl (fun ls hl => ?_)
    refine lv_goto (tgt := 5) hx hb dX0_bestLeft_60 (by decide) ?_
    exact ih_3 x_11 _ _ _ ⟨(by show 8 ≤ Int32.toInt x_11; omega), (by show Int32.toInt x_11 ≤ 64; omega), (by show 64 - Int32.toInt x_11 < ((n_2 : Nat) : Int); omega), hP, hD, hS, (lv_sub hl [0, 2, 3] rfl)⟩
set_option maxHeartbeats 4000000 in
set_option maxRecDepth 100000 in
theorem K153_X0_choose (l : Launch) (D : va_G) (cB cI cZ : ClassId) (sz : Nat) (h0 : Nat) (h1 : Nat) (h2 : Nat) (h3 : Nat) (h4 : Nat) (h5 : Nat) (h6 : Nat)  (p0 : Int32) (g0 : Value) (g1 : Value) (g2 : Value) (g3 : Value) (g4 : Value) (g5 : Value) (g6 : Value) (g7 : Value) (g8 : Value) (g9 : Value) (g10 : Value) (g11 : Value) (g12 : Value) (g13 : Value) (g14 : Value) (g15 : Value) (i_p0 : 1 ≤ p0.toInt ∧ p0.toInt ≤ 8) :
    CtI l D cB cI cZ yX0_choose wsX0_choose { frames := 3, cells := 0, slots := 0, locals := 64 } [.ref h0, .int p0] [(h0, .inr (0, [.ref h1, .ref h2, .ref h3, .ref h4, g0, g1])), (h1, .inr (3, [g2, g3, .ref h5, g4, g5, g6, g7, g8, g9, .int 0, g10, g11, g12, g13])), (h2, .inr (2, [.ref h6, g14, g15])), (h3, .inl (cZ, 64, .inl zf)), (h4, .inl (cI, 64, .inl zf)), (h5, .inl (cI, 64, .inl zf)), (h6, .inl (cI, 300, .inl zf))] sz 0 0
      (fun (r : Int32) (u : Unit) => r = 0)
      (fun u => [(h3, .inl (cZ, 64, .inl zf)), (h2, .inr (2, [.ref h6, g14, g15])), (h6, .inl (cI, 300, .inl zf)), (h4, .inl (cI, 64, .inl zf)), (h0, .inr (0, [.ref h1, .ref h2, .ref h3, .ref h4, g0, g1])), (h1, .inr (3, [g2, g3, .ref h5, g4, g5, g6, g7, g8, g9, .int 0, g10, g11, g12, g13])), (h5, .inl (cI, 64, .inl zf))]) := by
  refine mk_metI (cc := cX0_choose) (maxL := 4) (ret := (some .int)) (by decide) rfl (Nat.le_of_ble_eq_true rfl) ?_
  intro p e s m below meth c A hx hb hr hml hts hown hlocks hin hP hK hN hD hA hS ls hl
  have hown : s.vm.findClass RX0 = some m.cls := hown
  have hl : lv_has ls 4 [(0, .ref h0), (1, .int p0)] := hl
  refine lv_aload_n hx hb dX0_choose_0 rfl (lv_at hl 0 rfl) ?_
  refine kc_v (wr := [(h1, .inr (3, [g2, g3, .ref h5, g4, g5, g6, g7, g8, g9, .int 0, g10, g11, g12, g13])), (h2, .inr (2, [.ref h6, g14, g15])), (h4, .inl (cI, 64, .inl zf)), (h5, .inl (cI, 64, .inl zf)), (h6, .inl (cI, 300, .inl zf))]) (va_runV (As := []) (rest := []) ⟨hx, hb, hml, hown, hts⟩ (K154_X0_forgetChosen l D cB cI cZ _ h0 h3 ((.ref h1)) ((.ref h2)) ((.ref h4)) (g0) (g1)) (cwV 0 hts gX0_choose_X0_forgetChosen rfl rfl rfl (by decide +kernel) ⟨Nat.le_of_ble_eq_true rfl, Nat.le_of_ble_eq_true rfl⟩) (pre_V (q := (RX0, TX0, 6)) (ci := 0) (q0 := 0) (hP.sub [0, 3] rfl) hK hN (hD.sub [0, 3] (by decide) rfl) rfl rfl) rfl rfl hl.1 rfl (lv_room (Nat.le_of_ble_eq_true rfl)) dX0_choose_1 ⟨Nat.le_of_ble_eq_true rfl, Nat.le_of_ble_eq_true rfl⟩) hP hD hS hA [0, 3] [1, 2, 4, 5, 6] rfl rfl (by decide) (by decide) (fun  u H locs hw hP hD hS => ?_)
  have hP : va_P D vwCl [(h1, .inr (3, [g2, g3, .ref h5, g4, g5, g6, g7, g8, g9, .int 0, g10, g11, g12, g13])), (h2, .inr (2, [.ref h6, g14, g15])), (h4, .inl (cI, 64, .inl zf)), (h5, .inl (cI, 64, .inl zf)), (h6, .inl (cI, 300, .inl zf)), (h0, .inr (0, [.ref h1, .ref h2, .ref h3, .ref h4, g0, g1])), (h3, .inl (cZ, 64, .inl zf))] H := hP
  have hD : va_D A [(h1, .inr (3, [g2, g3, .ref h5, g4, g5, g6, g7, g8, g9, .int 0, g10, g11, g12, g13])), (h2, .inr (2, [.ref h6, g14, g15])), (h4, .inl (cI, 64, .inl zf)), (h5, .inl (cI, 64, .inl zf)), (h6, .inl (cI, 300, .inl zf)), (h0, .inr (0, [.ref h1, .ref h2, .ref h3, .ref h4, g0, g1])), (h3, .inl (cZ, 64, .inl zf))] := hD
  refine lv_aload_n hx hb dX0_choose_4 rfl (lv_at hl 0 rfl) ?_
  refine kc_v (wr := [(h1, .inr (3, [g2, g3, .ref h5, g4, g5, g6, g7, g8, g9, .int 0, g10, g11, g12, g13])), (h5, .inl (cI, 64, .inl zf)), (h3, .inl (cZ, 64, .inl zf))]) (va_runV (As := []) (rest := []) ⟨hx, hb, hml, hown, hts⟩ (K155_X0_weighLive l D cB cI cZ _ h0 h2 h4 h6 ((.ref h1)) ((.ref h3)) (g0) (g1) (g14) (g15)) (cwV 0 hts gX0_choose_X0_weighLive rfl rfl rfl (by decide +kernel) ⟨Nat.le_of_ble_eq_true rfl, Nat.le_of_ble_eq_true rfl⟩) (pre_V (q := (RX0, TX0, 6)) (ci := 0) (q0 := 0) (hP.sub [5, 1, 2, 4] rfl) hK hN (hD.sub [5, 1, 2, 4] (by decide) rfl) rfl rfl) rfl rfl hl.1 rfl (lv_room (Nat.le_of_ble_eq_true rfl)) dX0_choose_5 ⟨Nat.le_of_ble_eq_true rfl, Nat.le_of_ble_eq_true rfl⟩) hP hD hS hA [5, 1, 2, 4] [0, 3, 6] rfl rfl (by decide) (by decide) (fun  u H locs hw hP hD hS => ?_)
  have hP : va_P D vwCl [(h1, .inr (3, [g2, g3, .ref h5, g4, g5, g6, g7, g8, g9, .int 0, g10, g11, g12, g13])), (h5, .inl (cI, 64, .inl zf)), (h3, .inl (cZ, 64, .inl zf)), (h0, .inr (0, [.ref h1, .ref h2, .ref h3, .ref h4, g0, g1])), (h2, .inr (2, [.ref h6, g14, g15])), (h6, .inl (cI, 300, .inl zf)), (h4, .inl (cI, 64, .inl zf))] H := hP
  have hD : va_D A [(h1, .inr (3, [g2, g3, .ref h5, g4, g5, g6, g7, g8, g9, .int 0, g10, g11, g12, g13])), (h5, .inl (cI, 64, .inl zf)), (h3, .inl (cZ, 64, .inl zf)), (h0, .inr (0, [.ref h1, .ref h2, .ref h3, .ref h4, g0, g1])), (h2, .inr (2, [.ref h6, g14, g15])), (h6, .inl (cI, 300, .inl zf)), (h4, .inl (cI, 64, .inl zf))] := hD
  refine lv_iconst (v := 0) hx hb dX0_choose_8 (by decide) ?_
  refine lv_istore_n (lv' := [(2, .int 0), (0, .ref h0), (1, .int p0)]) hx hb dX0_choose_9 rfl hl (by decide) rfl (fun ls hl => ?_)
  refine lv_iload_n hx hb dX0_choose_10 rfl (lv_at hl 0 rfl) ?_
  refine lv_iload_n hx hb dX0_choose_11 rfl (lv_at hl 2 rfl) ?_
  refine lv_icmp_ge (tgt := 39) hx hb dX0_choose_12 (by decide) (fun c => absurd ((ti_le (x := p0) (y := 0) (a := p0.toInt) (b := 0) rfl (by decide)).mp c) (by omega)) (fun c => ?_)
  refine lv_aload_n hx hb dX0_choose_15 rfl (lv_at hl 1 rfl) ?_
  refine kc_i (wr := [(h3, .inl (cZ, 64, .inl zf)), (h2, .inr (2, [.ref h6, g14, g15])), (h6, .inl (cI, 300, .inl zf)), (h4, .inl (cI, 64, .inl zf))]) (va_runV (As := []) (rest := []) ⟨hx, hb, hml, hown, hts⟩ (K157_X0_bestLeft l D cB cI cZ _ h0 h1 h5 ((.ref h2)) ((.ref h3)) ((.ref h4)) (g0) (g1) (g2) (g3) (g4) (g5) (g6) (g7) (g8) (g9) (g10) (g11) (g12) (g13)) (cwV 0 hts gX0_choose_X0_bestLeft rfl rfl rfl (by decide +kernel) ⟨Nat.le_of_ble_eq_true rfl, Nat.le_of_ble_eq_true rfl⟩) (pre_V (q := (RX0, TX0, 6)) (ci := 0) (q0 := 0) (hP.sub [3, 0, 1] rfl) hK hN (hD.sub [3, 0, 1] (by decide) rfl) rfl rfl) rfl rfl hl.1 rfl (lv_room (Nat.le_of_ble_eq_true rfl)) dX0_choose_16 ⟨Nat.le_of_ble_eq_true rfl, Nat.le_of_ble_eq_true rfl⟩) hP hD hS hA [3, 0, 1] [2, 4, 5, 6] rfl rfl (by decide) (by decide) (fun r_1 u H locs hw hP hD hS => ?_)
  have k_2 := hw
  obtain rfl : r_1 = 0 := k_2
  have hP : va_P D vwCl [(h3, .inl (cZ, 64, .inl zf)), (h2, .inr (2, [.ref h6, g14, g15])), (h6, .inl (cI, 300, .inl zf)), (h4, .inl (cI, 64, .inl zf)), (h0, .inr (0, [.ref h1, .ref h2, .ref h3, .ref h4, g0, g1])), (h1, .inr (3, [g2, g3, .ref h5, g4, g5, g6, g7, g8, g9, .int 0, g10, g11, g12, g13])), (h5, .inl (cI, 64, .inl zf))] H := hP
  have hD : va_D A [(h3, .inl (cZ, 64, .inl zf)), (h2, .inr (2, [.ref h6, g14, g15])), (h6, .inl (cI, 300, .inl zf)), (h4, .inl (cI, 64, .inl zf)), (h0, .inr (0, [.ref h1, .ref h2, .ref h3, .ref h4, g0, g1])), (h1, .inr (3, [g2, g3, .ref h5, g4, g5, g6, g7, g8, g9, .int 0, g10, g11, g12, g13])), (h5, .inl (cI, 64, .inl zf))] := hD
  refine lv_istore_n (lv' := [(3, .int 0), (2, .int 0), (0, .ref h0), (1, .int p0)]) hx hb dX0_choose_19 rfl hl (by decide) rfl (fun ls hl => ?_)
  refine lv_iload_n hx hb dX0_choose_20 rfl (lv_at hl 0 rfl) ?_
  refine lv_if_ne (tgt := 26) hx hb dX0_choose_21 (by decide) (fun c => absurd (by decide) c) (fun c => ?_)
  refine lv_iload_n hx hb dX0_choose_24 rfl (lv_at hl 1 rfl) ?_
  exact kr_i () hx hb hr hlocks hP hD hS rfl dX0_choose_25
set_option maxHeartbeats 4000000 in
set_option maxRecDepth 100000 in
theorem K159_X0_gatherAged (l : Launch) (D : va_G) (cB cI cZ : ClassId) (sz : Nat) (h0 : Nat) (h1 : Nat) (h2 : Nat)  (g0 : Value) (g1 : Value) (g2 : Value) (g3 : Value) (g4 : Value) (g5 : Value) (g6 : Value)  :
    CtV l D cB cI cZ yX0_gatherAged wsX0_gatherAged { frames := 2, cells := 0, slots := 0, locals := 41 } [.ref h0] [(h0, .inr (0, [g0, .ref h1, g1, g2, g3, g4])), (h1, .inr (2, [.ref h2, g5, g6])), (h2, .inl (cI, 300, .inl zf))] sz 0 0
      (fun (u : Unit) => True)
      (fun u => [(h0, .inr (0, [g0, .ref h1, g1, g2, g3, .int 0])), (h1, .inr (2, [.ref h2, g5, g6])), (h2, .inl (cI, 300, .inl zf))]) := by
  refine mk_metV (cc := cX0_gatherAged) (maxL := 2) (ret := none) (by decide) rfl (Nat.le_of_ble_eq_true rfl) ?_
  intro p e s m below meth c A hx hb hr hml hts hown hlocks hin hP hK hN hD hA hS ls hl
  have hown : s.vm.findClass RX0 = some m.cls := hown
  have hl : lv_has ls 2 [(0, .ref h0)] := hl
  refine lv_aload_n hx hb dX0_gatherAged_0 rfl (lv_at hl 0 rfl) ?_
  refine lv_iconst (v := 0) hx hb dX0_gatherAged_1 (by decide) ?_
  refine va_put (D := D) (ci := 0) (v := .int 0) (ty := .int) (C := RX0) (T := TX0) (N := 6) hx hb hts inX0_gatherAged_X0 tyX0 tyX0_ok nmX0 hown hK hP hD hS 0 rfl rfl 5 (by decide) (hts _ wdX0_gatherAged_0) (fun _ h9 => h9) rfl (by decide +kernel) rfl rfl (Nat.le_of_ble_eq_true rfl) dX0_gatherAged_2 (fun H locs hP hD hS => ?_)
  have hP : va_P D vwCl [(h0, .inr (0, [g0, .ref h1, g1, g2, g3, .int 0])), (h1, .inr (2, [.ref h2, g5, g6])), (h2, .inl (cI, 300, .inl zf))] H := hP
  have hD : va_D A [(h0, .inr (0, [g0, .ref h1, g1, g2, g3, .int 0])), (h1, .inr (2, [.ref h2, g5, g6])), (h2, .inl (cI, 300, .inl zf))] := hD
  refine lv_iconst (v := 0) hx hb dX0_gatherAged_5 (by decide) ?_
  refine lv_istore_n (lv' := [(1, .int 0), (0, .ref h0)]) hx hb dX0_gatherAged_6 rfl hl (by decide) rfl (fun ls hl => ?_)
  refine kl (α := Int32) (fun n a H locs ls => (0 ≤ Int32.toInt a) ∧ (Int32.toInt a ≤ 300) ∧ (300 - Int32.toInt a < ((n : Nat) : Int)) ∧ va_P D vwCl [(h0, .inr (0, [g0, .ref h1, g1, g2, g3, .int 0])), (h1, .inr (2, [.ref h2, g5, g6])), (h2, .inl (cI, 300, .inl zf))] H ∧ va_D A [(h0, .inr (0, [g0, .ref h1, g1, g2, g3, .int 0])), (h1, .inr (2, [.ref h2, g5, g6])), (h2, .inl (cI, 300, .inl zf))] ∧ va_S A s.heap H locs ∧ lv_has ls 2 [(1, .int a), (0, .ref h0)]) 301 0 ⟨(by show 0 ≤ Int32.toInt 0; decide), (by show Int32.toInt 0 ≤ 300; decide), (by show 300 - Int32.toInt 0 < ((301 : Nat) : Int); have := (by decide : Int32.toInt 0 = 0); omega), hP, hD, hS, hl⟩ (fun a H locs ls h => ?_) (fun n_2 ih_3 a H locs ls h => ?_)
  · obtain ⟨j_4, j_5, j_6, _⟩ := h
    omega
  obtain ⟨v_1, rfl⟩ : ∃ z, z = a := ⟨_, rfl⟩
  obtain ⟨j_4, j_5, j_6, hP, hD, hS, hl⟩ := h
  have j_4 : 0 ≤ Int32.toInt v_1 := j_4
  have j_5 : Int32.toInt v_1 ≤ 300 := j_5
  have j_6 : 300 - Int32.toInt v_1 < ((n_2 + 1 : Nat) : Int) := j_6
  have hP : va_P D vwCl [(h0, .inr (0, [g0, .ref h1, g1, g2, g3, .int 0])), (h1, .inr (2, [.ref h2, g5, g6])), (h2, .inl (cI, 300, .inl zf))] H := hP
  have hD : va_D A [(h0, .inr (0, [g0, .ref h1, g1, g2, g3, .int 0])), (h1, .inr (2, [.ref h2, g5, g6])), (h2, .inl (cI, 300, .inl zf))] := hD
  have hl : lv_has ls 2 [(1, .int v_1), (0, .ref h0)] := hl
  refine lv_iload_n hx hb dX0_gatherAged_7 rfl (lv_at hl 0 rfl) ?_
  refine lv_sipush (v := 300) hx hb dX0_gatherAged_8 (by decide) ?_
  refine lv_icmp_ge (tgt := 52) hx hb dX0_gatherAged_11 (by decide) (fun c => ?_) (fun c => ?_)
  · skip
    have k_7 := (ti_le (x := 300) (y := v_1) (a := 300) (b := v_1.toInt) (by decide) rfl).mp c
    obtain rfl : v_1 = 300 := ti_inj (a := 300) (by decide) (by omega)
    exact kr_v () hx hb hr hlocks hP hD hS trivial dX0_gatherAged_52
  · skip
    have k_8 := mt (ti_le (x := 300) (y := v_1) (a := 300) (b := v_1.toInt) (by decide) rfl).mpr c
    refine lv_aload_n hx hb dX0_gatherAged_14 rfl (lv_at hl 1 rfl) ?_
    refine va_get (D := D) (ci := 0) (v := .ref h1) (C := RX0) (T := TX0) (N := 6) hx hb hts inX0_gatherAged_X0 hown hK hP 0 rfl rfl 1 (by decide) (hts _ wdX0_gatherAged_1) (fun _ h9 => h9) rfl dX0_gatherAged_15 ?_
    refine lv_iload_n hx hb dX0_gatherAged_18 rfl (lv_at hl 0 rfl) ?_
    refine kc_i (wr := [(h0, .inr (0, [g0, .ref h1, g1, g2, g3, .int 0]))]) (va_runV (As := [.int v_1]) (rest := []) ⟨hx, hb, hml, hown, hts⟩ (K134_X2_has l D cB cI cZ _ h1 h2 v_1 (g5) (g6) ⟨by omega, by omega⟩) (cwV 1 hts gX0_gatherAged_X2_has rfl rfl rfl (by decide +kernel) ⟨Nat.le_of_ble_eq_true rfl, Nat.le_of_ble_eq_true rfl⟩) (pre_V (q := (RX2, TX2, 3)) (ci := 2) (q0 := 0) (hP.sub [1, 2] rfl) hK hN (hD.sub [1, 2] (by decide) rfl) rfl rfl) rfl rfl hl.1 rfl (lv_room (Nat.le_of_ble_eq_true rfl)) dX0_gatherAged_19 ⟨Nat.le_of_ble_eq_true rfl, Nat.le_of_ble_eq_true rfl⟩) hP hD hS hA [1, 2] [0] rfl rfl (by decide) (by decide) (fun r_9 u H locs hw hP hD hS => ?_)
    have k_10 := hw
    obtain rfl : r_9 = 0 := k_10
    have hP : va_P D vwCl [(h0, .inr (0, [g0, .ref h1, g1, g2, g3, .int 0])), (h1, .inr (2, [.ref h2, g5, g6])), (h2, .inl (cI, 300, .inl zf))] H := hP
    have hD : va_D A [(h0, .inr (0, [g0, .ref h1, g1, g2, g3, .int 0])), (h1, .inr (2, [.ref h2, g5, g6])), (h2, .inl (cI, 300, .inl zf))] := hD
    refine lv_if_eq (tgt := 46) hx hb dX0_gatherAged_22 (by decide) (fun c => ?_) (fun c => absurd (by decide) c)
    obtain ⟨x_11, ex_11⟩ : ∃ y : Int32, y = v_1 + 1 := ⟨_, rfl⟩
    have tx_11 : x_11.toInt = v_1.toInt + 1 := by rw [ex_11]; exact ti_add rfl (by decide) (by omega) (by omega)
    refine lv_iinc (v := x_11) (lv' := [(1, .int x_11), (0, .ref h0)]) hx hb dX0_gatherAged_46 hl (k := 0) rfl (by rw [ex_11]; rfl) (by decide) rfl (fun ls hl => ?_)
    refine lv_goto (tgt := 7) hx hb dX0_gatherAged_49 (by decide) ?_
    exact ih_3 x_11 _ _ _ ⟨(by show 0 ≤ Int32.toInt x_11; omega), (by show Int32.toInt x_11 ≤ 300; omega), (by show 300 - Int32.toInt x_11 < ((n_2 : Nat) : Int); omega), hP, hD, hS, hl⟩
set_option maxHeartbeats 4000000 in
set_option maxRecDepth 100000 in
theorem K160_X0_countWanted (l : Launch) (D : va_G) (cB cI cZ : ClassId) (sz : Nat) (h0 : Nat) (h1 : Nat)  (g0 : Value) (g1 : Value) (g2 : Value) (g3 : Value) (g4 : Value) (g5 : Value) (g6 : Value) (g7 : Value) (g8 : Value) (g9 : Value) (g10 : Value) (g11 : Value) (g12 : Value) (g13 : Value) (g14 : Value) (g15 : Value) (g16 : Value)  :
    CtI l D cB cI cZ yX0_countWanted wsX0_countWanted { frames := 0, cells := 0, slots := 0, locals := 0 } [.ref h0] [(h0, .inr (0, [.ref h1, g0, g1, g2, g3, .int 0])), (h1, .inr (3, [g4, g5, g6, g7, g8, g9, g10, g11, g12, .int 0, g13, g14, g15, g16]))] sz 0 0
      (fun (r : Int32) (u : Unit) => r = 0)
      (fun u => [(h0, .inr (0, [.ref h1, g0, g1, g2, g3, .int 0])), (h1, .inr (3, [g4, g5, g6, g7, g8, g9, g10, g11, g12, .int 0, g13, g14, g15, g16]))]) := by
  refine mk_metI (cc := cX0_countWanted) (maxL := 5) (ret := (some .int)) (by decide) rfl (Nat.le_of_ble_eq_true rfl) ?_
  intro p e s m below meth c A hx hb hr hml hts hown hlocks hin hP hK hN hD hA hS ls hl
  have hown : s.vm.findClass RX0 = some m.cls := hown
  have hl : lv_has ls 5 [(0, .ref h0)] := hl
  refine lv_iconst (v := 0) hx hb dX0_countWanted_0 (by decide) ?_
  refine lv_istore_n (lv' := [(1, .int 0), (0, .ref h0)]) hx hb dX0_countWanted_1 rfl hl (by decide) rfl (fun ls hl => ?_)
  refine lv_aload_n hx hb dX0_countWanted_2 rfl (lv_at hl 1 rfl) ?_
  refine va_get (D := D) (ci := 0) (v := .ref h1) (C := RX0) (T := TX0) (N := 6) hx hb hts inX0_countWanted_X0 hown hK hP 0 rfl rfl 0 (by decide) (hts _ wdX0_countWanted_0) (fun _ h9 => h9) rfl dX0_countWanted_3 ?_
  refine va_getN (D := D) (ci := 3) (v := .int 0) (C := RX3) (T := TX3) (N := 14) hx hb hts inX0_countWanted_X3 hown hK hP 1 rfl rfl 9 (by decide) (hN.f (a := "AgedLog$Cleaner") (i := 113) (b := "AgedLog$Log") (n := "open") (d := "I") (by decide +kernel)) (fun _ h9 => h9) rfl dX0_countWanted_6 ?_
  refine lv_if_ne (tgt := 18) hx hb dX0_countWanted_9 (by decide) (fun c => absurd (by decide) c) (fun c => ?_)
  refine lv_sipush (v := 1024) hx hb dX0_countWanted_12 (by decide) ?_
  refine lv_goto (tgt := 25) hx hb dX0_countWanted_15 (by decide) ?_
  refine lv_istore_n (lv' := [(2, .int 1024), (1, .int 0), (0, .ref h0)]) hx hb dX0_countWanted_25 rfl hl (by decide) rfl (fun ls hl => ?_)
  refine lv_iconst (v := 0) hx hb dX0_countWanted_26 (by decide) ?_
  refine lv_istore_n (lv' := [(3, .int 0), (2, .int 1024), (1, .int 0), (0, .ref h0)]) hx hb dX0_countWanted_27 rfl hl (by decide) rfl (fun ls hl => ?_)
  refine lv_iload_n hx hb dX0_countWanted_28 rfl (lv_at hl 0 rfl) ?_
  refine lv_aload_n hx hb dX0_countWanted_29 rfl (lv_at hl 3 rfl) ?_
  refine va_get (D := D) (ci := 0) (v := .int 0) (C := RX0) (T := TX0) (N := 6) hx hb hts inX0_countWanted_X0 hown hK hP 0 rfl rfl 5 (by decide) (hts _ wdX0_countWanted_1) (fun _ h9 => h9) rfl dX0_countWanted_30 ?_
  refine lv_icmp_ge (tgt := 81) hx hb dX0_countWanted_33 (by decide) (fun c => ?_) (fun c => absurd (by decide) c)
  refine lv_iload_n hx hb dX0_countWanted_81 rfl (lv_at hl 2 rfl) ?_
  exact kr_i () hx hb hr hlocks hP hD hS rfl dX0_countWanted_82
set_option maxHeartbeats 4000000 in
set_option maxRecDepth 100000 in
theorem K152_X0_spend (l : Launch) (D : va_G) (cB cI cZ : ClassId) (sz : Nat) (h0 : Nat) (h1 : Nat) (h2 : Nat) (h3 : Nat) (h4 : Nat) (h5 : Nat) (h6 : Nat)  (p0 : Int32) (g0 : Value) (g1 : Value) (g2 : Value) (g3 : Value) (g4 : Value) (g5 : Value) (g6 : Value) (g7 : Value) (g8 : Value) (g9 : Value) (g10 : Value) (g11 : Value) (g12 : Value) (g13 : Value) (g14 : Value) (i_p0 : 1 ≤ p0.toInt ∧ p0.toInt ≤ 8) :
    CtI l D cB cI cZ yX0_spend wsX0_spend { frames := 4, cells := 0, slots := 0, locals := 87 } [.ref h0, .int p0] [(h0, .inr (0, [.ref h1, .ref h2, .ref h3, .ref h4, g0, .int 0])), (h1, .inr (3, [g1, g2, .ref h5, g3, g4, g5, g6, g7, g8, .int 0, g9, g10, g11, g12])), (h2, .inr (2, [.ref h6, g13, g14])), (h3, .inl (cZ, 64, .inl zf)), (h4, .inl (cI, 64, .inl zf)), (h5, .inl (cI, 64, .inl zf)), (h6, .inl (cI, 300, .inl zf))] sz 0 0
      (fun (r : Int32) (u : Unit) => r = 0)
      (fun u => [(h3, .inl (cZ, 64, .inl zf)), (h4, .inl (cI, 64, .inl zf)), (h2, .inr (2, [.ref h6, g13, g14])), (h6, .inl (cI, 300, .inl zf)), (h0, .inr (0, [.ref h1, .ref h2, .ref h3, .ref h4, g0, .int 0])), (h1, .inr (3, [g1, g2, .ref h5, g3, g4, g5, g6, g7, g8, .int 0, g9, g10, g11, g12])), (h5, .inl (cI, 64, .inl zf))]) := by
  refine mk_metI (cc := cX0_spend) (maxL := 4) (ret := (some .int)) (by decide) rfl (Nat.le_of_ble_eq_true rfl) ?_
  intro p e s m below meth c A hx hb hr hml hts hown hlocks hin hP hK hN hD hA hS ls hl
  have hown : s.vm.findClass RX0 = some m.cls := hown
  have hl : lv_has ls 4 [(0, .ref h0), (1, .int p0)] := hl
  refine lv_aload_n hx hb dX0_spend_0 rfl (lv_at hl 0 rfl) ?_
  refine lv_iload_n hx hb dX0_spend_1 rfl (lv_at hl 1 rfl) ?_
  refine kc_i (wr := []) (va_runV (As := [.int p0]) (rest := []) ⟨hx, hb, hml, hown, hts⟩ (K153_X0_choose l D cB cI cZ _ h0 h1 h2 h3 h4 h5 h6 p0 (g0) ((.int 0)) (g1) (g2) (g3) (g4) (g5) (g6) (g7) (g8) (g9) (g10) (g11) (g12) (g13) (g14) ⟨by omega, by omega⟩) (cwV 1 hts gX0_spend_X0_choose rfl rfl rfl (by decide +kernel) ⟨Nat.le_of_ble_eq_true rfl, Nat.le_of_ble_eq_true rfl⟩) (pre_V (q := (RX0, TX0, 6)) (ci := 0) (q0 := 0) (hP.sub [0, 1, 2, 3, 4, 5, 6] rfl) hK hN (hD.sub [0, 1, 2, 3, 4, 5, 6] (by decide) rfl) rfl rfl) rfl rfl hl.1 rfl (lv_room (Nat.le_of_ble_eq_true rfl)) dX0_spend_2 ⟨Nat.le_of_ble_eq_true rfl, Nat.le_of_ble_eq_true rfl⟩) hP hD hS hA [0, 1, 2, 3, 4, 5, 6] [] rfl rfl (by decide) (by decide) (fun r_1 u H locs hw hP hD hS => ?_)
  have k_2 := hw
  obtain rfl : r_1 = 0 := k_2
  have hP : va_P D vwCl [(h3, .inl (cZ, 64, .inl zf)), (h2, .inr (2, [.ref h6, g13, g14])), (h6, .inl (cI, 300, .inl zf)), (h4, .inl (cI, 64, .inl zf)), (h0, .inr (0, [.ref h1, .ref h2, .ref h3, .ref h4, g0, .int 0])), (h1, .inr (3, [g1, g2, .ref h5, g3, g4, g5, g6, g7, g8, .int 0, g9, g10, g11, g12])), (h5, .inl (cI, 64, .inl zf))] H := hP
  have hD : va_D A [(h3, .inl (cZ, 64, .inl zf)), (h2, .inr (2, [.ref h6, g13, g14])), (h6, .inl (cI, 300, .inl zf)), (h4, .inl (cI, 64, .inl zf)), (h0, .inr (0, [.ref h1, .ref h2, .ref h3, .ref h4, g0, .int 0])), (h1, .inr (3, [g1, g2, .ref h5, g3, g4, g5, g6, g7, g8, .int 0, g9, g10, g11, g12])), (h5, .inl (cI, 64, .inl zf))] := hD
  refine lv_istore_n (lv' := [(2, .int 0), (0, .ref h0), (1, .int p0)]) hx hb dX0_spend_5 rfl hl (by decide) rfl (fun ls hl => ?_)
  refine lv_aload_n hx hb dX0_spend_6 rfl (lv_at hl 1 rfl) ?_
  refine kc_v (wr := [(h3, .inl (cZ, 64, .inl zf)), (h4, .inl (cI, 64, .inl zf)), (h1, .inr (3, [g1, g2, .ref h5, g3, g4, g5, g6, g7, g8, .int 0, g9, g10, g11, g12])), (h5, .inl (cI, 64, .inl zf))]) (va_runV (As := []) (rest := []) ⟨hx, hb, hml, hown, hts⟩ (K159_X0_gatherAged l D cB cI cZ _ h0 h2 h6 ((.ref h1)) ((.ref h3)) ((.ref h4)) (g0) ((.int 0)) (g13) (g14)) (cwV 0 hts gX0_spend_X0_gatherAged rfl rfl rfl (by decide +kernel) ⟨Nat.le_of_ble_eq_true rfl, Nat.le_of_ble_eq_true rfl⟩) (pre_V (q := (RX0, TX0, 6)) (ci := 0) (q0 := 0) (hP.sub [4, 1, 2] rfl) hK hN (hD.sub [4, 1, 2] (by decide) rfl) rfl rfl) rfl rfl hl.1 rfl (lv_room (Nat.le_of_ble_eq_true rfl)) dX0_spend_7 ⟨Nat.le_of_ble_eq_true rfl, Nat.le_of_ble_eq_true rfl⟩) hP hD hS hA [4, 1, 2] [0, 3, 5, 6] rfl rfl (by decide) (by decide) (fun  u H locs hw hP hD hS => ?_)
  have hP : va_P D vwCl [(h3, .inl (cZ, 64, .inl zf)), (h4, .inl (cI, 64, .inl zf)), (h1, .inr (3, [g1, g2, .ref h5, g3, g4, g5, g6, g7, g8, .int 0, g9, g10, g11, g12])), (h5, .inl (cI, 64, .inl zf)), (h0, .inr (0, [.ref h1, .ref h2, .ref h3, .ref h4, g0, .int 0])), (h2, .inr (2, [.ref h6, g13, g14])), (h6, .inl (cI, 300, .inl zf))] H := hP
  have hD : va_D A [(h3, .inl (cZ, 64, .inl zf)), (h4, .inl (cI, 64, .inl zf)), (h1, .inr (3, [g1, g2, .ref h5, g3, g4, g5, g6, g7, g8, .int 0, g9, g10, g11, g12])), (h5, .inl (cI, 64, .inl zf)), (h0, .inr (0, [.ref h1, .ref h2, .ref h3, .ref h4, g0, .int 0])), (h2, .inr (2, [.ref h6, g13, g14])), (h6, .inl (cI, 300, .inl zf))] := hD
  refine lv_aload_n hx hb dX0_spend_10 rfl (lv_at hl 1 rfl) ?_
  refine kc_i (wr := [(h3, .inl (cZ, 64, .inl zf)), (h4, .inl (cI, 64, .inl zf)), (h5, .inl (cI, 64, .inl zf)), (h2, .inr (2, [.ref h6, g13, g14])), (h6, .inl (cI, 300, .inl zf))]) (va_runV (As := []) (rest := []) ⟨hx, hb, hml, hown, hts⟩ (K160_X0_countWanted l D cB cI cZ _ h0 h1 ((.ref h2)) ((.ref h3)) ((.ref h4)) (g0) (g1) (g2) ((.ref h5)) (g3) (g4) (g5) (g6) (g7) (g8) (g9) (g10) (g11) (g12)) (cwV 0 hts gX0_spend_X0_countWanted rfl rfl rfl (by decide +kernel) ⟨Nat.le_of_ble_eq_true rfl, Nat.le_of_ble_eq_true rfl⟩) (pre_V (q := (RX0, TX0, 6)) (ci := 0) (q0 := 0) (hP.sub [4, 2] rfl) hK hN (hD.sub [4, 2] (by decide) rfl) rfl rfl) rfl rfl hl.1 rfl (lv_room (Nat.le_of_ble_eq_true rfl)) dX0_spend_11 ⟨Nat.le_of_ble_eq_true rfl, Nat.le_of_ble_eq_true rfl⟩) hP hD hS hA [4, 2] [0, 1, 3, 5, 6] rfl rfl (by decide) (by decide) (fun r_3 u H locs hw hP hD hS => ?_)
  have k_4 := hw
  obtain rfl : r_3 = 0 := k_4
  have hP : va_P D vwCl [(h3, .inl (cZ, 64, .inl zf)), (h4, .inl (cI, 64, .inl zf)), (h5, .inl (cI, 64, .inl zf)), (h2, .inr (2, [.ref h6, g13, g14])), (h6, .inl (cI, 300, .inl zf)), (h0, .inr (0, [.ref h1, .ref h2, .ref h3, .ref h4, g0, .int 0])), (h1, .inr (3, [g1, g2, .ref h5, g3, g4, g5, g6, g7, g8, .int 0, g9, g10, g11, g12]))] H := hP
  have hD : va_D A [(h3, .inl (cZ, 64, .inl zf)), (h4, .inl (cI, 64, .inl zf)), (h5, .inl (cI, 64, .inl zf)), (h2, .inr (2, [.ref h6, g13, g14])), (h6, .inl (cI, 300, .inl zf)), (h0, .inr (0, [.ref h1, .ref h2, .ref h3, .ref h4, g0, .int 0])), (h1, .inr (3, [g1, g2, .ref h5, g3, g4, g5, g6, g7, g8, .int 0, g9, g10, g11, g12]))] := hD
  refine lv_aload_n hx hb dX0_spend_14 rfl (lv_at hl 1 rfl) ?_
  refine va_get (D := D) (ci := 0) (v := .ref h1) (C := RX0) (T := TX0) (N := 6) hx hb hts inX0_spend_X0 hown hK hP 5 rfl rfl 0 (by decide) (hts _ wdX0_spend_0) (fun _ h9 => h9) rfl dX0_spend_15 ?_
  refine kc_i (wr := [(h3, .inl (cZ, 64, .inl zf)), (h4, .inl (cI, 64, .inl zf)), (h2, .inr (2, [.ref h6, g13, g14])), (h6, .inl (cI, 300, .inl zf)), (h0, .inr (0, [.ref h1, .ref h2, .ref h3, .ref h4, g0, .int 0]))]) (va_runV (As := []) (rest := [.int 0]) ⟨hx, hb, hml, hown, hts⟩ (K50_X3_countFree l D cB cI cZ _ h1 h5 (g1) (g2) (g3) (g4) (g5) (g6) (g7) (g8) ((.int 0)) (g9) (g10) (g11) (g12)) (cwV 0 hts gX0_spend_X3_countFree rfl rfl rfl (by decide +kernel) ⟨Nat.le_of_ble_eq_true rfl, Nat.le_of_ble_eq_true rfl⟩) (pre_V (q := (RX3, TX3, 14)) (ci := 3) (q0 := 0) (hP.sub [6, 2] rfl) hK hN (hD.sub [6, 2] (by decide) rfl) rfl rfl) rfl rfl hl.1 rfl (lv_room (Nat.le_of_ble_eq_true rfl)) dX0_spend_18 ⟨Nat.le_of_ble_eq_true rfl, Nat.le_of_ble_eq_true rfl⟩) hP hD hS hA [6, 2] [0, 1, 3, 4, 5] rfl rfl (by decide) (by decide) (fun r_5 u H locs hw hP hD hS => ?_)
  have k_6 := hw
  obtain rfl : r_5 = 56 := k_6
  have hP : va_P D vwCl [(h3, .inl (cZ, 64, .inl zf)), (h4, .inl (cI, 64, .inl zf)), (h2, .inr (2, [.ref h6, g13, g14])), (h6, .inl (cI, 300, .inl zf)), (h0, .inr (0, [.ref h1, .ref h2, .ref h3, .ref h4, g0, .int 0])), (h1, .inr (3, [g1, g2, .ref h5, g3, g4, g5, g6, g7, g8, .int 0, g9, g10, g11, g12])), (h5, .inl (cI, 64, .inl zf))] H := hP
  have hD : va_D A [(h3, .inl (cZ, 64, .inl zf)), (h4, .inl (cI, 64, .inl zf)), (h2, .inr (2, [.ref h6, g13, g14])), (h6, .inl (cI, 300, .inl zf)), (h0, .inr (0, [.ref h1, .ref h2, .ref h3, .ref h4, g0, .int 0])), (h1, .inr (3, [g1, g2, .ref h5, g3, g4, g5, g6, g7, g8, .int 0, g9, g10, g11, g12])), (h5, .inl (cI, 64, .inl zf))] := hD
  refine lv_icmp_le (tgt := 27) hx hb dX0_spend_21 (by decide) (fun c => ?_) (fun c => absurd (by decide) c)
  refine lv_iconst (v := 0) hx hb dX0_spend_27 (by decide) ?_
  refine lv_istore_n (lv' := [(3, .int 0), (2, .int 0), (0, .ref h0), (1, .int p0)]) hx hb dX0_spend_28 rfl hl (by decide) rfl (fun ls hl => ?_)
  refine lv_iload_n hx hb dX0_spend_29 rfl (lv_at hl 0 rfl) ?_
  refine lv_aload_n hx hb dX0_spend_30 rfl (lv_at hl 2 rfl) ?_
  refine va_get (D := D) (ci := 0) (v := .int 0) (C := RX0) (T := TX0) (N := 6) hx hb hts inX0_spend_X0 hown hK hP 4 rfl rfl 5 (by decide) (hts _ wdX0_spend_1) (fun _ h9 => h9) rfl dX0_spend_31 ?_
  refine lv_icmp_ge (tgt := 53) hx hb dX0_spend_34 (by decide) (fun c => ?_) (fun c => absurd (by decide) c)
  refine lv_bipush (v := 8) hx hb dX0_spend_53 (by decide) ?_
  refine lv_istore_n (lv' := [(3, .int 8), (2, .int 0), (0, .ref h0), (1, .int p0)]) hx hb dX0_spend_55 rfl hl (by decide) rfl (fun ls hl => ?_)
  refine kl (α := Int32) (fun n a H locs ls => (8 ≤ Int32.toInt a) ∧ (Int32.toInt a ≤ 64) ∧ (64 - Int32.toInt a < ((n : Nat) : Int)) ∧ va_P D vwCl [(h3, .inl (cZ, 64, .inl zf)), (h4, .inl (cI, 64, .inl zf)), (h2, .inr (2, [.ref h6, g13, g14])), (h6, .inl (cI, 300, .inl zf)), (h0, .inr (0, [.ref h1, .ref h2, .ref h3, .ref h4, g0, .int 0])), (h1, .inr (3, [g1, g2, .ref h5, g3, g4, g5, g6, g7, g8, .int 0, g9, g10, g11, g12])), (h5, .inl (cI, 64, .inl zf))] H ∧ va_D A [(h3, .inl (cZ, 64, .inl zf)), (h4, .inl (cI, 64, .inl zf)), (h2, .inr (2, [.ref h6, g13, g14])), (h6, .inl (cI, 300, .inl zf)), (h0, .inr (0, [.ref h1, .ref h2, .ref h3, .ref h4, g0, .int 0])), (h1, .inr (3, [g1, g2, .ref h5, g3, g4, g5, g6, g7, g8, .int 0, g9, g10, g11, g12])), (h5, .inl (cI, 64, .inl zf))] ∧ va_S A s.heap H locs ∧ lv_has ls 4 [(3, .int a), (2, .int 0), (0, .ref h0), (1, .int p0)]) 57 8 ⟨(by show 8 ≤ Int32.toInt 8; decide), (by show Int32.toInt 8 ≤ 64; decide), (by show 64 - Int32.toInt 8 < ((57 : Nat) : Int); have := (by decide : Int32.toInt 8 = 8); omega), hP, hD, hS, hl⟩ (fun a H locs ls h => ?_) (fun n_8 ih_9 a H locs ls h => ?_)
  · obtain ⟨j_10, j_11, j_12, _⟩ := h
    omega
  obtain ⟨v_7, rfl⟩ : ∃ z, z = a := ⟨_, rfl⟩
  obtain ⟨j_10, j_11, j_12, hP, hD, hS, hl⟩ := h
  have j_10 : 8 ≤ Int32.toInt v_7 := j_10
  have j_11 : Int32.toInt v_7 ≤ 64 := j_11
  have j_12 : 64 - Int32.toInt v_7 < ((n_8 + 1 : Nat) : Int) := j_12
  have hP : va_P D vwCl [(h3, .inl (cZ, 64, .inl zf)), (h4, .inl (cI, 64, .inl zf)), (h2, .inr (2, [.ref h6, g13, g14])), (h6, .inl (cI, 300, .inl zf)), (h0, .inr (0, [.ref h1, .ref h2, .ref h3, .ref h4, g0, .int 0])), (h1, .inr (3, [g1, g2, .ref h5, g3, g4, g5, g6, g7, g8, .int 0, g9, g10, g11, g12])), (h5, .inl (cI, 64, .inl zf))] H := hP
  have hD : va_D A [(h3, .inl (cZ, 64, .inl zf)), (h4, .inl (cI, 64, .inl zf)), (h2, .inr (2, [.ref h6, g13, g14])), (h6, .inl (cI, 300, .inl zf)), (h0, .inr (0, [.ref h1, .ref h2, .ref h3, .ref h4, g0, .int 0])), (h1, .inr (3, [g1, g2, .ref h5, g3, g4, g5, g6, g7, g8, .int 0, g9, g10, g11, g12])), (h5, .inl (cI, 64, .inl zf))] := hD
  have hl : lv_has ls 4 [(3, .int v_7), (2, .int 0), (0, .ref h0), (1, .int p0)] := hl
  refine lv_iload_n hx hb dX0_spend_56 rfl (lv_at hl 0 rfl) ?_
  refine lv_bipush (v := 64) hx hb dX0_spend_57 (by decide) ?_
  refine lv_icmp_ge (tgt := 85) hx hb dX0_spend_59 (by decide) (fun c => ?_) (fun c => ?_)
  · skip
    have k_13 := (ti_le (x := 64) (y := v_7) (a := 64) (b := v_7.toInt) (by decide) rfl).mp c
    obtain rfl : v_7 = 64 := ti_inj (a := 64) (by decide) (by omega)
    refine lv_iload_n hx hb dX0_spend_85 rfl (lv_at hl 1 rfl) ?_
    exact kr_i () hx hb hr hlocks hP hD hS rfl dX0_spend_86
  · skip
    have k_14 := mt (ti_le (x := 64) (y := v_7) (a := 64) (b := v_7.toInt) (by decide) rfl).mpr c
    refine lv_aload_n hx hb dX0_spend_62 rfl (lv_at hl 2 rfl) ?_
    refine va_get (D := D) (ci := 0) (v := .ref h3) (C := RX0) (T := TX0) (N := 6) hx hb hts inX0_spend_X0 hown hK hP 4 rfl rfl 2 (by decide) (hts _ wdX0_spend_2) (fun _ h9 => h9) rfl dX0_spend_63 ?_
    refine lv_iload_n hx hb dX0_spend_66 rfl (lv_at hl 0 rfl) ?_
    refine va_zald hx hb hK hP 0 2 rfl rfl (ti_in (a := v_7.toInt) rfl (by omega) (by omega)) dX0_spend_67 ?_
    refine lv_topi (fun z_15 ez_15 => ?_)
    obtain rfl : z_15 = 0 := ez_15
    refine lv_if_eq (tgt := 79) hx hb dX0_spend_68 (by decide) (fun c => ?_) (fun c => absurd (by decide) c)
    obtain ⟨x_16, ex_16⟩ : ∃ y : Int32, y = v_7 + 1 := ⟨_, rfl⟩
    have tx_16 : x_16.toInt = v_7.toInt + 1 := by rw [ex_16]; exact ti_add rfl (by decide) (by omega) (by omega)
    refine lv_iinc (v := x_16) (lv' := [(3, .int x_16), (2, .int 0), (0, .ref h0), (1, .int p0)]) hx hb dX0_spend_79 hl (k := 0) rfl (by rw [ex_16]; rfl) (by decide) rfl (fun ls hl => ?_)
    refine lv_goto (tgt := 56) hx hb dX0_spend_82 (by decide) ?_
    exact ih_9 x_16 _ _ _ ⟨(by show 8 ≤ Int32.toInt x_16; omega), (by show Int32.toInt x_16 ≤ 64; omega), (by show 64 - Int32.toInt x_16 < ((n_8 : Nat) : Int); omega), hP, hD, hS, hl⟩
set_option maxHeartbeats 4000000 in
set_option maxRecDepth 100000 in
theorem K151_X7_clean (l : Launch) (D : va_G) (cB cI cZ : ClassId) (sz : Nat) (h0 : Nat) (h1 : Nat) (h2 : Nat) (h3 : Nat) (h4 : Nat) (h5 : Nat) (h6 : Nat) (h7 : Nat)  (p0 : Int32) (g0 : Value) (g1 : Value) (g2 : Value) (g3 : Value) (g4 : Value) (g5 : Value) (g6 : Value) (g7 : Value) (g8 : Value) (g9 : Value) (g10 : Value) (g11 : Value) (g12 : Value) (g13 : Value) (g14 : Value) (g15 : Value) (g16 : Value) (g17 : Value) (g18 : Value) (g19 : Value) (g20 : Value) (g21 : Value) (i_p0 : 1 ≤ p0.toInt ∧ p0.toInt ≤ 8) :
    CtI l D cB cI cZ yX7_clean wsX7_clean { frames := 5, cells := 0, slots := 0, locals := 110 } [.ref h0, .int p0] [(h0, .inr (6, [g0, g1, g2, .ref h1, g3, g4, g5, g6, .int 0])), (h1, .inr (0, [.ref h2, .ref h3, .ref h4, .ref h5, g7, .int 0])), (h2, .inr (3, [g8, g9, .ref h6, g10, g11, g12, g13, g14, g15, .int 0, g16, g17, g18, g19])), (h3, .inr (2, [.ref h7, g20, g21])), (h4, .inl (cZ, 64, .inl zf)), (h5, .inl (cI, 64, .inl zf)), (h6, .inl (cI, 64, .inl zf)), (h7, .inl (cI, 300, .inl zf))] sz 0 0
      (fun (r : Int32) (u : Unit) => r = 0)
      (fun u => []) := by
  refine mk_metI (cc := cX7_clean) (maxL := 2) (ret := (some .int)) (by decide) rfl (Nat.le_of_ble_eq_true rfl) ?_
  intro p e s m below meth c A hx hb hr hml hts hown hlocks hin hP hK hN hD hA hS ls hl
  have hown : s.vm.findClass RX7 = some m.cls := hown
  have hl : lv_has ls 2 [(0, .ref h0), (1, .int p0)] := hl
  refine lv_aload_n hx hb dX7_clean_0 rfl (lv_at hl 0 rfl) ?_
  refine va_get (D := D) (ci := 6) (v := .int 0) (C := RX7) (T := TX7) (N := 9) hx hb hts inX7_clean_X7 hown hK hP 0 rfl rfl 8 (by decide) (hts _ wdX7_clean_0) (fun _ h9 => h9) rfl dX7_clean_1 ?_
  refine lv_if_eq (tgt := 10) hx hb dX7_clean_4 (by decide) (fun c => ?_) (fun c => absurd (by decide) c)
  refine lv_iload_n hx hb dX7_clean_10 rfl (lv_at hl 1 rfl) ?_
  refine lv_iconst (v := 1) hx hb dX7_clean_11 (by decide) ?_
  refine lv_icmp_lt (tgt := 21) hx hb dX7_clean_12 (by decide) (fun c => absurd ((ti_lt (x := p0) (y := 1) (a := p0.toInt) (b := 1) rfl (by decide)).mp c) (by omega)) (fun c => ?_)
  refine lv_iload_n hx hb dX7_clean_15 rfl (lv_at hl 1 rfl) ?_
  refine lv_bipush (v := 8) hx hb dX7_clean_16 (by decide) ?_
  refine lv_icmp_le (tgt := 24) hx hb dX7_clean_18 (by decide) (fun c => ?_) (fun c => absurd ((ti_le (x := p0) (y := 8) (a := p0.toInt) (b := 8) rfl (by decide)).mpr (by omega)) c)
  refine lv_aload_n hx hb dX7_clean_24 rfl (lv_at hl 0 rfl) ?_
  refine va_get (D := D) (ci := 6) (v := .ref h1) (C := RX7) (T := TX7) (N := 9) hx hb hts inX7_clean_X7 hown hK hP 0 rfl rfl 3 (by decide) (hts _ wdX7_clean_1) (fun _ h9 => h9) rfl dX7_clean_25 ?_
  refine lv_iload_n hx hb dX7_clean_28 rfl (lv_at hl 1 rfl) ?_
  refine kc_i (wr := [(h0, .inr (6, [g0, g1, g2, .ref h1, g3, g4, g5, g6, .int 0]))]) (va_runV (As := [.int p0]) (rest := []) ⟨hx, hb, hml, hown, hts⟩ (K152_X0_spend l D cB cI cZ _ h1 h2 h3 h4 h5 h6 h7 p0 (g7) (g8) (g9) (g10) (g11) (g12) (g13) (g14) (g15) (g16) (g17) (g18) (g19) (g20) (g21) ⟨by omega, by omega⟩) (cwV 1 hts gX7_clean_X0_spend rfl rfl rfl (by decide +kernel) ⟨Nat.le_of_ble_eq_true rfl, Nat.le_of_ble_eq_true rfl⟩) (pre_V (q := (RX0, TX0, 6)) (ci := 0) (q0 := 0) (hP.sub [1, 2, 3, 4, 5, 6, 7] rfl) hK hN (hD.sub [1, 2, 3, 4, 5, 6, 7] (by decide) rfl) rfl rfl) rfl rfl hl.1 rfl (lv_room (Nat.le_of_ble_eq_true rfl)) dX7_clean_29 ⟨Nat.le_of_ble_eq_true rfl, Nat.le_of_ble_eq_true rfl⟩) hP hD hS hA [1, 2, 3, 4, 5, 6, 7] [0] rfl rfl (by decide) (by decide) (fun r_1 u H locs hw hP hD hS => ?_)
  have k_2 := hw
  obtain rfl : r_1 = 0 := k_2
  have hP : va_P D vwCl [(h0, .inr (6, [g0, g1, g2, .ref h1, g3, g4, g5, g6, .int 0])), (h4, .inl (cZ, 64, .inl zf)), (h5, .inl (cI, 64, .inl zf)), (h3, .inr (2, [.ref h7, g20, g21])), (h7, .inl (cI, 300, .inl zf)), (h1, .inr (0, [.ref h2, .ref h3, .ref h4, .ref h5, g7, .int 0])), (h2, .inr (3, [g8, g9, .ref h6, g10, g11, g12, g13, g14, g15, .int 0, g16, g17, g18, g19])), (h6, .inl (cI, 64, .inl zf))] H := hP
  have hD : va_D A [(h0, .inr (6, [g0, g1, g2, .ref h1, g3, g4, g5, g6, .int 0])), (h4, .inl (cZ, 64, .inl zf)), (h5, .inl (cI, 64, .inl zf)), (h3, .inr (2, [.ref h7, g20, g21])), (h7, .inl (cI, 300, .inl zf)), (h1, .inr (0, [.ref h2, .ref h3, .ref h4, .ref h5, g7, .int 0])), (h2, .inr (3, [g8, g9, .ref h6, g10, g11, g12, g13, g14, g15, .int 0, g16, g17, g18, g19])), (h6, .inl (cI, 64, .inl zf))] := hD
  exact kr_i () hx hb hr hlocks (hP.sub [] rfl) (hD.sub [] (by decide) rfl) hS rfl dX7_clean_32
set_option maxHeartbeats 4000000 in
set_option maxRecDepth 100000 in
theorem K162_X8_in (l : Launch) (D : va_G) (cB cI cZ : ClassId) (sz : Nat)   (p0 : Int32) (i_p0 : 1 ≤ p0.toInt ∧ p0.toInt ≤ 8) :
    CtI l D cB cI cZ yX8_in wsX8_in { frames := 0, cells := 0, slots := 0, locals := 0 } [.int p0, .int 1, .int 8] [] sz 0 0
      (fun (r : Int32) (u : Unit) => r = 1)
      (fun u => []) := by
  refine mk_metI (cc := cX8_in) (maxL := 3) (ret := (some .boolean)) (by decide) rfl (Nat.le_of_ble_eq_true rfl) ?_
  intro p e s m below meth c A hx hb hr hml hts hown hlocks hin hP hK hN hD hA hS ls hl
  have hown : s.vm.findClass RX8 = some m.cls := hown
  have hl : lv_has ls 3 [(0, .int p0), (1, .int 1), (2, .int 8)] := hl
  refine lv_iload_n hx hb dX8_in_0 rfl (lv_at hl 0 rfl) ?_
  refine lv_iload_n hx hb dX8_in_1 rfl (lv_at hl 1 rfl) ?_
  refine lv_icmp_lt (tgt := 14) hx hb dX8_in_2 (by decide) (fun c => absurd ((ti_lt (x := p0) (y := 1) (a := p0.toInt) (b := 1) rfl (by decide)).mp c) (by omega)) (fun c => ?_)
  refine lv_iload_n hx hb dX8_in_5 rfl (lv_at hl 0 rfl) ?_
  refine lv_iload_n hx hb dX8_in_6 rfl (lv_at hl 2 rfl) ?_
  refine lv_icmp_gt (tgt := 14) hx hb dX8_in_7 (by decide) (fun c => absurd ((ti_lt (x := 8) (y := p0) (a := 8) (b := p0.toInt) (by decide) rfl).mp c) (by omega)) (fun c => ?_)
  refine lv_iconst (v := 1) hx hb dX8_in_10 (by decide) ?_
  refine lv_goto (tgt := 15) hx hb dX8_in_11 (by decide) ?_
  exact kr_z () hx hb hr rfl hlocks hP hD hS rfl dX8_in_15
