set_option maxHeartbeats 8000000 in
set_option maxRecDepth 100000 in
theorem whole_start {p : Program} {e : Env} {s : State} {m : MethodId} {below : List Frame} {meth : Method} {c : Code} (l : Launch) {b L : Nat} {xs : Nat → Int32} (hL : L ≤ 4) (C0 : lw_At p s m meth c b L xs) : W p l e room_1 s m #[Value.ref b] below meth c s.heap [] 0 0 (lw_Z below #[Value.ref b] s) (entryFrame m ([Value.ref b] : List Value).toArray 4) := by
  obtain ⟨hx, hb, hr, hml, hown, hts0, hX0, hbl, hlocks, hgv⟩ := id C0
  have hown : s.vm.findClass RL = some m.cls := hown
  have hts : ∀ w ∈ wsL_law, w.before #[Value.ref b] s = true := fun w h => hts0 w (wsL_law_in w h)
  obtain ⟨A, hAe⟩ : ∃ A : Nat → Prop, A = fun q => s.heap.size ≤ q := ⟨_, rfl⟩
  have hA : ∀ q : Nat, s.heap.size ≤ q → A q := fun q h => by rw [hAe]; exact h
  have hbA : ¬ A b := by rw [hAe]; exact Nat.not_le.mpr hbl
  have hX : va_X b L xs s s.heap := hX0
  obtain ⟨D, cB, cI, cZ, hK, hN⟩ := law_world hts0
  have hS : va_S A s.heap s.heap [] := va_S.rf
  have hP : va_P D vwCl [] s.heap := fun k q h => by simp at h
  have hD : va_D A [] := ⟨fun i j p q h => by simp at h, fun k q h => by simp at h⟩
  have hl := lv_entry ([.ref b]) (n := 4) (Nat.le_of_ble_eq_true rfl)
  rw [lg_entry_eq]
  generalize (lg_sl ([.ref b]) ++ List.replicate (4 - (lg_sl ([.ref b])).length) Slot.unset).toArray = ls at hl ⊢
  have hl : lv_has ls 4 [(0, .ref b)] := hl
  refine va_new (ci := 6) (fs := [.null, .null, .null, .null, .null, .null, .null, .int 0, .int 0]) (C := RX7) (T := TX7) (N := 9) hx hb hts inL_law_X7 tyX7 tyX7_ok hown (hts _ wdL_law_0) (hts _ wdL_law_1) (hts _ wdL_law_2) hK hP hD hS hA rfl (fun j hj => dvX7 j hj) (Nat.le_of_ble_eq_true rfl) (Nat.le_of_ble_eq_true rfl) dL_law_0 (fun q_1 H hP hD hS => ?_)
  have hP : va_P D vwCl [(q_1, .inr (6, [.null, .null, .null, .null, .null, .null, .null, .int 0, .int 0]))] H := hP
  have hD : va_D A [(q_1, .inr (6, [.null, .null, .null, .null, .null, .null, .null, .int 0, .int 0]))] := hD
  refine W.widen (k := 1) (n := 9) (Nat.le_of_ble_eq_true rfl) (Nat.le_of_ble_eq_true rfl) ?_
  refine lv_dup hx hb dL_law_3 rfl ?_
  refine kc_v (wr := []) (va_runI (As := []) (rest := [.ref q_1]) ⟨hx, hb, hml, hown, hts⟩ (K1_X7_init l D cB cI cZ _ q_1 ((.null)) ((.null)) ((.null)) ((.int 0)) ((.int 0))) (cwI 0 hts gL_law_X7_init rfl rfl rfl (hts _ wdL_law_2) (hts _ wdL_law_3) (hts _ wdL_law_4) rfl (by decide +kernel) ⟨Nat.le_of_ble_eq_true rfl, Nat.le_of_ble_eq_true rfl⟩) (pre_S (hP.sub [0] rfl) hK hN (hD.sub [0] (by decide) rfl)) rfl rfl hl.1 rfl (lv_room (Nat.le_of_ble_eq_true rfl)) dL_law_4 ⟨Nat.le_of_ble_eq_true rfl, Nat.le_of_ble_eq_true rfl⟩) hP hD hS hA [0] [] rfl rfl (by decide) (by decide) (fun  u H locs hw hP hD hS => ?_)
  obtain ⟨q_2, q_3, q_4, q_5, q_6, q_7, q_8, q_9, q_10, q_11, q_12, q_13, q_14, q_15, q_16, q_17, q_18, q_19, q_20, q_21, q_22, q_23⟩ := u
  have hP : va_P D vwCl [(q_1, .inr (6, [.ref q_2, .ref q_5, .ref q_8, .ref q_16, .ref q_20, .ref q_22, .ref q_23, .int 0, .int 0])), (q_2, .inr (1, [.ref q_3, .ref q_4, .int 0, .int 0, .int 0])), (q_3, .inl (cB, 65536, .inl zf)), (q_4, .inl (cI, 1024, .inl zf)), (q_5, .inr (2, [.ref q_6, .ref q_7, .int 0])), (q_6, .inl (cI, 300, .inl zf)), (q_7, .inl (cI, 300, .inl zf)), (q_8, .inr (3, [.ref q_5, .ref q_9, .ref q_10, .ref q_11, .ref q_12, .ref q_13, .ref q_14, .ref q_15, .int 0, .int 0, .int 0, .int 0, .int 1, .int 0])), (q_9, .inl (cB, 65536, .inl zf)), (q_10, .inl (cI, 64, .inl zf)), (q_11, .inl (cZ, 64, .inl zf)), (q_12, .inl (cI, 64, .inl zf)), (q_13, .inl (cI, 64, .inl zf)), (q_14, .inl (cI, 64, .inl zf)), (q_15, .inl (cI, 64, .inl zf)), (q_16, .inr (0, [.ref q_8, .ref q_5, .ref q_17, .ref q_18, .ref q_19, .int 0])), (q_17, .inl (cZ, 64, .inl zf)), (q_18, .inl (cI, 64, .inl zf)), (q_19, .inl (cI, 300, .inl zf)), (q_20, .inr (5, [.ref q_2, .ref q_8, .ref q_5, .ref q_21, .int 0, .int 0])), (q_21, .inl (cB, 1600, .inl zf)), (q_22, .inr (4, [.ref q_2, .ref q_8, .ref q_5, .ref q_20])), (q_23, .inl (cB, 100, .inl zf))] H := hP
  have hD : va_D A [(q_1, .inr (6, [.ref q_2, .ref q_5, .ref q_8, .ref q_16, .ref q_20, .ref q_22, .ref q_23, .int 0, .int 0])), (q_2, .inr (1, [.ref q_3, .ref q_4, .int 0, .int 0, .int 0])), (q_3, .inl (cB, 65536, .inl zf)), (q_4, .inl (cI, 1024, .inl zf)), (q_5, .inr (2, [.ref q_6, .ref q_7, .int 0])), (q_6, .inl (cI, 300, .inl zf)), (q_7, .inl (cI, 300, .inl zf)), (q_8, .inr (3, [.ref q_5, .ref q_9, .ref q_10, .ref q_11, .ref q_12, .ref q_13, .ref q_14, .ref q_15, .int 0, .int 0, .int 0, .int 0, .int 1, .int 0])), (q_9, .inl (cB, 65536, .inl zf)), (q_10, .inl (cI, 64, .inl zf)), (q_11, .inl (cZ, 64, .inl zf)), (q_12, .inl (cI, 64, .inl zf)), (q_13, .inl (cI, 64, .inl zf)), (q_14, .inl (cI, 64, .inl zf)), (q_15, .inl (cI, 64, .inl zf)), (q_16, .inr (0, [.ref q_8, .ref q_5, .ref q_17, .ref q_18, .ref q_19, .int 0])), (q_17, .inl (cZ, 64, .inl zf)), (q_18, .inl (cI, 64, .inl zf)), (q_19, .inl (cI, 300, .inl zf)), (q_20, .inr (5, [.ref q_2, .ref q_8, .ref q_5, .ref q_21, .int 0, .int 0])), (q_21, .inl (cB, 1600, .inl zf)), (q_22, .inr (4, [.ref q_2, .ref q_8, .ref q_5, .ref q_20])), (q_23, .inl (cB, 100, .inl zf))] := hD
  refine W.widen (k := 23) (n := 135255) (Nat.le_of_ble_eq_true rfl) (Nat.le_of_ble_eq_true rfl) ?_
  refine lv_astore_n (lv' := [(1, .ref q_1), (0, .ref b)]) hx hb dL_law_7 rfl hl (by decide) rfl (fun ls hl => ?_)
  refine va_new (ci := 7) (fs := [.int 0, .int 0, .null, .null, .null, .null, .int 0, .int 0, .int 0, .int 0, .int 0, .int 0, .int 0, .int 0, .int 0, .int 0, .null, .null, .int 0, .null, .null, .null, .null, .int 0, .null, .int 0, .null, .null, .null, .null]) (C := RX8) (T := TX8) (N := 30) hx hb hts inL_law_X8 tyX8 tyX8_ok hown (hts _ wdL_law_5) (hts _ wdL_law_6) (hts _ wdL_law_7) hK hP hD hS hA rfl (fun j hj => dvX8 j hj) (Nat.le_of_ble_eq_true rfl) (Nat.le_of_ble_eq_true rfl) dL_law_8 (fun q_24 H hP hD hS => ?_)
  have hP : va_P D vwCl [(q_1, .inr (6, [.ref q_2, .ref q_5, .ref q_8, .ref q_16, .ref q_20, .ref q_22, .ref q_23, .int 0, .int 0])), (q_2, .inr (1, [.ref q_3, .ref q_4, .int 0, .int 0, .int 0])), (q_3, .inl (cB, 65536, .inl zf)), (q_4, .inl (cI, 1024, .inl zf)), (q_5, .inr (2, [.ref q_6, .ref q_7, .int 0])), (q_6, .inl (cI, 300, .inl zf)), (q_7, .inl (cI, 300, .inl zf)), (q_8, .inr (3, [.ref q_5, .ref q_9, .ref q_10, .ref q_11, .ref q_12, .ref q_13, .ref q_14, .ref q_15, .int 0, .int 0, .int 0, .int 0, .int 1, .int 0])), (q_9, .inl (cB, 65536, .inl zf)), (q_10, .inl (cI, 64, .inl zf)), (q_11, .inl (cZ, 64, .inl zf)), (q_12, .inl (cI, 64, .inl zf)), (q_13, .inl (cI, 64, .inl zf)), (q_14, .inl (cI, 64, .inl zf)), (q_15, .inl (cI, 64, .inl zf)), (q_16, .inr (0, [.ref q_8, .ref q_5, .ref q_17, .ref q_18, .ref q_19, .int 0])), (q_17, .inl (cZ, 64, .inl zf)), (q_18, .inl (cI, 64, .inl zf)), (q_19, .inl (cI, 300, .inl zf)), (q_20, .inr (5, [.ref q_2, .ref q_8, .ref q_5, .ref q_21, .int 0, .int 0])), (q_21, .inl (cB, 1600, .inl zf)), (q_22, .inr (4, [.ref q_2, .ref q_8, .ref q_5, .ref q_20])), (q_23, .inl (cB, 100, .inl zf)), (q_24, .inr (7, [.int 0, .int 0, .null, .null, .null, .null, .int 0, .int 0, .int 0, .int 0, .int 0, .int 0, .int 0, .int 0, .int 0, .int 0, .null, .null, .int 0, .null, .null, .null, .null, .int 0, .null, .int 0, .null, .null, .null, .null]))] H := hP
  have hD : va_D A [(q_1, .inr (6, [.ref q_2, .ref q_5, .ref q_8, .ref q_16, .ref q_20, .ref q_22, .ref q_23, .int 0, .int 0])), (q_2, .inr (1, [.ref q_3, .ref q_4, .int 0, .int 0, .int 0])), (q_3, .inl (cB, 65536, .inl zf)), (q_4, .inl (cI, 1024, .inl zf)), (q_5, .inr (2, [.ref q_6, .ref q_7, .int 0])), (q_6, .inl (cI, 300, .inl zf)), (q_7, .inl (cI, 300, .inl zf)), (q_8, .inr (3, [.ref q_5, .ref q_9, .ref q_10, .ref q_11, .ref q_12, .ref q_13, .ref q_14, .ref q_15, .int 0, .int 0, .int 0, .int 0, .int 1, .int 0])), (q_9, .inl (cB, 65536, .inl zf)), (q_10, .inl (cI, 64, .inl zf)), (q_11, .inl (cZ, 64, .inl zf)), (q_12, .inl (cI, 64, .inl zf)), (q_13, .inl (cI, 64, .inl zf)), (q_14, .inl (cI, 64, .inl zf)), (q_15, .inl (cI, 64, .inl zf)), (q_16, .inr (0, [.ref q_8, .ref q_5, .ref q_17, .ref q_18, .ref q_19, .int 0])), (q_17, .inl (cZ, 64, .inl zf)), (q_18, .inl (cI, 64, .inl zf)), (q_19, .inl (cI, 300, .inl zf)), (q_20, .inr (5, [.ref q_2, .ref q_8, .ref q_5, .ref q_21, .int 0, .int 0])), (q_21, .inl (cB, 1600, .inl zf)), (q_22, .inr (4, [.ref q_2, .ref q_8, .ref q_5, .ref q_20])), (q_23, .inl (cB, 100, .inl zf)), (q_24, .inr (7, [.int 0, .int 0, .null, .null, .null, .null, .int 0, .int 0, .int 0, .int 0, .int 0, .int 0, .int 0, .int 0, .int 0, .int 0, .null, .null, .int 0, .null, .null, .null, .null, .int 0, .null, .int 0, .null, .null, .null, .null]))] := hD
  refine W.widen (k := 24) (n := 135285) (Nat.le_of_ble_eq_true rfl) (Nat.le_of_ble_eq_true rfl) ?_
  refine lv_dup hx hb dL_law_11 rfl ?_
  refine kc_v (wr := [(q_1, .inr (6, [.ref q_2, .ref q_5, .ref q_8, .ref q_16, .ref q_20, .ref q_22, .ref q_23, .int 0, .int 0])), (q_2, .inr (1, [.ref q_3, .ref q_4, .int 0, .int 0, .int 0])), (q_3, .inl (cB, 65536, .inl zf)), (q_4, .inl (cI, 1024, .inl zf)), (q_5, .inr (2, [.ref q_6, .ref q_7, .int 0])), (q_6, .inl (cI, 300, .inl zf)), (q_7, .inl (cI, 300, .inl zf)), (q_8, .inr (3, [.ref q_5, .ref q_9, .ref q_10, .ref q_11, .ref q_12, .ref q_13, .ref q_14, .ref q_15, .int 0, .int 0, .int 0, .int 0, .int 1, .int 0])), (q_9, .inl (cB, 65536, .inl zf)), (q_10, .inl (cI, 64, .inl zf)), (q_11, .inl (cZ, 64, .inl zf)), (q_12, .inl (cI, 64, .inl zf)), (q_13, .inl (cI, 64, .inl zf)), (q_14, .inl (cI, 64, .inl zf)), (q_15, .inl (cI, 64, .inl zf)), (q_16, .inr (0, [.ref q_8, .ref q_5, .ref q_17, .ref q_18, .ref q_19, .int 0])), (q_17, .inl (cZ, 64, .inl zf)), (q_18, .inl (cI, 64, .inl zf)), (q_19, .inl (cI, 300, .inl zf)), (q_20, .inr (5, [.ref q_2, .ref q_8, .ref q_5, .ref q_21, .int 0, .int 0])), (q_21, .inl (cB, 1600, .inl zf)), (q_22, .inr (4, [.ref q_2, .ref q_8, .ref q_5, .ref q_20])), (q_23, .inl (cB, 100, .inl zf))]) (va_runI (As := []) (rest := [.ref q_24]) ⟨hx, hb, hml, hown, hts⟩ (K8_X8_init l D cB cI cZ _ q_24 ((.int 0)) ((.int 0)) ((.null)) ((.null)) ((.null)) ((.null)) ((.int 0)) ((.int 0)) ((.int 0)) ((.int 0)) ((.int 0)) ((.int 0)) ((.int 0)) ((.int 0)) ((.int 0)) ((.int 0)) ((.null)) ((.null)) ((.int 0)) ((.null)) ((.null)) ((.null)) ((.null)) ((.int 0)) ((.null)) ((.int 0)) ((.null)) ((.null)) ((.null)) ((.null))) (cwI 0 hts gL_law_X8_init rfl rfl rfl (hts _ wdL_law_7) (hts _ wdL_law_8) (hts _ wdL_law_9) rfl (by decide +kernel) ⟨Nat.le_of_ble_eq_true rfl, Nat.le_of_ble_eq_true rfl⟩) (pre_S (hP.sub [23] rfl) hK hN (hD.sub [23] (by decide) rfl)) rfl rfl hl.1 rfl (lv_room (Nat.le_of_ble_eq_true rfl)) dL_law_12 ⟨Nat.le_of_ble_eq_true rfl, Nat.le_of_ble_eq_true rfl⟩) hP hD hS hA [23] [0, 1, 2, 3, 4, 5, 6, 7, 8, 9, 10, 11, 12, 13, 14, 15, 16, 17, 18, 19, 20, 21, 22] rfl rfl (by decide) (by decide) (fun  u H locs hw hP hD hS => ?_)
  obtain ⟨q_25, q_26, q_27, q_28, q_29, q_30, q_31, q_32, q_33, q_34, q_35, q_36, q_37, q_38, q_39⟩ := u
  have hP : va_P D vwCl [(q_1, .inr (6, [.ref q_2, .ref q_5, .ref q_8, .ref q_16, .ref q_20, .ref q_22, .ref q_23, .int 0, .int 0])), (q_2, .inr (1, [.ref q_3, .ref q_4, .int 0, .int 0, .int 0])), (q_3, .inl (cB, 65536, .inl zf)), (q_4, .inl (cI, 1024, .inl zf)), (q_5, .inr (2, [.ref q_6, .ref q_7, .int 0])), (q_6, .inl (cI, 300, .inl zf)), (q_7, .inl (cI, 300, .inl zf)), (q_8, .inr (3, [.ref q_5, .ref q_9, .ref q_10, .ref q_11, .ref q_12, .ref q_13, .ref q_14, .ref q_15, .int 0, .int 0, .int 0, .int 0, .int 1, .int 0])), (q_9, .inl (cB, 65536, .inl zf)), (q_10, .inl (cI, 64, .inl zf)), (q_11, .inl (cZ, 64, .inl zf)), (q_12, .inl (cI, 64, .inl zf)), (q_13, .inl (cI, 64, .inl zf)), (q_14, .inl (cI, 64, .inl zf)), (q_15, .inl (cI, 64, .inl zf)), (q_16, .inr (0, [.ref q_8, .ref q_5, .ref q_17, .ref q_18, .ref q_19, .int 0])), (q_17, .inl (cZ, 64, .inl zf)), (q_18, .inl (cI, 64, .inl zf)), (q_19, .inl (cI, 300, .inl zf)), (q_20, .inr (5, [.ref q_2, .ref q_8, .ref q_5, .ref q_21, .int 0, .int 0])), (q_21, .inl (cB, 1600, .inl zf)), (q_22, .inr (4, [.ref q_2, .ref q_8, .ref q_5, .ref q_20])), (q_23, .inl (cB, 100, .inl zf)), (q_24, .inr (7, [.int 0, .int 0, .ref q_25, .ref q_26, .ref q_27, .ref q_28, .int 0, .int 0, .int 0, .int 1, .int 0, .int 0, .int 0, .int 0, .int 0, .int 0, .ref q_29, .ref q_30, .int 0, .ref q_31, .ref q_32, .ref q_33, .ref q_34, .int 0, .ref q_35, .int 0, .ref q_36, .ref q_37, .ref q_38, .ref q_39])), (q_25, .inl (cB, 65536, .inl zf)), (q_26, .inl (cB, 65536, .inl zf)), (q_27, .inl (cZ, 65536, .inl zf)), (q_28, .inl (cI, 64, .inl zf)), (q_29, .inl (cI, 300, .inl zf)), (q_30, .inl (cI, 300, .inl zf)), (q_31, .inl (cI, 128, .inl zf)), (q_32, .inl (cI, 128, .inl zf)), (q_33, .inl (cI, 128, .inl zf)), (q_34, .inl (cB, 100, .inl zf)), (q_35, .inl (cB, 4096, .inl zf)), (q_36, .inl (cI, 64, .inl zf)), (q_37, .inl (cB, 100, .inl zf)), (q_38, .inl (cZ, 64, .inl zf)), (q_39, .inl (cI, 300, .inl zf))] H := hP
  have hD : va_D A [(q_1, .inr (6, [.ref q_2, .ref q_5, .ref q_8, .ref q_16, .ref q_20, .ref q_22, .ref q_23, .int 0, .int 0])), (q_2, .inr (1, [.ref q_3, .ref q_4, .int 0, .int 0, .int 0])), (q_3, .inl (cB, 65536, .inl zf)), (q_4, .inl (cI, 1024, .inl zf)), (q_5, .inr (2, [.ref q_6, .ref q_7, .int 0])), (q_6, .inl (cI, 300, .inl zf)), (q_7, .inl (cI, 300, .inl zf)), (q_8, .inr (3, [.ref q_5, .ref q_9, .ref q_10, .ref q_11, .ref q_12, .ref q_13, .ref q_14, .ref q_15, .int 0, .int 0, .int 0, .int 0, .int 1, .int 0])), (q_9, .inl (cB, 65536, .inl zf)), (q_10, .inl (cI, 64, .inl zf)), (q_11, .inl (cZ, 64, .inl zf)), (q_12, .inl (cI, 64, .inl zf)), (q_13, .inl (cI, 64, .inl zf)), (q_14, .inl (cI, 64, .inl zf)), (q_15, .inl (cI, 64, .inl zf)), (q_16, .inr (0, [.ref q_8, .ref q_5, .ref q_17, .ref q_18, .ref q_19, .int 0])), (q_17, .inl (cZ, 64, .inl zf)), (q_18, .inl (cI, 64, .inl zf)), (q_19, .inl (cI, 300, .inl zf)), (q_20, .inr (5, [.ref q_2, .ref q_8, .ref q_5, .ref q_21, .int 0, .int 0])), (q_21, .inl (cB, 1600, .inl zf)), (q_22, .inr (4, [.ref q_2, .ref q_8, .ref q_5, .ref q_20])), (q_23, .inl (cB, 100, .inl zf)), (q_24, .inr (7, [.int 0, .int 0, .ref q_25, .ref q_26, .ref q_27, .ref q_28, .int 0, .int 0, .int 0, .int 1, .int 0, .int 0, .int 0, .int 0, .int 0, .int 0, .ref q_29, .ref q_30, .int 0, .ref q_31, .ref q_32, .ref q_33, .ref q_34, .int 0, .ref q_35, .int 0, .ref q_36, .ref q_37, .ref q_38, .ref q_39])), (q_25, .inl (cB, 65536, .inl zf)), (q_26, .inl (cB, 65536, .inl zf)), (q_27, .inl (cZ, 65536, .inl zf)), (q_28, .inl (cI, 64, .inl zf)), (q_29, .inl (cI, 300, .inl zf)), (q_30, .inl (cI, 300, .inl zf)), (q_31, .inl (cI, 128, .inl zf)), (q_32, .inl (cI, 128, .inl zf)), (q_33, .inl (cI, 128, .inl zf)), (q_34, .inl (cB, 100, .inl zf)), (q_35, .inl (cB, 4096, .inl zf)), (q_36, .inl (cI, 64, .inl zf)), (q_37, .inl (cB, 100, .inl zf)), (q_38, .inl (cZ, 64, .inl zf)), (q_39, .inl (cI, 300, .inl zf))] := hD
  refine W.widen (k := 39) (n := 337665) (Nat.le_of_ble_eq_true rfl) (Nat.le_of_ble_eq_true rfl) ?_
  refine lv_astore_n (lv' := [(2, .ref q_24), (1, .ref q_1), (0, .ref b)]) hx hb dL_law_15 rfl hl (by decide) rfl (fun ls hl => ?_)
  refine lv_iconst (v := 0) hx hb dL_law_16 (by decide) ?_
  refine lv_istore_n (lv' := [(3, .int 0), (2, .ref q_24), (1, .ref q_1), (0, .ref b)]) hx hb dL_law_17 rfl hl (by decide) rfl (fun ls hl => ?_)
  have hLc : L = 0 ∨ L = 1 ∨ L = 2 ∨ L = 3 ∨ L = 4 := by omega
  rcases hLc with hLc | hLc | hLc | hLc | hLc
  · subst hLc
    refine lv_iload_n hx hb dL_law_18 rfl (lv_at hl 0 rfl) ?_
    refine lv_aload_n hx hb dL_law_19 rfl (lv_at hl 3 rfl) ?_
    refine va_slen hx hb hX hbl hbA hS dL_law_20 ?_
    refine lv_topi (fun z_40 ez_40 => ?_)
    obtain rfl : z_40 = 0 := ez_40.trans (by decide)
    refine lv_iconst (v := 4) hx hb dL_law_21 (by decide) ?_
    refine lv_isub hx hb dL_law_22 ?_
    refine lv_topi (fun z_41 ez_41 => ?_)
    obtain rfl : z_41 = (-4) := ez_41.trans (by decide)
    refine lv_icmp_gt (tgt := 566) hx hb dL_law_23 (by decide) (fun c => ?_) (fun c => absurd (by decide) c)
    refine lv_iconst (v := 1) hx hb dL_law_566 (by decide) ?_
    refine va_forget (fun q hq => by have h9 := hS.2.2 q hq; rw [hAe] at h9; exact h9) ?_
    refine W.widen (k := 600000) (n := 7302250) (Nat.le_of_ble_eq_true rfl) (Nat.le_of_ble_eq_true rfl) ?_
    exact lw_ret hx hb hr hlocks dL_law_567
  · subst hLc
    refine lv_iload_n hx hb dL_law_18 rfl (lv_at hl 0 rfl) ?_
    refine lv_aload_n hx hb dL_law_19 rfl (lv_at hl 3 rfl) ?_
    refine va_slen hx hb hX hbl hbA hS dL_law_20 ?_
    refine lv_topi (fun z_42 ez_42 => ?_)
    obtain rfl : z_42 = 1 := ez_42.trans (by decide)
    refine lv_iconst (v := 4) hx hb dL_law_21 (by decide) ?_
    refine lv_isub hx hb dL_law_22 ?_
    refine lv_topi (fun z_43 ez_43 => ?_)
    obtain rfl : z_43 = (-3) := ez_43.trans (by decide)
    refine lv_icmp_gt (tgt := 566) hx hb dL_law_23 (by decide) (fun c => ?_) (fun c => absurd (by decide) c)
    refine lv_iconst (v := 1) hx hb dL_law_566 (by decide) ?_
    refine va_forget (fun q hq => by have h9 := hS.2.2 q hq; rw [hAe] at h9; exact h9) ?_
    refine W.widen (k := 600000) (n := 7302250) (Nat.le_of_ble_eq_true rfl) (Nat.le_of_ble_eq_true rfl) ?_
    exact lw_ret hx hb hr hlocks dL_law_567
  · subst hLc
    refine lv_iload_n hx hb dL_law_18 rfl (lv_at hl 0 rfl) ?_
    refine lv_aload_n hx hb dL_law_19 rfl (lv_at hl 3 rfl) ?_
    refine va_slen hx hb hX hbl hbA hS dL_law_20 ?_
    refine lv_topi (fun z_44 ez_44 => ?_)
    obtain rfl : z_44 = 2 := ez_44.trans (by decide)
    refine lv_iconst (v := 4) hx hb dL_law_21 (by decide) ?_
    refine lv_isub hx hb dL_law_22 ?_
    refine lv_topi (fun z_45 ez_45 => ?_)
    obtain rfl : z_45 = (-2) := ez_45.trans (by decide)
    refine lv_icmp_gt (tgt := 566) hx hb dL_law_23 (by decide) (fun c => ?_) (fun c => absurd (by decide) c)
    refine lv_iconst (v := 1) hx hb dL_law_566 (by decide) ?_
    refine va_forget (fun q hq => by have h9 := hS.2.2 q hq; rw [hAe] at h9; exact h9) ?_
    refine W.widen (k := 600000) (n := 7302250) (Nat.le_of_ble_eq_true rfl) (Nat.le_of_ble_eq_true rfl) ?_
    exact lw_ret hx hb hr hlocks dL_law_567
  · subst hLc
    refine lv_iload_n hx hb dL_law_18 rfl (lv_at hl 0 rfl) ?_
    refine lv_aload_n hx hb dL_law_19 rfl (lv_at hl 3 rfl) ?_
    refine va_slen hx hb hX hbl hbA hS dL_law_20 ?_
    refine lv_topi (fun z_46 ez_46 => ?_)
    obtain rfl : z_46 = 3 := ez_46.trans (by decide)
    refine lv_iconst (v := 4) hx hb dL_law_21 (by decide) ?_
    refine lv_isub hx hb dL_law_22 ?_
    refine lv_topi (fun z_47 ez_47 => ?_)
    obtain rfl : z_47 = (-1) := ez_47.trans (by decide)
    refine lv_icmp_gt (tgt := 566) hx hb dL_law_23 (by decide) (fun c => ?_) (fun c => absurd (by decide) c)
    refine lv_iconst (v := 1) hx hb dL_law_566 (by decide) ?_
    refine va_forget (fun q hq => by have h9 := hS.2.2 q hq; rw [hAe] at h9; exact h9) ?_
    refine W.widen (k := 600000) (n := 7302250) (Nat.le_of_ble_eq_true rfl) (Nat.le_of_ble_eq_true rfl) ?_
    exact lw_ret hx hb hr hlocks dL_law_567
  · subst hLc
    obtain ⟨x0, ex0⟩ : ∃ z, z = xs 0 := ⟨_, rfl⟩
    obtain ⟨x1, ex1⟩ : ∃ z, z = xs 1 := ⟨_, rfl⟩
    obtain ⟨x2, ex2⟩ : ∃ z, z = xs 2 := ⟨_, rfl⟩
    obtain ⟨x3, ex3⟩ : ∃ z, z = xs 3 := ⟨_, rfl⟩
    refine lv_iload_n hx hb dL_law_18 rfl (lv_at hl 0 rfl) ?_
    refine lv_aload_n hx hb dL_law_19 rfl (lv_at hl 3 rfl) ?_
    refine va_slen hx hb hX hbl hbA hS dL_law_20 ?_
    refine lv_topi (fun z_48 ez_48 => ?_)
    obtain rfl : z_48 = 4 := ez_48.trans (by decide)
    refine lv_iconst (v := 4) hx hb dL_law_21 (by decide) ?_
    refine lv_isub hx hb dL_law_22 ?_
    refine lv_topi (fun z_49 ez_49 => ?_)
    obtain rfl : z_49 = 0 := ez_49.trans (by decide)
    refine lv_icmp_gt (tgt := 566) hx hb dL_law_23 (by decide) (fun c => absurd c (by decide)) (fun c => ?_)
    refine lv_aload_n hx hb dL_law_26 rfl (lv_at hl 3 rfl) ?_
    refine lv_iload_n hx hb dL_law_27 rfl (lv_at hl 0 rfl) ?_
    refine va_sld hx hb hX hbl hbA hS (ti_in (a := 0) (by decide) (by decide) (by decide)) dL_law_28 ?_
    refine lv_topi (fun z_50 ez_50 => ?_)
    obtain rfl : x0 = z_50 := ((ez_50.trans (congrArg xs (show Int32.toNatClampNeg 0 = 0 by decide))).trans ex0.symm).symm
    refine lv_bipush (v := 15) hx hb dL_law_29 (by decide) ?_
    refine lv_iand hx hb dL_law_31 ?_
    refine lv_topi (fun x_51 ex_51 => ?_)
    obtain ⟨klx_51, khx_51⟩ : 0 ≤ x_51.toInt ∧ x_51.toInt ≤ 15 := by rw [ex_51]; exact ti_and15 _
    have k_52 : x_51.toInt = 0 ∨ x_51.toInt = 1 ∨ x_51.toInt = 2 ∨ x_51.toInt = 3 ∨ x_51.toInt = 4 ∨ x_51.toInt = 5 ∨ x_51.toInt = 6 ∨ x_51.toInt = 7 ∨ x_51.toInt = 8 ∨ x_51.toInt = 9 ∨ x_51.toInt = 10 ∨ x_51.toInt = 11 ∨ x_51.toInt = 12 ∨ x_51.toInt = 13 ∨ x_51.toInt = 14 ∨ x_51.toInt = 15 := by omega
    rcases k_52 with k_52 | k_52 | k_52 | k_52 | k_52 | k_52 | k_52 | k_52 | k_52 | k_52 | k_52 | k_52 | k_52 | k_52 | k_52 | k_52
    · skip
      obtain rfl : x_51 = 0 := ti_inj (a := 0) (by decide) k_52
      refine lv_tableIn (tgt := 112) (off := 80) hx hb dL_law_32 (by decide) (by decide) (by decide) (by decide) ?_
      exact law_0 l C0 D cB cI cZ x1 x2 x3 ex1 ex2 ex3 q_1 q_2 q_3 q_4 q_5 q_6 q_7 q_8 q_9 q_10 q_11 q_12 q_13 q_14 q_15 q_16 q_17 q_18 q_19 q_20 q_21 q_22 q_23 q_24 q_25 q_26 q_27 q_28 q_29 q_30 q_31 q_32 q_33 q_34 q_35 q_36 q_37 q_38 q_39 _ _ A hAe hK hN hP hD hS _ (lv_sub hl [0, 1, 2, 3] rfl)
    · skip
      obtain rfl : x_51 = 1 := ti_inj (a := 1) (by decide) k_52
      refine lv_tableIn (tgt := 175) (off := 143) hx hb dL_law_32 (by decide) (by decide) (by decide) (by decide) ?_
      exact law_1 l C0 D cB cI cZ x1 x2 x3 ex1 ex2 ex3 q_1 q_2 q_3 q_4 q_5 q_6 q_7 q_8 q_9 q_10 q_11 q_12 q_13 q_14 q_15 q_16 q_17 q_18 q_19 q_20 q_21 q_22 q_23 q_24 q_25 q_26 q_27 q_28 q_29 q_30 q_31 q_32 q_33 q_34 q_35 q_36 q_37 q_38 q_39 _ _ A hAe hK hN hP hD hS _ (lv_sub hl [0, 1, 2, 3] rfl)
    · skip
      obtain rfl : x_51 = 2 := ti_inj (a := 2) (by decide) k_52
      refine lv_tableIn (tgt := 198) (off := 166) hx hb dL_law_32 (by decide) (by decide) (by decide) (by decide) ?_
      exact law_2 l C0 D cB cI cZ x1 x2 x3 ex1 ex2 ex3 q_1 q_2 q_3 q_4 q_5 q_6 q_7 q_8 q_9 q_10 q_11 q_12 q_13 q_14 q_15 q_16 q_17 q_18 q_19 q_20 q_21 q_22 q_23 q_24 q_25 q_26 q_27 q_28 q_29 q_30 q_31 q_32 q_33 q_34 q_35 q_36 q_37 q_38 q_39 _ _ A hAe hK hN hP hD hS _ (lv_sub hl [0, 1, 2, 3] rfl)
    · skip
      obtain rfl : x_51 = 3 := ti_inj (a := 3) (by decide) k_52
      refine lv_tableIn (tgt := 221) (off := 189) hx hb dL_law_32 (by decide) (by decide) (by decide) (by decide) ?_
      exact law_3 l C0 D cB cI cZ x1 x2 x3 ex1 ex2 ex3 q_1 q_2 q_3 q_4 q_5 q_6 q_7 q_8 q_9 q_10 q_11 q_12 q_13 q_14 q_15 q_16 q_17 q_18 q_19 q_20 q_21 q_22 q_23 q_24 q_25 q_26 q_27 q_28 q_29 q_30 q_31 q_32 q_33 q_34 q_35 q_36 q_37 q_38 q_39 _ _ A hAe hK hN hP hD hS _ (lv_sub hl [0, 1, 2, 3] rfl)
    · skip
      obtain rfl : x_51 = 4 := ti_inj (a := 4) (by decide) k_52
      refine lv_tableIn (tgt := 244) (off := 212) hx hb dL_law_32 (by decide) (by decide) (by decide) (by decide) ?_
      exact law_4 l C0 D cB cI cZ x1 x2 x3 ex1 ex2 ex3 q_1 q_2 q_3 q_4 q_5 q_6 q_7 q_8 q_9 q_10 q_11 q_12 q_13 q_14 q_15 q_16 q_17 q_18 q_19 q_20 q_21 q_22 q_23 q_24 q_25 q_26 q_27 q_28 q_29 q_30 q_31 q_32 q_33 q_34 q_35 q_36 q_37 q_38 q_39 _ _ A hAe hK hN hP hD hS _ (lv_sub hl [0, 1, 2, 3] rfl)
    · skip
      obtain rfl : x_51 = 5 := ti_inj (a := 5) (by decide) k_52
      refine lv_tableIn (tgt := 277) (off := 245) hx hb dL_law_32 (by decide) (by decide) (by decide) (by decide) ?_
      exact law_5 l C0 D cB cI cZ x1 x2 x3 ex1 ex2 ex3 q_1 q_2 q_3 q_4 q_5 q_6 q_7 q_8 q_9 q_10 q_11 q_12 q_13 q_14 q_15 q_16 q_17 q_18 q_19 q_20 q_21 q_22 q_23 q_24 q_25 q_26 q_27 q_28 q_29 q_30 q_31 q_32 q_33 q_34 q_35 q_36 q_37 q_38 q_39 _ _ A hAe hK hN hP hD hS _ (lv_sub hl [0, 1, 2, 3] rfl)
    · skip
      obtain rfl : x_51 = 6 := ti_inj (a := 6) (by decide) k_52
      refine lv_tableIn (tgt := 290) (off := 258) hx hb dL_law_32 (by decide) (by decide) (by decide) (by decide) ?_
      exact law_6 l C0 D cB cI cZ x1 x2 x3 ex1 ex2 ex3 q_1 q_2 q_3 q_4 q_5 q_6 q_7 q_8 q_9 q_10 q_11 q_12 q_13 q_14 q_15 q_16 q_17 q_18 q_19 q_20 q_21 q_22 q_23 q_24 q_25 q_26 q_27 q_28 q_29 q_30 q_31 q_32 q_33 q_34 q_35 q_36 q_37 q_38 q_39 _ _ A hAe hK hN hP hD hS _ (lv_sub hl [0, 1, 2, 3] rfl)
    · skip
      obtain rfl : x_51 = 7 := ti_inj (a := 7) (by decide) k_52
      refine lv_tableIn (tgt := 303) (off := 271) hx hb dL_law_32 (by decide) (by decide) (by decide) (by decide) ?_
      exact law_7 l C0 D cB cI cZ x1 x2 x3 ex1 ex2 ex3 q_1 q_2 q_3 q_4 q_5 q_6 q_7 q_8 q_9 q_10 q_11 q_12 q_13 q_14 q_15 q_16 q_17 q_18 q_19 q_20 q_21 q_22 q_23 q_24 q_25 q_26 q_27 q_28 q_29 q_30 q_31 q_32 q_33 q_34 q_35 q_36 q_37 q_38 q_39 _ _ A hAe hK hN hP hD hS _ (lv_sub hl [0, 1, 2, 3] rfl)
    · skip
      obtain rfl : x_51 = 8 := ti_inj (a := 8) (by decide) k_52
      refine lv_tableIn (tgt := 326) (off := 294) hx hb dL_law_32 (by decide) (by decide) (by decide) (by decide) ?_
      exact law_8 l C0 D cB cI cZ x1 x2 x3 ex1 ex2 ex3 q_1 q_2 q_3 q_4 q_5 q_6 q_7 q_8 q_9 q_10 q_11 q_12 q_13 q_14 q_15 q_16 q_17 q_18 q_19 q_20 q_21 q_22 q_23 q_24 q_25 q_26 q_27 q_28 q_29 q_30 q_31 q_32 q_33 q_34 q_35 q_36 q_37 q_38 q_39 _ _ A hAe hK hN hP hD hS _ (lv_sub hl [0, 1, 2, 3] rfl)
    · skip
      obtain rfl : x_51 = 9 := ti_inj (a := 9) (by decide) k_52
      refine lv_tableIn (tgt := 349) (off := 317) hx hb dL_law_32 (by decide) (by decide) (by decide) (by decide) ?_
      exact law_9 l C0 D cB cI cZ x1 x2 x3 ex1 ex2 ex3 q_1 q_2 q_3 q_4 q_5 q_6 q_7 q_8 q_9 q_10 q_11 q_12 q_13 q_14 q_15 q_16 q_17 q_18 q_19 q_20 q_21 q_22 q_23 q_24 q_25 q_26 q_27 q_28 q_29 q_30 q_31 q_32 q_33 q_34 q_35 q_36 q_37 q_38 q_39 _ _ A hAe hK hN hP hD hS _ (lv_sub hl [0, 1, 2, 3] rfl)
    · skip
      obtain rfl : x_51 = 10 := ti_inj (a := 10) (by decide) k_52
      refine lv_tableIn (tgt := 382) (off := 350) hx hb dL_law_32 (by decide) (by decide) (by decide) (by decide) ?_
      exact law_10 l C0 D cB cI cZ x1 x2 x3 ex1 ex2 ex3 q_1 q_2 q_3 q_4 q_5 q_6 q_7 q_8 q_9 q_10 q_11 q_12 q_13 q_14 q_15 q_16 q_17 q_18 q_19 q_20 q_21 q_22 q_23 q_24 q_25 q_26 q_27 q_28 q_29 q_30 q_31 q_32 q_33 q_34 q_35 q_36 q_37 q_38 q_39 _ _ A hAe hK hN hP hD hS _ (lv_sub hl [0, 1, 2, 3] rfl)
    · skip
      obtain rfl : x_51 = 11 := ti_inj (a := 11) (by decide) k_52
      refine lv_tableIn (tgt := 395) (off := 363) hx hb dL_law_32 (by decide) (by decide) (by decide) (by decide) ?_
      exact law_11 l C0 D cB cI cZ x1 x2 x3 ex1 ex2 ex3 q_1 q_2 q_3 q_4 q_5 q_6 q_7 q_8 q_9 q_10 q_11 q_12 q_13 q_14 q_15 q_16 q_17 q_18 q_19 q_20 q_21 q_22 q_23 q_24 q_25 q_26 q_27 q_28 q_29 q_30 q_31 q_32 q_33 q_34 q_35 q_36 q_37 q_38 q_39 _ _ A hAe hK hN hP hD hS _ (lv_sub hl [0, 1, 2, 3] rfl)
    · skip
      obtain rfl : x_51 = 12 := ti_inj (a := 12) (by decide) k_52
      refine lv_tableIn (tgt := 428) (off := 396) hx hb dL_law_32 (by decide) (by decide) (by decide) (by decide) ?_
      exact law_12 l C0 D cB cI cZ x1 x2 x3 ex1 ex2 ex3 q_1 q_2 q_3 q_4 q_5 q_6 q_7 q_8 q_9 q_10 q_11 q_12 q_13 q_14 q_15 q_16 q_17 q_18 q_19 q_20 q_21 q_22 q_23 q_24 q_25 q_26 q_27 q_28 q_29 q_30 q_31 q_32 q_33 q_34 q_35 q_36 q_37 q_38 q_39 _ _ A hAe hK hN hP hD hS _ (lv_sub hl [0, 1, 2, 3] rfl)
    · skip
      obtain rfl : x_51 = 13 := ti_inj (a := 13) (by decide) k_52
      refine lv_tableIn (tgt := 471) (off := 439) hx hb dL_law_32 (by decide) (by decide) (by decide) (by decide) ?_
      exact law_13 l C0 D cB cI cZ x1 x2 x3 ex1 ex2 ex3 q_1 q_2 q_3 q_4 q_5 q_6 q_7 q_8 q_9 q_10 q_11 q_12 q_13 q_14 q_15 q_16 q_17 q_18 q_19 q_20 q_21 q_22 q_23 q_24 q_25 q_26 q_27 q_28 q_29 q_30 q_31 q_32 q_33 q_34 q_35 q_36 q_37 q_38 q_39 _ _ A hAe hK hN hP hD hS _ (lv_sub hl [0, 1, 2, 3] rfl)
    · skip
      obtain rfl : x_51 = 14 := ti_inj (a := 14) (by decide) k_52
      refine lv_tableIn (tgt := 504) (off := 472) hx hb dL_law_32 (by decide) (by decide) (by decide) (by decide) ?_
      exact law_14 l C0 D cB cI cZ x1 x2 x3 ex1 ex2 ex3 q_1 q_2 q_3 q_4 q_5 q_6 q_7 q_8 q_9 q_10 q_11 q_12 q_13 q_14 q_15 q_16 q_17 q_18 q_19 q_20 q_21 q_22 q_23 q_24 q_25 q_26 q_27 q_28 q_29 q_30 q_31 q_32 q_33 q_34 q_35 q_36 q_37 q_38 q_39 _ _ A hAe hK hN hP hD hS _ (lv_sub hl [0, 1, 2, 3] rfl)
    · skip
      obtain rfl : x_51 = 15 := ti_inj (a := 15) (by decide) k_52
      refine lv_tableIn (tgt := 537) (off := 505) hx hb dL_law_32 (by decide) (by decide) (by decide) (by decide) ?_
      exact law_15 l C0 D cB cI cZ x1 x2 x3 ex1 ex2 ex3 q_1 q_2 q_3 q_4 q_5 q_6 q_7 q_8 q_9 q_10 q_11 q_12 q_13 q_14 q_15 q_16 q_17 q_18 q_19 q_20 q_21 q_22 q_23 q_24 q_25 q_26 q_27 q_28 q_29 q_30 q_31 q_32 q_33 q_34 q_35 q_36 q_37 q_38 q_39 _ _ A hAe hK hN hP hD hS _ (lv_sub hl [0, 1, 2, 3] rfl)
