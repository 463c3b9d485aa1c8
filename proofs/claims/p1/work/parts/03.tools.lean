/-- the row of zeros -/
def zf : Nat → Int32 := fun _ => 0
theorem zf_at (k : Nat) : zf k = 0 := rfl
theorem zf_upd (k : Nat) : upd zf k 0 = zf := funext fun j => by
  unfold upd zf
  split <;> rfl
theorem zf_updB (k : Nat) : upd zf k (vp_nar .byte 0) = zf := zf_upd k
theorem zf_updZ (k : Nat) : upd zf k (vp_nar .boolean 0) = zf := zf_upd k
/-- every value of the row is a byte -/
def FB (f : Nat → Int32) : Prop := ∀ k, fits .byte (.int (f k)) = true
theorem FB_zf : FB zf := fun _ => rfl
theorem FB_upd {f : Nat → Int32} (h : FB f) (k : Nat) (x : Int32) : FB (upd f k (vp_nar .byte x)) := fun j => by
  unfold upd
  split
  · rw [vp_nar_byte]; exact pk_fb x
  · exact h j
theorem FB_cpy {f g : Nat → Int32} (hf : FB f) (hg : FB g) (a b n : Nat) : FB (va_cpy f g a b n) := fun j => by
  unfold va_cpy
  split
  · exact hf _
  · exact hg _
theorem ti_lo (x : Int32) : -2147483648 ≤ x.toInt := Int32.le_toInt x
theorem ti_hi (x : Int32) : x.toInt ≤ 2147483647 := Int32.toInt_le x
theorem ti_bm {a : Int} (h1 : -2147483648 ≤ a) (h2 : a ≤ 2147483647) : a.bmod 4294967296 = a := by
  rw [Int.bmod_def]
  omega
theorem ti_add {x y : Int32} {a b : Int} (hx : x.toInt = a) (hy : y.toInt = b) (h1 : -2147483648 ≤ a + b) (h2 : a + b ≤ 2147483647) : (x + y).toInt = a + b := by
  rw [Int32.toInt_add, hx, hy]
  exact ti_bm h1 h2
theorem ti_sub {x y : Int32} {a b : Int} (hx : x.toInt = a) (hy : y.toInt = b) (h1 : -2147483648 ≤ a - b) (h2 : a - b ≤ 2147483647) : (x - y).toInt = a - b := by
  rw [Int32.toInt_sub, hx, hy]
  exact ti_bm h1 h2
theorem ti_mul {x y : Int32} {a b : Int} (hx : x.toInt = a) (hy : y.toInt = b) (h1 : -2147483648 ≤ a * b) (h2 : a * b ≤ 2147483647) : (x * y).toInt = a * b := by
  rw [Int32.toInt_mul, hx, hy]
  exact ti_bm h1 h2
theorem ti_lt {x y : Int32} {a b : Int} (hx : x.toInt = a) (hy : y.toInt = b) : x < y ↔ a < b := by rw [Int32.lt_iff_toInt_lt, hx, hy]
theorem ti_le {x y : Int32} {a b : Int} (hx : x.toInt = a) (hy : y.toInt = b) : x ≤ y ↔ a ≤ b := by rw [Int32.le_iff_toInt_le, hx, hy]
theorem ti_eq {x y : Int32} {a b : Int} (hx : x.toInt = a) (hy : y.toInt = b) : x = y ↔ a = b := by rw [← Int32.toInt_inj, hx, hy]
theorem ti_inj {x y : Int32} {a : Int} (hy : y.toInt = a) (hx : x.toInt = a) : x = y := (ti_eq hx hy).mpr rfl
theorem ti_in {x : Int32} {n : Nat} {a : Int} (hx : x.toInt = a) (h1 : 0 ≤ a) (h2 : a < n) : vp_in x n := vp_in_iff.mpr (by rw [hx]; exact ⟨h1, h2⟩)
/-- the words of nest mates: fields and methods of one nest's classes -/
def nkF : List (String × Nat × String × String × String) := [("AgedLog", 115, "AgedLog$Regions", "number", "I"), ("AgedLog", 139, "AgedLog$Disk", "row", "[B"), ("AgedLog", 176, "AgedLog$Disk", "written", "I"), ("AgedLog", 182, "AgedLog$Log", "nextSequence", "I"), ("AgedLog", 185, "AgedLog$Log", "open", "I"), ("AgedLog", 188, "AgedLog$Log", "place", "I"), ("AgedLog", 194, "AgedLog$Index", "count", "I"), ("AgedLog", 78, "AgedLog$Log", "clock", "I"), ("AgedLog", 92, "AgedLog$Log", "memory", "[B"), ("AgedLog$Cleaner", 113, "AgedLog$Log", "open", "I"), ("AgedLog$Cleaner", 116, "AgedLog$Log", "place", "I"), ("AgedLog$Cleaner", 122, "AgedLog$Log", "memory", "[B"), ("AgedLog$Cleaner", 95, "AgedLog$Log", "clock", "I"), ("AgedLog$Log", 159, "AgedLog$Disk", "row", "[B"), ("AgedLog$Recovery", 113, "AgedLog$Log", "order", "I"), ("AgedLog$Recovery", 116, "AgedLog$Disk", "row", "[B"), ("AgedLog$Recovery", 128, "AgedLog$Log", "nextSequence", "I"), ("AgedLog$Recovery", 134, "AgedLog$Log", "clock", "I"), ("AgedLog$Recovery", 89, "AgedLog$Log", "open", "I"), ("AgedLog$Recovery", 93, "AgedLog$Log", "place", "I"), ("AgedLog$Regions", 103, "AgedLog$Disk", "row", "[B"), ("AgedLog$Regions", 56, "AgedLog$Log", "nextSequence", "I"), ("AgedLog$Regions", 61, "AgedLog$Log", "clock", "I"), ("AgedLog$Regions", 64, "AgedLog$Log", "open", "I"), ("AgedLog$Regions", 67, "AgedLog$Log", "place", "I"), ("AgedLog$Regions", 70, "AgedLog$Log", "order", "I"), ("AgedLog$Regions", 73, "AgedLog$Index", "count", "I")]
def nkM : List (String × Nat × MethodName) := [("AgedLog", 18, yX2_init), ("AgedLog", 9, yX1_init), ("AgedLog$Index", 22, yX7_isKey), ("AgedLog$Index", 26, yX7_isOfLog), ("AgedLog$Log", 65, yX7_isOfLog), ("AgedLog$Recovery", 162, yX7_isOfLog), ("AgedLog$Recovery", 165, yX7_isKey), ("AgedLog$Regions", 123, yX7_isOfLog), ("AgedLog$Regions", 126, yX7_isKey)]
def NW (U : State) : Prop := (∀ q ∈ nkF, va_Nw (.fieldLinkNest q.1 q.2.1 q.2.2.1 q.2.2.2.1 q.2.2.2.2 "AgedLog") U) ∧ ∀ q ∈ nkM, va_Nw (.methodLinkNest q.1 q.2.1 q.2.2 "AgedLog") U
theorem NW.same {u U : State} (h : u.vm = U.vm) (hN : NW u) : NW U := ⟨fun q hq => va_Nw.same rfl h (hN.1 q hq), fun q hq => va_Nw.same rfl h (hN.2 q hq)⟩
theorem NW.warm {s U : State} (hW : s.WarmedH U.vm) (hN : NW s) : NW U := ⟨fun q hq => va_Nw.warmF hW (hN.1 q hq), fun q hq => va_Nw.warmM hW (hN.2 q hq)⟩
theorem NW.f {U : State} (hN : NW U) {a : String} {i : Nat} {b n d : String} (h : (a, i, b, n, d) ∈ nkF) {A : Array Value} : (Cond.fieldLinkNest a i b n d "AgedLog").before A U = true := va_Nw.use rfl (hN.1 (a, i, b, n, d) h)
theorem NW.m {U : State} (hN : NW U) {a : String} {i : Nat} {y : MethodName} (h : (a, i, y) ∈ nkM) : va_Nw (.methodLinkNest a i y "AgedLog") U := hN.2 (a, i, y) h
abbrev TY (cB cI cZ : ClassId) : List (ClassId × FieldType) := [(cB, .byte), (cI, .int), (cZ, .boolean)]
/-- a contract's start, and the world at its end -/
abbrev PcK (D : va_G) (cB cI cZ : ClassId) (av : List Value) (W0 : va_W) (sz : Nat) : Array Value → State → Prop := va_Pc av (fun U => U.heap.size = sz ∧ va_P D vwCl W0 U.heap ∧ (va_K D vwCl (TY cB cI cZ) U ∧ NW U) ∧ va_D (fun _ => True) W0)
abbrev EB (D : va_G) (A : Nat → Prop) (W1 : va_W) (t : State) : Prop := va_P D vwCl W1 t.heap ∧ va_D A W1
abbrev CtI {S : Type} (l : Launch) (D : va_G) (cB cI cZ : ClassId) (y : MethodName) (ws : List Cond) (rm : Room) (av : List Value) (W0 : va_W) (sz mc ms : Nat) (post : Int32 → S → Prop) (W1 : S → va_W) : Prop :=
  Met l y ws rm (PcK D cB cI cZ av W0 sz) (va_Qi post (fun u t => EB D (va_A W0 sz) (W1 u) t) (va_A W0 sz)) mc ms (va_A W0 sz)
abbrev CtV {S : Type} (l : Launch) (D : va_G) (cB cI cZ : ClassId) (y : MethodName) (ws : List Cond) (rm : Room) (av : List Value) (W0 : va_W) (sz mc ms : Nat) (post : S → Prop) (W1 : S → va_W) : Prop :=
  Met l y ws rm (PcK D cB cI cZ av W0 sz) (va_Qv post (fun u t => EB D (va_A W0 sz) (W1 u) t) (va_A W0 sz)) mc ms (va_A W0 sz)
section TMET
variable {l : Launch} {D : va_G} {cB cI cZ : ClassId} {y : MethodName} {ws ws' : List Cond} {rm : Room} {av : List Value} {W0 : va_W} {sz mc ms : Nat} {cc : ByteArray} {maxL : Nat} {ret : Option FieldType}
/-- a contract out of a walk from the method's first instruction -/
theorem mk_met {Qc : (Nat → Prop) → Array Value → State → Outcome → State → Prop} (hy : plainName y.cls = true) (hw : ws = Cond.code y cc maxL ret :: ws') (hav : (lg_sl av).length ≤ maxL)
    (body : ∀ (p : Program) (e : Env) (s : State) (m : MethodId) (below : List Frame) (meth : Method) (c : Code) (A : Nat → Prop), p.tables.exec = Jvm.exec → c.code = cc → meth.sig.returnType = ret → c.maxLocals = maxL → (∀ w ∈ ws, w.before av.toArray s = true) → s.vm.findClass y.cls = some m.cls → meth.locks = false → meth.name = y.name → va_P D vwCl W0 s.heap → va_K D vwCl (TY cB cI cZ) s → NW s → va_D A W0 → (∀ q : Nat, s.heap.size ≤ q → A q) → va_S A s.heap s.heap [] →
      ∀ ls : Array Slot, lv_has ls maxL (lv_args 0 av) → W p l e rm s m av.toArray below meth c s.heap [] 0 0 (MQ below (Qc A) av.toArray s mc ms A) (F0 m 0 ls [])) :
    Met l y ws rm (PcK D cB cI cZ av W0 sz) (Qc (va_A W0 sz)) mc ms (va_A W0 sz) := by
  refine Met.ofW (cc := cc) (maxL := maxL) (ret := ret) hy hw ?_
  intro p e s m args below meth c s₁ B hml hv
  obtain ⟨rfl, hsz, hP, ⟨hK, hN⟩, hD0⟩ := hv
  subst hsz
  have hl := lv_entry av (n := maxL) hav
  rw [lg_entry_eq]
  exact body p e s m below meth c (va_A W0 s.heap.size) B.exec B.bytes B.returns hml (atoms_spec (ws := ws) B.pre) (findClass_of_methodNamed B.named) B.notSynchronized (name_of_methodNamed B.named B.method).1 hP hK hN hD0.self (fun q h => Or.inr h) va_S.rf _ hl
theorem mk_metI {S : Type} {post : Int32 → S → Prop} {W1 : S → va_W} (hy : plainName y.cls = true) (hw : ws = Cond.code y cc maxL ret :: ws') (hav : (lg_sl av).length ≤ maxL)
    (body : ∀ (p : Program) (e : Env) (s : State) (m : MethodId) (below : List Frame) (meth : Method) (c : Code) (A : Nat → Prop), p.tables.exec = Jvm.exec → c.code = cc → meth.sig.returnType = ret → c.maxLocals = maxL → (∀ w ∈ ws, w.before av.toArray s = true) → s.vm.findClass y.cls = some m.cls → meth.locks = false → meth.name = y.name → va_P D vwCl W0 s.heap → va_K D vwCl (TY cB cI cZ) s → NW s → va_D A W0 → (∀ q : Nat, s.heap.size ≤ q → A q) → va_S A s.heap s.heap [] →
      ∀ ls : Array Slot, lv_has ls maxL (lv_args 0 av) → W p l e rm s m av.toArray below meth c s.heap [] 0 0 (MQ below (va_Qi post (fun u t => EB D A (W1 u) t) A) av.toArray s mc ms A) (F0 m 0 ls [])) :
    CtI l D cB cI cZ y ws rm av W0 sz mc ms post W1 := mk_met (Qc := fun A => va_Qi post (fun u t => EB D A (W1 u) t) A) hy hw hav body
theorem mk_metV {S : Type} {post : S → Prop} {W1 : S → va_W} (hy : plainName y.cls = true) (hw : ws = Cond.code y cc maxL ret :: ws') (hav : (lg_sl av).length ≤ maxL)
    (body : ∀ (p : Program) (e : Env) (s : State) (m : MethodId) (below : List Frame) (meth : Method) (c : Code) (A : Nat → Prop), p.tables.exec = Jvm.exec → c.code = cc → meth.sig.returnType = ret → c.maxLocals = maxL → (∀ w ∈ ws, w.before av.toArray s = true) → s.vm.findClass y.cls = some m.cls → meth.locks = false → meth.name = y.name → va_P D vwCl W0 s.heap → va_K D vwCl (TY cB cI cZ) s → NW s → va_D A W0 → (∀ q : Nat, s.heap.size ≤ q → A q) → va_S A s.heap s.heap [] →
      ∀ ls : Array Slot, lv_has ls maxL (lv_args 0 av) → W p l e rm s m av.toArray below meth c s.heap [] 0 0 (MQ below (va_Qv post (fun u t => EB D A (W1 u) t) A) av.toArray s mc ms A) (F0 m 0 ls [])) :
    CtV l D cB cI cZ y ws rm av W0 sz mc ms post W1 := mk_met (Qc := fun A => va_Qv post (fun u t => EB D A (W1 u) t) A) hy hw hav body
end TMET
section TPRE
variable {s : State} {H : Heap} {D : va_G} {cB cI cZ : ClassId} {wc : va_W} {As : List Value} {A : Nat → Prop}
theorem pre_S (hP : va_P D vwCl wc H) (hK : va_K D vwCl (TY cB cI cZ) s) (hN : NW s) (hD : va_D A wc) : PreS s H (PcK D cB cI cZ As wc H.size) As :=
  ⟨fun a U g mk q => by
    obtain ⟨q0, q1, qP, ⟨qK, qN⟩, qD⟩ := q
    exact ⟨q0, q1, qP, ⟨va_K.moved (u := U) (U := U.calling g mk a) (Vm.Alike.refl U.vm) qK, qN.same rfl⟩, qD⟩, fun U hU hW => ⟨rfl, by rw [hU], by rw [hU]; exact hP, ⟨va_K.moved hW.alike hK, hN.warm hW⟩, hD.weaken (fun _ _ _ _ => trivial)⟩⟩
theorem pre_V {a q0 ci : Nat} {q : vw_C} {fs : List Value} (hP : va_P D vwCl wc H) (hK : va_K D vwCl (TY cB cI cZ) s) (hN : NW s) (hD : va_D A wc) (hc : vwCl[ci]? = some q) (he : wc[q0]? = some (a, .inr (ci, fs))) : PreV s H q.1 a (PcK D cB cI cZ (.ref a :: As) wc H.size) As :=
  ⟨(pre_S (As := .ref a :: As) hP hK hN hD).1, va_recv hK hP hc he, (pre_S (As := .ref a :: As) hP hK hN hD).2⟩
end TPRE
section TCALL
variable {p : Program} {l : Launch} {e : Env} {R : Room} {s : State} {m : MethodId} {args : Array Value} {below : List Frame} {meth : Method} {c : Code} {H : Heap} {locs : List Loc} {cells slots : Nat} {Q : State → Prop}
variable {pc : Nat} {ls : Array Slot} {rest st0 : List Value} {a : Array Value} {A : Nat → Prop} {H0 : Heap} {mc ms : Nat} {D : va_G} {wc ws wr : va_W}
theorem kc_i {S : Type} {post : Int32 → S → Prop} {W1 : S → va_W} (hr : va_Run p l e R s m args below meth c H locs cells slots 0 0 (F0 m pc ls st0) rest (va_Qi post (fun u t => EB D (va_A wc H.size) (W1 u) t) (va_A wc H.size) a) (va_A wc H.size))
    (hP : va_P D vwCl ws H) (hD : va_D A ws) (hS : va_S A H0 H locs) (hA : ∀ q, H0.size ≤ q → A q) (isC isR : List Nat) (hC : isC.map (fun i => ws[i]?) = wc.map some) (hR : isR.map (fun i => ws[i]?) = wr.map some) (hn : va_nd isR = true) (hdis : ∀ i ∈ isR, i ∉ isC)
    (kk : ∀ (r : Int32) (u : S) (H1 : Heap) (locs1 : List Loc), post r u → va_P D vwCl (wr ++ W1 u) H1 → va_D A (wr ++ W1 u) → va_S A H0 H1 locs1 → W p l e R s m args below meth c H1 locs1 cells slots Q (F0 m (pc + 3) ls (.int r :: rest))) : W p l e R s m args below meth c H locs cells slots Q (F0 m pc ls st0) := by
  have hFc := va_free hD hS hA isC hC
  refine va_calli hr hS (fun q _ h => hFc q h) hFc (fun r u t H1 locs1 ht hvm hw hB hz1 hk1 hS1 => ?_)
  obtain ⟨hP1, hD1⟩ := hB
  rw [ht] at hP1
  obtain ⟨hP2, hD2⟩ := va_join hP hD isC isR hC hR hn hdis hk1 hFc hP1 hD1
  exact kk r u H1 locs1 hw hP2 hD2 hS1
theorem kc_v {S : Type} {post : S → Prop} {W1 : S → va_W} (hr : va_Run p l e R s m args below meth c H locs cells slots mc ms (F0 m pc ls st0) rest (va_Qv post (fun u t => EB D (va_A wc H.size) (W1 u) t) (va_A wc H.size) a) (va_A wc H.size))
    (hP : va_P D vwCl ws H) (hD : va_D A ws) (hS : va_S A H0 H locs) (hA : ∀ q, H0.size ≤ q → A q) (isC isR : List Nat) (hC : isC.map (fun i => ws[i]?) = wc.map some) (hR : isR.map (fun i => ws[i]?) = wr.map some) (hn : va_nd isR = true) (hdis : ∀ i ∈ isR, i ∉ isC)
    (kk : ∀ (u : S) (H1 : Heap) (locs1 : List Loc), post u → va_P D vwCl (wr ++ W1 u) H1 → va_D A (wr ++ W1 u) → va_S A H0 H1 locs1 → W p l e R s m args below meth c H1 locs1 (cells + mc) (slots + ms) Q (F0 m (pc + 3) ls rest)) : W p l e R s m args below meth c H locs cells slots Q (F0 m pc ls st0) := by
  have hFc := va_free hD hS hA isC hC
  refine va_callv hr hS (fun q _ h => hFc q h) hFc (fun u t H1 locs1 ht hvm hw hB hz1 hk1 hS1 => ?_)
  obtain ⟨hP1, hD1⟩ := hB
  rw [ht] at hP1
  obtain ⟨hP2, hD2⟩ := va_join hP hD isC isR hC hR hn hdis hk1 hFc hP1 hD1
  exact kk u H1 locs1 hw hP2 hD2 hS1
theorem kr_i {cc : ByteArray} {S : Type} {post : Int32 → S → Prop} {W1 : S → va_W} {v : Int32} (u : S) (hx : p.tables.exec = Jvm.exec) (hb : c.code = cc) (hr : meth.sig.returnType = some .int) (hlocks : meth.locks = false) (hP : va_P D vwCl (W1 u) H) (hD : va_D A (W1 u)) (hS : va_S A s.heap H locs) (hq : post v u) (hdg : decode cc pc = .ok (.ireturn, 1)) :
    W p l e R s m args below meth c H locs cells slots (MQ below (va_Qi post (fun u t => EB D A (W1 u) t) A) args s cells slots A) (F0 m pc ls [.int v]) :=
  W.iret hx hb hr (fun t ht hW => ⟨⟨v, u, rfl, hq, by rw [ht]; exact hP, hD⟩, hS.F ht⟩) hS.2.2 hdg hlocks
theorem kr_z {cc : ByteArray} {S : Type} {post : Int32 → S → Prop} {W1 : S → va_W} {v : Int32} (u : S) (hx : p.tables.exec = Jvm.exec) (hb : c.code = cc) (hr : meth.sig.returnType = some .boolean) (hnv : narrow .boolean (.int v) = .int v) (hlocks : meth.locks = false) (hP : va_P D vwCl (W1 u) H) (hD : va_D A (W1 u)) (hS : va_S A s.heap H locs) (hq : post v u) (hdg : decode cc pc = .ok (.ireturn, 1)) :
    W p l e R s m args below meth c H locs cells slots (MQ below (va_Qi post (fun u t => EB D A (W1 u) t) A) args s cells slots A) (F0 m pc ls [.int v]) :=
  W.zret hx hb hr hnv (fun t ht hW => ⟨⟨v, u, rfl, hq, by rw [ht]; exact hP, hD⟩, hS.F ht⟩) hS.2.2 hdg hlocks
theorem kr_v {cc : ByteArray} {S : Type} {post : S → Prop} {W1 : S → va_W} (u : S) (hx : p.tables.exec = Jvm.exec) (hb : c.code = cc) (hr : meth.sig.returnType = none) (hlocks : meth.locks = false) (hP : va_P D vwCl (W1 u) H) (hD : va_D A (W1 u)) (hS : va_S A s.heap H locs) (hq : post u) (hdg : decode cc pc = .ok (.return_, 1)) :
    W p l e R s m args below meth c H locs cells slots (MQ below (va_Qv post (fun u t => EB D A (W1 u) t) A) args s cells slots A) (F0 m pc ls []) :=
  W.vret hx hb hr (fun t ht hW => ⟨⟨u, rfl, hq, by rw [ht]; exact hP, hD⟩, hS.F ht⟩) hS.2.2 hdg hlocks
/-- a loop: by induction over a number that falls; what holds at its head is I -/
theorem kl {α : Type} (I : Nat → α → Heap → List Loc → Array Slot → Prop) (n : Nat) (a : α) (h : I n a H locs ls) (zero : ∀ a H locs ls, ¬ I 0 a H locs ls)
    (step : ∀ n, (∀ a H locs ls, I n a H locs ls → W p l e R s m args below meth c H locs cells slots Q (F0 m pc ls [])) → ∀ a H locs ls, I (n + 1) a H locs ls → W p l e R s m args below meth c H locs cells slots Q (F0 m pc ls [])) : W p l e R s m args below meth c H locs cells slots Q (F0 m pc ls []) := by
  have key : ∀ n, ∀ a H locs ls, I n a H locs ls → W p l e R s m args below meth c H locs cells slots Q (F0 m pc ls []) := by
    intro n
    induction n with
    | zero => exact fun a H locs ls h => absurd h (zero a H locs ls)
    | succ n ih => exact step n ih
  exact key n a H locs ls h
end TCALL
theorem ac_le {x n : Int32} {a b : Int} {N : Nat} (hx : x.toInt = a) (hn : n.toInt = b) (h0 : 0 ≤ a) (h1 : 0 ≤ b) (h2 : a + b ≤ N) : x.toNatClampNeg + n.toNatClampNeg ≤ N := by
  show x.toInt.toNat + n.toInt.toNat ≤ N
  rw [hx, hn]
  omega
theorem ti_and15 (x : Int32) : 0 ≤ (x &&& 15).toInt ∧ (x &&& 15).toInt ≤ 15 := by
  obtain ⟨j, hj, e⟩ := pk_andE x (m := 15) 4 (by decide)
  rw [e, nI_toInt (by omega)]
  omega
theorem ca_eqB {D : va_G} {cB cI cZ cA : ClassId} {s : State} (h : va_K D vwCl (TY cB cI cZ ++ [(cA, .byte)]) s) : cA = cB := Option.some.inj ((h.2 3 (cA, .byte) rfl).2.symm.trans (h.2 0 (cB, .byte) rfl).2)
theorem ca_eqI {D : va_G} {cB cI cZ cA : ClassId} {s : State} (h : va_K D vwCl (TY cB cI cZ ++ [(cA, .int)]) s) : cA = cI := Option.some.inj ((h.2 3 (cA, .int) rfl).2.symm.trans (h.2 1 (cI, .int) rfl).2)
theorem ca_eqZ {D : va_G} {cB cI cZ cA : ClassId} {s : State} (h : va_K D vwCl (TY cB cI cZ ++ [(cA, .boolean)]) s) : cA = cZ := Option.some.inj ((h.2 3 (cA, .boolean) rfl).2.symm.trans (h.2 2 (cZ, .boolean) rfl).2)
theorem fl_1 {m : Int32} (h0 : 0 ≤ m.toInt) (h1 : m.toInt ≤ 255) : (0 ||| (vp_nar .byte (Int8.toInt32 (Int32.toInt8 (0 ^^^ m))) &&& 255)) = m := by
  have key : ∀ k : Fin 256, (0 ||| (vp_nar .byte (Int8.toInt32 (Int32.toInt8 (0 ^^^ nI k.val))) &&& 255)) = nI k.val := by decide +kernel
  obtain ⟨j, hj, rfl⟩ := nI_of2 (M := 255) (n := 255) (by decide) (fun h => by have := (ti_lt (x := m) (y := 0) (a := m.toInt) (b := 0) rfl (by decide)).mp h; omega) ((ti_le (x := m) (y := 255) (a := m.toInt) (b := 255) rfl (by decide)).mpr h1)
  exact key ⟨j, by omega⟩
theorem fl_2 {m : Int32} (h0 : 0 ≤ m.toInt) (h1 : m.toInt ≤ 255) : (vp_nar .byte (Int8.toInt32 (Int32.toInt8 (0 ^^^ Int8.toInt32 (Int32.toInt8 m)))) &&& 255) = m := by
  have key : ∀ k : Fin 256, (vp_nar .byte (Int8.toInt32 (Int32.toInt8 (0 ^^^ Int8.toInt32 (Int32.toInt8 (nI k.val))))) &&& 255) = nI k.val := by decide +kernel
  obtain ⟨j, hj, rfl⟩ := nI_of2 (M := 255) (n := 255) (by decide) (fun h => by have := (ti_lt (x := m) (y := 0) (a := m.toInt) (b := 0) rfl (by decide)).mp h; omega) ((ti_le (x := m) (y := 255) (a := m.toInt) (b := 255) rfl (by decide)).mpr h1)
  exact key ⟨j, by omega⟩
