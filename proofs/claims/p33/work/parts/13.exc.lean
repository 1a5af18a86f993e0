def exN : List String := ["java/lang/RuntimeException", "java/lang/Exception"]
def exBad (X : String) : List Cond := [.castable X X, .declares ⟨"java/lang/RuntimeException", "<init>", "(Ljava/lang/String;)V"⟩, .declares ⟨"java/lang/Exception", "<init>", "(Ljava/lang/String;)V"⟩, .declares ⟨"java/lang/Throwable", "<init>", "(Ljava/lang/String;)V"⟩]
def exK (k : Nat) : String := if k = 0 then EXI else if k = 1 then EXS else EXB
theorem TB_fil {L : List Cond} (h : (L.filter goodWord).all (fun w => decide (w ∈ lw_tbl)) = true) : ∀ w ∈ L.filter goodWord, w ∈ TB := fun w hw => List.mem_filter.mpr ⟨of_decide_eq_true (List.all_eq_true.mp h w hw), (List.mem_filter.mp hw).2⟩
/-- what a throw of the class X asks of the tables -/
def exOk (X : String) (ik ic : Nat) : Prop := (∀ w ∈ (vx_atS RX8 ic X exN).filter goodWord, w ∈ TB) ∧ (∀ w ∈ (vx_atS RX8 ic X exN).filter (fun w => !goodWord w), w ∈ exBad X) ∧ Cond.classLink RX8 ik X ∈ TB ∧ Cond.initialized X ∈ TB ∧ (∀ w ∈ Cond.classLink RX8 ik X :: Cond.initialized X :: vx_atS RX8 ic X exN, vx_ot w = true) ∧ Bundle.fit X = true ∧ (X, X) ∈ CAS
theorem ex_names : ∀ n ∈ exN, Bundle.fit n = true := by decide +kernel
theorem exOkI : exOk EXI 180 184 := ⟨TB_fil (by decide +kernel), by decide +kernel, List.mem_filter.mpr ⟨by decide +kernel, by decide +kernel⟩, List.mem_filter.mpr ⟨by decide +kernel, by decide +kernel⟩, by decide +kernel, by decide +kernel, by decide +kernel⟩
theorem exOkS : exOk EXS 72 76 := ⟨TB_fil (by decide +kernel), by decide +kernel, List.mem_filter.mpr ⟨by decide +kernel, by decide +kernel⟩, List.mem_filter.mpr ⟨by decide +kernel, by decide +kernel⟩, by decide +kernel, by decide +kernel, by decide +kernel⟩
theorem exOkB : exOk EXB 364 368 := ⟨TB_fil (by decide +kernel), by decide +kernel, List.mem_filter.mpr ⟨by decide +kernel, by decide +kernel⟩, List.mem_filter.mpr ⟨by decide +kernel, by decide +kernel⟩, by decide +kernel, by decide +kernel, by decide +kernel⟩
theorem va_P.fresh {D : va_G} {ws : va_W} {H H1 : Heap} (h : va_P D vwCl ws H) (hq : ∀ q : Nat, q < H.size → H1[q]? = H[q]?) : va_P D vwCl ws H1 := h.kept (fun k q hk => hq q.1 (h k q hk).lt)
theorem va_S.fresh {A : Nat → Prop} {s t : State} {H : Heap} {locs : List Loc} (h : va_S A s.heap H locs) (hz : H.size ≤ t.heap.size) (hq : ∀ q : Nat, q < H.size → t.heap[q]? = H[q]?) : va_F A s t := ⟨Nat.le_trans h.1 hz, fun q h1 h2 => by rw [hq q (Nat.lt_of_lt_of_le h1 h.1)]; exact h.2.1 q h1 h2⟩
/-- how a thrown end looks -/
abbrev xEnd {S : Type} (D : va_G) (dT : Nat → ClassId) (o : Option (Nat × S)) (wu : S → va_W) (A : Nat → Prop) : String → State → State → Prop := vx_X (fun ku : Nat × S => some ku = o) (fun E ku t => E = exK ku.1 ∧ cAt D dT A (wu ku.2) t) A
section THROWS
variable {p : Program} {l : Launch} {e : Env} {R : Room} {s : State} {m : MethodId} {args : Array Value} {below : List Frame} {meth : Method} {c : Code} {H : Heap} {locs : List Loc} {cells slots : Nat} {Q : State → Prop}
variable {cc : ByteArray} {pc : Nat} {ls : Array Slot} {rest st0 : List Value} {D : va_G} {dT : Nat → ClassId} {A : Nat → Prop} {ws wc wr : va_W} {mc ms : Nat} {av : Array Value} {Qc : Array Value → State → Outcome → State → Prop}
theorem ex_at {X : String} {ik ic : Nat} (h : exOk X ik ic) (hqs : ∀ w ∈ TB, w.before args s = true) (hE : EN A s s.heap) : ∀ w ∈ vx_atS RX8 ic X exN, w.before args s = true := by
  obtain ⟨h1, h2, -, -, -, -, h7⟩ := h
  refine vx_hat (B := exBad X) (fun w hw => hqs w (h1 w hw)) h2 (fun w hw => ?_)
  unfold exBad at hw
  simp only [List.mem_cons, List.not_mem_nil, or_false] at hw
  rcases hw with rfl | rfl | rfl | rfl
  · exact va_Nw.use rfl (hE.2.2.1 (X, X) h7)
  · exact va_Nw.use rfl (hE.2.2.2.2.1 _ (List.mem_of_getElem? (i := 3) rfl))
  · exact va_Nw.use rfl (hE.2.2.2.2.1 _ (List.mem_of_getElem? (i := 4) rfl))
  · exact va_Nw.use rfl (hE.2.2.2.2.1 _ (List.mem_of_getElem? (i := 5) rfl))
theorem th_S {S : Type} {o : Option (Nat × S)} {wu : S → va_W} {X text : String} {ik ic is k : Nat} (hok : exOk X ik ic) (hkX : exK k = X) (hst : (is, text) ∈ STR) (hlt : l.stackTraces = false) (hx : p.tables.exec = Jvm.exec) (hb : c.code = cc) (hml : ls.size = c.maxLocals) (hlk : meth.locks = false) (hnt : ∀ x ∈ c.exceptionTable.toList, False) (hqs : ∀ w ∈ TB, w.before args s = true) (hown : s.vm.findClass RX8 = some m.cls) (hE : EN A s s.heap) (hK : va_K D vwCl (tyl dT) s) (hS : va_S A s.heap H locs)
    (u : S) (hu : some (k, u) = o) (hP : va_P D vwCl (wu u) H) (hD : va_D A (wu u)) (hRf : Nat.blt 5 R.frames = true) (hRl : Nat.ble ((rest.map fun v => v.category).sum + 82) R.locals = true) (hRc : Nat.ble (cells + 1) R.cells = true) (hRs : Nat.ble (slots + 6) R.slots = true) (hc : Nat.ble (cells + 1) mc = true) (hs : Nat.ble (slots + 6) ms = true)
    (d0 : decode cc pc = .ok (.new ik, 3)) (d3 : decode cc (pc + 3) = .ok (.dup, 1)) (d4 : decode cc (pc + 4) = .ok (.ldc is, 2)) (d6 : decode cc (pc + 6) = .ok (.invokespecial ic, 3)) (d9 : decode cc (pc + 9) = .ok (.athrow, 1)) :
    W p l e R s m args below meth c H locs cells slots (vx_MQ below Qc (xEnd D dT o wu A) args s mc ms A) (F0 m pc ls rest) := by
  obtain ⟨sa, hsa⟩ := hE.2.2.2.2.2.1 _ hst
  refine vx_throwS (names := exN) hx hb hlt hown hok.2.2.2.2.2.1 ex_names (hqs _ hok.2.2.1) (hqs _ hok.2.2.2.1) hsa (ex_at hok hqs hE) hok.2.2.2.2.1 hE.2.2.2.2.2.2.2.1 hE.2.2.2.2.2.2.2.2 hS hml d0 d3 d4 d6 d9 (fun x hx => absurd (hnt x hx) id) (by have := Nat.le_of_ble_eq_true hRf; show 2 + 3 < _; omega) (by have := Nat.le_of_ble_eq_true hRl; show _ + (13 * (2 + 1) + 43) ≤ _; omega) (Nat.le_of_ble_eq_true hRc) (Nat.le_of_ble_eq_true hRs) hlk (fun t hal hz hq => ?_) hS.2.2 (Nat.le_of_ble_eq_true hc) (Nat.le_of_ble_eq_true hs)
  exact ⟨(k, u), hu, ⟨hkX.symm, hP.fresh hq, va_K.moved hal hK, hD⟩, hS.fresh hz hq⟩
theorem th_W {S : Type} {o : Option (Nat × S)} {wu : S → va_W} {X text : String} {ik ic is k : Nat} (hok : exOk X ik ic) (hkX : exK k = X) (hst : (is, text) ∈ STR) (hlt : l.stackTraces = false) (hx : p.tables.exec = Jvm.exec) (hb : c.code = cc) (hml : ls.size = c.maxLocals) (hlk : meth.locks = false) (hnt : ∀ x ∈ c.exceptionTable.toList, False) (hqs : ∀ w ∈ TB, w.before args s = true) (hown : s.vm.findClass RX8 = some m.cls) (hE : EN A s s.heap) (hK : va_K D vwCl (tyl dT) s) (hS : va_S A s.heap H locs)
    (u : S) (hu : some (k, u) = o) (hP : va_P D vwCl (wu u) H) (hD : va_D A (wu u)) (hRf : Nat.blt 5 R.frames = true) (hRl : Nat.ble ((rest.map fun v => v.category).sum + 82) R.locals = true) (hRc : Nat.ble (cells + 1) R.cells = true) (hRs : Nat.ble (slots + 6) R.slots = true) (hc : Nat.ble (cells + 1) mc = true) (hs : Nat.ble (slots + 6) ms = true)
    (d0 : decode cc pc = .ok (.new ik, 3)) (d3 : decode cc (pc + 3) = .ok (.dup, 1)) (d4 : decode cc (pc + 4) = .ok (.ldc_w is, 3)) (d6 : decode cc (pc + 7) = .ok (.invokespecial ic, 3)) (d9 : decode cc (pc + 10) = .ok (.athrow, 1)) :
    W p l e R s m args below meth c H locs cells slots (vx_MQ below Qc (xEnd D dT o wu A) args s mc ms A) (F0 m pc ls rest) := by
  obtain ⟨sa, hsa⟩ := hE.2.2.2.2.2.1 _ hst
  refine vx_throwSW (names := exN) hx hb hlt hown hok.2.2.2.2.2.1 ex_names (hqs _ hok.2.2.1) (hqs _ hok.2.2.2.1) hsa (ex_at hok hqs hE) hok.2.2.2.2.1 hE.2.2.2.2.2.2.2.1 hE.2.2.2.2.2.2.2.2 hS hml d0 d3 d4 d6 d9 (fun x hx => absurd (hnt x hx) id) (by have := Nat.le_of_ble_eq_true hRf; show 2 + 3 < _; omega) (by have := Nat.le_of_ble_eq_true hRl; show _ + (13 * (2 + 1) + 43) ≤ _; omega) (Nat.le_of_ble_eq_true hRc) (Nat.le_of_ble_eq_true hRs) hlk (fun t hal hz hq => ?_) hS.2.2 (Nat.le_of_ble_eq_true hc) (Nat.le_of_ble_eq_true hs)
  exact ⟨(k, u), hu, ⟨hkX.symm, hP.fresh hq, va_K.moved hal hK, hD⟩, hS.fresh hz hq⟩
/-- a thrown call's exception goes on to the caller -/
theorem xo_S {S : Type} {o : Option (Nat × S)} {wu : S → va_W} {k : Nat} {E : String} {ce : Cell} {q : Addr} (hlk : meth.locks = false) (hnt : ∀ x ∈ c.exceptionTable.toList, False) (hK : va_K D vwCl (tyl dT) s) (hS : va_S A s.heap H locs) (hkE : E = exK k) (hcell : H[q]? = some ce) (hv : ce.vm = .none) (hcl : s.vm.findClass E = some ce.cls)
    (u : S) (hu : some (k, u) = o) (hP : va_P D vwCl (wu u) H) (hD : va_D A (wu u)) (hc : Nat.ble cells mc = true) (hs : Nat.ble slots ms = true) :
    vx_W p l e R s m args below meth c H locs cells slots (vx_MQ below Qc (xEnd D dT o wu A) args s mc ms A) (F0 m pc ls rest) q :=
  vx_out (fun x hx => absurd (hnt x hx) id) hlk hcell hv hcl (fun t ht hal => ⟨(k, u), hu, ⟨hkE, by rw [ht]; exact hP, va_K.moved hal hK, hD⟩, hS.F ht⟩) hS.2.2 (Nat.le_of_ble_eq_true hc) (Nat.le_of_ble_eq_true hs)
theorem xcl_i {S SX : Type} {post : Int32 → S → Prop} {ox : Option (Nat × SX)} {wu : S → va_W} {wx : SX → va_W} (hr : vx_Run p l e R s m args below meth c H locs cells slots mc ms (F0 m pc ls st0) rest (va_Qi post (fun u t => cAt D dT (va_A wc H.size) (wu u) t) (va_A wc H.size) av) (xEnd D dT ox wx (va_A wc H.size)) (va_A wc H.size))
    (hP : va_P D vwCl ws H) (hD : va_D A ws) (hS : va_S A s.heap H locs) (hF : ∀ q, va_A wc H.size q → A q) (isC isR : List Nat) (hC : isC.map (fun i => ws[i]?) = wc.map some) (hR : isR.map (fun i => ws[i]?) = wr.map some) (hn : va_nd isR = true) (hdis : ∀ i ∈ isR, i ∉ isC)
    (kx : ∀ (k : Nat) (u : SX) (E : String) (ce : Cell) (q9 : Addr) (H1 : Heap) (locs1 : List Loc), some (k, u) = ox → E = exK k → va_P D vwCl (wr ++ wx u) H1 → va_D A (wr ++ wx u) → va_S A s.heap H1 locs1 → H1[q9]? = some ce → ce.vm = .none → s.vm.findClass E = some ce.cls → vx_W p l e R s m args below meth c H1 locs1 (cells + mc) (slots + ms) Q (F0 m pc ls rest) q9)
    (kk : ∀ (r : Int32) (u : S) (H1 : Heap) (locs1 : List Loc), post r u → va_P D vwCl (wr ++ wu u) H1 → va_D A (wr ++ wu u) → va_S A s.heap H1 locs1 → W p l e R s m args below meth c H1 locs1 (cells + mc) (slots + ms) Q (F0 m (pc + 3) ls (.int r :: rest))) : W p l e R s m args below meth c H locs cells slots Q (F0 m pc ls st0) := by
  refine vx_calli hr hS (fun q _ h => hF q h) hF (fun q _ h => hF q h) (fun E ce q9 ku t H1 locs1 ht hvm hw hB hz1 hk1 hS1 hce hcv hcl => ?_) (fun r u t H1 locs1 ht hvm hw hB hz1 hk1 hS1 => ?_)
  · obtain ⟨k, u⟩ := ku
    obtain ⟨hE, hP1, hK1, hD1⟩ := hB
    rw [ht] at hP1
    obtain ⟨hP2, hD2⟩ := va_join hP hD isC isR hC hR hn hdis hk1 hF hP1 hD1
    exact kx k u E ce q9 H1 locs1 hw hE hP2 hD2 hS1 hce hcv hcl
  · obtain ⟨hP1, hK1, hD1⟩ := hB
    rw [ht] at hP1
    obtain ⟨hP2, hD2⟩ := va_join hP hD isC isR hC hR hn hdis hk1 hF hP1 hD1
    exact kk r u H1 locs1 hw hP2 hD2 hS1
theorem xcl_iA {S SX : Type} {post : Int32 → S → Prop} {ox : Option (Nat × SX)} {wu : S → va_W} {wx : SX → va_W} (hr : vx_Run p l e R s m args below meth c H locs cells slots mc ms (F0 m pc ls st0) rest (va_Qi post (fun u t => cAt D dT (va_A wc H.size) (wu u) t) (va_A wc H.size) av) (xEnd D dT ox wx (va_A wc H.size)) (va_A wc H.size))
    (hS : va_S A s.heap H locs) (hF : ∀ q, va_A wc H.size q → A q)
    (kx : ∀ (k : Nat) (u : SX) (E : String) (ce : Cell) (q9 : Addr) (H1 : Heap) (locs1 : List Loc), some (k, u) = ox → E = exK k → va_P D vwCl (wx u) H1 → va_D A (wx u) → va_S A s.heap H1 locs1 → H1[q9]? = some ce → ce.vm = .none → s.vm.findClass E = some ce.cls → vx_W p l e R s m args below meth c H1 locs1 (cells + mc) (slots + ms) Q (F0 m pc ls rest) q9)
    (kk : ∀ (r : Int32) (u : S) (H1 : Heap) (locs1 : List Loc), post r u → va_P D vwCl (wu u) H1 → va_D A (wu u) → va_S A s.heap H1 locs1 → W p l e R s m args below meth c H1 locs1 (cells + mc) (slots + ms) Q (F0 m (pc + 3) ls (.int r :: rest))) : W p l e R s m args below meth c H locs cells slots Q (F0 m pc ls st0) := by
  refine vx_calli hr hS (fun q _ h => hF q h) hF (fun q _ h => hF q h) (fun E ce q9 ku t H1 locs1 ht hvm hw hB hz1 hk1 hS1 hce hcv hcl => ?_) (fun r u t H1 locs1 ht hvm hw hB hz1 hk1 hS1 => ?_)
  · obtain ⟨k, u⟩ := ku
    obtain ⟨hE, hP1, hK1, hD1⟩ := hB
    rw [ht] at hP1
    exact kx k u E ce q9 H1 locs1 hw hE hP1 (hD1.weaken (fun k q _ h => hF q.1 h)) hS1 hce hcv hcl
  · obtain ⟨hP1, hK1, hD1⟩ := hB
    rw [ht] at hP1
    exact kk r u H1 locs1 hw hP1 (hD1.weaken (fun k q _ h => hF q.1 h)) hS1
theorem xcl_l {S SX : Type} {post : Int64 → S → Prop} {ox : Option (Nat × SX)} {wu : S → va_W} {wx : SX → va_W} (hr : vx_Run p l e R s m args below meth c H locs cells slots mc ms (F0 m pc ls st0) rest (va_Ql post (fun u t => cAt D dT (va_A wc H.size) (wu u) t) (va_A wc H.size) av) (xEnd D dT ox wx (va_A wc H.size)) (va_A wc H.size))
    (hP : va_P D vwCl ws H) (hD : va_D A ws) (hS : va_S A s.heap H locs) (hF : ∀ q, va_A wc H.size q → A q) (isC isR : List Nat) (hC : isC.map (fun i => ws[i]?) = wc.map some) (hR : isR.map (fun i => ws[i]?) = wr.map some) (hn : va_nd isR = true) (hdis : ∀ i ∈ isR, i ∉ isC)
    (kx : ∀ (k : Nat) (u : SX) (E : String) (ce : Cell) (q9 : Addr) (H1 : Heap) (locs1 : List Loc), some (k, u) = ox → E = exK k → va_P D vwCl (wr ++ wx u) H1 → va_D A (wr ++ wx u) → va_S A s.heap H1 locs1 → H1[q9]? = some ce → ce.vm = .none → s.vm.findClass E = some ce.cls → vx_W p l e R s m args below meth c H1 locs1 (cells + mc) (slots + ms) Q (F0 m pc ls rest) q9)
    (kk : ∀ (r : Int64) (u : S) (H1 : Heap) (locs1 : List Loc), post r u → va_P D vwCl (wr ++ wu u) H1 → va_D A (wr ++ wu u) → va_S A s.heap H1 locs1 → W p l e R s m args below meth c H1 locs1 (cells + mc) (slots + ms) Q (F0 m (pc + 3) ls (.long r :: rest))) : W p l e R s m args below meth c H locs cells slots Q (F0 m pc ls st0) := by
  refine vx_calll hr hS (fun q _ h => hF q h) hF (fun q _ h => hF q h) (fun E ce q9 ku t H1 locs1 ht hvm hw hB hz1 hk1 hS1 hce hcv hcl => ?_) (fun r u t H1 locs1 ht hvm hw hB hz1 hk1 hS1 => ?_)
  · obtain ⟨k, u⟩ := ku
    obtain ⟨hE, hP1, hK1, hD1⟩ := hB
    rw [ht] at hP1
    obtain ⟨hP2, hD2⟩ := va_join hP hD isC isR hC hR hn hdis hk1 hF hP1 hD1
    exact kx k u E ce q9 H1 locs1 hw hE hP2 hD2 hS1 hce hcv hcl
  · obtain ⟨hP1, hK1, hD1⟩ := hB
    rw [ht] at hP1
    obtain ⟨hP2, hD2⟩ := va_join hP hD isC isR hC hR hn hdis hk1 hF hP1 hD1
    exact kk r u H1 locs1 hw hP2 hD2 hS1
theorem xcl_lA {S SX : Type} {post : Int64 → S → Prop} {ox : Option (Nat × SX)} {wu : S → va_W} {wx : SX → va_W} (hr : vx_Run p l e R s m args below meth c H locs cells slots mc ms (F0 m pc ls st0) rest (va_Ql post (fun u t => cAt D dT (va_A wc H.size) (wu u) t) (va_A wc H.size) av) (xEnd D dT ox wx (va_A wc H.size)) (va_A wc H.size))
    (hS : va_S A s.heap H locs) (hF : ∀ q, va_A wc H.size q → A q)
    (kx : ∀ (k : Nat) (u : SX) (E : String) (ce : Cell) (q9 : Addr) (H1 : Heap) (locs1 : List Loc), some (k, u) = ox → E = exK k → va_P D vwCl (wx u) H1 → va_D A (wx u) → va_S A s.heap H1 locs1 → H1[q9]? = some ce → ce.vm = .none → s.vm.findClass E = some ce.cls → vx_W p l e R s m args below meth c H1 locs1 (cells + mc) (slots + ms) Q (F0 m pc ls rest) q9)
    (kk : ∀ (r : Int64) (u : S) (H1 : Heap) (locs1 : List Loc), post r u → va_P D vwCl (wu u) H1 → va_D A (wu u) → va_S A s.heap H1 locs1 → W p l e R s m args below meth c H1 locs1 (cells + mc) (slots + ms) Q (F0 m (pc + 3) ls (.long r :: rest))) : W p l e R s m args below meth c H locs cells slots Q (F0 m pc ls st0) := by
  refine vx_calll hr hS (fun q _ h => hF q h) hF (fun q _ h => hF q h) (fun E ce q9 ku t H1 locs1 ht hvm hw hB hz1 hk1 hS1 hce hcv hcl => ?_) (fun r u t H1 locs1 ht hvm hw hB hz1 hk1 hS1 => ?_)
  · obtain ⟨k, u⟩ := ku
    obtain ⟨hE, hP1, hK1, hD1⟩ := hB
    rw [ht] at hP1
    exact kx k u E ce q9 H1 locs1 hw hE hP1 (hD1.weaken (fun k q _ h => hF q.1 h)) hS1 hce hcv hcl
  · obtain ⟨hP1, hK1, hD1⟩ := hB
    rw [ht] at hP1
    exact kk r u H1 locs1 hw hP1 (hD1.weaken (fun k q _ h => hF q.1 h)) hS1
theorem xcl_v {S SX : Type} {post : S → Prop} {ox : Option (Nat × SX)} {wu : S → va_W} {wx : SX → va_W} (hr : vx_Run p l e R s m args below meth c H locs cells slots mc ms (F0 m pc ls st0) rest (va_Qv post (fun u t => cAt D dT (va_A wc H.size) (wu u) t) (va_A wc H.size) av) (xEnd D dT ox wx (va_A wc H.size)) (va_A wc H.size))
    (hP : va_P D vwCl ws H) (hD : va_D A ws) (hS : va_S A s.heap H locs) (hF : ∀ q, va_A wc H.size q → A q) (isC isR : List Nat) (hC : isC.map (fun i => ws[i]?) = wc.map some) (hR : isR.map (fun i => ws[i]?) = wr.map some) (hn : va_nd isR = true) (hdis : ∀ i ∈ isR, i ∉ isC)
    (kx : ∀ (k : Nat) (u : SX) (E : String) (ce : Cell) (q9 : Addr) (H1 : Heap) (locs1 : List Loc), some (k, u) = ox → E = exK k → va_P D vwCl (wr ++ wx u) H1 → va_D A (wr ++ wx u) → va_S A s.heap H1 locs1 → H1[q9]? = some ce → ce.vm = .none → s.vm.findClass E = some ce.cls → vx_W p l e R s m args below meth c H1 locs1 (cells + mc) (slots + ms) Q (F0 m pc ls rest) q9)
    (kk : ∀ (u : S) (H1 : Heap) (locs1 : List Loc), post u → va_P D vwCl (wr ++ wu u) H1 → va_D A (wr ++ wu u) → va_S A s.heap H1 locs1 → W p l e R s m args below meth c H1 locs1 (cells + mc) (slots + ms) Q (F0 m (pc + 3) ls rest)) : W p l e R s m args below meth c H locs cells slots Q (F0 m pc ls st0) := by
  refine vx_callv hr hS (fun q _ h => hF q h) hF (fun q _ h => hF q h) (fun E ce q9 ku t H1 locs1 ht hvm hw hB hz1 hk1 hS1 hce hcv hcl => ?_) (fun u t H1 locs1 ht hvm hw hB hz1 hk1 hS1 => ?_)
  · obtain ⟨k, u⟩ := ku
    obtain ⟨hE, hP1, hK1, hD1⟩ := hB
    rw [ht] at hP1
    obtain ⟨hP2, hD2⟩ := va_join hP hD isC isR hC hR hn hdis hk1 hF hP1 hD1
    exact kx k u E ce q9 H1 locs1 hw hE hP2 hD2 hS1 hce hcv hcl
  · obtain ⟨hP1, hK1, hD1⟩ := hB
    rw [ht] at hP1
    obtain ⟨hP2, hD2⟩ := va_join hP hD isC isR hC hR hn hdis hk1 hF hP1 hD1
    exact kk u H1 locs1 hw hP2 hD2 hS1
theorem xcl_vA {S SX : Type} {post : S → Prop} {ox : Option (Nat × SX)} {wu : S → va_W} {wx : SX → va_W} (hr : vx_Run p l e R s m args below meth c H locs cells slots mc ms (F0 m pc ls st0) rest (va_Qv post (fun u t => cAt D dT (va_A wc H.size) (wu u) t) (va_A wc H.size) av) (xEnd D dT ox wx (va_A wc H.size)) (va_A wc H.size))
    (hS : va_S A s.heap H locs) (hF : ∀ q, va_A wc H.size q → A q)
    (kx : ∀ (k : Nat) (u : SX) (E : String) (ce : Cell) (q9 : Addr) (H1 : Heap) (locs1 : List Loc), some (k, u) = ox → E = exK k → va_P D vwCl (wx u) H1 → va_D A (wx u) → va_S A s.heap H1 locs1 → H1[q9]? = some ce → ce.vm = .none → s.vm.findClass E = some ce.cls → vx_W p l e R s m args below meth c H1 locs1 (cells + mc) (slots + ms) Q (F0 m pc ls rest) q9)
    (kk : ∀ (u : S) (H1 : Heap) (locs1 : List Loc), post u → va_P D vwCl (wu u) H1 → va_D A (wu u) → va_S A s.heap H1 locs1 → W p l e R s m args below meth c H1 locs1 (cells + mc) (slots + ms) Q (F0 m (pc + 3) ls rest)) : W p l e R s m args below meth c H locs cells slots Q (F0 m pc ls st0) := by
  refine vx_callv hr hS (fun q _ h => hF q h) hF (fun q _ h => hF q h) (fun E ce q9 ku t H1 locs1 ht hvm hw hB hz1 hk1 hS1 hce hcv hcl => ?_) (fun u t H1 locs1 ht hvm hw hB hz1 hk1 hS1 => ?_)
  · obtain ⟨k, u⟩ := ku
    obtain ⟨hE, hP1, hK1, hD1⟩ := hB
    rw [ht] at hP1
    exact kx k u E ce q9 H1 locs1 hw hE hP1 (hD1.weaken (fun k q _ h => hF q.1 h)) hS1 hce hcv hcl
  · obtain ⟨hP1, hK1, hD1⟩ := hB
    rw [ht] at hP1
    exact kk u H1 locs1 hw hP1 (hD1.weaken (fun k q _ h => hF q.1 h)) hS1
end THROWS
/-- a method's body that may throw -/
theorem mStartX {l : Launch} {y : MethodName} {b : ByteArray} {maxL : Nat} {ret : Option FieldType} {rm : Room} {av : List Value} {D : va_G} {dT : Nat → ClassId} {WS : va_W} {Qc : (Nat → Prop) → Array Value → State → Outcome → State → Prop} {XC : (Nat → Prop) → String → State → State → Prop} {mc ms : Nat} (own : String) (hown0 : y.cls = own) (hy : plainName y.cls = true) (hal : (lg_sl av).length ≤ maxL)
    (body : ∀ (p : Program) (e : Env) (s : State) (m : MethodId) (below : List Frame) (meth : Method) (c : Code) (A : Nat → Prop) (ls : Array Slot), p.tables.exec = Jvm.exec → c.code = b → c.maxLocals = maxL → meth.sig.returnType = ret → meth.locks = false → (∀ x ∈ c.exceptionTable.toList, False) → (∀ w ∈ Cond.code y b maxL ret :: TB, w.before av.toArray s = true) → (∀ w ∈ TB, w.before av.toArray s = true) → s.vm.findClass own = some m.cls → EN A s s.heap → (∀ q : Nat, s.heap.size ≤ q → A q) → va_K D vwCl (tyl dT) s → va_P D vwCl WS s.heap → va_D A WS → va_S A s.heap s.heap [] → lv_has ls maxL (lv_args 0 av) →
      W p l e (headSpec (WSm y b maxL ret) rm).room s m av.toArray below meth c s.heap [] 0 0 (vx_MQ below (Qc A) (XC A) av.toArray s mc ms A) (F0 m 0 ls [])) (sz : Nat) :
    vx_Met l y (WSm y b maxL ret) rm (va_Pc av (cPre D dT WS sz)) (Qc (va_A WS sz)) (XC (va_A WS sz)) mc ms (va_A WS sz) := by
  refine vx_ofW (cc := b) (maxL := maxL) (ret := ret) hy rfl ?_
  intro p e s m args below meth c s₁ B hml hnt hv
  obtain ⟨rfl, hsz, hP, hK, hD0, hE⟩ := hv
  have hts := atoms_spec (ws := WSm y b maxL ret) B.pre
  have hown : s.vm.findClass own = some m.cls := by rw [← hown0]; exact findClass_of_methodNamed B.named
  subst hsz
  have hl := lv_entry av (n := maxL) hal
  rw [lg_entry_eq]
  exact body p e s m below meth c _ _ B.exec B.bytes hml B.returns B.notSynchronized hnt hts (fun w h => hts w (List.mem_cons_of_mem _ h)) hown hE (fun q h => Or.inr h) hK hP hD0.self va_S.rf hl
/-- a body with handlers, that returns -/
theorem mStartH {l : Launch} {y : MethodName} {b : ByteArray} {maxL : Nat} {ret : Option FieldType} {hh : List (Nat × Nat × Nat × Nat)} {rm : Room} {av : List Value} {D : va_G} {dT : Nat → ClassId} {WS : va_W} {Qc : (Nat → Prop) → Array Value → State → Outcome → State → Prop} {mc ms : Nat} (own : String) (hown0 : y.cls = own) (hy : plainName y.cls = true) (hal : (lg_sl av).length ≤ maxL)
    (body : ∀ (p : Program) (e : Env) (s : State) (m : MethodId) (below : List Frame) (meth : Method) (c : Code) (A : Nat → Prop) (ls : Array Slot), p.tables.exec = Jvm.exec → c.code = b → c.maxLocals = maxL → meth.sig.returnType = ret → meth.locks = false → c.exceptionTable.toList = tableOf hh → (∀ w ∈ Cond.codeWith y b maxL ret hh :: TB, w.before av.toArray s = true) → (∀ w ∈ TB, w.before av.toArray s = true) → s.vm.findClass own = some m.cls → EN A s s.heap → (∀ q : Nat, s.heap.size ≤ q → A q) → va_K D vwCl (tyl dT) s → va_P D vwCl WS s.heap → va_D A WS → va_S A s.heap s.heap [] → lv_has ls maxL (lv_args 0 av) →
      W p l e (headSpec (Cond.codeWith y b maxL ret hh :: TB) rm).room s m av.toArray below meth c s.heap [] 0 0 (MQ below (Qc A) av.toArray s mc ms A) (F0 m 0 ls [])) (sz : Nat) :
    Met l y (Cond.codeWith y b maxL ret hh :: TB) rm (va_Pc av (cPre D dT WS sz)) (Qc (va_A WS sz)) mc ms (va_A WS sz) := by
  refine MetFree.of_bodyS (code := b) (maxLocals := maxL) (ret := ret) hy ?_ ?_
  · intro args s m h hn
    obtain ⟨m9, meth, c, hn9, h1, h2, h3, h4, -, h5, h6, -⟩ := Cond.codeWith_spec (atoms_spec (ws := Cond.codeWith y b maxL ret hh :: TB) h _ List.mem_cons_self)
    cases hn.symm.trans hn9
    exact ⟨meth, c, h1, h2, h3, h4, h5, h6⟩
  · intro p e s m args below meth c s₁ B hml hv _
    have hh0 : s₁.heap = s.heap := by rw [B.state]; rfl
    have hts := atoms_spec (ws := Cond.codeWith y b maxL ret hh :: TB) B.pre
    have htab := vx_table (x := y) B (hts _ List.mem_cons_self)
    obtain ⟨rfl, hsz, hP, hK, hD0, hE⟩ := hv
    have hown : s.vm.findClass own = some m.cls := by rw [← hown0]; exact findClass_of_methodNamed B.named
    subst hsz
    have hl := lv_entry av (n := maxL) hal
    have key := body p e s m below meth c _ _ B.exec B.bytes hml B.returns B.notSynchronized htab hts (fun w h => hts w (List.mem_cons_of_mem _ h)) hown hE (fun q h => Or.inr h) hK hP hD0.self va_S.rf hl
    rw [← lg_entry_eq] at key
    obtain ⟨t, a1, o, b1, b2, b3⟩ := key s₁ hh0 (Stand.of_body B)
    exact ⟨t, o, a1, b1, b2, b3⟩
def xoP {ρ σ : Type} (o : (Nat ⊕ ρ) × σ) : Option (Nat × σ) := o.1.elim (fun k => some (k, o.2)) (fun _ => none)
theorem xoP_of {ρ σ : Type} {o : (Nat ⊕ ρ) × σ} {k : Nat} {u : σ} (h : some ((Sum.inl k : Nat ⊕ ρ), u) = some o) : some (k, u) = xoP o := by cases h; rfl
theorem xoP_inv {ρ σ : Type} {o : (Nat ⊕ ρ) × σ} {k : Nat} {u : σ} (h : some (k, u) = xoP o) : o = (Sum.inl k, u) := by
  obtain ⟨x, y⟩ := o
  cases x with
  | inl a => cases h; rfl
  | inr a => cases h
theorem sT.X {t : Nat} {f : Nat → Int32} {A : Nat → Prop} {U : State} {H : Heap} (h : sT t f A U H) : va_X t 3 f U H ∧ t < H.size ∧ ¬ A t := by
  obtain ⟨cell, h1, h2, h3, h4, h5, h6, h7, h8⟩ := h
  exact ⟨⟨cell, h1, h2, h3, h6, h7⟩, (Array.getElem?_eq_some_iff.mp h1).1, h8⟩
theorem nar_fits (x : Int32) : fits .boolean (.int (vp_nar .boolean x)) = true := by
  have h : ∀ y : Int32, y &&& 1 = 0 ∨ y &&& 1 = 1 := by
    intro y
    have h2 : (y &&& 1).toBitVec = y.toBitVec &&& 1#32 := rfl
    have h3 : y.toBitVec &&& 1#32 = 0#32 ∨ y.toBitVec &&& 1#32 = 1#32 := by
      have := BitVec.toNat_and y.toBitVec 1#32
      rw [show (1#32).toNat = 2 ^ 1 - 1 from rfl, Nat.and_two_pow_sub_one_eq_mod] at this
      rcases Nat.mod_two_eq_zero_or_one y.toBitVec.toNat with q | q
      · left; apply BitVec.eq_of_toNat_eq; rw [this]; simpa using q
      · right; apply BitVec.eq_of_toNat_eq; rw [this]; simpa using q
    rcases h3 with q | q
    · left; exact Int32.toBitVec_inj.mp (h2.trans q)
    · right; exact Int32.toBitVec_inj.mp (h2.trans q)
  show fits .boolean (.int (x &&& 1)) = true
  rcases h x with q | q <;> rw [q] <;> rfl
section STATICS
variable {p : Program} {l : Launch} {e : Env} {R : Room} {s : State} {m : MethodId} {args : Array Value} {below : List Frame} {meth : Method} {c : Code} {H : Heap} {locs : List Loc} {cells slots : Nat} {Q : State → Prop}
variable {cc : ByteArray} {pc : Nat} {ls : Array Slot} {rest : List Value} {A : Nat → Prop}
theorem va_sTl (hx : p.tables.exec = Jvm.exec) (hb : c.code = cc) {t : Nat} {f : Nat → Int32} (hT : sT t f A s s.heap) (hS : va_S A s.heap H locs) {i : Int32} (hin : vp_in i 3) (hdg : decode cc pc = .ok (.iaload, 1))
    (kk : W p l e R s m args below meth c H locs cells slots Q (F0 m (pc + 1) ls (.int (f i.toNatClampNeg) :: rest))) : W p l e R s m args below meth c H locs cells slots Q (F0 m pc ls (.int i :: .ref t :: rest)) := by
  obtain ⟨h1, h2, h3⟩ := hT.X
  exact va_sld hx hb h1 h2 h3 hS hin hdg kk
end STATICS
