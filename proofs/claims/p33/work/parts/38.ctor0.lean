-- what constructors use: new arrays, rows of references, a static array's copy
theorem va_P_cons {D : va_G} {cl : List vw_C} {q : Nat × va_E} {ws : va_W} {H : Heap} : va_P D cl (q :: ws) H ↔ va_at D cl q H ∧ va_P D cl ws H := by
  constructor
  · intro h
    exact ⟨h 0 q rfl, fun k x hk => h (k + 1) x hk⟩
  · intro ⟨h1, h2⟩ k x hk
    cases k with
    | zero => cases hk; exact h1
    | succ k => exact h2 k x hk
theorem va_D.addr {A : Nat → Prop} {ws ws' : va_W} (h : va_D A ws) (he : ws.map Prod.fst = ws'.map Prod.fst) : va_D A ws' := by
  obtain ⟨h1, h2⟩ := va_D_nodup.mp h
  refine va_D_nodup.mpr ⟨he ▸ h1, fun q hq => ?_⟩
  have : q.1 ∈ ws.map Prod.fst := by rw [he]; exact List.mem_map_of_mem hq
  obtain ⟨x, hx, e⟩ := List.mem_map.mp this
  rw [← e]; exact h2 x hx
theorem vp_cell_qe {cA : ClassId} {n : Nat} {f g : Nat → Option Nat} (h : ∀ j, j < n → f j = g j) : vp_cell cA (n, .inr (.inr (.inr (.inr f)))) = vp_cell cA (n, .inr (.inr (.inr (.inr g)))) := by
  rw [vp_cell_q, vp_cell_q]
  unfold arrV
  congr 1
  congr 1
  funext j
  show va_rf (f j.val) = va_rf (g j.val)
  rw [h j.val j.isLt]
def flatA (b : Nat) (hd : List Nat) (us : List (Nat → Nat)) : Nat → Nat := fun j => if j < b then hd.getD j 0 else (us.getD ((j - b) / 10) (fun _ => 0)) ((j - b) % 10)
theorem wj_re (gs : List va_W) (is : List Nat) (h : is.isPerm (List.range gs.length) = true) : (wjoin gs).Perm (wjoin (is.map (fun i => gs.getD i []))) := by
  have h1 := (wj_ix gs is h).flatten
  rw [wjoin_flat, wjoin_flat]
  exact h1
section CTOR
variable {p : Program} {l : Launch} {e : Env} {R : Room} {s : State} {m : MethodId} {args : Array Value} {below : List Frame} {meth : Method} {c : Code} {H : Heap} {locs : List Loc} {cells slots : Nat} {Q : State → Prop}
variable {cc : ByteArray} {pc : Nat} {ls : Array Slot} {rest : List Value} {D : va_G} {dT : Nat → ClassId} {A : Nat → Prop} {ws : va_W}
theorem ra_inj {U : State} {c1 c2 : ClassId} {n : String} (h1 : U.vm.findClass n = some c1) (h2 : U.vm.findClass n = some c2) : c1 = c2 := Option.some.inj (h1.symm.trans h2)
theorem nw_I (hx : p.tables.exec = Jvm.exec) (hb : c.code = cc) (harr : (Cond.arrayClass (newarray.typeOf .int)).before args s = true) (hK : va_K D vwCl (tyl dT) s) (hP : va_P D vwCl ws H) (hD : va_D A ws) (hS : va_S A s.heap H locs) (hA : ∀ q, s.heap.size ≤ q → A q)
    {n : Int32} {N : Nat} (hn : ¬ n < 0) (hN : n.toNatClampNeg = N) (hbytes : Nat.ble (N * 4) 536870912 = true) (hc : Nat.ble (cells + 1) R.cells = true) (hs : Nat.ble (slots + N) R.slots = true) (hdg : decode cc pc = .ok (.newarray .int, 2))
    (kk : ∀ (q : Nat) (H1 : Heap), va_P D vwCl (ws ++ [(q, .inl (dT 0, N, .inl (fun _ => 0)))]) H1 → va_D A (ws ++ [(q, .inl (dT 0, N, .inl (fun _ => 0)))]) → va_S A s.heap H1 locs → W p l e R s m args below meth c H1 locs (cells + 1) (slots + N) Q (F0 m (pc + 2) ls (.ref q :: rest))) :
    W p l e R s m args below meth c H locs cells slots Q (F0 m pc ls (.int n :: rest)) := by
  refine va_newa (atype := .int) (a0 := (N, .inl (fun _ => 0))) hx hb harr rfl hK hP hD hS hA (fun _ => rfl) hn hN (Nat.le_of_ble_eq_true hbytes) (Nat.le_of_ble_eq_true hc) (Nat.le_of_ble_eq_true hs) hdg (fun q cA H1 hK1 hP1 hD1 hS1 => ?_)
  have e1 : cA = dT 0 := ra_inj (hK1.2 5 (cA, .int) rfl).2 (hK.2 0 (dT 0, .int) rfl).2
  subst e1
  exact kk q H1 hP1 hD1 hS1
theorem nw_J (hx : p.tables.exec = Jvm.exec) (hb : c.code = cc) (harr : (Cond.arrayClass (newarray.typeOf .long)).before args s = true) (hK : va_K D vwCl (tyl dT) s) (hP : va_P D vwCl ws H) (hD : va_D A ws) (hS : va_S A s.heap H locs) (hA : ∀ q, s.heap.size ≤ q → A q)
    {n : Int32} {N : Nat} (hn : ¬ n < 0) (hN : n.toNatClampNeg = N) (hbytes : Nat.ble (N * 8) 536870912 = true) (hc : Nat.ble (cells + 1) R.cells = true) (hs : Nat.ble (slots + N) R.slots = true) (hdg : decode cc pc = .ok (.newarray .long, 2))
    (kk : ∀ (q : Nat) (H1 : Heap), va_P D vwCl (ws ++ [(q, .inl (dT 1, N, .inr (.inl (fun _ => 0))))]) H1 → va_D A (ws ++ [(q, .inl (dT 1, N, .inr (.inl (fun _ => 0))))]) → va_S A s.heap H1 locs → W p l e R s m args below meth c H1 locs (cells + 1) (slots + N) Q (F0 m (pc + 2) ls (.ref q :: rest))) :
    W p l e R s m args below meth c H locs cells slots Q (F0 m pc ls (.int n :: rest)) := by
  refine va_newa (atype := .long) (a0 := (N, .inr (.inl (fun _ => 0)))) hx hb harr rfl hK hP hD hS hA (fun _ => rfl) hn hN (Nat.le_of_ble_eq_true hbytes) (Nat.le_of_ble_eq_true hc) (Nat.le_of_ble_eq_true hs) hdg (fun q cA H1 hK1 hP1 hD1 hS1 => ?_)
  have e1 : cA = dT 1 := ra_inj (hK1.2 5 (cA, .long) rfl).2 (hK.2 1 (dT 1, .long) rfl).2
  subst e1
  exact kk q H1 hP1 hD1 hS1
theorem nw_C (hx : p.tables.exec = Jvm.exec) (hb : c.code = cc) (harr : (Cond.arrayClass (newarray.typeOf .char)).before args s = true) (hK : va_K D vwCl (tyl dT) s) (hP : va_P D vwCl ws H) (hD : va_D A ws) (hS : va_S A s.heap H locs) (hA : ∀ q, s.heap.size ≤ q → A q)
    {n : Int32} {N : Nat} (hn : ¬ n < 0) (hN : n.toNatClampNeg = N) (hbytes : Nat.ble (N * 2) 536870912 = true) (hc : Nat.ble (cells + 1) R.cells = true) (hs : Nat.ble (slots + N) R.slots = true) (hdg : decode cc pc = .ok (.newarray .char, 2))
    (kk : ∀ (q : Nat) (H1 : Heap), va_P D vwCl (ws ++ [(q, .inl (dT 2, N, .inl (fun _ => 0)))]) H1 → va_D A (ws ++ [(q, .inl (dT 2, N, .inl (fun _ => 0)))]) → va_S A s.heap H1 locs → W p l e R s m args below meth c H1 locs (cells + 1) (slots + N) Q (F0 m (pc + 2) ls (.ref q :: rest))) :
    W p l e R s m args below meth c H locs cells slots Q (F0 m pc ls (.int n :: rest)) := by
  refine va_newa (atype := .char) (a0 := (N, .inl (fun _ => 0))) hx hb harr rfl hK hP hD hS hA (fun _ => rfl) hn hN (Nat.le_of_ble_eq_true hbytes) (Nat.le_of_ble_eq_true hc) (Nat.le_of_ble_eq_true hs) hdg (fun q cA H1 hK1 hP1 hD1 hS1 => ?_)
  have e1 : cA = dT 2 := ra_inj (hK1.2 5 (cA, .char) rfl).2 (hK.2 2 (dT 2, .char) rfl).2
  subst e1
  exact kk q H1 hP1 hD1 hS1
theorem nw_Z (hx : p.tables.exec = Jvm.exec) (hb : c.code = cc) (harr : (Cond.arrayClass (newarray.typeOf .boolean)).before args s = true) (hK : va_K D vwCl (tyl dT) s) (hP : va_P D vwCl ws H) (hD : va_D A ws) (hS : va_S A s.heap H locs) (hA : ∀ q, s.heap.size ≤ q → A q)
    {n : Int32} {N : Nat} (hn : ¬ n < 0) (hN : n.toNatClampNeg = N) (hbytes : Nat.ble (N * 1) 536870912 = true) (hc : Nat.ble (cells + 1) R.cells = true) (hs : Nat.ble (slots + N) R.slots = true) (hdg : decode cc pc = .ok (.newarray .boolean, 2))
    (kk : ∀ (q : Nat) (H1 : Heap), va_P D vwCl (ws ++ [(q, .inl (dT 3, N, .inl (fun _ => 0)))]) H1 → va_D A (ws ++ [(q, .inl (dT 3, N, .inl (fun _ => 0)))]) → va_S A s.heap H1 locs → W p l e R s m args below meth c H1 locs (cells + 1) (slots + N) Q (F0 m (pc + 2) ls (.ref q :: rest))) :
    W p l e R s m args below meth c H locs cells slots Q (F0 m pc ls (.int n :: rest)) := by
  refine va_newa (atype := .boolean) (a0 := (N, .inl (fun _ => 0))) hx hb harr rfl hK hP hD hS hA (fun _ => rfl) hn hN (Nat.le_of_ble_eq_true hbytes) (Nat.le_of_ble_eq_true hc) (Nat.le_of_ble_eq_true hs) hdg (fun q cA H1 hK1 hP1 hD1 hS1 => ?_)
  have e1 : cA = dT 3 := ra_inj (hK1.2 5 (cA, .boolean) rfl).2 (hK.2 3 (dT 3, .boolean) rfl).2
  subst e1
  exact kk q H1 hP1 hD1 hS1
theorem nw_Q (hx : p.tables.exec = Jvm.exec) (hb : c.code = cc) {own : String} {index : Nat} (hown : s.vm.findClass own = some m.cls) (hcl : (Cond.classLink own index "SurprisedPlans$World").before args s = true) (hov : va_AO "SurprisedPlans$World" s) (hK : va_K D vwCl (tyl dT) s) (hP : va_P D vwCl ws H) (hD : va_D A ws) (hS : va_S A s.heap H locs) (hA : ∀ q, s.heap.size ≤ q → A q)
    {n : Int32} {N : Nat} (hn : ¬ n < 0) (hN : n.toNatClampNeg = N) (hbytes : Nat.ble (N * 4) 536870912 = true) (hc : Nat.ble (cells + 1) R.cells = true) (hs : Nat.ble (slots + N) R.slots = true) (hdg : decode cc pc = .ok (.anewarray index, 3))
    (kk : ∀ (q : Nat) (H1 : Heap), va_P D vwCl (ws ++ [(q, .inl (dT 4, N, .inr (.inr (.inr (.inr (fun _ => none))))))]) H1 → va_D A (ws ++ [(q, .inl (dT 4, N, .inr (.inr (.inr (.inr (fun _ => none))))))]) → va_S A s.heap H1 locs → W p l e R s m args below meth c H1 locs (cells + 1) (slots + N) Q (F0 m (pc + 3) ls (.ref q :: rest))) :
    W p l e R s m args below meth c H locs cells slots Q (F0 m pc ls (.int n :: rest)) := by
  refine va_newq hx hb hown hcl hov hK hP hD hS hA hn hN (Nat.le_of_ble_eq_true hbytes) (Nat.le_of_ble_eq_true hc) (Nat.le_of_ble_eq_true hs) hdg (fun q cA H1 hK1 hP1 hD1 hS1 => ?_)
  have h1 := (hK1.2 5 (cA, .object "SurprisedPlans$World") rfl).2
  have h2 := (hK.2 4 (dT 4, .object "SurprisedPlans$World") rfl).2
  obtain ⟨_, _, _, _, _, h3⟩ := h1
  obtain ⟨_, _, _, _, _, h4⟩ := h2
  have e1 : cA = dT 4 := ra_inj h3 h4
  subst e1
  exact kk q H1 hP1 hD1 hS1
theorem cl_T (hx : p.tables.exec = Jvm.exec) (hb : c.code = cc) (hml : c.maxLocals = ls.size) {own : String} {index : Nat} (hown : s.vm.findClass own = some m.cls)
    (hlink : (Cond.methodLink own index ⟨"[I", "clone", "()Ljava/lang/Object;"⟩).before args s = true) (hsame : (Cond.sameMethod "[I" "java/lang/Object" "clone" "()Ljava/lang/Object;").before args s = true)
    (hnat : (Cond.native ⟨"java/lang/Object", "clone", "()Ljava/lang/Object;"⟩).before args s = true) (hinst : (Cond.instanceMethod ⟨"java/lang/Object", "clone", "()Ljava/lang/Object;"⟩).before args s = true)
    (hsel : (Cond.selects "[I" ⟨"[I", "clone", "()Ljava/lang/Object;"⟩ ⟨"java/lang/Object", "clone", "()Ljava/lang/Object;"⟩).before args s = true) (hcl : va_Nw (.castable "[I" "java/lang/Cloneable") s)
    (hK : va_K D vwCl (tyl dT) s) (hP : va_P D vwCl ws H) (hD : va_D A ws) (hS : va_S A s.heap H locs) (hA : ∀ q, s.heap.size ≤ q → A q) {t : Nat} {f : Nat → Int32} (hT : sT t f A s s.heap)
    (hframes : 1 ≤ R.frames) (hlocals : (rest.map fun v => v.category).sum + 14 ≤ R.locals) (hcells : cells + 1 ≤ R.cells) (hslots : slots + 3 ≤ R.slots) (hdg : decode cc pc = .ok (.invokevirtual index, 3))
    (kk : ∀ (q : Nat) (H1 : Heap), va_P D vwCl (ws ++ [(q, .inl (dT 0, 3, .inl f))]) H1 → va_D A (ws ++ [(q, .inl (dT 0, 3, .inl f))]) → va_S A s.heap H1 locs → W p l e R s m args below meth c H1 locs (cells + 1) (slots + 3) Q (F0 m (pc + 3) ls (.ref q :: rest))) :
    W p l e R s m args below meth c H locs cells slots Q (F0 m pc ls (.ref t :: rest)) := by
  obtain ⟨cell, h1, h2, h3, h4, h5, h6, h7, h8⟩ := hT
  have ec : cell.cls = dT 0 := ra_inj h5 (hK.2 0 (dT 0, .int) rfl).2
  have hq : H[t]? = some cell := by rw [hS.2.1 t (Array.getElem?_eq_some_iff.mp h1).1 h8]; exact h1
  have es : cell.slots = Array.ofFn (n := 3) (fun j => Value.int (f j.val)) := by
    apply Array.ext
    · rw [h6, Array.size_ofFn]
    · intro i hi1 hi2
      have h9 := h7 i (by rw [h6] at hi1; exact hi1)
      rw [Array.getElem?_eq_getElem hi1] at h9
      rw [Option.some.inj h9, Array.getElem_ofFn]
  have ecell : ({ cls := cell.cls, slots := cell.slots } : Cell) = vp_cell (dT 0) (3, .inl f) := by
    rw [ec, es]; rfl
  obtain ⟨c0, t0', f1, f2, f3⟩ := Cond.castable_spec (va_Nw.use (A := args) rfl hcl)
  have e3 : c0 = cell.cls := ra_inj f1 h5
  intro T hTT X
  obtain ⟨-, kA, hkA, comp, hkind⟩ := State.isArrayOf_alike X.warmed.alike h2
  obtain ⟨-, kS, hkS, compS, hkindS⟩ := h2
  obtain ⟨vm', X', st⟩ := X.cloneArray hx hown hlink hsame hnat hinst hsel (a := t) (cell := cell) (by rw [hTT]; exact hq) (fun k h => by rw [h] at h4; cases h4) h3 h5 f2 (by rw [← e3]; exact f3)
    (fun i v hv => by
      have hi : i < 3 := by rw [← h6]; exact (Array.getElem?_eq_some_iff.mp hv).1
      have h9 := h7 i hi
      rw [hv] at h9
      cases h9
      have hk' : T.vm.classes[cell.cls]? = some kA := hkA
      simp [State.fitsSlot, State.slotType?, hk', hkind, fits])
    (g := F0 m pc ls (.ref t :: rest)) rfl (by rw [hml]) rfl (by rw [hb]; exact hdg) hframes (by show 2 * 0 + _ + 14 ≤ _; omega) hcells (by rw [h6]; exact hslots) (hloader := Vm.clonesLoader_of_array hkS hkindS)
  rw [ecell, h6] at X'
  generalize hH1 : H.push (vp_cell (dT 0) (3, .inl f)) = H1
  have z1 : H1.size = H.size + 1 := by rw [← hH1, Array.size_push]
  have e1 : H1[H.size]? = some (vp_cell (dT 0) (3, .inl f)) := by rw [← hH1, Array.getElem?_push_size]
  have o1 : ∀ q : Nat, q < H.size → H1[q]? = H[q]? := fun q hq => by rw [← hH1, Array.getElem?_push, if_neg (Nat.ne_of_lt hq)]
  have hk : ∀ (k : Nat) (y : Nat × va_E), ws[k]? = some y → H1[y.1]? = H[y.1]? := fun k y hy => o1 y.1 ((hP k y hy).lt)
  obtain ⟨t, b1, b2⟩ := kk H.size H1 ((hP.kept hk).app (fun k y hy => by
      have hz : k < 1 := (List.getElem?_eq_some_iff.mp hy).1
      rw [show k = 0 by omega] at hy
      cases hy
      exact e1)) (hD.push hP rfl (hA _ hS.1)) ⟨Nat.le_trans hS.1 (by omega), fun y h1 h2 => (o1 y (Nat.lt_of_lt_of_le h1 hS.1)).trans (hS.2.1 y h1 h2), hS.2.2⟩
    ((T.setVm vm').pushCell (vp_cell (dT 0) (3, .inl f))) (by rw [← hH1, ← hTT]; rfl) X'
  refine ⟨t, st t ?_, b2⟩
  rw [ecell, hTT]
  exact b1
end CTOR
/-- a constructor's body: what it returns is a world, at addresses that come with it -/
theorem mStartA {l : Launch} {y : MethodName} {b : ByteArray} {maxL : Nat} {ret : Option FieldType} {rm : Room} {av : List Value} {D : va_G} {dT : Nat → ClassId} {WS : va_W} {Qc : (Nat → Prop) → Array Value → State → Outcome → State → Prop} {mc ms : Nat} (own : String) (hown0 : y.cls = own) (hy : plainName y.cls = true) (hal : (lg_sl av).length ≤ maxL)
    (body : ∀ (p : Program) (e : Env) (s : State) (m : MethodId) (below : List Frame) (meth : Method) (c : Code) (A : Nat → Prop) (ls : Array Slot), p.tables.exec = Jvm.exec → c.code = b → c.maxLocals = maxL → meth.sig.returnType = ret → meth.locks = false → meth.name = y.name → (∀ w ∈ Cond.code y b maxL ret :: TB, w.before av.toArray s = true) → (∀ w ∈ TB, w.before av.toArray s = true) → s.vm.findClass own = some m.cls → EN A s s.heap → (∀ q : Nat, s.heap.size ≤ q → A q) → va_K D vwCl (tyl dT) s → va_P D vwCl WS s.heap → va_D A WS → va_S A s.heap s.heap [] → lv_has ls maxL (lv_args 0 av) → va_AO "SurprisedPlans$World" s →
      W p l e (headSpec (WSm y b maxL ret) rm).room s m av.toArray below meth c s.heap [] 0 0 (MQ below (Qc A) av.toArray s mc ms A) (F0 m 0 ls [])) (sz : Nat) :
    Met l y (WSm y b maxL ret) rm (va_Pc av (fun U => cPre D dT WS sz U ∧ va_AO "SurprisedPlans$World" U)) (Qc (va_A WS sz)) mc ms (va_A WS sz) := by
  refine Met.ofW (cc := b) (maxL := maxL) (ret := ret) hy rfl ?_
  intro p e s m args below meth c s₁ B hml hv
  obtain ⟨rfl, ⟨hsz, hP, hK, hD0, hE⟩, hov⟩ := hv
  have hts := atoms_spec (ws := WSm y b maxL ret) B.pre
  have hown : s.vm.findClass own = some m.cls := by rw [← hown0]; exact findClass_of_methodNamed B.named
  subst hsz
  have hl := lv_entry av (n := maxL) hal
  rw [lg_entry_eq]
  exact body p e s m below meth c _ _ B.exec B.bytes hml B.returns B.notSynchronized (name_of_methodNamed B.named B.method).1 hts (fun w h => hts w (List.mem_cons_of_mem _ h)) hown hE (fun q h => Or.inr h) hK hP hD0.self va_S.rf hl hov
theorem cPre.SA {D : va_G} {dT : Nat → ClassId} {wc : va_W} {A : Nat → Prop} {s : State} {H : Heap} {locs : List Loc} {As : List Value} (hP : va_P D vwCl wc H) (hD : va_D A wc) (hK : va_K D vwCl (tyl dT) s) (hE : EN A s s.heap) (hS : va_S A s.heap H locs) (hF : ∀ q, va_A wc H.size q → A q) (hov : va_AO "SurprisedPlans$World" s) : PreS s H (va_Pc As (fun U => cPre D dT wc H.size U ∧ va_AO "SurprisedPlans$World" U)) As :=
  ⟨fun a U g mk q => by
    obtain ⟨q0, q1, q2⟩ := q
    exact ⟨q0, (cPre.blind (av := As) a U g mk ⟨q0, q1⟩).2, va_AO.moved (u := U) (U := U.calling g mk a) (Vm.Alike.refl U.vm) q2⟩, fun U hU hW => ⟨rfl, ((cPre.S (As := As) hP hD hK hE hS hF).2 U hU hW).2, va_AO.moved hW.alike hov⟩⟩
/-- a constructor's end -/
theorem rt_c {p : Program} {l : Launch} {e : Env} {R : Room} {s : State} {m : MethodId} {args : Array Value} {below : List Frame} {meth : Method} {c : Code} {H : Heap} {locs : List Loc} {cells slots : Nat} {cc : ByteArray} {pc : Nat} {ls : Array Slot} {D : va_G} {dT : Nat → ClassId} {A : Nat → Prop} {S : Type} {post : S → Prop} {wu : S → va_W} (hx : p.tables.exec = Jvm.exec) (hb : c.code = cc) (hr : meth.sig.returnType = none) (hlk : meth.locks = false) (hK : va_K D vwCl (tyl dT) s) (hS : va_S A s.heap H locs) (u : S) (hu : post u) (hP : va_P D vwCl (wu u) H) (hD : va_D A (wu u)) (hdg : decode cc pc = .ok (.return_, 1)) {k n : Nat} (hk : Nat.ble cells k = true) (hn : Nat.ble slots n = true) :
    W p l e R s m args below meth c H locs cells slots (MQ below (va_Qv post (fun u t => cAt D dT A (wu u) t) A) args s k n A) (F0 m pc ls []) :=
  W.widen (k := k) (n := n) (Nat.le_of_ble_eq_true hk) (Nat.le_of_ble_eq_true hn) (rt_v hx hb hr hlk hK hS u hu hP hD hdg)
