def cPreC (D : va_G) (dT : Nat → ClassId) (sz b L : Nat) (xs : Nat → Int32) (U : State) : Prop := cPre D dT ([] : va_W) sz U ∧ va_X b L xs U U.heap ∧ b < U.heap.size
theorem cPreC.blind {D : va_G} {dT : Nat → ClassId} {sz b L : Nat} {xs : Nat → Int32} {av : List Value} : FrameBlind (va_Pc av (cPreC D dT sz b L xs)) := fun a U g mk q => by
  obtain ⟨q0, q1, q2, q3⟩ := q
  exact ⟨q0, (cPre.blind (av := av) a U g mk ⟨q0, q1⟩).2, va_X.moved (u := U) (U := U.calling g mk a) (Vm.Alike.refl U.vm) q2, q3⟩
theorem cPreC.S {D : va_G} {dT : Nat → ClassId} {A : Nat → Prop} {s : State} {H : Heap} {locs : List Loc} {As : List Value} {b L : Nat} {xs : Nat → Int32} (hP : va_P D vwCl ([] : va_W) H) (hD : va_D A ([] : va_W)) (hK : va_K D vwCl (tyl dT) s) (hE : EN A s s.heap) (hS : va_S A s.heap H locs) (hF : ∀ q, va_A ([] : va_W) H.size q → A q) (hX : va_X b L xs s s.heap) (hbl : b < s.heap.size) (hbA : ¬ A b) : PreS s H (va_Pc As (cPreC D dT H.size b L xs)) As :=
  ⟨cPreC.blind, fun U hU hW => by
    obtain ⟨q0, q1⟩ := (cPre.S (As := As) hP hD hK hE hS hF).2 U hU hW
    refine ⟨q0, q1, ?_, ?_⟩
    · rw [hU]
      exact va_X.moved hW.alike (hX.kept (hS.2.1 b hbl hbA))
    · rw [hU]
      exact Nat.lt_of_lt_of_le hbl hS.1⟩
def f_L_cell (xs : Nat → Int32) (L : Nat) (v1 : Int32) : Option (Int32 × Unit) :=
  (if (Int32.ofNat L) ≤ v1 then (some (((((15518357 : Int32) * (v1 + (3 : Int32))) + (10627 : Int32)) &&& (2147483647 : Int32)), ())) else (if inb v1 L = true then (some (((xs v1.toNatClampNeg) &&& (2147483647 : Int32)), ())) else none))
set_option maxHeartbeats 8000000 in
set_option maxRecDepth 100000 in
theorem c_L_cell (l : Launch) (hlt : l.stackTraces = false) (D : va_G) (dT : Nat → ClassId) (b L : Nat) (xs : Nat → Int32) (v1 : Int32) (o : (Int32 × (Unit))) (h : f_L_cell xs L v1 = some o) (sz : Nat) : Met l yL_cell (WSm yL_cell cL_cell 2 (some .int)) { frames := 0, cells := 0, slots := 0, locals := 0 } (va_Pc [.ref b, .int v1] (cPreC D dT sz b L xs)) (va_Qi (fun (r : Int32) (u : Unit) => r = o.1 ∧ u = o.2) (fun u t => cAt D dT (va_A ([] : va_W) sz) ([] : va_W) t) (va_A ([] : va_W) sz)) 0 0 (va_A ([] : va_W) sz) := by
  refine Met.ofW (cc := cL_cell) (maxL := 2) (ret := some .int) (by decide) rfl ?_
  intro p e s m args below meth c s₁ B hml hv
  obtain ⟨rfl, ⟨hsz, hP, hK, hD0, hE⟩, hX, hbl⟩ := hv
  have hts := atoms_spec (ws := WSm yL_cell cL_cell 2 (some .int)) B.pre
  have hown : s.vm.findClass RL = some m.cls := findClass_of_methodNamed B.named
  subst hsz
  have hl := lv_entry ([.ref b, .int v1] : List Value) (n := 2) (Nat.le_of_ble_eq_true rfl)
  rw [lg_entry_eq]
  generalize (lg_sl ([.ref b, .int v1] : List Value) ++ List.replicate (2 - (lg_sl ([.ref b, .int v1] : List Value)).length) Slot.unset).toArray = ls at hl ⊢
  have hl : lv_has ls 2 [(0, .ref b), (1, .int v1)] := hl
  have hqs : ∀ w ∈ TB, w.before ([.ref b, .int v1] : List Value).toArray s = true := fun w h => hts w (List.mem_cons_of_mem _ h)
  have hx := B.exec
  have hb := B.bytes
  have hr := B.returns
  have hlk := B.notSynchronized
  have hbA : ¬ va_A ([] : va_W) s.heap.size b := fun q => by
    rcases q with ⟨k, e9, q⟩ | q
    · simp at q
    · omega
  have hD : va_D (va_A ([] : va_W) s.heap.size) ([] : va_W) := hD0.self
  have hS : va_S (va_A ([] : va_W) s.heap.size) s.heap s.heap [] := va_S.rf
  unfold f_L_cell at h
  refine lv_iload_n hx hb dL_cell_0 rfl (lv_at hl 1 rfl) ?_
  refine lv_aload_n hx hb dL_cell_1 rfl (lv_at hl 0 rfl) ?_
  refine va_slen hx hb hX hbl hbA hS dL_cell_2 ?_
  refine lv_icmp_ge (tgt := 12) hx hb dL_cell_3 (by decide) (fun c1 => ?_) (fun c1 => ?_)
  · replace h := iteT c1 h
    refine lv_ldc (v := 15518357) hx hb hown (hqs _ w_594) dL_cell_12 ?_
    refine lv_iload_n hx hb dL_cell_14 rfl (lv_at hl 1 rfl) ?_
    refine lv_iconst (v := 3) hx hb dL_cell_15 (by decide) ?_
    refine lv_iadd hx hb dL_cell_16 ?_
    refine lv_imul hx hb dL_cell_17 ?_
    refine lv_sipush (v := 10627) hx hb dL_cell_18 (by decide) ?_
    refine lv_iadd hx hb dL_cell_21 ?_
    refine lv_ldc (v := 2147483647) hx hb hown (hqs _ w_595) dL_cell_22 ?_
    refine lv_iand hx hb dL_cell_24 ?_
    exact rt_i hx hb hr hlk hK hS (() : Unit) (ret2 h) hP hD dL_cell_25
  · replace h := iteF c1 h
    refine lv_aload_n hx hb dL_cell_6 rfl (lv_at hl 0 rfl) ?_
    refine lv_iload_n hx hb dL_cell_7 rfl (lv_at hl 1 rfl) ?_
    obtain ⟨g1, h⟩ := chk h
    refine va_sld hx hb hX hbl hbA hS (inb_in g1) dL_cell_8 ?_
    refine lv_goto (tgt := 22) hx hb dL_cell_9 (by decide) ?_
    refine lv_ldc (v := 2147483647) hx hb hown (hqs _ w_595) dL_cell_22 ?_
    refine lv_iand hx hb dL_cell_24 ?_
    exact rt_i hx hb hr hlk hK hS (() : Unit) (ret2 h) hP hD dL_cell_25
