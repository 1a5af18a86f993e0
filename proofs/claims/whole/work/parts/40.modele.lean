def f_X9_weeksOn_J75 (n_p1 : Nat) (k9 : Int32 → (Nat → Int64) → Option (Int32 × ((Nat → Int64)))) (x1 : Int32) (x2 : Int32) (x3 : Int32) (s0 : Int64) (s1 : Int32) (g_p1 : Nat → Int64) : Option (Int32 × ((Nat → Int64))) :=
    (if inb s1 n_p1 = true then (if inb ((155 : Int32) + x3) n_p1 = true then (if (lg_cmp ((vp_updL g_p1 s1.toNatClampNeg s0) ((155 : Int32) + x3).toNatClampNeg) (0 : Int64)) = (0 : Int32) then (if inb ((204 : Int32) + x3) n_p1 = true then (k9 (x3 + (1 : Int32)) (vp_updL (vp_updL g_p1 s1.toNatClampNeg s0) ((204 : Int32) + x3).toNatClampNeg (0 : Int64))) else none) else (if inb ((204 : Int32) + x3) n_p1 = true then (if inb ((204 : Int32) + x3) n_p1 = true then (k9 (x3 + (1 : Int32)) (vp_updL (vp_updL g_p1 s1.toNatClampNeg s0) ((204 : Int32) + x3).toNatClampNeg ((vp_updL g_p1 s1.toNatClampNeg s0) ((204 : Int32) + x3).toNatClampNeg))) else none) else none)) else none) else none)
def f_X9_weeksOn_J40 (n_p1 : Nat) (k9 : Int32 → (Nat → Int64) → Option (Int32 × ((Nat → Int64)))) (x1 : Int32) (x2 : Int32) (x3 : Int32) (s0 : Int64) (s1 : Int64) (s2 : Int32) (g_p1 : Nat → Int64) : Option (Int32 × ((Nat → Int64))) :=
    (if inb s2 n_p1 = true then (if inb ((204 : Int32) + x3) n_p1 = true then (if inb (304 : Int32) n_p1 = true then (if (lg_cmp ((vp_updL g_p1 s2.toNatClampNeg (s1 + s0)) ((204 : Int32) + x3).toNatClampNeg) ((vp_updL g_p1 s2.toNatClampNeg (s1 + s0)) (304 : Int32).toNatClampNeg)) ≤ (0 : Int32) then (if inb ((155 : Int32) + x3) n_p1 = true then (f_X9_weeksOn_J75 n_p1 k9 x1 x2 x3 ((vp_updL g_p1 s2.toNatClampNeg (s1 + s0)) ((155 : Int32) + x3).toNatClampNeg) ((155 : Int32) + x3) (vp_updL g_p1 s2.toNatClampNeg (s1 + s0))) else none) else (f_X9_weeksOn_J75 n_p1 k9 x1 x2 x3 (0 : Int64) ((155 : Int32) + x3) (vp_updL g_p1 s2.toNatClampNeg (s1 + s0)))) else none) else none) else none)
def f_X9_weeksOn_L9 (n_p1 : Nat) (x1 : Int32) (x2 : Int32) (k112 : (Nat → Int64) → Option (Int32 × ((Nat → Int64)))) : Nat → Int32 → (Nat → Int64) → Option (Int32 × ((Nat → Int64)))
  | 0, _, _ => none
  | n + 1, x3, g_p1 =>
    (if (49 : Int32) ≤ x3 then (k112 g_p1) else (if inb ((204 : Int32) + x3) n_p1 = true then (if inb ((155 : Int32) + x3) n_p1 = true then (if (lg_cmp (g_p1 ((155 : Int32) + x3).toNatClampNeg) (0 : Int64)) ≤ (0 : Int32) then (f_X9_weeksOn_J40 n_p1 (fun x3 g_p1 => f_X9_weeksOn_L9 n_p1 x1 x2 k112 n x3 g_p1) x1 x2 x3 (0 : Int64) (g_p1 ((204 : Int32) + x3).toNatClampNeg) ((204 : Int32) + x3) g_p1) else (f_X9_weeksOn_J40 n_p1 (fun x3 g_p1 => f_X9_weeksOn_L9 n_p1 x1 x2 k112 n x3 g_p1) x1 x2 x3 (1 : Int64) (g_p1 ((204 : Int32) + x3).toNatClampNeg) ((204 : Int32) + x3) g_p1)) else none) else none))
def f_X9_weeksOn_L2 (n_p1 : Nat) (x1 : Int32) (k127 : (Nat → Int64) → Option (Int32 × ((Nat → Int64)))) : Nat → Int32 → (Nat → Int64) → Option (Int32 × ((Nat → Int64)))
  | 0, _, _ => none
  | n + 1, x2, g_p1 =>
    (if x1 ≤ x2 then (k127 g_p1) else (f_X9_weeksOn_L9 n_p1 x1 x2 (fun (y17g_p1 : Nat → Int64) => (if inb (305 : Int32) n_p1 = true then (if inb (305 : Int32) n_p1 = true then (f_X9_weeksOn_L2 n_p1 x1 k127 n (x2 + (1 : Int32)) (vp_updL y17g_p1 (305 : Int32).toNatClampNeg ((y17g_p1 (305 : Int32).toNatClampNeg) + (1 : Int64)))) else none) else none)) FUEL (0 : Int32) g_p1))
def f_X9_weeksOn (n_p1 : Nat) (g_p1 : Nat → Int64) (v1 : Int32) : Option (Int32 × ((Nat → Int64))) :=
  (f_X9_weeksOn_L2 n_p1 v1 (fun (y20g_p1 : Nat → Int64) => ((f_X9_count n_p1 y20g_p1 (155 : Int32)).bind fun o21 => (some ((Int64.toInt32 o21.1), y20g_p1)))) FUEL (0 : Int32) g_p1)
set_option maxHeartbeats 8000000 in
set_option maxRecDepth 100000 in
theorem c_X9_weeksOn (l : Launch) (hlt : l.stackTraces = false) (D : va_G) (dT : Nat → ClassId) (a_p1 : Nat) (n_p1 : Nat) (g_p1 : Nat → Int64) (v1 : Int32) (o : (Int32 × ((Nat → Int64)))) (h : f_X9_weeksOn n_p1 g_p1 v1 = some o) (sz : Nat) : Met l yX9_weeksOn (WSm yX9_weeksOn cX9_weeksOn 4 (some .int)) { frames := 1, cells := 0, slots := 0, locals := 24 } (va_Pc [.ref a_p1, .int v1] (cPre D dT (cJ_ dT a_p1 n_p1 g_p1) sz)) (va_Qi (fun (r : Int32) (u : (Nat → Int64)) => r = o.1 ∧ u = o.2) (fun u t => cAt D dT (va_A (cJ_ dT a_p1 n_p1 g_p1) sz) (cJ_ dT a_p1 n_p1 u) t) (va_A (cJ_ dT a_p1 n_p1 g_p1) sz)) 0 0 (va_A (cJ_ dT a_p1 n_p1 g_p1) sz) := by
  refine mStart (WS := (cJ_ dT a_p1 n_p1 g_p1)) (Qc := fun A => va_Qi (fun (r : Int32) (u : (Nat → Int64)) => r = o.1 ∧ u = o.2) (fun u t => cAt D dT A (cJ_ dT a_p1 n_p1 u) t) A) RX9 rfl (by decide) (Nat.le_of_ble_eq_true rfl) ?_ sz
  intro p e s m below meth c A ls hx hb hml hr hlk hnm hts hqs hown hE hA hK hP hD hS hl
  have hl : lv_has ls 4 [(0, .ref a_p1), (1, .int v1)] := hl
  have L_f_X9_weeksOn_J75 : ∀ (n_p1 : Nat) (x1 : Int32) (x2 : Int32) (x3 : Int32) (s0 : Int64) (s1 : Int32) (g_p1 : Nat → Int64) (k9 : Int32 → (Nat → Int64) → Option (Int32 × ((Nat → Int64)))) (hk9 : ∀ (x3 : Int32) (g_p1 : Nat → Int64) (H : Heap) (locs : List Loc) (ls : Array Slot), k9 x3 g_p1 = some o → va_P D vwCl (cJ_ dT a_p1 n_p1 g_p1) H → va_D A (cJ_ dT a_p1 n_p1 g_p1) → va_S A s.heap H locs → lv_has ls 4 [(0, .ref a_p1), (1, .int x1), (2, .int x2), (3, .int x3)] → W p l e (headSpec (WSm yX9_weeksOn cX9_weeksOn 4 (some .int)) { frames := 1, cells := 0, slots := 0, locals := 24 }).room s m [.ref a_p1, .int v1].toArray below meth c H locs 0 0 (MQ below (va_Qi (fun (r : Int32) (u : (Nat → Int64)) => r = o.1 ∧ u = o.2) (fun u t => cAt D dT A (cJ_ dT a_p1 n_p1 u) t) A) [.ref a_p1, .int v1].toArray s 0 0 A) (F0 m 9 ls [])) (H : Heap) (locs : List Loc) (ls : Array Slot), f_X9_weeksOn_J75 n_p1 k9 x1 x2 x3 s0 s1 g_p1 = some o → va_P D vwCl (cJ_ dT a_p1 n_p1 g_p1) H → va_D A (cJ_ dT a_p1 n_p1 g_p1) → va_S A s.heap H locs → lv_has ls 4 [(0, .ref a_p1), (1, .int x1), (2, .int x2), (3, .int x3)] → W p l e (headSpec (WSm yX9_weeksOn cX9_weeksOn 4 (some .int)) { frames := 1, cells := 0, slots := 0, locals := 24 }).room s m [.ref a_p1, .int v1].toArray below meth c H locs 0 0 (MQ below (va_Qi (fun (r : Int32) (u : (Nat → Int64)) => r = o.1 ∧ u = o.2) (fun u t => cAt D dT A (cJ_ dT a_p1 n_p1 u) t) A) [.ref a_p1, .int v1].toArray s 0 0 A) (F0 m 75 ls [.long s0, .int s1, .ref a_p1]) := by
    intro n_p1 x1 x2 x3 s0 s1 g_p1 k9 hk9 H locs ls h hP hD hS hl
    unfold f_X9_weeksOn_J75 at h
    obtain ⟨g11, h⟩ := chk h
    refine va_last hx hb hK hP hD hS 0 1 rfl rfl (inb_in g11) dX9_weeksOn_75 (fun H locs hP hD hS => ?_)
    have hP : va_P D vwCl (cJ_ dT a_p1 n_p1 (vp_updL g_p1 s1.toNatClampNeg s0)) H := hP
    have hD : va_D A (cJ_ dT a_p1 n_p1 (vp_updL g_p1 s1.toNatClampNeg s0)) := hD
    refine lv_aload_n hx hb dX9_weeksOn_76 rfl (lv_at hl 0 rfl) ?_
    refine lv_sipush (v := 204) hx hb dX9_weeksOn_77 (by decide) ?_
    refine lv_iload_n hx hb dX9_weeksOn_80 rfl (lv_at hl 3 rfl) ?_
    refine lv_iadd hx hb dX9_weeksOn_81 ?_
    refine lv_aload_n hx hb dX9_weeksOn_82 rfl (lv_at hl 0 rfl) ?_
    refine lv_sipush (v := 155) hx hb dX9_weeksOn_83 (by decide) ?_
    refine lv_iload_n hx hb dX9_weeksOn_86 rfl (lv_at hl 3 rfl) ?_
    refine lv_iadd hx hb dX9_weeksOn_87 ?_
    obtain ⟨g12, h⟩ := chk h
    refine va_lald hx hb hK hP 0 1 rfl rfl (inb_in g12) dX9_weeksOn_88 ?_
    refine lv_lconst (v := 0) hx hb dX9_weeksOn_89 (by decide) ?_
    refine W.lcmp hx hb dX9_weeksOn_90 ?_
    refine lv_if_ne (tgt := 98) hx hb dX9_weeksOn_91 (by decide) (fun c13 => ?_) (fun c13 => ?_)
    · replace h := iteF c13 h
      refine lv_aload_n hx hb dX9_weeksOn_98 rfl (lv_at hl 0 rfl) ?_
      refine lv_sipush (v := 204) hx hb dX9_weeksOn_99 (by decide) ?_
      refine lv_iload_n hx hb dX9_weeksOn_102 rfl (lv_at hl 3 rfl) ?_
      refine lv_iadd hx hb dX9_weeksOn_103 ?_
      obtain ⟨g14, h⟩ := chk h
      refine va_lald hx hb hK hP 0 1 rfl rfl (inb_in g14) dX9_weeksOn_104 ?_
      obtain ⟨g15, h⟩ := chk h
      refine va_last hx hb hK hP hD hS 0 1 rfl rfl (inb_in g15) dX9_weeksOn_105 (fun H locs hP hD hS => ?_)
      have hP : va_P D vwCl (cJ_ dT a_p1 n_p1 (vp_updL (vp_updL g_p1 s1.toNatClampNeg s0) ((204 : Int32) + x3).toNatClampNeg ((vp_updL g_p1 s1.toNatClampNeg s0) ((204 : Int32) + x3).toNatClampNeg))) H := hP
      have hD : va_D A (cJ_ dT a_p1 n_p1 (vp_updL (vp_updL g_p1 s1.toNatClampNeg s0) ((204 : Int32) + x3).toNatClampNeg ((vp_updL g_p1 s1.toNatClampNeg s0) ((204 : Int32) + x3).toNatClampNeg))) := hD
      refine lv_iinc (v := (x3 + (1 : Int32))) (lv' := [(3, .int (x3 + (1 : Int32))), (0, .ref a_p1), (1, .int x1), (2, .int x2)]) hx hb dX9_weeksOn_106 hl (k := 3) rfl rfl (by decide) rfl (fun ls hl => ?_)
      refine lv_goto (tgt := 9) hx hb dX9_weeksOn_109 (by decide) ?_
      exact hk9 (x3 + (1 : Int32)) (vp_updL (vp_updL g_p1 s1.toNatClampNeg s0) ((204 : Int32) + x3).toNatClampNeg ((vp_updL g_p1 s1.toNatClampNeg s0) ((204 : Int32) + x3).toNatClampNeg)) _ _ _ h hP hD hS (lv_sub hl [1, 2, 3, 0] rfl)
    · replace h := iteT c13 h
      refine lv_lconst (v := 0) hx hb dX9_weeksOn_94 (by decide) ?_
      refine lv_goto (tgt := 105) hx hb dX9_weeksOn_95 (by decide) ?_
      obtain ⟨g16, h⟩ := chk h
      refine va_last hx hb hK hP hD hS 0 1 rfl rfl (inb_in g16) dX9_weeksOn_105 (fun H locs hP hD hS => ?_)
      have hP : va_P D vwCl (cJ_ dT a_p1 n_p1 (vp_updL (vp_updL g_p1 s1.toNatClampNeg s0) ((204 : Int32) + x3).toNatClampNeg (0 : Int64))) H := hP
      have hD : va_D A (cJ_ dT a_p1 n_p1 (vp_updL (vp_updL g_p1 s1.toNatClampNeg s0) ((204 : Int32) + x3).toNatClampNeg (0 : Int64))) := hD
      refine lv_iinc (v := (x3 + (1 : Int32))) (lv' := [(3, .int (x3 + (1 : Int32))), (0, .ref a_p1), (1, .int x1), (2, .int x2)]) hx hb dX9_weeksOn_106 hl (k := 3) rfl rfl (by decide) rfl (fun ls hl => ?_)
      refine lv_goto (tgt := 9) hx hb dX9_weeksOn_109 (by decide) ?_
      exact hk9 (x3 + (1 : Int32)) (vp_updL (vp_updL g_p1 s1.toNatClampNeg s0) ((204 : Int32) + x3).toNatClampNeg (0 : Int64)) _ _ _ h hP hD hS (lv_sub hl [1, 2, 3, 0] rfl)
  have L_f_X9_weeksOn_J40 : ∀ (n_p1 : Nat) (x1 : Int32) (x2 : Int32) (x3 : Int32) (s0 : Int64) (s1 : Int64) (s2 : Int32) (g_p1 : Nat → Int64) (k9 : Int32 → (Nat → Int64) → Option (Int32 × ((Nat → Int64)))) (hk9 : ∀ (x3 : Int32) (g_p1 : Nat → Int64) (H : Heap) (locs : List Loc) (ls : Array Slot), k9 x3 g_p1 = some o → va_P D vwCl (cJ_ dT a_p1 n_p1 g_p1) H → va_D A (cJ_ dT a_p1 n_p1 g_p1) → va_S A s.heap H locs → lv_has ls 4 [(0, .ref a_p1), (1, .int x1), (2, .int x2), (3, .int x3)] → W p l e (headSpec (WSm yX9_weeksOn cX9_weeksOn 4 (some .int)) { frames := 1, cells := 0, slots := 0, locals := 24 }).room s m [.ref a_p1, .int v1].toArray below meth c H locs 0 0 (MQ below (va_Qi (fun (r : Int32) (u : (Nat → Int64)) => r = o.1 ∧ u = o.2) (fun u t => cAt D dT A (cJ_ dT a_p1 n_p1 u) t) A) [.ref a_p1, .int v1].toArray s 0 0 A) (F0 m 9 ls [])) (H : Heap) (locs : List Loc) (ls : Array Slot), f_X9_weeksOn_J40 n_p1 k9 x1 x2 x3 s0 s1 s2 g_p1 = some o → va_P D vwCl (cJ_ dT a_p1 n_p1 g_p1) H → va_D A (cJ_ dT a_p1 n_p1 g_p1) → va_S A s.heap H locs → lv_has ls 4 [(0, .ref a_p1), (1, .int x1), (2, .int x2), (3, .int x3)] → W p l e (headSpec (WSm yX9_weeksOn cX9_weeksOn 4 (some .int)) { frames := 1, cells := 0, slots := 0, locals := 24 }).room s m [.ref a_p1, .int v1].toArray below meth c H locs 0 0 (MQ below (va_Qi (fun (r : Int32) (u : (Nat → Int64)) => r = o.1 ∧ u = o.2) (fun u t => cAt D dT A (cJ_ dT a_p1 n_p1 u) t) A) [.ref a_p1, .int v1].toArray s 0 0 A) (F0 m 40 ls [.long s0, .long s1, .int s2, .ref a_p1]) := by
    intro n_p1 x1 x2 x3 s0 s1 s2 g_p1 k9 hk9 H locs ls h hP hD hS hl
    unfold f_X9_weeksOn_J40 at h
    refine lv_ladd hx hb dX9_weeksOn_40 ?_
    obtain ⟨g6, h⟩ := chk h
    refine va_last hx hb hK hP hD hS 0 1 rfl rfl (inb_in g6) dX9_weeksOn_41 (fun H locs hP hD hS => ?_)
    have hP : va_P D vwCl (cJ_ dT a_p1 n_p1 (vp_updL g_p1 s2.toNatClampNeg (s1 + s0))) H := hP
    have hD : va_D A (cJ_ dT a_p1 n_p1 (vp_updL g_p1 s2.toNatClampNeg (s1 + s0))) := hD
    refine lv_aload_n hx hb dX9_weeksOn_42 rfl (lv_at hl 0 rfl) ?_
    refine lv_sipush (v := 155) hx hb dX9_weeksOn_43 (by decide) ?_
    refine lv_iload_n hx hb dX9_weeksOn_46 rfl (lv_at hl 3 rfl) ?_
    refine lv_iadd hx hb dX9_weeksOn_47 ?_
    refine lv_aload_n hx hb dX9_weeksOn_48 rfl (lv_at hl 0 rfl) ?_
    refine lv_sipush (v := 204) hx hb dX9_weeksOn_49 (by decide) ?_
    refine lv_iload_n hx hb dX9_weeksOn_52 rfl (lv_at hl 3 rfl) ?_
    refine lv_iadd hx hb dX9_weeksOn_53 ?_
    obtain ⟨g7, h⟩ := chk h
    refine va_lald hx hb hK hP 0 1 rfl rfl (inb_in g7) dX9_weeksOn_54 ?_
    refine lv_aload_n hx hb dX9_weeksOn_55 rfl (lv_at hl 0 rfl) ?_
    refine lv_sipush (v := 304) hx hb dX9_weeksOn_56 (by decide) ?_
    obtain ⟨g8, h⟩ := chk h
    refine va_lald hx hb hK hP 0 1 rfl rfl (inb_in g8) dX9_weeksOn_59 ?_
    refine W.lcmp hx hb dX9_weeksOn_60 ?_
    refine lv_if_le (tgt := 68) hx hb dX9_weeksOn_61 (by decide) (fun c9 => ?_) (fun c9 => ?_)
    · replace h := iteT c9 h
      refine lv_aload_n hx hb dX9_weeksOn_68 rfl (lv_at hl 0 rfl) ?_
      refine lv_sipush (v := 155) hx hb dX9_weeksOn_69 (by decide) ?_
      refine lv_iload_n hx hb dX9_weeksOn_72 rfl (lv_at hl 3 rfl) ?_
      refine lv_iadd hx hb dX9_weeksOn_73 ?_
      obtain ⟨g10, h⟩ := chk h
      refine va_lald hx hb hK hP 0 1 rfl rfl (inb_in g10) dX9_weeksOn_74 ?_
      refine L_f_X9_weeksOn_J75 n_p1 x1 x2 x3 ((vp_updL g_p1 s2.toNatClampNeg (s1 + s0)) ((155 : Int32) + x3).toNatClampNeg) ((155 : Int32) + x3) (vp_updL g_p1 s2.toNatClampNeg (s1 + s0)) _ hk9 _ _ _ h hP hD hS (lv_sub hl [0, 1, 2, 3] rfl)
    · replace h := iteF c9 h
      refine lv_lconst (v := 0) hx hb dX9_weeksOn_64 (by decide) ?_
      refine lv_goto (tgt := 75) hx hb dX9_weeksOn_65 (by decide) ?_
      refine L_f_X9_weeksOn_J75 n_p1 x1 x2 x3 (0 : Int64) ((155 : Int32) + x3) (vp_updL g_p1 s2.toNatClampNeg (s1 + s0)) _ hk9 _ _ _ h hP hD hS (lv_sub hl [0, 1, 2, 3] rfl)
  have L_f_X9_weeksOn_L9 : ∀ (n_p1 : Nat) (x1 : Int32) (x2 : Int32) (k112 : (Nat → Int64) → Option (Int32 × ((Nat → Int64)))) (hk112 : ∀ (g_p1 : Nat → Int64) (H : Heap) (locs : List Loc) (ls : Array Slot), k112 g_p1 = some o → va_P D vwCl (cJ_ dT a_p1 n_p1 g_p1) H → va_D A (cJ_ dT a_p1 n_p1 g_p1) → va_S A s.heap H locs → lv_has ls 4 [(0, .ref a_p1), (1, .int x1), (2, .int x2)] → W p l e (headSpec (WSm yX9_weeksOn cX9_weeksOn 4 (some .int)) { frames := 1, cells := 0, slots := 0, locals := 24 }).room s m [.ref a_p1, .int v1].toArray below meth c H locs 0 0 (MQ below (va_Qi (fun (r : Int32) (u : (Nat → Int64)) => r = o.1 ∧ u = o.2) (fun u t => cAt D dT A (cJ_ dT a_p1 n_p1 u) t) A) [.ref a_p1, .int v1].toArray s 0 0 A) (F0 m 112 ls [])) (n : Nat), ∀ (x3 : Int32) (g_p1 : Nat → Int64) (H : Heap) (locs : List Loc) (ls : Array Slot), f_X9_weeksOn_L9 n_p1 x1 x2 k112 n x3 g_p1 = some o → va_P D vwCl (cJ_ dT a_p1 n_p1 g_p1) H → va_D A (cJ_ dT a_p1 n_p1 g_p1) → va_S A s.heap H locs → lv_has ls 4 [(0, .ref a_p1), (1, .int x1), (2, .int x2), (3, .int x3)] → W p l e (headSpec (WSm yX9_weeksOn cX9_weeksOn 4 (some .int)) { frames := 1, cells := 0, slots := 0, locals := 24 }).room s m [.ref a_p1, .int v1].toArray below meth c H locs 0 0 (MQ below (va_Qi (fun (r : Int32) (u : (Nat → Int64)) => r = o.1 ∧ u = o.2) (fun u t => cAt D dT A (cJ_ dT a_p1 n_p1 u) t) A) [.ref a_p1, .int v1].toArray s 0 0 A) (F0 m 9 ls []) := by
    intro n_p1 x1 x2 k112 hk112 n
    induction n with
    | zero => intro x3 g_p1 H locs ls h; exact nomatch h
    | succ n ih =>
      intro x3 g_p1 H locs ls h hP hD hS hl
      unfold f_X9_weeksOn_L9 at h
      refine lv_iload_n hx hb dX9_weeksOn_9 rfl (lv_at hl 3 rfl) ?_
      refine lv_bipush (v := 49) hx hb dX9_weeksOn_10 (by decide) ?_
      refine lv_icmp_ge (tgt := 112) hx hb dX9_weeksOn_12 (by decide) (fun c2 => ?_) (fun c2 => ?_)
      · replace h := iteT c2 h
        exact hk112 g_p1 _ _ _ h hP hD hS (lv_sub hl [0, 1, 2] rfl)
      · replace h := iteF c2 h
        refine lv_aload_n hx hb dX9_weeksOn_15 rfl (lv_at hl 0 rfl) ?_
        refine lv_sipush (v := 204) hx hb dX9_weeksOn_16 (by decide) ?_
        refine lv_iload_n hx hb dX9_weeksOn_19 rfl (lv_at hl 3 rfl) ?_
        refine lv_iadd hx hb dX9_weeksOn_20 ?_
        refine lv_dup2_11 hx hb dX9_weeksOn_21 rfl rfl ?_
        obtain ⟨g3, h⟩ := chk h
        refine va_lald hx hb hK hP 0 1 rfl rfl (inb_in g3) dX9_weeksOn_22 ?_
        refine lv_aload_n hx hb dX9_weeksOn_23 rfl (lv_at hl 0 rfl) ?_
        refine lv_sipush (v := 155) hx hb dX9_weeksOn_24 (by decide) ?_
        refine lv_iload_n hx hb dX9_weeksOn_27 rfl (lv_at hl 3 rfl) ?_
        refine lv_iadd hx hb dX9_weeksOn_28 ?_
        obtain ⟨g4, h⟩ := chk h
        refine va_lald hx hb hK hP 0 1 rfl rfl (inb_in g4) dX9_weeksOn_29 ?_
        refine lv_lconst (v := 0) hx hb dX9_weeksOn_30 (by decide) ?_
        refine W.lcmp hx hb dX9_weeksOn_31 ?_
        refine lv_if_le (tgt := 39) hx hb dX9_weeksOn_32 (by decide) (fun c5 => ?_) (fun c5 => ?_)
        · replace h := iteT c5 h
          refine lv_lconst (v := 0) hx hb dX9_weeksOn_39 (by decide) ?_
          refine L_f_X9_weeksOn_J40 n_p1 x1 x2 x3 (0 : Int64) (g_p1 ((204 : Int32) + x3).toNatClampNeg) ((204 : Int32) + x3) g_p1 _ ih _ _ _ h hP hD hS (lv_sub hl [0, 1, 2, 3] rfl)
        · replace h := iteF c5 h
          refine lv_lconst (v := 1) hx hb dX9_weeksOn_35 (by decide) ?_
          refine lv_goto (tgt := 40) hx hb dX9_weeksOn_36 (by decide) ?_
          refine L_f_X9_weeksOn_J40 n_p1 x1 x2 x3 (1 : Int64) (g_p1 ((204 : Int32) + x3).toNatClampNeg) ((204 : Int32) + x3) g_p1 _ ih _ _ _ h hP hD hS (lv_sub hl [0, 1, 2, 3] rfl)
  have L_f_X9_weeksOn_L2 : ∀ (n_p1 : Nat) (x1 : Int32) (k127 : (Nat → Int64) → Option (Int32 × ((Nat → Int64)))) (hk127 : ∀ (g_p1 : Nat → Int64) (H : Heap) (locs : List Loc) (ls : Array Slot), k127 g_p1 = some o → va_P D vwCl (cJ_ dT a_p1 n_p1 g_p1) H → va_D A (cJ_ dT a_p1 n_p1 g_p1) → va_S A s.heap H locs → lv_has ls 4 [(0, .ref a_p1)] → W p l e (headSpec (WSm yX9_weeksOn cX9_weeksOn 4 (some .int)) { frames := 1, cells := 0, slots := 0, locals := 24 }).room s m [.ref a_p1, .int v1].toArray below meth c H locs 0 0 (MQ below (va_Qi (fun (r : Int32) (u : (Nat → Int64)) => r = o.1 ∧ u = o.2) (fun u t => cAt D dT A (cJ_ dT a_p1 n_p1 u) t) A) [.ref a_p1, .int v1].toArray s 0 0 A) (F0 m 127 ls [])) (n : Nat), ∀ (x2 : Int32) (g_p1 : Nat → Int64) (H : Heap) (locs : List Loc) (ls : Array Slot), f_X9_weeksOn_L2 n_p1 x1 k127 n x2 g_p1 = some o → va_P D vwCl (cJ_ dT a_p1 n_p1 g_p1) H → va_D A (cJ_ dT a_p1 n_p1 g_p1) → va_S A s.heap H locs → lv_has ls 4 [(0, .ref a_p1), (1, .int x1), (2, .int x2)] → W p l e (headSpec (WSm yX9_weeksOn cX9_weeksOn 4 (some .int)) { frames := 1, cells := 0, slots := 0, locals := 24 }).room s m [.ref a_p1, .int v1].toArray below meth c H locs 0 0 (MQ below (va_Qi (fun (r : Int32) (u : (Nat → Int64)) => r = o.1 ∧ u = o.2) (fun u t => cAt D dT A (cJ_ dT a_p1 n_p1 u) t) A) [.ref a_p1, .int v1].toArray s 0 0 A) (F0 m 2 ls []) := by
    intro n_p1 x1 k127 hk127 n
    induction n with
    | zero => intro x2 g_p1 H locs ls h; exact nomatch h
    | succ n ih =>
      intro x2 g_p1 H locs ls h hP hD hS hl
      unfold f_X9_weeksOn_L2 at h
      refine lv_iload_n hx hb dX9_weeksOn_2 rfl (lv_at hl 2 rfl) ?_
      refine lv_iload_n hx hb dX9_weeksOn_3 rfl (lv_at hl 1 rfl) ?_
      refine lv_icmp_ge (tgt := 127) hx hb dX9_weeksOn_4 (by decide) (fun c1 => ?_) (fun c1 => ?_)
      · replace h := iteT c1 h
        exact hk127 g_p1 _ _ _ h hP hD hS (lv_sub hl [0] rfl)
      · replace h := iteF c1 h
        refine lv_iconst (v := 0) hx hb dX9_weeksOn_7 (by decide) ?_
        refine lv_istore_n (lv' := [(3, .int (0 : Int32)), (0, .ref a_p1), (1, .int x1), (2, .int x2)]) hx hb dX9_weeksOn_8 rfl hl (by decide) rfl (fun ls hl => ?_)
        refine L_f_X9_weeksOn_L9 n_p1 x1 x2 _ ?_ FUEL (0 : Int32) g_p1 _ _ _ h hP hD hS (lv_sub hl [1, 2, 3, 0] rfl)
        · intro y17g_p1 H locs ls h hP hD hS hl
          refine lv_aload_n hx hb dX9_weeksOn_112 rfl (lv_at hl 0 rfl) ?_
          refine lv_sipush (v := 305) hx hb dX9_weeksOn_113 (by decide) ?_
          refine lv_dup2_11 hx hb dX9_weeksOn_116 rfl rfl ?_
          obtain ⟨g18, h⟩ := chk h
          refine va_lald hx hb hK hP 0 1 rfl rfl (inb_in g18) dX9_weeksOn_117 ?_
          refine lv_lconst (v := 1) hx hb dX9_weeksOn_118 (by decide) ?_
          refine lv_ladd hx hb dX9_weeksOn_119 ?_
          obtain ⟨g19, h⟩ := chk h
          refine va_last hx hb hK hP hD hS 0 1 rfl rfl (inb_in g19) dX9_weeksOn_120 (fun H locs hP hD hS => ?_)
          have hP : va_P D vwCl (cJ_ dT a_p1 n_p1 (vp_updL y17g_p1 (305 : Int32).toNatClampNeg ((y17g_p1 (305 : Int32).toNatClampNeg) + (1 : Int64)))) H := hP
          have hD : va_D A (cJ_ dT a_p1 n_p1 (vp_updL y17g_p1 (305 : Int32).toNatClampNeg ((y17g_p1 (305 : Int32).toNatClampNeg) + (1 : Int64)))) := hD
          refine lv_iinc (v := (x2 + (1 : Int32))) (lv' := [(2, .int (x2 + (1 : Int32))), (0, .ref a_p1), (1, .int x1)]) hx hb dX9_weeksOn_121 hl (k := 2) rfl rfl (by decide) rfl (fun ls hl => ?_)
          refine lv_goto (tgt := 2) hx hb dX9_weeksOn_124 (by decide) ?_
          exact ih (x2 + (1 : Int32)) (vp_updL y17g_p1 (305 : Int32).toNatClampNeg ((y17g_p1 (305 : Int32).toNatClampNeg) + (1 : Int64))) _ _ _ h hP hD hS (lv_sub hl [1, 2, 0] rfl)
  unfold f_X9_weeksOn at h
  refine lv_iconst (v := 0) hx hb dX9_weeksOn_0 (by decide) ?_
  refine lv_istore_n (lv' := [(2, .int (0 : Int32)), (0, .ref a_p1), (1, .int v1)]) hx hb dX9_weeksOn_1 rfl hl (by decide) rfl (fun ls hl => ?_)
  refine L_f_X9_weeksOn_L2 n_p1 v1 _ ?_ FUEL (0 : Int32) g_p1 _ _ _ h hP hD hS (lv_sub hl [1, 2, 0] rfl)
  · intro y20g_p1 H locs ls h hP hD hS hl
    refine lv_aload_n hx hb dX9_weeksOn_127 rfl (lv_at hl 0 rfl) ?_
    refine lv_sipush (v := 155) hx hb dX9_weeksOn_128 (by decide) ?_
    obtain ⟨o21, e21, h⟩ := obind h
    have hPc := hP
    have hDc := hD
    have hFc := vfall hD hS hA
    refine cl_lA (va_runS (As := [.ref a_p1, .int (155 : Int32)]) (rest := []) ⟨hx, hb, hml, hown, hts⟩ (c_X9_count l hlt D dT a_p1 n_p1 y20g_p1 (155 : Int32) o21 e21 _) (va_cwS 2 hts (TB_S w_1184 w_1185 w_59 w_1186) rfl rfl rfl nd_X9_count ⟨Nat.le_of_ble_eq_true rfl, Nat.le_of_ble_eq_true rfl⟩) (cPre.S hPc hDc hK hE hS hFc) rfl rfl hl.1 rfl (lv_room (Nat.le_of_ble_eq_true rfl)) dX9_weeksOn_131 ⟨Nat.zero_le _, Nat.zero_le _⟩) hS hFc (fun r21 u21 H locs hw hP hD hS => ?_)
    obtain ⟨rfl, rfl⟩ := hw
    have hP : va_P D vwCl (cJ_ dT a_p1 n_p1 y20g_p1) H := hP
    have hD : va_D A (cJ_ dT a_p1 n_p1 y20g_p1) := hD
    refine lv_l2i hx hb dX9_weeksOn_134 rfl ?_
    exact rt_i hx hb hr hlk hK hS (y20g_p1 : (Nat → Int64)) (ret2 h) hP hD dX9_weeksOn_135

def f_X9_weeks_J18   (x1 : Int32) (s0 : Int32) (g_this : TM) (g_this_now : Nat → Int64) (g_this_diary : Nat → Int64) : Option (Int32 × (TM × (Nat → Int64) × (Nat → Int64))) :=
    ((f_X9_refused g_this s0).bind fun o3 => (if o3.1 = (0 : Int32) then ((f_X9_remember o3.2 g_this_now g_this_diary).bind fun o5 => ((f_X9_weeksOn 353 g_this_now x1).bind fun o6 => (some (o6.1, (o5.2.1, o6.2, o5.2.2))))) else (some ((0 : Int32), (o3.2, g_this_now, g_this_diary)))))
def f_X9_weeks (g_this : TM) (g_this_now : Nat → Int64) (g_this_diary : Nat → Int64) (v1 : Int32) : Option (Int32 × (TM × (Nat → Int64) × (Nat → Int64))) :=
  ((f_X9_in (Int32.toInt64 v1) (1 : Int64) (20 : Int64)).bind fun o1 => (if o1.1 = (0 : Int32) then (f_X9_weeks_J18 v1 (1 : Int32) g_this g_this_now g_this_diary) else (f_X9_weeks_J18 v1 (0 : Int32) g_this g_this_now g_this_diary)))
set_option maxHeartbeats 8000000 in
set_option maxRecDepth 100000 in
theorem c_X9_weeks (l : Launch) (hlt : l.stackTraces = false) (D : va_G) (dT : Nat → ClassId) (a_this : Nat → Nat) (g_this : TM) (g_this_now : Nat → Int64) (g_this_diary : Nat → Int64) (v1 : Int32) (o : (Int32 × (TM × (Nat → Int64) × (Nat → Int64)))) (h : f_X9_weeks g_this g_this_now g_this_diary v1 = some o) (sz : Nat) : Met l yX9_weeks (WSm yX9_weeks cX9_weeks 2 (some .int)) { frames := 2, cells := 0, slots := 0, locals := 47 } (va_Pc [.ref (a_this 0), .int v1] (cPre D dT (cM a_this g_this ++ (cJ_ dT (a_this 2) 353 g_this_now ++ (cJ_ dT (a_this 4) 4942 g_this_diary))) sz)) (va_Qi (fun (r : Int32) (u : TM × (Nat → Int64) × (Nat → Int64)) => r = o.1 ∧ u = o.2) (fun u t => cAt D dT (va_A (cM a_this g_this ++ (cJ_ dT (a_this 2) 353 g_this_now ++ (cJ_ dT (a_this 4) 4942 g_this_diary))) sz) (cM a_this (u.1) ++ (cJ_ dT (a_this 2) 353 (u.2.1) ++ (cJ_ dT (a_this 4) 4942 (u.2.2)))) t) (va_A (cM a_this g_this ++ (cJ_ dT (a_this 2) 353 g_this_now ++ (cJ_ dT (a_this 4) 4942 g_this_diary))) sz)) 0 0 (va_A (cM a_this g_this ++ (cJ_ dT (a_this 2) 353 g_this_now ++ (cJ_ dT (a_this 4) 4942 g_this_diary))) sz) := by
  refine mStart (WS := (cM a_this g_this ++ (cJ_ dT (a_this 2) 353 g_this_now ++ (cJ_ dT (a_this 4) 4942 g_this_diary)))) (Qc := fun A => va_Qi (fun (r : Int32) (u : TM × (Nat → Int64) × (Nat → Int64)) => r = o.1 ∧ u = o.2) (fun u t => cAt D dT A (cM a_this (u.1) ++ (cJ_ dT (a_this 2) 353 (u.2.1) ++ (cJ_ dT (a_this 4) 4942 (u.2.2)))) t) A) RX9 rfl (by decide) (Nat.le_of_ble_eq_true rfl) ?_ sz
  intro p e s m below meth c A ls hx hb hml hr hlk hnm hts hqs hown hE hA hK hP hD hS hl
  have hl : lv_has ls 2 [(0, .ref (a_this 0)), (1, .int v1)] := hl
  have L_f_X9_weeks_J18 : ∀  (x1 : Int32) (s0 : Int32) (g_this : TM) (g_this_now : Nat → Int64) (g_this_diary : Nat → Int64)   (H : Heap) (locs : List Loc) (ls : Array Slot), f_X9_weeks_J18   x1 s0 g_this g_this_now g_this_diary = some o → va_P D vwCl (cM a_this g_this ++ (cJ_ dT (a_this 2) 353 g_this_now ++ (cJ_ dT (a_this 4) 4942 g_this_diary))) H → va_D A (cM a_this g_this ++ (cJ_ dT (a_this 2) 353 g_this_now ++ (cJ_ dT (a_this 4) 4942 g_this_diary))) → va_S A s.heap H locs → lv_has ls 2 [(0, .ref (a_this 0)), (1, .int x1)] → W p l e (headSpec (WSm yX9_weeks cX9_weeks 2 (some .int)) { frames := 2, cells := 0, slots := 0, locals := 47 }).room s m [.ref (a_this 0), .int v1].toArray below meth c H locs 0 0 (MQ below (va_Qi (fun (r : Int32) (u : TM × (Nat → Int64) × (Nat → Int64)) => r = o.1 ∧ u = o.2) (fun u t => cAt D dT A (cM a_this (u.1) ++ (cJ_ dT (a_this 2) 353 (u.2.1) ++ (cJ_ dT (a_this 4) 4942 (u.2.2)))) t) A) [.ref (a_this 0), .int v1].toArray s 0 0 A) (F0 m 18 ls [.int s0, .ref (a_this 0)]) := by
    intro  x1 s0 g_this g_this_now g_this_diary   H locs ls h hP hD hS hl
    unfold f_X9_weeks_J18 at h
    obtain ⟨o3, e3, h⟩ := obind h
    have hPc := hP.sub (ws' := (cM a_this g_this)) [0] rfl
    have hDc := hD.sub (ws' := (cM a_this g_this)) [0] (by decide) rfl
    have hFc := va_free (wc := (cM a_this g_this)) hD hS hA [0] rfl
    refine cl_i (wr := (cJ_ dT (a_this 2) 353 g_this_now ++ (cJ_ dT (a_this 4) 4942 g_this_diary))) (va_runV (As := [.int s0]) (rest := []) ⟨hx, hb, hml, hown, hts⟩ (c_X9_refused l hlt D dT a_this g_this s0 o3 e3 _) (cwV 1 hts (TB_V w_1132 w_1134 w_32 w_59 w_1135) rfl rfl rfl ⟨rfl, nd_X9_refused⟩ ⟨Nat.le_of_ble_eq_true rfl, Nat.le_of_ble_eq_true rfl⟩) (cPre.V hPc hDc hK hE hS hFc (va_recv hK hP (ci := 8) (q0 := 0) rfl rfl)) rfl rfl hl.1 rfl (lv_room (Nat.le_of_ble_eq_true rfl)) dX9_weeks_18 ⟨Nat.zero_le _, Nat.zero_le _⟩) hP hD hS hFc [0] [1, 2] rfl rfl (by decide) (by decide) (fun r3 u3 H locs hw hP hD hS => ?_)
    obtain ⟨rfl, rfl⟩ := hw
    have hP : va_P D vwCl (cJ_ dT (a_this 2) 353 g_this_now ++ (cJ_ dT (a_this 4) 4942 g_this_diary ++ (cM a_this o3.2))) H := hP
    have hD : va_D A (cJ_ dT (a_this 2) 353 g_this_now ++ (cJ_ dT (a_this 4) 4942 g_this_diary ++ (cM a_this o3.2))) := hD
    refine lv_if_eq (tgt := 26) hx hb dX9_weeks_21 (by decide) (fun c4 => ?_) (fun c4 => ?_)
    · replace h := iteT c4 h
      refine lv_aload_n hx hb dX9_weeks_26 rfl (lv_at hl 0 rfl) ?_
      obtain ⟨o5, e5, h⟩ := obind h
      have hPc := hP.sub (ws' := (cM a_this o3.2 ++ (cJ_ dT (a_this 2) 353 g_this_now ++ (cJ_ dT (a_this 4) 4942 g_this_diary)))) [2, 0, 1] rfl
      have hDc := hD.sub (ws' := (cM a_this o3.2 ++ (cJ_ dT (a_this 2) 353 g_this_now ++ (cJ_ dT (a_this 4) 4942 g_this_diary)))) [2, 0, 1] (by decide) rfl
      have hFc := va_free (wc := (cM a_this o3.2 ++ (cJ_ dT (a_this 2) 353 g_this_now ++ (cJ_ dT (a_this 4) 4942 g_this_diary)))) hD hS hA [2, 0, 1] rfl
      refine cl_v (wr := ([] : va_W)) (va_runV (As := []) (rest := []) ⟨hx, hb, hml, hown, hts⟩ (c_X9_remember l hlt D dT a_this o3.2 g_this_now g_this_diary o5 e5 _) (cwV 0 hts (TB_V w_1233 w_1235 w_39 w_59 w_1236) rfl rfl rfl ⟨rfl, nd_X9_remember⟩ ⟨Nat.le_of_ble_eq_true rfl, Nat.le_of_ble_eq_true rfl⟩) (cPre.V hPc hDc hK hE hS hFc (va_recv hK hP (ci := 8) (q0 := 2) rfl rfl)) rfl rfl hl.1 rfl (lv_room (Nat.le_of_ble_eq_true rfl)) dX9_weeks_27 ⟨Nat.zero_le _, Nat.zero_le _⟩) hP hD hS hFc [2, 0, 1] [] rfl rfl (by decide) (by decide) (fun u5 H locs hw hP hD hS => ?_)
      subst hw
      have hP : va_P D vwCl (cM a_this o5.2.1 ++ (cJ_ dT (a_this 2) 353 g_this_now ++ (cJ_ dT (a_this 4) 4942 o5.2.2))) H := hP
      have hD : va_D A (cM a_this o5.2.1 ++ (cJ_ dT (a_this 2) 353 g_this_now ++ (cJ_ dT (a_this 4) 4942 o5.2.2))) := hD
      refine lv_aload_n hx hb dX9_weeks_30 rfl (lv_at hl 0 rfl) ?_
      refine gf_X9_13 (v := .ref (a_this 2)) hx hb hqs hown hK hP 0 rfl rfl dX9_weeks_31 ?_
      refine lv_iload_n hx hb dX9_weeks_34 rfl (lv_at hl 1 rfl) ?_
      obtain ⟨o6, e6, h⟩ := obind h
      have hPc := hP.sub (ws' := (cJ_ dT (a_this 2) 353 g_this_now)) [1] rfl
      have hDc := hD.sub (ws' := (cJ_ dT (a_this 2) 353 g_this_now)) [1] (by decide) rfl
      have hFc := va_free (wc := (cJ_ dT (a_this 2) 353 g_this_now)) hD hS hA [1] rfl
      refine cl_i (wr := (cM a_this o5.2.1 ++ (cJ_ dT (a_this 4) 4942 o5.2.2))) (va_runS (As := [.ref (a_this 2), .int x1]) (rest := []) ⟨hx, hb, hml, hown, hts⟩ (c_X9_weeksOn l hlt D dT (a_this 2) 353 g_this_now x1 o6 e6 _) (va_cwS 2 hts (TB_S w_1315 w_1316 w_59 w_1317) rfl rfl rfl nd_X9_weeksOn ⟨Nat.le_of_ble_eq_true rfl, Nat.le_of_ble_eq_true rfl⟩) (cPre.S hPc hDc hK hE hS hFc) rfl rfl hl.1 rfl (lv_room (Nat.le_of_ble_eq_true rfl)) dX9_weeks_35 ⟨Nat.zero_le _, Nat.zero_le _⟩) hP hD hS hFc [1] [0, 2] rfl rfl (by decide) (by decide) (fun r6 u6 H locs hw hP hD hS => ?_)
      obtain ⟨rfl, rfl⟩ := hw
      have hP : va_P D vwCl (cM a_this o5.2.1 ++ (cJ_ dT (a_this 4) 4942 o5.2.2 ++ (cJ_ dT (a_this 2) 353 o6.2))) H := hP
      have hD : va_D A (cM a_this o5.2.1 ++ (cJ_ dT (a_this 4) 4942 o5.2.2 ++ (cJ_ dT (a_this 2) 353 o6.2))) := hD
      have hP := hP.sub (ws' := (cM a_this o5.2.1 ++ (cJ_ dT (a_this 2) 353 o6.2 ++ (cJ_ dT (a_this 4) 4942 o5.2.2)))) [0, 2, 1] rfl
      have hD := hD.sub (ws' := (cM a_this o5.2.1 ++ (cJ_ dT (a_this 2) 353 o6.2 ++ (cJ_ dT (a_this 4) 4942 o5.2.2)))) [0, 2, 1] (by decide) rfl
      exact rt_i hx hb hr hlk hK hS ((o5.2.1, o6.2, o5.2.2) : TM × (Nat → Int64) × (Nat → Int64)) (ret2 h) hP hD dX9_weeks_38
    · replace h := iteF c4 h
      refine lv_iconst (v := 0) hx hb dX9_weeks_24 (by decide) ?_
      have hP := hP.sub (ws' := (cM a_this o3.2 ++ (cJ_ dT (a_this 2) 353 g_this_now ++ (cJ_ dT (a_this 4) 4942 g_this_diary)))) [2, 0, 1] rfl
      have hD := hD.sub (ws' := (cM a_this o3.2 ++ (cJ_ dT (a_this 2) 353 g_this_now ++ (cJ_ dT (a_this 4) 4942 g_this_diary)))) [2, 0, 1] (by decide) rfl
      exact rt_i hx hb hr hlk hK hS ((o3.2, g_this_now, g_this_diary) : TM × (Nat → Int64) × (Nat → Int64)) (ret2 h) hP hD dX9_weeks_25
  unfold f_X9_weeks at h
  refine lv_aload_n hx hb dX9_weeks_0 rfl (lv_at hl 0 rfl) ?_
  refine lv_iload_n hx hb dX9_weeks_1 rfl (lv_at hl 1 rfl) ?_
  refine lv_i2l hx hb dX9_weeks_2 rfl ?_
  refine lv_lconst (v := 1) hx hb dX9_weeks_3 (by decide) ?_
  refine lv_ldc2 (v := 20) hx hb hown (hqs _ w_1314) dX9_weeks_4 ?_
  obtain ⟨o1, e1, h⟩ := obind h
  have hPc := hP.sub (ws' := ([] : va_W)) [] rfl
  have hDc := hD.sub (ws' := ([] : va_W)) [] (by decide) rfl
  have hFc := va_free (wc := ([] : va_W)) hD hS hA [] rfl
  refine cl_i (wr := (cM a_this g_this ++ (cJ_ dT (a_this 2) 353 g_this_now ++ (cJ_ dT (a_this 4) 4942 g_this_diary)))) (va_runS (As := [.long (Int32.toInt64 v1), .long (1 : Int64), .long (20 : Int64)]) (rest := [.ref (a_this 0)]) ⟨hx, hb, hml, hown, hts⟩ (c_X9_in l hlt D dT (Int32.toInt64 v1) (1 : Int64) (20 : Int64) o1 e1 _) (va_cwS 3 hts (TB_S w_1129 w_1130 w_59 w_1131) rfl rfl rfl nd_X9_in ⟨Nat.le_of_ble_eq_true rfl, Nat.le_of_ble_eq_true rfl⟩) (cPre.S hPc hDc hK hE hS hFc) rfl rfl hl.1 rfl (lv_room (Nat.le_of_ble_eq_true rfl)) dX9_weeks_7 ⟨Nat.zero_le _, Nat.zero_le _⟩) hP hD hS hFc [] [0, 1, 2] rfl rfl (by decide) (by decide) (fun r1 u1 H locs hw hP hD hS => ?_)
  obtain ⟨rfl, rfl⟩ := hw
  have hP : va_P D vwCl (cM a_this g_this ++ (cJ_ dT (a_this 2) 353 g_this_now ++ (cJ_ dT (a_this 4) 4942 g_this_diary))) H := hP
  have hD : va_D A (cM a_this g_this ++ (cJ_ dT (a_this 2) 353 g_this_now ++ (cJ_ dT (a_this 4) 4942 g_this_diary))) := hD
  refine lv_if_eq (tgt := 17) hx hb dX9_weeks_10 (by decide) (fun c2 => ?_) (fun c2 => ?_)
  · replace h := iteT c2 h
    refine lv_iconst (v := 1) hx hb dX9_weeks_17 (by decide) ?_
    refine L_f_X9_weeks_J18  v1 (1 : Int32) g_this g_this_now g_this_diary   _ _ _ h hP hD hS (lv_sub hl [0, 1] rfl)
  · replace h := iteF c2 h
    refine lv_iconst (v := 0) hx hb dX9_weeks_13 (by decide) ?_
    refine lv_goto (tgt := 18) hx hb dX9_weeks_14 (by decide) ?_
    refine L_f_X9_weeks_J18  v1 (0 : Int32) g_this g_this_now g_this_diary   _ _ _ h hP hD hS (lv_sub hl [0, 1] rfl)

def f_X9_isSetting_J33   (x0 : Int32) (x1 : Int32) : Option (Int32 × (Unit)) :=
    (if x0 = (2 : Int32) then ((f_X9_in (Int32.toInt64 x1) (0 : Int64) (20 : Int64)).bind fun o4 => (if o4.1 = (0 : Int32) then (some ((0 : Int32), ())) else (some ((1 : Int32), ())))) else (some ((0 : Int32), ())))
def f_X9_isSetting_J16   (x0 : Int32) (x1 : Int32) : Option (Int32 × (Unit)) :=
    (if x0 = (1 : Int32) then ((f_X9_in (Int32.toInt64 x1) (1 : Int64) (10 : Int64)).bind fun o6 => (if o6.1 = (0 : Int32) then (f_X9_isSetting_J33 x0 x1) else (some ((1 : Int32), ())))) else (f_X9_isSetting_J33 x0 x1))
def f_X9_isSetting (v0 : Int32) (v1 : Int32) : Option (Int32 × (Unit)) :=
  (if v0 = (0 : Int32) then ((f_X9_in (Int32.toInt64 v1) (1 : Int64) (1000 : Int64)).bind fun o8 => (if o8.1 = (0 : Int32) then (f_X9_isSetting_J16 v0 v1) else (some ((1 : Int32), ())))) else (f_X9_isSetting_J16 v0 v1))
set_option maxHeartbeats 8000000 in
set_option maxRecDepth 100000 in
theorem c_X9_isSetting (l : Launch) (hlt : l.stackTraces = false) (D : va_G) (dT : Nat → ClassId) (v0 : Int32) (v1 : Int32) (o : (Int32 × (Unit))) (h : f_X9_isSetting v0 v1 = some o) (sz : Nat) : Met l yX9_isSetting (WSm yX9_isSetting cX9_isSetting 2 (some .boolean)) { frames := 1, cells := 0, slots := 0, locals := 25 } (va_Pc [.int v0, .int v1] (cPre D dT ([] : va_W) sz)) (va_Qi (fun (r : Int32) (u : Unit) => r = o.1 ∧ u = o.2) (fun u t => cAt D dT (va_A ([] : va_W) sz) ([] : va_W) t) (va_A ([] : va_W) sz)) 0 0 (va_A ([] : va_W) sz) := by
  refine mStart (WS := ([] : va_W)) (Qc := fun A => va_Qi (fun (r : Int32) (u : Unit) => r = o.1 ∧ u = o.2) (fun u t => cAt D dT A ([] : va_W) t) A) RX9 rfl (by decide) (Nat.le_of_ble_eq_true rfl) ?_ sz
  intro p e s m below meth c A ls hx hb hml hr hlk hnm hts hqs hown hE hA hK hP hD hS hl
  have hl : lv_has ls 2 [(0, .int v0), (1, .int v1)] := hl
  have L_f_X9_isSetting_J33 : ∀  (x0 : Int32) (x1 : Int32)   (H : Heap) (locs : List Loc) (ls : Array Slot), f_X9_isSetting_J33   x0 x1 = some o → va_P D vwCl ([] : va_W) H → va_D A ([] : va_W) → va_S A s.heap H locs → lv_has ls 2 [(0, .int x0), (1, .int x1)] → W p l e (headSpec (WSm yX9_isSetting cX9_isSetting 2 (some .boolean)) { frames := 1, cells := 0, slots := 0, locals := 25 }).room s m [.int v0, .int v1].toArray below meth c H locs 0 0 (MQ below (va_Qi (fun (r : Int32) (u : Unit) => r = o.1 ∧ u = o.2) (fun u t => cAt D dT A ([] : va_W) t) A) [.int v0, .int v1].toArray s 0 0 A) (F0 m 33 ls []) := by
    intro  x0 x1   H locs ls h hP hD hS hl
    unfold f_X9_isSetting_J33 at h
    refine lv_iload_n hx hb dX9_isSetting_33 rfl (lv_at hl 0 rfl) ?_
    refine lv_iconst (v := 2) hx hb dX9_isSetting_34 (by decide) ?_
    refine lv_icmp_ne (tgt := 54) hx hb dX9_isSetting_35 (by decide) (fun c3 => ?_) (fun c3 => ?_)
    · replace h := iteF c3 h
      refine lv_iconst (v := 0) hx hb dX9_isSetting_54 (by decide) ?_
      exact rt_z hx hb hr hlk hK hS (() : Unit) (ret2 h) (by decide) hP hD dX9_isSetting_55
    · replace h := iteT c3 h
      refine lv_iload_n hx hb dX9_isSetting_38 rfl (lv_at hl 1 rfl) ?_
      refine lv_i2l hx hb dX9_isSetting_39 rfl ?_
      refine lv_lconst (v := 0) hx hb dX9_isSetting_40 (by decide) ?_
      refine lv_ldc2 (v := 20) hx hb hown (hqs _ w_1314) dX9_isSetting_41 ?_
      obtain ⟨o4, e4, h⟩ := obind h
      have hPc := hP
      have hDc := hD
      have hFc := vfall hD hS hA
      refine cl_iA (va_runS (As := [.long (Int32.toInt64 x1), .long (0 : Int64), .long (20 : Int64)]) (rest := []) ⟨hx, hb, hml, hown, hts⟩ (c_X9_in l hlt D dT (Int32.toInt64 x1) (0 : Int64) (20 : Int64) o4 e4 _) (va_cwS 3 hts (TB_S w_1129 w_1130 w_59 w_1131) rfl rfl rfl nd_X9_in ⟨Nat.le_of_ble_eq_true rfl, Nat.le_of_ble_eq_true rfl⟩) (cPre.S hPc hDc hK hE hS hFc) rfl rfl hl.1 rfl (lv_room (Nat.le_of_ble_eq_true rfl)) dX9_isSetting_44 ⟨Nat.zero_le _, Nat.zero_le _⟩) hS hFc (fun r4 u4 H locs hw hP hD hS => ?_)
      obtain ⟨rfl, rfl⟩ := hw
      have hP : va_P D vwCl ([] : va_W) H := hP
      have hD : va_D A ([] : va_W) := hD
      refine lv_if_eq (tgt := 54) hx hb dX9_isSetting_47 (by decide) (fun c5 => ?_) (fun c5 => ?_)
      · replace h := iteT c5 h
        refine lv_iconst (v := 0) hx hb dX9_isSetting_54 (by decide) ?_
        exact rt_z hx hb hr hlk hK hS (() : Unit) (ret2 h) (by decide) hP hD dX9_isSetting_55
      · replace h := iteF c5 h
        refine lv_iconst (v := 1) hx hb dX9_isSetting_50 (by decide) ?_
        refine lv_goto (tgt := 55) hx hb dX9_isSetting_51 (by decide) ?_
        exact rt_z hx hb hr hlk hK hS (() : Unit) (ret2 h) (by decide) hP hD dX9_isSetting_55
  have L_f_X9_isSetting_J16 : ∀  (x0 : Int32) (x1 : Int32)   (H : Heap) (locs : List Loc) (ls : Array Slot), f_X9_isSetting_J16   x0 x1 = some o → va_P D vwCl ([] : va_W) H → va_D A ([] : va_W) → va_S A s.heap H locs → lv_has ls 2 [(0, .int x0), (1, .int x1)] → W p l e (headSpec (WSm yX9_isSetting cX9_isSetting 2 (some .boolean)) { frames := 1, cells := 0, slots := 0, locals := 25 }).room s m [.int v0, .int v1].toArray below meth c H locs 0 0 (MQ below (va_Qi (fun (r : Int32) (u : Unit) => r = o.1 ∧ u = o.2) (fun u t => cAt D dT A ([] : va_W) t) A) [.int v0, .int v1].toArray s 0 0 A) (F0 m 16 ls []) := by
    intro  x0 x1   H locs ls h hP hD hS hl
    unfold f_X9_isSetting_J16 at h
    refine lv_iload_n hx hb dX9_isSetting_16 rfl (lv_at hl 0 rfl) ?_
    refine lv_iconst (v := 1) hx hb dX9_isSetting_17 (by decide) ?_
    refine lv_icmp_ne (tgt := 33) hx hb dX9_isSetting_18 (by decide) (fun c2 => ?_) (fun c2 => ?_)
    · replace h := iteF c2 h
      refine L_f_X9_isSetting_J33  x0 x1   _ _ _ h hP hD hS (lv_sub hl [0, 1] rfl)
    · replace h := iteT c2 h
      refine lv_iload_n hx hb dX9_isSetting_21 rfl (lv_at hl 1 rfl) ?_
      refine lv_i2l hx hb dX9_isSetting_22 rfl ?_
      refine lv_lconst (v := 1) hx hb dX9_isSetting_23 (by decide) ?_
      refine lv_ldc2 (v := 10) hx hb hown (hqs _ w_1066) dX9_isSetting_24 ?_
      obtain ⟨o6, e6, h⟩ := obind h
      have hPc := hP
      have hDc := hD
      have hFc := vfall hD hS hA
      refine cl_iA (va_runS (As := [.long (Int32.toInt64 x1), .long (1 : Int64), .long (10 : Int64)]) (rest := []) ⟨hx, hb, hml, hown, hts⟩ (c_X9_in l hlt D dT (Int32.toInt64 x1) (1 : Int64) (10 : Int64) o6 e6 _) (va_cwS 3 hts (TB_S w_1129 w_1130 w_59 w_1131) rfl rfl rfl nd_X9_in ⟨Nat.le_of_ble_eq_true rfl, Nat.le_of_ble_eq_true rfl⟩) (cPre.S hPc hDc hK hE hS hFc) rfl rfl hl.1 rfl (lv_room (Nat.le_of_ble_eq_true rfl)) dX9_isSetting_27 ⟨Nat.zero_le _, Nat.zero_le _⟩) hS hFc (fun r6 u6 H locs hw hP hD hS => ?_)
      obtain ⟨rfl, rfl⟩ := hw
      have hP : va_P D vwCl ([] : va_W) H := hP
      have hD : va_D A ([] : va_W) := hD
      refine lv_if_ne (tgt := 50) hx hb dX9_isSetting_30 (by decide) (fun c7 => ?_) (fun c7 => ?_)
      · replace h := iteF c7 h
        refine lv_iconst (v := 1) hx hb dX9_isSetting_50 (by decide) ?_
        refine lv_goto (tgt := 55) hx hb dX9_isSetting_51 (by decide) ?_
        exact rt_z hx hb hr hlk hK hS (() : Unit) (ret2 h) (by decide) hP hD dX9_isSetting_55
      · replace h := iteT c7 h
        refine L_f_X9_isSetting_J33  x0 x1   _ _ _ h hP hD hS (lv_sub hl [0, 1] rfl)
  unfold f_X9_isSetting at h
  refine lv_iload_n hx hb dX9_isSetting_0 rfl (lv_at hl 0 rfl) ?_
  refine lv_if_ne (tgt := 16) hx hb dX9_isSetting_1 (by decide) (fun c1 => ?_) (fun c1 => ?_)
  · replace h := iteF c1 h
    refine L_f_X9_isSetting_J16  v0 v1   _ _ _ h hP hD hS (lv_sub hl [0, 1] rfl)
  · replace h := iteT c1 h
    refine lv_iload_n hx hb dX9_isSetting_4 rfl (lv_at hl 1 rfl) ?_
    refine lv_i2l hx hb dX9_isSetting_5 rfl ?_
    refine lv_lconst (v := 1) hx hb dX9_isSetting_6 (by decide) ?_
    refine lv_ldc2 (v := 1000) hx hb hown (hqs _ w_1248) dX9_isSetting_7 ?_
    obtain ⟨o8, e8, h⟩ := obind h
    have hPc := hP
    have hDc := hD
    have hFc := vfall hD hS hA
    refine cl_iA (va_runS (As := [.long (Int32.toInt64 v1), .long (1 : Int64), .long (1000 : Int64)]) (rest := []) ⟨hx, hb, hml, hown, hts⟩ (c_X9_in l hlt D dT (Int32.toInt64 v1) (1 : Int64) (1000 : Int64) o8 e8 _) (va_cwS 3 hts (TB_S w_1129 w_1130 w_59 w_1131) rfl rfl rfl nd_X9_in ⟨Nat.le_of_ble_eq_true rfl, Nat.le_of_ble_eq_true rfl⟩) (cPre.S hPc hDc hK hE hS hFc) rfl rfl hl.1 rfl (lv_room (Nat.le_of_ble_eq_true rfl)) dX9_isSetting_10 ⟨Nat.zero_le _, Nat.zero_le _⟩) hS hFc (fun r8 u8 H locs hw hP hD hS => ?_)
    obtain ⟨rfl, rfl⟩ := hw
    have hP : va_P D vwCl ([] : va_W) H := hP
    have hD : va_D A ([] : va_W) := hD
    refine lv_if_ne (tgt := 50) hx hb dX9_isSetting_13 (by decide) (fun c9 => ?_) (fun c9 => ?_)
    · replace h := iteF c9 h
      refine lv_iconst (v := 1) hx hb dX9_isSetting_50 (by decide) ?_
      refine lv_goto (tgt := 55) hx hb dX9_isSetting_51 (by decide) ?_
      exact rt_z hx hb hr hlk hK hS (() : Unit) (ret2 h) (by decide) hP hD dX9_isSetting_55
    · replace h := iteT c9 h
      refine L_f_X9_isSetting_J16  v0 v1   _ _ _ h hP hD hS (lv_sub hl [0, 1] rfl)

def f_X9_set_J14   (x1 : Int32) (x2 : Int32) (s0 : Int32) (g_this : TM) (g_this_now : Nat → Int64) (g_this_diary : Nat → Int64) : Option (Int32 × (TM × (Nat → Int64) × (Nat → Int64))) :=
    ((f_X9_refused g_this s0).bind fun o3 => (if o3.1 = (0 : Int32) then ((f_X9_remember o3.2 g_this_now g_this_diary).bind fun o5 => (if inb ((302 : Int32) + x1) 353 = true then (if inb ((302 : Int32) + x1) 353 = true then (some ((Int64.toInt32 (g_this_now ((302 : Int32) + x1).toNatClampNeg)), (o5.2.1, (vp_updL g_this_now ((302 : Int32) + x1).toNatClampNeg (Int32.toInt64 x2)), o5.2.2))) else none) else none)) else (some ((0 : Int32), (o3.2, g_this_now, g_this_diary)))))
def f_X9_set (g_this : TM) (g_this_now : Nat → Int64) (g_this_diary : Nat → Int64) (v1 : Int32) (v2 : Int32) : Option (Int32 × (TM × (Nat → Int64) × (Nat → Int64))) :=
  ((f_X9_isSetting v1 v2).bind fun o1 => (if o1.1 = (0 : Int32) then (f_X9_set_J14 v1 v2 (1 : Int32) g_this g_this_now g_this_diary) else (f_X9_set_J14 v1 v2 (0 : Int32) g_this g_this_now g_this_diary)))
set_option maxHeartbeats 8000000 in
set_option maxRecDepth 100000 in
theorem c_X9_set (l : Launch) (hlt : l.stackTraces = false) (D : va_G) (dT : Nat → ClassId) (a_this : Nat → Nat) (g_this : TM) (g_this_now : Nat → Int64) (g_this_diary : Nat → Int64) (v1 : Int32) (v2 : Int32) (o : (Int32 × (TM × (Nat → Int64) × (Nat → Int64)))) (h : f_X9_set g_this g_this_now g_this_diary v1 v2 = some o) (sz : Nat) : Met l yX9_set (WSm yX9_set cX9_set 4 (some .int)) { frames := 2, cells := 0, slots := 0, locals := 46 } (va_Pc [.ref (a_this 0), .int v1, .int v2] (cPre D dT (cM a_this g_this ++ (cJ_ dT (a_this 2) 353 g_this_now ++ (cJ_ dT (a_this 4) 4942 g_this_diary))) sz)) (va_Qi (fun (r : Int32) (u : TM × (Nat → Int64) × (Nat → Int64)) => r = o.1 ∧ u = o.2) (fun u t => cAt D dT (va_A (cM a_this g_this ++ (cJ_ dT (a_this 2) 353 g_this_now ++ (cJ_ dT (a_this 4) 4942 g_this_diary))) sz) (cM a_this (u.1) ++ (cJ_ dT (a_this 2) 353 (u.2.1) ++ (cJ_ dT (a_this 4) 4942 (u.2.2)))) t) (va_A (cM a_this g_this ++ (cJ_ dT (a_this 2) 353 g_this_now ++ (cJ_ dT (a_this 4) 4942 g_this_diary))) sz)) 0 0 (va_A (cM a_this g_this ++ (cJ_ dT (a_this 2) 353 g_this_now ++ (cJ_ dT (a_this 4) 4942 g_this_diary))) sz) := by
  refine mStart (WS := (cM a_this g_this ++ (cJ_ dT (a_this 2) 353 g_this_now ++ (cJ_ dT (a_this 4) 4942 g_this_diary)))) (Qc := fun A => va_Qi (fun (r : Int32) (u : TM × (Nat → Int64) × (Nat → Int64)) => r = o.1 ∧ u = o.2) (fun u t => cAt D dT A (cM a_this (u.1) ++ (cJ_ dT (a_this 2) 353 (u.2.1) ++ (cJ_ dT (a_this 4) 4942 (u.2.2)))) t) A) RX9 rfl (by decide) (Nat.le_of_ble_eq_true rfl) ?_ sz
  intro p e s m below meth c A ls hx hb hml hr hlk hnm hts hqs hown hE hA hK hP hD hS hl
  have hl : lv_has ls 4 [(0, .ref (a_this 0)), (1, .int v1), (2, .int v2)] := hl
  have L_f_X9_set_J14 : ∀  (x1 : Int32) (x2 : Int32) (s0 : Int32) (g_this : TM) (g_this_now : Nat → Int64) (g_this_diary : Nat → Int64)   (H : Heap) (locs : List Loc) (ls : Array Slot), f_X9_set_J14   x1 x2 s0 g_this g_this_now g_this_diary = some o → va_P D vwCl (cM a_this g_this ++ (cJ_ dT (a_this 2) 353 g_this_now ++ (cJ_ dT (a_this 4) 4942 g_this_diary))) H → va_D A (cM a_this g_this ++ (cJ_ dT (a_this 2) 353 g_this_now ++ (cJ_ dT (a_this 4) 4942 g_this_diary))) → va_S A s.heap H locs → lv_has ls 4 [(0, .ref (a_this 0)), (1, .int x1), (2, .int x2)] → W p l e (headSpec (WSm yX9_set cX9_set 4 (some .int)) { frames := 2, cells := 0, slots := 0, locals := 46 }).room s m [.ref (a_this 0), .int v1, .int v2].toArray below meth c H locs 0 0 (MQ below (va_Qi (fun (r : Int32) (u : TM × (Nat → Int64) × (Nat → Int64)) => r = o.1 ∧ u = o.2) (fun u t => cAt D dT A (cM a_this (u.1) ++ (cJ_ dT (a_this 2) 353 (u.2.1) ++ (cJ_ dT (a_this 4) 4942 (u.2.2)))) t) A) [.ref (a_this 0), .int v1, .int v2].toArray s 0 0 A) (F0 m 14 ls [.int s0, .ref (a_this 0)]) := by
    intro  x1 x2 s0 g_this g_this_now g_this_diary   H locs ls h hP hD hS hl
    unfold f_X9_set_J14 at h
    obtain ⟨o3, e3, h⟩ := obind h
    have hPc := hP.sub (ws' := (cM a_this g_this)) [0] rfl
    have hDc := hD.sub (ws' := (cM a_this g_this)) [0] (by decide) rfl
    have hFc := va_free (wc := (cM a_this g_this)) hD hS hA [0] rfl
    refine cl_i (wr := (cJ_ dT (a_this 2) 353 g_this_now ++ (cJ_ dT (a_this 4) 4942 g_this_diary))) (va_runV (As := [.int s0]) (rest := []) ⟨hx, hb, hml, hown, hts⟩ (c_X9_refused l hlt D dT a_this g_this s0 o3 e3 _) (cwV 1 hts (TB_V w_1132 w_1134 w_32 w_59 w_1135) rfl rfl rfl ⟨rfl, nd_X9_refused⟩ ⟨Nat.le_of_ble_eq_true rfl, Nat.le_of_ble_eq_true rfl⟩) (cPre.V hPc hDc hK hE hS hFc (va_recv hK hP (ci := 8) (q0 := 0) rfl rfl)) rfl rfl hl.1 rfl (lv_room (Nat.le_of_ble_eq_true rfl)) dX9_set_14 ⟨Nat.zero_le _, Nat.zero_le _⟩) hP hD hS hFc [0] [1, 2] rfl rfl (by decide) (by decide) (fun r3 u3 H locs hw hP hD hS => ?_)
    obtain ⟨rfl, rfl⟩ := hw
    have hP : va_P D vwCl (cJ_ dT (a_this 2) 353 g_this_now ++ (cJ_ dT (a_this 4) 4942 g_this_diary ++ (cM a_this o3.2))) H := hP
    have hD : va_D A (cJ_ dT (a_this 2) 353 g_this_now ++ (cJ_ dT (a_this 4) 4942 g_this_diary ++ (cM a_this o3.2))) := hD
    refine lv_if_eq (tgt := 22) hx hb dX9_set_17 (by decide) (fun c4 => ?_) (fun c4 => ?_)
    · replace h := iteT c4 h
      refine lv_aload_n hx hb dX9_set_22 rfl (lv_at hl 0 rfl) ?_
      obtain ⟨o5, e5, h⟩ := obind h
      have hPc := hP.sub (ws' := (cM a_this o3.2 ++ (cJ_ dT (a_this 2) 353 g_this_now ++ (cJ_ dT (a_this 4) 4942 g_this_diary)))) [2, 0, 1] rfl
      have hDc := hD.sub (ws' := (cM a_this o3.2 ++ (cJ_ dT (a_this 2) 353 g_this_now ++ (cJ_ dT (a_this 4) 4942 g_this_diary)))) [2, 0, 1] (by decide) rfl
      have hFc := va_free (wc := (cM a_this o3.2 ++ (cJ_ dT (a_this 2) 353 g_this_now ++ (cJ_ dT (a_this 4) 4942 g_this_diary)))) hD hS hA [2, 0, 1] rfl
      refine cl_v (wr := ([] : va_W)) (va_runV (As := []) (rest := []) ⟨hx, hb, hml, hown, hts⟩ (c_X9_remember l hlt D dT a_this o3.2 g_this_now g_this_diary o5 e5 _) (cwV 0 hts (TB_V w_1233 w_1235 w_39 w_59 w_1236) rfl rfl rfl ⟨rfl, nd_X9_remember⟩ ⟨Nat.le_of_ble_eq_true rfl, Nat.le_of_ble_eq_true rfl⟩) (cPre.V hPc hDc hK hE hS hFc (va_recv hK hP (ci := 8) (q0 := 2) rfl rfl)) rfl rfl hl.1 rfl (lv_room (Nat.le_of_ble_eq_true rfl)) dX9_set_23 ⟨Nat.zero_le _, Nat.zero_le _⟩) hP hD hS hFc [2, 0, 1] [] rfl rfl (by decide) (by decide) (fun u5 H locs hw hP hD hS => ?_)
      subst hw
      have hP : va_P D vwCl (cM a_this o5.2.1 ++ (cJ_ dT (a_this 2) 353 g_this_now ++ (cJ_ dT (a_this 4) 4942 o5.2.2))) H := hP
      have hD : va_D A (cM a_this o5.2.1 ++ (cJ_ dT (a_this 2) 353 g_this_now ++ (cJ_ dT (a_this 4) 4942 o5.2.2))) := hD
      refine lv_aload_n hx hb dX9_set_26 rfl (lv_at hl 0 rfl) ?_
      refine gf_X9_13 (v := .ref (a_this 2)) hx hb hqs hown hK hP 0 rfl rfl dX9_set_27 ?_
      refine lv_sipush (v := 302) hx hb dX9_set_30 (by decide) ?_
      refine lv_iload_n hx hb dX9_set_33 rfl (lv_at hl 1 rfl) ?_
      refine lv_iadd hx hb dX9_set_34 ?_
      obtain ⟨g6, h⟩ := chk h
      refine va_lald hx hb hK hP 1 1 rfl rfl (inb_in g6) dX9_set_35 ?_
      refine lv_l2i hx hb dX9_set_36 rfl ?_
      refine lv_istore_n (lv' := [(3, .int (Int64.toInt32 (g_this_now ((302 : Int32) + x1).toNatClampNeg))), (0, .ref (a_this 0)), (1, .int x1), (2, .int x2)]) hx hb dX9_set_37 rfl hl (by decide) rfl (fun ls hl => ?_)
      refine lv_aload_n hx hb dX9_set_38 rfl (lv_at hl 1 rfl) ?_
      refine gf_X9_13 (v := .ref (a_this 2)) hx hb hqs hown hK hP 0 rfl rfl dX9_set_39 ?_
      refine lv_sipush (v := 302) hx hb dX9_set_42 (by decide) ?_
      refine lv_iload_n hx hb dX9_set_45 rfl (lv_at hl 2 rfl) ?_
      refine lv_iadd hx hb dX9_set_46 ?_
      refine lv_iload_n hx hb dX9_set_47 rfl (lv_at hl 3 rfl) ?_
      refine lv_i2l hx hb dX9_set_48 rfl ?_
      obtain ⟨g7, h⟩ := chk h
      refine va_last hx hb hK hP hD hS 1 1 rfl rfl (inb_in g7) dX9_set_49 (fun H locs hP hD hS => ?_)
      have hP : va_P D vwCl (cM a_this o5.2.1 ++ (cJ_ dT (a_this 2) 353 (vp_updL g_this_now ((302 : Int32) + x1).toNatClampNeg (Int32.toInt64 x2)) ++ (cJ_ dT (a_this 4) 4942 o5.2.2))) H := hP
      have hD : va_D A (cM a_this o5.2.1 ++ (cJ_ dT (a_this 2) 353 (vp_updL g_this_now ((302 : Int32) + x1).toNatClampNeg (Int32.toInt64 x2)) ++ (cJ_ dT (a_this 4) 4942 o5.2.2))) := hD
      refine lv_iload_n hx hb dX9_set_50 rfl (lv_at hl 0 rfl) ?_
      exact rt_i hx hb hr hlk hK hS ((o5.2.1, (vp_updL g_this_now ((302 : Int32) + x1).toNatClampNeg (Int32.toInt64 x2)), o5.2.2) : TM × (Nat → Int64) × (Nat → Int64)) (ret2 h) hP hD dX9_set_51
    · replace h := iteF c4 h
      refine lv_iconst (v := 0) hx hb dX9_set_20 (by decide) ?_
      have hP := hP.sub (ws' := (cM a_this o3.2 ++ (cJ_ dT (a_this 2) 353 g_this_now ++ (cJ_ dT (a_this 4) 4942 g_this_diary)))) [2, 0, 1] rfl
      have hD := hD.sub (ws' := (cM a_this o3.2 ++ (cJ_ dT (a_this 2) 353 g_this_now ++ (cJ_ dT (a_this 4) 4942 g_this_diary)))) [2, 0, 1] (by decide) rfl
      exact rt_i hx hb hr hlk hK hS ((o3.2, g_this_now, g_this_diary) : TM × (Nat → Int64) × (Nat → Int64)) (ret2 h) hP hD dX9_set_21
  unfold f_X9_set at h
  refine lv_aload_n hx hb dX9_set_0 rfl (lv_at hl 0 rfl) ?_
  refine lv_iload_n hx hb dX9_set_1 rfl (lv_at hl 1 rfl) ?_
  refine lv_iload_n hx hb dX9_set_2 rfl (lv_at hl 2 rfl) ?_
  obtain ⟨o1, e1, h⟩ := obind h
  have hPc := hP.sub (ws' := ([] : va_W)) [] rfl
  have hDc := hD.sub (ws' := ([] : va_W)) [] (by decide) rfl
  have hFc := va_free (wc := ([] : va_W)) hD hS hA [] rfl
  refine cl_i (wr := (cM a_this g_this ++ (cJ_ dT (a_this 2) 353 g_this_now ++ (cJ_ dT (a_this 4) 4942 g_this_diary)))) (va_runS (As := [.int v1, .int v2]) (rest := [.ref (a_this 0)]) ⟨hx, hb, hml, hown, hts⟩ (c_X9_isSetting l hlt D dT v1 v2 o1 e1 _) (va_cwS 2 hts (TB_S w_1322 w_1323 w_59 w_1324) rfl rfl rfl nd_X9_isSetting ⟨Nat.le_of_ble_eq_true rfl, Nat.le_of_ble_eq_true rfl⟩) (cPre.S hPc hDc hK hE hS hFc) rfl rfl hl.1 rfl (lv_room (Nat.le_of_ble_eq_true rfl)) dX9_set_3 ⟨Nat.zero_le _, Nat.zero_le _⟩) hP hD hS hFc [] [0, 1, 2] rfl rfl (by decide) (by decide) (fun r1 u1 H locs hw hP hD hS => ?_)
  obtain ⟨rfl, rfl⟩ := hw
  have hP : va_P D vwCl (cM a_this g_this ++ (cJ_ dT (a_this 2) 353 g_this_now ++ (cJ_ dT (a_this 4) 4942 g_this_diary))) H := hP
  have hD : va_D A (cM a_this g_this ++ (cJ_ dT (a_this 2) 353 g_this_now ++ (cJ_ dT (a_this 4) 4942 g_this_diary))) := hD
  refine lv_if_eq (tgt := 13) hx hb dX9_set_6 (by decide) (fun c2 => ?_) (fun c2 => ?_)
  · replace h := iteT c2 h
    refine lv_iconst (v := 1) hx hb dX9_set_13 (by decide) ?_
    refine L_f_X9_set_J14  v1 v2 (1 : Int32) g_this g_this_now g_this_diary   _ _ _ h hP hD hS (lv_sub hl [0, 1, 2] rfl)
  · replace h := iteF c2 h
    refine lv_iconst (v := 0) hx hb dX9_set_9 (by decide) ?_
    refine lv_goto (tgt := 14) hx hb dX9_set_10 (by decide) ?_
    refine L_f_X9_set_J14  v1 v2 (0 : Int32) g_this g_this_now g_this_diary   _ _ _ h hP hD hS (lv_sub hl [0, 1, 2] rfl)

def f_X9_undo_J13 (g_this_diary : Nat → Int64)  (s0 : Int32) (g_this : TM) (g_this_now : Nat → Int64) : Option (Int32 × (TM × (Nat → Int64))) :=
    ((f_X9_refused g_this s0).bind fun o2 => (if o2.1 = (0 : Int32) then ((f_X9_copyWorld 4942 353 g_this_diary g_this_now ((353 : Int32) * ((M_acts o2.2) - (1 : Int32))) (0 : Int32)).bind fun o4 => (some (((M_acts o2.2) - (1 : Int32)), ((M_mk (M_refusal o2.2) (M_size o2.2) ((M_acts o2.2) - (1 : Int32)) (M_planned o2.2) (M_spot o2.2) (M_out o2.2)), o4.2)))) else (some ((0 : Int32), (o2.2, g_this_now)))))
def f_X9_undo (g_this : TM) (g_this_now : Nat → Int64) (g_this_diary : Nat → Int64) : Option (Int32 × (TM × (Nat → Int64))) :=
  (if (M_acts g_this) = (0 : Int32) then (f_X9_undo_J13 g_this_diary (1 : Int32) g_this g_this_now) else (f_X9_undo_J13 g_this_diary (0 : Int32) g_this g_this_now))
set_option maxHeartbeats 8000000 in
set_option maxRecDepth 100000 in
theorem c_X9_undo (l : Launch) (hlt : l.stackTraces = false) (D : va_G) (dT : Nat → ClassId) (a_this : Nat → Nat) (g_this : TM) (g_this_now : Nat → Int64) (g_this_diary : Nat → Int64) (o : (Int32 × (TM × (Nat → Int64)))) (h : f_X9_undo g_this g_this_now g_this_diary = some o) (sz : Nat) : Met l yX9_undo (WSm yX9_undo cX9_undo 1 (some .int)) { frames := 1, cells := 0, slots := 0, locals := 24 } (va_Pc [.ref (a_this 0)] (cPre D dT (cM a_this g_this ++ (cJ_ dT (a_this 2) 353 g_this_now ++ (cJ_ dT (a_this 4) 4942 g_this_diary))) sz)) (va_Qi (fun (r : Int32) (u : TM × (Nat → Int64)) => r = o.1 ∧ u = o.2) (fun u t => cAt D dT (va_A (cM a_this g_this ++ (cJ_ dT (a_this 2) 353 g_this_now ++ (cJ_ dT (a_this 4) 4942 g_this_diary))) sz) (cM a_this (u.1) ++ (cJ_ dT (a_this 2) 353 (u.2) ++ (cJ_ dT (a_this 4) 4942 g_this_diary))) t) (va_A (cM a_this g_this ++ (cJ_ dT (a_this 2) 353 g_this_now ++ (cJ_ dT (a_this 4) 4942 g_this_diary))) sz)) 0 0 (va_A (cM a_this g_this ++ (cJ_ dT (a_this 2) 353 g_this_now ++ (cJ_ dT (a_this 4) 4942 g_this_diary))) sz) := by
  refine mStart (WS := (cM a_this g_this ++ (cJ_ dT (a_this 2) 353 g_this_now ++ (cJ_ dT (a_this 4) 4942 g_this_diary)))) (Qc := fun A => va_Qi (fun (r : Int32) (u : TM × (Nat → Int64)) => r = o.1 ∧ u = o.2) (fun u t => cAt D dT A (cM a_this (u.1) ++ (cJ_ dT (a_this 2) 353 (u.2) ++ (cJ_ dT (a_this 4) 4942 g_this_diary))) t) A) RX9 rfl (by decide) (Nat.le_of_ble_eq_true rfl) ?_ sz
  intro p e s m below meth c A ls hx hb hml hr hlk hnm hts hqs hown hE hA hK hP hD hS hl
  have hl : lv_has ls 1 [(0, .ref (a_this 0))] := hl
  have L_f_X9_undo_J13 : ∀ (g_this_diary : Nat → Int64) (s0 : Int32) (g_this : TM) (g_this_now : Nat → Int64)   (H : Heap) (locs : List Loc) (ls : Array Slot), f_X9_undo_J13 g_this_diary  s0 g_this g_this_now = some o → va_P D vwCl (cM a_this g_this ++ (cJ_ dT (a_this 2) 353 g_this_now ++ (cJ_ dT (a_this 4) 4942 g_this_diary))) H → va_D A (cM a_this g_this ++ (cJ_ dT (a_this 2) 353 g_this_now ++ (cJ_ dT (a_this 4) 4942 g_this_diary))) → va_S A s.heap H locs → lv_has ls 1 [(0, .ref (a_this 0))] → W p l e (headSpec (WSm yX9_undo cX9_undo 1 (some .int)) { frames := 1, cells := 0, slots := 0, locals := 24 }).room s m [.ref (a_this 0)].toArray below meth c H locs 0 0 (MQ below (va_Qi (fun (r : Int32) (u : TM × (Nat → Int64)) => r = o.1 ∧ u = o.2) (fun u t => cAt D dT A (cM a_this (u.1) ++ (cJ_ dT (a_this 2) 353 (u.2) ++ (cJ_ dT (a_this 4) 4942 g_this_diary))) t) A) [.ref (a_this 0)].toArray s 0 0 A) (F0 m 13 ls [.int s0, .ref (a_this 0)]) := by
    intro g_this_diary s0 g_this g_this_now   H locs ls h hP hD hS hl
    unfold f_X9_undo_J13 at h
    obtain ⟨o2, e2, h⟩ := obind h
    have hPc := hP.sub (ws' := (cM a_this g_this)) [0] rfl
    have hDc := hD.sub (ws' := (cM a_this g_this)) [0] (by decide) rfl
    have hFc := va_free (wc := (cM a_this g_this)) hD hS hA [0] rfl
    refine cl_i (wr := (cJ_ dT (a_this 2) 353 g_this_now ++ (cJ_ dT (a_this 4) 4942 g_this_diary))) (va_runV (As := [.int s0]) (rest := []) ⟨hx, hb, hml, hown, hts⟩ (c_X9_refused l hlt D dT a_this g_this s0 o2 e2 _) (cwV 1 hts (TB_V w_1132 w_1134 w_32 w_59 w_1135) rfl rfl rfl ⟨rfl, nd_X9_refused⟩ ⟨Nat.le_of_ble_eq_true rfl, Nat.le_of_ble_eq_true rfl⟩) (cPre.V hPc hDc hK hE hS hFc (va_recv hK hP (ci := 8) (q0 := 0) rfl rfl)) rfl rfl hl.1 rfl (lv_room (Nat.le_of_ble_eq_true rfl)) dX9_undo_13 ⟨Nat.zero_le _, Nat.zero_le _⟩) hP hD hS hFc [0] [1, 2] rfl rfl (by decide) (by decide) (fun r2 u2 H locs hw hP hD hS => ?_)
    obtain ⟨rfl, rfl⟩ := hw
    have hP : va_P D vwCl (cJ_ dT (a_this 2) 353 g_this_now ++ (cJ_ dT (a_this 4) 4942 g_this_diary ++ (cM a_this o2.2))) H := hP
    have hD : va_D A (cJ_ dT (a_this 2) 353 g_this_now ++ (cJ_ dT (a_this 4) 4942 g_this_diary ++ (cM a_this o2.2))) := hD
    refine lv_if_eq (tgt := 21) hx hb dX9_undo_16 (by decide) (fun c3 => ?_) (fun c3 => ?_)
    · replace h := iteT c3 h
      refine lv_aload_n hx hb dX9_undo_21 rfl (lv_at hl 0 rfl) ?_
      refine lv_dup hx hb dX9_undo_22 rfl ?_
      refine gf_X9_177 (v := .int (M_acts o2.2)) hx hb hqs hown hK hP 2 rfl rfl dX9_undo_23 ?_
      refine lv_iconst (v := 1) hx hb dX9_undo_26 (by decide) ?_
      refine lv_isub hx hb dX9_undo_27 ?_
      refine pf_X9_177 hx hb hqs hown hK hP hD hS 2 rfl rfl dX9_undo_28 (fun H locs hP hD hS => ?_)
      have hP : va_P D vwCl (cJ_ dT (a_this 2) 353 g_this_now ++ (cJ_ dT (a_this 4) 4942 g_this_diary ++ ([(a_this 0, .inr (8, [.int (M_refusal o2.2), .ref (a_this 1), .int (M_size o2.2), .ref (a_this 2), .ref (a_this 3), .ref (a_this 4), .int ((M_acts o2.2) - (1 : Int32)), .ref (a_this 5), .ref (a_this 6), .ref (a_this 7), .ref (a_this 8), .ref (a_this 9), .ref (a_this 10), .int (M_planned o2.2), .int (M_spot o2.2), .int (M_out o2.2), .ref (a_this 11)]))]))) H := hP
      have hD : va_D A (cJ_ dT (a_this 2) 353 g_this_now ++ (cJ_ dT (a_this 4) 4942 g_this_diary ++ ([(a_this 0, .inr (8, [.int (M_refusal o2.2), .ref (a_this 1), .int (M_size o2.2), .ref (a_this 2), .ref (a_this 3), .ref (a_this 4), .int ((M_acts o2.2) - (1 : Int32)), .ref (a_this 5), .ref (a_this 6), .ref (a_this 7), .ref (a_this 8), .ref (a_this 9), .ref (a_this 10), .int (M_planned o2.2), .int (M_spot o2.2), .int (M_out o2.2), .ref (a_this 11)]))]))) := hD
      refine lv_aload_n hx hb dX9_undo_31 rfl (lv_at hl 0 rfl) ?_
      refine gf_X9_20 (v := .ref (a_this 4)) hx hb hqs hown hK hP 2 rfl rfl dX9_undo_32 ?_
      refine lv_sipush (v := 353) hx hb dX9_undo_35 (by decide) ?_
      refine lv_aload_n hx hb dX9_undo_38 rfl (lv_at hl 0 rfl) ?_
      refine gf_X9_177 (v := .int ((M_acts o2.2) - (1 : Int32))) hx hb hqs hown hK hP 2 rfl rfl dX9_undo_39 ?_
      refine lv_imul hx hb dX9_undo_42 ?_
      refine lv_aload_n hx hb dX9_undo_43 rfl (lv_at hl 0 rfl) ?_
      refine gf_X9_13 (v := .ref (a_this 2)) hx hb hqs hown hK hP 2 rfl rfl dX9_undo_44 ?_
      refine lv_iconst (v := 0) hx hb dX9_undo_47 (by decide) ?_
      obtain ⟨o4, e4, h⟩ := obind h
      have hPc := hP.sub (ws' := (cJ_ dT (a_this 4) 4942 g_this_diary ++ (cJ_ dT (a_this 2) 353 g_this_now))) [1, 0] rfl
      have hDc := hD.sub (ws' := (cJ_ dT (a_this 4) 4942 g_this_diary ++ (cJ_ dT (a_this 2) 353 g_this_now))) [1, 0] (by decide) rfl
      have hFc := va_free (wc := (cJ_ dT (a_this 4) 4942 g_this_diary ++ (cJ_ dT (a_this 2) 353 g_this_now))) hD hS hA [1, 0] rfl
      refine cl_v (wr := ([(a_this 0, .inr (8, [.int (M_refusal o2.2), .ref (a_this 1), .int (M_size o2.2), .ref (a_this 2), .ref (a_this 3), .ref (a_this 4), .int ((M_acts o2.2) - (1 : Int32)), .ref (a_this 5), .ref (a_this 6), .ref (a_this 7), .ref (a_this 8), .ref (a_this 9), .ref (a_this 10), .int (M_planned o2.2), .int (M_spot o2.2), .int (M_out o2.2), .ref (a_this 11)]))])) (va_runS (As := [.ref (a_this 4), .int ((353 : Int32) * ((M_acts o2.2) - (1 : Int32))), .ref (a_this 2), .int (0 : Int32)]) (rest := []) ⟨hx, hb, hml, hown, hts⟩ (c_X9_copyWorld l hlt D dT (a_this 4) (a_this 2) 4942 353 g_this_diary g_this_now ((353 : Int32) * ((M_acts o2.2) - (1 : Int32))) (0 : Int32) o4 e4 _) (va_cwS 4 hts (TB_S w_1191 w_1192 w_59 w_1193) rfl rfl rfl nd_X9_copyWorld ⟨Nat.le_of_ble_eq_true rfl, Nat.le_of_ble_eq_true rfl⟩) (cPre.S hPc hDc hK hE hS hFc) rfl rfl hl.1 rfl (lv_room (Nat.le_of_ble_eq_true rfl)) dX9_undo_48 ⟨Nat.zero_le _, Nat.zero_le _⟩) hP hD hS hFc [1, 0] [2] rfl rfl (by decide) (by decide) (fun u4 H locs hw hP hD hS => ?_)
      subst hw
      have hP : va_P D vwCl ([(a_this 0, .inr (8, [.int (M_refusal o2.2), .ref (a_this 1), .int (M_size o2.2), .ref (a_this 2), .ref (a_this 3), .ref (a_this 4), .int ((M_acts o2.2) - (1 : Int32)), .ref (a_this 5), .ref (a_this 6), .ref (a_this 7), .ref (a_this 8), .ref (a_this 9), .ref (a_this 10), .int (M_planned o2.2), .int (M_spot o2.2), .int (M_out o2.2), .ref (a_this 11)]))] ++ (cJ_ dT (a_this 4) 4942 g_this_diary ++ (cJ_ dT (a_this 2) 353 o4.2))) H := hP
      have hD : va_D A ([(a_this 0, .inr (8, [.int (M_refusal o2.2), .ref (a_this 1), .int (M_size o2.2), .ref (a_this 2), .ref (a_this 3), .ref (a_this 4), .int ((M_acts o2.2) - (1 : Int32)), .ref (a_this 5), .ref (a_this 6), .ref (a_this 7), .ref (a_this 8), .ref (a_this 9), .ref (a_this 10), .int (M_planned o2.2), .int (M_spot o2.2), .int (M_out o2.2), .ref (a_this 11)]))] ++ (cJ_ dT (a_this 4) 4942 g_this_diary ++ (cJ_ dT (a_this 2) 353 o4.2))) := hD
      refine lv_aload_n hx hb dX9_undo_51 rfl (lv_at hl 0 rfl) ?_
      refine gf_X9_177 (v := .int ((M_acts o2.2) - (1 : Int32))) hx hb hqs hown hK hP 0 rfl rfl dX9_undo_52 ?_
      have hP := hP.sub (ws' := ([(a_this 0, .inr (8, [.int (M_refusal o2.2), .ref (a_this 1), .int (M_size o2.2), .ref (a_this 2), .ref (a_this 3), .ref (a_this 4), .int ((M_acts o2.2) - (1 : Int32)), .ref (a_this 5), .ref (a_this 6), .ref (a_this 7), .ref (a_this 8), .ref (a_this 9), .ref (a_this 10), .int (M_planned o2.2), .int (M_spot o2.2), .int (M_out o2.2), .ref (a_this 11)]))] ++ (cJ_ dT (a_this 2) 353 o4.2 ++ (cJ_ dT (a_this 4) 4942 g_this_diary)))) [0, 2, 1] rfl
      have hD := hD.sub (ws' := ([(a_this 0, .inr (8, [.int (M_refusal o2.2), .ref (a_this 1), .int (M_size o2.2), .ref (a_this 2), .ref (a_this 3), .ref (a_this 4), .int ((M_acts o2.2) - (1 : Int32)), .ref (a_this 5), .ref (a_this 6), .ref (a_this 7), .ref (a_this 8), .ref (a_this 9), .ref (a_this 10), .int (M_planned o2.2), .int (M_spot o2.2), .int (M_out o2.2), .ref (a_this 11)]))] ++ (cJ_ dT (a_this 2) 353 o4.2 ++ (cJ_ dT (a_this 4) 4942 g_this_diary)))) [0, 2, 1] (by decide) rfl
      exact rt_i hx hb hr hlk hK hS (((M_mk (M_refusal o2.2) (M_size o2.2) ((M_acts o2.2) - (1 : Int32)) (M_planned o2.2) (M_spot o2.2) (M_out o2.2)), o4.2) : TM × (Nat → Int64)) (ret2 h) hP hD dX9_undo_55
    · replace h := iteF c3 h
      refine lv_iconst (v := 0) hx hb dX9_undo_19 (by decide) ?_
      have hP := hP.sub (ws' := (cM a_this o2.2 ++ (cJ_ dT (a_this 2) 353 g_this_now ++ (cJ_ dT (a_this 4) 4942 g_this_diary)))) [2, 0, 1] rfl
      have hD := hD.sub (ws' := (cM a_this o2.2 ++ (cJ_ dT (a_this 2) 353 g_this_now ++ (cJ_ dT (a_this 4) 4942 g_this_diary)))) [2, 0, 1] (by decide) rfl
      exact rt_i hx hb hr hlk hK hS ((o2.2, g_this_now) : TM × (Nat → Int64)) (ret2 h) hP hD dX9_undo_20
  unfold f_X9_undo at h
  refine lv_aload_n hx hb dX9_undo_0 rfl (lv_at hl 0 rfl) ?_
  refine lv_aload_n hx hb dX9_undo_1 rfl (lv_at hl 0 rfl) ?_
  refine gf_X9_177 (v := .int (M_acts g_this)) hx hb hqs hown hK hP 0 rfl rfl dX9_undo_2 ?_
  refine lv_if_ne (tgt := 12) hx hb dX9_undo_5 (by decide) (fun c1 => ?_) (fun c1 => ?_)
  · replace h := iteF c1 h
    refine lv_iconst (v := 0) hx hb dX9_undo_12 (by decide) ?_
    refine L_f_X9_undo_J13 g_this_diary (0 : Int32) g_this g_this_now   _ _ _ h hP hD hS (lv_sub hl [0] rfl)
  · replace h := iteT c1 h
    refine lv_iconst (v := 1) hx hb dX9_undo_8 (by decide) ?_
    refine lv_goto (tgt := 13) hx hb dX9_undo_9 (by decide) ?_
    refine L_f_X9_undo_J13 g_this_diary (1 : Int32) g_this g_this_now   _ _ _ h hP hD hS (lv_sub hl [0] rfl)

def f_X9_rows_J33 (g_this_now : Nat → Int64)  (x1 : Int32) (x2 : Int32) (s0 : Int32) (g_this : TM) : Option (Int64 × (TM)) :=
    ((f_X9_refused g_this s0).bind fun o5 => (if o5.1 = (0 : Int32) then ((f_X9_rowsOn 353 g_this_now x1 x2).bind fun o7 => (some (o7.1, o5.2))) else (some ((0 : Int64), o5.2))))
def f_X9_rows (g_this : TM) (g_this_now : Nat → Int64) (v1 : Int32) (v2 : Int32) : Option (Int64 × (TM)) :=
  ((f_X9_isSet 353 g_this_now v1).bind fun o1 => (if o1.1 = (0 : Int32) then (f_X9_rows_J33 g_this_now v1 v2 (1 : Int32) g_this) else ((f_X9_in (Int32.toInt64 v2) (0 : Int64) (2 : Int64)).bind fun o3 => (if o3.1 = (0 : Int32) then (f_X9_rows_J33 g_this_now v1 v2 (2 : Int32) g_this) else (f_X9_rows_J33 g_this_now v1 v2 (0 : Int32) g_this)))))
set_option maxHeartbeats 8000000 in
set_option maxRecDepth 100000 in
theorem c_X9_rows (l : Launch) (hlt : l.stackTraces = false) (D : va_G) (dT : Nat → ClassId) (a_this : Nat → Nat) (g_this : TM) (g_this_now : Nat → Int64) (v1 : Int32) (v2 : Int32) (o : (Int64 × (TM))) (h : f_X9_rows g_this g_this_now v1 v2 = some o) (sz : Nat) : Met l yX9_rows (WSm yX9_rows cX9_rows 3 (some .long)) { frames := 3, cells := 0, slots := 0, locals := 70 } (va_Pc [.ref (a_this 0), .int v1, .int v2] (cPre D dT (cM a_this g_this ++ (cJ_ dT (a_this 2) 353 g_this_now)) sz)) (va_Ql (fun (r : Int64) (u : TM) => r = o.1 ∧ u = o.2) (fun u t => cAt D dT (va_A (cM a_this g_this ++ (cJ_ dT (a_this 2) 353 g_this_now)) sz) (cM a_this u ++ (cJ_ dT (a_this 2) 353 g_this_now)) t) (va_A (cM a_this g_this ++ (cJ_ dT (a_this 2) 353 g_this_now)) sz)) 0 0 (va_A (cM a_this g_this ++ (cJ_ dT (a_this 2) 353 g_this_now)) sz) := by
  refine mStart (WS := (cM a_this g_this ++ (cJ_ dT (a_this 2) 353 g_this_now))) (Qc := fun A => va_Ql (fun (r : Int64) (u : TM) => r = o.1 ∧ u = o.2) (fun u t => cAt D dT A (cM a_this u ++ (cJ_ dT (a_this 2) 353 g_this_now)) t) A) RX9 rfl (by decide) (Nat.le_of_ble_eq_true rfl) ?_ sz
  intro p e s m below meth c A ls hx hb hml hr hlk hnm hts hqs hown hE hA hK hP hD hS hl
  have hl : lv_has ls 3 [(0, .ref (a_this 0)), (1, .int v1), (2, .int v2)] := hl
  have L_f_X9_rows_J33 : ∀ (g_this_now : Nat → Int64) (x1 : Int32) (x2 : Int32) (s0 : Int32) (g_this : TM)   (H : Heap) (locs : List Loc) (ls : Array Slot), f_X9_rows_J33 g_this_now  x1 x2 s0 g_this = some o → va_P D vwCl (cM a_this g_this ++ (cJ_ dT (a_this 2) 353 g_this_now)) H → va_D A (cM a_this g_this ++ (cJ_ dT (a_this 2) 353 g_this_now)) → va_S A s.heap H locs → lv_has ls 3 [(0, .ref (a_this 0)), (1, .int x1), (2, .int x2)] → W p l e (headSpec (WSm yX9_rows cX9_rows 3 (some .long)) { frames := 3, cells := 0, slots := 0, locals := 70 }).room s m [.ref (a_this 0), .int v1, .int v2].toArray below meth c H locs 0 0 (MQ below (va_Ql (fun (r : Int64) (u : TM) => r = o.1 ∧ u = o.2) (fun u t => cAt D dT A (cM a_this u ++ (cJ_ dT (a_this 2) 353 g_this_now)) t) A) [.ref (a_this 0), .int v1, .int v2].toArray s 0 0 A) (F0 m 33 ls [.int s0, .ref (a_this 0)]) := by
    intro g_this_now x1 x2 s0 g_this   H locs ls h hP hD hS hl
    unfold f_X9_rows_J33 at h
    obtain ⟨o5, e5, h⟩ := obind h
    have hPc := hP.sub (ws' := (cM a_this g_this)) [0] rfl
    have hDc := hD.sub (ws' := (cM a_this g_this)) [0] (by decide) rfl
    have hFc := va_free (wc := (cM a_this g_this)) hD hS hA [0] rfl
    refine cl_i (wr := (cJ_ dT (a_this 2) 353 g_this_now)) (va_runV (As := [.int s0]) (rest := []) ⟨hx, hb, hml, hown, hts⟩ (c_X9_refused l hlt D dT a_this g_this s0 o5 e5 _) (cwV 1 hts (TB_V w_1132 w_1134 w_32 w_59 w_1135) rfl rfl rfl ⟨rfl, nd_X9_refused⟩ ⟨Nat.le_of_ble_eq_true rfl, Nat.le_of_ble_eq_true rfl⟩) (cPre.V hPc hDc hK hE hS hFc (va_recv hK hP (ci := 8) (q0 := 0) rfl rfl)) rfl rfl hl.1 rfl (lv_room (Nat.le_of_ble_eq_true rfl)) dX9_rows_33 ⟨Nat.zero_le _, Nat.zero_le _⟩) hP hD hS hFc [0] [1] rfl rfl (by decide) (by decide) (fun r5 u5 H locs hw hP hD hS => ?_)
    obtain ⟨rfl, rfl⟩ := hw
    have hP : va_P D vwCl (cJ_ dT (a_this 2) 353 g_this_now ++ (cM a_this o5.2)) H := hP
    have hD : va_D A (cJ_ dT (a_this 2) 353 g_this_now ++ (cM a_this o5.2)) := hD
    refine lv_if_eq (tgt := 41) hx hb dX9_rows_36 (by decide) (fun c6 => ?_) (fun c6 => ?_)
    · replace h := iteT c6 h
      refine lv_aload_n hx hb dX9_rows_41 rfl (lv_at hl 0 rfl) ?_
      refine gf_X9_13 (v := .ref (a_this 2)) hx hb hqs hown hK hP 1 rfl rfl dX9_rows_42 ?_
      refine lv_iload_n hx hb dX9_rows_45 rfl (lv_at hl 1 rfl) ?_
      refine lv_iload_n hx hb dX9_rows_46 rfl (lv_at hl 2 rfl) ?_
      obtain ⟨o7, e7, h⟩ := obind h
      have hPc := hP.sub (ws' := (cJ_ dT (a_this 2) 353 g_this_now)) [0] rfl
      have hDc := hD.sub (ws' := (cJ_ dT (a_this 2) 353 g_this_now)) [0] (by decide) rfl
      have hFc := va_free (wc := (cJ_ dT (a_this 2) 353 g_this_now)) hD hS hA [0] rfl
      refine cl_l (wr := (cM a_this o5.2)) (va_runS (As := [.ref (a_this 2), .int x1, .int x2]) (rest := []) ⟨hx, hb, hml, hown, hts⟩ (c_X9_rowsOn l hlt D dT (a_this 2) 353 g_this_now x1 x2 o7 e7 _) (va_cwS 3 hts (TB_S w_1285 w_1286 w_59 w_1287) rfl rfl rfl nd_X9_rowsOn ⟨Nat.le_of_ble_eq_true rfl, Nat.le_of_ble_eq_true rfl⟩) (cPre.S hPc hDc hK hE hS hFc) rfl rfl hl.1 rfl (lv_room (Nat.le_of_ble_eq_true rfl)) dX9_rows_47 ⟨Nat.zero_le _, Nat.zero_le _⟩) hP hD hS hFc [0] [1] rfl rfl (by decide) (by decide) (fun r7 u7 H locs hw hP hD hS => ?_)
      obtain ⟨rfl, rfl⟩ := hw
      have hP : va_P D vwCl (cM a_this o5.2 ++ (cJ_ dT (a_this 2) 353 g_this_now)) H := hP
      have hD : va_D A (cM a_this o5.2 ++ (cJ_ dT (a_this 2) 353 g_this_now)) := hD
      exact rt_l hx hb hr hlk hK hS (o5.2 : TM) (ret2 h) hP hD dX9_rows_50
    · replace h := iteF c6 h
      refine lv_lconst (v := 0) hx hb dX9_rows_39 (by decide) ?_
      have hP := hP.sub (ws' := (cM a_this o5.2 ++ (cJ_ dT (a_this 2) 353 g_this_now))) [1, 0] rfl
      have hD := hD.sub (ws' := (cM a_this o5.2 ++ (cJ_ dT (a_this 2) 353 g_this_now))) [1, 0] (by decide) rfl
      exact rt_l hx hb hr hlk hK hS (o5.2 : TM) (ret2 h) hP hD dX9_rows_40
  unfold f_X9_rows at h
  refine lv_aload_n hx hb dX9_rows_0 rfl (lv_at hl 0 rfl) ?_
  refine lv_aload_n hx hb dX9_rows_1 rfl (lv_at hl 0 rfl) ?_
  refine gf_X9_13 (v := .ref (a_this 2)) hx hb hqs hown hK hP 0 rfl rfl dX9_rows_2 ?_
  refine lv_iload_n hx hb dX9_rows_5 rfl (lv_at hl 1 rfl) ?_
  obtain ⟨o1, e1, h⟩ := obind h
  have hPc := hP.sub (ws' := (cJ_ dT (a_this 2) 353 g_this_now)) [1] rfl
  have hDc := hD.sub (ws' := (cJ_ dT (a_this 2) 353 g_this_now)) [1] (by decide) rfl
  have hFc := va_free (wc := (cJ_ dT (a_this 2) 353 g_this_now)) hD hS hA [1] rfl
  refine cl_i (wr := (cM a_this g_this)) (va_runS (As := [.ref (a_this 2), .int v1]) (rest := [.ref (a_this 0)]) ⟨hx, hb, hml, hown, hts⟩ (c_X9_isSet l hlt D dT (a_this 2) 353 g_this_now v1 o1 e1 _) (va_cwS 2 hts (TB_S w_1266 w_1267 w_59 w_1268) rfl rfl rfl nd_X9_isSet ⟨Nat.le_of_ble_eq_true rfl, Nat.le_of_ble_eq_true rfl⟩) (cPre.S hPc hDc hK hE hS hFc) rfl rfl hl.1 rfl (lv_room (Nat.le_of_ble_eq_true rfl)) dX9_rows_6 ⟨Nat.zero_le _, Nat.zero_le _⟩) hP hD hS hFc [1] [0] rfl rfl (by decide) (by decide) (fun r1 u1 H locs hw hP hD hS => ?_)
  obtain ⟨rfl, rfl⟩ := hw
  have hP : va_P D vwCl (cM a_this g_this ++ (cJ_ dT (a_this 2) 353 g_this_now)) H := hP
  have hD : va_D A (cM a_this g_this ++ (cJ_ dT (a_this 2) 353 g_this_now)) := hD
  refine lv_if_ne (tgt := 16) hx hb dX9_rows_9 (by decide) (fun c2 => ?_) (fun c2 => ?_)
  · replace h := iteF c2 h
    refine lv_iload_n hx hb dX9_rows_16 rfl (lv_at hl 2 rfl) ?_
    refine lv_i2l hx hb dX9_rows_17 rfl ?_
    refine lv_lconst (v := 0) hx hb dX9_rows_18 (by decide) ?_
    refine lv_ldc2 (v := 2) hx hb hown (hqs _ w_1227) dX9_rows_19 ?_
    obtain ⟨o3, e3, h⟩ := obind h
    have hPc := hP.sub (ws' := ([] : va_W)) [] rfl
    have hDc := hD.sub (ws' := ([] : va_W)) [] (by decide) rfl
    have hFc := va_free (wc := ([] : va_W)) hD hS hA [] rfl
    refine cl_i (wr := (cM a_this g_this ++ (cJ_ dT (a_this 2) 353 g_this_now))) (va_runS (As := [.long (Int32.toInt64 v2), .long (0 : Int64), .long (2 : Int64)]) (rest := [.ref (a_this 0)]) ⟨hx, hb, hml, hown, hts⟩ (c_X9_in l hlt D dT (Int32.toInt64 v2) (0 : Int64) (2 : Int64) o3 e3 _) (va_cwS 3 hts (TB_S w_1129 w_1130 w_59 w_1131) rfl rfl rfl nd_X9_in ⟨Nat.le_of_ble_eq_true rfl, Nat.le_of_ble_eq_true rfl⟩) (cPre.S hPc hDc hK hE hS hFc) rfl rfl hl.1 rfl (lv_room (Nat.le_of_ble_eq_true rfl)) dX9_rows_22 ⟨Nat.zero_le _, Nat.zero_le _⟩) hP hD hS hFc [] [0, 1] rfl rfl (by decide) (by decide) (fun r3 u3 H locs hw hP hD hS => ?_)
    obtain ⟨rfl, rfl⟩ := hw
    have hP : va_P D vwCl (cM a_this g_this ++ (cJ_ dT (a_this 2) 353 g_this_now)) H := hP
    have hD : va_D A (cM a_this g_this ++ (cJ_ dT (a_this 2) 353 g_this_now)) := hD
    refine lv_if_eq (tgt := 32) hx hb dX9_rows_25 (by decide) (fun c4 => ?_) (fun c4 => ?_)
    · replace h := iteT c4 h
      refine lv_iconst (v := 2) hx hb dX9_rows_32 (by decide) ?_
      refine L_f_X9_rows_J33 g_this_now v1 v2 (2 : Int32) g_this   _ _ _ h hP hD hS (lv_sub hl [0, 1, 2] rfl)
    · replace h := iteF c4 h
      refine lv_iconst (v := 0) hx hb dX9_rows_28 (by decide) ?_
      refine lv_goto (tgt := 33) hx hb dX9_rows_29 (by decide) ?_
      refine L_f_X9_rows_J33 g_this_now v1 v2 (0 : Int32) g_this   _ _ _ h hP hD hS (lv_sub hl [0, 1, 2] rfl)
  · replace h := iteT c2 h
    refine lv_iconst (v := 1) hx hb dX9_rows_12 (by decide) ?_
    refine lv_goto (tgt := 33) hx hb dX9_rows_13 (by decide) ?_
    refine L_f_X9_rows_J33 g_this_now v1 v2 (1 : Int32) g_this   _ _ _ h hP hD hS (lv_sub hl [0, 1, 2] rfl)

def f_X9_order_J37 (g_this_now : Nat → Int64)  (x1 : Int32) (x2 : Int32) (x3 : Int32) (s0 : Int32) (g_this : TM) (g_this_chosenBy : Nat → Int64) (g_this_toPay : Nat → Int64) (g_this_plan : Nat → Int32) : Option (Int32 × (TM × (Nat → Int64) × (Nat → Int64) × (Nat → Int32))) :=
    ((f_X9_refused g_this s0).bind fun o5 => (if o5.1 = (0 : Int32) then ((f_X9_choose 353 o5.2 g_this_chosenBy g_this_toPay g_this_plan g_this_now x1 x2).bind fun o7 => (if (M_planned o7.2.1) ≤ x3 then (some ((-1 : Int32), (o7.2.1, o7.2.2.1, o7.2.2.2.1, o7.2.2.2.2))) else (if inb x3 7 = true then (some ((o7.2.2.2.2 x3.toNatClampNeg), (o7.2.1, o7.2.2.1, o7.2.2.2.1, o7.2.2.2.2))) else none))) else (some ((0 : Int32), (o5.2, g_this_chosenBy, g_this_toPay, g_this_plan)))))
def f_X9_order_J36 (g_this_now : Nat → Int64)  (x1 : Int32) (x2 : Int32) (x3 : Int32) (g_this : TM) (g_this_chosenBy : Nat → Int64) (g_this_toPay : Nat → Int64) (g_this_plan : Nat → Int32) : Option (Int32 × (TM × (Nat → Int64) × (Nat → Int64) × (Nat → Int32))) :=
    (f_X9_order_J37 g_this_now x1 x2 x3 (2 : Int32) g_this g_this_chosenBy g_this_toPay g_this_plan)
def f_X9_order (g_this : TM) (g_this_now : Nat → Int64) (g_this_chosenBy : Nat → Int64) (g_this_toPay : Nat → Int64) (g_this_plan : Nat → Int32) (v1 : Int32) (v2 : Int32) (v3 : Int32) : Option (Int32 × (TM × (Nat → Int64) × (Nat → Int64) × (Nat → Int32))) :=
  ((f_X9_isSet 353 g_this_now v1).bind fun o1 => (if o1.1 = (0 : Int32) then (f_X9_order_J37 g_this_now v1 v2 v3 (1 : Int32) g_this g_this_chosenBy g_this_toPay g_this_plan) else ((f_X9_in (Int32.toInt64 v2) (0 : Int64) (2 : Int64)).bind fun o3 => (if o3.1 = (0 : Int32) then (f_X9_order_J36 g_this_now v1 v2 v3 g_this g_this_chosenBy g_this_toPay g_this_plan) else (if v3 < (0 : Int32) then (f_X9_order_J36 g_this_now v1 v2 v3 g_this g_this_chosenBy g_this_toPay g_this_plan) else (f_X9_order_J37 g_this_now v1 v2 v3 (0 : Int32) g_this g_this_chosenBy g_this_toPay g_this_plan))))))
set_option maxHeartbeats 8000000 in
set_option maxRecDepth 100000 in
theorem c_X9_order (l : Launch) (hlt : l.stackTraces = false) (D : va_G) (dT : Nat → ClassId) (a_this : Nat → Nat) (g_this : TM) (g_this_now : Nat → Int64) (g_this_chosenBy : Nat → Int64) (g_this_toPay : Nat → Int64) (g_this_plan : Nat → Int32) (v1 : Int32) (v2 : Int32) (v3 : Int32) (o : (Int32 × (TM × (Nat → Int64) × (Nat → Int64) × (Nat → Int32)))) (h : f_X9_order g_this g_this_now g_this_chosenBy g_this_toPay g_this_plan v1 v2 v3 = some o) (sz : Nat) : Met l yX9_order (WSm yX9_order cX9_order 4 (some .int)) { frames := 5, cells := 0, slots := 0, locals := 121 } (va_Pc [.ref (a_this 0), .int v1, .int v2, .int v3] (cPre D dT (cM a_this g_this ++ (cJ_ dT (a_this 2) 353 g_this_now ++ (cJ_ dT (a_this 7) 128 g_this_chosenBy ++ (cJ_ dT (a_this 9) 128 g_this_toPay ++ (cI_ dT (a_this 10) 7 g_this_plan))))) sz)) (va_Qi (fun (r : Int32) (u : TM × (Nat → Int64) × (Nat → Int64) × (Nat → Int32)) => r = o.1 ∧ u = o.2) (fun u t => cAt D dT (va_A (cM a_this g_this ++ (cJ_ dT (a_this 2) 353 g_this_now ++ (cJ_ dT (a_this 7) 128 g_this_chosenBy ++ (cJ_ dT (a_this 9) 128 g_this_toPay ++ (cI_ dT (a_this 10) 7 g_this_plan))))) sz) (cM a_this (u.1) ++ (cJ_ dT (a_this 2) 353 g_this_now ++ (cJ_ dT (a_this 7) 128 (u.2.1) ++ (cJ_ dT (a_this 9) 128 (u.2.2.1) ++ (cI_ dT (a_this 10) 7 (u.2.2.2)))))) t) (va_A (cM a_this g_this ++ (cJ_ dT (a_this 2) 353 g_this_now ++ (cJ_ dT (a_this 7) 128 g_this_chosenBy ++ (cJ_ dT (a_this 9) 128 g_this_toPay ++ (cI_ dT (a_this 10) 7 g_this_plan))))) sz)) 0 0 (va_A (cM a_this g_this ++ (cJ_ dT (a_this 2) 353 g_this_now ++ (cJ_ dT (a_this 7) 128 g_this_chosenBy ++ (cJ_ dT (a_this 9) 128 g_this_toPay ++ (cI_ dT (a_this 10) 7 g_this_plan))))) sz) := by
  refine mStart (WS := (cM a_this g_this ++ (cJ_ dT (a_this 2) 353 g_this_now ++ (cJ_ dT (a_this 7) 128 g_this_chosenBy ++ (cJ_ dT (a_this 9) 128 g_this_toPay ++ (cI_ dT (a_this 10) 7 g_this_plan)))))) (Qc := fun A => va_Qi (fun (r : Int32) (u : TM × (Nat → Int64) × (Nat → Int64) × (Nat → Int32)) => r = o.1 ∧ u = o.2) (fun u t => cAt D dT A (cM a_this (u.1) ++ (cJ_ dT (a_this 2) 353 g_this_now ++ (cJ_ dT (a_this 7) 128 (u.2.1) ++ (cJ_ dT (a_this 9) 128 (u.2.2.1) ++ (cI_ dT (a_this 10) 7 (u.2.2.2)))))) t) A) RX9 rfl (by decide) (Nat.le_of_ble_eq_true rfl) ?_ sz
  intro p e s m below meth c A ls hx hb hml hr hlk hnm hts hqs hown hE hA hK hP hD hS hl
  have hl : lv_has ls 4 [(0, .ref (a_this 0)), (1, .int v1), (2, .int v2), (3, .int v3)] := hl
  have L_f_X9_order_J37 : ∀ (g_this_now : Nat → Int64) (x1 : Int32) (x2 : Int32) (x3 : Int32) (s0 : Int32) (g_this : TM) (g_this_chosenBy : Nat → Int64) (g_this_toPay : Nat → Int64) (g_this_plan : Nat → Int32)   (H : Heap) (locs : List Loc) (ls : Array Slot), f_X9_order_J37 g_this_now  x1 x2 x3 s0 g_this g_this_chosenBy g_this_toPay g_this_plan = some o → va_P D vwCl (cM a_this g_this ++ (cJ_ dT (a_this 2) 353 g_this_now ++ (cJ_ dT (a_this 7) 128 g_this_chosenBy ++ (cJ_ dT (a_this 9) 128 g_this_toPay ++ (cI_ dT (a_this 10) 7 g_this_plan))))) H → va_D A (cM a_this g_this ++ (cJ_ dT (a_this 2) 353 g_this_now ++ (cJ_ dT (a_this 7) 128 g_this_chosenBy ++ (cJ_ dT (a_this 9) 128 g_this_toPay ++ (cI_ dT (a_this 10) 7 g_this_plan))))) → va_S A s.heap H locs → lv_has ls 4 [(0, .ref (a_this 0)), (1, .int x1), (2, .int x2), (3, .int x3)] → W p l e (headSpec (WSm yX9_order cX9_order 4 (some .int)) { frames := 5, cells := 0, slots := 0, locals := 121 }).room s m [.ref (a_this 0), .int v1, .int v2, .int v3].toArray below meth c H locs 0 0 (MQ below (va_Qi (fun (r : Int32) (u : TM × (Nat → Int64) × (Nat → Int64) × (Nat → Int32)) => r = o.1 ∧ u = o.2) (fun u t => cAt D dT A (cM a_this (u.1) ++ (cJ_ dT (a_this 2) 353 g_this_now ++ (cJ_ dT (a_this 7) 128 (u.2.1) ++ (cJ_ dT (a_this 9) 128 (u.2.2.1) ++ (cI_ dT (a_this 10) 7 (u.2.2.2)))))) t) A) [.ref (a_this 0), .int v1, .int v2, .int v3].toArray s 0 0 A) (F0 m 37 ls [.int s0, .ref (a_this 0)]) := by
    intro g_this_now x1 x2 x3 s0 g_this g_this_chosenBy g_this_toPay g_this_plan   H locs ls h hP hD hS hl
    unfold f_X9_order_J37 at h
    obtain ⟨o5, e5, h⟩ := obind h
    have hPc := hP.sub (ws' := (cM a_this g_this)) [0] rfl
    have hDc := hD.sub (ws' := (cM a_this g_this)) [0] (by decide) rfl
    have hFc := va_free (wc := (cM a_this g_this)) hD hS hA [0] rfl
    refine cl_i (wr := (cJ_ dT (a_this 2) 353 g_this_now ++ (cJ_ dT (a_this 7) 128 g_this_chosenBy ++ (cJ_ dT (a_this 9) 128 g_this_toPay ++ (cI_ dT (a_this 10) 7 g_this_plan))))) (va_runV (As := [.int s0]) (rest := []) ⟨hx, hb, hml, hown, hts⟩ (c_X9_refused l hlt D dT a_this g_this s0 o5 e5 _) (cwV 1 hts (TB_V w_1132 w_1134 w_32 w_59 w_1135) rfl rfl rfl ⟨rfl, nd_X9_refused⟩ ⟨Nat.le_of_ble_eq_true rfl, Nat.le_of_ble_eq_true rfl⟩) (cPre.V hPc hDc hK hE hS hFc (va_recv hK hP (ci := 8) (q0 := 0) rfl rfl)) rfl rfl hl.1 rfl (lv_room (Nat.le_of_ble_eq_true rfl)) dX9_order_37 ⟨Nat.zero_le _, Nat.zero_le _⟩) hP hD hS hFc [0] [1, 2, 3, 4] rfl rfl (by decide) (by decide) (fun r5 u5 H locs hw hP hD hS => ?_)
    obtain ⟨rfl, rfl⟩ := hw
    have hP : va_P D vwCl (cJ_ dT (a_this 2) 353 g_this_now ++ (cJ_ dT (a_this 7) 128 g_this_chosenBy ++ (cJ_ dT (a_this 9) 128 g_this_toPay ++ (cI_ dT (a_this 10) 7 g_this_plan ++ (cM a_this o5.2))))) H := hP
    have hD : va_D A (cJ_ dT (a_this 2) 353 g_this_now ++ (cJ_ dT (a_this 7) 128 g_this_chosenBy ++ (cJ_ dT (a_this 9) 128 g_this_toPay ++ (cI_ dT (a_this 10) 7 g_this_plan ++ (cM a_this o5.2))))) := hD
    refine lv_if_eq (tgt := 45) hx hb dX9_order_40 (by decide) (fun c6 => ?_) (fun c6 => ?_)
    · replace h := iteT c6 h
      refine lv_aload_n hx hb dX9_order_45 rfl (lv_at hl 0 rfl) ?_
      refine lv_aload_n hx hb dX9_order_46 rfl (lv_at hl 0 rfl) ?_
      refine gf_X9_13 (v := .ref (a_this 2)) hx hb hqs hown hK hP 4 rfl rfl dX9_order_47 ?_
      refine lv_iload_n hx hb dX9_order_50 rfl (lv_at hl 1 rfl) ?_
      refine lv_iload_n hx hb dX9_order_51 rfl (lv_at hl 2 rfl) ?_
      obtain ⟨o7, e7, h⟩ := obind h
      have hPc := hP.sub (ws' := (cM a_this o5.2 ++ (cJ_ dT (a_this 7) 128 g_this_chosenBy ++ (cJ_ dT (a_this 9) 128 g_this_toPay ++ (cI_ dT (a_this 10) 7 g_this_plan ++ (cJ_ dT (a_this 2) 353 g_this_now)))))) [4, 1, 2, 3, 0] rfl
      have hDc := hD.sub (ws' := (cM a_this o5.2 ++ (cJ_ dT (a_this 7) 128 g_this_chosenBy ++ (cJ_ dT (a_this 9) 128 g_this_toPay ++ (cI_ dT (a_this 10) 7 g_this_plan ++ (cJ_ dT (a_this 2) 353 g_this_now)))))) [4, 1, 2, 3, 0] (by decide) rfl
      have hFc := va_free (wc := (cM a_this o5.2 ++ (cJ_ dT (a_this 7) 128 g_this_chosenBy ++ (cJ_ dT (a_this 9) 128 g_this_toPay ++ (cI_ dT (a_this 10) 7 g_this_plan ++ (cJ_ dT (a_this 2) 353 g_this_now)))))) hD hS hA [4, 1, 2, 3, 0] rfl
      refine cl_l (wr := ([] : va_W)) (va_runV (As := [.ref (a_this 2), .int x1, .int x2]) (rest := []) ⟨hx, hb, hml, hown, hts⟩ (c_X9_choose l hlt D dT a_this (a_this 2) 353 o5.2 g_this_chosenBy g_this_toPay g_this_plan g_this_now x1 x2 o7 e7 _) (cwV 3 hts (TB_V w_1277 w_1279 w_42 w_59 w_1280) rfl rfl rfl ⟨rfl, nd_X9_choose⟩ ⟨Nat.le_of_ble_eq_true rfl, Nat.le_of_ble_eq_true rfl⟩) (cPre.V hPc hDc hK hE hS hFc (va_recv hK hP (ci := 8) (q0 := 4) rfl rfl)) rfl rfl hl.1 rfl (lv_room (Nat.le_of_ble_eq_true rfl)) dX9_order_52 ⟨Nat.zero_le _, Nat.zero_le _⟩) hP hD hS hFc [4, 1, 2, 3, 0] [] rfl rfl (by decide) (by decide) (fun r7 u7 H locs hw hP hD hS => ?_)
      obtain ⟨rfl, rfl⟩ := hw
      have hP : va_P D vwCl (cM a_this o7.2.1 ++ (cJ_ dT (a_this 7) 128 o7.2.2.1 ++ (cJ_ dT (a_this 9) 128 o7.2.2.2.1 ++ (cI_ dT (a_this 10) 7 o7.2.2.2.2 ++ (cJ_ dT (a_this 2) 353 g_this_now))))) H := hP
      have hD : va_D A (cM a_this o7.2.1 ++ (cJ_ dT (a_this 7) 128 o7.2.2.1 ++ (cJ_ dT (a_this 9) 128 o7.2.2.2.1 ++ (cI_ dT (a_this 10) 7 o7.2.2.2.2 ++ (cJ_ dT (a_this 2) 353 g_this_now))))) := hD
      refine lv_pop2_2 hx hb dX9_order_55 rfl ?_
      refine lv_iload_n hx hb dX9_order_56 rfl (lv_at hl 3 rfl) ?_
      refine lv_aload_n hx hb dX9_order_57 rfl (lv_at hl 0 rfl) ?_
      refine gf_X9_98 (v := .int (M_planned o7.2.1)) hx hb hqs hown hK hP 0 rfl rfl dX9_order_58 ?_
      refine lv_icmp_ge (tgt := 73) hx hb dX9_order_61 (by decide) (fun c8 => ?_) (fun c8 => ?_)
      · replace h := iteT c8 h
        refine lv_iconst (v := -1) hx hb dX9_order_73 (by decide) ?_
        have hP := hP.sub (ws' := (cM a_this o7.2.1 ++ (cJ_ dT (a_this 2) 353 g_this_now ++ (cJ_ dT (a_this 7) 128 o7.2.2.1 ++ (cJ_ dT (a_this 9) 128 o7.2.2.2.1 ++ (cI_ dT (a_this 10) 7 o7.2.2.2.2)))))) [0, 4, 1, 2, 3] rfl
        have hD := hD.sub (ws' := (cM a_this o7.2.1 ++ (cJ_ dT (a_this 2) 353 g_this_now ++ (cJ_ dT (a_this 7) 128 o7.2.2.1 ++ (cJ_ dT (a_this 9) 128 o7.2.2.2.1 ++ (cI_ dT (a_this 10) 7 o7.2.2.2.2)))))) [0, 4, 1, 2, 3] (by decide) rfl
        exact rt_i hx hb hr hlk hK hS ((o7.2.1, o7.2.2.1, o7.2.2.2.1, o7.2.2.2.2) : TM × (Nat → Int64) × (Nat → Int64) × (Nat → Int32)) (ret2 h) hP hD dX9_order_74
      · replace h := iteF c8 h
        refine lv_aload_n hx hb dX9_order_64 rfl (lv_at hl 0 rfl) ?_
        refine gf_X9_39 (v := .ref (a_this 10)) hx hb hqs hown hK hP 0 rfl rfl dX9_order_65 ?_
        refine lv_iload_n hx hb dX9_order_68 rfl (lv_at hl 3 rfl) ?_
        obtain ⟨g9, h⟩ := chk h
        refine va_iald hx hb hK hP 3 0 rfl rfl (inb_in g9) dX9_order_69 ?_
        refine lv_goto (tgt := 74) hx hb dX9_order_70 (by decide) ?_
        have hP := hP.sub (ws' := (cM a_this o7.2.1 ++ (cJ_ dT (a_this 2) 353 g_this_now ++ (cJ_ dT (a_this 7) 128 o7.2.2.1 ++ (cJ_ dT (a_this 9) 128 o7.2.2.2.1 ++ (cI_ dT (a_this 10) 7 o7.2.2.2.2)))))) [0, 4, 1, 2, 3] rfl
        have hD := hD.sub (ws' := (cM a_this o7.2.1 ++ (cJ_ dT (a_this 2) 353 g_this_now ++ (cJ_ dT (a_this 7) 128 o7.2.2.1 ++ (cJ_ dT (a_this 9) 128 o7.2.2.2.1 ++ (cI_ dT (a_this 10) 7 o7.2.2.2.2)))))) [0, 4, 1, 2, 3] (by decide) rfl
        exact rt_i hx hb hr hlk hK hS ((o7.2.1, o7.2.2.1, o7.2.2.2.1, o7.2.2.2.2) : TM × (Nat → Int64) × (Nat → Int64) × (Nat → Int32)) (ret2 h) hP hD dX9_order_74
    · replace h := iteF c6 h
      refine lv_iconst (v := 0) hx hb dX9_order_43 (by decide) ?_
      have hP := hP.sub (ws' := (cM a_this o5.2 ++ (cJ_ dT (a_this 2) 353 g_this_now ++ (cJ_ dT (a_this 7) 128 g_this_chosenBy ++ (cJ_ dT (a_this 9) 128 g_this_toPay ++ (cI_ dT (a_this 10) 7 g_this_plan)))))) [4, 0, 1, 2, 3] rfl
      have hD := hD.sub (ws' := (cM a_this o5.2 ++ (cJ_ dT (a_this 2) 353 g_this_now ++ (cJ_ dT (a_this 7) 128 g_this_chosenBy ++ (cJ_ dT (a_this 9) 128 g_this_toPay ++ (cI_ dT (a_this 10) 7 g_this_plan)))))) [4, 0, 1, 2, 3] (by decide) rfl
      exact rt_i hx hb hr hlk hK hS ((o5.2, g_this_chosenBy, g_this_toPay, g_this_plan) : TM × (Nat → Int64) × (Nat → Int64) × (Nat → Int32)) (ret2 h) hP hD dX9_order_44
  have L_f_X9_order_J36 : ∀ (g_this_now : Nat → Int64) (x1 : Int32) (x2 : Int32) (x3 : Int32) (g_this : TM) (g_this_chosenBy : Nat → Int64) (g_this_toPay : Nat → Int64) (g_this_plan : Nat → Int32)   (H : Heap) (locs : List Loc) (ls : Array Slot), f_X9_order_J36 g_this_now  x1 x2 x3 g_this g_this_chosenBy g_this_toPay g_this_plan = some o → va_P D vwCl (cM a_this g_this ++ (cJ_ dT (a_this 2) 353 g_this_now ++ (cJ_ dT (a_this 7) 128 g_this_chosenBy ++ (cJ_ dT (a_this 9) 128 g_this_toPay ++ (cI_ dT (a_this 10) 7 g_this_plan))))) H → va_D A (cM a_this g_this ++ (cJ_ dT (a_this 2) 353 g_this_now ++ (cJ_ dT (a_this 7) 128 g_this_chosenBy ++ (cJ_ dT (a_this 9) 128 g_this_toPay ++ (cI_ dT (a_this 10) 7 g_this_plan))))) → va_S A s.heap H locs → lv_has ls 4 [(0, .ref (a_this 0)), (1, .int x1), (2, .int x2), (3, .int x3)] → W p l e (headSpec (WSm yX9_order cX9_order 4 (some .int)) { frames := 5, cells := 0, slots := 0, locals := 121 }).room s m [.ref (a_this 0), .int v1, .int v2, .int v3].toArray below meth c H locs 0 0 (MQ below (va_Qi (fun (r : Int32) (u : TM × (Nat → Int64) × (Nat → Int64) × (Nat → Int32)) => r = o.1 ∧ u = o.2) (fun u t => cAt D dT A (cM a_this (u.1) ++ (cJ_ dT (a_this 2) 353 g_this_now ++ (cJ_ dT (a_this 7) 128 (u.2.1) ++ (cJ_ dT (a_this 9) 128 (u.2.2.1) ++ (cI_ dT (a_this 10) 7 (u.2.2.2)))))) t) A) [.ref (a_this 0), .int v1, .int v2, .int v3].toArray s 0 0 A) (F0 m 36 ls [.ref (a_this 0)]) := by
    intro g_this_now x1 x2 x3 g_this g_this_chosenBy g_this_toPay g_this_plan   H locs ls h hP hD hS hl
    unfold f_X9_order_J36 at h
    refine lv_iconst (v := 2) hx hb dX9_order_36 (by decide) ?_
    refine L_f_X9_order_J37 g_this_now x1 x2 x3 (2 : Int32) g_this g_this_chosenBy g_this_toPay g_this_plan   _ _ _ h hP hD hS (lv_sub hl [0, 1, 2, 3] rfl)
  unfold f_X9_order at h
  refine lv_aload_n hx hb dX9_order_0 rfl (lv_at hl 0 rfl) ?_
  refine lv_aload_n hx hb dX9_order_1 rfl (lv_at hl 0 rfl) ?_
  refine gf_X9_13 (v := .ref (a_this 2)) hx hb hqs hown hK hP 0 rfl rfl dX9_order_2 ?_
  refine lv_iload_n hx hb dX9_order_5 rfl (lv_at hl 1 rfl) ?_
  obtain ⟨o1, e1, h⟩ := obind h
  have hPc := hP.sub (ws' := (cJ_ dT (a_this 2) 353 g_this_now)) [1] rfl
  have hDc := hD.sub (ws' := (cJ_ dT (a_this 2) 353 g_this_now)) [1] (by decide) rfl
  have hFc := va_free (wc := (cJ_ dT (a_this 2) 353 g_this_now)) hD hS hA [1] rfl
  refine cl_i (wr := (cM a_this g_this ++ (cJ_ dT (a_this 7) 128 g_this_chosenBy ++ (cJ_ dT (a_this 9) 128 g_this_toPay ++ (cI_ dT (a_this 10) 7 g_this_plan))))) (va_runS (As := [.ref (a_this 2), .int v1]) (rest := [.ref (a_this 0)]) ⟨hx, hb, hml, hown, hts⟩ (c_X9_isSet l hlt D dT (a_this 2) 353 g_this_now v1 o1 e1 _) (va_cwS 2 hts (TB_S w_1266 w_1267 w_59 w_1268) rfl rfl rfl nd_X9_isSet ⟨Nat.le_of_ble_eq_true rfl, Nat.le_of_ble_eq_true rfl⟩) (cPre.S hPc hDc hK hE hS hFc) rfl rfl hl.1 rfl (lv_room (Nat.le_of_ble_eq_true rfl)) dX9_order_6 ⟨Nat.zero_le _, Nat.zero_le _⟩) hP hD hS hFc [1] [0, 2, 3, 4] rfl rfl (by decide) (by decide) (fun r1 u1 H locs hw hP hD hS => ?_)
  obtain ⟨rfl, rfl⟩ := hw
  have hP : va_P D vwCl (cM a_this g_this ++ (cJ_ dT (a_this 7) 128 g_this_chosenBy ++ (cJ_ dT (a_this 9) 128 g_this_toPay ++ (cI_ dT (a_this 10) 7 g_this_plan ++ (cJ_ dT (a_this 2) 353 g_this_now))))) H := hP
  have hD : va_D A (cM a_this g_this ++ (cJ_ dT (a_this 7) 128 g_this_chosenBy ++ (cJ_ dT (a_this 9) 128 g_this_toPay ++ (cI_ dT (a_this 10) 7 g_this_plan ++ (cJ_ dT (a_this 2) 353 g_this_now))))) := hD
  refine lv_if_ne (tgt := 16) hx hb dX9_order_9 (by decide) (fun c2 => ?_) (fun c2 => ?_)
  · replace h := iteF c2 h
    refine lv_iload_n hx hb dX9_order_16 rfl (lv_at hl 2 rfl) ?_
    refine lv_i2l hx hb dX9_order_17 rfl ?_
    refine lv_lconst (v := 0) hx hb dX9_order_18 (by decide) ?_
    refine lv_ldc2 (v := 2) hx hb hown (hqs _ w_1227) dX9_order_19 ?_
    obtain ⟨o3, e3, h⟩ := obind h
    have hPc := hP.sub (ws' := ([] : va_W)) [] rfl
    have hDc := hD.sub (ws' := ([] : va_W)) [] (by decide) rfl
    have hFc := va_free (wc := ([] : va_W)) hD hS hA [] rfl
    refine cl_i (wr := (cM a_this g_this ++ (cJ_ dT (a_this 7) 128 g_this_chosenBy ++ (cJ_ dT (a_this 9) 128 g_this_toPay ++ (cI_ dT (a_this 10) 7 g_this_plan ++ (cJ_ dT (a_this 2) 353 g_this_now)))))) (va_runS (As := [.long (Int32.toInt64 v2), .long (0 : Int64), .long (2 : Int64)]) (rest := [.ref (a_this 0)]) ⟨hx, hb, hml, hown, hts⟩ (c_X9_in l hlt D dT (Int32.toInt64 v2) (0 : Int64) (2 : Int64) o3 e3 _) (va_cwS 3 hts (TB_S w_1129 w_1130 w_59 w_1131) rfl rfl rfl nd_X9_in ⟨Nat.le_of_ble_eq_true rfl, Nat.le_of_ble_eq_true rfl⟩) (cPre.S hPc hDc hK hE hS hFc) rfl rfl hl.1 rfl (lv_room (Nat.le_of_ble_eq_true rfl)) dX9_order_22 ⟨Nat.zero_le _, Nat.zero_le _⟩) hP hD hS hFc [] [0, 1, 2, 3, 4] rfl rfl (by decide) (by decide) (fun r3 u3 H locs hw hP hD hS => ?_)
    obtain ⟨rfl, rfl⟩ := hw
    have hP : va_P D vwCl (cM a_this g_this ++ (cJ_ dT (a_this 7) 128 g_this_chosenBy ++ (cJ_ dT (a_this 9) 128 g_this_toPay ++ (cI_ dT (a_this 10) 7 g_this_plan ++ (cJ_ dT (a_this 2) 353 g_this_now))))) H := hP
    have hD : va_D A (cM a_this g_this ++ (cJ_ dT (a_this 7) 128 g_this_chosenBy ++ (cJ_ dT (a_this 9) 128 g_this_toPay ++ (cI_ dT (a_this 10) 7 g_this_plan ++ (cJ_ dT (a_this 2) 353 g_this_now))))) := hD
    refine lv_if_eq (tgt := 36) hx hb dX9_order_25 (by decide) (fun c4 => ?_) (fun c4 => ?_)
    · replace h := iteT c4 h
      have hP := hP.sub (ws' := (cM a_this g_this ++ (cJ_ dT (a_this 2) 353 g_this_now ++ (cJ_ dT (a_this 7) 128 g_this_chosenBy ++ (cJ_ dT (a_this 9) 128 g_this_toPay ++ (cI_ dT (a_this 10) 7 g_this_plan)))))) [0, 4, 1, 2, 3] rfl
      have hD := hD.sub (ws' := (cM a_this g_this ++ (cJ_ dT (a_this 2) 353 g_this_now ++ (cJ_ dT (a_this 7) 128 g_this_chosenBy ++ (cJ_ dT (a_this 9) 128 g_this_toPay ++ (cI_ dT (a_this 10) 7 g_this_plan)))))) [0, 4, 1, 2, 3] (by decide) rfl
      refine L_f_X9_order_J36 g_this_now v1 v2 v3 g_this g_this_chosenBy g_this_toPay g_this_plan   _ _ _ h hP hD hS (lv_sub hl [0, 1, 2, 3] rfl)
    · replace h := iteF c4 h
      refine lv_iload_n hx hb dX9_order_28 rfl (lv_at hl 3 rfl) ?_
      refine lv_if_lt (tgt := 36) hx hb dX9_order_29 (by decide) (fun c10 => ?_) (fun c10 => ?_)
      · replace h := iteT c10 h
        have hP := hP.sub (ws' := (cM a_this g_this ++ (cJ_ dT (a_this 2) 353 g_this_now ++ (cJ_ dT (a_this 7) 128 g_this_chosenBy ++ (cJ_ dT (a_this 9) 128 g_this_toPay ++ (cI_ dT (a_this 10) 7 g_this_plan)))))) [0, 4, 1, 2, 3] rfl
        have hD := hD.sub (ws' := (cM a_this g_this ++ (cJ_ dT (a_this 2) 353 g_this_now ++ (cJ_ dT (a_this 7) 128 g_this_chosenBy ++ (cJ_ dT (a_this 9) 128 g_this_toPay ++ (cI_ dT (a_this 10) 7 g_this_plan)))))) [0, 4, 1, 2, 3] (by decide) rfl
        refine L_f_X9_order_J36 g_this_now v1 v2 v3 g_this g_this_chosenBy g_this_toPay g_this_plan   _ _ _ h hP hD hS (lv_sub hl [0, 1, 2, 3] rfl)
      · replace h := iteF c10 h
        refine lv_iconst (v := 0) hx hb dX9_order_32 (by decide) ?_
        refine lv_goto (tgt := 37) hx hb dX9_order_33 (by decide) ?_
        have hP := hP.sub (ws' := (cM a_this g_this ++ (cJ_ dT (a_this 2) 353 g_this_now ++ (cJ_ dT (a_this 7) 128 g_this_chosenBy ++ (cJ_ dT (a_this 9) 128 g_this_toPay ++ (cI_ dT (a_this 10) 7 g_this_plan)))))) [0, 4, 1, 2, 3] rfl
        have hD := hD.sub (ws' := (cM a_this g_this ++ (cJ_ dT (a_this 2) 353 g_this_now ++ (cJ_ dT (a_this 7) 128 g_this_chosenBy ++ (cJ_ dT (a_this 9) 128 g_this_toPay ++ (cI_ dT (a_this 10) 7 g_this_plan)))))) [0, 4, 1, 2, 3] (by decide) rfl
        refine L_f_X9_order_J37 g_this_now v1 v2 v3 (0 : Int32) g_this g_this_chosenBy g_this_toPay g_this_plan   _ _ _ h hP hD hS (lv_sub hl [0, 1, 2, 3] rfl)
  · replace h := iteT c2 h
    refine lv_iconst (v := 1) hx hb dX9_order_12 (by decide) ?_
    refine lv_goto (tgt := 37) hx hb dX9_order_13 (by decide) ?_
    have hP := hP.sub (ws' := (cM a_this g_this ++ (cJ_ dT (a_this 2) 353 g_this_now ++ (cJ_ dT (a_this 7) 128 g_this_chosenBy ++ (cJ_ dT (a_this 9) 128 g_this_toPay ++ (cI_ dT (a_this 10) 7 g_this_plan)))))) [0, 4, 1, 2, 3] rfl
    have hD := hD.sub (ws' := (cM a_this g_this ++ (cJ_ dT (a_this 2) 353 g_this_now ++ (cJ_ dT (a_this 7) 128 g_this_chosenBy ++ (cJ_ dT (a_this 9) 128 g_this_toPay ++ (cI_ dT (a_this 10) 7 g_this_plan)))))) [0, 4, 1, 2, 3] (by decide) rfl
    refine L_f_X9_order_J37 g_this_now v1 v2 v3 (1 : Int32) g_this g_this_chosenBy g_this_toPay g_this_plan   _ _ _ h hP hD hS (lv_sub hl [0, 1, 2, 3] rfl)

def f_X9_way_L60 (g_this : TM) (g_this_now : Nat → Int64) (g_this_chosenBy : Nat → Int64) (g_this_toPay : Nat → Int64) (g_this_plan : Nat → Int32) (x2 : Int32) (k84 : Int32 → Option (Int32 × (TM × (Nat → Int64) × (Nat → Int64) × (Nat → Int32)))) : Nat → Int32 → Int32 → Option (Int32 × (TM × (Nat → Int64) × (Nat → Int64) × (Nat → Int32)))
  | 0, _, _ => none
  | n + 1, x3, x4 =>
    (if x2 ≤ x4 then (k84 x3) else (if inb x4 7 = true then (f_X9_way_L60 g_this g_this_now g_this_chosenBy g_this_toPay g_this_plan x2 k84 n (x3 ||| ((1 : Int32) <<< ((g_this_plan x4.toNatClampNeg) &&& 31))) (x4 + (1 : Int32))) else none))
def f_X9_way_J26 (g_this_now : Nat → Int64)  (x1 : Int32) (x2 : Int32) (s0 : Int32) (g_this : TM) (g_this_chosenBy : Nat → Int64) (g_this_toPay : Nat → Int64) (g_this_plan : Nat → Int32) : Option (Int32 × (TM × (Nat → Int64) × (Nat → Int64) × (Nat → Int32))) :=
    ((f_X9_refused g_this s0).bind fun o4 => (if o4.1 = (0 : Int32) then ((f_X9_choose 353 o4.2 g_this_chosenBy g_this_toPay g_this_plan g_this_now x1 (1 : Int32)).bind fun o6 => (if x2 < (M_planned o6.2.1) then (f_X9_way_L60 o6.2.1 g_this_now o6.2.2.1 o6.2.2.2.1 o6.2.2.2.2 x2 (fun (y10x3 : Int32) => (if inb x2 7 = true then ((f_X9_isByList 353 128 g_this_now o6.2.2.1 y10x3 (o6.2.2.2.2 x2.toNatClampNeg)).bind fun o12 => (if o12.1 = (0 : Int32) then (some ((0 : Int32), (o6.2.1, o6.2.2.1, o6.2.2.2.1, o6.2.2.2.2))) else (some ((1 : Int32), (o6.2.1, o6.2.2.1, o6.2.2.2.1, o6.2.2.2.2))))) else none)) FUEL (0 : Int32) (0 : Int32)) else (some ((-1 : Int32), (o6.2.1, o6.2.2.1, o6.2.2.2.1, o6.2.2.2.2))))) else (some ((0 : Int32), (o4.2, g_this_chosenBy, g_this_toPay, g_this_plan)))))
def f_X9_way (g_this : TM) (g_this_now : Nat → Int64) (g_this_chosenBy : Nat → Int64) (g_this_toPay : Nat → Int64) (g_this_plan : Nat → Int32) (v1 : Int32) (v2 : Int32) : Option (Int32 × (TM × (Nat → Int64) × (Nat → Int64) × (Nat → Int32))) :=
  ((f_X9_isSet 353 g_this_now v1).bind fun o1 => (if o1.1 = (0 : Int32) then (f_X9_way_J26 g_this_now v1 v2 (1 : Int32) g_this g_this_chosenBy g_this_toPay g_this_plan) else (if v2 < (1 : Int32) then (f_X9_way_J26 g_this_now v1 v2 (2 : Int32) g_this g_this_chosenBy g_this_toPay g_this_plan) else (f_X9_way_J26 g_this_now v1 v2 (0 : Int32) g_this g_this_chosenBy g_this_toPay g_this_plan))))
set_option maxHeartbeats 8000000 in
set_option maxRecDepth 100000 in
theorem c_X9_way (l : Launch) (hlt : l.stackTraces = false) (D : va_G) (dT : Nat → ClassId) (a_this : Nat → Nat) (g_this : TM) (g_this_now : Nat → Int64) (g_this_chosenBy : Nat → Int64) (g_this_toPay : Nat → Int64) (g_this_plan : Nat → Int32) (v1 : Int32) (v2 : Int32) (o : (Int32 × (TM × (Nat → Int64) × (Nat → Int64) × (Nat → Int32)))) (h : f_X9_way g_this g_this_now g_this_chosenBy g_this_toPay g_this_plan v1 v2 = some o) (sz : Nat) : Met l yX9_way (WSm yX9_way cX9_way 5 (some .int)) { frames := 5, cells := 0, slots := 0, locals := 121 } (va_Pc [.ref (a_this 0), .int v1, .int v2] (cPre D dT (cM a_this g_this ++ (cJ_ dT (a_this 2) 353 g_this_now ++ (cJ_ dT (a_this 7) 128 g_this_chosenBy ++ (cJ_ dT (a_this 9) 128 g_this_toPay ++ (cI_ dT (a_this 10) 7 g_this_plan))))) sz)) (va_Qi (fun (r : Int32) (u : TM × (Nat → Int64) × (Nat → Int64) × (Nat → Int32)) => r = o.1 ∧ u = o.2) (fun u t => cAt D dT (va_A (cM a_this g_this ++ (cJ_ dT (a_this 2) 353 g_this_now ++ (cJ_ dT (a_this 7) 128 g_this_chosenBy ++ (cJ_ dT (a_this 9) 128 g_this_toPay ++ (cI_ dT (a_this 10) 7 g_this_plan))))) sz) (cM a_this (u.1) ++ (cJ_ dT (a_this 2) 353 g_this_now ++ (cJ_ dT (a_this 7) 128 (u.2.1) ++ (cJ_ dT (a_this 9) 128 (u.2.2.1) ++ (cI_ dT (a_this 10) 7 (u.2.2.2)))))) t) (va_A (cM a_this g_this ++ (cJ_ dT (a_this 2) 353 g_this_now ++ (cJ_ dT (a_this 7) 128 g_this_chosenBy ++ (cJ_ dT (a_this 9) 128 g_this_toPay ++ (cI_ dT (a_this 10) 7 g_this_plan))))) sz)) 0 0 (va_A (cM a_this g_this ++ (cJ_ dT (a_this 2) 353 g_this_now ++ (cJ_ dT (a_this 7) 128 g_this_chosenBy ++ (cJ_ dT (a_this 9) 128 g_this_toPay ++ (cI_ dT (a_this 10) 7 g_this_plan))))) sz) := by
  refine mStart (WS := (cM a_this g_this ++ (cJ_ dT (a_this 2) 353 g_this_now ++ (cJ_ dT (a_this 7) 128 g_this_chosenBy ++ (cJ_ dT (a_this 9) 128 g_this_toPay ++ (cI_ dT (a_this 10) 7 g_this_plan)))))) (Qc := fun A => va_Qi (fun (r : Int32) (u : TM × (Nat → Int64) × (Nat → Int64) × (Nat → Int32)) => r = o.1 ∧ u = o.2) (fun u t => cAt D dT A (cM a_this (u.1) ++ (cJ_ dT (a_this 2) 353 g_this_now ++ (cJ_ dT (a_this 7) 128 (u.2.1) ++ (cJ_ dT (a_this 9) 128 (u.2.2.1) ++ (cI_ dT (a_this 10) 7 (u.2.2.2)))))) t) A) RX9 rfl (by decide) (Nat.le_of_ble_eq_true rfl) ?_ sz
  intro p e s m below meth c A ls hx hb hml hr hlk hnm hts hqs hown hE hA hK hP hD hS hl
  have hl : lv_has ls 5 [(0, .ref (a_this 0)), (1, .int v1), (2, .int v2)] := hl
  have L_f_X9_way_L60 : ∀ (g_this : TM) (g_this_now : Nat → Int64) (g_this_chosenBy : Nat → Int64) (g_this_toPay : Nat → Int64) (g_this_plan : Nat → Int32) (x2 : Int32) (k84 : Int32 → Option (Int32 × (TM × (Nat → Int64) × (Nat → Int64) × (Nat → Int32)))) (hk84 : ∀ (x3 : Int32) (H : Heap) (locs : List Loc) (ls : Array Slot), k84 x3 = some o → va_P D vwCl (cM a_this g_this ++ (cJ_ dT (a_this 2) 353 g_this_now ++ (cJ_ dT (a_this 7) 128 g_this_chosenBy ++ (cJ_ dT (a_this 9) 128 g_this_toPay ++ (cI_ dT (a_this 10) 7 g_this_plan))))) H → va_D A (cM a_this g_this ++ (cJ_ dT (a_this 2) 353 g_this_now ++ (cJ_ dT (a_this 7) 128 g_this_chosenBy ++ (cJ_ dT (a_this 9) 128 g_this_toPay ++ (cI_ dT (a_this 10) 7 g_this_plan))))) → va_S A s.heap H locs → lv_has ls 5 [(0, .ref (a_this 0)), (2, .int x2), (3, .int x3)] → W p l e (headSpec (WSm yX9_way cX9_way 5 (some .int)) { frames := 5, cells := 0, slots := 0, locals := 121 }).room s m [.ref (a_this 0), .int v1, .int v2].toArray below meth c H locs 0 0 (MQ below (va_Qi (fun (r : Int32) (u : TM × (Nat → Int64) × (Nat → Int64) × (Nat → Int32)) => r = o.1 ∧ u = o.2) (fun u t => cAt D dT A (cM a_this (u.1) ++ (cJ_ dT (a_this 2) 353 g_this_now ++ (cJ_ dT (a_this 7) 128 (u.2.1) ++ (cJ_ dT (a_this 9) 128 (u.2.2.1) ++ (cI_ dT (a_this 10) 7 (u.2.2.2)))))) t) A) [.ref (a_this 0), .int v1, .int v2].toArray s 0 0 A) (F0 m 84 ls [])) (n : Nat), ∀ (x3 : Int32) (x4 : Int32) (H : Heap) (locs : List Loc) (ls : Array Slot), f_X9_way_L60 g_this g_this_now g_this_chosenBy g_this_toPay g_this_plan x2 k84 n x3 x4 = some o → va_P D vwCl (cM a_this g_this ++ (cJ_ dT (a_this 2) 353 g_this_now ++ (cJ_ dT (a_this 7) 128 g_this_chosenBy ++ (cJ_ dT (a_this 9) 128 g_this_toPay ++ (cI_ dT (a_this 10) 7 g_this_plan))))) H → va_D A (cM a_this g_this ++ (cJ_ dT (a_this 2) 353 g_this_now ++ (cJ_ dT (a_this 7) 128 g_this_chosenBy ++ (cJ_ dT (a_this 9) 128 g_this_toPay ++ (cI_ dT (a_this 10) 7 g_this_plan))))) → va_S A s.heap H locs → lv_has ls 5 [(0, .ref (a_this 0)), (2, .int x2), (3, .int x3), (4, .int x4)] → W p l e (headSpec (WSm yX9_way cX9_way 5 (some .int)) { frames := 5, cells := 0, slots := 0, locals := 121 }).room s m [.ref (a_this 0), .int v1, .int v2].toArray below meth c H locs 0 0 (MQ below (va_Qi (fun (r : Int32) (u : TM × (Nat → Int64) × (Nat → Int64) × (Nat → Int32)) => r = o.1 ∧ u = o.2) (fun u t => cAt D dT A (cM a_this (u.1) ++ (cJ_ dT (a_this 2) 353 g_this_now ++ (cJ_ dT (a_this 7) 128 (u.2.1) ++ (cJ_ dT (a_this 9) 128 (u.2.2.1) ++ (cI_ dT (a_this 10) 7 (u.2.2.2)))))) t) A) [.ref (a_this 0), .int v1, .int v2].toArray s 0 0 A) (F0 m 60 ls []) := by
    intro g_this g_this_now g_this_chosenBy g_this_toPay g_this_plan x2 k84 hk84 n
    induction n with
    | zero => intro x3 x4 H locs ls h; exact nomatch h
    | succ n ih =>
      intro x3 x4 H locs ls h hP hD hS hl
      unfold f_X9_way_L60 at h
      refine lv_iload hx hb dX9_way_60 (lv_at hl 3 rfl) ?_
      refine lv_iload_n hx hb dX9_way_62 rfl (lv_at hl 1 rfl) ?_
      refine lv_icmp_ge (tgt := 84) hx hb dX9_way_63 (by decide) (fun c8 => ?_) (fun c8 => ?_)
      · replace h := iteT c8 h
        exact hk84 x3 _ _ _ h hP hD hS (lv_sub hl [0, 1, 2] rfl)
      · replace h := iteF c8 h
        refine lv_iload_n hx hb dX9_way_66 rfl (lv_at hl 2 rfl) ?_
        refine lv_iconst (v := 1) hx hb dX9_way_67 (by decide) ?_
        refine lv_aload_n hx hb dX9_way_68 rfl (lv_at hl 0 rfl) ?_
        refine gf_X9_39 (v := .ref (a_this 10)) hx hb hqs hown hK hP 0 rfl rfl dX9_way_69 ?_
        refine lv_iload hx hb dX9_way_72 (lv_at hl 3 rfl) ?_
        obtain ⟨g9, h⟩ := chk h
        refine va_iald hx hb hK hP 4 0 rfl rfl (inb_in g9) dX9_way_74 ?_
        refine lv_ishl hx hb dX9_way_75 ?_
        refine lv_ior hx hb dX9_way_76 ?_
        refine lv_istore_n (lv' := [(3, .int (x3 ||| ((1 : Int32) <<< ((g_this_plan x4.toNatClampNeg) &&& 31)))), (0, .ref (a_this 0)), (2, .int x2), (4, .int x4)]) hx hb dX9_way_77 rfl hl (by decide) rfl (fun ls hl => ?_)
        refine lv_iinc (v := (x4 + (1 : Int32))) (lv' := [(4, .int (x4 + (1 : Int32))), (3, .int (x3 ||| ((1 : Int32) <<< ((g_this_plan x4.toNatClampNeg) &&& 31)))), (0, .ref (a_this 0)), (2, .int x2)]) hx hb dX9_way_78 hl (k := 3) rfl rfl (by decide) rfl (fun ls hl => ?_)
        refine lv_goto (tgt := 60) hx hb dX9_way_81 (by decide) ?_
        exact ih (x3 ||| ((1 : Int32) <<< ((g_this_plan x4.toNatClampNeg) &&& 31))) (x4 + (1 : Int32)) _ _ _ h hP hD hS (lv_sub hl [2, 3, 1, 0] rfl)
  have L_f_X9_way_J26 : ∀ (g_this_now : Nat → Int64) (x1 : Int32) (x2 : Int32) (s0 : Int32) (g_this : TM) (g_this_chosenBy : Nat → Int64) (g_this_toPay : Nat → Int64) (g_this_plan : Nat → Int32)   (H : Heap) (locs : List Loc) (ls : Array Slot), f_X9_way_J26 g_this_now  x1 x2 s0 g_this g_this_chosenBy g_this_toPay g_this_plan = some o → va_P D vwCl (cM a_this g_this ++ (cJ_ dT (a_this 2) 353 g_this_now ++ (cJ_ dT (a_this 7) 128 g_this_chosenBy ++ (cJ_ dT (a_this 9) 128 g_this_toPay ++ (cI_ dT (a_this 10) 7 g_this_plan))))) H → va_D A (cM a_this g_this ++ (cJ_ dT (a_this 2) 353 g_this_now ++ (cJ_ dT (a_this 7) 128 g_this_chosenBy ++ (cJ_ dT (a_this 9) 128 g_this_toPay ++ (cI_ dT (a_this 10) 7 g_this_plan))))) → va_S A s.heap H locs → lv_has ls 5 [(0, .ref (a_this 0)), (1, .int x1), (2, .int x2)] → W p l e (headSpec (WSm yX9_way cX9_way 5 (some .int)) { frames := 5, cells := 0, slots := 0, locals := 121 }).room s m [.ref (a_this 0), .int v1, .int v2].toArray below meth c H locs 0 0 (MQ below (va_Qi (fun (r : Int32) (u : TM × (Nat → Int64) × (Nat → Int64) × (Nat → Int32)) => r = o.1 ∧ u = o.2) (fun u t => cAt D dT A (cM a_this (u.1) ++ (cJ_ dT (a_this 2) 353 g_this_now ++ (cJ_ dT (a_this 7) 128 (u.2.1) ++ (cJ_ dT (a_this 9) 128 (u.2.2.1) ++ (cI_ dT (a_this 10) 7 (u.2.2.2)))))) t) A) [.ref (a_this 0), .int v1, .int v2].toArray s 0 0 A) (F0 m 26 ls [.int s0, .ref (a_this 0)]) := by
    intro g_this_now x1 x2 s0 g_this g_this_chosenBy g_this_toPay g_this_plan   H locs ls h hP hD hS hl
    unfold f_X9_way_J26 at h
    obtain ⟨o4, e4, h⟩ := obind h
    have hPc := hP.sub (ws' := (cM a_this g_this)) [0] rfl
    have hDc := hD.sub (ws' := (cM a_this g_this)) [0] (by decide) rfl
    have hFc := va_free (wc := (cM a_this g_this)) hD hS hA [0] rfl
    refine cl_i (wr := (cJ_ dT (a_this 2) 353 g_this_now ++ (cJ_ dT (a_this 7) 128 g_this_chosenBy ++ (cJ_ dT (a_this 9) 128 g_this_toPay ++ (cI_ dT (a_this 10) 7 g_this_plan))))) (va_runV (As := [.int s0]) (rest := []) ⟨hx, hb, hml, hown, hts⟩ (c_X9_refused l hlt D dT a_this g_this s0 o4 e4 _) (cwV 1 hts (TB_V w_1132 w_1134 w_32 w_59 w_1135) rfl rfl rfl ⟨rfl, nd_X9_refused⟩ ⟨Nat.le_of_ble_eq_true rfl, Nat.le_of_ble_eq_true rfl⟩) (cPre.V hPc hDc hK hE hS hFc (va_recv hK hP (ci := 8) (q0 := 0) rfl rfl)) rfl rfl hl.1 rfl (lv_room (Nat.le_of_ble_eq_true rfl)) dX9_way_26 ⟨Nat.zero_le _, Nat.zero_le _⟩) hP hD hS hFc [0] [1, 2, 3, 4] rfl rfl (by decide) (by decide) (fun r4 u4 H locs hw hP hD hS => ?_)
    obtain ⟨rfl, rfl⟩ := hw
    have hP : va_P D vwCl (cJ_ dT (a_this 2) 353 g_this_now ++ (cJ_ dT (a_this 7) 128 g_this_chosenBy ++ (cJ_ dT (a_this 9) 128 g_this_toPay ++ (cI_ dT (a_this 10) 7 g_this_plan ++ (cM a_this o4.2))))) H := hP
    have hD : va_D A (cJ_ dT (a_this 2) 353 g_this_now ++ (cJ_ dT (a_this 7) 128 g_this_chosenBy ++ (cJ_ dT (a_this 9) 128 g_this_toPay ++ (cI_ dT (a_this 10) 7 g_this_plan ++ (cM a_this o4.2))))) := hD
    refine lv_if_eq (tgt := 34) hx hb dX9_way_29 (by decide) (fun c5 => ?_) (fun c5 => ?_)
    · replace h := iteT c5 h
      refine lv_aload_n hx hb dX9_way_34 rfl (lv_at hl 0 rfl) ?_
      refine lv_aload_n hx hb dX9_way_35 rfl (lv_at hl 0 rfl) ?_
      refine gf_X9_13 (v := .ref (a_this 2)) hx hb hqs hown hK hP 4 rfl rfl dX9_way_36 ?_
      refine lv_iload_n hx hb dX9_way_39 rfl (lv_at hl 1 rfl) ?_
      refine lv_iconst (v := 1) hx hb dX9_way_40 (by decide) ?_
      obtain ⟨o6, e6, h⟩ := obind h
      have hPc := hP.sub (ws' := (cM a_this o4.2 ++ (cJ_ dT (a_this 7) 128 g_this_chosenBy ++ (cJ_ dT (a_this 9) 128 g_this_toPay ++ (cI_ dT (a_this 10) 7 g_this_plan ++ (cJ_ dT (a_this 2) 353 g_this_now)))))) [4, 1, 2, 3, 0] rfl
      have hDc := hD.sub (ws' := (cM a_this o4.2 ++ (cJ_ dT (a_this 7) 128 g_this_chosenBy ++ (cJ_ dT (a_this 9) 128 g_this_toPay ++ (cI_ dT (a_this 10) 7 g_this_plan ++ (cJ_ dT (a_this 2) 353 g_this_now)))))) [4, 1, 2, 3, 0] (by decide) rfl
      have hFc := va_free (wc := (cM a_this o4.2 ++ (cJ_ dT (a_this 7) 128 g_this_chosenBy ++ (cJ_ dT (a_this 9) 128 g_this_toPay ++ (cI_ dT (a_this 10) 7 g_this_plan ++ (cJ_ dT (a_this 2) 353 g_this_now)))))) hD hS hA [4, 1, 2, 3, 0] rfl
      refine cl_l (wr := ([] : va_W)) (va_runV (As := [.ref (a_this 2), .int x1, .int (1 : Int32)]) (rest := []) ⟨hx, hb, hml, hown, hts⟩ (c_X9_choose l hlt D dT a_this (a_this 2) 353 o4.2 g_this_chosenBy g_this_toPay g_this_plan g_this_now x1 (1 : Int32) o6 e6 _) (cwV 3 hts (TB_V w_1277 w_1279 w_42 w_59 w_1280) rfl rfl rfl ⟨rfl, nd_X9_choose⟩ ⟨Nat.le_of_ble_eq_true rfl, Nat.le_of_ble_eq_true rfl⟩) (cPre.V hPc hDc hK hE hS hFc (va_recv hK hP (ci := 8) (q0 := 4) rfl rfl)) rfl rfl hl.1 rfl (lv_room (Nat.le_of_ble_eq_true rfl)) dX9_way_41 ⟨Nat.zero_le _, Nat.zero_le _⟩) hP hD hS hFc [4, 1, 2, 3, 0] [] rfl rfl (by decide) (by decide) (fun r6 u6 H locs hw hP hD hS => ?_)
      obtain ⟨rfl, rfl⟩ := hw
      have hP : va_P D vwCl (cM a_this o6.2.1 ++ (cJ_ dT (a_this 7) 128 o6.2.2.1 ++ (cJ_ dT (a_this 9) 128 o6.2.2.2.1 ++ (cI_ dT (a_this 10) 7 o6.2.2.2.2 ++ (cJ_ dT (a_this 2) 353 g_this_now))))) H := hP
      have hD : va_D A (cM a_this o6.2.1 ++ (cJ_ dT (a_this 7) 128 o6.2.2.1 ++ (cJ_ dT (a_this 9) 128 o6.2.2.2.1 ++ (cI_ dT (a_this 10) 7 o6.2.2.2.2 ++ (cJ_ dT (a_this 2) 353 g_this_now))))) := hD
      refine lv_pop2_2 hx hb dX9_way_44 rfl ?_
      refine lv_iload_n hx hb dX9_way_45 rfl (lv_at hl 2 rfl) ?_
      refine lv_aload_n hx hb dX9_way_46 rfl (lv_at hl 0 rfl) ?_
      refine gf_X9_98 (v := .int (M_planned o6.2.1)) hx hb hqs hown hK hP 0 rfl rfl dX9_way_47 ?_
      refine lv_icmp_lt (tgt := 55) hx hb dX9_way_50 (by decide) (fun c7 => ?_) (fun c7 => ?_)
      · replace h := iteT c7 h
        refine lv_iconst (v := 0) hx hb dX9_way_55 (by decide) ?_
        refine lv_istore_n (lv' := [(3, .int (0 : Int32)), (0, .ref (a_this 0)), (1, .int x1), (2, .int x2)]) hx hb dX9_way_56 rfl hl (by decide) rfl (fun ls hl => ?_)
        refine lv_iconst (v := 0) hx hb dX9_way_57 (by decide) ?_
        refine lv_istore (lv' := [(4, .int (0 : Int32)), (3, .int (0 : Int32)), (0, .ref (a_this 0)), (1, .int x1), (2, .int x2)]) hx hb dX9_way_58 hl (by decide) rfl (fun ls hl => ?_)
        have hP := hP.sub (ws' := (cM a_this o6.2.1 ++ (cJ_ dT (a_this 2) 353 g_this_now ++ (cJ_ dT (a_this 7) 128 o6.2.2.1 ++ (cJ_ dT (a_this 9) 128 o6.2.2.2.1 ++ (cI_ dT (a_this 10) 7 o6.2.2.2.2)))))) [0, 4, 1, 2, 3] rfl
        have hD := hD.sub (ws' := (cM a_this o6.2.1 ++ (cJ_ dT (a_this 2) 353 g_this_now ++ (cJ_ dT (a_this 7) 128 o6.2.2.1 ++ (cJ_ dT (a_this 9) 128 o6.2.2.2.1 ++ (cI_ dT (a_this 10) 7 o6.2.2.2.2)))))) [0, 4, 1, 2, 3] (by decide) rfl
        refine L_f_X9_way_L60 o6.2.1 g_this_now o6.2.2.1 o6.2.2.2.1 o6.2.2.2.2 x2 _ ?_ FUEL (0 : Int32) (0 : Int32) _ _ _ h hP hD hS (lv_sub hl [2, 4, 1, 0] rfl)
        · intro y10x3 H locs ls h hP hD hS hl
          refine lv_aload_n hx hb dX9_way_84 rfl (lv_at hl 0 rfl) ?_
          refine gf_X9_13 (v := .ref (a_this 2)) hx hb hqs hown hK hP 0 rfl rfl dX9_way_85 ?_
          refine lv_aload_n hx hb dX9_way_88 rfl (lv_at hl 0 rfl) ?_
          refine gf_X9_30 (v := .ref (a_this 7)) hx hb hqs hown hK hP 0 rfl rfl dX9_way_89 ?_
          refine lv_iload_n hx hb dX9_way_92 rfl (lv_at hl 2 rfl) ?_
          refine lv_aload_n hx hb dX9_way_93 rfl (lv_at hl 0 rfl) ?_
          refine gf_X9_39 (v := .ref (a_this 10)) hx hb hqs hown hK hP 0 rfl rfl dX9_way_94 ?_
          refine lv_iload_n hx hb dX9_way_97 rfl (lv_at hl 1 rfl) ?_
          obtain ⟨g11, h⟩ := chk h
          refine va_iald hx hb hK hP 4 0 rfl rfl (inb_in g11) dX9_way_98 ?_
          obtain ⟨o12, e12, h⟩ := obind h
          have hPc := hP.sub (ws' := (cJ_ dT (a_this 2) 353 g_this_now ++ (cJ_ dT (a_this 7) 128 o6.2.2.1))) [1, 2] rfl
          have hDc := hD.sub (ws' := (cJ_ dT (a_this 2) 353 g_this_now ++ (cJ_ dT (a_this 7) 128 o6.2.2.1))) [1, 2] (by decide) rfl
          have hFc := va_free (wc := (cJ_ dT (a_this 2) 353 g_this_now ++ (cJ_ dT (a_this 7) 128 o6.2.2.1))) hD hS hA [1, 2] rfl
          refine cl_i (wr := (cM a_this o6.2.1 ++ (cJ_ dT (a_this 9) 128 o6.2.2.2.1 ++ (cI_ dT (a_this 10) 7 o6.2.2.2.2)))) (va_runS (As := [.ref (a_this 2), .ref (a_this 7), .int y10x3, .int (o6.2.2.2.2 x2.toNatClampNeg)]) (rest := []) ⟨hx, hb, hml, hown, hts⟩ (c_X9_isByList l hlt D dT (a_this 2) (a_this 7) 353 128 g_this_now o6.2.2.1 y10x3 (o6.2.2.2.2 x2.toNatClampNeg) o12 e12 _) (va_cwS 4 hts (TB_S w_1299 w_1300 w_59 w_1301) rfl rfl rfl nd_X9_isByList ⟨Nat.le_of_ble_eq_true rfl, Nat.le_of_ble_eq_true rfl⟩) (cPre.S hPc hDc hK hE hS hFc) rfl rfl hl.1 rfl (lv_room (Nat.le_of_ble_eq_true rfl)) dX9_way_99 ⟨Nat.zero_le _, Nat.zero_le _⟩) hP hD hS hFc [1, 2] [0, 3, 4] rfl rfl (by decide) (by decide) (fun r12 u12 H locs hw hP hD hS => ?_)
          obtain ⟨rfl, rfl⟩ := hw
          have hP : va_P D vwCl (cM a_this o6.2.1 ++ (cJ_ dT (a_this 9) 128 o6.2.2.2.1 ++ (cI_ dT (a_this 10) 7 o6.2.2.2.2 ++ (cJ_ dT (a_this 2) 353 g_this_now ++ (cJ_ dT (a_this 7) 128 o6.2.2.1))))) H := hP
          have hD : va_D A (cM a_this o6.2.1 ++ (cJ_ dT (a_this 9) 128 o6.2.2.2.1 ++ (cI_ dT (a_this 10) 7 o6.2.2.2.2 ++ (cJ_ dT (a_this 2) 353 g_this_now ++ (cJ_ dT (a_this 7) 128 o6.2.2.1))))) := hD
          refine lv_if_eq (tgt := 109) hx hb dX9_way_102 (by decide) (fun c13 => ?_) (fun c13 => ?_)
          · replace h := iteT c13 h
            refine lv_iconst (v := 0) hx hb dX9_way_109 (by decide) ?_
            have hP := hP.sub (ws' := (cM a_this o6.2.1 ++ (cJ_ dT (a_this 2) 353 g_this_now ++ (cJ_ dT (a_this 7) 128 o6.2.2.1 ++ (cJ_ dT (a_this 9) 128 o6.2.2.2.1 ++ (cI_ dT (a_this 10) 7 o6.2.2.2.2)))))) [0, 3, 4, 1, 2] rfl
            have hD := hD.sub (ws' := (cM a_this o6.2.1 ++ (cJ_ dT (a_this 2) 353 g_this_now ++ (cJ_ dT (a_this 7) 128 o6.2.2.1 ++ (cJ_ dT (a_this 9) 128 o6.2.2.2.1 ++ (cI_ dT (a_this 10) 7 o6.2.2.2.2)))))) [0, 3, 4, 1, 2] (by decide) rfl
            exact rt_i hx hb hr hlk hK hS ((o6.2.1, o6.2.2.1, o6.2.2.2.1, o6.2.2.2.2) : TM × (Nat → Int64) × (Nat → Int64) × (Nat → Int32)) (ret2 h) hP hD dX9_way_110
          · replace h := iteF c13 h
            refine lv_iconst (v := 1) hx hb dX9_way_105 (by decide) ?_
            refine lv_goto (tgt := 110) hx hb dX9_way_106 (by decide) ?_
            have hP := hP.sub (ws' := (cM a_this o6.2.1 ++ (cJ_ dT (a_this 2) 353 g_this_now ++ (cJ_ dT (a_this 7) 128 o6.2.2.1 ++ (cJ_ dT (a_this 9) 128 o6.2.2.2.1 ++ (cI_ dT (a_this 10) 7 o6.2.2.2.2)))))) [0, 3, 4, 1, 2] rfl
            have hD := hD.sub (ws' := (cM a_this o6.2.1 ++ (cJ_ dT (a_this 2) 353 g_this_now ++ (cJ_ dT (a_this 7) 128 o6.2.2.1 ++ (cJ_ dT (a_this 9) 128 o6.2.2.2.1 ++ (cI_ dT (a_this 10) 7 o6.2.2.2.2)))))) [0, 3, 4, 1, 2] (by decide) rfl
            exact rt_i hx hb hr hlk hK hS ((o6.2.1, o6.2.2.1, o6.2.2.2.1, o6.2.2.2.2) : TM × (Nat → Int64) × (Nat → Int64) × (Nat → Int32)) (ret2 h) hP hD dX9_way_110
      · replace h := iteF c7 h
        refine lv_iconst (v := -1) hx hb dX9_way_53 (by decide) ?_
        have hP := hP.sub (ws' := (cM a_this o6.2.1 ++ (cJ_ dT (a_this 2) 353 g_this_now ++ (cJ_ dT (a_this 7) 128 o6.2.2.1 ++ (cJ_ dT (a_this 9) 128 o6.2.2.2.1 ++ (cI_ dT (a_this 10) 7 o6.2.2.2.2)))))) [0, 4, 1, 2, 3] rfl
        have hD := hD.sub (ws' := (cM a_this o6.2.1 ++ (cJ_ dT (a_this 2) 353 g_this_now ++ (cJ_ dT (a_this 7) 128 o6.2.2.1 ++ (cJ_ dT (a_this 9) 128 o6.2.2.2.1 ++ (cI_ dT (a_this 10) 7 o6.2.2.2.2)))))) [0, 4, 1, 2, 3] (by decide) rfl
        exact rt_i hx hb hr hlk hK hS ((o6.2.1, o6.2.2.1, o6.2.2.2.1, o6.2.2.2.2) : TM × (Nat → Int64) × (Nat → Int64) × (Nat → Int32)) (ret2 h) hP hD dX9_way_54
    · replace h := iteF c5 h
      refine lv_iconst (v := 0) hx hb dX9_way_32 (by decide) ?_
      have hP := hP.sub (ws' := (cM a_this o4.2 ++ (cJ_ dT (a_this 2) 353 g_this_now ++ (cJ_ dT (a_this 7) 128 g_this_chosenBy ++ (cJ_ dT (a_this 9) 128 g_this_toPay ++ (cI_ dT (a_this 10) 7 g_this_plan)))))) [4, 0, 1, 2, 3] rfl
      have hD := hD.sub (ws' := (cM a_this o4.2 ++ (cJ_ dT (a_this 2) 353 g_this_now ++ (cJ_ dT (a_this 7) 128 g_this_chosenBy ++ (cJ_ dT (a_this 9) 128 g_this_toPay ++ (cI_ dT (a_this 10) 7 g_this_plan)))))) [4, 0, 1, 2, 3] (by decide) rfl
      exact rt_i hx hb hr hlk hK hS ((o4.2, g_this_chosenBy, g_this_toPay, g_this_plan) : TM × (Nat → Int64) × (Nat → Int64) × (Nat → Int32)) (ret2 h) hP hD dX9_way_33
  unfold f_X9_way at h
  refine lv_aload_n hx hb dX9_way_0 rfl (lv_at hl 0 rfl) ?_
  refine lv_aload_n hx hb dX9_way_1 rfl (lv_at hl 0 rfl) ?_
  refine gf_X9_13 (v := .ref (a_this 2)) hx hb hqs hown hK hP 0 rfl rfl dX9_way_2 ?_
  refine lv_iload_n hx hb dX9_way_5 rfl (lv_at hl 1 rfl) ?_
  obtain ⟨o1, e1, h⟩ := obind h
  have hPc := hP.sub (ws' := (cJ_ dT (a_this 2) 353 g_this_now)) [1] rfl
  have hDc := hD.sub (ws' := (cJ_ dT (a_this 2) 353 g_this_now)) [1] (by decide) rfl
  have hFc := va_free (wc := (cJ_ dT (a_this 2) 353 g_this_now)) hD hS hA [1] rfl
  refine cl_i (wr := (cM a_this g_this ++ (cJ_ dT (a_this 7) 128 g_this_chosenBy ++ (cJ_ dT (a_this 9) 128 g_this_toPay ++ (cI_ dT (a_this 10) 7 g_this_plan))))) (va_runS (As := [.ref (a_this 2), .int v1]) (rest := [.ref (a_this 0)]) ⟨hx, hb, hml, hown, hts⟩ (c_X9_isSet l hlt D dT (a_this 2) 353 g_this_now v1 o1 e1 _) (va_cwS 2 hts (TB_S w_1266 w_1267 w_59 w_1268) rfl rfl rfl nd_X9_isSet ⟨Nat.le_of_ble_eq_true rfl, Nat.le_of_ble_eq_true rfl⟩) (cPre.S hPc hDc hK hE hS hFc) rfl rfl hl.1 rfl (lv_room (Nat.le_of_ble_eq_true rfl)) dX9_way_6 ⟨Nat.zero_le _, Nat.zero_le _⟩) hP hD hS hFc [1] [0, 2, 3, 4] rfl rfl (by decide) (by decide) (fun r1 u1 H locs hw hP hD hS => ?_)
  obtain ⟨rfl, rfl⟩ := hw
  have hP : va_P D vwCl (cM a_this g_this ++ (cJ_ dT (a_this 7) 128 g_this_chosenBy ++ (cJ_ dT (a_this 9) 128 g_this_toPay ++ (cI_ dT (a_this 10) 7 g_this_plan ++ (cJ_ dT (a_this 2) 353 g_this_now))))) H := hP
  have hD : va_D A (cM a_this g_this ++ (cJ_ dT (a_this 7) 128 g_this_chosenBy ++ (cJ_ dT (a_this 9) 128 g_this_toPay ++ (cI_ dT (a_this 10) 7 g_this_plan ++ (cJ_ dT (a_this 2) 353 g_this_now))))) := hD
  refine lv_if_ne (tgt := 16) hx hb dX9_way_9 (by decide) (fun c2 => ?_) (fun c2 => ?_)
  · replace h := iteF c2 h
    refine lv_iload_n hx hb dX9_way_16 rfl (lv_at hl 2 rfl) ?_
    refine lv_iconst (v := 1) hx hb dX9_way_17 (by decide) ?_
    refine lv_icmp_lt (tgt := 25) hx hb dX9_way_18 (by decide) (fun c3 => ?_) (fun c3 => ?_)
    · replace h := iteT c3 h
      refine lv_iconst (v := 2) hx hb dX9_way_25 (by decide) ?_
      have hP := hP.sub (ws' := (cM a_this g_this ++ (cJ_ dT (a_this 2) 353 g_this_now ++ (cJ_ dT (a_this 7) 128 g_this_chosenBy ++ (cJ_ dT (a_this 9) 128 g_this_toPay ++ (cI_ dT (a_this 10) 7 g_this_plan)))))) [0, 4, 1, 2, 3] rfl
      have hD := hD.sub (ws' := (cM a_this g_this ++ (cJ_ dT (a_this 2) 353 g_this_now ++ (cJ_ dT (a_this 7) 128 g_this_chosenBy ++ (cJ_ dT (a_this 9) 128 g_this_toPay ++ (cI_ dT (a_this 10) 7 g_this_plan)))))) [0, 4, 1, 2, 3] (by decide) rfl
      refine L_f_X9_way_J26 g_this_now v1 v2 (2 : Int32) g_this g_this_chosenBy g_this_toPay g_this_plan   _ _ _ h hP hD hS (lv_sub hl [0, 1, 2] rfl)
    · replace h := iteF c3 h
      refine lv_iconst (v := 0) hx hb dX9_way_21 (by decide) ?_
      refine lv_goto (tgt := 26) hx hb dX9_way_22 (by decide) ?_
      have hP := hP.sub (ws' := (cM a_this g_this ++ (cJ_ dT (a_this 2) 353 g_this_now ++ (cJ_ dT (a_this 7) 128 g_this_chosenBy ++ (cJ_ dT (a_this 9) 128 g_this_toPay ++ (cI_ dT (a_this 10) 7 g_this_plan)))))) [0, 4, 1, 2, 3] rfl
      have hD := hD.sub (ws' := (cM a_this g_this ++ (cJ_ dT (a_this 2) 353 g_this_now ++ (cJ_ dT (a_this 7) 128 g_this_chosenBy ++ (cJ_ dT (a_this 9) 128 g_this_toPay ++ (cI_ dT (a_this 10) 7 g_this_plan)))))) [0, 4, 1, 2, 3] (by decide) rfl
      refine L_f_X9_way_J26 g_this_now v1 v2 (0 : Int32) g_this g_this_chosenBy g_this_toPay g_this_plan   _ _ _ h hP hD hS (lv_sub hl [0, 1, 2] rfl)
  · replace h := iteT c2 h
    refine lv_iconst (v := 1) hx hb dX9_way_12 (by decide) ?_
    refine lv_goto (tgt := 26) hx hb dX9_way_13 (by decide) ?_
    have hP := hP.sub (ws' := (cM a_this g_this ++ (cJ_ dT (a_this 2) 353 g_this_now ++ (cJ_ dT (a_this 7) 128 g_this_chosenBy ++ (cJ_ dT (a_this 9) 128 g_this_toPay ++ (cI_ dT (a_this 10) 7 g_this_plan)))))) [0, 4, 1, 2, 3] rfl
    have hD := hD.sub (ws' := (cM a_this g_this ++ (cJ_ dT (a_this 2) 353 g_this_now ++ (cJ_ dT (a_this 7) 128 g_this_chosenBy ++ (cJ_ dT (a_this 9) 128 g_this_toPay ++ (cI_ dT (a_this 10) 7 g_this_plan)))))) [0, 4, 1, 2, 3] (by decide) rfl
    refine L_f_X9_way_J26 g_this_now v1 v2 (1 : Int32) g_this g_this_chosenBy g_this_toPay g_this_plan   _ _ _ h hP hD hS (lv_sub hl [0, 1, 2] rfl)

def f_X9_cost_J33 (g_this_now : Nat → Int64)  (x1 : Int32) (x2 : Int32) (s0 : Int32) (g_this : TM) (g_this_chosenBy : Nat → Int64) (g_this_paidBy : Nat → Int64) (g_this_toPay : Nat → Int64) (g_this_plan : Nat → Int32) : Option (Int64 × (TM × (Nat → Int64) × (Nat → Int64) × (Nat → Int64) × (Nat → Int32))) :=
    ((f_X9_refused g_this s0).bind fun o5 => (if o5.1 = (0 : Int32) then ((f_X9_costOn 353 o5.2 g_this_chosenBy g_this_paidBy g_this_toPay g_this_plan g_this_now x1 x2).bind fun o7 => (some (o7.1, (o7.2.1, o7.2.2.1, o7.2.2.2.1, o7.2.2.2.2.1, o7.2.2.2.2.2)))) else (some ((0 : Int64), (o5.2, g_this_chosenBy, g_this_paidBy, g_this_toPay, g_this_plan)))))
def f_X9_cost (g_this : TM) (g_this_now : Nat → Int64) (g_this_chosenBy : Nat → Int64) (g_this_paidBy : Nat → Int64) (g_this_toPay : Nat → Int64) (g_this_plan : Nat → Int32) (v1 : Int32) (v2 : Int32) : Option (Int64 × (TM × (Nat → Int64) × (Nat → Int64) × (Nat → Int64) × (Nat → Int32))) :=
  ((f_X9_isSet 353 g_this_now v1).bind fun o1 => (if o1.1 = (0 : Int32) then (f_X9_cost_J33 g_this_now v1 v2 (1 : Int32) g_this g_this_chosenBy g_this_paidBy g_this_toPay g_this_plan) else ((f_X9_in (Int32.toInt64 v2) (0 : Int64) (2 : Int64)).bind fun o3 => (if o3.1 = (0 : Int32) then (f_X9_cost_J33 g_this_now v1 v2 (2 : Int32) g_this g_this_chosenBy g_this_paidBy g_this_toPay g_this_plan) else (f_X9_cost_J33 g_this_now v1 v2 (0 : Int32) g_this g_this_chosenBy g_this_paidBy g_this_toPay g_this_plan)))))
set_option maxHeartbeats 8000000 in
set_option maxRecDepth 100000 in
theorem c_X9_cost (l : Launch) (hlt : l.stackTraces = false) (D : va_G) (dT : Nat → ClassId) (a_this : Nat → Nat) (g_this : TM) (g_this_now : Nat → Int64) (g_this_chosenBy : Nat → Int64) (g_this_paidBy : Nat → Int64) (g_this_toPay : Nat → Int64) (g_this_plan : Nat → Int32) (v1 : Int32) (v2 : Int32) (o : (Int64 × (TM × (Nat → Int64) × (Nat → Int64) × (Nat → Int64) × (Nat → Int32)))) (h : f_X9_cost g_this g_this_now g_this_chosenBy g_this_paidBy g_this_toPay g_this_plan v1 v2 = some o) (sz : Nat) : Met l yX9_cost (WSm yX9_cost cX9_cost 3 (some .long)) { frames := 6, cells := 0, slots := 0, locals := 148 } (va_Pc [.ref (a_this 0), .int v1, .int v2] (cPre D dT (cM a_this g_this ++ (cJ_ dT (a_this 2) 353 g_this_now ++ (cJ_ dT (a_this 7) 128 g_this_chosenBy ++ (cJ_ dT (a_this 8) 128 g_this_paidBy ++ (cJ_ dT (a_this 9) 128 g_this_toPay ++ (cI_ dT (a_this 10) 7 g_this_plan)))))) sz)) (va_Ql (fun (r : Int64) (u : TM × (Nat → Int64) × (Nat → Int64) × (Nat → Int64) × (Nat → Int32)) => r = o.1 ∧ u = o.2) (fun u t => cAt D dT (va_A (cM a_this g_this ++ (cJ_ dT (a_this 2) 353 g_this_now ++ (cJ_ dT (a_this 7) 128 g_this_chosenBy ++ (cJ_ dT (a_this 8) 128 g_this_paidBy ++ (cJ_ dT (a_this 9) 128 g_this_toPay ++ (cI_ dT (a_this 10) 7 g_this_plan)))))) sz) (cM a_this (u.1) ++ (cJ_ dT (a_this 2) 353 g_this_now ++ (cJ_ dT (a_this 7) 128 (u.2.1) ++ (cJ_ dT (a_this 8) 128 (u.2.2.1) ++ (cJ_ dT (a_this 9) 128 (u.2.2.2.1) ++ (cI_ dT (a_this 10) 7 (u.2.2.2.2))))))) t) (va_A (cM a_this g_this ++ (cJ_ dT (a_this 2) 353 g_this_now ++ (cJ_ dT (a_this 7) 128 g_this_chosenBy ++ (cJ_ dT (a_this 8) 128 g_this_paidBy ++ (cJ_ dT (a_this 9) 128 g_this_toPay ++ (cI_ dT (a_this 10) 7 g_this_plan)))))) sz)) 0 0 (va_A (cM a_this g_this ++ (cJ_ dT (a_this 2) 353 g_this_now ++ (cJ_ dT (a_this 7) 128 g_this_chosenBy ++ (cJ_ dT (a_this 8) 128 g_this_paidBy ++ (cJ_ dT (a_this 9) 128 g_this_toPay ++ (cI_ dT (a_this 10) 7 g_this_plan)))))) sz) := by
  refine mStart (WS := (cM a_this g_this ++ (cJ_ dT (a_this 2) 353 g_this_now ++ (cJ_ dT (a_this 7) 128 g_this_chosenBy ++ (cJ_ dT (a_this 8) 128 g_this_paidBy ++ (cJ_ dT (a_this 9) 128 g_this_toPay ++ (cI_ dT (a_this 10) 7 g_this_plan))))))) (Qc := fun A => va_Ql (fun (r : Int64) (u : TM × (Nat → Int64) × (Nat → Int64) × (Nat → Int64) × (Nat → Int32)) => r = o.1 ∧ u = o.2) (fun u t => cAt D dT A (cM a_this (u.1) ++ (cJ_ dT (a_this 2) 353 g_this_now ++ (cJ_ dT (a_this 7) 128 (u.2.1) ++ (cJ_ dT (a_this 8) 128 (u.2.2.1) ++ (cJ_ dT (a_this 9) 128 (u.2.2.2.1) ++ (cI_ dT (a_this 10) 7 (u.2.2.2.2))))))) t) A) RX9 rfl (by decide) (Nat.le_of_ble_eq_true rfl) ?_ sz
  intro p e s m below meth c A ls hx hb hml hr hlk hnm hts hqs hown hE hA hK hP hD hS hl
  have hl : lv_has ls 3 [(0, .ref (a_this 0)), (1, .int v1), (2, .int v2)] := hl
  have L_f_X9_cost_J33 : ∀ (g_this_now : Nat → Int64) (x1 : Int32) (x2 : Int32) (s0 : Int32) (g_this : TM) (g_this_chosenBy : Nat → Int64) (g_this_paidBy : Nat → Int64) (g_this_toPay : Nat → Int64) (g_this_plan : Nat → Int32)   (H : Heap) (locs : List Loc) (ls : Array Slot), f_X9_cost_J33 g_this_now  x1 x2 s0 g_this g_this_chosenBy g_this_paidBy g_this_toPay g_this_plan = some o → va_P D vwCl (cM a_this g_this ++ (cJ_ dT (a_this 2) 353 g_this_now ++ (cJ_ dT (a_this 7) 128 g_this_chosenBy ++ (cJ_ dT (a_this 8) 128 g_this_paidBy ++ (cJ_ dT (a_this 9) 128 g_this_toPay ++ (cI_ dT (a_this 10) 7 g_this_plan)))))) H → va_D A (cM a_this g_this ++ (cJ_ dT (a_this 2) 353 g_this_now ++ (cJ_ dT (a_this 7) 128 g_this_chosenBy ++ (cJ_ dT (a_this 8) 128 g_this_paidBy ++ (cJ_ dT (a_this 9) 128 g_this_toPay ++ (cI_ dT (a_this 10) 7 g_this_plan)))))) → va_S A s.heap H locs → lv_has ls 3 [(0, .ref (a_this 0)), (1, .int x1), (2, .int x2)] → W p l e (headSpec (WSm yX9_cost cX9_cost 3 (some .long)) { frames := 6, cells := 0, slots := 0, locals := 148 }).room s m [.ref (a_this 0), .int v1, .int v2].toArray below meth c H locs 0 0 (MQ below (va_Ql (fun (r : Int64) (u : TM × (Nat → Int64) × (Nat → Int64) × (Nat → Int64) × (Nat → Int32)) => r = o.1 ∧ u = o.2) (fun u t => cAt D dT A (cM a_this (u.1) ++ (cJ_ dT (a_this 2) 353 g_this_now ++ (cJ_ dT (a_this 7) 128 (u.2.1) ++ (cJ_ dT (a_this 8) 128 (u.2.2.1) ++ (cJ_ dT (a_this 9) 128 (u.2.2.2.1) ++ (cI_ dT (a_this 10) 7 (u.2.2.2.2))))))) t) A) [.ref (a_this 0), .int v1, .int v2].toArray s 0 0 A) (F0 m 33 ls [.int s0, .ref (a_this 0)]) := by
    intro g_this_now x1 x2 s0 g_this g_this_chosenBy g_this_paidBy g_this_toPay g_this_plan   H locs ls h hP hD hS hl
    unfold f_X9_cost_J33 at h
    obtain ⟨o5, e5, h⟩ := obind h
    have hPc := hP.sub (ws' := (cM a_this g_this)) [0] rfl
    have hDc := hD.sub (ws' := (cM a_this g_this)) [0] (by decide) rfl
    have hFc := va_free (wc := (cM a_this g_this)) hD hS hA [0] rfl
    refine cl_i (wr := (cJ_ dT (a_this 2) 353 g_this_now ++ (cJ_ dT (a_this 7) 128 g_this_chosenBy ++ (cJ_ dT (a_this 8) 128 g_this_paidBy ++ (cJ_ dT (a_this 9) 128 g_this_toPay ++ (cI_ dT (a_this 10) 7 g_this_plan)))))) (va_runV (As := [.int s0]) (rest := []) ⟨hx, hb, hml, hown, hts⟩ (c_X9_refused l hlt D dT a_this g_this s0 o5 e5 _) (cwV 1 hts (TB_V w_1132 w_1134 w_32 w_59 w_1135) rfl rfl rfl ⟨rfl, nd_X9_refused⟩ ⟨Nat.le_of_ble_eq_true rfl, Nat.le_of_ble_eq_true rfl⟩) (cPre.V hPc hDc hK hE hS hFc (va_recv hK hP (ci := 8) (q0 := 0) rfl rfl)) rfl rfl hl.1 rfl (lv_room (Nat.le_of_ble_eq_true rfl)) dX9_cost_33 ⟨Nat.zero_le _, Nat.zero_le _⟩) hP hD hS hFc [0] [1, 2, 3, 4, 5] rfl rfl (by decide) (by decide) (fun r5 u5 H locs hw hP hD hS => ?_)
    obtain ⟨rfl, rfl⟩ := hw
    have hP : va_P D vwCl (cJ_ dT (a_this 2) 353 g_this_now ++ (cJ_ dT (a_this 7) 128 g_this_chosenBy ++ (cJ_ dT (a_this 8) 128 g_this_paidBy ++ (cJ_ dT (a_this 9) 128 g_this_toPay ++ (cI_ dT (a_this 10) 7 g_this_plan ++ (cM a_this o5.2)))))) H := hP
    have hD : va_D A (cJ_ dT (a_this 2) 353 g_this_now ++ (cJ_ dT (a_this 7) 128 g_this_chosenBy ++ (cJ_ dT (a_this 8) 128 g_this_paidBy ++ (cJ_ dT (a_this 9) 128 g_this_toPay ++ (cI_ dT (a_this 10) 7 g_this_plan ++ (cM a_this o5.2)))))) := hD
    refine lv_if_eq (tgt := 41) hx hb dX9_cost_36 (by decide) (fun c6 => ?_) (fun c6 => ?_)
    · replace h := iteT c6 h
      refine lv_aload_n hx hb dX9_cost_41 rfl (lv_at hl 0 rfl) ?_
      refine lv_aload_n hx hb dX9_cost_42 rfl (lv_at hl 0 rfl) ?_
      refine gf_X9_13 (v := .ref (a_this 2)) hx hb hqs hown hK hP 5 rfl rfl dX9_cost_43 ?_
      refine lv_iload_n hx hb dX9_cost_46 rfl (lv_at hl 1 rfl) ?_
      refine lv_iload_n hx hb dX9_cost_47 rfl (lv_at hl 2 rfl) ?_
      obtain ⟨o7, e7, h⟩ := obind h
      have hPc := hP.sub (ws' := (cM a_this o5.2 ++ (cJ_ dT (a_this 7) 128 g_this_chosenBy ++ (cJ_ dT (a_this 8) 128 g_this_paidBy ++ (cJ_ dT (a_this 9) 128 g_this_toPay ++ (cI_ dT (a_this 10) 7 g_this_plan ++ (cJ_ dT (a_this 2) 353 g_this_now))))))) [5, 1, 2, 3, 4, 0] rfl
      have hDc := hD.sub (ws' := (cM a_this o5.2 ++ (cJ_ dT (a_this 7) 128 g_this_chosenBy ++ (cJ_ dT (a_this 8) 128 g_this_paidBy ++ (cJ_ dT (a_this 9) 128 g_this_toPay ++ (cI_ dT (a_this 10) 7 g_this_plan ++ (cJ_ dT (a_this 2) 353 g_this_now))))))) [5, 1, 2, 3, 4, 0] (by decide) rfl
      have hFc := va_free (wc := (cM a_this o5.2 ++ (cJ_ dT (a_this 7) 128 g_this_chosenBy ++ (cJ_ dT (a_this 8) 128 g_this_paidBy ++ (cJ_ dT (a_this 9) 128 g_this_toPay ++ (cI_ dT (a_this 10) 7 g_this_plan ++ (cJ_ dT (a_this 2) 353 g_this_now))))))) hD hS hA [5, 1, 2, 3, 4, 0] rfl
      refine cl_l (wr := ([] : va_W)) (va_runV (As := [.ref (a_this 2), .int x1, .int x2]) (rest := []) ⟨hx, hb, hml, hown, hts⟩ (c_X9_costOn l hlt D dT a_this (a_this 2) 353 o5.2 g_this_chosenBy g_this_paidBy g_this_toPay g_this_plan g_this_now x1 x2 o7 e7 _) (cwV 3 hts (TB_V w_1273 w_1275 w_41 w_59 w_1276) rfl rfl rfl ⟨rfl, nd_X9_costOn⟩ ⟨Nat.le_of_ble_eq_true rfl, Nat.le_of_ble_eq_true rfl⟩) (cPre.V hPc hDc hK hE hS hFc (va_recv hK hP (ci := 8) (q0 := 5) rfl rfl)) rfl rfl hl.1 rfl (lv_room (Nat.le_of_ble_eq_true rfl)) dX9_cost_48 ⟨Nat.zero_le _, Nat.zero_le _⟩) hP hD hS hFc [5, 1, 2, 3, 4, 0] [] rfl rfl (by decide) (by decide) (fun r7 u7 H locs hw hP hD hS => ?_)
      obtain ⟨rfl, rfl⟩ := hw
      have hP : va_P D vwCl (cM a_this o7.2.1 ++ (cJ_ dT (a_this 7) 128 o7.2.2.1 ++ (cJ_ dT (a_this 8) 128 o7.2.2.2.1 ++ (cJ_ dT (a_this 9) 128 o7.2.2.2.2.1 ++ (cI_ dT (a_this 10) 7 o7.2.2.2.2.2 ++ (cJ_ dT (a_this 2) 353 g_this_now)))))) H := hP
      have hD : va_D A (cM a_this o7.2.1 ++ (cJ_ dT (a_this 7) 128 o7.2.2.1 ++ (cJ_ dT (a_this 8) 128 o7.2.2.2.1 ++ (cJ_ dT (a_this 9) 128 o7.2.2.2.2.1 ++ (cI_ dT (a_this 10) 7 o7.2.2.2.2.2 ++ (cJ_ dT (a_this 2) 353 g_this_now)))))) := hD
      have hP := hP.sub (ws' := (cM a_this o7.2.1 ++ (cJ_ dT (a_this 2) 353 g_this_now ++ (cJ_ dT (a_this 7) 128 o7.2.2.1 ++ (cJ_ dT (a_this 8) 128 o7.2.2.2.1 ++ (cJ_ dT (a_this 9) 128 o7.2.2.2.2.1 ++ (cI_ dT (a_this 10) 7 o7.2.2.2.2.2))))))) [0, 5, 1, 2, 3, 4] rfl
      have hD := hD.sub (ws' := (cM a_this o7.2.1 ++ (cJ_ dT (a_this 2) 353 g_this_now ++ (cJ_ dT (a_this 7) 128 o7.2.2.1 ++ (cJ_ dT (a_this 8) 128 o7.2.2.2.1 ++ (cJ_ dT (a_this 9) 128 o7.2.2.2.2.1 ++ (cI_ dT (a_this 10) 7 o7.2.2.2.2.2))))))) [0, 5, 1, 2, 3, 4] (by decide) rfl
      exact rt_l hx hb hr hlk hK hS ((o7.2.1, o7.2.2.1, o7.2.2.2.1, o7.2.2.2.2.1, o7.2.2.2.2.2) : TM × (Nat → Int64) × (Nat → Int64) × (Nat → Int64) × (Nat → Int32)) (ret2 h) hP hD dX9_cost_51
    · replace h := iteF c6 h
      refine lv_lconst (v := 0) hx hb dX9_cost_39 (by decide) ?_
      have hP := hP.sub (ws' := (cM a_this o5.2 ++ (cJ_ dT (a_this 2) 353 g_this_now ++ (cJ_ dT (a_this 7) 128 g_this_chosenBy ++ (cJ_ dT (a_this 8) 128 g_this_paidBy ++ (cJ_ dT (a_this 9) 128 g_this_toPay ++ (cI_ dT (a_this 10) 7 g_this_plan))))))) [5, 0, 1, 2, 3, 4] rfl
      have hD := hD.sub (ws' := (cM a_this o5.2 ++ (cJ_ dT (a_this 2) 353 g_this_now ++ (cJ_ dT (a_this 7) 128 g_this_chosenBy ++ (cJ_ dT (a_this 8) 128 g_this_paidBy ++ (cJ_ dT (a_this 9) 128 g_this_toPay ++ (cI_ dT (a_this 10) 7 g_this_plan))))))) [5, 0, 1, 2, 3, 4] (by decide) rfl
      exact rt_l hx hb hr hlk hK hS ((o5.2, g_this_chosenBy, g_this_paidBy, g_this_toPay, g_this_plan) : TM × (Nat → Int64) × (Nat → Int64) × (Nat → Int64) × (Nat → Int32)) (ret2 h) hP hD dX9_cost_40
  unfold f_X9_cost at h
  refine lv_aload_n hx hb dX9_cost_0 rfl (lv_at hl 0 rfl) ?_
  refine lv_aload_n hx hb dX9_cost_1 rfl (lv_at hl 0 rfl) ?_
  refine gf_X9_13 (v := .ref (a_this 2)) hx hb hqs hown hK hP 0 rfl rfl dX9_cost_2 ?_
  refine lv_iload_n hx hb dX9_cost_5 rfl (lv_at hl 1 rfl) ?_
  obtain ⟨o1, e1, h⟩ := obind h
  have hPc := hP.sub (ws' := (cJ_ dT (a_this 2) 353 g_this_now)) [1] rfl
  have hDc := hD.sub (ws' := (cJ_ dT (a_this 2) 353 g_this_now)) [1] (by decide) rfl
  have hFc := va_free (wc := (cJ_ dT (a_this 2) 353 g_this_now)) hD hS hA [1] rfl
  refine cl_i (wr := (cM a_this g_this ++ (cJ_ dT (a_this 7) 128 g_this_chosenBy ++ (cJ_ dT (a_this 8) 128 g_this_paidBy ++ (cJ_ dT (a_this 9) 128 g_this_toPay ++ (cI_ dT (a_this 10) 7 g_this_plan)))))) (va_runS (As := [.ref (a_this 2), .int v1]) (rest := [.ref (a_this 0)]) ⟨hx, hb, hml, hown, hts⟩ (c_X9_isSet l hlt D dT (a_this 2) 353 g_this_now v1 o1 e1 _) (va_cwS 2 hts (TB_S w_1266 w_1267 w_59 w_1268) rfl rfl rfl nd_X9_isSet ⟨Nat.le_of_ble_eq_true rfl, Nat.le_of_ble_eq_true rfl⟩) (cPre.S hPc hDc hK hE hS hFc) rfl rfl hl.1 rfl (lv_room (Nat.le_of_ble_eq_true rfl)) dX9_cost_6 ⟨Nat.zero_le _, Nat.zero_le _⟩) hP hD hS hFc [1] [0, 2, 3, 4, 5] rfl rfl (by decide) (by decide) (fun r1 u1 H locs hw hP hD hS => ?_)
  obtain ⟨rfl, rfl⟩ := hw
  have hP : va_P D vwCl (cM a_this g_this ++ (cJ_ dT (a_this 7) 128 g_this_chosenBy ++ (cJ_ dT (a_this 8) 128 g_this_paidBy ++ (cJ_ dT (a_this 9) 128 g_this_toPay ++ (cI_ dT (a_this 10) 7 g_this_plan ++ (cJ_ dT (a_this 2) 353 g_this_now)))))) H := hP
  have hD : va_D A (cM a_this g_this ++ (cJ_ dT (a_this 7) 128 g_this_chosenBy ++ (cJ_ dT (a_this 8) 128 g_this_paidBy ++ (cJ_ dT (a_this 9) 128 g_this_toPay ++ (cI_ dT (a_this 10) 7 g_this_plan ++ (cJ_ dT (a_this 2) 353 g_this_now)))))) := hD
  refine lv_if_ne (tgt := 16) hx hb dX9_cost_9 (by decide) (fun c2 => ?_) (fun c2 => ?_)
  · replace h := iteF c2 h
    refine lv_iload_n hx hb dX9_cost_16 rfl (lv_at hl 2 rfl) ?_
    refine lv_i2l hx hb dX9_cost_17 rfl ?_
    refine lv_lconst (v := 0) hx hb dX9_cost_18 (by decide) ?_
    refine lv_ldc2 (v := 2) hx hb hown (hqs _ w_1227) dX9_cost_19 ?_
    obtain ⟨o3, e3, h⟩ := obind h
    have hPc := hP.sub (ws' := ([] : va_W)) [] rfl
    have hDc := hD.sub (ws' := ([] : va_W)) [] (by decide) rfl
    have hFc := va_free (wc := ([] : va_W)) hD hS hA [] rfl
    refine cl_i (wr := (cM a_this g_this ++ (cJ_ dT (a_this 7) 128 g_this_chosenBy ++ (cJ_ dT (a_this 8) 128 g_this_paidBy ++ (cJ_ dT (a_this 9) 128 g_this_toPay ++ (cI_ dT (a_this 10) 7 g_this_plan ++ (cJ_ dT (a_this 2) 353 g_this_now))))))) (va_runS (As := [.long (Int32.toInt64 v2), .long (0 : Int64), .long (2 : Int64)]) (rest := [.ref (a_this 0)]) ⟨hx, hb, hml, hown, hts⟩ (c_X9_in l hlt D dT (Int32.toInt64 v2) (0 : Int64) (2 : Int64) o3 e3 _) (va_cwS 3 hts (TB_S w_1129 w_1130 w_59 w_1131) rfl rfl rfl nd_X9_in ⟨Nat.le_of_ble_eq_true rfl, Nat.le_of_ble_eq_true rfl⟩) (cPre.S hPc hDc hK hE hS hFc) rfl rfl hl.1 rfl (lv_room (Nat.le_of_ble_eq_true rfl)) dX9_cost_22 ⟨Nat.zero_le _, Nat.zero_le _⟩) hP hD hS hFc [] [0, 1, 2, 3, 4, 5] rfl rfl (by decide) (by decide) (fun r3 u3 H locs hw hP hD hS => ?_)
    obtain ⟨rfl, rfl⟩ := hw
    have hP : va_P D vwCl (cM a_this g_this ++ (cJ_ dT (a_this 7) 128 g_this_chosenBy ++ (cJ_ dT (a_this 8) 128 g_this_paidBy ++ (cJ_ dT (a_this 9) 128 g_this_toPay ++ (cI_ dT (a_this 10) 7 g_this_plan ++ (cJ_ dT (a_this 2) 353 g_this_now)))))) H := hP
    have hD : va_D A (cM a_this g_this ++ (cJ_ dT (a_this 7) 128 g_this_chosenBy ++ (cJ_ dT (a_this 8) 128 g_this_paidBy ++ (cJ_ dT (a_this 9) 128 g_this_toPay ++ (cI_ dT (a_this 10) 7 g_this_plan ++ (cJ_ dT (a_this 2) 353 g_this_now)))))) := hD
    refine lv_if_eq (tgt := 32) hx hb dX9_cost_25 (by decide) (fun c4 => ?_) (fun c4 => ?_)
    · replace h := iteT c4 h
      refine lv_iconst (v := 2) hx hb dX9_cost_32 (by decide) ?_
      have hP := hP.sub (ws' := (cM a_this g_this ++ (cJ_ dT (a_this 2) 353 g_this_now ++ (cJ_ dT (a_this 7) 128 g_this_chosenBy ++ (cJ_ dT (a_this 8) 128 g_this_paidBy ++ (cJ_ dT (a_this 9) 128 g_this_toPay ++ (cI_ dT (a_this 10) 7 g_this_plan))))))) [0, 5, 1, 2, 3, 4] rfl
      have hD := hD.sub (ws' := (cM a_this g_this ++ (cJ_ dT (a_this 2) 353 g_this_now ++ (cJ_ dT (a_this 7) 128 g_this_chosenBy ++ (cJ_ dT (a_this 8) 128 g_this_paidBy ++ (cJ_ dT (a_this 9) 128 g_this_toPay ++ (cI_ dT (a_this 10) 7 g_this_plan))))))) [0, 5, 1, 2, 3, 4] (by decide) rfl
      refine L_f_X9_cost_J33 g_this_now v1 v2 (2 : Int32) g_this g_this_chosenBy g_this_paidBy g_this_toPay g_this_plan   _ _ _ h hP hD hS (lv_sub hl [0, 1, 2] rfl)
    · replace h := iteF c4 h
      refine lv_iconst (v := 0) hx hb dX9_cost_28 (by decide) ?_
      refine lv_goto (tgt := 33) hx hb dX9_cost_29 (by decide) ?_
      have hP := hP.sub (ws' := (cM a_this g_this ++ (cJ_ dT (a_this 2) 353 g_this_now ++ (cJ_ dT (a_this 7) 128 g_this_chosenBy ++ (cJ_ dT (a_this 8) 128 g_this_paidBy ++ (cJ_ dT (a_this 9) 128 g_this_toPay ++ (cI_ dT (a_this 10) 7 g_this_plan))))))) [0, 5, 1, 2, 3, 4] rfl
      have hD := hD.sub (ws' := (cM a_this g_this ++ (cJ_ dT (a_this 2) 353 g_this_now ++ (cJ_ dT (a_this 7) 128 g_this_chosenBy ++ (cJ_ dT (a_this 8) 128 g_this_paidBy ++ (cJ_ dT (a_this 9) 128 g_this_toPay ++ (cI_ dT (a_this 10) 7 g_this_plan))))))) [0, 5, 1, 2, 3, 4] (by decide) rfl
      refine L_f_X9_cost_J33 g_this_now v1 v2 (0 : Int32) g_this g_this_chosenBy g_this_paidBy g_this_toPay g_this_plan   _ _ _ h hP hD hS (lv_sub hl [0, 1, 2] rfl)
  · replace h := iteT c2 h
    refine lv_iconst (v := 1) hx hb dX9_cost_12 (by decide) ?_
    refine lv_goto (tgt := 33) hx hb dX9_cost_13 (by decide) ?_
    have hP := hP.sub (ws' := (cM a_this g_this ++ (cJ_ dT (a_this 2) 353 g_this_now ++ (cJ_ dT (a_this 7) 128 g_this_chosenBy ++ (cJ_ dT (a_this 8) 128 g_this_paidBy ++ (cJ_ dT (a_this 9) 128 g_this_toPay ++ (cI_ dT (a_this 10) 7 g_this_plan))))))) [0, 5, 1, 2, 3, 4] rfl
    have hD := hD.sub (ws' := (cM a_this g_this ++ (cJ_ dT (a_this 2) 353 g_this_now ++ (cJ_ dT (a_this 7) 128 g_this_chosenBy ++ (cJ_ dT (a_this 8) 128 g_this_paidBy ++ (cJ_ dT (a_this 9) 128 g_this_toPay ++ (cI_ dT (a_this 10) 7 g_this_plan))))))) [0, 5, 1, 2, 3, 4] (by decide) rfl
    refine L_f_X9_cost_J33 g_this_now v1 v2 (1 : Int32) g_this g_this_chosenBy g_this_paidBy g_this_toPay g_this_plan   _ _ _ h hP hD hS (lv_sub hl [0, 1, 2] rfl)

