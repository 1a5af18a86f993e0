def f_X3_rowsOf (g_this : TP) (v1 : Int32) : Option (Int64 × (Unit)) :=
  (if v1 < (0 : Int32) then (some ((1 : Int64), ())) else (if (128 : Int32) ≤ v1 then (some ((1 : Int64), ())) else (if inb v1 128 = true then (some (((P_rowsOf g_this) v1.toNatClampNeg), ())) else none)))
set_option maxHeartbeats 8000000 in
set_option maxRecDepth 100000 in
theorem c_X3_rowsOf (l : Launch) (hlt : l.stackTraces = false) (D : va_G) (dT : Nat → ClassId) (a_this : Nat → Nat) (g_this : TP) (v1 : Int32) (o : (Int64 × (Unit))) (h : f_X3_rowsOf g_this v1 = some o) (sz : Nat) : Met l yX3_rowsOf (WSm yX3_rowsOf cX3_rowsOf 2 (some .long)) { frames := 0, cells := 0, slots := 0, locals := 0 } (va_Pc [.ref (a_this 0), .int v1] (cPre D dT (cP dT a_this g_this) sz)) (va_Ql (fun (r : Int64) (u : Unit) => r = o.1 ∧ u = o.2) (fun u t => cAt D dT (va_A (cP dT a_this g_this) sz) (cP dT a_this g_this) t) (va_A (cP dT a_this g_this) sz)) 0 0 (va_A (cP dT a_this g_this) sz) := by
  refine mStart (WS := (cP dT a_this g_this)) (Qc := fun A => va_Ql (fun (r : Int64) (u : Unit) => r = o.1 ∧ u = o.2) (fun u t => cAt D dT A (cP dT a_this g_this) t) A) RX3 rfl (by decide) (Nat.le_of_ble_eq_true rfl) ?_ sz
  intro p e s m below meth c A ls hx hb hml hr hlk hnm hts hqs hown hE hA hK hP hD hS hl
  have hl : lv_has ls 2 [(0, .ref (a_this 0)), (1, .int v1)] := hl
  unfold f_X3_rowsOf at h
  refine lv_iload_n hx hb dX3_rowsOf_0 rfl (lv_at hl 1 rfl) ?_
  refine lv_if_lt (tgt := 20) hx hb dX3_rowsOf_1 (by decide) (fun c1 => ?_) (fun c1 => ?_)
  · replace h := iteT c1 h
    refine lv_lconst (v := 1) hx hb dX3_rowsOf_20 (by decide) ?_
    exact rt_l hx hb hr hlk hK hS (() : Unit) (ret2 h) hP hD dX3_rowsOf_21
  · replace h := iteF c1 h
    refine lv_iload_n hx hb dX3_rowsOf_4 rfl (lv_at hl 1 rfl) ?_
    refine lv_sipush (v := 128) hx hb dX3_rowsOf_5 (by decide) ?_
    refine lv_icmp_ge (tgt := 20) hx hb dX3_rowsOf_8 (by decide) (fun c2 => ?_) (fun c2 => ?_)
    · replace h := iteT c2 h
      refine lv_lconst (v := 1) hx hb dX3_rowsOf_20 (by decide) ?_
      exact rt_l hx hb hr hlk hK hS (() : Unit) (ret2 h) hP hD dX3_rowsOf_21
    · replace h := iteF c2 h
      refine lv_aload_n hx hb dX3_rowsOf_11 rfl (lv_at hl 0 rfl) ?_
      refine gf_X3_18 (v := .ref (a_this 3)) hx hb hqs hown hK hP 0 rfl rfl dX3_rowsOf_12 ?_
      refine lv_iload_n hx hb dX3_rowsOf_15 rfl (lv_at hl 1 rfl) ?_
      obtain ⟨g3, h⟩ := chk h
      refine va_lald hx hb hK hP 3 1 rfl rfl (inb_in g3) dX3_rowsOf_16 ?_
      refine lv_goto (tgt := 21) hx hb dX3_rowsOf_17 (by decide) ?_
      exact rt_l hx hb hr hlk hK hS (() : Unit) (ret2 h) hP hD dX3_rowsOf_21

def f_X3_sizeOf (g_this : TP) (v1 : Int32) : Option (Int32 × (Unit)) :=
  (if v1 < (0 : Int32) then (some ((0 : Int32), ())) else (if (7 : Int32) ≤ v1 then (some ((0 : Int32), ())) else (if inb v1 7 = true then (some (((P_sizes g_this) v1.toNatClampNeg), ())) else none)))
set_option maxHeartbeats 8000000 in
set_option maxRecDepth 100000 in
theorem c_X3_sizeOf (l : Launch) (hlt : l.stackTraces = false) (D : va_G) (dT : Nat → ClassId) (a_this : Nat → Nat) (g_this : TP) (v1 : Int32) (o : (Int32 × (Unit))) (h : f_X3_sizeOf g_this v1 = some o) (sz : Nat) : Met l yX3_sizeOf (WSm yX3_sizeOf cX3_sizeOf 2 (some .int)) { frames := 0, cells := 0, slots := 0, locals := 0 } (va_Pc [.ref (a_this 0), .int v1] (cPre D dT (cP dT a_this g_this) sz)) (va_Qi (fun (r : Int32) (u : Unit) => r = o.1 ∧ u = o.2) (fun u t => cAt D dT (va_A (cP dT a_this g_this) sz) (cP dT a_this g_this) t) (va_A (cP dT a_this g_this) sz)) 0 0 (va_A (cP dT a_this g_this) sz) := by
  refine mStart (WS := (cP dT a_this g_this)) (Qc := fun A => va_Qi (fun (r : Int32) (u : Unit) => r = o.1 ∧ u = o.2) (fun u t => cAt D dT A (cP dT a_this g_this) t) A) RX3 rfl (by decide) (Nat.le_of_ble_eq_true rfl) ?_ sz
  intro p e s m below meth c A ls hx hb hml hr hlk hnm hts hqs hown hE hA hK hP hD hS hl
  have hl : lv_has ls 2 [(0, .ref (a_this 0)), (1, .int v1)] := hl
  unfold f_X3_sizeOf at h
  refine lv_iload_n hx hb dX3_sizeOf_0 rfl (lv_at hl 1 rfl) ?_
  refine lv_if_lt (tgt := 19) hx hb dX3_sizeOf_1 (by decide) (fun c1 => ?_) (fun c1 => ?_)
  · replace h := iteT c1 h
    refine lv_iconst (v := 0) hx hb dX3_sizeOf_19 (by decide) ?_
    exact rt_i hx hb hr hlk hK hS (() : Unit) (ret2 h) hP hD dX3_sizeOf_20
  · replace h := iteF c1 h
    refine lv_iload_n hx hb dX3_sizeOf_4 rfl (lv_at hl 1 rfl) ?_
    refine lv_bipush (v := 7) hx hb dX3_sizeOf_5 (by decide) ?_
    refine lv_icmp_ge (tgt := 19) hx hb dX3_sizeOf_7 (by decide) (fun c2 => ?_) (fun c2 => ?_)
    · replace h := iteT c2 h
      refine lv_iconst (v := 0) hx hb dX3_sizeOf_19 (by decide) ?_
      exact rt_i hx hb hr hlk hK hS (() : Unit) (ret2 h) hP hD dX3_sizeOf_20
    · replace h := iteF c2 h
      refine lv_aload_n hx hb dX3_sizeOf_10 rfl (lv_at hl 0 rfl) ?_
      refine gf_X3_9 (v := .ref (a_this 1)) hx hb hqs hown hK hP 0 rfl rfl dX3_sizeOf_11 ?_
      refine lv_iload_n hx hb dX3_sizeOf_14 rfl (lv_at hl 1 rfl) ?_
      obtain ⟨g3, h⟩ := chk h
      refine va_iald hx hb hK hP 1 0 rfl rfl (inb_in g3) dX3_sizeOf_15 ?_
      refine lv_goto (tgt := 20) hx hb dX3_sizeOf_16 (by decide) ?_
      exact rt_i hx hb hr hlk hK hS (() : Unit) (ret2 h) hP hD dX3_sizeOf_20

def f_X3_rowsJoined_J66 (g_this : TP) (k37 : Int64 → Int32 → Int32 → Option (Int64 × (Unit))) (x1 : Int32) (x2 : Int32) (x3 : Int64) (x5 : Int32) (x6 : Int32) (s0 : Int32) : Option (Int64 × (Unit)) :=
    (if ((x1 >>> (x6 &&& 31)) &&& (1 : Int32)) = (1 : Int32) then (if s0 ≤ (0 : Int32) then (k37 x3 (x5 + (1 : Int32)) (x6 + (1 : Int32))) else (if (0 : Int32) ≤ (lg_cmp ((x3 * (Int32.toInt64 s0)) / (1000 : Int64)) (1 : Int64)) then (k37 ((x3 * (Int32.toInt64 s0)) / (1000 : Int64)) (x5 + (1 : Int32)) (x6 + (1 : Int32))) else (k37 (1 : Int64) (x5 + (1 : Int32)) (x6 + (1 : Int32))))) else (k37 x3 (x5 + (1 : Int32)) (x6 + (1 : Int32))))
def f_X3_rowsJoined_J65 (g_this : TP) (k37 : Int64 → Int32 → Int32 → Option (Int64 × (Unit))) (x1 : Int32) (x2 : Int32) (x3 : Int64) (x5 : Int32) (x6 : Int32) : Option (Int64 × (Unit)) :=
    (f_X3_rowsJoined_J66 g_this k37 x1 x2 x3 x5 x6 (0 : Int32))
def f_X3_rowsJoined_L37 (g_this : TP) (x1 : Int32) (x2 : Int32)  : Nat → Int64 → Int32 → Int32 → Option (Int64 × (Unit))
  | 0, _, _, _ => none
  | n + 1, x3, x5, x6 =>
    (if x2 ≤ x6 then (some (x3, ())) else (if x5 < (0 : Int32) then (f_X3_rowsJoined_J65 g_this (fun x3 x5 x6 => f_X3_rowsJoined_L37 g_this x1 x2 n x3 x5 x6) x1 x2 x3 x5 x6) else (if (21 : Int32) ≤ x5 then (f_X3_rowsJoined_J65 g_this (fun x3 x5 x6 => f_X3_rowsJoined_L37 g_this x1 x2 n x3 x5 x6) x1 x2 x3 x5 x6) else (if inb x5 21 = true then (f_X3_rowsJoined_J66 g_this (fun x3 x5 x6 => f_X3_rowsJoined_L37 g_this x1 x2 n x3 x5 x6) x1 x2 x3 x5 x6 ((P_shares g_this) x5.toNatClampNeg)) else none))))
def f_X3_rowsJoined_J25 (g_this : TP)  (x1 : Int32) (x2 : Int32) (x3 : Int64) : Option (Int64 × (Unit)) :=
    (f_X3_rowsJoined_L37 g_this x1 x2 FUEL x3 ((x2 * (x2 - (1 : Int32))) / (2 : Int32)) (0 : Int32))
def f_X3_rowsJoined (g_this : TP) (v1 : Int32) (v2 : Int32) : Option (Int64 × (Unit)) :=
  ((f_X3_rowsOf g_this v1).bind fun o1 => ((f_X3_sizeOf g_this v2).bind fun o2 => (if (lg_cmp (o1.1 * (Int32.toInt64 o2.1)) (1000000000000 : Int64)) ≤ (0 : Int32) then (f_X3_rowsJoined_J25 g_this v1 v2 (o1.1 * (Int32.toInt64 o2.1))) else (f_X3_rowsJoined_J25 g_this v1 v2 (1000000000000 : Int64)))))
set_option maxHeartbeats 8000000 in
set_option maxRecDepth 100000 in
theorem c_X3_rowsJoined (l : Launch) (hlt : l.stackTraces = false) (D : va_G) (dT : Nat → ClassId) (a_this : Nat → Nat) (g_this : TP) (v1 : Int32) (v2 : Int32) (o : (Int64 × (Unit))) (h : f_X3_rowsJoined g_this v1 v2 = some o) (sz : Nat) : Met l yX3_rowsJoined (WSm yX3_rowsJoined cX3_rowsJoined 8 (some .long)) { frames := 1, cells := 0, slots := 0, locals := 21 } (va_Pc [.ref (a_this 0), .int v1, .int v2] (cPre D dT (cP dT a_this g_this) sz)) (va_Ql (fun (r : Int64) (u : Unit) => r = o.1 ∧ u = o.2) (fun u t => cAt D dT (va_A (cP dT a_this g_this) sz) (cP dT a_this g_this) t) (va_A (cP dT a_this g_this) sz)) 0 0 (va_A (cP dT a_this g_this) sz) := by
  refine mStart (WS := (cP dT a_this g_this)) (Qc := fun A => va_Ql (fun (r : Int64) (u : Unit) => r = o.1 ∧ u = o.2) (fun u t => cAt D dT A (cP dT a_this g_this) t) A) RX3 rfl (by decide) (Nat.le_of_ble_eq_true rfl) ?_ sz
  intro p e s m below meth c A ls hx hb hml hr hlk hnm hts hqs hown hE hA hK hP hD hS hl
  have hl : lv_has ls 8 [(0, .ref (a_this 0)), (1, .int v1), (2, .int v2)] := hl
  have L_f_X3_rowsJoined_J66 : ∀ (g_this : TP) (x1 : Int32) (x2 : Int32) (x3 : Int64) (x5 : Int32) (x6 : Int32) (s0 : Int32) (k37 : Int64 → Int32 → Int32 → Option (Int64 × (Unit))) (hk37 : ∀ (x3 : Int64) (x5 : Int32) (x6 : Int32) (H : Heap) (locs : List Loc) (ls : Array Slot), k37 x3 x5 x6 = some o → va_P D vwCl (cP dT a_this g_this) H → va_D A (cP dT a_this g_this) → va_S A s.heap H locs → lv_has ls 8 [(0, .ref (a_this 0)), (1, .int x1), (2, .int x2), (3, .long x3), (5, .int x5), (6, .int x6)] → W p l e (headSpec (WSm yX3_rowsJoined cX3_rowsJoined 8 (some .long)) { frames := 1, cells := 0, slots := 0, locals := 21 }).room s m [.ref (a_this 0), .int v1, .int v2].toArray below meth c H locs 0 0 (MQ below (va_Ql (fun (r : Int64) (u : Unit) => r = o.1 ∧ u = o.2) (fun u t => cAt D dT A (cP dT a_this g_this) t) A) [.ref (a_this 0), .int v1, .int v2].toArray s 0 0 A) (F0 m 37 ls [])) (H : Heap) (locs : List Loc) (ls : Array Slot), f_X3_rowsJoined_J66 g_this k37 x1 x2 x3 x5 x6 s0 = some o → va_P D vwCl (cP dT a_this g_this) H → va_D A (cP dT a_this g_this) → va_S A s.heap H locs → lv_has ls 8 [(0, .ref (a_this 0)), (1, .int x1), (2, .int x2), (3, .long x3), (5, .int x5), (6, .int x6)] → W p l e (headSpec (WSm yX3_rowsJoined cX3_rowsJoined 8 (some .long)) { frames := 1, cells := 0, slots := 0, locals := 21 }).room s m [.ref (a_this 0), .int v1, .int v2].toArray below meth c H locs 0 0 (MQ below (va_Ql (fun (r : Int64) (u : Unit) => r = o.1 ∧ u = o.2) (fun u t => cAt D dT A (cP dT a_this g_this) t) A) [.ref (a_this 0), .int v1, .int v2].toArray s 0 0 A) (F0 m 66 ls [.int s0]) := by
    intro g_this x1 x2 x3 x5 x6 s0 k37 hk37 H locs ls h hP hD hS hl
    unfold f_X3_rowsJoined_J66 at h
    refine lv_istore (lv' := [(7, .int s0), (0, .ref (a_this 0)), (1, .int x1), (2, .int x2), (3, .long x3), (5, .int x5), (6, .int x6)]) hx hb dX3_rowsJoined_66 hl (by decide) rfl (fun ls hl => ?_)
    refine lv_iload_n hx hb dX3_rowsJoined_68 rfl (lv_at hl 2 rfl) ?_
    refine lv_iload hx hb dX3_rowsJoined_69 (lv_at hl 6 rfl) ?_
    refine lv_ishr hx hb dX3_rowsJoined_71 ?_
    refine lv_iconst (v := 1) hx hb dX3_rowsJoined_72 (by decide) ?_
    refine lv_iand hx hb dX3_rowsJoined_73 ?_
    refine lv_iconst (v := 1) hx hb dX3_rowsJoined_74 (by decide) ?_
    refine lv_icmp_ne (tgt := 101) hx hb dX3_rowsJoined_75 (by decide) (fun c6 => ?_) (fun c6 => ?_)
    · replace h := iteF c6 h
      refine lv_iinc (v := (x5 + (1 : Int32))) (lv' := [(5, .int (x5 + (1 : Int32))), (7, .int s0), (0, .ref (a_this 0)), (1, .int x1), (2, .int x2), (3, .long x3), (6, .int x6)]) hx hb dX3_rowsJoined_101 hl (k := 5) rfl rfl (by decide) rfl (fun ls hl => ?_)
      refine lv_iinc (v := (x6 + (1 : Int32))) (lv' := [(6, .int (x6 + (1 : Int32))), (5, .int (x5 + (1 : Int32))), (7, .int s0), (0, .ref (a_this 0)), (1, .int x1), (2, .int x2), (3, .long x3)]) hx hb dX3_rowsJoined_104 hl (k := 6) rfl rfl (by decide) rfl (fun ls hl => ?_)
      refine lv_goto (tgt := 37) hx hb dX3_rowsJoined_107 (by decide) ?_
      exact hk37 x3 (x5 + (1 : Int32)) (x6 + (1 : Int32)) _ _ _ h hP hD hS (lv_sub hl [3, 4, 5, 6, 1, 0] rfl)
    · replace h := iteT c6 h
      refine lv_iload hx hb dX3_rowsJoined_78 (lv_at hl 0 rfl) ?_
      refine lv_if_le (tgt := 101) hx hb dX3_rowsJoined_80 (by decide) (fun c7 => ?_) (fun c7 => ?_)
      · replace h := iteT c7 h
        refine lv_iinc (v := (x5 + (1 : Int32))) (lv' := [(5, .int (x5 + (1 : Int32))), (7, .int s0), (0, .ref (a_this 0)), (1, .int x1), (2, .int x2), (3, .long x3), (6, .int x6)]) hx hb dX3_rowsJoined_101 hl (k := 5) rfl rfl (by decide) rfl (fun ls hl => ?_)
        refine lv_iinc (v := (x6 + (1 : Int32))) (lv' := [(6, .int (x6 + (1 : Int32))), (5, .int (x5 + (1 : Int32))), (7, .int s0), (0, .ref (a_this 0)), (1, .int x1), (2, .int x2), (3, .long x3)]) hx hb dX3_rowsJoined_104 hl (k := 6) rfl rfl (by decide) rfl (fun ls hl => ?_)
        refine lv_goto (tgt := 37) hx hb dX3_rowsJoined_107 (by decide) ?_
        exact hk37 x3 (x5 + (1 : Int32)) (x6 + (1 : Int32)) _ _ _ h hP hD hS (lv_sub hl [3, 4, 5, 6, 1, 0] rfl)
      · replace h := iteF c7 h
        refine lv_lload_n hx hb dX3_rowsJoined_83 rfl (lv_at hl 4 rfl) ?_
        refine lv_iload hx hb dX3_rowsJoined_84 (lv_at hl 0 rfl) ?_
        refine lv_i2l hx hb dX3_rowsJoined_86 rfl ?_
        refine lv_lmul hx hb dX3_rowsJoined_87 ?_
        refine lv_ldc2 (v := 1000) hx hb hown (hqs _ w_785) dX3_rowsJoined_88 ?_
        refine lv_ldiv hx hb dX3_rowsJoined_91 (by decide) ?_
        refine lv_lstore_n (lv' := [(3, .long ((x3 * (Int32.toInt64 s0)) / (1000 : Int64))), (7, .int s0), (0, .ref (a_this 0)), (1, .int x1), (2, .int x2), (5, .int x5), (6, .int x6)]) hx hb dX3_rowsJoined_92 rfl hl (by decide) rfl (fun ls hl => ?_)
        refine lv_lload_n hx hb dX3_rowsJoined_93 rfl (lv_at hl 0 rfl) ?_
        refine lv_lconst (v := 1) hx hb dX3_rowsJoined_94 (by decide) ?_
        refine W.lcmp hx hb dX3_rowsJoined_95 ?_
        refine lv_if_ge (tgt := 101) hx hb dX3_rowsJoined_96 (by decide) (fun c8 => ?_) (fun c8 => ?_)
        · replace h := iteT c8 h
          refine lv_iinc (v := (x5 + (1 : Int32))) (lv' := [(5, .int (x5 + (1 : Int32))), (3, .long ((x3 * (Int32.toInt64 s0)) / (1000 : Int64))), (7, .int s0), (0, .ref (a_this 0)), (1, .int x1), (2, .int x2), (6, .int x6)]) hx hb dX3_rowsJoined_101 hl (k := 5) rfl rfl (by decide) rfl (fun ls hl => ?_)
          refine lv_iinc (v := (x6 + (1 : Int32))) (lv' := [(6, .int (x6 + (1 : Int32))), (5, .int (x5 + (1 : Int32))), (3, .long ((x3 * (Int32.toInt64 s0)) / (1000 : Int64))), (7, .int s0), (0, .ref (a_this 0)), (1, .int x1), (2, .int x2)]) hx hb dX3_rowsJoined_104 hl (k := 6) rfl rfl (by decide) rfl (fun ls hl => ?_)
          refine lv_goto (tgt := 37) hx hb dX3_rowsJoined_107 (by decide) ?_
          exact hk37 ((x3 * (Int32.toInt64 s0)) / (1000 : Int64)) (x5 + (1 : Int32)) (x6 + (1 : Int32)) _ _ _ h hP hD hS (lv_sub hl [4, 5, 6, 2, 1, 0] rfl)
        · replace h := iteF c8 h
          refine lv_lconst (v := 1) hx hb dX3_rowsJoined_99 (by decide) ?_
          refine lv_lstore_n (lv' := [(3, .long (1 : Int64)), (7, .int s0), (0, .ref (a_this 0)), (1, .int x1), (2, .int x2), (5, .int x5), (6, .int x6)]) hx hb dX3_rowsJoined_100 rfl hl (by decide) rfl (fun ls hl => ?_)
          refine lv_iinc (v := (x5 + (1 : Int32))) (lv' := [(5, .int (x5 + (1 : Int32))), (3, .long (1 : Int64)), (7, .int s0), (0, .ref (a_this 0)), (1, .int x1), (2, .int x2), (6, .int x6)]) hx hb dX3_rowsJoined_101 hl (k := 5) rfl rfl (by decide) rfl (fun ls hl => ?_)
          refine lv_iinc (v := (x6 + (1 : Int32))) (lv' := [(6, .int (x6 + (1 : Int32))), (5, .int (x5 + (1 : Int32))), (3, .long (1 : Int64)), (7, .int s0), (0, .ref (a_this 0)), (1, .int x1), (2, .int x2)]) hx hb dX3_rowsJoined_104 hl (k := 6) rfl rfl (by decide) rfl (fun ls hl => ?_)
          refine lv_goto (tgt := 37) hx hb dX3_rowsJoined_107 (by decide) ?_
          exact hk37 (1 : Int64) (x5 + (1 : Int32)) (x6 + (1 : Int32)) _ _ _ h hP hD hS (lv_sub hl [4, 5, 6, 2, 1, 0] rfl)
  have L_f_X3_rowsJoined_J65 : ∀ (g_this : TP) (x1 : Int32) (x2 : Int32) (x3 : Int64) (x5 : Int32) (x6 : Int32) (k37 : Int64 → Int32 → Int32 → Option (Int64 × (Unit))) (hk37 : ∀ (x3 : Int64) (x5 : Int32) (x6 : Int32) (H : Heap) (locs : List Loc) (ls : Array Slot), k37 x3 x5 x6 = some o → va_P D vwCl (cP dT a_this g_this) H → va_D A (cP dT a_this g_this) → va_S A s.heap H locs → lv_has ls 8 [(0, .ref (a_this 0)), (1, .int x1), (2, .int x2), (3, .long x3), (5, .int x5), (6, .int x6)] → W p l e (headSpec (WSm yX3_rowsJoined cX3_rowsJoined 8 (some .long)) { frames := 1, cells := 0, slots := 0, locals := 21 }).room s m [.ref (a_this 0), .int v1, .int v2].toArray below meth c H locs 0 0 (MQ below (va_Ql (fun (r : Int64) (u : Unit) => r = o.1 ∧ u = o.2) (fun u t => cAt D dT A (cP dT a_this g_this) t) A) [.ref (a_this 0), .int v1, .int v2].toArray s 0 0 A) (F0 m 37 ls [])) (H : Heap) (locs : List Loc) (ls : Array Slot), f_X3_rowsJoined_J65 g_this k37 x1 x2 x3 x5 x6 = some o → va_P D vwCl (cP dT a_this g_this) H → va_D A (cP dT a_this g_this) → va_S A s.heap H locs → lv_has ls 8 [(0, .ref (a_this 0)), (1, .int x1), (2, .int x2), (3, .long x3), (5, .int x5), (6, .int x6)] → W p l e (headSpec (WSm yX3_rowsJoined cX3_rowsJoined 8 (some .long)) { frames := 1, cells := 0, slots := 0, locals := 21 }).room s m [.ref (a_this 0), .int v1, .int v2].toArray below meth c H locs 0 0 (MQ below (va_Ql (fun (r : Int64) (u : Unit) => r = o.1 ∧ u = o.2) (fun u t => cAt D dT A (cP dT a_this g_this) t) A) [.ref (a_this 0), .int v1, .int v2].toArray s 0 0 A) (F0 m 65 ls []) := by
    intro g_this x1 x2 x3 x5 x6 k37 hk37 H locs ls h hP hD hS hl
    unfold f_X3_rowsJoined_J65 at h
    refine lv_iconst (v := 0) hx hb dX3_rowsJoined_65 (by decide) ?_
    refine L_f_X3_rowsJoined_J66 g_this x1 x2 x3 x5 x6 (0 : Int32) _ hk37 _ _ _ h hP hD hS (lv_sub hl [0, 1, 2, 3, 4, 5] rfl)
  have L_f_X3_rowsJoined_L37 : ∀ (g_this : TP) (x1 : Int32) (x2 : Int32)   (n : Nat), ∀ (x3 : Int64) (x5 : Int32) (x6 : Int32) (H : Heap) (locs : List Loc) (ls : Array Slot), f_X3_rowsJoined_L37 g_this x1 x2  n x3 x5 x6 = some o → va_P D vwCl (cP dT a_this g_this) H → va_D A (cP dT a_this g_this) → va_S A s.heap H locs → lv_has ls 8 [(0, .ref (a_this 0)), (1, .int x1), (2, .int x2), (3, .long x3), (5, .int x5), (6, .int x6)] → W p l e (headSpec (WSm yX3_rowsJoined cX3_rowsJoined 8 (some .long)) { frames := 1, cells := 0, slots := 0, locals := 21 }).room s m [.ref (a_this 0), .int v1, .int v2].toArray below meth c H locs 0 0 (MQ below (va_Ql (fun (r : Int64) (u : Unit) => r = o.1 ∧ u = o.2) (fun u t => cAt D dT A (cP dT a_this g_this) t) A) [.ref (a_this 0), .int v1, .int v2].toArray s 0 0 A) (F0 m 37 ls []) := by
    intro g_this x1 x2   n
    induction n with
    | zero => intro x3 x5 x6 H locs ls h; exact nomatch h
    | succ n ih =>
      intro x3 x5 x6 H locs ls h hP hD hS hl
      unfold f_X3_rowsJoined_L37 at h
      refine lv_iload hx hb dX3_rowsJoined_37 (lv_at hl 5 rfl) ?_
      refine lv_iload_n hx hb dX3_rowsJoined_39 rfl (lv_at hl 2 rfl) ?_
      refine lv_icmp_ge (tgt := 110) hx hb dX3_rowsJoined_40 (by decide) (fun c4 => ?_) (fun c4 => ?_)
      · replace h := iteT c4 h
        refine lv_lload_n hx hb dX3_rowsJoined_110 rfl (lv_at hl 3 rfl) ?_
        exact rt_l hx hb hr hlk hK hS (() : Unit) (ret2 h) hP hD dX3_rowsJoined_111
      · replace h := iteF c4 h
        refine lv_iload hx hb dX3_rowsJoined_43 (lv_at hl 4 rfl) ?_
        refine lv_if_lt (tgt := 65) hx hb dX3_rowsJoined_45 (by decide) (fun c5 => ?_) (fun c5 => ?_)
        · replace h := iteT c5 h
          refine L_f_X3_rowsJoined_J65 g_this x1 x2 x3 x5 x6 _ ih _ _ _ h hP hD hS (lv_sub hl [0, 1, 2, 3, 4, 5] rfl)
        · replace h := iteF c5 h
          refine lv_iload hx hb dX3_rowsJoined_48 (lv_at hl 4 rfl) ?_
          refine lv_bipush (v := 21) hx hb dX3_rowsJoined_50 (by decide) ?_
          refine lv_icmp_ge (tgt := 65) hx hb dX3_rowsJoined_52 (by decide) (fun c9 => ?_) (fun c9 => ?_)
          · replace h := iteT c9 h
            refine L_f_X3_rowsJoined_J65 g_this x1 x2 x3 x5 x6 _ ih _ _ _ h hP hD hS (lv_sub hl [0, 1, 2, 3, 4, 5] rfl)
          · replace h := iteF c9 h
            refine lv_aload_n hx hb dX3_rowsJoined_55 rfl (lv_at hl 0 rfl) ?_
            refine gf_X3_15 (v := .ref (a_this 2)) hx hb hqs hown hK hP 0 rfl rfl dX3_rowsJoined_56 ?_
            refine lv_iload hx hb dX3_rowsJoined_59 (lv_at hl 4 rfl) ?_
            obtain ⟨g10, h⟩ := chk h
            refine va_iald hx hb hK hP 2 0 rfl rfl (inb_in g10) dX3_rowsJoined_61 ?_
            refine lv_goto (tgt := 66) hx hb dX3_rowsJoined_62 (by decide) ?_
            refine L_f_X3_rowsJoined_J66 g_this x1 x2 x3 x5 x6 ((P_shares g_this) x5.toNatClampNeg) _ ih _ _ _ h hP hD hS (lv_sub hl [0, 1, 2, 3, 4, 5] rfl)
  have L_f_X3_rowsJoined_J25 : ∀ (g_this : TP) (x1 : Int32) (x2 : Int32) (x3 : Int64)   (H : Heap) (locs : List Loc) (ls : Array Slot), f_X3_rowsJoined_J25 g_this  x1 x2 x3 = some o → va_P D vwCl (cP dT a_this g_this) H → va_D A (cP dT a_this g_this) → va_S A s.heap H locs → lv_has ls 8 [(0, .ref (a_this 0)), (1, .int x1), (2, .int x2), (3, .long x3)] → W p l e (headSpec (WSm yX3_rowsJoined cX3_rowsJoined 8 (some .long)) { frames := 1, cells := 0, slots := 0, locals := 21 }).room s m [.ref (a_this 0), .int v1, .int v2].toArray below meth c H locs 0 0 (MQ below (va_Ql (fun (r : Int64) (u : Unit) => r = o.1 ∧ u = o.2) (fun u t => cAt D dT A (cP dT a_this g_this) t) A) [.ref (a_this 0), .int v1, .int v2].toArray s 0 0 A) (F0 m 25 ls []) := by
    intro g_this x1 x2 x3   H locs ls h hP hD hS hl
    unfold f_X3_rowsJoined_J25 at h
    refine lv_iload_n hx hb dX3_rowsJoined_25 rfl (lv_at hl 2 rfl) ?_
    refine lv_iload_n hx hb dX3_rowsJoined_26 rfl (lv_at hl 2 rfl) ?_
    refine lv_iconst (v := 1) hx hb dX3_rowsJoined_27 (by decide) ?_
    refine lv_isub hx hb dX3_rowsJoined_28 ?_
    refine lv_imul hx hb dX3_rowsJoined_29 ?_
    refine lv_iconst (v := 2) hx hb dX3_rowsJoined_30 (by decide) ?_
    refine lv_idiv hx hb dX3_rowsJoined_31 (by decide) ?_
    refine lv_istore (lv' := [(5, .int ((x2 * (x2 - (1 : Int32))) / (2 : Int32))), (0, .ref (a_this 0)), (1, .int x1), (2, .int x2), (3, .long x3)]) hx hb dX3_rowsJoined_32 hl (by decide) rfl (fun ls hl => ?_)
    refine lv_iconst (v := 0) hx hb dX3_rowsJoined_34 (by decide) ?_
    refine lv_istore (lv' := [(6, .int (0 : Int32)), (5, .int ((x2 * (x2 - (1 : Int32))) / (2 : Int32))), (0, .ref (a_this 0)), (1, .int x1), (2, .int x2), (3, .long x3)]) hx hb dX3_rowsJoined_35 hl (by decide) rfl (fun ls hl => ?_)
    refine L_f_X3_rowsJoined_L37 g_this x1 x2   FUEL x3 ((x2 * (x2 - (1 : Int32))) / (2 : Int32)) (0 : Int32) _ _ _ h hP hD hS (lv_sub hl [2, 3, 4, 5, 1, 0] rfl)
  unfold f_X3_rowsJoined at h
  refine lv_aload_n hx hb dX3_rowsJoined_0 rfl (lv_at hl 0 rfl) ?_
  refine lv_iload_n hx hb dX3_rowsJoined_1 rfl (lv_at hl 1 rfl) ?_
  obtain ⟨o1, e1, h⟩ := obind h
  have hPc := hP
  have hDc := hD
  have hFc := vfall hD hS hA
  refine cl_lA (va_runV (As := [.int v1]) (rest := []) ⟨hx, hb, hml, hown, hts⟩ (c_X3_rowsOf l hlt D dT a_this g_this v1 o1 e1 _) (cwV 1 hts (TB_V w_776 w_777 w_778 w_58 w_779) rfl rfl rfl ⟨rfl, nd_X3_rowsOf⟩ ⟨Nat.le_of_ble_eq_true rfl, Nat.le_of_ble_eq_true rfl⟩) (cPre.V hPc hDc hK hE hS hFc (va_recv hK hP (ci := 3) (q0 := 0) rfl rfl)) rfl rfl hl.1 rfl (lv_room (Nat.le_of_ble_eq_true rfl)) dX3_rowsJoined_2 ⟨Nat.zero_le _, Nat.zero_le _⟩) hS hFc (fun r1 u1 H locs hw hP hD hS => ?_)
  obtain ⟨rfl, rfl⟩ := hw
  have hP : va_P D vwCl (cP dT a_this g_this) H := hP
  have hD : va_D A (cP dT a_this g_this) := hD
  refine lv_aload_n hx hb dX3_rowsJoined_5 rfl (lv_at hl 0 rfl) ?_
  refine lv_iload_n hx hb dX3_rowsJoined_6 rfl (lv_at hl 2 rfl) ?_
  obtain ⟨o2, e2, h⟩ := obind h
  have hPc := hP
  have hDc := hD
  have hFc := vfall hD hS hA
  refine cl_iA (va_runV (As := [.int v2]) (rest := [.long o1.1]) ⟨hx, hb, hml, hown, hts⟩ (c_X3_sizeOf l hlt D dT a_this g_this v2 o2 e2 _) (cwV 1 hts (TB_V w_780 w_782 w_17 w_58 w_783) rfl rfl rfl ⟨rfl, nd_X3_sizeOf⟩ ⟨Nat.le_of_ble_eq_true rfl, Nat.le_of_ble_eq_true rfl⟩) (cPre.V hPc hDc hK hE hS hFc (va_recv hK hP (ci := 3) (q0 := 0) rfl rfl)) rfl rfl hl.1 rfl (lv_room (Nat.le_of_ble_eq_true rfl)) dX3_rowsJoined_7 ⟨Nat.zero_le _, Nat.zero_le _⟩) hS hFc (fun r2 u2 H locs hw hP hD hS => ?_)
  obtain ⟨rfl, rfl⟩ := hw
  have hP : va_P D vwCl (cP dT a_this g_this) H := hP
  have hD : va_D A (cP dT a_this g_this) := hD
  refine lv_i2l hx hb dX3_rowsJoined_10 rfl ?_
  refine lv_lmul hx hb dX3_rowsJoined_11 ?_
  refine lv_lstore_n (lv' := [(3, .long (o1.1 * (Int32.toInt64 o2.1))), (0, .ref (a_this 0)), (1, .int v1), (2, .int v2)]) hx hb dX3_rowsJoined_12 rfl hl (by decide) rfl (fun ls hl => ?_)
  refine lv_lload_n hx hb dX3_rowsJoined_13 rfl (lv_at hl 0 rfl) ?_
  refine lv_ldc2 (v := 1000000000000) hx hb hown (hqs _ w_784) dX3_rowsJoined_14 ?_
  refine W.lcmp hx hb dX3_rowsJoined_17 ?_
  refine lv_if_le (tgt := 25) hx hb dX3_rowsJoined_18 (by decide) (fun c3 => ?_) (fun c3 => ?_)
  · replace h := iteT c3 h
    refine L_f_X3_rowsJoined_J25 g_this v1 v2 (o1.1 * (Int32.toInt64 o2.1))   _ _ _ h hP hD hS (lv_sub hl [1, 2, 3, 0] rfl)
  · replace h := iteF c3 h
    refine lv_ldc2 (v := 1000000000000) hx hb hown (hqs _ w_784) dX3_rowsJoined_21 ?_
    refine lv_lstore_n (lv' := [(3, .long (1000000000000 : Int64)), (0, .ref (a_this 0)), (1, .int v1), (2, .int v2)]) hx hb dX3_rowsJoined_24 rfl hl (by decide) rfl (fun ls hl => ?_)
    refine L_f_X3_rowsJoined_J25 g_this v1 v2 (1000000000000 : Int64)   _ _ _ h hP hD hS (lv_sub hl [1, 2, 3, 0] rfl)

def f_X3_weigh_L13 (g_p1 : TW) (x3 : Int32) (k39 : TP → Option (Unit × (TP))) : Nat → Int32 → TP → Option (Unit × (TP))
  | 0, _, _ => none
  | n + 1, x4, g_this =>
    (if (7 : Int32) ≤ x4 then (k39 g_this) else ((f_X7_sizeOf g_p1 x4).bind fun o2 => (if inb x4 7 = true then (f_X3_weigh_L13 g_p1 x3 k39 n (x4 + (1 : Int32)) (P_mk (upd (P_sizes g_this) x4.toNatClampNeg o2.1) (P_shares g_this) (P_rowsOf g_this) (P_restOf g_this) (P_nextOf g_this) (P_tableAt g_this) (P_wayAt g_this) (P_whole g_this) (P_count g_this))) else none)))
def f_X3_weigh_L42 (g_p1 : TW) (x3 : Int32) (k69 : TP → Option (Unit × (TP))) : Nat → Int32 → TP → Option (Unit × (TP))
  | 0, _, _ => none
  | n + 1, x4, g_this =>
    (if (21 : Int32) ≤ x4 then (k69 g_this) else ((f_X7_shareOf g_p1 x4 x3).bind fun o6 => (if inb x4 21 = true then (f_X3_weigh_L42 g_p1 x3 k69 n (x4 + (1 : Int32)) (P_mk (P_sizes g_this) (upd (P_shares g_this) x4.toNatClampNeg o6.1) (P_rowsOf g_this) (P_restOf g_this) (P_nextOf g_this) (P_tableAt g_this) (P_wayAt g_this) (P_whole g_this) (P_count g_this))) else none)))
def f_X3_weigh_J102 (g_p1 : TW) (k82 : Int32 → Int32 → TP → Option (Unit × (TP))) (x4 : Int32) (x5 : Int32) (g_this : TP) : Option (Unit × (TP)) :=
    (if (x5 &&& (P_whole g_this)) = x5 then ((f_X3_rowsJoined g_this (x5 &&& (((1 : Int32) <<< (x4 &&& 31)) ^^^ (-1 : Int32))) x4).bind fun o13 => (if inb x5 128 = true then (k82 x4 (x5 + (1 : Int32)) (P_mk (P_sizes g_this) (P_shares g_this) (vp_updL (P_rowsOf g_this) x5.toNatClampNeg o13.1) (P_restOf g_this) (P_nextOf g_this) (P_tableAt g_this) (P_wayAt g_this) (P_whole g_this) (P_count g_this))) else none)) else (k82 x4 (x5 + (1 : Int32)) g_this))
def f_X3_weigh_L82 (g_p1 : TW)  : Nat → Int32 → Int32 → TP → Option (Unit × (TP))
  | 0, _, _, _ => none
  | n + 1, x4, x5, g_this =>
    (if (128 : Int32) ≤ x5 then (some ((), g_this)) else (if (x5 >>> (x4 &&& 31)) ≤ (1 : Int32) then (f_X3_weigh_J102 g_p1 (fun x4 x5 g_this => f_X3_weigh_L82 g_p1 n x4 x5 g_this) x4 x5 g_this) else (f_X3_weigh_J102 g_p1 (fun x4 x5 g_this => f_X3_weigh_L82 g_p1 n x4 x5 g_this) (x4 + (1 : Int32)) x5 g_this)))
def f_X3_weigh (g_this : TP) (g_p1 : TW) (v2 : Int32) (v3 : Int32) : Option (Unit × (TP)) :=
  (f_X3_weigh_L13 g_p1 v3 (fun (y4g_this : TP) => (f_X3_weigh_L42 g_p1 v3 (fun (y8g_this : TP) => (if inb (0 : Int32) 128 = true then (f_X3_weigh_L82 g_p1 FUEL (0 : Int32) (1 : Int32) (P_mk (P_sizes y8g_this) (P_shares y8g_this) (vp_updL (P_rowsOf y8g_this) (0 : Int32).toNatClampNeg (1 : Int64)) (P_restOf y8g_this) (P_nextOf y8g_this) (P_tableAt y8g_this) (P_wayAt y8g_this) (P_whole y8g_this) (P_count y8g_this))) else none)) FUEL (0 : Int32) y4g_this)) FUEL (0 : Int32) (P_mk (P_sizes g_this) (P_shares g_this) (P_rowsOf g_this) (P_restOf g_this) (P_nextOf g_this) (P_tableAt g_this) (P_wayAt g_this) v2 (0 : Int32)))
set_option maxHeartbeats 8000000 in
set_option maxRecDepth 100000 in
theorem c_X3_weigh (l : Launch) (hlt : l.stackTraces = false) (D : va_G) (dT : Nat → ClassId) (a_this : Nat → Nat) (a_p1 : Nat → Nat) (g_this : TP) (g_p1 : TW) (v2 : Int32) (v3 : Int32) (o : (Unit × (TP))) (h : f_X3_weigh g_this g_p1 v2 v3 = some o) (sz : Nat) : Met l yX3_weigh (WSm yX3_weigh cX3_weigh 6 none) { frames := 2, cells := 0, slots := 0, locals := 48 } (va_Pc [.ref (a_this 0), .ref (a_p1 0), .int v2, .int v3] (cPre D dT (cP dT a_this g_this ++ (cW dT a_p1 g_p1)) sz)) (va_Qv (fun (u : TP) => u = o.2) (fun u t => cAt D dT (va_A (cP dT a_this g_this ++ (cW dT a_p1 g_p1)) sz) (cP dT a_this u ++ (cW dT a_p1 g_p1)) t) (va_A (cP dT a_this g_this ++ (cW dT a_p1 g_p1)) sz)) 0 0 (va_A (cP dT a_this g_this ++ (cW dT a_p1 g_p1)) sz) := by
  refine mStart (WS := (cP dT a_this g_this ++ (cW dT a_p1 g_p1))) (Qc := fun A => va_Qv (fun (u : TP) => u = o.2) (fun u t => cAt D dT A (cP dT a_this u ++ (cW dT a_p1 g_p1)) t) A) RX3 rfl (by decide) (Nat.le_of_ble_eq_true rfl) ?_ sz
  intro p e s m below meth c A ls hx hb hml hr hlk hnm hts hqs hown hE hA hK hP hD hS hl
  have hl : lv_has ls 6 [(0, .ref (a_this 0)), (1, .ref (a_p1 0)), (2, .int v2), (3, .int v3)] := hl
  have L_f_X3_weigh_L13 : ∀ (g_p1 : TW) (x3 : Int32) (k39 : TP → Option (Unit × (TP))) (hk39 : ∀ (g_this : TP) (H : Heap) (locs : List Loc) (ls : Array Slot), k39 g_this = some o → va_P D vwCl (cP dT a_this g_this ++ (cW dT a_p1 g_p1)) H → va_D A (cP dT a_this g_this ++ (cW dT a_p1 g_p1)) → va_S A s.heap H locs → lv_has ls 6 [(0, .ref (a_this 0)), (1, .ref (a_p1 0)), (3, .int x3)] → W p l e (headSpec (WSm yX3_weigh cX3_weigh 6 none) { frames := 2, cells := 0, slots := 0, locals := 48 }).room s m [.ref (a_this 0), .ref (a_p1 0), .int v2, .int v3].toArray below meth c H locs 0 0 (MQ below (va_Qv (fun (u : TP) => u = o.2) (fun u t => cAt D dT A (cP dT a_this u ++ (cW dT a_p1 g_p1)) t) A) [.ref (a_this 0), .ref (a_p1 0), .int v2, .int v3].toArray s 0 0 A) (F0 m 39 ls [])) (n : Nat), ∀ (x4 : Int32) (g_this : TP) (H : Heap) (locs : List Loc) (ls : Array Slot), f_X3_weigh_L13 g_p1 x3 k39 n x4 g_this = some o → va_P D vwCl (cP dT a_this g_this ++ (cW dT a_p1 g_p1)) H → va_D A (cP dT a_this g_this ++ (cW dT a_p1 g_p1)) → va_S A s.heap H locs → lv_has ls 6 [(0, .ref (a_this 0)), (1, .ref (a_p1 0)), (3, .int x3), (4, .int x4)] → W p l e (headSpec (WSm yX3_weigh cX3_weigh 6 none) { frames := 2, cells := 0, slots := 0, locals := 48 }).room s m [.ref (a_this 0), .ref (a_p1 0), .int v2, .int v3].toArray below meth c H locs 0 0 (MQ below (va_Qv (fun (u : TP) => u = o.2) (fun u t => cAt D dT A (cP dT a_this u ++ (cW dT a_p1 g_p1)) t) A) [.ref (a_this 0), .ref (a_p1 0), .int v2, .int v3].toArray s 0 0 A) (F0 m 13 ls []) := by
    intro g_p1 x3 k39 hk39 n
    induction n with
    | zero => intro x4 g_this H locs ls h; exact nomatch h
    | succ n ih =>
      intro x4 g_this H locs ls h hP hD hS hl
      unfold f_X3_weigh_L13 at h
      refine lv_iload hx hb dX3_weigh_13 (lv_at hl 3 rfl) ?_
      refine lv_bipush (v := 7) hx hb dX3_weigh_15 (by decide) ?_
      refine lv_icmp_ge (tgt := 39) hx hb dX3_weigh_17 (by decide) (fun c1 => ?_) (fun c1 => ?_)
      · replace h := iteT c1 h
        exact hk39 g_this _ _ _ h hP hD hS (lv_sub hl [0, 1, 2] rfl)
      · replace h := iteF c1 h
        refine lv_aload_n hx hb dX3_weigh_20 rfl (lv_at hl 0 rfl) ?_
        refine gf_X3_9 (v := .ref (a_this 1)) hx hb hqs hown hK hP 0 rfl rfl dX3_weigh_21 ?_
        refine lv_iload hx hb dX3_weigh_24 (lv_at hl 3 rfl) ?_
        refine lv_aload_n hx hb dX3_weigh_26 rfl (lv_at hl 1 rfl) ?_
        refine lv_iload hx hb dX3_weigh_27 (lv_at hl 3 rfl) ?_
        obtain ⟨o2, e2, h⟩ := obind h
        have hPc := hP.sub (ws' := (cW dT a_p1 g_p1)) [8, 9, 10, 11, 12, 13, 14, 15, 16, 17] rfl
        have hDc := hD.sub (ws' := (cW dT a_p1 g_p1)) [8, 9, 10, 11, 12, 13, 14, 15, 16, 17] (by decide) rfl
        have hFc := va_free (wc := (cW dT a_p1 g_p1)) hD hS hA [8, 9, 10, 11, 12, 13, 14, 15, 16, 17] rfl
        refine cl_i (wr := (cP dT a_this g_this)) (va_runV (As := [.int x4]) (rest := [.int x4, .ref (a_this 1)]) ⟨hx, hb, hml, hown, hts⟩ (c_X7_sizeOf l hlt D dT a_p1 g_p1 x4 o2 e2 _) (cwV 1 hts (TB_V w_770 w_635 w_636 w_55 w_637) rfl rfl rfl ⟨rfl, nd_X7_sizeOf⟩ ⟨Nat.le_of_ble_eq_true rfl, Nat.le_of_ble_eq_true rfl⟩) (cPre.V hPc hDc hK hE hS hFc (va_recv hK hP (ci := 6) (q0 := 8) rfl rfl)) rfl rfl hl.1 rfl (lv_room (Nat.le_of_ble_eq_true rfl)) dX3_weigh_29 ⟨Nat.zero_le _, Nat.zero_le _⟩) hP hD hS hFc [8, 9, 10, 11, 12, 13, 14, 15, 16, 17] [0, 1, 2, 3, 4, 5, 6, 7] rfl rfl (by decide) (by decide) (fun r2 u2 H locs hw hP hD hS => ?_)
        obtain ⟨rfl, rfl⟩ := hw
        have hP : va_P D vwCl (cP dT a_this g_this ++ (cW dT a_p1 g_p1)) H := hP
        have hD : va_D A (cP dT a_this g_this ++ (cW dT a_p1 g_p1)) := hD
        obtain ⟨g3, h⟩ := chk h
        refine va_iast hx hb hK hP hD hS 1 0 rfl rfl (inb_in g3) dX3_weigh_32 (fun H locs hP hD hS => ?_)
        have hP : va_P D vwCl ([(a_this 0, .inr (3, [.ref (a_this 1), .ref (a_this 2), .ref (a_this 3), .ref (a_this 4), .ref (a_this 5), .ref (a_this 6), .ref (a_this 7), .int (P_whole g_this), .int (P_count g_this)])), (a_this 1, .inl (dT 0, 7, .inl (upd (P_sizes g_this) x4.toNatClampNeg o2.1))), (a_this 2, .inl (dT 0, 21, .inl (P_shares g_this))), (a_this 3, .inl (dT 1, 128, .inr (.inl (P_rowsOf g_this)))), (a_this 4, .inl (dT 1, 128, .inr (.inl (P_restOf g_this)))), (a_this 5, .inl (dT 0, 128, .inl (P_nextOf g_this))), (a_this 6, .inl (dT 0, 7, .inl (P_tableAt g_this))), (a_this 7, .inl (dT 0, 7, .inl (P_wayAt g_this)))] ++ (cW dT a_p1 g_p1)) H := hP
        have hD : va_D A ([(a_this 0, .inr (3, [.ref (a_this 1), .ref (a_this 2), .ref (a_this 3), .ref (a_this 4), .ref (a_this 5), .ref (a_this 6), .ref (a_this 7), .int (P_whole g_this), .int (P_count g_this)])), (a_this 1, .inl (dT 0, 7, .inl (upd (P_sizes g_this) x4.toNatClampNeg o2.1))), (a_this 2, .inl (dT 0, 21, .inl (P_shares g_this))), (a_this 3, .inl (dT 1, 128, .inr (.inl (P_rowsOf g_this)))), (a_this 4, .inl (dT 1, 128, .inr (.inl (P_restOf g_this)))), (a_this 5, .inl (dT 0, 128, .inl (P_nextOf g_this))), (a_this 6, .inl (dT 0, 7, .inl (P_tableAt g_this))), (a_this 7, .inl (dT 0, 7, .inl (P_wayAt g_this)))] ++ (cW dT a_p1 g_p1)) := hD
        refine lv_iinc (v := (x4 + (1 : Int32))) (lv' := [(4, .int (x4 + (1 : Int32))), (0, .ref (a_this 0)), (1, .ref (a_p1 0)), (3, .int x3)]) hx hb dX3_weigh_33 hl (k := 3) rfl rfl (by decide) rfl (fun ls hl => ?_)
        refine lv_goto (tgt := 13) hx hb dX3_weigh_36 (by decide) ?_
        exact ih (x4 + (1 : Int32)) (P_mk (upd (P_sizes g_this) x4.toNatClampNeg o2.1) (P_shares g_this) (P_rowsOf g_this) (P_restOf g_this) (P_nextOf g_this) (P_tableAt g_this) (P_wayAt g_this) (P_whole g_this) (P_count g_this)) _ _ _ h hP hD hS (lv_sub hl [1, 2, 3, 0] rfl)
  have L_f_X3_weigh_L42 : ∀ (g_p1 : TW) (x3 : Int32) (k69 : TP → Option (Unit × (TP))) (hk69 : ∀ (g_this : TP) (H : Heap) (locs : List Loc) (ls : Array Slot), k69 g_this = some o → va_P D vwCl (cP dT a_this g_this ++ (cW dT a_p1 g_p1)) H → va_D A (cP dT a_this g_this ++ (cW dT a_p1 g_p1)) → va_S A s.heap H locs → lv_has ls 6 [(0, .ref (a_this 0))] → W p l e (headSpec (WSm yX3_weigh cX3_weigh 6 none) { frames := 2, cells := 0, slots := 0, locals := 48 }).room s m [.ref (a_this 0), .ref (a_p1 0), .int v2, .int v3].toArray below meth c H locs 0 0 (MQ below (va_Qv (fun (u : TP) => u = o.2) (fun u t => cAt D dT A (cP dT a_this u ++ (cW dT a_p1 g_p1)) t) A) [.ref (a_this 0), .ref (a_p1 0), .int v2, .int v3].toArray s 0 0 A) (F0 m 69 ls [])) (n : Nat), ∀ (x4 : Int32) (g_this : TP) (H : Heap) (locs : List Loc) (ls : Array Slot), f_X3_weigh_L42 g_p1 x3 k69 n x4 g_this = some o → va_P D vwCl (cP dT a_this g_this ++ (cW dT a_p1 g_p1)) H → va_D A (cP dT a_this g_this ++ (cW dT a_p1 g_p1)) → va_S A s.heap H locs → lv_has ls 6 [(0, .ref (a_this 0)), (1, .ref (a_p1 0)), (3, .int x3), (4, .int x4)] → W p l e (headSpec (WSm yX3_weigh cX3_weigh 6 none) { frames := 2, cells := 0, slots := 0, locals := 48 }).room s m [.ref (a_this 0), .ref (a_p1 0), .int v2, .int v3].toArray below meth c H locs 0 0 (MQ below (va_Qv (fun (u : TP) => u = o.2) (fun u t => cAt D dT A (cP dT a_this u ++ (cW dT a_p1 g_p1)) t) A) [.ref (a_this 0), .ref (a_p1 0), .int v2, .int v3].toArray s 0 0 A) (F0 m 42 ls []) := by
    intro g_p1 x3 k69 hk69 n
    induction n with
    | zero => intro x4 g_this H locs ls h; exact nomatch h
    | succ n ih =>
      intro x4 g_this H locs ls h hP hD hS hl
      unfold f_X3_weigh_L42 at h
      refine lv_iload hx hb dX3_weigh_42 (lv_at hl 3 rfl) ?_
      refine lv_bipush (v := 21) hx hb dX3_weigh_44 (by decide) ?_
      refine lv_icmp_ge (tgt := 69) hx hb dX3_weigh_46 (by decide) (fun c5 => ?_) (fun c5 => ?_)
      · replace h := iteT c5 h
        exact hk69 g_this _ _ _ h hP hD hS (lv_sub hl [0] rfl)
      · replace h := iteF c5 h
        refine lv_aload_n hx hb dX3_weigh_49 rfl (lv_at hl 0 rfl) ?_
        refine gf_X3_15 (v := .ref (a_this 2)) hx hb hqs hown hK hP 0 rfl rfl dX3_weigh_50 ?_
        refine lv_iload hx hb dX3_weigh_53 (lv_at hl 3 rfl) ?_
        refine lv_aload_n hx hb dX3_weigh_55 rfl (lv_at hl 1 rfl) ?_
        refine lv_iload hx hb dX3_weigh_56 (lv_at hl 3 rfl) ?_
        refine lv_iload_n hx hb dX3_weigh_58 rfl (lv_at hl 2 rfl) ?_
        obtain ⟨o6, e6, h⟩ := obind h
        have hPc := hP.sub (ws' := (cW dT a_p1 g_p1)) [8, 9, 10, 11, 12, 13, 14, 15, 16, 17] rfl
        have hDc := hD.sub (ws' := (cW dT a_p1 g_p1)) [8, 9, 10, 11, 12, 13, 14, 15, 16, 17] (by decide) rfl
        have hFc := va_free (wc := (cW dT a_p1 g_p1)) hD hS hA [8, 9, 10, 11, 12, 13, 14, 15, 16, 17] rfl
        refine cl_i (wr := (cP dT a_this g_this)) (va_runV (As := [.int x4, .int x3]) (rest := [.int x4, .ref (a_this 2)]) ⟨hx, hb, hml, hown, hts⟩ (c_X7_shareOf l hlt D dT a_p1 g_p1 x4 x3 o6 e6 _) (cwV 2 hts (TB_V w_771 w_401 w_402 w_55 w_403) rfl rfl rfl ⟨rfl, nd_X7_shareOf⟩ ⟨Nat.le_of_ble_eq_true rfl, Nat.le_of_ble_eq_true rfl⟩) (cPre.V hPc hDc hK hE hS hFc (va_recv hK hP (ci := 6) (q0 := 8) rfl rfl)) rfl rfl hl.1 rfl (lv_room (Nat.le_of_ble_eq_true rfl)) dX3_weigh_59 ⟨Nat.zero_le _, Nat.zero_le _⟩) hP hD hS hFc [8, 9, 10, 11, 12, 13, 14, 15, 16, 17] [0, 1, 2, 3, 4, 5, 6, 7] rfl rfl (by decide) (by decide) (fun r6 u6 H locs hw hP hD hS => ?_)
        obtain ⟨rfl, rfl⟩ := hw
        have hP : va_P D vwCl (cP dT a_this g_this ++ (cW dT a_p1 g_p1)) H := hP
        have hD : va_D A (cP dT a_this g_this ++ (cW dT a_p1 g_p1)) := hD
        obtain ⟨g7, h⟩ := chk h
        refine va_iast hx hb hK hP hD hS 2 0 rfl rfl (inb_in g7) dX3_weigh_62 (fun H locs hP hD hS => ?_)
        have hP : va_P D vwCl ([(a_this 0, .inr (3, [.ref (a_this 1), .ref (a_this 2), .ref (a_this 3), .ref (a_this 4), .ref (a_this 5), .ref (a_this 6), .ref (a_this 7), .int (P_whole g_this), .int (P_count g_this)])), (a_this 1, .inl (dT 0, 7, .inl (P_sizes g_this))), (a_this 2, .inl (dT 0, 21, .inl (upd (P_shares g_this) x4.toNatClampNeg o6.1))), (a_this 3, .inl (dT 1, 128, .inr (.inl (P_rowsOf g_this)))), (a_this 4, .inl (dT 1, 128, .inr (.inl (P_restOf g_this)))), (a_this 5, .inl (dT 0, 128, .inl (P_nextOf g_this))), (a_this 6, .inl (dT 0, 7, .inl (P_tableAt g_this))), (a_this 7, .inl (dT 0, 7, .inl (P_wayAt g_this)))] ++ (cW dT a_p1 g_p1)) H := hP
        have hD : va_D A ([(a_this 0, .inr (3, [.ref (a_this 1), .ref (a_this 2), .ref (a_this 3), .ref (a_this 4), .ref (a_this 5), .ref (a_this 6), .ref (a_this 7), .int (P_whole g_this), .int (P_count g_this)])), (a_this 1, .inl (dT 0, 7, .inl (P_sizes g_this))), (a_this 2, .inl (dT 0, 21, .inl (upd (P_shares g_this) x4.toNatClampNeg o6.1))), (a_this 3, .inl (dT 1, 128, .inr (.inl (P_rowsOf g_this)))), (a_this 4, .inl (dT 1, 128, .inr (.inl (P_restOf g_this)))), (a_this 5, .inl (dT 0, 128, .inl (P_nextOf g_this))), (a_this 6, .inl (dT 0, 7, .inl (P_tableAt g_this))), (a_this 7, .inl (dT 0, 7, .inl (P_wayAt g_this)))] ++ (cW dT a_p1 g_p1)) := hD
        refine lv_iinc (v := (x4 + (1 : Int32))) (lv' := [(4, .int (x4 + (1 : Int32))), (0, .ref (a_this 0)), (1, .ref (a_p1 0)), (3, .int x3)]) hx hb dX3_weigh_63 hl (k := 3) rfl rfl (by decide) rfl (fun ls hl => ?_)
        refine lv_goto (tgt := 42) hx hb dX3_weigh_66 (by decide) ?_
        exact ih (x4 + (1 : Int32)) (P_mk (P_sizes g_this) (upd (P_shares g_this) x4.toNatClampNeg o6.1) (P_rowsOf g_this) (P_restOf g_this) (P_nextOf g_this) (P_tableAt g_this) (P_wayAt g_this) (P_whole g_this) (P_count g_this)) _ _ _ h hP hD hS (lv_sub hl [1, 2, 3, 0] rfl)
  have L_f_X3_weigh_J102 : ∀ (g_p1 : TW) (x4 : Int32) (x5 : Int32) (g_this : TP) (k82 : Int32 → Int32 → TP → Option (Unit × (TP))) (hk82 : ∀ (x4 : Int32) (x5 : Int32) (g_this : TP) (H : Heap) (locs : List Loc) (ls : Array Slot), k82 x4 x5 g_this = some o → va_P D vwCl (cP dT a_this g_this ++ (cW dT a_p1 g_p1)) H → va_D A (cP dT a_this g_this ++ (cW dT a_p1 g_p1)) → va_S A s.heap H locs → lv_has ls 6 [(0, .ref (a_this 0)), (4, .int x4), (5, .int x5)] → W p l e (headSpec (WSm yX3_weigh cX3_weigh 6 none) { frames := 2, cells := 0, slots := 0, locals := 48 }).room s m [.ref (a_this 0), .ref (a_p1 0), .int v2, .int v3].toArray below meth c H locs 0 0 (MQ below (va_Qv (fun (u : TP) => u = o.2) (fun u t => cAt D dT A (cP dT a_this u ++ (cW dT a_p1 g_p1)) t) A) [.ref (a_this 0), .ref (a_p1 0), .int v2, .int v3].toArray s 0 0 A) (F0 m 82 ls [])) (H : Heap) (locs : List Loc) (ls : Array Slot), f_X3_weigh_J102 g_p1 k82 x4 x5 g_this = some o → va_P D vwCl (cP dT a_this g_this ++ (cW dT a_p1 g_p1)) H → va_D A (cP dT a_this g_this ++ (cW dT a_p1 g_p1)) → va_S A s.heap H locs → lv_has ls 6 [(0, .ref (a_this 0)), (4, .int x4), (5, .int x5)] → W p l e (headSpec (WSm yX3_weigh cX3_weigh 6 none) { frames := 2, cells := 0, slots := 0, locals := 48 }).room s m [.ref (a_this 0), .ref (a_p1 0), .int v2, .int v3].toArray below meth c H locs 0 0 (MQ below (va_Qv (fun (u : TP) => u = o.2) (fun u t => cAt D dT A (cP dT a_this u ++ (cW dT a_p1 g_p1)) t) A) [.ref (a_this 0), .ref (a_p1 0), .int v2, .int v3].toArray s 0 0 A) (F0 m 102 ls []) := by
    intro g_p1 x4 x5 g_this k82 hk82 H locs ls h hP hD hS hl
    unfold f_X3_weigh_J102 at h
    refine lv_iload hx hb dX3_weigh_102 (lv_at hl 2 rfl) ?_
    refine lv_aload_n hx hb dX3_weigh_104 rfl (lv_at hl 0 rfl) ?_
    refine gf_X3_34 (v := .int (P_whole g_this)) hx hb hqs hown hK hP 0 rfl rfl dX3_weigh_105 ?_
    refine lv_iand hx hb dX3_weigh_108 ?_
    refine lv_iload hx hb dX3_weigh_109 (lv_at hl 2 rfl) ?_
    refine lv_icmp_ne (tgt := 136) hx hb dX3_weigh_111 (by decide) (fun c12 => ?_) (fun c12 => ?_)
    · replace h := iteF c12 h
      refine lv_iinc (v := (x5 + (1 : Int32))) (lv' := [(5, .int (x5 + (1 : Int32))), (0, .ref (a_this 0)), (4, .int x4)]) hx hb dX3_weigh_136 hl (k := 2) rfl rfl (by decide) rfl (fun ls hl => ?_)
      refine lv_goto (tgt := 82) hx hb dX3_weigh_139 (by decide) ?_
      exact hk82 x4 (x5 + (1 : Int32)) g_this _ _ _ h hP hD hS (lv_sub hl [1, 2, 0] rfl)
    · replace h := iteT c12 h
      refine lv_aload_n hx hb dX3_weigh_114 rfl (lv_at hl 0 rfl) ?_
      refine gf_X3_18 (v := .ref (a_this 3)) hx hb hqs hown hK hP 0 rfl rfl dX3_weigh_115 ?_
      refine lv_iload hx hb dX3_weigh_118 (lv_at hl 2 rfl) ?_
      refine lv_aload_n hx hb dX3_weigh_120 rfl (lv_at hl 0 rfl) ?_
      refine lv_iload hx hb dX3_weigh_121 (lv_at hl 2 rfl) ?_
      refine lv_iconst (v := 1) hx hb dX3_weigh_123 (by decide) ?_
      refine lv_iload hx hb dX3_weigh_124 (lv_at hl 1 rfl) ?_
      refine lv_ishl hx hb dX3_weigh_126 ?_
      refine lv_iconst (v := -1) hx hb dX3_weigh_127 (by decide) ?_
      refine lv_ixor hx hb dX3_weigh_128 ?_
      refine lv_iand hx hb dX3_weigh_129 ?_
      refine lv_iload hx hb dX3_weigh_130 (lv_at hl 1 rfl) ?_
      obtain ⟨o13, e13, h⟩ := obind h
      have hPc := hP.sub (ws' := (cP dT a_this g_this)) [0, 1, 2, 3, 4, 5, 6, 7] rfl
      have hDc := hD.sub (ws' := (cP dT a_this g_this)) [0, 1, 2, 3, 4, 5, 6, 7] (by decide) rfl
      have hFc := va_free (wc := (cP dT a_this g_this)) hD hS hA [0, 1, 2, 3, 4, 5, 6, 7] rfl
      refine cl_l (wr := (cW dT a_p1 g_p1)) (va_runV (As := [.int (x5 &&& (((1 : Int32) <<< (x4 &&& 31)) ^^^ (-1 : Int32))), .int x4]) (rest := [.int x5, .ref (a_this 3)]) ⟨hx, hb, hml, hown, hts⟩ (c_X3_rowsJoined l hlt D dT a_this g_this (x5 &&& (((1 : Int32) <<< (x4 &&& 31)) ^^^ (-1 : Int32))) x4 o13 e13 _) (cwV 2 hts (TB_V w_772 w_774 w_16 w_58 w_775) rfl rfl rfl ⟨rfl, nd_X3_rowsJoined⟩ ⟨Nat.le_of_ble_eq_true rfl, Nat.le_of_ble_eq_true rfl⟩) (cPre.V hPc hDc hK hE hS hFc (va_recv hK hP (ci := 3) (q0 := 0) rfl rfl)) rfl rfl hl.1 rfl (lv_room (Nat.le_of_ble_eq_true rfl)) dX3_weigh_132 ⟨Nat.zero_le _, Nat.zero_le _⟩) hP hD hS hFc [0, 1, 2, 3, 4, 5, 6, 7] [8, 9, 10, 11, 12, 13, 14, 15, 16, 17] rfl rfl (by decide) (by decide) (fun r13 u13 H locs hw hP hD hS => ?_)
      obtain ⟨rfl, rfl⟩ := hw
      have hP : va_P D vwCl (cW dT a_p1 g_p1 ++ (cP dT a_this g_this)) H := hP
      have hD : va_D A (cW dT a_p1 g_p1 ++ (cP dT a_this g_this)) := hD
      obtain ⟨g14, h⟩ := chk h
      refine va_last hx hb hK hP hD hS 13 1 rfl rfl (inb_in g14) dX3_weigh_135 (fun H locs hP hD hS => ?_)
      have hP : va_P D vwCl (cW dT a_p1 g_p1 ++ ([(a_this 0, .inr (3, [.ref (a_this 1), .ref (a_this 2), .ref (a_this 3), .ref (a_this 4), .ref (a_this 5), .ref (a_this 6), .ref (a_this 7), .int (P_whole g_this), .int (P_count g_this)])), (a_this 1, .inl (dT 0, 7, .inl (P_sizes g_this))), (a_this 2, .inl (dT 0, 21, .inl (P_shares g_this))), (a_this 3, .inl (dT 1, 128, .inr (.inl (vp_updL (P_rowsOf g_this) x5.toNatClampNeg o13.1)))), (a_this 4, .inl (dT 1, 128, .inr (.inl (P_restOf g_this)))), (a_this 5, .inl (dT 0, 128, .inl (P_nextOf g_this))), (a_this 6, .inl (dT 0, 7, .inl (P_tableAt g_this))), (a_this 7, .inl (dT 0, 7, .inl (P_wayAt g_this)))])) H := hP
      have hD : va_D A (cW dT a_p1 g_p1 ++ ([(a_this 0, .inr (3, [.ref (a_this 1), .ref (a_this 2), .ref (a_this 3), .ref (a_this 4), .ref (a_this 5), .ref (a_this 6), .ref (a_this 7), .int (P_whole g_this), .int (P_count g_this)])), (a_this 1, .inl (dT 0, 7, .inl (P_sizes g_this))), (a_this 2, .inl (dT 0, 21, .inl (P_shares g_this))), (a_this 3, .inl (dT 1, 128, .inr (.inl (vp_updL (P_rowsOf g_this) x5.toNatClampNeg o13.1)))), (a_this 4, .inl (dT 1, 128, .inr (.inl (P_restOf g_this)))), (a_this 5, .inl (dT 0, 128, .inl (P_nextOf g_this))), (a_this 6, .inl (dT 0, 7, .inl (P_tableAt g_this))), (a_this 7, .inl (dT 0, 7, .inl (P_wayAt g_this)))])) := hD
      refine lv_iinc (v := (x5 + (1 : Int32))) (lv' := [(5, .int (x5 + (1 : Int32))), (0, .ref (a_this 0)), (4, .int x4)]) hx hb dX3_weigh_136 hl (k := 2) rfl rfl (by decide) rfl (fun ls hl => ?_)
      refine lv_goto (tgt := 82) hx hb dX3_weigh_139 (by decide) ?_
      have hP := hP.sub (ws' := ([(a_this 0, .inr (3, [.ref (a_this 1), .ref (a_this 2), .ref (a_this 3), .ref (a_this 4), .ref (a_this 5), .ref (a_this 6), .ref (a_this 7), .int (P_whole g_this), .int (P_count g_this)])), (a_this 1, .inl (dT 0, 7, .inl (P_sizes g_this))), (a_this 2, .inl (dT 0, 21, .inl (P_shares g_this))), (a_this 3, .inl (dT 1, 128, .inr (.inl (vp_updL (P_rowsOf g_this) x5.toNatClampNeg o13.1)))), (a_this 4, .inl (dT 1, 128, .inr (.inl (P_restOf g_this)))), (a_this 5, .inl (dT 0, 128, .inl (P_nextOf g_this))), (a_this 6, .inl (dT 0, 7, .inl (P_tableAt g_this))), (a_this 7, .inl (dT 0, 7, .inl (P_wayAt g_this)))] ++ (cW dT a_p1 g_p1))) [10, 11, 12, 13, 14, 15, 16, 17, 0, 1, 2, 3, 4, 5, 6, 7, 8, 9] rfl
      have hD := hD.sub (ws' := ([(a_this 0, .inr (3, [.ref (a_this 1), .ref (a_this 2), .ref (a_this 3), .ref (a_this 4), .ref (a_this 5), .ref (a_this 6), .ref (a_this 7), .int (P_whole g_this), .int (P_count g_this)])), (a_this 1, .inl (dT 0, 7, .inl (P_sizes g_this))), (a_this 2, .inl (dT 0, 21, .inl (P_shares g_this))), (a_this 3, .inl (dT 1, 128, .inr (.inl (vp_updL (P_rowsOf g_this) x5.toNatClampNeg o13.1)))), (a_this 4, .inl (dT 1, 128, .inr (.inl (P_restOf g_this)))), (a_this 5, .inl (dT 0, 128, .inl (P_nextOf g_this))), (a_this 6, .inl (dT 0, 7, .inl (P_tableAt g_this))), (a_this 7, .inl (dT 0, 7, .inl (P_wayAt g_this)))] ++ (cW dT a_p1 g_p1))) [10, 11, 12, 13, 14, 15, 16, 17, 0, 1, 2, 3, 4, 5, 6, 7, 8, 9] (by decide) rfl
      exact hk82 x4 (x5 + (1 : Int32)) (P_mk (P_sizes g_this) (P_shares g_this) (vp_updL (P_rowsOf g_this) x5.toNatClampNeg o13.1) (P_restOf g_this) (P_nextOf g_this) (P_tableAt g_this) (P_wayAt g_this) (P_whole g_this) (P_count g_this)) _ _ _ h hP hD hS (lv_sub hl [1, 2, 0] rfl)
  have L_f_X3_weigh_L82 : ∀ (g_p1 : TW)   (n : Nat), ∀ (x4 : Int32) (x5 : Int32) (g_this : TP) (H : Heap) (locs : List Loc) (ls : Array Slot), f_X3_weigh_L82 g_p1  n x4 x5 g_this = some o → va_P D vwCl (cP dT a_this g_this ++ (cW dT a_p1 g_p1)) H → va_D A (cP dT a_this g_this ++ (cW dT a_p1 g_p1)) → va_S A s.heap H locs → lv_has ls 6 [(0, .ref (a_this 0)), (4, .int x4), (5, .int x5)] → W p l e (headSpec (WSm yX3_weigh cX3_weigh 6 none) { frames := 2, cells := 0, slots := 0, locals := 48 }).room s m [.ref (a_this 0), .ref (a_p1 0), .int v2, .int v3].toArray below meth c H locs 0 0 (MQ below (va_Qv (fun (u : TP) => u = o.2) (fun u t => cAt D dT A (cP dT a_this u ++ (cW dT a_p1 g_p1)) t) A) [.ref (a_this 0), .ref (a_p1 0), .int v2, .int v3].toArray s 0 0 A) (F0 m 82 ls []) := by
    intro g_p1   n
    induction n with
    | zero => intro x4 x5 g_this H locs ls h; exact nomatch h
    | succ n ih =>
      intro x4 x5 g_this H locs ls h hP hD hS hl
      unfold f_X3_weigh_L82 at h
      refine lv_iload hx hb dX3_weigh_82 (lv_at hl 2 rfl) ?_
      refine lv_sipush (v := 128) hx hb dX3_weigh_84 (by decide) ?_
      refine lv_icmp_ge (tgt := 142) hx hb dX3_weigh_87 (by decide) (fun c10 => ?_) (fun c10 => ?_)
      · replace h := iteT c10 h
        exact rt_v hx hb hr hlk hK hS (g_this : TP) (retv h) hP hD dX3_weigh_142
      · replace h := iteF c10 h
        refine lv_iload hx hb dX3_weigh_90 (lv_at hl 2 rfl) ?_
        refine lv_iload hx hb dX3_weigh_92 (lv_at hl 1 rfl) ?_
        refine lv_ishr hx hb dX3_weigh_94 ?_
        refine lv_iconst (v := 1) hx hb dX3_weigh_95 (by decide) ?_
        refine lv_icmp_le (tgt := 102) hx hb dX3_weigh_96 (by decide) (fun c11 => ?_) (fun c11 => ?_)
        · replace h := iteT c11 h
          refine L_f_X3_weigh_J102 g_p1 x4 x5 g_this _ ih _ _ _ h hP hD hS (lv_sub hl [0, 1, 2] rfl)
        · replace h := iteF c11 h
          refine lv_iinc (v := (x4 + (1 : Int32))) (lv' := [(4, .int (x4 + (1 : Int32))), (0, .ref (a_this 0)), (5, .int x5)]) hx hb dX3_weigh_99 hl (k := 1) rfl rfl (by decide) rfl (fun ls hl => ?_)
          refine L_f_X3_weigh_J102 g_p1 (x4 + (1 : Int32)) x5 g_this _ ih _ _ _ h hP hD hS (lv_sub hl [1, 0, 2] rfl)
  unfold f_X3_weigh at h
  refine lv_aload_n hx hb dX3_weigh_0 rfl (lv_at hl 0 rfl) ?_
  refine lv_iload_n hx hb dX3_weigh_1 rfl (lv_at hl 2 rfl) ?_
  refine pf_X3_34 hx hb hqs hown hK hP hD hS 0 rfl rfl dX3_weigh_2 (fun H locs hP hD hS => ?_)
  have hP : va_P D vwCl ([(a_this 0, .inr (3, [.ref (a_this 1), .ref (a_this 2), .ref (a_this 3), .ref (a_this 4), .ref (a_this 5), .ref (a_this 6), .ref (a_this 7), .int v2, .int (P_count g_this)])), (a_this 1, .inl (dT 0, 7, .inl (P_sizes g_this))), (a_this 2, .inl (dT 0, 21, .inl (P_shares g_this))), (a_this 3, .inl (dT 1, 128, .inr (.inl (P_rowsOf g_this)))), (a_this 4, .inl (dT 1, 128, .inr (.inl (P_restOf g_this)))), (a_this 5, .inl (dT 0, 128, .inl (P_nextOf g_this))), (a_this 6, .inl (dT 0, 7, .inl (P_tableAt g_this))), (a_this 7, .inl (dT 0, 7, .inl (P_wayAt g_this)))] ++ (cW dT a_p1 g_p1)) H := hP
  have hD : va_D A ([(a_this 0, .inr (3, [.ref (a_this 1), .ref (a_this 2), .ref (a_this 3), .ref (a_this 4), .ref (a_this 5), .ref (a_this 6), .ref (a_this 7), .int v2, .int (P_count g_this)])), (a_this 1, .inl (dT 0, 7, .inl (P_sizes g_this))), (a_this 2, .inl (dT 0, 21, .inl (P_shares g_this))), (a_this 3, .inl (dT 1, 128, .inr (.inl (P_rowsOf g_this)))), (a_this 4, .inl (dT 1, 128, .inr (.inl (P_restOf g_this)))), (a_this 5, .inl (dT 0, 128, .inl (P_nextOf g_this))), (a_this 6, .inl (dT 0, 7, .inl (P_tableAt g_this))), (a_this 7, .inl (dT 0, 7, .inl (P_wayAt g_this)))] ++ (cW dT a_p1 g_p1)) := hD
  refine lv_aload_n hx hb dX3_weigh_5 rfl (lv_at hl 0 rfl) ?_
  refine lv_iconst (v := 0) hx hb dX3_weigh_6 (by decide) ?_
  refine pf_X3_38 hx hb hqs hown hK hP hD hS 0 rfl rfl dX3_weigh_7 (fun H locs hP hD hS => ?_)
  have hP : va_P D vwCl ([(a_this 0, .inr (3, [.ref (a_this 1), .ref (a_this 2), .ref (a_this 3), .ref (a_this 4), .ref (a_this 5), .ref (a_this 6), .ref (a_this 7), .int v2, .int (0 : Int32)])), (a_this 1, .inl (dT 0, 7, .inl (P_sizes g_this))), (a_this 2, .inl (dT 0, 21, .inl (P_shares g_this))), (a_this 3, .inl (dT 1, 128, .inr (.inl (P_rowsOf g_this)))), (a_this 4, .inl (dT 1, 128, .inr (.inl (P_restOf g_this)))), (a_this 5, .inl (dT 0, 128, .inl (P_nextOf g_this))), (a_this 6, .inl (dT 0, 7, .inl (P_tableAt g_this))), (a_this 7, .inl (dT 0, 7, .inl (P_wayAt g_this)))] ++ (cW dT a_p1 g_p1)) H := hP
  have hD : va_D A ([(a_this 0, .inr (3, [.ref (a_this 1), .ref (a_this 2), .ref (a_this 3), .ref (a_this 4), .ref (a_this 5), .ref (a_this 6), .ref (a_this 7), .int v2, .int (0 : Int32)])), (a_this 1, .inl (dT 0, 7, .inl (P_sizes g_this))), (a_this 2, .inl (dT 0, 21, .inl (P_shares g_this))), (a_this 3, .inl (dT 1, 128, .inr (.inl (P_rowsOf g_this)))), (a_this 4, .inl (dT 1, 128, .inr (.inl (P_restOf g_this)))), (a_this 5, .inl (dT 0, 128, .inl (P_nextOf g_this))), (a_this 6, .inl (dT 0, 7, .inl (P_tableAt g_this))), (a_this 7, .inl (dT 0, 7, .inl (P_wayAt g_this)))] ++ (cW dT a_p1 g_p1)) := hD
  refine lv_iconst (v := 0) hx hb dX3_weigh_10 (by decide) ?_
  refine lv_istore (lv' := [(4, .int (0 : Int32)), (0, .ref (a_this 0)), (1, .ref (a_p1 0)), (2, .int v2), (3, .int v3)]) hx hb dX3_weigh_11 hl (by decide) rfl (fun ls hl => ?_)
  refine L_f_X3_weigh_L13 g_p1 v3 _ ?_ FUEL (0 : Int32) (P_mk (P_sizes g_this) (P_shares g_this) (P_rowsOf g_this) (P_restOf g_this) (P_nextOf g_this) (P_tableAt g_this) (P_wayAt g_this) v2 (0 : Int32)) _ _ _ h hP hD hS (lv_sub hl [1, 2, 4, 0] rfl)
  · intro y4g_this H locs ls h hP hD hS hl
    refine lv_iconst (v := 0) hx hb dX3_weigh_39 (by decide) ?_
    refine lv_istore (lv' := [(4, .int (0 : Int32)), (0, .ref (a_this 0)), (1, .ref (a_p1 0)), (3, .int v3)]) hx hb dX3_weigh_40 hl (by decide) rfl (fun ls hl => ?_)
    refine L_f_X3_weigh_L42 g_p1 v3 _ ?_ FUEL (0 : Int32) y4g_this _ _ _ h hP hD hS (lv_sub hl [1, 2, 3, 0] rfl)
    · intro y8g_this H locs ls h hP hD hS hl
      refine lv_aload_n hx hb dX3_weigh_69 rfl (lv_at hl 0 rfl) ?_
      refine gf_X3_18 (v := .ref (a_this 3)) hx hb hqs hown hK hP 0 rfl rfl dX3_weigh_70 ?_
      refine lv_iconst (v := 0) hx hb dX3_weigh_73 (by decide) ?_
      refine lv_lconst (v := 1) hx hb dX3_weigh_74 (by decide) ?_
      obtain ⟨g9, h⟩ := chk h
      refine va_last hx hb hK hP hD hS 3 1 rfl rfl (inb_in g9) dX3_weigh_75 (fun H locs hP hD hS => ?_)
      have hP : va_P D vwCl ([(a_this 0, .inr (3, [.ref (a_this 1), .ref (a_this 2), .ref (a_this 3), .ref (a_this 4), .ref (a_this 5), .ref (a_this 6), .ref (a_this 7), .int (P_whole y8g_this), .int (P_count y8g_this)])), (a_this 1, .inl (dT 0, 7, .inl (P_sizes y8g_this))), (a_this 2, .inl (dT 0, 21, .inl (P_shares y8g_this))), (a_this 3, .inl (dT 1, 128, .inr (.inl (vp_updL (P_rowsOf y8g_this) (0 : Int32).toNatClampNeg (1 : Int64))))), (a_this 4, .inl (dT 1, 128, .inr (.inl (P_restOf y8g_this)))), (a_this 5, .inl (dT 0, 128, .inl (P_nextOf y8g_this))), (a_this 6, .inl (dT 0, 7, .inl (P_tableAt y8g_this))), (a_this 7, .inl (dT 0, 7, .inl (P_wayAt y8g_this)))] ++ (cW dT a_p1 g_p1)) H := hP
      have hD : va_D A ([(a_this 0, .inr (3, [.ref (a_this 1), .ref (a_this 2), .ref (a_this 3), .ref (a_this 4), .ref (a_this 5), .ref (a_this 6), .ref (a_this 7), .int (P_whole y8g_this), .int (P_count y8g_this)])), (a_this 1, .inl (dT 0, 7, .inl (P_sizes y8g_this))), (a_this 2, .inl (dT 0, 21, .inl (P_shares y8g_this))), (a_this 3, .inl (dT 1, 128, .inr (.inl (vp_updL (P_rowsOf y8g_this) (0 : Int32).toNatClampNeg (1 : Int64))))), (a_this 4, .inl (dT 1, 128, .inr (.inl (P_restOf y8g_this)))), (a_this 5, .inl (dT 0, 128, .inl (P_nextOf y8g_this))), (a_this 6, .inl (dT 0, 7, .inl (P_tableAt y8g_this))), (a_this 7, .inl (dT 0, 7, .inl (P_wayAt y8g_this)))] ++ (cW dT a_p1 g_p1)) := hD
      refine lv_iconst (v := 0) hx hb dX3_weigh_76 (by decide) ?_
      refine lv_istore (lv' := [(4, .int (0 : Int32)), (0, .ref (a_this 0))]) hx hb dX3_weigh_77 hl (by decide) rfl (fun ls hl => ?_)
      refine lv_iconst (v := 1) hx hb dX3_weigh_79 (by decide) ?_
      refine lv_istore (lv' := [(5, .int (1 : Int32)), (4, .int (0 : Int32)), (0, .ref (a_this 0))]) hx hb dX3_weigh_80 hl (by decide) rfl (fun ls hl => ?_)
      refine L_f_X3_weigh_L82 g_p1   FUEL (0 : Int32) (1 : Int32) (P_mk (P_sizes y8g_this) (P_shares y8g_this) (vp_updL (P_rowsOf y8g_this) (0 : Int32).toNatClampNeg (1 : Int64)) (P_restOf y8g_this) (P_nextOf y8g_this) (P_tableAt y8g_this) (P_wayAt y8g_this) (P_whole y8g_this) (P_count y8g_this)) _ _ _ h hP hD hS (lv_sub hl [2, 1, 0] rfl)

def f_X3_cheaperWay (g_this : TP) (v1 : Int32) (v2 : Int32) : Option (Int32 × (Unit)) :=
  ((f_X3_rowsOf g_this v1).bind fun o1 => ((f_X3_sizeOf g_this v2).bind fun o2 => (if (0 : Int32) < (lg_cmp (o1.1 * (Int32.toInt64 o2.1)) ((3 : Int64) * (o1.1 + (Int32.toInt64 o2.1)))) then (some ((1 : Int32), ())) else (some ((0 : Int32), ())))))
set_option maxHeartbeats 8000000 in
set_option maxRecDepth 100000 in
theorem c_X3_cheaperWay (l : Launch) (hlt : l.stackTraces = false) (D : va_G) (dT : Nat → ClassId) (a_this : Nat → Nat) (g_this : TP) (v1 : Int32) (v2 : Int32) (o : (Int32 × (Unit))) (h : f_X3_cheaperWay g_this v1 v2 = some o) (sz : Nat) : Met l yX3_cheaperWay (WSm yX3_cheaperWay cX3_cheaperWay 6 (some .int)) { frames := 1, cells := 0, slots := 0, locals := 21 } (va_Pc [.ref (a_this 0), .int v1, .int v2] (cPre D dT (cP dT a_this g_this) sz)) (va_Qi (fun (r : Int32) (u : Unit) => r = o.1 ∧ u = o.2) (fun u t => cAt D dT (va_A (cP dT a_this g_this) sz) (cP dT a_this g_this) t) (va_A (cP dT a_this g_this) sz)) 0 0 (va_A (cP dT a_this g_this) sz) := by
  refine mStart (WS := (cP dT a_this g_this)) (Qc := fun A => va_Qi (fun (r : Int32) (u : Unit) => r = o.1 ∧ u = o.2) (fun u t => cAt D dT A (cP dT a_this g_this) t) A) RX3 rfl (by decide) (Nat.le_of_ble_eq_true rfl) ?_ sz
  intro p e s m below meth c A ls hx hb hml hr hlk hnm hts hqs hown hE hA hK hP hD hS hl
  have hl : lv_has ls 6 [(0, .ref (a_this 0)), (1, .int v1), (2, .int v2)] := hl
  unfold f_X3_cheaperWay at h
  refine lv_aload_n hx hb dX3_cheaperWay_0 rfl (lv_at hl 0 rfl) ?_
  refine lv_iload_n hx hb dX3_cheaperWay_1 rfl (lv_at hl 1 rfl) ?_
  obtain ⟨o1, e1, h⟩ := obind h
  have hPc := hP
  have hDc := hD
  have hFc := vfall hD hS hA
  refine cl_lA (va_runV (As := [.int v1]) (rest := []) ⟨hx, hb, hml, hown, hts⟩ (c_X3_rowsOf l hlt D dT a_this g_this v1 o1 e1 _) (cwV 1 hts (TB_V w_776 w_777 w_778 w_58 w_779) rfl rfl rfl ⟨rfl, nd_X3_rowsOf⟩ ⟨Nat.le_of_ble_eq_true rfl, Nat.le_of_ble_eq_true rfl⟩) (cPre.V hPc hDc hK hE hS hFc (va_recv hK hP (ci := 3) (q0 := 0) rfl rfl)) rfl rfl hl.1 rfl (lv_room (Nat.le_of_ble_eq_true rfl)) dX3_cheaperWay_2 ⟨Nat.zero_le _, Nat.zero_le _⟩) hS hFc (fun r1 u1 H locs hw hP hD hS => ?_)
  obtain ⟨rfl, rfl⟩ := hw
  have hP : va_P D vwCl (cP dT a_this g_this) H := hP
  have hD : va_D A (cP dT a_this g_this) := hD
  refine lv_lstore_n (lv' := [(3, .long o1.1), (0, .ref (a_this 0)), (1, .int v1), (2, .int v2)]) hx hb dX3_cheaperWay_5 rfl hl (by decide) rfl (fun ls hl => ?_)
  refine lv_aload_n hx hb dX3_cheaperWay_6 rfl (lv_at hl 1 rfl) ?_
  refine lv_iload_n hx hb dX3_cheaperWay_7 rfl (lv_at hl 3 rfl) ?_
  obtain ⟨o2, e2, h⟩ := obind h
  have hPc := hP
  have hDc := hD
  have hFc := vfall hD hS hA
  refine cl_iA (va_runV (As := [.int v2]) (rest := []) ⟨hx, hb, hml, hown, hts⟩ (c_X3_sizeOf l hlt D dT a_this g_this v2 o2 e2 _) (cwV 1 hts (TB_V w_780 w_782 w_17 w_58 w_783) rfl rfl rfl ⟨rfl, nd_X3_sizeOf⟩ ⟨Nat.le_of_ble_eq_true rfl, Nat.le_of_ble_eq_true rfl⟩) (cPre.V hPc hDc hK hE hS hFc (va_recv hK hP (ci := 3) (q0 := 0) rfl rfl)) rfl rfl hl.1 rfl (lv_room (Nat.le_of_ble_eq_true rfl)) dX3_cheaperWay_8 ⟨Nat.zero_le _, Nat.zero_le _⟩) hS hFc (fun r2 u2 H locs hw hP hD hS => ?_)
  obtain ⟨rfl, rfl⟩ := hw
  have hP : va_P D vwCl (cP dT a_this g_this) H := hP
  have hD : va_D A (cP dT a_this g_this) := hD
  refine lv_istore (lv' := [(5, .int o2.1), (3, .long o1.1), (0, .ref (a_this 0)), (1, .int v1), (2, .int v2)]) hx hb dX3_cheaperWay_11 hl (by decide) rfl (fun ls hl => ?_)
  refine lv_lload_n hx hb dX3_cheaperWay_13 rfl (lv_at hl 1 rfl) ?_
  refine lv_iload hx hb dX3_cheaperWay_14 (lv_at hl 0 rfl) ?_
  refine lv_i2l hx hb dX3_cheaperWay_16 rfl ?_
  refine lv_lmul hx hb dX3_cheaperWay_17 ?_
  refine lv_ldc2 (v := 3) hx hb hown (hqs _ w_794) dX3_cheaperWay_18 ?_
  refine lv_lload_n hx hb dX3_cheaperWay_21 rfl (lv_at hl 1 rfl) ?_
  refine lv_iload hx hb dX3_cheaperWay_22 (lv_at hl 0 rfl) ?_
  refine lv_i2l hx hb dX3_cheaperWay_24 rfl ?_
  refine lv_ladd hx hb dX3_cheaperWay_25 ?_
  refine lv_lmul hx hb dX3_cheaperWay_26 ?_
  refine W.lcmp hx hb dX3_cheaperWay_27 ?_
  refine lv_if_gt (tgt := 35) hx hb dX3_cheaperWay_28 (by decide) (fun c3 => ?_) (fun c3 => ?_)
  · replace h := iteT c3 h
    refine lv_iconst (v := 1) hx hb dX3_cheaperWay_35 (by decide) ?_
    exact rt_i hx hb hr hlk hK hS (() : Unit) (ret2 h) hP hD dX3_cheaperWay_36
  · replace h := iteF c3 h
    refine lv_iconst (v := 0) hx hb dX3_cheaperWay_31 (by decide) ?_
    refine lv_goto (tgt := 36) hx hb dX3_cheaperWay_32 (by decide) ?_
    exact rt_i hx hb hr hlk hK hS (() : Unit) (ret2 h) hP hD dX3_cheaperWay_36

def f_X3_stepCost_J43 (g_this : TP)  (x1 : Int32) (x2 : Int32) (s0 : Int64) : Option (Int64 × (Unit)) :=
    ((f_X3_rowsOf g_this (x1 ||| ((1 : Int32) <<< (x2 &&& 31)))).bind fun o5 => (if (lg_cmp (s0 + o5.1) (1000000000000000 : Int64)) ≤ (0 : Int32) then (some ((s0 + o5.1), ())) else (some ((1000000000000000 : Int64), ()))))
def f_X3_stepCost (g_this : TP) (v1 : Int32) (v2 : Int32) (v3 : Int32) : Option (Int64 × (Unit)) :=
  (if v1 = (0 : Int32) then (some ((0 : Int64), ())) else ((f_X3_rowsOf g_this v1).bind fun o2 => ((f_X3_sizeOf g_this v2).bind fun o3 => (if v3 = (0 : Int32) then (f_X3_stepCost_J43 g_this v1 v2 (o2.1 * (Int32.toInt64 o3.1))) else (f_X3_stepCost_J43 g_this v1 v2 ((3 : Int64) * (o2.1 + (Int32.toInt64 o3.1))))))))
set_option maxHeartbeats 8000000 in
set_option maxRecDepth 100000 in
theorem c_X3_stepCost (l : Launch) (hlt : l.stackTraces = false) (D : va_G) (dT : Nat → ClassId) (a_this : Nat → Nat) (g_this : TP) (v1 : Int32) (v2 : Int32) (v3 : Int32) (o : (Int64 × (Unit))) (h : f_X3_stepCost g_this v1 v2 v3 = some o) (sz : Nat) : Met l yX3_stepCost (WSm yX3_stepCost cX3_stepCost 9 (some .long)) { frames := 1, cells := 0, slots := 0, locals := 21 } (va_Pc [.ref (a_this 0), .int v1, .int v2, .int v3] (cPre D dT (cP dT a_this g_this) sz)) (va_Ql (fun (r : Int64) (u : Unit) => r = o.1 ∧ u = o.2) (fun u t => cAt D dT (va_A (cP dT a_this g_this) sz) (cP dT a_this g_this) t) (va_A (cP dT a_this g_this) sz)) 0 0 (va_A (cP dT a_this g_this) sz) := by
  refine mStart (WS := (cP dT a_this g_this)) (Qc := fun A => va_Ql (fun (r : Int64) (u : Unit) => r = o.1 ∧ u = o.2) (fun u t => cAt D dT A (cP dT a_this g_this) t) A) RX3 rfl (by decide) (Nat.le_of_ble_eq_true rfl) ?_ sz
  intro p e s m below meth c A ls hx hb hml hr hlk hnm hts hqs hown hE hA hK hP hD hS hl
  have hl : lv_has ls 9 [(0, .ref (a_this 0)), (1, .int v1), (2, .int v2), (3, .int v3)] := hl
  have L_f_X3_stepCost_J43 : ∀ (g_this : TP) (x1 : Int32) (x2 : Int32) (s0 : Int64)   (H : Heap) (locs : List Loc) (ls : Array Slot), f_X3_stepCost_J43 g_this  x1 x2 s0 = some o → va_P D vwCl (cP dT a_this g_this) H → va_D A (cP dT a_this g_this) → va_S A s.heap H locs → lv_has ls 9 [(0, .ref (a_this 0)), (1, .int x1), (2, .int x2)] → W p l e (headSpec (WSm yX3_stepCost cX3_stepCost 9 (some .long)) { frames := 1, cells := 0, slots := 0, locals := 21 }).room s m [.ref (a_this 0), .int v1, .int v2, .int v3].toArray below meth c H locs 0 0 (MQ below (va_Ql (fun (r : Int64) (u : Unit) => r = o.1 ∧ u = o.2) (fun u t => cAt D dT A (cP dT a_this g_this) t) A) [.ref (a_this 0), .int v1, .int v2, .int v3].toArray s 0 0 A) (F0 m 43 ls [.long s0]) := by
    intro g_this x1 x2 s0   H locs ls h hP hD hS hl
    unfold f_X3_stepCost_J43 at h
    refine lv_lstore (lv' := [(7, .long s0), (0, .ref (a_this 0)), (1, .int x1), (2, .int x2)]) hx hb dX3_stepCost_43 hl (by decide) rfl (fun ls hl => ?_)
    refine lv_lload hx hb dX3_stepCost_45 (lv_at hl 0 rfl) ?_
    refine lv_aload_n hx hb dX3_stepCost_47 rfl (lv_at hl 1 rfl) ?_
    refine lv_iload_n hx hb dX3_stepCost_48 rfl (lv_at hl 2 rfl) ?_
    refine lv_iconst (v := 1) hx hb dX3_stepCost_49 (by decide) ?_
    refine lv_iload_n hx hb dX3_stepCost_50 rfl (lv_at hl 3 rfl) ?_
    refine lv_ishl hx hb dX3_stepCost_51 ?_
    refine lv_ior hx hb dX3_stepCost_52 ?_
    obtain ⟨o5, e5, h⟩ := obind h
    have hPc := hP
    have hDc := hD
    have hFc := vfall hD hS hA
    refine cl_lA (va_runV (As := [.int (x1 ||| ((1 : Int32) <<< (x2 &&& 31)))]) (rest := [.long s0]) ⟨hx, hb, hml, hown, hts⟩ (c_X3_rowsOf l hlt D dT a_this g_this (x1 ||| ((1 : Int32) <<< (x2 &&& 31))) o5 e5 _) (cwV 1 hts (TB_V w_776 w_777 w_778 w_58 w_779) rfl rfl rfl ⟨rfl, nd_X3_rowsOf⟩ ⟨Nat.le_of_ble_eq_true rfl, Nat.le_of_ble_eq_true rfl⟩) (cPre.V hPc hDc hK hE hS hFc (va_recv hK hP (ci := 3) (q0 := 0) rfl rfl)) rfl rfl hl.1 rfl (lv_room (Nat.le_of_ble_eq_true rfl)) dX3_stepCost_53 ⟨Nat.zero_le _, Nat.zero_le _⟩) hS hFc (fun r5 u5 H locs hw hP hD hS => ?_)
    obtain ⟨rfl, rfl⟩ := hw
    have hP : va_P D vwCl (cP dT a_this g_this) H := hP
    have hD : va_D A (cP dT a_this g_this) := hD
    refine lv_ladd hx hb dX3_stepCost_56 ?_
    refine lv_lstore (lv' := [(7, .long (s0 + o5.1)), (0, .ref (a_this 0)), (1, .int x1), (2, .int x2)]) hx hb dX3_stepCost_57 hl (by decide) rfl (fun ls hl => ?_)
    refine lv_lload hx hb dX3_stepCost_59 (lv_at hl 0 rfl) ?_
    refine lv_ldc2 (v := 1000000000000000) hx hb hown (hqs _ w_799) dX3_stepCost_61 ?_
    refine W.lcmp hx hb dX3_stepCost_64 ?_
    refine lv_if_le (tgt := 74) hx hb dX3_stepCost_65 (by decide) (fun c6 => ?_) (fun c6 => ?_)
    · replace h := iteT c6 h
      refine lv_lload hx hb dX3_stepCost_74 (lv_at hl 0 rfl) ?_
      exact rt_l hx hb hr hlk hK hS (() : Unit) (ret2 h) hP hD dX3_stepCost_76
    · replace h := iteF c6 h
      refine lv_ldc2 (v := 1000000000000000) hx hb hown (hqs _ w_799) dX3_stepCost_68 ?_
      refine lv_goto (tgt := 76) hx hb dX3_stepCost_71 (by decide) ?_
      exact rt_l hx hb hr hlk hK hS (() : Unit) (ret2 h) hP hD dX3_stepCost_76
  unfold f_X3_stepCost at h
  refine lv_iload_n hx hb dX3_stepCost_0 rfl (lv_at hl 1 rfl) ?_
  refine lv_if_ne (tgt := 6) hx hb dX3_stepCost_1 (by decide) (fun c1 => ?_) (fun c1 => ?_)
  · replace h := iteF c1 h
    refine lv_aload_n hx hb dX3_stepCost_6 rfl (lv_at hl 0 rfl) ?_
    refine lv_iload_n hx hb dX3_stepCost_7 rfl (lv_at hl 1 rfl) ?_
    obtain ⟨o2, e2, h⟩ := obind h
    have hPc := hP
    have hDc := hD
    have hFc := vfall hD hS hA
    refine cl_lA (va_runV (As := [.int v1]) (rest := []) ⟨hx, hb, hml, hown, hts⟩ (c_X3_rowsOf l hlt D dT a_this g_this v1 o2 e2 _) (cwV 1 hts (TB_V w_776 w_777 w_778 w_58 w_779) rfl rfl rfl ⟨rfl, nd_X3_rowsOf⟩ ⟨Nat.le_of_ble_eq_true rfl, Nat.le_of_ble_eq_true rfl⟩) (cPre.V hPc hDc hK hE hS hFc (va_recv hK hP (ci := 3) (q0 := 0) rfl rfl)) rfl rfl hl.1 rfl (lv_room (Nat.le_of_ble_eq_true rfl)) dX3_stepCost_8 ⟨Nat.zero_le _, Nat.zero_le _⟩) hS hFc (fun r2 u2 H locs hw hP hD hS => ?_)
    obtain ⟨rfl, rfl⟩ := hw
    have hP : va_P D vwCl (cP dT a_this g_this) H := hP
    have hD : va_D A (cP dT a_this g_this) := hD
    refine lv_lstore (lv' := [(4, .long o2.1), (0, .ref (a_this 0)), (1, .int v1), (2, .int v2), (3, .int v3)]) hx hb dX3_stepCost_11 hl (by decide) rfl (fun ls hl => ?_)
    refine lv_aload_n hx hb dX3_stepCost_13 rfl (lv_at hl 1 rfl) ?_
    refine lv_iload_n hx hb dX3_stepCost_14 rfl (lv_at hl 3 rfl) ?_
    obtain ⟨o3, e3, h⟩ := obind h
    have hPc := hP
    have hDc := hD
    have hFc := vfall hD hS hA
    refine cl_iA (va_runV (As := [.int v2]) (rest := []) ⟨hx, hb, hml, hown, hts⟩ (c_X3_sizeOf l hlt D dT a_this g_this v2 o3 e3 _) (cwV 1 hts (TB_V w_780 w_782 w_17 w_58 w_783) rfl rfl rfl ⟨rfl, nd_X3_sizeOf⟩ ⟨Nat.le_of_ble_eq_true rfl, Nat.le_of_ble_eq_true rfl⟩) (cPre.V hPc hDc hK hE hS hFc (va_recv hK hP (ci := 3) (q0 := 0) rfl rfl)) rfl rfl hl.1 rfl (lv_room (Nat.le_of_ble_eq_true rfl)) dX3_stepCost_15 ⟨Nat.zero_le _, Nat.zero_le _⟩) hS hFc (fun r3 u3 H locs hw hP hD hS => ?_)
    obtain ⟨rfl, rfl⟩ := hw
    have hP : va_P D vwCl (cP dT a_this g_this) H := hP
    have hD : va_D A (cP dT a_this g_this) := hD
    refine lv_istore (lv' := [(6, .int o3.1), (4, .long o2.1), (0, .ref (a_this 0)), (1, .int v1), (2, .int v2), (3, .int v3)]) hx hb dX3_stepCost_18 hl (by decide) rfl (fun ls hl => ?_)
    refine lv_iload_n hx hb dX3_stepCost_20 rfl (lv_at hl 5 rfl) ?_
    refine lv_if_ne (tgt := 33) hx hb dX3_stepCost_21 (by decide) (fun c4 => ?_) (fun c4 => ?_)
    · replace h := iteF c4 h
      refine lv_ldc2 (v := 3) hx hb hown (hqs _ w_794) dX3_stepCost_33 ?_
      refine lv_lload hx hb dX3_stepCost_36 (lv_at hl 1 rfl) ?_
      refine lv_iload hx hb dX3_stepCost_38 (lv_at hl 0 rfl) ?_
      refine lv_i2l hx hb dX3_stepCost_40 rfl ?_
      refine lv_ladd hx hb dX3_stepCost_41 ?_
      refine lv_lmul hx hb dX3_stepCost_42 ?_
      refine L_f_X3_stepCost_J43 g_this v1 v2 ((3 : Int64) * (o2.1 + (Int32.toInt64 o3.1)))   _ _ _ h hP hD hS (lv_sub hl [2, 3, 4] rfl)
    · replace h := iteT c4 h
      refine lv_lload hx hb dX3_stepCost_24 (lv_at hl 1 rfl) ?_
      refine lv_iload hx hb dX3_stepCost_26 (lv_at hl 0 rfl) ?_
      refine lv_i2l hx hb dX3_stepCost_28 rfl ?_
      refine lv_lmul hx hb dX3_stepCost_29 ?_
      refine lv_goto (tgt := 43) hx hb dX3_stepCost_30 (by decide) ?_
      refine L_f_X3_stepCost_J43 g_this v1 v2 (o2.1 * (Int32.toInt64 o3.1))   _ _ _ h hP hD hS (lv_sub hl [2, 3, 4] rfl)
  · replace h := iteT c1 h
    refine lv_lconst (v := 0) hx hb dX3_stepCost_4 (by decide) ?_
    exact rt_l hx hb hr hlk hK hS (() : Unit) (ret2 h) hP hD dX3_stepCost_5

def f_X3_restOf (g_this : TP) (v1 : Int32) : Option (Int64 × (Unit)) :=
  (if v1 < (0 : Int32) then (some ((0 : Int64), ())) else (if (128 : Int32) ≤ v1 then (some ((0 : Int64), ())) else (if inb v1 128 = true then (some (((P_restOf g_this) v1.toNatClampNeg), ())) else none)))
set_option maxHeartbeats 8000000 in
set_option maxRecDepth 100000 in
theorem c_X3_restOf (l : Launch) (hlt : l.stackTraces = false) (D : va_G) (dT : Nat → ClassId) (a_this : Nat → Nat) (g_this : TP) (v1 : Int32) (o : (Int64 × (Unit))) (h : f_X3_restOf g_this v1 = some o) (sz : Nat) : Met l yX3_restOf (WSm yX3_restOf cX3_restOf 2 (some .long)) { frames := 0, cells := 0, slots := 0, locals := 0 } (va_Pc [.ref (a_this 0), .int v1] (cPre D dT (cP dT a_this g_this) sz)) (va_Ql (fun (r : Int64) (u : Unit) => r = o.1 ∧ u = o.2) (fun u t => cAt D dT (va_A (cP dT a_this g_this) sz) (cP dT a_this g_this) t) (va_A (cP dT a_this g_this) sz)) 0 0 (va_A (cP dT a_this g_this) sz) := by
  refine mStart (WS := (cP dT a_this g_this)) (Qc := fun A => va_Ql (fun (r : Int64) (u : Unit) => r = o.1 ∧ u = o.2) (fun u t => cAt D dT A (cP dT a_this g_this) t) A) RX3 rfl (by decide) (Nat.le_of_ble_eq_true rfl) ?_ sz
  intro p e s m below meth c A ls hx hb hml hr hlk hnm hts hqs hown hE hA hK hP hD hS hl
  have hl : lv_has ls 2 [(0, .ref (a_this 0)), (1, .int v1)] := hl
  unfold f_X3_restOf at h
  refine lv_iload_n hx hb dX3_restOf_0 rfl (lv_at hl 1 rfl) ?_
  refine lv_if_lt (tgt := 20) hx hb dX3_restOf_1 (by decide) (fun c1 => ?_) (fun c1 => ?_)
  · replace h := iteT c1 h
    refine lv_lconst (v := 0) hx hb dX3_restOf_20 (by decide) ?_
    exact rt_l hx hb hr hlk hK hS (() : Unit) (ret2 h) hP hD dX3_restOf_21
  · replace h := iteF c1 h
    refine lv_iload_n hx hb dX3_restOf_4 rfl (lv_at hl 1 rfl) ?_
    refine lv_sipush (v := 128) hx hb dX3_restOf_5 (by decide) ?_
    refine lv_icmp_ge (tgt := 20) hx hb dX3_restOf_8 (by decide) (fun c2 => ?_) (fun c2 => ?_)
    · replace h := iteT c2 h
      refine lv_lconst (v := 0) hx hb dX3_restOf_20 (by decide) ?_
      exact rt_l hx hb hr hlk hK hS (() : Unit) (ret2 h) hP hD dX3_restOf_21
    · replace h := iteF c2 h
      refine lv_aload_n hx hb dX3_restOf_11 rfl (lv_at hl 0 rfl) ?_
      refine gf_X3_22 (v := .ref (a_this 4)) hx hb hqs hown hK hP 0 rfl rfl dX3_restOf_12 ?_
      refine lv_iload_n hx hb dX3_restOf_15 rfl (lv_at hl 1 rfl) ?_
      obtain ⟨g3, h⟩ := chk h
      refine va_lald hx hb hK hP 4 1 rfl rfl (inb_in g3) dX3_restOf_16 ?_
      refine lv_goto (tgt := 21) hx hb dX3_restOf_17 (by decide) ?_
      exact rt_l hx hb hr hlk hK hS (() : Unit) (ret2 h) hP hD dX3_restOf_21

def f_X3_findNext_L8 (g_this : TP) (x1 : Int32) (k90 : Int64 → Int32 → Option (Unit × (TP))) : Nat → Int64 → Int32 → Int32 → Option (Unit × (TP))
  | 0, _, _, _ => none
  | n + 1, x2, x4, x5 =>
    (if (7 : Int32) ≤ x5 then (k90 x2 x4) else (if (x1 ||| ((1 : Int32) <<< (x5 &&& 31))) = x1 then (f_X3_findNext_L8 g_this x1 k90 n x2 x4 (x5 + (1 : Int32))) else (if ((x1 ||| ((1 : Int32) <<< (x5 &&& 31))) &&& (P_whole g_this)) = (x1 ||| ((1 : Int32) <<< (x5 &&& 31))) then ((f_X3_cheaperWay g_this x1 x5).bind fun o4 => ((f_X3_stepCost g_this x1 x5 o4.1).bind fun o5 => ((f_X3_restOf g_this (x1 ||| ((1 : Int32) <<< (x5 &&& 31)))).bind fun o6 => (if x4 = (-1 : Int32) then (f_X3_findNext_L8 g_this x1 k90 n (o5.1 + o6.1) x5 (x5 + (1 : Int32))) else (if (0 : Int32) ≤ (lg_cmp (o5.1 + o6.1) x2) then (f_X3_findNext_L8 g_this x1 k90 n x2 x4 (x5 + (1 : Int32))) else (f_X3_findNext_L8 g_this x1 k90 n (o5.1 + o6.1) x5 (x5 + (1 : Int32)))))))) else (f_X3_findNext_L8 g_this x1 k90 n x2 x4 (x5 + (1 : Int32))))))
def f_X3_findNext (g_this : TP) (v1 : Int32) : Option (Unit × (TP)) :=
  (f_X3_findNext_L8 g_this v1 (fun (y9x2 : Int64) (y9x4 : Int32) => (if v1 < (0 : Int32) then (some ((), g_this)) else (if (128 : Int32) ≤ v1 then (some ((), g_this)) else (if inb v1 128 = true then (if inb v1 128 = true then (some ((), (P_mk (P_sizes g_this) (P_shares g_this) (P_rowsOf g_this) (vp_updL (P_restOf g_this) v1.toNatClampNeg y9x2) (upd (P_nextOf g_this) v1.toNatClampNeg y9x4) (P_tableAt g_this) (P_wayAt g_this) (P_whole g_this) (P_count g_this)))) else none) else none)))) FUEL (0 : Int64) (-1 : Int32) (0 : Int32))
set_option maxHeartbeats 8000000 in
set_option maxRecDepth 100000 in
theorem c_X3_findNext (l : Launch) (hlt : l.stackTraces = false) (D : va_G) (dT : Nat → ClassId) (a_this : Nat → Nat) (g_this : TP) (v1 : Int32) (o : (Unit × (TP))) (h : f_X3_findNext g_this v1 = some o) (sz : Nat) : Met l yX3_findNext (WSm yX3_findNext cX3_findNext 9 none) { frames := 2, cells := 0, slots := 0, locals := 49 } (va_Pc [.ref (a_this 0), .int v1] (cPre D dT (cP dT a_this g_this) sz)) (va_Qv (fun (u : TP) => u = o.2) (fun u t => cAt D dT (va_A (cP dT a_this g_this) sz) (cP dT a_this u) t) (va_A (cP dT a_this g_this) sz)) 0 0 (va_A (cP dT a_this g_this) sz) := by
  refine mStart (WS := (cP dT a_this g_this)) (Qc := fun A => va_Qv (fun (u : TP) => u = o.2) (fun u t => cAt D dT A (cP dT a_this u) t) A) RX3 rfl (by decide) (Nat.le_of_ble_eq_true rfl) ?_ sz
  intro p e s m below meth c A ls hx hb hml hr hlk hnm hts hqs hown hE hA hK hP hD hS hl
  have hl : lv_has ls 9 [(0, .ref (a_this 0)), (1, .int v1)] := hl
  have L_f_X3_findNext_L8 : ∀ (g_this : TP) (x1 : Int32) (k90 : Int64 → Int32 → Option (Unit × (TP))) (hk90 : ∀ (x2 : Int64) (x4 : Int32) (H : Heap) (locs : List Loc) (ls : Array Slot), k90 x2 x4 = some o → va_P D vwCl (cP dT a_this g_this) H → va_D A (cP dT a_this g_this) → va_S A s.heap H locs → lv_has ls 9 [(0, .ref (a_this 0)), (1, .int x1), (2, .long x2), (4, .int x4)] → W p l e (headSpec (WSm yX3_findNext cX3_findNext 9 none) { frames := 2, cells := 0, slots := 0, locals := 49 }).room s m [.ref (a_this 0), .int v1].toArray below meth c H locs 0 0 (MQ below (va_Qv (fun (u : TP) => u = o.2) (fun u t => cAt D dT A (cP dT a_this u) t) A) [.ref (a_this 0), .int v1].toArray s 0 0 A) (F0 m 90 ls [])) (n : Nat), ∀ (x2 : Int64) (x4 : Int32) (x5 : Int32) (H : Heap) (locs : List Loc) (ls : Array Slot), f_X3_findNext_L8 g_this x1 k90 n x2 x4 x5 = some o → va_P D vwCl (cP dT a_this g_this) H → va_D A (cP dT a_this g_this) → va_S A s.heap H locs → lv_has ls 9 [(0, .ref (a_this 0)), (1, .int x1), (2, .long x2), (4, .int x4), (5, .int x5)] → W p l e (headSpec (WSm yX3_findNext cX3_findNext 9 none) { frames := 2, cells := 0, slots := 0, locals := 49 }).room s m [.ref (a_this 0), .int v1].toArray below meth c H locs 0 0 (MQ below (va_Qv (fun (u : TP) => u = o.2) (fun u t => cAt D dT A (cP dT a_this u) t) A) [.ref (a_this 0), .int v1].toArray s 0 0 A) (F0 m 8 ls []) := by
    intro g_this x1 k90 hk90 n
    induction n with
    | zero => intro x2 x4 x5 H locs ls h; exact nomatch h
    | succ n ih =>
      intro x2 x4 x5 H locs ls h hP hD hS hl
      unfold f_X3_findNext_L8 at h
      refine lv_iload hx hb dX3_findNext_8 (lv_at hl 4 rfl) ?_
      refine lv_bipush (v := 7) hx hb dX3_findNext_10 (by decide) ?_
      refine lv_icmp_ge (tgt := 90) hx hb dX3_findNext_12 (by decide) (fun c1 => ?_) (fun c1 => ?_)
      · replace h := iteT c1 h
        exact hk90 x2 x4 _ _ _ h hP hD hS (lv_sub hl [0, 1, 2, 3] rfl)
      · replace h := iteF c1 h
        refine lv_iload_n hx hb dX3_findNext_15 rfl (lv_at hl 1 rfl) ?_
        refine lv_iconst (v := 1) hx hb dX3_findNext_16 (by decide) ?_
        refine lv_iload hx hb dX3_findNext_17 (lv_at hl 4 rfl) ?_
        refine lv_ishl hx hb dX3_findNext_19 ?_
        refine lv_ior hx hb dX3_findNext_20 ?_
        refine lv_istore (lv' := [(6, .int (x1 ||| ((1 : Int32) <<< (x5 &&& 31)))), (0, .ref (a_this 0)), (1, .int x1), (2, .long x2), (4, .int x4), (5, .int x5)]) hx hb dX3_findNext_21 hl (by decide) rfl (fun ls hl => ?_)
        refine lv_iload hx hb dX3_findNext_23 (lv_at hl 0 rfl) ?_
        refine lv_iload_n hx hb dX3_findNext_25 rfl (lv_at hl 2 rfl) ?_
        refine lv_icmp_eq (tgt := 84) hx hb dX3_findNext_26 (by decide) (fun c2 => ?_) (fun c2 => ?_)
        · replace h := iteT c2 h
          refine lv_iinc (v := (x5 + (1 : Int32))) (lv' := [(5, .int (x5 + (1 : Int32))), (6, .int (x1 ||| ((1 : Int32) <<< (x5 &&& 31)))), (0, .ref (a_this 0)), (1, .int x1), (2, .long x2), (4, .int x4)]) hx hb dX3_findNext_84 hl (k := 5) rfl rfl (by decide) rfl (fun ls hl => ?_)
          refine lv_goto (tgt := 8) hx hb dX3_findNext_87 (by decide) ?_
          exact ih x2 x4 (x5 + (1 : Int32)) _ _ _ h hP hD hS (lv_sub hl [2, 3, 4, 5, 0] rfl)
        · replace h := iteF c2 h
          refine lv_iload hx hb dX3_findNext_29 (lv_at hl 0 rfl) ?_
          refine lv_aload_n hx hb dX3_findNext_31 rfl (lv_at hl 1 rfl) ?_
          refine gf_X3_34 (v := .int (P_whole g_this)) hx hb hqs hown hK hP 0 rfl rfl dX3_findNext_32 ?_
          refine lv_iand hx hb dX3_findNext_35 ?_
          refine lv_iload hx hb dX3_findNext_36 (lv_at hl 0 rfl) ?_
          refine lv_icmp_ne (tgt := 84) hx hb dX3_findNext_38 (by decide) (fun c3 => ?_) (fun c3 => ?_)
          · replace h := iteF c3 h
            refine lv_iinc (v := (x5 + (1 : Int32))) (lv' := [(5, .int (x5 + (1 : Int32))), (6, .int (x1 ||| ((1 : Int32) <<< (x5 &&& 31)))), (0, .ref (a_this 0)), (1, .int x1), (2, .long x2), (4, .int x4)]) hx hb dX3_findNext_84 hl (k := 5) rfl rfl (by decide) rfl (fun ls hl => ?_)
            refine lv_goto (tgt := 8) hx hb dX3_findNext_87 (by decide) ?_
            exact ih x2 x4 (x5 + (1 : Int32)) _ _ _ h hP hD hS (lv_sub hl [2, 3, 4, 5, 0] rfl)
          · replace h := iteT c3 h
            refine lv_aload_n hx hb dX3_findNext_41 rfl (lv_at hl 1 rfl) ?_
            refine lv_iload_n hx hb dX3_findNext_42 rfl (lv_at hl 2 rfl) ?_
            refine lv_iload hx hb dX3_findNext_43 (lv_at hl 5 rfl) ?_
            refine lv_aload_n hx hb dX3_findNext_45 rfl (lv_at hl 1 rfl) ?_
            refine lv_iload_n hx hb dX3_findNext_46 rfl (lv_at hl 2 rfl) ?_
            refine lv_iload hx hb dX3_findNext_47 (lv_at hl 5 rfl) ?_
            obtain ⟨o4, e4, h⟩ := obind h
            have hPc := hP
            have hDc := hD
            have hFc := vfall hD hS hA
            refine cl_iA (va_runV (As := [.int x1, .int x5]) (rest := [.int x5, .int x1, .ref (a_this 0)]) ⟨hx, hb, hml, hown, hts⟩ (c_X3_cheaperWay l hlt D dT a_this g_this x1 x5 o4 e4 _) (cwV 2 hts (TB_V w_790 w_792 w_19 w_58 w_793) rfl rfl rfl ⟨rfl, nd_X3_cheaperWay⟩ ⟨Nat.le_of_ble_eq_true rfl, Nat.le_of_ble_eq_true rfl⟩) (cPre.V hPc hDc hK hE hS hFc (va_recv hK hP (ci := 3) (q0 := 0) rfl rfl)) rfl rfl hl.1 rfl (lv_room (Nat.le_of_ble_eq_true rfl)) dX3_findNext_49 ⟨Nat.zero_le _, Nat.zero_le _⟩) hS hFc (fun r4 u4 H locs hw hP hD hS => ?_)
            obtain ⟨rfl, rfl⟩ := hw
            have hP : va_P D vwCl (cP dT a_this g_this) H := hP
            have hD : va_D A (cP dT a_this g_this) := hD
            obtain ⟨o5, e5, h⟩ := obind h
            have hPc := hP
            have hDc := hD
            have hFc := vfall hD hS hA
            refine cl_lA (va_runV (As := [.int x1, .int x5, .int o4.1]) (rest := []) ⟨hx, hb, hml, hown, hts⟩ (c_X3_stepCost l hlt D dT a_this g_this x1 x5 o4.1 o5 e5 _) (cwV 3 hts (TB_V w_795 w_797 w_20 w_58 w_798) rfl rfl rfl ⟨rfl, nd_X3_stepCost⟩ ⟨Nat.le_of_ble_eq_true rfl, Nat.le_of_ble_eq_true rfl⟩) (cPre.V hPc hDc hK hE hS hFc (va_recv hK hP (ci := 3) (q0 := 0) rfl rfl)) rfl rfl hl.1 rfl (lv_room (Nat.le_of_ble_eq_true rfl)) dX3_findNext_52 ⟨Nat.zero_le _, Nat.zero_le _⟩) hS hFc (fun r5 u5 H locs hw hP hD hS => ?_)
            obtain ⟨rfl, rfl⟩ := hw
            have hP : va_P D vwCl (cP dT a_this g_this) H := hP
            have hD : va_D A (cP dT a_this g_this) := hD
            refine lv_aload_n hx hb dX3_findNext_55 rfl (lv_at hl 1 rfl) ?_
            refine lv_iload hx hb dX3_findNext_56 (lv_at hl 0 rfl) ?_
            obtain ⟨o6, e6, h⟩ := obind h
            have hPc := hP
            have hDc := hD
            have hFc := vfall hD hS hA
            refine cl_lA (va_runV (As := [.int (x1 ||| ((1 : Int32) <<< (x5 &&& 31)))]) (rest := [.long o5.1]) ⟨hx, hb, hml, hown, hts⟩ (c_X3_restOf l hlt D dT a_this g_this (x1 ||| ((1 : Int32) <<< (x5 &&& 31))) o6 e6 _) (cwV 1 hts (TB_V w_800 w_802 w_21 w_58 w_803) rfl rfl rfl ⟨rfl, nd_X3_restOf⟩ ⟨Nat.le_of_ble_eq_true rfl, Nat.le_of_ble_eq_true rfl⟩) (cPre.V hPc hDc hK hE hS hFc (va_recv hK hP (ci := 3) (q0 := 0) rfl rfl)) rfl rfl hl.1 rfl (lv_room (Nat.le_of_ble_eq_true rfl)) dX3_findNext_58 ⟨Nat.zero_le _, Nat.zero_le _⟩) hS hFc (fun r6 u6 H locs hw hP hD hS => ?_)
            obtain ⟨rfl, rfl⟩ := hw
            have hP : va_P D vwCl (cP dT a_this g_this) H := hP
            have hD : va_D A (cP dT a_this g_this) := hD
            refine lv_ladd hx hb dX3_findNext_61 ?_
            refine lv_lstore (lv' := [(7, .long (o5.1 + o6.1)), (6, .int (x1 ||| ((1 : Int32) <<< (x5 &&& 31)))), (0, .ref (a_this 0)), (1, .int x1), (2, .long x2), (4, .int x4), (5, .int x5)]) hx hb dX3_findNext_62 hl (by decide) rfl (fun ls hl => ?_)
            refine lv_iload hx hb dX3_findNext_64 (lv_at hl 5 rfl) ?_
            refine lv_iconst (v := -1) hx hb dX3_findNext_66 (by decide) ?_
            refine lv_icmp_eq (tgt := 77) hx hb dX3_findNext_67 (by decide) (fun c7 => ?_) (fun c7 => ?_)
            · replace h := iteT c7 h
              refine lv_lload hx hb dX3_findNext_77 (lv_at hl 0 rfl) ?_
              refine lv_lstore_n (lv' := [(2, .long (o5.1 + o6.1)), (7, .long (o5.1 + o6.1)), (6, .int (x1 ||| ((1 : Int32) <<< (x5 &&& 31)))), (0, .ref (a_this 0)), (1, .int x1), (4, .int x4), (5, .int x5)]) hx hb dX3_findNext_79 rfl hl (by decide) rfl (fun ls hl => ?_)
              refine lv_iload hx hb dX3_findNext_80 (lv_at hl 6 rfl) ?_
              refine lv_istore (lv' := [(4, .int x5), (2, .long (o5.1 + o6.1)), (7, .long (o5.1 + o6.1)), (6, .int (x1 ||| ((1 : Int32) <<< (x5 &&& 31)))), (0, .ref (a_this 0)), (1, .int x1), (5, .int x5)]) hx hb dX3_findNext_82 hl (by decide) rfl (fun ls hl => ?_)
              refine lv_iinc (v := (x5 + (1 : Int32))) (lv' := [(5, .int (x5 + (1 : Int32))), (4, .int x5), (2, .long (o5.1 + o6.1)), (7, .long (o5.1 + o6.1)), (6, .int (x1 ||| ((1 : Int32) <<< (x5 &&& 31)))), (0, .ref (a_this 0)), (1, .int x1)]) hx hb dX3_findNext_84 hl (k := 6) rfl rfl (by decide) rfl (fun ls hl => ?_)
              refine lv_goto (tgt := 8) hx hb dX3_findNext_87 (by decide) ?_
              exact ih (o5.1 + o6.1) x5 (x5 + (1 : Int32)) _ _ _ h hP hD hS (lv_sub hl [5, 6, 2, 1, 0] rfl)
            · replace h := iteF c7 h
              refine lv_lload hx hb dX3_findNext_70 (lv_at hl 0 rfl) ?_
              refine lv_lload_n hx hb dX3_findNext_72 rfl (lv_at hl 4 rfl) ?_
              refine W.lcmp hx hb dX3_findNext_73 ?_
              refine lv_if_ge (tgt := 84) hx hb dX3_findNext_74 (by decide) (fun c8 => ?_) (fun c8 => ?_)
              · replace h := iteT c8 h
                refine lv_iinc (v := (x5 + (1 : Int32))) (lv' := [(5, .int (x5 + (1 : Int32))), (7, .long (o5.1 + o6.1)), (6, .int (x1 ||| ((1 : Int32) <<< (x5 &&& 31)))), (0, .ref (a_this 0)), (1, .int x1), (2, .long x2), (4, .int x4)]) hx hb dX3_findNext_84 hl (k := 6) rfl rfl (by decide) rfl (fun ls hl => ?_)
                refine lv_goto (tgt := 8) hx hb dX3_findNext_87 (by decide) ?_
                exact ih x2 x4 (x5 + (1 : Int32)) _ _ _ h hP hD hS (lv_sub hl [3, 4, 5, 6, 0] rfl)
              · replace h := iteF c8 h
                refine lv_lload hx hb dX3_findNext_77 (lv_at hl 0 rfl) ?_
                refine lv_lstore_n (lv' := [(2, .long (o5.1 + o6.1)), (7, .long (o5.1 + o6.1)), (6, .int (x1 ||| ((1 : Int32) <<< (x5 &&& 31)))), (0, .ref (a_this 0)), (1, .int x1), (4, .int x4), (5, .int x5)]) hx hb dX3_findNext_79 rfl hl (by decide) rfl (fun ls hl => ?_)
                refine lv_iload hx hb dX3_findNext_80 (lv_at hl 6 rfl) ?_
                refine lv_istore (lv' := [(4, .int x5), (2, .long (o5.1 + o6.1)), (7, .long (o5.1 + o6.1)), (6, .int (x1 ||| ((1 : Int32) <<< (x5 &&& 31)))), (0, .ref (a_this 0)), (1, .int x1), (5, .int x5)]) hx hb dX3_findNext_82 hl (by decide) rfl (fun ls hl => ?_)
                refine lv_iinc (v := (x5 + (1 : Int32))) (lv' := [(5, .int (x5 + (1 : Int32))), (4, .int x5), (2, .long (o5.1 + o6.1)), (7, .long (o5.1 + o6.1)), (6, .int (x1 ||| ((1 : Int32) <<< (x5 &&& 31)))), (0, .ref (a_this 0)), (1, .int x1)]) hx hb dX3_findNext_84 hl (k := 6) rfl rfl (by decide) rfl (fun ls hl => ?_)
                refine lv_goto (tgt := 8) hx hb dX3_findNext_87 (by decide) ?_
                exact ih (o5.1 + o6.1) x5 (x5 + (1 : Int32)) _ _ _ h hP hD hS (lv_sub hl [5, 6, 2, 1, 0] rfl)
  unfold f_X3_findNext at h
  refine lv_lconst (v := 0) hx hb dX3_findNext_0 (by decide) ?_
  refine lv_lstore_n (lv' := [(2, .long (0 : Int64)), (0, .ref (a_this 0)), (1, .int v1)]) hx hb dX3_findNext_1 rfl hl (by decide) rfl (fun ls hl => ?_)
  refine lv_iconst (v := -1) hx hb dX3_findNext_2 (by decide) ?_
  refine lv_istore (lv' := [(4, .int (-1 : Int32)), (2, .long (0 : Int64)), (0, .ref (a_this 0)), (1, .int v1)]) hx hb dX3_findNext_3 hl (by decide) rfl (fun ls hl => ?_)
  refine lv_iconst (v := 0) hx hb dX3_findNext_5 (by decide) ?_
  refine lv_istore (lv' := [(5, .int (0 : Int32)), (4, .int (-1 : Int32)), (2, .long (0 : Int64)), (0, .ref (a_this 0)), (1, .int v1)]) hx hb dX3_findNext_6 hl (by decide) rfl (fun ls hl => ?_)
  refine L_f_X3_findNext_L8 g_this v1 _ ?_ FUEL (0 : Int64) (-1 : Int32) (0 : Int32) _ _ _ h hP hD hS (lv_sub hl [3, 4, 2, 1, 0] rfl)
  · intro y9x2 y9x4 H locs ls h hP hD hS hl
    refine lv_iload_n hx hb dX3_findNext_90 rfl (lv_at hl 1 rfl) ?_
    refine lv_if_lt (tgt := 116) hx hb dX3_findNext_91 (by decide) (fun c10 => ?_) (fun c10 => ?_)
    · replace h := iteT c10 h
      exact rt_v hx hb hr hlk hK hS (g_this : TP) (retv h) hP hD dX3_findNext_116
    · replace h := iteF c10 h
      refine lv_iload_n hx hb dX3_findNext_94 rfl (lv_at hl 1 rfl) ?_
      refine lv_sipush (v := 128) hx hb dX3_findNext_95 (by decide) ?_
      refine lv_icmp_ge (tgt := 116) hx hb dX3_findNext_98 (by decide) (fun c11 => ?_) (fun c11 => ?_)
      · replace h := iteT c11 h
        exact rt_v hx hb hr hlk hK hS (g_this : TP) (retv h) hP hD dX3_findNext_116
      · replace h := iteF c11 h
        refine lv_aload_n hx hb dX3_findNext_101 rfl (lv_at hl 0 rfl) ?_
        refine gf_X3_22 (v := .ref (a_this 4)) hx hb hqs hown hK hP 0 rfl rfl dX3_findNext_102 ?_
        refine lv_iload_n hx hb dX3_findNext_105 rfl (lv_at hl 1 rfl) ?_
        refine lv_lload_n hx hb dX3_findNext_106 rfl (lv_at hl 2 rfl) ?_
        obtain ⟨g12, h⟩ := chk h
        refine va_last hx hb hK hP hD hS 4 1 rfl rfl (inb_in g12) dX3_findNext_107 (fun H locs hP hD hS => ?_)
        have hP : va_P D vwCl ([(a_this 0, .inr (3, [.ref (a_this 1), .ref (a_this 2), .ref (a_this 3), .ref (a_this 4), .ref (a_this 5), .ref (a_this 6), .ref (a_this 7), .int (P_whole g_this), .int (P_count g_this)])), (a_this 1, .inl (dT 0, 7, .inl (P_sizes g_this))), (a_this 2, .inl (dT 0, 21, .inl (P_shares g_this))), (a_this 3, .inl (dT 1, 128, .inr (.inl (P_rowsOf g_this)))), (a_this 4, .inl (dT 1, 128, .inr (.inl (vp_updL (P_restOf g_this) v1.toNatClampNeg y9x2)))), (a_this 5, .inl (dT 0, 128, .inl (P_nextOf g_this))), (a_this 6, .inl (dT 0, 7, .inl (P_tableAt g_this))), (a_this 7, .inl (dT 0, 7, .inl (P_wayAt g_this)))]) H := hP
        have hD : va_D A ([(a_this 0, .inr (3, [.ref (a_this 1), .ref (a_this 2), .ref (a_this 3), .ref (a_this 4), .ref (a_this 5), .ref (a_this 6), .ref (a_this 7), .int (P_whole g_this), .int (P_count g_this)])), (a_this 1, .inl (dT 0, 7, .inl (P_sizes g_this))), (a_this 2, .inl (dT 0, 21, .inl (P_shares g_this))), (a_this 3, .inl (dT 1, 128, .inr (.inl (P_rowsOf g_this)))), (a_this 4, .inl (dT 1, 128, .inr (.inl (vp_updL (P_restOf g_this) v1.toNatClampNeg y9x2)))), (a_this 5, .inl (dT 0, 128, .inl (P_nextOf g_this))), (a_this 6, .inl (dT 0, 7, .inl (P_tableAt g_this))), (a_this 7, .inl (dT 0, 7, .inl (P_wayAt g_this)))]) := hD
        refine lv_aload_n hx hb dX3_findNext_108 rfl (lv_at hl 0 rfl) ?_
        refine gf_X3_25 (v := .ref (a_this 5)) hx hb hqs hown hK hP 0 rfl rfl dX3_findNext_109 ?_
        refine lv_iload_n hx hb dX3_findNext_112 rfl (lv_at hl 1 rfl) ?_
        refine lv_iload hx hb dX3_findNext_113 (lv_at hl 3 rfl) ?_
        obtain ⟨g13, h⟩ := chk h
        refine va_iast hx hb hK hP hD hS 5 0 rfl rfl (inb_in g13) dX3_findNext_115 (fun H locs hP hD hS => ?_)
        have hP : va_P D vwCl ([(a_this 0, .inr (3, [.ref (a_this 1), .ref (a_this 2), .ref (a_this 3), .ref (a_this 4), .ref (a_this 5), .ref (a_this 6), .ref (a_this 7), .int (P_whole g_this), .int (P_count g_this)])), (a_this 1, .inl (dT 0, 7, .inl (P_sizes g_this))), (a_this 2, .inl (dT 0, 21, .inl (P_shares g_this))), (a_this 3, .inl (dT 1, 128, .inr (.inl (P_rowsOf g_this)))), (a_this 4, .inl (dT 1, 128, .inr (.inl (vp_updL (P_restOf g_this) v1.toNatClampNeg y9x2)))), (a_this 5, .inl (dT 0, 128, .inl (upd (P_nextOf g_this) v1.toNatClampNeg y9x4))), (a_this 6, .inl (dT 0, 7, .inl (P_tableAt g_this))), (a_this 7, .inl (dT 0, 7, .inl (P_wayAt g_this)))]) H := hP
        have hD : va_D A ([(a_this 0, .inr (3, [.ref (a_this 1), .ref (a_this 2), .ref (a_this 3), .ref (a_this 4), .ref (a_this 5), .ref (a_this 6), .ref (a_this 7), .int (P_whole g_this), .int (P_count g_this)])), (a_this 1, .inl (dT 0, 7, .inl (P_sizes g_this))), (a_this 2, .inl (dT 0, 21, .inl (P_shares g_this))), (a_this 3, .inl (dT 1, 128, .inr (.inl (P_rowsOf g_this)))), (a_this 4, .inl (dT 1, 128, .inr (.inl (vp_updL (P_restOf g_this) v1.toNatClampNeg y9x2)))), (a_this 5, .inl (dT 0, 128, .inl (upd (P_nextOf g_this) v1.toNatClampNeg y9x4))), (a_this 6, .inl (dT 0, 7, .inl (P_tableAt g_this))), (a_this 7, .inl (dT 0, 7, .inl (P_wayAt g_this)))]) := hD
        exact rt_v hx hb hr hlk hK hS ((P_mk (P_sizes g_this) (P_shares g_this) (P_rowsOf g_this) (vp_updL (P_restOf g_this) v1.toNatClampNeg y9x2) (upd (P_nextOf g_this) v1.toNatClampNeg y9x4) (P_tableAt g_this) (P_wayAt g_this) (P_whole g_this) (P_count g_this)) : TP) (retv h) hP hD dX3_findNext_116

def f_X3_followNext_J30  (k4 : Int32 → Int32 → TP → Option (Unit × (TP))) (x1 : Int32) (x2 : Int32) (s0 : Int32) (g_this : TP) : Option (Unit × (TP)) :=
    (if s0 < (0 : Int32) then (some ((), g_this)) else (if s0 < (7 : Int32) then (if inb x2 7 = true then ((f_X3_cheaperWay (P_mk (P_sizes g_this) (P_shares g_this) (P_rowsOf g_this) (P_restOf g_this) (P_nextOf g_this) (upd (P_tableAt g_this) x2.toNatClampNeg s0) (P_wayAt g_this) (P_whole g_this) (P_count g_this)) x1 s0).bind fun o7 => (if inb x2 7 = true then (k4 (x1 ||| ((1 : Int32) <<< (s0 &&& 31))) (x2 + (1 : Int32)) (P_mk (P_sizes g_this) (P_shares g_this) (P_rowsOf g_this) (P_restOf g_this) (P_nextOf g_this) (upd (P_tableAt g_this) x2.toNatClampNeg s0) (upd (P_wayAt g_this) x2.toNatClampNeg o7.1) (P_whole g_this) (x2 + (1 : Int32)))) else none)) else none) else (some ((), g_this))))
def f_X3_followNext_L4   : Nat → Int32 → Int32 → TP → Option (Unit × (TP))
  | 0, _, _, _ => none
  | n + 1, x1, x2, g_this =>
    (if (7 : Int32) ≤ x2 then (some ((), g_this)) else ((f_X8_isIn x1 (0 : Int32) (127 : Int32)).bind fun o2 => (if o2.1 = (0 : Int32) then (f_X3_followNext_J30 (fun x1 x2 g_this => f_X3_followNext_L4 n x1 x2 g_this) x1 x2 (-1 : Int32) g_this) else (if inb x1 128 = true then (f_X3_followNext_J30 (fun x1 x2 g_this => f_X3_followNext_L4 n x1 x2 g_this) x1 x2 ((P_nextOf g_this) x1.toNatClampNeg) g_this) else none))))
def f_X3_followNext (g_this : TP) : Option (Unit × (TP)) :=
  (f_X3_followNext_L4 FUEL (0 : Int32) (0 : Int32) g_this)
set_option maxHeartbeats 8000000 in
set_option maxRecDepth 100000 in
theorem c_X3_followNext (l : Launch) (hlt : l.stackTraces = false) (D : va_G) (dT : Nat → ClassId) (a_this : Nat → Nat) (g_this : TP) (o : (Unit × (TP))) (h : f_X3_followNext g_this = some o) (sz : Nat) : Met l yX3_followNext (WSm yX3_followNext cX3_followNext 4 none) { frames := 2, cells := 0, slots := 0, locals := 46 } (va_Pc [.ref (a_this 0)] (cPre D dT (cP dT a_this g_this) sz)) (va_Qv (fun (u : TP) => u = o.2) (fun u t => cAt D dT (va_A (cP dT a_this g_this) sz) (cP dT a_this u) t) (va_A (cP dT a_this g_this) sz)) 0 0 (va_A (cP dT a_this g_this) sz) := by
  refine mStart (WS := (cP dT a_this g_this)) (Qc := fun A => va_Qv (fun (u : TP) => u = o.2) (fun u t => cAt D dT A (cP dT a_this u) t) A) RX3 rfl (by decide) (Nat.le_of_ble_eq_true rfl) ?_ sz
  intro p e s m below meth c A ls hx hb hml hr hlk hnm hts hqs hown hE hA hK hP hD hS hl
  have hl : lv_has ls 4 [(0, .ref (a_this 0))] := hl
  have L_f_X3_followNext_J30 : ∀  (x1 : Int32) (x2 : Int32) (s0 : Int32) (g_this : TP) (k4 : Int32 → Int32 → TP → Option (Unit × (TP))) (hk4 : ∀ (x1 : Int32) (x2 : Int32) (g_this : TP) (H : Heap) (locs : List Loc) (ls : Array Slot), k4 x1 x2 g_this = some o → va_P D vwCl (cP dT a_this g_this) H → va_D A (cP dT a_this g_this) → va_S A s.heap H locs → lv_has ls 4 [(0, .ref (a_this 0)), (1, .int x1), (2, .int x2)] → W p l e (headSpec (WSm yX3_followNext cX3_followNext 4 none) { frames := 2, cells := 0, slots := 0, locals := 46 }).room s m [.ref (a_this 0)].toArray below meth c H locs 0 0 (MQ below (va_Qv (fun (u : TP) => u = o.2) (fun u t => cAt D dT A (cP dT a_this u) t) A) [.ref (a_this 0)].toArray s 0 0 A) (F0 m 4 ls [])) (H : Heap) (locs : List Loc) (ls : Array Slot), f_X3_followNext_J30  k4 x1 x2 s0 g_this = some o → va_P D vwCl (cP dT a_this g_this) H → va_D A (cP dT a_this g_this) → va_S A s.heap H locs → lv_has ls 4 [(0, .ref (a_this 0)), (1, .int x1), (2, .int x2)] → W p l e (headSpec (WSm yX3_followNext cX3_followNext 4 none) { frames := 2, cells := 0, slots := 0, locals := 46 }).room s m [.ref (a_this 0)].toArray below meth c H locs 0 0 (MQ below (va_Qv (fun (u : TP) => u = o.2) (fun u t => cAt D dT A (cP dT a_this u) t) A) [.ref (a_this 0)].toArray s 0 0 A) (F0 m 30 ls [.int s0]) := by
    intro  x1 x2 s0 g_this k4 hk4 H locs ls h hP hD hS hl
    unfold f_X3_followNext_J30 at h
    refine lv_istore_n (lv' := [(3, .int s0), (0, .ref (a_this 0)), (1, .int x1), (2, .int x2)]) hx hb dX3_followNext_30 rfl hl (by decide) rfl (fun ls hl => ?_)
    refine lv_iload_n hx hb dX3_followNext_31 rfl (lv_at hl 0 rfl) ?_
    refine lv_if_lt (tgt := 41) hx hb dX3_followNext_32 (by decide) (fun c4 => ?_) (fun c4 => ?_)
    · replace h := iteT c4 h
      exact rt_v hx hb hr hlk hK hS (g_this : TP) (retv h) hP hD dX3_followNext_41
    · replace h := iteF c4 h
      refine lv_iload_n hx hb dX3_followNext_35 rfl (lv_at hl 0 rfl) ?_
      refine lv_bipush (v := 7) hx hb dX3_followNext_36 (by decide) ?_
      refine lv_icmp_lt (tgt := 42) hx hb dX3_followNext_38 (by decide) (fun c5 => ?_) (fun c5 => ?_)
      · replace h := iteT c5 h
        refine lv_aload_n hx hb dX3_followNext_42 rfl (lv_at hl 1 rfl) ?_
        refine gf_X3_28 (v := .ref (a_this 6)) hx hb hqs hown hK hP 0 rfl rfl dX3_followNext_43 ?_
        refine lv_iload_n hx hb dX3_followNext_46 rfl (lv_at hl 3 rfl) ?_
        refine lv_iload_n hx hb dX3_followNext_47 rfl (lv_at hl 0 rfl) ?_
        obtain ⟨g6, h⟩ := chk h
        refine va_iast hx hb hK hP hD hS 6 0 rfl rfl (inb_in g6) dX3_followNext_48 (fun H locs hP hD hS => ?_)
        have hP : va_P D vwCl ([(a_this 0, .inr (3, [.ref (a_this 1), .ref (a_this 2), .ref (a_this 3), .ref (a_this 4), .ref (a_this 5), .ref (a_this 6), .ref (a_this 7), .int (P_whole g_this), .int (P_count g_this)])), (a_this 1, .inl (dT 0, 7, .inl (P_sizes g_this))), (a_this 2, .inl (dT 0, 21, .inl (P_shares g_this))), (a_this 3, .inl (dT 1, 128, .inr (.inl (P_rowsOf g_this)))), (a_this 4, .inl (dT 1, 128, .inr (.inl (P_restOf g_this)))), (a_this 5, .inl (dT 0, 128, .inl (P_nextOf g_this))), (a_this 6, .inl (dT 0, 7, .inl (upd (P_tableAt g_this) x2.toNatClampNeg s0))), (a_this 7, .inl (dT 0, 7, .inl (P_wayAt g_this)))]) H := hP
        have hD : va_D A ([(a_this 0, .inr (3, [.ref (a_this 1), .ref (a_this 2), .ref (a_this 3), .ref (a_this 4), .ref (a_this 5), .ref (a_this 6), .ref (a_this 7), .int (P_whole g_this), .int (P_count g_this)])), (a_this 1, .inl (dT 0, 7, .inl (P_sizes g_this))), (a_this 2, .inl (dT 0, 21, .inl (P_shares g_this))), (a_this 3, .inl (dT 1, 128, .inr (.inl (P_rowsOf g_this)))), (a_this 4, .inl (dT 1, 128, .inr (.inl (P_restOf g_this)))), (a_this 5, .inl (dT 0, 128, .inl (P_nextOf g_this))), (a_this 6, .inl (dT 0, 7, .inl (upd (P_tableAt g_this) x2.toNatClampNeg s0))), (a_this 7, .inl (dT 0, 7, .inl (P_wayAt g_this)))]) := hD
        refine lv_aload_n hx hb dX3_followNext_49 rfl (lv_at hl 1 rfl) ?_
        refine gf_X3_31 (v := .ref (a_this 7)) hx hb hqs hown hK hP 0 rfl rfl dX3_followNext_50 ?_
        refine lv_iload_n hx hb dX3_followNext_53 rfl (lv_at hl 3 rfl) ?_
        refine lv_aload_n hx hb dX3_followNext_54 rfl (lv_at hl 1 rfl) ?_
        refine lv_iload_n hx hb dX3_followNext_55 rfl (lv_at hl 2 rfl) ?_
        refine lv_iload_n hx hb dX3_followNext_56 rfl (lv_at hl 0 rfl) ?_
        obtain ⟨o7, e7, h⟩ := obind h
        have hPc := hP
        have hDc := hD
        have hFc := vfall hD hS hA
        refine cl_iA (va_runV (As := [.int x1, .int s0]) (rest := [.int x2, .ref (a_this 7)]) ⟨hx, hb, hml, hown, hts⟩ (c_X3_cheaperWay l hlt D dT a_this (P_mk (P_sizes g_this) (P_shares g_this) (P_rowsOf g_this) (P_restOf g_this) (P_nextOf g_this) (upd (P_tableAt g_this) x2.toNatClampNeg s0) (P_wayAt g_this) (P_whole g_this) (P_count g_this)) x1 s0 o7 e7 _) (cwV 2 hts (TB_V w_790 w_792 w_19 w_58 w_793) rfl rfl rfl ⟨rfl, nd_X3_cheaperWay⟩ ⟨Nat.le_of_ble_eq_true rfl, Nat.le_of_ble_eq_true rfl⟩) (cPre.V hPc hDc hK hE hS hFc (va_recv hK hP (ci := 3) (q0 := 0) rfl rfl)) rfl rfl hl.1 rfl (lv_room (Nat.le_of_ble_eq_true rfl)) dX3_followNext_57 ⟨Nat.zero_le _, Nat.zero_le _⟩) hS hFc (fun r7 u7 H locs hw hP hD hS => ?_)
        obtain ⟨rfl, rfl⟩ := hw
        have hP : va_P D vwCl ([(a_this 0, .inr (3, [.ref (a_this 1), .ref (a_this 2), .ref (a_this 3), .ref (a_this 4), .ref (a_this 5), .ref (a_this 6), .ref (a_this 7), .int (P_whole g_this), .int (P_count g_this)])), (a_this 1, .inl (dT 0, 7, .inl (P_sizes g_this))), (a_this 2, .inl (dT 0, 21, .inl (P_shares g_this))), (a_this 3, .inl (dT 1, 128, .inr (.inl (P_rowsOf g_this)))), (a_this 4, .inl (dT 1, 128, .inr (.inl (P_restOf g_this)))), (a_this 5, .inl (dT 0, 128, .inl (P_nextOf g_this))), (a_this 6, .inl (dT 0, 7, .inl (upd (P_tableAt g_this) x2.toNatClampNeg s0))), (a_this 7, .inl (dT 0, 7, .inl (P_wayAt g_this)))]) H := hP
        have hD : va_D A ([(a_this 0, .inr (3, [.ref (a_this 1), .ref (a_this 2), .ref (a_this 3), .ref (a_this 4), .ref (a_this 5), .ref (a_this 6), .ref (a_this 7), .int (P_whole g_this), .int (P_count g_this)])), (a_this 1, .inl (dT 0, 7, .inl (P_sizes g_this))), (a_this 2, .inl (dT 0, 21, .inl (P_shares g_this))), (a_this 3, .inl (dT 1, 128, .inr (.inl (P_rowsOf g_this)))), (a_this 4, .inl (dT 1, 128, .inr (.inl (P_restOf g_this)))), (a_this 5, .inl (dT 0, 128, .inl (P_nextOf g_this))), (a_this 6, .inl (dT 0, 7, .inl (upd (P_tableAt g_this) x2.toNatClampNeg s0))), (a_this 7, .inl (dT 0, 7, .inl (P_wayAt g_this)))]) := hD
        obtain ⟨g8, h⟩ := chk h
        refine va_iast hx hb hK hP hD hS 7 0 rfl rfl (inb_in g8) dX3_followNext_60 (fun H locs hP hD hS => ?_)
        have hP : va_P D vwCl ([(a_this 0, .inr (3, [.ref (a_this 1), .ref (a_this 2), .ref (a_this 3), .ref (a_this 4), .ref (a_this 5), .ref (a_this 6), .ref (a_this 7), .int (P_whole g_this), .int (P_count g_this)])), (a_this 1, .inl (dT 0, 7, .inl (P_sizes g_this))), (a_this 2, .inl (dT 0, 21, .inl (P_shares g_this))), (a_this 3, .inl (dT 1, 128, .inr (.inl (P_rowsOf g_this)))), (a_this 4, .inl (dT 1, 128, .inr (.inl (P_restOf g_this)))), (a_this 5, .inl (dT 0, 128, .inl (P_nextOf g_this))), (a_this 6, .inl (dT 0, 7, .inl (upd (P_tableAt g_this) x2.toNatClampNeg s0))), (a_this 7, .inl (dT 0, 7, .inl (upd (P_wayAt g_this) x2.toNatClampNeg o7.1)))]) H := hP
        have hD : va_D A ([(a_this 0, .inr (3, [.ref (a_this 1), .ref (a_this 2), .ref (a_this 3), .ref (a_this 4), .ref (a_this 5), .ref (a_this 6), .ref (a_this 7), .int (P_whole g_this), .int (P_count g_this)])), (a_this 1, .inl (dT 0, 7, .inl (P_sizes g_this))), (a_this 2, .inl (dT 0, 21, .inl (P_shares g_this))), (a_this 3, .inl (dT 1, 128, .inr (.inl (P_rowsOf g_this)))), (a_this 4, .inl (dT 1, 128, .inr (.inl (P_restOf g_this)))), (a_this 5, .inl (dT 0, 128, .inl (P_nextOf g_this))), (a_this 6, .inl (dT 0, 7, .inl (upd (P_tableAt g_this) x2.toNatClampNeg s0))), (a_this 7, .inl (dT 0, 7, .inl (upd (P_wayAt g_this) x2.toNatClampNeg o7.1)))]) := hD
        refine lv_aload_n hx hb dX3_followNext_61 rfl (lv_at hl 1 rfl) ?_
        refine lv_iload_n hx hb dX3_followNext_62 rfl (lv_at hl 3 rfl) ?_
        refine lv_iconst (v := 1) hx hb dX3_followNext_63 (by decide) ?_
        refine lv_iadd hx hb dX3_followNext_64 ?_
        refine pf_X3_38 hx hb hqs hown hK hP hD hS 0 rfl rfl dX3_followNext_65 (fun H locs hP hD hS => ?_)
        have hP : va_P D vwCl ([(a_this 0, .inr (3, [.ref (a_this 1), .ref (a_this 2), .ref (a_this 3), .ref (a_this 4), .ref (a_this 5), .ref (a_this 6), .ref (a_this 7), .int (P_whole g_this), .int (x2 + (1 : Int32))])), (a_this 1, .inl (dT 0, 7, .inl (P_sizes g_this))), (a_this 2, .inl (dT 0, 21, .inl (P_shares g_this))), (a_this 3, .inl (dT 1, 128, .inr (.inl (P_rowsOf g_this)))), (a_this 4, .inl (dT 1, 128, .inr (.inl (P_restOf g_this)))), (a_this 5, .inl (dT 0, 128, .inl (P_nextOf g_this))), (a_this 6, .inl (dT 0, 7, .inl (upd (P_tableAt g_this) x2.toNatClampNeg s0))), (a_this 7, .inl (dT 0, 7, .inl (upd (P_wayAt g_this) x2.toNatClampNeg o7.1)))]) H := hP
        have hD : va_D A ([(a_this 0, .inr (3, [.ref (a_this 1), .ref (a_this 2), .ref (a_this 3), .ref (a_this 4), .ref (a_this 5), .ref (a_this 6), .ref (a_this 7), .int (P_whole g_this), .int (x2 + (1 : Int32))])), (a_this 1, .inl (dT 0, 7, .inl (P_sizes g_this))), (a_this 2, .inl (dT 0, 21, .inl (P_shares g_this))), (a_this 3, .inl (dT 1, 128, .inr (.inl (P_rowsOf g_this)))), (a_this 4, .inl (dT 1, 128, .inr (.inl (P_restOf g_this)))), (a_this 5, .inl (dT 0, 128, .inl (P_nextOf g_this))), (a_this 6, .inl (dT 0, 7, .inl (upd (P_tableAt g_this) x2.toNatClampNeg s0))), (a_this 7, .inl (dT 0, 7, .inl (upd (P_wayAt g_this) x2.toNatClampNeg o7.1)))]) := hD
        refine lv_iload_n hx hb dX3_followNext_68 rfl (lv_at hl 2 rfl) ?_
        refine lv_iconst (v := 1) hx hb dX3_followNext_69 (by decide) ?_
        refine lv_iload_n hx hb dX3_followNext_70 rfl (lv_at hl 0 rfl) ?_
        refine lv_ishl hx hb dX3_followNext_71 ?_
        refine lv_ior hx hb dX3_followNext_72 ?_
        refine lv_istore_n (lv' := [(1, .int (x1 ||| ((1 : Int32) <<< (s0 &&& 31)))), (3, .int s0), (0, .ref (a_this 0)), (2, .int x2)]) hx hb dX3_followNext_73 rfl hl (by decide) rfl (fun ls hl => ?_)
        refine lv_iinc (v := (x2 + (1 : Int32))) (lv' := [(2, .int (x2 + (1 : Int32))), (1, .int (x1 ||| ((1 : Int32) <<< (s0 &&& 31)))), (3, .int s0), (0, .ref (a_this 0))]) hx hb dX3_followNext_74 hl (k := 3) rfl rfl (by decide) rfl (fun ls hl => ?_)
        refine lv_goto (tgt := 4) hx hb dX3_followNext_77 (by decide) ?_
        exact hk4 (x1 ||| ((1 : Int32) <<< (s0 &&& 31))) (x2 + (1 : Int32)) (P_mk (P_sizes g_this) (P_shares g_this) (P_rowsOf g_this) (P_restOf g_this) (P_nextOf g_this) (upd (P_tableAt g_this) x2.toNatClampNeg s0) (upd (P_wayAt g_this) x2.toNatClampNeg o7.1) (P_whole g_this) (x2 + (1 : Int32))) _ _ _ h hP hD hS (lv_sub hl [3, 1, 0] rfl)
      · replace h := iteF c5 h
        exact rt_v hx hb hr hlk hK hS (g_this : TP) (retv h) hP hD dX3_followNext_41
  have L_f_X3_followNext_L4 : ∀    (n : Nat), ∀ (x1 : Int32) (x2 : Int32) (g_this : TP) (H : Heap) (locs : List Loc) (ls : Array Slot), f_X3_followNext_L4   n x1 x2 g_this = some o → va_P D vwCl (cP dT a_this g_this) H → va_D A (cP dT a_this g_this) → va_S A s.heap H locs → lv_has ls 4 [(0, .ref (a_this 0)), (1, .int x1), (2, .int x2)] → W p l e (headSpec (WSm yX3_followNext cX3_followNext 4 none) { frames := 2, cells := 0, slots := 0, locals := 46 }).room s m [.ref (a_this 0)].toArray below meth c H locs 0 0 (MQ below (va_Qv (fun (u : TP) => u = o.2) (fun u t => cAt D dT A (cP dT a_this u) t) A) [.ref (a_this 0)].toArray s 0 0 A) (F0 m 4 ls []) := by
    intro    n
    induction n with
    | zero => intro x1 x2 g_this H locs ls h; exact nomatch h
    | succ n ih =>
      intro x1 x2 g_this H locs ls h hP hD hS hl
      unfold f_X3_followNext_L4 at h
      refine lv_iload_n hx hb dX3_followNext_4 rfl (lv_at hl 2 rfl) ?_
      refine lv_bipush (v := 7) hx hb dX3_followNext_5 (by decide) ?_
      refine lv_icmp_ge (tgt := 80) hx hb dX3_followNext_7 (by decide) (fun c1 => ?_) (fun c1 => ?_)
      · replace h := iteT c1 h
        exact rt_v hx hb hr hlk hK hS (g_this : TP) (retv h) hP hD dX3_followNext_80
      · replace h := iteF c1 h
        refine lv_iload_n hx hb dX3_followNext_10 rfl (lv_at hl 1 rfl) ?_
        refine lv_iconst (v := 0) hx hb dX3_followNext_11 (by decide) ?_
        refine lv_bipush (v := 127) hx hb dX3_followNext_12 (by decide) ?_
        obtain ⟨o2, e2, h⟩ := obind h
        have hPc := hP.sub (ws' := ([] : va_W)) [] rfl
        have hDc := hD.sub (ws' := ([] : va_W)) [] (by decide) rfl
        have hFc := va_free (wc := ([] : va_W)) hD hS hA [] rfl
        refine cl_i (wr := (cP dT a_this g_this)) (va_runSN (As := [.int x1, .int (0 : Int32), .int (127 : Int32)]) (rest := []) ⟨hx, hb, hml, hown, hts⟩ (c_X8_isIn l hlt D dT x1 (0 : Int32) (127 : Int32) o2 e2 _) ⟨va_cnB 3 hts (TB_in (WSm_in w_332)) rfl rfl rfl (hE.1 (RX3, 83, yX8_isIn, RX8) (List.mem_of_getElem? (i := 18) rfl)) (hqs _ w_50) nd_X8_isIn ⟨Nat.le_of_ble_eq_true rfl, Nat.le_of_ble_eq_true rfl⟩, hqs _ w_331, trivial⟩ (cPre.S hPc hDc hK hE hS hFc) rfl rfl hl.1 rfl (lv_room (Nat.le_of_ble_eq_true rfl)) dX3_followNext_14 ⟨Nat.zero_le _, Nat.zero_le _⟩) hP hD hS hFc [] [0, 1, 2, 3, 4, 5, 6, 7] rfl rfl (by decide) (by decide) (fun r2 u2 H locs hw hP hD hS => ?_)
        obtain ⟨rfl, rfl⟩ := hw
        have hP : va_P D vwCl (cP dT a_this g_this) H := hP
        have hD : va_D A (cP dT a_this g_this) := hD
        refine lv_if_eq (tgt := 29) hx hb dX3_followNext_17 (by decide) (fun c3 => ?_) (fun c3 => ?_)
        · replace h := iteT c3 h
          refine lv_iconst (v := -1) hx hb dX3_followNext_29 (by decide) ?_
          refine L_f_X3_followNext_J30  x1 x2 (-1 : Int32) g_this _ ih _ _ _ h hP hD hS (lv_sub hl [0, 1, 2] rfl)
        · replace h := iteF c3 h
          refine lv_aload_n hx hb dX3_followNext_20 rfl (lv_at hl 0 rfl) ?_
          refine gf_X3_25 (v := .ref (a_this 5)) hx hb hqs hown hK hP 0 rfl rfl dX3_followNext_21 ?_
          refine lv_iload_n hx hb dX3_followNext_24 rfl (lv_at hl 1 rfl) ?_
          obtain ⟨g9, h⟩ := chk h
          refine va_iald hx hb hK hP 5 0 rfl rfl (inb_in g9) dX3_followNext_25 ?_
          refine lv_goto (tgt := 30) hx hb dX3_followNext_26 (by decide) ?_
          refine L_f_X3_followNext_J30  x1 x2 ((P_nextOf g_this) x1.toNatClampNeg) g_this _ ih _ _ _ h hP hD hS (lv_sub hl [0, 1, 2] rfl)
  unfold f_X3_followNext at h
  refine lv_iconst (v := 0) hx hb dX3_followNext_0 (by decide) ?_
  refine lv_istore_n (lv' := [(1, .int (0 : Int32)), (0, .ref (a_this 0))]) hx hb dX3_followNext_1 rfl hl (by decide) rfl (fun ls hl => ?_)
  refine lv_iconst (v := 0) hx hb dX3_followNext_2 (by decide) ?_
  refine lv_istore_n (lv' := [(2, .int (0 : Int32)), (1, .int (0 : Int32)), (0, .ref (a_this 0))]) hx hb dX3_followNext_3 rfl hl (by decide) rfl (fun ls hl => ?_)
  refine L_f_X3_followNext_L4    FUEL (0 : Int32) (0 : Int32) g_this _ _ _ h hP hD hS (lv_sub hl [2, 1, 0] rfl)

def f_X3_choose_L11 (g_p1 : TW) (k40 : TP → Option (Unit × (TP))) : Nat → Int32 → TP → Option (Unit × (TP))
  | 0, _, _ => none
  | n + 1, x4, g_this =>
    (if x4 < (0 : Int32) then (k40 g_this) else (if (x4 &&& (P_whole g_this)) = x4 then ((f_X3_findNext g_this x4).bind fun o4 => (f_X3_choose_L11 g_p1 k40 n (x4 + (-1 : Int32)) o4.2)) else (f_X3_choose_L11 g_p1 k40 n (x4 + (-1 : Int32)) g_this)))
def f_X3_choose (g_this : TP) (g_p1 : TW) (v2 : Int32) (v3 : Int32) : Option (Unit × (TP)) :=
  ((f_X3_weigh g_this g_p1 v2 v3).bind fun o1 => (f_X3_choose_L11 g_p1 (fun (y5g_this : TP) => ((f_X3_followNext y5g_this).bind fun o6 => (some ((), o6.2)))) FUEL (127 : Int32) o1.2))
set_option maxHeartbeats 8000000 in
set_option maxRecDepth 100000 in
theorem c_X3_choose (l : Launch) (hlt : l.stackTraces = false) (D : va_G) (dT : Nat → ClassId) (a_this : Nat → Nat) (a_p1 : Nat → Nat) (g_this : TP) (g_p1 : TW) (v2 : Int32) (v3 : Int32) (o : (Unit × (TP))) (h : f_X3_choose g_this g_p1 v2 v3 = some o) (sz : Nat) : Met l yX3_choose (WSm yX3_choose cX3_choose 5 none) { frames := 3, cells := 0, slots := 0, locals := 77 } (va_Pc [.ref (a_this 0), .ref (a_p1 0), .int v2, .int v3] (cPre D dT (cP dT a_this g_this ++ (cW dT a_p1 g_p1)) sz)) (va_Qv (fun (u : TP) => u = o.2) (fun u t => cAt D dT (va_A (cP dT a_this g_this ++ (cW dT a_p1 g_p1)) sz) (cP dT a_this u ++ (cW dT a_p1 g_p1)) t) (va_A (cP dT a_this g_this ++ (cW dT a_p1 g_p1)) sz)) 0 0 (va_A (cP dT a_this g_this ++ (cW dT a_p1 g_p1)) sz) := by
  refine mStart (WS := (cP dT a_this g_this ++ (cW dT a_p1 g_p1))) (Qc := fun A => va_Qv (fun (u : TP) => u = o.2) (fun u t => cAt D dT A (cP dT a_this u ++ (cW dT a_p1 g_p1)) t) A) RX3 rfl (by decide) (Nat.le_of_ble_eq_true rfl) ?_ sz
  intro p e s m below meth c A ls hx hb hml hr hlk hnm hts hqs hown hE hA hK hP hD hS hl
  have hl : lv_has ls 5 [(0, .ref (a_this 0)), (1, .ref (a_p1 0)), (2, .int v2), (3, .int v3)] := hl
  have L_f_X3_choose_L11 : ∀ (g_p1 : TW) (k40 : TP → Option (Unit × (TP))) (hk40 : ∀ (g_this : TP) (H : Heap) (locs : List Loc) (ls : Array Slot), k40 g_this = some o → va_P D vwCl (cP dT a_this g_this ++ (cW dT a_p1 g_p1)) H → va_D A (cP dT a_this g_this ++ (cW dT a_p1 g_p1)) → va_S A s.heap H locs → lv_has ls 5 [(0, .ref (a_this 0))] → W p l e (headSpec (WSm yX3_choose cX3_choose 5 none) { frames := 3, cells := 0, slots := 0, locals := 77 }).room s m [.ref (a_this 0), .ref (a_p1 0), .int v2, .int v3].toArray below meth c H locs 0 0 (MQ below (va_Qv (fun (u : TP) => u = o.2) (fun u t => cAt D dT A (cP dT a_this u ++ (cW dT a_p1 g_p1)) t) A) [.ref (a_this 0), .ref (a_p1 0), .int v2, .int v3].toArray s 0 0 A) (F0 m 40 ls [])) (n : Nat), ∀ (x4 : Int32) (g_this : TP) (H : Heap) (locs : List Loc) (ls : Array Slot), f_X3_choose_L11 g_p1 k40 n x4 g_this = some o → va_P D vwCl (cP dT a_this g_this ++ (cW dT a_p1 g_p1)) H → va_D A (cP dT a_this g_this ++ (cW dT a_p1 g_p1)) → va_S A s.heap H locs → lv_has ls 5 [(0, .ref (a_this 0)), (4, .int x4)] → W p l e (headSpec (WSm yX3_choose cX3_choose 5 none) { frames := 3, cells := 0, slots := 0, locals := 77 }).room s m [.ref (a_this 0), .ref (a_p1 0), .int v2, .int v3].toArray below meth c H locs 0 0 (MQ below (va_Qv (fun (u : TP) => u = o.2) (fun u t => cAt D dT A (cP dT a_this u ++ (cW dT a_p1 g_p1)) t) A) [.ref (a_this 0), .ref (a_p1 0), .int v2, .int v3].toArray s 0 0 A) (F0 m 11 ls []) := by
    intro g_p1 k40 hk40 n
    induction n with
    | zero => intro x4 g_this H locs ls h; exact nomatch h
    | succ n ih =>
      intro x4 g_this H locs ls h hP hD hS hl
      unfold f_X3_choose_L11 at h
      refine lv_iload hx hb dX3_choose_11 (lv_at hl 1 rfl) ?_
      refine lv_if_lt (tgt := 40) hx hb dX3_choose_13 (by decide) (fun c2 => ?_) (fun c2 => ?_)
      · replace h := iteT c2 h
        exact hk40 g_this _ _ _ h hP hD hS (lv_sub hl [0] rfl)
      · replace h := iteF c2 h
        refine lv_iload hx hb dX3_choose_16 (lv_at hl 1 rfl) ?_
        refine lv_aload_n hx hb dX3_choose_18 rfl (lv_at hl 0 rfl) ?_
        refine gf_X3_34 (v := .int (P_whole g_this)) hx hb hqs hown hK hP 0 rfl rfl dX3_choose_19 ?_
        refine lv_iand hx hb dX3_choose_22 ?_
        refine lv_iload hx hb dX3_choose_23 (lv_at hl 1 rfl) ?_
        refine lv_icmp_ne (tgt := 34) hx hb dX3_choose_25 (by decide) (fun c3 => ?_) (fun c3 => ?_)
        · replace h := iteF c3 h
          refine lv_iinc (v := (x4 + (-1 : Int32))) (lv' := [(4, .int (x4 + (-1 : Int32))), (0, .ref (a_this 0))]) hx hb dX3_choose_34 hl (k := 1) rfl rfl (by decide) rfl (fun ls hl => ?_)
          refine lv_goto (tgt := 11) hx hb dX3_choose_37 (by decide) ?_
          exact ih (x4 + (-1 : Int32)) g_this _ _ _ h hP hD hS (lv_sub hl [1, 0] rfl)
        · replace h := iteT c3 h
          refine lv_aload_n hx hb dX3_choose_28 rfl (lv_at hl 0 rfl) ?_
          refine lv_iload hx hb dX3_choose_29 (lv_at hl 1 rfl) ?_
          obtain ⟨o4, e4, h⟩ := obind h
          have hPc := hP.sub (ws' := (cP dT a_this g_this)) [0, 1, 2, 3, 4, 5, 6, 7] rfl
          have hDc := hD.sub (ws' := (cP dT a_this g_this)) [0, 1, 2, 3, 4, 5, 6, 7] (by decide) rfl
          have hFc := va_free (wc := (cP dT a_this g_this)) hD hS hA [0, 1, 2, 3, 4, 5, 6, 7] rfl
          refine cl_v (wr := (cW dT a_p1 g_p1)) (va_runV (As := [.int x4]) (rest := []) ⟨hx, hb, hml, hown, hts⟩ (c_X3_findNext l hlt D dT a_this g_this x4 o4 e4 _) (cwV 1 hts (TB_V w_786 w_788 w_18 w_58 w_789) rfl rfl rfl ⟨rfl, nd_X3_findNext⟩ ⟨Nat.le_of_ble_eq_true rfl, Nat.le_of_ble_eq_true rfl⟩) (cPre.V hPc hDc hK hE hS hFc (va_recv hK hP (ci := 3) (q0 := 0) rfl rfl)) rfl rfl hl.1 rfl (lv_room (Nat.le_of_ble_eq_true rfl)) dX3_choose_31 ⟨Nat.zero_le _, Nat.zero_le _⟩) hP hD hS hFc [0, 1, 2, 3, 4, 5, 6, 7] [8, 9, 10, 11, 12, 13, 14, 15, 16, 17] rfl rfl (by decide) (by decide) (fun u4 H locs hw hP hD hS => ?_)
          subst hw
          have hP : va_P D vwCl (cW dT a_p1 g_p1 ++ (cP dT a_this o4.2)) H := hP
          have hD : va_D A (cW dT a_p1 g_p1 ++ (cP dT a_this o4.2)) := hD
          refine lv_iinc (v := (x4 + (-1 : Int32))) (lv' := [(4, .int (x4 + (-1 : Int32))), (0, .ref (a_this 0))]) hx hb dX3_choose_34 hl (k := 1) rfl rfl (by decide) rfl (fun ls hl => ?_)
          refine lv_goto (tgt := 11) hx hb dX3_choose_37 (by decide) ?_
          have hP := hP.sub (ws' := (cP dT a_this o4.2 ++ (cW dT a_p1 g_p1))) [10, 11, 12, 13, 14, 15, 16, 17, 0, 1, 2, 3, 4, 5, 6, 7, 8, 9] rfl
          have hD := hD.sub (ws' := (cP dT a_this o4.2 ++ (cW dT a_p1 g_p1))) [10, 11, 12, 13, 14, 15, 16, 17, 0, 1, 2, 3, 4, 5, 6, 7, 8, 9] (by decide) rfl
          exact ih (x4 + (-1 : Int32)) o4.2 _ _ _ h hP hD hS (lv_sub hl [1, 0] rfl)
  unfold f_X3_choose at h
  refine lv_aload_n hx hb dX3_choose_0 rfl (lv_at hl 0 rfl) ?_
  refine lv_aload_n hx hb dX3_choose_1 rfl (lv_at hl 1 rfl) ?_
  refine lv_iload_n hx hb dX3_choose_2 rfl (lv_at hl 2 rfl) ?_
  refine lv_iload_n hx hb dX3_choose_3 rfl (lv_at hl 3 rfl) ?_
  obtain ⟨o1, e1, h⟩ := obind h
  have hPc := hP
  have hDc := hD
  have hFc := vfall hD hS hA
  refine cl_vA (va_runV (As := [.ref (a_p1 0), .int v2, .int v3]) (rest := []) ⟨hx, hb, hml, hown, hts⟩ (c_X3_weigh l hlt D dT a_this a_p1 g_this g_p1 v2 v3 o1 e1 _) (cwV 3 hts (TB_V w_766 w_767 w_768 w_58 w_769) rfl rfl rfl ⟨rfl, nd_X3_weigh⟩ ⟨Nat.le_of_ble_eq_true rfl, Nat.le_of_ble_eq_true rfl⟩) (cPre.V hPc hDc hK hE hS hFc (va_recv hK hP (ci := 3) (q0 := 0) rfl rfl)) rfl rfl hl.1 rfl (lv_room (Nat.le_of_ble_eq_true rfl)) dX3_choose_4 ⟨Nat.zero_le _, Nat.zero_le _⟩) hS hFc (fun u1 H locs hw hP hD hS => ?_)
  subst hw
  have hP : va_P D vwCl (cP dT a_this o1.2 ++ (cW dT a_p1 g_p1)) H := hP
  have hD : va_D A (cP dT a_this o1.2 ++ (cW dT a_p1 g_p1)) := hD
  refine lv_bipush (v := 127) hx hb dX3_choose_7 (by decide) ?_
  refine lv_istore (lv' := [(4, .int (127 : Int32)), (0, .ref (a_this 0)), (1, .ref (a_p1 0)), (2, .int v2), (3, .int v3)]) hx hb dX3_choose_9 hl (by decide) rfl (fun ls hl => ?_)
  refine L_f_X3_choose_L11 g_p1 _ ?_ FUEL (127 : Int32) o1.2 _ _ _ h hP hD hS (lv_sub hl [1, 0] rfl)
  · intro y5g_this H locs ls h hP hD hS hl
    refine lv_aload_n hx hb dX3_choose_40 rfl (lv_at hl 0 rfl) ?_
    obtain ⟨o6, e6, h⟩ := obind h
    have hPc := hP.sub (ws' := (cP dT a_this y5g_this)) [0, 1, 2, 3, 4, 5, 6, 7] rfl
    have hDc := hD.sub (ws' := (cP dT a_this y5g_this)) [0, 1, 2, 3, 4, 5, 6, 7] (by decide) rfl
    have hFc := va_free (wc := (cP dT a_this y5g_this)) hD hS hA [0, 1, 2, 3, 4, 5, 6, 7] rfl
    refine cl_v (wr := (cW dT a_p1 g_p1)) (va_runV (As := []) (rest := []) ⟨hx, hb, hml, hown, hts⟩ (c_X3_followNext l hlt D dT a_this y5g_this o6 e6 _) (cwV 0 hts (TB_V w_804 w_806 w_22 w_58 w_807) rfl rfl rfl ⟨rfl, nd_X3_followNext⟩ ⟨Nat.le_of_ble_eq_true rfl, Nat.le_of_ble_eq_true rfl⟩) (cPre.V hPc hDc hK hE hS hFc (va_recv hK hP (ci := 3) (q0 := 0) rfl rfl)) rfl rfl hl.1 rfl (lv_room (Nat.le_of_ble_eq_true rfl)) dX3_choose_41 ⟨Nat.zero_le _, Nat.zero_le _⟩) hP hD hS hFc [0, 1, 2, 3, 4, 5, 6, 7] [8, 9, 10, 11, 12, 13, 14, 15, 16, 17] rfl rfl (by decide) (by decide) (fun u6 H locs hw hP hD hS => ?_)
    subst hw
    have hP : va_P D vwCl (cW dT a_p1 g_p1 ++ (cP dT a_this o6.2)) H := hP
    have hD : va_D A (cW dT a_p1 g_p1 ++ (cP dT a_this o6.2)) := hD
    have hP := hP.sub (ws' := (cP dT a_this o6.2 ++ (cW dT a_p1 g_p1))) [10, 11, 12, 13, 14, 15, 16, 17, 0, 1, 2, 3, 4, 5, 6, 7, 8, 9] rfl
    have hD := hD.sub (ws' := (cP dT a_this o6.2 ++ (cW dT a_p1 g_p1))) [10, 11, 12, 13, 14, 15, 16, 17, 0, 1, 2, 3, 4, 5, 6, 7, 8, 9] (by decide) rfl
    exact rt_v hx hb hr hlk hK hS (o6.2 : TP) (retv h) hP hD dX3_choose_44

def f_X3_tableAt (g_this : TP) (v1 : Int32) : Option (Int32 × (Unit)) :=
  (if v1 < (0 : Int32) then (some ((-1 : Int32), ())) else (if (P_count g_this) ≤ v1 then (some ((-1 : Int32), ())) else (if (7 : Int32) ≤ v1 then (some ((-1 : Int32), ())) else (if inb v1 7 = true then (some (((P_tableAt g_this) v1.toNatClampNeg), ())) else none))))
set_option maxHeartbeats 8000000 in
set_option maxRecDepth 100000 in
theorem c_X3_tableAt (l : Launch) (hlt : l.stackTraces = false) (D : va_G) (dT : Nat → ClassId) (a_this : Nat → Nat) (g_this : TP) (v1 : Int32) (o : (Int32 × (Unit))) (h : f_X3_tableAt g_this v1 = some o) (sz : Nat) : Met l yX3_tableAt (WSm yX3_tableAt cX3_tableAt 2 (some .int)) { frames := 0, cells := 0, slots := 0, locals := 0 } (va_Pc [.ref (a_this 0), .int v1] (cPre D dT (cP dT a_this g_this) sz)) (va_Qi (fun (r : Int32) (u : Unit) => r = o.1 ∧ u = o.2) (fun u t => cAt D dT (va_A (cP dT a_this g_this) sz) (cP dT a_this g_this) t) (va_A (cP dT a_this g_this) sz)) 0 0 (va_A (cP dT a_this g_this) sz) := by
  refine mStart (WS := (cP dT a_this g_this)) (Qc := fun A => va_Qi (fun (r : Int32) (u : Unit) => r = o.1 ∧ u = o.2) (fun u t => cAt D dT A (cP dT a_this g_this) t) A) RX3 rfl (by decide) (Nat.le_of_ble_eq_true rfl) ?_ sz
  intro p e s m below meth c A ls hx hb hml hr hlk hnm hts hqs hown hE hA hK hP hD hS hl
  have hl : lv_has ls 2 [(0, .ref (a_this 0)), (1, .int v1)] := hl
  unfold f_X3_tableAt at h
  refine lv_iload_n hx hb dX3_tableAt_0 rfl (lv_at hl 1 rfl) ?_
  refine lv_if_lt (tgt := 27) hx hb dX3_tableAt_1 (by decide) (fun c1 => ?_) (fun c1 => ?_)
  · replace h := iteT c1 h
    refine lv_iconst (v := -1) hx hb dX3_tableAt_27 (by decide) ?_
    exact rt_i hx hb hr hlk hK hS (() : Unit) (ret2 h) hP hD dX3_tableAt_28
  · replace h := iteF c1 h
    refine lv_iload_n hx hb dX3_tableAt_4 rfl (lv_at hl 1 rfl) ?_
    refine lv_aload_n hx hb dX3_tableAt_5 rfl (lv_at hl 0 rfl) ?_
    refine gf_X3_38 (v := .int (P_count g_this)) hx hb hqs hown hK hP 0 rfl rfl dX3_tableAt_6 ?_
    refine lv_icmp_ge (tgt := 27) hx hb dX3_tableAt_9 (by decide) (fun c2 => ?_) (fun c2 => ?_)
    · replace h := iteT c2 h
      refine lv_iconst (v := -1) hx hb dX3_tableAt_27 (by decide) ?_
      exact rt_i hx hb hr hlk hK hS (() : Unit) (ret2 h) hP hD dX3_tableAt_28
    · replace h := iteF c2 h
      refine lv_iload_n hx hb dX3_tableAt_12 rfl (lv_at hl 1 rfl) ?_
      refine lv_bipush (v := 7) hx hb dX3_tableAt_13 (by decide) ?_
      refine lv_icmp_ge (tgt := 27) hx hb dX3_tableAt_15 (by decide) (fun c3 => ?_) (fun c3 => ?_)
      · replace h := iteT c3 h
        refine lv_iconst (v := -1) hx hb dX3_tableAt_27 (by decide) ?_
        exact rt_i hx hb hr hlk hK hS (() : Unit) (ret2 h) hP hD dX3_tableAt_28
      · replace h := iteF c3 h
        refine lv_aload_n hx hb dX3_tableAt_18 rfl (lv_at hl 0 rfl) ?_
        refine gf_X3_28 (v := .ref (a_this 6)) hx hb hqs hown hK hP 0 rfl rfl dX3_tableAt_19 ?_
        refine lv_iload_n hx hb dX3_tableAt_22 rfl (lv_at hl 1 rfl) ?_
        obtain ⟨g4, h⟩ := chk h
        refine va_iald hx hb hK hP 6 0 rfl rfl (inb_in g4) dX3_tableAt_23 ?_
        refine lv_goto (tgt := 28) hx hb dX3_tableAt_24 (by decide) ?_
        exact rt_i hx hb hr hlk hK hS (() : Unit) (ret2 h) hP hD dX3_tableAt_28

def f_X3_wayAt (g_this : TP) (v1 : Int32) : Option (Int32 × (Unit)) :=
  (if v1 < (0 : Int32) then (some ((-1 : Int32), ())) else (if (P_count g_this) ≤ v1 then (some ((-1 : Int32), ())) else (if (7 : Int32) ≤ v1 then (some ((-1 : Int32), ())) else (if inb v1 7 = true then (some (((P_wayAt g_this) v1.toNatClampNeg), ())) else none))))
set_option maxHeartbeats 8000000 in
set_option maxRecDepth 100000 in
theorem c_X3_wayAt (l : Launch) (hlt : l.stackTraces = false) (D : va_G) (dT : Nat → ClassId) (a_this : Nat → Nat) (g_this : TP) (v1 : Int32) (o : (Int32 × (Unit))) (h : f_X3_wayAt g_this v1 = some o) (sz : Nat) : Met l yX3_wayAt (WSm yX3_wayAt cX3_wayAt 2 (some .int)) { frames := 0, cells := 0, slots := 0, locals := 0 } (va_Pc [.ref (a_this 0), .int v1] (cPre D dT (cP dT a_this g_this) sz)) (va_Qi (fun (r : Int32) (u : Unit) => r = o.1 ∧ u = o.2) (fun u t => cAt D dT (va_A (cP dT a_this g_this) sz) (cP dT a_this g_this) t) (va_A (cP dT a_this g_this) sz)) 0 0 (va_A (cP dT a_this g_this) sz) := by
  refine mStart (WS := (cP dT a_this g_this)) (Qc := fun A => va_Qi (fun (r : Int32) (u : Unit) => r = o.1 ∧ u = o.2) (fun u t => cAt D dT A (cP dT a_this g_this) t) A) RX3 rfl (by decide) (Nat.le_of_ble_eq_true rfl) ?_ sz
  intro p e s m below meth c A ls hx hb hml hr hlk hnm hts hqs hown hE hA hK hP hD hS hl
  have hl : lv_has ls 2 [(0, .ref (a_this 0)), (1, .int v1)] := hl
  unfold f_X3_wayAt at h
  refine lv_iload_n hx hb dX3_wayAt_0 rfl (lv_at hl 1 rfl) ?_
  refine lv_if_lt (tgt := 27) hx hb dX3_wayAt_1 (by decide) (fun c1 => ?_) (fun c1 => ?_)
  · replace h := iteT c1 h
    refine lv_iconst (v := -1) hx hb dX3_wayAt_27 (by decide) ?_
    exact rt_i hx hb hr hlk hK hS (() : Unit) (ret2 h) hP hD dX3_wayAt_28
  · replace h := iteF c1 h
    refine lv_iload_n hx hb dX3_wayAt_4 rfl (lv_at hl 1 rfl) ?_
    refine lv_aload_n hx hb dX3_wayAt_5 rfl (lv_at hl 0 rfl) ?_
    refine gf_X3_38 (v := .int (P_count g_this)) hx hb hqs hown hK hP 0 rfl rfl dX3_wayAt_6 ?_
    refine lv_icmp_ge (tgt := 27) hx hb dX3_wayAt_9 (by decide) (fun c2 => ?_) (fun c2 => ?_)
    · replace h := iteT c2 h
      refine lv_iconst (v := -1) hx hb dX3_wayAt_27 (by decide) ?_
      exact rt_i hx hb hr hlk hK hS (() : Unit) (ret2 h) hP hD dX3_wayAt_28
    · replace h := iteF c2 h
      refine lv_iload_n hx hb dX3_wayAt_12 rfl (lv_at hl 1 rfl) ?_
      refine lv_bipush (v := 7) hx hb dX3_wayAt_13 (by decide) ?_
      refine lv_icmp_ge (tgt := 27) hx hb dX3_wayAt_15 (by decide) (fun c3 => ?_) (fun c3 => ?_)
      · replace h := iteT c3 h
        refine lv_iconst (v := -1) hx hb dX3_wayAt_27 (by decide) ?_
        exact rt_i hx hb hr hlk hK hS (() : Unit) (ret2 h) hP hD dX3_wayAt_28
      · replace h := iteF c3 h
        refine lv_aload_n hx hb dX3_wayAt_18 rfl (lv_at hl 0 rfl) ?_
        refine gf_X3_31 (v := .ref (a_this 7)) hx hb hqs hown hK hP 0 rfl rfl dX3_wayAt_19 ?_
        refine lv_iload_n hx hb dX3_wayAt_22 rfl (lv_at hl 1 rfl) ?_
        obtain ⟨g4, h⟩ := chk h
        refine va_iald hx hb hK hP 7 0 rfl rfl (inb_in g4) dX3_wayAt_23 ?_
        refine lv_goto (tgt := 28) hx hb dX3_wayAt_24 (by decide) ?_
        exact rt_i hx hb hr hlk hK hS (() : Unit) (ret2 h) hP hD dX3_wayAt_28

def f_X3_leastCost (g_this : TP) : Option (Int64 × (Unit)) :=
  (if inb (0 : Int32) 128 = true then (some (((P_restOf g_this) (0 : Int32).toNatClampNeg), ())) else none)
set_option maxHeartbeats 8000000 in
set_option maxRecDepth 100000 in
theorem c_X3_leastCost (l : Launch) (hlt : l.stackTraces = false) (D : va_G) (dT : Nat → ClassId) (a_this : Nat → Nat) (g_this : TP) (o : (Int64 × (Unit))) (h : f_X3_leastCost g_this = some o) (sz : Nat) : Met l yX3_leastCost (WSm yX3_leastCost cX3_leastCost 1 (some .long)) { frames := 0, cells := 0, slots := 0, locals := 0 } (va_Pc [.ref (a_this 0)] (cPre D dT (cP dT a_this g_this) sz)) (va_Ql (fun (r : Int64) (u : Unit) => r = o.1 ∧ u = o.2) (fun u t => cAt D dT (va_A (cP dT a_this g_this) sz) (cP dT a_this g_this) t) (va_A (cP dT a_this g_this) sz)) 0 0 (va_A (cP dT a_this g_this) sz) := by
  refine mStart (WS := (cP dT a_this g_this)) (Qc := fun A => va_Ql (fun (r : Int64) (u : Unit) => r = o.1 ∧ u = o.2) (fun u t => cAt D dT A (cP dT a_this g_this) t) A) RX3 rfl (by decide) (Nat.le_of_ble_eq_true rfl) ?_ sz
  intro p e s m below meth c A ls hx hb hml hr hlk hnm hts hqs hown hE hA hK hP hD hS hl
  have hl : lv_has ls 1 [(0, .ref (a_this 0))] := hl
  unfold f_X3_leastCost at h
  refine lv_aload_n hx hb dX3_leastCost_0 rfl (lv_at hl 0 rfl) ?_
  refine gf_X3_22 (v := .ref (a_this 4)) hx hb hqs hown hK hP 0 rfl rfl dX3_leastCost_1 ?_
  refine lv_iconst (v := 0) hx hb dX3_leastCost_4 (by decide) ?_
  obtain ⟨g1, h⟩ := chk h
  refine va_lald hx hb hK hP 4 1 rfl rfl (inb_in g1) dX3_leastCost_5 ?_
  exact rt_l hx hb hr hlk hK hS (() : Unit) (ret2 h) hP hD dX3_leastCost_6

def f_X3_costAsPlannedBy_L8 (g_this : TP) (g_p1 : TP)  : Nat → Int64 → Int32 → Int32 → Option (Int64 × (Unit))
  | 0, _, _, _ => none
  | n + 1, x2, x4, x5 =>
    (if (7 : Int32) ≤ x5 then (some (x2, ())) else (if (P_count g_p1) ≤ x5 then (some (x2, ())) else ((f_X3_tableAt g_p1 x5).bind fun o3 => ((f_X3_wayAt g_p1 x5).bind fun o4 => ((f_X3_stepCost g_this x4 o3.1 o4.1).bind fun o5 => (f_X3_costAsPlannedBy_L8 g_this g_p1 n (x2 + o5.1) (x4 ||| ((1 : Int32) <<< (o3.1 &&& 31))) (x5 + (1 : Int32))))))))
def f_X3_costAsPlannedBy (g_this : TP) (g_p1 : TP) : Option (Int64 × (Unit)) :=
  (f_X3_costAsPlannedBy_L8 g_this g_p1 FUEL (0 : Int64) (0 : Int32) (0 : Int32))
set_option maxHeartbeats 8000000 in
set_option maxRecDepth 100000 in
theorem c_X3_costAsPlannedBy (l : Launch) (hlt : l.stackTraces = false) (D : va_G) (dT : Nat → ClassId) (a_this : Nat → Nat) (a_p1 : Nat → Nat) (g_this : TP) (g_p1 : TP) (o : (Int64 × (Unit))) (h : f_X3_costAsPlannedBy g_this g_p1 = some o) (sz : Nat) : Met l yX3_costAsPlannedBy (WSm yX3_costAsPlannedBy cX3_costAsPlannedBy 7 (some .long)) { frames := 2, cells := 0, slots := 0, locals := 49 } (va_Pc [.ref (a_this 0), .ref (a_p1 0)] (cPre D dT (cP dT a_this g_this ++ (cP dT a_p1 g_p1)) sz)) (va_Ql (fun (r : Int64) (u : Unit) => r = o.1 ∧ u = o.2) (fun u t => cAt D dT (va_A (cP dT a_this g_this ++ (cP dT a_p1 g_p1)) sz) (cP dT a_this g_this ++ (cP dT a_p1 g_p1)) t) (va_A (cP dT a_this g_this ++ (cP dT a_p1 g_p1)) sz)) 0 0 (va_A (cP dT a_this g_this ++ (cP dT a_p1 g_p1)) sz) := by
  refine mStart (WS := (cP dT a_this g_this ++ (cP dT a_p1 g_p1))) (Qc := fun A => va_Ql (fun (r : Int64) (u : Unit) => r = o.1 ∧ u = o.2) (fun u t => cAt D dT A (cP dT a_this g_this ++ (cP dT a_p1 g_p1)) t) A) RX3 rfl (by decide) (Nat.le_of_ble_eq_true rfl) ?_ sz
  intro p e s m below meth c A ls hx hb hml hr hlk hnm hts hqs hown hE hA hK hP hD hS hl
  have hl : lv_has ls 7 [(0, .ref (a_this 0)), (1, .ref (a_p1 0))] := hl
  have L_f_X3_costAsPlannedBy_L8 : ∀ (g_this : TP) (g_p1 : TP)   (n : Nat), ∀ (x2 : Int64) (x4 : Int32) (x5 : Int32) (H : Heap) (locs : List Loc) (ls : Array Slot), f_X3_costAsPlannedBy_L8 g_this g_p1  n x2 x4 x5 = some o → va_P D vwCl (cP dT a_this g_this ++ (cP dT a_p1 g_p1)) H → va_D A (cP dT a_this g_this ++ (cP dT a_p1 g_p1)) → va_S A s.heap H locs → lv_has ls 7 [(0, .ref (a_this 0)), (1, .ref (a_p1 0)), (2, .long x2), (4, .int x4), (5, .int x5)] → W p l e (headSpec (WSm yX3_costAsPlannedBy cX3_costAsPlannedBy 7 (some .long)) { frames := 2, cells := 0, slots := 0, locals := 49 }).room s m [.ref (a_this 0), .ref (a_p1 0)].toArray below meth c H locs 0 0 (MQ below (va_Ql (fun (r : Int64) (u : Unit) => r = o.1 ∧ u = o.2) (fun u t => cAt D dT A (cP dT a_this g_this ++ (cP dT a_p1 g_p1)) t) A) [.ref (a_this 0), .ref (a_p1 0)].toArray s 0 0 A) (F0 m 8 ls []) := by
    intro g_this g_p1   n
    induction n with
    | zero => intro x2 x4 x5 H locs ls h; exact nomatch h
    | succ n ih =>
      intro x2 x4 x5 H locs ls h hP hD hS hl
      unfold f_X3_costAsPlannedBy_L8 at h
      refine lv_iload hx hb dX3_costAsPlannedBy_8 (lv_at hl 4 rfl) ?_
      refine lv_bipush (v := 7) hx hb dX3_costAsPlannedBy_10 (by decide) ?_
      refine lv_icmp_ge (tgt := 64) hx hb dX3_costAsPlannedBy_12 (by decide) (fun c1 => ?_) (fun c1 => ?_)
      · replace h := iteT c1 h
        refine lv_lload_n hx hb dX3_costAsPlannedBy_64 rfl (lv_at hl 2 rfl) ?_
        exact rt_l hx hb hr hlk hK hS (() : Unit) (ret2 h) hP hD dX3_costAsPlannedBy_65
      · replace h := iteF c1 h
        refine lv_iload hx hb dX3_costAsPlannedBy_15 (lv_at hl 4 rfl) ?_
        refine lv_aload_n hx hb dX3_costAsPlannedBy_17 rfl (lv_at hl 1 rfl) ?_
        refine gf_X3_38 (v := .int (P_count g_p1)) hx hb hqs hown hK hP 8 rfl rfl dX3_costAsPlannedBy_18 ?_
        refine lv_icmp_ge (tgt := 64) hx hb dX3_costAsPlannedBy_21 (by decide) (fun c2 => ?_) (fun c2 => ?_)
        · replace h := iteT c2 h
          refine lv_lload_n hx hb dX3_costAsPlannedBy_64 rfl (lv_at hl 2 rfl) ?_
          exact rt_l hx hb hr hlk hK hS (() : Unit) (ret2 h) hP hD dX3_costAsPlannedBy_65
        · replace h := iteF c2 h
          refine lv_aload_n hx hb dX3_costAsPlannedBy_24 rfl (lv_at hl 1 rfl) ?_
          refine lv_iload hx hb dX3_costAsPlannedBy_25 (lv_at hl 4 rfl) ?_
          obtain ⟨o3, e3, h⟩ := obind h
          have hPc := hP.sub (ws' := (cP dT a_p1 g_p1)) [8, 9, 10, 11, 12, 13, 14, 15] rfl
          have hDc := hD.sub (ws' := (cP dT a_p1 g_p1)) [8, 9, 10, 11, 12, 13, 14, 15] (by decide) rfl
          have hFc := va_free (wc := (cP dT a_p1 g_p1)) hD hS hA [8, 9, 10, 11, 12, 13, 14, 15] rfl
          refine cl_i (wr := (cP dT a_this g_this)) (va_runV (As := [.int x5]) (rest := []) ⟨hx, hb, hml, hown, hts⟩ (c_X3_tableAt l hlt D dT a_p1 g_p1 x5 o3 e3 _) (cwV 1 hts (TB_V w_813 w_814 w_815 w_58 w_816) rfl rfl rfl ⟨rfl, nd_X3_tableAt⟩ ⟨Nat.le_of_ble_eq_true rfl, Nat.le_of_ble_eq_true rfl⟩) (cPre.V hPc hDc hK hE hS hFc (va_recv hK hP (ci := 3) (q0 := 8) rfl rfl)) rfl rfl hl.1 rfl (lv_room (Nat.le_of_ble_eq_true rfl)) dX3_costAsPlannedBy_27 ⟨Nat.zero_le _, Nat.zero_le _⟩) hP hD hS hFc [8, 9, 10, 11, 12, 13, 14, 15] [0, 1, 2, 3, 4, 5, 6, 7] rfl rfl (by decide) (by decide) (fun r3 u3 H locs hw hP hD hS => ?_)
          obtain ⟨rfl, rfl⟩ := hw
          have hP : va_P D vwCl (cP dT a_this g_this ++ (cP dT a_p1 g_p1)) H := hP
          have hD : va_D A (cP dT a_this g_this ++ (cP dT a_p1 g_p1)) := hD
          refine lv_istore (lv' := [(6, .int o3.1), (0, .ref (a_this 0)), (1, .ref (a_p1 0)), (2, .long x2), (4, .int x4), (5, .int x5)]) hx hb dX3_costAsPlannedBy_30 hl (by decide) rfl (fun ls hl => ?_)
          refine lv_lload_n hx hb dX3_costAsPlannedBy_32 rfl (lv_at hl 3 rfl) ?_
          refine lv_aload_n hx hb dX3_costAsPlannedBy_33 rfl (lv_at hl 1 rfl) ?_
          refine lv_iload hx hb dX3_costAsPlannedBy_34 (lv_at hl 4 rfl) ?_
          refine lv_iload hx hb dX3_costAsPlannedBy_36 (lv_at hl 0 rfl) ?_
          refine lv_aload_n hx hb dX3_costAsPlannedBy_38 rfl (lv_at hl 2 rfl) ?_
          refine lv_iload hx hb dX3_costAsPlannedBy_39 (lv_at hl 5 rfl) ?_
          obtain ⟨o4, e4, h⟩ := obind h
          have hPc := hP.sub (ws' := (cP dT a_p1 g_p1)) [8, 9, 10, 11, 12, 13, 14, 15] rfl
          have hDc := hD.sub (ws' := (cP dT a_p1 g_p1)) [8, 9, 10, 11, 12, 13, 14, 15] (by decide) rfl
          have hFc := va_free (wc := (cP dT a_p1 g_p1)) hD hS hA [8, 9, 10, 11, 12, 13, 14, 15] rfl
          refine cl_i (wr := (cP dT a_this g_this)) (va_runV (As := [.int x5]) (rest := [.int o3.1, .int x4, .ref (a_this 0), .long x2]) ⟨hx, hb, hml, hown, hts⟩ (c_X3_wayAt l hlt D dT a_p1 g_p1 x5 o4 e4 _) (cwV 1 hts (TB_V w_817 w_818 w_819 w_58 w_820) rfl rfl rfl ⟨rfl, nd_X3_wayAt⟩ ⟨Nat.le_of_ble_eq_true rfl, Nat.le_of_ble_eq_true rfl⟩) (cPre.V hPc hDc hK hE hS hFc (va_recv hK hP (ci := 3) (q0 := 8) rfl rfl)) rfl rfl hl.1 rfl (lv_room (Nat.le_of_ble_eq_true rfl)) dX3_costAsPlannedBy_41 ⟨Nat.zero_le _, Nat.zero_le _⟩) hP hD hS hFc [8, 9, 10, 11, 12, 13, 14, 15] [0, 1, 2, 3, 4, 5, 6, 7] rfl rfl (by decide) (by decide) (fun r4 u4 H locs hw hP hD hS => ?_)
          obtain ⟨rfl, rfl⟩ := hw
          have hP : va_P D vwCl (cP dT a_this g_this ++ (cP dT a_p1 g_p1)) H := hP
          have hD : va_D A (cP dT a_this g_this ++ (cP dT a_p1 g_p1)) := hD
          obtain ⟨o5, e5, h⟩ := obind h
          have hPc := hP.sub (ws' := (cP dT a_this g_this)) [0, 1, 2, 3, 4, 5, 6, 7] rfl
          have hDc := hD.sub (ws' := (cP dT a_this g_this)) [0, 1, 2, 3, 4, 5, 6, 7] (by decide) rfl
          have hFc := va_free (wc := (cP dT a_this g_this)) hD hS hA [0, 1, 2, 3, 4, 5, 6, 7] rfl
          refine cl_l (wr := (cP dT a_p1 g_p1)) (va_runV (As := [.int x4, .int o3.1, .int o4.1]) (rest := [.long x2]) ⟨hx, hb, hml, hown, hts⟩ (c_X3_stepCost l hlt D dT a_this g_this x4 o3.1 o4.1 o5 e5 _) (cwV 3 hts (TB_V w_795 w_797 w_20 w_58 w_798) rfl rfl rfl ⟨rfl, nd_X3_stepCost⟩ ⟨Nat.le_of_ble_eq_true rfl, Nat.le_of_ble_eq_true rfl⟩) (cPre.V hPc hDc hK hE hS hFc (va_recv hK hP (ci := 3) (q0 := 0) rfl rfl)) rfl rfl hl.1 rfl (lv_room (Nat.le_of_ble_eq_true rfl)) dX3_costAsPlannedBy_44 ⟨Nat.zero_le _, Nat.zero_le _⟩) hP hD hS hFc [0, 1, 2, 3, 4, 5, 6, 7] [8, 9, 10, 11, 12, 13, 14, 15] rfl rfl (by decide) (by decide) (fun r5 u5 H locs hw hP hD hS => ?_)
          obtain ⟨rfl, rfl⟩ := hw
          have hP : va_P D vwCl (cP dT a_p1 g_p1 ++ (cP dT a_this g_this)) H := hP
          have hD : va_D A (cP dT a_p1 g_p1 ++ (cP dT a_this g_this)) := hD
          refine lv_ladd hx hb dX3_costAsPlannedBy_47 ?_
          refine lv_lstore_n (lv' := [(2, .long (x2 + o5.1)), (6, .int o3.1), (0, .ref (a_this 0)), (1, .ref (a_p1 0)), (4, .int x4), (5, .int x5)]) hx hb dX3_costAsPlannedBy_48 rfl hl (by decide) rfl (fun ls hl => ?_)
          refine lv_iload hx hb dX3_costAsPlannedBy_49 (lv_at hl 4 rfl) ?_
          refine lv_iconst (v := 1) hx hb dX3_costAsPlannedBy_51 (by decide) ?_
          refine lv_iload hx hb dX3_costAsPlannedBy_52 (lv_at hl 1 rfl) ?_
          refine lv_ishl hx hb dX3_costAsPlannedBy_54 ?_
          refine lv_ior hx hb dX3_costAsPlannedBy_55 ?_
          refine lv_istore (lv' := [(4, .int (x4 ||| ((1 : Int32) <<< (o3.1 &&& 31)))), (2, .long (x2 + o5.1)), (6, .int o3.1), (0, .ref (a_this 0)), (1, .ref (a_p1 0)), (5, .int x5)]) hx hb dX3_costAsPlannedBy_56 hl (by decide) rfl (fun ls hl => ?_)
          refine lv_iinc (v := (x5 + (1 : Int32))) (lv' := [(5, .int (x5 + (1 : Int32))), (4, .int (x4 ||| ((1 : Int32) <<< (o3.1 &&& 31)))), (2, .long (x2 + o5.1)), (6, .int o3.1), (0, .ref (a_this 0)), (1, .ref (a_p1 0))]) hx hb dX3_costAsPlannedBy_58 hl (k := 5) rfl rfl (by decide) rfl (fun ls hl => ?_)
          refine lv_goto (tgt := 8) hx hb dX3_costAsPlannedBy_61 (by decide) ?_
          have hP := hP.sub (ws' := (cP dT a_this g_this ++ (cP dT a_p1 g_p1))) [8, 9, 10, 11, 12, 13, 14, 15, 0, 1, 2, 3, 4, 5, 6, 7] rfl
          have hD := hD.sub (ws' := (cP dT a_this g_this ++ (cP dT a_p1 g_p1))) [8, 9, 10, 11, 12, 13, 14, 15, 0, 1, 2, 3, 4, 5, 6, 7] (by decide) rfl
          exact ih (x2 + o5.1) (x4 ||| ((1 : Int32) <<< (o3.1 &&& 31))) (x5 + (1 : Int32)) _ _ _ h hP hD hS (lv_sub hl [4, 5, 2, 1, 0] rfl)
  unfold f_X3_costAsPlannedBy at h
  refine lv_lconst (v := 0) hx hb dX3_costAsPlannedBy_0 (by decide) ?_
  refine lv_lstore_n (lv' := [(2, .long (0 : Int64)), (0, .ref (a_this 0)), (1, .ref (a_p1 0))]) hx hb dX3_costAsPlannedBy_1 rfl hl (by decide) rfl (fun ls hl => ?_)
  refine lv_iconst (v := 0) hx hb dX3_costAsPlannedBy_2 (by decide) ?_
  refine lv_istore (lv' := [(4, .int (0 : Int32)), (2, .long (0 : Int64)), (0, .ref (a_this 0)), (1, .ref (a_p1 0))]) hx hb dX3_costAsPlannedBy_3 hl (by decide) rfl (fun ls hl => ?_)
  refine lv_iconst (v := 0) hx hb dX3_costAsPlannedBy_5 (by decide) ?_
  refine lv_istore (lv' := [(5, .int (0 : Int32)), (4, .int (0 : Int32)), (2, .long (0 : Int64)), (0, .ref (a_this 0)), (1, .ref (a_p1 0))]) hx hb dX3_costAsPlannedBy_6 hl (by decide) rfl (fun ls hl => ?_)
  refine L_f_X3_costAsPlannedBy_L8 g_this g_p1   FUEL (0 : Int64) (0 : Int32) (0 : Int32) _ _ _ h hP hD hS (lv_sub hl [3, 4, 2, 1, 0] rfl)

def f_X3_costOfRead_L8 (g_this : TP) (g_p1 : TR)  : Nat → Int64 → Int32 → Int32 → Option (Int64 × (Unit))
  | 0, _, _, _ => none
  | n + 1, x2, x4, x5 =>
    (if (7 : Int32) ≤ x5 then (some (x2, ())) else (if (R_count g_p1) ≤ x5 then (some (x2, ())) else ((f_X2_tableAt g_p1 x5).bind fun o3 => ((f_X3_cheaperWay g_this x4 o3.1).bind fun o4 => ((f_X3_stepCost g_this x4 o3.1 o4.1).bind fun o5 => (f_X3_costOfRead_L8 g_this g_p1 n (x2 + o5.1) (x4 ||| ((1 : Int32) <<< (o3.1 &&& 31))) (x5 + (1 : Int32))))))))
def f_X3_costOfRead (g_this : TP) (g_p1 : TR) : Option (Int64 × (Unit)) :=
  (f_X3_costOfRead_L8 g_this g_p1 FUEL (0 : Int64) (0 : Int32) (0 : Int32))
set_option maxHeartbeats 8000000 in
set_option maxRecDepth 100000 in
theorem c_X3_costOfRead (l : Launch) (hlt : l.stackTraces = false) (D : va_G) (dT : Nat → ClassId) (a_this : Nat → Nat) (a_p1 : Nat → Nat) (g_this : TP) (g_p1 : TR) (o : (Int64 × (Unit))) (h : f_X3_costOfRead g_this g_p1 = some o) (sz : Nat) : Met l yX3_costOfRead (WSm yX3_costOfRead cX3_costOfRead 7 (some .long)) { frames := 2, cells := 0, slots := 0, locals := 49 } (va_Pc [.ref (a_this 0), .ref (a_p1 0)] (cPre D dT (cP dT a_this g_this ++ (cR dT a_p1 g_p1)) sz)) (va_Ql (fun (r : Int64) (u : Unit) => r = o.1 ∧ u = o.2) (fun u t => cAt D dT (va_A (cP dT a_this g_this ++ (cR dT a_p1 g_p1)) sz) (cP dT a_this g_this ++ (cR dT a_p1 g_p1)) t) (va_A (cP dT a_this g_this ++ (cR dT a_p1 g_p1)) sz)) 0 0 (va_A (cP dT a_this g_this ++ (cR dT a_p1 g_p1)) sz) := by
  refine mStart (WS := (cP dT a_this g_this ++ (cR dT a_p1 g_p1))) (Qc := fun A => va_Ql (fun (r : Int64) (u : Unit) => r = o.1 ∧ u = o.2) (fun u t => cAt D dT A (cP dT a_this g_this ++ (cR dT a_p1 g_p1)) t) A) RX3 rfl (by decide) (Nat.le_of_ble_eq_true rfl) ?_ sz
  intro p e s m below meth c A ls hx hb hml hr hlk hnm hts hqs hown hE hA hK hP hD hS hl
  have hl : lv_has ls 7 [(0, .ref (a_this 0)), (1, .ref (a_p1 0))] := hl
  have L_f_X3_costOfRead_L8 : ∀ (g_this : TP) (g_p1 : TR)   (n : Nat), ∀ (x2 : Int64) (x4 : Int32) (x5 : Int32) (H : Heap) (locs : List Loc) (ls : Array Slot), f_X3_costOfRead_L8 g_this g_p1  n x2 x4 x5 = some o → va_P D vwCl (cP dT a_this g_this ++ (cR dT a_p1 g_p1)) H → va_D A (cP dT a_this g_this ++ (cR dT a_p1 g_p1)) → va_S A s.heap H locs → lv_has ls 7 [(0, .ref (a_this 0)), (1, .ref (a_p1 0)), (2, .long x2), (4, .int x4), (5, .int x5)] → W p l e (headSpec (WSm yX3_costOfRead cX3_costOfRead 7 (some .long)) { frames := 2, cells := 0, slots := 0, locals := 49 }).room s m [.ref (a_this 0), .ref (a_p1 0)].toArray below meth c H locs 0 0 (MQ below (va_Ql (fun (r : Int64) (u : Unit) => r = o.1 ∧ u = o.2) (fun u t => cAt D dT A (cP dT a_this g_this ++ (cR dT a_p1 g_p1)) t) A) [.ref (a_this 0), .ref (a_p1 0)].toArray s 0 0 A) (F0 m 8 ls []) := by
    intro g_this g_p1   n
    induction n with
    | zero => intro x2 x4 x5 H locs ls h; exact nomatch h
    | succ n ih =>
      intro x2 x4 x5 H locs ls h hP hD hS hl
      unfold f_X3_costOfRead_L8 at h
      refine lv_iload hx hb dX3_costOfRead_8 (lv_at hl 4 rfl) ?_
      refine lv_bipush (v := 7) hx hb dX3_costOfRead_10 (by decide) ?_
      refine lv_icmp_ge (tgt := 66) hx hb dX3_costOfRead_12 (by decide) (fun c1 => ?_) (fun c1 => ?_)
      · replace h := iteT c1 h
        refine lv_lload_n hx hb dX3_costOfRead_66 rfl (lv_at hl 2 rfl) ?_
        exact rt_l hx hb hr hlk hK hS (() : Unit) (ret2 h) hP hD dX3_costOfRead_67
      · replace h := iteF c1 h
        refine lv_iload hx hb dX3_costOfRead_15 (lv_at hl 4 rfl) ?_
        refine lv_aload_n hx hb dX3_costOfRead_17 rfl (lv_at hl 1 rfl) ?_
        refine gf_X3_95 (v := .int (R_count g_p1)) hx hb hqs hown hK hP 8 rfl rfl dX3_costOfRead_18 ?_
        refine lv_icmp_ge (tgt := 66) hx hb dX3_costOfRead_21 (by decide) (fun c2 => ?_) (fun c2 => ?_)
        · replace h := iteT c2 h
          refine lv_lload_n hx hb dX3_costOfRead_66 rfl (lv_at hl 2 rfl) ?_
          exact rt_l hx hb hr hlk hK hS (() : Unit) (ret2 h) hP hD dX3_costOfRead_67
        · replace h := iteF c2 h
          refine lv_aload_n hx hb dX3_costOfRead_24 rfl (lv_at hl 1 rfl) ?_
          refine lv_iload hx hb dX3_costOfRead_25 (lv_at hl 4 rfl) ?_
          obtain ⟨o3, e3, h⟩ := obind h
          have hPc := hP.sub (ws' := (cR dT a_p1 g_p1)) [8, 9] rfl
          have hDc := hD.sub (ws' := (cR dT a_p1 g_p1)) [8, 9] (by decide) rfl
          have hFc := va_free (wc := (cR dT a_p1 g_p1)) hD hS hA [8, 9] rfl
          refine cl_i (wr := (cP dT a_this g_this)) (va_runV (As := [.int x5]) (rest := []) ⟨hx, hb, hml, hown, hts⟩ (c_X2_tableAt l hlt D dT a_p1 g_p1 x5 o3 e3 _) (cwV 1 hts (TB_V w_949 w_950 w_951 w_54 w_952) rfl rfl rfl ⟨rfl, nd_X2_tableAt⟩ ⟨Nat.le_of_ble_eq_true rfl, Nat.le_of_ble_eq_true rfl⟩) (cPre.V hPc hDc hK hE hS hFc (va_recv hK hP (ci := 2) (q0 := 8) rfl rfl)) rfl rfl hl.1 rfl (lv_room (Nat.le_of_ble_eq_true rfl)) dX3_costOfRead_27 ⟨Nat.zero_le _, Nat.zero_le _⟩) hP hD hS hFc [8, 9] [0, 1, 2, 3, 4, 5, 6, 7] rfl rfl (by decide) (by decide) (fun r3 u3 H locs hw hP hD hS => ?_)
          obtain ⟨rfl, rfl⟩ := hw
          have hP : va_P D vwCl (cP dT a_this g_this ++ (cR dT a_p1 g_p1)) H := hP
          have hD : va_D A (cP dT a_this g_this ++ (cR dT a_p1 g_p1)) := hD
          refine lv_istore (lv' := [(6, .int o3.1), (0, .ref (a_this 0)), (1, .ref (a_p1 0)), (2, .long x2), (4, .int x4), (5, .int x5)]) hx hb dX3_costOfRead_30 hl (by decide) rfl (fun ls hl => ?_)
          refine lv_lload_n hx hb dX3_costOfRead_32 rfl (lv_at hl 3 rfl) ?_
          refine lv_aload_n hx hb dX3_costOfRead_33 rfl (lv_at hl 1 rfl) ?_
          refine lv_iload hx hb dX3_costOfRead_34 (lv_at hl 4 rfl) ?_
          refine lv_iload hx hb dX3_costOfRead_36 (lv_at hl 0 rfl) ?_
          refine lv_aload_n hx hb dX3_costOfRead_38 rfl (lv_at hl 1 rfl) ?_
          refine lv_iload hx hb dX3_costOfRead_39 (lv_at hl 4 rfl) ?_
          refine lv_iload hx hb dX3_costOfRead_41 (lv_at hl 0 rfl) ?_
          obtain ⟨o4, e4, h⟩ := obind h
          have hPc := hP.sub (ws' := (cP dT a_this g_this)) [0, 1, 2, 3, 4, 5, 6, 7] rfl
          have hDc := hD.sub (ws' := (cP dT a_this g_this)) [0, 1, 2, 3, 4, 5, 6, 7] (by decide) rfl
          have hFc := va_free (wc := (cP dT a_this g_this)) hD hS hA [0, 1, 2, 3, 4, 5, 6, 7] rfl
          refine cl_i (wr := (cR dT a_p1 g_p1)) (va_runV (As := [.int x4, .int o3.1]) (rest := [.int o3.1, .int x4, .ref (a_this 0), .long x2]) ⟨hx, hb, hml, hown, hts⟩ (c_X3_cheaperWay l hlt D dT a_this g_this x4 o3.1 o4 e4 _) (cwV 2 hts (TB_V w_790 w_792 w_19 w_58 w_793) rfl rfl rfl ⟨rfl, nd_X3_cheaperWay⟩ ⟨Nat.le_of_ble_eq_true rfl, Nat.le_of_ble_eq_true rfl⟩) (cPre.V hPc hDc hK hE hS hFc (va_recv hK hP (ci := 3) (q0 := 0) rfl rfl)) rfl rfl hl.1 rfl (lv_room (Nat.le_of_ble_eq_true rfl)) dX3_costOfRead_43 ⟨Nat.zero_le _, Nat.zero_le _⟩) hP hD hS hFc [0, 1, 2, 3, 4, 5, 6, 7] [8, 9] rfl rfl (by decide) (by decide) (fun r4 u4 H locs hw hP hD hS => ?_)
          obtain ⟨rfl, rfl⟩ := hw
          have hP : va_P D vwCl (cR dT a_p1 g_p1 ++ (cP dT a_this g_this)) H := hP
          have hD : va_D A (cR dT a_p1 g_p1 ++ (cP dT a_this g_this)) := hD
          obtain ⟨o5, e5, h⟩ := obind h
          have hPc := hP.sub (ws' := (cP dT a_this g_this)) [2, 3, 4, 5, 6, 7, 8, 9] rfl
          have hDc := hD.sub (ws' := (cP dT a_this g_this)) [2, 3, 4, 5, 6, 7, 8, 9] (by decide) rfl
          have hFc := va_free (wc := (cP dT a_this g_this)) hD hS hA [2, 3, 4, 5, 6, 7, 8, 9] rfl
          refine cl_l (wr := (cR dT a_p1 g_p1)) (va_runV (As := [.int x4, .int o3.1, .int o4.1]) (rest := [.long x2]) ⟨hx, hb, hml, hown, hts⟩ (c_X3_stepCost l hlt D dT a_this g_this x4 o3.1 o4.1 o5 e5 _) (cwV 3 hts (TB_V w_795 w_797 w_20 w_58 w_798) rfl rfl rfl ⟨rfl, nd_X3_stepCost⟩ ⟨Nat.le_of_ble_eq_true rfl, Nat.le_of_ble_eq_true rfl⟩) (cPre.V hPc hDc hK hE hS hFc (va_recv hK hP (ci := 3) (q0 := 2) rfl rfl)) rfl rfl hl.1 rfl (lv_room (Nat.le_of_ble_eq_true rfl)) dX3_costOfRead_46 ⟨Nat.zero_le _, Nat.zero_le _⟩) hP hD hS hFc [2, 3, 4, 5, 6, 7, 8, 9] [0, 1] rfl rfl (by decide) (by decide) (fun r5 u5 H locs hw hP hD hS => ?_)
          obtain ⟨rfl, rfl⟩ := hw
          have hP : va_P D vwCl (cR dT a_p1 g_p1 ++ (cP dT a_this g_this)) H := hP
          have hD : va_D A (cR dT a_p1 g_p1 ++ (cP dT a_this g_this)) := hD
          refine lv_ladd hx hb dX3_costOfRead_49 ?_
          refine lv_lstore_n (lv' := [(2, .long (x2 + o5.1)), (6, .int o3.1), (0, .ref (a_this 0)), (1, .ref (a_p1 0)), (4, .int x4), (5, .int x5)]) hx hb dX3_costOfRead_50 rfl hl (by decide) rfl (fun ls hl => ?_)
          refine lv_iload hx hb dX3_costOfRead_51 (lv_at hl 4 rfl) ?_
          refine lv_iconst (v := 1) hx hb dX3_costOfRead_53 (by decide) ?_
          refine lv_iload hx hb dX3_costOfRead_54 (lv_at hl 1 rfl) ?_
          refine lv_ishl hx hb dX3_costOfRead_56 ?_
          refine lv_ior hx hb dX3_costOfRead_57 ?_
          refine lv_istore (lv' := [(4, .int (x4 ||| ((1 : Int32) <<< (o3.1 &&& 31)))), (2, .long (x2 + o5.1)), (6, .int o3.1), (0, .ref (a_this 0)), (1, .ref (a_p1 0)), (5, .int x5)]) hx hb dX3_costOfRead_58 hl (by decide) rfl (fun ls hl => ?_)
          refine lv_iinc (v := (x5 + (1 : Int32))) (lv' := [(5, .int (x5 + (1 : Int32))), (4, .int (x4 ||| ((1 : Int32) <<< (o3.1 &&& 31)))), (2, .long (x2 + o5.1)), (6, .int o3.1), (0, .ref (a_this 0)), (1, .ref (a_p1 0))]) hx hb dX3_costOfRead_60 hl (k := 5) rfl rfl (by decide) rfl (fun ls hl => ?_)
          refine lv_goto (tgt := 8) hx hb dX3_costOfRead_63 (by decide) ?_
          have hP := hP.sub (ws' := (cP dT a_this g_this ++ (cR dT a_p1 g_p1))) [2, 3, 4, 5, 6, 7, 8, 9, 0, 1] rfl
          have hD := hD.sub (ws' := (cP dT a_this g_this ++ (cR dT a_p1 g_p1))) [2, 3, 4, 5, 6, 7, 8, 9, 0, 1] (by decide) rfl
          exact ih (x2 + o5.1) (x4 ||| ((1 : Int32) <<< (o3.1 &&& 31))) (x5 + (1 : Int32)) _ _ _ h hP hD hS (lv_sub hl [4, 5, 2, 1, 0] rfl)
  unfold f_X3_costOfRead at h
  refine lv_lconst (v := 0) hx hb dX3_costOfRead_0 (by decide) ?_
  refine lv_lstore_n (lv' := [(2, .long (0 : Int64)), (0, .ref (a_this 0)), (1, .ref (a_p1 0))]) hx hb dX3_costOfRead_1 rfl hl (by decide) rfl (fun ls hl => ?_)
  refine lv_iconst (v := 0) hx hb dX3_costOfRead_2 (by decide) ?_
  refine lv_istore (lv' := [(4, .int (0 : Int32)), (2, .long (0 : Int64)), (0, .ref (a_this 0)), (1, .ref (a_p1 0))]) hx hb dX3_costOfRead_3 hl (by decide) rfl (fun ls hl => ?_)
  refine lv_iconst (v := 0) hx hb dX3_costOfRead_5 (by decide) ?_
  refine lv_istore (lv' := [(5, .int (0 : Int32)), (4, .int (0 : Int32)), (2, .long (0 : Int64)), (0, .ref (a_this 0)), (1, .ref (a_p1 0))]) hx hb dX3_costOfRead_6 hl (by decide) rfl (fun ls hl => ?_)
  refine L_f_X3_costOfRead_L8 g_this g_p1   FUEL (0 : Int64) (0 : Int32) (0 : Int32) _ _ _ h hP hD hS (lv_sub hl [3, 4, 2, 1, 0] rfl)

def f_X3_hasOrderOf_L2 (g_this : TP) (g_p1 : TP)  : Nat → Int32 → Option (Int32 × (Unit))
  | 0, _ => none
  | n + 1, x2 =>
    (if (7 : Int32) ≤ x2 then (some ((1 : Int32), ())) else ((f_X3_tableAt g_this x2).bind fun o2 => ((f_X3_tableAt g_p1 x2).bind fun o3 => (if o2.1 = o3.1 then (f_X3_hasOrderOf_L2 g_this g_p1 n (x2 + (1 : Int32))) else (some ((0 : Int32), ()))))))
def f_X3_hasOrderOf (g_this : TP) (g_p1 : TP) : Option (Int32 × (Unit)) :=
  (f_X3_hasOrderOf_L2 g_this g_p1 FUEL (0 : Int32))
set_option maxHeartbeats 8000000 in
set_option maxRecDepth 100000 in
theorem c_X3_hasOrderOf (l : Launch) (hlt : l.stackTraces = false) (D : va_G) (dT : Nat → ClassId) (a_this : Nat → Nat) (a_p1 : Nat → Nat) (g_this : TP) (g_p1 : TP) (o : (Int32 × (Unit))) (h : f_X3_hasOrderOf g_this g_p1 = some o) (sz : Nat) : Met l yX3_hasOrderOf (WSm yX3_hasOrderOf cX3_hasOrderOf 3 (some .boolean)) { frames := 1, cells := 0, slots := 0, locals := 21 } (va_Pc [.ref (a_this 0), .ref (a_p1 0)] (cPre D dT (cP dT a_this g_this ++ (cP dT a_p1 g_p1)) sz)) (va_Qi (fun (r : Int32) (u : Unit) => r = o.1 ∧ u = o.2) (fun u t => cAt D dT (va_A (cP dT a_this g_this ++ (cP dT a_p1 g_p1)) sz) (cP dT a_this g_this ++ (cP dT a_p1 g_p1)) t) (va_A (cP dT a_this g_this ++ (cP dT a_p1 g_p1)) sz)) 0 0 (va_A (cP dT a_this g_this ++ (cP dT a_p1 g_p1)) sz) := by
  refine mStart (WS := (cP dT a_this g_this ++ (cP dT a_p1 g_p1))) (Qc := fun A => va_Qi (fun (r : Int32) (u : Unit) => r = o.1 ∧ u = o.2) (fun u t => cAt D dT A (cP dT a_this g_this ++ (cP dT a_p1 g_p1)) t) A) RX3 rfl (by decide) (Nat.le_of_ble_eq_true rfl) ?_ sz
  intro p e s m below meth c A ls hx hb hml hr hlk hnm hts hqs hown hE hA hK hP hD hS hl
  have hl : lv_has ls 3 [(0, .ref (a_this 0)), (1, .ref (a_p1 0))] := hl
  have L_f_X3_hasOrderOf_L2 : ∀ (g_this : TP) (g_p1 : TP)   (n : Nat), ∀ (x2 : Int32) (H : Heap) (locs : List Loc) (ls : Array Slot), f_X3_hasOrderOf_L2 g_this g_p1  n x2 = some o → va_P D vwCl (cP dT a_this g_this ++ (cP dT a_p1 g_p1)) H → va_D A (cP dT a_this g_this ++ (cP dT a_p1 g_p1)) → va_S A s.heap H locs → lv_has ls 3 [(0, .ref (a_this 0)), (1, .ref (a_p1 0)), (2, .int x2)] → W p l e (headSpec (WSm yX3_hasOrderOf cX3_hasOrderOf 3 (some .boolean)) { frames := 1, cells := 0, slots := 0, locals := 21 }).room s m [.ref (a_this 0), .ref (a_p1 0)].toArray below meth c H locs 0 0 (MQ below (va_Qi (fun (r : Int32) (u : Unit) => r = o.1 ∧ u = o.2) (fun u t => cAt D dT A (cP dT a_this g_this ++ (cP dT a_p1 g_p1)) t) A) [.ref (a_this 0), .ref (a_p1 0)].toArray s 0 0 A) (F0 m 2 ls []) := by
    intro g_this g_p1   n
    induction n with
    | zero => intro x2 H locs ls h; exact nomatch h
    | succ n ih =>
      intro x2 H locs ls h hP hD hS hl
      unfold f_X3_hasOrderOf_L2 at h
      refine lv_iload_n hx hb dX3_hasOrderOf_2 rfl (lv_at hl 2 rfl) ?_
      refine lv_bipush (v := 7) hx hb dX3_hasOrderOf_3 (by decide) ?_
      refine lv_icmp_ge (tgt := 29) hx hb dX3_hasOrderOf_5 (by decide) (fun c1 => ?_) (fun c1 => ?_)
      · replace h := iteT c1 h
        refine lv_iconst (v := 1) hx hb dX3_hasOrderOf_29 (by decide) ?_
        exact rt_z hx hb hr hlk hK hS (() : Unit) (ret2 h) (by decide) hP hD dX3_hasOrderOf_30
      · replace h := iteF c1 h
        refine lv_aload_n hx hb dX3_hasOrderOf_8 rfl (lv_at hl 0 rfl) ?_
        refine lv_iload_n hx hb dX3_hasOrderOf_9 rfl (lv_at hl 2 rfl) ?_
        obtain ⟨o2, e2, h⟩ := obind h
        have hPc := hP.sub (ws' := (cP dT a_this g_this)) [0, 1, 2, 3, 4, 5, 6, 7] rfl
        have hDc := hD.sub (ws' := (cP dT a_this g_this)) [0, 1, 2, 3, 4, 5, 6, 7] (by decide) rfl
        have hFc := va_free (wc := (cP dT a_this g_this)) hD hS hA [0, 1, 2, 3, 4, 5, 6, 7] rfl
        refine cl_i (wr := (cP dT a_p1 g_p1)) (va_runV (As := [.int x2]) (rest := []) ⟨hx, hb, hml, hown, hts⟩ (c_X3_tableAt l hlt D dT a_this g_this x2 o2 e2 _) (cwV 1 hts (TB_V w_813 w_814 w_815 w_58 w_816) rfl rfl rfl ⟨rfl, nd_X3_tableAt⟩ ⟨Nat.le_of_ble_eq_true rfl, Nat.le_of_ble_eq_true rfl⟩) (cPre.V hPc hDc hK hE hS hFc (va_recv hK hP (ci := 3) (q0 := 0) rfl rfl)) rfl rfl hl.1 rfl (lv_room (Nat.le_of_ble_eq_true rfl)) dX3_hasOrderOf_10 ⟨Nat.zero_le _, Nat.zero_le _⟩) hP hD hS hFc [0, 1, 2, 3, 4, 5, 6, 7] [8, 9, 10, 11, 12, 13, 14, 15] rfl rfl (by decide) (by decide) (fun r2 u2 H locs hw hP hD hS => ?_)
        obtain ⟨rfl, rfl⟩ := hw
        have hP : va_P D vwCl (cP dT a_p1 g_p1 ++ (cP dT a_this g_this)) H := hP
        have hD : va_D A (cP dT a_p1 g_p1 ++ (cP dT a_this g_this)) := hD
        refine lv_aload_n hx hb dX3_hasOrderOf_13 rfl (lv_at hl 1 rfl) ?_
        refine lv_iload_n hx hb dX3_hasOrderOf_14 rfl (lv_at hl 2 rfl) ?_
        obtain ⟨o3, e3, h⟩ := obind h
        have hPc := hP.sub (ws' := (cP dT a_p1 g_p1)) [0, 1, 2, 3, 4, 5, 6, 7] rfl
        have hDc := hD.sub (ws' := (cP dT a_p1 g_p1)) [0, 1, 2, 3, 4, 5, 6, 7] (by decide) rfl
        have hFc := va_free (wc := (cP dT a_p1 g_p1)) hD hS hA [0, 1, 2, 3, 4, 5, 6, 7] rfl
        refine cl_i (wr := (cP dT a_this g_this)) (va_runV (As := [.int x2]) (rest := [.int o2.1]) ⟨hx, hb, hml, hown, hts⟩ (c_X3_tableAt l hlt D dT a_p1 g_p1 x2 o3 e3 _) (cwV 1 hts (TB_V w_813 w_814 w_815 w_58 w_816) rfl rfl rfl ⟨rfl, nd_X3_tableAt⟩ ⟨Nat.le_of_ble_eq_true rfl, Nat.le_of_ble_eq_true rfl⟩) (cPre.V hPc hDc hK hE hS hFc (va_recv hK hP (ci := 3) (q0 := 0) rfl rfl)) rfl rfl hl.1 rfl (lv_room (Nat.le_of_ble_eq_true rfl)) dX3_hasOrderOf_15 ⟨Nat.zero_le _, Nat.zero_le _⟩) hP hD hS hFc [0, 1, 2, 3, 4, 5, 6, 7] [8, 9, 10, 11, 12, 13, 14, 15] rfl rfl (by decide) (by decide) (fun r3 u3 H locs hw hP hD hS => ?_)
        obtain ⟨rfl, rfl⟩ := hw
        have hP : va_P D vwCl (cP dT a_this g_this ++ (cP dT a_p1 g_p1)) H := hP
        have hD : va_D A (cP dT a_this g_this ++ (cP dT a_p1 g_p1)) := hD
        refine lv_icmp_eq (tgt := 23) hx hb dX3_hasOrderOf_18 (by decide) (fun c4 => ?_) (fun c4 => ?_)
        · replace h := iteT c4 h
          refine lv_iinc (v := (x2 + (1 : Int32))) (lv' := [(2, .int (x2 + (1 : Int32))), (0, .ref (a_this 0)), (1, .ref (a_p1 0))]) hx hb dX3_hasOrderOf_23 hl (k := 2) rfl rfl (by decide) rfl (fun ls hl => ?_)
          refine lv_goto (tgt := 2) hx hb dX3_hasOrderOf_26 (by decide) ?_
          exact ih (x2 + (1 : Int32)) _ _ _ h hP hD hS (lv_sub hl [1, 2, 0] rfl)
        · replace h := iteF c4 h
          refine lv_iconst (v := 0) hx hb dX3_hasOrderOf_21 (by decide) ?_
          exact rt_z hx hb hr hlk hK hS (() : Unit) (ret2 h) (by decide) hP hD dX3_hasOrderOf_22
  unfold f_X3_hasOrderOf at h
  refine lv_iconst (v := 0) hx hb dX3_hasOrderOf_0 (by decide) ?_
  refine lv_istore_n (lv' := [(2, .int (0 : Int32)), (0, .ref (a_this 0)), (1, .ref (a_p1 0))]) hx hb dX3_hasOrderOf_1 rfl hl (by decide) rfl (fun ls hl => ?_)
  refine L_f_X3_hasOrderOf_L2 g_this g_p1   FUEL (0 : Int32) _ _ _ h hP hD hS (lv_sub hl [1, 2, 0] rfl)

