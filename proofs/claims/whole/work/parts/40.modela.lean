def f_X9_begin_L2 (n_p1 : Nat) (k19 : (Nat → Int64) → Option (Unit × ((Nat → Int64)))) : Nat → Int32 → (Nat → Int64) → Option (Unit × ((Nat → Int64)))
  | 0, _, _ => none
  | n + 1, x1, g_p1 =>
    (if (353 : Int32) ≤ x1 then (k19 g_p1) else (if inb x1 n_p1 = true then (f_X9_begin_L2 n_p1 k19 n (x1 + (1 : Int32)) (vp_updL g_p1 x1.toNatClampNeg (0 : Int64))) else none))
def f_X9_begin (n_p1 : Nat) (g_p1 : Nat → Int64) : Option (Unit × ((Nat → Int64))) :=
  (f_X9_begin_L2 n_p1 (fun (y3g_p1 : Nat → Int64) => (if inb (302 : Int32) n_p1 = true then (if inb (303 : Int32) n_p1 = true then (if inb (304 : Int32) n_p1 = true then (some ((), (vp_updL (vp_updL (vp_updL y3g_p1 (302 : Int32).toNatClampNeg (50 : Int64)) (303 : Int32).toNatClampNeg (10 : Int64)) (304 : Int32).toNatClampNeg (4 : Int64)))) else none) else none) else none)) FUEL (0 : Int32) g_p1)
set_option maxHeartbeats 8000000 in
set_option maxRecDepth 100000 in
theorem c_X9_begin (l : Launch) (hlt : l.stackTraces = false) (D : va_G) (dT : Nat → ClassId) (a_p1 : Nat) (n_p1 : Nat) (g_p1 : Nat → Int64) (o : (Unit × ((Nat → Int64)))) (h : f_X9_begin n_p1 g_p1 = some o) (sz : Nat) : Met l yX9_begin (WSm yX9_begin cX9_begin 2 none) { frames := 0, cells := 0, slots := 0, locals := 0 } (va_Pc [.ref a_p1] (cPre D dT (cJ_ dT a_p1 n_p1 g_p1) sz)) (va_Qv (fun (u : (Nat → Int64)) => u = o.2) (fun u t => cAt D dT (va_A (cJ_ dT a_p1 n_p1 g_p1) sz) (cJ_ dT a_p1 n_p1 u) t) (va_A (cJ_ dT a_p1 n_p1 g_p1) sz)) 0 0 (va_A (cJ_ dT a_p1 n_p1 g_p1) sz) := by
  refine mStart (WS := (cJ_ dT a_p1 n_p1 g_p1)) (Qc := fun A => va_Qv (fun (u : (Nat → Int64)) => u = o.2) (fun u t => cAt D dT A (cJ_ dT a_p1 n_p1 u) t) A) RX9 rfl (by decide) (Nat.le_of_ble_eq_true rfl) ?_ sz
  intro p e s m below meth c A ls hx hb hml hr hlk hnm hts hqs hown hE hA hK hP hD hS hl
  have hl : lv_has ls 2 [(0, .ref a_p1)] := hl
  have L_f_X9_begin_L2 : ∀ (n_p1 : Nat) (k19 : (Nat → Int64) → Option (Unit × ((Nat → Int64)))) (hk19 : ∀ (g_p1 : Nat → Int64) (H : Heap) (locs : List Loc) (ls : Array Slot), k19 g_p1 = some o → va_P D vwCl (cJ_ dT a_p1 n_p1 g_p1) H → va_D A (cJ_ dT a_p1 n_p1 g_p1) → va_S A s.heap H locs → lv_has ls 2 [(0, .ref a_p1)] → W p l e (headSpec (WSm yX9_begin cX9_begin 2 none) { frames := 0, cells := 0, slots := 0, locals := 0 }).room s m [.ref a_p1].toArray below meth c H locs 0 0 (MQ below (va_Qv (fun (u : (Nat → Int64)) => u = o.2) (fun u t => cAt D dT A (cJ_ dT a_p1 n_p1 u) t) A) [.ref a_p1].toArray s 0 0 A) (F0 m 19 ls [])) (n : Nat), ∀ (x1 : Int32) (g_p1 : Nat → Int64) (H : Heap) (locs : List Loc) (ls : Array Slot), f_X9_begin_L2 n_p1 k19 n x1 g_p1 = some o → va_P D vwCl (cJ_ dT a_p1 n_p1 g_p1) H → va_D A (cJ_ dT a_p1 n_p1 g_p1) → va_S A s.heap H locs → lv_has ls 2 [(0, .ref a_p1), (1, .int x1)] → W p l e (headSpec (WSm yX9_begin cX9_begin 2 none) { frames := 0, cells := 0, slots := 0, locals := 0 }).room s m [.ref a_p1].toArray below meth c H locs 0 0 (MQ below (va_Qv (fun (u : (Nat → Int64)) => u = o.2) (fun u t => cAt D dT A (cJ_ dT a_p1 n_p1 u) t) A) [.ref a_p1].toArray s 0 0 A) (F0 m 2 ls []) := by
    intro n_p1 k19 hk19 n
    induction n with
    | zero => intro x1 g_p1 H locs ls h; exact nomatch h
    | succ n ih =>
      intro x1 g_p1 H locs ls h hP hD hS hl
      unfold f_X9_begin_L2 at h
      refine lv_iload_n hx hb dX9_begin_2 rfl (lv_at hl 1 rfl) ?_
      refine lv_sipush (v := 353) hx hb dX9_begin_3 (by decide) ?_
      refine lv_icmp_ge (tgt := 19) hx hb dX9_begin_6 (by decide) (fun c1 => ?_) (fun c1 => ?_)
      · replace h := iteT c1 h
        exact hk19 g_p1 _ _ _ h hP hD hS (lv_sub hl [0] rfl)
      · replace h := iteF c1 h
        refine lv_aload_n hx hb dX9_begin_9 rfl (lv_at hl 0 rfl) ?_
        refine lv_iload_n hx hb dX9_begin_10 rfl (lv_at hl 1 rfl) ?_
        refine lv_lconst (v := 0) hx hb dX9_begin_11 (by decide) ?_
        obtain ⟨g2, h⟩ := chk h
        refine va_last hx hb hK hP hD hS 0 1 rfl rfl (inb_in g2) dX9_begin_12 (fun H locs hP hD hS => ?_)
        have hP : va_P D vwCl (cJ_ dT a_p1 n_p1 (vp_updL g_p1 x1.toNatClampNeg (0 : Int64))) H := hP
        have hD : va_D A (cJ_ dT a_p1 n_p1 (vp_updL g_p1 x1.toNatClampNeg (0 : Int64))) := hD
        refine lv_iinc (v := (x1 + (1 : Int32))) (lv' := [(1, .int (x1 + (1 : Int32))), (0, .ref a_p1)]) hx hb dX9_begin_13 hl (k := 1) rfl rfl (by decide) rfl (fun ls hl => ?_)
        refine lv_goto (tgt := 2) hx hb dX9_begin_16 (by decide) ?_
        exact ih (x1 + (1 : Int32)) (vp_updL g_p1 x1.toNatClampNeg (0 : Int64)) _ _ _ h hP hD hS (lv_sub hl [1, 0] rfl)
  unfold f_X9_begin at h
  refine lv_iconst (v := 0) hx hb dX9_begin_0 (by decide) ?_
  refine lv_istore_n (lv' := [(1, .int (0 : Int32)), (0, .ref a_p1)]) hx hb dX9_begin_1 rfl hl (by decide) rfl (fun ls hl => ?_)
  refine L_f_X9_begin_L2 n_p1 _ ?_ FUEL (0 : Int32) g_p1 _ _ _ h hP hD hS (lv_sub hl [1, 0] rfl)
  · intro y3g_p1 H locs ls h hP hD hS hl
    refine lv_aload_n hx hb dX9_begin_19 rfl (lv_at hl 0 rfl) ?_
    refine lv_sipush (v := 302) hx hb dX9_begin_20 (by decide) ?_
    refine lv_ldc2 (v := 50) hx hb hown (hqs _ w_1065) dX9_begin_23 ?_
    obtain ⟨g4, h⟩ := chk h
    refine va_last hx hb hK hP hD hS 0 1 rfl rfl (inb_in g4) dX9_begin_26 (fun H locs hP hD hS => ?_)
    have hP : va_P D vwCl (cJ_ dT a_p1 n_p1 (vp_updL y3g_p1 (302 : Int32).toNatClampNeg (50 : Int64))) H := hP
    have hD : va_D A (cJ_ dT a_p1 n_p1 (vp_updL y3g_p1 (302 : Int32).toNatClampNeg (50 : Int64))) := hD
    refine lv_aload_n hx hb dX9_begin_27 rfl (lv_at hl 0 rfl) ?_
    refine lv_sipush (v := 303) hx hb dX9_begin_28 (by decide) ?_
    refine lv_ldc2 (v := 10) hx hb hown (hqs _ w_1066) dX9_begin_31 ?_
    obtain ⟨g5, h⟩ := chk h
    refine va_last hx hb hK hP hD hS 0 1 rfl rfl (inb_in g5) dX9_begin_34 (fun H locs hP hD hS => ?_)
    have hP : va_P D vwCl (cJ_ dT a_p1 n_p1 (vp_updL (vp_updL y3g_p1 (302 : Int32).toNatClampNeg (50 : Int64)) (303 : Int32).toNatClampNeg (10 : Int64))) H := hP
    have hD : va_D A (cJ_ dT a_p1 n_p1 (vp_updL (vp_updL y3g_p1 (302 : Int32).toNatClampNeg (50 : Int64)) (303 : Int32).toNatClampNeg (10 : Int64))) := hD
    refine lv_aload_n hx hb dX9_begin_35 rfl (lv_at hl 0 rfl) ?_
    refine lv_sipush (v := 304) hx hb dX9_begin_36 (by decide) ?_
    refine lv_ldc2 (v := 4) hx hb hown (hqs _ w_1067) dX9_begin_39 ?_
    obtain ⟨g6, h⟩ := chk h
    refine va_last hx hb hK hP hD hS 0 1 rfl rfl (inb_in g6) dX9_begin_42 (fun H locs hP hD hS => ?_)
    have hP : va_P D vwCl (cJ_ dT a_p1 n_p1 (vp_updL (vp_updL (vp_updL y3g_p1 (302 : Int32).toNatClampNeg (50 : Int64)) (303 : Int32).toNatClampNeg (10 : Int64)) (304 : Int32).toNatClampNeg (4 : Int64))) H := hP
    have hD : va_D A (cJ_ dT a_p1 n_p1 (vp_updL (vp_updL (vp_updL y3g_p1 (302 : Int32).toNatClampNeg (50 : Int64)) (303 : Int32).toNatClampNeg (10 : Int64)) (304 : Int32).toNatClampNeg (4 : Int64))) := hD
    exact rt_v hx hb hr hlk hK hS ((vp_updL (vp_updL (vp_updL y3g_p1 (302 : Int32).toNatClampNeg (50 : Int64)) (303 : Int32).toNatClampNeg (10 : Int64)) (304 : Int32).toNatClampNeg (4 : Int64)) : (Nat → Int64)) (retv h) hP hD dX9_begin_43

def f_X9_thrown (g_this : TM) : Option (Int32 × (Unit)) :=
  (some ((M_refusal g_this), ()))
set_option maxHeartbeats 8000000 in
set_option maxRecDepth 100000 in
theorem c_X9_thrown (l : Launch) (hlt : l.stackTraces = false) (D : va_G) (dT : Nat → ClassId) (a_this : Nat → Nat) (g_this : TM) (o : (Int32 × (Unit))) (h : f_X9_thrown g_this = some o) (sz : Nat) : Met l yX9_thrown (WSm yX9_thrown cX9_thrown 1 (some .int)) { frames := 0, cells := 0, slots := 0, locals := 0 } (va_Pc [.ref (a_this 0)] (cPre D dT (cM a_this g_this) sz)) (va_Qi (fun (r : Int32) (u : Unit) => r = o.1 ∧ u = o.2) (fun u t => cAt D dT (va_A (cM a_this g_this) sz) (cM a_this g_this) t) (va_A (cM a_this g_this) sz)) 0 0 (va_A (cM a_this g_this) sz) := by
  refine mStart (WS := (cM a_this g_this)) (Qc := fun A => va_Qi (fun (r : Int32) (u : Unit) => r = o.1 ∧ u = o.2) (fun u t => cAt D dT A (cM a_this g_this) t) A) RX9 rfl (by decide) (Nat.le_of_ble_eq_true rfl) ?_ sz
  intro p e s m below meth c A ls hx hb hml hr hlk hnm hts hqs hown hE hA hK hP hD hS hl
  have hl : lv_has ls 1 [(0, .ref (a_this 0))] := hl
  unfold f_X9_thrown at h
  refine lv_aload_n hx hb dX9_thrown_0 rfl (lv_at hl 0 rfl) ?_
  refine gf_X9_55 (v := .int (M_refusal g_this)) hx hb hqs hown hK hP 0 rfl rfl dX9_thrown_1 ?_
  exact rt_i hx hb hr hlk hK hS (() : Unit) (ret2 h) hP hD dX9_thrown_4

def f_X9_refused (g_this : TM) (v1 : Int32) : Option (Int32 × (TM)) :=
  (if v1 ≤ (0 : Int32) then (some ((0 : Int32), (M_mk v1 (M_size g_this) (M_acts g_this) (M_planned g_this) (M_spot g_this) (M_out g_this)))) else (some ((1 : Int32), (M_mk v1 (M_size g_this) (M_acts g_this) (M_planned g_this) (M_spot g_this) (M_out g_this)))))
set_option maxHeartbeats 8000000 in
set_option maxRecDepth 100000 in
theorem c_X9_refused (l : Launch) (hlt : l.stackTraces = false) (D : va_G) (dT : Nat → ClassId) (a_this : Nat → Nat) (g_this : TM) (v1 : Int32) (o : (Int32 × (TM))) (h : f_X9_refused g_this v1 = some o) (sz : Nat) : Met l yX9_refused (WSm yX9_refused cX9_refused 2 (some .boolean)) { frames := 0, cells := 0, slots := 0, locals := 0 } (va_Pc [.ref (a_this 0), .int v1] (cPre D dT (cM a_this g_this) sz)) (va_Qi (fun (r : Int32) (u : TM) => r = o.1 ∧ u = o.2) (fun u t => cAt D dT (va_A (cM a_this g_this) sz) (cM a_this u) t) (va_A (cM a_this g_this) sz)) 0 0 (va_A (cM a_this g_this) sz) := by
  refine mStart (WS := (cM a_this g_this)) (Qc := fun A => va_Qi (fun (r : Int32) (u : TM) => r = o.1 ∧ u = o.2) (fun u t => cAt D dT A (cM a_this u) t) A) RX9 rfl (by decide) (Nat.le_of_ble_eq_true rfl) ?_ sz
  intro p e s m below meth c A ls hx hb hml hr hlk hnm hts hqs hown hE hA hK hP hD hS hl
  have hl : lv_has ls 2 [(0, .ref (a_this 0)), (1, .int v1)] := hl
  unfold f_X9_refused at h
  refine lv_aload_n hx hb dX9_refused_0 rfl (lv_at hl 0 rfl) ?_
  refine lv_iload_n hx hb dX9_refused_1 rfl (lv_at hl 1 rfl) ?_
  refine pf_X9_55 hx hb hqs hown hK hP hD hS 0 rfl rfl dX9_refused_2 (fun H locs hP hD hS => ?_)
  have hP : va_P D vwCl ([(a_this 0, .inr (8, [.int v1, .ref (a_this 1), .int (M_size g_this), .ref (a_this 2), .ref (a_this 3), .ref (a_this 4), .int (M_acts g_this), .ref (a_this 5), .ref (a_this 6), .ref (a_this 7), .ref (a_this 8), .ref (a_this 9), .ref (a_this 10), .int (M_planned g_this), .int (M_spot g_this), .int (M_out g_this), .ref (a_this 11)]))]) H := hP
  have hD : va_D A ([(a_this 0, .inr (8, [.int v1, .ref (a_this 1), .int (M_size g_this), .ref (a_this 2), .ref (a_this 3), .ref (a_this 4), .int (M_acts g_this), .ref (a_this 5), .ref (a_this 6), .ref (a_this 7), .ref (a_this 8), .ref (a_this 9), .ref (a_this 10), .int (M_planned g_this), .int (M_spot g_this), .int (M_out g_this), .ref (a_this 11)]))]) := hD
  refine lv_iload_n hx hb dX9_refused_5 rfl (lv_at hl 1 rfl) ?_
  refine lv_if_le (tgt := 13) hx hb dX9_refused_6 (by decide) (fun c1 => ?_) (fun c1 => ?_)
  · replace h := iteT c1 h
    refine lv_iconst (v := 0) hx hb dX9_refused_13 (by decide) ?_
    exact rt_z hx hb hr hlk hK hS ((M_mk v1 (M_size g_this) (M_acts g_this) (M_planned g_this) (M_spot g_this) (M_out g_this)) : TM) (ret2 h) (by decide) hP hD dX9_refused_14
  · replace h := iteF c1 h
    refine lv_iconst (v := 1) hx hb dX9_refused_9 (by decide) ?_
    refine lv_goto (tgt := 14) hx hb dX9_refused_10 (by decide) ?_
    exact rt_z hx hb hr hlk hK hS ((M_mk v1 (M_size g_this) (M_acts g_this) (M_planned g_this) (M_spot g_this) (M_out g_this)) : TM) (ret2 h) (by decide) hP hD dX9_refused_14

def f_X9_in (v0 : Int64) (v2 : Int64) (v4 : Int64) : Option (Int32 × (Unit)) :=
  (if (lg_cmp v0 v2) < (0 : Int32) then (some ((0 : Int32), ())) else (if (0 : Int32) < (lg_cmp v0 v4) then (some ((0 : Int32), ())) else (some ((1 : Int32), ()))))
set_option maxHeartbeats 8000000 in
set_option maxRecDepth 100000 in
theorem c_X9_in (l : Launch) (hlt : l.stackTraces = false) (D : va_G) (dT : Nat → ClassId) (v0 : Int64) (v2 : Int64) (v4 : Int64) (o : (Int32 × (Unit))) (h : f_X9_in v0 v2 v4 = some o) (sz : Nat) : Met l yX9_in (WSm yX9_in cX9_in 6 (some .boolean)) { frames := 0, cells := 0, slots := 0, locals := 0 } (va_Pc [.long v0, .long v2, .long v4] (cPre D dT ([] : va_W) sz)) (va_Qi (fun (r : Int32) (u : Unit) => r = o.1 ∧ u = o.2) (fun u t => cAt D dT (va_A ([] : va_W) sz) ([] : va_W) t) (va_A ([] : va_W) sz)) 0 0 (va_A ([] : va_W) sz) := by
  refine mStart (WS := ([] : va_W)) (Qc := fun A => va_Qi (fun (r : Int32) (u : Unit) => r = o.1 ∧ u = o.2) (fun u t => cAt D dT A ([] : va_W) t) A) RX9 rfl (by decide) (Nat.le_of_ble_eq_true rfl) ?_ sz
  intro p e s m below meth c A ls hx hb hml hr hlk hnm hts hqs hown hE hA hK hP hD hS hl
  have hl : lv_has ls 6 [(0, .long v0), (2, .long v2), (4, .long v4)] := hl
  unfold f_X9_in at h
  refine lv_lload_n hx hb dX9_in_0 rfl (lv_at hl 0 rfl) ?_
  refine lv_lload_n hx hb dX9_in_1 rfl (lv_at hl 1 rfl) ?_
  refine W.lcmp hx hb dX9_in_2 ?_
  refine lv_if_lt (tgt := 17) hx hb dX9_in_3 (by decide) (fun c1 => ?_) (fun c1 => ?_)
  · replace h := iteT c1 h
    refine lv_iconst (v := 0) hx hb dX9_in_17 (by decide) ?_
    exact rt_z hx hb hr hlk hK hS (() : Unit) (ret2 h) (by decide) hP hD dX9_in_18
  · replace h := iteF c1 h
    refine lv_lload_n hx hb dX9_in_6 rfl (lv_at hl 0 rfl) ?_
    refine lv_lload hx hb dX9_in_7 (lv_at hl 2 rfl) ?_
    refine W.lcmp hx hb dX9_in_9 ?_
    refine lv_if_gt (tgt := 17) hx hb dX9_in_10 (by decide) (fun c2 => ?_) (fun c2 => ?_)
    · replace h := iteT c2 h
      refine lv_iconst (v := 0) hx hb dX9_in_17 (by decide) ?_
      exact rt_z hx hb hr hlk hK hS (() : Unit) (ret2 h) (by decide) hP hD dX9_in_18
    · replace h := iteF c2 h
      refine lv_iconst (v := 1) hx hb dX9_in_13 (by decide) ?_
      refine lv_goto (tgt := 18) hx hb dX9_in_14 (by decide) ?_
      exact rt_z hx hb hr hlk hK hS (() : Unit) (ret2 h) (by decide) hP hD dX9_in_18

def f_X9_less (v0 : Int64) (v2 : Int64) : Option (Int64 × (Unit)) :=
  (if (0 : Int32) ≤ (lg_cmp v0 v2) then (some (v2, ())) else (some (v0, ())))
set_option maxHeartbeats 8000000 in
set_option maxRecDepth 100000 in
theorem c_X9_less (l : Launch) (hlt : l.stackTraces = false) (D : va_G) (dT : Nat → ClassId) (v0 : Int64) (v2 : Int64) (o : (Int64 × (Unit))) (h : f_X9_less v0 v2 = some o) (sz : Nat) : Met l yX9_less (WSm yX9_less cX9_less 4 (some .long)) { frames := 0, cells := 0, slots := 0, locals := 0 } (va_Pc [.long v0, .long v2] (cPre D dT ([] : va_W) sz)) (va_Ql (fun (r : Int64) (u : Unit) => r = o.1 ∧ u = o.2) (fun u t => cAt D dT (va_A ([] : va_W) sz) ([] : va_W) t) (va_A ([] : va_W) sz)) 0 0 (va_A ([] : va_W) sz) := by
  refine mStart (WS := ([] : va_W)) (Qc := fun A => va_Ql (fun (r : Int64) (u : Unit) => r = o.1 ∧ u = o.2) (fun u t => cAt D dT A ([] : va_W) t) A) RX9 rfl (by decide) (Nat.le_of_ble_eq_true rfl) ?_ sz
  intro p e s m below meth c A ls hx hb hml hr hlk hnm hts hqs hown hE hA hK hP hD hS hl
  have hl : lv_has ls 4 [(0, .long v0), (2, .long v2)] := hl
  unfold f_X9_less at h
  refine lv_lload_n hx hb dX9_less_0 rfl (lv_at hl 0 rfl) ?_
  refine lv_lload_n hx hb dX9_less_1 rfl (lv_at hl 1 rfl) ?_
  refine W.lcmp hx hb dX9_less_2 ?_
  refine lv_if_ge (tgt := 10) hx hb dX9_less_3 (by decide) (fun c1 => ?_) (fun c1 => ?_)
  · replace h := iteT c1 h
    refine lv_lload_n hx hb dX9_less_10 rfl (lv_at hl 1 rfl) ?_
    exact rt_l hx hb hr hlk hK hS (() : Unit) (ret2 h) hP hD dX9_less_11
  · replace h := iteF c1 h
    refine lv_lload_n hx hb dX9_less_6 rfl (lv_at hl 0 rfl) ?_
    refine lv_goto (tgt := 11) hx hb dX9_less_7 (by decide) ?_
    exact rt_l hx hb hr hlk hK hS (() : Unit) (ret2 h) hP hD dX9_less_11

def f_X9_copyWorld_L3 (n_p1 : Nat) (n_p3 : Nat) (g_p1 : Nat → Int64) (x1 : Int32) (x3 : Int32)  : Nat → Int32 → (Nat → Int64) → Option (Unit × ((Nat → Int64)))
  | 0, _, _ => none
  | n + 1, x4, g_p3 =>
    (if (353 : Int32) ≤ x4 then (some ((), g_p3)) else (if inb (x1 + x4) n_p1 = true then (if inb (x3 + x4) n_p3 = true then (f_X9_copyWorld_L3 n_p1 n_p3 g_p1 x1 x3 n (x4 + (1 : Int32)) (vp_updL g_p3 (x3 + x4).toNatClampNeg (g_p1 (x1 + x4).toNatClampNeg))) else none) else none))
def f_X9_copyWorld (n_p1 : Nat) (n_p3 : Nat) (g_p1 : Nat → Int64) (g_p3 : Nat → Int64) (v1 : Int32) (v3 : Int32) : Option (Unit × ((Nat → Int64))) :=
  (f_X9_copyWorld_L3 n_p1 n_p3 g_p1 v1 v3 FUEL (0 : Int32) g_p3)
set_option maxHeartbeats 8000000 in
set_option maxRecDepth 100000 in
theorem c_X9_copyWorld (l : Launch) (hlt : l.stackTraces = false) (D : va_G) (dT : Nat → ClassId) (a_p1 : Nat) (a_p3 : Nat) (n_p1 : Nat) (n_p3 : Nat) (g_p1 : Nat → Int64) (g_p3 : Nat → Int64) (v1 : Int32) (v3 : Int32) (o : (Unit × ((Nat → Int64)))) (h : f_X9_copyWorld n_p1 n_p3 g_p1 g_p3 v1 v3 = some o) (sz : Nat) : Met l yX9_copyWorld (WSm yX9_copyWorld cX9_copyWorld 5 none) { frames := 0, cells := 0, slots := 0, locals := 0 } (va_Pc [.ref a_p1, .int v1, .ref a_p3, .int v3] (cPre D dT (cJ_ dT a_p1 n_p1 g_p1 ++ (cJ_ dT a_p3 n_p3 g_p3)) sz)) (va_Qv (fun (u : (Nat → Int64)) => u = o.2) (fun u t => cAt D dT (va_A (cJ_ dT a_p1 n_p1 g_p1 ++ (cJ_ dT a_p3 n_p3 g_p3)) sz) (cJ_ dT a_p1 n_p1 g_p1 ++ (cJ_ dT a_p3 n_p3 u)) t) (va_A (cJ_ dT a_p1 n_p1 g_p1 ++ (cJ_ dT a_p3 n_p3 g_p3)) sz)) 0 0 (va_A (cJ_ dT a_p1 n_p1 g_p1 ++ (cJ_ dT a_p3 n_p3 g_p3)) sz) := by
  refine mStart (WS := (cJ_ dT a_p1 n_p1 g_p1 ++ (cJ_ dT a_p3 n_p3 g_p3))) (Qc := fun A => va_Qv (fun (u : (Nat → Int64)) => u = o.2) (fun u t => cAt D dT A (cJ_ dT a_p1 n_p1 g_p1 ++ (cJ_ dT a_p3 n_p3 u)) t) A) RX9 rfl (by decide) (Nat.le_of_ble_eq_true rfl) ?_ sz
  intro p e s m below meth c A ls hx hb hml hr hlk hnm hts hqs hown hE hA hK hP hD hS hl
  have hl : lv_has ls 5 [(0, .ref a_p1), (1, .int v1), (2, .ref a_p3), (3, .int v3)] := hl
  have L_f_X9_copyWorld_L3 : ∀ (n_p1 : Nat) (n_p3 : Nat) (g_p1 : Nat → Int64) (x1 : Int32) (x3 : Int32)   (n : Nat), ∀ (x4 : Int32) (g_p3 : Nat → Int64) (H : Heap) (locs : List Loc) (ls : Array Slot), f_X9_copyWorld_L3 n_p1 n_p3 g_p1 x1 x3  n x4 g_p3 = some o → va_P D vwCl (cJ_ dT a_p1 n_p1 g_p1 ++ (cJ_ dT a_p3 n_p3 g_p3)) H → va_D A (cJ_ dT a_p1 n_p1 g_p1 ++ (cJ_ dT a_p3 n_p3 g_p3)) → va_S A s.heap H locs → lv_has ls 5 [(0, .ref a_p1), (1, .int x1), (2, .ref a_p3), (3, .int x3), (4, .int x4)] → W p l e (headSpec (WSm yX9_copyWorld cX9_copyWorld 5 none) { frames := 0, cells := 0, slots := 0, locals := 0 }).room s m [.ref a_p1, .int v1, .ref a_p3, .int v3].toArray below meth c H locs 0 0 (MQ below (va_Qv (fun (u : (Nat → Int64)) => u = o.2) (fun u t => cAt D dT A (cJ_ dT a_p1 n_p1 g_p1 ++ (cJ_ dT a_p3 n_p3 u)) t) A) [.ref a_p1, .int v1, .ref a_p3, .int v3].toArray s 0 0 A) (F0 m 3 ls []) := by
    intro n_p1 n_p3 g_p1 x1 x3   n
    induction n with
    | zero => intro x4 g_p3 H locs ls h; exact nomatch h
    | succ n ih =>
      intro x4 g_p3 H locs ls h hP hD hS hl
      unfold f_X9_copyWorld_L3 at h
      refine lv_iload hx hb dX9_copyWorld_3 (lv_at hl 4 rfl) ?_
      refine lv_sipush (v := 353) hx hb dX9_copyWorld_5 (by decide) ?_
      refine lv_icmp_ge (tgt := 29) hx hb dX9_copyWorld_8 (by decide) (fun c1 => ?_) (fun c1 => ?_)
      · replace h := iteT c1 h
        exact rt_v hx hb hr hlk hK hS (g_p3 : (Nat → Int64)) (retv h) hP hD dX9_copyWorld_29
      · replace h := iteF c1 h
        refine lv_aload_n hx hb dX9_copyWorld_11 rfl (lv_at hl 2 rfl) ?_
        refine lv_iload_n hx hb dX9_copyWorld_12 rfl (lv_at hl 3 rfl) ?_
        refine lv_iload hx hb dX9_copyWorld_13 (lv_at hl 4 rfl) ?_
        refine lv_iadd hx hb dX9_copyWorld_15 ?_
        refine lv_aload_n hx hb dX9_copyWorld_16 rfl (lv_at hl 0 rfl) ?_
        refine lv_iload_n hx hb dX9_copyWorld_17 rfl (lv_at hl 1 rfl) ?_
        refine lv_iload hx hb dX9_copyWorld_18 (lv_at hl 4 rfl) ?_
        refine lv_iadd hx hb dX9_copyWorld_20 ?_
        obtain ⟨g2, h⟩ := chk h
        refine va_lald hx hb hK hP 0 1 rfl rfl (inb_in g2) dX9_copyWorld_21 ?_
        obtain ⟨g3, h⟩ := chk h
        refine va_last hx hb hK hP hD hS 1 1 rfl rfl (inb_in g3) dX9_copyWorld_22 (fun H locs hP hD hS => ?_)
        have hP : va_P D vwCl (cJ_ dT a_p1 n_p1 g_p1 ++ (cJ_ dT a_p3 n_p3 (vp_updL g_p3 (x3 + x4).toNatClampNeg (g_p1 (x1 + x4).toNatClampNeg)))) H := hP
        have hD : va_D A (cJ_ dT a_p1 n_p1 g_p1 ++ (cJ_ dT a_p3 n_p3 (vp_updL g_p3 (x3 + x4).toNatClampNeg (g_p1 (x1 + x4).toNatClampNeg)))) := hD
        refine lv_iinc (v := (x4 + (1 : Int32))) (lv' := [(4, .int (x4 + (1 : Int32))), (0, .ref a_p1), (1, .int x1), (2, .ref a_p3), (3, .int x3)]) hx hb dX9_copyWorld_23 hl (k := 4) rfl rfl (by decide) rfl (fun ls hl => ?_)
        refine lv_goto (tgt := 3) hx hb dX9_copyWorld_26 (by decide) ?_
        exact ih (x4 + (1 : Int32)) (vp_updL g_p3 (x3 + x4).toNatClampNeg (g_p1 (x1 + x4).toNatClampNeg)) _ _ _ h hP hD hS (lv_sub hl [1, 2, 3, 4, 0] rfl)
  unfold f_X9_copyWorld at h
  refine lv_iconst (v := 0) hx hb dX9_copyWorld_0 (by decide) ?_
  refine lv_istore (lv' := [(4, .int (0 : Int32)), (0, .ref a_p1), (1, .int v1), (2, .ref a_p3), (3, .int v3)]) hx hb dX9_copyWorld_1 hl (by decide) rfl (fun ls hl => ?_)
  refine L_f_X9_copyWorld_L3 n_p1 n_p3 g_p1 v1 v3   FUEL (0 : Int32) g_p3 _ _ _ h hP hD hS (lv_sub hl [1, 2, 3, 4, 0] rfl)

def f_X9_isTable (n_p1 : Nat) (g_p1 : Nat → Int64) (v1 : Int32) : Option (Int32 × (Unit)) :=
  (if inb (0 : Int32) n_p1 = true then ((f_X9_in (Int32.toInt64 v1) (0 : Int64) ((g_p1 (0 : Int32).toNatClampNeg) - (1 : Int64))).bind fun o2 => (if vp_nar .boolean o2.1 = o2.1 then (some (o2.1, ())) else none)) else none)
set_option maxHeartbeats 8000000 in
set_option maxRecDepth 100000 in
theorem c_X9_isTable (l : Launch) (hlt : l.stackTraces = false) (D : va_G) (dT : Nat → ClassId) (a_p1 : Nat) (n_p1 : Nat) (g_p1 : Nat → Int64) (v1 : Int32) (o : (Int32 × (Unit))) (h : f_X9_isTable n_p1 g_p1 v1 = some o) (sz : Nat) : Met l yX9_isTable (WSm yX9_isTable cX9_isTable 2 (some .boolean)) { frames := 1, cells := 0, slots := 0, locals := 25 } (va_Pc [.ref a_p1, .int v1] (cPre D dT (cJ_ dT a_p1 n_p1 g_p1) sz)) (va_Qi (fun (r : Int32) (u : Unit) => r = o.1 ∧ u = o.2) (fun u t => cAt D dT (va_A (cJ_ dT a_p1 n_p1 g_p1) sz) (cJ_ dT a_p1 n_p1 g_p1) t) (va_A (cJ_ dT a_p1 n_p1 g_p1) sz)) 0 0 (va_A (cJ_ dT a_p1 n_p1 g_p1) sz) := by
  refine mStart (WS := (cJ_ dT a_p1 n_p1 g_p1)) (Qc := fun A => va_Qi (fun (r : Int32) (u : Unit) => r = o.1 ∧ u = o.2) (fun u t => cAt D dT A (cJ_ dT a_p1 n_p1 g_p1) t) A) RX9 rfl (by decide) (Nat.le_of_ble_eq_true rfl) ?_ sz
  intro p e s m below meth c A ls hx hb hml hr hlk hnm hts hqs hown hE hA hK hP hD hS hl
  have hl : lv_has ls 2 [(0, .ref a_p1), (1, .int v1)] := hl
  unfold f_X9_isTable at h
  refine lv_iload_n hx hb dX9_isTable_0 rfl (lv_at hl 1 rfl) ?_
  refine lv_i2l hx hb dX9_isTable_1 rfl ?_
  refine lv_lconst (v := 0) hx hb dX9_isTable_2 (by decide) ?_
  refine lv_aload_n hx hb dX9_isTable_3 rfl (lv_at hl 0 rfl) ?_
  refine lv_iconst (v := 0) hx hb dX9_isTable_4 (by decide) ?_
  obtain ⟨g1, h⟩ := chk h
  refine va_lald hx hb hK hP 0 1 rfl rfl (inb_in g1) dX9_isTable_5 ?_
  refine lv_lconst (v := 1) hx hb dX9_isTable_6 (by decide) ?_
  refine lv_lsub hx hb dX9_isTable_7 ?_
  obtain ⟨o2, e2, h⟩ := obind h
  have hPc := hP.sub (ws' := ([] : va_W)) [] rfl
  have hDc := hD.sub (ws' := ([] : va_W)) [] (by decide) rfl
  have hFc := va_free (wc := ([] : va_W)) hD hS hA [] rfl
  refine cl_i (wr := (cJ_ dT a_p1 n_p1 g_p1)) (va_runS (As := [.long (Int32.toInt64 v1), .long (0 : Int64), .long ((g_p1 (0 : Int32).toNatClampNeg) - (1 : Int64))]) (rest := []) ⟨hx, hb, hml, hown, hts⟩ (c_X9_in l hlt D dT (Int32.toInt64 v1) (0 : Int64) ((g_p1 (0 : Int32).toNatClampNeg) - (1 : Int64)) o2 e2 _) (va_cwS 3 hts (TB_S w_1129 w_1130 w_59 w_1131) rfl rfl rfl nd_X9_in ⟨Nat.le_of_ble_eq_true rfl, Nat.le_of_ble_eq_true rfl⟩) (cPre.S hPc hDc hK hE hS hFc) rfl rfl hl.1 rfl (lv_room (Nat.le_of_ble_eq_true rfl)) dX9_isTable_8 ⟨Nat.zero_le _, Nat.zero_le _⟩) hP hD hS hFc [] [0] rfl rfl (by decide) (by decide) (fun r2 u2 H locs hw hP hD hS => ?_)
  obtain ⟨rfl, rfl⟩ := hw
  have hP : va_P D vwCl (cJ_ dT a_p1 n_p1 g_p1) H := hP
  have hD : va_D A (cJ_ dT a_p1 n_p1 g_p1) := hD
  obtain ⟨g3, h⟩ := chp h
  exact rt_z hx hb hr hlk hK hS (() : Unit) (ret2 h) g3 hP hD dX9_isTable_11

def f_X9_isSet (n_p1 : Nat) (g_p1 : Nat → Int64) (v1 : Int32) : Option (Int32 × (Unit)) :=
  (if inb (0 : Int32) n_p1 = true then ((f_X9_in (Int32.toInt64 v1) (0 : Int64) (Int32.toInt64 (((1 : Int32) <<< ((Int64.toInt32 (g_p1 (0 : Int32).toNatClampNeg)) &&& 31)) - (1 : Int32)))).bind fun o2 => (if vp_nar .boolean o2.1 = o2.1 then (some (o2.1, ())) else none)) else none)
set_option maxHeartbeats 8000000 in
set_option maxRecDepth 100000 in
theorem c_X9_isSet (l : Launch) (hlt : l.stackTraces = false) (D : va_G) (dT : Nat → ClassId) (a_p1 : Nat) (n_p1 : Nat) (g_p1 : Nat → Int64) (v1 : Int32) (o : (Int32 × (Unit))) (h : f_X9_isSet n_p1 g_p1 v1 = some o) (sz : Nat) : Met l yX9_isSet (WSm yX9_isSet cX9_isSet 2 (some .boolean)) { frames := 1, cells := 0, slots := 0, locals := 25 } (va_Pc [.ref a_p1, .int v1] (cPre D dT (cJ_ dT a_p1 n_p1 g_p1) sz)) (va_Qi (fun (r : Int32) (u : Unit) => r = o.1 ∧ u = o.2) (fun u t => cAt D dT (va_A (cJ_ dT a_p1 n_p1 g_p1) sz) (cJ_ dT a_p1 n_p1 g_p1) t) (va_A (cJ_ dT a_p1 n_p1 g_p1) sz)) 0 0 (va_A (cJ_ dT a_p1 n_p1 g_p1) sz) := by
  refine mStart (WS := (cJ_ dT a_p1 n_p1 g_p1)) (Qc := fun A => va_Qi (fun (r : Int32) (u : Unit) => r = o.1 ∧ u = o.2) (fun u t => cAt D dT A (cJ_ dT a_p1 n_p1 g_p1) t) A) RX9 rfl (by decide) (Nat.le_of_ble_eq_true rfl) ?_ sz
  intro p e s m below meth c A ls hx hb hml hr hlk hnm hts hqs hown hE hA hK hP hD hS hl
  have hl : lv_has ls 2 [(0, .ref a_p1), (1, .int v1)] := hl
  unfold f_X9_isSet at h
  refine lv_iload_n hx hb dX9_isSet_0 rfl (lv_at hl 1 rfl) ?_
  refine lv_i2l hx hb dX9_isSet_1 rfl ?_
  refine lv_lconst (v := 0) hx hb dX9_isSet_2 (by decide) ?_
  refine lv_iconst (v := 1) hx hb dX9_isSet_3 (by decide) ?_
  refine lv_aload_n hx hb dX9_isSet_4 rfl (lv_at hl 0 rfl) ?_
  refine lv_iconst (v := 0) hx hb dX9_isSet_5 (by decide) ?_
  obtain ⟨g1, h⟩ := chk h
  refine va_lald hx hb hK hP 0 1 rfl rfl (inb_in g1) dX9_isSet_6 ?_
  refine lv_l2i hx hb dX9_isSet_7 rfl ?_
  refine lv_ishl hx hb dX9_isSet_8 ?_
  refine lv_iconst (v := 1) hx hb dX9_isSet_9 (by decide) ?_
  refine lv_isub hx hb dX9_isSet_10 ?_
  refine lv_i2l hx hb dX9_isSet_11 rfl ?_
  obtain ⟨o2, e2, h⟩ := obind h
  have hPc := hP.sub (ws' := ([] : va_W)) [] rfl
  have hDc := hD.sub (ws' := ([] : va_W)) [] (by decide) rfl
  have hFc := va_free (wc := ([] : va_W)) hD hS hA [] rfl
  refine cl_i (wr := (cJ_ dT a_p1 n_p1 g_p1)) (va_runS (As := [.long (Int32.toInt64 v1), .long (0 : Int64), .long (Int32.toInt64 (((1 : Int32) <<< ((Int64.toInt32 (g_p1 (0 : Int32).toNatClampNeg)) &&& 31)) - (1 : Int32)))]) (rest := []) ⟨hx, hb, hml, hown, hts⟩ (c_X9_in l hlt D dT (Int32.toInt64 v1) (0 : Int64) (Int32.toInt64 (((1 : Int32) <<< ((Int64.toInt32 (g_p1 (0 : Int32).toNatClampNeg)) &&& 31)) - (1 : Int32))) o2 e2 _) (va_cwS 3 hts (TB_S w_1129 w_1130 w_59 w_1131) rfl rfl rfl nd_X9_in ⟨Nat.le_of_ble_eq_true rfl, Nat.le_of_ble_eq_true rfl⟩) (cPre.S hPc hDc hK hE hS hFc) rfl rfl hl.1 rfl (lv_room (Nat.le_of_ble_eq_true rfl)) dX9_isSet_12 ⟨Nat.zero_le _, Nat.zero_le _⟩) hP hD hS hFc [] [0] rfl rfl (by decide) (by decide) (fun r2 u2 H locs hw hP hD hS => ?_)
  obtain ⟨rfl, rfl⟩ := hw
  have hP : va_P D vwCl (cJ_ dT a_p1 n_p1 g_p1) H := hP
  have hD : va_D A (cJ_ dT a_p1 n_p1 g_p1) := hD
  obtain ⟨g3, h⟩ := chp h
  exact rt_z hx hb hr hlk hK hS (() : Unit) (ret2 h) g3 hP hD dX9_isSet_15

def f_X9_pairOf (v0 : Int32) (v1 : Int32) : Option (Int32 × (Unit)) :=
  (if v1 ≤ v0 then (some ((((7 : Int32) * v1) + v0), ())) else (some ((((7 : Int32) * v0) + v1), ())))
set_option maxHeartbeats 8000000 in
set_option maxRecDepth 100000 in
theorem c_X9_pairOf (l : Launch) (hlt : l.stackTraces = false) (D : va_G) (dT : Nat → ClassId) (v0 : Int32) (v1 : Int32) (o : (Int32 × (Unit))) (h : f_X9_pairOf v0 v1 = some o) (sz : Nat) : Met l yX9_pairOf (WSm yX9_pairOf cX9_pairOf 2 (some .int)) { frames := 0, cells := 0, slots := 0, locals := 0 } (va_Pc [.int v0, .int v1] (cPre D dT ([] : va_W) sz)) (va_Qi (fun (r : Int32) (u : Unit) => r = o.1 ∧ u = o.2) (fun u t => cAt D dT (va_A ([] : va_W) sz) ([] : va_W) t) (va_A ([] : va_W) sz)) 0 0 (va_A ([] : va_W) sz) := by
  refine mStart (WS := ([] : va_W)) (Qc := fun A => va_Qi (fun (r : Int32) (u : Unit) => r = o.1 ∧ u = o.2) (fun u t => cAt D dT A ([] : va_W) t) A) RX9 rfl (by decide) (Nat.le_of_ble_eq_true rfl) ?_ sz
  intro p e s m below meth c A ls hx hb hml hr hlk hnm hts hqs hown hE hA hK hP hD hS hl
  have hl : lv_has ls 2 [(0, .int v0), (1, .int v1)] := hl
  unfold f_X9_pairOf at h
  refine lv_iload_n hx hb dX9_pairOf_0 rfl (lv_at hl 0 rfl) ?_
  refine lv_iload_n hx hb dX9_pairOf_1 rfl (lv_at hl 1 rfl) ?_
  refine lv_icmp_ge (tgt := 14) hx hb dX9_pairOf_2 (by decide) (fun c1 => ?_) (fun c1 => ?_)
  · replace h := iteT c1 h
    refine lv_bipush (v := 7) hx hb dX9_pairOf_14 (by decide) ?_
    refine lv_iload_n hx hb dX9_pairOf_16 rfl (lv_at hl 1 rfl) ?_
    refine lv_imul hx hb dX9_pairOf_17 ?_
    refine lv_iload_n hx hb dX9_pairOf_18 rfl (lv_at hl 0 rfl) ?_
    refine lv_iadd hx hb dX9_pairOf_19 ?_
    exact rt_i hx hb hr hlk hK hS (() : Unit) (ret2 h) hP hD dX9_pairOf_20
  · replace h := iteF c1 h
    refine lv_bipush (v := 7) hx hb dX9_pairOf_5 (by decide) ?_
    refine lv_iload_n hx hb dX9_pairOf_7 rfl (lv_at hl 0 rfl) ?_
    refine lv_imul hx hb dX9_pairOf_8 ?_
    refine lv_iload_n hx hb dX9_pairOf_9 rfl (lv_at hl 1 rfl) ?_
    refine lv_iadd hx hb dX9_pairOf_10 ?_
    refine lv_goto (tgt := 20) hx hb dX9_pairOf_11 (by decide) ?_
    exact rt_i hx hb hr hlk hK hS (() : Unit) (ret2 h) hP hD dX9_pairOf_20

def f_X9_believed (n_p1 : Nat) (g_p1 : Nat → Int64) (v1 : Int32) : Option (Int64 × (Unit)) :=
  (if inb ((155 : Int32) + v1) n_p1 = true then (if (lg_cmp (g_p1 ((155 : Int32) + v1).toNatClampNeg) (0 : Int64)) ≤ (0 : Int32) then (if inb ((57 : Int32) + v1) n_p1 = true then (some ((g_p1 ((57 : Int32) + v1).toNatClampNeg), ())) else none) else (if inb ((155 : Int32) + v1) n_p1 = true then (some ((g_p1 ((155 : Int32) + v1).toNatClampNeg), ())) else none)) else none)
set_option maxHeartbeats 8000000 in
set_option maxRecDepth 100000 in
theorem c_X9_believed (l : Launch) (hlt : l.stackTraces = false) (D : va_G) (dT : Nat → ClassId) (a_p1 : Nat) (n_p1 : Nat) (g_p1 : Nat → Int64) (v1 : Int32) (o : (Int64 × (Unit))) (h : f_X9_believed n_p1 g_p1 v1 = some o) (sz : Nat) : Met l yX9_believed (WSm yX9_believed cX9_believed 2 (some .long)) { frames := 0, cells := 0, slots := 0, locals := 0 } (va_Pc [.ref a_p1, .int v1] (cPre D dT (cJ_ dT a_p1 n_p1 g_p1) sz)) (va_Ql (fun (r : Int64) (u : Unit) => r = o.1 ∧ u = o.2) (fun u t => cAt D dT (va_A (cJ_ dT a_p1 n_p1 g_p1) sz) (cJ_ dT a_p1 n_p1 g_p1) t) (va_A (cJ_ dT a_p1 n_p1 g_p1) sz)) 0 0 (va_A (cJ_ dT a_p1 n_p1 g_p1) sz) := by
  refine mStart (WS := (cJ_ dT a_p1 n_p1 g_p1)) (Qc := fun A => va_Ql (fun (r : Int64) (u : Unit) => r = o.1 ∧ u = o.2) (fun u t => cAt D dT A (cJ_ dT a_p1 n_p1 g_p1) t) A) RX9 rfl (by decide) (Nat.le_of_ble_eq_true rfl) ?_ sz
  intro p e s m below meth c A ls hx hb hml hr hlk hnm hts hqs hown hE hA hK hP hD hS hl
  have hl : lv_has ls 2 [(0, .ref a_p1), (1, .int v1)] := hl
  unfold f_X9_believed at h
  refine lv_aload_n hx hb dX9_believed_0 rfl (lv_at hl 0 rfl) ?_
  refine lv_sipush (v := 155) hx hb dX9_believed_1 (by decide) ?_
  refine lv_iload_n hx hb dX9_believed_4 rfl (lv_at hl 1 rfl) ?_
  refine lv_iadd hx hb dX9_believed_5 ?_
  obtain ⟨g1, h⟩ := chk h
  refine va_lald hx hb hK hP 0 1 rfl rfl (inb_in g1) dX9_believed_6 ?_
  refine lv_lconst (v := 0) hx hb dX9_believed_7 (by decide) ?_
  refine W.lcmp hx hb dX9_believed_8 ?_
  refine lv_if_le (tgt := 22) hx hb dX9_believed_9 (by decide) (fun c2 => ?_) (fun c2 => ?_)
  · replace h := iteT c2 h
    refine lv_aload_n hx hb dX9_believed_22 rfl (lv_at hl 0 rfl) ?_
    refine lv_bipush (v := 57) hx hb dX9_believed_23 (by decide) ?_
    refine lv_iload_n hx hb dX9_believed_25 rfl (lv_at hl 1 rfl) ?_
    refine lv_iadd hx hb dX9_believed_26 ?_
    obtain ⟨g3, h⟩ := chk h
    refine va_lald hx hb hK hP 0 1 rfl rfl (inb_in g3) dX9_believed_27 ?_
    exact rt_l hx hb hr hlk hK hS (() : Unit) (ret2 h) hP hD dX9_believed_28
  · replace h := iteF c2 h
    refine lv_aload_n hx hb dX9_believed_12 rfl (lv_at hl 0 rfl) ?_
    refine lv_sipush (v := 155) hx hb dX9_believed_13 (by decide) ?_
    refine lv_iload_n hx hb dX9_believed_16 rfl (lv_at hl 1 rfl) ?_
    refine lv_iadd hx hb dX9_believed_17 ?_
    obtain ⟨g4, h⟩ := chk h
    refine va_lald hx hb hK hP 0 1 rfl rfl (inb_in g4) dX9_believed_18 ?_
    refine lv_goto (tgt := 28) hx hb dX9_believed_19 (by decide) ?_
    exact rt_l hx hb hr hlk hK hS (() : Unit) (ret2 h) hP hD dX9_believed_28

def f_X9_shareOf (n_p1 : Nat) (g_p1 : Nat → Int64) (v1 : Int32) (v2 : Int32) : Option (Int64 × (Unit)) :=
  (if v2 = (0 : Int32) then (if inb ((57 : Int32) + v1) n_p1 = true then (some ((g_p1 ((57 : Int32) + v1).toNatClampNeg), ())) else none) else (if v2 = (1 : Int32) then ((f_X9_believed n_p1 g_p1 v1).bind fun o4 => (some (o4.1, ()))) else (if inb ((106 : Int32) + v1) n_p1 = true then (some ((g_p1 ((106 : Int32) + v1).toNatClampNeg), ())) else none)))
set_option maxHeartbeats 8000000 in
set_option maxRecDepth 100000 in
theorem c_X9_shareOf (l : Launch) (hlt : l.stackTraces = false) (D : va_G) (dT : Nat → ClassId) (a_p1 : Nat) (n_p1 : Nat) (g_p1 : Nat → Int64) (v1 : Int32) (v2 : Int32) (o : (Int64 × (Unit))) (h : f_X9_shareOf n_p1 g_p1 v1 v2 = some o) (sz : Nat) : Met l yX9_shareOf (WSm yX9_shareOf cX9_shareOf 3 (some .long)) { frames := 1, cells := 0, slots := 0, locals := 21 } (va_Pc [.ref a_p1, .int v1, .int v2] (cPre D dT (cJ_ dT a_p1 n_p1 g_p1) sz)) (va_Ql (fun (r : Int64) (u : Unit) => r = o.1 ∧ u = o.2) (fun u t => cAt D dT (va_A (cJ_ dT a_p1 n_p1 g_p1) sz) (cJ_ dT a_p1 n_p1 g_p1) t) (va_A (cJ_ dT a_p1 n_p1 g_p1) sz)) 0 0 (va_A (cJ_ dT a_p1 n_p1 g_p1) sz) := by
  refine mStart (WS := (cJ_ dT a_p1 n_p1 g_p1)) (Qc := fun A => va_Ql (fun (r : Int64) (u : Unit) => r = o.1 ∧ u = o.2) (fun u t => cAt D dT A (cJ_ dT a_p1 n_p1 g_p1) t) A) RX9 rfl (by decide) (Nat.le_of_ble_eq_true rfl) ?_ sz
  intro p e s m below meth c A ls hx hb hml hr hlk hnm hts hqs hown hE hA hK hP hD hS hl
  have hl : lv_has ls 3 [(0, .ref a_p1), (1, .int v1), (2, .int v2)] := hl
  unfold f_X9_shareOf at h
  refine lv_iload_n hx hb dX9_shareOf_0 rfl (lv_at hl 2 rfl) ?_
  refine lv_if_ne (tgt := 13) hx hb dX9_shareOf_1 (by decide) (fun c1 => ?_) (fun c1 => ?_)
  · replace h := iteF c1 h
    refine lv_iload_n hx hb dX9_shareOf_13 rfl (lv_at hl 2 rfl) ?_
    refine lv_iconst (v := 1) hx hb dX9_shareOf_14 (by decide) ?_
    refine lv_icmp_ne (tgt := 26) hx hb dX9_shareOf_15 (by decide) (fun c2 => ?_) (fun c2 => ?_)
    · replace h := iteF c2 h
      refine lv_aload_n hx hb dX9_shareOf_26 rfl (lv_at hl 0 rfl) ?_
      refine lv_bipush (v := 106) hx hb dX9_shareOf_27 (by decide) ?_
      refine lv_iload_n hx hb dX9_shareOf_29 rfl (lv_at hl 1 rfl) ?_
      refine lv_iadd hx hb dX9_shareOf_30 ?_
      obtain ⟨g3, h⟩ := chk h
      refine va_lald hx hb hK hP 0 1 rfl rfl (inb_in g3) dX9_shareOf_31 ?_
      exact rt_l hx hb hr hlk hK hS (() : Unit) (ret2 h) hP hD dX9_shareOf_32
    · replace h := iteT c2 h
      refine lv_aload_n hx hb dX9_shareOf_18 rfl (lv_at hl 0 rfl) ?_
      refine lv_iload_n hx hb dX9_shareOf_19 rfl (lv_at hl 1 rfl) ?_
      obtain ⟨o4, e4, h⟩ := obind h
      have hPc := hP
      have hDc := hD
      have hFc := vfall hD hS hA
      refine cl_lA (va_runS (As := [.ref a_p1, .int v1]) (rest := []) ⟨hx, hb, hml, hown, hts⟩ (c_X9_believed l hlt D dT a_p1 n_p1 g_p1 v1 o4 e4 _) (va_cwS 2 hts (TB_S w_1215 w_1216 w_59 w_1217) rfl rfl rfl nd_X9_believed ⟨Nat.le_of_ble_eq_true rfl, Nat.le_of_ble_eq_true rfl⟩) (cPre.S hPc hDc hK hE hS hFc) rfl rfl hl.1 rfl (lv_room (Nat.le_of_ble_eq_true rfl)) dX9_shareOf_20 ⟨Nat.zero_le _, Nat.zero_le _⟩) hS hFc (fun r4 u4 H locs hw hP hD hS => ?_)
      obtain ⟨rfl, rfl⟩ := hw
      have hP : va_P D vwCl (cJ_ dT a_p1 n_p1 g_p1) H := hP
      have hD : va_D A (cJ_ dT a_p1 n_p1 g_p1) := hD
      refine lv_goto (tgt := 32) hx hb dX9_shareOf_23 (by decide) ?_
      exact rt_l hx hb hr hlk hK hS (() : Unit) (ret2 h) hP hD dX9_shareOf_32
  · replace h := iteT c1 h
    refine lv_aload_n hx hb dX9_shareOf_4 rfl (lv_at hl 0 rfl) ?_
    refine lv_bipush (v := 57) hx hb dX9_shareOf_5 (by decide) ?_
    refine lv_iload_n hx hb dX9_shareOf_7 rfl (lv_at hl 1 rfl) ?_
    refine lv_iadd hx hb dX9_shareOf_8 ?_
    obtain ⟨g5, h⟩ := chk h
    refine va_lald hx hb hK hP 0 1 rfl rfl (inb_in g5) dX9_shareOf_9 ?_
    refine lv_goto (tgt := 32) hx hb dX9_shareOf_10 (by decide) ?_
    exact rt_l hx hb hr hlk hK hS (() : Unit) (ret2 h) hP hD dX9_shareOf_32

def f_X9_count_L5 (n_p1 : Nat) (g_p1 : Nat → Int64) (x1 : Int32)  : Nat → Int64 → Int32 → Option (Int64 × (Unit))
  | 0, _, _ => none
  | n + 1, x2, x4 =>
    (if (49 : Int32) ≤ x4 then (some (x2, ())) else (if inb (x1 + x4) n_p1 = true then (if (lg_cmp (g_p1 (x1 + x4).toNatClampNeg) (0 : Int64)) ≤ (0 : Int32) then (f_X9_count_L5 n_p1 g_p1 x1 n (x2 + (0 : Int64)) (x4 + (1 : Int32))) else (f_X9_count_L5 n_p1 g_p1 x1 n (x2 + (1 : Int64)) (x4 + (1 : Int32)))) else none))
def f_X9_count (n_p1 : Nat) (g_p1 : Nat → Int64) (v1 : Int32) : Option (Int64 × (Unit)) :=
  (f_X9_count_L5 n_p1 g_p1 v1 FUEL (0 : Int64) (0 : Int32))
set_option maxHeartbeats 8000000 in
set_option maxRecDepth 100000 in
theorem c_X9_count (l : Launch) (hlt : l.stackTraces = false) (D : va_G) (dT : Nat → ClassId) (a_p1 : Nat) (n_p1 : Nat) (g_p1 : Nat → Int64) (v1 : Int32) (o : (Int64 × (Unit))) (h : f_X9_count n_p1 g_p1 v1 = some o) (sz : Nat) : Met l yX9_count (WSm yX9_count cX9_count 5 (some .long)) { frames := 0, cells := 0, slots := 0, locals := 0 } (va_Pc [.ref a_p1, .int v1] (cPre D dT (cJ_ dT a_p1 n_p1 g_p1) sz)) (va_Ql (fun (r : Int64) (u : Unit) => r = o.1 ∧ u = o.2) (fun u t => cAt D dT (va_A (cJ_ dT a_p1 n_p1 g_p1) sz) (cJ_ dT a_p1 n_p1 g_p1) t) (va_A (cJ_ dT a_p1 n_p1 g_p1) sz)) 0 0 (va_A (cJ_ dT a_p1 n_p1 g_p1) sz) := by
  refine mStart (WS := (cJ_ dT a_p1 n_p1 g_p1)) (Qc := fun A => va_Ql (fun (r : Int64) (u : Unit) => r = o.1 ∧ u = o.2) (fun u t => cAt D dT A (cJ_ dT a_p1 n_p1 g_p1) t) A) RX9 rfl (by decide) (Nat.le_of_ble_eq_true rfl) ?_ sz
  intro p e s m below meth c A ls hx hb hml hr hlk hnm hts hqs hown hE hA hK hP hD hS hl
  have hl : lv_has ls 5 [(0, .ref a_p1), (1, .int v1)] := hl
  have L_f_X9_count_L5 : ∀ (n_p1 : Nat) (g_p1 : Nat → Int64) (x1 : Int32)   (n : Nat), ∀ (x2 : Int64) (x4 : Int32) (H : Heap) (locs : List Loc) (ls : Array Slot), f_X9_count_L5 n_p1 g_p1 x1  n x2 x4 = some o → va_P D vwCl (cJ_ dT a_p1 n_p1 g_p1) H → va_D A (cJ_ dT a_p1 n_p1 g_p1) → va_S A s.heap H locs → lv_has ls 5 [(0, .ref a_p1), (1, .int x1), (2, .long x2), (4, .int x4)] → W p l e (headSpec (WSm yX9_count cX9_count 5 (some .long)) { frames := 0, cells := 0, slots := 0, locals := 0 }).room s m [.ref a_p1, .int v1].toArray below meth c H locs 0 0 (MQ below (va_Ql (fun (r : Int64) (u : Unit) => r = o.1 ∧ u = o.2) (fun u t => cAt D dT A (cJ_ dT a_p1 n_p1 g_p1) t) A) [.ref a_p1, .int v1].toArray s 0 0 A) (F0 m 5 ls []) := by
    intro n_p1 g_p1 x1   n
    induction n with
    | zero => intro x2 x4 H locs ls h; exact nomatch h
    | succ n ih =>
      intro x2 x4 H locs ls h hP hD hS hl
      unfold f_X9_count_L5 at h
      refine lv_iload hx hb dX9_count_5 (lv_at hl 3 rfl) ?_
      refine lv_bipush (v := 49) hx hb dX9_count_7 (by decide) ?_
      refine lv_icmp_ge (tgt := 37) hx hb dX9_count_9 (by decide) (fun c1 => ?_) (fun c1 => ?_)
      · replace h := iteT c1 h
        refine lv_lload_n hx hb dX9_count_37 rfl (lv_at hl 2 rfl) ?_
        exact rt_l hx hb hr hlk hK hS (() : Unit) (ret2 h) hP hD dX9_count_38
      · replace h := iteF c1 h
        refine lv_lload_n hx hb dX9_count_12 rfl (lv_at hl 2 rfl) ?_
        refine lv_aload_n hx hb dX9_count_13 rfl (lv_at hl 0 rfl) ?_
        refine lv_iload_n hx hb dX9_count_14 rfl (lv_at hl 1 rfl) ?_
        refine lv_iload hx hb dX9_count_15 (lv_at hl 3 rfl) ?_
        refine lv_iadd hx hb dX9_count_17 ?_
        obtain ⟨g2, h⟩ := chk h
        refine va_lald hx hb hK hP 0 1 rfl rfl (inb_in g2) dX9_count_18 ?_
        refine lv_lconst (v := 0) hx hb dX9_count_19 (by decide) ?_
        refine W.lcmp hx hb dX9_count_20 ?_
        refine lv_if_le (tgt := 28) hx hb dX9_count_21 (by decide) (fun c3 => ?_) (fun c3 => ?_)
        · replace h := iteT c3 h
          refine lv_lconst (v := 0) hx hb dX9_count_28 (by decide) ?_
          refine lv_ladd hx hb dX9_count_29 ?_
          refine lv_lstore_n (lv' := [(2, .long (x2 + (0 : Int64))), (0, .ref a_p1), (1, .int x1), (4, .int x4)]) hx hb dX9_count_30 rfl hl (by decide) rfl (fun ls hl => ?_)
          refine lv_iinc (v := (x4 + (1 : Int32))) (lv' := [(4, .int (x4 + (1 : Int32))), (2, .long (x2 + (0 : Int64))), (0, .ref a_p1), (1, .int x1)]) hx hb dX9_count_31 hl (k := 3) rfl rfl (by decide) rfl (fun ls hl => ?_)
          refine lv_goto (tgt := 5) hx hb dX9_count_34 (by decide) ?_
          exact ih (x2 + (0 : Int64)) (x4 + (1 : Int32)) _ _ _ h hP hD hS (lv_sub hl [2, 3, 1, 0] rfl)
        · replace h := iteF c3 h
          refine lv_lconst (v := 1) hx hb dX9_count_24 (by decide) ?_
          refine lv_goto (tgt := 29) hx hb dX9_count_25 (by decide) ?_
          refine lv_ladd hx hb dX9_count_29 ?_
          refine lv_lstore_n (lv' := [(2, .long (x2 + (1 : Int64))), (0, .ref a_p1), (1, .int x1), (4, .int x4)]) hx hb dX9_count_30 rfl hl (by decide) rfl (fun ls hl => ?_)
          refine lv_iinc (v := (x4 + (1 : Int32))) (lv' := [(4, .int (x4 + (1 : Int32))), (2, .long (x2 + (1 : Int64))), (0, .ref a_p1), (1, .int x1)]) hx hb dX9_count_31 hl (k := 3) rfl rfl (by decide) rfl (fun ls hl => ?_)
          refine lv_goto (tgt := 5) hx hb dX9_count_34 (by decide) ?_
          exact ih (x2 + (1 : Int64)) (x4 + (1 : Int32)) _ _ _ h hP hD hS (lv_sub hl [2, 3, 1, 0] rfl)
  unfold f_X9_count at h
  refine lv_lconst (v := 0) hx hb dX9_count_0 (by decide) ?_
  refine lv_lstore_n (lv' := [(2, .long (0 : Int64)), (0, .ref a_p1), (1, .int v1)]) hx hb dX9_count_1 rfl hl (by decide) rfl (fun ls hl => ?_)
  refine lv_iconst (v := 0) hx hb dX9_count_2 (by decide) ?_
  refine lv_istore (lv' := [(4, .int (0 : Int32)), (2, .long (0 : Int64)), (0, .ref a_p1), (1, .int v1)]) hx hb dX9_count_3 hl (by decide) rfl (fun ls hl => ?_)
  refine L_f_X9_count_L5 n_p1 g_p1 v1   FUEL (0 : Int64) (0 : Int32) _ _ _ h hP hD hS (lv_sub hl [2, 3, 1, 0] rfl)

def f_X9_rowsOn_L43 (n_p1 : Nat) (g_p1 : Nat → Int64) (x1 : Int32) (x2 : Int32) (x5 : Int32) (k113 : Int64 → Option (Int64 × (Unit))) : Nat → Int64 → Int32 → Option (Int64 × (Unit))
  | 0, _, _ => none
  | n + 1, x3, x6 =>
    (if x5 ≤ x6 then (k113 x3) else ((f_X9_pairOf x6 x5).bind fun o7 => (if ((x1 >>> (x6 &&& 31)) &&& (1 : Int32)) = (1 : Int32) then (if inb ((8 : Int32) + o7.1) n_p1 = true then (if (lg_cmp (g_p1 ((8 : Int32) + o7.1).toNatClampNeg) (0 : Int64)) ≤ (0 : Int32) then (f_X9_rowsOn_L43 n_p1 g_p1 x1 x2 x5 k113 n x3 (x6 + (1 : Int32))) else ((f_X9_shareOf n_p1 g_p1 o7.1 x2).bind fun o11 => (if (0 : Int32) ≤ (lg_cmp ((x3 * o11.1) / (1000 : Int64)) (1 : Int64)) then (f_X9_rowsOn_L43 n_p1 g_p1 x1 x2 x5 k113 n ((x3 * o11.1) / (1000 : Int64)) (x6 + (1 : Int32))) else (f_X9_rowsOn_L43 n_p1 g_p1 x1 x2 x5 k113 n (1 : Int64) (x6 + (1 : Int32)))))) else none) else (f_X9_rowsOn_L43 n_p1 g_p1 x1 x2 x5 k113 n x3 (x6 + (1 : Int32))))))
def f_X9_rowsOn_L5 (n_p1 : Nat) (g_p1 : Nat → Int64) (x1 : Int32) (x2 : Int32)  : Nat → Int64 → Int32 → Option (Int64 × (Unit))
  | 0, _, _ => none
  | n + 1, x3, x5 =>
    (if inb (0 : Int32) n_p1 = true then (if (0 : Int32) ≤ (lg_cmp (Int32.toInt64 x5) (g_p1 (0 : Int32).toNatClampNeg)) then (some (x3, ())) else (if ((x1 >>> (x5 &&& 31)) &&& (1 : Int32)) = (1 : Int32) then (if inb ((1 : Int32) + x5) n_p1 = true then ((f_X9_less (1000000000000 : Int64) (x3 * (g_p1 ((1 : Int32) + x5).toNatClampNeg))).bind fun o5 => (f_X9_rowsOn_L43 n_p1 g_p1 x1 x2 x5 (fun (y13x3 : Int64) => (f_X9_rowsOn_L5 n_p1 g_p1 x1 x2 n y13x3 (x5 + (1 : Int32)))) FUEL o5.1 (0 : Int32))) else none) else (f_X9_rowsOn_L5 n_p1 g_p1 x1 x2 n x3 (x5 + (1 : Int32))))) else none)
def f_X9_rowsOn (n_p1 : Nat) (g_p1 : Nat → Int64) (v1 : Int32) (v2 : Int32) : Option (Int64 × (Unit)) :=
  (f_X9_rowsOn_L5 n_p1 g_p1 v1 v2 FUEL (1 : Int64) (0 : Int32))
set_option maxHeartbeats 8000000 in
set_option maxRecDepth 100000 in
theorem c_X9_rowsOn (l : Launch) (hlt : l.stackTraces = false) (D : va_G) (dT : Nat → ClassId) (a_p1 : Nat) (n_p1 : Nat) (g_p1 : Nat → Int64) (v1 : Int32) (v2 : Int32) (o : (Int64 × (Unit))) (h : f_X9_rowsOn n_p1 g_p1 v1 v2 = some o) (sz : Nat) : Met l yX9_rowsOn (WSm yX9_rowsOn cX9_rowsOn 8 (some .long)) { frames := 2, cells := 0, slots := 0, locals := 43 } (va_Pc [.ref a_p1, .int v1, .int v2] (cPre D dT (cJ_ dT a_p1 n_p1 g_p1) sz)) (va_Ql (fun (r : Int64) (u : Unit) => r = o.1 ∧ u = o.2) (fun u t => cAt D dT (va_A (cJ_ dT a_p1 n_p1 g_p1) sz) (cJ_ dT a_p1 n_p1 g_p1) t) (va_A (cJ_ dT a_p1 n_p1 g_p1) sz)) 0 0 (va_A (cJ_ dT a_p1 n_p1 g_p1) sz) := by
  refine mStart (WS := (cJ_ dT a_p1 n_p1 g_p1)) (Qc := fun A => va_Ql (fun (r : Int64) (u : Unit) => r = o.1 ∧ u = o.2) (fun u t => cAt D dT A (cJ_ dT a_p1 n_p1 g_p1) t) A) RX9 rfl (by decide) (Nat.le_of_ble_eq_true rfl) ?_ sz
  intro p e s m below meth c A ls hx hb hml hr hlk hnm hts hqs hown hE hA hK hP hD hS hl
  have hl : lv_has ls 8 [(0, .ref a_p1), (1, .int v1), (2, .int v2)] := hl
  have L_f_X9_rowsOn_L43 : ∀ (n_p1 : Nat) (g_p1 : Nat → Int64) (x1 : Int32) (x2 : Int32) (x5 : Int32) (k113 : Int64 → Option (Int64 × (Unit))) (hk113 : ∀ (x3 : Int64) (H : Heap) (locs : List Loc) (ls : Array Slot), k113 x3 = some o → va_P D vwCl (cJ_ dT a_p1 n_p1 g_p1) H → va_D A (cJ_ dT a_p1 n_p1 g_p1) → va_S A s.heap H locs → lv_has ls 8 [(0, .ref a_p1), (1, .int x1), (2, .int x2), (3, .long x3), (5, .int x5)] → W p l e (headSpec (WSm yX9_rowsOn cX9_rowsOn 8 (some .long)) { frames := 2, cells := 0, slots := 0, locals := 43 }).room s m [.ref a_p1, .int v1, .int v2].toArray below meth c H locs 0 0 (MQ below (va_Ql (fun (r : Int64) (u : Unit) => r = o.1 ∧ u = o.2) (fun u t => cAt D dT A (cJ_ dT a_p1 n_p1 g_p1) t) A) [.ref a_p1, .int v1, .int v2].toArray s 0 0 A) (F0 m 113 ls [])) (n : Nat), ∀ (x3 : Int64) (x6 : Int32) (H : Heap) (locs : List Loc) (ls : Array Slot), f_X9_rowsOn_L43 n_p1 g_p1 x1 x2 x5 k113 n x3 x6 = some o → va_P D vwCl (cJ_ dT a_p1 n_p1 g_p1) H → va_D A (cJ_ dT a_p1 n_p1 g_p1) → va_S A s.heap H locs → lv_has ls 8 [(0, .ref a_p1), (1, .int x1), (2, .int x2), (3, .long x3), (5, .int x5), (6, .int x6)] → W p l e (headSpec (WSm yX9_rowsOn cX9_rowsOn 8 (some .long)) { frames := 2, cells := 0, slots := 0, locals := 43 }).room s m [.ref a_p1, .int v1, .int v2].toArray below meth c H locs 0 0 (MQ below (va_Ql (fun (r : Int64) (u : Unit) => r = o.1 ∧ u = o.2) (fun u t => cAt D dT A (cJ_ dT a_p1 n_p1 g_p1) t) A) [.ref a_p1, .int v1, .int v2].toArray s 0 0 A) (F0 m 43 ls []) := by
    intro n_p1 g_p1 x1 x2 x5 k113 hk113 n
    induction n with
    | zero => intro x3 x6 H locs ls h; exact nomatch h
    | succ n ih =>
      intro x3 x6 H locs ls h hP hD hS hl
      unfold f_X9_rowsOn_L43 at h
      refine lv_iload hx hb dX9_rowsOn_43 (lv_at hl 5 rfl) ?_
      refine lv_iload hx hb dX9_rowsOn_45 (lv_at hl 4 rfl) ?_
      refine lv_icmp_ge (tgt := 113) hx hb dX9_rowsOn_47 (by decide) (fun c6 => ?_) (fun c6 => ?_)
      · replace h := iteT c6 h
        exact hk113 x3 _ _ _ h hP hD hS (lv_sub hl [0, 1, 2, 3, 4] rfl)
      · replace h := iteF c6 h
        refine lv_iload hx hb dX9_rowsOn_50 (lv_at hl 5 rfl) ?_
        refine lv_iload hx hb dX9_rowsOn_52 (lv_at hl 4 rfl) ?_
        obtain ⟨o7, e7, h⟩ := obind h
        have hPc := hP.sub (ws' := ([] : va_W)) [] rfl
        have hDc := hD.sub (ws' := ([] : va_W)) [] (by decide) rfl
        have hFc := va_free (wc := ([] : va_W)) hD hS hA [] rfl
        refine cl_i (wr := (cJ_ dT a_p1 n_p1 g_p1)) (va_runS (As := [.int x6, .int x5]) (rest := []) ⟨hx, hb, hml, hown, hts⟩ (c_X9_pairOf l hlt D dT x6 x5 o7 e7 _) (va_cwS 2 hts (TB_S w_1181 w_1182 w_59 w_1183) rfl rfl rfl nd_X9_pairOf ⟨Nat.le_of_ble_eq_true rfl, Nat.le_of_ble_eq_true rfl⟩) (cPre.S hPc hDc hK hE hS hFc) rfl rfl hl.1 rfl (lv_room (Nat.le_of_ble_eq_true rfl)) dX9_rowsOn_54 ⟨Nat.zero_le _, Nat.zero_le _⟩) hP hD hS hFc [] [0] rfl rfl (by decide) (by decide) (fun r7 u7 H locs hw hP hD hS => ?_)
        obtain ⟨rfl, rfl⟩ := hw
        have hP : va_P D vwCl (cJ_ dT a_p1 n_p1 g_p1) H := hP
        have hD : va_D A (cJ_ dT a_p1 n_p1 g_p1) := hD
        refine lv_istore (lv' := [(7, .int o7.1), (0, .ref a_p1), (1, .int x1), (2, .int x2), (3, .long x3), (5, .int x5), (6, .int x6)]) hx hb dX9_rowsOn_57 hl (by decide) rfl (fun ls hl => ?_)
        refine lv_iload_n hx hb dX9_rowsOn_59 rfl (lv_at hl 2 rfl) ?_
        refine lv_iload hx hb dX9_rowsOn_60 (lv_at hl 6 rfl) ?_
        refine lv_ishr hx hb dX9_rowsOn_62 ?_
        refine lv_iconst (v := 1) hx hb dX9_rowsOn_63 (by decide) ?_
        refine lv_iand hx hb dX9_rowsOn_64 ?_
        refine lv_iconst (v := 1) hx hb dX9_rowsOn_65 (by decide) ?_
        refine lv_icmp_ne (tgt := 107) hx hb dX9_rowsOn_66 (by decide) (fun c8 => ?_) (fun c8 => ?_)
        · replace h := iteF c8 h
          refine lv_iinc (v := (x6 + (1 : Int32))) (lv' := [(6, .int (x6 + (1 : Int32))), (7, .int o7.1), (0, .ref a_p1), (1, .int x1), (2, .int x2), (3, .long x3), (5, .int x5)]) hx hb dX9_rowsOn_107 hl (k := 6) rfl rfl (by decide) rfl (fun ls hl => ?_)
          refine lv_goto (tgt := 43) hx hb dX9_rowsOn_110 (by decide) ?_
          exact ih x3 (x6 + (1 : Int32)) _ _ _ h hP hD hS (lv_sub hl [2, 3, 4, 5, 6, 0] rfl)
        · replace h := iteT c8 h
          refine lv_aload_n hx hb dX9_rowsOn_69 rfl (lv_at hl 1 rfl) ?_
          refine lv_bipush (v := 8) hx hb dX9_rowsOn_70 (by decide) ?_
          refine lv_iload hx hb dX9_rowsOn_72 (lv_at hl 0 rfl) ?_
          refine lv_iadd hx hb dX9_rowsOn_74 ?_
          obtain ⟨g9, h⟩ := chk h
          refine va_lald hx hb hK hP 0 1 rfl rfl (inb_in g9) dX9_rowsOn_75 ?_
          refine lv_lconst (v := 0) hx hb dX9_rowsOn_76 (by decide) ?_
          refine W.lcmp hx hb dX9_rowsOn_77 ?_
          refine lv_if_le (tgt := 107) hx hb dX9_rowsOn_78 (by decide) (fun c10 => ?_) (fun c10 => ?_)
          · replace h := iteT c10 h
            refine lv_iinc (v := (x6 + (1 : Int32))) (lv' := [(6, .int (x6 + (1 : Int32))), (7, .int o7.1), (0, .ref a_p1), (1, .int x1), (2, .int x2), (3, .long x3), (5, .int x5)]) hx hb dX9_rowsOn_107 hl (k := 6) rfl rfl (by decide) rfl (fun ls hl => ?_)
            refine lv_goto (tgt := 43) hx hb dX9_rowsOn_110 (by decide) ?_
            exact ih x3 (x6 + (1 : Int32)) _ _ _ h hP hD hS (lv_sub hl [2, 3, 4, 5, 6, 0] rfl)
          · replace h := iteF c10 h
            refine lv_lload_n hx hb dX9_rowsOn_81 rfl (lv_at hl 4 rfl) ?_
            refine lv_aload_n hx hb dX9_rowsOn_82 rfl (lv_at hl 1 rfl) ?_
            refine lv_iload hx hb dX9_rowsOn_83 (lv_at hl 0 rfl) ?_
            refine lv_iload_n hx hb dX9_rowsOn_85 rfl (lv_at hl 3 rfl) ?_
            obtain ⟨o11, e11, h⟩ := obind h
            have hPc := hP
            have hDc := hD
            have hFc := vfall hD hS hA
            refine cl_lA (va_runS (As := [.ref a_p1, .int o7.1, .int x2]) (rest := [.long x3]) ⟨hx, hb, hml, hown, hts⟩ (c_X9_shareOf l hlt D dT a_p1 n_p1 g_p1 o7.1 x2 o11 e11 _) (va_cwS 3 hts (TB_S w_1292 w_1293 w_59 w_1294) rfl rfl rfl nd_X9_shareOf ⟨Nat.le_of_ble_eq_true rfl, Nat.le_of_ble_eq_true rfl⟩) (cPre.S hPc hDc hK hE hS hFc) rfl rfl hl.1 rfl (lv_room (Nat.le_of_ble_eq_true rfl)) dX9_rowsOn_86 ⟨Nat.zero_le _, Nat.zero_le _⟩) hS hFc (fun r11 u11 H locs hw hP hD hS => ?_)
            obtain ⟨rfl, rfl⟩ := hw
            have hP : va_P D vwCl (cJ_ dT a_p1 n_p1 g_p1) H := hP
            have hD : va_D A (cJ_ dT a_p1 n_p1 g_p1) := hD
            refine lv_lmul hx hb dX9_rowsOn_89 ?_
            refine lv_ldc2 (v := 1000) hx hb hown (hqs _ w_1248) dX9_rowsOn_90 ?_
            refine lv_ldiv hx hb dX9_rowsOn_93 (by decide) ?_
            refine lv_lstore_n (lv' := [(3, .long ((x3 * o11.1) / (1000 : Int64))), (7, .int o7.1), (0, .ref a_p1), (1, .int x1), (2, .int x2), (5, .int x5), (6, .int x6)]) hx hb dX9_rowsOn_94 rfl hl (by decide) rfl (fun ls hl => ?_)
            refine lv_lload_n hx hb dX9_rowsOn_95 rfl (lv_at hl 0 rfl) ?_
            refine lv_lconst (v := 1) hx hb dX9_rowsOn_96 (by decide) ?_
            refine W.lcmp hx hb dX9_rowsOn_97 ?_
            refine lv_if_ge (tgt := 105) hx hb dX9_rowsOn_98 (by decide) (fun c12 => ?_) (fun c12 => ?_)
            · replace h := iteT c12 h
              refine lv_lload_n hx hb dX9_rowsOn_105 rfl (lv_at hl 0 rfl) ?_
              refine lv_lstore_n (lv' := [(3, .long ((x3 * o11.1) / (1000 : Int64))), (7, .int o7.1), (0, .ref a_p1), (1, .int x1), (2, .int x2), (5, .int x5), (6, .int x6)]) hx hb dX9_rowsOn_106 rfl hl (by decide) rfl (fun ls hl => ?_)
              refine lv_iinc (v := (x6 + (1 : Int32))) (lv' := [(6, .int (x6 + (1 : Int32))), (3, .long ((x3 * o11.1) / (1000 : Int64))), (7, .int o7.1), (0, .ref a_p1), (1, .int x1), (2, .int x2), (5, .int x5)]) hx hb dX9_rowsOn_107 hl (k := 6) rfl rfl (by decide) rfl (fun ls hl => ?_)
              refine lv_goto (tgt := 43) hx hb dX9_rowsOn_110 (by decide) ?_
              exact ih ((x3 * o11.1) / (1000 : Int64)) (x6 + (1 : Int32)) _ _ _ h hP hD hS (lv_sub hl [3, 4, 5, 1, 6, 0] rfl)
            · replace h := iteF c12 h
              refine lv_lconst (v := 1) hx hb dX9_rowsOn_101 (by decide) ?_
              refine lv_goto (tgt := 106) hx hb dX9_rowsOn_102 (by decide) ?_
              refine lv_lstore_n (lv' := [(3, .long (1 : Int64)), (7, .int o7.1), (0, .ref a_p1), (1, .int x1), (2, .int x2), (5, .int x5), (6, .int x6)]) hx hb dX9_rowsOn_106 rfl hl (by decide) rfl (fun ls hl => ?_)
              refine lv_iinc (v := (x6 + (1 : Int32))) (lv' := [(6, .int (x6 + (1 : Int32))), (3, .long (1 : Int64)), (7, .int o7.1), (0, .ref a_p1), (1, .int x1), (2, .int x2), (5, .int x5)]) hx hb dX9_rowsOn_107 hl (k := 6) rfl rfl (by decide) rfl (fun ls hl => ?_)
              refine lv_goto (tgt := 43) hx hb dX9_rowsOn_110 (by decide) ?_
              exact ih (1 : Int64) (x6 + (1 : Int32)) _ _ _ h hP hD hS (lv_sub hl [3, 4, 5, 1, 6, 0] rfl)
  have L_f_X9_rowsOn_L5 : ∀ (n_p1 : Nat) (g_p1 : Nat → Int64) (x1 : Int32) (x2 : Int32)   (n : Nat), ∀ (x3 : Int64) (x5 : Int32) (H : Heap) (locs : List Loc) (ls : Array Slot), f_X9_rowsOn_L5 n_p1 g_p1 x1 x2  n x3 x5 = some o → va_P D vwCl (cJ_ dT a_p1 n_p1 g_p1) H → va_D A (cJ_ dT a_p1 n_p1 g_p1) → va_S A s.heap H locs → lv_has ls 8 [(0, .ref a_p1), (1, .int x1), (2, .int x2), (3, .long x3), (5, .int x5)] → W p l e (headSpec (WSm yX9_rowsOn cX9_rowsOn 8 (some .long)) { frames := 2, cells := 0, slots := 0, locals := 43 }).room s m [.ref a_p1, .int v1, .int v2].toArray below meth c H locs 0 0 (MQ below (va_Ql (fun (r : Int64) (u : Unit) => r = o.1 ∧ u = o.2) (fun u t => cAt D dT A (cJ_ dT a_p1 n_p1 g_p1) t) A) [.ref a_p1, .int v1, .int v2].toArray s 0 0 A) (F0 m 5 ls []) := by
    intro n_p1 g_p1 x1 x2   n
    induction n with
    | zero => intro x3 x5 H locs ls h; exact nomatch h
    | succ n ih =>
      intro x3 x5 H locs ls h hP hD hS hl
      unfold f_X9_rowsOn_L5 at h
      refine lv_iload hx hb dX9_rowsOn_5 (lv_at hl 4 rfl) ?_
      refine lv_i2l hx hb dX9_rowsOn_7 rfl ?_
      refine lv_aload_n hx hb dX9_rowsOn_8 rfl (lv_at hl 0 rfl) ?_
      refine lv_iconst (v := 0) hx hb dX9_rowsOn_9 (by decide) ?_
      obtain ⟨g1, h⟩ := chk h
      refine va_lald hx hb hK hP 0 1 rfl rfl (inb_in g1) dX9_rowsOn_10 ?_
      refine W.lcmp hx hb dX9_rowsOn_11 ?_
      refine lv_if_ge (tgt := 119) hx hb dX9_rowsOn_12 (by decide) (fun c2 => ?_) (fun c2 => ?_)
      · replace h := iteT c2 h
        refine lv_lload_n hx hb dX9_rowsOn_119 rfl (lv_at hl 3 rfl) ?_
        exact rt_l hx hb hr hlk hK hS (() : Unit) (ret2 h) hP hD dX9_rowsOn_120
      · replace h := iteF c2 h
        refine lv_iload_n hx hb dX9_rowsOn_15 rfl (lv_at hl 1 rfl) ?_
        refine lv_iload hx hb dX9_rowsOn_16 (lv_at hl 4 rfl) ?_
        refine lv_ishr hx hb dX9_rowsOn_18 ?_
        refine lv_iconst (v := 1) hx hb dX9_rowsOn_19 (by decide) ?_
        refine lv_iand hx hb dX9_rowsOn_20 ?_
        refine lv_iconst (v := 1) hx hb dX9_rowsOn_21 (by decide) ?_
        refine lv_icmp_ne (tgt := 113) hx hb dX9_rowsOn_22 (by decide) (fun c3 => ?_) (fun c3 => ?_)
        · replace h := iteF c3 h
          refine lv_iinc (v := (x5 + (1 : Int32))) (lv' := [(5, .int (x5 + (1 : Int32))), (0, .ref a_p1), (1, .int x1), (2, .int x2), (3, .long x3)]) hx hb dX9_rowsOn_113 hl (k := 4) rfl rfl (by decide) rfl (fun ls hl => ?_)
          refine lv_goto (tgt := 5) hx hb dX9_rowsOn_116 (by decide) ?_
          exact ih x3 (x5 + (1 : Int32)) _ _ _ h hP hD hS (lv_sub hl [1, 2, 3, 4, 0] rfl)
        · replace h := iteT c3 h
          refine lv_ldc2 (v := 1000000000000) hx hb hown (hqs _ w_1288) dX9_rowsOn_25 ?_
          refine lv_lload_n hx hb dX9_rowsOn_28 rfl (lv_at hl 3 rfl) ?_
          refine lv_aload_n hx hb dX9_rowsOn_29 rfl (lv_at hl 0 rfl) ?_
          refine lv_iconst (v := 1) hx hb dX9_rowsOn_30 (by decide) ?_
          refine lv_iload hx hb dX9_rowsOn_31 (lv_at hl 4 rfl) ?_
          refine lv_iadd hx hb dX9_rowsOn_33 ?_
          obtain ⟨g4, h⟩ := chk h
          refine va_lald hx hb hK hP 0 1 rfl rfl (inb_in g4) dX9_rowsOn_34 ?_
          refine lv_lmul hx hb dX9_rowsOn_35 ?_
          obtain ⟨o5, e5, h⟩ := obind h
          have hPc := hP.sub (ws' := ([] : va_W)) [] rfl
          have hDc := hD.sub (ws' := ([] : va_W)) [] (by decide) rfl
          have hFc := va_free (wc := ([] : va_W)) hD hS hA [] rfl
          refine cl_l (wr := (cJ_ dT a_p1 n_p1 g_p1)) (va_runS (As := [.long (1000000000000 : Int64), .long (x3 * (g_p1 ((1 : Int32) + x5).toNatClampNeg))]) (rest := []) ⟨hx, hb, hml, hown, hts⟩ (c_X9_less l hlt D dT (1000000000000 : Int64) (x3 * (g_p1 ((1 : Int32) + x5).toNatClampNeg)) o5 e5 _) (va_cwS 2 hts (TB_S w_1289 w_1290 w_59 w_1291) rfl rfl rfl nd_X9_less ⟨Nat.le_of_ble_eq_true rfl, Nat.le_of_ble_eq_true rfl⟩) (cPre.S hPc hDc hK hE hS hFc) rfl rfl hl.1 rfl (lv_room (Nat.le_of_ble_eq_true rfl)) dX9_rowsOn_36 ⟨Nat.zero_le _, Nat.zero_le _⟩) hP hD hS hFc [] [0] rfl rfl (by decide) (by decide) (fun r5 u5 H locs hw hP hD hS => ?_)
          obtain ⟨rfl, rfl⟩ := hw
          have hP : va_P D vwCl (cJ_ dT a_p1 n_p1 g_p1) H := hP
          have hD : va_D A (cJ_ dT a_p1 n_p1 g_p1) := hD
          refine lv_lstore_n (lv' := [(3, .long o5.1), (0, .ref a_p1), (1, .int x1), (2, .int x2), (5, .int x5)]) hx hb dX9_rowsOn_39 rfl hl (by decide) rfl (fun ls hl => ?_)
          refine lv_iconst (v := 0) hx hb dX9_rowsOn_40 (by decide) ?_
          refine lv_istore (lv' := [(6, .int (0 : Int32)), (3, .long o5.1), (0, .ref a_p1), (1, .int x1), (2, .int x2), (5, .int x5)]) hx hb dX9_rowsOn_41 hl (by decide) rfl (fun ls hl => ?_)
          refine L_f_X9_rowsOn_L43 n_p1 g_p1 x1 x2 x5 _ ?_ FUEL o5.1 (0 : Int32) _ _ _ h hP hD hS (lv_sub hl [2, 3, 4, 1, 5, 0] rfl)
          · intro y13x3 H locs ls h hP hD hS hl
            refine lv_iinc (v := (x5 + (1 : Int32))) (lv' := [(5, .int (x5 + (1 : Int32))), (0, .ref a_p1), (1, .int x1), (2, .int x2), (3, .long y13x3)]) hx hb dX9_rowsOn_113 hl (k := 4) rfl rfl (by decide) rfl (fun ls hl => ?_)
            refine lv_goto (tgt := 5) hx hb dX9_rowsOn_116 (by decide) ?_
            exact ih y13x3 (x5 + (1 : Int32)) _ _ _ h hP hD hS (lv_sub hl [1, 2, 3, 4, 0] rfl)
  unfold f_X9_rowsOn at h
  refine lv_lconst (v := 1) hx hb dX9_rowsOn_0 (by decide) ?_
  refine lv_lstore_n (lv' := [(3, .long (1 : Int64)), (0, .ref a_p1), (1, .int v1), (2, .int v2)]) hx hb dX9_rowsOn_1 rfl hl (by decide) rfl (fun ls hl => ?_)
  refine lv_iconst (v := 0) hx hb dX9_rowsOn_2 (by decide) ?_
  refine lv_istore (lv' := [(5, .int (0 : Int32)), (3, .long (1 : Int64)), (0, .ref a_p1), (1, .int v1), (2, .int v2)]) hx hb dX9_rowsOn_3 hl (by decide) rfl (fun ls hl => ?_)
  refine L_f_X9_rowsOn_L5 n_p1 g_p1 v1 v2   FUEL (1 : Int64) (0 : Int32) _ _ _ h hP hD hS (lv_sub hl [2, 3, 4, 1, 0] rfl)

def f_X9_layRows_L3 (n_p1 : Nat) (n_p2 : Nat) (g_p1 : Nat → Int64) (x3 : Int32)  : Nat → Int32 → (Nat → Int64) → Option (Unit × ((Nat → Int64)))
  | 0, _, _ => none
  | n + 1, x4, g_p2 =>
    (if inb (0 : Int32) n_p1 = true then (if ((1 : Int32) <<< ((Int64.toInt32 (g_p1 (0 : Int32).toNatClampNeg)) &&& 31)) ≤ x4 then (some ((), g_p2)) else ((f_X9_rowsOn n_p1 g_p1 x4 x3).bind fun o3 => (if inb x4 n_p2 = true then (f_X9_layRows_L3 n_p1 n_p2 g_p1 x3 n (x4 + (1 : Int32)) (vp_updL g_p2 x4.toNatClampNeg o3.1)) else none))) else none)
def f_X9_layRows (n_p1 : Nat) (n_p2 : Nat) (g_p1 : Nat → Int64) (g_p2 : Nat → Int64) (v3 : Int32) : Option (Unit × ((Nat → Int64))) :=
  (f_X9_layRows_L3 n_p1 n_p2 g_p1 v3 FUEL (0 : Int32) g_p2)
set_option maxHeartbeats 8000000 in
set_option maxRecDepth 100000 in
theorem c_X9_layRows (l : Launch) (hlt : l.stackTraces = false) (D : va_G) (dT : Nat → ClassId) (a_this : Nat → Nat) (a_p1 : Nat) (a_p2 : Nat) (n_p1 : Nat) (n_p2 : Nat) (g_p1 : Nat → Int64) (g_p2 : Nat → Int64) (v3 : Int32) (o : (Unit × ((Nat → Int64)))) (h : f_X9_layRows n_p1 n_p2 g_p1 g_p2 v3 = some o) (sz : Nat) : Met l yX9_layRows (WSm yX9_layRows cX9_layRows 5 none) { frames := 3, cells := 0, slots := 0, locals := 70 } (va_Pc [.ref (a_this 0), .ref a_p1, .ref a_p2, .int v3] (cPre D dT (cJ_ dT a_p1 n_p1 g_p1 ++ (cJ_ dT a_p2 n_p2 g_p2)) sz)) (va_Qv (fun (u : (Nat → Int64)) => u = o.2) (fun u t => cAt D dT (va_A (cJ_ dT a_p1 n_p1 g_p1 ++ (cJ_ dT a_p2 n_p2 g_p2)) sz) (cJ_ dT a_p1 n_p1 g_p1 ++ (cJ_ dT a_p2 n_p2 u)) t) (va_A (cJ_ dT a_p1 n_p1 g_p1 ++ (cJ_ dT a_p2 n_p2 g_p2)) sz)) 0 0 (va_A (cJ_ dT a_p1 n_p1 g_p1 ++ (cJ_ dT a_p2 n_p2 g_p2)) sz) := by
  refine mStart (WS := (cJ_ dT a_p1 n_p1 g_p1 ++ (cJ_ dT a_p2 n_p2 g_p2))) (Qc := fun A => va_Qv (fun (u : (Nat → Int64)) => u = o.2) (fun u t => cAt D dT A (cJ_ dT a_p1 n_p1 g_p1 ++ (cJ_ dT a_p2 n_p2 u)) t) A) RX9 rfl (by decide) (Nat.le_of_ble_eq_true rfl) ?_ sz
  intro p e s m below meth c A ls hx hb hml hr hlk hnm hts hqs hown hE hA hK hP hD hS hl
  have hl : lv_has ls 5 [(0, .ref (a_this 0)), (1, .ref a_p1), (2, .ref a_p2), (3, .int v3)] := hl
  have L_f_X9_layRows_L3 : ∀ (n_p1 : Nat) (n_p2 : Nat) (g_p1 : Nat → Int64) (x3 : Int32)   (n : Nat), ∀ (x4 : Int32) (g_p2 : Nat → Int64) (H : Heap) (locs : List Loc) (ls : Array Slot), f_X9_layRows_L3 n_p1 n_p2 g_p1 x3  n x4 g_p2 = some o → va_P D vwCl (cJ_ dT a_p1 n_p1 g_p1 ++ (cJ_ dT a_p2 n_p2 g_p2)) H → va_D A (cJ_ dT a_p1 n_p1 g_p1 ++ (cJ_ dT a_p2 n_p2 g_p2)) → va_S A s.heap H locs → lv_has ls 5 [(1, .ref a_p1), (2, .ref a_p2), (3, .int x3), (4, .int x4)] → W p l e (headSpec (WSm yX9_layRows cX9_layRows 5 none) { frames := 3, cells := 0, slots := 0, locals := 70 }).room s m [.ref (a_this 0), .ref a_p1, .ref a_p2, .int v3].toArray below meth c H locs 0 0 (MQ below (va_Qv (fun (u : (Nat → Int64)) => u = o.2) (fun u t => cAt D dT A (cJ_ dT a_p1 n_p1 g_p1 ++ (cJ_ dT a_p2 n_p2 u)) t) A) [.ref (a_this 0), .ref a_p1, .ref a_p2, .int v3].toArray s 0 0 A) (F0 m 3 ls []) := by
    intro n_p1 n_p2 g_p1 x3   n
    induction n with
    | zero => intro x4 g_p2 H locs ls h; exact nomatch h
    | succ n ih =>
      intro x4 g_p2 H locs ls h hP hD hS hl
      unfold f_X9_layRows_L3 at h
      refine lv_iload hx hb dX9_layRows_3 (lv_at hl 3 rfl) ?_
      refine lv_iconst (v := 1) hx hb dX9_layRows_5 (by decide) ?_
      refine lv_aload_n hx hb dX9_layRows_6 rfl (lv_at hl 0 rfl) ?_
      refine lv_iconst (v := 0) hx hb dX9_layRows_7 (by decide) ?_
      obtain ⟨g1, h⟩ := chk h
      refine va_lald hx hb hK hP 0 1 rfl rfl (inb_in g1) dX9_layRows_8 ?_
      refine lv_l2i hx hb dX9_layRows_9 rfl ?_
      refine lv_ishl hx hb dX9_layRows_10 ?_
      refine lv_icmp_ge (tgt := 31) hx hb dX9_layRows_11 (by decide) (fun c2 => ?_) (fun c2 => ?_)
      · replace h := iteT c2 h
        exact rt_v hx hb hr hlk hK hS (g_p2 : (Nat → Int64)) (retv h) hP hD dX9_layRows_31
      · replace h := iteF c2 h
        refine lv_aload_n hx hb dX9_layRows_14 rfl (lv_at hl 1 rfl) ?_
        refine lv_iload hx hb dX9_layRows_15 (lv_at hl 3 rfl) ?_
        refine lv_aload_n hx hb dX9_layRows_17 rfl (lv_at hl 0 rfl) ?_
        refine lv_iload hx hb dX9_layRows_18 (lv_at hl 3 rfl) ?_
        refine lv_iload_n hx hb dX9_layRows_20 rfl (lv_at hl 2 rfl) ?_
        obtain ⟨o3, e3, h⟩ := obind h
        have hPc := hP.sub (ws' := (cJ_ dT a_p1 n_p1 g_p1)) [0] rfl
        have hDc := hD.sub (ws' := (cJ_ dT a_p1 n_p1 g_p1)) [0] (by decide) rfl
        have hFc := va_free (wc := (cJ_ dT a_p1 n_p1 g_p1)) hD hS hA [0] rfl
        refine cl_l (wr := (cJ_ dT a_p2 n_p2 g_p2)) (va_runS (As := [.ref a_p1, .int x4, .int x3]) (rest := [.int x4, .ref a_p2]) ⟨hx, hb, hml, hown, hts⟩ (c_X9_rowsOn l hlt D dT a_p1 n_p1 g_p1 x4 x3 o3 e3 _) (va_cwS 3 hts (TB_S w_1285 w_1286 w_59 w_1287) rfl rfl rfl nd_X9_rowsOn ⟨Nat.le_of_ble_eq_true rfl, Nat.le_of_ble_eq_true rfl⟩) (cPre.S hPc hDc hK hE hS hFc) rfl rfl hl.1 rfl (lv_room (Nat.le_of_ble_eq_true rfl)) dX9_layRows_21 ⟨Nat.zero_le _, Nat.zero_le _⟩) hP hD hS hFc [0] [1] rfl rfl (by decide) (by decide) (fun r3 u3 H locs hw hP hD hS => ?_)
        obtain ⟨rfl, rfl⟩ := hw
        have hP : va_P D vwCl (cJ_ dT a_p2 n_p2 g_p2 ++ (cJ_ dT a_p1 n_p1 g_p1)) H := hP
        have hD : va_D A (cJ_ dT a_p2 n_p2 g_p2 ++ (cJ_ dT a_p1 n_p1 g_p1)) := hD
        obtain ⟨g4, h⟩ := chk h
        refine va_last hx hb hK hP hD hS 0 1 rfl rfl (inb_in g4) dX9_layRows_24 (fun H locs hP hD hS => ?_)
        have hP : va_P D vwCl (cJ_ dT a_p2 n_p2 (vp_updL g_p2 x4.toNatClampNeg o3.1) ++ (cJ_ dT a_p1 n_p1 g_p1)) H := hP
        have hD : va_D A (cJ_ dT a_p2 n_p2 (vp_updL g_p2 x4.toNatClampNeg o3.1) ++ (cJ_ dT a_p1 n_p1 g_p1)) := hD
        refine lv_iinc (v := (x4 + (1 : Int32))) (lv' := [(4, .int (x4 + (1 : Int32))), (1, .ref a_p1), (2, .ref a_p2), (3, .int x3)]) hx hb dX9_layRows_25 hl (k := 3) rfl rfl (by decide) rfl (fun ls hl => ?_)
        refine lv_goto (tgt := 3) hx hb dX9_layRows_28 (by decide) ?_
        have hP := hP.sub (ws' := (cJ_ dT a_p1 n_p1 g_p1 ++ (cJ_ dT a_p2 n_p2 (vp_updL g_p2 x4.toNatClampNeg o3.1)))) [1, 0] rfl
        have hD := hD.sub (ws' := (cJ_ dT a_p1 n_p1 g_p1 ++ (cJ_ dT a_p2 n_p2 (vp_updL g_p2 x4.toNatClampNeg o3.1)))) [1, 0] (by decide) rfl
        exact ih (x4 + (1 : Int32)) (vp_updL g_p2 x4.toNatClampNeg o3.1) _ _ _ h hP hD hS (lv_sub hl [1, 2, 3, 0] rfl)
  unfold f_X9_layRows at h
  refine lv_iconst (v := 0) hx hb dX9_layRows_0 (by decide) ?_
  refine lv_istore (lv' := [(4, .int (0 : Int32)), (0, .ref (a_this 0)), (1, .ref a_p1), (2, .ref a_p2), (3, .int v3)]) hx hb dX9_layRows_1 hl (by decide) rfl (fun ls hl => ?_)
  refine L_f_X9_layRows_L3 n_p1 n_p2 g_p1 v3   FUEL (0 : Int32) g_p2 _ _ _ h hP hD hS (lv_sub hl [2, 3, 4, 0] rfl)

def f_X9_isByList (n_p1 : Nat) (n_p2 : Nat) (g_p1 : Nat → Int64) (g_p2 : Nat → Int64) (v2 : Int32) (v3 : Int32) : Option (Int32 × (Unit)) :=
  (if inb v2 n_p2 = true then (if inb ((1 : Int32) + v3) n_p1 = true then (if inb v2 n_p2 = true then (if inb ((1 : Int32) + v3) n_p1 = true then (if (0 : Int32) ≤ (lg_cmp ((3 : Int64) * ((g_p2 v2.toNatClampNeg) + (g_p1 ((1 : Int32) + v3).toNatClampNeg))) ((g_p2 v2.toNatClampNeg) * (g_p1 ((1 : Int32) + v3).toNatClampNeg))) then (some ((0 : Int32), ())) else (some ((1 : Int32), ()))) else none) else none) else none) else none)
set_option maxHeartbeats 8000000 in
set_option maxRecDepth 100000 in
theorem c_X9_isByList (l : Launch) (hlt : l.stackTraces = false) (D : va_G) (dT : Nat → ClassId) (a_p1 : Nat) (a_p2 : Nat) (n_p1 : Nat) (n_p2 : Nat) (g_p1 : Nat → Int64) (g_p2 : Nat → Int64) (v2 : Int32) (v3 : Int32) (o : (Int32 × (Unit))) (h : f_X9_isByList n_p1 n_p2 g_p1 g_p2 v2 v3 = some o) (sz : Nat) : Met l yX9_isByList (WSm yX9_isByList cX9_isByList 4 (some .boolean)) { frames := 0, cells := 0, slots := 0, locals := 0 } (va_Pc [.ref a_p1, .ref a_p2, .int v2, .int v3] (cPre D dT (cJ_ dT a_p1 n_p1 g_p1 ++ (cJ_ dT a_p2 n_p2 g_p2)) sz)) (va_Qi (fun (r : Int32) (u : Unit) => r = o.1 ∧ u = o.2) (fun u t => cAt D dT (va_A (cJ_ dT a_p1 n_p1 g_p1 ++ (cJ_ dT a_p2 n_p2 g_p2)) sz) (cJ_ dT a_p1 n_p1 g_p1 ++ (cJ_ dT a_p2 n_p2 g_p2)) t) (va_A (cJ_ dT a_p1 n_p1 g_p1 ++ (cJ_ dT a_p2 n_p2 g_p2)) sz)) 0 0 (va_A (cJ_ dT a_p1 n_p1 g_p1 ++ (cJ_ dT a_p2 n_p2 g_p2)) sz) := by
  refine mStart (WS := (cJ_ dT a_p1 n_p1 g_p1 ++ (cJ_ dT a_p2 n_p2 g_p2))) (Qc := fun A => va_Qi (fun (r : Int32) (u : Unit) => r = o.1 ∧ u = o.2) (fun u t => cAt D dT A (cJ_ dT a_p1 n_p1 g_p1 ++ (cJ_ dT a_p2 n_p2 g_p2)) t) A) RX9 rfl (by decide) (Nat.le_of_ble_eq_true rfl) ?_ sz
  intro p e s m below meth c A ls hx hb hml hr hlk hnm hts hqs hown hE hA hK hP hD hS hl
  have hl : lv_has ls 4 [(0, .ref a_p1), (1, .ref a_p2), (2, .int v2), (3, .int v3)] := hl
  unfold f_X9_isByList at h
  refine lv_ldc2 (v := 3) hx hb hown (hqs _ w_1203) dX9_isByList_0 ?_
  refine lv_aload_n hx hb dX9_isByList_3 rfl (lv_at hl 1 rfl) ?_
  refine lv_iload_n hx hb dX9_isByList_4 rfl (lv_at hl 2 rfl) ?_
  obtain ⟨g1, h⟩ := chk h
  refine va_lald hx hb hK hP 1 1 rfl rfl (inb_in g1) dX9_isByList_5 ?_
  refine lv_aload_n hx hb dX9_isByList_6 rfl (lv_at hl 0 rfl) ?_
  refine lv_iconst (v := 1) hx hb dX9_isByList_7 (by decide) ?_
  refine lv_iload_n hx hb dX9_isByList_8 rfl (lv_at hl 3 rfl) ?_
  refine lv_iadd hx hb dX9_isByList_9 ?_
  obtain ⟨g2, h⟩ := chk h
  refine va_lald hx hb hK hP 0 1 rfl rfl (inb_in g2) dX9_isByList_10 ?_
  refine lv_ladd hx hb dX9_isByList_11 ?_
  refine lv_lmul hx hb dX9_isByList_12 ?_
  refine lv_aload_n hx hb dX9_isByList_13 rfl (lv_at hl 1 rfl) ?_
  refine lv_iload_n hx hb dX9_isByList_14 rfl (lv_at hl 2 rfl) ?_
  obtain ⟨g3, h⟩ := chk h
  refine va_lald hx hb hK hP 1 1 rfl rfl (inb_in g3) dX9_isByList_15 ?_
  refine lv_aload_n hx hb dX9_isByList_16 rfl (lv_at hl 0 rfl) ?_
  refine lv_iconst (v := 1) hx hb dX9_isByList_17 (by decide) ?_
  refine lv_iload_n hx hb dX9_isByList_18 rfl (lv_at hl 3 rfl) ?_
  refine lv_iadd hx hb dX9_isByList_19 ?_
  obtain ⟨g4, h⟩ := chk h
  refine va_lald hx hb hK hP 0 1 rfl rfl (inb_in g4) dX9_isByList_20 ?_
  refine lv_lmul hx hb dX9_isByList_21 ?_
  refine W.lcmp hx hb dX9_isByList_22 ?_
  refine lv_if_ge (tgt := 30) hx hb dX9_isByList_23 (by decide) (fun c5 => ?_) (fun c5 => ?_)
  · replace h := iteT c5 h
    refine lv_iconst (v := 0) hx hb dX9_isByList_30 (by decide) ?_
    exact rt_z hx hb hr hlk hK hS (() : Unit) (ret2 h) (by decide) hP hD dX9_isByList_31
  · replace h := iteF c5 h
    refine lv_iconst (v := 1) hx hb dX9_isByList_26 (by decide) ?_
    refine lv_goto (tgt := 31) hx hb dX9_isByList_27 (by decide) ?_
    exact rt_z hx hb hr hlk hK hS (() : Unit) (ret2 h) (by decide) hP hD dX9_isByList_31

def f_X9_stepCost_J44 (n_p1 : Nat) (n_p2 : Nat) (n_p3 : Nat) (g_p1 : Nat → Int64) (g_p2 : Nat → Int64) (g_p3 : Nat → Int64)  (x3 : Int32) (x4 : Int32) (s0 : Int64) : Option (Int64 × (Unit)) :=
    (if inb (x3 ||| ((1 : Int32) <<< (x4 &&& 31))) n_p3 = true then ((f_X9_less (1000000000000000 : Int64) (s0 + (g_p3 (x3 ||| ((1 : Int32) <<< (x4 &&& 31))).toNatClampNeg))).bind fun o7 => (some (o7.1, ()))) else none)
def f_X9_stepCost (n_p1 : Nat) (n_p2 : Nat) (n_p3 : Nat) (g_p1 : Nat → Int64) (g_p2 : Nat → Int64) (g_p3 : Nat → Int64) (v3 : Int32) (v4 : Int32) : Option (Int64 × (Unit)) :=
  (if v3 = (0 : Int32) then (some ((0 : Int64), ())) else ((f_X9_isByList n_p1 n_p2 g_p1 g_p2 v3 v4).bind fun o2 => (if o2.1 = (0 : Int32) then (if inb v3 n_p3 = true then (if inb ((1 : Int32) + v4) n_p1 = true then (f_X9_stepCost_J44 n_p1 n_p2 n_p3 g_p1 g_p2 g_p3 v3 v4 ((g_p3 v3.toNatClampNeg) * (g_p1 ((1 : Int32) + v4).toNatClampNeg))) else none) else none) else (if inb v3 n_p3 = true then (if inb ((1 : Int32) + v4) n_p1 = true then (f_X9_stepCost_J44 n_p1 n_p2 n_p3 g_p1 g_p2 g_p3 v3 v4 ((3 : Int64) * ((g_p3 v3.toNatClampNeg) + (g_p1 ((1 : Int32) + v4).toNatClampNeg)))) else none) else none))))
set_option maxHeartbeats 8000000 in
set_option maxRecDepth 100000 in
theorem c_X9_stepCost (l : Launch) (hlt : l.stackTraces = false) (D : va_G) (dT : Nat → ClassId) (a_p1 : Nat) (a_p2 : Nat) (a_p3 : Nat) (n_p1 : Nat) (n_p2 : Nat) (n_p3 : Nat) (g_p1 : Nat → Int64) (g_p2 : Nat → Int64) (g_p3 : Nat → Int64) (v3 : Int32) (v4 : Int32) (o : (Int64 × (Unit))) (h : f_X9_stepCost n_p1 n_p2 n_p3 g_p1 g_p2 g_p3 v3 v4 = some o) (sz : Nat) : Met l yX9_stepCost (WSm yX9_stepCost cX9_stepCost 7 (some .long)) { frames := 1, cells := 0, slots := 0, locals := 23 } (va_Pc [.ref a_p1, .ref a_p2, .ref a_p3, .int v3, .int v4] (cPre D dT (cJ_ dT a_p1 n_p1 g_p1 ++ (cJ_ dT a_p2 n_p2 g_p2 ++ (cJ_ dT a_p3 n_p3 g_p3))) sz)) (va_Ql (fun (r : Int64) (u : Unit) => r = o.1 ∧ u = o.2) (fun u t => cAt D dT (va_A (cJ_ dT a_p1 n_p1 g_p1 ++ (cJ_ dT a_p2 n_p2 g_p2 ++ (cJ_ dT a_p3 n_p3 g_p3))) sz) (cJ_ dT a_p1 n_p1 g_p1 ++ (cJ_ dT a_p2 n_p2 g_p2 ++ (cJ_ dT a_p3 n_p3 g_p3))) t) (va_A (cJ_ dT a_p1 n_p1 g_p1 ++ (cJ_ dT a_p2 n_p2 g_p2 ++ (cJ_ dT a_p3 n_p3 g_p3))) sz)) 0 0 (va_A (cJ_ dT a_p1 n_p1 g_p1 ++ (cJ_ dT a_p2 n_p2 g_p2 ++ (cJ_ dT a_p3 n_p3 g_p3))) sz) := by
  refine mStart (WS := (cJ_ dT a_p1 n_p1 g_p1 ++ (cJ_ dT a_p2 n_p2 g_p2 ++ (cJ_ dT a_p3 n_p3 g_p3)))) (Qc := fun A => va_Ql (fun (r : Int64) (u : Unit) => r = o.1 ∧ u = o.2) (fun u t => cAt D dT A (cJ_ dT a_p1 n_p1 g_p1 ++ (cJ_ dT a_p2 n_p2 g_p2 ++ (cJ_ dT a_p3 n_p3 g_p3))) t) A) RX9 rfl (by decide) (Nat.le_of_ble_eq_true rfl) ?_ sz
  intro p e s m below meth c A ls hx hb hml hr hlk hnm hts hqs hown hE hA hK hP hD hS hl
  have hl : lv_has ls 7 [(0, .ref a_p1), (1, .ref a_p2), (2, .ref a_p3), (3, .int v3), (4, .int v4)] := hl
  have L_f_X9_stepCost_J44 : ∀ (n_p1 : Nat) (n_p2 : Nat) (n_p3 : Nat) (g_p1 : Nat → Int64) (g_p2 : Nat → Int64) (g_p3 : Nat → Int64) (x3 : Int32) (x4 : Int32) (s0 : Int64)   (H : Heap) (locs : List Loc) (ls : Array Slot), f_X9_stepCost_J44 n_p1 n_p2 n_p3 g_p1 g_p2 g_p3  x3 x4 s0 = some o → va_P D vwCl (cJ_ dT a_p1 n_p1 g_p1 ++ (cJ_ dT a_p2 n_p2 g_p2 ++ (cJ_ dT a_p3 n_p3 g_p3))) H → va_D A (cJ_ dT a_p1 n_p1 g_p1 ++ (cJ_ dT a_p2 n_p2 g_p2 ++ (cJ_ dT a_p3 n_p3 g_p3))) → va_S A s.heap H locs → lv_has ls 7 [(2, .ref a_p3), (3, .int x3), (4, .int x4)] → W p l e (headSpec (WSm yX9_stepCost cX9_stepCost 7 (some .long)) { frames := 1, cells := 0, slots := 0, locals := 23 }).room s m [.ref a_p1, .ref a_p2, .ref a_p3, .int v3, .int v4].toArray below meth c H locs 0 0 (MQ below (va_Ql (fun (r : Int64) (u : Unit) => r = o.1 ∧ u = o.2) (fun u t => cAt D dT A (cJ_ dT a_p1 n_p1 g_p1 ++ (cJ_ dT a_p2 n_p2 g_p2 ++ (cJ_ dT a_p3 n_p3 g_p3))) t) A) [.ref a_p1, .ref a_p2, .ref a_p3, .int v3, .int v4].toArray s 0 0 A) (F0 m 44 ls [.long s0]) := by
    intro n_p1 n_p2 n_p3 g_p1 g_p2 g_p3 x3 x4 s0   H locs ls h hP hD hS hl
    unfold f_X9_stepCost_J44 at h
    refine lv_lstore (lv' := [(5, .long s0), (2, .ref a_p3), (3, .int x3), (4, .int x4)]) hx hb dX9_stepCost_44 hl (by decide) rfl (fun ls hl => ?_)
    refine lv_ldc2 (v := 1000000000000000) hx hb hown (hqs _ w_1302) dX9_stepCost_46 ?_
    refine lv_lload hx hb dX9_stepCost_49 (lv_at hl 0 rfl) ?_
    refine lv_aload_n hx hb dX9_stepCost_51 rfl (lv_at hl 1 rfl) ?_
    refine lv_iload_n hx hb dX9_stepCost_52 rfl (lv_at hl 2 rfl) ?_
    refine lv_iconst (v := 1) hx hb dX9_stepCost_53 (by decide) ?_
    refine lv_iload hx hb dX9_stepCost_54 (lv_at hl 3 rfl) ?_
    refine lv_ishl hx hb dX9_stepCost_56 ?_
    refine lv_ior hx hb dX9_stepCost_57 ?_
    obtain ⟨g6, h⟩ := chk h
    refine va_lald hx hb hK hP 2 1 rfl rfl (inb_in g6) dX9_stepCost_58 ?_
    refine lv_ladd hx hb dX9_stepCost_59 ?_
    obtain ⟨o7, e7, h⟩ := obind h
    have hPc := hP.sub (ws' := ([] : va_W)) [] rfl
    have hDc := hD.sub (ws' := ([] : va_W)) [] (by decide) rfl
    have hFc := va_free (wc := ([] : va_W)) hD hS hA [] rfl
    refine cl_l (wr := (cJ_ dT a_p1 n_p1 g_p1 ++ (cJ_ dT a_p2 n_p2 g_p2 ++ (cJ_ dT a_p3 n_p3 g_p3)))) (va_runS (As := [.long (1000000000000000 : Int64), .long (s0 + (g_p3 (x3 ||| ((1 : Int32) <<< (x4 &&& 31))).toNatClampNeg))]) (rest := []) ⟨hx, hb, hml, hown, hts⟩ (c_X9_less l hlt D dT (1000000000000000 : Int64) (s0 + (g_p3 (x3 ||| ((1 : Int32) <<< (x4 &&& 31))).toNatClampNeg)) o7 e7 _) (va_cwS 2 hts (TB_S w_1289 w_1290 w_59 w_1291) rfl rfl rfl nd_X9_less ⟨Nat.le_of_ble_eq_true rfl, Nat.le_of_ble_eq_true rfl⟩) (cPre.S hPc hDc hK hE hS hFc) rfl rfl hl.1 rfl (lv_room (Nat.le_of_ble_eq_true rfl)) dX9_stepCost_60 ⟨Nat.zero_le _, Nat.zero_le _⟩) hP hD hS hFc [] [0, 1, 2] rfl rfl (by decide) (by decide) (fun r7 u7 H locs hw hP hD hS => ?_)
    obtain ⟨rfl, rfl⟩ := hw
    have hP : va_P D vwCl (cJ_ dT a_p1 n_p1 g_p1 ++ (cJ_ dT a_p2 n_p2 g_p2 ++ (cJ_ dT a_p3 n_p3 g_p3))) H := hP
    have hD : va_D A (cJ_ dT a_p1 n_p1 g_p1 ++ (cJ_ dT a_p2 n_p2 g_p2 ++ (cJ_ dT a_p3 n_p3 g_p3))) := hD
    exact rt_l hx hb hr hlk hK hS (() : Unit) (ret2 h) hP hD dX9_stepCost_63
  unfold f_X9_stepCost at h
  refine lv_iload_n hx hb dX9_stepCost_0 rfl (lv_at hl 3 rfl) ?_
  refine lv_if_ne (tgt := 6) hx hb dX9_stepCost_1 (by decide) (fun c1 => ?_) (fun c1 => ?_)
  · replace h := iteF c1 h
    refine lv_aload_n hx hb dX9_stepCost_6 rfl (lv_at hl 0 rfl) ?_
    refine lv_aload_n hx hb dX9_stepCost_7 rfl (lv_at hl 1 rfl) ?_
    refine lv_iload_n hx hb dX9_stepCost_8 rfl (lv_at hl 3 rfl) ?_
    refine lv_iload hx hb dX9_stepCost_9 (lv_at hl 4 rfl) ?_
    obtain ⟨o2, e2, h⟩ := obind h
    have hPc := hP.sub (ws' := (cJ_ dT a_p1 n_p1 g_p1 ++ (cJ_ dT a_p2 n_p2 g_p2))) [0, 1] rfl
    have hDc := hD.sub (ws' := (cJ_ dT a_p1 n_p1 g_p1 ++ (cJ_ dT a_p2 n_p2 g_p2))) [0, 1] (by decide) rfl
    have hFc := va_free (wc := (cJ_ dT a_p1 n_p1 g_p1 ++ (cJ_ dT a_p2 n_p2 g_p2))) hD hS hA [0, 1] rfl
    refine cl_i (wr := (cJ_ dT a_p3 n_p3 g_p3)) (va_runS (As := [.ref a_p1, .ref a_p2, .int v3, .int v4]) (rest := []) ⟨hx, hb, hml, hown, hts⟩ (c_X9_isByList l hlt D dT a_p1 a_p2 n_p1 n_p2 g_p1 g_p2 v3 v4 o2 e2 _) (va_cwS 4 hts (TB_S w_1299 w_1300 w_59 w_1301) rfl rfl rfl nd_X9_isByList ⟨Nat.le_of_ble_eq_true rfl, Nat.le_of_ble_eq_true rfl⟩) (cPre.S hPc hDc hK hE hS hFc) rfl rfl hl.1 rfl (lv_room (Nat.le_of_ble_eq_true rfl)) dX9_stepCost_11 ⟨Nat.zero_le _, Nat.zero_le _⟩) hP hD hS hFc [0, 1] [2] rfl rfl (by decide) (by decide) (fun r2 u2 H locs hw hP hD hS => ?_)
    obtain ⟨rfl, rfl⟩ := hw
    have hP : va_P D vwCl (cJ_ dT a_p3 n_p3 g_p3 ++ (cJ_ dT a_p1 n_p1 g_p1 ++ (cJ_ dT a_p2 n_p2 g_p2))) H := hP
    have hD : va_D A (cJ_ dT a_p3 n_p3 g_p3 ++ (cJ_ dT a_p1 n_p1 g_p1 ++ (cJ_ dT a_p2 n_p2 g_p2))) := hD
    refine lv_if_eq (tgt := 34) hx hb dX9_stepCost_14 (by decide) (fun c3 => ?_) (fun c3 => ?_)
    · replace h := iteT c3 h
      refine lv_aload_n hx hb dX9_stepCost_34 rfl (lv_at hl 2 rfl) ?_
      refine lv_iload_n hx hb dX9_stepCost_35 rfl (lv_at hl 3 rfl) ?_
      obtain ⟨g4, h⟩ := chk h
      refine va_lald hx hb hK hP 0 1 rfl rfl (inb_in g4) dX9_stepCost_36 ?_
      refine lv_aload_n hx hb dX9_stepCost_37 rfl (lv_at hl 0 rfl) ?_
      refine lv_iconst (v := 1) hx hb dX9_stepCost_38 (by decide) ?_
      refine lv_iload hx hb dX9_stepCost_39 (lv_at hl 4 rfl) ?_
      refine lv_iadd hx hb dX9_stepCost_41 ?_
      obtain ⟨g5, h⟩ := chk h
      refine va_lald hx hb hK hP 1 1 rfl rfl (inb_in g5) dX9_stepCost_42 ?_
      refine lv_lmul hx hb dX9_stepCost_43 ?_
      have hP := hP.sub (ws' := (cJ_ dT a_p1 n_p1 g_p1 ++ (cJ_ dT a_p2 n_p2 g_p2 ++ (cJ_ dT a_p3 n_p3 g_p3)))) [1, 2, 0] rfl
      have hD := hD.sub (ws' := (cJ_ dT a_p1 n_p1 g_p1 ++ (cJ_ dT a_p2 n_p2 g_p2 ++ (cJ_ dT a_p3 n_p3 g_p3)))) [1, 2, 0] (by decide) rfl
      refine L_f_X9_stepCost_J44 n_p1 n_p2 n_p3 g_p1 g_p2 g_p3 v3 v4 ((g_p3 v3.toNatClampNeg) * (g_p1 ((1 : Int32) + v4).toNatClampNeg))   _ _ _ h hP hD hS (lv_sub hl [2, 3, 4] rfl)
    · replace h := iteF c3 h
      refine lv_ldc2 (v := 3) hx hb hown (hqs _ w_1203) dX9_stepCost_17 ?_
      refine lv_aload_n hx hb dX9_stepCost_20 rfl (lv_at hl 2 rfl) ?_
      refine lv_iload_n hx hb dX9_stepCost_21 rfl (lv_at hl 3 rfl) ?_
      obtain ⟨g8, h⟩ := chk h
      refine va_lald hx hb hK hP 0 1 rfl rfl (inb_in g8) dX9_stepCost_22 ?_
      refine lv_aload_n hx hb dX9_stepCost_23 rfl (lv_at hl 0 rfl) ?_
      refine lv_iconst (v := 1) hx hb dX9_stepCost_24 (by decide) ?_
      refine lv_iload hx hb dX9_stepCost_25 (lv_at hl 4 rfl) ?_
      refine lv_iadd hx hb dX9_stepCost_27 ?_
      obtain ⟨g9, h⟩ := chk h
      refine va_lald hx hb hK hP 1 1 rfl rfl (inb_in g9) dX9_stepCost_28 ?_
      refine lv_ladd hx hb dX9_stepCost_29 ?_
      refine lv_lmul hx hb dX9_stepCost_30 ?_
      refine lv_goto (tgt := 44) hx hb dX9_stepCost_31 (by decide) ?_
      have hP := hP.sub (ws' := (cJ_ dT a_p1 n_p1 g_p1 ++ (cJ_ dT a_p2 n_p2 g_p2 ++ (cJ_ dT a_p3 n_p3 g_p3)))) [1, 2, 0] rfl
      have hD := hD.sub (ws' := (cJ_ dT a_p1 n_p1 g_p1 ++ (cJ_ dT a_p2 n_p2 g_p2 ++ (cJ_ dT a_p3 n_p3 g_p3)))) [1, 2, 0] (by decide) rfl
      refine L_f_X9_stepCost_J44 n_p1 n_p2 n_p3 g_p1 g_p2 g_p3 v3 v4 ((3 : Int64) * ((g_p3 v3.toNatClampNeg) + (g_p1 ((1 : Int32) + v4).toNatClampNeg)))   _ _ _ h hP hD hS (lv_sub hl [2, 3, 4] rfl)
  · replace h := iteT c1 h
    refine lv_lconst (v := 0) hx hb dX9_stepCost_4 (by decide) ?_
    exact rt_l hx hb hr hlk hK hS (() : Unit) (ret2 h) hP hD dX9_stepCost_5

def f_X9_stepCost_p2_J44 (n_p1 : Nat) (n_p2 : Nat) (g_p1 : Nat → Int64) (g_p2 : Nat → Int64)  (x3 : Int32) (x4 : Int32) (s0 : Int64) : Option (Int64 × (Unit)) :=
    (if inb (x3 ||| ((1 : Int32) <<< (x4 &&& 31))) n_p2 = true then ((f_X9_less (1000000000000000 : Int64) (s0 + (g_p2 (x3 ||| ((1 : Int32) <<< (x4 &&& 31))).toNatClampNeg))).bind fun o7 => (some (o7.1, ()))) else none)
def f_X9_stepCost_p2 (n_p1 : Nat) (n_p2 : Nat) (g_p1 : Nat → Int64) (g_p2 : Nat → Int64) (v3 : Int32) (v4 : Int32) : Option (Int64 × (Unit)) :=
  (if v3 = (0 : Int32) then (some ((0 : Int64), ())) else ((f_X9_isByList n_p1 n_p2 g_p1 g_p2 v3 v4).bind fun o2 => (if o2.1 = (0 : Int32) then (if inb v3 n_p2 = true then (if inb ((1 : Int32) + v4) n_p1 = true then (f_X9_stepCost_p2_J44 n_p1 n_p2 g_p1 g_p2 v3 v4 ((g_p2 v3.toNatClampNeg) * (g_p1 ((1 : Int32) + v4).toNatClampNeg))) else none) else none) else (if inb v3 n_p2 = true then (if inb ((1 : Int32) + v4) n_p1 = true then (f_X9_stepCost_p2_J44 n_p1 n_p2 g_p1 g_p2 v3 v4 ((3 : Int64) * ((g_p2 v3.toNatClampNeg) + (g_p1 ((1 : Int32) + v4).toNatClampNeg)))) else none) else none))))
set_option maxHeartbeats 8000000 in
set_option maxRecDepth 100000 in
theorem c_X9_stepCost_p2 (l : Launch) (hlt : l.stackTraces = false) (D : va_G) (dT : Nat → ClassId) (a_p1 : Nat) (a_p2 : Nat) (n_p1 : Nat) (n_p2 : Nat) (g_p1 : Nat → Int64) (g_p2 : Nat → Int64) (v3 : Int32) (v4 : Int32) (o : (Int64 × (Unit))) (h : f_X9_stepCost_p2 n_p1 n_p2 g_p1 g_p2 v3 v4 = some o) (sz : Nat) : Met l yX9_stepCost (WSm yX9_stepCost cX9_stepCost 7 (some .long)) { frames := 1, cells := 0, slots := 0, locals := 23 } (va_Pc [.ref a_p1, .ref a_p2, .ref a_p2, .int v3, .int v4] (cPre D dT (cJ_ dT a_p1 n_p1 g_p1 ++ (cJ_ dT a_p2 n_p2 g_p2)) sz)) (va_Ql (fun (r : Int64) (u : Unit) => r = o.1 ∧ u = o.2) (fun u t => cAt D dT (va_A (cJ_ dT a_p1 n_p1 g_p1 ++ (cJ_ dT a_p2 n_p2 g_p2)) sz) (cJ_ dT a_p1 n_p1 g_p1 ++ (cJ_ dT a_p2 n_p2 g_p2)) t) (va_A (cJ_ dT a_p1 n_p1 g_p1 ++ (cJ_ dT a_p2 n_p2 g_p2)) sz)) 0 0 (va_A (cJ_ dT a_p1 n_p1 g_p1 ++ (cJ_ dT a_p2 n_p2 g_p2)) sz) := by
  refine mStart (WS := (cJ_ dT a_p1 n_p1 g_p1 ++ (cJ_ dT a_p2 n_p2 g_p2))) (Qc := fun A => va_Ql (fun (r : Int64) (u : Unit) => r = o.1 ∧ u = o.2) (fun u t => cAt D dT A (cJ_ dT a_p1 n_p1 g_p1 ++ (cJ_ dT a_p2 n_p2 g_p2)) t) A) RX9 rfl (by decide) (Nat.le_of_ble_eq_true rfl) ?_ sz
  intro p e s m below meth c A ls hx hb hml hr hlk hnm hts hqs hown hE hA hK hP hD hS hl
  have hl : lv_has ls 7 [(0, .ref a_p1), (1, .ref a_p2), (2, .ref a_p2), (3, .int v3), (4, .int v4)] := hl
  have L_f_X9_stepCost_p2_J44 : ∀ (n_p1 : Nat) (n_p2 : Nat) (g_p1 : Nat → Int64) (g_p2 : Nat → Int64) (x3 : Int32) (x4 : Int32) (s0 : Int64)   (H : Heap) (locs : List Loc) (ls : Array Slot), f_X9_stepCost_p2_J44 n_p1 n_p2 g_p1 g_p2  x3 x4 s0 = some o → va_P D vwCl (cJ_ dT a_p1 n_p1 g_p1 ++ (cJ_ dT a_p2 n_p2 g_p2)) H → va_D A (cJ_ dT a_p1 n_p1 g_p1 ++ (cJ_ dT a_p2 n_p2 g_p2)) → va_S A s.heap H locs → lv_has ls 7 [(2, .ref a_p2), (3, .int x3), (4, .int x4)] → W p l e (headSpec (WSm yX9_stepCost cX9_stepCost 7 (some .long)) { frames := 1, cells := 0, slots := 0, locals := 23 }).room s m [.ref a_p1, .ref a_p2, .ref a_p2, .int v3, .int v4].toArray below meth c H locs 0 0 (MQ below (va_Ql (fun (r : Int64) (u : Unit) => r = o.1 ∧ u = o.2) (fun u t => cAt D dT A (cJ_ dT a_p1 n_p1 g_p1 ++ (cJ_ dT a_p2 n_p2 g_p2)) t) A) [.ref a_p1, .ref a_p2, .ref a_p2, .int v3, .int v4].toArray s 0 0 A) (F0 m 44 ls [.long s0]) := by
    intro n_p1 n_p2 g_p1 g_p2 x3 x4 s0   H locs ls h hP hD hS hl
    unfold f_X9_stepCost_p2_J44 at h
    refine lv_lstore (lv' := [(5, .long s0), (2, .ref a_p2), (3, .int x3), (4, .int x4)]) hx hb dX9_stepCost_44 hl (by decide) rfl (fun ls hl => ?_)
    refine lv_ldc2 (v := 1000000000000000) hx hb hown (hqs _ w_1302) dX9_stepCost_46 ?_
    refine lv_lload hx hb dX9_stepCost_49 (lv_at hl 0 rfl) ?_
    refine lv_aload_n hx hb dX9_stepCost_51 rfl (lv_at hl 1 rfl) ?_
    refine lv_iload_n hx hb dX9_stepCost_52 rfl (lv_at hl 2 rfl) ?_
    refine lv_iconst (v := 1) hx hb dX9_stepCost_53 (by decide) ?_
    refine lv_iload hx hb dX9_stepCost_54 (lv_at hl 3 rfl) ?_
    refine lv_ishl hx hb dX9_stepCost_56 ?_
    refine lv_ior hx hb dX9_stepCost_57 ?_
    obtain ⟨g6, h⟩ := chk h
    refine va_lald hx hb hK hP 1 1 rfl rfl (inb_in g6) dX9_stepCost_58 ?_
    refine lv_ladd hx hb dX9_stepCost_59 ?_
    obtain ⟨o7, e7, h⟩ := obind h
    have hPc := hP.sub (ws' := ([] : va_W)) [] rfl
    have hDc := hD.sub (ws' := ([] : va_W)) [] (by decide) rfl
    have hFc := va_free (wc := ([] : va_W)) hD hS hA [] rfl
    refine cl_l (wr := (cJ_ dT a_p1 n_p1 g_p1 ++ (cJ_ dT a_p2 n_p2 g_p2))) (va_runS (As := [.long (1000000000000000 : Int64), .long (s0 + (g_p2 (x3 ||| ((1 : Int32) <<< (x4 &&& 31))).toNatClampNeg))]) (rest := []) ⟨hx, hb, hml, hown, hts⟩ (c_X9_less l hlt D dT (1000000000000000 : Int64) (s0 + (g_p2 (x3 ||| ((1 : Int32) <<< (x4 &&& 31))).toNatClampNeg)) o7 e7 _) (va_cwS 2 hts (TB_S w_1289 w_1290 w_59 w_1291) rfl rfl rfl nd_X9_less ⟨Nat.le_of_ble_eq_true rfl, Nat.le_of_ble_eq_true rfl⟩) (cPre.S hPc hDc hK hE hS hFc) rfl rfl hl.1 rfl (lv_room (Nat.le_of_ble_eq_true rfl)) dX9_stepCost_60 ⟨Nat.zero_le _, Nat.zero_le _⟩) hP hD hS hFc [] [0, 1] rfl rfl (by decide) (by decide) (fun r7 u7 H locs hw hP hD hS => ?_)
    obtain ⟨rfl, rfl⟩ := hw
    have hP : va_P D vwCl (cJ_ dT a_p1 n_p1 g_p1 ++ (cJ_ dT a_p2 n_p2 g_p2)) H := hP
    have hD : va_D A (cJ_ dT a_p1 n_p1 g_p1 ++ (cJ_ dT a_p2 n_p2 g_p2)) := hD
    exact rt_l hx hb hr hlk hK hS (() : Unit) (ret2 h) hP hD dX9_stepCost_63
  unfold f_X9_stepCost_p2 at h
  refine lv_iload_n hx hb dX9_stepCost_0 rfl (lv_at hl 3 rfl) ?_
  refine lv_if_ne (tgt := 6) hx hb dX9_stepCost_1 (by decide) (fun c1 => ?_) (fun c1 => ?_)
  · replace h := iteF c1 h
    refine lv_aload_n hx hb dX9_stepCost_6 rfl (lv_at hl 0 rfl) ?_
    refine lv_aload_n hx hb dX9_stepCost_7 rfl (lv_at hl 1 rfl) ?_
    refine lv_iload_n hx hb dX9_stepCost_8 rfl (lv_at hl 3 rfl) ?_
    refine lv_iload hx hb dX9_stepCost_9 (lv_at hl 4 rfl) ?_
    obtain ⟨o2, e2, h⟩ := obind h
    have hPc := hP
    have hDc := hD
    have hFc := vfall hD hS hA
    refine cl_iA (va_runS (As := [.ref a_p1, .ref a_p2, .int v3, .int v4]) (rest := []) ⟨hx, hb, hml, hown, hts⟩ (c_X9_isByList l hlt D dT a_p1 a_p2 n_p1 n_p2 g_p1 g_p2 v3 v4 o2 e2 _) (va_cwS 4 hts (TB_S w_1299 w_1300 w_59 w_1301) rfl rfl rfl nd_X9_isByList ⟨Nat.le_of_ble_eq_true rfl, Nat.le_of_ble_eq_true rfl⟩) (cPre.S hPc hDc hK hE hS hFc) rfl rfl hl.1 rfl (lv_room (Nat.le_of_ble_eq_true rfl)) dX9_stepCost_11 ⟨Nat.zero_le _, Nat.zero_le _⟩) hS hFc (fun r2 u2 H locs hw hP hD hS => ?_)
    obtain ⟨rfl, rfl⟩ := hw
    have hP : va_P D vwCl (cJ_ dT a_p1 n_p1 g_p1 ++ (cJ_ dT a_p2 n_p2 g_p2)) H := hP
    have hD : va_D A (cJ_ dT a_p1 n_p1 g_p1 ++ (cJ_ dT a_p2 n_p2 g_p2)) := hD
    refine lv_if_eq (tgt := 34) hx hb dX9_stepCost_14 (by decide) (fun c3 => ?_) (fun c3 => ?_)
    · replace h := iteT c3 h
      refine lv_aload_n hx hb dX9_stepCost_34 rfl (lv_at hl 2 rfl) ?_
      refine lv_iload_n hx hb dX9_stepCost_35 rfl (lv_at hl 3 rfl) ?_
      obtain ⟨g4, h⟩ := chk h
      refine va_lald hx hb hK hP 1 1 rfl rfl (inb_in g4) dX9_stepCost_36 ?_
      refine lv_aload_n hx hb dX9_stepCost_37 rfl (lv_at hl 0 rfl) ?_
      refine lv_iconst (v := 1) hx hb dX9_stepCost_38 (by decide) ?_
      refine lv_iload hx hb dX9_stepCost_39 (lv_at hl 4 rfl) ?_
      refine lv_iadd hx hb dX9_stepCost_41 ?_
      obtain ⟨g5, h⟩ := chk h
      refine va_lald hx hb hK hP 0 1 rfl rfl (inb_in g5) dX9_stepCost_42 ?_
      refine lv_lmul hx hb dX9_stepCost_43 ?_
      refine L_f_X9_stepCost_p2_J44 n_p1 n_p2 g_p1 g_p2 v3 v4 ((g_p2 v3.toNatClampNeg) * (g_p1 ((1 : Int32) + v4).toNatClampNeg))   _ _ _ h hP hD hS (lv_sub hl [2, 3, 4] rfl)
    · replace h := iteF c3 h
      refine lv_ldc2 (v := 3) hx hb hown (hqs _ w_1203) dX9_stepCost_17 ?_
      refine lv_aload_n hx hb dX9_stepCost_20 rfl (lv_at hl 2 rfl) ?_
      refine lv_iload_n hx hb dX9_stepCost_21 rfl (lv_at hl 3 rfl) ?_
      obtain ⟨g8, h⟩ := chk h
      refine va_lald hx hb hK hP 1 1 rfl rfl (inb_in g8) dX9_stepCost_22 ?_
      refine lv_aload_n hx hb dX9_stepCost_23 rfl (lv_at hl 0 rfl) ?_
      refine lv_iconst (v := 1) hx hb dX9_stepCost_24 (by decide) ?_
      refine lv_iload hx hb dX9_stepCost_25 (lv_at hl 4 rfl) ?_
      refine lv_iadd hx hb dX9_stepCost_27 ?_
      obtain ⟨g9, h⟩ := chk h
      refine va_lald hx hb hK hP 0 1 rfl rfl (inb_in g9) dX9_stepCost_28 ?_
      refine lv_ladd hx hb dX9_stepCost_29 ?_
      refine lv_lmul hx hb dX9_stepCost_30 ?_
      refine lv_goto (tgt := 44) hx hb dX9_stepCost_31 (by decide) ?_
      refine L_f_X9_stepCost_p2_J44 n_p1 n_p2 g_p1 g_p2 v3 v4 ((3 : Int64) * ((g_p2 v3.toNatClampNeg) + (g_p1 ((1 : Int32) + v4).toNatClampNeg)))   _ _ _ h hP hD hS (lv_sub hl [2, 3, 4] rfl)
  · replace h := iteT c1 h
    refine lv_lconst (v := 0) hx hb dX9_stepCost_4 (by decide) ?_
    exact rt_l hx hb hr hlk hK hS (() : Unit) (ret2 h) hP hD dX9_stepCost_5

def f_X9_choose_L54 (n_p1 : Nat) (g_this : TM) (g_this_chosenBy : Nat → Int64) (g_this_plan : Nat → Int32) (g_p1 : Nat → Int64) (x2 : Int32) (x4 : Int32) (k162 : (Nat → Int64) → Option (Int64 × (TM × (Nat → Int64) × (Nat → Int64) × (Nat → Int32)))) : Nat → Int32 → (Nat → Int64) → Option (Int64 × (TM × (Nat → Int64) × (Nat → Int64) × (Nat → Int32)))
  | 0, _, _ => none
  | n + 1, x5, g_this_toPay =>
    (if (7 : Int32) ≤ x5 then (k162 g_this_toPay) else (if ((x2 >>> (x5 &&& 31)) &&& (1 : Int32)) = (1 : Int32) then (if ((x4 >>> (x5 &&& 31)) &&& (1 : Int32)) = (0 : Int32) then ((f_X9_stepCost_p2 n_p1 128 g_p1 g_this_chosenBy x4 x5).bind fun o9 => (if inb (x4 ||| ((1 : Int32) <<< (x5 &&& 31))) 128 = true then (if inb x4 128 = true then (if (lg_cmp (g_this_toPay x4.toNatClampNeg) (0 : Int64)) < (0 : Int32) then (if inb x4 128 = true then (f_X9_choose_L54 n_p1 g_this g_this_chosenBy g_this_plan g_p1 x2 x4 k162 n (x5 + (1 : Int32)) (vp_updL g_this_toPay x4.toNatClampNeg (o9.1 + (g_this_toPay (x4 ||| ((1 : Int32) <<< (x5 &&& 31))).toNatClampNeg)))) else none) else (if inb x4 128 = true then (if (0 : Int32) ≤ (lg_cmp (o9.1 + (g_this_toPay (x4 ||| ((1 : Int32) <<< (x5 &&& 31))).toNatClampNeg)) (g_this_toPay x4.toNatClampNeg)) then (if inb x4 128 = true then (if inb x4 128 = true then (f_X9_choose_L54 n_p1 g_this g_this_chosenBy g_this_plan g_p1 x2 x4 k162 n (x5 + (1 : Int32)) (vp_updL g_this_toPay x4.toNatClampNeg (g_this_toPay x4.toNatClampNeg))) else none) else none) else (if inb x4 128 = true then (f_X9_choose_L54 n_p1 g_this g_this_chosenBy g_this_plan g_p1 x2 x4 k162 n (x5 + (1 : Int32)) (vp_updL g_this_toPay x4.toNatClampNeg (o9.1 + (g_this_toPay (x4 ||| ((1 : Int32) <<< (x5 &&& 31))).toNatClampNeg)))) else none)) else none)) else none) else none)) else (f_X9_choose_L54 n_p1 g_this g_this_chosenBy g_this_plan g_p1 x2 x4 k162 n (x5 + (1 : Int32)) g_this_toPay)) else (f_X9_choose_L54 n_p1 g_this g_this_chosenBy g_this_plan g_p1 x2 x4 k162 n (x5 + (1 : Int32)) g_this_toPay)))
def f_X9_choose_L27 (n_p1 : Nat) (g_this : TM) (g_this_chosenBy : Nat → Int64) (g_this_plan : Nat → Int32) (g_p1 : Nat → Int64) (x2 : Int32) (k168 : (Nat → Int64) → Option (Int64 × (TM × (Nat → Int64) × (Nat → Int64) × (Nat → Int32)))) : Nat → Int32 → (Nat → Int64) → Option (Int64 × (TM × (Nat → Int64) × (Nat → Int64) × (Nat → Int32)))
  | 0, _, _ => none
  | n + 1, x4, g_this_toPay =>
    (if x4 < (0 : Int32) then (k168 g_this_toPay) else (if (x4 &&& (x2 ^^^ (-1 : Int32))) = (0 : Int32) then (if inb x4 128 = true then (f_X9_choose_L54 n_p1 g_this g_this_chosenBy g_this_plan g_p1 x2 x4 (fun (y19g_this_toPay : Nat → Int64) => (f_X9_choose_L27 n_p1 g_this g_this_chosenBy g_this_plan g_p1 x2 k168 n (x4 + (-1 : Int32)) y19g_this_toPay)) FUEL (0 : Int32) (vp_updL g_this_toPay x4.toNatClampNeg (-1 : Int64))) else none) else (f_X9_choose_L27 n_p1 g_this g_this_chosenBy g_this_plan g_p1 x2 k168 n (x4 + (-1 : Int32)) g_this_toPay)))
def f_X9_choose_L180 (n_p1 : Nat) (g_this : TM) (g_this_chosenBy : Nat → Int64) (g_this_toPay : Nat → Int64) (g_this_plan : Nat → Int32) (g_p1 : Nat → Int64) (x2 : Int32) (x4 : Int32) (k246 : Int32 → Option (Int64 × (TM × (Nat → Int64) × (Nat → Int64) × (Nat → Int32)))) : Nat → Int32 → Option (Int64 × (TM × (Nat → Int64) × (Nat → Int64) × (Nat → Int32)))
  | 0, _ => none
  | n + 1, x5 =>
    (if ((x2 >>> (x5 &&& 31)) &&& (1 : Int32)) = (0 : Int32) then (f_X9_choose_L180 n_p1 g_this g_this_chosenBy g_this_toPay g_this_plan g_p1 x2 x4 k246 n (x5 + (1 : Int32))) else (if ((x4 >>> (x5 &&& 31)) &&& (1 : Int32)) = (1 : Int32) then (f_X9_choose_L180 n_p1 g_this g_this_chosenBy g_this_toPay g_this_plan g_p1 x2 x4 k246 n (x5 + (1 : Int32))) else ((f_X9_stepCost_p2 n_p1 128 g_p1 g_this_chosenBy x4 x5).bind fun o25 => (if inb (x4 ||| ((1 : Int32) <<< (x5 &&& 31))) 128 = true then (if inb x4 128 = true then (if (lg_cmp (o25.1 + (g_this_toPay (x4 ||| ((1 : Int32) <<< (x5 &&& 31))).toNatClampNeg)) (g_this_toPay x4.toNatClampNeg)) = (0 : Int32) then (k246 x5) else (f_X9_choose_L180 n_p1 g_this g_this_chosenBy g_this_toPay g_this_plan g_p1 x2 x4 k246 n (x5 + (1 : Int32)))) else none) else none))))
def f_X9_choose_L171 (n_p1 : Nat) (g_this_chosenBy : Nat → Int64) (g_this_toPay : Nat → Int64) (g_p1 : Nat → Int64) (x2 : Int32)  : Nat → Int32 → TM → (Nat → Int32) → Option (Int64 × (TM × (Nat → Int64) × (Nat → Int64) × (Nat → Int32)))
  | 0, _, _, _ => none
  | n + 1, x4, g_this, g_this_plan =>
    (if x4 = x2 then (if inb (0 : Int32) 128 = true then (some ((g_this_toPay (0 : Int32).toNatClampNeg), (g_this, g_this_chosenBy, g_this_toPay, g_this_plan))) else none) else (f_X9_choose_L180 n_p1 g_this g_this_chosenBy g_this_toPay g_this_plan g_p1 x2 x4 (fun (y29x5 : Int32) => (if inb (M_planned g_this) 7 = true then (f_X9_choose_L171 n_p1 g_this_chosenBy g_this_toPay g_p1 x2 n (x4 ||| ((1 : Int32) <<< (y29x5 &&& 31))) (M_mk (M_refusal g_this) (M_size g_this) (M_acts g_this) ((M_planned g_this) + (1 : Int32)) (M_spot g_this) (M_out g_this)) (upd g_this_plan (M_planned g_this).toNatClampNeg y29x5)) else none)) FUEL (0 : Int32)))
def f_X9_choose (n_p1 : Nat) (g_this : TM) (g_this_chosenBy : Nat → Int64) (g_this_toPay : Nat → Int64) (g_this_plan : Nat → Int32) (g_p1 : Nat → Int64) (v2 : Int32) (v3 : Int32) : Option (Int64 × (TM × (Nat → Int64) × (Nat → Int64) × (Nat → Int32))) :=
  ((f_X9_layRows n_p1 128 g_p1 g_this_chosenBy v3).bind fun o1 => (if inb v2 128 = true then (f_X9_choose_L27 n_p1 (M_mk (M_refusal g_this) (M_size g_this) (M_acts g_this) (0 : Int32) (M_spot g_this) (M_out g_this)) o1.2 g_this_plan g_p1 v2 (fun (y20g_this_toPay : Nat → Int64) => (f_X9_choose_L171 n_p1 o1.2 y20g_this_toPay g_p1 v2 FUEL (0 : Int32) (M_mk (M_refusal g_this) (M_size g_this) (M_acts g_this) (0 : Int32) (M_spot g_this) (M_out g_this)) g_this_plan)) FUEL (v2 - (1 : Int32)) (vp_updL g_this_toPay v2.toNatClampNeg (0 : Int64))) else none))
set_option maxHeartbeats 8000000 in
set_option maxRecDepth 100000 in
theorem c_X9_choose (l : Launch) (hlt : l.stackTraces = false) (D : va_G) (dT : Nat → ClassId) (a_this : Nat → Nat) (a_p1 : Nat) (n_p1 : Nat) (g_this : TM) (g_this_chosenBy : Nat → Int64) (g_this_toPay : Nat → Int64) (g_this_plan : Nat → Int32) (g_p1 : Nat → Int64) (v2 : Int32) (v3 : Int32) (o : (Int64 × (TM × (Nat → Int64) × (Nat → Int64) × (Nat → Int32)))) (h : f_X9_choose n_p1 g_this g_this_chosenBy g_this_toPay g_this_plan g_p1 v2 v3 = some o) (sz : Nat) : Met l yX9_choose (WSm yX9_choose cX9_choose 8 (some .long)) { frames := 4, cells := 0, slots := 0, locals := 94 } (va_Pc [.ref (a_this 0), .ref a_p1, .int v2, .int v3] (cPre D dT (cM a_this g_this ++ (cJ_ dT (a_this 7) 128 g_this_chosenBy ++ (cJ_ dT (a_this 9) 128 g_this_toPay ++ (cI_ dT (a_this 10) 7 g_this_plan ++ (cJ_ dT a_p1 n_p1 g_p1))))) sz)) (va_Ql (fun (r : Int64) (u : TM × (Nat → Int64) × (Nat → Int64) × (Nat → Int32)) => r = o.1 ∧ u = o.2) (fun u t => cAt D dT (va_A (cM a_this g_this ++ (cJ_ dT (a_this 7) 128 g_this_chosenBy ++ (cJ_ dT (a_this 9) 128 g_this_toPay ++ (cI_ dT (a_this 10) 7 g_this_plan ++ (cJ_ dT a_p1 n_p1 g_p1))))) sz) (cM a_this (u.1) ++ (cJ_ dT (a_this 7) 128 (u.2.1) ++ (cJ_ dT (a_this 9) 128 (u.2.2.1) ++ (cI_ dT (a_this 10) 7 (u.2.2.2) ++ (cJ_ dT a_p1 n_p1 g_p1))))) t) (va_A (cM a_this g_this ++ (cJ_ dT (a_this 7) 128 g_this_chosenBy ++ (cJ_ dT (a_this 9) 128 g_this_toPay ++ (cI_ dT (a_this 10) 7 g_this_plan ++ (cJ_ dT a_p1 n_p1 g_p1))))) sz)) 0 0 (va_A (cM a_this g_this ++ (cJ_ dT (a_this 7) 128 g_this_chosenBy ++ (cJ_ dT (a_this 9) 128 g_this_toPay ++ (cI_ dT (a_this 10) 7 g_this_plan ++ (cJ_ dT a_p1 n_p1 g_p1))))) sz) := by
  refine mStart (WS := (cM a_this g_this ++ (cJ_ dT (a_this 7) 128 g_this_chosenBy ++ (cJ_ dT (a_this 9) 128 g_this_toPay ++ (cI_ dT (a_this 10) 7 g_this_plan ++ (cJ_ dT a_p1 n_p1 g_p1)))))) (Qc := fun A => va_Ql (fun (r : Int64) (u : TM × (Nat → Int64) × (Nat → Int64) × (Nat → Int32)) => r = o.1 ∧ u = o.2) (fun u t => cAt D dT A (cM a_this (u.1) ++ (cJ_ dT (a_this 7) 128 (u.2.1) ++ (cJ_ dT (a_this 9) 128 (u.2.2.1) ++ (cI_ dT (a_this 10) 7 (u.2.2.2) ++ (cJ_ dT a_p1 n_p1 g_p1))))) t) A) RX9 rfl (by decide) (Nat.le_of_ble_eq_true rfl) ?_ sz
  intro p e s m below meth c A ls hx hb hml hr hlk hnm hts hqs hown hE hA hK hP hD hS hl
  have hl : lv_has ls 8 [(0, .ref (a_this 0)), (1, .ref a_p1), (2, .int v2), (3, .int v3)] := hl
  have L_f_X9_choose_L54 : ∀ (n_p1 : Nat) (g_this : TM) (g_this_chosenBy : Nat → Int64) (g_this_plan : Nat → Int32) (g_p1 : Nat → Int64) (x2 : Int32) (x4 : Int32) (k162 : (Nat → Int64) → Option (Int64 × (TM × (Nat → Int64) × (Nat → Int64) × (Nat → Int32)))) (hk162 : ∀ (g_this_toPay : Nat → Int64) (H : Heap) (locs : List Loc) (ls : Array Slot), k162 g_this_toPay = some o → va_P D vwCl (cM a_this g_this ++ (cJ_ dT (a_this 7) 128 g_this_chosenBy ++ (cJ_ dT (a_this 9) 128 g_this_toPay ++ (cI_ dT (a_this 10) 7 g_this_plan ++ (cJ_ dT a_p1 n_p1 g_p1))))) H → va_D A (cM a_this g_this ++ (cJ_ dT (a_this 7) 128 g_this_chosenBy ++ (cJ_ dT (a_this 9) 128 g_this_toPay ++ (cI_ dT (a_this 10) 7 g_this_plan ++ (cJ_ dT a_p1 n_p1 g_p1))))) → va_S A s.heap H locs → lv_has ls 8 [(0, .ref (a_this 0)), (1, .ref a_p1), (2, .int x2), (4, .int x4)] → W p l e (headSpec (WSm yX9_choose cX9_choose 8 (some .long)) { frames := 4, cells := 0, slots := 0, locals := 94 }).room s m [.ref (a_this 0), .ref a_p1, .int v2, .int v3].toArray below meth c H locs 0 0 (MQ below (va_Ql (fun (r : Int64) (u : TM × (Nat → Int64) × (Nat → Int64) × (Nat → Int32)) => r = o.1 ∧ u = o.2) (fun u t => cAt D dT A (cM a_this (u.1) ++ (cJ_ dT (a_this 7) 128 (u.2.1) ++ (cJ_ dT (a_this 9) 128 (u.2.2.1) ++ (cI_ dT (a_this 10) 7 (u.2.2.2) ++ (cJ_ dT a_p1 n_p1 g_p1))))) t) A) [.ref (a_this 0), .ref a_p1, .int v2, .int v3].toArray s 0 0 A) (F0 m 162 ls [])) (n : Nat), ∀ (x5 : Int32) (g_this_toPay : Nat → Int64) (H : Heap) (locs : List Loc) (ls : Array Slot), f_X9_choose_L54 n_p1 g_this g_this_chosenBy g_this_plan g_p1 x2 x4 k162 n x5 g_this_toPay = some o → va_P D vwCl (cM a_this g_this ++ (cJ_ dT (a_this 7) 128 g_this_chosenBy ++ (cJ_ dT (a_this 9) 128 g_this_toPay ++ (cI_ dT (a_this 10) 7 g_this_plan ++ (cJ_ dT a_p1 n_p1 g_p1))))) H → va_D A (cM a_this g_this ++ (cJ_ dT (a_this 7) 128 g_this_chosenBy ++ (cJ_ dT (a_this 9) 128 g_this_toPay ++ (cI_ dT (a_this 10) 7 g_this_plan ++ (cJ_ dT a_p1 n_p1 g_p1))))) → va_S A s.heap H locs → lv_has ls 8 [(0, .ref (a_this 0)), (1, .ref a_p1), (2, .int x2), (4, .int x4), (5, .int x5)] → W p l e (headSpec (WSm yX9_choose cX9_choose 8 (some .long)) { frames := 4, cells := 0, slots := 0, locals := 94 }).room s m [.ref (a_this 0), .ref a_p1, .int v2, .int v3].toArray below meth c H locs 0 0 (MQ below (va_Ql (fun (r : Int64) (u : TM × (Nat → Int64) × (Nat → Int64) × (Nat → Int32)) => r = o.1 ∧ u = o.2) (fun u t => cAt D dT A (cM a_this (u.1) ++ (cJ_ dT (a_this 7) 128 (u.2.1) ++ (cJ_ dT (a_this 9) 128 (u.2.2.1) ++ (cI_ dT (a_this 10) 7 (u.2.2.2) ++ (cJ_ dT a_p1 n_p1 g_p1))))) t) A) [.ref (a_this 0), .ref a_p1, .int v2, .int v3].toArray s 0 0 A) (F0 m 54 ls []) := by
    intro n_p1 g_this g_this_chosenBy g_this_plan g_p1 x2 x4 k162 hk162 n
    induction n with
    | zero => intro x5 g_this_toPay H locs ls h; exact nomatch h
    | succ n ih =>
      intro x5 g_this_toPay H locs ls h hP hD hS hl
      unfold f_X9_choose_L54 at h
      refine lv_iload hx hb dX9_choose_54 (lv_at hl 4 rfl) ?_
      refine lv_bipush (v := 7) hx hb dX9_choose_56 (by decide) ?_
      refine lv_icmp_ge (tgt := 162) hx hb dX9_choose_58 (by decide) (fun c6 => ?_) (fun c6 => ?_)
      · replace h := iteT c6 h
        exact hk162 g_this_toPay _ _ _ h hP hD hS (lv_sub hl [0, 1, 2, 3] rfl)
      · replace h := iteF c6 h
        refine lv_iload_n hx hb dX9_choose_61 rfl (lv_at hl 2 rfl) ?_
        refine lv_iload hx hb dX9_choose_62 (lv_at hl 4 rfl) ?_
        refine lv_ishr hx hb dX9_choose_64 ?_
        refine lv_iconst (v := 1) hx hb dX9_choose_65 (by decide) ?_
        refine lv_iand hx hb dX9_choose_66 ?_
        refine lv_iconst (v := 1) hx hb dX9_choose_67 (by decide) ?_
        refine lv_icmp_ne (tgt := 156) hx hb dX9_choose_68 (by decide) (fun c7 => ?_) (fun c7 => ?_)
        · replace h := iteF c7 h
          refine lv_iinc (v := (x5 + (1 : Int32))) (lv' := [(5, .int (x5 + (1 : Int32))), (0, .ref (a_this 0)), (1, .ref a_p1), (2, .int x2), (4, .int x4)]) hx hb dX9_choose_156 hl (k := 4) rfl rfl (by decide) rfl (fun ls hl => ?_)
          refine lv_goto (tgt := 54) hx hb dX9_choose_159 (by decide) ?_
          exact ih (x5 + (1 : Int32)) g_this_toPay _ _ _ h hP hD hS (lv_sub hl [1, 2, 3, 4, 0] rfl)
        · replace h := iteT c7 h
          refine lv_iload hx hb dX9_choose_71 (lv_at hl 3 rfl) ?_
          refine lv_iload hx hb dX9_choose_73 (lv_at hl 4 rfl) ?_
          refine lv_ishr hx hb dX9_choose_75 ?_
          refine lv_iconst (v := 1) hx hb dX9_choose_76 (by decide) ?_
          refine lv_iand hx hb dX9_choose_77 ?_
          refine lv_if_ne (tgt := 156) hx hb dX9_choose_78 (by decide) (fun c8 => ?_) (fun c8 => ?_)
          · replace h := iteF c8 h
            refine lv_iinc (v := (x5 + (1 : Int32))) (lv' := [(5, .int (x5 + (1 : Int32))), (0, .ref (a_this 0)), (1, .ref a_p1), (2, .int x2), (4, .int x4)]) hx hb dX9_choose_156 hl (k := 4) rfl rfl (by decide) rfl (fun ls hl => ?_)
            refine lv_goto (tgt := 54) hx hb dX9_choose_159 (by decide) ?_
            exact ih (x5 + (1 : Int32)) g_this_toPay _ _ _ h hP hD hS (lv_sub hl [1, 2, 3, 4, 0] rfl)
          · replace h := iteT c8 h
            refine lv_aload_n hx hb dX9_choose_81 rfl (lv_at hl 1 rfl) ?_
            refine lv_aload_n hx hb dX9_choose_82 rfl (lv_at hl 0 rfl) ?_
            refine gf_X9_30 (v := .ref (a_this 7)) hx hb hqs hown hK hP 0 rfl rfl dX9_choose_83 ?_
            refine lv_aload_n hx hb dX9_choose_86 rfl (lv_at hl 0 rfl) ?_
            refine gf_X9_30 (v := .ref (a_this 7)) hx hb hqs hown hK hP 0 rfl rfl dX9_choose_87 ?_
            refine lv_iload hx hb dX9_choose_90 (lv_at hl 3 rfl) ?_
            refine lv_iload hx hb dX9_choose_92 (lv_at hl 4 rfl) ?_
            obtain ⟨o9, e9, h⟩ := obind h
            have hPc := hP.sub (ws' := (cJ_ dT a_p1 n_p1 g_p1 ++ (cJ_ dT (a_this 7) 128 g_this_chosenBy))) [4, 1] rfl
            have hDc := hD.sub (ws' := (cJ_ dT a_p1 n_p1 g_p1 ++ (cJ_ dT (a_this 7) 128 g_this_chosenBy))) [4, 1] (by decide) rfl
            have hFc := va_free (wc := (cJ_ dT a_p1 n_p1 g_p1 ++ (cJ_ dT (a_this 7) 128 g_this_chosenBy))) hD hS hA [4, 1] rfl
            refine cl_l (wr := (cM a_this g_this ++ (cJ_ dT (a_this 9) 128 g_this_toPay ++ (cI_ dT (a_this 10) 7 g_this_plan)))) (va_runS (As := [.ref a_p1, .ref (a_this 7), .ref (a_this 7), .int x4, .int x5]) (rest := []) ⟨hx, hb, hml, hown, hts⟩ (c_X9_stepCost_p2 l hlt D dT a_p1 (a_this 7) n_p1 128 g_p1 g_this_chosenBy x4 x5 o9 e9 _) (va_cwS 5 hts (TB_S w_1296 w_1297 w_59 w_1298) rfl rfl rfl nd_X9_stepCost ⟨Nat.le_of_ble_eq_true rfl, Nat.le_of_ble_eq_true rfl⟩) (cPre.S hPc hDc hK hE hS hFc) rfl rfl hl.1 rfl (lv_room (Nat.le_of_ble_eq_true rfl)) dX9_choose_94 ⟨Nat.zero_le _, Nat.zero_le _⟩) hP hD hS hFc [4, 1] [0, 2, 3] rfl rfl (by decide) (by decide) (fun r9 u9 H locs hw hP hD hS => ?_)
            obtain ⟨rfl, rfl⟩ := hw
            have hP : va_P D vwCl (cM a_this g_this ++ (cJ_ dT (a_this 9) 128 g_this_toPay ++ (cI_ dT (a_this 10) 7 g_this_plan ++ (cJ_ dT a_p1 n_p1 g_p1 ++ (cJ_ dT (a_this 7) 128 g_this_chosenBy))))) H := hP
            have hD : va_D A (cM a_this g_this ++ (cJ_ dT (a_this 9) 128 g_this_toPay ++ (cI_ dT (a_this 10) 7 g_this_plan ++ (cJ_ dT a_p1 n_p1 g_p1 ++ (cJ_ dT (a_this 7) 128 g_this_chosenBy))))) := hD
            refine lv_aload_n hx hb dX9_choose_97 rfl (lv_at hl 0 rfl) ?_
            refine gf_X9_36 (v := .ref (a_this 9)) hx hb hqs hown hK hP 0 rfl rfl dX9_choose_98 ?_
            refine lv_iload hx hb dX9_choose_101 (lv_at hl 3 rfl) ?_
            refine lv_iconst (v := 1) hx hb dX9_choose_103 (by decide) ?_
            refine lv_iload hx hb dX9_choose_104 (lv_at hl 4 rfl) ?_
            refine lv_ishl hx hb dX9_choose_106 ?_
            refine lv_ior hx hb dX9_choose_107 ?_
            obtain ⟨g10, h⟩ := chk h
            refine va_lald hx hb hK hP 1 1 rfl rfl (inb_in g10) dX9_choose_108 ?_
            refine lv_ladd hx hb dX9_choose_109 ?_
            refine lv_lstore (lv' := [(6, .long (o9.1 + (g_this_toPay (x4 ||| ((1 : Int32) <<< (x5 &&& 31))).toNatClampNeg))), (0, .ref (a_this 0)), (1, .ref a_p1), (2, .int x2), (4, .int x4), (5, .int x5)]) hx hb dX9_choose_110 hl (by decide) rfl (fun ls hl => ?_)
            refine lv_aload_n hx hb dX9_choose_112 rfl (lv_at hl 1 rfl) ?_
            refine gf_X9_36 (v := .ref (a_this 9)) hx hb hqs hown hK hP 0 rfl rfl dX9_choose_113 ?_
            refine lv_iload hx hb dX9_choose_116 (lv_at hl 4 rfl) ?_
            refine lv_aload_n hx hb dX9_choose_118 rfl (lv_at hl 1 rfl) ?_
            refine gf_X9_36 (v := .ref (a_this 9)) hx hb hqs hown hK hP 0 rfl rfl dX9_choose_119 ?_
            refine lv_iload hx hb dX9_choose_122 (lv_at hl 4 rfl) ?_
            obtain ⟨g11, h⟩ := chk h
            refine va_lald hx hb hK hP 1 1 rfl rfl (inb_in g11) dX9_choose_124 ?_
            refine lv_lconst (v := 0) hx hb dX9_choose_125 (by decide) ?_
            refine W.lcmp hx hb dX9_choose_126 ?_
            refine lv_if_lt (tgt := 143) hx hb dX9_choose_127 (by decide) (fun c12 => ?_) (fun c12 => ?_)
            · replace h := iteT c12 h
              refine lv_lload hx hb dX9_choose_143 (lv_at hl 0 rfl) ?_
              refine lv_goto (tgt := 155) hx hb dX9_choose_145 (by decide) ?_
              obtain ⟨g13, h⟩ := chk h
              refine va_last hx hb hK hP hD hS 1 1 rfl rfl (inb_in g13) dX9_choose_155 (fun H locs hP hD hS => ?_)
              have hP : va_P D vwCl (cM a_this g_this ++ (cJ_ dT (a_this 9) 128 (vp_updL g_this_toPay x4.toNatClampNeg (o9.1 + (g_this_toPay (x4 ||| ((1 : Int32) <<< (x5 &&& 31))).toNatClampNeg))) ++ (cI_ dT (a_this 10) 7 g_this_plan ++ (cJ_ dT a_p1 n_p1 g_p1 ++ (cJ_ dT (a_this 7) 128 g_this_chosenBy))))) H := hP
              have hD : va_D A (cM a_this g_this ++ (cJ_ dT (a_this 9) 128 (vp_updL g_this_toPay x4.toNatClampNeg (o9.1 + (g_this_toPay (x4 ||| ((1 : Int32) <<< (x5 &&& 31))).toNatClampNeg))) ++ (cI_ dT (a_this 10) 7 g_this_plan ++ (cJ_ dT a_p1 n_p1 g_p1 ++ (cJ_ dT (a_this 7) 128 g_this_chosenBy))))) := hD
              refine lv_iinc (v := (x5 + (1 : Int32))) (lv' := [(5, .int (x5 + (1 : Int32))), (6, .long (o9.1 + (g_this_toPay (x4 ||| ((1 : Int32) <<< (x5 &&& 31))).toNatClampNeg))), (0, .ref (a_this 0)), (1, .ref a_p1), (2, .int x2), (4, .int x4)]) hx hb dX9_choose_156 hl (k := 5) rfl rfl (by decide) rfl (fun ls hl => ?_)
              refine lv_goto (tgt := 54) hx hb dX9_choose_159 (by decide) ?_
              have hP := hP.sub (ws' := (cM a_this g_this ++ (cJ_ dT (a_this 7) 128 g_this_chosenBy ++ (cJ_ dT (a_this 9) 128 (vp_updL g_this_toPay x4.toNatClampNeg (o9.1 + (g_this_toPay (x4 ||| ((1 : Int32) <<< (x5 &&& 31))).toNatClampNeg))) ++ (cI_ dT (a_this 10) 7 g_this_plan ++ (cJ_ dT a_p1 n_p1 g_p1)))))) [0, 4, 1, 2, 3] rfl
              have hD := hD.sub (ws' := (cM a_this g_this ++ (cJ_ dT (a_this 7) 128 g_this_chosenBy ++ (cJ_ dT (a_this 9) 128 (vp_updL g_this_toPay x4.toNatClampNeg (o9.1 + (g_this_toPay (x4 ||| ((1 : Int32) <<< (x5 &&& 31))).toNatClampNeg))) ++ (cI_ dT (a_this 10) 7 g_this_plan ++ (cJ_ dT a_p1 n_p1 g_p1)))))) [0, 4, 1, 2, 3] (by decide) rfl
              exact ih (x5 + (1 : Int32)) (vp_updL g_this_toPay x4.toNatClampNeg (o9.1 + (g_this_toPay (x4 ||| ((1 : Int32) <<< (x5 &&& 31))).toNatClampNeg))) _ _ _ h hP hD hS (lv_sub hl [2, 3, 4, 5, 0] rfl)
            · replace h := iteF c12 h
              refine lv_lload hx hb dX9_choose_130 (lv_at hl 0 rfl) ?_
              refine lv_aload_n hx hb dX9_choose_132 rfl (lv_at hl 1 rfl) ?_
              refine gf_X9_36 (v := .ref (a_this 9)) hx hb hqs hown hK hP 0 rfl rfl dX9_choose_133 ?_
              refine lv_iload hx hb dX9_choose_136 (lv_at hl 4 rfl) ?_
              obtain ⟨g14, h⟩ := chk h
              refine va_lald hx hb hK hP 1 1 rfl rfl (inb_in g14) dX9_choose_138 ?_
              refine W.lcmp hx hb dX9_choose_139 ?_
              refine lv_if_ge (tgt := 148) hx hb dX9_choose_140 (by decide) (fun c15 => ?_) (fun c15 => ?_)
              · replace h := iteT c15 h
                refine lv_aload_n hx hb dX9_choose_148 rfl (lv_at hl 1 rfl) ?_
                refine gf_X9_36 (v := .ref (a_this 9)) hx hb hqs hown hK hP 0 rfl rfl dX9_choose_149 ?_
                refine lv_iload hx hb dX9_choose_152 (lv_at hl 4 rfl) ?_
                obtain ⟨g16, h⟩ := chk h
                refine va_lald hx hb hK hP 1 1 rfl rfl (inb_in g16) dX9_choose_154 ?_
                obtain ⟨g17, h⟩ := chk h
                refine va_last hx hb hK hP hD hS 1 1 rfl rfl (inb_in g17) dX9_choose_155 (fun H locs hP hD hS => ?_)
                have hP : va_P D vwCl (cM a_this g_this ++ (cJ_ dT (a_this 9) 128 (vp_updL g_this_toPay x4.toNatClampNeg (g_this_toPay x4.toNatClampNeg)) ++ (cI_ dT (a_this 10) 7 g_this_plan ++ (cJ_ dT a_p1 n_p1 g_p1 ++ (cJ_ dT (a_this 7) 128 g_this_chosenBy))))) H := hP
                have hD : va_D A (cM a_this g_this ++ (cJ_ dT (a_this 9) 128 (vp_updL g_this_toPay x4.toNatClampNeg (g_this_toPay x4.toNatClampNeg)) ++ (cI_ dT (a_this 10) 7 g_this_plan ++ (cJ_ dT a_p1 n_p1 g_p1 ++ (cJ_ dT (a_this 7) 128 g_this_chosenBy))))) := hD
                refine lv_iinc (v := (x5 + (1 : Int32))) (lv' := [(5, .int (x5 + (1 : Int32))), (6, .long (o9.1 + (g_this_toPay (x4 ||| ((1 : Int32) <<< (x5 &&& 31))).toNatClampNeg))), (0, .ref (a_this 0)), (1, .ref a_p1), (2, .int x2), (4, .int x4)]) hx hb dX9_choose_156 hl (k := 5) rfl rfl (by decide) rfl (fun ls hl => ?_)
                refine lv_goto (tgt := 54) hx hb dX9_choose_159 (by decide) ?_
                have hP := hP.sub (ws' := (cM a_this g_this ++ (cJ_ dT (a_this 7) 128 g_this_chosenBy ++ (cJ_ dT (a_this 9) 128 (vp_updL g_this_toPay x4.toNatClampNeg (g_this_toPay x4.toNatClampNeg)) ++ (cI_ dT (a_this 10) 7 g_this_plan ++ (cJ_ dT a_p1 n_p1 g_p1)))))) [0, 4, 1, 2, 3] rfl
                have hD := hD.sub (ws' := (cM a_this g_this ++ (cJ_ dT (a_this 7) 128 g_this_chosenBy ++ (cJ_ dT (a_this 9) 128 (vp_updL g_this_toPay x4.toNatClampNeg (g_this_toPay x4.toNatClampNeg)) ++ (cI_ dT (a_this 10) 7 g_this_plan ++ (cJ_ dT a_p1 n_p1 g_p1)))))) [0, 4, 1, 2, 3] (by decide) rfl
                exact ih (x5 + (1 : Int32)) (vp_updL g_this_toPay x4.toNatClampNeg (g_this_toPay x4.toNatClampNeg)) _ _ _ h hP hD hS (lv_sub hl [2, 3, 4, 5, 0] rfl)
              · replace h := iteF c15 h
                refine lv_lload hx hb dX9_choose_143 (lv_at hl 0 rfl) ?_
                refine lv_goto (tgt := 155) hx hb dX9_choose_145 (by decide) ?_
                obtain ⟨g18, h⟩ := chk h
                refine va_last hx hb hK hP hD hS 1 1 rfl rfl (inb_in g18) dX9_choose_155 (fun H locs hP hD hS => ?_)
                have hP : va_P D vwCl (cM a_this g_this ++ (cJ_ dT (a_this 9) 128 (vp_updL g_this_toPay x4.toNatClampNeg (o9.1 + (g_this_toPay (x4 ||| ((1 : Int32) <<< (x5 &&& 31))).toNatClampNeg))) ++ (cI_ dT (a_this 10) 7 g_this_plan ++ (cJ_ dT a_p1 n_p1 g_p1 ++ (cJ_ dT (a_this 7) 128 g_this_chosenBy))))) H := hP
                have hD : va_D A (cM a_this g_this ++ (cJ_ dT (a_this 9) 128 (vp_updL g_this_toPay x4.toNatClampNeg (o9.1 + (g_this_toPay (x4 ||| ((1 : Int32) <<< (x5 &&& 31))).toNatClampNeg))) ++ (cI_ dT (a_this 10) 7 g_this_plan ++ (cJ_ dT a_p1 n_p1 g_p1 ++ (cJ_ dT (a_this 7) 128 g_this_chosenBy))))) := hD
                refine lv_iinc (v := (x5 + (1 : Int32))) (lv' := [(5, .int (x5 + (1 : Int32))), (6, .long (o9.1 + (g_this_toPay (x4 ||| ((1 : Int32) <<< (x5 &&& 31))).toNatClampNeg))), (0, .ref (a_this 0)), (1, .ref a_p1), (2, .int x2), (4, .int x4)]) hx hb dX9_choose_156 hl (k := 5) rfl rfl (by decide) rfl (fun ls hl => ?_)
                refine lv_goto (tgt := 54) hx hb dX9_choose_159 (by decide) ?_
                have hP := hP.sub (ws' := (cM a_this g_this ++ (cJ_ dT (a_this 7) 128 g_this_chosenBy ++ (cJ_ dT (a_this 9) 128 (vp_updL g_this_toPay x4.toNatClampNeg (o9.1 + (g_this_toPay (x4 ||| ((1 : Int32) <<< (x5 &&& 31))).toNatClampNeg))) ++ (cI_ dT (a_this 10) 7 g_this_plan ++ (cJ_ dT a_p1 n_p1 g_p1)))))) [0, 4, 1, 2, 3] rfl
                have hD := hD.sub (ws' := (cM a_this g_this ++ (cJ_ dT (a_this 7) 128 g_this_chosenBy ++ (cJ_ dT (a_this 9) 128 (vp_updL g_this_toPay x4.toNatClampNeg (o9.1 + (g_this_toPay (x4 ||| ((1 : Int32) <<< (x5 &&& 31))).toNatClampNeg))) ++ (cI_ dT (a_this 10) 7 g_this_plan ++ (cJ_ dT a_p1 n_p1 g_p1)))))) [0, 4, 1, 2, 3] (by decide) rfl
                exact ih (x5 + (1 : Int32)) (vp_updL g_this_toPay x4.toNatClampNeg (o9.1 + (g_this_toPay (x4 ||| ((1 : Int32) <<< (x5 &&& 31))).toNatClampNeg))) _ _ _ h hP hD hS (lv_sub hl [2, 3, 4, 5, 0] rfl)
  have L_f_X9_choose_L27 : ∀ (n_p1 : Nat) (g_this : TM) (g_this_chosenBy : Nat → Int64) (g_this_plan : Nat → Int32) (g_p1 : Nat → Int64) (x2 : Int32) (k168 : (Nat → Int64) → Option (Int64 × (TM × (Nat → Int64) × (Nat → Int64) × (Nat → Int32)))) (hk168 : ∀ (g_this_toPay : Nat → Int64) (H : Heap) (locs : List Loc) (ls : Array Slot), k168 g_this_toPay = some o → va_P D vwCl (cM a_this g_this ++ (cJ_ dT (a_this 7) 128 g_this_chosenBy ++ (cJ_ dT (a_this 9) 128 g_this_toPay ++ (cI_ dT (a_this 10) 7 g_this_plan ++ (cJ_ dT a_p1 n_p1 g_p1))))) H → va_D A (cM a_this g_this ++ (cJ_ dT (a_this 7) 128 g_this_chosenBy ++ (cJ_ dT (a_this 9) 128 g_this_toPay ++ (cI_ dT (a_this 10) 7 g_this_plan ++ (cJ_ dT a_p1 n_p1 g_p1))))) → va_S A s.heap H locs → lv_has ls 8 [(0, .ref (a_this 0)), (1, .ref a_p1), (2, .int x2)] → W p l e (headSpec (WSm yX9_choose cX9_choose 8 (some .long)) { frames := 4, cells := 0, slots := 0, locals := 94 }).room s m [.ref (a_this 0), .ref a_p1, .int v2, .int v3].toArray below meth c H locs 0 0 (MQ below (va_Ql (fun (r : Int64) (u : TM × (Nat → Int64) × (Nat → Int64) × (Nat → Int32)) => r = o.1 ∧ u = o.2) (fun u t => cAt D dT A (cM a_this (u.1) ++ (cJ_ dT (a_this 7) 128 (u.2.1) ++ (cJ_ dT (a_this 9) 128 (u.2.2.1) ++ (cI_ dT (a_this 10) 7 (u.2.2.2) ++ (cJ_ dT a_p1 n_p1 g_p1))))) t) A) [.ref (a_this 0), .ref a_p1, .int v2, .int v3].toArray s 0 0 A) (F0 m 168 ls [])) (n : Nat), ∀ (x4 : Int32) (g_this_toPay : Nat → Int64) (H : Heap) (locs : List Loc) (ls : Array Slot), f_X9_choose_L27 n_p1 g_this g_this_chosenBy g_this_plan g_p1 x2 k168 n x4 g_this_toPay = some o → va_P D vwCl (cM a_this g_this ++ (cJ_ dT (a_this 7) 128 g_this_chosenBy ++ (cJ_ dT (a_this 9) 128 g_this_toPay ++ (cI_ dT (a_this 10) 7 g_this_plan ++ (cJ_ dT a_p1 n_p1 g_p1))))) H → va_D A (cM a_this g_this ++ (cJ_ dT (a_this 7) 128 g_this_chosenBy ++ (cJ_ dT (a_this 9) 128 g_this_toPay ++ (cI_ dT (a_this 10) 7 g_this_plan ++ (cJ_ dT a_p1 n_p1 g_p1))))) → va_S A s.heap H locs → lv_has ls 8 [(0, .ref (a_this 0)), (1, .ref a_p1), (2, .int x2), (4, .int x4)] → W p l e (headSpec (WSm yX9_choose cX9_choose 8 (some .long)) { frames := 4, cells := 0, slots := 0, locals := 94 }).room s m [.ref (a_this 0), .ref a_p1, .int v2, .int v3].toArray below meth c H locs 0 0 (MQ below (va_Ql (fun (r : Int64) (u : TM × (Nat → Int64) × (Nat → Int64) × (Nat → Int32)) => r = o.1 ∧ u = o.2) (fun u t => cAt D dT A (cM a_this (u.1) ++ (cJ_ dT (a_this 7) 128 (u.2.1) ++ (cJ_ dT (a_this 9) 128 (u.2.2.1) ++ (cI_ dT (a_this 10) 7 (u.2.2.2) ++ (cJ_ dT a_p1 n_p1 g_p1))))) t) A) [.ref (a_this 0), .ref a_p1, .int v2, .int v3].toArray s 0 0 A) (F0 m 27 ls []) := by
    intro n_p1 g_this g_this_chosenBy g_this_plan g_p1 x2 k168 hk168 n
    induction n with
    | zero => intro x4 g_this_toPay H locs ls h; exact nomatch h
    | succ n ih =>
      intro x4 g_this_toPay H locs ls h hP hD hS hl
      unfold f_X9_choose_L27 at h
      refine lv_iload hx hb dX9_choose_27 (lv_at hl 3 rfl) ?_
      refine lv_if_lt (tgt := 168) hx hb dX9_choose_29 (by decide) (fun c3 => ?_) (fun c3 => ?_)
      · replace h := iteT c3 h
        exact hk168 g_this_toPay _ _ _ h hP hD hS (lv_sub hl [0, 1, 2] rfl)
      · replace h := iteF c3 h
        refine lv_iload hx hb dX9_choose_32 (lv_at hl 3 rfl) ?_
        refine lv_iload_n hx hb dX9_choose_34 rfl (lv_at hl 2 rfl) ?_
        refine lv_iconst (v := -1) hx hb dX9_choose_35 (by decide) ?_
        refine lv_ixor hx hb dX9_choose_36 ?_
        refine lv_iand hx hb dX9_choose_37 ?_
        refine lv_if_ne (tgt := 162) hx hb dX9_choose_38 (by decide) (fun c4 => ?_) (fun c4 => ?_)
        · replace h := iteF c4 h
          refine lv_iinc (v := (x4 + (-1 : Int32))) (lv' := [(4, .int (x4 + (-1 : Int32))), (0, .ref (a_this 0)), (1, .ref a_p1), (2, .int x2)]) hx hb dX9_choose_162 hl (k := 3) rfl rfl (by decide) rfl (fun ls hl => ?_)
          refine lv_goto (tgt := 27) hx hb dX9_choose_165 (by decide) ?_
          exact ih (x4 + (-1 : Int32)) g_this_toPay _ _ _ h hP hD hS (lv_sub hl [1, 2, 3, 0] rfl)
        · replace h := iteT c4 h
          refine lv_aload_n hx hb dX9_choose_41 rfl (lv_at hl 0 rfl) ?_
          refine gf_X9_36 (v := .ref (a_this 9)) hx hb hqs hown hK hP 0 rfl rfl dX9_choose_42 ?_
          refine lv_iload hx hb dX9_choose_45 (lv_at hl 3 rfl) ?_
          refine lv_ldc2 (v := -1) hx hb hown (hqs _ w_1295) dX9_choose_47 ?_
          obtain ⟨g5, h⟩ := chk h
          refine va_last hx hb hK hP hD hS 2 1 rfl rfl (inb_in g5) dX9_choose_50 (fun H locs hP hD hS => ?_)
          have hP : va_P D vwCl (cM a_this g_this ++ (cJ_ dT (a_this 7) 128 g_this_chosenBy ++ (cJ_ dT (a_this 9) 128 (vp_updL g_this_toPay x4.toNatClampNeg (-1 : Int64)) ++ (cI_ dT (a_this 10) 7 g_this_plan ++ (cJ_ dT a_p1 n_p1 g_p1))))) H := hP
          have hD : va_D A (cM a_this g_this ++ (cJ_ dT (a_this 7) 128 g_this_chosenBy ++ (cJ_ dT (a_this 9) 128 (vp_updL g_this_toPay x4.toNatClampNeg (-1 : Int64)) ++ (cI_ dT (a_this 10) 7 g_this_plan ++ (cJ_ dT a_p1 n_p1 g_p1))))) := hD
          refine lv_iconst (v := 0) hx hb dX9_choose_51 (by decide) ?_
          refine lv_istore (lv' := [(5, .int (0 : Int32)), (0, .ref (a_this 0)), (1, .ref a_p1), (2, .int x2), (4, .int x4)]) hx hb dX9_choose_52 hl (by decide) rfl (fun ls hl => ?_)
          refine L_f_X9_choose_L54 n_p1 g_this g_this_chosenBy g_this_plan g_p1 x2 x4 _ ?_ FUEL (0 : Int32) (vp_updL g_this_toPay x4.toNatClampNeg (-1 : Int64)) _ _ _ h hP hD hS (lv_sub hl [1, 2, 3, 4, 0] rfl)
          · intro y19g_this_toPay H locs ls h hP hD hS hl
            refine lv_iinc (v := (x4 + (-1 : Int32))) (lv' := [(4, .int (x4 + (-1 : Int32))), (0, .ref (a_this 0)), (1, .ref a_p1), (2, .int x2)]) hx hb dX9_choose_162 hl (k := 3) rfl rfl (by decide) rfl (fun ls hl => ?_)
            refine lv_goto (tgt := 27) hx hb dX9_choose_165 (by decide) ?_
            exact ih (x4 + (-1 : Int32)) y19g_this_toPay _ _ _ h hP hD hS (lv_sub hl [1, 2, 3, 0] rfl)
  have L_f_X9_choose_L180 : ∀ (n_p1 : Nat) (g_this : TM) (g_this_chosenBy : Nat → Int64) (g_this_toPay : Nat → Int64) (g_this_plan : Nat → Int32) (g_p1 : Nat → Int64) (x2 : Int32) (x4 : Int32) (k246 : Int32 → Option (Int64 × (TM × (Nat → Int64) × (Nat → Int64) × (Nat → Int32)))) (hk246 : ∀ (x5 : Int32) (H : Heap) (locs : List Loc) (ls : Array Slot), k246 x5 = some o → va_P D vwCl (cM a_this g_this ++ (cJ_ dT (a_this 7) 128 g_this_chosenBy ++ (cJ_ dT (a_this 9) 128 g_this_toPay ++ (cI_ dT (a_this 10) 7 g_this_plan ++ (cJ_ dT a_p1 n_p1 g_p1))))) H → va_D A (cM a_this g_this ++ (cJ_ dT (a_this 7) 128 g_this_chosenBy ++ (cJ_ dT (a_this 9) 128 g_this_toPay ++ (cI_ dT (a_this 10) 7 g_this_plan ++ (cJ_ dT a_p1 n_p1 g_p1))))) → va_S A s.heap H locs → lv_has ls 8 [(0, .ref (a_this 0)), (1, .ref a_p1), (2, .int x2), (4, .int x4), (5, .int x5)] → W p l e (headSpec (WSm yX9_choose cX9_choose 8 (some .long)) { frames := 4, cells := 0, slots := 0, locals := 94 }).room s m [.ref (a_this 0), .ref a_p1, .int v2, .int v3].toArray below meth c H locs 0 0 (MQ below (va_Ql (fun (r : Int64) (u : TM × (Nat → Int64) × (Nat → Int64) × (Nat → Int32)) => r = o.1 ∧ u = o.2) (fun u t => cAt D dT A (cM a_this (u.1) ++ (cJ_ dT (a_this 7) 128 (u.2.1) ++ (cJ_ dT (a_this 9) 128 (u.2.2.1) ++ (cI_ dT (a_this 10) 7 (u.2.2.2) ++ (cJ_ dT a_p1 n_p1 g_p1))))) t) A) [.ref (a_this 0), .ref a_p1, .int v2, .int v3].toArray s 0 0 A) (F0 m 246 ls [])) (n : Nat), ∀ (x5 : Int32) (H : Heap) (locs : List Loc) (ls : Array Slot), f_X9_choose_L180 n_p1 g_this g_this_chosenBy g_this_toPay g_this_plan g_p1 x2 x4 k246 n x5 = some o → va_P D vwCl (cM a_this g_this ++ (cJ_ dT (a_this 7) 128 g_this_chosenBy ++ (cJ_ dT (a_this 9) 128 g_this_toPay ++ (cI_ dT (a_this 10) 7 g_this_plan ++ (cJ_ dT a_p1 n_p1 g_p1))))) H → va_D A (cM a_this g_this ++ (cJ_ dT (a_this 7) 128 g_this_chosenBy ++ (cJ_ dT (a_this 9) 128 g_this_toPay ++ (cI_ dT (a_this 10) 7 g_this_plan ++ (cJ_ dT a_p1 n_p1 g_p1))))) → va_S A s.heap H locs → lv_has ls 8 [(0, .ref (a_this 0)), (1, .ref a_p1), (2, .int x2), (4, .int x4), (5, .int x5)] → W p l e (headSpec (WSm yX9_choose cX9_choose 8 (some .long)) { frames := 4, cells := 0, slots := 0, locals := 94 }).room s m [.ref (a_this 0), .ref a_p1, .int v2, .int v3].toArray below meth c H locs 0 0 (MQ below (va_Ql (fun (r : Int64) (u : TM × (Nat → Int64) × (Nat → Int64) × (Nat → Int32)) => r = o.1 ∧ u = o.2) (fun u t => cAt D dT A (cM a_this (u.1) ++ (cJ_ dT (a_this 7) 128 (u.2.1) ++ (cJ_ dT (a_this 9) 128 (u.2.2.1) ++ (cI_ dT (a_this 10) 7 (u.2.2.2) ++ (cJ_ dT a_p1 n_p1 g_p1))))) t) A) [.ref (a_this 0), .ref a_p1, .int v2, .int v3].toArray s 0 0 A) (F0 m 180 ls []) := by
    intro n_p1 g_this g_this_chosenBy g_this_toPay g_this_plan g_p1 x2 x4 k246 hk246 n
    induction n with
    | zero => intro x5 H locs ls h; exact nomatch h
    | succ n ih =>
      intro x5 H locs ls h hP hD hS hl
      unfold f_X9_choose_L180 at h
      refine lv_iload_n hx hb dX9_choose_180 rfl (lv_at hl 2 rfl) ?_
      refine lv_iload hx hb dX9_choose_181 (lv_at hl 4 rfl) ?_
      refine lv_ishr hx hb dX9_choose_183 ?_
      refine lv_iconst (v := 1) hx hb dX9_choose_184 (by decide) ?_
      refine lv_iand hx hb dX9_choose_185 ?_
      refine lv_if_eq (tgt := 240) hx hb dX9_choose_186 (by decide) (fun c23 => ?_) (fun c23 => ?_)
      · replace h := iteT c23 h
        refine lv_iinc (v := (x5 + (1 : Int32))) (lv' := [(5, .int (x5 + (1 : Int32))), (0, .ref (a_this 0)), (1, .ref a_p1), (2, .int x2), (4, .int x4)]) hx hb dX9_choose_240 hl (k := 4) rfl rfl (by decide) rfl (fun ls hl => ?_)
        refine lv_goto (tgt := 180) hx hb dX9_choose_243 (by decide) ?_
        exact ih (x5 + (1 : Int32)) _ _ _ h hP hD hS (lv_sub hl [1, 2, 3, 4, 0] rfl)
      · replace h := iteF c23 h
        refine lv_iload hx hb dX9_choose_189 (lv_at hl 3 rfl) ?_
        refine lv_iload hx hb dX9_choose_191 (lv_at hl 4 rfl) ?_
        refine lv_ishr hx hb dX9_choose_193 ?_
        refine lv_iconst (v := 1) hx hb dX9_choose_194 (by decide) ?_
        refine lv_iand hx hb dX9_choose_195 ?_
        refine lv_iconst (v := 1) hx hb dX9_choose_196 (by decide) ?_
        refine lv_icmp_eq (tgt := 240) hx hb dX9_choose_197 (by decide) (fun c24 => ?_) (fun c24 => ?_)
        · replace h := iteT c24 h
          refine lv_iinc (v := (x5 + (1 : Int32))) (lv' := [(5, .int (x5 + (1 : Int32))), (0, .ref (a_this 0)), (1, .ref a_p1), (2, .int x2), (4, .int x4)]) hx hb dX9_choose_240 hl (k := 4) rfl rfl (by decide) rfl (fun ls hl => ?_)
          refine lv_goto (tgt := 180) hx hb dX9_choose_243 (by decide) ?_
          exact ih (x5 + (1 : Int32)) _ _ _ h hP hD hS (lv_sub hl [1, 2, 3, 4, 0] rfl)
        · replace h := iteF c24 h
          refine lv_aload_n hx hb dX9_choose_200 rfl (lv_at hl 1 rfl) ?_
          refine lv_aload_n hx hb dX9_choose_201 rfl (lv_at hl 0 rfl) ?_
          refine gf_X9_30 (v := .ref (a_this 7)) hx hb hqs hown hK hP 0 rfl rfl dX9_choose_202 ?_
          refine lv_aload_n hx hb dX9_choose_205 rfl (lv_at hl 0 rfl) ?_
          refine gf_X9_30 (v := .ref (a_this 7)) hx hb hqs hown hK hP 0 rfl rfl dX9_choose_206 ?_
          refine lv_iload hx hb dX9_choose_209 (lv_at hl 3 rfl) ?_
          refine lv_iload hx hb dX9_choose_211 (lv_at hl 4 rfl) ?_
          obtain ⟨o25, e25, h⟩ := obind h
          have hPc := hP.sub (ws' := (cJ_ dT a_p1 n_p1 g_p1 ++ (cJ_ dT (a_this 7) 128 g_this_chosenBy))) [4, 1] rfl
          have hDc := hD.sub (ws' := (cJ_ dT a_p1 n_p1 g_p1 ++ (cJ_ dT (a_this 7) 128 g_this_chosenBy))) [4, 1] (by decide) rfl
          have hFc := va_free (wc := (cJ_ dT a_p1 n_p1 g_p1 ++ (cJ_ dT (a_this 7) 128 g_this_chosenBy))) hD hS hA [4, 1] rfl
          refine cl_l (wr := (cM a_this g_this ++ (cJ_ dT (a_this 9) 128 g_this_toPay ++ (cI_ dT (a_this 10) 7 g_this_plan)))) (va_runS (As := [.ref a_p1, .ref (a_this 7), .ref (a_this 7), .int x4, .int x5]) (rest := []) ⟨hx, hb, hml, hown, hts⟩ (c_X9_stepCost_p2 l hlt D dT a_p1 (a_this 7) n_p1 128 g_p1 g_this_chosenBy x4 x5 o25 e25 _) (va_cwS 5 hts (TB_S w_1296 w_1297 w_59 w_1298) rfl rfl rfl nd_X9_stepCost ⟨Nat.le_of_ble_eq_true rfl, Nat.le_of_ble_eq_true rfl⟩) (cPre.S hPc hDc hK hE hS hFc) rfl rfl hl.1 rfl (lv_room (Nat.le_of_ble_eq_true rfl)) dX9_choose_213 ⟨Nat.zero_le _, Nat.zero_le _⟩) hP hD hS hFc [4, 1] [0, 2, 3] rfl rfl (by decide) (by decide) (fun r25 u25 H locs hw hP hD hS => ?_)
          obtain ⟨rfl, rfl⟩ := hw
          have hP : va_P D vwCl (cM a_this g_this ++ (cJ_ dT (a_this 9) 128 g_this_toPay ++ (cI_ dT (a_this 10) 7 g_this_plan ++ (cJ_ dT a_p1 n_p1 g_p1 ++ (cJ_ dT (a_this 7) 128 g_this_chosenBy))))) H := hP
          have hD : va_D A (cM a_this g_this ++ (cJ_ dT (a_this 9) 128 g_this_toPay ++ (cI_ dT (a_this 10) 7 g_this_plan ++ (cJ_ dT a_p1 n_p1 g_p1 ++ (cJ_ dT (a_this 7) 128 g_this_chosenBy))))) := hD
          refine lv_aload_n hx hb dX9_choose_216 rfl (lv_at hl 0 rfl) ?_
          refine gf_X9_36 (v := .ref (a_this 9)) hx hb hqs hown hK hP 0 rfl rfl dX9_choose_217 ?_
          refine lv_iload hx hb dX9_choose_220 (lv_at hl 3 rfl) ?_
          refine lv_iconst (v := 1) hx hb dX9_choose_222 (by decide) ?_
          refine lv_iload hx hb dX9_choose_223 (lv_at hl 4 rfl) ?_
          refine lv_ishl hx hb dX9_choose_225 ?_
          refine lv_ior hx hb dX9_choose_226 ?_
          obtain ⟨g26, h⟩ := chk h
          refine va_lald hx hb hK hP 1 1 rfl rfl (inb_in g26) dX9_choose_227 ?_
          refine lv_ladd hx hb dX9_choose_228 ?_
          refine lv_aload_n hx hb dX9_choose_229 rfl (lv_at hl 0 rfl) ?_
          refine gf_X9_36 (v := .ref (a_this 9)) hx hb hqs hown hK hP 0 rfl rfl dX9_choose_230 ?_
          refine lv_iload hx hb dX9_choose_233 (lv_at hl 3 rfl) ?_
          obtain ⟨g27, h⟩ := chk h
          refine va_lald hx hb hK hP 1 1 rfl rfl (inb_in g27) dX9_choose_235 ?_
          refine W.lcmp hx hb dX9_choose_236 ?_
          refine lv_if_eq (tgt := 246) hx hb dX9_choose_237 (by decide) (fun c28 => ?_) (fun c28 => ?_)
          · replace h := iteT c28 h
            have hP := hP.sub (ws' := (cM a_this g_this ++ (cJ_ dT (a_this 7) 128 g_this_chosenBy ++ (cJ_ dT (a_this 9) 128 g_this_toPay ++ (cI_ dT (a_this 10) 7 g_this_plan ++ (cJ_ dT a_p1 n_p1 g_p1)))))) [0, 4, 1, 2, 3] rfl
            have hD := hD.sub (ws' := (cM a_this g_this ++ (cJ_ dT (a_this 7) 128 g_this_chosenBy ++ (cJ_ dT (a_this 9) 128 g_this_toPay ++ (cI_ dT (a_this 10) 7 g_this_plan ++ (cJ_ dT a_p1 n_p1 g_p1)))))) [0, 4, 1, 2, 3] (by decide) rfl
            exact hk246 x5 _ _ _ h hP hD hS (lv_sub hl [0, 1, 2, 3, 4] rfl)
          · replace h := iteF c28 h
            refine lv_iinc (v := (x5 + (1 : Int32))) (lv' := [(5, .int (x5 + (1 : Int32))), (0, .ref (a_this 0)), (1, .ref a_p1), (2, .int x2), (4, .int x4)]) hx hb dX9_choose_240 hl (k := 4) rfl rfl (by decide) rfl (fun ls hl => ?_)
            refine lv_goto (tgt := 180) hx hb dX9_choose_243 (by decide) ?_
            have hP := hP.sub (ws' := (cM a_this g_this ++ (cJ_ dT (a_this 7) 128 g_this_chosenBy ++ (cJ_ dT (a_this 9) 128 g_this_toPay ++ (cI_ dT (a_this 10) 7 g_this_plan ++ (cJ_ dT a_p1 n_p1 g_p1)))))) [0, 4, 1, 2, 3] rfl
            have hD := hD.sub (ws' := (cM a_this g_this ++ (cJ_ dT (a_this 7) 128 g_this_chosenBy ++ (cJ_ dT (a_this 9) 128 g_this_toPay ++ (cI_ dT (a_this 10) 7 g_this_plan ++ (cJ_ dT a_p1 n_p1 g_p1)))))) [0, 4, 1, 2, 3] (by decide) rfl
            exact ih (x5 + (1 : Int32)) _ _ _ h hP hD hS (lv_sub hl [1, 2, 3, 4, 0] rfl)
  have L_f_X9_choose_L171 : ∀ (n_p1 : Nat) (g_this_chosenBy : Nat → Int64) (g_this_toPay : Nat → Int64) (g_p1 : Nat → Int64) (x2 : Int32)   (n : Nat), ∀ (x4 : Int32) (g_this : TM) (g_this_plan : Nat → Int32) (H : Heap) (locs : List Loc) (ls : Array Slot), f_X9_choose_L171 n_p1 g_this_chosenBy g_this_toPay g_p1 x2  n x4 g_this g_this_plan = some o → va_P D vwCl (cM a_this g_this ++ (cJ_ dT (a_this 7) 128 g_this_chosenBy ++ (cJ_ dT (a_this 9) 128 g_this_toPay ++ (cI_ dT (a_this 10) 7 g_this_plan ++ (cJ_ dT a_p1 n_p1 g_p1))))) H → va_D A (cM a_this g_this ++ (cJ_ dT (a_this 7) 128 g_this_chosenBy ++ (cJ_ dT (a_this 9) 128 g_this_toPay ++ (cI_ dT (a_this 10) 7 g_this_plan ++ (cJ_ dT a_p1 n_p1 g_p1))))) → va_S A s.heap H locs → lv_has ls 8 [(0, .ref (a_this 0)), (1, .ref a_p1), (2, .int x2), (4, .int x4)] → W p l e (headSpec (WSm yX9_choose cX9_choose 8 (some .long)) { frames := 4, cells := 0, slots := 0, locals := 94 }).room s m [.ref (a_this 0), .ref a_p1, .int v2, .int v3].toArray below meth c H locs 0 0 (MQ below (va_Ql (fun (r : Int64) (u : TM × (Nat → Int64) × (Nat → Int64) × (Nat → Int32)) => r = o.1 ∧ u = o.2) (fun u t => cAt D dT A (cM a_this (u.1) ++ (cJ_ dT (a_this 7) 128 (u.2.1) ++ (cJ_ dT (a_this 9) 128 (u.2.2.1) ++ (cI_ dT (a_this 10) 7 (u.2.2.2) ++ (cJ_ dT a_p1 n_p1 g_p1))))) t) A) [.ref (a_this 0), .ref a_p1, .int v2, .int v3].toArray s 0 0 A) (F0 m 171 ls []) := by
    intro n_p1 g_this_chosenBy g_this_toPay g_p1 x2   n
    induction n with
    | zero => intro x4 g_this g_this_plan H locs ls h; exact nomatch h
    | succ n ih =>
      intro x4 g_this g_this_plan H locs ls h hP hD hS hl
      unfold f_X9_choose_L171 at h
      refine lv_iload hx hb dX9_choose_171 (lv_at hl 3 rfl) ?_
      refine lv_iload_n hx hb dX9_choose_173 rfl (lv_at hl 2 rfl) ?_
      refine lv_icmp_eq (tgt := 279) hx hb dX9_choose_174 (by decide) (fun c21 => ?_) (fun c21 => ?_)
      · replace h := iteT c21 h
        refine lv_aload_n hx hb dX9_choose_279 rfl (lv_at hl 0 rfl) ?_
        refine gf_X9_36 (v := .ref (a_this 9)) hx hb hqs hown hK hP 0 rfl rfl dX9_choose_280 ?_
        refine lv_iconst (v := 0) hx hb dX9_choose_283 (by decide) ?_
        obtain ⟨g22, h⟩ := chk h
        refine va_lald hx hb hK hP 2 1 rfl rfl (inb_in g22) dX9_choose_284 ?_
        exact rt_l hx hb hr hlk hK hS ((g_this, g_this_chosenBy, g_this_toPay, g_this_plan) : TM × (Nat → Int64) × (Nat → Int64) × (Nat → Int32)) (ret2 h) hP hD dX9_choose_285
      · replace h := iteF c21 h
        refine lv_iconst (v := 0) hx hb dX9_choose_177 (by decide) ?_
        refine lv_istore (lv' := [(5, .int (0 : Int32)), (0, .ref (a_this 0)), (1, .ref a_p1), (2, .int x2), (4, .int x4)]) hx hb dX9_choose_178 hl (by decide) rfl (fun ls hl => ?_)
        refine L_f_X9_choose_L180 n_p1 g_this g_this_chosenBy g_this_toPay g_this_plan g_p1 x2 x4 _ ?_ FUEL (0 : Int32) _ _ _ h hP hD hS (lv_sub hl [1, 2, 3, 4, 0] rfl)
        · intro y29x5 H locs ls h hP hD hS hl
          refine lv_aload_n hx hb dX9_choose_246 rfl (lv_at hl 0 rfl) ?_
          refine gf_X9_39 (v := .ref (a_this 10)) hx hb hqs hown hK hP 0 rfl rfl dX9_choose_247 ?_
          refine lv_aload_n hx hb dX9_choose_250 rfl (lv_at hl 0 rfl) ?_
          refine gf_X9_98 (v := .int (M_planned g_this)) hx hb hqs hown hK hP 0 rfl rfl dX9_choose_251 ?_
          refine lv_iload hx hb dX9_choose_254 (lv_at hl 4 rfl) ?_
          obtain ⟨g30, h⟩ := chk h
          refine va_iast hx hb hK hP hD hS 3 0 rfl rfl (inb_in g30) dX9_choose_256 (fun H locs hP hD hS => ?_)
          have hP : va_P D vwCl (cM a_this g_this ++ (cJ_ dT (a_this 7) 128 g_this_chosenBy ++ (cJ_ dT (a_this 9) 128 g_this_toPay ++ (cI_ dT (a_this 10) 7 (upd g_this_plan (M_planned g_this).toNatClampNeg y29x5) ++ (cJ_ dT a_p1 n_p1 g_p1))))) H := hP
          have hD : va_D A (cM a_this g_this ++ (cJ_ dT (a_this 7) 128 g_this_chosenBy ++ (cJ_ dT (a_this 9) 128 g_this_toPay ++ (cI_ dT (a_this 10) 7 (upd g_this_plan (M_planned g_this).toNatClampNeg y29x5) ++ (cJ_ dT a_p1 n_p1 g_p1))))) := hD
          refine lv_aload_n hx hb dX9_choose_257 rfl (lv_at hl 0 rfl) ?_
          refine lv_dup hx hb dX9_choose_258 rfl ?_
          refine gf_X9_98 (v := .int (M_planned g_this)) hx hb hqs hown hK hP 0 rfl rfl dX9_choose_259 ?_
          refine lv_iconst (v := 1) hx hb dX9_choose_262 (by decide) ?_
          refine lv_iadd hx hb dX9_choose_263 ?_
          refine pf_X9_98 hx hb hqs hown hK hP hD hS 0 rfl rfl dX9_choose_264 (fun H locs hP hD hS => ?_)
          have hP : va_P D vwCl ([(a_this 0, .inr (8, [.int (M_refusal g_this), .ref (a_this 1), .int (M_size g_this), .ref (a_this 2), .ref (a_this 3), .ref (a_this 4), .int (M_acts g_this), .ref (a_this 5), .ref (a_this 6), .ref (a_this 7), .ref (a_this 8), .ref (a_this 9), .ref (a_this 10), .int ((M_planned g_this) + (1 : Int32)), .int (M_spot g_this), .int (M_out g_this), .ref (a_this 11)]))] ++ (cJ_ dT (a_this 7) 128 g_this_chosenBy ++ (cJ_ dT (a_this 9) 128 g_this_toPay ++ (cI_ dT (a_this 10) 7 (upd g_this_plan (M_planned g_this).toNatClampNeg y29x5) ++ (cJ_ dT a_p1 n_p1 g_p1))))) H := hP
          have hD : va_D A ([(a_this 0, .inr (8, [.int (M_refusal g_this), .ref (a_this 1), .int (M_size g_this), .ref (a_this 2), .ref (a_this 3), .ref (a_this 4), .int (M_acts g_this), .ref (a_this 5), .ref (a_this 6), .ref (a_this 7), .ref (a_this 8), .ref (a_this 9), .ref (a_this 10), .int ((M_planned g_this) + (1 : Int32)), .int (M_spot g_this), .int (M_out g_this), .ref (a_this 11)]))] ++ (cJ_ dT (a_this 7) 128 g_this_chosenBy ++ (cJ_ dT (a_this 9) 128 g_this_toPay ++ (cI_ dT (a_this 10) 7 (upd g_this_plan (M_planned g_this).toNatClampNeg y29x5) ++ (cJ_ dT a_p1 n_p1 g_p1))))) := hD
          refine lv_iload hx hb dX9_choose_267 (lv_at hl 3 rfl) ?_
          refine lv_iconst (v := 1) hx hb dX9_choose_269 (by decide) ?_
          refine lv_iload hx hb dX9_choose_270 (lv_at hl 4 rfl) ?_
          refine lv_ishl hx hb dX9_choose_272 ?_
          refine lv_ior hx hb dX9_choose_273 ?_
          refine lv_istore (lv' := [(4, .int (x4 ||| ((1 : Int32) <<< (y29x5 &&& 31)))), (0, .ref (a_this 0)), (1, .ref a_p1), (2, .int x2), (5, .int y29x5)]) hx hb dX9_choose_274 hl (by decide) rfl (fun ls hl => ?_)
          refine lv_goto (tgt := 171) hx hb dX9_choose_276 (by decide) ?_
          exact ih (x4 ||| ((1 : Int32) <<< (y29x5 &&& 31))) (M_mk (M_refusal g_this) (M_size g_this) (M_acts g_this) ((M_planned g_this) + (1 : Int32)) (M_spot g_this) (M_out g_this)) (upd g_this_plan (M_planned g_this).toNatClampNeg y29x5) _ _ _ h hP hD hS (lv_sub hl [1, 2, 3, 0] rfl)
  unfold f_X9_choose at h
  refine lv_aload_n hx hb dX9_choose_0 rfl (lv_at hl 0 rfl) ?_
  refine lv_aload_n hx hb dX9_choose_1 rfl (lv_at hl 1 rfl) ?_
  refine lv_aload_n hx hb dX9_choose_2 rfl (lv_at hl 0 rfl) ?_
  refine gf_X9_30 (v := .ref (a_this 7)) hx hb hqs hown hK hP 0 rfl rfl dX9_choose_3 ?_
  refine lv_iload_n hx hb dX9_choose_6 rfl (lv_at hl 3 rfl) ?_
  obtain ⟨o1, e1, h⟩ := obind h
  have hPc := hP.sub (ws' := (cJ_ dT a_p1 n_p1 g_p1 ++ (cJ_ dT (a_this 7) 128 g_this_chosenBy))) [4, 1] rfl
  have hDc := hD.sub (ws' := (cJ_ dT a_p1 n_p1 g_p1 ++ (cJ_ dT (a_this 7) 128 g_this_chosenBy))) [4, 1] (by decide) rfl
  have hFc := va_free (wc := (cJ_ dT a_p1 n_p1 g_p1 ++ (cJ_ dT (a_this 7) 128 g_this_chosenBy))) hD hS hA [4, 1] rfl
  refine cl_v (wr := (cM a_this g_this ++ (cJ_ dT (a_this 9) 128 g_this_toPay ++ (cI_ dT (a_this 10) 7 g_this_plan)))) (va_runV (As := [.ref a_p1, .ref (a_this 7), .int v3]) (rest := []) ⟨hx, hb, hml, hown, hts⟩ (c_X9_layRows l hlt D dT a_this a_p1 (a_this 7) n_p1 128 g_p1 g_this_chosenBy v3 o1 e1 _) (cwV 3 hts (TB_V w_1281 w_1283 w_43 w_59 w_1284) rfl rfl rfl ⟨rfl, nd_X9_layRows⟩ ⟨Nat.le_of_ble_eq_true rfl, Nat.le_of_ble_eq_true rfl⟩) (cPre.V hPc hDc hK hE hS hFc (va_recv hK hP (ci := 8) (q0 := 0) rfl rfl)) rfl rfl hl.1 rfl (lv_room (Nat.le_of_ble_eq_true rfl)) dX9_choose_7 ⟨Nat.zero_le _, Nat.zero_le _⟩) hP hD hS hFc [4, 1] [0, 2, 3] rfl rfl (by decide) (by decide) (fun u1 H locs hw hP hD hS => ?_)
  subst hw
  have hP : va_P D vwCl (cM a_this g_this ++ (cJ_ dT (a_this 9) 128 g_this_toPay ++ (cI_ dT (a_this 10) 7 g_this_plan ++ (cJ_ dT a_p1 n_p1 g_p1 ++ (cJ_ dT (a_this 7) 128 o1.2))))) H := hP
  have hD : va_D A (cM a_this g_this ++ (cJ_ dT (a_this 9) 128 g_this_toPay ++ (cI_ dT (a_this 10) 7 g_this_plan ++ (cJ_ dT a_p1 n_p1 g_p1 ++ (cJ_ dT (a_this 7) 128 o1.2))))) := hD
  refine lv_aload_n hx hb dX9_choose_10 rfl (lv_at hl 0 rfl) ?_
  refine lv_iconst (v := 0) hx hb dX9_choose_11 (by decide) ?_
  refine pf_X9_98 hx hb hqs hown hK hP hD hS 0 rfl rfl dX9_choose_12 (fun H locs hP hD hS => ?_)
  have hP : va_P D vwCl ([(a_this 0, .inr (8, [.int (M_refusal g_this), .ref (a_this 1), .int (M_size g_this), .ref (a_this 2), .ref (a_this 3), .ref (a_this 4), .int (M_acts g_this), .ref (a_this 5), .ref (a_this 6), .ref (a_this 7), .ref (a_this 8), .ref (a_this 9), .ref (a_this 10), .int (0 : Int32), .int (M_spot g_this), .int (M_out g_this), .ref (a_this 11)]))] ++ (cJ_ dT (a_this 9) 128 g_this_toPay ++ (cI_ dT (a_this 10) 7 g_this_plan ++ (cJ_ dT a_p1 n_p1 g_p1 ++ (cJ_ dT (a_this 7) 128 o1.2))))) H := hP
  have hD : va_D A ([(a_this 0, .inr (8, [.int (M_refusal g_this), .ref (a_this 1), .int (M_size g_this), .ref (a_this 2), .ref (a_this 3), .ref (a_this 4), .int (M_acts g_this), .ref (a_this 5), .ref (a_this 6), .ref (a_this 7), .ref (a_this 8), .ref (a_this 9), .ref (a_this 10), .int (0 : Int32), .int (M_spot g_this), .int (M_out g_this), .ref (a_this 11)]))] ++ (cJ_ dT (a_this 9) 128 g_this_toPay ++ (cI_ dT (a_this 10) 7 g_this_plan ++ (cJ_ dT a_p1 n_p1 g_p1 ++ (cJ_ dT (a_this 7) 128 o1.2))))) := hD
  refine lv_aload_n hx hb dX9_choose_15 rfl (lv_at hl 0 rfl) ?_
  refine gf_X9_36 (v := .ref (a_this 9)) hx hb hqs hown hK hP 0 rfl rfl dX9_choose_16 ?_
  refine lv_iload_n hx hb dX9_choose_19 rfl (lv_at hl 2 rfl) ?_
  refine lv_lconst (v := 0) hx hb dX9_choose_20 (by decide) ?_
  obtain ⟨g2, h⟩ := chk h
  refine va_last hx hb hK hP hD hS 1 1 rfl rfl (inb_in g2) dX9_choose_21 (fun H locs hP hD hS => ?_)
  have hP : va_P D vwCl ([(a_this 0, .inr (8, [.int (M_refusal g_this), .ref (a_this 1), .int (M_size g_this), .ref (a_this 2), .ref (a_this 3), .ref (a_this 4), .int (M_acts g_this), .ref (a_this 5), .ref (a_this 6), .ref (a_this 7), .ref (a_this 8), .ref (a_this 9), .ref (a_this 10), .int (0 : Int32), .int (M_spot g_this), .int (M_out g_this), .ref (a_this 11)]))] ++ (cJ_ dT (a_this 9) 128 (vp_updL g_this_toPay v2.toNatClampNeg (0 : Int64)) ++ (cI_ dT (a_this 10) 7 g_this_plan ++ (cJ_ dT a_p1 n_p1 g_p1 ++ (cJ_ dT (a_this 7) 128 o1.2))))) H := hP
  have hD : va_D A ([(a_this 0, .inr (8, [.int (M_refusal g_this), .ref (a_this 1), .int (M_size g_this), .ref (a_this 2), .ref (a_this 3), .ref (a_this 4), .int (M_acts g_this), .ref (a_this 5), .ref (a_this 6), .ref (a_this 7), .ref (a_this 8), .ref (a_this 9), .ref (a_this 10), .int (0 : Int32), .int (M_spot g_this), .int (M_out g_this), .ref (a_this 11)]))] ++ (cJ_ dT (a_this 9) 128 (vp_updL g_this_toPay v2.toNatClampNeg (0 : Int64)) ++ (cI_ dT (a_this 10) 7 g_this_plan ++ (cJ_ dT a_p1 n_p1 g_p1 ++ (cJ_ dT (a_this 7) 128 o1.2))))) := hD
  refine lv_iload_n hx hb dX9_choose_22 rfl (lv_at hl 2 rfl) ?_
  refine lv_iconst (v := 1) hx hb dX9_choose_23 (by decide) ?_
  refine lv_isub hx hb dX9_choose_24 ?_
  refine lv_istore (lv' := [(4, .int (v2 - (1 : Int32))), (0, .ref (a_this 0)), (1, .ref a_p1), (2, .int v2), (3, .int v3)]) hx hb dX9_choose_25 hl (by decide) rfl (fun ls hl => ?_)
  have hP := hP.sub (ws' := ([(a_this 0, .inr (8, [.int (M_refusal g_this), .ref (a_this 1), .int (M_size g_this), .ref (a_this 2), .ref (a_this 3), .ref (a_this 4), .int (M_acts g_this), .ref (a_this 5), .ref (a_this 6), .ref (a_this 7), .ref (a_this 8), .ref (a_this 9), .ref (a_this 10), .int (0 : Int32), .int (M_spot g_this), .int (M_out g_this), .ref (a_this 11)]))] ++ (cJ_ dT (a_this 7) 128 o1.2 ++ (cJ_ dT (a_this 9) 128 (vp_updL g_this_toPay v2.toNatClampNeg (0 : Int64)) ++ (cI_ dT (a_this 10) 7 g_this_plan ++ (cJ_ dT a_p1 n_p1 g_p1)))))) [0, 4, 1, 2, 3] rfl
  have hD := hD.sub (ws' := ([(a_this 0, .inr (8, [.int (M_refusal g_this), .ref (a_this 1), .int (M_size g_this), .ref (a_this 2), .ref (a_this 3), .ref (a_this 4), .int (M_acts g_this), .ref (a_this 5), .ref (a_this 6), .ref (a_this 7), .ref (a_this 8), .ref (a_this 9), .ref (a_this 10), .int (0 : Int32), .int (M_spot g_this), .int (M_out g_this), .ref (a_this 11)]))] ++ (cJ_ dT (a_this 7) 128 o1.2 ++ (cJ_ dT (a_this 9) 128 (vp_updL g_this_toPay v2.toNatClampNeg (0 : Int64)) ++ (cI_ dT (a_this 10) 7 g_this_plan ++ (cJ_ dT a_p1 n_p1 g_p1)))))) [0, 4, 1, 2, 3] (by decide) rfl
  refine L_f_X9_choose_L27 n_p1 (M_mk (M_refusal g_this) (M_size g_this) (M_acts g_this) (0 : Int32) (M_spot g_this) (M_out g_this)) o1.2 g_this_plan g_p1 v2 _ ?_ FUEL (v2 - (1 : Int32)) (vp_updL g_this_toPay v2.toNatClampNeg (0 : Int64)) _ _ _ h hP hD hS (lv_sub hl [1, 2, 3, 0] rfl)
  · intro y20g_this_toPay H locs ls h hP hD hS hl
    refine lv_iconst (v := 0) hx hb dX9_choose_168 (by decide) ?_
    refine lv_istore (lv' := [(4, .int (0 : Int32)), (0, .ref (a_this 0)), (1, .ref a_p1), (2, .int v2)]) hx hb dX9_choose_169 hl (by decide) rfl (fun ls hl => ?_)
    refine L_f_X9_choose_L171 n_p1 o1.2 y20g_this_toPay g_p1 v2   FUEL (0 : Int32) (M_mk (M_refusal g_this) (M_size g_this) (M_acts g_this) (0 : Int32) (M_spot g_this) (M_out g_this)) g_this_plan _ _ _ h hP hD hS (lv_sub hl [1, 2, 3, 0] rfl)

