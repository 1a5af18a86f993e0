def f_X9_layText_J73 (g_this_text : Nat → Int32) (g_this_now : Nat → Int64) (k19 : Int32 → Int32 → TM → (Nat → Int32) → Option (Int32 × (TM × (Nat → Int32)))) (x2 : Int32) (s0 : Int32) (g_this : TM) (g_this_plan : Nat → Int32) : Option (Int32 × (TM × (Nat → Int32))) :=
    (k19 s0 (x2 + (2 : Int32)) (M_mk (M_refusal g_this) (M_size g_this) (M_acts g_this) ((M_planned g_this) + (1 : Int32)) (M_spot g_this) (M_out g_this)) g_this_plan)
def f_X9_layText_J72 (g_this_text : Nat → Int32) (g_this_now : Nat → Int64) (k19 : Int32 → Int32 → TM → (Nat → Int32) → Option (Int32 × (TM × (Nat → Int32)))) (x2 : Int32) (g_this : TM) (g_this_plan : Nat → Int32) : Option (Int32 × (TM × (Nat → Int32))) :=
    (f_X9_layText_J73 g_this_text g_this_now k19 x2 (0 : Int32) g_this g_this_plan)
def f_X9_layText_L19 (g_this_text : Nat → Int32) (g_this_now : Nat → Int64)  : Nat → Int32 → Int32 → TM → (Nat → Int32) → Option (Int32 × (TM × (Nat → Int32)))
  | 0, _, _, _, _ => none
  | n + 1, x1, x2, g_this, g_this_plan =>
    (if (M_size g_this) ≤ x2 then (if vp_nar .boolean x1 = x1 then (some (x1, (g_this, g_this_plan))) else none) else (if inb x2 100 = true then (if inb (M_planned g_this) 7 = true then (if x1 = (0 : Int32) then (f_X9_layText_J72 g_this_text g_this_now (fun x1 x2 g_this g_this_plan => f_X9_layText_L19 g_this_text g_this_now n x1 x2 g_this g_this_plan) x2 g_this (upd g_this_plan (M_planned g_this).toNatClampNeg ((g_this_text x2.toNatClampNeg) - (48 : Int32)))) else (if inb (M_planned g_this) 7 = true then ((f_X9_isTable 353 g_this_now ((upd g_this_plan (M_planned g_this).toNatClampNeg ((g_this_text x2.toNatClampNeg) - (48 : Int32))) (M_planned g_this).toNatClampNeg)).bind fun o9 => (if o9.1 = (0 : Int32) then (f_X9_layText_J72 g_this_text g_this_now (fun x1 x2 g_this g_this_plan => f_X9_layText_L19 g_this_text g_this_now n x1 x2 g_this g_this_plan) x2 g_this (upd g_this_plan (M_planned g_this).toNatClampNeg ((g_this_text x2.toNatClampNeg) - (48 : Int32)))) else (f_X9_layText_J73 g_this_text g_this_now (fun x1 x2 g_this g_this_plan => f_X9_layText_L19 g_this_text g_this_now n x1 x2 g_this g_this_plan) x2 (1 : Int32) g_this (upd g_this_plan (M_planned g_this).toNatClampNeg ((g_this_text x2.toNatClampNeg) - (48 : Int32)))))) else none)) else none) else none))
def f_X9_layText (g_this : TM) (g_this_text : Nat → Int32) (g_this_now : Nat → Int64) (g_this_plan : Nat → Int32) : Option (Int32 × (TM × (Nat → Int32))) :=
  ((f_X9_wrongPlan (M_mk (M_refusal g_this) (M_size g_this) (M_acts g_this) (0 : Int32) (M_spot g_this) (M_out g_this)) g_this_text).bind fun o1 => (if o1.1 = (-1 : Int32) then (f_X9_layText_L19 g_this_text g_this_now FUEL (1 : Int32) (0 : Int32) o1.2 g_this_plan) else (some ((0 : Int32), (o1.2, g_this_plan)))))
set_option maxHeartbeats 8000000 in
set_option maxRecDepth 100000 in
theorem c_X9_layText (l : Launch) (hlt : l.stackTraces = false) (D : va_G) (dT : Nat → ClassId) (a_this : Nat → Nat) (g_this : TM) (g_this_text : Nat → Int32) (g_this_now : Nat → Int64) (g_this_plan : Nat → Int32) (o : (Int32 × (TM × (Nat → Int32)))) (h : f_X9_layText g_this g_this_text g_this_now g_this_plan = some o) (sz : Nat) : Met l yX9_layText (WSm yX9_layText cX9_layText 3 (some .boolean)) { frames := 3, cells := 0, slots := 0, locals := 71 } (va_Pc [.ref (a_this 0)] (cPre D dT (cM a_this g_this ++ (cI_ dT (a_this 1) 100 g_this_text ++ (cJ_ dT (a_this 2) 353 g_this_now ++ (cI_ dT (a_this 10) 7 g_this_plan)))) sz)) (va_Qi (fun (r : Int32) (u : TM × (Nat → Int32)) => r = o.1 ∧ u = o.2) (fun u t => cAt D dT (va_A (cM a_this g_this ++ (cI_ dT (a_this 1) 100 g_this_text ++ (cJ_ dT (a_this 2) 353 g_this_now ++ (cI_ dT (a_this 10) 7 g_this_plan)))) sz) (cM a_this (u.1) ++ (cI_ dT (a_this 1) 100 g_this_text ++ (cJ_ dT (a_this 2) 353 g_this_now ++ (cI_ dT (a_this 10) 7 (u.2))))) t) (va_A (cM a_this g_this ++ (cI_ dT (a_this 1) 100 g_this_text ++ (cJ_ dT (a_this 2) 353 g_this_now ++ (cI_ dT (a_this 10) 7 g_this_plan)))) sz)) 0 0 (va_A (cM a_this g_this ++ (cI_ dT (a_this 1) 100 g_this_text ++ (cJ_ dT (a_this 2) 353 g_this_now ++ (cI_ dT (a_this 10) 7 g_this_plan)))) sz) := by
  refine mStart (WS := (cM a_this g_this ++ (cI_ dT (a_this 1) 100 g_this_text ++ (cJ_ dT (a_this 2) 353 g_this_now ++ (cI_ dT (a_this 10) 7 g_this_plan))))) (Qc := fun A => va_Qi (fun (r : Int32) (u : TM × (Nat → Int32)) => r = o.1 ∧ u = o.2) (fun u t => cAt D dT A (cM a_this (u.1) ++ (cI_ dT (a_this 1) 100 g_this_text ++ (cJ_ dT (a_this 2) 353 g_this_now ++ (cI_ dT (a_this 10) 7 (u.2))))) t) A) RX9 rfl (by decide) (Nat.le_of_ble_eq_true rfl) ?_ sz
  intro p e s m below meth c A ls hx hb hml hr hlk hnm hts hqs hown hE hA hK hP hD hS hl
  have hl : lv_has ls 3 [(0, .ref (a_this 0))] := hl
  have L_f_X9_layText_J73 : ∀ (g_this_text : Nat → Int32) (g_this_now : Nat → Int64) (x2 : Int32) (s0 : Int32) (g_this : TM) (g_this_plan : Nat → Int32) (k19 : Int32 → Int32 → TM → (Nat → Int32) → Option (Int32 × (TM × (Nat → Int32)))) (hk19 : ∀ (x1 : Int32) (x2 : Int32) (g_this : TM) (g_this_plan : Nat → Int32) (H : Heap) (locs : List Loc) (ls : Array Slot), k19 x1 x2 g_this g_this_plan = some o → va_P D vwCl (cM a_this g_this ++ (cI_ dT (a_this 1) 100 g_this_text ++ (cJ_ dT (a_this 2) 353 g_this_now ++ (cI_ dT (a_this 10) 7 g_this_plan)))) H → va_D A (cM a_this g_this ++ (cI_ dT (a_this 1) 100 g_this_text ++ (cJ_ dT (a_this 2) 353 g_this_now ++ (cI_ dT (a_this 10) 7 g_this_plan)))) → va_S A s.heap H locs → lv_has ls 3 [(0, .ref (a_this 0)), (1, .int x1), (2, .int x2)] → W p l e (headSpec (WSm yX9_layText cX9_layText 3 (some .boolean)) { frames := 3, cells := 0, slots := 0, locals := 71 }).room s m [.ref (a_this 0)].toArray below meth c H locs 0 0 (MQ below (va_Qi (fun (r : Int32) (u : TM × (Nat → Int32)) => r = o.1 ∧ u = o.2) (fun u t => cAt D dT A (cM a_this (u.1) ++ (cI_ dT (a_this 1) 100 g_this_text ++ (cJ_ dT (a_this 2) 353 g_this_now ++ (cI_ dT (a_this 10) 7 (u.2))))) t) A) [.ref (a_this 0)].toArray s 0 0 A) (F0 m 19 ls [])) (H : Heap) (locs : List Loc) (ls : Array Slot), f_X9_layText_J73 g_this_text g_this_now k19 x2 s0 g_this g_this_plan = some o → va_P D vwCl (cM a_this g_this ++ (cI_ dT (a_this 1) 100 g_this_text ++ (cJ_ dT (a_this 2) 353 g_this_now ++ (cI_ dT (a_this 10) 7 g_this_plan)))) H → va_D A (cM a_this g_this ++ (cI_ dT (a_this 1) 100 g_this_text ++ (cJ_ dT (a_this 2) 353 g_this_now ++ (cI_ dT (a_this 10) 7 g_this_plan)))) → va_S A s.heap H locs → lv_has ls 3 [(0, .ref (a_this 0)), (2, .int x2)] → W p l e (headSpec (WSm yX9_layText cX9_layText 3 (some .boolean)) { frames := 3, cells := 0, slots := 0, locals := 71 }).room s m [.ref (a_this 0)].toArray below meth c H locs 0 0 (MQ below (va_Qi (fun (r : Int32) (u : TM × (Nat → Int32)) => r = o.1 ∧ u = o.2) (fun u t => cAt D dT A (cM a_this (u.1) ++ (cI_ dT (a_this 1) 100 g_this_text ++ (cJ_ dT (a_this 2) 353 g_this_now ++ (cI_ dT (a_this 10) 7 (u.2))))) t) A) [.ref (a_this 0)].toArray s 0 0 A) (F0 m 73 ls [.int s0]) := by
    intro g_this_text g_this_now x2 s0 g_this g_this_plan k19 hk19 H locs ls h hP hD hS hl
    unfold f_X9_layText_J73 at h
    refine lv_istore_n (lv' := [(1, .int s0), (0, .ref (a_this 0)), (2, .int x2)]) hx hb dX9_layText_73 rfl hl (by decide) rfl (fun ls hl => ?_)
    refine lv_aload_n hx hb dX9_layText_74 rfl (lv_at hl 1 rfl) ?_
    refine lv_dup hx hb dX9_layText_75 rfl ?_
    refine gf_X9_98 (v := .int (M_planned g_this)) hx hb hqs hown hK hP 0 rfl rfl dX9_layText_76 ?_
    refine lv_iconst (v := 1) hx hb dX9_layText_79 (by decide) ?_
    refine lv_iadd hx hb dX9_layText_80 ?_
    refine pf_X9_98 hx hb hqs hown hK hP hD hS 0 rfl rfl dX9_layText_81 (fun H locs hP hD hS => ?_)
    have hP : va_P D vwCl ([(a_this 0, .inr (8, [.int (M_refusal g_this), .ref (a_this 1), .int (M_size g_this), .ref (a_this 2), .ref (a_this 3), .ref (a_this 4), .int (M_acts g_this), .ref (a_this 5), .ref (a_this 6), .ref (a_this 7), .ref (a_this 8), .ref (a_this 9), .ref (a_this 10), .int ((M_planned g_this) + (1 : Int32)), .int (M_spot g_this), .int (M_out g_this), .ref (a_this 11)]))] ++ (cI_ dT (a_this 1) 100 g_this_text ++ (cJ_ dT (a_this 2) 353 g_this_now ++ (cI_ dT (a_this 10) 7 g_this_plan)))) H := hP
    have hD : va_D A ([(a_this 0, .inr (8, [.int (M_refusal g_this), .ref (a_this 1), .int (M_size g_this), .ref (a_this 2), .ref (a_this 3), .ref (a_this 4), .int (M_acts g_this), .ref (a_this 5), .ref (a_this 6), .ref (a_this 7), .ref (a_this 8), .ref (a_this 9), .ref (a_this 10), .int ((M_planned g_this) + (1 : Int32)), .int (M_spot g_this), .int (M_out g_this), .ref (a_this 11)]))] ++ (cI_ dT (a_this 1) 100 g_this_text ++ (cJ_ dT (a_this 2) 353 g_this_now ++ (cI_ dT (a_this 10) 7 g_this_plan)))) := hD
    refine lv_iinc (v := (x2 + (2 : Int32))) (lv' := [(2, .int (x2 + (2 : Int32))), (1, .int s0), (0, .ref (a_this 0))]) hx hb dX9_layText_84 hl (k := 2) rfl rfl (by decide) rfl (fun ls hl => ?_)
    refine lv_goto (tgt := 19) hx hb dX9_layText_87 (by decide) ?_
    exact hk19 s0 (x2 + (2 : Int32)) (M_mk (M_refusal g_this) (M_size g_this) (M_acts g_this) ((M_planned g_this) + (1 : Int32)) (M_spot g_this) (M_out g_this)) g_this_plan _ _ _ h hP hD hS (lv_sub hl [2, 1, 0] rfl)
  have L_f_X9_layText_J72 : ∀ (g_this_text : Nat → Int32) (g_this_now : Nat → Int64) (x2 : Int32) (g_this : TM) (g_this_plan : Nat → Int32) (k19 : Int32 → Int32 → TM → (Nat → Int32) → Option (Int32 × (TM × (Nat → Int32)))) (hk19 : ∀ (x1 : Int32) (x2 : Int32) (g_this : TM) (g_this_plan : Nat → Int32) (H : Heap) (locs : List Loc) (ls : Array Slot), k19 x1 x2 g_this g_this_plan = some o → va_P D vwCl (cM a_this g_this ++ (cI_ dT (a_this 1) 100 g_this_text ++ (cJ_ dT (a_this 2) 353 g_this_now ++ (cI_ dT (a_this 10) 7 g_this_plan)))) H → va_D A (cM a_this g_this ++ (cI_ dT (a_this 1) 100 g_this_text ++ (cJ_ dT (a_this 2) 353 g_this_now ++ (cI_ dT (a_this 10) 7 g_this_plan)))) → va_S A s.heap H locs → lv_has ls 3 [(0, .ref (a_this 0)), (1, .int x1), (2, .int x2)] → W p l e (headSpec (WSm yX9_layText cX9_layText 3 (some .boolean)) { frames := 3, cells := 0, slots := 0, locals := 71 }).room s m [.ref (a_this 0)].toArray below meth c H locs 0 0 (MQ below (va_Qi (fun (r : Int32) (u : TM × (Nat → Int32)) => r = o.1 ∧ u = o.2) (fun u t => cAt D dT A (cM a_this (u.1) ++ (cI_ dT (a_this 1) 100 g_this_text ++ (cJ_ dT (a_this 2) 353 g_this_now ++ (cI_ dT (a_this 10) 7 (u.2))))) t) A) [.ref (a_this 0)].toArray s 0 0 A) (F0 m 19 ls [])) (H : Heap) (locs : List Loc) (ls : Array Slot), f_X9_layText_J72 g_this_text g_this_now k19 x2 g_this g_this_plan = some o → va_P D vwCl (cM a_this g_this ++ (cI_ dT (a_this 1) 100 g_this_text ++ (cJ_ dT (a_this 2) 353 g_this_now ++ (cI_ dT (a_this 10) 7 g_this_plan)))) H → va_D A (cM a_this g_this ++ (cI_ dT (a_this 1) 100 g_this_text ++ (cJ_ dT (a_this 2) 353 g_this_now ++ (cI_ dT (a_this 10) 7 g_this_plan)))) → va_S A s.heap H locs → lv_has ls 3 [(0, .ref (a_this 0)), (2, .int x2)] → W p l e (headSpec (WSm yX9_layText cX9_layText 3 (some .boolean)) { frames := 3, cells := 0, slots := 0, locals := 71 }).room s m [.ref (a_this 0)].toArray below meth c H locs 0 0 (MQ below (va_Qi (fun (r : Int32) (u : TM × (Nat → Int32)) => r = o.1 ∧ u = o.2) (fun u t => cAt D dT A (cM a_this (u.1) ++ (cI_ dT (a_this 1) 100 g_this_text ++ (cJ_ dT (a_this 2) 353 g_this_now ++ (cI_ dT (a_this 10) 7 (u.2))))) t) A) [.ref (a_this 0)].toArray s 0 0 A) (F0 m 72 ls []) := by
    intro g_this_text g_this_now x2 g_this g_this_plan k19 hk19 H locs ls h hP hD hS hl
    unfold f_X9_layText_J72 at h
    refine lv_iconst (v := 0) hx hb dX9_layText_72 (by decide) ?_
    refine L_f_X9_layText_J73 g_this_text g_this_now x2 (0 : Int32) g_this g_this_plan _ hk19 _ _ _ h hP hD hS (lv_sub hl [0, 1] rfl)
  have L_f_X9_layText_L19 : ∀ (g_this_text : Nat → Int32) (g_this_now : Nat → Int64)   (n : Nat), ∀ (x1 : Int32) (x2 : Int32) (g_this : TM) (g_this_plan : Nat → Int32) (H : Heap) (locs : List Loc) (ls : Array Slot), f_X9_layText_L19 g_this_text g_this_now  n x1 x2 g_this g_this_plan = some o → va_P D vwCl (cM a_this g_this ++ (cI_ dT (a_this 1) 100 g_this_text ++ (cJ_ dT (a_this 2) 353 g_this_now ++ (cI_ dT (a_this 10) 7 g_this_plan)))) H → va_D A (cM a_this g_this ++ (cI_ dT (a_this 1) 100 g_this_text ++ (cJ_ dT (a_this 2) 353 g_this_now ++ (cI_ dT (a_this 10) 7 g_this_plan)))) → va_S A s.heap H locs → lv_has ls 3 [(0, .ref (a_this 0)), (1, .int x1), (2, .int x2)] → W p l e (headSpec (WSm yX9_layText cX9_layText 3 (some .boolean)) { frames := 3, cells := 0, slots := 0, locals := 71 }).room s m [.ref (a_this 0)].toArray below meth c H locs 0 0 (MQ below (va_Qi (fun (r : Int32) (u : TM × (Nat → Int32)) => r = o.1 ∧ u = o.2) (fun u t => cAt D dT A (cM a_this (u.1) ++ (cI_ dT (a_this 1) 100 g_this_text ++ (cJ_ dT (a_this 2) 353 g_this_now ++ (cI_ dT (a_this 10) 7 (u.2))))) t) A) [.ref (a_this 0)].toArray s 0 0 A) (F0 m 19 ls []) := by
    intro g_this_text g_this_now   n
    induction n with
    | zero => intro x1 x2 g_this g_this_plan H locs ls h; exact nomatch h
    | succ n ih =>
      intro x1 x2 g_this g_this_plan H locs ls h hP hD hS hl
      unfold f_X9_layText_L19 at h
      refine lv_iload_n hx hb dX9_layText_19 rfl (lv_at hl 2 rfl) ?_
      refine lv_aload_n hx hb dX9_layText_20 rfl (lv_at hl 0 rfl) ?_
      refine gf_X9_115 (v := .int (M_size g_this)) hx hb hqs hown hK hP 0 rfl rfl dX9_layText_21 ?_
      refine lv_icmp_ge (tgt := 90) hx hb dX9_layText_24 (by decide) (fun c3 => ?_) (fun c3 => ?_)
      · replace h := iteT c3 h
        refine lv_iload_n hx hb dX9_layText_90 rfl (lv_at hl 1 rfl) ?_
        obtain ⟨g4, h⟩ := chp h
        exact rt_z hx hb hr hlk hK hS ((g_this, g_this_plan) : TM × (Nat → Int32)) (ret2 h) g4 hP hD dX9_layText_91
      · replace h := iteF c3 h
        refine lv_aload_n hx hb dX9_layText_27 rfl (lv_at hl 0 rfl) ?_
        refine gf_X9_39 (v := .ref (a_this 10)) hx hb hqs hown hK hP 0 rfl rfl dX9_layText_28 ?_
        refine lv_aload_n hx hb dX9_layText_31 rfl (lv_at hl 0 rfl) ?_
        refine gf_X9_98 (v := .int (M_planned g_this)) hx hb hqs hown hK hP 0 rfl rfl dX9_layText_32 ?_
        refine lv_aload_n hx hb dX9_layText_35 rfl (lv_at hl 0 rfl) ?_
        refine gf_X9_7 (v := .ref (a_this 1)) hx hb hqs hown hK hP 0 rfl rfl dX9_layText_36 ?_
        refine lv_iload_n hx hb dX9_layText_39 rfl (lv_at hl 2 rfl) ?_
        obtain ⟨g5, h⟩ := chk h
        refine va_iald hx hb hK hP 1 0 rfl rfl (inb_in g5) dX9_layText_40 ?_
        refine lv_bipush (v := 48) hx hb dX9_layText_41 (by decide) ?_
        refine lv_isub hx hb dX9_layText_43 ?_
        obtain ⟨g6, h⟩ := chk h
        refine va_iast hx hb hK hP hD hS 3 0 rfl rfl (inb_in g6) dX9_layText_44 (fun H locs hP hD hS => ?_)
        have hP : va_P D vwCl (cM a_this g_this ++ (cI_ dT (a_this 1) 100 g_this_text ++ (cJ_ dT (a_this 2) 353 g_this_now ++ (cI_ dT (a_this 10) 7 (upd g_this_plan (M_planned g_this).toNatClampNeg ((g_this_text x2.toNatClampNeg) - (48 : Int32))))))) H := hP
        have hD : va_D A (cM a_this g_this ++ (cI_ dT (a_this 1) 100 g_this_text ++ (cJ_ dT (a_this 2) 353 g_this_now ++ (cI_ dT (a_this 10) 7 (upd g_this_plan (M_planned g_this).toNatClampNeg ((g_this_text x2.toNatClampNeg) - (48 : Int32))))))) := hD
        refine lv_iload_n hx hb dX9_layText_45 rfl (lv_at hl 1 rfl) ?_
        refine lv_if_eq (tgt := 72) hx hb dX9_layText_46 (by decide) (fun c7 => ?_) (fun c7 => ?_)
        · replace h := iteT c7 h
          refine L_f_X9_layText_J72 g_this_text g_this_now x2 g_this (upd g_this_plan (M_planned g_this).toNatClampNeg ((g_this_text x2.toNatClampNeg) - (48 : Int32))) _ ih _ _ _ h hP hD hS (lv_sub hl [0, 2] rfl)
        · replace h := iteF c7 h
          refine lv_aload_n hx hb dX9_layText_49 rfl (lv_at hl 0 rfl) ?_
          refine gf_X9_13 (v := .ref (a_this 2)) hx hb hqs hown hK hP 0 rfl rfl dX9_layText_50 ?_
          refine lv_aload_n hx hb dX9_layText_53 rfl (lv_at hl 0 rfl) ?_
          refine gf_X9_39 (v := .ref (a_this 10)) hx hb hqs hown hK hP 0 rfl rfl dX9_layText_54 ?_
          refine lv_aload_n hx hb dX9_layText_57 rfl (lv_at hl 0 rfl) ?_
          refine gf_X9_98 (v := .int (M_planned g_this)) hx hb hqs hown hK hP 0 rfl rfl dX9_layText_58 ?_
          obtain ⟨g8, h⟩ := chk h
          refine va_iald hx hb hK hP 3 0 rfl rfl (inb_in g8) dX9_layText_61 ?_
          obtain ⟨o9, e9, h⟩ := obind h
          have hPc := hP.sub (ws' := (cJ_ dT (a_this 2) 353 g_this_now)) [2] rfl
          have hDc := hD.sub (ws' := (cJ_ dT (a_this 2) 353 g_this_now)) [2] (by decide) rfl
          have hFc := va_free (wc := (cJ_ dT (a_this 2) 353 g_this_now)) hD hS hA [2] rfl
          refine cl_i (wr := (cM a_this g_this ++ (cI_ dT (a_this 1) 100 g_this_text ++ (cI_ dT (a_this 10) 7 (upd g_this_plan (M_planned g_this).toNatClampNeg ((g_this_text x2.toNatClampNeg) - (48 : Int32))))))) (va_runS (As := [.ref (a_this 2), .int ((upd g_this_plan (M_planned g_this).toNatClampNeg ((g_this_text x2.toNatClampNeg) - (48 : Int32))) (M_planned g_this).toNatClampNeg)]) (rest := []) ⟨hx, hb, hml, hown, hts⟩ (c_X9_isTable l hlt D dT (a_this 2) 353 g_this_now ((upd g_this_plan (M_planned g_this).toNatClampNeg ((g_this_text x2.toNatClampNeg) - (48 : Int32))) (M_planned g_this).toNatClampNeg) o9 e9 _) (va_cwS 2 hts (TB_S w_1175 w_1176 w_59 w_1177) rfl rfl rfl nd_X9_isTable ⟨Nat.le_of_ble_eq_true rfl, Nat.le_of_ble_eq_true rfl⟩) (cPre.S hPc hDc hK hE hS hFc) rfl rfl hl.1 rfl (lv_room (Nat.le_of_ble_eq_true rfl)) dX9_layText_62 ⟨Nat.zero_le _, Nat.zero_le _⟩) hP hD hS hFc [2] [0, 1, 3] rfl rfl (by decide) (by decide) (fun r9 u9 H locs hw hP hD hS => ?_)
          obtain ⟨rfl, rfl⟩ := hw
          have hP : va_P D vwCl (cM a_this g_this ++ (cI_ dT (a_this 1) 100 g_this_text ++ (cI_ dT (a_this 10) 7 (upd g_this_plan (M_planned g_this).toNatClampNeg ((g_this_text x2.toNatClampNeg) - (48 : Int32))) ++ (cJ_ dT (a_this 2) 353 g_this_now)))) H := hP
          have hD : va_D A (cM a_this g_this ++ (cI_ dT (a_this 1) 100 g_this_text ++ (cI_ dT (a_this 10) 7 (upd g_this_plan (M_planned g_this).toNatClampNeg ((g_this_text x2.toNatClampNeg) - (48 : Int32))) ++ (cJ_ dT (a_this 2) 353 g_this_now)))) := hD
          refine lv_if_eq (tgt := 72) hx hb dX9_layText_65 (by decide) (fun c10 => ?_) (fun c10 => ?_)
          · replace h := iteT c10 h
            have hP := hP.sub (ws' := (cM a_this g_this ++ (cI_ dT (a_this 1) 100 g_this_text ++ (cJ_ dT (a_this 2) 353 g_this_now ++ (cI_ dT (a_this 10) 7 (upd g_this_plan (M_planned g_this).toNatClampNeg ((g_this_text x2.toNatClampNeg) - (48 : Int32)))))))) [0, 1, 3, 2] rfl
            have hD := hD.sub (ws' := (cM a_this g_this ++ (cI_ dT (a_this 1) 100 g_this_text ++ (cJ_ dT (a_this 2) 353 g_this_now ++ (cI_ dT (a_this 10) 7 (upd g_this_plan (M_planned g_this).toNatClampNeg ((g_this_text x2.toNatClampNeg) - (48 : Int32)))))))) [0, 1, 3, 2] (by decide) rfl
            refine L_f_X9_layText_J72 g_this_text g_this_now x2 g_this (upd g_this_plan (M_planned g_this).toNatClampNeg ((g_this_text x2.toNatClampNeg) - (48 : Int32))) _ ih _ _ _ h hP hD hS (lv_sub hl [0, 2] rfl)
          · replace h := iteF c10 h
            refine lv_iconst (v := 1) hx hb dX9_layText_68 (by decide) ?_
            refine lv_goto (tgt := 73) hx hb dX9_layText_69 (by decide) ?_
            have hP := hP.sub (ws' := (cM a_this g_this ++ (cI_ dT (a_this 1) 100 g_this_text ++ (cJ_ dT (a_this 2) 353 g_this_now ++ (cI_ dT (a_this 10) 7 (upd g_this_plan (M_planned g_this).toNatClampNeg ((g_this_text x2.toNatClampNeg) - (48 : Int32)))))))) [0, 1, 3, 2] rfl
            have hD := hD.sub (ws' := (cM a_this g_this ++ (cI_ dT (a_this 1) 100 g_this_text ++ (cJ_ dT (a_this 2) 353 g_this_now ++ (cI_ dT (a_this 10) 7 (upd g_this_plan (M_planned g_this).toNatClampNeg ((g_this_text x2.toNatClampNeg) - (48 : Int32)))))))) [0, 1, 3, 2] (by decide) rfl
            refine L_f_X9_layText_J73 g_this_text g_this_now x2 (1 : Int32) g_this (upd g_this_plan (M_planned g_this).toNatClampNeg ((g_this_text x2.toNatClampNeg) - (48 : Int32))) _ ih _ _ _ h hP hD hS (lv_sub hl [0, 2] rfl)
  unfold f_X9_layText at h
  refine lv_aload_n hx hb dX9_layText_0 rfl (lv_at hl 0 rfl) ?_
  refine lv_iconst (v := 0) hx hb dX9_layText_1 (by decide) ?_
  refine pf_X9_98 hx hb hqs hown hK hP hD hS 0 rfl rfl dX9_layText_2 (fun H locs hP hD hS => ?_)
  have hP : va_P D vwCl ([(a_this 0, .inr (8, [.int (M_refusal g_this), .ref (a_this 1), .int (M_size g_this), .ref (a_this 2), .ref (a_this 3), .ref (a_this 4), .int (M_acts g_this), .ref (a_this 5), .ref (a_this 6), .ref (a_this 7), .ref (a_this 8), .ref (a_this 9), .ref (a_this 10), .int (0 : Int32), .int (M_spot g_this), .int (M_out g_this), .ref (a_this 11)]))] ++ (cI_ dT (a_this 1) 100 g_this_text ++ (cJ_ dT (a_this 2) 353 g_this_now ++ (cI_ dT (a_this 10) 7 g_this_plan)))) H := hP
  have hD : va_D A ([(a_this 0, .inr (8, [.int (M_refusal g_this), .ref (a_this 1), .int (M_size g_this), .ref (a_this 2), .ref (a_this 3), .ref (a_this 4), .int (M_acts g_this), .ref (a_this 5), .ref (a_this 6), .ref (a_this 7), .ref (a_this 8), .ref (a_this 9), .ref (a_this 10), .int (0 : Int32), .int (M_spot g_this), .int (M_out g_this), .ref (a_this 11)]))] ++ (cI_ dT (a_this 1) 100 g_this_text ++ (cJ_ dT (a_this 2) 353 g_this_now ++ (cI_ dT (a_this 10) 7 g_this_plan)))) := hD
  refine lv_aload_n hx hb dX9_layText_5 rfl (lv_at hl 0 rfl) ?_
  obtain ⟨o1, e1, h⟩ := obind h
  have hPc := hP.sub (ws' := (cM a_this (M_mk (M_refusal g_this) (M_size g_this) (M_acts g_this) (0 : Int32) (M_spot g_this) (M_out g_this)) ++ (cI_ dT (a_this 1) 100 g_this_text))) [0, 1] rfl
  have hDc := hD.sub (ws' := (cM a_this (M_mk (M_refusal g_this) (M_size g_this) (M_acts g_this) (0 : Int32) (M_spot g_this) (M_out g_this)) ++ (cI_ dT (a_this 1) 100 g_this_text))) [0, 1] (by decide) rfl
  have hFc := va_free (wc := (cM a_this (M_mk (M_refusal g_this) (M_size g_this) (M_acts g_this) (0 : Int32) (M_spot g_this) (M_out g_this)) ++ (cI_ dT (a_this 1) 100 g_this_text))) hD hS hA [0, 1] rfl
  refine cl_i (wr := (cJ_ dT (a_this 2) 353 g_this_now ++ (cI_ dT (a_this 10) 7 g_this_plan))) (va_runV (As := []) (rest := []) ⟨hx, hb, hml, hown, hts⟩ (c_X9_wrongPlan l hlt D dT a_this (M_mk (M_refusal g_this) (M_size g_this) (M_acts g_this) (0 : Int32) (M_spot g_this) (M_out g_this)) g_this_text o1 e1 _) (cwV 0 hts (TB_V w_1144 w_1146 w_33 w_59 w_1147) rfl rfl rfl ⟨rfl, nd_X9_wrongPlan⟩ ⟨Nat.le_of_ble_eq_true rfl, Nat.le_of_ble_eq_true rfl⟩) (cPre.V hPc hDc hK hE hS hFc (va_recv hK hP (ci := 8) (q0 := 0) rfl rfl)) rfl rfl hl.1 rfl (lv_room (Nat.le_of_ble_eq_true rfl)) dX9_layText_6 ⟨Nat.zero_le _, Nat.zero_le _⟩) hP hD hS hFc [0, 1] [2, 3] rfl rfl (by decide) (by decide) (fun r1 u1 H locs hw hP hD hS => ?_)
  obtain ⟨rfl, rfl⟩ := hw
  have hP : va_P D vwCl (cJ_ dT (a_this 2) 353 g_this_now ++ (cI_ dT (a_this 10) 7 g_this_plan ++ (cM a_this o1.2 ++ (cI_ dT (a_this 1) 100 g_this_text)))) H := hP
  have hD : va_D A (cJ_ dT (a_this 2) 353 g_this_now ++ (cI_ dT (a_this 10) 7 g_this_plan ++ (cM a_this o1.2 ++ (cI_ dT (a_this 1) 100 g_this_text)))) := hD
  refine lv_iconst (v := -1) hx hb dX9_layText_9 (by decide) ?_
  refine lv_icmp_eq (tgt := 15) hx hb dX9_layText_10 (by decide) (fun c2 => ?_) (fun c2 => ?_)
  · replace h := iteT c2 h
    refine lv_iconst (v := 1) hx hb dX9_layText_15 (by decide) ?_
    refine lv_istore_n (lv' := [(1, .int (1 : Int32)), (0, .ref (a_this 0))]) hx hb dX9_layText_16 rfl hl (by decide) rfl (fun ls hl => ?_)
    refine lv_iconst (v := 0) hx hb dX9_layText_17 (by decide) ?_
    refine lv_istore_n (lv' := [(2, .int (0 : Int32)), (1, .int (1 : Int32)), (0, .ref (a_this 0))]) hx hb dX9_layText_18 rfl hl (by decide) rfl (fun ls hl => ?_)
    have hP := hP.sub (ws' := (cM a_this o1.2 ++ (cI_ dT (a_this 1) 100 g_this_text ++ (cJ_ dT (a_this 2) 353 g_this_now ++ (cI_ dT (a_this 10) 7 g_this_plan))))) [2, 3, 0, 1] rfl
    have hD := hD.sub (ws' := (cM a_this o1.2 ++ (cI_ dT (a_this 1) 100 g_this_text ++ (cJ_ dT (a_this 2) 353 g_this_now ++ (cI_ dT (a_this 10) 7 g_this_plan))))) [2, 3, 0, 1] (by decide) rfl
    refine L_f_X9_layText_L19 g_this_text g_this_now   FUEL (1 : Int32) (0 : Int32) o1.2 g_this_plan _ _ _ h hP hD hS (lv_sub hl [2, 1, 0] rfl)
  · replace h := iteF c2 h
    refine lv_iconst (v := 0) hx hb dX9_layText_13 (by decide) ?_
    have hP := hP.sub (ws' := (cM a_this o1.2 ++ (cI_ dT (a_this 1) 100 g_this_text ++ (cJ_ dT (a_this 2) 353 g_this_now ++ (cI_ dT (a_this 10) 7 g_this_plan))))) [2, 3, 0, 1] rfl
    have hD := hD.sub (ws' := (cM a_this o1.2 ++ (cI_ dT (a_this 1) 100 g_this_text ++ (cJ_ dT (a_this 2) 353 g_this_now ++ (cI_ dT (a_this 10) 7 g_this_plan))))) [2, 3, 0, 1] (by decide) rfl
    exact rt_z hx hb hr hlk hK hS ((o1.2, g_this_plan) : TM × (Nat → Int32)) (ret2 h) (by decide) hP hD dX9_layText_14

def f_X9_costOfText_J29 (g_this_text : Nat → Int32) (g_this_now : Nat → Int64)  (x1 : Int32) (s0 : Int32) (g_this : TM) (g_this_chosenBy : Nat → Int64) (g_this_paidBy : Nat → Int64) (g_this_plan : Nat → Int32) : Option (Int64 × (TM × (Nat → Int64) × (Nat → Int64) × (Nat → Int32))) :=
    ((f_X9_refused g_this s0).bind fun o5 => (if o5.1 = (0 : Int32) then ((f_X9_layRows 353 128 g_this_now g_this_chosenBy x1).bind fun o7 => ((f_X9_payFor 353 o5.2 o7.2 g_this_paidBy g_this_plan g_this_now x1).bind fun o8 => (some (o8.1, (o5.2, o7.2, o8.2, g_this_plan))))) else (some ((0 : Int64), (o5.2, g_this_chosenBy, g_this_paidBy, g_this_plan)))))
def f_X9_costOfText (g_this : TM) (g_this_text : Nat → Int32) (g_this_now : Nat → Int64) (g_this_chosenBy : Nat → Int64) (g_this_paidBy : Nat → Int64) (g_this_plan : Nat → Int32) (v1 : Int32) : Option (Int64 × (TM × (Nat → Int64) × (Nat → Int64) × (Nat → Int32))) :=
  ((f_X9_in (Int32.toInt64 v1) (0 : Int64) (2 : Int64)).bind fun o1 => (if o1.1 = (0 : Int32) then (f_X9_costOfText_J29 g_this_text g_this_now v1 (1 : Int32) g_this g_this_chosenBy g_this_paidBy g_this_plan) else ((f_X9_layText g_this g_this_text g_this_now g_this_plan).bind fun o3 => (if o3.1 = (0 : Int32) then (f_X9_costOfText_J29 g_this_text g_this_now v1 (2 : Int32) o3.2.1 g_this_chosenBy g_this_paidBy o3.2.2) else (f_X9_costOfText_J29 g_this_text g_this_now v1 (0 : Int32) o3.2.1 g_this_chosenBy g_this_paidBy o3.2.2)))))
set_option maxHeartbeats 8000000 in
set_option maxRecDepth 100000 in
theorem c_X9_costOfText (l : Launch) (hlt : l.stackTraces = false) (D : va_G) (dT : Nat → ClassId) (a_this : Nat → Nat) (g_this : TM) (g_this_text : Nat → Int32) (g_this_now : Nat → Int64) (g_this_chosenBy : Nat → Int64) (g_this_paidBy : Nat → Int64) (g_this_plan : Nat → Int32) (v1 : Int32) (o : (Int64 × (TM × (Nat → Int64) × (Nat → Int64) × (Nat → Int32)))) (h : f_X9_costOfText g_this g_this_text g_this_now g_this_chosenBy g_this_paidBy g_this_plan v1 = some o) (sz : Nat) : Met l yX9_costOfText (WSm yX9_costOfText cX9_costOfText 2 (some .long)) { frames := 5, cells := 0, slots := 0, locals := 120 } (va_Pc [.ref (a_this 0), .int v1] (cPre D dT (cM a_this g_this ++ (cI_ dT (a_this 1) 100 g_this_text ++ (cJ_ dT (a_this 2) 353 g_this_now ++ (cJ_ dT (a_this 7) 128 g_this_chosenBy ++ (cJ_ dT (a_this 8) 128 g_this_paidBy ++ (cI_ dT (a_this 10) 7 g_this_plan)))))) sz)) (va_Ql (fun (r : Int64) (u : TM × (Nat → Int64) × (Nat → Int64) × (Nat → Int32)) => r = o.1 ∧ u = o.2) (fun u t => cAt D dT (va_A (cM a_this g_this ++ (cI_ dT (a_this 1) 100 g_this_text ++ (cJ_ dT (a_this 2) 353 g_this_now ++ (cJ_ dT (a_this 7) 128 g_this_chosenBy ++ (cJ_ dT (a_this 8) 128 g_this_paidBy ++ (cI_ dT (a_this 10) 7 g_this_plan)))))) sz) (cM a_this (u.1) ++ (cI_ dT (a_this 1) 100 g_this_text ++ (cJ_ dT (a_this 2) 353 g_this_now ++ (cJ_ dT (a_this 7) 128 (u.2.1) ++ (cJ_ dT (a_this 8) 128 (u.2.2.1) ++ (cI_ dT (a_this 10) 7 (u.2.2.2))))))) t) (va_A (cM a_this g_this ++ (cI_ dT (a_this 1) 100 g_this_text ++ (cJ_ dT (a_this 2) 353 g_this_now ++ (cJ_ dT (a_this 7) 128 g_this_chosenBy ++ (cJ_ dT (a_this 8) 128 g_this_paidBy ++ (cI_ dT (a_this 10) 7 g_this_plan)))))) sz)) 0 0 (va_A (cM a_this g_this ++ (cI_ dT (a_this 1) 100 g_this_text ++ (cJ_ dT (a_this 2) 353 g_this_now ++ (cJ_ dT (a_this 7) 128 g_this_chosenBy ++ (cJ_ dT (a_this 8) 128 g_this_paidBy ++ (cI_ dT (a_this 10) 7 g_this_plan)))))) sz) := by
  refine mStart (WS := (cM a_this g_this ++ (cI_ dT (a_this 1) 100 g_this_text ++ (cJ_ dT (a_this 2) 353 g_this_now ++ (cJ_ dT (a_this 7) 128 g_this_chosenBy ++ (cJ_ dT (a_this 8) 128 g_this_paidBy ++ (cI_ dT (a_this 10) 7 g_this_plan))))))) (Qc := fun A => va_Ql (fun (r : Int64) (u : TM × (Nat → Int64) × (Nat → Int64) × (Nat → Int32)) => r = o.1 ∧ u = o.2) (fun u t => cAt D dT A (cM a_this (u.1) ++ (cI_ dT (a_this 1) 100 g_this_text ++ (cJ_ dT (a_this 2) 353 g_this_now ++ (cJ_ dT (a_this 7) 128 (u.2.1) ++ (cJ_ dT (a_this 8) 128 (u.2.2.1) ++ (cI_ dT (a_this 10) 7 (u.2.2.2))))))) t) A) RX9 rfl (by decide) (Nat.le_of_ble_eq_true rfl) ?_ sz
  intro p e s m below meth c A ls hx hb hml hr hlk hnm hts hqs hown hE hA hK hP hD hS hl
  have hl : lv_has ls 2 [(0, .ref (a_this 0)), (1, .int v1)] := hl
  have L_f_X9_costOfText_J29 : ∀ (g_this_text : Nat → Int32) (g_this_now : Nat → Int64) (x1 : Int32) (s0 : Int32) (g_this : TM) (g_this_chosenBy : Nat → Int64) (g_this_paidBy : Nat → Int64) (g_this_plan : Nat → Int32)   (H : Heap) (locs : List Loc) (ls : Array Slot), f_X9_costOfText_J29 g_this_text g_this_now  x1 s0 g_this g_this_chosenBy g_this_paidBy g_this_plan = some o → va_P D vwCl (cM a_this g_this ++ (cI_ dT (a_this 1) 100 g_this_text ++ (cJ_ dT (a_this 2) 353 g_this_now ++ (cJ_ dT (a_this 7) 128 g_this_chosenBy ++ (cJ_ dT (a_this 8) 128 g_this_paidBy ++ (cI_ dT (a_this 10) 7 g_this_plan)))))) H → va_D A (cM a_this g_this ++ (cI_ dT (a_this 1) 100 g_this_text ++ (cJ_ dT (a_this 2) 353 g_this_now ++ (cJ_ dT (a_this 7) 128 g_this_chosenBy ++ (cJ_ dT (a_this 8) 128 g_this_paidBy ++ (cI_ dT (a_this 10) 7 g_this_plan)))))) → va_S A s.heap H locs → lv_has ls 2 [(0, .ref (a_this 0)), (1, .int x1)] → W p l e (headSpec (WSm yX9_costOfText cX9_costOfText 2 (some .long)) { frames := 5, cells := 0, slots := 0, locals := 120 }).room s m [.ref (a_this 0), .int v1].toArray below meth c H locs 0 0 (MQ below (va_Ql (fun (r : Int64) (u : TM × (Nat → Int64) × (Nat → Int64) × (Nat → Int32)) => r = o.1 ∧ u = o.2) (fun u t => cAt D dT A (cM a_this (u.1) ++ (cI_ dT (a_this 1) 100 g_this_text ++ (cJ_ dT (a_this 2) 353 g_this_now ++ (cJ_ dT (a_this 7) 128 (u.2.1) ++ (cJ_ dT (a_this 8) 128 (u.2.2.1) ++ (cI_ dT (a_this 10) 7 (u.2.2.2))))))) t) A) [.ref (a_this 0), .int v1].toArray s 0 0 A) (F0 m 29 ls [.int s0, .ref (a_this 0)]) := by
    intro g_this_text g_this_now x1 s0 g_this g_this_chosenBy g_this_paidBy g_this_plan   H locs ls h hP hD hS hl
    unfold f_X9_costOfText_J29 at h
    obtain ⟨o5, e5, h⟩ := obind h
    have hPc := hP.sub (ws' := (cM a_this g_this)) [0] rfl
    have hDc := hD.sub (ws' := (cM a_this g_this)) [0] (by decide) rfl
    have hFc := va_free (wc := (cM a_this g_this)) hD hS hA [0] rfl
    refine cl_i (wr := (cI_ dT (a_this 1) 100 g_this_text ++ (cJ_ dT (a_this 2) 353 g_this_now ++ (cJ_ dT (a_this 7) 128 g_this_chosenBy ++ (cJ_ dT (a_this 8) 128 g_this_paidBy ++ (cI_ dT (a_this 10) 7 g_this_plan)))))) (va_runV (As := [.int s0]) (rest := []) ⟨hx, hb, hml, hown, hts⟩ (c_X9_refused l hlt D dT a_this g_this s0 o5 e5 _) (cwV 1 hts (TB_V w_1132 w_1134 w_32 w_59 w_1135) rfl rfl rfl ⟨rfl, nd_X9_refused⟩ ⟨Nat.le_of_ble_eq_true rfl, Nat.le_of_ble_eq_true rfl⟩) (cPre.V hPc hDc hK hE hS hFc (va_recv hK hP (ci := 8) (q0 := 0) rfl rfl)) rfl rfl hl.1 rfl (lv_room (Nat.le_of_ble_eq_true rfl)) dX9_costOfText_29 ⟨Nat.zero_le _, Nat.zero_le _⟩) hP hD hS hFc [0] [1, 2, 3, 4, 5] rfl rfl (by decide) (by decide) (fun r5 u5 H locs hw hP hD hS => ?_)
    obtain ⟨rfl, rfl⟩ := hw
    have hP : va_P D vwCl (cI_ dT (a_this 1) 100 g_this_text ++ (cJ_ dT (a_this 2) 353 g_this_now ++ (cJ_ dT (a_this 7) 128 g_this_chosenBy ++ (cJ_ dT (a_this 8) 128 g_this_paidBy ++ (cI_ dT (a_this 10) 7 g_this_plan ++ (cM a_this o5.2)))))) H := hP
    have hD : va_D A (cI_ dT (a_this 1) 100 g_this_text ++ (cJ_ dT (a_this 2) 353 g_this_now ++ (cJ_ dT (a_this 7) 128 g_this_chosenBy ++ (cJ_ dT (a_this 8) 128 g_this_paidBy ++ (cI_ dT (a_this 10) 7 g_this_plan ++ (cM a_this o5.2)))))) := hD
    refine lv_if_eq (tgt := 37) hx hb dX9_costOfText_32 (by decide) (fun c6 => ?_) (fun c6 => ?_)
    · replace h := iteT c6 h
      refine lv_aload_n hx hb dX9_costOfText_37 rfl (lv_at hl 0 rfl) ?_
      refine lv_aload_n hx hb dX9_costOfText_38 rfl (lv_at hl 0 rfl) ?_
      refine gf_X9_13 (v := .ref (a_this 2)) hx hb hqs hown hK hP 5 rfl rfl dX9_costOfText_39 ?_
      refine lv_aload_n hx hb dX9_costOfText_42 rfl (lv_at hl 0 rfl) ?_
      refine gf_X9_30 (v := .ref (a_this 7)) hx hb hqs hown hK hP 5 rfl rfl dX9_costOfText_43 ?_
      refine lv_iload_n hx hb dX9_costOfText_46 rfl (lv_at hl 1 rfl) ?_
      obtain ⟨o7, e7, h⟩ := obind h
      have hPc := hP.sub (ws' := (cJ_ dT (a_this 2) 353 g_this_now ++ (cJ_ dT (a_this 7) 128 g_this_chosenBy))) [1, 2] rfl
      have hDc := hD.sub (ws' := (cJ_ dT (a_this 2) 353 g_this_now ++ (cJ_ dT (a_this 7) 128 g_this_chosenBy))) [1, 2] (by decide) rfl
      have hFc := va_free (wc := (cJ_ dT (a_this 2) 353 g_this_now ++ (cJ_ dT (a_this 7) 128 g_this_chosenBy))) hD hS hA [1, 2] rfl
      refine cl_v (wr := (cI_ dT (a_this 1) 100 g_this_text ++ (cJ_ dT (a_this 8) 128 g_this_paidBy ++ (cI_ dT (a_this 10) 7 g_this_plan ++ (cM a_this o5.2))))) (va_runV (As := [.ref (a_this 2), .ref (a_this 7), .int x1]) (rest := []) ⟨hx, hb, hml, hown, hts⟩ (c_X9_layRows l hlt D dT a_this (a_this 2) (a_this 7) 353 128 g_this_now g_this_chosenBy x1 o7 e7 _) (cwV 3 hts (TB_V w_1281 w_1283 w_43 w_59 w_1284) rfl rfl rfl ⟨rfl, nd_X9_layRows⟩ ⟨Nat.le_of_ble_eq_true rfl, Nat.le_of_ble_eq_true rfl⟩) (cPre.V hPc hDc hK hE hS hFc (va_recv hK hP (ci := 8) (q0 := 5) rfl rfl)) rfl rfl hl.1 rfl (lv_room (Nat.le_of_ble_eq_true rfl)) dX9_costOfText_47 ⟨Nat.zero_le _, Nat.zero_le _⟩) hP hD hS hFc [1, 2] [0, 3, 4, 5] rfl rfl (by decide) (by decide) (fun u7 H locs hw hP hD hS => ?_)
      subst hw
      have hP : va_P D vwCl (cI_ dT (a_this 1) 100 g_this_text ++ (cJ_ dT (a_this 8) 128 g_this_paidBy ++ (cI_ dT (a_this 10) 7 g_this_plan ++ (cM a_this o5.2 ++ (cJ_ dT (a_this 2) 353 g_this_now ++ (cJ_ dT (a_this 7) 128 o7.2)))))) H := hP
      have hD : va_D A (cI_ dT (a_this 1) 100 g_this_text ++ (cJ_ dT (a_this 8) 128 g_this_paidBy ++ (cI_ dT (a_this 10) 7 g_this_plan ++ (cM a_this o5.2 ++ (cJ_ dT (a_this 2) 353 g_this_now ++ (cJ_ dT (a_this 7) 128 o7.2)))))) := hD
      refine lv_aload_n hx hb dX9_costOfText_50 rfl (lv_at hl 0 rfl) ?_
      refine lv_aload_n hx hb dX9_costOfText_51 rfl (lv_at hl 0 rfl) ?_
      refine gf_X9_13 (v := .ref (a_this 2)) hx hb hqs hown hK hP 3 rfl rfl dX9_costOfText_52 ?_
      refine lv_iload_n hx hb dX9_costOfText_55 rfl (lv_at hl 1 rfl) ?_
      obtain ⟨o8, e8, h⟩ := obind h
      have hPc := hP.sub (ws' := (cM a_this o5.2 ++ (cJ_ dT (a_this 7) 128 o7.2 ++ (cJ_ dT (a_this 8) 128 g_this_paidBy ++ (cI_ dT (a_this 10) 7 g_this_plan ++ (cJ_ dT (a_this 2) 353 g_this_now)))))) [3, 5, 1, 2, 4] rfl
      have hDc := hD.sub (ws' := (cM a_this o5.2 ++ (cJ_ dT (a_this 7) 128 o7.2 ++ (cJ_ dT (a_this 8) 128 g_this_paidBy ++ (cI_ dT (a_this 10) 7 g_this_plan ++ (cJ_ dT (a_this 2) 353 g_this_now)))))) [3, 5, 1, 2, 4] (by decide) rfl
      have hFc := va_free (wc := (cM a_this o5.2 ++ (cJ_ dT (a_this 7) 128 o7.2 ++ (cJ_ dT (a_this 8) 128 g_this_paidBy ++ (cI_ dT (a_this 10) 7 g_this_plan ++ (cJ_ dT (a_this 2) 353 g_this_now)))))) hD hS hA [3, 5, 1, 2, 4] rfl
      refine cl_l (wr := (cI_ dT (a_this 1) 100 g_this_text)) (va_runV (As := [.ref (a_this 2), .int x1]) (rest := []) ⟨hx, hb, hml, hown, hts⟩ (c_X9_payFor l hlt D dT a_this (a_this 2) 353 o5.2 o7.2 g_this_paidBy g_this_plan g_this_now x1 o8 e8 _) (cwV 2 hts (TB_V w_1303 w_1305 w_44 w_59 w_1306) rfl rfl rfl ⟨rfl, nd_X9_payFor⟩ ⟨Nat.le_of_ble_eq_true rfl, Nat.le_of_ble_eq_true rfl⟩) (cPre.V hPc hDc hK hE hS hFc (va_recv hK hP (ci := 8) (q0 := 3) rfl rfl)) rfl rfl hl.1 rfl (lv_room (Nat.le_of_ble_eq_true rfl)) dX9_costOfText_56 ⟨Nat.zero_le _, Nat.zero_le _⟩) hP hD hS hFc [3, 5, 1, 2, 4] [0] rfl rfl (by decide) (by decide) (fun r8 u8 H locs hw hP hD hS => ?_)
      obtain ⟨rfl, rfl⟩ := hw
      have hP : va_P D vwCl (cI_ dT (a_this 1) 100 g_this_text ++ (cM a_this o5.2 ++ (cJ_ dT (a_this 7) 128 o7.2 ++ (cJ_ dT (a_this 8) 128 o8.2 ++ (cI_ dT (a_this 10) 7 g_this_plan ++ (cJ_ dT (a_this 2) 353 g_this_now)))))) H := hP
      have hD : va_D A (cI_ dT (a_this 1) 100 g_this_text ++ (cM a_this o5.2 ++ (cJ_ dT (a_this 7) 128 o7.2 ++ (cJ_ dT (a_this 8) 128 o8.2 ++ (cI_ dT (a_this 10) 7 g_this_plan ++ (cJ_ dT (a_this 2) 353 g_this_now)))))) := hD
      have hP := hP.sub (ws' := (cM a_this o5.2 ++ (cI_ dT (a_this 1) 100 g_this_text ++ (cJ_ dT (a_this 2) 353 g_this_now ++ (cJ_ dT (a_this 7) 128 o7.2 ++ (cJ_ dT (a_this 8) 128 o8.2 ++ (cI_ dT (a_this 10) 7 g_this_plan))))))) [1, 0, 5, 2, 3, 4] rfl
      have hD := hD.sub (ws' := (cM a_this o5.2 ++ (cI_ dT (a_this 1) 100 g_this_text ++ (cJ_ dT (a_this 2) 353 g_this_now ++ (cJ_ dT (a_this 7) 128 o7.2 ++ (cJ_ dT (a_this 8) 128 o8.2 ++ (cI_ dT (a_this 10) 7 g_this_plan))))))) [1, 0, 5, 2, 3, 4] (by decide) rfl
      exact rt_l hx hb hr hlk hK hS ((o5.2, o7.2, o8.2, g_this_plan) : TM × (Nat → Int64) × (Nat → Int64) × (Nat → Int32)) (ret2 h) hP hD dX9_costOfText_59
    · replace h := iteF c6 h
      refine lv_lconst (v := 0) hx hb dX9_costOfText_35 (by decide) ?_
      have hP := hP.sub (ws' := (cM a_this o5.2 ++ (cI_ dT (a_this 1) 100 g_this_text ++ (cJ_ dT (a_this 2) 353 g_this_now ++ (cJ_ dT (a_this 7) 128 g_this_chosenBy ++ (cJ_ dT (a_this 8) 128 g_this_paidBy ++ (cI_ dT (a_this 10) 7 g_this_plan))))))) [5, 0, 1, 2, 3, 4] rfl
      have hD := hD.sub (ws' := (cM a_this o5.2 ++ (cI_ dT (a_this 1) 100 g_this_text ++ (cJ_ dT (a_this 2) 353 g_this_now ++ (cJ_ dT (a_this 7) 128 g_this_chosenBy ++ (cJ_ dT (a_this 8) 128 g_this_paidBy ++ (cI_ dT (a_this 10) 7 g_this_plan))))))) [5, 0, 1, 2, 3, 4] (by decide) rfl
      exact rt_l hx hb hr hlk hK hS ((o5.2, g_this_chosenBy, g_this_paidBy, g_this_plan) : TM × (Nat → Int64) × (Nat → Int64) × (Nat → Int32)) (ret2 h) hP hD dX9_costOfText_36
  unfold f_X9_costOfText at h
  refine lv_aload_n hx hb dX9_costOfText_0 rfl (lv_at hl 0 rfl) ?_
  refine lv_iload_n hx hb dX9_costOfText_1 rfl (lv_at hl 1 rfl) ?_
  refine lv_i2l hx hb dX9_costOfText_2 rfl ?_
  refine lv_lconst (v := 0) hx hb dX9_costOfText_3 (by decide) ?_
  refine lv_ldc2 (v := 2) hx hb hown (hqs _ w_1227) dX9_costOfText_4 ?_
  obtain ⟨o1, e1, h⟩ := obind h
  have hPc := hP.sub (ws' := ([] : va_W)) [] rfl
  have hDc := hD.sub (ws' := ([] : va_W)) [] (by decide) rfl
  have hFc := va_free (wc := ([] : va_W)) hD hS hA [] rfl
  refine cl_i (wr := (cM a_this g_this ++ (cI_ dT (a_this 1) 100 g_this_text ++ (cJ_ dT (a_this 2) 353 g_this_now ++ (cJ_ dT (a_this 7) 128 g_this_chosenBy ++ (cJ_ dT (a_this 8) 128 g_this_paidBy ++ (cI_ dT (a_this 10) 7 g_this_plan))))))) (va_runS (As := [.long (Int32.toInt64 v1), .long (0 : Int64), .long (2 : Int64)]) (rest := [.ref (a_this 0)]) ⟨hx, hb, hml, hown, hts⟩ (c_X9_in l hlt D dT (Int32.toInt64 v1) (0 : Int64) (2 : Int64) o1 e1 _) (va_cwS 3 hts (TB_S w_1129 w_1130 w_59 w_1131) rfl rfl rfl nd_X9_in ⟨Nat.le_of_ble_eq_true rfl, Nat.le_of_ble_eq_true rfl⟩) (cPre.S hPc hDc hK hE hS hFc) rfl rfl hl.1 rfl (lv_room (Nat.le_of_ble_eq_true rfl)) dX9_costOfText_7 ⟨Nat.zero_le _, Nat.zero_le _⟩) hP hD hS hFc [] [0, 1, 2, 3, 4, 5] rfl rfl (by decide) (by decide) (fun r1 u1 H locs hw hP hD hS => ?_)
  obtain ⟨rfl, rfl⟩ := hw
  have hP : va_P D vwCl (cM a_this g_this ++ (cI_ dT (a_this 1) 100 g_this_text ++ (cJ_ dT (a_this 2) 353 g_this_now ++ (cJ_ dT (a_this 7) 128 g_this_chosenBy ++ (cJ_ dT (a_this 8) 128 g_this_paidBy ++ (cI_ dT (a_this 10) 7 g_this_plan)))))) H := hP
  have hD : va_D A (cM a_this g_this ++ (cI_ dT (a_this 1) 100 g_this_text ++ (cJ_ dT (a_this 2) 353 g_this_now ++ (cJ_ dT (a_this 7) 128 g_this_chosenBy ++ (cJ_ dT (a_this 8) 128 g_this_paidBy ++ (cI_ dT (a_this 10) 7 g_this_plan)))))) := hD
  refine lv_if_ne (tgt := 17) hx hb dX9_costOfText_10 (by decide) (fun c2 => ?_) (fun c2 => ?_)
  · replace h := iteF c2 h
    refine lv_aload_n hx hb dX9_costOfText_17 rfl (lv_at hl 0 rfl) ?_
    obtain ⟨o3, e3, h⟩ := obind h
    have hPc := hP.sub (ws' := (cM a_this g_this ++ (cI_ dT (a_this 1) 100 g_this_text ++ (cJ_ dT (a_this 2) 353 g_this_now ++ (cI_ dT (a_this 10) 7 g_this_plan))))) [0, 1, 2, 5] rfl
    have hDc := hD.sub (ws' := (cM a_this g_this ++ (cI_ dT (a_this 1) 100 g_this_text ++ (cJ_ dT (a_this 2) 353 g_this_now ++ (cI_ dT (a_this 10) 7 g_this_plan))))) [0, 1, 2, 5] (by decide) rfl
    have hFc := va_free (wc := (cM a_this g_this ++ (cI_ dT (a_this 1) 100 g_this_text ++ (cJ_ dT (a_this 2) 353 g_this_now ++ (cI_ dT (a_this 10) 7 g_this_plan))))) hD hS hA [0, 1, 2, 5] rfl
    refine cl_i (wr := (cJ_ dT (a_this 7) 128 g_this_chosenBy ++ (cJ_ dT (a_this 8) 128 g_this_paidBy))) (va_runV (As := []) (rest := [.ref (a_this 0)]) ⟨hx, hb, hml, hown, hts⟩ (c_X9_layText l hlt D dT a_this g_this g_this_text g_this_now g_this_plan o3 e3 _) (cwV 0 hts (TB_V w_1349 w_1351 w_45 w_59 w_1352) rfl rfl rfl ⟨rfl, nd_X9_layText⟩ ⟨Nat.le_of_ble_eq_true rfl, Nat.le_of_ble_eq_true rfl⟩) (cPre.V hPc hDc hK hE hS hFc (va_recv hK hP (ci := 8) (q0 := 0) rfl rfl)) rfl rfl hl.1 rfl (lv_room (Nat.le_of_ble_eq_true rfl)) dX9_costOfText_18 ⟨Nat.zero_le _, Nat.zero_le _⟩) hP hD hS hFc [0, 1, 2, 5] [3, 4] rfl rfl (by decide) (by decide) (fun r3 u3 H locs hw hP hD hS => ?_)
    obtain ⟨rfl, rfl⟩ := hw
    have hP : va_P D vwCl (cJ_ dT (a_this 7) 128 g_this_chosenBy ++ (cJ_ dT (a_this 8) 128 g_this_paidBy ++ (cM a_this o3.2.1 ++ (cI_ dT (a_this 1) 100 g_this_text ++ (cJ_ dT (a_this 2) 353 g_this_now ++ (cI_ dT (a_this 10) 7 o3.2.2)))))) H := hP
    have hD : va_D A (cJ_ dT (a_this 7) 128 g_this_chosenBy ++ (cJ_ dT (a_this 8) 128 g_this_paidBy ++ (cM a_this o3.2.1 ++ (cI_ dT (a_this 1) 100 g_this_text ++ (cJ_ dT (a_this 2) 353 g_this_now ++ (cI_ dT (a_this 10) 7 o3.2.2)))))) := hD
    refine lv_if_eq (tgt := 28) hx hb dX9_costOfText_21 (by decide) (fun c4 => ?_) (fun c4 => ?_)
    · replace h := iteT c4 h
      refine lv_iconst (v := 2) hx hb dX9_costOfText_28 (by decide) ?_
      have hP := hP.sub (ws' := (cM a_this o3.2.1 ++ (cI_ dT (a_this 1) 100 g_this_text ++ (cJ_ dT (a_this 2) 353 g_this_now ++ (cJ_ dT (a_this 7) 128 g_this_chosenBy ++ (cJ_ dT (a_this 8) 128 g_this_paidBy ++ (cI_ dT (a_this 10) 7 o3.2.2))))))) [2, 3, 4, 0, 1, 5] rfl
      have hD := hD.sub (ws' := (cM a_this o3.2.1 ++ (cI_ dT (a_this 1) 100 g_this_text ++ (cJ_ dT (a_this 2) 353 g_this_now ++ (cJ_ dT (a_this 7) 128 g_this_chosenBy ++ (cJ_ dT (a_this 8) 128 g_this_paidBy ++ (cI_ dT (a_this 10) 7 o3.2.2))))))) [2, 3, 4, 0, 1, 5] (by decide) rfl
      refine L_f_X9_costOfText_J29 g_this_text g_this_now v1 (2 : Int32) o3.2.1 g_this_chosenBy g_this_paidBy o3.2.2   _ _ _ h hP hD hS (lv_sub hl [0, 1] rfl)
    · replace h := iteF c4 h
      refine lv_iconst (v := 0) hx hb dX9_costOfText_24 (by decide) ?_
      refine lv_goto (tgt := 29) hx hb dX9_costOfText_25 (by decide) ?_
      have hP := hP.sub (ws' := (cM a_this o3.2.1 ++ (cI_ dT (a_this 1) 100 g_this_text ++ (cJ_ dT (a_this 2) 353 g_this_now ++ (cJ_ dT (a_this 7) 128 g_this_chosenBy ++ (cJ_ dT (a_this 8) 128 g_this_paidBy ++ (cI_ dT (a_this 10) 7 o3.2.2))))))) [2, 3, 4, 0, 1, 5] rfl
      have hD := hD.sub (ws' := (cM a_this o3.2.1 ++ (cI_ dT (a_this 1) 100 g_this_text ++ (cJ_ dT (a_this 2) 353 g_this_now ++ (cJ_ dT (a_this 7) 128 g_this_chosenBy ++ (cJ_ dT (a_this 8) 128 g_this_paidBy ++ (cI_ dT (a_this 10) 7 o3.2.2))))))) [2, 3, 4, 0, 1, 5] (by decide) rfl
      refine L_f_X9_costOfText_J29 g_this_text g_this_now v1 (0 : Int32) o3.2.1 g_this_chosenBy g_this_paidBy o3.2.2   _ _ _ h hP hD hS (lv_sub hl [0, 1] rfl)
  · replace h := iteT c2 h
    refine lv_iconst (v := 1) hx hb dX9_costOfText_13 (by decide) ?_
    refine lv_goto (tgt := 29) hx hb dX9_costOfText_14 (by decide) ?_
    refine L_f_X9_costOfText_J29 g_this_text g_this_now v1 (1 : Int32) g_this g_this_chosenBy g_this_paidBy g_this_plan   _ _ _ h hP hD hS (lv_sub hl [0, 1] rfl)

def f_X9_matters_L85 (g_this : TM) (g_this_now : Nat → Int64) (g_this_trial : Nat → Int64) (g_this_chosenBy : Nat → Int64) (g_this_toPay : Nat → Int64) (g_this_plan : Nat → Int32) (x3 : Int32) (x4 : Int32) (k114 : (Nat → Int32) → Option (Int32 × (TM × (Nat → Int64) × (Nat → Int64) × (Nat → Int64) × (Nat → Int32) × (Nat → Int32)))) : Nat → Int32 → (Nat → Int32) → Option (Int32 × (TM × (Nat → Int64) × (Nat → Int64) × (Nat → Int64) × (Nat → Int32) × (Nat → Int32)))
  | 0, _, _ => none
  | n + 1, x5, g_this_other =>
    (if (M_planned g_this) ≤ x5 then (k114 g_this_other) else (if inb x5 7 = true then (if inb x5 7 = true then (f_X9_matters_L85 g_this g_this_now g_this_trial g_this_chosenBy g_this_toPay g_this_plan x3 x4 k114 n (x5 + (1 : Int32)) (upd g_this_other x5.toNatClampNeg (g_this_plan x5.toNatClampNeg))) else none) else none))
def f_X9_matters_L156 (g_this : TM) (g_this_now : Nat → Int64) (g_this_trial : Nat → Int64) (g_this_chosenBy : Nat → Int64) (g_this_toPay : Nat → Int64) (g_this_plan : Nat → Int32) (g_this_other : Nat → Int32) (k200 : Int32 → Option (Int32 × (TM × (Nat → Int64) × (Nat → Int64) × (Nat → Int64) × (Nat → Int32) × (Nat → Int32)))) : Nat → Int32 → Int32 → Option (Int32 × (TM × (Nat → Int64) × (Nat → Int64) × (Nat → Int64) × (Nat → Int32) × (Nat → Int32)))
  | 0, _, _ => none
  | n + 1, x5, x6 =>
    (if (M_planned g_this) ≤ x6 then (k200 x5) else (if x5 = (0 : Int32) then (f_X9_matters_L156 g_this g_this_now g_this_trial g_this_chosenBy g_this_toPay g_this_plan g_this_other k200 n (0 : Int32) (x6 + (1 : Int32))) else (if inb x6 7 = true then (if inb x6 7 = true then (if (g_this_other x6.toNatClampNeg) = (g_this_plan x6.toNatClampNeg) then (f_X9_matters_L156 g_this g_this_now g_this_trial g_this_chosenBy g_this_toPay g_this_plan g_this_other k200 n (1 : Int32) (x6 + (1 : Int32))) else (f_X9_matters_L156 g_this g_this_now g_this_trial g_this_chosenBy g_this_toPay g_this_plan g_this_other k200 n (0 : Int32) (x6 + (1 : Int32)))) else none) else none)))
def f_X9_matters_J38 (g_this_now : Nat → Int64)  (x1 : Int32) (x2 : Int32) (x3 : Int32) (s0 : Int32) (g_this : TM) (g_this_trial : Nat → Int64) (g_this_chosenBy : Nat → Int64) (g_this_toPay : Nat → Int64) (g_this_plan : Nat → Int32) (g_this_other : Nat → Int32) : Option (Int32 × (TM × (Nat → Int64) × (Nat → Int64) × (Nat → Int64) × (Nat → Int32) × (Nat → Int32))) :=
    ((f_X9_refused g_this s0).bind fun o3 => (if o3.1 = (0 : Int32) then ((f_X9_pairOf x1 x2).bind fun o5 => (if inb ((155 : Int32) + o5.1) 353 = true then (if (lg_cmp (g_this_now ((155 : Int32) + o5.1).toNatClampNeg) (0 : Int64)) = (0 : Int32) then (some ((0 : Int32), (o3.2, g_this_trial, g_this_chosenBy, g_this_toPay, g_this_plan, g_this_other))) else ((f_X9_choose 353 o3.2 g_this_chosenBy g_this_toPay g_this_plan g_this_now x3 (1 : Int32)).bind fun o8 => (f_X9_matters_L85 o8.2.1 g_this_now g_this_trial o8.2.2.1 o8.2.2.2.1 o8.2.2.2.2 x3 o5.1 (fun (y12g_this_other : Nat → Int32) => ((f_X9_copyWorld 353 353 g_this_now g_this_trial (0 : Int32) (0 : Int32)).bind fun o13 => (if inb ((155 : Int32) + o5.1) 353 = true then ((f_X9_choose 353 o8.2.1 o8.2.2.1 o8.2.2.2.1 o8.2.2.2.2 (vp_updL o13.2 ((155 : Int32) + o5.1).toNatClampNeg (0 : Int64)) x3 (1 : Int32)).bind fun o15 => (f_X9_matters_L156 o15.2.1 g_this_now (vp_updL o13.2 ((155 : Int32) + o5.1).toNatClampNeg (0 : Int64)) o15.2.2.1 o15.2.2.2.1 o15.2.2.2.2 y12g_this_other (fun (y21x5 : Int32) => (if y21x5 = (0 : Int32) then (some ((1 : Int32), (o15.2.1, (vp_updL o13.2 ((155 : Int32) + o5.1).toNatClampNeg (0 : Int64)), o15.2.2.1, o15.2.2.2.1, o15.2.2.2.2, y12g_this_other))) else (some ((0 : Int32), (o15.2.1, (vp_updL o13.2 ((155 : Int32) + o5.1).toNatClampNeg (0 : Int64)), o15.2.2.1, o15.2.2.2.1, o15.2.2.2.2, y12g_this_other))))) FUEL (1 : Int32) (0 : Int32))) else none))) FUEL (0 : Int32) g_this_other))) else none)) else (some ((0 : Int32), (o3.2, g_this_trial, g_this_chosenBy, g_this_toPay, g_this_plan, g_this_other)))))
def f_X9_matters_J24 (g_this_now : Nat → Int64)  (x1 : Int32) (x2 : Int32) (x3 : Int32) (g_this : TM) (g_this_trial : Nat → Int64) (g_this_chosenBy : Nat → Int64) (g_this_toPay : Nat → Int64) (g_this_plan : Nat → Int32) (g_this_other : Nat → Int32) : Option (Int32 × (TM × (Nat → Int64) × (Nat → Int64) × (Nat → Int64) × (Nat → Int32) × (Nat → Int32))) :=
    (f_X9_matters_J38 g_this_now x1 x2 x3 (1 : Int32) g_this g_this_trial g_this_chosenBy g_this_toPay g_this_plan g_this_other)
def f_X9_matters (g_this : TM) (g_this_now : Nat → Int64) (g_this_trial : Nat → Int64) (g_this_chosenBy : Nat → Int64) (g_this_toPay : Nat → Int64) (g_this_plan : Nat → Int32) (g_this_other : Nat → Int32) (v1 : Int32) (v2 : Int32) (v3 : Int32) : Option (Int32 × (TM × (Nat → Int64) × (Nat → Int64) × (Nat → Int64) × (Nat → Int32) × (Nat → Int32))) :=
  ((f_X9_arePair 353 g_this_now v1 v2).bind fun o1 => (if o1.1 = (0 : Int32) then (f_X9_matters_J24 g_this_now v1 v2 v3 g_this g_this_trial g_this_chosenBy g_this_toPay g_this_plan g_this_other) else ((f_X9_isSet 353 g_this_now v3).bind fun o23 => (if o23.1 = (0 : Int32) then (f_X9_matters_J24 g_this_now v1 v2 v3 g_this g_this_trial g_this_chosenBy g_this_toPay g_this_plan g_this_other) else (if v1 = v2 then (f_X9_matters_J38 g_this_now v1 v2 v3 (2 : Int32) g_this g_this_trial g_this_chosenBy g_this_toPay g_this_plan g_this_other) else (f_X9_matters_J38 g_this_now v1 v2 v3 (0 : Int32) g_this g_this_trial g_this_chosenBy g_this_toPay g_this_plan g_this_other))))))
set_option maxHeartbeats 8000000 in
set_option maxRecDepth 100000 in
theorem c_X9_matters (l : Launch) (hlt : l.stackTraces = false) (D : va_G) (dT : Nat → ClassId) (a_this : Nat → Nat) (g_this : TM) (g_this_now : Nat → Int64) (g_this_trial : Nat → Int64) (g_this_chosenBy : Nat → Int64) (g_this_toPay : Nat → Int64) (g_this_plan : Nat → Int32) (g_this_other : Nat → Int32) (v1 : Int32) (v2 : Int32) (v3 : Int32) (o : (Int32 × (TM × (Nat → Int64) × (Nat → Int64) × (Nat → Int64) × (Nat → Int32) × (Nat → Int32)))) (h : f_X9_matters g_this g_this_now g_this_trial g_this_chosenBy g_this_toPay g_this_plan g_this_other v1 v2 v3 = some o) (sz : Nat) : Met l yX9_matters (WSm yX9_matters cX9_matters 7 (some .int)) { frames := 5, cells := 0, slots := 0, locals := 121 } (va_Pc [.ref (a_this 0), .int v1, .int v2, .int v3] (cPre D dT (cM a_this g_this ++ (cJ_ dT (a_this 2) 353 g_this_now ++ (cJ_ dT (a_this 3) 353 g_this_trial ++ (cJ_ dT (a_this 7) 128 g_this_chosenBy ++ (cJ_ dT (a_this 9) 128 g_this_toPay ++ (cI_ dT (a_this 10) 7 g_this_plan ++ (cI_ dT (a_this 11) 7 g_this_other))))))) sz)) (va_Qi (fun (r : Int32) (u : TM × (Nat → Int64) × (Nat → Int64) × (Nat → Int64) × (Nat → Int32) × (Nat → Int32)) => r = o.1 ∧ u = o.2) (fun u t => cAt D dT (va_A (cM a_this g_this ++ (cJ_ dT (a_this 2) 353 g_this_now ++ (cJ_ dT (a_this 3) 353 g_this_trial ++ (cJ_ dT (a_this 7) 128 g_this_chosenBy ++ (cJ_ dT (a_this 9) 128 g_this_toPay ++ (cI_ dT (a_this 10) 7 g_this_plan ++ (cI_ dT (a_this 11) 7 g_this_other))))))) sz) (cM a_this (u.1) ++ (cJ_ dT (a_this 2) 353 g_this_now ++ (cJ_ dT (a_this 3) 353 (u.2.1) ++ (cJ_ dT (a_this 7) 128 (u.2.2.1) ++ (cJ_ dT (a_this 9) 128 (u.2.2.2.1) ++ (cI_ dT (a_this 10) 7 (u.2.2.2.2.1) ++ (cI_ dT (a_this 11) 7 (u.2.2.2.2.2)))))))) t) (va_A (cM a_this g_this ++ (cJ_ dT (a_this 2) 353 g_this_now ++ (cJ_ dT (a_this 3) 353 g_this_trial ++ (cJ_ dT (a_this 7) 128 g_this_chosenBy ++ (cJ_ dT (a_this 9) 128 g_this_toPay ++ (cI_ dT (a_this 10) 7 g_this_plan ++ (cI_ dT (a_this 11) 7 g_this_other))))))) sz)) 0 0 (va_A (cM a_this g_this ++ (cJ_ dT (a_this 2) 353 g_this_now ++ (cJ_ dT (a_this 3) 353 g_this_trial ++ (cJ_ dT (a_this 7) 128 g_this_chosenBy ++ (cJ_ dT (a_this 9) 128 g_this_toPay ++ (cI_ dT (a_this 10) 7 g_this_plan ++ (cI_ dT (a_this 11) 7 g_this_other))))))) sz) := by
  refine mStart (WS := (cM a_this g_this ++ (cJ_ dT (a_this 2) 353 g_this_now ++ (cJ_ dT (a_this 3) 353 g_this_trial ++ (cJ_ dT (a_this 7) 128 g_this_chosenBy ++ (cJ_ dT (a_this 9) 128 g_this_toPay ++ (cI_ dT (a_this 10) 7 g_this_plan ++ (cI_ dT (a_this 11) 7 g_this_other)))))))) (Qc := fun A => va_Qi (fun (r : Int32) (u : TM × (Nat → Int64) × (Nat → Int64) × (Nat → Int64) × (Nat → Int32) × (Nat → Int32)) => r = o.1 ∧ u = o.2) (fun u t => cAt D dT A (cM a_this (u.1) ++ (cJ_ dT (a_this 2) 353 g_this_now ++ (cJ_ dT (a_this 3) 353 (u.2.1) ++ (cJ_ dT (a_this 7) 128 (u.2.2.1) ++ (cJ_ dT (a_this 9) 128 (u.2.2.2.1) ++ (cI_ dT (a_this 10) 7 (u.2.2.2.2.1) ++ (cI_ dT (a_this 11) 7 (u.2.2.2.2.2)))))))) t) A) RX9 rfl (by decide) (Nat.le_of_ble_eq_true rfl) ?_ sz
  intro p e s m below meth c A ls hx hb hml hr hlk hnm hts hqs hown hE hA hK hP hD hS hl
  have hl : lv_has ls 7 [(0, .ref (a_this 0)), (1, .int v1), (2, .int v2), (3, .int v3)] := hl
  have L_f_X9_matters_L85 : ∀ (g_this : TM) (g_this_now : Nat → Int64) (g_this_trial : Nat → Int64) (g_this_chosenBy : Nat → Int64) (g_this_toPay : Nat → Int64) (g_this_plan : Nat → Int32) (x3 : Int32) (x4 : Int32) (k114 : (Nat → Int32) → Option (Int32 × (TM × (Nat → Int64) × (Nat → Int64) × (Nat → Int64) × (Nat → Int32) × (Nat → Int32)))) (hk114 : ∀ (g_this_other : Nat → Int32) (H : Heap) (locs : List Loc) (ls : Array Slot), k114 g_this_other = some o → va_P D vwCl (cM a_this g_this ++ (cJ_ dT (a_this 2) 353 g_this_now ++ (cJ_ dT (a_this 3) 353 g_this_trial ++ (cJ_ dT (a_this 7) 128 g_this_chosenBy ++ (cJ_ dT (a_this 9) 128 g_this_toPay ++ (cI_ dT (a_this 10) 7 g_this_plan ++ (cI_ dT (a_this 11) 7 g_this_other))))))) H → va_D A (cM a_this g_this ++ (cJ_ dT (a_this 2) 353 g_this_now ++ (cJ_ dT (a_this 3) 353 g_this_trial ++ (cJ_ dT (a_this 7) 128 g_this_chosenBy ++ (cJ_ dT (a_this 9) 128 g_this_toPay ++ (cI_ dT (a_this 10) 7 g_this_plan ++ (cI_ dT (a_this 11) 7 g_this_other))))))) → va_S A s.heap H locs → lv_has ls 7 [(0, .ref (a_this 0)), (3, .int x3), (4, .int x4)] → W p l e (headSpec (WSm yX9_matters cX9_matters 7 (some .int)) { frames := 5, cells := 0, slots := 0, locals := 121 }).room s m [.ref (a_this 0), .int v1, .int v2, .int v3].toArray below meth c H locs 0 0 (MQ below (va_Qi (fun (r : Int32) (u : TM × (Nat → Int64) × (Nat → Int64) × (Nat → Int64) × (Nat → Int32) × (Nat → Int32)) => r = o.1 ∧ u = o.2) (fun u t => cAt D dT A (cM a_this (u.1) ++ (cJ_ dT (a_this 2) 353 g_this_now ++ (cJ_ dT (a_this 3) 353 (u.2.1) ++ (cJ_ dT (a_this 7) 128 (u.2.2.1) ++ (cJ_ dT (a_this 9) 128 (u.2.2.2.1) ++ (cI_ dT (a_this 10) 7 (u.2.2.2.2.1) ++ (cI_ dT (a_this 11) 7 (u.2.2.2.2.2)))))))) t) A) [.ref (a_this 0), .int v1, .int v2, .int v3].toArray s 0 0 A) (F0 m 114 ls [])) (n : Nat), ∀ (x5 : Int32) (g_this_other : Nat → Int32) (H : Heap) (locs : List Loc) (ls : Array Slot), f_X9_matters_L85 g_this g_this_now g_this_trial g_this_chosenBy g_this_toPay g_this_plan x3 x4 k114 n x5 g_this_other = some o → va_P D vwCl (cM a_this g_this ++ (cJ_ dT (a_this 2) 353 g_this_now ++ (cJ_ dT (a_this 3) 353 g_this_trial ++ (cJ_ dT (a_this 7) 128 g_this_chosenBy ++ (cJ_ dT (a_this 9) 128 g_this_toPay ++ (cI_ dT (a_this 10) 7 g_this_plan ++ (cI_ dT (a_this 11) 7 g_this_other))))))) H → va_D A (cM a_this g_this ++ (cJ_ dT (a_this 2) 353 g_this_now ++ (cJ_ dT (a_this 3) 353 g_this_trial ++ (cJ_ dT (a_this 7) 128 g_this_chosenBy ++ (cJ_ dT (a_this 9) 128 g_this_toPay ++ (cI_ dT (a_this 10) 7 g_this_plan ++ (cI_ dT (a_this 11) 7 g_this_other))))))) → va_S A s.heap H locs → lv_has ls 7 [(0, .ref (a_this 0)), (3, .int x3), (4, .int x4), (5, .int x5)] → W p l e (headSpec (WSm yX9_matters cX9_matters 7 (some .int)) { frames := 5, cells := 0, slots := 0, locals := 121 }).room s m [.ref (a_this 0), .int v1, .int v2, .int v3].toArray below meth c H locs 0 0 (MQ below (va_Qi (fun (r : Int32) (u : TM × (Nat → Int64) × (Nat → Int64) × (Nat → Int64) × (Nat → Int32) × (Nat → Int32)) => r = o.1 ∧ u = o.2) (fun u t => cAt D dT A (cM a_this (u.1) ++ (cJ_ dT (a_this 2) 353 g_this_now ++ (cJ_ dT (a_this 3) 353 (u.2.1) ++ (cJ_ dT (a_this 7) 128 (u.2.2.1) ++ (cJ_ dT (a_this 9) 128 (u.2.2.2.1) ++ (cI_ dT (a_this 10) 7 (u.2.2.2.2.1) ++ (cI_ dT (a_this 11) 7 (u.2.2.2.2.2)))))))) t) A) [.ref (a_this 0), .int v1, .int v2, .int v3].toArray s 0 0 A) (F0 m 85 ls []) := by
    intro g_this g_this_now g_this_trial g_this_chosenBy g_this_toPay g_this_plan x3 x4 k114 hk114 n
    induction n with
    | zero => intro x5 g_this_other H locs ls h; exact nomatch h
    | succ n ih =>
      intro x5 g_this_other H locs ls h hP hD hS hl
      unfold f_X9_matters_L85 at h
      refine lv_iload hx hb dX9_matters_85 (lv_at hl 3 rfl) ?_
      refine lv_aload_n hx hb dX9_matters_87 rfl (lv_at hl 0 rfl) ?_
      refine gf_X9_98 (v := .int (M_planned g_this)) hx hb hqs hown hK hP 0 rfl rfl dX9_matters_88 ?_
      refine lv_icmp_ge (tgt := 114) hx hb dX9_matters_91 (by decide) (fun c9 => ?_) (fun c9 => ?_)
      · replace h := iteT c9 h
        exact hk114 g_this_other _ _ _ h hP hD hS (lv_sub hl [0, 1, 2] rfl)
      · replace h := iteF c9 h
        refine lv_aload_n hx hb dX9_matters_94 rfl (lv_at hl 0 rfl) ?_
        refine gf_X9_42 (v := .ref (a_this 11)) hx hb hqs hown hK hP 0 rfl rfl dX9_matters_95 ?_
        refine lv_iload hx hb dX9_matters_98 (lv_at hl 3 rfl) ?_
        refine lv_aload_n hx hb dX9_matters_100 rfl (lv_at hl 0 rfl) ?_
        refine gf_X9_39 (v := .ref (a_this 10)) hx hb hqs hown hK hP 0 rfl rfl dX9_matters_101 ?_
        refine lv_iload hx hb dX9_matters_104 (lv_at hl 3 rfl) ?_
        obtain ⟨g10, h⟩ := chk h
        refine va_iald hx hb hK hP 5 0 rfl rfl (inb_in g10) dX9_matters_106 ?_
        obtain ⟨g11, h⟩ := chk h
        refine va_iast hx hb hK hP hD hS 6 0 rfl rfl (inb_in g11) dX9_matters_107 (fun H locs hP hD hS => ?_)
        have hP : va_P D vwCl (cM a_this g_this ++ (cJ_ dT (a_this 2) 353 g_this_now ++ (cJ_ dT (a_this 3) 353 g_this_trial ++ (cJ_ dT (a_this 7) 128 g_this_chosenBy ++ (cJ_ dT (a_this 9) 128 g_this_toPay ++ (cI_ dT (a_this 10) 7 g_this_plan ++ (cI_ dT (a_this 11) 7 (upd g_this_other x5.toNatClampNeg (g_this_plan x5.toNatClampNeg))))))))) H := hP
        have hD : va_D A (cM a_this g_this ++ (cJ_ dT (a_this 2) 353 g_this_now ++ (cJ_ dT (a_this 3) 353 g_this_trial ++ (cJ_ dT (a_this 7) 128 g_this_chosenBy ++ (cJ_ dT (a_this 9) 128 g_this_toPay ++ (cI_ dT (a_this 10) 7 g_this_plan ++ (cI_ dT (a_this 11) 7 (upd g_this_other x5.toNatClampNeg (g_this_plan x5.toNatClampNeg))))))))) := hD
        refine lv_iinc (v := (x5 + (1 : Int32))) (lv' := [(5, .int (x5 + (1 : Int32))), (0, .ref (a_this 0)), (3, .int x3), (4, .int x4)]) hx hb dX9_matters_108 hl (k := 3) rfl rfl (by decide) rfl (fun ls hl => ?_)
        refine lv_goto (tgt := 85) hx hb dX9_matters_111 (by decide) ?_
        exact ih (x5 + (1 : Int32)) (upd g_this_other x5.toNatClampNeg (g_this_plan x5.toNatClampNeg)) _ _ _ h hP hD hS (lv_sub hl [1, 2, 3, 0] rfl)
  have L_f_X9_matters_L156 : ∀ (g_this : TM) (g_this_now : Nat → Int64) (g_this_trial : Nat → Int64) (g_this_chosenBy : Nat → Int64) (g_this_toPay : Nat → Int64) (g_this_plan : Nat → Int32) (g_this_other : Nat → Int32) (k200 : Int32 → Option (Int32 × (TM × (Nat → Int64) × (Nat → Int64) × (Nat → Int64) × (Nat → Int32) × (Nat → Int32)))) (hk200 : ∀ (x5 : Int32) (H : Heap) (locs : List Loc) (ls : Array Slot), k200 x5 = some o → va_P D vwCl (cM a_this g_this ++ (cJ_ dT (a_this 2) 353 g_this_now ++ (cJ_ dT (a_this 3) 353 g_this_trial ++ (cJ_ dT (a_this 7) 128 g_this_chosenBy ++ (cJ_ dT (a_this 9) 128 g_this_toPay ++ (cI_ dT (a_this 10) 7 g_this_plan ++ (cI_ dT (a_this 11) 7 g_this_other))))))) H → va_D A (cM a_this g_this ++ (cJ_ dT (a_this 2) 353 g_this_now ++ (cJ_ dT (a_this 3) 353 g_this_trial ++ (cJ_ dT (a_this 7) 128 g_this_chosenBy ++ (cJ_ dT (a_this 9) 128 g_this_toPay ++ (cI_ dT (a_this 10) 7 g_this_plan ++ (cI_ dT (a_this 11) 7 g_this_other))))))) → va_S A s.heap H locs → lv_has ls 7 [(5, .int x5)] → W p l e (headSpec (WSm yX9_matters cX9_matters 7 (some .int)) { frames := 5, cells := 0, slots := 0, locals := 121 }).room s m [.ref (a_this 0), .int v1, .int v2, .int v3].toArray below meth c H locs 0 0 (MQ below (va_Qi (fun (r : Int32) (u : TM × (Nat → Int64) × (Nat → Int64) × (Nat → Int64) × (Nat → Int32) × (Nat → Int32)) => r = o.1 ∧ u = o.2) (fun u t => cAt D dT A (cM a_this (u.1) ++ (cJ_ dT (a_this 2) 353 g_this_now ++ (cJ_ dT (a_this 3) 353 (u.2.1) ++ (cJ_ dT (a_this 7) 128 (u.2.2.1) ++ (cJ_ dT (a_this 9) 128 (u.2.2.2.1) ++ (cI_ dT (a_this 10) 7 (u.2.2.2.2.1) ++ (cI_ dT (a_this 11) 7 (u.2.2.2.2.2)))))))) t) A) [.ref (a_this 0), .int v1, .int v2, .int v3].toArray s 0 0 A) (F0 m 200 ls [])) (n : Nat), ∀ (x5 : Int32) (x6 : Int32) (H : Heap) (locs : List Loc) (ls : Array Slot), f_X9_matters_L156 g_this g_this_now g_this_trial g_this_chosenBy g_this_toPay g_this_plan g_this_other k200 n x5 x6 = some o → va_P D vwCl (cM a_this g_this ++ (cJ_ dT (a_this 2) 353 g_this_now ++ (cJ_ dT (a_this 3) 353 g_this_trial ++ (cJ_ dT (a_this 7) 128 g_this_chosenBy ++ (cJ_ dT (a_this 9) 128 g_this_toPay ++ (cI_ dT (a_this 10) 7 g_this_plan ++ (cI_ dT (a_this 11) 7 g_this_other))))))) H → va_D A (cM a_this g_this ++ (cJ_ dT (a_this 2) 353 g_this_now ++ (cJ_ dT (a_this 3) 353 g_this_trial ++ (cJ_ dT (a_this 7) 128 g_this_chosenBy ++ (cJ_ dT (a_this 9) 128 g_this_toPay ++ (cI_ dT (a_this 10) 7 g_this_plan ++ (cI_ dT (a_this 11) 7 g_this_other))))))) → va_S A s.heap H locs → lv_has ls 7 [(0, .ref (a_this 0)), (5, .int x5), (6, .int x6)] → W p l e (headSpec (WSm yX9_matters cX9_matters 7 (some .int)) { frames := 5, cells := 0, slots := 0, locals := 121 }).room s m [.ref (a_this 0), .int v1, .int v2, .int v3].toArray below meth c H locs 0 0 (MQ below (va_Qi (fun (r : Int32) (u : TM × (Nat → Int64) × (Nat → Int64) × (Nat → Int64) × (Nat → Int32) × (Nat → Int32)) => r = o.1 ∧ u = o.2) (fun u t => cAt D dT A (cM a_this (u.1) ++ (cJ_ dT (a_this 2) 353 g_this_now ++ (cJ_ dT (a_this 3) 353 (u.2.1) ++ (cJ_ dT (a_this 7) 128 (u.2.2.1) ++ (cJ_ dT (a_this 9) 128 (u.2.2.2.1) ++ (cI_ dT (a_this 10) 7 (u.2.2.2.2.1) ++ (cI_ dT (a_this 11) 7 (u.2.2.2.2.2)))))))) t) A) [.ref (a_this 0), .int v1, .int v2, .int v3].toArray s 0 0 A) (F0 m 156 ls []) := by
    intro g_this g_this_now g_this_trial g_this_chosenBy g_this_toPay g_this_plan g_this_other k200 hk200 n
    induction n with
    | zero => intro x5 x6 H locs ls h; exact nomatch h
    | succ n ih =>
      intro x5 x6 H locs ls h hP hD hS hl
      unfold f_X9_matters_L156 at h
      refine lv_iload hx hb dX9_matters_156 (lv_at hl 2 rfl) ?_
      refine lv_aload_n hx hb dX9_matters_158 rfl (lv_at hl 0 rfl) ?_
      refine gf_X9_98 (v := .int (M_planned g_this)) hx hb hqs hown hK hP 0 rfl rfl dX9_matters_159 ?_
      refine lv_icmp_ge (tgt := 200) hx hb dX9_matters_162 (by decide) (fun c16 => ?_) (fun c16 => ?_)
      · replace h := iteT c16 h
        exact hk200 x5 _ _ _ h hP hD hS (lv_sub hl [1] rfl)
      · replace h := iteF c16 h
        refine lv_iload hx hb dX9_matters_165 (lv_at hl 1 rfl) ?_
        refine lv_if_eq (tgt := 191) hx hb dX9_matters_167 (by decide) (fun c17 => ?_) (fun c17 => ?_)
        · replace h := iteT c17 h
          refine lv_iconst (v := 0) hx hb dX9_matters_191 (by decide) ?_
          refine lv_istore (lv' := [(5, .int (0 : Int32)), (0, .ref (a_this 0)), (6, .int x6)]) hx hb dX9_matters_192 hl (by decide) rfl (fun ls hl => ?_)
          refine lv_iinc (v := (x6 + (1 : Int32))) (lv' := [(6, .int (x6 + (1 : Int32))), (5, .int (0 : Int32)), (0, .ref (a_this 0))]) hx hb dX9_matters_194 hl (k := 2) rfl rfl (by decide) rfl (fun ls hl => ?_)
          refine lv_goto (tgt := 156) hx hb dX9_matters_197 (by decide) ?_
          exact ih (0 : Int32) (x6 + (1 : Int32)) _ _ _ h hP hD hS (lv_sub hl [2, 1, 0] rfl)
        · replace h := iteF c17 h
          refine lv_aload_n hx hb dX9_matters_170 rfl (lv_at hl 0 rfl) ?_
          refine gf_X9_42 (v := .ref (a_this 11)) hx hb hqs hown hK hP 0 rfl rfl dX9_matters_171 ?_
          refine lv_iload hx hb dX9_matters_174 (lv_at hl 2 rfl) ?_
          obtain ⟨g18, h⟩ := chk h
          refine va_iald hx hb hK hP 6 0 rfl rfl (inb_in g18) dX9_matters_176 ?_
          refine lv_aload_n hx hb dX9_matters_177 rfl (lv_at hl 0 rfl) ?_
          refine gf_X9_39 (v := .ref (a_this 10)) hx hb hqs hown hK hP 0 rfl rfl dX9_matters_178 ?_
          refine lv_iload hx hb dX9_matters_181 (lv_at hl 2 rfl) ?_
          obtain ⟨g19, h⟩ := chk h
          refine va_iald hx hb hK hP 5 0 rfl rfl (inb_in g19) dX9_matters_183 ?_
          refine lv_icmp_ne (tgt := 191) hx hb dX9_matters_184 (by decide) (fun c20 => ?_) (fun c20 => ?_)
          · replace h := iteF c20 h
            refine lv_iconst (v := 0) hx hb dX9_matters_191 (by decide) ?_
            refine lv_istore (lv' := [(5, .int (0 : Int32)), (0, .ref (a_this 0)), (6, .int x6)]) hx hb dX9_matters_192 hl (by decide) rfl (fun ls hl => ?_)
            refine lv_iinc (v := (x6 + (1 : Int32))) (lv' := [(6, .int (x6 + (1 : Int32))), (5, .int (0 : Int32)), (0, .ref (a_this 0))]) hx hb dX9_matters_194 hl (k := 2) rfl rfl (by decide) rfl (fun ls hl => ?_)
            refine lv_goto (tgt := 156) hx hb dX9_matters_197 (by decide) ?_
            exact ih (0 : Int32) (x6 + (1 : Int32)) _ _ _ h hP hD hS (lv_sub hl [2, 1, 0] rfl)
          · replace h := iteT c20 h
            refine lv_iconst (v := 1) hx hb dX9_matters_187 (by decide) ?_
            refine lv_goto (tgt := 192) hx hb dX9_matters_188 (by decide) ?_
            refine lv_istore (lv' := [(5, .int (1 : Int32)), (0, .ref (a_this 0)), (6, .int x6)]) hx hb dX9_matters_192 hl (by decide) rfl (fun ls hl => ?_)
            refine lv_iinc (v := (x6 + (1 : Int32))) (lv' := [(6, .int (x6 + (1 : Int32))), (5, .int (1 : Int32)), (0, .ref (a_this 0))]) hx hb dX9_matters_194 hl (k := 2) rfl rfl (by decide) rfl (fun ls hl => ?_)
            refine lv_goto (tgt := 156) hx hb dX9_matters_197 (by decide) ?_
            exact ih (1 : Int32) (x6 + (1 : Int32)) _ _ _ h hP hD hS (lv_sub hl [2, 1, 0] rfl)
  have L_f_X9_matters_J38 : ∀ (g_this_now : Nat → Int64) (x1 : Int32) (x2 : Int32) (x3 : Int32) (s0 : Int32) (g_this : TM) (g_this_trial : Nat → Int64) (g_this_chosenBy : Nat → Int64) (g_this_toPay : Nat → Int64) (g_this_plan : Nat → Int32) (g_this_other : Nat → Int32)   (H : Heap) (locs : List Loc) (ls : Array Slot), f_X9_matters_J38 g_this_now  x1 x2 x3 s0 g_this g_this_trial g_this_chosenBy g_this_toPay g_this_plan g_this_other = some o → va_P D vwCl (cM a_this g_this ++ (cJ_ dT (a_this 2) 353 g_this_now ++ (cJ_ dT (a_this 3) 353 g_this_trial ++ (cJ_ dT (a_this 7) 128 g_this_chosenBy ++ (cJ_ dT (a_this 9) 128 g_this_toPay ++ (cI_ dT (a_this 10) 7 g_this_plan ++ (cI_ dT (a_this 11) 7 g_this_other))))))) H → va_D A (cM a_this g_this ++ (cJ_ dT (a_this 2) 353 g_this_now ++ (cJ_ dT (a_this 3) 353 g_this_trial ++ (cJ_ dT (a_this 7) 128 g_this_chosenBy ++ (cJ_ dT (a_this 9) 128 g_this_toPay ++ (cI_ dT (a_this 10) 7 g_this_plan ++ (cI_ dT (a_this 11) 7 g_this_other))))))) → va_S A s.heap H locs → lv_has ls 7 [(0, .ref (a_this 0)), (1, .int x1), (2, .int x2), (3, .int x3)] → W p l e (headSpec (WSm yX9_matters cX9_matters 7 (some .int)) { frames := 5, cells := 0, slots := 0, locals := 121 }).room s m [.ref (a_this 0), .int v1, .int v2, .int v3].toArray below meth c H locs 0 0 (MQ below (va_Qi (fun (r : Int32) (u : TM × (Nat → Int64) × (Nat → Int64) × (Nat → Int64) × (Nat → Int32) × (Nat → Int32)) => r = o.1 ∧ u = o.2) (fun u t => cAt D dT A (cM a_this (u.1) ++ (cJ_ dT (a_this 2) 353 g_this_now ++ (cJ_ dT (a_this 3) 353 (u.2.1) ++ (cJ_ dT (a_this 7) 128 (u.2.2.1) ++ (cJ_ dT (a_this 9) 128 (u.2.2.2.1) ++ (cI_ dT (a_this 10) 7 (u.2.2.2.2.1) ++ (cI_ dT (a_this 11) 7 (u.2.2.2.2.2)))))))) t) A) [.ref (a_this 0), .int v1, .int v2, .int v3].toArray s 0 0 A) (F0 m 38 ls [.int s0, .ref (a_this 0)]) := by
    intro g_this_now x1 x2 x3 s0 g_this g_this_trial g_this_chosenBy g_this_toPay g_this_plan g_this_other   H locs ls h hP hD hS hl
    unfold f_X9_matters_J38 at h
    obtain ⟨o3, e3, h⟩ := obind h
    have hPc := hP.sub (ws' := (cM a_this g_this)) [0] rfl
    have hDc := hD.sub (ws' := (cM a_this g_this)) [0] (by decide) rfl
    have hFc := va_free (wc := (cM a_this g_this)) hD hS hA [0] rfl
    refine cl_i (wr := (cJ_ dT (a_this 2) 353 g_this_now ++ (cJ_ dT (a_this 3) 353 g_this_trial ++ (cJ_ dT (a_this 7) 128 g_this_chosenBy ++ (cJ_ dT (a_this 9) 128 g_this_toPay ++ (cI_ dT (a_this 10) 7 g_this_plan ++ (cI_ dT (a_this 11) 7 g_this_other))))))) (va_runV (As := [.int s0]) (rest := []) ⟨hx, hb, hml, hown, hts⟩ (c_X9_refused l hlt D dT a_this g_this s0 o3 e3 _) (cwV 1 hts (TB_V w_1132 w_1134 w_32 w_59 w_1135) rfl rfl rfl ⟨rfl, nd_X9_refused⟩ ⟨Nat.le_of_ble_eq_true rfl, Nat.le_of_ble_eq_true rfl⟩) (cPre.V hPc hDc hK hE hS hFc (va_recv hK hP (ci := 8) (q0 := 0) rfl rfl)) rfl rfl hl.1 rfl (lv_room (Nat.le_of_ble_eq_true rfl)) dX9_matters_38 ⟨Nat.zero_le _, Nat.zero_le _⟩) hP hD hS hFc [0] [1, 2, 3, 4, 5, 6] rfl rfl (by decide) (by decide) (fun r3 u3 H locs hw hP hD hS => ?_)
    obtain ⟨rfl, rfl⟩ := hw
    have hP : va_P D vwCl (cJ_ dT (a_this 2) 353 g_this_now ++ (cJ_ dT (a_this 3) 353 g_this_trial ++ (cJ_ dT (a_this 7) 128 g_this_chosenBy ++ (cJ_ dT (a_this 9) 128 g_this_toPay ++ (cI_ dT (a_this 10) 7 g_this_plan ++ (cI_ dT (a_this 11) 7 g_this_other ++ (cM a_this o3.2))))))) H := hP
    have hD : va_D A (cJ_ dT (a_this 2) 353 g_this_now ++ (cJ_ dT (a_this 3) 353 g_this_trial ++ (cJ_ dT (a_this 7) 128 g_this_chosenBy ++ (cJ_ dT (a_this 9) 128 g_this_toPay ++ (cI_ dT (a_this 10) 7 g_this_plan ++ (cI_ dT (a_this 11) 7 g_this_other ++ (cM a_this o3.2))))))) := hD
    refine lv_if_eq (tgt := 46) hx hb dX9_matters_41 (by decide) (fun c4 => ?_) (fun c4 => ?_)
    · replace h := iteT c4 h
      refine lv_iload_n hx hb dX9_matters_46 rfl (lv_at hl 1 rfl) ?_
      refine lv_iload_n hx hb dX9_matters_47 rfl (lv_at hl 2 rfl) ?_
      obtain ⟨o5, e5, h⟩ := obind h
      have hPc := hP.sub (ws' := ([] : va_W)) [] rfl
      have hDc := hD.sub (ws' := ([] : va_W)) [] (by decide) rfl
      have hFc := va_free (wc := ([] : va_W)) hD hS hA [] rfl
      refine cl_i (wr := (cJ_ dT (a_this 2) 353 g_this_now ++ (cJ_ dT (a_this 3) 353 g_this_trial ++ (cJ_ dT (a_this 7) 128 g_this_chosenBy ++ (cJ_ dT (a_this 9) 128 g_this_toPay ++ (cI_ dT (a_this 10) 7 g_this_plan ++ (cI_ dT (a_this 11) 7 g_this_other ++ (cM a_this o3.2)))))))) (va_runS (As := [.int x1, .int x2]) (rest := []) ⟨hx, hb, hml, hown, hts⟩ (c_X9_pairOf l hlt D dT x1 x2 o5 e5 _) (va_cwS 2 hts (TB_S w_1181 w_1182 w_59 w_1183) rfl rfl rfl nd_X9_pairOf ⟨Nat.le_of_ble_eq_true rfl, Nat.le_of_ble_eq_true rfl⟩) (cPre.S hPc hDc hK hE hS hFc) rfl rfl hl.1 rfl (lv_room (Nat.le_of_ble_eq_true rfl)) dX9_matters_48 ⟨Nat.zero_le _, Nat.zero_le _⟩) hP hD hS hFc [] [0, 1, 2, 3, 4, 5, 6] rfl rfl (by decide) (by decide) (fun r5 u5 H locs hw hP hD hS => ?_)
      obtain ⟨rfl, rfl⟩ := hw
      have hP : va_P D vwCl (cJ_ dT (a_this 2) 353 g_this_now ++ (cJ_ dT (a_this 3) 353 g_this_trial ++ (cJ_ dT (a_this 7) 128 g_this_chosenBy ++ (cJ_ dT (a_this 9) 128 g_this_toPay ++ (cI_ dT (a_this 10) 7 g_this_plan ++ (cI_ dT (a_this 11) 7 g_this_other ++ (cM a_this o3.2))))))) H := hP
      have hD : va_D A (cJ_ dT (a_this 2) 353 g_this_now ++ (cJ_ dT (a_this 3) 353 g_this_trial ++ (cJ_ dT (a_this 7) 128 g_this_chosenBy ++ (cJ_ dT (a_this 9) 128 g_this_toPay ++ (cI_ dT (a_this 10) 7 g_this_plan ++ (cI_ dT (a_this 11) 7 g_this_other ++ (cM a_this o3.2))))))) := hD
      refine lv_istore (lv' := [(4, .int o5.1), (0, .ref (a_this 0)), (1, .int x1), (2, .int x2), (3, .int x3)]) hx hb dX9_matters_51 hl (by decide) rfl (fun ls hl => ?_)
      refine lv_aload_n hx hb dX9_matters_53 rfl (lv_at hl 1 rfl) ?_
      refine gf_X9_13 (v := .ref (a_this 2)) hx hb hqs hown hK hP 6 rfl rfl dX9_matters_54 ?_
      refine lv_sipush (v := 155) hx hb dX9_matters_57 (by decide) ?_
      refine lv_iload hx hb dX9_matters_60 (lv_at hl 0 rfl) ?_
      refine lv_iadd hx hb dX9_matters_62 ?_
      obtain ⟨g6, h⟩ := chk h
      refine va_lald hx hb hK hP 0 1 rfl rfl (inb_in g6) dX9_matters_63 ?_
      refine lv_lconst (v := 0) hx hb dX9_matters_64 (by decide) ?_
      refine W.lcmp hx hb dX9_matters_65 ?_
      refine lv_if_ne (tgt := 71) hx hb dX9_matters_66 (by decide) (fun c7 => ?_) (fun c7 => ?_)
      · replace h := iteF c7 h
        refine lv_aload_n hx hb dX9_matters_71 rfl (lv_at hl 1 rfl) ?_
        refine lv_aload_n hx hb dX9_matters_72 rfl (lv_at hl 1 rfl) ?_
        refine gf_X9_13 (v := .ref (a_this 2)) hx hb hqs hown hK hP 6 rfl rfl dX9_matters_73 ?_
        refine lv_iload_n hx hb dX9_matters_76 rfl (lv_at hl 4 rfl) ?_
        refine lv_iconst (v := 1) hx hb dX9_matters_77 (by decide) ?_
        obtain ⟨o8, e8, h⟩ := obind h
        have hPc := hP.sub (ws' := (cM a_this o3.2 ++ (cJ_ dT (a_this 7) 128 g_this_chosenBy ++ (cJ_ dT (a_this 9) 128 g_this_toPay ++ (cI_ dT (a_this 10) 7 g_this_plan ++ (cJ_ dT (a_this 2) 353 g_this_now)))))) [6, 2, 3, 4, 0] rfl
        have hDc := hD.sub (ws' := (cM a_this o3.2 ++ (cJ_ dT (a_this 7) 128 g_this_chosenBy ++ (cJ_ dT (a_this 9) 128 g_this_toPay ++ (cI_ dT (a_this 10) 7 g_this_plan ++ (cJ_ dT (a_this 2) 353 g_this_now)))))) [6, 2, 3, 4, 0] (by decide) rfl
        have hFc := va_free (wc := (cM a_this o3.2 ++ (cJ_ dT (a_this 7) 128 g_this_chosenBy ++ (cJ_ dT (a_this 9) 128 g_this_toPay ++ (cI_ dT (a_this 10) 7 g_this_plan ++ (cJ_ dT (a_this 2) 353 g_this_now)))))) hD hS hA [6, 2, 3, 4, 0] rfl
        refine cl_l (wr := (cJ_ dT (a_this 3) 353 g_this_trial ++ (cI_ dT (a_this 11) 7 g_this_other))) (va_runV (As := [.ref (a_this 2), .int x3, .int (1 : Int32)]) (rest := []) ⟨hx, hb, hml, hown, hts⟩ (c_X9_choose l hlt D dT a_this (a_this 2) 353 o3.2 g_this_chosenBy g_this_toPay g_this_plan g_this_now x3 (1 : Int32) o8 e8 _) (cwV 3 hts (TB_V w_1277 w_1279 w_42 w_59 w_1280) rfl rfl rfl ⟨rfl, nd_X9_choose⟩ ⟨Nat.le_of_ble_eq_true rfl, Nat.le_of_ble_eq_true rfl⟩) (cPre.V hPc hDc hK hE hS hFc (va_recv hK hP (ci := 8) (q0 := 6) rfl rfl)) rfl rfl hl.1 rfl (lv_room (Nat.le_of_ble_eq_true rfl)) dX9_matters_78 ⟨Nat.zero_le _, Nat.zero_le _⟩) hP hD hS hFc [6, 2, 3, 4, 0] [1, 5] rfl rfl (by decide) (by decide) (fun r8 u8 H locs hw hP hD hS => ?_)
        obtain ⟨rfl, rfl⟩ := hw
        have hP : va_P D vwCl (cJ_ dT (a_this 3) 353 g_this_trial ++ (cI_ dT (a_this 11) 7 g_this_other ++ (cM a_this o8.2.1 ++ (cJ_ dT (a_this 7) 128 o8.2.2.1 ++ (cJ_ dT (a_this 9) 128 o8.2.2.2.1 ++ (cI_ dT (a_this 10) 7 o8.2.2.2.2 ++ (cJ_ dT (a_this 2) 353 g_this_now))))))) H := hP
        have hD : va_D A (cJ_ dT (a_this 3) 353 g_this_trial ++ (cI_ dT (a_this 11) 7 g_this_other ++ (cM a_this o8.2.1 ++ (cJ_ dT (a_this 7) 128 o8.2.2.1 ++ (cJ_ dT (a_this 9) 128 o8.2.2.2.1 ++ (cI_ dT (a_this 10) 7 o8.2.2.2.2 ++ (cJ_ dT (a_this 2) 353 g_this_now))))))) := hD
        refine lv_pop2_2 hx hb dX9_matters_81 rfl ?_
        refine lv_iconst (v := 0) hx hb dX9_matters_82 (by decide) ?_
        refine lv_istore (lv' := [(5, .int (0 : Int32)), (4, .int o5.1), (0, .ref (a_this 0)), (1, .int x1), (2, .int x2), (3, .int x3)]) hx hb dX9_matters_83 hl (by decide) rfl (fun ls hl => ?_)
        have hP := hP.sub (ws' := (cM a_this o8.2.1 ++ (cJ_ dT (a_this 2) 353 g_this_now ++ (cJ_ dT (a_this 3) 353 g_this_trial ++ (cJ_ dT (a_this 7) 128 o8.2.2.1 ++ (cJ_ dT (a_this 9) 128 o8.2.2.2.1 ++ (cI_ dT (a_this 10) 7 o8.2.2.2.2 ++ (cI_ dT (a_this 11) 7 g_this_other)))))))) [2, 6, 0, 3, 4, 5, 1] rfl
        have hD := hD.sub (ws' := (cM a_this o8.2.1 ++ (cJ_ dT (a_this 2) 353 g_this_now ++ (cJ_ dT (a_this 3) 353 g_this_trial ++ (cJ_ dT (a_this 7) 128 o8.2.2.1 ++ (cJ_ dT (a_this 9) 128 o8.2.2.2.1 ++ (cI_ dT (a_this 10) 7 o8.2.2.2.2 ++ (cI_ dT (a_this 11) 7 g_this_other)))))))) [2, 6, 0, 3, 4, 5, 1] (by decide) rfl
        refine L_f_X9_matters_L85 o8.2.1 g_this_now g_this_trial o8.2.2.1 o8.2.2.2.1 o8.2.2.2.2 x3 o5.1 _ ?_ FUEL (0 : Int32) g_this_other _ _ _ h hP hD hS (lv_sub hl [2, 5, 1, 0] rfl)
        · intro y12g_this_other H locs ls h hP hD hS hl
          refine lv_aload_n hx hb dX9_matters_114 rfl (lv_at hl 0 rfl) ?_
          refine gf_X9_13 (v := .ref (a_this 2)) hx hb hqs hown hK hP 0 rfl rfl dX9_matters_115 ?_
          refine lv_iconst (v := 0) hx hb dX9_matters_118 (by decide) ?_
          refine lv_aload_n hx hb dX9_matters_119 rfl (lv_at hl 0 rfl) ?_
          refine gf_X9_17 (v := .ref (a_this 3)) hx hb hqs hown hK hP 0 rfl rfl dX9_matters_120 ?_
          refine lv_iconst (v := 0) hx hb dX9_matters_123 (by decide) ?_
          obtain ⟨o13, e13, h⟩ := obind h
          have hPc := hP.sub (ws' := (cJ_ dT (a_this 2) 353 g_this_now ++ (cJ_ dT (a_this 3) 353 g_this_trial))) [1, 2] rfl
          have hDc := hD.sub (ws' := (cJ_ dT (a_this 2) 353 g_this_now ++ (cJ_ dT (a_this 3) 353 g_this_trial))) [1, 2] (by decide) rfl
          have hFc := va_free (wc := (cJ_ dT (a_this 2) 353 g_this_now ++ (cJ_ dT (a_this 3) 353 g_this_trial))) hD hS hA [1, 2] rfl
          refine cl_v (wr := (cM a_this o8.2.1 ++ (cJ_ dT (a_this 7) 128 o8.2.2.1 ++ (cJ_ dT (a_this 9) 128 o8.2.2.2.1 ++ (cI_ dT (a_this 10) 7 o8.2.2.2.2 ++ (cI_ dT (a_this 11) 7 y12g_this_other)))))) (va_runS (As := [.ref (a_this 2), .int (0 : Int32), .ref (a_this 3), .int (0 : Int32)]) (rest := []) ⟨hx, hb, hml, hown, hts⟩ (c_X9_copyWorld l hlt D dT (a_this 2) (a_this 3) 353 353 g_this_now g_this_trial (0 : Int32) (0 : Int32) o13 e13 _) (va_cwS 4 hts (TB_S w_1191 w_1192 w_59 w_1193) rfl rfl rfl nd_X9_copyWorld ⟨Nat.le_of_ble_eq_true rfl, Nat.le_of_ble_eq_true rfl⟩) (cPre.S hPc hDc hK hE hS hFc) rfl rfl hl.1 rfl (lv_room (Nat.le_of_ble_eq_true rfl)) dX9_matters_124 ⟨Nat.zero_le _, Nat.zero_le _⟩) hP hD hS hFc [1, 2] [0, 3, 4, 5, 6] rfl rfl (by decide) (by decide) (fun u13 H locs hw hP hD hS => ?_)
          subst hw
          have hP : va_P D vwCl (cM a_this o8.2.1 ++ (cJ_ dT (a_this 7) 128 o8.2.2.1 ++ (cJ_ dT (a_this 9) 128 o8.2.2.2.1 ++ (cI_ dT (a_this 10) 7 o8.2.2.2.2 ++ (cI_ dT (a_this 11) 7 y12g_this_other ++ (cJ_ dT (a_this 2) 353 g_this_now ++ (cJ_ dT (a_this 3) 353 o13.2))))))) H := hP
          have hD : va_D A (cM a_this o8.2.1 ++ (cJ_ dT (a_this 7) 128 o8.2.2.1 ++ (cJ_ dT (a_this 9) 128 o8.2.2.2.1 ++ (cI_ dT (a_this 10) 7 o8.2.2.2.2 ++ (cI_ dT (a_this 11) 7 y12g_this_other ++ (cJ_ dT (a_this 2) 353 g_this_now ++ (cJ_ dT (a_this 3) 353 o13.2))))))) := hD
          refine lv_aload_n hx hb dX9_matters_127 rfl (lv_at hl 0 rfl) ?_
          refine gf_X9_17 (v := .ref (a_this 3)) hx hb hqs hown hK hP 0 rfl rfl dX9_matters_128 ?_
          refine lv_sipush (v := 155) hx hb dX9_matters_131 (by decide) ?_
          refine lv_iload hx hb dX9_matters_134 (lv_at hl 2 rfl) ?_
          refine lv_iadd hx hb dX9_matters_136 ?_
          refine lv_lconst (v := 0) hx hb dX9_matters_137 (by decide) ?_
          obtain ⟨g14, h⟩ := chk h
          refine va_last hx hb hK hP hD hS 6 1 rfl rfl (inb_in g14) dX9_matters_138 (fun H locs hP hD hS => ?_)
          have hP : va_P D vwCl (cM a_this o8.2.1 ++ (cJ_ dT (a_this 7) 128 o8.2.2.1 ++ (cJ_ dT (a_this 9) 128 o8.2.2.2.1 ++ (cI_ dT (a_this 10) 7 o8.2.2.2.2 ++ (cI_ dT (a_this 11) 7 y12g_this_other ++ (cJ_ dT (a_this 2) 353 g_this_now ++ (cJ_ dT (a_this 3) 353 (vp_updL o13.2 ((155 : Int32) + o5.1).toNatClampNeg (0 : Int64))))))))) H := hP
          have hD : va_D A (cM a_this o8.2.1 ++ (cJ_ dT (a_this 7) 128 o8.2.2.1 ++ (cJ_ dT (a_this 9) 128 o8.2.2.2.1 ++ (cI_ dT (a_this 10) 7 o8.2.2.2.2 ++ (cI_ dT (a_this 11) 7 y12g_this_other ++ (cJ_ dT (a_this 2) 353 g_this_now ++ (cJ_ dT (a_this 3) 353 (vp_updL o13.2 ((155 : Int32) + o5.1).toNatClampNeg (0 : Int64))))))))) := hD
          refine lv_aload_n hx hb dX9_matters_139 rfl (lv_at hl 0 rfl) ?_
          refine lv_aload_n hx hb dX9_matters_140 rfl (lv_at hl 0 rfl) ?_
          refine gf_X9_17 (v := .ref (a_this 3)) hx hb hqs hown hK hP 0 rfl rfl dX9_matters_141 ?_
          refine lv_iload_n hx hb dX9_matters_144 rfl (lv_at hl 1 rfl) ?_
          refine lv_iconst (v := 1) hx hb dX9_matters_145 (by decide) ?_
          obtain ⟨o15, e15, h⟩ := obind h
          have hPc := hP.sub (ws' := (cM a_this o8.2.1 ++ (cJ_ dT (a_this 7) 128 o8.2.2.1 ++ (cJ_ dT (a_this 9) 128 o8.2.2.2.1 ++ (cI_ dT (a_this 10) 7 o8.2.2.2.2 ++ (cJ_ dT (a_this 3) 353 (vp_updL o13.2 ((155 : Int32) + o5.1).toNatClampNeg (0 : Int64)))))))) [0, 1, 2, 3, 6] rfl
          have hDc := hD.sub (ws' := (cM a_this o8.2.1 ++ (cJ_ dT (a_this 7) 128 o8.2.2.1 ++ (cJ_ dT (a_this 9) 128 o8.2.2.2.1 ++ (cI_ dT (a_this 10) 7 o8.2.2.2.2 ++ (cJ_ dT (a_this 3) 353 (vp_updL o13.2 ((155 : Int32) + o5.1).toNatClampNeg (0 : Int64)))))))) [0, 1, 2, 3, 6] (by decide) rfl
          have hFc := va_free (wc := (cM a_this o8.2.1 ++ (cJ_ dT (a_this 7) 128 o8.2.2.1 ++ (cJ_ dT (a_this 9) 128 o8.2.2.2.1 ++ (cI_ dT (a_this 10) 7 o8.2.2.2.2 ++ (cJ_ dT (a_this 3) 353 (vp_updL o13.2 ((155 : Int32) + o5.1).toNatClampNeg (0 : Int64)))))))) hD hS hA [0, 1, 2, 3, 6] rfl
          refine cl_l (wr := (cI_ dT (a_this 11) 7 y12g_this_other ++ (cJ_ dT (a_this 2) 353 g_this_now))) (va_runV (As := [.ref (a_this 3), .int x3, .int (1 : Int32)]) (rest := []) ⟨hx, hb, hml, hown, hts⟩ (c_X9_choose l hlt D dT a_this (a_this 3) 353 o8.2.1 o8.2.2.1 o8.2.2.2.1 o8.2.2.2.2 (vp_updL o13.2 ((155 : Int32) + o5.1).toNatClampNeg (0 : Int64)) x3 (1 : Int32) o15 e15 _) (cwV 3 hts (TB_V w_1277 w_1279 w_42 w_59 w_1280) rfl rfl rfl ⟨rfl, nd_X9_choose⟩ ⟨Nat.le_of_ble_eq_true rfl, Nat.le_of_ble_eq_true rfl⟩) (cPre.V hPc hDc hK hE hS hFc (va_recv hK hP (ci := 8) (q0 := 0) rfl rfl)) rfl rfl hl.1 rfl (lv_room (Nat.le_of_ble_eq_true rfl)) dX9_matters_146 ⟨Nat.zero_le _, Nat.zero_le _⟩) hP hD hS hFc [0, 1, 2, 3, 6] [4, 5] rfl rfl (by decide) (by decide) (fun r15 u15 H locs hw hP hD hS => ?_)
          obtain ⟨rfl, rfl⟩ := hw
          have hP : va_P D vwCl (cI_ dT (a_this 11) 7 y12g_this_other ++ (cJ_ dT (a_this 2) 353 g_this_now ++ (cM a_this o15.2.1 ++ (cJ_ dT (a_this 7) 128 o15.2.2.1 ++ (cJ_ dT (a_this 9) 128 o15.2.2.2.1 ++ (cI_ dT (a_this 10) 7 o15.2.2.2.2 ++ (cJ_ dT (a_this 3) 353 (vp_updL o13.2 ((155 : Int32) + o5.1).toNatClampNeg (0 : Int64))))))))) H := hP
          have hD : va_D A (cI_ dT (a_this 11) 7 y12g_this_other ++ (cJ_ dT (a_this 2) 353 g_this_now ++ (cM a_this o15.2.1 ++ (cJ_ dT (a_this 7) 128 o15.2.2.1 ++ (cJ_ dT (a_this 9) 128 o15.2.2.2.1 ++ (cI_ dT (a_this 10) 7 o15.2.2.2.2 ++ (cJ_ dT (a_this 3) 353 (vp_updL o13.2 ((155 : Int32) + o5.1).toNatClampNeg (0 : Int64))))))))) := hD
          refine lv_pop2_2 hx hb dX9_matters_149 rfl ?_
          refine lv_iconst (v := 1) hx hb dX9_matters_150 (by decide) ?_
          refine lv_istore (lv' := [(5, .int (1 : Int32)), (0, .ref (a_this 0)), (3, .int x3), (4, .int o5.1)]) hx hb dX9_matters_151 hl (by decide) rfl (fun ls hl => ?_)
          refine lv_iconst (v := 0) hx hb dX9_matters_153 (by decide) ?_
          refine lv_istore (lv' := [(6, .int (0 : Int32)), (5, .int (1 : Int32)), (0, .ref (a_this 0)), (3, .int x3), (4, .int o5.1)]) hx hb dX9_matters_154 hl (by decide) rfl (fun ls hl => ?_)
          have hP := hP.sub (ws' := (cM a_this o15.2.1 ++ (cJ_ dT (a_this 2) 353 g_this_now ++ (cJ_ dT (a_this 3) 353 (vp_updL o13.2 ((155 : Int32) + o5.1).toNatClampNeg (0 : Int64)) ++ (cJ_ dT (a_this 7) 128 o15.2.2.1 ++ (cJ_ dT (a_this 9) 128 o15.2.2.2.1 ++ (cI_ dT (a_this 10) 7 o15.2.2.2.2 ++ (cI_ dT (a_this 11) 7 y12g_this_other)))))))) [2, 1, 6, 3, 4, 5, 0] rfl
          have hD := hD.sub (ws' := (cM a_this o15.2.1 ++ (cJ_ dT (a_this 2) 353 g_this_now ++ (cJ_ dT (a_this 3) 353 (vp_updL o13.2 ((155 : Int32) + o5.1).toNatClampNeg (0 : Int64)) ++ (cJ_ dT (a_this 7) 128 o15.2.2.1 ++ (cJ_ dT (a_this 9) 128 o15.2.2.2.1 ++ (cI_ dT (a_this 10) 7 o15.2.2.2.2 ++ (cI_ dT (a_this 11) 7 y12g_this_other)))))))) [2, 1, 6, 3, 4, 5, 0] (by decide) rfl
          refine L_f_X9_matters_L156 o15.2.1 g_this_now (vp_updL o13.2 ((155 : Int32) + o5.1).toNatClampNeg (0 : Int64)) o15.2.2.1 o15.2.2.2.1 o15.2.2.2.2 y12g_this_other _ ?_ FUEL (1 : Int32) (0 : Int32) _ _ _ h hP hD hS (lv_sub hl [2, 1, 0] rfl)
          · intro y21x5 H locs ls h hP hD hS hl
            refine lv_iload hx hb dX9_matters_200 (lv_at hl 0 rfl) ?_
            refine lv_if_eq (tgt := 209) hx hb dX9_matters_202 (by decide) (fun c22 => ?_) (fun c22 => ?_)
            · replace h := iteT c22 h
              refine lv_iconst (v := 1) hx hb dX9_matters_209 (by decide) ?_
              exact rt_i hx hb hr hlk hK hS ((o15.2.1, (vp_updL o13.2 ((155 : Int32) + o5.1).toNatClampNeg (0 : Int64)), o15.2.2.1, o15.2.2.2.1, o15.2.2.2.2, y12g_this_other) : TM × (Nat → Int64) × (Nat → Int64) × (Nat → Int64) × (Nat → Int32) × (Nat → Int32)) (ret2 h) hP hD dX9_matters_210
            · replace h := iteF c22 h
              refine lv_iconst (v := 0) hx hb dX9_matters_205 (by decide) ?_
              refine lv_goto (tgt := 210) hx hb dX9_matters_206 (by decide) ?_
              exact rt_i hx hb hr hlk hK hS ((o15.2.1, (vp_updL o13.2 ((155 : Int32) + o5.1).toNatClampNeg (0 : Int64)), o15.2.2.1, o15.2.2.2.1, o15.2.2.2.2, y12g_this_other) : TM × (Nat → Int64) × (Nat → Int64) × (Nat → Int64) × (Nat → Int32) × (Nat → Int32)) (ret2 h) hP hD dX9_matters_210
      · replace h := iteT c7 h
        refine lv_iconst (v := 0) hx hb dX9_matters_69 (by decide) ?_
        have hP := hP.sub (ws' := (cM a_this o3.2 ++ (cJ_ dT (a_this 2) 353 g_this_now ++ (cJ_ dT (a_this 3) 353 g_this_trial ++ (cJ_ dT (a_this 7) 128 g_this_chosenBy ++ (cJ_ dT (a_this 9) 128 g_this_toPay ++ (cI_ dT (a_this 10) 7 g_this_plan ++ (cI_ dT (a_this 11) 7 g_this_other)))))))) [6, 0, 1, 2, 3, 4, 5] rfl
        have hD := hD.sub (ws' := (cM a_this o3.2 ++ (cJ_ dT (a_this 2) 353 g_this_now ++ (cJ_ dT (a_this 3) 353 g_this_trial ++ (cJ_ dT (a_this 7) 128 g_this_chosenBy ++ (cJ_ dT (a_this 9) 128 g_this_toPay ++ (cI_ dT (a_this 10) 7 g_this_plan ++ (cI_ dT (a_this 11) 7 g_this_other)))))))) [6, 0, 1, 2, 3, 4, 5] (by decide) rfl
        exact rt_i hx hb hr hlk hK hS ((o3.2, g_this_trial, g_this_chosenBy, g_this_toPay, g_this_plan, g_this_other) : TM × (Nat → Int64) × (Nat → Int64) × (Nat → Int64) × (Nat → Int32) × (Nat → Int32)) (ret2 h) hP hD dX9_matters_70
    · replace h := iteF c4 h
      refine lv_iconst (v := 0) hx hb dX9_matters_44 (by decide) ?_
      have hP := hP.sub (ws' := (cM a_this o3.2 ++ (cJ_ dT (a_this 2) 353 g_this_now ++ (cJ_ dT (a_this 3) 353 g_this_trial ++ (cJ_ dT (a_this 7) 128 g_this_chosenBy ++ (cJ_ dT (a_this 9) 128 g_this_toPay ++ (cI_ dT (a_this 10) 7 g_this_plan ++ (cI_ dT (a_this 11) 7 g_this_other)))))))) [6, 0, 1, 2, 3, 4, 5] rfl
      have hD := hD.sub (ws' := (cM a_this o3.2 ++ (cJ_ dT (a_this 2) 353 g_this_now ++ (cJ_ dT (a_this 3) 353 g_this_trial ++ (cJ_ dT (a_this 7) 128 g_this_chosenBy ++ (cJ_ dT (a_this 9) 128 g_this_toPay ++ (cI_ dT (a_this 10) 7 g_this_plan ++ (cI_ dT (a_this 11) 7 g_this_other)))))))) [6, 0, 1, 2, 3, 4, 5] (by decide) rfl
      exact rt_i hx hb hr hlk hK hS ((o3.2, g_this_trial, g_this_chosenBy, g_this_toPay, g_this_plan, g_this_other) : TM × (Nat → Int64) × (Nat → Int64) × (Nat → Int64) × (Nat → Int32) × (Nat → Int32)) (ret2 h) hP hD dX9_matters_45
  have L_f_X9_matters_J24 : ∀ (g_this_now : Nat → Int64) (x1 : Int32) (x2 : Int32) (x3 : Int32) (g_this : TM) (g_this_trial : Nat → Int64) (g_this_chosenBy : Nat → Int64) (g_this_toPay : Nat → Int64) (g_this_plan : Nat → Int32) (g_this_other : Nat → Int32)   (H : Heap) (locs : List Loc) (ls : Array Slot), f_X9_matters_J24 g_this_now  x1 x2 x3 g_this g_this_trial g_this_chosenBy g_this_toPay g_this_plan g_this_other = some o → va_P D vwCl (cM a_this g_this ++ (cJ_ dT (a_this 2) 353 g_this_now ++ (cJ_ dT (a_this 3) 353 g_this_trial ++ (cJ_ dT (a_this 7) 128 g_this_chosenBy ++ (cJ_ dT (a_this 9) 128 g_this_toPay ++ (cI_ dT (a_this 10) 7 g_this_plan ++ (cI_ dT (a_this 11) 7 g_this_other))))))) H → va_D A (cM a_this g_this ++ (cJ_ dT (a_this 2) 353 g_this_now ++ (cJ_ dT (a_this 3) 353 g_this_trial ++ (cJ_ dT (a_this 7) 128 g_this_chosenBy ++ (cJ_ dT (a_this 9) 128 g_this_toPay ++ (cI_ dT (a_this 10) 7 g_this_plan ++ (cI_ dT (a_this 11) 7 g_this_other))))))) → va_S A s.heap H locs → lv_has ls 7 [(0, .ref (a_this 0)), (1, .int x1), (2, .int x2), (3, .int x3)] → W p l e (headSpec (WSm yX9_matters cX9_matters 7 (some .int)) { frames := 5, cells := 0, slots := 0, locals := 121 }).room s m [.ref (a_this 0), .int v1, .int v2, .int v3].toArray below meth c H locs 0 0 (MQ below (va_Qi (fun (r : Int32) (u : TM × (Nat → Int64) × (Nat → Int64) × (Nat → Int64) × (Nat → Int32) × (Nat → Int32)) => r = o.1 ∧ u = o.2) (fun u t => cAt D dT A (cM a_this (u.1) ++ (cJ_ dT (a_this 2) 353 g_this_now ++ (cJ_ dT (a_this 3) 353 (u.2.1) ++ (cJ_ dT (a_this 7) 128 (u.2.2.1) ++ (cJ_ dT (a_this 9) 128 (u.2.2.2.1) ++ (cI_ dT (a_this 10) 7 (u.2.2.2.2.1) ++ (cI_ dT (a_this 11) 7 (u.2.2.2.2.2)))))))) t) A) [.ref (a_this 0), .int v1, .int v2, .int v3].toArray s 0 0 A) (F0 m 24 ls [.ref (a_this 0)]) := by
    intro g_this_now x1 x2 x3 g_this g_this_trial g_this_chosenBy g_this_toPay g_this_plan g_this_other   H locs ls h hP hD hS hl
    unfold f_X9_matters_J24 at h
    refine lv_iconst (v := 1) hx hb dX9_matters_24 (by decide) ?_
    refine lv_goto (tgt := 38) hx hb dX9_matters_25 (by decide) ?_
    refine L_f_X9_matters_J38 g_this_now x1 x2 x3 (1 : Int32) g_this g_this_trial g_this_chosenBy g_this_toPay g_this_plan g_this_other   _ _ _ h hP hD hS (lv_sub hl [0, 1, 2, 3] rfl)
  unfold f_X9_matters at h
  refine lv_aload_n hx hb dX9_matters_0 rfl (lv_at hl 0 rfl) ?_
  refine lv_aload_n hx hb dX9_matters_1 rfl (lv_at hl 0 rfl) ?_
  refine gf_X9_13 (v := .ref (a_this 2)) hx hb hqs hown hK hP 0 rfl rfl dX9_matters_2 ?_
  refine lv_iload_n hx hb dX9_matters_5 rfl (lv_at hl 1 rfl) ?_
  refine lv_iload_n hx hb dX9_matters_6 rfl (lv_at hl 2 rfl) ?_
  obtain ⟨o1, e1, h⟩ := obind h
  have hPc := hP.sub (ws' := (cJ_ dT (a_this 2) 353 g_this_now)) [1] rfl
  have hDc := hD.sub (ws' := (cJ_ dT (a_this 2) 353 g_this_now)) [1] (by decide) rfl
  have hFc := va_free (wc := (cJ_ dT (a_this 2) 353 g_this_now)) hD hS hA [1] rfl
  refine cl_i (wr := (cM a_this g_this ++ (cJ_ dT (a_this 3) 353 g_this_trial ++ (cJ_ dT (a_this 7) 128 g_this_chosenBy ++ (cJ_ dT (a_this 9) 128 g_this_toPay ++ (cI_ dT (a_this 10) 7 g_this_plan ++ (cI_ dT (a_this 11) 7 g_this_other))))))) (va_runS (As := [.ref (a_this 2), .int v1, .int v2]) (rest := [.ref (a_this 0)]) ⟨hx, hb, hml, hown, hts⟩ (c_X9_arePair l hlt D dT (a_this 2) 353 g_this_now v1 v2 o1 e1 _) (va_cwS 3 hts (TB_S w_1212 w_1213 w_59 w_1214) rfl rfl rfl nd_X9_arePair ⟨Nat.le_of_ble_eq_true rfl, Nat.le_of_ble_eq_true rfl⟩) (cPre.S hPc hDc hK hE hS hFc) rfl rfl hl.1 rfl (lv_room (Nat.le_of_ble_eq_true rfl)) dX9_matters_7 ⟨Nat.zero_le _, Nat.zero_le _⟩) hP hD hS hFc [1] [0, 2, 3, 4, 5, 6] rfl rfl (by decide) (by decide) (fun r1 u1 H locs hw hP hD hS => ?_)
  obtain ⟨rfl, rfl⟩ := hw
  have hP : va_P D vwCl (cM a_this g_this ++ (cJ_ dT (a_this 3) 353 g_this_trial ++ (cJ_ dT (a_this 7) 128 g_this_chosenBy ++ (cJ_ dT (a_this 9) 128 g_this_toPay ++ (cI_ dT (a_this 10) 7 g_this_plan ++ (cI_ dT (a_this 11) 7 g_this_other ++ (cJ_ dT (a_this 2) 353 g_this_now))))))) H := hP
  have hD : va_D A (cM a_this g_this ++ (cJ_ dT (a_this 3) 353 g_this_trial ++ (cJ_ dT (a_this 7) 128 g_this_chosenBy ++ (cJ_ dT (a_this 9) 128 g_this_toPay ++ (cI_ dT (a_this 10) 7 g_this_plan ++ (cI_ dT (a_this 11) 7 g_this_other ++ (cJ_ dT (a_this 2) 353 g_this_now))))))) := hD
  refine lv_if_eq (tgt := 24) hx hb dX9_matters_10 (by decide) (fun c2 => ?_) (fun c2 => ?_)
  · replace h := iteT c2 h
    have hP := hP.sub (ws' := (cM a_this g_this ++ (cJ_ dT (a_this 2) 353 g_this_now ++ (cJ_ dT (a_this 3) 353 g_this_trial ++ (cJ_ dT (a_this 7) 128 g_this_chosenBy ++ (cJ_ dT (a_this 9) 128 g_this_toPay ++ (cI_ dT (a_this 10) 7 g_this_plan ++ (cI_ dT (a_this 11) 7 g_this_other)))))))) [0, 6, 1, 2, 3, 4, 5] rfl
    have hD := hD.sub (ws' := (cM a_this g_this ++ (cJ_ dT (a_this 2) 353 g_this_now ++ (cJ_ dT (a_this 3) 353 g_this_trial ++ (cJ_ dT (a_this 7) 128 g_this_chosenBy ++ (cJ_ dT (a_this 9) 128 g_this_toPay ++ (cI_ dT (a_this 10) 7 g_this_plan ++ (cI_ dT (a_this 11) 7 g_this_other)))))))) [0, 6, 1, 2, 3, 4, 5] (by decide) rfl
    refine L_f_X9_matters_J24 g_this_now v1 v2 v3 g_this g_this_trial g_this_chosenBy g_this_toPay g_this_plan g_this_other   _ _ _ h hP hD hS (lv_sub hl [0, 1, 2, 3] rfl)
  · replace h := iteF c2 h
    refine lv_aload_n hx hb dX9_matters_13 rfl (lv_at hl 0 rfl) ?_
    refine gf_X9_13 (v := .ref (a_this 2)) hx hb hqs hown hK hP 0 rfl rfl dX9_matters_14 ?_
    refine lv_iload_n hx hb dX9_matters_17 rfl (lv_at hl 3 rfl) ?_
    obtain ⟨o23, e23, h⟩ := obind h
    have hPc := hP.sub (ws' := (cJ_ dT (a_this 2) 353 g_this_now)) [6] rfl
    have hDc := hD.sub (ws' := (cJ_ dT (a_this 2) 353 g_this_now)) [6] (by decide) rfl
    have hFc := va_free (wc := (cJ_ dT (a_this 2) 353 g_this_now)) hD hS hA [6] rfl
    refine cl_i (wr := (cM a_this g_this ++ (cJ_ dT (a_this 3) 353 g_this_trial ++ (cJ_ dT (a_this 7) 128 g_this_chosenBy ++ (cJ_ dT (a_this 9) 128 g_this_toPay ++ (cI_ dT (a_this 10) 7 g_this_plan ++ (cI_ dT (a_this 11) 7 g_this_other))))))) (va_runS (As := [.ref (a_this 2), .int v3]) (rest := [.ref (a_this 0)]) ⟨hx, hb, hml, hown, hts⟩ (c_X9_isSet l hlt D dT (a_this 2) 353 g_this_now v3 o23 e23 _) (va_cwS 2 hts (TB_S w_1266 w_1267 w_59 w_1268) rfl rfl rfl nd_X9_isSet ⟨Nat.le_of_ble_eq_true rfl, Nat.le_of_ble_eq_true rfl⟩) (cPre.S hPc hDc hK hE hS hFc) rfl rfl hl.1 rfl (lv_room (Nat.le_of_ble_eq_true rfl)) dX9_matters_18 ⟨Nat.zero_le _, Nat.zero_le _⟩) hP hD hS hFc [6] [0, 1, 2, 3, 4, 5] rfl rfl (by decide) (by decide) (fun r23 u23 H locs hw hP hD hS => ?_)
    obtain ⟨rfl, rfl⟩ := hw
    have hP : va_P D vwCl (cM a_this g_this ++ (cJ_ dT (a_this 3) 353 g_this_trial ++ (cJ_ dT (a_this 7) 128 g_this_chosenBy ++ (cJ_ dT (a_this 9) 128 g_this_toPay ++ (cI_ dT (a_this 10) 7 g_this_plan ++ (cI_ dT (a_this 11) 7 g_this_other ++ (cJ_ dT (a_this 2) 353 g_this_now))))))) H := hP
    have hD : va_D A (cM a_this g_this ++ (cJ_ dT (a_this 3) 353 g_this_trial ++ (cJ_ dT (a_this 7) 128 g_this_chosenBy ++ (cJ_ dT (a_this 9) 128 g_this_toPay ++ (cI_ dT (a_this 10) 7 g_this_plan ++ (cI_ dT (a_this 11) 7 g_this_other ++ (cJ_ dT (a_this 2) 353 g_this_now))))))) := hD
    refine lv_if_ne (tgt := 28) hx hb dX9_matters_21 (by decide) (fun c24 => ?_) (fun c24 => ?_)
    · replace h := iteF c24 h
      refine lv_iload_n hx hb dX9_matters_28 rfl (lv_at hl 1 rfl) ?_
      refine lv_iload_n hx hb dX9_matters_29 rfl (lv_at hl 2 rfl) ?_
      refine lv_icmp_ne (tgt := 37) hx hb dX9_matters_30 (by decide) (fun c25 => ?_) (fun c25 => ?_)
      · replace h := iteF c25 h
        refine lv_iconst (v := 0) hx hb dX9_matters_37 (by decide) ?_
        have hP := hP.sub (ws' := (cM a_this g_this ++ (cJ_ dT (a_this 2) 353 g_this_now ++ (cJ_ dT (a_this 3) 353 g_this_trial ++ (cJ_ dT (a_this 7) 128 g_this_chosenBy ++ (cJ_ dT (a_this 9) 128 g_this_toPay ++ (cI_ dT (a_this 10) 7 g_this_plan ++ (cI_ dT (a_this 11) 7 g_this_other)))))))) [0, 6, 1, 2, 3, 4, 5] rfl
        have hD := hD.sub (ws' := (cM a_this g_this ++ (cJ_ dT (a_this 2) 353 g_this_now ++ (cJ_ dT (a_this 3) 353 g_this_trial ++ (cJ_ dT (a_this 7) 128 g_this_chosenBy ++ (cJ_ dT (a_this 9) 128 g_this_toPay ++ (cI_ dT (a_this 10) 7 g_this_plan ++ (cI_ dT (a_this 11) 7 g_this_other)))))))) [0, 6, 1, 2, 3, 4, 5] (by decide) rfl
        refine L_f_X9_matters_J38 g_this_now v1 v2 v3 (0 : Int32) g_this g_this_trial g_this_chosenBy g_this_toPay g_this_plan g_this_other   _ _ _ h hP hD hS (lv_sub hl [0, 1, 2, 3] rfl)
      · replace h := iteT c25 h
        refine lv_iconst (v := 2) hx hb dX9_matters_33 (by decide) ?_
        refine lv_goto (tgt := 38) hx hb dX9_matters_34 (by decide) ?_
        have hP := hP.sub (ws' := (cM a_this g_this ++ (cJ_ dT (a_this 2) 353 g_this_now ++ (cJ_ dT (a_this 3) 353 g_this_trial ++ (cJ_ dT (a_this 7) 128 g_this_chosenBy ++ (cJ_ dT (a_this 9) 128 g_this_toPay ++ (cI_ dT (a_this 10) 7 g_this_plan ++ (cI_ dT (a_this 11) 7 g_this_other)))))))) [0, 6, 1, 2, 3, 4, 5] rfl
        have hD := hD.sub (ws' := (cM a_this g_this ++ (cJ_ dT (a_this 2) 353 g_this_now ++ (cJ_ dT (a_this 3) 353 g_this_trial ++ (cJ_ dT (a_this 7) 128 g_this_chosenBy ++ (cJ_ dT (a_this 9) 128 g_this_toPay ++ (cI_ dT (a_this 10) 7 g_this_plan ++ (cI_ dT (a_this 11) 7 g_this_other)))))))) [0, 6, 1, 2, 3, 4, 5] (by decide) rfl
        refine L_f_X9_matters_J38 g_this_now v1 v2 v3 (2 : Int32) g_this g_this_trial g_this_chosenBy g_this_toPay g_this_plan g_this_other   _ _ _ h hP hD hS (lv_sub hl [0, 1, 2, 3] rfl)
    · replace h := iteT c24 h
      have hP := hP.sub (ws' := (cM a_this g_this ++ (cJ_ dT (a_this 2) 353 g_this_now ++ (cJ_ dT (a_this 3) 353 g_this_trial ++ (cJ_ dT (a_this 7) 128 g_this_chosenBy ++ (cJ_ dT (a_this 9) 128 g_this_toPay ++ (cI_ dT (a_this 10) 7 g_this_plan ++ (cI_ dT (a_this 11) 7 g_this_other)))))))) [0, 6, 1, 2, 3, 4, 5] rfl
      have hD := hD.sub (ws' := (cM a_this g_this ++ (cJ_ dT (a_this 2) 353 g_this_now ++ (cJ_ dT (a_this 3) 353 g_this_trial ++ (cJ_ dT (a_this 7) 128 g_this_chosenBy ++ (cJ_ dT (a_this 9) 128 g_this_toPay ++ (cI_ dT (a_this 10) 7 g_this_plan ++ (cI_ dT (a_this 11) 7 g_this_other)))))))) [0, 6, 1, 2, 3, 4, 5] (by decide) rfl
      refine L_f_X9_matters_J24 g_this_now v1 v2 v3 g_this g_this_trial g_this_chosenBy g_this_toPay g_this_plan g_this_other   _ _ _ h hP hD hS (lv_sub hl [0, 1, 2, 3] rfl)

def f_X9_worst_J80 (g_this_now : Nat → Int64) (k27 : Int32 → Int64 → Int32 → Option (Int32 × (TM))) (x1 : Int32) (x2 : Int64) (x4 : Int32) (x5 : Int32) (x6 : Int32) (s0 : Int64) (g_this : TM) : Option (Int32 × (TM)) :=
    (if inb ((8 : Int32) + x6) 353 = true then (if (lg_cmp (g_this_now ((8 : Int32) + x6).toNatClampNeg) (0 : Int64)) ≤ (0 : Int32) then (k27 x1 x2 (x5 + (1 : Int32))) else (if (lg_cmp s0 x2) ≤ (0 : Int32) then (k27 x1 x2 (x5 + (1 : Int32))) else (k27 (((10 : Int32) * x4) + x5) s0 (x5 + (1 : Int32))))) else none)
def f_X9_worst_L27 (g_this : TM) (g_this_now : Nat → Int64) (x4 : Int32) (k122 : Int32 → Int64 → Option (Int32 × (TM))) : Nat → Int32 → Int64 → Int32 → Option (Int32 × (TM))
  | 0, _, _, _ => none
  | n + 1, x1, x2, x5 =>
    (if (7 : Int32) ≤ x5 then (k122 x1 x2) else ((f_X9_pairOf x4 x5).bind fun o3 => ((f_X9_believed 353 g_this_now o3.1).bind fun o4 => (if inb ((106 : Int32) + o3.1) 353 = true then (if (0 : Int32) ≤ (lg_cmp (o4.1 - (g_this_now ((106 : Int32) + o3.1).toNatClampNeg)) (0 : Int64)) then (f_X9_worst_J80 g_this_now (fun x1 x2 x5 => f_X9_worst_L27 g_this g_this_now x4 k122 n x1 x2 x5) x1 x2 x4 x5 o3.1 (o4.1 - (g_this_now ((106 : Int32) + o3.1).toNatClampNeg)) g_this) else (f_X9_worst_J80 g_this_now (fun x1 x2 x5 => f_X9_worst_L27 g_this g_this_now x4 k122 n x1 x2 x5) x1 x2 x4 x5 o3.1 (-(o4.1 - (g_this_now ((106 : Int32) + o3.1).toNatClampNeg))) g_this)) else none))))
def f_X9_worst_L14 (g_this : TM) (g_this_now : Nat → Int64)  : Nat → Int32 → Int64 → Int32 → Option (Int32 × (TM))
  | 0, _, _, _ => none
  | n + 1, x1, x2, x4 =>
    (if (7 : Int32) ≤ x4 then (some (x1, g_this)) else (f_X9_worst_L27 g_this g_this_now x4 (fun (y10x1 : Int32) (y10x2 : Int64) => (f_X9_worst_L14 g_this g_this_now n y10x1 y10x2 (x4 + (1 : Int32)))) FUEL x1 x2 (x4 + (1 : Int32))))
def f_X9_worst (g_this : TM) (g_this_now : Nat → Int64) : Option (Int32 × (TM)) :=
  (f_X9_worst_L14 (M_mk (0 : Int32) (M_size g_this) (M_acts g_this) (M_planned g_this) (M_spot g_this) (M_out g_this)) g_this_now FUEL (-1 : Int32) (-1 : Int64) (0 : Int32))
set_option maxHeartbeats 8000000 in
set_option maxRecDepth 100000 in
theorem c_X9_worst (l : Launch) (hlt : l.stackTraces = false) (D : va_G) (dT : Nat → ClassId) (a_this : Nat → Nat) (g_this : TM) (g_this_now : Nat → Int64) (o : (Int32 × (TM))) (h : f_X9_worst g_this g_this_now = some o) (sz : Nat) : Met l yX9_worst (WSm yX9_worst cX9_worst 9 (some .int)) { frames := 1, cells := 0, slots := 0, locals := 21 } (va_Pc [.ref (a_this 0)] (cPre D dT (cM a_this g_this ++ (cJ_ dT (a_this 2) 353 g_this_now)) sz)) (va_Qi (fun (r : Int32) (u : TM) => r = o.1 ∧ u = o.2) (fun u t => cAt D dT (va_A (cM a_this g_this ++ (cJ_ dT (a_this 2) 353 g_this_now)) sz) (cM a_this u ++ (cJ_ dT (a_this 2) 353 g_this_now)) t) (va_A (cM a_this g_this ++ (cJ_ dT (a_this 2) 353 g_this_now)) sz)) 0 0 (va_A (cM a_this g_this ++ (cJ_ dT (a_this 2) 353 g_this_now)) sz) := by
  refine mStart (WS := (cM a_this g_this ++ (cJ_ dT (a_this 2) 353 g_this_now))) (Qc := fun A => va_Qi (fun (r : Int32) (u : TM) => r = o.1 ∧ u = o.2) (fun u t => cAt D dT A (cM a_this u ++ (cJ_ dT (a_this 2) 353 g_this_now)) t) A) RX9 rfl (by decide) (Nat.le_of_ble_eq_true rfl) ?_ sz
  intro p e s m below meth c A ls hx hb hml hr hlk hnm hts hqs hown hE hA hK hP hD hS hl
  have hl : lv_has ls 9 [(0, .ref (a_this 0))] := hl
  have L_f_X9_worst_J80 : ∀ (g_this_now : Nat → Int64) (x1 : Int32) (x2 : Int64) (x4 : Int32) (x5 : Int32) (x6 : Int32) (s0 : Int64) (g_this : TM) (k27 : Int32 → Int64 → Int32 → Option (Int32 × (TM))) (hk27 : ∀ (x1 : Int32) (x2 : Int64) (x5 : Int32) (H : Heap) (locs : List Loc) (ls : Array Slot), k27 x1 x2 x5 = some o → va_P D vwCl (cM a_this g_this ++ (cJ_ dT (a_this 2) 353 g_this_now)) H → va_D A (cM a_this g_this ++ (cJ_ dT (a_this 2) 353 g_this_now)) → va_S A s.heap H locs → lv_has ls 9 [(0, .ref (a_this 0)), (1, .int x1), (2, .long x2), (4, .int x4), (5, .int x5)] → W p l e (headSpec (WSm yX9_worst cX9_worst 9 (some .int)) { frames := 1, cells := 0, slots := 0, locals := 21 }).room s m [.ref (a_this 0)].toArray below meth c H locs 0 0 (MQ below (va_Qi (fun (r : Int32) (u : TM) => r = o.1 ∧ u = o.2) (fun u t => cAt D dT A (cM a_this u ++ (cJ_ dT (a_this 2) 353 g_this_now)) t) A) [.ref (a_this 0)].toArray s 0 0 A) (F0 m 27 ls [])) (H : Heap) (locs : List Loc) (ls : Array Slot), f_X9_worst_J80 g_this_now k27 x1 x2 x4 x5 x6 s0 g_this = some o → va_P D vwCl (cM a_this g_this ++ (cJ_ dT (a_this 2) 353 g_this_now)) H → va_D A (cM a_this g_this ++ (cJ_ dT (a_this 2) 353 g_this_now)) → va_S A s.heap H locs → lv_has ls 9 [(0, .ref (a_this 0)), (1, .int x1), (2, .long x2), (4, .int x4), (5, .int x5), (6, .int x6)] → W p l e (headSpec (WSm yX9_worst cX9_worst 9 (some .int)) { frames := 1, cells := 0, slots := 0, locals := 21 }).room s m [.ref (a_this 0)].toArray below meth c H locs 0 0 (MQ below (va_Qi (fun (r : Int32) (u : TM) => r = o.1 ∧ u = o.2) (fun u t => cAt D dT A (cM a_this u ++ (cJ_ dT (a_this 2) 353 g_this_now)) t) A) [.ref (a_this 0)].toArray s 0 0 A) (F0 m 80 ls [.long s0]) := by
    intro g_this_now x1 x2 x4 x5 x6 s0 g_this k27 hk27 H locs ls h hP hD hS hl
    unfold f_X9_worst_J80 at h
    refine lv_lstore (lv' := [(7, .long s0), (0, .ref (a_this 0)), (1, .int x1), (2, .long x2), (4, .int x4), (5, .int x5), (6, .int x6)]) hx hb dX9_worst_80 hl (by decide) rfl (fun ls hl => ?_)
    refine lv_aload_n hx hb dX9_worst_82 rfl (lv_at hl 1 rfl) ?_
    refine gf_X9_13 (v := .ref (a_this 2)) hx hb hqs hown hK hP 0 rfl rfl dX9_worst_83 ?_
    refine lv_bipush (v := 8) hx hb dX9_worst_86 (by decide) ?_
    refine lv_iload hx hb dX9_worst_88 (lv_at hl 6 rfl) ?_
    refine lv_iadd hx hb dX9_worst_90 ?_
    obtain ⟨g7, h⟩ := chk h
    refine va_lald hx hb hK hP 1 1 rfl rfl (inb_in g7) dX9_worst_91 ?_
    refine lv_lconst (v := 0) hx hb dX9_worst_92 (by decide) ?_
    refine W.lcmp hx hb dX9_worst_93 ?_
    refine lv_if_le (tgt := 116) hx hb dX9_worst_94 (by decide) (fun c8 => ?_) (fun c8 => ?_)
    · replace h := iteT c8 h
      refine lv_iinc (v := (x5 + (1 : Int32))) (lv' := [(5, .int (x5 + (1 : Int32))), (7, .long s0), (0, .ref (a_this 0)), (1, .int x1), (2, .long x2), (4, .int x4), (6, .int x6)]) hx hb dX9_worst_116 hl (k := 5) rfl rfl (by decide) rfl (fun ls hl => ?_)
      refine lv_goto (tgt := 27) hx hb dX9_worst_119 (by decide) ?_
      exact hk27 x1 x2 (x5 + (1 : Int32)) _ _ _ h hP hD hS (lv_sub hl [2, 3, 4, 5, 0] rfl)
    · replace h := iteF c8 h
      refine lv_lload hx hb dX9_worst_97 (lv_at hl 0 rfl) ?_
      refine lv_lload_n hx hb dX9_worst_99 rfl (lv_at hl 3 rfl) ?_
      refine W.lcmp hx hb dX9_worst_100 ?_
      refine lv_if_le (tgt := 116) hx hb dX9_worst_101 (by decide) (fun c9 => ?_) (fun c9 => ?_)
      · replace h := iteT c9 h
        refine lv_iinc (v := (x5 + (1 : Int32))) (lv' := [(5, .int (x5 + (1 : Int32))), (7, .long s0), (0, .ref (a_this 0)), (1, .int x1), (2, .long x2), (4, .int x4), (6, .int x6)]) hx hb dX9_worst_116 hl (k := 5) rfl rfl (by decide) rfl (fun ls hl => ?_)
        refine lv_goto (tgt := 27) hx hb dX9_worst_119 (by decide) ?_
        exact hk27 x1 x2 (x5 + (1 : Int32)) _ _ _ h hP hD hS (lv_sub hl [2, 3, 4, 5, 0] rfl)
      · replace h := iteF c9 h
        refine lv_bipush (v := 10) hx hb dX9_worst_104 (by decide) ?_
        refine lv_iload hx hb dX9_worst_106 (lv_at hl 4 rfl) ?_
        refine lv_imul hx hb dX9_worst_108 ?_
        refine lv_iload hx hb dX9_worst_109 (lv_at hl 5 rfl) ?_
        refine lv_iadd hx hb dX9_worst_111 ?_
        refine lv_istore_n (lv' := [(1, .int (((10 : Int32) * x4) + x5)), (7, .long s0), (0, .ref (a_this 0)), (2, .long x2), (4, .int x4), (5, .int x5), (6, .int x6)]) hx hb dX9_worst_112 rfl hl (by decide) rfl (fun ls hl => ?_)
        refine lv_lload hx hb dX9_worst_113 (lv_at hl 1 rfl) ?_
        refine lv_lstore_n (lv' := [(2, .long s0), (1, .int (((10 : Int32) * x4) + x5)), (7, .long s0), (0, .ref (a_this 0)), (4, .int x4), (5, .int x5), (6, .int x6)]) hx hb dX9_worst_115 rfl hl (by decide) rfl (fun ls hl => ?_)
        refine lv_iinc (v := (x5 + (1 : Int32))) (lv' := [(5, .int (x5 + (1 : Int32))), (2, .long s0), (1, .int (((10 : Int32) * x4) + x5)), (7, .long s0), (0, .ref (a_this 0)), (4, .int x4), (6, .int x6)]) hx hb dX9_worst_116 hl (k := 5) rfl rfl (by decide) rfl (fun ls hl => ?_)
        refine lv_goto (tgt := 27) hx hb dX9_worst_119 (by decide) ?_
        exact hk27 (((10 : Int32) * x4) + x5) s0 (x5 + (1 : Int32)) _ _ _ h hP hD hS (lv_sub hl [4, 2, 1, 5, 0] rfl)
  have L_f_X9_worst_L27 : ∀ (g_this : TM) (g_this_now : Nat → Int64) (x4 : Int32) (k122 : Int32 → Int64 → Option (Int32 × (TM))) (hk122 : ∀ (x1 : Int32) (x2 : Int64) (H : Heap) (locs : List Loc) (ls : Array Slot), k122 x1 x2 = some o → va_P D vwCl (cM a_this g_this ++ (cJ_ dT (a_this 2) 353 g_this_now)) H → va_D A (cM a_this g_this ++ (cJ_ dT (a_this 2) 353 g_this_now)) → va_S A s.heap H locs → lv_has ls 9 [(0, .ref (a_this 0)), (1, .int x1), (2, .long x2), (4, .int x4)] → W p l e (headSpec (WSm yX9_worst cX9_worst 9 (some .int)) { frames := 1, cells := 0, slots := 0, locals := 21 }).room s m [.ref (a_this 0)].toArray below meth c H locs 0 0 (MQ below (va_Qi (fun (r : Int32) (u : TM) => r = o.1 ∧ u = o.2) (fun u t => cAt D dT A (cM a_this u ++ (cJ_ dT (a_this 2) 353 g_this_now)) t) A) [.ref (a_this 0)].toArray s 0 0 A) (F0 m 122 ls [])) (n : Nat), ∀ (x1 : Int32) (x2 : Int64) (x5 : Int32) (H : Heap) (locs : List Loc) (ls : Array Slot), f_X9_worst_L27 g_this g_this_now x4 k122 n x1 x2 x5 = some o → va_P D vwCl (cM a_this g_this ++ (cJ_ dT (a_this 2) 353 g_this_now)) H → va_D A (cM a_this g_this ++ (cJ_ dT (a_this 2) 353 g_this_now)) → va_S A s.heap H locs → lv_has ls 9 [(0, .ref (a_this 0)), (1, .int x1), (2, .long x2), (4, .int x4), (5, .int x5)] → W p l e (headSpec (WSm yX9_worst cX9_worst 9 (some .int)) { frames := 1, cells := 0, slots := 0, locals := 21 }).room s m [.ref (a_this 0)].toArray below meth c H locs 0 0 (MQ below (va_Qi (fun (r : Int32) (u : TM) => r = o.1 ∧ u = o.2) (fun u t => cAt D dT A (cM a_this u ++ (cJ_ dT (a_this 2) 353 g_this_now)) t) A) [.ref (a_this 0)].toArray s 0 0 A) (F0 m 27 ls []) := by
    intro g_this g_this_now x4 k122 hk122 n
    induction n with
    | zero => intro x1 x2 x5 H locs ls h; exact nomatch h
    | succ n ih =>
      intro x1 x2 x5 H locs ls h hP hD hS hl
      unfold f_X9_worst_L27 at h
      refine lv_iload hx hb dX9_worst_27 (lv_at hl 4 rfl) ?_
      refine lv_bipush (v := 7) hx hb dX9_worst_29 (by decide) ?_
      refine lv_icmp_ge (tgt := 122) hx hb dX9_worst_31 (by decide) (fun c2 => ?_) (fun c2 => ?_)
      · replace h := iteT c2 h
        exact hk122 x1 x2 _ _ _ h hP hD hS (lv_sub hl [0, 1, 2, 3] rfl)
      · replace h := iteF c2 h
        refine lv_iload hx hb dX9_worst_34 (lv_at hl 3 rfl) ?_
        refine lv_iload hx hb dX9_worst_36 (lv_at hl 4 rfl) ?_
        obtain ⟨o3, e3, h⟩ := obind h
        have hPc := hP.sub (ws' := ([] : va_W)) [] rfl
        have hDc := hD.sub (ws' := ([] : va_W)) [] (by decide) rfl
        have hFc := va_free (wc := ([] : va_W)) hD hS hA [] rfl
        refine cl_i (wr := (cM a_this g_this ++ (cJ_ dT (a_this 2) 353 g_this_now))) (va_runS (As := [.int x4, .int x5]) (rest := []) ⟨hx, hb, hml, hown, hts⟩ (c_X9_pairOf l hlt D dT x4 x5 o3 e3 _) (va_cwS 2 hts (TB_S w_1181 w_1182 w_59 w_1183) rfl rfl rfl nd_X9_pairOf ⟨Nat.le_of_ble_eq_true rfl, Nat.le_of_ble_eq_true rfl⟩) (cPre.S hPc hDc hK hE hS hFc) rfl rfl hl.1 rfl (lv_room (Nat.le_of_ble_eq_true rfl)) dX9_worst_38 ⟨Nat.zero_le _, Nat.zero_le _⟩) hP hD hS hFc [] [0, 1] rfl rfl (by decide) (by decide) (fun r3 u3 H locs hw hP hD hS => ?_)
        obtain ⟨rfl, rfl⟩ := hw
        have hP : va_P D vwCl (cM a_this g_this ++ (cJ_ dT (a_this 2) 353 g_this_now)) H := hP
        have hD : va_D A (cM a_this g_this ++ (cJ_ dT (a_this 2) 353 g_this_now)) := hD
        refine lv_istore (lv' := [(6, .int o3.1), (0, .ref (a_this 0)), (1, .int x1), (2, .long x2), (4, .int x4), (5, .int x5)]) hx hb dX9_worst_41 hl (by decide) rfl (fun ls hl => ?_)
        refine lv_aload_n hx hb dX9_worst_43 rfl (lv_at hl 1 rfl) ?_
        refine gf_X9_13 (v := .ref (a_this 2)) hx hb hqs hown hK hP 0 rfl rfl dX9_worst_44 ?_
        refine lv_iload hx hb dX9_worst_47 (lv_at hl 0 rfl) ?_
        obtain ⟨o4, e4, h⟩ := obind h
        have hPc := hP.sub (ws' := (cJ_ dT (a_this 2) 353 g_this_now)) [1] rfl
        have hDc := hD.sub (ws' := (cJ_ dT (a_this 2) 353 g_this_now)) [1] (by decide) rfl
        have hFc := va_free (wc := (cJ_ dT (a_this 2) 353 g_this_now)) hD hS hA [1] rfl
        refine cl_l (wr := (cM a_this g_this)) (va_runS (As := [.ref (a_this 2), .int o3.1]) (rest := []) ⟨hx, hb, hml, hown, hts⟩ (c_X9_believed l hlt D dT (a_this 2) 353 g_this_now o3.1 o4 e4 _) (va_cwS 2 hts (TB_S w_1215 w_1216 w_59 w_1217) rfl rfl rfl nd_X9_believed ⟨Nat.le_of_ble_eq_true rfl, Nat.le_of_ble_eq_true rfl⟩) (cPre.S hPc hDc hK hE hS hFc) rfl rfl hl.1 rfl (lv_room (Nat.le_of_ble_eq_true rfl)) dX9_worst_49 ⟨Nat.zero_le _, Nat.zero_le _⟩) hP hD hS hFc [1] [0] rfl rfl (by decide) (by decide) (fun r4 u4 H locs hw hP hD hS => ?_)
        obtain ⟨rfl, rfl⟩ := hw
        have hP : va_P D vwCl (cM a_this g_this ++ (cJ_ dT (a_this 2) 353 g_this_now)) H := hP
        have hD : va_D A (cM a_this g_this ++ (cJ_ dT (a_this 2) 353 g_this_now)) := hD
        refine lv_aload_n hx hb dX9_worst_52 rfl (lv_at hl 1 rfl) ?_
        refine gf_X9_13 (v := .ref (a_this 2)) hx hb hqs hown hK hP 0 rfl rfl dX9_worst_53 ?_
        refine lv_bipush (v := 106) hx hb dX9_worst_56 (by decide) ?_
        refine lv_iload hx hb dX9_worst_58 (lv_at hl 0 rfl) ?_
        refine lv_iadd hx hb dX9_worst_60 ?_
        obtain ⟨g5, h⟩ := chk h
        refine va_lald hx hb hK hP 1 1 rfl rfl (inb_in g5) dX9_worst_61 ?_
        refine lv_lsub hx hb dX9_worst_62 ?_
        refine lv_lstore (lv' := [(7, .long (o4.1 - (g_this_now ((106 : Int32) + o3.1).toNatClampNeg))), (6, .int o3.1), (0, .ref (a_this 0)), (1, .int x1), (2, .long x2), (4, .int x4), (5, .int x5)]) hx hb dX9_worst_63 hl (by decide) rfl (fun ls hl => ?_)
        refine lv_lload hx hb dX9_worst_65 (lv_at hl 0 rfl) ?_
        refine lv_lconst (v := 0) hx hb dX9_worst_67 (by decide) ?_
        refine W.lcmp hx hb dX9_worst_68 ?_
        refine lv_if_ge (tgt := 78) hx hb dX9_worst_69 (by decide) (fun c6 => ?_) (fun c6 => ?_)
        · replace h := iteT c6 h
          refine lv_lload hx hb dX9_worst_78 (lv_at hl 0 rfl) ?_
          refine L_f_X9_worst_J80 g_this_now x1 x2 x4 x5 o3.1 (o4.1 - (g_this_now ((106 : Int32) + o3.1).toNatClampNeg)) g_this _ ih _ _ _ h hP hD hS (lv_sub hl [2, 3, 4, 5, 6, 1] rfl)
        · replace h := iteF c6 h
          refine lv_lload hx hb dX9_worst_72 (lv_at hl 0 rfl) ?_
          refine lv_lneg hx hb dX9_worst_74 ?_
          refine lv_goto (tgt := 80) hx hb dX9_worst_75 (by decide) ?_
          refine L_f_X9_worst_J80 g_this_now x1 x2 x4 x5 o3.1 (-(o4.1 - (g_this_now ((106 : Int32) + o3.1).toNatClampNeg))) g_this _ ih _ _ _ h hP hD hS (lv_sub hl [2, 3, 4, 5, 6, 1] rfl)
  have L_f_X9_worst_L14 : ∀ (g_this : TM) (g_this_now : Nat → Int64)   (n : Nat), ∀ (x1 : Int32) (x2 : Int64) (x4 : Int32) (H : Heap) (locs : List Loc) (ls : Array Slot), f_X9_worst_L14 g_this g_this_now  n x1 x2 x4 = some o → va_P D vwCl (cM a_this g_this ++ (cJ_ dT (a_this 2) 353 g_this_now)) H → va_D A (cM a_this g_this ++ (cJ_ dT (a_this 2) 353 g_this_now)) → va_S A s.heap H locs → lv_has ls 9 [(0, .ref (a_this 0)), (1, .int x1), (2, .long x2), (4, .int x4)] → W p l e (headSpec (WSm yX9_worst cX9_worst 9 (some .int)) { frames := 1, cells := 0, slots := 0, locals := 21 }).room s m [.ref (a_this 0)].toArray below meth c H locs 0 0 (MQ below (va_Qi (fun (r : Int32) (u : TM) => r = o.1 ∧ u = o.2) (fun u t => cAt D dT A (cM a_this u ++ (cJ_ dT (a_this 2) 353 g_this_now)) t) A) [.ref (a_this 0)].toArray s 0 0 A) (F0 m 14 ls []) := by
    intro g_this g_this_now   n
    induction n with
    | zero => intro x1 x2 x4 H locs ls h; exact nomatch h
    | succ n ih =>
      intro x1 x2 x4 H locs ls h hP hD hS hl
      unfold f_X9_worst_L14 at h
      refine lv_iload hx hb dX9_worst_14 (lv_at hl 3 rfl) ?_
      refine lv_bipush (v := 7) hx hb dX9_worst_16 (by decide) ?_
      refine lv_icmp_ge (tgt := 128) hx hb dX9_worst_18 (by decide) (fun c1 => ?_) (fun c1 => ?_)
      · replace h := iteT c1 h
        refine lv_iload_n hx hb dX9_worst_128 rfl (lv_at hl 1 rfl) ?_
        exact rt_i hx hb hr hlk hK hS (g_this : TM) (ret2 h) hP hD dX9_worst_129
      · replace h := iteF c1 h
        refine lv_iload hx hb dX9_worst_21 (lv_at hl 3 rfl) ?_
        refine lv_iconst (v := 1) hx hb dX9_worst_23 (by decide) ?_
        refine lv_iadd hx hb dX9_worst_24 ?_
        refine lv_istore (lv' := [(5, .int (x4 + (1 : Int32))), (0, .ref (a_this 0)), (1, .int x1), (2, .long x2), (4, .int x4)]) hx hb dX9_worst_25 hl (by decide) rfl (fun ls hl => ?_)
        refine L_f_X9_worst_L27 g_this g_this_now x4 _ ?_ FUEL x1 x2 (x4 + (1 : Int32)) _ _ _ h hP hD hS (lv_sub hl [1, 2, 3, 4, 0] rfl)
        · intro y10x1 y10x2 H locs ls h hP hD hS hl
          refine lv_iinc (v := (x4 + (1 : Int32))) (lv' := [(4, .int (x4 + (1 : Int32))), (0, .ref (a_this 0)), (1, .int y10x1), (2, .long y10x2)]) hx hb dX9_worst_122 hl (k := 3) rfl rfl (by decide) rfl (fun ls hl => ?_)
          refine lv_goto (tgt := 14) hx hb dX9_worst_125 (by decide) ?_
          exact ih y10x1 y10x2 (x4 + (1 : Int32)) _ _ _ h hP hD hS (lv_sub hl [1, 2, 3, 0] rfl)
  unfold f_X9_worst at h
  refine lv_aload_n hx hb dX9_worst_0 rfl (lv_at hl 0 rfl) ?_
  refine lv_iconst (v := 0) hx hb dX9_worst_1 (by decide) ?_
  refine pf_X9_55 hx hb hqs hown hK hP hD hS 0 rfl rfl dX9_worst_2 (fun H locs hP hD hS => ?_)
  have hP : va_P D vwCl ([(a_this 0, .inr (8, [.int (0 : Int32), .ref (a_this 1), .int (M_size g_this), .ref (a_this 2), .ref (a_this 3), .ref (a_this 4), .int (M_acts g_this), .ref (a_this 5), .ref (a_this 6), .ref (a_this 7), .ref (a_this 8), .ref (a_this 9), .ref (a_this 10), .int (M_planned g_this), .int (M_spot g_this), .int (M_out g_this), .ref (a_this 11)]))] ++ (cJ_ dT (a_this 2) 353 g_this_now)) H := hP
  have hD : va_D A ([(a_this 0, .inr (8, [.int (0 : Int32), .ref (a_this 1), .int (M_size g_this), .ref (a_this 2), .ref (a_this 3), .ref (a_this 4), .int (M_acts g_this), .ref (a_this 5), .ref (a_this 6), .ref (a_this 7), .ref (a_this 8), .ref (a_this 9), .ref (a_this 10), .int (M_planned g_this), .int (M_spot g_this), .int (M_out g_this), .ref (a_this 11)]))] ++ (cJ_ dT (a_this 2) 353 g_this_now)) := hD
  refine lv_iconst (v := -1) hx hb dX9_worst_5 (by decide) ?_
  refine lv_istore_n (lv' := [(1, .int (-1 : Int32)), (0, .ref (a_this 0))]) hx hb dX9_worst_6 rfl hl (by decide) rfl (fun ls hl => ?_)
  refine lv_ldc2 (v := -1) hx hb hown (hqs _ w_1295) dX9_worst_7 ?_
  refine lv_lstore_n (lv' := [(2, .long (-1 : Int64)), (1, .int (-1 : Int32)), (0, .ref (a_this 0))]) hx hb dX9_worst_10 rfl hl (by decide) rfl (fun ls hl => ?_)
  refine lv_iconst (v := 0) hx hb dX9_worst_11 (by decide) ?_
  refine lv_istore (lv' := [(4, .int (0 : Int32)), (2, .long (-1 : Int64)), (1, .int (-1 : Int32)), (0, .ref (a_this 0))]) hx hb dX9_worst_12 hl (by decide) rfl (fun ls hl => ?_)
  refine L_f_X9_worst_L14 (M_mk (0 : Int32) (M_size g_this) (M_acts g_this) (M_planned g_this) (M_spot g_this) (M_out g_this)) g_this_now   FUEL (-1 : Int32) (-1 : Int64) (0 : Int32) _ _ _ h hP hD hS (lv_sub hl [3, 2, 1, 0] rfl)

def f_X9_learnsIn_L32 (g_this_now : Nat → Int64) (x1 : Int32)  : Nat → Int32 → TM → (Nat → Int64) → (Nat → Int64) → (Nat → Int64) → (Nat → Int64) → (Nat → Int32) → Option (Int32 × (TM × (Nat → Int64) × (Nat → Int64) × (Nat → Int64) × (Nat → Int64) × (Nat → Int32)))
  | 0, _, _, _, _, _, _, _ => none
  | n + 1, x2, g_this, g_this_trial, g_this_chosenBy, g_this_paidBy, g_this_toPay, g_this_plan =>
    (if (30 : Int32) < x2 then (some ((-1 : Int32), (g_this, g_this_trial, g_this_chosenBy, g_this_paidBy, g_this_toPay, g_this_plan))) else ((f_X9_costOn 353 g_this g_this_chosenBy g_this_paidBy g_this_toPay g_this_plan g_this_trial x1 (2 : Int32)).bind fun o6 => (if (lg_cmp o6.1 (0 : Int64)) = (0 : Int32) then (some (x2, (o6.2.1, g_this_trial, o6.2.2.1, o6.2.2.2.1, o6.2.2.2.2.1, o6.2.2.2.2.2))) else ((f_X9_runOn 353 o6.2.1 o6.2.2.1 o6.2.2.2.1 o6.2.2.2.2.1 o6.2.2.2.2.2 g_this_trial x1).bind fun o8 => (f_X9_learnsIn_L32 g_this_now x1 n (x2 + (1 : Int32)) o8.2.1 o8.2.2.2.2.2.2 o8.2.2.1 o8.2.2.2.1 o8.2.2.2.2.1 o8.2.2.2.2.2.1)))))
def f_X9_learnsIn (g_this : TM) (g_this_now : Nat → Int64) (g_this_trial : Nat → Int64) (g_this_chosenBy : Nat → Int64) (g_this_paidBy : Nat → Int64) (g_this_toPay : Nat → Int64) (g_this_plan : Nat → Int32) (v1 : Int32) : Option (Int32 × (TM × (Nat → Int64) × (Nat → Int64) × (Nat → Int64) × (Nat → Int64) × (Nat → Int32))) :=
  ((f_X9_whyNotRun 353 g_this_now v1).bind fun o1 => ((f_X9_refused g_this o1.1).bind fun o2 => (if o2.1 = (0 : Int32) then ((f_X9_copyWorld 353 353 g_this_now g_this_trial (0 : Int32) (0 : Int32)).bind fun o4 => (f_X9_learnsIn_L32 g_this_now v1 FUEL (0 : Int32) o2.2 o4.2 g_this_chosenBy g_this_paidBy g_this_toPay g_this_plan)) else (some ((0 : Int32), (o2.2, g_this_trial, g_this_chosenBy, g_this_paidBy, g_this_toPay, g_this_plan))))))
set_option maxHeartbeats 8000000 in
set_option maxRecDepth 100000 in
theorem c_X9_learnsIn (l : Launch) (hlt : l.stackTraces = false) (D : va_G) (dT : Nat → ClassId) (a_this : Nat → Nat) (g_this : TM) (g_this_now : Nat → Int64) (g_this_trial : Nat → Int64) (g_this_chosenBy : Nat → Int64) (g_this_paidBy : Nat → Int64) (g_this_toPay : Nat → Int64) (g_this_plan : Nat → Int32) (v1 : Int32) (o : (Int32 × (TM × (Nat → Int64) × (Nat → Int64) × (Nat → Int64) × (Nat → Int64) × (Nat → Int32)))) (h : f_X9_learnsIn g_this g_this_now g_this_trial g_this_chosenBy g_this_paidBy g_this_toPay g_this_plan v1 = some o) (sz : Nat) : Met l yX9_learnsIn (WSm yX9_learnsIn cX9_learnsIn 3 (some .int)) { frames := 7, cells := 0, slots := 0, locals := 177 } (va_Pc [.ref (a_this 0), .int v1] (cPre D dT (cM a_this g_this ++ (cJ_ dT (a_this 2) 353 g_this_now ++ (cJ_ dT (a_this 3) 353 g_this_trial ++ (cJ_ dT (a_this 7) 128 g_this_chosenBy ++ (cJ_ dT (a_this 8) 128 g_this_paidBy ++ (cJ_ dT (a_this 9) 128 g_this_toPay ++ (cI_ dT (a_this 10) 7 g_this_plan))))))) sz)) (va_Qi (fun (r : Int32) (u : TM × (Nat → Int64) × (Nat → Int64) × (Nat → Int64) × (Nat → Int64) × (Nat → Int32)) => r = o.1 ∧ u = o.2) (fun u t => cAt D dT (va_A (cM a_this g_this ++ (cJ_ dT (a_this 2) 353 g_this_now ++ (cJ_ dT (a_this 3) 353 g_this_trial ++ (cJ_ dT (a_this 7) 128 g_this_chosenBy ++ (cJ_ dT (a_this 8) 128 g_this_paidBy ++ (cJ_ dT (a_this 9) 128 g_this_toPay ++ (cI_ dT (a_this 10) 7 g_this_plan))))))) sz) (cM a_this (u.1) ++ (cJ_ dT (a_this 2) 353 g_this_now ++ (cJ_ dT (a_this 3) 353 (u.2.1) ++ (cJ_ dT (a_this 7) 128 (u.2.2.1) ++ (cJ_ dT (a_this 8) 128 (u.2.2.2.1) ++ (cJ_ dT (a_this 9) 128 (u.2.2.2.2.1) ++ (cI_ dT (a_this 10) 7 (u.2.2.2.2.2)))))))) t) (va_A (cM a_this g_this ++ (cJ_ dT (a_this 2) 353 g_this_now ++ (cJ_ dT (a_this 3) 353 g_this_trial ++ (cJ_ dT (a_this 7) 128 g_this_chosenBy ++ (cJ_ dT (a_this 8) 128 g_this_paidBy ++ (cJ_ dT (a_this 9) 128 g_this_toPay ++ (cI_ dT (a_this 10) 7 g_this_plan))))))) sz)) 0 0 (va_A (cM a_this g_this ++ (cJ_ dT (a_this 2) 353 g_this_now ++ (cJ_ dT (a_this 3) 353 g_this_trial ++ (cJ_ dT (a_this 7) 128 g_this_chosenBy ++ (cJ_ dT (a_this 8) 128 g_this_paidBy ++ (cJ_ dT (a_this 9) 128 g_this_toPay ++ (cI_ dT (a_this 10) 7 g_this_plan))))))) sz) := by
  refine mStart (WS := (cM a_this g_this ++ (cJ_ dT (a_this 2) 353 g_this_now ++ (cJ_ dT (a_this 3) 353 g_this_trial ++ (cJ_ dT (a_this 7) 128 g_this_chosenBy ++ (cJ_ dT (a_this 8) 128 g_this_paidBy ++ (cJ_ dT (a_this 9) 128 g_this_toPay ++ (cI_ dT (a_this 10) 7 g_this_plan)))))))) (Qc := fun A => va_Qi (fun (r : Int32) (u : TM × (Nat → Int64) × (Nat → Int64) × (Nat → Int64) × (Nat → Int64) × (Nat → Int32)) => r = o.1 ∧ u = o.2) (fun u t => cAt D dT A (cM a_this (u.1) ++ (cJ_ dT (a_this 2) 353 g_this_now ++ (cJ_ dT (a_this 3) 353 (u.2.1) ++ (cJ_ dT (a_this 7) 128 (u.2.2.1) ++ (cJ_ dT (a_this 8) 128 (u.2.2.2.1) ++ (cJ_ dT (a_this 9) 128 (u.2.2.2.2.1) ++ (cI_ dT (a_this 10) 7 (u.2.2.2.2.2)))))))) t) A) RX9 rfl (by decide) (Nat.le_of_ble_eq_true rfl) ?_ sz
  intro p e s m below meth c A ls hx hb hml hr hlk hnm hts hqs hown hE hA hK hP hD hS hl
  have hl : lv_has ls 3 [(0, .ref (a_this 0)), (1, .int v1)] := hl
  have L_f_X9_learnsIn_L32 : ∀ (g_this_now : Nat → Int64) (x1 : Int32)   (n : Nat), ∀ (x2 : Int32) (g_this : TM) (g_this_trial : Nat → Int64) (g_this_chosenBy : Nat → Int64) (g_this_paidBy : Nat → Int64) (g_this_toPay : Nat → Int64) (g_this_plan : Nat → Int32) (H : Heap) (locs : List Loc) (ls : Array Slot), f_X9_learnsIn_L32 g_this_now x1  n x2 g_this g_this_trial g_this_chosenBy g_this_paidBy g_this_toPay g_this_plan = some o → va_P D vwCl (cM a_this g_this ++ (cJ_ dT (a_this 2) 353 g_this_now ++ (cJ_ dT (a_this 3) 353 g_this_trial ++ (cJ_ dT (a_this 7) 128 g_this_chosenBy ++ (cJ_ dT (a_this 8) 128 g_this_paidBy ++ (cJ_ dT (a_this 9) 128 g_this_toPay ++ (cI_ dT (a_this 10) 7 g_this_plan))))))) H → va_D A (cM a_this g_this ++ (cJ_ dT (a_this 2) 353 g_this_now ++ (cJ_ dT (a_this 3) 353 g_this_trial ++ (cJ_ dT (a_this 7) 128 g_this_chosenBy ++ (cJ_ dT (a_this 8) 128 g_this_paidBy ++ (cJ_ dT (a_this 9) 128 g_this_toPay ++ (cI_ dT (a_this 10) 7 g_this_plan))))))) → va_S A s.heap H locs → lv_has ls 3 [(0, .ref (a_this 0)), (1, .int x1), (2, .int x2)] → W p l e (headSpec (WSm yX9_learnsIn cX9_learnsIn 3 (some .int)) { frames := 7, cells := 0, slots := 0, locals := 177 }).room s m [.ref (a_this 0), .int v1].toArray below meth c H locs 0 0 (MQ below (va_Qi (fun (r : Int32) (u : TM × (Nat → Int64) × (Nat → Int64) × (Nat → Int64) × (Nat → Int64) × (Nat → Int32)) => r = o.1 ∧ u = o.2) (fun u t => cAt D dT A (cM a_this (u.1) ++ (cJ_ dT (a_this 2) 353 g_this_now ++ (cJ_ dT (a_this 3) 353 (u.2.1) ++ (cJ_ dT (a_this 7) 128 (u.2.2.1) ++ (cJ_ dT (a_this 8) 128 (u.2.2.2.1) ++ (cJ_ dT (a_this 9) 128 (u.2.2.2.2.1) ++ (cI_ dT (a_this 10) 7 (u.2.2.2.2.2)))))))) t) A) [.ref (a_this 0), .int v1].toArray s 0 0 A) (F0 m 32 ls []) := by
    intro g_this_now x1   n
    induction n with
    | zero => intro x2 g_this g_this_trial g_this_chosenBy g_this_paidBy g_this_toPay g_this_plan H locs ls h; exact nomatch h
    | succ n ih =>
      intro x2 g_this g_this_trial g_this_chosenBy g_this_paidBy g_this_toPay g_this_plan H locs ls h hP hD hS hl
      unfold f_X9_learnsIn_L32 at h
      refine lv_iload_n hx hb dX9_learnsIn_32 rfl (lv_at hl 2 rfl) ?_
      refine lv_bipush (v := 30) hx hb dX9_learnsIn_33 (by decide) ?_
      refine lv_icmp_gt (tgt := 71) hx hb dX9_learnsIn_35 (by decide) (fun c5 => ?_) (fun c5 => ?_)
      · replace h := iteT c5 h
        refine lv_iconst (v := -1) hx hb dX9_learnsIn_71 (by decide) ?_
        exact rt_i hx hb hr hlk hK hS ((g_this, g_this_trial, g_this_chosenBy, g_this_paidBy, g_this_toPay, g_this_plan) : TM × (Nat → Int64) × (Nat → Int64) × (Nat → Int64) × (Nat → Int64) × (Nat → Int32)) (ret2 h) hP hD dX9_learnsIn_72
      · replace h := iteF c5 h
        refine lv_aload_n hx hb dX9_learnsIn_38 rfl (lv_at hl 0 rfl) ?_
        refine lv_aload_n hx hb dX9_learnsIn_39 rfl (lv_at hl 0 rfl) ?_
        refine gf_X9_17 (v := .ref (a_this 3)) hx hb hqs hown hK hP 0 rfl rfl dX9_learnsIn_40 ?_
        refine lv_iload_n hx hb dX9_learnsIn_43 rfl (lv_at hl 1 rfl) ?_
        refine lv_iconst (v := 2) hx hb dX9_learnsIn_44 (by decide) ?_
        obtain ⟨o6, e6, h⟩ := obind h
        have hPc := hP.sub (ws' := (cM a_this g_this ++ (cJ_ dT (a_this 7) 128 g_this_chosenBy ++ (cJ_ dT (a_this 8) 128 g_this_paidBy ++ (cJ_ dT (a_this 9) 128 g_this_toPay ++ (cI_ dT (a_this 10) 7 g_this_plan ++ (cJ_ dT (a_this 3) 353 g_this_trial))))))) [0, 3, 4, 5, 6, 2] rfl
        have hDc := hD.sub (ws' := (cM a_this g_this ++ (cJ_ dT (a_this 7) 128 g_this_chosenBy ++ (cJ_ dT (a_this 8) 128 g_this_paidBy ++ (cJ_ dT (a_this 9) 128 g_this_toPay ++ (cI_ dT (a_this 10) 7 g_this_plan ++ (cJ_ dT (a_this 3) 353 g_this_trial))))))) [0, 3, 4, 5, 6, 2] (by decide) rfl
        have hFc := va_free (wc := (cM a_this g_this ++ (cJ_ dT (a_this 7) 128 g_this_chosenBy ++ (cJ_ dT (a_this 8) 128 g_this_paidBy ++ (cJ_ dT (a_this 9) 128 g_this_toPay ++ (cI_ dT (a_this 10) 7 g_this_plan ++ (cJ_ dT (a_this 3) 353 g_this_trial))))))) hD hS hA [0, 3, 4, 5, 6, 2] rfl
        refine cl_l (wr := (cJ_ dT (a_this 2) 353 g_this_now)) (va_runV (As := [.ref (a_this 3), .int x1, .int (2 : Int32)]) (rest := []) ⟨hx, hb, hml, hown, hts⟩ (c_X9_costOn l hlt D dT a_this (a_this 3) 353 g_this g_this_chosenBy g_this_paidBy g_this_toPay g_this_plan g_this_trial x1 (2 : Int32) o6 e6 _) (cwV 3 hts (TB_V w_1273 w_1275 w_41 w_59 w_1276) rfl rfl rfl ⟨rfl, nd_X9_costOn⟩ ⟨Nat.le_of_ble_eq_true rfl, Nat.le_of_ble_eq_true rfl⟩) (cPre.V hPc hDc hK hE hS hFc (va_recv hK hP (ci := 8) (q0 := 0) rfl rfl)) rfl rfl hl.1 rfl (lv_room (Nat.le_of_ble_eq_true rfl)) dX9_learnsIn_45 ⟨Nat.zero_le _, Nat.zero_le _⟩) hP hD hS hFc [0, 3, 4, 5, 6, 2] [1] rfl rfl (by decide) (by decide) (fun r6 u6 H locs hw hP hD hS => ?_)
        obtain ⟨rfl, rfl⟩ := hw
        have hP : va_P D vwCl (cJ_ dT (a_this 2) 353 g_this_now ++ (cM a_this o6.2.1 ++ (cJ_ dT (a_this 7) 128 o6.2.2.1 ++ (cJ_ dT (a_this 8) 128 o6.2.2.2.1 ++ (cJ_ dT (a_this 9) 128 o6.2.2.2.2.1 ++ (cI_ dT (a_this 10) 7 o6.2.2.2.2.2 ++ (cJ_ dT (a_this 3) 353 g_this_trial))))))) H := hP
        have hD : va_D A (cJ_ dT (a_this 2) 353 g_this_now ++ (cM a_this o6.2.1 ++ (cJ_ dT (a_this 7) 128 o6.2.2.1 ++ (cJ_ dT (a_this 8) 128 o6.2.2.2.1 ++ (cJ_ dT (a_this 9) 128 o6.2.2.2.2.1 ++ (cI_ dT (a_this 10) 7 o6.2.2.2.2.2 ++ (cJ_ dT (a_this 3) 353 g_this_trial))))))) := hD
        refine lv_lconst (v := 0) hx hb dX9_learnsIn_48 (by decide) ?_
        refine W.lcmp hx hb dX9_learnsIn_49 ?_
        refine lv_if_ne (tgt := 55) hx hb dX9_learnsIn_50 (by decide) (fun c7 => ?_) (fun c7 => ?_)
        · replace h := iteF c7 h
          refine lv_aload_n hx hb dX9_learnsIn_55 rfl (lv_at hl 0 rfl) ?_
          refine lv_aload_n hx hb dX9_learnsIn_56 rfl (lv_at hl 0 rfl) ?_
          refine gf_X9_17 (v := .ref (a_this 3)) hx hb hqs hown hK hP 1 rfl rfl dX9_learnsIn_57 ?_
          refine lv_iload_n hx hb dX9_learnsIn_60 rfl (lv_at hl 1 rfl) ?_
          obtain ⟨o8, e8, h⟩ := obind h
          have hPc := hP.sub (ws' := (cM a_this o6.2.1 ++ (cJ_ dT (a_this 7) 128 o6.2.2.1 ++ (cJ_ dT (a_this 8) 128 o6.2.2.2.1 ++ (cJ_ dT (a_this 9) 128 o6.2.2.2.2.1 ++ (cI_ dT (a_this 10) 7 o6.2.2.2.2.2 ++ (cJ_ dT (a_this 3) 353 g_this_trial))))))) [1, 2, 3, 4, 5, 6] rfl
          have hDc := hD.sub (ws' := (cM a_this o6.2.1 ++ (cJ_ dT (a_this 7) 128 o6.2.2.1 ++ (cJ_ dT (a_this 8) 128 o6.2.2.2.1 ++ (cJ_ dT (a_this 9) 128 o6.2.2.2.2.1 ++ (cI_ dT (a_this 10) 7 o6.2.2.2.2.2 ++ (cJ_ dT (a_this 3) 353 g_this_trial))))))) [1, 2, 3, 4, 5, 6] (by decide) rfl
          have hFc := va_free (wc := (cM a_this o6.2.1 ++ (cJ_ dT (a_this 7) 128 o6.2.2.1 ++ (cJ_ dT (a_this 8) 128 o6.2.2.2.1 ++ (cJ_ dT (a_this 9) 128 o6.2.2.2.2.1 ++ (cI_ dT (a_this 10) 7 o6.2.2.2.2.2 ++ (cJ_ dT (a_this 3) 353 g_this_trial))))))) hD hS hA [1, 2, 3, 4, 5, 6] rfl
          refine cl_i (wr := (cJ_ dT (a_this 2) 353 g_this_now)) (va_runV (As := [.ref (a_this 3), .int x1]) (rest := []) ⟨hx, hb, hml, hown, hts⟩ (c_X9_runOn l hlt D dT a_this (a_this 3) 353 o6.2.1 o6.2.2.1 o6.2.2.2.1 o6.2.2.2.2.1 o6.2.2.2.2.2 g_this_trial x1 o8 e8 _) (cwV 2 hts (TB_V w_1269 w_1271 w_40 w_59 w_1272) rfl rfl rfl ⟨rfl, nd_X9_runOn⟩ ⟨Nat.le_of_ble_eq_true rfl, Nat.le_of_ble_eq_true rfl⟩) (cPre.V hPc hDc hK hE hS hFc (va_recv hK hP (ci := 8) (q0 := 1) rfl rfl)) rfl rfl hl.1 rfl (lv_room (Nat.le_of_ble_eq_true rfl)) dX9_learnsIn_61 ⟨Nat.zero_le _, Nat.zero_le _⟩) hP hD hS hFc [1, 2, 3, 4, 5, 6] [0] rfl rfl (by decide) (by decide) (fun r8 u8 H locs hw hP hD hS => ?_)
          obtain ⟨rfl, rfl⟩ := hw
          have hP : va_P D vwCl (cJ_ dT (a_this 2) 353 g_this_now ++ (cM a_this o8.2.1 ++ (cJ_ dT (a_this 7) 128 o8.2.2.1 ++ (cJ_ dT (a_this 8) 128 o8.2.2.2.1 ++ (cJ_ dT (a_this 9) 128 o8.2.2.2.2.1 ++ (cI_ dT (a_this 10) 7 o8.2.2.2.2.2.1 ++ (cJ_ dT (a_this 3) 353 o8.2.2.2.2.2.2))))))) H := hP
          have hD : va_D A (cJ_ dT (a_this 2) 353 g_this_now ++ (cM a_this o8.2.1 ++ (cJ_ dT (a_this 7) 128 o8.2.2.1 ++ (cJ_ dT (a_this 8) 128 o8.2.2.2.1 ++ (cJ_ dT (a_this 9) 128 o8.2.2.2.2.1 ++ (cI_ dT (a_this 10) 7 o8.2.2.2.2.2.1 ++ (cJ_ dT (a_this 3) 353 o8.2.2.2.2.2.2))))))) := hD
          refine lv_pop hx hb dX9_learnsIn_64 rfl ?_
          refine lv_iinc (v := (x2 + (1 : Int32))) (lv' := [(2, .int (x2 + (1 : Int32))), (0, .ref (a_this 0)), (1, .int x1)]) hx hb dX9_learnsIn_65 hl (k := 2) rfl rfl (by decide) rfl (fun ls hl => ?_)
          refine lv_goto (tgt := 32) hx hb dX9_learnsIn_68 (by decide) ?_
          have hP := hP.sub (ws' := (cM a_this o8.2.1 ++ (cJ_ dT (a_this 2) 353 g_this_now ++ (cJ_ dT (a_this 3) 353 o8.2.2.2.2.2.2 ++ (cJ_ dT (a_this 7) 128 o8.2.2.1 ++ (cJ_ dT (a_this 8) 128 o8.2.2.2.1 ++ (cJ_ dT (a_this 9) 128 o8.2.2.2.2.1 ++ (cI_ dT (a_this 10) 7 o8.2.2.2.2.2.1)))))))) [1, 0, 6, 2, 3, 4, 5] rfl
          have hD := hD.sub (ws' := (cM a_this o8.2.1 ++ (cJ_ dT (a_this 2) 353 g_this_now ++ (cJ_ dT (a_this 3) 353 o8.2.2.2.2.2.2 ++ (cJ_ dT (a_this 7) 128 o8.2.2.1 ++ (cJ_ dT (a_this 8) 128 o8.2.2.2.1 ++ (cJ_ dT (a_this 9) 128 o8.2.2.2.2.1 ++ (cI_ dT (a_this 10) 7 o8.2.2.2.2.2.1)))))))) [1, 0, 6, 2, 3, 4, 5] (by decide) rfl
          exact ih (x2 + (1 : Int32)) o8.2.1 o8.2.2.2.2.2.2 o8.2.2.1 o8.2.2.2.1 o8.2.2.2.2.1 o8.2.2.2.2.2.1 _ _ _ h hP hD hS (lv_sub hl [1, 2, 0] rfl)
        · replace h := iteT c7 h
          refine lv_iload_n hx hb dX9_learnsIn_53 rfl (lv_at hl 2 rfl) ?_
          have hP := hP.sub (ws' := (cM a_this o6.2.1 ++ (cJ_ dT (a_this 2) 353 g_this_now ++ (cJ_ dT (a_this 3) 353 g_this_trial ++ (cJ_ dT (a_this 7) 128 o6.2.2.1 ++ (cJ_ dT (a_this 8) 128 o6.2.2.2.1 ++ (cJ_ dT (a_this 9) 128 o6.2.2.2.2.1 ++ (cI_ dT (a_this 10) 7 o6.2.2.2.2.2)))))))) [1, 0, 6, 2, 3, 4, 5] rfl
          have hD := hD.sub (ws' := (cM a_this o6.2.1 ++ (cJ_ dT (a_this 2) 353 g_this_now ++ (cJ_ dT (a_this 3) 353 g_this_trial ++ (cJ_ dT (a_this 7) 128 o6.2.2.1 ++ (cJ_ dT (a_this 8) 128 o6.2.2.2.1 ++ (cJ_ dT (a_this 9) 128 o6.2.2.2.2.1 ++ (cI_ dT (a_this 10) 7 o6.2.2.2.2.2)))))))) [1, 0, 6, 2, 3, 4, 5] (by decide) rfl
          exact rt_i hx hb hr hlk hK hS ((o6.2.1, g_this_trial, o6.2.2.1, o6.2.2.2.1, o6.2.2.2.2.1, o6.2.2.2.2.2) : TM × (Nat → Int64) × (Nat → Int64) × (Nat → Int64) × (Nat → Int64) × (Nat → Int32)) (ret2 h) hP hD dX9_learnsIn_54
  unfold f_X9_learnsIn at h
  refine lv_aload_n hx hb dX9_learnsIn_0 rfl (lv_at hl 0 rfl) ?_
  refine lv_aload_n hx hb dX9_learnsIn_1 rfl (lv_at hl 0 rfl) ?_
  refine gf_X9_13 (v := .ref (a_this 2)) hx hb hqs hown hK hP 0 rfl rfl dX9_learnsIn_2 ?_
  refine lv_iload_n hx hb dX9_learnsIn_5 rfl (lv_at hl 1 rfl) ?_
  obtain ⟨o1, e1, h⟩ := obind h
  have hPc := hP.sub (ws' := (cJ_ dT (a_this 2) 353 g_this_now)) [1] rfl
  have hDc := hD.sub (ws' := (cJ_ dT (a_this 2) 353 g_this_now)) [1] (by decide) rfl
  have hFc := va_free (wc := (cJ_ dT (a_this 2) 353 g_this_now)) hD hS hA [1] rfl
  refine cl_i (wr := (cM a_this g_this ++ (cJ_ dT (a_this 3) 353 g_this_trial ++ (cJ_ dT (a_this 7) 128 g_this_chosenBy ++ (cJ_ dT (a_this 8) 128 g_this_paidBy ++ (cJ_ dT (a_this 9) 128 g_this_toPay ++ (cI_ dT (a_this 10) 7 g_this_plan))))))) (va_runS (As := [.ref (a_this 2), .int v1]) (rest := [.ref (a_this 0)]) ⟨hx, hb, hml, hown, hts⟩ (c_X9_whyNotRun l hlt D dT (a_this 2) 353 g_this_now v1 o1 e1 _) (va_cwS 2 hts (TB_S w_1263 w_1264 w_59 w_1265) rfl rfl rfl nd_X9_whyNotRun ⟨Nat.le_of_ble_eq_true rfl, Nat.le_of_ble_eq_true rfl⟩) (cPre.S hPc hDc hK hE hS hFc) rfl rfl hl.1 rfl (lv_room (Nat.le_of_ble_eq_true rfl)) dX9_learnsIn_6 ⟨Nat.zero_le _, Nat.zero_le _⟩) hP hD hS hFc [1] [0, 2, 3, 4, 5, 6] rfl rfl (by decide) (by decide) (fun r1 u1 H locs hw hP hD hS => ?_)
  obtain ⟨rfl, rfl⟩ := hw
  have hP : va_P D vwCl (cM a_this g_this ++ (cJ_ dT (a_this 3) 353 g_this_trial ++ (cJ_ dT (a_this 7) 128 g_this_chosenBy ++ (cJ_ dT (a_this 8) 128 g_this_paidBy ++ (cJ_ dT (a_this 9) 128 g_this_toPay ++ (cI_ dT (a_this 10) 7 g_this_plan ++ (cJ_ dT (a_this 2) 353 g_this_now))))))) H := hP
  have hD : va_D A (cM a_this g_this ++ (cJ_ dT (a_this 3) 353 g_this_trial ++ (cJ_ dT (a_this 7) 128 g_this_chosenBy ++ (cJ_ dT (a_this 8) 128 g_this_paidBy ++ (cJ_ dT (a_this 9) 128 g_this_toPay ++ (cI_ dT (a_this 10) 7 g_this_plan ++ (cJ_ dT (a_this 2) 353 g_this_now))))))) := hD
  obtain ⟨o2, e2, h⟩ := obind h
  have hPc := hP.sub (ws' := (cM a_this g_this)) [0] rfl
  have hDc := hD.sub (ws' := (cM a_this g_this)) [0] (by decide) rfl
  have hFc := va_free (wc := (cM a_this g_this)) hD hS hA [0] rfl
  refine cl_i (wr := (cJ_ dT (a_this 3) 353 g_this_trial ++ (cJ_ dT (a_this 7) 128 g_this_chosenBy ++ (cJ_ dT (a_this 8) 128 g_this_paidBy ++ (cJ_ dT (a_this 9) 128 g_this_toPay ++ (cI_ dT (a_this 10) 7 g_this_plan ++ (cJ_ dT (a_this 2) 353 g_this_now))))))) (va_runV (As := [.int o1.1]) (rest := []) ⟨hx, hb, hml, hown, hts⟩ (c_X9_refused l hlt D dT a_this g_this o1.1 o2 e2 _) (cwV 1 hts (TB_V w_1132 w_1134 w_32 w_59 w_1135) rfl rfl rfl ⟨rfl, nd_X9_refused⟩ ⟨Nat.le_of_ble_eq_true rfl, Nat.le_of_ble_eq_true rfl⟩) (cPre.V hPc hDc hK hE hS hFc (va_recv hK hP (ci := 8) (q0 := 0) rfl rfl)) rfl rfl hl.1 rfl (lv_room (Nat.le_of_ble_eq_true rfl)) dX9_learnsIn_9 ⟨Nat.zero_le _, Nat.zero_le _⟩) hP hD hS hFc [0] [1, 2, 3, 4, 5, 6] rfl rfl (by decide) (by decide) (fun r2 u2 H locs hw hP hD hS => ?_)
  obtain ⟨rfl, rfl⟩ := hw
  have hP : va_P D vwCl (cJ_ dT (a_this 3) 353 g_this_trial ++ (cJ_ dT (a_this 7) 128 g_this_chosenBy ++ (cJ_ dT (a_this 8) 128 g_this_paidBy ++ (cJ_ dT (a_this 9) 128 g_this_toPay ++ (cI_ dT (a_this 10) 7 g_this_plan ++ (cJ_ dT (a_this 2) 353 g_this_now ++ (cM a_this o2.2))))))) H := hP
  have hD : va_D A (cJ_ dT (a_this 3) 353 g_this_trial ++ (cJ_ dT (a_this 7) 128 g_this_chosenBy ++ (cJ_ dT (a_this 8) 128 g_this_paidBy ++ (cJ_ dT (a_this 9) 128 g_this_toPay ++ (cI_ dT (a_this 10) 7 g_this_plan ++ (cJ_ dT (a_this 2) 353 g_this_now ++ (cM a_this o2.2))))))) := hD
  refine lv_if_eq (tgt := 17) hx hb dX9_learnsIn_12 (by decide) (fun c3 => ?_) (fun c3 => ?_)
  · replace h := iteT c3 h
    refine lv_aload_n hx hb dX9_learnsIn_17 rfl (lv_at hl 0 rfl) ?_
    refine gf_X9_13 (v := .ref (a_this 2)) hx hb hqs hown hK hP 6 rfl rfl dX9_learnsIn_18 ?_
    refine lv_iconst (v := 0) hx hb dX9_learnsIn_21 (by decide) ?_
    refine lv_aload_n hx hb dX9_learnsIn_22 rfl (lv_at hl 0 rfl) ?_
    refine gf_X9_17 (v := .ref (a_this 3)) hx hb hqs hown hK hP 6 rfl rfl dX9_learnsIn_23 ?_
    refine lv_iconst (v := 0) hx hb dX9_learnsIn_26 (by decide) ?_
    obtain ⟨o4, e4, h⟩ := obind h
    have hPc := hP.sub (ws' := (cJ_ dT (a_this 2) 353 g_this_now ++ (cJ_ dT (a_this 3) 353 g_this_trial))) [5, 0] rfl
    have hDc := hD.sub (ws' := (cJ_ dT (a_this 2) 353 g_this_now ++ (cJ_ dT (a_this 3) 353 g_this_trial))) [5, 0] (by decide) rfl
    have hFc := va_free (wc := (cJ_ dT (a_this 2) 353 g_this_now ++ (cJ_ dT (a_this 3) 353 g_this_trial))) hD hS hA [5, 0] rfl
    refine cl_v (wr := (cJ_ dT (a_this 7) 128 g_this_chosenBy ++ (cJ_ dT (a_this 8) 128 g_this_paidBy ++ (cJ_ dT (a_this 9) 128 g_this_toPay ++ (cI_ dT (a_this 10) 7 g_this_plan ++ (cM a_this o2.2)))))) (va_runS (As := [.ref (a_this 2), .int (0 : Int32), .ref (a_this 3), .int (0 : Int32)]) (rest := []) ⟨hx, hb, hml, hown, hts⟩ (c_X9_copyWorld l hlt D dT (a_this 2) (a_this 3) 353 353 g_this_now g_this_trial (0 : Int32) (0 : Int32) o4 e4 _) (va_cwS 4 hts (TB_S w_1191 w_1192 w_59 w_1193) rfl rfl rfl nd_X9_copyWorld ⟨Nat.le_of_ble_eq_true rfl, Nat.le_of_ble_eq_true rfl⟩) (cPre.S hPc hDc hK hE hS hFc) rfl rfl hl.1 rfl (lv_room (Nat.le_of_ble_eq_true rfl)) dX9_learnsIn_27 ⟨Nat.zero_le _, Nat.zero_le _⟩) hP hD hS hFc [5, 0] [1, 2, 3, 4, 6] rfl rfl (by decide) (by decide) (fun u4 H locs hw hP hD hS => ?_)
    subst hw
    have hP : va_P D vwCl (cJ_ dT (a_this 7) 128 g_this_chosenBy ++ (cJ_ dT (a_this 8) 128 g_this_paidBy ++ (cJ_ dT (a_this 9) 128 g_this_toPay ++ (cI_ dT (a_this 10) 7 g_this_plan ++ (cM a_this o2.2 ++ (cJ_ dT (a_this 2) 353 g_this_now ++ (cJ_ dT (a_this 3) 353 o4.2))))))) H := hP
    have hD : va_D A (cJ_ dT (a_this 7) 128 g_this_chosenBy ++ (cJ_ dT (a_this 8) 128 g_this_paidBy ++ (cJ_ dT (a_this 9) 128 g_this_toPay ++ (cI_ dT (a_this 10) 7 g_this_plan ++ (cM a_this o2.2 ++ (cJ_ dT (a_this 2) 353 g_this_now ++ (cJ_ dT (a_this 3) 353 o4.2))))))) := hD
    refine lv_iconst (v := 0) hx hb dX9_learnsIn_30 (by decide) ?_
    refine lv_istore_n (lv' := [(2, .int (0 : Int32)), (0, .ref (a_this 0)), (1, .int v1)]) hx hb dX9_learnsIn_31 rfl hl (by decide) rfl (fun ls hl => ?_)
    have hP := hP.sub (ws' := (cM a_this o2.2 ++ (cJ_ dT (a_this 2) 353 g_this_now ++ (cJ_ dT (a_this 3) 353 o4.2 ++ (cJ_ dT (a_this 7) 128 g_this_chosenBy ++ (cJ_ dT (a_this 8) 128 g_this_paidBy ++ (cJ_ dT (a_this 9) 128 g_this_toPay ++ (cI_ dT (a_this 10) 7 g_this_plan)))))))) [4, 5, 6, 0, 1, 2, 3] rfl
    have hD := hD.sub (ws' := (cM a_this o2.2 ++ (cJ_ dT (a_this 2) 353 g_this_now ++ (cJ_ dT (a_this 3) 353 o4.2 ++ (cJ_ dT (a_this 7) 128 g_this_chosenBy ++ (cJ_ dT (a_this 8) 128 g_this_paidBy ++ (cJ_ dT (a_this 9) 128 g_this_toPay ++ (cI_ dT (a_this 10) 7 g_this_plan)))))))) [4, 5, 6, 0, 1, 2, 3] (by decide) rfl
    refine L_f_X9_learnsIn_L32 g_this_now v1   FUEL (0 : Int32) o2.2 o4.2 g_this_chosenBy g_this_paidBy g_this_toPay g_this_plan _ _ _ h hP hD hS (lv_sub hl [1, 2, 0] rfl)
  · replace h := iteF c3 h
    refine lv_iconst (v := 0) hx hb dX9_learnsIn_15 (by decide) ?_
    have hP := hP.sub (ws' := (cM a_this o2.2 ++ (cJ_ dT (a_this 2) 353 g_this_now ++ (cJ_ dT (a_this 3) 353 g_this_trial ++ (cJ_ dT (a_this 7) 128 g_this_chosenBy ++ (cJ_ dT (a_this 8) 128 g_this_paidBy ++ (cJ_ dT (a_this 9) 128 g_this_toPay ++ (cI_ dT (a_this 10) 7 g_this_plan)))))))) [6, 5, 0, 1, 2, 3, 4] rfl
    have hD := hD.sub (ws' := (cM a_this o2.2 ++ (cJ_ dT (a_this 2) 353 g_this_now ++ (cJ_ dT (a_this 3) 353 g_this_trial ++ (cJ_ dT (a_this 7) 128 g_this_chosenBy ++ (cJ_ dT (a_this 8) 128 g_this_paidBy ++ (cJ_ dT (a_this 9) 128 g_this_toPay ++ (cI_ dT (a_this 10) 7 g_this_plan)))))))) [6, 5, 0, 1, 2, 3, 4] (by decide) rfl
    exact rt_i hx hb hr hlk hK hS ((o2.2, g_this_trial, g_this_chosenBy, g_this_paidBy, g_this_toPay, g_this_plan) : TM × (Nat → Int64) × (Nat → Int64) × (Nat → Int64) × (Nat → Int64) × (Nat → Int32)) (ret2 h) hP hD dX9_learnsIn_16

