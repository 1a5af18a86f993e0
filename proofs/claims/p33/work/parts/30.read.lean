def f_X0_expect (g_this : TE) (v1 : Int32) : Option (Int32 × (TE)) :=
  (some ((1 : Int32), (E_mk v1 (E_first g_this) (E_second g_this) (E_guess g_this) (0 : Int32))))
set_option maxHeartbeats 8000000 in
set_option maxRecDepth 100000 in
theorem c_X0_expect (l : Launch) (hlt : l.stackTraces = false) (D : va_G) (dT : Nat → ClassId) (a_this : Nat → Nat) (g_this : TE) (v1 : Int32) (o : (Int32 × (TE))) (h : f_X0_expect g_this v1 = some o) (sz : Nat) : Met l yX0_expect (WSm yX0_expect cX0_expect 2 (some .boolean)) { frames := 0, cells := 0, slots := 0, locals := 0 } (va_Pc [.ref (a_this 0), .int v1] (cPre D dT (cE dT a_this g_this) sz)) (va_Qi (fun (r : Int32) (u : TE) => r = o.1 ∧ u = o.2) (fun u t => cAt D dT (va_A (cE dT a_this g_this) sz) (cE dT a_this u) t) (va_A (cE dT a_this g_this) sz)) 0 0 (va_A (cE dT a_this g_this) sz) := by
  refine mStart (WS := (cE dT a_this g_this)) (Qc := fun A => va_Qi (fun (r : Int32) (u : TE) => r = o.1 ∧ u = o.2) (fun u t => cAt D dT A (cE dT a_this u) t) A) RX0 rfl (by decide) (Nat.le_of_ble_eq_true rfl) ?_ sz
  intro p e s m below meth c A ls hx hb hml hr hlk hnm hts hqs hown hE hA hK hP hD hS hl
  have hl : lv_has ls 2 [(0, .ref (a_this 0)), (1, .int v1)] := hl
  unfold f_X0_expect at h
  refine lv_aload_n hx hb dX0_expect_0 rfl (lv_at hl 0 rfl) ?_
  refine lv_iload_n hx hb dX0_expect_1 rfl (lv_at hl 1 rfl) ?_
  refine pf_X0_19 hx hb hqs hown hK hP hD hS 0 rfl rfl dX0_expect_2 (fun H locs hP hD hS => ?_)
  have hP : va_P D vwCl ([(a_this 0, .inr (0, [.int v1, .int (E_first g_this), .int (E_second g_this), .int (E_guess g_this), .int (E_number g_this)]))]) H := hP
  have hD : va_D A ([(a_this 0, .inr (0, [.int v1, .int (E_first g_this), .int (E_second g_this), .int (E_guess g_this), .int (E_number g_this)]))]) := hD
  refine lv_aload_n hx hb dX0_expect_5 rfl (lv_at hl 0 rfl) ?_
  refine lv_iconst (v := 0) hx hb dX0_expect_6 (by decide) ?_
  refine pf_X0_15 hx hb hqs hown hK hP hD hS 0 rfl rfl dX0_expect_7 (fun H locs hP hD hS => ?_)
  have hP : va_P D vwCl ([(a_this 0, .inr (0, [.int v1, .int (E_first g_this), .int (E_second g_this), .int (E_guess g_this), .int (0 : Int32)]))]) H := hP
  have hD : va_D A ([(a_this 0, .inr (0, [.int v1, .int (E_first g_this), .int (E_second g_this), .int (E_guess g_this), .int (0 : Int32)]))]) := hD
  refine lv_iconst (v := 1) hx hb dX0_expect_10 (by decide) ?_
  exact rt_z hx hb hr hlk hK hS ((E_mk v1 (E_first g_this) (E_second g_this) (E_guess g_this) (0 : Int32)) : TE) (ret2 h) (by decide) hP hD dX0_expect_11

def f_X0_begin (g_this : TE) : Option (Unit × (TE)) :=
  ((f_X0_expect g_this (0 : Int32)).bind fun o1 => (some ((), o1.2)))
set_option maxHeartbeats 8000000 in
set_option maxRecDepth 100000 in
theorem c_X0_begin (l : Launch) (hlt : l.stackTraces = false) (D : va_G) (dT : Nat → ClassId) (a_this : Nat → Nat) (g_this : TE) (o : (Unit × (TE))) (h : f_X0_begin g_this = some o) (sz : Nat) : Met l yX0_begin (WSm yX0_begin cX0_begin 1 none) { frames := 1, cells := 0, slots := 0, locals := 21 } (va_Pc [.ref (a_this 0)] (cPre D dT (cE dT a_this g_this) sz)) (va_Qv (fun (u : TE) => u = o.2) (fun u t => cAt D dT (va_A (cE dT a_this g_this) sz) (cE dT a_this u) t) (va_A (cE dT a_this g_this) sz)) 0 0 (va_A (cE dT a_this g_this) sz) := by
  refine mStart (WS := (cE dT a_this g_this)) (Qc := fun A => va_Qv (fun (u : TE) => u = o.2) (fun u t => cAt D dT A (cE dT a_this u) t) A) RX0 rfl (by decide) (Nat.le_of_ble_eq_true rfl) ?_ sz
  intro p e s m below meth c A ls hx hb hml hr hlk hnm hts hqs hown hE hA hK hP hD hS hl
  have hl : lv_has ls 1 [(0, .ref (a_this 0))] := hl
  unfold f_X0_begin at h
  refine lv_aload_n hx hb dX0_begin_0 rfl (lv_at hl 0 rfl) ?_
  refine lv_iconst (v := 0) hx hb dX0_begin_1 (by decide) ?_
  obtain ⟨o1, e1, h⟩ := obind h
  have hPc := hP
  have hDc := hD
  have hFc := vfall hD hS hA
  refine cl_iA (va_runV (As := [.int (0 : Int32)]) (rest := []) ⟨hx, hb, hml, hown, hts⟩ (c_X0_expect l hlt D dT a_this g_this (0 : Int32) o1 e1 _) (cwV 1 hts (TB_V w_653 w_655 w_21 w_36 w_656) rfl rfl rfl ⟨rfl, nd_X0_expect⟩ ⟨Nat.le_of_ble_eq_true rfl, Nat.le_of_ble_eq_true rfl⟩) (cPre.V hPc hDc hK hE hS hFc (va_recv hK hP (ci := 0) (q0 := 0) rfl rfl)) rfl rfl hl.1 rfl (lv_room (Nat.le_of_ble_eq_true rfl)) dX0_begin_2 ⟨Nat.zero_le _, Nat.zero_le _⟩) hS hFc (fun r1 u1 H locs hw hP hD hS => ?_)
  obtain ⟨rfl, rfl⟩ := hw
  have hP : va_P D vwCl (cE dT a_this o1.2) H := hP
  have hD : va_D A (cE dT a_this o1.2) := hD
  refine lv_pop hx hb dX0_begin_5 rfl ?_
  exact rt_v hx hb hr hlk hK hS (o1.2 : TE) (retv h) hP hD dX0_begin_6

def f_X0_isComplete (g_this : TE) : Option (Int32 × (Unit)) :=
  (if (E_number g_this) ≤ (0 : Int32) then (some ((0 : Int32), ())) else (if (E_place g_this) = (3 : Int32) then (some ((1 : Int32), ())) else (if (E_place g_this) = (5 : Int32) then (some ((1 : Int32), ())) else (some ((0 : Int32), ())))))
set_option maxHeartbeats 8000000 in
set_option maxRecDepth 100000 in
theorem c_X0_isComplete (l : Launch) (hlt : l.stackTraces = false) (D : va_G) (dT : Nat → ClassId) (a_this : Nat → Nat) (g_this : TE) (o : (Int32 × (Unit))) (h : f_X0_isComplete g_this = some o) (sz : Nat) : Met l yX0_isComplete (WSm yX0_isComplete cX0_isComplete 1 (some .boolean)) { frames := 0, cells := 0, slots := 0, locals := 0 } (va_Pc [.ref (a_this 0)] (cPre D dT (cE dT a_this g_this) sz)) (va_Qi (fun (r : Int32) (u : Unit) => r = o.1 ∧ u = o.2) (fun u t => cAt D dT (va_A (cE dT a_this g_this) sz) (cE dT a_this g_this) t) (va_A (cE dT a_this g_this) sz)) 0 0 (va_A (cE dT a_this g_this) sz) := by
  refine mStart (WS := (cE dT a_this g_this)) (Qc := fun A => va_Qi (fun (r : Int32) (u : Unit) => r = o.1 ∧ u = o.2) (fun u t => cAt D dT A (cE dT a_this g_this) t) A) RX0 rfl (by decide) (Nat.le_of_ble_eq_true rfl) ?_ sz
  intro p e s m below meth c A ls hx hb hml hr hlk hnm hts hqs hown hE hA hK hP hD hS hl
  have hl : lv_has ls 1 [(0, .ref (a_this 0))] := hl
  unfold f_X0_isComplete at h
  refine lv_aload_n hx hb dX0_isComplete_0 rfl (lv_at hl 0 rfl) ?_
  refine gf_X0_15 (v := .int (E_number g_this)) hx hb hqs hown hK hP 0 rfl rfl dX0_isComplete_1 ?_
  refine lv_if_le (tgt := 27) hx hb dX0_isComplete_4 (by decide) (fun c1 => ?_) (fun c1 => ?_)
  · replace h := iteT c1 h
    refine lv_iconst (v := 0) hx hb dX0_isComplete_27 (by decide) ?_
    exact rt_z hx hb hr hlk hK hS (() : Unit) (ret2 h) (by decide) hP hD dX0_isComplete_28
  · replace h := iteF c1 h
    refine lv_aload_n hx hb dX0_isComplete_7 rfl (lv_at hl 0 rfl) ?_
    refine gf_X0_19 (v := .int (E_place g_this)) hx hb hqs hown hK hP 0 rfl rfl dX0_isComplete_8 ?_
    refine lv_iconst (v := 3) hx hb dX0_isComplete_11 (by decide) ?_
    refine lv_icmp_eq (tgt := 23) hx hb dX0_isComplete_12 (by decide) (fun c2 => ?_) (fun c2 => ?_)
    · replace h := iteT c2 h
      refine lv_iconst (v := 1) hx hb dX0_isComplete_23 (by decide) ?_
      refine lv_goto (tgt := 28) hx hb dX0_isComplete_24 (by decide) ?_
      exact rt_z hx hb hr hlk hK hS (() : Unit) (ret2 h) (by decide) hP hD dX0_isComplete_28
    · replace h := iteF c2 h
      refine lv_aload_n hx hb dX0_isComplete_15 rfl (lv_at hl 0 rfl) ?_
      refine gf_X0_19 (v := .int (E_place g_this)) hx hb hqs hown hK hP 0 rfl rfl dX0_isComplete_16 ?_
      refine lv_iconst (v := 5) hx hb dX0_isComplete_19 (by decide) ?_
      refine lv_icmp_ne (tgt := 27) hx hb dX0_isComplete_20 (by decide) (fun c3 => ?_) (fun c3 => ?_)
      · replace h := iteF c3 h
        refine lv_iconst (v := 0) hx hb dX0_isComplete_27 (by decide) ?_
        exact rt_z hx hb hr hlk hK hS (() : Unit) (ret2 h) (by decide) hP hD dX0_isComplete_28
      · replace h := iteT c3 h
        refine lv_iconst (v := 1) hx hb dX0_isComplete_23 (by decide) ?_
        refine lv_goto (tgt := 28) hx hb dX0_isComplete_24 (by decide) ?_
        exact rt_z hx hb hr hlk hK hS (() : Unit) (ret2 h) (by decide) hP hD dX0_isComplete_28

def f_X0_isTable (g_this : TE) : Option (Int32 × (Unit)) :=
  (if (E_place g_this) = (3 : Int32) then (some ((1 : Int32), ())) else (some ((0 : Int32), ())))
set_option maxHeartbeats 8000000 in
set_option maxRecDepth 100000 in
theorem c_X0_isTable (l : Launch) (hlt : l.stackTraces = false) (D : va_G) (dT : Nat → ClassId) (a_this : Nat → Nat) (g_this : TE) (o : (Int32 × (Unit))) (h : f_X0_isTable g_this = some o) (sz : Nat) : Met l yX0_isTable (WSm yX0_isTable cX0_isTable 1 (some .boolean)) { frames := 0, cells := 0, slots := 0, locals := 0 } (va_Pc [.ref (a_this 0)] (cPre D dT (cE dT a_this g_this) sz)) (va_Qi (fun (r : Int32) (u : Unit) => r = o.1 ∧ u = o.2) (fun u t => cAt D dT (va_A (cE dT a_this g_this) sz) (cE dT a_this g_this) t) (va_A (cE dT a_this g_this) sz)) 0 0 (va_A (cE dT a_this g_this) sz) := by
  refine mStart (WS := (cE dT a_this g_this)) (Qc := fun A => va_Qi (fun (r : Int32) (u : Unit) => r = o.1 ∧ u = o.2) (fun u t => cAt D dT A (cE dT a_this g_this) t) A) RX0 rfl (by decide) (Nat.le_of_ble_eq_true rfl) ?_ sz
  intro p e s m below meth c A ls hx hb hml hr hlk hnm hts hqs hown hE hA hK hP hD hS hl
  have hl : lv_has ls 1 [(0, .ref (a_this 0))] := hl
  unfold f_X0_isTable at h
  refine lv_aload_n hx hb dX0_isTable_0 rfl (lv_at hl 0 rfl) ?_
  refine gf_X0_19 (v := .int (E_place g_this)) hx hb hqs hown hK hP 0 rfl rfl dX0_isTable_1 ?_
  refine lv_iconst (v := 3) hx hb dX0_isTable_4 (by decide) ?_
  refine lv_icmp_ne (tgt := 12) hx hb dX0_isTable_5 (by decide) (fun c1 => ?_) (fun c1 => ?_)
  · replace h := iteF c1 h
    refine lv_iconst (v := 0) hx hb dX0_isTable_12 (by decide) ?_
    exact rt_z hx hb hr hlk hK hS (() : Unit) (ret2 h) (by decide) hP hD dX0_isTable_13
  · replace h := iteT c1 h
    refine lv_iconst (v := 1) hx hb dX0_isTable_8 (by decide) ?_
    refine lv_goto (tgt := 13) hx hb dX0_isTable_9 (by decide) ?_
    exact rt_z hx hb hr hlk hK hS (() : Unit) (ret2 h) (by decide) hP hD dX0_isTable_13

def f_X0_takesEntry_J14   (x1 : Int32) (g_this : TE) : Option (Int32 × (TE)) :=
    (if x1 = (112 : Int32) then ((f_X0_expect g_this (1 : Int32)).bind fun o3 => (if o3.1 = (0 : Int32) then (some ((0 : Int32), o3.2)) else (some ((1 : Int32), o3.2)))) else (some ((0 : Int32), g_this)))
def f_X0_takesEntry (g_this : TE) (v1 : Int32) : Option (Int32 × (TE)) :=
  (if v1 = (116 : Int32) then ((f_X0_expect g_this (3 : Int32)).bind fun o5 => (if o5.1 = (0 : Int32) then (f_X0_takesEntry_J14 v1 o5.2) else (some ((1 : Int32), o5.2)))) else (f_X0_takesEntry_J14 v1 g_this))
set_option maxHeartbeats 8000000 in
set_option maxRecDepth 100000 in
theorem c_X0_takesEntry (l : Launch) (hlt : l.stackTraces = false) (D : va_G) (dT : Nat → ClassId) (a_this : Nat → Nat) (g_this : TE) (v1 : Int32) (o : (Int32 × (TE))) (h : f_X0_takesEntry g_this v1 = some o) (sz : Nat) : Met l yX0_takesEntry (WSm yX0_takesEntry cX0_takesEntry 2 (some .boolean)) { frames := 1, cells := 0, slots := 0, locals := 21 } (va_Pc [.ref (a_this 0), .int v1] (cPre D dT (cE dT a_this g_this) sz)) (va_Qi (fun (r : Int32) (u : TE) => r = o.1 ∧ u = o.2) (fun u t => cAt D dT (va_A (cE dT a_this g_this) sz) (cE dT a_this u) t) (va_A (cE dT a_this g_this) sz)) 0 0 (va_A (cE dT a_this g_this) sz) := by
  refine mStart (WS := (cE dT a_this g_this)) (Qc := fun A => va_Qi (fun (r : Int32) (u : TE) => r = o.1 ∧ u = o.2) (fun u t => cAt D dT A (cE dT a_this u) t) A) RX0 rfl (by decide) (Nat.le_of_ble_eq_true rfl) ?_ sz
  intro p e s m below meth c A ls hx hb hml hr hlk hnm hts hqs hown hE hA hK hP hD hS hl
  have hl : lv_has ls 2 [(0, .ref (a_this 0)), (1, .int v1)] := hl
  have L_f_X0_takesEntry_J14 : ∀  (x1 : Int32) (g_this : TE)   (H : Heap) (locs : List Loc) (ls : Array Slot), f_X0_takesEntry_J14   x1 g_this = some o → va_P D vwCl (cE dT a_this g_this) H → va_D A (cE dT a_this g_this) → va_S A s.heap H locs → lv_has ls 2 [(0, .ref (a_this 0)), (1, .int x1)] → W p l e (headSpec (WSm yX0_takesEntry cX0_takesEntry 2 (some .boolean)) { frames := 1, cells := 0, slots := 0, locals := 21 }).room s m [.ref (a_this 0), .int v1].toArray below meth c H locs 0 0 (MQ below (va_Qi (fun (r : Int32) (u : TE) => r = o.1 ∧ u = o.2) (fun u t => cAt D dT A (cE dT a_this u) t) A) [.ref (a_this 0), .int v1].toArray s 0 0 A) (F0 m 14 ls []) := by
    intro  x1 g_this   H locs ls h hP hD hS hl
    unfold f_X0_takesEntry_J14 at h
    refine lv_iload_n hx hb dX0_takesEntry_14 rfl (lv_at hl 1 rfl) ?_
    refine lv_bipush (v := 112) hx hb dX0_takesEntry_15 (by decide) ?_
    refine lv_icmp_ne (tgt := 32) hx hb dX0_takesEntry_17 (by decide) (fun c2 => ?_) (fun c2 => ?_)
    · replace h := iteF c2 h
      refine lv_iconst (v := 0) hx hb dX0_takesEntry_32 (by decide) ?_
      exact rt_z hx hb hr hlk hK hS (g_this : TE) (ret2 h) (by decide) hP hD dX0_takesEntry_33
    · replace h := iteT c2 h
      refine lv_aload_n hx hb dX0_takesEntry_20 rfl (lv_at hl 0 rfl) ?_
      refine lv_iconst (v := 1) hx hb dX0_takesEntry_21 (by decide) ?_
      obtain ⟨o3, e3, h⟩ := obind h
      have hPc := hP
      have hDc := hD
      have hFc := vfall hD hS hA
      refine cl_iA (va_runV (As := [.int (1 : Int32)]) (rest := []) ⟨hx, hb, hml, hown, hts⟩ (c_X0_expect l hlt D dT a_this g_this (1 : Int32) o3 e3 _) (cwV 1 hts (TB_V w_653 w_655 w_21 w_36 w_656) rfl rfl rfl ⟨rfl, nd_X0_expect⟩ ⟨Nat.le_of_ble_eq_true rfl, Nat.le_of_ble_eq_true rfl⟩) (cPre.V hPc hDc hK hE hS hFc (va_recv hK hP (ci := 0) (q0 := 0) rfl rfl)) rfl rfl hl.1 rfl (lv_room (Nat.le_of_ble_eq_true rfl)) dX0_takesEntry_22 ⟨Nat.zero_le _, Nat.zero_le _⟩) hS hFc (fun r3 u3 H locs hw hP hD hS => ?_)
      obtain ⟨rfl, rfl⟩ := hw
      have hP : va_P D vwCl (cE dT a_this o3.2) H := hP
      have hD : va_D A (cE dT a_this o3.2) := hD
      refine lv_if_eq (tgt := 32) hx hb dX0_takesEntry_25 (by decide) (fun c4 => ?_) (fun c4 => ?_)
      · replace h := iteT c4 h
        refine lv_iconst (v := 0) hx hb dX0_takesEntry_32 (by decide) ?_
        exact rt_z hx hb hr hlk hK hS (o3.2 : TE) (ret2 h) (by decide) hP hD dX0_takesEntry_33
      · replace h := iteF c4 h
        refine lv_iconst (v := 1) hx hb dX0_takesEntry_28 (by decide) ?_
        refine lv_goto (tgt := 33) hx hb dX0_takesEntry_29 (by decide) ?_
        exact rt_z hx hb hr hlk hK hS (o3.2 : TE) (ret2 h) (by decide) hP hD dX0_takesEntry_33
  unfold f_X0_takesEntry at h
  refine lv_iload_n hx hb dX0_takesEntry_0 rfl (lv_at hl 1 rfl) ?_
  refine lv_bipush (v := 116) hx hb dX0_takesEntry_1 (by decide) ?_
  refine lv_icmp_ne (tgt := 14) hx hb dX0_takesEntry_3 (by decide) (fun c1 => ?_) (fun c1 => ?_)
  · replace h := iteF c1 h
    refine L_f_X0_takesEntry_J14  v1 g_this   _ _ _ h hP hD hS (lv_sub hl [0, 1] rfl)
  · replace h := iteT c1 h
    refine lv_aload_n hx hb dX0_takesEntry_6 rfl (lv_at hl 0 rfl) ?_
    refine lv_iconst (v := 3) hx hb dX0_takesEntry_7 (by decide) ?_
    obtain ⟨o5, e5, h⟩ := obind h
    have hPc := hP
    have hDc := hD
    have hFc := vfall hD hS hA
    refine cl_iA (va_runV (As := [.int (3 : Int32)]) (rest := []) ⟨hx, hb, hml, hown, hts⟩ (c_X0_expect l hlt D dT a_this g_this (3 : Int32) o5 e5 _) (cwV 1 hts (TB_V w_653 w_655 w_21 w_36 w_656) rfl rfl rfl ⟨rfl, nd_X0_expect⟩ ⟨Nat.le_of_ble_eq_true rfl, Nat.le_of_ble_eq_true rfl⟩) (cPre.V hPc hDc hK hE hS hFc (va_recv hK hP (ci := 0) (q0 := 0) rfl rfl)) rfl rfl hl.1 rfl (lv_room (Nat.le_of_ble_eq_true rfl)) dX0_takesEntry_8 ⟨Nat.zero_le _, Nat.zero_le _⟩) hS hFc (fun r5 u5 H locs hw hP hD hS => ?_)
    obtain ⟨rfl, rfl⟩ := hw
    have hP : va_P D vwCl (cE dT a_this o5.2) H := hP
    have hD : va_D A (cE dT a_this o5.2) := hD
    refine lv_if_ne (tgt := 28) hx hb dX0_takesEntry_11 (by decide) (fun c6 => ?_) (fun c6 => ?_)
    · replace h := iteF c6 h
      refine lv_iconst (v := 1) hx hb dX0_takesEntry_28 (by decide) ?_
      refine lv_goto (tgt := 33) hx hb dX0_takesEntry_29 (by decide) ?_
      exact rt_z hx hb hr hlk hK hS (o5.2 : TE) (ret2 h) (by decide) hP hD dX0_takesEntry_33
    · replace h := iteT c6 h
      refine L_f_X0_takesEntry_J14  v1 o5.2   _ _ _ h hP hD hS (lv_sub hl [0, 1] rfl)

def f_X0_takesDigit (g_this : TE) (v1 : Int32) (v2 : Int32) : Option (Int32 × (TE)) :=
  ((f_X8_isIn v1 (48 : Int32) (57 : Int32)).bind fun o1 => (if o1.1 = (0 : Int32) then (some ((0 : Int32), g_this)) else ((f_X8_isIn ((((E_number g_this) * (10 : Int32)) + v1) - (48 : Int32)) (1 : Int32) v2).bind fun o3 => (if o3.1 = (0 : Int32) then (some ((0 : Int32), g_this)) else (some ((1 : Int32), (E_mk (E_place g_this) (E_first g_this) (E_second g_this) (E_guess g_this) ((((E_number g_this) * (10 : Int32)) + v1) - (48 : Int32)))))))))
set_option maxHeartbeats 8000000 in
set_option maxRecDepth 100000 in
theorem c_X0_takesDigit (l : Launch) (hlt : l.stackTraces = false) (D : va_G) (dT : Nat → ClassId) (a_this : Nat → Nat) (g_this : TE) (v1 : Int32) (v2 : Int32) (o : (Int32 × (TE))) (h : f_X0_takesDigit g_this v1 v2 = some o) (sz : Nat) : Met l yX0_takesDigit (WSm yX0_takesDigit cX0_takesDigit 3 (some .boolean)) { frames := 1, cells := 0, slots := 0, locals := 22 } (va_Pc [.ref (a_this 0), .int v1, .int v2] (cPre D dT (cE dT a_this g_this) sz)) (va_Qi (fun (r : Int32) (u : TE) => r = o.1 ∧ u = o.2) (fun u t => cAt D dT (va_A (cE dT a_this g_this) sz) (cE dT a_this u) t) (va_A (cE dT a_this g_this) sz)) 0 0 (va_A (cE dT a_this g_this) sz) := by
  refine mStart (WS := (cE dT a_this g_this)) (Qc := fun A => va_Qi (fun (r : Int32) (u : TE) => r = o.1 ∧ u = o.2) (fun u t => cAt D dT A (cE dT a_this u) t) A) RX0 rfl (by decide) (Nat.le_of_ble_eq_true rfl) ?_ sz
  intro p e s m below meth c A ls hx hb hml hr hlk hnm hts hqs hown hE hA hK hP hD hS hl
  have hl : lv_has ls 3 [(0, .ref (a_this 0)), (1, .int v1), (2, .int v2)] := hl
  unfold f_X0_takesDigit at h
  refine lv_iload_n hx hb dX0_takesDigit_0 rfl (lv_at hl 1 rfl) ?_
  refine lv_bipush (v := 48) hx hb dX0_takesDigit_1 (by decide) ?_
  refine lv_bipush (v := 57) hx hb dX0_takesDigit_3 (by decide) ?_
  obtain ⟨o1, e1, h⟩ := obind h
  have hPc := hP.sub (ws' := ([] : va_W)) [] rfl
  have hDc := hD.sub (ws' := ([] : va_W)) [] (by decide) rfl
  have hFc := va_free (wc := ([] : va_W)) hD hS hA [] rfl
  refine cl_i (wr := (cE dT a_this g_this)) (va_runSN (As := [.int v1, .int (48 : Int32), .int (57 : Int32)]) (rest := []) ⟨hx, hb, hml, hown, hts⟩ (c_X8_isIn l hlt D dT v1 (48 : Int32) (57 : Int32) o1 e1 _) ⟨va_cnB 3 hts (TB_in (WSm_in w_292)) rfl rfl rfl (hE.1 (RX0, 28, yX8_isIn, RX8) (List.mem_of_getElem? (i := 10) rfl)) (hqs _ w_33) nd_X8_isIn ⟨Nat.le_of_ble_eq_true rfl, Nat.le_of_ble_eq_true rfl⟩, hqs _ w_291, trivial⟩ (cPre.S hPc hDc hK hE hS hFc) rfl rfl hl.1 rfl (lv_room (Nat.le_of_ble_eq_true rfl)) dX0_takesDigit_5 ⟨Nat.zero_le _, Nat.zero_le _⟩) hP hD hS hFc [] [0] rfl rfl (by decide) (by decide) (fun r1 u1 H locs hw hP hD hS => ?_)
  obtain ⟨rfl, rfl⟩ := hw
  have hP : va_P D vwCl (cE dT a_this g_this) H := hP
  have hD : va_D A (cE dT a_this g_this) := hD
  refine lv_if_eq (tgt := 31) hx hb dX0_takesDigit_8 (by decide) (fun c2 => ?_) (fun c2 => ?_)
  · replace h := iteT c2 h
    refine lv_iconst (v := 0) hx hb dX0_takesDigit_31 (by decide) ?_
    exact rt_z hx hb hr hlk hK hS (g_this : TE) (ret2 h) (by decide) hP hD dX0_takesDigit_32
  · replace h := iteF c2 h
    refine lv_aload_n hx hb dX0_takesDigit_11 rfl (lv_at hl 0 rfl) ?_
    refine gf_X0_15 (v := .int (E_number g_this)) hx hb hqs hown hK hP 0 rfl rfl dX0_takesDigit_12 ?_
    refine lv_bipush (v := 10) hx hb dX0_takesDigit_15 (by decide) ?_
    refine lv_imul hx hb dX0_takesDigit_17 ?_
    refine lv_iload_n hx hb dX0_takesDigit_18 rfl (lv_at hl 1 rfl) ?_
    refine lv_iadd hx hb dX0_takesDigit_19 ?_
    refine lv_bipush (v := 48) hx hb dX0_takesDigit_20 (by decide) ?_
    refine lv_isub hx hb dX0_takesDigit_22 ?_
    refine lv_iconst (v := 1) hx hb dX0_takesDigit_23 (by decide) ?_
    refine lv_iload_n hx hb dX0_takesDigit_24 rfl (lv_at hl 2 rfl) ?_
    obtain ⟨o3, e3, h⟩ := obind h
    have hPc := hP.sub (ws' := ([] : va_W)) [] rfl
    have hDc := hD.sub (ws' := ([] : va_W)) [] (by decide) rfl
    have hFc := va_free (wc := ([] : va_W)) hD hS hA [] rfl
    refine cl_i (wr := (cE dT a_this g_this)) (va_runSN (As := [.int ((((E_number g_this) * (10 : Int32)) + v1) - (48 : Int32)), .int (1 : Int32), .int v2]) (rest := []) ⟨hx, hb, hml, hown, hts⟩ (c_X8_isIn l hlt D dT ((((E_number g_this) * (10 : Int32)) + v1) - (48 : Int32)) (1 : Int32) v2 o3 e3 _) ⟨va_cnB 3 hts (TB_in (WSm_in w_292)) rfl rfl rfl (hE.1 (RX0, 28, yX8_isIn, RX8) (List.mem_of_getElem? (i := 10) rfl)) (hqs _ w_33) nd_X8_isIn ⟨Nat.le_of_ble_eq_true rfl, Nat.le_of_ble_eq_true rfl⟩, hqs _ w_291, trivial⟩ (cPre.S hPc hDc hK hE hS hFc) rfl rfl hl.1 rfl (lv_room (Nat.le_of_ble_eq_true rfl)) dX0_takesDigit_25 ⟨Nat.zero_le _, Nat.zero_le _⟩) hP hD hS hFc [] [0] rfl rfl (by decide) (by decide) (fun r3 u3 H locs hw hP hD hS => ?_)
    obtain ⟨rfl, rfl⟩ := hw
    have hP : va_P D vwCl (cE dT a_this g_this) H := hP
    have hD : va_D A (cE dT a_this g_this) := hD
    refine lv_if_ne (tgt := 33) hx hb dX0_takesDigit_28 (by decide) (fun c4 => ?_) (fun c4 => ?_)
    · replace h := iteF c4 h
      refine lv_aload_n hx hb dX0_takesDigit_33 rfl (lv_at hl 0 rfl) ?_
      refine lv_aload_n hx hb dX0_takesDigit_34 rfl (lv_at hl 0 rfl) ?_
      refine gf_X0_15 (v := .int (E_number g_this)) hx hb hqs hown hK hP 0 rfl rfl dX0_takesDigit_35 ?_
      refine lv_bipush (v := 10) hx hb dX0_takesDigit_38 (by decide) ?_
      refine lv_imul hx hb dX0_takesDigit_40 ?_
      refine lv_iload_n hx hb dX0_takesDigit_41 rfl (lv_at hl 1 rfl) ?_
      refine lv_iadd hx hb dX0_takesDigit_42 ?_
      refine lv_bipush (v := 48) hx hb dX0_takesDigit_43 (by decide) ?_
      refine lv_isub hx hb dX0_takesDigit_45 ?_
      refine pf_X0_15 hx hb hqs hown hK hP hD hS 0 rfl rfl dX0_takesDigit_46 (fun H locs hP hD hS => ?_)
      have hP : va_P D vwCl ([(a_this 0, .inr (0, [.int (E_place g_this), .int (E_first g_this), .int (E_second g_this), .int (E_guess g_this), .int ((((E_number g_this) * (10 : Int32)) + v1) - (48 : Int32))]))]) H := hP
      have hD : va_D A ([(a_this 0, .inr (0, [.int (E_place g_this), .int (E_first g_this), .int (E_second g_this), .int (E_guess g_this), .int ((((E_number g_this) * (10 : Int32)) + v1) - (48 : Int32))]))]) := hD
      refine lv_iconst (v := 1) hx hb dX0_takesDigit_49 (by decide) ?_
      exact rt_z hx hb hr hlk hK hS ((E_mk (E_place g_this) (E_first g_this) (E_second g_this) (E_guess g_this) ((((E_number g_this) * (10 : Int32)) + v1) - (48 : Int32))) : TE) (ret2 h) (by decide) hP hD dX0_takesDigit_50
    · replace h := iteT c4 h
      refine lv_iconst (v := 0) hx hb dX0_takesDigit_31 (by decide) ?_
      exact rt_z hx hb hr hlk hK hS (g_this : TE) (ret2 h) (by decide) hP hD dX0_takesDigit_32

def f_X0_takesEnd (g_this : TE) (v1 : Int32) : Option (Int32 × (TE)) :=
  (if v1 = (59 : Int32) then ((f_X0_isComplete g_this).bind fun o2 => (if o2.1 = (0 : Int32) then (some ((0 : Int32), g_this)) else ((f_X0_expect g_this (0 : Int32)).bind fun o4 => (if o4.1 = (0 : Int32) then (some ((0 : Int32), o4.2)) else (some ((1 : Int32), o4.2)))))) else (some ((0 : Int32), g_this)))
set_option maxHeartbeats 8000000 in
set_option maxRecDepth 100000 in
theorem c_X0_takesEnd (l : Launch) (hlt : l.stackTraces = false) (D : va_G) (dT : Nat → ClassId) (a_this : Nat → Nat) (g_this : TE) (v1 : Int32) (o : (Int32 × (TE))) (h : f_X0_takesEnd g_this v1 = some o) (sz : Nat) : Met l yX0_takesEnd (WSm yX0_takesEnd cX0_takesEnd 2 (some .boolean)) { frames := 1, cells := 0, slots := 0, locals := 21 } (va_Pc [.ref (a_this 0), .int v1] (cPre D dT (cE dT a_this g_this) sz)) (va_Qi (fun (r : Int32) (u : TE) => r = o.1 ∧ u = o.2) (fun u t => cAt D dT (va_A (cE dT a_this g_this) sz) (cE dT a_this u) t) (va_A (cE dT a_this g_this) sz)) 0 0 (va_A (cE dT a_this g_this) sz) := by
  refine mStart (WS := (cE dT a_this g_this)) (Qc := fun A => va_Qi (fun (r : Int32) (u : TE) => r = o.1 ∧ u = o.2) (fun u t => cAt D dT A (cE dT a_this u) t) A) RX0 rfl (by decide) (Nat.le_of_ble_eq_true rfl) ?_ sz
  intro p e s m below meth c A ls hx hb hml hr hlk hnm hts hqs hown hE hA hK hP hD hS hl
  have hl : lv_has ls 2 [(0, .ref (a_this 0)), (1, .int v1)] := hl
  unfold f_X0_takesEnd at h
  refine lv_iload_n hx hb dX0_takesEnd_0 rfl (lv_at hl 1 rfl) ?_
  refine lv_bipush (v := 59) hx hb dX0_takesEnd_1 (by decide) ?_
  refine lv_icmp_ne (tgt := 25) hx hb dX0_takesEnd_3 (by decide) (fun c1 => ?_) (fun c1 => ?_)
  · replace h := iteF c1 h
    refine lv_iconst (v := 0) hx hb dX0_takesEnd_25 (by decide) ?_
    exact rt_z hx hb hr hlk hK hS (g_this : TE) (ret2 h) (by decide) hP hD dX0_takesEnd_26
  · replace h := iteT c1 h
    refine lv_aload_n hx hb dX0_takesEnd_6 rfl (lv_at hl 0 rfl) ?_
    obtain ⟨o2, e2, h⟩ := obind h
    have hPc := hP
    have hDc := hD
    have hFc := vfall hD hS hA
    refine cl_iA (va_runV (As := []) (rest := []) ⟨hx, hb, hml, hown, hts⟩ (c_X0_isComplete l hlt D dT a_this g_this o2 e2 _) (cwV 0 hts (TB_V w_683 w_684 w_685 w_36 w_686) rfl rfl rfl ⟨rfl, nd_X0_isComplete⟩ ⟨Nat.le_of_ble_eq_true rfl, Nat.le_of_ble_eq_true rfl⟩) (cPre.V hPc hDc hK hE hS hFc (va_recv hK hP (ci := 0) (q0 := 0) rfl rfl)) rfl rfl hl.1 rfl (lv_room (Nat.le_of_ble_eq_true rfl)) dX0_takesEnd_7 ⟨Nat.zero_le _, Nat.zero_le _⟩) hS hFc (fun r2 u2 H locs hw hP hD hS => ?_)
    obtain ⟨rfl, rfl⟩ := hw
    have hP : va_P D vwCl (cE dT a_this g_this) H := hP
    have hD : va_D A (cE dT a_this g_this) := hD
    refine lv_if_eq (tgt := 25) hx hb dX0_takesEnd_10 (by decide) (fun c3 => ?_) (fun c3 => ?_)
    · replace h := iteT c3 h
      refine lv_iconst (v := 0) hx hb dX0_takesEnd_25 (by decide) ?_
      exact rt_z hx hb hr hlk hK hS (g_this : TE) (ret2 h) (by decide) hP hD dX0_takesEnd_26
    · replace h := iteF c3 h
      refine lv_aload_n hx hb dX0_takesEnd_13 rfl (lv_at hl 0 rfl) ?_
      refine lv_iconst (v := 0) hx hb dX0_takesEnd_14 (by decide) ?_
      obtain ⟨o4, e4, h⟩ := obind h
      have hPc := hP
      have hDc := hD
      have hFc := vfall hD hS hA
      refine cl_iA (va_runV (As := [.int (0 : Int32)]) (rest := []) ⟨hx, hb, hml, hown, hts⟩ (c_X0_expect l hlt D dT a_this g_this (0 : Int32) o4 e4 _) (cwV 1 hts (TB_V w_653 w_655 w_21 w_36 w_656) rfl rfl rfl ⟨rfl, nd_X0_expect⟩ ⟨Nat.le_of_ble_eq_true rfl, Nat.le_of_ble_eq_true rfl⟩) (cPre.V hPc hDc hK hE hS hFc (va_recv hK hP (ci := 0) (q0 := 0) rfl rfl)) rfl rfl hl.1 rfl (lv_room (Nat.le_of_ble_eq_true rfl)) dX0_takesEnd_15 ⟨Nat.zero_le _, Nat.zero_le _⟩) hS hFc (fun r4 u4 H locs hw hP hD hS => ?_)
      obtain ⟨rfl, rfl⟩ := hw
      have hP : va_P D vwCl (cE dT a_this o4.2) H := hP
      have hD : va_D A (cE dT a_this o4.2) := hD
      refine lv_if_eq (tgt := 25) hx hb dX0_takesEnd_18 (by decide) (fun c5 => ?_) (fun c5 => ?_)
      · replace h := iteT c5 h
        refine lv_iconst (v := 0) hx hb dX0_takesEnd_25 (by decide) ?_
        exact rt_z hx hb hr hlk hK hS (o4.2 : TE) (ret2 h) (by decide) hP hD dX0_takesEnd_26
      · replace h := iteF c5 h
        refine lv_iconst (v := 1) hx hb dX0_takesEnd_21 (by decide) ?_
        refine lv_goto (tgt := 26) hx hb dX0_takesEnd_22 (by decide) ?_
        exact rt_z hx hb hr hlk hK hS (o4.2 : TE) (ret2 h) (by decide) hP hD dX0_takesEnd_26

def f_X0_takesComma (g_this : TE) (v1 : Int32) : Option (Int32 × (TE)) :=
  (if v1 = (44 : Int32) then (if (E_number g_this) = (0 : Int32) then (some ((0 : Int32), g_this)) else ((f_X0_expect (E_mk (E_place g_this) (E_first g_this) (E_second g_this) (E_number g_this) (E_number g_this)) (5 : Int32)).bind fun o3 => (if vp_nar .boolean o3.1 = o3.1 then (some (o3.1, o3.2)) else none))) else (some ((0 : Int32), g_this)))
set_option maxHeartbeats 8000000 in
set_option maxRecDepth 100000 in
theorem c_X0_takesComma (l : Launch) (hlt : l.stackTraces = false) (D : va_G) (dT : Nat → ClassId) (a_this : Nat → Nat) (g_this : TE) (v1 : Int32) (o : (Int32 × (TE))) (h : f_X0_takesComma g_this v1 = some o) (sz : Nat) : Met l yX0_takesComma (WSm yX0_takesComma cX0_takesComma 2 (some .boolean)) { frames := 1, cells := 0, slots := 0, locals := 21 } (va_Pc [.ref (a_this 0), .int v1] (cPre D dT (cE dT a_this g_this) sz)) (va_Qi (fun (r : Int32) (u : TE) => r = o.1 ∧ u = o.2) (fun u t => cAt D dT (va_A (cE dT a_this g_this) sz) (cE dT a_this u) t) (va_A (cE dT a_this g_this) sz)) 0 0 (va_A (cE dT a_this g_this) sz) := by
  refine mStart (WS := (cE dT a_this g_this)) (Qc := fun A => va_Qi (fun (r : Int32) (u : TE) => r = o.1 ∧ u = o.2) (fun u t => cAt D dT A (cE dT a_this u) t) A) RX0 rfl (by decide) (Nat.le_of_ble_eq_true rfl) ?_ sz
  intro p e s m below meth c A ls hx hb hml hr hlk hnm hts hqs hown hE hA hK hP hD hS hl
  have hl : lv_has ls 2 [(0, .ref (a_this 0)), (1, .int v1)] := hl
  unfold f_X0_takesComma at h
  refine lv_iload_n hx hb dX0_takesComma_0 rfl (lv_at hl 1 rfl) ?_
  refine lv_bipush (v := 44) hx hb dX0_takesComma_1 (by decide) ?_
  refine lv_icmp_ne (tgt := 13) hx hb dX0_takesComma_3 (by decide) (fun c1 => ?_) (fun c1 => ?_)
  · replace h := iteF c1 h
    refine lv_iconst (v := 0) hx hb dX0_takesComma_13 (by decide) ?_
    exact rt_z hx hb hr hlk hK hS (g_this : TE) (ret2 h) (by decide) hP hD dX0_takesComma_14
  · replace h := iteT c1 h
    refine lv_aload_n hx hb dX0_takesComma_6 rfl (lv_at hl 0 rfl) ?_
    refine gf_X0_15 (v := .int (E_number g_this)) hx hb hqs hown hK hP 0 rfl rfl dX0_takesComma_7 ?_
    refine lv_if_ne (tgt := 15) hx hb dX0_takesComma_10 (by decide) (fun c2 => ?_) (fun c2 => ?_)
    · replace h := iteF c2 h
      refine lv_aload_n hx hb dX0_takesComma_15 rfl (lv_at hl 0 rfl) ?_
      refine lv_aload_n hx hb dX0_takesComma_16 rfl (lv_at hl 0 rfl) ?_
      refine gf_X0_15 (v := .int (E_number g_this)) hx hb hqs hown hK hP 0 rfl rfl dX0_takesComma_17 ?_
      refine pf_X0_49 hx hb hqs hown hK hP hD hS 0 rfl rfl dX0_takesComma_20 (fun H locs hP hD hS => ?_)
      have hP : va_P D vwCl ([(a_this 0, .inr (0, [.int (E_place g_this), .int (E_first g_this), .int (E_second g_this), .int (E_number g_this), .int (E_number g_this)]))]) H := hP
      have hD : va_D A ([(a_this 0, .inr (0, [.int (E_place g_this), .int (E_first g_this), .int (E_second g_this), .int (E_number g_this), .int (E_number g_this)]))]) := hD
      refine lv_aload_n hx hb dX0_takesComma_23 rfl (lv_at hl 0 rfl) ?_
      refine lv_iconst (v := 5) hx hb dX0_takesComma_24 (by decide) ?_
      obtain ⟨o3, e3, h⟩ := obind h
      have hPc := hP
      have hDc := hD
      have hFc := vfall hD hS hA
      refine cl_iA (va_runV (As := [.int (5 : Int32)]) (rest := []) ⟨hx, hb, hml, hown, hts⟩ (c_X0_expect l hlt D dT a_this (E_mk (E_place g_this) (E_first g_this) (E_second g_this) (E_number g_this) (E_number g_this)) (5 : Int32) o3 e3 _) (cwV 1 hts (TB_V w_653 w_655 w_21 w_36 w_656) rfl rfl rfl ⟨rfl, nd_X0_expect⟩ ⟨Nat.le_of_ble_eq_true rfl, Nat.le_of_ble_eq_true rfl⟩) (cPre.V hPc hDc hK hE hS hFc (va_recv hK hP (ci := 0) (q0 := 0) rfl rfl)) rfl rfl hl.1 rfl (lv_room (Nat.le_of_ble_eq_true rfl)) dX0_takesComma_25 ⟨Nat.zero_le _, Nat.zero_le _⟩) hS hFc (fun r3 u3 H locs hw hP hD hS => ?_)
      obtain ⟨rfl, rfl⟩ := hw
      have hP : va_P D vwCl (cE dT a_this o3.2) H := hP
      have hD : va_D A (cE dT a_this o3.2) := hD
      obtain ⟨g4, h⟩ := chp h
      exact rt_z hx hb hr hlk hK hS (o3.2 : TE) (ret2 h) g4 hP hD dX0_takesComma_28
    · replace h := iteT c2 h
      refine lv_iconst (v := 0) hx hb dX0_takesComma_13 (by decide) ?_
      exact rt_z hx hb hr hlk hK hS (g_this : TE) (ret2 h) (by decide) hP hD dX0_takesComma_14

def f_X0_takes (g_this : TE) (v1 : Int32) : Option (Int32 × (TE)) :=
  (if (E_place g_this) = (0 : Int32) then ((f_X0_takesEntry g_this v1).bind fun o2 => (if vp_nar .boolean o2.1 = o2.1 then (some (o2.1, o2.2)) else none)) else (if (E_place g_this) = (1 : Int32) then ((f_X8_isIn (v1 - (48 : Int32)) (0 : Int32) (6 : Int32)).bind fun o4 => (if o4.1 = (0 : Int32) then (some ((0 : Int32), (E_mk (E_place g_this) (v1 - (48 : Int32)) (E_second g_this) (E_guess g_this) (E_number g_this)))) else ((f_X0_expect (E_mk (E_place g_this) (v1 - (48 : Int32)) (E_second g_this) (E_guess g_this) (E_number g_this)) (2 : Int32)).bind fun o6 => (if o6.1 = (0 : Int32) then (some ((0 : Int32), o6.2)) else (some ((1 : Int32), o6.2)))))) else (if (E_place g_this) = (2 : Int32) then ((f_X8_isIn (v1 - (48 : Int32)) (0 : Int32) (6 : Int32)).bind fun o8 => (if o8.1 = (0 : Int32) then (some ((0 : Int32), (E_mk (E_place g_this) (E_first g_this) (v1 - (48 : Int32)) (E_guess g_this) (E_number g_this)))) else (if (v1 - (48 : Int32)) = (E_first g_this) then (some ((0 : Int32), (E_mk (E_place g_this) (E_first g_this) (v1 - (48 : Int32)) (E_guess g_this) (E_number g_this)))) else ((f_X0_expect (E_mk (E_place g_this) (E_first g_this) (v1 - (48 : Int32)) (E_guess g_this) (E_number g_this)) (4 : Int32)).bind fun o11 => (if o11.1 = (0 : Int32) then (some ((0 : Int32), o11.2)) else (some ((1 : Int32), o11.2))))))) else (if (E_place g_this) = (3 : Int32) then ((f_X0_takesDigit g_this v1 (9999 : Int32)).bind fun o13 => (if o13.1 = (0 : Int32) then ((f_X0_takesEnd o13.2 v1).bind fun o15 => (if o15.1 = (0 : Int32) then (some ((0 : Int32), o15.2)) else (some ((1 : Int32), o15.2)))) else (some ((1 : Int32), o13.2)))) else (if (E_place g_this) = (4 : Int32) then ((f_X0_takesDigit g_this v1 (1000 : Int32)).bind fun o17 => (if o17.1 = (0 : Int32) then ((f_X0_takesComma o17.2 v1).bind fun o19 => (if o19.1 = (0 : Int32) then (some ((0 : Int32), o19.2)) else (some ((1 : Int32), o19.2)))) else (some ((1 : Int32), o17.2)))) else ((f_X0_takesDigit g_this v1 (1000 : Int32)).bind fun o21 => (if o21.1 = (0 : Int32) then ((f_X0_takesEnd o21.2 v1).bind fun o23 => (if o23.1 = (0 : Int32) then (some ((0 : Int32), o23.2)) else (some ((1 : Int32), o23.2)))) else (some ((1 : Int32), o21.2)))))))))
set_option maxHeartbeats 8000000 in
set_option maxRecDepth 100000 in
theorem c_X0_takes (l : Launch) (hlt : l.stackTraces = false) (D : va_G) (dT : Nat → ClassId) (a_this : Nat → Nat) (g_this : TE) (v1 : Int32) (o : (Int32 × (TE))) (h : f_X0_takes g_this v1 = some o) (sz : Nat) : Met l yX0_takes (WSm yX0_takes cX0_takes 2 (some .boolean)) { frames := 2, cells := 0, slots := 0, locals := 44 } (va_Pc [.ref (a_this 0), .int v1] (cPre D dT (cE dT a_this g_this) sz)) (va_Qi (fun (r : Int32) (u : TE) => r = o.1 ∧ u = o.2) (fun u t => cAt D dT (va_A (cE dT a_this g_this) sz) (cE dT a_this u) t) (va_A (cE dT a_this g_this) sz)) 0 0 (va_A (cE dT a_this g_this) sz) := by
  refine mStart (WS := (cE dT a_this g_this)) (Qc := fun A => va_Qi (fun (r : Int32) (u : TE) => r = o.1 ∧ u = o.2) (fun u t => cAt D dT A (cE dT a_this u) t) A) RX0 rfl (by decide) (Nat.le_of_ble_eq_true rfl) ?_ sz
  intro p e s m below meth c A ls hx hb hml hr hlk hnm hts hqs hown hE hA hK hP hD hS hl
  have hl : lv_has ls 2 [(0, .ref (a_this 0)), (1, .int v1)] := hl
  unfold f_X0_takes at h
  refine lv_aload_n hx hb dX0_takes_0 rfl (lv_at hl 0 rfl) ?_
  refine gf_X0_19 (v := .int (E_place g_this)) hx hb hqs hown hK hP 0 rfl rfl dX0_takes_1 ?_
  by_cases c1_0 : (E_place g_this) = (0 : Int32)
  · replace h := iteT c1_0 h
    refine lv_tableIn (off := (36)) (tgt := 40) hx hb dX0_takes_4 (by rw [c1_0]; decide) (by rw [c1_0]; decide) (by rw [c1_0]; rfl) (by decide) ?_
    refine lv_aload_n hx hb dX0_takes_40 rfl (lv_at hl 0 rfl) ?_
    refine lv_iload_n hx hb dX0_takes_41 rfl (lv_at hl 1 rfl) ?_
    obtain ⟨o2, e2, h⟩ := obind h
    have hPc := hP
    have hDc := hD
    have hFc := vfall hD hS hA
    refine cl_iA (va_runV (As := [.int v1]) (rest := []) ⟨hx, hb, hml, hown, hts⟩ (c_X0_takesEntry l hlt D dT a_this g_this v1 o2 e2 _) (cwV 1 hts (TB_V w_670 w_672 w_22 w_36 w_673) rfl rfl rfl ⟨rfl, nd_X0_takesEntry⟩ ⟨Nat.le_of_ble_eq_true rfl, Nat.le_of_ble_eq_true rfl⟩) (cPre.V hPc hDc hK hE hS hFc (va_recv hK hP (ci := 0) (q0 := 0) rfl rfl)) rfl rfl hl.1 rfl (lv_room (Nat.le_of_ble_eq_true rfl)) dX0_takes_42 ⟨Nat.zero_le _, Nat.zero_le _⟩) hS hFc (fun r2 u2 H locs hw hP hD hS => ?_)
    obtain ⟨rfl, rfl⟩ := hw
    have hP : va_P D vwCl (cE dT a_this o2.2) H := hP
    have hD : va_D A (cE dT a_this o2.2) := hD
    obtain ⟨g3, h⟩ := chp h
    exact rt_z hx hb hr hlk hK hS (o2.2 : TE) (ret2 h) g3 hP hD dX0_takes_45
  replace h := iteF c1_0 h
  by_cases c1_1 : (E_place g_this) = (1 : Int32)
  · replace h := iteT c1_1 h
    refine lv_tableIn (off := (42)) (tgt := 46) hx hb dX0_takes_4 (by rw [c1_1]; decide) (by rw [c1_1]; decide) (by rw [c1_1]; rfl) (by decide) ?_
    refine lv_aload_n hx hb dX0_takes_46 rfl (lv_at hl 0 rfl) ?_
    refine lv_iload_n hx hb dX0_takes_47 rfl (lv_at hl 1 rfl) ?_
    refine lv_bipush (v := 48) hx hb dX0_takes_48 (by decide) ?_
    refine lv_isub hx hb dX0_takes_50 ?_
    refine pf_X0_25 hx hb hqs hown hK hP hD hS 0 rfl rfl dX0_takes_51 (fun H locs hP hD hS => ?_)
    have hP : va_P D vwCl ([(a_this 0, .inr (0, [.int (E_place g_this), .int (v1 - (48 : Int32)), .int (E_second g_this), .int (E_guess g_this), .int (E_number g_this)]))]) H := hP
    have hD : va_D A ([(a_this 0, .inr (0, [.int (E_place g_this), .int (v1 - (48 : Int32)), .int (E_second g_this), .int (E_guess g_this), .int (E_number g_this)]))]) := hD
    refine lv_aload_n hx hb dX0_takes_54 rfl (lv_at hl 0 rfl) ?_
    refine gf_X0_25 (v := .int (v1 - (48 : Int32))) hx hb hqs hown hK hP 0 rfl rfl dX0_takes_55 ?_
    refine lv_iconst (v := 0) hx hb dX0_takes_58 (by decide) ?_
    refine lv_bipush (v := 6) hx hb dX0_takes_59 (by decide) ?_
    obtain ⟨o4, e4, h⟩ := obind h
    have hPc := hP.sub (ws' := ([] : va_W)) [] rfl
    have hDc := hD.sub (ws' := ([] : va_W)) [] (by decide) rfl
    have hFc := va_free (wc := ([] : va_W)) hD hS hA [] rfl
    refine cl_i (wr := ([(a_this 0, .inr (0, [.int (E_place g_this), .int (v1 - (48 : Int32)), .int (E_second g_this), .int (E_guess g_this), .int (E_number g_this)]))])) (va_runSN (As := [.int (v1 - (48 : Int32)), .int (0 : Int32), .int (6 : Int32)]) (rest := []) ⟨hx, hb, hml, hown, hts⟩ (c_X8_isIn l hlt D dT (v1 - (48 : Int32)) (0 : Int32) (6 : Int32) o4 e4 _) ⟨va_cnB 3 hts (TB_in (WSm_in w_292)) rfl rfl rfl (hE.1 (RX0, 28, yX8_isIn, RX8) (List.mem_of_getElem? (i := 10) rfl)) (hqs _ w_33) nd_X8_isIn ⟨Nat.le_of_ble_eq_true rfl, Nat.le_of_ble_eq_true rfl⟩, hqs _ w_291, trivial⟩ (cPre.S hPc hDc hK hE hS hFc) rfl rfl hl.1 rfl (lv_room (Nat.le_of_ble_eq_true rfl)) dX0_takes_61 ⟨Nat.zero_le _, Nat.zero_le _⟩) hP hD hS hFc [] [0] rfl rfl (by decide) (by decide) (fun r4 u4 H locs hw hP hD hS => ?_)
    obtain ⟨rfl, rfl⟩ := hw
    have hP : va_P D vwCl ([(a_this 0, .inr (0, [.int (E_place g_this), .int (v1 - (48 : Int32)), .int (E_second g_this), .int (E_guess g_this), .int (E_number g_this)]))]) H := hP
    have hD : va_D A ([(a_this 0, .inr (0, [.int (E_place g_this), .int (v1 - (48 : Int32)), .int (E_second g_this), .int (E_guess g_this), .int (E_number g_this)]))]) := hD
    refine lv_if_eq (tgt := 79) hx hb dX0_takes_64 (by decide) (fun c5 => ?_) (fun c5 => ?_)
    · replace h := iteT c5 h
      refine lv_iconst (v := 0) hx hb dX0_takes_79 (by decide) ?_
      exact rt_z hx hb hr hlk hK hS ((E_mk (E_place g_this) (v1 - (48 : Int32)) (E_second g_this) (E_guess g_this) (E_number g_this)) : TE) (ret2 h) (by decide) hP hD dX0_takes_80
    · replace h := iteF c5 h
      refine lv_aload_n hx hb dX0_takes_67 rfl (lv_at hl 0 rfl) ?_
      refine lv_iconst (v := 2) hx hb dX0_takes_68 (by decide) ?_
      obtain ⟨o6, e6, h⟩ := obind h
      have hPc := hP
      have hDc := hD
      have hFc := vfall hD hS hA
      refine cl_iA (va_runV (As := [.int (2 : Int32)]) (rest := []) ⟨hx, hb, hml, hown, hts⟩ (c_X0_expect l hlt D dT a_this (E_mk (E_place g_this) (v1 - (48 : Int32)) (E_second g_this) (E_guess g_this) (E_number g_this)) (2 : Int32) o6 e6 _) (cwV 1 hts (TB_V w_653 w_655 w_21 w_36 w_656) rfl rfl rfl ⟨rfl, nd_X0_expect⟩ ⟨Nat.le_of_ble_eq_true rfl, Nat.le_of_ble_eq_true rfl⟩) (cPre.V hPc hDc hK hE hS hFc (va_recv hK hP (ci := 0) (q0 := 0) rfl rfl)) rfl rfl hl.1 rfl (lv_room (Nat.le_of_ble_eq_true rfl)) dX0_takes_69 ⟨Nat.zero_le _, Nat.zero_le _⟩) hS hFc (fun r6 u6 H locs hw hP hD hS => ?_)
      obtain ⟨rfl, rfl⟩ := hw
      have hP : va_P D vwCl (cE dT a_this o6.2) H := hP
      have hD : va_D A (cE dT a_this o6.2) := hD
      refine lv_if_eq (tgt := 79) hx hb dX0_takes_72 (by decide) (fun c7 => ?_) (fun c7 => ?_)
      · replace h := iteT c7 h
        refine lv_iconst (v := 0) hx hb dX0_takes_79 (by decide) ?_
        exact rt_z hx hb hr hlk hK hS (o6.2 : TE) (ret2 h) (by decide) hP hD dX0_takes_80
      · replace h := iteF c7 h
        refine lv_iconst (v := 1) hx hb dX0_takes_75 (by decide) ?_
        refine lv_goto (tgt := 80) hx hb dX0_takes_76 (by decide) ?_
        exact rt_z hx hb hr hlk hK hS (o6.2 : TE) (ret2 h) (by decide) hP hD dX0_takes_80
  replace h := iteF c1_1 h
  by_cases c1_2 : (E_place g_this) = (2 : Int32)
  · replace h := iteT c1_2 h
    refine lv_tableIn (off := (77)) (tgt := 81) hx hb dX0_takes_4 (by rw [c1_2]; decide) (by rw [c1_2]; decide) (by rw [c1_2]; rfl) (by decide) ?_
    refine lv_aload_n hx hb dX0_takes_81 rfl (lv_at hl 0 rfl) ?_
    refine lv_iload_n hx hb dX0_takes_82 rfl (lv_at hl 1 rfl) ?_
    refine lv_bipush (v := 48) hx hb dX0_takes_83 (by decide) ?_
    refine lv_isub hx hb dX0_takes_85 ?_
    refine pf_X0_32 hx hb hqs hown hK hP hD hS 0 rfl rfl dX0_takes_86 (fun H locs hP hD hS => ?_)
    have hP : va_P D vwCl ([(a_this 0, .inr (0, [.int (E_place g_this), .int (E_first g_this), .int (v1 - (48 : Int32)), .int (E_guess g_this), .int (E_number g_this)]))]) H := hP
    have hD : va_D A ([(a_this 0, .inr (0, [.int (E_place g_this), .int (E_first g_this), .int (v1 - (48 : Int32)), .int (E_guess g_this), .int (E_number g_this)]))]) := hD
    refine lv_aload_n hx hb dX0_takes_89 rfl (lv_at hl 0 rfl) ?_
    refine gf_X0_32 (v := .int (v1 - (48 : Int32))) hx hb hqs hown hK hP 0 rfl rfl dX0_takes_90 ?_
    refine lv_iconst (v := 0) hx hb dX0_takes_93 (by decide) ?_
    refine lv_bipush (v := 6) hx hb dX0_takes_94 (by decide) ?_
    obtain ⟨o8, e8, h⟩ := obind h
    have hPc := hP.sub (ws' := ([] : va_W)) [] rfl
    have hDc := hD.sub (ws' := ([] : va_W)) [] (by decide) rfl
    have hFc := va_free (wc := ([] : va_W)) hD hS hA [] rfl
    refine cl_i (wr := ([(a_this 0, .inr (0, [.int (E_place g_this), .int (E_first g_this), .int (v1 - (48 : Int32)), .int (E_guess g_this), .int (E_number g_this)]))])) (va_runSN (As := [.int (v1 - (48 : Int32)), .int (0 : Int32), .int (6 : Int32)]) (rest := []) ⟨hx, hb, hml, hown, hts⟩ (c_X8_isIn l hlt D dT (v1 - (48 : Int32)) (0 : Int32) (6 : Int32) o8 e8 _) ⟨va_cnB 3 hts (TB_in (WSm_in w_292)) rfl rfl rfl (hE.1 (RX0, 28, yX8_isIn, RX8) (List.mem_of_getElem? (i := 10) rfl)) (hqs _ w_33) nd_X8_isIn ⟨Nat.le_of_ble_eq_true rfl, Nat.le_of_ble_eq_true rfl⟩, hqs _ w_291, trivial⟩ (cPre.S hPc hDc hK hE hS hFc) rfl rfl hl.1 rfl (lv_room (Nat.le_of_ble_eq_true rfl)) dX0_takes_96 ⟨Nat.zero_le _, Nat.zero_le _⟩) hP hD hS hFc [] [0] rfl rfl (by decide) (by decide) (fun r8 u8 H locs hw hP hD hS => ?_)
    obtain ⟨rfl, rfl⟩ := hw
    have hP : va_P D vwCl ([(a_this 0, .inr (0, [.int (E_place g_this), .int (E_first g_this), .int (v1 - (48 : Int32)), .int (E_guess g_this), .int (E_number g_this)]))]) H := hP
    have hD : va_D A ([(a_this 0, .inr (0, [.int (E_place g_this), .int (E_first g_this), .int (v1 - (48 : Int32)), .int (E_guess g_this), .int (E_number g_this)]))]) := hD
    refine lv_if_eq (tgt := 125) hx hb dX0_takes_99 (by decide) (fun c9 => ?_) (fun c9 => ?_)
    · replace h := iteT c9 h
      refine lv_iconst (v := 0) hx hb dX0_takes_125 (by decide) ?_
      exact rt_z hx hb hr hlk hK hS ((E_mk (E_place g_this) (E_first g_this) (v1 - (48 : Int32)) (E_guess g_this) (E_number g_this)) : TE) (ret2 h) (by decide) hP hD dX0_takes_126
    · replace h := iteF c9 h
      refine lv_aload_n hx hb dX0_takes_102 rfl (lv_at hl 0 rfl) ?_
      refine gf_X0_32 (v := .int (v1 - (48 : Int32))) hx hb hqs hown hK hP 0 rfl rfl dX0_takes_103 ?_
      refine lv_aload_n hx hb dX0_takes_106 rfl (lv_at hl 0 rfl) ?_
      refine gf_X0_25 (v := .int (E_first g_this)) hx hb hqs hown hK hP 0 rfl rfl dX0_takes_107 ?_
      refine lv_icmp_eq (tgt := 125) hx hb dX0_takes_110 (by decide) (fun c10 => ?_) (fun c10 => ?_)
      · replace h := iteT c10 h
        refine lv_iconst (v := 0) hx hb dX0_takes_125 (by decide) ?_
        exact rt_z hx hb hr hlk hK hS ((E_mk (E_place g_this) (E_first g_this) (v1 - (48 : Int32)) (E_guess g_this) (E_number g_this)) : TE) (ret2 h) (by decide) hP hD dX0_takes_126
      · replace h := iteF c10 h
        refine lv_aload_n hx hb dX0_takes_113 rfl (lv_at hl 0 rfl) ?_
        refine lv_iconst (v := 4) hx hb dX0_takes_114 (by decide) ?_
        obtain ⟨o11, e11, h⟩ := obind h
        have hPc := hP
        have hDc := hD
        have hFc := vfall hD hS hA
        refine cl_iA (va_runV (As := [.int (4 : Int32)]) (rest := []) ⟨hx, hb, hml, hown, hts⟩ (c_X0_expect l hlt D dT a_this (E_mk (E_place g_this) (E_first g_this) (v1 - (48 : Int32)) (E_guess g_this) (E_number g_this)) (4 : Int32) o11 e11 _) (cwV 1 hts (TB_V w_653 w_655 w_21 w_36 w_656) rfl rfl rfl ⟨rfl, nd_X0_expect⟩ ⟨Nat.le_of_ble_eq_true rfl, Nat.le_of_ble_eq_true rfl⟩) (cPre.V hPc hDc hK hE hS hFc (va_recv hK hP (ci := 0) (q0 := 0) rfl rfl)) rfl rfl hl.1 rfl (lv_room (Nat.le_of_ble_eq_true rfl)) dX0_takes_115 ⟨Nat.zero_le _, Nat.zero_le _⟩) hS hFc (fun r11 u11 H locs hw hP hD hS => ?_)
        obtain ⟨rfl, rfl⟩ := hw
        have hP : va_P D vwCl (cE dT a_this o11.2) H := hP
        have hD : va_D A (cE dT a_this o11.2) := hD
        refine lv_if_eq (tgt := 125) hx hb dX0_takes_118 (by decide) (fun c12 => ?_) (fun c12 => ?_)
        · replace h := iteT c12 h
          refine lv_iconst (v := 0) hx hb dX0_takes_125 (by decide) ?_
          exact rt_z hx hb hr hlk hK hS (o11.2 : TE) (ret2 h) (by decide) hP hD dX0_takes_126
        · replace h := iteF c12 h
          refine lv_iconst (v := 1) hx hb dX0_takes_121 (by decide) ?_
          refine lv_goto (tgt := 126) hx hb dX0_takes_122 (by decide) ?_
          exact rt_z hx hb hr hlk hK hS (o11.2 : TE) (ret2 h) (by decide) hP hD dX0_takes_126
  replace h := iteF c1_2 h
  by_cases c1_3 : (E_place g_this) = (3 : Int32)
  · replace h := iteT c1_3 h
    refine lv_tableIn (off := (123)) (tgt := 127) hx hb dX0_takes_4 (by rw [c1_3]; decide) (by rw [c1_3]; decide) (by rw [c1_3]; rfl) (by decide) ?_
    refine lv_aload_n hx hb dX0_takes_127 rfl (lv_at hl 0 rfl) ?_
    refine lv_iload_n hx hb dX0_takes_128 rfl (lv_at hl 1 rfl) ?_
    refine lv_sipush (v := 9999) hx hb dX0_takes_129 (by decide) ?_
    obtain ⟨o13, e13, h⟩ := obind h
    have hPc := hP
    have hDc := hD
    have hFc := vfall hD hS hA
    refine cl_iA (va_runV (As := [.int v1, .int (9999 : Int32)]) (rest := []) ⟨hx, hb, hml, hown, hts⟩ (c_X0_takesDigit l hlt D dT a_this g_this v1 (9999 : Int32) o13 e13 _) (cwV 2 hts (TB_V w_675 w_677 w_23 w_36 w_678) rfl rfl rfl ⟨rfl, nd_X0_takesDigit⟩ ⟨Nat.le_of_ble_eq_true rfl, Nat.le_of_ble_eq_true rfl⟩) (cPre.V hPc hDc hK hE hS hFc (va_recv hK hP (ci := 0) (q0 := 0) rfl rfl)) rfl rfl hl.1 rfl (lv_room (Nat.le_of_ble_eq_true rfl)) dX0_takes_132 ⟨Nat.zero_le _, Nat.zero_le _⟩) hS hFc (fun r13 u13 H locs hw hP hD hS => ?_)
    obtain ⟨rfl, rfl⟩ := hw
    have hP : va_P D vwCl (cE dT a_this o13.2) H := hP
    have hD : va_D A (cE dT a_this o13.2) := hD
    refine lv_if_ne (tgt := 146) hx hb dX0_takes_135 (by decide) (fun c14 => ?_) (fun c14 => ?_)
    · replace h := iteF c14 h
      refine lv_iconst (v := 1) hx hb dX0_takes_146 (by decide) ?_
      refine lv_goto (tgt := 151) hx hb dX0_takes_147 (by decide) ?_
      exact rt_z hx hb hr hlk hK hS (o13.2 : TE) (ret2 h) (by decide) hP hD dX0_takes_151
    · replace h := iteT c14 h
      refine lv_aload_n hx hb dX0_takes_138 rfl (lv_at hl 0 rfl) ?_
      refine lv_iload_n hx hb dX0_takes_139 rfl (lv_at hl 1 rfl) ?_
      obtain ⟨o15, e15, h⟩ := obind h
      have hPc := hP
      have hDc := hD
      have hFc := vfall hD hS hA
      refine cl_iA (va_runV (As := [.int v1]) (rest := []) ⟨hx, hb, hml, hown, hts⟩ (c_X0_takesEnd l hlt D dT a_this o13.2 v1 o15 e15 _) (cwV 1 hts (TB_V w_679 w_681 w_24 w_36 w_682) rfl rfl rfl ⟨rfl, nd_X0_takesEnd⟩ ⟨Nat.le_of_ble_eq_true rfl, Nat.le_of_ble_eq_true rfl⟩) (cPre.V hPc hDc hK hE hS hFc (va_recv hK hP (ci := 0) (q0 := 0) rfl rfl)) rfl rfl hl.1 rfl (lv_room (Nat.le_of_ble_eq_true rfl)) dX0_takes_140 ⟨Nat.zero_le _, Nat.zero_le _⟩) hS hFc (fun r15 u15 H locs hw hP hD hS => ?_)
      obtain ⟨rfl, rfl⟩ := hw
      have hP : va_P D vwCl (cE dT a_this o15.2) H := hP
      have hD : va_D A (cE dT a_this o15.2) := hD
      refine lv_if_eq (tgt := 150) hx hb dX0_takes_143 (by decide) (fun c16 => ?_) (fun c16 => ?_)
      · replace h := iteT c16 h
        refine lv_iconst (v := 0) hx hb dX0_takes_150 (by decide) ?_
        exact rt_z hx hb hr hlk hK hS (o15.2 : TE) (ret2 h) (by decide) hP hD dX0_takes_151
      · replace h := iteF c16 h
        refine lv_iconst (v := 1) hx hb dX0_takes_146 (by decide) ?_
        refine lv_goto (tgt := 151) hx hb dX0_takes_147 (by decide) ?_
        exact rt_z hx hb hr hlk hK hS (o15.2 : TE) (ret2 h) (by decide) hP hD dX0_takes_151
  replace h := iteF c1_3 h
  by_cases c1_4 : (E_place g_this) = (4 : Int32)
  · replace h := iteT c1_4 h
    refine lv_tableIn (off := (148)) (tgt := 152) hx hb dX0_takes_4 (by rw [c1_4]; decide) (by rw [c1_4]; decide) (by rw [c1_4]; rfl) (by decide) ?_
    refine lv_aload_n hx hb dX0_takes_152 rfl (lv_at hl 0 rfl) ?_
    refine lv_iload_n hx hb dX0_takes_153 rfl (lv_at hl 1 rfl) ?_
    refine lv_sipush (v := 1000) hx hb dX0_takes_154 (by decide) ?_
    obtain ⟨o17, e17, h⟩ := obind h
    have hPc := hP
    have hDc := hD
    have hFc := vfall hD hS hA
    refine cl_iA (va_runV (As := [.int v1, .int (1000 : Int32)]) (rest := []) ⟨hx, hb, hml, hown, hts⟩ (c_X0_takesDigit l hlt D dT a_this g_this v1 (1000 : Int32) o17 e17 _) (cwV 2 hts (TB_V w_675 w_677 w_23 w_36 w_678) rfl rfl rfl ⟨rfl, nd_X0_takesDigit⟩ ⟨Nat.le_of_ble_eq_true rfl, Nat.le_of_ble_eq_true rfl⟩) (cPre.V hPc hDc hK hE hS hFc (va_recv hK hP (ci := 0) (q0 := 0) rfl rfl)) rfl rfl hl.1 rfl (lv_room (Nat.le_of_ble_eq_true rfl)) dX0_takes_157 ⟨Nat.zero_le _, Nat.zero_le _⟩) hS hFc (fun r17 u17 H locs hw hP hD hS => ?_)
    obtain ⟨rfl, rfl⟩ := hw
    have hP : va_P D vwCl (cE dT a_this o17.2) H := hP
    have hD : va_D A (cE dT a_this o17.2) := hD
    refine lv_if_ne (tgt := 171) hx hb dX0_takes_160 (by decide) (fun c18 => ?_) (fun c18 => ?_)
    · replace h := iteF c18 h
      refine lv_iconst (v := 1) hx hb dX0_takes_171 (by decide) ?_
      refine lv_goto (tgt := 176) hx hb dX0_takes_172 (by decide) ?_
      exact rt_z hx hb hr hlk hK hS (o17.2 : TE) (ret2 h) (by decide) hP hD dX0_takes_176
    · replace h := iteT c18 h
      refine lv_aload_n hx hb dX0_takes_163 rfl (lv_at hl 0 rfl) ?_
      refine lv_iload_n hx hb dX0_takes_164 rfl (lv_at hl 1 rfl) ?_
      obtain ⟨o19, e19, h⟩ := obind h
      have hPc := hP
      have hDc := hD
      have hFc := vfall hD hS hA
      refine cl_iA (va_runV (As := [.int v1]) (rest := []) ⟨hx, hb, hml, hown, hts⟩ (c_X0_takesComma l hlt D dT a_this o17.2 v1 o19 e19 _) (cwV 1 hts (TB_V w_687 w_689 w_25 w_36 w_690) rfl rfl rfl ⟨rfl, nd_X0_takesComma⟩ ⟨Nat.le_of_ble_eq_true rfl, Nat.le_of_ble_eq_true rfl⟩) (cPre.V hPc hDc hK hE hS hFc (va_recv hK hP (ci := 0) (q0 := 0) rfl rfl)) rfl rfl hl.1 rfl (lv_room (Nat.le_of_ble_eq_true rfl)) dX0_takes_165 ⟨Nat.zero_le _, Nat.zero_le _⟩) hS hFc (fun r19 u19 H locs hw hP hD hS => ?_)
      obtain ⟨rfl, rfl⟩ := hw
      have hP : va_P D vwCl (cE dT a_this o19.2) H := hP
      have hD : va_D A (cE dT a_this o19.2) := hD
      refine lv_if_eq (tgt := 175) hx hb dX0_takes_168 (by decide) (fun c20 => ?_) (fun c20 => ?_)
      · replace h := iteT c20 h
        refine lv_iconst (v := 0) hx hb dX0_takes_175 (by decide) ?_
        exact rt_z hx hb hr hlk hK hS (o19.2 : TE) (ret2 h) (by decide) hP hD dX0_takes_176
      · replace h := iteF c20 h
        refine lv_iconst (v := 1) hx hb dX0_takes_171 (by decide) ?_
        refine lv_goto (tgt := 176) hx hb dX0_takes_172 (by decide) ?_
        exact rt_z hx hb hr hlk hK hS (o19.2 : TE) (ret2 h) (by decide) hP hD dX0_takes_176
  replace h := iteF c1_4 h
  have e1_0 : ¬ Int32.toInt (E_place g_this) = (0 : Int) := fun q => c1_0 (Int32.toInt_inj.mp (q.trans (by decide)))
  have e1_1 : ¬ Int32.toInt (E_place g_this) = (1 : Int) := fun q => c1_1 (Int32.toInt_inj.mp (q.trans (by decide)))
  have e1_2 : ¬ Int32.toInt (E_place g_this) = (2 : Int) := fun q => c1_2 (Int32.toInt_inj.mp (q.trans (by decide)))
  have e1_3 : ¬ Int32.toInt (E_place g_this) = (3 : Int) := fun q => c1_3 (Int32.toInt_inj.mp (q.trans (by decide)))
  have e1_4 : ¬ Int32.toInt (E_place g_this) = (4 : Int) := fun q => c1_4 (Int32.toInt_inj.mp (q.trans (by decide)))
  refine lv_tableOut (tgt := 177) hx hb dX0_takes_4 (by omega) (by decide) ?_
  refine lv_aload_n hx hb dX0_takes_177 rfl (lv_at hl 0 rfl) ?_
  refine lv_iload_n hx hb dX0_takes_178 rfl (lv_at hl 1 rfl) ?_
  refine lv_sipush (v := 1000) hx hb dX0_takes_179 (by decide) ?_
  obtain ⟨o21, e21, h⟩ := obind h
  have hPc := hP
  have hDc := hD
  have hFc := vfall hD hS hA
  refine cl_iA (va_runV (As := [.int v1, .int (1000 : Int32)]) (rest := []) ⟨hx, hb, hml, hown, hts⟩ (c_X0_takesDigit l hlt D dT a_this g_this v1 (1000 : Int32) o21 e21 _) (cwV 2 hts (TB_V w_675 w_677 w_23 w_36 w_678) rfl rfl rfl ⟨rfl, nd_X0_takesDigit⟩ ⟨Nat.le_of_ble_eq_true rfl, Nat.le_of_ble_eq_true rfl⟩) (cPre.V hPc hDc hK hE hS hFc (va_recv hK hP (ci := 0) (q0 := 0) rfl rfl)) rfl rfl hl.1 rfl (lv_room (Nat.le_of_ble_eq_true rfl)) dX0_takes_182 ⟨Nat.zero_le _, Nat.zero_le _⟩) hS hFc (fun r21 u21 H locs hw hP hD hS => ?_)
  obtain ⟨rfl, rfl⟩ := hw
  have hP : va_P D vwCl (cE dT a_this o21.2) H := hP
  have hD : va_D A (cE dT a_this o21.2) := hD
  refine lv_if_ne (tgt := 196) hx hb dX0_takes_185 (by decide) (fun c22 => ?_) (fun c22 => ?_)
  · replace h := iteF c22 h
    refine lv_iconst (v := 1) hx hb dX0_takes_196 (by decide) ?_
    refine lv_goto (tgt := 201) hx hb dX0_takes_197 (by decide) ?_
    exact rt_z hx hb hr hlk hK hS (o21.2 : TE) (ret2 h) (by decide) hP hD dX0_takes_201
  · replace h := iteT c22 h
    refine lv_aload_n hx hb dX0_takes_188 rfl (lv_at hl 0 rfl) ?_
    refine lv_iload_n hx hb dX0_takes_189 rfl (lv_at hl 1 rfl) ?_
    obtain ⟨o23, e23, h⟩ := obind h
    have hPc := hP
    have hDc := hD
    have hFc := vfall hD hS hA
    refine cl_iA (va_runV (As := [.int v1]) (rest := []) ⟨hx, hb, hml, hown, hts⟩ (c_X0_takesEnd l hlt D dT a_this o21.2 v1 o23 e23 _) (cwV 1 hts (TB_V w_679 w_681 w_24 w_36 w_682) rfl rfl rfl ⟨rfl, nd_X0_takesEnd⟩ ⟨Nat.le_of_ble_eq_true rfl, Nat.le_of_ble_eq_true rfl⟩) (cPre.V hPc hDc hK hE hS hFc (va_recv hK hP (ci := 0) (q0 := 0) rfl rfl)) rfl rfl hl.1 rfl (lv_room (Nat.le_of_ble_eq_true rfl)) dX0_takes_190 ⟨Nat.zero_le _, Nat.zero_le _⟩) hS hFc (fun r23 u23 H locs hw hP hD hS => ?_)
    obtain ⟨rfl, rfl⟩ := hw
    have hP : va_P D vwCl (cE dT a_this o23.2) H := hP
    have hD : va_D A (cE dT a_this o23.2) := hD
    refine lv_if_eq (tgt := 200) hx hb dX0_takes_193 (by decide) (fun c24 => ?_) (fun c24 => ?_)
    · replace h := iteT c24 h
      refine lv_iconst (v := 0) hx hb dX0_takes_200 (by decide) ?_
      exact rt_z hx hb hr hlk hK hS (o23.2 : TE) (ret2 h) (by decide) hP hD dX0_takes_201
    · replace h := iteF c24 h
      refine lv_iconst (v := 1) hx hb dX0_takes_196 (by decide) ?_
      refine lv_goto (tgt := 201) hx hb dX0_takes_197 (by decide) ?_
      exact rt_z hx hb hr hlk hK hS (o23.2 : TE) (ret2 h) (by decide) hP hD dX0_takes_201

def f_X2_begin (g_this : TR) : Option (Unit × (TR)) :=
  (some ((), (R_mk (0 : Int32) (0 : Int32) (1 : Int32) (R_order g_this))))
set_option maxHeartbeats 8000000 in
set_option maxRecDepth 100000 in
theorem c_X2_begin (l : Launch) (hlt : l.stackTraces = false) (D : va_G) (dT : Nat → ClassId) (a_this : Nat → Nat) (g_this : TR) (o : (Unit × (TR))) (h : f_X2_begin g_this = some o) (sz : Nat) : Met l yX2_begin (WSm yX2_begin cX2_begin 1 none) { frames := 0, cells := 0, slots := 0, locals := 0 } (va_Pc [.ref (a_this 0)] (cPre D dT (cR dT a_this g_this) sz)) (va_Qv (fun (u : TR) => u = o.2) (fun u t => cAt D dT (va_A (cR dT a_this g_this) sz) (cR dT a_this u) t) (va_A (cR dT a_this g_this) sz)) 0 0 (va_A (cR dT a_this g_this) sz) := by
  refine mStart (WS := (cR dT a_this g_this)) (Qc := fun A => va_Qv (fun (u : TR) => u = o.2) (fun u t => cAt D dT A (cR dT a_this u) t) A) RX2 rfl (by decide) (Nat.le_of_ble_eq_true rfl) ?_ sz
  intro p e s m below meth c A ls hx hb hml hr hlk hnm hts hqs hown hE hA hK hP hD hS hl
  have hl : lv_has ls 1 [(0, .ref (a_this 0))] := hl
  unfold f_X2_begin at h
  refine lv_aload_n hx hb dX2_begin_0 rfl (lv_at hl 0 rfl) ?_
  refine lv_iconst (v := 0) hx hb dX2_begin_1 (by decide) ?_
  refine pf_X2_15 hx hb hqs hown hK hP hD hS 0 rfl rfl dX2_begin_2 (fun H locs hP hD hS => ?_)
  have hP : va_P D vwCl ([(a_this 0, .inr (2, [.int (0 : Int32), .int (R_seen g_this), .int (R_expectsTable g_this), .ref (a_this 1)])), (a_this 1, .inl (dT 0, 7, .inl (R_order g_this)))]) H := hP
  have hD : va_D A ([(a_this 0, .inr (2, [.int (0 : Int32), .int (R_seen g_this), .int (R_expectsTable g_this), .ref (a_this 1)])), (a_this 1, .inl (dT 0, 7, .inl (R_order g_this)))]) := hD
  refine lv_aload_n hx hb dX2_begin_5 rfl (lv_at hl 0 rfl) ?_
  refine lv_iconst (v := 0) hx hb dX2_begin_6 (by decide) ?_
  refine pf_X2_19 hx hb hqs hown hK hP hD hS 0 rfl rfl dX2_begin_7 (fun H locs hP hD hS => ?_)
  have hP : va_P D vwCl ([(a_this 0, .inr (2, [.int (0 : Int32), .int (0 : Int32), .int (R_expectsTable g_this), .ref (a_this 1)])), (a_this 1, .inl (dT 0, 7, .inl (R_order g_this)))]) H := hP
  have hD : va_D A ([(a_this 0, .inr (2, [.int (0 : Int32), .int (0 : Int32), .int (R_expectsTable g_this), .ref (a_this 1)])), (a_this 1, .inl (dT 0, 7, .inl (R_order g_this)))]) := hD
  refine lv_aload_n hx hb dX2_begin_10 rfl (lv_at hl 0 rfl) ?_
  refine lv_iconst (v := 1) hx hb dX2_begin_11 (by decide) ?_
  refine pf_X2_22 hx hb hqs hown hK hP hD hS 0 rfl rfl (by decide) dX2_begin_12 (fun H locs hP hD hS => ?_)
  have hP : va_P D vwCl ([(a_this 0, .inr (2, [.int (0 : Int32), .int (0 : Int32), .int (1 : Int32), .ref (a_this 1)])), (a_this 1, .inl (dT 0, 7, .inl (R_order g_this)))]) H := hP
  have hD : va_D A ([(a_this 0, .inr (2, [.int (0 : Int32), .int (0 : Int32), .int (1 : Int32), .ref (a_this 1)])), (a_this 1, .inl (dT 0, 7, .inl (R_order g_this)))]) := hD
  exact rt_v hx hb hr hlk hK hS ((R_mk (0 : Int32) (0 : Int32) (1 : Int32) (R_order g_this)) : TR) (retv h) hP hD dX2_begin_15

def f_X2_isComplete (g_this : TR) : Option (Int32 × (Unit)) :=
  (if (R_expectsTable g_this) = (0 : Int32) then (some ((1 : Int32), ())) else (some ((0 : Int32), ())))
set_option maxHeartbeats 8000000 in
set_option maxRecDepth 100000 in
theorem c_X2_isComplete (l : Launch) (hlt : l.stackTraces = false) (D : va_G) (dT : Nat → ClassId) (a_this : Nat → Nat) (g_this : TR) (o : (Int32 × (Unit))) (h : f_X2_isComplete g_this = some o) (sz : Nat) : Met l yX2_isComplete (WSm yX2_isComplete cX2_isComplete 1 (some .boolean)) { frames := 0, cells := 0, slots := 0, locals := 0 } (va_Pc [.ref (a_this 0)] (cPre D dT (cR dT a_this g_this) sz)) (va_Qi (fun (r : Int32) (u : Unit) => r = o.1 ∧ u = o.2) (fun u t => cAt D dT (va_A (cR dT a_this g_this) sz) (cR dT a_this g_this) t) (va_A (cR dT a_this g_this) sz)) 0 0 (va_A (cR dT a_this g_this) sz) := by
  refine mStart (WS := (cR dT a_this g_this)) (Qc := fun A => va_Qi (fun (r : Int32) (u : Unit) => r = o.1 ∧ u = o.2) (fun u t => cAt D dT A (cR dT a_this g_this) t) A) RX2 rfl (by decide) (Nat.le_of_ble_eq_true rfl) ?_ sz
  intro p e s m below meth c A ls hx hb hml hr hlk hnm hts hqs hown hE hA hK hP hD hS hl
  have hl : lv_has ls 1 [(0, .ref (a_this 0))] := hl
  unfold f_X2_isComplete at h
  refine lv_aload_n hx hb dX2_isComplete_0 rfl (lv_at hl 0 rfl) ?_
  refine gf_X2_22 (v := .int (R_expectsTable g_this)) hx hb hqs hown hK hP 0 rfl rfl dX2_isComplete_1 ?_
  refine lv_if_ne (tgt := 11) hx hb dX2_isComplete_4 (by decide) (fun c1 => ?_) (fun c1 => ?_)
  · replace h := iteF c1 h
    refine lv_iconst (v := 0) hx hb dX2_isComplete_11 (by decide) ?_
    exact rt_z hx hb hr hlk hK hS (() : Unit) (ret2 h) (by decide) hP hD dX2_isComplete_12
  · replace h := iteT c1 h
    refine lv_iconst (v := 1) hx hb dX2_isComplete_7 (by decide) ?_
    refine lv_goto (tgt := 12) hx hb dX2_isComplete_8 (by decide) ?_
    exact rt_z hx hb hr hlk hK hS (() : Unit) (ret2 h) (by decide) hP hD dX2_isComplete_12

def f_X2_takes (g_this : TR) (v1 : Int32) : Option (Int32 × (TR)) :=
  (if (R_expectsTable g_this) = (0 : Int32) then (if v1 = (62 : Int32) then (if (7 : Int32) ≤ (R_count g_this) then (if vp_nar .boolean (0 : Int32) = (0 : Int32) then (some ((0 : Int32), (R_mk (R_count g_this) (R_seen g_this) (0 : Int32) (R_order g_this)))) else none) else (if vp_nar .boolean (1 : Int32) = (1 : Int32) then (some ((1 : Int32), (R_mk (R_count g_this) (R_seen g_this) (1 : Int32) (R_order g_this)))) else none)) else (if vp_nar .boolean (0 : Int32) = (0 : Int32) then (some ((0 : Int32), (R_mk (R_count g_this) (R_seen g_this) (0 : Int32) (R_order g_this)))) else none)) else ((f_X8_isIn (v1 - (48 : Int32)) (0 : Int32) (6 : Int32)).bind fun o2 => (if o2.1 = (0 : Int32) then (some ((0 : Int32), g_this)) else ((f_X8_holds (R_seen g_this) (v1 - (48 : Int32))).bind fun o4 => (if o4.1 = (0 : Int32) then ((f_X8_isIn (R_count g_this) (0 : Int32) (6 : Int32)).bind fun o6 => (if o6.1 = (0 : Int32) then (some ((0 : Int32), g_this)) else (if inb (R_count g_this) 7 = true then (some ((1 : Int32), (R_mk ((R_count g_this) + (1 : Int32)) ((R_seen g_this) ||| ((1 : Int32) <<< ((v1 - (48 : Int32)) &&& 31))) (0 : Int32) (upd (R_order g_this) (R_count g_this).toNatClampNeg (v1 - (48 : Int32)))))) else none))) else (some ((0 : Int32), g_this)))))))
set_option maxHeartbeats 8000000 in
set_option maxRecDepth 100000 in
theorem c_X2_takes (l : Launch) (hlt : l.stackTraces = false) (D : va_G) (dT : Nat → ClassId) (a_this : Nat → Nat) (g_this : TR) (v1 : Int32) (o : (Int32 × (TR))) (h : f_X2_takes g_this v1 = some o) (sz : Nat) : Met l yX2_takes (WSm yX2_takes cX2_takes 3 (some .boolean)) { frames := 1, cells := 0, slots := 0, locals := 22 } (va_Pc [.ref (a_this 0), .int v1] (cPre D dT (cR dT a_this g_this) sz)) (va_Qi (fun (r : Int32) (u : TR) => r = o.1 ∧ u = o.2) (fun u t => cAt D dT (va_A (cR dT a_this g_this) sz) (cR dT a_this u) t) (va_A (cR dT a_this g_this) sz)) 0 0 (va_A (cR dT a_this g_this) sz) := by
  refine mStart (WS := (cR dT a_this g_this)) (Qc := fun A => va_Qi (fun (r : Int32) (u : TR) => r = o.1 ∧ u = o.2) (fun u t => cAt D dT A (cR dT a_this u) t) A) RX2 rfl (by decide) (Nat.le_of_ble_eq_true rfl) ?_ sz
  intro p e s m below meth c A ls hx hb hml hr hlk hnm hts hqs hown hE hA hK hP hD hS hl
  have hl : lv_has ls 3 [(0, .ref (a_this 0)), (1, .int v1)] := hl
  unfold f_X2_takes at h
  refine lv_aload_n hx hb dX2_takes_0 rfl (lv_at hl 0 rfl) ?_
  refine gf_X2_22 (v := .int (R_expectsTable g_this)) hx hb hqs hown hK hP 0 rfl rfl dX2_takes_1 ?_
  refine lv_if_ne (tgt := 36) hx hb dX2_takes_4 (by decide) (fun c1 => ?_) (fun c1 => ?_)
  · replace h := iteF c1 h
    refine lv_iload_n hx hb dX2_takes_36 rfl (lv_at hl 1 rfl) ?_
    refine lv_bipush (v := 48) hx hb dX2_takes_37 (by decide) ?_
    refine lv_isub hx hb dX2_takes_39 ?_
    refine lv_istore_n (lv' := [(2, .int (v1 - (48 : Int32))), (0, .ref (a_this 0)), (1, .int v1)]) hx hb dX2_takes_40 rfl hl (by decide) rfl (fun ls hl => ?_)
    refine lv_iload_n hx hb dX2_takes_41 rfl (lv_at hl 0 rfl) ?_
    refine lv_iconst (v := 0) hx hb dX2_takes_42 (by decide) ?_
    refine lv_bipush (v := 6) hx hb dX2_takes_43 (by decide) ?_
    obtain ⟨o2, e2, h⟩ := obind h
    have hPc := hP.sub (ws' := ([] : va_W)) [] rfl
    have hDc := hD.sub (ws' := ([] : va_W)) [] (by decide) rfl
    have hFc := va_free (wc := ([] : va_W)) hD hS hA [] rfl
    refine cl_i (wr := (cR dT a_this g_this)) (va_runSN (As := [.int (v1 - (48 : Int32)), .int (0 : Int32), .int (6 : Int32)]) (rest := []) ⟨hx, hb, hml, hown, hts⟩ (c_X8_isIn l hlt D dT (v1 - (48 : Int32)) (0 : Int32) (6 : Int32) o2 e2 _) ⟨va_cnB 3 hts (TB_in (WSm_in w_292)) rfl rfl rfl (hE.1 (RX2, 26, yX8_isIn, RX8) (List.mem_of_getElem? (i := 11) rfl)) (hqs _ w_33) nd_X8_isIn ⟨Nat.le_of_ble_eq_true rfl, Nat.le_of_ble_eq_true rfl⟩, hqs _ w_291, trivial⟩ (cPre.S hPc hDc hK hE hS hFc) rfl rfl hl.1 rfl (lv_room (Nat.le_of_ble_eq_true rfl)) dX2_takes_45 ⟨Nat.zero_le _, Nat.zero_le _⟩) hP hD hS hFc [] [0, 1] rfl rfl (by decide) (by decide) (fun r2 u2 H locs hw hP hD hS => ?_)
    obtain ⟨rfl, rfl⟩ := hw
    have hP : va_P D vwCl (cR dT a_this g_this) H := hP
    have hD : va_D A (cR dT a_this g_this) := hD
    refine lv_if_eq (tgt := 75) hx hb dX2_takes_48 (by decide) (fun c3 => ?_) (fun c3 => ?_)
    · replace h := iteT c3 h
      refine lv_iconst (v := 0) hx hb dX2_takes_75 (by decide) ?_
      exact rt_z hx hb hr hlk hK hS (g_this : TR) (ret2 h) (by decide) hP hD dX2_takes_76
    · replace h := iteF c3 h
      refine lv_aload_n hx hb dX2_takes_51 rfl (lv_at hl 1 rfl) ?_
      refine gf_X2_19 (v := .int (R_seen g_this)) hx hb hqs hown hK hP 0 rfl rfl dX2_takes_52 ?_
      refine lv_iload_n hx hb dX2_takes_55 rfl (lv_at hl 0 rfl) ?_
      obtain ⟨o4, e4, h⟩ := obind h
      have hPc := hP.sub (ws' := ([] : va_W)) [] rfl
      have hDc := hD.sub (ws' := ([] : va_W)) [] (by decide) rfl
      have hFc := va_free (wc := ([] : va_W)) hD hS hA [] rfl
      refine cl_i (wr := (cR dT a_this g_this)) (va_runSN (As := [.int (R_seen g_this), .int (v1 - (48 : Int32))]) (rest := []) ⟨hx, hb, hml, hown, hts⟩ (c_X8_holds l hlt D dT (R_seen g_this) (v1 - (48 : Int32)) o4 e4 _) ⟨va_cnB 2 hts (TB_in (WSm_in w_467)) rfl rfl rfl (hE.1 (RX2, 30, yX8_holds, RX8) (List.mem_of_getElem? (i := 12) rfl)) (hqs _ w_33) nd_X8_holds ⟨Nat.le_of_ble_eq_true rfl, Nat.le_of_ble_eq_true rfl⟩, hqs _ w_466, trivial⟩ (cPre.S hPc hDc hK hE hS hFc) rfl rfl hl.1 rfl (lv_room (Nat.le_of_ble_eq_true rfl)) dX2_takes_56 ⟨Nat.zero_le _, Nat.zero_le _⟩) hP hD hS hFc [] [0, 1] rfl rfl (by decide) (by decide) (fun r4 u4 H locs hw hP hD hS => ?_)
      obtain ⟨rfl, rfl⟩ := hw
      have hP : va_P D vwCl (cR dT a_this g_this) H := hP
      have hD : va_D A (cR dT a_this g_this) := hD
      refine lv_if_ne (tgt := 75) hx hb dX2_takes_59 (by decide) (fun c5 => ?_) (fun c5 => ?_)
      · replace h := iteF c5 h
        refine lv_iconst (v := 0) hx hb dX2_takes_75 (by decide) ?_
        exact rt_z hx hb hr hlk hK hS (g_this : TR) (ret2 h) (by decide) hP hD dX2_takes_76
      · replace h := iteT c5 h
        refine lv_aload_n hx hb dX2_takes_62 rfl (lv_at hl 1 rfl) ?_
        refine gf_X2_15 (v := .int (R_count g_this)) hx hb hqs hown hK hP 0 rfl rfl dX2_takes_63 ?_
        refine lv_iconst (v := 0) hx hb dX2_takes_66 (by decide) ?_
        refine lv_bipush (v := 6) hx hb dX2_takes_67 (by decide) ?_
        obtain ⟨o6, e6, h⟩ := obind h
        have hPc := hP.sub (ws' := ([] : va_W)) [] rfl
        have hDc := hD.sub (ws' := ([] : va_W)) [] (by decide) rfl
        have hFc := va_free (wc := ([] : va_W)) hD hS hA [] rfl
        refine cl_i (wr := (cR dT a_this g_this)) (va_runSN (As := [.int (R_count g_this), .int (0 : Int32), .int (6 : Int32)]) (rest := []) ⟨hx, hb, hml, hown, hts⟩ (c_X8_isIn l hlt D dT (R_count g_this) (0 : Int32) (6 : Int32) o6 e6 _) ⟨va_cnB 3 hts (TB_in (WSm_in w_292)) rfl rfl rfl (hE.1 (RX2, 26, yX8_isIn, RX8) (List.mem_of_getElem? (i := 11) rfl)) (hqs _ w_33) nd_X8_isIn ⟨Nat.le_of_ble_eq_true rfl, Nat.le_of_ble_eq_true rfl⟩, hqs _ w_291, trivial⟩ (cPre.S hPc hDc hK hE hS hFc) rfl rfl hl.1 rfl (lv_room (Nat.le_of_ble_eq_true rfl)) dX2_takes_69 ⟨Nat.zero_le _, Nat.zero_le _⟩) hP hD hS hFc [] [0, 1] rfl rfl (by decide) (by decide) (fun r6 u6 H locs hw hP hD hS => ?_)
        obtain ⟨rfl, rfl⟩ := hw
        have hP : va_P D vwCl (cR dT a_this g_this) H := hP
        have hD : va_D A (cR dT a_this g_this) := hD
        refine lv_if_ne (tgt := 77) hx hb dX2_takes_72 (by decide) (fun c7 => ?_) (fun c7 => ?_)
        · replace h := iteF c7 h
          refine lv_aload_n hx hb dX2_takes_77 rfl (lv_at hl 1 rfl) ?_
          refine gf_X2_9 (v := .ref (a_this 1)) hx hb hqs hown hK hP 0 rfl rfl dX2_takes_78 ?_
          refine lv_aload_n hx hb dX2_takes_81 rfl (lv_at hl 1 rfl) ?_
          refine gf_X2_15 (v := .int (R_count g_this)) hx hb hqs hown hK hP 0 rfl rfl dX2_takes_82 ?_
          refine lv_iload_n hx hb dX2_takes_85 rfl (lv_at hl 0 rfl) ?_
          obtain ⟨g8, h⟩ := chk h
          refine va_iast hx hb hK hP hD hS 1 0 rfl rfl (inb_in g8) dX2_takes_86 (fun H locs hP hD hS => ?_)
          have hP : va_P D vwCl ([(a_this 0, .inr (2, [.int (R_count g_this), .int (R_seen g_this), .int (R_expectsTable g_this), .ref (a_this 1)])), (a_this 1, .inl (dT 0, 7, .inl (upd (R_order g_this) (R_count g_this).toNatClampNeg (v1 - (48 : Int32)))))]) H := hP
          have hD : va_D A ([(a_this 0, .inr (2, [.int (R_count g_this), .int (R_seen g_this), .int (R_expectsTable g_this), .ref (a_this 1)])), (a_this 1, .inl (dT 0, 7, .inl (upd (R_order g_this) (R_count g_this).toNatClampNeg (v1 - (48 : Int32)))))]) := hD
          refine lv_aload_n hx hb dX2_takes_87 rfl (lv_at hl 1 rfl) ?_
          refine lv_dup hx hb dX2_takes_88 rfl ?_
          refine gf_X2_15 (v := .int (R_count g_this)) hx hb hqs hown hK hP 0 rfl rfl dX2_takes_89 ?_
          refine lv_iconst (v := 1) hx hb dX2_takes_92 (by decide) ?_
          refine lv_iadd hx hb dX2_takes_93 ?_
          refine pf_X2_15 hx hb hqs hown hK hP hD hS 0 rfl rfl dX2_takes_94 (fun H locs hP hD hS => ?_)
          have hP : va_P D vwCl ([(a_this 0, .inr (2, [.int ((R_count g_this) + (1 : Int32)), .int (R_seen g_this), .int (R_expectsTable g_this), .ref (a_this 1)])), (a_this 1, .inl (dT 0, 7, .inl (upd (R_order g_this) (R_count g_this).toNatClampNeg (v1 - (48 : Int32)))))]) H := hP
          have hD : va_D A ([(a_this 0, .inr (2, [.int ((R_count g_this) + (1 : Int32)), .int (R_seen g_this), .int (R_expectsTable g_this), .ref (a_this 1)])), (a_this 1, .inl (dT 0, 7, .inl (upd (R_order g_this) (R_count g_this).toNatClampNeg (v1 - (48 : Int32)))))]) := hD
          refine lv_aload_n hx hb dX2_takes_97 rfl (lv_at hl 1 rfl) ?_
          refine lv_dup hx hb dX2_takes_98 rfl ?_
          refine gf_X2_19 (v := .int (R_seen g_this)) hx hb hqs hown hK hP 0 rfl rfl dX2_takes_99 ?_
          refine lv_iconst (v := 1) hx hb dX2_takes_102 (by decide) ?_
          refine lv_iload_n hx hb dX2_takes_103 rfl (lv_at hl 0 rfl) ?_
          refine lv_ishl hx hb dX2_takes_104 ?_
          refine lv_ior hx hb dX2_takes_105 ?_
          refine pf_X2_19 hx hb hqs hown hK hP hD hS 0 rfl rfl dX2_takes_106 (fun H locs hP hD hS => ?_)
          have hP : va_P D vwCl ([(a_this 0, .inr (2, [.int ((R_count g_this) + (1 : Int32)), .int ((R_seen g_this) ||| ((1 : Int32) <<< ((v1 - (48 : Int32)) &&& 31))), .int (R_expectsTable g_this), .ref (a_this 1)])), (a_this 1, .inl (dT 0, 7, .inl (upd (R_order g_this) (R_count g_this).toNatClampNeg (v1 - (48 : Int32)))))]) H := hP
          have hD : va_D A ([(a_this 0, .inr (2, [.int ((R_count g_this) + (1 : Int32)), .int ((R_seen g_this) ||| ((1 : Int32) <<< ((v1 - (48 : Int32)) &&& 31))), .int (R_expectsTable g_this), .ref (a_this 1)])), (a_this 1, .inl (dT 0, 7, .inl (upd (R_order g_this) (R_count g_this).toNatClampNeg (v1 - (48 : Int32)))))]) := hD
          refine lv_aload_n hx hb dX2_takes_109 rfl (lv_at hl 1 rfl) ?_
          refine lv_iconst (v := 0) hx hb dX2_takes_110 (by decide) ?_
          refine pf_X2_22 hx hb hqs hown hK hP hD hS 0 rfl rfl (by decide) dX2_takes_111 (fun H locs hP hD hS => ?_)
          have hP : va_P D vwCl ([(a_this 0, .inr (2, [.int ((R_count g_this) + (1 : Int32)), .int ((R_seen g_this) ||| ((1 : Int32) <<< ((v1 - (48 : Int32)) &&& 31))), .int (0 : Int32), .ref (a_this 1)])), (a_this 1, .inl (dT 0, 7, .inl (upd (R_order g_this) (R_count g_this).toNatClampNeg (v1 - (48 : Int32)))))]) H := hP
          have hD : va_D A ([(a_this 0, .inr (2, [.int ((R_count g_this) + (1 : Int32)), .int ((R_seen g_this) ||| ((1 : Int32) <<< ((v1 - (48 : Int32)) &&& 31))), .int (0 : Int32), .ref (a_this 1)])), (a_this 1, .inl (dT 0, 7, .inl (upd (R_order g_this) (R_count g_this).toNatClampNeg (v1 - (48 : Int32)))))]) := hD
          refine lv_iconst (v := 1) hx hb dX2_takes_114 (by decide) ?_
          exact rt_z hx hb hr hlk hK hS ((R_mk ((R_count g_this) + (1 : Int32)) ((R_seen g_this) ||| ((1 : Int32) <<< ((v1 - (48 : Int32)) &&& 31))) (0 : Int32) (upd (R_order g_this) (R_count g_this).toNatClampNeg (v1 - (48 : Int32)))) : TR) (ret2 h) (by decide) hP hD dX2_takes_115
        · replace h := iteT c7 h
          refine lv_iconst (v := 0) hx hb dX2_takes_75 (by decide) ?_
          exact rt_z hx hb hr hlk hK hS (g_this : TR) (ret2 h) (by decide) hP hD dX2_takes_76
  · replace h := iteT c1 h
    refine lv_aload_n hx hb dX2_takes_7 rfl (lv_at hl 0 rfl) ?_
    refine lv_iload_n hx hb dX2_takes_8 rfl (lv_at hl 1 rfl) ?_
    refine lv_bipush (v := 62) hx hb dX2_takes_9 (by decide) ?_
    refine lv_icmp_ne (tgt := 27) hx hb dX2_takes_11 (by decide) (fun c9 => ?_) (fun c9 => ?_)
    · replace h := iteF c9 h
      refine lv_iconst (v := 0) hx hb dX2_takes_27 (by decide) ?_
      refine pf_X2_22 hx hb hqs hown hK hP hD hS 0 rfl rfl (by decide) dX2_takes_28 (fun H locs hP hD hS => ?_)
      have hP : va_P D vwCl ([(a_this 0, .inr (2, [.int (R_count g_this), .int (R_seen g_this), .int (0 : Int32), .ref (a_this 1)])), (a_this 1, .inl (dT 0, 7, .inl (R_order g_this)))]) H := hP
      have hD : va_D A ([(a_this 0, .inr (2, [.int (R_count g_this), .int (R_seen g_this), .int (0 : Int32), .ref (a_this 1)])), (a_this 1, .inl (dT 0, 7, .inl (R_order g_this)))]) := hD
      refine lv_aload_n hx hb dX2_takes_31 rfl (lv_at hl 0 rfl) ?_
      refine gf_X2_22 (v := .int (0 : Int32)) hx hb hqs hown hK hP 0 rfl rfl dX2_takes_32 ?_
      obtain ⟨g10, h⟩ := chp h
      exact rt_z hx hb hr hlk hK hS ((R_mk (R_count g_this) (R_seen g_this) (0 : Int32) (R_order g_this)) : TR) (ret2 h) g10 hP hD dX2_takes_35
    · replace h := iteT c9 h
      refine lv_aload_n hx hb dX2_takes_14 rfl (lv_at hl 0 rfl) ?_
      refine gf_X2_15 (v := .int (R_count g_this)) hx hb hqs hown hK hP 0 rfl rfl dX2_takes_15 ?_
      refine lv_bipush (v := 7) hx hb dX2_takes_18 (by decide) ?_
      refine lv_icmp_ge (tgt := 27) hx hb dX2_takes_20 (by decide) (fun c11 => ?_) (fun c11 => ?_)
      · replace h := iteT c11 h
        refine lv_iconst (v := 0) hx hb dX2_takes_27 (by decide) ?_
        refine pf_X2_22 hx hb hqs hown hK hP hD hS 0 rfl rfl (by decide) dX2_takes_28 (fun H locs hP hD hS => ?_)
        have hP : va_P D vwCl ([(a_this 0, .inr (2, [.int (R_count g_this), .int (R_seen g_this), .int (0 : Int32), .ref (a_this 1)])), (a_this 1, .inl (dT 0, 7, .inl (R_order g_this)))]) H := hP
        have hD : va_D A ([(a_this 0, .inr (2, [.int (R_count g_this), .int (R_seen g_this), .int (0 : Int32), .ref (a_this 1)])), (a_this 1, .inl (dT 0, 7, .inl (R_order g_this)))]) := hD
        refine lv_aload_n hx hb dX2_takes_31 rfl (lv_at hl 0 rfl) ?_
        refine gf_X2_22 (v := .int (0 : Int32)) hx hb hqs hown hK hP 0 rfl rfl dX2_takes_32 ?_
        obtain ⟨g12, h⟩ := chp h
        exact rt_z hx hb hr hlk hK hS ((R_mk (R_count g_this) (R_seen g_this) (0 : Int32) (R_order g_this)) : TR) (ret2 h) g12 hP hD dX2_takes_35
      · replace h := iteF c11 h
        refine lv_iconst (v := 1) hx hb dX2_takes_23 (by decide) ?_
        refine lv_goto (tgt := 28) hx hb dX2_takes_24 (by decide) ?_
        refine pf_X2_22 hx hb hqs hown hK hP hD hS 0 rfl rfl (by decide) dX2_takes_28 (fun H locs hP hD hS => ?_)
        have hP : va_P D vwCl ([(a_this 0, .inr (2, [.int (R_count g_this), .int (R_seen g_this), .int (1 : Int32), .ref (a_this 1)])), (a_this 1, .inl (dT 0, 7, .inl (R_order g_this)))]) H := hP
        have hD : va_D A ([(a_this 0, .inr (2, [.int (R_count g_this), .int (R_seen g_this), .int (1 : Int32), .ref (a_this 1)])), (a_this 1, .inl (dT 0, 7, .inl (R_order g_this)))]) := hD
        refine lv_aload_n hx hb dX2_takes_31 rfl (lv_at hl 0 rfl) ?_
        refine gf_X2_22 (v := .int (1 : Int32)) hx hb hqs hown hK hP 0 rfl rfl dX2_takes_32 ?_
        obtain ⟨g13, h⟩ := chp h
        exact rt_z hx hb hr hlk hK hS ((R_mk (R_count g_this) (R_seen g_this) (1 : Int32) (R_order g_this)) : TR) (ret2 h) g13 hP hD dX2_takes_35

def f_X2_tables (g_this : TR) : Option (Int32 × (Unit)) :=
  (some ((R_seen g_this), ()))
set_option maxHeartbeats 8000000 in
set_option maxRecDepth 100000 in
theorem c_X2_tables (l : Launch) (hlt : l.stackTraces = false) (D : va_G) (dT : Nat → ClassId) (a_this : Nat → Nat) (g_this : TR) (o : (Int32 × (Unit))) (h : f_X2_tables g_this = some o) (sz : Nat) : Met l yX2_tables (WSm yX2_tables cX2_tables 1 (some .int)) { frames := 0, cells := 0, slots := 0, locals := 0 } (va_Pc [.ref (a_this 0)] (cPre D dT (cR dT a_this g_this) sz)) (va_Qi (fun (r : Int32) (u : Unit) => r = o.1 ∧ u = o.2) (fun u t => cAt D dT (va_A (cR dT a_this g_this) sz) (cR dT a_this g_this) t) (va_A (cR dT a_this g_this) sz)) 0 0 (va_A (cR dT a_this g_this) sz) := by
  refine mStart (WS := (cR dT a_this g_this)) (Qc := fun A => va_Qi (fun (r : Int32) (u : Unit) => r = o.1 ∧ u = o.2) (fun u t => cAt D dT A (cR dT a_this g_this) t) A) RX2 rfl (by decide) (Nat.le_of_ble_eq_true rfl) ?_ sz
  intro p e s m below meth c A ls hx hb hml hr hlk hnm hts hqs hown hE hA hK hP hD hS hl
  have hl : lv_has ls 1 [(0, .ref (a_this 0))] := hl
  unfold f_X2_tables at h
  refine lv_aload_n hx hb dX2_tables_0 rfl (lv_at hl 0 rfl) ?_
  refine gf_X2_19 (v := .int (R_seen g_this)) hx hb hqs hown hK hP 0 rfl rfl dX2_tables_1 ?_
  exact rt_i hx hb hr hlk hK hS (() : Unit) (ret2 h) hP hD dX2_tables_4

def f_X2_tableAt (g_this : TR) (v1 : Int32) : Option (Int32 × (Unit)) :=
  ((f_X8_isIn v1 (0 : Int32) (6 : Int32)).bind fun o1 => (if o1.1 = (0 : Int32) then (some ((-1 : Int32), ())) else (if (R_count g_this) ≤ v1 then (some ((-1 : Int32), ())) else (if inb v1 7 = true then (some (((R_order g_this) v1.toNatClampNeg), ())) else none))))
set_option maxHeartbeats 8000000 in
set_option maxRecDepth 100000 in
theorem c_X2_tableAt (l : Launch) (hlt : l.stackTraces = false) (D : va_G) (dT : Nat → ClassId) (a_this : Nat → Nat) (g_this : TR) (v1 : Int32) (o : (Int32 × (Unit))) (h : f_X2_tableAt g_this v1 = some o) (sz : Nat) : Met l yX2_tableAt (WSm yX2_tableAt cX2_tableAt 2 (some .int)) { frames := 1, cells := 0, slots := 0, locals := 22 } (va_Pc [.ref (a_this 0), .int v1] (cPre D dT (cR dT a_this g_this) sz)) (va_Qi (fun (r : Int32) (u : Unit) => r = o.1 ∧ u = o.2) (fun u t => cAt D dT (va_A (cR dT a_this g_this) sz) (cR dT a_this g_this) t) (va_A (cR dT a_this g_this) sz)) 0 0 (va_A (cR dT a_this g_this) sz) := by
  refine mStart (WS := (cR dT a_this g_this)) (Qc := fun A => va_Qi (fun (r : Int32) (u : Unit) => r = o.1 ∧ u = o.2) (fun u t => cAt D dT A (cR dT a_this g_this) t) A) RX2 rfl (by decide) (Nat.le_of_ble_eq_true rfl) ?_ sz
  intro p e s m below meth c A ls hx hb hml hr hlk hnm hts hqs hown hE hA hK hP hD hS hl
  have hl : lv_has ls 2 [(0, .ref (a_this 0)), (1, .int v1)] := hl
  unfold f_X2_tableAt at h
  refine lv_iload_n hx hb dX2_tableAt_0 rfl (lv_at hl 1 rfl) ?_
  refine lv_iconst (v := 0) hx hb dX2_tableAt_1 (by decide) ?_
  refine lv_bipush (v := 6) hx hb dX2_tableAt_2 (by decide) ?_
  obtain ⟨o1, e1, h⟩ := obind h
  have hPc := hP.sub (ws' := ([] : va_W)) [] rfl
  have hDc := hD.sub (ws' := ([] : va_W)) [] (by decide) rfl
  have hFc := va_free (wc := ([] : va_W)) hD hS hA [] rfl
  refine cl_i (wr := (cR dT a_this g_this)) (va_runSN (As := [.int v1, .int (0 : Int32), .int (6 : Int32)]) (rest := []) ⟨hx, hb, hml, hown, hts⟩ (c_X8_isIn l hlt D dT v1 (0 : Int32) (6 : Int32) o1 e1 _) ⟨va_cnB 3 hts (TB_in (WSm_in w_292)) rfl rfl rfl (hE.1 (RX2, 26, yX8_isIn, RX8) (List.mem_of_getElem? (i := 11) rfl)) (hqs _ w_33) nd_X8_isIn ⟨Nat.le_of_ble_eq_true rfl, Nat.le_of_ble_eq_true rfl⟩, hqs _ w_291, trivial⟩ (cPre.S hPc hDc hK hE hS hFc) rfl rfl hl.1 rfl (lv_room (Nat.le_of_ble_eq_true rfl)) dX2_tableAt_4 ⟨Nat.zero_le _, Nat.zero_le _⟩) hP hD hS hFc [] [0, 1] rfl rfl (by decide) (by decide) (fun r1 u1 H locs hw hP hD hS => ?_)
  obtain ⟨rfl, rfl⟩ := hw
  have hP : va_P D vwCl (cR dT a_this g_this) H := hP
  have hD : va_D A (cR dT a_this g_this) := hD
  refine lv_if_eq (tgt := 27) hx hb dX2_tableAt_7 (by decide) (fun c2 => ?_) (fun c2 => ?_)
  · replace h := iteT c2 h
    refine lv_iconst (v := -1) hx hb dX2_tableAt_27 (by decide) ?_
    exact rt_i hx hb hr hlk hK hS (() : Unit) (ret2 h) hP hD dX2_tableAt_28
  · replace h := iteF c2 h
    refine lv_iload_n hx hb dX2_tableAt_10 rfl (lv_at hl 1 rfl) ?_
    refine lv_aload_n hx hb dX2_tableAt_11 rfl (lv_at hl 0 rfl) ?_
    refine gf_X2_15 (v := .int (R_count g_this)) hx hb hqs hown hK hP 0 rfl rfl dX2_tableAt_12 ?_
    refine lv_icmp_ge (tgt := 27) hx hb dX2_tableAt_15 (by decide) (fun c3 => ?_) (fun c3 => ?_)
    · replace h := iteT c3 h
      refine lv_iconst (v := -1) hx hb dX2_tableAt_27 (by decide) ?_
      exact rt_i hx hb hr hlk hK hS (() : Unit) (ret2 h) hP hD dX2_tableAt_28
    · replace h := iteF c3 h
      refine lv_aload_n hx hb dX2_tableAt_18 rfl (lv_at hl 0 rfl) ?_
      refine gf_X2_9 (v := .ref (a_this 1)) hx hb hqs hown hK hP 0 rfl rfl dX2_tableAt_19 ?_
      refine lv_iload_n hx hb dX2_tableAt_22 rfl (lv_at hl 1 rfl) ?_
      obtain ⟨g4, h⟩ := chk h
      refine va_iald hx hb hK hP 1 0 rfl rfl (inb_in g4) dX2_tableAt_23 ?_
      refine lv_goto (tgt := 28) hx hb dX2_tableAt_24 (by decide) ?_
      exact rt_i hx hb hr hlk hK hS (() : Unit) (ret2 h) hP hD dX2_tableAt_28

def f_X6_isFull (g_this : TT) : Option (Int32 × (Unit)) :=
  (if (T_length g_this) < (100 : Int32) then (some ((0 : Int32), ())) else (some ((1 : Int32), ())))
set_option maxHeartbeats 8000000 in
set_option maxRecDepth 100000 in
theorem c_X6_isFull (l : Launch) (hlt : l.stackTraces = false) (D : va_G) (dT : Nat → ClassId) (a_this : Nat → Nat) (g_this : TT) (o : (Int32 × (Unit))) (h : f_X6_isFull g_this = some o) (sz : Nat) : Met l yX6_isFull (WSm yX6_isFull cX6_isFull 1 (some .boolean)) { frames := 0, cells := 0, slots := 0, locals := 0 } (va_Pc [.ref (a_this 0)] (cPre D dT (cT dT a_this g_this) sz)) (va_Qi (fun (r : Int32) (u : Unit) => r = o.1 ∧ u = o.2) (fun u t => cAt D dT (va_A (cT dT a_this g_this) sz) (cT dT a_this g_this) t) (va_A (cT dT a_this g_this) sz)) 0 0 (va_A (cT dT a_this g_this) sz) := by
  refine mStart (WS := (cT dT a_this g_this)) (Qc := fun A => va_Qi (fun (r : Int32) (u : Unit) => r = o.1 ∧ u = o.2) (fun u t => cAt D dT A (cT dT a_this g_this) t) A) RX6 rfl (by decide) (Nat.le_of_ble_eq_true rfl) ?_ sz
  intro p e s m below meth c A ls hx hb hml hr hlk hnm hts hqs hown hE hA hK hP hD hS hl
  have hl : lv_has ls 1 [(0, .ref (a_this 0))] := hl
  unfold f_X6_isFull at h
  refine lv_aload_n hx hb dX6_isFull_0 rfl (lv_at hl 0 rfl) ?_
  refine gf_X6_15 (v := .int (T_length g_this)) hx hb hqs hown hK hP 0 rfl rfl dX6_isFull_1 ?_
  refine lv_bipush (v := 100) hx hb dX6_isFull_4 (by decide) ?_
  refine lv_icmp_lt (tgt := 13) hx hb dX6_isFull_6 (by decide) (fun c1 => ?_) (fun c1 => ?_)
  · replace h := iteT c1 h
    refine lv_iconst (v := 0) hx hb dX6_isFull_13 (by decide) ?_
    exact rt_z hx hb hr hlk hK hS (() : Unit) (ret2 h) (by decide) hP hD dX6_isFull_14
  · replace h := iteF c1 h
    refine lv_iconst (v := 1) hx hb dX6_isFull_9 (by decide) ?_
    refine lv_goto (tgt := 14) hx hb dX6_isFull_10 (by decide) ?_
    exact rt_z hx hb hr hlk hK hS (() : Unit) (ret2 h) (by decide) hP hD dX6_isFull_14

def f_X6_put (g_this : TT) (v1 : Int32) : Option (Int32 × (TT)) :=
  ((f_X8_isIn (T_length g_this) (0 : Int32) (99 : Int32)).bind fun o1 => (if o1.1 = (0 : Int32) then (some ((T_length g_this), g_this)) else (if inb (T_length g_this) 100 = true then (some (((T_length g_this) + (1 : Int32)), (T_mk ((T_length g_this) + (1 : Int32)) (upd (T_signs g_this) (T_length g_this).toNatClampNeg (vp_nar .char v1))))) else none)))
set_option maxHeartbeats 8000000 in
set_option maxRecDepth 100000 in
theorem c_X6_put (l : Launch) (hlt : l.stackTraces = false) (D : va_G) (dT : Nat → ClassId) (a_this : Nat → Nat) (g_this : TT) (v1 : Int32) (o : (Int32 × (TT))) (h : f_X6_put g_this v1 = some o) (sz : Nat) : Met l yX6_put (WSm yX6_put cX6_put 2 (some .int)) { frames := 1, cells := 0, slots := 0, locals := 22 } (va_Pc [.ref (a_this 0), .int v1] (cPre D dT (cT dT a_this g_this) sz)) (va_Qi (fun (r : Int32) (u : TT) => r = o.1 ∧ u = o.2) (fun u t => cAt D dT (va_A (cT dT a_this g_this) sz) (cT dT a_this u) t) (va_A (cT dT a_this g_this) sz)) 0 0 (va_A (cT dT a_this g_this) sz) := by
  refine mStart (WS := (cT dT a_this g_this)) (Qc := fun A => va_Qi (fun (r : Int32) (u : TT) => r = o.1 ∧ u = o.2) (fun u t => cAt D dT A (cT dT a_this u) t) A) RX6 rfl (by decide) (Nat.le_of_ble_eq_true rfl) ?_ sz
  intro p e s m below meth c A ls hx hb hml hr hlk hnm hts hqs hown hE hA hK hP hD hS hl
  have hl : lv_has ls 2 [(0, .ref (a_this 0)), (1, .int v1)] := hl
  unfold f_X6_put at h
  refine lv_aload_n hx hb dX6_put_0 rfl (lv_at hl 0 rfl) ?_
  refine gf_X6_15 (v := .int (T_length g_this)) hx hb hqs hown hK hP 0 rfl rfl dX6_put_1 ?_
  refine lv_iconst (v := 0) hx hb dX6_put_4 (by decide) ?_
  refine lv_bipush (v := 99) hx hb dX6_put_5 (by decide) ?_
  obtain ⟨o1, e1, h⟩ := obind h
  have hPc := hP.sub (ws' := ([] : va_W)) [] rfl
  have hDc := hD.sub (ws' := ([] : va_W)) [] (by decide) rfl
  have hFc := va_free (wc := ([] : va_W)) hD hS hA [] rfl
  refine cl_i (wr := (cT dT a_this g_this)) (va_runSN (As := [.int (T_length g_this), .int (0 : Int32), .int (99 : Int32)]) (rest := []) ⟨hx, hb, hml, hown, hts⟩ (c_X8_isIn l hlt D dT (T_length g_this) (0 : Int32) (99 : Int32) o1 e1 _) ⟨va_cnB 3 hts (TB_in (WSm_in w_292)) rfl rfl rfl (hE.1 (RX6, 19, yX8_isIn, RX8) (List.mem_of_getElem? (i := 9) rfl)) (hqs _ w_33) nd_X8_isIn ⟨Nat.le_of_ble_eq_true rfl, Nat.le_of_ble_eq_true rfl⟩, hqs _ w_291, trivial⟩ (cPre.S hPc hDc hK hE hS hFc) rfl rfl hl.1 rfl (lv_room (Nat.le_of_ble_eq_true rfl)) dX6_put_7 ⟨Nat.zero_le _, Nat.zero_le _⟩) hP hD hS hFc [] [0, 1] rfl rfl (by decide) (by decide) (fun r1 u1 H locs hw hP hD hS => ?_)
  obtain ⟨rfl, rfl⟩ := hw
  have hP : va_P D vwCl (cT dT a_this g_this) H := hP
  have hD : va_D A (cT dT a_this g_this) := hD
  refine lv_if_eq (tgt := 33) hx hb dX6_put_10 (by decide) (fun c2 => ?_) (fun c2 => ?_)
  · replace h := iteT c2 h
    refine lv_aload_n hx hb dX6_put_33 rfl (lv_at hl 0 rfl) ?_
    refine gf_X6_15 (v := .int (T_length g_this)) hx hb hqs hown hK hP 0 rfl rfl dX6_put_34 ?_
    exact rt_i hx hb hr hlk hK hS (g_this : TT) (ret2 h) hP hD dX6_put_37
  · replace h := iteF c2 h
    refine lv_aload_n hx hb dX6_put_13 rfl (lv_at hl 0 rfl) ?_
    refine gf_X6_9 (v := .ref (a_this 1)) hx hb hqs hown hK hP 0 rfl rfl dX6_put_14 ?_
    refine lv_aload_n hx hb dX6_put_17 rfl (lv_at hl 0 rfl) ?_
    refine gf_X6_15 (v := .int (T_length g_this)) hx hb hqs hown hK hP 0 rfl rfl dX6_put_18 ?_
    refine lv_iload_n hx hb dX6_put_21 rfl (lv_at hl 1 rfl) ?_
    obtain ⟨g3, h⟩ := chk h
    refine va_cast hx hb hK hP hD hS 1 2 rfl rfl (inb_in g3) dX6_put_22 (fun H locs hP hD hS => ?_)
    have hP : va_P D vwCl ([(a_this 0, .inr (5, [.int (T_length g_this), .ref (a_this 1)])), (a_this 1, .inl (dT 2, 100, .inl (upd (T_signs g_this) (T_length g_this).toNatClampNeg (vp_nar .char v1))))]) H := hP
    have hD : va_D A ([(a_this 0, .inr (5, [.int (T_length g_this), .ref (a_this 1)])), (a_this 1, .inl (dT 2, 100, .inl (upd (T_signs g_this) (T_length g_this).toNatClampNeg (vp_nar .char v1))))]) := hD
    refine lv_aload_n hx hb dX6_put_23 rfl (lv_at hl 0 rfl) ?_
    refine lv_dup hx hb dX6_put_24 rfl ?_
    refine gf_X6_15 (v := .int (T_length g_this)) hx hb hqs hown hK hP 0 rfl rfl dX6_put_25 ?_
    refine lv_iconst (v := 1) hx hb dX6_put_28 (by decide) ?_
    refine lv_iadd hx hb dX6_put_29 ?_
    refine pf_X6_15 hx hb hqs hown hK hP hD hS 0 rfl rfl dX6_put_30 (fun H locs hP hD hS => ?_)
    have hP : va_P D vwCl ([(a_this 0, .inr (5, [.int ((T_length g_this) + (1 : Int32)), .ref (a_this 1)])), (a_this 1, .inl (dT 2, 100, .inl (upd (T_signs g_this) (T_length g_this).toNatClampNeg (vp_nar .char v1))))]) H := hP
    have hD : va_D A ([(a_this 0, .inr (5, [.int ((T_length g_this) + (1 : Int32)), .ref (a_this 1)])), (a_this 1, .inl (dT 2, 100, .inl (upd (T_signs g_this) (T_length g_this).toNatClampNeg (vp_nar .char v1))))]) := hD
    refine lv_aload_n hx hb dX6_put_33 rfl (lv_at hl 0 rfl) ?_
    refine gf_X6_15 (v := .int ((T_length g_this) + (1 : Int32))) hx hb hqs hown hK hP 0 rfl rfl dX6_put_34 ?_
    exact rt_i hx hb hr hlk hK hS ((T_mk ((T_length g_this) + (1 : Int32)) (upd (T_signs g_this) (T_length g_this).toNatClampNeg (vp_nar .char v1))) : TT) (ret2 h) hP hD dX6_put_37

def f_X6_empty (g_this : TT) : Option (Int32 × (TT)) :=
  (some ((T_length g_this), (T_mk (0 : Int32) (T_signs g_this))))
set_option maxHeartbeats 8000000 in
set_option maxRecDepth 100000 in
theorem c_X6_empty (l : Launch) (hlt : l.stackTraces = false) (D : va_G) (dT : Nat → ClassId) (a_this : Nat → Nat) (g_this : TT) (o : (Int32 × (TT))) (h : f_X6_empty g_this = some o) (sz : Nat) : Met l yX6_empty (WSm yX6_empty cX6_empty 2 (some .int)) { frames := 0, cells := 0, slots := 0, locals := 0 } (va_Pc [.ref (a_this 0)] (cPre D dT (cT dT a_this g_this) sz)) (va_Qi (fun (r : Int32) (u : TT) => r = o.1 ∧ u = o.2) (fun u t => cAt D dT (va_A (cT dT a_this g_this) sz) (cT dT a_this u) t) (va_A (cT dT a_this g_this) sz)) 0 0 (va_A (cT dT a_this g_this) sz) := by
  refine mStart (WS := (cT dT a_this g_this)) (Qc := fun A => va_Qi (fun (r : Int32) (u : TT) => r = o.1 ∧ u = o.2) (fun u t => cAt D dT A (cT dT a_this u) t) A) RX6 rfl (by decide) (Nat.le_of_ble_eq_true rfl) ?_ sz
  intro p e s m below meth c A ls hx hb hml hr hlk hnm hts hqs hown hE hA hK hP hD hS hl
  have hl : lv_has ls 2 [(0, .ref (a_this 0))] := hl
  unfold f_X6_empty at h
  refine lv_aload_n hx hb dX6_empty_0 rfl (lv_at hl 0 rfl) ?_
  refine gf_X6_15 (v := .int (T_length g_this)) hx hb hqs hown hK hP 0 rfl rfl dX6_empty_1 ?_
  refine lv_istore_n (lv' := [(1, .int (T_length g_this)), (0, .ref (a_this 0))]) hx hb dX6_empty_4 rfl hl (by decide) rfl (fun ls hl => ?_)
  refine lv_aload_n hx hb dX6_empty_5 rfl (lv_at hl 1 rfl) ?_
  refine lv_iconst (v := 0) hx hb dX6_empty_6 (by decide) ?_
  refine pf_X6_15 hx hb hqs hown hK hP hD hS 0 rfl rfl dX6_empty_7 (fun H locs hP hD hS => ?_)
  have hP : va_P D vwCl ([(a_this 0, .inr (5, [.int (0 : Int32), .ref (a_this 1)])), (a_this 1, .inl (dT 2, 100, .inl (T_signs g_this)))]) H := hP
  have hD : va_D A ([(a_this 0, .inr (5, [.int (0 : Int32), .ref (a_this 1)])), (a_this 1, .inl (dT 2, 100, .inl (T_signs g_this)))]) := hD
  refine lv_iload_n hx hb dX6_empty_10 rfl (lv_at hl 0 rfl) ?_
  exact rt_i hx hb hr hlk hK hS ((T_mk (0 : Int32) (T_signs g_this)) : TT) (ret2 h) hP hD dX6_empty_11

def f_X6_signAt (g_this : TT) (v1 : Int32) : Option (Int32 × (Unit)) :=
  ((f_X8_isIn v1 (0 : Int32) (99 : Int32)).bind fun o1 => (if o1.1 = (0 : Int32) then (some ((-1 : Int32), ())) else (if (T_length g_this) ≤ v1 then (some ((-1 : Int32), ())) else (if inb v1 100 = true then (some (((T_signs g_this) v1.toNatClampNeg), ())) else none))))
set_option maxHeartbeats 8000000 in
set_option maxRecDepth 100000 in
theorem c_X6_signAt (l : Launch) (hlt : l.stackTraces = false) (D : va_G) (dT : Nat → ClassId) (a_this : Nat → Nat) (g_this : TT) (v1 : Int32) (o : (Int32 × (Unit))) (h : f_X6_signAt g_this v1 = some o) (sz : Nat) : Met l yX6_signAt (WSm yX6_signAt cX6_signAt 2 (some .int)) { frames := 1, cells := 0, slots := 0, locals := 22 } (va_Pc [.ref (a_this 0), .int v1] (cPre D dT (cT dT a_this g_this) sz)) (va_Qi (fun (r : Int32) (u : Unit) => r = o.1 ∧ u = o.2) (fun u t => cAt D dT (va_A (cT dT a_this g_this) sz) (cT dT a_this g_this) t) (va_A (cT dT a_this g_this) sz)) 0 0 (va_A (cT dT a_this g_this) sz) := by
  refine mStart (WS := (cT dT a_this g_this)) (Qc := fun A => va_Qi (fun (r : Int32) (u : Unit) => r = o.1 ∧ u = o.2) (fun u t => cAt D dT A (cT dT a_this g_this) t) A) RX6 rfl (by decide) (Nat.le_of_ble_eq_true rfl) ?_ sz
  intro p e s m below meth c A ls hx hb hml hr hlk hnm hts hqs hown hE hA hK hP hD hS hl
  have hl : lv_has ls 2 [(0, .ref (a_this 0)), (1, .int v1)] := hl
  unfold f_X6_signAt at h
  refine lv_iload_n hx hb dX6_signAt_0 rfl (lv_at hl 1 rfl) ?_
  refine lv_iconst (v := 0) hx hb dX6_signAt_1 (by decide) ?_
  refine lv_bipush (v := 99) hx hb dX6_signAt_2 (by decide) ?_
  obtain ⟨o1, e1, h⟩ := obind h
  have hPc := hP.sub (ws' := ([] : va_W)) [] rfl
  have hDc := hD.sub (ws' := ([] : va_W)) [] (by decide) rfl
  have hFc := va_free (wc := ([] : va_W)) hD hS hA [] rfl
  refine cl_i (wr := (cT dT a_this g_this)) (va_runSN (As := [.int v1, .int (0 : Int32), .int (99 : Int32)]) (rest := []) ⟨hx, hb, hml, hown, hts⟩ (c_X8_isIn l hlt D dT v1 (0 : Int32) (99 : Int32) o1 e1 _) ⟨va_cnB 3 hts (TB_in (WSm_in w_292)) rfl rfl rfl (hE.1 (RX6, 19, yX8_isIn, RX8) (List.mem_of_getElem? (i := 9) rfl)) (hqs _ w_33) nd_X8_isIn ⟨Nat.le_of_ble_eq_true rfl, Nat.le_of_ble_eq_true rfl⟩, hqs _ w_291, trivial⟩ (cPre.S hPc hDc hK hE hS hFc) rfl rfl hl.1 rfl (lv_room (Nat.le_of_ble_eq_true rfl)) dX6_signAt_4 ⟨Nat.zero_le _, Nat.zero_le _⟩) hP hD hS hFc [] [0, 1] rfl rfl (by decide) (by decide) (fun r1 u1 H locs hw hP hD hS => ?_)
  obtain ⟨rfl, rfl⟩ := hw
  have hP : va_P D vwCl (cT dT a_this g_this) H := hP
  have hD : va_D A (cT dT a_this g_this) := hD
  refine lv_if_eq (tgt := 27) hx hb dX6_signAt_7 (by decide) (fun c2 => ?_) (fun c2 => ?_)
  · replace h := iteT c2 h
    refine lv_iconst (v := -1) hx hb dX6_signAt_27 (by decide) ?_
    exact rt_i hx hb hr hlk hK hS (() : Unit) (ret2 h) hP hD dX6_signAt_28
  · replace h := iteF c2 h
    refine lv_iload_n hx hb dX6_signAt_10 rfl (lv_at hl 1 rfl) ?_
    refine lv_aload_n hx hb dX6_signAt_11 rfl (lv_at hl 0 rfl) ?_
    refine gf_X6_15 (v := .int (T_length g_this)) hx hb hqs hown hK hP 0 rfl rfl dX6_signAt_12 ?_
    refine lv_icmp_ge (tgt := 27) hx hb dX6_signAt_15 (by decide) (fun c3 => ?_) (fun c3 => ?_)
    · replace h := iteT c3 h
      refine lv_iconst (v := -1) hx hb dX6_signAt_27 (by decide) ?_
      exact rt_i hx hb hr hlk hK hS (() : Unit) (ret2 h) hP hD dX6_signAt_28
    · replace h := iteF c3 h
      refine lv_aload_n hx hb dX6_signAt_18 rfl (lv_at hl 0 rfl) ?_
      refine gf_X6_9 (v := .ref (a_this 1)) hx hb hqs hown hK hP 0 rfl rfl dX6_signAt_19 ?_
      refine lv_iload_n hx hb dX6_signAt_22 rfl (lv_at hl 1 rfl) ?_
      obtain ⟨g4, h⟩ := chk h
      refine va_cald hx hb hK hP 1 2 rfl rfl (inb_in g4) dX6_signAt_23 ?_
      refine lv_goto (tgt := 28) hx hb dX6_signAt_24 (by decide) ?_
      exact rt_i hx hb hr hlk hK hS (() : Unit) (ret2 h) hP hD dX6_signAt_28

def f_X6_firstErrorFor_X0_L6 (g_this : TT) (k34 : TE → Option (Int32 × (TE))) : Nat → Int32 → TE → Option (Int32 × (TE))
  | 0, _, _ => none
  | n + 1, x2, g_p1 =>
    (if (T_length g_this) ≤ x2 then (k34 g_p1) else ((f_X6_signAt g_this x2).bind fun o3 => ((f_X0_takes g_p1 o3.1).bind fun o4 => (if o4.1 = (0 : Int32) then (some (x2, o4.2)) else (f_X6_firstErrorFor_X0_L6 g_this k34 n (x2 + (1 : Int32)) o4.2)))))
def f_X6_firstErrorFor_X0 (g_this : TT) (g_p1 : TE) : Option (Int32 × (TE)) :=
  ((f_X0_begin g_p1).bind fun o1 => (f_X6_firstErrorFor_X0_L6 g_this (fun (y6g_p1 : TE) => ((f_X0_isComplete y6g_p1).bind fun o7 => (if o7.1 = (0 : Int32) then (some ((T_length g_this), y6g_p1)) else (some ((-1 : Int32), y6g_p1))))) FUEL (0 : Int32) o1.2))
set_option maxHeartbeats 8000000 in
set_option maxRecDepth 100000 in
theorem c_X6_firstErrorFor_X0 (l : Launch) (hlt : l.stackTraces = false) (D : va_G) (dT : Nat → ClassId) (a_this : Nat → Nat) (a_p1 : Nat → Nat) (g_this : TT) (g_p1 : TE) (o : (Int32 × (TE))) (h : f_X6_firstErrorFor_X0 g_this g_p1 = some o) (sz : Nat) : Met l yX6_firstErrorFor (WSm yX6_firstErrorFor cX6_firstErrorFor 3 (some .int)) { frames := 3, cells := 0, slots := 0, locals := 65 } (va_Pc [.ref (a_this 0), .ref (a_p1 0)] (cPre D dT (cT dT a_this g_this ++ (cE dT a_p1 g_p1)) sz)) (va_Qi (fun (r : Int32) (u : TE) => r = o.1 ∧ u = o.2) (fun u t => cAt D dT (va_A (cT dT a_this g_this ++ (cE dT a_p1 g_p1)) sz) (cT dT a_this g_this ++ (cE dT a_p1 u)) t) (va_A (cT dT a_this g_this ++ (cE dT a_p1 g_p1)) sz)) 0 0 (va_A (cT dT a_this g_this ++ (cE dT a_p1 g_p1)) sz) := by
  refine mStart (WS := (cT dT a_this g_this ++ (cE dT a_p1 g_p1))) (Qc := fun A => va_Qi (fun (r : Int32) (u : TE) => r = o.1 ∧ u = o.2) (fun u t => cAt D dT A (cT dT a_this g_this ++ (cE dT a_p1 u)) t) A) RX6 rfl (by decide) (Nat.le_of_ble_eq_true rfl) ?_ sz
  intro p e s m below meth c A ls hx hb hml hr hlk hnm hts hqs hown hE hA hK hP hD hS hl
  have hl : lv_has ls 3 [(0, .ref (a_this 0)), (1, .ref (a_p1 0))] := hl
  have L_f_X6_firstErrorFor_X0_L6 : ∀ (g_this : TT) (k34 : TE → Option (Int32 × (TE))) (hk34 : ∀ (g_p1 : TE) (H : Heap) (locs : List Loc) (ls : Array Slot), k34 g_p1 = some o → va_P D vwCl (cT dT a_this g_this ++ (cE dT a_p1 g_p1)) H → va_D A (cT dT a_this g_this ++ (cE dT a_p1 g_p1)) → va_S A s.heap H locs → lv_has ls 3 [(0, .ref (a_this 0)), (1, .ref (a_p1 0))] → W p l e (headSpec (WSm yX6_firstErrorFor cX6_firstErrorFor 3 (some .int)) { frames := 3, cells := 0, slots := 0, locals := 65 }).room s m [.ref (a_this 0), .ref (a_p1 0)].toArray below meth c H locs 0 0 (MQ below (va_Qi (fun (r : Int32) (u : TE) => r = o.1 ∧ u = o.2) (fun u t => cAt D dT A (cT dT a_this g_this ++ (cE dT a_p1 u)) t) A) [.ref (a_this 0), .ref (a_p1 0)].toArray s 0 0 A) (F0 m 34 ls [])) (n : Nat), ∀ (x2 : Int32) (g_p1 : TE) (H : Heap) (locs : List Loc) (ls : Array Slot), f_X6_firstErrorFor_X0_L6 g_this k34 n x2 g_p1 = some o → va_P D vwCl (cT dT a_this g_this ++ (cE dT a_p1 g_p1)) H → va_D A (cT dT a_this g_this ++ (cE dT a_p1 g_p1)) → va_S A s.heap H locs → lv_has ls 3 [(0, .ref (a_this 0)), (1, .ref (a_p1 0)), (2, .int x2)] → W p l e (headSpec (WSm yX6_firstErrorFor cX6_firstErrorFor 3 (some .int)) { frames := 3, cells := 0, slots := 0, locals := 65 }).room s m [.ref (a_this 0), .ref (a_p1 0)].toArray below meth c H locs 0 0 (MQ below (va_Qi (fun (r : Int32) (u : TE) => r = o.1 ∧ u = o.2) (fun u t => cAt D dT A (cT dT a_this g_this ++ (cE dT a_p1 u)) t) A) [.ref (a_this 0), .ref (a_p1 0)].toArray s 0 0 A) (F0 m 6 ls []) := by
    intro g_this k34 hk34 n
    induction n with
    | zero => intro x2 g_p1 H locs ls h; exact nomatch h
    | succ n ih =>
      intro x2 g_p1 H locs ls h hP hD hS hl
      unfold f_X6_firstErrorFor_X0_L6 at h
      refine lv_iload_n hx hb dX6_firstErrorFor_6 rfl (lv_at hl 2 rfl) ?_
      refine lv_aload_n hx hb dX6_firstErrorFor_7 rfl (lv_at hl 0 rfl) ?_
      refine gf_X6_15 (v := .int (T_length g_this)) hx hb hqs hown hK hP 0 rfl rfl dX6_firstErrorFor_8 ?_
      refine lv_icmp_ge (tgt := 34) hx hb dX6_firstErrorFor_11 (by decide) (fun c2 => ?_) (fun c2 => ?_)
      · replace h := iteT c2 h
        exact hk34 g_p1 _ _ _ h hP hD hS (lv_sub hl [0, 1] rfl)
      · replace h := iteF c2 h
        refine lv_aload_n hx hb dX6_firstErrorFor_14 rfl (lv_at hl 1 rfl) ?_
        refine lv_aload_n hx hb dX6_firstErrorFor_15 rfl (lv_at hl 0 rfl) ?_
        refine lv_iload_n hx hb dX6_firstErrorFor_16 rfl (lv_at hl 2 rfl) ?_
        obtain ⟨o3, e3, h⟩ := obind h
        have hPc := hP.sub (ws' := (cT dT a_this g_this)) [0, 1] rfl
        have hDc := hD.sub (ws' := (cT dT a_this g_this)) [0, 1] (by decide) rfl
        have hFc := va_free (wc := (cT dT a_this g_this)) hD hS hA [0, 1] rfl
        refine cl_i (wr := (cE dT a_p1 g_p1)) (va_runV (As := [.int x2]) (rest := [.ref (a_p1 0)]) ⟨hx, hb, hml, hown, hts⟩ (c_X6_signAt l hlt D dT a_this g_this x2 o3 e3 _) (cwV 1 hts (TB_V w_660 w_661 w_662 w_34 w_663) rfl rfl rfl ⟨rfl, nd_X6_signAt⟩ ⟨Nat.le_of_ble_eq_true rfl, Nat.le_of_ble_eq_true rfl⟩) (cPre.V hPc hDc hK hE hS hFc (va_recv hK hP (ci := 5) (q0 := 0) rfl rfl)) rfl rfl hl.1 rfl (lv_room (Nat.le_of_ble_eq_true rfl)) dX6_firstErrorFor_17 ⟨Nat.zero_le _, Nat.zero_le _⟩) hP hD hS hFc [0, 1] [2] rfl rfl (by decide) (by decide) (fun r3 u3 H locs hw hP hD hS => ?_)
        obtain ⟨rfl, rfl⟩ := hw
        have hP : va_P D vwCl (cE dT a_p1 g_p1 ++ (cT dT a_this g_this)) H := hP
        have hD : va_D A (cE dT a_p1 g_p1 ++ (cT dT a_this g_this)) := hD
        obtain ⟨o4, e4, h⟩ := obind h
        have hPc := hP.sub (ws' := (cE dT a_p1 g_p1)) [0] rfl
        have hDc := hD.sub (ws' := (cE dT a_p1 g_p1)) [0] (by decide) rfl
        have hFc := va_free (wc := (cE dT a_p1 g_p1)) hD hS hA [0] rfl
        refine cl_i (wr := (cT dT a_this g_this)) (va_runU (As := [.int o3.1]) (rest := []) ⟨hx, hb, hml, hown, hts⟩ (c_X0_takes l hlt D dT a_p1 g_p1 o3.1 o4 e4 _) (va_cwA 1 hts (TB_U (owner := RX4) w_664 w_666 w_667 w_668 w_36 w_669) rfl rfl rfl (hE.2.2.2.2.1 ⟨RX4, "takes", "(I)Z"⟩ (List.mem_of_getElem? (i := 1) rfl)) (by decide +kernel) ⟨Nat.le_of_ble_eq_true rfl, Nat.le_of_ble_eq_true rfl⟩) (cPre.V hPc hDc hK hE hS hFc (va_recv hK hP (ci := 0) (q0 := 0) rfl rfl)) rfl rfl hl.1 rfl (lv_room (Nat.le_of_ble_eq_true rfl)) dX6_firstErrorFor_20 ⟨Nat.zero_le _, Nat.zero_le _⟩) hP hD hS hFc [0] [1, 2] rfl rfl (by decide) (by decide) (fun r4 u4 H locs hw hP hD hS => ?_)
        obtain ⟨rfl, rfl⟩ := hw
        have hP : va_P D vwCl (cT dT a_this g_this ++ (cE dT a_p1 o4.2)) H := hP
        have hD : va_D A (cT dT a_this g_this ++ (cE dT a_p1 o4.2)) := hD
        refine lv_if_ne (tgt := 28) hx hb dX6_firstErrorFor_23 (by decide) (fun c5 => ?_) (fun c5 => ?_)
        · replace h := iteF c5 h
          refine lv_iinc (v := (x2 + (1 : Int32))) (lv' := [(2, .int (x2 + (1 : Int32))), (0, .ref (a_this 0)), (1, .ref (a_p1 0))]) hx hb dX6_firstErrorFor_28 hl (k := 2) rfl rfl (by decide) rfl (fun ls hl => ?_)
          refine lv_goto (tgt := 6) hx hb dX6_firstErrorFor_31 (by decide) ?_
          exact ih (x2 + (1 : Int32)) o4.2 _ _ _ h hP hD hS (lv_sub hl [1, 2, 0] rfl)
        · replace h := iteT c5 h
          refine lv_iload_n hx hb dX6_firstErrorFor_26 rfl (lv_at hl 2 rfl) ?_
          exact rt_i hx hb hr hlk hK hS (o4.2 : TE) (ret2 h) hP hD dX6_firstErrorFor_27
  unfold f_X6_firstErrorFor_X0 at h
  refine lv_aload_n hx hb dX6_firstErrorFor_0 rfl (lv_at hl 1 rfl) ?_
  obtain ⟨o1, e1, h⟩ := obind h
  have hPc := hP.sub (ws' := (cE dT a_p1 g_p1)) [2] rfl
  have hDc := hD.sub (ws' := (cE dT a_p1 g_p1)) [2] (by decide) rfl
  have hFc := va_free (wc := (cE dT a_p1 g_p1)) hD hS hA [2] rfl
  refine cl_v (wr := (cT dT a_this g_this)) (va_runU (As := []) (rest := []) ⟨hx, hb, hml, hown, hts⟩ (c_X0_begin l hlt D dT a_p1 g_p1 o1 e1 _) (va_cwA 0 hts (TB_U (owner := RX4) w_647 w_649 w_650 w_651 w_36 w_652) rfl rfl rfl (hE.2.2.2.2.1 ⟨RX4, "begin", "()V"⟩ (List.mem_of_getElem? (i := 0) rfl)) (by decide +kernel) ⟨Nat.le_of_ble_eq_true rfl, Nat.le_of_ble_eq_true rfl⟩) (cPre.V hPc hDc hK hE hS hFc (va_recv hK hP (ci := 0) (q0 := 2) rfl rfl)) rfl rfl hl.1 rfl (lv_room (Nat.le_of_ble_eq_true rfl)) dX6_firstErrorFor_1 ⟨Nat.zero_le _, Nat.zero_le _⟩) hP hD hS hFc [2] [0, 1] rfl rfl (by decide) (by decide) (fun u1 H locs hw hP hD hS => ?_)
  subst hw
  have hP : va_P D vwCl (cT dT a_this g_this ++ (cE dT a_p1 o1.2)) H := hP
  have hD : va_D A (cT dT a_this g_this ++ (cE dT a_p1 o1.2)) := hD
  refine lv_iconst (v := 0) hx hb dX6_firstErrorFor_4 (by decide) ?_
  refine lv_istore_n (lv' := [(2, .int (0 : Int32)), (0, .ref (a_this 0)), (1, .ref (a_p1 0))]) hx hb dX6_firstErrorFor_5 rfl hl (by decide) rfl (fun ls hl => ?_)
  refine L_f_X6_firstErrorFor_X0_L6 g_this _ ?_ FUEL (0 : Int32) o1.2 _ _ _ h hP hD hS (lv_sub hl [1, 2, 0] rfl)
  · intro y6g_p1 H locs ls h hP hD hS hl
    refine lv_aload_n hx hb dX6_firstErrorFor_34 rfl (lv_at hl 1 rfl) ?_
    obtain ⟨o7, e7, h⟩ := obind h
    have hPc := hP.sub (ws' := (cE dT a_p1 y6g_p1)) [2] rfl
    have hDc := hD.sub (ws' := (cE dT a_p1 y6g_p1)) [2] (by decide) rfl
    have hFc := va_free (wc := (cE dT a_p1 y6g_p1)) hD hS hA [2] rfl
    refine cl_i (wr := (cT dT a_this g_this)) (va_runU (As := []) (rest := []) ⟨hx, hb, hml, hown, hts⟩ (c_X0_isComplete l hlt D dT a_p1 y6g_p1 o7 e7 _) (va_cwA 0 hts (TB_U (owner := RX4) w_696 w_698 w_699 w_684 w_36 w_686) rfl rfl rfl (hE.2.2.2.2.1 ⟨RX4, "isComplete", "()Z"⟩ (List.mem_of_getElem? (i := 2) rfl)) (by decide +kernel) ⟨Nat.le_of_ble_eq_true rfl, Nat.le_of_ble_eq_true rfl⟩) (cPre.V hPc hDc hK hE hS hFc (va_recv hK hP (ci := 0) (q0 := 2) rfl rfl)) rfl rfl hl.1 rfl (lv_room (Nat.le_of_ble_eq_true rfl)) dX6_firstErrorFor_35 ⟨Nat.zero_le _, Nat.zero_le _⟩) hP hD hS hFc [2] [0, 1] rfl rfl (by decide) (by decide) (fun r7 u7 H locs hw hP hD hS => ?_)
    obtain ⟨rfl, rfl⟩ := hw
    have hP : va_P D vwCl (cT dT a_this g_this ++ (cE dT a_p1 y6g_p1)) H := hP
    have hD : va_D A (cT dT a_this g_this ++ (cE dT a_p1 y6g_p1)) := hD
    refine lv_if_eq (tgt := 45) hx hb dX6_firstErrorFor_38 (by decide) (fun c8 => ?_) (fun c8 => ?_)
    · replace h := iteT c8 h
      refine lv_aload_n hx hb dX6_firstErrorFor_45 rfl (lv_at hl 0 rfl) ?_
      refine gf_X6_15 (v := .int (T_length g_this)) hx hb hqs hown hK hP 0 rfl rfl dX6_firstErrorFor_46 ?_
      exact rt_i hx hb hr hlk hK hS (y6g_p1 : TE) (ret2 h) hP hD dX6_firstErrorFor_49
    · replace h := iteF c8 h
      refine lv_iconst (v := -1) hx hb dX6_firstErrorFor_41 (by decide) ?_
      refine lv_goto (tgt := 49) hx hb dX6_firstErrorFor_42 (by decide) ?_
      exact rt_i hx hb hr hlk hK hS (y6g_p1 : TE) (ret2 h) hP hD dX6_firstErrorFor_49

def f_X6_firstErrorFor_X2_L6 (g_this : TT) (k34 : TR → Option (Int32 × (TR))) : Nat → Int32 → TR → Option (Int32 × (TR))
  | 0, _, _ => none
  | n + 1, x2, g_p1 =>
    (if (T_length g_this) ≤ x2 then (k34 g_p1) else ((f_X6_signAt g_this x2).bind fun o3 => ((f_X2_takes g_p1 o3.1).bind fun o4 => (if o4.1 = (0 : Int32) then (some (x2, o4.2)) else (f_X6_firstErrorFor_X2_L6 g_this k34 n (x2 + (1 : Int32)) o4.2)))))
def f_X6_firstErrorFor_X2 (g_this : TT) (g_p1 : TR) : Option (Int32 × (TR)) :=
  ((f_X2_begin g_p1).bind fun o1 => (f_X6_firstErrorFor_X2_L6 g_this (fun (y6g_p1 : TR) => ((f_X2_isComplete y6g_p1).bind fun o7 => (if o7.1 = (0 : Int32) then (some ((T_length g_this), y6g_p1)) else (some ((-1 : Int32), y6g_p1))))) FUEL (0 : Int32) o1.2))
set_option maxHeartbeats 8000000 in
set_option maxRecDepth 100000 in
theorem c_X6_firstErrorFor_X2 (l : Launch) (hlt : l.stackTraces = false) (D : va_G) (dT : Nat → ClassId) (a_this : Nat → Nat) (a_p1 : Nat → Nat) (g_this : TT) (g_p1 : TR) (o : (Int32 × (TR))) (h : f_X6_firstErrorFor_X2 g_this g_p1 = some o) (sz : Nat) : Met l yX6_firstErrorFor (WSm yX6_firstErrorFor cX6_firstErrorFor 3 (some .int)) { frames := 2, cells := 0, slots := 0, locals := 44 } (va_Pc [.ref (a_this 0), .ref (a_p1 0)] (cPre D dT (cT dT a_this g_this ++ (cR dT a_p1 g_p1)) sz)) (va_Qi (fun (r : Int32) (u : TR) => r = o.1 ∧ u = o.2) (fun u t => cAt D dT (va_A (cT dT a_this g_this ++ (cR dT a_p1 g_p1)) sz) (cT dT a_this g_this ++ (cR dT a_p1 u)) t) (va_A (cT dT a_this g_this ++ (cR dT a_p1 g_p1)) sz)) 0 0 (va_A (cT dT a_this g_this ++ (cR dT a_p1 g_p1)) sz) := by
  refine mStart (WS := (cT dT a_this g_this ++ (cR dT a_p1 g_p1))) (Qc := fun A => va_Qi (fun (r : Int32) (u : TR) => r = o.1 ∧ u = o.2) (fun u t => cAt D dT A (cT dT a_this g_this ++ (cR dT a_p1 u)) t) A) RX6 rfl (by decide) (Nat.le_of_ble_eq_true rfl) ?_ sz
  intro p e s m below meth c A ls hx hb hml hr hlk hnm hts hqs hown hE hA hK hP hD hS hl
  have hl : lv_has ls 3 [(0, .ref (a_this 0)), (1, .ref (a_p1 0))] := hl
  have L_f_X6_firstErrorFor_X2_L6 : ∀ (g_this : TT) (k34 : TR → Option (Int32 × (TR))) (hk34 : ∀ (g_p1 : TR) (H : Heap) (locs : List Loc) (ls : Array Slot), k34 g_p1 = some o → va_P D vwCl (cT dT a_this g_this ++ (cR dT a_p1 g_p1)) H → va_D A (cT dT a_this g_this ++ (cR dT a_p1 g_p1)) → va_S A s.heap H locs → lv_has ls 3 [(0, .ref (a_this 0)), (1, .ref (a_p1 0))] → W p l e (headSpec (WSm yX6_firstErrorFor cX6_firstErrorFor 3 (some .int)) { frames := 2, cells := 0, slots := 0, locals := 44 }).room s m [.ref (a_this 0), .ref (a_p1 0)].toArray below meth c H locs 0 0 (MQ below (va_Qi (fun (r : Int32) (u : TR) => r = o.1 ∧ u = o.2) (fun u t => cAt D dT A (cT dT a_this g_this ++ (cR dT a_p1 u)) t) A) [.ref (a_this 0), .ref (a_p1 0)].toArray s 0 0 A) (F0 m 34 ls [])) (n : Nat), ∀ (x2 : Int32) (g_p1 : TR) (H : Heap) (locs : List Loc) (ls : Array Slot), f_X6_firstErrorFor_X2_L6 g_this k34 n x2 g_p1 = some o → va_P D vwCl (cT dT a_this g_this ++ (cR dT a_p1 g_p1)) H → va_D A (cT dT a_this g_this ++ (cR dT a_p1 g_p1)) → va_S A s.heap H locs → lv_has ls 3 [(0, .ref (a_this 0)), (1, .ref (a_p1 0)), (2, .int x2)] → W p l e (headSpec (WSm yX6_firstErrorFor cX6_firstErrorFor 3 (some .int)) { frames := 2, cells := 0, slots := 0, locals := 44 }).room s m [.ref (a_this 0), .ref (a_p1 0)].toArray below meth c H locs 0 0 (MQ below (va_Qi (fun (r : Int32) (u : TR) => r = o.1 ∧ u = o.2) (fun u t => cAt D dT A (cT dT a_this g_this ++ (cR dT a_p1 u)) t) A) [.ref (a_this 0), .ref (a_p1 0)].toArray s 0 0 A) (F0 m 6 ls []) := by
    intro g_this k34 hk34 n
    induction n with
    | zero => intro x2 g_p1 H locs ls h; exact nomatch h
    | succ n ih =>
      intro x2 g_p1 H locs ls h hP hD hS hl
      unfold f_X6_firstErrorFor_X2_L6 at h
      refine lv_iload_n hx hb dX6_firstErrorFor_6 rfl (lv_at hl 2 rfl) ?_
      refine lv_aload_n hx hb dX6_firstErrorFor_7 rfl (lv_at hl 0 rfl) ?_
      refine gf_X6_15 (v := .int (T_length g_this)) hx hb hqs hown hK hP 0 rfl rfl dX6_firstErrorFor_8 ?_
      refine lv_icmp_ge (tgt := 34) hx hb dX6_firstErrorFor_11 (by decide) (fun c2 => ?_) (fun c2 => ?_)
      · replace h := iteT c2 h
        exact hk34 g_p1 _ _ _ h hP hD hS (lv_sub hl [0, 1] rfl)
      · replace h := iteF c2 h
        refine lv_aload_n hx hb dX6_firstErrorFor_14 rfl (lv_at hl 1 rfl) ?_
        refine lv_aload_n hx hb dX6_firstErrorFor_15 rfl (lv_at hl 0 rfl) ?_
        refine lv_iload_n hx hb dX6_firstErrorFor_16 rfl (lv_at hl 2 rfl) ?_
        obtain ⟨o3, e3, h⟩ := obind h
        have hPc := hP.sub (ws' := (cT dT a_this g_this)) [0, 1] rfl
        have hDc := hD.sub (ws' := (cT dT a_this g_this)) [0, 1] (by decide) rfl
        have hFc := va_free (wc := (cT dT a_this g_this)) hD hS hA [0, 1] rfl
        refine cl_i (wr := (cR dT a_p1 g_p1)) (va_runV (As := [.int x2]) (rest := [.ref (a_p1 0)]) ⟨hx, hb, hml, hown, hts⟩ (c_X6_signAt l hlt D dT a_this g_this x2 o3 e3 _) (cwV 1 hts (TB_V w_660 w_661 w_662 w_34 w_663) rfl rfl rfl ⟨rfl, nd_X6_signAt⟩ ⟨Nat.le_of_ble_eq_true rfl, Nat.le_of_ble_eq_true rfl⟩) (cPre.V hPc hDc hK hE hS hFc (va_recv hK hP (ci := 5) (q0 := 0) rfl rfl)) rfl rfl hl.1 rfl (lv_room (Nat.le_of_ble_eq_true rfl)) dX6_firstErrorFor_17 ⟨Nat.zero_le _, Nat.zero_le _⟩) hP hD hS hFc [0, 1] [2, 3] rfl rfl (by decide) (by decide) (fun r3 u3 H locs hw hP hD hS => ?_)
        obtain ⟨rfl, rfl⟩ := hw
        have hP : va_P D vwCl (cR dT a_p1 g_p1 ++ (cT dT a_this g_this)) H := hP
        have hD : va_D A (cR dT a_p1 g_p1 ++ (cT dT a_this g_this)) := hD
        obtain ⟨o4, e4, h⟩ := obind h
        have hPc := hP.sub (ws' := (cR dT a_p1 g_p1)) [0, 1] rfl
        have hDc := hD.sub (ws' := (cR dT a_p1 g_p1)) [0, 1] (by decide) rfl
        have hFc := va_free (wc := (cR dT a_p1 g_p1)) hD hS hA [0, 1] rfl
        refine cl_i (wr := (cT dT a_this g_this)) (va_runU (As := [.int o3.1]) (rest := []) ⟨hx, hb, hml, hown, hts⟩ (c_X2_takes l hlt D dT a_p1 g_p1 o3.1 o4 e4 _) (va_cwA 1 hts (TB_U (owner := RX4) w_664 w_666 w_691 w_692 w_37 w_693) rfl rfl rfl (hE.2.2.2.2.1 ⟨RX4, "takes", "(I)Z"⟩ (List.mem_of_getElem? (i := 1) rfl)) (by decide +kernel) ⟨Nat.le_of_ble_eq_true rfl, Nat.le_of_ble_eq_true rfl⟩) (cPre.V hPc hDc hK hE hS hFc (va_recv hK hP (ci := 2) (q0 := 0) rfl rfl)) rfl rfl hl.1 rfl (lv_room (Nat.le_of_ble_eq_true rfl)) dX6_firstErrorFor_20 ⟨Nat.zero_le _, Nat.zero_le _⟩) hP hD hS hFc [0, 1] [2, 3] rfl rfl (by decide) (by decide) (fun r4 u4 H locs hw hP hD hS => ?_)
        obtain ⟨rfl, rfl⟩ := hw
        have hP : va_P D vwCl (cT dT a_this g_this ++ (cR dT a_p1 o4.2)) H := hP
        have hD : va_D A (cT dT a_this g_this ++ (cR dT a_p1 o4.2)) := hD
        refine lv_if_ne (tgt := 28) hx hb dX6_firstErrorFor_23 (by decide) (fun c5 => ?_) (fun c5 => ?_)
        · replace h := iteF c5 h
          refine lv_iinc (v := (x2 + (1 : Int32))) (lv' := [(2, .int (x2 + (1 : Int32))), (0, .ref (a_this 0)), (1, .ref (a_p1 0))]) hx hb dX6_firstErrorFor_28 hl (k := 2) rfl rfl (by decide) rfl (fun ls hl => ?_)
          refine lv_goto (tgt := 6) hx hb dX6_firstErrorFor_31 (by decide) ?_
          exact ih (x2 + (1 : Int32)) o4.2 _ _ _ h hP hD hS (lv_sub hl [1, 2, 0] rfl)
        · replace h := iteT c5 h
          refine lv_iload_n hx hb dX6_firstErrorFor_26 rfl (lv_at hl 2 rfl) ?_
          exact rt_i hx hb hr hlk hK hS (o4.2 : TR) (ret2 h) hP hD dX6_firstErrorFor_27
  unfold f_X6_firstErrorFor_X2 at h
  refine lv_aload_n hx hb dX6_firstErrorFor_0 rfl (lv_at hl 1 rfl) ?_
  obtain ⟨o1, e1, h⟩ := obind h
  have hPc := hP.sub (ws' := (cR dT a_p1 g_p1)) [2, 3] rfl
  have hDc := hD.sub (ws' := (cR dT a_p1 g_p1)) [2, 3] (by decide) rfl
  have hFc := va_free (wc := (cR dT a_p1 g_p1)) hD hS hA [2, 3] rfl
  refine cl_v (wr := (cT dT a_this g_this)) (va_runU (As := []) (rest := []) ⟨hx, hb, hml, hown, hts⟩ (c_X2_begin l hlt D dT a_p1 g_p1 o1 e1 _) (va_cwA 0 hts (TB_U (owner := RX4) w_647 w_649 w_657 w_658 w_37 w_659) rfl rfl rfl (hE.2.2.2.2.1 ⟨RX4, "begin", "()V"⟩ (List.mem_of_getElem? (i := 0) rfl)) (by decide +kernel) ⟨Nat.le_of_ble_eq_true rfl, Nat.le_of_ble_eq_true rfl⟩) (cPre.V hPc hDc hK hE hS hFc (va_recv hK hP (ci := 2) (q0 := 2) rfl rfl)) rfl rfl hl.1 rfl (lv_room (Nat.le_of_ble_eq_true rfl)) dX6_firstErrorFor_1 ⟨Nat.zero_le _, Nat.zero_le _⟩) hP hD hS hFc [2, 3] [0, 1] rfl rfl (by decide) (by decide) (fun u1 H locs hw hP hD hS => ?_)
  subst hw
  have hP : va_P D vwCl (cT dT a_this g_this ++ (cR dT a_p1 o1.2)) H := hP
  have hD : va_D A (cT dT a_this g_this ++ (cR dT a_p1 o1.2)) := hD
  refine lv_iconst (v := 0) hx hb dX6_firstErrorFor_4 (by decide) ?_
  refine lv_istore_n (lv' := [(2, .int (0 : Int32)), (0, .ref (a_this 0)), (1, .ref (a_p1 0))]) hx hb dX6_firstErrorFor_5 rfl hl (by decide) rfl (fun ls hl => ?_)
  refine L_f_X6_firstErrorFor_X2_L6 g_this _ ?_ FUEL (0 : Int32) o1.2 _ _ _ h hP hD hS (lv_sub hl [1, 2, 0] rfl)
  · intro y6g_p1 H locs ls h hP hD hS hl
    refine lv_aload_n hx hb dX6_firstErrorFor_34 rfl (lv_at hl 1 rfl) ?_
    obtain ⟨o7, e7, h⟩ := obind h
    have hPc := hP.sub (ws' := (cR dT a_p1 y6g_p1)) [2, 3] rfl
    have hDc := hD.sub (ws' := (cR dT a_p1 y6g_p1)) [2, 3] (by decide) rfl
    have hFc := va_free (wc := (cR dT a_p1 y6g_p1)) hD hS hA [2, 3] rfl
    refine cl_i (wr := (cT dT a_this g_this)) (va_runU (As := []) (rest := []) ⟨hx, hb, hml, hown, hts⟩ (c_X2_isComplete l hlt D dT a_p1 y6g_p1 o7 e7 _) (va_cwA 0 hts (TB_U (owner := RX4) w_696 w_698 w_700 w_701 w_37 w_702) rfl rfl rfl (hE.2.2.2.2.1 ⟨RX4, "isComplete", "()Z"⟩ (List.mem_of_getElem? (i := 2) rfl)) (by decide +kernel) ⟨Nat.le_of_ble_eq_true rfl, Nat.le_of_ble_eq_true rfl⟩) (cPre.V hPc hDc hK hE hS hFc (va_recv hK hP (ci := 2) (q0 := 2) rfl rfl)) rfl rfl hl.1 rfl (lv_room (Nat.le_of_ble_eq_true rfl)) dX6_firstErrorFor_35 ⟨Nat.zero_le _, Nat.zero_le _⟩) hP hD hS hFc [2, 3] [0, 1] rfl rfl (by decide) (by decide) (fun r7 u7 H locs hw hP hD hS => ?_)
    obtain ⟨rfl, rfl⟩ := hw
    have hP : va_P D vwCl (cT dT a_this g_this ++ (cR dT a_p1 y6g_p1)) H := hP
    have hD : va_D A (cT dT a_this g_this ++ (cR dT a_p1 y6g_p1)) := hD
    refine lv_if_eq (tgt := 45) hx hb dX6_firstErrorFor_38 (by decide) (fun c8 => ?_) (fun c8 => ?_)
    · replace h := iteT c8 h
      refine lv_aload_n hx hb dX6_firstErrorFor_45 rfl (lv_at hl 0 rfl) ?_
      refine gf_X6_15 (v := .int (T_length g_this)) hx hb hqs hown hK hP 0 rfl rfl dX6_firstErrorFor_46 ?_
      exact rt_i hx hb hr hlk hK hS (y6g_p1 : TR) (ret2 h) hP hD dX6_firstErrorFor_49
    · replace h := iteF c8 h
      refine lv_iconst (v := -1) hx hb dX6_firstErrorFor_41 (by decide) ?_
      refine lv_goto (tgt := 49) hx hb dX6_firstErrorFor_42 (by decide) ?_
      exact rt_i hx hb hr hlk hK hS (y6g_p1 : TR) (ret2 h) hP hD dX6_firstErrorFor_49

