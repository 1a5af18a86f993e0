def f_X8_isIn (v0 : Int32) (v1 : Int32) (v2 : Int32) : Option (Int32 × (Unit)) :=
  (if v0 < v1 then (some ((0 : Int32), ())) else (if v2 < v0 then (some ((0 : Int32), ())) else (some ((1 : Int32), ()))))
set_option maxHeartbeats 8000000 in
set_option maxRecDepth 100000 in
theorem c_X8_isIn (l : Launch) (hlt : l.stackTraces = false) (D : va_G) (dT : Nat → ClassId) (v0 : Int32) (v1 : Int32) (v2 : Int32) (o : (Int32 × (Unit))) (h : f_X8_isIn v0 v1 v2 = some o) (sz : Nat) : Met l yX8_isIn (WSm yX8_isIn cX8_isIn 3 (some .boolean)) { frames := 0, cells := 0, slots := 0, locals := 0 } (va_Pc [.int v0, .int v1, .int v2] (cPre D dT ([] : va_W) sz)) (va_Qi (fun (r : Int32) (u : Unit) => r = o.1 ∧ u = o.2) (fun u t => cAt D dT (va_A ([] : va_W) sz) ([] : va_W) t) (va_A ([] : va_W) sz)) 0 0 (va_A ([] : va_W) sz) := by
  refine mStart (WS := ([] : va_W)) (Qc := fun A => va_Qi (fun (r : Int32) (u : Unit) => r = o.1 ∧ u = o.2) (fun u t => cAt D dT A ([] : va_W) t) A) RX8 rfl (by decide) (Nat.le_of_ble_eq_true rfl) ?_ sz
  intro p e s m below meth c A ls hx hb hml hr hlk hnm hts hqs hown hE hA hK hP hD hS hl
  have hl : lv_has ls 3 [(0, .int v0), (1, .int v1), (2, .int v2)] := hl
  unfold f_X8_isIn at h
  refine lv_iload_n hx hb dX8_isIn_0 rfl (lv_at hl 0 rfl) ?_
  refine lv_iload_n hx hb dX8_isIn_1 rfl (lv_at hl 1 rfl) ?_
  refine lv_icmp_lt (tgt := 14) hx hb dX8_isIn_2 (by decide) (fun c1 => ?_) (fun c1 => ?_)
  · replace h := iteT c1 h
    refine lv_iconst (v := 0) hx hb dX8_isIn_14 (by decide) ?_
    exact rt_z hx hb hr hlk hK hS (() : Unit) (ret2 h) (by decide) hP hD dX8_isIn_15
  · replace h := iteF c1 h
    refine lv_iload_n hx hb dX8_isIn_5 rfl (lv_at hl 0 rfl) ?_
    refine lv_iload_n hx hb dX8_isIn_6 rfl (lv_at hl 2 rfl) ?_
    refine lv_icmp_gt (tgt := 14) hx hb dX8_isIn_7 (by decide) (fun c2 => ?_) (fun c2 => ?_)
    · replace h := iteT c2 h
      refine lv_iconst (v := 0) hx hb dX8_isIn_14 (by decide) ?_
      exact rt_z hx hb hr hlk hK hS (() : Unit) (ret2 h) (by decide) hP hD dX8_isIn_15
    · replace h := iteF c2 h
      refine lv_iconst (v := 1) hx hb dX8_isIn_10 (by decide) ?_
      refine lv_goto (tgt := 15) hx hb dX8_isIn_11 (by decide) ?_
      exact rt_z hx hb hr hlk hK hS (() : Unit) (ret2 h) (by decide) hP hD dX8_isIn_15

def f_X8_holds (v0 : Int32) (v1 : Int32) : Option (Int32 × (Unit)) :=
  (if ((v0 >>> (v1 &&& 31)) &&& (1 : Int32)) = (1 : Int32) then (some ((1 : Int32), ())) else (some ((0 : Int32), ())))
set_option maxHeartbeats 8000000 in
set_option maxRecDepth 100000 in
theorem c_X8_holds (l : Launch) (hlt : l.stackTraces = false) (D : va_G) (dT : Nat → ClassId) (v0 : Int32) (v1 : Int32) (o : (Int32 × (Unit))) (h : f_X8_holds v0 v1 = some o) (sz : Nat) : Met l yX8_holds (WSm yX8_holds cX8_holds 2 (some .boolean)) { frames := 0, cells := 0, slots := 0, locals := 0 } (va_Pc [.int v0, .int v1] (cPre D dT ([] : va_W) sz)) (va_Qi (fun (r : Int32) (u : Unit) => r = o.1 ∧ u = o.2) (fun u t => cAt D dT (va_A ([] : va_W) sz) ([] : va_W) t) (va_A ([] : va_W) sz)) 0 0 (va_A ([] : va_W) sz) := by
  refine mStart (WS := ([] : va_W)) (Qc := fun A => va_Qi (fun (r : Int32) (u : Unit) => r = o.1 ∧ u = o.2) (fun u t => cAt D dT A ([] : va_W) t) A) RX8 rfl (by decide) (Nat.le_of_ble_eq_true rfl) ?_ sz
  intro p e s m below meth c A ls hx hb hml hr hlk hnm hts hqs hown hE hA hK hP hD hS hl
  have hl : lv_has ls 2 [(0, .int v0), (1, .int v1)] := hl
  unfold f_X8_holds at h
  refine lv_iload_n hx hb dX8_holds_0 rfl (lv_at hl 0 rfl) ?_
  refine lv_iload_n hx hb dX8_holds_1 rfl (lv_at hl 1 rfl) ?_
  refine lv_ishr hx hb dX8_holds_2 ?_
  refine lv_iconst (v := 1) hx hb dX8_holds_3 (by decide) ?_
  refine lv_iand hx hb dX8_holds_4 ?_
  refine lv_iconst (v := 1) hx hb dX8_holds_5 (by decide) ?_
  refine lv_icmp_ne (tgt := 13) hx hb dX8_holds_6 (by decide) (fun c1 => ?_) (fun c1 => ?_)
  · replace h := iteF c1 h
    refine lv_iconst (v := 0) hx hb dX8_holds_13 (by decide) ?_
    exact rt_z hx hb hr hlk hK hS (() : Unit) (ret2 h) (by decide) hP hD dX8_holds_14
  · replace h := iteT c1 h
    refine lv_iconst (v := 1) hx hb dX8_holds_9 (by decide) ?_
    refine lv_goto (tgt := 14) hx hb dX8_holds_10 (by decide) ?_
    exact rt_z hx hb hr hlk hK hS (() : Unit) (ret2 h) (by decide) hP hD dX8_holds_14

def f_X8_pairIndex (v0 : Int32) (v1 : Int32) : Option (Int32 × (Unit)) :=
  (if (if v1 < v0 then v1 else v0) < (0 : Int32) then (some ((-1 : Int32), ())) else (if (7 : Int32) ≤ (if v0 < v1 then v1 else v0) then (some ((-1 : Int32), ())) else (if (if v1 < v0 then v1 else v0) = (if v0 < v1 then v1 else v0) then (some ((-1 : Int32), ())) else (some (((((if v0 < v1 then v1 else v0) * ((if v0 < v1 then v1 else v0) - (1 : Int32))) / (2 : Int32)) + (if v1 < v0 then v1 else v0)), ())))))
set_option maxHeartbeats 8000000 in
set_option maxRecDepth 100000 in
theorem c_X8_pairIndex (l : Launch) (hlt : l.stackTraces = false) (D : va_G) (dT : Nat → ClassId) (v0 : Int32) (v1 : Int32) (o : (Int32 × (Unit))) (h : f_X8_pairIndex v0 v1 = some o) (sz : Nat) : Met l yX8_pairIndex (WSm yX8_pairIndex cX8_pairIndex 4 (some .int)) { frames := 1, cells := 0, slots := 0, locals := 21 } (va_Pc [.int v0, .int v1] (cPre D dT ([] : va_W) sz)) (va_Qi (fun (r : Int32) (u : Unit) => r = o.1 ∧ u = o.2) (fun u t => cAt D dT (va_A ([] : va_W) sz) ([] : va_W) t) (va_A ([] : va_W) sz)) 0 0 (va_A ([] : va_W) sz) := by
  refine mStart (WS := ([] : va_W)) (Qc := fun A => va_Qi (fun (r : Int32) (u : Unit) => r = o.1 ∧ u = o.2) (fun u t => cAt D dT A ([] : va_W) t) A) RX8 rfl (by decide) (Nat.le_of_ble_eq_true rfl) ?_ sz
  intro p e s m below meth c A ls hx hb hml hr hlk hnm hts hqs hown hE hA hK hP hD hS hl
  have hl : lv_has ls 4 [(0, .int v0), (1, .int v1)] := hl
  unfold f_X8_pairIndex at h
  refine lv_iload_n hx hb dX8_pairIndex_0 rfl (lv_at hl 0 rfl) ?_
  refine lv_iload_n hx hb dX8_pairIndex_1 rfl (lv_at hl 1 rfl) ?_
  refine va_mmin hx hb (hml.trans hl.1.symm) hown (hqs _ w_475) (hqs _ w_476) (hqs _ w_48) (hqs _ w_477) (Nat.le_of_ble_eq_true rfl) (Nat.le_of_ble_eq_true rfl) (Nat.le_of_ble_eq_true rfl) (Nat.le_of_ble_eq_true rfl) dX8_pairIndex_2 ?_
  refine lv_istore_n (lv' := [(2, .int (if v1 < v0 then v1 else v0)), (0, .int v0), (1, .int v1)]) hx hb dX8_pairIndex_5 rfl hl (by decide) rfl (fun ls hl => ?_)
  refine lv_iload_n hx hb dX8_pairIndex_6 rfl (lv_at hl 1 rfl) ?_
  refine lv_iload_n hx hb dX8_pairIndex_7 rfl (lv_at hl 2 rfl) ?_
  refine va_mmax hx hb (hml.trans hl.1.symm) hown (hqs _ w_478) (hqs _ w_479) (hqs _ w_48) (hqs _ w_480) (Nat.le_of_ble_eq_true rfl) (Nat.le_of_ble_eq_true rfl) (Nat.le_of_ble_eq_true rfl) (Nat.le_of_ble_eq_true rfl) dX8_pairIndex_8 ?_
  refine lv_istore_n (lv' := [(3, .int (if v0 < v1 then v1 else v0)), (2, .int (if v1 < v0 then v1 else v0)), (0, .int v0), (1, .int v1)]) hx hb dX8_pairIndex_11 rfl hl (by decide) rfl (fun ls hl => ?_)
  refine lv_iload_n hx hb dX8_pairIndex_12 rfl (lv_at hl 1 rfl) ?_
  refine lv_if_lt (tgt := 27) hx hb dX8_pairIndex_13 (by decide) (fun c1 => ?_) (fun c1 => ?_)
  · replace h := iteT c1 h
    refine lv_iconst (v := -1) hx hb dX8_pairIndex_27 (by decide) ?_
    refine lv_goto (tgt := 40) hx hb dX8_pairIndex_28 (by decide) ?_
    exact rt_i hx hb hr hlk hK hS (() : Unit) (ret2 h) hP hD dX8_pairIndex_40
  · replace h := iteF c1 h
    refine lv_iload_n hx hb dX8_pairIndex_16 rfl (lv_at hl 0 rfl) ?_
    refine lv_bipush (v := 7) hx hb dX8_pairIndex_17 (by decide) ?_
    refine lv_icmp_ge (tgt := 27) hx hb dX8_pairIndex_19 (by decide) (fun c2 => ?_) (fun c2 => ?_)
    · replace h := iteT c2 h
      refine lv_iconst (v := -1) hx hb dX8_pairIndex_27 (by decide) ?_
      refine lv_goto (tgt := 40) hx hb dX8_pairIndex_28 (by decide) ?_
      exact rt_i hx hb hr hlk hK hS (() : Unit) (ret2 h) hP hD dX8_pairIndex_40
    · replace h := iteF c2 h
      refine lv_iload_n hx hb dX8_pairIndex_22 rfl (lv_at hl 1 rfl) ?_
      refine lv_iload_n hx hb dX8_pairIndex_23 rfl (lv_at hl 0 rfl) ?_
      refine lv_icmp_ne (tgt := 31) hx hb dX8_pairIndex_24 (by decide) (fun c3 => ?_) (fun c3 => ?_)
      · replace h := iteF c3 h
        refine lv_iload_n hx hb dX8_pairIndex_31 rfl (lv_at hl 0 rfl) ?_
        refine lv_iload_n hx hb dX8_pairIndex_32 rfl (lv_at hl 0 rfl) ?_
        refine lv_iconst (v := 1) hx hb dX8_pairIndex_33 (by decide) ?_
        refine lv_isub hx hb dX8_pairIndex_34 ?_
        refine lv_imul hx hb dX8_pairIndex_35 ?_
        refine lv_iconst (v := 2) hx hb dX8_pairIndex_36 (by decide) ?_
        refine lv_idiv hx hb dX8_pairIndex_37 (by decide) ?_
        refine lv_iload_n hx hb dX8_pairIndex_38 rfl (lv_at hl 1 rfl) ?_
        refine lv_iadd hx hb dX8_pairIndex_39 ?_
        exact rt_i hx hb hr hlk hK hS (() : Unit) (ret2 h) hP hD dX8_pairIndex_40
      · replace h := iteT c3 h
        refine lv_iconst (v := -1) hx hb dX8_pairIndex_27 (by decide) ?_
        refine lv_goto (tgt := 40) hx hb dX8_pairIndex_28 (by decide) ?_
        exact rt_i hx hb hr hlk hK hS (() : Unit) (ret2 h) hP hD dX8_pairIndex_40

def f_X8_settingTakes (v0 : Int32) (v1 : Int32) : Option (Int32 × (Unit)) :=
  ((f_X8_isIn v0 (0 : Int32) (2 : Int32)).bind fun o1 => (if o1.1 = (0 : Int32) then (some ((0 : Int32), ())) else (if inb v0 3 = true then (if inb v0 3 = true then ((f_X8_isIn v1 (([1, 1, 0] : List Int32).getD v0.toNatClampNeg 0) (([1000, 10, 20] : List Int32).getD v0.toNatClampNeg 0)).bind fun o7 => (if o7.1 = (0 : Int32) then (some ((0 : Int32), ())) else (some ((1 : Int32), ())))) else none) else none)))
set_option maxHeartbeats 8000000 in
set_option maxRecDepth 100000 in
theorem c_X8_settingTakes (l : Launch) (hlt : l.stackTraces = false) (D : va_G) (dT : Nat → ClassId) (v0 : Int32) (v1 : Int32) (o : (Int32 × (Unit))) (h : f_X8_settingTakes v0 v1 = some o) (sz : Nat) : Met l yX8_settingTakes (WSm yX8_settingTakes cX8_settingTakes 2 (some .boolean)) { frames := 1, cells := 0, slots := 0, locals := 22 } (va_Pc [.int v0, .int v1] (cPre D dT ([] : va_W) sz)) (va_Qi (fun (r : Int32) (u : Unit) => r = o.1 ∧ u = o.2) (fun u t => cAt D dT (va_A ([] : va_W) sz) ([] : va_W) t) (va_A ([] : va_W) sz)) 0 0 (va_A ([] : va_W) sz) := by
  refine mStart (WS := ([] : va_W)) (Qc := fun A => va_Qi (fun (r : Int32) (u : Unit) => r = o.1 ∧ u = o.2) (fun u t => cAt D dT A ([] : va_W) t) A) RX8 rfl (by decide) (Nat.le_of_ble_eq_true rfl) ?_ sz
  intro p e s m below meth c A ls hx hb hml hr hlk hnm hts hqs hown hE hA hK hP hD hS hl
  have hl : lv_has ls 2 [(0, .int v0), (1, .int v1)] := hl
  unfold f_X8_settingTakes at h
  refine lv_iload_n hx hb dX8_settingTakes_0 rfl (lv_at hl 0 rfl) ?_
  refine lv_iconst (v := 0) hx hb dX8_settingTakes_1 (by decide) ?_
  refine lv_iconst (v := 2) hx hb dX8_settingTakes_2 (by decide) ?_
  obtain ⟨o1, e1, h⟩ := obind h
  have hPc := hP
  have hDc := hD
  have hFc := vfall hD hS hA
  refine cl_iA (va_runS (As := [.int v0, .int (0 : Int32), .int (2 : Int32)]) (rest := []) ⟨hx, hb, hml, hown, hts⟩ (c_X8_isIn l hlt D dT v0 (0 : Int32) (2 : Int32) o1 e1 _) (va_cwS 3 hts (TB_S w_290 w_291 w_33 w_292) rfl rfl rfl nd_X8_isIn ⟨Nat.le_of_ble_eq_true rfl, Nat.le_of_ble_eq_true rfl⟩) (cPre.S hPc hDc hK hE hS hFc) rfl rfl hl.1 rfl (lv_room (Nat.le_of_ble_eq_true rfl)) dX8_settingTakes_3 ⟨Nat.zero_le _, Nat.zero_le _⟩) hS hFc (fun r1 u1 H locs hw hP hD hS => ?_)
  obtain ⟨rfl, rfl⟩ := hw
  have hP : va_P D vwCl ([] : va_W) H := hP
  have hD : va_D A ([] : va_W) := hD
  refine lv_if_eq (tgt := 30) hx hb dX8_settingTakes_6 (by decide) (fun c2 => ?_) (fun c2 => ?_)
  · replace h := iteT c2 h
    refine lv_iconst (v := 0) hx hb dX8_settingTakes_30 (by decide) ?_
    exact rt_z hx hb hr hlk hK hS (() : Unit) (ret2 h) (by decide) hP hD dX8_settingTakes_31
  · replace h := iteF c2 h
    refine lv_iload_n hx hb dX8_settingTakes_9 rfl (lv_at hl 1 rfl) ?_
    obtain ⟨t3, z3, s3⟩ := hE.2.2.2.2.2.2.1 ("LEAST_SETTING", [1, 1, 0]) (List.mem_of_getElem? (i := 1) rfl)
    refine va_gets (C := RX8) (n := "LEAST_SETTING") (d := "[I") (v := .ref t3) hx hb z3 hS hown (hqs _ w_543) (fun _ h9 => h9) dX8_settingTakes_10 ?_
    refine lv_iload_n hx hb dX8_settingTakes_13 rfl (lv_at hl 0 rfl) ?_
    obtain ⟨g4, h⟩ := chk h
    refine va_sTl hx hb s3 hS (inb_in g4) dX8_settingTakes_14 ?_
    obtain ⟨t5, z5, s5⟩ := hE.2.2.2.2.2.2.1 ("MOST_SETTING", [1000, 10, 20]) (List.mem_of_getElem? (i := 2) rfl)
    refine va_gets (C := RX8) (n := "MOST_SETTING") (d := "[I") (v := .ref t5) hx hb z5 hS hown (hqs _ w_545) (fun _ h9 => h9) dX8_settingTakes_15 ?_
    refine lv_iload_n hx hb dX8_settingTakes_18 rfl (lv_at hl 0 rfl) ?_
    obtain ⟨g6, h⟩ := chk h
    refine va_sTl hx hb s5 hS (inb_in g6) dX8_settingTakes_19 ?_
    obtain ⟨o7, e7, h⟩ := obind h
    have hPc := hP
    have hDc := hD
    have hFc := vfall hD hS hA
    refine cl_iA (va_runS (As := [.int v1, .int (([1, 1, 0] : List Int32).getD v0.toNatClampNeg 0), .int (([1000, 10, 20] : List Int32).getD v0.toNatClampNeg 0)]) (rest := []) ⟨hx, hb, hml, hown, hts⟩ (c_X8_isIn l hlt D dT v1 (([1, 1, 0] : List Int32).getD v0.toNatClampNeg 0) (([1000, 10, 20] : List Int32).getD v0.toNatClampNeg 0) o7 e7 _) (va_cwS 3 hts (TB_S w_290 w_291 w_33 w_292) rfl rfl rfl nd_X8_isIn ⟨Nat.le_of_ble_eq_true rfl, Nat.le_of_ble_eq_true rfl⟩) (cPre.S hPc hDc hK hE hS hFc) rfl rfl hl.1 rfl (lv_room (Nat.le_of_ble_eq_true rfl)) dX8_settingTakes_20 ⟨Nat.zero_le _, Nat.zero_le _⟩) hS hFc (fun r7 u7 H locs hw hP hD hS => ?_)
    obtain ⟨rfl, rfl⟩ := hw
    have hP : va_P D vwCl ([] : va_W) H := hP
    have hD : va_D A ([] : va_W) := hD
    refine lv_if_eq (tgt := 30) hx hb dX8_settingTakes_23 (by decide) (fun c8 => ?_) (fun c8 => ?_)
    · replace h := iteT c8 h
      refine lv_iconst (v := 0) hx hb dX8_settingTakes_30 (by decide) ?_
      exact rt_z hx hb hr hlk hK hS (() : Unit) (ret2 h) (by decide) hP hD dX8_settingTakes_31
    · replace h := iteF c8 h
      refine lv_iconst (v := 1) hx hb dX8_settingTakes_26 (by decide) ?_
      refine lv_goto (tgt := 31) hx hb dX8_settingTakes_27 (by decide) ?_
      exact rt_z hx hb hr hlk hK hS (() : Unit) (ret2 h) (by decide) hP hD dX8_settingTakes_31

