def f_X1_isEmpty (g_this : TH) : Option (Int32 × (Unit)) :=
  (if (H_count g_this) = (0 : Int32) then (some ((1 : Int32), ())) else (some ((0 : Int32), ())))
set_option maxHeartbeats 8000000 in
set_option maxRecDepth 100000 in
theorem c_X1_isEmpty (l : Launch) (hlt : l.stackTraces = false) (D : va_G) (dT : Nat → ClassId) (a_this : Nat → Nat) (g_this : TH) (o : (Int32 × (Unit))) (h : f_X1_isEmpty g_this = some o) (sz : Nat) : Met l yX1_isEmpty (WSm yX1_isEmpty cX1_isEmpty 1 (some .boolean)) { frames := 0, cells := 0, slots := 0, locals := 0 } (va_Pc [.ref (a_this 0)] (cPre D dT (cH dT a_this g_this) sz)) (va_Qi (fun (r : Int32) (u : Unit) => r = o.1 ∧ u = o.2) (fun u t => cAt D dT (va_A (cH dT a_this g_this) sz) (cH dT a_this g_this) t) (va_A (cH dT a_this g_this) sz)) 0 0 (va_A (cH dT a_this g_this) sz) := by
  refine mStart (WS := (cH dT a_this g_this)) (Qc := fun A => va_Qi (fun (r : Int32) (u : Unit) => r = o.1 ∧ u = o.2) (fun u t => cAt D dT A (cH dT a_this g_this) t) A) RX1 rfl (by decide) (Nat.le_of_ble_eq_true rfl) ?_ sz
  intro p e s m below meth c A ls hx hb hml hr hlk hnm hts hqs hown hE hA hK hP hD hS hl
  have hl : lv_has ls 1 [(0, .ref (a_this 0))] := hl
  unfold f_X1_isEmpty at h
  refine lv_aload_n hx hb dX1_isEmpty_0 rfl (lv_at hl 0 rfl) ?_
  refine gf_X1_18 (v := .int (H_count g_this)) hx hb hqs hown hK hP 0 rfl rfl dX1_isEmpty_1 ?_
  refine lv_if_ne (tgt := 11) hx hb dX1_isEmpty_4 (by decide) (fun c1 => ?_) (fun c1 => ?_)
  · replace h := iteF c1 h
    refine lv_iconst (v := 0) hx hb dX1_isEmpty_11 (by decide) ?_
    exact rt_z hx hb hr hlk hK hS (() : Unit) (ret2 h) (by decide) hP hD dX1_isEmpty_12
  · replace h := iteT c1 h
    refine lv_iconst (v := 1) hx hb dX1_isEmpty_7 (by decide) ?_
    refine lv_goto (tgt := 12) hx hb dX1_isEmpty_8 (by decide) ?_
    exact rt_z hx hb hr hlk hK hS (() : Unit) (ret2 h) (by decide) hP hD dX1_isEmpty_12

def f_X1_forgetAll (g_this : TH) : Option (Unit × (TH)) :=
  (some ((), (H_mk (0 : Int32) (H_next g_this) (H_w g_this))))
set_option maxHeartbeats 8000000 in
set_option maxRecDepth 100000 in
theorem c_X1_forgetAll (l : Launch) (hlt : l.stackTraces = false) (D : va_G) (dT : Nat → ClassId) (a_this : Nat → Nat) (g_this : TH) (o : (Unit × (TH))) (h : f_X1_forgetAll g_this = some o) (sz : Nat) : Met l yX1_forgetAll (WSm yX1_forgetAll cX1_forgetAll 1 none) { frames := 0, cells := 0, slots := 0, locals := 0 } (va_Pc [.ref (a_this 0)] (cPre D dT (cH dT a_this g_this) sz)) (va_Qv (fun (u : TH) => u = o.2) (fun u t => cAt D dT (va_A (cH dT a_this g_this) sz) (cH dT a_this u) t) (va_A (cH dT a_this g_this) sz)) 0 0 (va_A (cH dT a_this g_this) sz) := by
  refine mStart (WS := (cH dT a_this g_this)) (Qc := fun A => va_Qv (fun (u : TH) => u = o.2) (fun u t => cAt D dT A (cH dT a_this u) t) A) RX1 rfl (by decide) (Nat.le_of_ble_eq_true rfl) ?_ sz
  intro p e s m below meth c A ls hx hb hml hr hlk hnm hts hqs hown hE hA hK hP hD hS hl
  have hl : lv_has ls 1 [(0, .ref (a_this 0))] := hl
  unfold f_X1_forgetAll at h
  refine lv_aload_n hx hb dX1_forgetAll_0 rfl (lv_at hl 0 rfl) ?_
  refine lv_iconst (v := 0) hx hb dX1_forgetAll_1 (by decide) ?_
  refine pf_X1_18 hx hb hqs hown hK hP hD hS 0 rfl rfl dX1_forgetAll_2 (fun H locs hP hD hS => ?_)
  have hP : va_P D vwCl (cH dT a_this (H_mk (0 : Int32) (H_next g_this) (H_w g_this))) H := hP
  have hD : va_D A (cH dT a_this (H_mk (0 : Int32) (H_next g_this) (H_w g_this))) := hD
  exact rt_v hx hb hr hlk hK hS ((H_mk (0 : Int32) (H_next g_this) (H_w g_this)) : TH) (retv h) hP hD dX1_forgetAll_5

def f_X1_stateAt (g_this : TH) (v1 : Int32) : Option (Unit × (Unit)) :=
  ((f_X8_isIn v1 (0 : Int32) (13 : Int32)).bind fun o1 => (if o1.1 = (0 : Int32) then none else (if inb v1 14 = true then (some ((), ())) else none)))
set_option maxHeartbeats 8000000 in
set_option maxRecDepth 100000 in
theorem c_X1_stateAt (l : Launch) (hlt : l.stackTraces = false) (D : va_G) (dT : Nat → ClassId) (a_this : Nat → Nat) (g_this : TH) (v1 : Int32) (o : (Unit × (Unit))) (h : f_X1_stateAt g_this v1 = some o) (sz : Nat) : Met l yX1_stateAt (WSm yX1_stateAt cX1_stateAt 2 (some (.object "SurprisedPlans$World"))) { frames := 1, cells := 0, slots := 0, locals := 22 } (va_Pc [.ref (a_this 0), .int v1] (cPre D dT (cH dT a_this g_this) sz)) (va_Qr (fun (u : Unit) => u = o.2) (fun u q t => q = ((wadr a_this 2 v1.toNatClampNeg) 0) ∧ cAt D dT (va_A (cH dT a_this g_this) sz) (cH dT a_this g_this) t) (va_A (cH dT a_this g_this) sz)) 0 0 (va_A (cH dT a_this g_this) sz) := by
  refine mStart (WS := (cH dT a_this g_this)) (Qc := fun A => va_Qr (fun (u : Unit) => u = o.2) (fun u q t => q = ((wadr a_this 2 v1.toNatClampNeg) 0) ∧ cAt D dT A (cH dT a_this g_this) t) A) RX1 rfl (by decide) (Nat.le_of_ble_eq_true rfl) ?_ sz
  intro p e s m below meth c A ls hx hb hml hr hlk hnm hts hqs hown hE hA hK hP hD hS hl
  have hl : lv_has ls 2 [(0, .ref (a_this 0)), (1, .int v1)] := hl
  unfold f_X1_stateAt at h
  refine lv_iload_n hx hb dX1_stateAt_0 rfl (lv_at hl 1 rfl) ?_
  refine lv_iconst (v := 0) hx hb dX1_stateAt_1 (by decide) ?_
  refine lv_bipush (v := 13) hx hb dX1_stateAt_2 (by decide) ?_
  obtain ⟨o1, e1, h⟩ := obind h
  have hPq : va_P D vwCl (([] : va_W) ++ (cH dT a_this g_this)) _ := hP.perm (wj_split [cH dT a_this g_this] [] [0] rfl)
  have hDq : va_D A (([] : va_W) ++ (cH dT a_this g_this)) := hD.perm (wj_split [cH dT a_this g_this] [] [0] rfl)
  have hPc := hPq.left
  have hDc := hDq.left
  have hFc := va_freeL hDq hS hA
  refine cl_iL (wr := (cH dT a_this g_this)) (va_runSN (As := [.int v1, .int (0 : Int32), .int (13 : Int32)]) (rest := []) ⟨hx, hb, hml, hown, hts⟩ (c_X8_isIn l hlt D dT v1 (0 : Int32) (13 : Int32) o1 e1 _) ⟨va_cnB 3 hts (TB_in (WSm_in w_292)) rfl rfl rfl (hE.1 (RX1, 39, yX8_isIn, RX8) (List.mem_of_getElem? (i := 15) rfl)) (hqs _ w_33) nd_X8_isIn ⟨Nat.le_of_ble_eq_true rfl, Nat.le_of_ble_eq_true rfl⟩, hqs _ w_291, trivial⟩ (cPre.S hPc hDc hK hE hS hFc) rfl rfl hl.1 rfl (lv_room (Nat.le_of_ble_eq_true rfl)) dX1_stateAt_4 ⟨Nat.zero_le _, Nat.zero_le _⟩) hPq hDq hS hFc (fun r1 u1 H locs hw hP hD hS => ?_)
  obtain ⟨rfl, rfl⟩ := hw
  have hP : va_P D vwCl (cH dT a_this g_this) H := hP.perm (wj_back [] [cH dT a_this g_this] [0] rfl)
  have hD : va_D A (cH dT a_this g_this) := hD.perm (wj_back [] [cH dT a_this g_this] [0] rfl)
  refine lv_if_eq (tgt := 19) hx hb dX1_stateAt_7 (by decide) (fun c2 => ?_) (fun c2 => ?_)
  · replace h := iteT c2 h
    exact nomatch h
  · replace h := iteF c2 h
    refine lv_aload_n hx hb dX1_stateAt_10 rfl (lv_at hl 0 rfl) ?_
    refine gf_X1_11 (v := .ref (a_this 1)) hx hb hqs hown hK hP 0 rfl rfl dX1_stateAt_11 ?_
    refine lv_iload_n hx hb dX1_stateAt_14 rfl (lv_at hl 1 rfl) ?_
    obtain ⟨g3, h⟩ := chk h
    refine va_aldq hx hb hK hP 1 4 rfl rfl (inb_in g3) dX1_stateAt_15 ?_
    refine W.eq (g2 := F0 m 16 ls [.ref ((wadr a_this 2 v1.toNatClampNeg) 0)]) rfl ?_
    refine lv_goto (tgt := 20) hx hb dX1_stateAt_16 (by decide) ?_
    exact rt_a hx hb hr hlk hK hS (() : Unit) (retv h) hP hD dX1_stateAt_20

def f_X1_remember (g_this : TH) (g_p1 : TW) : Option (Unit × (TH)) :=
  (if inb (H_next g_this) 14 = true then ((f_X1_stateAt g_this (H_next g_this)).bind fun o2 => ((f_X7_takeFrom (H_w g_this (H_next g_this).toNatClampNeg) g_p1).bind fun o3 => (some ((), (H_mk (if (14 : Int32) < ((H_count g_this) + (1 : Int32)) then (14 : Int32) else ((H_count g_this) + (1 : Int32))) (((H_next g_this) + (1 : Int32)) - ((H_next g_this) + (1 : Int32)) / (14 : Int32) * (14 : Int32)) (updW (H_w g_this) (H_next g_this).toNatClampNeg o3.2)))))) else none)
set_option maxHeartbeats 8000000 in
set_option maxRecDepth 100000 in
theorem c_X1_remember (l : Launch) (hlt : l.stackTraces = false) (D : va_G) (dT : Nat → ClassId) (a_this : Nat → Nat) (a_p1 : Nat → Nat) (g_this : TH) (g_p1 : TW) (o : (Unit × (TH))) (h : f_X1_remember g_this g_p1 = some o) (sz : Nat) : Met l yX1_remember (WSm yX1_remember cX1_remember 3 none) { frames := 2, cells := 0, slots := 0, locals := 69 } (va_Pc [.ref (a_this 0), .ref (a_p1 0)] (cPre D dT (cH dT a_this g_this ++ (cW dT a_p1 g_p1)) sz)) (va_Qv (fun (u : TH) => u = o.2) (fun u t => cAt D dT (va_A (cH dT a_this g_this ++ (cW dT a_p1 g_p1)) sz) (cH dT a_this u ++ (cW dT a_p1 g_p1)) t) (va_A (cH dT a_this g_this ++ (cW dT a_p1 g_p1)) sz)) 0 0 (va_A (cH dT a_this g_this ++ (cW dT a_p1 g_p1)) sz) := by
  refine mStart (WS := (cH dT a_this g_this ++ (cW dT a_p1 g_p1))) (Qc := fun A => va_Qv (fun (u : TH) => u = o.2) (fun u t => cAt D dT A (cH dT a_this u ++ (cW dT a_p1 g_p1)) t) A) RX1 rfl (by decide) (Nat.le_of_ble_eq_true rfl) ?_ sz
  intro p e s m below meth c A ls hx hb hml hr hlk hnm hts hqs hown hE hA hK hP hD hS hl
  have hl : lv_has ls 3 [(0, .ref (a_this 0)), (1, .ref (a_p1 0))] := hl
  unfold f_X1_remember at h
  refine lv_aload_n hx hb dX1_remember_0 rfl (lv_at hl 0 rfl) ?_
  refine lv_aload_n hx hb dX1_remember_1 rfl (lv_at hl 0 rfl) ?_
  refine gf_X1_22 (v := .int (H_next g_this)) hx hb hqs hown hK hP 0 rfl rfl dX1_remember_2 ?_
  obtain ⟨g1, h⟩ := chk h
  obtain ⟨o2, e2, h⟩ := obind h
  have hPq : va_P D vwCl ((cH dT a_this g_this) ++ (cW dT a_p1 g_p1)) _ := hP.perm (wj_split [cH dT a_this g_this, cW dT a_p1 g_p1] [0] [1] rfl)
  have hDq : va_D A ((cH dT a_this g_this) ++ (cW dT a_p1 g_p1)) := hD.perm (wj_split [cH dT a_this g_this, cW dT a_p1 g_p1] [0] [1] rfl)
  have hPc := hPq.left
  have hDc := hDq.left
  have hFc := va_freeL hDq hS hA
  refine cl_aL (wr := (cW dT a_p1 g_p1)) (va_runV (As := [.int (H_next g_this)]) (rest := []) ⟨hx, hb, hml, hown, hts⟩ (c_X1_stateAt l hlt D dT a_this g_this (H_next g_this) o2 e2 _) (cwV 1 hts (TB_V w_828 w_830 w_30 w_39 w_831) rfl rfl rfl ⟨rfl, nd_X1_stateAt⟩ ⟨Nat.le_of_ble_eq_true rfl, Nat.le_of_ble_eq_true rfl⟩) (cPre.V hPc hDc hK hE hS hFc (va_recv hK hPc (ci := 1) (q0 := 0) rfl rfl)) rfl rfl hl.1 rfl (lv_room (Nat.le_of_ble_eq_true rfl)) dX1_remember_5 ⟨Nat.zero_le _, Nat.zero_le _⟩) hPq hDq hS hFc (fun u2 H locs hw hP hD hS => ?_)
  subst hw
  have hP : va_P D vwCl (cH dT a_this g_this ++ (cW dT a_p1 g_p1)) H := hP.perm (wj_back [cH dT a_this g_this] [cW dT a_p1 g_p1] [0, 1] rfl)
  have hD : va_D A (cH dT a_this g_this ++ (cW dT a_p1 g_p1)) := hD.perm (wj_back [cH dT a_this g_this] [cW dT a_p1 g_p1] [0, 1] rfl)
  refine lv_astore_n (lv' := [(2, .ref ((wadr a_this 2 (H_next g_this).toNatClampNeg) 0)), (0, .ref (a_this 0)), (1, .ref (a_p1 0))]) hx hb dX1_remember_8 rfl hl (by decide) rfl (fun ls hl => ?_)
  refine lv_aload_n hx hb dX1_remember_9 rfl (lv_at hl 0 rfl) ?_
  refine lv_ifnull hx hb dX1_remember_10 ?_
  refine lv_aload_n hx hb dX1_remember_13 rfl (lv_at hl 0 rfl) ?_
  refine lv_aload_n hx hb dX1_remember_14 rfl (lv_at hl 2 rfl) ?_
  obtain ⟨o3, e3, h⟩ := obind h
  have hPq : va_P D vwCl ((cW dT (wadr a_this 2 (H_next g_this).toNatClampNeg) (H_w g_this (H_next g_this).toNatClampNeg) ++ cW dT a_p1 g_p1) ++ cHr dT a_this g_this (H_next g_this).toNatClampNeg) _ := hP.perm (pm_1 (cH_open (inb_lt g1)))
  have hDq : va_D A ((cW dT (wadr a_this 2 (H_next g_this).toNatClampNeg) (H_w g_this (H_next g_this).toNatClampNeg) ++ cW dT a_p1 g_p1) ++ cHr dT a_this g_this (H_next g_this).toNatClampNeg) := hD.perm (pm_1 (cH_open (inb_lt g1)))
  have hPc := hPq.left
  have hDc := hDq.left
  have hFc := va_freeL hDq hS hA
  refine cl_vL (wr := cHr dT a_this g_this (H_next g_this).toNatClampNeg) (va_runV (As := [.ref (a_p1 0)]) (rest := []) ⟨hx, hb, hml, hown, hts⟩ (c_X7_takeFrom l hlt D dT (wadr a_this 2 (H_next g_this).toNatClampNeg) a_p1 (H_w g_this (H_next g_this).toNatClampNeg) g_p1 o3 e3 _) (cwV 1 hts (TB_V w_833 w_364 w_365 w_38 w_366) rfl rfl rfl ⟨rfl, nd_X7_takeFrom⟩ ⟨Nat.le_of_ble_eq_true rfl, Nat.le_of_ble_eq_true rfl⟩) (cPre.V hPc hDc hK hE hS hFc (va_recv hK hPc (ci := 6) (q0 := 0) rfl rfl)) rfl rfl hl.1 rfl (lv_room (Nat.le_of_ble_eq_true rfl)) dX1_remember_15 ⟨Nat.zero_le _, Nat.zero_le _⟩) hPq hDq hS hFc (fun u3 H locs hw hP hD hS => ?_)
  subst hw
  have hP : va_P D vwCl (cH dT a_this (H_mk (H_count g_this) (H_next g_this) (updW (H_w g_this) (H_next g_this).toNatClampNeg o3.2)) ++ cW dT a_p1 g_p1) H := hP.perm (pm_1 (cH_perm (inb_lt g1) o3.2)).symm
  have hD : va_D A (cH dT a_this (H_mk (H_count g_this) (H_next g_this) (updW (H_w g_this) (H_next g_this).toNatClampNeg o3.2)) ++ cW dT a_p1 g_p1) := hD.perm (pm_1 (cH_perm (inb_lt g1) o3.2)).symm
  have hP : va_P D vwCl (cH dT a_this (H_mk (H_count g_this) (H_next g_this) (updW (H_w g_this) (H_next g_this).toNatClampNeg o3.2)) ++ (cW dT a_p1 g_p1)) H := hP
  have hD : va_D A (cH dT a_this (H_mk (H_count g_this) (H_next g_this) (updW (H_w g_this) (H_next g_this).toNatClampNeg o3.2)) ++ (cW dT a_p1 g_p1)) := hD
  refine lv_aload_n hx hb dX1_remember_18 rfl (lv_at hl 1 rfl) ?_
  refine lv_aload_n hx hb dX1_remember_19 rfl (lv_at hl 1 rfl) ?_
  refine gf_X1_22 (v := .int (H_next g_this)) hx hb hqs hown hK hP 0 rfl rfl dX1_remember_20 ?_
  refine lv_iconst (v := 1) hx hb dX1_remember_23 (by decide) ?_
  refine lv_iadd hx hb dX1_remember_24 ?_
  refine lv_bipush (v := 14) hx hb dX1_remember_25 (by decide) ?_
  refine lv_irem hx hb dX1_remember_27 (by decide) ?_
  refine pf_X1_22 hx hb hqs hown hK hP hD hS 0 rfl rfl dX1_remember_28 (fun H locs hP hD hS => ?_)
  have hP : va_P D vwCl (cH dT a_this (H_mk (H_count g_this) (((H_next g_this) + (1 : Int32)) - ((H_next g_this) + (1 : Int32)) / (14 : Int32) * (14 : Int32)) (updW (H_w g_this) (H_next g_this).toNatClampNeg o3.2)) ++ (cW dT a_p1 g_p1)) H := hP
  have hD : va_D A (cH dT a_this (H_mk (H_count g_this) (((H_next g_this) + (1 : Int32)) - ((H_next g_this) + (1 : Int32)) / (14 : Int32) * (14 : Int32)) (updW (H_w g_this) (H_next g_this).toNatClampNeg o3.2)) ++ (cW dT a_p1 g_p1)) := hD
  refine lv_aload_n hx hb dX1_remember_31 rfl (lv_at hl 1 rfl) ?_
  refine lv_aload_n hx hb dX1_remember_32 rfl (lv_at hl 1 rfl) ?_
  refine gf_X1_18 (v := .int (H_count g_this)) hx hb hqs hown hK hP 0 rfl rfl dX1_remember_33 ?_
  refine lv_iconst (v := 1) hx hb dX1_remember_36 (by decide) ?_
  refine lv_iadd hx hb dX1_remember_37 ?_
  refine lv_bipush (v := 14) hx hb dX1_remember_38 (by decide) ?_
  refine va_mmin hx hb (hml.trans hl.1.symm) hown (hqs _ w_834) (hqs _ w_476) (hqs _ w_48) (hqs _ w_477) (Nat.le_of_ble_eq_true rfl) (Nat.le_of_ble_eq_true rfl) (Nat.le_of_ble_eq_true rfl) (Nat.le_of_ble_eq_true rfl) dX1_remember_40 ?_
  refine pf_X1_18 hx hb hqs hown hK hP hD hS 0 rfl rfl dX1_remember_43 (fun H locs hP hD hS => ?_)
  have hP : va_P D vwCl (cH dT a_this (H_mk (if (14 : Int32) < ((H_count g_this) + (1 : Int32)) then (14 : Int32) else ((H_count g_this) + (1 : Int32))) (((H_next g_this) + (1 : Int32)) - ((H_next g_this) + (1 : Int32)) / (14 : Int32) * (14 : Int32)) (updW (H_w g_this) (H_next g_this).toNatClampNeg o3.2)) ++ (cW dT a_p1 g_p1)) H := hP
  have hD : va_D A (cH dT a_this (H_mk (if (14 : Int32) < ((H_count g_this) + (1 : Int32)) then (14 : Int32) else ((H_count g_this) + (1 : Int32))) (((H_next g_this) + (1 : Int32)) - ((H_next g_this) + (1 : Int32)) / (14 : Int32) * (14 : Int32)) (updW (H_w g_this) (H_next g_this).toNatClampNeg o3.2)) ++ (cW dT a_p1 g_p1)) := hD
  exact rt_v hx hb hr hlk hK hS ((H_mk (if (14 : Int32) < ((H_count g_this) + (1 : Int32)) then (14 : Int32) else ((H_count g_this) + (1 : Int32))) (((H_next g_this) + (1 : Int32)) - ((H_next g_this) + (1 : Int32)) / (14 : Int32) * (14 : Int32)) (updW (H_w g_this) (H_next g_this).toNatClampNeg o3.2)) : TH) (retv h) hP hD dX1_remember_46

def f_X1_takeBack (g_this : TH) (g_p1 : TW) : Option (Int32 × (TH × TW)) :=
  (if inb ((((H_next g_this) + (14 : Int32)) - (1 : Int32)) - (((H_next g_this) + (14 : Int32)) - (1 : Int32)) / (14 : Int32) * (14 : Int32)) 14 = true then ((f_X1_stateAt g_this ((((H_next g_this) + (14 : Int32)) - (1 : Int32)) - (((H_next g_this) + (14 : Int32)) - (1 : Int32)) / (14 : Int32) * (14 : Int32))).bind fun o2 => (if (H_count g_this) ≤ (0 : Int32) then (some ((H_count g_this), (g_this, g_p1))) else ((f_X7_takeFrom g_p1 (H_w g_this ((((H_next g_this) + (14 : Int32)) - (1 : Int32)) - (((H_next g_this) + (14 : Int32)) - (1 : Int32)) / (14 : Int32) * (14 : Int32)).toNatClampNeg)).bind fun o4 => (some (((H_count g_this) - (1 : Int32)), ((H_mk ((H_count g_this) - (1 : Int32)) ((((H_next g_this) + (14 : Int32)) - (1 : Int32)) - (((H_next g_this) + (14 : Int32)) - (1 : Int32)) / (14 : Int32) * (14 : Int32)) (H_w g_this)), o4.2)))))) else none)
set_option maxHeartbeats 8000000 in
set_option maxRecDepth 100000 in
theorem c_X1_takeBack (l : Launch) (hlt : l.stackTraces = false) (D : va_G) (dT : Nat → ClassId) (a_this : Nat → Nat) (a_p1 : Nat → Nat) (g_this : TH) (g_p1 : TW) (o : (Int32 × (TH × TW))) (h : f_X1_takeBack g_this g_p1 = some o) (sz : Nat) : Met l yX1_takeBack (WSm yX1_takeBack cX1_takeBack 4 (some .int)) { frames := 2, cells := 0, slots := 0, locals := 69 } (va_Pc [.ref (a_this 0), .ref (a_p1 0)] (cPre D dT (cH dT a_this g_this ++ (cW dT a_p1 g_p1)) sz)) (va_Qi (fun (r : Int32) (u : TH × TW) => r = o.1 ∧ u = o.2) (fun u t => cAt D dT (va_A (cH dT a_this g_this ++ (cW dT a_p1 g_p1)) sz) (cH dT a_this (u.1) ++ (cW dT a_p1 (u.2))) t) (va_A (cH dT a_this g_this ++ (cW dT a_p1 g_p1)) sz)) 0 0 (va_A (cH dT a_this g_this ++ (cW dT a_p1 g_p1)) sz) := by
  refine mStart (WS := (cH dT a_this g_this ++ (cW dT a_p1 g_p1))) (Qc := fun A => va_Qi (fun (r : Int32) (u : TH × TW) => r = o.1 ∧ u = o.2) (fun u t => cAt D dT A (cH dT a_this (u.1) ++ (cW dT a_p1 (u.2))) t) A) RX1 rfl (by decide) (Nat.le_of_ble_eq_true rfl) ?_ sz
  intro p e s m below meth c A ls hx hb hml hr hlk hnm hts hqs hown hE hA hK hP hD hS hl
  have hl : lv_has ls 4 [(0, .ref (a_this 0)), (1, .ref (a_p1 0))] := hl
  unfold f_X1_takeBack at h
  refine lv_aload_n hx hb dX1_takeBack_0 rfl (lv_at hl 0 rfl) ?_
  refine gf_X1_22 (v := .int (H_next g_this)) hx hb hqs hown hK hP 0 rfl rfl dX1_takeBack_1 ?_
  refine lv_bipush (v := 14) hx hb dX1_takeBack_4 (by decide) ?_
  refine lv_iadd hx hb dX1_takeBack_6 ?_
  refine lv_iconst (v := 1) hx hb dX1_takeBack_7 (by decide) ?_
  refine lv_isub hx hb dX1_takeBack_8 ?_
  refine lv_bipush (v := 14) hx hb dX1_takeBack_9 (by decide) ?_
  refine lv_irem hx hb dX1_takeBack_11 (by decide) ?_
  refine lv_istore_n (lv' := [(2, .int ((((H_next g_this) + (14 : Int32)) - (1 : Int32)) - (((H_next g_this) + (14 : Int32)) - (1 : Int32)) / (14 : Int32) * (14 : Int32))), (0, .ref (a_this 0)), (1, .ref (a_p1 0))]) hx hb dX1_takeBack_12 rfl hl (by decide) rfl (fun ls hl => ?_)
  refine lv_aload_n hx hb dX1_takeBack_13 rfl (lv_at hl 1 rfl) ?_
  refine lv_iload_n hx hb dX1_takeBack_14 rfl (lv_at hl 0 rfl) ?_
  obtain ⟨g1, h⟩ := chk h
  obtain ⟨o2, e2, h⟩ := obind h
  have hPq : va_P D vwCl ((cH dT a_this g_this) ++ (cW dT a_p1 g_p1)) _ := hP.perm (wj_split [cH dT a_this g_this, cW dT a_p1 g_p1] [0] [1] rfl)
  have hDq : va_D A ((cH dT a_this g_this) ++ (cW dT a_p1 g_p1)) := hD.perm (wj_split [cH dT a_this g_this, cW dT a_p1 g_p1] [0] [1] rfl)
  have hPc := hPq.left
  have hDc := hDq.left
  have hFc := va_freeL hDq hS hA
  refine cl_aL (wr := (cW dT a_p1 g_p1)) (va_runV (As := [.int ((((H_next g_this) + (14 : Int32)) - (1 : Int32)) - (((H_next g_this) + (14 : Int32)) - (1 : Int32)) / (14 : Int32) * (14 : Int32))]) (rest := []) ⟨hx, hb, hml, hown, hts⟩ (c_X1_stateAt l hlt D dT a_this g_this ((((H_next g_this) + (14 : Int32)) - (1 : Int32)) - (((H_next g_this) + (14 : Int32)) - (1 : Int32)) / (14 : Int32) * (14 : Int32)) o2 e2 _) (cwV 1 hts (TB_V w_828 w_830 w_30 w_39 w_831) rfl rfl rfl ⟨rfl, nd_X1_stateAt⟩ ⟨Nat.le_of_ble_eq_true rfl, Nat.le_of_ble_eq_true rfl⟩) (cPre.V hPc hDc hK hE hS hFc (va_recv hK hPc (ci := 1) (q0 := 0) rfl rfl)) rfl rfl hl.1 rfl (lv_room (Nat.le_of_ble_eq_true rfl)) dX1_takeBack_15 ⟨Nat.zero_le _, Nat.zero_le _⟩) hPq hDq hS hFc (fun u2 H locs hw hP hD hS => ?_)
  subst hw
  have hP : va_P D vwCl (cH dT a_this g_this ++ (cW dT a_p1 g_p1)) H := hP.perm (wj_back [cH dT a_this g_this] [cW dT a_p1 g_p1] [0, 1] rfl)
  have hD : va_D A (cH dT a_this g_this ++ (cW dT a_p1 g_p1)) := hD.perm (wj_back [cH dT a_this g_this] [cW dT a_p1 g_p1] [0, 1] rfl)
  refine lv_astore_n (lv' := [(3, .ref ((wadr a_this 2 ((((H_next g_this) + (14 : Int32)) - (1 : Int32)) - (((H_next g_this) + (14 : Int32)) - (1 : Int32)) / (14 : Int32) * (14 : Int32)).toNatClampNeg) 0)), (2, .int ((((H_next g_this) + (14 : Int32)) - (1 : Int32)) - (((H_next g_this) + (14 : Int32)) - (1 : Int32)) / (14 : Int32) * (14 : Int32))), (0, .ref (a_this 0)), (1, .ref (a_p1 0))]) hx hb dX1_takeBack_18 rfl hl (by decide) rfl (fun ls hl => ?_)
  refine lv_aload_n hx hb dX1_takeBack_19 rfl (lv_at hl 0 rfl) ?_
  refine lv_ifnull hx hb dX1_takeBack_20 ?_
  refine lv_aload_n hx hb dX1_takeBack_23 rfl (lv_at hl 2 rfl) ?_
  refine gf_X1_18 (v := .int (H_count g_this)) hx hb hqs hown hK hP 0 rfl rfl dX1_takeBack_24 ?_
  refine lv_if_le (tgt := 50) hx hb dX1_takeBack_27 (by decide) (fun c3 => ?_) (fun c3 => ?_)
  · replace h := iteT c3 h
    refine lv_aload_n hx hb dX1_takeBack_50 rfl (lv_at hl 2 rfl) ?_
    refine gf_X1_18 (v := .int (H_count g_this)) hx hb hqs hown hK hP 0 rfl rfl dX1_takeBack_51 ?_
    exact rt_i hx hb hr hlk hK hS ((g_this, g_p1) : TH × TW) (ret2 h) hP hD dX1_takeBack_54
  · replace h := iteF c3 h
    refine lv_aload_n hx hb dX1_takeBack_30 rfl (lv_at hl 3 rfl) ?_
    refine lv_aload_n hx hb dX1_takeBack_31 rfl (lv_at hl 0 rfl) ?_
    obtain ⟨o4, e4, h⟩ := obind h
    have hPq : va_P D vwCl ((cW dT a_p1 g_p1 ++ cW dT (wadr a_this 2 ((((H_next g_this) + (14 : Int32)) - (1 : Int32)) - (((H_next g_this) + (14 : Int32)) - (1 : Int32)) / (14 : Int32) * (14 : Int32)).toNatClampNeg) (H_w g_this ((((H_next g_this) + (14 : Int32)) - (1 : Int32)) - (((H_next g_this) + (14 : Int32)) - (1 : Int32)) / (14 : Int32) * (14 : Int32)).toNatClampNeg)) ++ cHr dT a_this g_this ((((H_next g_this) + (14 : Int32)) - (1 : Int32)) - (((H_next g_this) + (14 : Int32)) - (1 : Int32)) / (14 : Int32) * (14 : Int32)).toNatClampNeg) _ := hP.perm (pm_2 (cH_open (inb_lt g1)))
    have hDq : va_D A ((cW dT a_p1 g_p1 ++ cW dT (wadr a_this 2 ((((H_next g_this) + (14 : Int32)) - (1 : Int32)) - (((H_next g_this) + (14 : Int32)) - (1 : Int32)) / (14 : Int32) * (14 : Int32)).toNatClampNeg) (H_w g_this ((((H_next g_this) + (14 : Int32)) - (1 : Int32)) - (((H_next g_this) + (14 : Int32)) - (1 : Int32)) / (14 : Int32) * (14 : Int32)).toNatClampNeg)) ++ cHr dT a_this g_this ((((H_next g_this) + (14 : Int32)) - (1 : Int32)) - (((H_next g_this) + (14 : Int32)) - (1 : Int32)) / (14 : Int32) * (14 : Int32)).toNatClampNeg) := hD.perm (pm_2 (cH_open (inb_lt g1)))
    have hPc := hPq.left
    have hDc := hDq.left
    have hFc := va_freeL hDq hS hA
    refine cl_vL (wr := cHr dT a_this g_this ((((H_next g_this) + (14 : Int32)) - (1 : Int32)) - (((H_next g_this) + (14 : Int32)) - (1 : Int32)) / (14 : Int32) * (14 : Int32)).toNatClampNeg) (va_runV (As := [.ref ((wadr a_this 2 ((((H_next g_this) + (14 : Int32)) - (1 : Int32)) - (((H_next g_this) + (14 : Int32)) - (1 : Int32)) / (14 : Int32) * (14 : Int32)).toNatClampNeg) 0)]) (rest := []) ⟨hx, hb, hml, hown, hts⟩ (c_X7_takeFrom l hlt D dT a_p1 (wadr a_this 2 ((((H_next g_this) + (14 : Int32)) - (1 : Int32)) - (((H_next g_this) + (14 : Int32)) - (1 : Int32)) / (14 : Int32) * (14 : Int32)).toNatClampNeg) g_p1 (H_w g_this ((((H_next g_this) + (14 : Int32)) - (1 : Int32)) - (((H_next g_this) + (14 : Int32)) - (1 : Int32)) / (14 : Int32) * (14 : Int32)).toNatClampNeg) o4 e4 _) (cwV 1 hts (TB_V w_833 w_364 w_365 w_38 w_366) rfl rfl rfl ⟨rfl, nd_X7_takeFrom⟩ ⟨Nat.le_of_ble_eq_true rfl, Nat.le_of_ble_eq_true rfl⟩) (cPre.V hPc hDc hK hE hS hFc (va_recv hK hPc (ci := 6) (q0 := 0) rfl rfl)) rfl rfl hl.1 rfl (lv_room (Nat.le_of_ble_eq_true rfl)) dX1_takeBack_32 ⟨Nat.zero_le _, Nat.zero_le _⟩) hPq hDq hS hFc (fun u4 H locs hw hP hD hS => ?_)
    subst hw
    have hP : va_P D vwCl (cH dT a_this g_this ++ cW dT a_p1 o4.2) H := hP.perm (pm_2 (cH_open (inb_lt g1))).symm
    have hD : va_D A (cH dT a_this g_this ++ cW dT a_p1 o4.2) := hD.perm (pm_2 (cH_open (inb_lt g1))).symm
    have hP : va_P D vwCl (cH dT a_this g_this ++ (cW dT a_p1 o4.2)) H := hP
    have hD : va_D A (cH dT a_this g_this ++ (cW dT a_p1 o4.2)) := hD
    refine lv_aload_n hx hb dX1_takeBack_35 rfl (lv_at hl 2 rfl) ?_
    refine lv_iload_n hx hb dX1_takeBack_36 rfl (lv_at hl 1 rfl) ?_
    refine pf_X1_22 hx hb hqs hown hK hP hD hS 0 rfl rfl dX1_takeBack_37 (fun H locs hP hD hS => ?_)
    have hP : va_P D vwCl (cH dT a_this (H_mk (H_count g_this) ((((H_next g_this) + (14 : Int32)) - (1 : Int32)) - (((H_next g_this) + (14 : Int32)) - (1 : Int32)) / (14 : Int32) * (14 : Int32)) (H_w g_this)) ++ (cW dT a_p1 o4.2)) H := hP
    have hD : va_D A (cH dT a_this (H_mk (H_count g_this) ((((H_next g_this) + (14 : Int32)) - (1 : Int32)) - (((H_next g_this) + (14 : Int32)) - (1 : Int32)) / (14 : Int32) * (14 : Int32)) (H_w g_this)) ++ (cW dT a_p1 o4.2)) := hD
    refine lv_aload_n hx hb dX1_takeBack_40 rfl (lv_at hl 2 rfl) ?_
    refine lv_dup hx hb dX1_takeBack_41 rfl ?_
    refine gf_X1_18 (v := .int (H_count g_this)) hx hb hqs hown hK hP 0 rfl rfl dX1_takeBack_42 ?_
    refine lv_iconst (v := 1) hx hb dX1_takeBack_45 (by decide) ?_
    refine lv_isub hx hb dX1_takeBack_46 ?_
    refine pf_X1_18 hx hb hqs hown hK hP hD hS 0 rfl rfl dX1_takeBack_47 (fun H locs hP hD hS => ?_)
    have hP : va_P D vwCl (cH dT a_this (H_mk ((H_count g_this) - (1 : Int32)) ((((H_next g_this) + (14 : Int32)) - (1 : Int32)) - (((H_next g_this) + (14 : Int32)) - (1 : Int32)) / (14 : Int32) * (14 : Int32)) (H_w g_this)) ++ (cW dT a_p1 o4.2)) H := hP
    have hD : va_D A (cH dT a_this (H_mk ((H_count g_this) - (1 : Int32)) ((((H_next g_this) + (14 : Int32)) - (1 : Int32)) - (((H_next g_this) + (14 : Int32)) - (1 : Int32)) / (14 : Int32) * (14 : Int32)) (H_w g_this)) ++ (cW dT a_p1 o4.2)) := hD
    refine lv_aload_n hx hb dX1_takeBack_50 rfl (lv_at hl 2 rfl) ?_
    refine gf_X1_18 (v := .int ((H_count g_this) - (1 : Int32))) hx hb hqs hown hK hP 0 rfl rfl dX1_takeBack_51 ?_
    exact rt_i hx hb hr hlk hK hS (((H_mk ((H_count g_this) - (1 : Int32)) ((((H_next g_this) + (14 : Int32)) - (1 : Int32)) - (((H_next g_this) + (14 : Int32)) - (1 : Int32)) / (14 : Int32) * (14 : Int32)) (H_w g_this)), o4.2) : TH × TW) (ret2 h) hP hD dX1_takeBack_54

def f_X5_emptyAll_L2   : Nat → Int32 → TS → Option (Unit × (TS))
  | 0, _, _ => none
  | n + 1, x1, g_this =>
    (if (2 : Int32) ≤ x1 then (some ((), g_this)) else (if inb x1 2 = true then (f_X5_emptyAll_L2 n (x1 + (1 : Int32)) (S_mk (upd (S_filled g_this) x1.toNatClampNeg (vp_nar .boolean (0 : Int32))) (S_w g_this))) else none))
def f_X5_emptyAll (g_this : TS) : Option (Unit × (TS)) :=
  (f_X5_emptyAll_L2 FUEL (0 : Int32) g_this)
set_option maxHeartbeats 8000000 in
set_option maxRecDepth 100000 in
theorem c_X5_emptyAll (l : Launch) (hlt : l.stackTraces = false) (D : va_G) (dT : Nat → ClassId) (a_this : Nat → Nat) (g_this : TS) (o : (Unit × (TS))) (h : f_X5_emptyAll g_this = some o) (sz : Nat) : Met l yX5_emptyAll (WSm yX5_emptyAll cX5_emptyAll 2 none) { frames := 0, cells := 0, slots := 0, locals := 0 } (va_Pc [.ref (a_this 0)] (cPre D dT (cS dT a_this g_this) sz)) (va_Qv (fun (u : TS) => u = o.2) (fun u t => cAt D dT (va_A (cS dT a_this g_this) sz) (cS dT a_this u) t) (va_A (cS dT a_this g_this) sz)) 0 0 (va_A (cS dT a_this g_this) sz) := by
  refine mStart (WS := (cS dT a_this g_this)) (Qc := fun A => va_Qv (fun (u : TS) => u = o.2) (fun u t => cAt D dT A (cS dT a_this u) t) A) RX5 rfl (by decide) (Nat.le_of_ble_eq_true rfl) ?_ sz
  intro p e s m below meth c A ls hx hb hml hr hlk hnm hts hqs hown hE hA hK hP hD hS hl
  have hl : lv_has ls 2 [(0, .ref (a_this 0))] := hl
  have L_f_X5_emptyAll_L2 : ∀    (n : Nat), ∀ (x1 : Int32) (g_this : TS) (H : Heap) (locs : List Loc) (ls : Array Slot), f_X5_emptyAll_L2   n x1 g_this = some o → va_P D vwCl (cS dT a_this g_this) H → va_D A (cS dT a_this g_this) → va_S A s.heap H locs → lv_has ls 2 [(0, .ref (a_this 0)), (1, .int x1)] → W p l e (headSpec (WSm yX5_emptyAll cX5_emptyAll 2 none) { frames := 0, cells := 0, slots := 0, locals := 0 }).room s m [.ref (a_this 0)].toArray below meth c H locs 0 0 (MQ below (va_Qv (fun (u : TS) => u = o.2) (fun u t => cAt D dT A (cS dT a_this u) t) A) [.ref (a_this 0)].toArray s 0 0 A) (F0 m 2 ls []) := by
    intro    n
    induction n with
    | zero => intro x1 g_this H locs ls h; exact nomatch h
    | succ n ih =>
      intro x1 g_this H locs ls h hP hD hS hl
      unfold f_X5_emptyAll_L2 at h
      refine lv_iload_n hx hb dX5_emptyAll_2 rfl (lv_at hl 1 rfl) ?_
      refine lv_iconst (v := 2) hx hb dX5_emptyAll_3 (by decide) ?_
      refine lv_icmp_ge (tgt := 20) hx hb dX5_emptyAll_4 (by decide) (fun c1 => ?_) (fun c1 => ?_)
      · replace h := iteT c1 h
        exact rt_v hx hb hr hlk hK hS (g_this : TS) (retv h) hP hD dX5_emptyAll_20
      · replace h := iteF c1 h
        refine lv_aload_n hx hb dX5_emptyAll_7 rfl (lv_at hl 0 rfl) ?_
        refine gf_X5_17 (v := .ref (a_this 2)) hx hb hqs hown hK hP 0 rfl rfl dX5_emptyAll_8 ?_
        refine lv_iload_n hx hb dX5_emptyAll_11 rfl (lv_at hl 1 rfl) ?_
        refine lv_iconst (v := 0) hx hb dX5_emptyAll_12 (by decide) ?_
        obtain ⟨g2, h⟩ := chk h
        refine va_zast hx hb hK hP hD hS 2 3 rfl rfl (inb_in g2) dX5_emptyAll_13 (fun H locs hP hD hS => ?_)
        have hP : va_P D vwCl (cS dT a_this (S_mk (upd (S_filled g_this) x1.toNatClampNeg (vp_nar .boolean (0 : Int32))) (S_w g_this))) H := hP
        have hD : va_D A (cS dT a_this (S_mk (upd (S_filled g_this) x1.toNatClampNeg (vp_nar .boolean (0 : Int32))) (S_w g_this))) := hD
        refine lv_iinc (v := (x1 + (1 : Int32))) (lv' := [(1, .int (x1 + (1 : Int32))), (0, .ref (a_this 0))]) hx hb dX5_emptyAll_14 hl (k := 1) rfl rfl (by decide) rfl (fun ls hl => ?_)
        refine lv_goto (tgt := 2) hx hb dX5_emptyAll_17 (by decide) ?_
        exact ih (x1 + (1 : Int32)) (S_mk (upd (S_filled g_this) x1.toNatClampNeg (vp_nar .boolean (0 : Int32))) (S_w g_this)) _ _ _ h hP hD hS (lv_sub hl [1, 0] rfl)
  unfold f_X5_emptyAll at h
  refine lv_iconst (v := 0) hx hb dX5_emptyAll_0 (by decide) ?_
  refine lv_istore_n (lv' := [(1, .int (0 : Int32)), (0, .ref (a_this 0))]) hx hb dX5_emptyAll_1 rfl hl (by decide) rfl (fun ls hl => ?_)
  refine L_f_X5_emptyAll_L2    FUEL (0 : Int32) g_this _ _ _ h hP hD hS (lv_sub hl [1, 0] rfl)

def f_X5_isFilled (g_this : TS) (v1 : Int32) : Option (Int32 × (Unit)) :=
  ((f_X8_isIn v1 (0 : Int32) (1 : Int32)).bind fun o1 => (if o1.1 = (0 : Int32) then (some ((0 : Int32), ())) else (if inb v1 2 = true then (if ((S_filled g_this) v1.toNatClampNeg) = (0 : Int32) then (some ((0 : Int32), ())) else (some ((1 : Int32), ()))) else none)))
set_option maxHeartbeats 8000000 in
set_option maxRecDepth 100000 in
theorem c_X5_isFilled (l : Launch) (hlt : l.stackTraces = false) (D : va_G) (dT : Nat → ClassId) (a_this : Nat → Nat) (g_this : TS) (v1 : Int32) (o : (Int32 × (Unit))) (h : f_X5_isFilled g_this v1 = some o) (sz : Nat) : Met l yX5_isFilled (WSm yX5_isFilled cX5_isFilled 2 (some .boolean)) { frames := 1, cells := 0, slots := 0, locals := 22 } (va_Pc [.ref (a_this 0), .int v1] (cPre D dT (cS dT a_this g_this) sz)) (va_Qi (fun (r : Int32) (u : Unit) => r = o.1 ∧ u = o.2) (fun u t => cAt D dT (va_A (cS dT a_this g_this) sz) (cS dT a_this g_this) t) (va_A (cS dT a_this g_this) sz)) 0 0 (va_A (cS dT a_this g_this) sz) := by
  refine mStart (WS := (cS dT a_this g_this)) (Qc := fun A => va_Qi (fun (r : Int32) (u : Unit) => r = o.1 ∧ u = o.2) (fun u t => cAt D dT A (cS dT a_this g_this) t) A) RX5 rfl (by decide) (Nat.le_of_ble_eq_true rfl) ?_ sz
  intro p e s m below meth c A ls hx hb hml hr hlk hnm hts hqs hown hE hA hK hP hD hS hl
  have hl : lv_has ls 2 [(0, .ref (a_this 0)), (1, .int v1)] := hl
  unfold f_X5_isFilled at h
  refine lv_iload_n hx hb dX5_isFilled_0 rfl (lv_at hl 1 rfl) ?_
  refine lv_iconst (v := 0) hx hb dX5_isFilled_1 (by decide) ?_
  refine lv_iconst (v := 1) hx hb dX5_isFilled_2 (by decide) ?_
  obtain ⟨o1, e1, h⟩ := obind h
  have hPq : va_P D vwCl (([] : va_W) ++ (cS dT a_this g_this)) _ := hP.perm (wj_split [cS dT a_this g_this] [] [0] rfl)
  have hDq : va_D A (([] : va_W) ++ (cS dT a_this g_this)) := hD.perm (wj_split [cS dT a_this g_this] [] [0] rfl)
  have hPc := hPq.left
  have hDc := hDq.left
  have hFc := va_freeL hDq hS hA
  refine cl_iL (wr := (cS dT a_this g_this)) (va_runSN (As := [.int v1, .int (0 : Int32), .int (1 : Int32)]) (rest := []) ⟨hx, hb, hml, hown, hts⟩ (c_X8_isIn l hlt D dT v1 (0 : Int32) (1 : Int32) o1 e1 _) ⟨va_cnB 3 hts (TB_in (WSm_in w_292)) rfl rfl rfl (hE.1 (RX5, 22, yX8_isIn, RX8) (List.mem_of_getElem? (i := 17) rfl)) (hqs _ w_33) nd_X8_isIn ⟨Nat.le_of_ble_eq_true rfl, Nat.le_of_ble_eq_true rfl⟩, hqs _ w_291, trivial⟩ (cPre.S hPc hDc hK hE hS hFc) rfl rfl hl.1 rfl (lv_room (Nat.le_of_ble_eq_true rfl)) dX5_isFilled_3 ⟨Nat.zero_le _, Nat.zero_le _⟩) hPq hDq hS hFc (fun r1 u1 H locs hw hP hD hS => ?_)
  obtain ⟨rfl, rfl⟩ := hw
  have hP : va_P D vwCl (cS dT a_this g_this) H := hP.perm (wj_back [] [cS dT a_this g_this] [0] rfl)
  have hD : va_D A (cS dT a_this g_this) := hD.perm (wj_back [] [cS dT a_this g_this] [0] rfl)
  refine lv_if_eq (tgt := 22) hx hb dX5_isFilled_6 (by decide) (fun c2 => ?_) (fun c2 => ?_)
  · replace h := iteT c2 h
    refine lv_iconst (v := 0) hx hb dX5_isFilled_22 (by decide) ?_
    exact rt_z hx hb hr hlk hK hS (() : Unit) (ret2 h) (by decide) hP hD dX5_isFilled_23
  · replace h := iteF c2 h
    refine lv_aload_n hx hb dX5_isFilled_9 rfl (lv_at hl 0 rfl) ?_
    refine gf_X5_17 (v := .ref (a_this 2)) hx hb hqs hown hK hP 0 rfl rfl dX5_isFilled_10 ?_
    refine lv_iload_n hx hb dX5_isFilled_13 rfl (lv_at hl 1 rfl) ?_
    obtain ⟨g3, h⟩ := chk h
    refine va_zald hx hb hK hP 2 3 rfl rfl (inb_in g3) dX5_isFilled_14 ?_
    refine lv_if_eq (tgt := 22) hx hb dX5_isFilled_15 (by decide) (fun c4 => ?_) (fun c4 => ?_)
    · replace h := iteT c4 h
      refine lv_iconst (v := 0) hx hb dX5_isFilled_22 (by decide) ?_
      exact rt_z hx hb hr hlk hK hS (() : Unit) (ret2 h) (by decide) hP hD dX5_isFilled_23
    · replace h := iteF c4 h
      refine lv_iconst (v := 1) hx hb dX5_isFilled_18 (by decide) ?_
      refine lv_goto (tgt := 23) hx hb dX5_isFilled_19 (by decide) ?_
      exact rt_z hx hb hr hlk hK hS (() : Unit) (ret2 h) (by decide) hP hD dX5_isFilled_23

def f_X5_put (g_this : TS) (g_p2 : TW) (v1 : Int32) : Option (Unit × (TS)) :=
  ((f_X8_isIn v1 (0 : Int32) (1 : Int32)).bind fun o1 => (if o1.1 = (0 : Int32) then none else (if inb v1 2 = true then ((f_X7_takeFrom (S_w g_this v1.toNatClampNeg) g_p2).bind fun o4 => (if inb v1 2 = true then (some ((), (S_mk (upd (S_filled g_this) v1.toNatClampNeg (vp_nar .boolean (1 : Int32))) (updW (S_w g_this) v1.toNatClampNeg o4.2)))) else none)) else none)))
set_option maxHeartbeats 8000000 in
set_option maxRecDepth 100000 in
theorem c_X5_put (l : Launch) (hlt : l.stackTraces = false) (D : va_G) (dT : Nat → ClassId) (a_this : Nat → Nat) (a_p2 : Nat → Nat) (g_this : TS) (g_p2 : TW) (v1 : Int32) (o : (Unit × (TS))) (h : f_X5_put g_this g_p2 v1 = some o) (sz : Nat) : Met l yX5_put (WSm yX5_put cX5_put 4 none) { frames := 2, cells := 0, slots := 0, locals := 69 } (va_Pc [.ref (a_this 0), .int v1, .ref (a_p2 0)] (cPre D dT (cS dT a_this g_this ++ (cW dT a_p2 g_p2)) sz)) (va_Qv (fun (u : TS) => u = o.2) (fun u t => cAt D dT (va_A (cS dT a_this g_this ++ (cW dT a_p2 g_p2)) sz) (cS dT a_this u ++ (cW dT a_p2 g_p2)) t) (va_A (cS dT a_this g_this ++ (cW dT a_p2 g_p2)) sz)) 0 0 (va_A (cS dT a_this g_this ++ (cW dT a_p2 g_p2)) sz) := by
  refine mStart (WS := (cS dT a_this g_this ++ (cW dT a_p2 g_p2))) (Qc := fun A => va_Qv (fun (u : TS) => u = o.2) (fun u t => cAt D dT A (cS dT a_this u ++ (cW dT a_p2 g_p2)) t) A) RX5 rfl (by decide) (Nat.le_of_ble_eq_true rfl) ?_ sz
  intro p e s m below meth c A ls hx hb hml hr hlk hnm hts hqs hown hE hA hK hP hD hS hl
  have hl : lv_has ls 4 [(0, .ref (a_this 0)), (1, .int v1), (2, .ref (a_p2 0))] := hl
  unfold f_X5_put at h
  refine lv_iload_n hx hb dX5_put_0 rfl (lv_at hl 1 rfl) ?_
  refine lv_iconst (v := 0) hx hb dX5_put_1 (by decide) ?_
  refine lv_iconst (v := 1) hx hb dX5_put_2 (by decide) ?_
  obtain ⟨o1, e1, h⟩ := obind h
  have hPq : va_P D vwCl (([] : va_W) ++ (cS dT a_this g_this ++ (cW dT a_p2 g_p2))) _ := hP.perm (wj_split [cS dT a_this g_this, cW dT a_p2 g_p2] [] [0, 1] rfl)
  have hDq : va_D A (([] : va_W) ++ (cS dT a_this g_this ++ (cW dT a_p2 g_p2))) := hD.perm (wj_split [cS dT a_this g_this, cW dT a_p2 g_p2] [] [0, 1] rfl)
  have hPc := hPq.left
  have hDc := hDq.left
  have hFc := va_freeL hDq hS hA
  refine cl_iL (wr := (cS dT a_this g_this ++ (cW dT a_p2 g_p2))) (va_runSN (As := [.int v1, .int (0 : Int32), .int (1 : Int32)]) (rest := []) ⟨hx, hb, hml, hown, hts⟩ (c_X8_isIn l hlt D dT v1 (0 : Int32) (1 : Int32) o1 e1 _) ⟨va_cnB 3 hts (TB_in (WSm_in w_292)) rfl rfl rfl (hE.1 (RX5, 22, yX8_isIn, RX8) (List.mem_of_getElem? (i := 17) rfl)) (hqs _ w_33) nd_X8_isIn ⟨Nat.le_of_ble_eq_true rfl, Nat.le_of_ble_eq_true rfl⟩, hqs _ w_291, trivial⟩ (cPre.S hPc hDc hK hE hS hFc) rfl rfl hl.1 rfl (lv_room (Nat.le_of_ble_eq_true rfl)) dX5_put_3 ⟨Nat.zero_le _, Nat.zero_le _⟩) hPq hDq hS hFc (fun r1 u1 H locs hw hP hD hS => ?_)
  obtain ⟨rfl, rfl⟩ := hw
  have hP : va_P D vwCl (cS dT a_this g_this ++ (cW dT a_p2 g_p2)) H := hP.perm (wj_back [] [cS dT a_this g_this, cW dT a_p2 g_p2] [0, 1] rfl)
  have hD : va_D A (cS dT a_this g_this ++ (cW dT a_p2 g_p2)) := hD.perm (wj_back [] [cS dT a_this g_this, cW dT a_p2 g_p2] [0, 1] rfl)
  refine lv_if_eq (tgt := 18) hx hb dX5_put_6 (by decide) (fun c2 => ?_) (fun c2 => ?_)
  · replace h := iteT c2 h
    exact nomatch h
  · replace h := iteF c2 h
    refine lv_aload_n hx hb dX5_put_9 rfl (lv_at hl 0 rfl) ?_
    refine gf_X5_11 (v := .ref (a_this 1)) hx hb hqs hown hK hP 0 rfl rfl dX5_put_10 ?_
    refine lv_iload_n hx hb dX5_put_13 rfl (lv_at hl 1 rfl) ?_
    obtain ⟨g3, h⟩ := chk h
    refine va_aldq hx hb hK hP 1 4 rfl rfl (inb_in g3) dX5_put_14 ?_
    refine W.eq (g2 := F0 m 15 ls [.ref ((wadr a_this 3 v1.toNatClampNeg) 0)]) rfl ?_
    refine lv_goto (tgt := 19) hx hb dX5_put_15 (by decide) ?_
    refine lv_astore_n (lv' := [(3, .ref ((wadr a_this 3 v1.toNatClampNeg) 0)), (0, .ref (a_this 0)), (1, .int v1), (2, .ref (a_p2 0))]) hx hb dX5_put_19 rfl hl (by decide) rfl (fun ls hl => ?_)
    refine lv_aload_n hx hb dX5_put_20 rfl (lv_at hl 0 rfl) ?_
    refine lv_ifnull hx hb dX5_put_21 ?_
    refine lv_aload_n hx hb dX5_put_24 rfl (lv_at hl 0 rfl) ?_
    refine lv_aload_n hx hb dX5_put_25 rfl (lv_at hl 3 rfl) ?_
    obtain ⟨o4, e4, h⟩ := obind h
    have hPq : va_P D vwCl ((cW dT (wadr a_this 3 v1.toNatClampNeg) (S_w g_this v1.toNatClampNeg) ++ cW dT a_p2 g_p2) ++ cSr dT a_this g_this v1.toNatClampNeg) _ := hP.perm (pm_1 (cS_open (inb_lt g3)))
    have hDq : va_D A ((cW dT (wadr a_this 3 v1.toNatClampNeg) (S_w g_this v1.toNatClampNeg) ++ cW dT a_p2 g_p2) ++ cSr dT a_this g_this v1.toNatClampNeg) := hD.perm (pm_1 (cS_open (inb_lt g3)))
    have hPc := hPq.left
    have hDc := hDq.left
    have hFc := va_freeL hDq hS hA
    refine cl_vL (wr := cSr dT a_this g_this v1.toNatClampNeg) (va_runV (As := [.ref (a_p2 0)]) (rest := []) ⟨hx, hb, hml, hown, hts⟩ (c_X7_takeFrom l hlt D dT (wadr a_this 3 v1.toNatClampNeg) a_p2 (S_w g_this v1.toNatClampNeg) g_p2 o4 e4 _) (cwV 1 hts (TB_V w_960 w_364 w_365 w_38 w_366) rfl rfl rfl ⟨rfl, nd_X7_takeFrom⟩ ⟨Nat.le_of_ble_eq_true rfl, Nat.le_of_ble_eq_true rfl⟩) (cPre.V hPc hDc hK hE hS hFc (va_recv hK hPc (ci := 6) (q0 := 0) rfl rfl)) rfl rfl hl.1 rfl (lv_room (Nat.le_of_ble_eq_true rfl)) dX5_put_26 ⟨Nat.zero_le _, Nat.zero_le _⟩) hPq hDq hS hFc (fun u4 H locs hw hP hD hS => ?_)
    subst hw
    have hP : va_P D vwCl (cS dT a_this (S_mk (S_filled g_this) (updW (S_w g_this) v1.toNatClampNeg o4.2)) ++ cW dT a_p2 g_p2) H := hP.perm (pm_1 (cS_perm (inb_lt g3) o4.2)).symm
    have hD : va_D A (cS dT a_this (S_mk (S_filled g_this) (updW (S_w g_this) v1.toNatClampNeg o4.2)) ++ cW dT a_p2 g_p2) := hD.perm (pm_1 (cS_perm (inb_lt g3) o4.2)).symm
    have hP : va_P D vwCl (cS dT a_this (S_mk (S_filled g_this) (updW (S_w g_this) v1.toNatClampNeg o4.2)) ++ (cW dT a_p2 g_p2)) H := hP
    have hD : va_D A (cS dT a_this (S_mk (S_filled g_this) (updW (S_w g_this) v1.toNatClampNeg o4.2)) ++ (cW dT a_p2 g_p2)) := hD
    refine lv_aload_n hx hb dX5_put_29 rfl (lv_at hl 1 rfl) ?_
    refine gf_X5_17 (v := .ref (a_this 2)) hx hb hqs hown hK hP 0 rfl rfl dX5_put_30 ?_
    refine lv_iload_n hx hb dX5_put_33 rfl (lv_at hl 2 rfl) ?_
    refine lv_iconst (v := 1) hx hb dX5_put_34 (by decide) ?_
    obtain ⟨g5, h⟩ := chk h
    refine va_zast hx hb hK hP hD hS 2 3 rfl rfl (inb_in g5) dX5_put_35 (fun H locs hP hD hS => ?_)
    have hP : va_P D vwCl (cS dT a_this (S_mk (upd (S_filled g_this) v1.toNatClampNeg (vp_nar .boolean (1 : Int32))) (updW (S_w g_this) v1.toNatClampNeg o4.2)) ++ (cW dT a_p2 g_p2)) H := hP
    have hD : va_D A (cS dT a_this (S_mk (upd (S_filled g_this) v1.toNatClampNeg (vp_nar .boolean (1 : Int32))) (updW (S_w g_this) v1.toNatClampNeg o4.2)) ++ (cW dT a_p2 g_p2)) := hD
    exact rt_v hx hb hr hlk hK hS ((S_mk (upd (S_filled g_this) v1.toNatClampNeg (vp_nar .boolean (1 : Int32))) (updW (S_w g_this) v1.toNatClampNeg o4.2)) : TS) (retv h) hP hD dX5_put_36

def f_X5_takeOut (g_this : TS) (g_p2 : TW) (v1 : Int32) : Option (Unit × (TW)) :=
  ((f_X5_isFilled g_this v1).bind fun o1 => (if o1.1 = (0 : Int32) then none else (if inb v1 2 = true then ((f_X7_takeFrom g_p2 (S_w g_this v1.toNatClampNeg)).bind fun o4 => (some ((), o4.2))) else none)))
set_option maxHeartbeats 8000000 in
set_option maxRecDepth 100000 in
theorem c_X5_takeOut (l : Launch) (hlt : l.stackTraces = false) (D : va_G) (dT : Nat → ClassId) (a_this : Nat → Nat) (a_p2 : Nat → Nat) (g_this : TS) (g_p2 : TW) (v1 : Int32) (o : (Unit × (TW))) (h : f_X5_takeOut g_this g_p2 v1 = some o) (sz : Nat) : Met l yX5_takeOut (WSm yX5_takeOut cX5_takeOut 4 none) { frames := 2, cells := 0, slots := 0, locals := 69 } (va_Pc [.ref (a_this 0), .int v1, .ref (a_p2 0)] (cPre D dT (cS dT a_this g_this ++ (cW dT a_p2 g_p2)) sz)) (va_Qv (fun (u : TW) => u = o.2) (fun u t => cAt D dT (va_A (cS dT a_this g_this ++ (cW dT a_p2 g_p2)) sz) (cS dT a_this g_this ++ (cW dT a_p2 u)) t) (va_A (cS dT a_this g_this ++ (cW dT a_p2 g_p2)) sz)) 0 0 (va_A (cS dT a_this g_this ++ (cW dT a_p2 g_p2)) sz) := by
  refine mStart (WS := (cS dT a_this g_this ++ (cW dT a_p2 g_p2))) (Qc := fun A => va_Qv (fun (u : TW) => u = o.2) (fun u t => cAt D dT A (cS dT a_this g_this ++ (cW dT a_p2 u)) t) A) RX5 rfl (by decide) (Nat.le_of_ble_eq_true rfl) ?_ sz
  intro p e s m below meth c A ls hx hb hml hr hlk hnm hts hqs hown hE hA hK hP hD hS hl
  have hl : lv_has ls 4 [(0, .ref (a_this 0)), (1, .int v1), (2, .ref (a_p2 0))] := hl
  unfold f_X5_takeOut at h
  refine lv_aload_n hx hb dX5_takeOut_0 rfl (lv_at hl 0 rfl) ?_
  refine lv_iload_n hx hb dX5_takeOut_1 rfl (lv_at hl 1 rfl) ?_
  obtain ⟨o1, e1, h⟩ := obind h
  have hPq : va_P D vwCl ((cS dT a_this g_this) ++ (cW dT a_p2 g_p2)) _ := hP.perm (wj_split [cS dT a_this g_this, cW dT a_p2 g_p2] [0] [1] rfl)
  have hDq : va_D A ((cS dT a_this g_this) ++ (cW dT a_p2 g_p2)) := hD.perm (wj_split [cS dT a_this g_this, cW dT a_p2 g_p2] [0] [1] rfl)
  have hPc := hPq.left
  have hDc := hDq.left
  have hFc := va_freeL hDq hS hA
  refine cl_iL (wr := (cW dT a_p2 g_p2)) (va_runV (As := [.int v1]) (rest := []) ⟨hx, hb, hml, hown, hts⟩ (c_X5_isFilled l hlt D dT a_this g_this v1 o1 e1 _) (cwV 1 hts (TB_V w_977 w_969 w_970 w_40 w_971) rfl rfl rfl ⟨rfl, nd_X5_isFilled⟩ ⟨Nat.le_of_ble_eq_true rfl, Nat.le_of_ble_eq_true rfl⟩) (cPre.V hPc hDc hK hE hS hFc (va_recv hK hPc (ci := 4) (q0 := 0) rfl rfl)) rfl rfl hl.1 rfl (lv_room (Nat.le_of_ble_eq_true rfl)) dX5_takeOut_2 ⟨Nat.zero_le _, Nat.zero_le _⟩) hPq hDq hS hFc (fun r1 u1 H locs hw hP hD hS => ?_)
  obtain ⟨rfl, rfl⟩ := hw
  have hP : va_P D vwCl (cS dT a_this g_this ++ (cW dT a_p2 g_p2)) H := hP.perm (wj_back [cS dT a_this g_this] [cW dT a_p2 g_p2] [0, 1] rfl)
  have hD : va_D A (cS dT a_this g_this ++ (cW dT a_p2 g_p2)) := hD.perm (wj_back [cS dT a_this g_this] [cW dT a_p2 g_p2] [0, 1] rfl)
  refine lv_if_eq (tgt := 17) hx hb dX5_takeOut_5 (by decide) (fun c2 => ?_) (fun c2 => ?_)
  · replace h := iteT c2 h
    exact nomatch h
  · replace h := iteF c2 h
    refine lv_aload_n hx hb dX5_takeOut_8 rfl (lv_at hl 0 rfl) ?_
    refine gf_X5_11 (v := .ref (a_this 1)) hx hb hqs hown hK hP 0 rfl rfl dX5_takeOut_9 ?_
    refine lv_iload_n hx hb dX5_takeOut_12 rfl (lv_at hl 1 rfl) ?_
    obtain ⟨g3, h⟩ := chk h
    refine va_aldq hx hb hK hP 1 4 rfl rfl (inb_in g3) dX5_takeOut_13 ?_
    refine W.eq (g2 := F0 m 14 ls [.ref ((wadr a_this 3 v1.toNatClampNeg) 0)]) rfl ?_
    refine lv_goto (tgt := 18) hx hb dX5_takeOut_14 (by decide) ?_
    refine lv_astore_n (lv' := [(3, .ref ((wadr a_this 3 v1.toNatClampNeg) 0)), (0, .ref (a_this 0)), (1, .int v1), (2, .ref (a_p2 0))]) hx hb dX5_takeOut_18 rfl hl (by decide) rfl (fun ls hl => ?_)
    refine lv_aload_n hx hb dX5_takeOut_19 rfl (lv_at hl 0 rfl) ?_
    refine lv_ifnull hx hb dX5_takeOut_20 ?_
    refine lv_aload_n hx hb dX5_takeOut_23 rfl (lv_at hl 3 rfl) ?_
    refine lv_aload_n hx hb dX5_takeOut_24 rfl (lv_at hl 0 rfl) ?_
    obtain ⟨o4, e4, h⟩ := obind h
    have hPq : va_P D vwCl ((cW dT a_p2 g_p2 ++ cW dT (wadr a_this 3 v1.toNatClampNeg) (S_w g_this v1.toNatClampNeg)) ++ cSr dT a_this g_this v1.toNatClampNeg) _ := hP.perm (pm_2 (cS_open (inb_lt g3)))
    have hDq : va_D A ((cW dT a_p2 g_p2 ++ cW dT (wadr a_this 3 v1.toNatClampNeg) (S_w g_this v1.toNatClampNeg)) ++ cSr dT a_this g_this v1.toNatClampNeg) := hD.perm (pm_2 (cS_open (inb_lt g3)))
    have hPc := hPq.left
    have hDc := hDq.left
    have hFc := va_freeL hDq hS hA
    refine cl_vL (wr := cSr dT a_this g_this v1.toNatClampNeg) (va_runV (As := [.ref ((wadr a_this 3 v1.toNatClampNeg) 0)]) (rest := []) ⟨hx, hb, hml, hown, hts⟩ (c_X7_takeFrom l hlt D dT a_p2 (wadr a_this 3 v1.toNatClampNeg) g_p2 (S_w g_this v1.toNatClampNeg) o4 e4 _) (cwV 1 hts (TB_V w_960 w_364 w_365 w_38 w_366) rfl rfl rfl ⟨rfl, nd_X7_takeFrom⟩ ⟨Nat.le_of_ble_eq_true rfl, Nat.le_of_ble_eq_true rfl⟩) (cPre.V hPc hDc hK hE hS hFc (va_recv hK hPc (ci := 6) (q0 := 0) rfl rfl)) rfl rfl hl.1 rfl (lv_room (Nat.le_of_ble_eq_true rfl)) dX5_takeOut_25 ⟨Nat.zero_le _, Nat.zero_le _⟩) hPq hDq hS hFc (fun u4 H locs hw hP hD hS => ?_)
    subst hw
    have hP : va_P D vwCl (cS dT a_this g_this ++ cW dT a_p2 o4.2) H := hP.perm (pm_2 (cS_open (inb_lt g3))).symm
    have hD : va_D A (cS dT a_this g_this ++ cW dT a_p2 o4.2) := hD.perm (pm_2 (cS_open (inb_lt g3))).symm
    have hP : va_P D vwCl (cS dT a_this g_this ++ (cW dT a_p2 o4.2)) H := hP
    have hD : va_D A (cS dT a_this g_this ++ (cW dT a_p2 o4.2)) := hD
    exact rt_v hx hb hr hlk hK hS (o4.2 : TW) (retv h) hP hD dX5_takeOut_28

