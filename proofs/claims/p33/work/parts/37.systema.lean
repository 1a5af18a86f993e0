def f_X8_needRange (v0 : Int32) (v1 : Int32) (v2 : Int32) : Option ((Nat ⊕ Unit) × (Unit)) :=
  ((f_X8_isIn v0 v1 v2).bind fun o1 => (if o1.1 = (0 : Int32) then (some (Sum.inl 0, ())) else (some ((Sum.inr ()), ()))))
set_option maxHeartbeats 8000000 in
set_option maxRecDepth 100000 in
theorem c_X8_needRange (l : Launch) (hlt : l.stackTraces = false) (D : va_G) (dT : Nat → ClassId) (v0 : Int32) (v1 : Int32) (v2 : Int32) (o : ((Nat ⊕ Unit) × (Unit))) (h : f_X8_needRange v0 v1 v2 = some o) (sz : Nat) : vx_Met l yX8_needRange (WSm yX8_needRange cX8_needRange 3 none) { frames := 6, cells := 1, slots := 6, locals := 90 } (va_Pc [.int v0, .int v1, .int v2] (cPre D dT ([] : va_W) sz)) (va_Qv (fun (u : Unit) => o = (Sum.inr (), u)) (fun u t => cAt D dT (va_A ([] : va_W) sz) ([] : va_W) t) (va_A ([] : va_W) sz)) (xEnd D dT (xoP o) (fun u => ([] : va_W)) (va_A ([] : va_W) sz)) 1 6 (va_A ([] : va_W) sz) := by
  refine mStartX (WS := ([] : va_W)) (Qc := fun A => va_Qv (fun (u : Unit) => o = (Sum.inr (), u)) (fun u t => cAt D dT A ([] : va_W) t) A) (XC := fun A => xEnd D dT (xoP o) (fun u => ([] : va_W)) A) RX8 rfl (by decide) (Nat.le_of_ble_eq_true rfl) ?_ sz
  intro p e s m below meth c A ls hx hb hml hr hlk hnt hts hqs hown hE hA hK hP hD hS hl
  have hl : lv_has ls 3 [(0, .int v0), (1, .int v1), (2, .int v2)] := hl
  unfold f_X8_needRange at h
  refine lv_iload_n hx hb dX8_needRange_0 rfl (lv_at hl 0 rfl) ?_
  refine lv_iload_n hx hb dX8_needRange_1 rfl (lv_at hl 1 rfl) ?_
  refine lv_iload_n hx hb dX8_needRange_2 rfl (lv_at hl 2 rfl) ?_
  obtain ⟨o1, e1, h⟩ := obind h
  have hPc := hP
  have hDc := hD
  have hFc := vfall hD hS hA
  refine cl_iA (va_runS (As := [.int v0, .int v1, .int v2]) (rest := []) ⟨hx, hb, hml, hown, hts⟩ (c_X8_isIn l hlt D dT v0 v1 v2 o1 e1 _) (va_cwS 3 hts (TB_S w_290 w_291 w_33 w_292) rfl rfl rfl nd_X8_isIn ⟨Nat.le_of_ble_eq_true rfl, Nat.le_of_ble_eq_true rfl⟩) (cPre.S hPc hDc hK hE hS hFc) rfl rfl hl.1 rfl (lv_room (Nat.le_of_ble_eq_true rfl)) dX8_needRange_3 ⟨Nat.zero_le _, Nat.zero_le _⟩) hS hFc (fun r1 u1 H locs hw hP hD hS => ?_)
  obtain ⟨rfl, rfl⟩ := hw
  have hP : va_P D vwCl ([] : va_W) H := hP
  have hD : va_D A ([] : va_W) := hD
  refine lv_if_ne (tgt := 20) hx hb dX8_needRange_6 (by decide) (fun c2 => ?_) (fun c2 => ?_)
  · replace h := iteF c2 h
    refine W.widen (k := 1) (n := 6) (Nat.le_of_ble_eq_true rfl) (Nat.le_of_ble_eq_true rfl) ?_
    exact vx_ret (rt_v hx hb hr hlk hK hS (() : Unit) (Option.some.inj h).symm hP hD dX8_needRange_20)
  · replace h := iteT c2 h
    exact th_W (k := 0) exOkI rfl (List.mem_of_getElem? (i := 0) rfl) hlt hx hb (hl.1.trans hml.symm) hlk hnt hqs hown hE hK hS (() : Unit) (xoP_of h) hP hD rfl rfl rfl rfl rfl rfl dX8_needRange_9 dX8_needRange_12 dX8_needRange_13 dX8_needRange_16 dX8_needRange_19

def f_X8_append (g_this_text : TT) (v1 : Int32) : Option ((Nat ⊕ Int32) × (TT)) :=
  ((f_X8_needRange v1 (0 : Int32) (255 : Int32)).bind fun o1 => (fun u1 => o1.1.elim (fun k1 => (some (Sum.inl k1, g_this_text))) (fun _ => ((f_X6_isFull g_this_text).bind fun o2 => (if o2.1 = (0 : Int32) then ((f_X6_put g_this_text ((Int32.toUInt32 v1 % 65536).toInt32)).bind fun o4 => (some ((Sum.inr o4.1), o4.2))) else (some (Sum.inl 1, g_this_text)))))) o1.2)
set_option maxHeartbeats 8000000 in
set_option maxRecDepth 100000 in
theorem c_X8_append (l : Launch) (hlt : l.stackTraces = false) (D : va_G) (dT : Nat → ClassId) (a_this : Nat → Nat → Nat) (g_this_text : TT) (v1 : Int32) (o : ((Nat ⊕ Int32) × (TT))) (h : f_X8_append g_this_text v1 = some o) (sz : Nat) : vx_Met l yX8_append (WSm yX8_append cX8_append 2 (some .int)) { frames := 7, cells := 2, slots := 12, locals := 112 } (va_Pc [.ref (a_this 0 0), .int v1] (cPre D dT (cSP a_this ++ (cT dT (a_this 1) g_this_text)) sz)) (va_Qi (fun (r : Int32) (u : TT) => o = (Sum.inr r, u)) (fun u t => cAt D dT (va_A (cSP a_this ++ (cT dT (a_this 1) g_this_text)) sz) (cSP a_this ++ (cT dT (a_this 1) u)) t) (va_A (cSP a_this ++ (cT dT (a_this 1) g_this_text)) sz)) (xEnd D dT (xoP o) (fun u => (cSP a_this ++ (cT dT (a_this 1) u))) (va_A (cSP a_this ++ (cT dT (a_this 1) g_this_text)) sz)) 2 12 (va_A (cSP a_this ++ (cT dT (a_this 1) g_this_text)) sz) := by
  refine mStartX (WS := (cSP a_this ++ (cT dT (a_this 1) g_this_text))) (Qc := fun A => va_Qi (fun (r : Int32) (u : TT) => o = (Sum.inr r, u)) (fun u t => cAt D dT A (cSP a_this ++ (cT dT (a_this 1) u)) t) A) (XC := fun A => xEnd D dT (xoP o) (fun u => (cSP a_this ++ (cT dT (a_this 1) u))) A) RX8 rfl (by decide) (Nat.le_of_ble_eq_true rfl) ?_ sz
  intro p e s m below meth c A ls hx hb hml hr hlk hnt hts hqs hown hE hA hK hP hD hS hl
  have hl : lv_has ls 2 [(0, .ref (a_this 0 0)), (1, .int v1)] := hl
  unfold f_X8_append at h
  refine lv_iload_n hx hb dX8_append_0 rfl (lv_at hl 1 rfl) ?_
  refine lv_iconst (v := 0) hx hb dX8_append_1 (by decide) ?_
  refine lv_sipush (v := 255) hx hb dX8_append_2 (by decide) ?_
  obtain ⟨o1, e1, h⟩ := obind h
  have hPq : va_P D vwCl (([] : va_W) ++ (cSP a_this ++ (cT dT (a_this 1) g_this_text))) _ := hP.perm (wj_split [cSP a_this, cT dT (a_this 1) g_this_text] [] [0, 1] rfl)
  have hDq : va_D A (([] : va_W) ++ (cSP a_this ++ (cT dT (a_this 1) g_this_text))) := hD.perm (wj_split [cSP a_this, cT dT (a_this 1) g_this_text] [] [0, 1] rfl)
  have hPc := hPq.left
  have hDc := hDq.left
  have hFc := va_freeL hDq hS hA
  refine xcl_vL (wr := (cSP a_this ++ (cT dT (a_this 1) g_this_text))) (vx_runS (As := [.int v1, .int (0 : Int32), .int (255 : Int32)]) (rest := []) ⟨hx, hb, hml, hown, hts⟩ (c_X8_needRange l hlt D dT v1 (0 : Int32) (255 : Int32) o1 e1 _) (va_cwS 3 hts (TB_S w_287 w_288 w_33 w_289) rfl rfl rfl nd_X8_needRange ⟨Nat.le_of_ble_eq_true rfl, Nat.le_of_ble_eq_true rfl⟩) (cPre.S hPc hDc hK hE hS hFc) rfl rfl hl.1 rfl (lv_room (Nat.le_of_ble_eq_true rfl)) dX8_append_5 ⟨Nat.le_of_ble_eq_true rfl, Nat.le_of_ble_eq_true rfl⟩) hPq hDq hS hFc (fun k1 u1 E1 ce1 q1 H locs hw hEk hP hD hS hxc hxv hxl => ?_) (fun u1 H locs hw hP hD hS => ?_)
  · have hw := xoP_inv hw
    subst hw
    have hP : va_P D vwCl (cSP a_this ++ (cT dT (a_this 1) g_this_text)) H := hP.perm (wj_back [] [cSP a_this, cT dT (a_this 1) g_this_text] [0, 1] rfl)
    have hD : va_D A (cSP a_this ++ (cT dT (a_this 1) g_this_text)) := hD.perm (wj_back [] [cSP a_this, cT dT (a_this 1) g_this_text] [0, 1] rfl)
    exact xo_S hlk hnt hK hS hEk hxc hxv hxl (g_this_text : TT) (xoP_of h) hP hD rfl rfl
  subst hw
  replace h := sumR h
  have hP : va_P D vwCl (cSP a_this ++ (cT dT (a_this 1) g_this_text)) H := hP.perm (wj_back [] [cSP a_this, cT dT (a_this 1) g_this_text] [0, 1] rfl)
  have hD : va_D A (cSP a_this ++ (cT dT (a_this 1) g_this_text)) := hD.perm (wj_back [] [cSP a_this, cT dT (a_this 1) g_this_text] [0, 1] rfl)
  refine lv_aload_n hx hb dX8_append_8 rfl (lv_at hl 0 rfl) ?_
  refine gf_X8_10 (v := .ref ((a_this 1) 0)) hx hb hqs hown hK hP 0 rfl rfl dX8_append_9 ?_
  obtain ⟨o2, e2, h⟩ := obind h
  have hPq : va_P D vwCl ((cT dT (a_this 1) g_this_text) ++ (cSP a_this)) _ := hP.perm (wj_split [cSP a_this, cT dT (a_this 1) g_this_text] [1] [0] rfl)
  have hDq : va_D A ((cT dT (a_this 1) g_this_text) ++ (cSP a_this)) := hD.perm (wj_split [cSP a_this, cT dT (a_this 1) g_this_text] [1] [0] rfl)
  have hPc := hPq.left
  have hDc := hDq.left
  have hFc := va_freeL hDq hS hA
  refine cl_iL (wr := (cSP a_this)) (va_runV (As := []) (rest := []) ⟨hx, hb, hml, hown, hts⟩ (c_X6_isFull l hlt D dT (a_this 1) g_this_text o2 e2 _) (cwV 0 hts (TB_V w_610 w_611 w_612 w_34 w_613) rfl rfl rfl ⟨rfl, nd_X6_isFull⟩ ⟨Nat.le_of_ble_eq_true rfl, Nat.le_of_ble_eq_true rfl⟩) (cPre.V hPc hDc hK hE hS hFc (va_recv hK hPc (ci := 5) (q0 := 0) rfl rfl)) rfl rfl hl.1 rfl (lv_room (Nat.le_of_ble_eq_true rfl)) dX8_append_12 ⟨Nat.le_of_ble_eq_true rfl, Nat.le_of_ble_eq_true rfl⟩) hPq hDq hS hFc (fun r2 u2 H locs hw hP hD hS => ?_)
  obtain ⟨rfl, rfl⟩ := hw
  have hP : va_P D vwCl (cSP a_this ++ (cT dT (a_this 1) g_this_text)) H := hP.perm (wj_back [cT dT (a_this 1) g_this_text] [cSP a_this] [1, 0] rfl)
  have hD : va_D A (cSP a_this ++ (cT dT (a_this 1) g_this_text)) := hD.perm (wj_back [cT dT (a_this 1) g_this_text] [cSP a_this] [1, 0] rfl)
  refine lv_if_eq (tgt := 28) hx hb dX8_append_15 (by decide) (fun c3 => ?_) (fun c3 => ?_)
  · replace h := iteT c3 h
    refine lv_aload_n hx hb dX8_append_28 rfl (lv_at hl 0 rfl) ?_
    refine gf_X8_10 (v := .ref ((a_this 1) 0)) hx hb hqs hown hK hP 0 rfl rfl dX8_append_29 ?_
    refine lv_iload_n hx hb dX8_append_32 rfl (lv_at hl 1 rfl) ?_
    refine lv_i2c hx hb dX8_append_33 rfl ?_
    obtain ⟨o4, e4, h⟩ := obind h
    have hPq : va_P D vwCl ((cT dT (a_this 1) g_this_text) ++ (cSP a_this)) _ := hP.perm (wj_split [cSP a_this, cT dT (a_this 1) g_this_text] [1] [0] rfl)
    have hDq : va_D A ((cT dT (a_this 1) g_this_text) ++ (cSP a_this)) := hD.perm (wj_split [cSP a_this, cT dT (a_this 1) g_this_text] [1] [0] rfl)
    have hPc := hPq.left
    have hDc := hDq.left
    have hFc := va_freeL hDq hS hA
    refine cl_iL (wr := (cSP a_this)) (va_runV (As := [.int ((Int32.toUInt32 v1 % 65536).toInt32)]) (rest := []) ⟨hx, hb, hml, hown, hts⟩ (c_X6_put l hlt D dT (a_this 1) g_this_text ((Int32.toUInt32 v1 % 65536).toInt32) o4 e4 _) (cwV 1 hts (TB_V w_630 w_631 w_632 w_34 w_633) rfl rfl rfl ⟨rfl, nd_X6_put⟩ ⟨Nat.le_of_ble_eq_true rfl, Nat.le_of_ble_eq_true rfl⟩) (cPre.V hPc hDc hK hE hS hFc (va_recv hK hPc (ci := 5) (q0 := 0) rfl rfl)) rfl rfl hl.1 rfl (lv_room (Nat.le_of_ble_eq_true rfl)) dX8_append_34 ⟨Nat.le_of_ble_eq_true rfl, Nat.le_of_ble_eq_true rfl⟩) hPq hDq hS hFc (fun r4 u4 H locs hw hP hD hS => ?_)
    obtain ⟨rfl, rfl⟩ := hw
    have hP : va_P D vwCl (cSP a_this ++ (cT dT (a_this 1) o4.2)) H := hP.perm (wj_back [cT dT (a_this 1) o4.2] [cSP a_this] [1, 0] rfl)
    have hD : va_D A (cSP a_this ++ (cT dT (a_this 1) o4.2)) := hD.perm (wj_back [cT dT (a_this 1) o4.2] [cSP a_this] [1, 0] rfl)
    refine W.widen (k := 2) (n := 12) (Nat.le_of_ble_eq_true rfl) (Nat.le_of_ble_eq_true rfl) ?_
    exact vx_ret (rt_i hx hb hr hlk hK hS (o4.2 : TT) (Option.some.inj h).symm hP hD dX8_append_37)
  · replace h := iteF c3 h
    exact th_S (k := 1) exOkS rfl (List.mem_of_getElem? (i := 1) rfl) hlt hx hb (hl.1.trans hml.symm) hlk hnt hqs hown hE hK hS (g_this_text : TT) (xoP_of h) hP hD rfl rfl rfl rfl rfl rfl dX8_append_18 dX8_append_21 dX8_append_22 dX8_append_24 dX8_append_27

def f_X8_clearText (g_this_text : TT) : Option (Int32 × (TT)) :=
  ((f_X6_empty g_this_text).bind fun o1 => (some (o1.1, o1.2)))
set_option maxHeartbeats 8000000 in
set_option maxRecDepth 100000 in
theorem c_X8_clearText (l : Launch) (hlt : l.stackTraces = false) (D : va_G) (dT : Nat → ClassId) (a_this : Nat → Nat → Nat) (g_this_text : TT) (o : (Int32 × (TT))) (h : f_X8_clearText g_this_text = some o) (sz : Nat) : Met l yX8_clearText (WSm yX8_clearText cX8_clearText 1 (some .int)) { frames := 1, cells := 0, slots := 0, locals := 21 } (va_Pc [.ref (a_this 0 0)] (cPre D dT (cSP a_this ++ (cT dT (a_this 1) g_this_text)) sz)) (va_Qi (fun (r : Int32) (u : TT) => r = o.1 ∧ u = o.2) (fun u t => cAt D dT (va_A (cSP a_this ++ (cT dT (a_this 1) g_this_text)) sz) (cSP a_this ++ (cT dT (a_this 1) u)) t) (va_A (cSP a_this ++ (cT dT (a_this 1) g_this_text)) sz)) 0 0 (va_A (cSP a_this ++ (cT dT (a_this 1) g_this_text)) sz) := by
  refine mStart (WS := (cSP a_this ++ (cT dT (a_this 1) g_this_text))) (Qc := fun A => va_Qi (fun (r : Int32) (u : TT) => r = o.1 ∧ u = o.2) (fun u t => cAt D dT A (cSP a_this ++ (cT dT (a_this 1) u)) t) A) RX8 rfl (by decide) (Nat.le_of_ble_eq_true rfl) ?_ sz
  intro p e s m below meth c A ls hx hb hml hr hlk hnm hts hqs hown hE hA hK hP hD hS hl
  have hl : lv_has ls 1 [(0, .ref (a_this 0 0))] := hl
  unfold f_X8_clearText at h
  refine lv_aload_n hx hb dX8_clearText_0 rfl (lv_at hl 0 rfl) ?_
  refine gf_X8_10 (v := .ref ((a_this 1) 0)) hx hb hqs hown hK hP 0 rfl rfl dX8_clearText_1 ?_
  obtain ⟨o1, e1, h⟩ := obind h
  have hPq : va_P D vwCl ((cT dT (a_this 1) g_this_text) ++ (cSP a_this)) _ := hP.perm (wj_split [cSP a_this, cT dT (a_this 1) g_this_text] [1] [0] rfl)
  have hDq : va_D A ((cT dT (a_this 1) g_this_text) ++ (cSP a_this)) := hD.perm (wj_split [cSP a_this, cT dT (a_this 1) g_this_text] [1] [0] rfl)
  have hPc := hPq.left
  have hDc := hDq.left
  have hFc := va_freeL hDq hS hA
  refine cl_iL (wr := (cSP a_this)) (va_runV (As := []) (rest := []) ⟨hx, hb, hml, hown, hts⟩ (c_X6_empty l hlt D dT (a_this 1) g_this_text o1 e1 _) (cwV 0 hts (TB_V w_1062 w_1063 w_1064 w_34 w_1065) rfl rfl rfl ⟨rfl, nd_X6_empty⟩ ⟨Nat.le_of_ble_eq_true rfl, Nat.le_of_ble_eq_true rfl⟩) (cPre.V hPc hDc hK hE hS hFc (va_recv hK hPc (ci := 5) (q0 := 0) rfl rfl)) rfl rfl hl.1 rfl (lv_room (Nat.le_of_ble_eq_true rfl)) dX8_clearText_4 ⟨Nat.zero_le _, Nat.zero_le _⟩) hPq hDq hS hFc (fun r1 u1 H locs hw hP hD hS => ?_)
  obtain ⟨rfl, rfl⟩ := hw
  have hP : va_P D vwCl (cSP a_this ++ (cT dT (a_this 1) o1.2)) H := hP.perm (wj_back [cT dT (a_this 1) o1.2] [cSP a_this] [1, 0] rfl)
  have hD : va_D A (cSP a_this ++ (cT dT (a_this 1) o1.2)) := hD.perm (wj_back [cT dT (a_this 1) o1.2] [cSP a_this] [1, 0] rfl)
  exact rt_i hx hb hr hlk hK hS (o1.2 : TT) (ret2 h) hP hD dX8_clearText_7

def f_X8_errorPosition (g_this_text : TT) (g_this_entryReader : TE) (g_this_planReader : TR) (v1 : Int32) : Option (Int32 × (TE × TR)) :=
  (if v1 = (0 : Int32) then ((f_X6_firstErrorFor_X0 g_this_text g_this_entryReader).bind fun o2 => (some (o2.1, (o2.2, g_this_planReader)))) else ((f_X6_firstErrorFor_X2 g_this_text g_this_planReader).bind fun o3 => (some (o3.1, (g_this_entryReader, o3.2)))))
set_option maxHeartbeats 8000000 in
set_option maxRecDepth 100000 in
theorem c_X8_errorPosition (l : Launch) (hlt : l.stackTraces = false) (D : va_G) (dT : Nat → ClassId) (a_this : Nat → Nat → Nat) (g_this_text : TT) (g_this_entryReader : TE) (g_this_planReader : TR) (v1 : Int32) (o : (Int32 × (TE × TR))) (h : f_X8_errorPosition g_this_text g_this_entryReader g_this_planReader v1 = some o) (sz : Nat) : Met l yX8_errorPosition (WSm yX8_errorPosition cX8_errorPosition 2 (some .int)) { frames := 4, cells := 0, slots := 0, locals := 87 } (va_Pc [.ref (a_this 0 0), .int v1] (cPre D dT (cSP a_this ++ (cT dT (a_this 1) g_this_text ++ (cE dT (a_this 2) g_this_entryReader ++ (cR dT (a_this 3) g_this_planReader)))) sz)) (va_Qi (fun (r : Int32) (u : TE × TR) => r = o.1 ∧ u = o.2) (fun u t => cAt D dT (va_A (cSP a_this ++ (cT dT (a_this 1) g_this_text ++ (cE dT (a_this 2) g_this_entryReader ++ (cR dT (a_this 3) g_this_planReader)))) sz) (cSP a_this ++ (cT dT (a_this 1) g_this_text ++ (cE dT (a_this 2) (u.1) ++ (cR dT (a_this 3) (u.2))))) t) (va_A (cSP a_this ++ (cT dT (a_this 1) g_this_text ++ (cE dT (a_this 2) g_this_entryReader ++ (cR dT (a_this 3) g_this_planReader)))) sz)) 0 0 (va_A (cSP a_this ++ (cT dT (a_this 1) g_this_text ++ (cE dT (a_this 2) g_this_entryReader ++ (cR dT (a_this 3) g_this_planReader)))) sz) := by
  refine mStart (WS := (cSP a_this ++ (cT dT (a_this 1) g_this_text ++ (cE dT (a_this 2) g_this_entryReader ++ (cR dT (a_this 3) g_this_planReader))))) (Qc := fun A => va_Qi (fun (r : Int32) (u : TE × TR) => r = o.1 ∧ u = o.2) (fun u t => cAt D dT A (cSP a_this ++ (cT dT (a_this 1) g_this_text ++ (cE dT (a_this 2) (u.1) ++ (cR dT (a_this 3) (u.2))))) t) A) RX8 rfl (by decide) (Nat.le_of_ble_eq_true rfl) ?_ sz
  intro p e s m below meth c A ls hx hb hml hr hlk hnm hts hqs hown hE hA hK hP hD hS hl
  have hl : lv_has ls 2 [(0, .ref (a_this 0 0)), (1, .int v1)] := hl
  unfold f_X8_errorPosition at h
  refine lv_iload_n hx hb dX8_errorPosition_0 rfl (lv_at hl 1 rfl) ?_
  refine lv_if_eq (tgt := 18) hx hb dX8_errorPosition_1 (by decide) (fun c1 => ?_) (fun c1 => ?_)
  · replace h := iteT c1 h
    refine lv_aload_n hx hb dX8_errorPosition_18 rfl (lv_at hl 0 rfl) ?_
    refine gf_X8_10 (v := .ref ((a_this 1) 0)) hx hb hqs hown hK hP 0 rfl rfl dX8_errorPosition_19 ?_
    refine lv_aload_n hx hb dX8_errorPosition_22 rfl (lv_at hl 0 rfl) ?_
    refine gf_X8_19 (v := .ref ((a_this 2) 0)) hx hb hqs hown hK hP 0 rfl rfl dX8_errorPosition_23 ?_
    obtain ⟨o2, e2, h⟩ := obind h
    have hPq : va_P D vwCl ((cT dT (a_this 1) g_this_text ++ (cE dT (a_this 2) g_this_entryReader)) ++ (cSP a_this ++ (cR dT (a_this 3) g_this_planReader))) _ := hP.perm (wj_split [cSP a_this, cT dT (a_this 1) g_this_text, cE dT (a_this 2) g_this_entryReader, cR dT (a_this 3) g_this_planReader] [1, 2] [0, 3] rfl)
    have hDq : va_D A ((cT dT (a_this 1) g_this_text ++ (cE dT (a_this 2) g_this_entryReader)) ++ (cSP a_this ++ (cR dT (a_this 3) g_this_planReader))) := hD.perm (wj_split [cSP a_this, cT dT (a_this 1) g_this_text, cE dT (a_this 2) g_this_entryReader, cR dT (a_this 3) g_this_planReader] [1, 2] [0, 3] rfl)
    have hPc := hPq.left
    have hDc := hDq.left
    have hFc := va_freeL hDq hS hA
    refine cl_iL (wr := (cSP a_this ++ (cR dT (a_this 3) g_this_planReader))) (va_runV (As := [.ref ((a_this 2) 0)]) (rest := []) ⟨hx, hb, hml, hown, hts⟩ (c_X6_firstErrorFor_X0 l hlt D dT (a_this 1) (a_this 2) g_this_text g_this_entryReader o2 e2 _) (cwV 1 hts (TB_V w_643 w_644 w_645 w_34 w_646) rfl rfl rfl ⟨rfl, nd_X6_firstErrorFor⟩ ⟨Nat.le_of_ble_eq_true rfl, Nat.le_of_ble_eq_true rfl⟩) (cPre.V hPc hDc hK hE hS hFc (va_recv hK hPc (ci := 5) (q0 := 0) rfl rfl)) rfl rfl hl.1 rfl (lv_room (Nat.le_of_ble_eq_true rfl)) dX8_errorPosition_26 ⟨Nat.zero_le _, Nat.zero_le _⟩) hPq hDq hS hFc (fun r2 u2 H locs hw hP hD hS => ?_)
    obtain ⟨rfl, rfl⟩ := hw
    have hP : va_P D vwCl (cSP a_this ++ (cT dT (a_this 1) g_this_text ++ (cE dT (a_this 2) o2.2 ++ (cR dT (a_this 3) g_this_planReader)))) H := hP.perm (wj_back [cT dT (a_this 1) g_this_text, cE dT (a_this 2) o2.2] [cSP a_this, cR dT (a_this 3) g_this_planReader] [2, 0, 1, 3] rfl)
    have hD : va_D A (cSP a_this ++ (cT dT (a_this 1) g_this_text ++ (cE dT (a_this 2) o2.2 ++ (cR dT (a_this 3) g_this_planReader)))) := hD.perm (wj_back [cT dT (a_this 1) g_this_text, cE dT (a_this 2) o2.2] [cSP a_this, cR dT (a_this 3) g_this_planReader] [2, 0, 1, 3] rfl)
    exact rt_i hx hb hr hlk hK hS ((o2.2, g_this_planReader) : TE × TR) (ret2 h) hP hD dX8_errorPosition_29
  · replace h := iteF c1 h
    refine lv_aload_n hx hb dX8_errorPosition_4 rfl (lv_at hl 0 rfl) ?_
    refine gf_X8_10 (v := .ref ((a_this 1) 0)) hx hb hqs hown hK hP 0 rfl rfl dX8_errorPosition_5 ?_
    refine lv_aload_n hx hb dX8_errorPosition_8 rfl (lv_at hl 0 rfl) ?_
    refine gf_X8_26 (v := .ref ((a_this 3) 0)) hx hb hqs hown hK hP 0 rfl rfl dX8_errorPosition_9 ?_
    obtain ⟨o3, e3, h⟩ := obind h
    have hPq : va_P D vwCl ((cT dT (a_this 1) g_this_text ++ (cR dT (a_this 3) g_this_planReader)) ++ (cSP a_this ++ (cE dT (a_this 2) g_this_entryReader))) _ := hP.perm (wj_split [cSP a_this, cT dT (a_this 1) g_this_text, cE dT (a_this 2) g_this_entryReader, cR dT (a_this 3) g_this_planReader] [1, 3] [0, 2] rfl)
    have hDq : va_D A ((cT dT (a_this 1) g_this_text ++ (cR dT (a_this 3) g_this_planReader)) ++ (cSP a_this ++ (cE dT (a_this 2) g_this_entryReader))) := hD.perm (wj_split [cSP a_this, cT dT (a_this 1) g_this_text, cE dT (a_this 2) g_this_entryReader, cR dT (a_this 3) g_this_planReader] [1, 3] [0, 2] rfl)
    have hPc := hPq.left
    have hDc := hDq.left
    have hFc := va_freeL hDq hS hA
    refine cl_iL (wr := (cSP a_this ++ (cE dT (a_this 2) g_this_entryReader))) (va_runV (As := [.ref ((a_this 3) 0)]) (rest := []) ⟨hx, hb, hml, hown, hts⟩ (c_X6_firstErrorFor_X2 l hlt D dT (a_this 1) (a_this 3) g_this_text g_this_planReader o3 e3 _) (cwV 1 hts (TB_V w_643 w_644 w_645 w_34 w_646) rfl rfl rfl ⟨rfl, nd_X6_firstErrorFor⟩ ⟨Nat.le_of_ble_eq_true rfl, Nat.le_of_ble_eq_true rfl⟩) (cPre.V hPc hDc hK hE hS hFc (va_recv hK hPc (ci := 5) (q0 := 0) rfl rfl)) rfl rfl hl.1 rfl (lv_room (Nat.le_of_ble_eq_true rfl)) dX8_errorPosition_12 ⟨Nat.zero_le _, Nat.zero_le _⟩) hPq hDq hS hFc (fun r3 u3 H locs hw hP hD hS => ?_)
    obtain ⟨rfl, rfl⟩ := hw
    have hP : va_P D vwCl (cSP a_this ++ (cT dT (a_this 1) g_this_text ++ (cE dT (a_this 2) g_this_entryReader ++ (cR dT (a_this 3) o3.2)))) H := hP.perm (wj_back [cT dT (a_this 1) g_this_text, cR dT (a_this 3) o3.2] [cSP a_this, cE dT (a_this 2) g_this_entryReader] [2, 0, 3, 1] rfl)
    have hD : va_D A (cSP a_this ++ (cT dT (a_this 1) g_this_text ++ (cE dT (a_this 2) g_this_entryReader ++ (cR dT (a_this 3) o3.2)))) := hD.perm (wj_back [cT dT (a_this 1) g_this_text, cR dT (a_this 3) o3.2] [cSP a_this, cE dT (a_this 2) g_this_entryReader] [2, 0, 3, 1] rfl)
    refine lv_goto (tgt := 29) hx hb dX8_errorPosition_15 (by decide) ?_
    exact rt_i hx hb hr hlk hK hS ((g_this_entryReader, o3.2) : TE × TR) (ret2 h) hP hD dX8_errorPosition_29

def f_X8_doEntry (g_this_entryReader : TE) (g_this_world : TW) : Option (Int32 × (TW)) :=
  ((f_X0_isTable g_this_entryReader).bind fun o1 => (if o1.1 = (0 : Int32) then ((f_X7_hasTwoTables g_this_world (E_first g_this_entryReader) (E_second g_this_entryReader)).bind fun o3 => (if o3.1 = (0 : Int32) then (some ((0 : Int32), g_this_world)) else ((f_X8_pairIndex (E_first g_this_entryReader) (E_second g_this_entryReader)).bind fun o5 => ((f_X7_linkPair g_this_world o5.1 (E_guess g_this_entryReader) (E_number g_this_entryReader)).bind fun o6 => (some ((1 : Int32), o6.2)))))) else ((f_X7_isFull g_this_world).bind fun o7 => (if o7.1 = (0 : Int32) then ((f_X7_addTable g_this_world (E_number g_this_entryReader)).bind fun o9 => (some ((1 : Int32), o9.2))) else (some ((0 : Int32), g_this_world))))))
set_option maxHeartbeats 8000000 in
set_option maxRecDepth 100000 in
theorem c_X8_doEntry (l : Launch) (hlt : l.stackTraces = false) (D : va_G) (dT : Nat → ClassId) (a_this : Nat → Nat → Nat) (g_this_entryReader : TE) (g_this_world : TW) (o : (Int32 × (TW))) (h : f_X8_doEntry g_this_entryReader g_this_world = some o) (sz : Nat) : Met l yX8_doEntry (WSm yX8_doEntry cX8_doEntry 2 (some .boolean)) { frames := 3, cells := 0, slots := 0, locals := 66 } (va_Pc [.ref (a_this 0 0)] (cPre D dT (cSP a_this ++ (cE dT (a_this 2) g_this_entryReader ++ (cW dT (a_this 4) g_this_world))) sz)) (va_Qi (fun (r : Int32) (u : TW) => r = o.1 ∧ u = o.2) (fun u t => cAt D dT (va_A (cSP a_this ++ (cE dT (a_this 2) g_this_entryReader ++ (cW dT (a_this 4) g_this_world))) sz) (cSP a_this ++ (cE dT (a_this 2) g_this_entryReader ++ (cW dT (a_this 4) u))) t) (va_A (cSP a_this ++ (cE dT (a_this 2) g_this_entryReader ++ (cW dT (a_this 4) g_this_world))) sz)) 0 0 (va_A (cSP a_this ++ (cE dT (a_this 2) g_this_entryReader ++ (cW dT (a_this 4) g_this_world))) sz) := by
  refine mStart (WS := (cSP a_this ++ (cE dT (a_this 2) g_this_entryReader ++ (cW dT (a_this 4) g_this_world)))) (Qc := fun A => va_Qi (fun (r : Int32) (u : TW) => r = o.1 ∧ u = o.2) (fun u t => cAt D dT A (cSP a_this ++ (cE dT (a_this 2) g_this_entryReader ++ (cW dT (a_this 4) u))) t) A) RX8 rfl (by decide) (Nat.le_of_ble_eq_true rfl) ?_ sz
  intro p e s m below meth c A ls hx hb hml hr hlk hnm hts hqs hown hE hA hK hP hD hS hl
  have hl : lv_has ls 2 [(0, .ref (a_this 0 0))] := hl
  unfold f_X8_doEntry at h
  refine lv_aload_n hx hb dX8_doEntry_0 rfl (lv_at hl 0 rfl) ?_
  refine gf_X8_19 (v := .ref ((a_this 2) 0)) hx hb hqs hown hK hP 0 rfl rfl dX8_doEntry_1 ?_
  obtain ⟨o1, e1, h⟩ := obind h
  have hPq : va_P D vwCl ((cE dT (a_this 2) g_this_entryReader) ++ (cSP a_this ++ (cW dT (a_this 4) g_this_world))) _ := hP.perm (wj_split [cSP a_this, cE dT (a_this 2) g_this_entryReader, cW dT (a_this 4) g_this_world] [1] [0, 2] rfl)
  have hDq : va_D A ((cE dT (a_this 2) g_this_entryReader) ++ (cSP a_this ++ (cW dT (a_this 4) g_this_world))) := hD.perm (wj_split [cSP a_this, cE dT (a_this 2) g_this_entryReader, cW dT (a_this 4) g_this_world] [1] [0, 2] rfl)
  have hPc := hPq.left
  have hDc := hDq.left
  have hFc := va_freeL hDq hS hA
  refine cl_iL (wr := (cSP a_this ++ (cW dT (a_this 4) g_this_world))) (va_runV (As := []) (rest := []) ⟨hx, hb, hml, hown, hts⟩ (c_X0_isTable l hlt D dT (a_this 2) g_this_entryReader o1 e1 _) (cwV 0 hts (TB_V w_726 w_727 w_728 w_36 w_729) rfl rfl rfl ⟨rfl, nd_X0_isTable⟩ ⟨Nat.le_of_ble_eq_true rfl, Nat.le_of_ble_eq_true rfl⟩) (cPre.V hPc hDc hK hE hS hFc (va_recv hK hPc (ci := 0) (q0 := 0) rfl rfl)) rfl rfl hl.1 rfl (lv_room (Nat.le_of_ble_eq_true rfl)) dX8_doEntry_4 ⟨Nat.zero_le _, Nat.zero_le _⟩) hPq hDq hS hFc (fun r1 u1 H locs hw hP hD hS => ?_)
  obtain ⟨rfl, rfl⟩ := hw
  have hP : va_P D vwCl (cSP a_this ++ (cE dT (a_this 2) g_this_entryReader ++ (cW dT (a_this 4) g_this_world))) H := hP.perm (wj_back [cE dT (a_this 2) g_this_entryReader] [cSP a_this, cW dT (a_this 4) g_this_world] [1, 0, 2] rfl)
  have hD : va_D A (cSP a_this ++ (cE dT (a_this 2) g_this_entryReader ++ (cW dT (a_this 4) g_this_world))) := hD.perm (wj_back [cE dT (a_this 2) g_this_entryReader] [cSP a_this, cW dT (a_this 4) g_this_world] [1, 0, 2] rfl)
  refine lv_if_eq (tgt := 39) hx hb dX8_doEntry_7 (by decide) (fun c2 => ?_) (fun c2 => ?_)
  · replace h := iteT c2 h
    refine lv_aload_n hx hb dX8_doEntry_39 rfl (lv_at hl 0 rfl) ?_
    refine gf_X8_33 (v := .ref ((a_this 4) 0)) hx hb hqs hown hK hP 0 rfl rfl dX8_doEntry_40 ?_
    refine lv_aload_n hx hb dX8_doEntry_43 rfl (lv_at hl 0 rfl) ?_
    refine gf_X8_19 (v := .ref ((a_this 2) 0)) hx hb hqs hown hK hP 0 rfl rfl dX8_doEntry_44 ?_
    refine gf_X8_323 (v := .int (E_first g_this_entryReader)) hx hb hqs hown hK hP 1 rfl rfl dX8_doEntry_47 ?_
    refine lv_aload_n hx hb dX8_doEntry_50 rfl (lv_at hl 0 rfl) ?_
    refine gf_X8_19 (v := .ref ((a_this 2) 0)) hx hb hqs hown hK hP 0 rfl rfl dX8_doEntry_51 ?_
    refine gf_X8_326 (v := .int (E_second g_this_entryReader)) hx hb hqs hown hK hP 1 rfl rfl dX8_doEntry_54 ?_
    obtain ⟨o3, e3, h⟩ := obind h
    have hPq : va_P D vwCl ((cW dT (a_this 4) g_this_world) ++ (cSP a_this ++ (cE dT (a_this 2) g_this_entryReader))) _ := hP.perm (wj_split [cSP a_this, cE dT (a_this 2) g_this_entryReader, cW dT (a_this 4) g_this_world] [2] [0, 1] rfl)
    have hDq : va_D A ((cW dT (a_this 4) g_this_world) ++ (cSP a_this ++ (cE dT (a_this 2) g_this_entryReader))) := hD.perm (wj_split [cSP a_this, cE dT (a_this 2) g_this_entryReader, cW dT (a_this 4) g_this_world] [2] [0, 1] rfl)
    have hPc := hPq.left
    have hDc := hDq.left
    have hFc := va_freeL hDq hS hA
    refine cl_iL (wr := (cSP a_this ++ (cE dT (a_this 2) g_this_entryReader))) (va_runV (As := [.int (E_first g_this_entryReader), .int (E_second g_this_entryReader)]) (rest := []) ⟨hx, hb, hml, hown, hts⟩ (c_X7_hasTwoTables l hlt D dT (a_this 4) g_this_world (E_first g_this_entryReader) (E_second g_this_entryReader) o3 e3 _) (cwV 2 hts (TB_V w_522 w_523 w_524 w_38 w_525) rfl rfl rfl ⟨rfl, nd_X7_hasTwoTables⟩ ⟨Nat.le_of_ble_eq_true rfl, Nat.le_of_ble_eq_true rfl⟩) (cPre.V hPc hDc hK hE hS hFc (va_recv hK hPc (ci := 6) (q0 := 0) rfl rfl)) rfl rfl hl.1 rfl (lv_room (Nat.le_of_ble_eq_true rfl)) dX8_doEntry_57 ⟨Nat.zero_le _, Nat.zero_le _⟩) hPq hDq hS hFc (fun r3 u3 H locs hw hP hD hS => ?_)
    obtain ⟨rfl, rfl⟩ := hw
    have hP : va_P D vwCl (cSP a_this ++ (cE dT (a_this 2) g_this_entryReader ++ (cW dT (a_this 4) g_this_world))) H := hP.perm (wj_back [cW dT (a_this 4) g_this_world] [cSP a_this, cE dT (a_this 2) g_this_entryReader] [1, 2, 0] rfl)
    have hD : va_D A (cSP a_this ++ (cE dT (a_this 2) g_this_entryReader ++ (cW dT (a_this 4) g_this_world))) := hD.perm (wj_back [cW dT (a_this 4) g_this_world] [cSP a_this, cE dT (a_this 2) g_this_entryReader] [1, 2, 0] rfl)
    refine lv_if_ne (tgt := 65) hx hb dX8_doEntry_60 (by decide) (fun c4 => ?_) (fun c4 => ?_)
    · replace h := iteF c4 h
      refine lv_aload_n hx hb dX8_doEntry_65 rfl (lv_at hl 0 rfl) ?_
      refine gf_X8_19 (v := .ref ((a_this 2) 0)) hx hb hqs hown hK hP 0 rfl rfl dX8_doEntry_66 ?_
      refine gf_X8_323 (v := .int (E_first g_this_entryReader)) hx hb hqs hown hK hP 1 rfl rfl dX8_doEntry_69 ?_
      refine lv_aload_n hx hb dX8_doEntry_72 rfl (lv_at hl 0 rfl) ?_
      refine gf_X8_19 (v := .ref ((a_this 2) 0)) hx hb hqs hown hK hP 0 rfl rfl dX8_doEntry_73 ?_
      refine gf_X8_326 (v := .int (E_second g_this_entryReader)) hx hb hqs hown hK hP 1 rfl rfl dX8_doEntry_76 ?_
      obtain ⟨o5, e5, h⟩ := obind h
      have hPq : va_P D vwCl (([] : va_W) ++ (cSP a_this ++ (cE dT (a_this 2) g_this_entryReader ++ (cW dT (a_this 4) g_this_world)))) _ := hP.perm (wj_split [cSP a_this, cE dT (a_this 2) g_this_entryReader, cW dT (a_this 4) g_this_world] [] [0, 1, 2] rfl)
      have hDq : va_D A (([] : va_W) ++ (cSP a_this ++ (cE dT (a_this 2) g_this_entryReader ++ (cW dT (a_this 4) g_this_world)))) := hD.perm (wj_split [cSP a_this, cE dT (a_this 2) g_this_entryReader, cW dT (a_this 4) g_this_world] [] [0, 1, 2] rfl)
      have hPc := hPq.left
      have hDc := hDq.left
      have hFc := va_freeL hDq hS hA
      refine cl_iL (wr := (cSP a_this ++ (cE dT (a_this 2) g_this_entryReader ++ (cW dT (a_this 4) g_this_world)))) (va_runS (As := [.int (E_first g_this_entryReader), .int (E_second g_this_entryReader)]) (rest := []) ⟨hx, hb, hml, hown, hts⟩ (c_X8_pairIndex l hlt D dT (E_first g_this_entryReader) (E_second g_this_entryReader) o5 e5 _) (va_cwS 2 hts (TB_S w_530 w_473 w_33 w_474) rfl rfl rfl nd_X8_pairIndex ⟨Nat.le_of_ble_eq_true rfl, Nat.le_of_ble_eq_true rfl⟩) (cPre.S hPc hDc hK hE hS hFc) rfl rfl hl.1 rfl (lv_room (Nat.le_of_ble_eq_true rfl)) dX8_doEntry_79 ⟨Nat.zero_le _, Nat.zero_le _⟩) hPq hDq hS hFc (fun r5 u5 H locs hw hP hD hS => ?_)
      obtain ⟨rfl, rfl⟩ := hw
      have hP : va_P D vwCl (cSP a_this ++ (cE dT (a_this 2) g_this_entryReader ++ (cW dT (a_this 4) g_this_world))) H := hP.perm (wj_back [] [cSP a_this, cE dT (a_this 2) g_this_entryReader, cW dT (a_this 4) g_this_world] [0, 1, 2] rfl)
      have hD : va_D A (cSP a_this ++ (cE dT (a_this 2) g_this_entryReader ++ (cW dT (a_this 4) g_this_world))) := hD.perm (wj_back [] [cSP a_this, cE dT (a_this 2) g_this_entryReader, cW dT (a_this 4) g_this_world] [0, 1, 2] rfl)
      refine lv_istore_n (lv' := [(1, .int o5.1), (0, .ref (a_this 0 0))]) hx hb dX8_doEntry_82 rfl hl (by decide) rfl (fun ls hl => ?_)
      refine lv_aload_n hx hb dX8_doEntry_83 rfl (lv_at hl 1 rfl) ?_
      refine gf_X8_33 (v := .ref ((a_this 4) 0)) hx hb hqs hown hK hP 0 rfl rfl dX8_doEntry_84 ?_
      refine lv_iload_n hx hb dX8_doEntry_87 rfl (lv_at hl 0 rfl) ?_
      refine lv_aload_n hx hb dX8_doEntry_88 rfl (lv_at hl 1 rfl) ?_
      refine gf_X8_19 (v := .ref ((a_this 2) 0)) hx hb hqs hown hK hP 0 rfl rfl dX8_doEntry_89 ?_
      refine gf_X8_332 (v := .int (E_guess g_this_entryReader)) hx hb hqs hown hK hP 1 rfl rfl dX8_doEntry_92 ?_
      refine lv_aload_n hx hb dX8_doEntry_95 rfl (lv_at hl 1 rfl) ?_
      refine gf_X8_19 (v := .ref ((a_this 2) 0)) hx hb hqs hown hK hP 0 rfl rfl dX8_doEntry_96 ?_
      refine gf_X8_320 (v := .int (E_number g_this_entryReader)) hx hb hqs hown hK hP 1 rfl rfl dX8_doEntry_99 ?_
      obtain ⟨o6, e6, h⟩ := obind h
      have hPq : va_P D vwCl ((cW dT (a_this 4) g_this_world) ++ (cSP a_this ++ (cE dT (a_this 2) g_this_entryReader))) _ := hP.perm (wj_split [cSP a_this, cE dT (a_this 2) g_this_entryReader, cW dT (a_this 4) g_this_world] [2] [0, 1] rfl)
      have hDq : va_D A ((cW dT (a_this 4) g_this_world) ++ (cSP a_this ++ (cE dT (a_this 2) g_this_entryReader))) := hD.perm (wj_split [cSP a_this, cE dT (a_this 2) g_this_entryReader, cW dT (a_this 4) g_this_world] [2] [0, 1] rfl)
      have hPc := hPq.left
      have hDc := hDq.left
      have hFc := va_freeL hDq hS hA
      refine cl_iL (wr := (cSP a_this ++ (cE dT (a_this 2) g_this_entryReader))) (va_runV (As := [.int o5.1, .int (E_guess g_this_entryReader), .int (E_number g_this_entryReader)]) (rest := []) ⟨hx, hb, hml, hown, hts⟩ (c_X7_linkPair l hlt D dT (a_this 4) g_this_world o5.1 (E_guess g_this_entryReader) (E_number g_this_entryReader) o6 e6 _) (cwV 3 hts (TB_V w_559 w_560 w_561 w_38 w_562) rfl rfl rfl ⟨rfl, nd_X7_linkPair⟩ ⟨Nat.le_of_ble_eq_true rfl, Nat.le_of_ble_eq_true rfl⟩) (cPre.V hPc hDc hK hE hS hFc (va_recv hK hPc (ci := 6) (q0 := 0) rfl rfl)) rfl rfl hl.1 rfl (lv_room (Nat.le_of_ble_eq_true rfl)) dX8_doEntry_102 ⟨Nat.zero_le _, Nat.zero_le _⟩) hPq hDq hS hFc (fun r6 u6 H locs hw hP hD hS => ?_)
      obtain ⟨rfl, rfl⟩ := hw
      have hP : va_P D vwCl (cSP a_this ++ (cE dT (a_this 2) g_this_entryReader ++ (cW dT (a_this 4) o6.2))) H := hP.perm (wj_back [cW dT (a_this 4) o6.2] [cSP a_this, cE dT (a_this 2) g_this_entryReader] [1, 2, 0] rfl)
      have hD : va_D A (cSP a_this ++ (cE dT (a_this 2) g_this_entryReader ++ (cW dT (a_this 4) o6.2))) := hD.perm (wj_back [cW dT (a_this 4) o6.2] [cSP a_this, cE dT (a_this 2) g_this_entryReader] [1, 2, 0] rfl)
      refine lv_pop hx hb dX8_doEntry_105 rfl ?_
      refine lv_iconst (v := 1) hx hb dX8_doEntry_106 (by decide) ?_
      exact rt_z hx hb hr hlk hK hS (o6.2 : TW) (ret2 h) (by decide) hP hD dX8_doEntry_107
    · replace h := iteT c4 h
      refine lv_iconst (v := 0) hx hb dX8_doEntry_63 (by decide) ?_
      exact rt_z hx hb hr hlk hK hS (g_this_world : TW) (ret2 h) (by decide) hP hD dX8_doEntry_64
  · replace h := iteF c2 h
    refine lv_aload_n hx hb dX8_doEntry_10 rfl (lv_at hl 0 rfl) ?_
    refine gf_X8_33 (v := .ref ((a_this 4) 0)) hx hb hqs hown hK hP 0 rfl rfl dX8_doEntry_11 ?_
    obtain ⟨o7, e7, h⟩ := obind h
    have hPq : va_P D vwCl ((cW dT (a_this 4) g_this_world) ++ (cSP a_this ++ (cE dT (a_this 2) g_this_entryReader))) _ := hP.perm (wj_split [cSP a_this, cE dT (a_this 2) g_this_entryReader, cW dT (a_this 4) g_this_world] [2] [0, 1] rfl)
    have hDq : va_D A ((cW dT (a_this 4) g_this_world) ++ (cSP a_this ++ (cE dT (a_this 2) g_this_entryReader))) := hD.perm (wj_split [cSP a_this, cE dT (a_this 2) g_this_entryReader, cW dT (a_this 4) g_this_world] [2] [0, 1] rfl)
    have hPc := hPq.left
    have hDc := hDq.left
    have hFc := va_freeL hDq hS hA
    refine cl_iL (wr := (cSP a_this ++ (cE dT (a_this 2) g_this_entryReader))) (va_runV (As := []) (rest := []) ⟨hx, hb, hml, hown, hts⟩ (c_X7_isFull l hlt D dT (a_this 4) g_this_world o7 e7 _) (cwV 0 hts (TB_V w_730 w_731 w_732 w_38 w_733) rfl rfl rfl ⟨rfl, nd_X7_isFull⟩ ⟨Nat.le_of_ble_eq_true rfl, Nat.le_of_ble_eq_true rfl⟩) (cPre.V hPc hDc hK hE hS hFc (va_recv hK hPc (ci := 6) (q0 := 0) rfl rfl)) rfl rfl hl.1 rfl (lv_room (Nat.le_of_ble_eq_true rfl)) dX8_doEntry_14 ⟨Nat.zero_le _, Nat.zero_le _⟩) hPq hDq hS hFc (fun r7 u7 H locs hw hP hD hS => ?_)
    obtain ⟨rfl, rfl⟩ := hw
    have hP : va_P D vwCl (cSP a_this ++ (cE dT (a_this 2) g_this_entryReader ++ (cW dT (a_this 4) g_this_world))) H := hP.perm (wj_back [cW dT (a_this 4) g_this_world] [cSP a_this, cE dT (a_this 2) g_this_entryReader] [1, 2, 0] rfl)
    have hD : va_D A (cSP a_this ++ (cE dT (a_this 2) g_this_entryReader ++ (cW dT (a_this 4) g_this_world))) := hD.perm (wj_back [cW dT (a_this 4) g_this_world] [cSP a_this, cE dT (a_this 2) g_this_entryReader] [1, 2, 0] rfl)
    refine lv_if_eq (tgt := 22) hx hb dX8_doEntry_17 (by decide) (fun c8 => ?_) (fun c8 => ?_)
    · replace h := iteT c8 h
      refine lv_aload_n hx hb dX8_doEntry_22 rfl (lv_at hl 0 rfl) ?_
      refine gf_X8_33 (v := .ref ((a_this 4) 0)) hx hb hqs hown hK hP 0 rfl rfl dX8_doEntry_23 ?_
      refine lv_aload_n hx hb dX8_doEntry_26 rfl (lv_at hl 0 rfl) ?_
      refine gf_X8_19 (v := .ref ((a_this 2) 0)) hx hb hqs hown hK hP 0 rfl rfl dX8_doEntry_27 ?_
      refine gf_X8_320 (v := .int (E_number g_this_entryReader)) hx hb hqs hown hK hP 1 rfl rfl dX8_doEntry_30 ?_
      obtain ⟨o9, e9, h⟩ := obind h
      have hPq : va_P D vwCl ((cW dT (a_this 4) g_this_world) ++ (cSP a_this ++ (cE dT (a_this 2) g_this_entryReader))) _ := hP.perm (wj_split [cSP a_this, cE dT (a_this 2) g_this_entryReader, cW dT (a_this 4) g_this_world] [2] [0, 1] rfl)
      have hDq : va_D A ((cW dT (a_this 4) g_this_world) ++ (cSP a_this ++ (cE dT (a_this 2) g_this_entryReader))) := hD.perm (wj_split [cSP a_this, cE dT (a_this 2) g_this_entryReader, cW dT (a_this 4) g_this_world] [2] [0, 1] rfl)
      have hPc := hPq.left
      have hDc := hDq.left
      have hFc := va_freeL hDq hS hA
      refine cl_iL (wr := (cSP a_this ++ (cE dT (a_this 2) g_this_entryReader))) (va_runV (As := [.int (E_number g_this_entryReader)]) (rest := []) ⟨hx, hb, hml, hown, hts⟩ (c_X7_addTable l hlt D dT (a_this 4) g_this_world (E_number g_this_entryReader) o9 e9 _) (cwV 1 hts (TB_V w_734 w_735 w_736 w_38 w_737) rfl rfl rfl ⟨rfl, nd_X7_addTable⟩ ⟨Nat.le_of_ble_eq_true rfl, Nat.le_of_ble_eq_true rfl⟩) (cPre.V hPc hDc hK hE hS hFc (va_recv hK hPc (ci := 6) (q0 := 0) rfl rfl)) rfl rfl hl.1 rfl (lv_room (Nat.le_of_ble_eq_true rfl)) dX8_doEntry_33 ⟨Nat.zero_le _, Nat.zero_le _⟩) hPq hDq hS hFc (fun r9 u9 H locs hw hP hD hS => ?_)
      obtain ⟨rfl, rfl⟩ := hw
      have hP : va_P D vwCl (cSP a_this ++ (cE dT (a_this 2) g_this_entryReader ++ (cW dT (a_this 4) o9.2))) H := hP.perm (wj_back [cW dT (a_this 4) o9.2] [cSP a_this, cE dT (a_this 2) g_this_entryReader] [1, 2, 0] rfl)
      have hD : va_D A (cSP a_this ++ (cE dT (a_this 2) g_this_entryReader ++ (cW dT (a_this 4) o9.2))) := hD.perm (wj_back [cW dT (a_this 4) o9.2] [cSP a_this, cE dT (a_this 2) g_this_entryReader] [1, 2, 0] rfl)
      refine lv_pop hx hb dX8_doEntry_36 rfl ?_
      refine lv_iconst (v := 1) hx hb dX8_doEntry_37 (by decide) ?_
      exact rt_z hx hb hr hlk hK hS (o9.2 : TW) (ret2 h) (by decide) hP hD dX8_doEntry_38
    · replace h := iteF c8 h
      refine lv_iconst (v := 0) hx hb dX8_doEntry_20 (by decide) ?_
      exact rt_z hx hb hr hlk hK hS (g_this_world : TW) (ret2 h) (by decide) hP hD dX8_doEntry_21

def f_X8_readEntries_J63 (g_this_text : TT) (k11 : Int32 → Int32 → TE → TW → Option (Int32 × (TE × TW))) (x1 : Int32) (x2 : Int32) (x3 : Int32) (g_this_entryReader : TE) (g_this_world : TW) : Option (Int32 × (TE × TW)) :=
    ((f_X0_takes g_this_entryReader x3).bind fun o5 => (k11 x1 (x2 + (1 : Int32)) o5.2 g_this_world))
def f_X8_readEntries_J46 (g_this_text : TT) (k11 : Int32 → Int32 → TE → TW → Option (Int32 × (TE × TW))) (x1 : Int32) (x2 : Int32) (s0 : Int32) (g_this_entryReader : TE) (g_this_world : TW) : Option (Int32 × (TE × TW)) :=
    (if s0 = (59 : Int32) then ((f_X8_doEntry g_this_entryReader g_this_world).bind fun o6 => (if o6.1 = (0 : Int32) then (f_X8_readEntries_J63 g_this_text k11 (x1 + (1 : Int32)) x2 s0 g_this_entryReader o6.2) else (f_X8_readEntries_J63 g_this_text k11 x1 x2 s0 g_this_entryReader o6.2))) else (f_X8_readEntries_J63 g_this_text k11 x1 x2 s0 g_this_entryReader g_this_world))
def f_X8_readEntries_L11 (g_this_text : TT)  : Nat → Int32 → Int32 → TE → TW → Option (Int32 × (TE × TW))
  | 0, _, _, _, _ => none
  | n + 1, x1, x2, g_this_entryReader, g_this_world =>
    (if (T_length g_this_text) < x2 then (some (x1, (g_this_entryReader, g_this_world))) else (if (T_length g_this_text) ≤ x2 then (f_X8_readEntries_J46 g_this_text (fun x1 x2 g_this_entryReader g_this_world => f_X8_readEntries_L11 g_this_text n x1 x2 g_this_entryReader g_this_world) x1 x2 (59 : Int32) g_this_entryReader g_this_world) else ((f_X6_signAt g_this_text x2).bind fun o8 => (f_X8_readEntries_J46 g_this_text (fun x1 x2 g_this_entryReader g_this_world => f_X8_readEntries_L11 g_this_text n x1 x2 g_this_entryReader g_this_world) x1 x2 o8.1 g_this_entryReader g_this_world))))
def f_X8_readEntries (g_this_text : TT) (g_this_entryReader : TE) (g_this_world : TW) : Option (Int32 × (TE × TW)) :=
  ((f_X0_begin g_this_entryReader).bind fun o1 => (f_X8_readEntries_L11 g_this_text FUEL (0 : Int32) (0 : Int32) o1.2 g_this_world))
set_option maxHeartbeats 8000000 in
set_option maxRecDepth 100000 in
theorem c_X8_readEntries (l : Launch) (hlt : l.stackTraces = false) (D : va_G) (dT : Nat → ClassId) (a_this : Nat → Nat → Nat) (g_this_text : TT) (g_this_entryReader : TE) (g_this_world : TW) (o : (Int32 × (TE × TW))) (h : f_X8_readEntries g_this_text g_this_entryReader g_this_world = some o) (sz : Nat) : Met l yX8_readEntries (WSm yX8_readEntries cX8_readEntries 4 (some .int)) { frames := 4, cells := 0, slots := 0, locals := 87 } (va_Pc [.ref (a_this 0 0)] (cPre D dT (cSP a_this ++ (cT dT (a_this 1) g_this_text ++ (cE dT (a_this 2) g_this_entryReader ++ (cW dT (a_this 4) g_this_world)))) sz)) (va_Qi (fun (r : Int32) (u : TE × TW) => r = o.1 ∧ u = o.2) (fun u t => cAt D dT (va_A (cSP a_this ++ (cT dT (a_this 1) g_this_text ++ (cE dT (a_this 2) g_this_entryReader ++ (cW dT (a_this 4) g_this_world)))) sz) (cSP a_this ++ (cT dT (a_this 1) g_this_text ++ (cE dT (a_this 2) (u.1) ++ (cW dT (a_this 4) (u.2))))) t) (va_A (cSP a_this ++ (cT dT (a_this 1) g_this_text ++ (cE dT (a_this 2) g_this_entryReader ++ (cW dT (a_this 4) g_this_world)))) sz)) 0 0 (va_A (cSP a_this ++ (cT dT (a_this 1) g_this_text ++ (cE dT (a_this 2) g_this_entryReader ++ (cW dT (a_this 4) g_this_world)))) sz) := by
  refine mStart (WS := (cSP a_this ++ (cT dT (a_this 1) g_this_text ++ (cE dT (a_this 2) g_this_entryReader ++ (cW dT (a_this 4) g_this_world))))) (Qc := fun A => va_Qi (fun (r : Int32) (u : TE × TW) => r = o.1 ∧ u = o.2) (fun u t => cAt D dT A (cSP a_this ++ (cT dT (a_this 1) g_this_text ++ (cE dT (a_this 2) (u.1) ++ (cW dT (a_this 4) (u.2))))) t) A) RX8 rfl (by decide) (Nat.le_of_ble_eq_true rfl) ?_ sz
  intro p e s m below meth c A ls hx hb hml hr hlk hnm hts hqs hown hE hA hK hP hD hS hl
  have hl : lv_has ls 4 [(0, .ref (a_this 0 0))] := hl
  have L_f_X8_readEntries_J63 : ∀ (g_this_text : TT) (x1 : Int32) (x2 : Int32) (x3 : Int32) (g_this_entryReader : TE) (g_this_world : TW) (k11 : Int32 → Int32 → TE → TW → Option (Int32 × (TE × TW))) (hk11 : ∀ (x1 : Int32) (x2 : Int32) (g_this_entryReader : TE) (g_this_world : TW) (H : Heap) (locs : List Loc) (ls : Array Slot), k11 x1 x2 g_this_entryReader g_this_world = some o → va_P D vwCl (cSP a_this ++ (cT dT (a_this 1) g_this_text ++ (cE dT (a_this 2) g_this_entryReader ++ (cW dT (a_this 4) g_this_world)))) H → va_D A (cSP a_this ++ (cT dT (a_this 1) g_this_text ++ (cE dT (a_this 2) g_this_entryReader ++ (cW dT (a_this 4) g_this_world)))) → va_S A s.heap H locs → lv_has ls 4 [(0, .ref (a_this 0 0)), (1, .int x1), (2, .int x2)] → W p l e (headSpec (WSm yX8_readEntries cX8_readEntries 4 (some .int)) { frames := 4, cells := 0, slots := 0, locals := 87 }).room s m [.ref (a_this 0 0)].toArray below meth c H locs 0 0 (MQ below (va_Qi (fun (r : Int32) (u : TE × TW) => r = o.1 ∧ u = o.2) (fun u t => cAt D dT A (cSP a_this ++ (cT dT (a_this 1) g_this_text ++ (cE dT (a_this 2) (u.1) ++ (cW dT (a_this 4) (u.2))))) t) A) [.ref (a_this 0 0)].toArray s 0 0 A) (F0 m 11 ls [])) (H : Heap) (locs : List Loc) (ls : Array Slot), f_X8_readEntries_J63 g_this_text k11 x1 x2 x3 g_this_entryReader g_this_world = some o → va_P D vwCl (cSP a_this ++ (cT dT (a_this 1) g_this_text ++ (cE dT (a_this 2) g_this_entryReader ++ (cW dT (a_this 4) g_this_world)))) H → va_D A (cSP a_this ++ (cT dT (a_this 1) g_this_text ++ (cE dT (a_this 2) g_this_entryReader ++ (cW dT (a_this 4) g_this_world)))) → va_S A s.heap H locs → lv_has ls 4 [(0, .ref (a_this 0 0)), (1, .int x1), (2, .int x2), (3, .int x3)] → W p l e (headSpec (WSm yX8_readEntries cX8_readEntries 4 (some .int)) { frames := 4, cells := 0, slots := 0, locals := 87 }).room s m [.ref (a_this 0 0)].toArray below meth c H locs 0 0 (MQ below (va_Qi (fun (r : Int32) (u : TE × TW) => r = o.1 ∧ u = o.2) (fun u t => cAt D dT A (cSP a_this ++ (cT dT (a_this 1) g_this_text ++ (cE dT (a_this 2) (u.1) ++ (cW dT (a_this 4) (u.2))))) t) A) [.ref (a_this 0 0)].toArray s 0 0 A) (F0 m 63 ls []) := by
    intro g_this_text x1 x2 x3 g_this_entryReader g_this_world k11 hk11 H locs ls h hP hD hS hl
    unfold f_X8_readEntries_J63 at h
    refine lv_aload_n hx hb dX8_readEntries_63 rfl (lv_at hl 0 rfl) ?_
    refine gf_X8_19 (v := .ref ((a_this 2) 0)) hx hb hqs hown hK hP 0 rfl rfl dX8_readEntries_64 ?_
    refine lv_iload_n hx hb dX8_readEntries_67 rfl (lv_at hl 3 rfl) ?_
    obtain ⟨o5, e5, h⟩ := obind h
    have hPq : va_P D vwCl ((cE dT (a_this 2) g_this_entryReader) ++ (cSP a_this ++ (cT dT (a_this 1) g_this_text ++ (cW dT (a_this 4) g_this_world)))) _ := hP.perm (wj_split [cSP a_this, cT dT (a_this 1) g_this_text, cE dT (a_this 2) g_this_entryReader, cW dT (a_this 4) g_this_world] [2] [0, 1, 3] rfl)
    have hDq : va_D A ((cE dT (a_this 2) g_this_entryReader) ++ (cSP a_this ++ (cT dT (a_this 1) g_this_text ++ (cW dT (a_this 4) g_this_world)))) := hD.perm (wj_split [cSP a_this, cT dT (a_this 1) g_this_text, cE dT (a_this 2) g_this_entryReader, cW dT (a_this 4) g_this_world] [2] [0, 1, 3] rfl)
    have hPc := hPq.left
    have hDc := hDq.left
    have hFc := va_freeL hDq hS hA
    refine cl_iL (wr := (cSP a_this ++ (cT dT (a_this 1) g_this_text ++ (cW dT (a_this 4) g_this_world)))) (va_runV (As := [.int x3]) (rest := []) ⟨hx, hb, hml, hown, hts⟩ (c_X0_takes l hlt D dT (a_this 2) g_this_entryReader x3 o5 e5 _) (cwV 1 hts (TB_V w_738 w_668 w_1071 w_36 w_669) rfl rfl rfl ⟨rfl, nd_X0_takes⟩ ⟨Nat.le_of_ble_eq_true rfl, Nat.le_of_ble_eq_true rfl⟩) (cPre.V hPc hDc hK hE hS hFc (va_recv hK hPc (ci := 0) (q0 := 0) rfl rfl)) rfl rfl hl.1 rfl (lv_room (Nat.le_of_ble_eq_true rfl)) dX8_readEntries_68 ⟨Nat.zero_le _, Nat.zero_le _⟩) hPq hDq hS hFc (fun r5 u5 H locs hw hP hD hS => ?_)
    obtain ⟨rfl, rfl⟩ := hw
    have hP : va_P D vwCl (cSP a_this ++ (cT dT (a_this 1) g_this_text ++ (cE dT (a_this 2) o5.2 ++ (cW dT (a_this 4) g_this_world)))) H := hP.perm (wj_back [cE dT (a_this 2) o5.2] [cSP a_this, cT dT (a_this 1) g_this_text, cW dT (a_this 4) g_this_world] [1, 2, 0, 3] rfl)
    have hD : va_D A (cSP a_this ++ (cT dT (a_this 1) g_this_text ++ (cE dT (a_this 2) o5.2 ++ (cW dT (a_this 4) g_this_world)))) := hD.perm (wj_back [cE dT (a_this 2) o5.2] [cSP a_this, cT dT (a_this 1) g_this_text, cW dT (a_this 4) g_this_world] [1, 2, 0, 3] rfl)
    refine lv_pop hx hb dX8_readEntries_71 rfl ?_
    refine lv_iinc (v := (x2 + (1 : Int32))) (lv' := [(2, .int (x2 + (1 : Int32))), (0, .ref (a_this 0 0)), (1, .int x1), (3, .int x3)]) hx hb dX8_readEntries_72 hl (k := 2) rfl rfl (by decide) rfl (fun ls hl => ?_)
    refine lv_goto (tgt := 11) hx hb dX8_readEntries_75 (by decide) ?_
    exact hk11 x1 (x2 + (1 : Int32)) o5.2 g_this_world _ _ _ h hP hD hS (lv_sub hl [1, 2, 0] rfl)
  have L_f_X8_readEntries_J46 : ∀ (g_this_text : TT) (x1 : Int32) (x2 : Int32) (s0 : Int32) (g_this_entryReader : TE) (g_this_world : TW) (k11 : Int32 → Int32 → TE → TW → Option (Int32 × (TE × TW))) (hk11 : ∀ (x1 : Int32) (x2 : Int32) (g_this_entryReader : TE) (g_this_world : TW) (H : Heap) (locs : List Loc) (ls : Array Slot), k11 x1 x2 g_this_entryReader g_this_world = some o → va_P D vwCl (cSP a_this ++ (cT dT (a_this 1) g_this_text ++ (cE dT (a_this 2) g_this_entryReader ++ (cW dT (a_this 4) g_this_world)))) H → va_D A (cSP a_this ++ (cT dT (a_this 1) g_this_text ++ (cE dT (a_this 2) g_this_entryReader ++ (cW dT (a_this 4) g_this_world)))) → va_S A s.heap H locs → lv_has ls 4 [(0, .ref (a_this 0 0)), (1, .int x1), (2, .int x2)] → W p l e (headSpec (WSm yX8_readEntries cX8_readEntries 4 (some .int)) { frames := 4, cells := 0, slots := 0, locals := 87 }).room s m [.ref (a_this 0 0)].toArray below meth c H locs 0 0 (MQ below (va_Qi (fun (r : Int32) (u : TE × TW) => r = o.1 ∧ u = o.2) (fun u t => cAt D dT A (cSP a_this ++ (cT dT (a_this 1) g_this_text ++ (cE dT (a_this 2) (u.1) ++ (cW dT (a_this 4) (u.2))))) t) A) [.ref (a_this 0 0)].toArray s 0 0 A) (F0 m 11 ls [])) (H : Heap) (locs : List Loc) (ls : Array Slot), f_X8_readEntries_J46 g_this_text k11 x1 x2 s0 g_this_entryReader g_this_world = some o → va_P D vwCl (cSP a_this ++ (cT dT (a_this 1) g_this_text ++ (cE dT (a_this 2) g_this_entryReader ++ (cW dT (a_this 4) g_this_world)))) H → va_D A (cSP a_this ++ (cT dT (a_this 1) g_this_text ++ (cE dT (a_this 2) g_this_entryReader ++ (cW dT (a_this 4) g_this_world)))) → va_S A s.heap H locs → lv_has ls 4 [(0, .ref (a_this 0 0)), (1, .int x1), (2, .int x2)] → W p l e (headSpec (WSm yX8_readEntries cX8_readEntries 4 (some .int)) { frames := 4, cells := 0, slots := 0, locals := 87 }).room s m [.ref (a_this 0 0)].toArray below meth c H locs 0 0 (MQ below (va_Qi (fun (r : Int32) (u : TE × TW) => r = o.1 ∧ u = o.2) (fun u t => cAt D dT A (cSP a_this ++ (cT dT (a_this 1) g_this_text ++ (cE dT (a_this 2) (u.1) ++ (cW dT (a_this 4) (u.2))))) t) A) [.ref (a_this 0 0)].toArray s 0 0 A) (F0 m 46 ls [.int s0]) := by
    intro g_this_text x1 x2 s0 g_this_entryReader g_this_world k11 hk11 H locs ls h hP hD hS hl
    unfold f_X8_readEntries_J46 at h
    refine lv_istore_n (lv' := [(3, .int s0), (0, .ref (a_this 0 0)), (1, .int x1), (2, .int x2)]) hx hb dX8_readEntries_46 rfl hl (by decide) rfl (fun ls hl => ?_)
    refine lv_iload_n hx hb dX8_readEntries_47 rfl (lv_at hl 0 rfl) ?_
    refine lv_bipush (v := 59) hx hb dX8_readEntries_48 (by decide) ?_
    refine lv_icmp_ne (tgt := 63) hx hb dX8_readEntries_50 (by decide) (fun c4 => ?_) (fun c4 => ?_)
    · replace h := iteF c4 h
      refine L_f_X8_readEntries_J63 g_this_text x1 x2 s0 g_this_entryReader g_this_world _ hk11 _ _ _ h hP hD hS (lv_sub hl [1, 2, 3, 0] rfl)
    · replace h := iteT c4 h
      refine lv_aload_n hx hb dX8_readEntries_53 rfl (lv_at hl 1 rfl) ?_
      obtain ⟨o6, e6, h⟩ := obind h
      have hPq : va_P D vwCl ((cSP a_this ++ (cE dT (a_this 2) g_this_entryReader ++ (cW dT (a_this 4) g_this_world))) ++ (cT dT (a_this 1) g_this_text)) _ := hP.perm (wj_split [cSP a_this, cT dT (a_this 1) g_this_text, cE dT (a_this 2) g_this_entryReader, cW dT (a_this 4) g_this_world] [0, 2, 3] [1] rfl)
      have hDq : va_D A ((cSP a_this ++ (cE dT (a_this 2) g_this_entryReader ++ (cW dT (a_this 4) g_this_world))) ++ (cT dT (a_this 1) g_this_text)) := hD.perm (wj_split [cSP a_this, cT dT (a_this 1) g_this_text, cE dT (a_this 2) g_this_entryReader, cW dT (a_this 4) g_this_world] [0, 2, 3] [1] rfl)
      have hPc := hPq.left
      have hDc := hDq.left
      have hFc := va_freeL hDq hS hA
      refine cl_iL (wr := (cT dT (a_this 1) g_this_text)) (va_runV (As := []) (rest := []) ⟨hx, hb, hml, hown, hts⟩ (c_X8_doEntry l hlt D dT a_this g_this_entryReader g_this_world o6 e6 _) (cwV 0 hts (TB_V w_722 w_724 w_27 w_33 w_725) rfl rfl rfl ⟨rfl, nd_X8_doEntry⟩ ⟨Nat.le_of_ble_eq_true rfl, Nat.le_of_ble_eq_true rfl⟩) (cPre.V hPc hDc hK hE hS hFc (va_recv hK hPc (ci := 7) (q0 := 0) rfl rfl)) rfl rfl hl.1 rfl (lv_room (Nat.le_of_ble_eq_true rfl)) dX8_readEntries_54 ⟨Nat.zero_le _, Nat.zero_le _⟩) hPq hDq hS hFc (fun r6 u6 H locs hw hP hD hS => ?_)
      obtain ⟨rfl, rfl⟩ := hw
      have hP : va_P D vwCl (cSP a_this ++ (cT dT (a_this 1) g_this_text ++ (cE dT (a_this 2) g_this_entryReader ++ (cW dT (a_this 4) o6.2)))) H := hP.perm (wj_back [cSP a_this, cE dT (a_this 2) g_this_entryReader, cW dT (a_this 4) o6.2] [cT dT (a_this 1) g_this_text] [0, 3, 1, 2] rfl)
      have hD : va_D A (cSP a_this ++ (cT dT (a_this 1) g_this_text ++ (cE dT (a_this 2) g_this_entryReader ++ (cW dT (a_this 4) o6.2)))) := hD.perm (wj_back [cSP a_this, cE dT (a_this 2) g_this_entryReader, cW dT (a_this 4) o6.2] [cT dT (a_this 1) g_this_text] [0, 3, 1, 2] rfl)
      refine lv_if_ne (tgt := 63) hx hb dX8_readEntries_57 (by decide) (fun c7 => ?_) (fun c7 => ?_)
      · replace h := iteF c7 h
        refine L_f_X8_readEntries_J63 g_this_text x1 x2 s0 g_this_entryReader o6.2 _ hk11 _ _ _ h hP hD hS (lv_sub hl [1, 2, 3, 0] rfl)
      · replace h := iteT c7 h
        refine lv_iinc (v := (x1 + (1 : Int32))) (lv' := [(1, .int (x1 + (1 : Int32))), (3, .int s0), (0, .ref (a_this 0 0)), (2, .int x2)]) hx hb dX8_readEntries_60 hl (k := 2) rfl rfl (by decide) rfl (fun ls hl => ?_)
        refine L_f_X8_readEntries_J63 g_this_text (x1 + (1 : Int32)) x2 s0 g_this_entryReader o6.2 _ hk11 _ _ _ h hP hD hS (lv_sub hl [2, 0, 3, 1] rfl)
  have L_f_X8_readEntries_L11 : ∀ (g_this_text : TT)   (n : Nat), ∀ (x1 : Int32) (x2 : Int32) (g_this_entryReader : TE) (g_this_world : TW) (H : Heap) (locs : List Loc) (ls : Array Slot), f_X8_readEntries_L11 g_this_text  n x1 x2 g_this_entryReader g_this_world = some o → va_P D vwCl (cSP a_this ++ (cT dT (a_this 1) g_this_text ++ (cE dT (a_this 2) g_this_entryReader ++ (cW dT (a_this 4) g_this_world)))) H → va_D A (cSP a_this ++ (cT dT (a_this 1) g_this_text ++ (cE dT (a_this 2) g_this_entryReader ++ (cW dT (a_this 4) g_this_world)))) → va_S A s.heap H locs → lv_has ls 4 [(0, .ref (a_this 0 0)), (1, .int x1), (2, .int x2)] → W p l e (headSpec (WSm yX8_readEntries cX8_readEntries 4 (some .int)) { frames := 4, cells := 0, slots := 0, locals := 87 }).room s m [.ref (a_this 0 0)].toArray below meth c H locs 0 0 (MQ below (va_Qi (fun (r : Int32) (u : TE × TW) => r = o.1 ∧ u = o.2) (fun u t => cAt D dT A (cSP a_this ++ (cT dT (a_this 1) g_this_text ++ (cE dT (a_this 2) (u.1) ++ (cW dT (a_this 4) (u.2))))) t) A) [.ref (a_this 0 0)].toArray s 0 0 A) (F0 m 11 ls []) := by
    intro g_this_text   n
    induction n with
    | zero => intro x1 x2 g_this_entryReader g_this_world H locs ls h; exact nomatch h
    | succ n ih =>
      intro x1 x2 g_this_entryReader g_this_world H locs ls h hP hD hS hl
      unfold f_X8_readEntries_L11 at h
      refine lv_iload_n hx hb dX8_readEntries_11 rfl (lv_at hl 2 rfl) ?_
      refine lv_aload_n hx hb dX8_readEntries_12 rfl (lv_at hl 0 rfl) ?_
      refine gf_X8_10 (v := .ref ((a_this 1) 0)) hx hb hqs hown hK hP 0 rfl rfl dX8_readEntries_13 ?_
      refine gf_X8_305 (v := .int (T_length g_this_text)) hx hb hqs hown hK hP 1 rfl rfl dX8_readEntries_16 ?_
      refine lv_icmp_gt (tgt := 78) hx hb dX8_readEntries_19 (by decide) (fun c2 => ?_) (fun c2 => ?_)
      · replace h := iteT c2 h
        refine lv_iload_n hx hb dX8_readEntries_78 rfl (lv_at hl 1 rfl) ?_
        exact rt_i hx hb hr hlk hK hS ((g_this_entryReader, g_this_world) : TE × TW) (ret2 h) hP hD dX8_readEntries_79
      · replace h := iteF c2 h
        refine lv_iload_n hx hb dX8_readEntries_22 rfl (lv_at hl 2 rfl) ?_
        refine lv_aload_n hx hb dX8_readEntries_23 rfl (lv_at hl 0 rfl) ?_
        refine gf_X8_10 (v := .ref ((a_this 1) 0)) hx hb hqs hown hK hP 0 rfl rfl dX8_readEntries_24 ?_
        refine gf_X8_305 (v := .int (T_length g_this_text)) hx hb hqs hown hK hP 1 rfl rfl dX8_readEntries_27 ?_
        refine lv_icmp_ge (tgt := 44) hx hb dX8_readEntries_30 (by decide) (fun c3 => ?_) (fun c3 => ?_)
        · replace h := iteT c3 h
          refine lv_bipush (v := 59) hx hb dX8_readEntries_44 (by decide) ?_
          refine L_f_X8_readEntries_J46 g_this_text x1 x2 (59 : Int32) g_this_entryReader g_this_world _ ih _ _ _ h hP hD hS (lv_sub hl [0, 1, 2] rfl)
        · replace h := iteF c3 h
          refine lv_aload_n hx hb dX8_readEntries_33 rfl (lv_at hl 0 rfl) ?_
          refine gf_X8_10 (v := .ref ((a_this 1) 0)) hx hb hqs hown hK hP 0 rfl rfl dX8_readEntries_34 ?_
          refine lv_iload_n hx hb dX8_readEntries_37 rfl (lv_at hl 2 rfl) ?_
          obtain ⟨o8, e8, h⟩ := obind h
          have hPq : va_P D vwCl ((cT dT (a_this 1) g_this_text) ++ (cSP a_this ++ (cE dT (a_this 2) g_this_entryReader ++ (cW dT (a_this 4) g_this_world)))) _ := hP.perm (wj_split [cSP a_this, cT dT (a_this 1) g_this_text, cE dT (a_this 2) g_this_entryReader, cW dT (a_this 4) g_this_world] [1] [0, 2, 3] rfl)
          have hDq : va_D A ((cT dT (a_this 1) g_this_text) ++ (cSP a_this ++ (cE dT (a_this 2) g_this_entryReader ++ (cW dT (a_this 4) g_this_world)))) := hD.perm (wj_split [cSP a_this, cT dT (a_this 1) g_this_text, cE dT (a_this 2) g_this_entryReader, cW dT (a_this 4) g_this_world] [1] [0, 2, 3] rfl)
          have hPc := hPq.left
          have hDc := hDq.left
          have hFc := va_freeL hDq hS hA
          refine cl_iL (wr := (cSP a_this ++ (cE dT (a_this 2) g_this_entryReader ++ (cW dT (a_this 4) g_this_world)))) (va_runV (As := [.int x2]) (rest := []) ⟨hx, hb, hml, hown, hts⟩ (c_X6_signAt l hlt D dT (a_this 1) g_this_text x2 o8 e8 _) (cwV 1 hts (TB_V w_721 w_661 w_662 w_34 w_663) rfl rfl rfl ⟨rfl, nd_X6_signAt⟩ ⟨Nat.le_of_ble_eq_true rfl, Nat.le_of_ble_eq_true rfl⟩) (cPre.V hPc hDc hK hE hS hFc (va_recv hK hPc (ci := 5) (q0 := 0) rfl rfl)) rfl rfl hl.1 rfl (lv_room (Nat.le_of_ble_eq_true rfl)) dX8_readEntries_38 ⟨Nat.zero_le _, Nat.zero_le _⟩) hPq hDq hS hFc (fun r8 u8 H locs hw hP hD hS => ?_)
          obtain ⟨rfl, rfl⟩ := hw
          have hP : va_P D vwCl (cSP a_this ++ (cT dT (a_this 1) g_this_text ++ (cE dT (a_this 2) g_this_entryReader ++ (cW dT (a_this 4) g_this_world)))) H := hP.perm (wj_back [cT dT (a_this 1) g_this_text] [cSP a_this, cE dT (a_this 2) g_this_entryReader, cW dT (a_this 4) g_this_world] [1, 0, 2, 3] rfl)
          have hD : va_D A (cSP a_this ++ (cT dT (a_this 1) g_this_text ++ (cE dT (a_this 2) g_this_entryReader ++ (cW dT (a_this 4) g_this_world)))) := hD.perm (wj_back [cT dT (a_this 1) g_this_text] [cSP a_this, cE dT (a_this 2) g_this_entryReader, cW dT (a_this 4) g_this_world] [1, 0, 2, 3] rfl)
          refine lv_goto (tgt := 46) hx hb dX8_readEntries_41 (by decide) ?_
          refine L_f_X8_readEntries_J46 g_this_text x1 x2 o8.1 g_this_entryReader g_this_world _ ih _ _ _ h hP hD hS (lv_sub hl [0, 1, 2] rfl)
  unfold f_X8_readEntries at h
  refine lv_iconst (v := 0) hx hb dX8_readEntries_0 (by decide) ?_
  refine lv_istore_n (lv' := [(1, .int (0 : Int32)), (0, .ref (a_this 0 0))]) hx hb dX8_readEntries_1 rfl hl (by decide) rfl (fun ls hl => ?_)
  refine lv_aload_n hx hb dX8_readEntries_2 rfl (lv_at hl 1 rfl) ?_
  refine gf_X8_19 (v := .ref ((a_this 2) 0)) hx hb hqs hown hK hP 0 rfl rfl dX8_readEntries_3 ?_
  obtain ⟨o1, e1, h⟩ := obind h
  have hPq : va_P D vwCl ((cE dT (a_this 2) g_this_entryReader) ++ (cSP a_this ++ (cT dT (a_this 1) g_this_text ++ (cW dT (a_this 4) g_this_world)))) _ := hP.perm (wj_split [cSP a_this, cT dT (a_this 1) g_this_text, cE dT (a_this 2) g_this_entryReader, cW dT (a_this 4) g_this_world] [2] [0, 1, 3] rfl)
  have hDq : va_D A ((cE dT (a_this 2) g_this_entryReader) ++ (cSP a_this ++ (cT dT (a_this 1) g_this_text ++ (cW dT (a_this 4) g_this_world)))) := hD.perm (wj_split [cSP a_this, cT dT (a_this 1) g_this_text, cE dT (a_this 2) g_this_entryReader, cW dT (a_this 4) g_this_world] [2] [0, 1, 3] rfl)
  have hPc := hPq.left
  have hDc := hDq.left
  have hFc := va_freeL hDq hS hA
  refine cl_vL (wr := (cSP a_this ++ (cT dT (a_this 1) g_this_text ++ (cW dT (a_this 4) g_this_world)))) (va_runV (As := []) (rest := []) ⟨hx, hb, hml, hown, hts⟩ (c_X0_begin l hlt D dT (a_this 2) g_this_entryReader o1 e1 _) (cwV 0 hts (TB_V w_720 w_651 w_1070 w_36 w_652) rfl rfl rfl ⟨rfl, nd_X0_begin⟩ ⟨Nat.le_of_ble_eq_true rfl, Nat.le_of_ble_eq_true rfl⟩) (cPre.V hPc hDc hK hE hS hFc (va_recv hK hPc (ci := 0) (q0 := 0) rfl rfl)) rfl rfl hl.1 rfl (lv_room (Nat.le_of_ble_eq_true rfl)) dX8_readEntries_6 ⟨Nat.zero_le _, Nat.zero_le _⟩) hPq hDq hS hFc (fun u1 H locs hw hP hD hS => ?_)
  subst hw
  have hP : va_P D vwCl (cSP a_this ++ (cT dT (a_this 1) g_this_text ++ (cE dT (a_this 2) o1.2 ++ (cW dT (a_this 4) g_this_world)))) H := hP.perm (wj_back [cE dT (a_this 2) o1.2] [cSP a_this, cT dT (a_this 1) g_this_text, cW dT (a_this 4) g_this_world] [1, 2, 0, 3] rfl)
  have hD : va_D A (cSP a_this ++ (cT dT (a_this 1) g_this_text ++ (cE dT (a_this 2) o1.2 ++ (cW dT (a_this 4) g_this_world)))) := hD.perm (wj_back [cE dT (a_this 2) o1.2] [cSP a_this, cT dT (a_this 1) g_this_text, cW dT (a_this 4) g_this_world] [1, 2, 0, 3] rfl)
  refine lv_iconst (v := 0) hx hb dX8_readEntries_9 (by decide) ?_
  refine lv_istore_n (lv' := [(2, .int (0 : Int32)), (1, .int (0 : Int32)), (0, .ref (a_this 0 0))]) hx hb dX8_readEntries_10 rfl hl (by decide) rfl (fun ls hl => ?_)
  refine L_f_X8_readEntries_L11 g_this_text   FUEL (0 : Int32) (0 : Int32) o1.2 g_this_world _ _ _ h hP hD hS (lv_sub hl [2, 1, 0] rfl)

def f_X8_load (g_this_text : TT) (g_this_entryReader : TE) (g_this_world : TW) (g_this_history : TH) (g_this_slots : TS) : Option ((Nat ⊕ Int32) × (TE × TW × TH × TS)) :=
  ((f_X6_firstErrorFor_X0 g_this_text g_this_entryReader).bind fun o1 => (if o1.1 = (-1 : Int32) then ((f_X7_makeNew g_this_world).bind fun o3 => ((f_X1_forgetAll g_this_history).bind fun o4 => ((f_X5_emptyAll g_this_slots).bind fun o5 => ((f_X8_readEntries g_this_text o1.2 o3.2).bind fun o6 => (some ((Sum.inr o6.1), (o6.2.1, o6.2.2, o4.2, o5.2))))))) else (some (Sum.inl 1, (o1.2, g_this_world, g_this_history, g_this_slots)))))
set_option maxHeartbeats 8000000 in
set_option maxRecDepth 100000 in
theorem c_X8_load (l : Launch) (hlt : l.stackTraces = false) (D : va_G) (dT : Nat → ClassId) (a_this : Nat → Nat → Nat) (g_this_text : TT) (g_this_entryReader : TE) (g_this_world : TW) (g_this_history : TH) (g_this_slots : TS) (o : ((Nat ⊕ Int32) × (TE × TW × TH × TS))) (h : f_X8_load g_this_text g_this_entryReader g_this_world g_this_history g_this_slots = some o) (sz : Nat) : vx_Met l yX8_load (WSm yX8_load cX8_load 1 (some .int)) { frames := 6, cells := 1, slots := 6, locals := 110 } (va_Pc [.ref (a_this 0 0)] (cPre D dT (cSP a_this ++ (cT dT (a_this 1) g_this_text ++ (cE dT (a_this 2) g_this_entryReader ++ (cW dT (a_this 4) g_this_world ++ (cH dT (a_this 6) g_this_history ++ (cS dT (a_this 7) g_this_slots)))))) sz)) (va_Qi (fun (r : Int32) (u : TE × TW × TH × TS) => o = (Sum.inr r, u)) (fun u t => cAt D dT (va_A (cSP a_this ++ (cT dT (a_this 1) g_this_text ++ (cE dT (a_this 2) g_this_entryReader ++ (cW dT (a_this 4) g_this_world ++ (cH dT (a_this 6) g_this_history ++ (cS dT (a_this 7) g_this_slots)))))) sz) (cSP a_this ++ (cT dT (a_this 1) g_this_text ++ (cE dT (a_this 2) (u.1) ++ (cW dT (a_this 4) (u.2.1) ++ (cH dT (a_this 6) (u.2.2.1) ++ (cS dT (a_this 7) (u.2.2.2))))))) t) (va_A (cSP a_this ++ (cT dT (a_this 1) g_this_text ++ (cE dT (a_this 2) g_this_entryReader ++ (cW dT (a_this 4) g_this_world ++ (cH dT (a_this 6) g_this_history ++ (cS dT (a_this 7) g_this_slots)))))) sz)) (xEnd D dT (xoP o) (fun u => (cSP a_this ++ (cT dT (a_this 1) g_this_text ++ (cE dT (a_this 2) (u.1) ++ (cW dT (a_this 4) (u.2.1) ++ (cH dT (a_this 6) (u.2.2.1) ++ (cS dT (a_this 7) (u.2.2.2)))))))) (va_A (cSP a_this ++ (cT dT (a_this 1) g_this_text ++ (cE dT (a_this 2) g_this_entryReader ++ (cW dT (a_this 4) g_this_world ++ (cH dT (a_this 6) g_this_history ++ (cS dT (a_this 7) g_this_slots)))))) sz)) 1 6 (va_A (cSP a_this ++ (cT dT (a_this 1) g_this_text ++ (cE dT (a_this 2) g_this_entryReader ++ (cW dT (a_this 4) g_this_world ++ (cH dT (a_this 6) g_this_history ++ (cS dT (a_this 7) g_this_slots)))))) sz) := by
  refine mStartX (WS := (cSP a_this ++ (cT dT (a_this 1) g_this_text ++ (cE dT (a_this 2) g_this_entryReader ++ (cW dT (a_this 4) g_this_world ++ (cH dT (a_this 6) g_this_history ++ (cS dT (a_this 7) g_this_slots))))))) (Qc := fun A => va_Qi (fun (r : Int32) (u : TE × TW × TH × TS) => o = (Sum.inr r, u)) (fun u t => cAt D dT A (cSP a_this ++ (cT dT (a_this 1) g_this_text ++ (cE dT (a_this 2) (u.1) ++ (cW dT (a_this 4) (u.2.1) ++ (cH dT (a_this 6) (u.2.2.1) ++ (cS dT (a_this 7) (u.2.2.2))))))) t) A) (XC := fun A => xEnd D dT (xoP o) (fun u => (cSP a_this ++ (cT dT (a_this 1) g_this_text ++ (cE dT (a_this 2) (u.1) ++ (cW dT (a_this 4) (u.2.1) ++ (cH dT (a_this 6) (u.2.2.1) ++ (cS dT (a_this 7) (u.2.2.2)))))))) A) RX8 rfl (by decide) (Nat.le_of_ble_eq_true rfl) ?_ sz
  intro p e s m below meth c A ls hx hb hml hr hlk hnt hts hqs hown hE hA hK hP hD hS hl
  have hl : lv_has ls 1 [(0, .ref (a_this 0 0))] := hl
  unfold f_X8_load at h
  refine lv_aload_n hx hb dX8_load_0 rfl (lv_at hl 0 rfl) ?_
  refine gf_X8_10 (v := .ref ((a_this 1) 0)) hx hb hqs hown hK hP 0 rfl rfl dX8_load_1 ?_
  refine lv_aload_n hx hb dX8_load_4 rfl (lv_at hl 0 rfl) ?_
  refine gf_X8_19 (v := .ref ((a_this 2) 0)) hx hb hqs hown hK hP 0 rfl rfl dX8_load_5 ?_
  obtain ⟨o1, e1, h⟩ := obind h
  have hPq : va_P D vwCl ((cT dT (a_this 1) g_this_text ++ (cE dT (a_this 2) g_this_entryReader)) ++ (cSP a_this ++ (cW dT (a_this 4) g_this_world ++ (cH dT (a_this 6) g_this_history ++ (cS dT (a_this 7) g_this_slots))))) _ := hP.perm (wj_split [cSP a_this, cT dT (a_this 1) g_this_text, cE dT (a_this 2) g_this_entryReader, cW dT (a_this 4) g_this_world, cH dT (a_this 6) g_this_history, cS dT (a_this 7) g_this_slots] [1, 2] [0, 3, 4, 5] rfl)
  have hDq : va_D A ((cT dT (a_this 1) g_this_text ++ (cE dT (a_this 2) g_this_entryReader)) ++ (cSP a_this ++ (cW dT (a_this 4) g_this_world ++ (cH dT (a_this 6) g_this_history ++ (cS dT (a_this 7) g_this_slots))))) := hD.perm (wj_split [cSP a_this, cT dT (a_this 1) g_this_text, cE dT (a_this 2) g_this_entryReader, cW dT (a_this 4) g_this_world, cH dT (a_this 6) g_this_history, cS dT (a_this 7) g_this_slots] [1, 2] [0, 3, 4, 5] rfl)
  have hPc := hPq.left
  have hDc := hDq.left
  have hFc := va_freeL hDq hS hA
  refine cl_iL (wr := (cSP a_this ++ (cW dT (a_this 4) g_this_world ++ (cH dT (a_this 6) g_this_history ++ (cS dT (a_this 7) g_this_slots))))) (va_runV (As := [.ref ((a_this 2) 0)]) (rest := []) ⟨hx, hb, hml, hown, hts⟩ (c_X6_firstErrorFor_X0 l hlt D dT (a_this 1) (a_this 2) g_this_text g_this_entryReader o1 e1 _) (cwV 1 hts (TB_V w_643 w_644 w_645 w_34 w_646) rfl rfl rfl ⟨rfl, nd_X6_firstErrorFor⟩ ⟨Nat.le_of_ble_eq_true rfl, Nat.le_of_ble_eq_true rfl⟩) (cPre.V hPc hDc hK hE hS hFc (va_recv hK hPc (ci := 5) (q0 := 0) rfl rfl)) rfl rfl hl.1 rfl (lv_room (Nat.le_of_ble_eq_true rfl)) dX8_load_8 ⟨Nat.zero_le _, Nat.zero_le _⟩) hPq hDq hS hFc (fun r1 u1 H locs hw hP hD hS => ?_)
  obtain ⟨rfl, rfl⟩ := hw
  have hP : va_P D vwCl (cSP a_this ++ (cT dT (a_this 1) g_this_text ++ (cE dT (a_this 2) o1.2 ++ (cW dT (a_this 4) g_this_world ++ (cH dT (a_this 6) g_this_history ++ (cS dT (a_this 7) g_this_slots)))))) H := hP.perm (wj_back [cT dT (a_this 1) g_this_text, cE dT (a_this 2) o1.2] [cSP a_this, cW dT (a_this 4) g_this_world, cH dT (a_this 6) g_this_history, cS dT (a_this 7) g_this_slots] [2, 0, 1, 3, 4, 5] rfl)
  have hD : va_D A (cSP a_this ++ (cT dT (a_this 1) g_this_text ++ (cE dT (a_this 2) o1.2 ++ (cW dT (a_this 4) g_this_world ++ (cH dT (a_this 6) g_this_history ++ (cS dT (a_this 7) g_this_slots)))))) := hD.perm (wj_back [cT dT (a_this 1) g_this_text, cE dT (a_this 2) o1.2] [cSP a_this, cW dT (a_this 4) g_this_world, cH dT (a_this 6) g_this_history, cS dT (a_this 7) g_this_slots] [2, 0, 1, 3, 4, 5] rfl)
  refine lv_iconst (v := -1) hx hb dX8_load_11 (by decide) ?_
  refine lv_icmp_eq (tgt := 25) hx hb dX8_load_12 (by decide) (fun c2 => ?_) (fun c2 => ?_)
  · replace h := iteT c2 h
    refine lv_aload_n hx hb dX8_load_25 rfl (lv_at hl 0 rfl) ?_
    refine gf_X8_33 (v := .ref ((a_this 4) 0)) hx hb hqs hown hK hP 0 rfl rfl dX8_load_26 ?_
    obtain ⟨o3, e3, h⟩ := obind h
    have hPq : va_P D vwCl ((cW dT (a_this 4) g_this_world) ++ (cSP a_this ++ (cT dT (a_this 1) g_this_text ++ (cE dT (a_this 2) o1.2 ++ (cH dT (a_this 6) g_this_history ++ (cS dT (a_this 7) g_this_slots)))))) _ := hP.perm (wj_split [cSP a_this, cT dT (a_this 1) g_this_text, cE dT (a_this 2) o1.2, cW dT (a_this 4) g_this_world, cH dT (a_this 6) g_this_history, cS dT (a_this 7) g_this_slots] [3] [0, 1, 2, 4, 5] rfl)
    have hDq : va_D A ((cW dT (a_this 4) g_this_world) ++ (cSP a_this ++ (cT dT (a_this 1) g_this_text ++ (cE dT (a_this 2) o1.2 ++ (cH dT (a_this 6) g_this_history ++ (cS dT (a_this 7) g_this_slots)))))) := hD.perm (wj_split [cSP a_this, cT dT (a_this 1) g_this_text, cE dT (a_this 2) o1.2, cW dT (a_this 4) g_this_world, cH dT (a_this 6) g_this_history, cS dT (a_this 7) g_this_slots] [3] [0, 1, 2, 4, 5] rfl)
    have hPc := hPq.left
    have hDc := hDq.left
    have hFc := va_freeL hDq hS hA
    refine cl_vL (wr := (cSP a_this ++ (cT dT (a_this 1) g_this_text ++ (cE dT (a_this 2) o1.2 ++ (cH dT (a_this 6) g_this_history ++ (cS dT (a_this 7) g_this_slots)))))) (va_runV (As := []) (rest := []) ⟨hx, hb, hml, hown, hts⟩ (c_X7_makeNew l hlt D dT (a_this 4) g_this_world o3 e3 _) (cwV 0 hts (TB_V w_704 w_705 w_706 w_38 w_707) rfl rfl rfl ⟨rfl, nd_X7_makeNew⟩ ⟨Nat.le_of_ble_eq_true rfl, Nat.le_of_ble_eq_true rfl⟩) (cPre.V hPc hDc hK hE hS hFc (va_recv hK hPc (ci := 6) (q0 := 0) rfl rfl)) rfl rfl hl.1 rfl (lv_room (Nat.le_of_ble_eq_true rfl)) dX8_load_29 ⟨Nat.zero_le _, Nat.zero_le _⟩) hPq hDq hS hFc (fun u3 H locs hw hP hD hS => ?_)
    subst hw
    have hP : va_P D vwCl (cSP a_this ++ (cT dT (a_this 1) g_this_text ++ (cE dT (a_this 2) o1.2 ++ (cW dT (a_this 4) o3.2 ++ (cH dT (a_this 6) g_this_history ++ (cS dT (a_this 7) g_this_slots)))))) H := hP.perm (wj_back [cW dT (a_this 4) o3.2] [cSP a_this, cT dT (a_this 1) g_this_text, cE dT (a_this 2) o1.2, cH dT (a_this 6) g_this_history, cS dT (a_this 7) g_this_slots] [1, 2, 3, 0, 4, 5] rfl)
    have hD : va_D A (cSP a_this ++ (cT dT (a_this 1) g_this_text ++ (cE dT (a_this 2) o1.2 ++ (cW dT (a_this 4) o3.2 ++ (cH dT (a_this 6) g_this_history ++ (cS dT (a_this 7) g_this_slots)))))) := hD.perm (wj_back [cW dT (a_this 4) o3.2] [cSP a_this, cT dT (a_this 1) g_this_text, cE dT (a_this 2) o1.2, cH dT (a_this 6) g_this_history, cS dT (a_this 7) g_this_slots] [1, 2, 3, 0, 4, 5] rfl)
    refine lv_aload_n hx hb dX8_load_32 rfl (lv_at hl 0 rfl) ?_
    refine gf_X8_43 (v := .ref ((a_this 6) 0)) hx hb hqs hown hK hP 0 rfl rfl dX8_load_33 ?_
    obtain ⟨o4, e4, h⟩ := obind h
    have hPq : va_P D vwCl ((cH dT (a_this 6) g_this_history) ++ (cSP a_this ++ (cT dT (a_this 1) g_this_text ++ (cE dT (a_this 2) o1.2 ++ (cW dT (a_this 4) o3.2 ++ (cS dT (a_this 7) g_this_slots)))))) _ := hP.perm (wj_split [cSP a_this, cT dT (a_this 1) g_this_text, cE dT (a_this 2) o1.2, cW dT (a_this 4) o3.2, cH dT (a_this 6) g_this_history, cS dT (a_this 7) g_this_slots] [4] [0, 1, 2, 3, 5] rfl)
    have hDq : va_D A ((cH dT (a_this 6) g_this_history) ++ (cSP a_this ++ (cT dT (a_this 1) g_this_text ++ (cE dT (a_this 2) o1.2 ++ (cW dT (a_this 4) o3.2 ++ (cS dT (a_this 7) g_this_slots)))))) := hD.perm (wj_split [cSP a_this, cT dT (a_this 1) g_this_text, cE dT (a_this 2) o1.2, cW dT (a_this 4) o3.2, cH dT (a_this 6) g_this_history, cS dT (a_this 7) g_this_slots] [4] [0, 1, 2, 3, 5] rfl)
    have hPc := hPq.left
    have hDc := hDq.left
    have hFc := va_freeL hDq hS hA
    refine cl_vL (wr := (cSP a_this ++ (cT dT (a_this 1) g_this_text ++ (cE dT (a_this 2) o1.2 ++ (cW dT (a_this 4) o3.2 ++ (cS dT (a_this 7) g_this_slots)))))) (va_runV (As := []) (rest := []) ⟨hx, hb, hml, hown, hts⟩ (c_X1_forgetAll l hlt D dT (a_this 6) g_this_history o4 e4 _) (cwV 0 hts (TB_V w_708 w_709 w_710 w_39 w_711) rfl rfl rfl ⟨rfl, nd_X1_forgetAll⟩ ⟨Nat.le_of_ble_eq_true rfl, Nat.le_of_ble_eq_true rfl⟩) (cPre.V hPc hDc hK hE hS hFc (va_recv hK hPc (ci := 1) (q0 := 0) rfl rfl)) rfl rfl hl.1 rfl (lv_room (Nat.le_of_ble_eq_true rfl)) dX8_load_36 ⟨Nat.zero_le _, Nat.zero_le _⟩) hPq hDq hS hFc (fun u4 H locs hw hP hD hS => ?_)
    subst hw
    have hP : va_P D vwCl (cSP a_this ++ (cT dT (a_this 1) g_this_text ++ (cE dT (a_this 2) o1.2 ++ (cW dT (a_this 4) o3.2 ++ (cH dT (a_this 6) o4.2 ++ (cS dT (a_this 7) g_this_slots)))))) H := hP.perm (wj_back [cH dT (a_this 6) o4.2] [cSP a_this, cT dT (a_this 1) g_this_text, cE dT (a_this 2) o1.2, cW dT (a_this 4) o3.2, cS dT (a_this 7) g_this_slots] [1, 2, 3, 4, 0, 5] rfl)
    have hD : va_D A (cSP a_this ++ (cT dT (a_this 1) g_this_text ++ (cE dT (a_this 2) o1.2 ++ (cW dT (a_this 4) o3.2 ++ (cH dT (a_this 6) o4.2 ++ (cS dT (a_this 7) g_this_slots)))))) := hD.perm (wj_back [cH dT (a_this 6) o4.2] [cSP a_this, cT dT (a_this 1) g_this_text, cE dT (a_this 2) o1.2, cW dT (a_this 4) o3.2, cS dT (a_this 7) g_this_slots] [1, 2, 3, 4, 0, 5] rfl)
    refine lv_aload_n hx hb dX8_load_39 rfl (lv_at hl 0 rfl) ?_
    refine gf_X8_50 (v := .ref ((a_this 7) 0)) hx hb hqs hown hK hP 0 rfl rfl dX8_load_40 ?_
    obtain ⟨o5, e5, h⟩ := obind h
    have hPq : va_P D vwCl ((cS dT (a_this 7) g_this_slots) ++ (cSP a_this ++ (cT dT (a_this 1) g_this_text ++ (cE dT (a_this 2) o1.2 ++ (cW dT (a_this 4) o3.2 ++ (cH dT (a_this 6) o4.2)))))) _ := hP.perm (wj_split [cSP a_this, cT dT (a_this 1) g_this_text, cE dT (a_this 2) o1.2, cW dT (a_this 4) o3.2, cH dT (a_this 6) o4.2, cS dT (a_this 7) g_this_slots] [5] [0, 1, 2, 3, 4] rfl)
    have hDq : va_D A ((cS dT (a_this 7) g_this_slots) ++ (cSP a_this ++ (cT dT (a_this 1) g_this_text ++ (cE dT (a_this 2) o1.2 ++ (cW dT (a_this 4) o3.2 ++ (cH dT (a_this 6) o4.2)))))) := hD.perm (wj_split [cSP a_this, cT dT (a_this 1) g_this_text, cE dT (a_this 2) o1.2, cW dT (a_this 4) o3.2, cH dT (a_this 6) o4.2, cS dT (a_this 7) g_this_slots] [5] [0, 1, 2, 3, 4] rfl)
    have hPc := hPq.left
    have hDc := hDq.left
    have hFc := va_freeL hDq hS hA
    refine cl_vL (wr := (cSP a_this ++ (cT dT (a_this 1) g_this_text ++ (cE dT (a_this 2) o1.2 ++ (cW dT (a_this 4) o3.2 ++ (cH dT (a_this 6) o4.2)))))) (va_runV (As := []) (rest := []) ⟨hx, hb, hml, hown, hts⟩ (c_X5_emptyAll l hlt D dT (a_this 7) g_this_slots o5 e5 _) (cwV 0 hts (TB_V w_712 w_713 w_714 w_40 w_715) rfl rfl rfl ⟨rfl, nd_X5_emptyAll⟩ ⟨Nat.le_of_ble_eq_true rfl, Nat.le_of_ble_eq_true rfl⟩) (cPre.V hPc hDc hK hE hS hFc (va_recv hK hPc (ci := 4) (q0 := 0) rfl rfl)) rfl rfl hl.1 rfl (lv_room (Nat.le_of_ble_eq_true rfl)) dX8_load_43 ⟨Nat.zero_le _, Nat.zero_le _⟩) hPq hDq hS hFc (fun u5 H locs hw hP hD hS => ?_)
    subst hw
    have hP : va_P D vwCl (cSP a_this ++ (cT dT (a_this 1) g_this_text ++ (cE dT (a_this 2) o1.2 ++ (cW dT (a_this 4) o3.2 ++ (cH dT (a_this 6) o4.2 ++ (cS dT (a_this 7) o5.2)))))) H := hP.perm (wj_back [cS dT (a_this 7) o5.2] [cSP a_this, cT dT (a_this 1) g_this_text, cE dT (a_this 2) o1.2, cW dT (a_this 4) o3.2, cH dT (a_this 6) o4.2] [1, 2, 3, 4, 5, 0] rfl)
    have hD : va_D A (cSP a_this ++ (cT dT (a_this 1) g_this_text ++ (cE dT (a_this 2) o1.2 ++ (cW dT (a_this 4) o3.2 ++ (cH dT (a_this 6) o4.2 ++ (cS dT (a_this 7) o5.2)))))) := hD.perm (wj_back [cS dT (a_this 7) o5.2] [cSP a_this, cT dT (a_this 1) g_this_text, cE dT (a_this 2) o1.2, cW dT (a_this 4) o3.2, cH dT (a_this 6) o4.2] [1, 2, 3, 4, 5, 0] rfl)
    refine lv_aload_n hx hb dX8_load_46 rfl (lv_at hl 0 rfl) ?_
    obtain ⟨o6, e6, h⟩ := obind h
    have hPq : va_P D vwCl ((cSP a_this ++ (cT dT (a_this 1) g_this_text ++ (cE dT (a_this 2) o1.2 ++ (cW dT (a_this 4) o3.2)))) ++ (cH dT (a_this 6) o4.2 ++ (cS dT (a_this 7) o5.2))) _ := hP.perm (wj_split [cSP a_this, cT dT (a_this 1) g_this_text, cE dT (a_this 2) o1.2, cW dT (a_this 4) o3.2, cH dT (a_this 6) o4.2, cS dT (a_this 7) o5.2] [0, 1, 2, 3] [4, 5] rfl)
    have hDq : va_D A ((cSP a_this ++ (cT dT (a_this 1) g_this_text ++ (cE dT (a_this 2) o1.2 ++ (cW dT (a_this 4) o3.2)))) ++ (cH dT (a_this 6) o4.2 ++ (cS dT (a_this 7) o5.2))) := hD.perm (wj_split [cSP a_this, cT dT (a_this 1) g_this_text, cE dT (a_this 2) o1.2, cW dT (a_this 4) o3.2, cH dT (a_this 6) o4.2, cS dT (a_this 7) o5.2] [0, 1, 2, 3] [4, 5] rfl)
    have hPc := hPq.left
    have hDc := hDq.left
    have hFc := va_freeL hDq hS hA
    refine cl_iL (wr := (cH dT (a_this 6) o4.2 ++ (cS dT (a_this 7) o5.2))) (va_runV (As := []) (rest := []) ⟨hx, hb, hml, hown, hts⟩ (c_X8_readEntries l hlt D dT a_this g_this_text o1.2 o3.2 o6 e6 _) (cwV 0 hts (TB_V w_716 w_718 w_26 w_33 w_719) rfl rfl rfl ⟨rfl, nd_X8_readEntries⟩ ⟨Nat.le_of_ble_eq_true rfl, Nat.le_of_ble_eq_true rfl⟩) (cPre.V hPc hDc hK hE hS hFc (va_recv hK hPc (ci := 7) (q0 := 0) rfl rfl)) rfl rfl hl.1 rfl (lv_room (Nat.le_of_ble_eq_true rfl)) dX8_load_47 ⟨Nat.zero_le _, Nat.zero_le _⟩) hPq hDq hS hFc (fun r6 u6 H locs hw hP hD hS => ?_)
    obtain ⟨rfl, rfl⟩ := hw
    have hP : va_P D vwCl (cSP a_this ++ (cT dT (a_this 1) g_this_text ++ (cE dT (a_this 2) o6.2.1 ++ (cW dT (a_this 4) o6.2.2 ++ (cH dT (a_this 6) o4.2 ++ (cS dT (a_this 7) o5.2)))))) H := hP.perm (wj_back [cSP a_this, cT dT (a_this 1) g_this_text, cE dT (a_this 2) o6.2.1, cW dT (a_this 4) o6.2.2] [cH dT (a_this 6) o4.2, cS dT (a_this 7) o5.2] [0, 1, 2, 3, 4, 5] rfl)
    have hD : va_D A (cSP a_this ++ (cT dT (a_this 1) g_this_text ++ (cE dT (a_this 2) o6.2.1 ++ (cW dT (a_this 4) o6.2.2 ++ (cH dT (a_this 6) o4.2 ++ (cS dT (a_this 7) o5.2)))))) := hD.perm (wj_back [cSP a_this, cT dT (a_this 1) g_this_text, cE dT (a_this 2) o6.2.1, cW dT (a_this 4) o6.2.2] [cH dT (a_this 6) o4.2, cS dT (a_this 7) o5.2] [0, 1, 2, 3, 4, 5] rfl)
    refine W.widen (k := 1) (n := 6) (Nat.le_of_ble_eq_true rfl) (Nat.le_of_ble_eq_true rfl) ?_
    exact vx_ret (rt_i hx hb hr hlk hK hS ((o6.2.1, o6.2.2, o4.2, o5.2) : TE × TW × TH × TS) (Option.some.inj h).symm hP hD dX8_load_50)
  · replace h := iteF c2 h
    exact th_S (k := 1) exOkS rfl (List.mem_of_getElem? (i := 2) rfl) hlt hx hb (hl.1.trans hml.symm) hlk hnt hqs hown hE hK hS ((o1.2, g_this_world, g_this_history, g_this_slots) : TE × TW × TH × TS) (xoP_of h) hP hD rfl rfl rfl rfl rfl rfl dX8_load_15 dX8_load_18 dX8_load_19 dX8_load_21 dX8_load_24

def f_X8_about (g_this_world : TW) (v1 : Int32) : Option ((Nat ⊕ Int32) × (Unit)) :=
  ((f_X8_needRange v1 (0 : Int32) (5 : Int32)).bind fun o1 => (fun u1 => o1.1.elim (fun k1 => (some (Sum.inl k1, ()))) (fun _ => ((f_X7_numberOf g_this_world v1).bind fun o2 => (some ((Sum.inr o2.1), ()))))) o1.2)
set_option maxHeartbeats 8000000 in
set_option maxRecDepth 100000 in
theorem c_X8_about (l : Launch) (hlt : l.stackTraces = false) (D : va_G) (dT : Nat → ClassId) (a_this : Nat → Nat → Nat) (g_this_world : TW) (v1 : Int32) (o : ((Nat ⊕ Int32) × (Unit))) (h : f_X8_about g_this_world v1 = some o) (sz : Nat) : vx_Met l yX8_about (WSm yX8_about cX8_about 2 (some .int)) { frames := 7, cells := 1, slots := 6, locals := 112 } (va_Pc [.ref (a_this 0 0), .int v1] (cPre D dT (cSP a_this ++ (cW dT (a_this 4) g_this_world)) sz)) (va_Qi (fun (r : Int32) (u : Unit) => o = (Sum.inr r, u)) (fun u t => cAt D dT (va_A (cSP a_this ++ (cW dT (a_this 4) g_this_world)) sz) (cSP a_this ++ (cW dT (a_this 4) g_this_world)) t) (va_A (cSP a_this ++ (cW dT (a_this 4) g_this_world)) sz)) (xEnd D dT (xoP o) (fun u => (cSP a_this ++ (cW dT (a_this 4) g_this_world))) (va_A (cSP a_this ++ (cW dT (a_this 4) g_this_world)) sz)) 1 6 (va_A (cSP a_this ++ (cW dT (a_this 4) g_this_world)) sz) := by
  refine mStartX (WS := (cSP a_this ++ (cW dT (a_this 4) g_this_world))) (Qc := fun A => va_Qi (fun (r : Int32) (u : Unit) => o = (Sum.inr r, u)) (fun u t => cAt D dT A (cSP a_this ++ (cW dT (a_this 4) g_this_world)) t) A) (XC := fun A => xEnd D dT (xoP o) (fun u => (cSP a_this ++ (cW dT (a_this 4) g_this_world))) A) RX8 rfl (by decide) (Nat.le_of_ble_eq_true rfl) ?_ sz
  intro p e s m below meth c A ls hx hb hml hr hlk hnt hts hqs hown hE hA hK hP hD hS hl
  have hl : lv_has ls 2 [(0, .ref (a_this 0 0)), (1, .int v1)] := hl
  unfold f_X8_about at h
  refine lv_iload_n hx hb dX8_about_0 rfl (lv_at hl 1 rfl) ?_
  refine lv_iconst (v := 0) hx hb dX8_about_1 (by decide) ?_
  refine lv_iconst (v := 5) hx hb dX8_about_2 (by decide) ?_
  obtain ⟨o1, e1, h⟩ := obind h
  have hPq : va_P D vwCl (([] : va_W) ++ (cSP a_this ++ (cW dT (a_this 4) g_this_world))) _ := hP.perm (wj_split [cSP a_this, cW dT (a_this 4) g_this_world] [] [0, 1] rfl)
  have hDq : va_D A (([] : va_W) ++ (cSP a_this ++ (cW dT (a_this 4) g_this_world))) := hD.perm (wj_split [cSP a_this, cW dT (a_this 4) g_this_world] [] [0, 1] rfl)
  have hPc := hPq.left
  have hDc := hDq.left
  have hFc := va_freeL hDq hS hA
  refine xcl_vL (wr := (cSP a_this ++ (cW dT (a_this 4) g_this_world))) (vx_runS (As := [.int v1, .int (0 : Int32), .int (5 : Int32)]) (rest := []) ⟨hx, hb, hml, hown, hts⟩ (c_X8_needRange l hlt D dT v1 (0 : Int32) (5 : Int32) o1 e1 _) (va_cwS 3 hts (TB_S w_287 w_288 w_33 w_289) rfl rfl rfl nd_X8_needRange ⟨Nat.le_of_ble_eq_true rfl, Nat.le_of_ble_eq_true rfl⟩) (cPre.S hPc hDc hK hE hS hFc) rfl rfl hl.1 rfl (lv_room (Nat.le_of_ble_eq_true rfl)) dX8_about_3 ⟨Nat.le_of_ble_eq_true rfl, Nat.le_of_ble_eq_true rfl⟩) hPq hDq hS hFc (fun k1 u1 E1 ce1 q1 H locs hw hEk hP hD hS hxc hxv hxl => ?_) (fun u1 H locs hw hP hD hS => ?_)
  · have hw := xoP_inv hw
    subst hw
    have hP : va_P D vwCl (cSP a_this ++ (cW dT (a_this 4) g_this_world)) H := hP.perm (wj_back [] [cSP a_this, cW dT (a_this 4) g_this_world] [0, 1] rfl)
    have hD : va_D A (cSP a_this ++ (cW dT (a_this 4) g_this_world)) := hD.perm (wj_back [] [cSP a_this, cW dT (a_this 4) g_this_world] [0, 1] rfl)
    exact xo_S hlk hnt hK hS hEk hxc hxv hxl (() : Unit) (xoP_of h) hP hD rfl rfl
  subst hw
  replace h := sumR h
  have hP : va_P D vwCl (cSP a_this ++ (cW dT (a_this 4) g_this_world)) H := hP.perm (wj_back [] [cSP a_this, cW dT (a_this 4) g_this_world] [0, 1] rfl)
  have hD : va_D A (cSP a_this ++ (cW dT (a_this 4) g_this_world)) := hD.perm (wj_back [] [cSP a_this, cW dT (a_this 4) g_this_world] [0, 1] rfl)
  refine lv_aload_n hx hb dX8_about_6 rfl (lv_at hl 0 rfl) ?_
  refine gf_X8_33 (v := .ref ((a_this 4) 0)) hx hb hqs hown hK hP 0 rfl rfl dX8_about_7 ?_
  refine lv_iload_n hx hb dX8_about_10 rfl (lv_at hl 1 rfl) ?_
  obtain ⟨o2, e2, h⟩ := obind h
  have hPq : va_P D vwCl ((cW dT (a_this 4) g_this_world) ++ (cSP a_this)) _ := hP.perm (wj_split [cSP a_this, cW dT (a_this 4) g_this_world] [1] [0] rfl)
  have hDq : va_D A ((cW dT (a_this 4) g_this_world) ++ (cSP a_this)) := hD.perm (wj_split [cSP a_this, cW dT (a_this 4) g_this_world] [1] [0] rfl)
  have hPc := hPq.left
  have hDc := hDq.left
  have hFc := va_freeL hDq hS hA
  refine cl_iL (wr := (cSP a_this)) (va_runV (As := [.int v1]) (rest := []) ⟨hx, hb, hml, hown, hts⟩ (c_X7_numberOf l hlt D dT (a_this 4) g_this_world v1 o2 e2 _) (cwV 1 hts (TB_V w_746 w_747 w_748 w_38 w_749) rfl rfl rfl ⟨rfl, nd_X7_numberOf⟩ ⟨Nat.le_of_ble_eq_true rfl, Nat.le_of_ble_eq_true rfl⟩) (cPre.V hPc hDc hK hE hS hFc (va_recv hK hPc (ci := 6) (q0 := 0) rfl rfl)) rfl rfl hl.1 rfl (lv_room (Nat.le_of_ble_eq_true rfl)) dX8_about_11 ⟨Nat.le_of_ble_eq_true rfl, Nat.le_of_ble_eq_true rfl⟩) hPq hDq hS hFc (fun r2 u2 H locs hw hP hD hS => ?_)
  obtain ⟨rfl, rfl⟩ := hw
  have hP : va_P D vwCl (cSP a_this ++ (cW dT (a_this 4) g_this_world)) H := hP.perm (wj_back [cW dT (a_this 4) g_this_world] [cSP a_this] [1, 0] rfl)
  have hD : va_D A (cSP a_this ++ (cW dT (a_this 4) g_this_world)) := hD.perm (wj_back [cW dT (a_this 4) g_this_world] [cSP a_this] [1, 0] rfl)
  exact vx_ret (rt_i hx hb hr hlk hK hS (() : Unit) (Option.some.inj h).symm hP hD dX8_about_14)

def f_X8_sum (g_this_world : TW) (v1 : Int32) : Option ((Nat ⊕ Int64) × (Unit)) :=
  ((f_X8_needRange v1 (0 : Int32) (3 : Int32)).bind fun o1 => (fun u1 => o1.1.elim (fun k1 => (some (Sum.inl k1, ()))) (fun _ => ((f_X7_sumOf g_this_world v1).bind fun o2 => (some ((Sum.inr o2.1), ()))))) o1.2)
set_option maxHeartbeats 8000000 in
set_option maxRecDepth 100000 in
theorem c_X8_sum (l : Launch) (hlt : l.stackTraces = false) (D : va_G) (dT : Nat → ClassId) (a_this : Nat → Nat → Nat) (g_this_world : TW) (v1 : Int32) (o : ((Nat ⊕ Int64) × (Unit))) (h : f_X8_sum g_this_world v1 = some o) (sz : Nat) : vx_Met l yX8_sum (WSm yX8_sum cX8_sum 2 (some .long)) { frames := 7, cells := 1, slots := 6, locals := 112 } (va_Pc [.ref (a_this 0 0), .int v1] (cPre D dT (cSP a_this ++ (cW dT (a_this 4) g_this_world)) sz)) (va_Ql (fun (r : Int64) (u : Unit) => o = (Sum.inr r, u)) (fun u t => cAt D dT (va_A (cSP a_this ++ (cW dT (a_this 4) g_this_world)) sz) (cSP a_this ++ (cW dT (a_this 4) g_this_world)) t) (va_A (cSP a_this ++ (cW dT (a_this 4) g_this_world)) sz)) (xEnd D dT (xoP o) (fun u => (cSP a_this ++ (cW dT (a_this 4) g_this_world))) (va_A (cSP a_this ++ (cW dT (a_this 4) g_this_world)) sz)) 1 6 (va_A (cSP a_this ++ (cW dT (a_this 4) g_this_world)) sz) := by
  refine mStartX (WS := (cSP a_this ++ (cW dT (a_this 4) g_this_world))) (Qc := fun A => va_Ql (fun (r : Int64) (u : Unit) => o = (Sum.inr r, u)) (fun u t => cAt D dT A (cSP a_this ++ (cW dT (a_this 4) g_this_world)) t) A) (XC := fun A => xEnd D dT (xoP o) (fun u => (cSP a_this ++ (cW dT (a_this 4) g_this_world))) A) RX8 rfl (by decide) (Nat.le_of_ble_eq_true rfl) ?_ sz
  intro p e s m below meth c A ls hx hb hml hr hlk hnt hts hqs hown hE hA hK hP hD hS hl
  have hl : lv_has ls 2 [(0, .ref (a_this 0 0)), (1, .int v1)] := hl
  unfold f_X8_sum at h
  refine lv_iload_n hx hb dX8_sum_0 rfl (lv_at hl 1 rfl) ?_
  refine lv_iconst (v := 0) hx hb dX8_sum_1 (by decide) ?_
  refine lv_iconst (v := 3) hx hb dX8_sum_2 (by decide) ?_
  obtain ⟨o1, e1, h⟩ := obind h
  have hPq : va_P D vwCl (([] : va_W) ++ (cSP a_this ++ (cW dT (a_this 4) g_this_world))) _ := hP.perm (wj_split [cSP a_this, cW dT (a_this 4) g_this_world] [] [0, 1] rfl)
  have hDq : va_D A (([] : va_W) ++ (cSP a_this ++ (cW dT (a_this 4) g_this_world))) := hD.perm (wj_split [cSP a_this, cW dT (a_this 4) g_this_world] [] [0, 1] rfl)
  have hPc := hPq.left
  have hDc := hDq.left
  have hFc := va_freeL hDq hS hA
  refine xcl_vL (wr := (cSP a_this ++ (cW dT (a_this 4) g_this_world))) (vx_runS (As := [.int v1, .int (0 : Int32), .int (3 : Int32)]) (rest := []) ⟨hx, hb, hml, hown, hts⟩ (c_X8_needRange l hlt D dT v1 (0 : Int32) (3 : Int32) o1 e1 _) (va_cwS 3 hts (TB_S w_287 w_288 w_33 w_289) rfl rfl rfl nd_X8_needRange ⟨Nat.le_of_ble_eq_true rfl, Nat.le_of_ble_eq_true rfl⟩) (cPre.S hPc hDc hK hE hS hFc) rfl rfl hl.1 rfl (lv_room (Nat.le_of_ble_eq_true rfl)) dX8_sum_3 ⟨Nat.le_of_ble_eq_true rfl, Nat.le_of_ble_eq_true rfl⟩) hPq hDq hS hFc (fun k1 u1 E1 ce1 q1 H locs hw hEk hP hD hS hxc hxv hxl => ?_) (fun u1 H locs hw hP hD hS => ?_)
  · have hw := xoP_inv hw
    subst hw
    have hP : va_P D vwCl (cSP a_this ++ (cW dT (a_this 4) g_this_world)) H := hP.perm (wj_back [] [cSP a_this, cW dT (a_this 4) g_this_world] [0, 1] rfl)
    have hD : va_D A (cSP a_this ++ (cW dT (a_this 4) g_this_world)) := hD.perm (wj_back [] [cSP a_this, cW dT (a_this 4) g_this_world] [0, 1] rfl)
    exact xo_S hlk hnt hK hS hEk hxc hxv hxl (() : Unit) (xoP_of h) hP hD rfl rfl
  subst hw
  replace h := sumR h
  have hP : va_P D vwCl (cSP a_this ++ (cW dT (a_this 4) g_this_world)) H := hP.perm (wj_back [] [cSP a_this, cW dT (a_this 4) g_this_world] [0, 1] rfl)
  have hD : va_D A (cSP a_this ++ (cW dT (a_this 4) g_this_world)) := hD.perm (wj_back [] [cSP a_this, cW dT (a_this 4) g_this_world] [0, 1] rfl)
  refine lv_aload_n hx hb dX8_sum_6 rfl (lv_at hl 0 rfl) ?_
  refine gf_X8_33 (v := .ref ((a_this 4) 0)) hx hb hqs hown hK hP 0 rfl rfl dX8_sum_7 ?_
  refine lv_iload_n hx hb dX8_sum_10 rfl (lv_at hl 1 rfl) ?_
  obtain ⟨o2, e2, h⟩ := obind h
  have hPq : va_P D vwCl ((cW dT (a_this 4) g_this_world) ++ (cSP a_this)) _ := hP.perm (wj_split [cSP a_this, cW dT (a_this 4) g_this_world] [1] [0] rfl)
  have hDq : va_D A ((cW dT (a_this 4) g_this_world) ++ (cSP a_this)) := hD.perm (wj_split [cSP a_this, cW dT (a_this 4) g_this_world] [1] [0] rfl)
  have hPc := hPq.left
  have hDc := hDq.left
  have hFc := va_freeL hDq hS hA
  refine cl_lL (wr := (cSP a_this)) (va_runV (As := [.int v1]) (rest := []) ⟨hx, hb, hml, hown, hts⟩ (c_X7_sumOf l hlt D dT (a_this 4) g_this_world v1 o2 e2 _) (cwV 1 hts (TB_V w_985 w_986 w_987 w_38 w_988) rfl rfl rfl ⟨rfl, nd_X7_sumOf⟩ ⟨Nat.le_of_ble_eq_true rfl, Nat.le_of_ble_eq_true rfl⟩) (cPre.V hPc hDc hK hE hS hFc (va_recv hK hPc (ci := 6) (q0 := 0) rfl rfl)) rfl rfl hl.1 rfl (lv_room (Nat.le_of_ble_eq_true rfl)) dX8_sum_11 ⟨Nat.le_of_ble_eq_true rfl, Nat.le_of_ble_eq_true rfl⟩) hPq hDq hS hFc (fun r2 u2 H locs hw hP hD hS => ?_)
  obtain ⟨rfl, rfl⟩ := hw
  have hP : va_P D vwCl (cSP a_this ++ (cW dT (a_this 4) g_this_world)) H := hP.perm (wj_back [cW dT (a_this 4) g_this_world] [cSP a_this] [1, 0] rfl)
  have hD : va_D A (cSP a_this ++ (cW dT (a_this 4) g_this_world)) := hD.perm (wj_back [cW dT (a_this 4) g_this_world] [cSP a_this] [1, 0] rfl)
  exact vx_ret (rt_l hx hb hr hlk hK hS (() : Unit) (Option.some.inj h).symm hP hD dX8_sum_14)

def f_X8_needTable (g_this_world : TW) (v1 : Int32) : Option ((Nat ⊕ Unit) × (Unit)) :=
  ((f_X7_hasTable g_this_world v1).bind fun o1 => (if o1.1 = (0 : Int32) then (some (Sum.inl 2, ())) else (some ((Sum.inr ()), ()))))
set_option maxHeartbeats 8000000 in
set_option maxRecDepth 100000 in
theorem c_X8_needTable (l : Launch) (hlt : l.stackTraces = false) (D : va_G) (dT : Nat → ClassId) (a_this : Nat → Nat → Nat) (g_this_world : TW) (v1 : Int32) (o : ((Nat ⊕ Unit) × (Unit))) (h : f_X8_needTable g_this_world v1 = some o) (sz : Nat) : vx_Met l yX8_needTable (WSm yX8_needTable cX8_needTable 2 none) { frames := 6, cells := 1, slots := 6, locals := 90 } (va_Pc [.ref (a_this 0 0), .int v1] (cPre D dT (cSP a_this ++ (cW dT (a_this 4) g_this_world)) sz)) (va_Qv (fun (u : Unit) => o = (Sum.inr (), u)) (fun u t => cAt D dT (va_A (cSP a_this ++ (cW dT (a_this 4) g_this_world)) sz) (cSP a_this ++ (cW dT (a_this 4) g_this_world)) t) (va_A (cSP a_this ++ (cW dT (a_this 4) g_this_world)) sz)) (xEnd D dT (xoP o) (fun u => (cSP a_this ++ (cW dT (a_this 4) g_this_world))) (va_A (cSP a_this ++ (cW dT (a_this 4) g_this_world)) sz)) 1 6 (va_A (cSP a_this ++ (cW dT (a_this 4) g_this_world)) sz) := by
  refine mStartX (WS := (cSP a_this ++ (cW dT (a_this 4) g_this_world))) (Qc := fun A => va_Qv (fun (u : Unit) => o = (Sum.inr (), u)) (fun u t => cAt D dT A (cSP a_this ++ (cW dT (a_this 4) g_this_world)) t) A) (XC := fun A => xEnd D dT (xoP o) (fun u => (cSP a_this ++ (cW dT (a_this 4) g_this_world))) A) RX8 rfl (by decide) (Nat.le_of_ble_eq_true rfl) ?_ sz
  intro p e s m below meth c A ls hx hb hml hr hlk hnt hts hqs hown hE hA hK hP hD hS hl
  have hl : lv_has ls 2 [(0, .ref (a_this 0 0)), (1, .int v1)] := hl
  unfold f_X8_needTable at h
  refine lv_aload_n hx hb dX8_needTable_0 rfl (lv_at hl 0 rfl) ?_
  refine gf_X8_33 (v := .ref ((a_this 4) 0)) hx hb hqs hown hK hP 0 rfl rfl dX8_needTable_1 ?_
  refine lv_iload_n hx hb dX8_needTable_4 rfl (lv_at hl 1 rfl) ?_
  obtain ⟨o1, e1, h⟩ := obind h
  have hPq : va_P D vwCl ((cW dT (a_this 4) g_this_world) ++ (cSP a_this)) _ := hP.perm (wj_split [cSP a_this, cW dT (a_this 4) g_this_world] [1] [0] rfl)
  have hDq : va_D A ((cW dT (a_this 4) g_this_world) ++ (cSP a_this)) := hD.perm (wj_split [cSP a_this, cW dT (a_this 4) g_this_world] [1] [0] rfl)
  have hPc := hPq.left
  have hDc := hDq.left
  have hFc := va_freeL hDq hS hA
  refine cl_iL (wr := (cSP a_this)) (va_runV (As := [.int v1]) (rest := []) ⟨hx, hb, hml, hown, hts⟩ (c_X7_hasTable l hlt D dT (a_this 4) g_this_world v1 o1 e1 _) (cwV 1 hts (TB_V w_762 w_527 w_528 w_38 w_529) rfl rfl rfl ⟨rfl, nd_X7_hasTable⟩ ⟨Nat.le_of_ble_eq_true rfl, Nat.le_of_ble_eq_true rfl⟩) (cPre.V hPc hDc hK hE hS hFc (va_recv hK hPc (ci := 6) (q0 := 0) rfl rfl)) rfl rfl hl.1 rfl (lv_room (Nat.le_of_ble_eq_true rfl)) dX8_needTable_5 ⟨Nat.zero_le _, Nat.zero_le _⟩) hPq hDq hS hFc (fun r1 u1 H locs hw hP hD hS => ?_)
  obtain ⟨rfl, rfl⟩ := hw
  have hP : va_P D vwCl (cSP a_this ++ (cW dT (a_this 4) g_this_world)) H := hP.perm (wj_back [cW dT (a_this 4) g_this_world] [cSP a_this] [1, 0] rfl)
  have hD : va_D A (cSP a_this ++ (cW dT (a_this 4) g_this_world)) := hD.perm (wj_back [cW dT (a_this 4) g_this_world] [cSP a_this] [1, 0] rfl)
  refine lv_if_ne (tgt := 22) hx hb dX8_needTable_8 (by decide) (fun c2 => ?_) (fun c2 => ?_)
  · replace h := iteF c2 h
    refine W.widen (k := 1) (n := 6) (Nat.le_of_ble_eq_true rfl) (Nat.le_of_ble_eq_true rfl) ?_
    exact vx_ret (rt_v hx hb hr hlk hK hS (() : Unit) (Option.some.inj h).symm hP hD dX8_needTable_22)
  · replace h := iteT c2 h
    exact th_W (k := 2) exOkB rfl (List.mem_of_getElem? (i := 3) rfl) hlt hx hb (hl.1.trans hml.symm) hlk hnt hqs hown hE hK hS (() : Unit) (xoP_of h) hP hD rfl rfl rfl rfl rfl rfl dX8_needTable_11 dX8_needTable_14 dX8_needTable_15 dX8_needTable_18 dX8_needTable_21

def f_X8_size (g_this_world : TW) (v1 : Int32) : Option ((Nat ⊕ Int32) × (Unit)) :=
  ((f_X8_needTable g_this_world v1).bind fun o1 => (fun u1 => o1.1.elim (fun k1 => (some (Sum.inl k1, ()))) (fun _ => ((f_X7_sizeOf g_this_world v1).bind fun o2 => (some ((Sum.inr o2.1), ()))))) o1.2)
set_option maxHeartbeats 8000000 in
set_option maxRecDepth 100000 in
theorem c_X8_size (l : Launch) (hlt : l.stackTraces = false) (D : va_G) (dT : Nat → ClassId) (a_this : Nat → Nat → Nat) (g_this_world : TW) (v1 : Int32) (o : ((Nat ⊕ Int32) × (Unit))) (h : f_X8_size g_this_world v1 = some o) (sz : Nat) : vx_Met l yX8_size (WSm yX8_size cX8_size 2 (some .int)) { frames := 7, cells := 1, slots := 6, locals := 111 } (va_Pc [.ref (a_this 0 0), .int v1] (cPre D dT (cSP a_this ++ (cW dT (a_this 4) g_this_world)) sz)) (va_Qi (fun (r : Int32) (u : Unit) => o = (Sum.inr r, u)) (fun u t => cAt D dT (va_A (cSP a_this ++ (cW dT (a_this 4) g_this_world)) sz) (cSP a_this ++ (cW dT (a_this 4) g_this_world)) t) (va_A (cSP a_this ++ (cW dT (a_this 4) g_this_world)) sz)) (xEnd D dT (xoP o) (fun u => (cSP a_this ++ (cW dT (a_this 4) g_this_world))) (va_A (cSP a_this ++ (cW dT (a_this 4) g_this_world)) sz)) 1 6 (va_A (cSP a_this ++ (cW dT (a_this 4) g_this_world)) sz) := by
  refine mStartX (WS := (cSP a_this ++ (cW dT (a_this 4) g_this_world))) (Qc := fun A => va_Qi (fun (r : Int32) (u : Unit) => o = (Sum.inr r, u)) (fun u t => cAt D dT A (cSP a_this ++ (cW dT (a_this 4) g_this_world)) t) A) (XC := fun A => xEnd D dT (xoP o) (fun u => (cSP a_this ++ (cW dT (a_this 4) g_this_world))) A) RX8 rfl (by decide) (Nat.le_of_ble_eq_true rfl) ?_ sz
  intro p e s m below meth c A ls hx hb hml hr hlk hnt hts hqs hown hE hA hK hP hD hS hl
  have hl : lv_has ls 2 [(0, .ref (a_this 0 0)), (1, .int v1)] := hl
  unfold f_X8_size at h
  refine lv_aload_n hx hb dX8_size_0 rfl (lv_at hl 0 rfl) ?_
  refine lv_iload_n hx hb dX8_size_1 rfl (lv_at hl 1 rfl) ?_
  obtain ⟨o1, e1, h⟩ := obind h
  have hPq : va_P D vwCl ((cSP a_this ++ (cW dT (a_this 4) g_this_world)) ++ ([] : va_W)) _ := hP.perm (wj_split [cSP a_this, cW dT (a_this 4) g_this_world] [0, 1] [] rfl)
  have hDq : va_D A ((cSP a_this ++ (cW dT (a_this 4) g_this_world)) ++ ([] : va_W)) := hD.perm (wj_split [cSP a_this, cW dT (a_this 4) g_this_world] [0, 1] [] rfl)
  have hPc := hPq.left
  have hDc := hDq.left
  have hFc := va_freeL hDq hS hA
  refine xcl_vL (wr := ([] : va_W)) (vx_runV (As := [.int v1]) (rest := []) ⟨hx, hb, hml, hown, hts⟩ (c_X8_needTable l hlt D dT a_this g_this_world v1 o1 e1 _) (cwV 1 hts (TB_V w_758 w_760 w_28 w_33 w_761) rfl rfl rfl ⟨rfl, nd_X8_needTable⟩ ⟨Nat.le_of_ble_eq_true rfl, Nat.le_of_ble_eq_true rfl⟩) (cPre.V hPc hDc hK hE hS hFc (va_recv hK hPc (ci := 7) (q0 := 0) rfl rfl)) rfl rfl hl.1 rfl (lv_room (Nat.le_of_ble_eq_true rfl)) dX8_size_2 ⟨Nat.le_of_ble_eq_true rfl, Nat.le_of_ble_eq_true rfl⟩) hPq hDq hS hFc (fun k1 u1 E1 ce1 q1 H locs hw hEk hP hD hS hxc hxv hxl => ?_) (fun u1 H locs hw hP hD hS => ?_)
  · have hw := xoP_inv hw
    subst hw
    have hP : va_P D vwCl (cSP a_this ++ (cW dT (a_this 4) g_this_world)) H := hP.perm (wj_back [cSP a_this, cW dT (a_this 4) g_this_world] [] [0, 1] rfl)
    have hD : va_D A (cSP a_this ++ (cW dT (a_this 4) g_this_world)) := hD.perm (wj_back [cSP a_this, cW dT (a_this 4) g_this_world] [] [0, 1] rfl)
    exact xo_S hlk hnt hK hS hEk hxc hxv hxl (() : Unit) (xoP_of h) hP hD rfl rfl
  subst hw
  replace h := sumR h
  have hP : va_P D vwCl (cSP a_this ++ (cW dT (a_this 4) g_this_world)) H := hP.perm (wj_back [cSP a_this, cW dT (a_this 4) g_this_world] [] [0, 1] rfl)
  have hD : va_D A (cSP a_this ++ (cW dT (a_this 4) g_this_world)) := hD.perm (wj_back [cSP a_this, cW dT (a_this 4) g_this_world] [] [0, 1] rfl)
  refine lv_aload_n hx hb dX8_size_5 rfl (lv_at hl 0 rfl) ?_
  refine gf_X8_33 (v := .ref ((a_this 4) 0)) hx hb hqs hown hK hP 0 rfl rfl dX8_size_6 ?_
  refine lv_iload_n hx hb dX8_size_9 rfl (lv_at hl 1 rfl) ?_
  obtain ⟨o2, e2, h⟩ := obind h
  have hPq : va_P D vwCl ((cW dT (a_this 4) g_this_world) ++ (cSP a_this)) _ := hP.perm (wj_split [cSP a_this, cW dT (a_this 4) g_this_world] [1] [0] rfl)
  have hDq : va_D A ((cW dT (a_this 4) g_this_world) ++ (cSP a_this)) := hD.perm (wj_split [cSP a_this, cW dT (a_this 4) g_this_world] [1] [0] rfl)
  have hPc := hPq.left
  have hDc := hDq.left
  have hFc := va_freeL hDq hS hA
  refine cl_iL (wr := (cSP a_this)) (va_runV (As := [.int v1]) (rest := []) ⟨hx, hb, hml, hown, hts⟩ (c_X7_sizeOf l hlt D dT (a_this 4) g_this_world v1 o2 e2 _) (cwV 1 hts (TB_V w_779 w_396 w_397 w_38 w_398) rfl rfl rfl ⟨rfl, nd_X7_sizeOf⟩ ⟨Nat.le_of_ble_eq_true rfl, Nat.le_of_ble_eq_true rfl⟩) (cPre.V hPc hDc hK hE hS hFc (va_recv hK hPc (ci := 6) (q0 := 0) rfl rfl)) rfl rfl hl.1 rfl (lv_room (Nat.le_of_ble_eq_true rfl)) dX8_size_10 ⟨Nat.le_of_ble_eq_true rfl, Nat.le_of_ble_eq_true rfl⟩) hPq hDq hS hFc (fun r2 u2 H locs hw hP hD hS => ?_)
  obtain ⟨rfl, rfl⟩ := hw
  have hP : va_P D vwCl (cSP a_this ++ (cW dT (a_this 4) g_this_world)) H := hP.perm (wj_back [cW dT (a_this 4) g_this_world] [cSP a_this] [1, 0] rfl)
  have hD : va_D A (cSP a_this ++ (cW dT (a_this 4) g_this_world)) := hD.perm (wj_back [cW dT (a_this 4) g_this_world] [cSP a_this] [1, 0] rfl)
  exact vx_ret (rt_i hx hb hr hlk hK hS (() : Unit) (Option.some.inj h).symm hP hD dX8_size_13)

def f_X8_needTwoTables (g_this_world : TW) (v1 : Int32) (v2 : Int32) : Option ((Nat ⊕ Unit) × (Unit)) :=
  ((f_X8_needTable g_this_world v1).bind fun o1 => (fun u1 => o1.1.elim (fun k1 => (some (Sum.inl k1, ()))) (fun _ => ((f_X8_needTable g_this_world v2).bind fun o2 => (fun u2 => o2.1.elim (fun k2 => (some (Sum.inl k2, ()))) (fun _ => (if v1 = v2 then (some (Sum.inl 0, ())) else (some ((Sum.inr ()), ()))))) o2.2))) o1.2)
set_option maxHeartbeats 8000000 in
set_option maxRecDepth 100000 in
theorem c_X8_needTwoTables (l : Launch) (hlt : l.stackTraces = false) (D : va_G) (dT : Nat → ClassId) (a_this : Nat → Nat → Nat) (g_this_world : TW) (v1 : Int32) (v2 : Int32) (o : ((Nat ⊕ Unit) × (Unit))) (h : f_X8_needTwoTables g_this_world v1 v2 = some o) (sz : Nat) : vx_Met l yX8_needTwoTables (WSm yX8_needTwoTables cX8_needTwoTables 3 none) { frames := 7, cells := 3, slots := 18, locals := 111 } (va_Pc [.ref (a_this 0 0), .int v1, .int v2] (cPre D dT (cSP a_this ++ (cW dT (a_this 4) g_this_world)) sz)) (va_Qv (fun (u : Unit) => o = (Sum.inr (), u)) (fun u t => cAt D dT (va_A (cSP a_this ++ (cW dT (a_this 4) g_this_world)) sz) (cSP a_this ++ (cW dT (a_this 4) g_this_world)) t) (va_A (cSP a_this ++ (cW dT (a_this 4) g_this_world)) sz)) (xEnd D dT (xoP o) (fun u => (cSP a_this ++ (cW dT (a_this 4) g_this_world))) (va_A (cSP a_this ++ (cW dT (a_this 4) g_this_world)) sz)) 3 18 (va_A (cSP a_this ++ (cW dT (a_this 4) g_this_world)) sz) := by
  refine mStartX (WS := (cSP a_this ++ (cW dT (a_this 4) g_this_world))) (Qc := fun A => va_Qv (fun (u : Unit) => o = (Sum.inr (), u)) (fun u t => cAt D dT A (cSP a_this ++ (cW dT (a_this 4) g_this_world)) t) A) (XC := fun A => xEnd D dT (xoP o) (fun u => (cSP a_this ++ (cW dT (a_this 4) g_this_world))) A) RX8 rfl (by decide) (Nat.le_of_ble_eq_true rfl) ?_ sz
  intro p e s m below meth c A ls hx hb hml hr hlk hnt hts hqs hown hE hA hK hP hD hS hl
  have hl : lv_has ls 3 [(0, .ref (a_this 0 0)), (1, .int v1), (2, .int v2)] := hl
  unfold f_X8_needTwoTables at h
  refine lv_aload_n hx hb dX8_needTwoTables_0 rfl (lv_at hl 0 rfl) ?_
  refine lv_iload_n hx hb dX8_needTwoTables_1 rfl (lv_at hl 1 rfl) ?_
  obtain ⟨o1, e1, h⟩ := obind h
  have hPq : va_P D vwCl ((cSP a_this ++ (cW dT (a_this 4) g_this_world)) ++ ([] : va_W)) _ := hP.perm (wj_split [cSP a_this, cW dT (a_this 4) g_this_world] [0, 1] [] rfl)
  have hDq : va_D A ((cSP a_this ++ (cW dT (a_this 4) g_this_world)) ++ ([] : va_W)) := hD.perm (wj_split [cSP a_this, cW dT (a_this 4) g_this_world] [0, 1] [] rfl)
  have hPc := hPq.left
  have hDc := hDq.left
  have hFc := va_freeL hDq hS hA
  refine xcl_vL (wr := ([] : va_W)) (vx_runV (As := [.int v1]) (rest := []) ⟨hx, hb, hml, hown, hts⟩ (c_X8_needTable l hlt D dT a_this g_this_world v1 o1 e1 _) (cwV 1 hts (TB_V w_758 w_760 w_28 w_33 w_761) rfl rfl rfl ⟨rfl, nd_X8_needTable⟩ ⟨Nat.le_of_ble_eq_true rfl, Nat.le_of_ble_eq_true rfl⟩) (cPre.V hPc hDc hK hE hS hFc (va_recv hK hPc (ci := 7) (q0 := 0) rfl rfl)) rfl rfl hl.1 rfl (lv_room (Nat.le_of_ble_eq_true rfl)) dX8_needTwoTables_2 ⟨Nat.le_of_ble_eq_true rfl, Nat.le_of_ble_eq_true rfl⟩) hPq hDq hS hFc (fun k1 u1 E1 ce1 q1 H locs hw hEk hP hD hS hxc hxv hxl => ?_) (fun u1 H locs hw hP hD hS => ?_)
  · have hw := xoP_inv hw
    subst hw
    have hP : va_P D vwCl (cSP a_this ++ (cW dT (a_this 4) g_this_world)) H := hP.perm (wj_back [cSP a_this, cW dT (a_this 4) g_this_world] [] [0, 1] rfl)
    have hD : va_D A (cSP a_this ++ (cW dT (a_this 4) g_this_world)) := hD.perm (wj_back [cSP a_this, cW dT (a_this 4) g_this_world] [] [0, 1] rfl)
    exact xo_S hlk hnt hK hS hEk hxc hxv hxl (() : Unit) (xoP_of h) hP hD rfl rfl
  subst hw
  replace h := sumR h
  have hP : va_P D vwCl (cSP a_this ++ (cW dT (a_this 4) g_this_world)) H := hP.perm (wj_back [cSP a_this, cW dT (a_this 4) g_this_world] [] [0, 1] rfl)
  have hD : va_D A (cSP a_this ++ (cW dT (a_this 4) g_this_world)) := hD.perm (wj_back [cSP a_this, cW dT (a_this 4) g_this_world] [] [0, 1] rfl)
  refine lv_aload_n hx hb dX8_needTwoTables_5 rfl (lv_at hl 0 rfl) ?_
  refine lv_iload_n hx hb dX8_needTwoTables_6 rfl (lv_at hl 2 rfl) ?_
  obtain ⟨o2, e2, h⟩ := obind h
  have hPq : va_P D vwCl ((cSP a_this ++ (cW dT (a_this 4) g_this_world)) ++ ([] : va_W)) _ := hP.perm (wj_split [cSP a_this, cW dT (a_this 4) g_this_world] [0, 1] [] rfl)
  have hDq : va_D A ((cSP a_this ++ (cW dT (a_this 4) g_this_world)) ++ ([] : va_W)) := hD.perm (wj_split [cSP a_this, cW dT (a_this 4) g_this_world] [0, 1] [] rfl)
  have hPc := hPq.left
  have hDc := hDq.left
  have hFc := va_freeL hDq hS hA
  refine xcl_vL (wr := ([] : va_W)) (vx_runV (As := [.int v2]) (rest := []) ⟨hx, hb, hml, hown, hts⟩ (c_X8_needTable l hlt D dT a_this g_this_world v2 o2 e2 _) (cwV 1 hts (TB_V w_758 w_760 w_28 w_33 w_761) rfl rfl rfl ⟨rfl, nd_X8_needTable⟩ ⟨Nat.le_of_ble_eq_true rfl, Nat.le_of_ble_eq_true rfl⟩) (cPre.V hPc hDc hK hE hS hFc (va_recv hK hPc (ci := 7) (q0 := 0) rfl rfl)) rfl rfl hl.1 rfl (lv_room (Nat.le_of_ble_eq_true rfl)) dX8_needTwoTables_7 ⟨Nat.le_of_ble_eq_true rfl, Nat.le_of_ble_eq_true rfl⟩) hPq hDq hS hFc (fun k2 u2 E2 ce2 q2 H locs hw hEk hP hD hS hxc hxv hxl => ?_) (fun u2 H locs hw hP hD hS => ?_)
  · have hw := xoP_inv hw
    subst hw
    have hP : va_P D vwCl (cSP a_this ++ (cW dT (a_this 4) g_this_world)) H := hP.perm (wj_back [cSP a_this, cW dT (a_this 4) g_this_world] [] [0, 1] rfl)
    have hD : va_D A (cSP a_this ++ (cW dT (a_this 4) g_this_world)) := hD.perm (wj_back [cSP a_this, cW dT (a_this 4) g_this_world] [] [0, 1] rfl)
    exact xo_S hlk hnt hK hS hEk hxc hxv hxl (() : Unit) (xoP_of h) hP hD rfl rfl
  subst hw
  replace h := sumR h
  have hP : va_P D vwCl (cSP a_this ++ (cW dT (a_this 4) g_this_world)) H := hP.perm (wj_back [cSP a_this, cW dT (a_this 4) g_this_world] [] [0, 1] rfl)
  have hD : va_D A (cSP a_this ++ (cW dT (a_this 4) g_this_world)) := hD.perm (wj_back [cSP a_this, cW dT (a_this 4) g_this_world] [] [0, 1] rfl)
  refine lv_iload_n hx hb dX8_needTwoTables_10 rfl (lv_at hl 1 rfl) ?_
  refine lv_iload_n hx hb dX8_needTwoTables_11 rfl (lv_at hl 2 rfl) ?_
  refine lv_icmp_ne (tgt := 25) hx hb dX8_needTwoTables_12 (by decide) (fun c3 => ?_) (fun c3 => ?_)
  · replace h := iteF c3 h
    refine W.widen (k := 3) (n := 18) (Nat.le_of_ble_eq_true rfl) (Nat.le_of_ble_eq_true rfl) ?_
    exact vx_ret (rt_v hx hb hr hlk hK hS (() : Unit) (Option.some.inj h).symm hP hD dX8_needTwoTables_25)
  · replace h := iteT c3 h
    exact th_S (k := 0) exOkI rfl (List.mem_of_getElem? (i := 4) rfl) hlt hx hb (hl.1.trans hml.symm) hlk hnt hqs hown hE hK hS (() : Unit) (xoP_of h) hP hD rfl rfl rfl rfl rfl rfl dX8_needTwoTables_15 dX8_needTwoTables_18 dX8_needTwoTables_19 dX8_needTwoTables_21 dX8_needTwoTables_24

def f_X8_pair (g_this_world : TW) (v1 : Int32) (v2 : Int32) (v3 : Int32) : Option ((Nat ⊕ Int32) × (Unit)) :=
  ((f_X8_needTwoTables g_this_world v1 v2).bind fun o1 => (fun u1 => o1.1.elim (fun k1 => (some (Sum.inl k1, ()))) (fun _ => ((f_X8_needRange v3 (0 : Int32) (4 : Int32)).bind fun o2 => (fun u2 => o2.1.elim (fun k2 => (some (Sum.inl k2, ()))) (fun _ => ((f_X8_pairIndex v1 v2).bind fun o3 => ((f_X7_pairNumberOf g_this_world o3.1 v3).bind fun o4 => (some ((Sum.inr o4.1), ())))))) o2.2))) o1.2)
set_option maxHeartbeats 8000000 in
set_option maxRecDepth 100000 in
theorem c_X8_pair (l : Launch) (hlt : l.stackTraces = false) (D : va_G) (dT : Nat → ClassId) (a_this : Nat → Nat → Nat) (g_this_world : TW) (v1 : Int32) (v2 : Int32) (v3 : Int32) (o : ((Nat ⊕ Int32) × (Unit))) (h : f_X8_pair g_this_world v1 v2 v3 = some o) (sz : Nat) : vx_Met l yX8_pair (WSm yX8_pair cX8_pair 4 (some .int)) { frames := 8, cells := 4, slots := 24, locals := 133 } (va_Pc [.ref (a_this 0 0), .int v1, .int v2, .int v3] (cPre D dT (cSP a_this ++ (cW dT (a_this 4) g_this_world)) sz)) (va_Qi (fun (r : Int32) (u : Unit) => o = (Sum.inr r, u)) (fun u t => cAt D dT (va_A (cSP a_this ++ (cW dT (a_this 4) g_this_world)) sz) (cSP a_this ++ (cW dT (a_this 4) g_this_world)) t) (va_A (cSP a_this ++ (cW dT (a_this 4) g_this_world)) sz)) (xEnd D dT (xoP o) (fun u => (cSP a_this ++ (cW dT (a_this 4) g_this_world))) (va_A (cSP a_this ++ (cW dT (a_this 4) g_this_world)) sz)) 4 24 (va_A (cSP a_this ++ (cW dT (a_this 4) g_this_world)) sz) := by
  refine mStartX (WS := (cSP a_this ++ (cW dT (a_this 4) g_this_world))) (Qc := fun A => va_Qi (fun (r : Int32) (u : Unit) => o = (Sum.inr r, u)) (fun u t => cAt D dT A (cSP a_this ++ (cW dT (a_this 4) g_this_world)) t) A) (XC := fun A => xEnd D dT (xoP o) (fun u => (cSP a_this ++ (cW dT (a_this 4) g_this_world))) A) RX8 rfl (by decide) (Nat.le_of_ble_eq_true rfl) ?_ sz
  intro p e s m below meth c A ls hx hb hml hr hlk hnt hts hqs hown hE hA hK hP hD hS hl
  have hl : lv_has ls 4 [(0, .ref (a_this 0 0)), (1, .int v1), (2, .int v2), (3, .int v3)] := hl
  unfold f_X8_pair at h
  refine lv_aload_n hx hb dX8_pair_0 rfl (lv_at hl 0 rfl) ?_
  refine lv_iload_n hx hb dX8_pair_1 rfl (lv_at hl 1 rfl) ?_
  refine lv_iload_n hx hb dX8_pair_2 rfl (lv_at hl 2 rfl) ?_
  obtain ⟨o1, e1, h⟩ := obind h
  have hPq : va_P D vwCl ((cSP a_this ++ (cW dT (a_this 4) g_this_world)) ++ ([] : va_W)) _ := hP.perm (wj_split [cSP a_this, cW dT (a_this 4) g_this_world] [0, 1] [] rfl)
  have hDq : va_D A ((cSP a_this ++ (cW dT (a_this 4) g_this_world)) ++ ([] : va_W)) := hD.perm (wj_split [cSP a_this, cW dT (a_this 4) g_this_world] [0, 1] [] rfl)
  have hPc := hPq.left
  have hDc := hDq.left
  have hFc := va_freeL hDq hS hA
  refine xcl_vL (wr := ([] : va_W)) (vx_runV (As := [.int v1, .int v2]) (rest := []) ⟨hx, hb, hml, hown, hts⟩ (c_X8_needTwoTables l hlt D dT a_this g_this_world v1 v2 o1 e1 _) (cwV 2 hts (TB_V w_788 w_790 w_29 w_33 w_791) rfl rfl rfl ⟨rfl, nd_X8_needTwoTables⟩ ⟨Nat.le_of_ble_eq_true rfl, Nat.le_of_ble_eq_true rfl⟩) (cPre.V hPc hDc hK hE hS hFc (va_recv hK hPc (ci := 7) (q0 := 0) rfl rfl)) rfl rfl hl.1 rfl (lv_room (Nat.le_of_ble_eq_true rfl)) dX8_pair_3 ⟨Nat.le_of_ble_eq_true rfl, Nat.le_of_ble_eq_true rfl⟩) hPq hDq hS hFc (fun k1 u1 E1 ce1 q1 H locs hw hEk hP hD hS hxc hxv hxl => ?_) (fun u1 H locs hw hP hD hS => ?_)
  · have hw := xoP_inv hw
    subst hw
    have hP : va_P D vwCl (cSP a_this ++ (cW dT (a_this 4) g_this_world)) H := hP.perm (wj_back [cSP a_this, cW dT (a_this 4) g_this_world] [] [0, 1] rfl)
    have hD : va_D A (cSP a_this ++ (cW dT (a_this 4) g_this_world)) := hD.perm (wj_back [cSP a_this, cW dT (a_this 4) g_this_world] [] [0, 1] rfl)
    exact xo_S hlk hnt hK hS hEk hxc hxv hxl (() : Unit) (xoP_of h) hP hD rfl rfl
  subst hw
  replace h := sumR h
  have hP : va_P D vwCl (cSP a_this ++ (cW dT (a_this 4) g_this_world)) H := hP.perm (wj_back [cSP a_this, cW dT (a_this 4) g_this_world] [] [0, 1] rfl)
  have hD : va_D A (cSP a_this ++ (cW dT (a_this 4) g_this_world)) := hD.perm (wj_back [cSP a_this, cW dT (a_this 4) g_this_world] [] [0, 1] rfl)
  refine lv_iload_n hx hb dX8_pair_6 rfl (lv_at hl 3 rfl) ?_
  refine lv_iconst (v := 0) hx hb dX8_pair_7 (by decide) ?_
  refine lv_iconst (v := 4) hx hb dX8_pair_8 (by decide) ?_
  obtain ⟨o2, e2, h⟩ := obind h
  have hPq : va_P D vwCl (([] : va_W) ++ (cSP a_this ++ (cW dT (a_this 4) g_this_world))) _ := hP.perm (wj_split [cSP a_this, cW dT (a_this 4) g_this_world] [] [0, 1] rfl)
  have hDq : va_D A (([] : va_W) ++ (cSP a_this ++ (cW dT (a_this 4) g_this_world))) := hD.perm (wj_split [cSP a_this, cW dT (a_this 4) g_this_world] [] [0, 1] rfl)
  have hPc := hPq.left
  have hDc := hDq.left
  have hFc := va_freeL hDq hS hA
  refine xcl_vL (wr := (cSP a_this ++ (cW dT (a_this 4) g_this_world))) (vx_runS (As := [.int v3, .int (0 : Int32), .int (4 : Int32)]) (rest := []) ⟨hx, hb, hml, hown, hts⟩ (c_X8_needRange l hlt D dT v3 (0 : Int32) (4 : Int32) o2 e2 _) (va_cwS 3 hts (TB_S w_287 w_288 w_33 w_289) rfl rfl rfl nd_X8_needRange ⟨Nat.le_of_ble_eq_true rfl, Nat.le_of_ble_eq_true rfl⟩) (cPre.S hPc hDc hK hE hS hFc) rfl rfl hl.1 rfl (lv_room (Nat.le_of_ble_eq_true rfl)) dX8_pair_9 ⟨Nat.le_of_ble_eq_true rfl, Nat.le_of_ble_eq_true rfl⟩) hPq hDq hS hFc (fun k2 u2 E2 ce2 q2 H locs hw hEk hP hD hS hxc hxv hxl => ?_) (fun u2 H locs hw hP hD hS => ?_)
  · have hw := xoP_inv hw
    subst hw
    have hP : va_P D vwCl (cSP a_this ++ (cW dT (a_this 4) g_this_world)) H := hP.perm (wj_back [] [cSP a_this, cW dT (a_this 4) g_this_world] [0, 1] rfl)
    have hD : va_D A (cSP a_this ++ (cW dT (a_this 4) g_this_world)) := hD.perm (wj_back [] [cSP a_this, cW dT (a_this 4) g_this_world] [0, 1] rfl)
    exact xo_S hlk hnt hK hS hEk hxc hxv hxl (() : Unit) (xoP_of h) hP hD rfl rfl
  subst hw
  replace h := sumR h
  have hP : va_P D vwCl (cSP a_this ++ (cW dT (a_this 4) g_this_world)) H := hP.perm (wj_back [] [cSP a_this, cW dT (a_this 4) g_this_world] [0, 1] rfl)
  have hD : va_D A (cSP a_this ++ (cW dT (a_this 4) g_this_world)) := hD.perm (wj_back [] [cSP a_this, cW dT (a_this 4) g_this_world] [0, 1] rfl)
  refine lv_aload_n hx hb dX8_pair_12 rfl (lv_at hl 0 rfl) ?_
  refine gf_X8_33 (v := .ref ((a_this 4) 0)) hx hb hqs hown hK hP 0 rfl rfl dX8_pair_13 ?_
  refine lv_iload_n hx hb dX8_pair_16 rfl (lv_at hl 1 rfl) ?_
  refine lv_iload_n hx hb dX8_pair_17 rfl (lv_at hl 2 rfl) ?_
  obtain ⟨o3, e3, h⟩ := obind h
  have hPq : va_P D vwCl (([] : va_W) ++ (cSP a_this ++ (cW dT (a_this 4) g_this_world))) _ := hP.perm (wj_split [cSP a_this, cW dT (a_this 4) g_this_world] [] [0, 1] rfl)
  have hDq : va_D A (([] : va_W) ++ (cSP a_this ++ (cW dT (a_this 4) g_this_world))) := hD.perm (wj_split [cSP a_this, cW dT (a_this 4) g_this_world] [] [0, 1] rfl)
  have hPc := hPq.left
  have hDc := hDq.left
  have hFc := va_freeL hDq hS hA
  refine cl_iL (wr := (cSP a_this ++ (cW dT (a_this 4) g_this_world))) (va_runS (As := [.int v1, .int v2]) (rest := [.ref ((a_this 4) 0)]) ⟨hx, hb, hml, hown, hts⟩ (c_X8_pairIndex l hlt D dT v1 v2 o3 e3 _) (va_cwS 2 hts (TB_S w_530 w_473 w_33 w_474) rfl rfl rfl nd_X8_pairIndex ⟨Nat.le_of_ble_eq_true rfl, Nat.le_of_ble_eq_true rfl⟩) (cPre.S hPc hDc hK hE hS hFc) rfl rfl hl.1 rfl (lv_room (Nat.le_of_ble_eq_true rfl)) dX8_pair_18 ⟨Nat.le_of_ble_eq_true rfl, Nat.le_of_ble_eq_true rfl⟩) hPq hDq hS hFc (fun r3 u3 H locs hw hP hD hS => ?_)
  obtain ⟨rfl, rfl⟩ := hw
  have hP : va_P D vwCl (cSP a_this ++ (cW dT (a_this 4) g_this_world)) H := hP.perm (wj_back [] [cSP a_this, cW dT (a_this 4) g_this_world] [0, 1] rfl)
  have hD : va_D A (cSP a_this ++ (cW dT (a_this 4) g_this_world)) := hD.perm (wj_back [] [cSP a_this, cW dT (a_this 4) g_this_world] [0, 1] rfl)
  refine lv_iload_n hx hb dX8_pair_21 rfl (lv_at hl 3 rfl) ?_
  obtain ⟨o4, e4, h⟩ := obind h
  have hPq : va_P D vwCl ((cW dT (a_this 4) g_this_world) ++ (cSP a_this)) _ := hP.perm (wj_split [cSP a_this, cW dT (a_this 4) g_this_world] [1] [0] rfl)
  have hDq : va_D A ((cW dT (a_this 4) g_this_world) ++ (cSP a_this)) := hD.perm (wj_split [cSP a_this, cW dT (a_this 4) g_this_world] [1] [0] rfl)
  have hPc := hPq.left
  have hDc := hDq.left
  have hFc := va_freeL hDq hS hA
  refine cl_iL (wr := (cSP a_this)) (va_runV (As := [.int o3.1, .int v3]) (rest := []) ⟨hx, hb, hml, hown, hts⟩ (c_X7_pairNumberOf l hlt D dT (a_this 4) g_this_world o3.1 v3 o4 e4 _) (cwV 2 hts (TB_V w_793 w_794 w_795 w_38 w_796) rfl rfl rfl ⟨rfl, nd_X7_pairNumberOf⟩ ⟨Nat.le_of_ble_eq_true rfl, Nat.le_of_ble_eq_true rfl⟩) (cPre.V hPc hDc hK hE hS hFc (va_recv hK hPc (ci := 6) (q0 := 0) rfl rfl)) rfl rfl hl.1 rfl (lv_room (Nat.le_of_ble_eq_true rfl)) dX8_pair_22 ⟨Nat.le_of_ble_eq_true rfl, Nat.le_of_ble_eq_true rfl⟩) hPq hDq hS hFc (fun r4 u4 H locs hw hP hD hS => ?_)
  obtain ⟨rfl, rfl⟩ := hw
  have hP : va_P D vwCl (cSP a_this ++ (cW dT (a_this 4) g_this_world)) H := hP.perm (wj_back [cW dT (a_this 4) g_this_world] [cSP a_this] [1, 0] rfl)
  have hD : va_D A (cSP a_this ++ (cW dT (a_this 4) g_this_world)) := hD.perm (wj_back [cW dT (a_this 4) g_this_world] [cSP a_this] [1, 0] rfl)
  exact vx_ret (rt_i hx hb hr hlk hK hS (() : Unit) (Option.some.inj h).symm hP hD dX8_pair_25)

def f_X8_surprise (g_this_world : TW) (v1 : Int32) (v2 : Int32) : Option ((Nat ⊕ Int32) × (Unit)) :=
  ((f_X8_needRange v1 (0 : Int32) (9 : Int32)).bind fun o1 => (fun u1 => o1.1.elim (fun k1 => (some (Sum.inl k1, ()))) (fun _ => ((f_X8_needRange v2 (0 : Int32) (3 : Int32)).bind fun o2 => (fun u2 => o2.1.elim (fun k2 => (some (Sum.inl k2, ()))) (fun _ => ((f_X7_surpriseNumberOf g_this_world v1 v2).bind fun o3 => (some ((Sum.inr o3.1), ()))))) o2.2))) o1.2)
set_option maxHeartbeats 8000000 in
set_option maxRecDepth 100000 in
theorem c_X8_surprise (l : Launch) (hlt : l.stackTraces = false) (D : va_G) (dT : Nat → ClassId) (a_this : Nat → Nat → Nat) (g_this_world : TW) (v1 : Int32) (v2 : Int32) (o : ((Nat ⊕ Int32) × (Unit))) (h : f_X8_surprise g_this_world v1 v2 = some o) (sz : Nat) : vx_Met l yX8_surprise (WSm yX8_surprise cX8_surprise 3 (some .int)) { frames := 7, cells := 2, slots := 12, locals := 112 } (va_Pc [.ref (a_this 0 0), .int v1, .int v2] (cPre D dT (cSP a_this ++ (cW dT (a_this 4) g_this_world)) sz)) (va_Qi (fun (r : Int32) (u : Unit) => o = (Sum.inr r, u)) (fun u t => cAt D dT (va_A (cSP a_this ++ (cW dT (a_this 4) g_this_world)) sz) (cSP a_this ++ (cW dT (a_this 4) g_this_world)) t) (va_A (cSP a_this ++ (cW dT (a_this 4) g_this_world)) sz)) (xEnd D dT (xoP o) (fun u => (cSP a_this ++ (cW dT (a_this 4) g_this_world))) (va_A (cSP a_this ++ (cW dT (a_this 4) g_this_world)) sz)) 2 12 (va_A (cSP a_this ++ (cW dT (a_this 4) g_this_world)) sz) := by
  refine mStartX (WS := (cSP a_this ++ (cW dT (a_this 4) g_this_world))) (Qc := fun A => va_Qi (fun (r : Int32) (u : Unit) => o = (Sum.inr r, u)) (fun u t => cAt D dT A (cSP a_this ++ (cW dT (a_this 4) g_this_world)) t) A) (XC := fun A => xEnd D dT (xoP o) (fun u => (cSP a_this ++ (cW dT (a_this 4) g_this_world))) A) RX8 rfl (by decide) (Nat.le_of_ble_eq_true rfl) ?_ sz
  intro p e s m below meth c A ls hx hb hml hr hlk hnt hts hqs hown hE hA hK hP hD hS hl
  have hl : lv_has ls 3 [(0, .ref (a_this 0 0)), (1, .int v1), (2, .int v2)] := hl
  unfold f_X8_surprise at h
  refine lv_iload_n hx hb dX8_surprise_0 rfl (lv_at hl 1 rfl) ?_
  refine lv_iconst (v := 0) hx hb dX8_surprise_1 (by decide) ?_
  refine lv_bipush (v := 9) hx hb dX8_surprise_2 (by decide) ?_
  obtain ⟨o1, e1, h⟩ := obind h
  have hPq : va_P D vwCl (([] : va_W) ++ (cSP a_this ++ (cW dT (a_this 4) g_this_world))) _ := hP.perm (wj_split [cSP a_this, cW dT (a_this 4) g_this_world] [] [0, 1] rfl)
  have hDq : va_D A (([] : va_W) ++ (cSP a_this ++ (cW dT (a_this 4) g_this_world))) := hD.perm (wj_split [cSP a_this, cW dT (a_this 4) g_this_world] [] [0, 1] rfl)
  have hPc := hPq.left
  have hDc := hDq.left
  have hFc := va_freeL hDq hS hA
  refine xcl_vL (wr := (cSP a_this ++ (cW dT (a_this 4) g_this_world))) (vx_runS (As := [.int v1, .int (0 : Int32), .int (9 : Int32)]) (rest := []) ⟨hx, hb, hml, hown, hts⟩ (c_X8_needRange l hlt D dT v1 (0 : Int32) (9 : Int32) o1 e1 _) (va_cwS 3 hts (TB_S w_287 w_288 w_33 w_289) rfl rfl rfl nd_X8_needRange ⟨Nat.le_of_ble_eq_true rfl, Nat.le_of_ble_eq_true rfl⟩) (cPre.S hPc hDc hK hE hS hFc) rfl rfl hl.1 rfl (lv_room (Nat.le_of_ble_eq_true rfl)) dX8_surprise_4 ⟨Nat.le_of_ble_eq_true rfl, Nat.le_of_ble_eq_true rfl⟩) hPq hDq hS hFc (fun k1 u1 E1 ce1 q1 H locs hw hEk hP hD hS hxc hxv hxl => ?_) (fun u1 H locs hw hP hD hS => ?_)
  · have hw := xoP_inv hw
    subst hw
    have hP : va_P D vwCl (cSP a_this ++ (cW dT (a_this 4) g_this_world)) H := hP.perm (wj_back [] [cSP a_this, cW dT (a_this 4) g_this_world] [0, 1] rfl)
    have hD : va_D A (cSP a_this ++ (cW dT (a_this 4) g_this_world)) := hD.perm (wj_back [] [cSP a_this, cW dT (a_this 4) g_this_world] [0, 1] rfl)
    exact xo_S hlk hnt hK hS hEk hxc hxv hxl (() : Unit) (xoP_of h) hP hD rfl rfl
  subst hw
  replace h := sumR h
  have hP : va_P D vwCl (cSP a_this ++ (cW dT (a_this 4) g_this_world)) H := hP.perm (wj_back [] [cSP a_this, cW dT (a_this 4) g_this_world] [0, 1] rfl)
  have hD : va_D A (cSP a_this ++ (cW dT (a_this 4) g_this_world)) := hD.perm (wj_back [] [cSP a_this, cW dT (a_this 4) g_this_world] [0, 1] rfl)
  refine lv_iload_n hx hb dX8_surprise_7 rfl (lv_at hl 2 rfl) ?_
  refine lv_iconst (v := 0) hx hb dX8_surprise_8 (by decide) ?_
  refine lv_iconst (v := 3) hx hb dX8_surprise_9 (by decide) ?_
  obtain ⟨o2, e2, h⟩ := obind h
  have hPq : va_P D vwCl (([] : va_W) ++ (cSP a_this ++ (cW dT (a_this 4) g_this_world))) _ := hP.perm (wj_split [cSP a_this, cW dT (a_this 4) g_this_world] [] [0, 1] rfl)
  have hDq : va_D A (([] : va_W) ++ (cSP a_this ++ (cW dT (a_this 4) g_this_world))) := hD.perm (wj_split [cSP a_this, cW dT (a_this 4) g_this_world] [] [0, 1] rfl)
  have hPc := hPq.left
  have hDc := hDq.left
  have hFc := va_freeL hDq hS hA
  refine xcl_vL (wr := (cSP a_this ++ (cW dT (a_this 4) g_this_world))) (vx_runS (As := [.int v2, .int (0 : Int32), .int (3 : Int32)]) (rest := []) ⟨hx, hb, hml, hown, hts⟩ (c_X8_needRange l hlt D dT v2 (0 : Int32) (3 : Int32) o2 e2 _) (va_cwS 3 hts (TB_S w_287 w_288 w_33 w_289) rfl rfl rfl nd_X8_needRange ⟨Nat.le_of_ble_eq_true rfl, Nat.le_of_ble_eq_true rfl⟩) (cPre.S hPc hDc hK hE hS hFc) rfl rfl hl.1 rfl (lv_room (Nat.le_of_ble_eq_true rfl)) dX8_surprise_10 ⟨Nat.le_of_ble_eq_true rfl, Nat.le_of_ble_eq_true rfl⟩) hPq hDq hS hFc (fun k2 u2 E2 ce2 q2 H locs hw hEk hP hD hS hxc hxv hxl => ?_) (fun u2 H locs hw hP hD hS => ?_)
  · have hw := xoP_inv hw
    subst hw
    have hP : va_P D vwCl (cSP a_this ++ (cW dT (a_this 4) g_this_world)) H := hP.perm (wj_back [] [cSP a_this, cW dT (a_this 4) g_this_world] [0, 1] rfl)
    have hD : va_D A (cSP a_this ++ (cW dT (a_this 4) g_this_world)) := hD.perm (wj_back [] [cSP a_this, cW dT (a_this 4) g_this_world] [0, 1] rfl)
    exact xo_S hlk hnt hK hS hEk hxc hxv hxl (() : Unit) (xoP_of h) hP hD rfl rfl
  subst hw
  replace h := sumR h
  have hP : va_P D vwCl (cSP a_this ++ (cW dT (a_this 4) g_this_world)) H := hP.perm (wj_back [] [cSP a_this, cW dT (a_this 4) g_this_world] [0, 1] rfl)
  have hD : va_D A (cSP a_this ++ (cW dT (a_this 4) g_this_world)) := hD.perm (wj_back [] [cSP a_this, cW dT (a_this 4) g_this_world] [0, 1] rfl)
  refine lv_aload_n hx hb dX8_surprise_13 rfl (lv_at hl 0 rfl) ?_
  refine gf_X8_33 (v := .ref ((a_this 4) 0)) hx hb hqs hown hK hP 0 rfl rfl dX8_surprise_14 ?_
  refine lv_iload_n hx hb dX8_surprise_17 rfl (lv_at hl 1 rfl) ?_
  refine lv_iload_n hx hb dX8_surprise_18 rfl (lv_at hl 2 rfl) ?_
  obtain ⟨o3, e3, h⟩ := obind h
  have hPq : va_P D vwCl ((cW dT (a_this 4) g_this_world) ++ (cSP a_this)) _ := hP.perm (wj_split [cSP a_this, cW dT (a_this 4) g_this_world] [1] [0] rfl)
  have hDq : va_D A ((cW dT (a_this 4) g_this_world) ++ (cSP a_this)) := hD.perm (wj_split [cSP a_this, cW dT (a_this 4) g_this_world] [1] [0] rfl)
  have hPc := hPq.left
  have hDc := hDq.left
  have hFc := va_freeL hDq hS hA
  refine cl_iL (wr := (cSP a_this)) (va_runV (As := [.int v1, .int v2]) (rest := []) ⟨hx, hb, hml, hown, hts⟩ (c_X7_surpriseNumberOf l hlt D dT (a_this 4) g_this_world v1 v2 o3 e3 _) (cwV 2 hts (TB_V w_804 w_805 w_806 w_38 w_807) rfl rfl rfl ⟨rfl, nd_X7_surpriseNumberOf⟩ ⟨Nat.le_of_ble_eq_true rfl, Nat.le_of_ble_eq_true rfl⟩) (cPre.V hPc hDc hK hE hS hFc (va_recv hK hPc (ci := 6) (q0 := 0) rfl rfl)) rfl rfl hl.1 rfl (lv_room (Nat.le_of_ble_eq_true rfl)) dX8_surprise_19 ⟨Nat.le_of_ble_eq_true rfl, Nat.le_of_ble_eq_true rfl⟩) hPq hDq hS hFc (fun r3 u3 H locs hw hP hD hS => ?_)
  obtain ⟨rfl, rfl⟩ := hw
  have hP : va_P D vwCl (cSP a_this ++ (cW dT (a_this 4) g_this_world)) H := hP.perm (wj_back [cW dT (a_this 4) g_this_world] [cSP a_this] [1, 0] rfl)
  have hD : va_D A (cSP a_this ++ (cW dT (a_this 4) g_this_world)) := hD.perm (wj_back [cW dT (a_this 4) g_this_world] [cSP a_this] [1, 0] rfl)
  exact vx_ret (rt_i hx hb hr hlk hK hS (() : Unit) (Option.some.inj h).symm hP hD dX8_surprise_22)

def f_X8_setting (g_this_world : TW) (v1 : Int32) : Option ((Nat ⊕ Int32) × (Unit)) :=
  ((f_X8_needRange v1 (0 : Int32) (2 : Int32)).bind fun o1 => (fun u1 => o1.1.elim (fun k1 => (some (Sum.inl k1, ()))) (fun _ => ((f_X7_settingOf g_this_world v1).bind fun o2 => (some ((Sum.inr o2.1), ()))))) o1.2)
set_option maxHeartbeats 8000000 in
set_option maxRecDepth 100000 in
theorem c_X8_setting (l : Launch) (hlt : l.stackTraces = false) (D : va_G) (dT : Nat → ClassId) (a_this : Nat → Nat → Nat) (g_this_world : TW) (v1 : Int32) (o : ((Nat ⊕ Int32) × (Unit))) (h : f_X8_setting g_this_world v1 = some o) (sz : Nat) : vx_Met l yX8_setting (WSm yX8_setting cX8_setting 2 (some .int)) { frames := 7, cells := 1, slots := 6, locals := 112 } (va_Pc [.ref (a_this 0 0), .int v1] (cPre D dT (cSP a_this ++ (cW dT (a_this 4) g_this_world)) sz)) (va_Qi (fun (r : Int32) (u : Unit) => o = (Sum.inr r, u)) (fun u t => cAt D dT (va_A (cSP a_this ++ (cW dT (a_this 4) g_this_world)) sz) (cSP a_this ++ (cW dT (a_this 4) g_this_world)) t) (va_A (cSP a_this ++ (cW dT (a_this 4) g_this_world)) sz)) (xEnd D dT (xoP o) (fun u => (cSP a_this ++ (cW dT (a_this 4) g_this_world))) (va_A (cSP a_this ++ (cW dT (a_this 4) g_this_world)) sz)) 1 6 (va_A (cSP a_this ++ (cW dT (a_this 4) g_this_world)) sz) := by
  refine mStartX (WS := (cSP a_this ++ (cW dT (a_this 4) g_this_world))) (Qc := fun A => va_Qi (fun (r : Int32) (u : Unit) => o = (Sum.inr r, u)) (fun u t => cAt D dT A (cSP a_this ++ (cW dT (a_this 4) g_this_world)) t) A) (XC := fun A => xEnd D dT (xoP o) (fun u => (cSP a_this ++ (cW dT (a_this 4) g_this_world))) A) RX8 rfl (by decide) (Nat.le_of_ble_eq_true rfl) ?_ sz
  intro p e s m below meth c A ls hx hb hml hr hlk hnt hts hqs hown hE hA hK hP hD hS hl
  have hl : lv_has ls 2 [(0, .ref (a_this 0 0)), (1, .int v1)] := hl
  unfold f_X8_setting at h
  refine lv_iload_n hx hb dX8_setting_0 rfl (lv_at hl 1 rfl) ?_
  refine lv_iconst (v := 0) hx hb dX8_setting_1 (by decide) ?_
  refine lv_iconst (v := 2) hx hb dX8_setting_2 (by decide) ?_
  obtain ⟨o1, e1, h⟩ := obind h
  have hPq : va_P D vwCl (([] : va_W) ++ (cSP a_this ++ (cW dT (a_this 4) g_this_world))) _ := hP.perm (wj_split [cSP a_this, cW dT (a_this 4) g_this_world] [] [0, 1] rfl)
  have hDq : va_D A (([] : va_W) ++ (cSP a_this ++ (cW dT (a_this 4) g_this_world))) := hD.perm (wj_split [cSP a_this, cW dT (a_this 4) g_this_world] [] [0, 1] rfl)
  have hPc := hPq.left
  have hDc := hDq.left
  have hFc := va_freeL hDq hS hA
  refine xcl_vL (wr := (cSP a_this ++ (cW dT (a_this 4) g_this_world))) (vx_runS (As := [.int v1, .int (0 : Int32), .int (2 : Int32)]) (rest := []) ⟨hx, hb, hml, hown, hts⟩ (c_X8_needRange l hlt D dT v1 (0 : Int32) (2 : Int32) o1 e1 _) (va_cwS 3 hts (TB_S w_287 w_288 w_33 w_289) rfl rfl rfl nd_X8_needRange ⟨Nat.le_of_ble_eq_true rfl, Nat.le_of_ble_eq_true rfl⟩) (cPre.S hPc hDc hK hE hS hFc) rfl rfl hl.1 rfl (lv_room (Nat.le_of_ble_eq_true rfl)) dX8_setting_3 ⟨Nat.le_of_ble_eq_true rfl, Nat.le_of_ble_eq_true rfl⟩) hPq hDq hS hFc (fun k1 u1 E1 ce1 q1 H locs hw hEk hP hD hS hxc hxv hxl => ?_) (fun u1 H locs hw hP hD hS => ?_)
  · have hw := xoP_inv hw
    subst hw
    have hP : va_P D vwCl (cSP a_this ++ (cW dT (a_this 4) g_this_world)) H := hP.perm (wj_back [] [cSP a_this, cW dT (a_this 4) g_this_world] [0, 1] rfl)
    have hD : va_D A (cSP a_this ++ (cW dT (a_this 4) g_this_world)) := hD.perm (wj_back [] [cSP a_this, cW dT (a_this 4) g_this_world] [0, 1] rfl)
    exact xo_S hlk hnt hK hS hEk hxc hxv hxl (() : Unit) (xoP_of h) hP hD rfl rfl
  subst hw
  replace h := sumR h
  have hP : va_P D vwCl (cSP a_this ++ (cW dT (a_this 4) g_this_world)) H := hP.perm (wj_back [] [cSP a_this, cW dT (a_this 4) g_this_world] [0, 1] rfl)
  have hD : va_D A (cSP a_this ++ (cW dT (a_this 4) g_this_world)) := hD.perm (wj_back [] [cSP a_this, cW dT (a_this 4) g_this_world] [0, 1] rfl)
  refine lv_aload_n hx hb dX8_setting_6 rfl (lv_at hl 0 rfl) ?_
  refine gf_X8_33 (v := .ref ((a_this 4) 0)) hx hb hqs hown hK hP 0 rfl rfl dX8_setting_7 ?_
  refine lv_iload_n hx hb dX8_setting_10 rfl (lv_at hl 1 rfl) ?_
  obtain ⟨o2, e2, h⟩ := obind h
  have hPq : va_P D vwCl ((cW dT (a_this 4) g_this_world) ++ (cSP a_this)) _ := hP.perm (wj_split [cSP a_this, cW dT (a_this 4) g_this_world] [1] [0] rfl)
  have hDq : va_D A ((cW dT (a_this 4) g_this_world) ++ (cSP a_this)) := hD.perm (wj_split [cSP a_this, cW dT (a_this 4) g_this_world] [1] [0] rfl)
  have hPc := hPq.left
  have hDc := hDq.left
  have hFc := va_freeL hDq hS hA
  refine cl_iL (wr := (cSP a_this)) (va_runV (As := [.int v1]) (rest := []) ⟨hx, hb, hml, hown, hts⟩ (c_X7_settingOf l hlt D dT (a_this 4) g_this_world v1 o2 e2 _) (cwV 1 hts (TB_V w_815 w_552 w_553 w_38 w_554) rfl rfl rfl ⟨rfl, nd_X7_settingOf⟩ ⟨Nat.le_of_ble_eq_true rfl, Nat.le_of_ble_eq_true rfl⟩) (cPre.V hPc hDc hK hE hS hFc (va_recv hK hPc (ci := 6) (q0 := 0) rfl rfl)) rfl rfl hl.1 rfl (lv_room (Nat.le_of_ble_eq_true rfl)) dX8_setting_11 ⟨Nat.le_of_ble_eq_true rfl, Nat.le_of_ble_eq_true rfl⟩) hPq hDq hS hFc (fun r2 u2 H locs hw hP hD hS => ?_)
  obtain ⟨rfl, rfl⟩ := hw
  have hP : va_P D vwCl (cSP a_this ++ (cW dT (a_this 4) g_this_world)) H := hP.perm (wj_back [cW dT (a_this 4) g_this_world] [cSP a_this] [1, 0] rfl)
  have hD : va_D A (cSP a_this ++ (cW dT (a_this 4) g_this_world)) := hD.perm (wj_back [cW dT (a_this 4) g_this_world] [cSP a_this] [1, 0] rfl)
  exact vx_ret (rt_i hx hb hr hlk hK hS (() : Unit) (Option.some.inj h).symm hP hD dX8_setting_14)

def f_X8_add (g_this_world : TW) (g_this_history : TH) (v1 : Int32) : Option ((Nat ⊕ Int32) × (TW × TH)) :=
  ((f_X8_needRange v1 (1 : Int32) (9999 : Int32)).bind fun o1 => (fun u1 => o1.1.elim (fun k1 => (some (Sum.inl k1, (g_this_world, g_this_history)))) (fun _ => ((f_X7_isFull g_this_world).bind fun o2 => (if o2.1 = (0 : Int32) then ((f_X1_remember g_this_history g_this_world).bind fun o4 => ((f_X7_addTable g_this_world v1).bind fun o5 => (some ((Sum.inr o5.1), (o5.2, o4.2))))) else (some (Sum.inl 1, (g_this_world, g_this_history))))))) o1.2)
set_option maxHeartbeats 8000000 in
set_option maxRecDepth 100000 in
theorem c_X8_add (l : Launch) (hlt : l.stackTraces = false) (D : va_G) (dT : Nat → ClassId) (a_this : Nat → Nat → Nat) (g_this_world : TW) (g_this_history : TH) (v1 : Int32) (o : ((Nat ⊕ Int32) × (TW × TH))) (h : f_X8_add g_this_world g_this_history v1 = some o) (sz : Nat) : vx_Met l yX8_add (WSm yX8_add cX8_add 2 (some .int)) { frames := 7, cells := 2, slots := 12, locals := 112 } (va_Pc [.ref (a_this 0 0), .int v1] (cPre D dT (cSP a_this ++ (cW dT (a_this 4) g_this_world ++ (cH dT (a_this 6) g_this_history))) sz)) (va_Qi (fun (r : Int32) (u : TW × TH) => o = (Sum.inr r, u)) (fun u t => cAt D dT (va_A (cSP a_this ++ (cW dT (a_this 4) g_this_world ++ (cH dT (a_this 6) g_this_history))) sz) (cSP a_this ++ (cW dT (a_this 4) (u.1) ++ (cH dT (a_this 6) (u.2)))) t) (va_A (cSP a_this ++ (cW dT (a_this 4) g_this_world ++ (cH dT (a_this 6) g_this_history))) sz)) (xEnd D dT (xoP o) (fun u => (cSP a_this ++ (cW dT (a_this 4) (u.1) ++ (cH dT (a_this 6) (u.2))))) (va_A (cSP a_this ++ (cW dT (a_this 4) g_this_world ++ (cH dT (a_this 6) g_this_history))) sz)) 2 12 (va_A (cSP a_this ++ (cW dT (a_this 4) g_this_world ++ (cH dT (a_this 6) g_this_history))) sz) := by
  refine mStartX (WS := (cSP a_this ++ (cW dT (a_this 4) g_this_world ++ (cH dT (a_this 6) g_this_history)))) (Qc := fun A => va_Qi (fun (r : Int32) (u : TW × TH) => o = (Sum.inr r, u)) (fun u t => cAt D dT A (cSP a_this ++ (cW dT (a_this 4) (u.1) ++ (cH dT (a_this 6) (u.2)))) t) A) (XC := fun A => xEnd D dT (xoP o) (fun u => (cSP a_this ++ (cW dT (a_this 4) (u.1) ++ (cH dT (a_this 6) (u.2))))) A) RX8 rfl (by decide) (Nat.le_of_ble_eq_true rfl) ?_ sz
  intro p e s m below meth c A ls hx hb hml hr hlk hnt hts hqs hown hE hA hK hP hD hS hl
  have hl : lv_has ls 2 [(0, .ref (a_this 0 0)), (1, .int v1)] := hl
  unfold f_X8_add at h
  refine lv_iload_n hx hb dX8_add_0 rfl (lv_at hl 1 rfl) ?_
  refine lv_iconst (v := 1) hx hb dX8_add_1 (by decide) ?_
  refine lv_sipush (v := 9999) hx hb dX8_add_2 (by decide) ?_
  obtain ⟨o1, e1, h⟩ := obind h
  have hPq : va_P D vwCl (([] : va_W) ++ (cSP a_this ++ (cW dT (a_this 4) g_this_world ++ (cH dT (a_this 6) g_this_history)))) _ := hP.perm (wj_split [cSP a_this, cW dT (a_this 4) g_this_world, cH dT (a_this 6) g_this_history] [] [0, 1, 2] rfl)
  have hDq : va_D A (([] : va_W) ++ (cSP a_this ++ (cW dT (a_this 4) g_this_world ++ (cH dT (a_this 6) g_this_history)))) := hD.perm (wj_split [cSP a_this, cW dT (a_this 4) g_this_world, cH dT (a_this 6) g_this_history] [] [0, 1, 2] rfl)
  have hPc := hPq.left
  have hDc := hDq.left
  have hFc := va_freeL hDq hS hA
  refine xcl_vL (wr := (cSP a_this ++ (cW dT (a_this 4) g_this_world ++ (cH dT (a_this 6) g_this_history)))) (vx_runS (As := [.int v1, .int (1 : Int32), .int (9999 : Int32)]) (rest := []) ⟨hx, hb, hml, hown, hts⟩ (c_X8_needRange l hlt D dT v1 (1 : Int32) (9999 : Int32) o1 e1 _) (va_cwS 3 hts (TB_S w_287 w_288 w_33 w_289) rfl rfl rfl nd_X8_needRange ⟨Nat.le_of_ble_eq_true rfl, Nat.le_of_ble_eq_true rfl⟩) (cPre.S hPc hDc hK hE hS hFc) rfl rfl hl.1 rfl (lv_room (Nat.le_of_ble_eq_true rfl)) dX8_add_5 ⟨Nat.le_of_ble_eq_true rfl, Nat.le_of_ble_eq_true rfl⟩) hPq hDq hS hFc (fun k1 u1 E1 ce1 q1 H locs hw hEk hP hD hS hxc hxv hxl => ?_) (fun u1 H locs hw hP hD hS => ?_)
  · have hw := xoP_inv hw
    subst hw
    have hP : va_P D vwCl (cSP a_this ++ (cW dT (a_this 4) g_this_world ++ (cH dT (a_this 6) g_this_history))) H := hP.perm (wj_back [] [cSP a_this, cW dT (a_this 4) g_this_world, cH dT (a_this 6) g_this_history] [0, 1, 2] rfl)
    have hD : va_D A (cSP a_this ++ (cW dT (a_this 4) g_this_world ++ (cH dT (a_this 6) g_this_history))) := hD.perm (wj_back [] [cSP a_this, cW dT (a_this 4) g_this_world, cH dT (a_this 6) g_this_history] [0, 1, 2] rfl)
    exact xo_S hlk hnt hK hS hEk hxc hxv hxl ((g_this_world, g_this_history) : TW × TH) (xoP_of h) hP hD rfl rfl
  subst hw
  replace h := sumR h
  have hP : va_P D vwCl (cSP a_this ++ (cW dT (a_this 4) g_this_world ++ (cH dT (a_this 6) g_this_history))) H := hP.perm (wj_back [] [cSP a_this, cW dT (a_this 4) g_this_world, cH dT (a_this 6) g_this_history] [0, 1, 2] rfl)
  have hD : va_D A (cSP a_this ++ (cW dT (a_this 4) g_this_world ++ (cH dT (a_this 6) g_this_history))) := hD.perm (wj_back [] [cSP a_this, cW dT (a_this 4) g_this_world, cH dT (a_this 6) g_this_history] [0, 1, 2] rfl)
  refine lv_aload_n hx hb dX8_add_8 rfl (lv_at hl 0 rfl) ?_
  refine gf_X8_33 (v := .ref ((a_this 4) 0)) hx hb hqs hown hK hP 0 rfl rfl dX8_add_9 ?_
  obtain ⟨o2, e2, h⟩ := obind h
  have hPq : va_P D vwCl ((cW dT (a_this 4) g_this_world) ++ (cSP a_this ++ (cH dT (a_this 6) g_this_history))) _ := hP.perm (wj_split [cSP a_this, cW dT (a_this 4) g_this_world, cH dT (a_this 6) g_this_history] [1] [0, 2] rfl)
  have hDq : va_D A ((cW dT (a_this 4) g_this_world) ++ (cSP a_this ++ (cH dT (a_this 6) g_this_history))) := hD.perm (wj_split [cSP a_this, cW dT (a_this 4) g_this_world, cH dT (a_this 6) g_this_history] [1] [0, 2] rfl)
  have hPc := hPq.left
  have hDc := hDq.left
  have hFc := va_freeL hDq hS hA
  refine cl_iL (wr := (cSP a_this ++ (cH dT (a_this 6) g_this_history))) (va_runV (As := []) (rest := []) ⟨hx, hb, hml, hown, hts⟩ (c_X7_isFull l hlt D dT (a_this 4) g_this_world o2 e2 _) (cwV 0 hts (TB_V w_730 w_731 w_732 w_38 w_733) rfl rfl rfl ⟨rfl, nd_X7_isFull⟩ ⟨Nat.le_of_ble_eq_true rfl, Nat.le_of_ble_eq_true rfl⟩) (cPre.V hPc hDc hK hE hS hFc (va_recv hK hPc (ci := 6) (q0 := 0) rfl rfl)) rfl rfl hl.1 rfl (lv_room (Nat.le_of_ble_eq_true rfl)) dX8_add_12 ⟨Nat.le_of_ble_eq_true rfl, Nat.le_of_ble_eq_true rfl⟩) hPq hDq hS hFc (fun r2 u2 H locs hw hP hD hS => ?_)
  obtain ⟨rfl, rfl⟩ := hw
  have hP : va_P D vwCl (cSP a_this ++ (cW dT (a_this 4) g_this_world ++ (cH dT (a_this 6) g_this_history))) H := hP.perm (wj_back [cW dT (a_this 4) g_this_world] [cSP a_this, cH dT (a_this 6) g_this_history] [1, 0, 2] rfl)
  have hD : va_D A (cSP a_this ++ (cW dT (a_this 4) g_this_world ++ (cH dT (a_this 6) g_this_history))) := hD.perm (wj_back [cW dT (a_this 4) g_this_world] [cSP a_this, cH dT (a_this 6) g_this_history] [1, 0, 2] rfl)
  refine lv_if_eq (tgt := 28) hx hb dX8_add_15 (by decide) (fun c3 => ?_) (fun c3 => ?_)
  · replace h := iteT c3 h
    refine lv_aload_n hx hb dX8_add_28 rfl (lv_at hl 0 rfl) ?_
    refine gf_X8_43 (v := .ref ((a_this 6) 0)) hx hb hqs hown hK hP 0 rfl rfl dX8_add_29 ?_
    refine lv_aload_n hx hb dX8_add_32 rfl (lv_at hl 0 rfl) ?_
    refine gf_X8_33 (v := .ref ((a_this 4) 0)) hx hb hqs hown hK hP 0 rfl rfl dX8_add_33 ?_
    obtain ⟨o4, e4, h⟩ := obind h
    have hPq : va_P D vwCl ((cH dT (a_this 6) g_this_history ++ (cW dT (a_this 4) g_this_world)) ++ (cSP a_this)) _ := hP.perm (wj_split [cSP a_this, cW dT (a_this 4) g_this_world, cH dT (a_this 6) g_this_history] [2, 1] [0] rfl)
    have hDq : va_D A ((cH dT (a_this 6) g_this_history ++ (cW dT (a_this 4) g_this_world)) ++ (cSP a_this)) := hD.perm (wj_split [cSP a_this, cW dT (a_this 4) g_this_world, cH dT (a_this 6) g_this_history] [2, 1] [0] rfl)
    have hPc := hPq.left
    have hDc := hDq.left
    have hFc := va_freeL hDq hS hA
    refine cl_vL (wr := (cSP a_this)) (va_runV (As := [.ref ((a_this 4) 0)]) (rest := []) ⟨hx, hb, hml, hown, hts⟩ (c_X1_remember l hlt D dT (a_this 6) (a_this 4) g_this_history g_this_world o4 e4 _) (cwV 1 hts (TB_V w_824 w_825 w_826 w_39 w_827) rfl rfl rfl ⟨rfl, nd_X1_remember⟩ ⟨Nat.le_of_ble_eq_true rfl, Nat.le_of_ble_eq_true rfl⟩) (cPre.V hPc hDc hK hE hS hFc (va_recv hK hPc (ci := 1) (q0 := 0) rfl rfl)) rfl rfl hl.1 rfl (lv_room (Nat.le_of_ble_eq_true rfl)) dX8_add_36 ⟨Nat.le_of_ble_eq_true rfl, Nat.le_of_ble_eq_true rfl⟩) hPq hDq hS hFc (fun u4 H locs hw hP hD hS => ?_)
    subst hw
    have hP : va_P D vwCl (cSP a_this ++ (cW dT (a_this 4) g_this_world ++ (cH dT (a_this 6) o4.2))) H := hP.perm (wj_back [cH dT (a_this 6) o4.2, cW dT (a_this 4) g_this_world] [cSP a_this] [2, 1, 0] rfl)
    have hD : va_D A (cSP a_this ++ (cW dT (a_this 4) g_this_world ++ (cH dT (a_this 6) o4.2))) := hD.perm (wj_back [cH dT (a_this 6) o4.2, cW dT (a_this 4) g_this_world] [cSP a_this] [2, 1, 0] rfl)
    refine lv_aload_n hx hb dX8_add_39 rfl (lv_at hl 0 rfl) ?_
    refine gf_X8_33 (v := .ref ((a_this 4) 0)) hx hb hqs hown hK hP 0 rfl rfl dX8_add_40 ?_
    refine lv_iload_n hx hb dX8_add_43 rfl (lv_at hl 1 rfl) ?_
    obtain ⟨o5, e5, h⟩ := obind h
    have hPq : va_P D vwCl ((cW dT (a_this 4) g_this_world) ++ (cSP a_this ++ (cH dT (a_this 6) o4.2))) _ := hP.perm (wj_split [cSP a_this, cW dT (a_this 4) g_this_world, cH dT (a_this 6) o4.2] [1] [0, 2] rfl)
    have hDq : va_D A ((cW dT (a_this 4) g_this_world) ++ (cSP a_this ++ (cH dT (a_this 6) o4.2))) := hD.perm (wj_split [cSP a_this, cW dT (a_this 4) g_this_world, cH dT (a_this 6) o4.2] [1] [0, 2] rfl)
    have hPc := hPq.left
    have hDc := hDq.left
    have hFc := va_freeL hDq hS hA
    refine cl_iL (wr := (cSP a_this ++ (cH dT (a_this 6) o4.2))) (va_runV (As := [.int v1]) (rest := []) ⟨hx, hb, hml, hown, hts⟩ (c_X7_addTable l hlt D dT (a_this 4) g_this_world v1 o5 e5 _) (cwV 1 hts (TB_V w_734 w_735 w_736 w_38 w_737) rfl rfl rfl ⟨rfl, nd_X7_addTable⟩ ⟨Nat.le_of_ble_eq_true rfl, Nat.le_of_ble_eq_true rfl⟩) (cPre.V hPc hDc hK hE hS hFc (va_recv hK hPc (ci := 6) (q0 := 0) rfl rfl)) rfl rfl hl.1 rfl (lv_room (Nat.le_of_ble_eq_true rfl)) dX8_add_44 ⟨Nat.le_of_ble_eq_true rfl, Nat.le_of_ble_eq_true rfl⟩) hPq hDq hS hFc (fun r5 u5 H locs hw hP hD hS => ?_)
    obtain ⟨rfl, rfl⟩ := hw
    have hP : va_P D vwCl (cSP a_this ++ (cW dT (a_this 4) o5.2 ++ (cH dT (a_this 6) o4.2))) H := hP.perm (wj_back [cW dT (a_this 4) o5.2] [cSP a_this, cH dT (a_this 6) o4.2] [1, 0, 2] rfl)
    have hD : va_D A (cSP a_this ++ (cW dT (a_this 4) o5.2 ++ (cH dT (a_this 6) o4.2))) := hD.perm (wj_back [cW dT (a_this 4) o5.2] [cSP a_this, cH dT (a_this 6) o4.2] [1, 0, 2] rfl)
    refine W.widen (k := 2) (n := 12) (Nat.le_of_ble_eq_true rfl) (Nat.le_of_ble_eq_true rfl) ?_
    exact vx_ret (rt_i hx hb hr hlk hK hS ((o5.2, o4.2) : TW × TH) (Option.some.inj h).symm hP hD dX8_add_47)
  · replace h := iteF c3 h
    exact th_S (k := 1) exOkS rfl (List.mem_of_getElem? (i := 5) rfl) hlt hx hb (hl.1.trans hml.symm) hlk hnt hqs hown hE hK hS ((g_this_world, g_this_history) : TW × TH) (xoP_of h) hP hD rfl rfl rfl rfl rfl rfl dX8_add_18 dX8_add_21 dX8_add_22 dX8_add_24 dX8_add_27

def f_X8_resize (g_this_world : TW) (g_this_history : TH) (v1 : Int32) (v2 : Int32) : Option ((Nat ⊕ Int32) × (TW × TH)) :=
  ((f_X8_needTable g_this_world v1).bind fun o1 => (fun u1 => o1.1.elim (fun k1 => (some (Sum.inl k1, (g_this_world, g_this_history)))) (fun _ => ((f_X8_needRange v2 (1 : Int32) (9999 : Int32)).bind fun o2 => (fun u2 => o2.1.elim (fun k2 => (some (Sum.inl k2, (g_this_world, g_this_history)))) (fun _ => ((f_X1_remember g_this_history g_this_world).bind fun o3 => ((f_X7_changeSize g_this_world v1 v2).bind fun o4 => (some ((Sum.inr o4.1), (o4.2, o3.2))))))) o2.2))) o1.2)
set_option maxHeartbeats 8000000 in
set_option maxRecDepth 100000 in
theorem c_X8_resize (l : Launch) (hlt : l.stackTraces = false) (D : va_G) (dT : Nat → ClassId) (a_this : Nat → Nat → Nat) (g_this_world : TW) (g_this_history : TH) (v1 : Int32) (v2 : Int32) (o : ((Nat ⊕ Int32) × (TW × TH))) (h : f_X8_resize g_this_world g_this_history v1 v2 = some o) (sz : Nat) : vx_Met l yX8_resize (WSm yX8_resize cX8_resize 3 (some .int)) { frames := 7, cells := 2, slots := 12, locals := 112 } (va_Pc [.ref (a_this 0 0), .int v1, .int v2] (cPre D dT (cSP a_this ++ (cW dT (a_this 4) g_this_world ++ (cH dT (a_this 6) g_this_history))) sz)) (va_Qi (fun (r : Int32) (u : TW × TH) => o = (Sum.inr r, u)) (fun u t => cAt D dT (va_A (cSP a_this ++ (cW dT (a_this 4) g_this_world ++ (cH dT (a_this 6) g_this_history))) sz) (cSP a_this ++ (cW dT (a_this 4) (u.1) ++ (cH dT (a_this 6) (u.2)))) t) (va_A (cSP a_this ++ (cW dT (a_this 4) g_this_world ++ (cH dT (a_this 6) g_this_history))) sz)) (xEnd D dT (xoP o) (fun u => (cSP a_this ++ (cW dT (a_this 4) (u.1) ++ (cH dT (a_this 6) (u.2))))) (va_A (cSP a_this ++ (cW dT (a_this 4) g_this_world ++ (cH dT (a_this 6) g_this_history))) sz)) 2 12 (va_A (cSP a_this ++ (cW dT (a_this 4) g_this_world ++ (cH dT (a_this 6) g_this_history))) sz) := by
  refine mStartX (WS := (cSP a_this ++ (cW dT (a_this 4) g_this_world ++ (cH dT (a_this 6) g_this_history)))) (Qc := fun A => va_Qi (fun (r : Int32) (u : TW × TH) => o = (Sum.inr r, u)) (fun u t => cAt D dT A (cSP a_this ++ (cW dT (a_this 4) (u.1) ++ (cH dT (a_this 6) (u.2)))) t) A) (XC := fun A => xEnd D dT (xoP o) (fun u => (cSP a_this ++ (cW dT (a_this 4) (u.1) ++ (cH dT (a_this 6) (u.2))))) A) RX8 rfl (by decide) (Nat.le_of_ble_eq_true rfl) ?_ sz
  intro p e s m below meth c A ls hx hb hml hr hlk hnt hts hqs hown hE hA hK hP hD hS hl
  have hl : lv_has ls 3 [(0, .ref (a_this 0 0)), (1, .int v1), (2, .int v2)] := hl
  unfold f_X8_resize at h
  refine lv_aload_n hx hb dX8_resize_0 rfl (lv_at hl 0 rfl) ?_
  refine lv_iload_n hx hb dX8_resize_1 rfl (lv_at hl 1 rfl) ?_
  obtain ⟨o1, e1, h⟩ := obind h
  have hPq : va_P D vwCl ((cSP a_this ++ (cW dT (a_this 4) g_this_world)) ++ (cH dT (a_this 6) g_this_history)) _ := hP.perm (wj_split [cSP a_this, cW dT (a_this 4) g_this_world, cH dT (a_this 6) g_this_history] [0, 1] [2] rfl)
  have hDq : va_D A ((cSP a_this ++ (cW dT (a_this 4) g_this_world)) ++ (cH dT (a_this 6) g_this_history)) := hD.perm (wj_split [cSP a_this, cW dT (a_this 4) g_this_world, cH dT (a_this 6) g_this_history] [0, 1] [2] rfl)
  have hPc := hPq.left
  have hDc := hDq.left
  have hFc := va_freeL hDq hS hA
  refine xcl_vL (wr := (cH dT (a_this 6) g_this_history)) (vx_runV (As := [.int v1]) (rest := []) ⟨hx, hb, hml, hown, hts⟩ (c_X8_needTable l hlt D dT a_this g_this_world v1 o1 e1 _) (cwV 1 hts (TB_V w_758 w_760 w_28 w_33 w_761) rfl rfl rfl ⟨rfl, nd_X8_needTable⟩ ⟨Nat.le_of_ble_eq_true rfl, Nat.le_of_ble_eq_true rfl⟩) (cPre.V hPc hDc hK hE hS hFc (va_recv hK hPc (ci := 7) (q0 := 0) rfl rfl)) rfl rfl hl.1 rfl (lv_room (Nat.le_of_ble_eq_true rfl)) dX8_resize_2 ⟨Nat.le_of_ble_eq_true rfl, Nat.le_of_ble_eq_true rfl⟩) hPq hDq hS hFc (fun k1 u1 E1 ce1 q1 H locs hw hEk hP hD hS hxc hxv hxl => ?_) (fun u1 H locs hw hP hD hS => ?_)
  · have hw := xoP_inv hw
    subst hw
    have hP : va_P D vwCl (cSP a_this ++ (cW dT (a_this 4) g_this_world ++ (cH dT (a_this 6) g_this_history))) H := hP.perm (wj_back [cSP a_this, cW dT (a_this 4) g_this_world] [cH dT (a_this 6) g_this_history] [0, 1, 2] rfl)
    have hD : va_D A (cSP a_this ++ (cW dT (a_this 4) g_this_world ++ (cH dT (a_this 6) g_this_history))) := hD.perm (wj_back [cSP a_this, cW dT (a_this 4) g_this_world] [cH dT (a_this 6) g_this_history] [0, 1, 2] rfl)
    exact xo_S hlk hnt hK hS hEk hxc hxv hxl ((g_this_world, g_this_history) : TW × TH) (xoP_of h) hP hD rfl rfl
  subst hw
  replace h := sumR h
  have hP : va_P D vwCl (cSP a_this ++ (cW dT (a_this 4) g_this_world ++ (cH dT (a_this 6) g_this_history))) H := hP.perm (wj_back [cSP a_this, cW dT (a_this 4) g_this_world] [cH dT (a_this 6) g_this_history] [0, 1, 2] rfl)
  have hD : va_D A (cSP a_this ++ (cW dT (a_this 4) g_this_world ++ (cH dT (a_this 6) g_this_history))) := hD.perm (wj_back [cSP a_this, cW dT (a_this 4) g_this_world] [cH dT (a_this 6) g_this_history] [0, 1, 2] rfl)
  refine lv_iload_n hx hb dX8_resize_5 rfl (lv_at hl 2 rfl) ?_
  refine lv_iconst (v := 1) hx hb dX8_resize_6 (by decide) ?_
  refine lv_sipush (v := 9999) hx hb dX8_resize_7 (by decide) ?_
  obtain ⟨o2, e2, h⟩ := obind h
  have hPq : va_P D vwCl (([] : va_W) ++ (cSP a_this ++ (cW dT (a_this 4) g_this_world ++ (cH dT (a_this 6) g_this_history)))) _ := hP.perm (wj_split [cSP a_this, cW dT (a_this 4) g_this_world, cH dT (a_this 6) g_this_history] [] [0, 1, 2] rfl)
  have hDq : va_D A (([] : va_W) ++ (cSP a_this ++ (cW dT (a_this 4) g_this_world ++ (cH dT (a_this 6) g_this_history)))) := hD.perm (wj_split [cSP a_this, cW dT (a_this 4) g_this_world, cH dT (a_this 6) g_this_history] [] [0, 1, 2] rfl)
  have hPc := hPq.left
  have hDc := hDq.left
  have hFc := va_freeL hDq hS hA
  refine xcl_vL (wr := (cSP a_this ++ (cW dT (a_this 4) g_this_world ++ (cH dT (a_this 6) g_this_history)))) (vx_runS (As := [.int v2, .int (1 : Int32), .int (9999 : Int32)]) (rest := []) ⟨hx, hb, hml, hown, hts⟩ (c_X8_needRange l hlt D dT v2 (1 : Int32) (9999 : Int32) o2 e2 _) (va_cwS 3 hts (TB_S w_287 w_288 w_33 w_289) rfl rfl rfl nd_X8_needRange ⟨Nat.le_of_ble_eq_true rfl, Nat.le_of_ble_eq_true rfl⟩) (cPre.S hPc hDc hK hE hS hFc) rfl rfl hl.1 rfl (lv_room (Nat.le_of_ble_eq_true rfl)) dX8_resize_10 ⟨Nat.le_of_ble_eq_true rfl, Nat.le_of_ble_eq_true rfl⟩) hPq hDq hS hFc (fun k2 u2 E2 ce2 q2 H locs hw hEk hP hD hS hxc hxv hxl => ?_) (fun u2 H locs hw hP hD hS => ?_)
  · have hw := xoP_inv hw
    subst hw
    have hP : va_P D vwCl (cSP a_this ++ (cW dT (a_this 4) g_this_world ++ (cH dT (a_this 6) g_this_history))) H := hP.perm (wj_back [] [cSP a_this, cW dT (a_this 4) g_this_world, cH dT (a_this 6) g_this_history] [0, 1, 2] rfl)
    have hD : va_D A (cSP a_this ++ (cW dT (a_this 4) g_this_world ++ (cH dT (a_this 6) g_this_history))) := hD.perm (wj_back [] [cSP a_this, cW dT (a_this 4) g_this_world, cH dT (a_this 6) g_this_history] [0, 1, 2] rfl)
    exact xo_S hlk hnt hK hS hEk hxc hxv hxl ((g_this_world, g_this_history) : TW × TH) (xoP_of h) hP hD rfl rfl
  subst hw
  replace h := sumR h
  have hP : va_P D vwCl (cSP a_this ++ (cW dT (a_this 4) g_this_world ++ (cH dT (a_this 6) g_this_history))) H := hP.perm (wj_back [] [cSP a_this, cW dT (a_this 4) g_this_world, cH dT (a_this 6) g_this_history] [0, 1, 2] rfl)
  have hD : va_D A (cSP a_this ++ (cW dT (a_this 4) g_this_world ++ (cH dT (a_this 6) g_this_history))) := hD.perm (wj_back [] [cSP a_this, cW dT (a_this 4) g_this_world, cH dT (a_this 6) g_this_history] [0, 1, 2] rfl)
  refine lv_aload_n hx hb dX8_resize_13 rfl (lv_at hl 0 rfl) ?_
  refine gf_X8_43 (v := .ref ((a_this 6) 0)) hx hb hqs hown hK hP 0 rfl rfl dX8_resize_14 ?_
  refine lv_aload_n hx hb dX8_resize_17 rfl (lv_at hl 0 rfl) ?_
  refine gf_X8_33 (v := .ref ((a_this 4) 0)) hx hb hqs hown hK hP 0 rfl rfl dX8_resize_18 ?_
  obtain ⟨o3, e3, h⟩ := obind h
  have hPq : va_P D vwCl ((cH dT (a_this 6) g_this_history ++ (cW dT (a_this 4) g_this_world)) ++ (cSP a_this)) _ := hP.perm (wj_split [cSP a_this, cW dT (a_this 4) g_this_world, cH dT (a_this 6) g_this_history] [2, 1] [0] rfl)
  have hDq : va_D A ((cH dT (a_this 6) g_this_history ++ (cW dT (a_this 4) g_this_world)) ++ (cSP a_this)) := hD.perm (wj_split [cSP a_this, cW dT (a_this 4) g_this_world, cH dT (a_this 6) g_this_history] [2, 1] [0] rfl)
  have hPc := hPq.left
  have hDc := hDq.left
  have hFc := va_freeL hDq hS hA
  refine cl_vL (wr := (cSP a_this)) (va_runV (As := [.ref ((a_this 4) 0)]) (rest := []) ⟨hx, hb, hml, hown, hts⟩ (c_X1_remember l hlt D dT (a_this 6) (a_this 4) g_this_history g_this_world o3 e3 _) (cwV 1 hts (TB_V w_824 w_825 w_826 w_39 w_827) rfl rfl rfl ⟨rfl, nd_X1_remember⟩ ⟨Nat.le_of_ble_eq_true rfl, Nat.le_of_ble_eq_true rfl⟩) (cPre.V hPc hDc hK hE hS hFc (va_recv hK hPc (ci := 1) (q0 := 0) rfl rfl)) rfl rfl hl.1 rfl (lv_room (Nat.le_of_ble_eq_true rfl)) dX8_resize_21 ⟨Nat.le_of_ble_eq_true rfl, Nat.le_of_ble_eq_true rfl⟩) hPq hDq hS hFc (fun u3 H locs hw hP hD hS => ?_)
  subst hw
  have hP : va_P D vwCl (cSP a_this ++ (cW dT (a_this 4) g_this_world ++ (cH dT (a_this 6) o3.2))) H := hP.perm (wj_back [cH dT (a_this 6) o3.2, cW dT (a_this 4) g_this_world] [cSP a_this] [2, 1, 0] rfl)
  have hD : va_D A (cSP a_this ++ (cW dT (a_this 4) g_this_world ++ (cH dT (a_this 6) o3.2))) := hD.perm (wj_back [cH dT (a_this 6) o3.2, cW dT (a_this 4) g_this_world] [cSP a_this] [2, 1, 0] rfl)
  refine lv_aload_n hx hb dX8_resize_24 rfl (lv_at hl 0 rfl) ?_
  refine gf_X8_33 (v := .ref ((a_this 4) 0)) hx hb hqs hown hK hP 0 rfl rfl dX8_resize_25 ?_
  refine lv_iload_n hx hb dX8_resize_28 rfl (lv_at hl 1 rfl) ?_
  refine lv_iload_n hx hb dX8_resize_29 rfl (lv_at hl 2 rfl) ?_
  obtain ⟨o4, e4, h⟩ := obind h
  have hPq : va_P D vwCl ((cW dT (a_this 4) g_this_world) ++ (cSP a_this ++ (cH dT (a_this 6) o3.2))) _ := hP.perm (wj_split [cSP a_this, cW dT (a_this 4) g_this_world, cH dT (a_this 6) o3.2] [1] [0, 2] rfl)
  have hDq : va_D A ((cW dT (a_this 4) g_this_world) ++ (cSP a_this ++ (cH dT (a_this 6) o3.2))) := hD.perm (wj_split [cSP a_this, cW dT (a_this 4) g_this_world, cH dT (a_this 6) o3.2] [1] [0, 2] rfl)
  have hPc := hPq.left
  have hDc := hDq.left
  have hFc := va_freeL hDq hS hA
  refine cl_iL (wr := (cSP a_this ++ (cH dT (a_this 6) o3.2))) (va_runV (As := [.int v1, .int v2]) (rest := []) ⟨hx, hb, hml, hown, hts⟩ (c_X7_changeSize l hlt D dT (a_this 4) g_this_world v1 v2 o4 e4 _) (cwV 2 hts (TB_V w_842 w_843 w_844 w_38 w_845) rfl rfl rfl ⟨rfl, nd_X7_changeSize⟩ ⟨Nat.le_of_ble_eq_true rfl, Nat.le_of_ble_eq_true rfl⟩) (cPre.V hPc hDc hK hE hS hFc (va_recv hK hPc (ci := 6) (q0 := 0) rfl rfl)) rfl rfl hl.1 rfl (lv_room (Nat.le_of_ble_eq_true rfl)) dX8_resize_30 ⟨Nat.le_of_ble_eq_true rfl, Nat.le_of_ble_eq_true rfl⟩) hPq hDq hS hFc (fun r4 u4 H locs hw hP hD hS => ?_)
  obtain ⟨rfl, rfl⟩ := hw
  have hP : va_P D vwCl (cSP a_this ++ (cW dT (a_this 4) o4.2 ++ (cH dT (a_this 6) o3.2))) H := hP.perm (wj_back [cW dT (a_this 4) o4.2] [cSP a_this, cH dT (a_this 6) o3.2] [1, 0, 2] rfl)
  have hD : va_D A (cSP a_this ++ (cW dT (a_this 4) o4.2 ++ (cH dT (a_this 6) o3.2))) := hD.perm (wj_back [cW dT (a_this 4) o4.2] [cSP a_this, cH dT (a_this 6) o3.2] [1, 0, 2] rfl)
  exact vx_ret (rt_i hx hb hr hlk hK hS ((o4.2, o3.2) : TW × TH) (Option.some.inj h).symm hP hD dX8_resize_33)

