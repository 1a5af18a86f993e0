def f_X8_restore (g_this_world : TW) (g_this_history : TH) (g_this_slots : TS) (v1 : Int32) : Option ((Nat ⊕ Int32) × (TW × TH)) :=
  ((f_X8_needSlot v1).bind fun o1 => (fun u1 => o1.1.elim (fun k1 => (some (Sum.inl k1, (g_this_world, g_this_history)))) (fun _ => ((f_X5_isFilled g_this_slots v1).bind fun o2 => (if o2.1 = (0 : Int32) then (some (Sum.inl 1, (g_this_world, g_this_history))) else ((f_X5_takeOut g_this_slots g_this_world v1).bind fun o4 => ((f_X1_forgetAll g_this_history).bind fun o5 => (some ((Sum.inr (W_weeks o4.2)), (o4.2, o5.2))))))))) o1.2)
set_option maxHeartbeats 8000000 in
set_option maxRecDepth 100000 in
theorem c_X8_restore (l : Launch) (hlt : l.stackTraces = false) (D : va_G) (dT : Nat → ClassId) (a_this : Nat → Nat → Nat) (g_this_world : TW) (g_this_history : TH) (g_this_slots : TS) (v1 : Int32) (o : ((Nat ⊕ Int32) × (TW × TH))) (h : f_X8_restore g_this_world g_this_history g_this_slots v1 = some o) (sz : Nat) : vx_Met l yX8_restore (WSm yX8_restore cX8_restore 2 (some .int)) { frames := 7, cells := 2, slots := 12, locals := 110 } (va_Pc [.ref (a_this 0 0), .int v1] (cPre D dT (cSP a_this ++ (cW dT (a_this 4) g_this_world ++ (cH dT (a_this 6) g_this_history ++ (cS dT (a_this 7) g_this_slots)))) sz)) (va_Qi (fun (r : Int32) (u : TW × TH) => o = (Sum.inr r, u)) (fun u t => cAt D dT (va_A (cSP a_this ++ (cW dT (a_this 4) g_this_world ++ (cH dT (a_this 6) g_this_history ++ (cS dT (a_this 7) g_this_slots)))) sz) (cSP a_this ++ (cW dT (a_this 4) (u.1) ++ (cH dT (a_this 6) (u.2) ++ (cS dT (a_this 7) g_this_slots)))) t) (va_A (cSP a_this ++ (cW dT (a_this 4) g_this_world ++ (cH dT (a_this 6) g_this_history ++ (cS dT (a_this 7) g_this_slots)))) sz)) (xEnd D dT (xoP o) (fun u => (cSP a_this ++ (cW dT (a_this 4) (u.1) ++ (cH dT (a_this 6) (u.2) ++ (cS dT (a_this 7) g_this_slots))))) (va_A (cSP a_this ++ (cW dT (a_this 4) g_this_world ++ (cH dT (a_this 6) g_this_history ++ (cS dT (a_this 7) g_this_slots)))) sz)) 2 12 (va_A (cSP a_this ++ (cW dT (a_this 4) g_this_world ++ (cH dT (a_this 6) g_this_history ++ (cS dT (a_this 7) g_this_slots)))) sz) := by
  refine mStartX (WS := (cSP a_this ++ (cW dT (a_this 4) g_this_world ++ (cH dT (a_this 6) g_this_history ++ (cS dT (a_this 7) g_this_slots))))) (Qc := fun A => va_Qi (fun (r : Int32) (u : TW × TH) => o = (Sum.inr r, u)) (fun u t => cAt D dT A (cSP a_this ++ (cW dT (a_this 4) (u.1) ++ (cH dT (a_this 6) (u.2) ++ (cS dT (a_this 7) g_this_slots)))) t) A) (XC := fun A => xEnd D dT (xoP o) (fun u => (cSP a_this ++ (cW dT (a_this 4) (u.1) ++ (cH dT (a_this 6) (u.2) ++ (cS dT (a_this 7) g_this_slots))))) A) RX8 rfl (by decide) (Nat.le_of_ble_eq_true rfl) ?_ sz
  intro p e s m below meth c A ls hx hb hml hr hlk hnt hts hqs hown hE hA hK hP hD hS hl
  have hl : lv_has ls 2 [(0, .ref (a_this 0 0)), (1, .int v1)] := hl
  unfold f_X8_restore at h
  refine lv_iload_n hx hb dX8_restore_0 rfl (lv_at hl 1 rfl) ?_
  obtain ⟨o1, e1, h⟩ := obind h
  have hPq : va_P D vwCl (([] : va_W) ++ (cSP a_this ++ (cW dT (a_this 4) g_this_world ++ (cH dT (a_this 6) g_this_history ++ (cS dT (a_this 7) g_this_slots))))) _ := hP.perm (wj_split [cSP a_this, cW dT (a_this 4) g_this_world, cH dT (a_this 6) g_this_history, cS dT (a_this 7) g_this_slots] [] [0, 1, 2, 3] rfl)
  have hDq : va_D A (([] : va_W) ++ (cSP a_this ++ (cW dT (a_this 4) g_this_world ++ (cH dT (a_this 6) g_this_history ++ (cS dT (a_this 7) g_this_slots))))) := hD.perm (wj_split [cSP a_this, cW dT (a_this 4) g_this_world, cH dT (a_this 6) g_this_history, cS dT (a_this 7) g_this_slots] [] [0, 1, 2, 3] rfl)
  have hPc := hPq.left
  have hDc := hDq.left
  have hFc := va_freeL hDq hS hA
  refine xcl_vL (wr := (cSP a_this ++ (cW dT (a_this 4) g_this_world ++ (cH dT (a_this 6) g_this_history ++ (cS dT (a_this 7) g_this_slots))))) (vx_runS (As := [.int v1]) (rest := []) ⟨hx, hb, hml, hown, hts⟩ (c_X8_needSlot l hlt D dT v1 o1 e1 _) (va_cwS 1 hts (TB_S w_1029 w_1030 w_50 w_1031) rfl rfl rfl nd_X8_needSlot ⟨Nat.le_of_ble_eq_true rfl, Nat.le_of_ble_eq_true rfl⟩) (cPre.S hPc hDc hK hE hS hFc) rfl rfl hl.1 rfl (lv_room (Nat.le_of_ble_eq_true rfl)) dX8_restore_1 ⟨Nat.le_of_ble_eq_true rfl, Nat.le_of_ble_eq_true rfl⟩) hPq hDq hS hFc (fun k1 u1 E1 ce1 q1 H locs hw hEk hP hD hS hxc hxv hxl => ?_) (fun u1 H locs hw hP hD hS => ?_)
  · have hw := xoP_inv hw
    subst hw
    have hP : va_P D vwCl (cSP a_this ++ (cW dT (a_this 4) g_this_world ++ (cH dT (a_this 6) g_this_history ++ (cS dT (a_this 7) g_this_slots)))) H := hP.perm (wj_back [] [cSP a_this, cW dT (a_this 4) g_this_world, cH dT (a_this 6) g_this_history, cS dT (a_this 7) g_this_slots] [0, 1, 2, 3] rfl)
    have hD : va_D A (cSP a_this ++ (cW dT (a_this 4) g_this_world ++ (cH dT (a_this 6) g_this_history ++ (cS dT (a_this 7) g_this_slots)))) := hD.perm (wj_back [] [cSP a_this, cW dT (a_this 4) g_this_world, cH dT (a_this 6) g_this_history, cS dT (a_this 7) g_this_slots] [0, 1, 2, 3] rfl)
    exact xo_S hlk hnt hK hS hEk hxc hxv hxl ((g_this_world, g_this_history) : TW × TH) (xoP_of h) hP hD rfl rfl
  subst hw
  replace h := sumR h
  have hP : va_P D vwCl (cSP a_this ++ (cW dT (a_this 4) g_this_world ++ (cH dT (a_this 6) g_this_history ++ (cS dT (a_this 7) g_this_slots)))) H := hP.perm (wj_back [] [cSP a_this, cW dT (a_this 4) g_this_world, cH dT (a_this 6) g_this_history, cS dT (a_this 7) g_this_slots] [0, 1, 2, 3] rfl)
  have hD : va_D A (cSP a_this ++ (cW dT (a_this 4) g_this_world ++ (cH dT (a_this 6) g_this_history ++ (cS dT (a_this 7) g_this_slots)))) := hD.perm (wj_back [] [cSP a_this, cW dT (a_this 4) g_this_world, cH dT (a_this 6) g_this_history, cS dT (a_this 7) g_this_slots] [0, 1, 2, 3] rfl)
  refine lv_aload_n hx hb dX8_restore_4 rfl (lv_at hl 0 rfl) ?_
  refine gf_X8_50 (v := .ref ((a_this 7) 0)) hx hb hqs hown hK hP 0 rfl rfl dX8_restore_5 ?_
  refine lv_iload_n hx hb dX8_restore_8 rfl (lv_at hl 1 rfl) ?_
  obtain ⟨o2, e2, h⟩ := obind h
  have hPq : va_P D vwCl ((cS dT (a_this 7) g_this_slots) ++ (cSP a_this ++ (cW dT (a_this 4) g_this_world ++ (cH dT (a_this 6) g_this_history)))) _ := hP.perm (wj_split [cSP a_this, cW dT (a_this 4) g_this_world, cH dT (a_this 6) g_this_history, cS dT (a_this 7) g_this_slots] [3] [0, 1, 2] rfl)
  have hDq : va_D A ((cS dT (a_this 7) g_this_slots) ++ (cSP a_this ++ (cW dT (a_this 4) g_this_world ++ (cH dT (a_this 6) g_this_history)))) := hD.perm (wj_split [cSP a_this, cW dT (a_this 4) g_this_world, cH dT (a_this 6) g_this_history, cS dT (a_this 7) g_this_slots] [3] [0, 1, 2] rfl)
  have hPc := hPq.left
  have hDc := hDq.left
  have hFc := va_freeL hDq hS hA
  refine cl_iL (wr := (cSP a_this ++ (cW dT (a_this 4) g_this_world ++ (cH dT (a_this 6) g_this_history)))) (va_runV (As := [.int v1]) (rest := []) ⟨hx, hb, hml, hown, hts⟩ (c_X5_isFilled l hlt D dT (a_this 7) g_this_slots v1 o2 e2 _) (cwV 1 hts (TB_V w_1046 w_1047 w_1048 w_57 w_1049) rfl rfl rfl ⟨rfl, nd_X5_isFilled⟩ ⟨Nat.le_of_ble_eq_true rfl, Nat.le_of_ble_eq_true rfl⟩) (cPre.V hPc hDc hK hE hS hFc (va_recv hK hPc (ci := 4) (q0 := 0) rfl rfl)) rfl rfl hl.1 rfl (lv_room (Nat.le_of_ble_eq_true rfl)) dX8_restore_9 ⟨Nat.le_of_ble_eq_true rfl, Nat.le_of_ble_eq_true rfl⟩) hPq hDq hS hFc (fun r2 u2 H locs hw hP hD hS => ?_)
  obtain ⟨rfl, rfl⟩ := hw
  have hP : va_P D vwCl (cSP a_this ++ (cW dT (a_this 4) g_this_world ++ (cH dT (a_this 6) g_this_history ++ (cS dT (a_this 7) g_this_slots)))) H := hP.perm (wj_back [cS dT (a_this 7) g_this_slots] [cSP a_this, cW dT (a_this 4) g_this_world, cH dT (a_this 6) g_this_history] [1, 2, 3, 0] rfl)
  have hD : va_D A (cSP a_this ++ (cW dT (a_this 4) g_this_world ++ (cH dT (a_this 6) g_this_history ++ (cS dT (a_this 7) g_this_slots)))) := hD.perm (wj_back [cS dT (a_this 7) g_this_slots] [cSP a_this, cW dT (a_this 4) g_this_world, cH dT (a_this 6) g_this_history] [1, 2, 3, 0] rfl)
  refine lv_if_ne (tgt := 26) hx hb dX8_restore_12 (by decide) (fun c3 => ?_) (fun c3 => ?_)
  · replace h := iteF c3 h
    refine lv_aload_n hx hb dX8_restore_26 rfl (lv_at hl 0 rfl) ?_
    refine gf_X8_50 (v := .ref ((a_this 7) 0)) hx hb hqs hown hK hP 0 rfl rfl dX8_restore_27 ?_
    refine lv_iload_n hx hb dX8_restore_30 rfl (lv_at hl 1 rfl) ?_
    refine lv_aload_n hx hb dX8_restore_31 rfl (lv_at hl 0 rfl) ?_
    refine gf_X8_33 (v := .ref ((a_this 4) 0)) hx hb hqs hown hK hP 0 rfl rfl dX8_restore_32 ?_
    obtain ⟨o4, e4, h⟩ := obind h
    have hPq : va_P D vwCl ((cS dT (a_this 7) g_this_slots ++ (cW dT (a_this 4) g_this_world)) ++ (cSP a_this ++ (cH dT (a_this 6) g_this_history))) _ := hP.perm (wj_split [cSP a_this, cW dT (a_this 4) g_this_world, cH dT (a_this 6) g_this_history, cS dT (a_this 7) g_this_slots] [3, 1] [0, 2] rfl)
    have hDq : va_D A ((cS dT (a_this 7) g_this_slots ++ (cW dT (a_this 4) g_this_world)) ++ (cSP a_this ++ (cH dT (a_this 6) g_this_history))) := hD.perm (wj_split [cSP a_this, cW dT (a_this 4) g_this_world, cH dT (a_this 6) g_this_history, cS dT (a_this 7) g_this_slots] [3, 1] [0, 2] rfl)
    have hPc := hPq.left
    have hDc := hDq.left
    have hFc := va_freeL hDq hS hA
    refine cl_vL (wr := (cSP a_this ++ (cH dT (a_this 6) g_this_history))) (va_runV (As := [.int v1, .ref ((a_this 4) 0)]) (rest := []) ⟨hx, hb, hml, hown, hts⟩ (c_X5_takeOut l hlt D dT (a_this 7) (a_this 4) g_this_slots g_this_world v1 o4 e4 _) (cwV 2 hts (TB_V w_1051 w_1052 w_1053 w_57 w_1054) rfl rfl rfl ⟨rfl, nd_X5_takeOut⟩ ⟨Nat.le_of_ble_eq_true rfl, Nat.le_of_ble_eq_true rfl⟩) (cPre.V hPc hDc hK hE hS hFc (va_recv hK hPc (ci := 4) (q0 := 0) rfl rfl)) rfl rfl hl.1 rfl (lv_room (Nat.le_of_ble_eq_true rfl)) dX8_restore_35 ⟨Nat.le_of_ble_eq_true rfl, Nat.le_of_ble_eq_true rfl⟩) hPq hDq hS hFc (fun u4 H locs hw hP hD hS => ?_)
    subst hw
    have hP : va_P D vwCl (cSP a_this ++ (cW dT (a_this 4) o4.2 ++ (cH dT (a_this 6) g_this_history ++ (cS dT (a_this 7) g_this_slots)))) H := hP.perm (wj_back [cS dT (a_this 7) g_this_slots, cW dT (a_this 4) o4.2] [cSP a_this, cH dT (a_this 6) g_this_history] [2, 1, 3, 0] rfl)
    have hD : va_D A (cSP a_this ++ (cW dT (a_this 4) o4.2 ++ (cH dT (a_this 6) g_this_history ++ (cS dT (a_this 7) g_this_slots)))) := hD.perm (wj_back [cS dT (a_this 7) g_this_slots, cW dT (a_this 4) o4.2] [cSP a_this, cH dT (a_this 6) g_this_history] [2, 1, 3, 0] rfl)
    refine lv_aload_n hx hb dX8_restore_38 rfl (lv_at hl 0 rfl) ?_
    refine gf_X8_43 (v := .ref ((a_this 6) 0)) hx hb hqs hown hK hP 0 rfl rfl dX8_restore_39 ?_
    obtain ⟨o5, e5, h⟩ := obind h
    have hPq : va_P D vwCl ((cH dT (a_this 6) g_this_history) ++ (cSP a_this ++ (cW dT (a_this 4) o4.2 ++ (cS dT (a_this 7) g_this_slots)))) _ := hP.perm (wj_split [cSP a_this, cW dT (a_this 4) o4.2, cH dT (a_this 6) g_this_history, cS dT (a_this 7) g_this_slots] [2] [0, 1, 3] rfl)
    have hDq : va_D A ((cH dT (a_this 6) g_this_history) ++ (cSP a_this ++ (cW dT (a_this 4) o4.2 ++ (cS dT (a_this 7) g_this_slots)))) := hD.perm (wj_split [cSP a_this, cW dT (a_this 4) o4.2, cH dT (a_this 6) g_this_history, cS dT (a_this 7) g_this_slots] [2] [0, 1, 3] rfl)
    have hPc := hPq.left
    have hDc := hDq.left
    have hFc := va_freeL hDq hS hA
    refine cl_vL (wr := (cSP a_this ++ (cW dT (a_this 4) o4.2 ++ (cS dT (a_this 7) g_this_slots)))) (va_runV (As := []) (rest := []) ⟨hx, hb, hml, hown, hts⟩ (c_X1_forgetAll l hlt D dT (a_this 6) g_this_history o5 e5 _) (cwV 0 hts (TB_V w_527 w_528 w_529 w_56 w_530) rfl rfl rfl ⟨rfl, nd_X1_forgetAll⟩ ⟨Nat.le_of_ble_eq_true rfl, Nat.le_of_ble_eq_true rfl⟩) (cPre.V hPc hDc hK hE hS hFc (va_recv hK hPc (ci := 1) (q0 := 0) rfl rfl)) rfl rfl hl.1 rfl (lv_room (Nat.le_of_ble_eq_true rfl)) dX8_restore_42 ⟨Nat.le_of_ble_eq_true rfl, Nat.le_of_ble_eq_true rfl⟩) hPq hDq hS hFc (fun u5 H locs hw hP hD hS => ?_)
    subst hw
    have hP : va_P D vwCl (cSP a_this ++ (cW dT (a_this 4) o4.2 ++ (cH dT (a_this 6) o5.2 ++ (cS dT (a_this 7) g_this_slots)))) H := hP.perm (wj_back [cH dT (a_this 6) o5.2] [cSP a_this, cW dT (a_this 4) o4.2, cS dT (a_this 7) g_this_slots] [1, 2, 0, 3] rfl)
    have hD : va_D A (cSP a_this ++ (cW dT (a_this 4) o4.2 ++ (cH dT (a_this 6) o5.2 ++ (cS dT (a_this 7) g_this_slots)))) := hD.perm (wj_back [cH dT (a_this 6) o5.2] [cSP a_this, cW dT (a_this 4) o4.2, cS dT (a_this 7) g_this_slots] [1, 2, 0, 3] rfl)
    refine lv_aload_n hx hb dX8_restore_45 rfl (lv_at hl 0 rfl) ?_
    refine gf_X8_33 (v := .ref ((a_this 4) 0)) hx hb hqs hown hK hP 0 rfl rfl dX8_restore_46 ?_
    refine gf_X8_291 (v := .int (W_weeks o4.2)) hx hb hqs hown hK hP 1 rfl rfl dX8_restore_49 ?_
    refine W.widen (k := 2) (n := 12) (Nat.le_of_ble_eq_true rfl) (Nat.le_of_ble_eq_true rfl) ?_
    exact vx_ret (rt_i hx hb hr hlk hK hS ((o4.2, o5.2) : TW × TH) (Option.some.inj h).symm hP hD dX8_restore_52)
  · replace h := iteT c3 h
    exact th_W (k := 1) exOkS rfl (List.mem_of_getElem? (i := 15) rfl) hlt hx hb (hl.1.trans hml.symm) hlk hnt hqs hown hE hK hS ((g_this_world, g_this_history) : TW × TH) (xoP_of h) hP hD rfl rfl rfl rfl rfl rfl dX8_restore_15 dX8_restore_18 dX8_restore_19 dX8_restore_22 dX8_restore_25

