def f_X8_cost (g_this_world : TW) (g_this_chosen : TP) (g_this_other : TP) (v1 : Int32) (v2 : Int32) : Option ((Nat ⊕ Int64) × (TP × TP)) :=
  ((f_X8_needTables g_this_world v1).bind fun o1 => (fun u1 => o1.1.elim (fun k1 => (some (Sum.inl k1, (g_this_chosen, g_this_other)))) (fun _ => ((f_X8_needRange v2 (0 : Int32) (2 : Int32)).bind fun o2 => (fun u2 => o2.1.elim (fun k2 => (some (Sum.inl k2, (g_this_chosen, g_this_other)))) (fun _ => (if v2 = (2 : Int32) then ((f_X8_regretIn g_this_chosen g_this_other g_this_world v1).bind fun o9 => (some ((Sum.inr o9.1), (o9.2.1, o9.2.2)))) else ((f_X3_choose g_this_chosen g_this_world v1 (1 : Int32)).bind fun o4 => (if v2 = (0 : Int32) then ((f_X3_leastCost o4.2).bind fun o8 => (some ((Sum.inr o8.1), (o4.2, g_this_other)))) else ((f_X3_weigh g_this_other g_this_world v1 (2 : Int32)).bind fun o6 => ((f_X3_costAsPlannedBy o6.2 o4.2).bind fun o7 => (some ((Sum.inr o7.1), (o4.2, o6.2)))))))))) o2.2))) o1.2)
set_option maxHeartbeats 8000000 in
set_option maxRecDepth 100000 in
theorem c_X8_cost (l : Launch) (hlt : l.stackTraces = false) (D : va_G) (dT : Nat → ClassId) (a_this : Nat → Nat → Nat) (g_this_world : TW) (g_this_chosen : TP) (g_this_other : TP) (v1 : Int32) (v2 : Int32) (o : ((Nat ⊕ Int64) × (TP × TP))) (h : f_X8_cost g_this_world g_this_chosen g_this_other v1 v2 = some o) (sz : Nat) : vx_Met l yX8_cost (WSm yX8_cost cX8_cost 3 (some .long)) { frames := 7, cells := 2, slots := 12, locals := 123 } (va_Pc [.ref (a_this 0 0), .int v1, .int v2] (cPre D dT (cSP a_this ++ (cW dT (a_this 4) g_this_world ++ (cP dT (a_this 8) g_this_chosen ++ (cP dT (a_this 9) g_this_other)))) sz)) (va_Ql (fun (r : Int64) (u : TP × TP) => o = (Sum.inr r, u)) (fun u t => cAt D dT (va_A (cSP a_this ++ (cW dT (a_this 4) g_this_world ++ (cP dT (a_this 8) g_this_chosen ++ (cP dT (a_this 9) g_this_other)))) sz) (cSP a_this ++ (cW dT (a_this 4) g_this_world ++ (cP dT (a_this 8) (u.1) ++ (cP dT (a_this 9) (u.2))))) t) (va_A (cSP a_this ++ (cW dT (a_this 4) g_this_world ++ (cP dT (a_this 8) g_this_chosen ++ (cP dT (a_this 9) g_this_other)))) sz)) (xEnd D dT (xoP o) (fun u => (cSP a_this ++ (cW dT (a_this 4) g_this_world ++ (cP dT (a_this 8) (u.1) ++ (cP dT (a_this 9) (u.2)))))) (va_A (cSP a_this ++ (cW dT (a_this 4) g_this_world ++ (cP dT (a_this 8) g_this_chosen ++ (cP dT (a_this 9) g_this_other)))) sz)) 2 12 (va_A (cSP a_this ++ (cW dT (a_this 4) g_this_world ++ (cP dT (a_this 8) g_this_chosen ++ (cP dT (a_this 9) g_this_other)))) sz) := by
  refine mStartX (WS := (cSP a_this ++ (cW dT (a_this 4) g_this_world ++ (cP dT (a_this 8) g_this_chosen ++ (cP dT (a_this 9) g_this_other))))) (Qc := fun A => va_Ql (fun (r : Int64) (u : TP × TP) => o = (Sum.inr r, u)) (fun u t => cAt D dT A (cSP a_this ++ (cW dT (a_this 4) g_this_world ++ (cP dT (a_this 8) (u.1) ++ (cP dT (a_this 9) (u.2))))) t) A) (XC := fun A => xEnd D dT (xoP o) (fun u => (cSP a_this ++ (cW dT (a_this 4) g_this_world ++ (cP dT (a_this 8) (u.1) ++ (cP dT (a_this 9) (u.2)))))) A) RX8 rfl (by decide) (Nat.le_of_ble_eq_true rfl) ?_ sz
  intro p e s m below meth c A ls hx hb hml hr hlk hnt hts hqs hown hE hA hK hP hD hS hl
  have hl : lv_has ls 3 [(0, .ref (a_this 0 0)), (1, .int v1), (2, .int v2)] := hl
  unfold f_X8_cost at h
  refine lv_aload_n hx hb dX8_cost_0 rfl (lv_at hl 0 rfl) ?_
  refine lv_iload_n hx hb dX8_cost_1 rfl (lv_at hl 1 rfl) ?_
  obtain ⟨o1, e1, h⟩ := obind h
  have hPq : va_P D vwCl ((cSP a_this ++ (cW dT (a_this 4) g_this_world)) ++ (cP dT (a_this 8) g_this_chosen ++ (cP dT (a_this 9) g_this_other))) _ := hP.perm (wj_split [cSP a_this, cW dT (a_this 4) g_this_world, cP dT (a_this 8) g_this_chosen, cP dT (a_this 9) g_this_other] [0, 1] [2, 3] rfl)
  have hDq : va_D A ((cSP a_this ++ (cW dT (a_this 4) g_this_world)) ++ (cP dT (a_this 8) g_this_chosen ++ (cP dT (a_this 9) g_this_other))) := hD.perm (wj_split [cSP a_this, cW dT (a_this 4) g_this_world, cP dT (a_this 8) g_this_chosen, cP dT (a_this 9) g_this_other] [0, 1] [2, 3] rfl)
  have hPc := hPq.left
  have hDc := hDq.left
  have hFc := va_freeL hDq hS hA
  refine xcl_vL (wr := (cP dT (a_this 8) g_this_chosen ++ (cP dT (a_this 9) g_this_other))) (vx_runV (As := [.int v1]) (rest := []) ⟨hx, hb, hml, hown, hts⟩ (c_X8_needTables l hlt D dT a_this g_this_world v1 o1 e1 _) (cwV 1 hts (TB_V w_862 w_864 w_31 w_33 w_865) rfl rfl rfl ⟨rfl, nd_X8_needTables⟩ ⟨Nat.le_of_ble_eq_true rfl, Nat.le_of_ble_eq_true rfl⟩) (cPre.V hPc hDc hK hE hS hFc (va_recv hK hPc (ci := 7) (q0 := 0) rfl rfl)) rfl rfl hl.1 rfl (lv_room (Nat.le_of_ble_eq_true rfl)) dX8_cost_2 ⟨Nat.le_of_ble_eq_true rfl, Nat.le_of_ble_eq_true rfl⟩) hPq hDq hS hFc (fun k1 u1 E1 ce1 q1 H locs hw hEk hP hD hS hxc hxv hxl => ?_) (fun u1 H locs hw hP hD hS => ?_)
  · have hw := xoP_inv hw
    subst hw
    have hP : va_P D vwCl (cSP a_this ++ (cW dT (a_this 4) g_this_world ++ (cP dT (a_this 8) g_this_chosen ++ (cP dT (a_this 9) g_this_other)))) H := hP.perm (wj_back [cSP a_this, cW dT (a_this 4) g_this_world] [cP dT (a_this 8) g_this_chosen, cP dT (a_this 9) g_this_other] [0, 1, 2, 3] rfl)
    have hD : va_D A (cSP a_this ++ (cW dT (a_this 4) g_this_world ++ (cP dT (a_this 8) g_this_chosen ++ (cP dT (a_this 9) g_this_other)))) := hD.perm (wj_back [cSP a_this, cW dT (a_this 4) g_this_world] [cP dT (a_this 8) g_this_chosen, cP dT (a_this 9) g_this_other] [0, 1, 2, 3] rfl)
    exact xo_S hlk hnt hK hS hEk hxc hxv hxl ((g_this_chosen, g_this_other) : TP × TP) (xoP_of h) hP hD rfl rfl
  subst hw
  replace h := sumR h
  have hP : va_P D vwCl (cSP a_this ++ (cW dT (a_this 4) g_this_world ++ (cP dT (a_this 8) g_this_chosen ++ (cP dT (a_this 9) g_this_other)))) H := hP.perm (wj_back [cSP a_this, cW dT (a_this 4) g_this_world] [cP dT (a_this 8) g_this_chosen, cP dT (a_this 9) g_this_other] [0, 1, 2, 3] rfl)
  have hD : va_D A (cSP a_this ++ (cW dT (a_this 4) g_this_world ++ (cP dT (a_this 8) g_this_chosen ++ (cP dT (a_this 9) g_this_other)))) := hD.perm (wj_back [cSP a_this, cW dT (a_this 4) g_this_world] [cP dT (a_this 8) g_this_chosen, cP dT (a_this 9) g_this_other] [0, 1, 2, 3] rfl)
  refine lv_iload_n hx hb dX8_cost_5 rfl (lv_at hl 2 rfl) ?_
  refine lv_iconst (v := 0) hx hb dX8_cost_6 (by decide) ?_
  refine lv_iconst (v := 2) hx hb dX8_cost_7 (by decide) ?_
  obtain ⟨o2, e2, h⟩ := obind h
  have hPq : va_P D vwCl (([] : va_W) ++ (cSP a_this ++ (cW dT (a_this 4) g_this_world ++ (cP dT (a_this 8) g_this_chosen ++ (cP dT (a_this 9) g_this_other))))) _ := hP.perm (wj_split [cSP a_this, cW dT (a_this 4) g_this_world, cP dT (a_this 8) g_this_chosen, cP dT (a_this 9) g_this_other] [] [0, 1, 2, 3] rfl)
  have hDq : va_D A (([] : va_W) ++ (cSP a_this ++ (cW dT (a_this 4) g_this_world ++ (cP dT (a_this 8) g_this_chosen ++ (cP dT (a_this 9) g_this_other))))) := hD.perm (wj_split [cSP a_this, cW dT (a_this 4) g_this_world, cP dT (a_this 8) g_this_chosen, cP dT (a_this 9) g_this_other] [] [0, 1, 2, 3] rfl)
  have hPc := hPq.left
  have hDc := hDq.left
  have hFc := va_freeL hDq hS hA
  refine xcl_vL (wr := (cSP a_this ++ (cW dT (a_this 4) g_this_world ++ (cP dT (a_this 8) g_this_chosen ++ (cP dT (a_this 9) g_this_other))))) (vx_runS (As := [.int v2, .int (0 : Int32), .int (2 : Int32)]) (rest := []) ⟨hx, hb, hml, hown, hts⟩ (c_X8_needRange l hlt D dT v2 (0 : Int32) (2 : Int32) o2 e2 _) (va_cwS 3 hts (TB_S w_287 w_288 w_33 w_289) rfl rfl rfl nd_X8_needRange ⟨Nat.le_of_ble_eq_true rfl, Nat.le_of_ble_eq_true rfl⟩) (cPre.S hPc hDc hK hE hS hFc) rfl rfl hl.1 rfl (lv_room (Nat.le_of_ble_eq_true rfl)) dX8_cost_8 ⟨Nat.le_of_ble_eq_true rfl, Nat.le_of_ble_eq_true rfl⟩) hPq hDq hS hFc (fun k2 u2 E2 ce2 q2 H locs hw hEk hP hD hS hxc hxv hxl => ?_) (fun u2 H locs hw hP hD hS => ?_)
  · have hw := xoP_inv hw
    subst hw
    have hP : va_P D vwCl (cSP a_this ++ (cW dT (a_this 4) g_this_world ++ (cP dT (a_this 8) g_this_chosen ++ (cP dT (a_this 9) g_this_other)))) H := hP.perm (wj_back [] [cSP a_this, cW dT (a_this 4) g_this_world, cP dT (a_this 8) g_this_chosen, cP dT (a_this 9) g_this_other] [0, 1, 2, 3] rfl)
    have hD : va_D A (cSP a_this ++ (cW dT (a_this 4) g_this_world ++ (cP dT (a_this 8) g_this_chosen ++ (cP dT (a_this 9) g_this_other)))) := hD.perm (wj_back [] [cSP a_this, cW dT (a_this 4) g_this_world, cP dT (a_this 8) g_this_chosen, cP dT (a_this 9) g_this_other] [0, 1, 2, 3] rfl)
    exact xo_S hlk hnt hK hS hEk hxc hxv hxl ((g_this_chosen, g_this_other) : TP × TP) (xoP_of h) hP hD rfl rfl
  subst hw
  replace h := sumR h
  have hP : va_P D vwCl (cSP a_this ++ (cW dT (a_this 4) g_this_world ++ (cP dT (a_this 8) g_this_chosen ++ (cP dT (a_this 9) g_this_other)))) H := hP.perm (wj_back [] [cSP a_this, cW dT (a_this 4) g_this_world, cP dT (a_this 8) g_this_chosen, cP dT (a_this 9) g_this_other] [0, 1, 2, 3] rfl)
  have hD : va_D A (cSP a_this ++ (cW dT (a_this 4) g_this_world ++ (cP dT (a_this 8) g_this_chosen ++ (cP dT (a_this 9) g_this_other)))) := hD.perm (wj_back [] [cSP a_this, cW dT (a_this 4) g_this_world, cP dT (a_this 8) g_this_chosen, cP dT (a_this 9) g_this_other] [0, 1, 2, 3] rfl)
  refine lv_iload_n hx hb dX8_cost_11 rfl (lv_at hl 2 rfl) ?_
  refine lv_iconst (v := 2) hx hb dX8_cost_12 (by decide) ?_
  refine lv_icmp_ne (tgt := 26) hx hb dX8_cost_13 (by decide) (fun c3 => ?_) (fun c3 => ?_)
  · replace h := iteF c3 h
    refine lv_aload_n hx hb dX8_cost_26 rfl (lv_at hl 0 rfl) ?_
    refine gf_X8_57 (v := .ref ((a_this 8) 0)) hx hb hqs hown hK hP 0 rfl rfl dX8_cost_27 ?_
    refine lv_aload_n hx hb dX8_cost_30 rfl (lv_at hl 0 rfl) ?_
    refine gf_X8_33 (v := .ref ((a_this 4) 0)) hx hb hqs hown hK hP 0 rfl rfl dX8_cost_31 ?_
    refine lv_iload_n hx hb dX8_cost_34 rfl (lv_at hl 1 rfl) ?_
    refine lv_iconst (v := 1) hx hb dX8_cost_35 (by decide) ?_
    obtain ⟨o4, e4, h⟩ := obind h
    have hPq : va_P D vwCl ((cP dT (a_this 8) g_this_chosen ++ (cW dT (a_this 4) g_this_world)) ++ (cSP a_this ++ (cP dT (a_this 9) g_this_other))) _ := hP.perm (wj_split [cSP a_this, cW dT (a_this 4) g_this_world, cP dT (a_this 8) g_this_chosen, cP dT (a_this 9) g_this_other] [2, 1] [0, 3] rfl)
    have hDq : va_D A ((cP dT (a_this 8) g_this_chosen ++ (cW dT (a_this 4) g_this_world)) ++ (cSP a_this ++ (cP dT (a_this 9) g_this_other))) := hD.perm (wj_split [cSP a_this, cW dT (a_this 4) g_this_world, cP dT (a_this 8) g_this_chosen, cP dT (a_this 9) g_this_other] [2, 1] [0, 3] rfl)
    have hPc := hPq.left
    have hDc := hDq.left
    have hFc := va_freeL hDq hS hA
    refine cl_vL (wr := (cSP a_this ++ (cP dT (a_this 9) g_this_other))) (va_runV (As := [.ref ((a_this 4) 0), .int v1, .int (1 : Int32)]) (rest := []) ⟨hx, hb, hml, hown, hts⟩ (c_X3_choose l hlt D dT (a_this 8) (a_this 4) g_this_chosen g_this_world v1 (1 : Int32) o4 e4 _) (cwV 3 hts (TB_V w_387 w_388 w_389 w_41 w_390) rfl rfl rfl ⟨rfl, nd_X3_choose⟩ ⟨Nat.le_of_ble_eq_true rfl, Nat.le_of_ble_eq_true rfl⟩) (cPre.V hPc hDc hK hE hS hFc (va_recv hK hPc (ci := 3) (q0 := 0) rfl rfl)) rfl rfl hl.1 rfl (lv_room (Nat.le_of_ble_eq_true rfl)) dX8_cost_36 ⟨Nat.le_of_ble_eq_true rfl, Nat.le_of_ble_eq_true rfl⟩) hPq hDq hS hFc (fun u4 H locs hw hP hD hS => ?_)
    subst hw
    have hP : va_P D vwCl (cSP a_this ++ (cW dT (a_this 4) g_this_world ++ (cP dT (a_this 8) o4.2 ++ (cP dT (a_this 9) g_this_other)))) H := hP.perm (wj_back [cP dT (a_this 8) o4.2, cW dT (a_this 4) g_this_world] [cSP a_this, cP dT (a_this 9) g_this_other] [2, 1, 0, 3] rfl)
    have hD : va_D A (cSP a_this ++ (cW dT (a_this 4) g_this_world ++ (cP dT (a_this 8) o4.2 ++ (cP dT (a_this 9) g_this_other)))) := hD.perm (wj_back [cP dT (a_this 8) o4.2, cW dT (a_this 4) g_this_world] [cSP a_this, cP dT (a_this 9) g_this_other] [2, 1, 0, 3] rfl)
    refine lv_iload_n hx hb dX8_cost_39 rfl (lv_at hl 2 rfl) ?_
    refine lv_if_ne (tgt := 51) hx hb dX8_cost_40 (by decide) (fun c5 => ?_) (fun c5 => ?_)
    · replace h := iteF c5 h
      refine lv_aload_n hx hb dX8_cost_51 rfl (lv_at hl 0 rfl) ?_
      refine gf_X8_61 (v := .ref ((a_this 9) 0)) hx hb hqs hown hK hP 0 rfl rfl dX8_cost_52 ?_
      refine lv_aload_n hx hb dX8_cost_55 rfl (lv_at hl 0 rfl) ?_
      refine gf_X8_33 (v := .ref ((a_this 4) 0)) hx hb hqs hown hK hP 0 rfl rfl dX8_cost_56 ?_
      refine lv_iload_n hx hb dX8_cost_59 rfl (lv_at hl 1 rfl) ?_
      refine lv_iconst (v := 2) hx hb dX8_cost_60 (by decide) ?_
      obtain ⟨o6, e6, h⟩ := obind h
      have hPq : va_P D vwCl ((cP dT (a_this 9) g_this_other ++ (cW dT (a_this 4) g_this_world)) ++ (cSP a_this ++ (cP dT (a_this 8) o4.2))) _ := hP.perm (wj_split [cSP a_this, cW dT (a_this 4) g_this_world, cP dT (a_this 8) o4.2, cP dT (a_this 9) g_this_other] [3, 1] [0, 2] rfl)
      have hDq : va_D A ((cP dT (a_this 9) g_this_other ++ (cW dT (a_this 4) g_this_world)) ++ (cSP a_this ++ (cP dT (a_this 8) o4.2))) := hD.perm (wj_split [cSP a_this, cW dT (a_this 4) g_this_world, cP dT (a_this 8) o4.2, cP dT (a_this 9) g_this_other] [3, 1] [0, 2] rfl)
      have hPc := hPq.left
      have hDc := hDq.left
      have hFc := va_freeL hDq hS hA
      refine cl_vL (wr := (cSP a_this ++ (cP dT (a_this 8) o4.2))) (va_runV (As := [.ref ((a_this 4) 0), .int v1, .int (2 : Int32)]) (rest := []) ⟨hx, hb, hml, hown, hts⟩ (c_X3_weigh l hlt D dT (a_this 9) (a_this 4) g_this_other g_this_world v1 (2 : Int32) o6 e6 _) (cwV 3 hts (TB_V w_1004 w_392 w_393 w_41 w_394) rfl rfl rfl ⟨rfl, nd_X3_weigh⟩ ⟨Nat.le_of_ble_eq_true rfl, Nat.le_of_ble_eq_true rfl⟩) (cPre.V hPc hDc hK hE hS hFc (va_recv hK hPc (ci := 3) (q0 := 0) rfl rfl)) rfl rfl hl.1 rfl (lv_room (Nat.le_of_ble_eq_true rfl)) dX8_cost_61 ⟨Nat.le_of_ble_eq_true rfl, Nat.le_of_ble_eq_true rfl⟩) hPq hDq hS hFc (fun u6 H locs hw hP hD hS => ?_)
      subst hw
      have hP : va_P D vwCl (cSP a_this ++ (cW dT (a_this 4) g_this_world ++ (cP dT (a_this 8) o4.2 ++ (cP dT (a_this 9) o6.2)))) H := hP.perm (wj_back [cP dT (a_this 9) o6.2, cW dT (a_this 4) g_this_world] [cSP a_this, cP dT (a_this 8) o4.2] [2, 1, 3, 0] rfl)
      have hD : va_D A (cSP a_this ++ (cW dT (a_this 4) g_this_world ++ (cP dT (a_this 8) o4.2 ++ (cP dT (a_this 9) o6.2)))) := hD.perm (wj_back [cP dT (a_this 9) o6.2, cW dT (a_this 4) g_this_world] [cSP a_this, cP dT (a_this 8) o4.2] [2, 1, 3, 0] rfl)
      refine lv_aload_n hx hb dX8_cost_64 rfl (lv_at hl 0 rfl) ?_
      refine gf_X8_61 (v := .ref ((a_this 9) 0)) hx hb hqs hown hK hP 0 rfl rfl dX8_cost_65 ?_
      refine lv_aload_n hx hb dX8_cost_68 rfl (lv_at hl 0 rfl) ?_
      refine gf_X8_57 (v := .ref ((a_this 8) 0)) hx hb hqs hown hK hP 0 rfl rfl dX8_cost_69 ?_
      obtain ⟨o7, e7, h⟩ := obind h
      have hPq : va_P D vwCl ((cP dT (a_this 9) o6.2 ++ (cP dT (a_this 8) o4.2)) ++ (cSP a_this ++ (cW dT (a_this 4) g_this_world))) _ := hP.perm (wj_split [cSP a_this, cW dT (a_this 4) g_this_world, cP dT (a_this 8) o4.2, cP dT (a_this 9) o6.2] [3, 2] [0, 1] rfl)
      have hDq : va_D A ((cP dT (a_this 9) o6.2 ++ (cP dT (a_this 8) o4.2)) ++ (cSP a_this ++ (cW dT (a_this 4) g_this_world))) := hD.perm (wj_split [cSP a_this, cW dT (a_this 4) g_this_world, cP dT (a_this 8) o4.2, cP dT (a_this 9) o6.2] [3, 2] [0, 1] rfl)
      have hPc := hPq.left
      have hDc := hDq.left
      have hFc := va_freeL hDq hS hA
      refine cl_lL (wr := (cSP a_this ++ (cW dT (a_this 4) g_this_world))) (va_runV (As := [.ref ((a_this 8) 0)]) (rest := []) ⟨hx, hb, hml, hown, hts⟩ (c_X3_costAsPlannedBy l hlt D dT (a_this 9) (a_this 8) o6.2 o4.2 o7 e7 _) (cwV 1 hts (TB_V w_441 w_442 w_443 w_41 w_444) rfl rfl rfl ⟨rfl, nd_X3_costAsPlannedBy⟩ ⟨Nat.le_of_ble_eq_true rfl, Nat.le_of_ble_eq_true rfl⟩) (cPre.V hPc hDc hK hE hS hFc (va_recv hK hPc (ci := 3) (q0 := 0) rfl rfl)) rfl rfl hl.1 rfl (lv_room (Nat.le_of_ble_eq_true rfl)) dX8_cost_72 ⟨Nat.le_of_ble_eq_true rfl, Nat.le_of_ble_eq_true rfl⟩) hPq hDq hS hFc (fun r7 u7 H locs hw hP hD hS => ?_)
      obtain ⟨rfl, rfl⟩ := hw
      have hP : va_P D vwCl (cSP a_this ++ (cW dT (a_this 4) g_this_world ++ (cP dT (a_this 8) o4.2 ++ (cP dT (a_this 9) o6.2)))) H := hP.perm (wj_back [cP dT (a_this 9) o6.2, cP dT (a_this 8) o4.2] [cSP a_this, cW dT (a_this 4) g_this_world] [2, 3, 1, 0] rfl)
      have hD : va_D A (cSP a_this ++ (cW dT (a_this 4) g_this_world ++ (cP dT (a_this 8) o4.2 ++ (cP dT (a_this 9) o6.2)))) := hD.perm (wj_back [cP dT (a_this 9) o6.2, cP dT (a_this 8) o4.2] [cSP a_this, cW dT (a_this 4) g_this_world] [2, 3, 1, 0] rfl)
      exact vx_ret (rt_l hx hb hr hlk hK hS ((o4.2, o6.2) : TP × TP) (Option.some.inj h).symm hP hD dX8_cost_75)
    · replace h := iteT c5 h
      refine lv_aload_n hx hb dX8_cost_43 rfl (lv_at hl 0 rfl) ?_
      refine gf_X8_57 (v := .ref ((a_this 8) 0)) hx hb hqs hown hK hP 0 rfl rfl dX8_cost_44 ?_
      obtain ⟨o8, e8, h⟩ := obind h
      have hPq : va_P D vwCl ((cP dT (a_this 8) o4.2) ++ (cSP a_this ++ (cW dT (a_this 4) g_this_world ++ (cP dT (a_this 9) g_this_other)))) _ := hP.perm (wj_split [cSP a_this, cW dT (a_this 4) g_this_world, cP dT (a_this 8) o4.2, cP dT (a_this 9) g_this_other] [2] [0, 1, 3] rfl)
      have hDq : va_D A ((cP dT (a_this 8) o4.2) ++ (cSP a_this ++ (cW dT (a_this 4) g_this_world ++ (cP dT (a_this 9) g_this_other)))) := hD.perm (wj_split [cSP a_this, cW dT (a_this 4) g_this_world, cP dT (a_this 8) o4.2, cP dT (a_this 9) g_this_other] [2] [0, 1, 3] rfl)
      have hPc := hPq.left
      have hDc := hDq.left
      have hFc := va_freeL hDq hS hA
      refine cl_lL (wr := (cSP a_this ++ (cW dT (a_this 4) g_this_world ++ (cP dT (a_this 9) g_this_other)))) (va_runV (As := []) (rest := []) ⟨hx, hb, hml, hown, hts⟩ (c_X3_leastCost l hlt D dT (a_this 8) o4.2 o8 e8 _) (cwV 0 hts (TB_V w_453 w_454 w_455 w_41 w_456) rfl rfl rfl ⟨rfl, nd_X3_leastCost⟩ ⟨Nat.le_of_ble_eq_true rfl, Nat.le_of_ble_eq_true rfl⟩) (cPre.V hPc hDc hK hE hS hFc (va_recv hK hPc (ci := 3) (q0 := 0) rfl rfl)) rfl rfl hl.1 rfl (lv_room (Nat.le_of_ble_eq_true rfl)) dX8_cost_47 ⟨Nat.le_of_ble_eq_true rfl, Nat.le_of_ble_eq_true rfl⟩) hPq hDq hS hFc (fun r8 u8 H locs hw hP hD hS => ?_)
      obtain ⟨rfl, rfl⟩ := hw
      have hP : va_P D vwCl (cSP a_this ++ (cW dT (a_this 4) g_this_world ++ (cP dT (a_this 8) o4.2 ++ (cP dT (a_this 9) g_this_other)))) H := hP.perm (wj_back [cP dT (a_this 8) o4.2] [cSP a_this, cW dT (a_this 4) g_this_world, cP dT (a_this 9) g_this_other] [1, 2, 0, 3] rfl)
      have hD : va_D A (cSP a_this ++ (cW dT (a_this 4) g_this_world ++ (cP dT (a_this 8) o4.2 ++ (cP dT (a_this 9) g_this_other)))) := hD.perm (wj_back [cP dT (a_this 8) o4.2] [cSP a_this, cW dT (a_this 4) g_this_world, cP dT (a_this 9) g_this_other] [1, 2, 0, 3] rfl)
      exact vx_ret (rt_l hx hb hr hlk hK hS ((o4.2, g_this_other) : TP × TP) (Option.some.inj h).symm hP hD dX8_cost_50)
  · replace h := iteT c3 h
    refine lv_aload_n hx hb dX8_cost_16 rfl (lv_at hl 0 rfl) ?_
    refine lv_aload_n hx hb dX8_cost_17 rfl (lv_at hl 0 rfl) ?_
    refine gf_X8_33 (v := .ref ((a_this 4) 0)) hx hb hqs hown hK hP 0 rfl rfl dX8_cost_18 ?_
    refine lv_iload_n hx hb dX8_cost_21 rfl (lv_at hl 1 rfl) ?_
    obtain ⟨o9, e9, h⟩ := obind h
    have hPq : va_P D vwCl ((cSP a_this ++ (cP dT (a_this 8) g_this_chosen ++ (cP dT (a_this 9) g_this_other ++ (cW dT (a_this 4) g_this_world)))) ++ ([] : va_W)) _ := hP.perm (wj_split [cSP a_this, cW dT (a_this 4) g_this_world, cP dT (a_this 8) g_this_chosen, cP dT (a_this 9) g_this_other] [0, 2, 3, 1] [] rfl)
    have hDq : va_D A ((cSP a_this ++ (cP dT (a_this 8) g_this_chosen ++ (cP dT (a_this 9) g_this_other ++ (cW dT (a_this 4) g_this_world)))) ++ ([] : va_W)) := hD.perm (wj_split [cSP a_this, cW dT (a_this 4) g_this_world, cP dT (a_this 8) g_this_chosen, cP dT (a_this 9) g_this_other] [0, 2, 3, 1] [] rfl)
    have hPc := hPq.left
    have hDc := hDq.left
    have hFc := va_freeL hDq hS hA
    refine cl_lL (wr := ([] : va_W)) (va_runV (As := [.ref ((a_this 4) 0), .int v1]) (rest := []) ⟨hx, hb, hml, hown, hts⟩ (c_X8_regretIn l hlt D dT a_this (a_this 4) g_this_chosen g_this_other g_this_world v1 o9 e9 _) (cwV 2 hts (TB_V w_383 w_385 w_3 w_33 w_386) rfl rfl rfl ⟨rfl, nd_X8_regretIn⟩ ⟨Nat.le_of_ble_eq_true rfl, Nat.le_of_ble_eq_true rfl⟩) (cPre.V hPc hDc hK hE hS hFc (va_recv hK hPc (ci := 7) (q0 := 0) rfl rfl)) rfl rfl hl.1 rfl (lv_room (Nat.le_of_ble_eq_true rfl)) dX8_cost_22 ⟨Nat.le_of_ble_eq_true rfl, Nat.le_of_ble_eq_true rfl⟩) hPq hDq hS hFc (fun r9 u9 H locs hw hP hD hS => ?_)
    obtain ⟨rfl, rfl⟩ := hw
    have hP : va_P D vwCl (cSP a_this ++ (cW dT (a_this 4) g_this_world ++ (cP dT (a_this 8) o9.2.1 ++ (cP dT (a_this 9) o9.2.2)))) H := hP.perm (wj_back [cSP a_this, cP dT (a_this 8) o9.2.1, cP dT (a_this 9) o9.2.2, cW dT (a_this 4) g_this_world] [] [0, 3, 1, 2] rfl)
    have hD : va_D A (cSP a_this ++ (cW dT (a_this 4) g_this_world ++ (cP dT (a_this 8) o9.2.1 ++ (cP dT (a_this 9) o9.2.2)))) := hD.perm (wj_back [cSP a_this, cP dT (a_this 8) o9.2.1, cP dT (a_this 9) o9.2.2, cW dT (a_this 4) g_this_world] [] [0, 3, 1, 2] rfl)
    exact vx_ret (rt_l hx hb hr hlk hK hS ((o9.2.1, o9.2.2) : TP × TP) (Option.some.inj h).symm hP hD dX8_cost_25)

def f_X8_costOfText_J36 (g_this_text : TT) (g_this_world : TW)  (g_this_planReader : TR) (g_this_chosen : TP) : Option ((Nat ⊕ Int64) × (TR × TP)) :=
    (some (Sum.inl 1, (g_this_planReader, g_this_chosen)))
def f_X8_costOfText (g_this_text : TT) (g_this_planReader : TR) (g_this_world : TW) (g_this_chosen : TP) (v1 : Int32) : Option ((Nat ⊕ Int64) × (TR × TP)) :=
  ((f_X8_needKind v1).bind fun o1 => (fun u1 => o1.1.elim (fun k1 => (some (Sum.inl k1, (g_this_planReader, g_this_chosen)))) (fun _ => ((f_X6_firstErrorFor_X2 g_this_text g_this_planReader).bind fun o2 => (if o2.1 = (-1 : Int32) then ((f_X2_tables o2.2).bind fun o4 => ((f_X7_hasTables g_this_world o4.1).bind fun o5 => (if o5.1 = (0 : Int32) then (f_X8_costOfText_J36 g_this_text g_this_world o2.2 g_this_chosen) else ((f_X2_tables o2.2).bind fun o7 => ((f_X3_weigh g_this_chosen g_this_world o7.1 v1).bind fun o8 => ((f_X3_costOfRead o8.2 o2.2).bind fun o9 => (some ((Sum.inr o9.1), (o2.2, o8.2))))))))) else (f_X8_costOfText_J36 g_this_text g_this_world o2.2 g_this_chosen))))) o1.2)
set_option maxHeartbeats 8000000 in
set_option maxRecDepth 100000 in
theorem c_X8_costOfText (l : Launch) (hlt : l.stackTraces = false) (D : va_G) (dT : Nat → ClassId) (a_this : Nat → Nat → Nat) (g_this_text : TT) (g_this_planReader : TR) (g_this_world : TW) (g_this_chosen : TP) (v1 : Int32) (o : ((Nat ⊕ Int64) × (TR × TP))) (h : f_X8_costOfText g_this_text g_this_planReader g_this_world g_this_chosen v1 = some o) (sz : Nat) : vx_Met l yX8_costOfText (WSm yX8_costOfText cX8_costOfText 2 (some .long)) { frames := 8, cells := 2, slots := 12, locals := 132 } (va_Pc [.ref (a_this 0 0), .int v1] (cPre D dT (cSP a_this ++ (cT dT (a_this 1) g_this_text ++ (cR dT (a_this 3) g_this_planReader ++ (cW dT (a_this 4) g_this_world ++ (cP dT (a_this 8) g_this_chosen))))) sz)) (va_Ql (fun (r : Int64) (u : TR × TP) => o = (Sum.inr r, u)) (fun u t => cAt D dT (va_A (cSP a_this ++ (cT dT (a_this 1) g_this_text ++ (cR dT (a_this 3) g_this_planReader ++ (cW dT (a_this 4) g_this_world ++ (cP dT (a_this 8) g_this_chosen))))) sz) (cSP a_this ++ (cT dT (a_this 1) g_this_text ++ (cR dT (a_this 3) (u.1) ++ (cW dT (a_this 4) g_this_world ++ (cP dT (a_this 8) (u.2)))))) t) (va_A (cSP a_this ++ (cT dT (a_this 1) g_this_text ++ (cR dT (a_this 3) g_this_planReader ++ (cW dT (a_this 4) g_this_world ++ (cP dT (a_this 8) g_this_chosen))))) sz)) (xEnd D dT (xoP o) (fun u => (cSP a_this ++ (cT dT (a_this 1) g_this_text ++ (cR dT (a_this 3) (u.1) ++ (cW dT (a_this 4) g_this_world ++ (cP dT (a_this 8) (u.2))))))) (va_A (cSP a_this ++ (cT dT (a_this 1) g_this_text ++ (cR dT (a_this 3) g_this_planReader ++ (cW dT (a_this 4) g_this_world ++ (cP dT (a_this 8) g_this_chosen))))) sz)) 2 12 (va_A (cSP a_this ++ (cT dT (a_this 1) g_this_text ++ (cR dT (a_this 3) g_this_planReader ++ (cW dT (a_this 4) g_this_world ++ (cP dT (a_this 8) g_this_chosen))))) sz) := by
  refine mStartX (WS := (cSP a_this ++ (cT dT (a_this 1) g_this_text ++ (cR dT (a_this 3) g_this_planReader ++ (cW dT (a_this 4) g_this_world ++ (cP dT (a_this 8) g_this_chosen)))))) (Qc := fun A => va_Ql (fun (r : Int64) (u : TR × TP) => o = (Sum.inr r, u)) (fun u t => cAt D dT A (cSP a_this ++ (cT dT (a_this 1) g_this_text ++ (cR dT (a_this 3) (u.1) ++ (cW dT (a_this 4) g_this_world ++ (cP dT (a_this 8) (u.2)))))) t) A) (XC := fun A => xEnd D dT (xoP o) (fun u => (cSP a_this ++ (cT dT (a_this 1) g_this_text ++ (cR dT (a_this 3) (u.1) ++ (cW dT (a_this 4) g_this_world ++ (cP dT (a_this 8) (u.2))))))) A) RX8 rfl (by decide) (Nat.le_of_ble_eq_true rfl) ?_ sz
  intro p e s m below meth c A ls hx hb hml hr hlk hnt hts hqs hown hE hA hK hP hD hS hl
  have hl : lv_has ls 2 [(0, .ref (a_this 0 0)), (1, .int v1)] := hl
  have L_f_X8_costOfText_J36 : ∀ (g_this_text : TT) (g_this_world : TW) (g_this_planReader : TR) (g_this_chosen : TP)   (H : Heap) (locs : List Loc) (ls : Array Slot), f_X8_costOfText_J36 g_this_text g_this_world  g_this_planReader g_this_chosen = some o → va_P D vwCl (cSP a_this ++ (cT dT (a_this 1) g_this_text ++ (cR dT (a_this 3) g_this_planReader ++ (cW dT (a_this 4) g_this_world ++ (cP dT (a_this 8) g_this_chosen))))) H → va_D A (cSP a_this ++ (cT dT (a_this 1) g_this_text ++ (cR dT (a_this 3) g_this_planReader ++ (cW dT (a_this 4) g_this_world ++ (cP dT (a_this 8) g_this_chosen))))) → va_S A s.heap H locs → lv_has ls 2 [] → W p l e (headSpec (WSm yX8_costOfText cX8_costOfText 2 (some .long)) { frames := 8, cells := 2, slots := 12, locals := 132 }).room s m [.ref (a_this 0 0), .int v1].toArray below meth c H locs 1 6 (vx_MQ below (va_Ql (fun (r : Int64) (u : TR × TP) => o = (Sum.inr r, u)) (fun u t => cAt D dT A (cSP a_this ++ (cT dT (a_this 1) g_this_text ++ (cR dT (a_this 3) (u.1) ++ (cW dT (a_this 4) g_this_world ++ (cP dT (a_this 8) (u.2)))))) t) A) (xEnd D dT (xoP o) (fun u => (cSP a_this ++ (cT dT (a_this 1) g_this_text ++ (cR dT (a_this 3) (u.1) ++ (cW dT (a_this 4) g_this_world ++ (cP dT (a_this 8) (u.2))))))) A) [.ref (a_this 0 0), .int v1].toArray s 2 12 A) (F0 m 36 ls []) := by
    intro g_this_text g_this_world g_this_planReader g_this_chosen   H locs ls h hP hD hS hl
    unfold f_X8_costOfText_J36 at h
    exact th_S (k := 1) exOkS rfl (List.mem_of_getElem? (i := 12) rfl) hlt hx hb (hl.1.trans hml.symm) hlk hnt hqs hown hE hK hS ((g_this_planReader, g_this_chosen) : TR × TP) (xoP_of h) hP hD rfl rfl rfl rfl rfl rfl dX8_costOfText_36 dX8_costOfText_39 dX8_costOfText_40 dX8_costOfText_42 dX8_costOfText_45
  unfold f_X8_costOfText at h
  refine lv_iload_n hx hb dX8_costOfText_0 rfl (lv_at hl 1 rfl) ?_
  obtain ⟨o1, e1, h⟩ := obind h
  have hPq : va_P D vwCl (([] : va_W) ++ (cSP a_this ++ (cT dT (a_this 1) g_this_text ++ (cR dT (a_this 3) g_this_planReader ++ (cW dT (a_this 4) g_this_world ++ (cP dT (a_this 8) g_this_chosen)))))) _ := hP.perm (wj_split [cSP a_this, cT dT (a_this 1) g_this_text, cR dT (a_this 3) g_this_planReader, cW dT (a_this 4) g_this_world, cP dT (a_this 8) g_this_chosen] [] [0, 1, 2, 3, 4] rfl)
  have hDq : va_D A (([] : va_W) ++ (cSP a_this ++ (cT dT (a_this 1) g_this_text ++ (cR dT (a_this 3) g_this_planReader ++ (cW dT (a_this 4) g_this_world ++ (cP dT (a_this 8) g_this_chosen)))))) := hD.perm (wj_split [cSP a_this, cT dT (a_this 1) g_this_text, cR dT (a_this 3) g_this_planReader, cW dT (a_this 4) g_this_world, cP dT (a_this 8) g_this_chosen] [] [0, 1, 2, 3, 4] rfl)
  have hPc := hPq.left
  have hDc := hDq.left
  have hFc := va_freeL hDq hS hA
  refine xcl_vL (wr := (cSP a_this ++ (cT dT (a_this 1) g_this_text ++ (cR dT (a_this 3) g_this_planReader ++ (cW dT (a_this 4) g_this_world ++ (cP dT (a_this 8) g_this_chosen)))))) (vx_runS (As := [.int v1]) (rest := []) ⟨hx, hb, hml, hown, hts⟩ (c_X8_needKind l hlt D dT v1 o1 e1 _) (va_cwS 1 hts (TB_S w_909 w_910 w_33 w_911) rfl rfl rfl nd_X8_needKind ⟨Nat.le_of_ble_eq_true rfl, Nat.le_of_ble_eq_true rfl⟩) (cPre.S hPc hDc hK hE hS hFc) rfl rfl hl.1 rfl (lv_room (Nat.le_of_ble_eq_true rfl)) dX8_costOfText_1 ⟨Nat.le_of_ble_eq_true rfl, Nat.le_of_ble_eq_true rfl⟩) hPq hDq hS hFc (fun k1 u1 E1 ce1 q1 H locs hw hEk hP hD hS hxc hxv hxl => ?_) (fun u1 H locs hw hP hD hS => ?_)
  · have hw := xoP_inv hw
    subst hw
    have hP : va_P D vwCl (cSP a_this ++ (cT dT (a_this 1) g_this_text ++ (cR dT (a_this 3) g_this_planReader ++ (cW dT (a_this 4) g_this_world ++ (cP dT (a_this 8) g_this_chosen))))) H := hP.perm (wj_back [] [cSP a_this, cT dT (a_this 1) g_this_text, cR dT (a_this 3) g_this_planReader, cW dT (a_this 4) g_this_world, cP dT (a_this 8) g_this_chosen] [0, 1, 2, 3, 4] rfl)
    have hD : va_D A (cSP a_this ++ (cT dT (a_this 1) g_this_text ++ (cR dT (a_this 3) g_this_planReader ++ (cW dT (a_this 4) g_this_world ++ (cP dT (a_this 8) g_this_chosen))))) := hD.perm (wj_back [] [cSP a_this, cT dT (a_this 1) g_this_text, cR dT (a_this 3) g_this_planReader, cW dT (a_this 4) g_this_world, cP dT (a_this 8) g_this_chosen] [0, 1, 2, 3, 4] rfl)
    exact xo_S hlk hnt hK hS hEk hxc hxv hxl ((g_this_planReader, g_this_chosen) : TR × TP) (xoP_of h) hP hD rfl rfl
  subst hw
  replace h := sumR h
  have hP : va_P D vwCl (cSP a_this ++ (cT dT (a_this 1) g_this_text ++ (cR dT (a_this 3) g_this_planReader ++ (cW dT (a_this 4) g_this_world ++ (cP dT (a_this 8) g_this_chosen))))) H := hP.perm (wj_back [] [cSP a_this, cT dT (a_this 1) g_this_text, cR dT (a_this 3) g_this_planReader, cW dT (a_this 4) g_this_world, cP dT (a_this 8) g_this_chosen] [0, 1, 2, 3, 4] rfl)
  have hD : va_D A (cSP a_this ++ (cT dT (a_this 1) g_this_text ++ (cR dT (a_this 3) g_this_planReader ++ (cW dT (a_this 4) g_this_world ++ (cP dT (a_this 8) g_this_chosen))))) := hD.perm (wj_back [] [cSP a_this, cT dT (a_this 1) g_this_text, cR dT (a_this 3) g_this_planReader, cW dT (a_this 4) g_this_world, cP dT (a_this 8) g_this_chosen] [0, 1, 2, 3, 4] rfl)
  refine lv_aload_n hx hb dX8_costOfText_4 rfl (lv_at hl 0 rfl) ?_
  refine gf_X8_10 (v := .ref ((a_this 1) 0)) hx hb hqs hown hK hP 0 rfl rfl dX8_costOfText_5 ?_
  refine lv_aload_n hx hb dX8_costOfText_8 rfl (lv_at hl 0 rfl) ?_
  refine gf_X8_26 (v := .ref ((a_this 3) 0)) hx hb hqs hown hK hP 0 rfl rfl dX8_costOfText_9 ?_
  obtain ⟨o2, e2, h⟩ := obind h
  have hPq : va_P D vwCl ((cT dT (a_this 1) g_this_text ++ (cR dT (a_this 3) g_this_planReader)) ++ (cSP a_this ++ (cW dT (a_this 4) g_this_world ++ (cP dT (a_this 8) g_this_chosen)))) _ := hP.perm (wj_split [cSP a_this, cT dT (a_this 1) g_this_text, cR dT (a_this 3) g_this_planReader, cW dT (a_this 4) g_this_world, cP dT (a_this 8) g_this_chosen] [1, 2] [0, 3, 4] rfl)
  have hDq : va_D A ((cT dT (a_this 1) g_this_text ++ (cR dT (a_this 3) g_this_planReader)) ++ (cSP a_this ++ (cW dT (a_this 4) g_this_world ++ (cP dT (a_this 8) g_this_chosen)))) := hD.perm (wj_split [cSP a_this, cT dT (a_this 1) g_this_text, cR dT (a_this 3) g_this_planReader, cW dT (a_this 4) g_this_world, cP dT (a_this 8) g_this_chosen] [1, 2] [0, 3, 4] rfl)
  have hPc := hPq.left
  have hDc := hDq.left
  have hFc := va_freeL hDq hS hA
  refine cl_iL (wr := (cSP a_this ++ (cW dT (a_this 4) g_this_world ++ (cP dT (a_this 8) g_this_chosen)))) (va_runV (As := [.ref ((a_this 3) 0)]) (rest := []) ⟨hx, hb, hml, hown, hts⟩ (c_X6_firstErrorFor_X2 l hlt D dT (a_this 1) (a_this 3) g_this_text g_this_planReader o2 e2 _) (cwV 1 hts (TB_V w_643 w_644 w_645 w_34 w_646) rfl rfl rfl ⟨rfl, nd_X6_firstErrorFor⟩ ⟨Nat.le_of_ble_eq_true rfl, Nat.le_of_ble_eq_true rfl⟩) (cPre.V hPc hDc hK hE hS hFc (va_recv hK hPc (ci := 5) (q0 := 0) rfl rfl)) rfl rfl hl.1 rfl (lv_room (Nat.le_of_ble_eq_true rfl)) dX8_costOfText_12 ⟨Nat.le_of_ble_eq_true rfl, Nat.le_of_ble_eq_true rfl⟩) hPq hDq hS hFc (fun r2 u2 H locs hw hP hD hS => ?_)
  obtain ⟨rfl, rfl⟩ := hw
  have hP : va_P D vwCl (cSP a_this ++ (cT dT (a_this 1) g_this_text ++ (cR dT (a_this 3) o2.2 ++ (cW dT (a_this 4) g_this_world ++ (cP dT (a_this 8) g_this_chosen))))) H := hP.perm (wj_back [cT dT (a_this 1) g_this_text, cR dT (a_this 3) o2.2] [cSP a_this, cW dT (a_this 4) g_this_world, cP dT (a_this 8) g_this_chosen] [2, 0, 1, 3, 4] rfl)
  have hD : va_D A (cSP a_this ++ (cT dT (a_this 1) g_this_text ++ (cR dT (a_this 3) o2.2 ++ (cW dT (a_this 4) g_this_world ++ (cP dT (a_this 8) g_this_chosen))))) := hD.perm (wj_back [cT dT (a_this 1) g_this_text, cR dT (a_this 3) o2.2] [cSP a_this, cW dT (a_this 4) g_this_world, cP dT (a_this 8) g_this_chosen] [2, 0, 1, 3, 4] rfl)
  refine lv_iconst (v := -1) hx hb dX8_costOfText_15 (by decide) ?_
  refine lv_icmp_ne (tgt := 36) hx hb dX8_costOfText_16 (by decide) (fun c3 => ?_) (fun c3 => ?_)
  · replace h := iteF c3 h
    refine L_f_X8_costOfText_J36 g_this_text g_this_world o2.2 g_this_chosen   _ _ _ h hP hD hS (lv_sub hl [] rfl)
  · replace h := iteT c3 h
    refine lv_aload_n hx hb dX8_costOfText_19 rfl (lv_at hl 0 rfl) ?_
    refine gf_X8_33 (v := .ref ((a_this 4) 0)) hx hb hqs hown hK hP 0 rfl rfl dX8_costOfText_20 ?_
    refine lv_aload_n hx hb dX8_costOfText_23 rfl (lv_at hl 0 rfl) ?_
    refine gf_X8_26 (v := .ref ((a_this 3) 0)) hx hb hqs hown hK hP 0 rfl rfl dX8_costOfText_24 ?_
    obtain ⟨o4, e4, h⟩ := obind h
    have hPq : va_P D vwCl ((cR dT (a_this 3) o2.2) ++ (cSP a_this ++ (cT dT (a_this 1) g_this_text ++ (cW dT (a_this 4) g_this_world ++ (cP dT (a_this 8) g_this_chosen))))) _ := hP.perm (wj_split [cSP a_this, cT dT (a_this 1) g_this_text, cR dT (a_this 3) o2.2, cW dT (a_this 4) g_this_world, cP dT (a_this 8) g_this_chosen] [2] [0, 1, 3, 4] rfl)
    have hDq : va_D A ((cR dT (a_this 3) o2.2) ++ (cSP a_this ++ (cT dT (a_this 1) g_this_text ++ (cW dT (a_this 4) g_this_world ++ (cP dT (a_this 8) g_this_chosen))))) := hD.perm (wj_split [cSP a_this, cT dT (a_this 1) g_this_text, cR dT (a_this 3) o2.2, cW dT (a_this 4) g_this_world, cP dT (a_this 8) g_this_chosen] [2] [0, 1, 3, 4] rfl)
    have hPc := hPq.left
    have hDc := hDq.left
    have hFc := va_freeL hDq hS hA
    refine cl_iL (wr := (cSP a_this ++ (cT dT (a_this 1) g_this_text ++ (cW dT (a_this 4) g_this_world ++ (cP dT (a_this 8) g_this_chosen))))) (va_runV (As := []) (rest := [.ref ((a_this 4) 0)]) ⟨hx, hb, hml, hown, hts⟩ (c_X2_tables l hlt D dT (a_this 3) o2.2 o4 e4 _) (cwV 0 hts (TB_V w_1021 w_1022 w_1023 w_37 w_1024) rfl rfl rfl ⟨rfl, nd_X2_tables⟩ ⟨Nat.le_of_ble_eq_true rfl, Nat.le_of_ble_eq_true rfl⟩) (cPre.V hPc hDc hK hE hS hFc (va_recv hK hPc (ci := 2) (q0 := 0) rfl rfl)) rfl rfl hl.1 rfl (lv_room (Nat.le_of_ble_eq_true rfl)) dX8_costOfText_27 ⟨Nat.le_of_ble_eq_true rfl, Nat.le_of_ble_eq_true rfl⟩) hPq hDq hS hFc (fun r4 u4 H locs hw hP hD hS => ?_)
    obtain ⟨rfl, rfl⟩ := hw
    have hP : va_P D vwCl (cSP a_this ++ (cT dT (a_this 1) g_this_text ++ (cR dT (a_this 3) o2.2 ++ (cW dT (a_this 4) g_this_world ++ (cP dT (a_this 8) g_this_chosen))))) H := hP.perm (wj_back [cR dT (a_this 3) o2.2] [cSP a_this, cT dT (a_this 1) g_this_text, cW dT (a_this 4) g_this_world, cP dT (a_this 8) g_this_chosen] [1, 2, 0, 3, 4] rfl)
    have hD : va_D A (cSP a_this ++ (cT dT (a_this 1) g_this_text ++ (cR dT (a_this 3) o2.2 ++ (cW dT (a_this 4) g_this_world ++ (cP dT (a_this 8) g_this_chosen))))) := hD.perm (wj_back [cR dT (a_this 3) o2.2] [cSP a_this, cT dT (a_this 1) g_this_text, cW dT (a_this 4) g_this_world, cP dT (a_this 8) g_this_chosen] [1, 2, 0, 3, 4] rfl)
    obtain ⟨o5, e5, h⟩ := obind h
    have hPq : va_P D vwCl ((cW dT (a_this 4) g_this_world) ++ (cSP a_this ++ (cT dT (a_this 1) g_this_text ++ (cR dT (a_this 3) o2.2 ++ (cP dT (a_this 8) g_this_chosen))))) _ := hP.perm (wj_split [cSP a_this, cT dT (a_this 1) g_this_text, cR dT (a_this 3) o2.2, cW dT (a_this 4) g_this_world, cP dT (a_this 8) g_this_chosen] [3] [0, 1, 2, 4] rfl)
    have hDq : va_D A ((cW dT (a_this 4) g_this_world) ++ (cSP a_this ++ (cT dT (a_this 1) g_this_text ++ (cR dT (a_this 3) o2.2 ++ (cP dT (a_this 8) g_this_chosen))))) := hD.perm (wj_split [cSP a_this, cT dT (a_this 1) g_this_text, cR dT (a_this 3) o2.2, cW dT (a_this 4) g_this_world, cP dT (a_this 8) g_this_chosen] [3] [0, 1, 2, 4] rfl)
    have hPc := hPq.left
    have hDc := hDq.left
    have hFc := va_freeL hDq hS hA
    refine cl_iL (wr := (cSP a_this ++ (cT dT (a_this 1) g_this_text ++ (cR dT (a_this 3) o2.2 ++ (cP dT (a_this 8) g_this_chosen))))) (va_runV (As := [.int o4.1]) (rest := []) ⟨hx, hb, hml, hown, hts⟩ (c_X7_hasTables l hlt D dT (a_this 4) g_this_world o4.1 o5 e5 _) (cwV 1 hts (TB_V w_375 w_376 w_377 w_38 w_378) rfl rfl rfl ⟨rfl, nd_X7_hasTables⟩ ⟨Nat.le_of_ble_eq_true rfl, Nat.le_of_ble_eq_true rfl⟩) (cPre.V hPc hDc hK hE hS hFc (va_recv hK hPc (ci := 6) (q0 := 0) rfl rfl)) rfl rfl hl.1 rfl (lv_room (Nat.le_of_ble_eq_true rfl)) dX8_costOfText_30 ⟨Nat.le_of_ble_eq_true rfl, Nat.le_of_ble_eq_true rfl⟩) hPq hDq hS hFc (fun r5 u5 H locs hw hP hD hS => ?_)
    obtain ⟨rfl, rfl⟩ := hw
    have hP : va_P D vwCl (cSP a_this ++ (cT dT (a_this 1) g_this_text ++ (cR dT (a_this 3) o2.2 ++ (cW dT (a_this 4) g_this_world ++ (cP dT (a_this 8) g_this_chosen))))) H := hP.perm (wj_back [cW dT (a_this 4) g_this_world] [cSP a_this, cT dT (a_this 1) g_this_text, cR dT (a_this 3) o2.2, cP dT (a_this 8) g_this_chosen] [1, 2, 3, 0, 4] rfl)
    have hD : va_D A (cSP a_this ++ (cT dT (a_this 1) g_this_text ++ (cR dT (a_this 3) o2.2 ++ (cW dT (a_this 4) g_this_world ++ (cP dT (a_this 8) g_this_chosen))))) := hD.perm (wj_back [cW dT (a_this 4) g_this_world] [cSP a_this, cT dT (a_this 1) g_this_text, cR dT (a_this 3) o2.2, cP dT (a_this 8) g_this_chosen] [1, 2, 3, 0, 4] rfl)
    refine lv_if_ne (tgt := 46) hx hb dX8_costOfText_33 (by decide) (fun c6 => ?_) (fun c6 => ?_)
    · replace h := iteF c6 h
      refine lv_aload_n hx hb dX8_costOfText_46 rfl (lv_at hl 0 rfl) ?_
      refine gf_X8_57 (v := .ref ((a_this 8) 0)) hx hb hqs hown hK hP 0 rfl rfl dX8_costOfText_47 ?_
      refine lv_aload_n hx hb dX8_costOfText_50 rfl (lv_at hl 0 rfl) ?_
      refine gf_X8_33 (v := .ref ((a_this 4) 0)) hx hb hqs hown hK hP 0 rfl rfl dX8_costOfText_51 ?_
      refine lv_aload_n hx hb dX8_costOfText_54 rfl (lv_at hl 0 rfl) ?_
      refine gf_X8_26 (v := .ref ((a_this 3) 0)) hx hb hqs hown hK hP 0 rfl rfl dX8_costOfText_55 ?_
      obtain ⟨o7, e7, h⟩ := obind h
      have hPq : va_P D vwCl ((cR dT (a_this 3) o2.2) ++ (cSP a_this ++ (cT dT (a_this 1) g_this_text ++ (cW dT (a_this 4) g_this_world ++ (cP dT (a_this 8) g_this_chosen))))) _ := hP.perm (wj_split [cSP a_this, cT dT (a_this 1) g_this_text, cR dT (a_this 3) o2.2, cW dT (a_this 4) g_this_world, cP dT (a_this 8) g_this_chosen] [2] [0, 1, 3, 4] rfl)
      have hDq : va_D A ((cR dT (a_this 3) o2.2) ++ (cSP a_this ++ (cT dT (a_this 1) g_this_text ++ (cW dT (a_this 4) g_this_world ++ (cP dT (a_this 8) g_this_chosen))))) := hD.perm (wj_split [cSP a_this, cT dT (a_this 1) g_this_text, cR dT (a_this 3) o2.2, cW dT (a_this 4) g_this_world, cP dT (a_this 8) g_this_chosen] [2] [0, 1, 3, 4] rfl)
      have hPc := hPq.left
      have hDc := hDq.left
      have hFc := va_freeL hDq hS hA
      refine cl_iL (wr := (cSP a_this ++ (cT dT (a_this 1) g_this_text ++ (cW dT (a_this 4) g_this_world ++ (cP dT (a_this 8) g_this_chosen))))) (va_runV (As := []) (rest := [.ref ((a_this 4) 0), .ref ((a_this 8) 0)]) ⟨hx, hb, hml, hown, hts⟩ (c_X2_tables l hlt D dT (a_this 3) o2.2 o7 e7 _) (cwV 0 hts (TB_V w_1021 w_1022 w_1023 w_37 w_1024) rfl rfl rfl ⟨rfl, nd_X2_tables⟩ ⟨Nat.le_of_ble_eq_true rfl, Nat.le_of_ble_eq_true rfl⟩) (cPre.V hPc hDc hK hE hS hFc (va_recv hK hPc (ci := 2) (q0 := 0) rfl rfl)) rfl rfl hl.1 rfl (lv_room (Nat.le_of_ble_eq_true rfl)) dX8_costOfText_58 ⟨Nat.le_of_ble_eq_true rfl, Nat.le_of_ble_eq_true rfl⟩) hPq hDq hS hFc (fun r7 u7 H locs hw hP hD hS => ?_)
      obtain ⟨rfl, rfl⟩ := hw
      have hP : va_P D vwCl (cSP a_this ++ (cT dT (a_this 1) g_this_text ++ (cR dT (a_this 3) o2.2 ++ (cW dT (a_this 4) g_this_world ++ (cP dT (a_this 8) g_this_chosen))))) H := hP.perm (wj_back [cR dT (a_this 3) o2.2] [cSP a_this, cT dT (a_this 1) g_this_text, cW dT (a_this 4) g_this_world, cP dT (a_this 8) g_this_chosen] [1, 2, 0, 3, 4] rfl)
      have hD : va_D A (cSP a_this ++ (cT dT (a_this 1) g_this_text ++ (cR dT (a_this 3) o2.2 ++ (cW dT (a_this 4) g_this_world ++ (cP dT (a_this 8) g_this_chosen))))) := hD.perm (wj_back [cR dT (a_this 3) o2.2] [cSP a_this, cT dT (a_this 1) g_this_text, cW dT (a_this 4) g_this_world, cP dT (a_this 8) g_this_chosen] [1, 2, 0, 3, 4] rfl)
      refine lv_iload_n hx hb dX8_costOfText_61 rfl (lv_at hl 1 rfl) ?_
      obtain ⟨o8, e8, h⟩ := obind h
      have hPq : va_P D vwCl ((cP dT (a_this 8) g_this_chosen ++ (cW dT (a_this 4) g_this_world)) ++ (cSP a_this ++ (cT dT (a_this 1) g_this_text ++ (cR dT (a_this 3) o2.2)))) _ := hP.perm (wj_split [cSP a_this, cT dT (a_this 1) g_this_text, cR dT (a_this 3) o2.2, cW dT (a_this 4) g_this_world, cP dT (a_this 8) g_this_chosen] [4, 3] [0, 1, 2] rfl)
      have hDq : va_D A ((cP dT (a_this 8) g_this_chosen ++ (cW dT (a_this 4) g_this_world)) ++ (cSP a_this ++ (cT dT (a_this 1) g_this_text ++ (cR dT (a_this 3) o2.2)))) := hD.perm (wj_split [cSP a_this, cT dT (a_this 1) g_this_text, cR dT (a_this 3) o2.2, cW dT (a_this 4) g_this_world, cP dT (a_this 8) g_this_chosen] [4, 3] [0, 1, 2] rfl)
      have hPc := hPq.left
      have hDc := hDq.left
      have hFc := va_freeL hDq hS hA
      refine cl_vL (wr := (cSP a_this ++ (cT dT (a_this 1) g_this_text ++ (cR dT (a_this 3) o2.2)))) (va_runV (As := [.ref ((a_this 4) 0), .int o7.1, .int v1]) (rest := []) ⟨hx, hb, hml, hown, hts⟩ (c_X3_weigh l hlt D dT (a_this 8) (a_this 4) g_this_chosen g_this_world o7.1 v1 o8 e8 _) (cwV 3 hts (TB_V w_1004 w_392 w_393 w_41 w_394) rfl rfl rfl ⟨rfl, nd_X3_weigh⟩ ⟨Nat.le_of_ble_eq_true rfl, Nat.le_of_ble_eq_true rfl⟩) (cPre.V hPc hDc hK hE hS hFc (va_recv hK hPc (ci := 3) (q0 := 0) rfl rfl)) rfl rfl hl.1 rfl (lv_room (Nat.le_of_ble_eq_true rfl)) dX8_costOfText_62 ⟨Nat.le_of_ble_eq_true rfl, Nat.le_of_ble_eq_true rfl⟩) hPq hDq hS hFc (fun u8 H locs hw hP hD hS => ?_)
      subst hw
      have hP : va_P D vwCl (cSP a_this ++ (cT dT (a_this 1) g_this_text ++ (cR dT (a_this 3) o2.2 ++ (cW dT (a_this 4) g_this_world ++ (cP dT (a_this 8) o8.2))))) H := hP.perm (wj_back [cP dT (a_this 8) o8.2, cW dT (a_this 4) g_this_world] [cSP a_this, cT dT (a_this 1) g_this_text, cR dT (a_this 3) o2.2] [2, 3, 4, 1, 0] rfl)
      have hD : va_D A (cSP a_this ++ (cT dT (a_this 1) g_this_text ++ (cR dT (a_this 3) o2.2 ++ (cW dT (a_this 4) g_this_world ++ (cP dT (a_this 8) o8.2))))) := hD.perm (wj_back [cP dT (a_this 8) o8.2, cW dT (a_this 4) g_this_world] [cSP a_this, cT dT (a_this 1) g_this_text, cR dT (a_this 3) o2.2] [2, 3, 4, 1, 0] rfl)
      refine lv_aload_n hx hb dX8_costOfText_65 rfl (lv_at hl 0 rfl) ?_
      refine gf_X8_57 (v := .ref ((a_this 8) 0)) hx hb hqs hown hK hP 0 rfl rfl dX8_costOfText_66 ?_
      refine lv_aload_n hx hb dX8_costOfText_69 rfl (lv_at hl 0 rfl) ?_
      refine gf_X8_26 (v := .ref ((a_this 3) 0)) hx hb hqs hown hK hP 0 rfl rfl dX8_costOfText_70 ?_
      obtain ⟨o9, e9, h⟩ := obind h
      have hPq : va_P D vwCl ((cP dT (a_this 8) o8.2 ++ (cR dT (a_this 3) o2.2)) ++ (cSP a_this ++ (cT dT (a_this 1) g_this_text ++ (cW dT (a_this 4) g_this_world)))) _ := hP.perm (wj_split [cSP a_this, cT dT (a_this 1) g_this_text, cR dT (a_this 3) o2.2, cW dT (a_this 4) g_this_world, cP dT (a_this 8) o8.2] [4, 2] [0, 1, 3] rfl)
      have hDq : va_D A ((cP dT (a_this 8) o8.2 ++ (cR dT (a_this 3) o2.2)) ++ (cSP a_this ++ (cT dT (a_this 1) g_this_text ++ (cW dT (a_this 4) g_this_world)))) := hD.perm (wj_split [cSP a_this, cT dT (a_this 1) g_this_text, cR dT (a_this 3) o2.2, cW dT (a_this 4) g_this_world, cP dT (a_this 8) o8.2] [4, 2] [0, 1, 3] rfl)
      have hPc := hPq.left
      have hDc := hDq.left
      have hFc := va_freeL hDq hS hA
      refine cl_lL (wr := (cSP a_this ++ (cT dT (a_this 1) g_this_text ++ (cW dT (a_this 4) g_this_world)))) (va_runV (As := [.ref ((a_this 3) 0)]) (rest := []) ⟨hx, hb, hml, hown, hts⟩ (c_X3_costOfRead l hlt D dT (a_this 8) (a_this 3) o8.2 o2.2 o9 e9 _) (cwV 1 hts (TB_V w_1026 w_1027 w_1028 w_41 w_1029) rfl rfl rfl ⟨rfl, nd_X3_costOfRead⟩ ⟨Nat.le_of_ble_eq_true rfl, Nat.le_of_ble_eq_true rfl⟩) (cPre.V hPc hDc hK hE hS hFc (va_recv hK hPc (ci := 3) (q0 := 0) rfl rfl)) rfl rfl hl.1 rfl (lv_room (Nat.le_of_ble_eq_true rfl)) dX8_costOfText_73 ⟨Nat.le_of_ble_eq_true rfl, Nat.le_of_ble_eq_true rfl⟩) hPq hDq hS hFc (fun r9 u9 H locs hw hP hD hS => ?_)
      obtain ⟨rfl, rfl⟩ := hw
      have hP : va_P D vwCl (cSP a_this ++ (cT dT (a_this 1) g_this_text ++ (cR dT (a_this 3) o2.2 ++ (cW dT (a_this 4) g_this_world ++ (cP dT (a_this 8) o8.2))))) H := hP.perm (wj_back [cP dT (a_this 8) o8.2, cR dT (a_this 3) o2.2] [cSP a_this, cT dT (a_this 1) g_this_text, cW dT (a_this 4) g_this_world] [2, 3, 1, 4, 0] rfl)
      have hD : va_D A (cSP a_this ++ (cT dT (a_this 1) g_this_text ++ (cR dT (a_this 3) o2.2 ++ (cW dT (a_this 4) g_this_world ++ (cP dT (a_this 8) o8.2))))) := hD.perm (wj_back [cP dT (a_this 8) o8.2, cR dT (a_this 3) o2.2] [cSP a_this, cT dT (a_this 1) g_this_text, cW dT (a_this 4) g_this_world] [2, 3, 1, 4, 0] rfl)
      refine W.widen (k := 2) (n := 12) (Nat.le_of_ble_eq_true rfl) (Nat.le_of_ble_eq_true rfl) ?_
      exact vx_ret (rt_l hx hb hr hlk hK hS ((o2.2, o8.2) : TR × TP) (Option.some.inj h).symm hP hD dX8_costOfText_76)
    · replace h := iteT c6 h
      refine L_f_X8_costOfText_J36 g_this_text g_this_world o2.2 g_this_chosen   _ _ _ h hP hD hS (lv_sub hl [] rfl)

def f_X8_matters (g_this_world : TW) (g_this_copy : TW) (g_this_chosen : TP) (g_this_other : TP) (v1 : Int32) (v2 : Int32) (v3 : Int32) : Option ((Nat ⊕ Int32) × (TW × TP × TP)) :=
  ((f_X8_needTable g_this_world v1).bind fun o1 => (fun u1 => o1.1.elim (fun k1 => (some (Sum.inl k1, (g_this_copy, g_this_chosen, g_this_other)))) (fun _ => ((f_X8_needTable g_this_world v2).bind fun o2 => (fun u2 => o2.1.elim (fun k2 => (some (Sum.inl k2, (g_this_copy, g_this_chosen, g_this_other)))) (fun _ => ((f_X8_needTables g_this_world v3).bind fun o3 => (fun u3 => o3.1.elim (fun k3 => (some (Sum.inl k3, (g_this_copy, g_this_chosen, g_this_other)))) (fun _ => (if v1 = v2 then (some (Sum.inl 0, (g_this_copy, g_this_chosen, g_this_other))) else ((f_X8_pairIndex v1 v2).bind fun o5 => ((f_X7_hasMemory g_this_world o5.1).bind fun o6 => (if o6.1 = (0 : Int32) then (some ((Sum.inr (0 : Int32)), (g_this_copy, g_this_chosen, g_this_other))) else ((f_X7_takeFrom g_this_copy g_this_world).bind fun o8 => ((f_X7_forget o8.2 o5.1).bind fun o9 => ((f_X3_choose g_this_chosen g_this_world v3 (1 : Int32)).bind fun o10 => ((f_X3_choose g_this_other o9.2 v3 (1 : Int32)).bind fun o11 => ((f_X3_hasOrderOf o10.2 o11.2).bind fun o12 => (if o12.1 = (0 : Int32) then (some ((Sum.inr (1 : Int32)), (o9.2, o10.2, o11.2))) else (some ((Sum.inr (0 : Int32)), (o9.2, o10.2, o11.2))))))))))))))) o3.2))) o2.2))) o1.2)
set_option maxHeartbeats 8000000 in
set_option maxRecDepth 100000 in
theorem c_X8_matters (l : Launch) (hlt : l.stackTraces = false) (D : va_G) (dT : Nat → ClassId) (a_this : Nat → Nat → Nat) (g_this_world : TW) (g_this_copy : TW) (g_this_chosen : TP) (g_this_other : TP) (v1 : Int32) (v2 : Int32) (v3 : Int32) (o : ((Nat ⊕ Int32) × (TW × TP × TP))) (h : f_X8_matters g_this_world g_this_copy g_this_chosen g_this_other v1 v2 v3 = some o) (sz : Nat) : vx_Met l yX8_matters (WSm yX8_matters cX8_matters 5 (some .int)) { frames := 7, cells := 4, slots := 24, locals := 111 } (va_Pc [.ref (a_this 0 0), .int v1, .int v2, .int v3] (cPre D dT (cSP a_this ++ (cW dT (a_this 4) g_this_world ++ (cW dT (a_this 5) g_this_copy ++ (cP dT (a_this 8) g_this_chosen ++ (cP dT (a_this 9) g_this_other))))) sz)) (va_Qi (fun (r : Int32) (u : TW × TP × TP) => o = (Sum.inr r, u)) (fun u t => cAt D dT (va_A (cSP a_this ++ (cW dT (a_this 4) g_this_world ++ (cW dT (a_this 5) g_this_copy ++ (cP dT (a_this 8) g_this_chosen ++ (cP dT (a_this 9) g_this_other))))) sz) (cSP a_this ++ (cW dT (a_this 4) g_this_world ++ (cW dT (a_this 5) (u.1) ++ (cP dT (a_this 8) (u.2.1) ++ (cP dT (a_this 9) (u.2.2)))))) t) (va_A (cSP a_this ++ (cW dT (a_this 4) g_this_world ++ (cW dT (a_this 5) g_this_copy ++ (cP dT (a_this 8) g_this_chosen ++ (cP dT (a_this 9) g_this_other))))) sz)) (xEnd D dT (xoP o) (fun u => (cSP a_this ++ (cW dT (a_this 4) g_this_world ++ (cW dT (a_this 5) (u.1) ++ (cP dT (a_this 8) (u.2.1) ++ (cP dT (a_this 9) (u.2.2))))))) (va_A (cSP a_this ++ (cW dT (a_this 4) g_this_world ++ (cW dT (a_this 5) g_this_copy ++ (cP dT (a_this 8) g_this_chosen ++ (cP dT (a_this 9) g_this_other))))) sz)) 4 24 (va_A (cSP a_this ++ (cW dT (a_this 4) g_this_world ++ (cW dT (a_this 5) g_this_copy ++ (cP dT (a_this 8) g_this_chosen ++ (cP dT (a_this 9) g_this_other))))) sz) := by
  refine mStartX (WS := (cSP a_this ++ (cW dT (a_this 4) g_this_world ++ (cW dT (a_this 5) g_this_copy ++ (cP dT (a_this 8) g_this_chosen ++ (cP dT (a_this 9) g_this_other)))))) (Qc := fun A => va_Qi (fun (r : Int32) (u : TW × TP × TP) => o = (Sum.inr r, u)) (fun u t => cAt D dT A (cSP a_this ++ (cW dT (a_this 4) g_this_world ++ (cW dT (a_this 5) (u.1) ++ (cP dT (a_this 8) (u.2.1) ++ (cP dT (a_this 9) (u.2.2)))))) t) A) (XC := fun A => xEnd D dT (xoP o) (fun u => (cSP a_this ++ (cW dT (a_this 4) g_this_world ++ (cW dT (a_this 5) (u.1) ++ (cP dT (a_this 8) (u.2.1) ++ (cP dT (a_this 9) (u.2.2))))))) A) RX8 rfl (by decide) (Nat.le_of_ble_eq_true rfl) ?_ sz
  intro p e s m below meth c A ls hx hb hml hr hlk hnt hts hqs hown hE hA hK hP hD hS hl
  have hl : lv_has ls 5 [(0, .ref (a_this 0 0)), (1, .int v1), (2, .int v2), (3, .int v3)] := hl
  unfold f_X8_matters at h
  refine lv_aload_n hx hb dX8_matters_0 rfl (lv_at hl 0 rfl) ?_
  refine lv_iload_n hx hb dX8_matters_1 rfl (lv_at hl 1 rfl) ?_
  obtain ⟨o1, e1, h⟩ := obind h
  have hPq : va_P D vwCl ((cSP a_this ++ (cW dT (a_this 4) g_this_world)) ++ (cW dT (a_this 5) g_this_copy ++ (cP dT (a_this 8) g_this_chosen ++ (cP dT (a_this 9) g_this_other)))) _ := hP.perm (wj_split [cSP a_this, cW dT (a_this 4) g_this_world, cW dT (a_this 5) g_this_copy, cP dT (a_this 8) g_this_chosen, cP dT (a_this 9) g_this_other] [0, 1] [2, 3, 4] rfl)
  have hDq : va_D A ((cSP a_this ++ (cW dT (a_this 4) g_this_world)) ++ (cW dT (a_this 5) g_this_copy ++ (cP dT (a_this 8) g_this_chosen ++ (cP dT (a_this 9) g_this_other)))) := hD.perm (wj_split [cSP a_this, cW dT (a_this 4) g_this_world, cW dT (a_this 5) g_this_copy, cP dT (a_this 8) g_this_chosen, cP dT (a_this 9) g_this_other] [0, 1] [2, 3, 4] rfl)
  have hPc := hPq.left
  have hDc := hDq.left
  have hFc := va_freeL hDq hS hA
  refine xcl_vL (wr := (cW dT (a_this 5) g_this_copy ++ (cP dT (a_this 8) g_this_chosen ++ (cP dT (a_this 9) g_this_other)))) (vx_runV (As := [.int v1]) (rest := []) ⟨hx, hb, hml, hown, hts⟩ (c_X8_needTable l hlt D dT a_this g_this_world v1 o1 e1 _) (cwV 1 hts (TB_V w_758 w_760 w_28 w_33 w_761) rfl rfl rfl ⟨rfl, nd_X8_needTable⟩ ⟨Nat.le_of_ble_eq_true rfl, Nat.le_of_ble_eq_true rfl⟩) (cPre.V hPc hDc hK hE hS hFc (va_recv hK hPc (ci := 7) (q0 := 0) rfl rfl)) rfl rfl hl.1 rfl (lv_room (Nat.le_of_ble_eq_true rfl)) dX8_matters_2 ⟨Nat.le_of_ble_eq_true rfl, Nat.le_of_ble_eq_true rfl⟩) hPq hDq hS hFc (fun k1 u1 E1 ce1 q1 H locs hw hEk hP hD hS hxc hxv hxl => ?_) (fun u1 H locs hw hP hD hS => ?_)
  · have hw := xoP_inv hw
    subst hw
    have hP : va_P D vwCl (cSP a_this ++ (cW dT (a_this 4) g_this_world ++ (cW dT (a_this 5) g_this_copy ++ (cP dT (a_this 8) g_this_chosen ++ (cP dT (a_this 9) g_this_other))))) H := hP.perm (wj_back [cSP a_this, cW dT (a_this 4) g_this_world] [cW dT (a_this 5) g_this_copy, cP dT (a_this 8) g_this_chosen, cP dT (a_this 9) g_this_other] [0, 1, 2, 3, 4] rfl)
    have hD : va_D A (cSP a_this ++ (cW dT (a_this 4) g_this_world ++ (cW dT (a_this 5) g_this_copy ++ (cP dT (a_this 8) g_this_chosen ++ (cP dT (a_this 9) g_this_other))))) := hD.perm (wj_back [cSP a_this, cW dT (a_this 4) g_this_world] [cW dT (a_this 5) g_this_copy, cP dT (a_this 8) g_this_chosen, cP dT (a_this 9) g_this_other] [0, 1, 2, 3, 4] rfl)
    exact xo_S hlk hnt hK hS hEk hxc hxv hxl ((g_this_copy, g_this_chosen, g_this_other) : TW × TP × TP) (xoP_of h) hP hD rfl rfl
  subst hw
  replace h := sumR h
  have hP : va_P D vwCl (cSP a_this ++ (cW dT (a_this 4) g_this_world ++ (cW dT (a_this 5) g_this_copy ++ (cP dT (a_this 8) g_this_chosen ++ (cP dT (a_this 9) g_this_other))))) H := hP.perm (wj_back [cSP a_this, cW dT (a_this 4) g_this_world] [cW dT (a_this 5) g_this_copy, cP dT (a_this 8) g_this_chosen, cP dT (a_this 9) g_this_other] [0, 1, 2, 3, 4] rfl)
  have hD : va_D A (cSP a_this ++ (cW dT (a_this 4) g_this_world ++ (cW dT (a_this 5) g_this_copy ++ (cP dT (a_this 8) g_this_chosen ++ (cP dT (a_this 9) g_this_other))))) := hD.perm (wj_back [cSP a_this, cW dT (a_this 4) g_this_world] [cW dT (a_this 5) g_this_copy, cP dT (a_this 8) g_this_chosen, cP dT (a_this 9) g_this_other] [0, 1, 2, 3, 4] rfl)
  refine lv_aload_n hx hb dX8_matters_5 rfl (lv_at hl 0 rfl) ?_
  refine lv_iload_n hx hb dX8_matters_6 rfl (lv_at hl 2 rfl) ?_
  obtain ⟨o2, e2, h⟩ := obind h
  have hPq : va_P D vwCl ((cSP a_this ++ (cW dT (a_this 4) g_this_world)) ++ (cW dT (a_this 5) g_this_copy ++ (cP dT (a_this 8) g_this_chosen ++ (cP dT (a_this 9) g_this_other)))) _ := hP.perm (wj_split [cSP a_this, cW dT (a_this 4) g_this_world, cW dT (a_this 5) g_this_copy, cP dT (a_this 8) g_this_chosen, cP dT (a_this 9) g_this_other] [0, 1] [2, 3, 4] rfl)
  have hDq : va_D A ((cSP a_this ++ (cW dT (a_this 4) g_this_world)) ++ (cW dT (a_this 5) g_this_copy ++ (cP dT (a_this 8) g_this_chosen ++ (cP dT (a_this 9) g_this_other)))) := hD.perm (wj_split [cSP a_this, cW dT (a_this 4) g_this_world, cW dT (a_this 5) g_this_copy, cP dT (a_this 8) g_this_chosen, cP dT (a_this 9) g_this_other] [0, 1] [2, 3, 4] rfl)
  have hPc := hPq.left
  have hDc := hDq.left
  have hFc := va_freeL hDq hS hA
  refine xcl_vL (wr := (cW dT (a_this 5) g_this_copy ++ (cP dT (a_this 8) g_this_chosen ++ (cP dT (a_this 9) g_this_other)))) (vx_runV (As := [.int v2]) (rest := []) ⟨hx, hb, hml, hown, hts⟩ (c_X8_needTable l hlt D dT a_this g_this_world v2 o2 e2 _) (cwV 1 hts (TB_V w_758 w_760 w_28 w_33 w_761) rfl rfl rfl ⟨rfl, nd_X8_needTable⟩ ⟨Nat.le_of_ble_eq_true rfl, Nat.le_of_ble_eq_true rfl⟩) (cPre.V hPc hDc hK hE hS hFc (va_recv hK hPc (ci := 7) (q0 := 0) rfl rfl)) rfl rfl hl.1 rfl (lv_room (Nat.le_of_ble_eq_true rfl)) dX8_matters_7 ⟨Nat.le_of_ble_eq_true rfl, Nat.le_of_ble_eq_true rfl⟩) hPq hDq hS hFc (fun k2 u2 E2 ce2 q2 H locs hw hEk hP hD hS hxc hxv hxl => ?_) (fun u2 H locs hw hP hD hS => ?_)
  · have hw := xoP_inv hw
    subst hw
    have hP : va_P D vwCl (cSP a_this ++ (cW dT (a_this 4) g_this_world ++ (cW dT (a_this 5) g_this_copy ++ (cP dT (a_this 8) g_this_chosen ++ (cP dT (a_this 9) g_this_other))))) H := hP.perm (wj_back [cSP a_this, cW dT (a_this 4) g_this_world] [cW dT (a_this 5) g_this_copy, cP dT (a_this 8) g_this_chosen, cP dT (a_this 9) g_this_other] [0, 1, 2, 3, 4] rfl)
    have hD : va_D A (cSP a_this ++ (cW dT (a_this 4) g_this_world ++ (cW dT (a_this 5) g_this_copy ++ (cP dT (a_this 8) g_this_chosen ++ (cP dT (a_this 9) g_this_other))))) := hD.perm (wj_back [cSP a_this, cW dT (a_this 4) g_this_world] [cW dT (a_this 5) g_this_copy, cP dT (a_this 8) g_this_chosen, cP dT (a_this 9) g_this_other] [0, 1, 2, 3, 4] rfl)
    exact xo_S hlk hnt hK hS hEk hxc hxv hxl ((g_this_copy, g_this_chosen, g_this_other) : TW × TP × TP) (xoP_of h) hP hD rfl rfl
  subst hw
  replace h := sumR h
  have hP : va_P D vwCl (cSP a_this ++ (cW dT (a_this 4) g_this_world ++ (cW dT (a_this 5) g_this_copy ++ (cP dT (a_this 8) g_this_chosen ++ (cP dT (a_this 9) g_this_other))))) H := hP.perm (wj_back [cSP a_this, cW dT (a_this 4) g_this_world] [cW dT (a_this 5) g_this_copy, cP dT (a_this 8) g_this_chosen, cP dT (a_this 9) g_this_other] [0, 1, 2, 3, 4] rfl)
  have hD : va_D A (cSP a_this ++ (cW dT (a_this 4) g_this_world ++ (cW dT (a_this 5) g_this_copy ++ (cP dT (a_this 8) g_this_chosen ++ (cP dT (a_this 9) g_this_other))))) := hD.perm (wj_back [cSP a_this, cW dT (a_this 4) g_this_world] [cW dT (a_this 5) g_this_copy, cP dT (a_this 8) g_this_chosen, cP dT (a_this 9) g_this_other] [0, 1, 2, 3, 4] rfl)
  refine lv_aload_n hx hb dX8_matters_10 rfl (lv_at hl 0 rfl) ?_
  refine lv_iload_n hx hb dX8_matters_11 rfl (lv_at hl 3 rfl) ?_
  obtain ⟨o3, e3, h⟩ := obind h
  have hPq : va_P D vwCl ((cSP a_this ++ (cW dT (a_this 4) g_this_world)) ++ (cW dT (a_this 5) g_this_copy ++ (cP dT (a_this 8) g_this_chosen ++ (cP dT (a_this 9) g_this_other)))) _ := hP.perm (wj_split [cSP a_this, cW dT (a_this 4) g_this_world, cW dT (a_this 5) g_this_copy, cP dT (a_this 8) g_this_chosen, cP dT (a_this 9) g_this_other] [0, 1] [2, 3, 4] rfl)
  have hDq : va_D A ((cSP a_this ++ (cW dT (a_this 4) g_this_world)) ++ (cW dT (a_this 5) g_this_copy ++ (cP dT (a_this 8) g_this_chosen ++ (cP dT (a_this 9) g_this_other)))) := hD.perm (wj_split [cSP a_this, cW dT (a_this 4) g_this_world, cW dT (a_this 5) g_this_copy, cP dT (a_this 8) g_this_chosen, cP dT (a_this 9) g_this_other] [0, 1] [2, 3, 4] rfl)
  have hPc := hPq.left
  have hDc := hDq.left
  have hFc := va_freeL hDq hS hA
  refine xcl_vL (wr := (cW dT (a_this 5) g_this_copy ++ (cP dT (a_this 8) g_this_chosen ++ (cP dT (a_this 9) g_this_other)))) (vx_runV (As := [.int v3]) (rest := []) ⟨hx, hb, hml, hown, hts⟩ (c_X8_needTables l hlt D dT a_this g_this_world v3 o3 e3 _) (cwV 1 hts (TB_V w_862 w_864 w_31 w_33 w_865) rfl rfl rfl ⟨rfl, nd_X8_needTables⟩ ⟨Nat.le_of_ble_eq_true rfl, Nat.le_of_ble_eq_true rfl⟩) (cPre.V hPc hDc hK hE hS hFc (va_recv hK hPc (ci := 7) (q0 := 0) rfl rfl)) rfl rfl hl.1 rfl (lv_room (Nat.le_of_ble_eq_true rfl)) dX8_matters_12 ⟨Nat.le_of_ble_eq_true rfl, Nat.le_of_ble_eq_true rfl⟩) hPq hDq hS hFc (fun k3 u3 E3 ce3 q3 H locs hw hEk hP hD hS hxc hxv hxl => ?_) (fun u3 H locs hw hP hD hS => ?_)
  · have hw := xoP_inv hw
    subst hw
    have hP : va_P D vwCl (cSP a_this ++ (cW dT (a_this 4) g_this_world ++ (cW dT (a_this 5) g_this_copy ++ (cP dT (a_this 8) g_this_chosen ++ (cP dT (a_this 9) g_this_other))))) H := hP.perm (wj_back [cSP a_this, cW dT (a_this 4) g_this_world] [cW dT (a_this 5) g_this_copy, cP dT (a_this 8) g_this_chosen, cP dT (a_this 9) g_this_other] [0, 1, 2, 3, 4] rfl)
    have hD : va_D A (cSP a_this ++ (cW dT (a_this 4) g_this_world ++ (cW dT (a_this 5) g_this_copy ++ (cP dT (a_this 8) g_this_chosen ++ (cP dT (a_this 9) g_this_other))))) := hD.perm (wj_back [cSP a_this, cW dT (a_this 4) g_this_world] [cW dT (a_this 5) g_this_copy, cP dT (a_this 8) g_this_chosen, cP dT (a_this 9) g_this_other] [0, 1, 2, 3, 4] rfl)
    exact xo_S hlk hnt hK hS hEk hxc hxv hxl ((g_this_copy, g_this_chosen, g_this_other) : TW × TP × TP) (xoP_of h) hP hD rfl rfl
  subst hw
  replace h := sumR h
  have hP : va_P D vwCl (cSP a_this ++ (cW dT (a_this 4) g_this_world ++ (cW dT (a_this 5) g_this_copy ++ (cP dT (a_this 8) g_this_chosen ++ (cP dT (a_this 9) g_this_other))))) H := hP.perm (wj_back [cSP a_this, cW dT (a_this 4) g_this_world] [cW dT (a_this 5) g_this_copy, cP dT (a_this 8) g_this_chosen, cP dT (a_this 9) g_this_other] [0, 1, 2, 3, 4] rfl)
  have hD : va_D A (cSP a_this ++ (cW dT (a_this 4) g_this_world ++ (cW dT (a_this 5) g_this_copy ++ (cP dT (a_this 8) g_this_chosen ++ (cP dT (a_this 9) g_this_other))))) := hD.perm (wj_back [cSP a_this, cW dT (a_this 4) g_this_world] [cW dT (a_this 5) g_this_copy, cP dT (a_this 8) g_this_chosen, cP dT (a_this 9) g_this_other] [0, 1, 2, 3, 4] rfl)
  refine lv_iload_n hx hb dX8_matters_15 rfl (lv_at hl 1 rfl) ?_
  refine lv_iload_n hx hb dX8_matters_16 rfl (lv_at hl 2 rfl) ?_
  refine lv_icmp_ne (tgt := 30) hx hb dX8_matters_17 (by decide) (fun c4 => ?_) (fun c4 => ?_)
  · replace h := iteF c4 h
    refine lv_iload_n hx hb dX8_matters_30 rfl (lv_at hl 1 rfl) ?_
    refine lv_iload_n hx hb dX8_matters_31 rfl (lv_at hl 2 rfl) ?_
    obtain ⟨o5, e5, h⟩ := obind h
    have hPq : va_P D vwCl (([] : va_W) ++ (cSP a_this ++ (cW dT (a_this 4) g_this_world ++ (cW dT (a_this 5) g_this_copy ++ (cP dT (a_this 8) g_this_chosen ++ (cP dT (a_this 9) g_this_other)))))) _ := hP.perm (wj_split [cSP a_this, cW dT (a_this 4) g_this_world, cW dT (a_this 5) g_this_copy, cP dT (a_this 8) g_this_chosen, cP dT (a_this 9) g_this_other] [] [0, 1, 2, 3, 4] rfl)
    have hDq : va_D A (([] : va_W) ++ (cSP a_this ++ (cW dT (a_this 4) g_this_world ++ (cW dT (a_this 5) g_this_copy ++ (cP dT (a_this 8) g_this_chosen ++ (cP dT (a_this 9) g_this_other)))))) := hD.perm (wj_split [cSP a_this, cW dT (a_this 4) g_this_world, cW dT (a_this 5) g_this_copy, cP dT (a_this 8) g_this_chosen, cP dT (a_this 9) g_this_other] [] [0, 1, 2, 3, 4] rfl)
    have hPc := hPq.left
    have hDc := hDq.left
    have hFc := va_freeL hDq hS hA
    refine cl_iL (wr := (cSP a_this ++ (cW dT (a_this 4) g_this_world ++ (cW dT (a_this 5) g_this_copy ++ (cP dT (a_this 8) g_this_chosen ++ (cP dT (a_this 9) g_this_other)))))) (va_runS (As := [.int v1, .int v2]) (rest := []) ⟨hx, hb, hml, hown, hts⟩ (c_X8_pairIndex l hlt D dT v1 v2 o5 e5 _) (va_cwS 2 hts (TB_S w_530 w_473 w_33 w_474) rfl rfl rfl nd_X8_pairIndex ⟨Nat.le_of_ble_eq_true rfl, Nat.le_of_ble_eq_true rfl⟩) (cPre.S hPc hDc hK hE hS hFc) rfl rfl hl.1 rfl (lv_room (Nat.le_of_ble_eq_true rfl)) dX8_matters_32 ⟨Nat.le_of_ble_eq_true rfl, Nat.le_of_ble_eq_true rfl⟩) hPq hDq hS hFc (fun r5 u5 H locs hw hP hD hS => ?_)
    obtain ⟨rfl, rfl⟩ := hw
    have hP : va_P D vwCl (cSP a_this ++ (cW dT (a_this 4) g_this_world ++ (cW dT (a_this 5) g_this_copy ++ (cP dT (a_this 8) g_this_chosen ++ (cP dT (a_this 9) g_this_other))))) H := hP.perm (wj_back [] [cSP a_this, cW dT (a_this 4) g_this_world, cW dT (a_this 5) g_this_copy, cP dT (a_this 8) g_this_chosen, cP dT (a_this 9) g_this_other] [0, 1, 2, 3, 4] rfl)
    have hD : va_D A (cSP a_this ++ (cW dT (a_this 4) g_this_world ++ (cW dT (a_this 5) g_this_copy ++ (cP dT (a_this 8) g_this_chosen ++ (cP dT (a_this 9) g_this_other))))) := hD.perm (wj_back [] [cSP a_this, cW dT (a_this 4) g_this_world, cW dT (a_this 5) g_this_copy, cP dT (a_this 8) g_this_chosen, cP dT (a_this 9) g_this_other] [0, 1, 2, 3, 4] rfl)
    refine lv_istore (lv' := [(4, .int o5.1), (0, .ref (a_this 0 0)), (1, .int v1), (2, .int v2), (3, .int v3)]) hx hb dX8_matters_35 hl (by decide) rfl (fun ls hl => ?_)
    refine lv_aload_n hx hb dX8_matters_37 rfl (lv_at hl 1 rfl) ?_
    refine gf_X8_33 (v := .ref ((a_this 4) 0)) hx hb hqs hown hK hP 0 rfl rfl dX8_matters_38 ?_
    refine lv_iload hx hb dX8_matters_41 (lv_at hl 0 rfl) ?_
    obtain ⟨o6, e6, h⟩ := obind h
    have hPq : va_P D vwCl ((cW dT (a_this 4) g_this_world) ++ (cSP a_this ++ (cW dT (a_this 5) g_this_copy ++ (cP dT (a_this 8) g_this_chosen ++ (cP dT (a_this 9) g_this_other))))) _ := hP.perm (wj_split [cSP a_this, cW dT (a_this 4) g_this_world, cW dT (a_this 5) g_this_copy, cP dT (a_this 8) g_this_chosen, cP dT (a_this 9) g_this_other] [1] [0, 2, 3, 4] rfl)
    have hDq : va_D A ((cW dT (a_this 4) g_this_world) ++ (cSP a_this ++ (cW dT (a_this 5) g_this_copy ++ (cP dT (a_this 8) g_this_chosen ++ (cP dT (a_this 9) g_this_other))))) := hD.perm (wj_split [cSP a_this, cW dT (a_this 4) g_this_world, cW dT (a_this 5) g_this_copy, cP dT (a_this 8) g_this_chosen, cP dT (a_this 9) g_this_other] [1] [0, 2, 3, 4] rfl)
    have hPc := hPq.left
    have hDc := hDq.left
    have hFc := va_freeL hDq hS hA
    refine cl_iL (wr := (cSP a_this ++ (cW dT (a_this 5) g_this_copy ++ (cP dT (a_this 8) g_this_chosen ++ (cP dT (a_this 9) g_this_other))))) (va_runV (As := [.int o5.1]) (rest := []) ⟨hx, hb, hml, hown, hts⟩ (c_X7_hasMemory l hlt D dT (a_this 4) g_this_world o5.1 o6 e6 _) (cwV 1 hts (TB_V w_931 w_507 w_508 w_38 w_509) rfl rfl rfl ⟨rfl, nd_X7_hasMemory⟩ ⟨Nat.le_of_ble_eq_true rfl, Nat.le_of_ble_eq_true rfl⟩) (cPre.V hPc hDc hK hE hS hFc (va_recv hK hPc (ci := 6) (q0 := 0) rfl rfl)) rfl rfl hl.1 rfl (lv_room (Nat.le_of_ble_eq_true rfl)) dX8_matters_43 ⟨Nat.le_of_ble_eq_true rfl, Nat.le_of_ble_eq_true rfl⟩) hPq hDq hS hFc (fun r6 u6 H locs hw hP hD hS => ?_)
    obtain ⟨rfl, rfl⟩ := hw
    have hP : va_P D vwCl (cSP a_this ++ (cW dT (a_this 4) g_this_world ++ (cW dT (a_this 5) g_this_copy ++ (cP dT (a_this 8) g_this_chosen ++ (cP dT (a_this 9) g_this_other))))) H := hP.perm (wj_back [cW dT (a_this 4) g_this_world] [cSP a_this, cW dT (a_this 5) g_this_copy, cP dT (a_this 8) g_this_chosen, cP dT (a_this 9) g_this_other] [1, 0, 2, 3, 4] rfl)
    have hD : va_D A (cSP a_this ++ (cW dT (a_this 4) g_this_world ++ (cW dT (a_this 5) g_this_copy ++ (cP dT (a_this 8) g_this_chosen ++ (cP dT (a_this 9) g_this_other))))) := hD.perm (wj_back [cW dT (a_this 4) g_this_world] [cSP a_this, cW dT (a_this 5) g_this_copy, cP dT (a_this 8) g_this_chosen, cP dT (a_this 9) g_this_other] [1, 0, 2, 3, 4] rfl)
    refine lv_if_ne (tgt := 51) hx hb dX8_matters_46 (by decide) (fun c7 => ?_) (fun c7 => ?_)
    · replace h := iteF c7 h
      refine lv_aload_n hx hb dX8_matters_51 rfl (lv_at hl 1 rfl) ?_
      refine gf_X8_37 (v := .ref ((a_this 5) 0)) hx hb hqs hown hK hP 0 rfl rfl dX8_matters_52 ?_
      refine lv_aload_n hx hb dX8_matters_55 rfl (lv_at hl 1 rfl) ?_
      refine gf_X8_33 (v := .ref ((a_this 4) 0)) hx hb hqs hown hK hP 0 rfl rfl dX8_matters_56 ?_
      obtain ⟨o8, e8, h⟩ := obind h
      have hPq : va_P D vwCl ((cW dT (a_this 5) g_this_copy ++ (cW dT (a_this 4) g_this_world)) ++ (cSP a_this ++ (cP dT (a_this 8) g_this_chosen ++ (cP dT (a_this 9) g_this_other)))) _ := hP.perm (wj_split [cSP a_this, cW dT (a_this 4) g_this_world, cW dT (a_this 5) g_this_copy, cP dT (a_this 8) g_this_chosen, cP dT (a_this 9) g_this_other] [2, 1] [0, 3, 4] rfl)
      have hDq : va_D A ((cW dT (a_this 5) g_this_copy ++ (cW dT (a_this 4) g_this_world)) ++ (cSP a_this ++ (cP dT (a_this 8) g_this_chosen ++ (cP dT (a_this 9) g_this_other)))) := hD.perm (wj_split [cSP a_this, cW dT (a_this 4) g_this_world, cW dT (a_this 5) g_this_copy, cP dT (a_this 8) g_this_chosen, cP dT (a_this 9) g_this_other] [2, 1] [0, 3, 4] rfl)
      have hPc := hPq.left
      have hDc := hDq.left
      have hFc := va_freeL hDq hS hA
      refine cl_vL (wr := (cSP a_this ++ (cP dT (a_this 8) g_this_chosen ++ (cP dT (a_this 9) g_this_other)))) (va_runV (As := [.ref ((a_this 4) 0)]) (rest := []) ⟨hx, hb, hml, hown, hts⟩ (c_X7_takeFrom l hlt D dT (a_this 5) (a_this 4) g_this_copy g_this_world o8 e8 _) (cwV 1 hts (TB_V w_363 w_364 w_365 w_38 w_366) rfl rfl rfl ⟨rfl, nd_X7_takeFrom⟩ ⟨Nat.le_of_ble_eq_true rfl, Nat.le_of_ble_eq_true rfl⟩) (cPre.V hPc hDc hK hE hS hFc (va_recv hK hPc (ci := 6) (q0 := 0) rfl rfl)) rfl rfl hl.1 rfl (lv_room (Nat.le_of_ble_eq_true rfl)) dX8_matters_59 ⟨Nat.le_of_ble_eq_true rfl, Nat.le_of_ble_eq_true rfl⟩) hPq hDq hS hFc (fun u8 H locs hw hP hD hS => ?_)
      subst hw
      have hP : va_P D vwCl (cSP a_this ++ (cW dT (a_this 4) g_this_world ++ (cW dT (a_this 5) o8.2 ++ (cP dT (a_this 8) g_this_chosen ++ (cP dT (a_this 9) g_this_other))))) H := hP.perm (wj_back [cW dT (a_this 5) o8.2, cW dT (a_this 4) g_this_world] [cSP a_this, cP dT (a_this 8) g_this_chosen, cP dT (a_this 9) g_this_other] [2, 1, 0, 3, 4] rfl)
      have hD : va_D A (cSP a_this ++ (cW dT (a_this 4) g_this_world ++ (cW dT (a_this 5) o8.2 ++ (cP dT (a_this 8) g_this_chosen ++ (cP dT (a_this 9) g_this_other))))) := hD.perm (wj_back [cW dT (a_this 5) o8.2, cW dT (a_this 4) g_this_world] [cSP a_this, cP dT (a_this 8) g_this_chosen, cP dT (a_this 9) g_this_other] [2, 1, 0, 3, 4] rfl)
      refine lv_aload_n hx hb dX8_matters_62 rfl (lv_at hl 1 rfl) ?_
      refine gf_X8_37 (v := .ref ((a_this 5) 0)) hx hb hqs hown hK hP 0 rfl rfl dX8_matters_63 ?_
      refine lv_iload hx hb dX8_matters_66 (lv_at hl 0 rfl) ?_
      obtain ⟨o9, e9, h⟩ := obind h
      have hPq : va_P D vwCl ((cW dT (a_this 5) o8.2) ++ (cSP a_this ++ (cW dT (a_this 4) g_this_world ++ (cP dT (a_this 8) g_this_chosen ++ (cP dT (a_this 9) g_this_other))))) _ := hP.perm (wj_split [cSP a_this, cW dT (a_this 4) g_this_world, cW dT (a_this 5) o8.2, cP dT (a_this 8) g_this_chosen, cP dT (a_this 9) g_this_other] [2] [0, 1, 3, 4] rfl)
      have hDq : va_D A ((cW dT (a_this 5) o8.2) ++ (cSP a_this ++ (cW dT (a_this 4) g_this_world ++ (cP dT (a_this 8) g_this_chosen ++ (cP dT (a_this 9) g_this_other))))) := hD.perm (wj_split [cSP a_this, cW dT (a_this 4) g_this_world, cW dT (a_this 5) o8.2, cP dT (a_this 8) g_this_chosen, cP dT (a_this 9) g_this_other] [2] [0, 1, 3, 4] rfl)
      have hPc := hPq.left
      have hDc := hDq.left
      have hFc := va_freeL hDq hS hA
      refine cl_vL (wr := (cSP a_this ++ (cW dT (a_this 4) g_this_world ++ (cP dT (a_this 8) g_this_chosen ++ (cP dT (a_this 9) g_this_other))))) (va_runV (As := [.int o5.1]) (rest := []) ⟨hx, hb, hml, hown, hts⟩ (c_X7_forget l hlt D dT (a_this 5) o8.2 o5.1 o9 e9 _) (cwV 1 hts (TB_V w_932 w_511 w_512 w_38 w_513) rfl rfl rfl ⟨rfl, nd_X7_forget⟩ ⟨Nat.le_of_ble_eq_true rfl, Nat.le_of_ble_eq_true rfl⟩) (cPre.V hPc hDc hK hE hS hFc (va_recv hK hPc (ci := 6) (q0 := 0) rfl rfl)) rfl rfl hl.1 rfl (lv_room (Nat.le_of_ble_eq_true rfl)) dX8_matters_68 ⟨Nat.le_of_ble_eq_true rfl, Nat.le_of_ble_eq_true rfl⟩) hPq hDq hS hFc (fun u9 H locs hw hP hD hS => ?_)
      subst hw
      have hP : va_P D vwCl (cSP a_this ++ (cW dT (a_this 4) g_this_world ++ (cW dT (a_this 5) o9.2 ++ (cP dT (a_this 8) g_this_chosen ++ (cP dT (a_this 9) g_this_other))))) H := hP.perm (wj_back [cW dT (a_this 5) o9.2] [cSP a_this, cW dT (a_this 4) g_this_world, cP dT (a_this 8) g_this_chosen, cP dT (a_this 9) g_this_other] [1, 2, 0, 3, 4] rfl)
      have hD : va_D A (cSP a_this ++ (cW dT (a_this 4) g_this_world ++ (cW dT (a_this 5) o9.2 ++ (cP dT (a_this 8) g_this_chosen ++ (cP dT (a_this 9) g_this_other))))) := hD.perm (wj_back [cW dT (a_this 5) o9.2] [cSP a_this, cW dT (a_this 4) g_this_world, cP dT (a_this 8) g_this_chosen, cP dT (a_this 9) g_this_other] [1, 2, 0, 3, 4] rfl)
      refine lv_aload_n hx hb dX8_matters_71 rfl (lv_at hl 1 rfl) ?_
      refine gf_X8_57 (v := .ref ((a_this 8) 0)) hx hb hqs hown hK hP 0 rfl rfl dX8_matters_72 ?_
      refine lv_aload_n hx hb dX8_matters_75 rfl (lv_at hl 1 rfl) ?_
      refine gf_X8_33 (v := .ref ((a_this 4) 0)) hx hb hqs hown hK hP 0 rfl rfl dX8_matters_76 ?_
      refine lv_iload_n hx hb dX8_matters_79 rfl (lv_at hl 4 rfl) ?_
      refine lv_iconst (v := 1) hx hb dX8_matters_80 (by decide) ?_
      obtain ⟨o10, e10, h⟩ := obind h
      have hPq : va_P D vwCl ((cP dT (a_this 8) g_this_chosen ++ (cW dT (a_this 4) g_this_world)) ++ (cSP a_this ++ (cW dT (a_this 5) o9.2 ++ (cP dT (a_this 9) g_this_other)))) _ := hP.perm (wj_split [cSP a_this, cW dT (a_this 4) g_this_world, cW dT (a_this 5) o9.2, cP dT (a_this 8) g_this_chosen, cP dT (a_this 9) g_this_other] [3, 1] [0, 2, 4] rfl)
      have hDq : va_D A ((cP dT (a_this 8) g_this_chosen ++ (cW dT (a_this 4) g_this_world)) ++ (cSP a_this ++ (cW dT (a_this 5) o9.2 ++ (cP dT (a_this 9) g_this_other)))) := hD.perm (wj_split [cSP a_this, cW dT (a_this 4) g_this_world, cW dT (a_this 5) o9.2, cP dT (a_this 8) g_this_chosen, cP dT (a_this 9) g_this_other] [3, 1] [0, 2, 4] rfl)
      have hPc := hPq.left
      have hDc := hDq.left
      have hFc := va_freeL hDq hS hA
      refine cl_vL (wr := (cSP a_this ++ (cW dT (a_this 5) o9.2 ++ (cP dT (a_this 9) g_this_other)))) (va_runV (As := [.ref ((a_this 4) 0), .int v3, .int (1 : Int32)]) (rest := []) ⟨hx, hb, hml, hown, hts⟩ (c_X3_choose l hlt D dT (a_this 8) (a_this 4) g_this_chosen g_this_world v3 (1 : Int32) o10 e10 _) (cwV 3 hts (TB_V w_387 w_388 w_389 w_41 w_390) rfl rfl rfl ⟨rfl, nd_X3_choose⟩ ⟨Nat.le_of_ble_eq_true rfl, Nat.le_of_ble_eq_true rfl⟩) (cPre.V hPc hDc hK hE hS hFc (va_recv hK hPc (ci := 3) (q0 := 0) rfl rfl)) rfl rfl hl.1 rfl (lv_room (Nat.le_of_ble_eq_true rfl)) dX8_matters_81 ⟨Nat.le_of_ble_eq_true rfl, Nat.le_of_ble_eq_true rfl⟩) hPq hDq hS hFc (fun u10 H locs hw hP hD hS => ?_)
      subst hw
      have hP : va_P D vwCl (cSP a_this ++ (cW dT (a_this 4) g_this_world ++ (cW dT (a_this 5) o9.2 ++ (cP dT (a_this 8) o10.2 ++ (cP dT (a_this 9) g_this_other))))) H := hP.perm (wj_back [cP dT (a_this 8) o10.2, cW dT (a_this 4) g_this_world] [cSP a_this, cW dT (a_this 5) o9.2, cP dT (a_this 9) g_this_other] [2, 1, 3, 0, 4] rfl)
      have hD : va_D A (cSP a_this ++ (cW dT (a_this 4) g_this_world ++ (cW dT (a_this 5) o9.2 ++ (cP dT (a_this 8) o10.2 ++ (cP dT (a_this 9) g_this_other))))) := hD.perm (wj_back [cP dT (a_this 8) o10.2, cW dT (a_this 4) g_this_world] [cSP a_this, cW dT (a_this 5) o9.2, cP dT (a_this 9) g_this_other] [2, 1, 3, 0, 4] rfl)
      refine lv_aload_n hx hb dX8_matters_84 rfl (lv_at hl 1 rfl) ?_
      refine gf_X8_61 (v := .ref ((a_this 9) 0)) hx hb hqs hown hK hP 0 rfl rfl dX8_matters_85 ?_
      refine lv_aload_n hx hb dX8_matters_88 rfl (lv_at hl 1 rfl) ?_
      refine gf_X8_37 (v := .ref ((a_this 5) 0)) hx hb hqs hown hK hP 0 rfl rfl dX8_matters_89 ?_
      refine lv_iload_n hx hb dX8_matters_92 rfl (lv_at hl 4 rfl) ?_
      refine lv_iconst (v := 1) hx hb dX8_matters_93 (by decide) ?_
      obtain ⟨o11, e11, h⟩ := obind h
      have hPq : va_P D vwCl ((cP dT (a_this 9) g_this_other ++ (cW dT (a_this 5) o9.2)) ++ (cSP a_this ++ (cW dT (a_this 4) g_this_world ++ (cP dT (a_this 8) o10.2)))) _ := hP.perm (wj_split [cSP a_this, cW dT (a_this 4) g_this_world, cW dT (a_this 5) o9.2, cP dT (a_this 8) o10.2, cP dT (a_this 9) g_this_other] [4, 2] [0, 1, 3] rfl)
      have hDq : va_D A ((cP dT (a_this 9) g_this_other ++ (cW dT (a_this 5) o9.2)) ++ (cSP a_this ++ (cW dT (a_this 4) g_this_world ++ (cP dT (a_this 8) o10.2)))) := hD.perm (wj_split [cSP a_this, cW dT (a_this 4) g_this_world, cW dT (a_this 5) o9.2, cP dT (a_this 8) o10.2, cP dT (a_this 9) g_this_other] [4, 2] [0, 1, 3] rfl)
      have hPc := hPq.left
      have hDc := hDq.left
      have hFc := va_freeL hDq hS hA
      refine cl_vL (wr := (cSP a_this ++ (cW dT (a_this 4) g_this_world ++ (cP dT (a_this 8) o10.2)))) (va_runV (As := [.ref ((a_this 5) 0), .int v3, .int (1 : Int32)]) (rest := []) ⟨hx, hb, hml, hown, hts⟩ (c_X3_choose l hlt D dT (a_this 9) (a_this 5) g_this_other o9.2 v3 (1 : Int32) o11 e11 _) (cwV 3 hts (TB_V w_387 w_388 w_389 w_41 w_390) rfl rfl rfl ⟨rfl, nd_X3_choose⟩ ⟨Nat.le_of_ble_eq_true rfl, Nat.le_of_ble_eq_true rfl⟩) (cPre.V hPc hDc hK hE hS hFc (va_recv hK hPc (ci := 3) (q0 := 0) rfl rfl)) rfl rfl hl.1 rfl (lv_room (Nat.le_of_ble_eq_true rfl)) dX8_matters_94 ⟨Nat.le_of_ble_eq_true rfl, Nat.le_of_ble_eq_true rfl⟩) hPq hDq hS hFc (fun u11 H locs hw hP hD hS => ?_)
      subst hw
      have hP : va_P D vwCl (cSP a_this ++ (cW dT (a_this 4) g_this_world ++ (cW dT (a_this 5) o9.2 ++ (cP dT (a_this 8) o10.2 ++ (cP dT (a_this 9) o11.2))))) H := hP.perm (wj_back [cP dT (a_this 9) o11.2, cW dT (a_this 5) o9.2] [cSP a_this, cW dT (a_this 4) g_this_world, cP dT (a_this 8) o10.2] [2, 3, 1, 4, 0] rfl)
      have hD : va_D A (cSP a_this ++ (cW dT (a_this 4) g_this_world ++ (cW dT (a_this 5) o9.2 ++ (cP dT (a_this 8) o10.2 ++ (cP dT (a_this 9) o11.2))))) := hD.perm (wj_back [cP dT (a_this 9) o11.2, cW dT (a_this 5) o9.2] [cSP a_this, cW dT (a_this 4) g_this_world, cP dT (a_this 8) o10.2] [2, 3, 1, 4, 0] rfl)
      refine lv_aload_n hx hb dX8_matters_97 rfl (lv_at hl 1 rfl) ?_
      refine gf_X8_57 (v := .ref ((a_this 8) 0)) hx hb hqs hown hK hP 0 rfl rfl dX8_matters_98 ?_
      refine lv_aload_n hx hb dX8_matters_101 rfl (lv_at hl 1 rfl) ?_
      refine gf_X8_61 (v := .ref ((a_this 9) 0)) hx hb hqs hown hK hP 0 rfl rfl dX8_matters_102 ?_
      obtain ⟨o12, e12, h⟩ := obind h
      have hPq : va_P D vwCl ((cP dT (a_this 8) o10.2 ++ (cP dT (a_this 9) o11.2)) ++ (cSP a_this ++ (cW dT (a_this 4) g_this_world ++ (cW dT (a_this 5) o9.2)))) _ := hP.perm (wj_split [cSP a_this, cW dT (a_this 4) g_this_world, cW dT (a_this 5) o9.2, cP dT (a_this 8) o10.2, cP dT (a_this 9) o11.2] [3, 4] [0, 1, 2] rfl)
      have hDq : va_D A ((cP dT (a_this 8) o10.2 ++ (cP dT (a_this 9) o11.2)) ++ (cSP a_this ++ (cW dT (a_this 4) g_this_world ++ (cW dT (a_this 5) o9.2)))) := hD.perm (wj_split [cSP a_this, cW dT (a_this 4) g_this_world, cW dT (a_this 5) o9.2, cP dT (a_this 8) o10.2, cP dT (a_this 9) o11.2] [3, 4] [0, 1, 2] rfl)
      have hPc := hPq.left
      have hDc := hDq.left
      have hFc := va_freeL hDq hS hA
      refine cl_iL (wr := (cSP a_this ++ (cW dT (a_this 4) g_this_world ++ (cW dT (a_this 5) o9.2)))) (va_runV (As := [.ref ((a_this 9) 0)]) (rest := []) ⟨hx, hb, hml, hown, hts⟩ (c_X3_hasOrderOf l hlt D dT (a_this 8) (a_this 9) o10.2 o11.2 o12 e12 _) (cwV 1 hts (TB_V w_933 w_934 w_935 w_41 w_936) rfl rfl rfl ⟨rfl, nd_X3_hasOrderOf⟩ ⟨Nat.le_of_ble_eq_true rfl, Nat.le_of_ble_eq_true rfl⟩) (cPre.V hPc hDc hK hE hS hFc (va_recv hK hPc (ci := 3) (q0 := 0) rfl rfl)) rfl rfl hl.1 rfl (lv_room (Nat.le_of_ble_eq_true rfl)) dX8_matters_105 ⟨Nat.le_of_ble_eq_true rfl, Nat.le_of_ble_eq_true rfl⟩) hPq hDq hS hFc (fun r12 u12 H locs hw hP hD hS => ?_)
      obtain ⟨rfl, rfl⟩ := hw
      have hP : va_P D vwCl (cSP a_this ++ (cW dT (a_this 4) g_this_world ++ (cW dT (a_this 5) o9.2 ++ (cP dT (a_this 8) o10.2 ++ (cP dT (a_this 9) o11.2))))) H := hP.perm (wj_back [cP dT (a_this 8) o10.2, cP dT (a_this 9) o11.2] [cSP a_this, cW dT (a_this 4) g_this_world, cW dT (a_this 5) o9.2] [2, 3, 4, 0, 1] rfl)
      have hD : va_D A (cSP a_this ++ (cW dT (a_this 4) g_this_world ++ (cW dT (a_this 5) o9.2 ++ (cP dT (a_this 8) o10.2 ++ (cP dT (a_this 9) o11.2))))) := hD.perm (wj_back [cP dT (a_this 8) o10.2, cP dT (a_this 9) o11.2] [cSP a_this, cW dT (a_this 4) g_this_world, cW dT (a_this 5) o9.2] [2, 3, 4, 0, 1] rfl)
      refine lv_if_eq (tgt := 115) hx hb dX8_matters_108 (by decide) (fun c13 => ?_) (fun c13 => ?_)
      · replace h := iteT c13 h
        refine lv_iconst (v := 1) hx hb dX8_matters_115 (by decide) ?_
        refine W.widen (k := 4) (n := 24) (Nat.le_of_ble_eq_true rfl) (Nat.le_of_ble_eq_true rfl) ?_
        exact vx_ret (rt_i hx hb hr hlk hK hS ((o9.2, o10.2, o11.2) : TW × TP × TP) (Option.some.inj h).symm hP hD dX8_matters_116)
      · replace h := iteF c13 h
        refine lv_iconst (v := 0) hx hb dX8_matters_111 (by decide) ?_
        refine lv_goto (tgt := 116) hx hb dX8_matters_112 (by decide) ?_
        refine W.widen (k := 4) (n := 24) (Nat.le_of_ble_eq_true rfl) (Nat.le_of_ble_eq_true rfl) ?_
        exact vx_ret (rt_i hx hb hr hlk hK hS ((o9.2, o10.2, o11.2) : TW × TP × TP) (Option.some.inj h).symm hP hD dX8_matters_116)
    · replace h := iteT c7 h
      refine lv_iconst (v := 0) hx hb dX8_matters_49 (by decide) ?_
      refine W.widen (k := 4) (n := 24) (Nat.le_of_ble_eq_true rfl) (Nat.le_of_ble_eq_true rfl) ?_
      exact vx_ret (rt_i hx hb hr hlk hK hS ((g_this_copy, g_this_chosen, g_this_other) : TW × TP × TP) (Option.some.inj h).symm hP hD dX8_matters_50)
  · replace h := iteT c4 h
    exact th_S (k := 0) exOkI rfl (List.mem_of_getElem? (i := 4) rfl) hlt hx hb (hl.1.trans hml.symm) hlk hnt hqs hown hE hK hS ((g_this_copy, g_this_chosen, g_this_other) : TW × TP × TP) (xoP_of h) hP hD rfl rfl rfl rfl rfl rfl dX8_matters_20 dX8_matters_23 dX8_matters_24 dX8_matters_26 dX8_matters_29

def f_X8_worst (g_this_world : TW) : Option (Int32 × (Unit)) :=
  ((f_X7_mostWronglyBelieved g_this_world).bind fun o1 => (some (o1.1, ())))
set_option maxHeartbeats 8000000 in
set_option maxRecDepth 100000 in
theorem c_X8_worst (l : Launch) (hlt : l.stackTraces = false) (D : va_G) (dT : Nat → ClassId) (a_this : Nat → Nat → Nat) (g_this_world : TW) (o : (Int32 × (Unit))) (h : f_X8_worst g_this_world = some o) (sz : Nat) : Met l yX8_worst (WSm yX8_worst cX8_worst 1 (some .int)) { frames := 4, cells := 0, slots := 0, locals := 90 } (va_Pc [.ref (a_this 0 0)] (cPre D dT (cSP a_this ++ (cW dT (a_this 4) g_this_world)) sz)) (va_Qi (fun (r : Int32) (u : Unit) => r = o.1 ∧ u = o.2) (fun u t => cAt D dT (va_A (cSP a_this ++ (cW dT (a_this 4) g_this_world)) sz) (cSP a_this ++ (cW dT (a_this 4) g_this_world)) t) (va_A (cSP a_this ++ (cW dT (a_this 4) g_this_world)) sz)) 0 0 (va_A (cSP a_this ++ (cW dT (a_this 4) g_this_world)) sz) := by
  refine mStart (WS := (cSP a_this ++ (cW dT (a_this 4) g_this_world))) (Qc := fun A => va_Qi (fun (r : Int32) (u : Unit) => r = o.1 ∧ u = o.2) (fun u t => cAt D dT A (cSP a_this ++ (cW dT (a_this 4) g_this_world)) t) A) RX8 rfl (by decide) (Nat.le_of_ble_eq_true rfl) ?_ sz
  intro p e s m below meth c A ls hx hb hml hr hlk hnm hts hqs hown hE hA hK hP hD hS hl
  have hl : lv_has ls 1 [(0, .ref (a_this 0 0))] := hl
  unfold f_X8_worst at h
  refine lv_aload_n hx hb dX8_worst_0 rfl (lv_at hl 0 rfl) ?_
  refine gf_X8_33 (v := .ref ((a_this 4) 0)) hx hb hqs hown hK hP 0 rfl rfl dX8_worst_1 ?_
  obtain ⟨o1, e1, h⟩ := obind h
  have hPq : va_P D vwCl ((cW dT (a_this 4) g_this_world) ++ (cSP a_this)) _ := hP.perm (wj_split [cSP a_this, cW dT (a_this 4) g_this_world] [1] [0] rfl)
  have hDq : va_D A ((cW dT (a_this 4) g_this_world) ++ (cSP a_this)) := hD.perm (wj_split [cSP a_this, cW dT (a_this 4) g_this_world] [1] [0] rfl)
  have hPc := hPq.left
  have hDc := hDq.left
  have hFc := va_freeL hDq hS hA
  refine cl_iL (wr := (cSP a_this)) (va_runV (As := []) (rest := []) ⟨hx, hb, hml, hown, hts⟩ (c_X7_mostWronglyBelieved l hlt D dT (a_this 4) g_this_world o1 e1 _) (cwV 0 hts (TB_V w_1048 w_1049 w_1050 w_38 w_1051) rfl rfl rfl ⟨rfl, nd_X7_mostWronglyBelieved⟩ ⟨Nat.le_of_ble_eq_true rfl, Nat.le_of_ble_eq_true rfl⟩) (cPre.V hPc hDc hK hE hS hFc (va_recv hK hPc (ci := 6) (q0 := 0) rfl rfl)) rfl rfl hl.1 rfl (lv_room (Nat.le_of_ble_eq_true rfl)) dX8_worst_4 ⟨Nat.zero_le _, Nat.zero_le _⟩) hPq hDq hS hFc (fun r1 u1 H locs hw hP hD hS => ?_)
  obtain ⟨rfl, rfl⟩ := hw
  have hP : va_P D vwCl (cSP a_this ++ (cW dT (a_this 4) g_this_world)) H := hP.perm (wj_back [cW dT (a_this 4) g_this_world] [cSP a_this] [1, 0] rfl)
  have hD : va_D A (cSP a_this ++ (cW dT (a_this 4) g_this_world)) := hD.perm (wj_back [cW dT (a_this 4) g_this_world] [cSP a_this] [1, 0] rfl)
  exact rt_i hx hb hr hlk hK hS (() : Unit) (ret2 h) hP hD dX8_worst_7

def f_X8_learnsIn_L35 (g_this_world : TW) (g_this_other : TP) (x1 : Int32)  : Nat → Int32 → TW → TP → Option ((Nat ⊕ Int32) × (TW × TP × TP))
  | 0, _, _, _ => none
  | n + 1, x2, g_this_copy, g_this_chosen =>
    (if (30 : Int32) < x2 then (some ((Sum.inr (-1 : Int32)), (g_this_copy, g_this_chosen, g_this_other))) else ((f_X3_choose g_this_chosen g_this_copy x1 (1 : Int32)).bind fun o6 => ((f_X3_costAsPlannedBy g_this_other o6.2).bind fun o7 => ((f_X3_leastCost g_this_other).bind fun o8 => (if (lg_cmp o7.1 o8.1) = (0 : Int32) then (some ((Sum.inr x2), (g_this_copy, o6.2, g_this_other))) else ((f_X7_learn g_this_copy x1).bind fun o10 => (if o10.1 = (0 : Int32) then (some ((Sum.inr (-1 : Int32)), (o10.2, o6.2, g_this_other))) else (f_X8_learnsIn_L35 g_this_world g_this_other x1 n (x2 + (1 : Int32)) o10.2 o6.2))))))))
def f_X8_learnsIn (g_this_world : TW) (g_this_copy : TW) (g_this_chosen : TP) (g_this_other : TP) (v1 : Int32) : Option ((Nat ⊕ Int32) × (TW × TP × TP)) :=
  ((f_X8_needTables g_this_world v1).bind fun o1 => (fun u1 => o1.1.elim (fun k1 => (some (Sum.inl k1, (g_this_copy, g_this_chosen, g_this_other)))) (fun _ => ((f_X8_needSomeTable v1).bind fun o2 => (fun u2 => o2.1.elim (fun k2 => (some (Sum.inl k2, (g_this_copy, g_this_chosen, g_this_other)))) (fun _ => ((f_X7_takeFrom g_this_copy g_this_world).bind fun o3 => ((f_X3_choose g_this_other o3.2 v1 (2 : Int32)).bind fun o4 => (f_X8_learnsIn_L35 g_this_world o4.2 v1 FUEL (0 : Int32) o3.2 g_this_chosen))))) o2.2))) o1.2)
set_option maxHeartbeats 8000000 in
set_option maxRecDepth 100000 in
theorem c_X8_learnsIn (l : Launch) (hlt : l.stackTraces = false) (D : va_G) (dT : Nat → ClassId) (a_this : Nat → Nat → Nat) (g_this_world : TW) (g_this_copy : TW) (g_this_chosen : TP) (g_this_other : TP) (v1 : Int32) (o : ((Nat ⊕ Int32) × (TW × TP × TP))) (h : f_X8_learnsIn g_this_world g_this_copy g_this_chosen g_this_other v1 = some o) (sz : Nat) : vx_Met l yX8_learnsIn (WSm yX8_learnsIn cX8_learnsIn 3 (some .int)) { frames := 7, cells := 2, slots := 12, locals := 115 } (va_Pc [.ref (a_this 0 0), .int v1] (cPre D dT (cSP a_this ++ (cW dT (a_this 4) g_this_world ++ (cW dT (a_this 5) g_this_copy ++ (cP dT (a_this 8) g_this_chosen ++ (cP dT (a_this 9) g_this_other))))) sz)) (va_Qi (fun (r : Int32) (u : TW × TP × TP) => o = (Sum.inr r, u)) (fun u t => cAt D dT (va_A (cSP a_this ++ (cW dT (a_this 4) g_this_world ++ (cW dT (a_this 5) g_this_copy ++ (cP dT (a_this 8) g_this_chosen ++ (cP dT (a_this 9) g_this_other))))) sz) (cSP a_this ++ (cW dT (a_this 4) g_this_world ++ (cW dT (a_this 5) (u.1) ++ (cP dT (a_this 8) (u.2.1) ++ (cP dT (a_this 9) (u.2.2)))))) t) (va_A (cSP a_this ++ (cW dT (a_this 4) g_this_world ++ (cW dT (a_this 5) g_this_copy ++ (cP dT (a_this 8) g_this_chosen ++ (cP dT (a_this 9) g_this_other))))) sz)) (xEnd D dT (xoP o) (fun u => (cSP a_this ++ (cW dT (a_this 4) g_this_world ++ (cW dT (a_this 5) (u.1) ++ (cP dT (a_this 8) (u.2.1) ++ (cP dT (a_this 9) (u.2.2))))))) (va_A (cSP a_this ++ (cW dT (a_this 4) g_this_world ++ (cW dT (a_this 5) g_this_copy ++ (cP dT (a_this 8) g_this_chosen ++ (cP dT (a_this 9) g_this_other))))) sz)) 2 12 (va_A (cSP a_this ++ (cW dT (a_this 4) g_this_world ++ (cW dT (a_this 5) g_this_copy ++ (cP dT (a_this 8) g_this_chosen ++ (cP dT (a_this 9) g_this_other))))) sz) := by
  refine mStartX (WS := (cSP a_this ++ (cW dT (a_this 4) g_this_world ++ (cW dT (a_this 5) g_this_copy ++ (cP dT (a_this 8) g_this_chosen ++ (cP dT (a_this 9) g_this_other)))))) (Qc := fun A => va_Qi (fun (r : Int32) (u : TW × TP × TP) => o = (Sum.inr r, u)) (fun u t => cAt D dT A (cSP a_this ++ (cW dT (a_this 4) g_this_world ++ (cW dT (a_this 5) (u.1) ++ (cP dT (a_this 8) (u.2.1) ++ (cP dT (a_this 9) (u.2.2)))))) t) A) (XC := fun A => xEnd D dT (xoP o) (fun u => (cSP a_this ++ (cW dT (a_this 4) g_this_world ++ (cW dT (a_this 5) (u.1) ++ (cP dT (a_this 8) (u.2.1) ++ (cP dT (a_this 9) (u.2.2))))))) A) RX8 rfl (by decide) (Nat.le_of_ble_eq_true rfl) ?_ sz
  intro p e s m below meth c A ls hx hb hml hr hlk hnt hts hqs hown hE hA hK hP hD hS hl
  have hl : lv_has ls 3 [(0, .ref (a_this 0 0)), (1, .int v1)] := hl
  have L_f_X8_learnsIn_L35 : ∀ (g_this_world : TW) (g_this_other : TP) (x1 : Int32)   (n : Nat), ∀ (x2 : Int32) (g_this_copy : TW) (g_this_chosen : TP) (H : Heap) (locs : List Loc) (ls : Array Slot), f_X8_learnsIn_L35 g_this_world g_this_other x1  n x2 g_this_copy g_this_chosen = some o → va_P D vwCl (cSP a_this ++ (cW dT (a_this 4) g_this_world ++ (cW dT (a_this 5) g_this_copy ++ (cP dT (a_this 8) g_this_chosen ++ (cP dT (a_this 9) g_this_other))))) H → va_D A (cSP a_this ++ (cW dT (a_this 4) g_this_world ++ (cW dT (a_this 5) g_this_copy ++ (cP dT (a_this 8) g_this_chosen ++ (cP dT (a_this 9) g_this_other))))) → va_S A s.heap H locs → lv_has ls 3 [(0, .ref (a_this 0 0)), (1, .int x1), (2, .int x2)] → W p l e (headSpec (WSm yX8_learnsIn cX8_learnsIn 3 (some .int)) { frames := 7, cells := 2, slots := 12, locals := 115 }).room s m [.ref (a_this 0 0), .int v1].toArray below meth c H locs 2 12 (vx_MQ below (va_Qi (fun (r : Int32) (u : TW × TP × TP) => o = (Sum.inr r, u)) (fun u t => cAt D dT A (cSP a_this ++ (cW dT (a_this 4) g_this_world ++ (cW dT (a_this 5) (u.1) ++ (cP dT (a_this 8) (u.2.1) ++ (cP dT (a_this 9) (u.2.2)))))) t) A) (xEnd D dT (xoP o) (fun u => (cSP a_this ++ (cW dT (a_this 4) g_this_world ++ (cW dT (a_this 5) (u.1) ++ (cP dT (a_this 8) (u.2.1) ++ (cP dT (a_this 9) (u.2.2))))))) A) [.ref (a_this 0 0), .int v1].toArray s 2 12 A) (F0 m 35 ls []) := by
    intro g_this_world g_this_other x1   n
    induction n with
    | zero => intro x2 g_this_copy g_this_chosen H locs ls h; exact nomatch h
    | succ n ih =>
      intro x2 g_this_copy g_this_chosen H locs ls h hP hD hS hl
      unfold f_X8_learnsIn_L35 at h
      refine lv_iload_n hx hb dX8_learnsIn_35 rfl (lv_at hl 2 rfl) ?_
      refine lv_bipush (v := 30) hx hb dX8_learnsIn_36 (by decide) ?_
      refine lv_icmp_gt (tgt := 97) hx hb dX8_learnsIn_38 (by decide) (fun c5 => ?_) (fun c5 => ?_)
      · replace h := iteT c5 h
        refine lv_iconst (v := -1) hx hb dX8_learnsIn_97 (by decide) ?_
        exact vx_ret (rt_i hx hb hr hlk hK hS ((g_this_copy, g_this_chosen, g_this_other) : TW × TP × TP) (Option.some.inj h).symm hP hD dX8_learnsIn_98)
      · replace h := iteF c5 h
        refine lv_aload_n hx hb dX8_learnsIn_41 rfl (lv_at hl 0 rfl) ?_
        refine gf_X8_57 (v := .ref ((a_this 8) 0)) hx hb hqs hown hK hP 0 rfl rfl dX8_learnsIn_42 ?_
        refine lv_aload_n hx hb dX8_learnsIn_45 rfl (lv_at hl 0 rfl) ?_
        refine gf_X8_37 (v := .ref ((a_this 5) 0)) hx hb hqs hown hK hP 0 rfl rfl dX8_learnsIn_46 ?_
        refine lv_iload_n hx hb dX8_learnsIn_49 rfl (lv_at hl 1 rfl) ?_
        refine lv_iconst (v := 1) hx hb dX8_learnsIn_50 (by decide) ?_
        obtain ⟨o6, e6, h⟩ := obind h
        have hPq : va_P D vwCl ((cP dT (a_this 8) g_this_chosen ++ (cW dT (a_this 5) g_this_copy)) ++ (cSP a_this ++ (cW dT (a_this 4) g_this_world ++ (cP dT (a_this 9) g_this_other)))) _ := hP.perm (wj_split [cSP a_this, cW dT (a_this 4) g_this_world, cW dT (a_this 5) g_this_copy, cP dT (a_this 8) g_this_chosen, cP dT (a_this 9) g_this_other] [3, 2] [0, 1, 4] rfl)
        have hDq : va_D A ((cP dT (a_this 8) g_this_chosen ++ (cW dT (a_this 5) g_this_copy)) ++ (cSP a_this ++ (cW dT (a_this 4) g_this_world ++ (cP dT (a_this 9) g_this_other)))) := hD.perm (wj_split [cSP a_this, cW dT (a_this 4) g_this_world, cW dT (a_this 5) g_this_copy, cP dT (a_this 8) g_this_chosen, cP dT (a_this 9) g_this_other] [3, 2] [0, 1, 4] rfl)
        have hPc := hPq.left
        have hDc := hDq.left
        have hFc := va_freeL hDq hS hA
        refine cl_vL (wr := (cSP a_this ++ (cW dT (a_this 4) g_this_world ++ (cP dT (a_this 9) g_this_other)))) (va_runV (As := [.ref ((a_this 5) 0), .int x1, .int (1 : Int32)]) (rest := []) ⟨hx, hb, hml, hown, hts⟩ (c_X3_choose l hlt D dT (a_this 8) (a_this 5) g_this_chosen g_this_copy x1 (1 : Int32) o6 e6 _) (cwV 3 hts (TB_V w_387 w_388 w_389 w_41 w_390) rfl rfl rfl ⟨rfl, nd_X3_choose⟩ ⟨Nat.le_of_ble_eq_true rfl, Nat.le_of_ble_eq_true rfl⟩) (cPre.V hPc hDc hK hE hS hFc (va_recv hK hPc (ci := 3) (q0 := 0) rfl rfl)) rfl rfl hl.1 rfl (lv_room (Nat.le_of_ble_eq_true rfl)) dX8_learnsIn_51 ⟨Nat.le_of_ble_eq_true rfl, Nat.le_of_ble_eq_true rfl⟩) hPq hDq hS hFc (fun u6 H locs hw hP hD hS => ?_)
        subst hw
        have hP : va_P D vwCl (cSP a_this ++ (cW dT (a_this 4) g_this_world ++ (cW dT (a_this 5) g_this_copy ++ (cP dT (a_this 8) o6.2 ++ (cP dT (a_this 9) g_this_other))))) H := hP.perm (wj_back [cP dT (a_this 8) o6.2, cW dT (a_this 5) g_this_copy] [cSP a_this, cW dT (a_this 4) g_this_world, cP dT (a_this 9) g_this_other] [2, 3, 1, 0, 4] rfl)
        have hD : va_D A (cSP a_this ++ (cW dT (a_this 4) g_this_world ++ (cW dT (a_this 5) g_this_copy ++ (cP dT (a_this 8) o6.2 ++ (cP dT (a_this 9) g_this_other))))) := hD.perm (wj_back [cP dT (a_this 8) o6.2, cW dT (a_this 5) g_this_copy] [cSP a_this, cW dT (a_this 4) g_this_world, cP dT (a_this 9) g_this_other] [2, 3, 1, 0, 4] rfl)
        refine lv_aload_n hx hb dX8_learnsIn_54 rfl (lv_at hl 0 rfl) ?_
        refine gf_X8_61 (v := .ref ((a_this 9) 0)) hx hb hqs hown hK hP 0 rfl rfl dX8_learnsIn_55 ?_
        refine lv_aload_n hx hb dX8_learnsIn_58 rfl (lv_at hl 0 rfl) ?_
        refine gf_X8_57 (v := .ref ((a_this 8) 0)) hx hb hqs hown hK hP 0 rfl rfl dX8_learnsIn_59 ?_
        obtain ⟨o7, e7, h⟩ := obind h
        have hPq : va_P D vwCl ((cP dT (a_this 9) g_this_other ++ (cP dT (a_this 8) o6.2)) ++ (cSP a_this ++ (cW dT (a_this 4) g_this_world ++ (cW dT (a_this 5) g_this_copy)))) _ := hP.perm (wj_split [cSP a_this, cW dT (a_this 4) g_this_world, cW dT (a_this 5) g_this_copy, cP dT (a_this 8) o6.2, cP dT (a_this 9) g_this_other] [4, 3] [0, 1, 2] rfl)
        have hDq : va_D A ((cP dT (a_this 9) g_this_other ++ (cP dT (a_this 8) o6.2)) ++ (cSP a_this ++ (cW dT (a_this 4) g_this_world ++ (cW dT (a_this 5) g_this_copy)))) := hD.perm (wj_split [cSP a_this, cW dT (a_this 4) g_this_world, cW dT (a_this 5) g_this_copy, cP dT (a_this 8) o6.2, cP dT (a_this 9) g_this_other] [4, 3] [0, 1, 2] rfl)
        have hPc := hPq.left
        have hDc := hDq.left
        have hFc := va_freeL hDq hS hA
        refine cl_lL (wr := (cSP a_this ++ (cW dT (a_this 4) g_this_world ++ (cW dT (a_this 5) g_this_copy)))) (va_runV (As := [.ref ((a_this 8) 0)]) (rest := []) ⟨hx, hb, hml, hown, hts⟩ (c_X3_costAsPlannedBy l hlt D dT (a_this 9) (a_this 8) g_this_other o6.2 o7 e7 _) (cwV 1 hts (TB_V w_441 w_442 w_443 w_41 w_444) rfl rfl rfl ⟨rfl, nd_X3_costAsPlannedBy⟩ ⟨Nat.le_of_ble_eq_true rfl, Nat.le_of_ble_eq_true rfl⟩) (cPre.V hPc hDc hK hE hS hFc (va_recv hK hPc (ci := 3) (q0 := 0) rfl rfl)) rfl rfl hl.1 rfl (lv_room (Nat.le_of_ble_eq_true rfl)) dX8_learnsIn_62 ⟨Nat.le_of_ble_eq_true rfl, Nat.le_of_ble_eq_true rfl⟩) hPq hDq hS hFc (fun r7 u7 H locs hw hP hD hS => ?_)
        obtain ⟨rfl, rfl⟩ := hw
        have hP : va_P D vwCl (cSP a_this ++ (cW dT (a_this 4) g_this_world ++ (cW dT (a_this 5) g_this_copy ++ (cP dT (a_this 8) o6.2 ++ (cP dT (a_this 9) g_this_other))))) H := hP.perm (wj_back [cP dT (a_this 9) g_this_other, cP dT (a_this 8) o6.2] [cSP a_this, cW dT (a_this 4) g_this_world, cW dT (a_this 5) g_this_copy] [2, 3, 4, 1, 0] rfl)
        have hD : va_D A (cSP a_this ++ (cW dT (a_this 4) g_this_world ++ (cW dT (a_this 5) g_this_copy ++ (cP dT (a_this 8) o6.2 ++ (cP dT (a_this 9) g_this_other))))) := hD.perm (wj_back [cP dT (a_this 9) g_this_other, cP dT (a_this 8) o6.2] [cSP a_this, cW dT (a_this 4) g_this_world, cW dT (a_this 5) g_this_copy] [2, 3, 4, 1, 0] rfl)
        refine lv_aload_n hx hb dX8_learnsIn_65 rfl (lv_at hl 0 rfl) ?_
        refine gf_X8_61 (v := .ref ((a_this 9) 0)) hx hb hqs hown hK hP 0 rfl rfl dX8_learnsIn_66 ?_
        obtain ⟨o8, e8, h⟩ := obind h
        have hPq : va_P D vwCl ((cP dT (a_this 9) g_this_other) ++ (cSP a_this ++ (cW dT (a_this 4) g_this_world ++ (cW dT (a_this 5) g_this_copy ++ (cP dT (a_this 8) o6.2))))) _ := hP.perm (wj_split [cSP a_this, cW dT (a_this 4) g_this_world, cW dT (a_this 5) g_this_copy, cP dT (a_this 8) o6.2, cP dT (a_this 9) g_this_other] [4] [0, 1, 2, 3] rfl)
        have hDq : va_D A ((cP dT (a_this 9) g_this_other) ++ (cSP a_this ++ (cW dT (a_this 4) g_this_world ++ (cW dT (a_this 5) g_this_copy ++ (cP dT (a_this 8) o6.2))))) := hD.perm (wj_split [cSP a_this, cW dT (a_this 4) g_this_world, cW dT (a_this 5) g_this_copy, cP dT (a_this 8) o6.2, cP dT (a_this 9) g_this_other] [4] [0, 1, 2, 3] rfl)
        have hPc := hPq.left
        have hDc := hDq.left
        have hFc := va_freeL hDq hS hA
        refine cl_lL (wr := (cSP a_this ++ (cW dT (a_this 4) g_this_world ++ (cW dT (a_this 5) g_this_copy ++ (cP dT (a_this 8) o6.2))))) (va_runV (As := []) (rest := [.long o7.1]) ⟨hx, hb, hml, hown, hts⟩ (c_X3_leastCost l hlt D dT (a_this 9) g_this_other o8 e8 _) (cwV 0 hts (TB_V w_453 w_454 w_455 w_41 w_456) rfl rfl rfl ⟨rfl, nd_X3_leastCost⟩ ⟨Nat.le_of_ble_eq_true rfl, Nat.le_of_ble_eq_true rfl⟩) (cPre.V hPc hDc hK hE hS hFc (va_recv hK hPc (ci := 3) (q0 := 0) rfl rfl)) rfl rfl hl.1 rfl (lv_room (Nat.le_of_ble_eq_true rfl)) dX8_learnsIn_69 ⟨Nat.le_of_ble_eq_true rfl, Nat.le_of_ble_eq_true rfl⟩) hPq hDq hS hFc (fun r8 u8 H locs hw hP hD hS => ?_)
        obtain ⟨rfl, rfl⟩ := hw
        have hP : va_P D vwCl (cSP a_this ++ (cW dT (a_this 4) g_this_world ++ (cW dT (a_this 5) g_this_copy ++ (cP dT (a_this 8) o6.2 ++ (cP dT (a_this 9) g_this_other))))) H := hP.perm (wj_back [cP dT (a_this 9) g_this_other] [cSP a_this, cW dT (a_this 4) g_this_world, cW dT (a_this 5) g_this_copy, cP dT (a_this 8) o6.2] [1, 2, 3, 4, 0] rfl)
        have hD : va_D A (cSP a_this ++ (cW dT (a_this 4) g_this_world ++ (cW dT (a_this 5) g_this_copy ++ (cP dT (a_this 8) o6.2 ++ (cP dT (a_this 9) g_this_other))))) := hD.perm (wj_back [cP dT (a_this 9) g_this_other] [cSP a_this, cW dT (a_this 4) g_this_world, cW dT (a_this 5) g_this_copy, cP dT (a_this 8) o6.2] [1, 2, 3, 4, 0] rfl)
        refine W.lcmp hx hb dX8_learnsIn_72 ?_
        refine lv_if_ne (tgt := 78) hx hb dX8_learnsIn_73 (by decide) (fun c9 => ?_) (fun c9 => ?_)
        · replace h := iteF c9 h
          refine lv_aload_n hx hb dX8_learnsIn_78 rfl (lv_at hl 0 rfl) ?_
          refine gf_X8_37 (v := .ref ((a_this 5) 0)) hx hb hqs hown hK hP 0 rfl rfl dX8_learnsIn_79 ?_
          refine lv_iload_n hx hb dX8_learnsIn_82 rfl (lv_at hl 1 rfl) ?_
          obtain ⟨o10, e10, h⟩ := obind h
          have hPq : va_P D vwCl ((cW dT (a_this 5) g_this_copy) ++ (cSP a_this ++ (cW dT (a_this 4) g_this_world ++ (cP dT (a_this 8) o6.2 ++ (cP dT (a_this 9) g_this_other))))) _ := hP.perm (wj_split [cSP a_this, cW dT (a_this 4) g_this_world, cW dT (a_this 5) g_this_copy, cP dT (a_this 8) o6.2, cP dT (a_this 9) g_this_other] [2] [0, 1, 3, 4] rfl)
          have hDq : va_D A ((cW dT (a_this 5) g_this_copy) ++ (cSP a_this ++ (cW dT (a_this 4) g_this_world ++ (cP dT (a_this 8) o6.2 ++ (cP dT (a_this 9) g_this_other))))) := hD.perm (wj_split [cSP a_this, cW dT (a_this 4) g_this_world, cW dT (a_this 5) g_this_copy, cP dT (a_this 8) o6.2, cP dT (a_this 9) g_this_other] [2] [0, 1, 3, 4] rfl)
          have hPc := hPq.left
          have hDc := hDq.left
          have hFc := va_freeL hDq hS hA
          refine cl_iL (wr := (cSP a_this ++ (cW dT (a_this 4) g_this_world ++ (cP dT (a_this 8) o6.2 ++ (cP dT (a_this 9) g_this_other))))) (va_runV (As := [.int x1]) (rest := []) ⟨hx, hb, hml, hown, hts⟩ (c_X7_learn l hlt D dT (a_this 5) g_this_copy x1 o10 e10 _) (cwV 1 hts (TB_V w_461 w_462 w_463 w_38 w_464) rfl rfl rfl ⟨rfl, nd_X7_learn⟩ ⟨Nat.le_of_ble_eq_true rfl, Nat.le_of_ble_eq_true rfl⟩) (cPre.V hPc hDc hK hE hS hFc (va_recv hK hPc (ci := 6) (q0 := 0) rfl rfl)) rfl rfl hl.1 rfl (lv_room (Nat.le_of_ble_eq_true rfl)) dX8_learnsIn_83 ⟨Nat.le_of_ble_eq_true rfl, Nat.le_of_ble_eq_true rfl⟩) hPq hDq hS hFc (fun r10 u10 H locs hw hP hD hS => ?_)
          obtain ⟨rfl, rfl⟩ := hw
          have hP : va_P D vwCl (cSP a_this ++ (cW dT (a_this 4) g_this_world ++ (cW dT (a_this 5) o10.2 ++ (cP dT (a_this 8) o6.2 ++ (cP dT (a_this 9) g_this_other))))) H := hP.perm (wj_back [cW dT (a_this 5) o10.2] [cSP a_this, cW dT (a_this 4) g_this_world, cP dT (a_this 8) o6.2, cP dT (a_this 9) g_this_other] [1, 2, 0, 3, 4] rfl)
          have hD : va_D A (cSP a_this ++ (cW dT (a_this 4) g_this_world ++ (cW dT (a_this 5) o10.2 ++ (cP dT (a_this 8) o6.2 ++ (cP dT (a_this 9) g_this_other))))) := hD.perm (wj_back [cW dT (a_this 5) o10.2] [cSP a_this, cW dT (a_this 4) g_this_world, cP dT (a_this 8) o6.2, cP dT (a_this 9) g_this_other] [1, 2, 0, 3, 4] rfl)
          refine lv_if_ne (tgt := 91) hx hb dX8_learnsIn_86 (by decide) (fun c11 => ?_) (fun c11 => ?_)
          · replace h := iteF c11 h
            refine lv_iinc (v := (x2 + (1 : Int32))) (lv' := [(2, .int (x2 + (1 : Int32))), (0, .ref (a_this 0 0)), (1, .int x1)]) hx hb dX8_learnsIn_91 hl (k := 2) rfl rfl (by decide) rfl (fun ls hl => ?_)
            refine lv_goto (tgt := 35) hx hb dX8_learnsIn_94 (by decide) ?_
            exact ih (x2 + (1 : Int32)) o10.2 o6.2 _ _ _ h hP hD hS (lv_sub hl [1, 2, 0] rfl)
          · replace h := iteT c11 h
            refine lv_iconst (v := -1) hx hb dX8_learnsIn_89 (by decide) ?_
            exact vx_ret (rt_i hx hb hr hlk hK hS ((o10.2, o6.2, g_this_other) : TW × TP × TP) (Option.some.inj h).symm hP hD dX8_learnsIn_90)
        · replace h := iteT c9 h
          refine lv_iload_n hx hb dX8_learnsIn_76 rfl (lv_at hl 2 rfl) ?_
          exact vx_ret (rt_i hx hb hr hlk hK hS ((g_this_copy, o6.2, g_this_other) : TW × TP × TP) (Option.some.inj h).symm hP hD dX8_learnsIn_77)
  unfold f_X8_learnsIn at h
  refine lv_aload_n hx hb dX8_learnsIn_0 rfl (lv_at hl 0 rfl) ?_
  refine lv_iload_n hx hb dX8_learnsIn_1 rfl (lv_at hl 1 rfl) ?_
  obtain ⟨o1, e1, h⟩ := obind h
  have hPq : va_P D vwCl ((cSP a_this ++ (cW dT (a_this 4) g_this_world)) ++ (cW dT (a_this 5) g_this_copy ++ (cP dT (a_this 8) g_this_chosen ++ (cP dT (a_this 9) g_this_other)))) _ := hP.perm (wj_split [cSP a_this, cW dT (a_this 4) g_this_world, cW dT (a_this 5) g_this_copy, cP dT (a_this 8) g_this_chosen, cP dT (a_this 9) g_this_other] [0, 1] [2, 3, 4] rfl)
  have hDq : va_D A ((cSP a_this ++ (cW dT (a_this 4) g_this_world)) ++ (cW dT (a_this 5) g_this_copy ++ (cP dT (a_this 8) g_this_chosen ++ (cP dT (a_this 9) g_this_other)))) := hD.perm (wj_split [cSP a_this, cW dT (a_this 4) g_this_world, cW dT (a_this 5) g_this_copy, cP dT (a_this 8) g_this_chosen, cP dT (a_this 9) g_this_other] [0, 1] [2, 3, 4] rfl)
  have hPc := hPq.left
  have hDc := hDq.left
  have hFc := va_freeL hDq hS hA
  refine xcl_vL (wr := (cW dT (a_this 5) g_this_copy ++ (cP dT (a_this 8) g_this_chosen ++ (cP dT (a_this 9) g_this_other)))) (vx_runV (As := [.int v1]) (rest := []) ⟨hx, hb, hml, hown, hts⟩ (c_X8_needTables l hlt D dT a_this g_this_world v1 o1 e1 _) (cwV 1 hts (TB_V w_862 w_864 w_31 w_33 w_865) rfl rfl rfl ⟨rfl, nd_X8_needTables⟩ ⟨Nat.le_of_ble_eq_true rfl, Nat.le_of_ble_eq_true rfl⟩) (cPre.V hPc hDc hK hE hS hFc (va_recv hK hPc (ci := 7) (q0 := 0) rfl rfl)) rfl rfl hl.1 rfl (lv_room (Nat.le_of_ble_eq_true rfl)) dX8_learnsIn_2 ⟨Nat.le_of_ble_eq_true rfl, Nat.le_of_ble_eq_true rfl⟩) hPq hDq hS hFc (fun k1 u1 E1 ce1 q1 H locs hw hEk hP hD hS hxc hxv hxl => ?_) (fun u1 H locs hw hP hD hS => ?_)
  · have hw := xoP_inv hw
    subst hw
    have hP : va_P D vwCl (cSP a_this ++ (cW dT (a_this 4) g_this_world ++ (cW dT (a_this 5) g_this_copy ++ (cP dT (a_this 8) g_this_chosen ++ (cP dT (a_this 9) g_this_other))))) H := hP.perm (wj_back [cSP a_this, cW dT (a_this 4) g_this_world] [cW dT (a_this 5) g_this_copy, cP dT (a_this 8) g_this_chosen, cP dT (a_this 9) g_this_other] [0, 1, 2, 3, 4] rfl)
    have hD : va_D A (cSP a_this ++ (cW dT (a_this 4) g_this_world ++ (cW dT (a_this 5) g_this_copy ++ (cP dT (a_this 8) g_this_chosen ++ (cP dT (a_this 9) g_this_other))))) := hD.perm (wj_back [cSP a_this, cW dT (a_this 4) g_this_world] [cW dT (a_this 5) g_this_copy, cP dT (a_this 8) g_this_chosen, cP dT (a_this 9) g_this_other] [0, 1, 2, 3, 4] rfl)
    exact xo_S hlk hnt hK hS hEk hxc hxv hxl ((g_this_copy, g_this_chosen, g_this_other) : TW × TP × TP) (xoP_of h) hP hD rfl rfl
  subst hw
  replace h := sumR h
  have hP : va_P D vwCl (cSP a_this ++ (cW dT (a_this 4) g_this_world ++ (cW dT (a_this 5) g_this_copy ++ (cP dT (a_this 8) g_this_chosen ++ (cP dT (a_this 9) g_this_other))))) H := hP.perm (wj_back [cSP a_this, cW dT (a_this 4) g_this_world] [cW dT (a_this 5) g_this_copy, cP dT (a_this 8) g_this_chosen, cP dT (a_this 9) g_this_other] [0, 1, 2, 3, 4] rfl)
  have hD : va_D A (cSP a_this ++ (cW dT (a_this 4) g_this_world ++ (cW dT (a_this 5) g_this_copy ++ (cP dT (a_this 8) g_this_chosen ++ (cP dT (a_this 9) g_this_other))))) := hD.perm (wj_back [cSP a_this, cW dT (a_this 4) g_this_world] [cW dT (a_this 5) g_this_copy, cP dT (a_this 8) g_this_chosen, cP dT (a_this 9) g_this_other] [0, 1, 2, 3, 4] rfl)
  refine lv_iload_n hx hb dX8_learnsIn_5 rfl (lv_at hl 1 rfl) ?_
  obtain ⟨o2, e2, h⟩ := obind h
  have hPq : va_P D vwCl (([] : va_W) ++ (cSP a_this ++ (cW dT (a_this 4) g_this_world ++ (cW dT (a_this 5) g_this_copy ++ (cP dT (a_this 8) g_this_chosen ++ (cP dT (a_this 9) g_this_other)))))) _ := hP.perm (wj_split [cSP a_this, cW dT (a_this 4) g_this_world, cW dT (a_this 5) g_this_copy, cP dT (a_this 8) g_this_chosen, cP dT (a_this 9) g_this_other] [] [0, 1, 2, 3, 4] rfl)
  have hDq : va_D A (([] : va_W) ++ (cSP a_this ++ (cW dT (a_this 4) g_this_world ++ (cW dT (a_this 5) g_this_copy ++ (cP dT (a_this 8) g_this_chosen ++ (cP dT (a_this 9) g_this_other)))))) := hD.perm (wj_split [cSP a_this, cW dT (a_this 4) g_this_world, cW dT (a_this 5) g_this_copy, cP dT (a_this 8) g_this_chosen, cP dT (a_this 9) g_this_other] [] [0, 1, 2, 3, 4] rfl)
  have hPc := hPq.left
  have hDc := hDq.left
  have hFc := va_freeL hDq hS hA
  refine xcl_vL (wr := (cSP a_this ++ (cW dT (a_this 4) g_this_world ++ (cW dT (a_this 5) g_this_copy ++ (cP dT (a_this 8) g_this_chosen ++ (cP dT (a_this 9) g_this_other)))))) (vx_runS (As := [.int v1]) (rest := []) ⟨hx, hb, hml, hown, hts⟩ (c_X8_needSomeTable l hlt D dT v1 o2 e2 _) (va_cwS 1 hts (TB_S w_867 w_868 w_33 w_869) rfl rfl rfl nd_X8_needSomeTable ⟨Nat.le_of_ble_eq_true rfl, Nat.le_of_ble_eq_true rfl⟩) (cPre.S hPc hDc hK hE hS hFc) rfl rfl hl.1 rfl (lv_room (Nat.le_of_ble_eq_true rfl)) dX8_learnsIn_6 ⟨Nat.le_of_ble_eq_true rfl, Nat.le_of_ble_eq_true rfl⟩) hPq hDq hS hFc (fun k2 u2 E2 ce2 q2 H locs hw hEk hP hD hS hxc hxv hxl => ?_) (fun u2 H locs hw hP hD hS => ?_)
  · have hw := xoP_inv hw
    subst hw
    have hP : va_P D vwCl (cSP a_this ++ (cW dT (a_this 4) g_this_world ++ (cW dT (a_this 5) g_this_copy ++ (cP dT (a_this 8) g_this_chosen ++ (cP dT (a_this 9) g_this_other))))) H := hP.perm (wj_back [] [cSP a_this, cW dT (a_this 4) g_this_world, cW dT (a_this 5) g_this_copy, cP dT (a_this 8) g_this_chosen, cP dT (a_this 9) g_this_other] [0, 1, 2, 3, 4] rfl)
    have hD : va_D A (cSP a_this ++ (cW dT (a_this 4) g_this_world ++ (cW dT (a_this 5) g_this_copy ++ (cP dT (a_this 8) g_this_chosen ++ (cP dT (a_this 9) g_this_other))))) := hD.perm (wj_back [] [cSP a_this, cW dT (a_this 4) g_this_world, cW dT (a_this 5) g_this_copy, cP dT (a_this 8) g_this_chosen, cP dT (a_this 9) g_this_other] [0, 1, 2, 3, 4] rfl)
    exact xo_S hlk hnt hK hS hEk hxc hxv hxl ((g_this_copy, g_this_chosen, g_this_other) : TW × TP × TP) (xoP_of h) hP hD rfl rfl
  subst hw
  replace h := sumR h
  have hP : va_P D vwCl (cSP a_this ++ (cW dT (a_this 4) g_this_world ++ (cW dT (a_this 5) g_this_copy ++ (cP dT (a_this 8) g_this_chosen ++ (cP dT (a_this 9) g_this_other))))) H := hP.perm (wj_back [] [cSP a_this, cW dT (a_this 4) g_this_world, cW dT (a_this 5) g_this_copy, cP dT (a_this 8) g_this_chosen, cP dT (a_this 9) g_this_other] [0, 1, 2, 3, 4] rfl)
  have hD : va_D A (cSP a_this ++ (cW dT (a_this 4) g_this_world ++ (cW dT (a_this 5) g_this_copy ++ (cP dT (a_this 8) g_this_chosen ++ (cP dT (a_this 9) g_this_other))))) := hD.perm (wj_back [] [cSP a_this, cW dT (a_this 4) g_this_world, cW dT (a_this 5) g_this_copy, cP dT (a_this 8) g_this_chosen, cP dT (a_this 9) g_this_other] [0, 1, 2, 3, 4] rfl)
  refine lv_aload_n hx hb dX8_learnsIn_9 rfl (lv_at hl 0 rfl) ?_
  refine gf_X8_37 (v := .ref ((a_this 5) 0)) hx hb hqs hown hK hP 0 rfl rfl dX8_learnsIn_10 ?_
  refine lv_aload_n hx hb dX8_learnsIn_13 rfl (lv_at hl 0 rfl) ?_
  refine gf_X8_33 (v := .ref ((a_this 4) 0)) hx hb hqs hown hK hP 0 rfl rfl dX8_learnsIn_14 ?_
  obtain ⟨o3, e3, h⟩ := obind h
  have hPq : va_P D vwCl ((cW dT (a_this 5) g_this_copy ++ (cW dT (a_this 4) g_this_world)) ++ (cSP a_this ++ (cP dT (a_this 8) g_this_chosen ++ (cP dT (a_this 9) g_this_other)))) _ := hP.perm (wj_split [cSP a_this, cW dT (a_this 4) g_this_world, cW dT (a_this 5) g_this_copy, cP dT (a_this 8) g_this_chosen, cP dT (a_this 9) g_this_other] [2, 1] [0, 3, 4] rfl)
  have hDq : va_D A ((cW dT (a_this 5) g_this_copy ++ (cW dT (a_this 4) g_this_world)) ++ (cSP a_this ++ (cP dT (a_this 8) g_this_chosen ++ (cP dT (a_this 9) g_this_other)))) := hD.perm (wj_split [cSP a_this, cW dT (a_this 4) g_this_world, cW dT (a_this 5) g_this_copy, cP dT (a_this 8) g_this_chosen, cP dT (a_this 9) g_this_other] [2, 1] [0, 3, 4] rfl)
  have hPc := hPq.left
  have hDc := hDq.left
  have hFc := va_freeL hDq hS hA
  refine cl_vL (wr := (cSP a_this ++ (cP dT (a_this 8) g_this_chosen ++ (cP dT (a_this 9) g_this_other)))) (va_runV (As := [.ref ((a_this 4) 0)]) (rest := []) ⟨hx, hb, hml, hown, hts⟩ (c_X7_takeFrom l hlt D dT (a_this 5) (a_this 4) g_this_copy g_this_world o3 e3 _) (cwV 1 hts (TB_V w_363 w_364 w_365 w_38 w_366) rfl rfl rfl ⟨rfl, nd_X7_takeFrom⟩ ⟨Nat.le_of_ble_eq_true rfl, Nat.le_of_ble_eq_true rfl⟩) (cPre.V hPc hDc hK hE hS hFc (va_recv hK hPc (ci := 6) (q0 := 0) rfl rfl)) rfl rfl hl.1 rfl (lv_room (Nat.le_of_ble_eq_true rfl)) dX8_learnsIn_17 ⟨Nat.le_of_ble_eq_true rfl, Nat.le_of_ble_eq_true rfl⟩) hPq hDq hS hFc (fun u3 H locs hw hP hD hS => ?_)
  subst hw
  have hP : va_P D vwCl (cSP a_this ++ (cW dT (a_this 4) g_this_world ++ (cW dT (a_this 5) o3.2 ++ (cP dT (a_this 8) g_this_chosen ++ (cP dT (a_this 9) g_this_other))))) H := hP.perm (wj_back [cW dT (a_this 5) o3.2, cW dT (a_this 4) g_this_world] [cSP a_this, cP dT (a_this 8) g_this_chosen, cP dT (a_this 9) g_this_other] [2, 1, 0, 3, 4] rfl)
  have hD : va_D A (cSP a_this ++ (cW dT (a_this 4) g_this_world ++ (cW dT (a_this 5) o3.2 ++ (cP dT (a_this 8) g_this_chosen ++ (cP dT (a_this 9) g_this_other))))) := hD.perm (wj_back [cW dT (a_this 5) o3.2, cW dT (a_this 4) g_this_world] [cSP a_this, cP dT (a_this 8) g_this_chosen, cP dT (a_this 9) g_this_other] [2, 1, 0, 3, 4] rfl)
  refine lv_aload_n hx hb dX8_learnsIn_20 rfl (lv_at hl 0 rfl) ?_
  refine gf_X8_61 (v := .ref ((a_this 9) 0)) hx hb hqs hown hK hP 0 rfl rfl dX8_learnsIn_21 ?_
  refine lv_aload_n hx hb dX8_learnsIn_24 rfl (lv_at hl 0 rfl) ?_
  refine gf_X8_37 (v := .ref ((a_this 5) 0)) hx hb hqs hown hK hP 0 rfl rfl dX8_learnsIn_25 ?_
  refine lv_iload_n hx hb dX8_learnsIn_28 rfl (lv_at hl 1 rfl) ?_
  refine lv_iconst (v := 2) hx hb dX8_learnsIn_29 (by decide) ?_
  obtain ⟨o4, e4, h⟩ := obind h
  have hPq : va_P D vwCl ((cP dT (a_this 9) g_this_other ++ (cW dT (a_this 5) o3.2)) ++ (cSP a_this ++ (cW dT (a_this 4) g_this_world ++ (cP dT (a_this 8) g_this_chosen)))) _ := hP.perm (wj_split [cSP a_this, cW dT (a_this 4) g_this_world, cW dT (a_this 5) o3.2, cP dT (a_this 8) g_this_chosen, cP dT (a_this 9) g_this_other] [4, 2] [0, 1, 3] rfl)
  have hDq : va_D A ((cP dT (a_this 9) g_this_other ++ (cW dT (a_this 5) o3.2)) ++ (cSP a_this ++ (cW dT (a_this 4) g_this_world ++ (cP dT (a_this 8) g_this_chosen)))) := hD.perm (wj_split [cSP a_this, cW dT (a_this 4) g_this_world, cW dT (a_this 5) o3.2, cP dT (a_this 8) g_this_chosen, cP dT (a_this 9) g_this_other] [4, 2] [0, 1, 3] rfl)
  have hPc := hPq.left
  have hDc := hDq.left
  have hFc := va_freeL hDq hS hA
  refine cl_vL (wr := (cSP a_this ++ (cW dT (a_this 4) g_this_world ++ (cP dT (a_this 8) g_this_chosen)))) (va_runV (As := [.ref ((a_this 5) 0), .int v1, .int (2 : Int32)]) (rest := []) ⟨hx, hb, hml, hown, hts⟩ (c_X3_choose l hlt D dT (a_this 9) (a_this 5) g_this_other o3.2 v1 (2 : Int32) o4 e4 _) (cwV 3 hts (TB_V w_387 w_388 w_389 w_41 w_390) rfl rfl rfl ⟨rfl, nd_X3_choose⟩ ⟨Nat.le_of_ble_eq_true rfl, Nat.le_of_ble_eq_true rfl⟩) (cPre.V hPc hDc hK hE hS hFc (va_recv hK hPc (ci := 3) (q0 := 0) rfl rfl)) rfl rfl hl.1 rfl (lv_room (Nat.le_of_ble_eq_true rfl)) dX8_learnsIn_30 ⟨Nat.le_of_ble_eq_true rfl, Nat.le_of_ble_eq_true rfl⟩) hPq hDq hS hFc (fun u4 H locs hw hP hD hS => ?_)
  subst hw
  have hP : va_P D vwCl (cSP a_this ++ (cW dT (a_this 4) g_this_world ++ (cW dT (a_this 5) o3.2 ++ (cP dT (a_this 8) g_this_chosen ++ (cP dT (a_this 9) o4.2))))) H := hP.perm (wj_back [cP dT (a_this 9) o4.2, cW dT (a_this 5) o3.2] [cSP a_this, cW dT (a_this 4) g_this_world, cP dT (a_this 8) g_this_chosen] [2, 3, 1, 4, 0] rfl)
  have hD : va_D A (cSP a_this ++ (cW dT (a_this 4) g_this_world ++ (cW dT (a_this 5) o3.2 ++ (cP dT (a_this 8) g_this_chosen ++ (cP dT (a_this 9) o4.2))))) := hD.perm (wj_back [cP dT (a_this 9) o4.2, cW dT (a_this 5) o3.2] [cSP a_this, cW dT (a_this 4) g_this_world, cP dT (a_this 8) g_this_chosen] [2, 3, 1, 4, 0] rfl)
  refine lv_iconst (v := 0) hx hb dX8_learnsIn_33 (by decide) ?_
  refine lv_istore_n (lv' := [(2, .int (0 : Int32)), (0, .ref (a_this 0 0)), (1, .int v1)]) hx hb dX8_learnsIn_34 rfl hl (by decide) rfl (fun ls hl => ?_)
  refine L_f_X8_learnsIn_L35 g_this_world o4.2 v1   FUEL (0 : Int32) o3.2 g_this_chosen _ _ _ h hP hD hS (lv_sub hl [1, 2, 0] rfl)

def f_X8_scriptDrifts (g_this_copy : TW) (v1 : Int32) (v2 : Int32) (v3 : Int32) : Option (Int32 × (TW)) :=
  ((f_X7_hasTwoTables g_this_copy v1 v2).bind fun o1 => (if o1.1 = (0 : Int32) then (some ((0 : Int32), g_this_copy)) else ((f_X8_isIn v3 (1 : Int32) (1000 : Int32)).bind fun o3 => (if o3.1 = (0 : Int32) then (some ((0 : Int32), g_this_copy)) else ((f_X8_pairIndex v1 v2).bind fun o5 => ((f_X7_isLinked g_this_copy o5.1).bind fun o6 => (if o6.1 = (0 : Int32) then (some ((0 : Int32), g_this_copy)) else ((f_X8_pairIndex v1 v2).bind fun o8 => ((f_X7_changeShare g_this_copy o8.1 v3).bind fun o9 => (some ((1 : Int32), o9.2)))))))))))
set_option maxHeartbeats 8000000 in
set_option maxRecDepth 100000 in
theorem c_X8_scriptDrifts (l : Launch) (hlt : l.stackTraces = false) (D : va_G) (dT : Nat → ClassId) (a_this : Nat → Nat → Nat) (g_this_copy : TW) (v1 : Int32) (v2 : Int32) (v3 : Int32) (o : (Int32 × (TW))) (h : f_X8_scriptDrifts g_this_copy v1 v2 v3 = some o) (sz : Nat) : Met l yX8_scriptDrifts (WSm yX8_scriptDrifts cX8_scriptDrifts 4 (some .boolean)) { frames := 3, cells := 0, slots := 0, locals := 67 } (va_Pc [.ref (a_this 0 0), .int v1, .int v2, .int v3] (cPre D dT (cSP a_this ++ (cW dT (a_this 5) g_this_copy)) sz)) (va_Qi (fun (r : Int32) (u : TW) => r = o.1 ∧ u = o.2) (fun u t => cAt D dT (va_A (cSP a_this ++ (cW dT (a_this 5) g_this_copy)) sz) (cSP a_this ++ (cW dT (a_this 5) u)) t) (va_A (cSP a_this ++ (cW dT (a_this 5) g_this_copy)) sz)) 0 0 (va_A (cSP a_this ++ (cW dT (a_this 5) g_this_copy)) sz) := by
  refine mStart (WS := (cSP a_this ++ (cW dT (a_this 5) g_this_copy))) (Qc := fun A => va_Qi (fun (r : Int32) (u : TW) => r = o.1 ∧ u = o.2) (fun u t => cAt D dT A (cSP a_this ++ (cW dT (a_this 5) u)) t) A) RX8 rfl (by decide) (Nat.le_of_ble_eq_true rfl) ?_ sz
  intro p e s m below meth c A ls hx hb hml hr hlk hnm hts hqs hown hE hA hK hP hD hS hl
  have hl : lv_has ls 4 [(0, .ref (a_this 0 0)), (1, .int v1), (2, .int v2), (3, .int v3)] := hl
  unfold f_X8_scriptDrifts at h
  refine lv_aload_n hx hb dX8_scriptDrifts_0 rfl (lv_at hl 0 rfl) ?_
  refine gf_X8_37 (v := .ref ((a_this 5) 0)) hx hb hqs hown hK hP 0 rfl rfl dX8_scriptDrifts_1 ?_
  refine lv_iload_n hx hb dX8_scriptDrifts_4 rfl (lv_at hl 1 rfl) ?_
  refine lv_iload_n hx hb dX8_scriptDrifts_5 rfl (lv_at hl 2 rfl) ?_
  obtain ⟨o1, e1, h⟩ := obind h
  have hPq : va_P D vwCl ((cW dT (a_this 5) g_this_copy) ++ (cSP a_this)) _ := hP.perm (wj_split [cSP a_this, cW dT (a_this 5) g_this_copy] [1] [0] rfl)
  have hDq : va_D A ((cW dT (a_this 5) g_this_copy) ++ (cSP a_this)) := hD.perm (wj_split [cSP a_this, cW dT (a_this 5) g_this_copy] [1] [0] rfl)
  have hPc := hPq.left
  have hDc := hDq.left
  have hFc := va_freeL hDq hS hA
  refine cl_iL (wr := (cSP a_this)) (va_runV (As := [.int v1, .int v2]) (rest := []) ⟨hx, hb, hml, hown, hts⟩ (c_X7_hasTwoTables l hlt D dT (a_this 5) g_this_copy v1 v2 o1 e1 _) (cwV 2 hts (TB_V w_522 w_523 w_524 w_38 w_525) rfl rfl rfl ⟨rfl, nd_X7_hasTwoTables⟩ ⟨Nat.le_of_ble_eq_true rfl, Nat.le_of_ble_eq_true rfl⟩) (cPre.V hPc hDc hK hE hS hFc (va_recv hK hPc (ci := 6) (q0 := 0) rfl rfl)) rfl rfl hl.1 rfl (lv_room (Nat.le_of_ble_eq_true rfl)) dX8_scriptDrifts_6 ⟨Nat.zero_le _, Nat.zero_le _⟩) hPq hDq hS hFc (fun r1 u1 H locs hw hP hD hS => ?_)
  obtain ⟨rfl, rfl⟩ := hw
  have hP : va_P D vwCl (cSP a_this ++ (cW dT (a_this 5) g_this_copy)) H := hP.perm (wj_back [cW dT (a_this 5) g_this_copy] [cSP a_this] [1, 0] rfl)
  have hD : va_D A (cSP a_this ++ (cW dT (a_this 5) g_this_copy)) := hD.perm (wj_back [cW dT (a_this 5) g_this_copy] [cSP a_this] [1, 0] rfl)
  refine lv_if_eq (tgt := 38) hx hb dX8_scriptDrifts_9 (by decide) (fun c2 => ?_) (fun c2 => ?_)
  · replace h := iteT c2 h
    refine lv_iconst (v := 0) hx hb dX8_scriptDrifts_38 (by decide) ?_
    exact rt_z hx hb hr hlk hK hS (g_this_copy : TW) (ret2 h) (by decide) hP hD dX8_scriptDrifts_39
  · replace h := iteF c2 h
    refine lv_iload_n hx hb dX8_scriptDrifts_12 rfl (lv_at hl 3 rfl) ?_
    refine lv_iconst (v := 1) hx hb dX8_scriptDrifts_13 (by decide) ?_
    refine lv_sipush (v := 1000) hx hb dX8_scriptDrifts_14 (by decide) ?_
    obtain ⟨o3, e3, h⟩ := obind h
    have hPq : va_P D vwCl (([] : va_W) ++ (cSP a_this ++ (cW dT (a_this 5) g_this_copy))) _ := hP.perm (wj_split [cSP a_this, cW dT (a_this 5) g_this_copy] [] [0, 1] rfl)
    have hDq : va_D A (([] : va_W) ++ (cSP a_this ++ (cW dT (a_this 5) g_this_copy))) := hD.perm (wj_split [cSP a_this, cW dT (a_this 5) g_this_copy] [] [0, 1] rfl)
    have hPc := hPq.left
    have hDc := hDq.left
    have hFc := va_freeL hDq hS hA
    refine cl_iL (wr := (cSP a_this ++ (cW dT (a_this 5) g_this_copy))) (va_runS (As := [.int v3, .int (1 : Int32), .int (1000 : Int32)]) (rest := []) ⟨hx, hb, hml, hown, hts⟩ (c_X8_isIn l hlt D dT v3 (1 : Int32) (1000 : Int32) o3 e3 _) (va_cwS 3 hts (TB_S w_290 w_291 w_33 w_292) rfl rfl rfl nd_X8_isIn ⟨Nat.le_of_ble_eq_true rfl, Nat.le_of_ble_eq_true rfl⟩) (cPre.S hPc hDc hK hE hS hFc) rfl rfl hl.1 rfl (lv_room (Nat.le_of_ble_eq_true rfl)) dX8_scriptDrifts_17 ⟨Nat.zero_le _, Nat.zero_le _⟩) hPq hDq hS hFc (fun r3 u3 H locs hw hP hD hS => ?_)
    obtain ⟨rfl, rfl⟩ := hw
    have hP : va_P D vwCl (cSP a_this ++ (cW dT (a_this 5) g_this_copy)) H := hP.perm (wj_back [] [cSP a_this, cW dT (a_this 5) g_this_copy] [0, 1] rfl)
    have hD : va_D A (cSP a_this ++ (cW dT (a_this 5) g_this_copy)) := hD.perm (wj_back [] [cSP a_this, cW dT (a_this 5) g_this_copy] [0, 1] rfl)
    refine lv_if_eq (tgt := 38) hx hb dX8_scriptDrifts_20 (by decide) (fun c4 => ?_) (fun c4 => ?_)
    · replace h := iteT c4 h
      refine lv_iconst (v := 0) hx hb dX8_scriptDrifts_38 (by decide) ?_
      exact rt_z hx hb hr hlk hK hS (g_this_copy : TW) (ret2 h) (by decide) hP hD dX8_scriptDrifts_39
    · replace h := iteF c4 h
      refine lv_aload_n hx hb dX8_scriptDrifts_23 rfl (lv_at hl 0 rfl) ?_
      refine gf_X8_37 (v := .ref ((a_this 5) 0)) hx hb hqs hown hK hP 0 rfl rfl dX8_scriptDrifts_24 ?_
      refine lv_iload_n hx hb dX8_scriptDrifts_27 rfl (lv_at hl 1 rfl) ?_
      refine lv_iload_n hx hb dX8_scriptDrifts_28 rfl (lv_at hl 2 rfl) ?_
      obtain ⟨o5, e5, h⟩ := obind h
      have hPq : va_P D vwCl (([] : va_W) ++ (cSP a_this ++ (cW dT (a_this 5) g_this_copy))) _ := hP.perm (wj_split [cSP a_this, cW dT (a_this 5) g_this_copy] [] [0, 1] rfl)
      have hDq : va_D A (([] : va_W) ++ (cSP a_this ++ (cW dT (a_this 5) g_this_copy))) := hD.perm (wj_split [cSP a_this, cW dT (a_this 5) g_this_copy] [] [0, 1] rfl)
      have hPc := hPq.left
      have hDc := hDq.left
      have hFc := va_freeL hDq hS hA
      refine cl_iL (wr := (cSP a_this ++ (cW dT (a_this 5) g_this_copy))) (va_runS (As := [.int v1, .int v2]) (rest := [.ref ((a_this 5) 0)]) ⟨hx, hb, hml, hown, hts⟩ (c_X8_pairIndex l hlt D dT v1 v2 o5 e5 _) (va_cwS 2 hts (TB_S w_530 w_473 w_33 w_474) rfl rfl rfl nd_X8_pairIndex ⟨Nat.le_of_ble_eq_true rfl, Nat.le_of_ble_eq_true rfl⟩) (cPre.S hPc hDc hK hE hS hFc) rfl rfl hl.1 rfl (lv_room (Nat.le_of_ble_eq_true rfl)) dX8_scriptDrifts_29 ⟨Nat.zero_le _, Nat.zero_le _⟩) hPq hDq hS hFc (fun r5 u5 H locs hw hP hD hS => ?_)
      obtain ⟨rfl, rfl⟩ := hw
      have hP : va_P D vwCl (cSP a_this ++ (cW dT (a_this 5) g_this_copy)) H := hP.perm (wj_back [] [cSP a_this, cW dT (a_this 5) g_this_copy] [0, 1] rfl)
      have hD : va_D A (cSP a_this ++ (cW dT (a_this 5) g_this_copy)) := hD.perm (wj_back [] [cSP a_this, cW dT (a_this 5) g_this_copy] [0, 1] rfl)
      obtain ⟨o6, e6, h⟩ := obind h
      have hPq : va_P D vwCl ((cW dT (a_this 5) g_this_copy) ++ (cSP a_this)) _ := hP.perm (wj_split [cSP a_this, cW dT (a_this 5) g_this_copy] [1] [0] rfl)
      have hDq : va_D A ((cW dT (a_this 5) g_this_copy) ++ (cSP a_this)) := hD.perm (wj_split [cSP a_this, cW dT (a_this 5) g_this_copy] [1] [0] rfl)
      have hPc := hPq.left
      have hDc := hDq.left
      have hFc := va_freeL hDq hS hA
      refine cl_iL (wr := (cSP a_this)) (va_runV (As := [.int o5.1]) (rest := []) ⟨hx, hb, hml, hown, hts⟩ (c_X7_isLinked l hlt D dT (a_this 5) g_this_copy o5.1 o6 e6 _) (cwV 1 hts (TB_V w_531 w_482 w_483 w_38 w_484) rfl rfl rfl ⟨rfl, nd_X7_isLinked⟩ ⟨Nat.le_of_ble_eq_true rfl, Nat.le_of_ble_eq_true rfl⟩) (cPre.V hPc hDc hK hE hS hFc (va_recv hK hPc (ci := 6) (q0 := 0) rfl rfl)) rfl rfl hl.1 rfl (lv_room (Nat.le_of_ble_eq_true rfl)) dX8_scriptDrifts_32 ⟨Nat.zero_le _, Nat.zero_le _⟩) hPq hDq hS hFc (fun r6 u6 H locs hw hP hD hS => ?_)
      obtain ⟨rfl, rfl⟩ := hw
      have hP : va_P D vwCl (cSP a_this ++ (cW dT (a_this 5) g_this_copy)) H := hP.perm (wj_back [cW dT (a_this 5) g_this_copy] [cSP a_this] [1, 0] rfl)
      have hD : va_D A (cSP a_this ++ (cW dT (a_this 5) g_this_copy)) := hD.perm (wj_back [cW dT (a_this 5) g_this_copy] [cSP a_this] [1, 0] rfl)
      refine lv_if_ne (tgt := 40) hx hb dX8_scriptDrifts_35 (by decide) (fun c7 => ?_) (fun c7 => ?_)
      · replace h := iteF c7 h
        refine lv_aload_n hx hb dX8_scriptDrifts_40 rfl (lv_at hl 0 rfl) ?_
        refine gf_X8_37 (v := .ref ((a_this 5) 0)) hx hb hqs hown hK hP 0 rfl rfl dX8_scriptDrifts_41 ?_
        refine lv_iload_n hx hb dX8_scriptDrifts_44 rfl (lv_at hl 1 rfl) ?_
        refine lv_iload_n hx hb dX8_scriptDrifts_45 rfl (lv_at hl 2 rfl) ?_
        obtain ⟨o8, e8, h⟩ := obind h
        have hPq : va_P D vwCl (([] : va_W) ++ (cSP a_this ++ (cW dT (a_this 5) g_this_copy))) _ := hP.perm (wj_split [cSP a_this, cW dT (a_this 5) g_this_copy] [] [0, 1] rfl)
        have hDq : va_D A (([] : va_W) ++ (cSP a_this ++ (cW dT (a_this 5) g_this_copy))) := hD.perm (wj_split [cSP a_this, cW dT (a_this 5) g_this_copy] [] [0, 1] rfl)
        have hPc := hPq.left
        have hDc := hDq.left
        have hFc := va_freeL hDq hS hA
        refine cl_iL (wr := (cSP a_this ++ (cW dT (a_this 5) g_this_copy))) (va_runS (As := [.int v1, .int v2]) (rest := [.ref ((a_this 5) 0)]) ⟨hx, hb, hml, hown, hts⟩ (c_X8_pairIndex l hlt D dT v1 v2 o8 e8 _) (va_cwS 2 hts (TB_S w_530 w_473 w_33 w_474) rfl rfl rfl nd_X8_pairIndex ⟨Nat.le_of_ble_eq_true rfl, Nat.le_of_ble_eq_true rfl⟩) (cPre.S hPc hDc hK hE hS hFc) rfl rfl hl.1 rfl (lv_room (Nat.le_of_ble_eq_true rfl)) dX8_scriptDrifts_46 ⟨Nat.zero_le _, Nat.zero_le _⟩) hPq hDq hS hFc (fun r8 u8 H locs hw hP hD hS => ?_)
        obtain ⟨rfl, rfl⟩ := hw
        have hP : va_P D vwCl (cSP a_this ++ (cW dT (a_this 5) g_this_copy)) H := hP.perm (wj_back [] [cSP a_this, cW dT (a_this 5) g_this_copy] [0, 1] rfl)
        have hD : va_D A (cSP a_this ++ (cW dT (a_this 5) g_this_copy)) := hD.perm (wj_back [] [cSP a_this, cW dT (a_this 5) g_this_copy] [0, 1] rfl)
        refine lv_iload_n hx hb dX8_scriptDrifts_49 rfl (lv_at hl 3 rfl) ?_
        obtain ⟨o9, e9, h⟩ := obind h
        have hPq : va_P D vwCl ((cW dT (a_this 5) g_this_copy) ++ (cSP a_this)) _ := hP.perm (wj_split [cSP a_this, cW dT (a_this 5) g_this_copy] [1] [0] rfl)
        have hDq : va_D A ((cW dT (a_this 5) g_this_copy) ++ (cSP a_this)) := hD.perm (wj_split [cSP a_this, cW dT (a_this 5) g_this_copy] [1] [0] rfl)
        have hPc := hPq.left
        have hDc := hDq.left
        have hFc := va_freeL hDq hS hA
        refine cl_iL (wr := (cSP a_this)) (va_runV (As := [.int o8.1, .int v3]) (rest := []) ⟨hx, hb, hml, hown, hts⟩ (c_X7_changeShare l hlt D dT (a_this 5) g_this_copy o8.1 v3 o9 e9 _) (cwV 2 hts (TB_V w_532 w_533 w_534 w_38 w_535) rfl rfl rfl ⟨rfl, nd_X7_changeShare⟩ ⟨Nat.le_of_ble_eq_true rfl, Nat.le_of_ble_eq_true rfl⟩) (cPre.V hPc hDc hK hE hS hFc (va_recv hK hPc (ci := 6) (q0 := 0) rfl rfl)) rfl rfl hl.1 rfl (lv_room (Nat.le_of_ble_eq_true rfl)) dX8_scriptDrifts_50 ⟨Nat.zero_le _, Nat.zero_le _⟩) hPq hDq hS hFc (fun r9 u9 H locs hw hP hD hS => ?_)
        obtain ⟨rfl, rfl⟩ := hw
        have hP : va_P D vwCl (cSP a_this ++ (cW dT (a_this 5) o9.2)) H := hP.perm (wj_back [cW dT (a_this 5) o9.2] [cSP a_this] [1, 0] rfl)
        have hD : va_D A (cSP a_this ++ (cW dT (a_this 5) o9.2)) := hD.perm (wj_back [cW dT (a_this 5) o9.2] [cSP a_this] [1, 0] rfl)
        refine lv_pop hx hb dX8_scriptDrifts_53 rfl ?_
        refine lv_iconst (v := 1) hx hb dX8_scriptDrifts_54 (by decide) ?_
        exact rt_z hx hb hr hlk hK hS (o9.2 : TW) (ret2 h) (by decide) hP hD dX8_scriptDrifts_55
      · replace h := iteT c7 h
        refine lv_iconst (v := 0) hx hb dX8_scriptDrifts_38 (by decide) ?_
        exact rt_z hx hb hr hlk hK hS (g_this_copy : TW) (ret2 h) (by decide) hP hD dX8_scriptDrifts_39

def f_X8_scriptSets (g_this_copy : TW) (v1 : Int32) (v2 : Int32) : Option (Int32 × (TW)) :=
  ((f_X8_settingTakes v1 v2).bind fun o1 => (if o1.1 = (0 : Int32) then (some ((0 : Int32), g_this_copy)) else ((f_X7_changeSetting g_this_copy v1 v2).bind fun o3 => (some ((1 : Int32), o3.2)))))
set_option maxHeartbeats 8000000 in
set_option maxRecDepth 100000 in
theorem c_X8_scriptSets (l : Launch) (hlt : l.stackTraces = false) (D : va_G) (dT : Nat → ClassId) (a_this : Nat → Nat → Nat) (g_this_copy : TW) (v1 : Int32) (v2 : Int32) (o : (Int32 × (TW))) (h : f_X8_scriptSets g_this_copy v1 v2 = some o) (sz : Nat) : Met l yX8_scriptSets (WSm yX8_scriptSets cX8_scriptSets 3 (some .boolean)) { frames := 3, cells := 0, slots := 0, locals := 66 } (va_Pc [.ref (a_this 0 0), .int v1, .int v2] (cPre D dT (cSP a_this ++ (cW dT (a_this 5) g_this_copy)) sz)) (va_Qi (fun (r : Int32) (u : TW) => r = o.1 ∧ u = o.2) (fun u t => cAt D dT (va_A (cSP a_this ++ (cW dT (a_this 5) g_this_copy)) sz) (cSP a_this ++ (cW dT (a_this 5) u)) t) (va_A (cSP a_this ++ (cW dT (a_this 5) g_this_copy)) sz)) 0 0 (va_A (cSP a_this ++ (cW dT (a_this 5) g_this_copy)) sz) := by
  refine mStart (WS := (cSP a_this ++ (cW dT (a_this 5) g_this_copy))) (Qc := fun A => va_Qi (fun (r : Int32) (u : TW) => r = o.1 ∧ u = o.2) (fun u t => cAt D dT A (cSP a_this ++ (cW dT (a_this 5) u)) t) A) RX8 rfl (by decide) (Nat.le_of_ble_eq_true rfl) ?_ sz
  intro p e s m below meth c A ls hx hb hml hr hlk hnm hts hqs hown hE hA hK hP hD hS hl
  have hl : lv_has ls 3 [(0, .ref (a_this 0 0)), (1, .int v1), (2, .int v2)] := hl
  unfold f_X8_scriptSets at h
  refine lv_iload_n hx hb dX8_scriptSets_0 rfl (lv_at hl 1 rfl) ?_
  refine lv_iload_n hx hb dX8_scriptSets_1 rfl (lv_at hl 2 rfl) ?_
  obtain ⟨o1, e1, h⟩ := obind h
  have hPq : va_P D vwCl (([] : va_W) ++ (cSP a_this ++ (cW dT (a_this 5) g_this_copy))) _ := hP.perm (wj_split [cSP a_this, cW dT (a_this 5) g_this_copy] [] [0, 1] rfl)
  have hDq : va_D A (([] : va_W) ++ (cSP a_this ++ (cW dT (a_this 5) g_this_copy))) := hD.perm (wj_split [cSP a_this, cW dT (a_this 5) g_this_copy] [] [0, 1] rfl)
  have hPc := hPq.left
  have hDc := hDq.left
  have hFc := va_freeL hDq hS hA
  refine cl_iL (wr := (cSP a_this ++ (cW dT (a_this 5) g_this_copy))) (va_runS (As := [.int v1, .int v2]) (rest := []) ⟨hx, hb, hml, hown, hts⟩ (c_X8_settingTakes l hlt D dT v1 v2 o1 e1 _) (va_cwS 2 hts (TB_S w_540 w_541 w_33 w_542) rfl rfl rfl nd_X8_settingTakes ⟨Nat.le_of_ble_eq_true rfl, Nat.le_of_ble_eq_true rfl⟩) (cPre.S hPc hDc hK hE hS hFc) rfl rfl hl.1 rfl (lv_room (Nat.le_of_ble_eq_true rfl)) dX8_scriptSets_2 ⟨Nat.zero_le _, Nat.zero_le _⟩) hPq hDq hS hFc (fun r1 u1 H locs hw hP hD hS => ?_)
  obtain ⟨rfl, rfl⟩ := hw
  have hP : va_P D vwCl (cSP a_this ++ (cW dT (a_this 5) g_this_copy)) H := hP.perm (wj_back [] [cSP a_this, cW dT (a_this 5) g_this_copy] [0, 1] rfl)
  have hD : va_D A (cSP a_this ++ (cW dT (a_this 5) g_this_copy)) := hD.perm (wj_back [] [cSP a_this, cW dT (a_this 5) g_this_copy] [0, 1] rfl)
  refine lv_if_ne (tgt := 10) hx hb dX8_scriptSets_5 (by decide) (fun c2 => ?_) (fun c2 => ?_)
  · replace h := iteF c2 h
    refine lv_aload_n hx hb dX8_scriptSets_10 rfl (lv_at hl 0 rfl) ?_
    refine gf_X8_37 (v := .ref ((a_this 5) 0)) hx hb hqs hown hK hP 0 rfl rfl dX8_scriptSets_11 ?_
    refine lv_iload_n hx hb dX8_scriptSets_14 rfl (lv_at hl 1 rfl) ?_
    refine lv_iload_n hx hb dX8_scriptSets_15 rfl (lv_at hl 2 rfl) ?_
    obtain ⟨o3, e3, h⟩ := obind h
    have hPq : va_P D vwCl ((cW dT (a_this 5) g_this_copy) ++ (cSP a_this)) _ := hP.perm (wj_split [cSP a_this, cW dT (a_this 5) g_this_copy] [1] [0] rfl)
    have hDq : va_D A ((cW dT (a_this 5) g_this_copy) ++ (cSP a_this)) := hD.perm (wj_split [cSP a_this, cW dT (a_this 5) g_this_copy] [1] [0] rfl)
    have hPc := hPq.left
    have hDc := hDq.left
    have hFc := va_freeL hDq hS hA
    refine cl_iL (wr := (cSP a_this)) (va_runV (As := [.int v1, .int v2]) (rest := []) ⟨hx, hb, hml, hown, hts⟩ (c_X7_changeSetting l hlt D dT (a_this 5) g_this_copy v1 v2 o3 e3 _) (cwV 2 hts (TB_V w_547 w_548 w_549 w_38 w_550) rfl rfl rfl ⟨rfl, nd_X7_changeSetting⟩ ⟨Nat.le_of_ble_eq_true rfl, Nat.le_of_ble_eq_true rfl⟩) (cPre.V hPc hDc hK hE hS hFc (va_recv hK hPc (ci := 6) (q0 := 0) rfl rfl)) rfl rfl hl.1 rfl (lv_room (Nat.le_of_ble_eq_true rfl)) dX8_scriptSets_16 ⟨Nat.zero_le _, Nat.zero_le _⟩) hPq hDq hS hFc (fun r3 u3 H locs hw hP hD hS => ?_)
    obtain ⟨rfl, rfl⟩ := hw
    have hP : va_P D vwCl (cSP a_this ++ (cW dT (a_this 5) o3.2)) H := hP.perm (wj_back [cW dT (a_this 5) o3.2] [cSP a_this] [1, 0] rfl)
    have hD : va_D A (cSP a_this ++ (cW dT (a_this 5) o3.2)) := hD.perm (wj_back [cW dT (a_this 5) o3.2] [cSP a_this] [1, 0] rfl)
    refine lv_pop hx hb dX8_scriptSets_19 rfl ?_
    refine lv_iconst (v := 1) hx hb dX8_scriptSets_20 (by decide) ?_
    exact rt_z hx hb hr hlk hK hS (o3.2 : TW) (ret2 h) (by decide) hP hD dX8_scriptSets_21
  · replace h := iteT c2 h
    refine lv_iconst (v := 0) hx hb dX8_scriptSets_8 (by decide) ?_
    exact rt_z hx hb hr hlk hK hS (g_this_copy : TW) (ret2 h) (by decide) hP hD dX8_scriptSets_9

def f_X8_scriptLinks (g_this_copy : TW) (v1 : Int32) (v2 : Int32) (v3 : Int32) : Option (Int32 × (TW)) :=
  ((f_X7_hasTwoTables g_this_copy v1 v2).bind fun o1 => (if o1.1 = (0 : Int32) then (some ((0 : Int32), g_this_copy)) else ((f_X8_isIn v3 (1 : Int32) (1000 : Int32)).bind fun o3 => (if o3.1 = (0 : Int32) then (some ((0 : Int32), g_this_copy)) else ((f_X8_pairIndex v1 v2).bind fun o5 => ((f_X7_linkPair g_this_copy o5.1 v3 v3).bind fun o6 => (some ((1 : Int32), o6.2))))))))
set_option maxHeartbeats 8000000 in
set_option maxRecDepth 100000 in
theorem c_X8_scriptLinks (l : Launch) (hlt : l.stackTraces = false) (D : va_G) (dT : Nat → ClassId) (a_this : Nat → Nat → Nat) (g_this_copy : TW) (v1 : Int32) (v2 : Int32) (v3 : Int32) (o : (Int32 × (TW))) (h : f_X8_scriptLinks g_this_copy v1 v2 v3 = some o) (sz : Nat) : Met l yX8_scriptLinks (WSm yX8_scriptLinks cX8_scriptLinks 4 (some .boolean)) { frames := 3, cells := 0, slots := 0, locals := 66 } (va_Pc [.ref (a_this 0 0), .int v1, .int v2, .int v3] (cPre D dT (cSP a_this ++ (cW dT (a_this 5) g_this_copy)) sz)) (va_Qi (fun (r : Int32) (u : TW) => r = o.1 ∧ u = o.2) (fun u t => cAt D dT (va_A (cSP a_this ++ (cW dT (a_this 5) g_this_copy)) sz) (cSP a_this ++ (cW dT (a_this 5) u)) t) (va_A (cSP a_this ++ (cW dT (a_this 5) g_this_copy)) sz)) 0 0 (va_A (cSP a_this ++ (cW dT (a_this 5) g_this_copy)) sz) := by
  refine mStart (WS := (cSP a_this ++ (cW dT (a_this 5) g_this_copy))) (Qc := fun A => va_Qi (fun (r : Int32) (u : TW) => r = o.1 ∧ u = o.2) (fun u t => cAt D dT A (cSP a_this ++ (cW dT (a_this 5) u)) t) A) RX8 rfl (by decide) (Nat.le_of_ble_eq_true rfl) ?_ sz
  intro p e s m below meth c A ls hx hb hml hr hlk hnm hts hqs hown hE hA hK hP hD hS hl
  have hl : lv_has ls 4 [(0, .ref (a_this 0 0)), (1, .int v1), (2, .int v2), (3, .int v3)] := hl
  unfold f_X8_scriptLinks at h
  refine lv_aload_n hx hb dX8_scriptLinks_0 rfl (lv_at hl 0 rfl) ?_
  refine gf_X8_37 (v := .ref ((a_this 5) 0)) hx hb hqs hown hK hP 0 rfl rfl dX8_scriptLinks_1 ?_
  refine lv_iload_n hx hb dX8_scriptLinks_4 rfl (lv_at hl 1 rfl) ?_
  refine lv_iload_n hx hb dX8_scriptLinks_5 rfl (lv_at hl 2 rfl) ?_
  obtain ⟨o1, e1, h⟩ := obind h
  have hPq : va_P D vwCl ((cW dT (a_this 5) g_this_copy) ++ (cSP a_this)) _ := hP.perm (wj_split [cSP a_this, cW dT (a_this 5) g_this_copy] [1] [0] rfl)
  have hDq : va_D A ((cW dT (a_this 5) g_this_copy) ++ (cSP a_this)) := hD.perm (wj_split [cSP a_this, cW dT (a_this 5) g_this_copy] [1] [0] rfl)
  have hPc := hPq.left
  have hDc := hDq.left
  have hFc := va_freeL hDq hS hA
  refine cl_iL (wr := (cSP a_this)) (va_runV (As := [.int v1, .int v2]) (rest := []) ⟨hx, hb, hml, hown, hts⟩ (c_X7_hasTwoTables l hlt D dT (a_this 5) g_this_copy v1 v2 o1 e1 _) (cwV 2 hts (TB_V w_522 w_523 w_524 w_38 w_525) rfl rfl rfl ⟨rfl, nd_X7_hasTwoTables⟩ ⟨Nat.le_of_ble_eq_true rfl, Nat.le_of_ble_eq_true rfl⟩) (cPre.V hPc hDc hK hE hS hFc (va_recv hK hPc (ci := 6) (q0 := 0) rfl rfl)) rfl rfl hl.1 rfl (lv_room (Nat.le_of_ble_eq_true rfl)) dX8_scriptLinks_6 ⟨Nat.zero_le _, Nat.zero_le _⟩) hPq hDq hS hFc (fun r1 u1 H locs hw hP hD hS => ?_)
  obtain ⟨rfl, rfl⟩ := hw
  have hP : va_P D vwCl (cSP a_this ++ (cW dT (a_this 5) g_this_copy)) H := hP.perm (wj_back [cW dT (a_this 5) g_this_copy] [cSP a_this] [1, 0] rfl)
  have hD : va_D A (cSP a_this ++ (cW dT (a_this 5) g_this_copy)) := hD.perm (wj_back [cW dT (a_this 5) g_this_copy] [cSP a_this] [1, 0] rfl)
  refine lv_if_eq (tgt := 23) hx hb dX8_scriptLinks_9 (by decide) (fun c2 => ?_) (fun c2 => ?_)
  · replace h := iteT c2 h
    refine lv_iconst (v := 0) hx hb dX8_scriptLinks_23 (by decide) ?_
    exact rt_z hx hb hr hlk hK hS (g_this_copy : TW) (ret2 h) (by decide) hP hD dX8_scriptLinks_24
  · replace h := iteF c2 h
    refine lv_iload_n hx hb dX8_scriptLinks_12 rfl (lv_at hl 3 rfl) ?_
    refine lv_iconst (v := 1) hx hb dX8_scriptLinks_13 (by decide) ?_
    refine lv_sipush (v := 1000) hx hb dX8_scriptLinks_14 (by decide) ?_
    obtain ⟨o3, e3, h⟩ := obind h
    have hPq : va_P D vwCl (([] : va_W) ++ (cSP a_this ++ (cW dT (a_this 5) g_this_copy))) _ := hP.perm (wj_split [cSP a_this, cW dT (a_this 5) g_this_copy] [] [0, 1] rfl)
    have hDq : va_D A (([] : va_W) ++ (cSP a_this ++ (cW dT (a_this 5) g_this_copy))) := hD.perm (wj_split [cSP a_this, cW dT (a_this 5) g_this_copy] [] [0, 1] rfl)
    have hPc := hPq.left
    have hDc := hDq.left
    have hFc := va_freeL hDq hS hA
    refine cl_iL (wr := (cSP a_this ++ (cW dT (a_this 5) g_this_copy))) (va_runS (As := [.int v3, .int (1 : Int32), .int (1000 : Int32)]) (rest := []) ⟨hx, hb, hml, hown, hts⟩ (c_X8_isIn l hlt D dT v3 (1 : Int32) (1000 : Int32) o3 e3 _) (va_cwS 3 hts (TB_S w_290 w_291 w_33 w_292) rfl rfl rfl nd_X8_isIn ⟨Nat.le_of_ble_eq_true rfl, Nat.le_of_ble_eq_true rfl⟩) (cPre.S hPc hDc hK hE hS hFc) rfl rfl hl.1 rfl (lv_room (Nat.le_of_ble_eq_true rfl)) dX8_scriptLinks_17 ⟨Nat.zero_le _, Nat.zero_le _⟩) hPq hDq hS hFc (fun r3 u3 H locs hw hP hD hS => ?_)
    obtain ⟨rfl, rfl⟩ := hw
    have hP : va_P D vwCl (cSP a_this ++ (cW dT (a_this 5) g_this_copy)) H := hP.perm (wj_back [] [cSP a_this, cW dT (a_this 5) g_this_copy] [0, 1] rfl)
    have hD : va_D A (cSP a_this ++ (cW dT (a_this 5) g_this_copy)) := hD.perm (wj_back [] [cSP a_this, cW dT (a_this 5) g_this_copy] [0, 1] rfl)
    refine lv_if_ne (tgt := 25) hx hb dX8_scriptLinks_20 (by decide) (fun c4 => ?_) (fun c4 => ?_)
    · replace h := iteF c4 h
      refine lv_aload_n hx hb dX8_scriptLinks_25 rfl (lv_at hl 0 rfl) ?_
      refine gf_X8_37 (v := .ref ((a_this 5) 0)) hx hb hqs hown hK hP 0 rfl rfl dX8_scriptLinks_26 ?_
      refine lv_iload_n hx hb dX8_scriptLinks_29 rfl (lv_at hl 1 rfl) ?_
      refine lv_iload_n hx hb dX8_scriptLinks_30 rfl (lv_at hl 2 rfl) ?_
      obtain ⟨o5, e5, h⟩ := obind h
      have hPq : va_P D vwCl (([] : va_W) ++ (cSP a_this ++ (cW dT (a_this 5) g_this_copy))) _ := hP.perm (wj_split [cSP a_this, cW dT (a_this 5) g_this_copy] [] [0, 1] rfl)
      have hDq : va_D A (([] : va_W) ++ (cSP a_this ++ (cW dT (a_this 5) g_this_copy))) := hD.perm (wj_split [cSP a_this, cW dT (a_this 5) g_this_copy] [] [0, 1] rfl)
      have hPc := hPq.left
      have hDc := hDq.left
      have hFc := va_freeL hDq hS hA
      refine cl_iL (wr := (cSP a_this ++ (cW dT (a_this 5) g_this_copy))) (va_runS (As := [.int v1, .int v2]) (rest := [.ref ((a_this 5) 0)]) ⟨hx, hb, hml, hown, hts⟩ (c_X8_pairIndex l hlt D dT v1 v2 o5 e5 _) (va_cwS 2 hts (TB_S w_530 w_473 w_33 w_474) rfl rfl rfl nd_X8_pairIndex ⟨Nat.le_of_ble_eq_true rfl, Nat.le_of_ble_eq_true rfl⟩) (cPre.S hPc hDc hK hE hS hFc) rfl rfl hl.1 rfl (lv_room (Nat.le_of_ble_eq_true rfl)) dX8_scriptLinks_31 ⟨Nat.zero_le _, Nat.zero_le _⟩) hPq hDq hS hFc (fun r5 u5 H locs hw hP hD hS => ?_)
      obtain ⟨rfl, rfl⟩ := hw
      have hP : va_P D vwCl (cSP a_this ++ (cW dT (a_this 5) g_this_copy)) H := hP.perm (wj_back [] [cSP a_this, cW dT (a_this 5) g_this_copy] [0, 1] rfl)
      have hD : va_D A (cSP a_this ++ (cW dT (a_this 5) g_this_copy)) := hD.perm (wj_back [] [cSP a_this, cW dT (a_this 5) g_this_copy] [0, 1] rfl)
      refine lv_iload_n hx hb dX8_scriptLinks_34 rfl (lv_at hl 3 rfl) ?_
      refine lv_iload_n hx hb dX8_scriptLinks_35 rfl (lv_at hl 3 rfl) ?_
      obtain ⟨o6, e6, h⟩ := obind h
      have hPq : va_P D vwCl ((cW dT (a_this 5) g_this_copy) ++ (cSP a_this)) _ := hP.perm (wj_split [cSP a_this, cW dT (a_this 5) g_this_copy] [1] [0] rfl)
      have hDq : va_D A ((cW dT (a_this 5) g_this_copy) ++ (cSP a_this)) := hD.perm (wj_split [cSP a_this, cW dT (a_this 5) g_this_copy] [1] [0] rfl)
      have hPc := hPq.left
      have hDc := hDq.left
      have hFc := va_freeL hDq hS hA
      refine cl_iL (wr := (cSP a_this)) (va_runV (As := [.int o5.1, .int v3, .int v3]) (rest := []) ⟨hx, hb, hml, hown, hts⟩ (c_X7_linkPair l hlt D dT (a_this 5) g_this_copy o5.1 v3 v3 o6 e6 _) (cwV 3 hts (TB_V w_559 w_560 w_561 w_38 w_562) rfl rfl rfl ⟨rfl, nd_X7_linkPair⟩ ⟨Nat.le_of_ble_eq_true rfl, Nat.le_of_ble_eq_true rfl⟩) (cPre.V hPc hDc hK hE hS hFc (va_recv hK hPc (ci := 6) (q0 := 0) rfl rfl)) rfl rfl hl.1 rfl (lv_room (Nat.le_of_ble_eq_true rfl)) dX8_scriptLinks_36 ⟨Nat.zero_le _, Nat.zero_le _⟩) hPq hDq hS hFc (fun r6 u6 H locs hw hP hD hS => ?_)
      obtain ⟨rfl, rfl⟩ := hw
      have hP : va_P D vwCl (cSP a_this ++ (cW dT (a_this 5) o6.2)) H := hP.perm (wj_back [cW dT (a_this 5) o6.2] [cSP a_this] [1, 0] rfl)
      have hD : va_D A (cSP a_this ++ (cW dT (a_this 5) o6.2)) := hD.perm (wj_back [cW dT (a_this 5) o6.2] [cSP a_this] [1, 0] rfl)
      refine lv_pop hx hb dX8_scriptLinks_39 rfl ?_
      refine lv_iconst (v := 1) hx hb dX8_scriptLinks_40 (by decide) ?_
      exact rt_z hx hb hr hlk hK hS (o6.2 : TW) (ret2 h) (by decide) hP hD dX8_scriptLinks_41
    · replace h := iteT c4 h
      refine lv_iconst (v := 0) hx hb dX8_scriptLinks_23 (by decide) ?_
      exact rt_z hx hb hr hlk hK hS (g_this_copy : TW) (ret2 h) (by decide) hP hD dX8_scriptLinks_24

def f_X8_chosenTableIs (g_this_copy : TW) (g_this_chosen : TP) (v1 : Int32) (v2 : Int32) (v3 : Int32) : Option (Int32 × (TP)) :=
  ((f_X3_choose g_this_chosen g_this_copy v2 (1 : Int32)).bind fun o1 => ((f_X3_tableAt o1.2 v3).bind fun o2 => (if o2.1 = v1 then (some ((1 : Int32), o1.2)) else (some ((0 : Int32), o1.2)))))
set_option maxHeartbeats 8000000 in
set_option maxRecDepth 100000 in
theorem c_X8_chosenTableIs (l : Launch) (hlt : l.stackTraces = false) (D : va_G) (dT : Nat → ClassId) (a_this : Nat → Nat → Nat) (g_this_copy : TW) (g_this_chosen : TP) (v1 : Int32) (v2 : Int32) (v3 : Int32) (o : (Int32 × (TP))) (h : f_X8_chosenTableIs g_this_copy g_this_chosen v1 v2 v3 = some o) (sz : Nat) : Met l yX8_chosenTableIs (WSm yX8_chosenTableIs cX8_chosenTableIs 4 (some .boolean)) { frames := 4, cells := 0, slots := 0, locals := 101 } (va_Pc [.ref (a_this 0 0), .int v1, .int v2, .int v3] (cPre D dT (cSP a_this ++ (cW dT (a_this 5) g_this_copy ++ (cP dT (a_this 8) g_this_chosen))) sz)) (va_Qi (fun (r : Int32) (u : TP) => r = o.1 ∧ u = o.2) (fun u t => cAt D dT (va_A (cSP a_this ++ (cW dT (a_this 5) g_this_copy ++ (cP dT (a_this 8) g_this_chosen))) sz) (cSP a_this ++ (cW dT (a_this 5) g_this_copy ++ (cP dT (a_this 8) u))) t) (va_A (cSP a_this ++ (cW dT (a_this 5) g_this_copy ++ (cP dT (a_this 8) g_this_chosen))) sz)) 0 0 (va_A (cSP a_this ++ (cW dT (a_this 5) g_this_copy ++ (cP dT (a_this 8) g_this_chosen))) sz) := by
  refine mStart (WS := (cSP a_this ++ (cW dT (a_this 5) g_this_copy ++ (cP dT (a_this 8) g_this_chosen)))) (Qc := fun A => va_Qi (fun (r : Int32) (u : TP) => r = o.1 ∧ u = o.2) (fun u t => cAt D dT A (cSP a_this ++ (cW dT (a_this 5) g_this_copy ++ (cP dT (a_this 8) u))) t) A) RX8 rfl (by decide) (Nat.le_of_ble_eq_true rfl) ?_ sz
  intro p e s m below meth c A ls hx hb hml hr hlk hnm hts hqs hown hE hA hK hP hD hS hl
  have hl : lv_has ls 4 [(0, .ref (a_this 0 0)), (1, .int v1), (2, .int v2), (3, .int v3)] := hl
  unfold f_X8_chosenTableIs at h
  refine lv_aload_n hx hb dX8_chosenTableIs_0 rfl (lv_at hl 0 rfl) ?_
  refine gf_X8_57 (v := .ref ((a_this 8) 0)) hx hb hqs hown hK hP 0 rfl rfl dX8_chosenTableIs_1 ?_
  refine lv_aload_n hx hb dX8_chosenTableIs_4 rfl (lv_at hl 0 rfl) ?_
  refine gf_X8_37 (v := .ref ((a_this 5) 0)) hx hb hqs hown hK hP 0 rfl rfl dX8_chosenTableIs_5 ?_
  refine lv_iload_n hx hb dX8_chosenTableIs_8 rfl (lv_at hl 2 rfl) ?_
  refine lv_iconst (v := 1) hx hb dX8_chosenTableIs_9 (by decide) ?_
  obtain ⟨o1, e1, h⟩ := obind h
  have hPq : va_P D vwCl ((cP dT (a_this 8) g_this_chosen ++ (cW dT (a_this 5) g_this_copy)) ++ (cSP a_this)) _ := hP.perm (wj_split [cSP a_this, cW dT (a_this 5) g_this_copy, cP dT (a_this 8) g_this_chosen] [2, 1] [0] rfl)
  have hDq : va_D A ((cP dT (a_this 8) g_this_chosen ++ (cW dT (a_this 5) g_this_copy)) ++ (cSP a_this)) := hD.perm (wj_split [cSP a_this, cW dT (a_this 5) g_this_copy, cP dT (a_this 8) g_this_chosen] [2, 1] [0] rfl)
  have hPc := hPq.left
  have hDc := hDq.left
  have hFc := va_freeL hDq hS hA
  refine cl_vL (wr := (cSP a_this)) (va_runV (As := [.ref ((a_this 5) 0), .int v2, .int (1 : Int32)]) (rest := []) ⟨hx, hb, hml, hown, hts⟩ (c_X3_choose l hlt D dT (a_this 8) (a_this 5) g_this_chosen g_this_copy v2 (1 : Int32) o1 e1 _) (cwV 3 hts (TB_V w_387 w_388 w_389 w_41 w_390) rfl rfl rfl ⟨rfl, nd_X3_choose⟩ ⟨Nat.le_of_ble_eq_true rfl, Nat.le_of_ble_eq_true rfl⟩) (cPre.V hPc hDc hK hE hS hFc (va_recv hK hPc (ci := 3) (q0 := 0) rfl rfl)) rfl rfl hl.1 rfl (lv_room (Nat.le_of_ble_eq_true rfl)) dX8_chosenTableIs_10 ⟨Nat.zero_le _, Nat.zero_le _⟩) hPq hDq hS hFc (fun u1 H locs hw hP hD hS => ?_)
  subst hw
  have hP : va_P D vwCl (cSP a_this ++ (cW dT (a_this 5) g_this_copy ++ (cP dT (a_this 8) o1.2))) H := hP.perm (wj_back [cP dT (a_this 8) o1.2, cW dT (a_this 5) g_this_copy] [cSP a_this] [2, 1, 0] rfl)
  have hD : va_D A (cSP a_this ++ (cW dT (a_this 5) g_this_copy ++ (cP dT (a_this 8) o1.2))) := hD.perm (wj_back [cP dT (a_this 8) o1.2, cW dT (a_this 5) g_this_copy] [cSP a_this] [2, 1, 0] rfl)
  refine lv_aload_n hx hb dX8_chosenTableIs_13 rfl (lv_at hl 0 rfl) ?_
  refine gf_X8_57 (v := .ref ((a_this 8) 0)) hx hb hqs hown hK hP 0 rfl rfl dX8_chosenTableIs_14 ?_
  refine lv_iload_n hx hb dX8_chosenTableIs_17 rfl (lv_at hl 3 rfl) ?_
  obtain ⟨o2, e2, h⟩ := obind h
  have hPq : va_P D vwCl ((cP dT (a_this 8) o1.2) ++ (cSP a_this ++ (cW dT (a_this 5) g_this_copy))) _ := hP.perm (wj_split [cSP a_this, cW dT (a_this 5) g_this_copy, cP dT (a_this 8) o1.2] [2] [0, 1] rfl)
  have hDq : va_D A ((cP dT (a_this 8) o1.2) ++ (cSP a_this ++ (cW dT (a_this 5) g_this_copy))) := hD.perm (wj_split [cSP a_this, cW dT (a_this 5) g_this_copy, cP dT (a_this 8) o1.2] [2] [0, 1] rfl)
  have hPc := hPq.left
  have hDc := hDq.left
  have hFc := va_freeL hDq hS hA
  refine cl_iL (wr := (cSP a_this ++ (cW dT (a_this 5) g_this_copy))) (va_runV (As := [.int v3]) (rest := []) ⟨hx, hb, hml, hown, hts⟩ (c_X3_tableAt l hlt D dT (a_this 8) o1.2 v3 o2 e2 _) (cwV 1 hts (TB_V w_571 w_446 w_447 w_41 w_448) rfl rfl rfl ⟨rfl, nd_X3_tableAt⟩ ⟨Nat.le_of_ble_eq_true rfl, Nat.le_of_ble_eq_true rfl⟩) (cPre.V hPc hDc hK hE hS hFc (va_recv hK hPc (ci := 3) (q0 := 0) rfl rfl)) rfl rfl hl.1 rfl (lv_room (Nat.le_of_ble_eq_true rfl)) dX8_chosenTableIs_18 ⟨Nat.zero_le _, Nat.zero_le _⟩) hPq hDq hS hFc (fun r2 u2 H locs hw hP hD hS => ?_)
  obtain ⟨rfl, rfl⟩ := hw
  have hP : va_P D vwCl (cSP a_this ++ (cW dT (a_this 5) g_this_copy ++ (cP dT (a_this 8) o1.2))) H := hP.perm (wj_back [cP dT (a_this 8) o1.2] [cSP a_this, cW dT (a_this 5) g_this_copy] [1, 2, 0] rfl)
  have hD : va_D A (cSP a_this ++ (cW dT (a_this 5) g_this_copy ++ (cP dT (a_this 8) o1.2))) := hD.perm (wj_back [cP dT (a_this 8) o1.2] [cSP a_this, cW dT (a_this 5) g_this_copy] [1, 2, 0] rfl)
  refine lv_iload_n hx hb dX8_chosenTableIs_21 rfl (lv_at hl 1 rfl) ?_
  refine lv_icmp_ne (tgt := 29) hx hb dX8_chosenTableIs_22 (by decide) (fun c3 => ?_) (fun c3 => ?_)
  · replace h := iteF c3 h
    refine lv_iconst (v := 0) hx hb dX8_chosenTableIs_29 (by decide) ?_
    exact rt_z hx hb hr hlk hK hS (o1.2 : TP) (ret2 h) (by decide) hP hD dX8_chosenTableIs_30
  · replace h := iteT c3 h
    refine lv_iconst (v := 1) hx hb dX8_chosenTableIs_25 (by decide) ?_
    refine lv_goto (tgt := 30) hx hb dX8_chosenTableIs_26 (by decide) ?_
    exact rt_z hx hb hr hlk hK hS (o1.2 : TP) (ret2 h) (by decide) hP hD dX8_chosenTableIs_30

