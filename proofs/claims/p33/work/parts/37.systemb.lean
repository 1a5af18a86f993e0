def f_X8_link (g_this_world : TW) (g_this_history : TH) (v1 : Int32) (v2 : Int32) (v3 : Int32) (v4 : Int32) : Option ((Nat ⊕ Int32) × (TW × TH)) :=
  ((f_X8_needTwoTables g_this_world v1 v2).bind fun o1 => (fun u1 => o1.1.elim (fun k1 => (some (Sum.inl k1, (g_this_world, g_this_history)))) (fun _ => ((f_X8_needRange v3 (1 : Int32) (1000 : Int32)).bind fun o2 => (fun u2 => o2.1.elim (fun k2 => (some (Sum.inl k2, (g_this_world, g_this_history)))) (fun _ => ((f_X8_needRange v4 (1 : Int32) (1000 : Int32)).bind fun o3 => (fun u3 => o3.1.elim (fun k3 => (some (Sum.inl k3, (g_this_world, g_this_history)))) (fun _ => ((f_X1_remember g_this_history g_this_world).bind fun o4 => ((f_X8_pairIndex v1 v2).bind fun o5 => ((f_X7_linkPair g_this_world o5.1 v3 v4).bind fun o6 => (some ((Sum.inr o6.1), (o6.2, o4.2)))))))) o3.2))) o2.2))) o1.2)
set_option maxHeartbeats 8000000 in
set_option maxRecDepth 100000 in
theorem c_X8_link (l : Launch) (hlt : l.stackTraces = false) (D : va_G) (dT : Nat → ClassId) (a_this : Nat → Nat → Nat) (g_this_world : TW) (g_this_history : TH) (v1 : Int32) (v2 : Int32) (v3 : Int32) (v4 : Int32) (o : ((Nat ⊕ Int32) × (TW × TH))) (h : f_X8_link g_this_world g_this_history v1 v2 v3 v4 = some o) (sz : Nat) : vx_Met l yX8_link (WSm yX8_link cX8_link 5 (some .int)) { frames := 8, cells := 5, slots := 30, locals := 133 } (va_Pc [.ref (a_this 0 0), .int v1, .int v2, .int v3, .int v4] (cPre D dT (cSP a_this ++ (cW dT (a_this 4) g_this_world ++ (cH dT (a_this 6) g_this_history))) sz)) (va_Qi (fun (r : Int32) (u : TW × TH) => o = (Sum.inr r, u)) (fun u t => cAt D dT (va_A (cSP a_this ++ (cW dT (a_this 4) g_this_world ++ (cH dT (a_this 6) g_this_history))) sz) (cSP a_this ++ (cW dT (a_this 4) (u.1) ++ (cH dT (a_this 6) (u.2)))) t) (va_A (cSP a_this ++ (cW dT (a_this 4) g_this_world ++ (cH dT (a_this 6) g_this_history))) sz)) (xEnd D dT (xoP o) (fun u => (cSP a_this ++ (cW dT (a_this 4) (u.1) ++ (cH dT (a_this 6) (u.2))))) (va_A (cSP a_this ++ (cW dT (a_this 4) g_this_world ++ (cH dT (a_this 6) g_this_history))) sz)) 5 30 (va_A (cSP a_this ++ (cW dT (a_this 4) g_this_world ++ (cH dT (a_this 6) g_this_history))) sz) := by
  refine mStartX (WS := (cSP a_this ++ (cW dT (a_this 4) g_this_world ++ (cH dT (a_this 6) g_this_history)))) (Qc := fun A => va_Qi (fun (r : Int32) (u : TW × TH) => o = (Sum.inr r, u)) (fun u t => cAt D dT A (cSP a_this ++ (cW dT (a_this 4) (u.1) ++ (cH dT (a_this 6) (u.2)))) t) A) (XC := fun A => xEnd D dT (xoP o) (fun u => (cSP a_this ++ (cW dT (a_this 4) (u.1) ++ (cH dT (a_this 6) (u.2))))) A) RX8 rfl (by decide) (Nat.le_of_ble_eq_true rfl) ?_ sz
  intro p e s m below meth c A ls hx hb hml hr hlk hnt hts hqs hown hE hA hK hP hD hS hl
  have hl : lv_has ls 5 [(0, .ref (a_this 0 0)), (1, .int v1), (2, .int v2), (3, .int v3), (4, .int v4)] := hl
  unfold f_X8_link at h
  refine lv_aload_n hx hb dX8_link_0 rfl (lv_at hl 0 rfl) ?_
  refine lv_iload_n hx hb dX8_link_1 rfl (lv_at hl 1 rfl) ?_
  refine lv_iload_n hx hb dX8_link_2 rfl (lv_at hl 2 rfl) ?_
  obtain ⟨o1, e1, h⟩ := obind h
  have hPq : va_P D vwCl ((cSP a_this ++ (cW dT (a_this 4) g_this_world)) ++ (cH dT (a_this 6) g_this_history)) _ := hP.perm (wj_split [cSP a_this, cW dT (a_this 4) g_this_world, cH dT (a_this 6) g_this_history] [0, 1] [2] rfl)
  have hDq : va_D A ((cSP a_this ++ (cW dT (a_this 4) g_this_world)) ++ (cH dT (a_this 6) g_this_history)) := hD.perm (wj_split [cSP a_this, cW dT (a_this 4) g_this_world, cH dT (a_this 6) g_this_history] [0, 1] [2] rfl)
  have hPc := hPq.left
  have hDc := hDq.left
  have hFc := va_freeL hDq hS hA
  refine xcl_vL (wr := (cH dT (a_this 6) g_this_history)) (vx_runV (As := [.int v1, .int v2]) (rest := []) ⟨hx, hb, hml, hown, hts⟩ (c_X8_needTwoTables l hlt D dT a_this g_this_world v1 v2 o1 e1 _) (cwV 2 hts (TB_V w_788 w_790 w_29 w_33 w_791) rfl rfl rfl ⟨rfl, nd_X8_needTwoTables⟩ ⟨Nat.le_of_ble_eq_true rfl, Nat.le_of_ble_eq_true rfl⟩) (cPre.V hPc hDc hK hE hS hFc (va_recv hK hPc (ci := 7) (q0 := 0) rfl rfl)) rfl rfl hl.1 rfl (lv_room (Nat.le_of_ble_eq_true rfl)) dX8_link_3 ⟨Nat.le_of_ble_eq_true rfl, Nat.le_of_ble_eq_true rfl⟩) hPq hDq hS hFc (fun k1 u1 E1 ce1 q1 H locs hw hEk hP hD hS hxc hxv hxl => ?_) (fun u1 H locs hw hP hD hS => ?_)
  · have hw := xoP_inv hw
    subst hw
    have hP : va_P D vwCl (cSP a_this ++ (cW dT (a_this 4) g_this_world ++ (cH dT (a_this 6) g_this_history))) H := hP.perm (wj_back [cSP a_this, cW dT (a_this 4) g_this_world] [cH dT (a_this 6) g_this_history] [0, 1, 2] rfl)
    have hD : va_D A (cSP a_this ++ (cW dT (a_this 4) g_this_world ++ (cH dT (a_this 6) g_this_history))) := hD.perm (wj_back [cSP a_this, cW dT (a_this 4) g_this_world] [cH dT (a_this 6) g_this_history] [0, 1, 2] rfl)
    exact xo_S hlk hnt hK hS hEk hxc hxv hxl ((g_this_world, g_this_history) : TW × TH) (xoP_of h) hP hD rfl rfl
  subst hw
  replace h := sumR h
  have hP : va_P D vwCl (cSP a_this ++ (cW dT (a_this 4) g_this_world ++ (cH dT (a_this 6) g_this_history))) H := hP.perm (wj_back [cSP a_this, cW dT (a_this 4) g_this_world] [cH dT (a_this 6) g_this_history] [0, 1, 2] rfl)
  have hD : va_D A (cSP a_this ++ (cW dT (a_this 4) g_this_world ++ (cH dT (a_this 6) g_this_history))) := hD.perm (wj_back [cSP a_this, cW dT (a_this 4) g_this_world] [cH dT (a_this 6) g_this_history] [0, 1, 2] rfl)
  refine lv_iload_n hx hb dX8_link_6 rfl (lv_at hl 3 rfl) ?_
  refine lv_iconst (v := 1) hx hb dX8_link_7 (by decide) ?_
  refine lv_sipush (v := 1000) hx hb dX8_link_8 (by decide) ?_
  obtain ⟨o2, e2, h⟩ := obind h
  have hPq : va_P D vwCl (([] : va_W) ++ (cSP a_this ++ (cW dT (a_this 4) g_this_world ++ (cH dT (a_this 6) g_this_history)))) _ := hP.perm (wj_split [cSP a_this, cW dT (a_this 4) g_this_world, cH dT (a_this 6) g_this_history] [] [0, 1, 2] rfl)
  have hDq : va_D A (([] : va_W) ++ (cSP a_this ++ (cW dT (a_this 4) g_this_world ++ (cH dT (a_this 6) g_this_history)))) := hD.perm (wj_split [cSP a_this, cW dT (a_this 4) g_this_world, cH dT (a_this 6) g_this_history] [] [0, 1, 2] rfl)
  have hPc := hPq.left
  have hDc := hDq.left
  have hFc := va_freeL hDq hS hA
  refine xcl_vL (wr := (cSP a_this ++ (cW dT (a_this 4) g_this_world ++ (cH dT (a_this 6) g_this_history)))) (vx_runS (As := [.int v3, .int (1 : Int32), .int (1000 : Int32)]) (rest := []) ⟨hx, hb, hml, hown, hts⟩ (c_X8_needRange l hlt D dT v3 (1 : Int32) (1000 : Int32) o2 e2 _) (va_cwS 3 hts (TB_S w_287 w_288 w_33 w_289) rfl rfl rfl nd_X8_needRange ⟨Nat.le_of_ble_eq_true rfl, Nat.le_of_ble_eq_true rfl⟩) (cPre.S hPc hDc hK hE hS hFc) rfl rfl hl.1 rfl (lv_room (Nat.le_of_ble_eq_true rfl)) dX8_link_11 ⟨Nat.le_of_ble_eq_true rfl, Nat.le_of_ble_eq_true rfl⟩) hPq hDq hS hFc (fun k2 u2 E2 ce2 q2 H locs hw hEk hP hD hS hxc hxv hxl => ?_) (fun u2 H locs hw hP hD hS => ?_)
  · have hw := xoP_inv hw
    subst hw
    have hP : va_P D vwCl (cSP a_this ++ (cW dT (a_this 4) g_this_world ++ (cH dT (a_this 6) g_this_history))) H := hP.perm (wj_back [] [cSP a_this, cW dT (a_this 4) g_this_world, cH dT (a_this 6) g_this_history] [0, 1, 2] rfl)
    have hD : va_D A (cSP a_this ++ (cW dT (a_this 4) g_this_world ++ (cH dT (a_this 6) g_this_history))) := hD.perm (wj_back [] [cSP a_this, cW dT (a_this 4) g_this_world, cH dT (a_this 6) g_this_history] [0, 1, 2] rfl)
    exact xo_S hlk hnt hK hS hEk hxc hxv hxl ((g_this_world, g_this_history) : TW × TH) (xoP_of h) hP hD rfl rfl
  subst hw
  replace h := sumR h
  have hP : va_P D vwCl (cSP a_this ++ (cW dT (a_this 4) g_this_world ++ (cH dT (a_this 6) g_this_history))) H := hP.perm (wj_back [] [cSP a_this, cW dT (a_this 4) g_this_world, cH dT (a_this 6) g_this_history] [0, 1, 2] rfl)
  have hD : va_D A (cSP a_this ++ (cW dT (a_this 4) g_this_world ++ (cH dT (a_this 6) g_this_history))) := hD.perm (wj_back [] [cSP a_this, cW dT (a_this 4) g_this_world, cH dT (a_this 6) g_this_history] [0, 1, 2] rfl)
  refine lv_iload hx hb dX8_link_14 (lv_at hl 4 rfl) ?_
  refine lv_iconst (v := 1) hx hb dX8_link_16 (by decide) ?_
  refine lv_sipush (v := 1000) hx hb dX8_link_17 (by decide) ?_
  obtain ⟨o3, e3, h⟩ := obind h
  have hPq : va_P D vwCl (([] : va_W) ++ (cSP a_this ++ (cW dT (a_this 4) g_this_world ++ (cH dT (a_this 6) g_this_history)))) _ := hP.perm (wj_split [cSP a_this, cW dT (a_this 4) g_this_world, cH dT (a_this 6) g_this_history] [] [0, 1, 2] rfl)
  have hDq : va_D A (([] : va_W) ++ (cSP a_this ++ (cW dT (a_this 4) g_this_world ++ (cH dT (a_this 6) g_this_history)))) := hD.perm (wj_split [cSP a_this, cW dT (a_this 4) g_this_world, cH dT (a_this 6) g_this_history] [] [0, 1, 2] rfl)
  have hPc := hPq.left
  have hDc := hDq.left
  have hFc := va_freeL hDq hS hA
  refine xcl_vL (wr := (cSP a_this ++ (cW dT (a_this 4) g_this_world ++ (cH dT (a_this 6) g_this_history)))) (vx_runS (As := [.int v4, .int (1 : Int32), .int (1000 : Int32)]) (rest := []) ⟨hx, hb, hml, hown, hts⟩ (c_X8_needRange l hlt D dT v4 (1 : Int32) (1000 : Int32) o3 e3 _) (va_cwS 3 hts (TB_S w_287 w_288 w_33 w_289) rfl rfl rfl nd_X8_needRange ⟨Nat.le_of_ble_eq_true rfl, Nat.le_of_ble_eq_true rfl⟩) (cPre.S hPc hDc hK hE hS hFc) rfl rfl hl.1 rfl (lv_room (Nat.le_of_ble_eq_true rfl)) dX8_link_20 ⟨Nat.le_of_ble_eq_true rfl, Nat.le_of_ble_eq_true rfl⟩) hPq hDq hS hFc (fun k3 u3 E3 ce3 q3 H locs hw hEk hP hD hS hxc hxv hxl => ?_) (fun u3 H locs hw hP hD hS => ?_)
  · have hw := xoP_inv hw
    subst hw
    have hP : va_P D vwCl (cSP a_this ++ (cW dT (a_this 4) g_this_world ++ (cH dT (a_this 6) g_this_history))) H := hP.perm (wj_back [] [cSP a_this, cW dT (a_this 4) g_this_world, cH dT (a_this 6) g_this_history] [0, 1, 2] rfl)
    have hD : va_D A (cSP a_this ++ (cW dT (a_this 4) g_this_world ++ (cH dT (a_this 6) g_this_history))) := hD.perm (wj_back [] [cSP a_this, cW dT (a_this 4) g_this_world, cH dT (a_this 6) g_this_history] [0, 1, 2] rfl)
    exact xo_S hlk hnt hK hS hEk hxc hxv hxl ((g_this_world, g_this_history) : TW × TH) (xoP_of h) hP hD rfl rfl
  subst hw
  replace h := sumR h
  have hP : va_P D vwCl (cSP a_this ++ (cW dT (a_this 4) g_this_world ++ (cH dT (a_this 6) g_this_history))) H := hP.perm (wj_back [] [cSP a_this, cW dT (a_this 4) g_this_world, cH dT (a_this 6) g_this_history] [0, 1, 2] rfl)
  have hD : va_D A (cSP a_this ++ (cW dT (a_this 4) g_this_world ++ (cH dT (a_this 6) g_this_history))) := hD.perm (wj_back [] [cSP a_this, cW dT (a_this 4) g_this_world, cH dT (a_this 6) g_this_history] [0, 1, 2] rfl)
  refine lv_aload_n hx hb dX8_link_23 rfl (lv_at hl 0 rfl) ?_
  refine gf_X8_43 (v := .ref ((a_this 6) 0)) hx hb hqs hown hK hP 0 rfl rfl dX8_link_24 ?_
  refine lv_aload_n hx hb dX8_link_27 rfl (lv_at hl 0 rfl) ?_
  refine gf_X8_33 (v := .ref ((a_this 4) 0)) hx hb hqs hown hK hP 0 rfl rfl dX8_link_28 ?_
  obtain ⟨o4, e4, h⟩ := obind h
  have hPq : va_P D vwCl ((cH dT (a_this 6) g_this_history ++ (cW dT (a_this 4) g_this_world)) ++ (cSP a_this)) _ := hP.perm (wj_split [cSP a_this, cW dT (a_this 4) g_this_world, cH dT (a_this 6) g_this_history] [2, 1] [0] rfl)
  have hDq : va_D A ((cH dT (a_this 6) g_this_history ++ (cW dT (a_this 4) g_this_world)) ++ (cSP a_this)) := hD.perm (wj_split [cSP a_this, cW dT (a_this 4) g_this_world, cH dT (a_this 6) g_this_history] [2, 1] [0] rfl)
  have hPc := hPq.left
  have hDc := hDq.left
  have hFc := va_freeL hDq hS hA
  refine cl_vL (wr := (cSP a_this)) (va_runV (As := [.ref ((a_this 4) 0)]) (rest := []) ⟨hx, hb, hml, hown, hts⟩ (c_X1_remember l hlt D dT (a_this 6) (a_this 4) g_this_history g_this_world o4 e4 _) (cwV 1 hts (TB_V w_824 w_825 w_826 w_39 w_827) rfl rfl rfl ⟨rfl, nd_X1_remember⟩ ⟨Nat.le_of_ble_eq_true rfl, Nat.le_of_ble_eq_true rfl⟩) (cPre.V hPc hDc hK hE hS hFc (va_recv hK hPc (ci := 1) (q0 := 0) rfl rfl)) rfl rfl hl.1 rfl (lv_room (Nat.le_of_ble_eq_true rfl)) dX8_link_31 ⟨Nat.le_of_ble_eq_true rfl, Nat.le_of_ble_eq_true rfl⟩) hPq hDq hS hFc (fun u4 H locs hw hP hD hS => ?_)
  subst hw
  have hP : va_P D vwCl (cSP a_this ++ (cW dT (a_this 4) g_this_world ++ (cH dT (a_this 6) o4.2))) H := hP.perm (wj_back [cH dT (a_this 6) o4.2, cW dT (a_this 4) g_this_world] [cSP a_this] [2, 1, 0] rfl)
  have hD : va_D A (cSP a_this ++ (cW dT (a_this 4) g_this_world ++ (cH dT (a_this 6) o4.2))) := hD.perm (wj_back [cH dT (a_this 6) o4.2, cW dT (a_this 4) g_this_world] [cSP a_this] [2, 1, 0] rfl)
  refine lv_aload_n hx hb dX8_link_34 rfl (lv_at hl 0 rfl) ?_
  refine gf_X8_33 (v := .ref ((a_this 4) 0)) hx hb hqs hown hK hP 0 rfl rfl dX8_link_35 ?_
  refine lv_iload_n hx hb dX8_link_38 rfl (lv_at hl 1 rfl) ?_
  refine lv_iload_n hx hb dX8_link_39 rfl (lv_at hl 2 rfl) ?_
  obtain ⟨o5, e5, h⟩ := obind h
  have hPq : va_P D vwCl (([] : va_W) ++ (cSP a_this ++ (cW dT (a_this 4) g_this_world ++ (cH dT (a_this 6) o4.2)))) _ := hP.perm (wj_split [cSP a_this, cW dT (a_this 4) g_this_world, cH dT (a_this 6) o4.2] [] [0, 1, 2] rfl)
  have hDq : va_D A (([] : va_W) ++ (cSP a_this ++ (cW dT (a_this 4) g_this_world ++ (cH dT (a_this 6) o4.2)))) := hD.perm (wj_split [cSP a_this, cW dT (a_this 4) g_this_world, cH dT (a_this 6) o4.2] [] [0, 1, 2] rfl)
  have hPc := hPq.left
  have hDc := hDq.left
  have hFc := va_freeL hDq hS hA
  refine cl_iL (wr := (cSP a_this ++ (cW dT (a_this 4) g_this_world ++ (cH dT (a_this 6) o4.2)))) (va_runS (As := [.int v1, .int v2]) (rest := [.ref ((a_this 4) 0)]) ⟨hx, hb, hml, hown, hts⟩ (c_X8_pairIndex l hlt D dT v1 v2 o5 e5 _) (va_cwS 2 hts (TB_S w_530 w_473 w_33 w_474) rfl rfl rfl nd_X8_pairIndex ⟨Nat.le_of_ble_eq_true rfl, Nat.le_of_ble_eq_true rfl⟩) (cPre.S hPc hDc hK hE hS hFc) rfl rfl hl.1 rfl (lv_room (Nat.le_of_ble_eq_true rfl)) dX8_link_40 ⟨Nat.le_of_ble_eq_true rfl, Nat.le_of_ble_eq_true rfl⟩) hPq hDq hS hFc (fun r5 u5 H locs hw hP hD hS => ?_)
  obtain ⟨rfl, rfl⟩ := hw
  have hP : va_P D vwCl (cSP a_this ++ (cW dT (a_this 4) g_this_world ++ (cH dT (a_this 6) o4.2))) H := hP.perm (wj_back [] [cSP a_this, cW dT (a_this 4) g_this_world, cH dT (a_this 6) o4.2] [0, 1, 2] rfl)
  have hD : va_D A (cSP a_this ++ (cW dT (a_this 4) g_this_world ++ (cH dT (a_this 6) o4.2))) := hD.perm (wj_back [] [cSP a_this, cW dT (a_this 4) g_this_world, cH dT (a_this 6) o4.2] [0, 1, 2] rfl)
  refine lv_iload_n hx hb dX8_link_43 rfl (lv_at hl 3 rfl) ?_
  refine lv_iload hx hb dX8_link_44 (lv_at hl 4 rfl) ?_
  obtain ⟨o6, e6, h⟩ := obind h
  have hPq : va_P D vwCl ((cW dT (a_this 4) g_this_world) ++ (cSP a_this ++ (cH dT (a_this 6) o4.2))) _ := hP.perm (wj_split [cSP a_this, cW dT (a_this 4) g_this_world, cH dT (a_this 6) o4.2] [1] [0, 2] rfl)
  have hDq : va_D A ((cW dT (a_this 4) g_this_world) ++ (cSP a_this ++ (cH dT (a_this 6) o4.2))) := hD.perm (wj_split [cSP a_this, cW dT (a_this 4) g_this_world, cH dT (a_this 6) o4.2] [1] [0, 2] rfl)
  have hPc := hPq.left
  have hDc := hDq.left
  have hFc := va_freeL hDq hS hA
  refine cl_iL (wr := (cSP a_this ++ (cH dT (a_this 6) o4.2))) (va_runV (As := [.int o5.1, .int v3, .int v4]) (rest := []) ⟨hx, hb, hml, hown, hts⟩ (c_X7_linkPair l hlt D dT (a_this 4) g_this_world o5.1 v3 v4 o6 e6 _) (cwV 3 hts (TB_V w_559 w_560 w_561 w_38 w_562) rfl rfl rfl ⟨rfl, nd_X7_linkPair⟩ ⟨Nat.le_of_ble_eq_true rfl, Nat.le_of_ble_eq_true rfl⟩) (cPre.V hPc hDc hK hE hS hFc (va_recv hK hPc (ci := 6) (q0 := 0) rfl rfl)) rfl rfl hl.1 rfl (lv_room (Nat.le_of_ble_eq_true rfl)) dX8_link_46 ⟨Nat.le_of_ble_eq_true rfl, Nat.le_of_ble_eq_true rfl⟩) hPq hDq hS hFc (fun r6 u6 H locs hw hP hD hS => ?_)
  obtain ⟨rfl, rfl⟩ := hw
  have hP : va_P D vwCl (cSP a_this ++ (cW dT (a_this 4) o6.2 ++ (cH dT (a_this 6) o4.2))) H := hP.perm (wj_back [cW dT (a_this 4) o6.2] [cSP a_this, cH dT (a_this 6) o4.2] [1, 0, 2] rfl)
  have hD : va_D A (cSP a_this ++ (cW dT (a_this 4) o6.2 ++ (cH dT (a_this 6) o4.2))) := hD.perm (wj_back [cW dT (a_this 4) o6.2] [cSP a_this, cH dT (a_this 6) o4.2] [1, 0, 2] rfl)
  exact vx_ret (rt_i hx hb hr hlk hK hS ((o6.2, o4.2) : TW × TH) (Option.some.inj h).symm hP hD dX8_link_49)

def f_X8_drift (g_this_world : TW) (g_this_history : TH) (v1 : Int32) (v2 : Int32) (v3 : Int32) : Option ((Nat ⊕ Int32) × (TW × TH)) :=
  ((f_X8_needTwoTables g_this_world v1 v2).bind fun o1 => (fun u1 => o1.1.elim (fun k1 => (some (Sum.inl k1, (g_this_world, g_this_history)))) (fun _ => ((f_X8_needRange v3 (1 : Int32) (1000 : Int32)).bind fun o2 => (fun u2 => o2.1.elim (fun k2 => (some (Sum.inl k2, (g_this_world, g_this_history)))) (fun _ => ((f_X8_pairIndex v1 v2).bind fun o3 => ((f_X7_isLinked g_this_world o3.1).bind fun o4 => (if o4.1 = (0 : Int32) then (some (Sum.inl 1, (g_this_world, g_this_history))) else ((f_X1_remember g_this_history g_this_world).bind fun o6 => ((f_X8_pairIndex v1 v2).bind fun o7 => ((f_X7_changeShare g_this_world o7.1 v3).bind fun o8 => (some ((Sum.inr o8.1), (o8.2, o6.2))))))))))) o2.2))) o1.2)
set_option maxHeartbeats 8000000 in
set_option maxRecDepth 100000 in
theorem c_X8_drift (l : Launch) (hlt : l.stackTraces = false) (D : va_G) (dT : Nat → ClassId) (a_this : Nat → Nat → Nat) (g_this_world : TW) (g_this_history : TH) (v1 : Int32) (v2 : Int32) (v3 : Int32) (o : ((Nat ⊕ Int32) × (TW × TH))) (h : f_X8_drift g_this_world g_this_history v1 v2 v3 = some o) (sz : Nat) : vx_Met l yX8_drift (WSm yX8_drift cX8_drift 4 (some .int)) { frames := 8, cells := 5, slots := 30, locals := 133 } (va_Pc [.ref (a_this 0 0), .int v1, .int v2, .int v3] (cPre D dT (cSP a_this ++ (cW dT (a_this 4) g_this_world ++ (cH dT (a_this 6) g_this_history))) sz)) (va_Qi (fun (r : Int32) (u : TW × TH) => o = (Sum.inr r, u)) (fun u t => cAt D dT (va_A (cSP a_this ++ (cW dT (a_this 4) g_this_world ++ (cH dT (a_this 6) g_this_history))) sz) (cSP a_this ++ (cW dT (a_this 4) (u.1) ++ (cH dT (a_this 6) (u.2)))) t) (va_A (cSP a_this ++ (cW dT (a_this 4) g_this_world ++ (cH dT (a_this 6) g_this_history))) sz)) (xEnd D dT (xoP o) (fun u => (cSP a_this ++ (cW dT (a_this 4) (u.1) ++ (cH dT (a_this 6) (u.2))))) (va_A (cSP a_this ++ (cW dT (a_this 4) g_this_world ++ (cH dT (a_this 6) g_this_history))) sz)) 5 30 (va_A (cSP a_this ++ (cW dT (a_this 4) g_this_world ++ (cH dT (a_this 6) g_this_history))) sz) := by
  refine mStartX (WS := (cSP a_this ++ (cW dT (a_this 4) g_this_world ++ (cH dT (a_this 6) g_this_history)))) (Qc := fun A => va_Qi (fun (r : Int32) (u : TW × TH) => o = (Sum.inr r, u)) (fun u t => cAt D dT A (cSP a_this ++ (cW dT (a_this 4) (u.1) ++ (cH dT (a_this 6) (u.2)))) t) A) (XC := fun A => xEnd D dT (xoP o) (fun u => (cSP a_this ++ (cW dT (a_this 4) (u.1) ++ (cH dT (a_this 6) (u.2))))) A) RX8 rfl (by decide) (Nat.le_of_ble_eq_true rfl) ?_ sz
  intro p e s m below meth c A ls hx hb hml hr hlk hnt hts hqs hown hE hA hK hP hD hS hl
  have hl : lv_has ls 4 [(0, .ref (a_this 0 0)), (1, .int v1), (2, .int v2), (3, .int v3)] := hl
  unfold f_X8_drift at h
  refine lv_aload_n hx hb dX8_drift_0 rfl (lv_at hl 0 rfl) ?_
  refine lv_iload_n hx hb dX8_drift_1 rfl (lv_at hl 1 rfl) ?_
  refine lv_iload_n hx hb dX8_drift_2 rfl (lv_at hl 2 rfl) ?_
  obtain ⟨o1, e1, h⟩ := obind h
  have hPq : va_P D vwCl ((cSP a_this ++ (cW dT (a_this 4) g_this_world)) ++ (cH dT (a_this 6) g_this_history)) _ := hP.perm (wj_split [cSP a_this, cW dT (a_this 4) g_this_world, cH dT (a_this 6) g_this_history] [0, 1] [2] rfl)
  have hDq : va_D A ((cSP a_this ++ (cW dT (a_this 4) g_this_world)) ++ (cH dT (a_this 6) g_this_history)) := hD.perm (wj_split [cSP a_this, cW dT (a_this 4) g_this_world, cH dT (a_this 6) g_this_history] [0, 1] [2] rfl)
  have hPc := hPq.left
  have hDc := hDq.left
  have hFc := va_freeL hDq hS hA
  refine xcl_vL (wr := (cH dT (a_this 6) g_this_history)) (vx_runV (As := [.int v1, .int v2]) (rest := []) ⟨hx, hb, hml, hown, hts⟩ (c_X8_needTwoTables l hlt D dT a_this g_this_world v1 v2 o1 e1 _) (cwV 2 hts (TB_V w_788 w_790 w_29 w_33 w_791) rfl rfl rfl ⟨rfl, nd_X8_needTwoTables⟩ ⟨Nat.le_of_ble_eq_true rfl, Nat.le_of_ble_eq_true rfl⟩) (cPre.V hPc hDc hK hE hS hFc (va_recv hK hPc (ci := 7) (q0 := 0) rfl rfl)) rfl rfl hl.1 rfl (lv_room (Nat.le_of_ble_eq_true rfl)) dX8_drift_3 ⟨Nat.le_of_ble_eq_true rfl, Nat.le_of_ble_eq_true rfl⟩) hPq hDq hS hFc (fun k1 u1 E1 ce1 q1 H locs hw hEk hP hD hS hxc hxv hxl => ?_) (fun u1 H locs hw hP hD hS => ?_)
  · have hw := xoP_inv hw
    subst hw
    have hP : va_P D vwCl (cSP a_this ++ (cW dT (a_this 4) g_this_world ++ (cH dT (a_this 6) g_this_history))) H := hP.perm (wj_back [cSP a_this, cW dT (a_this 4) g_this_world] [cH dT (a_this 6) g_this_history] [0, 1, 2] rfl)
    have hD : va_D A (cSP a_this ++ (cW dT (a_this 4) g_this_world ++ (cH dT (a_this 6) g_this_history))) := hD.perm (wj_back [cSP a_this, cW dT (a_this 4) g_this_world] [cH dT (a_this 6) g_this_history] [0, 1, 2] rfl)
    exact xo_S hlk hnt hK hS hEk hxc hxv hxl ((g_this_world, g_this_history) : TW × TH) (xoP_of h) hP hD rfl rfl
  subst hw
  replace h := sumR h
  have hP : va_P D vwCl (cSP a_this ++ (cW dT (a_this 4) g_this_world ++ (cH dT (a_this 6) g_this_history))) H := hP.perm (wj_back [cSP a_this, cW dT (a_this 4) g_this_world] [cH dT (a_this 6) g_this_history] [0, 1, 2] rfl)
  have hD : va_D A (cSP a_this ++ (cW dT (a_this 4) g_this_world ++ (cH dT (a_this 6) g_this_history))) := hD.perm (wj_back [cSP a_this, cW dT (a_this 4) g_this_world] [cH dT (a_this 6) g_this_history] [0, 1, 2] rfl)
  refine lv_iload_n hx hb dX8_drift_6 rfl (lv_at hl 3 rfl) ?_
  refine lv_iconst (v := 1) hx hb dX8_drift_7 (by decide) ?_
  refine lv_sipush (v := 1000) hx hb dX8_drift_8 (by decide) ?_
  obtain ⟨o2, e2, h⟩ := obind h
  have hPq : va_P D vwCl (([] : va_W) ++ (cSP a_this ++ (cW dT (a_this 4) g_this_world ++ (cH dT (a_this 6) g_this_history)))) _ := hP.perm (wj_split [cSP a_this, cW dT (a_this 4) g_this_world, cH dT (a_this 6) g_this_history] [] [0, 1, 2] rfl)
  have hDq : va_D A (([] : va_W) ++ (cSP a_this ++ (cW dT (a_this 4) g_this_world ++ (cH dT (a_this 6) g_this_history)))) := hD.perm (wj_split [cSP a_this, cW dT (a_this 4) g_this_world, cH dT (a_this 6) g_this_history] [] [0, 1, 2] rfl)
  have hPc := hPq.left
  have hDc := hDq.left
  have hFc := va_freeL hDq hS hA
  refine xcl_vL (wr := (cSP a_this ++ (cW dT (a_this 4) g_this_world ++ (cH dT (a_this 6) g_this_history)))) (vx_runS (As := [.int v3, .int (1 : Int32), .int (1000 : Int32)]) (rest := []) ⟨hx, hb, hml, hown, hts⟩ (c_X8_needRange l hlt D dT v3 (1 : Int32) (1000 : Int32) o2 e2 _) (va_cwS 3 hts (TB_S w_287 w_288 w_33 w_289) rfl rfl rfl nd_X8_needRange ⟨Nat.le_of_ble_eq_true rfl, Nat.le_of_ble_eq_true rfl⟩) (cPre.S hPc hDc hK hE hS hFc) rfl rfl hl.1 rfl (lv_room (Nat.le_of_ble_eq_true rfl)) dX8_drift_11 ⟨Nat.le_of_ble_eq_true rfl, Nat.le_of_ble_eq_true rfl⟩) hPq hDq hS hFc (fun k2 u2 E2 ce2 q2 H locs hw hEk hP hD hS hxc hxv hxl => ?_) (fun u2 H locs hw hP hD hS => ?_)
  · have hw := xoP_inv hw
    subst hw
    have hP : va_P D vwCl (cSP a_this ++ (cW dT (a_this 4) g_this_world ++ (cH dT (a_this 6) g_this_history))) H := hP.perm (wj_back [] [cSP a_this, cW dT (a_this 4) g_this_world, cH dT (a_this 6) g_this_history] [0, 1, 2] rfl)
    have hD : va_D A (cSP a_this ++ (cW dT (a_this 4) g_this_world ++ (cH dT (a_this 6) g_this_history))) := hD.perm (wj_back [] [cSP a_this, cW dT (a_this 4) g_this_world, cH dT (a_this 6) g_this_history] [0, 1, 2] rfl)
    exact xo_S hlk hnt hK hS hEk hxc hxv hxl ((g_this_world, g_this_history) : TW × TH) (xoP_of h) hP hD rfl rfl
  subst hw
  replace h := sumR h
  have hP : va_P D vwCl (cSP a_this ++ (cW dT (a_this 4) g_this_world ++ (cH dT (a_this 6) g_this_history))) H := hP.perm (wj_back [] [cSP a_this, cW dT (a_this 4) g_this_world, cH dT (a_this 6) g_this_history] [0, 1, 2] rfl)
  have hD : va_D A (cSP a_this ++ (cW dT (a_this 4) g_this_world ++ (cH dT (a_this 6) g_this_history))) := hD.perm (wj_back [] [cSP a_this, cW dT (a_this 4) g_this_world, cH dT (a_this 6) g_this_history] [0, 1, 2] rfl)
  refine lv_aload_n hx hb dX8_drift_14 rfl (lv_at hl 0 rfl) ?_
  refine gf_X8_33 (v := .ref ((a_this 4) 0)) hx hb hqs hown hK hP 0 rfl rfl dX8_drift_15 ?_
  refine lv_iload_n hx hb dX8_drift_18 rfl (lv_at hl 1 rfl) ?_
  refine lv_iload_n hx hb dX8_drift_19 rfl (lv_at hl 2 rfl) ?_
  obtain ⟨o3, e3, h⟩ := obind h
  have hPq : va_P D vwCl (([] : va_W) ++ (cSP a_this ++ (cW dT (a_this 4) g_this_world ++ (cH dT (a_this 6) g_this_history)))) _ := hP.perm (wj_split [cSP a_this, cW dT (a_this 4) g_this_world, cH dT (a_this 6) g_this_history] [] [0, 1, 2] rfl)
  have hDq : va_D A (([] : va_W) ++ (cSP a_this ++ (cW dT (a_this 4) g_this_world ++ (cH dT (a_this 6) g_this_history)))) := hD.perm (wj_split [cSP a_this, cW dT (a_this 4) g_this_world, cH dT (a_this 6) g_this_history] [] [0, 1, 2] rfl)
  have hPc := hPq.left
  have hDc := hDq.left
  have hFc := va_freeL hDq hS hA
  refine cl_iL (wr := (cSP a_this ++ (cW dT (a_this 4) g_this_world ++ (cH dT (a_this 6) g_this_history)))) (va_runS (As := [.int v1, .int v2]) (rest := [.ref ((a_this 4) 0)]) ⟨hx, hb, hml, hown, hts⟩ (c_X8_pairIndex l hlt D dT v1 v2 o3 e3 _) (va_cwS 2 hts (TB_S w_530 w_473 w_33 w_474) rfl rfl rfl nd_X8_pairIndex ⟨Nat.le_of_ble_eq_true rfl, Nat.le_of_ble_eq_true rfl⟩) (cPre.S hPc hDc hK hE hS hFc) rfl rfl hl.1 rfl (lv_room (Nat.le_of_ble_eq_true rfl)) dX8_drift_20 ⟨Nat.le_of_ble_eq_true rfl, Nat.le_of_ble_eq_true rfl⟩) hPq hDq hS hFc (fun r3 u3 H locs hw hP hD hS => ?_)
  obtain ⟨rfl, rfl⟩ := hw
  have hP : va_P D vwCl (cSP a_this ++ (cW dT (a_this 4) g_this_world ++ (cH dT (a_this 6) g_this_history))) H := hP.perm (wj_back [] [cSP a_this, cW dT (a_this 4) g_this_world, cH dT (a_this 6) g_this_history] [0, 1, 2] rfl)
  have hD : va_D A (cSP a_this ++ (cW dT (a_this 4) g_this_world ++ (cH dT (a_this 6) g_this_history))) := hD.perm (wj_back [] [cSP a_this, cW dT (a_this 4) g_this_world, cH dT (a_this 6) g_this_history] [0, 1, 2] rfl)
  obtain ⟨o4, e4, h⟩ := obind h
  have hPq : va_P D vwCl ((cW dT (a_this 4) g_this_world) ++ (cSP a_this ++ (cH dT (a_this 6) g_this_history))) _ := hP.perm (wj_split [cSP a_this, cW dT (a_this 4) g_this_world, cH dT (a_this 6) g_this_history] [1] [0, 2] rfl)
  have hDq : va_D A ((cW dT (a_this 4) g_this_world) ++ (cSP a_this ++ (cH dT (a_this 6) g_this_history))) := hD.perm (wj_split [cSP a_this, cW dT (a_this 4) g_this_world, cH dT (a_this 6) g_this_history] [1] [0, 2] rfl)
  have hPc := hPq.left
  have hDc := hDq.left
  have hFc := va_freeL hDq hS hA
  refine cl_iL (wr := (cSP a_this ++ (cH dT (a_this 6) g_this_history))) (va_runV (As := [.int o3.1]) (rest := []) ⟨hx, hb, hml, hown, hts⟩ (c_X7_isLinked l hlt D dT (a_this 4) g_this_world o3.1 o4 e4 _) (cwV 1 hts (TB_V w_531 w_482 w_483 w_38 w_484) rfl rfl rfl ⟨rfl, nd_X7_isLinked⟩ ⟨Nat.le_of_ble_eq_true rfl, Nat.le_of_ble_eq_true rfl⟩) (cPre.V hPc hDc hK hE hS hFc (va_recv hK hPc (ci := 6) (q0 := 0) rfl rfl)) rfl rfl hl.1 rfl (lv_room (Nat.le_of_ble_eq_true rfl)) dX8_drift_23 ⟨Nat.le_of_ble_eq_true rfl, Nat.le_of_ble_eq_true rfl⟩) hPq hDq hS hFc (fun r4 u4 H locs hw hP hD hS => ?_)
  obtain ⟨rfl, rfl⟩ := hw
  have hP : va_P D vwCl (cSP a_this ++ (cW dT (a_this 4) g_this_world ++ (cH dT (a_this 6) g_this_history))) H := hP.perm (wj_back [cW dT (a_this 4) g_this_world] [cSP a_this, cH dT (a_this 6) g_this_history] [1, 0, 2] rfl)
  have hD : va_D A (cSP a_this ++ (cW dT (a_this 4) g_this_world ++ (cH dT (a_this 6) g_this_history))) := hD.perm (wj_back [cW dT (a_this 4) g_this_world] [cSP a_this, cH dT (a_this 6) g_this_history] [1, 0, 2] rfl)
  refine lv_if_ne (tgt := 39) hx hb dX8_drift_26 (by decide) (fun c5 => ?_) (fun c5 => ?_)
  · replace h := iteF c5 h
    refine lv_aload_n hx hb dX8_drift_39 rfl (lv_at hl 0 rfl) ?_
    refine gf_X8_43 (v := .ref ((a_this 6) 0)) hx hb hqs hown hK hP 0 rfl rfl dX8_drift_40 ?_
    refine lv_aload_n hx hb dX8_drift_43 rfl (lv_at hl 0 rfl) ?_
    refine gf_X8_33 (v := .ref ((a_this 4) 0)) hx hb hqs hown hK hP 0 rfl rfl dX8_drift_44 ?_
    obtain ⟨o6, e6, h⟩ := obind h
    have hPq : va_P D vwCl ((cH dT (a_this 6) g_this_history ++ (cW dT (a_this 4) g_this_world)) ++ (cSP a_this)) _ := hP.perm (wj_split [cSP a_this, cW dT (a_this 4) g_this_world, cH dT (a_this 6) g_this_history] [2, 1] [0] rfl)
    have hDq : va_D A ((cH dT (a_this 6) g_this_history ++ (cW dT (a_this 4) g_this_world)) ++ (cSP a_this)) := hD.perm (wj_split [cSP a_this, cW dT (a_this 4) g_this_world, cH dT (a_this 6) g_this_history] [2, 1] [0] rfl)
    have hPc := hPq.left
    have hDc := hDq.left
    have hFc := va_freeL hDq hS hA
    refine cl_vL (wr := (cSP a_this)) (va_runV (As := [.ref ((a_this 4) 0)]) (rest := []) ⟨hx, hb, hml, hown, hts⟩ (c_X1_remember l hlt D dT (a_this 6) (a_this 4) g_this_history g_this_world o6 e6 _) (cwV 1 hts (TB_V w_824 w_825 w_826 w_39 w_827) rfl rfl rfl ⟨rfl, nd_X1_remember⟩ ⟨Nat.le_of_ble_eq_true rfl, Nat.le_of_ble_eq_true rfl⟩) (cPre.V hPc hDc hK hE hS hFc (va_recv hK hPc (ci := 1) (q0 := 0) rfl rfl)) rfl rfl hl.1 rfl (lv_room (Nat.le_of_ble_eq_true rfl)) dX8_drift_47 ⟨Nat.le_of_ble_eq_true rfl, Nat.le_of_ble_eq_true rfl⟩) hPq hDq hS hFc (fun u6 H locs hw hP hD hS => ?_)
    subst hw
    have hP : va_P D vwCl (cSP a_this ++ (cW dT (a_this 4) g_this_world ++ (cH dT (a_this 6) o6.2))) H := hP.perm (wj_back [cH dT (a_this 6) o6.2, cW dT (a_this 4) g_this_world] [cSP a_this] [2, 1, 0] rfl)
    have hD : va_D A (cSP a_this ++ (cW dT (a_this 4) g_this_world ++ (cH dT (a_this 6) o6.2))) := hD.perm (wj_back [cH dT (a_this 6) o6.2, cW dT (a_this 4) g_this_world] [cSP a_this] [2, 1, 0] rfl)
    refine lv_aload_n hx hb dX8_drift_50 rfl (lv_at hl 0 rfl) ?_
    refine gf_X8_33 (v := .ref ((a_this 4) 0)) hx hb hqs hown hK hP 0 rfl rfl dX8_drift_51 ?_
    refine lv_iload_n hx hb dX8_drift_54 rfl (lv_at hl 1 rfl) ?_
    refine lv_iload_n hx hb dX8_drift_55 rfl (lv_at hl 2 rfl) ?_
    obtain ⟨o7, e7, h⟩ := obind h
    have hPq : va_P D vwCl (([] : va_W) ++ (cSP a_this ++ (cW dT (a_this 4) g_this_world ++ (cH dT (a_this 6) o6.2)))) _ := hP.perm (wj_split [cSP a_this, cW dT (a_this 4) g_this_world, cH dT (a_this 6) o6.2] [] [0, 1, 2] rfl)
    have hDq : va_D A (([] : va_W) ++ (cSP a_this ++ (cW dT (a_this 4) g_this_world ++ (cH dT (a_this 6) o6.2)))) := hD.perm (wj_split [cSP a_this, cW dT (a_this 4) g_this_world, cH dT (a_this 6) o6.2] [] [0, 1, 2] rfl)
    have hPc := hPq.left
    have hDc := hDq.left
    have hFc := va_freeL hDq hS hA
    refine cl_iL (wr := (cSP a_this ++ (cW dT (a_this 4) g_this_world ++ (cH dT (a_this 6) o6.2)))) (va_runS (As := [.int v1, .int v2]) (rest := [.ref ((a_this 4) 0)]) ⟨hx, hb, hml, hown, hts⟩ (c_X8_pairIndex l hlt D dT v1 v2 o7 e7 _) (va_cwS 2 hts (TB_S w_530 w_473 w_33 w_474) rfl rfl rfl nd_X8_pairIndex ⟨Nat.le_of_ble_eq_true rfl, Nat.le_of_ble_eq_true rfl⟩) (cPre.S hPc hDc hK hE hS hFc) rfl rfl hl.1 rfl (lv_room (Nat.le_of_ble_eq_true rfl)) dX8_drift_56 ⟨Nat.le_of_ble_eq_true rfl, Nat.le_of_ble_eq_true rfl⟩) hPq hDq hS hFc (fun r7 u7 H locs hw hP hD hS => ?_)
    obtain ⟨rfl, rfl⟩ := hw
    have hP : va_P D vwCl (cSP a_this ++ (cW dT (a_this 4) g_this_world ++ (cH dT (a_this 6) o6.2))) H := hP.perm (wj_back [] [cSP a_this, cW dT (a_this 4) g_this_world, cH dT (a_this 6) o6.2] [0, 1, 2] rfl)
    have hD : va_D A (cSP a_this ++ (cW dT (a_this 4) g_this_world ++ (cH dT (a_this 6) o6.2))) := hD.perm (wj_back [] [cSP a_this, cW dT (a_this 4) g_this_world, cH dT (a_this 6) o6.2] [0, 1, 2] rfl)
    refine lv_iload_n hx hb dX8_drift_59 rfl (lv_at hl 3 rfl) ?_
    obtain ⟨o8, e8, h⟩ := obind h
    have hPq : va_P D vwCl ((cW dT (a_this 4) g_this_world) ++ (cSP a_this ++ (cH dT (a_this 6) o6.2))) _ := hP.perm (wj_split [cSP a_this, cW dT (a_this 4) g_this_world, cH dT (a_this 6) o6.2] [1] [0, 2] rfl)
    have hDq : va_D A ((cW dT (a_this 4) g_this_world) ++ (cSP a_this ++ (cH dT (a_this 6) o6.2))) := hD.perm (wj_split [cSP a_this, cW dT (a_this 4) g_this_world, cH dT (a_this 6) o6.2] [1] [0, 2] rfl)
    have hPc := hPq.left
    have hDc := hDq.left
    have hFc := va_freeL hDq hS hA
    refine cl_iL (wr := (cSP a_this ++ (cH dT (a_this 6) o6.2))) (va_runV (As := [.int o7.1, .int v3]) (rest := []) ⟨hx, hb, hml, hown, hts⟩ (c_X7_changeShare l hlt D dT (a_this 4) g_this_world o7.1 v3 o8 e8 _) (cwV 2 hts (TB_V w_532 w_533 w_534 w_38 w_535) rfl rfl rfl ⟨rfl, nd_X7_changeShare⟩ ⟨Nat.le_of_ble_eq_true rfl, Nat.le_of_ble_eq_true rfl⟩) (cPre.V hPc hDc hK hE hS hFc (va_recv hK hPc (ci := 6) (q0 := 0) rfl rfl)) rfl rfl hl.1 rfl (lv_room (Nat.le_of_ble_eq_true rfl)) dX8_drift_60 ⟨Nat.le_of_ble_eq_true rfl, Nat.le_of_ble_eq_true rfl⟩) hPq hDq hS hFc (fun r8 u8 H locs hw hP hD hS => ?_)
    obtain ⟨rfl, rfl⟩ := hw
    have hP : va_P D vwCl (cSP a_this ++ (cW dT (a_this 4) o8.2 ++ (cH dT (a_this 6) o6.2))) H := hP.perm (wj_back [cW dT (a_this 4) o8.2] [cSP a_this, cH dT (a_this 6) o6.2] [1, 0, 2] rfl)
    have hD : va_D A (cSP a_this ++ (cW dT (a_this 4) o8.2 ++ (cH dT (a_this 6) o6.2))) := hD.perm (wj_back [cW dT (a_this 4) o8.2] [cSP a_this, cH dT (a_this 6) o6.2] [1, 0, 2] rfl)
    refine W.widen (k := 5) (n := 30) (Nat.le_of_ble_eq_true rfl) (Nat.le_of_ble_eq_true rfl) ?_
    exact vx_ret (rt_i hx hb hr hlk hK hS ((o8.2, o6.2) : TW × TH) (Option.some.inj h).symm hP hD dX8_drift_63)
  · replace h := iteT c5 h
    exact th_S (k := 1) exOkS rfl (List.mem_of_getElem? (i := 6) rfl) hlt hx hb (hl.1.trans hml.symm) hlk hnt hqs hown hE hK hS ((g_this_world, g_this_history) : TW × TH) (xoP_of h) hP hD rfl rfl rfl rfl rfl rfl dX8_drift_29 dX8_drift_32 dX8_drift_33 dX8_drift_35 dX8_drift_38

def f_X8_needTables (g_this_world : TW) (v1 : Int32) : Option ((Nat ⊕ Unit) × (Unit)) :=
  ((f_X7_hasTables g_this_world v1).bind fun o1 => (if o1.1 = (0 : Int32) then (some (Sum.inl 2, ())) else (some ((Sum.inr ()), ()))))
set_option maxHeartbeats 8000000 in
set_option maxRecDepth 100000 in
theorem c_X8_needTables (l : Launch) (hlt : l.stackTraces = false) (D : va_G) (dT : Nat → ClassId) (a_this : Nat → Nat → Nat) (g_this_world : TW) (v1 : Int32) (o : ((Nat ⊕ Unit) × (Unit))) (h : f_X8_needTables g_this_world v1 = some o) (sz : Nat) : vx_Met l yX8_needTables (WSm yX8_needTables cX8_needTables 2 none) { frames := 6, cells := 1, slots := 6, locals := 90 } (va_Pc [.ref (a_this 0 0), .int v1] (cPre D dT (cSP a_this ++ (cW dT (a_this 4) g_this_world)) sz)) (va_Qv (fun (u : Unit) => o = (Sum.inr (), u)) (fun u t => cAt D dT (va_A (cSP a_this ++ (cW dT (a_this 4) g_this_world)) sz) (cSP a_this ++ (cW dT (a_this 4) g_this_world)) t) (va_A (cSP a_this ++ (cW dT (a_this 4) g_this_world)) sz)) (xEnd D dT (xoP o) (fun u => (cSP a_this ++ (cW dT (a_this 4) g_this_world))) (va_A (cSP a_this ++ (cW dT (a_this 4) g_this_world)) sz)) 1 6 (va_A (cSP a_this ++ (cW dT (a_this 4) g_this_world)) sz) := by
  refine mStartX (WS := (cSP a_this ++ (cW dT (a_this 4) g_this_world))) (Qc := fun A => va_Qv (fun (u : Unit) => o = (Sum.inr (), u)) (fun u t => cAt D dT A (cSP a_this ++ (cW dT (a_this 4) g_this_world)) t) A) (XC := fun A => xEnd D dT (xoP o) (fun u => (cSP a_this ++ (cW dT (a_this 4) g_this_world))) A) RX8 rfl (by decide) (Nat.le_of_ble_eq_true rfl) ?_ sz
  intro p e s m below meth c A ls hx hb hml hr hlk hnt hts hqs hown hE hA hK hP hD hS hl
  have hl : lv_has ls 2 [(0, .ref (a_this 0 0)), (1, .int v1)] := hl
  unfold f_X8_needTables at h
  refine lv_aload_n hx hb dX8_needTables_0 rfl (lv_at hl 0 rfl) ?_
  refine gf_X8_33 (v := .ref ((a_this 4) 0)) hx hb hqs hown hK hP 0 rfl rfl dX8_needTables_1 ?_
  refine lv_iload_n hx hb dX8_needTables_4 rfl (lv_at hl 1 rfl) ?_
  obtain ⟨o1, e1, h⟩ := obind h
  have hPq : va_P D vwCl ((cW dT (a_this 4) g_this_world) ++ (cSP a_this)) _ := hP.perm (wj_split [cSP a_this, cW dT (a_this 4) g_this_world] [1] [0] rfl)
  have hDq : va_D A ((cW dT (a_this 4) g_this_world) ++ (cSP a_this)) := hD.perm (wj_split [cSP a_this, cW dT (a_this 4) g_this_world] [1] [0] rfl)
  have hPc := hPq.left
  have hDc := hDq.left
  have hFc := va_freeL hDq hS hA
  refine cl_iL (wr := (cSP a_this)) (va_runV (As := [.int v1]) (rest := []) ⟨hx, hb, hml, hown, hts⟩ (c_X7_hasTables l hlt D dT (a_this 4) g_this_world v1 o1 e1 _) (cwV 1 hts (TB_V w_375 w_376 w_377 w_38 w_378) rfl rfl rfl ⟨rfl, nd_X7_hasTables⟩ ⟨Nat.le_of_ble_eq_true rfl, Nat.le_of_ble_eq_true rfl⟩) (cPre.V hPc hDc hK hE hS hFc (va_recv hK hPc (ci := 6) (q0 := 0) rfl rfl)) rfl rfl hl.1 rfl (lv_room (Nat.le_of_ble_eq_true rfl)) dX8_needTables_5 ⟨Nat.zero_le _, Nat.zero_le _⟩) hPq hDq hS hFc (fun r1 u1 H locs hw hP hD hS => ?_)
  obtain ⟨rfl, rfl⟩ := hw
  have hP : va_P D vwCl (cSP a_this ++ (cW dT (a_this 4) g_this_world)) H := hP.perm (wj_back [cW dT (a_this 4) g_this_world] [cSP a_this] [1, 0] rfl)
  have hD : va_D A (cSP a_this ++ (cW dT (a_this 4) g_this_world)) := hD.perm (wj_back [cW dT (a_this 4) g_this_world] [cSP a_this] [1, 0] rfl)
  refine lv_if_ne (tgt := 22) hx hb dX8_needTables_8 (by decide) (fun c2 => ?_) (fun c2 => ?_)
  · replace h := iteF c2 h
    refine W.widen (k := 1) (n := 6) (Nat.le_of_ble_eq_true rfl) (Nat.le_of_ble_eq_true rfl) ?_
    exact vx_ret (rt_v hx hb hr hlk hK hS (() : Unit) (Option.some.inj h).symm hP hD dX8_needTables_22)
  · replace h := iteT c2 h
    exact th_W (k := 2) exOkB rfl (List.mem_of_getElem? (i := 7) rfl) hlt hx hb (hl.1.trans hml.symm) hlk hnt hqs hown hE hK hS (() : Unit) (xoP_of h) hP hD rfl rfl rfl rfl rfl rfl dX8_needTables_11 dX8_needTables_14 dX8_needTables_15 dX8_needTables_18 dX8_needTables_21

def f_X8_needSomeTable (v0 : Int32) : Option ((Nat ⊕ Unit) × (Unit)) :=
  (if v0 = (0 : Int32) then (some (Sum.inl 0, ())) else (some ((Sum.inr ()), ())))
set_option maxHeartbeats 8000000 in
set_option maxRecDepth 100000 in
theorem c_X8_needSomeTable (l : Launch) (hlt : l.stackTraces = false) (D : va_G) (dT : Nat → ClassId) (v0 : Int32) (o : ((Nat ⊕ Unit) × (Unit))) (h : f_X8_needSomeTable v0 = some o) (sz : Nat) : vx_Met l yX8_needSomeTable (WSm yX8_needSomeTable cX8_needSomeTable 1 none) { frames := 6, cells := 1, slots := 6, locals := 90 } (va_Pc [.int v0] (cPre D dT ([] : va_W) sz)) (va_Qv (fun (u : Unit) => o = (Sum.inr (), u)) (fun u t => cAt D dT (va_A ([] : va_W) sz) ([] : va_W) t) (va_A ([] : va_W) sz)) (xEnd D dT (xoP o) (fun u => ([] : va_W)) (va_A ([] : va_W) sz)) 1 6 (va_A ([] : va_W) sz) := by
  refine mStartX (WS := ([] : va_W)) (Qc := fun A => va_Qv (fun (u : Unit) => o = (Sum.inr (), u)) (fun u t => cAt D dT A ([] : va_W) t) A) (XC := fun A => xEnd D dT (xoP o) (fun u => ([] : va_W)) A) RX8 rfl (by decide) (Nat.le_of_ble_eq_true rfl) ?_ sz
  intro p e s m below meth c A ls hx hb hml hr hlk hnt hts hqs hown hE hA hK hP hD hS hl
  have hl : lv_has ls 1 [(0, .int v0)] := hl
  unfold f_X8_needSomeTable at h
  refine lv_iload_n hx hb dX8_needSomeTable_0 rfl (lv_at hl 0 rfl) ?_
  refine lv_if_ne (tgt := 15) hx hb dX8_needSomeTable_1 (by decide) (fun c1 => ?_) (fun c1 => ?_)
  · replace h := iteF c1 h
    refine W.widen (k := 1) (n := 6) (Nat.le_of_ble_eq_true rfl) (Nat.le_of_ble_eq_true rfl) ?_
    exact vx_ret (rt_v hx hb hr hlk hK hS (() : Unit) (Option.some.inj h).symm hP hD dX8_needSomeTable_15)
  · replace h := iteT c1 h
    exact th_W (k := 0) exOkI rfl (List.mem_of_getElem? (i := 8) rfl) hlt hx hb (hl.1.trans hml.symm) hlk hnt hqs hown hE hK hS (() : Unit) (xoP_of h) hP hD rfl rfl rfl rfl rfl rfl dX8_needSomeTable_4 dX8_needSomeTable_7 dX8_needSomeTable_8 dX8_needSomeTable_11 dX8_needSomeTable_14

def f_X8_regretIn (g_this_chosen : TP) (g_this_other : TP) (g_p1 : TW) (v2 : Int32) : Option (Int64 × (TP × TP)) :=
  ((f_X3_choose g_this_chosen g_p1 v2 (1 : Int32)).bind fun o1 => ((f_X3_choose g_this_other g_p1 v2 (2 : Int32)).bind fun o2 => ((f_X3_costAsPlannedBy o2.2 o1.2).bind fun o3 => ((f_X3_leastCost o2.2).bind fun o4 => (some ((o3.1 - o4.1), (o1.2, o2.2)))))))
set_option maxHeartbeats 8000000 in
set_option maxRecDepth 100000 in
theorem c_X8_regretIn (l : Launch) (hlt : l.stackTraces = false) (D : va_G) (dT : Nat → ClassId) (a_this : Nat → Nat → Nat) (a_p1 : Nat → Nat) (g_this_chosen : TP) (g_this_other : TP) (g_p1 : TW) (v2 : Int32) (o : (Int64 × (TP × TP))) (h : f_X8_regretIn g_this_chosen g_this_other g_p1 v2 = some o) (sz : Nat) : Met l yX8_regretIn (WSm yX8_regretIn cX8_regretIn 3 (some .long)) { frames := 4, cells := 0, slots := 0, locals := 101 } (va_Pc [.ref (a_this 0 0), .ref (a_p1 0), .int v2] (cPre D dT (cSP a_this ++ (cP dT (a_this 8) g_this_chosen ++ (cP dT (a_this 9) g_this_other ++ (cW dT a_p1 g_p1)))) sz)) (va_Ql (fun (r : Int64) (u : TP × TP) => r = o.1 ∧ u = o.2) (fun u t => cAt D dT (va_A (cSP a_this ++ (cP dT (a_this 8) g_this_chosen ++ (cP dT (a_this 9) g_this_other ++ (cW dT a_p1 g_p1)))) sz) (cSP a_this ++ (cP dT (a_this 8) (u.1) ++ (cP dT (a_this 9) (u.2) ++ (cW dT a_p1 g_p1)))) t) (va_A (cSP a_this ++ (cP dT (a_this 8) g_this_chosen ++ (cP dT (a_this 9) g_this_other ++ (cW dT a_p1 g_p1)))) sz)) 0 0 (va_A (cSP a_this ++ (cP dT (a_this 8) g_this_chosen ++ (cP dT (a_this 9) g_this_other ++ (cW dT a_p1 g_p1)))) sz) := by
  refine mStart (WS := (cSP a_this ++ (cP dT (a_this 8) g_this_chosen ++ (cP dT (a_this 9) g_this_other ++ (cW dT a_p1 g_p1))))) (Qc := fun A => va_Ql (fun (r : Int64) (u : TP × TP) => r = o.1 ∧ u = o.2) (fun u t => cAt D dT A (cSP a_this ++ (cP dT (a_this 8) (u.1) ++ (cP dT (a_this 9) (u.2) ++ (cW dT a_p1 g_p1)))) t) A) RX8 rfl (by decide) (Nat.le_of_ble_eq_true rfl) ?_ sz
  intro p e s m below meth c A ls hx hb hml hr hlk hnm hts hqs hown hE hA hK hP hD hS hl
  have hl : lv_has ls 3 [(0, .ref (a_this 0 0)), (1, .ref (a_p1 0)), (2, .int v2)] := hl
  unfold f_X8_regretIn at h
  refine lv_aload_n hx hb dX8_regretIn_0 rfl (lv_at hl 0 rfl) ?_
  refine gf_X8_57 (v := .ref ((a_this 8) 0)) hx hb hqs hown hK hP 0 rfl rfl dX8_regretIn_1 ?_
  refine lv_aload_n hx hb dX8_regretIn_4 rfl (lv_at hl 1 rfl) ?_
  refine lv_iload_n hx hb dX8_regretIn_5 rfl (lv_at hl 2 rfl) ?_
  refine lv_iconst (v := 1) hx hb dX8_regretIn_6 (by decide) ?_
  obtain ⟨o1, e1, h⟩ := obind h
  have hPq : va_P D vwCl ((cP dT (a_this 8) g_this_chosen ++ (cW dT a_p1 g_p1)) ++ (cSP a_this ++ (cP dT (a_this 9) g_this_other))) _ := hP.perm (wj_split [cSP a_this, cP dT (a_this 8) g_this_chosen, cP dT (a_this 9) g_this_other, cW dT a_p1 g_p1] [1, 3] [0, 2] rfl)
  have hDq : va_D A ((cP dT (a_this 8) g_this_chosen ++ (cW dT a_p1 g_p1)) ++ (cSP a_this ++ (cP dT (a_this 9) g_this_other))) := hD.perm (wj_split [cSP a_this, cP dT (a_this 8) g_this_chosen, cP dT (a_this 9) g_this_other, cW dT a_p1 g_p1] [1, 3] [0, 2] rfl)
  have hPc := hPq.left
  have hDc := hDq.left
  have hFc := va_freeL hDq hS hA
  refine cl_vL (wr := (cSP a_this ++ (cP dT (a_this 9) g_this_other))) (va_runV (As := [.ref (a_p1 0), .int v2, .int (1 : Int32)]) (rest := []) ⟨hx, hb, hml, hown, hts⟩ (c_X3_choose l hlt D dT (a_this 8) a_p1 g_this_chosen g_p1 v2 (1 : Int32) o1 e1 _) (cwV 3 hts (TB_V w_387 w_388 w_389 w_41 w_390) rfl rfl rfl ⟨rfl, nd_X3_choose⟩ ⟨Nat.le_of_ble_eq_true rfl, Nat.le_of_ble_eq_true rfl⟩) (cPre.V hPc hDc hK hE hS hFc (va_recv hK hPc (ci := 3) (q0 := 0) rfl rfl)) rfl rfl hl.1 rfl (lv_room (Nat.le_of_ble_eq_true rfl)) dX8_regretIn_7 ⟨Nat.zero_le _, Nat.zero_le _⟩) hPq hDq hS hFc (fun u1 H locs hw hP hD hS => ?_)
  subst hw
  have hP : va_P D vwCl (cSP a_this ++ (cP dT (a_this 8) o1.2 ++ (cP dT (a_this 9) g_this_other ++ (cW dT a_p1 g_p1)))) H := hP.perm (wj_back [cP dT (a_this 8) o1.2, cW dT a_p1 g_p1] [cSP a_this, cP dT (a_this 9) g_this_other] [2, 0, 3, 1] rfl)
  have hD : va_D A (cSP a_this ++ (cP dT (a_this 8) o1.2 ++ (cP dT (a_this 9) g_this_other ++ (cW dT a_p1 g_p1)))) := hD.perm (wj_back [cP dT (a_this 8) o1.2, cW dT a_p1 g_p1] [cSP a_this, cP dT (a_this 9) g_this_other] [2, 0, 3, 1] rfl)
  refine lv_aload_n hx hb dX8_regretIn_10 rfl (lv_at hl 0 rfl) ?_
  refine gf_X8_61 (v := .ref ((a_this 9) 0)) hx hb hqs hown hK hP 0 rfl rfl dX8_regretIn_11 ?_
  refine lv_aload_n hx hb dX8_regretIn_14 rfl (lv_at hl 1 rfl) ?_
  refine lv_iload_n hx hb dX8_regretIn_15 rfl (lv_at hl 2 rfl) ?_
  refine lv_iconst (v := 2) hx hb dX8_regretIn_16 (by decide) ?_
  obtain ⟨o2, e2, h⟩ := obind h
  have hPq : va_P D vwCl ((cP dT (a_this 9) g_this_other ++ (cW dT a_p1 g_p1)) ++ (cSP a_this ++ (cP dT (a_this 8) o1.2))) _ := hP.perm (wj_split [cSP a_this, cP dT (a_this 8) o1.2, cP dT (a_this 9) g_this_other, cW dT a_p1 g_p1] [2, 3] [0, 1] rfl)
  have hDq : va_D A ((cP dT (a_this 9) g_this_other ++ (cW dT a_p1 g_p1)) ++ (cSP a_this ++ (cP dT (a_this 8) o1.2))) := hD.perm (wj_split [cSP a_this, cP dT (a_this 8) o1.2, cP dT (a_this 9) g_this_other, cW dT a_p1 g_p1] [2, 3] [0, 1] rfl)
  have hPc := hPq.left
  have hDc := hDq.left
  have hFc := va_freeL hDq hS hA
  refine cl_vL (wr := (cSP a_this ++ (cP dT (a_this 8) o1.2))) (va_runV (As := [.ref (a_p1 0), .int v2, .int (2 : Int32)]) (rest := []) ⟨hx, hb, hml, hown, hts⟩ (c_X3_choose l hlt D dT (a_this 9) a_p1 g_this_other g_p1 v2 (2 : Int32) o2 e2 _) (cwV 3 hts (TB_V w_387 w_388 w_389 w_41 w_390) rfl rfl rfl ⟨rfl, nd_X3_choose⟩ ⟨Nat.le_of_ble_eq_true rfl, Nat.le_of_ble_eq_true rfl⟩) (cPre.V hPc hDc hK hE hS hFc (va_recv hK hPc (ci := 3) (q0 := 0) rfl rfl)) rfl rfl hl.1 rfl (lv_room (Nat.le_of_ble_eq_true rfl)) dX8_regretIn_17 ⟨Nat.zero_le _, Nat.zero_le _⟩) hPq hDq hS hFc (fun u2 H locs hw hP hD hS => ?_)
  subst hw
  have hP : va_P D vwCl (cSP a_this ++ (cP dT (a_this 8) o1.2 ++ (cP dT (a_this 9) o2.2 ++ (cW dT a_p1 g_p1)))) H := hP.perm (wj_back [cP dT (a_this 9) o2.2, cW dT a_p1 g_p1] [cSP a_this, cP dT (a_this 8) o1.2] [2, 3, 0, 1] rfl)
  have hD : va_D A (cSP a_this ++ (cP dT (a_this 8) o1.2 ++ (cP dT (a_this 9) o2.2 ++ (cW dT a_p1 g_p1)))) := hD.perm (wj_back [cP dT (a_this 9) o2.2, cW dT a_p1 g_p1] [cSP a_this, cP dT (a_this 8) o1.2] [2, 3, 0, 1] rfl)
  refine lv_aload_n hx hb dX8_regretIn_20 rfl (lv_at hl 0 rfl) ?_
  refine gf_X8_61 (v := .ref ((a_this 9) 0)) hx hb hqs hown hK hP 0 rfl rfl dX8_regretIn_21 ?_
  refine lv_aload_n hx hb dX8_regretIn_24 rfl (lv_at hl 0 rfl) ?_
  refine gf_X8_57 (v := .ref ((a_this 8) 0)) hx hb hqs hown hK hP 0 rfl rfl dX8_regretIn_25 ?_
  obtain ⟨o3, e3, h⟩ := obind h
  have hPq : va_P D vwCl ((cP dT (a_this 9) o2.2 ++ (cP dT (a_this 8) o1.2)) ++ (cSP a_this ++ (cW dT a_p1 g_p1))) _ := hP.perm (wj_split [cSP a_this, cP dT (a_this 8) o1.2, cP dT (a_this 9) o2.2, cW dT a_p1 g_p1] [2, 1] [0, 3] rfl)
  have hDq : va_D A ((cP dT (a_this 9) o2.2 ++ (cP dT (a_this 8) o1.2)) ++ (cSP a_this ++ (cW dT a_p1 g_p1))) := hD.perm (wj_split [cSP a_this, cP dT (a_this 8) o1.2, cP dT (a_this 9) o2.2, cW dT a_p1 g_p1] [2, 1] [0, 3] rfl)
  have hPc := hPq.left
  have hDc := hDq.left
  have hFc := va_freeL hDq hS hA
  refine cl_lL (wr := (cSP a_this ++ (cW dT a_p1 g_p1))) (va_runV (As := [.ref ((a_this 8) 0)]) (rest := []) ⟨hx, hb, hml, hown, hts⟩ (c_X3_costAsPlannedBy l hlt D dT (a_this 9) (a_this 8) o2.2 o1.2 o3 e3 _) (cwV 1 hts (TB_V w_441 w_442 w_443 w_41 w_444) rfl rfl rfl ⟨rfl, nd_X3_costAsPlannedBy⟩ ⟨Nat.le_of_ble_eq_true rfl, Nat.le_of_ble_eq_true rfl⟩) (cPre.V hPc hDc hK hE hS hFc (va_recv hK hPc (ci := 3) (q0 := 0) rfl rfl)) rfl rfl hl.1 rfl (lv_room (Nat.le_of_ble_eq_true rfl)) dX8_regretIn_28 ⟨Nat.zero_le _, Nat.zero_le _⟩) hPq hDq hS hFc (fun r3 u3 H locs hw hP hD hS => ?_)
  obtain ⟨rfl, rfl⟩ := hw
  have hP : va_P D vwCl (cSP a_this ++ (cP dT (a_this 8) o1.2 ++ (cP dT (a_this 9) o2.2 ++ (cW dT a_p1 g_p1)))) H := hP.perm (wj_back [cP dT (a_this 9) o2.2, cP dT (a_this 8) o1.2] [cSP a_this, cW dT a_p1 g_p1] [2, 1, 0, 3] rfl)
  have hD : va_D A (cSP a_this ++ (cP dT (a_this 8) o1.2 ++ (cP dT (a_this 9) o2.2 ++ (cW dT a_p1 g_p1)))) := hD.perm (wj_back [cP dT (a_this 9) o2.2, cP dT (a_this 8) o1.2] [cSP a_this, cW dT a_p1 g_p1] [2, 1, 0, 3] rfl)
  refine lv_aload_n hx hb dX8_regretIn_31 rfl (lv_at hl 0 rfl) ?_
  refine gf_X8_61 (v := .ref ((a_this 9) 0)) hx hb hqs hown hK hP 0 rfl rfl dX8_regretIn_32 ?_
  obtain ⟨o4, e4, h⟩ := obind h
  have hPq : va_P D vwCl ((cP dT (a_this 9) o2.2) ++ (cSP a_this ++ (cP dT (a_this 8) o1.2 ++ (cW dT a_p1 g_p1)))) _ := hP.perm (wj_split [cSP a_this, cP dT (a_this 8) o1.2, cP dT (a_this 9) o2.2, cW dT a_p1 g_p1] [2] [0, 1, 3] rfl)
  have hDq : va_D A ((cP dT (a_this 9) o2.2) ++ (cSP a_this ++ (cP dT (a_this 8) o1.2 ++ (cW dT a_p1 g_p1)))) := hD.perm (wj_split [cSP a_this, cP dT (a_this 8) o1.2, cP dT (a_this 9) o2.2, cW dT a_p1 g_p1] [2] [0, 1, 3] rfl)
  have hPc := hPq.left
  have hDc := hDq.left
  have hFc := va_freeL hDq hS hA
  refine cl_lL (wr := (cSP a_this ++ (cP dT (a_this 8) o1.2 ++ (cW dT a_p1 g_p1)))) (va_runV (As := []) (rest := [.long o3.1]) ⟨hx, hb, hml, hown, hts⟩ (c_X3_leastCost l hlt D dT (a_this 9) o2.2 o4 e4 _) (cwV 0 hts (TB_V w_453 w_454 w_455 w_41 w_456) rfl rfl rfl ⟨rfl, nd_X3_leastCost⟩ ⟨Nat.le_of_ble_eq_true rfl, Nat.le_of_ble_eq_true rfl⟩) (cPre.V hPc hDc hK hE hS hFc (va_recv hK hPc (ci := 3) (q0 := 0) rfl rfl)) rfl rfl hl.1 rfl (lv_room (Nat.le_of_ble_eq_true rfl)) dX8_regretIn_35 ⟨Nat.zero_le _, Nat.zero_le _⟩) hPq hDq hS hFc (fun r4 u4 H locs hw hP hD hS => ?_)
  obtain ⟨rfl, rfl⟩ := hw
  have hP : va_P D vwCl (cSP a_this ++ (cP dT (a_this 8) o1.2 ++ (cP dT (a_this 9) o2.2 ++ (cW dT a_p1 g_p1)))) H := hP.perm (wj_back [cP dT (a_this 9) o2.2] [cSP a_this, cP dT (a_this 8) o1.2, cW dT a_p1 g_p1] [1, 2, 0, 3] rfl)
  have hD : va_D A (cSP a_this ++ (cP dT (a_this 8) o1.2 ++ (cP dT (a_this 9) o2.2 ++ (cW dT a_p1 g_p1)))) := hD.perm (wj_back [cP dT (a_this 9) o2.2] [cSP a_this, cP dT (a_this 8) o1.2, cW dT a_p1 g_p1] [1, 2, 0, 3] rfl)
  refine lv_lsub hx hb dX8_regretIn_38 ?_
  exact rt_l hx hb hr hlk hK hS ((o1.2, o2.2) : TP × TP) (ret2 h) hP hD dX8_regretIn_39

def f_X8_runIn (g_this_chosen : TP) (g_this_other : TP) (g_p1 : TW) (v2 : Int32) : Option (Int32 × (TP × TP × TW)) :=
  ((f_X8_regretIn g_this_chosen g_this_other g_p1 v2).bind fun o1 => ((f_X3_leastCost o1.2.2).bind fun o2 => ((f_X7_noteRun g_p1 (o2.1 + o1.1) o1.1).bind fun o3 => ((f_X7_learn o3.2 v2).bind fun o4 => (some (o4.1, (o1.2.1, o1.2.2, o4.2)))))))
set_option maxHeartbeats 8000000 in
set_option maxRecDepth 100000 in
theorem c_X8_runIn (l : Launch) (hlt : l.stackTraces = false) (D : va_G) (dT : Nat → ClassId) (a_this : Nat → Nat → Nat) (a_p1 : Nat → Nat) (g_this_chosen : TP) (g_this_other : TP) (g_p1 : TW) (v2 : Int32) (o : (Int32 × (TP × TP × TW))) (h : f_X8_runIn g_this_chosen g_this_other g_p1 v2 = some o) (sz : Nat) : Met l yX8_runIn (WSm yX8_runIn cX8_runIn 5 (some .int)) { frames := 5, cells := 0, slots := 0, locals := 123 } (va_Pc [.ref (a_this 0 0), .ref (a_p1 0), .int v2] (cPre D dT (cSP a_this ++ (cP dT (a_this 8) g_this_chosen ++ (cP dT (a_this 9) g_this_other ++ (cW dT a_p1 g_p1)))) sz)) (va_Qi (fun (r : Int32) (u : TP × TP × TW) => r = o.1 ∧ u = o.2) (fun u t => cAt D dT (va_A (cSP a_this ++ (cP dT (a_this 8) g_this_chosen ++ (cP dT (a_this 9) g_this_other ++ (cW dT a_p1 g_p1)))) sz) (cSP a_this ++ (cP dT (a_this 8) (u.1) ++ (cP dT (a_this 9) (u.2.1) ++ (cW dT a_p1 (u.2.2))))) t) (va_A (cSP a_this ++ (cP dT (a_this 8) g_this_chosen ++ (cP dT (a_this 9) g_this_other ++ (cW dT a_p1 g_p1)))) sz)) 0 0 (va_A (cSP a_this ++ (cP dT (a_this 8) g_this_chosen ++ (cP dT (a_this 9) g_this_other ++ (cW dT a_p1 g_p1)))) sz) := by
  refine mStart (WS := (cSP a_this ++ (cP dT (a_this 8) g_this_chosen ++ (cP dT (a_this 9) g_this_other ++ (cW dT a_p1 g_p1))))) (Qc := fun A => va_Qi (fun (r : Int32) (u : TP × TP × TW) => r = o.1 ∧ u = o.2) (fun u t => cAt D dT A (cSP a_this ++ (cP dT (a_this 8) (u.1) ++ (cP dT (a_this 9) (u.2.1) ++ (cW dT a_p1 (u.2.2))))) t) A) RX8 rfl (by decide) (Nat.le_of_ble_eq_true rfl) ?_ sz
  intro p e s m below meth c A ls hx hb hml hr hlk hnm hts hqs hown hE hA hK hP hD hS hl
  have hl : lv_has ls 5 [(0, .ref (a_this 0 0)), (1, .ref (a_p1 0)), (2, .int v2)] := hl
  unfold f_X8_runIn at h
  refine lv_aload_n hx hb dX8_runIn_0 rfl (lv_at hl 0 rfl) ?_
  refine lv_aload_n hx hb dX8_runIn_1 rfl (lv_at hl 1 rfl) ?_
  refine lv_iload_n hx hb dX8_runIn_2 rfl (lv_at hl 2 rfl) ?_
  obtain ⟨o1, e1, h⟩ := obind h
  have hPq : va_P D vwCl ((cSP a_this ++ (cP dT (a_this 8) g_this_chosen ++ (cP dT (a_this 9) g_this_other ++ (cW dT a_p1 g_p1)))) ++ ([] : va_W)) _ := hP.perm (wj_split [cSP a_this, cP dT (a_this 8) g_this_chosen, cP dT (a_this 9) g_this_other, cW dT a_p1 g_p1] [0, 1, 2, 3] [] rfl)
  have hDq : va_D A ((cSP a_this ++ (cP dT (a_this 8) g_this_chosen ++ (cP dT (a_this 9) g_this_other ++ (cW dT a_p1 g_p1)))) ++ ([] : va_W)) := hD.perm (wj_split [cSP a_this, cP dT (a_this 8) g_this_chosen, cP dT (a_this 9) g_this_other, cW dT a_p1 g_p1] [0, 1, 2, 3] [] rfl)
  have hPc := hPq.left
  have hDc := hDq.left
  have hFc := va_freeL hDq hS hA
  refine cl_lL (wr := ([] : va_W)) (va_runV (As := [.ref (a_p1 0), .int v2]) (rest := []) ⟨hx, hb, hml, hown, hts⟩ (c_X8_regretIn l hlt D dT a_this a_p1 g_this_chosen g_this_other g_p1 v2 o1 e1 _) (cwV 2 hts (TB_V w_383 w_385 w_3 w_33 w_386) rfl rfl rfl ⟨rfl, nd_X8_regretIn⟩ ⟨Nat.le_of_ble_eq_true rfl, Nat.le_of_ble_eq_true rfl⟩) (cPre.V hPc hDc hK hE hS hFc (va_recv hK hPc (ci := 7) (q0 := 0) rfl rfl)) rfl rfl hl.1 rfl (lv_room (Nat.le_of_ble_eq_true rfl)) dX8_runIn_3 ⟨Nat.zero_le _, Nat.zero_le _⟩) hPq hDq hS hFc (fun r1 u1 H locs hw hP hD hS => ?_)
  obtain ⟨rfl, rfl⟩ := hw
  have hP : va_P D vwCl (cSP a_this ++ (cP dT (a_this 8) o1.2.1 ++ (cP dT (a_this 9) o1.2.2 ++ (cW dT a_p1 g_p1)))) H := hP.perm (wj_back [cSP a_this, cP dT (a_this 8) o1.2.1, cP dT (a_this 9) o1.2.2, cW dT a_p1 g_p1] [] [0, 1, 2, 3] rfl)
  have hD : va_D A (cSP a_this ++ (cP dT (a_this 8) o1.2.1 ++ (cP dT (a_this 9) o1.2.2 ++ (cW dT a_p1 g_p1)))) := hD.perm (wj_back [cSP a_this, cP dT (a_this 8) o1.2.1, cP dT (a_this 9) o1.2.2, cW dT a_p1 g_p1] [] [0, 1, 2, 3] rfl)
  refine lv_lstore_n (lv' := [(3, .long o1.1), (0, .ref (a_this 0 0)), (1, .ref (a_p1 0)), (2, .int v2)]) hx hb dX8_runIn_6 rfl hl (by decide) rfl (fun ls hl => ?_)
  refine lv_aload_n hx hb dX8_runIn_7 rfl (lv_at hl 2 rfl) ?_
  refine lv_aload_n hx hb dX8_runIn_8 rfl (lv_at hl 1 rfl) ?_
  refine gf_X8_61 (v := .ref ((a_this 9) 0)) hx hb hqs hown hK hP 0 rfl rfl dX8_runIn_9 ?_
  obtain ⟨o2, e2, h⟩ := obind h
  have hPq : va_P D vwCl ((cP dT (a_this 9) o1.2.2) ++ (cSP a_this ++ (cP dT (a_this 8) o1.2.1 ++ (cW dT a_p1 g_p1)))) _ := hP.perm (wj_split [cSP a_this, cP dT (a_this 8) o1.2.1, cP dT (a_this 9) o1.2.2, cW dT a_p1 g_p1] [2] [0, 1, 3] rfl)
  have hDq : va_D A ((cP dT (a_this 9) o1.2.2) ++ (cSP a_this ++ (cP dT (a_this 8) o1.2.1 ++ (cW dT a_p1 g_p1)))) := hD.perm (wj_split [cSP a_this, cP dT (a_this 8) o1.2.1, cP dT (a_this 9) o1.2.2, cW dT a_p1 g_p1] [2] [0, 1, 3] rfl)
  have hPc := hPq.left
  have hDc := hDq.left
  have hFc := va_freeL hDq hS hA
  refine cl_lL (wr := (cSP a_this ++ (cP dT (a_this 8) o1.2.1 ++ (cW dT a_p1 g_p1)))) (va_runV (As := []) (rest := [.ref (a_p1 0)]) ⟨hx, hb, hml, hown, hts⟩ (c_X3_leastCost l hlt D dT (a_this 9) o1.2.2 o2 e2 _) (cwV 0 hts (TB_V w_453 w_454 w_455 w_41 w_456) rfl rfl rfl ⟨rfl, nd_X3_leastCost⟩ ⟨Nat.le_of_ble_eq_true rfl, Nat.le_of_ble_eq_true rfl⟩) (cPre.V hPc hDc hK hE hS hFc (va_recv hK hPc (ci := 3) (q0 := 0) rfl rfl)) rfl rfl hl.1 rfl (lv_room (Nat.le_of_ble_eq_true rfl)) dX8_runIn_12 ⟨Nat.zero_le _, Nat.zero_le _⟩) hPq hDq hS hFc (fun r2 u2 H locs hw hP hD hS => ?_)
  obtain ⟨rfl, rfl⟩ := hw
  have hP : va_P D vwCl (cSP a_this ++ (cP dT (a_this 8) o1.2.1 ++ (cP dT (a_this 9) o1.2.2 ++ (cW dT a_p1 g_p1)))) H := hP.perm (wj_back [cP dT (a_this 9) o1.2.2] [cSP a_this, cP dT (a_this 8) o1.2.1, cW dT a_p1 g_p1] [1, 2, 0, 3] rfl)
  have hD : va_D A (cSP a_this ++ (cP dT (a_this 8) o1.2.1 ++ (cP dT (a_this 9) o1.2.2 ++ (cW dT a_p1 g_p1)))) := hD.perm (wj_back [cP dT (a_this 9) o1.2.2] [cSP a_this, cP dT (a_this 8) o1.2.1, cW dT a_p1 g_p1] [1, 2, 0, 3] rfl)
  refine lv_lload_n hx hb dX8_runIn_15 rfl (lv_at hl 0 rfl) ?_
  refine lv_ladd hx hb dX8_runIn_16 ?_
  refine lv_lload_n hx hb dX8_runIn_17 rfl (lv_at hl 0 rfl) ?_
  obtain ⟨o3, e3, h⟩ := obind h
  have hPq : va_P D vwCl ((cW dT a_p1 g_p1) ++ (cSP a_this ++ (cP dT (a_this 8) o1.2.1 ++ (cP dT (a_this 9) o1.2.2)))) _ := hP.perm (wj_split [cSP a_this, cP dT (a_this 8) o1.2.1, cP dT (a_this 9) o1.2.2, cW dT a_p1 g_p1] [3] [0, 1, 2] rfl)
  have hDq : va_D A ((cW dT a_p1 g_p1) ++ (cSP a_this ++ (cP dT (a_this 8) o1.2.1 ++ (cP dT (a_this 9) o1.2.2)))) := hD.perm (wj_split [cSP a_this, cP dT (a_this 8) o1.2.1, cP dT (a_this 9) o1.2.2, cW dT a_p1 g_p1] [3] [0, 1, 2] rfl)
  have hPc := hPq.left
  have hDc := hDq.left
  have hFc := va_freeL hDq hS hA
  refine cl_vL (wr := (cSP a_this ++ (cP dT (a_this 8) o1.2.1 ++ (cP dT (a_this 9) o1.2.2)))) (va_runV (As := [.long (o2.1 + o1.1), .long o1.1]) (rest := []) ⟨hx, hb, hml, hown, hts⟩ (c_X7_noteRun l hlt D dT a_p1 g_p1 (o2.1 + o1.1) o1.1 o3 e3 _) (cwV 2 hts (TB_V w_457 w_458 w_459 w_38 w_460) rfl rfl rfl ⟨rfl, nd_X7_noteRun⟩ ⟨Nat.le_of_ble_eq_true rfl, Nat.le_of_ble_eq_true rfl⟩) (cPre.V hPc hDc hK hE hS hFc (va_recv hK hPc (ci := 6) (q0 := 0) rfl rfl)) rfl rfl hl.1 rfl (lv_room (Nat.le_of_ble_eq_true rfl)) dX8_runIn_18 ⟨Nat.zero_le _, Nat.zero_le _⟩) hPq hDq hS hFc (fun u3 H locs hw hP hD hS => ?_)
  subst hw
  have hP : va_P D vwCl (cSP a_this ++ (cP dT (a_this 8) o1.2.1 ++ (cP dT (a_this 9) o1.2.2 ++ (cW dT a_p1 o3.2)))) H := hP.perm (wj_back [cW dT a_p1 o3.2] [cSP a_this, cP dT (a_this 8) o1.2.1, cP dT (a_this 9) o1.2.2] [1, 2, 3, 0] rfl)
  have hD : va_D A (cSP a_this ++ (cP dT (a_this 8) o1.2.1 ++ (cP dT (a_this 9) o1.2.2 ++ (cW dT a_p1 o3.2)))) := hD.perm (wj_back [cW dT a_p1 o3.2] [cSP a_this, cP dT (a_this 8) o1.2.1, cP dT (a_this 9) o1.2.2] [1, 2, 3, 0] rfl)
  refine lv_aload_n hx hb dX8_runIn_21 rfl (lv_at hl 2 rfl) ?_
  refine lv_iload_n hx hb dX8_runIn_22 rfl (lv_at hl 3 rfl) ?_
  obtain ⟨o4, e4, h⟩ := obind h
  have hPq : va_P D vwCl ((cW dT a_p1 o3.2) ++ (cSP a_this ++ (cP dT (a_this 8) o1.2.1 ++ (cP dT (a_this 9) o1.2.2)))) _ := hP.perm (wj_split [cSP a_this, cP dT (a_this 8) o1.2.1, cP dT (a_this 9) o1.2.2, cW dT a_p1 o3.2] [3] [0, 1, 2] rfl)
  have hDq : va_D A ((cW dT a_p1 o3.2) ++ (cSP a_this ++ (cP dT (a_this 8) o1.2.1 ++ (cP dT (a_this 9) o1.2.2)))) := hD.perm (wj_split [cSP a_this, cP dT (a_this 8) o1.2.1, cP dT (a_this 9) o1.2.2, cW dT a_p1 o3.2] [3] [0, 1, 2] rfl)
  have hPc := hPq.left
  have hDc := hDq.left
  have hFc := va_freeL hDq hS hA
  refine cl_iL (wr := (cSP a_this ++ (cP dT (a_this 8) o1.2.1 ++ (cP dT (a_this 9) o1.2.2)))) (va_runV (As := [.int v2]) (rest := []) ⟨hx, hb, hml, hown, hts⟩ (c_X7_learn l hlt D dT a_p1 o3.2 v2 o4 e4 _) (cwV 1 hts (TB_V w_461 w_462 w_463 w_38 w_464) rfl rfl rfl ⟨rfl, nd_X7_learn⟩ ⟨Nat.le_of_ble_eq_true rfl, Nat.le_of_ble_eq_true rfl⟩) (cPre.V hPc hDc hK hE hS hFc (va_recv hK hPc (ci := 6) (q0 := 0) rfl rfl)) rfl rfl hl.1 rfl (lv_room (Nat.le_of_ble_eq_true rfl)) dX8_runIn_23 ⟨Nat.zero_le _, Nat.zero_le _⟩) hPq hDq hS hFc (fun r4 u4 H locs hw hP hD hS => ?_)
  obtain ⟨rfl, rfl⟩ := hw
  have hP : va_P D vwCl (cSP a_this ++ (cP dT (a_this 8) o1.2.1 ++ (cP dT (a_this 9) o1.2.2 ++ (cW dT a_p1 o4.2)))) H := hP.perm (wj_back [cW dT a_p1 o4.2] [cSP a_this, cP dT (a_this 8) o1.2.1, cP dT (a_this 9) o1.2.2] [1, 2, 3, 0] rfl)
  have hD : va_D A (cSP a_this ++ (cP dT (a_this 8) o1.2.1 ++ (cP dT (a_this 9) o1.2.2 ++ (cW dT a_p1 o4.2)))) := hD.perm (wj_back [cW dT a_p1 o4.2] [cSP a_this, cP dT (a_this 8) o1.2.1, cP dT (a_this 9) o1.2.2] [1, 2, 3, 0] rfl)
  exact rt_i hx hb hr hlk hK hS ((o1.2.1, o1.2.2, o4.2) : TP × TP × TW) (ret2 h) hP hD dX8_runIn_26

def f_X8_run (g_this_world : TW) (g_this_chosen : TP) (g_this_other : TP) (g_this_history : TH) (v1 : Int32) : Option ((Nat ⊕ Int32) × (TW × TP × TP × TH)) :=
  ((f_X8_needTables g_this_world v1).bind fun o1 => (fun u1 => o1.1.elim (fun k1 => (some (Sum.inl k1, (g_this_world, g_this_chosen, g_this_other, g_this_history)))) (fun _ => ((f_X8_needSomeTable v1).bind fun o2 => (fun u2 => o2.1.elim (fun k2 => (some (Sum.inl k2, (g_this_world, g_this_chosen, g_this_other, g_this_history)))) (fun _ => ((f_X1_remember g_this_history g_this_world).bind fun o3 => ((f_X8_runIn g_this_chosen g_this_other g_this_world v1).bind fun o4 => (some ((Sum.inr o4.1), (o4.2.2.2, o4.2.1, o4.2.2.1, o3.2))))))) o2.2))) o1.2)
set_option maxHeartbeats 8000000 in
set_option maxRecDepth 100000 in
theorem c_X8_run (l : Launch) (hlt : l.stackTraces = false) (D : va_G) (dT : Nat → ClassId) (a_this : Nat → Nat → Nat) (g_this_world : TW) (g_this_chosen : TP) (g_this_other : TP) (g_this_history : TH) (v1 : Int32) (o : ((Nat ⊕ Int32) × (TW × TP × TP × TH))) (h : f_X8_run g_this_world g_this_chosen g_this_other g_this_history v1 = some o) (sz : Nat) : vx_Met l yX8_run (WSm yX8_run cX8_run 2 (some .int)) { frames := 7, cells := 2, slots := 12, locals := 147 } (va_Pc [.ref (a_this 0 0), .int v1] (cPre D dT (cSP a_this ++ (cW dT (a_this 4) g_this_world ++ (cP dT (a_this 8) g_this_chosen ++ (cP dT (a_this 9) g_this_other ++ (cH dT (a_this 6) g_this_history))))) sz)) (va_Qi (fun (r : Int32) (u : TW × TP × TP × TH) => o = (Sum.inr r, u)) (fun u t => cAt D dT (va_A (cSP a_this ++ (cW dT (a_this 4) g_this_world ++ (cP dT (a_this 8) g_this_chosen ++ (cP dT (a_this 9) g_this_other ++ (cH dT (a_this 6) g_this_history))))) sz) (cSP a_this ++ (cW dT (a_this 4) (u.1) ++ (cP dT (a_this 8) (u.2.1) ++ (cP dT (a_this 9) (u.2.2.1) ++ (cH dT (a_this 6) (u.2.2.2)))))) t) (va_A (cSP a_this ++ (cW dT (a_this 4) g_this_world ++ (cP dT (a_this 8) g_this_chosen ++ (cP dT (a_this 9) g_this_other ++ (cH dT (a_this 6) g_this_history))))) sz)) (xEnd D dT (xoP o) (fun u => (cSP a_this ++ (cW dT (a_this 4) (u.1) ++ (cP dT (a_this 8) (u.2.1) ++ (cP dT (a_this 9) (u.2.2.1) ++ (cH dT (a_this 6) (u.2.2.2))))))) (va_A (cSP a_this ++ (cW dT (a_this 4) g_this_world ++ (cP dT (a_this 8) g_this_chosen ++ (cP dT (a_this 9) g_this_other ++ (cH dT (a_this 6) g_this_history))))) sz)) 2 12 (va_A (cSP a_this ++ (cW dT (a_this 4) g_this_world ++ (cP dT (a_this 8) g_this_chosen ++ (cP dT (a_this 9) g_this_other ++ (cH dT (a_this 6) g_this_history))))) sz) := by
  refine mStartX (WS := (cSP a_this ++ (cW dT (a_this 4) g_this_world ++ (cP dT (a_this 8) g_this_chosen ++ (cP dT (a_this 9) g_this_other ++ (cH dT (a_this 6) g_this_history)))))) (Qc := fun A => va_Qi (fun (r : Int32) (u : TW × TP × TP × TH) => o = (Sum.inr r, u)) (fun u t => cAt D dT A (cSP a_this ++ (cW dT (a_this 4) (u.1) ++ (cP dT (a_this 8) (u.2.1) ++ (cP dT (a_this 9) (u.2.2.1) ++ (cH dT (a_this 6) (u.2.2.2)))))) t) A) (XC := fun A => xEnd D dT (xoP o) (fun u => (cSP a_this ++ (cW dT (a_this 4) (u.1) ++ (cP dT (a_this 8) (u.2.1) ++ (cP dT (a_this 9) (u.2.2.1) ++ (cH dT (a_this 6) (u.2.2.2))))))) A) RX8 rfl (by decide) (Nat.le_of_ble_eq_true rfl) ?_ sz
  intro p e s m below meth c A ls hx hb hml hr hlk hnt hts hqs hown hE hA hK hP hD hS hl
  have hl : lv_has ls 2 [(0, .ref (a_this 0 0)), (1, .int v1)] := hl
  unfold f_X8_run at h
  refine lv_aload_n hx hb dX8_run_0 rfl (lv_at hl 0 rfl) ?_
  refine lv_iload_n hx hb dX8_run_1 rfl (lv_at hl 1 rfl) ?_
  obtain ⟨o1, e1, h⟩ := obind h
  have hPq : va_P D vwCl ((cSP a_this ++ (cW dT (a_this 4) g_this_world)) ++ (cP dT (a_this 8) g_this_chosen ++ (cP dT (a_this 9) g_this_other ++ (cH dT (a_this 6) g_this_history)))) _ := hP.perm (wj_split [cSP a_this, cW dT (a_this 4) g_this_world, cP dT (a_this 8) g_this_chosen, cP dT (a_this 9) g_this_other, cH dT (a_this 6) g_this_history] [0, 1] [2, 3, 4] rfl)
  have hDq : va_D A ((cSP a_this ++ (cW dT (a_this 4) g_this_world)) ++ (cP dT (a_this 8) g_this_chosen ++ (cP dT (a_this 9) g_this_other ++ (cH dT (a_this 6) g_this_history)))) := hD.perm (wj_split [cSP a_this, cW dT (a_this 4) g_this_world, cP dT (a_this 8) g_this_chosen, cP dT (a_this 9) g_this_other, cH dT (a_this 6) g_this_history] [0, 1] [2, 3, 4] rfl)
  have hPc := hPq.left
  have hDc := hDq.left
  have hFc := va_freeL hDq hS hA
  refine xcl_vL (wr := (cP dT (a_this 8) g_this_chosen ++ (cP dT (a_this 9) g_this_other ++ (cH dT (a_this 6) g_this_history)))) (vx_runV (As := [.int v1]) (rest := []) ⟨hx, hb, hml, hown, hts⟩ (c_X8_needTables l hlt D dT a_this g_this_world v1 o1 e1 _) (cwV 1 hts (TB_V w_862 w_864 w_31 w_33 w_865) rfl rfl rfl ⟨rfl, nd_X8_needTables⟩ ⟨Nat.le_of_ble_eq_true rfl, Nat.le_of_ble_eq_true rfl⟩) (cPre.V hPc hDc hK hE hS hFc (va_recv hK hPc (ci := 7) (q0 := 0) rfl rfl)) rfl rfl hl.1 rfl (lv_room (Nat.le_of_ble_eq_true rfl)) dX8_run_2 ⟨Nat.le_of_ble_eq_true rfl, Nat.le_of_ble_eq_true rfl⟩) hPq hDq hS hFc (fun k1 u1 E1 ce1 q1 H locs hw hEk hP hD hS hxc hxv hxl => ?_) (fun u1 H locs hw hP hD hS => ?_)
  · have hw := xoP_inv hw
    subst hw
    have hP : va_P D vwCl (cSP a_this ++ (cW dT (a_this 4) g_this_world ++ (cP dT (a_this 8) g_this_chosen ++ (cP dT (a_this 9) g_this_other ++ (cH dT (a_this 6) g_this_history))))) H := hP.perm (wj_back [cSP a_this, cW dT (a_this 4) g_this_world] [cP dT (a_this 8) g_this_chosen, cP dT (a_this 9) g_this_other, cH dT (a_this 6) g_this_history] [0, 1, 2, 3, 4] rfl)
    have hD : va_D A (cSP a_this ++ (cW dT (a_this 4) g_this_world ++ (cP dT (a_this 8) g_this_chosen ++ (cP dT (a_this 9) g_this_other ++ (cH dT (a_this 6) g_this_history))))) := hD.perm (wj_back [cSP a_this, cW dT (a_this 4) g_this_world] [cP dT (a_this 8) g_this_chosen, cP dT (a_this 9) g_this_other, cH dT (a_this 6) g_this_history] [0, 1, 2, 3, 4] rfl)
    exact xo_S hlk hnt hK hS hEk hxc hxv hxl ((g_this_world, g_this_chosen, g_this_other, g_this_history) : TW × TP × TP × TH) (xoP_of h) hP hD rfl rfl
  subst hw
  replace h := sumR h
  have hP : va_P D vwCl (cSP a_this ++ (cW dT (a_this 4) g_this_world ++ (cP dT (a_this 8) g_this_chosen ++ (cP dT (a_this 9) g_this_other ++ (cH dT (a_this 6) g_this_history))))) H := hP.perm (wj_back [cSP a_this, cW dT (a_this 4) g_this_world] [cP dT (a_this 8) g_this_chosen, cP dT (a_this 9) g_this_other, cH dT (a_this 6) g_this_history] [0, 1, 2, 3, 4] rfl)
  have hD : va_D A (cSP a_this ++ (cW dT (a_this 4) g_this_world ++ (cP dT (a_this 8) g_this_chosen ++ (cP dT (a_this 9) g_this_other ++ (cH dT (a_this 6) g_this_history))))) := hD.perm (wj_back [cSP a_this, cW dT (a_this 4) g_this_world] [cP dT (a_this 8) g_this_chosen, cP dT (a_this 9) g_this_other, cH dT (a_this 6) g_this_history] [0, 1, 2, 3, 4] rfl)
  refine lv_iload_n hx hb dX8_run_5 rfl (lv_at hl 1 rfl) ?_
  obtain ⟨o2, e2, h⟩ := obind h
  have hPq : va_P D vwCl (([] : va_W) ++ (cSP a_this ++ (cW dT (a_this 4) g_this_world ++ (cP dT (a_this 8) g_this_chosen ++ (cP dT (a_this 9) g_this_other ++ (cH dT (a_this 6) g_this_history)))))) _ := hP.perm (wj_split [cSP a_this, cW dT (a_this 4) g_this_world, cP dT (a_this 8) g_this_chosen, cP dT (a_this 9) g_this_other, cH dT (a_this 6) g_this_history] [] [0, 1, 2, 3, 4] rfl)
  have hDq : va_D A (([] : va_W) ++ (cSP a_this ++ (cW dT (a_this 4) g_this_world ++ (cP dT (a_this 8) g_this_chosen ++ (cP dT (a_this 9) g_this_other ++ (cH dT (a_this 6) g_this_history)))))) := hD.perm (wj_split [cSP a_this, cW dT (a_this 4) g_this_world, cP dT (a_this 8) g_this_chosen, cP dT (a_this 9) g_this_other, cH dT (a_this 6) g_this_history] [] [0, 1, 2, 3, 4] rfl)
  have hPc := hPq.left
  have hDc := hDq.left
  have hFc := va_freeL hDq hS hA
  refine xcl_vL (wr := (cSP a_this ++ (cW dT (a_this 4) g_this_world ++ (cP dT (a_this 8) g_this_chosen ++ (cP dT (a_this 9) g_this_other ++ (cH dT (a_this 6) g_this_history)))))) (vx_runS (As := [.int v1]) (rest := []) ⟨hx, hb, hml, hown, hts⟩ (c_X8_needSomeTable l hlt D dT v1 o2 e2 _) (va_cwS 1 hts (TB_S w_867 w_868 w_33 w_869) rfl rfl rfl nd_X8_needSomeTable ⟨Nat.le_of_ble_eq_true rfl, Nat.le_of_ble_eq_true rfl⟩) (cPre.S hPc hDc hK hE hS hFc) rfl rfl hl.1 rfl (lv_room (Nat.le_of_ble_eq_true rfl)) dX8_run_6 ⟨Nat.le_of_ble_eq_true rfl, Nat.le_of_ble_eq_true rfl⟩) hPq hDq hS hFc (fun k2 u2 E2 ce2 q2 H locs hw hEk hP hD hS hxc hxv hxl => ?_) (fun u2 H locs hw hP hD hS => ?_)
  · have hw := xoP_inv hw
    subst hw
    have hP : va_P D vwCl (cSP a_this ++ (cW dT (a_this 4) g_this_world ++ (cP dT (a_this 8) g_this_chosen ++ (cP dT (a_this 9) g_this_other ++ (cH dT (a_this 6) g_this_history))))) H := hP.perm (wj_back [] [cSP a_this, cW dT (a_this 4) g_this_world, cP dT (a_this 8) g_this_chosen, cP dT (a_this 9) g_this_other, cH dT (a_this 6) g_this_history] [0, 1, 2, 3, 4] rfl)
    have hD : va_D A (cSP a_this ++ (cW dT (a_this 4) g_this_world ++ (cP dT (a_this 8) g_this_chosen ++ (cP dT (a_this 9) g_this_other ++ (cH dT (a_this 6) g_this_history))))) := hD.perm (wj_back [] [cSP a_this, cW dT (a_this 4) g_this_world, cP dT (a_this 8) g_this_chosen, cP dT (a_this 9) g_this_other, cH dT (a_this 6) g_this_history] [0, 1, 2, 3, 4] rfl)
    exact xo_S hlk hnt hK hS hEk hxc hxv hxl ((g_this_world, g_this_chosen, g_this_other, g_this_history) : TW × TP × TP × TH) (xoP_of h) hP hD rfl rfl
  subst hw
  replace h := sumR h
  have hP : va_P D vwCl (cSP a_this ++ (cW dT (a_this 4) g_this_world ++ (cP dT (a_this 8) g_this_chosen ++ (cP dT (a_this 9) g_this_other ++ (cH dT (a_this 6) g_this_history))))) H := hP.perm (wj_back [] [cSP a_this, cW dT (a_this 4) g_this_world, cP dT (a_this 8) g_this_chosen, cP dT (a_this 9) g_this_other, cH dT (a_this 6) g_this_history] [0, 1, 2, 3, 4] rfl)
  have hD : va_D A (cSP a_this ++ (cW dT (a_this 4) g_this_world ++ (cP dT (a_this 8) g_this_chosen ++ (cP dT (a_this 9) g_this_other ++ (cH dT (a_this 6) g_this_history))))) := hD.perm (wj_back [] [cSP a_this, cW dT (a_this 4) g_this_world, cP dT (a_this 8) g_this_chosen, cP dT (a_this 9) g_this_other, cH dT (a_this 6) g_this_history] [0, 1, 2, 3, 4] rfl)
  refine lv_aload_n hx hb dX8_run_9 rfl (lv_at hl 0 rfl) ?_
  refine gf_X8_43 (v := .ref ((a_this 6) 0)) hx hb hqs hown hK hP 0 rfl rfl dX8_run_10 ?_
  refine lv_aload_n hx hb dX8_run_13 rfl (lv_at hl 0 rfl) ?_
  refine gf_X8_33 (v := .ref ((a_this 4) 0)) hx hb hqs hown hK hP 0 rfl rfl dX8_run_14 ?_
  obtain ⟨o3, e3, h⟩ := obind h
  have hPq : va_P D vwCl ((cH dT (a_this 6) g_this_history ++ (cW dT (a_this 4) g_this_world)) ++ (cSP a_this ++ (cP dT (a_this 8) g_this_chosen ++ (cP dT (a_this 9) g_this_other)))) _ := hP.perm (wj_split [cSP a_this, cW dT (a_this 4) g_this_world, cP dT (a_this 8) g_this_chosen, cP dT (a_this 9) g_this_other, cH dT (a_this 6) g_this_history] [4, 1] [0, 2, 3] rfl)
  have hDq : va_D A ((cH dT (a_this 6) g_this_history ++ (cW dT (a_this 4) g_this_world)) ++ (cSP a_this ++ (cP dT (a_this 8) g_this_chosen ++ (cP dT (a_this 9) g_this_other)))) := hD.perm (wj_split [cSP a_this, cW dT (a_this 4) g_this_world, cP dT (a_this 8) g_this_chosen, cP dT (a_this 9) g_this_other, cH dT (a_this 6) g_this_history] [4, 1] [0, 2, 3] rfl)
  have hPc := hPq.left
  have hDc := hDq.left
  have hFc := va_freeL hDq hS hA
  refine cl_vL (wr := (cSP a_this ++ (cP dT (a_this 8) g_this_chosen ++ (cP dT (a_this 9) g_this_other)))) (va_runV (As := [.ref ((a_this 4) 0)]) (rest := []) ⟨hx, hb, hml, hown, hts⟩ (c_X1_remember l hlt D dT (a_this 6) (a_this 4) g_this_history g_this_world o3 e3 _) (cwV 1 hts (TB_V w_824 w_825 w_826 w_39 w_827) rfl rfl rfl ⟨rfl, nd_X1_remember⟩ ⟨Nat.le_of_ble_eq_true rfl, Nat.le_of_ble_eq_true rfl⟩) (cPre.V hPc hDc hK hE hS hFc (va_recv hK hPc (ci := 1) (q0 := 0) rfl rfl)) rfl rfl hl.1 rfl (lv_room (Nat.le_of_ble_eq_true rfl)) dX8_run_17 ⟨Nat.le_of_ble_eq_true rfl, Nat.le_of_ble_eq_true rfl⟩) hPq hDq hS hFc (fun u3 H locs hw hP hD hS => ?_)
  subst hw
  have hP : va_P D vwCl (cSP a_this ++ (cW dT (a_this 4) g_this_world ++ (cP dT (a_this 8) g_this_chosen ++ (cP dT (a_this 9) g_this_other ++ (cH dT (a_this 6) o3.2))))) H := hP.perm (wj_back [cH dT (a_this 6) o3.2, cW dT (a_this 4) g_this_world] [cSP a_this, cP dT (a_this 8) g_this_chosen, cP dT (a_this 9) g_this_other] [2, 1, 3, 4, 0] rfl)
  have hD : va_D A (cSP a_this ++ (cW dT (a_this 4) g_this_world ++ (cP dT (a_this 8) g_this_chosen ++ (cP dT (a_this 9) g_this_other ++ (cH dT (a_this 6) o3.2))))) := hD.perm (wj_back [cH dT (a_this 6) o3.2, cW dT (a_this 4) g_this_world] [cSP a_this, cP dT (a_this 8) g_this_chosen, cP dT (a_this 9) g_this_other] [2, 1, 3, 4, 0] rfl)
  refine lv_aload_n hx hb dX8_run_20 rfl (lv_at hl 0 rfl) ?_
  refine lv_aload_n hx hb dX8_run_21 rfl (lv_at hl 0 rfl) ?_
  refine gf_X8_33 (v := .ref ((a_this 4) 0)) hx hb hqs hown hK hP 0 rfl rfl dX8_run_22 ?_
  refine lv_iload_n hx hb dX8_run_25 rfl (lv_at hl 1 rfl) ?_
  obtain ⟨o4, e4, h⟩ := obind h
  have hPq : va_P D vwCl ((cSP a_this ++ (cP dT (a_this 8) g_this_chosen ++ (cP dT (a_this 9) g_this_other ++ (cW dT (a_this 4) g_this_world)))) ++ (cH dT (a_this 6) o3.2)) _ := hP.perm (wj_split [cSP a_this, cW dT (a_this 4) g_this_world, cP dT (a_this 8) g_this_chosen, cP dT (a_this 9) g_this_other, cH dT (a_this 6) o3.2] [0, 2, 3, 1] [4] rfl)
  have hDq : va_D A ((cSP a_this ++ (cP dT (a_this 8) g_this_chosen ++ (cP dT (a_this 9) g_this_other ++ (cW dT (a_this 4) g_this_world)))) ++ (cH dT (a_this 6) o3.2)) := hD.perm (wj_split [cSP a_this, cW dT (a_this 4) g_this_world, cP dT (a_this 8) g_this_chosen, cP dT (a_this 9) g_this_other, cH dT (a_this 6) o3.2] [0, 2, 3, 1] [4] rfl)
  have hPc := hPq.left
  have hDc := hDq.left
  have hFc := va_freeL hDq hS hA
  refine cl_iL (wr := (cH dT (a_this 6) o3.2)) (va_runV (As := [.ref ((a_this 4) 0), .int v1]) (rest := []) ⟨hx, hb, hml, hown, hts⟩ (c_X8_runIn l hlt D dT a_this (a_this 4) g_this_chosen g_this_other g_this_world v1 o4 e4 _) (cwV 2 hts (TB_V w_379 w_381 w_2 w_33 w_382) rfl rfl rfl ⟨rfl, nd_X8_runIn⟩ ⟨Nat.le_of_ble_eq_true rfl, Nat.le_of_ble_eq_true rfl⟩) (cPre.V hPc hDc hK hE hS hFc (va_recv hK hPc (ci := 7) (q0 := 0) rfl rfl)) rfl rfl hl.1 rfl (lv_room (Nat.le_of_ble_eq_true rfl)) dX8_run_26 ⟨Nat.le_of_ble_eq_true rfl, Nat.le_of_ble_eq_true rfl⟩) hPq hDq hS hFc (fun r4 u4 H locs hw hP hD hS => ?_)
  obtain ⟨rfl, rfl⟩ := hw
  have hP : va_P D vwCl (cSP a_this ++ (cW dT (a_this 4) o4.2.2.2 ++ (cP dT (a_this 8) o4.2.1 ++ (cP dT (a_this 9) o4.2.2.1 ++ (cH dT (a_this 6) o3.2))))) H := hP.perm (wj_back [cSP a_this, cP dT (a_this 8) o4.2.1, cP dT (a_this 9) o4.2.2.1, cW dT (a_this 4) o4.2.2.2] [cH dT (a_this 6) o3.2] [0, 3, 1, 2, 4] rfl)
  have hD : va_D A (cSP a_this ++ (cW dT (a_this 4) o4.2.2.2 ++ (cP dT (a_this 8) o4.2.1 ++ (cP dT (a_this 9) o4.2.2.1 ++ (cH dT (a_this 6) o3.2))))) := hD.perm (wj_back [cSP a_this, cP dT (a_this 8) o4.2.1, cP dT (a_this 9) o4.2.2.1, cW dT (a_this 4) o4.2.2.2] [cH dT (a_this 6) o3.2] [0, 3, 1, 2, 4] rfl)
  exact vx_ret (rt_i hx hb hr hlk hK hS ((o4.2.2.2, o4.2.1, o4.2.2.1, o3.2) : TW × TP × TP × TH) (Option.some.inj h).symm hP hD dX8_run_29)

def f_X8_weeks (g_this_world : TW) (g_this_history : TH) (v1 : Int32) : Option ((Nat ⊕ Int32) × (TW × TH)) :=
  ((f_X8_needRange v1 (1 : Int32) (20 : Int32)).bind fun o1 => (fun u1 => o1.1.elim (fun k1 => (some (Sum.inl k1, (g_this_world, g_this_history)))) (fun _ => ((f_X1_remember g_this_history g_this_world).bind fun o2 => ((f_X7_passWeeks g_this_world v1).bind fun o3 => (some ((Sum.inr o3.1), (o3.2, o2.2))))))) o1.2)
set_option maxHeartbeats 8000000 in
set_option maxRecDepth 100000 in
theorem c_X8_weeks (l : Launch) (hlt : l.stackTraces = false) (D : va_G) (dT : Nat → ClassId) (a_this : Nat → Nat → Nat) (g_this_world : TW) (g_this_history : TH) (v1 : Int32) (o : ((Nat ⊕ Int32) × (TW × TH))) (h : f_X8_weeks g_this_world g_this_history v1 = some o) (sz : Nat) : vx_Met l yX8_weeks (WSm yX8_weeks cX8_weeks 2 (some .int)) { frames := 7, cells := 1, slots := 6, locals := 112 } (va_Pc [.ref (a_this 0 0), .int v1] (cPre D dT (cSP a_this ++ (cW dT (a_this 4) g_this_world ++ (cH dT (a_this 6) g_this_history))) sz)) (va_Qi (fun (r : Int32) (u : TW × TH) => o = (Sum.inr r, u)) (fun u t => cAt D dT (va_A (cSP a_this ++ (cW dT (a_this 4) g_this_world ++ (cH dT (a_this 6) g_this_history))) sz) (cSP a_this ++ (cW dT (a_this 4) (u.1) ++ (cH dT (a_this 6) (u.2)))) t) (va_A (cSP a_this ++ (cW dT (a_this 4) g_this_world ++ (cH dT (a_this 6) g_this_history))) sz)) (xEnd D dT (xoP o) (fun u => (cSP a_this ++ (cW dT (a_this 4) (u.1) ++ (cH dT (a_this 6) (u.2))))) (va_A (cSP a_this ++ (cW dT (a_this 4) g_this_world ++ (cH dT (a_this 6) g_this_history))) sz)) 1 6 (va_A (cSP a_this ++ (cW dT (a_this 4) g_this_world ++ (cH dT (a_this 6) g_this_history))) sz) := by
  refine mStartX (WS := (cSP a_this ++ (cW dT (a_this 4) g_this_world ++ (cH dT (a_this 6) g_this_history)))) (Qc := fun A => va_Qi (fun (r : Int32) (u : TW × TH) => o = (Sum.inr r, u)) (fun u t => cAt D dT A (cSP a_this ++ (cW dT (a_this 4) (u.1) ++ (cH dT (a_this 6) (u.2)))) t) A) (XC := fun A => xEnd D dT (xoP o) (fun u => (cSP a_this ++ (cW dT (a_this 4) (u.1) ++ (cH dT (a_this 6) (u.2))))) A) RX8 rfl (by decide) (Nat.le_of_ble_eq_true rfl) ?_ sz
  intro p e s m below meth c A ls hx hb hml hr hlk hnt hts hqs hown hE hA hK hP hD hS hl
  have hl : lv_has ls 2 [(0, .ref (a_this 0 0)), (1, .int v1)] := hl
  unfold f_X8_weeks at h
  refine lv_iload_n hx hb dX8_weeks_0 rfl (lv_at hl 1 rfl) ?_
  refine lv_iconst (v := 1) hx hb dX8_weeks_1 (by decide) ?_
  refine lv_bipush (v := 20) hx hb dX8_weeks_2 (by decide) ?_
  obtain ⟨o1, e1, h⟩ := obind h
  have hPq : va_P D vwCl (([] : va_W) ++ (cSP a_this ++ (cW dT (a_this 4) g_this_world ++ (cH dT (a_this 6) g_this_history)))) _ := hP.perm (wj_split [cSP a_this, cW dT (a_this 4) g_this_world, cH dT (a_this 6) g_this_history] [] [0, 1, 2] rfl)
  have hDq : va_D A (([] : va_W) ++ (cSP a_this ++ (cW dT (a_this 4) g_this_world ++ (cH dT (a_this 6) g_this_history)))) := hD.perm (wj_split [cSP a_this, cW dT (a_this 4) g_this_world, cH dT (a_this 6) g_this_history] [] [0, 1, 2] rfl)
  have hPc := hPq.left
  have hDc := hDq.left
  have hFc := va_freeL hDq hS hA
  refine xcl_vL (wr := (cSP a_this ++ (cW dT (a_this 4) g_this_world ++ (cH dT (a_this 6) g_this_history)))) (vx_runS (As := [.int v1, .int (1 : Int32), .int (20 : Int32)]) (rest := []) ⟨hx, hb, hml, hown, hts⟩ (c_X8_needRange l hlt D dT v1 (1 : Int32) (20 : Int32) o1 e1 _) (va_cwS 3 hts (TB_S w_287 w_288 w_33 w_289) rfl rfl rfl nd_X8_needRange ⟨Nat.le_of_ble_eq_true rfl, Nat.le_of_ble_eq_true rfl⟩) (cPre.S hPc hDc hK hE hS hFc) rfl rfl hl.1 rfl (lv_room (Nat.le_of_ble_eq_true rfl)) dX8_weeks_4 ⟨Nat.le_of_ble_eq_true rfl, Nat.le_of_ble_eq_true rfl⟩) hPq hDq hS hFc (fun k1 u1 E1 ce1 q1 H locs hw hEk hP hD hS hxc hxv hxl => ?_) (fun u1 H locs hw hP hD hS => ?_)
  · have hw := xoP_inv hw
    subst hw
    have hP : va_P D vwCl (cSP a_this ++ (cW dT (a_this 4) g_this_world ++ (cH dT (a_this 6) g_this_history))) H := hP.perm (wj_back [] [cSP a_this, cW dT (a_this 4) g_this_world, cH dT (a_this 6) g_this_history] [0, 1, 2] rfl)
    have hD : va_D A (cSP a_this ++ (cW dT (a_this 4) g_this_world ++ (cH dT (a_this 6) g_this_history))) := hD.perm (wj_back [] [cSP a_this, cW dT (a_this 4) g_this_world, cH dT (a_this 6) g_this_history] [0, 1, 2] rfl)
    exact xo_S hlk hnt hK hS hEk hxc hxv hxl ((g_this_world, g_this_history) : TW × TH) (xoP_of h) hP hD rfl rfl
  subst hw
  replace h := sumR h
  have hP : va_P D vwCl (cSP a_this ++ (cW dT (a_this 4) g_this_world ++ (cH dT (a_this 6) g_this_history))) H := hP.perm (wj_back [] [cSP a_this, cW dT (a_this 4) g_this_world, cH dT (a_this 6) g_this_history] [0, 1, 2] rfl)
  have hD : va_D A (cSP a_this ++ (cW dT (a_this 4) g_this_world ++ (cH dT (a_this 6) g_this_history))) := hD.perm (wj_back [] [cSP a_this, cW dT (a_this 4) g_this_world, cH dT (a_this 6) g_this_history] [0, 1, 2] rfl)
  refine lv_aload_n hx hb dX8_weeks_7 rfl (lv_at hl 0 rfl) ?_
  refine gf_X8_43 (v := .ref ((a_this 6) 0)) hx hb hqs hown hK hP 0 rfl rfl dX8_weeks_8 ?_
  refine lv_aload_n hx hb dX8_weeks_11 rfl (lv_at hl 0 rfl) ?_
  refine gf_X8_33 (v := .ref ((a_this 4) 0)) hx hb hqs hown hK hP 0 rfl rfl dX8_weeks_12 ?_
  obtain ⟨o2, e2, h⟩ := obind h
  have hPq : va_P D vwCl ((cH dT (a_this 6) g_this_history ++ (cW dT (a_this 4) g_this_world)) ++ (cSP a_this)) _ := hP.perm (wj_split [cSP a_this, cW dT (a_this 4) g_this_world, cH dT (a_this 6) g_this_history] [2, 1] [0] rfl)
  have hDq : va_D A ((cH dT (a_this 6) g_this_history ++ (cW dT (a_this 4) g_this_world)) ++ (cSP a_this)) := hD.perm (wj_split [cSP a_this, cW dT (a_this 4) g_this_world, cH dT (a_this 6) g_this_history] [2, 1] [0] rfl)
  have hPc := hPq.left
  have hDc := hDq.left
  have hFc := va_freeL hDq hS hA
  refine cl_vL (wr := (cSP a_this)) (va_runV (As := [.ref ((a_this 4) 0)]) (rest := []) ⟨hx, hb, hml, hown, hts⟩ (c_X1_remember l hlt D dT (a_this 6) (a_this 4) g_this_history g_this_world o2 e2 _) (cwV 1 hts (TB_V w_824 w_825 w_826 w_39 w_827) rfl rfl rfl ⟨rfl, nd_X1_remember⟩ ⟨Nat.le_of_ble_eq_true rfl, Nat.le_of_ble_eq_true rfl⟩) (cPre.V hPc hDc hK hE hS hFc (va_recv hK hPc (ci := 1) (q0 := 0) rfl rfl)) rfl rfl hl.1 rfl (lv_room (Nat.le_of_ble_eq_true rfl)) dX8_weeks_15 ⟨Nat.le_of_ble_eq_true rfl, Nat.le_of_ble_eq_true rfl⟩) hPq hDq hS hFc (fun u2 H locs hw hP hD hS => ?_)
  subst hw
  have hP : va_P D vwCl (cSP a_this ++ (cW dT (a_this 4) g_this_world ++ (cH dT (a_this 6) o2.2))) H := hP.perm (wj_back [cH dT (a_this 6) o2.2, cW dT (a_this 4) g_this_world] [cSP a_this] [2, 1, 0] rfl)
  have hD : va_D A (cSP a_this ++ (cW dT (a_this 4) g_this_world ++ (cH dT (a_this 6) o2.2))) := hD.perm (wj_back [cH dT (a_this 6) o2.2, cW dT (a_this 4) g_this_world] [cSP a_this] [2, 1, 0] rfl)
  refine lv_aload_n hx hb dX8_weeks_18 rfl (lv_at hl 0 rfl) ?_
  refine gf_X8_33 (v := .ref ((a_this 4) 0)) hx hb hqs hown hK hP 0 rfl rfl dX8_weeks_19 ?_
  refine lv_iload_n hx hb dX8_weeks_22 rfl (lv_at hl 1 rfl) ?_
  obtain ⟨o3, e3, h⟩ := obind h
  have hPq : va_P D vwCl ((cW dT (a_this 4) g_this_world) ++ (cSP a_this ++ (cH dT (a_this 6) o2.2))) _ := hP.perm (wj_split [cSP a_this, cW dT (a_this 4) g_this_world, cH dT (a_this 6) o2.2] [1] [0, 2] rfl)
  have hDq : va_D A ((cW dT (a_this 4) g_this_world) ++ (cSP a_this ++ (cH dT (a_this 6) o2.2))) := hD.perm (wj_split [cSP a_this, cW dT (a_this 4) g_this_world, cH dT (a_this 6) o2.2] [1] [0, 2] rfl)
  have hPc := hPq.left
  have hDc := hDq.left
  have hFc := va_freeL hDq hS hA
  refine cl_iL (wr := (cSP a_this ++ (cH dT (a_this 6) o2.2))) (va_runV (As := [.int v1]) (rest := []) ⟨hx, hb, hml, hown, hts⟩ (c_X7_passWeeks l hlt D dT (a_this 4) g_this_world v1 o3 e3 _) (cwV 1 hts (TB_V w_498 w_499 w_500 w_38 w_501) rfl rfl rfl ⟨rfl, nd_X7_passWeeks⟩ ⟨Nat.le_of_ble_eq_true rfl, Nat.le_of_ble_eq_true rfl⟩) (cPre.V hPc hDc hK hE hS hFc (va_recv hK hPc (ci := 6) (q0 := 0) rfl rfl)) rfl rfl hl.1 rfl (lv_room (Nat.le_of_ble_eq_true rfl)) dX8_weeks_23 ⟨Nat.le_of_ble_eq_true rfl, Nat.le_of_ble_eq_true rfl⟩) hPq hDq hS hFc (fun r3 u3 H locs hw hP hD hS => ?_)
  obtain ⟨rfl, rfl⟩ := hw
  have hP : va_P D vwCl (cSP a_this ++ (cW dT (a_this 4) o3.2 ++ (cH dT (a_this 6) o2.2))) H := hP.perm (wj_back [cW dT (a_this 4) o3.2] [cSP a_this, cH dT (a_this 6) o2.2] [1, 0, 2] rfl)
  have hD : va_D A (cSP a_this ++ (cW dT (a_this 4) o3.2 ++ (cH dT (a_this 6) o2.2))) := hD.perm (wj_back [cW dT (a_this 4) o3.2] [cSP a_this, cH dT (a_this 6) o2.2] [1, 0, 2] rfl)
  exact vx_ret (rt_i hx hb hr hlk hK hS ((o3.2, o2.2) : TW × TH) (Option.some.inj h).symm hP hD dX8_weeks_26)

def f_X8_set (g_this_world : TW) (g_this_history : TH) (v1 : Int32) (v2 : Int32) : Option ((Nat ⊕ Int32) × (TW × TH)) :=
  ((f_X8_settingTakes v1 v2).bind fun o1 => (if o1.1 = (0 : Int32) then (some (Sum.inl 0, (g_this_world, g_this_history))) else ((f_X1_remember g_this_history g_this_world).bind fun o3 => ((f_X7_changeSetting g_this_world v1 v2).bind fun o4 => (some ((Sum.inr o4.1), (o4.2, o3.2)))))))
set_option maxHeartbeats 8000000 in
set_option maxRecDepth 100000 in
theorem c_X8_set (l : Launch) (hlt : l.stackTraces = false) (D : va_G) (dT : Nat → ClassId) (a_this : Nat → Nat → Nat) (g_this_world : TW) (g_this_history : TH) (v1 : Int32) (v2 : Int32) (o : ((Nat ⊕ Int32) × (TW × TH))) (h : f_X8_set g_this_world g_this_history v1 v2 = some o) (sz : Nat) : vx_Met l yX8_set (WSm yX8_set cX8_set 3 (some .int)) { frames := 6, cells := 1, slots := 6, locals := 91 } (va_Pc [.ref (a_this 0 0), .int v1, .int v2] (cPre D dT (cSP a_this ++ (cW dT (a_this 4) g_this_world ++ (cH dT (a_this 6) g_this_history))) sz)) (va_Qi (fun (r : Int32) (u : TW × TH) => o = (Sum.inr r, u)) (fun u t => cAt D dT (va_A (cSP a_this ++ (cW dT (a_this 4) g_this_world ++ (cH dT (a_this 6) g_this_history))) sz) (cSP a_this ++ (cW dT (a_this 4) (u.1) ++ (cH dT (a_this 6) (u.2)))) t) (va_A (cSP a_this ++ (cW dT (a_this 4) g_this_world ++ (cH dT (a_this 6) g_this_history))) sz)) (xEnd D dT (xoP o) (fun u => (cSP a_this ++ (cW dT (a_this 4) (u.1) ++ (cH dT (a_this 6) (u.2))))) (va_A (cSP a_this ++ (cW dT (a_this 4) g_this_world ++ (cH dT (a_this 6) g_this_history))) sz)) 1 6 (va_A (cSP a_this ++ (cW dT (a_this 4) g_this_world ++ (cH dT (a_this 6) g_this_history))) sz) := by
  refine mStartX (WS := (cSP a_this ++ (cW dT (a_this 4) g_this_world ++ (cH dT (a_this 6) g_this_history)))) (Qc := fun A => va_Qi (fun (r : Int32) (u : TW × TH) => o = (Sum.inr r, u)) (fun u t => cAt D dT A (cSP a_this ++ (cW dT (a_this 4) (u.1) ++ (cH dT (a_this 6) (u.2)))) t) A) (XC := fun A => xEnd D dT (xoP o) (fun u => (cSP a_this ++ (cW dT (a_this 4) (u.1) ++ (cH dT (a_this 6) (u.2))))) A) RX8 rfl (by decide) (Nat.le_of_ble_eq_true rfl) ?_ sz
  intro p e s m below meth c A ls hx hb hml hr hlk hnt hts hqs hown hE hA hK hP hD hS hl
  have hl : lv_has ls 3 [(0, .ref (a_this 0 0)), (1, .int v1), (2, .int v2)] := hl
  unfold f_X8_set at h
  refine lv_iload_n hx hb dX8_set_0 rfl (lv_at hl 1 rfl) ?_
  refine lv_iload_n hx hb dX8_set_1 rfl (lv_at hl 2 rfl) ?_
  obtain ⟨o1, e1, h⟩ := obind h
  have hPq : va_P D vwCl (([] : va_W) ++ (cSP a_this ++ (cW dT (a_this 4) g_this_world ++ (cH dT (a_this 6) g_this_history)))) _ := hP.perm (wj_split [cSP a_this, cW dT (a_this 4) g_this_world, cH dT (a_this 6) g_this_history] [] [0, 1, 2] rfl)
  have hDq : va_D A (([] : va_W) ++ (cSP a_this ++ (cW dT (a_this 4) g_this_world ++ (cH dT (a_this 6) g_this_history)))) := hD.perm (wj_split [cSP a_this, cW dT (a_this 4) g_this_world, cH dT (a_this 6) g_this_history] [] [0, 1, 2] rfl)
  have hPc := hPq.left
  have hDc := hDq.left
  have hFc := va_freeL hDq hS hA
  refine cl_iL (wr := (cSP a_this ++ (cW dT (a_this 4) g_this_world ++ (cH dT (a_this 6) g_this_history)))) (va_runS (As := [.int v1, .int v2]) (rest := []) ⟨hx, hb, hml, hown, hts⟩ (c_X8_settingTakes l hlt D dT v1 v2 o1 e1 _) (va_cwS 2 hts (TB_S w_540 w_541 w_33 w_542) rfl rfl rfl nd_X8_settingTakes ⟨Nat.le_of_ble_eq_true rfl, Nat.le_of_ble_eq_true rfl⟩) (cPre.S hPc hDc hK hE hS hFc) rfl rfl hl.1 rfl (lv_room (Nat.le_of_ble_eq_true rfl)) dX8_set_2 ⟨Nat.zero_le _, Nat.zero_le _⟩) hPq hDq hS hFc (fun r1 u1 H locs hw hP hD hS => ?_)
  obtain ⟨rfl, rfl⟩ := hw
  have hP : va_P D vwCl (cSP a_this ++ (cW dT (a_this 4) g_this_world ++ (cH dT (a_this 6) g_this_history))) H := hP.perm (wj_back [] [cSP a_this, cW dT (a_this 4) g_this_world, cH dT (a_this 6) g_this_history] [0, 1, 2] rfl)
  have hD : va_D A (cSP a_this ++ (cW dT (a_this 4) g_this_world ++ (cH dT (a_this 6) g_this_history))) := hD.perm (wj_back [] [cSP a_this, cW dT (a_this 4) g_this_world, cH dT (a_this 6) g_this_history] [0, 1, 2] rfl)
  refine lv_if_ne (tgt := 18) hx hb dX8_set_5 (by decide) (fun c2 => ?_) (fun c2 => ?_)
  · replace h := iteF c2 h
    refine lv_aload_n hx hb dX8_set_18 rfl (lv_at hl 0 rfl) ?_
    refine gf_X8_43 (v := .ref ((a_this 6) 0)) hx hb hqs hown hK hP 0 rfl rfl dX8_set_19 ?_
    refine lv_aload_n hx hb dX8_set_22 rfl (lv_at hl 0 rfl) ?_
    refine gf_X8_33 (v := .ref ((a_this 4) 0)) hx hb hqs hown hK hP 0 rfl rfl dX8_set_23 ?_
    obtain ⟨o3, e3, h⟩ := obind h
    have hPq : va_P D vwCl ((cH dT (a_this 6) g_this_history ++ (cW dT (a_this 4) g_this_world)) ++ (cSP a_this)) _ := hP.perm (wj_split [cSP a_this, cW dT (a_this 4) g_this_world, cH dT (a_this 6) g_this_history] [2, 1] [0] rfl)
    have hDq : va_D A ((cH dT (a_this 6) g_this_history ++ (cW dT (a_this 4) g_this_world)) ++ (cSP a_this)) := hD.perm (wj_split [cSP a_this, cW dT (a_this 4) g_this_world, cH dT (a_this 6) g_this_history] [2, 1] [0] rfl)
    have hPc := hPq.left
    have hDc := hDq.left
    have hFc := va_freeL hDq hS hA
    refine cl_vL (wr := (cSP a_this)) (va_runV (As := [.ref ((a_this 4) 0)]) (rest := []) ⟨hx, hb, hml, hown, hts⟩ (c_X1_remember l hlt D dT (a_this 6) (a_this 4) g_this_history g_this_world o3 e3 _) (cwV 1 hts (TB_V w_824 w_825 w_826 w_39 w_827) rfl rfl rfl ⟨rfl, nd_X1_remember⟩ ⟨Nat.le_of_ble_eq_true rfl, Nat.le_of_ble_eq_true rfl⟩) (cPre.V hPc hDc hK hE hS hFc (va_recv hK hPc (ci := 1) (q0 := 0) rfl rfl)) rfl rfl hl.1 rfl (lv_room (Nat.le_of_ble_eq_true rfl)) dX8_set_26 ⟨Nat.zero_le _, Nat.zero_le _⟩) hPq hDq hS hFc (fun u3 H locs hw hP hD hS => ?_)
    subst hw
    have hP : va_P D vwCl (cSP a_this ++ (cW dT (a_this 4) g_this_world ++ (cH dT (a_this 6) o3.2))) H := hP.perm (wj_back [cH dT (a_this 6) o3.2, cW dT (a_this 4) g_this_world] [cSP a_this] [2, 1, 0] rfl)
    have hD : va_D A (cSP a_this ++ (cW dT (a_this 4) g_this_world ++ (cH dT (a_this 6) o3.2))) := hD.perm (wj_back [cH dT (a_this 6) o3.2, cW dT (a_this 4) g_this_world] [cSP a_this] [2, 1, 0] rfl)
    refine lv_aload_n hx hb dX8_set_29 rfl (lv_at hl 0 rfl) ?_
    refine gf_X8_33 (v := .ref ((a_this 4) 0)) hx hb hqs hown hK hP 0 rfl rfl dX8_set_30 ?_
    refine lv_iload_n hx hb dX8_set_33 rfl (lv_at hl 1 rfl) ?_
    refine lv_iload_n hx hb dX8_set_34 rfl (lv_at hl 2 rfl) ?_
    obtain ⟨o4, e4, h⟩ := obind h
    have hPq : va_P D vwCl ((cW dT (a_this 4) g_this_world) ++ (cSP a_this ++ (cH dT (a_this 6) o3.2))) _ := hP.perm (wj_split [cSP a_this, cW dT (a_this 4) g_this_world, cH dT (a_this 6) o3.2] [1] [0, 2] rfl)
    have hDq : va_D A ((cW dT (a_this 4) g_this_world) ++ (cSP a_this ++ (cH dT (a_this 6) o3.2))) := hD.perm (wj_split [cSP a_this, cW dT (a_this 4) g_this_world, cH dT (a_this 6) o3.2] [1] [0, 2] rfl)
    have hPc := hPq.left
    have hDc := hDq.left
    have hFc := va_freeL hDq hS hA
    refine cl_iL (wr := (cSP a_this ++ (cH dT (a_this 6) o3.2))) (va_runV (As := [.int v1, .int v2]) (rest := []) ⟨hx, hb, hml, hown, hts⟩ (c_X7_changeSetting l hlt D dT (a_this 4) g_this_world v1 v2 o4 e4 _) (cwV 2 hts (TB_V w_547 w_548 w_549 w_38 w_550) rfl rfl rfl ⟨rfl, nd_X7_changeSetting⟩ ⟨Nat.le_of_ble_eq_true rfl, Nat.le_of_ble_eq_true rfl⟩) (cPre.V hPc hDc hK hE hS hFc (va_recv hK hPc (ci := 6) (q0 := 0) rfl rfl)) rfl rfl hl.1 rfl (lv_room (Nat.le_of_ble_eq_true rfl)) dX8_set_35 ⟨Nat.zero_le _, Nat.zero_le _⟩) hPq hDq hS hFc (fun r4 u4 H locs hw hP hD hS => ?_)
    obtain ⟨rfl, rfl⟩ := hw
    have hP : va_P D vwCl (cSP a_this ++ (cW dT (a_this 4) o4.2 ++ (cH dT (a_this 6) o3.2))) H := hP.perm (wj_back [cW dT (a_this 4) o4.2] [cSP a_this, cH dT (a_this 6) o3.2] [1, 0, 2] rfl)
    have hD : va_D A (cSP a_this ++ (cW dT (a_this 4) o4.2 ++ (cH dT (a_this 6) o3.2))) := hD.perm (wj_back [cW dT (a_this 4) o4.2] [cSP a_this, cH dT (a_this 6) o3.2] [1, 0, 2] rfl)
    refine W.widen (k := 1) (n := 6) (Nat.le_of_ble_eq_true rfl) (Nat.le_of_ble_eq_true rfl) ?_
    exact vx_ret (rt_i hx hb hr hlk hK hS ((o4.2, o3.2) : TW × TH) (Option.some.inj h).symm hP hD dX8_set_38)
  · replace h := iteT c2 h
    exact th_S (k := 0) exOkI rfl (List.mem_of_getElem? (i := 9) rfl) hlt hx hb (hl.1.trans hml.symm) hlk hnt hqs hown hE hK hS ((g_this_world, g_this_history) : TW × TH) (xoP_of h) hP hD rfl rfl rfl rfl rfl rfl dX8_set_8 dX8_set_11 dX8_set_12 dX8_set_14 dX8_set_17

def f_X8_undo (g_this_world : TW) (g_this_history : TH) : Option ((Nat ⊕ Int32) × (TW × TH)) :=
  ((f_X1_isEmpty g_this_history).bind fun o1 => (if o1.1 = (0 : Int32) then ((f_X1_takeBack g_this_history g_this_world).bind fun o3 => (some ((Sum.inr o3.1), (o3.2.2, o3.2.1)))) else (some (Sum.inl 1, (g_this_world, g_this_history)))))
set_option maxHeartbeats 8000000 in
set_option maxRecDepth 100000 in
theorem c_X8_undo (l : Launch) (hlt : l.stackTraces = false) (D : va_G) (dT : Nat → ClassId) (a_this : Nat → Nat → Nat) (g_this_world : TW) (g_this_history : TH) (o : ((Nat ⊕ Int32) × (TW × TH))) (h : f_X8_undo g_this_world g_this_history = some o) (sz : Nat) : vx_Met l yX8_undo (WSm yX8_undo cX8_undo 1 (some .int)) { frames := 6, cells := 1, slots := 6, locals := 92 } (va_Pc [.ref (a_this 0 0)] (cPre D dT (cSP a_this ++ (cW dT (a_this 4) g_this_world ++ (cH dT (a_this 6) g_this_history))) sz)) (va_Qi (fun (r : Int32) (u : TW × TH) => o = (Sum.inr r, u)) (fun u t => cAt D dT (va_A (cSP a_this ++ (cW dT (a_this 4) g_this_world ++ (cH dT (a_this 6) g_this_history))) sz) (cSP a_this ++ (cW dT (a_this 4) (u.1) ++ (cH dT (a_this 6) (u.2)))) t) (va_A (cSP a_this ++ (cW dT (a_this 4) g_this_world ++ (cH dT (a_this 6) g_this_history))) sz)) (xEnd D dT (xoP o) (fun u => (cSP a_this ++ (cW dT (a_this 4) (u.1) ++ (cH dT (a_this 6) (u.2))))) (va_A (cSP a_this ++ (cW dT (a_this 4) g_this_world ++ (cH dT (a_this 6) g_this_history))) sz)) 1 6 (va_A (cSP a_this ++ (cW dT (a_this 4) g_this_world ++ (cH dT (a_this 6) g_this_history))) sz) := by
  refine mStartX (WS := (cSP a_this ++ (cW dT (a_this 4) g_this_world ++ (cH dT (a_this 6) g_this_history)))) (Qc := fun A => va_Qi (fun (r : Int32) (u : TW × TH) => o = (Sum.inr r, u)) (fun u t => cAt D dT A (cSP a_this ++ (cW dT (a_this 4) (u.1) ++ (cH dT (a_this 6) (u.2)))) t) A) (XC := fun A => xEnd D dT (xoP o) (fun u => (cSP a_this ++ (cW dT (a_this 4) (u.1) ++ (cH dT (a_this 6) (u.2))))) A) RX8 rfl (by decide) (Nat.le_of_ble_eq_true rfl) ?_ sz
  intro p e s m below meth c A ls hx hb hml hr hlk hnt hts hqs hown hE hA hK hP hD hS hl
  have hl : lv_has ls 1 [(0, .ref (a_this 0 0))] := hl
  unfold f_X8_undo at h
  refine lv_aload_n hx hb dX8_undo_0 rfl (lv_at hl 0 rfl) ?_
  refine gf_X8_43 (v := .ref ((a_this 6) 0)) hx hb hqs hown hK hP 0 rfl rfl dX8_undo_1 ?_
  obtain ⟨o1, e1, h⟩ := obind h
  have hPq : va_P D vwCl ((cH dT (a_this 6) g_this_history) ++ (cSP a_this ++ (cW dT (a_this 4) g_this_world))) _ := hP.perm (wj_split [cSP a_this, cW dT (a_this 4) g_this_world, cH dT (a_this 6) g_this_history] [2] [0, 1] rfl)
  have hDq : va_D A ((cH dT (a_this 6) g_this_history) ++ (cSP a_this ++ (cW dT (a_this 4) g_this_world))) := hD.perm (wj_split [cSP a_this, cW dT (a_this 4) g_this_world, cH dT (a_this 6) g_this_history] [2] [0, 1] rfl)
  have hPc := hPq.left
  have hDc := hDq.left
  have hFc := va_freeL hDq hS hA
  refine cl_iL (wr := (cSP a_this ++ (cW dT (a_this 4) g_this_world))) (va_runV (As := []) (rest := []) ⟨hx, hb, hml, hown, hts⟩ (c_X1_isEmpty l hlt D dT (a_this 6) g_this_history o1 e1 _) (cwV 0 hts (TB_V w_893 w_894 w_895 w_39 w_896) rfl rfl rfl ⟨rfl, nd_X1_isEmpty⟩ ⟨Nat.le_of_ble_eq_true rfl, Nat.le_of_ble_eq_true rfl⟩) (cPre.V hPc hDc hK hE hS hFc (va_recv hK hPc (ci := 1) (q0 := 0) rfl rfl)) rfl rfl hl.1 rfl (lv_room (Nat.le_of_ble_eq_true rfl)) dX8_undo_4 ⟨Nat.zero_le _, Nat.zero_le _⟩) hPq hDq hS hFc (fun r1 u1 H locs hw hP hD hS => ?_)
  obtain ⟨rfl, rfl⟩ := hw
  have hP : va_P D vwCl (cSP a_this ++ (cW dT (a_this 4) g_this_world ++ (cH dT (a_this 6) g_this_history))) H := hP.perm (wj_back [cH dT (a_this 6) g_this_history] [cSP a_this, cW dT (a_this 4) g_this_world] [1, 2, 0] rfl)
  have hD : va_D A (cSP a_this ++ (cW dT (a_this 4) g_this_world ++ (cH dT (a_this 6) g_this_history))) := hD.perm (wj_back [cH dT (a_this 6) g_this_history] [cSP a_this, cW dT (a_this 4) g_this_world] [1, 2, 0] rfl)
  refine lv_if_eq (tgt := 20) hx hb dX8_undo_7 (by decide) (fun c2 => ?_) (fun c2 => ?_)
  · replace h := iteT c2 h
    refine lv_aload_n hx hb dX8_undo_20 rfl (lv_at hl 0 rfl) ?_
    refine gf_X8_43 (v := .ref ((a_this 6) 0)) hx hb hqs hown hK hP 0 rfl rfl dX8_undo_21 ?_
    refine lv_aload_n hx hb dX8_undo_24 rfl (lv_at hl 0 rfl) ?_
    refine gf_X8_33 (v := .ref ((a_this 4) 0)) hx hb hqs hown hK hP 0 rfl rfl dX8_undo_25 ?_
    obtain ⟨o3, e3, h⟩ := obind h
    have hPq : va_P D vwCl ((cH dT (a_this 6) g_this_history ++ (cW dT (a_this 4) g_this_world)) ++ (cSP a_this)) _ := hP.perm (wj_split [cSP a_this, cW dT (a_this 4) g_this_world, cH dT (a_this 6) g_this_history] [2, 1] [0] rfl)
    have hDq : va_D A ((cH dT (a_this 6) g_this_history ++ (cW dT (a_this 4) g_this_world)) ++ (cSP a_this)) := hD.perm (wj_split [cSP a_this, cW dT (a_this 4) g_this_world, cH dT (a_this 6) g_this_history] [2, 1] [0] rfl)
    have hPc := hPq.left
    have hDc := hDq.left
    have hFc := va_freeL hDq hS hA
    refine cl_iL (wr := (cSP a_this)) (va_runV (As := [.ref ((a_this 4) 0)]) (rest := []) ⟨hx, hb, hml, hown, hts⟩ (c_X1_takeBack l hlt D dT (a_this 6) (a_this 4) g_this_history g_this_world o3 e3 _) (cwV 1 hts (TB_V w_898 w_899 w_900 w_39 w_901) rfl rfl rfl ⟨rfl, nd_X1_takeBack⟩ ⟨Nat.le_of_ble_eq_true rfl, Nat.le_of_ble_eq_true rfl⟩) (cPre.V hPc hDc hK hE hS hFc (va_recv hK hPc (ci := 1) (q0 := 0) rfl rfl)) rfl rfl hl.1 rfl (lv_room (Nat.le_of_ble_eq_true rfl)) dX8_undo_28 ⟨Nat.zero_le _, Nat.zero_le _⟩) hPq hDq hS hFc (fun r3 u3 H locs hw hP hD hS => ?_)
    obtain ⟨rfl, rfl⟩ := hw
    have hP : va_P D vwCl (cSP a_this ++ (cW dT (a_this 4) o3.2.2 ++ (cH dT (a_this 6) o3.2.1))) H := hP.perm (wj_back [cH dT (a_this 6) o3.2.1, cW dT (a_this 4) o3.2.2] [cSP a_this] [2, 1, 0] rfl)
    have hD : va_D A (cSP a_this ++ (cW dT (a_this 4) o3.2.2 ++ (cH dT (a_this 6) o3.2.1))) := hD.perm (wj_back [cH dT (a_this 6) o3.2.1, cW dT (a_this 4) o3.2.2] [cSP a_this] [2, 1, 0] rfl)
    refine W.widen (k := 1) (n := 6) (Nat.le_of_ble_eq_true rfl) (Nat.le_of_ble_eq_true rfl) ?_
    exact vx_ret (rt_i hx hb hr hlk hK hS ((o3.2.2, o3.2.1) : TW × TH) (Option.some.inj h).symm hP hD dX8_undo_31)
  · replace h := iteF c2 h
    exact th_S (k := 1) exOkS rfl (List.mem_of_getElem? (i := 10) rfl) hlt hx hb (hl.1.trans hml.symm) hlk hnt hqs hown hE hK hS ((g_this_world, g_this_history) : TW × TH) (xoP_of h) hP hD rfl rfl rfl rfl rfl rfl dX8_undo_10 dX8_undo_13 dX8_undo_14 dX8_undo_16 dX8_undo_19

def f_X8_needKind (v0 : Int32) : Option ((Nat ⊕ Unit) × (Unit)) :=
  ((f_X8_needRange v0 (0 : Int32) (2 : Int32)).bind fun o1 => (fun u1 => o1.1.elim (fun k1 => (some (Sum.inl k1, ()))) (fun _ => (some ((Sum.inr ()), ())))) o1.2)
set_option maxHeartbeats 8000000 in
set_option maxRecDepth 100000 in
theorem c_X8_needKind (l : Launch) (hlt : l.stackTraces = false) (D : va_G) (dT : Nat → ClassId) (v0 : Int32) (o : ((Nat ⊕ Unit) × (Unit))) (h : f_X8_needKind v0 = some o) (sz : Nat) : vx_Met l yX8_needKind (WSm yX8_needKind cX8_needKind 1 none) { frames := 7, cells := 1, slots := 6, locals := 112 } (va_Pc [.int v0] (cPre D dT ([] : va_W) sz)) (va_Qv (fun (u : Unit) => o = (Sum.inr (), u)) (fun u t => cAt D dT (va_A ([] : va_W) sz) ([] : va_W) t) (va_A ([] : va_W) sz)) (xEnd D dT (xoP o) (fun u => ([] : va_W)) (va_A ([] : va_W) sz)) 1 6 (va_A ([] : va_W) sz) := by
  refine mStartX (WS := ([] : va_W)) (Qc := fun A => va_Qv (fun (u : Unit) => o = (Sum.inr (), u)) (fun u t => cAt D dT A ([] : va_W) t) A) (XC := fun A => xEnd D dT (xoP o) (fun u => ([] : va_W)) A) RX8 rfl (by decide) (Nat.le_of_ble_eq_true rfl) ?_ sz
  intro p e s m below meth c A ls hx hb hml hr hlk hnt hts hqs hown hE hA hK hP hD hS hl
  have hl : lv_has ls 1 [(0, .int v0)] := hl
  unfold f_X8_needKind at h
  refine lv_iload_n hx hb dX8_needKind_0 rfl (lv_at hl 0 rfl) ?_
  refine lv_iconst (v := 0) hx hb dX8_needKind_1 (by decide) ?_
  refine lv_iconst (v := 2) hx hb dX8_needKind_2 (by decide) ?_
  obtain ⟨o1, e1, h⟩ := obind h
  have hPc := hP
  have hDc := hD
  have hFc := vfall hD hS hA
  refine xcl_vA (vx_runS (As := [.int v0, .int (0 : Int32), .int (2 : Int32)]) (rest := []) ⟨hx, hb, hml, hown, hts⟩ (c_X8_needRange l hlt D dT v0 (0 : Int32) (2 : Int32) o1 e1 _) (va_cwS 3 hts (TB_S w_287 w_288 w_33 w_289) rfl rfl rfl nd_X8_needRange ⟨Nat.le_of_ble_eq_true rfl, Nat.le_of_ble_eq_true rfl⟩) (cPre.S hPc hDc hK hE hS hFc) rfl rfl hl.1 rfl (lv_room (Nat.le_of_ble_eq_true rfl)) dX8_needKind_3 ⟨Nat.le_of_ble_eq_true rfl, Nat.le_of_ble_eq_true rfl⟩) hS hFc (fun k1 u1 E1 ce1 q1 H locs hw hEk hP hD hS hxc hxv hxl => ?_) (fun u1 H locs hw hP hD hS => ?_)
  · have hw := xoP_inv hw
    subst hw
    have hP : va_P D vwCl ([] : va_W) H := hP
    have hD : va_D A ([] : va_W) := hD
    exact xo_S hlk hnt hK hS hEk hxc hxv hxl (() : Unit) (xoP_of h) hP hD rfl rfl
  subst hw
  replace h := sumR h
  have hP : va_P D vwCl ([] : va_W) H := hP
  have hD : va_D A ([] : va_W) := hD
  exact vx_ret (rt_v hx hb hr hlk hK hS (() : Unit) (Option.some.inj h).symm hP hD dX8_needKind_6)

def f_X8_rows (g_this_world : TW) (g_this_chosen : TP) (v1 : Int32) (v2 : Int32) : Option ((Nat ⊕ Int64) × (TP)) :=
  ((f_X8_needTables g_this_world v1).bind fun o1 => (fun u1 => o1.1.elim (fun k1 => (some (Sum.inl k1, g_this_chosen))) (fun _ => ((f_X8_needKind v2).bind fun o2 => (fun u2 => o2.1.elim (fun k2 => (some (Sum.inl k2, g_this_chosen))) (fun _ => ((f_X3_weigh g_this_chosen g_this_world v1 v2).bind fun o3 => ((f_X3_rowsOf o3.2 v1).bind fun o4 => (some ((Sum.inr o4.1), o3.2)))))) o2.2))) o1.2)
set_option maxHeartbeats 8000000 in
set_option maxRecDepth 100000 in
theorem c_X8_rows (l : Launch) (hlt : l.stackTraces = false) (D : va_G) (dT : Nat → ClassId) (a_this : Nat → Nat → Nat) (g_this_world : TW) (g_this_chosen : TP) (v1 : Int32) (v2 : Int32) (o : ((Nat ⊕ Int64) × (TP))) (h : f_X8_rows g_this_world g_this_chosen v1 v2 = some o) (sz : Nat) : vx_Met l yX8_rows (WSm yX8_rows cX8_rows 3 (some .long)) { frames := 8, cells := 2, slots := 12, locals := 132 } (va_Pc [.ref (a_this 0 0), .int v1, .int v2] (cPre D dT (cSP a_this ++ (cW dT (a_this 4) g_this_world ++ (cP dT (a_this 8) g_this_chosen))) sz)) (va_Ql (fun (r : Int64) (u : TP) => o = (Sum.inr r, u)) (fun u t => cAt D dT (va_A (cSP a_this ++ (cW dT (a_this 4) g_this_world ++ (cP dT (a_this 8) g_this_chosen))) sz) (cSP a_this ++ (cW dT (a_this 4) g_this_world ++ (cP dT (a_this 8) u))) t) (va_A (cSP a_this ++ (cW dT (a_this 4) g_this_world ++ (cP dT (a_this 8) g_this_chosen))) sz)) (xEnd D dT (xoP o) (fun u => (cSP a_this ++ (cW dT (a_this 4) g_this_world ++ (cP dT (a_this 8) u)))) (va_A (cSP a_this ++ (cW dT (a_this 4) g_this_world ++ (cP dT (a_this 8) g_this_chosen))) sz)) 2 12 (va_A (cSP a_this ++ (cW dT (a_this 4) g_this_world ++ (cP dT (a_this 8) g_this_chosen))) sz) := by
  refine mStartX (WS := (cSP a_this ++ (cW dT (a_this 4) g_this_world ++ (cP dT (a_this 8) g_this_chosen)))) (Qc := fun A => va_Ql (fun (r : Int64) (u : TP) => o = (Sum.inr r, u)) (fun u t => cAt D dT A (cSP a_this ++ (cW dT (a_this 4) g_this_world ++ (cP dT (a_this 8) u))) t) A) (XC := fun A => xEnd D dT (xoP o) (fun u => (cSP a_this ++ (cW dT (a_this 4) g_this_world ++ (cP dT (a_this 8) u)))) A) RX8 rfl (by decide) (Nat.le_of_ble_eq_true rfl) ?_ sz
  intro p e s m below meth c A ls hx hb hml hr hlk hnt hts hqs hown hE hA hK hP hD hS hl
  have hl : lv_has ls 3 [(0, .ref (a_this 0 0)), (1, .int v1), (2, .int v2)] := hl
  unfold f_X8_rows at h
  refine lv_aload_n hx hb dX8_rows_0 rfl (lv_at hl 0 rfl) ?_
  refine lv_iload_n hx hb dX8_rows_1 rfl (lv_at hl 1 rfl) ?_
  obtain ⟨o1, e1, h⟩ := obind h
  have hPq : va_P D vwCl ((cSP a_this ++ (cW dT (a_this 4) g_this_world)) ++ (cP dT (a_this 8) g_this_chosen)) _ := hP.perm (wj_split [cSP a_this, cW dT (a_this 4) g_this_world, cP dT (a_this 8) g_this_chosen] [0, 1] [2] rfl)
  have hDq : va_D A ((cSP a_this ++ (cW dT (a_this 4) g_this_world)) ++ (cP dT (a_this 8) g_this_chosen)) := hD.perm (wj_split [cSP a_this, cW dT (a_this 4) g_this_world, cP dT (a_this 8) g_this_chosen] [0, 1] [2] rfl)
  have hPc := hPq.left
  have hDc := hDq.left
  have hFc := va_freeL hDq hS hA
  refine xcl_vL (wr := (cP dT (a_this 8) g_this_chosen)) (vx_runV (As := [.int v1]) (rest := []) ⟨hx, hb, hml, hown, hts⟩ (c_X8_needTables l hlt D dT a_this g_this_world v1 o1 e1 _) (cwV 1 hts (TB_V w_862 w_864 w_31 w_33 w_865) rfl rfl rfl ⟨rfl, nd_X8_needTables⟩ ⟨Nat.le_of_ble_eq_true rfl, Nat.le_of_ble_eq_true rfl⟩) (cPre.V hPc hDc hK hE hS hFc (va_recv hK hPc (ci := 7) (q0 := 0) rfl rfl)) rfl rfl hl.1 rfl (lv_room (Nat.le_of_ble_eq_true rfl)) dX8_rows_2 ⟨Nat.le_of_ble_eq_true rfl, Nat.le_of_ble_eq_true rfl⟩) hPq hDq hS hFc (fun k1 u1 E1 ce1 q1 H locs hw hEk hP hD hS hxc hxv hxl => ?_) (fun u1 H locs hw hP hD hS => ?_)
  · have hw := xoP_inv hw
    subst hw
    have hP : va_P D vwCl (cSP a_this ++ (cW dT (a_this 4) g_this_world ++ (cP dT (a_this 8) g_this_chosen))) H := hP.perm (wj_back [cSP a_this, cW dT (a_this 4) g_this_world] [cP dT (a_this 8) g_this_chosen] [0, 1, 2] rfl)
    have hD : va_D A (cSP a_this ++ (cW dT (a_this 4) g_this_world ++ (cP dT (a_this 8) g_this_chosen))) := hD.perm (wj_back [cSP a_this, cW dT (a_this 4) g_this_world] [cP dT (a_this 8) g_this_chosen] [0, 1, 2] rfl)
    exact xo_S hlk hnt hK hS hEk hxc hxv hxl (g_this_chosen : TP) (xoP_of h) hP hD rfl rfl
  subst hw
  replace h := sumR h
  have hP : va_P D vwCl (cSP a_this ++ (cW dT (a_this 4) g_this_world ++ (cP dT (a_this 8) g_this_chosen))) H := hP.perm (wj_back [cSP a_this, cW dT (a_this 4) g_this_world] [cP dT (a_this 8) g_this_chosen] [0, 1, 2] rfl)
  have hD : va_D A (cSP a_this ++ (cW dT (a_this 4) g_this_world ++ (cP dT (a_this 8) g_this_chosen))) := hD.perm (wj_back [cSP a_this, cW dT (a_this 4) g_this_world] [cP dT (a_this 8) g_this_chosen] [0, 1, 2] rfl)
  refine lv_iload_n hx hb dX8_rows_5 rfl (lv_at hl 2 rfl) ?_
  obtain ⟨o2, e2, h⟩ := obind h
  have hPq : va_P D vwCl (([] : va_W) ++ (cSP a_this ++ (cW dT (a_this 4) g_this_world ++ (cP dT (a_this 8) g_this_chosen)))) _ := hP.perm (wj_split [cSP a_this, cW dT (a_this 4) g_this_world, cP dT (a_this 8) g_this_chosen] [] [0, 1, 2] rfl)
  have hDq : va_D A (([] : va_W) ++ (cSP a_this ++ (cW dT (a_this 4) g_this_world ++ (cP dT (a_this 8) g_this_chosen)))) := hD.perm (wj_split [cSP a_this, cW dT (a_this 4) g_this_world, cP dT (a_this 8) g_this_chosen] [] [0, 1, 2] rfl)
  have hPc := hPq.left
  have hDc := hDq.left
  have hFc := va_freeL hDq hS hA
  refine xcl_vL (wr := (cSP a_this ++ (cW dT (a_this 4) g_this_world ++ (cP dT (a_this 8) g_this_chosen)))) (vx_runS (As := [.int v2]) (rest := []) ⟨hx, hb, hml, hown, hts⟩ (c_X8_needKind l hlt D dT v2 o2 e2 _) (va_cwS 1 hts (TB_S w_909 w_910 w_33 w_911) rfl rfl rfl nd_X8_needKind ⟨Nat.le_of_ble_eq_true rfl, Nat.le_of_ble_eq_true rfl⟩) (cPre.S hPc hDc hK hE hS hFc) rfl rfl hl.1 rfl (lv_room (Nat.le_of_ble_eq_true rfl)) dX8_rows_6 ⟨Nat.le_of_ble_eq_true rfl, Nat.le_of_ble_eq_true rfl⟩) hPq hDq hS hFc (fun k2 u2 E2 ce2 q2 H locs hw hEk hP hD hS hxc hxv hxl => ?_) (fun u2 H locs hw hP hD hS => ?_)
  · have hw := xoP_inv hw
    subst hw
    have hP : va_P D vwCl (cSP a_this ++ (cW dT (a_this 4) g_this_world ++ (cP dT (a_this 8) g_this_chosen))) H := hP.perm (wj_back [] [cSP a_this, cW dT (a_this 4) g_this_world, cP dT (a_this 8) g_this_chosen] [0, 1, 2] rfl)
    have hD : va_D A (cSP a_this ++ (cW dT (a_this 4) g_this_world ++ (cP dT (a_this 8) g_this_chosen))) := hD.perm (wj_back [] [cSP a_this, cW dT (a_this 4) g_this_world, cP dT (a_this 8) g_this_chosen] [0, 1, 2] rfl)
    exact xo_S hlk hnt hK hS hEk hxc hxv hxl (g_this_chosen : TP) (xoP_of h) hP hD rfl rfl
  subst hw
  replace h := sumR h
  have hP : va_P D vwCl (cSP a_this ++ (cW dT (a_this 4) g_this_world ++ (cP dT (a_this 8) g_this_chosen))) H := hP.perm (wj_back [] [cSP a_this, cW dT (a_this 4) g_this_world, cP dT (a_this 8) g_this_chosen] [0, 1, 2] rfl)
  have hD : va_D A (cSP a_this ++ (cW dT (a_this 4) g_this_world ++ (cP dT (a_this 8) g_this_chosen))) := hD.perm (wj_back [] [cSP a_this, cW dT (a_this 4) g_this_world, cP dT (a_this 8) g_this_chosen] [0, 1, 2] rfl)
  refine lv_aload_n hx hb dX8_rows_9 rfl (lv_at hl 0 rfl) ?_
  refine gf_X8_57 (v := .ref ((a_this 8) 0)) hx hb hqs hown hK hP 0 rfl rfl dX8_rows_10 ?_
  refine lv_aload_n hx hb dX8_rows_13 rfl (lv_at hl 0 rfl) ?_
  refine gf_X8_33 (v := .ref ((a_this 4) 0)) hx hb hqs hown hK hP 0 rfl rfl dX8_rows_14 ?_
  refine lv_iload_n hx hb dX8_rows_17 rfl (lv_at hl 1 rfl) ?_
  refine lv_iload_n hx hb dX8_rows_18 rfl (lv_at hl 2 rfl) ?_
  obtain ⟨o3, e3, h⟩ := obind h
  have hPq : va_P D vwCl ((cP dT (a_this 8) g_this_chosen ++ (cW dT (a_this 4) g_this_world)) ++ (cSP a_this)) _ := hP.perm (wj_split [cSP a_this, cW dT (a_this 4) g_this_world, cP dT (a_this 8) g_this_chosen] [2, 1] [0] rfl)
  have hDq : va_D A ((cP dT (a_this 8) g_this_chosen ++ (cW dT (a_this 4) g_this_world)) ++ (cSP a_this)) := hD.perm (wj_split [cSP a_this, cW dT (a_this 4) g_this_world, cP dT (a_this 8) g_this_chosen] [2, 1] [0] rfl)
  have hPc := hPq.left
  have hDc := hDq.left
  have hFc := va_freeL hDq hS hA
  refine cl_vL (wr := (cSP a_this)) (va_runV (As := [.ref ((a_this 4) 0), .int v1, .int v2]) (rest := []) ⟨hx, hb, hml, hown, hts⟩ (c_X3_weigh l hlt D dT (a_this 8) (a_this 4) g_this_chosen g_this_world v1 v2 o3 e3 _) (cwV 3 hts (TB_V w_1004 w_392 w_393 w_41 w_394) rfl rfl rfl ⟨rfl, nd_X3_weigh⟩ ⟨Nat.le_of_ble_eq_true rfl, Nat.le_of_ble_eq_true rfl⟩) (cPre.V hPc hDc hK hE hS hFc (va_recv hK hPc (ci := 3) (q0 := 0) rfl rfl)) rfl rfl hl.1 rfl (lv_room (Nat.le_of_ble_eq_true rfl)) dX8_rows_19 ⟨Nat.le_of_ble_eq_true rfl, Nat.le_of_ble_eq_true rfl⟩) hPq hDq hS hFc (fun u3 H locs hw hP hD hS => ?_)
  subst hw
  have hP : va_P D vwCl (cSP a_this ++ (cW dT (a_this 4) g_this_world ++ (cP dT (a_this 8) o3.2))) H := hP.perm (wj_back [cP dT (a_this 8) o3.2, cW dT (a_this 4) g_this_world] [cSP a_this] [2, 1, 0] rfl)
  have hD : va_D A (cSP a_this ++ (cW dT (a_this 4) g_this_world ++ (cP dT (a_this 8) o3.2))) := hD.perm (wj_back [cP dT (a_this 8) o3.2, cW dT (a_this 4) g_this_world] [cSP a_this] [2, 1, 0] rfl)
  refine lv_aload_n hx hb dX8_rows_22 rfl (lv_at hl 0 rfl) ?_
  refine gf_X8_57 (v := .ref ((a_this 8) 0)) hx hb hqs hown hK hP 0 rfl rfl dX8_rows_23 ?_
  refine lv_iload_n hx hb dX8_rows_26 rfl (lv_at hl 1 rfl) ?_
  obtain ⟨o4, e4, h⟩ := obind h
  have hPq : va_P D vwCl ((cP dT (a_this 8) o3.2) ++ (cSP a_this ++ (cW dT (a_this 4) g_this_world))) _ := hP.perm (wj_split [cSP a_this, cW dT (a_this 4) g_this_world, cP dT (a_this 8) o3.2] [2] [0, 1] rfl)
  have hDq : va_D A ((cP dT (a_this 8) o3.2) ++ (cSP a_this ++ (cW dT (a_this 4) g_this_world))) := hD.perm (wj_split [cSP a_this, cW dT (a_this 4) g_this_world, cP dT (a_this 8) o3.2] [2] [0, 1] rfl)
  have hPc := hPq.left
  have hDc := hDq.left
  have hFc := va_freeL hDq hS hA
  refine cl_lL (wr := (cSP a_this ++ (cW dT (a_this 4) g_this_world))) (va_runV (As := [.int v1]) (rest := []) ⟨hx, hb, hml, hown, hts⟩ (c_X3_rowsOf l hlt D dT (a_this 8) o3.2 v1 o4 e4 _) (cwV 1 hts (TB_V w_1005 w_409 w_410 w_41 w_411) rfl rfl rfl ⟨rfl, nd_X3_rowsOf⟩ ⟨Nat.le_of_ble_eq_true rfl, Nat.le_of_ble_eq_true rfl⟩) (cPre.V hPc hDc hK hE hS hFc (va_recv hK hPc (ci := 3) (q0 := 0) rfl rfl)) rfl rfl hl.1 rfl (lv_room (Nat.le_of_ble_eq_true rfl)) dX8_rows_27 ⟨Nat.le_of_ble_eq_true rfl, Nat.le_of_ble_eq_true rfl⟩) hPq hDq hS hFc (fun r4 u4 H locs hw hP hD hS => ?_)
  obtain ⟨rfl, rfl⟩ := hw
  have hP : va_P D vwCl (cSP a_this ++ (cW dT (a_this 4) g_this_world ++ (cP dT (a_this 8) o3.2))) H := hP.perm (wj_back [cP dT (a_this 8) o3.2] [cSP a_this, cW dT (a_this 4) g_this_world] [1, 2, 0] rfl)
  have hD : va_D A (cSP a_this ++ (cW dT (a_this 4) g_this_world ++ (cP dT (a_this 8) o3.2))) := hD.perm (wj_back [cP dT (a_this 8) o3.2] [cSP a_this, cW dT (a_this 4) g_this_world] [1, 2, 0] rfl)
  exact vx_ret (rt_l hx hb hr hlk hK hS (o3.2 : TP) (Option.some.inj h).symm hP hD dX8_rows_30)

def f_X8_needAtLeast (v0 : Int32) (v1 : Int32) : Option ((Nat ⊕ Unit) × (Unit)) :=
  (if v1 ≤ v0 then (some ((Sum.inr ()), ())) else (some (Sum.inl 0, ())))
set_option maxHeartbeats 8000000 in
set_option maxRecDepth 100000 in
theorem c_X8_needAtLeast (l : Launch) (hlt : l.stackTraces = false) (D : va_G) (dT : Nat → ClassId) (v0 : Int32) (v1 : Int32) (o : ((Nat ⊕ Unit) × (Unit))) (h : f_X8_needAtLeast v0 v1 = some o) (sz : Nat) : vx_Met l yX8_needAtLeast (WSm yX8_needAtLeast cX8_needAtLeast 2 none) { frames := 6, cells := 1, slots := 6, locals := 90 } (va_Pc [.int v0, .int v1] (cPre D dT ([] : va_W) sz)) (va_Qv (fun (u : Unit) => o = (Sum.inr (), u)) (fun u t => cAt D dT (va_A ([] : va_W) sz) ([] : va_W) t) (va_A ([] : va_W) sz)) (xEnd D dT (xoP o) (fun u => ([] : va_W)) (va_A ([] : va_W) sz)) 1 6 (va_A ([] : va_W) sz) := by
  refine mStartX (WS := ([] : va_W)) (Qc := fun A => va_Qv (fun (u : Unit) => o = (Sum.inr (), u)) (fun u t => cAt D dT A ([] : va_W) t) A) (XC := fun A => xEnd D dT (xoP o) (fun u => ([] : va_W)) A) RX8 rfl (by decide) (Nat.le_of_ble_eq_true rfl) ?_ sz
  intro p e s m below meth c A ls hx hb hml hr hlk hnt hts hqs hown hE hA hK hP hD hS hl
  have hl : lv_has ls 2 [(0, .int v0), (1, .int v1)] := hl
  unfold f_X8_needAtLeast at h
  refine lv_iload_n hx hb dX8_needAtLeast_0 rfl (lv_at hl 0 rfl) ?_
  refine lv_iload_n hx hb dX8_needAtLeast_1 rfl (lv_at hl 1 rfl) ?_
  refine lv_icmp_ge (tgt := 16) hx hb dX8_needAtLeast_2 (by decide) (fun c1 => ?_) (fun c1 => ?_)
  · replace h := iteT c1 h
    refine W.widen (k := 1) (n := 6) (Nat.le_of_ble_eq_true rfl) (Nat.le_of_ble_eq_true rfl) ?_
    exact vx_ret (rt_v hx hb hr hlk hK hS (() : Unit) (Option.some.inj h).symm hP hD dX8_needAtLeast_16)
  · replace h := iteF c1 h
    exact th_W (k := 0) exOkI rfl (List.mem_of_getElem? (i := 11) rfl) hlt hx hb (hl.1.trans hml.symm) hlk hnt hqs hown hE hK hS (() : Unit) (xoP_of h) hP hD rfl rfl rfl rfl rfl rfl dX8_needAtLeast_5 dX8_needAtLeast_8 dX8_needAtLeast_9 dX8_needAtLeast_12 dX8_needAtLeast_15

def f_X8_order (g_this_world : TW) (g_this_chosen : TP) (v1 : Int32) (v2 : Int32) (v3 : Int32) : Option ((Nat ⊕ Int32) × (TP)) :=
  ((f_X8_needTables g_this_world v1).bind fun o1 => (fun u1 => o1.1.elim (fun k1 => (some (Sum.inl k1, g_this_chosen))) (fun _ => ((f_X8_needKind v2).bind fun o2 => (fun u2 => o2.1.elim (fun k2 => (some (Sum.inl k2, g_this_chosen))) (fun _ => ((f_X8_needAtLeast v3 (0 : Int32)).bind fun o3 => (fun u3 => o3.1.elim (fun k3 => (some (Sum.inl k3, g_this_chosen))) (fun _ => ((f_X3_choose g_this_chosen g_this_world v1 v2).bind fun o4 => ((f_X3_tableAt o4.2 v3).bind fun o5 => (some ((Sum.inr o5.1), o4.2)))))) o3.2))) o2.2))) o1.2)
set_option maxHeartbeats 8000000 in
set_option maxRecDepth 100000 in
theorem c_X8_order (l : Launch) (hlt : l.stackTraces = false) (D : va_G) (dT : Nat → ClassId) (a_this : Nat → Nat → Nat) (g_this_world : TW) (g_this_chosen : TP) (v1 : Int32) (v2 : Int32) (v3 : Int32) (o : ((Nat ⊕ Int32) × (TP))) (h : f_X8_order g_this_world g_this_chosen v1 v2 v3 = some o) (sz : Nat) : vx_Met l yX8_order (WSm yX8_order cX8_order 4 (some .int)) { frames := 8, cells := 3, slots := 18, locals := 132 } (va_Pc [.ref (a_this 0 0), .int v1, .int v2, .int v3] (cPre D dT (cSP a_this ++ (cW dT (a_this 4) g_this_world ++ (cP dT (a_this 8) g_this_chosen))) sz)) (va_Qi (fun (r : Int32) (u : TP) => o = (Sum.inr r, u)) (fun u t => cAt D dT (va_A (cSP a_this ++ (cW dT (a_this 4) g_this_world ++ (cP dT (a_this 8) g_this_chosen))) sz) (cSP a_this ++ (cW dT (a_this 4) g_this_world ++ (cP dT (a_this 8) u))) t) (va_A (cSP a_this ++ (cW dT (a_this 4) g_this_world ++ (cP dT (a_this 8) g_this_chosen))) sz)) (xEnd D dT (xoP o) (fun u => (cSP a_this ++ (cW dT (a_this 4) g_this_world ++ (cP dT (a_this 8) u)))) (va_A (cSP a_this ++ (cW dT (a_this 4) g_this_world ++ (cP dT (a_this 8) g_this_chosen))) sz)) 3 18 (va_A (cSP a_this ++ (cW dT (a_this 4) g_this_world ++ (cP dT (a_this 8) g_this_chosen))) sz) := by
  refine mStartX (WS := (cSP a_this ++ (cW dT (a_this 4) g_this_world ++ (cP dT (a_this 8) g_this_chosen)))) (Qc := fun A => va_Qi (fun (r : Int32) (u : TP) => o = (Sum.inr r, u)) (fun u t => cAt D dT A (cSP a_this ++ (cW dT (a_this 4) g_this_world ++ (cP dT (a_this 8) u))) t) A) (XC := fun A => xEnd D dT (xoP o) (fun u => (cSP a_this ++ (cW dT (a_this 4) g_this_world ++ (cP dT (a_this 8) u)))) A) RX8 rfl (by decide) (Nat.le_of_ble_eq_true rfl) ?_ sz
  intro p e s m below meth c A ls hx hb hml hr hlk hnt hts hqs hown hE hA hK hP hD hS hl
  have hl : lv_has ls 4 [(0, .ref (a_this 0 0)), (1, .int v1), (2, .int v2), (3, .int v3)] := hl
  unfold f_X8_order at h
  refine lv_aload_n hx hb dX8_order_0 rfl (lv_at hl 0 rfl) ?_
  refine lv_iload_n hx hb dX8_order_1 rfl (lv_at hl 1 rfl) ?_
  obtain ⟨o1, e1, h⟩ := obind h
  have hPq : va_P D vwCl ((cSP a_this ++ (cW dT (a_this 4) g_this_world)) ++ (cP dT (a_this 8) g_this_chosen)) _ := hP.perm (wj_split [cSP a_this, cW dT (a_this 4) g_this_world, cP dT (a_this 8) g_this_chosen] [0, 1] [2] rfl)
  have hDq : va_D A ((cSP a_this ++ (cW dT (a_this 4) g_this_world)) ++ (cP dT (a_this 8) g_this_chosen)) := hD.perm (wj_split [cSP a_this, cW dT (a_this 4) g_this_world, cP dT (a_this 8) g_this_chosen] [0, 1] [2] rfl)
  have hPc := hPq.left
  have hDc := hDq.left
  have hFc := va_freeL hDq hS hA
  refine xcl_vL (wr := (cP dT (a_this 8) g_this_chosen)) (vx_runV (As := [.int v1]) (rest := []) ⟨hx, hb, hml, hown, hts⟩ (c_X8_needTables l hlt D dT a_this g_this_world v1 o1 e1 _) (cwV 1 hts (TB_V w_862 w_864 w_31 w_33 w_865) rfl rfl rfl ⟨rfl, nd_X8_needTables⟩ ⟨Nat.le_of_ble_eq_true rfl, Nat.le_of_ble_eq_true rfl⟩) (cPre.V hPc hDc hK hE hS hFc (va_recv hK hPc (ci := 7) (q0 := 0) rfl rfl)) rfl rfl hl.1 rfl (lv_room (Nat.le_of_ble_eq_true rfl)) dX8_order_2 ⟨Nat.le_of_ble_eq_true rfl, Nat.le_of_ble_eq_true rfl⟩) hPq hDq hS hFc (fun k1 u1 E1 ce1 q1 H locs hw hEk hP hD hS hxc hxv hxl => ?_) (fun u1 H locs hw hP hD hS => ?_)
  · have hw := xoP_inv hw
    subst hw
    have hP : va_P D vwCl (cSP a_this ++ (cW dT (a_this 4) g_this_world ++ (cP dT (a_this 8) g_this_chosen))) H := hP.perm (wj_back [cSP a_this, cW dT (a_this 4) g_this_world] [cP dT (a_this 8) g_this_chosen] [0, 1, 2] rfl)
    have hD : va_D A (cSP a_this ++ (cW dT (a_this 4) g_this_world ++ (cP dT (a_this 8) g_this_chosen))) := hD.perm (wj_back [cSP a_this, cW dT (a_this 4) g_this_world] [cP dT (a_this 8) g_this_chosen] [0, 1, 2] rfl)
    exact xo_S hlk hnt hK hS hEk hxc hxv hxl (g_this_chosen : TP) (xoP_of h) hP hD rfl rfl
  subst hw
  replace h := sumR h
  have hP : va_P D vwCl (cSP a_this ++ (cW dT (a_this 4) g_this_world ++ (cP dT (a_this 8) g_this_chosen))) H := hP.perm (wj_back [cSP a_this, cW dT (a_this 4) g_this_world] [cP dT (a_this 8) g_this_chosen] [0, 1, 2] rfl)
  have hD : va_D A (cSP a_this ++ (cW dT (a_this 4) g_this_world ++ (cP dT (a_this 8) g_this_chosen))) := hD.perm (wj_back [cSP a_this, cW dT (a_this 4) g_this_world] [cP dT (a_this 8) g_this_chosen] [0, 1, 2] rfl)
  refine lv_iload_n hx hb dX8_order_5 rfl (lv_at hl 2 rfl) ?_
  obtain ⟨o2, e2, h⟩ := obind h
  have hPq : va_P D vwCl (([] : va_W) ++ (cSP a_this ++ (cW dT (a_this 4) g_this_world ++ (cP dT (a_this 8) g_this_chosen)))) _ := hP.perm (wj_split [cSP a_this, cW dT (a_this 4) g_this_world, cP dT (a_this 8) g_this_chosen] [] [0, 1, 2] rfl)
  have hDq : va_D A (([] : va_W) ++ (cSP a_this ++ (cW dT (a_this 4) g_this_world ++ (cP dT (a_this 8) g_this_chosen)))) := hD.perm (wj_split [cSP a_this, cW dT (a_this 4) g_this_world, cP dT (a_this 8) g_this_chosen] [] [0, 1, 2] rfl)
  have hPc := hPq.left
  have hDc := hDq.left
  have hFc := va_freeL hDq hS hA
  refine xcl_vL (wr := (cSP a_this ++ (cW dT (a_this 4) g_this_world ++ (cP dT (a_this 8) g_this_chosen)))) (vx_runS (As := [.int v2]) (rest := []) ⟨hx, hb, hml, hown, hts⟩ (c_X8_needKind l hlt D dT v2 o2 e2 _) (va_cwS 1 hts (TB_S w_909 w_910 w_33 w_911) rfl rfl rfl nd_X8_needKind ⟨Nat.le_of_ble_eq_true rfl, Nat.le_of_ble_eq_true rfl⟩) (cPre.S hPc hDc hK hE hS hFc) rfl rfl hl.1 rfl (lv_room (Nat.le_of_ble_eq_true rfl)) dX8_order_6 ⟨Nat.le_of_ble_eq_true rfl, Nat.le_of_ble_eq_true rfl⟩) hPq hDq hS hFc (fun k2 u2 E2 ce2 q2 H locs hw hEk hP hD hS hxc hxv hxl => ?_) (fun u2 H locs hw hP hD hS => ?_)
  · have hw := xoP_inv hw
    subst hw
    have hP : va_P D vwCl (cSP a_this ++ (cW dT (a_this 4) g_this_world ++ (cP dT (a_this 8) g_this_chosen))) H := hP.perm (wj_back [] [cSP a_this, cW dT (a_this 4) g_this_world, cP dT (a_this 8) g_this_chosen] [0, 1, 2] rfl)
    have hD : va_D A (cSP a_this ++ (cW dT (a_this 4) g_this_world ++ (cP dT (a_this 8) g_this_chosen))) := hD.perm (wj_back [] [cSP a_this, cW dT (a_this 4) g_this_world, cP dT (a_this 8) g_this_chosen] [0, 1, 2] rfl)
    exact xo_S hlk hnt hK hS hEk hxc hxv hxl (g_this_chosen : TP) (xoP_of h) hP hD rfl rfl
  subst hw
  replace h := sumR h
  have hP : va_P D vwCl (cSP a_this ++ (cW dT (a_this 4) g_this_world ++ (cP dT (a_this 8) g_this_chosen))) H := hP.perm (wj_back [] [cSP a_this, cW dT (a_this 4) g_this_world, cP dT (a_this 8) g_this_chosen] [0, 1, 2] rfl)
  have hD : va_D A (cSP a_this ++ (cW dT (a_this 4) g_this_world ++ (cP dT (a_this 8) g_this_chosen))) := hD.perm (wj_back [] [cSP a_this, cW dT (a_this 4) g_this_world, cP dT (a_this 8) g_this_chosen] [0, 1, 2] rfl)
  refine lv_iload_n hx hb dX8_order_9 rfl (lv_at hl 3 rfl) ?_
  refine lv_iconst (v := 0) hx hb dX8_order_10 (by decide) ?_
  obtain ⟨o3, e3, h⟩ := obind h
  have hPq : va_P D vwCl (([] : va_W) ++ (cSP a_this ++ (cW dT (a_this 4) g_this_world ++ (cP dT (a_this 8) g_this_chosen)))) _ := hP.perm (wj_split [cSP a_this, cW dT (a_this 4) g_this_world, cP dT (a_this 8) g_this_chosen] [] [0, 1, 2] rfl)
  have hDq : va_D A (([] : va_W) ++ (cSP a_this ++ (cW dT (a_this 4) g_this_world ++ (cP dT (a_this 8) g_this_chosen)))) := hD.perm (wj_split [cSP a_this, cW dT (a_this 4) g_this_world, cP dT (a_this 8) g_this_chosen] [] [0, 1, 2] rfl)
  have hPc := hPq.left
  have hDc := hDq.left
  have hFc := va_freeL hDq hS hA
  refine xcl_vL (wr := (cSP a_this ++ (cW dT (a_this 4) g_this_world ++ (cP dT (a_this 8) g_this_chosen)))) (vx_runS (As := [.int v3, .int (0 : Int32)]) (rest := []) ⟨hx, hb, hml, hown, hts⟩ (c_X8_needAtLeast l hlt D dT v3 (0 : Int32) o3 e3 _) (va_cwS 2 hts (TB_S w_912 w_913 w_33 w_914) rfl rfl rfl nd_X8_needAtLeast ⟨Nat.le_of_ble_eq_true rfl, Nat.le_of_ble_eq_true rfl⟩) (cPre.S hPc hDc hK hE hS hFc) rfl rfl hl.1 rfl (lv_room (Nat.le_of_ble_eq_true rfl)) dX8_order_11 ⟨Nat.le_of_ble_eq_true rfl, Nat.le_of_ble_eq_true rfl⟩) hPq hDq hS hFc (fun k3 u3 E3 ce3 q3 H locs hw hEk hP hD hS hxc hxv hxl => ?_) (fun u3 H locs hw hP hD hS => ?_)
  · have hw := xoP_inv hw
    subst hw
    have hP : va_P D vwCl (cSP a_this ++ (cW dT (a_this 4) g_this_world ++ (cP dT (a_this 8) g_this_chosen))) H := hP.perm (wj_back [] [cSP a_this, cW dT (a_this 4) g_this_world, cP dT (a_this 8) g_this_chosen] [0, 1, 2] rfl)
    have hD : va_D A (cSP a_this ++ (cW dT (a_this 4) g_this_world ++ (cP dT (a_this 8) g_this_chosen))) := hD.perm (wj_back [] [cSP a_this, cW dT (a_this 4) g_this_world, cP dT (a_this 8) g_this_chosen] [0, 1, 2] rfl)
    exact xo_S hlk hnt hK hS hEk hxc hxv hxl (g_this_chosen : TP) (xoP_of h) hP hD rfl rfl
  subst hw
  replace h := sumR h
  have hP : va_P D vwCl (cSP a_this ++ (cW dT (a_this 4) g_this_world ++ (cP dT (a_this 8) g_this_chosen))) H := hP.perm (wj_back [] [cSP a_this, cW dT (a_this 4) g_this_world, cP dT (a_this 8) g_this_chosen] [0, 1, 2] rfl)
  have hD : va_D A (cSP a_this ++ (cW dT (a_this 4) g_this_world ++ (cP dT (a_this 8) g_this_chosen))) := hD.perm (wj_back [] [cSP a_this, cW dT (a_this 4) g_this_world, cP dT (a_this 8) g_this_chosen] [0, 1, 2] rfl)
  refine lv_aload_n hx hb dX8_order_14 rfl (lv_at hl 0 rfl) ?_
  refine gf_X8_57 (v := .ref ((a_this 8) 0)) hx hb hqs hown hK hP 0 rfl rfl dX8_order_15 ?_
  refine lv_aload_n hx hb dX8_order_18 rfl (lv_at hl 0 rfl) ?_
  refine gf_X8_33 (v := .ref ((a_this 4) 0)) hx hb hqs hown hK hP 0 rfl rfl dX8_order_19 ?_
  refine lv_iload_n hx hb dX8_order_22 rfl (lv_at hl 1 rfl) ?_
  refine lv_iload_n hx hb dX8_order_23 rfl (lv_at hl 2 rfl) ?_
  obtain ⟨o4, e4, h⟩ := obind h
  have hPq : va_P D vwCl ((cP dT (a_this 8) g_this_chosen ++ (cW dT (a_this 4) g_this_world)) ++ (cSP a_this)) _ := hP.perm (wj_split [cSP a_this, cW dT (a_this 4) g_this_world, cP dT (a_this 8) g_this_chosen] [2, 1] [0] rfl)
  have hDq : va_D A ((cP dT (a_this 8) g_this_chosen ++ (cW dT (a_this 4) g_this_world)) ++ (cSP a_this)) := hD.perm (wj_split [cSP a_this, cW dT (a_this 4) g_this_world, cP dT (a_this 8) g_this_chosen] [2, 1] [0] rfl)
  have hPc := hPq.left
  have hDc := hDq.left
  have hFc := va_freeL hDq hS hA
  refine cl_vL (wr := (cSP a_this)) (va_runV (As := [.ref ((a_this 4) 0), .int v1, .int v2]) (rest := []) ⟨hx, hb, hml, hown, hts⟩ (c_X3_choose l hlt D dT (a_this 8) (a_this 4) g_this_chosen g_this_world v1 v2 o4 e4 _) (cwV 3 hts (TB_V w_387 w_388 w_389 w_41 w_390) rfl rfl rfl ⟨rfl, nd_X3_choose⟩ ⟨Nat.le_of_ble_eq_true rfl, Nat.le_of_ble_eq_true rfl⟩) (cPre.V hPc hDc hK hE hS hFc (va_recv hK hPc (ci := 3) (q0 := 0) rfl rfl)) rfl rfl hl.1 rfl (lv_room (Nat.le_of_ble_eq_true rfl)) dX8_order_24 ⟨Nat.le_of_ble_eq_true rfl, Nat.le_of_ble_eq_true rfl⟩) hPq hDq hS hFc (fun u4 H locs hw hP hD hS => ?_)
  subst hw
  have hP : va_P D vwCl (cSP a_this ++ (cW dT (a_this 4) g_this_world ++ (cP dT (a_this 8) o4.2))) H := hP.perm (wj_back [cP dT (a_this 8) o4.2, cW dT (a_this 4) g_this_world] [cSP a_this] [2, 1, 0] rfl)
  have hD : va_D A (cSP a_this ++ (cW dT (a_this 4) g_this_world ++ (cP dT (a_this 8) o4.2))) := hD.perm (wj_back [cP dT (a_this 8) o4.2, cW dT (a_this 4) g_this_world] [cSP a_this] [2, 1, 0] rfl)
  refine lv_aload_n hx hb dX8_order_27 rfl (lv_at hl 0 rfl) ?_
  refine gf_X8_57 (v := .ref ((a_this 8) 0)) hx hb hqs hown hK hP 0 rfl rfl dX8_order_28 ?_
  refine lv_iload_n hx hb dX8_order_31 rfl (lv_at hl 3 rfl) ?_
  obtain ⟨o5, e5, h⟩ := obind h
  have hPq : va_P D vwCl ((cP dT (a_this 8) o4.2) ++ (cSP a_this ++ (cW dT (a_this 4) g_this_world))) _ := hP.perm (wj_split [cSP a_this, cW dT (a_this 4) g_this_world, cP dT (a_this 8) o4.2] [2] [0, 1] rfl)
  have hDq : va_D A ((cP dT (a_this 8) o4.2) ++ (cSP a_this ++ (cW dT (a_this 4) g_this_world))) := hD.perm (wj_split [cSP a_this, cW dT (a_this 4) g_this_world, cP dT (a_this 8) o4.2] [2] [0, 1] rfl)
  have hPc := hPq.left
  have hDc := hDq.left
  have hFc := va_freeL hDq hS hA
  refine cl_iL (wr := (cSP a_this ++ (cW dT (a_this 4) g_this_world))) (va_runV (As := [.int v3]) (rest := []) ⟨hx, hb, hml, hown, hts⟩ (c_X3_tableAt l hlt D dT (a_this 8) o4.2 v3 o5 e5 _) (cwV 1 hts (TB_V w_571 w_446 w_447 w_41 w_448) rfl rfl rfl ⟨rfl, nd_X3_tableAt⟩ ⟨Nat.le_of_ble_eq_true rfl, Nat.le_of_ble_eq_true rfl⟩) (cPre.V hPc hDc hK hE hS hFc (va_recv hK hPc (ci := 3) (q0 := 0) rfl rfl)) rfl rfl hl.1 rfl (lv_room (Nat.le_of_ble_eq_true rfl)) dX8_order_32 ⟨Nat.le_of_ble_eq_true rfl, Nat.le_of_ble_eq_true rfl⟩) hPq hDq hS hFc (fun r5 u5 H locs hw hP hD hS => ?_)
  obtain ⟨rfl, rfl⟩ := hw
  have hP : va_P D vwCl (cSP a_this ++ (cW dT (a_this 4) g_this_world ++ (cP dT (a_this 8) o4.2))) H := hP.perm (wj_back [cP dT (a_this 8) o4.2] [cSP a_this, cW dT (a_this 4) g_this_world] [1, 2, 0] rfl)
  have hD : va_D A (cSP a_this ++ (cW dT (a_this 4) g_this_world ++ (cP dT (a_this 8) o4.2))) := hD.perm (wj_back [cP dT (a_this 8) o4.2] [cSP a_this, cW dT (a_this 4) g_this_world] [1, 2, 0] rfl)
  exact vx_ret (rt_i hx hb hr hlk hK hS (o4.2 : TP) (Option.some.inj h).symm hP hD dX8_order_35)

def f_X8_way (g_this_world : TW) (g_this_chosen : TP) (v1 : Int32) (v2 : Int32) : Option ((Nat ⊕ Int32) × (TP)) :=
  ((f_X8_needTables g_this_world v1).bind fun o1 => (fun u1 => o1.1.elim (fun k1 => (some (Sum.inl k1, g_this_chosen))) (fun _ => ((f_X8_needAtLeast v2 (1 : Int32)).bind fun o2 => (fun u2 => o2.1.elim (fun k2 => (some (Sum.inl k2, g_this_chosen))) (fun _ => ((f_X3_choose g_this_chosen g_this_world v1 (1 : Int32)).bind fun o3 => ((f_X3_wayAt o3.2 v2).bind fun o4 => (some ((Sum.inr o4.1), o3.2)))))) o2.2))) o1.2)
set_option maxHeartbeats 8000000 in
set_option maxRecDepth 100000 in
theorem c_X8_way (l : Launch) (hlt : l.stackTraces = false) (D : va_G) (dT : Nat → ClassId) (a_this : Nat → Nat → Nat) (g_this_world : TW) (g_this_chosen : TP) (v1 : Int32) (v2 : Int32) (o : ((Nat ⊕ Int32) × (TP))) (h : f_X8_way g_this_world g_this_chosen v1 v2 = some o) (sz : Nat) : vx_Met l yX8_way (WSm yX8_way cX8_way 3 (some .int)) { frames := 7, cells := 2, slots := 12, locals := 111 } (va_Pc [.ref (a_this 0 0), .int v1, .int v2] (cPre D dT (cSP a_this ++ (cW dT (a_this 4) g_this_world ++ (cP dT (a_this 8) g_this_chosen))) sz)) (va_Qi (fun (r : Int32) (u : TP) => o = (Sum.inr r, u)) (fun u t => cAt D dT (va_A (cSP a_this ++ (cW dT (a_this 4) g_this_world ++ (cP dT (a_this 8) g_this_chosen))) sz) (cSP a_this ++ (cW dT (a_this 4) g_this_world ++ (cP dT (a_this 8) u))) t) (va_A (cSP a_this ++ (cW dT (a_this 4) g_this_world ++ (cP dT (a_this 8) g_this_chosen))) sz)) (xEnd D dT (xoP o) (fun u => (cSP a_this ++ (cW dT (a_this 4) g_this_world ++ (cP dT (a_this 8) u)))) (va_A (cSP a_this ++ (cW dT (a_this 4) g_this_world ++ (cP dT (a_this 8) g_this_chosen))) sz)) 2 12 (va_A (cSP a_this ++ (cW dT (a_this 4) g_this_world ++ (cP dT (a_this 8) g_this_chosen))) sz) := by
  refine mStartX (WS := (cSP a_this ++ (cW dT (a_this 4) g_this_world ++ (cP dT (a_this 8) g_this_chosen)))) (Qc := fun A => va_Qi (fun (r : Int32) (u : TP) => o = (Sum.inr r, u)) (fun u t => cAt D dT A (cSP a_this ++ (cW dT (a_this 4) g_this_world ++ (cP dT (a_this 8) u))) t) A) (XC := fun A => xEnd D dT (xoP o) (fun u => (cSP a_this ++ (cW dT (a_this 4) g_this_world ++ (cP dT (a_this 8) u)))) A) RX8 rfl (by decide) (Nat.le_of_ble_eq_true rfl) ?_ sz
  intro p e s m below meth c A ls hx hb hml hr hlk hnt hts hqs hown hE hA hK hP hD hS hl
  have hl : lv_has ls 3 [(0, .ref (a_this 0 0)), (1, .int v1), (2, .int v2)] := hl
  unfold f_X8_way at h
  refine lv_aload_n hx hb dX8_way_0 rfl (lv_at hl 0 rfl) ?_
  refine lv_iload_n hx hb dX8_way_1 rfl (lv_at hl 1 rfl) ?_
  obtain ⟨o1, e1, h⟩ := obind h
  have hPq : va_P D vwCl ((cSP a_this ++ (cW dT (a_this 4) g_this_world)) ++ (cP dT (a_this 8) g_this_chosen)) _ := hP.perm (wj_split [cSP a_this, cW dT (a_this 4) g_this_world, cP dT (a_this 8) g_this_chosen] [0, 1] [2] rfl)
  have hDq : va_D A ((cSP a_this ++ (cW dT (a_this 4) g_this_world)) ++ (cP dT (a_this 8) g_this_chosen)) := hD.perm (wj_split [cSP a_this, cW dT (a_this 4) g_this_world, cP dT (a_this 8) g_this_chosen] [0, 1] [2] rfl)
  have hPc := hPq.left
  have hDc := hDq.left
  have hFc := va_freeL hDq hS hA
  refine xcl_vL (wr := (cP dT (a_this 8) g_this_chosen)) (vx_runV (As := [.int v1]) (rest := []) ⟨hx, hb, hml, hown, hts⟩ (c_X8_needTables l hlt D dT a_this g_this_world v1 o1 e1 _) (cwV 1 hts (TB_V w_862 w_864 w_31 w_33 w_865) rfl rfl rfl ⟨rfl, nd_X8_needTables⟩ ⟨Nat.le_of_ble_eq_true rfl, Nat.le_of_ble_eq_true rfl⟩) (cPre.V hPc hDc hK hE hS hFc (va_recv hK hPc (ci := 7) (q0 := 0) rfl rfl)) rfl rfl hl.1 rfl (lv_room (Nat.le_of_ble_eq_true rfl)) dX8_way_2 ⟨Nat.le_of_ble_eq_true rfl, Nat.le_of_ble_eq_true rfl⟩) hPq hDq hS hFc (fun k1 u1 E1 ce1 q1 H locs hw hEk hP hD hS hxc hxv hxl => ?_) (fun u1 H locs hw hP hD hS => ?_)
  · have hw := xoP_inv hw
    subst hw
    have hP : va_P D vwCl (cSP a_this ++ (cW dT (a_this 4) g_this_world ++ (cP dT (a_this 8) g_this_chosen))) H := hP.perm (wj_back [cSP a_this, cW dT (a_this 4) g_this_world] [cP dT (a_this 8) g_this_chosen] [0, 1, 2] rfl)
    have hD : va_D A (cSP a_this ++ (cW dT (a_this 4) g_this_world ++ (cP dT (a_this 8) g_this_chosen))) := hD.perm (wj_back [cSP a_this, cW dT (a_this 4) g_this_world] [cP dT (a_this 8) g_this_chosen] [0, 1, 2] rfl)
    exact xo_S hlk hnt hK hS hEk hxc hxv hxl (g_this_chosen : TP) (xoP_of h) hP hD rfl rfl
  subst hw
  replace h := sumR h
  have hP : va_P D vwCl (cSP a_this ++ (cW dT (a_this 4) g_this_world ++ (cP dT (a_this 8) g_this_chosen))) H := hP.perm (wj_back [cSP a_this, cW dT (a_this 4) g_this_world] [cP dT (a_this 8) g_this_chosen] [0, 1, 2] rfl)
  have hD : va_D A (cSP a_this ++ (cW dT (a_this 4) g_this_world ++ (cP dT (a_this 8) g_this_chosen))) := hD.perm (wj_back [cSP a_this, cW dT (a_this 4) g_this_world] [cP dT (a_this 8) g_this_chosen] [0, 1, 2] rfl)
  refine lv_iload_n hx hb dX8_way_5 rfl (lv_at hl 2 rfl) ?_
  refine lv_iconst (v := 1) hx hb dX8_way_6 (by decide) ?_
  obtain ⟨o2, e2, h⟩ := obind h
  have hPq : va_P D vwCl (([] : va_W) ++ (cSP a_this ++ (cW dT (a_this 4) g_this_world ++ (cP dT (a_this 8) g_this_chosen)))) _ := hP.perm (wj_split [cSP a_this, cW dT (a_this 4) g_this_world, cP dT (a_this 8) g_this_chosen] [] [0, 1, 2] rfl)
  have hDq : va_D A (([] : va_W) ++ (cSP a_this ++ (cW dT (a_this 4) g_this_world ++ (cP dT (a_this 8) g_this_chosen)))) := hD.perm (wj_split [cSP a_this, cW dT (a_this 4) g_this_world, cP dT (a_this 8) g_this_chosen] [] [0, 1, 2] rfl)
  have hPc := hPq.left
  have hDc := hDq.left
  have hFc := va_freeL hDq hS hA
  refine xcl_vL (wr := (cSP a_this ++ (cW dT (a_this 4) g_this_world ++ (cP dT (a_this 8) g_this_chosen)))) (vx_runS (As := [.int v2, .int (1 : Int32)]) (rest := []) ⟨hx, hb, hml, hown, hts⟩ (c_X8_needAtLeast l hlt D dT v2 (1 : Int32) o2 e2 _) (va_cwS 2 hts (TB_S w_912 w_913 w_33 w_914) rfl rfl rfl nd_X8_needAtLeast ⟨Nat.le_of_ble_eq_true rfl, Nat.le_of_ble_eq_true rfl⟩) (cPre.S hPc hDc hK hE hS hFc) rfl rfl hl.1 rfl (lv_room (Nat.le_of_ble_eq_true rfl)) dX8_way_7 ⟨Nat.le_of_ble_eq_true rfl, Nat.le_of_ble_eq_true rfl⟩) hPq hDq hS hFc (fun k2 u2 E2 ce2 q2 H locs hw hEk hP hD hS hxc hxv hxl => ?_) (fun u2 H locs hw hP hD hS => ?_)
  · have hw := xoP_inv hw
    subst hw
    have hP : va_P D vwCl (cSP a_this ++ (cW dT (a_this 4) g_this_world ++ (cP dT (a_this 8) g_this_chosen))) H := hP.perm (wj_back [] [cSP a_this, cW dT (a_this 4) g_this_world, cP dT (a_this 8) g_this_chosen] [0, 1, 2] rfl)
    have hD : va_D A (cSP a_this ++ (cW dT (a_this 4) g_this_world ++ (cP dT (a_this 8) g_this_chosen))) := hD.perm (wj_back [] [cSP a_this, cW dT (a_this 4) g_this_world, cP dT (a_this 8) g_this_chosen] [0, 1, 2] rfl)
    exact xo_S hlk hnt hK hS hEk hxc hxv hxl (g_this_chosen : TP) (xoP_of h) hP hD rfl rfl
  subst hw
  replace h := sumR h
  have hP : va_P D vwCl (cSP a_this ++ (cW dT (a_this 4) g_this_world ++ (cP dT (a_this 8) g_this_chosen))) H := hP.perm (wj_back [] [cSP a_this, cW dT (a_this 4) g_this_world, cP dT (a_this 8) g_this_chosen] [0, 1, 2] rfl)
  have hD : va_D A (cSP a_this ++ (cW dT (a_this 4) g_this_world ++ (cP dT (a_this 8) g_this_chosen))) := hD.perm (wj_back [] [cSP a_this, cW dT (a_this 4) g_this_world, cP dT (a_this 8) g_this_chosen] [0, 1, 2] rfl)
  refine lv_aload_n hx hb dX8_way_10 rfl (lv_at hl 0 rfl) ?_
  refine gf_X8_57 (v := .ref ((a_this 8) 0)) hx hb hqs hown hK hP 0 rfl rfl dX8_way_11 ?_
  refine lv_aload_n hx hb dX8_way_14 rfl (lv_at hl 0 rfl) ?_
  refine gf_X8_33 (v := .ref ((a_this 4) 0)) hx hb hqs hown hK hP 0 rfl rfl dX8_way_15 ?_
  refine lv_iload_n hx hb dX8_way_18 rfl (lv_at hl 1 rfl) ?_
  refine lv_iconst (v := 1) hx hb dX8_way_19 (by decide) ?_
  obtain ⟨o3, e3, h⟩ := obind h
  have hPq : va_P D vwCl ((cP dT (a_this 8) g_this_chosen ++ (cW dT (a_this 4) g_this_world)) ++ (cSP a_this)) _ := hP.perm (wj_split [cSP a_this, cW dT (a_this 4) g_this_world, cP dT (a_this 8) g_this_chosen] [2, 1] [0] rfl)
  have hDq : va_D A ((cP dT (a_this 8) g_this_chosen ++ (cW dT (a_this 4) g_this_world)) ++ (cSP a_this)) := hD.perm (wj_split [cSP a_this, cW dT (a_this 4) g_this_world, cP dT (a_this 8) g_this_chosen] [2, 1] [0] rfl)
  have hPc := hPq.left
  have hDc := hDq.left
  have hFc := va_freeL hDq hS hA
  refine cl_vL (wr := (cSP a_this)) (va_runV (As := [.ref ((a_this 4) 0), .int v1, .int (1 : Int32)]) (rest := []) ⟨hx, hb, hml, hown, hts⟩ (c_X3_choose l hlt D dT (a_this 8) (a_this 4) g_this_chosen g_this_world v1 (1 : Int32) o3 e3 _) (cwV 3 hts (TB_V w_387 w_388 w_389 w_41 w_390) rfl rfl rfl ⟨rfl, nd_X3_choose⟩ ⟨Nat.le_of_ble_eq_true rfl, Nat.le_of_ble_eq_true rfl⟩) (cPre.V hPc hDc hK hE hS hFc (va_recv hK hPc (ci := 3) (q0 := 0) rfl rfl)) rfl rfl hl.1 rfl (lv_room (Nat.le_of_ble_eq_true rfl)) dX8_way_20 ⟨Nat.le_of_ble_eq_true rfl, Nat.le_of_ble_eq_true rfl⟩) hPq hDq hS hFc (fun u3 H locs hw hP hD hS => ?_)
  subst hw
  have hP : va_P D vwCl (cSP a_this ++ (cW dT (a_this 4) g_this_world ++ (cP dT (a_this 8) o3.2))) H := hP.perm (wj_back [cP dT (a_this 8) o3.2, cW dT (a_this 4) g_this_world] [cSP a_this] [2, 1, 0] rfl)
  have hD : va_D A (cSP a_this ++ (cW dT (a_this 4) g_this_world ++ (cP dT (a_this 8) o3.2))) := hD.perm (wj_back [cP dT (a_this 8) o3.2, cW dT (a_this 4) g_this_world] [cSP a_this] [2, 1, 0] rfl)
  refine lv_aload_n hx hb dX8_way_23 rfl (lv_at hl 0 rfl) ?_
  refine gf_X8_57 (v := .ref ((a_this 8) 0)) hx hb hqs hown hK hP 0 rfl rfl dX8_way_24 ?_
  refine lv_iload_n hx hb dX8_way_27 rfl (lv_at hl 2 rfl) ?_
  obtain ⟨o4, e4, h⟩ := obind h
  have hPq : va_P D vwCl ((cP dT (a_this 8) o3.2) ++ (cSP a_this ++ (cW dT (a_this 4) g_this_world))) _ := hP.perm (wj_split [cSP a_this, cW dT (a_this 4) g_this_world, cP dT (a_this 8) o3.2] [2] [0, 1] rfl)
  have hDq : va_D A ((cP dT (a_this 8) o3.2) ++ (cSP a_this ++ (cW dT (a_this 4) g_this_world))) := hD.perm (wj_split [cSP a_this, cW dT (a_this 4) g_this_world, cP dT (a_this 8) o3.2] [2] [0, 1] rfl)
  have hPc := hPq.left
  have hDc := hDq.left
  have hFc := va_freeL hDq hS hA
  refine cl_iL (wr := (cSP a_this ++ (cW dT (a_this 4) g_this_world))) (va_runV (As := [.int v2]) (rest := []) ⟨hx, hb, hml, hown, hts⟩ (c_X3_wayAt l hlt D dT (a_this 8) o3.2 v2 o4 e4 _) (cwV 1 hts (TB_V w_923 w_450 w_451 w_41 w_452) rfl rfl rfl ⟨rfl, nd_X3_wayAt⟩ ⟨Nat.le_of_ble_eq_true rfl, Nat.le_of_ble_eq_true rfl⟩) (cPre.V hPc hDc hK hE hS hFc (va_recv hK hPc (ci := 3) (q0 := 0) rfl rfl)) rfl rfl hl.1 rfl (lv_room (Nat.le_of_ble_eq_true rfl)) dX8_way_28 ⟨Nat.le_of_ble_eq_true rfl, Nat.le_of_ble_eq_true rfl⟩) hPq hDq hS hFc (fun r4 u4 H locs hw hP hD hS => ?_)
  obtain ⟨rfl, rfl⟩ := hw
  have hP : va_P D vwCl (cSP a_this ++ (cW dT (a_this 4) g_this_world ++ (cP dT (a_this 8) o3.2))) H := hP.perm (wj_back [cP dT (a_this 8) o3.2] [cSP a_this, cW dT (a_this 4) g_this_world] [1, 2, 0] rfl)
  have hD : va_D A (cSP a_this ++ (cW dT (a_this 4) g_this_world ++ (cP dT (a_this 8) o3.2))) := hD.perm (wj_back [cP dT (a_this 8) o3.2] [cSP a_this, cW dT (a_this 4) g_this_world] [1, 2, 0] rfl)
  exact vx_ret (rt_i hx hb hr hlk hK hS (o3.2 : TP) (Option.some.inj h).symm hP hD dX8_way_31)

