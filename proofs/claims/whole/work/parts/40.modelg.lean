def f_X9_isChosen (g_this : TM) (g_this_trial : Nat → Int64) (g_this_chosenBy : Nat → Int64) (g_this_toPay : Nat → Int64) (g_this_plan : Nat → Int32) (v1 : Int32) (v2 : Int32) (v3 : Int32) : Option (Int32 × (TM × (Nat → Int64) × (Nat → Int64) × (Nat → Int32))) :=
  ((f_X9_isTable 353 g_this_trial v1).bind fun o1 => (if o1.1 = (0 : Int32) then (some ((0 : Int32), (g_this, g_this_chosenBy, g_this_toPay, g_this_plan))) else ((f_X9_isSet 353 g_this_trial v3).bind fun o3 => (if o3.1 = (0 : Int32) then (some ((0 : Int32), (g_this, g_this_chosenBy, g_this_toPay, g_this_plan))) else ((f_X9_choose 353 g_this g_this_chosenBy g_this_toPay g_this_plan g_this_trial v3 (1 : Int32)).bind fun o5 => (if (M_planned o5.2.1) ≤ v2 then (some ((0 : Int32), (o5.2.1, o5.2.2.1, o5.2.2.2.1, o5.2.2.2.2))) else (if inb v2 7 = true then (if (o5.2.2.2.2 v2.toNatClampNeg) = v1 then (some ((1 : Int32), (o5.2.1, o5.2.2.1, o5.2.2.2.1, o5.2.2.2.2))) else (some ((0 : Int32), (o5.2.1, o5.2.2.1, o5.2.2.2.1, o5.2.2.2.2)))) else none)))))))
set_option maxHeartbeats 8000000 in
set_option maxRecDepth 100000 in
theorem c_X9_isChosen (l : Launch) (hlt : l.stackTraces = false) (D : va_G) (dT : Nat → ClassId) (a_this : Nat → Nat) (g_this : TM) (g_this_trial : Nat → Int64) (g_this_chosenBy : Nat → Int64) (g_this_toPay : Nat → Int64) (g_this_plan : Nat → Int32) (v1 : Int32) (v2 : Int32) (v3 : Int32) (o : (Int32 × (TM × (Nat → Int64) × (Nat → Int64) × (Nat → Int32)))) (h : f_X9_isChosen g_this g_this_trial g_this_chosenBy g_this_toPay g_this_plan v1 v2 v3 = some o) (sz : Nat) : Met l yX9_isChosen (WSm yX9_isChosen cX9_isChosen 4 (some .boolean)) { frames := 5, cells := 0, slots := 0, locals := 121 } (va_Pc [.ref (a_this 0), .int v1, .int v2, .int v3] (cPre D dT (cM a_this g_this ++ (cJ_ dT (a_this 3) 353 g_this_trial ++ (cJ_ dT (a_this 7) 128 g_this_chosenBy ++ (cJ_ dT (a_this 9) 128 g_this_toPay ++ (cI_ dT (a_this 10) 7 g_this_plan))))) sz)) (va_Qi (fun (r : Int32) (u : TM × (Nat → Int64) × (Nat → Int64) × (Nat → Int32)) => r = o.1 ∧ u = o.2) (fun u t => cAt D dT (va_A (cM a_this g_this ++ (cJ_ dT (a_this 3) 353 g_this_trial ++ (cJ_ dT (a_this 7) 128 g_this_chosenBy ++ (cJ_ dT (a_this 9) 128 g_this_toPay ++ (cI_ dT (a_this 10) 7 g_this_plan))))) sz) (cM a_this (u.1) ++ (cJ_ dT (a_this 3) 353 g_this_trial ++ (cJ_ dT (a_this 7) 128 (u.2.1) ++ (cJ_ dT (a_this 9) 128 (u.2.2.1) ++ (cI_ dT (a_this 10) 7 (u.2.2.2)))))) t) (va_A (cM a_this g_this ++ (cJ_ dT (a_this 3) 353 g_this_trial ++ (cJ_ dT (a_this 7) 128 g_this_chosenBy ++ (cJ_ dT (a_this 9) 128 g_this_toPay ++ (cI_ dT (a_this 10) 7 g_this_plan))))) sz)) 0 0 (va_A (cM a_this g_this ++ (cJ_ dT (a_this 3) 353 g_this_trial ++ (cJ_ dT (a_this 7) 128 g_this_chosenBy ++ (cJ_ dT (a_this 9) 128 g_this_toPay ++ (cI_ dT (a_this 10) 7 g_this_plan))))) sz) := by
  refine mStart (WS := (cM a_this g_this ++ (cJ_ dT (a_this 3) 353 g_this_trial ++ (cJ_ dT (a_this 7) 128 g_this_chosenBy ++ (cJ_ dT (a_this 9) 128 g_this_toPay ++ (cI_ dT (a_this 10) 7 g_this_plan)))))) (Qc := fun A => va_Qi (fun (r : Int32) (u : TM × (Nat → Int64) × (Nat → Int64) × (Nat → Int32)) => r = o.1 ∧ u = o.2) (fun u t => cAt D dT A (cM a_this (u.1) ++ (cJ_ dT (a_this 3) 353 g_this_trial ++ (cJ_ dT (a_this 7) 128 (u.2.1) ++ (cJ_ dT (a_this 9) 128 (u.2.2.1) ++ (cI_ dT (a_this 10) 7 (u.2.2.2)))))) t) A) RX9 rfl (by decide) (Nat.le_of_ble_eq_true rfl) ?_ sz
  intro p e s m below meth c A ls hx hb hml hr hlk hnm hts hqs hown hE hA hK hP hD hS hl
  have hl : lv_has ls 4 [(0, .ref (a_this 0)), (1, .int v1), (2, .int v2), (3, .int v3)] := hl
  unfold f_X9_isChosen at h
  refine lv_aload_n hx hb dX9_isChosen_0 rfl (lv_at hl 0 rfl) ?_
  refine gf_X9_17 (v := .ref (a_this 3)) hx hb hqs hown hK hP 0 rfl rfl dX9_isChosen_1 ?_
  refine lv_iload_n hx hb dX9_isChosen_4 rfl (lv_at hl 1 rfl) ?_
  obtain ⟨o1, e1, h⟩ := obind h
  have hPc := hP.sub (ws' := (cJ_ dT (a_this 3) 353 g_this_trial)) [1] rfl
  have hDc := hD.sub (ws' := (cJ_ dT (a_this 3) 353 g_this_trial)) [1] (by decide) rfl
  have hFc := va_free (wc := (cJ_ dT (a_this 3) 353 g_this_trial)) hD hS hA [1] rfl
  refine cl_i (wr := (cM a_this g_this ++ (cJ_ dT (a_this 7) 128 g_this_chosenBy ++ (cJ_ dT (a_this 9) 128 g_this_toPay ++ (cI_ dT (a_this 10) 7 g_this_plan))))) (va_runS (As := [.ref (a_this 3), .int v1]) (rest := []) ⟨hx, hb, hml, hown, hts⟩ (c_X9_isTable l hlt D dT (a_this 3) 353 g_this_trial v1 o1 e1 _) (va_cwS 2 hts (TB_S w_1175 w_1176 w_59 w_1177) rfl rfl rfl nd_X9_isTable ⟨Nat.le_of_ble_eq_true rfl, Nat.le_of_ble_eq_true rfl⟩) (cPre.S hPc hDc hK hE hS hFc) rfl rfl hl.1 rfl (lv_room (Nat.le_of_ble_eq_true rfl)) dX9_isChosen_5 ⟨Nat.zero_le _, Nat.zero_le _⟩) hP hD hS hFc [1] [0, 2, 3, 4] rfl rfl (by decide) (by decide) (fun r1 u1 H locs hw hP hD hS => ?_)
  obtain ⟨rfl, rfl⟩ := hw
  have hP : va_P D vwCl (cM a_this g_this ++ (cJ_ dT (a_this 7) 128 g_this_chosenBy ++ (cJ_ dT (a_this 9) 128 g_this_toPay ++ (cI_ dT (a_this 10) 7 g_this_plan ++ (cJ_ dT (a_this 3) 353 g_this_trial))))) H := hP
  have hD : va_D A (cM a_this g_this ++ (cJ_ dT (a_this 7) 128 g_this_chosenBy ++ (cJ_ dT (a_this 9) 128 g_this_toPay ++ (cI_ dT (a_this 10) 7 g_this_plan ++ (cJ_ dT (a_this 3) 353 g_this_trial))))) := hD
  refine lv_if_eq (tgt := 22) hx hb dX9_isChosen_8 (by decide) (fun c2 => ?_) (fun c2 => ?_)
  · replace h := iteT c2 h
    refine lv_iconst (v := 0) hx hb dX9_isChosen_22 (by decide) ?_
    have hP := hP.sub (ws' := (cM a_this g_this ++ (cJ_ dT (a_this 3) 353 g_this_trial ++ (cJ_ dT (a_this 7) 128 g_this_chosenBy ++ (cJ_ dT (a_this 9) 128 g_this_toPay ++ (cI_ dT (a_this 10) 7 g_this_plan)))))) [0, 4, 1, 2, 3] rfl
    have hD := hD.sub (ws' := (cM a_this g_this ++ (cJ_ dT (a_this 3) 353 g_this_trial ++ (cJ_ dT (a_this 7) 128 g_this_chosenBy ++ (cJ_ dT (a_this 9) 128 g_this_toPay ++ (cI_ dT (a_this 10) 7 g_this_plan)))))) [0, 4, 1, 2, 3] (by decide) rfl
    exact rt_z hx hb hr hlk hK hS ((g_this, g_this_chosenBy, g_this_toPay, g_this_plan) : TM × (Nat → Int64) × (Nat → Int64) × (Nat → Int32)) (ret2 h) (by decide) hP hD dX9_isChosen_23
  · replace h := iteF c2 h
    refine lv_aload_n hx hb dX9_isChosen_11 rfl (lv_at hl 0 rfl) ?_
    refine gf_X9_17 (v := .ref (a_this 3)) hx hb hqs hown hK hP 0 rfl rfl dX9_isChosen_12 ?_
    refine lv_iload_n hx hb dX9_isChosen_15 rfl (lv_at hl 3 rfl) ?_
    obtain ⟨o3, e3, h⟩ := obind h
    have hPc := hP.sub (ws' := (cJ_ dT (a_this 3) 353 g_this_trial)) [4] rfl
    have hDc := hD.sub (ws' := (cJ_ dT (a_this 3) 353 g_this_trial)) [4] (by decide) rfl
    have hFc := va_free (wc := (cJ_ dT (a_this 3) 353 g_this_trial)) hD hS hA [4] rfl
    refine cl_i (wr := (cM a_this g_this ++ (cJ_ dT (a_this 7) 128 g_this_chosenBy ++ (cJ_ dT (a_this 9) 128 g_this_toPay ++ (cI_ dT (a_this 10) 7 g_this_plan))))) (va_runS (As := [.ref (a_this 3), .int v3]) (rest := []) ⟨hx, hb, hml, hown, hts⟩ (c_X9_isSet l hlt D dT (a_this 3) 353 g_this_trial v3 o3 e3 _) (va_cwS 2 hts (TB_S w_1266 w_1267 w_59 w_1268) rfl rfl rfl nd_X9_isSet ⟨Nat.le_of_ble_eq_true rfl, Nat.le_of_ble_eq_true rfl⟩) (cPre.S hPc hDc hK hE hS hFc) rfl rfl hl.1 rfl (lv_room (Nat.le_of_ble_eq_true rfl)) dX9_isChosen_16 ⟨Nat.zero_le _, Nat.zero_le _⟩) hP hD hS hFc [4] [0, 1, 2, 3] rfl rfl (by decide) (by decide) (fun r3 u3 H locs hw hP hD hS => ?_)
    obtain ⟨rfl, rfl⟩ := hw
    have hP : va_P D vwCl (cM a_this g_this ++ (cJ_ dT (a_this 7) 128 g_this_chosenBy ++ (cJ_ dT (a_this 9) 128 g_this_toPay ++ (cI_ dT (a_this 10) 7 g_this_plan ++ (cJ_ dT (a_this 3) 353 g_this_trial))))) H := hP
    have hD : va_D A (cM a_this g_this ++ (cJ_ dT (a_this 7) 128 g_this_chosenBy ++ (cJ_ dT (a_this 9) 128 g_this_toPay ++ (cI_ dT (a_this 10) 7 g_this_plan ++ (cJ_ dT (a_this 3) 353 g_this_trial))))) := hD
    refine lv_if_ne (tgt := 24) hx hb dX9_isChosen_19 (by decide) (fun c4 => ?_) (fun c4 => ?_)
    · replace h := iteF c4 h
      refine lv_aload_n hx hb dX9_isChosen_24 rfl (lv_at hl 0 rfl) ?_
      refine lv_aload_n hx hb dX9_isChosen_25 rfl (lv_at hl 0 rfl) ?_
      refine gf_X9_17 (v := .ref (a_this 3)) hx hb hqs hown hK hP 0 rfl rfl dX9_isChosen_26 ?_
      refine lv_iload_n hx hb dX9_isChosen_29 rfl (lv_at hl 3 rfl) ?_
      refine lv_iconst (v := 1) hx hb dX9_isChosen_30 (by decide) ?_
      obtain ⟨o5, e5, h⟩ := obind h
      have hPc := hP
      have hDc := hD
      have hFc := vfall hD hS hA
      refine cl_lA (va_runV (As := [.ref (a_this 3), .int v3, .int (1 : Int32)]) (rest := []) ⟨hx, hb, hml, hown, hts⟩ (c_X9_choose l hlt D dT a_this (a_this 3) 353 g_this g_this_chosenBy g_this_toPay g_this_plan g_this_trial v3 (1 : Int32) o5 e5 _) (cwV 3 hts (TB_V w_1277 w_1279 w_42 w_59 w_1280) rfl rfl rfl ⟨rfl, nd_X9_choose⟩ ⟨Nat.le_of_ble_eq_true rfl, Nat.le_of_ble_eq_true rfl⟩) (cPre.V hPc hDc hK hE hS hFc (va_recv hK hP (ci := 8) (q0 := 0) rfl rfl)) rfl rfl hl.1 rfl (lv_room (Nat.le_of_ble_eq_true rfl)) dX9_isChosen_31 ⟨Nat.zero_le _, Nat.zero_le _⟩) hS hFc (fun r5 u5 H locs hw hP hD hS => ?_)
      obtain ⟨rfl, rfl⟩ := hw
      have hP : va_P D vwCl (cM a_this o5.2.1 ++ (cJ_ dT (a_this 7) 128 o5.2.2.1 ++ (cJ_ dT (a_this 9) 128 o5.2.2.2.1 ++ (cI_ dT (a_this 10) 7 o5.2.2.2.2 ++ (cJ_ dT (a_this 3) 353 g_this_trial))))) H := hP
      have hD : va_D A (cM a_this o5.2.1 ++ (cJ_ dT (a_this 7) 128 o5.2.2.1 ++ (cJ_ dT (a_this 9) 128 o5.2.2.2.1 ++ (cI_ dT (a_this 10) 7 o5.2.2.2.2 ++ (cJ_ dT (a_this 3) 353 g_this_trial))))) := hD
      refine lv_pop2_2 hx hb dX9_isChosen_34 rfl ?_
      refine lv_iload_n hx hb dX9_isChosen_35 rfl (lv_at hl 2 rfl) ?_
      refine lv_aload_n hx hb dX9_isChosen_36 rfl (lv_at hl 0 rfl) ?_
      refine gf_X9_98 (v := .int (M_planned o5.2.1)) hx hb hqs hown hK hP 0 rfl rfl dX9_isChosen_37 ?_
      refine lv_icmp_ge (tgt := 57) hx hb dX9_isChosen_40 (by decide) (fun c6 => ?_) (fun c6 => ?_)
      · replace h := iteT c6 h
        refine lv_iconst (v := 0) hx hb dX9_isChosen_57 (by decide) ?_
        have hP := hP.sub (ws' := (cM a_this o5.2.1 ++ (cJ_ dT (a_this 3) 353 g_this_trial ++ (cJ_ dT (a_this 7) 128 o5.2.2.1 ++ (cJ_ dT (a_this 9) 128 o5.2.2.2.1 ++ (cI_ dT (a_this 10) 7 o5.2.2.2.2)))))) [0, 4, 1, 2, 3] rfl
        have hD := hD.sub (ws' := (cM a_this o5.2.1 ++ (cJ_ dT (a_this 3) 353 g_this_trial ++ (cJ_ dT (a_this 7) 128 o5.2.2.1 ++ (cJ_ dT (a_this 9) 128 o5.2.2.2.1 ++ (cI_ dT (a_this 10) 7 o5.2.2.2.2)))))) [0, 4, 1, 2, 3] (by decide) rfl
        exact rt_z hx hb hr hlk hK hS ((o5.2.1, o5.2.2.1, o5.2.2.2.1, o5.2.2.2.2) : TM × (Nat → Int64) × (Nat → Int64) × (Nat → Int32)) (ret2 h) (by decide) hP hD dX9_isChosen_58
      · replace h := iteF c6 h
        refine lv_aload_n hx hb dX9_isChosen_43 rfl (lv_at hl 0 rfl) ?_
        refine gf_X9_39 (v := .ref (a_this 10)) hx hb hqs hown hK hP 0 rfl rfl dX9_isChosen_44 ?_
        refine lv_iload_n hx hb dX9_isChosen_47 rfl (lv_at hl 2 rfl) ?_
        obtain ⟨g7, h⟩ := chk h
        refine va_iald hx hb hK hP 3 0 rfl rfl (inb_in g7) dX9_isChosen_48 ?_
        refine lv_iload_n hx hb dX9_isChosen_49 rfl (lv_at hl 1 rfl) ?_
        refine lv_icmp_ne (tgt := 57) hx hb dX9_isChosen_50 (by decide) (fun c8 => ?_) (fun c8 => ?_)
        · replace h := iteF c8 h
          refine lv_iconst (v := 0) hx hb dX9_isChosen_57 (by decide) ?_
          have hP := hP.sub (ws' := (cM a_this o5.2.1 ++ (cJ_ dT (a_this 3) 353 g_this_trial ++ (cJ_ dT (a_this 7) 128 o5.2.2.1 ++ (cJ_ dT (a_this 9) 128 o5.2.2.2.1 ++ (cI_ dT (a_this 10) 7 o5.2.2.2.2)))))) [0, 4, 1, 2, 3] rfl
          have hD := hD.sub (ws' := (cM a_this o5.2.1 ++ (cJ_ dT (a_this 3) 353 g_this_trial ++ (cJ_ dT (a_this 7) 128 o5.2.2.1 ++ (cJ_ dT (a_this 9) 128 o5.2.2.2.1 ++ (cI_ dT (a_this 10) 7 o5.2.2.2.2)))))) [0, 4, 1, 2, 3] (by decide) rfl
          exact rt_z hx hb hr hlk hK hS ((o5.2.1, o5.2.2.1, o5.2.2.2.1, o5.2.2.2.2) : TM × (Nat → Int64) × (Nat → Int64) × (Nat → Int32)) (ret2 h) (by decide) hP hD dX9_isChosen_58
        · replace h := iteT c8 h
          refine lv_iconst (v := 1) hx hb dX9_isChosen_53 (by decide) ?_
          refine lv_goto (tgt := 58) hx hb dX9_isChosen_54 (by decide) ?_
          have hP := hP.sub (ws' := (cM a_this o5.2.1 ++ (cJ_ dT (a_this 3) 353 g_this_trial ++ (cJ_ dT (a_this 7) 128 o5.2.2.1 ++ (cJ_ dT (a_this 9) 128 o5.2.2.2.1 ++ (cI_ dT (a_this 10) 7 o5.2.2.2.2)))))) [0, 4, 1, 2, 3] rfl
          have hD := hD.sub (ws' := (cM a_this o5.2.1 ++ (cJ_ dT (a_this 3) 353 g_this_trial ++ (cJ_ dT (a_this 7) 128 o5.2.2.1 ++ (cJ_ dT (a_this 9) 128 o5.2.2.2.1 ++ (cI_ dT (a_this 10) 7 o5.2.2.2.2)))))) [0, 4, 1, 2, 3] (by decide) rfl
          exact rt_z hx hb hr hlk hK hS ((o5.2.1, o5.2.2.1, o5.2.2.2.1, o5.2.2.2.2) : TM × (Nat → Int64) × (Nat → Int64) × (Nat → Int32)) (ret2 h) (by decide) hP hD dX9_isChosen_58
    · replace h := iteT c4 h
      refine lv_iconst (v := 0) hx hb dX9_isChosen_22 (by decide) ?_
      have hP := hP.sub (ws' := (cM a_this g_this ++ (cJ_ dT (a_this 3) 353 g_this_trial ++ (cJ_ dT (a_this 7) 128 g_this_chosenBy ++ (cJ_ dT (a_this 9) 128 g_this_toPay ++ (cI_ dT (a_this 10) 7 g_this_plan)))))) [0, 4, 1, 2, 3] rfl
      have hD := hD.sub (ws' := (cM a_this g_this ++ (cJ_ dT (a_this 3) 353 g_this_trial ++ (cJ_ dT (a_this 7) 128 g_this_chosenBy ++ (cJ_ dT (a_this 9) 128 g_this_toPay ++ (cI_ dT (a_this 10) 7 g_this_plan)))))) [0, 4, 1, 2, 3] (by decide) rfl
      exact rt_z hx hb hr hlk hK hS ((g_this, g_this_chosenBy, g_this_toPay, g_this_plan) : TM × (Nat → Int64) × (Nat → Int64) × (Nat → Int32)) (ret2 h) (by decide) hP hD dX9_isChosen_23

def f_X9_command (g_this : TM) (g_this_trial : Nat → Int64) (g_this_chosenBy : Nat → Int64) (g_this_paidBy : Nat → Int64) (g_this_toPay : Nat → Int64) (g_this_plan : Nat → Int32) (v1 : Int32) (v2 : Int32) (v3 : Int32) (v4 : Int32) : Option (Int32 × (TM × (Nat → Int64) × (Nat → Int64) × (Nat → Int64) × (Nat → Int64) × (Nat → Int32))) :=
  (if v1 = (1 : Int32) then (if (v2 + v3) = (0 : Int32) then ((f_X9_whyNotRun 353 g_this_trial v4).bind fun o3 => (if o3.1 = (0 : Int32) then ((f_X9_runOn 353 g_this g_this_chosenBy g_this_paidBy g_this_toPay g_this_plan g_this_trial v4).bind fun o5 => (if o5.1 < (0 : Int32) then (some ((0 : Int32), (o5.2.1, o5.2.2.2.2.2.2, o5.2.2.1, o5.2.2.2.1, o5.2.2.2.2.1, o5.2.2.2.2.2.1))) else (some ((1 : Int32), (o5.2.1, o5.2.2.2.2.2.2, o5.2.2.1, o5.2.2.2.1, o5.2.2.2.2.1, o5.2.2.2.2.2.1))))) else (some ((0 : Int32), (g_this, g_this_trial, g_this_chosenBy, g_this_paidBy, g_this_toPay, g_this_plan))))) else (some ((0 : Int32), (g_this, g_this_trial, g_this_chosenBy, g_this_paidBy, g_this_toPay, g_this_plan)))) else (if v1 = (2 : Int32) then (if (v2 + v3) = (0 : Int32) then ((f_X9_in (Int32.toInt64 v4) (1 : Int64) (20 : Int64)).bind fun o8 => (if o8.1 = (0 : Int32) then (some ((0 : Int32), (g_this, g_this_trial, g_this_chosenBy, g_this_paidBy, g_this_toPay, g_this_plan))) else ((f_X9_weeksOn 353 g_this_trial v4).bind fun o10 => (if o10.1 < (0 : Int32) then (some ((0 : Int32), (g_this, o10.2, g_this_chosenBy, g_this_paidBy, g_this_toPay, g_this_plan))) else (some ((1 : Int32), (g_this, o10.2, g_this_chosenBy, g_this_paidBy, g_this_toPay, g_this_plan))))))) else (some ((0 : Int32), (g_this, g_this_trial, g_this_chosenBy, g_this_paidBy, g_this_toPay, g_this_plan)))) else (if v1 = (3 : Int32) then ((f_X9_whyNotDrift 353 g_this_trial v2 v3 v4).bind fun o12 => (if o12.1 = (0 : Int32) then ((f_X9_driftOn 353 g_this_trial v2 v3 v4).bind fun o14 => (if o14.1 ≤ (0 : Int32) then (some ((0 : Int32), (g_this, o14.2, g_this_chosenBy, g_this_paidBy, g_this_toPay, g_this_plan))) else (some ((1 : Int32), (g_this, o14.2, g_this_chosenBy, g_this_paidBy, g_this_toPay, g_this_plan))))) else (some ((0 : Int32), (g_this, g_this_trial, g_this_chosenBy, g_this_paidBy, g_this_toPay, g_this_plan))))) else (if v1 = (4 : Int32) then (if (0 : Int32) < v3 then (some ((0 : Int32), (g_this, g_this_trial, g_this_chosenBy, g_this_paidBy, g_this_toPay, g_this_plan))) else ((f_X9_isSetting v2 v4).bind fun o17 => (if o17.1 = (0 : Int32) then (some ((0 : Int32), (g_this, g_this_trial, g_this_chosenBy, g_this_paidBy, g_this_toPay, g_this_plan))) else (if inb ((302 : Int32) + v2) 353 = true then (some ((1 : Int32), (g_this, (vp_updL g_this_trial ((302 : Int32) + v2).toNatClampNeg (Int32.toInt64 v4)), g_this_chosenBy, g_this_paidBy, g_this_toPay, g_this_plan))) else none)))) else (if v1 = (5 : Int32) then ((f_X9_arePair 353 g_this_trial v2 v3).bind fun o20 => (if o20.1 = (0 : Int32) then (some ((0 : Int32), (g_this, g_this_trial, g_this_chosenBy, g_this_paidBy, g_this_toPay, g_this_plan))) else (if v2 = v3 then (some ((0 : Int32), (g_this, g_this_trial, g_this_chosenBy, g_this_paidBy, g_this_toPay, g_this_plan))) else ((f_X9_isShare v4).bind fun o23 => (if o23.1 = (0 : Int32) then (some ((0 : Int32), (g_this, g_this_trial, g_this_chosenBy, g_this_paidBy, g_this_toPay, g_this_plan))) else ((f_X9_linkOn 353 g_this_trial v2 v3 v4 v4).bind fun o25 => (if o25.1 ≤ (0 : Int32) then (some ((0 : Int32), (g_this, o25.2, g_this_chosenBy, g_this_paidBy, g_this_toPay, g_this_plan))) else (some ((1 : Int32), (g_this, o25.2, g_this_chosenBy, g_this_paidBy, g_this_toPay, g_this_plan)))))))))) else (if v1 = (6 : Int32) then ((f_X9_isChosen g_this g_this_trial g_this_chosenBy g_this_toPay g_this_plan v2 v3 v4).bind fun o27 => (if vp_nar .boolean o27.1 = o27.1 then (some (o27.1, (o27.2.1, g_this_trial, o27.2.2.1, g_this_paidBy, o27.2.2.2.1, o27.2.2.2.2))) else none)) else (if v1 = (7 : Int32) then ((f_X9_arePair 353 g_this_trial v2 v3).bind fun o29 => (if o29.1 = (0 : Int32) then (some ((0 : Int32), (g_this, g_this_trial, g_this_chosenBy, g_this_paidBy, g_this_toPay, g_this_plan))) else (if v2 = v3 then (some ((0 : Int32), (g_this, g_this_trial, g_this_chosenBy, g_this_paidBy, g_this_toPay, g_this_plan))) else (if (100 : Int32) ≤ v4 then (some ((0 : Int32), (g_this, g_this_trial, g_this_chosenBy, g_this_paidBy, g_this_toPay, g_this_plan))) else ((f_X9_pairOf v2 v3).bind fun o33 => (if inb ((155 : Int32) + o33.1) 353 = true then (if (lg_cmp (g_this_trial ((155 : Int32) + o33.1).toNatClampNeg) (0 : Int64)) ≤ (0 : Int32) then (some ((0 : Int32), (g_this, g_this_trial, g_this_chosenBy, g_this_paidBy, g_this_toPay, g_this_plan))) else ((f_X9_pairOf v2 v3).bind fun o36 => (if inb ((204 : Int32) + o36.1) 353 = true then (if (0 : Int32) < (lg_cmp (g_this_trial ((204 : Int32) + o36.1).toNatClampNeg) (Int32.toInt64 v4)) then (some ((0 : Int32), (g_this, g_this_trial, g_this_chosenBy, g_this_paidBy, g_this_toPay, g_this_plan))) else (some ((1 : Int32), (g_this, g_this_trial, g_this_chosenBy, g_this_paidBy, g_this_toPay, g_this_plan)))) else none))) else none)))))) else (if v1 = (8 : Int32) then (if (v2 + v3) = (0 : Int32) then (if (100 : Int32) ≤ v4 then (some ((0 : Int32), (g_this, g_this_trial, g_this_chosenBy, g_this_paidBy, g_this_toPay, g_this_plan))) else (if inb (307 : Int32) 353 = true then (if (lg_cmp (g_this_trial (307 : Int32).toNatClampNeg) (Int32.toInt64 v4)) < (0 : Int32) then (some ((0 : Int32), (g_this, g_this_trial, g_this_chosenBy, g_this_paidBy, g_this_toPay, g_this_plan))) else (some ((1 : Int32), (g_this, g_this_trial, g_this_chosenBy, g_this_paidBy, g_this_toPay, g_this_plan)))) else none)) else (some ((0 : Int32), (g_this, g_this_trial, g_this_chosenBy, g_this_paidBy, g_this_toPay, g_this_plan)))) else (if v1 = (9 : Int32) then (if (v2 + v3) = (0 : Int32) then ((f_X9_isSet 353 g_this_trial v4).bind fun o44 => (if o44.1 = (0 : Int32) then (some ((0 : Int32), (g_this, g_this_trial, g_this_chosenBy, g_this_paidBy, g_this_toPay, g_this_plan))) else ((f_X9_costOn 353 g_this g_this_chosenBy g_this_paidBy g_this_toPay g_this_plan g_this_trial v4 (2 : Int32)).bind fun o46 => (if (lg_cmp o46.1 (0 : Int64)) = (0 : Int32) then (some ((1 : Int32), (o46.2.1, g_this_trial, o46.2.2.1, o46.2.2.2.1, o46.2.2.2.2.1, o46.2.2.2.2.2))) else (some ((0 : Int32), (o46.2.1, g_this_trial, o46.2.2.1, o46.2.2.2.1, o46.2.2.2.2.1, o46.2.2.2.2.2))))))) else (some ((0 : Int32), (g_this, g_this_trial, g_this_chosenBy, g_this_paidBy, g_this_toPay, g_this_plan)))) else (some ((0 : Int32), (g_this, g_this_trial, g_this_chosenBy, g_this_paidBy, g_this_toPay, g_this_plan))))))))))))
set_option maxHeartbeats 8000000 in
set_option maxRecDepth 100000 in
theorem c_X9_command (l : Launch) (hlt : l.stackTraces = false) (D : va_G) (dT : Nat → ClassId) (a_this : Nat → Nat) (g_this : TM) (g_this_trial : Nat → Int64) (g_this_chosenBy : Nat → Int64) (g_this_paidBy : Nat → Int64) (g_this_toPay : Nat → Int64) (g_this_plan : Nat → Int32) (v1 : Int32) (v2 : Int32) (v3 : Int32) (v4 : Int32) (o : (Int32 × (TM × (Nat → Int64) × (Nat → Int64) × (Nat → Int64) × (Nat → Int64) × (Nat → Int32)))) (h : f_X9_command g_this g_this_trial g_this_chosenBy g_this_paidBy g_this_toPay g_this_plan v1 v2 v3 v4 = some o) (sz : Nat) : Met l yX9_command (WSm yX9_command cX9_command 5 (some .boolean)) { frames := 7, cells := 0, slots := 0, locals := 177 } (va_Pc [.ref (a_this 0), .int v1, .int v2, .int v3, .int v4] (cPre D dT (cM a_this g_this ++ (cJ_ dT (a_this 3) 353 g_this_trial ++ (cJ_ dT (a_this 7) 128 g_this_chosenBy ++ (cJ_ dT (a_this 8) 128 g_this_paidBy ++ (cJ_ dT (a_this 9) 128 g_this_toPay ++ (cI_ dT (a_this 10) 7 g_this_plan)))))) sz)) (va_Qi (fun (r : Int32) (u : TM × (Nat → Int64) × (Nat → Int64) × (Nat → Int64) × (Nat → Int64) × (Nat → Int32)) => r = o.1 ∧ u = o.2) (fun u t => cAt D dT (va_A (cM a_this g_this ++ (cJ_ dT (a_this 3) 353 g_this_trial ++ (cJ_ dT (a_this 7) 128 g_this_chosenBy ++ (cJ_ dT (a_this 8) 128 g_this_paidBy ++ (cJ_ dT (a_this 9) 128 g_this_toPay ++ (cI_ dT (a_this 10) 7 g_this_plan)))))) sz) (cM a_this (u.1) ++ (cJ_ dT (a_this 3) 353 (u.2.1) ++ (cJ_ dT (a_this 7) 128 (u.2.2.1) ++ (cJ_ dT (a_this 8) 128 (u.2.2.2.1) ++ (cJ_ dT (a_this 9) 128 (u.2.2.2.2.1) ++ (cI_ dT (a_this 10) 7 (u.2.2.2.2.2))))))) t) (va_A (cM a_this g_this ++ (cJ_ dT (a_this 3) 353 g_this_trial ++ (cJ_ dT (a_this 7) 128 g_this_chosenBy ++ (cJ_ dT (a_this 8) 128 g_this_paidBy ++ (cJ_ dT (a_this 9) 128 g_this_toPay ++ (cI_ dT (a_this 10) 7 g_this_plan)))))) sz)) 0 0 (va_A (cM a_this g_this ++ (cJ_ dT (a_this 3) 353 g_this_trial ++ (cJ_ dT (a_this 7) 128 g_this_chosenBy ++ (cJ_ dT (a_this 8) 128 g_this_paidBy ++ (cJ_ dT (a_this 9) 128 g_this_toPay ++ (cI_ dT (a_this 10) 7 g_this_plan)))))) sz) := by
  refine mStart (WS := (cM a_this g_this ++ (cJ_ dT (a_this 3) 353 g_this_trial ++ (cJ_ dT (a_this 7) 128 g_this_chosenBy ++ (cJ_ dT (a_this 8) 128 g_this_paidBy ++ (cJ_ dT (a_this 9) 128 g_this_toPay ++ (cI_ dT (a_this 10) 7 g_this_plan))))))) (Qc := fun A => va_Qi (fun (r : Int32) (u : TM × (Nat → Int64) × (Nat → Int64) × (Nat → Int64) × (Nat → Int64) × (Nat → Int32)) => r = o.1 ∧ u = o.2) (fun u t => cAt D dT A (cM a_this (u.1) ++ (cJ_ dT (a_this 3) 353 (u.2.1) ++ (cJ_ dT (a_this 7) 128 (u.2.2.1) ++ (cJ_ dT (a_this 8) 128 (u.2.2.2.1) ++ (cJ_ dT (a_this 9) 128 (u.2.2.2.2.1) ++ (cI_ dT (a_this 10) 7 (u.2.2.2.2.2))))))) t) A) RX9 rfl (by decide) (Nat.le_of_ble_eq_true rfl) ?_ sz
  intro p e s m below meth c A ls hx hb hml hr hlk hnm hts hqs hown hE hA hK hP hD hS hl
  have hl : lv_has ls 5 [(0, .ref (a_this 0)), (1, .int v1), (2, .int v2), (3, .int v3), (4, .int v4)] := hl
  unfold f_X9_command at h
  refine lv_iload_n hx hb dX9_command_0 rfl (lv_at hl 1 rfl) ?_
  by_cases c1_1 : v1 = (1 : Int32)
  · replace h := iteT c1_1 h
    refine lv_tableIn (off := (51)) (tgt := 52) hx hb dX9_command_1 (by rw [c1_1]; decide) (by rw [c1_1]; decide) (by rw [c1_1]; rfl) (by decide) ?_
    refine lv_iload_n hx hb dX9_command_52 rfl (lv_at hl 2 rfl) ?_
    refine lv_iload_n hx hb dX9_command_53 rfl (lv_at hl 3 rfl) ?_
    refine lv_iadd hx hb dX9_command_54 ?_
    refine lv_if_ne (tgt := 87) hx hb dX9_command_55 (by decide) (fun c2 => ?_) (fun c2 => ?_)
    · replace h := iteF c2 h
      refine lv_iconst (v := 0) hx hb dX9_command_87 (by decide) ?_
      exact rt_z hx hb hr hlk hK hS ((g_this, g_this_trial, g_this_chosenBy, g_this_paidBy, g_this_toPay, g_this_plan) : TM × (Nat → Int64) × (Nat → Int64) × (Nat → Int64) × (Nat → Int64) × (Nat → Int32)) (ret2 h) (by decide) hP hD dX9_command_88
    · replace h := iteT c2 h
      refine lv_aload_n hx hb dX9_command_58 rfl (lv_at hl 0 rfl) ?_
      refine gf_X9_17 (v := .ref (a_this 3)) hx hb hqs hown hK hP 0 rfl rfl dX9_command_59 ?_
      refine lv_iload hx hb dX9_command_62 (lv_at hl 4 rfl) ?_
      obtain ⟨o3, e3, h⟩ := obind h
      have hPc := hP.sub (ws' := (cJ_ dT (a_this 3) 353 g_this_trial)) [1] rfl
      have hDc := hD.sub (ws' := (cJ_ dT (a_this 3) 353 g_this_trial)) [1] (by decide) rfl
      have hFc := va_free (wc := (cJ_ dT (a_this 3) 353 g_this_trial)) hD hS hA [1] rfl
      refine cl_i (wr := (cM a_this g_this ++ (cJ_ dT (a_this 7) 128 g_this_chosenBy ++ (cJ_ dT (a_this 8) 128 g_this_paidBy ++ (cJ_ dT (a_this 9) 128 g_this_toPay ++ (cI_ dT (a_this 10) 7 g_this_plan)))))) (va_runS (As := [.ref (a_this 3), .int v4]) (rest := []) ⟨hx, hb, hml, hown, hts⟩ (c_X9_whyNotRun l hlt D dT (a_this 3) 353 g_this_trial v4 o3 e3 _) (va_cwS 2 hts (TB_S w_1263 w_1264 w_59 w_1265) rfl rfl rfl nd_X9_whyNotRun ⟨Nat.le_of_ble_eq_true rfl, Nat.le_of_ble_eq_true rfl⟩) (cPre.S hPc hDc hK hE hS hFc) rfl rfl hl.1 rfl (lv_room (Nat.le_of_ble_eq_true rfl)) dX9_command_64 ⟨Nat.zero_le _, Nat.zero_le _⟩) hP hD hS hFc [1] [0, 2, 3, 4, 5] rfl rfl (by decide) (by decide) (fun r3 u3 H locs hw hP hD hS => ?_)
      obtain ⟨rfl, rfl⟩ := hw
      have hP : va_P D vwCl (cM a_this g_this ++ (cJ_ dT (a_this 7) 128 g_this_chosenBy ++ (cJ_ dT (a_this 8) 128 g_this_paidBy ++ (cJ_ dT (a_this 9) 128 g_this_toPay ++ (cI_ dT (a_this 10) 7 g_this_plan ++ (cJ_ dT (a_this 3) 353 g_this_trial)))))) H := hP
      have hD : va_D A (cM a_this g_this ++ (cJ_ dT (a_this 7) 128 g_this_chosenBy ++ (cJ_ dT (a_this 8) 128 g_this_paidBy ++ (cJ_ dT (a_this 9) 128 g_this_toPay ++ (cI_ dT (a_this 10) 7 g_this_plan ++ (cJ_ dT (a_this 3) 353 g_this_trial)))))) := hD
      refine lv_if_ne (tgt := 87) hx hb dX9_command_67 (by decide) (fun c4 => ?_) (fun c4 => ?_)
      · replace h := iteF c4 h
        refine lv_iconst (v := 0) hx hb dX9_command_87 (by decide) ?_
        have hP := hP.sub (ws' := (cM a_this g_this ++ (cJ_ dT (a_this 3) 353 g_this_trial ++ (cJ_ dT (a_this 7) 128 g_this_chosenBy ++ (cJ_ dT (a_this 8) 128 g_this_paidBy ++ (cJ_ dT (a_this 9) 128 g_this_toPay ++ (cI_ dT (a_this 10) 7 g_this_plan))))))) [0, 5, 1, 2, 3, 4] rfl
        have hD := hD.sub (ws' := (cM a_this g_this ++ (cJ_ dT (a_this 3) 353 g_this_trial ++ (cJ_ dT (a_this 7) 128 g_this_chosenBy ++ (cJ_ dT (a_this 8) 128 g_this_paidBy ++ (cJ_ dT (a_this 9) 128 g_this_toPay ++ (cI_ dT (a_this 10) 7 g_this_plan))))))) [0, 5, 1, 2, 3, 4] (by decide) rfl
        exact rt_z hx hb hr hlk hK hS ((g_this, g_this_trial, g_this_chosenBy, g_this_paidBy, g_this_toPay, g_this_plan) : TM × (Nat → Int64) × (Nat → Int64) × (Nat → Int64) × (Nat → Int64) × (Nat → Int32)) (ret2 h) (by decide) hP hD dX9_command_88
      · replace h := iteT c4 h
        refine lv_aload_n hx hb dX9_command_70 rfl (lv_at hl 0 rfl) ?_
        refine lv_aload_n hx hb dX9_command_71 rfl (lv_at hl 0 rfl) ?_
        refine gf_X9_17 (v := .ref (a_this 3)) hx hb hqs hown hK hP 0 rfl rfl dX9_command_72 ?_
        refine lv_iload hx hb dX9_command_75 (lv_at hl 4 rfl) ?_
        obtain ⟨o5, e5, h⟩ := obind h
        have hPc := hP
        have hDc := hD
        have hFc := vfall hD hS hA
        refine cl_iA (va_runV (As := [.ref (a_this 3), .int v4]) (rest := []) ⟨hx, hb, hml, hown, hts⟩ (c_X9_runOn l hlt D dT a_this (a_this 3) 353 g_this g_this_chosenBy g_this_paidBy g_this_toPay g_this_plan g_this_trial v4 o5 e5 _) (cwV 2 hts (TB_V w_1269 w_1271 w_40 w_59 w_1272) rfl rfl rfl ⟨rfl, nd_X9_runOn⟩ ⟨Nat.le_of_ble_eq_true rfl, Nat.le_of_ble_eq_true rfl⟩) (cPre.V hPc hDc hK hE hS hFc (va_recv hK hP (ci := 8) (q0 := 0) rfl rfl)) rfl rfl hl.1 rfl (lv_room (Nat.le_of_ble_eq_true rfl)) dX9_command_77 ⟨Nat.zero_le _, Nat.zero_le _⟩) hS hFc (fun r5 u5 H locs hw hP hD hS => ?_)
        obtain ⟨rfl, rfl⟩ := hw
        have hP : va_P D vwCl (cM a_this o5.2.1 ++ (cJ_ dT (a_this 7) 128 o5.2.2.1 ++ (cJ_ dT (a_this 8) 128 o5.2.2.2.1 ++ (cJ_ dT (a_this 9) 128 o5.2.2.2.2.1 ++ (cI_ dT (a_this 10) 7 o5.2.2.2.2.2.1 ++ (cJ_ dT (a_this 3) 353 o5.2.2.2.2.2.2)))))) H := hP
        have hD : va_D A (cM a_this o5.2.1 ++ (cJ_ dT (a_this 7) 128 o5.2.2.1 ++ (cJ_ dT (a_this 8) 128 o5.2.2.2.1 ++ (cJ_ dT (a_this 9) 128 o5.2.2.2.2.1 ++ (cI_ dT (a_this 10) 7 o5.2.2.2.2.2.1 ++ (cJ_ dT (a_this 3) 353 o5.2.2.2.2.2.2)))))) := hD
        refine lv_if_lt (tgt := 87) hx hb dX9_command_80 (by decide) (fun c6 => ?_) (fun c6 => ?_)
        · replace h := iteT c6 h
          refine lv_iconst (v := 0) hx hb dX9_command_87 (by decide) ?_
          have hP := hP.sub (ws' := (cM a_this o5.2.1 ++ (cJ_ dT (a_this 3) 353 o5.2.2.2.2.2.2 ++ (cJ_ dT (a_this 7) 128 o5.2.2.1 ++ (cJ_ dT (a_this 8) 128 o5.2.2.2.1 ++ (cJ_ dT (a_this 9) 128 o5.2.2.2.2.1 ++ (cI_ dT (a_this 10) 7 o5.2.2.2.2.2.1))))))) [0, 5, 1, 2, 3, 4] rfl
          have hD := hD.sub (ws' := (cM a_this o5.2.1 ++ (cJ_ dT (a_this 3) 353 o5.2.2.2.2.2.2 ++ (cJ_ dT (a_this 7) 128 o5.2.2.1 ++ (cJ_ dT (a_this 8) 128 o5.2.2.2.1 ++ (cJ_ dT (a_this 9) 128 o5.2.2.2.2.1 ++ (cI_ dT (a_this 10) 7 o5.2.2.2.2.2.1))))))) [0, 5, 1, 2, 3, 4] (by decide) rfl
          exact rt_z hx hb hr hlk hK hS ((o5.2.1, o5.2.2.2.2.2.2, o5.2.2.1, o5.2.2.2.1, o5.2.2.2.2.1, o5.2.2.2.2.2.1) : TM × (Nat → Int64) × (Nat → Int64) × (Nat → Int64) × (Nat → Int64) × (Nat → Int32)) (ret2 h) (by decide) hP hD dX9_command_88
        · replace h := iteF c6 h
          refine lv_iconst (v := 1) hx hb dX9_command_83 (by decide) ?_
          refine lv_goto (tgt := 88) hx hb dX9_command_84 (by decide) ?_
          have hP := hP.sub (ws' := (cM a_this o5.2.1 ++ (cJ_ dT (a_this 3) 353 o5.2.2.2.2.2.2 ++ (cJ_ dT (a_this 7) 128 o5.2.2.1 ++ (cJ_ dT (a_this 8) 128 o5.2.2.2.1 ++ (cJ_ dT (a_this 9) 128 o5.2.2.2.2.1 ++ (cI_ dT (a_this 10) 7 o5.2.2.2.2.2.1))))))) [0, 5, 1, 2, 3, 4] rfl
          have hD := hD.sub (ws' := (cM a_this o5.2.1 ++ (cJ_ dT (a_this 3) 353 o5.2.2.2.2.2.2 ++ (cJ_ dT (a_this 7) 128 o5.2.2.1 ++ (cJ_ dT (a_this 8) 128 o5.2.2.2.1 ++ (cJ_ dT (a_this 9) 128 o5.2.2.2.2.1 ++ (cI_ dT (a_this 10) 7 o5.2.2.2.2.2.1))))))) [0, 5, 1, 2, 3, 4] (by decide) rfl
          exact rt_z hx hb hr hlk hK hS ((o5.2.1, o5.2.2.2.2.2.2, o5.2.2.1, o5.2.2.2.1, o5.2.2.2.2.1, o5.2.2.2.2.2.1) : TM × (Nat → Int64) × (Nat → Int64) × (Nat → Int64) × (Nat → Int64) × (Nat → Int32)) (ret2 h) (by decide) hP hD dX9_command_88
  replace h := iteF c1_1 h
  by_cases c1_2 : v1 = (2 : Int32)
  · replace h := iteT c1_2 h
    refine lv_tableIn (off := (88)) (tgt := 89) hx hb dX9_command_1 (by rw [c1_2]; decide) (by rw [c1_2]; decide) (by rw [c1_2]; rfl) (by decide) ?_
    refine lv_iload_n hx hb dX9_command_89 rfl (lv_at hl 2 rfl) ?_
    refine lv_iload_n hx hb dX9_command_90 rfl (lv_at hl 3 rfl) ?_
    refine lv_iadd hx hb dX9_command_91 ?_
    refine lv_if_ne (tgt := 124) hx hb dX9_command_92 (by decide) (fun c7 => ?_) (fun c7 => ?_)
    · replace h := iteF c7 h
      refine lv_iconst (v := 0) hx hb dX9_command_124 (by decide) ?_
      exact rt_z hx hb hr hlk hK hS ((g_this, g_this_trial, g_this_chosenBy, g_this_paidBy, g_this_toPay, g_this_plan) : TM × (Nat → Int64) × (Nat → Int64) × (Nat → Int64) × (Nat → Int64) × (Nat → Int32)) (ret2 h) (by decide) hP hD dX9_command_125
    · replace h := iteT c7 h
      refine lv_iload hx hb dX9_command_95 (lv_at hl 4 rfl) ?_
      refine lv_i2l hx hb dX9_command_97 rfl ?_
      refine lv_lconst (v := 1) hx hb dX9_command_98 (by decide) ?_
      refine lv_ldc2 (v := 20) hx hb hown (hqs _ w_1314) dX9_command_99 ?_
      obtain ⟨o8, e8, h⟩ := obind h
      have hPc := hP.sub (ws' := ([] : va_W)) [] rfl
      have hDc := hD.sub (ws' := ([] : va_W)) [] (by decide) rfl
      have hFc := va_free (wc := ([] : va_W)) hD hS hA [] rfl
      refine cl_i (wr := (cM a_this g_this ++ (cJ_ dT (a_this 3) 353 g_this_trial ++ (cJ_ dT (a_this 7) 128 g_this_chosenBy ++ (cJ_ dT (a_this 8) 128 g_this_paidBy ++ (cJ_ dT (a_this 9) 128 g_this_toPay ++ (cI_ dT (a_this 10) 7 g_this_plan))))))) (va_runS (As := [.long (Int32.toInt64 v4), .long (1 : Int64), .long (20 : Int64)]) (rest := []) ⟨hx, hb, hml, hown, hts⟩ (c_X9_in l hlt D dT (Int32.toInt64 v4) (1 : Int64) (20 : Int64) o8 e8 _) (va_cwS 3 hts (TB_S w_1129 w_1130 w_59 w_1131) rfl rfl rfl nd_X9_in ⟨Nat.le_of_ble_eq_true rfl, Nat.le_of_ble_eq_true rfl⟩) (cPre.S hPc hDc hK hE hS hFc) rfl rfl hl.1 rfl (lv_room (Nat.le_of_ble_eq_true rfl)) dX9_command_102 ⟨Nat.zero_le _, Nat.zero_le _⟩) hP hD hS hFc [] [0, 1, 2, 3, 4, 5] rfl rfl (by decide) (by decide) (fun r8 u8 H locs hw hP hD hS => ?_)
      obtain ⟨rfl, rfl⟩ := hw
      have hP : va_P D vwCl (cM a_this g_this ++ (cJ_ dT (a_this 3) 353 g_this_trial ++ (cJ_ dT (a_this 7) 128 g_this_chosenBy ++ (cJ_ dT (a_this 8) 128 g_this_paidBy ++ (cJ_ dT (a_this 9) 128 g_this_toPay ++ (cI_ dT (a_this 10) 7 g_this_plan)))))) H := hP
      have hD : va_D A (cM a_this g_this ++ (cJ_ dT (a_this 3) 353 g_this_trial ++ (cJ_ dT (a_this 7) 128 g_this_chosenBy ++ (cJ_ dT (a_this 8) 128 g_this_paidBy ++ (cJ_ dT (a_this 9) 128 g_this_toPay ++ (cI_ dT (a_this 10) 7 g_this_plan)))))) := hD
      refine lv_if_eq (tgt := 124) hx hb dX9_command_105 (by decide) (fun c9 => ?_) (fun c9 => ?_)
      · replace h := iteT c9 h
        refine lv_iconst (v := 0) hx hb dX9_command_124 (by decide) ?_
        exact rt_z hx hb hr hlk hK hS ((g_this, g_this_trial, g_this_chosenBy, g_this_paidBy, g_this_toPay, g_this_plan) : TM × (Nat → Int64) × (Nat → Int64) × (Nat → Int64) × (Nat → Int64) × (Nat → Int32)) (ret2 h) (by decide) hP hD dX9_command_125
      · replace h := iteF c9 h
        refine lv_aload_n hx hb dX9_command_108 rfl (lv_at hl 0 rfl) ?_
        refine gf_X9_17 (v := .ref (a_this 3)) hx hb hqs hown hK hP 0 rfl rfl dX9_command_109 ?_
        refine lv_iload hx hb dX9_command_112 (lv_at hl 4 rfl) ?_
        obtain ⟨o10, e10, h⟩ := obind h
        have hPc := hP.sub (ws' := (cJ_ dT (a_this 3) 353 g_this_trial)) [1] rfl
        have hDc := hD.sub (ws' := (cJ_ dT (a_this 3) 353 g_this_trial)) [1] (by decide) rfl
        have hFc := va_free (wc := (cJ_ dT (a_this 3) 353 g_this_trial)) hD hS hA [1] rfl
        refine cl_i (wr := (cM a_this g_this ++ (cJ_ dT (a_this 7) 128 g_this_chosenBy ++ (cJ_ dT (a_this 8) 128 g_this_paidBy ++ (cJ_ dT (a_this 9) 128 g_this_toPay ++ (cI_ dT (a_this 10) 7 g_this_plan)))))) (va_runS (As := [.ref (a_this 3), .int v4]) (rest := []) ⟨hx, hb, hml, hown, hts⟩ (c_X9_weeksOn l hlt D dT (a_this 3) 353 g_this_trial v4 o10 e10 _) (va_cwS 2 hts (TB_S w_1315 w_1316 w_59 w_1317) rfl rfl rfl nd_X9_weeksOn ⟨Nat.le_of_ble_eq_true rfl, Nat.le_of_ble_eq_true rfl⟩) (cPre.S hPc hDc hK hE hS hFc) rfl rfl hl.1 rfl (lv_room (Nat.le_of_ble_eq_true rfl)) dX9_command_114 ⟨Nat.zero_le _, Nat.zero_le _⟩) hP hD hS hFc [1] [0, 2, 3, 4, 5] rfl rfl (by decide) (by decide) (fun r10 u10 H locs hw hP hD hS => ?_)
        obtain ⟨rfl, rfl⟩ := hw
        have hP : va_P D vwCl (cM a_this g_this ++ (cJ_ dT (a_this 7) 128 g_this_chosenBy ++ (cJ_ dT (a_this 8) 128 g_this_paidBy ++ (cJ_ dT (a_this 9) 128 g_this_toPay ++ (cI_ dT (a_this 10) 7 g_this_plan ++ (cJ_ dT (a_this 3) 353 o10.2)))))) H := hP
        have hD : va_D A (cM a_this g_this ++ (cJ_ dT (a_this 7) 128 g_this_chosenBy ++ (cJ_ dT (a_this 8) 128 g_this_paidBy ++ (cJ_ dT (a_this 9) 128 g_this_toPay ++ (cI_ dT (a_this 10) 7 g_this_plan ++ (cJ_ dT (a_this 3) 353 o10.2)))))) := hD
        refine lv_if_lt (tgt := 124) hx hb dX9_command_117 (by decide) (fun c11 => ?_) (fun c11 => ?_)
        · replace h := iteT c11 h
          refine lv_iconst (v := 0) hx hb dX9_command_124 (by decide) ?_
          have hP := hP.sub (ws' := (cM a_this g_this ++ (cJ_ dT (a_this 3) 353 o10.2 ++ (cJ_ dT (a_this 7) 128 g_this_chosenBy ++ (cJ_ dT (a_this 8) 128 g_this_paidBy ++ (cJ_ dT (a_this 9) 128 g_this_toPay ++ (cI_ dT (a_this 10) 7 g_this_plan))))))) [0, 5, 1, 2, 3, 4] rfl
          have hD := hD.sub (ws' := (cM a_this g_this ++ (cJ_ dT (a_this 3) 353 o10.2 ++ (cJ_ dT (a_this 7) 128 g_this_chosenBy ++ (cJ_ dT (a_this 8) 128 g_this_paidBy ++ (cJ_ dT (a_this 9) 128 g_this_toPay ++ (cI_ dT (a_this 10) 7 g_this_plan))))))) [0, 5, 1, 2, 3, 4] (by decide) rfl
          exact rt_z hx hb hr hlk hK hS ((g_this, o10.2, g_this_chosenBy, g_this_paidBy, g_this_toPay, g_this_plan) : TM × (Nat → Int64) × (Nat → Int64) × (Nat → Int64) × (Nat → Int64) × (Nat → Int32)) (ret2 h) (by decide) hP hD dX9_command_125
        · replace h := iteF c11 h
          refine lv_iconst (v := 1) hx hb dX9_command_120 (by decide) ?_
          refine lv_goto (tgt := 125) hx hb dX9_command_121 (by decide) ?_
          have hP := hP.sub (ws' := (cM a_this g_this ++ (cJ_ dT (a_this 3) 353 o10.2 ++ (cJ_ dT (a_this 7) 128 g_this_chosenBy ++ (cJ_ dT (a_this 8) 128 g_this_paidBy ++ (cJ_ dT (a_this 9) 128 g_this_toPay ++ (cI_ dT (a_this 10) 7 g_this_plan))))))) [0, 5, 1, 2, 3, 4] rfl
          have hD := hD.sub (ws' := (cM a_this g_this ++ (cJ_ dT (a_this 3) 353 o10.2 ++ (cJ_ dT (a_this 7) 128 g_this_chosenBy ++ (cJ_ dT (a_this 8) 128 g_this_paidBy ++ (cJ_ dT (a_this 9) 128 g_this_toPay ++ (cI_ dT (a_this 10) 7 g_this_plan))))))) [0, 5, 1, 2, 3, 4] (by decide) rfl
          exact rt_z hx hb hr hlk hK hS ((g_this, o10.2, g_this_chosenBy, g_this_paidBy, g_this_toPay, g_this_plan) : TM × (Nat → Int64) × (Nat → Int64) × (Nat → Int64) × (Nat → Int64) × (Nat → Int32)) (ret2 h) (by decide) hP hD dX9_command_125
  replace h := iteF c1_2 h
  by_cases c1_3 : v1 = (3 : Int32)
  · replace h := iteT c1_3 h
    refine lv_tableIn (off := (125)) (tgt := 126) hx hb dX9_command_1 (by rw [c1_3]; decide) (by rw [c1_3]; decide) (by rw [c1_3]; rfl) (by decide) ?_
    refine lv_aload_n hx hb dX9_command_126 rfl (lv_at hl 0 rfl) ?_
    refine gf_X9_17 (v := .ref (a_this 3)) hx hb hqs hown hK hP 0 rfl rfl dX9_command_127 ?_
    refine lv_iload_n hx hb dX9_command_130 rfl (lv_at hl 2 rfl) ?_
    refine lv_iload_n hx hb dX9_command_131 rfl (lv_at hl 3 rfl) ?_
    refine lv_iload hx hb dX9_command_132 (lv_at hl 4 rfl) ?_
    obtain ⟨o12, e12, h⟩ := obind h
    have hPc := hP.sub (ws' := (cJ_ dT (a_this 3) 353 g_this_trial)) [1] rfl
    have hDc := hD.sub (ws' := (cJ_ dT (a_this 3) 353 g_this_trial)) [1] (by decide) rfl
    have hFc := va_free (wc := (cJ_ dT (a_this 3) 353 g_this_trial)) hD hS hA [1] rfl
    refine cl_i (wr := (cM a_this g_this ++ (cJ_ dT (a_this 7) 128 g_this_chosenBy ++ (cJ_ dT (a_this 8) 128 g_this_paidBy ++ (cJ_ dT (a_this 9) 128 g_this_toPay ++ (cI_ dT (a_this 10) 7 g_this_plan)))))) (va_runS (As := [.ref (a_this 3), .int v2, .int v3, .int v4]) (rest := []) ⟨hx, hb, hml, hown, hts⟩ (c_X9_whyNotDrift l hlt D dT (a_this 3) 353 g_this_trial v2 v3 v4 o12 e12 _) (va_cwS 4 hts (TB_S w_1253 w_1254 w_59 w_1255) rfl rfl rfl nd_X9_whyNotDrift ⟨Nat.le_of_ble_eq_true rfl, Nat.le_of_ble_eq_true rfl⟩) (cPre.S hPc hDc hK hE hS hFc) rfl rfl hl.1 rfl (lv_room (Nat.le_of_ble_eq_true rfl)) dX9_command_134 ⟨Nat.zero_le _, Nat.zero_le _⟩) hP hD hS hFc [1] [0, 2, 3, 4, 5] rfl rfl (by decide) (by decide) (fun r12 u12 H locs hw hP hD hS => ?_)
    obtain ⟨rfl, rfl⟩ := hw
    have hP : va_P D vwCl (cM a_this g_this ++ (cJ_ dT (a_this 7) 128 g_this_chosenBy ++ (cJ_ dT (a_this 8) 128 g_this_paidBy ++ (cJ_ dT (a_this 9) 128 g_this_toPay ++ (cI_ dT (a_this 10) 7 g_this_plan ++ (cJ_ dT (a_this 3) 353 g_this_trial)))))) H := hP
    have hD : va_D A (cM a_this g_this ++ (cJ_ dT (a_this 7) 128 g_this_chosenBy ++ (cJ_ dT (a_this 8) 128 g_this_paidBy ++ (cJ_ dT (a_this 9) 128 g_this_toPay ++ (cI_ dT (a_this 10) 7 g_this_plan ++ (cJ_ dT (a_this 3) 353 g_this_trial)))))) := hD
    refine lv_if_ne (tgt := 158) hx hb dX9_command_137 (by decide) (fun c13 => ?_) (fun c13 => ?_)
    · replace h := iteF c13 h
      refine lv_iconst (v := 0) hx hb dX9_command_158 (by decide) ?_
      have hP := hP.sub (ws' := (cM a_this g_this ++ (cJ_ dT (a_this 3) 353 g_this_trial ++ (cJ_ dT (a_this 7) 128 g_this_chosenBy ++ (cJ_ dT (a_this 8) 128 g_this_paidBy ++ (cJ_ dT (a_this 9) 128 g_this_toPay ++ (cI_ dT (a_this 10) 7 g_this_plan))))))) [0, 5, 1, 2, 3, 4] rfl
      have hD := hD.sub (ws' := (cM a_this g_this ++ (cJ_ dT (a_this 3) 353 g_this_trial ++ (cJ_ dT (a_this 7) 128 g_this_chosenBy ++ (cJ_ dT (a_this 8) 128 g_this_paidBy ++ (cJ_ dT (a_this 9) 128 g_this_toPay ++ (cI_ dT (a_this 10) 7 g_this_plan))))))) [0, 5, 1, 2, 3, 4] (by decide) rfl
      exact rt_z hx hb hr hlk hK hS ((g_this, g_this_trial, g_this_chosenBy, g_this_paidBy, g_this_toPay, g_this_plan) : TM × (Nat → Int64) × (Nat → Int64) × (Nat → Int64) × (Nat → Int64) × (Nat → Int32)) (ret2 h) (by decide) hP hD dX9_command_159
    · replace h := iteT c13 h
      refine lv_aload_n hx hb dX9_command_140 rfl (lv_at hl 0 rfl) ?_
      refine gf_X9_17 (v := .ref (a_this 3)) hx hb hqs hown hK hP 0 rfl rfl dX9_command_141 ?_
      refine lv_iload_n hx hb dX9_command_144 rfl (lv_at hl 2 rfl) ?_
      refine lv_iload_n hx hb dX9_command_145 rfl (lv_at hl 3 rfl) ?_
      refine lv_iload hx hb dX9_command_146 (lv_at hl 4 rfl) ?_
      obtain ⟨o14, e14, h⟩ := obind h
      have hPc := hP.sub (ws' := (cJ_ dT (a_this 3) 353 g_this_trial)) [5] rfl
      have hDc := hD.sub (ws' := (cJ_ dT (a_this 3) 353 g_this_trial)) [5] (by decide) rfl
      have hFc := va_free (wc := (cJ_ dT (a_this 3) 353 g_this_trial)) hD hS hA [5] rfl
      refine cl_i (wr := (cM a_this g_this ++ (cJ_ dT (a_this 7) 128 g_this_chosenBy ++ (cJ_ dT (a_this 8) 128 g_this_paidBy ++ (cJ_ dT (a_this 9) 128 g_this_toPay ++ (cI_ dT (a_this 10) 7 g_this_plan)))))) (va_runS (As := [.ref (a_this 3), .int v2, .int v3, .int v4]) (rest := []) ⟨hx, hb, hml, hown, hts⟩ (c_X9_driftOn l hlt D dT (a_this 3) 353 g_this_trial v2 v3 v4 o14 e14 _) (va_cwS 4 hts (TB_S w_1256 w_1257 w_59 w_1258) rfl rfl rfl nd_X9_driftOn ⟨Nat.le_of_ble_eq_true rfl, Nat.le_of_ble_eq_true rfl⟩) (cPre.S hPc hDc hK hE hS hFc) rfl rfl hl.1 rfl (lv_room (Nat.le_of_ble_eq_true rfl)) dX9_command_148 ⟨Nat.zero_le _, Nat.zero_le _⟩) hP hD hS hFc [5] [0, 1, 2, 3, 4] rfl rfl (by decide) (by decide) (fun r14 u14 H locs hw hP hD hS => ?_)
      obtain ⟨rfl, rfl⟩ := hw
      have hP : va_P D vwCl (cM a_this g_this ++ (cJ_ dT (a_this 7) 128 g_this_chosenBy ++ (cJ_ dT (a_this 8) 128 g_this_paidBy ++ (cJ_ dT (a_this 9) 128 g_this_toPay ++ (cI_ dT (a_this 10) 7 g_this_plan ++ (cJ_ dT (a_this 3) 353 o14.2)))))) H := hP
      have hD : va_D A (cM a_this g_this ++ (cJ_ dT (a_this 7) 128 g_this_chosenBy ++ (cJ_ dT (a_this 8) 128 g_this_paidBy ++ (cJ_ dT (a_this 9) 128 g_this_toPay ++ (cI_ dT (a_this 10) 7 g_this_plan ++ (cJ_ dT (a_this 3) 353 o14.2)))))) := hD
      refine lv_if_le (tgt := 158) hx hb dX9_command_151 (by decide) (fun c15 => ?_) (fun c15 => ?_)
      · replace h := iteT c15 h
        refine lv_iconst (v := 0) hx hb dX9_command_158 (by decide) ?_
        have hP := hP.sub (ws' := (cM a_this g_this ++ (cJ_ dT (a_this 3) 353 o14.2 ++ (cJ_ dT (a_this 7) 128 g_this_chosenBy ++ (cJ_ dT (a_this 8) 128 g_this_paidBy ++ (cJ_ dT (a_this 9) 128 g_this_toPay ++ (cI_ dT (a_this 10) 7 g_this_plan))))))) [0, 5, 1, 2, 3, 4] rfl
        have hD := hD.sub (ws' := (cM a_this g_this ++ (cJ_ dT (a_this 3) 353 o14.2 ++ (cJ_ dT (a_this 7) 128 g_this_chosenBy ++ (cJ_ dT (a_this 8) 128 g_this_paidBy ++ (cJ_ dT (a_this 9) 128 g_this_toPay ++ (cI_ dT (a_this 10) 7 g_this_plan))))))) [0, 5, 1, 2, 3, 4] (by decide) rfl
        exact rt_z hx hb hr hlk hK hS ((g_this, o14.2, g_this_chosenBy, g_this_paidBy, g_this_toPay, g_this_plan) : TM × (Nat → Int64) × (Nat → Int64) × (Nat → Int64) × (Nat → Int64) × (Nat → Int32)) (ret2 h) (by decide) hP hD dX9_command_159
      · replace h := iteF c15 h
        refine lv_iconst (v := 1) hx hb dX9_command_154 (by decide) ?_
        refine lv_goto (tgt := 159) hx hb dX9_command_155 (by decide) ?_
        have hP := hP.sub (ws' := (cM a_this g_this ++ (cJ_ dT (a_this 3) 353 o14.2 ++ (cJ_ dT (a_this 7) 128 g_this_chosenBy ++ (cJ_ dT (a_this 8) 128 g_this_paidBy ++ (cJ_ dT (a_this 9) 128 g_this_toPay ++ (cI_ dT (a_this 10) 7 g_this_plan))))))) [0, 5, 1, 2, 3, 4] rfl
        have hD := hD.sub (ws' := (cM a_this g_this ++ (cJ_ dT (a_this 3) 353 o14.2 ++ (cJ_ dT (a_this 7) 128 g_this_chosenBy ++ (cJ_ dT (a_this 8) 128 g_this_paidBy ++ (cJ_ dT (a_this 9) 128 g_this_toPay ++ (cI_ dT (a_this 10) 7 g_this_plan))))))) [0, 5, 1, 2, 3, 4] (by decide) rfl
        exact rt_z hx hb hr hlk hK hS ((g_this, o14.2, g_this_chosenBy, g_this_paidBy, g_this_toPay, g_this_plan) : TM × (Nat → Int64) × (Nat → Int64) × (Nat → Int64) × (Nat → Int64) × (Nat → Int32)) (ret2 h) (by decide) hP hD dX9_command_159
  replace h := iteF c1_3 h
  by_cases c1_4 : v1 = (4 : Int32)
  · replace h := iteT c1_4 h
    refine lv_tableIn (off := (159)) (tgt := 160) hx hb dX9_command_1 (by rw [c1_4]; decide) (by rw [c1_4]; decide) (by rw [c1_4]; rfl) (by decide) ?_
    refine lv_iload_n hx hb dX9_command_160 rfl (lv_at hl 3 rfl) ?_
    refine lv_if_gt (tgt := 173) hx hb dX9_command_161 (by decide) (fun c16 => ?_) (fun c16 => ?_)
    · replace h := iteT c16 h
      refine lv_iconst (v := 0) hx hb dX9_command_173 (by decide) ?_
      exact rt_z hx hb hr hlk hK hS ((g_this, g_this_trial, g_this_chosenBy, g_this_paidBy, g_this_toPay, g_this_plan) : TM × (Nat → Int64) × (Nat → Int64) × (Nat → Int64) × (Nat → Int64) × (Nat → Int32)) (ret2 h) (by decide) hP hD dX9_command_174
    · replace h := iteF c16 h
      refine lv_iload_n hx hb dX9_command_164 rfl (lv_at hl 2 rfl) ?_
      refine lv_iload hx hb dX9_command_165 (lv_at hl 4 rfl) ?_
      obtain ⟨o17, e17, h⟩ := obind h
      have hPc := hP.sub (ws' := ([] : va_W)) [] rfl
      have hDc := hD.sub (ws' := ([] : va_W)) [] (by decide) rfl
      have hFc := va_free (wc := ([] : va_W)) hD hS hA [] rfl
      refine cl_i (wr := (cM a_this g_this ++ (cJ_ dT (a_this 3) 353 g_this_trial ++ (cJ_ dT (a_this 7) 128 g_this_chosenBy ++ (cJ_ dT (a_this 8) 128 g_this_paidBy ++ (cJ_ dT (a_this 9) 128 g_this_toPay ++ (cI_ dT (a_this 10) 7 g_this_plan))))))) (va_runS (As := [.int v2, .int v4]) (rest := []) ⟨hx, hb, hml, hown, hts⟩ (c_X9_isSetting l hlt D dT v2 v4 o17 e17 _) (va_cwS 2 hts (TB_S w_1322 w_1323 w_59 w_1324) rfl rfl rfl nd_X9_isSetting ⟨Nat.le_of_ble_eq_true rfl, Nat.le_of_ble_eq_true rfl⟩) (cPre.S hPc hDc hK hE hS hFc) rfl rfl hl.1 rfl (lv_room (Nat.le_of_ble_eq_true rfl)) dX9_command_167 ⟨Nat.zero_le _, Nat.zero_le _⟩) hP hD hS hFc [] [0, 1, 2, 3, 4, 5] rfl rfl (by decide) (by decide) (fun r17 u17 H locs hw hP hD hS => ?_)
      obtain ⟨rfl, rfl⟩ := hw
      have hP : va_P D vwCl (cM a_this g_this ++ (cJ_ dT (a_this 3) 353 g_this_trial ++ (cJ_ dT (a_this 7) 128 g_this_chosenBy ++ (cJ_ dT (a_this 8) 128 g_this_paidBy ++ (cJ_ dT (a_this 9) 128 g_this_toPay ++ (cI_ dT (a_this 10) 7 g_this_plan)))))) H := hP
      have hD : va_D A (cM a_this g_this ++ (cJ_ dT (a_this 3) 353 g_this_trial ++ (cJ_ dT (a_this 7) 128 g_this_chosenBy ++ (cJ_ dT (a_this 8) 128 g_this_paidBy ++ (cJ_ dT (a_this 9) 128 g_this_toPay ++ (cI_ dT (a_this 10) 7 g_this_plan)))))) := hD
      refine lv_if_ne (tgt := 175) hx hb dX9_command_170 (by decide) (fun c18 => ?_) (fun c18 => ?_)
      · replace h := iteF c18 h
        refine lv_aload_n hx hb dX9_command_175 rfl (lv_at hl 0 rfl) ?_
        refine gf_X9_17 (v := .ref (a_this 3)) hx hb hqs hown hK hP 0 rfl rfl dX9_command_176 ?_
        refine lv_sipush (v := 302) hx hb dX9_command_179 (by decide) ?_
        refine lv_iload_n hx hb dX9_command_182 rfl (lv_at hl 2 rfl) ?_
        refine lv_iadd hx hb dX9_command_183 ?_
        refine lv_iload hx hb dX9_command_184 (lv_at hl 4 rfl) ?_
        refine lv_i2l hx hb dX9_command_186 rfl ?_
        obtain ⟨g19, h⟩ := chk h
        refine va_last hx hb hK hP hD hS 1 1 rfl rfl (inb_in g19) dX9_command_187 (fun H locs hP hD hS => ?_)
        have hP : va_P D vwCl (cM a_this g_this ++ (cJ_ dT (a_this 3) 353 (vp_updL g_this_trial ((302 : Int32) + v2).toNatClampNeg (Int32.toInt64 v4)) ++ (cJ_ dT (a_this 7) 128 g_this_chosenBy ++ (cJ_ dT (a_this 8) 128 g_this_paidBy ++ (cJ_ dT (a_this 9) 128 g_this_toPay ++ (cI_ dT (a_this 10) 7 g_this_plan)))))) H := hP
        have hD : va_D A (cM a_this g_this ++ (cJ_ dT (a_this 3) 353 (vp_updL g_this_trial ((302 : Int32) + v2).toNatClampNeg (Int32.toInt64 v4)) ++ (cJ_ dT (a_this 7) 128 g_this_chosenBy ++ (cJ_ dT (a_this 8) 128 g_this_paidBy ++ (cJ_ dT (a_this 9) 128 g_this_toPay ++ (cI_ dT (a_this 10) 7 g_this_plan)))))) := hD
        refine lv_iconst (v := 1) hx hb dX9_command_188 (by decide) ?_
        exact rt_z hx hb hr hlk hK hS ((g_this, (vp_updL g_this_trial ((302 : Int32) + v2).toNatClampNeg (Int32.toInt64 v4)), g_this_chosenBy, g_this_paidBy, g_this_toPay, g_this_plan) : TM × (Nat → Int64) × (Nat → Int64) × (Nat → Int64) × (Nat → Int64) × (Nat → Int32)) (ret2 h) (by decide) hP hD dX9_command_189
      · replace h := iteT c18 h
        refine lv_iconst (v := 0) hx hb dX9_command_173 (by decide) ?_
        exact rt_z hx hb hr hlk hK hS ((g_this, g_this_trial, g_this_chosenBy, g_this_paidBy, g_this_toPay, g_this_plan) : TM × (Nat → Int64) × (Nat → Int64) × (Nat → Int64) × (Nat → Int64) × (Nat → Int32)) (ret2 h) (by decide) hP hD dX9_command_174
  replace h := iteF c1_4 h
  by_cases c1_5 : v1 = (5 : Int32)
  · replace h := iteT c1_5 h
    refine lv_tableIn (off := (189)) (tgt := 190) hx hb dX9_command_1 (by rw [c1_5]; decide) (by rw [c1_5]; decide) (by rw [c1_5]; rfl) (by decide) ?_
    refine lv_aload_n hx hb dX9_command_190 rfl (lv_at hl 0 rfl) ?_
    refine gf_X9_17 (v := .ref (a_this 3)) hx hb hqs hown hK hP 0 rfl rfl dX9_command_191 ?_
    refine lv_iload_n hx hb dX9_command_194 rfl (lv_at hl 2 rfl) ?_
    refine lv_iload_n hx hb dX9_command_195 rfl (lv_at hl 3 rfl) ?_
    obtain ⟨o20, e20, h⟩ := obind h
    have hPc := hP.sub (ws' := (cJ_ dT (a_this 3) 353 g_this_trial)) [1] rfl
    have hDc := hD.sub (ws' := (cJ_ dT (a_this 3) 353 g_this_trial)) [1] (by decide) rfl
    have hFc := va_free (wc := (cJ_ dT (a_this 3) 353 g_this_trial)) hD hS hA [1] rfl
    refine cl_i (wr := (cM a_this g_this ++ (cJ_ dT (a_this 7) 128 g_this_chosenBy ++ (cJ_ dT (a_this 8) 128 g_this_paidBy ++ (cJ_ dT (a_this 9) 128 g_this_toPay ++ (cI_ dT (a_this 10) 7 g_this_plan)))))) (va_runS (As := [.ref (a_this 3), .int v2, .int v3]) (rest := []) ⟨hx, hb, hml, hown, hts⟩ (c_X9_arePair l hlt D dT (a_this 3) 353 g_this_trial v2 v3 o20 e20 _) (va_cwS 3 hts (TB_S w_1212 w_1213 w_59 w_1214) rfl rfl rfl nd_X9_arePair ⟨Nat.le_of_ble_eq_true rfl, Nat.le_of_ble_eq_true rfl⟩) (cPre.S hPc hDc hK hE hS hFc) rfl rfl hl.1 rfl (lv_room (Nat.le_of_ble_eq_true rfl)) dX9_command_196 ⟨Nat.zero_le _, Nat.zero_le _⟩) hP hD hS hFc [1] [0, 2, 3, 4, 5] rfl rfl (by decide) (by decide) (fun r20 u20 H locs hw hP hD hS => ?_)
    obtain ⟨rfl, rfl⟩ := hw
    have hP : va_P D vwCl (cM a_this g_this ++ (cJ_ dT (a_this 7) 128 g_this_chosenBy ++ (cJ_ dT (a_this 8) 128 g_this_paidBy ++ (cJ_ dT (a_this 9) 128 g_this_toPay ++ (cI_ dT (a_this 10) 7 g_this_plan ++ (cJ_ dT (a_this 3) 353 g_this_trial)))))) H := hP
    have hD : va_D A (cM a_this g_this ++ (cJ_ dT (a_this 7) 128 g_this_chosenBy ++ (cJ_ dT (a_this 8) 128 g_this_paidBy ++ (cJ_ dT (a_this 9) 128 g_this_toPay ++ (cI_ dT (a_this 10) 7 g_this_plan ++ (cJ_ dT (a_this 3) 353 g_this_trial)))))) := hD
    refine lv_if_eq (tgt := 235) hx hb dX9_command_199 (by decide) (fun c21 => ?_) (fun c21 => ?_)
    · replace h := iteT c21 h
      refine lv_iconst (v := 0) hx hb dX9_command_235 (by decide) ?_
      have hP := hP.sub (ws' := (cM a_this g_this ++ (cJ_ dT (a_this 3) 353 g_this_trial ++ (cJ_ dT (a_this 7) 128 g_this_chosenBy ++ (cJ_ dT (a_this 8) 128 g_this_paidBy ++ (cJ_ dT (a_this 9) 128 g_this_toPay ++ (cI_ dT (a_this 10) 7 g_this_plan))))))) [0, 5, 1, 2, 3, 4] rfl
      have hD := hD.sub (ws' := (cM a_this g_this ++ (cJ_ dT (a_this 3) 353 g_this_trial ++ (cJ_ dT (a_this 7) 128 g_this_chosenBy ++ (cJ_ dT (a_this 8) 128 g_this_paidBy ++ (cJ_ dT (a_this 9) 128 g_this_toPay ++ (cI_ dT (a_this 10) 7 g_this_plan))))))) [0, 5, 1, 2, 3, 4] (by decide) rfl
      exact rt_z hx hb hr hlk hK hS ((g_this, g_this_trial, g_this_chosenBy, g_this_paidBy, g_this_toPay, g_this_plan) : TM × (Nat → Int64) × (Nat → Int64) × (Nat → Int64) × (Nat → Int64) × (Nat → Int32)) (ret2 h) (by decide) hP hD dX9_command_236
    · replace h := iteF c21 h
      refine lv_iload_n hx hb dX9_command_202 rfl (lv_at hl 2 rfl) ?_
      refine lv_iload_n hx hb dX9_command_203 rfl (lv_at hl 3 rfl) ?_
      refine lv_icmp_eq (tgt := 235) hx hb dX9_command_204 (by decide) (fun c22 => ?_) (fun c22 => ?_)
      · replace h := iteT c22 h
        refine lv_iconst (v := 0) hx hb dX9_command_235 (by decide) ?_
        have hP := hP.sub (ws' := (cM a_this g_this ++ (cJ_ dT (a_this 3) 353 g_this_trial ++ (cJ_ dT (a_this 7) 128 g_this_chosenBy ++ (cJ_ dT (a_this 8) 128 g_this_paidBy ++ (cJ_ dT (a_this 9) 128 g_this_toPay ++ (cI_ dT (a_this 10) 7 g_this_plan))))))) [0, 5, 1, 2, 3, 4] rfl
        have hD := hD.sub (ws' := (cM a_this g_this ++ (cJ_ dT (a_this 3) 353 g_this_trial ++ (cJ_ dT (a_this 7) 128 g_this_chosenBy ++ (cJ_ dT (a_this 8) 128 g_this_paidBy ++ (cJ_ dT (a_this 9) 128 g_this_toPay ++ (cI_ dT (a_this 10) 7 g_this_plan))))))) [0, 5, 1, 2, 3, 4] (by decide) rfl
        exact rt_z hx hb hr hlk hK hS ((g_this, g_this_trial, g_this_chosenBy, g_this_paidBy, g_this_toPay, g_this_plan) : TM × (Nat → Int64) × (Nat → Int64) × (Nat → Int64) × (Nat → Int64) × (Nat → Int32)) (ret2 h) (by decide) hP hD dX9_command_236
      · replace h := iteF c22 h
        refine lv_iload hx hb dX9_command_207 (lv_at hl 4 rfl) ?_
        obtain ⟨o23, e23, h⟩ := obind h
        have hPc := hP.sub (ws' := ([] : va_W)) [] rfl
        have hDc := hD.sub (ws' := ([] : va_W)) [] (by decide) rfl
        have hFc := va_free (wc := ([] : va_W)) hD hS hA [] rfl
        refine cl_i (wr := (cM a_this g_this ++ (cJ_ dT (a_this 7) 128 g_this_chosenBy ++ (cJ_ dT (a_this 8) 128 g_this_paidBy ++ (cJ_ dT (a_this 9) 128 g_this_toPay ++ (cI_ dT (a_this 10) 7 g_this_plan ++ (cJ_ dT (a_this 3) 353 g_this_trial))))))) (va_runS (As := [.int v4]) (rest := []) ⟨hx, hb, hml, hown, hts⟩ (c_X9_isShare l hlt D dT v4 o23 e23 _) (va_cwS 1 hts (TB_S w_1245 w_1246 w_59 w_1247) rfl rfl rfl nd_X9_isShare ⟨Nat.le_of_ble_eq_true rfl, Nat.le_of_ble_eq_true rfl⟩) (cPre.S hPc hDc hK hE hS hFc) rfl rfl hl.1 rfl (lv_room (Nat.le_of_ble_eq_true rfl)) dX9_command_209 ⟨Nat.zero_le _, Nat.zero_le _⟩) hP hD hS hFc [] [0, 1, 2, 3, 4, 5] rfl rfl (by decide) (by decide) (fun r23 u23 H locs hw hP hD hS => ?_)
        obtain ⟨rfl, rfl⟩ := hw
        have hP : va_P D vwCl (cM a_this g_this ++ (cJ_ dT (a_this 7) 128 g_this_chosenBy ++ (cJ_ dT (a_this 8) 128 g_this_paidBy ++ (cJ_ dT (a_this 9) 128 g_this_toPay ++ (cI_ dT (a_this 10) 7 g_this_plan ++ (cJ_ dT (a_this 3) 353 g_this_trial)))))) H := hP
        have hD : va_D A (cM a_this g_this ++ (cJ_ dT (a_this 7) 128 g_this_chosenBy ++ (cJ_ dT (a_this 8) 128 g_this_paidBy ++ (cJ_ dT (a_this 9) 128 g_this_toPay ++ (cI_ dT (a_this 10) 7 g_this_plan ++ (cJ_ dT (a_this 3) 353 g_this_trial)))))) := hD
        refine lv_if_eq (tgt := 235) hx hb dX9_command_212 (by decide) (fun c24 => ?_) (fun c24 => ?_)
        · replace h := iteT c24 h
          refine lv_iconst (v := 0) hx hb dX9_command_235 (by decide) ?_
          have hP := hP.sub (ws' := (cM a_this g_this ++ (cJ_ dT (a_this 3) 353 g_this_trial ++ (cJ_ dT (a_this 7) 128 g_this_chosenBy ++ (cJ_ dT (a_this 8) 128 g_this_paidBy ++ (cJ_ dT (a_this 9) 128 g_this_toPay ++ (cI_ dT (a_this 10) 7 g_this_plan))))))) [0, 5, 1, 2, 3, 4] rfl
          have hD := hD.sub (ws' := (cM a_this g_this ++ (cJ_ dT (a_this 3) 353 g_this_trial ++ (cJ_ dT (a_this 7) 128 g_this_chosenBy ++ (cJ_ dT (a_this 8) 128 g_this_paidBy ++ (cJ_ dT (a_this 9) 128 g_this_toPay ++ (cI_ dT (a_this 10) 7 g_this_plan))))))) [0, 5, 1, 2, 3, 4] (by decide) rfl
          exact rt_z hx hb hr hlk hK hS ((g_this, g_this_trial, g_this_chosenBy, g_this_paidBy, g_this_toPay, g_this_plan) : TM × (Nat → Int64) × (Nat → Int64) × (Nat → Int64) × (Nat → Int64) × (Nat → Int32)) (ret2 h) (by decide) hP hD dX9_command_236
        · replace h := iteF c24 h
          refine lv_aload_n hx hb dX9_command_215 rfl (lv_at hl 0 rfl) ?_
          refine gf_X9_17 (v := .ref (a_this 3)) hx hb hqs hown hK hP 0 rfl rfl dX9_command_216 ?_
          refine lv_iload_n hx hb dX9_command_219 rfl (lv_at hl 2 rfl) ?_
          refine lv_iload_n hx hb dX9_command_220 rfl (lv_at hl 3 rfl) ?_
          refine lv_iload hx hb dX9_command_221 (lv_at hl 4 rfl) ?_
          refine lv_iload hx hb dX9_command_223 (lv_at hl 4 rfl) ?_
          obtain ⟨o25, e25, h⟩ := obind h
          have hPc := hP.sub (ws' := (cJ_ dT (a_this 3) 353 g_this_trial)) [5] rfl
          have hDc := hD.sub (ws' := (cJ_ dT (a_this 3) 353 g_this_trial)) [5] (by decide) rfl
          have hFc := va_free (wc := (cJ_ dT (a_this 3) 353 g_this_trial)) hD hS hA [5] rfl
          refine cl_i (wr := (cM a_this g_this ++ (cJ_ dT (a_this 7) 128 g_this_chosenBy ++ (cJ_ dT (a_this 8) 128 g_this_paidBy ++ (cJ_ dT (a_this 9) 128 g_this_toPay ++ (cI_ dT (a_this 10) 7 g_this_plan)))))) (va_runS (As := [.ref (a_this 3), .int v2, .int v3, .int v4, .int v4]) (rest := []) ⟨hx, hb, hml, hown, hts⟩ (c_X9_linkOn l hlt D dT (a_this 3) 353 g_this_trial v2 v3 v4 v4 o25 e25 _) (va_cwS 5 hts (TB_S w_1178 w_1179 w_59 w_1180) rfl rfl rfl nd_X9_linkOn ⟨Nat.le_of_ble_eq_true rfl, Nat.le_of_ble_eq_true rfl⟩) (cPre.S hPc hDc hK hE hS hFc) rfl rfl hl.1 rfl (lv_room (Nat.le_of_ble_eq_true rfl)) dX9_command_225 ⟨Nat.zero_le _, Nat.zero_le _⟩) hP hD hS hFc [5] [0, 1, 2, 3, 4] rfl rfl (by decide) (by decide) (fun r25 u25 H locs hw hP hD hS => ?_)
          obtain ⟨rfl, rfl⟩ := hw
          have hP : va_P D vwCl (cM a_this g_this ++ (cJ_ dT (a_this 7) 128 g_this_chosenBy ++ (cJ_ dT (a_this 8) 128 g_this_paidBy ++ (cJ_ dT (a_this 9) 128 g_this_toPay ++ (cI_ dT (a_this 10) 7 g_this_plan ++ (cJ_ dT (a_this 3) 353 o25.2)))))) H := hP
          have hD : va_D A (cM a_this g_this ++ (cJ_ dT (a_this 7) 128 g_this_chosenBy ++ (cJ_ dT (a_this 8) 128 g_this_paidBy ++ (cJ_ dT (a_this 9) 128 g_this_toPay ++ (cI_ dT (a_this 10) 7 g_this_plan ++ (cJ_ dT (a_this 3) 353 o25.2)))))) := hD
          refine lv_if_le (tgt := 235) hx hb dX9_command_228 (by decide) (fun c26 => ?_) (fun c26 => ?_)
          · replace h := iteT c26 h
            refine lv_iconst (v := 0) hx hb dX9_command_235 (by decide) ?_
            have hP := hP.sub (ws' := (cM a_this g_this ++ (cJ_ dT (a_this 3) 353 o25.2 ++ (cJ_ dT (a_this 7) 128 g_this_chosenBy ++ (cJ_ dT (a_this 8) 128 g_this_paidBy ++ (cJ_ dT (a_this 9) 128 g_this_toPay ++ (cI_ dT (a_this 10) 7 g_this_plan))))))) [0, 5, 1, 2, 3, 4] rfl
            have hD := hD.sub (ws' := (cM a_this g_this ++ (cJ_ dT (a_this 3) 353 o25.2 ++ (cJ_ dT (a_this 7) 128 g_this_chosenBy ++ (cJ_ dT (a_this 8) 128 g_this_paidBy ++ (cJ_ dT (a_this 9) 128 g_this_toPay ++ (cI_ dT (a_this 10) 7 g_this_plan))))))) [0, 5, 1, 2, 3, 4] (by decide) rfl
            exact rt_z hx hb hr hlk hK hS ((g_this, o25.2, g_this_chosenBy, g_this_paidBy, g_this_toPay, g_this_plan) : TM × (Nat → Int64) × (Nat → Int64) × (Nat → Int64) × (Nat → Int64) × (Nat → Int32)) (ret2 h) (by decide) hP hD dX9_command_236
          · replace h := iteF c26 h
            refine lv_iconst (v := 1) hx hb dX9_command_231 (by decide) ?_
            refine lv_goto (tgt := 236) hx hb dX9_command_232 (by decide) ?_
            have hP := hP.sub (ws' := (cM a_this g_this ++ (cJ_ dT (a_this 3) 353 o25.2 ++ (cJ_ dT (a_this 7) 128 g_this_chosenBy ++ (cJ_ dT (a_this 8) 128 g_this_paidBy ++ (cJ_ dT (a_this 9) 128 g_this_toPay ++ (cI_ dT (a_this 10) 7 g_this_plan))))))) [0, 5, 1, 2, 3, 4] rfl
            have hD := hD.sub (ws' := (cM a_this g_this ++ (cJ_ dT (a_this 3) 353 o25.2 ++ (cJ_ dT (a_this 7) 128 g_this_chosenBy ++ (cJ_ dT (a_this 8) 128 g_this_paidBy ++ (cJ_ dT (a_this 9) 128 g_this_toPay ++ (cI_ dT (a_this 10) 7 g_this_plan))))))) [0, 5, 1, 2, 3, 4] (by decide) rfl
            exact rt_z hx hb hr hlk hK hS ((g_this, o25.2, g_this_chosenBy, g_this_paidBy, g_this_toPay, g_this_plan) : TM × (Nat → Int64) × (Nat → Int64) × (Nat → Int64) × (Nat → Int64) × (Nat → Int32)) (ret2 h) (by decide) hP hD dX9_command_236
  replace h := iteF c1_5 h
  by_cases c1_6 : v1 = (6 : Int32)
  · replace h := iteT c1_6 h
    refine lv_tableIn (off := (236)) (tgt := 237) hx hb dX9_command_1 (by rw [c1_6]; decide) (by rw [c1_6]; decide) (by rw [c1_6]; rfl) (by decide) ?_
    refine lv_aload_n hx hb dX9_command_237 rfl (lv_at hl 0 rfl) ?_
    refine lv_iload_n hx hb dX9_command_238 rfl (lv_at hl 2 rfl) ?_
    refine lv_iload_n hx hb dX9_command_239 rfl (lv_at hl 3 rfl) ?_
    refine lv_iload hx hb dX9_command_240 (lv_at hl 4 rfl) ?_
    obtain ⟨o27, e27, h⟩ := obind h
    have hPc := hP.sub (ws' := (cM a_this g_this ++ (cJ_ dT (a_this 3) 353 g_this_trial ++ (cJ_ dT (a_this 7) 128 g_this_chosenBy ++ (cJ_ dT (a_this 9) 128 g_this_toPay ++ (cI_ dT (a_this 10) 7 g_this_plan)))))) [0, 1, 2, 4, 5] rfl
    have hDc := hD.sub (ws' := (cM a_this g_this ++ (cJ_ dT (a_this 3) 353 g_this_trial ++ (cJ_ dT (a_this 7) 128 g_this_chosenBy ++ (cJ_ dT (a_this 9) 128 g_this_toPay ++ (cI_ dT (a_this 10) 7 g_this_plan)))))) [0, 1, 2, 4, 5] (by decide) rfl
    have hFc := va_free (wc := (cM a_this g_this ++ (cJ_ dT (a_this 3) 353 g_this_trial ++ (cJ_ dT (a_this 7) 128 g_this_chosenBy ++ (cJ_ dT (a_this 9) 128 g_this_toPay ++ (cI_ dT (a_this 10) 7 g_this_plan)))))) hD hS hA [0, 1, 2, 4, 5] rfl
    refine cl_i (wr := (cJ_ dT (a_this 8) 128 g_this_paidBy)) (va_runV (As := [.int v2, .int v3, .int v4]) (rest := []) ⟨hx, hb, hml, hown, hts⟩ (c_X9_isChosen l hlt D dT a_this g_this g_this_trial g_this_chosenBy g_this_toPay g_this_plan v2 v3 v4 o27 e27 _) (cwV 3 hts (TB_V w_1375 w_1377 w_47 w_59 w_1378) rfl rfl rfl ⟨rfl, nd_X9_isChosen⟩ ⟨Nat.le_of_ble_eq_true rfl, Nat.le_of_ble_eq_true rfl⟩) (cPre.V hPc hDc hK hE hS hFc (va_recv hK hP (ci := 8) (q0 := 0) rfl rfl)) rfl rfl hl.1 rfl (lv_room (Nat.le_of_ble_eq_true rfl)) dX9_command_242 ⟨Nat.zero_le _, Nat.zero_le _⟩) hP hD hS hFc [0, 1, 2, 4, 5] [3] rfl rfl (by decide) (by decide) (fun r27 u27 H locs hw hP hD hS => ?_)
    obtain ⟨rfl, rfl⟩ := hw
    have hP : va_P D vwCl (cJ_ dT (a_this 8) 128 g_this_paidBy ++ (cM a_this o27.2.1 ++ (cJ_ dT (a_this 3) 353 g_this_trial ++ (cJ_ dT (a_this 7) 128 o27.2.2.1 ++ (cJ_ dT (a_this 9) 128 o27.2.2.2.1 ++ (cI_ dT (a_this 10) 7 o27.2.2.2.2)))))) H := hP
    have hD : va_D A (cJ_ dT (a_this 8) 128 g_this_paidBy ++ (cM a_this o27.2.1 ++ (cJ_ dT (a_this 3) 353 g_this_trial ++ (cJ_ dT (a_this 7) 128 o27.2.2.1 ++ (cJ_ dT (a_this 9) 128 o27.2.2.2.1 ++ (cI_ dT (a_this 10) 7 o27.2.2.2.2)))))) := hD
    have hP := hP.sub (ws' := (cM a_this o27.2.1 ++ (cJ_ dT (a_this 3) 353 g_this_trial ++ (cJ_ dT (a_this 7) 128 o27.2.2.1 ++ (cJ_ dT (a_this 8) 128 g_this_paidBy ++ (cJ_ dT (a_this 9) 128 o27.2.2.2.1 ++ (cI_ dT (a_this 10) 7 o27.2.2.2.2))))))) [1, 2, 3, 0, 4, 5] rfl
    have hD := hD.sub (ws' := (cM a_this o27.2.1 ++ (cJ_ dT (a_this 3) 353 g_this_trial ++ (cJ_ dT (a_this 7) 128 o27.2.2.1 ++ (cJ_ dT (a_this 8) 128 g_this_paidBy ++ (cJ_ dT (a_this 9) 128 o27.2.2.2.1 ++ (cI_ dT (a_this 10) 7 o27.2.2.2.2))))))) [1, 2, 3, 0, 4, 5] (by decide) rfl
    obtain ⟨g28, h⟩ := chp h
    exact rt_z hx hb hr hlk hK hS ((o27.2.1, g_this_trial, o27.2.2.1, g_this_paidBy, o27.2.2.2.1, o27.2.2.2.2) : TM × (Nat → Int64) × (Nat → Int64) × (Nat → Int64) × (Nat → Int64) × (Nat → Int32)) (ret2 h) g28 hP hD dX9_command_245
  replace h := iteF c1_6 h
  by_cases c1_7 : v1 = (7 : Int32)
  · replace h := iteT c1_7 h
    refine lv_tableIn (off := (245)) (tgt := 246) hx hb dX9_command_1 (by rw [c1_7]; decide) (by rw [c1_7]; decide) (by rw [c1_7]; rfl) (by decide) ?_
    refine lv_aload_n hx hb dX9_command_246 rfl (lv_at hl 0 rfl) ?_
    refine gf_X9_17 (v := .ref (a_this 3)) hx hb hqs hown hK hP 0 rfl rfl dX9_command_247 ?_
    refine lv_iload_n hx hb dX9_command_250 rfl (lv_at hl 2 rfl) ?_
    refine lv_iload_n hx hb dX9_command_251 rfl (lv_at hl 3 rfl) ?_
    obtain ⟨o29, e29, h⟩ := obind h
    have hPc := hP.sub (ws' := (cJ_ dT (a_this 3) 353 g_this_trial)) [1] rfl
    have hDc := hD.sub (ws' := (cJ_ dT (a_this 3) 353 g_this_trial)) [1] (by decide) rfl
    have hFc := va_free (wc := (cJ_ dT (a_this 3) 353 g_this_trial)) hD hS hA [1] rfl
    refine cl_i (wr := (cM a_this g_this ++ (cJ_ dT (a_this 7) 128 g_this_chosenBy ++ (cJ_ dT (a_this 8) 128 g_this_paidBy ++ (cJ_ dT (a_this 9) 128 g_this_toPay ++ (cI_ dT (a_this 10) 7 g_this_plan)))))) (va_runS (As := [.ref (a_this 3), .int v2, .int v3]) (rest := []) ⟨hx, hb, hml, hown, hts⟩ (c_X9_arePair l hlt D dT (a_this 3) 353 g_this_trial v2 v3 o29 e29 _) (va_cwS 3 hts (TB_S w_1212 w_1213 w_59 w_1214) rfl rfl rfl nd_X9_arePair ⟨Nat.le_of_ble_eq_true rfl, Nat.le_of_ble_eq_true rfl⟩) (cPre.S hPc hDc hK hE hS hFc) rfl rfl hl.1 rfl (lv_room (Nat.le_of_ble_eq_true rfl)) dX9_command_252 ⟨Nat.zero_le _, Nat.zero_le _⟩) hP hD hS hFc [1] [0, 2, 3, 4, 5] rfl rfl (by decide) (by decide) (fun r29 u29 H locs hw hP hD hS => ?_)
    obtain ⟨rfl, rfl⟩ := hw
    have hP : va_P D vwCl (cM a_this g_this ++ (cJ_ dT (a_this 7) 128 g_this_chosenBy ++ (cJ_ dT (a_this 8) 128 g_this_paidBy ++ (cJ_ dT (a_this 9) 128 g_this_toPay ++ (cI_ dT (a_this 10) 7 g_this_plan ++ (cJ_ dT (a_this 3) 353 g_this_trial)))))) H := hP
    have hD : va_D A (cM a_this g_this ++ (cJ_ dT (a_this 7) 128 g_this_chosenBy ++ (cJ_ dT (a_this 8) 128 g_this_paidBy ++ (cJ_ dT (a_this 9) 128 g_this_toPay ++ (cI_ dT (a_this 10) 7 g_this_plan ++ (cJ_ dT (a_this 3) 353 g_this_trial)))))) := hD
    refine lv_if_eq (tgt := 314) hx hb dX9_command_255 (by decide) (fun c30 => ?_) (fun c30 => ?_)
    · replace h := iteT c30 h
      refine lv_iconst (v := 0) hx hb dX9_command_314 (by decide) ?_
      have hP := hP.sub (ws' := (cM a_this g_this ++ (cJ_ dT (a_this 3) 353 g_this_trial ++ (cJ_ dT (a_this 7) 128 g_this_chosenBy ++ (cJ_ dT (a_this 8) 128 g_this_paidBy ++ (cJ_ dT (a_this 9) 128 g_this_toPay ++ (cI_ dT (a_this 10) 7 g_this_plan))))))) [0, 5, 1, 2, 3, 4] rfl
      have hD := hD.sub (ws' := (cM a_this g_this ++ (cJ_ dT (a_this 3) 353 g_this_trial ++ (cJ_ dT (a_this 7) 128 g_this_chosenBy ++ (cJ_ dT (a_this 8) 128 g_this_paidBy ++ (cJ_ dT (a_this 9) 128 g_this_toPay ++ (cI_ dT (a_this 10) 7 g_this_plan))))))) [0, 5, 1, 2, 3, 4] (by decide) rfl
      exact rt_z hx hb hr hlk hK hS ((g_this, g_this_trial, g_this_chosenBy, g_this_paidBy, g_this_toPay, g_this_plan) : TM × (Nat → Int64) × (Nat → Int64) × (Nat → Int64) × (Nat → Int64) × (Nat → Int32)) (ret2 h) (by decide) hP hD dX9_command_315
    · replace h := iteF c30 h
      refine lv_iload_n hx hb dX9_command_258 rfl (lv_at hl 2 rfl) ?_
      refine lv_iload_n hx hb dX9_command_259 rfl (lv_at hl 3 rfl) ?_
      refine lv_icmp_eq (tgt := 314) hx hb dX9_command_260 (by decide) (fun c31 => ?_) (fun c31 => ?_)
      · replace h := iteT c31 h
        refine lv_iconst (v := 0) hx hb dX9_command_314 (by decide) ?_
        have hP := hP.sub (ws' := (cM a_this g_this ++ (cJ_ dT (a_this 3) 353 g_this_trial ++ (cJ_ dT (a_this 7) 128 g_this_chosenBy ++ (cJ_ dT (a_this 8) 128 g_this_paidBy ++ (cJ_ dT (a_this 9) 128 g_this_toPay ++ (cI_ dT (a_this 10) 7 g_this_plan))))))) [0, 5, 1, 2, 3, 4] rfl
        have hD := hD.sub (ws' := (cM a_this g_this ++ (cJ_ dT (a_this 3) 353 g_this_trial ++ (cJ_ dT (a_this 7) 128 g_this_chosenBy ++ (cJ_ dT (a_this 8) 128 g_this_paidBy ++ (cJ_ dT (a_this 9) 128 g_this_toPay ++ (cI_ dT (a_this 10) 7 g_this_plan))))))) [0, 5, 1, 2, 3, 4] (by decide) rfl
        exact rt_z hx hb hr hlk hK hS ((g_this, g_this_trial, g_this_chosenBy, g_this_paidBy, g_this_toPay, g_this_plan) : TM × (Nat → Int64) × (Nat → Int64) × (Nat → Int64) × (Nat → Int64) × (Nat → Int32)) (ret2 h) (by decide) hP hD dX9_command_315
      · replace h := iteF c31 h
        refine lv_iload hx hb dX9_command_263 (lv_at hl 4 rfl) ?_
        refine lv_bipush (v := 100) hx hb dX9_command_265 (by decide) ?_
        refine lv_icmp_ge (tgt := 314) hx hb dX9_command_267 (by decide) (fun c32 => ?_) (fun c32 => ?_)
        · replace h := iteT c32 h
          refine lv_iconst (v := 0) hx hb dX9_command_314 (by decide) ?_
          have hP := hP.sub (ws' := (cM a_this g_this ++ (cJ_ dT (a_this 3) 353 g_this_trial ++ (cJ_ dT (a_this 7) 128 g_this_chosenBy ++ (cJ_ dT (a_this 8) 128 g_this_paidBy ++ (cJ_ dT (a_this 9) 128 g_this_toPay ++ (cI_ dT (a_this 10) 7 g_this_plan))))))) [0, 5, 1, 2, 3, 4] rfl
          have hD := hD.sub (ws' := (cM a_this g_this ++ (cJ_ dT (a_this 3) 353 g_this_trial ++ (cJ_ dT (a_this 7) 128 g_this_chosenBy ++ (cJ_ dT (a_this 8) 128 g_this_paidBy ++ (cJ_ dT (a_this 9) 128 g_this_toPay ++ (cI_ dT (a_this 10) 7 g_this_plan))))))) [0, 5, 1, 2, 3, 4] (by decide) rfl
          exact rt_z hx hb hr hlk hK hS ((g_this, g_this_trial, g_this_chosenBy, g_this_paidBy, g_this_toPay, g_this_plan) : TM × (Nat → Int64) × (Nat → Int64) × (Nat → Int64) × (Nat → Int64) × (Nat → Int32)) (ret2 h) (by decide) hP hD dX9_command_315
        · replace h := iteF c32 h
          refine lv_aload_n hx hb dX9_command_270 rfl (lv_at hl 0 rfl) ?_
          refine gf_X9_17 (v := .ref (a_this 3)) hx hb hqs hown hK hP 0 rfl rfl dX9_command_271 ?_
          refine lv_sipush (v := 155) hx hb dX9_command_274 (by decide) ?_
          refine lv_iload_n hx hb dX9_command_277 rfl (lv_at hl 2 rfl) ?_
          refine lv_iload_n hx hb dX9_command_278 rfl (lv_at hl 3 rfl) ?_
          obtain ⟨o33, e33, h⟩ := obind h
          have hPc := hP.sub (ws' := ([] : va_W)) [] rfl
          have hDc := hD.sub (ws' := ([] : va_W)) [] (by decide) rfl
          have hFc := va_free (wc := ([] : va_W)) hD hS hA [] rfl
          refine cl_i (wr := (cM a_this g_this ++ (cJ_ dT (a_this 7) 128 g_this_chosenBy ++ (cJ_ dT (a_this 8) 128 g_this_paidBy ++ (cJ_ dT (a_this 9) 128 g_this_toPay ++ (cI_ dT (a_this 10) 7 g_this_plan ++ (cJ_ dT (a_this 3) 353 g_this_trial))))))) (va_runS (As := [.int v2, .int v3]) (rest := [.int (155 : Int32), .ref (a_this 3)]) ⟨hx, hb, hml, hown, hts⟩ (c_X9_pairOf l hlt D dT v2 v3 o33 e33 _) (va_cwS 2 hts (TB_S w_1181 w_1182 w_59 w_1183) rfl rfl rfl nd_X9_pairOf ⟨Nat.le_of_ble_eq_true rfl, Nat.le_of_ble_eq_true rfl⟩) (cPre.S hPc hDc hK hE hS hFc) rfl rfl hl.1 rfl (lv_room (Nat.le_of_ble_eq_true rfl)) dX9_command_279 ⟨Nat.zero_le _, Nat.zero_le _⟩) hP hD hS hFc [] [0, 1, 2, 3, 4, 5] rfl rfl (by decide) (by decide) (fun r33 u33 H locs hw hP hD hS => ?_)
          obtain ⟨rfl, rfl⟩ := hw
          have hP : va_P D vwCl (cM a_this g_this ++ (cJ_ dT (a_this 7) 128 g_this_chosenBy ++ (cJ_ dT (a_this 8) 128 g_this_paidBy ++ (cJ_ dT (a_this 9) 128 g_this_toPay ++ (cI_ dT (a_this 10) 7 g_this_plan ++ (cJ_ dT (a_this 3) 353 g_this_trial)))))) H := hP
          have hD : va_D A (cM a_this g_this ++ (cJ_ dT (a_this 7) 128 g_this_chosenBy ++ (cJ_ dT (a_this 8) 128 g_this_paidBy ++ (cJ_ dT (a_this 9) 128 g_this_toPay ++ (cI_ dT (a_this 10) 7 g_this_plan ++ (cJ_ dT (a_this 3) 353 g_this_trial)))))) := hD
          refine lv_iadd hx hb dX9_command_282 ?_
          obtain ⟨g34, h⟩ := chk h
          refine va_lald hx hb hK hP 5 1 rfl rfl (inb_in g34) dX9_command_283 ?_
          refine lv_lconst (v := 0) hx hb dX9_command_284 (by decide) ?_
          refine W.lcmp hx hb dX9_command_285 ?_
          refine lv_if_le (tgt := 314) hx hb dX9_command_286 (by decide) (fun c35 => ?_) (fun c35 => ?_)
          · replace h := iteT c35 h
            refine lv_iconst (v := 0) hx hb dX9_command_314 (by decide) ?_
            have hP := hP.sub (ws' := (cM a_this g_this ++ (cJ_ dT (a_this 3) 353 g_this_trial ++ (cJ_ dT (a_this 7) 128 g_this_chosenBy ++ (cJ_ dT (a_this 8) 128 g_this_paidBy ++ (cJ_ dT (a_this 9) 128 g_this_toPay ++ (cI_ dT (a_this 10) 7 g_this_plan))))))) [0, 5, 1, 2, 3, 4] rfl
            have hD := hD.sub (ws' := (cM a_this g_this ++ (cJ_ dT (a_this 3) 353 g_this_trial ++ (cJ_ dT (a_this 7) 128 g_this_chosenBy ++ (cJ_ dT (a_this 8) 128 g_this_paidBy ++ (cJ_ dT (a_this 9) 128 g_this_toPay ++ (cI_ dT (a_this 10) 7 g_this_plan))))))) [0, 5, 1, 2, 3, 4] (by decide) rfl
            exact rt_z hx hb hr hlk hK hS ((g_this, g_this_trial, g_this_chosenBy, g_this_paidBy, g_this_toPay, g_this_plan) : TM × (Nat → Int64) × (Nat → Int64) × (Nat → Int64) × (Nat → Int64) × (Nat → Int32)) (ret2 h) (by decide) hP hD dX9_command_315
          · replace h := iteF c35 h
            refine lv_aload_n hx hb dX9_command_289 rfl (lv_at hl 0 rfl) ?_
            refine gf_X9_17 (v := .ref (a_this 3)) hx hb hqs hown hK hP 0 rfl rfl dX9_command_290 ?_
            refine lv_sipush (v := 204) hx hb dX9_command_293 (by decide) ?_
            refine lv_iload_n hx hb dX9_command_296 rfl (lv_at hl 2 rfl) ?_
            refine lv_iload_n hx hb dX9_command_297 rfl (lv_at hl 3 rfl) ?_
            obtain ⟨o36, e36, h⟩ := obind h
            have hPc := hP.sub (ws' := ([] : va_W)) [] rfl
            have hDc := hD.sub (ws' := ([] : va_W)) [] (by decide) rfl
            have hFc := va_free (wc := ([] : va_W)) hD hS hA [] rfl
            refine cl_i (wr := (cM a_this g_this ++ (cJ_ dT (a_this 7) 128 g_this_chosenBy ++ (cJ_ dT (a_this 8) 128 g_this_paidBy ++ (cJ_ dT (a_this 9) 128 g_this_toPay ++ (cI_ dT (a_this 10) 7 g_this_plan ++ (cJ_ dT (a_this 3) 353 g_this_trial))))))) (va_runS (As := [.int v2, .int v3]) (rest := [.int (204 : Int32), .ref (a_this 3)]) ⟨hx, hb, hml, hown, hts⟩ (c_X9_pairOf l hlt D dT v2 v3 o36 e36 _) (va_cwS 2 hts (TB_S w_1181 w_1182 w_59 w_1183) rfl rfl rfl nd_X9_pairOf ⟨Nat.le_of_ble_eq_true rfl, Nat.le_of_ble_eq_true rfl⟩) (cPre.S hPc hDc hK hE hS hFc) rfl rfl hl.1 rfl (lv_room (Nat.le_of_ble_eq_true rfl)) dX9_command_298 ⟨Nat.zero_le _, Nat.zero_le _⟩) hP hD hS hFc [] [0, 1, 2, 3, 4, 5] rfl rfl (by decide) (by decide) (fun r36 u36 H locs hw hP hD hS => ?_)
            obtain ⟨rfl, rfl⟩ := hw
            have hP : va_P D vwCl (cM a_this g_this ++ (cJ_ dT (a_this 7) 128 g_this_chosenBy ++ (cJ_ dT (a_this 8) 128 g_this_paidBy ++ (cJ_ dT (a_this 9) 128 g_this_toPay ++ (cI_ dT (a_this 10) 7 g_this_plan ++ (cJ_ dT (a_this 3) 353 g_this_trial)))))) H := hP
            have hD : va_D A (cM a_this g_this ++ (cJ_ dT (a_this 7) 128 g_this_chosenBy ++ (cJ_ dT (a_this 8) 128 g_this_paidBy ++ (cJ_ dT (a_this 9) 128 g_this_toPay ++ (cI_ dT (a_this 10) 7 g_this_plan ++ (cJ_ dT (a_this 3) 353 g_this_trial)))))) := hD
            refine lv_iadd hx hb dX9_command_301 ?_
            obtain ⟨g37, h⟩ := chk h
            refine va_lald hx hb hK hP 5 1 rfl rfl (inb_in g37) dX9_command_302 ?_
            refine lv_iload hx hb dX9_command_303 (lv_at hl 4 rfl) ?_
            refine lv_i2l hx hb dX9_command_305 rfl ?_
            refine W.lcmp hx hb dX9_command_306 ?_
            refine lv_if_gt (tgt := 314) hx hb dX9_command_307 (by decide) (fun c38 => ?_) (fun c38 => ?_)
            · replace h := iteT c38 h
              refine lv_iconst (v := 0) hx hb dX9_command_314 (by decide) ?_
              have hP := hP.sub (ws' := (cM a_this g_this ++ (cJ_ dT (a_this 3) 353 g_this_trial ++ (cJ_ dT (a_this 7) 128 g_this_chosenBy ++ (cJ_ dT (a_this 8) 128 g_this_paidBy ++ (cJ_ dT (a_this 9) 128 g_this_toPay ++ (cI_ dT (a_this 10) 7 g_this_plan))))))) [0, 5, 1, 2, 3, 4] rfl
              have hD := hD.sub (ws' := (cM a_this g_this ++ (cJ_ dT (a_this 3) 353 g_this_trial ++ (cJ_ dT (a_this 7) 128 g_this_chosenBy ++ (cJ_ dT (a_this 8) 128 g_this_paidBy ++ (cJ_ dT (a_this 9) 128 g_this_toPay ++ (cI_ dT (a_this 10) 7 g_this_plan))))))) [0, 5, 1, 2, 3, 4] (by decide) rfl
              exact rt_z hx hb hr hlk hK hS ((g_this, g_this_trial, g_this_chosenBy, g_this_paidBy, g_this_toPay, g_this_plan) : TM × (Nat → Int64) × (Nat → Int64) × (Nat → Int64) × (Nat → Int64) × (Nat → Int32)) (ret2 h) (by decide) hP hD dX9_command_315
            · replace h := iteF c38 h
              refine lv_iconst (v := 1) hx hb dX9_command_310 (by decide) ?_
              refine lv_goto (tgt := 315) hx hb dX9_command_311 (by decide) ?_
              have hP := hP.sub (ws' := (cM a_this g_this ++ (cJ_ dT (a_this 3) 353 g_this_trial ++ (cJ_ dT (a_this 7) 128 g_this_chosenBy ++ (cJ_ dT (a_this 8) 128 g_this_paidBy ++ (cJ_ dT (a_this 9) 128 g_this_toPay ++ (cI_ dT (a_this 10) 7 g_this_plan))))))) [0, 5, 1, 2, 3, 4] rfl
              have hD := hD.sub (ws' := (cM a_this g_this ++ (cJ_ dT (a_this 3) 353 g_this_trial ++ (cJ_ dT (a_this 7) 128 g_this_chosenBy ++ (cJ_ dT (a_this 8) 128 g_this_paidBy ++ (cJ_ dT (a_this 9) 128 g_this_toPay ++ (cI_ dT (a_this 10) 7 g_this_plan))))))) [0, 5, 1, 2, 3, 4] (by decide) rfl
              exact rt_z hx hb hr hlk hK hS ((g_this, g_this_trial, g_this_chosenBy, g_this_paidBy, g_this_toPay, g_this_plan) : TM × (Nat → Int64) × (Nat → Int64) × (Nat → Int64) × (Nat → Int64) × (Nat → Int32)) (ret2 h) (by decide) hP hD dX9_command_315
  replace h := iteF c1_7 h
  by_cases c1_8 : v1 = (8 : Int32)
  · replace h := iteT c1_8 h
    refine lv_tableIn (off := (315)) (tgt := 316) hx hb dX9_command_1 (by rw [c1_8]; decide) (by rw [c1_8]; decide) (by rw [c1_8]; rfl) (by decide) ?_
    refine lv_iload_n hx hb dX9_command_316 rfl (lv_at hl 2 rfl) ?_
    refine lv_iload_n hx hb dX9_command_317 rfl (lv_at hl 3 rfl) ?_
    refine lv_iadd hx hb dX9_command_318 ?_
    refine lv_if_ne (tgt := 348) hx hb dX9_command_319 (by decide) (fun c39 => ?_) (fun c39 => ?_)
    · replace h := iteF c39 h
      refine lv_iconst (v := 0) hx hb dX9_command_348 (by decide) ?_
      exact rt_z hx hb hr hlk hK hS ((g_this, g_this_trial, g_this_chosenBy, g_this_paidBy, g_this_toPay, g_this_plan) : TM × (Nat → Int64) × (Nat → Int64) × (Nat → Int64) × (Nat → Int64) × (Nat → Int32)) (ret2 h) (by decide) hP hD dX9_command_349
    · replace h := iteT c39 h
      refine lv_iload hx hb dX9_command_322 (lv_at hl 4 rfl) ?_
      refine lv_bipush (v := 100) hx hb dX9_command_324 (by decide) ?_
      refine lv_icmp_ge (tgt := 348) hx hb dX9_command_326 (by decide) (fun c40 => ?_) (fun c40 => ?_)
      · replace h := iteT c40 h
        refine lv_iconst (v := 0) hx hb dX9_command_348 (by decide) ?_
        exact rt_z hx hb hr hlk hK hS ((g_this, g_this_trial, g_this_chosenBy, g_this_paidBy, g_this_toPay, g_this_plan) : TM × (Nat → Int64) × (Nat → Int64) × (Nat → Int64) × (Nat → Int64) × (Nat → Int32)) (ret2 h) (by decide) hP hD dX9_command_349
      · replace h := iteF c40 h
        refine lv_aload_n hx hb dX9_command_329 rfl (lv_at hl 0 rfl) ?_
        refine gf_X9_17 (v := .ref (a_this 3)) hx hb hqs hown hK hP 0 rfl rfl dX9_command_330 ?_
        refine lv_sipush (v := 307) hx hb dX9_command_333 (by decide) ?_
        obtain ⟨g41, h⟩ := chk h
        refine va_lald hx hb hK hP 1 1 rfl rfl (inb_in g41) dX9_command_336 ?_
        refine lv_iload hx hb dX9_command_337 (lv_at hl 4 rfl) ?_
        refine lv_i2l hx hb dX9_command_339 rfl ?_
        refine W.lcmp hx hb dX9_command_340 ?_
        refine lv_if_lt (tgt := 348) hx hb dX9_command_341 (by decide) (fun c42 => ?_) (fun c42 => ?_)
        · replace h := iteT c42 h
          refine lv_iconst (v := 0) hx hb dX9_command_348 (by decide) ?_
          exact rt_z hx hb hr hlk hK hS ((g_this, g_this_trial, g_this_chosenBy, g_this_paidBy, g_this_toPay, g_this_plan) : TM × (Nat → Int64) × (Nat → Int64) × (Nat → Int64) × (Nat → Int64) × (Nat → Int32)) (ret2 h) (by decide) hP hD dX9_command_349
        · replace h := iteF c42 h
          refine lv_iconst (v := 1) hx hb dX9_command_344 (by decide) ?_
          refine lv_goto (tgt := 349) hx hb dX9_command_345 (by decide) ?_
          exact rt_z hx hb hr hlk hK hS ((g_this, g_this_trial, g_this_chosenBy, g_this_paidBy, g_this_toPay, g_this_plan) : TM × (Nat → Int64) × (Nat → Int64) × (Nat → Int64) × (Nat → Int64) × (Nat → Int32)) (ret2 h) (by decide) hP hD dX9_command_349
  replace h := iteF c1_8 h
  by_cases c1_9 : v1 = (9 : Int32)
  · replace h := iteT c1_9 h
    refine lv_tableIn (off := (349)) (tgt := 350) hx hb dX9_command_1 (by rw [c1_9]; decide) (by rw [c1_9]; decide) (by rw [c1_9]; rfl) (by decide) ?_
    refine lv_iload_n hx hb dX9_command_350 rfl (lv_at hl 2 rfl) ?_
    refine lv_iload_n hx hb dX9_command_351 rfl (lv_at hl 3 rfl) ?_
    refine lv_iadd hx hb dX9_command_352 ?_
    refine lv_if_ne (tgt := 388) hx hb dX9_command_353 (by decide) (fun c43 => ?_) (fun c43 => ?_)
    · replace h := iteF c43 h
      refine lv_iconst (v := 0) hx hb dX9_command_388 (by decide) ?_
      exact rt_z hx hb hr hlk hK hS ((g_this, g_this_trial, g_this_chosenBy, g_this_paidBy, g_this_toPay, g_this_plan) : TM × (Nat → Int64) × (Nat → Int64) × (Nat → Int64) × (Nat → Int64) × (Nat → Int32)) (ret2 h) (by decide) hP hD dX9_command_389
    · replace h := iteT c43 h
      refine lv_aload_n hx hb dX9_command_356 rfl (lv_at hl 0 rfl) ?_
      refine gf_X9_17 (v := .ref (a_this 3)) hx hb hqs hown hK hP 0 rfl rfl dX9_command_357 ?_
      refine lv_iload hx hb dX9_command_360 (lv_at hl 4 rfl) ?_
      obtain ⟨o44, e44, h⟩ := obind h
      have hPc := hP.sub (ws' := (cJ_ dT (a_this 3) 353 g_this_trial)) [1] rfl
      have hDc := hD.sub (ws' := (cJ_ dT (a_this 3) 353 g_this_trial)) [1] (by decide) rfl
      have hFc := va_free (wc := (cJ_ dT (a_this 3) 353 g_this_trial)) hD hS hA [1] rfl
      refine cl_i (wr := (cM a_this g_this ++ (cJ_ dT (a_this 7) 128 g_this_chosenBy ++ (cJ_ dT (a_this 8) 128 g_this_paidBy ++ (cJ_ dT (a_this 9) 128 g_this_toPay ++ (cI_ dT (a_this 10) 7 g_this_plan)))))) (va_runS (As := [.ref (a_this 3), .int v4]) (rest := []) ⟨hx, hb, hml, hown, hts⟩ (c_X9_isSet l hlt D dT (a_this 3) 353 g_this_trial v4 o44 e44 _) (va_cwS 2 hts (TB_S w_1266 w_1267 w_59 w_1268) rfl rfl rfl nd_X9_isSet ⟨Nat.le_of_ble_eq_true rfl, Nat.le_of_ble_eq_true rfl⟩) (cPre.S hPc hDc hK hE hS hFc) rfl rfl hl.1 rfl (lv_room (Nat.le_of_ble_eq_true rfl)) dX9_command_362 ⟨Nat.zero_le _, Nat.zero_le _⟩) hP hD hS hFc [1] [0, 2, 3, 4, 5] rfl rfl (by decide) (by decide) (fun r44 u44 H locs hw hP hD hS => ?_)
      obtain ⟨rfl, rfl⟩ := hw
      have hP : va_P D vwCl (cM a_this g_this ++ (cJ_ dT (a_this 7) 128 g_this_chosenBy ++ (cJ_ dT (a_this 8) 128 g_this_paidBy ++ (cJ_ dT (a_this 9) 128 g_this_toPay ++ (cI_ dT (a_this 10) 7 g_this_plan ++ (cJ_ dT (a_this 3) 353 g_this_trial)))))) H := hP
      have hD : va_D A (cM a_this g_this ++ (cJ_ dT (a_this 7) 128 g_this_chosenBy ++ (cJ_ dT (a_this 8) 128 g_this_paidBy ++ (cJ_ dT (a_this 9) 128 g_this_toPay ++ (cI_ dT (a_this 10) 7 g_this_plan ++ (cJ_ dT (a_this 3) 353 g_this_trial)))))) := hD
      refine lv_if_eq (tgt := 388) hx hb dX9_command_365 (by decide) (fun c45 => ?_) (fun c45 => ?_)
      · replace h := iteT c45 h
        refine lv_iconst (v := 0) hx hb dX9_command_388 (by decide) ?_
        have hP := hP.sub (ws' := (cM a_this g_this ++ (cJ_ dT (a_this 3) 353 g_this_trial ++ (cJ_ dT (a_this 7) 128 g_this_chosenBy ++ (cJ_ dT (a_this 8) 128 g_this_paidBy ++ (cJ_ dT (a_this 9) 128 g_this_toPay ++ (cI_ dT (a_this 10) 7 g_this_plan))))))) [0, 5, 1, 2, 3, 4] rfl
        have hD := hD.sub (ws' := (cM a_this g_this ++ (cJ_ dT (a_this 3) 353 g_this_trial ++ (cJ_ dT (a_this 7) 128 g_this_chosenBy ++ (cJ_ dT (a_this 8) 128 g_this_paidBy ++ (cJ_ dT (a_this 9) 128 g_this_toPay ++ (cI_ dT (a_this 10) 7 g_this_plan))))))) [0, 5, 1, 2, 3, 4] (by decide) rfl
        exact rt_z hx hb hr hlk hK hS ((g_this, g_this_trial, g_this_chosenBy, g_this_paidBy, g_this_toPay, g_this_plan) : TM × (Nat → Int64) × (Nat → Int64) × (Nat → Int64) × (Nat → Int64) × (Nat → Int32)) (ret2 h) (by decide) hP hD dX9_command_389
      · replace h := iteF c45 h
        refine lv_aload_n hx hb dX9_command_368 rfl (lv_at hl 0 rfl) ?_
        refine lv_aload_n hx hb dX9_command_369 rfl (lv_at hl 0 rfl) ?_
        refine gf_X9_17 (v := .ref (a_this 3)) hx hb hqs hown hK hP 0 rfl rfl dX9_command_370 ?_
        refine lv_iload hx hb dX9_command_373 (lv_at hl 4 rfl) ?_
        refine lv_iconst (v := 2) hx hb dX9_command_375 (by decide) ?_
        obtain ⟨o46, e46, h⟩ := obind h
        have hPc := hP
        have hDc := hD
        have hFc := vfall hD hS hA
        refine cl_lA (va_runV (As := [.ref (a_this 3), .int v4, .int (2 : Int32)]) (rest := []) ⟨hx, hb, hml, hown, hts⟩ (c_X9_costOn l hlt D dT a_this (a_this 3) 353 g_this g_this_chosenBy g_this_paidBy g_this_toPay g_this_plan g_this_trial v4 (2 : Int32) o46 e46 _) (cwV 3 hts (TB_V w_1273 w_1275 w_41 w_59 w_1276) rfl rfl rfl ⟨rfl, nd_X9_costOn⟩ ⟨Nat.le_of_ble_eq_true rfl, Nat.le_of_ble_eq_true rfl⟩) (cPre.V hPc hDc hK hE hS hFc (va_recv hK hP (ci := 8) (q0 := 0) rfl rfl)) rfl rfl hl.1 rfl (lv_room (Nat.le_of_ble_eq_true rfl)) dX9_command_376 ⟨Nat.zero_le _, Nat.zero_le _⟩) hS hFc (fun r46 u46 H locs hw hP hD hS => ?_)
        obtain ⟨rfl, rfl⟩ := hw
        have hP : va_P D vwCl (cM a_this o46.2.1 ++ (cJ_ dT (a_this 7) 128 o46.2.2.1 ++ (cJ_ dT (a_this 8) 128 o46.2.2.2.1 ++ (cJ_ dT (a_this 9) 128 o46.2.2.2.2.1 ++ (cI_ dT (a_this 10) 7 o46.2.2.2.2.2 ++ (cJ_ dT (a_this 3) 353 g_this_trial)))))) H := hP
        have hD : va_D A (cM a_this o46.2.1 ++ (cJ_ dT (a_this 7) 128 o46.2.2.1 ++ (cJ_ dT (a_this 8) 128 o46.2.2.2.1 ++ (cJ_ dT (a_this 9) 128 o46.2.2.2.2.1 ++ (cI_ dT (a_this 10) 7 o46.2.2.2.2.2 ++ (cJ_ dT (a_this 3) 353 g_this_trial)))))) := hD
        refine lv_lconst (v := 0) hx hb dX9_command_379 (by decide) ?_
        refine W.lcmp hx hb dX9_command_380 ?_
        refine lv_if_ne (tgt := 388) hx hb dX9_command_381 (by decide) (fun c47 => ?_) (fun c47 => ?_)
        · replace h := iteF c47 h
          refine lv_iconst (v := 0) hx hb dX9_command_388 (by decide) ?_
          have hP := hP.sub (ws' := (cM a_this o46.2.1 ++ (cJ_ dT (a_this 3) 353 g_this_trial ++ (cJ_ dT (a_this 7) 128 o46.2.2.1 ++ (cJ_ dT (a_this 8) 128 o46.2.2.2.1 ++ (cJ_ dT (a_this 9) 128 o46.2.2.2.2.1 ++ (cI_ dT (a_this 10) 7 o46.2.2.2.2.2))))))) [0, 5, 1, 2, 3, 4] rfl
          have hD := hD.sub (ws' := (cM a_this o46.2.1 ++ (cJ_ dT (a_this 3) 353 g_this_trial ++ (cJ_ dT (a_this 7) 128 o46.2.2.1 ++ (cJ_ dT (a_this 8) 128 o46.2.2.2.1 ++ (cJ_ dT (a_this 9) 128 o46.2.2.2.2.1 ++ (cI_ dT (a_this 10) 7 o46.2.2.2.2.2))))))) [0, 5, 1, 2, 3, 4] (by decide) rfl
          exact rt_z hx hb hr hlk hK hS ((o46.2.1, g_this_trial, o46.2.2.1, o46.2.2.2.1, o46.2.2.2.2.1, o46.2.2.2.2.2) : TM × (Nat → Int64) × (Nat → Int64) × (Nat → Int64) × (Nat → Int64) × (Nat → Int32)) (ret2 h) (by decide) hP hD dX9_command_389
        · replace h := iteT c47 h
          refine lv_iconst (v := 1) hx hb dX9_command_384 (by decide) ?_
          refine lv_goto (tgt := 389) hx hb dX9_command_385 (by decide) ?_
          have hP := hP.sub (ws' := (cM a_this o46.2.1 ++ (cJ_ dT (a_this 3) 353 g_this_trial ++ (cJ_ dT (a_this 7) 128 o46.2.2.1 ++ (cJ_ dT (a_this 8) 128 o46.2.2.2.1 ++ (cJ_ dT (a_this 9) 128 o46.2.2.2.2.1 ++ (cI_ dT (a_this 10) 7 o46.2.2.2.2.2))))))) [0, 5, 1, 2, 3, 4] rfl
          have hD := hD.sub (ws' := (cM a_this o46.2.1 ++ (cJ_ dT (a_this 3) 353 g_this_trial ++ (cJ_ dT (a_this 7) 128 o46.2.2.1 ++ (cJ_ dT (a_this 8) 128 o46.2.2.2.1 ++ (cJ_ dT (a_this 9) 128 o46.2.2.2.2.1 ++ (cI_ dT (a_this 10) 7 o46.2.2.2.2.2))))))) [0, 5, 1, 2, 3, 4] (by decide) rfl
          exact rt_z hx hb hr hlk hK hS ((o46.2.1, g_this_trial, o46.2.2.1, o46.2.2.2.1, o46.2.2.2.2.1, o46.2.2.2.2.2) : TM × (Nat → Int64) × (Nat → Int64) × (Nat → Int64) × (Nat → Int64) × (Nat → Int32)) (ret2 h) (by decide) hP hD dX9_command_389
  replace h := iteF c1_9 h
  have e1_1 : ¬ Int32.toInt v1 = (1 : Int) := fun q => c1_1 (Int32.toInt_inj.mp (q.trans (by decide)))
  have e1_2 : ¬ Int32.toInt v1 = (2 : Int) := fun q => c1_2 (Int32.toInt_inj.mp (q.trans (by decide)))
  have e1_3 : ¬ Int32.toInt v1 = (3 : Int) := fun q => c1_3 (Int32.toInt_inj.mp (q.trans (by decide)))
  have e1_4 : ¬ Int32.toInt v1 = (4 : Int) := fun q => c1_4 (Int32.toInt_inj.mp (q.trans (by decide)))
  have e1_5 : ¬ Int32.toInt v1 = (5 : Int) := fun q => c1_5 (Int32.toInt_inj.mp (q.trans (by decide)))
  have e1_6 : ¬ Int32.toInt v1 = (6 : Int) := fun q => c1_6 (Int32.toInt_inj.mp (q.trans (by decide)))
  have e1_7 : ¬ Int32.toInt v1 = (7 : Int) := fun q => c1_7 (Int32.toInt_inj.mp (q.trans (by decide)))
  have e1_8 : ¬ Int32.toInt v1 = (8 : Int) := fun q => c1_8 (Int32.toInt_inj.mp (q.trans (by decide)))
  have e1_9 : ¬ Int32.toInt v1 = (9 : Int) := fun q => c1_9 (Int32.toInt_inj.mp (q.trans (by decide)))
  refine lv_tableOut (tgt := 390) hx hb dX9_command_1 (by omega) (by decide) ?_
  refine lv_iconst (v := 0) hx hb dX9_command_390 (by decide) ?_
  exact rt_z hx hb hr hlk hK hS ((g_this, g_this_trial, g_this_chosenBy, g_this_paidBy, g_this_toPay, g_this_plan) : TM × (Nat → Int64) × (Nat → Int64) × (Nat → Int64) × (Nat → Int64) × (Nat → Int32)) (ret2 h) (by decide) hP hD dX9_command_391

def f_X9_runScript_L6 (g_this : TM) (g_this_now : Nat → Int64) (g_this_trial : Nat → Int64) (g_this_chosenBy : Nat → Int64) (g_this_paidBy : Nat → Int64) (g_this_toPay : Nat → Int64) (g_this_plan : Nat → Int32) (x1 : Int32) (x2 : Int64) (k32 : Int64 → Option (Int32 × (TM × (Nat → Int64) × (Nat → Int64) × (Nat → Int64) × (Nat → Int64) × (Nat → Int32)))) : Nat → Int64 → Int32 → Option (Int32 × (TM × (Nat → Int64) × (Nat → Int64) × (Nat → Int64) × (Nat → Int64) × (Nat → Int32)))
  | 0, _, _ => none
  | n + 1, x4, x6 =>
    (if x1 ≤ x6 then (k32 x4) else (if (3 : Int32) ≤ x6 then (k32 x4) else (f_X9_runScript_L6 g_this g_this_now g_this_trial g_this_chosenBy g_this_paidBy g_this_toPay g_this_plan x1 x2 k32 n (x4 * (1000000 : Int64)) (x6 + (1 : Int32)))))
def f_X9_runScript_L86 (g_this_now : Nat → Int64) (x1 : Int32) (x2 : Int64)  : Nat → Int64 → Int32 → TM → (Nat → Int64) → (Nat → Int64) → (Nat → Int64) → (Nat → Int64) → (Nat → Int32) → Option (Int32 × (TM × (Nat → Int64) × (Nat → Int64) × (Nat → Int64) × (Nat → Int64) × (Nat → Int32)))
  | 0, _, _, _, _, _, _, _, _ => none
  | n + 1, x4, x6, g_this, g_this_trial, g_this_chosenBy, g_this_paidBy, g_this_toPay, g_this_plan =>
    (if x1 ≤ x6 then (some ((-1 : Int32), (g_this, g_this_trial, g_this_chosenBy, g_this_paidBy, g_this_toPay, g_this_plan))) else (if (x4 / (1000000 : Int64)) = 0 then none else ((f_X9_command g_this g_this_trial g_this_chosenBy g_this_paidBy g_this_toPay g_this_plan ((Int64.toInt32 ((x2 / (x4 / (1000000 : Int64))) - (x2 / (x4 / (1000000 : Int64))) / (1000000 : Int64) * (1000000 : Int64))) / (100000 : Int32)) (((Int64.toInt32 ((x2 / (x4 / (1000000 : Int64))) - (x2 / (x4 / (1000000 : Int64))) / (1000000 : Int64) * (1000000 : Int64))) / (10000 : Int32)) - ((Int64.toInt32 ((x2 / (x4 / (1000000 : Int64))) - (x2 / (x4 / (1000000 : Int64))) / (1000000 : Int64) * (1000000 : Int64))) / (10000 : Int32)) / (10 : Int32) * (10 : Int32)) (((Int64.toInt32 ((x2 / (x4 / (1000000 : Int64))) - (x2 / (x4 / (1000000 : Int64))) / (1000000 : Int64) * (1000000 : Int64))) / (1000 : Int32)) - ((Int64.toInt32 ((x2 / (x4 / (1000000 : Int64))) - (x2 / (x4 / (1000000 : Int64))) / (1000000 : Int64) * (1000000 : Int64))) / (1000 : Int32)) / (10 : Int32) * (10 : Int32)) ((Int64.toInt32 ((x2 / (x4 / (1000000 : Int64))) - (x2 / (x4 / (1000000 : Int64))) / (1000000 : Int64) * (1000000 : Int64))) - (Int64.toInt32 ((x2 / (x4 / (1000000 : Int64))) - (x2 / (x4 / (1000000 : Int64))) / (1000000 : Int64) * (1000000 : Int64))) / (1000 : Int32) * (1000 : Int32))).bind fun o11 => (if o11.1 = (0 : Int32) then (some (x6, (o11.2.1, o11.2.2.1, o11.2.2.2.1, o11.2.2.2.2.1, o11.2.2.2.2.2.1, o11.2.2.2.2.2.2))) else (f_X9_runScript_L86 g_this_now x1 x2 n (x4 / (1000000 : Int64)) (x6 + (1 : Int32)) o11.2.1 o11.2.2.1 o11.2.2.2.1 o11.2.2.2.2.1 o11.2.2.2.2.2.1 o11.2.2.2.2.2.2)))))
def f_X9_runScript_J62 (g_this_now : Nat → Int64)  (x1 : Int32) (x2 : Int64) (x4 : Int64) (s0 : Int32) (g_this : TM) (g_this_trial : Nat → Int64) (g_this_chosenBy : Nat → Int64) (g_this_paidBy : Nat → Int64) (g_this_toPay : Nat → Int64) (g_this_plan : Nat → Int32) : Option (Int32 × (TM × (Nat → Int64) × (Nat → Int64) × (Nat → Int64) × (Nat → Int64) × (Nat → Int32))) :=
    ((f_X9_refused g_this s0).bind fun o6 => (if o6.1 = (0 : Int32) then ((f_X9_copyWorld 353 353 g_this_now g_this_trial (0 : Int32) (0 : Int32)).bind fun o8 => (f_X9_runScript_L86 g_this_now x1 x2 FUEL x4 (0 : Int32) o6.2 o8.2 g_this_chosenBy g_this_paidBy g_this_toPay g_this_plan)) else (some ((0 : Int32), (o6.2, g_this_trial, g_this_chosenBy, g_this_paidBy, g_this_toPay, g_this_plan)))))
def f_X9_runScript_J61 (g_this_now : Nat → Int64)  (x1 : Int32) (x2 : Int64) (x4 : Int64) (g_this : TM) (g_this_trial : Nat → Int64) (g_this_chosenBy : Nat → Int64) (g_this_paidBy : Nat → Int64) (g_this_toPay : Nat → Int64) (g_this_plan : Nat → Int32) : Option (Int32 × (TM × (Nat → Int64) × (Nat → Int64) × (Nat → Int64) × (Nat → Int64) × (Nat → Int32))) :=
    (f_X9_runScript_J62 g_this_now x1 x2 x4 (1 : Int32) g_this g_this_trial g_this_chosenBy g_this_paidBy g_this_toPay g_this_plan)
def f_X9_runScript_J32 (g_this_now : Nat → Int64)  (x1 : Int32) (x2 : Int64) (x4 : Int64) (g_this : TM) (g_this_trial : Nat → Int64) (g_this_chosenBy : Nat → Int64) (g_this_paidBy : Nat → Int64) (g_this_toPay : Nat → Int64) (g_this_plan : Nat → Int32) : Option (Int32 × (TM × (Nat → Int64) × (Nat → Int64) × (Nat → Int64) × (Nat → Int64) × (Nat → Int32))) :=
    ((f_X9_in (Int32.toInt64 x1) (1 : Int64) (3 : Int64)).bind fun o4 => (if o4.1 = (0 : Int32) then (f_X9_runScript_J61 g_this_now x1 x2 x4 g_this g_this_trial g_this_chosenBy g_this_paidBy g_this_toPay g_this_plan) else ((f_X9_in x2 (0 : Int64) (x4 - (1 : Int64))).bind fun o13 => (if o13.1 = (0 : Int32) then (f_X9_runScript_J61 g_this_now x1 x2 x4 g_this g_this_trial g_this_chosenBy g_this_paidBy g_this_toPay g_this_plan) else (f_X9_runScript_J62 g_this_now x1 x2 x4 (0 : Int32) g_this g_this_trial g_this_chosenBy g_this_paidBy g_this_toPay g_this_plan)))))
def f_X9_runScript (g_this : TM) (g_this_now : Nat → Int64) (g_this_trial : Nat → Int64) (g_this_chosenBy : Nat → Int64) (g_this_paidBy : Nat → Int64) (g_this_toPay : Nat → Int64) (g_this_plan : Nat → Int32) (v1 : Int32) (v2 : Int64) : Option (Int32 × (TM × (Nat → Int64) × (Nat → Int64) × (Nat → Int64) × (Nat → Int64) × (Nat → Int32))) :=
  (f_X9_runScript_L6 g_this g_this_now g_this_trial g_this_chosenBy g_this_paidBy g_this_toPay g_this_plan v1 v2 (fun (y3x4 : Int64) => (f_X9_runScript_J32 g_this_now v1 v2 y3x4 g_this g_this_trial g_this_chosenBy g_this_paidBy g_this_toPay g_this_plan)) FUEL (1 : Int64) (0 : Int32))
set_option maxHeartbeats 8000000 in
set_option maxRecDepth 100000 in
theorem c_X9_runScript (l : Launch) (hlt : l.stackTraces = false) (D : va_G) (dT : Nat → ClassId) (a_this : Nat → Nat) (g_this : TM) (g_this_now : Nat → Int64) (g_this_trial : Nat → Int64) (g_this_chosenBy : Nat → Int64) (g_this_paidBy : Nat → Int64) (g_this_toPay : Nat → Int64) (g_this_plan : Nat → Int32) (v1 : Int32) (v2 : Int64) (o : (Int32 × (TM × (Nat → Int64) × (Nat → Int64) × (Nat → Int64) × (Nat → Int64) × (Nat → Int32)))) (h : f_X9_runScript g_this g_this_now g_this_trial g_this_chosenBy g_this_paidBy g_this_toPay g_this_plan v1 v2 = some o) (sz : Nat) : Met l yX9_runScript (WSm yX9_runScript cX9_runScript 8 (some .int)) { frames := 8, cells := 0, slots := 0, locals := 201 } (va_Pc [.ref (a_this 0), .int v1, .long v2] (cPre D dT (cM a_this g_this ++ (cJ_ dT (a_this 2) 353 g_this_now ++ (cJ_ dT (a_this 3) 353 g_this_trial ++ (cJ_ dT (a_this 7) 128 g_this_chosenBy ++ (cJ_ dT (a_this 8) 128 g_this_paidBy ++ (cJ_ dT (a_this 9) 128 g_this_toPay ++ (cI_ dT (a_this 10) 7 g_this_plan))))))) sz)) (va_Qi (fun (r : Int32) (u : TM × (Nat → Int64) × (Nat → Int64) × (Nat → Int64) × (Nat → Int64) × (Nat → Int32)) => r = o.1 ∧ u = o.2) (fun u t => cAt D dT (va_A (cM a_this g_this ++ (cJ_ dT (a_this 2) 353 g_this_now ++ (cJ_ dT (a_this 3) 353 g_this_trial ++ (cJ_ dT (a_this 7) 128 g_this_chosenBy ++ (cJ_ dT (a_this 8) 128 g_this_paidBy ++ (cJ_ dT (a_this 9) 128 g_this_toPay ++ (cI_ dT (a_this 10) 7 g_this_plan))))))) sz) (cM a_this (u.1) ++ (cJ_ dT (a_this 2) 353 g_this_now ++ (cJ_ dT (a_this 3) 353 (u.2.1) ++ (cJ_ dT (a_this 7) 128 (u.2.2.1) ++ (cJ_ dT (a_this 8) 128 (u.2.2.2.1) ++ (cJ_ dT (a_this 9) 128 (u.2.2.2.2.1) ++ (cI_ dT (a_this 10) 7 (u.2.2.2.2.2)))))))) t) (va_A (cM a_this g_this ++ (cJ_ dT (a_this 2) 353 g_this_now ++ (cJ_ dT (a_this 3) 353 g_this_trial ++ (cJ_ dT (a_this 7) 128 g_this_chosenBy ++ (cJ_ dT (a_this 8) 128 g_this_paidBy ++ (cJ_ dT (a_this 9) 128 g_this_toPay ++ (cI_ dT (a_this 10) 7 g_this_plan))))))) sz)) 0 0 (va_A (cM a_this g_this ++ (cJ_ dT (a_this 2) 353 g_this_now ++ (cJ_ dT (a_this 3) 353 g_this_trial ++ (cJ_ dT (a_this 7) 128 g_this_chosenBy ++ (cJ_ dT (a_this 8) 128 g_this_paidBy ++ (cJ_ dT (a_this 9) 128 g_this_toPay ++ (cI_ dT (a_this 10) 7 g_this_plan))))))) sz) := by
  refine mStart (WS := (cM a_this g_this ++ (cJ_ dT (a_this 2) 353 g_this_now ++ (cJ_ dT (a_this 3) 353 g_this_trial ++ (cJ_ dT (a_this 7) 128 g_this_chosenBy ++ (cJ_ dT (a_this 8) 128 g_this_paidBy ++ (cJ_ dT (a_this 9) 128 g_this_toPay ++ (cI_ dT (a_this 10) 7 g_this_plan)))))))) (Qc := fun A => va_Qi (fun (r : Int32) (u : TM × (Nat → Int64) × (Nat → Int64) × (Nat → Int64) × (Nat → Int64) × (Nat → Int32)) => r = o.1 ∧ u = o.2) (fun u t => cAt D dT A (cM a_this (u.1) ++ (cJ_ dT (a_this 2) 353 g_this_now ++ (cJ_ dT (a_this 3) 353 (u.2.1) ++ (cJ_ dT (a_this 7) 128 (u.2.2.1) ++ (cJ_ dT (a_this 8) 128 (u.2.2.2.1) ++ (cJ_ dT (a_this 9) 128 (u.2.2.2.2.1) ++ (cI_ dT (a_this 10) 7 (u.2.2.2.2.2)))))))) t) A) RX9 rfl (by decide) (Nat.le_of_ble_eq_true rfl) ?_ sz
  intro p e s m below meth c A ls hx hb hml hr hlk hnm hts hqs hown hE hA hK hP hD hS hl
  have hl : lv_has ls 8 [(0, .ref (a_this 0)), (1, .int v1), (2, .long v2)] := hl
  have L_f_X9_runScript_L6 : ∀ (g_this : TM) (g_this_now : Nat → Int64) (g_this_trial : Nat → Int64) (g_this_chosenBy : Nat → Int64) (g_this_paidBy : Nat → Int64) (g_this_toPay : Nat → Int64) (g_this_plan : Nat → Int32) (x1 : Int32) (x2 : Int64) (k32 : Int64 → Option (Int32 × (TM × (Nat → Int64) × (Nat → Int64) × (Nat → Int64) × (Nat → Int64) × (Nat → Int32)))) (hk32 : ∀ (x4 : Int64) (H : Heap) (locs : List Loc) (ls : Array Slot), k32 x4 = some o → va_P D vwCl (cM a_this g_this ++ (cJ_ dT (a_this 2) 353 g_this_now ++ (cJ_ dT (a_this 3) 353 g_this_trial ++ (cJ_ dT (a_this 7) 128 g_this_chosenBy ++ (cJ_ dT (a_this 8) 128 g_this_paidBy ++ (cJ_ dT (a_this 9) 128 g_this_toPay ++ (cI_ dT (a_this 10) 7 g_this_plan))))))) H → va_D A (cM a_this g_this ++ (cJ_ dT (a_this 2) 353 g_this_now ++ (cJ_ dT (a_this 3) 353 g_this_trial ++ (cJ_ dT (a_this 7) 128 g_this_chosenBy ++ (cJ_ dT (a_this 8) 128 g_this_paidBy ++ (cJ_ dT (a_this 9) 128 g_this_toPay ++ (cI_ dT (a_this 10) 7 g_this_plan))))))) → va_S A s.heap H locs → lv_has ls 8 [(0, .ref (a_this 0)), (1, .int x1), (2, .long x2), (4, .long x4)] → W p l e (headSpec (WSm yX9_runScript cX9_runScript 8 (some .int)) { frames := 8, cells := 0, slots := 0, locals := 201 }).room s m [.ref (a_this 0), .int v1, .long v2].toArray below meth c H locs 0 0 (MQ below (va_Qi (fun (r : Int32) (u : TM × (Nat → Int64) × (Nat → Int64) × (Nat → Int64) × (Nat → Int64) × (Nat → Int32)) => r = o.1 ∧ u = o.2) (fun u t => cAt D dT A (cM a_this (u.1) ++ (cJ_ dT (a_this 2) 353 g_this_now ++ (cJ_ dT (a_this 3) 353 (u.2.1) ++ (cJ_ dT (a_this 7) 128 (u.2.2.1) ++ (cJ_ dT (a_this 8) 128 (u.2.2.2.1) ++ (cJ_ dT (a_this 9) 128 (u.2.2.2.2.1) ++ (cI_ dT (a_this 10) 7 (u.2.2.2.2.2)))))))) t) A) [.ref (a_this 0), .int v1, .long v2].toArray s 0 0 A) (F0 m 32 ls [])) (n : Nat), ∀ (x4 : Int64) (x6 : Int32) (H : Heap) (locs : List Loc) (ls : Array Slot), f_X9_runScript_L6 g_this g_this_now g_this_trial g_this_chosenBy g_this_paidBy g_this_toPay g_this_plan x1 x2 k32 n x4 x6 = some o → va_P D vwCl (cM a_this g_this ++ (cJ_ dT (a_this 2) 353 g_this_now ++ (cJ_ dT (a_this 3) 353 g_this_trial ++ (cJ_ dT (a_this 7) 128 g_this_chosenBy ++ (cJ_ dT (a_this 8) 128 g_this_paidBy ++ (cJ_ dT (a_this 9) 128 g_this_toPay ++ (cI_ dT (a_this 10) 7 g_this_plan))))))) H → va_D A (cM a_this g_this ++ (cJ_ dT (a_this 2) 353 g_this_now ++ (cJ_ dT (a_this 3) 353 g_this_trial ++ (cJ_ dT (a_this 7) 128 g_this_chosenBy ++ (cJ_ dT (a_this 8) 128 g_this_paidBy ++ (cJ_ dT (a_this 9) 128 g_this_toPay ++ (cI_ dT (a_this 10) 7 g_this_plan))))))) → va_S A s.heap H locs → lv_has ls 8 [(0, .ref (a_this 0)), (1, .int x1), (2, .long x2), (4, .long x4), (6, .int x6)] → W p l e (headSpec (WSm yX9_runScript cX9_runScript 8 (some .int)) { frames := 8, cells := 0, slots := 0, locals := 201 }).room s m [.ref (a_this 0), .int v1, .long v2].toArray below meth c H locs 0 0 (MQ below (va_Qi (fun (r : Int32) (u : TM × (Nat → Int64) × (Nat → Int64) × (Nat → Int64) × (Nat → Int64) × (Nat → Int32)) => r = o.1 ∧ u = o.2) (fun u t => cAt D dT A (cM a_this (u.1) ++ (cJ_ dT (a_this 2) 353 g_this_now ++ (cJ_ dT (a_this 3) 353 (u.2.1) ++ (cJ_ dT (a_this 7) 128 (u.2.2.1) ++ (cJ_ dT (a_this 8) 128 (u.2.2.2.1) ++ (cJ_ dT (a_this 9) 128 (u.2.2.2.2.1) ++ (cI_ dT (a_this 10) 7 (u.2.2.2.2.2)))))))) t) A) [.ref (a_this 0), .int v1, .long v2].toArray s 0 0 A) (F0 m 6 ls []) := by
    intro g_this g_this_now g_this_trial g_this_chosenBy g_this_paidBy g_this_toPay g_this_plan x1 x2 k32 hk32 n
    induction n with
    | zero => intro x4 x6 H locs ls h; exact nomatch h
    | succ n ih =>
      intro x4 x6 H locs ls h hP hD hS hl
      unfold f_X9_runScript_L6 at h
      refine lv_iload hx hb dX9_runScript_6 (lv_at hl 4 rfl) ?_
      refine lv_iload_n hx hb dX9_runScript_8 rfl (lv_at hl 1 rfl) ?_
      refine lv_icmp_ge (tgt := 32) hx hb dX9_runScript_9 (by decide) (fun c1 => ?_) (fun c1 => ?_)
      · replace h := iteT c1 h
        exact hk32 x4 _ _ _ h hP hD hS (lv_sub hl [0, 1, 2, 3] rfl)
      · replace h := iteF c1 h
        refine lv_iload hx hb dX9_runScript_12 (lv_at hl 4 rfl) ?_
        refine lv_iconst (v := 3) hx hb dX9_runScript_14 (by decide) ?_
        refine lv_icmp_ge (tgt := 32) hx hb dX9_runScript_15 (by decide) (fun c2 => ?_) (fun c2 => ?_)
        · replace h := iteT c2 h
          exact hk32 x4 _ _ _ h hP hD hS (lv_sub hl [0, 1, 2, 3] rfl)
        · replace h := iteF c2 h
          refine lv_lload hx hb dX9_runScript_18 (lv_at hl 3 rfl) ?_
          refine lv_ldc2 (v := 1000000) hx hb hown (hqs _ w_1369) dX9_runScript_20 ?_
          refine lv_lmul hx hb dX9_runScript_23 ?_
          refine lv_lstore (lv' := [(4, .long (x4 * (1000000 : Int64))), (0, .ref (a_this 0)), (1, .int x1), (2, .long x2), (6, .int x6)]) hx hb dX9_runScript_24 hl (by decide) rfl (fun ls hl => ?_)
          refine lv_iinc (v := (x6 + (1 : Int32))) (lv' := [(6, .int (x6 + (1 : Int32))), (4, .long (x4 * (1000000 : Int64))), (0, .ref (a_this 0)), (1, .int x1), (2, .long x2)]) hx hb dX9_runScript_26 hl (k := 4) rfl rfl (by decide) rfl (fun ls hl => ?_)
          refine lv_goto (tgt := 6) hx hb dX9_runScript_29 (by decide) ?_
          exact ih (x4 * (1000000 : Int64)) (x6 + (1 : Int32)) _ _ _ h hP hD hS (lv_sub hl [2, 3, 4, 1, 0] rfl)
  have L_f_X9_runScript_L86 : ∀ (g_this_now : Nat → Int64) (x1 : Int32) (x2 : Int64)   (n : Nat), ∀ (x4 : Int64) (x6 : Int32) (g_this : TM) (g_this_trial : Nat → Int64) (g_this_chosenBy : Nat → Int64) (g_this_paidBy : Nat → Int64) (g_this_toPay : Nat → Int64) (g_this_plan : Nat → Int32) (H : Heap) (locs : List Loc) (ls : Array Slot), f_X9_runScript_L86 g_this_now x1 x2  n x4 x6 g_this g_this_trial g_this_chosenBy g_this_paidBy g_this_toPay g_this_plan = some o → va_P D vwCl (cM a_this g_this ++ (cJ_ dT (a_this 2) 353 g_this_now ++ (cJ_ dT (a_this 3) 353 g_this_trial ++ (cJ_ dT (a_this 7) 128 g_this_chosenBy ++ (cJ_ dT (a_this 8) 128 g_this_paidBy ++ (cJ_ dT (a_this 9) 128 g_this_toPay ++ (cI_ dT (a_this 10) 7 g_this_plan))))))) H → va_D A (cM a_this g_this ++ (cJ_ dT (a_this 2) 353 g_this_now ++ (cJ_ dT (a_this 3) 353 g_this_trial ++ (cJ_ dT (a_this 7) 128 g_this_chosenBy ++ (cJ_ dT (a_this 8) 128 g_this_paidBy ++ (cJ_ dT (a_this 9) 128 g_this_toPay ++ (cI_ dT (a_this 10) 7 g_this_plan))))))) → va_S A s.heap H locs → lv_has ls 8 [(0, .ref (a_this 0)), (1, .int x1), (2, .long x2), (4, .long x4), (6, .int x6)] → W p l e (headSpec (WSm yX9_runScript cX9_runScript 8 (some .int)) { frames := 8, cells := 0, slots := 0, locals := 201 }).room s m [.ref (a_this 0), .int v1, .long v2].toArray below meth c H locs 0 0 (MQ below (va_Qi (fun (r : Int32) (u : TM × (Nat → Int64) × (Nat → Int64) × (Nat → Int64) × (Nat → Int64) × (Nat → Int32)) => r = o.1 ∧ u = o.2) (fun u t => cAt D dT A (cM a_this (u.1) ++ (cJ_ dT (a_this 2) 353 g_this_now ++ (cJ_ dT (a_this 3) 353 (u.2.1) ++ (cJ_ dT (a_this 7) 128 (u.2.2.1) ++ (cJ_ dT (a_this 8) 128 (u.2.2.2.1) ++ (cJ_ dT (a_this 9) 128 (u.2.2.2.2.1) ++ (cI_ dT (a_this 10) 7 (u.2.2.2.2.2)))))))) t) A) [.ref (a_this 0), .int v1, .long v2].toArray s 0 0 A) (F0 m 86 ls []) := by
    intro g_this_now x1 x2   n
    induction n with
    | zero => intro x4 x6 g_this g_this_trial g_this_chosenBy g_this_paidBy g_this_toPay g_this_plan H locs ls h; exact nomatch h
    | succ n ih =>
      intro x4 x6 g_this g_this_trial g_this_chosenBy g_this_paidBy g_this_toPay g_this_plan H locs ls h hP hD hS hl
      unfold f_X9_runScript_L86 at h
      refine lv_iload hx hb dX9_runScript_86 (lv_at hl 4 rfl) ?_
      refine lv_iload_n hx hb dX9_runScript_88 rfl (lv_at hl 1 rfl) ?_
      refine lv_icmp_ge (tgt := 156) hx hb dX9_runScript_89 (by decide) (fun c9 => ?_) (fun c9 => ?_)
      · replace h := iteT c9 h
        refine lv_iconst (v := -1) hx hb dX9_runScript_156 (by decide) ?_
        exact rt_i hx hb hr hlk hK hS ((g_this, g_this_trial, g_this_chosenBy, g_this_paidBy, g_this_toPay, g_this_plan) : TM × (Nat → Int64) × (Nat → Int64) × (Nat → Int64) × (Nat → Int64) × (Nat → Int32)) (ret2 h) hP hD dX9_runScript_157
      · replace h := iteF c9 h
        refine lv_lload hx hb dX9_runScript_92 (lv_at hl 3 rfl) ?_
        refine lv_ldc2 (v := 1000000) hx hb hown (hqs _ w_1369) dX9_runScript_94 ?_
        refine lv_ldiv hx hb dX9_runScript_97 (by decide) ?_
        refine lv_lstore (lv' := [(4, .long (x4 / (1000000 : Int64))), (0, .ref (a_this 0)), (1, .int x1), (2, .long x2), (6, .int x6)]) hx hb dX9_runScript_98 hl (by decide) rfl (fun ls hl => ?_)
        refine lv_lload_n hx hb dX9_runScript_100 rfl (lv_at hl 3 rfl) ?_
        refine lv_lload hx hb dX9_runScript_101 (lv_at hl 0 rfl) ?_
        obtain ⟨g10, h⟩ := chn h
        refine lv_ldiv hx hb dX9_runScript_103 g10 ?_
        refine lv_ldc2 (v := 1000000) hx hb hown (hqs _ w_1369) dX9_runScript_104 ?_
        refine lv_lrem hx hb dX9_runScript_107 (by decide) ?_
        refine lv_l2i hx hb dX9_runScript_108 rfl ?_
        refine lv_istore (lv' := [(7, .int (Int64.toInt32 ((x2 / (x4 / (1000000 : Int64))) - (x2 / (x4 / (1000000 : Int64))) / (1000000 : Int64) * (1000000 : Int64)))), (4, .long (x4 / (1000000 : Int64))), (0, .ref (a_this 0)), (1, .int x1), (2, .long x2), (6, .int x6)]) hx hb dX9_runScript_109 hl (by decide) rfl (fun ls hl => ?_)
        refine lv_aload_n hx hb dX9_runScript_111 rfl (lv_at hl 2 rfl) ?_
        refine lv_iload hx hb dX9_runScript_112 (lv_at hl 0 rfl) ?_
        refine lv_ldc (v := 100000) hx hb hown (hqs _ w_1370) dX9_runScript_114 ?_
        refine lv_idiv hx hb dX9_runScript_116 (by decide) ?_
        refine lv_iload hx hb dX9_runScript_117 (lv_at hl 0 rfl) ?_
        refine lv_sipush (v := 10000) hx hb dX9_runScript_119 (by decide) ?_
        refine lv_idiv hx hb dX9_runScript_122 (by decide) ?_
        refine lv_bipush (v := 10) hx hb dX9_runScript_123 (by decide) ?_
        refine lv_irem hx hb dX9_runScript_125 (by decide) ?_
        refine lv_iload hx hb dX9_runScript_126 (lv_at hl 0 rfl) ?_
        refine lv_sipush (v := 1000) hx hb dX9_runScript_128 (by decide) ?_
        refine lv_idiv hx hb dX9_runScript_131 (by decide) ?_
        refine lv_bipush (v := 10) hx hb dX9_runScript_132 (by decide) ?_
        refine lv_irem hx hb dX9_runScript_134 (by decide) ?_
        refine lv_iload hx hb dX9_runScript_135 (lv_at hl 0 rfl) ?_
        refine lv_sipush (v := 1000) hx hb dX9_runScript_137 (by decide) ?_
        refine lv_irem hx hb dX9_runScript_140 (by decide) ?_
        obtain ⟨o11, e11, h⟩ := obind h
        have hPc := hP.sub (ws' := (cM a_this g_this ++ (cJ_ dT (a_this 3) 353 g_this_trial ++ (cJ_ dT (a_this 7) 128 g_this_chosenBy ++ (cJ_ dT (a_this 8) 128 g_this_paidBy ++ (cJ_ dT (a_this 9) 128 g_this_toPay ++ (cI_ dT (a_this 10) 7 g_this_plan))))))) [0, 2, 3, 4, 5, 6] rfl
        have hDc := hD.sub (ws' := (cM a_this g_this ++ (cJ_ dT (a_this 3) 353 g_this_trial ++ (cJ_ dT (a_this 7) 128 g_this_chosenBy ++ (cJ_ dT (a_this 8) 128 g_this_paidBy ++ (cJ_ dT (a_this 9) 128 g_this_toPay ++ (cI_ dT (a_this 10) 7 g_this_plan))))))) [0, 2, 3, 4, 5, 6] (by decide) rfl
        have hFc := va_free (wc := (cM a_this g_this ++ (cJ_ dT (a_this 3) 353 g_this_trial ++ (cJ_ dT (a_this 7) 128 g_this_chosenBy ++ (cJ_ dT (a_this 8) 128 g_this_paidBy ++ (cJ_ dT (a_this 9) 128 g_this_toPay ++ (cI_ dT (a_this 10) 7 g_this_plan))))))) hD hS hA [0, 2, 3, 4, 5, 6] rfl
        refine cl_i (wr := (cJ_ dT (a_this 2) 353 g_this_now)) (va_runV (As := [.int ((Int64.toInt32 ((x2 / (x4 / (1000000 : Int64))) - (x2 / (x4 / (1000000 : Int64))) / (1000000 : Int64) * (1000000 : Int64))) / (100000 : Int32)), .int (((Int64.toInt32 ((x2 / (x4 / (1000000 : Int64))) - (x2 / (x4 / (1000000 : Int64))) / (1000000 : Int64) * (1000000 : Int64))) / (10000 : Int32)) - ((Int64.toInt32 ((x2 / (x4 / (1000000 : Int64))) - (x2 / (x4 / (1000000 : Int64))) / (1000000 : Int64) * (1000000 : Int64))) / (10000 : Int32)) / (10 : Int32) * (10 : Int32)), .int (((Int64.toInt32 ((x2 / (x4 / (1000000 : Int64))) - (x2 / (x4 / (1000000 : Int64))) / (1000000 : Int64) * (1000000 : Int64))) / (1000 : Int32)) - ((Int64.toInt32 ((x2 / (x4 / (1000000 : Int64))) - (x2 / (x4 / (1000000 : Int64))) / (1000000 : Int64) * (1000000 : Int64))) / (1000 : Int32)) / (10 : Int32) * (10 : Int32)), .int ((Int64.toInt32 ((x2 / (x4 / (1000000 : Int64))) - (x2 / (x4 / (1000000 : Int64))) / (1000000 : Int64) * (1000000 : Int64))) - (Int64.toInt32 ((x2 / (x4 / (1000000 : Int64))) - (x2 / (x4 / (1000000 : Int64))) / (1000000 : Int64) * (1000000 : Int64))) / (1000 : Int32) * (1000 : Int32))]) (rest := []) ⟨hx, hb, hml, hown, hts⟩ (c_X9_command l hlt D dT a_this g_this g_this_trial g_this_chosenBy g_this_paidBy g_this_toPay g_this_plan ((Int64.toInt32 ((x2 / (x4 / (1000000 : Int64))) - (x2 / (x4 / (1000000 : Int64))) / (1000000 : Int64) * (1000000 : Int64))) / (100000 : Int32)) (((Int64.toInt32 ((x2 / (x4 / (1000000 : Int64))) - (x2 / (x4 / (1000000 : Int64))) / (1000000 : Int64) * (1000000 : Int64))) / (10000 : Int32)) - ((Int64.toInt32 ((x2 / (x4 / (1000000 : Int64))) - (x2 / (x4 / (1000000 : Int64))) / (1000000 : Int64) * (1000000 : Int64))) / (10000 : Int32)) / (10 : Int32) * (10 : Int32)) (((Int64.toInt32 ((x2 / (x4 / (1000000 : Int64))) - (x2 / (x4 / (1000000 : Int64))) / (1000000 : Int64) * (1000000 : Int64))) / (1000 : Int32)) - ((Int64.toInt32 ((x2 / (x4 / (1000000 : Int64))) - (x2 / (x4 / (1000000 : Int64))) / (1000000 : Int64) * (1000000 : Int64))) / (1000 : Int32)) / (10 : Int32) * (10 : Int32)) ((Int64.toInt32 ((x2 / (x4 / (1000000 : Int64))) - (x2 / (x4 / (1000000 : Int64))) / (1000000 : Int64) * (1000000 : Int64))) - (Int64.toInt32 ((x2 / (x4 / (1000000 : Int64))) - (x2 / (x4 / (1000000 : Int64))) / (1000000 : Int64) * (1000000 : Int64))) / (1000 : Int32) * (1000 : Int32)) o11 e11 _) (cwV 4 hts (TB_V w_1371 w_1373 w_46 w_59 w_1374) rfl rfl rfl ⟨rfl, nd_X9_command⟩ ⟨Nat.le_of_ble_eq_true rfl, Nat.le_of_ble_eq_true rfl⟩) (cPre.V hPc hDc hK hE hS hFc (va_recv hK hP (ci := 8) (q0 := 0) rfl rfl)) rfl rfl hl.1 rfl (lv_room (Nat.le_of_ble_eq_true rfl)) dX9_runScript_141 ⟨Nat.zero_le _, Nat.zero_le _⟩) hP hD hS hFc [0, 2, 3, 4, 5, 6] [1] rfl rfl (by decide) (by decide) (fun r11 u11 H locs hw hP hD hS => ?_)
        obtain ⟨rfl, rfl⟩ := hw
        have hP : va_P D vwCl (cJ_ dT (a_this 2) 353 g_this_now ++ (cM a_this o11.2.1 ++ (cJ_ dT (a_this 3) 353 o11.2.2.1 ++ (cJ_ dT (a_this 7) 128 o11.2.2.2.1 ++ (cJ_ dT (a_this 8) 128 o11.2.2.2.2.1 ++ (cJ_ dT (a_this 9) 128 o11.2.2.2.2.2.1 ++ (cI_ dT (a_this 10) 7 o11.2.2.2.2.2.2))))))) H := hP
        have hD : va_D A (cJ_ dT (a_this 2) 353 g_this_now ++ (cM a_this o11.2.1 ++ (cJ_ dT (a_this 3) 353 o11.2.2.1 ++ (cJ_ dT (a_this 7) 128 o11.2.2.2.1 ++ (cJ_ dT (a_this 8) 128 o11.2.2.2.2.1 ++ (cJ_ dT (a_this 9) 128 o11.2.2.2.2.2.1 ++ (cI_ dT (a_this 10) 7 o11.2.2.2.2.2.2))))))) := hD
        refine lv_if_ne (tgt := 150) hx hb dX9_runScript_144 (by decide) (fun c12 => ?_) (fun c12 => ?_)
        · replace h := iteF c12 h
          refine lv_iinc (v := (x6 + (1 : Int32))) (lv' := [(6, .int (x6 + (1 : Int32))), (7, .int (Int64.toInt32 ((x2 / (x4 / (1000000 : Int64))) - (x2 / (x4 / (1000000 : Int64))) / (1000000 : Int64) * (1000000 : Int64)))), (4, .long (x4 / (1000000 : Int64))), (0, .ref (a_this 0)), (1, .int x1), (2, .long x2)]) hx hb dX9_runScript_150 hl (k := 5) rfl rfl (by decide) rfl (fun ls hl => ?_)
          refine lv_goto (tgt := 86) hx hb dX9_runScript_153 (by decide) ?_
          have hP := hP.sub (ws' := (cM a_this o11.2.1 ++ (cJ_ dT (a_this 2) 353 g_this_now ++ (cJ_ dT (a_this 3) 353 o11.2.2.1 ++ (cJ_ dT (a_this 7) 128 o11.2.2.2.1 ++ (cJ_ dT (a_this 8) 128 o11.2.2.2.2.1 ++ (cJ_ dT (a_this 9) 128 o11.2.2.2.2.2.1 ++ (cI_ dT (a_this 10) 7 o11.2.2.2.2.2.2)))))))) [1, 0, 2, 3, 4, 5, 6] rfl
          have hD := hD.sub (ws' := (cM a_this o11.2.1 ++ (cJ_ dT (a_this 2) 353 g_this_now ++ (cJ_ dT (a_this 3) 353 o11.2.2.1 ++ (cJ_ dT (a_this 7) 128 o11.2.2.2.1 ++ (cJ_ dT (a_this 8) 128 o11.2.2.2.2.1 ++ (cJ_ dT (a_this 9) 128 o11.2.2.2.2.2.1 ++ (cI_ dT (a_this 10) 7 o11.2.2.2.2.2.2)))))))) [1, 0, 2, 3, 4, 5, 6] (by decide) rfl
          exact ih (x4 / (1000000 : Int64)) (x6 + (1 : Int32)) o11.2.1 o11.2.2.1 o11.2.2.2.1 o11.2.2.2.2.1 o11.2.2.2.2.2.1 o11.2.2.2.2.2.2 _ _ _ h hP hD hS (lv_sub hl [3, 4, 5, 2, 0] rfl)
        · replace h := iteT c12 h
          refine lv_iload hx hb dX9_runScript_147 (lv_at hl 5 rfl) ?_
          have hP := hP.sub (ws' := (cM a_this o11.2.1 ++ (cJ_ dT (a_this 2) 353 g_this_now ++ (cJ_ dT (a_this 3) 353 o11.2.2.1 ++ (cJ_ dT (a_this 7) 128 o11.2.2.2.1 ++ (cJ_ dT (a_this 8) 128 o11.2.2.2.2.1 ++ (cJ_ dT (a_this 9) 128 o11.2.2.2.2.2.1 ++ (cI_ dT (a_this 10) 7 o11.2.2.2.2.2.2)))))))) [1, 0, 2, 3, 4, 5, 6] rfl
          have hD := hD.sub (ws' := (cM a_this o11.2.1 ++ (cJ_ dT (a_this 2) 353 g_this_now ++ (cJ_ dT (a_this 3) 353 o11.2.2.1 ++ (cJ_ dT (a_this 7) 128 o11.2.2.2.1 ++ (cJ_ dT (a_this 8) 128 o11.2.2.2.2.1 ++ (cJ_ dT (a_this 9) 128 o11.2.2.2.2.2.1 ++ (cI_ dT (a_this 10) 7 o11.2.2.2.2.2.2)))))))) [1, 0, 2, 3, 4, 5, 6] (by decide) rfl
          exact rt_i hx hb hr hlk hK hS ((o11.2.1, o11.2.2.1, o11.2.2.2.1, o11.2.2.2.2.1, o11.2.2.2.2.2.1, o11.2.2.2.2.2.2) : TM × (Nat → Int64) × (Nat → Int64) × (Nat → Int64) × (Nat → Int64) × (Nat → Int32)) (ret2 h) hP hD dX9_runScript_149
  have L_f_X9_runScript_J62 : ∀ (g_this_now : Nat → Int64) (x1 : Int32) (x2 : Int64) (x4 : Int64) (s0 : Int32) (g_this : TM) (g_this_trial : Nat → Int64) (g_this_chosenBy : Nat → Int64) (g_this_paidBy : Nat → Int64) (g_this_toPay : Nat → Int64) (g_this_plan : Nat → Int32)   (H : Heap) (locs : List Loc) (ls : Array Slot), f_X9_runScript_J62 g_this_now  x1 x2 x4 s0 g_this g_this_trial g_this_chosenBy g_this_paidBy g_this_toPay g_this_plan = some o → va_P D vwCl (cM a_this g_this ++ (cJ_ dT (a_this 2) 353 g_this_now ++ (cJ_ dT (a_this 3) 353 g_this_trial ++ (cJ_ dT (a_this 7) 128 g_this_chosenBy ++ (cJ_ dT (a_this 8) 128 g_this_paidBy ++ (cJ_ dT (a_this 9) 128 g_this_toPay ++ (cI_ dT (a_this 10) 7 g_this_plan))))))) H → va_D A (cM a_this g_this ++ (cJ_ dT (a_this 2) 353 g_this_now ++ (cJ_ dT (a_this 3) 353 g_this_trial ++ (cJ_ dT (a_this 7) 128 g_this_chosenBy ++ (cJ_ dT (a_this 8) 128 g_this_paidBy ++ (cJ_ dT (a_this 9) 128 g_this_toPay ++ (cI_ dT (a_this 10) 7 g_this_plan))))))) → va_S A s.heap H locs → lv_has ls 8 [(0, .ref (a_this 0)), (1, .int x1), (2, .long x2), (4, .long x4)] → W p l e (headSpec (WSm yX9_runScript cX9_runScript 8 (some .int)) { frames := 8, cells := 0, slots := 0, locals := 201 }).room s m [.ref (a_this 0), .int v1, .long v2].toArray below meth c H locs 0 0 (MQ below (va_Qi (fun (r : Int32) (u : TM × (Nat → Int64) × (Nat → Int64) × (Nat → Int64) × (Nat → Int64) × (Nat → Int32)) => r = o.1 ∧ u = o.2) (fun u t => cAt D dT A (cM a_this (u.1) ++ (cJ_ dT (a_this 2) 353 g_this_now ++ (cJ_ dT (a_this 3) 353 (u.2.1) ++ (cJ_ dT (a_this 7) 128 (u.2.2.1) ++ (cJ_ dT (a_this 8) 128 (u.2.2.2.1) ++ (cJ_ dT (a_this 9) 128 (u.2.2.2.2.1) ++ (cI_ dT (a_this 10) 7 (u.2.2.2.2.2)))))))) t) A) [.ref (a_this 0), .int v1, .long v2].toArray s 0 0 A) (F0 m 62 ls [.int s0, .ref (a_this 0)]) := by
    intro g_this_now x1 x2 x4 s0 g_this g_this_trial g_this_chosenBy g_this_paidBy g_this_toPay g_this_plan   H locs ls h hP hD hS hl
    unfold f_X9_runScript_J62 at h
    obtain ⟨o6, e6, h⟩ := obind h
    have hPc := hP.sub (ws' := (cM a_this g_this)) [0] rfl
    have hDc := hD.sub (ws' := (cM a_this g_this)) [0] (by decide) rfl
    have hFc := va_free (wc := (cM a_this g_this)) hD hS hA [0] rfl
    refine cl_i (wr := (cJ_ dT (a_this 2) 353 g_this_now ++ (cJ_ dT (a_this 3) 353 g_this_trial ++ (cJ_ dT (a_this 7) 128 g_this_chosenBy ++ (cJ_ dT (a_this 8) 128 g_this_paidBy ++ (cJ_ dT (a_this 9) 128 g_this_toPay ++ (cI_ dT (a_this 10) 7 g_this_plan))))))) (va_runV (As := [.int s0]) (rest := []) ⟨hx, hb, hml, hown, hts⟩ (c_X9_refused l hlt D dT a_this g_this s0 o6 e6 _) (cwV 1 hts (TB_V w_1132 w_1134 w_32 w_59 w_1135) rfl rfl rfl ⟨rfl, nd_X9_refused⟩ ⟨Nat.le_of_ble_eq_true rfl, Nat.le_of_ble_eq_true rfl⟩) (cPre.V hPc hDc hK hE hS hFc (va_recv hK hP (ci := 8) (q0 := 0) rfl rfl)) rfl rfl hl.1 rfl (lv_room (Nat.le_of_ble_eq_true rfl)) dX9_runScript_62 ⟨Nat.zero_le _, Nat.zero_le _⟩) hP hD hS hFc [0] [1, 2, 3, 4, 5, 6] rfl rfl (by decide) (by decide) (fun r6 u6 H locs hw hP hD hS => ?_)
    obtain ⟨rfl, rfl⟩ := hw
    have hP : va_P D vwCl (cJ_ dT (a_this 2) 353 g_this_now ++ (cJ_ dT (a_this 3) 353 g_this_trial ++ (cJ_ dT (a_this 7) 128 g_this_chosenBy ++ (cJ_ dT (a_this 8) 128 g_this_paidBy ++ (cJ_ dT (a_this 9) 128 g_this_toPay ++ (cI_ dT (a_this 10) 7 g_this_plan ++ (cM a_this o6.2))))))) H := hP
    have hD : va_D A (cJ_ dT (a_this 2) 353 g_this_now ++ (cJ_ dT (a_this 3) 353 g_this_trial ++ (cJ_ dT (a_this 7) 128 g_this_chosenBy ++ (cJ_ dT (a_this 8) 128 g_this_paidBy ++ (cJ_ dT (a_this 9) 128 g_this_toPay ++ (cI_ dT (a_this 10) 7 g_this_plan ++ (cM a_this o6.2))))))) := hD
    refine lv_if_eq (tgt := 70) hx hb dX9_runScript_65 (by decide) (fun c7 => ?_) (fun c7 => ?_)
    · replace h := iteT c7 h
      refine lv_aload_n hx hb dX9_runScript_70 rfl (lv_at hl 0 rfl) ?_
      refine gf_X9_13 (v := .ref (a_this 2)) hx hb hqs hown hK hP 6 rfl rfl dX9_runScript_71 ?_
      refine lv_iconst (v := 0) hx hb dX9_runScript_74 (by decide) ?_
      refine lv_aload_n hx hb dX9_runScript_75 rfl (lv_at hl 0 rfl) ?_
      refine gf_X9_17 (v := .ref (a_this 3)) hx hb hqs hown hK hP 6 rfl rfl dX9_runScript_76 ?_
      refine lv_iconst (v := 0) hx hb dX9_runScript_79 (by decide) ?_
      obtain ⟨o8, e8, h⟩ := obind h
      have hPc := hP.sub (ws' := (cJ_ dT (a_this 2) 353 g_this_now ++ (cJ_ dT (a_this 3) 353 g_this_trial))) [0, 1] rfl
      have hDc := hD.sub (ws' := (cJ_ dT (a_this 2) 353 g_this_now ++ (cJ_ dT (a_this 3) 353 g_this_trial))) [0, 1] (by decide) rfl
      have hFc := va_free (wc := (cJ_ dT (a_this 2) 353 g_this_now ++ (cJ_ dT (a_this 3) 353 g_this_trial))) hD hS hA [0, 1] rfl
      refine cl_v (wr := (cJ_ dT (a_this 7) 128 g_this_chosenBy ++ (cJ_ dT (a_this 8) 128 g_this_paidBy ++ (cJ_ dT (a_this 9) 128 g_this_toPay ++ (cI_ dT (a_this 10) 7 g_this_plan ++ (cM a_this o6.2)))))) (va_runS (As := [.ref (a_this 2), .int (0 : Int32), .ref (a_this 3), .int (0 : Int32)]) (rest := []) ⟨hx, hb, hml, hown, hts⟩ (c_X9_copyWorld l hlt D dT (a_this 2) (a_this 3) 353 353 g_this_now g_this_trial (0 : Int32) (0 : Int32) o8 e8 _) (va_cwS 4 hts (TB_S w_1191 w_1192 w_59 w_1193) rfl rfl rfl nd_X9_copyWorld ⟨Nat.le_of_ble_eq_true rfl, Nat.le_of_ble_eq_true rfl⟩) (cPre.S hPc hDc hK hE hS hFc) rfl rfl hl.1 rfl (lv_room (Nat.le_of_ble_eq_true rfl)) dX9_runScript_80 ⟨Nat.zero_le _, Nat.zero_le _⟩) hP hD hS hFc [0, 1] [2, 3, 4, 5, 6] rfl rfl (by decide) (by decide) (fun u8 H locs hw hP hD hS => ?_)
      subst hw
      have hP : va_P D vwCl (cJ_ dT (a_this 7) 128 g_this_chosenBy ++ (cJ_ dT (a_this 8) 128 g_this_paidBy ++ (cJ_ dT (a_this 9) 128 g_this_toPay ++ (cI_ dT (a_this 10) 7 g_this_plan ++ (cM a_this o6.2 ++ (cJ_ dT (a_this 2) 353 g_this_now ++ (cJ_ dT (a_this 3) 353 o8.2))))))) H := hP
      have hD : va_D A (cJ_ dT (a_this 7) 128 g_this_chosenBy ++ (cJ_ dT (a_this 8) 128 g_this_paidBy ++ (cJ_ dT (a_this 9) 128 g_this_toPay ++ (cI_ dT (a_this 10) 7 g_this_plan ++ (cM a_this o6.2 ++ (cJ_ dT (a_this 2) 353 g_this_now ++ (cJ_ dT (a_this 3) 353 o8.2))))))) := hD
      refine lv_iconst (v := 0) hx hb dX9_runScript_83 (by decide) ?_
      refine lv_istore (lv' := [(6, .int (0 : Int32)), (0, .ref (a_this 0)), (1, .int x1), (2, .long x2), (4, .long x4)]) hx hb dX9_runScript_84 hl (by decide) rfl (fun ls hl => ?_)
      have hP := hP.sub (ws' := (cM a_this o6.2 ++ (cJ_ dT (a_this 2) 353 g_this_now ++ (cJ_ dT (a_this 3) 353 o8.2 ++ (cJ_ dT (a_this 7) 128 g_this_chosenBy ++ (cJ_ dT (a_this 8) 128 g_this_paidBy ++ (cJ_ dT (a_this 9) 128 g_this_toPay ++ (cI_ dT (a_this 10) 7 g_this_plan)))))))) [4, 5, 6, 0, 1, 2, 3] rfl
      have hD := hD.sub (ws' := (cM a_this o6.2 ++ (cJ_ dT (a_this 2) 353 g_this_now ++ (cJ_ dT (a_this 3) 353 o8.2 ++ (cJ_ dT (a_this 7) 128 g_this_chosenBy ++ (cJ_ dT (a_this 8) 128 g_this_paidBy ++ (cJ_ dT (a_this 9) 128 g_this_toPay ++ (cI_ dT (a_this 10) 7 g_this_plan)))))))) [4, 5, 6, 0, 1, 2, 3] (by decide) rfl
      refine L_f_X9_runScript_L86 g_this_now x1 x2   FUEL x4 (0 : Int32) o6.2 o8.2 g_this_chosenBy g_this_paidBy g_this_toPay g_this_plan _ _ _ h hP hD hS (lv_sub hl [1, 2, 3, 4, 0] rfl)
    · replace h := iteF c7 h
      refine lv_iconst (v := 0) hx hb dX9_runScript_68 (by decide) ?_
      have hP := hP.sub (ws' := (cM a_this o6.2 ++ (cJ_ dT (a_this 2) 353 g_this_now ++ (cJ_ dT (a_this 3) 353 g_this_trial ++ (cJ_ dT (a_this 7) 128 g_this_chosenBy ++ (cJ_ dT (a_this 8) 128 g_this_paidBy ++ (cJ_ dT (a_this 9) 128 g_this_toPay ++ (cI_ dT (a_this 10) 7 g_this_plan)))))))) [6, 0, 1, 2, 3, 4, 5] rfl
      have hD := hD.sub (ws' := (cM a_this o6.2 ++ (cJ_ dT (a_this 2) 353 g_this_now ++ (cJ_ dT (a_this 3) 353 g_this_trial ++ (cJ_ dT (a_this 7) 128 g_this_chosenBy ++ (cJ_ dT (a_this 8) 128 g_this_paidBy ++ (cJ_ dT (a_this 9) 128 g_this_toPay ++ (cI_ dT (a_this 10) 7 g_this_plan)))))))) [6, 0, 1, 2, 3, 4, 5] (by decide) rfl
      exact rt_i hx hb hr hlk hK hS ((o6.2, g_this_trial, g_this_chosenBy, g_this_paidBy, g_this_toPay, g_this_plan) : TM × (Nat → Int64) × (Nat → Int64) × (Nat → Int64) × (Nat → Int64) × (Nat → Int32)) (ret2 h) hP hD dX9_runScript_69
  have L_f_X9_runScript_J61 : ∀ (g_this_now : Nat → Int64) (x1 : Int32) (x2 : Int64) (x4 : Int64) (g_this : TM) (g_this_trial : Nat → Int64) (g_this_chosenBy : Nat → Int64) (g_this_paidBy : Nat → Int64) (g_this_toPay : Nat → Int64) (g_this_plan : Nat → Int32)   (H : Heap) (locs : List Loc) (ls : Array Slot), f_X9_runScript_J61 g_this_now  x1 x2 x4 g_this g_this_trial g_this_chosenBy g_this_paidBy g_this_toPay g_this_plan = some o → va_P D vwCl (cM a_this g_this ++ (cJ_ dT (a_this 2) 353 g_this_now ++ (cJ_ dT (a_this 3) 353 g_this_trial ++ (cJ_ dT (a_this 7) 128 g_this_chosenBy ++ (cJ_ dT (a_this 8) 128 g_this_paidBy ++ (cJ_ dT (a_this 9) 128 g_this_toPay ++ (cI_ dT (a_this 10) 7 g_this_plan))))))) H → va_D A (cM a_this g_this ++ (cJ_ dT (a_this 2) 353 g_this_now ++ (cJ_ dT (a_this 3) 353 g_this_trial ++ (cJ_ dT (a_this 7) 128 g_this_chosenBy ++ (cJ_ dT (a_this 8) 128 g_this_paidBy ++ (cJ_ dT (a_this 9) 128 g_this_toPay ++ (cI_ dT (a_this 10) 7 g_this_plan))))))) → va_S A s.heap H locs → lv_has ls 8 [(0, .ref (a_this 0)), (1, .int x1), (2, .long x2), (4, .long x4)] → W p l e (headSpec (WSm yX9_runScript cX9_runScript 8 (some .int)) { frames := 8, cells := 0, slots := 0, locals := 201 }).room s m [.ref (a_this 0), .int v1, .long v2].toArray below meth c H locs 0 0 (MQ below (va_Qi (fun (r : Int32) (u : TM × (Nat → Int64) × (Nat → Int64) × (Nat → Int64) × (Nat → Int64) × (Nat → Int32)) => r = o.1 ∧ u = o.2) (fun u t => cAt D dT A (cM a_this (u.1) ++ (cJ_ dT (a_this 2) 353 g_this_now ++ (cJ_ dT (a_this 3) 353 (u.2.1) ++ (cJ_ dT (a_this 7) 128 (u.2.2.1) ++ (cJ_ dT (a_this 8) 128 (u.2.2.2.1) ++ (cJ_ dT (a_this 9) 128 (u.2.2.2.2.1) ++ (cI_ dT (a_this 10) 7 (u.2.2.2.2.2)))))))) t) A) [.ref (a_this 0), .int v1, .long v2].toArray s 0 0 A) (F0 m 61 ls [.ref (a_this 0)]) := by
    intro g_this_now x1 x2 x4 g_this g_this_trial g_this_chosenBy g_this_paidBy g_this_toPay g_this_plan   H locs ls h hP hD hS hl
    unfold f_X9_runScript_J61 at h
    refine lv_iconst (v := 1) hx hb dX9_runScript_61 (by decide) ?_
    refine L_f_X9_runScript_J62 g_this_now x1 x2 x4 (1 : Int32) g_this g_this_trial g_this_chosenBy g_this_paidBy g_this_toPay g_this_plan   _ _ _ h hP hD hS (lv_sub hl [0, 1, 2, 3] rfl)
  have L_f_X9_runScript_J32 : ∀ (g_this_now : Nat → Int64) (x1 : Int32) (x2 : Int64) (x4 : Int64) (g_this : TM) (g_this_trial : Nat → Int64) (g_this_chosenBy : Nat → Int64) (g_this_paidBy : Nat → Int64) (g_this_toPay : Nat → Int64) (g_this_plan : Nat → Int32)   (H : Heap) (locs : List Loc) (ls : Array Slot), f_X9_runScript_J32 g_this_now  x1 x2 x4 g_this g_this_trial g_this_chosenBy g_this_paidBy g_this_toPay g_this_plan = some o → va_P D vwCl (cM a_this g_this ++ (cJ_ dT (a_this 2) 353 g_this_now ++ (cJ_ dT (a_this 3) 353 g_this_trial ++ (cJ_ dT (a_this 7) 128 g_this_chosenBy ++ (cJ_ dT (a_this 8) 128 g_this_paidBy ++ (cJ_ dT (a_this 9) 128 g_this_toPay ++ (cI_ dT (a_this 10) 7 g_this_plan))))))) H → va_D A (cM a_this g_this ++ (cJ_ dT (a_this 2) 353 g_this_now ++ (cJ_ dT (a_this 3) 353 g_this_trial ++ (cJ_ dT (a_this 7) 128 g_this_chosenBy ++ (cJ_ dT (a_this 8) 128 g_this_paidBy ++ (cJ_ dT (a_this 9) 128 g_this_toPay ++ (cI_ dT (a_this 10) 7 g_this_plan))))))) → va_S A s.heap H locs → lv_has ls 8 [(0, .ref (a_this 0)), (1, .int x1), (2, .long x2), (4, .long x4)] → W p l e (headSpec (WSm yX9_runScript cX9_runScript 8 (some .int)) { frames := 8, cells := 0, slots := 0, locals := 201 }).room s m [.ref (a_this 0), .int v1, .long v2].toArray below meth c H locs 0 0 (MQ below (va_Qi (fun (r : Int32) (u : TM × (Nat → Int64) × (Nat → Int64) × (Nat → Int64) × (Nat → Int64) × (Nat → Int32)) => r = o.1 ∧ u = o.2) (fun u t => cAt D dT A (cM a_this (u.1) ++ (cJ_ dT (a_this 2) 353 g_this_now ++ (cJ_ dT (a_this 3) 353 (u.2.1) ++ (cJ_ dT (a_this 7) 128 (u.2.2.1) ++ (cJ_ dT (a_this 8) 128 (u.2.2.2.1) ++ (cJ_ dT (a_this 9) 128 (u.2.2.2.2.1) ++ (cI_ dT (a_this 10) 7 (u.2.2.2.2.2)))))))) t) A) [.ref (a_this 0), .int v1, .long v2].toArray s 0 0 A) (F0 m 32 ls []) := by
    intro g_this_now x1 x2 x4 g_this g_this_trial g_this_chosenBy g_this_paidBy g_this_toPay g_this_plan   H locs ls h hP hD hS hl
    unfold f_X9_runScript_J32 at h
    refine lv_aload_n hx hb dX9_runScript_32 rfl (lv_at hl 0 rfl) ?_
    refine lv_iload_n hx hb dX9_runScript_33 rfl (lv_at hl 1 rfl) ?_
    refine lv_i2l hx hb dX9_runScript_34 rfl ?_
    refine lv_lconst (v := 1) hx hb dX9_runScript_35 (by decide) ?_
    refine lv_ldc2 (v := 3) hx hb hown (hqs _ w_1203) dX9_runScript_36 ?_
    obtain ⟨o4, e4, h⟩ := obind h
    have hPc := hP.sub (ws' := ([] : va_W)) [] rfl
    have hDc := hD.sub (ws' := ([] : va_W)) [] (by decide) rfl
    have hFc := va_free (wc := ([] : va_W)) hD hS hA [] rfl
    refine cl_i (wr := (cM a_this g_this ++ (cJ_ dT (a_this 2) 353 g_this_now ++ (cJ_ dT (a_this 3) 353 g_this_trial ++ (cJ_ dT (a_this 7) 128 g_this_chosenBy ++ (cJ_ dT (a_this 8) 128 g_this_paidBy ++ (cJ_ dT (a_this 9) 128 g_this_toPay ++ (cI_ dT (a_this 10) 7 g_this_plan)))))))) (va_runS (As := [.long (Int32.toInt64 x1), .long (1 : Int64), .long (3 : Int64)]) (rest := [.ref (a_this 0)]) ⟨hx, hb, hml, hown, hts⟩ (c_X9_in l hlt D dT (Int32.toInt64 x1) (1 : Int64) (3 : Int64) o4 e4 _) (va_cwS 3 hts (TB_S w_1129 w_1130 w_59 w_1131) rfl rfl rfl nd_X9_in ⟨Nat.le_of_ble_eq_true rfl, Nat.le_of_ble_eq_true rfl⟩) (cPre.S hPc hDc hK hE hS hFc) rfl rfl hl.1 rfl (lv_room (Nat.le_of_ble_eq_true rfl)) dX9_runScript_39 ⟨Nat.zero_le _, Nat.zero_le _⟩) hP hD hS hFc [] [0, 1, 2, 3, 4, 5, 6] rfl rfl (by decide) (by decide) (fun r4 u4 H locs hw hP hD hS => ?_)
    obtain ⟨rfl, rfl⟩ := hw
    have hP : va_P D vwCl (cM a_this g_this ++ (cJ_ dT (a_this 2) 353 g_this_now ++ (cJ_ dT (a_this 3) 353 g_this_trial ++ (cJ_ dT (a_this 7) 128 g_this_chosenBy ++ (cJ_ dT (a_this 8) 128 g_this_paidBy ++ (cJ_ dT (a_this 9) 128 g_this_toPay ++ (cI_ dT (a_this 10) 7 g_this_plan))))))) H := hP
    have hD : va_D A (cM a_this g_this ++ (cJ_ dT (a_this 2) 353 g_this_now ++ (cJ_ dT (a_this 3) 353 g_this_trial ++ (cJ_ dT (a_this 7) 128 g_this_chosenBy ++ (cJ_ dT (a_this 8) 128 g_this_paidBy ++ (cJ_ dT (a_this 9) 128 g_this_toPay ++ (cI_ dT (a_this 10) 7 g_this_plan))))))) := hD
    refine lv_if_eq (tgt := 61) hx hb dX9_runScript_42 (by decide) (fun c5 => ?_) (fun c5 => ?_)
    · replace h := iteT c5 h
      refine L_f_X9_runScript_J61 g_this_now x1 x2 x4 g_this g_this_trial g_this_chosenBy g_this_paidBy g_this_toPay g_this_plan   _ _ _ h hP hD hS (lv_sub hl [0, 1, 2, 3] rfl)
    · replace h := iteF c5 h
      refine lv_lload_n hx hb dX9_runScript_45 rfl (lv_at hl 2 rfl) ?_
      refine lv_lconst (v := 0) hx hb dX9_runScript_46 (by decide) ?_
      refine lv_lload hx hb dX9_runScript_47 (lv_at hl 3 rfl) ?_
      refine lv_lconst (v := 1) hx hb dX9_runScript_49 (by decide) ?_
      refine lv_lsub hx hb dX9_runScript_50 ?_
      obtain ⟨o13, e13, h⟩ := obind h
      have hPc := hP.sub (ws' := ([] : va_W)) [] rfl
      have hDc := hD.sub (ws' := ([] : va_W)) [] (by decide) rfl
      have hFc := va_free (wc := ([] : va_W)) hD hS hA [] rfl
      refine cl_i (wr := (cM a_this g_this ++ (cJ_ dT (a_this 2) 353 g_this_now ++ (cJ_ dT (a_this 3) 353 g_this_trial ++ (cJ_ dT (a_this 7) 128 g_this_chosenBy ++ (cJ_ dT (a_this 8) 128 g_this_paidBy ++ (cJ_ dT (a_this 9) 128 g_this_toPay ++ (cI_ dT (a_this 10) 7 g_this_plan)))))))) (va_runS (As := [.long x2, .long (0 : Int64), .long (x4 - (1 : Int64))]) (rest := [.ref (a_this 0)]) ⟨hx, hb, hml, hown, hts⟩ (c_X9_in l hlt D dT x2 (0 : Int64) (x4 - (1 : Int64)) o13 e13 _) (va_cwS 3 hts (TB_S w_1129 w_1130 w_59 w_1131) rfl rfl rfl nd_X9_in ⟨Nat.le_of_ble_eq_true rfl, Nat.le_of_ble_eq_true rfl⟩) (cPre.S hPc hDc hK hE hS hFc) rfl rfl hl.1 rfl (lv_room (Nat.le_of_ble_eq_true rfl)) dX9_runScript_51 ⟨Nat.zero_le _, Nat.zero_le _⟩) hP hD hS hFc [] [0, 1, 2, 3, 4, 5, 6] rfl rfl (by decide) (by decide) (fun r13 u13 H locs hw hP hD hS => ?_)
      obtain ⟨rfl, rfl⟩ := hw
      have hP : va_P D vwCl (cM a_this g_this ++ (cJ_ dT (a_this 2) 353 g_this_now ++ (cJ_ dT (a_this 3) 353 g_this_trial ++ (cJ_ dT (a_this 7) 128 g_this_chosenBy ++ (cJ_ dT (a_this 8) 128 g_this_paidBy ++ (cJ_ dT (a_this 9) 128 g_this_toPay ++ (cI_ dT (a_this 10) 7 g_this_plan))))))) H := hP
      have hD : va_D A (cM a_this g_this ++ (cJ_ dT (a_this 2) 353 g_this_now ++ (cJ_ dT (a_this 3) 353 g_this_trial ++ (cJ_ dT (a_this 7) 128 g_this_chosenBy ++ (cJ_ dT (a_this 8) 128 g_this_paidBy ++ (cJ_ dT (a_this 9) 128 g_this_toPay ++ (cI_ dT (a_this 10) 7 g_this_plan))))))) := hD
      refine lv_if_eq (tgt := 61) hx hb dX9_runScript_54 (by decide) (fun c14 => ?_) (fun c14 => ?_)
      · replace h := iteT c14 h
        refine L_f_X9_runScript_J61 g_this_now x1 x2 x4 g_this g_this_trial g_this_chosenBy g_this_paidBy g_this_toPay g_this_plan   _ _ _ h hP hD hS (lv_sub hl [0, 1, 2, 3] rfl)
      · replace h := iteF c14 h
        refine lv_iconst (v := 0) hx hb dX9_runScript_57 (by decide) ?_
        refine lv_goto (tgt := 62) hx hb dX9_runScript_58 (by decide) ?_
        refine L_f_X9_runScript_J62 g_this_now x1 x2 x4 (0 : Int32) g_this g_this_trial g_this_chosenBy g_this_paidBy g_this_toPay g_this_plan   _ _ _ h hP hD hS (lv_sub hl [0, 1, 2, 3] rfl)
  unfold f_X9_runScript at h
  refine lv_lconst (v := 1) hx hb dX9_runScript_0 (by decide) ?_
  refine lv_lstore (lv' := [(4, .long (1 : Int64)), (0, .ref (a_this 0)), (1, .int v1), (2, .long v2)]) hx hb dX9_runScript_1 hl (by decide) rfl (fun ls hl => ?_)
  refine lv_iconst (v := 0) hx hb dX9_runScript_3 (by decide) ?_
  refine lv_istore (lv' := [(6, .int (0 : Int32)), (4, .long (1 : Int64)), (0, .ref (a_this 0)), (1, .int v1), (2, .long v2)]) hx hb dX9_runScript_4 hl (by decide) rfl (fun ls hl => ?_)
  refine L_f_X9_runScript_L6 g_this g_this_now g_this_trial g_this_chosenBy g_this_paidBy g_this_toPay g_this_plan v1 v2 _ ?_ FUEL (1 : Int64) (0 : Int32) _ _ _ h hP hD hS (lv_sub hl [2, 3, 4, 1, 0] rfl)
  · intro y3x4 H locs ls h hP hD hS hl
    refine L_f_X9_runScript_J32 g_this_now v1 v2 y3x4 g_this g_this_trial g_this_chosenBy g_this_paidBy g_this_toPay g_this_plan   _ _ _ h hP hD hS (lv_sub hl [0, 1, 2, 3] rfl)

