def f_X9_turn (g_this : TM) (g_this_trial : Nat → Int64) (g_this_chosenBy : Nat → Int64) (g_this_paidBy : Nat → Int64) (g_this_toPay : Nat → Int64) (g_this_plan : Nat → Int32) (v1 : Int32) : Option (Unit × (TM × (Nat → Int64) × (Nat → Int64) × (Nat → Int64) × (Nat → Int64) × (Nat → Int32))) :=
  (if inb (0 : Int32) 353 = true then (if (Int64.toInt32 (g_this_trial (0 : Int32).toNatClampNeg)) = 0 then none else (if (Int64.toInt32 (g_this_trial (0 : Int32).toNatClampNeg)) = 0 then none else (if (4 : Int32) ≤ (v1 - v1 / (8 : Int32) * (8 : Int32)) then (if (v1 - v1 / (8 : Int32) * (8 : Int32)) = (4 : Int32) then ((f_X9_weeksOn 353 g_this_trial (1 : Int32)).bind fun o11 => (some ((), (g_this, o11.2, g_this_chosenBy, g_this_paidBy, g_this_toPay, g_this_plan)))) else (if (v1 - v1 / (8 : Int32) * (8 : Int32)) = (7 : Int32) then (if inb (302 : Int32) 353 = true then (some ((), (g_this, (vp_updL g_this_trial (302 : Int32).toNatClampNeg (Int32.toInt64 ((1 : Int32) + ((v1 / (8 : Int32)) - (v1 / (8 : Int32)) / (200 : Int32) * (200 : Int32))))), g_this_chosenBy, g_this_paidBy, g_this_toPay, g_this_plan))) else none) else ((f_X9_whyNotDrift 353 g_this_trial ((v1 / (8 : Int32)) - (v1 / (8 : Int32)) / (Int64.toInt32 (g_this_trial (0 : Int32).toNatClampNeg)) * (Int64.toInt32 (g_this_trial (0 : Int32).toNatClampNeg))) ((v1 / (64 : Int32)) - (v1 / (64 : Int32)) / (Int64.toInt32 (g_this_trial (0 : Int32).toNatClampNeg)) * (Int64.toInt32 (g_this_trial (0 : Int32).toNatClampNeg))) ((1 : Int32) + ((v1 / (512 : Int32)) - (v1 / (512 : Int32)) / (1000 : Int32) * (1000 : Int32)))).bind fun o7 => (if o7.1 = (0 : Int32) then ((f_X9_driftOn 353 g_this_trial ((v1 / (8 : Int32)) - (v1 / (8 : Int32)) / (Int64.toInt32 (g_this_trial (0 : Int32).toNatClampNeg)) * (Int64.toInt32 (g_this_trial (0 : Int32).toNatClampNeg))) ((v1 / (64 : Int32)) - (v1 / (64 : Int32)) / (Int64.toInt32 (g_this_trial (0 : Int32).toNatClampNeg)) * (Int64.toInt32 (g_this_trial (0 : Int32).toNatClampNeg))) ((1 : Int32) + ((v1 / (512 : Int32)) - (v1 / (512 : Int32)) / (1000 : Int32) * (1000 : Int32)))).bind fun o9 => (some ((), (g_this, o9.2, g_this_chosenBy, g_this_paidBy, g_this_toPay, g_this_plan)))) else (some ((), (g_this, g_this_trial, g_this_chosenBy, g_this_paidBy, g_this_toPay, g_this_plan))))))) else (if (((1 : Int32) <<< ((Int64.toInt32 (g_this_trial (0 : Int32).toNatClampNeg)) &&& 31)) - (1 : Int32)) = 0 then none else ((f_X9_runOn 353 g_this g_this_chosenBy g_this_paidBy g_this_toPay g_this_plan g_this_trial ((1 : Int32) + ((v1 / (8 : Int32)) - (v1 / (8 : Int32)) / (((1 : Int32) <<< ((Int64.toInt32 (g_this_trial (0 : Int32).toNatClampNeg)) &&& 31)) - (1 : Int32)) * (((1 : Int32) <<< ((Int64.toInt32 (g_this_trial (0 : Int32).toNatClampNeg)) &&& 31)) - (1 : Int32))))).bind fun o13 => (some ((), (o13.2.1, o13.2.2.2.2.2.2, o13.2.2.1, o13.2.2.2.1, o13.2.2.2.2.1, o13.2.2.2.2.2.1)))))))) else none)
set_option maxHeartbeats 8000000 in
set_option maxRecDepth 100000 in
theorem c_X9_turn (l : Launch) (hlt : l.stackTraces = false) (D : va_G) (dT : Nat → ClassId) (a_this : Nat → Nat) (g_this : TM) (g_this_trial : Nat → Int64) (g_this_chosenBy : Nat → Int64) (g_this_paidBy : Nat → Int64) (g_this_toPay : Nat → Int64) (g_this_plan : Nat → Int32) (v1 : Int32) (o : (Unit × (TM × (Nat → Int64) × (Nat → Int64) × (Nat → Int64) × (Nat → Int64) × (Nat → Int32)))) (h : f_X9_turn g_this g_this_trial g_this_chosenBy g_this_paidBy g_this_toPay g_this_plan v1 = some o) (sz : Nat) : Met l yX9_turn (WSm yX9_turn cX9_turn 6 none) { frames := 7, cells := 0, slots := 0, locals := 177 } (va_Pc [.ref (a_this 0), .int v1] (cPre D dT (cM a_this g_this ++ (cJ_ dT (a_this 3) 353 g_this_trial ++ (cJ_ dT (a_this 7) 128 g_this_chosenBy ++ (cJ_ dT (a_this 8) 128 g_this_paidBy ++ (cJ_ dT (a_this 9) 128 g_this_toPay ++ (cI_ dT (a_this 10) 7 g_this_plan)))))) sz)) (va_Qv (fun (u : TM × (Nat → Int64) × (Nat → Int64) × (Nat → Int64) × (Nat → Int64) × (Nat → Int32)) => u = o.2) (fun u t => cAt D dT (va_A (cM a_this g_this ++ (cJ_ dT (a_this 3) 353 g_this_trial ++ (cJ_ dT (a_this 7) 128 g_this_chosenBy ++ (cJ_ dT (a_this 8) 128 g_this_paidBy ++ (cJ_ dT (a_this 9) 128 g_this_toPay ++ (cI_ dT (a_this 10) 7 g_this_plan)))))) sz) (cM a_this (u.1) ++ (cJ_ dT (a_this 3) 353 (u.2.1) ++ (cJ_ dT (a_this 7) 128 (u.2.2.1) ++ (cJ_ dT (a_this 8) 128 (u.2.2.2.1) ++ (cJ_ dT (a_this 9) 128 (u.2.2.2.2.1) ++ (cI_ dT (a_this 10) 7 (u.2.2.2.2.2))))))) t) (va_A (cM a_this g_this ++ (cJ_ dT (a_this 3) 353 g_this_trial ++ (cJ_ dT (a_this 7) 128 g_this_chosenBy ++ (cJ_ dT (a_this 8) 128 g_this_paidBy ++ (cJ_ dT (a_this 9) 128 g_this_toPay ++ (cI_ dT (a_this 10) 7 g_this_plan)))))) sz)) 0 0 (va_A (cM a_this g_this ++ (cJ_ dT (a_this 3) 353 g_this_trial ++ (cJ_ dT (a_this 7) 128 g_this_chosenBy ++ (cJ_ dT (a_this 8) 128 g_this_paidBy ++ (cJ_ dT (a_this 9) 128 g_this_toPay ++ (cI_ dT (a_this 10) 7 g_this_plan)))))) sz) := by
  refine mStart (WS := (cM a_this g_this ++ (cJ_ dT (a_this 3) 353 g_this_trial ++ (cJ_ dT (a_this 7) 128 g_this_chosenBy ++ (cJ_ dT (a_this 8) 128 g_this_paidBy ++ (cJ_ dT (a_this 9) 128 g_this_toPay ++ (cI_ dT (a_this 10) 7 g_this_plan))))))) (Qc := fun A => va_Qv (fun (u : TM × (Nat → Int64) × (Nat → Int64) × (Nat → Int64) × (Nat → Int64) × (Nat → Int32)) => u = o.2) (fun u t => cAt D dT A (cM a_this (u.1) ++ (cJ_ dT (a_this 3) 353 (u.2.1) ++ (cJ_ dT (a_this 7) 128 (u.2.2.1) ++ (cJ_ dT (a_this 8) 128 (u.2.2.2.1) ++ (cJ_ dT (a_this 9) 128 (u.2.2.2.2.1) ++ (cI_ dT (a_this 10) 7 (u.2.2.2.2.2))))))) t) A) RX9 rfl (by decide) (Nat.le_of_ble_eq_true rfl) ?_ sz
  intro p e s m below meth c A ls hx hb hml hr hlk hnm hts hqs hown hE hA hK hP hD hS hl
  have hl : lv_has ls 6 [(0, .ref (a_this 0)), (1, .int v1)] := hl
  unfold f_X9_turn at h
  refine lv_aload_n hx hb dX9_turn_0 rfl (lv_at hl 0 rfl) ?_
  refine gf_X9_17 (v := .ref (a_this 3)) hx hb hqs hown hK hP 0 rfl rfl dX9_turn_1 ?_
  refine lv_iconst (v := 0) hx hb dX9_turn_4 (by decide) ?_
  obtain ⟨g1, h⟩ := chk h
  refine va_lald hx hb hK hP 1 1 rfl rfl (inb_in g1) dX9_turn_5 ?_
  refine lv_l2i hx hb dX9_turn_6 rfl ?_
  refine lv_istore_n (lv' := [(2, .int (Int64.toInt32 (g_this_trial (0 : Int32).toNatClampNeg))), (0, .ref (a_this 0)), (1, .int v1)]) hx hb dX9_turn_7 rfl hl (by decide) rfl (fun ls hl => ?_)
  refine lv_iload_n hx hb dX9_turn_8 rfl (lv_at hl 2 rfl) ?_
  refine lv_bipush (v := 8) hx hb dX9_turn_9 (by decide) ?_
  refine lv_idiv hx hb dX9_turn_11 (by decide) ?_
  refine lv_iload_n hx hb dX9_turn_12 rfl (lv_at hl 0 rfl) ?_
  obtain ⟨g2, h⟩ := chn h
  refine lv_irem hx hb dX9_turn_13 g2 ?_
  refine lv_istore_n (lv' := [(3, .int ((v1 / (8 : Int32)) - (v1 / (8 : Int32)) / (Int64.toInt32 (g_this_trial (0 : Int32).toNatClampNeg)) * (Int64.toInt32 (g_this_trial (0 : Int32).toNatClampNeg)))), (2, .int (Int64.toInt32 (g_this_trial (0 : Int32).toNatClampNeg))), (0, .ref (a_this 0)), (1, .int v1)]) hx hb dX9_turn_14 rfl hl (by decide) rfl (fun ls hl => ?_)
  refine lv_iload_n hx hb dX9_turn_15 rfl (lv_at hl 3 rfl) ?_
  refine lv_bipush (v := 64) hx hb dX9_turn_16 (by decide) ?_
  refine lv_idiv hx hb dX9_turn_18 (by decide) ?_
  refine lv_iload_n hx hb dX9_turn_19 rfl (lv_at hl 1 rfl) ?_
  obtain ⟨g3, h⟩ := chn h
  refine lv_irem hx hb dX9_turn_20 g3 ?_
  refine lv_istore (lv' := [(4, .int ((v1 / (64 : Int32)) - (v1 / (64 : Int32)) / (Int64.toInt32 (g_this_trial (0 : Int32).toNatClampNeg)) * (Int64.toInt32 (g_this_trial (0 : Int32).toNatClampNeg)))), (3, .int ((v1 / (8 : Int32)) - (v1 / (8 : Int32)) / (Int64.toInt32 (g_this_trial (0 : Int32).toNatClampNeg)) * (Int64.toInt32 (g_this_trial (0 : Int32).toNatClampNeg)))), (2, .int (Int64.toInt32 (g_this_trial (0 : Int32).toNatClampNeg))), (0, .ref (a_this 0)), (1, .int v1)]) hx hb dX9_turn_21 hl (by decide) rfl (fun ls hl => ?_)
  refine lv_iload_n hx hb dX9_turn_23 rfl (lv_at hl 4 rfl) ?_
  refine lv_bipush (v := 8) hx hb dX9_turn_24 (by decide) ?_
  refine lv_irem hx hb dX9_turn_26 (by decide) ?_
  refine lv_istore (lv' := [(5, .int (v1 - v1 / (8 : Int32) * (8 : Int32))), (4, .int ((v1 / (64 : Int32)) - (v1 / (64 : Int32)) / (Int64.toInt32 (g_this_trial (0 : Int32).toNatClampNeg)) * (Int64.toInt32 (g_this_trial (0 : Int32).toNatClampNeg)))), (3, .int ((v1 / (8 : Int32)) - (v1 / (8 : Int32)) / (Int64.toInt32 (g_this_trial (0 : Int32).toNatClampNeg)) * (Int64.toInt32 (g_this_trial (0 : Int32).toNatClampNeg)))), (2, .int (Int64.toInt32 (g_this_trial (0 : Int32).toNatClampNeg))), (0, .ref (a_this 0)), (1, .int v1)]) hx hb dX9_turn_27 hl (by decide) rfl (fun ls hl => ?_)
  refine lv_iload hx hb dX9_turn_29 (lv_at hl 0 rfl) ?_
  refine lv_iconst (v := 4) hx hb dX9_turn_31 (by decide) ?_
  refine lv_icmp_ge (tgt := 59) hx hb dX9_turn_32 (by decide) (fun c4 => ?_) (fun c4 => ?_)
  · replace h := iteT c4 h
    refine lv_iload hx hb dX9_turn_59 (lv_at hl 0 rfl) ?_
    refine lv_iconst (v := 4) hx hb dX9_turn_61 (by decide) ?_
    refine lv_icmp_ne (tgt := 77) hx hb dX9_turn_62 (by decide) (fun c5 => ?_) (fun c5 => ?_)
    · replace h := iteF c5 h
      refine lv_iload hx hb dX9_turn_77 (lv_at hl 0 rfl) ?_
      refine lv_bipush (v := 7) hx hb dX9_turn_79 (by decide) ?_
      refine lv_icmp_ne (tgt := 106) hx hb dX9_turn_81 (by decide) (fun c6 => ?_) (fun c6 => ?_)
      · replace h := iteF c6 h
        refine lv_aload_n hx hb dX9_turn_106 rfl (lv_at hl 4 rfl) ?_
        refine gf_X9_17 (v := .ref (a_this 3)) hx hb hqs hown hK hP 0 rfl rfl dX9_turn_107 ?_
        refine lv_iload_n hx hb dX9_turn_110 rfl (lv_at hl 2 rfl) ?_
        refine lv_iload hx hb dX9_turn_111 (lv_at hl 1 rfl) ?_
        refine lv_iconst (v := 1) hx hb dX9_turn_113 (by decide) ?_
        refine lv_iload_n hx hb dX9_turn_114 rfl (lv_at hl 5 rfl) ?_
        refine lv_sipush (v := 512) hx hb dX9_turn_115 (by decide) ?_
        refine lv_idiv hx hb dX9_turn_118 (by decide) ?_
        refine lv_sipush (v := 1000) hx hb dX9_turn_119 (by decide) ?_
        refine lv_irem hx hb dX9_turn_122 (by decide) ?_
        refine lv_iadd hx hb dX9_turn_123 ?_
        obtain ⟨o7, e7, h⟩ := obind h
        have hPc := hP.sub (ws' := (cJ_ dT (a_this 3) 353 g_this_trial)) [1] rfl
        have hDc := hD.sub (ws' := (cJ_ dT (a_this 3) 353 g_this_trial)) [1] (by decide) rfl
        have hFc := va_free (wc := (cJ_ dT (a_this 3) 353 g_this_trial)) hD hS hA [1] rfl
        refine cl_i (wr := (cM a_this g_this ++ (cJ_ dT (a_this 7) 128 g_this_chosenBy ++ (cJ_ dT (a_this 8) 128 g_this_paidBy ++ (cJ_ dT (a_this 9) 128 g_this_toPay ++ (cI_ dT (a_this 10) 7 g_this_plan)))))) (va_runS (As := [.ref (a_this 3), .int ((v1 / (8 : Int32)) - (v1 / (8 : Int32)) / (Int64.toInt32 (g_this_trial (0 : Int32).toNatClampNeg)) * (Int64.toInt32 (g_this_trial (0 : Int32).toNatClampNeg))), .int ((v1 / (64 : Int32)) - (v1 / (64 : Int32)) / (Int64.toInt32 (g_this_trial (0 : Int32).toNatClampNeg)) * (Int64.toInt32 (g_this_trial (0 : Int32).toNatClampNeg))), .int ((1 : Int32) + ((v1 / (512 : Int32)) - (v1 / (512 : Int32)) / (1000 : Int32) * (1000 : Int32)))]) (rest := []) ⟨hx, hb, hml, hown, hts⟩ (c_X9_whyNotDrift l hlt D dT (a_this 3) 353 g_this_trial ((v1 / (8 : Int32)) - (v1 / (8 : Int32)) / (Int64.toInt32 (g_this_trial (0 : Int32).toNatClampNeg)) * (Int64.toInt32 (g_this_trial (0 : Int32).toNatClampNeg))) ((v1 / (64 : Int32)) - (v1 / (64 : Int32)) / (Int64.toInt32 (g_this_trial (0 : Int32).toNatClampNeg)) * (Int64.toInt32 (g_this_trial (0 : Int32).toNatClampNeg))) ((1 : Int32) + ((v1 / (512 : Int32)) - (v1 / (512 : Int32)) / (1000 : Int32) * (1000 : Int32))) o7 e7 _) (va_cwS 4 hts (TB_S w_1253 w_1254 w_59 w_1255) rfl rfl rfl nd_X9_whyNotDrift ⟨Nat.le_of_ble_eq_true rfl, Nat.le_of_ble_eq_true rfl⟩) (cPre.S hPc hDc hK hE hS hFc) rfl rfl hl.1 rfl (lv_room (Nat.le_of_ble_eq_true rfl)) dX9_turn_124 ⟨Nat.zero_le _, Nat.zero_le _⟩) hP hD hS hFc [1] [0, 2, 3, 4, 5] rfl rfl (by decide) (by decide) (fun r7 u7 H locs hw hP hD hS => ?_)
        obtain ⟨rfl, rfl⟩ := hw
        have hP : va_P D vwCl (cM a_this g_this ++ (cJ_ dT (a_this 7) 128 g_this_chosenBy ++ (cJ_ dT (a_this 8) 128 g_this_paidBy ++ (cJ_ dT (a_this 9) 128 g_this_toPay ++ (cI_ dT (a_this 10) 7 g_this_plan ++ (cJ_ dT (a_this 3) 353 g_this_trial)))))) H := hP
        have hD : va_D A (cM a_this g_this ++ (cJ_ dT (a_this 7) 128 g_this_chosenBy ++ (cJ_ dT (a_this 8) 128 g_this_paidBy ++ (cJ_ dT (a_this 9) 128 g_this_toPay ++ (cI_ dT (a_this 10) 7 g_this_plan ++ (cJ_ dT (a_this 3) 353 g_this_trial)))))) := hD
        refine lv_if_ne (tgt := 152) hx hb dX9_turn_127 (by decide) (fun c8 => ?_) (fun c8 => ?_)
        · replace h := iteF c8 h
          have hP := hP.sub (ws' := (cM a_this g_this ++ (cJ_ dT (a_this 3) 353 g_this_trial ++ (cJ_ dT (a_this 7) 128 g_this_chosenBy ++ (cJ_ dT (a_this 8) 128 g_this_paidBy ++ (cJ_ dT (a_this 9) 128 g_this_toPay ++ (cI_ dT (a_this 10) 7 g_this_plan))))))) [0, 5, 1, 2, 3, 4] rfl
          have hD := hD.sub (ws' := (cM a_this g_this ++ (cJ_ dT (a_this 3) 353 g_this_trial ++ (cJ_ dT (a_this 7) 128 g_this_chosenBy ++ (cJ_ dT (a_this 8) 128 g_this_paidBy ++ (cJ_ dT (a_this 9) 128 g_this_toPay ++ (cI_ dT (a_this 10) 7 g_this_plan))))))) [0, 5, 1, 2, 3, 4] (by decide) rfl
          exact rt_v hx hb hr hlk hK hS ((g_this, g_this_trial, g_this_chosenBy, g_this_paidBy, g_this_toPay, g_this_plan) : TM × (Nat → Int64) × (Nat → Int64) × (Nat → Int64) × (Nat → Int64) × (Nat → Int32)) (retv h) hP hD dX9_turn_152
        · replace h := iteT c8 h
          refine lv_aload_n hx hb dX9_turn_130 rfl (lv_at hl 4 rfl) ?_
          refine gf_X9_17 (v := .ref (a_this 3)) hx hb hqs hown hK hP 0 rfl rfl dX9_turn_131 ?_
          refine lv_iload_n hx hb dX9_turn_134 rfl (lv_at hl 2 rfl) ?_
          refine lv_iload hx hb dX9_turn_135 (lv_at hl 1 rfl) ?_
          refine lv_iconst (v := 1) hx hb dX9_turn_137 (by decide) ?_
          refine lv_iload_n hx hb dX9_turn_138 rfl (lv_at hl 5 rfl) ?_
          refine lv_sipush (v := 512) hx hb dX9_turn_139 (by decide) ?_
          refine lv_idiv hx hb dX9_turn_142 (by decide) ?_
          refine lv_sipush (v := 1000) hx hb dX9_turn_143 (by decide) ?_
          refine lv_irem hx hb dX9_turn_146 (by decide) ?_
          refine lv_iadd hx hb dX9_turn_147 ?_
          obtain ⟨o9, e9, h⟩ := obind h
          have hPc := hP.sub (ws' := (cJ_ dT (a_this 3) 353 g_this_trial)) [5] rfl
          have hDc := hD.sub (ws' := (cJ_ dT (a_this 3) 353 g_this_trial)) [5] (by decide) rfl
          have hFc := va_free (wc := (cJ_ dT (a_this 3) 353 g_this_trial)) hD hS hA [5] rfl
          refine cl_i (wr := (cM a_this g_this ++ (cJ_ dT (a_this 7) 128 g_this_chosenBy ++ (cJ_ dT (a_this 8) 128 g_this_paidBy ++ (cJ_ dT (a_this 9) 128 g_this_toPay ++ (cI_ dT (a_this 10) 7 g_this_plan)))))) (va_runS (As := [.ref (a_this 3), .int ((v1 / (8 : Int32)) - (v1 / (8 : Int32)) / (Int64.toInt32 (g_this_trial (0 : Int32).toNatClampNeg)) * (Int64.toInt32 (g_this_trial (0 : Int32).toNatClampNeg))), .int ((v1 / (64 : Int32)) - (v1 / (64 : Int32)) / (Int64.toInt32 (g_this_trial (0 : Int32).toNatClampNeg)) * (Int64.toInt32 (g_this_trial (0 : Int32).toNatClampNeg))), .int ((1 : Int32) + ((v1 / (512 : Int32)) - (v1 / (512 : Int32)) / (1000 : Int32) * (1000 : Int32)))]) (rest := []) ⟨hx, hb, hml, hown, hts⟩ (c_X9_driftOn l hlt D dT (a_this 3) 353 g_this_trial ((v1 / (8 : Int32)) - (v1 / (8 : Int32)) / (Int64.toInt32 (g_this_trial (0 : Int32).toNatClampNeg)) * (Int64.toInt32 (g_this_trial (0 : Int32).toNatClampNeg))) ((v1 / (64 : Int32)) - (v1 / (64 : Int32)) / (Int64.toInt32 (g_this_trial (0 : Int32).toNatClampNeg)) * (Int64.toInt32 (g_this_trial (0 : Int32).toNatClampNeg))) ((1 : Int32) + ((v1 / (512 : Int32)) - (v1 / (512 : Int32)) / (1000 : Int32) * (1000 : Int32))) o9 e9 _) (va_cwS 4 hts (TB_S w_1256 w_1257 w_59 w_1258) rfl rfl rfl nd_X9_driftOn ⟨Nat.le_of_ble_eq_true rfl, Nat.le_of_ble_eq_true rfl⟩) (cPre.S hPc hDc hK hE hS hFc) rfl rfl hl.1 rfl (lv_room (Nat.le_of_ble_eq_true rfl)) dX9_turn_148 ⟨Nat.zero_le _, Nat.zero_le _⟩) hP hD hS hFc [5] [0, 1, 2, 3, 4] rfl rfl (by decide) (by decide) (fun r9 u9 H locs hw hP hD hS => ?_)
          obtain ⟨rfl, rfl⟩ := hw
          have hP : va_P D vwCl (cM a_this g_this ++ (cJ_ dT (a_this 7) 128 g_this_chosenBy ++ (cJ_ dT (a_this 8) 128 g_this_paidBy ++ (cJ_ dT (a_this 9) 128 g_this_toPay ++ (cI_ dT (a_this 10) 7 g_this_plan ++ (cJ_ dT (a_this 3) 353 o9.2)))))) H := hP
          have hD : va_D A (cM a_this g_this ++ (cJ_ dT (a_this 7) 128 g_this_chosenBy ++ (cJ_ dT (a_this 8) 128 g_this_paidBy ++ (cJ_ dT (a_this 9) 128 g_this_toPay ++ (cI_ dT (a_this 10) 7 g_this_plan ++ (cJ_ dT (a_this 3) 353 o9.2)))))) := hD
          refine lv_pop hx hb dX9_turn_151 rfl ?_
          have hP := hP.sub (ws' := (cM a_this g_this ++ (cJ_ dT (a_this 3) 353 o9.2 ++ (cJ_ dT (a_this 7) 128 g_this_chosenBy ++ (cJ_ dT (a_this 8) 128 g_this_paidBy ++ (cJ_ dT (a_this 9) 128 g_this_toPay ++ (cI_ dT (a_this 10) 7 g_this_plan))))))) [0, 5, 1, 2, 3, 4] rfl
          have hD := hD.sub (ws' := (cM a_this g_this ++ (cJ_ dT (a_this 3) 353 o9.2 ++ (cJ_ dT (a_this 7) 128 g_this_chosenBy ++ (cJ_ dT (a_this 8) 128 g_this_paidBy ++ (cJ_ dT (a_this 9) 128 g_this_toPay ++ (cI_ dT (a_this 10) 7 g_this_plan))))))) [0, 5, 1, 2, 3, 4] (by decide) rfl
          exact rt_v hx hb hr hlk hK hS ((g_this, o9.2, g_this_chosenBy, g_this_paidBy, g_this_toPay, g_this_plan) : TM × (Nat → Int64) × (Nat → Int64) × (Nat → Int64) × (Nat → Int64) × (Nat → Int32)) (retv h) hP hD dX9_turn_152
      · replace h := iteT c6 h
        refine lv_aload_n hx hb dX9_turn_84 rfl (lv_at hl 4 rfl) ?_
        refine gf_X9_17 (v := .ref (a_this 3)) hx hb hqs hown hK hP 0 rfl rfl dX9_turn_85 ?_
        refine lv_sipush (v := 302) hx hb dX9_turn_88 (by decide) ?_
        refine lv_iconst (v := 1) hx hb dX9_turn_91 (by decide) ?_
        refine lv_iload_n hx hb dX9_turn_92 rfl (lv_at hl 5 rfl) ?_
        refine lv_bipush (v := 8) hx hb dX9_turn_93 (by decide) ?_
        refine lv_idiv hx hb dX9_turn_95 (by decide) ?_
        refine lv_sipush (v := 200) hx hb dX9_turn_96 (by decide) ?_
        refine lv_irem hx hb dX9_turn_99 (by decide) ?_
        refine lv_iadd hx hb dX9_turn_100 ?_
        refine lv_i2l hx hb dX9_turn_101 rfl ?_
        obtain ⟨g10, h⟩ := chk h
        refine va_last hx hb hK hP hD hS 1 1 rfl rfl (inb_in g10) dX9_turn_102 (fun H locs hP hD hS => ?_)
        have hP : va_P D vwCl (cM a_this g_this ++ (cJ_ dT (a_this 3) 353 (vp_updL g_this_trial (302 : Int32).toNatClampNeg (Int32.toInt64 ((1 : Int32) + ((v1 / (8 : Int32)) - (v1 / (8 : Int32)) / (200 : Int32) * (200 : Int32))))) ++ (cJ_ dT (a_this 7) 128 g_this_chosenBy ++ (cJ_ dT (a_this 8) 128 g_this_paidBy ++ (cJ_ dT (a_this 9) 128 g_this_toPay ++ (cI_ dT (a_this 10) 7 g_this_plan)))))) H := hP
        have hD : va_D A (cM a_this g_this ++ (cJ_ dT (a_this 3) 353 (vp_updL g_this_trial (302 : Int32).toNatClampNeg (Int32.toInt64 ((1 : Int32) + ((v1 / (8 : Int32)) - (v1 / (8 : Int32)) / (200 : Int32) * (200 : Int32))))) ++ (cJ_ dT (a_this 7) 128 g_this_chosenBy ++ (cJ_ dT (a_this 8) 128 g_this_paidBy ++ (cJ_ dT (a_this 9) 128 g_this_toPay ++ (cI_ dT (a_this 10) 7 g_this_plan)))))) := hD
        refine lv_goto (tgt := 152) hx hb dX9_turn_103 (by decide) ?_
        exact rt_v hx hb hr hlk hK hS ((g_this, (vp_updL g_this_trial (302 : Int32).toNatClampNeg (Int32.toInt64 ((1 : Int32) + ((v1 / (8 : Int32)) - (v1 / (8 : Int32)) / (200 : Int32) * (200 : Int32))))), g_this_chosenBy, g_this_paidBy, g_this_toPay, g_this_plan) : TM × (Nat → Int64) × (Nat → Int64) × (Nat → Int64) × (Nat → Int64) × (Nat → Int32)) (retv h) hP hD dX9_turn_152
    · replace h := iteT c5 h
      refine lv_aload_n hx hb dX9_turn_65 rfl (lv_at hl 4 rfl) ?_
      refine gf_X9_17 (v := .ref (a_this 3)) hx hb hqs hown hK hP 0 rfl rfl dX9_turn_66 ?_
      refine lv_iconst (v := 1) hx hb dX9_turn_69 (by decide) ?_
      obtain ⟨o11, e11, h⟩ := obind h
      have hPc := hP.sub (ws' := (cJ_ dT (a_this 3) 353 g_this_trial)) [1] rfl
      have hDc := hD.sub (ws' := (cJ_ dT (a_this 3) 353 g_this_trial)) [1] (by decide) rfl
      have hFc := va_free (wc := (cJ_ dT (a_this 3) 353 g_this_trial)) hD hS hA [1] rfl
      refine cl_i (wr := (cM a_this g_this ++ (cJ_ dT (a_this 7) 128 g_this_chosenBy ++ (cJ_ dT (a_this 8) 128 g_this_paidBy ++ (cJ_ dT (a_this 9) 128 g_this_toPay ++ (cI_ dT (a_this 10) 7 g_this_plan)))))) (va_runS (As := [.ref (a_this 3), .int (1 : Int32)]) (rest := []) ⟨hx, hb, hml, hown, hts⟩ (c_X9_weeksOn l hlt D dT (a_this 3) 353 g_this_trial (1 : Int32) o11 e11 _) (va_cwS 2 hts (TB_S w_1315 w_1316 w_59 w_1317) rfl rfl rfl nd_X9_weeksOn ⟨Nat.le_of_ble_eq_true rfl, Nat.le_of_ble_eq_true rfl⟩) (cPre.S hPc hDc hK hE hS hFc) rfl rfl hl.1 rfl (lv_room (Nat.le_of_ble_eq_true rfl)) dX9_turn_70 ⟨Nat.zero_le _, Nat.zero_le _⟩) hP hD hS hFc [1] [0, 2, 3, 4, 5] rfl rfl (by decide) (by decide) (fun r11 u11 H locs hw hP hD hS => ?_)
      obtain ⟨rfl, rfl⟩ := hw
      have hP : va_P D vwCl (cM a_this g_this ++ (cJ_ dT (a_this 7) 128 g_this_chosenBy ++ (cJ_ dT (a_this 8) 128 g_this_paidBy ++ (cJ_ dT (a_this 9) 128 g_this_toPay ++ (cI_ dT (a_this 10) 7 g_this_plan ++ (cJ_ dT (a_this 3) 353 o11.2)))))) H := hP
      have hD : va_D A (cM a_this g_this ++ (cJ_ dT (a_this 7) 128 g_this_chosenBy ++ (cJ_ dT (a_this 8) 128 g_this_paidBy ++ (cJ_ dT (a_this 9) 128 g_this_toPay ++ (cI_ dT (a_this 10) 7 g_this_plan ++ (cJ_ dT (a_this 3) 353 o11.2)))))) := hD
      refine lv_pop hx hb dX9_turn_73 rfl ?_
      refine lv_goto (tgt := 152) hx hb dX9_turn_74 (by decide) ?_
      have hP := hP.sub (ws' := (cM a_this g_this ++ (cJ_ dT (a_this 3) 353 o11.2 ++ (cJ_ dT (a_this 7) 128 g_this_chosenBy ++ (cJ_ dT (a_this 8) 128 g_this_paidBy ++ (cJ_ dT (a_this 9) 128 g_this_toPay ++ (cI_ dT (a_this 10) 7 g_this_plan))))))) [0, 5, 1, 2, 3, 4] rfl
      have hD := hD.sub (ws' := (cM a_this g_this ++ (cJ_ dT (a_this 3) 353 o11.2 ++ (cJ_ dT (a_this 7) 128 g_this_chosenBy ++ (cJ_ dT (a_this 8) 128 g_this_paidBy ++ (cJ_ dT (a_this 9) 128 g_this_toPay ++ (cI_ dT (a_this 10) 7 g_this_plan))))))) [0, 5, 1, 2, 3, 4] (by decide) rfl
      exact rt_v hx hb hr hlk hK hS ((g_this, o11.2, g_this_chosenBy, g_this_paidBy, g_this_toPay, g_this_plan) : TM × (Nat → Int64) × (Nat → Int64) × (Nat → Int64) × (Nat → Int64) × (Nat → Int32)) (retv h) hP hD dX9_turn_152
  · replace h := iteF c4 h
    refine lv_aload_n hx hb dX9_turn_35 rfl (lv_at hl 4 rfl) ?_
    refine lv_aload_n hx hb dX9_turn_36 rfl (lv_at hl 4 rfl) ?_
    refine gf_X9_17 (v := .ref (a_this 3)) hx hb hqs hown hK hP 0 rfl rfl dX9_turn_37 ?_
    refine lv_iconst (v := 1) hx hb dX9_turn_40 (by decide) ?_
    refine lv_iload_n hx hb dX9_turn_41 rfl (lv_at hl 5 rfl) ?_
    refine lv_bipush (v := 8) hx hb dX9_turn_42 (by decide) ?_
    refine lv_idiv hx hb dX9_turn_44 (by decide) ?_
    refine lv_iconst (v := 1) hx hb dX9_turn_45 (by decide) ?_
    refine lv_iload_n hx hb dX9_turn_46 rfl (lv_at hl 3 rfl) ?_
    refine lv_ishl hx hb dX9_turn_47 ?_
    refine lv_iconst (v := 1) hx hb dX9_turn_48 (by decide) ?_
    refine lv_isub hx hb dX9_turn_49 ?_
    obtain ⟨g12, h⟩ := chn h
    refine lv_irem hx hb dX9_turn_50 g12 ?_
    refine lv_iadd hx hb dX9_turn_51 ?_
    obtain ⟨o13, e13, h⟩ := obind h
    have hPc := hP.sub (ws' := (cM a_this g_this ++ (cJ_ dT (a_this 7) 128 g_this_chosenBy ++ (cJ_ dT (a_this 8) 128 g_this_paidBy ++ (cJ_ dT (a_this 9) 128 g_this_toPay ++ (cI_ dT (a_this 10) 7 g_this_plan ++ (cJ_ dT (a_this 3) 353 g_this_trial))))))) [0, 2, 3, 4, 5, 1] rfl
    have hDc := hD.sub (ws' := (cM a_this g_this ++ (cJ_ dT (a_this 7) 128 g_this_chosenBy ++ (cJ_ dT (a_this 8) 128 g_this_paidBy ++ (cJ_ dT (a_this 9) 128 g_this_toPay ++ (cI_ dT (a_this 10) 7 g_this_plan ++ (cJ_ dT (a_this 3) 353 g_this_trial))))))) [0, 2, 3, 4, 5, 1] (by decide) rfl
    have hFc := va_free (wc := (cM a_this g_this ++ (cJ_ dT (a_this 7) 128 g_this_chosenBy ++ (cJ_ dT (a_this 8) 128 g_this_paidBy ++ (cJ_ dT (a_this 9) 128 g_this_toPay ++ (cI_ dT (a_this 10) 7 g_this_plan ++ (cJ_ dT (a_this 3) 353 g_this_trial))))))) hD hS hA [0, 2, 3, 4, 5, 1] rfl
    refine cl_i (wr := ([] : va_W)) (va_runV (As := [.ref (a_this 3), .int ((1 : Int32) + ((v1 / (8 : Int32)) - (v1 / (8 : Int32)) / (((1 : Int32) <<< ((Int64.toInt32 (g_this_trial (0 : Int32).toNatClampNeg)) &&& 31)) - (1 : Int32)) * (((1 : Int32) <<< ((Int64.toInt32 (g_this_trial (0 : Int32).toNatClampNeg)) &&& 31)) - (1 : Int32))))]) (rest := []) ⟨hx, hb, hml, hown, hts⟩ (c_X9_runOn l hlt D dT a_this (a_this 3) 353 g_this g_this_chosenBy g_this_paidBy g_this_toPay g_this_plan g_this_trial ((1 : Int32) + ((v1 / (8 : Int32)) - (v1 / (8 : Int32)) / (((1 : Int32) <<< ((Int64.toInt32 (g_this_trial (0 : Int32).toNatClampNeg)) &&& 31)) - (1 : Int32)) * (((1 : Int32) <<< ((Int64.toInt32 (g_this_trial (0 : Int32).toNatClampNeg)) &&& 31)) - (1 : Int32)))) o13 e13 _) (cwV 2 hts (TB_V w_1269 w_1271 w_40 w_59 w_1272) rfl rfl rfl ⟨rfl, nd_X9_runOn⟩ ⟨Nat.le_of_ble_eq_true rfl, Nat.le_of_ble_eq_true rfl⟩) (cPre.V hPc hDc hK hE hS hFc (va_recv hK hP (ci := 8) (q0 := 0) rfl rfl)) rfl rfl hl.1 rfl (lv_room (Nat.le_of_ble_eq_true rfl)) dX9_turn_52 ⟨Nat.zero_le _, Nat.zero_le _⟩) hP hD hS hFc [0, 2, 3, 4, 5, 1] [] rfl rfl (by decide) (by decide) (fun r13 u13 H locs hw hP hD hS => ?_)
    obtain ⟨rfl, rfl⟩ := hw
    have hP : va_P D vwCl (cM a_this o13.2.1 ++ (cJ_ dT (a_this 7) 128 o13.2.2.1 ++ (cJ_ dT (a_this 8) 128 o13.2.2.2.1 ++ (cJ_ dT (a_this 9) 128 o13.2.2.2.2.1 ++ (cI_ dT (a_this 10) 7 o13.2.2.2.2.2.1 ++ (cJ_ dT (a_this 3) 353 o13.2.2.2.2.2.2)))))) H := hP
    have hD : va_D A (cM a_this o13.2.1 ++ (cJ_ dT (a_this 7) 128 o13.2.2.1 ++ (cJ_ dT (a_this 8) 128 o13.2.2.2.1 ++ (cJ_ dT (a_this 9) 128 o13.2.2.2.2.1 ++ (cI_ dT (a_this 10) 7 o13.2.2.2.2.2.1 ++ (cJ_ dT (a_this 3) 353 o13.2.2.2.2.2.2)))))) := hD
    refine lv_pop hx hb dX9_turn_55 rfl ?_
    refine lv_goto (tgt := 152) hx hb dX9_turn_56 (by decide) ?_
    have hP := hP.sub (ws' := (cM a_this o13.2.1 ++ (cJ_ dT (a_this 3) 353 o13.2.2.2.2.2.2 ++ (cJ_ dT (a_this 7) 128 o13.2.2.1 ++ (cJ_ dT (a_this 8) 128 o13.2.2.2.1 ++ (cJ_ dT (a_this 9) 128 o13.2.2.2.2.1 ++ (cI_ dT (a_this 10) 7 o13.2.2.2.2.2.1))))))) [0, 5, 1, 2, 3, 4] rfl
    have hD := hD.sub (ws' := (cM a_this o13.2.1 ++ (cJ_ dT (a_this 3) 353 o13.2.2.2.2.2.2 ++ (cJ_ dT (a_this 7) 128 o13.2.2.1 ++ (cJ_ dT (a_this 8) 128 o13.2.2.2.1 ++ (cJ_ dT (a_this 9) 128 o13.2.2.2.2.1 ++ (cI_ dT (a_this 10) 7 o13.2.2.2.2.2.1))))))) [0, 5, 1, 2, 3, 4] (by decide) rfl
    exact rt_v hx hb hr hlk hK hS ((o13.2.1, o13.2.2.2.2.2.2, o13.2.2.1, o13.2.2.2.1, o13.2.2.2.2.1, o13.2.2.2.2.2.1) : TM × (Nat → Int64) × (Nat → Int64) × (Nat → Int64) × (Nat → Int64) × (Nat → Int32)) (retv h) hP hD dX9_turn_152

def f_X9_simulate_L45 (g_this_now : Nat → Int64) (x3 : Int32) (k90 : TM → (Nat → Int64) → (Nat → Int64) → (Nat → Int64) → (Nat → Int64) → (Nat → Int32) → Option (Int32 × (TM × (Nat → Int64) × (Nat → Int64) × (Nat → Int64) × (Nat → Int64) × (Nat → Int32)))) : Nat → Int64 → Int32 → TM → (Nat → Int64) → (Nat → Int64) → (Nat → Int64) → (Nat → Int64) → (Nat → Int32) → Option (Int32 × (TM × (Nat → Int64) × (Nat → Int64) × (Nat → Int64) × (Nat → Int64) × (Nat → Int32)))
  | 0, _, _, _, _, _, _, _, _ => none
  | n + 1, x4, x6, g_this, g_this_trial, g_this_chosenBy, g_this_paidBy, g_this_toPay, g_this_plan =>
    (if x3 ≤ x6 then (k90 g_this g_this_trial g_this_chosenBy g_this_paidBy g_this_toPay g_this_plan) else (if inb (0 : Int32) 353 = true then (if (lg_cmp (g_this_trial (0 : Int32).toNatClampNeg) (0 : Int64)) ≤ (0 : Int32) then (k90 g_this g_this_trial g_this_chosenBy g_this_paidBy g_this_toPay g_this_plan) else ((f_X9_turn g_this g_this_trial g_this_chosenBy g_this_paidBy g_this_toPay g_this_plan (Int64.toInt32 ((Int64.toUInt64 ((x4 * (6364136223846793005 : Int64)) + (1442695040888963407 : Int64)) >>> (Int64.toUInt64 (Int32.toInt64 (33 : Int32)) &&& Int64.toUInt64 63)).toInt64))).bind fun o9 => (f_X9_simulate_L45 g_this_now x3 k90 n ((x4 * (6364136223846793005 : Int64)) + (1442695040888963407 : Int64)) (x6 + (1 : Int32)) o9.2.1 o9.2.2.1 o9.2.2.2.1 o9.2.2.2.2.1 o9.2.2.2.2.2.1 o9.2.2.2.2.2.2))) else none))
def f_X9_simulate_J90 (g_this_now : Nat → Int64)  (g_this : TM) (g_this_trial : Nat → Int64) (g_this_chosenBy : Nat → Int64) (g_this_paidBy : Nat → Int64) (g_this_toPay : Nat → Int64) (g_this_plan : Nat → Int32) : Option (Int32 × (TM × (Nat → Int64) × (Nat → Int64) × (Nat → Int64) × (Nat → Int64) × (Nat → Int32))) :=
    (if inb (307 : Int32) 353 = true then (if inb (307 : Int32) 353 = true then ((f_X9_count 353 g_this_trial (155 : Int32)).bind fun o13 => (some ((Int64.toInt32 (((100 : Int64) * ((g_this_trial (307 : Int32).toNatClampNeg) - (g_this_now (307 : Int32).toNatClampNeg))) + o13.1)), (g_this, g_this_trial, g_this_chosenBy, g_this_paidBy, g_this_toPay, g_this_plan)))) else none) else none)
def f_X9_simulate_J18 (g_this_now : Nat → Int64)  (x1 : Int64) (x3 : Int32) (s0 : Int32) (g_this : TM) (g_this_trial : Nat → Int64) (g_this_chosenBy : Nat → Int64) (g_this_paidBy : Nat → Int64) (g_this_toPay : Nat → Int64) (g_this_plan : Nat → Int32) : Option (Int32 × (TM × (Nat → Int64) × (Nat → Int64) × (Nat → Int64) × (Nat → Int64) × (Nat → Int32))) :=
    ((f_X9_refused g_this s0).bind fun o3 => (if o3.1 = (0 : Int32) then ((f_X9_copyWorld 353 353 g_this_now g_this_trial (0 : Int32) (0 : Int32)).bind fun o5 => (f_X9_simulate_L45 g_this_now x3 (fun (y10g_this : TM) (y10g_this_trial : Nat → Int64) (y10g_this_chosenBy : Nat → Int64) (y10g_this_paidBy : Nat → Int64) (y10g_this_toPay : Nat → Int64) (y10g_this_plan : Nat → Int32) => (f_X9_simulate_J90 g_this_now y10g_this y10g_this_trial y10g_this_chosenBy y10g_this_paidBy y10g_this_toPay y10g_this_plan)) FUEL x1 (0 : Int32) o3.2 o5.2 g_this_chosenBy g_this_paidBy g_this_toPay g_this_plan)) else (some ((0 : Int32), (o3.2, g_this_trial, g_this_chosenBy, g_this_paidBy, g_this_toPay, g_this_plan)))))
def f_X9_simulate (g_this : TM) (g_this_now : Nat → Int64) (g_this_trial : Nat → Int64) (g_this_chosenBy : Nat → Int64) (g_this_paidBy : Nat → Int64) (g_this_toPay : Nat → Int64) (g_this_plan : Nat → Int32) (v1 : Int64) (v3 : Int32) : Option (Int32 × (TM × (Nat → Int64) × (Nat → Int64) × (Nat → Int64) × (Nat → Int64) × (Nat → Int32))) :=
  ((f_X9_in (Int32.toInt64 v3) (1 : Int64) (40 : Int64)).bind fun o1 => (if o1.1 = (0 : Int32) then (f_X9_simulate_J18 g_this_now v1 v3 (1 : Int32) g_this g_this_trial g_this_chosenBy g_this_paidBy g_this_toPay g_this_plan) else (f_X9_simulate_J18 g_this_now v1 v3 (0 : Int32) g_this g_this_trial g_this_chosenBy g_this_paidBy g_this_toPay g_this_plan)))
set_option maxHeartbeats 8000000 in
set_option maxRecDepth 100000 in
theorem c_X9_simulate (l : Launch) (hlt : l.stackTraces = false) (D : va_G) (dT : Nat → ClassId) (a_this : Nat → Nat) (g_this : TM) (g_this_now : Nat → Int64) (g_this_trial : Nat → Int64) (g_this_chosenBy : Nat → Int64) (g_this_paidBy : Nat → Int64) (g_this_toPay : Nat → Int64) (g_this_plan : Nat → Int32) (v1 : Int64) (v3 : Int32) (o : (Int32 × (TM × (Nat → Int64) × (Nat → Int64) × (Nat → Int64) × (Nat → Int64) × (Nat → Int32)))) (h : f_X9_simulate g_this g_this_now g_this_trial g_this_chosenBy g_this_paidBy g_this_toPay g_this_plan v1 v3 = some o) (sz : Nat) : Met l yX9_simulate (WSm yX9_simulate cX9_simulate 7 (some .int)) { frames := 8, cells := 0, slots := 0, locals := 202 } (va_Pc [.ref (a_this 0), .long v1, .int v3] (cPre D dT (cM a_this g_this ++ (cJ_ dT (a_this 2) 353 g_this_now ++ (cJ_ dT (a_this 3) 353 g_this_trial ++ (cJ_ dT (a_this 7) 128 g_this_chosenBy ++ (cJ_ dT (a_this 8) 128 g_this_paidBy ++ (cJ_ dT (a_this 9) 128 g_this_toPay ++ (cI_ dT (a_this 10) 7 g_this_plan))))))) sz)) (va_Qi (fun (r : Int32) (u : TM × (Nat → Int64) × (Nat → Int64) × (Nat → Int64) × (Nat → Int64) × (Nat → Int32)) => r = o.1 ∧ u = o.2) (fun u t => cAt D dT (va_A (cM a_this g_this ++ (cJ_ dT (a_this 2) 353 g_this_now ++ (cJ_ dT (a_this 3) 353 g_this_trial ++ (cJ_ dT (a_this 7) 128 g_this_chosenBy ++ (cJ_ dT (a_this 8) 128 g_this_paidBy ++ (cJ_ dT (a_this 9) 128 g_this_toPay ++ (cI_ dT (a_this 10) 7 g_this_plan))))))) sz) (cM a_this (u.1) ++ (cJ_ dT (a_this 2) 353 g_this_now ++ (cJ_ dT (a_this 3) 353 (u.2.1) ++ (cJ_ dT (a_this 7) 128 (u.2.2.1) ++ (cJ_ dT (a_this 8) 128 (u.2.2.2.1) ++ (cJ_ dT (a_this 9) 128 (u.2.2.2.2.1) ++ (cI_ dT (a_this 10) 7 (u.2.2.2.2.2)))))))) t) (va_A (cM a_this g_this ++ (cJ_ dT (a_this 2) 353 g_this_now ++ (cJ_ dT (a_this 3) 353 g_this_trial ++ (cJ_ dT (a_this 7) 128 g_this_chosenBy ++ (cJ_ dT (a_this 8) 128 g_this_paidBy ++ (cJ_ dT (a_this 9) 128 g_this_toPay ++ (cI_ dT (a_this 10) 7 g_this_plan))))))) sz)) 0 0 (va_A (cM a_this g_this ++ (cJ_ dT (a_this 2) 353 g_this_now ++ (cJ_ dT (a_this 3) 353 g_this_trial ++ (cJ_ dT (a_this 7) 128 g_this_chosenBy ++ (cJ_ dT (a_this 8) 128 g_this_paidBy ++ (cJ_ dT (a_this 9) 128 g_this_toPay ++ (cI_ dT (a_this 10) 7 g_this_plan))))))) sz) := by
  refine mStart (WS := (cM a_this g_this ++ (cJ_ dT (a_this 2) 353 g_this_now ++ (cJ_ dT (a_this 3) 353 g_this_trial ++ (cJ_ dT (a_this 7) 128 g_this_chosenBy ++ (cJ_ dT (a_this 8) 128 g_this_paidBy ++ (cJ_ dT (a_this 9) 128 g_this_toPay ++ (cI_ dT (a_this 10) 7 g_this_plan)))))))) (Qc := fun A => va_Qi (fun (r : Int32) (u : TM × (Nat → Int64) × (Nat → Int64) × (Nat → Int64) × (Nat → Int64) × (Nat → Int32)) => r = o.1 ∧ u = o.2) (fun u t => cAt D dT A (cM a_this (u.1) ++ (cJ_ dT (a_this 2) 353 g_this_now ++ (cJ_ dT (a_this 3) 353 (u.2.1) ++ (cJ_ dT (a_this 7) 128 (u.2.2.1) ++ (cJ_ dT (a_this 8) 128 (u.2.2.2.1) ++ (cJ_ dT (a_this 9) 128 (u.2.2.2.2.1) ++ (cI_ dT (a_this 10) 7 (u.2.2.2.2.2)))))))) t) A) RX9 rfl (by decide) (Nat.le_of_ble_eq_true rfl) ?_ sz
  intro p e s m below meth c A ls hx hb hml hr hlk hnm hts hqs hown hE hA hK hP hD hS hl
  have hl : lv_has ls 7 [(0, .ref (a_this 0)), (1, .long v1), (3, .int v3)] := hl
  have L_f_X9_simulate_L45 : ∀ (g_this_now : Nat → Int64) (x3 : Int32) (k90 : TM → (Nat → Int64) → (Nat → Int64) → (Nat → Int64) → (Nat → Int64) → (Nat → Int32) → Option (Int32 × (TM × (Nat → Int64) × (Nat → Int64) × (Nat → Int64) × (Nat → Int64) × (Nat → Int32)))) (hk90 : ∀ (g_this : TM) (g_this_trial : Nat → Int64) (g_this_chosenBy : Nat → Int64) (g_this_paidBy : Nat → Int64) (g_this_toPay : Nat → Int64) (g_this_plan : Nat → Int32) (H : Heap) (locs : List Loc) (ls : Array Slot), k90 g_this g_this_trial g_this_chosenBy g_this_paidBy g_this_toPay g_this_plan = some o → va_P D vwCl (cM a_this g_this ++ (cJ_ dT (a_this 2) 353 g_this_now ++ (cJ_ dT (a_this 3) 353 g_this_trial ++ (cJ_ dT (a_this 7) 128 g_this_chosenBy ++ (cJ_ dT (a_this 8) 128 g_this_paidBy ++ (cJ_ dT (a_this 9) 128 g_this_toPay ++ (cI_ dT (a_this 10) 7 g_this_plan))))))) H → va_D A (cM a_this g_this ++ (cJ_ dT (a_this 2) 353 g_this_now ++ (cJ_ dT (a_this 3) 353 g_this_trial ++ (cJ_ dT (a_this 7) 128 g_this_chosenBy ++ (cJ_ dT (a_this 8) 128 g_this_paidBy ++ (cJ_ dT (a_this 9) 128 g_this_toPay ++ (cI_ dT (a_this 10) 7 g_this_plan))))))) → va_S A s.heap H locs → lv_has ls 7 [(0, .ref (a_this 0))] → W p l e (headSpec (WSm yX9_simulate cX9_simulate 7 (some .int)) { frames := 8, cells := 0, slots := 0, locals := 202 }).room s m [.ref (a_this 0), .long v1, .int v3].toArray below meth c H locs 0 0 (MQ below (va_Qi (fun (r : Int32) (u : TM × (Nat → Int64) × (Nat → Int64) × (Nat → Int64) × (Nat → Int64) × (Nat → Int32)) => r = o.1 ∧ u = o.2) (fun u t => cAt D dT A (cM a_this (u.1) ++ (cJ_ dT (a_this 2) 353 g_this_now ++ (cJ_ dT (a_this 3) 353 (u.2.1) ++ (cJ_ dT (a_this 7) 128 (u.2.2.1) ++ (cJ_ dT (a_this 8) 128 (u.2.2.2.1) ++ (cJ_ dT (a_this 9) 128 (u.2.2.2.2.1) ++ (cI_ dT (a_this 10) 7 (u.2.2.2.2.2)))))))) t) A) [.ref (a_this 0), .long v1, .int v3].toArray s 0 0 A) (F0 m 90 ls [])) (n : Nat), ∀ (x4 : Int64) (x6 : Int32) (g_this : TM) (g_this_trial : Nat → Int64) (g_this_chosenBy : Nat → Int64) (g_this_paidBy : Nat → Int64) (g_this_toPay : Nat → Int64) (g_this_plan : Nat → Int32) (H : Heap) (locs : List Loc) (ls : Array Slot), f_X9_simulate_L45 g_this_now x3 k90 n x4 x6 g_this g_this_trial g_this_chosenBy g_this_paidBy g_this_toPay g_this_plan = some o → va_P D vwCl (cM a_this g_this ++ (cJ_ dT (a_this 2) 353 g_this_now ++ (cJ_ dT (a_this 3) 353 g_this_trial ++ (cJ_ dT (a_this 7) 128 g_this_chosenBy ++ (cJ_ dT (a_this 8) 128 g_this_paidBy ++ (cJ_ dT (a_this 9) 128 g_this_toPay ++ (cI_ dT (a_this 10) 7 g_this_plan))))))) H → va_D A (cM a_this g_this ++ (cJ_ dT (a_this 2) 353 g_this_now ++ (cJ_ dT (a_this 3) 353 g_this_trial ++ (cJ_ dT (a_this 7) 128 g_this_chosenBy ++ (cJ_ dT (a_this 8) 128 g_this_paidBy ++ (cJ_ dT (a_this 9) 128 g_this_toPay ++ (cI_ dT (a_this 10) 7 g_this_plan))))))) → va_S A s.heap H locs → lv_has ls 7 [(0, .ref (a_this 0)), (3, .int x3), (4, .long x4), (6, .int x6)] → W p l e (headSpec (WSm yX9_simulate cX9_simulate 7 (some .int)) { frames := 8, cells := 0, slots := 0, locals := 202 }).room s m [.ref (a_this 0), .long v1, .int v3].toArray below meth c H locs 0 0 (MQ below (va_Qi (fun (r : Int32) (u : TM × (Nat → Int64) × (Nat → Int64) × (Nat → Int64) × (Nat → Int64) × (Nat → Int32)) => r = o.1 ∧ u = o.2) (fun u t => cAt D dT A (cM a_this (u.1) ++ (cJ_ dT (a_this 2) 353 g_this_now ++ (cJ_ dT (a_this 3) 353 (u.2.1) ++ (cJ_ dT (a_this 7) 128 (u.2.2.1) ++ (cJ_ dT (a_this 8) 128 (u.2.2.2.1) ++ (cJ_ dT (a_this 9) 128 (u.2.2.2.2.1) ++ (cI_ dT (a_this 10) 7 (u.2.2.2.2.2)))))))) t) A) [.ref (a_this 0), .long v1, .int v3].toArray s 0 0 A) (F0 m 45 ls []) := by
    intro g_this_now x3 k90 hk90 n
    induction n with
    | zero => intro x4 x6 g_this g_this_trial g_this_chosenBy g_this_paidBy g_this_toPay g_this_plan H locs ls h; exact nomatch h
    | succ n ih =>
      intro x4 x6 g_this g_this_trial g_this_chosenBy g_this_paidBy g_this_toPay g_this_plan H locs ls h hP hD hS hl
      unfold f_X9_simulate_L45 at h
      refine lv_iload hx hb dX9_simulate_45 (lv_at hl 3 rfl) ?_
      refine lv_iload_n hx hb dX9_simulate_47 rfl (lv_at hl 1 rfl) ?_
      refine lv_icmp_ge (tgt := 90) hx hb dX9_simulate_48 (by decide) (fun c6 => ?_) (fun c6 => ?_)
      · replace h := iteT c6 h
        exact hk90 g_this g_this_trial g_this_chosenBy g_this_paidBy g_this_toPay g_this_plan _ _ _ h hP hD hS (lv_sub hl [0] rfl)
      · replace h := iteF c6 h
        refine lv_aload_n hx hb dX9_simulate_51 rfl (lv_at hl 0 rfl) ?_
        refine gf_X9_17 (v := .ref (a_this 3)) hx hb hqs hown hK hP 0 rfl rfl dX9_simulate_52 ?_
        refine lv_iconst (v := 0) hx hb dX9_simulate_55 (by decide) ?_
        obtain ⟨g7, h⟩ := chk h
        refine va_lald hx hb hK hP 2 1 rfl rfl (inb_in g7) dX9_simulate_56 ?_
        refine lv_lconst (v := 0) hx hb dX9_simulate_57 (by decide) ?_
        refine W.lcmp hx hb dX9_simulate_58 ?_
        refine lv_if_le (tgt := 90) hx hb dX9_simulate_59 (by decide) (fun c8 => ?_) (fun c8 => ?_)
        · replace h := iteT c8 h
          exact hk90 g_this g_this_trial g_this_chosenBy g_this_paidBy g_this_toPay g_this_plan _ _ _ h hP hD hS (lv_sub hl [0] rfl)
        · replace h := iteF c8 h
          refine lv_lload hx hb dX9_simulate_62 (lv_at hl 2 rfl) ?_
          refine lv_ldc2 (v := 6364136223846793005) hx hb hown (hqs _ w_1384) dX9_simulate_64 ?_
          refine lv_lmul hx hb dX9_simulate_67 ?_
          refine lv_ldc2 (v := 1442695040888963407) hx hb hown (hqs _ w_1385) dX9_simulate_68 ?_
          refine lv_ladd hx hb dX9_simulate_71 ?_
          refine lv_lstore (lv' := [(4, .long ((x4 * (6364136223846793005 : Int64)) + (1442695040888963407 : Int64))), (0, .ref (a_this 0)), (3, .int x3), (6, .int x6)]) hx hb dX9_simulate_72 hl (by decide) rfl (fun ls hl => ?_)
          refine lv_aload_n hx hb dX9_simulate_74 rfl (lv_at hl 1 rfl) ?_
          refine lv_lload hx hb dX9_simulate_75 (lv_at hl 0 rfl) ?_
          refine lv_bipush (v := 33) hx hb dX9_simulate_77 (by decide) ?_
          refine lv_lushr hx hb dX9_simulate_79 rfl ?_
          refine lv_l2i hx hb dX9_simulate_80 rfl ?_
          obtain ⟨o9, e9, h⟩ := obind h
          have hPc := hP.sub (ws' := (cM a_this g_this ++ (cJ_ dT (a_this 3) 353 g_this_trial ++ (cJ_ dT (a_this 7) 128 g_this_chosenBy ++ (cJ_ dT (a_this 8) 128 g_this_paidBy ++ (cJ_ dT (a_this 9) 128 g_this_toPay ++ (cI_ dT (a_this 10) 7 g_this_plan))))))) [0, 2, 3, 4, 5, 6] rfl
          have hDc := hD.sub (ws' := (cM a_this g_this ++ (cJ_ dT (a_this 3) 353 g_this_trial ++ (cJ_ dT (a_this 7) 128 g_this_chosenBy ++ (cJ_ dT (a_this 8) 128 g_this_paidBy ++ (cJ_ dT (a_this 9) 128 g_this_toPay ++ (cI_ dT (a_this 10) 7 g_this_plan))))))) [0, 2, 3, 4, 5, 6] (by decide) rfl
          have hFc := va_free (wc := (cM a_this g_this ++ (cJ_ dT (a_this 3) 353 g_this_trial ++ (cJ_ dT (a_this 7) 128 g_this_chosenBy ++ (cJ_ dT (a_this 8) 128 g_this_paidBy ++ (cJ_ dT (a_this 9) 128 g_this_toPay ++ (cI_ dT (a_this 10) 7 g_this_plan))))))) hD hS hA [0, 2, 3, 4, 5, 6] rfl
          refine cl_v (wr := (cJ_ dT (a_this 2) 353 g_this_now)) (va_runV (As := [.int (Int64.toInt32 ((Int64.toUInt64 ((x4 * (6364136223846793005 : Int64)) + (1442695040888963407 : Int64)) >>> (Int64.toUInt64 (Int32.toInt64 (33 : Int32)) &&& Int64.toUInt64 63)).toInt64))]) (rest := []) ⟨hx, hb, hml, hown, hts⟩ (c_X9_turn l hlt D dT a_this g_this g_this_trial g_this_chosenBy g_this_paidBy g_this_toPay g_this_plan (Int64.toInt32 ((Int64.toUInt64 ((x4 * (6364136223846793005 : Int64)) + (1442695040888963407 : Int64)) >>> (Int64.toUInt64 (Int32.toInt64 (33 : Int32)) &&& Int64.toUInt64 63)).toInt64)) o9 e9 _) (cwV 1 hts (TB_V w_1386 w_1388 w_48 w_59 w_1389) rfl rfl rfl ⟨rfl, nd_X9_turn⟩ ⟨Nat.le_of_ble_eq_true rfl, Nat.le_of_ble_eq_true rfl⟩) (cPre.V hPc hDc hK hE hS hFc (va_recv hK hP (ci := 8) (q0 := 0) rfl rfl)) rfl rfl hl.1 rfl (lv_room (Nat.le_of_ble_eq_true rfl)) dX9_simulate_81 ⟨Nat.zero_le _, Nat.zero_le _⟩) hP hD hS hFc [0, 2, 3, 4, 5, 6] [1] rfl rfl (by decide) (by decide) (fun u9 H locs hw hP hD hS => ?_)
          subst hw
          have hP : va_P D vwCl (cJ_ dT (a_this 2) 353 g_this_now ++ (cM a_this o9.2.1 ++ (cJ_ dT (a_this 3) 353 o9.2.2.1 ++ (cJ_ dT (a_this 7) 128 o9.2.2.2.1 ++ (cJ_ dT (a_this 8) 128 o9.2.2.2.2.1 ++ (cJ_ dT (a_this 9) 128 o9.2.2.2.2.2.1 ++ (cI_ dT (a_this 10) 7 o9.2.2.2.2.2.2))))))) H := hP
          have hD : va_D A (cJ_ dT (a_this 2) 353 g_this_now ++ (cM a_this o9.2.1 ++ (cJ_ dT (a_this 3) 353 o9.2.2.1 ++ (cJ_ dT (a_this 7) 128 o9.2.2.2.1 ++ (cJ_ dT (a_this 8) 128 o9.2.2.2.2.1 ++ (cJ_ dT (a_this 9) 128 o9.2.2.2.2.2.1 ++ (cI_ dT (a_this 10) 7 o9.2.2.2.2.2.2))))))) := hD
          refine lv_iinc (v := (x6 + (1 : Int32))) (lv' := [(6, .int (x6 + (1 : Int32))), (4, .long ((x4 * (6364136223846793005 : Int64)) + (1442695040888963407 : Int64))), (0, .ref (a_this 0)), (3, .int x3)]) hx hb dX9_simulate_84 hl (k := 3) rfl rfl (by decide) rfl (fun ls hl => ?_)
          refine lv_goto (tgt := 45) hx hb dX9_simulate_87 (by decide) ?_
          have hP := hP.sub (ws' := (cM a_this o9.2.1 ++ (cJ_ dT (a_this 2) 353 g_this_now ++ (cJ_ dT (a_this 3) 353 o9.2.2.1 ++ (cJ_ dT (a_this 7) 128 o9.2.2.2.1 ++ (cJ_ dT (a_this 8) 128 o9.2.2.2.2.1 ++ (cJ_ dT (a_this 9) 128 o9.2.2.2.2.2.1 ++ (cI_ dT (a_this 10) 7 o9.2.2.2.2.2.2)))))))) [1, 0, 2, 3, 4, 5, 6] rfl
          have hD := hD.sub (ws' := (cM a_this o9.2.1 ++ (cJ_ dT (a_this 2) 353 g_this_now ++ (cJ_ dT (a_this 3) 353 o9.2.2.1 ++ (cJ_ dT (a_this 7) 128 o9.2.2.2.1 ++ (cJ_ dT (a_this 8) 128 o9.2.2.2.2.1 ++ (cJ_ dT (a_this 9) 128 o9.2.2.2.2.2.1 ++ (cI_ dT (a_this 10) 7 o9.2.2.2.2.2.2)))))))) [1, 0, 2, 3, 4, 5, 6] (by decide) rfl
          exact ih ((x4 * (6364136223846793005 : Int64)) + (1442695040888963407 : Int64)) (x6 + (1 : Int32)) o9.2.1 o9.2.2.1 o9.2.2.2.1 o9.2.2.2.2.1 o9.2.2.2.2.2.1 o9.2.2.2.2.2.2 _ _ _ h hP hD hS (lv_sub hl [2, 3, 1, 0] rfl)
  have L_f_X9_simulate_J90 : ∀ (g_this_now : Nat → Int64) (g_this : TM) (g_this_trial : Nat → Int64) (g_this_chosenBy : Nat → Int64) (g_this_paidBy : Nat → Int64) (g_this_toPay : Nat → Int64) (g_this_plan : Nat → Int32)   (H : Heap) (locs : List Loc) (ls : Array Slot), f_X9_simulate_J90 g_this_now  g_this g_this_trial g_this_chosenBy g_this_paidBy g_this_toPay g_this_plan = some o → va_P D vwCl (cM a_this g_this ++ (cJ_ dT (a_this 2) 353 g_this_now ++ (cJ_ dT (a_this 3) 353 g_this_trial ++ (cJ_ dT (a_this 7) 128 g_this_chosenBy ++ (cJ_ dT (a_this 8) 128 g_this_paidBy ++ (cJ_ dT (a_this 9) 128 g_this_toPay ++ (cI_ dT (a_this 10) 7 g_this_plan))))))) H → va_D A (cM a_this g_this ++ (cJ_ dT (a_this 2) 353 g_this_now ++ (cJ_ dT (a_this 3) 353 g_this_trial ++ (cJ_ dT (a_this 7) 128 g_this_chosenBy ++ (cJ_ dT (a_this 8) 128 g_this_paidBy ++ (cJ_ dT (a_this 9) 128 g_this_toPay ++ (cI_ dT (a_this 10) 7 g_this_plan))))))) → va_S A s.heap H locs → lv_has ls 7 [(0, .ref (a_this 0))] → W p l e (headSpec (WSm yX9_simulate cX9_simulate 7 (some .int)) { frames := 8, cells := 0, slots := 0, locals := 202 }).room s m [.ref (a_this 0), .long v1, .int v3].toArray below meth c H locs 0 0 (MQ below (va_Qi (fun (r : Int32) (u : TM × (Nat → Int64) × (Nat → Int64) × (Nat → Int64) × (Nat → Int64) × (Nat → Int32)) => r = o.1 ∧ u = o.2) (fun u t => cAt D dT A (cM a_this (u.1) ++ (cJ_ dT (a_this 2) 353 g_this_now ++ (cJ_ dT (a_this 3) 353 (u.2.1) ++ (cJ_ dT (a_this 7) 128 (u.2.2.1) ++ (cJ_ dT (a_this 8) 128 (u.2.2.2.1) ++ (cJ_ dT (a_this 9) 128 (u.2.2.2.2.1) ++ (cI_ dT (a_this 10) 7 (u.2.2.2.2.2)))))))) t) A) [.ref (a_this 0), .long v1, .int v3].toArray s 0 0 A) (F0 m 90 ls []) := by
    intro g_this_now g_this g_this_trial g_this_chosenBy g_this_paidBy g_this_toPay g_this_plan   H locs ls h hP hD hS hl
    unfold f_X9_simulate_J90 at h
    refine lv_ldc2 (v := 100) hx hb hown (hqs _ w_1390) dX9_simulate_90 ?_
    refine lv_aload_n hx hb dX9_simulate_93 rfl (lv_at hl 0 rfl) ?_
    refine gf_X9_17 (v := .ref (a_this 3)) hx hb hqs hown hK hP 0 rfl rfl dX9_simulate_94 ?_
    refine lv_sipush (v := 307) hx hb dX9_simulate_97 (by decide) ?_
    obtain ⟨g11, h⟩ := chk h
    refine va_lald hx hb hK hP 2 1 rfl rfl (inb_in g11) dX9_simulate_100 ?_
    refine lv_aload_n hx hb dX9_simulate_101 rfl (lv_at hl 0 rfl) ?_
    refine gf_X9_13 (v := .ref (a_this 2)) hx hb hqs hown hK hP 0 rfl rfl dX9_simulate_102 ?_
    refine lv_sipush (v := 307) hx hb dX9_simulate_105 (by decide) ?_
    obtain ⟨g12, h⟩ := chk h
    refine va_lald hx hb hK hP 1 1 rfl rfl (inb_in g12) dX9_simulate_108 ?_
    refine lv_lsub hx hb dX9_simulate_109 ?_
    refine lv_lmul hx hb dX9_simulate_110 ?_
    refine lv_aload_n hx hb dX9_simulate_111 rfl (lv_at hl 0 rfl) ?_
    refine gf_X9_17 (v := .ref (a_this 3)) hx hb hqs hown hK hP 0 rfl rfl dX9_simulate_112 ?_
    refine lv_sipush (v := 155) hx hb dX9_simulate_115 (by decide) ?_
    obtain ⟨o13, e13, h⟩ := obind h
    have hPc := hP.sub (ws' := (cJ_ dT (a_this 3) 353 g_this_trial)) [2] rfl
    have hDc := hD.sub (ws' := (cJ_ dT (a_this 3) 353 g_this_trial)) [2] (by decide) rfl
    have hFc := va_free (wc := (cJ_ dT (a_this 3) 353 g_this_trial)) hD hS hA [2] rfl
    refine cl_l (wr := (cM a_this g_this ++ (cJ_ dT (a_this 2) 353 g_this_now ++ (cJ_ dT (a_this 7) 128 g_this_chosenBy ++ (cJ_ dT (a_this 8) 128 g_this_paidBy ++ (cJ_ dT (a_this 9) 128 g_this_toPay ++ (cI_ dT (a_this 10) 7 g_this_plan))))))) (va_runS (As := [.ref (a_this 3), .int (155 : Int32)]) (rest := [.long ((100 : Int64) * ((g_this_trial (307 : Int32).toNatClampNeg) - (g_this_now (307 : Int32).toNatClampNeg)))]) ⟨hx, hb, hml, hown, hts⟩ (c_X9_count l hlt D dT (a_this 3) 353 g_this_trial (155 : Int32) o13 e13 _) (va_cwS 2 hts (TB_S w_1184 w_1185 w_59 w_1186) rfl rfl rfl nd_X9_count ⟨Nat.le_of_ble_eq_true rfl, Nat.le_of_ble_eq_true rfl⟩) (cPre.S hPc hDc hK hE hS hFc) rfl rfl hl.1 rfl (lv_room (Nat.le_of_ble_eq_true rfl)) dX9_simulate_118 ⟨Nat.zero_le _, Nat.zero_le _⟩) hP hD hS hFc [2] [0, 1, 3, 4, 5, 6] rfl rfl (by decide) (by decide) (fun r13 u13 H locs hw hP hD hS => ?_)
    obtain ⟨rfl, rfl⟩ := hw
    have hP : va_P D vwCl (cM a_this g_this ++ (cJ_ dT (a_this 2) 353 g_this_now ++ (cJ_ dT (a_this 7) 128 g_this_chosenBy ++ (cJ_ dT (a_this 8) 128 g_this_paidBy ++ (cJ_ dT (a_this 9) 128 g_this_toPay ++ (cI_ dT (a_this 10) 7 g_this_plan ++ (cJ_ dT (a_this 3) 353 g_this_trial))))))) H := hP
    have hD : va_D A (cM a_this g_this ++ (cJ_ dT (a_this 2) 353 g_this_now ++ (cJ_ dT (a_this 7) 128 g_this_chosenBy ++ (cJ_ dT (a_this 8) 128 g_this_paidBy ++ (cJ_ dT (a_this 9) 128 g_this_toPay ++ (cI_ dT (a_this 10) 7 g_this_plan ++ (cJ_ dT (a_this 3) 353 g_this_trial))))))) := hD
    refine lv_ladd hx hb dX9_simulate_121 ?_
    refine lv_l2i hx hb dX9_simulate_122 rfl ?_
    have hP := hP.sub (ws' := (cM a_this g_this ++ (cJ_ dT (a_this 2) 353 g_this_now ++ (cJ_ dT (a_this 3) 353 g_this_trial ++ (cJ_ dT (a_this 7) 128 g_this_chosenBy ++ (cJ_ dT (a_this 8) 128 g_this_paidBy ++ (cJ_ dT (a_this 9) 128 g_this_toPay ++ (cI_ dT (a_this 10) 7 g_this_plan)))))))) [0, 1, 6, 2, 3, 4, 5] rfl
    have hD := hD.sub (ws' := (cM a_this g_this ++ (cJ_ dT (a_this 2) 353 g_this_now ++ (cJ_ dT (a_this 3) 353 g_this_trial ++ (cJ_ dT (a_this 7) 128 g_this_chosenBy ++ (cJ_ dT (a_this 8) 128 g_this_paidBy ++ (cJ_ dT (a_this 9) 128 g_this_toPay ++ (cI_ dT (a_this 10) 7 g_this_plan)))))))) [0, 1, 6, 2, 3, 4, 5] (by decide) rfl
    exact rt_i hx hb hr hlk hK hS ((g_this, g_this_trial, g_this_chosenBy, g_this_paidBy, g_this_toPay, g_this_plan) : TM × (Nat → Int64) × (Nat → Int64) × (Nat → Int64) × (Nat → Int64) × (Nat → Int32)) (ret2 h) hP hD dX9_simulate_123
  have L_f_X9_simulate_J18 : ∀ (g_this_now : Nat → Int64) (x1 : Int64) (x3 : Int32) (s0 : Int32) (g_this : TM) (g_this_trial : Nat → Int64) (g_this_chosenBy : Nat → Int64) (g_this_paidBy : Nat → Int64) (g_this_toPay : Nat → Int64) (g_this_plan : Nat → Int32)   (H : Heap) (locs : List Loc) (ls : Array Slot), f_X9_simulate_J18 g_this_now  x1 x3 s0 g_this g_this_trial g_this_chosenBy g_this_paidBy g_this_toPay g_this_plan = some o → va_P D vwCl (cM a_this g_this ++ (cJ_ dT (a_this 2) 353 g_this_now ++ (cJ_ dT (a_this 3) 353 g_this_trial ++ (cJ_ dT (a_this 7) 128 g_this_chosenBy ++ (cJ_ dT (a_this 8) 128 g_this_paidBy ++ (cJ_ dT (a_this 9) 128 g_this_toPay ++ (cI_ dT (a_this 10) 7 g_this_plan))))))) H → va_D A (cM a_this g_this ++ (cJ_ dT (a_this 2) 353 g_this_now ++ (cJ_ dT (a_this 3) 353 g_this_trial ++ (cJ_ dT (a_this 7) 128 g_this_chosenBy ++ (cJ_ dT (a_this 8) 128 g_this_paidBy ++ (cJ_ dT (a_this 9) 128 g_this_toPay ++ (cI_ dT (a_this 10) 7 g_this_plan))))))) → va_S A s.heap H locs → lv_has ls 7 [(0, .ref (a_this 0)), (1, .long x1), (3, .int x3)] → W p l e (headSpec (WSm yX9_simulate cX9_simulate 7 (some .int)) { frames := 8, cells := 0, slots := 0, locals := 202 }).room s m [.ref (a_this 0), .long v1, .int v3].toArray below meth c H locs 0 0 (MQ below (va_Qi (fun (r : Int32) (u : TM × (Nat → Int64) × (Nat → Int64) × (Nat → Int64) × (Nat → Int64) × (Nat → Int32)) => r = o.1 ∧ u = o.2) (fun u t => cAt D dT A (cM a_this (u.1) ++ (cJ_ dT (a_this 2) 353 g_this_now ++ (cJ_ dT (a_this 3) 353 (u.2.1) ++ (cJ_ dT (a_this 7) 128 (u.2.2.1) ++ (cJ_ dT (a_this 8) 128 (u.2.2.2.1) ++ (cJ_ dT (a_this 9) 128 (u.2.2.2.2.1) ++ (cI_ dT (a_this 10) 7 (u.2.2.2.2.2)))))))) t) A) [.ref (a_this 0), .long v1, .int v3].toArray s 0 0 A) (F0 m 18 ls [.int s0, .ref (a_this 0)]) := by
    intro g_this_now x1 x3 s0 g_this g_this_trial g_this_chosenBy g_this_paidBy g_this_toPay g_this_plan   H locs ls h hP hD hS hl
    unfold f_X9_simulate_J18 at h
    obtain ⟨o3, e3, h⟩ := obind h
    have hPc := hP.sub (ws' := (cM a_this g_this)) [0] rfl
    have hDc := hD.sub (ws' := (cM a_this g_this)) [0] (by decide) rfl
    have hFc := va_free (wc := (cM a_this g_this)) hD hS hA [0] rfl
    refine cl_i (wr := (cJ_ dT (a_this 2) 353 g_this_now ++ (cJ_ dT (a_this 3) 353 g_this_trial ++ (cJ_ dT (a_this 7) 128 g_this_chosenBy ++ (cJ_ dT (a_this 8) 128 g_this_paidBy ++ (cJ_ dT (a_this 9) 128 g_this_toPay ++ (cI_ dT (a_this 10) 7 g_this_plan))))))) (va_runV (As := [.int s0]) (rest := []) ⟨hx, hb, hml, hown, hts⟩ (c_X9_refused l hlt D dT a_this g_this s0 o3 e3 _) (cwV 1 hts (TB_V w_1132 w_1134 w_32 w_59 w_1135) rfl rfl rfl ⟨rfl, nd_X9_refused⟩ ⟨Nat.le_of_ble_eq_true rfl, Nat.le_of_ble_eq_true rfl⟩) (cPre.V hPc hDc hK hE hS hFc (va_recv hK hP (ci := 8) (q0 := 0) rfl rfl)) rfl rfl hl.1 rfl (lv_room (Nat.le_of_ble_eq_true rfl)) dX9_simulate_18 ⟨Nat.zero_le _, Nat.zero_le _⟩) hP hD hS hFc [0] [1, 2, 3, 4, 5, 6] rfl rfl (by decide) (by decide) (fun r3 u3 H locs hw hP hD hS => ?_)
    obtain ⟨rfl, rfl⟩ := hw
    have hP : va_P D vwCl (cJ_ dT (a_this 2) 353 g_this_now ++ (cJ_ dT (a_this 3) 353 g_this_trial ++ (cJ_ dT (a_this 7) 128 g_this_chosenBy ++ (cJ_ dT (a_this 8) 128 g_this_paidBy ++ (cJ_ dT (a_this 9) 128 g_this_toPay ++ (cI_ dT (a_this 10) 7 g_this_plan ++ (cM a_this o3.2))))))) H := hP
    have hD : va_D A (cJ_ dT (a_this 2) 353 g_this_now ++ (cJ_ dT (a_this 3) 353 g_this_trial ++ (cJ_ dT (a_this 7) 128 g_this_chosenBy ++ (cJ_ dT (a_this 8) 128 g_this_paidBy ++ (cJ_ dT (a_this 9) 128 g_this_toPay ++ (cI_ dT (a_this 10) 7 g_this_plan ++ (cM a_this o3.2))))))) := hD
    refine lv_if_eq (tgt := 26) hx hb dX9_simulate_21 (by decide) (fun c4 => ?_) (fun c4 => ?_)
    · replace h := iteT c4 h
      refine lv_aload_n hx hb dX9_simulate_26 rfl (lv_at hl 0 rfl) ?_
      refine gf_X9_13 (v := .ref (a_this 2)) hx hb hqs hown hK hP 6 rfl rfl dX9_simulate_27 ?_
      refine lv_iconst (v := 0) hx hb dX9_simulate_30 (by decide) ?_
      refine lv_aload_n hx hb dX9_simulate_31 rfl (lv_at hl 0 rfl) ?_
      refine gf_X9_17 (v := .ref (a_this 3)) hx hb hqs hown hK hP 6 rfl rfl dX9_simulate_32 ?_
      refine lv_iconst (v := 0) hx hb dX9_simulate_35 (by decide) ?_
      obtain ⟨o5, e5, h⟩ := obind h
      have hPc := hP.sub (ws' := (cJ_ dT (a_this 2) 353 g_this_now ++ (cJ_ dT (a_this 3) 353 g_this_trial))) [0, 1] rfl
      have hDc := hD.sub (ws' := (cJ_ dT (a_this 2) 353 g_this_now ++ (cJ_ dT (a_this 3) 353 g_this_trial))) [0, 1] (by decide) rfl
      have hFc := va_free (wc := (cJ_ dT (a_this 2) 353 g_this_now ++ (cJ_ dT (a_this 3) 353 g_this_trial))) hD hS hA [0, 1] rfl
      refine cl_v (wr := (cJ_ dT (a_this 7) 128 g_this_chosenBy ++ (cJ_ dT (a_this 8) 128 g_this_paidBy ++ (cJ_ dT (a_this 9) 128 g_this_toPay ++ (cI_ dT (a_this 10) 7 g_this_plan ++ (cM a_this o3.2)))))) (va_runS (As := [.ref (a_this 2), .int (0 : Int32), .ref (a_this 3), .int (0 : Int32)]) (rest := []) ⟨hx, hb, hml, hown, hts⟩ (c_X9_copyWorld l hlt D dT (a_this 2) (a_this 3) 353 353 g_this_now g_this_trial (0 : Int32) (0 : Int32) o5 e5 _) (va_cwS 4 hts (TB_S w_1191 w_1192 w_59 w_1193) rfl rfl rfl nd_X9_copyWorld ⟨Nat.le_of_ble_eq_true rfl, Nat.le_of_ble_eq_true rfl⟩) (cPre.S hPc hDc hK hE hS hFc) rfl rfl hl.1 rfl (lv_room (Nat.le_of_ble_eq_true rfl)) dX9_simulate_36 ⟨Nat.zero_le _, Nat.zero_le _⟩) hP hD hS hFc [0, 1] [2, 3, 4, 5, 6] rfl rfl (by decide) (by decide) (fun u5 H locs hw hP hD hS => ?_)
      subst hw
      have hP : va_P D vwCl (cJ_ dT (a_this 7) 128 g_this_chosenBy ++ (cJ_ dT (a_this 8) 128 g_this_paidBy ++ (cJ_ dT (a_this 9) 128 g_this_toPay ++ (cI_ dT (a_this 10) 7 g_this_plan ++ (cM a_this o3.2 ++ (cJ_ dT (a_this 2) 353 g_this_now ++ (cJ_ dT (a_this 3) 353 o5.2))))))) H := hP
      have hD : va_D A (cJ_ dT (a_this 7) 128 g_this_chosenBy ++ (cJ_ dT (a_this 8) 128 g_this_paidBy ++ (cJ_ dT (a_this 9) 128 g_this_toPay ++ (cI_ dT (a_this 10) 7 g_this_plan ++ (cM a_this o3.2 ++ (cJ_ dT (a_this 2) 353 g_this_now ++ (cJ_ dT (a_this 3) 353 o5.2))))))) := hD
      refine lv_lload_n hx hb dX9_simulate_39 rfl (lv_at hl 1 rfl) ?_
      refine lv_lstore (lv' := [(4, .long x1), (0, .ref (a_this 0)), (1, .long x1), (3, .int x3)]) hx hb dX9_simulate_40 hl (by decide) rfl (fun ls hl => ?_)
      refine lv_iconst (v := 0) hx hb dX9_simulate_42 (by decide) ?_
      refine lv_istore (lv' := [(6, .int (0 : Int32)), (4, .long x1), (0, .ref (a_this 0)), (1, .long x1), (3, .int x3)]) hx hb dX9_simulate_43 hl (by decide) rfl (fun ls hl => ?_)
      have hP := hP.sub (ws' := (cM a_this o3.2 ++ (cJ_ dT (a_this 2) 353 g_this_now ++ (cJ_ dT (a_this 3) 353 o5.2 ++ (cJ_ dT (a_this 7) 128 g_this_chosenBy ++ (cJ_ dT (a_this 8) 128 g_this_paidBy ++ (cJ_ dT (a_this 9) 128 g_this_toPay ++ (cI_ dT (a_this 10) 7 g_this_plan)))))))) [4, 5, 6, 0, 1, 2, 3] rfl
      have hD := hD.sub (ws' := (cM a_this o3.2 ++ (cJ_ dT (a_this 2) 353 g_this_now ++ (cJ_ dT (a_this 3) 353 o5.2 ++ (cJ_ dT (a_this 7) 128 g_this_chosenBy ++ (cJ_ dT (a_this 8) 128 g_this_paidBy ++ (cJ_ dT (a_this 9) 128 g_this_toPay ++ (cI_ dT (a_this 10) 7 g_this_plan)))))))) [4, 5, 6, 0, 1, 2, 3] (by decide) rfl
      refine L_f_X9_simulate_L45 g_this_now x3 _ ?_ FUEL x1 (0 : Int32) o3.2 o5.2 g_this_chosenBy g_this_paidBy g_this_toPay g_this_plan _ _ _ h hP hD hS (lv_sub hl [2, 4, 1, 0] rfl)
      · intro y10g_this y10g_this_trial y10g_this_chosenBy y10g_this_paidBy y10g_this_toPay y10g_this_plan H locs ls h hP hD hS hl
        refine L_f_X9_simulate_J90 g_this_now y10g_this y10g_this_trial y10g_this_chosenBy y10g_this_paidBy y10g_this_toPay y10g_this_plan   _ _ _ h hP hD hS (lv_sub hl [0] rfl)
    · replace h := iteF c4 h
      refine lv_iconst (v := 0) hx hb dX9_simulate_24 (by decide) ?_
      have hP := hP.sub (ws' := (cM a_this o3.2 ++ (cJ_ dT (a_this 2) 353 g_this_now ++ (cJ_ dT (a_this 3) 353 g_this_trial ++ (cJ_ dT (a_this 7) 128 g_this_chosenBy ++ (cJ_ dT (a_this 8) 128 g_this_paidBy ++ (cJ_ dT (a_this 9) 128 g_this_toPay ++ (cI_ dT (a_this 10) 7 g_this_plan)))))))) [6, 0, 1, 2, 3, 4, 5] rfl
      have hD := hD.sub (ws' := (cM a_this o3.2 ++ (cJ_ dT (a_this 2) 353 g_this_now ++ (cJ_ dT (a_this 3) 353 g_this_trial ++ (cJ_ dT (a_this 7) 128 g_this_chosenBy ++ (cJ_ dT (a_this 8) 128 g_this_paidBy ++ (cJ_ dT (a_this 9) 128 g_this_toPay ++ (cI_ dT (a_this 10) 7 g_this_plan)))))))) [6, 0, 1, 2, 3, 4, 5] (by decide) rfl
      exact rt_i hx hb hr hlk hK hS ((o3.2, g_this_trial, g_this_chosenBy, g_this_paidBy, g_this_toPay, g_this_plan) : TM × (Nat → Int64) × (Nat → Int64) × (Nat → Int64) × (Nat → Int64) × (Nat → Int32)) (ret2 h) hP hD dX9_simulate_25
  unfold f_X9_simulate at h
  refine lv_aload_n hx hb dX9_simulate_0 rfl (lv_at hl 0 rfl) ?_
  refine lv_iload_n hx hb dX9_simulate_1 rfl (lv_at hl 2 rfl) ?_
  refine lv_i2l hx hb dX9_simulate_2 rfl ?_
  refine lv_lconst (v := 1) hx hb dX9_simulate_3 (by decide) ?_
  refine lv_ldc2 (v := 40) hx hb hown (hqs _ w_1383) dX9_simulate_4 ?_
  obtain ⟨o1, e1, h⟩ := obind h
  have hPc := hP.sub (ws' := ([] : va_W)) [] rfl
  have hDc := hD.sub (ws' := ([] : va_W)) [] (by decide) rfl
  have hFc := va_free (wc := ([] : va_W)) hD hS hA [] rfl
  refine cl_i (wr := (cM a_this g_this ++ (cJ_ dT (a_this 2) 353 g_this_now ++ (cJ_ dT (a_this 3) 353 g_this_trial ++ (cJ_ dT (a_this 7) 128 g_this_chosenBy ++ (cJ_ dT (a_this 8) 128 g_this_paidBy ++ (cJ_ dT (a_this 9) 128 g_this_toPay ++ (cI_ dT (a_this 10) 7 g_this_plan)))))))) (va_runS (As := [.long (Int32.toInt64 v3), .long (1 : Int64), .long (40 : Int64)]) (rest := [.ref (a_this 0)]) ⟨hx, hb, hml, hown, hts⟩ (c_X9_in l hlt D dT (Int32.toInt64 v3) (1 : Int64) (40 : Int64) o1 e1 _) (va_cwS 3 hts (TB_S w_1129 w_1130 w_59 w_1131) rfl rfl rfl nd_X9_in ⟨Nat.le_of_ble_eq_true rfl, Nat.le_of_ble_eq_true rfl⟩) (cPre.S hPc hDc hK hE hS hFc) rfl rfl hl.1 rfl (lv_room (Nat.le_of_ble_eq_true rfl)) dX9_simulate_7 ⟨Nat.zero_le _, Nat.zero_le _⟩) hP hD hS hFc [] [0, 1, 2, 3, 4, 5, 6] rfl rfl (by decide) (by decide) (fun r1 u1 H locs hw hP hD hS => ?_)
  obtain ⟨rfl, rfl⟩ := hw
  have hP : va_P D vwCl (cM a_this g_this ++ (cJ_ dT (a_this 2) 353 g_this_now ++ (cJ_ dT (a_this 3) 353 g_this_trial ++ (cJ_ dT (a_this 7) 128 g_this_chosenBy ++ (cJ_ dT (a_this 8) 128 g_this_paidBy ++ (cJ_ dT (a_this 9) 128 g_this_toPay ++ (cI_ dT (a_this 10) 7 g_this_plan))))))) H := hP
  have hD : va_D A (cM a_this g_this ++ (cJ_ dT (a_this 2) 353 g_this_now ++ (cJ_ dT (a_this 3) 353 g_this_trial ++ (cJ_ dT (a_this 7) 128 g_this_chosenBy ++ (cJ_ dT (a_this 8) 128 g_this_paidBy ++ (cJ_ dT (a_this 9) 128 g_this_toPay ++ (cI_ dT (a_this 10) 7 g_this_plan))))))) := hD
  refine lv_if_eq (tgt := 17) hx hb dX9_simulate_10 (by decide) (fun c2 => ?_) (fun c2 => ?_)
  · replace h := iteT c2 h
    refine lv_iconst (v := 1) hx hb dX9_simulate_17 (by decide) ?_
    refine L_f_X9_simulate_J18 g_this_now v1 v3 (1 : Int32) g_this g_this_trial g_this_chosenBy g_this_paidBy g_this_toPay g_this_plan   _ _ _ h hP hD hS (lv_sub hl [0, 1, 2] rfl)
  · replace h := iteF c2 h
    refine lv_iconst (v := 0) hx hb dX9_simulate_13 (by decide) ?_
    refine lv_goto (tgt := 18) hx hb dX9_simulate_14 (by decide) ?_
    refine L_f_X9_simulate_J18 g_this_now v1 v3 (0 : Int32) g_this g_this_trial g_this_chosenBy g_this_paidBy g_this_toPay g_this_plan   _ _ _ h hP hD hS (lv_sub hl [0, 1, 2] rfl)

def f_X9_save_J16 (g_this_now : Nat → Int64)  (x1 : Int32) (s0 : Int32) (g_this : TM) (g_this_kept : Nat → Int64) (g_this_isKept : Nat → Int32) : Option (Int32 × (TM × (Nat → Int64) × (Nat → Int32))) :=
    ((f_X9_refused g_this s0).bind fun o3 => (if o3.1 = (0 : Int32) then ((f_X9_copyWorld 353 706 g_this_now g_this_kept (0 : Int32) ((353 : Int32) * x1)).bind fun o5 => (if inb x1 2 = true then (if inb (305 : Int32) 353 = true then (some ((Int64.toInt32 (g_this_now (305 : Int32).toNatClampNeg)), (o3.2, o5.2, (upd g_this_isKept x1.toNatClampNeg (vp_nar .boolean (1 : Int32)))))) else none) else none)) else (some ((0 : Int32), (o3.2, g_this_kept, g_this_isKept)))))
def f_X9_save (g_this : TM) (g_this_now : Nat → Int64) (g_this_kept : Nat → Int64) (g_this_isKept : Nat → Int32) (v1 : Int32) : Option (Int32 × (TM × (Nat → Int64) × (Nat → Int32))) :=
  ((f_X9_in (Int32.toInt64 v1) (0 : Int64) (1 : Int64)).bind fun o1 => (if o1.1 = (0 : Int32) then (f_X9_save_J16 g_this_now v1 (1 : Int32) g_this g_this_kept g_this_isKept) else (f_X9_save_J16 g_this_now v1 (0 : Int32) g_this g_this_kept g_this_isKept)))
set_option maxHeartbeats 8000000 in
set_option maxRecDepth 100000 in
theorem c_X9_save (l : Launch) (hlt : l.stackTraces = false) (D : va_G) (dT : Nat → ClassId) (a_this : Nat → Nat) (g_this : TM) (g_this_now : Nat → Int64) (g_this_kept : Nat → Int64) (g_this_isKept : Nat → Int32) (v1 : Int32) (o : (Int32 × (TM × (Nat → Int64) × (Nat → Int32)))) (h : f_X9_save g_this g_this_now g_this_kept g_this_isKept v1 = some o) (sz : Nat) : Met l yX9_save (WSm yX9_save cX9_save 2 (some .int)) { frames := 1, cells := 0, slots := 0, locals := 25 } (va_Pc [.ref (a_this 0), .int v1] (cPre D dT (cM a_this g_this ++ (cJ_ dT (a_this 2) 353 g_this_now ++ (cJ_ dT (a_this 5) 706 g_this_kept ++ (cZ_ dT (a_this 6) 2 g_this_isKept)))) sz)) (va_Qi (fun (r : Int32) (u : TM × (Nat → Int64) × (Nat → Int32)) => r = o.1 ∧ u = o.2) (fun u t => cAt D dT (va_A (cM a_this g_this ++ (cJ_ dT (a_this 2) 353 g_this_now ++ (cJ_ dT (a_this 5) 706 g_this_kept ++ (cZ_ dT (a_this 6) 2 g_this_isKept)))) sz) (cM a_this (u.1) ++ (cJ_ dT (a_this 2) 353 g_this_now ++ (cJ_ dT (a_this 5) 706 (u.2.1) ++ (cZ_ dT (a_this 6) 2 (u.2.2))))) t) (va_A (cM a_this g_this ++ (cJ_ dT (a_this 2) 353 g_this_now ++ (cJ_ dT (a_this 5) 706 g_this_kept ++ (cZ_ dT (a_this 6) 2 g_this_isKept)))) sz)) 0 0 (va_A (cM a_this g_this ++ (cJ_ dT (a_this 2) 353 g_this_now ++ (cJ_ dT (a_this 5) 706 g_this_kept ++ (cZ_ dT (a_this 6) 2 g_this_isKept)))) sz) := by
  refine mStart (WS := (cM a_this g_this ++ (cJ_ dT (a_this 2) 353 g_this_now ++ (cJ_ dT (a_this 5) 706 g_this_kept ++ (cZ_ dT (a_this 6) 2 g_this_isKept))))) (Qc := fun A => va_Qi (fun (r : Int32) (u : TM × (Nat → Int64) × (Nat → Int32)) => r = o.1 ∧ u = o.2) (fun u t => cAt D dT A (cM a_this (u.1) ++ (cJ_ dT (a_this 2) 353 g_this_now ++ (cJ_ dT (a_this 5) 706 (u.2.1) ++ (cZ_ dT (a_this 6) 2 (u.2.2))))) t) A) RX9 rfl (by decide) (Nat.le_of_ble_eq_true rfl) ?_ sz
  intro p e s m below meth c A ls hx hb hml hr hlk hnm hts hqs hown hE hA hK hP hD hS hl
  have hl : lv_has ls 2 [(0, .ref (a_this 0)), (1, .int v1)] := hl
  have L_f_X9_save_J16 : ∀ (g_this_now : Nat → Int64) (x1 : Int32) (s0 : Int32) (g_this : TM) (g_this_kept : Nat → Int64) (g_this_isKept : Nat → Int32)   (H : Heap) (locs : List Loc) (ls : Array Slot), f_X9_save_J16 g_this_now  x1 s0 g_this g_this_kept g_this_isKept = some o → va_P D vwCl (cM a_this g_this ++ (cJ_ dT (a_this 2) 353 g_this_now ++ (cJ_ dT (a_this 5) 706 g_this_kept ++ (cZ_ dT (a_this 6) 2 g_this_isKept)))) H → va_D A (cM a_this g_this ++ (cJ_ dT (a_this 2) 353 g_this_now ++ (cJ_ dT (a_this 5) 706 g_this_kept ++ (cZ_ dT (a_this 6) 2 g_this_isKept)))) → va_S A s.heap H locs → lv_has ls 2 [(0, .ref (a_this 0)), (1, .int x1)] → W p l e (headSpec (WSm yX9_save cX9_save 2 (some .int)) { frames := 1, cells := 0, slots := 0, locals := 25 }).room s m [.ref (a_this 0), .int v1].toArray below meth c H locs 0 0 (MQ below (va_Qi (fun (r : Int32) (u : TM × (Nat → Int64) × (Nat → Int32)) => r = o.1 ∧ u = o.2) (fun u t => cAt D dT A (cM a_this (u.1) ++ (cJ_ dT (a_this 2) 353 g_this_now ++ (cJ_ dT (a_this 5) 706 (u.2.1) ++ (cZ_ dT (a_this 6) 2 (u.2.2))))) t) A) [.ref (a_this 0), .int v1].toArray s 0 0 A) (F0 m 16 ls [.int s0, .ref (a_this 0)]) := by
    intro g_this_now x1 s0 g_this g_this_kept g_this_isKept   H locs ls h hP hD hS hl
    unfold f_X9_save_J16 at h
    obtain ⟨o3, e3, h⟩ := obind h
    have hPc := hP.sub (ws' := (cM a_this g_this)) [0] rfl
    have hDc := hD.sub (ws' := (cM a_this g_this)) [0] (by decide) rfl
    have hFc := va_free (wc := (cM a_this g_this)) hD hS hA [0] rfl
    refine cl_i (wr := (cJ_ dT (a_this 2) 353 g_this_now ++ (cJ_ dT (a_this 5) 706 g_this_kept ++ (cZ_ dT (a_this 6) 2 g_this_isKept)))) (va_runV (As := [.int s0]) (rest := []) ⟨hx, hb, hml, hown, hts⟩ (c_X9_refused l hlt D dT a_this g_this s0 o3 e3 _) (cwV 1 hts (TB_V w_1132 w_1134 w_32 w_59 w_1135) rfl rfl rfl ⟨rfl, nd_X9_refused⟩ ⟨Nat.le_of_ble_eq_true rfl, Nat.le_of_ble_eq_true rfl⟩) (cPre.V hPc hDc hK hE hS hFc (va_recv hK hP (ci := 8) (q0 := 0) rfl rfl)) rfl rfl hl.1 rfl (lv_room (Nat.le_of_ble_eq_true rfl)) dX9_save_16 ⟨Nat.zero_le _, Nat.zero_le _⟩) hP hD hS hFc [0] [1, 2, 3] rfl rfl (by decide) (by decide) (fun r3 u3 H locs hw hP hD hS => ?_)
    obtain ⟨rfl, rfl⟩ := hw
    have hP : va_P D vwCl (cJ_ dT (a_this 2) 353 g_this_now ++ (cJ_ dT (a_this 5) 706 g_this_kept ++ (cZ_ dT (a_this 6) 2 g_this_isKept ++ (cM a_this o3.2)))) H := hP
    have hD : va_D A (cJ_ dT (a_this 2) 353 g_this_now ++ (cJ_ dT (a_this 5) 706 g_this_kept ++ (cZ_ dT (a_this 6) 2 g_this_isKept ++ (cM a_this o3.2)))) := hD
    refine lv_if_eq (tgt := 24) hx hb dX9_save_19 (by decide) (fun c4 => ?_) (fun c4 => ?_)
    · replace h := iteT c4 h
      refine lv_aload_n hx hb dX9_save_24 rfl (lv_at hl 0 rfl) ?_
      refine gf_X9_13 (v := .ref (a_this 2)) hx hb hqs hown hK hP 3 rfl rfl dX9_save_25 ?_
      refine lv_iconst (v := 0) hx hb dX9_save_28 (by decide) ?_
      refine lv_aload_n hx hb dX9_save_29 rfl (lv_at hl 0 rfl) ?_
      refine gf_X9_23 (v := .ref (a_this 5)) hx hb hqs hown hK hP 3 rfl rfl dX9_save_30 ?_
      refine lv_sipush (v := 353) hx hb dX9_save_33 (by decide) ?_
      refine lv_iload_n hx hb dX9_save_36 rfl (lv_at hl 1 rfl) ?_
      refine lv_imul hx hb dX9_save_37 ?_
      obtain ⟨o5, e5, h⟩ := obind h
      have hPc := hP.sub (ws' := (cJ_ dT (a_this 2) 353 g_this_now ++ (cJ_ dT (a_this 5) 706 g_this_kept))) [0, 1] rfl
      have hDc := hD.sub (ws' := (cJ_ dT (a_this 2) 353 g_this_now ++ (cJ_ dT (a_this 5) 706 g_this_kept))) [0, 1] (by decide) rfl
      have hFc := va_free (wc := (cJ_ dT (a_this 2) 353 g_this_now ++ (cJ_ dT (a_this 5) 706 g_this_kept))) hD hS hA [0, 1] rfl
      refine cl_v (wr := (cZ_ dT (a_this 6) 2 g_this_isKept ++ (cM a_this o3.2))) (va_runS (As := [.ref (a_this 2), .int (0 : Int32), .ref (a_this 5), .int ((353 : Int32) * x1)]) (rest := []) ⟨hx, hb, hml, hown, hts⟩ (c_X9_copyWorld l hlt D dT (a_this 2) (a_this 5) 353 706 g_this_now g_this_kept (0 : Int32) ((353 : Int32) * x1) o5 e5 _) (va_cwS 4 hts (TB_S w_1191 w_1192 w_59 w_1193) rfl rfl rfl nd_X9_copyWorld ⟨Nat.le_of_ble_eq_true rfl, Nat.le_of_ble_eq_true rfl⟩) (cPre.S hPc hDc hK hE hS hFc) rfl rfl hl.1 rfl (lv_room (Nat.le_of_ble_eq_true rfl)) dX9_save_38 ⟨Nat.zero_le _, Nat.zero_le _⟩) hP hD hS hFc [0, 1] [2, 3] rfl rfl (by decide) (by decide) (fun u5 H locs hw hP hD hS => ?_)
      subst hw
      have hP : va_P D vwCl (cZ_ dT (a_this 6) 2 g_this_isKept ++ (cM a_this o3.2 ++ (cJ_ dT (a_this 2) 353 g_this_now ++ (cJ_ dT (a_this 5) 706 o5.2)))) H := hP
      have hD : va_D A (cZ_ dT (a_this 6) 2 g_this_isKept ++ (cM a_this o3.2 ++ (cJ_ dT (a_this 2) 353 g_this_now ++ (cJ_ dT (a_this 5) 706 o5.2)))) := hD
      refine lv_aload_n hx hb dX9_save_41 rfl (lv_at hl 0 rfl) ?_
      refine gf_X9_26 (v := .ref (a_this 6)) hx hb hqs hown hK hP 1 rfl rfl dX9_save_42 ?_
      refine lv_iload_n hx hb dX9_save_45 rfl (lv_at hl 1 rfl) ?_
      refine lv_iconst (v := 1) hx hb dX9_save_46 (by decide) ?_
      obtain ⟨g6, h⟩ := chk h
      refine va_zast hx hb hK hP hD hS 0 3 rfl rfl (inb_in g6) dX9_save_47 (fun H locs hP hD hS => ?_)
      have hP : va_P D vwCl (cZ_ dT (a_this 6) 2 (upd g_this_isKept x1.toNatClampNeg (vp_nar .boolean (1 : Int32))) ++ (cM a_this o3.2 ++ (cJ_ dT (a_this 2) 353 g_this_now ++ (cJ_ dT (a_this 5) 706 o5.2)))) H := hP
      have hD : va_D A (cZ_ dT (a_this 6) 2 (upd g_this_isKept x1.toNatClampNeg (vp_nar .boolean (1 : Int32))) ++ (cM a_this o3.2 ++ (cJ_ dT (a_this 2) 353 g_this_now ++ (cJ_ dT (a_this 5) 706 o5.2)))) := hD
      refine lv_aload_n hx hb dX9_save_48 rfl (lv_at hl 0 rfl) ?_
      refine gf_X9_13 (v := .ref (a_this 2)) hx hb hqs hown hK hP 1 rfl rfl dX9_save_49 ?_
      refine lv_sipush (v := 305) hx hb dX9_save_52 (by decide) ?_
      obtain ⟨g7, h⟩ := chk h
      refine va_lald hx hb hK hP 2 1 rfl rfl (inb_in g7) dX9_save_55 ?_
      refine lv_l2i hx hb dX9_save_56 rfl ?_
      have hP := hP.sub (ws' := (cM a_this o3.2 ++ (cJ_ dT (a_this 2) 353 g_this_now ++ (cJ_ dT (a_this 5) 706 o5.2 ++ (cZ_ dT (a_this 6) 2 (upd g_this_isKept x1.toNatClampNeg (vp_nar .boolean (1 : Int32)))))))) [1, 2, 3, 0] rfl
      have hD := hD.sub (ws' := (cM a_this o3.2 ++ (cJ_ dT (a_this 2) 353 g_this_now ++ (cJ_ dT (a_this 5) 706 o5.2 ++ (cZ_ dT (a_this 6) 2 (upd g_this_isKept x1.toNatClampNeg (vp_nar .boolean (1 : Int32)))))))) [1, 2, 3, 0] (by decide) rfl
      exact rt_i hx hb hr hlk hK hS ((o3.2, o5.2, (upd g_this_isKept x1.toNatClampNeg (vp_nar .boolean (1 : Int32)))) : TM × (Nat → Int64) × (Nat → Int32)) (ret2 h) hP hD dX9_save_57
    · replace h := iteF c4 h
      refine lv_iconst (v := 0) hx hb dX9_save_22 (by decide) ?_
      have hP := hP.sub (ws' := (cM a_this o3.2 ++ (cJ_ dT (a_this 2) 353 g_this_now ++ (cJ_ dT (a_this 5) 706 g_this_kept ++ (cZ_ dT (a_this 6) 2 g_this_isKept))))) [3, 0, 1, 2] rfl
      have hD := hD.sub (ws' := (cM a_this o3.2 ++ (cJ_ dT (a_this 2) 353 g_this_now ++ (cJ_ dT (a_this 5) 706 g_this_kept ++ (cZ_ dT (a_this 6) 2 g_this_isKept))))) [3, 0, 1, 2] (by decide) rfl
      exact rt_i hx hb hr hlk hK hS ((o3.2, g_this_kept, g_this_isKept) : TM × (Nat → Int64) × (Nat → Int32)) (ret2 h) hP hD dX9_save_23
  unfold f_X9_save at h
  refine lv_aload_n hx hb dX9_save_0 rfl (lv_at hl 0 rfl) ?_
  refine lv_iload_n hx hb dX9_save_1 rfl (lv_at hl 1 rfl) ?_
  refine lv_i2l hx hb dX9_save_2 rfl ?_
  refine lv_lconst (v := 0) hx hb dX9_save_3 (by decide) ?_
  refine lv_lconst (v := 1) hx hb dX9_save_4 (by decide) ?_
  obtain ⟨o1, e1, h⟩ := obind h
  have hPc := hP.sub (ws' := ([] : va_W)) [] rfl
  have hDc := hD.sub (ws' := ([] : va_W)) [] (by decide) rfl
  have hFc := va_free (wc := ([] : va_W)) hD hS hA [] rfl
  refine cl_i (wr := (cM a_this g_this ++ (cJ_ dT (a_this 2) 353 g_this_now ++ (cJ_ dT (a_this 5) 706 g_this_kept ++ (cZ_ dT (a_this 6) 2 g_this_isKept))))) (va_runS (As := [.long (Int32.toInt64 v1), .long (0 : Int64), .long (1 : Int64)]) (rest := [.ref (a_this 0)]) ⟨hx, hb, hml, hown, hts⟩ (c_X9_in l hlt D dT (Int32.toInt64 v1) (0 : Int64) (1 : Int64) o1 e1 _) (va_cwS 3 hts (TB_S w_1129 w_1130 w_59 w_1131) rfl rfl rfl nd_X9_in ⟨Nat.le_of_ble_eq_true rfl, Nat.le_of_ble_eq_true rfl⟩) (cPre.S hPc hDc hK hE hS hFc) rfl rfl hl.1 rfl (lv_room (Nat.le_of_ble_eq_true rfl)) dX9_save_5 ⟨Nat.zero_le _, Nat.zero_le _⟩) hP hD hS hFc [] [0, 1, 2, 3] rfl rfl (by decide) (by decide) (fun r1 u1 H locs hw hP hD hS => ?_)
  obtain ⟨rfl, rfl⟩ := hw
  have hP : va_P D vwCl (cM a_this g_this ++ (cJ_ dT (a_this 2) 353 g_this_now ++ (cJ_ dT (a_this 5) 706 g_this_kept ++ (cZ_ dT (a_this 6) 2 g_this_isKept)))) H := hP
  have hD : va_D A (cM a_this g_this ++ (cJ_ dT (a_this 2) 353 g_this_now ++ (cJ_ dT (a_this 5) 706 g_this_kept ++ (cZ_ dT (a_this 6) 2 g_this_isKept)))) := hD
  refine lv_if_eq (tgt := 15) hx hb dX9_save_8 (by decide) (fun c2 => ?_) (fun c2 => ?_)
  · replace h := iteT c2 h
    refine lv_iconst (v := 1) hx hb dX9_save_15 (by decide) ?_
    refine L_f_X9_save_J16 g_this_now v1 (1 : Int32) g_this g_this_kept g_this_isKept   _ _ _ h hP hD hS (lv_sub hl [0, 1] rfl)
  · replace h := iteF c2 h
    refine lv_iconst (v := 0) hx hb dX9_save_11 (by decide) ?_
    refine lv_goto (tgt := 16) hx hb dX9_save_12 (by decide) ?_
    refine L_f_X9_save_J16 g_this_now v1 (0 : Int32) g_this g_this_kept g_this_isKept   _ _ _ h hP hD hS (lv_sub hl [0, 1] rfl)

def f_X9_restore_J29 (g_this_kept : Nat → Int64) (g_this_isKept : Nat → Int32)  (x1 : Int32) (s0 : Int32) (g_this : TM) (g_this_now : Nat → Int64) : Option (Int32 × (TM × (Nat → Int64))) :=
    ((f_X9_refused g_this s0).bind fun o5 => (if o5.1 = (0 : Int32) then ((f_X9_copyWorld 706 353 g_this_kept g_this_now ((353 : Int32) * x1) (0 : Int32)).bind fun o7 => (if inb (305 : Int32) 353 = true then (some ((Int64.toInt32 (o7.2 (305 : Int32).toNatClampNeg)), ((M_mk (M_refusal o5.2) (M_size o5.2) (0 : Int32) (M_planned o5.2) (M_spot o5.2) (M_out o5.2)), o7.2))) else none)) else (some ((0 : Int32), (o5.2, g_this_now)))))
def f_X9_restore (g_this : TM) (g_this_now : Nat → Int64) (g_this_kept : Nat → Int64) (g_this_isKept : Nat → Int32) (v1 : Int32) : Option (Int32 × (TM × (Nat → Int64))) :=
  ((f_X9_in (Int32.toInt64 v1) (0 : Int64) (1 : Int64)).bind fun o1 => (if o1.1 = (0 : Int32) then (f_X9_restore_J29 g_this_kept g_this_isKept v1 (1 : Int32) g_this g_this_now) else (if inb v1 2 = true then (if (g_this_isKept v1.toNatClampNeg) = (0 : Int32) then (f_X9_restore_J29 g_this_kept g_this_isKept v1 (2 : Int32) g_this g_this_now) else (f_X9_restore_J29 g_this_kept g_this_isKept v1 (0 : Int32) g_this g_this_now)) else none)))
set_option maxHeartbeats 8000000 in
set_option maxRecDepth 100000 in
theorem c_X9_restore (l : Launch) (hlt : l.stackTraces = false) (D : va_G) (dT : Nat → ClassId) (a_this : Nat → Nat) (g_this : TM) (g_this_now : Nat → Int64) (g_this_kept : Nat → Int64) (g_this_isKept : Nat → Int32) (v1 : Int32) (o : (Int32 × (TM × (Nat → Int64)))) (h : f_X9_restore g_this g_this_now g_this_kept g_this_isKept v1 = some o) (sz : Nat) : Met l yX9_restore (WSm yX9_restore cX9_restore 2 (some .int)) { frames := 1, cells := 0, slots := 0, locals := 25 } (va_Pc [.ref (a_this 0), .int v1] (cPre D dT (cM a_this g_this ++ (cJ_ dT (a_this 2) 353 g_this_now ++ (cJ_ dT (a_this 5) 706 g_this_kept ++ (cZ_ dT (a_this 6) 2 g_this_isKept)))) sz)) (va_Qi (fun (r : Int32) (u : TM × (Nat → Int64)) => r = o.1 ∧ u = o.2) (fun u t => cAt D dT (va_A (cM a_this g_this ++ (cJ_ dT (a_this 2) 353 g_this_now ++ (cJ_ dT (a_this 5) 706 g_this_kept ++ (cZ_ dT (a_this 6) 2 g_this_isKept)))) sz) (cM a_this (u.1) ++ (cJ_ dT (a_this 2) 353 (u.2) ++ (cJ_ dT (a_this 5) 706 g_this_kept ++ (cZ_ dT (a_this 6) 2 g_this_isKept)))) t) (va_A (cM a_this g_this ++ (cJ_ dT (a_this 2) 353 g_this_now ++ (cJ_ dT (a_this 5) 706 g_this_kept ++ (cZ_ dT (a_this 6) 2 g_this_isKept)))) sz)) 0 0 (va_A (cM a_this g_this ++ (cJ_ dT (a_this 2) 353 g_this_now ++ (cJ_ dT (a_this 5) 706 g_this_kept ++ (cZ_ dT (a_this 6) 2 g_this_isKept)))) sz) := by
  refine mStart (WS := (cM a_this g_this ++ (cJ_ dT (a_this 2) 353 g_this_now ++ (cJ_ dT (a_this 5) 706 g_this_kept ++ (cZ_ dT (a_this 6) 2 g_this_isKept))))) (Qc := fun A => va_Qi (fun (r : Int32) (u : TM × (Nat → Int64)) => r = o.1 ∧ u = o.2) (fun u t => cAt D dT A (cM a_this (u.1) ++ (cJ_ dT (a_this 2) 353 (u.2) ++ (cJ_ dT (a_this 5) 706 g_this_kept ++ (cZ_ dT (a_this 6) 2 g_this_isKept)))) t) A) RX9 rfl (by decide) (Nat.le_of_ble_eq_true rfl) ?_ sz
  intro p e s m below meth c A ls hx hb hml hr hlk hnm hts hqs hown hE hA hK hP hD hS hl
  have hl : lv_has ls 2 [(0, .ref (a_this 0)), (1, .int v1)] := hl
  have L_f_X9_restore_J29 : ∀ (g_this_kept : Nat → Int64) (g_this_isKept : Nat → Int32) (x1 : Int32) (s0 : Int32) (g_this : TM) (g_this_now : Nat → Int64)   (H : Heap) (locs : List Loc) (ls : Array Slot), f_X9_restore_J29 g_this_kept g_this_isKept  x1 s0 g_this g_this_now = some o → va_P D vwCl (cM a_this g_this ++ (cJ_ dT (a_this 2) 353 g_this_now ++ (cJ_ dT (a_this 5) 706 g_this_kept ++ (cZ_ dT (a_this 6) 2 g_this_isKept)))) H → va_D A (cM a_this g_this ++ (cJ_ dT (a_this 2) 353 g_this_now ++ (cJ_ dT (a_this 5) 706 g_this_kept ++ (cZ_ dT (a_this 6) 2 g_this_isKept)))) → va_S A s.heap H locs → lv_has ls 2 [(0, .ref (a_this 0)), (1, .int x1)] → W p l e (headSpec (WSm yX9_restore cX9_restore 2 (some .int)) { frames := 1, cells := 0, slots := 0, locals := 25 }).room s m [.ref (a_this 0), .int v1].toArray below meth c H locs 0 0 (MQ below (va_Qi (fun (r : Int32) (u : TM × (Nat → Int64)) => r = o.1 ∧ u = o.2) (fun u t => cAt D dT A (cM a_this (u.1) ++ (cJ_ dT (a_this 2) 353 (u.2) ++ (cJ_ dT (a_this 5) 706 g_this_kept ++ (cZ_ dT (a_this 6) 2 g_this_isKept)))) t) A) [.ref (a_this 0), .int v1].toArray s 0 0 A) (F0 m 29 ls [.int s0, .ref (a_this 0)]) := by
    intro g_this_kept g_this_isKept x1 s0 g_this g_this_now   H locs ls h hP hD hS hl
    unfold f_X9_restore_J29 at h
    obtain ⟨o5, e5, h⟩ := obind h
    have hPc := hP.sub (ws' := (cM a_this g_this)) [0] rfl
    have hDc := hD.sub (ws' := (cM a_this g_this)) [0] (by decide) rfl
    have hFc := va_free (wc := (cM a_this g_this)) hD hS hA [0] rfl
    refine cl_i (wr := (cJ_ dT (a_this 2) 353 g_this_now ++ (cJ_ dT (a_this 5) 706 g_this_kept ++ (cZ_ dT (a_this 6) 2 g_this_isKept)))) (va_runV (As := [.int s0]) (rest := []) ⟨hx, hb, hml, hown, hts⟩ (c_X9_refused l hlt D dT a_this g_this s0 o5 e5 _) (cwV 1 hts (TB_V w_1132 w_1134 w_32 w_59 w_1135) rfl rfl rfl ⟨rfl, nd_X9_refused⟩ ⟨Nat.le_of_ble_eq_true rfl, Nat.le_of_ble_eq_true rfl⟩) (cPre.V hPc hDc hK hE hS hFc (va_recv hK hP (ci := 8) (q0 := 0) rfl rfl)) rfl rfl hl.1 rfl (lv_room (Nat.le_of_ble_eq_true rfl)) dX9_restore_29 ⟨Nat.zero_le _, Nat.zero_le _⟩) hP hD hS hFc [0] [1, 2, 3] rfl rfl (by decide) (by decide) (fun r5 u5 H locs hw hP hD hS => ?_)
    obtain ⟨rfl, rfl⟩ := hw
    have hP : va_P D vwCl (cJ_ dT (a_this 2) 353 g_this_now ++ (cJ_ dT (a_this 5) 706 g_this_kept ++ (cZ_ dT (a_this 6) 2 g_this_isKept ++ (cM a_this o5.2)))) H := hP
    have hD : va_D A (cJ_ dT (a_this 2) 353 g_this_now ++ (cJ_ dT (a_this 5) 706 g_this_kept ++ (cZ_ dT (a_this 6) 2 g_this_isKept ++ (cM a_this o5.2)))) := hD
    refine lv_if_eq (tgt := 37) hx hb dX9_restore_32 (by decide) (fun c6 => ?_) (fun c6 => ?_)
    · replace h := iteT c6 h
      refine lv_aload_n hx hb dX9_restore_37 rfl (lv_at hl 0 rfl) ?_
      refine gf_X9_23 (v := .ref (a_this 5)) hx hb hqs hown hK hP 3 rfl rfl dX9_restore_38 ?_
      refine lv_sipush (v := 353) hx hb dX9_restore_41 (by decide) ?_
      refine lv_iload_n hx hb dX9_restore_44 rfl (lv_at hl 1 rfl) ?_
      refine lv_imul hx hb dX9_restore_45 ?_
      refine lv_aload_n hx hb dX9_restore_46 rfl (lv_at hl 0 rfl) ?_
      refine gf_X9_13 (v := .ref (a_this 2)) hx hb hqs hown hK hP 3 rfl rfl dX9_restore_47 ?_
      refine lv_iconst (v := 0) hx hb dX9_restore_50 (by decide) ?_
      obtain ⟨o7, e7, h⟩ := obind h
      have hPc := hP.sub (ws' := (cJ_ dT (a_this 5) 706 g_this_kept ++ (cJ_ dT (a_this 2) 353 g_this_now))) [1, 0] rfl
      have hDc := hD.sub (ws' := (cJ_ dT (a_this 5) 706 g_this_kept ++ (cJ_ dT (a_this 2) 353 g_this_now))) [1, 0] (by decide) rfl
      have hFc := va_free (wc := (cJ_ dT (a_this 5) 706 g_this_kept ++ (cJ_ dT (a_this 2) 353 g_this_now))) hD hS hA [1, 0] rfl
      refine cl_v (wr := (cZ_ dT (a_this 6) 2 g_this_isKept ++ (cM a_this o5.2))) (va_runS (As := [.ref (a_this 5), .int ((353 : Int32) * x1), .ref (a_this 2), .int (0 : Int32)]) (rest := []) ⟨hx, hb, hml, hown, hts⟩ (c_X9_copyWorld l hlt D dT (a_this 5) (a_this 2) 706 353 g_this_kept g_this_now ((353 : Int32) * x1) (0 : Int32) o7 e7 _) (va_cwS 4 hts (TB_S w_1191 w_1192 w_59 w_1193) rfl rfl rfl nd_X9_copyWorld ⟨Nat.le_of_ble_eq_true rfl, Nat.le_of_ble_eq_true rfl⟩) (cPre.S hPc hDc hK hE hS hFc) rfl rfl hl.1 rfl (lv_room (Nat.le_of_ble_eq_true rfl)) dX9_restore_51 ⟨Nat.zero_le _, Nat.zero_le _⟩) hP hD hS hFc [1, 0] [2, 3] rfl rfl (by decide) (by decide) (fun u7 H locs hw hP hD hS => ?_)
      subst hw
      have hP : va_P D vwCl (cZ_ dT (a_this 6) 2 g_this_isKept ++ (cM a_this o5.2 ++ (cJ_ dT (a_this 5) 706 g_this_kept ++ (cJ_ dT (a_this 2) 353 o7.2)))) H := hP
      have hD : va_D A (cZ_ dT (a_this 6) 2 g_this_isKept ++ (cM a_this o5.2 ++ (cJ_ dT (a_this 5) 706 g_this_kept ++ (cJ_ dT (a_this 2) 353 o7.2)))) := hD
      refine lv_aload_n hx hb dX9_restore_54 rfl (lv_at hl 0 rfl) ?_
      refine lv_iconst (v := 0) hx hb dX9_restore_55 (by decide) ?_
      refine pf_X9_177 hx hb hqs hown hK hP hD hS 1 rfl rfl dX9_restore_56 (fun H locs hP hD hS => ?_)
      have hP : va_P D vwCl (cZ_ dT (a_this 6) 2 g_this_isKept ++ ([(a_this 0, .inr (8, [.int (M_refusal o5.2), .ref (a_this 1), .int (M_size o5.2), .ref (a_this 2), .ref (a_this 3), .ref (a_this 4), .int (0 : Int32), .ref (a_this 5), .ref (a_this 6), .ref (a_this 7), .ref (a_this 8), .ref (a_this 9), .ref (a_this 10), .int (M_planned o5.2), .int (M_spot o5.2), .int (M_out o5.2), .ref (a_this 11)]))] ++ (cJ_ dT (a_this 5) 706 g_this_kept ++ (cJ_ dT (a_this 2) 353 o7.2)))) H := hP
      have hD : va_D A (cZ_ dT (a_this 6) 2 g_this_isKept ++ ([(a_this 0, .inr (8, [.int (M_refusal o5.2), .ref (a_this 1), .int (M_size o5.2), .ref (a_this 2), .ref (a_this 3), .ref (a_this 4), .int (0 : Int32), .ref (a_this 5), .ref (a_this 6), .ref (a_this 7), .ref (a_this 8), .ref (a_this 9), .ref (a_this 10), .int (M_planned o5.2), .int (M_spot o5.2), .int (M_out o5.2), .ref (a_this 11)]))] ++ (cJ_ dT (a_this 5) 706 g_this_kept ++ (cJ_ dT (a_this 2) 353 o7.2)))) := hD
      refine lv_aload_n hx hb dX9_restore_59 rfl (lv_at hl 0 rfl) ?_
      refine gf_X9_13 (v := .ref (a_this 2)) hx hb hqs hown hK hP 1 rfl rfl dX9_restore_60 ?_
      refine lv_sipush (v := 305) hx hb dX9_restore_63 (by decide) ?_
      obtain ⟨g8, h⟩ := chk h
      refine va_lald hx hb hK hP 3 1 rfl rfl (inb_in g8) dX9_restore_66 ?_
      refine lv_l2i hx hb dX9_restore_67 rfl ?_
      have hP := hP.sub (ws' := ([(a_this 0, .inr (8, [.int (M_refusal o5.2), .ref (a_this 1), .int (M_size o5.2), .ref (a_this 2), .ref (a_this 3), .ref (a_this 4), .int (0 : Int32), .ref (a_this 5), .ref (a_this 6), .ref (a_this 7), .ref (a_this 8), .ref (a_this 9), .ref (a_this 10), .int (M_planned o5.2), .int (M_spot o5.2), .int (M_out o5.2), .ref (a_this 11)]))] ++ (cJ_ dT (a_this 2) 353 o7.2 ++ (cJ_ dT (a_this 5) 706 g_this_kept ++ (cZ_ dT (a_this 6) 2 g_this_isKept))))) [1, 3, 2, 0] rfl
      have hD := hD.sub (ws' := ([(a_this 0, .inr (8, [.int (M_refusal o5.2), .ref (a_this 1), .int (M_size o5.2), .ref (a_this 2), .ref (a_this 3), .ref (a_this 4), .int (0 : Int32), .ref (a_this 5), .ref (a_this 6), .ref (a_this 7), .ref (a_this 8), .ref (a_this 9), .ref (a_this 10), .int (M_planned o5.2), .int (M_spot o5.2), .int (M_out o5.2), .ref (a_this 11)]))] ++ (cJ_ dT (a_this 2) 353 o7.2 ++ (cJ_ dT (a_this 5) 706 g_this_kept ++ (cZ_ dT (a_this 6) 2 g_this_isKept))))) [1, 3, 2, 0] (by decide) rfl
      exact rt_i hx hb hr hlk hK hS (((M_mk (M_refusal o5.2) (M_size o5.2) (0 : Int32) (M_planned o5.2) (M_spot o5.2) (M_out o5.2)), o7.2) : TM × (Nat → Int64)) (ret2 h) hP hD dX9_restore_68
    · replace h := iteF c6 h
      refine lv_iconst (v := 0) hx hb dX9_restore_35 (by decide) ?_
      have hP := hP.sub (ws' := (cM a_this o5.2 ++ (cJ_ dT (a_this 2) 353 g_this_now ++ (cJ_ dT (a_this 5) 706 g_this_kept ++ (cZ_ dT (a_this 6) 2 g_this_isKept))))) [3, 0, 1, 2] rfl
      have hD := hD.sub (ws' := (cM a_this o5.2 ++ (cJ_ dT (a_this 2) 353 g_this_now ++ (cJ_ dT (a_this 5) 706 g_this_kept ++ (cZ_ dT (a_this 6) 2 g_this_isKept))))) [3, 0, 1, 2] (by decide) rfl
      exact rt_i hx hb hr hlk hK hS ((o5.2, g_this_now) : TM × (Nat → Int64)) (ret2 h) hP hD dX9_restore_36
  unfold f_X9_restore at h
  refine lv_aload_n hx hb dX9_restore_0 rfl (lv_at hl 0 rfl) ?_
  refine lv_iload_n hx hb dX9_restore_1 rfl (lv_at hl 1 rfl) ?_
  refine lv_i2l hx hb dX9_restore_2 rfl ?_
  refine lv_lconst (v := 0) hx hb dX9_restore_3 (by decide) ?_
  refine lv_lconst (v := 1) hx hb dX9_restore_4 (by decide) ?_
  obtain ⟨o1, e1, h⟩ := obind h
  have hPc := hP.sub (ws' := ([] : va_W)) [] rfl
  have hDc := hD.sub (ws' := ([] : va_W)) [] (by decide) rfl
  have hFc := va_free (wc := ([] : va_W)) hD hS hA [] rfl
  refine cl_i (wr := (cM a_this g_this ++ (cJ_ dT (a_this 2) 353 g_this_now ++ (cJ_ dT (a_this 5) 706 g_this_kept ++ (cZ_ dT (a_this 6) 2 g_this_isKept))))) (va_runS (As := [.long (Int32.toInt64 v1), .long (0 : Int64), .long (1 : Int64)]) (rest := [.ref (a_this 0)]) ⟨hx, hb, hml, hown, hts⟩ (c_X9_in l hlt D dT (Int32.toInt64 v1) (0 : Int64) (1 : Int64) o1 e1 _) (va_cwS 3 hts (TB_S w_1129 w_1130 w_59 w_1131) rfl rfl rfl nd_X9_in ⟨Nat.le_of_ble_eq_true rfl, Nat.le_of_ble_eq_true rfl⟩) (cPre.S hPc hDc hK hE hS hFc) rfl rfl hl.1 rfl (lv_room (Nat.le_of_ble_eq_true rfl)) dX9_restore_5 ⟨Nat.zero_le _, Nat.zero_le _⟩) hP hD hS hFc [] [0, 1, 2, 3] rfl rfl (by decide) (by decide) (fun r1 u1 H locs hw hP hD hS => ?_)
  obtain ⟨rfl, rfl⟩ := hw
  have hP : va_P D vwCl (cM a_this g_this ++ (cJ_ dT (a_this 2) 353 g_this_now ++ (cJ_ dT (a_this 5) 706 g_this_kept ++ (cZ_ dT (a_this 6) 2 g_this_isKept)))) H := hP
  have hD : va_D A (cM a_this g_this ++ (cJ_ dT (a_this 2) 353 g_this_now ++ (cJ_ dT (a_this 5) 706 g_this_kept ++ (cZ_ dT (a_this 6) 2 g_this_isKept)))) := hD
  refine lv_if_ne (tgt := 15) hx hb dX9_restore_8 (by decide) (fun c2 => ?_) (fun c2 => ?_)
  · replace h := iteF c2 h
    refine lv_aload_n hx hb dX9_restore_15 rfl (lv_at hl 0 rfl) ?_
    refine gf_X9_26 (v := .ref (a_this 6)) hx hb hqs hown hK hP 0 rfl rfl dX9_restore_16 ?_
    refine lv_iload_n hx hb dX9_restore_19 rfl (lv_at hl 1 rfl) ?_
    obtain ⟨g3, h⟩ := chk h
    refine va_zald hx hb hK hP 3 3 rfl rfl (inb_in g3) dX9_restore_20 ?_
    refine lv_if_ne (tgt := 28) hx hb dX9_restore_21 (by decide) (fun c4 => ?_) (fun c4 => ?_)
    · replace h := iteF c4 h
      refine lv_iconst (v := 0) hx hb dX9_restore_28 (by decide) ?_
      refine L_f_X9_restore_J29 g_this_kept g_this_isKept v1 (0 : Int32) g_this g_this_now   _ _ _ h hP hD hS (lv_sub hl [0, 1] rfl)
    · replace h := iteT c4 h
      refine lv_iconst (v := 2) hx hb dX9_restore_24 (by decide) ?_
      refine lv_goto (tgt := 29) hx hb dX9_restore_25 (by decide) ?_
      refine L_f_X9_restore_J29 g_this_kept g_this_isKept v1 (2 : Int32) g_this g_this_now   _ _ _ h hP hD hS (lv_sub hl [0, 1] rfl)
  · replace h := iteT c2 h
    refine lv_iconst (v := 1) hx hb dX9_restore_11 (by decide) ?_
    refine lv_goto (tgt := 29) hx hb dX9_restore_12 (by decide) ?_
    refine L_f_X9_restore_J29 g_this_kept g_this_isKept v1 (1 : Int32) g_this g_this_now   _ _ _ h hP hD hS (lv_sub hl [0, 1] rfl)

