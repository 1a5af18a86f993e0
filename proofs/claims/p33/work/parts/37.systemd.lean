def f_X8_succeeds (g_this_copy : TW) (g_this_chosen : TP) (g_this_other : TP) (v1 : Int32) : Option (Int32 × (TW × TP × TP)) :=
  (if (v1 / (100000 : Int32)) = (1 : Int32) then (if ((v1 / (10000 : Int32)) - (v1 / (10000 : Int32)) / (10 : Int32) * (10 : Int32)) = (0 : Int32) then (if ((v1 / (1000 : Int32)) - (v1 / (1000 : Int32)) / (10 : Int32) * (10 : Int32)) = (0 : Int32) then (if (v1 - v1 / (1000 : Int32) * (1000 : Int32)) = (0 : Int32) then (some ((0 : Int32), (g_this_copy, g_this_chosen, g_this_other))) else ((f_X7_hasTables g_this_copy (v1 - v1 / (1000 : Int32) * (1000 : Int32))).bind fun o5 => (if o5.1 = (0 : Int32) then (some ((0 : Int32), (g_this_copy, g_this_chosen, g_this_other))) else ((f_X8_runIn g_this_chosen g_this_other g_this_copy (v1 - v1 / (1000 : Int32) * (1000 : Int32))).bind fun o7 => (if o7.1 < (0 : Int32) then (some ((0 : Int32), (o7.2.2.2, o7.2.1, o7.2.2.1))) else (some ((1 : Int32), (o7.2.2.2, o7.2.1, o7.2.2.1)))))))) else (some ((0 : Int32), (g_this_copy, g_this_chosen, g_this_other)))) else (some ((0 : Int32), (g_this_copy, g_this_chosen, g_this_other)))) else (if (v1 / (100000 : Int32)) = (2 : Int32) then (if ((v1 / (10000 : Int32)) - (v1 / (10000 : Int32)) / (10 : Int32) * (10 : Int32)) = (0 : Int32) then (if ((v1 / (1000 : Int32)) - (v1 / (1000 : Int32)) / (10 : Int32) * (10 : Int32)) = (0 : Int32) then ((f_X8_isIn (v1 - v1 / (1000 : Int32) * (1000 : Int32)) (1 : Int32) (20 : Int32)).bind fun o11 => (if o11.1 = (0 : Int32) then (some ((0 : Int32), (g_this_copy, g_this_chosen, g_this_other))) else ((f_X7_passWeeks g_this_copy (v1 - v1 / (1000 : Int32) * (1000 : Int32))).bind fun o13 => (if o13.1 < (0 : Int32) then (some ((0 : Int32), (o13.2, g_this_chosen, g_this_other))) else (some ((1 : Int32), (o13.2, g_this_chosen, g_this_other))))))) else (some ((0 : Int32), (g_this_copy, g_this_chosen, g_this_other)))) else (some ((0 : Int32), (g_this_copy, g_this_chosen, g_this_other)))) else (if (v1 / (100000 : Int32)) = (3 : Int32) then ((f_X8_scriptDrifts g_this_copy ((v1 / (10000 : Int32)) - (v1 / (10000 : Int32)) / (10 : Int32) * (10 : Int32)) ((v1 / (1000 : Int32)) - (v1 / (1000 : Int32)) / (10 : Int32) * (10 : Int32)) (v1 - v1 / (1000 : Int32) * (1000 : Int32))).bind fun o15 => (if vp_nar .boolean o15.1 = o15.1 then (some (o15.1, (o15.2, g_this_chosen, g_this_other))) else none)) else (if (v1 / (100000 : Int32)) = (4 : Int32) then (if ((v1 / (1000 : Int32)) - (v1 / (1000 : Int32)) / (10 : Int32) * (10 : Int32)) = (0 : Int32) then ((f_X8_scriptSets g_this_copy ((v1 / (10000 : Int32)) - (v1 / (10000 : Int32)) / (10 : Int32) * (10 : Int32)) (v1 - v1 / (1000 : Int32) * (1000 : Int32))).bind fun o18 => (if o18.1 = (0 : Int32) then (some ((0 : Int32), (o18.2, g_this_chosen, g_this_other))) else (some ((1 : Int32), (o18.2, g_this_chosen, g_this_other))))) else (some ((0 : Int32), (g_this_copy, g_this_chosen, g_this_other)))) else (if (v1 / (100000 : Int32)) = (5 : Int32) then ((f_X8_scriptLinks g_this_copy ((v1 / (10000 : Int32)) - (v1 / (10000 : Int32)) / (10 : Int32) * (10 : Int32)) ((v1 / (1000 : Int32)) - (v1 / (1000 : Int32)) / (10 : Int32) * (10 : Int32)) (v1 - v1 / (1000 : Int32) * (1000 : Int32))).bind fun o20 => (if vp_nar .boolean o20.1 = o20.1 then (some (o20.1, (o20.2, g_this_chosen, g_this_other))) else none)) else (if (v1 / (100000 : Int32)) = (6 : Int32) then ((f_X7_hasTables g_this_copy (v1 - v1 / (1000 : Int32) * (1000 : Int32))).bind fun o22 => (if o22.1 = (0 : Int32) then (some ((0 : Int32), (g_this_copy, g_this_chosen, g_this_other))) else ((f_X8_chosenTableIs g_this_copy g_this_chosen ((v1 / (10000 : Int32)) - (v1 / (10000 : Int32)) / (10 : Int32) * (10 : Int32)) (v1 - v1 / (1000 : Int32) * (1000 : Int32)) ((v1 / (1000 : Int32)) - (v1 / (1000 : Int32)) / (10 : Int32) * (10 : Int32))).bind fun o24 => (if o24.1 = (0 : Int32) then (some ((0 : Int32), (g_this_copy, o24.2, g_this_other))) else (some ((1 : Int32), (g_this_copy, o24.2, g_this_other))))))) else (if (v1 / (100000 : Int32)) = (7 : Int32) then (if (100 : Int32) ≤ (v1 - v1 / (1000 : Int32) * (1000 : Int32)) then (some ((0 : Int32), (g_this_copy, g_this_chosen, g_this_other))) else ((f_X7_hasTwoTables g_this_copy ((v1 / (10000 : Int32)) - (v1 / (10000 : Int32)) / (10 : Int32) * (10 : Int32)) ((v1 / (1000 : Int32)) - (v1 / (1000 : Int32)) / (10 : Int32) * (10 : Int32))).bind fun o27 => (if o27.1 = (0 : Int32) then (some ((0 : Int32), (g_this_copy, g_this_chosen, g_this_other))) else ((f_X8_pairIndex ((v1 / (10000 : Int32)) - (v1 / (10000 : Int32)) / (10 : Int32) * (10 : Int32)) ((v1 / (1000 : Int32)) - (v1 / (1000 : Int32)) / (10 : Int32) * (10 : Int32))).bind fun o29 => ((f_X7_remembersSince g_this_copy o29.1 (v1 - v1 / (1000 : Int32) * (1000 : Int32))).bind fun o30 => (if o30.1 = (0 : Int32) then (some ((0 : Int32), (g_this_copy, g_this_chosen, g_this_other))) else (some ((1 : Int32), (g_this_copy, g_this_chosen, g_this_other))))))))) else (if (v1 / (100000 : Int32)) = (8 : Int32) then (if ((v1 / (10000 : Int32)) - (v1 / (10000 : Int32)) / (10 : Int32) * (10 : Int32)) = (0 : Int32) then (if ((v1 / (1000 : Int32)) - (v1 / (1000 : Int32)) / (10 : Int32) * (10 : Int32)) = (0 : Int32) then (if (100 : Int32) ≤ (v1 - v1 / (1000 : Int32) * (1000 : Int32)) then (some ((0 : Int32), (g_this_copy, g_this_chosen, g_this_other))) else (if (W_surprises g_this_copy) < (v1 - v1 / (1000 : Int32) * (1000 : Int32)) then (some ((0 : Int32), (g_this_copy, g_this_chosen, g_this_other))) else (some ((1 : Int32), (g_this_copy, g_this_chosen, g_this_other))))) else (some ((0 : Int32), (g_this_copy, g_this_chosen, g_this_other)))) else (some ((0 : Int32), (g_this_copy, g_this_chosen, g_this_other)))) else (if (v1 / (100000 : Int32)) = (9 : Int32) then (if ((v1 / (10000 : Int32)) - (v1 / (10000 : Int32)) / (10 : Int32) * (10 : Int32)) = (0 : Int32) then (if ((v1 / (1000 : Int32)) - (v1 / (1000 : Int32)) / (10 : Int32) * (10 : Int32)) = (0 : Int32) then ((f_X7_hasTables g_this_copy (v1 - v1 / (1000 : Int32) * (1000 : Int32))).bind fun o38 => (if o38.1 = (0 : Int32) then (some ((0 : Int32), (g_this_copy, g_this_chosen, g_this_other))) else ((f_X8_regretIn g_this_chosen g_this_other g_this_copy (v1 - v1 / (1000 : Int32) * (1000 : Int32))).bind fun o40 => (if (lg_cmp o40.1 (0 : Int64)) = (0 : Int32) then (some ((1 : Int32), (g_this_copy, o40.2.1, o40.2.2))) else (some ((0 : Int32), (g_this_copy, o40.2.1, o40.2.2))))))) else (some ((0 : Int32), (g_this_copy, g_this_chosen, g_this_other)))) else (some ((0 : Int32), (g_this_copy, g_this_chosen, g_this_other)))) else (some ((0 : Int32), (g_this_copy, g_this_chosen, g_this_other))))))))))))
set_option maxHeartbeats 8000000 in
set_option maxRecDepth 100000 in
theorem c_X8_succeeds (l : Launch) (hlt : l.stackTraces = false) (D : va_G) (dT : Nat → ClassId) (a_this : Nat → Nat → Nat) (g_this_copy : TW) (g_this_chosen : TP) (g_this_other : TP) (v1 : Int32) (o : (Int32 × (TW × TP × TP))) (h : f_X8_succeeds g_this_copy g_this_chosen g_this_other v1 = some o) (sz : Nat) : Met l yX8_succeeds (WSm yX8_succeeds cX8_succeeds 6 (some .boolean)) { frames := 6, cells := 0, slots := 0, locals := 147 } (va_Pc [.ref (a_this 0 0), .int v1] (cPre D dT (cSP a_this ++ (cW dT (a_this 5) g_this_copy ++ (cP dT (a_this 8) g_this_chosen ++ (cP dT (a_this 9) g_this_other)))) sz)) (va_Qi (fun (r : Int32) (u : TW × TP × TP) => r = o.1 ∧ u = o.2) (fun u t => cAt D dT (va_A (cSP a_this ++ (cW dT (a_this 5) g_this_copy ++ (cP dT (a_this 8) g_this_chosen ++ (cP dT (a_this 9) g_this_other)))) sz) (cSP a_this ++ (cW dT (a_this 5) (u.1) ++ (cP dT (a_this 8) (u.2.1) ++ (cP dT (a_this 9) (u.2.2))))) t) (va_A (cSP a_this ++ (cW dT (a_this 5) g_this_copy ++ (cP dT (a_this 8) g_this_chosen ++ (cP dT (a_this 9) g_this_other)))) sz)) 0 0 (va_A (cSP a_this ++ (cW dT (a_this 5) g_this_copy ++ (cP dT (a_this 8) g_this_chosen ++ (cP dT (a_this 9) g_this_other)))) sz) := by
  refine mStart (WS := (cSP a_this ++ (cW dT (a_this 5) g_this_copy ++ (cP dT (a_this 8) g_this_chosen ++ (cP dT (a_this 9) g_this_other))))) (Qc := fun A => va_Qi (fun (r : Int32) (u : TW × TP × TP) => r = o.1 ∧ u = o.2) (fun u t => cAt D dT A (cSP a_this ++ (cW dT (a_this 5) (u.1) ++ (cP dT (a_this 8) (u.2.1) ++ (cP dT (a_this 9) (u.2.2))))) t) A) RX8 rfl (by decide) (Nat.le_of_ble_eq_true rfl) ?_ sz
  intro p e s m below meth c A ls hx hb hml hr hlk hnm hts hqs hown hE hA hK hP hD hS hl
  have hl : lv_has ls 6 [(0, .ref (a_this 0 0)), (1, .int v1)] := hl
  unfold f_X8_succeeds at h
  refine lv_iload_n hx hb dX8_succeeds_0 rfl (lv_at hl 1 rfl) ?_
  refine lv_ldcw (v := 100000) hx hb hown (hqs _ w_374) dX8_succeeds_1 ?_
  refine lv_idiv hx hb dX8_succeeds_4 (by decide) ?_
  refine lv_istore_n (lv' := [(2, .int (v1 / (100000 : Int32))), (0, .ref (a_this 0 0)), (1, .int v1)]) hx hb dX8_succeeds_5 rfl hl (by decide) rfl (fun ls hl => ?_)
  refine lv_iload_n hx hb dX8_succeeds_6 rfl (lv_at hl 2 rfl) ?_
  refine lv_sipush (v := 10000) hx hb dX8_succeeds_7 (by decide) ?_
  refine lv_idiv hx hb dX8_succeeds_10 (by decide) ?_
  refine lv_bipush (v := 10) hx hb dX8_succeeds_11 (by decide) ?_
  refine lv_irem hx hb dX8_succeeds_13 (by decide) ?_
  refine lv_istore_n (lv' := [(3, .int ((v1 / (10000 : Int32)) - (v1 / (10000 : Int32)) / (10 : Int32) * (10 : Int32))), (2, .int (v1 / (100000 : Int32))), (0, .ref (a_this 0 0)), (1, .int v1)]) hx hb dX8_succeeds_14 rfl hl (by decide) rfl (fun ls hl => ?_)
  refine lv_iload_n hx hb dX8_succeeds_15 rfl (lv_at hl 3 rfl) ?_
  refine lv_sipush (v := 1000) hx hb dX8_succeeds_16 (by decide) ?_
  refine lv_idiv hx hb dX8_succeeds_19 (by decide) ?_
  refine lv_bipush (v := 10) hx hb dX8_succeeds_20 (by decide) ?_
  refine lv_irem hx hb dX8_succeeds_22 (by decide) ?_
  refine lv_istore (lv' := [(4, .int ((v1 / (1000 : Int32)) - (v1 / (1000 : Int32)) / (10 : Int32) * (10 : Int32))), (3, .int ((v1 / (10000 : Int32)) - (v1 / (10000 : Int32)) / (10 : Int32) * (10 : Int32))), (2, .int (v1 / (100000 : Int32))), (0, .ref (a_this 0 0)), (1, .int v1)]) hx hb dX8_succeeds_23 hl (by decide) rfl (fun ls hl => ?_)
  refine lv_iload_n hx hb dX8_succeeds_25 rfl (lv_at hl 4 rfl) ?_
  refine lv_sipush (v := 1000) hx hb dX8_succeeds_26 (by decide) ?_
  refine lv_irem hx hb dX8_succeeds_29 (by decide) ?_
  refine lv_istore (lv' := [(5, .int (v1 - v1 / (1000 : Int32) * (1000 : Int32))), (4, .int ((v1 / (1000 : Int32)) - (v1 / (1000 : Int32)) / (10 : Int32) * (10 : Int32))), (3, .int ((v1 / (10000 : Int32)) - (v1 / (10000 : Int32)) / (10 : Int32) * (10 : Int32))), (2, .int (v1 / (100000 : Int32))), (0, .ref (a_this 0 0)), (1, .int v1)]) hx hb dX8_succeeds_30 hl (by decide) rfl (fun ls hl => ?_)
  refine lv_iload_n hx hb dX8_succeeds_32 rfl (lv_at hl 3 rfl) ?_
  by_cases c1_1 : (v1 / (100000 : Int32)) = (1 : Int32)
  · replace h := iteT c1_1 h
    refine lv_tableIn (off := (51)) (tgt := 84) hx hb dX8_succeeds_33 (by rw [c1_1]; decide) (by rw [c1_1]; decide) (by rw [c1_1]; rfl) (by decide) ?_
    refine lv_iload_n hx hb dX8_succeeds_84 rfl (lv_at hl 2 rfl) ?_
    refine lv_if_ne (tgt := 127) hx hb dX8_succeeds_85 (by decide) (fun c2 => ?_) (fun c2 => ?_)
    · replace h := iteF c2 h
      refine lv_iconst (v := 0) hx hb dX8_succeeds_127 (by decide) ?_
      exact rt_z hx hb hr hlk hK hS ((g_this_copy, g_this_chosen, g_this_other) : TW × TP × TP) (ret2 h) (by decide) hP hD dX8_succeeds_128
    · replace h := iteT c2 h
      refine lv_iload hx hb dX8_succeeds_88 (lv_at hl 1 rfl) ?_
      refine lv_if_ne (tgt := 127) hx hb dX8_succeeds_90 (by decide) (fun c3 => ?_) (fun c3 => ?_)
      · replace h := iteF c3 h
        refine lv_iconst (v := 0) hx hb dX8_succeeds_127 (by decide) ?_
        exact rt_z hx hb hr hlk hK hS ((g_this_copy, g_this_chosen, g_this_other) : TW × TP × TP) (ret2 h) (by decide) hP hD dX8_succeeds_128
      · replace h := iteT c3 h
        refine lv_iload hx hb dX8_succeeds_93 (lv_at hl 0 rfl) ?_
        refine lv_if_eq (tgt := 127) hx hb dX8_succeeds_95 (by decide) (fun c4 => ?_) (fun c4 => ?_)
        · replace h := iteT c4 h
          refine lv_iconst (v := 0) hx hb dX8_succeeds_127 (by decide) ?_
          exact rt_z hx hb hr hlk hK hS ((g_this_copy, g_this_chosen, g_this_other) : TW × TP × TP) (ret2 h) (by decide) hP hD dX8_succeeds_128
        · replace h := iteF c4 h
          refine lv_aload_n hx hb dX8_succeeds_98 rfl (lv_at hl 4 rfl) ?_
          refine gf_X8_37 (v := .ref ((a_this 5) 0)) hx hb hqs hown hK hP 0 rfl rfl dX8_succeeds_99 ?_
          refine lv_iload hx hb dX8_succeeds_102 (lv_at hl 0 rfl) ?_
          obtain ⟨o5, e5, h⟩ := obind h
          have hPq : va_P D vwCl ((cW dT (a_this 5) g_this_copy) ++ (cSP a_this ++ (cP dT (a_this 8) g_this_chosen ++ (cP dT (a_this 9) g_this_other)))) _ := hP.perm (wj_split [cSP a_this, cW dT (a_this 5) g_this_copy, cP dT (a_this 8) g_this_chosen, cP dT (a_this 9) g_this_other] [1] [0, 2, 3] rfl)
          have hDq : va_D A ((cW dT (a_this 5) g_this_copy) ++ (cSP a_this ++ (cP dT (a_this 8) g_this_chosen ++ (cP dT (a_this 9) g_this_other)))) := hD.perm (wj_split [cSP a_this, cW dT (a_this 5) g_this_copy, cP dT (a_this 8) g_this_chosen, cP dT (a_this 9) g_this_other] [1] [0, 2, 3] rfl)
          have hPc := hPq.left
          have hDc := hDq.left
          have hFc := va_freeL hDq hS hA
          refine cl_iL (wr := (cSP a_this ++ (cP dT (a_this 8) g_this_chosen ++ (cP dT (a_this 9) g_this_other)))) (va_runV (As := [.int (v1 - v1 / (1000 : Int32) * (1000 : Int32))]) (rest := []) ⟨hx, hb, hml, hown, hts⟩ (c_X7_hasTables l hlt D dT (a_this 5) g_this_copy (v1 - v1 / (1000 : Int32) * (1000 : Int32)) o5 e5 _) (cwV 1 hts (TB_V w_375 w_376 w_377 w_38 w_378) rfl rfl rfl ⟨rfl, nd_X7_hasTables⟩ ⟨Nat.le_of_ble_eq_true rfl, Nat.le_of_ble_eq_true rfl⟩) (cPre.V hPc hDc hK hE hS hFc (va_recv hK hPc (ci := 6) (q0 := 0) rfl rfl)) rfl rfl hl.1 rfl (lv_room (Nat.le_of_ble_eq_true rfl)) dX8_succeeds_104 ⟨Nat.zero_le _, Nat.zero_le _⟩) hPq hDq hS hFc (fun r5 u5 H locs hw hP hD hS => ?_)
          obtain ⟨rfl, rfl⟩ := hw
          have hP : va_P D vwCl (cSP a_this ++ (cW dT (a_this 5) g_this_copy ++ (cP dT (a_this 8) g_this_chosen ++ (cP dT (a_this 9) g_this_other)))) H := hP.perm (wj_back [cW dT (a_this 5) g_this_copy] [cSP a_this, cP dT (a_this 8) g_this_chosen, cP dT (a_this 9) g_this_other] [1, 0, 2, 3] rfl)
          have hD : va_D A (cSP a_this ++ (cW dT (a_this 5) g_this_copy ++ (cP dT (a_this 8) g_this_chosen ++ (cP dT (a_this 9) g_this_other)))) := hD.perm (wj_back [cW dT (a_this 5) g_this_copy] [cSP a_this, cP dT (a_this 8) g_this_chosen, cP dT (a_this 9) g_this_other] [1, 0, 2, 3] rfl)
          refine lv_if_eq (tgt := 127) hx hb dX8_succeeds_107 (by decide) (fun c6 => ?_) (fun c6 => ?_)
          · replace h := iteT c6 h
            refine lv_iconst (v := 0) hx hb dX8_succeeds_127 (by decide) ?_
            exact rt_z hx hb hr hlk hK hS ((g_this_copy, g_this_chosen, g_this_other) : TW × TP × TP) (ret2 h) (by decide) hP hD dX8_succeeds_128
          · replace h := iteF c6 h
            refine lv_aload_n hx hb dX8_succeeds_110 rfl (lv_at hl 4 rfl) ?_
            refine lv_aload_n hx hb dX8_succeeds_111 rfl (lv_at hl 4 rfl) ?_
            refine gf_X8_37 (v := .ref ((a_this 5) 0)) hx hb hqs hown hK hP 0 rfl rfl dX8_succeeds_112 ?_
            refine lv_iload hx hb dX8_succeeds_115 (lv_at hl 0 rfl) ?_
            obtain ⟨o7, e7, h⟩ := obind h
            have hPq : va_P D vwCl ((cSP a_this ++ (cP dT (a_this 8) g_this_chosen ++ (cP dT (a_this 9) g_this_other ++ (cW dT (a_this 5) g_this_copy)))) ++ ([] : va_W)) _ := hP.perm (wj_split [cSP a_this, cW dT (a_this 5) g_this_copy, cP dT (a_this 8) g_this_chosen, cP dT (a_this 9) g_this_other] [0, 2, 3, 1] [] rfl)
            have hDq : va_D A ((cSP a_this ++ (cP dT (a_this 8) g_this_chosen ++ (cP dT (a_this 9) g_this_other ++ (cW dT (a_this 5) g_this_copy)))) ++ ([] : va_W)) := hD.perm (wj_split [cSP a_this, cW dT (a_this 5) g_this_copy, cP dT (a_this 8) g_this_chosen, cP dT (a_this 9) g_this_other] [0, 2, 3, 1] [] rfl)
            have hPc := hPq.left
            have hDc := hDq.left
            have hFc := va_freeL hDq hS hA
            refine cl_iL (wr := ([] : va_W)) (va_runV (As := [.ref ((a_this 5) 0), .int (v1 - v1 / (1000 : Int32) * (1000 : Int32))]) (rest := []) ⟨hx, hb, hml, hown, hts⟩ (c_X8_runIn l hlt D dT a_this (a_this 5) g_this_chosen g_this_other g_this_copy (v1 - v1 / (1000 : Int32) * (1000 : Int32)) o7 e7 _) (cwV 2 hts (TB_V w_379 w_381 w_2 w_33 w_382) rfl rfl rfl ⟨rfl, nd_X8_runIn⟩ ⟨Nat.le_of_ble_eq_true rfl, Nat.le_of_ble_eq_true rfl⟩) (cPre.V hPc hDc hK hE hS hFc (va_recv hK hPc (ci := 7) (q0 := 0) rfl rfl)) rfl rfl hl.1 rfl (lv_room (Nat.le_of_ble_eq_true rfl)) dX8_succeeds_117 ⟨Nat.zero_le _, Nat.zero_le _⟩) hPq hDq hS hFc (fun r7 u7 H locs hw hP hD hS => ?_)
            obtain ⟨rfl, rfl⟩ := hw
            have hP : va_P D vwCl (cSP a_this ++ (cW dT (a_this 5) o7.2.2.2 ++ (cP dT (a_this 8) o7.2.1 ++ (cP dT (a_this 9) o7.2.2.1)))) H := hP.perm (wj_back [cSP a_this, cP dT (a_this 8) o7.2.1, cP dT (a_this 9) o7.2.2.1, cW dT (a_this 5) o7.2.2.2] [] [0, 3, 1, 2] rfl)
            have hD : va_D A (cSP a_this ++ (cW dT (a_this 5) o7.2.2.2 ++ (cP dT (a_this 8) o7.2.1 ++ (cP dT (a_this 9) o7.2.2.1)))) := hD.perm (wj_back [cSP a_this, cP dT (a_this 8) o7.2.1, cP dT (a_this 9) o7.2.2.1, cW dT (a_this 5) o7.2.2.2] [] [0, 3, 1, 2] rfl)
            refine lv_if_lt (tgt := 127) hx hb dX8_succeeds_120 (by decide) (fun c8 => ?_) (fun c8 => ?_)
            · replace h := iteT c8 h
              refine lv_iconst (v := 0) hx hb dX8_succeeds_127 (by decide) ?_
              exact rt_z hx hb hr hlk hK hS ((o7.2.2.2, o7.2.1, o7.2.2.1) : TW × TP × TP) (ret2 h) (by decide) hP hD dX8_succeeds_128
            · replace h := iteF c8 h
              refine lv_iconst (v := 1) hx hb dX8_succeeds_123 (by decide) ?_
              refine lv_goto (tgt := 128) hx hb dX8_succeeds_124 (by decide) ?_
              exact rt_z hx hb hr hlk hK hS ((o7.2.2.2, o7.2.1, o7.2.2.1) : TW × TP × TP) (ret2 h) (by decide) hP hD dX8_succeeds_128
  replace h := iteF c1_1 h
  by_cases c1_2 : (v1 / (100000 : Int32)) = (2 : Int32)
  · replace h := iteT c1_2 h
    refine lv_tableIn (off := (96)) (tgt := 129) hx hb dX8_succeeds_33 (by rw [c1_2]; decide) (by rw [c1_2]; decide) (by rw [c1_2]; rfl) (by decide) ?_
    refine lv_iload_n hx hb dX8_succeeds_129 rfl (lv_at hl 2 rfl) ?_
    refine lv_if_ne (tgt := 165) hx hb dX8_succeeds_130 (by decide) (fun c9 => ?_) (fun c9 => ?_)
    · replace h := iteF c9 h
      refine lv_iconst (v := 0) hx hb dX8_succeeds_165 (by decide) ?_
      exact rt_z hx hb hr hlk hK hS ((g_this_copy, g_this_chosen, g_this_other) : TW × TP × TP) (ret2 h) (by decide) hP hD dX8_succeeds_166
    · replace h := iteT c9 h
      refine lv_iload hx hb dX8_succeeds_133 (lv_at hl 1 rfl) ?_
      refine lv_if_ne (tgt := 165) hx hb dX8_succeeds_135 (by decide) (fun c10 => ?_) (fun c10 => ?_)
      · replace h := iteF c10 h
        refine lv_iconst (v := 0) hx hb dX8_succeeds_165 (by decide) ?_
        exact rt_z hx hb hr hlk hK hS ((g_this_copy, g_this_chosen, g_this_other) : TW × TP × TP) (ret2 h) (by decide) hP hD dX8_succeeds_166
      · replace h := iteT c10 h
        refine lv_iload hx hb dX8_succeeds_138 (lv_at hl 0 rfl) ?_
        refine lv_iconst (v := 1) hx hb dX8_succeeds_140 (by decide) ?_
        refine lv_bipush (v := 20) hx hb dX8_succeeds_141 (by decide) ?_
        obtain ⟨o11, e11, h⟩ := obind h
        have hPq : va_P D vwCl (([] : va_W) ++ (cSP a_this ++ (cW dT (a_this 5) g_this_copy ++ (cP dT (a_this 8) g_this_chosen ++ (cP dT (a_this 9) g_this_other))))) _ := hP.perm (wj_split [cSP a_this, cW dT (a_this 5) g_this_copy, cP dT (a_this 8) g_this_chosen, cP dT (a_this 9) g_this_other] [] [0, 1, 2, 3] rfl)
        have hDq : va_D A (([] : va_W) ++ (cSP a_this ++ (cW dT (a_this 5) g_this_copy ++ (cP dT (a_this 8) g_this_chosen ++ (cP dT (a_this 9) g_this_other))))) := hD.perm (wj_split [cSP a_this, cW dT (a_this 5) g_this_copy, cP dT (a_this 8) g_this_chosen, cP dT (a_this 9) g_this_other] [] [0, 1, 2, 3] rfl)
        have hPc := hPq.left
        have hDc := hDq.left
        have hFc := va_freeL hDq hS hA
        refine cl_iL (wr := (cSP a_this ++ (cW dT (a_this 5) g_this_copy ++ (cP dT (a_this 8) g_this_chosen ++ (cP dT (a_this 9) g_this_other))))) (va_runS (As := [.int (v1 - v1 / (1000 : Int32) * (1000 : Int32)), .int (1 : Int32), .int (20 : Int32)]) (rest := []) ⟨hx, hb, hml, hown, hts⟩ (c_X8_isIn l hlt D dT (v1 - v1 / (1000 : Int32) * (1000 : Int32)) (1 : Int32) (20 : Int32) o11 e11 _) (va_cwS 3 hts (TB_S w_290 w_291 w_33 w_292) rfl rfl rfl nd_X8_isIn ⟨Nat.le_of_ble_eq_true rfl, Nat.le_of_ble_eq_true rfl⟩) (cPre.S hPc hDc hK hE hS hFc) rfl rfl hl.1 rfl (lv_room (Nat.le_of_ble_eq_true rfl)) dX8_succeeds_143 ⟨Nat.zero_le _, Nat.zero_le _⟩) hPq hDq hS hFc (fun r11 u11 H locs hw hP hD hS => ?_)
        obtain ⟨rfl, rfl⟩ := hw
        have hP : va_P D vwCl (cSP a_this ++ (cW dT (a_this 5) g_this_copy ++ (cP dT (a_this 8) g_this_chosen ++ (cP dT (a_this 9) g_this_other)))) H := hP.perm (wj_back [] [cSP a_this, cW dT (a_this 5) g_this_copy, cP dT (a_this 8) g_this_chosen, cP dT (a_this 9) g_this_other] [0, 1, 2, 3] rfl)
        have hD : va_D A (cSP a_this ++ (cW dT (a_this 5) g_this_copy ++ (cP dT (a_this 8) g_this_chosen ++ (cP dT (a_this 9) g_this_other)))) := hD.perm (wj_back [] [cSP a_this, cW dT (a_this 5) g_this_copy, cP dT (a_this 8) g_this_chosen, cP dT (a_this 9) g_this_other] [0, 1, 2, 3] rfl)
        refine lv_if_eq (tgt := 165) hx hb dX8_succeeds_146 (by decide) (fun c12 => ?_) (fun c12 => ?_)
        · replace h := iteT c12 h
          refine lv_iconst (v := 0) hx hb dX8_succeeds_165 (by decide) ?_
          exact rt_z hx hb hr hlk hK hS ((g_this_copy, g_this_chosen, g_this_other) : TW × TP × TP) (ret2 h) (by decide) hP hD dX8_succeeds_166
        · replace h := iteF c12 h
          refine lv_aload_n hx hb dX8_succeeds_149 rfl (lv_at hl 4 rfl) ?_
          refine gf_X8_37 (v := .ref ((a_this 5) 0)) hx hb hqs hown hK hP 0 rfl rfl dX8_succeeds_150 ?_
          refine lv_iload hx hb dX8_succeeds_153 (lv_at hl 0 rfl) ?_
          obtain ⟨o13, e13, h⟩ := obind h
          have hPq : va_P D vwCl ((cW dT (a_this 5) g_this_copy) ++ (cSP a_this ++ (cP dT (a_this 8) g_this_chosen ++ (cP dT (a_this 9) g_this_other)))) _ := hP.perm (wj_split [cSP a_this, cW dT (a_this 5) g_this_copy, cP dT (a_this 8) g_this_chosen, cP dT (a_this 9) g_this_other] [1] [0, 2, 3] rfl)
          have hDq : va_D A ((cW dT (a_this 5) g_this_copy) ++ (cSP a_this ++ (cP dT (a_this 8) g_this_chosen ++ (cP dT (a_this 9) g_this_other)))) := hD.perm (wj_split [cSP a_this, cW dT (a_this 5) g_this_copy, cP dT (a_this 8) g_this_chosen, cP dT (a_this 9) g_this_other] [1] [0, 2, 3] rfl)
          have hPc := hPq.left
          have hDc := hDq.left
          have hFc := va_freeL hDq hS hA
          refine cl_iL (wr := (cSP a_this ++ (cP dT (a_this 8) g_this_chosen ++ (cP dT (a_this 9) g_this_other)))) (va_runV (As := [.int (v1 - v1 / (1000 : Int32) * (1000 : Int32))]) (rest := []) ⟨hx, hb, hml, hown, hts⟩ (c_X7_passWeeks l hlt D dT (a_this 5) g_this_copy (v1 - v1 / (1000 : Int32) * (1000 : Int32)) o13 e13 _) (cwV 1 hts (TB_V w_498 w_499 w_500 w_38 w_501) rfl rfl rfl ⟨rfl, nd_X7_passWeeks⟩ ⟨Nat.le_of_ble_eq_true rfl, Nat.le_of_ble_eq_true rfl⟩) (cPre.V hPc hDc hK hE hS hFc (va_recv hK hPc (ci := 6) (q0 := 0) rfl rfl)) rfl rfl hl.1 rfl (lv_room (Nat.le_of_ble_eq_true rfl)) dX8_succeeds_155 ⟨Nat.zero_le _, Nat.zero_le _⟩) hPq hDq hS hFc (fun r13 u13 H locs hw hP hD hS => ?_)
          obtain ⟨rfl, rfl⟩ := hw
          have hP : va_P D vwCl (cSP a_this ++ (cW dT (a_this 5) o13.2 ++ (cP dT (a_this 8) g_this_chosen ++ (cP dT (a_this 9) g_this_other)))) H := hP.perm (wj_back [cW dT (a_this 5) o13.2] [cSP a_this, cP dT (a_this 8) g_this_chosen, cP dT (a_this 9) g_this_other] [1, 0, 2, 3] rfl)
          have hD : va_D A (cSP a_this ++ (cW dT (a_this 5) o13.2 ++ (cP dT (a_this 8) g_this_chosen ++ (cP dT (a_this 9) g_this_other)))) := hD.perm (wj_back [cW dT (a_this 5) o13.2] [cSP a_this, cP dT (a_this 8) g_this_chosen, cP dT (a_this 9) g_this_other] [1, 0, 2, 3] rfl)
          refine lv_if_lt (tgt := 165) hx hb dX8_succeeds_158 (by decide) (fun c14 => ?_) (fun c14 => ?_)
          · replace h := iteT c14 h
            refine lv_iconst (v := 0) hx hb dX8_succeeds_165 (by decide) ?_
            exact rt_z hx hb hr hlk hK hS ((o13.2, g_this_chosen, g_this_other) : TW × TP × TP) (ret2 h) (by decide) hP hD dX8_succeeds_166
          · replace h := iteF c14 h
            refine lv_iconst (v := 1) hx hb dX8_succeeds_161 (by decide) ?_
            refine lv_goto (tgt := 166) hx hb dX8_succeeds_162 (by decide) ?_
            exact rt_z hx hb hr hlk hK hS ((o13.2, g_this_chosen, g_this_other) : TW × TP × TP) (ret2 h) (by decide) hP hD dX8_succeeds_166
  replace h := iteF c1_2 h
  by_cases c1_3 : (v1 / (100000 : Int32)) = (3 : Int32)
  · replace h := iteT c1_3 h
    refine lv_tableIn (off := (134)) (tgt := 167) hx hb dX8_succeeds_33 (by rw [c1_3]; decide) (by rw [c1_3]; decide) (by rw [c1_3]; rfl) (by decide) ?_
    refine lv_aload_n hx hb dX8_succeeds_167 rfl (lv_at hl 4 rfl) ?_
    refine lv_iload_n hx hb dX8_succeeds_168 rfl (lv_at hl 2 rfl) ?_
    refine lv_iload hx hb dX8_succeeds_169 (lv_at hl 1 rfl) ?_
    refine lv_iload hx hb dX8_succeeds_171 (lv_at hl 0 rfl) ?_
    obtain ⟨o15, e15, h⟩ := obind h
    have hPq : va_P D vwCl ((cSP a_this ++ (cW dT (a_this 5) g_this_copy)) ++ (cP dT (a_this 8) g_this_chosen ++ (cP dT (a_this 9) g_this_other))) _ := hP.perm (wj_split [cSP a_this, cW dT (a_this 5) g_this_copy, cP dT (a_this 8) g_this_chosen, cP dT (a_this 9) g_this_other] [0, 1] [2, 3] rfl)
    have hDq : va_D A ((cSP a_this ++ (cW dT (a_this 5) g_this_copy)) ++ (cP dT (a_this 8) g_this_chosen ++ (cP dT (a_this 9) g_this_other))) := hD.perm (wj_split [cSP a_this, cW dT (a_this 5) g_this_copy, cP dT (a_this 8) g_this_chosen, cP dT (a_this 9) g_this_other] [0, 1] [2, 3] rfl)
    have hPc := hPq.left
    have hDc := hDq.left
    have hFc := va_freeL hDq hS hA
    refine cl_iL (wr := (cP dT (a_this 8) g_this_chosen ++ (cP dT (a_this 9) g_this_other))) (va_runV (As := [.int ((v1 / (10000 : Int32)) - (v1 / (10000 : Int32)) / (10 : Int32) * (10 : Int32)), .int ((v1 / (1000 : Int32)) - (v1 / (1000 : Int32)) / (10 : Int32) * (10 : Int32)), .int (v1 - v1 / (1000 : Int32) * (1000 : Int32))]) (rest := []) ⟨hx, hb, hml, hown, hts⟩ (c_X8_scriptDrifts l hlt D dT a_this g_this_copy ((v1 / (10000 : Int32)) - (v1 / (10000 : Int32)) / (10 : Int32) * (10 : Int32)) ((v1 / (1000 : Int32)) - (v1 / (1000 : Int32)) / (10 : Int32) * (10 : Int32)) (v1 - v1 / (1000 : Int32) * (1000 : Int32)) o15 e15 _) (cwV 3 hts (TB_V w_518 w_520 w_15 w_33 w_521) rfl rfl rfl ⟨rfl, nd_X8_scriptDrifts⟩ ⟨Nat.le_of_ble_eq_true rfl, Nat.le_of_ble_eq_true rfl⟩) (cPre.V hPc hDc hK hE hS hFc (va_recv hK hPc (ci := 7) (q0 := 0) rfl rfl)) rfl rfl hl.1 rfl (lv_room (Nat.le_of_ble_eq_true rfl)) dX8_succeeds_173 ⟨Nat.zero_le _, Nat.zero_le _⟩) hPq hDq hS hFc (fun r15 u15 H locs hw hP hD hS => ?_)
    obtain ⟨rfl, rfl⟩ := hw
    have hP : va_P D vwCl (cSP a_this ++ (cW dT (a_this 5) o15.2 ++ (cP dT (a_this 8) g_this_chosen ++ (cP dT (a_this 9) g_this_other)))) H := hP.perm (wj_back [cSP a_this, cW dT (a_this 5) o15.2] [cP dT (a_this 8) g_this_chosen, cP dT (a_this 9) g_this_other] [0, 1, 2, 3] rfl)
    have hD : va_D A (cSP a_this ++ (cW dT (a_this 5) o15.2 ++ (cP dT (a_this 8) g_this_chosen ++ (cP dT (a_this 9) g_this_other)))) := hD.perm (wj_back [cSP a_this, cW dT (a_this 5) o15.2] [cP dT (a_this 8) g_this_chosen, cP dT (a_this 9) g_this_other] [0, 1, 2, 3] rfl)
    obtain ⟨g16, h⟩ := chp h
    exact rt_z hx hb hr hlk hK hS ((o15.2, g_this_chosen, g_this_other) : TW × TP × TP) (ret2 h) g16 hP hD dX8_succeeds_176
  replace h := iteF c1_3 h
  by_cases c1_4 : (v1 / (100000 : Int32)) = (4 : Int32)
  · replace h := iteT c1_4 h
    refine lv_tableIn (off := (144)) (tgt := 177) hx hb dX8_succeeds_33 (by rw [c1_4]; decide) (by rw [c1_4]; decide) (by rw [c1_4]; rfl) (by decide) ?_
    refine lv_iload hx hb dX8_succeeds_177 (lv_at hl 1 rfl) ?_
    refine lv_if_ne (tgt := 196) hx hb dX8_succeeds_179 (by decide) (fun c17 => ?_) (fun c17 => ?_)
    · replace h := iteF c17 h
      refine lv_iconst (v := 0) hx hb dX8_succeeds_196 (by decide) ?_
      exact rt_z hx hb hr hlk hK hS ((g_this_copy, g_this_chosen, g_this_other) : TW × TP × TP) (ret2 h) (by decide) hP hD dX8_succeeds_197
    · replace h := iteT c17 h
      refine lv_aload_n hx hb dX8_succeeds_182 rfl (lv_at hl 4 rfl) ?_
      refine lv_iload_n hx hb dX8_succeeds_183 rfl (lv_at hl 2 rfl) ?_
      refine lv_iload hx hb dX8_succeeds_184 (lv_at hl 0 rfl) ?_
      obtain ⟨o18, e18, h⟩ := obind h
      have hPq : va_P D vwCl ((cSP a_this ++ (cW dT (a_this 5) g_this_copy)) ++ (cP dT (a_this 8) g_this_chosen ++ (cP dT (a_this 9) g_this_other))) _ := hP.perm (wj_split [cSP a_this, cW dT (a_this 5) g_this_copy, cP dT (a_this 8) g_this_chosen, cP dT (a_this 9) g_this_other] [0, 1] [2, 3] rfl)
      have hDq : va_D A ((cSP a_this ++ (cW dT (a_this 5) g_this_copy)) ++ (cP dT (a_this 8) g_this_chosen ++ (cP dT (a_this 9) g_this_other))) := hD.perm (wj_split [cSP a_this, cW dT (a_this 5) g_this_copy, cP dT (a_this 8) g_this_chosen, cP dT (a_this 9) g_this_other] [0, 1] [2, 3] rfl)
      have hPc := hPq.left
      have hDc := hDq.left
      have hFc := va_freeL hDq hS hA
      refine cl_iL (wr := (cP dT (a_this 8) g_this_chosen ++ (cP dT (a_this 9) g_this_other))) (va_runV (As := [.int ((v1 / (10000 : Int32)) - (v1 / (10000 : Int32)) / (10 : Int32) * (10 : Int32)), .int (v1 - v1 / (1000 : Int32) * (1000 : Int32))]) (rest := []) ⟨hx, hb, hml, hown, hts⟩ (c_X8_scriptSets l hlt D dT a_this g_this_copy ((v1 / (10000 : Int32)) - (v1 / (10000 : Int32)) / (10 : Int32) * (10 : Int32)) (v1 - v1 / (1000 : Int32) * (1000 : Int32)) o18 e18 _) (cwV 2 hts (TB_V w_536 w_538 w_16 w_33 w_539) rfl rfl rfl ⟨rfl, nd_X8_scriptSets⟩ ⟨Nat.le_of_ble_eq_true rfl, Nat.le_of_ble_eq_true rfl⟩) (cPre.V hPc hDc hK hE hS hFc (va_recv hK hPc (ci := 7) (q0 := 0) rfl rfl)) rfl rfl hl.1 rfl (lv_room (Nat.le_of_ble_eq_true rfl)) dX8_succeeds_186 ⟨Nat.zero_le _, Nat.zero_le _⟩) hPq hDq hS hFc (fun r18 u18 H locs hw hP hD hS => ?_)
      obtain ⟨rfl, rfl⟩ := hw
      have hP : va_P D vwCl (cSP a_this ++ (cW dT (a_this 5) o18.2 ++ (cP dT (a_this 8) g_this_chosen ++ (cP dT (a_this 9) g_this_other)))) H := hP.perm (wj_back [cSP a_this, cW dT (a_this 5) o18.2] [cP dT (a_this 8) g_this_chosen, cP dT (a_this 9) g_this_other] [0, 1, 2, 3] rfl)
      have hD : va_D A (cSP a_this ++ (cW dT (a_this 5) o18.2 ++ (cP dT (a_this 8) g_this_chosen ++ (cP dT (a_this 9) g_this_other)))) := hD.perm (wj_back [cSP a_this, cW dT (a_this 5) o18.2] [cP dT (a_this 8) g_this_chosen, cP dT (a_this 9) g_this_other] [0, 1, 2, 3] rfl)
      refine lv_if_eq (tgt := 196) hx hb dX8_succeeds_189 (by decide) (fun c19 => ?_) (fun c19 => ?_)
      · replace h := iteT c19 h
        refine lv_iconst (v := 0) hx hb dX8_succeeds_196 (by decide) ?_
        exact rt_z hx hb hr hlk hK hS ((o18.2, g_this_chosen, g_this_other) : TW × TP × TP) (ret2 h) (by decide) hP hD dX8_succeeds_197
      · replace h := iteF c19 h
        refine lv_iconst (v := 1) hx hb dX8_succeeds_192 (by decide) ?_
        refine lv_goto (tgt := 197) hx hb dX8_succeeds_193 (by decide) ?_
        exact rt_z hx hb hr hlk hK hS ((o18.2, g_this_chosen, g_this_other) : TW × TP × TP) (ret2 h) (by decide) hP hD dX8_succeeds_197
  replace h := iteF c1_4 h
  by_cases c1_5 : (v1 / (100000 : Int32)) = (5 : Int32)
  · replace h := iteT c1_5 h
    refine lv_tableIn (off := (165)) (tgt := 198) hx hb dX8_succeeds_33 (by rw [c1_5]; decide) (by rw [c1_5]; decide) (by rw [c1_5]; rfl) (by decide) ?_
    refine lv_aload_n hx hb dX8_succeeds_198 rfl (lv_at hl 4 rfl) ?_
    refine lv_iload_n hx hb dX8_succeeds_199 rfl (lv_at hl 2 rfl) ?_
    refine lv_iload hx hb dX8_succeeds_200 (lv_at hl 1 rfl) ?_
    refine lv_iload hx hb dX8_succeeds_202 (lv_at hl 0 rfl) ?_
    obtain ⟨o20, e20, h⟩ := obind h
    have hPq : va_P D vwCl ((cSP a_this ++ (cW dT (a_this 5) g_this_copy)) ++ (cP dT (a_this 8) g_this_chosen ++ (cP dT (a_this 9) g_this_other))) _ := hP.perm (wj_split [cSP a_this, cW dT (a_this 5) g_this_copy, cP dT (a_this 8) g_this_chosen, cP dT (a_this 9) g_this_other] [0, 1] [2, 3] rfl)
    have hDq : va_D A ((cSP a_this ++ (cW dT (a_this 5) g_this_copy)) ++ (cP dT (a_this 8) g_this_chosen ++ (cP dT (a_this 9) g_this_other))) := hD.perm (wj_split [cSP a_this, cW dT (a_this 5) g_this_copy, cP dT (a_this 8) g_this_chosen, cP dT (a_this 9) g_this_other] [0, 1] [2, 3] rfl)
    have hPc := hPq.left
    have hDc := hDq.left
    have hFc := va_freeL hDq hS hA
    refine cl_iL (wr := (cP dT (a_this 8) g_this_chosen ++ (cP dT (a_this 9) g_this_other))) (va_runV (As := [.int ((v1 / (10000 : Int32)) - (v1 / (10000 : Int32)) / (10 : Int32) * (10 : Int32)), .int ((v1 / (1000 : Int32)) - (v1 / (1000 : Int32)) / (10 : Int32) * (10 : Int32)), .int (v1 - v1 / (1000 : Int32) * (1000 : Int32))]) (rest := []) ⟨hx, hb, hml, hown, hts⟩ (c_X8_scriptLinks l hlt D dT a_this g_this_copy ((v1 / (10000 : Int32)) - (v1 / (10000 : Int32)) / (10 : Int32) * (10 : Int32)) ((v1 / (1000 : Int32)) - (v1 / (1000 : Int32)) / (10 : Int32) * (10 : Int32)) (v1 - v1 / (1000 : Int32) * (1000 : Int32)) o20 e20 _) (cwV 3 hts (TB_V w_555 w_557 w_17 w_33 w_558) rfl rfl rfl ⟨rfl, nd_X8_scriptLinks⟩ ⟨Nat.le_of_ble_eq_true rfl, Nat.le_of_ble_eq_true rfl⟩) (cPre.V hPc hDc hK hE hS hFc (va_recv hK hPc (ci := 7) (q0 := 0) rfl rfl)) rfl rfl hl.1 rfl (lv_room (Nat.le_of_ble_eq_true rfl)) dX8_succeeds_204 ⟨Nat.zero_le _, Nat.zero_le _⟩) hPq hDq hS hFc (fun r20 u20 H locs hw hP hD hS => ?_)
    obtain ⟨rfl, rfl⟩ := hw
    have hP : va_P D vwCl (cSP a_this ++ (cW dT (a_this 5) o20.2 ++ (cP dT (a_this 8) g_this_chosen ++ (cP dT (a_this 9) g_this_other)))) H := hP.perm (wj_back [cSP a_this, cW dT (a_this 5) o20.2] [cP dT (a_this 8) g_this_chosen, cP dT (a_this 9) g_this_other] [0, 1, 2, 3] rfl)
    have hD : va_D A (cSP a_this ++ (cW dT (a_this 5) o20.2 ++ (cP dT (a_this 8) g_this_chosen ++ (cP dT (a_this 9) g_this_other)))) := hD.perm (wj_back [cSP a_this, cW dT (a_this 5) o20.2] [cP dT (a_this 8) g_this_chosen, cP dT (a_this 9) g_this_other] [0, 1, 2, 3] rfl)
    obtain ⟨g21, h⟩ := chp h
    exact rt_z hx hb hr hlk hK hS ((o20.2, g_this_chosen, g_this_other) : TW × TP × TP) (ret2 h) g21 hP hD dX8_succeeds_207
  replace h := iteF c1_5 h
  by_cases c1_6 : (v1 / (100000 : Int32)) = (6 : Int32)
  · replace h := iteT c1_6 h
    refine lv_tableIn (off := (175)) (tgt := 208) hx hb dX8_succeeds_33 (by rw [c1_6]; decide) (by rw [c1_6]; decide) (by rw [c1_6]; rfl) (by decide) ?_
    refine lv_aload_n hx hb dX8_succeeds_208 rfl (lv_at hl 4 rfl) ?_
    refine gf_X8_37 (v := .ref ((a_this 5) 0)) hx hb hqs hown hK hP 0 rfl rfl dX8_succeeds_209 ?_
    refine lv_iload hx hb dX8_succeeds_212 (lv_at hl 0 rfl) ?_
    obtain ⟨o22, e22, h⟩ := obind h
    have hPq : va_P D vwCl ((cW dT (a_this 5) g_this_copy) ++ (cSP a_this ++ (cP dT (a_this 8) g_this_chosen ++ (cP dT (a_this 9) g_this_other)))) _ := hP.perm (wj_split [cSP a_this, cW dT (a_this 5) g_this_copy, cP dT (a_this 8) g_this_chosen, cP dT (a_this 9) g_this_other] [1] [0, 2, 3] rfl)
    have hDq : va_D A ((cW dT (a_this 5) g_this_copy) ++ (cSP a_this ++ (cP dT (a_this 8) g_this_chosen ++ (cP dT (a_this 9) g_this_other)))) := hD.perm (wj_split [cSP a_this, cW dT (a_this 5) g_this_copy, cP dT (a_this 8) g_this_chosen, cP dT (a_this 9) g_this_other] [1] [0, 2, 3] rfl)
    have hPc := hPq.left
    have hDc := hDq.left
    have hFc := va_freeL hDq hS hA
    refine cl_iL (wr := (cSP a_this ++ (cP dT (a_this 8) g_this_chosen ++ (cP dT (a_this 9) g_this_other)))) (va_runV (As := [.int (v1 - v1 / (1000 : Int32) * (1000 : Int32))]) (rest := []) ⟨hx, hb, hml, hown, hts⟩ (c_X7_hasTables l hlt D dT (a_this 5) g_this_copy (v1 - v1 / (1000 : Int32) * (1000 : Int32)) o22 e22 _) (cwV 1 hts (TB_V w_375 w_376 w_377 w_38 w_378) rfl rfl rfl ⟨rfl, nd_X7_hasTables⟩ ⟨Nat.le_of_ble_eq_true rfl, Nat.le_of_ble_eq_true rfl⟩) (cPre.V hPc hDc hK hE hS hFc (va_recv hK hPc (ci := 6) (q0 := 0) rfl rfl)) rfl rfl hl.1 rfl (lv_room (Nat.le_of_ble_eq_true rfl)) dX8_succeeds_214 ⟨Nat.zero_le _, Nat.zero_le _⟩) hPq hDq hS hFc (fun r22 u22 H locs hw hP hD hS => ?_)
    obtain ⟨rfl, rfl⟩ := hw
    have hP : va_P D vwCl (cSP a_this ++ (cW dT (a_this 5) g_this_copy ++ (cP dT (a_this 8) g_this_chosen ++ (cP dT (a_this 9) g_this_other)))) H := hP.perm (wj_back [cW dT (a_this 5) g_this_copy] [cSP a_this, cP dT (a_this 8) g_this_chosen, cP dT (a_this 9) g_this_other] [1, 0, 2, 3] rfl)
    have hD : va_D A (cSP a_this ++ (cW dT (a_this 5) g_this_copy ++ (cP dT (a_this 8) g_this_chosen ++ (cP dT (a_this 9) g_this_other)))) := hD.perm (wj_back [cW dT (a_this 5) g_this_copy] [cSP a_this, cP dT (a_this 8) g_this_chosen, cP dT (a_this 9) g_this_other] [1, 0, 2, 3] rfl)
    refine lv_if_eq (tgt := 236) hx hb dX8_succeeds_217 (by decide) (fun c23 => ?_) (fun c23 => ?_)
    · replace h := iteT c23 h
      refine lv_iconst (v := 0) hx hb dX8_succeeds_236 (by decide) ?_
      exact rt_z hx hb hr hlk hK hS ((g_this_copy, g_this_chosen, g_this_other) : TW × TP × TP) (ret2 h) (by decide) hP hD dX8_succeeds_237
    · replace h := iteF c23 h
      refine lv_aload_n hx hb dX8_succeeds_220 rfl (lv_at hl 4 rfl) ?_
      refine lv_iload_n hx hb dX8_succeeds_221 rfl (lv_at hl 2 rfl) ?_
      refine lv_iload hx hb dX8_succeeds_222 (lv_at hl 0 rfl) ?_
      refine lv_iload hx hb dX8_succeeds_224 (lv_at hl 1 rfl) ?_
      obtain ⟨o24, e24, h⟩ := obind h
      have hPq : va_P D vwCl ((cSP a_this ++ (cW dT (a_this 5) g_this_copy ++ (cP dT (a_this 8) g_this_chosen))) ++ (cP dT (a_this 9) g_this_other)) _ := hP.perm (wj_split [cSP a_this, cW dT (a_this 5) g_this_copy, cP dT (a_this 8) g_this_chosen, cP dT (a_this 9) g_this_other] [0, 1, 2] [3] rfl)
      have hDq : va_D A ((cSP a_this ++ (cW dT (a_this 5) g_this_copy ++ (cP dT (a_this 8) g_this_chosen))) ++ (cP dT (a_this 9) g_this_other)) := hD.perm (wj_split [cSP a_this, cW dT (a_this 5) g_this_copy, cP dT (a_this 8) g_this_chosen, cP dT (a_this 9) g_this_other] [0, 1, 2] [3] rfl)
      have hPc := hPq.left
      have hDc := hDq.left
      have hFc := va_freeL hDq hS hA
      refine cl_iL (wr := (cP dT (a_this 9) g_this_other)) (va_runV (As := [.int ((v1 / (10000 : Int32)) - (v1 / (10000 : Int32)) / (10 : Int32) * (10 : Int32)), .int (v1 - v1 / (1000 : Int32) * (1000 : Int32)), .int ((v1 / (1000 : Int32)) - (v1 / (1000 : Int32)) / (10 : Int32) * (10 : Int32))]) (rest := []) ⟨hx, hb, hml, hown, hts⟩ (c_X8_chosenTableIs l hlt D dT a_this g_this_copy g_this_chosen ((v1 / (10000 : Int32)) - (v1 / (10000 : Int32)) / (10 : Int32) * (10 : Int32)) (v1 - v1 / (1000 : Int32) * (1000 : Int32)) ((v1 / (1000 : Int32)) - (v1 / (1000 : Int32)) / (10 : Int32) * (10 : Int32)) o24 e24 _) (cwV 3 hts (TB_V w_567 w_569 w_19 w_33 w_570) rfl rfl rfl ⟨rfl, nd_X8_chosenTableIs⟩ ⟨Nat.le_of_ble_eq_true rfl, Nat.le_of_ble_eq_true rfl⟩) (cPre.V hPc hDc hK hE hS hFc (va_recv hK hPc (ci := 7) (q0 := 0) rfl rfl)) rfl rfl hl.1 rfl (lv_room (Nat.le_of_ble_eq_true rfl)) dX8_succeeds_226 ⟨Nat.zero_le _, Nat.zero_le _⟩) hPq hDq hS hFc (fun r24 u24 H locs hw hP hD hS => ?_)
      obtain ⟨rfl, rfl⟩ := hw
      have hP : va_P D vwCl (cSP a_this ++ (cW dT (a_this 5) g_this_copy ++ (cP dT (a_this 8) o24.2 ++ (cP dT (a_this 9) g_this_other)))) H := hP.perm (wj_back [cSP a_this, cW dT (a_this 5) g_this_copy, cP dT (a_this 8) o24.2] [cP dT (a_this 9) g_this_other] [0, 1, 2, 3] rfl)
      have hD : va_D A (cSP a_this ++ (cW dT (a_this 5) g_this_copy ++ (cP dT (a_this 8) o24.2 ++ (cP dT (a_this 9) g_this_other)))) := hD.perm (wj_back [cSP a_this, cW dT (a_this 5) g_this_copy, cP dT (a_this 8) o24.2] [cP dT (a_this 9) g_this_other] [0, 1, 2, 3] rfl)
      refine lv_if_eq (tgt := 236) hx hb dX8_succeeds_229 (by decide) (fun c25 => ?_) (fun c25 => ?_)
      · replace h := iteT c25 h
        refine lv_iconst (v := 0) hx hb dX8_succeeds_236 (by decide) ?_
        exact rt_z hx hb hr hlk hK hS ((g_this_copy, o24.2, g_this_other) : TW × TP × TP) (ret2 h) (by decide) hP hD dX8_succeeds_237
      · replace h := iteF c25 h
        refine lv_iconst (v := 1) hx hb dX8_succeeds_232 (by decide) ?_
        refine lv_goto (tgt := 237) hx hb dX8_succeeds_233 (by decide) ?_
        exact rt_z hx hb hr hlk hK hS ((g_this_copy, o24.2, g_this_other) : TW × TP × TP) (ret2 h) (by decide) hP hD dX8_succeeds_237
  replace h := iteF c1_6 h
  by_cases c1_7 : (v1 / (100000 : Int32)) = (7 : Int32)
  · replace h := iteT c1_7 h
    refine lv_tableIn (off := (205)) (tgt := 238) hx hb dX8_succeeds_33 (by rw [c1_7]; decide) (by rw [c1_7]; decide) (by rw [c1_7]; rfl) (by decide) ?_
    refine lv_iload hx hb dX8_succeeds_238 (lv_at hl 0 rfl) ?_
    refine lv_bipush (v := 100) hx hb dX8_succeeds_240 (by decide) ?_
    refine lv_icmp_ge (tgt := 280) hx hb dX8_succeeds_242 (by decide) (fun c26 => ?_) (fun c26 => ?_)
    · replace h := iteT c26 h
      refine lv_iconst (v := 0) hx hb dX8_succeeds_280 (by decide) ?_
      exact rt_z hx hb hr hlk hK hS ((g_this_copy, g_this_chosen, g_this_other) : TW × TP × TP) (ret2 h) (by decide) hP hD dX8_succeeds_281
    · replace h := iteF c26 h
      refine lv_aload_n hx hb dX8_succeeds_245 rfl (lv_at hl 4 rfl) ?_
      refine gf_X8_37 (v := .ref ((a_this 5) 0)) hx hb hqs hown hK hP 0 rfl rfl dX8_succeeds_246 ?_
      refine lv_iload_n hx hb dX8_succeeds_249 rfl (lv_at hl 2 rfl) ?_
      refine lv_iload hx hb dX8_succeeds_250 (lv_at hl 1 rfl) ?_
      obtain ⟨o27, e27, h⟩ := obind h
      have hPq : va_P D vwCl ((cW dT (a_this 5) g_this_copy) ++ (cSP a_this ++ (cP dT (a_this 8) g_this_chosen ++ (cP dT (a_this 9) g_this_other)))) _ := hP.perm (wj_split [cSP a_this, cW dT (a_this 5) g_this_copy, cP dT (a_this 8) g_this_chosen, cP dT (a_this 9) g_this_other] [1] [0, 2, 3] rfl)
      have hDq : va_D A ((cW dT (a_this 5) g_this_copy) ++ (cSP a_this ++ (cP dT (a_this 8) g_this_chosen ++ (cP dT (a_this 9) g_this_other)))) := hD.perm (wj_split [cSP a_this, cW dT (a_this 5) g_this_copy, cP dT (a_this 8) g_this_chosen, cP dT (a_this 9) g_this_other] [1] [0, 2, 3] rfl)
      have hPc := hPq.left
      have hDc := hDq.left
      have hFc := va_freeL hDq hS hA
      refine cl_iL (wr := (cSP a_this ++ (cP dT (a_this 8) g_this_chosen ++ (cP dT (a_this 9) g_this_other)))) (va_runV (As := [.int ((v1 / (10000 : Int32)) - (v1 / (10000 : Int32)) / (10 : Int32) * (10 : Int32)), .int ((v1 / (1000 : Int32)) - (v1 / (1000 : Int32)) / (10 : Int32) * (10 : Int32))]) (rest := []) ⟨hx, hb, hml, hown, hts⟩ (c_X7_hasTwoTables l hlt D dT (a_this 5) g_this_copy ((v1 / (10000 : Int32)) - (v1 / (10000 : Int32)) / (10 : Int32) * (10 : Int32)) ((v1 / (1000 : Int32)) - (v1 / (1000 : Int32)) / (10 : Int32) * (10 : Int32)) o27 e27 _) (cwV 2 hts (TB_V w_522 w_523 w_524 w_38 w_525) rfl rfl rfl ⟨rfl, nd_X7_hasTwoTables⟩ ⟨Nat.le_of_ble_eq_true rfl, Nat.le_of_ble_eq_true rfl⟩) (cPre.V hPc hDc hK hE hS hFc (va_recv hK hPc (ci := 6) (q0 := 0) rfl rfl)) rfl rfl hl.1 rfl (lv_room (Nat.le_of_ble_eq_true rfl)) dX8_succeeds_252 ⟨Nat.zero_le _, Nat.zero_le _⟩) hPq hDq hS hFc (fun r27 u27 H locs hw hP hD hS => ?_)
      obtain ⟨rfl, rfl⟩ := hw
      have hP : va_P D vwCl (cSP a_this ++ (cW dT (a_this 5) g_this_copy ++ (cP dT (a_this 8) g_this_chosen ++ (cP dT (a_this 9) g_this_other)))) H := hP.perm (wj_back [cW dT (a_this 5) g_this_copy] [cSP a_this, cP dT (a_this 8) g_this_chosen, cP dT (a_this 9) g_this_other] [1, 0, 2, 3] rfl)
      have hD : va_D A (cSP a_this ++ (cW dT (a_this 5) g_this_copy ++ (cP dT (a_this 8) g_this_chosen ++ (cP dT (a_this 9) g_this_other)))) := hD.perm (wj_back [cW dT (a_this 5) g_this_copy] [cSP a_this, cP dT (a_this 8) g_this_chosen, cP dT (a_this 9) g_this_other] [1, 0, 2, 3] rfl)
      refine lv_if_eq (tgt := 280) hx hb dX8_succeeds_255 (by decide) (fun c28 => ?_) (fun c28 => ?_)
      · replace h := iteT c28 h
        refine lv_iconst (v := 0) hx hb dX8_succeeds_280 (by decide) ?_
        exact rt_z hx hb hr hlk hK hS ((g_this_copy, g_this_chosen, g_this_other) : TW × TP × TP) (ret2 h) (by decide) hP hD dX8_succeeds_281
      · replace h := iteF c28 h
        refine lv_aload_n hx hb dX8_succeeds_258 rfl (lv_at hl 4 rfl) ?_
        refine gf_X8_37 (v := .ref ((a_this 5) 0)) hx hb hqs hown hK hP 0 rfl rfl dX8_succeeds_259 ?_
        refine lv_iload_n hx hb dX8_succeeds_262 rfl (lv_at hl 2 rfl) ?_
        refine lv_iload hx hb dX8_succeeds_263 (lv_at hl 1 rfl) ?_
        obtain ⟨o29, e29, h⟩ := obind h
        have hPq : va_P D vwCl (([] : va_W) ++ (cSP a_this ++ (cW dT (a_this 5) g_this_copy ++ (cP dT (a_this 8) g_this_chosen ++ (cP dT (a_this 9) g_this_other))))) _ := hP.perm (wj_split [cSP a_this, cW dT (a_this 5) g_this_copy, cP dT (a_this 8) g_this_chosen, cP dT (a_this 9) g_this_other] [] [0, 1, 2, 3] rfl)
        have hDq : va_D A (([] : va_W) ++ (cSP a_this ++ (cW dT (a_this 5) g_this_copy ++ (cP dT (a_this 8) g_this_chosen ++ (cP dT (a_this 9) g_this_other))))) := hD.perm (wj_split [cSP a_this, cW dT (a_this 5) g_this_copy, cP dT (a_this 8) g_this_chosen, cP dT (a_this 9) g_this_other] [] [0, 1, 2, 3] rfl)
        have hPc := hPq.left
        have hDc := hDq.left
        have hFc := va_freeL hDq hS hA
        refine cl_iL (wr := (cSP a_this ++ (cW dT (a_this 5) g_this_copy ++ (cP dT (a_this 8) g_this_chosen ++ (cP dT (a_this 9) g_this_other))))) (va_runS (As := [.int ((v1 / (10000 : Int32)) - (v1 / (10000 : Int32)) / (10 : Int32) * (10 : Int32)), .int ((v1 / (1000 : Int32)) - (v1 / (1000 : Int32)) / (10 : Int32) * (10 : Int32))]) (rest := [.ref ((a_this 5) 0)]) ⟨hx, hb, hml, hown, hts⟩ (c_X8_pairIndex l hlt D dT ((v1 / (10000 : Int32)) - (v1 / (10000 : Int32)) / (10 : Int32) * (10 : Int32)) ((v1 / (1000 : Int32)) - (v1 / (1000 : Int32)) / (10 : Int32) * (10 : Int32)) o29 e29 _) (va_cwS 2 hts (TB_S w_530 w_473 w_33 w_474) rfl rfl rfl nd_X8_pairIndex ⟨Nat.le_of_ble_eq_true rfl, Nat.le_of_ble_eq_true rfl⟩) (cPre.S hPc hDc hK hE hS hFc) rfl rfl hl.1 rfl (lv_room (Nat.le_of_ble_eq_true rfl)) dX8_succeeds_265 ⟨Nat.zero_le _, Nat.zero_le _⟩) hPq hDq hS hFc (fun r29 u29 H locs hw hP hD hS => ?_)
        obtain ⟨rfl, rfl⟩ := hw
        have hP : va_P D vwCl (cSP a_this ++ (cW dT (a_this 5) g_this_copy ++ (cP dT (a_this 8) g_this_chosen ++ (cP dT (a_this 9) g_this_other)))) H := hP.perm (wj_back [] [cSP a_this, cW dT (a_this 5) g_this_copy, cP dT (a_this 8) g_this_chosen, cP dT (a_this 9) g_this_other] [0, 1, 2, 3] rfl)
        have hD : va_D A (cSP a_this ++ (cW dT (a_this 5) g_this_copy ++ (cP dT (a_this 8) g_this_chosen ++ (cP dT (a_this 9) g_this_other)))) := hD.perm (wj_back [] [cSP a_this, cW dT (a_this 5) g_this_copy, cP dT (a_this 8) g_this_chosen, cP dT (a_this 9) g_this_other] [0, 1, 2, 3] rfl)
        refine lv_iload hx hb dX8_succeeds_268 (lv_at hl 0 rfl) ?_
        obtain ⟨o30, e30, h⟩ := obind h
        have hPq : va_P D vwCl ((cW dT (a_this 5) g_this_copy) ++ (cSP a_this ++ (cP dT (a_this 8) g_this_chosen ++ (cP dT (a_this 9) g_this_other)))) _ := hP.perm (wj_split [cSP a_this, cW dT (a_this 5) g_this_copy, cP dT (a_this 8) g_this_chosen, cP dT (a_this 9) g_this_other] [1] [0, 2, 3] rfl)
        have hDq : va_D A ((cW dT (a_this 5) g_this_copy) ++ (cSP a_this ++ (cP dT (a_this 8) g_this_chosen ++ (cP dT (a_this 9) g_this_other)))) := hD.perm (wj_split [cSP a_this, cW dT (a_this 5) g_this_copy, cP dT (a_this 8) g_this_chosen, cP dT (a_this 9) g_this_other] [1] [0, 2, 3] rfl)
        have hPc := hPq.left
        have hDc := hDq.left
        have hFc := va_freeL hDq hS hA
        refine cl_iL (wr := (cSP a_this ++ (cP dT (a_this 8) g_this_chosen ++ (cP dT (a_this 9) g_this_other)))) (va_runV (As := [.int o29.1, .int (v1 - v1 / (1000 : Int32) * (1000 : Int32))]) (rest := []) ⟨hx, hb, hml, hown, hts⟩ (c_X7_remembersSince l hlt D dT (a_this 5) g_this_copy o29.1 (v1 - v1 / (1000 : Int32) * (1000 : Int32)) o30 e30 _) (cwV 2 hts (TB_V w_572 w_573 w_574 w_38 w_575) rfl rfl rfl ⟨rfl, nd_X7_remembersSince⟩ ⟨Nat.le_of_ble_eq_true rfl, Nat.le_of_ble_eq_true rfl⟩) (cPre.V hPc hDc hK hE hS hFc (va_recv hK hPc (ci := 6) (q0 := 0) rfl rfl)) rfl rfl hl.1 rfl (lv_room (Nat.le_of_ble_eq_true rfl)) dX8_succeeds_270 ⟨Nat.zero_le _, Nat.zero_le _⟩) hPq hDq hS hFc (fun r30 u30 H locs hw hP hD hS => ?_)
        obtain ⟨rfl, rfl⟩ := hw
        have hP : va_P D vwCl (cSP a_this ++ (cW dT (a_this 5) g_this_copy ++ (cP dT (a_this 8) g_this_chosen ++ (cP dT (a_this 9) g_this_other)))) H := hP.perm (wj_back [cW dT (a_this 5) g_this_copy] [cSP a_this, cP dT (a_this 8) g_this_chosen, cP dT (a_this 9) g_this_other] [1, 0, 2, 3] rfl)
        have hD : va_D A (cSP a_this ++ (cW dT (a_this 5) g_this_copy ++ (cP dT (a_this 8) g_this_chosen ++ (cP dT (a_this 9) g_this_other)))) := hD.perm (wj_back [cW dT (a_this 5) g_this_copy] [cSP a_this, cP dT (a_this 8) g_this_chosen, cP dT (a_this 9) g_this_other] [1, 0, 2, 3] rfl)
        refine lv_if_eq (tgt := 280) hx hb dX8_succeeds_273 (by decide) (fun c31 => ?_) (fun c31 => ?_)
        · replace h := iteT c31 h
          refine lv_iconst (v := 0) hx hb dX8_succeeds_280 (by decide) ?_
          exact rt_z hx hb hr hlk hK hS ((g_this_copy, g_this_chosen, g_this_other) : TW × TP × TP) (ret2 h) (by decide) hP hD dX8_succeeds_281
        · replace h := iteF c31 h
          refine lv_iconst (v := 1) hx hb dX8_succeeds_276 (by decide) ?_
          refine lv_goto (tgt := 281) hx hb dX8_succeeds_277 (by decide) ?_
          exact rt_z hx hb hr hlk hK hS ((g_this_copy, g_this_chosen, g_this_other) : TW × TP × TP) (ret2 h) (by decide) hP hD dX8_succeeds_281
  replace h := iteF c1_7 h
  by_cases c1_8 : (v1 / (100000 : Int32)) = (8 : Int32)
  · replace h := iteT c1_8 h
    refine lv_tableIn (off := (249)) (tgt := 282) hx hb dX8_succeeds_33 (by rw [c1_8]; decide) (by rw [c1_8]; decide) (by rw [c1_8]; rfl) (by decide) ?_
    refine lv_iload_n hx hb dX8_succeeds_282 rfl (lv_at hl 2 rfl) ?_
    refine lv_if_ne (tgt := 314) hx hb dX8_succeeds_283 (by decide) (fun c32 => ?_) (fun c32 => ?_)
    · replace h := iteF c32 h
      refine lv_iconst (v := 0) hx hb dX8_succeeds_314 (by decide) ?_
      exact rt_z hx hb hr hlk hK hS ((g_this_copy, g_this_chosen, g_this_other) : TW × TP × TP) (ret2 h) (by decide) hP hD dX8_succeeds_315
    · replace h := iteT c32 h
      refine lv_iload hx hb dX8_succeeds_286 (lv_at hl 1 rfl) ?_
      refine lv_if_ne (tgt := 314) hx hb dX8_succeeds_288 (by decide) (fun c33 => ?_) (fun c33 => ?_)
      · replace h := iteF c33 h
        refine lv_iconst (v := 0) hx hb dX8_succeeds_314 (by decide) ?_
        exact rt_z hx hb hr hlk hK hS ((g_this_copy, g_this_chosen, g_this_other) : TW × TP × TP) (ret2 h) (by decide) hP hD dX8_succeeds_315
      · replace h := iteT c33 h
        refine lv_iload hx hb dX8_succeeds_291 (lv_at hl 0 rfl) ?_
        refine lv_bipush (v := 100) hx hb dX8_succeeds_293 (by decide) ?_
        refine lv_icmp_ge (tgt := 314) hx hb dX8_succeeds_295 (by decide) (fun c34 => ?_) (fun c34 => ?_)
        · replace h := iteT c34 h
          refine lv_iconst (v := 0) hx hb dX8_succeeds_314 (by decide) ?_
          exact rt_z hx hb hr hlk hK hS ((g_this_copy, g_this_chosen, g_this_other) : TW × TP × TP) (ret2 h) (by decide) hP hD dX8_succeeds_315
        · replace h := iteF c34 h
          refine lv_aload_n hx hb dX8_succeeds_298 rfl (lv_at hl 4 rfl) ?_
          refine gf_X8_37 (v := .ref ((a_this 5) 0)) hx hb hqs hown hK hP 0 rfl rfl dX8_succeeds_299 ?_
          refine gf_X8_278 (v := .int (W_surprises g_this_copy)) hx hb hqs hown hK hP 1 rfl rfl dX8_succeeds_302 ?_
          refine lv_iload hx hb dX8_succeeds_305 (lv_at hl 0 rfl) ?_
          refine lv_icmp_lt (tgt := 314) hx hb dX8_succeeds_307 (by decide) (fun c35 => ?_) (fun c35 => ?_)
          · replace h := iteT c35 h
            refine lv_iconst (v := 0) hx hb dX8_succeeds_314 (by decide) ?_
            exact rt_z hx hb hr hlk hK hS ((g_this_copy, g_this_chosen, g_this_other) : TW × TP × TP) (ret2 h) (by decide) hP hD dX8_succeeds_315
          · replace h := iteF c35 h
            refine lv_iconst (v := 1) hx hb dX8_succeeds_310 (by decide) ?_
            refine lv_goto (tgt := 315) hx hb dX8_succeeds_311 (by decide) ?_
            exact rt_z hx hb hr hlk hK hS ((g_this_copy, g_this_chosen, g_this_other) : TW × TP × TP) (ret2 h) (by decide) hP hD dX8_succeeds_315
  replace h := iteF c1_8 h
  by_cases c1_9 : (v1 / (100000 : Int32)) = (9 : Int32)
  · replace h := iteT c1_9 h
    refine lv_tableIn (off := (283)) (tgt := 316) hx hb dX8_succeeds_33 (by rw [c1_9]; decide) (by rw [c1_9]; decide) (by rw [c1_9]; rfl) (by decide) ?_
    refine lv_iload_n hx hb dX8_succeeds_316 rfl (lv_at hl 2 rfl) ?_
    refine lv_if_ne (tgt := 356) hx hb dX8_succeeds_317 (by decide) (fun c36 => ?_) (fun c36 => ?_)
    · replace h := iteF c36 h
      refine lv_iconst (v := 0) hx hb dX8_succeeds_356 (by decide) ?_
      exact rt_z hx hb hr hlk hK hS ((g_this_copy, g_this_chosen, g_this_other) : TW × TP × TP) (ret2 h) (by decide) hP hD dX8_succeeds_357
    · replace h := iteT c36 h
      refine lv_iload hx hb dX8_succeeds_320 (lv_at hl 1 rfl) ?_
      refine lv_if_ne (tgt := 356) hx hb dX8_succeeds_322 (by decide) (fun c37 => ?_) (fun c37 => ?_)
      · replace h := iteF c37 h
        refine lv_iconst (v := 0) hx hb dX8_succeeds_356 (by decide) ?_
        exact rt_z hx hb hr hlk hK hS ((g_this_copy, g_this_chosen, g_this_other) : TW × TP × TP) (ret2 h) (by decide) hP hD dX8_succeeds_357
      · replace h := iteT c37 h
        refine lv_aload_n hx hb dX8_succeeds_325 rfl (lv_at hl 4 rfl) ?_
        refine gf_X8_37 (v := .ref ((a_this 5) 0)) hx hb hqs hown hK hP 0 rfl rfl dX8_succeeds_326 ?_
        refine lv_iload hx hb dX8_succeeds_329 (lv_at hl 0 rfl) ?_
        obtain ⟨o38, e38, h⟩ := obind h
        have hPq : va_P D vwCl ((cW dT (a_this 5) g_this_copy) ++ (cSP a_this ++ (cP dT (a_this 8) g_this_chosen ++ (cP dT (a_this 9) g_this_other)))) _ := hP.perm (wj_split [cSP a_this, cW dT (a_this 5) g_this_copy, cP dT (a_this 8) g_this_chosen, cP dT (a_this 9) g_this_other] [1] [0, 2, 3] rfl)
        have hDq : va_D A ((cW dT (a_this 5) g_this_copy) ++ (cSP a_this ++ (cP dT (a_this 8) g_this_chosen ++ (cP dT (a_this 9) g_this_other)))) := hD.perm (wj_split [cSP a_this, cW dT (a_this 5) g_this_copy, cP dT (a_this 8) g_this_chosen, cP dT (a_this 9) g_this_other] [1] [0, 2, 3] rfl)
        have hPc := hPq.left
        have hDc := hDq.left
        have hFc := va_freeL hDq hS hA
        refine cl_iL (wr := (cSP a_this ++ (cP dT (a_this 8) g_this_chosen ++ (cP dT (a_this 9) g_this_other)))) (va_runV (As := [.int (v1 - v1 / (1000 : Int32) * (1000 : Int32))]) (rest := []) ⟨hx, hb, hml, hown, hts⟩ (c_X7_hasTables l hlt D dT (a_this 5) g_this_copy (v1 - v1 / (1000 : Int32) * (1000 : Int32)) o38 e38 _) (cwV 1 hts (TB_V w_375 w_376 w_377 w_38 w_378) rfl rfl rfl ⟨rfl, nd_X7_hasTables⟩ ⟨Nat.le_of_ble_eq_true rfl, Nat.le_of_ble_eq_true rfl⟩) (cPre.V hPc hDc hK hE hS hFc (va_recv hK hPc (ci := 6) (q0 := 0) rfl rfl)) rfl rfl hl.1 rfl (lv_room (Nat.le_of_ble_eq_true rfl)) dX8_succeeds_331 ⟨Nat.zero_le _, Nat.zero_le _⟩) hPq hDq hS hFc (fun r38 u38 H locs hw hP hD hS => ?_)
        obtain ⟨rfl, rfl⟩ := hw
        have hP : va_P D vwCl (cSP a_this ++ (cW dT (a_this 5) g_this_copy ++ (cP dT (a_this 8) g_this_chosen ++ (cP dT (a_this 9) g_this_other)))) H := hP.perm (wj_back [cW dT (a_this 5) g_this_copy] [cSP a_this, cP dT (a_this 8) g_this_chosen, cP dT (a_this 9) g_this_other] [1, 0, 2, 3] rfl)
        have hD : va_D A (cSP a_this ++ (cW dT (a_this 5) g_this_copy ++ (cP dT (a_this 8) g_this_chosen ++ (cP dT (a_this 9) g_this_other)))) := hD.perm (wj_back [cW dT (a_this 5) g_this_copy] [cSP a_this, cP dT (a_this 8) g_this_chosen, cP dT (a_this 9) g_this_other] [1, 0, 2, 3] rfl)
        refine lv_if_eq (tgt := 356) hx hb dX8_succeeds_334 (by decide) (fun c39 => ?_) (fun c39 => ?_)
        · replace h := iteT c39 h
          refine lv_iconst (v := 0) hx hb dX8_succeeds_356 (by decide) ?_
          exact rt_z hx hb hr hlk hK hS ((g_this_copy, g_this_chosen, g_this_other) : TW × TP × TP) (ret2 h) (by decide) hP hD dX8_succeeds_357
        · replace h := iteF c39 h
          refine lv_aload_n hx hb dX8_succeeds_337 rfl (lv_at hl 4 rfl) ?_
          refine lv_aload_n hx hb dX8_succeeds_338 rfl (lv_at hl 4 rfl) ?_
          refine gf_X8_37 (v := .ref ((a_this 5) 0)) hx hb hqs hown hK hP 0 rfl rfl dX8_succeeds_339 ?_
          refine lv_iload hx hb dX8_succeeds_342 (lv_at hl 0 rfl) ?_
          obtain ⟨o40, e40, h⟩ := obind h
          have hPq : va_P D vwCl ((cSP a_this ++ (cP dT (a_this 8) g_this_chosen ++ (cP dT (a_this 9) g_this_other ++ (cW dT (a_this 5) g_this_copy)))) ++ ([] : va_W)) _ := hP.perm (wj_split [cSP a_this, cW dT (a_this 5) g_this_copy, cP dT (a_this 8) g_this_chosen, cP dT (a_this 9) g_this_other] [0, 2, 3, 1] [] rfl)
          have hDq : va_D A ((cSP a_this ++ (cP dT (a_this 8) g_this_chosen ++ (cP dT (a_this 9) g_this_other ++ (cW dT (a_this 5) g_this_copy)))) ++ ([] : va_W)) := hD.perm (wj_split [cSP a_this, cW dT (a_this 5) g_this_copy, cP dT (a_this 8) g_this_chosen, cP dT (a_this 9) g_this_other] [0, 2, 3, 1] [] rfl)
          have hPc := hPq.left
          have hDc := hDq.left
          have hFc := va_freeL hDq hS hA
          refine cl_lL (wr := ([] : va_W)) (va_runV (As := [.ref ((a_this 5) 0), .int (v1 - v1 / (1000 : Int32) * (1000 : Int32))]) (rest := []) ⟨hx, hb, hml, hown, hts⟩ (c_X8_regretIn l hlt D dT a_this (a_this 5) g_this_chosen g_this_other g_this_copy (v1 - v1 / (1000 : Int32) * (1000 : Int32)) o40 e40 _) (cwV 2 hts (TB_V w_383 w_385 w_3 w_33 w_386) rfl rfl rfl ⟨rfl, nd_X8_regretIn⟩ ⟨Nat.le_of_ble_eq_true rfl, Nat.le_of_ble_eq_true rfl⟩) (cPre.V hPc hDc hK hE hS hFc (va_recv hK hPc (ci := 7) (q0 := 0) rfl rfl)) rfl rfl hl.1 rfl (lv_room (Nat.le_of_ble_eq_true rfl)) dX8_succeeds_344 ⟨Nat.zero_le _, Nat.zero_le _⟩) hPq hDq hS hFc (fun r40 u40 H locs hw hP hD hS => ?_)
          obtain ⟨rfl, rfl⟩ := hw
          have hP : va_P D vwCl (cSP a_this ++ (cW dT (a_this 5) g_this_copy ++ (cP dT (a_this 8) o40.2.1 ++ (cP dT (a_this 9) o40.2.2)))) H := hP.perm (wj_back [cSP a_this, cP dT (a_this 8) o40.2.1, cP dT (a_this 9) o40.2.2, cW dT (a_this 5) g_this_copy] [] [0, 3, 1, 2] rfl)
          have hD : va_D A (cSP a_this ++ (cW dT (a_this 5) g_this_copy ++ (cP dT (a_this 8) o40.2.1 ++ (cP dT (a_this 9) o40.2.2)))) := hD.perm (wj_back [cSP a_this, cP dT (a_this 8) o40.2.1, cP dT (a_this 9) o40.2.2, cW dT (a_this 5) g_this_copy] [] [0, 3, 1, 2] rfl)
          refine lv_lconst (v := 0) hx hb dX8_succeeds_347 (by decide) ?_
          refine W.lcmp hx hb dX8_succeeds_348 ?_
          refine lv_if_ne (tgt := 356) hx hb dX8_succeeds_349 (by decide) (fun c41 => ?_) (fun c41 => ?_)
          · replace h := iteF c41 h
            refine lv_iconst (v := 0) hx hb dX8_succeeds_356 (by decide) ?_
            exact rt_z hx hb hr hlk hK hS ((g_this_copy, o40.2.1, o40.2.2) : TW × TP × TP) (ret2 h) (by decide) hP hD dX8_succeeds_357
          · replace h := iteT c41 h
            refine lv_iconst (v := 1) hx hb dX8_succeeds_352 (by decide) ?_
            refine lv_goto (tgt := 357) hx hb dX8_succeeds_353 (by decide) ?_
            exact rt_z hx hb hr hlk hK hS ((g_this_copy, o40.2.1, o40.2.2) : TW × TP × TP) (ret2 h) (by decide) hP hD dX8_succeeds_357
  replace h := iteF c1_9 h
  have e1_1 : ¬ Int32.toInt (v1 / (100000 : Int32)) = (1 : Int) := fun q => c1_1 (Int32.toInt_inj.mp (q.trans (by decide)))
  have e1_2 : ¬ Int32.toInt (v1 / (100000 : Int32)) = (2 : Int) := fun q => c1_2 (Int32.toInt_inj.mp (q.trans (by decide)))
  have e1_3 : ¬ Int32.toInt (v1 / (100000 : Int32)) = (3 : Int) := fun q => c1_3 (Int32.toInt_inj.mp (q.trans (by decide)))
  have e1_4 : ¬ Int32.toInt (v1 / (100000 : Int32)) = (4 : Int) := fun q => c1_4 (Int32.toInt_inj.mp (q.trans (by decide)))
  have e1_5 : ¬ Int32.toInt (v1 / (100000 : Int32)) = (5 : Int) := fun q => c1_5 (Int32.toInt_inj.mp (q.trans (by decide)))
  have e1_6 : ¬ Int32.toInt (v1 / (100000 : Int32)) = (6 : Int) := fun q => c1_6 (Int32.toInt_inj.mp (q.trans (by decide)))
  have e1_7 : ¬ Int32.toInt (v1 / (100000 : Int32)) = (7 : Int) := fun q => c1_7 (Int32.toInt_inj.mp (q.trans (by decide)))
  have e1_8 : ¬ Int32.toInt (v1 / (100000 : Int32)) = (8 : Int) := fun q => c1_8 (Int32.toInt_inj.mp (q.trans (by decide)))
  have e1_9 : ¬ Int32.toInt (v1 / (100000 : Int32)) = (9 : Int) := fun q => c1_9 (Int32.toInt_inj.mp (q.trans (by decide)))
  refine lv_tableOut (tgt := 358) hx hb dX8_succeeds_33 (by omega) (by decide) ?_
  refine lv_iconst (v := 0) hx hb dX8_succeeds_358 (by decide) ?_
  exact rt_z hx hb hr hlk hK hS ((g_this_copy, g_this_chosen, g_this_other) : TW × TP × TP) (ret2 h) (by decide) hP hD dX8_succeeds_359

def f_X8_runScript_L12 (g_this_world : TW) (g_this_copy : TW) (g_this_chosen : TP) (g_this_other : TP) (x1 : Int32) (x2 : Int64) (k32 : Int64 → Option ((Nat ⊕ Int32) × (TW × TP × TP))) : Nat → Int64 → Int32 → Option ((Nat ⊕ Int32) × (TW × TP × TP))
  | 0, _, _ => none
  | n + 1, x4, x6 =>
    (if x1 ≤ x6 then (k32 x4) else (f_X8_runScript_L12 g_this_world g_this_copy g_this_chosen g_this_other x1 x2 k32 n (x4 * (1000000 : Int64)) (x6 + (1 : Int32))))
def f_X8_runScript_J45 (g_this_world : TW)  (g_this_copy : TW) (g_this_chosen : TP) (g_this_other : TP) : Option ((Nat ⊕ Int32) × (TW × TP × TP)) :=
    (some (Sum.inl 0, (g_this_copy, g_this_chosen, g_this_other)))
def f_X8_runScript_L70 (g_this_world : TW) (x1 : Int32) (x2 : Int64)  : Nat → Int64 → Int32 → TW → TP → TP → Option ((Nat ⊕ Int32) × (TW × TP × TP))
  | 0, _, _, _, _, _ => none
  | n + 1, x4, x6, g_this_copy, g_this_chosen, g_this_other =>
    (if x1 ≤ x6 then (some ((Sum.inr (-1 : Int32)), (g_this_copy, g_this_chosen, g_this_other))) else (if (lg_cmp (x4 / (1000000 : Int64)) (1 : Int64)) < (0 : Int32) then (some ((Sum.inr x6), (g_this_copy, g_this_chosen, g_this_other))) else (if (x4 / (1000000 : Int64)) = 0 then none else ((f_X8_succeeds g_this_copy g_this_chosen g_this_other (Int64.toInt32 ((x2 / (x4 / (1000000 : Int64))) - (x2 / (x4 / (1000000 : Int64))) / (1000000 : Int64) * (1000000 : Int64)))).bind fun o10 => (if o10.1 = (0 : Int32) then (some ((Sum.inr x6), (o10.2.1, o10.2.2.1, o10.2.2.2))) else (f_X8_runScript_L70 g_this_world x1 x2 n (x4 / (1000000 : Int64)) (x6 + (1 : Int32)) o10.2.1 o10.2.2.1 o10.2.2.2))))))
def f_X8_runScript (g_this_world : TW) (g_this_copy : TW) (g_this_chosen : TP) (g_this_other : TP) (v1 : Int32) (v2 : Int64) : Option ((Nat ⊕ Int32) × (TW × TP × TP)) :=
  ((f_X8_needRange v1 (1 : Int32) (3 : Int32)).bind fun o1 => (fun u1 => o1.1.elim (fun k1 => (some (Sum.inl k1, (g_this_copy, g_this_chosen, g_this_other)))) (fun _ => (f_X8_runScript_L12 g_this_world g_this_copy g_this_chosen g_this_other v1 v2 (fun (y3x4 : Int64) => (if (lg_cmp v2 (0 : Int64)) < (0 : Int32) then (f_X8_runScript_J45 g_this_world g_this_copy g_this_chosen g_this_other) else (if (lg_cmp v2 y3x4) < (0 : Int32) then ((f_X7_takeFrom g_this_copy g_this_world).bind fun o6 => (f_X8_runScript_L70 g_this_world v1 v2 FUEL y3x4 (0 : Int32) o6.2 g_this_chosen g_this_other)) else (f_X8_runScript_J45 g_this_world g_this_copy g_this_chosen g_this_other)))) FUEL (1 : Int64) (0 : Int32)))) o1.2)
set_option maxHeartbeats 8000000 in
set_option maxRecDepth 100000 in
theorem c_X8_runScript (l : Launch) (hlt : l.stackTraces = false) (D : va_G) (dT : Nat → ClassId) (a_this : Nat → Nat → Nat) (g_this_world : TW) (g_this_copy : TW) (g_this_chosen : TP) (g_this_other : TP) (v1 : Int32) (v2 : Int64) (o : ((Nat ⊕ Int32) × (TW × TP × TP))) (h : f_X8_runScript g_this_world g_this_copy g_this_chosen g_this_other v1 v2 = some o) (sz : Nat) : vx_Met l yX8_runScript (WSm yX8_runScript cX8_runScript 7 (some .int)) { frames := 7, cells := 2, slots := 12, locals := 172 } (va_Pc [.ref (a_this 0 0), .int v1, .long v2] (cPre D dT (cSP a_this ++ (cW dT (a_this 4) g_this_world ++ (cW dT (a_this 5) g_this_copy ++ (cP dT (a_this 8) g_this_chosen ++ (cP dT (a_this 9) g_this_other))))) sz)) (va_Qi (fun (r : Int32) (u : TW × TP × TP) => o = (Sum.inr r, u)) (fun u t => cAt D dT (va_A (cSP a_this ++ (cW dT (a_this 4) g_this_world ++ (cW dT (a_this 5) g_this_copy ++ (cP dT (a_this 8) g_this_chosen ++ (cP dT (a_this 9) g_this_other))))) sz) (cSP a_this ++ (cW dT (a_this 4) g_this_world ++ (cW dT (a_this 5) (u.1) ++ (cP dT (a_this 8) (u.2.1) ++ (cP dT (a_this 9) (u.2.2)))))) t) (va_A (cSP a_this ++ (cW dT (a_this 4) g_this_world ++ (cW dT (a_this 5) g_this_copy ++ (cP dT (a_this 8) g_this_chosen ++ (cP dT (a_this 9) g_this_other))))) sz)) (xEnd D dT (xoP o) (fun u => (cSP a_this ++ (cW dT (a_this 4) g_this_world ++ (cW dT (a_this 5) (u.1) ++ (cP dT (a_this 8) (u.2.1) ++ (cP dT (a_this 9) (u.2.2))))))) (va_A (cSP a_this ++ (cW dT (a_this 4) g_this_world ++ (cW dT (a_this 5) g_this_copy ++ (cP dT (a_this 8) g_this_chosen ++ (cP dT (a_this 9) g_this_other))))) sz)) 2 12 (va_A (cSP a_this ++ (cW dT (a_this 4) g_this_world ++ (cW dT (a_this 5) g_this_copy ++ (cP dT (a_this 8) g_this_chosen ++ (cP dT (a_this 9) g_this_other))))) sz) := by
  refine mStartX (WS := (cSP a_this ++ (cW dT (a_this 4) g_this_world ++ (cW dT (a_this 5) g_this_copy ++ (cP dT (a_this 8) g_this_chosen ++ (cP dT (a_this 9) g_this_other)))))) (Qc := fun A => va_Qi (fun (r : Int32) (u : TW × TP × TP) => o = (Sum.inr r, u)) (fun u t => cAt D dT A (cSP a_this ++ (cW dT (a_this 4) g_this_world ++ (cW dT (a_this 5) (u.1) ++ (cP dT (a_this 8) (u.2.1) ++ (cP dT (a_this 9) (u.2.2)))))) t) A) (XC := fun A => xEnd D dT (xoP o) (fun u => (cSP a_this ++ (cW dT (a_this 4) g_this_world ++ (cW dT (a_this 5) (u.1) ++ (cP dT (a_this 8) (u.2.1) ++ (cP dT (a_this 9) (u.2.2))))))) A) RX8 rfl (by decide) (Nat.le_of_ble_eq_true rfl) ?_ sz
  intro p e s m below meth c A ls hx hb hml hr hlk hnt hts hqs hown hE hA hK hP hD hS hl
  have hl : lv_has ls 7 [(0, .ref (a_this 0 0)), (1, .int v1), (2, .long v2)] := hl
  have L_f_X8_runScript_L12 : ∀ (g_this_world : TW) (g_this_copy : TW) (g_this_chosen : TP) (g_this_other : TP) (x1 : Int32) (x2 : Int64) (k32 : Int64 → Option ((Nat ⊕ Int32) × (TW × TP × TP))) (hk32 : ∀ (x4 : Int64) (H : Heap) (locs : List Loc) (ls : Array Slot), k32 x4 = some o → va_P D vwCl (cSP a_this ++ (cW dT (a_this 4) g_this_world ++ (cW dT (a_this 5) g_this_copy ++ (cP dT (a_this 8) g_this_chosen ++ (cP dT (a_this 9) g_this_other))))) H → va_D A (cSP a_this ++ (cW dT (a_this 4) g_this_world ++ (cW dT (a_this 5) g_this_copy ++ (cP dT (a_this 8) g_this_chosen ++ (cP dT (a_this 9) g_this_other))))) → va_S A s.heap H locs → lv_has ls 7 [(0, .ref (a_this 0 0)), (1, .int x1), (2, .long x2), (4, .long x4)] → W p l e (headSpec (WSm yX8_runScript cX8_runScript 7 (some .int)) { frames := 7, cells := 2, slots := 12, locals := 172 }).room s m [.ref (a_this 0 0), .int v1, .long v2].toArray below meth c H locs 1 6 (vx_MQ below (va_Qi (fun (r : Int32) (u : TW × TP × TP) => o = (Sum.inr r, u)) (fun u t => cAt D dT A (cSP a_this ++ (cW dT (a_this 4) g_this_world ++ (cW dT (a_this 5) (u.1) ++ (cP dT (a_this 8) (u.2.1) ++ (cP dT (a_this 9) (u.2.2)))))) t) A) (xEnd D dT (xoP o) (fun u => (cSP a_this ++ (cW dT (a_this 4) g_this_world ++ (cW dT (a_this 5) (u.1) ++ (cP dT (a_this 8) (u.2.1) ++ (cP dT (a_this 9) (u.2.2))))))) A) [.ref (a_this 0 0), .int v1, .long v2].toArray s 2 12 A) (F0 m 32 ls [])) (n : Nat), ∀ (x4 : Int64) (x6 : Int32) (H : Heap) (locs : List Loc) (ls : Array Slot), f_X8_runScript_L12 g_this_world g_this_copy g_this_chosen g_this_other x1 x2 k32 n x4 x6 = some o → va_P D vwCl (cSP a_this ++ (cW dT (a_this 4) g_this_world ++ (cW dT (a_this 5) g_this_copy ++ (cP dT (a_this 8) g_this_chosen ++ (cP dT (a_this 9) g_this_other))))) H → va_D A (cSP a_this ++ (cW dT (a_this 4) g_this_world ++ (cW dT (a_this 5) g_this_copy ++ (cP dT (a_this 8) g_this_chosen ++ (cP dT (a_this 9) g_this_other))))) → va_S A s.heap H locs → lv_has ls 7 [(0, .ref (a_this 0 0)), (1, .int x1), (2, .long x2), (4, .long x4), (6, .int x6)] → W p l e (headSpec (WSm yX8_runScript cX8_runScript 7 (some .int)) { frames := 7, cells := 2, slots := 12, locals := 172 }).room s m [.ref (a_this 0 0), .int v1, .long v2].toArray below meth c H locs 1 6 (vx_MQ below (va_Qi (fun (r : Int32) (u : TW × TP × TP) => o = (Sum.inr r, u)) (fun u t => cAt D dT A (cSP a_this ++ (cW dT (a_this 4) g_this_world ++ (cW dT (a_this 5) (u.1) ++ (cP dT (a_this 8) (u.2.1) ++ (cP dT (a_this 9) (u.2.2)))))) t) A) (xEnd D dT (xoP o) (fun u => (cSP a_this ++ (cW dT (a_this 4) g_this_world ++ (cW dT (a_this 5) (u.1) ++ (cP dT (a_this 8) (u.2.1) ++ (cP dT (a_this 9) (u.2.2))))))) A) [.ref (a_this 0 0), .int v1, .long v2].toArray s 2 12 A) (F0 m 12 ls []) := by
    intro g_this_world g_this_copy g_this_chosen g_this_other x1 x2 k32 hk32 n
    induction n with
    | zero => intro x4 x6 H locs ls h; exact nomatch h
    | succ n ih =>
      intro x4 x6 H locs ls h hP hD hS hl
      unfold f_X8_runScript_L12 at h
      refine lv_iload hx hb dX8_runScript_12 (lv_at hl 4 rfl) ?_
      refine lv_iload_n hx hb dX8_runScript_14 rfl (lv_at hl 1 rfl) ?_
      refine lv_icmp_ge (tgt := 32) hx hb dX8_runScript_15 (by decide) (fun c2 => ?_) (fun c2 => ?_)
      · replace h := iteT c2 h
        exact hk32 x4 _ _ _ h hP hD hS (lv_sub hl [0, 1, 2, 3] rfl)
      · replace h := iteF c2 h
        refine lv_lload hx hb dX8_runScript_18 (lv_at hl 3 rfl) ?_
        refine lv_ldc2 (v := 1000000) hx hb hown (hqs _ w_361) dX8_runScript_20 ?_
        refine lv_lmul hx hb dX8_runScript_23 ?_
        refine lv_lstore (lv' := [(4, .long (x4 * (1000000 : Int64))), (0, .ref (a_this 0 0)), (1, .int x1), (2, .long x2), (6, .int x6)]) hx hb dX8_runScript_24 hl (by decide) rfl (fun ls hl => ?_)
        refine lv_iinc (v := (x6 + (1 : Int32))) (lv' := [(6, .int (x6 + (1 : Int32))), (4, .long (x4 * (1000000 : Int64))), (0, .ref (a_this 0 0)), (1, .int x1), (2, .long x2)]) hx hb dX8_runScript_26 hl (k := 4) rfl rfl (by decide) rfl (fun ls hl => ?_)
        refine lv_goto (tgt := 12) hx hb dX8_runScript_29 (by decide) ?_
        exact ih (x4 * (1000000 : Int64)) (x6 + (1 : Int32)) _ _ _ h hP hD hS (lv_sub hl [2, 3, 4, 1, 0] rfl)
  have L_f_X8_runScript_J45 : ∀ (g_this_world : TW) (g_this_copy : TW) (g_this_chosen : TP) (g_this_other : TP)   (H : Heap) (locs : List Loc) (ls : Array Slot), f_X8_runScript_J45 g_this_world  g_this_copy g_this_chosen g_this_other = some o → va_P D vwCl (cSP a_this ++ (cW dT (a_this 4) g_this_world ++ (cW dT (a_this 5) g_this_copy ++ (cP dT (a_this 8) g_this_chosen ++ (cP dT (a_this 9) g_this_other))))) H → va_D A (cSP a_this ++ (cW dT (a_this 4) g_this_world ++ (cW dT (a_this 5) g_this_copy ++ (cP dT (a_this 8) g_this_chosen ++ (cP dT (a_this 9) g_this_other))))) → va_S A s.heap H locs → lv_has ls 7 [] → W p l e (headSpec (WSm yX8_runScript cX8_runScript 7 (some .int)) { frames := 7, cells := 2, slots := 12, locals := 172 }).room s m [.ref (a_this 0 0), .int v1, .long v2].toArray below meth c H locs 1 6 (vx_MQ below (va_Qi (fun (r : Int32) (u : TW × TP × TP) => o = (Sum.inr r, u)) (fun u t => cAt D dT A (cSP a_this ++ (cW dT (a_this 4) g_this_world ++ (cW dT (a_this 5) (u.1) ++ (cP dT (a_this 8) (u.2.1) ++ (cP dT (a_this 9) (u.2.2)))))) t) A) (xEnd D dT (xoP o) (fun u => (cSP a_this ++ (cW dT (a_this 4) g_this_world ++ (cW dT (a_this 5) (u.1) ++ (cP dT (a_this 8) (u.2.1) ++ (cP dT (a_this 9) (u.2.2))))))) A) [.ref (a_this 0 0), .int v1, .long v2].toArray s 2 12 A) (F0 m 45 ls []) := by
    intro g_this_world g_this_copy g_this_chosen g_this_other   H locs ls h hP hD hS hl
    unfold f_X8_runScript_J45 at h
    exact th_W (k := 0) exOkI rfl (List.mem_of_getElem? (i := 13) rfl) hlt hx hb (hl.1.trans hml.symm) hlk hnt hqs hown hE hK hS ((g_this_copy, g_this_chosen, g_this_other) : TW × TP × TP) (xoP_of h) hP hD rfl rfl rfl rfl rfl rfl dX8_runScript_45 dX8_runScript_48 dX8_runScript_49 dX8_runScript_52 dX8_runScript_55
  have L_f_X8_runScript_L70 : ∀ (g_this_world : TW) (x1 : Int32) (x2 : Int64)   (n : Nat), ∀ (x4 : Int64) (x6 : Int32) (g_this_copy : TW) (g_this_chosen : TP) (g_this_other : TP) (H : Heap) (locs : List Loc) (ls : Array Slot), f_X8_runScript_L70 g_this_world x1 x2  n x4 x6 g_this_copy g_this_chosen g_this_other = some o → va_P D vwCl (cSP a_this ++ (cW dT (a_this 4) g_this_world ++ (cW dT (a_this 5) g_this_copy ++ (cP dT (a_this 8) g_this_chosen ++ (cP dT (a_this 9) g_this_other))))) H → va_D A (cSP a_this ++ (cW dT (a_this 4) g_this_world ++ (cW dT (a_this 5) g_this_copy ++ (cP dT (a_this 8) g_this_chosen ++ (cP dT (a_this 9) g_this_other))))) → va_S A s.heap H locs → lv_has ls 7 [(0, .ref (a_this 0 0)), (1, .int x1), (2, .long x2), (4, .long x4), (6, .int x6)] → W p l e (headSpec (WSm yX8_runScript cX8_runScript 7 (some .int)) { frames := 7, cells := 2, slots := 12, locals := 172 }).room s m [.ref (a_this 0 0), .int v1, .long v2].toArray below meth c H locs 1 6 (vx_MQ below (va_Qi (fun (r : Int32) (u : TW × TP × TP) => o = (Sum.inr r, u)) (fun u t => cAt D dT A (cSP a_this ++ (cW dT (a_this 4) g_this_world ++ (cW dT (a_this 5) (u.1) ++ (cP dT (a_this 8) (u.2.1) ++ (cP dT (a_this 9) (u.2.2)))))) t) A) (xEnd D dT (xoP o) (fun u => (cSP a_this ++ (cW dT (a_this 4) g_this_world ++ (cW dT (a_this 5) (u.1) ++ (cP dT (a_this 8) (u.2.1) ++ (cP dT (a_this 9) (u.2.2))))))) A) [.ref (a_this 0 0), .int v1, .long v2].toArray s 2 12 A) (F0 m 70 ls []) := by
    intro g_this_world x1 x2   n
    induction n with
    | zero => intro x4 x6 g_this_copy g_this_chosen g_this_other H locs ls h; exact nomatch h
    | succ n ih =>
      intro x4 x6 g_this_copy g_this_chosen g_this_other H locs ls h hP hD hS hl
      unfold f_X8_runScript_L70 at h
      refine lv_iload hx hb dX8_runScript_70 (lv_at hl 4 rfl) ?_
      refine lv_iload_n hx hb dX8_runScript_72 rfl (lv_at hl 1 rfl) ?_
      refine lv_icmp_ge (tgt := 116) hx hb dX8_runScript_73 (by decide) (fun c7 => ?_) (fun c7 => ?_)
      · replace h := iteT c7 h
        refine lv_iconst (v := -1) hx hb dX8_runScript_116 (by decide) ?_
        refine W.widen (k := 2) (n := 12) (Nat.le_of_ble_eq_true rfl) (Nat.le_of_ble_eq_true rfl) ?_
        exact vx_ret (rt_i hx hb hr hlk hK hS ((g_this_copy, g_this_chosen, g_this_other) : TW × TP × TP) (Option.some.inj h).symm hP hD dX8_runScript_117)
      · replace h := iteF c7 h
        refine lv_lload hx hb dX8_runScript_76 (lv_at hl 3 rfl) ?_
        refine lv_ldc2 (v := 1000000) hx hb hown (hqs _ w_361) dX8_runScript_78 ?_
        refine lv_ldiv hx hb dX8_runScript_81 (by decide) ?_
        refine lv_lstore (lv' := [(4, .long (x4 / (1000000 : Int64))), (0, .ref (a_this 0 0)), (1, .int x1), (2, .long x2), (6, .int x6)]) hx hb dX8_runScript_82 hl (by decide) rfl (fun ls hl => ?_)
        refine lv_lload hx hb dX8_runScript_84 (lv_at hl 0 rfl) ?_
        refine lv_lconst (v := 1) hx hb dX8_runScript_86 (by decide) ?_
        refine W.lcmp hx hb dX8_runScript_87 ?_
        refine lv_if_lt (tgt := 107) hx hb dX8_runScript_88 (by decide) (fun c8 => ?_) (fun c8 => ?_)
        · replace h := iteT c8 h
          refine lv_iload hx hb dX8_runScript_107 (lv_at hl 4 rfl) ?_
          refine W.widen (k := 2) (n := 12) (Nat.le_of_ble_eq_true rfl) (Nat.le_of_ble_eq_true rfl) ?_
          exact vx_ret (rt_i hx hb hr hlk hK hS ((g_this_copy, g_this_chosen, g_this_other) : TW × TP × TP) (Option.some.inj h).symm hP hD dX8_runScript_109)
        · replace h := iteF c8 h
          refine lv_aload_n hx hb dX8_runScript_91 rfl (lv_at hl 1 rfl) ?_
          refine lv_lload_n hx hb dX8_runScript_92 rfl (lv_at hl 3 rfl) ?_
          refine lv_lload hx hb dX8_runScript_93 (lv_at hl 0 rfl) ?_
          obtain ⟨g9, h⟩ := chn h
          refine lv_ldiv hx hb dX8_runScript_95 g9 ?_
          refine lv_ldc2 (v := 1000000) hx hb hown (hqs _ w_361) dX8_runScript_96 ?_
          refine lv_lrem hx hb dX8_runScript_99 (by decide) ?_
          refine lv_l2i hx hb dX8_runScript_100 rfl ?_
          obtain ⟨o10, e10, h⟩ := obind h
          have hPq : va_P D vwCl ((cSP a_this ++ (cW dT (a_this 5) g_this_copy ++ (cP dT (a_this 8) g_this_chosen ++ (cP dT (a_this 9) g_this_other)))) ++ (cW dT (a_this 4) g_this_world)) _ := hP.perm (wj_split [cSP a_this, cW dT (a_this 4) g_this_world, cW dT (a_this 5) g_this_copy, cP dT (a_this 8) g_this_chosen, cP dT (a_this 9) g_this_other] [0, 2, 3, 4] [1] rfl)
          have hDq : va_D A ((cSP a_this ++ (cW dT (a_this 5) g_this_copy ++ (cP dT (a_this 8) g_this_chosen ++ (cP dT (a_this 9) g_this_other)))) ++ (cW dT (a_this 4) g_this_world)) := hD.perm (wj_split [cSP a_this, cW dT (a_this 4) g_this_world, cW dT (a_this 5) g_this_copy, cP dT (a_this 8) g_this_chosen, cP dT (a_this 9) g_this_other] [0, 2, 3, 4] [1] rfl)
          have hPc := hPq.left
          have hDc := hDq.left
          have hFc := va_freeL hDq hS hA
          refine cl_iL (wr := (cW dT (a_this 4) g_this_world)) (va_runV (As := [.int (Int64.toInt32 ((x2 / (x4 / (1000000 : Int64))) - (x2 / (x4 / (1000000 : Int64))) / (1000000 : Int64) * (1000000 : Int64)))]) (rest := []) ⟨hx, hb, hml, hown, hts⟩ (c_X8_succeeds l hlt D dT a_this g_this_copy g_this_chosen g_this_other (Int64.toInt32 ((x2 / (x4 / (1000000 : Int64))) - (x2 / (x4 / (1000000 : Int64))) / (1000000 : Int64) * (1000000 : Int64))) o10 e10 _) (cwV 1 hts (TB_V w_370 w_372 w_1 w_33 w_373) rfl rfl rfl ⟨rfl, nd_X8_succeeds⟩ ⟨Nat.le_of_ble_eq_true rfl, Nat.le_of_ble_eq_true rfl⟩) (cPre.V hPc hDc hK hE hS hFc (va_recv hK hPc (ci := 7) (q0 := 0) rfl rfl)) rfl rfl hl.1 rfl (lv_room (Nat.le_of_ble_eq_true rfl)) dX8_runScript_101 ⟨Nat.le_of_ble_eq_true rfl, Nat.le_of_ble_eq_true rfl⟩) hPq hDq hS hFc (fun r10 u10 H locs hw hP hD hS => ?_)
          obtain ⟨rfl, rfl⟩ := hw
          have hP : va_P D vwCl (cSP a_this ++ (cW dT (a_this 4) g_this_world ++ (cW dT (a_this 5) o10.2.1 ++ (cP dT (a_this 8) o10.2.2.1 ++ (cP dT (a_this 9) o10.2.2.2))))) H := hP.perm (wj_back [cSP a_this, cW dT (a_this 5) o10.2.1, cP dT (a_this 8) o10.2.2.1, cP dT (a_this 9) o10.2.2.2] [cW dT (a_this 4) g_this_world] [0, 4, 1, 2, 3] rfl)
          have hD : va_D A (cSP a_this ++ (cW dT (a_this 4) g_this_world ++ (cW dT (a_this 5) o10.2.1 ++ (cP dT (a_this 8) o10.2.2.1 ++ (cP dT (a_this 9) o10.2.2.2))))) := hD.perm (wj_back [cSP a_this, cW dT (a_this 5) o10.2.1, cP dT (a_this 8) o10.2.2.1, cP dT (a_this 9) o10.2.2.2] [cW dT (a_this 4) g_this_world] [0, 4, 1, 2, 3] rfl)
          refine lv_if_ne (tgt := 110) hx hb dX8_runScript_104 (by decide) (fun c11 => ?_) (fun c11 => ?_)
          · replace h := iteF c11 h
            refine lv_iinc (v := (x6 + (1 : Int32))) (lv' := [(6, .int (x6 + (1 : Int32))), (4, .long (x4 / (1000000 : Int64))), (0, .ref (a_this 0 0)), (1, .int x1), (2, .long x2)]) hx hb dX8_runScript_110 hl (k := 4) rfl rfl (by decide) rfl (fun ls hl => ?_)
            refine lv_goto (tgt := 70) hx hb dX8_runScript_113 (by decide) ?_
            exact ih (x4 / (1000000 : Int64)) (x6 + (1 : Int32)) o10.2.1 o10.2.2.1 o10.2.2.2 _ _ _ h hP hD hS (lv_sub hl [2, 3, 4, 1, 0] rfl)
          · replace h := iteT c11 h
            refine lv_iload hx hb dX8_runScript_107 (lv_at hl 4 rfl) ?_
            refine W.widen (k := 2) (n := 12) (Nat.le_of_ble_eq_true rfl) (Nat.le_of_ble_eq_true rfl) ?_
            exact vx_ret (rt_i hx hb hr hlk hK hS ((o10.2.1, o10.2.2.1, o10.2.2.2) : TW × TP × TP) (Option.some.inj h).symm hP hD dX8_runScript_109)
  unfold f_X8_runScript at h
  refine lv_iload_n hx hb dX8_runScript_0 rfl (lv_at hl 1 rfl) ?_
  refine lv_iconst (v := 1) hx hb dX8_runScript_1 (by decide) ?_
  refine lv_iconst (v := 3) hx hb dX8_runScript_2 (by decide) ?_
  obtain ⟨o1, e1, h⟩ := obind h
  have hPq : va_P D vwCl (([] : va_W) ++ (cSP a_this ++ (cW dT (a_this 4) g_this_world ++ (cW dT (a_this 5) g_this_copy ++ (cP dT (a_this 8) g_this_chosen ++ (cP dT (a_this 9) g_this_other)))))) _ := hP.perm (wj_split [cSP a_this, cW dT (a_this 4) g_this_world, cW dT (a_this 5) g_this_copy, cP dT (a_this 8) g_this_chosen, cP dT (a_this 9) g_this_other] [] [0, 1, 2, 3, 4] rfl)
  have hDq : va_D A (([] : va_W) ++ (cSP a_this ++ (cW dT (a_this 4) g_this_world ++ (cW dT (a_this 5) g_this_copy ++ (cP dT (a_this 8) g_this_chosen ++ (cP dT (a_this 9) g_this_other)))))) := hD.perm (wj_split [cSP a_this, cW dT (a_this 4) g_this_world, cW dT (a_this 5) g_this_copy, cP dT (a_this 8) g_this_chosen, cP dT (a_this 9) g_this_other] [] [0, 1, 2, 3, 4] rfl)
  have hPc := hPq.left
  have hDc := hDq.left
  have hFc := va_freeL hDq hS hA
  refine xcl_vL (wr := (cSP a_this ++ (cW dT (a_this 4) g_this_world ++ (cW dT (a_this 5) g_this_copy ++ (cP dT (a_this 8) g_this_chosen ++ (cP dT (a_this 9) g_this_other)))))) (vx_runS (As := [.int v1, .int (1 : Int32), .int (3 : Int32)]) (rest := []) ⟨hx, hb, hml, hown, hts⟩ (c_X8_needRange l hlt D dT v1 (1 : Int32) (3 : Int32) o1 e1 _) (va_cwS 3 hts (TB_S w_287 w_288 w_33 w_289) rfl rfl rfl nd_X8_needRange ⟨Nat.le_of_ble_eq_true rfl, Nat.le_of_ble_eq_true rfl⟩) (cPre.S hPc hDc hK hE hS hFc) rfl rfl hl.1 rfl (lv_room (Nat.le_of_ble_eq_true rfl)) dX8_runScript_3 ⟨Nat.le_of_ble_eq_true rfl, Nat.le_of_ble_eq_true rfl⟩) hPq hDq hS hFc (fun k1 u1 E1 ce1 q1 H locs hw hEk hP hD hS hxc hxv hxl => ?_) (fun u1 H locs hw hP hD hS => ?_)
  · have hw := xoP_inv hw
    subst hw
    have hP : va_P D vwCl (cSP a_this ++ (cW dT (a_this 4) g_this_world ++ (cW dT (a_this 5) g_this_copy ++ (cP dT (a_this 8) g_this_chosen ++ (cP dT (a_this 9) g_this_other))))) H := hP.perm (wj_back [] [cSP a_this, cW dT (a_this 4) g_this_world, cW dT (a_this 5) g_this_copy, cP dT (a_this 8) g_this_chosen, cP dT (a_this 9) g_this_other] [0, 1, 2, 3, 4] rfl)
    have hD : va_D A (cSP a_this ++ (cW dT (a_this 4) g_this_world ++ (cW dT (a_this 5) g_this_copy ++ (cP dT (a_this 8) g_this_chosen ++ (cP dT (a_this 9) g_this_other))))) := hD.perm (wj_back [] [cSP a_this, cW dT (a_this 4) g_this_world, cW dT (a_this 5) g_this_copy, cP dT (a_this 8) g_this_chosen, cP dT (a_this 9) g_this_other] [0, 1, 2, 3, 4] rfl)
    exact xo_S hlk hnt hK hS hEk hxc hxv hxl ((g_this_copy, g_this_chosen, g_this_other) : TW × TP × TP) (xoP_of h) hP hD rfl rfl
  subst hw
  replace h := sumR h
  have hP : va_P D vwCl (cSP a_this ++ (cW dT (a_this 4) g_this_world ++ (cW dT (a_this 5) g_this_copy ++ (cP dT (a_this 8) g_this_chosen ++ (cP dT (a_this 9) g_this_other))))) H := hP.perm (wj_back [] [cSP a_this, cW dT (a_this 4) g_this_world, cW dT (a_this 5) g_this_copy, cP dT (a_this 8) g_this_chosen, cP dT (a_this 9) g_this_other] [0, 1, 2, 3, 4] rfl)
  have hD : va_D A (cSP a_this ++ (cW dT (a_this 4) g_this_world ++ (cW dT (a_this 5) g_this_copy ++ (cP dT (a_this 8) g_this_chosen ++ (cP dT (a_this 9) g_this_other))))) := hD.perm (wj_back [] [cSP a_this, cW dT (a_this 4) g_this_world, cW dT (a_this 5) g_this_copy, cP dT (a_this 8) g_this_chosen, cP dT (a_this 9) g_this_other] [0, 1, 2, 3, 4] rfl)
  refine lv_lconst (v := 1) hx hb dX8_runScript_6 (by decide) ?_
  refine lv_lstore (lv' := [(4, .long (1 : Int64)), (0, .ref (a_this 0 0)), (1, .int v1), (2, .long v2)]) hx hb dX8_runScript_7 hl (by decide) rfl (fun ls hl => ?_)
  refine lv_iconst (v := 0) hx hb dX8_runScript_9 (by decide) ?_
  refine lv_istore (lv' := [(6, .int (0 : Int32)), (4, .long (1 : Int64)), (0, .ref (a_this 0 0)), (1, .int v1), (2, .long v2)]) hx hb dX8_runScript_10 hl (by decide) rfl (fun ls hl => ?_)
  refine L_f_X8_runScript_L12 g_this_world g_this_copy g_this_chosen g_this_other v1 v2 _ ?_ FUEL (1 : Int64) (0 : Int32) _ _ _ h hP hD hS (lv_sub hl [2, 3, 4, 1, 0] rfl)
  · intro y3x4 H locs ls h hP hD hS hl
    refine lv_lload_n hx hb dX8_runScript_32 rfl (lv_at hl 2 rfl) ?_
    refine lv_lconst (v := 0) hx hb dX8_runScript_33 (by decide) ?_
    refine W.lcmp hx hb dX8_runScript_34 ?_
    refine lv_if_lt (tgt := 45) hx hb dX8_runScript_35 (by decide) (fun c4 => ?_) (fun c4 => ?_)
    · replace h := iteT c4 h
      refine L_f_X8_runScript_J45 g_this_world g_this_copy g_this_chosen g_this_other   _ _ _ h hP hD hS (lv_sub hl [] rfl)
    · replace h := iteF c4 h
      refine lv_lload_n hx hb dX8_runScript_38 rfl (lv_at hl 2 rfl) ?_
      refine lv_lload hx hb dX8_runScript_39 (lv_at hl 3 rfl) ?_
      refine W.lcmp hx hb dX8_runScript_41 ?_
      refine lv_if_lt (tgt := 56) hx hb dX8_runScript_42 (by decide) (fun c5 => ?_) (fun c5 => ?_)
      · replace h := iteT c5 h
        refine lv_aload_n hx hb dX8_runScript_56 rfl (lv_at hl 0 rfl) ?_
        refine gf_X8_37 (v := .ref ((a_this 5) 0)) hx hb hqs hown hK hP 0 rfl rfl dX8_runScript_57 ?_
        refine lv_aload_n hx hb dX8_runScript_60 rfl (lv_at hl 0 rfl) ?_
        refine gf_X8_33 (v := .ref ((a_this 4) 0)) hx hb hqs hown hK hP 0 rfl rfl dX8_runScript_61 ?_
        obtain ⟨o6, e6, h⟩ := obind h
        have hPq : va_P D vwCl ((cW dT (a_this 5) g_this_copy ++ (cW dT (a_this 4) g_this_world)) ++ (cSP a_this ++ (cP dT (a_this 8) g_this_chosen ++ (cP dT (a_this 9) g_this_other)))) _ := hP.perm (wj_split [cSP a_this, cW dT (a_this 4) g_this_world, cW dT (a_this 5) g_this_copy, cP dT (a_this 8) g_this_chosen, cP dT (a_this 9) g_this_other] [2, 1] [0, 3, 4] rfl)
        have hDq : va_D A ((cW dT (a_this 5) g_this_copy ++ (cW dT (a_this 4) g_this_world)) ++ (cSP a_this ++ (cP dT (a_this 8) g_this_chosen ++ (cP dT (a_this 9) g_this_other)))) := hD.perm (wj_split [cSP a_this, cW dT (a_this 4) g_this_world, cW dT (a_this 5) g_this_copy, cP dT (a_this 8) g_this_chosen, cP dT (a_this 9) g_this_other] [2, 1] [0, 3, 4] rfl)
        have hPc := hPq.left
        have hDc := hDq.left
        have hFc := va_freeL hDq hS hA
        refine cl_vL (wr := (cSP a_this ++ (cP dT (a_this 8) g_this_chosen ++ (cP dT (a_this 9) g_this_other)))) (va_runV (As := [.ref ((a_this 4) 0)]) (rest := []) ⟨hx, hb, hml, hown, hts⟩ (c_X7_takeFrom l hlt D dT (a_this 5) (a_this 4) g_this_copy g_this_world o6 e6 _) (cwV 1 hts (TB_V w_363 w_364 w_365 w_38 w_366) rfl rfl rfl ⟨rfl, nd_X7_takeFrom⟩ ⟨Nat.le_of_ble_eq_true rfl, Nat.le_of_ble_eq_true rfl⟩) (cPre.V hPc hDc hK hE hS hFc (va_recv hK hPc (ci := 6) (q0 := 0) rfl rfl)) rfl rfl hl.1 rfl (lv_room (Nat.le_of_ble_eq_true rfl)) dX8_runScript_64 ⟨Nat.le_of_ble_eq_true rfl, Nat.le_of_ble_eq_true rfl⟩) hPq hDq hS hFc (fun u6 H locs hw hP hD hS => ?_)
        subst hw
        have hP : va_P D vwCl (cSP a_this ++ (cW dT (a_this 4) g_this_world ++ (cW dT (a_this 5) o6.2 ++ (cP dT (a_this 8) g_this_chosen ++ (cP dT (a_this 9) g_this_other))))) H := hP.perm (wj_back [cW dT (a_this 5) o6.2, cW dT (a_this 4) g_this_world] [cSP a_this, cP dT (a_this 8) g_this_chosen, cP dT (a_this 9) g_this_other] [2, 1, 0, 3, 4] rfl)
        have hD : va_D A (cSP a_this ++ (cW dT (a_this 4) g_this_world ++ (cW dT (a_this 5) o6.2 ++ (cP dT (a_this 8) g_this_chosen ++ (cP dT (a_this 9) g_this_other))))) := hD.perm (wj_back [cW dT (a_this 5) o6.2, cW dT (a_this 4) g_this_world] [cSP a_this, cP dT (a_this 8) g_this_chosen, cP dT (a_this 9) g_this_other] [2, 1, 0, 3, 4] rfl)
        refine lv_iconst (v := 0) hx hb dX8_runScript_67 (by decide) ?_
        refine lv_istore (lv' := [(6, .int (0 : Int32)), (0, .ref (a_this 0 0)), (1, .int v1), (2, .long v2), (4, .long y3x4)]) hx hb dX8_runScript_68 hl (by decide) rfl (fun ls hl => ?_)
        refine L_f_X8_runScript_L70 g_this_world v1 v2   FUEL y3x4 (0 : Int32) o6.2 g_this_chosen g_this_other _ _ _ h hP hD hS (lv_sub hl [1, 2, 3, 4, 0] rfl)
      · replace h := iteF c5 h
        refine L_f_X8_runScript_J45 g_this_world g_this_copy g_this_chosen g_this_other   _ _ _ h hP hD hS (lv_sub hl [] rfl)

def f_X8_takeTurn (g_this_copy : TW) (g_this_chosen : TP) (g_this_other : TP) (v1 : Int32) : Option (Unit × (TW × TP × TP)) :=
  (if (W_tables g_this_copy) < (1 : Int32) then (some ((), (g_this_copy, g_this_chosen, g_this_other))) else (if (W_tables g_this_copy) ≤ (7 : Int32) then (if (v1 - v1 / (8 : Int32) * (8 : Int32)) = (4 : Int32) then ((f_X7_passWeeks g_this_copy (1 : Int32)).bind fun o4 => (some ((), (o4.2, g_this_chosen, g_this_other)))) else (if (v1 - v1 / (8 : Int32) * (8 : Int32)) = (5 : Int32) then (if (W_tables g_this_copy) = 0 then none else (if (W_tables g_this_copy) = 0 then none else ((f_X8_scriptDrifts g_this_copy ((v1 / (8 : Int32)) - (v1 / (8 : Int32)) / (W_tables g_this_copy) * (W_tables g_this_copy)) ((v1 / (64 : Int32)) - (v1 / (64 : Int32)) / (W_tables g_this_copy) * (W_tables g_this_copy)) ((1 : Int32) + ((v1 / (512 : Int32)) - (v1 / (512 : Int32)) / (1000 : Int32) * (1000 : Int32)))).bind fun o7 => (some ((), (o7.2, g_this_chosen, g_this_other)))))) else (if (v1 - v1 / (8 : Int32) * (8 : Int32)) = (6 : Int32) then (if (W_tables g_this_copy) = 0 then none else (if (W_tables g_this_copy) = 0 then none else ((f_X8_scriptDrifts g_this_copy ((v1 / (8 : Int32)) - (v1 / (8 : Int32)) / (W_tables g_this_copy) * (W_tables g_this_copy)) ((v1 / (64 : Int32)) - (v1 / (64 : Int32)) / (W_tables g_this_copy) * (W_tables g_this_copy)) ((1 : Int32) + ((v1 / (512 : Int32)) - (v1 / (512 : Int32)) / (1000 : Int32) * (1000 : Int32)))).bind fun o10 => (some ((), (o10.2, g_this_chosen, g_this_other)))))) else (if (v1 - v1 / (8 : Int32) * (8 : Int32)) = (7 : Int32) then ((f_X8_scriptSets g_this_copy (0 : Int32) ((1 : Int32) + ((v1 / (8 : Int32)) - (v1 / (8 : Int32)) / (200 : Int32) * (200 : Int32)))).bind fun o11 => (some ((), (o11.2, g_this_chosen, g_this_other)))) else (if (((1 : Int32) <<< ((W_tables g_this_copy) &&& 31)) - (1 : Int32)) ≤ (0 : Int32) then (some ((), (g_this_copy, g_this_chosen, g_this_other))) else (if (((1 : Int32) <<< ((W_tables g_this_copy) &&& 31)) - (1 : Int32)) = 0 then none else ((f_X8_runIn g_this_chosen g_this_other g_this_copy ((1 : Int32) + ((v1 / (8 : Int32)) - (v1 / (8 : Int32)) / (((1 : Int32) <<< ((W_tables g_this_copy) &&& 31)) - (1 : Int32)) * (((1 : Int32) <<< ((W_tables g_this_copy) &&& 31)) - (1 : Int32))))).bind fun o14 => (some ((), (o14.2.2.2, o14.2.1, o14.2.2.1)))))))))) else (some ((), (g_this_copy, g_this_chosen, g_this_other)))))
set_option maxHeartbeats 8000000 in
set_option maxRecDepth 100000 in
theorem c_X8_takeTurn (l : Launch) (hlt : l.stackTraces = false) (D : va_G) (dT : Nat → ClassId) (a_this : Nat → Nat → Nat) (g_this_copy : TW) (g_this_chosen : TP) (g_this_other : TP) (v1 : Int32) (o : (Unit × (TW × TP × TP))) (h : f_X8_takeTurn g_this_copy g_this_chosen g_this_other v1 = some o) (sz : Nat) : Met l yX8_takeTurn (WSm yX8_takeTurn cX8_takeTurn 4 none) { frames := 6, cells := 0, slots := 0, locals := 147 } (va_Pc [.ref (a_this 0 0), .int v1] (cPre D dT (cSP a_this ++ (cW dT (a_this 5) g_this_copy ++ (cP dT (a_this 8) g_this_chosen ++ (cP dT (a_this 9) g_this_other)))) sz)) (va_Qv (fun (u : TW × TP × TP) => u = o.2) (fun u t => cAt D dT (va_A (cSP a_this ++ (cW dT (a_this 5) g_this_copy ++ (cP dT (a_this 8) g_this_chosen ++ (cP dT (a_this 9) g_this_other)))) sz) (cSP a_this ++ (cW dT (a_this 5) (u.1) ++ (cP dT (a_this 8) (u.2.1) ++ (cP dT (a_this 9) (u.2.2))))) t) (va_A (cSP a_this ++ (cW dT (a_this 5) g_this_copy ++ (cP dT (a_this 8) g_this_chosen ++ (cP dT (a_this 9) g_this_other)))) sz)) 0 0 (va_A (cSP a_this ++ (cW dT (a_this 5) g_this_copy ++ (cP dT (a_this 8) g_this_chosen ++ (cP dT (a_this 9) g_this_other)))) sz) := by
  refine mStart (WS := (cSP a_this ++ (cW dT (a_this 5) g_this_copy ++ (cP dT (a_this 8) g_this_chosen ++ (cP dT (a_this 9) g_this_other))))) (Qc := fun A => va_Qv (fun (u : TW × TP × TP) => u = o.2) (fun u t => cAt D dT A (cSP a_this ++ (cW dT (a_this 5) (u.1) ++ (cP dT (a_this 8) (u.2.1) ++ (cP dT (a_this 9) (u.2.2))))) t) A) RX8 rfl (by decide) (Nat.le_of_ble_eq_true rfl) ?_ sz
  intro p e s m below meth c A ls hx hb hml hr hlk hnm hts hqs hown hE hA hK hP hD hS hl
  have hl : lv_has ls 4 [(0, .ref (a_this 0 0)), (1, .int v1)] := hl
  unfold f_X8_takeTurn at h
  refine lv_aload_n hx hb dX8_takeTurn_0 rfl (lv_at hl 0 rfl) ?_
  refine gf_X8_37 (v := .ref ((a_this 5) 0)) hx hb hqs hown hK hP 0 rfl rfl dX8_takeTurn_1 ?_
  refine gf_X8_359 (v := .int (W_tables g_this_copy)) hx hb hqs hown hK hP 1 rfl rfl dX8_takeTurn_4 ?_
  refine lv_istore_n (lv' := [(2, .int (W_tables g_this_copy)), (0, .ref (a_this 0 0)), (1, .int v1)]) hx hb dX8_takeTurn_7 rfl hl (by decide) rfl (fun ls hl => ?_)
  refine lv_iload_n hx hb dX8_takeTurn_8 rfl (lv_at hl 0 rfl) ?_
  refine lv_iconst (v := 1) hx hb dX8_takeTurn_9 (by decide) ?_
  refine lv_icmp_lt (tgt := 19) hx hb dX8_takeTurn_10 (by decide) (fun c1 => ?_) (fun c1 => ?_)
  · replace h := iteT c1 h
    exact rt_v hx hb hr hlk hK hS ((g_this_copy, g_this_chosen, g_this_other) : TW × TP × TP) (retv h) hP hD dX8_takeTurn_19
  · replace h := iteF c1 h
    refine lv_iload_n hx hb dX8_takeTurn_13 rfl (lv_at hl 0 rfl) ?_
    refine lv_bipush (v := 7) hx hb dX8_takeTurn_14 (by decide) ?_
    refine lv_icmp_le (tgt := 20) hx hb dX8_takeTurn_16 (by decide) (fun c2 => ?_) (fun c2 => ?_)
    · replace h := iteT c2 h
      refine lv_iconst (v := 1) hx hb dX8_takeTurn_20 (by decide) ?_
      refine lv_iload_n hx hb dX8_takeTurn_21 rfl (lv_at hl 0 rfl) ?_
      refine lv_ishl hx hb dX8_takeTurn_22 ?_
      refine lv_iconst (v := 1) hx hb dX8_takeTurn_23 (by decide) ?_
      refine lv_isub hx hb dX8_takeTurn_24 ?_
      refine lv_istore_n (lv' := [(3, .int (((1 : Int32) <<< ((W_tables g_this_copy) &&& 31)) - (1 : Int32))), (2, .int (W_tables g_this_copy)), (0, .ref (a_this 0 0)), (1, .int v1)]) hx hb dX8_takeTurn_25 rfl hl (by decide) rfl (fun ls hl => ?_)
      refine lv_iload_n hx hb dX8_takeTurn_26 rfl (lv_at hl 3 rfl) ?_
      refine lv_bipush (v := 8) hx hb dX8_takeTurn_27 (by decide) ?_
      refine lv_irem hx hb dX8_takeTurn_29 (by decide) ?_
      by_cases c3_4 : (v1 - v1 / (8 : Int32) * (8 : Int32)) = (4 : Int32)
      · replace h := iteT c3_4 h
        refine lv_tableIn (off := (30)) (tgt := 60) hx hb dX8_takeTurn_30 (by rw [c3_4]; decide) (by rw [c3_4]; decide) (by rw [c3_4]; rfl) (by decide) ?_
        refine lv_aload_n hx hb dX8_takeTurn_60 rfl (lv_at hl 2 rfl) ?_
        refine gf_X8_37 (v := .ref ((a_this 5) 0)) hx hb hqs hown hK hP 0 rfl rfl dX8_takeTurn_61 ?_
        refine lv_iconst (v := 1) hx hb dX8_takeTurn_64 (by decide) ?_
        obtain ⟨o4, e4, h⟩ := obind h
        have hPq : va_P D vwCl ((cW dT (a_this 5) g_this_copy) ++ (cSP a_this ++ (cP dT (a_this 8) g_this_chosen ++ (cP dT (a_this 9) g_this_other)))) _ := hP.perm (wj_split [cSP a_this, cW dT (a_this 5) g_this_copy, cP dT (a_this 8) g_this_chosen, cP dT (a_this 9) g_this_other] [1] [0, 2, 3] rfl)
        have hDq : va_D A ((cW dT (a_this 5) g_this_copy) ++ (cSP a_this ++ (cP dT (a_this 8) g_this_chosen ++ (cP dT (a_this 9) g_this_other)))) := hD.perm (wj_split [cSP a_this, cW dT (a_this 5) g_this_copy, cP dT (a_this 8) g_this_chosen, cP dT (a_this 9) g_this_other] [1] [0, 2, 3] rfl)
        have hPc := hPq.left
        have hDc := hDq.left
        have hFc := va_freeL hDq hS hA
        refine cl_iL (wr := (cSP a_this ++ (cP dT (a_this 8) g_this_chosen ++ (cP dT (a_this 9) g_this_other)))) (va_runV (As := [.int (1 : Int32)]) (rest := []) ⟨hx, hb, hml, hown, hts⟩ (c_X7_passWeeks l hlt D dT (a_this 5) g_this_copy (1 : Int32) o4 e4 _) (cwV 1 hts (TB_V w_498 w_499 w_500 w_38 w_501) rfl rfl rfl ⟨rfl, nd_X7_passWeeks⟩ ⟨Nat.le_of_ble_eq_true rfl, Nat.le_of_ble_eq_true rfl⟩) (cPre.V hPc hDc hK hE hS hFc (va_recv hK hPc (ci := 6) (q0 := 0) rfl rfl)) rfl rfl hl.1 rfl (lv_room (Nat.le_of_ble_eq_true rfl)) dX8_takeTurn_65 ⟨Nat.zero_le _, Nat.zero_le _⟩) hPq hDq hS hFc (fun r4 u4 H locs hw hP hD hS => ?_)
        obtain ⟨rfl, rfl⟩ := hw
        have hP : va_P D vwCl (cSP a_this ++ (cW dT (a_this 5) o4.2 ++ (cP dT (a_this 8) g_this_chosen ++ (cP dT (a_this 9) g_this_other)))) H := hP.perm (wj_back [cW dT (a_this 5) o4.2] [cSP a_this, cP dT (a_this 8) g_this_chosen, cP dT (a_this 9) g_this_other] [1, 0, 2, 3] rfl)
        have hD : va_D A (cSP a_this ++ (cW dT (a_this 5) o4.2 ++ (cP dT (a_this 8) g_this_chosen ++ (cP dT (a_this 9) g_this_other)))) := hD.perm (wj_back [cW dT (a_this 5) o4.2] [cSP a_this, cP dT (a_this 8) g_this_chosen, cP dT (a_this 9) g_this_other] [1, 0, 2, 3] rfl)
        refine lv_pop hx hb dX8_takeTurn_68 rfl ?_
        refine lv_goto (tgt := 143) hx hb dX8_takeTurn_69 (by decide) ?_
        exact rt_v hx hb hr hlk hK hS ((o4.2, g_this_chosen, g_this_other) : TW × TP × TP) (retv h) hP hD dX8_takeTurn_143
      replace h := iteF c3_4 h
      by_cases c3_5 : (v1 - v1 / (8 : Int32) * (8 : Int32)) = (5 : Int32)
      · replace h := iteT c3_5 h
        refine lv_tableIn (off := (42)) (tgt := 72) hx hb dX8_takeTurn_30 (by rw [c3_5]; decide) (by rw [c3_5]; decide) (by rw [c3_5]; rfl) (by decide) ?_
        refine lv_aload_n hx hb dX8_takeTurn_72 rfl (lv_at hl 2 rfl) ?_
        refine lv_iload_n hx hb dX8_takeTurn_73 rfl (lv_at hl 3 rfl) ?_
        refine lv_bipush (v := 8) hx hb dX8_takeTurn_74 (by decide) ?_
        refine lv_idiv hx hb dX8_takeTurn_76 (by decide) ?_
        refine lv_iload_n hx hb dX8_takeTurn_77 rfl (lv_at hl 1 rfl) ?_
        obtain ⟨g5, h⟩ := chn h
        refine lv_irem hx hb dX8_takeTurn_78 g5 ?_
        refine lv_iload_n hx hb dX8_takeTurn_79 rfl (lv_at hl 3 rfl) ?_
        refine lv_bipush (v := 64) hx hb dX8_takeTurn_80 (by decide) ?_
        refine lv_idiv hx hb dX8_takeTurn_82 (by decide) ?_
        refine lv_iload_n hx hb dX8_takeTurn_83 rfl (lv_at hl 1 rfl) ?_
        obtain ⟨g6, h⟩ := chn h
        refine lv_irem hx hb dX8_takeTurn_84 g6 ?_
        refine lv_iconst (v := 1) hx hb dX8_takeTurn_85 (by decide) ?_
        refine lv_iload_n hx hb dX8_takeTurn_86 rfl (lv_at hl 3 rfl) ?_
        refine lv_sipush (v := 512) hx hb dX8_takeTurn_87 (by decide) ?_
        refine lv_idiv hx hb dX8_takeTurn_90 (by decide) ?_
        refine lv_sipush (v := 1000) hx hb dX8_takeTurn_91 (by decide) ?_
        refine lv_irem hx hb dX8_takeTurn_94 (by decide) ?_
        refine lv_iadd hx hb dX8_takeTurn_95 ?_
        obtain ⟨o7, e7, h⟩ := obind h
        have hPq : va_P D vwCl ((cSP a_this ++ (cW dT (a_this 5) g_this_copy)) ++ (cP dT (a_this 8) g_this_chosen ++ (cP dT (a_this 9) g_this_other))) _ := hP.perm (wj_split [cSP a_this, cW dT (a_this 5) g_this_copy, cP dT (a_this 8) g_this_chosen, cP dT (a_this 9) g_this_other] [0, 1] [2, 3] rfl)
        have hDq : va_D A ((cSP a_this ++ (cW dT (a_this 5) g_this_copy)) ++ (cP dT (a_this 8) g_this_chosen ++ (cP dT (a_this 9) g_this_other))) := hD.perm (wj_split [cSP a_this, cW dT (a_this 5) g_this_copy, cP dT (a_this 8) g_this_chosen, cP dT (a_this 9) g_this_other] [0, 1] [2, 3] rfl)
        have hPc := hPq.left
        have hDc := hDq.left
        have hFc := va_freeL hDq hS hA
        refine cl_iL (wr := (cP dT (a_this 8) g_this_chosen ++ (cP dT (a_this 9) g_this_other))) (va_runV (As := [.int ((v1 / (8 : Int32)) - (v1 / (8 : Int32)) / (W_tables g_this_copy) * (W_tables g_this_copy)), .int ((v1 / (64 : Int32)) - (v1 / (64 : Int32)) / (W_tables g_this_copy) * (W_tables g_this_copy)), .int ((1 : Int32) + ((v1 / (512 : Int32)) - (v1 / (512 : Int32)) / (1000 : Int32) * (1000 : Int32)))]) (rest := []) ⟨hx, hb, hml, hown, hts⟩ (c_X8_scriptDrifts l hlt D dT a_this g_this_copy ((v1 / (8 : Int32)) - (v1 / (8 : Int32)) / (W_tables g_this_copy) * (W_tables g_this_copy)) ((v1 / (64 : Int32)) - (v1 / (64 : Int32)) / (W_tables g_this_copy) * (W_tables g_this_copy)) ((1 : Int32) + ((v1 / (512 : Int32)) - (v1 / (512 : Int32)) / (1000 : Int32) * (1000 : Int32))) o7 e7 _) (cwV 3 hts (TB_V w_518 w_520 w_15 w_33 w_521) rfl rfl rfl ⟨rfl, nd_X8_scriptDrifts⟩ ⟨Nat.le_of_ble_eq_true rfl, Nat.le_of_ble_eq_true rfl⟩) (cPre.V hPc hDc hK hE hS hFc (va_recv hK hPc (ci := 7) (q0 := 0) rfl rfl)) rfl rfl hl.1 rfl (lv_room (Nat.le_of_ble_eq_true rfl)) dX8_takeTurn_96 ⟨Nat.zero_le _, Nat.zero_le _⟩) hPq hDq hS hFc (fun r7 u7 H locs hw hP hD hS => ?_)
        obtain ⟨rfl, rfl⟩ := hw
        have hP : va_P D vwCl (cSP a_this ++ (cW dT (a_this 5) o7.2 ++ (cP dT (a_this 8) g_this_chosen ++ (cP dT (a_this 9) g_this_other)))) H := hP.perm (wj_back [cSP a_this, cW dT (a_this 5) o7.2] [cP dT (a_this 8) g_this_chosen, cP dT (a_this 9) g_this_other] [0, 1, 2, 3] rfl)
        have hD : va_D A (cSP a_this ++ (cW dT (a_this 5) o7.2 ++ (cP dT (a_this 8) g_this_chosen ++ (cP dT (a_this 9) g_this_other)))) := hD.perm (wj_back [cSP a_this, cW dT (a_this 5) o7.2] [cP dT (a_this 8) g_this_chosen, cP dT (a_this 9) g_this_other] [0, 1, 2, 3] rfl)
        refine lv_pop hx hb dX8_takeTurn_99 rfl ?_
        refine lv_goto (tgt := 143) hx hb dX8_takeTurn_100 (by decide) ?_
        exact rt_v hx hb hr hlk hK hS ((o7.2, g_this_chosen, g_this_other) : TW × TP × TP) (retv h) hP hD dX8_takeTurn_143
      replace h := iteF c3_5 h
      by_cases c3_6 : (v1 - v1 / (8 : Int32) * (8 : Int32)) = (6 : Int32)
      · replace h := iteT c3_6 h
        refine lv_tableIn (off := (42)) (tgt := 72) hx hb dX8_takeTurn_30 (by rw [c3_6]; decide) (by rw [c3_6]; decide) (by rw [c3_6]; rfl) (by decide) ?_
        refine lv_aload_n hx hb dX8_takeTurn_72 rfl (lv_at hl 2 rfl) ?_
        refine lv_iload_n hx hb dX8_takeTurn_73 rfl (lv_at hl 3 rfl) ?_
        refine lv_bipush (v := 8) hx hb dX8_takeTurn_74 (by decide) ?_
        refine lv_idiv hx hb dX8_takeTurn_76 (by decide) ?_
        refine lv_iload_n hx hb dX8_takeTurn_77 rfl (lv_at hl 1 rfl) ?_
        obtain ⟨g8, h⟩ := chn h
        refine lv_irem hx hb dX8_takeTurn_78 g8 ?_
        refine lv_iload_n hx hb dX8_takeTurn_79 rfl (lv_at hl 3 rfl) ?_
        refine lv_bipush (v := 64) hx hb dX8_takeTurn_80 (by decide) ?_
        refine lv_idiv hx hb dX8_takeTurn_82 (by decide) ?_
        refine lv_iload_n hx hb dX8_takeTurn_83 rfl (lv_at hl 1 rfl) ?_
        obtain ⟨g9, h⟩ := chn h
        refine lv_irem hx hb dX8_takeTurn_84 g9 ?_
        refine lv_iconst (v := 1) hx hb dX8_takeTurn_85 (by decide) ?_
        refine lv_iload_n hx hb dX8_takeTurn_86 rfl (lv_at hl 3 rfl) ?_
        refine lv_sipush (v := 512) hx hb dX8_takeTurn_87 (by decide) ?_
        refine lv_idiv hx hb dX8_takeTurn_90 (by decide) ?_
        refine lv_sipush (v := 1000) hx hb dX8_takeTurn_91 (by decide) ?_
        refine lv_irem hx hb dX8_takeTurn_94 (by decide) ?_
        refine lv_iadd hx hb dX8_takeTurn_95 ?_
        obtain ⟨o10, e10, h⟩ := obind h
        have hPq : va_P D vwCl ((cSP a_this ++ (cW dT (a_this 5) g_this_copy)) ++ (cP dT (a_this 8) g_this_chosen ++ (cP dT (a_this 9) g_this_other))) _ := hP.perm (wj_split [cSP a_this, cW dT (a_this 5) g_this_copy, cP dT (a_this 8) g_this_chosen, cP dT (a_this 9) g_this_other] [0, 1] [2, 3] rfl)
        have hDq : va_D A ((cSP a_this ++ (cW dT (a_this 5) g_this_copy)) ++ (cP dT (a_this 8) g_this_chosen ++ (cP dT (a_this 9) g_this_other))) := hD.perm (wj_split [cSP a_this, cW dT (a_this 5) g_this_copy, cP dT (a_this 8) g_this_chosen, cP dT (a_this 9) g_this_other] [0, 1] [2, 3] rfl)
        have hPc := hPq.left
        have hDc := hDq.left
        have hFc := va_freeL hDq hS hA
        refine cl_iL (wr := (cP dT (a_this 8) g_this_chosen ++ (cP dT (a_this 9) g_this_other))) (va_runV (As := [.int ((v1 / (8 : Int32)) - (v1 / (8 : Int32)) / (W_tables g_this_copy) * (W_tables g_this_copy)), .int ((v1 / (64 : Int32)) - (v1 / (64 : Int32)) / (W_tables g_this_copy) * (W_tables g_this_copy)), .int ((1 : Int32) + ((v1 / (512 : Int32)) - (v1 / (512 : Int32)) / (1000 : Int32) * (1000 : Int32)))]) (rest := []) ⟨hx, hb, hml, hown, hts⟩ (c_X8_scriptDrifts l hlt D dT a_this g_this_copy ((v1 / (8 : Int32)) - (v1 / (8 : Int32)) / (W_tables g_this_copy) * (W_tables g_this_copy)) ((v1 / (64 : Int32)) - (v1 / (64 : Int32)) / (W_tables g_this_copy) * (W_tables g_this_copy)) ((1 : Int32) + ((v1 / (512 : Int32)) - (v1 / (512 : Int32)) / (1000 : Int32) * (1000 : Int32))) o10 e10 _) (cwV 3 hts (TB_V w_518 w_520 w_15 w_33 w_521) rfl rfl rfl ⟨rfl, nd_X8_scriptDrifts⟩ ⟨Nat.le_of_ble_eq_true rfl, Nat.le_of_ble_eq_true rfl⟩) (cPre.V hPc hDc hK hE hS hFc (va_recv hK hPc (ci := 7) (q0 := 0) rfl rfl)) rfl rfl hl.1 rfl (lv_room (Nat.le_of_ble_eq_true rfl)) dX8_takeTurn_96 ⟨Nat.zero_le _, Nat.zero_le _⟩) hPq hDq hS hFc (fun r10 u10 H locs hw hP hD hS => ?_)
        obtain ⟨rfl, rfl⟩ := hw
        have hP : va_P D vwCl (cSP a_this ++ (cW dT (a_this 5) o10.2 ++ (cP dT (a_this 8) g_this_chosen ++ (cP dT (a_this 9) g_this_other)))) H := hP.perm (wj_back [cSP a_this, cW dT (a_this 5) o10.2] [cP dT (a_this 8) g_this_chosen, cP dT (a_this 9) g_this_other] [0, 1, 2, 3] rfl)
        have hD : va_D A (cSP a_this ++ (cW dT (a_this 5) o10.2 ++ (cP dT (a_this 8) g_this_chosen ++ (cP dT (a_this 9) g_this_other)))) := hD.perm (wj_back [cSP a_this, cW dT (a_this 5) o10.2] [cP dT (a_this 8) g_this_chosen, cP dT (a_this 9) g_this_other] [0, 1, 2, 3] rfl)
        refine lv_pop hx hb dX8_takeTurn_99 rfl ?_
        refine lv_goto (tgt := 143) hx hb dX8_takeTurn_100 (by decide) ?_
        exact rt_v hx hb hr hlk hK hS ((o10.2, g_this_chosen, g_this_other) : TW × TP × TP) (retv h) hP hD dX8_takeTurn_143
      replace h := iteF c3_6 h
      by_cases c3_7 : (v1 - v1 / (8 : Int32) * (8 : Int32)) = (7 : Int32)
      · replace h := iteT c3_7 h
        refine lv_tableIn (off := (73)) (tgt := 103) hx hb dX8_takeTurn_30 (by rw [c3_7]; decide) (by rw [c3_7]; decide) (by rw [c3_7]; rfl) (by decide) ?_
        refine lv_aload_n hx hb dX8_takeTurn_103 rfl (lv_at hl 2 rfl) ?_
        refine lv_iconst (v := 0) hx hb dX8_takeTurn_104 (by decide) ?_
        refine lv_iconst (v := 1) hx hb dX8_takeTurn_105 (by decide) ?_
        refine lv_iload_n hx hb dX8_takeTurn_106 rfl (lv_at hl 3 rfl) ?_
        refine lv_bipush (v := 8) hx hb dX8_takeTurn_107 (by decide) ?_
        refine lv_idiv hx hb dX8_takeTurn_109 (by decide) ?_
        refine lv_sipush (v := 200) hx hb dX8_takeTurn_110 (by decide) ?_
        refine lv_irem hx hb dX8_takeTurn_113 (by decide) ?_
        refine lv_iadd hx hb dX8_takeTurn_114 ?_
        obtain ⟨o11, e11, h⟩ := obind h
        have hPq : va_P D vwCl ((cSP a_this ++ (cW dT (a_this 5) g_this_copy)) ++ (cP dT (a_this 8) g_this_chosen ++ (cP dT (a_this 9) g_this_other))) _ := hP.perm (wj_split [cSP a_this, cW dT (a_this 5) g_this_copy, cP dT (a_this 8) g_this_chosen, cP dT (a_this 9) g_this_other] [0, 1] [2, 3] rfl)
        have hDq : va_D A ((cSP a_this ++ (cW dT (a_this 5) g_this_copy)) ++ (cP dT (a_this 8) g_this_chosen ++ (cP dT (a_this 9) g_this_other))) := hD.perm (wj_split [cSP a_this, cW dT (a_this 5) g_this_copy, cP dT (a_this 8) g_this_chosen, cP dT (a_this 9) g_this_other] [0, 1] [2, 3] rfl)
        have hPc := hPq.left
        have hDc := hDq.left
        have hFc := va_freeL hDq hS hA
        refine cl_iL (wr := (cP dT (a_this 8) g_this_chosen ++ (cP dT (a_this 9) g_this_other))) (va_runV (As := [.int (0 : Int32), .int ((1 : Int32) + ((v1 / (8 : Int32)) - (v1 / (8 : Int32)) / (200 : Int32) * (200 : Int32)))]) (rest := []) ⟨hx, hb, hml, hown, hts⟩ (c_X8_scriptSets l hlt D dT a_this g_this_copy (0 : Int32) ((1 : Int32) + ((v1 / (8 : Int32)) - (v1 / (8 : Int32)) / (200 : Int32) * (200 : Int32))) o11 e11 _) (cwV 2 hts (TB_V w_536 w_538 w_16 w_33 w_539) rfl rfl rfl ⟨rfl, nd_X8_scriptSets⟩ ⟨Nat.le_of_ble_eq_true rfl, Nat.le_of_ble_eq_true rfl⟩) (cPre.V hPc hDc hK hE hS hFc (va_recv hK hPc (ci := 7) (q0 := 0) rfl rfl)) rfl rfl hl.1 rfl (lv_room (Nat.le_of_ble_eq_true rfl)) dX8_takeTurn_115 ⟨Nat.zero_le _, Nat.zero_le _⟩) hPq hDq hS hFc (fun r11 u11 H locs hw hP hD hS => ?_)
        obtain ⟨rfl, rfl⟩ := hw
        have hP : va_P D vwCl (cSP a_this ++ (cW dT (a_this 5) o11.2 ++ (cP dT (a_this 8) g_this_chosen ++ (cP dT (a_this 9) g_this_other)))) H := hP.perm (wj_back [cSP a_this, cW dT (a_this 5) o11.2] [cP dT (a_this 8) g_this_chosen, cP dT (a_this 9) g_this_other] [0, 1, 2, 3] rfl)
        have hD : va_D A (cSP a_this ++ (cW dT (a_this 5) o11.2 ++ (cP dT (a_this 8) g_this_chosen ++ (cP dT (a_this 9) g_this_other)))) := hD.perm (wj_back [cSP a_this, cW dT (a_this 5) o11.2] [cP dT (a_this 8) g_this_chosen, cP dT (a_this 9) g_this_other] [0, 1, 2, 3] rfl)
        refine lv_pop hx hb dX8_takeTurn_118 rfl ?_
        refine lv_goto (tgt := 143) hx hb dX8_takeTurn_119 (by decide) ?_
        exact rt_v hx hb hr hlk hK hS ((o11.2, g_this_chosen, g_this_other) : TW × TP × TP) (retv h) hP hD dX8_takeTurn_143
      replace h := iteF c3_7 h
      have e3_4 : ¬ Int32.toInt (v1 - v1 / (8 : Int32) * (8 : Int32)) = (4 : Int) := fun q => c3_4 (Int32.toInt_inj.mp (q.trans (by decide)))
      have e3_5 : ¬ Int32.toInt (v1 - v1 / (8 : Int32) * (8 : Int32)) = (5 : Int) := fun q => c3_5 (Int32.toInt_inj.mp (q.trans (by decide)))
      have e3_6 : ¬ Int32.toInt (v1 - v1 / (8 : Int32) * (8 : Int32)) = (6 : Int) := fun q => c3_6 (Int32.toInt_inj.mp (q.trans (by decide)))
      have e3_7 : ¬ Int32.toInt (v1 - v1 / (8 : Int32) * (8 : Int32)) = (7 : Int) := fun q => c3_7 (Int32.toInt_inj.mp (q.trans (by decide)))
      refine lv_tableOut (tgt := 122) hx hb dX8_takeTurn_30 (by omega) (by decide) ?_
      refine lv_iload_n hx hb dX8_takeTurn_122 rfl (lv_at hl 0 rfl) ?_
      refine lv_if_le (tgt := 143) hx hb dX8_takeTurn_123 (by decide) (fun c12 => ?_) (fun c12 => ?_)
      · replace h := iteT c12 h
        exact rt_v hx hb hr hlk hK hS ((g_this_copy, g_this_chosen, g_this_other) : TW × TP × TP) (retv h) hP hD dX8_takeTurn_143
      · replace h := iteF c12 h
        refine lv_aload_n hx hb dX8_takeTurn_126 rfl (lv_at hl 2 rfl) ?_
        refine lv_aload_n hx hb dX8_takeTurn_127 rfl (lv_at hl 2 rfl) ?_
        refine gf_X8_37 (v := .ref ((a_this 5) 0)) hx hb hqs hown hK hP 0 rfl rfl dX8_takeTurn_128 ?_
        refine lv_iconst (v := 1) hx hb dX8_takeTurn_131 (by decide) ?_
        refine lv_iload_n hx hb dX8_takeTurn_132 rfl (lv_at hl 3 rfl) ?_
        refine lv_bipush (v := 8) hx hb dX8_takeTurn_133 (by decide) ?_
        refine lv_idiv hx hb dX8_takeTurn_135 (by decide) ?_
        refine lv_iload_n hx hb dX8_takeTurn_136 rfl (lv_at hl 0 rfl) ?_
        obtain ⟨g13, h⟩ := chn h
        refine lv_irem hx hb dX8_takeTurn_137 g13 ?_
        refine lv_iadd hx hb dX8_takeTurn_138 ?_
        obtain ⟨o14, e14, h⟩ := obind h
        have hPq : va_P D vwCl ((cSP a_this ++ (cP dT (a_this 8) g_this_chosen ++ (cP dT (a_this 9) g_this_other ++ (cW dT (a_this 5) g_this_copy)))) ++ ([] : va_W)) _ := hP.perm (wj_split [cSP a_this, cW dT (a_this 5) g_this_copy, cP dT (a_this 8) g_this_chosen, cP dT (a_this 9) g_this_other] [0, 2, 3, 1] [] rfl)
        have hDq : va_D A ((cSP a_this ++ (cP dT (a_this 8) g_this_chosen ++ (cP dT (a_this 9) g_this_other ++ (cW dT (a_this 5) g_this_copy)))) ++ ([] : va_W)) := hD.perm (wj_split [cSP a_this, cW dT (a_this 5) g_this_copy, cP dT (a_this 8) g_this_chosen, cP dT (a_this 9) g_this_other] [0, 2, 3, 1] [] rfl)
        have hPc := hPq.left
        have hDc := hDq.left
        have hFc := va_freeL hDq hS hA
        refine cl_iL (wr := ([] : va_W)) (va_runV (As := [.ref ((a_this 5) 0), .int ((1 : Int32) + ((v1 / (8 : Int32)) - (v1 / (8 : Int32)) / (((1 : Int32) <<< ((W_tables g_this_copy) &&& 31)) - (1 : Int32)) * (((1 : Int32) <<< ((W_tables g_this_copy) &&& 31)) - (1 : Int32))))]) (rest := []) ⟨hx, hb, hml, hown, hts⟩ (c_X8_runIn l hlt D dT a_this (a_this 5) g_this_chosen g_this_other g_this_copy ((1 : Int32) + ((v1 / (8 : Int32)) - (v1 / (8 : Int32)) / (((1 : Int32) <<< ((W_tables g_this_copy) &&& 31)) - (1 : Int32)) * (((1 : Int32) <<< ((W_tables g_this_copy) &&& 31)) - (1 : Int32)))) o14 e14 _) (cwV 2 hts (TB_V w_379 w_381 w_2 w_33 w_382) rfl rfl rfl ⟨rfl, nd_X8_runIn⟩ ⟨Nat.le_of_ble_eq_true rfl, Nat.le_of_ble_eq_true rfl⟩) (cPre.V hPc hDc hK hE hS hFc (va_recv hK hPc (ci := 7) (q0 := 0) rfl rfl)) rfl rfl hl.1 rfl (lv_room (Nat.le_of_ble_eq_true rfl)) dX8_takeTurn_139 ⟨Nat.zero_le _, Nat.zero_le _⟩) hPq hDq hS hFc (fun r14 u14 H locs hw hP hD hS => ?_)
        obtain ⟨rfl, rfl⟩ := hw
        have hP : va_P D vwCl (cSP a_this ++ (cW dT (a_this 5) o14.2.2.2 ++ (cP dT (a_this 8) o14.2.1 ++ (cP dT (a_this 9) o14.2.2.1)))) H := hP.perm (wj_back [cSP a_this, cP dT (a_this 8) o14.2.1, cP dT (a_this 9) o14.2.2.1, cW dT (a_this 5) o14.2.2.2] [] [0, 3, 1, 2] rfl)
        have hD : va_D A (cSP a_this ++ (cW dT (a_this 5) o14.2.2.2 ++ (cP dT (a_this 8) o14.2.1 ++ (cP dT (a_this 9) o14.2.2.1)))) := hD.perm (wj_back [cSP a_this, cP dT (a_this 8) o14.2.1, cP dT (a_this 9) o14.2.2.1, cW dT (a_this 5) o14.2.2.2] [] [0, 3, 1, 2] rfl)
        refine lv_pop hx hb dX8_takeTurn_142 rfl ?_
        exact rt_v hx hb hr hlk hK hS ((o14.2.2.2, o14.2.1, o14.2.2.1) : TW × TP × TP) (retv h) hP hD dX8_takeTurn_143
    · replace h := iteF c2 h
      exact rt_v hx hb hr hlk hK hS ((g_this_copy, g_this_chosen, g_this_other) : TW × TP × TP) (retv h) hP hD dX8_takeTurn_19

def f_X8_simulate_L24 (g_this_world : TW) (x3 : Int32) (k58 : TW → TP → TP → Option ((Nat ⊕ Int32) × (TW × TP × TP))) : Nat → Int64 → Int32 → TW → TP → TP → Option ((Nat ⊕ Int32) × (TW × TP × TP))
  | 0, _, _, _, _, _ => none
  | n + 1, x4, x6, g_this_copy, g_this_chosen, g_this_other =>
    (if x3 ≤ x6 then (k58 g_this_copy g_this_chosen g_this_other) else ((f_X8_takeTurn g_this_copy g_this_chosen g_this_other (Int64.toInt32 ((Int64.toUInt64 ((x4 * (6364136223846793005 : Int64)) + (1442695040888963407 : Int64)) >>> (Int64.toUInt64 (Int32.toInt64 (33 : Int32)) &&& Int64.toUInt64 63)).toInt64))).bind fun o4 => (f_X8_simulate_L24 g_this_world x3 k58 n ((x4 * (6364136223846793005 : Int64)) + (1442695040888963407 : Int64)) (x6 + (1 : Int32)) o4.2.1 o4.2.2.1 o4.2.2.2)))
def f_X8_simulate (g_this_world : TW) (g_this_copy : TW) (g_this_chosen : TP) (g_this_other : TP) (v1 : Int64) (v3 : Int32) : Option ((Nat ⊕ Int32) × (TW × TP × TP)) :=
  ((f_X8_needRange v3 (1 : Int32) (40 : Int32)).bind fun o1 => (fun u1 => o1.1.elim (fun k1 => (some (Sum.inl k1, (g_this_copy, g_this_chosen, g_this_other)))) (fun _ => ((f_X7_takeFrom g_this_copy g_this_world).bind fun o2 => (f_X8_simulate_L24 g_this_world v3 (fun (y5g_this_copy : TW) (y5g_this_chosen : TP) (y5g_this_other : TP) => ((f_X7_memoryCount y5g_this_copy).bind fun o6 => (some ((Sum.inr (((100 : Int32) * ((W_surprises y5g_this_copy) - (W_surprises g_this_world))) + o6.1)), (y5g_this_copy, y5g_this_chosen, y5g_this_other))))) FUEL v1 (0 : Int32) o2.2 g_this_chosen g_this_other)))) o1.2)
set_option maxHeartbeats 8000000 in
set_option maxRecDepth 100000 in
theorem c_X8_simulate (l : Launch) (hlt : l.stackTraces = false) (D : va_G) (dT : Nat → ClassId) (a_this : Nat → Nat → Nat) (g_this_world : TW) (g_this_copy : TW) (g_this_chosen : TP) (g_this_other : TP) (v1 : Int64) (v3 : Int32) (o : ((Nat ⊕ Int32) × (TW × TP × TP))) (h : f_X8_simulate g_this_world g_this_copy g_this_chosen g_this_other v1 v3 = some o) (sz : Nat) : vx_Met l yX8_simulate (WSm yX8_simulate cX8_simulate 7 (some .int)) { frames := 7, cells := 1, slots := 6, locals := 170 } (va_Pc [.ref (a_this 0 0), .long v1, .int v3] (cPre D dT (cSP a_this ++ (cW dT (a_this 4) g_this_world ++ (cW dT (a_this 5) g_this_copy ++ (cP dT (a_this 8) g_this_chosen ++ (cP dT (a_this 9) g_this_other))))) sz)) (va_Qi (fun (r : Int32) (u : TW × TP × TP) => o = (Sum.inr r, u)) (fun u t => cAt D dT (va_A (cSP a_this ++ (cW dT (a_this 4) g_this_world ++ (cW dT (a_this 5) g_this_copy ++ (cP dT (a_this 8) g_this_chosen ++ (cP dT (a_this 9) g_this_other))))) sz) (cSP a_this ++ (cW dT (a_this 4) g_this_world ++ (cW dT (a_this 5) (u.1) ++ (cP dT (a_this 8) (u.2.1) ++ (cP dT (a_this 9) (u.2.2)))))) t) (va_A (cSP a_this ++ (cW dT (a_this 4) g_this_world ++ (cW dT (a_this 5) g_this_copy ++ (cP dT (a_this 8) g_this_chosen ++ (cP dT (a_this 9) g_this_other))))) sz)) (xEnd D dT (xoP o) (fun u => (cSP a_this ++ (cW dT (a_this 4) g_this_world ++ (cW dT (a_this 5) (u.1) ++ (cP dT (a_this 8) (u.2.1) ++ (cP dT (a_this 9) (u.2.2))))))) (va_A (cSP a_this ++ (cW dT (a_this 4) g_this_world ++ (cW dT (a_this 5) g_this_copy ++ (cP dT (a_this 8) g_this_chosen ++ (cP dT (a_this 9) g_this_other))))) sz)) 1 6 (va_A (cSP a_this ++ (cW dT (a_this 4) g_this_world ++ (cW dT (a_this 5) g_this_copy ++ (cP dT (a_this 8) g_this_chosen ++ (cP dT (a_this 9) g_this_other))))) sz) := by
  refine mStartX (WS := (cSP a_this ++ (cW dT (a_this 4) g_this_world ++ (cW dT (a_this 5) g_this_copy ++ (cP dT (a_this 8) g_this_chosen ++ (cP dT (a_this 9) g_this_other)))))) (Qc := fun A => va_Qi (fun (r : Int32) (u : TW × TP × TP) => o = (Sum.inr r, u)) (fun u t => cAt D dT A (cSP a_this ++ (cW dT (a_this 4) g_this_world ++ (cW dT (a_this 5) (u.1) ++ (cP dT (a_this 8) (u.2.1) ++ (cP dT (a_this 9) (u.2.2)))))) t) A) (XC := fun A => xEnd D dT (xoP o) (fun u => (cSP a_this ++ (cW dT (a_this 4) g_this_world ++ (cW dT (a_this 5) (u.1) ++ (cP dT (a_this 8) (u.2.1) ++ (cP dT (a_this 9) (u.2.2))))))) A) RX8 rfl (by decide) (Nat.le_of_ble_eq_true rfl) ?_ sz
  intro p e s m below meth c A ls hx hb hml hr hlk hnt hts hqs hown hE hA hK hP hD hS hl
  have hl : lv_has ls 7 [(0, .ref (a_this 0 0)), (1, .long v1), (3, .int v3)] := hl
  have L_f_X8_simulate_L24 : ∀ (g_this_world : TW) (x3 : Int32) (k58 : TW → TP → TP → Option ((Nat ⊕ Int32) × (TW × TP × TP))) (hk58 : ∀ (g_this_copy : TW) (g_this_chosen : TP) (g_this_other : TP) (H : Heap) (locs : List Loc) (ls : Array Slot), k58 g_this_copy g_this_chosen g_this_other = some o → va_P D vwCl (cSP a_this ++ (cW dT (a_this 4) g_this_world ++ (cW dT (a_this 5) g_this_copy ++ (cP dT (a_this 8) g_this_chosen ++ (cP dT (a_this 9) g_this_other))))) H → va_D A (cSP a_this ++ (cW dT (a_this 4) g_this_world ++ (cW dT (a_this 5) g_this_copy ++ (cP dT (a_this 8) g_this_chosen ++ (cP dT (a_this 9) g_this_other))))) → va_S A s.heap H locs → lv_has ls 7 [(0, .ref (a_this 0 0))] → W p l e (headSpec (WSm yX8_simulate cX8_simulate 7 (some .int)) { frames := 7, cells := 1, slots := 6, locals := 170 }).room s m [.ref (a_this 0 0), .long v1, .int v3].toArray below meth c H locs 1 6 (vx_MQ below (va_Qi (fun (r : Int32) (u : TW × TP × TP) => o = (Sum.inr r, u)) (fun u t => cAt D dT A (cSP a_this ++ (cW dT (a_this 4) g_this_world ++ (cW dT (a_this 5) (u.1) ++ (cP dT (a_this 8) (u.2.1) ++ (cP dT (a_this 9) (u.2.2)))))) t) A) (xEnd D dT (xoP o) (fun u => (cSP a_this ++ (cW dT (a_this 4) g_this_world ++ (cW dT (a_this 5) (u.1) ++ (cP dT (a_this 8) (u.2.1) ++ (cP dT (a_this 9) (u.2.2))))))) A) [.ref (a_this 0 0), .long v1, .int v3].toArray s 1 6 A) (F0 m 58 ls [])) (n : Nat), ∀ (x4 : Int64) (x6 : Int32) (g_this_copy : TW) (g_this_chosen : TP) (g_this_other : TP) (H : Heap) (locs : List Loc) (ls : Array Slot), f_X8_simulate_L24 g_this_world x3 k58 n x4 x6 g_this_copy g_this_chosen g_this_other = some o → va_P D vwCl (cSP a_this ++ (cW dT (a_this 4) g_this_world ++ (cW dT (a_this 5) g_this_copy ++ (cP dT (a_this 8) g_this_chosen ++ (cP dT (a_this 9) g_this_other))))) H → va_D A (cSP a_this ++ (cW dT (a_this 4) g_this_world ++ (cW dT (a_this 5) g_this_copy ++ (cP dT (a_this 8) g_this_chosen ++ (cP dT (a_this 9) g_this_other))))) → va_S A s.heap H locs → lv_has ls 7 [(0, .ref (a_this 0 0)), (3, .int x3), (4, .long x4), (6, .int x6)] → W p l e (headSpec (WSm yX8_simulate cX8_simulate 7 (some .int)) { frames := 7, cells := 1, slots := 6, locals := 170 }).room s m [.ref (a_this 0 0), .long v1, .int v3].toArray below meth c H locs 1 6 (vx_MQ below (va_Qi (fun (r : Int32) (u : TW × TP × TP) => o = (Sum.inr r, u)) (fun u t => cAt D dT A (cSP a_this ++ (cW dT (a_this 4) g_this_world ++ (cW dT (a_this 5) (u.1) ++ (cP dT (a_this 8) (u.2.1) ++ (cP dT (a_this 9) (u.2.2)))))) t) A) (xEnd D dT (xoP o) (fun u => (cSP a_this ++ (cW dT (a_this 4) g_this_world ++ (cW dT (a_this 5) (u.1) ++ (cP dT (a_this 8) (u.2.1) ++ (cP dT (a_this 9) (u.2.2))))))) A) [.ref (a_this 0 0), .long v1, .int v3].toArray s 1 6 A) (F0 m 24 ls []) := by
    intro g_this_world x3 k58 hk58 n
    induction n with
    | zero => intro x4 x6 g_this_copy g_this_chosen g_this_other H locs ls h; exact nomatch h
    | succ n ih =>
      intro x4 x6 g_this_copy g_this_chosen g_this_other H locs ls h hP hD hS hl
      unfold f_X8_simulate_L24 at h
      refine lv_iload hx hb dX8_simulate_24 (lv_at hl 3 rfl) ?_
      refine lv_iload_n hx hb dX8_simulate_26 rfl (lv_at hl 1 rfl) ?_
      refine lv_icmp_ge (tgt := 58) hx hb dX8_simulate_27 (by decide) (fun c3 => ?_) (fun c3 => ?_)
      · replace h := iteT c3 h
        exact hk58 g_this_copy g_this_chosen g_this_other _ _ _ h hP hD hS (lv_sub hl [0] rfl)
      · replace h := iteF c3 h
        refine lv_lload hx hb dX8_simulate_30 (lv_at hl 2 rfl) ?_
        refine lv_ldc2 (v := 6364136223846793005) hx hb hown (hqs _ w_584) dX8_simulate_32 ?_
        refine lv_lmul hx hb dX8_simulate_35 ?_
        refine lv_ldc2 (v := 1442695040888963407) hx hb hown (hqs _ w_585) dX8_simulate_36 ?_
        refine lv_ladd hx hb dX8_simulate_39 ?_
        refine lv_lstore (lv' := [(4, .long ((x4 * (6364136223846793005 : Int64)) + (1442695040888963407 : Int64))), (0, .ref (a_this 0 0)), (3, .int x3), (6, .int x6)]) hx hb dX8_simulate_40 hl (by decide) rfl (fun ls hl => ?_)
        refine lv_aload_n hx hb dX8_simulate_42 rfl (lv_at hl 1 rfl) ?_
        refine lv_lload hx hb dX8_simulate_43 (lv_at hl 0 rfl) ?_
        refine lv_bipush (v := 33) hx hb dX8_simulate_45 (by decide) ?_
        refine lv_lushr hx hb dX8_simulate_47 rfl ?_
        refine lv_l2i hx hb dX8_simulate_48 rfl ?_
        obtain ⟨o4, e4, h⟩ := obind h
        have hPq : va_P D vwCl ((cSP a_this ++ (cW dT (a_this 5) g_this_copy ++ (cP dT (a_this 8) g_this_chosen ++ (cP dT (a_this 9) g_this_other)))) ++ (cW dT (a_this 4) g_this_world)) _ := hP.perm (wj_split [cSP a_this, cW dT (a_this 4) g_this_world, cW dT (a_this 5) g_this_copy, cP dT (a_this 8) g_this_chosen, cP dT (a_this 9) g_this_other] [0, 2, 3, 4] [1] rfl)
        have hDq : va_D A ((cSP a_this ++ (cW dT (a_this 5) g_this_copy ++ (cP dT (a_this 8) g_this_chosen ++ (cP dT (a_this 9) g_this_other)))) ++ (cW dT (a_this 4) g_this_world)) := hD.perm (wj_split [cSP a_this, cW dT (a_this 4) g_this_world, cW dT (a_this 5) g_this_copy, cP dT (a_this 8) g_this_chosen, cP dT (a_this 9) g_this_other] [0, 2, 3, 4] [1] rfl)
        have hPc := hPq.left
        have hDc := hDq.left
        have hFc := va_freeL hDq hS hA
        refine cl_vL (wr := (cW dT (a_this 4) g_this_world)) (va_runV (As := [.int (Int64.toInt32 ((Int64.toUInt64 ((x4 * (6364136223846793005 : Int64)) + (1442695040888963407 : Int64)) >>> (Int64.toUInt64 (Int32.toInt64 (33 : Int32)) &&& Int64.toUInt64 63)).toInt64))]) (rest := []) ⟨hx, hb, hml, hown, hts⟩ (c_X8_takeTurn l hlt D dT a_this g_this_copy g_this_chosen g_this_other (Int64.toInt32 ((Int64.toUInt64 ((x4 * (6364136223846793005 : Int64)) + (1442695040888963407 : Int64)) >>> (Int64.toUInt64 (Int32.toInt64 (33 : Int32)) &&& Int64.toUInt64 63)).toInt64)) o4 e4 _) (cwV 1 hts (TB_V w_586 w_588 w_20 w_33 w_589) rfl rfl rfl ⟨rfl, nd_X8_takeTurn⟩ ⟨Nat.le_of_ble_eq_true rfl, Nat.le_of_ble_eq_true rfl⟩) (cPre.V hPc hDc hK hE hS hFc (va_recv hK hPc (ci := 7) (q0 := 0) rfl rfl)) rfl rfl hl.1 rfl (lv_room (Nat.le_of_ble_eq_true rfl)) dX8_simulate_49 ⟨Nat.le_of_ble_eq_true rfl, Nat.le_of_ble_eq_true rfl⟩) hPq hDq hS hFc (fun u4 H locs hw hP hD hS => ?_)
        subst hw
        have hP : va_P D vwCl (cSP a_this ++ (cW dT (a_this 4) g_this_world ++ (cW dT (a_this 5) o4.2.1 ++ (cP dT (a_this 8) o4.2.2.1 ++ (cP dT (a_this 9) o4.2.2.2))))) H := hP.perm (wj_back [cSP a_this, cW dT (a_this 5) o4.2.1, cP dT (a_this 8) o4.2.2.1, cP dT (a_this 9) o4.2.2.2] [cW dT (a_this 4) g_this_world] [0, 4, 1, 2, 3] rfl)
        have hD : va_D A (cSP a_this ++ (cW dT (a_this 4) g_this_world ++ (cW dT (a_this 5) o4.2.1 ++ (cP dT (a_this 8) o4.2.2.1 ++ (cP dT (a_this 9) o4.2.2.2))))) := hD.perm (wj_back [cSP a_this, cW dT (a_this 5) o4.2.1, cP dT (a_this 8) o4.2.2.1, cP dT (a_this 9) o4.2.2.2] [cW dT (a_this 4) g_this_world] [0, 4, 1, 2, 3] rfl)
        refine lv_iinc (v := (x6 + (1 : Int32))) (lv' := [(6, .int (x6 + (1 : Int32))), (4, .long ((x4 * (6364136223846793005 : Int64)) + (1442695040888963407 : Int64))), (0, .ref (a_this 0 0)), (3, .int x3)]) hx hb dX8_simulate_52 hl (k := 3) rfl rfl (by decide) rfl (fun ls hl => ?_)
        refine lv_goto (tgt := 24) hx hb dX8_simulate_55 (by decide) ?_
        exact ih ((x4 * (6364136223846793005 : Int64)) + (1442695040888963407 : Int64)) (x6 + (1 : Int32)) o4.2.1 o4.2.2.1 o4.2.2.2 _ _ _ h hP hD hS (lv_sub hl [2, 3, 1, 0] rfl)
  unfold f_X8_simulate at h
  refine lv_iload_n hx hb dX8_simulate_0 rfl (lv_at hl 2 rfl) ?_
  refine lv_iconst (v := 1) hx hb dX8_simulate_1 (by decide) ?_
  refine lv_bipush (v := 40) hx hb dX8_simulate_2 (by decide) ?_
  obtain ⟨o1, e1, h⟩ := obind h
  have hPq : va_P D vwCl (([] : va_W) ++ (cSP a_this ++ (cW dT (a_this 4) g_this_world ++ (cW dT (a_this 5) g_this_copy ++ (cP dT (a_this 8) g_this_chosen ++ (cP dT (a_this 9) g_this_other)))))) _ := hP.perm (wj_split [cSP a_this, cW dT (a_this 4) g_this_world, cW dT (a_this 5) g_this_copy, cP dT (a_this 8) g_this_chosen, cP dT (a_this 9) g_this_other] [] [0, 1, 2, 3, 4] rfl)
  have hDq : va_D A (([] : va_W) ++ (cSP a_this ++ (cW dT (a_this 4) g_this_world ++ (cW dT (a_this 5) g_this_copy ++ (cP dT (a_this 8) g_this_chosen ++ (cP dT (a_this 9) g_this_other)))))) := hD.perm (wj_split [cSP a_this, cW dT (a_this 4) g_this_world, cW dT (a_this 5) g_this_copy, cP dT (a_this 8) g_this_chosen, cP dT (a_this 9) g_this_other] [] [0, 1, 2, 3, 4] rfl)
  have hPc := hPq.left
  have hDc := hDq.left
  have hFc := va_freeL hDq hS hA
  refine xcl_vL (wr := (cSP a_this ++ (cW dT (a_this 4) g_this_world ++ (cW dT (a_this 5) g_this_copy ++ (cP dT (a_this 8) g_this_chosen ++ (cP dT (a_this 9) g_this_other)))))) (vx_runS (As := [.int v3, .int (1 : Int32), .int (40 : Int32)]) (rest := []) ⟨hx, hb, hml, hown, hts⟩ (c_X8_needRange l hlt D dT v3 (1 : Int32) (40 : Int32) o1 e1 _) (va_cwS 3 hts (TB_S w_287 w_288 w_33 w_289) rfl rfl rfl nd_X8_needRange ⟨Nat.le_of_ble_eq_true rfl, Nat.le_of_ble_eq_true rfl⟩) (cPre.S hPc hDc hK hE hS hFc) rfl rfl hl.1 rfl (lv_room (Nat.le_of_ble_eq_true rfl)) dX8_simulate_4 ⟨Nat.le_of_ble_eq_true rfl, Nat.le_of_ble_eq_true rfl⟩) hPq hDq hS hFc (fun k1 u1 E1 ce1 q1 H locs hw hEk hP hD hS hxc hxv hxl => ?_) (fun u1 H locs hw hP hD hS => ?_)
  · have hw := xoP_inv hw
    subst hw
    have hP : va_P D vwCl (cSP a_this ++ (cW dT (a_this 4) g_this_world ++ (cW dT (a_this 5) g_this_copy ++ (cP dT (a_this 8) g_this_chosen ++ (cP dT (a_this 9) g_this_other))))) H := hP.perm (wj_back [] [cSP a_this, cW dT (a_this 4) g_this_world, cW dT (a_this 5) g_this_copy, cP dT (a_this 8) g_this_chosen, cP dT (a_this 9) g_this_other] [0, 1, 2, 3, 4] rfl)
    have hD : va_D A (cSP a_this ++ (cW dT (a_this 4) g_this_world ++ (cW dT (a_this 5) g_this_copy ++ (cP dT (a_this 8) g_this_chosen ++ (cP dT (a_this 9) g_this_other))))) := hD.perm (wj_back [] [cSP a_this, cW dT (a_this 4) g_this_world, cW dT (a_this 5) g_this_copy, cP dT (a_this 8) g_this_chosen, cP dT (a_this 9) g_this_other] [0, 1, 2, 3, 4] rfl)
    exact xo_S hlk hnt hK hS hEk hxc hxv hxl ((g_this_copy, g_this_chosen, g_this_other) : TW × TP × TP) (xoP_of h) hP hD rfl rfl
  subst hw
  replace h := sumR h
  have hP : va_P D vwCl (cSP a_this ++ (cW dT (a_this 4) g_this_world ++ (cW dT (a_this 5) g_this_copy ++ (cP dT (a_this 8) g_this_chosen ++ (cP dT (a_this 9) g_this_other))))) H := hP.perm (wj_back [] [cSP a_this, cW dT (a_this 4) g_this_world, cW dT (a_this 5) g_this_copy, cP dT (a_this 8) g_this_chosen, cP dT (a_this 9) g_this_other] [0, 1, 2, 3, 4] rfl)
  have hD : va_D A (cSP a_this ++ (cW dT (a_this 4) g_this_world ++ (cW dT (a_this 5) g_this_copy ++ (cP dT (a_this 8) g_this_chosen ++ (cP dT (a_this 9) g_this_other))))) := hD.perm (wj_back [] [cSP a_this, cW dT (a_this 4) g_this_world, cW dT (a_this 5) g_this_copy, cP dT (a_this 8) g_this_chosen, cP dT (a_this 9) g_this_other] [0, 1, 2, 3, 4] rfl)
  refine lv_aload_n hx hb dX8_simulate_7 rfl (lv_at hl 0 rfl) ?_
  refine gf_X8_37 (v := .ref ((a_this 5) 0)) hx hb hqs hown hK hP 0 rfl rfl dX8_simulate_8 ?_
  refine lv_aload_n hx hb dX8_simulate_11 rfl (lv_at hl 0 rfl) ?_
  refine gf_X8_33 (v := .ref ((a_this 4) 0)) hx hb hqs hown hK hP 0 rfl rfl dX8_simulate_12 ?_
  obtain ⟨o2, e2, h⟩ := obind h
  have hPq : va_P D vwCl ((cW dT (a_this 5) g_this_copy ++ (cW dT (a_this 4) g_this_world)) ++ (cSP a_this ++ (cP dT (a_this 8) g_this_chosen ++ (cP dT (a_this 9) g_this_other)))) _ := hP.perm (wj_split [cSP a_this, cW dT (a_this 4) g_this_world, cW dT (a_this 5) g_this_copy, cP dT (a_this 8) g_this_chosen, cP dT (a_this 9) g_this_other] [2, 1] [0, 3, 4] rfl)
  have hDq : va_D A ((cW dT (a_this 5) g_this_copy ++ (cW dT (a_this 4) g_this_world)) ++ (cSP a_this ++ (cP dT (a_this 8) g_this_chosen ++ (cP dT (a_this 9) g_this_other)))) := hD.perm (wj_split [cSP a_this, cW dT (a_this 4) g_this_world, cW dT (a_this 5) g_this_copy, cP dT (a_this 8) g_this_chosen, cP dT (a_this 9) g_this_other] [2, 1] [0, 3, 4] rfl)
  have hPc := hPq.left
  have hDc := hDq.left
  have hFc := va_freeL hDq hS hA
  refine cl_vL (wr := (cSP a_this ++ (cP dT (a_this 8) g_this_chosen ++ (cP dT (a_this 9) g_this_other)))) (va_runV (As := [.ref ((a_this 4) 0)]) (rest := []) ⟨hx, hb, hml, hown, hts⟩ (c_X7_takeFrom l hlt D dT (a_this 5) (a_this 4) g_this_copy g_this_world o2 e2 _) (cwV 1 hts (TB_V w_363 w_364 w_365 w_38 w_366) rfl rfl rfl ⟨rfl, nd_X7_takeFrom⟩ ⟨Nat.le_of_ble_eq_true rfl, Nat.le_of_ble_eq_true rfl⟩) (cPre.V hPc hDc hK hE hS hFc (va_recv hK hPc (ci := 6) (q0 := 0) rfl rfl)) rfl rfl hl.1 rfl (lv_room (Nat.le_of_ble_eq_true rfl)) dX8_simulate_15 ⟨Nat.le_of_ble_eq_true rfl, Nat.le_of_ble_eq_true rfl⟩) hPq hDq hS hFc (fun u2 H locs hw hP hD hS => ?_)
  subst hw
  have hP : va_P D vwCl (cSP a_this ++ (cW dT (a_this 4) g_this_world ++ (cW dT (a_this 5) o2.2 ++ (cP dT (a_this 8) g_this_chosen ++ (cP dT (a_this 9) g_this_other))))) H := hP.perm (wj_back [cW dT (a_this 5) o2.2, cW dT (a_this 4) g_this_world] [cSP a_this, cP dT (a_this 8) g_this_chosen, cP dT (a_this 9) g_this_other] [2, 1, 0, 3, 4] rfl)
  have hD : va_D A (cSP a_this ++ (cW dT (a_this 4) g_this_world ++ (cW dT (a_this 5) o2.2 ++ (cP dT (a_this 8) g_this_chosen ++ (cP dT (a_this 9) g_this_other))))) := hD.perm (wj_back [cW dT (a_this 5) o2.2, cW dT (a_this 4) g_this_world] [cSP a_this, cP dT (a_this 8) g_this_chosen, cP dT (a_this 9) g_this_other] [2, 1, 0, 3, 4] rfl)
  refine lv_lload_n hx hb dX8_simulate_18 rfl (lv_at hl 1 rfl) ?_
  refine lv_lstore (lv' := [(4, .long v1), (0, .ref (a_this 0 0)), (1, .long v1), (3, .int v3)]) hx hb dX8_simulate_19 hl (by decide) rfl (fun ls hl => ?_)
  refine lv_iconst (v := 0) hx hb dX8_simulate_21 (by decide) ?_
  refine lv_istore (lv' := [(6, .int (0 : Int32)), (4, .long v1), (0, .ref (a_this 0 0)), (1, .long v1), (3, .int v3)]) hx hb dX8_simulate_22 hl (by decide) rfl (fun ls hl => ?_)
  refine L_f_X8_simulate_L24 g_this_world v3 _ ?_ FUEL v1 (0 : Int32) o2.2 g_this_chosen g_this_other _ _ _ h hP hD hS (lv_sub hl [2, 4, 1, 0] rfl)
  · intro y5g_this_copy y5g_this_chosen y5g_this_other H locs ls h hP hD hS hl
    refine lv_bipush (v := 100) hx hb dX8_simulate_58 (by decide) ?_
    refine lv_aload_n hx hb dX8_simulate_60 rfl (lv_at hl 0 rfl) ?_
    refine gf_X8_37 (v := .ref ((a_this 5) 0)) hx hb hqs hown hK hP 0 rfl rfl dX8_simulate_61 ?_
    refine gf_X8_278 (v := .int (W_surprises y5g_this_copy)) hx hb hqs hown hK hP 11 rfl rfl dX8_simulate_64 ?_
    refine lv_aload_n hx hb dX8_simulate_67 rfl (lv_at hl 0 rfl) ?_
    refine gf_X8_33 (v := .ref ((a_this 4) 0)) hx hb hqs hown hK hP 0 rfl rfl dX8_simulate_68 ?_
    refine gf_X8_278 (v := .int (W_surprises g_this_world)) hx hb hqs hown hK hP 1 rfl rfl dX8_simulate_71 ?_
    refine lv_isub hx hb dX8_simulate_74 ?_
    refine lv_imul hx hb dX8_simulate_75 ?_
    refine lv_aload_n hx hb dX8_simulate_76 rfl (lv_at hl 0 rfl) ?_
    refine gf_X8_37 (v := .ref ((a_this 5) 0)) hx hb hqs hown hK hP 0 rfl rfl dX8_simulate_77 ?_
    obtain ⟨o6, e6, h⟩ := obind h
    have hPq : va_P D vwCl ((cW dT (a_this 5) y5g_this_copy) ++ (cSP a_this ++ (cW dT (a_this 4) g_this_world ++ (cP dT (a_this 8) y5g_this_chosen ++ (cP dT (a_this 9) y5g_this_other))))) _ := hP.perm (wj_split [cSP a_this, cW dT (a_this 4) g_this_world, cW dT (a_this 5) y5g_this_copy, cP dT (a_this 8) y5g_this_chosen, cP dT (a_this 9) y5g_this_other] [2] [0, 1, 3, 4] rfl)
    have hDq : va_D A ((cW dT (a_this 5) y5g_this_copy) ++ (cSP a_this ++ (cW dT (a_this 4) g_this_world ++ (cP dT (a_this 8) y5g_this_chosen ++ (cP dT (a_this 9) y5g_this_other))))) := hD.perm (wj_split [cSP a_this, cW dT (a_this 4) g_this_world, cW dT (a_this 5) y5g_this_copy, cP dT (a_this 8) y5g_this_chosen, cP dT (a_this 9) y5g_this_other] [2] [0, 1, 3, 4] rfl)
    have hPc := hPq.left
    have hDc := hDq.left
    have hFc := va_freeL hDq hS hA
    refine cl_iL (wr := (cSP a_this ++ (cW dT (a_this 4) g_this_world ++ (cP dT (a_this 8) y5g_this_chosen ++ (cP dT (a_this 9) y5g_this_other))))) (va_runV (As := []) (rest := [.int ((100 : Int32) * ((W_surprises y5g_this_copy) - (W_surprises g_this_world)))]) ⟨hx, hb, hml, hown, hts⟩ (c_X7_memoryCount l hlt D dT (a_this 5) y5g_this_copy o6 e6 _) (cwV 0 hts (TB_V w_590 w_515 w_516 w_38 w_517) rfl rfl rfl ⟨rfl, nd_X7_memoryCount⟩ ⟨Nat.le_of_ble_eq_true rfl, Nat.le_of_ble_eq_true rfl⟩) (cPre.V hPc hDc hK hE hS hFc (va_recv hK hPc (ci := 6) (q0 := 0) rfl rfl)) rfl rfl hl.1 rfl (lv_room (Nat.le_of_ble_eq_true rfl)) dX8_simulate_80 ⟨Nat.le_of_ble_eq_true rfl, Nat.le_of_ble_eq_true rfl⟩) hPq hDq hS hFc (fun r6 u6 H locs hw hP hD hS => ?_)
    obtain ⟨rfl, rfl⟩ := hw
    have hP : va_P D vwCl (cSP a_this ++ (cW dT (a_this 4) g_this_world ++ (cW dT (a_this 5) y5g_this_copy ++ (cP dT (a_this 8) y5g_this_chosen ++ (cP dT (a_this 9) y5g_this_other))))) H := hP.perm (wj_back [cW dT (a_this 5) y5g_this_copy] [cSP a_this, cW dT (a_this 4) g_this_world, cP dT (a_this 8) y5g_this_chosen, cP dT (a_this 9) y5g_this_other] [1, 2, 0, 3, 4] rfl)
    have hD : va_D A (cSP a_this ++ (cW dT (a_this 4) g_this_world ++ (cW dT (a_this 5) y5g_this_copy ++ (cP dT (a_this 8) y5g_this_chosen ++ (cP dT (a_this 9) y5g_this_other))))) := hD.perm (wj_back [cW dT (a_this 5) y5g_this_copy] [cSP a_this, cW dT (a_this 4) g_this_world, cP dT (a_this 8) y5g_this_chosen, cP dT (a_this 9) y5g_this_other] [1, 2, 0, 3, 4] rfl)
    refine lv_iadd hx hb dX8_simulate_83 ?_
    exact vx_ret (rt_i hx hb hr hlk hK hS ((y5g_this_copy, y5g_this_chosen, y5g_this_other) : TW × TP × TP) (Option.some.inj h).symm hP hD dX8_simulate_84)

def f_X8_needSlot (v0 : Int32) : Option ((Nat ⊕ Unit) × (Unit)) :=
  ((f_X8_isIn v0 (0 : Int32) (1 : Int32)).bind fun o1 => (if o1.1 = (0 : Int32) then (some (Sum.inl 2, ())) else (some ((Sum.inr ()), ()))))
set_option maxHeartbeats 8000000 in
set_option maxRecDepth 100000 in
theorem c_X8_needSlot (l : Launch) (hlt : l.stackTraces = false) (D : va_G) (dT : Nat → ClassId) (v0 : Int32) (o : ((Nat ⊕ Unit) × (Unit))) (h : f_X8_needSlot v0 = some o) (sz : Nat) : vx_Met l yX8_needSlot (WSm yX8_needSlot cX8_needSlot 1 none) { frames := 6, cells := 1, slots := 6, locals := 90 } (va_Pc [.int v0] (cPre D dT ([] : va_W) sz)) (va_Qv (fun (u : Unit) => o = (Sum.inr (), u)) (fun u t => cAt D dT (va_A ([] : va_W) sz) ([] : va_W) t) (va_A ([] : va_W) sz)) (xEnd D dT (xoP o) (fun u => ([] : va_W)) (va_A ([] : va_W) sz)) 1 6 (va_A ([] : va_W) sz) := by
  refine mStartX (WS := ([] : va_W)) (Qc := fun A => va_Qv (fun (u : Unit) => o = (Sum.inr (), u)) (fun u t => cAt D dT A ([] : va_W) t) A) (XC := fun A => xEnd D dT (xoP o) (fun u => ([] : va_W)) A) RX8 rfl (by decide) (Nat.le_of_ble_eq_true rfl) ?_ sz
  intro p e s m below meth c A ls hx hb hml hr hlk hnt hts hqs hown hE hA hK hP hD hS hl
  have hl : lv_has ls 1 [(0, .int v0)] := hl
  unfold f_X8_needSlot at h
  refine lv_iload_n hx hb dX8_needSlot_0 rfl (lv_at hl 0 rfl) ?_
  refine lv_iconst (v := 0) hx hb dX8_needSlot_1 (by decide) ?_
  refine lv_iconst (v := 1) hx hb dX8_needSlot_2 (by decide) ?_
  obtain ⟨o1, e1, h⟩ := obind h
  have hPc := hP
  have hDc := hD
  have hFc := vfall hD hS hA
  refine cl_iA (va_runS (As := [.int v0, .int (0 : Int32), .int (1 : Int32)]) (rest := []) ⟨hx, hb, hml, hown, hts⟩ (c_X8_isIn l hlt D dT v0 (0 : Int32) (1 : Int32) o1 e1 _) (va_cwS 3 hts (TB_S w_290 w_291 w_33 w_292) rfl rfl rfl nd_X8_isIn ⟨Nat.le_of_ble_eq_true rfl, Nat.le_of_ble_eq_true rfl⟩) (cPre.S hPc hDc hK hE hS hFc) rfl rfl hl.1 rfl (lv_room (Nat.le_of_ble_eq_true rfl)) dX8_needSlot_3 ⟨Nat.zero_le _, Nat.zero_le _⟩) hS hFc (fun r1 u1 H locs hw hP hD hS => ?_)
  obtain ⟨rfl, rfl⟩ := hw
  have hP : va_P D vwCl ([] : va_W) H := hP
  have hD : va_D A ([] : va_W) := hD
  refine lv_if_ne (tgt := 20) hx hb dX8_needSlot_6 (by decide) (fun c2 => ?_) (fun c2 => ?_)
  · replace h := iteF c2 h
    refine W.widen (k := 1) (n := 6) (Nat.le_of_ble_eq_true rfl) (Nat.le_of_ble_eq_true rfl) ?_
    exact vx_ret (rt_v hx hb hr hlk hK hS (() : Unit) (Option.some.inj h).symm hP hD dX8_needSlot_20)
  · replace h := iteT c2 h
    exact th_W (k := 2) exOkB rfl (List.mem_of_getElem? (i := 14) rfl) hlt hx hb (hl.1.trans hml.symm) hlk hnt hqs hown hE hK hS (() : Unit) (xoP_of h) hP hD rfl rfl rfl rfl rfl rfl dX8_needSlot_9 dX8_needSlot_12 dX8_needSlot_13 dX8_needSlot_16 dX8_needSlot_19

def f_X8_save (g_this_world : TW) (g_this_slots : TS) (v1 : Int32) : Option ((Nat ⊕ Int32) × (TS)) :=
  ((f_X8_needSlot v1).bind fun o1 => (fun u1 => o1.1.elim (fun k1 => (some (Sum.inl k1, g_this_slots))) (fun _ => ((f_X5_put g_this_slots g_this_world v1).bind fun o2 => (some ((Sum.inr (W_weeks g_this_world)), o2.2))))) o1.2)
set_option maxHeartbeats 8000000 in
set_option maxRecDepth 100000 in
theorem c_X8_save (l : Launch) (hlt : l.stackTraces = false) (D : va_G) (dT : Nat → ClassId) (a_this : Nat → Nat → Nat) (g_this_world : TW) (g_this_slots : TS) (v1 : Int32) (o : ((Nat ⊕ Int32) × (TS))) (h : f_X8_save g_this_world g_this_slots v1 = some o) (sz : Nat) : vx_Met l yX8_save (WSm yX8_save cX8_save 2 (some .int)) { frames := 7, cells := 1, slots := 6, locals := 110 } (va_Pc [.ref (a_this 0 0), .int v1] (cPre D dT (cSP a_this ++ (cW dT (a_this 4) g_this_world ++ (cS dT (a_this 7) g_this_slots))) sz)) (va_Qi (fun (r : Int32) (u : TS) => o = (Sum.inr r, u)) (fun u t => cAt D dT (va_A (cSP a_this ++ (cW dT (a_this 4) g_this_world ++ (cS dT (a_this 7) g_this_slots))) sz) (cSP a_this ++ (cW dT (a_this 4) g_this_world ++ (cS dT (a_this 7) u))) t) (va_A (cSP a_this ++ (cW dT (a_this 4) g_this_world ++ (cS dT (a_this 7) g_this_slots))) sz)) (xEnd D dT (xoP o) (fun u => (cSP a_this ++ (cW dT (a_this 4) g_this_world ++ (cS dT (a_this 7) u)))) (va_A (cSP a_this ++ (cW dT (a_this 4) g_this_world ++ (cS dT (a_this 7) g_this_slots))) sz)) 1 6 (va_A (cSP a_this ++ (cW dT (a_this 4) g_this_world ++ (cS dT (a_this 7) g_this_slots))) sz) := by
  refine mStartX (WS := (cSP a_this ++ (cW dT (a_this 4) g_this_world ++ (cS dT (a_this 7) g_this_slots)))) (Qc := fun A => va_Qi (fun (r : Int32) (u : TS) => o = (Sum.inr r, u)) (fun u t => cAt D dT A (cSP a_this ++ (cW dT (a_this 4) g_this_world ++ (cS dT (a_this 7) u))) t) A) (XC := fun A => xEnd D dT (xoP o) (fun u => (cSP a_this ++ (cW dT (a_this 4) g_this_world ++ (cS dT (a_this 7) u)))) A) RX8 rfl (by decide) (Nat.le_of_ble_eq_true rfl) ?_ sz
  intro p e s m below meth c A ls hx hb hml hr hlk hnt hts hqs hown hE hA hK hP hD hS hl
  have hl : lv_has ls 2 [(0, .ref (a_this 0 0)), (1, .int v1)] := hl
  unfold f_X8_save at h
  refine lv_iload_n hx hb dX8_save_0 rfl (lv_at hl 1 rfl) ?_
  obtain ⟨o1, e1, h⟩ := obind h
  have hPq : va_P D vwCl (([] : va_W) ++ (cSP a_this ++ (cW dT (a_this 4) g_this_world ++ (cS dT (a_this 7) g_this_slots)))) _ := hP.perm (wj_split [cSP a_this, cW dT (a_this 4) g_this_world, cS dT (a_this 7) g_this_slots] [] [0, 1, 2] rfl)
  have hDq : va_D A (([] : va_W) ++ (cSP a_this ++ (cW dT (a_this 4) g_this_world ++ (cS dT (a_this 7) g_this_slots)))) := hD.perm (wj_split [cSP a_this, cW dT (a_this 4) g_this_world, cS dT (a_this 7) g_this_slots] [] [0, 1, 2] rfl)
  have hPc := hPq.left
  have hDc := hDq.left
  have hFc := va_freeL hDq hS hA
  refine xcl_vL (wr := (cSP a_this ++ (cW dT (a_this 4) g_this_world ++ (cS dT (a_this 7) g_this_slots)))) (vx_runS (As := [.int v1]) (rest := []) ⟨hx, hb, hml, hown, hts⟩ (c_X8_needSlot l hlt D dT v1 o1 e1 _) (va_cwS 1 hts (TB_S w_951 w_952 w_33 w_953) rfl rfl rfl nd_X8_needSlot ⟨Nat.le_of_ble_eq_true rfl, Nat.le_of_ble_eq_true rfl⟩) (cPre.S hPc hDc hK hE hS hFc) rfl rfl hl.1 rfl (lv_room (Nat.le_of_ble_eq_true rfl)) dX8_save_1 ⟨Nat.le_of_ble_eq_true rfl, Nat.le_of_ble_eq_true rfl⟩) hPq hDq hS hFc (fun k1 u1 E1 ce1 q1 H locs hw hEk hP hD hS hxc hxv hxl => ?_) (fun u1 H locs hw hP hD hS => ?_)
  · have hw := xoP_inv hw
    subst hw
    have hP : va_P D vwCl (cSP a_this ++ (cW dT (a_this 4) g_this_world ++ (cS dT (a_this 7) g_this_slots))) H := hP.perm (wj_back [] [cSP a_this, cW dT (a_this 4) g_this_world, cS dT (a_this 7) g_this_slots] [0, 1, 2] rfl)
    have hD : va_D A (cSP a_this ++ (cW dT (a_this 4) g_this_world ++ (cS dT (a_this 7) g_this_slots))) := hD.perm (wj_back [] [cSP a_this, cW dT (a_this 4) g_this_world, cS dT (a_this 7) g_this_slots] [0, 1, 2] rfl)
    exact xo_S hlk hnt hK hS hEk hxc hxv hxl (g_this_slots : TS) (xoP_of h) hP hD rfl rfl
  subst hw
  replace h := sumR h
  have hP : va_P D vwCl (cSP a_this ++ (cW dT (a_this 4) g_this_world ++ (cS dT (a_this 7) g_this_slots))) H := hP.perm (wj_back [] [cSP a_this, cW dT (a_this 4) g_this_world, cS dT (a_this 7) g_this_slots] [0, 1, 2] rfl)
  have hD : va_D A (cSP a_this ++ (cW dT (a_this 4) g_this_world ++ (cS dT (a_this 7) g_this_slots))) := hD.perm (wj_back [] [cSP a_this, cW dT (a_this 4) g_this_world, cS dT (a_this 7) g_this_slots] [0, 1, 2] rfl)
  refine lv_aload_n hx hb dX8_save_4 rfl (lv_at hl 0 rfl) ?_
  refine gf_X8_50 (v := .ref ((a_this 7) 0)) hx hb hqs hown hK hP 0 rfl rfl dX8_save_5 ?_
  refine lv_iload_n hx hb dX8_save_8 rfl (lv_at hl 1 rfl) ?_
  refine lv_aload_n hx hb dX8_save_9 rfl (lv_at hl 0 rfl) ?_
  refine gf_X8_33 (v := .ref ((a_this 4) 0)) hx hb hqs hown hK hP 0 rfl rfl dX8_save_10 ?_
  obtain ⟨o2, e2, h⟩ := obind h
  have hPq : va_P D vwCl ((cS dT (a_this 7) g_this_slots ++ (cW dT (a_this 4) g_this_world)) ++ (cSP a_this)) _ := hP.perm (wj_split [cSP a_this, cW dT (a_this 4) g_this_world, cS dT (a_this 7) g_this_slots] [2, 1] [0] rfl)
  have hDq : va_D A ((cS dT (a_this 7) g_this_slots ++ (cW dT (a_this 4) g_this_world)) ++ (cSP a_this)) := hD.perm (wj_split [cSP a_this, cW dT (a_this 4) g_this_world, cS dT (a_this 7) g_this_slots] [2, 1] [0] rfl)
  have hPc := hPq.left
  have hDc := hDq.left
  have hFc := va_freeL hDq hS hA
  refine cl_vL (wr := (cSP a_this)) (va_runV (As := [.int v1, .ref ((a_this 4) 0)]) (rest := []) ⟨hx, hb, hml, hown, hts⟩ (c_X5_put l hlt D dT (a_this 7) (a_this 4) g_this_slots g_this_world v1 o2 e2 _) (cwV 2 hts (TB_V w_955 w_956 w_957 w_40 w_958) rfl rfl rfl ⟨rfl, nd_X5_put⟩ ⟨Nat.le_of_ble_eq_true rfl, Nat.le_of_ble_eq_true rfl⟩) (cPre.V hPc hDc hK hE hS hFc (va_recv hK hPc (ci := 4) (q0 := 0) rfl rfl)) rfl rfl hl.1 rfl (lv_room (Nat.le_of_ble_eq_true rfl)) dX8_save_13 ⟨Nat.le_of_ble_eq_true rfl, Nat.le_of_ble_eq_true rfl⟩) hPq hDq hS hFc (fun u2 H locs hw hP hD hS => ?_)
  subst hw
  have hP : va_P D vwCl (cSP a_this ++ (cW dT (a_this 4) g_this_world ++ (cS dT (a_this 7) o2.2))) H := hP.perm (wj_back [cS dT (a_this 7) o2.2, cW dT (a_this 4) g_this_world] [cSP a_this] [2, 1, 0] rfl)
  have hD : va_D A (cSP a_this ++ (cW dT (a_this 4) g_this_world ++ (cS dT (a_this 7) o2.2))) := hD.perm (wj_back [cS dT (a_this 7) o2.2, cW dT (a_this 4) g_this_world] [cSP a_this] [2, 1, 0] rfl)
  refine lv_aload_n hx hb dX8_save_16 rfl (lv_at hl 0 rfl) ?_
  refine gf_X8_33 (v := .ref ((a_this 4) 0)) hx hb hqs hown hK hP 0 rfl rfl dX8_save_17 ?_
  refine gf_X8_291 (v := .int (W_weeks g_this_world)) hx hb hqs hown hK hP 1 rfl rfl dX8_save_20 ?_
  exact vx_ret (rt_i hx hb hr hlk hK hS (o2.2 : TS) (Option.some.inj h).symm hP hD dX8_save_23)

