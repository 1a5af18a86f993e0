def f_L_tryLink (g_p1_world : TW) (g_p1_history : TH) (v1 : Int32) (v2 : Int32) (v3 : Int32) (v4 : Int32) : Option (Int32 × (TW × TH)) :=
  ((f_X8_link g_p1_world g_p1_history v1 v2 v3 v4).bind fun o1 => (fun u1 => o1.1.elim (fun k1 => (if k1 = 2 then (some ((-9999001 : Int32), (u1.1, u1.2))) else (if k1 = 0 then (some ((-9999002 : Int32), (u1.1, u1.2))) else none))) (fun r1 => (some (r1, (u1.1, u1.2))))) o1.2)
set_option maxHeartbeats 8000000 in
set_option maxRecDepth 100000 in
theorem c_L_tryLink (l : Launch) (hlt : l.stackTraces = false) (D : va_G) (dT : Nat → ClassId) (a_p1 : Nat → Nat → Nat) (g_p1_world : TW) (g_p1_history : TH) (v1 : Int32) (v2 : Int32) (v3 : Int32) (v4 : Int32) (o : (Int32 × (TW × TH))) (h : f_L_tryLink g_p1_world g_p1_history v1 v2 v3 v4 = some o) (sz : Nat) : Met l yL_tryLink (Cond.codeWith yL_tryLink cL_tryLink 6 (some .int) [(0, 9, 10, 13), (0, 9, 15, 16)] :: TB) { frames := 9, cells := 5, slots := 30, locals := 157 } (va_Pc [.ref (a_p1 0 0), .int v1, .int v2, .int v3, .int v4] (cPre D dT (cSP a_p1 ++ (cW dT (a_p1 4) g_p1_world ++ (cH dT (a_p1 6) g_p1_history))) sz)) (va_Qi (fun (r : Int32) (u : TW × TH) => r = o.1 ∧ u = o.2) (fun u t => cAt D dT (va_A (cSP a_p1 ++ (cW dT (a_p1 4) g_p1_world ++ (cH dT (a_p1 6) g_p1_history))) sz) (cSP a_p1 ++ (cW dT (a_p1 4) (u.1) ++ (cH dT (a_p1 6) (u.2)))) t) (va_A (cSP a_p1 ++ (cW dT (a_p1 4) g_p1_world ++ (cH dT (a_p1 6) g_p1_history))) sz)) 5 30 (va_A (cSP a_p1 ++ (cW dT (a_p1 4) g_p1_world ++ (cH dT (a_p1 6) g_p1_history))) sz) := by
  refine mStartH (WS := (cSP a_p1 ++ (cW dT (a_p1 4) g_p1_world ++ (cH dT (a_p1 6) g_p1_history)))) (Qc := fun A => va_Qi (fun (r : Int32) (u : TW × TH) => r = o.1 ∧ u = o.2) (fun u t => cAt D dT A (cSP a_p1 ++ (cW dT (a_p1 4) (u.1) ++ (cH dT (a_p1 6) (u.2)))) t) A) RL rfl (by decide) (Nat.le_of_ble_eq_true rfl) ?_ sz
  intro p e s m below meth c A ls hx hb hml hr hlk htab hts hqs hown hE hA hK hP hD hS hl
  have hl : lv_has ls 6 [(0, .ref (a_p1 0 0)), (1, .int v1), (2, .int v2), (3, .int v3), (4, .int v4)] := hl
  unfold f_L_tryLink at h
  refine lv_aload_n hx hb dL_tryLink_0 rfl (lv_at hl 0 rfl) ?_
  refine lv_iload_n hx hb dL_tryLink_1 rfl (lv_at hl 1 rfl) ?_
  refine lv_iload_n hx hb dL_tryLink_2 rfl (lv_at hl 2 rfl) ?_
  refine lv_iload_n hx hb dL_tryLink_3 rfl (lv_at hl 3 rfl) ?_
  refine lv_iload hx hb dL_tryLink_4 (lv_at hl 4 rfl) ?_
  obtain ⟨o1, e1, h⟩ := obind h
  have hPq : va_P D vwCl ((cSP a_p1 ++ (cW dT (a_p1 4) g_p1_world ++ (cH dT (a_p1 6) g_p1_history))) ++ ([] : va_W)) _ := hP.perm (wj_split [cSP a_p1, cW dT (a_p1 4) g_p1_world, cH dT (a_p1 6) g_p1_history] [0, 1, 2] [] rfl)
  have hDq : va_D A ((cSP a_p1 ++ (cW dT (a_p1 4) g_p1_world ++ (cH dT (a_p1 6) g_p1_history))) ++ ([] : va_W)) := hD.perm (wj_split [cSP a_p1, cW dT (a_p1 4) g_p1_world, cH dT (a_p1 6) g_p1_history] [0, 1, 2] [] rfl)
  have hPc := hPq.left
  have hDc := hDq.left
  have hFc := va_freeL hDq hS hA
  refine xcl_iL (wr := ([] : va_W)) (vx_runV (As := [.int v1, .int v2, .int v3, .int v4]) (rest := []) ⟨hx, hb, hml, hown, hts⟩ (c_X8_link l hlt D dT a_p1 g_p1_world g_p1_history v1 v2 v3 v4 o1 e1 _) (cwV 4 hts (TB_V w_993 w_994 w_995 w_33 w_996) rfl rfl rfl ⟨rfl, nd_X8_link⟩ ⟨Nat.le_of_ble_eq_true rfl, Nat.le_of_ble_eq_true rfl⟩) (cPre.V hPc hDc hK hE hS hFc (va_recv hK hPc (ci := 7) (q0 := 0) rfl rfl)) rfl rfl hl.1 rfl (lv_room (Nat.le_of_ble_eq_true rfl)) dL_tryLink_6 ⟨Nat.le_of_ble_eq_true rfl, Nat.le_of_ble_eq_true rfl⟩) hPq hDq hS hFc (fun k1 u1 E1 ce1 q1 H locs hw hEk hP hD hS hxc hxv hxl => ?_) (fun r1 u1 H locs hw hP hD hS => ?_)
  · have hw := xoP_inv hw
    subst hw
    have hP : va_P D vwCl (cSP a_p1 ++ (cW dT (a_p1 4) u1.1 ++ (cH dT (a_p1 6) u1.2))) H := hP.perm (wj_back [cSP a_p1, cW dT (a_p1 4) u1.1, cH dT (a_p1 6) u1.2] [] [0, 1, 2] rfl)
    have hD : va_D A (cSP a_p1 ++ (cW dT (a_p1 4) u1.1 ++ (cH dT (a_p1 6) u1.2))) := hD.perm (wj_back [cSP a_p1, cW dT (a_p1 4) u1.1, cH dT (a_p1 6) u1.2] [] [0, 1, 2] rfl)
    by_cases c2 : k1 = 2
    · replace h := iteT c2 h
      subst c2
      have hEk : E1 = EXB := hEk
      refine vx_catch (name := EXB) (E := E1) hown [] ⟨0, 9, 10, 13⟩ [⟨0, 9, 15, 16⟩] (htab.trans rfl) (fun z hz => absurd hz List.not_mem_nil) rfl (by decide) (hqs _ w_753) (by rw [hEk]; exact va_Nw.use rfl (hE.2.2.1 (EXB, EXB) (by decide +kernel))) hxc hxv hxl ?_
      refine lv_astore (lv' := [(5, .ref q1), (0, .ref (a_p1 0 0)), (1, .int v1), (2, .int v2), (3, .int v3), (4, .int v4)]) hx hb dL_tryLink_10 hl (by decide) rfl (fun ls hl => ?_)
      refine lv_ldc (v := -9999001) hx hb hown (hqs _ w_780) dL_tryLink_12 ?_
      exact rt_i hx hb hr hlk hK hS ((u1.1, u1.2) : TW × TH) (ret2 h) hP hD dL_tryLink_14
    replace h := iteF c2 h
    by_cases c3 : k1 = 0
    · replace h := iteT c3 h
      subst c3
      have hEk : E1 = EXI := hEk
      refine vx_catch (name := EXI) (E := E1) hown [(⟨0, 9, 10, 13⟩ : ExceptionTableEntry)] ⟨0, 9, 15, 16⟩ [] (htab.trans rfl) (fun z hz => by
      simp only [List.mem_cons, List.not_mem_nil, or_false] at hz
      rcases hz with rfl
      · exact Or.inr ⟨by decide, EXB, hqs _ w_753, by rw [hEk]; exact hE.2.2.2.1 (EXI, EXB) (by decide +kernel)⟩) rfl (by decide) (hqs _ w_282) (by rw [hEk]; exact va_Nw.use rfl (hE.2.2.1 (EXI, EXI) (by decide +kernel))) hxc hxv hxl ?_
      refine lv_astore (lv' := [(5, .ref q1), (0, .ref (a_p1 0 0)), (1, .int v1), (2, .int v2), (3, .int v3), (4, .int v4)]) hx hb dL_tryLink_15 hl (by decide) rfl (fun ls hl => ?_)
      refine lv_ldc (v := -9999002) hx hb hown (hqs _ w_576) dL_tryLink_17 ?_
      exact rt_i hx hb hr hlk hK hS ((u1.1, u1.2) : TW × TH) (ret2 h) hP hD dL_tryLink_19
    replace h := iteF c3 h
    exact nomatch h
  subst hw
  replace h := sumR h
  have hP : va_P D vwCl (cSP a_p1 ++ (cW dT (a_p1 4) u1.1 ++ (cH dT (a_p1 6) u1.2))) H := hP.perm (wj_back [cSP a_p1, cW dT (a_p1 4) u1.1, cH dT (a_p1 6) u1.2] [] [0, 1, 2] rfl)
  have hD : va_D A (cSP a_p1 ++ (cW dT (a_p1 4) u1.1 ++ (cH dT (a_p1 6) u1.2))) := hD.perm (wj_back [cSP a_p1, cW dT (a_p1 4) u1.1, cH dT (a_p1 6) u1.2] [] [0, 1, 2] rfl)
  exact rt_i hx hb hr hlk hK hS ((u1.1, u1.2) : TW × TH) (ret2 h) hP hD dL_tryLink_9

def f_L_trySum (g_p1_world : TW) (v1 : Int32) : Option (Int64 × (Unit)) :=
  ((f_X8_sum g_p1_world v1).bind fun o1 => (fun u1 => o1.1.elim (fun k1 => (if k1 = 0 then (some ((-9999002 : Int64), ())) else none)) (fun r1 => (some (r1, ())))) o1.2)
set_option maxHeartbeats 8000000 in
set_option maxRecDepth 100000 in
theorem c_L_trySum (l : Launch) (hlt : l.stackTraces = false) (D : va_G) (dT : Nat → ClassId) (a_p1 : Nat → Nat → Nat) (g_p1_world : TW) (v1 : Int32) (o : (Int64 × (Unit))) (h : f_L_trySum g_p1_world v1 = some o) (sz : Nat) : Met l yL_trySum (Cond.codeWith yL_trySum cL_trySum 3 (some .long) [(0, 5, 6, 16)] :: TB) { frames := 8, cells := 1, slots := 6, locals := 133 } (va_Pc [.ref (a_p1 0 0), .int v1] (cPre D dT (cSP a_p1 ++ (cW dT (a_p1 4) g_p1_world)) sz)) (va_Ql (fun (r : Int64) (u : Unit) => r = o.1 ∧ u = o.2) (fun u t => cAt D dT (va_A (cSP a_p1 ++ (cW dT (a_p1 4) g_p1_world)) sz) (cSP a_p1 ++ (cW dT (a_p1 4) g_p1_world)) t) (va_A (cSP a_p1 ++ (cW dT (a_p1 4) g_p1_world)) sz)) 1 6 (va_A (cSP a_p1 ++ (cW dT (a_p1 4) g_p1_world)) sz) := by
  refine mStartH (WS := (cSP a_p1 ++ (cW dT (a_p1 4) g_p1_world))) (Qc := fun A => va_Ql (fun (r : Int64) (u : Unit) => r = o.1 ∧ u = o.2) (fun u t => cAt D dT A (cSP a_p1 ++ (cW dT (a_p1 4) g_p1_world)) t) A) RL rfl (by decide) (Nat.le_of_ble_eq_true rfl) ?_ sz
  intro p e s m below meth c A ls hx hb hml hr hlk htab hts hqs hown hE hA hK hP hD hS hl
  have hl : lv_has ls 3 [(0, .ref (a_p1 0 0)), (1, .int v1)] := hl
  unfold f_L_trySum at h
  refine lv_aload_n hx hb dL_trySum_0 rfl (lv_at hl 0 rfl) ?_
  refine lv_iload_n hx hb dL_trySum_1 rfl (lv_at hl 1 rfl) ?_
  obtain ⟨o1, e1, h⟩ := obind h
  have hPq : va_P D vwCl ((cSP a_p1 ++ (cW dT (a_p1 4) g_p1_world)) ++ ([] : va_W)) _ := hP.perm (wj_split [cSP a_p1, cW dT (a_p1 4) g_p1_world] [0, 1] [] rfl)
  have hDq : va_D A ((cSP a_p1 ++ (cW dT (a_p1 4) g_p1_world)) ++ ([] : va_W)) := hD.perm (wj_split [cSP a_p1, cW dT (a_p1 4) g_p1_world] [0, 1] [] rfl)
  have hPc := hPq.left
  have hDc := hDq.left
  have hFc := va_freeL hDq hS hA
  refine xcl_lL (wr := ([] : va_W)) (vx_runV (As := [.int v1]) (rest := []) ⟨hx, hb, hml, hown, hts⟩ (c_X8_sum l hlt D dT a_p1 g_p1_world v1 o1 e1 _) (cwV 1 hts (TB_V w_981 w_982 w_983 w_33 w_984) rfl rfl rfl ⟨rfl, nd_X8_sum⟩ ⟨Nat.le_of_ble_eq_true rfl, Nat.le_of_ble_eq_true rfl⟩) (cPre.V hPc hDc hK hE hS hFc (va_recv hK hPc (ci := 7) (q0 := 0) rfl rfl)) rfl rfl hl.1 rfl (lv_room (Nat.le_of_ble_eq_true rfl)) dL_trySum_2 ⟨Nat.le_of_ble_eq_true rfl, Nat.le_of_ble_eq_true rfl⟩) hPq hDq hS hFc (fun k1 u1 E1 ce1 q1 H locs hw hEk hP hD hS hxc hxv hxl => ?_) (fun r1 u1 H locs hw hP hD hS => ?_)
  · have hw := xoP_inv hw
    subst hw
    have hP : va_P D vwCl (cSP a_p1 ++ (cW dT (a_p1 4) g_p1_world)) H := hP.perm (wj_back [cSP a_p1, cW dT (a_p1 4) g_p1_world] [] [0, 1] rfl)
    have hD : va_D A (cSP a_p1 ++ (cW dT (a_p1 4) g_p1_world)) := hD.perm (wj_back [cSP a_p1, cW dT (a_p1 4) g_p1_world] [] [0, 1] rfl)
    by_cases c2 : k1 = 0
    · replace h := iteT c2 h
      subst c2
      have hEk : E1 = EXI := hEk
      refine vx_catch (name := EXI) (E := E1) hown [] ⟨0, 5, 6, 16⟩ [] (htab.trans rfl) (fun z hz => absurd hz List.not_mem_nil) rfl (by decide) (hqs _ w_282) (by rw [hEk]; exact va_Nw.use rfl (hE.2.2.1 (EXI, EXI) (by decide +kernel))) hxc hxv hxl ?_
      refine lv_astore_n (lv' := [(2, .ref q1), (0, .ref (a_p1 0 0)), (1, .int v1)]) hx hb dL_trySum_6 rfl hl (by decide) rfl (fun ls hl => ?_)
      refine lv_ldc2 (v := -9999002) hx hb hown (hqs _ w_989) dL_trySum_7 ?_
      exact rt_l hx hb hr hlk hK hS (() : Unit) (ret2 h) hP hD dL_trySum_10
    replace h := iteF c2 h
    exact nomatch h
  subst hw
  replace h := sumR h
  have hP : va_P D vwCl (cSP a_p1 ++ (cW dT (a_p1 4) g_p1_world)) H := hP.perm (wj_back [cSP a_p1, cW dT (a_p1 4) g_p1_world] [] [0, 1] rfl)
  have hD : va_D A (cSP a_p1 ++ (cW dT (a_p1 4) g_p1_world)) := hD.perm (wj_back [cSP a_p1, cW dT (a_p1 4) g_p1_world] [] [0, 1] rfl)
  exact rt_l hx hb hr hlk hK hS (() : Unit) (ret2 h) hP hD dL_trySum_5

def f_L_tryRows (g_p1_world : TW) (g_p1_chosen : TP) (v1 : Int32) (v2 : Int32) : Option (Int64 × (TP)) :=
  ((f_X8_rows g_p1_world g_p1_chosen v1 v2).bind fun o1 => (fun u1 => o1.1.elim (fun k1 => (if k1 = 2 then (some ((-9999001 : Int64), u1)) else (if k1 = 0 then (some ((-9999002 : Int64), u1)) else none))) (fun r1 => (some (r1, u1)))) o1.2)
set_option maxHeartbeats 8000000 in
set_option maxRecDepth 100000 in
theorem c_L_tryRows (l : Launch) (hlt : l.stackTraces = false) (D : va_G) (dT : Nat → ClassId) (a_p1 : Nat → Nat → Nat) (g_p1_world : TW) (g_p1_chosen : TP) (v1 : Int32) (v2 : Int32) (o : (Int64 × (TP))) (h : f_L_tryRows g_p1_world g_p1_chosen v1 v2 = some o) (sz : Nat) : Met l yL_tryRows (Cond.codeWith yL_tryRows cL_tryRows 4 (some .long) [(0, 6, 7, 13), (0, 6, 12, 16)] :: TB) { frames := 9, cells := 2, slots := 12, locals := 154 } (va_Pc [.ref (a_p1 0 0), .int v1, .int v2] (cPre D dT (cSP a_p1 ++ (cW dT (a_p1 4) g_p1_world ++ (cP dT (a_p1 8) g_p1_chosen))) sz)) (va_Ql (fun (r : Int64) (u : TP) => r = o.1 ∧ u = o.2) (fun u t => cAt D dT (va_A (cSP a_p1 ++ (cW dT (a_p1 4) g_p1_world ++ (cP dT (a_p1 8) g_p1_chosen))) sz) (cSP a_p1 ++ (cW dT (a_p1 4) g_p1_world ++ (cP dT (a_p1 8) u))) t) (va_A (cSP a_p1 ++ (cW dT (a_p1 4) g_p1_world ++ (cP dT (a_p1 8) g_p1_chosen))) sz)) 2 12 (va_A (cSP a_p1 ++ (cW dT (a_p1 4) g_p1_world ++ (cP dT (a_p1 8) g_p1_chosen))) sz) := by
  refine mStartH (WS := (cSP a_p1 ++ (cW dT (a_p1 4) g_p1_world ++ (cP dT (a_p1 8) g_p1_chosen)))) (Qc := fun A => va_Ql (fun (r : Int64) (u : TP) => r = o.1 ∧ u = o.2) (fun u t => cAt D dT A (cSP a_p1 ++ (cW dT (a_p1 4) g_p1_world ++ (cP dT (a_p1 8) u))) t) A) RL rfl (by decide) (Nat.le_of_ble_eq_true rfl) ?_ sz
  intro p e s m below meth c A ls hx hb hml hr hlk htab hts hqs hown hE hA hK hP hD hS hl
  have hl : lv_has ls 4 [(0, .ref (a_p1 0 0)), (1, .int v1), (2, .int v2)] := hl
  unfold f_L_tryRows at h
  refine lv_aload_n hx hb dL_tryRows_0 rfl (lv_at hl 0 rfl) ?_
  refine lv_iload_n hx hb dL_tryRows_1 rfl (lv_at hl 1 rfl) ?_
  refine lv_iload_n hx hb dL_tryRows_2 rfl (lv_at hl 2 rfl) ?_
  obtain ⟨o1, e1, h⟩ := obind h
  have hPq : va_P D vwCl ((cSP a_p1 ++ (cW dT (a_p1 4) g_p1_world ++ (cP dT (a_p1 8) g_p1_chosen))) ++ ([] : va_W)) _ := hP.perm (wj_split [cSP a_p1, cW dT (a_p1 4) g_p1_world, cP dT (a_p1 8) g_p1_chosen] [0, 1, 2] [] rfl)
  have hDq : va_D A ((cSP a_p1 ++ (cW dT (a_p1 4) g_p1_world ++ (cP dT (a_p1 8) g_p1_chosen))) ++ ([] : va_W)) := hD.perm (wj_split [cSP a_p1, cW dT (a_p1 4) g_p1_world, cP dT (a_p1 8) g_p1_chosen] [0, 1, 2] [] rfl)
  have hPc := hPq.left
  have hDc := hDq.left
  have hFc := va_freeL hDq hS hA
  refine xcl_lL (wr := ([] : va_W)) (vx_runV (As := [.int v1, .int v2]) (rest := []) ⟨hx, hb, hml, hown, hts⟩ (c_X8_rows l hlt D dT a_p1 g_p1_world g_p1_chosen v1 v2 o1 e1 _) (cwV 2 hts (TB_V w_1000 w_1001 w_1002 w_33 w_1003) rfl rfl rfl ⟨rfl, nd_X8_rows⟩ ⟨Nat.le_of_ble_eq_true rfl, Nat.le_of_ble_eq_true rfl⟩) (cPre.V hPc hDc hK hE hS hFc (va_recv hK hPc (ci := 7) (q0 := 0) rfl rfl)) rfl rfl hl.1 rfl (lv_room (Nat.le_of_ble_eq_true rfl)) dL_tryRows_3 ⟨Nat.le_of_ble_eq_true rfl, Nat.le_of_ble_eq_true rfl⟩) hPq hDq hS hFc (fun k1 u1 E1 ce1 q1 H locs hw hEk hP hD hS hxc hxv hxl => ?_) (fun r1 u1 H locs hw hP hD hS => ?_)
  · have hw := xoP_inv hw
    subst hw
    have hP : va_P D vwCl (cSP a_p1 ++ (cW dT (a_p1 4) g_p1_world ++ (cP dT (a_p1 8) u1))) H := hP.perm (wj_back [cSP a_p1, cW dT (a_p1 4) g_p1_world, cP dT (a_p1 8) u1] [] [0, 1, 2] rfl)
    have hD : va_D A (cSP a_p1 ++ (cW dT (a_p1 4) g_p1_world ++ (cP dT (a_p1 8) u1))) := hD.perm (wj_back [cSP a_p1, cW dT (a_p1 4) g_p1_world, cP dT (a_p1 8) u1] [] [0, 1, 2] rfl)
    by_cases c2 : k1 = 2
    · replace h := iteT c2 h
      subst c2
      have hEk : E1 = EXB := hEk
      refine vx_catch (name := EXB) (E := E1) hown [] ⟨0, 6, 7, 13⟩ [⟨0, 6, 12, 16⟩] (htab.trans rfl) (fun z hz => absurd hz List.not_mem_nil) rfl (by decide) (hqs _ w_753) (by rw [hEk]; exact va_Nw.use rfl (hE.2.2.1 (EXB, EXB) (by decide +kernel))) hxc hxv hxl ?_
      refine lv_astore_n (lv' := [(3, .ref q1), (0, .ref (a_p1 0 0)), (1, .int v1), (2, .int v2)]) hx hb dL_tryRows_7 rfl hl (by decide) rfl (fun ls hl => ?_)
      refine lv_ldc2 (v := -9999001) hx hb hown (hqs _ w_1006) dL_tryRows_8 ?_
      exact rt_l hx hb hr hlk hK hS (u1 : TP) (ret2 h) hP hD dL_tryRows_11
    replace h := iteF c2 h
    by_cases c3 : k1 = 0
    · replace h := iteT c3 h
      subst c3
      have hEk : E1 = EXI := hEk
      refine vx_catch (name := EXI) (E := E1) hown [(⟨0, 6, 7, 13⟩ : ExceptionTableEntry)] ⟨0, 6, 12, 16⟩ [] (htab.trans rfl) (fun z hz => by
      simp only [List.mem_cons, List.not_mem_nil, or_false] at hz
      rcases hz with rfl
      · exact Or.inr ⟨by decide, EXB, hqs _ w_753, by rw [hEk]; exact hE.2.2.2.1 (EXI, EXB) (by decide +kernel)⟩) rfl (by decide) (hqs _ w_282) (by rw [hEk]; exact va_Nw.use rfl (hE.2.2.1 (EXI, EXI) (by decide +kernel))) hxc hxv hxl ?_
      refine lv_astore_n (lv' := [(3, .ref q1), (0, .ref (a_p1 0 0)), (1, .int v1), (2, .int v2)]) hx hb dL_tryRows_12 rfl hl (by decide) rfl (fun ls hl => ?_)
      refine lv_ldc2 (v := -9999002) hx hb hown (hqs _ w_989) dL_tryRows_13 ?_
      exact rt_l hx hb hr hlk hK hS (u1 : TP) (ret2 h) hP hD dL_tryRows_16
    replace h := iteF c3 h
    exact nomatch h
  subst hw
  replace h := sumR h
  have hP : va_P D vwCl (cSP a_p1 ++ (cW dT (a_p1 4) g_p1_world ++ (cP dT (a_p1 8) u1))) H := hP.perm (wj_back [cSP a_p1, cW dT (a_p1 4) g_p1_world, cP dT (a_p1 8) u1] [] [0, 1, 2] rfl)
  have hD : va_D A (cSP a_p1 ++ (cW dT (a_p1 4) g_p1_world ++ (cP dT (a_p1 8) u1))) := hD.perm (wj_back [cSP a_p1, cW dT (a_p1 4) g_p1_world, cP dT (a_p1 8) u1] [] [0, 1, 2] rfl)
  exact rt_l hx hb hr hlk hK hS (u1 : TP) (ret2 h) hP hD dL_tryRows_6

def f_L_tryCost (g_p1_world : TW) (g_p1_chosen : TP) (g_p1_other : TP) (v1 : Int32) (v2 : Int32) : Option (Int64 × (TP × TP)) :=
  ((f_X8_cost g_p1_world g_p1_chosen g_p1_other v1 v2).bind fun o1 => (fun u1 => o1.1.elim (fun k1 => (if k1 = 2 then (some ((-9999001 : Int64), (u1.1, u1.2))) else (if k1 = 0 then (some ((-9999002 : Int64), (u1.1, u1.2))) else none))) (fun r1 => (some (r1, (u1.1, u1.2))))) o1.2)
set_option maxHeartbeats 8000000 in
set_option maxRecDepth 100000 in
theorem c_L_tryCost (l : Launch) (hlt : l.stackTraces = false) (D : va_G) (dT : Nat → ClassId) (a_p1 : Nat → Nat → Nat) (g_p1_world : TW) (g_p1_chosen : TP) (g_p1_other : TP) (v1 : Int32) (v2 : Int32) (o : (Int64 × (TP × TP))) (h : f_L_tryCost g_p1_world g_p1_chosen g_p1_other v1 v2 = some o) (sz : Nat) : Met l yL_tryCost (Cond.codeWith yL_tryCost cL_tryCost 4 (some .long) [(0, 6, 7, 13), (0, 6, 12, 16)] :: TB) { frames := 8, cells := 2, slots := 12, locals := 145 } (va_Pc [.ref (a_p1 0 0), .int v1, .int v2] (cPre D dT (cSP a_p1 ++ (cW dT (a_p1 4) g_p1_world ++ (cP dT (a_p1 8) g_p1_chosen ++ (cP dT (a_p1 9) g_p1_other)))) sz)) (va_Ql (fun (r : Int64) (u : TP × TP) => r = o.1 ∧ u = o.2) (fun u t => cAt D dT (va_A (cSP a_p1 ++ (cW dT (a_p1 4) g_p1_world ++ (cP dT (a_p1 8) g_p1_chosen ++ (cP dT (a_p1 9) g_p1_other)))) sz) (cSP a_p1 ++ (cW dT (a_p1 4) g_p1_world ++ (cP dT (a_p1 8) (u.1) ++ (cP dT (a_p1 9) (u.2))))) t) (va_A (cSP a_p1 ++ (cW dT (a_p1 4) g_p1_world ++ (cP dT (a_p1 8) g_p1_chosen ++ (cP dT (a_p1 9) g_p1_other)))) sz)) 2 12 (va_A (cSP a_p1 ++ (cW dT (a_p1 4) g_p1_world ++ (cP dT (a_p1 8) g_p1_chosen ++ (cP dT (a_p1 9) g_p1_other)))) sz) := by
  refine mStartH (WS := (cSP a_p1 ++ (cW dT (a_p1 4) g_p1_world ++ (cP dT (a_p1 8) g_p1_chosen ++ (cP dT (a_p1 9) g_p1_other))))) (Qc := fun A => va_Ql (fun (r : Int64) (u : TP × TP) => r = o.1 ∧ u = o.2) (fun u t => cAt D dT A (cSP a_p1 ++ (cW dT (a_p1 4) g_p1_world ++ (cP dT (a_p1 8) (u.1) ++ (cP dT (a_p1 9) (u.2))))) t) A) RL rfl (by decide) (Nat.le_of_ble_eq_true rfl) ?_ sz
  intro p e s m below meth c A ls hx hb hml hr hlk htab hts hqs hown hE hA hK hP hD hS hl
  have hl : lv_has ls 4 [(0, .ref (a_p1 0 0)), (1, .int v1), (2, .int v2)] := hl
  unfold f_L_tryCost at h
  refine lv_aload_n hx hb dL_tryCost_0 rfl (lv_at hl 0 rfl) ?_
  refine lv_iload_n hx hb dL_tryCost_1 rfl (lv_at hl 1 rfl) ?_
  refine lv_iload_n hx hb dL_tryCost_2 rfl (lv_at hl 2 rfl) ?_
  obtain ⟨o1, e1, h⟩ := obind h
  have hPq : va_P D vwCl ((cSP a_p1 ++ (cW dT (a_p1 4) g_p1_world ++ (cP dT (a_p1 8) g_p1_chosen ++ (cP dT (a_p1 9) g_p1_other)))) ++ ([] : va_W)) _ := hP.perm (wj_split [cSP a_p1, cW dT (a_p1 4) g_p1_world, cP dT (a_p1 8) g_p1_chosen, cP dT (a_p1 9) g_p1_other] [0, 1, 2, 3] [] rfl)
  have hDq : va_D A ((cSP a_p1 ++ (cW dT (a_p1 4) g_p1_world ++ (cP dT (a_p1 8) g_p1_chosen ++ (cP dT (a_p1 9) g_p1_other)))) ++ ([] : va_W)) := hD.perm (wj_split [cSP a_p1, cW dT (a_p1 4) g_p1_world, cP dT (a_p1 8) g_p1_chosen, cP dT (a_p1 9) g_p1_other] [0, 1, 2, 3] [] rfl)
  have hPc := hPq.left
  have hDc := hDq.left
  have hFc := va_freeL hDq hS hA
  refine xcl_lL (wr := ([] : va_W)) (vx_runV (As := [.int v1, .int v2]) (rest := []) ⟨hx, hb, hml, hown, hts⟩ (c_X8_cost l hlt D dT a_p1 g_p1_world g_p1_chosen g_p1_other v1 v2 o1 e1 _) (cwV 2 hts (TB_V w_1010 w_1011 w_1012 w_33 w_1013) rfl rfl rfl ⟨rfl, nd_X8_cost⟩ ⟨Nat.le_of_ble_eq_true rfl, Nat.le_of_ble_eq_true rfl⟩) (cPre.V hPc hDc hK hE hS hFc (va_recv hK hPc (ci := 7) (q0 := 0) rfl rfl)) rfl rfl hl.1 rfl (lv_room (Nat.le_of_ble_eq_true rfl)) dL_tryCost_3 ⟨Nat.le_of_ble_eq_true rfl, Nat.le_of_ble_eq_true rfl⟩) hPq hDq hS hFc (fun k1 u1 E1 ce1 q1 H locs hw hEk hP hD hS hxc hxv hxl => ?_) (fun r1 u1 H locs hw hP hD hS => ?_)
  · have hw := xoP_inv hw
    subst hw
    have hP : va_P D vwCl (cSP a_p1 ++ (cW dT (a_p1 4) g_p1_world ++ (cP dT (a_p1 8) u1.1 ++ (cP dT (a_p1 9) u1.2)))) H := hP.perm (wj_back [cSP a_p1, cW dT (a_p1 4) g_p1_world, cP dT (a_p1 8) u1.1, cP dT (a_p1 9) u1.2] [] [0, 1, 2, 3] rfl)
    have hD : va_D A (cSP a_p1 ++ (cW dT (a_p1 4) g_p1_world ++ (cP dT (a_p1 8) u1.1 ++ (cP dT (a_p1 9) u1.2)))) := hD.perm (wj_back [cSP a_p1, cW dT (a_p1 4) g_p1_world, cP dT (a_p1 8) u1.1, cP dT (a_p1 9) u1.2] [] [0, 1, 2, 3] rfl)
    by_cases c2 : k1 = 2
    · replace h := iteT c2 h
      subst c2
      have hEk : E1 = EXB := hEk
      refine vx_catch (name := EXB) (E := E1) hown [] ⟨0, 6, 7, 13⟩ [⟨0, 6, 12, 16⟩] (htab.trans rfl) (fun z hz => absurd hz List.not_mem_nil) rfl (by decide) (hqs _ w_753) (by rw [hEk]; exact va_Nw.use rfl (hE.2.2.1 (EXB, EXB) (by decide +kernel))) hxc hxv hxl ?_
      refine lv_astore_n (lv' := [(3, .ref q1), (0, .ref (a_p1 0 0)), (1, .int v1), (2, .int v2)]) hx hb dL_tryCost_7 rfl hl (by decide) rfl (fun ls hl => ?_)
      refine lv_ldc2 (v := -9999001) hx hb hown (hqs _ w_1006) dL_tryCost_8 ?_
      exact rt_l hx hb hr hlk hK hS ((u1.1, u1.2) : TP × TP) (ret2 h) hP hD dL_tryCost_11
    replace h := iteF c2 h
    by_cases c3 : k1 = 0
    · replace h := iteT c3 h
      subst c3
      have hEk : E1 = EXI := hEk
      refine vx_catch (name := EXI) (E := E1) hown [(⟨0, 6, 7, 13⟩ : ExceptionTableEntry)] ⟨0, 6, 12, 16⟩ [] (htab.trans rfl) (fun z hz => by
      simp only [List.mem_cons, List.not_mem_nil, or_false] at hz
      rcases hz with rfl
      · exact Or.inr ⟨by decide, EXB, hqs _ w_753, by rw [hEk]; exact hE.2.2.2.1 (EXI, EXB) (by decide +kernel)⟩) rfl (by decide) (hqs _ w_282) (by rw [hEk]; exact va_Nw.use rfl (hE.2.2.1 (EXI, EXI) (by decide +kernel))) hxc hxv hxl ?_
      refine lv_astore_n (lv' := [(3, .ref q1), (0, .ref (a_p1 0 0)), (1, .int v1), (2, .int v2)]) hx hb dL_tryCost_12 rfl hl (by decide) rfl (fun ls hl => ?_)
      refine lv_ldc2 (v := -9999002) hx hb hown (hqs _ w_989) dL_tryCost_13 ?_
      exact rt_l hx hb hr hlk hK hS ((u1.1, u1.2) : TP × TP) (ret2 h) hP hD dL_tryCost_16
    replace h := iteF c3 h
    exact nomatch h
  subst hw
  replace h := sumR h
  have hP : va_P D vwCl (cSP a_p1 ++ (cW dT (a_p1 4) g_p1_world ++ (cP dT (a_p1 8) u1.1 ++ (cP dT (a_p1 9) u1.2)))) H := hP.perm (wj_back [cSP a_p1, cW dT (a_p1 4) g_p1_world, cP dT (a_p1 8) u1.1, cP dT (a_p1 9) u1.2] [] [0, 1, 2, 3] rfl)
  have hD : va_D A (cSP a_p1 ++ (cW dT (a_p1 4) g_p1_world ++ (cP dT (a_p1 8) u1.1 ++ (cP dT (a_p1 9) u1.2)))) := hD.perm (wj_back [cSP a_p1, cW dT (a_p1 4) g_p1_world, cP dT (a_p1 8) u1.1, cP dT (a_p1 9) u1.2] [] [0, 1, 2, 3] rfl)
  exact rt_l hx hb hr hlk hK hS ((u1.1, u1.2) : TP × TP) (ret2 h) hP hD dL_tryCost_6

def f_L_tryText (g_p1_text : TT) (g_p1_planReader : TR) (g_p1_world : TW) (g_p1_chosen : TP) (v1 : Int32) : Option (Int64 × (TR × TP)) :=
  ((f_X8_costOfText g_p1_text g_p1_planReader g_p1_world g_p1_chosen v1).bind fun o1 => (fun u1 => o1.1.elim (fun k1 => (if k1 = 0 then (some ((-9999002 : Int64), (u1.1, u1.2))) else (if k1 = 1 then (some ((-9999003 : Int64), (u1.1, u1.2))) else none))) (fun r1 => (some (r1, (u1.1, u1.2))))) o1.2)
set_option maxHeartbeats 8000000 in
set_option maxRecDepth 100000 in
theorem c_L_tryText (l : Launch) (hlt : l.stackTraces = false) (D : va_G) (dT : Nat → ClassId) (a_p1 : Nat → Nat → Nat) (g_p1_text : TT) (g_p1_planReader : TR) (g_p1_world : TW) (g_p1_chosen : TP) (v1 : Int32) (o : (Int64 × (TR × TP))) (h : f_L_tryText g_p1_text g_p1_planReader g_p1_world g_p1_chosen v1 = some o) (sz : Nat) : Met l yL_tryText (Cond.codeWith yL_tryText cL_tryText 3 (some .long) [(0, 5, 6, 16), (0, 5, 11, 37)] :: TB) { frames := 9, cells := 2, slots := 12, locals := 153 } (va_Pc [.ref (a_p1 0 0), .int v1] (cPre D dT (cSP a_p1 ++ (cT dT (a_p1 1) g_p1_text ++ (cR dT (a_p1 3) g_p1_planReader ++ (cW dT (a_p1 4) g_p1_world ++ (cP dT (a_p1 8) g_p1_chosen))))) sz)) (va_Ql (fun (r : Int64) (u : TR × TP) => r = o.1 ∧ u = o.2) (fun u t => cAt D dT (va_A (cSP a_p1 ++ (cT dT (a_p1 1) g_p1_text ++ (cR dT (a_p1 3) g_p1_planReader ++ (cW dT (a_p1 4) g_p1_world ++ (cP dT (a_p1 8) g_p1_chosen))))) sz) (cSP a_p1 ++ (cT dT (a_p1 1) g_p1_text ++ (cR dT (a_p1 3) (u.1) ++ (cW dT (a_p1 4) g_p1_world ++ (cP dT (a_p1 8) (u.2)))))) t) (va_A (cSP a_p1 ++ (cT dT (a_p1 1) g_p1_text ++ (cR dT (a_p1 3) g_p1_planReader ++ (cW dT (a_p1 4) g_p1_world ++ (cP dT (a_p1 8) g_p1_chosen))))) sz)) 2 12 (va_A (cSP a_p1 ++ (cT dT (a_p1 1) g_p1_text ++ (cR dT (a_p1 3) g_p1_planReader ++ (cW dT (a_p1 4) g_p1_world ++ (cP dT (a_p1 8) g_p1_chosen))))) sz) := by
  refine mStartH (WS := (cSP a_p1 ++ (cT dT (a_p1 1) g_p1_text ++ (cR dT (a_p1 3) g_p1_planReader ++ (cW dT (a_p1 4) g_p1_world ++ (cP dT (a_p1 8) g_p1_chosen)))))) (Qc := fun A => va_Ql (fun (r : Int64) (u : TR × TP) => r = o.1 ∧ u = o.2) (fun u t => cAt D dT A (cSP a_p1 ++ (cT dT (a_p1 1) g_p1_text ++ (cR dT (a_p1 3) (u.1) ++ (cW dT (a_p1 4) g_p1_world ++ (cP dT (a_p1 8) (u.2)))))) t) A) RL rfl (by decide) (Nat.le_of_ble_eq_true rfl) ?_ sz
  intro p e s m below meth c A ls hx hb hml hr hlk htab hts hqs hown hE hA hK hP hD hS hl
  have hl : lv_has ls 3 [(0, .ref (a_p1 0 0)), (1, .int v1)] := hl
  unfold f_L_tryText at h
  refine lv_aload_n hx hb dL_tryText_0 rfl (lv_at hl 0 rfl) ?_
  refine lv_iload_n hx hb dL_tryText_1 rfl (lv_at hl 1 rfl) ?_
  obtain ⟨o1, e1, h⟩ := obind h
  have hPq : va_P D vwCl ((cSP a_p1 ++ (cT dT (a_p1 1) g_p1_text ++ (cR dT (a_p1 3) g_p1_planReader ++ (cW dT (a_p1 4) g_p1_world ++ (cP dT (a_p1 8) g_p1_chosen))))) ++ ([] : va_W)) _ := hP.perm (wj_split [cSP a_p1, cT dT (a_p1 1) g_p1_text, cR dT (a_p1 3) g_p1_planReader, cW dT (a_p1 4) g_p1_world, cP dT (a_p1 8) g_p1_chosen] [0, 1, 2, 3, 4] [] rfl)
  have hDq : va_D A ((cSP a_p1 ++ (cT dT (a_p1 1) g_p1_text ++ (cR dT (a_p1 3) g_p1_planReader ++ (cW dT (a_p1 4) g_p1_world ++ (cP dT (a_p1 8) g_p1_chosen))))) ++ ([] : va_W)) := hD.perm (wj_split [cSP a_p1, cT dT (a_p1 1) g_p1_text, cR dT (a_p1 3) g_p1_planReader, cW dT (a_p1 4) g_p1_world, cP dT (a_p1 8) g_p1_chosen] [0, 1, 2, 3, 4] [] rfl)
  have hPc := hPq.left
  have hDc := hDq.left
  have hFc := va_freeL hDq hS hA
  refine xcl_lL (wr := ([] : va_W)) (vx_runV (As := [.int v1]) (rest := []) ⟨hx, hb, hml, hown, hts⟩ (c_X8_costOfText l hlt D dT a_p1 g_p1_text g_p1_planReader g_p1_world g_p1_chosen v1 o1 e1 _) (cwV 1 hts (TB_V w_1017 w_1018 w_1019 w_33 w_1020) rfl rfl rfl ⟨rfl, nd_X8_costOfText⟩ ⟨Nat.le_of_ble_eq_true rfl, Nat.le_of_ble_eq_true rfl⟩) (cPre.V hPc hDc hK hE hS hFc (va_recv hK hPc (ci := 7) (q0 := 0) rfl rfl)) rfl rfl hl.1 rfl (lv_room (Nat.le_of_ble_eq_true rfl)) dL_tryText_2 ⟨Nat.le_of_ble_eq_true rfl, Nat.le_of_ble_eq_true rfl⟩) hPq hDq hS hFc (fun k1 u1 E1 ce1 q1 H locs hw hEk hP hD hS hxc hxv hxl => ?_) (fun r1 u1 H locs hw hP hD hS => ?_)
  · have hw := xoP_inv hw
    subst hw
    have hP : va_P D vwCl (cSP a_p1 ++ (cT dT (a_p1 1) g_p1_text ++ (cR dT (a_p1 3) u1.1 ++ (cW dT (a_p1 4) g_p1_world ++ (cP dT (a_p1 8) u1.2))))) H := hP.perm (wj_back [cSP a_p1, cT dT (a_p1 1) g_p1_text, cR dT (a_p1 3) u1.1, cW dT (a_p1 4) g_p1_world, cP dT (a_p1 8) u1.2] [] [0, 1, 2, 3, 4] rfl)
    have hD : va_D A (cSP a_p1 ++ (cT dT (a_p1 1) g_p1_text ++ (cR dT (a_p1 3) u1.1 ++ (cW dT (a_p1 4) g_p1_world ++ (cP dT (a_p1 8) u1.2))))) := hD.perm (wj_back [cSP a_p1, cT dT (a_p1 1) g_p1_text, cR dT (a_p1 3) u1.1, cW dT (a_p1 4) g_p1_world, cP dT (a_p1 8) u1.2] [] [0, 1, 2, 3, 4] rfl)
    by_cases c2 : k1 = 0
    · replace h := iteT c2 h
      subst c2
      have hEk : E1 = EXI := hEk
      refine vx_catch (name := EXI) (E := E1) hown [] ⟨0, 5, 6, 16⟩ [⟨0, 5, 11, 37⟩] (htab.trans rfl) (fun z hz => absurd hz List.not_mem_nil) rfl (by decide) (hqs _ w_282) (by rw [hEk]; exact va_Nw.use rfl (hE.2.2.1 (EXI, EXI) (by decide +kernel))) hxc hxv hxl ?_
      refine lv_astore_n (lv' := [(2, .ref q1), (0, .ref (a_p1 0 0)), (1, .int v1)]) hx hb dL_tryText_6 rfl hl (by decide) rfl (fun ls hl => ?_)
      refine lv_ldc2 (v := -9999002) hx hb hown (hqs _ w_989) dL_tryText_7 ?_
      exact rt_l hx hb hr hlk hK hS ((u1.1, u1.2) : TR × TP) (ret2 h) hP hD dL_tryText_10
    replace h := iteF c2 h
    by_cases c3 : k1 = 1
    · replace h := iteT c3 h
      subst c3
      have hEk : E1 = EXS := hEk
      refine vx_catch (name := EXS) (E := E1) hown [(⟨0, 5, 6, 16⟩ : ExceptionTableEntry)] ⟨0, 5, 11, 37⟩ [] (htab.trans rfl) (fun z hz => by
      simp only [List.mem_cons, List.not_mem_nil, or_false] at hz
      rcases hz with rfl
      · exact Or.inr ⟨by decide, EXI, hqs _ w_282, by rw [hEk]; exact hE.2.2.2.1 (EXS, EXI) (by decide +kernel)⟩) rfl (by decide) (hqs _ w_605) (by rw [hEk]; exact va_Nw.use rfl (hE.2.2.1 (EXS, EXS) (by decide +kernel))) hxc hxv hxl ?_
      refine lv_astore_n (lv' := [(2, .ref q1), (0, .ref (a_p1 0 0)), (1, .int v1)]) hx hb dL_tryText_11 rfl hl (by decide) rfl (fun ls hl => ?_)
      refine lv_ldc2 (v := -9999003) hx hb hown (hqs _ w_1034) dL_tryText_12 ?_
      exact rt_l hx hb hr hlk hK hS ((u1.1, u1.2) : TR × TP) (ret2 h) hP hD dL_tryText_15
    replace h := iteF c3 h
    exact nomatch h
  subst hw
  replace h := sumR h
  have hP : va_P D vwCl (cSP a_p1 ++ (cT dT (a_p1 1) g_p1_text ++ (cR dT (a_p1 3) u1.1 ++ (cW dT (a_p1 4) g_p1_world ++ (cP dT (a_p1 8) u1.2))))) H := hP.perm (wj_back [cSP a_p1, cT dT (a_p1 1) g_p1_text, cR dT (a_p1 3) u1.1, cW dT (a_p1 4) g_p1_world, cP dT (a_p1 8) u1.2] [] [0, 1, 2, 3, 4] rfl)
  have hD : va_D A (cSP a_p1 ++ (cT dT (a_p1 1) g_p1_text ++ (cR dT (a_p1 3) u1.1 ++ (cW dT (a_p1 4) g_p1_world ++ (cP dT (a_p1 8) u1.2))))) := hD.perm (wj_back [cSP a_p1, cT dT (a_p1 1) g_p1_text, cR dT (a_p1 3) u1.1, cW dT (a_p1 4) g_p1_world, cP dT (a_p1 8) u1.2] [] [0, 1, 2, 3, 4] rfl)
  exact rt_l hx hb hr hlk hK hS ((u1.1, u1.2) : TR × TP) (ret2 h) hP hD dL_tryText_5

def f_L_tryScript (g_p1_world : TW) (g_p1_copy : TW) (g_p1_chosen : TP) (g_p1_other : TP) (v1 : Int32) (v2 : Int64) : Option (Int32 × (TW × TP × TP)) :=
  ((f_X8_runScript g_p1_world g_p1_copy g_p1_chosen g_p1_other v1 v2).bind fun o1 => (fun u1 => o1.1.elim (fun k1 => (if k1 = 0 then (some ((-9999002 : Int32), (u1.1, u1.2.1, u1.2.2))) else none)) (fun r1 => (some (r1, (u1.1, u1.2.1, u1.2.2))))) o1.2)
set_option maxHeartbeats 8000000 in
set_option maxRecDepth 100000 in
theorem c_L_tryScript (l : Launch) (hlt : l.stackTraces = false) (D : va_G) (dT : Nat → ClassId) (a_p1 : Nat → Nat → Nat) (g_p1_world : TW) (g_p1_copy : TW) (g_p1_chosen : TP) (g_p1_other : TP) (v1 : Int32) (v2 : Int64) (o : (Int32 × (TW × TP × TP))) (h : f_L_tryScript g_p1_world g_p1_copy g_p1_chosen g_p1_other v1 v2 = some o) (sz : Nat) : Met l yL_tryScript (Cond.codeWith yL_tryScript cL_tryScript 5 (some .int) [(0, 6, 7, 16)] :: TB) { frames := 8, cells := 2, slots := 12, locals := 198 } (va_Pc [.ref (a_p1 0 0), .int v1, .long v2] (cPre D dT (cSP a_p1 ++ (cW dT (a_p1 4) g_p1_world ++ (cW dT (a_p1 5) g_p1_copy ++ (cP dT (a_p1 8) g_p1_chosen ++ (cP dT (a_p1 9) g_p1_other))))) sz)) (va_Qi (fun (r : Int32) (u : TW × TP × TP) => r = o.1 ∧ u = o.2) (fun u t => cAt D dT (va_A (cSP a_p1 ++ (cW dT (a_p1 4) g_p1_world ++ (cW dT (a_p1 5) g_p1_copy ++ (cP dT (a_p1 8) g_p1_chosen ++ (cP dT (a_p1 9) g_p1_other))))) sz) (cSP a_p1 ++ (cW dT (a_p1 4) g_p1_world ++ (cW dT (a_p1 5) (u.1) ++ (cP dT (a_p1 8) (u.2.1) ++ (cP dT (a_p1 9) (u.2.2)))))) t) (va_A (cSP a_p1 ++ (cW dT (a_p1 4) g_p1_world ++ (cW dT (a_p1 5) g_p1_copy ++ (cP dT (a_p1 8) g_p1_chosen ++ (cP dT (a_p1 9) g_p1_other))))) sz)) 2 12 (va_A (cSP a_p1 ++ (cW dT (a_p1 4) g_p1_world ++ (cW dT (a_p1 5) g_p1_copy ++ (cP dT (a_p1 8) g_p1_chosen ++ (cP dT (a_p1 9) g_p1_other))))) sz) := by
  refine mStartH (WS := (cSP a_p1 ++ (cW dT (a_p1 4) g_p1_world ++ (cW dT (a_p1 5) g_p1_copy ++ (cP dT (a_p1 8) g_p1_chosen ++ (cP dT (a_p1 9) g_p1_other)))))) (Qc := fun A => va_Qi (fun (r : Int32) (u : TW × TP × TP) => r = o.1 ∧ u = o.2) (fun u t => cAt D dT A (cSP a_p1 ++ (cW dT (a_p1 4) g_p1_world ++ (cW dT (a_p1 5) (u.1) ++ (cP dT (a_p1 8) (u.2.1) ++ (cP dT (a_p1 9) (u.2.2)))))) t) A) RL rfl (by decide) (Nat.le_of_ble_eq_true rfl) ?_ sz
  intro p e s m below meth c A ls hx hb hml hr hlk htab hts hqs hown hE hA hK hP hD hS hl
  have hl : lv_has ls 5 [(0, .ref (a_p1 0 0)), (1, .int v1), (2, .long v2)] := hl
  unfold f_L_tryScript at h
  refine lv_aload_n hx hb dL_tryScript_0 rfl (lv_at hl 0 rfl) ?_
  refine lv_iload_n hx hb dL_tryScript_1 rfl (lv_at hl 1 rfl) ?_
  refine lv_lload_n hx hb dL_tryScript_2 rfl (lv_at hl 2 rfl) ?_
  obtain ⟨o1, e1, h⟩ := obind h
  have hPq : va_P D vwCl ((cSP a_p1 ++ (cW dT (a_p1 4) g_p1_world ++ (cW dT (a_p1 5) g_p1_copy ++ (cP dT (a_p1 8) g_p1_chosen ++ (cP dT (a_p1 9) g_p1_other))))) ++ ([] : va_W)) _ := hP.perm (wj_split [cSP a_p1, cW dT (a_p1 4) g_p1_world, cW dT (a_p1 5) g_p1_copy, cP dT (a_p1 8) g_p1_chosen, cP dT (a_p1 9) g_p1_other] [0, 1, 2, 3, 4] [] rfl)
  have hDq : va_D A ((cSP a_p1 ++ (cW dT (a_p1 4) g_p1_world ++ (cW dT (a_p1 5) g_p1_copy ++ (cP dT (a_p1 8) g_p1_chosen ++ (cP dT (a_p1 9) g_p1_other))))) ++ ([] : va_W)) := hD.perm (wj_split [cSP a_p1, cW dT (a_p1 4) g_p1_world, cW dT (a_p1 5) g_p1_copy, cP dT (a_p1 8) g_p1_chosen, cP dT (a_p1 9) g_p1_other] [0, 1, 2, 3, 4] [] rfl)
  have hPc := hPq.left
  have hDc := hDq.left
  have hFc := va_freeL hDq hS hA
  refine xcl_iL (wr := ([] : va_W)) (vx_runV (As := [.int v1, .long v2]) (rest := []) ⟨hx, hb, hml, hown, hts⟩ (c_X8_runScript l hlt D dT a_p1 g_p1_world g_p1_copy g_p1_chosen g_p1_other v1 v2 o1 e1 _) (cwV 2 hts (TB_V w_283 w_284 w_285 w_33 w_286) rfl rfl rfl ⟨rfl, nd_X8_runScript⟩ ⟨Nat.le_of_ble_eq_true rfl, Nat.le_of_ble_eq_true rfl⟩) (cPre.V hPc hDc hK hE hS hFc (va_recv hK hPc (ci := 7) (q0 := 0) rfl rfl)) rfl rfl hl.1 rfl (lv_room (Nat.le_of_ble_eq_true rfl)) dL_tryScript_3 ⟨Nat.le_of_ble_eq_true rfl, Nat.le_of_ble_eq_true rfl⟩) hPq hDq hS hFc (fun k1 u1 E1 ce1 q1 H locs hw hEk hP hD hS hxc hxv hxl => ?_) (fun r1 u1 H locs hw hP hD hS => ?_)
  · have hw := xoP_inv hw
    subst hw
    have hP : va_P D vwCl (cSP a_p1 ++ (cW dT (a_p1 4) g_p1_world ++ (cW dT (a_p1 5) u1.1 ++ (cP dT (a_p1 8) u1.2.1 ++ (cP dT (a_p1 9) u1.2.2))))) H := hP.perm (wj_back [cSP a_p1, cW dT (a_p1 4) g_p1_world, cW dT (a_p1 5) u1.1, cP dT (a_p1 8) u1.2.1, cP dT (a_p1 9) u1.2.2] [] [0, 1, 2, 3, 4] rfl)
    have hD : va_D A (cSP a_p1 ++ (cW dT (a_p1 4) g_p1_world ++ (cW dT (a_p1 5) u1.1 ++ (cP dT (a_p1 8) u1.2.1 ++ (cP dT (a_p1 9) u1.2.2))))) := hD.perm (wj_back [cSP a_p1, cW dT (a_p1 4) g_p1_world, cW dT (a_p1 5) u1.1, cP dT (a_p1 8) u1.2.1, cP dT (a_p1 9) u1.2.2] [] [0, 1, 2, 3, 4] rfl)
    by_cases c2 : k1 = 0
    · replace h := iteT c2 h
      subst c2
      have hEk : E1 = EXI := hEk
      refine vx_catch (name := EXI) (E := E1) hown [] ⟨0, 6, 7, 16⟩ [] (htab.trans rfl) (fun z hz => absurd hz List.not_mem_nil) rfl (by decide) (hqs _ w_282) (by rw [hEk]; exact va_Nw.use rfl (hE.2.2.1 (EXI, EXI) (by decide +kernel))) hxc hxv hxl ?_
      refine lv_astore (lv' := [(4, .ref q1), (0, .ref (a_p1 0 0)), (1, .int v1), (2, .long v2)]) hx hb dL_tryScript_7 hl (by decide) rfl (fun ls hl => ?_)
      refine lv_ldc (v := -9999002) hx hb hown (hqs _ w_576) dL_tryScript_9 ?_
      exact rt_i hx hb hr hlk hK hS ((u1.1, u1.2.1, u1.2.2) : TW × TP × TP) (ret2 h) hP hD dL_tryScript_11
    replace h := iteF c2 h
    exact nomatch h
  subst hw
  replace h := sumR h
  have hP : va_P D vwCl (cSP a_p1 ++ (cW dT (a_p1 4) g_p1_world ++ (cW dT (a_p1 5) u1.1 ++ (cP dT (a_p1 8) u1.2.1 ++ (cP dT (a_p1 9) u1.2.2))))) H := hP.perm (wj_back [cSP a_p1, cW dT (a_p1 4) g_p1_world, cW dT (a_p1 5) u1.1, cP dT (a_p1 8) u1.2.1, cP dT (a_p1 9) u1.2.2] [] [0, 1, 2, 3, 4] rfl)
  have hD : va_D A (cSP a_p1 ++ (cW dT (a_p1 4) g_p1_world ++ (cW dT (a_p1 5) u1.1 ++ (cP dT (a_p1 8) u1.2.1 ++ (cP dT (a_p1 9) u1.2.2))))) := hD.perm (wj_back [cSP a_p1, cW dT (a_p1 4) g_p1_world, cW dT (a_p1 5) u1.1, cP dT (a_p1 8) u1.2.1, cP dT (a_p1 9) u1.2.2] [] [0, 1, 2, 3, 4] rfl)
  exact rt_i hx hb hr hlk hK hS ((u1.1, u1.2.1, u1.2.2) : TW × TP × TP) (ret2 h) hP hD dL_tryScript_6

def f_L_trySimulate (g_p1_world : TW) (g_p1_copy : TW) (g_p1_chosen : TP) (g_p1_other : TP) (v1 : Int64) (v3 : Int32) : Option (Int32 × (TW × TP × TP)) :=
  ((f_X8_simulate g_p1_world g_p1_copy g_p1_chosen g_p1_other v1 v3).bind fun o1 => (fun u1 => o1.1.elim (fun k1 => (if k1 = 0 then (some ((-9999002 : Int32), (u1.1, u1.2.1, u1.2.2))) else none)) (fun r1 => (some (r1, (u1.1, u1.2.1, u1.2.2))))) o1.2)
set_option maxHeartbeats 8000000 in
set_option maxRecDepth 100000 in
theorem c_L_trySimulate (l : Launch) (hlt : l.stackTraces = false) (D : va_G) (dT : Nat → ClassId) (a_p1 : Nat → Nat → Nat) (g_p1_world : TW) (g_p1_copy : TW) (g_p1_chosen : TP) (g_p1_other : TP) (v1 : Int64) (v3 : Int32) (o : (Int32 × (TW × TP × TP))) (h : f_L_trySimulate g_p1_world g_p1_copy g_p1_chosen g_p1_other v1 v3 = some o) (sz : Nat) : Met l yL_trySimulate (Cond.codeWith yL_trySimulate cL_trySimulate 5 (some .int) [(0, 6, 7, 16)] :: TB) { frames := 8, cells := 1, slots := 6, locals := 196 } (va_Pc [.ref (a_p1 0 0), .long v1, .int v3] (cPre D dT (cSP a_p1 ++ (cW dT (a_p1 4) g_p1_world ++ (cW dT (a_p1 5) g_p1_copy ++ (cP dT (a_p1 8) g_p1_chosen ++ (cP dT (a_p1 9) g_p1_other))))) sz)) (va_Qi (fun (r : Int32) (u : TW × TP × TP) => r = o.1 ∧ u = o.2) (fun u t => cAt D dT (va_A (cSP a_p1 ++ (cW dT (a_p1 4) g_p1_world ++ (cW dT (a_p1 5) g_p1_copy ++ (cP dT (a_p1 8) g_p1_chosen ++ (cP dT (a_p1 9) g_p1_other))))) sz) (cSP a_p1 ++ (cW dT (a_p1 4) g_p1_world ++ (cW dT (a_p1 5) (u.1) ++ (cP dT (a_p1 8) (u.2.1) ++ (cP dT (a_p1 9) (u.2.2)))))) t) (va_A (cSP a_p1 ++ (cW dT (a_p1 4) g_p1_world ++ (cW dT (a_p1 5) g_p1_copy ++ (cP dT (a_p1 8) g_p1_chosen ++ (cP dT (a_p1 9) g_p1_other))))) sz)) 1 6 (va_A (cSP a_p1 ++ (cW dT (a_p1 4) g_p1_world ++ (cW dT (a_p1 5) g_p1_copy ++ (cP dT (a_p1 8) g_p1_chosen ++ (cP dT (a_p1 9) g_p1_other))))) sz) := by
  refine mStartH (WS := (cSP a_p1 ++ (cW dT (a_p1 4) g_p1_world ++ (cW dT (a_p1 5) g_p1_copy ++ (cP dT (a_p1 8) g_p1_chosen ++ (cP dT (a_p1 9) g_p1_other)))))) (Qc := fun A => va_Qi (fun (r : Int32) (u : TW × TP × TP) => r = o.1 ∧ u = o.2) (fun u t => cAt D dT A (cSP a_p1 ++ (cW dT (a_p1 4) g_p1_world ++ (cW dT (a_p1 5) (u.1) ++ (cP dT (a_p1 8) (u.2.1) ++ (cP dT (a_p1 9) (u.2.2)))))) t) A) RL rfl (by decide) (Nat.le_of_ble_eq_true rfl) ?_ sz
  intro p e s m below meth c A ls hx hb hml hr hlk htab hts hqs hown hE hA hK hP hD hS hl
  have hl : lv_has ls 5 [(0, .ref (a_p1 0 0)), (1, .long v1), (3, .int v3)] := hl
  unfold f_L_trySimulate at h
  refine lv_aload_n hx hb dL_trySimulate_0 rfl (lv_at hl 0 rfl) ?_
  refine lv_lload_n hx hb dL_trySimulate_1 rfl (lv_at hl 1 rfl) ?_
  refine lv_iload_n hx hb dL_trySimulate_2 rfl (lv_at hl 2 rfl) ?_
  obtain ⟨o1, e1, h⟩ := obind h
  have hPq : va_P D vwCl ((cSP a_p1 ++ (cW dT (a_p1 4) g_p1_world ++ (cW dT (a_p1 5) g_p1_copy ++ (cP dT (a_p1 8) g_p1_chosen ++ (cP dT (a_p1 9) g_p1_other))))) ++ ([] : va_W)) _ := hP.perm (wj_split [cSP a_p1, cW dT (a_p1 4) g_p1_world, cW dT (a_p1 5) g_p1_copy, cP dT (a_p1 8) g_p1_chosen, cP dT (a_p1 9) g_p1_other] [0, 1, 2, 3, 4] [] rfl)
  have hDq : va_D A ((cSP a_p1 ++ (cW dT (a_p1 4) g_p1_world ++ (cW dT (a_p1 5) g_p1_copy ++ (cP dT (a_p1 8) g_p1_chosen ++ (cP dT (a_p1 9) g_p1_other))))) ++ ([] : va_W)) := hD.perm (wj_split [cSP a_p1, cW dT (a_p1 4) g_p1_world, cW dT (a_p1 5) g_p1_copy, cP dT (a_p1 8) g_p1_chosen, cP dT (a_p1 9) g_p1_other] [0, 1, 2, 3, 4] [] rfl)
  have hPc := hPq.left
  have hDc := hDq.left
  have hFc := va_freeL hDq hS hA
  refine xcl_iL (wr := ([] : va_W)) (vx_runV (As := [.long v1, .int v3]) (rest := []) ⟨hx, hb, hml, hown, hts⟩ (c_X8_simulate l hlt D dT a_p1 g_p1_world g_p1_copy g_p1_chosen g_p1_other v1 v3 o1 e1 _) (cwV 2 hts (TB_V w_580 w_581 w_582 w_33 w_583) rfl rfl rfl ⟨rfl, nd_X8_simulate⟩ ⟨Nat.le_of_ble_eq_true rfl, Nat.le_of_ble_eq_true rfl⟩) (cPre.V hPc hDc hK hE hS hFc (va_recv hK hPc (ci := 7) (q0 := 0) rfl rfl)) rfl rfl hl.1 rfl (lv_room (Nat.le_of_ble_eq_true rfl)) dL_trySimulate_3 ⟨Nat.le_of_ble_eq_true rfl, Nat.le_of_ble_eq_true rfl⟩) hPq hDq hS hFc (fun k1 u1 E1 ce1 q1 H locs hw hEk hP hD hS hxc hxv hxl => ?_) (fun r1 u1 H locs hw hP hD hS => ?_)
  · have hw := xoP_inv hw
    subst hw
    have hP : va_P D vwCl (cSP a_p1 ++ (cW dT (a_p1 4) g_p1_world ++ (cW dT (a_p1 5) u1.1 ++ (cP dT (a_p1 8) u1.2.1 ++ (cP dT (a_p1 9) u1.2.2))))) H := hP.perm (wj_back [cSP a_p1, cW dT (a_p1 4) g_p1_world, cW dT (a_p1 5) u1.1, cP dT (a_p1 8) u1.2.1, cP dT (a_p1 9) u1.2.2] [] [0, 1, 2, 3, 4] rfl)
    have hD : va_D A (cSP a_p1 ++ (cW dT (a_p1 4) g_p1_world ++ (cW dT (a_p1 5) u1.1 ++ (cP dT (a_p1 8) u1.2.1 ++ (cP dT (a_p1 9) u1.2.2))))) := hD.perm (wj_back [cSP a_p1, cW dT (a_p1 4) g_p1_world, cW dT (a_p1 5) u1.1, cP dT (a_p1 8) u1.2.1, cP dT (a_p1 9) u1.2.2] [] [0, 1, 2, 3, 4] rfl)
    by_cases c2 : k1 = 0
    · replace h := iteT c2 h
      subst c2
      have hEk : E1 = EXI := hEk
      refine vx_catch (name := EXI) (E := E1) hown [] ⟨0, 6, 7, 16⟩ [] (htab.trans rfl) (fun z hz => absurd hz List.not_mem_nil) rfl (by decide) (hqs _ w_282) (by rw [hEk]; exact va_Nw.use rfl (hE.2.2.1 (EXI, EXI) (by decide +kernel))) hxc hxv hxl ?_
      refine lv_astore (lv' := [(4, .ref q1), (0, .ref (a_p1 0 0)), (1, .long v1), (3, .int v3)]) hx hb dL_trySimulate_7 hl (by decide) rfl (fun ls hl => ?_)
      refine lv_ldc (v := -9999002) hx hb hown (hqs _ w_576) dL_trySimulate_9 ?_
      exact rt_i hx hb hr hlk hK hS ((u1.1, u1.2.1, u1.2.2) : TW × TP × TP) (ret2 h) hP hD dL_trySimulate_11
    replace h := iteF c2 h
    exact nomatch h
  subst hw
  replace h := sumR h
  have hP : va_P D vwCl (cSP a_p1 ++ (cW dT (a_p1 4) g_p1_world ++ (cW dT (a_p1 5) u1.1 ++ (cP dT (a_p1 8) u1.2.1 ++ (cP dT (a_p1 9) u1.2.2))))) H := hP.perm (wj_back [cSP a_p1, cW dT (a_p1 4) g_p1_world, cW dT (a_p1 5) u1.1, cP dT (a_p1 8) u1.2.1, cP dT (a_p1 9) u1.2.2] [] [0, 1, 2, 3, 4] rfl)
  have hD : va_D A (cSP a_p1 ++ (cW dT (a_p1 4) g_p1_world ++ (cW dT (a_p1 5) u1.1 ++ (cP dT (a_p1 8) u1.2.1 ++ (cP dT (a_p1 9) u1.2.2))))) := hD.perm (wj_back [cSP a_p1, cW dT (a_p1 4) g_p1_world, cW dT (a_p1 5) u1.1, cP dT (a_p1 8) u1.2.1, cP dT (a_p1 9) u1.2.2] [] [0, 1, 2, 3, 4] rfl)
  exact rt_i hx hb hr hlk hK hS ((u1.1, u1.2.1, u1.2.2) : TW × TP × TP) (ret2 h) hP hD dL_trySimulate_6

def f_L_tryAppend (g_p1_text : TT) (v1 : Int32) : Option (Int32 × (TT)) :=
  ((f_X8_append g_p1_text v1).bind fun o1 => (fun u1 => o1.1.elim (fun k1 => (if k1 = 0 then (some ((-9999002 : Int32), u1)) else (if k1 = 1 then (some ((-9999003 : Int32), u1)) else none))) (fun r1 => (some (r1, u1)))) o1.2)
set_option maxHeartbeats 8000000 in
set_option maxRecDepth 100000 in
theorem c_L_tryAppend (l : Launch) (hlt : l.stackTraces = false) (D : va_G) (dT : Nat → ClassId) (a_p1 : Nat → Nat → Nat) (g_p1_text : TT) (v1 : Int32) (o : (Int32 × (TT))) (h : f_L_tryAppend g_p1_text v1 = some o) (sz : Nat) : Met l yL_tryAppend (Cond.codeWith yL_tryAppend cL_tryAppend 3 (some .int) [(0, 5, 6, 16), (0, 5, 10, 37)] :: TB) { frames := 8, cells := 2, slots := 12, locals := 133 } (va_Pc [.ref (a_p1 0 0), .int v1] (cPre D dT (cSP a_p1 ++ (cT dT (a_p1 1) g_p1_text)) sz)) (va_Qi (fun (r : Int32) (u : TT) => r = o.1 ∧ u = o.2) (fun u t => cAt D dT (va_A (cSP a_p1 ++ (cT dT (a_p1 1) g_p1_text)) sz) (cSP a_p1 ++ (cT dT (a_p1 1) u)) t) (va_A (cSP a_p1 ++ (cT dT (a_p1 1) g_p1_text)) sz)) 2 12 (va_A (cSP a_p1 ++ (cT dT (a_p1 1) g_p1_text)) sz) := by
  refine mStartH (WS := (cSP a_p1 ++ (cT dT (a_p1 1) g_p1_text))) (Qc := fun A => va_Qi (fun (r : Int32) (u : TT) => r = o.1 ∧ u = o.2) (fun u t => cAt D dT A (cSP a_p1 ++ (cT dT (a_p1 1) u)) t) A) RL rfl (by decide) (Nat.le_of_ble_eq_true rfl) ?_ sz
  intro p e s m below meth c A ls hx hb hml hr hlk htab hts hqs hown hE hA hK hP hD hS hl
  have hl : lv_has ls 3 [(0, .ref (a_p1 0 0)), (1, .int v1)] := hl
  unfold f_L_tryAppend at h
  refine lv_aload_n hx hb dL_tryAppend_0 rfl (lv_at hl 0 rfl) ?_
  refine lv_iload_n hx hb dL_tryAppend_1 rfl (lv_at hl 1 rfl) ?_
  obtain ⟨o1, e1, h⟩ := obind h
  have hPq : va_P D vwCl ((cSP a_p1 ++ (cT dT (a_p1 1) g_p1_text)) ++ ([] : va_W)) _ := hP.perm (wj_split [cSP a_p1, cT dT (a_p1 1) g_p1_text] [0, 1] [] rfl)
  have hDq : va_D A ((cSP a_p1 ++ (cT dT (a_p1 1) g_p1_text)) ++ ([] : va_W)) := hD.perm (wj_split [cSP a_p1, cT dT (a_p1 1) g_p1_text] [0, 1] [] rfl)
  have hPc := hPq.left
  have hDc := hDq.left
  have hFc := va_freeL hDq hS hA
  refine xcl_iL (wr := ([] : va_W)) (vx_runV (As := [.int v1]) (rest := []) ⟨hx, hb, hml, hown, hts⟩ (c_X8_append l hlt D dT a_p1 g_p1_text v1 o1 e1 _) (cwV 1 hts (TB_V w_606 w_607 w_608 w_33 w_609) rfl rfl rfl ⟨rfl, nd_X8_append⟩ ⟨Nat.le_of_ble_eq_true rfl, Nat.le_of_ble_eq_true rfl⟩) (cPre.V hPc hDc hK hE hS hFc (va_recv hK hPc (ci := 7) (q0 := 0) rfl rfl)) rfl rfl hl.1 rfl (lv_room (Nat.le_of_ble_eq_true rfl)) dL_tryAppend_2 ⟨Nat.le_of_ble_eq_true rfl, Nat.le_of_ble_eq_true rfl⟩) hPq hDq hS hFc (fun k1 u1 E1 ce1 q1 H locs hw hEk hP hD hS hxc hxv hxl => ?_) (fun r1 u1 H locs hw hP hD hS => ?_)
  · have hw := xoP_inv hw
    subst hw
    have hP : va_P D vwCl (cSP a_p1 ++ (cT dT (a_p1 1) u1)) H := hP.perm (wj_back [cSP a_p1, cT dT (a_p1 1) u1] [] [0, 1] rfl)
    have hD : va_D A (cSP a_p1 ++ (cT dT (a_p1 1) u1)) := hD.perm (wj_back [cSP a_p1, cT dT (a_p1 1) u1] [] [0, 1] rfl)
    by_cases c2 : k1 = 0
    · replace h := iteT c2 h
      subst c2
      have hEk : E1 = EXI := hEk
      refine vx_catch (name := EXI) (E := E1) hown [] ⟨0, 5, 6, 16⟩ [⟨0, 5, 10, 37⟩] (htab.trans rfl) (fun z hz => absurd hz List.not_mem_nil) rfl (by decide) (hqs _ w_282) (by rw [hEk]; exact va_Nw.use rfl (hE.2.2.1 (EXI, EXI) (by decide +kernel))) hxc hxv hxl ?_
      refine lv_astore_n (lv' := [(2, .ref q1), (0, .ref (a_p1 0 0)), (1, .int v1)]) hx hb dL_tryAppend_6 rfl hl (by decide) rfl (fun ls hl => ?_)
      refine lv_ldc (v := -9999002) hx hb hown (hqs _ w_576) dL_tryAppend_7 ?_
      exact rt_i hx hb hr hlk hK hS (u1 : TT) (ret2 h) hP hD dL_tryAppend_9
    replace h := iteF c2 h
    by_cases c3 : k1 = 1
    · replace h := iteT c3 h
      subst c3
      have hEk : E1 = EXS := hEk
      refine vx_catch (name := EXS) (E := E1) hown [(⟨0, 5, 6, 16⟩ : ExceptionTableEntry)] ⟨0, 5, 10, 37⟩ [] (htab.trans rfl) (fun z hz => by
      simp only [List.mem_cons, List.not_mem_nil, or_false] at hz
      rcases hz with rfl
      · exact Or.inr ⟨by decide, EXI, hqs _ w_282, by rw [hEk]; exact hE.2.2.2.1 (EXS, EXI) (by decide +kernel)⟩) rfl (by decide) (hqs _ w_605) (by rw [hEk]; exact va_Nw.use rfl (hE.2.2.1 (EXS, EXS) (by decide +kernel))) hxc hxv hxl ?_
      refine lv_astore_n (lv' := [(2, .ref q1), (0, .ref (a_p1 0 0)), (1, .int v1)]) hx hb dL_tryAppend_10 rfl hl (by decide) rfl (fun ls hl => ?_)
      refine lv_ldc (v := -9999003) hx hb hown (hqs _ w_635) dL_tryAppend_11 ?_
      exact rt_i hx hb hr hlk hK hS (u1 : TT) (ret2 h) hP hD dL_tryAppend_13
    replace h := iteF c3 h
    exact nomatch h
  subst hw
  replace h := sumR h
  have hP : va_P D vwCl (cSP a_p1 ++ (cT dT (a_p1 1) u1)) H := hP.perm (wj_back [cSP a_p1, cT dT (a_p1 1) u1] [] [0, 1] rfl)
  have hD : va_D A (cSP a_p1 ++ (cT dT (a_p1 1) u1)) := hD.perm (wj_back [cSP a_p1, cT dT (a_p1 1) u1] [] [0, 1] rfl)
  exact rt_i hx hb hr hlk hK hS (u1 : TT) (ret2 h) hP hD dL_tryAppend_5

def f_L_tryLoad (g_p1_text : TT) (g_p1_entryReader : TE) (g_p1_world : TW) (g_p1_history : TH) (g_p1_slots : TS) : Option (Int32 × (TE × TW × TH × TS)) :=
  ((f_X8_load g_p1_text g_p1_entryReader g_p1_world g_p1_history g_p1_slots).bind fun o1 => (fun u1 => o1.1.elim (fun k1 => (if k1 = 1 then (some ((-9999003 : Int32), (u1.1, u1.2.1, u1.2.2.1, u1.2.2.2))) else none)) (fun r1 => (some (r1, (u1.1, u1.2.1, u1.2.2.1, u1.2.2.2))))) o1.2)
set_option maxHeartbeats 8000000 in
set_option maxRecDepth 100000 in
theorem c_L_tryLoad (l : Launch) (hlt : l.stackTraces = false) (D : va_G) (dT : Nat → ClassId) (a_p1 : Nat → Nat → Nat) (g_p1_text : TT) (g_p1_entryReader : TE) (g_p1_world : TW) (g_p1_history : TH) (g_p1_slots : TS) (o : (Int32 × (TE × TW × TH × TS))) (h : f_L_tryLoad g_p1_text g_p1_entryReader g_p1_world g_p1_history g_p1_slots = some o) (sz : Nat) : Met l yL_tryLoad (Cond.codeWith yL_tryLoad cL_tryLoad 2 (some .int) [(0, 4, 5, 37)] :: TB) { frames := 7, cells := 1, slots := 6, locals := 130 } (va_Pc [.ref (a_p1 0 0)] (cPre D dT (cSP a_p1 ++ (cT dT (a_p1 1) g_p1_text ++ (cE dT (a_p1 2) g_p1_entryReader ++ (cW dT (a_p1 4) g_p1_world ++ (cH dT (a_p1 6) g_p1_history ++ (cS dT (a_p1 7) g_p1_slots)))))) sz)) (va_Qi (fun (r : Int32) (u : TE × TW × TH × TS) => r = o.1 ∧ u = o.2) (fun u t => cAt D dT (va_A (cSP a_p1 ++ (cT dT (a_p1 1) g_p1_text ++ (cE dT (a_p1 2) g_p1_entryReader ++ (cW dT (a_p1 4) g_p1_world ++ (cH dT (a_p1 6) g_p1_history ++ (cS dT (a_p1 7) g_p1_slots)))))) sz) (cSP a_p1 ++ (cT dT (a_p1 1) g_p1_text ++ (cE dT (a_p1 2) (u.1) ++ (cW dT (a_p1 4) (u.2.1) ++ (cH dT (a_p1 6) (u.2.2.1) ++ (cS dT (a_p1 7) (u.2.2.2))))))) t) (va_A (cSP a_p1 ++ (cT dT (a_p1 1) g_p1_text ++ (cE dT (a_p1 2) g_p1_entryReader ++ (cW dT (a_p1 4) g_p1_world ++ (cH dT (a_p1 6) g_p1_history ++ (cS dT (a_p1 7) g_p1_slots)))))) sz)) 1 6 (va_A (cSP a_p1 ++ (cT dT (a_p1 1) g_p1_text ++ (cE dT (a_p1 2) g_p1_entryReader ++ (cW dT (a_p1 4) g_p1_world ++ (cH dT (a_p1 6) g_p1_history ++ (cS dT (a_p1 7) g_p1_slots)))))) sz) := by
  refine mStartH (WS := (cSP a_p1 ++ (cT dT (a_p1 1) g_p1_text ++ (cE dT (a_p1 2) g_p1_entryReader ++ (cW dT (a_p1 4) g_p1_world ++ (cH dT (a_p1 6) g_p1_history ++ (cS dT (a_p1 7) g_p1_slots))))))) (Qc := fun A => va_Qi (fun (r : Int32) (u : TE × TW × TH × TS) => r = o.1 ∧ u = o.2) (fun u t => cAt D dT A (cSP a_p1 ++ (cT dT (a_p1 1) g_p1_text ++ (cE dT (a_p1 2) (u.1) ++ (cW dT (a_p1 4) (u.2.1) ++ (cH dT (a_p1 6) (u.2.2.1) ++ (cS dT (a_p1 7) (u.2.2.2))))))) t) A) RL rfl (by decide) (Nat.le_of_ble_eq_true rfl) ?_ sz
  intro p e s m below meth c A ls hx hb hml hr hlk htab hts hqs hown hE hA hK hP hD hS hl
  have hl : lv_has ls 2 [(0, .ref (a_p1 0 0))] := hl
  unfold f_L_tryLoad at h
  refine lv_aload_n hx hb dL_tryLoad_0 rfl (lv_at hl 0 rfl) ?_
  obtain ⟨o1, e1, h⟩ := obind h
  have hPq : va_P D vwCl ((cSP a_p1 ++ (cT dT (a_p1 1) g_p1_text ++ (cE dT (a_p1 2) g_p1_entryReader ++ (cW dT (a_p1 4) g_p1_world ++ (cH dT (a_p1 6) g_p1_history ++ (cS dT (a_p1 7) g_p1_slots)))))) ++ ([] : va_W)) _ := hP.perm (wj_split [cSP a_p1, cT dT (a_p1 1) g_p1_text, cE dT (a_p1 2) g_p1_entryReader, cW dT (a_p1 4) g_p1_world, cH dT (a_p1 6) g_p1_history, cS dT (a_p1 7) g_p1_slots] [0, 1, 2, 3, 4, 5] [] rfl)
  have hDq : va_D A ((cSP a_p1 ++ (cT dT (a_p1 1) g_p1_text ++ (cE dT (a_p1 2) g_p1_entryReader ++ (cW dT (a_p1 4) g_p1_world ++ (cH dT (a_p1 6) g_p1_history ++ (cS dT (a_p1 7) g_p1_slots)))))) ++ ([] : va_W)) := hD.perm (wj_split [cSP a_p1, cT dT (a_p1 1) g_p1_text, cE dT (a_p1 2) g_p1_entryReader, cW dT (a_p1 4) g_p1_world, cH dT (a_p1 6) g_p1_history, cS dT (a_p1 7) g_p1_slots] [0, 1, 2, 3, 4, 5] [] rfl)
  have hPc := hPq.left
  have hDc := hDq.left
  have hFc := va_freeL hDq hS hA
  refine xcl_iL (wr := ([] : va_W)) (vx_runV (As := []) (rest := []) ⟨hx, hb, hml, hown, hts⟩ (c_X8_load l hlt D dT a_p1 g_p1_text g_p1_entryReader g_p1_world g_p1_history g_p1_slots o1 e1 _) (cwV 0 hts (TB_V w_639 w_640 w_641 w_33 w_642) rfl rfl rfl ⟨rfl, nd_X8_load⟩ ⟨Nat.le_of_ble_eq_true rfl, Nat.le_of_ble_eq_true rfl⟩) (cPre.V hPc hDc hK hE hS hFc (va_recv hK hPc (ci := 7) (q0 := 0) rfl rfl)) rfl rfl hl.1 rfl (lv_room (Nat.le_of_ble_eq_true rfl)) dL_tryLoad_1 ⟨Nat.le_of_ble_eq_true rfl, Nat.le_of_ble_eq_true rfl⟩) hPq hDq hS hFc (fun k1 u1 E1 ce1 q1 H locs hw hEk hP hD hS hxc hxv hxl => ?_) (fun r1 u1 H locs hw hP hD hS => ?_)
  · have hw := xoP_inv hw
    subst hw
    have hP : va_P D vwCl (cSP a_p1 ++ (cT dT (a_p1 1) g_p1_text ++ (cE dT (a_p1 2) u1.1 ++ (cW dT (a_p1 4) u1.2.1 ++ (cH dT (a_p1 6) u1.2.2.1 ++ (cS dT (a_p1 7) u1.2.2.2)))))) H := hP.perm (wj_back [cSP a_p1, cT dT (a_p1 1) g_p1_text, cE dT (a_p1 2) u1.1, cW dT (a_p1 4) u1.2.1, cH dT (a_p1 6) u1.2.2.1, cS dT (a_p1 7) u1.2.2.2] [] [0, 1, 2, 3, 4, 5] rfl)
    have hD : va_D A (cSP a_p1 ++ (cT dT (a_p1 1) g_p1_text ++ (cE dT (a_p1 2) u1.1 ++ (cW dT (a_p1 4) u1.2.1 ++ (cH dT (a_p1 6) u1.2.2.1 ++ (cS dT (a_p1 7) u1.2.2.2)))))) := hD.perm (wj_back [cSP a_p1, cT dT (a_p1 1) g_p1_text, cE dT (a_p1 2) u1.1, cW dT (a_p1 4) u1.2.1, cH dT (a_p1 6) u1.2.2.1, cS dT (a_p1 7) u1.2.2.2] [] [0, 1, 2, 3, 4, 5] rfl)
    by_cases c2 : k1 = 1
    · replace h := iteT c2 h
      subst c2
      have hEk : E1 = EXS := hEk
      refine vx_catch (name := EXS) (E := E1) hown [] ⟨0, 4, 5, 37⟩ [] (htab.trans rfl) (fun z hz => absurd hz List.not_mem_nil) rfl (by decide) (hqs _ w_605) (by rw [hEk]; exact va_Nw.use rfl (hE.2.2.1 (EXS, EXS) (by decide +kernel))) hxc hxv hxl ?_
      refine lv_astore_n (lv' := [(1, .ref q1), (0, .ref (a_p1 0 0))]) hx hb dL_tryLoad_5 rfl hl (by decide) rfl (fun ls hl => ?_)
      refine lv_ldc (v := -9999003) hx hb hown (hqs _ w_635) dL_tryLoad_6 ?_
      exact rt_i hx hb hr hlk hK hS ((u1.1, u1.2.1, u1.2.2.1, u1.2.2.2) : TE × TW × TH × TS) (ret2 h) hP hD dL_tryLoad_8
    replace h := iteF c2 h
    exact nomatch h
  subst hw
  replace h := sumR h
  have hP : va_P D vwCl (cSP a_p1 ++ (cT dT (a_p1 1) g_p1_text ++ (cE dT (a_p1 2) u1.1 ++ (cW dT (a_p1 4) u1.2.1 ++ (cH dT (a_p1 6) u1.2.2.1 ++ (cS dT (a_p1 7) u1.2.2.2)))))) H := hP.perm (wj_back [cSP a_p1, cT dT (a_p1 1) g_p1_text, cE dT (a_p1 2) u1.1, cW dT (a_p1 4) u1.2.1, cH dT (a_p1 6) u1.2.2.1, cS dT (a_p1 7) u1.2.2.2] [] [0, 1, 2, 3, 4, 5] rfl)
  have hD : va_D A (cSP a_p1 ++ (cT dT (a_p1 1) g_p1_text ++ (cE dT (a_p1 2) u1.1 ++ (cW dT (a_p1 4) u1.2.1 ++ (cH dT (a_p1 6) u1.2.2.1 ++ (cS dT (a_p1 7) u1.2.2.2)))))) := hD.perm (wj_back [cSP a_p1, cT dT (a_p1 1) g_p1_text, cE dT (a_p1 2) u1.1, cW dT (a_p1 4) u1.2.1, cH dT (a_p1 6) u1.2.2.1, cS dT (a_p1 7) u1.2.2.2] [] [0, 1, 2, 3, 4, 5] rfl)
  exact rt_i hx hb hr hlk hK hS ((u1.1, u1.2.1, u1.2.2.1, u1.2.2.2) : TE × TW × TH × TS) (ret2 h) hP hD dL_tryLoad_4

def f_L_tryAbout (g_p1_world : TW) (v1 : Int32) : Option (Int32 × (Unit)) :=
  ((f_X8_about g_p1_world v1).bind fun o1 => (fun u1 => o1.1.elim (fun k1 => (if k1 = 0 then (some ((-9999002 : Int32), ())) else none)) (fun r1 => (some (r1, ())))) o1.2)
set_option maxHeartbeats 8000000 in
set_option maxRecDepth 100000 in
theorem c_L_tryAbout (l : Launch) (hlt : l.stackTraces = false) (D : va_G) (dT : Nat → ClassId) (a_p1 : Nat → Nat → Nat) (g_p1_world : TW) (v1 : Int32) (o : (Int32 × (Unit))) (h : f_L_tryAbout g_p1_world v1 = some o) (sz : Nat) : Met l yL_tryAbout (Cond.codeWith yL_tryAbout cL_tryAbout 3 (some .int) [(0, 5, 6, 16)] :: TB) { frames := 8, cells := 1, slots := 6, locals := 133 } (va_Pc [.ref (a_p1 0 0), .int v1] (cPre D dT (cSP a_p1 ++ (cW dT (a_p1 4) g_p1_world)) sz)) (va_Qi (fun (r : Int32) (u : Unit) => r = o.1 ∧ u = o.2) (fun u t => cAt D dT (va_A (cSP a_p1 ++ (cW dT (a_p1 4) g_p1_world)) sz) (cSP a_p1 ++ (cW dT (a_p1 4) g_p1_world)) t) (va_A (cSP a_p1 ++ (cW dT (a_p1 4) g_p1_world)) sz)) 1 6 (va_A (cSP a_p1 ++ (cW dT (a_p1 4) g_p1_world)) sz) := by
  refine mStartH (WS := (cSP a_p1 ++ (cW dT (a_p1 4) g_p1_world))) (Qc := fun A => va_Qi (fun (r : Int32) (u : Unit) => r = o.1 ∧ u = o.2) (fun u t => cAt D dT A (cSP a_p1 ++ (cW dT (a_p1 4) g_p1_world)) t) A) RL rfl (by decide) (Nat.le_of_ble_eq_true rfl) ?_ sz
  intro p e s m below meth c A ls hx hb hml hr hlk htab hts hqs hown hE hA hK hP hD hS hl
  have hl : lv_has ls 3 [(0, .ref (a_p1 0 0)), (1, .int v1)] := hl
  unfold f_L_tryAbout at h
  refine lv_aload_n hx hb dL_tryAbout_0 rfl (lv_at hl 0 rfl) ?_
  refine lv_iload_n hx hb dL_tryAbout_1 rfl (lv_at hl 1 rfl) ?_
  obtain ⟨o1, e1, h⟩ := obind h
  have hPq : va_P D vwCl ((cSP a_p1 ++ (cW dT (a_p1 4) g_p1_world)) ++ ([] : va_W)) _ := hP.perm (wj_split [cSP a_p1, cW dT (a_p1 4) g_p1_world] [0, 1] [] rfl)
  have hDq : va_D A ((cSP a_p1 ++ (cW dT (a_p1 4) g_p1_world)) ++ ([] : va_W)) := hD.perm (wj_split [cSP a_p1, cW dT (a_p1 4) g_p1_world] [0, 1] [] rfl)
  have hPc := hPq.left
  have hDc := hDq.left
  have hFc := va_freeL hDq hS hA
  refine xcl_iL (wr := ([] : va_W)) (vx_runV (As := [.int v1]) (rest := []) ⟨hx, hb, hml, hown, hts⟩ (c_X8_about l hlt D dT a_p1 g_p1_world v1 o1 e1 _) (cwV 1 hts (TB_V w_742 w_743 w_744 w_33 w_745) rfl rfl rfl ⟨rfl, nd_X8_about⟩ ⟨Nat.le_of_ble_eq_true rfl, Nat.le_of_ble_eq_true rfl⟩) (cPre.V hPc hDc hK hE hS hFc (va_recv hK hPc (ci := 7) (q0 := 0) rfl rfl)) rfl rfl hl.1 rfl (lv_room (Nat.le_of_ble_eq_true rfl)) dL_tryAbout_2 ⟨Nat.le_of_ble_eq_true rfl, Nat.le_of_ble_eq_true rfl⟩) hPq hDq hS hFc (fun k1 u1 E1 ce1 q1 H locs hw hEk hP hD hS hxc hxv hxl => ?_) (fun r1 u1 H locs hw hP hD hS => ?_)
  · have hw := xoP_inv hw
    subst hw
    have hP : va_P D vwCl (cSP a_p1 ++ (cW dT (a_p1 4) g_p1_world)) H := hP.perm (wj_back [cSP a_p1, cW dT (a_p1 4) g_p1_world] [] [0, 1] rfl)
    have hD : va_D A (cSP a_p1 ++ (cW dT (a_p1 4) g_p1_world)) := hD.perm (wj_back [cSP a_p1, cW dT (a_p1 4) g_p1_world] [] [0, 1] rfl)
    by_cases c2 : k1 = 0
    · replace h := iteT c2 h
      subst c2
      have hEk : E1 = EXI := hEk
      refine vx_catch (name := EXI) (E := E1) hown [] ⟨0, 5, 6, 16⟩ [] (htab.trans rfl) (fun z hz => absurd hz List.not_mem_nil) rfl (by decide) (hqs _ w_282) (by rw [hEk]; exact va_Nw.use rfl (hE.2.2.1 (EXI, EXI) (by decide +kernel))) hxc hxv hxl ?_
      refine lv_astore_n (lv' := [(2, .ref q1), (0, .ref (a_p1 0 0)), (1, .int v1)]) hx hb dL_tryAbout_6 rfl hl (by decide) rfl (fun ls hl => ?_)
      refine lv_ldc (v := -9999002) hx hb hown (hqs _ w_576) dL_tryAbout_7 ?_
      exact rt_i hx hb hr hlk hK hS (() : Unit) (ret2 h) hP hD dL_tryAbout_9
    replace h := iteF c2 h
    exact nomatch h
  subst hw
  replace h := sumR h
  have hP : va_P D vwCl (cSP a_p1 ++ (cW dT (a_p1 4) g_p1_world)) H := hP.perm (wj_back [cSP a_p1, cW dT (a_p1 4) g_p1_world] [] [0, 1] rfl)
  have hD : va_D A (cSP a_p1 ++ (cW dT (a_p1 4) g_p1_world)) := hD.perm (wj_back [cSP a_p1, cW dT (a_p1 4) g_p1_world] [] [0, 1] rfl)
  exact rt_i hx hb hr hlk hK hS (() : Unit) (ret2 h) hP hD dL_tryAbout_5

def f_L_trySize (g_p1_world : TW) (v1 : Int32) : Option (Int32 × (Unit)) :=
  ((f_X8_size g_p1_world v1).bind fun o1 => (fun u1 => o1.1.elim (fun k1 => (if k1 = 2 then (some ((-9999001 : Int32), ())) else none)) (fun r1 => (some (r1, ())))) o1.2)
set_option maxHeartbeats 8000000 in
set_option maxRecDepth 100000 in
theorem c_L_trySize (l : Launch) (hlt : l.stackTraces = false) (D : va_G) (dT : Nat → ClassId) (a_p1 : Nat → Nat → Nat) (g_p1_world : TW) (v1 : Int32) (o : (Int32 × (Unit))) (h : f_L_trySize g_p1_world v1 = some o) (sz : Nat) : Met l yL_trySize (Cond.codeWith yL_trySize cL_trySize 3 (some .int) [(0, 5, 6, 13)] :: TB) { frames := 8, cells := 1, slots := 6, locals := 132 } (va_Pc [.ref (a_p1 0 0), .int v1] (cPre D dT (cSP a_p1 ++ (cW dT (a_p1 4) g_p1_world)) sz)) (va_Qi (fun (r : Int32) (u : Unit) => r = o.1 ∧ u = o.2) (fun u t => cAt D dT (va_A (cSP a_p1 ++ (cW dT (a_p1 4) g_p1_world)) sz) (cSP a_p1 ++ (cW dT (a_p1 4) g_p1_world)) t) (va_A (cSP a_p1 ++ (cW dT (a_p1 4) g_p1_world)) sz)) 1 6 (va_A (cSP a_p1 ++ (cW dT (a_p1 4) g_p1_world)) sz) := by
  refine mStartH (WS := (cSP a_p1 ++ (cW dT (a_p1 4) g_p1_world))) (Qc := fun A => va_Qi (fun (r : Int32) (u : Unit) => r = o.1 ∧ u = o.2) (fun u t => cAt D dT A (cSP a_p1 ++ (cW dT (a_p1 4) g_p1_world)) t) A) RL rfl (by decide) (Nat.le_of_ble_eq_true rfl) ?_ sz
  intro p e s m below meth c A ls hx hb hml hr hlk htab hts hqs hown hE hA hK hP hD hS hl
  have hl : lv_has ls 3 [(0, .ref (a_p1 0 0)), (1, .int v1)] := hl
  unfold f_L_trySize at h
  refine lv_aload_n hx hb dL_trySize_0 rfl (lv_at hl 0 rfl) ?_
  refine lv_iload_n hx hb dL_trySize_1 rfl (lv_at hl 1 rfl) ?_
  obtain ⟨o1, e1, h⟩ := obind h
  have hPq : va_P D vwCl ((cSP a_p1 ++ (cW dT (a_p1 4) g_p1_world)) ++ ([] : va_W)) _ := hP.perm (wj_split [cSP a_p1, cW dT (a_p1 4) g_p1_world] [0, 1] [] rfl)
  have hDq : va_D A ((cSP a_p1 ++ (cW dT (a_p1 4) g_p1_world)) ++ ([] : va_W)) := hD.perm (wj_split [cSP a_p1, cW dT (a_p1 4) g_p1_world] [0, 1] [] rfl)
  have hPc := hPq.left
  have hDc := hDq.left
  have hFc := va_freeL hDq hS hA
  refine xcl_iL (wr := ([] : va_W)) (vx_runV (As := [.int v1]) (rest := []) ⟨hx, hb, hml, hown, hts⟩ (c_X8_size l hlt D dT a_p1 g_p1_world v1 o1 e1 _) (cwV 1 hts (TB_V w_754 w_755 w_756 w_33 w_757) rfl rfl rfl ⟨rfl, nd_X8_size⟩ ⟨Nat.le_of_ble_eq_true rfl, Nat.le_of_ble_eq_true rfl⟩) (cPre.V hPc hDc hK hE hS hFc (va_recv hK hPc (ci := 7) (q0 := 0) rfl rfl)) rfl rfl hl.1 rfl (lv_room (Nat.le_of_ble_eq_true rfl)) dL_trySize_2 ⟨Nat.le_of_ble_eq_true rfl, Nat.le_of_ble_eq_true rfl⟩) hPq hDq hS hFc (fun k1 u1 E1 ce1 q1 H locs hw hEk hP hD hS hxc hxv hxl => ?_) (fun r1 u1 H locs hw hP hD hS => ?_)
  · have hw := xoP_inv hw
    subst hw
    have hP : va_P D vwCl (cSP a_p1 ++ (cW dT (a_p1 4) g_p1_world)) H := hP.perm (wj_back [cSP a_p1, cW dT (a_p1 4) g_p1_world] [] [0, 1] rfl)
    have hD : va_D A (cSP a_p1 ++ (cW dT (a_p1 4) g_p1_world)) := hD.perm (wj_back [cSP a_p1, cW dT (a_p1 4) g_p1_world] [] [0, 1] rfl)
    by_cases c2 : k1 = 2
    · replace h := iteT c2 h
      subst c2
      have hEk : E1 = EXB := hEk
      refine vx_catch (name := EXB) (E := E1) hown [] ⟨0, 5, 6, 13⟩ [] (htab.trans rfl) (fun z hz => absurd hz List.not_mem_nil) rfl (by decide) (hqs _ w_753) (by rw [hEk]; exact va_Nw.use rfl (hE.2.2.1 (EXB, EXB) (by decide +kernel))) hxc hxv hxl ?_
      refine lv_astore_n (lv' := [(2, .ref q1), (0, .ref (a_p1 0 0)), (1, .int v1)]) hx hb dL_trySize_6 rfl hl (by decide) rfl (fun ls hl => ?_)
      refine lv_ldc (v := -9999001) hx hb hown (hqs _ w_780) dL_trySize_7 ?_
      exact rt_i hx hb hr hlk hK hS (() : Unit) (ret2 h) hP hD dL_trySize_9
    replace h := iteF c2 h
    exact nomatch h
  subst hw
  replace h := sumR h
  have hP : va_P D vwCl (cSP a_p1 ++ (cW dT (a_p1 4) g_p1_world)) H := hP.perm (wj_back [cSP a_p1, cW dT (a_p1 4) g_p1_world] [] [0, 1] rfl)
  have hD : va_D A (cSP a_p1 ++ (cW dT (a_p1 4) g_p1_world)) := hD.perm (wj_back [cSP a_p1, cW dT (a_p1 4) g_p1_world] [] [0, 1] rfl)
  exact rt_i hx hb hr hlk hK hS (() : Unit) (ret2 h) hP hD dL_trySize_5

def f_L_tryPair (g_p1_world : TW) (v1 : Int32) (v2 : Int32) (v3 : Int32) : Option (Int32 × (Unit)) :=
  ((f_X8_pair g_p1_world v1 v2 v3).bind fun o1 => (fun u1 => o1.1.elim (fun k1 => (if k1 = 2 then (some ((-9999001 : Int32), ())) else (if k1 = 0 then (some ((-9999002 : Int32), ())) else none))) (fun r1 => (some (r1, ())))) o1.2)
set_option maxHeartbeats 8000000 in
set_option maxRecDepth 100000 in
theorem c_L_tryPair (l : Launch) (hlt : l.stackTraces = false) (D : va_G) (dT : Nat → ClassId) (a_p1 : Nat → Nat → Nat) (g_p1_world : TW) (v1 : Int32) (v2 : Int32) (v3 : Int32) (o : (Int32 × (Unit))) (h : f_L_tryPair g_p1_world v1 v2 v3 = some o) (sz : Nat) : Met l yL_tryPair (Cond.codeWith yL_tryPair cL_tryPair 5 (some .int) [(0, 7, 8, 13), (0, 7, 13, 16)] :: TB) { frames := 9, cells := 4, slots := 24, locals := 156 } (va_Pc [.ref (a_p1 0 0), .int v1, .int v2, .int v3] (cPre D dT (cSP a_p1 ++ (cW dT (a_p1 4) g_p1_world)) sz)) (va_Qi (fun (r : Int32) (u : Unit) => r = o.1 ∧ u = o.2) (fun u t => cAt D dT (va_A (cSP a_p1 ++ (cW dT (a_p1 4) g_p1_world)) sz) (cSP a_p1 ++ (cW dT (a_p1 4) g_p1_world)) t) (va_A (cSP a_p1 ++ (cW dT (a_p1 4) g_p1_world)) sz)) 4 24 (va_A (cSP a_p1 ++ (cW dT (a_p1 4) g_p1_world)) sz) := by
  refine mStartH (WS := (cSP a_p1 ++ (cW dT (a_p1 4) g_p1_world))) (Qc := fun A => va_Qi (fun (r : Int32) (u : Unit) => r = o.1 ∧ u = o.2) (fun u t => cAt D dT A (cSP a_p1 ++ (cW dT (a_p1 4) g_p1_world)) t) A) RL rfl (by decide) (Nat.le_of_ble_eq_true rfl) ?_ sz
  intro p e s m below meth c A ls hx hb hml hr hlk htab hts hqs hown hE hA hK hP hD hS hl
  have hl : lv_has ls 5 [(0, .ref (a_p1 0 0)), (1, .int v1), (2, .int v2), (3, .int v3)] := hl
  unfold f_L_tryPair at h
  refine lv_aload_n hx hb dL_tryPair_0 rfl (lv_at hl 0 rfl) ?_
  refine lv_iload_n hx hb dL_tryPair_1 rfl (lv_at hl 1 rfl) ?_
  refine lv_iload_n hx hb dL_tryPair_2 rfl (lv_at hl 2 rfl) ?_
  refine lv_iload_n hx hb dL_tryPair_3 rfl (lv_at hl 3 rfl) ?_
  obtain ⟨o1, e1, h⟩ := obind h
  have hPq : va_P D vwCl ((cSP a_p1 ++ (cW dT (a_p1 4) g_p1_world)) ++ ([] : va_W)) _ := hP.perm (wj_split [cSP a_p1, cW dT (a_p1 4) g_p1_world] [0, 1] [] rfl)
  have hDq : va_D A ((cSP a_p1 ++ (cW dT (a_p1 4) g_p1_world)) ++ ([] : va_W)) := hD.perm (wj_split [cSP a_p1, cW dT (a_p1 4) g_p1_world] [0, 1] [] rfl)
  have hPc := hPq.left
  have hDc := hDq.left
  have hFc := va_freeL hDq hS hA
  refine xcl_iL (wr := ([] : va_W)) (vx_runV (As := [.int v1, .int v2, .int v3]) (rest := []) ⟨hx, hb, hml, hown, hts⟩ (c_X8_pair l hlt D dT a_p1 g_p1_world v1 v2 v3 o1 e1 _) (cwV 3 hts (TB_V w_784 w_785 w_786 w_33 w_787) rfl rfl rfl ⟨rfl, nd_X8_pair⟩ ⟨Nat.le_of_ble_eq_true rfl, Nat.le_of_ble_eq_true rfl⟩) (cPre.V hPc hDc hK hE hS hFc (va_recv hK hPc (ci := 7) (q0 := 0) rfl rfl)) rfl rfl hl.1 rfl (lv_room (Nat.le_of_ble_eq_true rfl)) dL_tryPair_4 ⟨Nat.le_of_ble_eq_true rfl, Nat.le_of_ble_eq_true rfl⟩) hPq hDq hS hFc (fun k1 u1 E1 ce1 q1 H locs hw hEk hP hD hS hxc hxv hxl => ?_) (fun r1 u1 H locs hw hP hD hS => ?_)
  · have hw := xoP_inv hw
    subst hw
    have hP : va_P D vwCl (cSP a_p1 ++ (cW dT (a_p1 4) g_p1_world)) H := hP.perm (wj_back [cSP a_p1, cW dT (a_p1 4) g_p1_world] [] [0, 1] rfl)
    have hD : va_D A (cSP a_p1 ++ (cW dT (a_p1 4) g_p1_world)) := hD.perm (wj_back [cSP a_p1, cW dT (a_p1 4) g_p1_world] [] [0, 1] rfl)
    by_cases c2 : k1 = 2
    · replace h := iteT c2 h
      subst c2
      have hEk : E1 = EXB := hEk
      refine vx_catch (name := EXB) (E := E1) hown [] ⟨0, 7, 8, 13⟩ [⟨0, 7, 13, 16⟩] (htab.trans rfl) (fun z hz => absurd hz List.not_mem_nil) rfl (by decide) (hqs _ w_753) (by rw [hEk]; exact va_Nw.use rfl (hE.2.2.1 (EXB, EXB) (by decide +kernel))) hxc hxv hxl ?_
      refine lv_astore (lv' := [(4, .ref q1), (0, .ref (a_p1 0 0)), (1, .int v1), (2, .int v2), (3, .int v3)]) hx hb dL_tryPair_8 hl (by decide) rfl (fun ls hl => ?_)
      refine lv_ldc (v := -9999001) hx hb hown (hqs _ w_780) dL_tryPair_10 ?_
      exact rt_i hx hb hr hlk hK hS (() : Unit) (ret2 h) hP hD dL_tryPair_12
    replace h := iteF c2 h
    by_cases c3 : k1 = 0
    · replace h := iteT c3 h
      subst c3
      have hEk : E1 = EXI := hEk
      refine vx_catch (name := EXI) (E := E1) hown [(⟨0, 7, 8, 13⟩ : ExceptionTableEntry)] ⟨0, 7, 13, 16⟩ [] (htab.trans rfl) (fun z hz => by
      simp only [List.mem_cons, List.not_mem_nil, or_false] at hz
      rcases hz with rfl
      · exact Or.inr ⟨by decide, EXB, hqs _ w_753, by rw [hEk]; exact hE.2.2.2.1 (EXI, EXB) (by decide +kernel)⟩) rfl (by decide) (hqs _ w_282) (by rw [hEk]; exact va_Nw.use rfl (hE.2.2.1 (EXI, EXI) (by decide +kernel))) hxc hxv hxl ?_
      refine lv_astore (lv' := [(4, .ref q1), (0, .ref (a_p1 0 0)), (1, .int v1), (2, .int v2), (3, .int v3)]) hx hb dL_tryPair_13 hl (by decide) rfl (fun ls hl => ?_)
      refine lv_ldc (v := -9999002) hx hb hown (hqs _ w_576) dL_tryPair_15 ?_
      exact rt_i hx hb hr hlk hK hS (() : Unit) (ret2 h) hP hD dL_tryPair_17
    replace h := iteF c3 h
    exact nomatch h
  subst hw
  replace h := sumR h
  have hP : va_P D vwCl (cSP a_p1 ++ (cW dT (a_p1 4) g_p1_world)) H := hP.perm (wj_back [cSP a_p1, cW dT (a_p1 4) g_p1_world] [] [0, 1] rfl)
  have hD : va_D A (cSP a_p1 ++ (cW dT (a_p1 4) g_p1_world)) := hD.perm (wj_back [cSP a_p1, cW dT (a_p1 4) g_p1_world] [] [0, 1] rfl)
  exact rt_i hx hb hr hlk hK hS (() : Unit) (ret2 h) hP hD dL_tryPair_7

def f_L_trySurprise (g_p1_world : TW) (v1 : Int32) (v2 : Int32) : Option (Int32 × (Unit)) :=
  ((f_X8_surprise g_p1_world v1 v2).bind fun o1 => (fun u1 => o1.1.elim (fun k1 => (if k1 = 0 then (some ((-9999002 : Int32), ())) else none)) (fun r1 => (some (r1, ())))) o1.2)
set_option maxHeartbeats 8000000 in
set_option maxRecDepth 100000 in
theorem c_L_trySurprise (l : Launch) (hlt : l.stackTraces = false) (D : va_G) (dT : Nat → ClassId) (a_p1 : Nat → Nat → Nat) (g_p1_world : TW) (v1 : Int32) (v2 : Int32) (o : (Int32 × (Unit))) (h : f_L_trySurprise g_p1_world v1 v2 = some o) (sz : Nat) : Met l yL_trySurprise (Cond.codeWith yL_trySurprise cL_trySurprise 4 (some .int) [(0, 6, 7, 16)] :: TB) { frames := 8, cells := 2, slots := 12, locals := 134 } (va_Pc [.ref (a_p1 0 0), .int v1, .int v2] (cPre D dT (cSP a_p1 ++ (cW dT (a_p1 4) g_p1_world)) sz)) (va_Qi (fun (r : Int32) (u : Unit) => r = o.1 ∧ u = o.2) (fun u t => cAt D dT (va_A (cSP a_p1 ++ (cW dT (a_p1 4) g_p1_world)) sz) (cSP a_p1 ++ (cW dT (a_p1 4) g_p1_world)) t) (va_A (cSP a_p1 ++ (cW dT (a_p1 4) g_p1_world)) sz)) 2 12 (va_A (cSP a_p1 ++ (cW dT (a_p1 4) g_p1_world)) sz) := by
  refine mStartH (WS := (cSP a_p1 ++ (cW dT (a_p1 4) g_p1_world))) (Qc := fun A => va_Qi (fun (r : Int32) (u : Unit) => r = o.1 ∧ u = o.2) (fun u t => cAt D dT A (cSP a_p1 ++ (cW dT (a_p1 4) g_p1_world)) t) A) RL rfl (by decide) (Nat.le_of_ble_eq_true rfl) ?_ sz
  intro p e s m below meth c A ls hx hb hml hr hlk htab hts hqs hown hE hA hK hP hD hS hl
  have hl : lv_has ls 4 [(0, .ref (a_p1 0 0)), (1, .int v1), (2, .int v2)] := hl
  unfold f_L_trySurprise at h
  refine lv_aload_n hx hb dL_trySurprise_0 rfl (lv_at hl 0 rfl) ?_
  refine lv_iload_n hx hb dL_trySurprise_1 rfl (lv_at hl 1 rfl) ?_
  refine lv_iload_n hx hb dL_trySurprise_2 rfl (lv_at hl 2 rfl) ?_
  obtain ⟨o1, e1, h⟩ := obind h
  have hPq : va_P D vwCl ((cSP a_p1 ++ (cW dT (a_p1 4) g_p1_world)) ++ ([] : va_W)) _ := hP.perm (wj_split [cSP a_p1, cW dT (a_p1 4) g_p1_world] [0, 1] [] rfl)
  have hDq : va_D A ((cSP a_p1 ++ (cW dT (a_p1 4) g_p1_world)) ++ ([] : va_W)) := hD.perm (wj_split [cSP a_p1, cW dT (a_p1 4) g_p1_world] [0, 1] [] rfl)
  have hPc := hPq.left
  have hDc := hDq.left
  have hFc := va_freeL hDq hS hA
  refine xcl_iL (wr := ([] : va_W)) (vx_runV (As := [.int v1, .int v2]) (rest := []) ⟨hx, hb, hml, hown, hts⟩ (c_X8_surprise l hlt D dT a_p1 g_p1_world v1 v2 o1 e1 _) (cwV 2 hts (TB_V w_800 w_801 w_802 w_33 w_803) rfl rfl rfl ⟨rfl, nd_X8_surprise⟩ ⟨Nat.le_of_ble_eq_true rfl, Nat.le_of_ble_eq_true rfl⟩) (cPre.V hPc hDc hK hE hS hFc (va_recv hK hPc (ci := 7) (q0 := 0) rfl rfl)) rfl rfl hl.1 rfl (lv_room (Nat.le_of_ble_eq_true rfl)) dL_trySurprise_3 ⟨Nat.le_of_ble_eq_true rfl, Nat.le_of_ble_eq_true rfl⟩) hPq hDq hS hFc (fun k1 u1 E1 ce1 q1 H locs hw hEk hP hD hS hxc hxv hxl => ?_) (fun r1 u1 H locs hw hP hD hS => ?_)
  · have hw := xoP_inv hw
    subst hw
    have hP : va_P D vwCl (cSP a_p1 ++ (cW dT (a_p1 4) g_p1_world)) H := hP.perm (wj_back [cSP a_p1, cW dT (a_p1 4) g_p1_world] [] [0, 1] rfl)
    have hD : va_D A (cSP a_p1 ++ (cW dT (a_p1 4) g_p1_world)) := hD.perm (wj_back [cSP a_p1, cW dT (a_p1 4) g_p1_world] [] [0, 1] rfl)
    by_cases c2 : k1 = 0
    · replace h := iteT c2 h
      subst c2
      have hEk : E1 = EXI := hEk
      refine vx_catch (name := EXI) (E := E1) hown [] ⟨0, 6, 7, 16⟩ [] (htab.trans rfl) (fun z hz => absurd hz List.not_mem_nil) rfl (by decide) (hqs _ w_282) (by rw [hEk]; exact va_Nw.use rfl (hE.2.2.1 (EXI, EXI) (by decide +kernel))) hxc hxv hxl ?_
      refine lv_astore_n (lv' := [(3, .ref q1), (0, .ref (a_p1 0 0)), (1, .int v1), (2, .int v2)]) hx hb dL_trySurprise_7 rfl hl (by decide) rfl (fun ls hl => ?_)
      refine lv_ldc (v := -9999002) hx hb hown (hqs _ w_576) dL_trySurprise_8 ?_
      exact rt_i hx hb hr hlk hK hS (() : Unit) (ret2 h) hP hD dL_trySurprise_10
    replace h := iteF c2 h
    exact nomatch h
  subst hw
  replace h := sumR h
  have hP : va_P D vwCl (cSP a_p1 ++ (cW dT (a_p1 4) g_p1_world)) H := hP.perm (wj_back [cSP a_p1, cW dT (a_p1 4) g_p1_world] [] [0, 1] rfl)
  have hD : va_D A (cSP a_p1 ++ (cW dT (a_p1 4) g_p1_world)) := hD.perm (wj_back [cSP a_p1, cW dT (a_p1 4) g_p1_world] [] [0, 1] rfl)
  exact rt_i hx hb hr hlk hK hS (() : Unit) (ret2 h) hP hD dL_trySurprise_6

def f_L_trySetting (g_p1_world : TW) (v1 : Int32) : Option (Int32 × (Unit)) :=
  ((f_X8_setting g_p1_world v1).bind fun o1 => (fun u1 => o1.1.elim (fun k1 => (if k1 = 0 then (some ((-9999002 : Int32), ())) else none)) (fun r1 => (some (r1, ())))) o1.2)
set_option maxHeartbeats 8000000 in
set_option maxRecDepth 100000 in
theorem c_L_trySetting (l : Launch) (hlt : l.stackTraces = false) (D : va_G) (dT : Nat → ClassId) (a_p1 : Nat → Nat → Nat) (g_p1_world : TW) (v1 : Int32) (o : (Int32 × (Unit))) (h : f_L_trySetting g_p1_world v1 = some o) (sz : Nat) : Met l yL_trySetting (Cond.codeWith yL_trySetting cL_trySetting 3 (some .int) [(0, 5, 6, 16)] :: TB) { frames := 8, cells := 1, slots := 6, locals := 133 } (va_Pc [.ref (a_p1 0 0), .int v1] (cPre D dT (cSP a_p1 ++ (cW dT (a_p1 4) g_p1_world)) sz)) (va_Qi (fun (r : Int32) (u : Unit) => r = o.1 ∧ u = o.2) (fun u t => cAt D dT (va_A (cSP a_p1 ++ (cW dT (a_p1 4) g_p1_world)) sz) (cSP a_p1 ++ (cW dT (a_p1 4) g_p1_world)) t) (va_A (cSP a_p1 ++ (cW dT (a_p1 4) g_p1_world)) sz)) 1 6 (va_A (cSP a_p1 ++ (cW dT (a_p1 4) g_p1_world)) sz) := by
  refine mStartH (WS := (cSP a_p1 ++ (cW dT (a_p1 4) g_p1_world))) (Qc := fun A => va_Qi (fun (r : Int32) (u : Unit) => r = o.1 ∧ u = o.2) (fun u t => cAt D dT A (cSP a_p1 ++ (cW dT (a_p1 4) g_p1_world)) t) A) RL rfl (by decide) (Nat.le_of_ble_eq_true rfl) ?_ sz
  intro p e s m below meth c A ls hx hb hml hr hlk htab hts hqs hown hE hA hK hP hD hS hl
  have hl : lv_has ls 3 [(0, .ref (a_p1 0 0)), (1, .int v1)] := hl
  unfold f_L_trySetting at h
  refine lv_aload_n hx hb dL_trySetting_0 rfl (lv_at hl 0 rfl) ?_
  refine lv_iload_n hx hb dL_trySetting_1 rfl (lv_at hl 1 rfl) ?_
  obtain ⟨o1, e1, h⟩ := obind h
  have hPq : va_P D vwCl ((cSP a_p1 ++ (cW dT (a_p1 4) g_p1_world)) ++ ([] : va_W)) _ := hP.perm (wj_split [cSP a_p1, cW dT (a_p1 4) g_p1_world] [0, 1] [] rfl)
  have hDq : va_D A ((cSP a_p1 ++ (cW dT (a_p1 4) g_p1_world)) ++ ([] : va_W)) := hD.perm (wj_split [cSP a_p1, cW dT (a_p1 4) g_p1_world] [0, 1] [] rfl)
  have hPc := hPq.left
  have hDc := hDq.left
  have hFc := va_freeL hDq hS hA
  refine xcl_iL (wr := ([] : va_W)) (vx_runV (As := [.int v1]) (rest := []) ⟨hx, hb, hml, hown, hts⟩ (c_X8_setting l hlt D dT a_p1 g_p1_world v1 o1 e1 _) (cwV 1 hts (TB_V w_811 w_812 w_813 w_33 w_814) rfl rfl rfl ⟨rfl, nd_X8_setting⟩ ⟨Nat.le_of_ble_eq_true rfl, Nat.le_of_ble_eq_true rfl⟩) (cPre.V hPc hDc hK hE hS hFc (va_recv hK hPc (ci := 7) (q0 := 0) rfl rfl)) rfl rfl hl.1 rfl (lv_room (Nat.le_of_ble_eq_true rfl)) dL_trySetting_2 ⟨Nat.le_of_ble_eq_true rfl, Nat.le_of_ble_eq_true rfl⟩) hPq hDq hS hFc (fun k1 u1 E1 ce1 q1 H locs hw hEk hP hD hS hxc hxv hxl => ?_) (fun r1 u1 H locs hw hP hD hS => ?_)
  · have hw := xoP_inv hw
    subst hw
    have hP : va_P D vwCl (cSP a_p1 ++ (cW dT (a_p1 4) g_p1_world)) H := hP.perm (wj_back [cSP a_p1, cW dT (a_p1 4) g_p1_world] [] [0, 1] rfl)
    have hD : va_D A (cSP a_p1 ++ (cW dT (a_p1 4) g_p1_world)) := hD.perm (wj_back [cSP a_p1, cW dT (a_p1 4) g_p1_world] [] [0, 1] rfl)
    by_cases c2 : k1 = 0
    · replace h := iteT c2 h
      subst c2
      have hEk : E1 = EXI := hEk
      refine vx_catch (name := EXI) (E := E1) hown [] ⟨0, 5, 6, 16⟩ [] (htab.trans rfl) (fun z hz => absurd hz List.not_mem_nil) rfl (by decide) (hqs _ w_282) (by rw [hEk]; exact va_Nw.use rfl (hE.2.2.1 (EXI, EXI) (by decide +kernel))) hxc hxv hxl ?_
      refine lv_astore_n (lv' := [(2, .ref q1), (0, .ref (a_p1 0 0)), (1, .int v1)]) hx hb dL_trySetting_6 rfl hl (by decide) rfl (fun ls hl => ?_)
      refine lv_ldc (v := -9999002) hx hb hown (hqs _ w_576) dL_trySetting_7 ?_
      exact rt_i hx hb hr hlk hK hS (() : Unit) (ret2 h) hP hD dL_trySetting_9
    replace h := iteF c2 h
    exact nomatch h
  subst hw
  replace h := sumR h
  have hP : va_P D vwCl (cSP a_p1 ++ (cW dT (a_p1 4) g_p1_world)) H := hP.perm (wj_back [cSP a_p1, cW dT (a_p1 4) g_p1_world] [] [0, 1] rfl)
  have hD : va_D A (cSP a_p1 ++ (cW dT (a_p1 4) g_p1_world)) := hD.perm (wj_back [cSP a_p1, cW dT (a_p1 4) g_p1_world] [] [0, 1] rfl)
  exact rt_i hx hb hr hlk hK hS (() : Unit) (ret2 h) hP hD dL_trySetting_5

def f_L_tryAdd (g_p1_world : TW) (g_p1_history : TH) (v1 : Int32) : Option (Int32 × (TW × TH)) :=
  ((f_X8_add g_p1_world g_p1_history v1).bind fun o1 => (fun u1 => o1.1.elim (fun k1 => (if k1 = 0 then (some ((-9999002 : Int32), (u1.1, u1.2))) else (if k1 = 1 then (some ((-9999003 : Int32), (u1.1, u1.2))) else none))) (fun r1 => (some (r1, (u1.1, u1.2))))) o1.2)
set_option maxHeartbeats 8000000 in
set_option maxRecDepth 100000 in
theorem c_L_tryAdd (l : Launch) (hlt : l.stackTraces = false) (D : va_G) (dT : Nat → ClassId) (a_p1 : Nat → Nat → Nat) (g_p1_world : TW) (g_p1_history : TH) (v1 : Int32) (o : (Int32 × (TW × TH))) (h : f_L_tryAdd g_p1_world g_p1_history v1 = some o) (sz : Nat) : Met l yL_tryAdd (Cond.codeWith yL_tryAdd cL_tryAdd 3 (some .int) [(0, 5, 6, 16), (0, 5, 10, 37)] :: TB) { frames := 8, cells := 2, slots := 12, locals := 133 } (va_Pc [.ref (a_p1 0 0), .int v1] (cPre D dT (cSP a_p1 ++ (cW dT (a_p1 4) g_p1_world ++ (cH dT (a_p1 6) g_p1_history))) sz)) (va_Qi (fun (r : Int32) (u : TW × TH) => r = o.1 ∧ u = o.2) (fun u t => cAt D dT (va_A (cSP a_p1 ++ (cW dT (a_p1 4) g_p1_world ++ (cH dT (a_p1 6) g_p1_history))) sz) (cSP a_p1 ++ (cW dT (a_p1 4) (u.1) ++ (cH dT (a_p1 6) (u.2)))) t) (va_A (cSP a_p1 ++ (cW dT (a_p1 4) g_p1_world ++ (cH dT (a_p1 6) g_p1_history))) sz)) 2 12 (va_A (cSP a_p1 ++ (cW dT (a_p1 4) g_p1_world ++ (cH dT (a_p1 6) g_p1_history))) sz) := by
  refine mStartH (WS := (cSP a_p1 ++ (cW dT (a_p1 4) g_p1_world ++ (cH dT (a_p1 6) g_p1_history)))) (Qc := fun A => va_Qi (fun (r : Int32) (u : TW × TH) => r = o.1 ∧ u = o.2) (fun u t => cAt D dT A (cSP a_p1 ++ (cW dT (a_p1 4) (u.1) ++ (cH dT (a_p1 6) (u.2)))) t) A) RL rfl (by decide) (Nat.le_of_ble_eq_true rfl) ?_ sz
  intro p e s m below meth c A ls hx hb hml hr hlk htab hts hqs hown hE hA hK hP hD hS hl
  have hl : lv_has ls 3 [(0, .ref (a_p1 0 0)), (1, .int v1)] := hl
  unfold f_L_tryAdd at h
  refine lv_aload_n hx hb dL_tryAdd_0 rfl (lv_at hl 0 rfl) ?_
  refine lv_iload_n hx hb dL_tryAdd_1 rfl (lv_at hl 1 rfl) ?_
  obtain ⟨o1, e1, h⟩ := obind h
  have hPq : va_P D vwCl ((cSP a_p1 ++ (cW dT (a_p1 4) g_p1_world ++ (cH dT (a_p1 6) g_p1_history))) ++ ([] : va_W)) _ := hP.perm (wj_split [cSP a_p1, cW dT (a_p1 4) g_p1_world, cH dT (a_p1 6) g_p1_history] [0, 1, 2] [] rfl)
  have hDq : va_D A ((cSP a_p1 ++ (cW dT (a_p1 4) g_p1_world ++ (cH dT (a_p1 6) g_p1_history))) ++ ([] : va_W)) := hD.perm (wj_split [cSP a_p1, cW dT (a_p1 4) g_p1_world, cH dT (a_p1 6) g_p1_history] [0, 1, 2] [] rfl)
  have hPc := hPq.left
  have hDc := hDq.left
  have hFc := va_freeL hDq hS hA
  refine xcl_iL (wr := ([] : va_W)) (vx_runV (As := [.int v1]) (rest := []) ⟨hx, hb, hml, hown, hts⟩ (c_X8_add l hlt D dT a_p1 g_p1_world g_p1_history v1 o1 e1 _) (cwV 1 hts (TB_V w_819 w_820 w_821 w_33 w_822) rfl rfl rfl ⟨rfl, nd_X8_add⟩ ⟨Nat.le_of_ble_eq_true rfl, Nat.le_of_ble_eq_true rfl⟩) (cPre.V hPc hDc hK hE hS hFc (va_recv hK hPc (ci := 7) (q0 := 0) rfl rfl)) rfl rfl hl.1 rfl (lv_room (Nat.le_of_ble_eq_true rfl)) dL_tryAdd_2 ⟨Nat.le_of_ble_eq_true rfl, Nat.le_of_ble_eq_true rfl⟩) hPq hDq hS hFc (fun k1 u1 E1 ce1 q1 H locs hw hEk hP hD hS hxc hxv hxl => ?_) (fun r1 u1 H locs hw hP hD hS => ?_)
  · have hw := xoP_inv hw
    subst hw
    have hP : va_P D vwCl (cSP a_p1 ++ (cW dT (a_p1 4) u1.1 ++ (cH dT (a_p1 6) u1.2))) H := hP.perm (wj_back [cSP a_p1, cW dT (a_p1 4) u1.1, cH dT (a_p1 6) u1.2] [] [0, 1, 2] rfl)
    have hD : va_D A (cSP a_p1 ++ (cW dT (a_p1 4) u1.1 ++ (cH dT (a_p1 6) u1.2))) := hD.perm (wj_back [cSP a_p1, cW dT (a_p1 4) u1.1, cH dT (a_p1 6) u1.2] [] [0, 1, 2] rfl)
    by_cases c2 : k1 = 0
    · replace h := iteT c2 h
      subst c2
      have hEk : E1 = EXI := hEk
      refine vx_catch (name := EXI) (E := E1) hown [] ⟨0, 5, 6, 16⟩ [⟨0, 5, 10, 37⟩] (htab.trans rfl) (fun z hz => absurd hz List.not_mem_nil) rfl (by decide) (hqs _ w_282) (by rw [hEk]; exact va_Nw.use rfl (hE.2.2.1 (EXI, EXI) (by decide +kernel))) hxc hxv hxl ?_
      refine lv_astore_n (lv' := [(2, .ref q1), (0, .ref (a_p1 0 0)), (1, .int v1)]) hx hb dL_tryAdd_6 rfl hl (by decide) rfl (fun ls hl => ?_)
      refine lv_ldc (v := -9999002) hx hb hown (hqs _ w_576) dL_tryAdd_7 ?_
      exact rt_i hx hb hr hlk hK hS ((u1.1, u1.2) : TW × TH) (ret2 h) hP hD dL_tryAdd_9
    replace h := iteF c2 h
    by_cases c3 : k1 = 1
    · replace h := iteT c3 h
      subst c3
      have hEk : E1 = EXS := hEk
      refine vx_catch (name := EXS) (E := E1) hown [(⟨0, 5, 6, 16⟩ : ExceptionTableEntry)] ⟨0, 5, 10, 37⟩ [] (htab.trans rfl) (fun z hz => by
      simp only [List.mem_cons, List.not_mem_nil, or_false] at hz
      rcases hz with rfl
      · exact Or.inr ⟨by decide, EXI, hqs _ w_282, by rw [hEk]; exact hE.2.2.2.1 (EXS, EXI) (by decide +kernel)⟩) rfl (by decide) (hqs _ w_605) (by rw [hEk]; exact va_Nw.use rfl (hE.2.2.1 (EXS, EXS) (by decide +kernel))) hxc hxv hxl ?_
      refine lv_astore_n (lv' := [(2, .ref q1), (0, .ref (a_p1 0 0)), (1, .int v1)]) hx hb dL_tryAdd_10 rfl hl (by decide) rfl (fun ls hl => ?_)
      refine lv_ldc (v := -9999003) hx hb hown (hqs _ w_635) dL_tryAdd_11 ?_
      exact rt_i hx hb hr hlk hK hS ((u1.1, u1.2) : TW × TH) (ret2 h) hP hD dL_tryAdd_13
    replace h := iteF c3 h
    exact nomatch h
  subst hw
  replace h := sumR h
  have hP : va_P D vwCl (cSP a_p1 ++ (cW dT (a_p1 4) u1.1 ++ (cH dT (a_p1 6) u1.2))) H := hP.perm (wj_back [cSP a_p1, cW dT (a_p1 4) u1.1, cH dT (a_p1 6) u1.2] [] [0, 1, 2] rfl)
  have hD : va_D A (cSP a_p1 ++ (cW dT (a_p1 4) u1.1 ++ (cH dT (a_p1 6) u1.2))) := hD.perm (wj_back [cSP a_p1, cW dT (a_p1 4) u1.1, cH dT (a_p1 6) u1.2] [] [0, 1, 2] rfl)
  exact rt_i hx hb hr hlk hK hS ((u1.1, u1.2) : TW × TH) (ret2 h) hP hD dL_tryAdd_5

def f_L_tryResize (g_p1_world : TW) (g_p1_history : TH) (v1 : Int32) (v2 : Int32) : Option (Int32 × (TW × TH)) :=
  ((f_X8_resize g_p1_world g_p1_history v1 v2).bind fun o1 => (fun u1 => o1.1.elim (fun k1 => (if k1 = 2 then (some ((-9999001 : Int32), (u1.1, u1.2))) else (if k1 = 0 then (some ((-9999002 : Int32), (u1.1, u1.2))) else none))) (fun r1 => (some (r1, (u1.1, u1.2))))) o1.2)
set_option maxHeartbeats 8000000 in
set_option maxRecDepth 100000 in
theorem c_L_tryResize (l : Launch) (hlt : l.stackTraces = false) (D : va_G) (dT : Nat → ClassId) (a_p1 : Nat → Nat → Nat) (g_p1_world : TW) (g_p1_history : TH) (v1 : Int32) (v2 : Int32) (o : (Int32 × (TW × TH))) (h : f_L_tryResize g_p1_world g_p1_history v1 v2 = some o) (sz : Nat) : Met l yL_tryResize (Cond.codeWith yL_tryResize cL_tryResize 4 (some .int) [(0, 6, 7, 13), (0, 6, 11, 16)] :: TB) { frames := 8, cells := 2, slots := 12, locals := 134 } (va_Pc [.ref (a_p1 0 0), .int v1, .int v2] (cPre D dT (cSP a_p1 ++ (cW dT (a_p1 4) g_p1_world ++ (cH dT (a_p1 6) g_p1_history))) sz)) (va_Qi (fun (r : Int32) (u : TW × TH) => r = o.1 ∧ u = o.2) (fun u t => cAt D dT (va_A (cSP a_p1 ++ (cW dT (a_p1 4) g_p1_world ++ (cH dT (a_p1 6) g_p1_history))) sz) (cSP a_p1 ++ (cW dT (a_p1 4) (u.1) ++ (cH dT (a_p1 6) (u.2)))) t) (va_A (cSP a_p1 ++ (cW dT (a_p1 4) g_p1_world ++ (cH dT (a_p1 6) g_p1_history))) sz)) 2 12 (va_A (cSP a_p1 ++ (cW dT (a_p1 4) g_p1_world ++ (cH dT (a_p1 6) g_p1_history))) sz) := by
  refine mStartH (WS := (cSP a_p1 ++ (cW dT (a_p1 4) g_p1_world ++ (cH dT (a_p1 6) g_p1_history)))) (Qc := fun A => va_Qi (fun (r : Int32) (u : TW × TH) => r = o.1 ∧ u = o.2) (fun u t => cAt D dT A (cSP a_p1 ++ (cW dT (a_p1 4) (u.1) ++ (cH dT (a_p1 6) (u.2)))) t) A) RL rfl (by decide) (Nat.le_of_ble_eq_true rfl) ?_ sz
  intro p e s m below meth c A ls hx hb hml hr hlk htab hts hqs hown hE hA hK hP hD hS hl
  have hl : lv_has ls 4 [(0, .ref (a_p1 0 0)), (1, .int v1), (2, .int v2)] := hl
  unfold f_L_tryResize at h
  refine lv_aload_n hx hb dL_tryResize_0 rfl (lv_at hl 0 rfl) ?_
  refine lv_iload_n hx hb dL_tryResize_1 rfl (lv_at hl 1 rfl) ?_
  refine lv_iload_n hx hb dL_tryResize_2 rfl (lv_at hl 2 rfl) ?_
  obtain ⟨o1, e1, h⟩ := obind h
  have hPq : va_P D vwCl ((cSP a_p1 ++ (cW dT (a_p1 4) g_p1_world ++ (cH dT (a_p1 6) g_p1_history))) ++ ([] : va_W)) _ := hP.perm (wj_split [cSP a_p1, cW dT (a_p1 4) g_p1_world, cH dT (a_p1 6) g_p1_history] [0, 1, 2] [] rfl)
  have hDq : va_D A ((cSP a_p1 ++ (cW dT (a_p1 4) g_p1_world ++ (cH dT (a_p1 6) g_p1_history))) ++ ([] : va_W)) := hD.perm (wj_split [cSP a_p1, cW dT (a_p1 4) g_p1_world, cH dT (a_p1 6) g_p1_history] [0, 1, 2] [] rfl)
  have hPc := hPq.left
  have hDc := hDq.left
  have hFc := va_freeL hDq hS hA
  refine xcl_iL (wr := ([] : va_W)) (vx_runV (As := [.int v1, .int v2]) (rest := []) ⟨hx, hb, hml, hown, hts⟩ (c_X8_resize l hlt D dT a_p1 g_p1_world g_p1_history v1 v2 o1 e1 _) (cwV 2 hts (TB_V w_838 w_839 w_840 w_33 w_841) rfl rfl rfl ⟨rfl, nd_X8_resize⟩ ⟨Nat.le_of_ble_eq_true rfl, Nat.le_of_ble_eq_true rfl⟩) (cPre.V hPc hDc hK hE hS hFc (va_recv hK hPc (ci := 7) (q0 := 0) rfl rfl)) rfl rfl hl.1 rfl (lv_room (Nat.le_of_ble_eq_true rfl)) dL_tryResize_3 ⟨Nat.le_of_ble_eq_true rfl, Nat.le_of_ble_eq_true rfl⟩) hPq hDq hS hFc (fun k1 u1 E1 ce1 q1 H locs hw hEk hP hD hS hxc hxv hxl => ?_) (fun r1 u1 H locs hw hP hD hS => ?_)
  · have hw := xoP_inv hw
    subst hw
    have hP : va_P D vwCl (cSP a_p1 ++ (cW dT (a_p1 4) u1.1 ++ (cH dT (a_p1 6) u1.2))) H := hP.perm (wj_back [cSP a_p1, cW dT (a_p1 4) u1.1, cH dT (a_p1 6) u1.2] [] [0, 1, 2] rfl)
    have hD : va_D A (cSP a_p1 ++ (cW dT (a_p1 4) u1.1 ++ (cH dT (a_p1 6) u1.2))) := hD.perm (wj_back [cSP a_p1, cW dT (a_p1 4) u1.1, cH dT (a_p1 6) u1.2] [] [0, 1, 2] rfl)
    by_cases c2 : k1 = 2
    · replace h := iteT c2 h
      subst c2
      have hEk : E1 = EXB := hEk
      refine vx_catch (name := EXB) (E := E1) hown [] ⟨0, 6, 7, 13⟩ [⟨0, 6, 11, 16⟩] (htab.trans rfl) (fun z hz => absurd hz List.not_mem_nil) rfl (by decide) (hqs _ w_753) (by rw [hEk]; exact va_Nw.use rfl (hE.2.2.1 (EXB, EXB) (by decide +kernel))) hxc hxv hxl ?_
      refine lv_astore_n (lv' := [(3, .ref q1), (0, .ref (a_p1 0 0)), (1, .int v1), (2, .int v2)]) hx hb dL_tryResize_7 rfl hl (by decide) rfl (fun ls hl => ?_)
      refine lv_ldc (v := -9999001) hx hb hown (hqs _ w_780) dL_tryResize_8 ?_
      exact rt_i hx hb hr hlk hK hS ((u1.1, u1.2) : TW × TH) (ret2 h) hP hD dL_tryResize_10
    replace h := iteF c2 h
    by_cases c3 : k1 = 0
    · replace h := iteT c3 h
      subst c3
      have hEk : E1 = EXI := hEk
      refine vx_catch (name := EXI) (E := E1) hown [(⟨0, 6, 7, 13⟩ : ExceptionTableEntry)] ⟨0, 6, 11, 16⟩ [] (htab.trans rfl) (fun z hz => by
      simp only [List.mem_cons, List.not_mem_nil, or_false] at hz
      rcases hz with rfl
      · exact Or.inr ⟨by decide, EXB, hqs _ w_753, by rw [hEk]; exact hE.2.2.2.1 (EXI, EXB) (by decide +kernel)⟩) rfl (by decide) (hqs _ w_282) (by rw [hEk]; exact va_Nw.use rfl (hE.2.2.1 (EXI, EXI) (by decide +kernel))) hxc hxv hxl ?_
      refine lv_astore_n (lv' := [(3, .ref q1), (0, .ref (a_p1 0 0)), (1, .int v1), (2, .int v2)]) hx hb dL_tryResize_11 rfl hl (by decide) rfl (fun ls hl => ?_)
      refine lv_ldc (v := -9999002) hx hb hown (hqs _ w_576) dL_tryResize_12 ?_
      exact rt_i hx hb hr hlk hK hS ((u1.1, u1.2) : TW × TH) (ret2 h) hP hD dL_tryResize_14
    replace h := iteF c3 h
    exact nomatch h
  subst hw
  replace h := sumR h
  have hP : va_P D vwCl (cSP a_p1 ++ (cW dT (a_p1 4) u1.1 ++ (cH dT (a_p1 6) u1.2))) H := hP.perm (wj_back [cSP a_p1, cW dT (a_p1 4) u1.1, cH dT (a_p1 6) u1.2] [] [0, 1, 2] rfl)
  have hD : va_D A (cSP a_p1 ++ (cW dT (a_p1 4) u1.1 ++ (cH dT (a_p1 6) u1.2))) := hD.perm (wj_back [cSP a_p1, cW dT (a_p1 4) u1.1, cH dT (a_p1 6) u1.2] [] [0, 1, 2] rfl)
  exact rt_i hx hb hr hlk hK hS ((u1.1, u1.2) : TW × TH) (ret2 h) hP hD dL_tryResize_6

def f_L_tryDrift (g_p1_world : TW) (g_p1_history : TH) (v1 : Int32) (v2 : Int32) (v3 : Int32) : Option (Int32 × (TW × TH)) :=
  ((f_X8_drift g_p1_world g_p1_history v1 v2 v3).bind fun o1 => (fun u1 => o1.1.elim (fun k1 => (if k1 = 2 then (some ((-9999001 : Int32), (u1.1, u1.2))) else (if k1 = 0 then (some ((-9999002 : Int32), (u1.1, u1.2))) else (if k1 = 1 then (some ((-9999003 : Int32), (u1.1, u1.2))) else none)))) (fun r1 => (some (r1, (u1.1, u1.2))))) o1.2)
set_option maxHeartbeats 8000000 in
set_option maxRecDepth 100000 in
theorem c_L_tryDrift (l : Launch) (hlt : l.stackTraces = false) (D : va_G) (dT : Nat → ClassId) (a_p1 : Nat → Nat → Nat) (g_p1_world : TW) (g_p1_history : TH) (v1 : Int32) (v2 : Int32) (v3 : Int32) (o : (Int32 × (TW × TH))) (h : f_L_tryDrift g_p1_world g_p1_history v1 v2 v3 = some o) (sz : Nat) : Met l yL_tryDrift (Cond.codeWith yL_tryDrift cL_tryDrift 5 (some .int) [(0, 7, 8, 13), (0, 7, 13, 16), (0, 7, 18, 37)] :: TB) { frames := 9, cells := 5, slots := 30, locals := 156 } (va_Pc [.ref (a_p1 0 0), .int v1, .int v2, .int v3] (cPre D dT (cSP a_p1 ++ (cW dT (a_p1 4) g_p1_world ++ (cH dT (a_p1 6) g_p1_history))) sz)) (va_Qi (fun (r : Int32) (u : TW × TH) => r = o.1 ∧ u = o.2) (fun u t => cAt D dT (va_A (cSP a_p1 ++ (cW dT (a_p1 4) g_p1_world ++ (cH dT (a_p1 6) g_p1_history))) sz) (cSP a_p1 ++ (cW dT (a_p1 4) (u.1) ++ (cH dT (a_p1 6) (u.2)))) t) (va_A (cSP a_p1 ++ (cW dT (a_p1 4) g_p1_world ++ (cH dT (a_p1 6) g_p1_history))) sz)) 5 30 (va_A (cSP a_p1 ++ (cW dT (a_p1 4) g_p1_world ++ (cH dT (a_p1 6) g_p1_history))) sz) := by
  refine mStartH (WS := (cSP a_p1 ++ (cW dT (a_p1 4) g_p1_world ++ (cH dT (a_p1 6) g_p1_history)))) (Qc := fun A => va_Qi (fun (r : Int32) (u : TW × TH) => r = o.1 ∧ u = o.2) (fun u t => cAt D dT A (cSP a_p1 ++ (cW dT (a_p1 4) (u.1) ++ (cH dT (a_p1 6) (u.2)))) t) A) RL rfl (by decide) (Nat.le_of_ble_eq_true rfl) ?_ sz
  intro p e s m below meth c A ls hx hb hml hr hlk htab hts hqs hown hE hA hK hP hD hS hl
  have hl : lv_has ls 5 [(0, .ref (a_p1 0 0)), (1, .int v1), (2, .int v2), (3, .int v3)] := hl
  unfold f_L_tryDrift at h
  refine lv_aload_n hx hb dL_tryDrift_0 rfl (lv_at hl 0 rfl) ?_
  refine lv_iload_n hx hb dL_tryDrift_1 rfl (lv_at hl 1 rfl) ?_
  refine lv_iload_n hx hb dL_tryDrift_2 rfl (lv_at hl 2 rfl) ?_
  refine lv_iload_n hx hb dL_tryDrift_3 rfl (lv_at hl 3 rfl) ?_
  obtain ⟨o1, e1, h⟩ := obind h
  have hPq : va_P D vwCl ((cSP a_p1 ++ (cW dT (a_p1 4) g_p1_world ++ (cH dT (a_p1 6) g_p1_history))) ++ ([] : va_W)) _ := hP.perm (wj_split [cSP a_p1, cW dT (a_p1 4) g_p1_world, cH dT (a_p1 6) g_p1_history] [0, 1, 2] [] rfl)
  have hDq : va_D A ((cSP a_p1 ++ (cW dT (a_p1 4) g_p1_world ++ (cH dT (a_p1 6) g_p1_history))) ++ ([] : va_W)) := hD.perm (wj_split [cSP a_p1, cW dT (a_p1 4) g_p1_world, cH dT (a_p1 6) g_p1_history] [0, 1, 2] [] rfl)
  have hPc := hPq.left
  have hDc := hDq.left
  have hFc := va_freeL hDq hS hA
  refine xcl_iL (wr := ([] : va_W)) (vx_runV (As := [.int v1, .int v2, .int v3]) (rest := []) ⟨hx, hb, hml, hown, hts⟩ (c_X8_drift l hlt D dT a_p1 g_p1_world g_p1_history v1 v2 v3 o1 e1 _) (cwV 3 hts (TB_V w_850 w_851 w_852 w_33 w_853) rfl rfl rfl ⟨rfl, nd_X8_drift⟩ ⟨Nat.le_of_ble_eq_true rfl, Nat.le_of_ble_eq_true rfl⟩) (cPre.V hPc hDc hK hE hS hFc (va_recv hK hPc (ci := 7) (q0 := 0) rfl rfl)) rfl rfl hl.1 rfl (lv_room (Nat.le_of_ble_eq_true rfl)) dL_tryDrift_4 ⟨Nat.le_of_ble_eq_true rfl, Nat.le_of_ble_eq_true rfl⟩) hPq hDq hS hFc (fun k1 u1 E1 ce1 q1 H locs hw hEk hP hD hS hxc hxv hxl => ?_) (fun r1 u1 H locs hw hP hD hS => ?_)
  · have hw := xoP_inv hw
    subst hw
    have hP : va_P D vwCl (cSP a_p1 ++ (cW dT (a_p1 4) u1.1 ++ (cH dT (a_p1 6) u1.2))) H := hP.perm (wj_back [cSP a_p1, cW dT (a_p1 4) u1.1, cH dT (a_p1 6) u1.2] [] [0, 1, 2] rfl)
    have hD : va_D A (cSP a_p1 ++ (cW dT (a_p1 4) u1.1 ++ (cH dT (a_p1 6) u1.2))) := hD.perm (wj_back [cSP a_p1, cW dT (a_p1 4) u1.1, cH dT (a_p1 6) u1.2] [] [0, 1, 2] rfl)
    by_cases c2 : k1 = 2
    · replace h := iteT c2 h
      subst c2
      have hEk : E1 = EXB := hEk
      refine vx_catch (name := EXB) (E := E1) hown [] ⟨0, 7, 8, 13⟩ [⟨0, 7, 13, 16⟩, ⟨0, 7, 18, 37⟩] (htab.trans rfl) (fun z hz => absurd hz List.not_mem_nil) rfl (by decide) (hqs _ w_753) (by rw [hEk]; exact va_Nw.use rfl (hE.2.2.1 (EXB, EXB) (by decide +kernel))) hxc hxv hxl ?_
      refine lv_astore (lv' := [(4, .ref q1), (0, .ref (a_p1 0 0)), (1, .int v1), (2, .int v2), (3, .int v3)]) hx hb dL_tryDrift_8 hl (by decide) rfl (fun ls hl => ?_)
      refine lv_ldc (v := -9999001) hx hb hown (hqs _ w_780) dL_tryDrift_10 ?_
      exact rt_i hx hb hr hlk hK hS ((u1.1, u1.2) : TW × TH) (ret2 h) hP hD dL_tryDrift_12
    replace h := iteF c2 h
    by_cases c3 : k1 = 0
    · replace h := iteT c3 h
      subst c3
      have hEk : E1 = EXI := hEk
      refine vx_catch (name := EXI) (E := E1) hown [(⟨0, 7, 8, 13⟩ : ExceptionTableEntry)] ⟨0, 7, 13, 16⟩ [⟨0, 7, 18, 37⟩] (htab.trans rfl) (fun z hz => by
      simp only [List.mem_cons, List.not_mem_nil, or_false] at hz
      rcases hz with rfl
      · exact Or.inr ⟨by decide, EXB, hqs _ w_753, by rw [hEk]; exact hE.2.2.2.1 (EXI, EXB) (by decide +kernel)⟩) rfl (by decide) (hqs _ w_282) (by rw [hEk]; exact va_Nw.use rfl (hE.2.2.1 (EXI, EXI) (by decide +kernel))) hxc hxv hxl ?_
      refine lv_astore (lv' := [(4, .ref q1), (0, .ref (a_p1 0 0)), (1, .int v1), (2, .int v2), (3, .int v3)]) hx hb dL_tryDrift_13 hl (by decide) rfl (fun ls hl => ?_)
      refine lv_ldc (v := -9999002) hx hb hown (hqs _ w_576) dL_tryDrift_15 ?_
      exact rt_i hx hb hr hlk hK hS ((u1.1, u1.2) : TW × TH) (ret2 h) hP hD dL_tryDrift_17
    replace h := iteF c3 h
    by_cases c4 : k1 = 1
    · replace h := iteT c4 h
      subst c4
      have hEk : E1 = EXS := hEk
      refine vx_catch (name := EXS) (E := E1) hown [(⟨0, 7, 8, 13⟩ : ExceptionTableEntry), (⟨0, 7, 13, 16⟩ : ExceptionTableEntry)] ⟨0, 7, 18, 37⟩ [] (htab.trans rfl) (fun z hz => by
      simp only [List.mem_cons, List.not_mem_nil, or_false] at hz
      rcases hz with rfl | rfl
      · exact Or.inr ⟨by decide, EXB, hqs _ w_753, by rw [hEk]; exact hE.2.2.2.1 (EXS, EXB) (by decide +kernel)⟩
      · exact Or.inr ⟨by decide, EXI, hqs _ w_282, by rw [hEk]; exact hE.2.2.2.1 (EXS, EXI) (by decide +kernel)⟩) rfl (by decide) (hqs _ w_605) (by rw [hEk]; exact va_Nw.use rfl (hE.2.2.1 (EXS, EXS) (by decide +kernel))) hxc hxv hxl ?_
      refine lv_astore (lv' := [(4, .ref q1), (0, .ref (a_p1 0 0)), (1, .int v1), (2, .int v2), (3, .int v3)]) hx hb dL_tryDrift_18 hl (by decide) rfl (fun ls hl => ?_)
      refine lv_ldc (v := -9999003) hx hb hown (hqs _ w_635) dL_tryDrift_20 ?_
      exact rt_i hx hb hr hlk hK hS ((u1.1, u1.2) : TW × TH) (ret2 h) hP hD dL_tryDrift_22
    replace h := iteF c4 h
    exact nomatch h
  subst hw
  replace h := sumR h
  have hP : va_P D vwCl (cSP a_p1 ++ (cW dT (a_p1 4) u1.1 ++ (cH dT (a_p1 6) u1.2))) H := hP.perm (wj_back [cSP a_p1, cW dT (a_p1 4) u1.1, cH dT (a_p1 6) u1.2] [] [0, 1, 2] rfl)
  have hD : va_D A (cSP a_p1 ++ (cW dT (a_p1 4) u1.1 ++ (cH dT (a_p1 6) u1.2))) := hD.perm (wj_back [cSP a_p1, cW dT (a_p1 4) u1.1, cH dT (a_p1 6) u1.2] [] [0, 1, 2] rfl)
  exact rt_i hx hb hr hlk hK hS ((u1.1, u1.2) : TW × TH) (ret2 h) hP hD dL_tryDrift_7

def f_L_tryRun (g_p1_world : TW) (g_p1_chosen : TP) (g_p1_other : TP) (g_p1_history : TH) (v1 : Int32) : Option (Int32 × (TW × TP × TP × TH)) :=
  ((f_X8_run g_p1_world g_p1_chosen g_p1_other g_p1_history v1).bind fun o1 => (fun u1 => o1.1.elim (fun k1 => (if k1 = 2 then (some ((-9999001 : Int32), (u1.1, u1.2.1, u1.2.2.1, u1.2.2.2))) else (if k1 = 0 then (some ((-9999002 : Int32), (u1.1, u1.2.1, u1.2.2.1, u1.2.2.2))) else none))) (fun r1 => (some (r1, (u1.1, u1.2.1, u1.2.2.1, u1.2.2.2))))) o1.2)
set_option maxHeartbeats 8000000 in
set_option maxRecDepth 100000 in
theorem c_L_tryRun (l : Launch) (hlt : l.stackTraces = false) (D : va_G) (dT : Nat → ClassId) (a_p1 : Nat → Nat → Nat) (g_p1_world : TW) (g_p1_chosen : TP) (g_p1_other : TP) (g_p1_history : TH) (v1 : Int32) (o : (Int32 × (TW × TP × TP × TH))) (h : f_L_tryRun g_p1_world g_p1_chosen g_p1_other g_p1_history v1 = some o) (sz : Nat) : Met l yL_tryRun (Cond.codeWith yL_tryRun cL_tryRun 3 (some .int) [(0, 5, 6, 13), (0, 5, 10, 16)] :: TB) { frames := 8, cells := 2, slots := 12, locals := 168 } (va_Pc [.ref (a_p1 0 0), .int v1] (cPre D dT (cSP a_p1 ++ (cW dT (a_p1 4) g_p1_world ++ (cP dT (a_p1 8) g_p1_chosen ++ (cP dT (a_p1 9) g_p1_other ++ (cH dT (a_p1 6) g_p1_history))))) sz)) (va_Qi (fun (r : Int32) (u : TW × TP × TP × TH) => r = o.1 ∧ u = o.2) (fun u t => cAt D dT (va_A (cSP a_p1 ++ (cW dT (a_p1 4) g_p1_world ++ (cP dT (a_p1 8) g_p1_chosen ++ (cP dT (a_p1 9) g_p1_other ++ (cH dT (a_p1 6) g_p1_history))))) sz) (cSP a_p1 ++ (cW dT (a_p1 4) (u.1) ++ (cP dT (a_p1 8) (u.2.1) ++ (cP dT (a_p1 9) (u.2.2.1) ++ (cH dT (a_p1 6) (u.2.2.2)))))) t) (va_A (cSP a_p1 ++ (cW dT (a_p1 4) g_p1_world ++ (cP dT (a_p1 8) g_p1_chosen ++ (cP dT (a_p1 9) g_p1_other ++ (cH dT (a_p1 6) g_p1_history))))) sz)) 2 12 (va_A (cSP a_p1 ++ (cW dT (a_p1 4) g_p1_world ++ (cP dT (a_p1 8) g_p1_chosen ++ (cP dT (a_p1 9) g_p1_other ++ (cH dT (a_p1 6) g_p1_history))))) sz) := by
  refine mStartH (WS := (cSP a_p1 ++ (cW dT (a_p1 4) g_p1_world ++ (cP dT (a_p1 8) g_p1_chosen ++ (cP dT (a_p1 9) g_p1_other ++ (cH dT (a_p1 6) g_p1_history)))))) (Qc := fun A => va_Qi (fun (r : Int32) (u : TW × TP × TP × TH) => r = o.1 ∧ u = o.2) (fun u t => cAt D dT A (cSP a_p1 ++ (cW dT (a_p1 4) (u.1) ++ (cP dT (a_p1 8) (u.2.1) ++ (cP dT (a_p1 9) (u.2.2.1) ++ (cH dT (a_p1 6) (u.2.2.2)))))) t) A) RL rfl (by decide) (Nat.le_of_ble_eq_true rfl) ?_ sz
  intro p e s m below meth c A ls hx hb hml hr hlk htab hts hqs hown hE hA hK hP hD hS hl
  have hl : lv_has ls 3 [(0, .ref (a_p1 0 0)), (1, .int v1)] := hl
  unfold f_L_tryRun at h
  refine lv_aload_n hx hb dL_tryRun_0 rfl (lv_at hl 0 rfl) ?_
  refine lv_iload_n hx hb dL_tryRun_1 rfl (lv_at hl 1 rfl) ?_
  obtain ⟨o1, e1, h⟩ := obind h
  have hPq : va_P D vwCl ((cSP a_p1 ++ (cW dT (a_p1 4) g_p1_world ++ (cP dT (a_p1 8) g_p1_chosen ++ (cP dT (a_p1 9) g_p1_other ++ (cH dT (a_p1 6) g_p1_history))))) ++ ([] : va_W)) _ := hP.perm (wj_split [cSP a_p1, cW dT (a_p1 4) g_p1_world, cP dT (a_p1 8) g_p1_chosen, cP dT (a_p1 9) g_p1_other, cH dT (a_p1 6) g_p1_history] [0, 1, 2, 3, 4] [] rfl)
  have hDq : va_D A ((cSP a_p1 ++ (cW dT (a_p1 4) g_p1_world ++ (cP dT (a_p1 8) g_p1_chosen ++ (cP dT (a_p1 9) g_p1_other ++ (cH dT (a_p1 6) g_p1_history))))) ++ ([] : va_W)) := hD.perm (wj_split [cSP a_p1, cW dT (a_p1 4) g_p1_world, cP dT (a_p1 8) g_p1_chosen, cP dT (a_p1 9) g_p1_other, cH dT (a_p1 6) g_p1_history] [0, 1, 2, 3, 4] [] rfl)
  have hPc := hPq.left
  have hDc := hDq.left
  have hFc := va_freeL hDq hS hA
  refine xcl_iL (wr := ([] : va_W)) (vx_runV (As := [.int v1]) (rest := []) ⟨hx, hb, hml, hown, hts⟩ (c_X8_run l hlt D dT a_p1 g_p1_world g_p1_chosen g_p1_other g_p1_history v1 o1 e1 _) (cwV 1 hts (TB_V w_858 w_859 w_860 w_33 w_861) rfl rfl rfl ⟨rfl, nd_X8_run⟩ ⟨Nat.le_of_ble_eq_true rfl, Nat.le_of_ble_eq_true rfl⟩) (cPre.V hPc hDc hK hE hS hFc (va_recv hK hPc (ci := 7) (q0 := 0) rfl rfl)) rfl rfl hl.1 rfl (lv_room (Nat.le_of_ble_eq_true rfl)) dL_tryRun_2 ⟨Nat.le_of_ble_eq_true rfl, Nat.le_of_ble_eq_true rfl⟩) hPq hDq hS hFc (fun k1 u1 E1 ce1 q1 H locs hw hEk hP hD hS hxc hxv hxl => ?_) (fun r1 u1 H locs hw hP hD hS => ?_)
  · have hw := xoP_inv hw
    subst hw
    have hP : va_P D vwCl (cSP a_p1 ++ (cW dT (a_p1 4) u1.1 ++ (cP dT (a_p1 8) u1.2.1 ++ (cP dT (a_p1 9) u1.2.2.1 ++ (cH dT (a_p1 6) u1.2.2.2))))) H := hP.perm (wj_back [cSP a_p1, cW dT (a_p1 4) u1.1, cP dT (a_p1 8) u1.2.1, cP dT (a_p1 9) u1.2.2.1, cH dT (a_p1 6) u1.2.2.2] [] [0, 1, 2, 3, 4] rfl)
    have hD : va_D A (cSP a_p1 ++ (cW dT (a_p1 4) u1.1 ++ (cP dT (a_p1 8) u1.2.1 ++ (cP dT (a_p1 9) u1.2.2.1 ++ (cH dT (a_p1 6) u1.2.2.2))))) := hD.perm (wj_back [cSP a_p1, cW dT (a_p1 4) u1.1, cP dT (a_p1 8) u1.2.1, cP dT (a_p1 9) u1.2.2.1, cH dT (a_p1 6) u1.2.2.2] [] [0, 1, 2, 3, 4] rfl)
    by_cases c2 : k1 = 2
    · replace h := iteT c2 h
      subst c2
      have hEk : E1 = EXB := hEk
      refine vx_catch (name := EXB) (E := E1) hown [] ⟨0, 5, 6, 13⟩ [⟨0, 5, 10, 16⟩] (htab.trans rfl) (fun z hz => absurd hz List.not_mem_nil) rfl (by decide) (hqs _ w_753) (by rw [hEk]; exact va_Nw.use rfl (hE.2.2.1 (EXB, EXB) (by decide +kernel))) hxc hxv hxl ?_
      refine lv_astore_n (lv' := [(2, .ref q1), (0, .ref (a_p1 0 0)), (1, .int v1)]) hx hb dL_tryRun_6 rfl hl (by decide) rfl (fun ls hl => ?_)
      refine lv_ldc (v := -9999001) hx hb hown (hqs _ w_780) dL_tryRun_7 ?_
      exact rt_i hx hb hr hlk hK hS ((u1.1, u1.2.1, u1.2.2.1, u1.2.2.2) : TW × TP × TP × TH) (ret2 h) hP hD dL_tryRun_9
    replace h := iteF c2 h
    by_cases c3 : k1 = 0
    · replace h := iteT c3 h
      subst c3
      have hEk : E1 = EXI := hEk
      refine vx_catch (name := EXI) (E := E1) hown [(⟨0, 5, 6, 13⟩ : ExceptionTableEntry)] ⟨0, 5, 10, 16⟩ [] (htab.trans rfl) (fun z hz => by
      simp only [List.mem_cons, List.not_mem_nil, or_false] at hz
      rcases hz with rfl
      · exact Or.inr ⟨by decide, EXB, hqs _ w_753, by rw [hEk]; exact hE.2.2.2.1 (EXI, EXB) (by decide +kernel)⟩) rfl (by decide) (hqs _ w_282) (by rw [hEk]; exact va_Nw.use rfl (hE.2.2.1 (EXI, EXI) (by decide +kernel))) hxc hxv hxl ?_
      refine lv_astore_n (lv' := [(2, .ref q1), (0, .ref (a_p1 0 0)), (1, .int v1)]) hx hb dL_tryRun_10 rfl hl (by decide) rfl (fun ls hl => ?_)
      refine lv_ldc (v := -9999002) hx hb hown (hqs _ w_576) dL_tryRun_11 ?_
      exact rt_i hx hb hr hlk hK hS ((u1.1, u1.2.1, u1.2.2.1, u1.2.2.2) : TW × TP × TP × TH) (ret2 h) hP hD dL_tryRun_13
    replace h := iteF c3 h
    exact nomatch h
  subst hw
  replace h := sumR h
  have hP : va_P D vwCl (cSP a_p1 ++ (cW dT (a_p1 4) u1.1 ++ (cP dT (a_p1 8) u1.2.1 ++ (cP dT (a_p1 9) u1.2.2.1 ++ (cH dT (a_p1 6) u1.2.2.2))))) H := hP.perm (wj_back [cSP a_p1, cW dT (a_p1 4) u1.1, cP dT (a_p1 8) u1.2.1, cP dT (a_p1 9) u1.2.2.1, cH dT (a_p1 6) u1.2.2.2] [] [0, 1, 2, 3, 4] rfl)
  have hD : va_D A (cSP a_p1 ++ (cW dT (a_p1 4) u1.1 ++ (cP dT (a_p1 8) u1.2.1 ++ (cP dT (a_p1 9) u1.2.2.1 ++ (cH dT (a_p1 6) u1.2.2.2))))) := hD.perm (wj_back [cSP a_p1, cW dT (a_p1 4) u1.1, cP dT (a_p1 8) u1.2.1, cP dT (a_p1 9) u1.2.2.1, cH dT (a_p1 6) u1.2.2.2] [] [0, 1, 2, 3, 4] rfl)
  exact rt_i hx hb hr hlk hK hS ((u1.1, u1.2.1, u1.2.2.1, u1.2.2.2) : TW × TP × TP × TH) (ret2 h) hP hD dL_tryRun_5

def f_L_tryWeeks (g_p1_world : TW) (g_p1_history : TH) (v1 : Int32) : Option (Int32 × (TW × TH)) :=
  ((f_X8_weeks g_p1_world g_p1_history v1).bind fun o1 => (fun u1 => o1.1.elim (fun k1 => (if k1 = 0 then (some ((-9999002 : Int32), (u1.1, u1.2))) else none)) (fun r1 => (some (r1, (u1.1, u1.2))))) o1.2)
set_option maxHeartbeats 8000000 in
set_option maxRecDepth 100000 in
theorem c_L_tryWeeks (l : Launch) (hlt : l.stackTraces = false) (D : va_G) (dT : Nat → ClassId) (a_p1 : Nat → Nat → Nat) (g_p1_world : TW) (g_p1_history : TH) (v1 : Int32) (o : (Int32 × (TW × TH))) (h : f_L_tryWeeks g_p1_world g_p1_history v1 = some o) (sz : Nat) : Met l yL_tryWeeks (Cond.codeWith yL_tryWeeks cL_tryWeeks 3 (some .int) [(0, 5, 6, 16)] :: TB) { frames := 8, cells := 1, slots := 6, locals := 133 } (va_Pc [.ref (a_p1 0 0), .int v1] (cPre D dT (cSP a_p1 ++ (cW dT (a_p1 4) g_p1_world ++ (cH dT (a_p1 6) g_p1_history))) sz)) (va_Qi (fun (r : Int32) (u : TW × TH) => r = o.1 ∧ u = o.2) (fun u t => cAt D dT (va_A (cSP a_p1 ++ (cW dT (a_p1 4) g_p1_world ++ (cH dT (a_p1 6) g_p1_history))) sz) (cSP a_p1 ++ (cW dT (a_p1 4) (u.1) ++ (cH dT (a_p1 6) (u.2)))) t) (va_A (cSP a_p1 ++ (cW dT (a_p1 4) g_p1_world ++ (cH dT (a_p1 6) g_p1_history))) sz)) 1 6 (va_A (cSP a_p1 ++ (cW dT (a_p1 4) g_p1_world ++ (cH dT (a_p1 6) g_p1_history))) sz) := by
  refine mStartH (WS := (cSP a_p1 ++ (cW dT (a_p1 4) g_p1_world ++ (cH dT (a_p1 6) g_p1_history)))) (Qc := fun A => va_Qi (fun (r : Int32) (u : TW × TH) => r = o.1 ∧ u = o.2) (fun u t => cAt D dT A (cSP a_p1 ++ (cW dT (a_p1 4) (u.1) ++ (cH dT (a_p1 6) (u.2)))) t) A) RL rfl (by decide) (Nat.le_of_ble_eq_true rfl) ?_ sz
  intro p e s m below meth c A ls hx hb hml hr hlk htab hts hqs hown hE hA hK hP hD hS hl
  have hl : lv_has ls 3 [(0, .ref (a_p1 0 0)), (1, .int v1)] := hl
  unfold f_L_tryWeeks at h
  refine lv_aload_n hx hb dL_tryWeeks_0 rfl (lv_at hl 0 rfl) ?_
  refine lv_iload_n hx hb dL_tryWeeks_1 rfl (lv_at hl 1 rfl) ?_
  obtain ⟨o1, e1, h⟩ := obind h
  have hPq : va_P D vwCl ((cSP a_p1 ++ (cW dT (a_p1 4) g_p1_world ++ (cH dT (a_p1 6) g_p1_history))) ++ ([] : va_W)) _ := hP.perm (wj_split [cSP a_p1, cW dT (a_p1 4) g_p1_world, cH dT (a_p1 6) g_p1_history] [0, 1, 2] [] rfl)
  have hDq : va_D A ((cSP a_p1 ++ (cW dT (a_p1 4) g_p1_world ++ (cH dT (a_p1 6) g_p1_history))) ++ ([] : va_W)) := hD.perm (wj_split [cSP a_p1, cW dT (a_p1 4) g_p1_world, cH dT (a_p1 6) g_p1_history] [0, 1, 2] [] rfl)
  have hPc := hPq.left
  have hDc := hDq.left
  have hFc := va_freeL hDq hS hA
  refine xcl_iL (wr := ([] : va_W)) (vx_runV (As := [.int v1]) (rest := []) ⟨hx, hb, hml, hown, hts⟩ (c_X8_weeks l hlt D dT a_p1 g_p1_world g_p1_history v1 o1 e1 _) (cwV 1 hts (TB_V w_874 w_875 w_876 w_33 w_877) rfl rfl rfl ⟨rfl, nd_X8_weeks⟩ ⟨Nat.le_of_ble_eq_true rfl, Nat.le_of_ble_eq_true rfl⟩) (cPre.V hPc hDc hK hE hS hFc (va_recv hK hPc (ci := 7) (q0 := 0) rfl rfl)) rfl rfl hl.1 rfl (lv_room (Nat.le_of_ble_eq_true rfl)) dL_tryWeeks_2 ⟨Nat.le_of_ble_eq_true rfl, Nat.le_of_ble_eq_true rfl⟩) hPq hDq hS hFc (fun k1 u1 E1 ce1 q1 H locs hw hEk hP hD hS hxc hxv hxl => ?_) (fun r1 u1 H locs hw hP hD hS => ?_)
  · have hw := xoP_inv hw
    subst hw
    have hP : va_P D vwCl (cSP a_p1 ++ (cW dT (a_p1 4) u1.1 ++ (cH dT (a_p1 6) u1.2))) H := hP.perm (wj_back [cSP a_p1, cW dT (a_p1 4) u1.1, cH dT (a_p1 6) u1.2] [] [0, 1, 2] rfl)
    have hD : va_D A (cSP a_p1 ++ (cW dT (a_p1 4) u1.1 ++ (cH dT (a_p1 6) u1.2))) := hD.perm (wj_back [cSP a_p1, cW dT (a_p1 4) u1.1, cH dT (a_p1 6) u1.2] [] [0, 1, 2] rfl)
    by_cases c2 : k1 = 0
    · replace h := iteT c2 h
      subst c2
      have hEk : E1 = EXI := hEk
      refine vx_catch (name := EXI) (E := E1) hown [] ⟨0, 5, 6, 16⟩ [] (htab.trans rfl) (fun z hz => absurd hz List.not_mem_nil) rfl (by decide) (hqs _ w_282) (by rw [hEk]; exact va_Nw.use rfl (hE.2.2.1 (EXI, EXI) (by decide +kernel))) hxc hxv hxl ?_
      refine lv_astore_n (lv' := [(2, .ref q1), (0, .ref (a_p1 0 0)), (1, .int v1)]) hx hb dL_tryWeeks_6 rfl hl (by decide) rfl (fun ls hl => ?_)
      refine lv_ldc (v := -9999002) hx hb hown (hqs _ w_576) dL_tryWeeks_7 ?_
      exact rt_i hx hb hr hlk hK hS ((u1.1, u1.2) : TW × TH) (ret2 h) hP hD dL_tryWeeks_9
    replace h := iteF c2 h
    exact nomatch h
  subst hw
  replace h := sumR h
  have hP : va_P D vwCl (cSP a_p1 ++ (cW dT (a_p1 4) u1.1 ++ (cH dT (a_p1 6) u1.2))) H := hP.perm (wj_back [cSP a_p1, cW dT (a_p1 4) u1.1, cH dT (a_p1 6) u1.2] [] [0, 1, 2] rfl)
  have hD : va_D A (cSP a_p1 ++ (cW dT (a_p1 4) u1.1 ++ (cH dT (a_p1 6) u1.2))) := hD.perm (wj_back [cSP a_p1, cW dT (a_p1 4) u1.1, cH dT (a_p1 6) u1.2] [] [0, 1, 2] rfl)
  exact rt_i hx hb hr hlk hK hS ((u1.1, u1.2) : TW × TH) (ret2 h) hP hD dL_tryWeeks_5

def f_L_trySet (g_p1_world : TW) (g_p1_history : TH) (v1 : Int32) (v2 : Int32) : Option (Int32 × (TW × TH)) :=
  ((f_X8_set g_p1_world g_p1_history v1 v2).bind fun o1 => (fun u1 => o1.1.elim (fun k1 => (if k1 = 0 then (some ((-9999002 : Int32), (u1.1, u1.2))) else none)) (fun r1 => (some (r1, (u1.1, u1.2))))) o1.2)
set_option maxHeartbeats 8000000 in
set_option maxRecDepth 100000 in
theorem c_L_trySet (l : Launch) (hlt : l.stackTraces = false) (D : va_G) (dT : Nat → ClassId) (a_p1 : Nat → Nat → Nat) (g_p1_world : TW) (g_p1_history : TH) (v1 : Int32) (v2 : Int32) (o : (Int32 × (TW × TH))) (h : f_L_trySet g_p1_world g_p1_history v1 v2 = some o) (sz : Nat) : Met l yL_trySet (Cond.codeWith yL_trySet cL_trySet 4 (some .int) [(0, 6, 7, 16)] :: TB) { frames := 7, cells := 1, slots := 6, locals := 113 } (va_Pc [.ref (a_p1 0 0), .int v1, .int v2] (cPre D dT (cSP a_p1 ++ (cW dT (a_p1 4) g_p1_world ++ (cH dT (a_p1 6) g_p1_history))) sz)) (va_Qi (fun (r : Int32) (u : TW × TH) => r = o.1 ∧ u = o.2) (fun u t => cAt D dT (va_A (cSP a_p1 ++ (cW dT (a_p1 4) g_p1_world ++ (cH dT (a_p1 6) g_p1_history))) sz) (cSP a_p1 ++ (cW dT (a_p1 4) (u.1) ++ (cH dT (a_p1 6) (u.2)))) t) (va_A (cSP a_p1 ++ (cW dT (a_p1 4) g_p1_world ++ (cH dT (a_p1 6) g_p1_history))) sz)) 1 6 (va_A (cSP a_p1 ++ (cW dT (a_p1 4) g_p1_world ++ (cH dT (a_p1 6) g_p1_history))) sz) := by
  refine mStartH (WS := (cSP a_p1 ++ (cW dT (a_p1 4) g_p1_world ++ (cH dT (a_p1 6) g_p1_history)))) (Qc := fun A => va_Qi (fun (r : Int32) (u : TW × TH) => r = o.1 ∧ u = o.2) (fun u t => cAt D dT A (cSP a_p1 ++ (cW dT (a_p1 4) (u.1) ++ (cH dT (a_p1 6) (u.2)))) t) A) RL rfl (by decide) (Nat.le_of_ble_eq_true rfl) ?_ sz
  intro p e s m below meth c A ls hx hb hml hr hlk htab hts hqs hown hE hA hK hP hD hS hl
  have hl : lv_has ls 4 [(0, .ref (a_p1 0 0)), (1, .int v1), (2, .int v2)] := hl
  unfold f_L_trySet at h
  refine lv_aload_n hx hb dL_trySet_0 rfl (lv_at hl 0 rfl) ?_
  refine lv_iload_n hx hb dL_trySet_1 rfl (lv_at hl 1 rfl) ?_
  refine lv_iload_n hx hb dL_trySet_2 rfl (lv_at hl 2 rfl) ?_
  obtain ⟨o1, e1, h⟩ := obind h
  have hPq : va_P D vwCl ((cSP a_p1 ++ (cW dT (a_p1 4) g_p1_world ++ (cH dT (a_p1 6) g_p1_history))) ++ ([] : va_W)) _ := hP.perm (wj_split [cSP a_p1, cW dT (a_p1 4) g_p1_world, cH dT (a_p1 6) g_p1_history] [0, 1, 2] [] rfl)
  have hDq : va_D A ((cSP a_p1 ++ (cW dT (a_p1 4) g_p1_world ++ (cH dT (a_p1 6) g_p1_history))) ++ ([] : va_W)) := hD.perm (wj_split [cSP a_p1, cW dT (a_p1 4) g_p1_world, cH dT (a_p1 6) g_p1_history] [0, 1, 2] [] rfl)
  have hPc := hPq.left
  have hDc := hDq.left
  have hFc := va_freeL hDq hS hA
  refine xcl_iL (wr := ([] : va_W)) (vx_runV (As := [.int v1, .int v2]) (rest := []) ⟨hx, hb, hml, hown, hts⟩ (c_X8_set l hlt D dT a_p1 g_p1_world g_p1_history v1 v2 o1 e1 _) (cwV 2 hts (TB_V w_881 w_882 w_883 w_33 w_884) rfl rfl rfl ⟨rfl, nd_X8_set⟩ ⟨Nat.le_of_ble_eq_true rfl, Nat.le_of_ble_eq_true rfl⟩) (cPre.V hPc hDc hK hE hS hFc (va_recv hK hPc (ci := 7) (q0 := 0) rfl rfl)) rfl rfl hl.1 rfl (lv_room (Nat.le_of_ble_eq_true rfl)) dL_trySet_3 ⟨Nat.le_of_ble_eq_true rfl, Nat.le_of_ble_eq_true rfl⟩) hPq hDq hS hFc (fun k1 u1 E1 ce1 q1 H locs hw hEk hP hD hS hxc hxv hxl => ?_) (fun r1 u1 H locs hw hP hD hS => ?_)
  · have hw := xoP_inv hw
    subst hw
    have hP : va_P D vwCl (cSP a_p1 ++ (cW dT (a_p1 4) u1.1 ++ (cH dT (a_p1 6) u1.2))) H := hP.perm (wj_back [cSP a_p1, cW dT (a_p1 4) u1.1, cH dT (a_p1 6) u1.2] [] [0, 1, 2] rfl)
    have hD : va_D A (cSP a_p1 ++ (cW dT (a_p1 4) u1.1 ++ (cH dT (a_p1 6) u1.2))) := hD.perm (wj_back [cSP a_p1, cW dT (a_p1 4) u1.1, cH dT (a_p1 6) u1.2] [] [0, 1, 2] rfl)
    by_cases c2 : k1 = 0
    · replace h := iteT c2 h
      subst c2
      have hEk : E1 = EXI := hEk
      refine vx_catch (name := EXI) (E := E1) hown [] ⟨0, 6, 7, 16⟩ [] (htab.trans rfl) (fun z hz => absurd hz List.not_mem_nil) rfl (by decide) (hqs _ w_282) (by rw [hEk]; exact va_Nw.use rfl (hE.2.2.1 (EXI, EXI) (by decide +kernel))) hxc hxv hxl ?_
      refine lv_astore_n (lv' := [(3, .ref q1), (0, .ref (a_p1 0 0)), (1, .int v1), (2, .int v2)]) hx hb dL_trySet_7 rfl hl (by decide) rfl (fun ls hl => ?_)
      refine lv_ldc (v := -9999002) hx hb hown (hqs _ w_576) dL_trySet_8 ?_
      exact rt_i hx hb hr hlk hK hS ((u1.1, u1.2) : TW × TH) (ret2 h) hP hD dL_trySet_10
    replace h := iteF c2 h
    exact nomatch h
  subst hw
  replace h := sumR h
  have hP : va_P D vwCl (cSP a_p1 ++ (cW dT (a_p1 4) u1.1 ++ (cH dT (a_p1 6) u1.2))) H := hP.perm (wj_back [cSP a_p1, cW dT (a_p1 4) u1.1, cH dT (a_p1 6) u1.2] [] [0, 1, 2] rfl)
  have hD : va_D A (cSP a_p1 ++ (cW dT (a_p1 4) u1.1 ++ (cH dT (a_p1 6) u1.2))) := hD.perm (wj_back [cSP a_p1, cW dT (a_p1 4) u1.1, cH dT (a_p1 6) u1.2] [] [0, 1, 2] rfl)
  exact rt_i hx hb hr hlk hK hS ((u1.1, u1.2) : TW × TH) (ret2 h) hP hD dL_trySet_6

def f_L_tryUndo (g_p1_world : TW) (g_p1_history : TH) : Option (Int32 × (TW × TH)) :=
  ((f_X8_undo g_p1_world g_p1_history).bind fun o1 => (fun u1 => o1.1.elim (fun k1 => (if k1 = 1 then (some ((-9999003 : Int32), (u1.1, u1.2))) else none)) (fun r1 => (some (r1, (u1.1, u1.2))))) o1.2)
set_option maxHeartbeats 8000000 in
set_option maxRecDepth 100000 in
theorem c_L_tryUndo (l : Launch) (hlt : l.stackTraces = false) (D : va_G) (dT : Nat → ClassId) (a_p1 : Nat → Nat → Nat) (g_p1_world : TW) (g_p1_history : TH) (o : (Int32 × (TW × TH))) (h : f_L_tryUndo g_p1_world g_p1_history = some o) (sz : Nat) : Met l yL_tryUndo (Cond.codeWith yL_tryUndo cL_tryUndo 2 (some .int) [(0, 4, 5, 37)] :: TB) { frames := 7, cells := 1, slots := 6, locals := 112 } (va_Pc [.ref (a_p1 0 0)] (cPre D dT (cSP a_p1 ++ (cW dT (a_p1 4) g_p1_world ++ (cH dT (a_p1 6) g_p1_history))) sz)) (va_Qi (fun (r : Int32) (u : TW × TH) => r = o.1 ∧ u = o.2) (fun u t => cAt D dT (va_A (cSP a_p1 ++ (cW dT (a_p1 4) g_p1_world ++ (cH dT (a_p1 6) g_p1_history))) sz) (cSP a_p1 ++ (cW dT (a_p1 4) (u.1) ++ (cH dT (a_p1 6) (u.2)))) t) (va_A (cSP a_p1 ++ (cW dT (a_p1 4) g_p1_world ++ (cH dT (a_p1 6) g_p1_history))) sz)) 1 6 (va_A (cSP a_p1 ++ (cW dT (a_p1 4) g_p1_world ++ (cH dT (a_p1 6) g_p1_history))) sz) := by
  refine mStartH (WS := (cSP a_p1 ++ (cW dT (a_p1 4) g_p1_world ++ (cH dT (a_p1 6) g_p1_history)))) (Qc := fun A => va_Qi (fun (r : Int32) (u : TW × TH) => r = o.1 ∧ u = o.2) (fun u t => cAt D dT A (cSP a_p1 ++ (cW dT (a_p1 4) (u.1) ++ (cH dT (a_p1 6) (u.2)))) t) A) RL rfl (by decide) (Nat.le_of_ble_eq_true rfl) ?_ sz
  intro p e s m below meth c A ls hx hb hml hr hlk htab hts hqs hown hE hA hK hP hD hS hl
  have hl : lv_has ls 2 [(0, .ref (a_p1 0 0))] := hl
  unfold f_L_tryUndo at h
  refine lv_aload_n hx hb dL_tryUndo_0 rfl (lv_at hl 0 rfl) ?_
  obtain ⟨o1, e1, h⟩ := obind h
  have hPq : va_P D vwCl ((cSP a_p1 ++ (cW dT (a_p1 4) g_p1_world ++ (cH dT (a_p1 6) g_p1_history))) ++ ([] : va_W)) _ := hP.perm (wj_split [cSP a_p1, cW dT (a_p1 4) g_p1_world, cH dT (a_p1 6) g_p1_history] [0, 1, 2] [] rfl)
  have hDq : va_D A ((cSP a_p1 ++ (cW dT (a_p1 4) g_p1_world ++ (cH dT (a_p1 6) g_p1_history))) ++ ([] : va_W)) := hD.perm (wj_split [cSP a_p1, cW dT (a_p1 4) g_p1_world, cH dT (a_p1 6) g_p1_history] [0, 1, 2] [] rfl)
  have hPc := hPq.left
  have hDc := hDq.left
  have hFc := va_freeL hDq hS hA
  refine xcl_iL (wr := ([] : va_W)) (vx_runV (As := []) (rest := []) ⟨hx, hb, hml, hown, hts⟩ (c_X8_undo l hlt D dT a_p1 g_p1_world g_p1_history o1 e1 _) (cwV 0 hts (TB_V w_889 w_890 w_891 w_33 w_892) rfl rfl rfl ⟨rfl, nd_X8_undo⟩ ⟨Nat.le_of_ble_eq_true rfl, Nat.le_of_ble_eq_true rfl⟩) (cPre.V hPc hDc hK hE hS hFc (va_recv hK hPc (ci := 7) (q0 := 0) rfl rfl)) rfl rfl hl.1 rfl (lv_room (Nat.le_of_ble_eq_true rfl)) dL_tryUndo_1 ⟨Nat.le_of_ble_eq_true rfl, Nat.le_of_ble_eq_true rfl⟩) hPq hDq hS hFc (fun k1 u1 E1 ce1 q1 H locs hw hEk hP hD hS hxc hxv hxl => ?_) (fun r1 u1 H locs hw hP hD hS => ?_)
  · have hw := xoP_inv hw
    subst hw
    have hP : va_P D vwCl (cSP a_p1 ++ (cW dT (a_p1 4) u1.1 ++ (cH dT (a_p1 6) u1.2))) H := hP.perm (wj_back [cSP a_p1, cW dT (a_p1 4) u1.1, cH dT (a_p1 6) u1.2] [] [0, 1, 2] rfl)
    have hD : va_D A (cSP a_p1 ++ (cW dT (a_p1 4) u1.1 ++ (cH dT (a_p1 6) u1.2))) := hD.perm (wj_back [cSP a_p1, cW dT (a_p1 4) u1.1, cH dT (a_p1 6) u1.2] [] [0, 1, 2] rfl)
    by_cases c2 : k1 = 1
    · replace h := iteT c2 h
      subst c2
      have hEk : E1 = EXS := hEk
      refine vx_catch (name := EXS) (E := E1) hown [] ⟨0, 4, 5, 37⟩ [] (htab.trans rfl) (fun z hz => absurd hz List.not_mem_nil) rfl (by decide) (hqs _ w_605) (by rw [hEk]; exact va_Nw.use rfl (hE.2.2.1 (EXS, EXS) (by decide +kernel))) hxc hxv hxl ?_
      refine lv_astore_n (lv' := [(1, .ref q1), (0, .ref (a_p1 0 0))]) hx hb dL_tryUndo_5 rfl hl (by decide) rfl (fun ls hl => ?_)
      refine lv_ldc (v := -9999003) hx hb hown (hqs _ w_635) dL_tryUndo_6 ?_
      exact rt_i hx hb hr hlk hK hS ((u1.1, u1.2) : TW × TH) (ret2 h) hP hD dL_tryUndo_8
    replace h := iteF c2 h
    exact nomatch h
  subst hw
  replace h := sumR h
  have hP : va_P D vwCl (cSP a_p1 ++ (cW dT (a_p1 4) u1.1 ++ (cH dT (a_p1 6) u1.2))) H := hP.perm (wj_back [cSP a_p1, cW dT (a_p1 4) u1.1, cH dT (a_p1 6) u1.2] [] [0, 1, 2] rfl)
  have hD : va_D A (cSP a_p1 ++ (cW dT (a_p1 4) u1.1 ++ (cH dT (a_p1 6) u1.2))) := hD.perm (wj_back [cSP a_p1, cW dT (a_p1 4) u1.1, cH dT (a_p1 6) u1.2] [] [0, 1, 2] rfl)
  exact rt_i hx hb hr hlk hK hS ((u1.1, u1.2) : TW × TH) (ret2 h) hP hD dL_tryUndo_4

def f_L_tryOrder (g_p1_world : TW) (g_p1_chosen : TP) (v1 : Int32) (v2 : Int32) (v3 : Int32) : Option (Int32 × (TP)) :=
  ((f_X8_order g_p1_world g_p1_chosen v1 v2 v3).bind fun o1 => (fun u1 => o1.1.elim (fun k1 => (if k1 = 2 then (some ((-9999001 : Int32), u1)) else (if k1 = 0 then (some ((-9999002 : Int32), u1)) else none))) (fun r1 => (some (r1, u1)))) o1.2)
set_option maxHeartbeats 8000000 in
set_option maxRecDepth 100000 in
theorem c_L_tryOrder (l : Launch) (hlt : l.stackTraces = false) (D : va_G) (dT : Nat → ClassId) (a_p1 : Nat → Nat → Nat) (g_p1_world : TW) (g_p1_chosen : TP) (v1 : Int32) (v2 : Int32) (v3 : Int32) (o : (Int32 × (TP))) (h : f_L_tryOrder g_p1_world g_p1_chosen v1 v2 v3 = some o) (sz : Nat) : Met l yL_tryOrder (Cond.codeWith yL_tryOrder cL_tryOrder 5 (some .int) [(0, 7, 8, 13), (0, 7, 13, 16)] :: TB) { frames := 9, cells := 3, slots := 18, locals := 155 } (va_Pc [.ref (a_p1 0 0), .int v1, .int v2, .int v3] (cPre D dT (cSP a_p1 ++ (cW dT (a_p1 4) g_p1_world ++ (cP dT (a_p1 8) g_p1_chosen))) sz)) (va_Qi (fun (r : Int32) (u : TP) => r = o.1 ∧ u = o.2) (fun u t => cAt D dT (va_A (cSP a_p1 ++ (cW dT (a_p1 4) g_p1_world ++ (cP dT (a_p1 8) g_p1_chosen))) sz) (cSP a_p1 ++ (cW dT (a_p1 4) g_p1_world ++ (cP dT (a_p1 8) u))) t) (va_A (cSP a_p1 ++ (cW dT (a_p1 4) g_p1_world ++ (cP dT (a_p1 8) g_p1_chosen))) sz)) 3 18 (va_A (cSP a_p1 ++ (cW dT (a_p1 4) g_p1_world ++ (cP dT (a_p1 8) g_p1_chosen))) sz) := by
  refine mStartH (WS := (cSP a_p1 ++ (cW dT (a_p1 4) g_p1_world ++ (cP dT (a_p1 8) g_p1_chosen)))) (Qc := fun A => va_Qi (fun (r : Int32) (u : TP) => r = o.1 ∧ u = o.2) (fun u t => cAt D dT A (cSP a_p1 ++ (cW dT (a_p1 4) g_p1_world ++ (cP dT (a_p1 8) u))) t) A) RL rfl (by decide) (Nat.le_of_ble_eq_true rfl) ?_ sz
  intro p e s m below meth c A ls hx hb hml hr hlk htab hts hqs hown hE hA hK hP hD hS hl
  have hl : lv_has ls 5 [(0, .ref (a_p1 0 0)), (1, .int v1), (2, .int v2), (3, .int v3)] := hl
  unfold f_L_tryOrder at h
  refine lv_aload_n hx hb dL_tryOrder_0 rfl (lv_at hl 0 rfl) ?_
  refine lv_iload_n hx hb dL_tryOrder_1 rfl (lv_at hl 1 rfl) ?_
  refine lv_iload_n hx hb dL_tryOrder_2 rfl (lv_at hl 2 rfl) ?_
  refine lv_iload_n hx hb dL_tryOrder_3 rfl (lv_at hl 3 rfl) ?_
  obtain ⟨o1, e1, h⟩ := obind h
  have hPq : va_P D vwCl ((cSP a_p1 ++ (cW dT (a_p1 4) g_p1_world ++ (cP dT (a_p1 8) g_p1_chosen))) ++ ([] : va_W)) _ := hP.perm (wj_split [cSP a_p1, cW dT (a_p1 4) g_p1_world, cP dT (a_p1 8) g_p1_chosen] [0, 1, 2] [] rfl)
  have hDq : va_D A ((cSP a_p1 ++ (cW dT (a_p1 4) g_p1_world ++ (cP dT (a_p1 8) g_p1_chosen))) ++ ([] : va_W)) := hD.perm (wj_split [cSP a_p1, cW dT (a_p1 4) g_p1_world, cP dT (a_p1 8) g_p1_chosen] [0, 1, 2] [] rfl)
  have hPc := hPq.left
  have hDc := hDq.left
  have hFc := va_freeL hDq hS hA
  refine xcl_iL (wr := ([] : va_W)) (vx_runV (As := [.int v1, .int v2, .int v3]) (rest := []) ⟨hx, hb, hml, hown, hts⟩ (c_X8_order l hlt D dT a_p1 g_p1_world g_p1_chosen v1 v2 v3 o1 e1 _) (cwV 3 hts (TB_V w_905 w_906 w_907 w_33 w_908) rfl rfl rfl ⟨rfl, nd_X8_order⟩ ⟨Nat.le_of_ble_eq_true rfl, Nat.le_of_ble_eq_true rfl⟩) (cPre.V hPc hDc hK hE hS hFc (va_recv hK hPc (ci := 7) (q0 := 0) rfl rfl)) rfl rfl hl.1 rfl (lv_room (Nat.le_of_ble_eq_true rfl)) dL_tryOrder_4 ⟨Nat.le_of_ble_eq_true rfl, Nat.le_of_ble_eq_true rfl⟩) hPq hDq hS hFc (fun k1 u1 E1 ce1 q1 H locs hw hEk hP hD hS hxc hxv hxl => ?_) (fun r1 u1 H locs hw hP hD hS => ?_)
  · have hw := xoP_inv hw
    subst hw
    have hP : va_P D vwCl (cSP a_p1 ++ (cW dT (a_p1 4) g_p1_world ++ (cP dT (a_p1 8) u1))) H := hP.perm (wj_back [cSP a_p1, cW dT (a_p1 4) g_p1_world, cP dT (a_p1 8) u1] [] [0, 1, 2] rfl)
    have hD : va_D A (cSP a_p1 ++ (cW dT (a_p1 4) g_p1_world ++ (cP dT (a_p1 8) u1))) := hD.perm (wj_back [cSP a_p1, cW dT (a_p1 4) g_p1_world, cP dT (a_p1 8) u1] [] [0, 1, 2] rfl)
    by_cases c2 : k1 = 2
    · replace h := iteT c2 h
      subst c2
      have hEk : E1 = EXB := hEk
      refine vx_catch (name := EXB) (E := E1) hown [] ⟨0, 7, 8, 13⟩ [⟨0, 7, 13, 16⟩] (htab.trans rfl) (fun z hz => absurd hz List.not_mem_nil) rfl (by decide) (hqs _ w_753) (by rw [hEk]; exact va_Nw.use rfl (hE.2.2.1 (EXB, EXB) (by decide +kernel))) hxc hxv hxl ?_
      refine lv_astore (lv' := [(4, .ref q1), (0, .ref (a_p1 0 0)), (1, .int v1), (2, .int v2), (3, .int v3)]) hx hb dL_tryOrder_8 hl (by decide) rfl (fun ls hl => ?_)
      refine lv_ldc (v := -9999001) hx hb hown (hqs _ w_780) dL_tryOrder_10 ?_
      exact rt_i hx hb hr hlk hK hS (u1 : TP) (ret2 h) hP hD dL_tryOrder_12
    replace h := iteF c2 h
    by_cases c3 : k1 = 0
    · replace h := iteT c3 h
      subst c3
      have hEk : E1 = EXI := hEk
      refine vx_catch (name := EXI) (E := E1) hown [(⟨0, 7, 8, 13⟩ : ExceptionTableEntry)] ⟨0, 7, 13, 16⟩ [] (htab.trans rfl) (fun z hz => by
      simp only [List.mem_cons, List.not_mem_nil, or_false] at hz
      rcases hz with rfl
      · exact Or.inr ⟨by decide, EXB, hqs _ w_753, by rw [hEk]; exact hE.2.2.2.1 (EXI, EXB) (by decide +kernel)⟩) rfl (by decide) (hqs _ w_282) (by rw [hEk]; exact va_Nw.use rfl (hE.2.2.1 (EXI, EXI) (by decide +kernel))) hxc hxv hxl ?_
      refine lv_astore (lv' := [(4, .ref q1), (0, .ref (a_p1 0 0)), (1, .int v1), (2, .int v2), (3, .int v3)]) hx hb dL_tryOrder_13 hl (by decide) rfl (fun ls hl => ?_)
      refine lv_ldc (v := -9999002) hx hb hown (hqs _ w_576) dL_tryOrder_15 ?_
      exact rt_i hx hb hr hlk hK hS (u1 : TP) (ret2 h) hP hD dL_tryOrder_17
    replace h := iteF c3 h
    exact nomatch h
  subst hw
  replace h := sumR h
  have hP : va_P D vwCl (cSP a_p1 ++ (cW dT (a_p1 4) g_p1_world ++ (cP dT (a_p1 8) u1))) H := hP.perm (wj_back [cSP a_p1, cW dT (a_p1 4) g_p1_world, cP dT (a_p1 8) u1] [] [0, 1, 2] rfl)
  have hD : va_D A (cSP a_p1 ++ (cW dT (a_p1 4) g_p1_world ++ (cP dT (a_p1 8) u1))) := hD.perm (wj_back [cSP a_p1, cW dT (a_p1 4) g_p1_world, cP dT (a_p1 8) u1] [] [0, 1, 2] rfl)
  exact rt_i hx hb hr hlk hK hS (u1 : TP) (ret2 h) hP hD dL_tryOrder_7

def f_L_tryWay (g_p1_world : TW) (g_p1_chosen : TP) (v1 : Int32) (v2 : Int32) : Option (Int32 × (TP)) :=
  ((f_X8_way g_p1_world g_p1_chosen v1 v2).bind fun o1 => (fun u1 => o1.1.elim (fun k1 => (if k1 = 2 then (some ((-9999001 : Int32), u1)) else (if k1 = 0 then (some ((-9999002 : Int32), u1)) else none))) (fun r1 => (some (r1, u1)))) o1.2)
set_option maxHeartbeats 8000000 in
set_option maxRecDepth 100000 in
theorem c_L_tryWay (l : Launch) (hlt : l.stackTraces = false) (D : va_G) (dT : Nat → ClassId) (a_p1 : Nat → Nat → Nat) (g_p1_world : TW) (g_p1_chosen : TP) (v1 : Int32) (v2 : Int32) (o : (Int32 × (TP))) (h : f_L_tryWay g_p1_world g_p1_chosen v1 v2 = some o) (sz : Nat) : Met l yL_tryWay (Cond.codeWith yL_tryWay cL_tryWay 4 (some .int) [(0, 6, 7, 13), (0, 6, 11, 16)] :: TB) { frames := 8, cells := 2, slots := 12, locals := 133 } (va_Pc [.ref (a_p1 0 0), .int v1, .int v2] (cPre D dT (cSP a_p1 ++ (cW dT (a_p1 4) g_p1_world ++ (cP dT (a_p1 8) g_p1_chosen))) sz)) (va_Qi (fun (r : Int32) (u : TP) => r = o.1 ∧ u = o.2) (fun u t => cAt D dT (va_A (cSP a_p1 ++ (cW dT (a_p1 4) g_p1_world ++ (cP dT (a_p1 8) g_p1_chosen))) sz) (cSP a_p1 ++ (cW dT (a_p1 4) g_p1_world ++ (cP dT (a_p1 8) u))) t) (va_A (cSP a_p1 ++ (cW dT (a_p1 4) g_p1_world ++ (cP dT (a_p1 8) g_p1_chosen))) sz)) 2 12 (va_A (cSP a_p1 ++ (cW dT (a_p1 4) g_p1_world ++ (cP dT (a_p1 8) g_p1_chosen))) sz) := by
  refine mStartH (WS := (cSP a_p1 ++ (cW dT (a_p1 4) g_p1_world ++ (cP dT (a_p1 8) g_p1_chosen)))) (Qc := fun A => va_Qi (fun (r : Int32) (u : TP) => r = o.1 ∧ u = o.2) (fun u t => cAt D dT A (cSP a_p1 ++ (cW dT (a_p1 4) g_p1_world ++ (cP dT (a_p1 8) u))) t) A) RL rfl (by decide) (Nat.le_of_ble_eq_true rfl) ?_ sz
  intro p e s m below meth c A ls hx hb hml hr hlk htab hts hqs hown hE hA hK hP hD hS hl
  have hl : lv_has ls 4 [(0, .ref (a_p1 0 0)), (1, .int v1), (2, .int v2)] := hl
  unfold f_L_tryWay at h
  refine lv_aload_n hx hb dL_tryWay_0 rfl (lv_at hl 0 rfl) ?_
  refine lv_iload_n hx hb dL_tryWay_1 rfl (lv_at hl 1 rfl) ?_
  refine lv_iload_n hx hb dL_tryWay_2 rfl (lv_at hl 2 rfl) ?_
  obtain ⟨o1, e1, h⟩ := obind h
  have hPq : va_P D vwCl ((cSP a_p1 ++ (cW dT (a_p1 4) g_p1_world ++ (cP dT (a_p1 8) g_p1_chosen))) ++ ([] : va_W)) _ := hP.perm (wj_split [cSP a_p1, cW dT (a_p1 4) g_p1_world, cP dT (a_p1 8) g_p1_chosen] [0, 1, 2] [] rfl)
  have hDq : va_D A ((cSP a_p1 ++ (cW dT (a_p1 4) g_p1_world ++ (cP dT (a_p1 8) g_p1_chosen))) ++ ([] : va_W)) := hD.perm (wj_split [cSP a_p1, cW dT (a_p1 4) g_p1_world, cP dT (a_p1 8) g_p1_chosen] [0, 1, 2] [] rfl)
  have hPc := hPq.left
  have hDc := hDq.left
  have hFc := va_freeL hDq hS hA
  refine xcl_iL (wr := ([] : va_W)) (vx_runV (As := [.int v1, .int v2]) (rest := []) ⟨hx, hb, hml, hown, hts⟩ (c_X8_way l hlt D dT a_p1 g_p1_world g_p1_chosen v1 v2 o1 e1 _) (cwV 2 hts (TB_V w_919 w_920 w_921 w_33 w_922) rfl rfl rfl ⟨rfl, nd_X8_way⟩ ⟨Nat.le_of_ble_eq_true rfl, Nat.le_of_ble_eq_true rfl⟩) (cPre.V hPc hDc hK hE hS hFc (va_recv hK hPc (ci := 7) (q0 := 0) rfl rfl)) rfl rfl hl.1 rfl (lv_room (Nat.le_of_ble_eq_true rfl)) dL_tryWay_3 ⟨Nat.le_of_ble_eq_true rfl, Nat.le_of_ble_eq_true rfl⟩) hPq hDq hS hFc (fun k1 u1 E1 ce1 q1 H locs hw hEk hP hD hS hxc hxv hxl => ?_) (fun r1 u1 H locs hw hP hD hS => ?_)
  · have hw := xoP_inv hw
    subst hw
    have hP : va_P D vwCl (cSP a_p1 ++ (cW dT (a_p1 4) g_p1_world ++ (cP dT (a_p1 8) u1))) H := hP.perm (wj_back [cSP a_p1, cW dT (a_p1 4) g_p1_world, cP dT (a_p1 8) u1] [] [0, 1, 2] rfl)
    have hD : va_D A (cSP a_p1 ++ (cW dT (a_p1 4) g_p1_world ++ (cP dT (a_p1 8) u1))) := hD.perm (wj_back [cSP a_p1, cW dT (a_p1 4) g_p1_world, cP dT (a_p1 8) u1] [] [0, 1, 2] rfl)
    by_cases c2 : k1 = 2
    · replace h := iteT c2 h
      subst c2
      have hEk : E1 = EXB := hEk
      refine vx_catch (name := EXB) (E := E1) hown [] ⟨0, 6, 7, 13⟩ [⟨0, 6, 11, 16⟩] (htab.trans rfl) (fun z hz => absurd hz List.not_mem_nil) rfl (by decide) (hqs _ w_753) (by rw [hEk]; exact va_Nw.use rfl (hE.2.2.1 (EXB, EXB) (by decide +kernel))) hxc hxv hxl ?_
      refine lv_astore_n (lv' := [(3, .ref q1), (0, .ref (a_p1 0 0)), (1, .int v1), (2, .int v2)]) hx hb dL_tryWay_7 rfl hl (by decide) rfl (fun ls hl => ?_)
      refine lv_ldc (v := -9999001) hx hb hown (hqs _ w_780) dL_tryWay_8 ?_
      exact rt_i hx hb hr hlk hK hS (u1 : TP) (ret2 h) hP hD dL_tryWay_10
    replace h := iteF c2 h
    by_cases c3 : k1 = 0
    · replace h := iteT c3 h
      subst c3
      have hEk : E1 = EXI := hEk
      refine vx_catch (name := EXI) (E := E1) hown [(⟨0, 6, 7, 13⟩ : ExceptionTableEntry)] ⟨0, 6, 11, 16⟩ [] (htab.trans rfl) (fun z hz => by
      simp only [List.mem_cons, List.not_mem_nil, or_false] at hz
      rcases hz with rfl
      · exact Or.inr ⟨by decide, EXB, hqs _ w_753, by rw [hEk]; exact hE.2.2.2.1 (EXI, EXB) (by decide +kernel)⟩) rfl (by decide) (hqs _ w_282) (by rw [hEk]; exact va_Nw.use rfl (hE.2.2.1 (EXI, EXI) (by decide +kernel))) hxc hxv hxl ?_
      refine lv_astore_n (lv' := [(3, .ref q1), (0, .ref (a_p1 0 0)), (1, .int v1), (2, .int v2)]) hx hb dL_tryWay_11 rfl hl (by decide) rfl (fun ls hl => ?_)
      refine lv_ldc (v := -9999002) hx hb hown (hqs _ w_576) dL_tryWay_12 ?_
      exact rt_i hx hb hr hlk hK hS (u1 : TP) (ret2 h) hP hD dL_tryWay_14
    replace h := iteF c3 h
    exact nomatch h
  subst hw
  replace h := sumR h
  have hP : va_P D vwCl (cSP a_p1 ++ (cW dT (a_p1 4) g_p1_world ++ (cP dT (a_p1 8) u1))) H := hP.perm (wj_back [cSP a_p1, cW dT (a_p1 4) g_p1_world, cP dT (a_p1 8) u1] [] [0, 1, 2] rfl)
  have hD : va_D A (cSP a_p1 ++ (cW dT (a_p1 4) g_p1_world ++ (cP dT (a_p1 8) u1))) := hD.perm (wj_back [cSP a_p1, cW dT (a_p1 4) g_p1_world, cP dT (a_p1 8) u1] [] [0, 1, 2] rfl)
  exact rt_i hx hb hr hlk hK hS (u1 : TP) (ret2 h) hP hD dL_tryWay_6

def f_L_tryMatters (g_p1_world : TW) (g_p1_copy : TW) (g_p1_chosen : TP) (g_p1_other : TP) (v1 : Int32) (v2 : Int32) (v3 : Int32) : Option (Int32 × (TW × TP × TP)) :=
  ((f_X8_matters g_p1_world g_p1_copy g_p1_chosen g_p1_other v1 v2 v3).bind fun o1 => (fun u1 => o1.1.elim (fun k1 => (if k1 = 2 then (some ((-9999001 : Int32), (u1.1, u1.2.1, u1.2.2))) else (if k1 = 0 then (some ((-9999002 : Int32), (u1.1, u1.2.1, u1.2.2))) else none))) (fun r1 => (some (r1, (u1.1, u1.2.1, u1.2.2))))) o1.2)
set_option maxHeartbeats 8000000 in
set_option maxRecDepth 100000 in
theorem c_L_tryMatters (l : Launch) (hlt : l.stackTraces = false) (D : va_G) (dT : Nat → ClassId) (a_p1 : Nat → Nat → Nat) (g_p1_world : TW) (g_p1_copy : TW) (g_p1_chosen : TP) (g_p1_other : TP) (v1 : Int32) (v2 : Int32) (v3 : Int32) (o : (Int32 × (TW × TP × TP))) (h : f_L_tryMatters g_p1_world g_p1_copy g_p1_chosen g_p1_other v1 v2 v3 = some o) (sz : Nat) : Met l yL_tryMatters (Cond.codeWith yL_tryMatters cL_tryMatters 5 (some .int) [(0, 7, 8, 13), (0, 7, 13, 16)] :: TB) { frames := 8, cells := 4, slots := 24, locals := 135 } (va_Pc [.ref (a_p1 0 0), .int v1, .int v2, .int v3] (cPre D dT (cSP a_p1 ++ (cW dT (a_p1 4) g_p1_world ++ (cW dT (a_p1 5) g_p1_copy ++ (cP dT (a_p1 8) g_p1_chosen ++ (cP dT (a_p1 9) g_p1_other))))) sz)) (va_Qi (fun (r : Int32) (u : TW × TP × TP) => r = o.1 ∧ u = o.2) (fun u t => cAt D dT (va_A (cSP a_p1 ++ (cW dT (a_p1 4) g_p1_world ++ (cW dT (a_p1 5) g_p1_copy ++ (cP dT (a_p1 8) g_p1_chosen ++ (cP dT (a_p1 9) g_p1_other))))) sz) (cSP a_p1 ++ (cW dT (a_p1 4) g_p1_world ++ (cW dT (a_p1 5) (u.1) ++ (cP dT (a_p1 8) (u.2.1) ++ (cP dT (a_p1 9) (u.2.2)))))) t) (va_A (cSP a_p1 ++ (cW dT (a_p1 4) g_p1_world ++ (cW dT (a_p1 5) g_p1_copy ++ (cP dT (a_p1 8) g_p1_chosen ++ (cP dT (a_p1 9) g_p1_other))))) sz)) 4 24 (va_A (cSP a_p1 ++ (cW dT (a_p1 4) g_p1_world ++ (cW dT (a_p1 5) g_p1_copy ++ (cP dT (a_p1 8) g_p1_chosen ++ (cP dT (a_p1 9) g_p1_other))))) sz) := by
  refine mStartH (WS := (cSP a_p1 ++ (cW dT (a_p1 4) g_p1_world ++ (cW dT (a_p1 5) g_p1_copy ++ (cP dT (a_p1 8) g_p1_chosen ++ (cP dT (a_p1 9) g_p1_other)))))) (Qc := fun A => va_Qi (fun (r : Int32) (u : TW × TP × TP) => r = o.1 ∧ u = o.2) (fun u t => cAt D dT A (cSP a_p1 ++ (cW dT (a_p1 4) g_p1_world ++ (cW dT (a_p1 5) (u.1) ++ (cP dT (a_p1 8) (u.2.1) ++ (cP dT (a_p1 9) (u.2.2)))))) t) A) RL rfl (by decide) (Nat.le_of_ble_eq_true rfl) ?_ sz
  intro p e s m below meth c A ls hx hb hml hr hlk htab hts hqs hown hE hA hK hP hD hS hl
  have hl : lv_has ls 5 [(0, .ref (a_p1 0 0)), (1, .int v1), (2, .int v2), (3, .int v3)] := hl
  unfold f_L_tryMatters at h
  refine lv_aload_n hx hb dL_tryMatters_0 rfl (lv_at hl 0 rfl) ?_
  refine lv_iload_n hx hb dL_tryMatters_1 rfl (lv_at hl 1 rfl) ?_
  refine lv_iload_n hx hb dL_tryMatters_2 rfl (lv_at hl 2 rfl) ?_
  refine lv_iload_n hx hb dL_tryMatters_3 rfl (lv_at hl 3 rfl) ?_
  obtain ⟨o1, e1, h⟩ := obind h
  have hPq : va_P D vwCl ((cSP a_p1 ++ (cW dT (a_p1 4) g_p1_world ++ (cW dT (a_p1 5) g_p1_copy ++ (cP dT (a_p1 8) g_p1_chosen ++ (cP dT (a_p1 9) g_p1_other))))) ++ ([] : va_W)) _ := hP.perm (wj_split [cSP a_p1, cW dT (a_p1 4) g_p1_world, cW dT (a_p1 5) g_p1_copy, cP dT (a_p1 8) g_p1_chosen, cP dT (a_p1 9) g_p1_other] [0, 1, 2, 3, 4] [] rfl)
  have hDq : va_D A ((cSP a_p1 ++ (cW dT (a_p1 4) g_p1_world ++ (cW dT (a_p1 5) g_p1_copy ++ (cP dT (a_p1 8) g_p1_chosen ++ (cP dT (a_p1 9) g_p1_other))))) ++ ([] : va_W)) := hD.perm (wj_split [cSP a_p1, cW dT (a_p1 4) g_p1_world, cW dT (a_p1 5) g_p1_copy, cP dT (a_p1 8) g_p1_chosen, cP dT (a_p1 9) g_p1_other] [0, 1, 2, 3, 4] [] rfl)
  have hPc := hPq.left
  have hDc := hDq.left
  have hFc := va_freeL hDq hS hA
  refine xcl_iL (wr := ([] : va_W)) (vx_runV (As := [.int v1, .int v2, .int v3]) (rest := []) ⟨hx, hb, hml, hown, hts⟩ (c_X8_matters l hlt D dT a_p1 g_p1_world g_p1_copy g_p1_chosen g_p1_other v1 v2 v3 o1 e1 _) (cwV 3 hts (TB_V w_927 w_928 w_929 w_33 w_930) rfl rfl rfl ⟨rfl, nd_X8_matters⟩ ⟨Nat.le_of_ble_eq_true rfl, Nat.le_of_ble_eq_true rfl⟩) (cPre.V hPc hDc hK hE hS hFc (va_recv hK hPc (ci := 7) (q0 := 0) rfl rfl)) rfl rfl hl.1 rfl (lv_room (Nat.le_of_ble_eq_true rfl)) dL_tryMatters_4 ⟨Nat.le_of_ble_eq_true rfl, Nat.le_of_ble_eq_true rfl⟩) hPq hDq hS hFc (fun k1 u1 E1 ce1 q1 H locs hw hEk hP hD hS hxc hxv hxl => ?_) (fun r1 u1 H locs hw hP hD hS => ?_)
  · have hw := xoP_inv hw
    subst hw
    have hP : va_P D vwCl (cSP a_p1 ++ (cW dT (a_p1 4) g_p1_world ++ (cW dT (a_p1 5) u1.1 ++ (cP dT (a_p1 8) u1.2.1 ++ (cP dT (a_p1 9) u1.2.2))))) H := hP.perm (wj_back [cSP a_p1, cW dT (a_p1 4) g_p1_world, cW dT (a_p1 5) u1.1, cP dT (a_p1 8) u1.2.1, cP dT (a_p1 9) u1.2.2] [] [0, 1, 2, 3, 4] rfl)
    have hD : va_D A (cSP a_p1 ++ (cW dT (a_p1 4) g_p1_world ++ (cW dT (a_p1 5) u1.1 ++ (cP dT (a_p1 8) u1.2.1 ++ (cP dT (a_p1 9) u1.2.2))))) := hD.perm (wj_back [cSP a_p1, cW dT (a_p1 4) g_p1_world, cW dT (a_p1 5) u1.1, cP dT (a_p1 8) u1.2.1, cP dT (a_p1 9) u1.2.2] [] [0, 1, 2, 3, 4] rfl)
    by_cases c2 : k1 = 2
    · replace h := iteT c2 h
      subst c2
      have hEk : E1 = EXB := hEk
      refine vx_catch (name := EXB) (E := E1) hown [] ⟨0, 7, 8, 13⟩ [⟨0, 7, 13, 16⟩] (htab.trans rfl) (fun z hz => absurd hz List.not_mem_nil) rfl (by decide) (hqs _ w_753) (by rw [hEk]; exact va_Nw.use rfl (hE.2.2.1 (EXB, EXB) (by decide +kernel))) hxc hxv hxl ?_
      refine lv_astore (lv' := [(4, .ref q1), (0, .ref (a_p1 0 0)), (1, .int v1), (2, .int v2), (3, .int v3)]) hx hb dL_tryMatters_8 hl (by decide) rfl (fun ls hl => ?_)
      refine lv_ldc (v := -9999001) hx hb hown (hqs _ w_780) dL_tryMatters_10 ?_
      exact rt_i hx hb hr hlk hK hS ((u1.1, u1.2.1, u1.2.2) : TW × TP × TP) (ret2 h) hP hD dL_tryMatters_12
    replace h := iteF c2 h
    by_cases c3 : k1 = 0
    · replace h := iteT c3 h
      subst c3
      have hEk : E1 = EXI := hEk
      refine vx_catch (name := EXI) (E := E1) hown [(⟨0, 7, 8, 13⟩ : ExceptionTableEntry)] ⟨0, 7, 13, 16⟩ [] (htab.trans rfl) (fun z hz => by
      simp only [List.mem_cons, List.not_mem_nil, or_false] at hz
      rcases hz with rfl
      · exact Or.inr ⟨by decide, EXB, hqs _ w_753, by rw [hEk]; exact hE.2.2.2.1 (EXI, EXB) (by decide +kernel)⟩) rfl (by decide) (hqs _ w_282) (by rw [hEk]; exact va_Nw.use rfl (hE.2.2.1 (EXI, EXI) (by decide +kernel))) hxc hxv hxl ?_
      refine lv_astore (lv' := [(4, .ref q1), (0, .ref (a_p1 0 0)), (1, .int v1), (2, .int v2), (3, .int v3)]) hx hb dL_tryMatters_13 hl (by decide) rfl (fun ls hl => ?_)
      refine lv_ldc (v := -9999002) hx hb hown (hqs _ w_576) dL_tryMatters_15 ?_
      exact rt_i hx hb hr hlk hK hS ((u1.1, u1.2.1, u1.2.2) : TW × TP × TP) (ret2 h) hP hD dL_tryMatters_17
    replace h := iteF c3 h
    exact nomatch h
  subst hw
  replace h := sumR h
  have hP : va_P D vwCl (cSP a_p1 ++ (cW dT (a_p1 4) g_p1_world ++ (cW dT (a_p1 5) u1.1 ++ (cP dT (a_p1 8) u1.2.1 ++ (cP dT (a_p1 9) u1.2.2))))) H := hP.perm (wj_back [cSP a_p1, cW dT (a_p1 4) g_p1_world, cW dT (a_p1 5) u1.1, cP dT (a_p1 8) u1.2.1, cP dT (a_p1 9) u1.2.2] [] [0, 1, 2, 3, 4] rfl)
  have hD : va_D A (cSP a_p1 ++ (cW dT (a_p1 4) g_p1_world ++ (cW dT (a_p1 5) u1.1 ++ (cP dT (a_p1 8) u1.2.1 ++ (cP dT (a_p1 9) u1.2.2))))) := hD.perm (wj_back [cSP a_p1, cW dT (a_p1 4) g_p1_world, cW dT (a_p1 5) u1.1, cP dT (a_p1 8) u1.2.1, cP dT (a_p1 9) u1.2.2] [] [0, 1, 2, 3, 4] rfl)
  exact rt_i hx hb hr hlk hK hS ((u1.1, u1.2.1, u1.2.2) : TW × TP × TP) (ret2 h) hP hD dL_tryMatters_7

def f_L_tryLearns (g_p1_world : TW) (g_p1_copy : TW) (g_p1_chosen : TP) (g_p1_other : TP) (v1 : Int32) : Option (Int32 × (TW × TP × TP)) :=
  ((f_X8_learnsIn g_p1_world g_p1_copy g_p1_chosen g_p1_other v1).bind fun o1 => (fun u1 => o1.1.elim (fun k1 => (if k1 = 2 then (some ((-9999001 : Int32), (u1.1, u1.2.1, u1.2.2))) else (if k1 = 0 then (some ((-9999002 : Int32), (u1.1, u1.2.1, u1.2.2))) else none))) (fun r1 => (some (r1, (u1.1, u1.2.1, u1.2.2))))) o1.2)
set_option maxHeartbeats 8000000 in
set_option maxRecDepth 100000 in
theorem c_L_tryLearns (l : Launch) (hlt : l.stackTraces = false) (D : va_G) (dT : Nat → ClassId) (a_p1 : Nat → Nat → Nat) (g_p1_world : TW) (g_p1_copy : TW) (g_p1_chosen : TP) (g_p1_other : TP) (v1 : Int32) (o : (Int32 × (TW × TP × TP))) (h : f_L_tryLearns g_p1_world g_p1_copy g_p1_chosen g_p1_other v1 = some o) (sz : Nat) : Met l yL_tryLearns (Cond.codeWith yL_tryLearns cL_tryLearns 3 (some .int) [(0, 5, 6, 13), (0, 5, 10, 16)] :: TB) { frames := 8, cells := 2, slots := 12, locals := 137 } (va_Pc [.ref (a_p1 0 0), .int v1] (cPre D dT (cSP a_p1 ++ (cW dT (a_p1 4) g_p1_world ++ (cW dT (a_p1 5) g_p1_copy ++ (cP dT (a_p1 8) g_p1_chosen ++ (cP dT (a_p1 9) g_p1_other))))) sz)) (va_Qi (fun (r : Int32) (u : TW × TP × TP) => r = o.1 ∧ u = o.2) (fun u t => cAt D dT (va_A (cSP a_p1 ++ (cW dT (a_p1 4) g_p1_world ++ (cW dT (a_p1 5) g_p1_copy ++ (cP dT (a_p1 8) g_p1_chosen ++ (cP dT (a_p1 9) g_p1_other))))) sz) (cSP a_p1 ++ (cW dT (a_p1 4) g_p1_world ++ (cW dT (a_p1 5) (u.1) ++ (cP dT (a_p1 8) (u.2.1) ++ (cP dT (a_p1 9) (u.2.2)))))) t) (va_A (cSP a_p1 ++ (cW dT (a_p1 4) g_p1_world ++ (cW dT (a_p1 5) g_p1_copy ++ (cP dT (a_p1 8) g_p1_chosen ++ (cP dT (a_p1 9) g_p1_other))))) sz)) 2 12 (va_A (cSP a_p1 ++ (cW dT (a_p1 4) g_p1_world ++ (cW dT (a_p1 5) g_p1_copy ++ (cP dT (a_p1 8) g_p1_chosen ++ (cP dT (a_p1 9) g_p1_other))))) sz) := by
  refine mStartH (WS := (cSP a_p1 ++ (cW dT (a_p1 4) g_p1_world ++ (cW dT (a_p1 5) g_p1_copy ++ (cP dT (a_p1 8) g_p1_chosen ++ (cP dT (a_p1 9) g_p1_other)))))) (Qc := fun A => va_Qi (fun (r : Int32) (u : TW × TP × TP) => r = o.1 ∧ u = o.2) (fun u t => cAt D dT A (cSP a_p1 ++ (cW dT (a_p1 4) g_p1_world ++ (cW dT (a_p1 5) (u.1) ++ (cP dT (a_p1 8) (u.2.1) ++ (cP dT (a_p1 9) (u.2.2)))))) t) A) RL rfl (by decide) (Nat.le_of_ble_eq_true rfl) ?_ sz
  intro p e s m below meth c A ls hx hb hml hr hlk htab hts hqs hown hE hA hK hP hD hS hl
  have hl : lv_has ls 3 [(0, .ref (a_p1 0 0)), (1, .int v1)] := hl
  unfold f_L_tryLearns at h
  refine lv_aload_n hx hb dL_tryLearns_0 rfl (lv_at hl 0 rfl) ?_
  refine lv_iload_n hx hb dL_tryLearns_1 rfl (lv_at hl 1 rfl) ?_
  obtain ⟨o1, e1, h⟩ := obind h
  have hPq : va_P D vwCl ((cSP a_p1 ++ (cW dT (a_p1 4) g_p1_world ++ (cW dT (a_p1 5) g_p1_copy ++ (cP dT (a_p1 8) g_p1_chosen ++ (cP dT (a_p1 9) g_p1_other))))) ++ ([] : va_W)) _ := hP.perm (wj_split [cSP a_p1, cW dT (a_p1 4) g_p1_world, cW dT (a_p1 5) g_p1_copy, cP dT (a_p1 8) g_p1_chosen, cP dT (a_p1 9) g_p1_other] [0, 1, 2, 3, 4] [] rfl)
  have hDq : va_D A ((cSP a_p1 ++ (cW dT (a_p1 4) g_p1_world ++ (cW dT (a_p1 5) g_p1_copy ++ (cP dT (a_p1 8) g_p1_chosen ++ (cP dT (a_p1 9) g_p1_other))))) ++ ([] : va_W)) := hD.perm (wj_split [cSP a_p1, cW dT (a_p1 4) g_p1_world, cW dT (a_p1 5) g_p1_copy, cP dT (a_p1 8) g_p1_chosen, cP dT (a_p1 9) g_p1_other] [0, 1, 2, 3, 4] [] rfl)
  have hPc := hPq.left
  have hDc := hDq.left
  have hFc := va_freeL hDq hS hA
  refine xcl_iL (wr := ([] : va_W)) (vx_runV (As := [.int v1]) (rest := []) ⟨hx, hb, hml, hown, hts⟩ (c_X8_learnsIn l hlt D dT a_p1 g_p1_world g_p1_copy g_p1_chosen g_p1_other v1 o1 e1 _) (cwV 1 hts (TB_V w_940 w_941 w_942 w_33 w_943) rfl rfl rfl ⟨rfl, nd_X8_learnsIn⟩ ⟨Nat.le_of_ble_eq_true rfl, Nat.le_of_ble_eq_true rfl⟩) (cPre.V hPc hDc hK hE hS hFc (va_recv hK hPc (ci := 7) (q0 := 0) rfl rfl)) rfl rfl hl.1 rfl (lv_room (Nat.le_of_ble_eq_true rfl)) dL_tryLearns_2 ⟨Nat.le_of_ble_eq_true rfl, Nat.le_of_ble_eq_true rfl⟩) hPq hDq hS hFc (fun k1 u1 E1 ce1 q1 H locs hw hEk hP hD hS hxc hxv hxl => ?_) (fun r1 u1 H locs hw hP hD hS => ?_)
  · have hw := xoP_inv hw
    subst hw
    have hP : va_P D vwCl (cSP a_p1 ++ (cW dT (a_p1 4) g_p1_world ++ (cW dT (a_p1 5) u1.1 ++ (cP dT (a_p1 8) u1.2.1 ++ (cP dT (a_p1 9) u1.2.2))))) H := hP.perm (wj_back [cSP a_p1, cW dT (a_p1 4) g_p1_world, cW dT (a_p1 5) u1.1, cP dT (a_p1 8) u1.2.1, cP dT (a_p1 9) u1.2.2] [] [0, 1, 2, 3, 4] rfl)
    have hD : va_D A (cSP a_p1 ++ (cW dT (a_p1 4) g_p1_world ++ (cW dT (a_p1 5) u1.1 ++ (cP dT (a_p1 8) u1.2.1 ++ (cP dT (a_p1 9) u1.2.2))))) := hD.perm (wj_back [cSP a_p1, cW dT (a_p1 4) g_p1_world, cW dT (a_p1 5) u1.1, cP dT (a_p1 8) u1.2.1, cP dT (a_p1 9) u1.2.2] [] [0, 1, 2, 3, 4] rfl)
    by_cases c2 : k1 = 2
    · replace h := iteT c2 h
      subst c2
      have hEk : E1 = EXB := hEk
      refine vx_catch (name := EXB) (E := E1) hown [] ⟨0, 5, 6, 13⟩ [⟨0, 5, 10, 16⟩] (htab.trans rfl) (fun z hz => absurd hz List.not_mem_nil) rfl (by decide) (hqs _ w_753) (by rw [hEk]; exact va_Nw.use rfl (hE.2.2.1 (EXB, EXB) (by decide +kernel))) hxc hxv hxl ?_
      refine lv_astore_n (lv' := [(2, .ref q1), (0, .ref (a_p1 0 0)), (1, .int v1)]) hx hb dL_tryLearns_6 rfl hl (by decide) rfl (fun ls hl => ?_)
      refine lv_ldc (v := -9999001) hx hb hown (hqs _ w_780) dL_tryLearns_7 ?_
      exact rt_i hx hb hr hlk hK hS ((u1.1, u1.2.1, u1.2.2) : TW × TP × TP) (ret2 h) hP hD dL_tryLearns_9
    replace h := iteF c2 h
    by_cases c3 : k1 = 0
    · replace h := iteT c3 h
      subst c3
      have hEk : E1 = EXI := hEk
      refine vx_catch (name := EXI) (E := E1) hown [(⟨0, 5, 6, 13⟩ : ExceptionTableEntry)] ⟨0, 5, 10, 16⟩ [] (htab.trans rfl) (fun z hz => by
      simp only [List.mem_cons, List.not_mem_nil, or_false] at hz
      rcases hz with rfl
      · exact Or.inr ⟨by decide, EXB, hqs _ w_753, by rw [hEk]; exact hE.2.2.2.1 (EXI, EXB) (by decide +kernel)⟩) rfl (by decide) (hqs _ w_282) (by rw [hEk]; exact va_Nw.use rfl (hE.2.2.1 (EXI, EXI) (by decide +kernel))) hxc hxv hxl ?_
      refine lv_astore_n (lv' := [(2, .ref q1), (0, .ref (a_p1 0 0)), (1, .int v1)]) hx hb dL_tryLearns_10 rfl hl (by decide) rfl (fun ls hl => ?_)
      refine lv_ldc (v := -9999002) hx hb hown (hqs _ w_576) dL_tryLearns_11 ?_
      exact rt_i hx hb hr hlk hK hS ((u1.1, u1.2.1, u1.2.2) : TW × TP × TP) (ret2 h) hP hD dL_tryLearns_13
    replace h := iteF c3 h
    exact nomatch h
  subst hw
  replace h := sumR h
  have hP : va_P D vwCl (cSP a_p1 ++ (cW dT (a_p1 4) g_p1_world ++ (cW dT (a_p1 5) u1.1 ++ (cP dT (a_p1 8) u1.2.1 ++ (cP dT (a_p1 9) u1.2.2))))) H := hP.perm (wj_back [cSP a_p1, cW dT (a_p1 4) g_p1_world, cW dT (a_p1 5) u1.1, cP dT (a_p1 8) u1.2.1, cP dT (a_p1 9) u1.2.2] [] [0, 1, 2, 3, 4] rfl)
  have hD : va_D A (cSP a_p1 ++ (cW dT (a_p1 4) g_p1_world ++ (cW dT (a_p1 5) u1.1 ++ (cP dT (a_p1 8) u1.2.1 ++ (cP dT (a_p1 9) u1.2.2))))) := hD.perm (wj_back [cSP a_p1, cW dT (a_p1 4) g_p1_world, cW dT (a_p1 5) u1.1, cP dT (a_p1 8) u1.2.1, cP dT (a_p1 9) u1.2.2] [] [0, 1, 2, 3, 4] rfl)
  exact rt_i hx hb hr hlk hK hS ((u1.1, u1.2.1, u1.2.2) : TW × TP × TP) (ret2 h) hP hD dL_tryLearns_5

def f_L_tryKeep (g_p1_world : TW) (g_p1_slots : TS) (v1 : Int32) : Option (Int32 × (TS)) :=
  ((f_X8_save g_p1_world g_p1_slots v1).bind fun o1 => (fun u1 => o1.1.elim (fun k1 => (if k1 = 2 then (some ((-9999001 : Int32), u1)) else none)) (fun r1 => (some (r1, u1)))) o1.2)
set_option maxHeartbeats 8000000 in
set_option maxRecDepth 100000 in
theorem c_L_tryKeep (l : Launch) (hlt : l.stackTraces = false) (D : va_G) (dT : Nat → ClassId) (a_p1 : Nat → Nat → Nat) (g_p1_world : TW) (g_p1_slots : TS) (v1 : Int32) (o : (Int32 × (TS))) (h : f_L_tryKeep g_p1_world g_p1_slots v1 = some o) (sz : Nat) : Met l yL_tryKeep (Cond.codeWith yL_tryKeep cL_tryKeep 3 (some .int) [(0, 5, 6, 13)] :: TB) { frames := 8, cells := 1, slots := 6, locals := 131 } (va_Pc [.ref (a_p1 0 0), .int v1] (cPre D dT (cSP a_p1 ++ (cW dT (a_p1 4) g_p1_world ++ (cS dT (a_p1 7) g_p1_slots))) sz)) (va_Qi (fun (r : Int32) (u : TS) => r = o.1 ∧ u = o.2) (fun u t => cAt D dT (va_A (cSP a_p1 ++ (cW dT (a_p1 4) g_p1_world ++ (cS dT (a_p1 7) g_p1_slots))) sz) (cSP a_p1 ++ (cW dT (a_p1 4) g_p1_world ++ (cS dT (a_p1 7) u))) t) (va_A (cSP a_p1 ++ (cW dT (a_p1 4) g_p1_world ++ (cS dT (a_p1 7) g_p1_slots))) sz)) 1 6 (va_A (cSP a_p1 ++ (cW dT (a_p1 4) g_p1_world ++ (cS dT (a_p1 7) g_p1_slots))) sz) := by
  refine mStartH (WS := (cSP a_p1 ++ (cW dT (a_p1 4) g_p1_world ++ (cS dT (a_p1 7) g_p1_slots)))) (Qc := fun A => va_Qi (fun (r : Int32) (u : TS) => r = o.1 ∧ u = o.2) (fun u t => cAt D dT A (cSP a_p1 ++ (cW dT (a_p1 4) g_p1_world ++ (cS dT (a_p1 7) u))) t) A) RL rfl (by decide) (Nat.le_of_ble_eq_true rfl) ?_ sz
  intro p e s m below meth c A ls hx hb hml hr hlk htab hts hqs hown hE hA hK hP hD hS hl
  have hl : lv_has ls 3 [(0, .ref (a_p1 0 0)), (1, .int v1)] := hl
  unfold f_L_tryKeep at h
  refine lv_aload_n hx hb dL_tryKeep_0 rfl (lv_at hl 0 rfl) ?_
  refine lv_iload_n hx hb dL_tryKeep_1 rfl (lv_at hl 1 rfl) ?_
  obtain ⟨o1, e1, h⟩ := obind h
  have hPq : va_P D vwCl ((cSP a_p1 ++ (cW dT (a_p1 4) g_p1_world ++ (cS dT (a_p1 7) g_p1_slots))) ++ ([] : va_W)) _ := hP.perm (wj_split [cSP a_p1, cW dT (a_p1 4) g_p1_world, cS dT (a_p1 7) g_p1_slots] [0, 1, 2] [] rfl)
  have hDq : va_D A ((cSP a_p1 ++ (cW dT (a_p1 4) g_p1_world ++ (cS dT (a_p1 7) g_p1_slots))) ++ ([] : va_W)) := hD.perm (wj_split [cSP a_p1, cW dT (a_p1 4) g_p1_world, cS dT (a_p1 7) g_p1_slots] [0, 1, 2] [] rfl)
  have hPc := hPq.left
  have hDc := hDq.left
  have hFc := va_freeL hDq hS hA
  refine xcl_iL (wr := ([] : va_W)) (vx_runV (As := [.int v1]) (rest := []) ⟨hx, hb, hml, hown, hts⟩ (c_X8_save l hlt D dT a_p1 g_p1_world g_p1_slots v1 o1 e1 _) (cwV 1 hts (TB_V w_947 w_948 w_949 w_33 w_950) rfl rfl rfl ⟨rfl, nd_X8_save⟩ ⟨Nat.le_of_ble_eq_true rfl, Nat.le_of_ble_eq_true rfl⟩) (cPre.V hPc hDc hK hE hS hFc (va_recv hK hPc (ci := 7) (q0 := 0) rfl rfl)) rfl rfl hl.1 rfl (lv_room (Nat.le_of_ble_eq_true rfl)) dL_tryKeep_2 ⟨Nat.le_of_ble_eq_true rfl, Nat.le_of_ble_eq_true rfl⟩) hPq hDq hS hFc (fun k1 u1 E1 ce1 q1 H locs hw hEk hP hD hS hxc hxv hxl => ?_) (fun r1 u1 H locs hw hP hD hS => ?_)
  · have hw := xoP_inv hw
    subst hw
    have hP : va_P D vwCl (cSP a_p1 ++ (cW dT (a_p1 4) g_p1_world ++ (cS dT (a_p1 7) u1))) H := hP.perm (wj_back [cSP a_p1, cW dT (a_p1 4) g_p1_world, cS dT (a_p1 7) u1] [] [0, 1, 2] rfl)
    have hD : va_D A (cSP a_p1 ++ (cW dT (a_p1 4) g_p1_world ++ (cS dT (a_p1 7) u1))) := hD.perm (wj_back [cSP a_p1, cW dT (a_p1 4) g_p1_world, cS dT (a_p1 7) u1] [] [0, 1, 2] rfl)
    by_cases c2 : k1 = 2
    · replace h := iteT c2 h
      subst c2
      have hEk : E1 = EXB := hEk
      refine vx_catch (name := EXB) (E := E1) hown [] ⟨0, 5, 6, 13⟩ [] (htab.trans rfl) (fun z hz => absurd hz List.not_mem_nil) rfl (by decide) (hqs _ w_753) (by rw [hEk]; exact va_Nw.use rfl (hE.2.2.1 (EXB, EXB) (by decide +kernel))) hxc hxv hxl ?_
      refine lv_astore_n (lv' := [(2, .ref q1), (0, .ref (a_p1 0 0)), (1, .int v1)]) hx hb dL_tryKeep_6 rfl hl (by decide) rfl (fun ls hl => ?_)
      refine lv_ldc (v := -9999001) hx hb hown (hqs _ w_780) dL_tryKeep_7 ?_
      exact rt_i hx hb hr hlk hK hS (u1 : TS) (ret2 h) hP hD dL_tryKeep_9
    replace h := iteF c2 h
    exact nomatch h
  subst hw
  replace h := sumR h
  have hP : va_P D vwCl (cSP a_p1 ++ (cW dT (a_p1 4) g_p1_world ++ (cS dT (a_p1 7) u1))) H := hP.perm (wj_back [cSP a_p1, cW dT (a_p1 4) g_p1_world, cS dT (a_p1 7) u1] [] [0, 1, 2] rfl)
  have hD : va_D A (cSP a_p1 ++ (cW dT (a_p1 4) g_p1_world ++ (cS dT (a_p1 7) u1))) := hD.perm (wj_back [cSP a_p1, cW dT (a_p1 4) g_p1_world, cS dT (a_p1 7) u1] [] [0, 1, 2] rfl)
  exact rt_i hx hb hr hlk hK hS (u1 : TS) (ret2 h) hP hD dL_tryKeep_5

