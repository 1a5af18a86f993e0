def f_L_matters (n_p5 : Nat) (g_p1_world : TW) (g_p1_copy : TW) (g_p1_chosen : TP) (g_p1_other : TP) (g_p5 : Nat → Int64) (v1 : Int32) (v2 : Int32) (v3 : Int32) : Option (Int32 × (TW × TP × TP × (Nat → Int64))) :=
  ((f_X8_matters g_p1_world g_p1_copy g_p1_chosen g_p1_other v1 v2 v3).bind fun o1 => (fun u1 => o1.1.elim (fun k1 => (if k1 = 2 then (some ((1 : Int32), (u1.1, u1.2.1, u1.2.2, g_p5))) else (if k1 = 0 then (some ((2 : Int32), (u1.1, u1.2.1, u1.2.2, g_p5))) else none))) (fun r1 => (if inb (0 : Int32) n_p5 = true then (some ((0 : Int32), (u1.1, u1.2.1, u1.2.2, (vp_updL g_p5 (0 : Int32).toNatClampNeg (Int32.toInt64 r1))))) else none))) o1.2)
set_option maxHeartbeats 8000000 in
set_option maxRecDepth 100000 in
theorem c_L_matters (l : Launch) (hlt : l.stackTraces = false) (D : va_G) (dT : Nat → ClassId) (a_p1 : Nat → Nat → Nat) (a_p5 : Nat) (n_p5 : Nat) (g_p1_world : TW) (g_p1_copy : TW) (g_p1_chosen : TP) (g_p1_other : TP) (g_p5 : Nat → Int64) (v1 : Int32) (v2 : Int32) (v3 : Int32) (o : (Int32 × (TW × TP × TP × (Nat → Int64)))) (h : f_L_matters n_p5 g_p1_world g_p1_copy g_p1_chosen g_p1_other g_p5 v1 v2 v3 = some o) (sz : Nat) : Met l yL_matters (Cond.codeWith yL_matters cL_matters 6 (some .int) [(0, 12, 15, 31), (0, 12, 19, 13)] :: TB) { frames := 8, cells := 4, slots := 24, locals := 135 } (va_Pc [.ref (a_p1 0 0), .int v1, .int v2, .int v3, .ref a_p5] (cPre D dT (cSP a_p1 ++ (cW dT (a_p1 4) g_p1_world ++ (cW dT (a_p1 5) g_p1_copy ++ (cP dT (a_p1 8) g_p1_chosen ++ (cP dT (a_p1 9) g_p1_other ++ (cJ_ dT a_p5 n_p5 g_p5)))))) sz)) (va_Qi (fun (r : Int32) (u : TW × TP × TP × (Nat → Int64)) => r = o.1 ∧ u = o.2) (fun u t => cAt D dT (va_A (cSP a_p1 ++ (cW dT (a_p1 4) g_p1_world ++ (cW dT (a_p1 5) g_p1_copy ++ (cP dT (a_p1 8) g_p1_chosen ++ (cP dT (a_p1 9) g_p1_other ++ (cJ_ dT a_p5 n_p5 g_p5)))))) sz) (cSP a_p1 ++ (cW dT (a_p1 4) g_p1_world ++ (cW dT (a_p1 5) (u.1) ++ (cP dT (a_p1 8) (u.2.1) ++ (cP dT (a_p1 9) (u.2.2.1) ++ (cJ_ dT a_p5 n_p5 (u.2.2.2))))))) t) (va_A (cSP a_p1 ++ (cW dT (a_p1 4) g_p1_world ++ (cW dT (a_p1 5) g_p1_copy ++ (cP dT (a_p1 8) g_p1_chosen ++ (cP dT (a_p1 9) g_p1_other ++ (cJ_ dT a_p5 n_p5 g_p5)))))) sz)) 4 24 (va_A (cSP a_p1 ++ (cW dT (a_p1 4) g_p1_world ++ (cW dT (a_p1 5) g_p1_copy ++ (cP dT (a_p1 8) g_p1_chosen ++ (cP dT (a_p1 9) g_p1_other ++ (cJ_ dT a_p5 n_p5 g_p5)))))) sz) := by
  refine mStartH (WS := (cSP a_p1 ++ (cW dT (a_p1 4) g_p1_world ++ (cW dT (a_p1 5) g_p1_copy ++ (cP dT (a_p1 8) g_p1_chosen ++ (cP dT (a_p1 9) g_p1_other ++ (cJ_ dT a_p5 n_p5 g_p5))))))) (Qc := fun A => va_Qi (fun (r : Int32) (u : TW × TP × TP × (Nat → Int64)) => r = o.1 ∧ u = o.2) (fun u t => cAt D dT A (cSP a_p1 ++ (cW dT (a_p1 4) g_p1_world ++ (cW dT (a_p1 5) (u.1) ++ (cP dT (a_p1 8) (u.2.1) ++ (cP dT (a_p1 9) (u.2.2.1) ++ (cJ_ dT a_p5 n_p5 (u.2.2.2))))))) t) A) RL rfl (by decide) (Nat.le_of_ble_eq_true rfl) ?_ sz
  intro p e s m below meth c A ls hx hb hml hr hlk htab hts hqs hown hE hA hK hP hD hS hl
  have hl : lv_has ls 6 [(0, .ref (a_p1 0 0)), (1, .int v1), (2, .int v2), (3, .int v3), (4, .ref a_p5)] := hl
  unfold f_L_matters at h
  refine lv_aload hx hb dL_matters_0 (lv_at hl 4 rfl) ?_
  refine lv_iconst (v := 0) hx hb dL_matters_2 (by decide) ?_
  refine lv_aload_n hx hb dL_matters_3 rfl (lv_at hl 0 rfl) ?_
  refine lv_iload_n hx hb dL_matters_4 rfl (lv_at hl 1 rfl) ?_
  refine lv_iload_n hx hb dL_matters_5 rfl (lv_at hl 2 rfl) ?_
  refine lv_iload_n hx hb dL_matters_6 rfl (lv_at hl 3 rfl) ?_
  obtain ⟨o1, e1, h⟩ := obind h
  have hPq : va_P D vwCl ((cSP a_p1 ++ (cW dT (a_p1 4) g_p1_world ++ (cW dT (a_p1 5) g_p1_copy ++ (cP dT (a_p1 8) g_p1_chosen ++ (cP dT (a_p1 9) g_p1_other))))) ++ (cJ_ dT a_p5 n_p5 g_p5)) _ := hP.perm (wj_split [cSP a_p1, cW dT (a_p1 4) g_p1_world, cW dT (a_p1 5) g_p1_copy, cP dT (a_p1 8) g_p1_chosen, cP dT (a_p1 9) g_p1_other, cJ_ dT a_p5 n_p5 g_p5] [0, 1, 2, 3, 4] [5] rfl)
  have hDq : va_D A ((cSP a_p1 ++ (cW dT (a_p1 4) g_p1_world ++ (cW dT (a_p1 5) g_p1_copy ++ (cP dT (a_p1 8) g_p1_chosen ++ (cP dT (a_p1 9) g_p1_other))))) ++ (cJ_ dT a_p5 n_p5 g_p5)) := hD.perm (wj_split [cSP a_p1, cW dT (a_p1 4) g_p1_world, cW dT (a_p1 5) g_p1_copy, cP dT (a_p1 8) g_p1_chosen, cP dT (a_p1 9) g_p1_other, cJ_ dT a_p5 n_p5 g_p5] [0, 1, 2, 3, 4] [5] rfl)
  have hPc := hPq.left
  have hDc := hDq.left
  have hFc := va_freeL hDq hS hA
  refine xcl_iL (wr := (cJ_ dT a_p5 n_p5 g_p5)) (vx_runV (As := [.int v1, .int v2, .int v3]) (rest := [.int (0 : Int32), .ref a_p5]) ⟨hx, hb, hml, hown, hts⟩ (c_X8_matters l hlt D dT a_p1 g_p1_world g_p1_copy g_p1_chosen g_p1_other v1 v2 v3 o1 e1 _) (cwV 3 hts (TB_V w_956 w_957 w_958 w_50 w_959) rfl rfl rfl ⟨rfl, nd_X8_matters⟩ ⟨Nat.le_of_ble_eq_true rfl, Nat.le_of_ble_eq_true rfl⟩) (cPre.V hPc hDc hK hE hS hFc (va_recv hK hPc (ci := 7) (q0 := 0) rfl rfl)) rfl rfl hl.1 rfl (lv_room (Nat.le_of_ble_eq_true rfl)) dL_matters_7 ⟨Nat.le_of_ble_eq_true rfl, Nat.le_of_ble_eq_true rfl⟩) hPq hDq hS hFc (fun k1 u1 E1 ce1 q1 H locs hw hEk hP hD hS hxc hxv hxl => ?_) (fun r1 u1 H locs hw hP hD hS => ?_)
  · have hw := xoP_inv hw
    subst hw
    have hP : va_P D vwCl (cSP a_p1 ++ (cW dT (a_p1 4) g_p1_world ++ (cW dT (a_p1 5) u1.1 ++ (cP dT (a_p1 8) u1.2.1 ++ (cP dT (a_p1 9) u1.2.2 ++ (cJ_ dT a_p5 n_p5 g_p5)))))) H := hP.perm (wj_back [cSP a_p1, cW dT (a_p1 4) g_p1_world, cW dT (a_p1 5) u1.1, cP dT (a_p1 8) u1.2.1, cP dT (a_p1 9) u1.2.2] [cJ_ dT a_p5 n_p5 g_p5] [0, 1, 2, 3, 4, 5] rfl)
    have hD : va_D A (cSP a_p1 ++ (cW dT (a_p1 4) g_p1_world ++ (cW dT (a_p1 5) u1.1 ++ (cP dT (a_p1 8) u1.2.1 ++ (cP dT (a_p1 9) u1.2.2 ++ (cJ_ dT a_p5 n_p5 g_p5)))))) := hD.perm (wj_back [cSP a_p1, cW dT (a_p1 4) g_p1_world, cW dT (a_p1 5) u1.1, cP dT (a_p1 8) u1.2.1, cP dT (a_p1 9) u1.2.2] [cJ_ dT a_p5 n_p5 g_p5] [0, 1, 2, 3, 4, 5] rfl)
    by_cases c2 : k1 = 2
    · replace h := iteT c2 h
      subst c2
      have hEk : E1 = EXB := hEk
      refine vx_catch (name := EXB) (E := E1) hown [] ⟨0, 12, 15, 31⟩ [⟨0, 12, 19, 13⟩] (htab.trans rfl) (fun z hz => absurd hz List.not_mem_nil) rfl (by decide) (hqs _ w_608) (by rw [hEk]; exact va_Nw.use rfl (hE.2.2.1 (EXB, EXB) (by decide +kernel))) hxc hxv hxl ?_
      refine lv_astore (lv' := [(5, .ref q1), (0, .ref (a_p1 0 0)), (1, .int v1), (2, .int v2), (3, .int v3), (4, .ref a_p5)]) hx hb dL_matters_15 hl (by decide) rfl (fun ls hl => ?_)
      refine lv_iconst (v := 1) hx hb dL_matters_17 (by decide) ?_
      exact rt_i hx hb hr hlk hK hS ((u1.1, u1.2.1, u1.2.2, g_p5) : TW × TP × TP × (Nat → Int64)) (ret2 h) hP hD dL_matters_18
    replace h := iteF c2 h
    by_cases c3 : k1 = 0
    · replace h := iteT c3 h
      subst c3
      have hEk : E1 = EXI := hEk
      refine vx_catch (name := EXI) (E := E1) hown [(⟨0, 12, 15, 31⟩ : ExceptionTableEntry)] ⟨0, 12, 19, 13⟩ [] (htab.trans rfl) (fun z hz => by
      simp only [List.mem_cons, List.not_mem_nil, or_false] at hz
      rcases hz with rfl
      · exact Or.inr ⟨by decide, EXB, hqs _ w_608, by rw [hEk]; exact hE.2.2.2.1 (EXI, EXB) (by decide +kernel)⟩) rfl (by decide) (hqs _ w_410) (by rw [hEk]; exact va_Nw.use rfl (hE.2.2.1 (EXI, EXI) (by decide +kernel))) hxc hxv hxl ?_
      refine lv_astore (lv' := [(5, .ref q1), (0, .ref (a_p1 0 0)), (1, .int v1), (2, .int v2), (3, .int v3), (4, .ref a_p5)]) hx hb dL_matters_19 hl (by decide) rfl (fun ls hl => ?_)
      refine lv_iconst (v := 2) hx hb dL_matters_21 (by decide) ?_
      exact rt_i hx hb hr hlk hK hS ((u1.1, u1.2.1, u1.2.2, g_p5) : TW × TP × TP × (Nat → Int64)) (ret2 h) hP hD dL_matters_22
    replace h := iteF c3 h
    exact nomatch h
  subst hw
  replace h := sumR h
  have hP : va_P D vwCl (cSP a_p1 ++ (cW dT (a_p1 4) g_p1_world ++ (cW dT (a_p1 5) u1.1 ++ (cP dT (a_p1 8) u1.2.1 ++ (cP dT (a_p1 9) u1.2.2 ++ (cJ_ dT a_p5 n_p5 g_p5)))))) H := hP.perm (wj_back [cSP a_p1, cW dT (a_p1 4) g_p1_world, cW dT (a_p1 5) u1.1, cP dT (a_p1 8) u1.2.1, cP dT (a_p1 9) u1.2.2] [cJ_ dT a_p5 n_p5 g_p5] [0, 1, 2, 3, 4, 5] rfl)
  have hD : va_D A (cSP a_p1 ++ (cW dT (a_p1 4) g_p1_world ++ (cW dT (a_p1 5) u1.1 ++ (cP dT (a_p1 8) u1.2.1 ++ (cP dT (a_p1 9) u1.2.2 ++ (cJ_ dT a_p5 n_p5 g_p5)))))) := hD.perm (wj_back [cSP a_p1, cW dT (a_p1 4) g_p1_world, cW dT (a_p1 5) u1.1, cP dT (a_p1 8) u1.2.1, cP dT (a_p1 9) u1.2.2] [cJ_ dT a_p5 n_p5 g_p5] [0, 1, 2, 3, 4, 5] rfl)
  refine lv_i2l hx hb dL_matters_10 rfl ?_
  obtain ⟨g4, h⟩ := chk h
  refine va_last hx hb hK hP hD hS 37 1 rfl rfl (inb_in g4) dL_matters_11 (fun H locs hP hD hS => ?_)
  have hP : va_P D vwCl (cSP a_p1 ++ (cW dT (a_p1 4) g_p1_world ++ (cW dT (a_p1 5) u1.1 ++ (cP dT (a_p1 8) u1.2.1 ++ (cP dT (a_p1 9) u1.2.2 ++ (cJ_ dT a_p5 n_p5 (vp_updL g_p5 (0 : Int32).toNatClampNeg (Int32.toInt64 r1)))))))) H := hP
  have hD : va_D A (cSP a_p1 ++ (cW dT (a_p1 4) g_p1_world ++ (cW dT (a_p1 5) u1.1 ++ (cP dT (a_p1 8) u1.2.1 ++ (cP dT (a_p1 9) u1.2.2 ++ (cJ_ dT a_p5 n_p5 (vp_updL g_p5 (0 : Int32).toNatClampNeg (Int32.toInt64 r1)))))))) := hD
  refine lv_goto (tgt := 23) hx hb dL_matters_12 (by decide) ?_
  refine lv_iconst (v := 0) hx hb dL_matters_23 (by decide) ?_
  exact rt_i hx hb hr hlk hK hS ((u1.1, u1.2.1, u1.2.2, (vp_updL g_p5 (0 : Int32).toNatClampNeg (Int32.toInt64 r1))) : TW × TP × TP × (Nat → Int64)) (ret2 h) hP hD dL_matters_24

def f_L_learnsIn (n_p3 : Nat) (g_p1_world : TW) (g_p1_copy : TW) (g_p1_chosen : TP) (g_p1_other : TP) (g_p3 : Nat → Int64) (v1 : Int32) : Option (Int32 × (TW × TP × TP × (Nat → Int64))) :=
  ((f_X8_learnsIn g_p1_world g_p1_copy g_p1_chosen g_p1_other v1).bind fun o1 => (fun u1 => o1.1.elim (fun k1 => (if k1 = 2 then (some ((1 : Int32), (u1.1, u1.2.1, u1.2.2, g_p3))) else (if k1 = 0 then (some ((2 : Int32), (u1.1, u1.2.1, u1.2.2, g_p3))) else none))) (fun r1 => (if inb (0 : Int32) n_p3 = true then (some ((0 : Int32), (u1.1, u1.2.1, u1.2.2, (vp_updL g_p3 (0 : Int32).toNatClampNeg (Int32.toInt64 r1))))) else none))) o1.2)
set_option maxHeartbeats 8000000 in
set_option maxRecDepth 100000 in
theorem c_L_learnsIn (l : Launch) (hlt : l.stackTraces = false) (D : va_G) (dT : Nat → ClassId) (a_p1 : Nat → Nat → Nat) (a_p3 : Nat) (n_p3 : Nat) (g_p1_world : TW) (g_p1_copy : TW) (g_p1_chosen : TP) (g_p1_other : TP) (g_p3 : Nat → Int64) (v1 : Int32) (o : (Int32 × (TW × TP × TP × (Nat → Int64)))) (h : f_L_learnsIn n_p3 g_p1_world g_p1_copy g_p1_chosen g_p1_other g_p3 v1 = some o) (sz : Nat) : Met l yL_learnsIn (Cond.codeWith yL_learnsIn cL_learnsIn 4 (some .int) [(0, 9, 12, 31), (0, 9, 15, 13)] :: TB) { frames := 8, cells := 2, slots := 12, locals := 137 } (va_Pc [.ref (a_p1 0 0), .int v1, .ref a_p3] (cPre D dT (cSP a_p1 ++ (cW dT (a_p1 4) g_p1_world ++ (cW dT (a_p1 5) g_p1_copy ++ (cP dT (a_p1 8) g_p1_chosen ++ (cP dT (a_p1 9) g_p1_other ++ (cJ_ dT a_p3 n_p3 g_p3)))))) sz)) (va_Qi (fun (r : Int32) (u : TW × TP × TP × (Nat → Int64)) => r = o.1 ∧ u = o.2) (fun u t => cAt D dT (va_A (cSP a_p1 ++ (cW dT (a_p1 4) g_p1_world ++ (cW dT (a_p1 5) g_p1_copy ++ (cP dT (a_p1 8) g_p1_chosen ++ (cP dT (a_p1 9) g_p1_other ++ (cJ_ dT a_p3 n_p3 g_p3)))))) sz) (cSP a_p1 ++ (cW dT (a_p1 4) g_p1_world ++ (cW dT (a_p1 5) (u.1) ++ (cP dT (a_p1 8) (u.2.1) ++ (cP dT (a_p1 9) (u.2.2.1) ++ (cJ_ dT a_p3 n_p3 (u.2.2.2))))))) t) (va_A (cSP a_p1 ++ (cW dT (a_p1 4) g_p1_world ++ (cW dT (a_p1 5) g_p1_copy ++ (cP dT (a_p1 8) g_p1_chosen ++ (cP dT (a_p1 9) g_p1_other ++ (cJ_ dT a_p3 n_p3 g_p3)))))) sz)) 2 12 (va_A (cSP a_p1 ++ (cW dT (a_p1 4) g_p1_world ++ (cW dT (a_p1 5) g_p1_copy ++ (cP dT (a_p1 8) g_p1_chosen ++ (cP dT (a_p1 9) g_p1_other ++ (cJ_ dT a_p3 n_p3 g_p3)))))) sz) := by
  refine mStartH (WS := (cSP a_p1 ++ (cW dT (a_p1 4) g_p1_world ++ (cW dT (a_p1 5) g_p1_copy ++ (cP dT (a_p1 8) g_p1_chosen ++ (cP dT (a_p1 9) g_p1_other ++ (cJ_ dT a_p3 n_p3 g_p3))))))) (Qc := fun A => va_Qi (fun (r : Int32) (u : TW × TP × TP × (Nat → Int64)) => r = o.1 ∧ u = o.2) (fun u t => cAt D dT A (cSP a_p1 ++ (cW dT (a_p1 4) g_p1_world ++ (cW dT (a_p1 5) (u.1) ++ (cP dT (a_p1 8) (u.2.1) ++ (cP dT (a_p1 9) (u.2.2.1) ++ (cJ_ dT a_p3 n_p3 (u.2.2.2))))))) t) A) RL rfl (by decide) (Nat.le_of_ble_eq_true rfl) ?_ sz
  intro p e s m below meth c A ls hx hb hml hr hlk htab hts hqs hown hE hA hK hP hD hS hl
  have hl : lv_has ls 4 [(0, .ref (a_p1 0 0)), (1, .int v1), (2, .ref a_p3)] := hl
  unfold f_L_learnsIn at h
  refine lv_aload_n hx hb dL_learnsIn_0 rfl (lv_at hl 2 rfl) ?_
  refine lv_iconst (v := 0) hx hb dL_learnsIn_1 (by decide) ?_
  refine lv_aload_n hx hb dL_learnsIn_2 rfl (lv_at hl 0 rfl) ?_
  refine lv_iload_n hx hb dL_learnsIn_3 rfl (lv_at hl 1 rfl) ?_
  obtain ⟨o1, e1, h⟩ := obind h
  have hPq : va_P D vwCl ((cSP a_p1 ++ (cW dT (a_p1 4) g_p1_world ++ (cW dT (a_p1 5) g_p1_copy ++ (cP dT (a_p1 8) g_p1_chosen ++ (cP dT (a_p1 9) g_p1_other))))) ++ (cJ_ dT a_p3 n_p3 g_p3)) _ := hP.perm (wj_split [cSP a_p1, cW dT (a_p1 4) g_p1_world, cW dT (a_p1 5) g_p1_copy, cP dT (a_p1 8) g_p1_chosen, cP dT (a_p1 9) g_p1_other, cJ_ dT a_p3 n_p3 g_p3] [0, 1, 2, 3, 4] [5] rfl)
  have hDq : va_D A ((cSP a_p1 ++ (cW dT (a_p1 4) g_p1_world ++ (cW dT (a_p1 5) g_p1_copy ++ (cP dT (a_p1 8) g_p1_chosen ++ (cP dT (a_p1 9) g_p1_other))))) ++ (cJ_ dT a_p3 n_p3 g_p3)) := hD.perm (wj_split [cSP a_p1, cW dT (a_p1 4) g_p1_world, cW dT (a_p1 5) g_p1_copy, cP dT (a_p1 8) g_p1_chosen, cP dT (a_p1 9) g_p1_other, cJ_ dT a_p3 n_p3 g_p3] [0, 1, 2, 3, 4] [5] rfl)
  have hPc := hPq.left
  have hDc := hDq.left
  have hFc := va_freeL hDq hS hA
  refine xcl_iL (wr := (cJ_ dT a_p3 n_p3 g_p3)) (vx_runV (As := [.int v1]) (rest := [.int (0 : Int32), .ref a_p3]) ⟨hx, hb, hml, hown, hts⟩ (c_X8_learnsIn l hlt D dT a_p1 g_p1_world g_p1_copy g_p1_chosen g_p1_other v1 o1 e1 _) (cwV 1 hts (TB_V w_970 w_971 w_972 w_50 w_973) rfl rfl rfl ⟨rfl, nd_X8_learnsIn⟩ ⟨Nat.le_of_ble_eq_true rfl, Nat.le_of_ble_eq_true rfl⟩) (cPre.V hPc hDc hK hE hS hFc (va_recv hK hPc (ci := 7) (q0 := 0) rfl rfl)) rfl rfl hl.1 rfl (lv_room (Nat.le_of_ble_eq_true rfl)) dL_learnsIn_4 ⟨Nat.le_of_ble_eq_true rfl, Nat.le_of_ble_eq_true rfl⟩) hPq hDq hS hFc (fun k1 u1 E1 ce1 q1 H locs hw hEk hP hD hS hxc hxv hxl => ?_) (fun r1 u1 H locs hw hP hD hS => ?_)
  · have hw := xoP_inv hw
    subst hw
    have hP : va_P D vwCl (cSP a_p1 ++ (cW dT (a_p1 4) g_p1_world ++ (cW dT (a_p1 5) u1.1 ++ (cP dT (a_p1 8) u1.2.1 ++ (cP dT (a_p1 9) u1.2.2 ++ (cJ_ dT a_p3 n_p3 g_p3)))))) H := hP.perm (wj_back [cSP a_p1, cW dT (a_p1 4) g_p1_world, cW dT (a_p1 5) u1.1, cP dT (a_p1 8) u1.2.1, cP dT (a_p1 9) u1.2.2] [cJ_ dT a_p3 n_p3 g_p3] [0, 1, 2, 3, 4, 5] rfl)
    have hD : va_D A (cSP a_p1 ++ (cW dT (a_p1 4) g_p1_world ++ (cW dT (a_p1 5) u1.1 ++ (cP dT (a_p1 8) u1.2.1 ++ (cP dT (a_p1 9) u1.2.2 ++ (cJ_ dT a_p3 n_p3 g_p3)))))) := hD.perm (wj_back [cSP a_p1, cW dT (a_p1 4) g_p1_world, cW dT (a_p1 5) u1.1, cP dT (a_p1 8) u1.2.1, cP dT (a_p1 9) u1.2.2] [cJ_ dT a_p3 n_p3 g_p3] [0, 1, 2, 3, 4, 5] rfl)
    by_cases c2 : k1 = 2
    · replace h := iteT c2 h
      subst c2
      have hEk : E1 = EXB := hEk
      refine vx_catch (name := EXB) (E := E1) hown [] ⟨0, 9, 12, 31⟩ [⟨0, 9, 15, 13⟩] (htab.trans rfl) (fun z hz => absurd hz List.not_mem_nil) rfl (by decide) (hqs _ w_608) (by rw [hEk]; exact va_Nw.use rfl (hE.2.2.1 (EXB, EXB) (by decide +kernel))) hxc hxv hxl ?_
      refine lv_astore_n (lv' := [(3, .ref q1), (0, .ref (a_p1 0 0)), (1, .int v1), (2, .ref a_p3)]) hx hb dL_learnsIn_12 rfl hl (by decide) rfl (fun ls hl => ?_)
      refine lv_iconst (v := 1) hx hb dL_learnsIn_13 (by decide) ?_
      exact rt_i hx hb hr hlk hK hS ((u1.1, u1.2.1, u1.2.2, g_p3) : TW × TP × TP × (Nat → Int64)) (ret2 h) hP hD dL_learnsIn_14
    replace h := iteF c2 h
    by_cases c3 : k1 = 0
    · replace h := iteT c3 h
      subst c3
      have hEk : E1 = EXI := hEk
      refine vx_catch (name := EXI) (E := E1) hown [(⟨0, 9, 12, 31⟩ : ExceptionTableEntry)] ⟨0, 9, 15, 13⟩ [] (htab.trans rfl) (fun z hz => by
      simp only [List.mem_cons, List.not_mem_nil, or_false] at hz
      rcases hz with rfl
      · exact Or.inr ⟨by decide, EXB, hqs _ w_608, by rw [hEk]; exact hE.2.2.2.1 (EXI, EXB) (by decide +kernel)⟩) rfl (by decide) (hqs _ w_410) (by rw [hEk]; exact va_Nw.use rfl (hE.2.2.1 (EXI, EXI) (by decide +kernel))) hxc hxv hxl ?_
      refine lv_astore_n (lv' := [(3, .ref q1), (0, .ref (a_p1 0 0)), (1, .int v1), (2, .ref a_p3)]) hx hb dL_learnsIn_15 rfl hl (by decide) rfl (fun ls hl => ?_)
      refine lv_iconst (v := 2) hx hb dL_learnsIn_16 (by decide) ?_
      exact rt_i hx hb hr hlk hK hS ((u1.1, u1.2.1, u1.2.2, g_p3) : TW × TP × TP × (Nat → Int64)) (ret2 h) hP hD dL_learnsIn_17
    replace h := iteF c3 h
    exact nomatch h
  subst hw
  replace h := sumR h
  have hP : va_P D vwCl (cSP a_p1 ++ (cW dT (a_p1 4) g_p1_world ++ (cW dT (a_p1 5) u1.1 ++ (cP dT (a_p1 8) u1.2.1 ++ (cP dT (a_p1 9) u1.2.2 ++ (cJ_ dT a_p3 n_p3 g_p3)))))) H := hP.perm (wj_back [cSP a_p1, cW dT (a_p1 4) g_p1_world, cW dT (a_p1 5) u1.1, cP dT (a_p1 8) u1.2.1, cP dT (a_p1 9) u1.2.2] [cJ_ dT a_p3 n_p3 g_p3] [0, 1, 2, 3, 4, 5] rfl)
  have hD : va_D A (cSP a_p1 ++ (cW dT (a_p1 4) g_p1_world ++ (cW dT (a_p1 5) u1.1 ++ (cP dT (a_p1 8) u1.2.1 ++ (cP dT (a_p1 9) u1.2.2 ++ (cJ_ dT a_p3 n_p3 g_p3)))))) := hD.perm (wj_back [cSP a_p1, cW dT (a_p1 4) g_p1_world, cW dT (a_p1 5) u1.1, cP dT (a_p1 8) u1.2.1, cP dT (a_p1 9) u1.2.2] [cJ_ dT a_p3 n_p3 g_p3] [0, 1, 2, 3, 4, 5] rfl)
  refine lv_i2l hx hb dL_learnsIn_7 rfl ?_
  obtain ⟨g4, h⟩ := chk h
  refine va_last hx hb hK hP hD hS 37 1 rfl rfl (inb_in g4) dL_learnsIn_8 (fun H locs hP hD hS => ?_)
  have hP : va_P D vwCl (cSP a_p1 ++ (cW dT (a_p1 4) g_p1_world ++ (cW dT (a_p1 5) u1.1 ++ (cP dT (a_p1 8) u1.2.1 ++ (cP dT (a_p1 9) u1.2.2 ++ (cJ_ dT a_p3 n_p3 (vp_updL g_p3 (0 : Int32).toNatClampNeg (Int32.toInt64 r1)))))))) H := hP
  have hD : va_D A (cSP a_p1 ++ (cW dT (a_p1 4) g_p1_world ++ (cW dT (a_p1 5) u1.1 ++ (cP dT (a_p1 8) u1.2.1 ++ (cP dT (a_p1 9) u1.2.2 ++ (cJ_ dT a_p3 n_p3 (vp_updL g_p3 (0 : Int32).toNatClampNeg (Int32.toInt64 r1)))))))) := hD
  refine lv_goto (tgt := 18) hx hb dL_learnsIn_9 (by decide) ?_
  refine lv_iconst (v := 0) hx hb dL_learnsIn_18 (by decide) ?_
  exact rt_i hx hb hr hlk hK hS ((u1.1, u1.2.1, u1.2.2, (vp_updL g_p3 (0 : Int32).toNatClampNeg (Int32.toInt64 r1))) : TW × TP × TP × (Nat → Int64)) (ret2 h) hP hD dL_learnsIn_19

def f_L_runScript (n_p4 : Nat) (g_p1_world : TW) (g_p1_copy : TW) (g_p1_chosen : TP) (g_p1_other : TP) (g_p4 : Nat → Int64) (v1 : Int32) (v2 : Int64) : Option (Int32 × (TW × TP × TP × (Nat → Int64))) :=
  ((f_X8_runScript g_p1_world g_p1_copy g_p1_chosen g_p1_other v1 v2).bind fun o1 => (fun u1 => o1.1.elim (fun k1 => (if k1 = 0 then (some ((1 : Int32), (u1.1, u1.2.1, u1.2.2, g_p4))) else none)) (fun r1 => (if inb (0 : Int32) n_p4 = true then (some ((0 : Int32), (u1.1, u1.2.1, u1.2.2, (vp_updL g_p4 (0 : Int32).toNatClampNeg (Int32.toInt64 r1))))) else none))) o1.2)
set_option maxHeartbeats 8000000 in
set_option maxRecDepth 100000 in
theorem c_L_runScript (l : Launch) (hlt : l.stackTraces = false) (D : va_G) (dT : Nat → ClassId) (a_p1 : Nat → Nat → Nat) (a_p4 : Nat) (n_p4 : Nat) (g_p1_world : TW) (g_p1_copy : TW) (g_p1_chosen : TP) (g_p1_other : TP) (g_p4 : Nat → Int64) (v1 : Int32) (v2 : Int64) (o : (Int32 × (TW × TP × TP × (Nat → Int64)))) (h : f_L_runScript n_p4 g_p1_world g_p1_copy g_p1_chosen g_p1_other g_p4 v1 v2 = some o) (sz : Nat) : Met l yL_runScript (Cond.codeWith yL_runScript cL_runScript 6 (some .int) [(0, 11, 14, 13)] :: TB) { frames := 8, cells := 2, slots := 12, locals := 198 } (va_Pc [.ref (a_p1 0 0), .int v1, .long v2, .ref a_p4] (cPre D dT (cSP a_p1 ++ (cW dT (a_p1 4) g_p1_world ++ (cW dT (a_p1 5) g_p1_copy ++ (cP dT (a_p1 8) g_p1_chosen ++ (cP dT (a_p1 9) g_p1_other ++ (cJ_ dT a_p4 n_p4 g_p4)))))) sz)) (va_Qi (fun (r : Int32) (u : TW × TP × TP × (Nat → Int64)) => r = o.1 ∧ u = o.2) (fun u t => cAt D dT (va_A (cSP a_p1 ++ (cW dT (a_p1 4) g_p1_world ++ (cW dT (a_p1 5) g_p1_copy ++ (cP dT (a_p1 8) g_p1_chosen ++ (cP dT (a_p1 9) g_p1_other ++ (cJ_ dT a_p4 n_p4 g_p4)))))) sz) (cSP a_p1 ++ (cW dT (a_p1 4) g_p1_world ++ (cW dT (a_p1 5) (u.1) ++ (cP dT (a_p1 8) (u.2.1) ++ (cP dT (a_p1 9) (u.2.2.1) ++ (cJ_ dT a_p4 n_p4 (u.2.2.2))))))) t) (va_A (cSP a_p1 ++ (cW dT (a_p1 4) g_p1_world ++ (cW dT (a_p1 5) g_p1_copy ++ (cP dT (a_p1 8) g_p1_chosen ++ (cP dT (a_p1 9) g_p1_other ++ (cJ_ dT a_p4 n_p4 g_p4)))))) sz)) 2 12 (va_A (cSP a_p1 ++ (cW dT (a_p1 4) g_p1_world ++ (cW dT (a_p1 5) g_p1_copy ++ (cP dT (a_p1 8) g_p1_chosen ++ (cP dT (a_p1 9) g_p1_other ++ (cJ_ dT a_p4 n_p4 g_p4)))))) sz) := by
  refine mStartH (WS := (cSP a_p1 ++ (cW dT (a_p1 4) g_p1_world ++ (cW dT (a_p1 5) g_p1_copy ++ (cP dT (a_p1 8) g_p1_chosen ++ (cP dT (a_p1 9) g_p1_other ++ (cJ_ dT a_p4 n_p4 g_p4))))))) (Qc := fun A => va_Qi (fun (r : Int32) (u : TW × TP × TP × (Nat → Int64)) => r = o.1 ∧ u = o.2) (fun u t => cAt D dT A (cSP a_p1 ++ (cW dT (a_p1 4) g_p1_world ++ (cW dT (a_p1 5) (u.1) ++ (cP dT (a_p1 8) (u.2.1) ++ (cP dT (a_p1 9) (u.2.2.1) ++ (cJ_ dT a_p4 n_p4 (u.2.2.2))))))) t) A) RL rfl (by decide) (Nat.le_of_ble_eq_true rfl) ?_ sz
  intro p e s m below meth c A ls hx hb hml hr hlk htab hts hqs hown hE hA hK hP hD hS hl
  have hl : lv_has ls 6 [(0, .ref (a_p1 0 0)), (1, .int v1), (2, .long v2), (4, .ref a_p4)] := hl
  unfold f_L_runScript at h
  refine lv_aload hx hb dL_runScript_0 (lv_at hl 3 rfl) ?_
  refine lv_iconst (v := 0) hx hb dL_runScript_2 (by decide) ?_
  refine lv_aload_n hx hb dL_runScript_3 rfl (lv_at hl 0 rfl) ?_
  refine lv_iload_n hx hb dL_runScript_4 rfl (lv_at hl 1 rfl) ?_
  refine lv_lload_n hx hb dL_runScript_5 rfl (lv_at hl 2 rfl) ?_
  obtain ⟨o1, e1, h⟩ := obind h
  have hPq : va_P D vwCl ((cSP a_p1 ++ (cW dT (a_p1 4) g_p1_world ++ (cW dT (a_p1 5) g_p1_copy ++ (cP dT (a_p1 8) g_p1_chosen ++ (cP dT (a_p1 9) g_p1_other))))) ++ (cJ_ dT a_p4 n_p4 g_p4)) _ := hP.perm (wj_split [cSP a_p1, cW dT (a_p1 4) g_p1_world, cW dT (a_p1 5) g_p1_copy, cP dT (a_p1 8) g_p1_chosen, cP dT (a_p1 9) g_p1_other, cJ_ dT a_p4 n_p4 g_p4] [0, 1, 2, 3, 4] [5] rfl)
  have hDq : va_D A ((cSP a_p1 ++ (cW dT (a_p1 4) g_p1_world ++ (cW dT (a_p1 5) g_p1_copy ++ (cP dT (a_p1 8) g_p1_chosen ++ (cP dT (a_p1 9) g_p1_other))))) ++ (cJ_ dT a_p4 n_p4 g_p4)) := hD.perm (wj_split [cSP a_p1, cW dT (a_p1 4) g_p1_world, cW dT (a_p1 5) g_p1_copy, cP dT (a_p1 8) g_p1_chosen, cP dT (a_p1 9) g_p1_other, cJ_ dT a_p4 n_p4 g_p4] [0, 1, 2, 3, 4] [5] rfl)
  have hPc := hPq.left
  have hDc := hDq.left
  have hFc := va_freeL hDq hS hA
  refine xcl_iL (wr := (cJ_ dT a_p4 n_p4 g_p4)) (vx_runV (As := [.int v1, .long v2]) (rest := [.int (0 : Int32), .ref a_p4]) ⟨hx, hb, hml, hown, hts⟩ (c_X8_runScript l hlt D dT a_p1 g_p1_world g_p1_copy g_p1_chosen g_p1_other v1 v2 o1 e1 _) (cwV 2 hts (TB_V w_977 w_978 w_979 w_50 w_980) rfl rfl rfl ⟨rfl, nd_X8_runScript⟩ ⟨Nat.le_of_ble_eq_true rfl, Nat.le_of_ble_eq_true rfl⟩) (cPre.V hPc hDc hK hE hS hFc (va_recv hK hPc (ci := 7) (q0 := 0) rfl rfl)) rfl rfl hl.1 rfl (lv_room (Nat.le_of_ble_eq_true rfl)) dL_runScript_6 ⟨Nat.le_of_ble_eq_true rfl, Nat.le_of_ble_eq_true rfl⟩) hPq hDq hS hFc (fun k1 u1 E1 ce1 q1 H locs hw hEk hP hD hS hxc hxv hxl => ?_) (fun r1 u1 H locs hw hP hD hS => ?_)
  · have hw := xoP_inv hw
    subst hw
    have hP : va_P D vwCl (cSP a_p1 ++ (cW dT (a_p1 4) g_p1_world ++ (cW dT (a_p1 5) u1.1 ++ (cP dT (a_p1 8) u1.2.1 ++ (cP dT (a_p1 9) u1.2.2 ++ (cJ_ dT a_p4 n_p4 g_p4)))))) H := hP.perm (wj_back [cSP a_p1, cW dT (a_p1 4) g_p1_world, cW dT (a_p1 5) u1.1, cP dT (a_p1 8) u1.2.1, cP dT (a_p1 9) u1.2.2] [cJ_ dT a_p4 n_p4 g_p4] [0, 1, 2, 3, 4, 5] rfl)
    have hD : va_D A (cSP a_p1 ++ (cW dT (a_p1 4) g_p1_world ++ (cW dT (a_p1 5) u1.1 ++ (cP dT (a_p1 8) u1.2.1 ++ (cP dT (a_p1 9) u1.2.2 ++ (cJ_ dT a_p4 n_p4 g_p4)))))) := hD.perm (wj_back [cSP a_p1, cW dT (a_p1 4) g_p1_world, cW dT (a_p1 5) u1.1, cP dT (a_p1 8) u1.2.1, cP dT (a_p1 9) u1.2.2] [cJ_ dT a_p4 n_p4 g_p4] [0, 1, 2, 3, 4, 5] rfl)
    by_cases c2 : k1 = 0
    · replace h := iteT c2 h
      subst c2
      have hEk : E1 = EXI := hEk
      refine vx_catch (name := EXI) (E := E1) hown [] ⟨0, 11, 14, 13⟩ [] (htab.trans rfl) (fun z hz => absurd hz List.not_mem_nil) rfl (by decide) (hqs _ w_410) (by rw [hEk]; exact va_Nw.use rfl (hE.2.2.1 (EXI, EXI) (by decide +kernel))) hxc hxv hxl ?_
      refine lv_astore (lv' := [(5, .ref q1), (0, .ref (a_p1 0 0)), (1, .int v1), (2, .long v2), (4, .ref a_p4)]) hx hb dL_runScript_14 hl (by decide) rfl (fun ls hl => ?_)
      refine lv_iconst (v := 1) hx hb dL_runScript_16 (by decide) ?_
      exact rt_i hx hb hr hlk hK hS ((u1.1, u1.2.1, u1.2.2, g_p4) : TW × TP × TP × (Nat → Int64)) (ret2 h) hP hD dL_runScript_17
    replace h := iteF c2 h
    exact nomatch h
  subst hw
  replace h := sumR h
  have hP : va_P D vwCl (cSP a_p1 ++ (cW dT (a_p1 4) g_p1_world ++ (cW dT (a_p1 5) u1.1 ++ (cP dT (a_p1 8) u1.2.1 ++ (cP dT (a_p1 9) u1.2.2 ++ (cJ_ dT a_p4 n_p4 g_p4)))))) H := hP.perm (wj_back [cSP a_p1, cW dT (a_p1 4) g_p1_world, cW dT (a_p1 5) u1.1, cP dT (a_p1 8) u1.2.1, cP dT (a_p1 9) u1.2.2] [cJ_ dT a_p4 n_p4 g_p4] [0, 1, 2, 3, 4, 5] rfl)
  have hD : va_D A (cSP a_p1 ++ (cW dT (a_p1 4) g_p1_world ++ (cW dT (a_p1 5) u1.1 ++ (cP dT (a_p1 8) u1.2.1 ++ (cP dT (a_p1 9) u1.2.2 ++ (cJ_ dT a_p4 n_p4 g_p4)))))) := hD.perm (wj_back [cSP a_p1, cW dT (a_p1 4) g_p1_world, cW dT (a_p1 5) u1.1, cP dT (a_p1 8) u1.2.1, cP dT (a_p1 9) u1.2.2] [cJ_ dT a_p4 n_p4 g_p4] [0, 1, 2, 3, 4, 5] rfl)
  refine lv_i2l hx hb dL_runScript_9 rfl ?_
  obtain ⟨g3, h⟩ := chk h
  refine va_last hx hb hK hP hD hS 37 1 rfl rfl (inb_in g3) dL_runScript_10 (fun H locs hP hD hS => ?_)
  have hP : va_P D vwCl (cSP a_p1 ++ (cW dT (a_p1 4) g_p1_world ++ (cW dT (a_p1 5) u1.1 ++ (cP dT (a_p1 8) u1.2.1 ++ (cP dT (a_p1 9) u1.2.2 ++ (cJ_ dT a_p4 n_p4 (vp_updL g_p4 (0 : Int32).toNatClampNeg (Int32.toInt64 r1)))))))) H := hP
  have hD : va_D A (cSP a_p1 ++ (cW dT (a_p1 4) g_p1_world ++ (cW dT (a_p1 5) u1.1 ++ (cP dT (a_p1 8) u1.2.1 ++ (cP dT (a_p1 9) u1.2.2 ++ (cJ_ dT a_p4 n_p4 (vp_updL g_p4 (0 : Int32).toNatClampNeg (Int32.toInt64 r1)))))))) := hD
  refine lv_goto (tgt := 18) hx hb dL_runScript_11 (by decide) ?_
  refine lv_iconst (v := 0) hx hb dL_runScript_18 (by decide) ?_
  exact rt_i hx hb hr hlk hK hS ((u1.1, u1.2.1, u1.2.2, (vp_updL g_p4 (0 : Int32).toNatClampNeg (Int32.toInt64 r1))) : TW × TP × TP × (Nat → Int64)) (ret2 h) hP hD dL_runScript_19

def f_L_simulate (n_p4 : Nat) (g_p1_world : TW) (g_p1_copy : TW) (g_p1_chosen : TP) (g_p1_other : TP) (g_p4 : Nat → Int64) (v1 : Int64) (v3 : Int32) : Option (Int32 × (TW × TP × TP × (Nat → Int64))) :=
  ((f_X8_simulate g_p1_world g_p1_copy g_p1_chosen g_p1_other v1 v3).bind fun o1 => (fun u1 => o1.1.elim (fun k1 => (if k1 = 0 then (some ((1 : Int32), (u1.1, u1.2.1, u1.2.2, g_p4))) else none)) (fun r1 => (if inb (0 : Int32) n_p4 = true then (some ((0 : Int32), (u1.1, u1.2.1, u1.2.2, (vp_updL g_p4 (0 : Int32).toNatClampNeg (Int32.toInt64 r1))))) else none))) o1.2)
set_option maxHeartbeats 8000000 in
set_option maxRecDepth 100000 in
theorem c_L_simulate (l : Launch) (hlt : l.stackTraces = false) (D : va_G) (dT : Nat → ClassId) (a_p1 : Nat → Nat → Nat) (a_p4 : Nat) (n_p4 : Nat) (g_p1_world : TW) (g_p1_copy : TW) (g_p1_chosen : TP) (g_p1_other : TP) (g_p4 : Nat → Int64) (v1 : Int64) (v3 : Int32) (o : (Int32 × (TW × TP × TP × (Nat → Int64)))) (h : f_L_simulate n_p4 g_p1_world g_p1_copy g_p1_chosen g_p1_other g_p4 v1 v3 = some o) (sz : Nat) : Met l yL_simulate (Cond.codeWith yL_simulate cL_simulate 6 (some .int) [(0, 11, 14, 13)] :: TB) { frames := 8, cells := 1, slots := 6, locals := 196 } (va_Pc [.ref (a_p1 0 0), .long v1, .int v3, .ref a_p4] (cPre D dT (cSP a_p1 ++ (cW dT (a_p1 4) g_p1_world ++ (cW dT (a_p1 5) g_p1_copy ++ (cP dT (a_p1 8) g_p1_chosen ++ (cP dT (a_p1 9) g_p1_other ++ (cJ_ dT a_p4 n_p4 g_p4)))))) sz)) (va_Qi (fun (r : Int32) (u : TW × TP × TP × (Nat → Int64)) => r = o.1 ∧ u = o.2) (fun u t => cAt D dT (va_A (cSP a_p1 ++ (cW dT (a_p1 4) g_p1_world ++ (cW dT (a_p1 5) g_p1_copy ++ (cP dT (a_p1 8) g_p1_chosen ++ (cP dT (a_p1 9) g_p1_other ++ (cJ_ dT a_p4 n_p4 g_p4)))))) sz) (cSP a_p1 ++ (cW dT (a_p1 4) g_p1_world ++ (cW dT (a_p1 5) (u.1) ++ (cP dT (a_p1 8) (u.2.1) ++ (cP dT (a_p1 9) (u.2.2.1) ++ (cJ_ dT a_p4 n_p4 (u.2.2.2))))))) t) (va_A (cSP a_p1 ++ (cW dT (a_p1 4) g_p1_world ++ (cW dT (a_p1 5) g_p1_copy ++ (cP dT (a_p1 8) g_p1_chosen ++ (cP dT (a_p1 9) g_p1_other ++ (cJ_ dT a_p4 n_p4 g_p4)))))) sz)) 1 6 (va_A (cSP a_p1 ++ (cW dT (a_p1 4) g_p1_world ++ (cW dT (a_p1 5) g_p1_copy ++ (cP dT (a_p1 8) g_p1_chosen ++ (cP dT (a_p1 9) g_p1_other ++ (cJ_ dT a_p4 n_p4 g_p4)))))) sz) := by
  refine mStartH (WS := (cSP a_p1 ++ (cW dT (a_p1 4) g_p1_world ++ (cW dT (a_p1 5) g_p1_copy ++ (cP dT (a_p1 8) g_p1_chosen ++ (cP dT (a_p1 9) g_p1_other ++ (cJ_ dT a_p4 n_p4 g_p4))))))) (Qc := fun A => va_Qi (fun (r : Int32) (u : TW × TP × TP × (Nat → Int64)) => r = o.1 ∧ u = o.2) (fun u t => cAt D dT A (cSP a_p1 ++ (cW dT (a_p1 4) g_p1_world ++ (cW dT (a_p1 5) (u.1) ++ (cP dT (a_p1 8) (u.2.1) ++ (cP dT (a_p1 9) (u.2.2.1) ++ (cJ_ dT a_p4 n_p4 (u.2.2.2))))))) t) A) RL rfl (by decide) (Nat.le_of_ble_eq_true rfl) ?_ sz
  intro p e s m below meth c A ls hx hb hml hr hlk htab hts hqs hown hE hA hK hP hD hS hl
  have hl : lv_has ls 6 [(0, .ref (a_p1 0 0)), (1, .long v1), (3, .int v3), (4, .ref a_p4)] := hl
  unfold f_L_simulate at h
  refine lv_aload hx hb dL_simulate_0 (lv_at hl 3 rfl) ?_
  refine lv_iconst (v := 0) hx hb dL_simulate_2 (by decide) ?_
  refine lv_aload_n hx hb dL_simulate_3 rfl (lv_at hl 0 rfl) ?_
  refine lv_lload_n hx hb dL_simulate_4 rfl (lv_at hl 1 rfl) ?_
  refine lv_iload_n hx hb dL_simulate_5 rfl (lv_at hl 2 rfl) ?_
  obtain ⟨o1, e1, h⟩ := obind h
  have hPq : va_P D vwCl ((cSP a_p1 ++ (cW dT (a_p1 4) g_p1_world ++ (cW dT (a_p1 5) g_p1_copy ++ (cP dT (a_p1 8) g_p1_chosen ++ (cP dT (a_p1 9) g_p1_other))))) ++ (cJ_ dT a_p4 n_p4 g_p4)) _ := hP.perm (wj_split [cSP a_p1, cW dT (a_p1 4) g_p1_world, cW dT (a_p1 5) g_p1_copy, cP dT (a_p1 8) g_p1_chosen, cP dT (a_p1 9) g_p1_other, cJ_ dT a_p4 n_p4 g_p4] [0, 1, 2, 3, 4] [5] rfl)
  have hDq : va_D A ((cSP a_p1 ++ (cW dT (a_p1 4) g_p1_world ++ (cW dT (a_p1 5) g_p1_copy ++ (cP dT (a_p1 8) g_p1_chosen ++ (cP dT (a_p1 9) g_p1_other))))) ++ (cJ_ dT a_p4 n_p4 g_p4)) := hD.perm (wj_split [cSP a_p1, cW dT (a_p1 4) g_p1_world, cW dT (a_p1 5) g_p1_copy, cP dT (a_p1 8) g_p1_chosen, cP dT (a_p1 9) g_p1_other, cJ_ dT a_p4 n_p4 g_p4] [0, 1, 2, 3, 4] [5] rfl)
  have hPc := hPq.left
  have hDc := hDq.left
  have hFc := va_freeL hDq hS hA
  refine xcl_iL (wr := (cJ_ dT a_p4 n_p4 g_p4)) (vx_runV (As := [.long v1, .int v3]) (rest := [.int (0 : Int32), .ref a_p4]) ⟨hx, hb, hml, hown, hts⟩ (c_X8_simulate l hlt D dT a_p1 g_p1_world g_p1_copy g_p1_chosen g_p1_other v1 v3 o1 e1 _) (cwV 2 hts (TB_V w_1011 w_1012 w_1013 w_50 w_1014) rfl rfl rfl ⟨rfl, nd_X8_simulate⟩ ⟨Nat.le_of_ble_eq_true rfl, Nat.le_of_ble_eq_true rfl⟩) (cPre.V hPc hDc hK hE hS hFc (va_recv hK hPc (ci := 7) (q0 := 0) rfl rfl)) rfl rfl hl.1 rfl (lv_room (Nat.le_of_ble_eq_true rfl)) dL_simulate_6 ⟨Nat.le_of_ble_eq_true rfl, Nat.le_of_ble_eq_true rfl⟩) hPq hDq hS hFc (fun k1 u1 E1 ce1 q1 H locs hw hEk hP hD hS hxc hxv hxl => ?_) (fun r1 u1 H locs hw hP hD hS => ?_)
  · have hw := xoP_inv hw
    subst hw
    have hP : va_P D vwCl (cSP a_p1 ++ (cW dT (a_p1 4) g_p1_world ++ (cW dT (a_p1 5) u1.1 ++ (cP dT (a_p1 8) u1.2.1 ++ (cP dT (a_p1 9) u1.2.2 ++ (cJ_ dT a_p4 n_p4 g_p4)))))) H := hP.perm (wj_back [cSP a_p1, cW dT (a_p1 4) g_p1_world, cW dT (a_p1 5) u1.1, cP dT (a_p1 8) u1.2.1, cP dT (a_p1 9) u1.2.2] [cJ_ dT a_p4 n_p4 g_p4] [0, 1, 2, 3, 4, 5] rfl)
    have hD : va_D A (cSP a_p1 ++ (cW dT (a_p1 4) g_p1_world ++ (cW dT (a_p1 5) u1.1 ++ (cP dT (a_p1 8) u1.2.1 ++ (cP dT (a_p1 9) u1.2.2 ++ (cJ_ dT a_p4 n_p4 g_p4)))))) := hD.perm (wj_back [cSP a_p1, cW dT (a_p1 4) g_p1_world, cW dT (a_p1 5) u1.1, cP dT (a_p1 8) u1.2.1, cP dT (a_p1 9) u1.2.2] [cJ_ dT a_p4 n_p4 g_p4] [0, 1, 2, 3, 4, 5] rfl)
    by_cases c2 : k1 = 0
    · replace h := iteT c2 h
      subst c2
      have hEk : E1 = EXI := hEk
      refine vx_catch (name := EXI) (E := E1) hown [] ⟨0, 11, 14, 13⟩ [] (htab.trans rfl) (fun z hz => absurd hz List.not_mem_nil) rfl (by decide) (hqs _ w_410) (by rw [hEk]; exact va_Nw.use rfl (hE.2.2.1 (EXI, EXI) (by decide +kernel))) hxc hxv hxl ?_
      refine lv_astore (lv' := [(5, .ref q1), (0, .ref (a_p1 0 0)), (1, .long v1), (3, .int v3), (4, .ref a_p4)]) hx hb dL_simulate_14 hl (by decide) rfl (fun ls hl => ?_)
      refine lv_iconst (v := 1) hx hb dL_simulate_16 (by decide) ?_
      exact rt_i hx hb hr hlk hK hS ((u1.1, u1.2.1, u1.2.2, g_p4) : TW × TP × TP × (Nat → Int64)) (ret2 h) hP hD dL_simulate_17
    replace h := iteF c2 h
    exact nomatch h
  subst hw
  replace h := sumR h
  have hP : va_P D vwCl (cSP a_p1 ++ (cW dT (a_p1 4) g_p1_world ++ (cW dT (a_p1 5) u1.1 ++ (cP dT (a_p1 8) u1.2.1 ++ (cP dT (a_p1 9) u1.2.2 ++ (cJ_ dT a_p4 n_p4 g_p4)))))) H := hP.perm (wj_back [cSP a_p1, cW dT (a_p1 4) g_p1_world, cW dT (a_p1 5) u1.1, cP dT (a_p1 8) u1.2.1, cP dT (a_p1 9) u1.2.2] [cJ_ dT a_p4 n_p4 g_p4] [0, 1, 2, 3, 4, 5] rfl)
  have hD : va_D A (cSP a_p1 ++ (cW dT (a_p1 4) g_p1_world ++ (cW dT (a_p1 5) u1.1 ++ (cP dT (a_p1 8) u1.2.1 ++ (cP dT (a_p1 9) u1.2.2 ++ (cJ_ dT a_p4 n_p4 g_p4)))))) := hD.perm (wj_back [cSP a_p1, cW dT (a_p1 4) g_p1_world, cW dT (a_p1 5) u1.1, cP dT (a_p1 8) u1.2.1, cP dT (a_p1 9) u1.2.2] [cJ_ dT a_p4 n_p4 g_p4] [0, 1, 2, 3, 4, 5] rfl)
  refine lv_i2l hx hb dL_simulate_9 rfl ?_
  obtain ⟨g3, h⟩ := chk h
  refine va_last hx hb hK hP hD hS 37 1 rfl rfl (inb_in g3) dL_simulate_10 (fun H locs hP hD hS => ?_)
  have hP : va_P D vwCl (cSP a_p1 ++ (cW dT (a_p1 4) g_p1_world ++ (cW dT (a_p1 5) u1.1 ++ (cP dT (a_p1 8) u1.2.1 ++ (cP dT (a_p1 9) u1.2.2 ++ (cJ_ dT a_p4 n_p4 (vp_updL g_p4 (0 : Int32).toNatClampNeg (Int32.toInt64 r1)))))))) H := hP
  have hD : va_D A (cSP a_p1 ++ (cW dT (a_p1 4) g_p1_world ++ (cW dT (a_p1 5) u1.1 ++ (cP dT (a_p1 8) u1.2.1 ++ (cP dT (a_p1 9) u1.2.2 ++ (cJ_ dT a_p4 n_p4 (vp_updL g_p4 (0 : Int32).toNatClampNeg (Int32.toInt64 r1)))))))) := hD
  refine lv_goto (tgt := 18) hx hb dL_simulate_11 (by decide) ?_
  refine lv_iconst (v := 0) hx hb dL_simulate_18 (by decide) ?_
  exact rt_i hx hb hr hlk hK hS ((u1.1, u1.2.1, u1.2.2, (vp_updL g_p4 (0 : Int32).toNatClampNeg (Int32.toInt64 r1))) : TW × TP × TP × (Nat → Int64)) (ret2 h) hP hD dL_simulate_19

def f_L_save (n_p3 : Nat) (g_p1_world : TW) (g_p1_slots : TS) (g_p3 : Nat → Int64) (v1 : Int32) : Option (Int32 × (TS × (Nat → Int64))) :=
  ((f_X8_save g_p1_world g_p1_slots v1).bind fun o1 => (fun u1 => o1.1.elim (fun k1 => (if k1 = 2 then (some ((1 : Int32), (u1, g_p3))) else none)) (fun r1 => (if inb (0 : Int32) n_p3 = true then (some ((0 : Int32), (u1, (vp_updL g_p3 (0 : Int32).toNatClampNeg (Int32.toInt64 r1))))) else none))) o1.2)
set_option maxHeartbeats 8000000 in
set_option maxRecDepth 100000 in
theorem c_L_save (l : Launch) (hlt : l.stackTraces = false) (D : va_G) (dT : Nat → ClassId) (a_p1 : Nat → Nat → Nat) (a_p3 : Nat) (n_p3 : Nat) (g_p1_world : TW) (g_p1_slots : TS) (g_p3 : Nat → Int64) (v1 : Int32) (o : (Int32 × (TS × (Nat → Int64)))) (h : f_L_save n_p3 g_p1_world g_p1_slots g_p3 v1 = some o) (sz : Nat) : Met l yL_save (Cond.codeWith yL_save cL_save 4 (some .int) [(0, 9, 12, 31)] :: TB) { frames := 8, cells := 1, slots := 6, locals := 131 } (va_Pc [.ref (a_p1 0 0), .int v1, .ref a_p3] (cPre D dT (cSP a_p1 ++ (cW dT (a_p1 4) g_p1_world ++ (cS dT (a_p1 7) g_p1_slots ++ (cJ_ dT a_p3 n_p3 g_p3)))) sz)) (va_Qi (fun (r : Int32) (u : TS × (Nat → Int64)) => r = o.1 ∧ u = o.2) (fun u t => cAt D dT (va_A (cSP a_p1 ++ (cW dT (a_p1 4) g_p1_world ++ (cS dT (a_p1 7) g_p1_slots ++ (cJ_ dT a_p3 n_p3 g_p3)))) sz) (cSP a_p1 ++ (cW dT (a_p1 4) g_p1_world ++ (cS dT (a_p1 7) (u.1) ++ (cJ_ dT a_p3 n_p3 (u.2))))) t) (va_A (cSP a_p1 ++ (cW dT (a_p1 4) g_p1_world ++ (cS dT (a_p1 7) g_p1_slots ++ (cJ_ dT a_p3 n_p3 g_p3)))) sz)) 1 6 (va_A (cSP a_p1 ++ (cW dT (a_p1 4) g_p1_world ++ (cS dT (a_p1 7) g_p1_slots ++ (cJ_ dT a_p3 n_p3 g_p3)))) sz) := by
  refine mStartH (WS := (cSP a_p1 ++ (cW dT (a_p1 4) g_p1_world ++ (cS dT (a_p1 7) g_p1_slots ++ (cJ_ dT a_p3 n_p3 g_p3))))) (Qc := fun A => va_Qi (fun (r : Int32) (u : TS × (Nat → Int64)) => r = o.1 ∧ u = o.2) (fun u t => cAt D dT A (cSP a_p1 ++ (cW dT (a_p1 4) g_p1_world ++ (cS dT (a_p1 7) (u.1) ++ (cJ_ dT a_p3 n_p3 (u.2))))) t) A) RL rfl (by decide) (Nat.le_of_ble_eq_true rfl) ?_ sz
  intro p e s m below meth c A ls hx hb hml hr hlk htab hts hqs hown hE hA hK hP hD hS hl
  have hl : lv_has ls 4 [(0, .ref (a_p1 0 0)), (1, .int v1), (2, .ref a_p3)] := hl
  unfold f_L_save at h
  refine lv_aload_n hx hb dL_save_0 rfl (lv_at hl 2 rfl) ?_
  refine lv_iconst (v := 0) hx hb dL_save_1 (by decide) ?_
  refine lv_aload_n hx hb dL_save_2 rfl (lv_at hl 0 rfl) ?_
  refine lv_iload_n hx hb dL_save_3 rfl (lv_at hl 1 rfl) ?_
  obtain ⟨o1, e1, h⟩ := obind h
  have hPq : va_P D vwCl ((cSP a_p1 ++ (cW dT (a_p1 4) g_p1_world ++ (cS dT (a_p1 7) g_p1_slots))) ++ (cJ_ dT a_p3 n_p3 g_p3)) _ := hP.perm (wj_split [cSP a_p1, cW dT (a_p1 4) g_p1_world, cS dT (a_p1 7) g_p1_slots, cJ_ dT a_p3 n_p3 g_p3] [0, 1, 2] [3] rfl)
  have hDq : va_D A ((cSP a_p1 ++ (cW dT (a_p1 4) g_p1_world ++ (cS dT (a_p1 7) g_p1_slots))) ++ (cJ_ dT a_p3 n_p3 g_p3)) := hD.perm (wj_split [cSP a_p1, cW dT (a_p1 4) g_p1_world, cS dT (a_p1 7) g_p1_slots, cJ_ dT a_p3 n_p3 g_p3] [0, 1, 2] [3] rfl)
  have hPc := hPq.left
  have hDc := hDq.left
  have hFc := va_freeL hDq hS hA
  refine xcl_iL (wr := (cJ_ dT a_p3 n_p3 g_p3)) (vx_runV (As := [.int v1]) (rest := [.int (0 : Int32), .ref a_p3]) ⟨hx, hb, hml, hown, hts⟩ (c_X8_save l hlt D dT a_p1 g_p1_world g_p1_slots v1 o1 e1 _) (cwV 1 hts (TB_V w_1025 w_1026 w_1027 w_50 w_1028) rfl rfl rfl ⟨rfl, nd_X8_save⟩ ⟨Nat.le_of_ble_eq_true rfl, Nat.le_of_ble_eq_true rfl⟩) (cPre.V hPc hDc hK hE hS hFc (va_recv hK hPc (ci := 7) (q0 := 0) rfl rfl)) rfl rfl hl.1 rfl (lv_room (Nat.le_of_ble_eq_true rfl)) dL_save_4 ⟨Nat.le_of_ble_eq_true rfl, Nat.le_of_ble_eq_true rfl⟩) hPq hDq hS hFc (fun k1 u1 E1 ce1 q1 H locs hw hEk hP hD hS hxc hxv hxl => ?_) (fun r1 u1 H locs hw hP hD hS => ?_)
  · have hw := xoP_inv hw
    subst hw
    have hP : va_P D vwCl (cSP a_p1 ++ (cW dT (a_p1 4) g_p1_world ++ (cS dT (a_p1 7) u1 ++ (cJ_ dT a_p3 n_p3 g_p3)))) H := hP.perm (wj_back [cSP a_p1, cW dT (a_p1 4) g_p1_world, cS dT (a_p1 7) u1] [cJ_ dT a_p3 n_p3 g_p3] [0, 1, 2, 3] rfl)
    have hD : va_D A (cSP a_p1 ++ (cW dT (a_p1 4) g_p1_world ++ (cS dT (a_p1 7) u1 ++ (cJ_ dT a_p3 n_p3 g_p3)))) := hD.perm (wj_back [cSP a_p1, cW dT (a_p1 4) g_p1_world, cS dT (a_p1 7) u1] [cJ_ dT a_p3 n_p3 g_p3] [0, 1, 2, 3] rfl)
    by_cases c2 : k1 = 2
    · replace h := iteT c2 h
      subst c2
      have hEk : E1 = EXB := hEk
      refine vx_catch (name := EXB) (E := E1) hown [] ⟨0, 9, 12, 31⟩ [] (htab.trans rfl) (fun z hz => absurd hz List.not_mem_nil) rfl (by decide) (hqs _ w_608) (by rw [hEk]; exact va_Nw.use rfl (hE.2.2.1 (EXB, EXB) (by decide +kernel))) hxc hxv hxl ?_
      refine lv_astore_n (lv' := [(3, .ref q1), (0, .ref (a_p1 0 0)), (1, .int v1), (2, .ref a_p3)]) hx hb dL_save_12 rfl hl (by decide) rfl (fun ls hl => ?_)
      refine lv_iconst (v := 1) hx hb dL_save_13 (by decide) ?_
      exact rt_i hx hb hr hlk hK hS ((u1, g_p3) : TS × (Nat → Int64)) (ret2 h) hP hD dL_save_14
    replace h := iteF c2 h
    exact nomatch h
  subst hw
  replace h := sumR h
  have hP : va_P D vwCl (cSP a_p1 ++ (cW dT (a_p1 4) g_p1_world ++ (cS dT (a_p1 7) u1 ++ (cJ_ dT a_p3 n_p3 g_p3)))) H := hP.perm (wj_back [cSP a_p1, cW dT (a_p1 4) g_p1_world, cS dT (a_p1 7) u1] [cJ_ dT a_p3 n_p3 g_p3] [0, 1, 2, 3] rfl)
  have hD : va_D A (cSP a_p1 ++ (cW dT (a_p1 4) g_p1_world ++ (cS dT (a_p1 7) u1 ++ (cJ_ dT a_p3 n_p3 g_p3)))) := hD.perm (wj_back [cSP a_p1, cW dT (a_p1 4) g_p1_world, cS dT (a_p1 7) u1] [cJ_ dT a_p3 n_p3 g_p3] [0, 1, 2, 3] rfl)
  refine lv_i2l hx hb dL_save_7 rfl ?_
  obtain ⟨g3, h⟩ := chk h
  refine va_last hx hb hK hP hD hS 34 1 rfl rfl (inb_in g3) dL_save_8 (fun H locs hP hD hS => ?_)
  have hP : va_P D vwCl (cSP a_p1 ++ (cW dT (a_p1 4) g_p1_world ++ (cS dT (a_p1 7) u1 ++ (cJ_ dT a_p3 n_p3 (vp_updL g_p3 (0 : Int32).toNatClampNeg (Int32.toInt64 r1)))))) H := hP
  have hD : va_D A (cSP a_p1 ++ (cW dT (a_p1 4) g_p1_world ++ (cS dT (a_p1 7) u1 ++ (cJ_ dT a_p3 n_p3 (vp_updL g_p3 (0 : Int32).toNatClampNeg (Int32.toInt64 r1)))))) := hD
  refine lv_goto (tgt := 15) hx hb dL_save_9 (by decide) ?_
  refine lv_iconst (v := 0) hx hb dL_save_15 (by decide) ?_
  exact rt_i hx hb hr hlk hK hS ((u1, (vp_updL g_p3 (0 : Int32).toNatClampNeg (Int32.toInt64 r1))) : TS × (Nat → Int64)) (ret2 h) hP hD dL_save_16

def f_L_restore (n_p3 : Nat) (g_p1_world : TW) (g_p1_history : TH) (g_p1_slots : TS) (g_p3 : Nat → Int64) (v1 : Int32) : Option (Int32 × (TW × TH × (Nat → Int64))) :=
  ((f_X8_restore g_p1_world g_p1_history g_p1_slots v1).bind fun o1 => (fun u1 => o1.1.elim (fun k1 => (if k1 = 2 then (some ((1 : Int32), (u1.1, u1.2, g_p3))) else (if k1 = 1 then (some ((2 : Int32), (u1.1, u1.2, g_p3))) else none))) (fun r1 => (if inb (0 : Int32) n_p3 = true then (some ((0 : Int32), (u1.1, u1.2, (vp_updL g_p3 (0 : Int32).toNatClampNeg (Int32.toInt64 r1))))) else none))) o1.2)
set_option maxHeartbeats 8000000 in
set_option maxRecDepth 100000 in
theorem c_L_restore (l : Launch) (hlt : l.stackTraces = false) (D : va_G) (dT : Nat → ClassId) (a_p1 : Nat → Nat → Nat) (a_p3 : Nat) (n_p3 : Nat) (g_p1_world : TW) (g_p1_history : TH) (g_p1_slots : TS) (g_p3 : Nat → Int64) (v1 : Int32) (o : (Int32 × (TW × TH × (Nat → Int64)))) (h : f_L_restore n_p3 g_p1_world g_p1_history g_p1_slots g_p3 v1 = some o) (sz : Nat) : Met l yL_restore (Cond.codeWith yL_restore cL_restore 4 (some .int) [(0, 9, 12, 31), (0, 9, 15, 15)] :: TB) { frames := 8, cells := 2, slots := 12, locals := 131 } (va_Pc [.ref (a_p1 0 0), .int v1, .ref a_p3] (cPre D dT (cSP a_p1 ++ (cW dT (a_p1 4) g_p1_world ++ (cH dT (a_p1 6) g_p1_history ++ (cS dT (a_p1 7) g_p1_slots ++ (cJ_ dT a_p3 n_p3 g_p3))))) sz)) (va_Qi (fun (r : Int32) (u : TW × TH × (Nat → Int64)) => r = o.1 ∧ u = o.2) (fun u t => cAt D dT (va_A (cSP a_p1 ++ (cW dT (a_p1 4) g_p1_world ++ (cH dT (a_p1 6) g_p1_history ++ (cS dT (a_p1 7) g_p1_slots ++ (cJ_ dT a_p3 n_p3 g_p3))))) sz) (cSP a_p1 ++ (cW dT (a_p1 4) (u.1) ++ (cH dT (a_p1 6) (u.2.1) ++ (cS dT (a_p1 7) g_p1_slots ++ (cJ_ dT a_p3 n_p3 (u.2.2)))))) t) (va_A (cSP a_p1 ++ (cW dT (a_p1 4) g_p1_world ++ (cH dT (a_p1 6) g_p1_history ++ (cS dT (a_p1 7) g_p1_slots ++ (cJ_ dT a_p3 n_p3 g_p3))))) sz)) 2 12 (va_A (cSP a_p1 ++ (cW dT (a_p1 4) g_p1_world ++ (cH dT (a_p1 6) g_p1_history ++ (cS dT (a_p1 7) g_p1_slots ++ (cJ_ dT a_p3 n_p3 g_p3))))) sz) := by
  refine mStartH (WS := (cSP a_p1 ++ (cW dT (a_p1 4) g_p1_world ++ (cH dT (a_p1 6) g_p1_history ++ (cS dT (a_p1 7) g_p1_slots ++ (cJ_ dT a_p3 n_p3 g_p3)))))) (Qc := fun A => va_Qi (fun (r : Int32) (u : TW × TH × (Nat → Int64)) => r = o.1 ∧ u = o.2) (fun u t => cAt D dT A (cSP a_p1 ++ (cW dT (a_p1 4) (u.1) ++ (cH dT (a_p1 6) (u.2.1) ++ (cS dT (a_p1 7) g_p1_slots ++ (cJ_ dT a_p3 n_p3 (u.2.2)))))) t) A) RL rfl (by decide) (Nat.le_of_ble_eq_true rfl) ?_ sz
  intro p e s m below meth c A ls hx hb hml hr hlk htab hts hqs hown hE hA hK hP hD hS hl
  have hl : lv_has ls 4 [(0, .ref (a_p1 0 0)), (1, .int v1), (2, .ref a_p3)] := hl
  unfold f_L_restore at h
  refine lv_aload_n hx hb dL_restore_0 rfl (lv_at hl 2 rfl) ?_
  refine lv_iconst (v := 0) hx hb dL_restore_1 (by decide) ?_
  refine lv_aload_n hx hb dL_restore_2 rfl (lv_at hl 0 rfl) ?_
  refine lv_iload_n hx hb dL_restore_3 rfl (lv_at hl 1 rfl) ?_
  obtain ⟨o1, e1, h⟩ := obind h
  have hPq : va_P D vwCl ((cSP a_p1 ++ (cW dT (a_p1 4) g_p1_world ++ (cH dT (a_p1 6) g_p1_history ++ (cS dT (a_p1 7) g_p1_slots)))) ++ (cJ_ dT a_p3 n_p3 g_p3)) _ := hP.perm (wj_split [cSP a_p1, cW dT (a_p1 4) g_p1_world, cH dT (a_p1 6) g_p1_history, cS dT (a_p1 7) g_p1_slots, cJ_ dT a_p3 n_p3 g_p3] [0, 1, 2, 3] [4] rfl)
  have hDq : va_D A ((cSP a_p1 ++ (cW dT (a_p1 4) g_p1_world ++ (cH dT (a_p1 6) g_p1_history ++ (cS dT (a_p1 7) g_p1_slots)))) ++ (cJ_ dT a_p3 n_p3 g_p3)) := hD.perm (wj_split [cSP a_p1, cW dT (a_p1 4) g_p1_world, cH dT (a_p1 6) g_p1_history, cS dT (a_p1 7) g_p1_slots, cJ_ dT a_p3 n_p3 g_p3] [0, 1, 2, 3] [4] rfl)
  have hPc := hPq.left
  have hDc := hDq.left
  have hFc := va_freeL hDq hS hA
  refine xcl_iL (wr := (cJ_ dT a_p3 n_p3 g_p3)) (vx_runV (As := [.int v1]) (rest := [.int (0 : Int32), .ref a_p3]) ⟨hx, hb, hml, hown, hts⟩ (c_X8_restore l hlt D dT a_p1 g_p1_world g_p1_history g_p1_slots v1 o1 e1 _) (cwV 1 hts (TB_V w_1042 w_1043 w_1044 w_50 w_1045) rfl rfl rfl ⟨rfl, nd_X8_restore⟩ ⟨Nat.le_of_ble_eq_true rfl, Nat.le_of_ble_eq_true rfl⟩) (cPre.V hPc hDc hK hE hS hFc (va_recv hK hPc (ci := 7) (q0 := 0) rfl rfl)) rfl rfl hl.1 rfl (lv_room (Nat.le_of_ble_eq_true rfl)) dL_restore_4 ⟨Nat.le_of_ble_eq_true rfl, Nat.le_of_ble_eq_true rfl⟩) hPq hDq hS hFc (fun k1 u1 E1 ce1 q1 H locs hw hEk hP hD hS hxc hxv hxl => ?_) (fun r1 u1 H locs hw hP hD hS => ?_)
  · have hw := xoP_inv hw
    subst hw
    have hP : va_P D vwCl (cSP a_p1 ++ (cW dT (a_p1 4) u1.1 ++ (cH dT (a_p1 6) u1.2 ++ (cS dT (a_p1 7) g_p1_slots ++ (cJ_ dT a_p3 n_p3 g_p3))))) H := hP.perm (wj_back [cSP a_p1, cW dT (a_p1 4) u1.1, cH dT (a_p1 6) u1.2, cS dT (a_p1 7) g_p1_slots] [cJ_ dT a_p3 n_p3 g_p3] [0, 1, 2, 3, 4] rfl)
    have hD : va_D A (cSP a_p1 ++ (cW dT (a_p1 4) u1.1 ++ (cH dT (a_p1 6) u1.2 ++ (cS dT (a_p1 7) g_p1_slots ++ (cJ_ dT a_p3 n_p3 g_p3))))) := hD.perm (wj_back [cSP a_p1, cW dT (a_p1 4) u1.1, cH dT (a_p1 6) u1.2, cS dT (a_p1 7) g_p1_slots] [cJ_ dT a_p3 n_p3 g_p3] [0, 1, 2, 3, 4] rfl)
    by_cases c2 : k1 = 2
    · replace h := iteT c2 h
      subst c2
      have hEk : E1 = EXB := hEk
      refine vx_catch (name := EXB) (E := E1) hown [] ⟨0, 9, 12, 31⟩ [⟨0, 9, 15, 15⟩] (htab.trans rfl) (fun z hz => absurd hz List.not_mem_nil) rfl (by decide) (hqs _ w_608) (by rw [hEk]; exact va_Nw.use rfl (hE.2.2.1 (EXB, EXB) (by decide +kernel))) hxc hxv hxl ?_
      refine lv_astore_n (lv' := [(3, .ref q1), (0, .ref (a_p1 0 0)), (1, .int v1), (2, .ref a_p3)]) hx hb dL_restore_12 rfl hl (by decide) rfl (fun ls hl => ?_)
      refine lv_iconst (v := 1) hx hb dL_restore_13 (by decide) ?_
      exact rt_i hx hb hr hlk hK hS ((u1.1, u1.2, g_p3) : TW × TH × (Nat → Int64)) (ret2 h) hP hD dL_restore_14
    replace h := iteF c2 h
    by_cases c3 : k1 = 1
    · replace h := iteT c3 h
      subst c3
      have hEk : E1 = EXS := hEk
      refine vx_catch (name := EXS) (E := E1) hown [(⟨0, 9, 12, 31⟩ : ExceptionTableEntry)] ⟨0, 9, 15, 15⟩ [] (htab.trans rfl) (fun z hz => by
      simp only [List.mem_cons, List.not_mem_nil, or_false] at hz
      rcases hz with rfl
      · exact Or.inr ⟨by decide, EXB, hqs _ w_608, by rw [hEk]; exact hE.2.2.2.1 (EXS, EXB) (by decide +kernel)⟩) rfl (by decide) (hqs _ w_411) (by rw [hEk]; exact va_Nw.use rfl (hE.2.2.1 (EXS, EXS) (by decide +kernel))) hxc hxv hxl ?_
      refine lv_astore_n (lv' := [(3, .ref q1), (0, .ref (a_p1 0 0)), (1, .int v1), (2, .ref a_p3)]) hx hb dL_restore_15 rfl hl (by decide) rfl (fun ls hl => ?_)
      refine lv_iconst (v := 2) hx hb dL_restore_16 (by decide) ?_
      exact rt_i hx hb hr hlk hK hS ((u1.1, u1.2, g_p3) : TW × TH × (Nat → Int64)) (ret2 h) hP hD dL_restore_17
    replace h := iteF c3 h
    exact nomatch h
  subst hw
  replace h := sumR h
  have hP : va_P D vwCl (cSP a_p1 ++ (cW dT (a_p1 4) u1.1 ++ (cH dT (a_p1 6) u1.2 ++ (cS dT (a_p1 7) g_p1_slots ++ (cJ_ dT a_p3 n_p3 g_p3))))) H := hP.perm (wj_back [cSP a_p1, cW dT (a_p1 4) u1.1, cH dT (a_p1 6) u1.2, cS dT (a_p1 7) g_p1_slots] [cJ_ dT a_p3 n_p3 g_p3] [0, 1, 2, 3, 4] rfl)
  have hD : va_D A (cSP a_p1 ++ (cW dT (a_p1 4) u1.1 ++ (cH dT (a_p1 6) u1.2 ++ (cS dT (a_p1 7) g_p1_slots ++ (cJ_ dT a_p3 n_p3 g_p3))))) := hD.perm (wj_back [cSP a_p1, cW dT (a_p1 4) u1.1, cH dT (a_p1 6) u1.2, cS dT (a_p1 7) g_p1_slots] [cJ_ dT a_p3 n_p3 g_p3] [0, 1, 2, 3, 4] rfl)
  refine lv_i2l hx hb dL_restore_7 rfl ?_
  obtain ⟨g4, h⟩ := chk h
  refine va_last hx hb hK hP hD hS 176 1 rfl rfl (inb_in g4) dL_restore_8 (fun H locs hP hD hS => ?_)
  have hP : va_P D vwCl (cSP a_p1 ++ (cW dT (a_p1 4) u1.1 ++ (cH dT (a_p1 6) u1.2 ++ (cS dT (a_p1 7) g_p1_slots ++ (cJ_ dT a_p3 n_p3 (vp_updL g_p3 (0 : Int32).toNatClampNeg (Int32.toInt64 r1))))))) H := hP
  have hD : va_D A (cSP a_p1 ++ (cW dT (a_p1 4) u1.1 ++ (cH dT (a_p1 6) u1.2 ++ (cS dT (a_p1 7) g_p1_slots ++ (cJ_ dT a_p3 n_p3 (vp_updL g_p3 (0 : Int32).toNatClampNeg (Int32.toInt64 r1))))))) := hD
  refine lv_goto (tgt := 18) hx hb dL_restore_9 (by decide) ?_
  refine lv_iconst (v := 0) hx hb dL_restore_18 (by decide) ?_
  exact rt_i hx hb hr hlk hK hS ((u1.1, u1.2, (vp_updL g_p3 (0 : Int32).toNatClampNeg (Int32.toInt64 r1))) : TW × TH × (Nat → Int64)) (ret2 h) hP hD dL_restore_19

