def f_L_tryBack (g_p1_world : TW) (g_p1_history : TH) (g_p1_slots : TS) (v1 : Int32) : Option (Int32 × (TW × TH)) :=
  ((f_X8_restore g_p1_world g_p1_history g_p1_slots v1).bind fun o1 => (fun u1 => o1.1.elim (fun k1 => (if k1 = 2 then (some ((-9999001 : Int32), (u1.1, u1.2))) else (if k1 = 1 then (some ((-9999003 : Int32), (u1.1, u1.2))) else none))) (fun r1 => (some (r1, (u1.1, u1.2))))) o1.2)
set_option maxHeartbeats 8000000 in
set_option maxRecDepth 100000 in
theorem c_L_tryBack (l : Launch) (hlt : l.stackTraces = false) (D : va_G) (dT : Nat → ClassId) (a_p1 : Nat → Nat → Nat) (g_p1_world : TW) (g_p1_history : TH) (g_p1_slots : TS) (v1 : Int32) (o : (Int32 × (TW × TH))) (h : f_L_tryBack g_p1_world g_p1_history g_p1_slots v1 = some o) (sz : Nat) : Met l yL_tryBack (Cond.codeWith yL_tryBack cL_tryBack 3 (some .int) [(0, 5, 6, 13), (0, 5, 10, 37)] :: TB) { frames := 8, cells := 2, slots := 12, locals := 131 } (va_Pc [.ref (a_p1 0 0), .int v1] (cPre D dT (cSP a_p1 ++ (cW dT (a_p1 4) g_p1_world ++ (cH dT (a_p1 6) g_p1_history ++ (cS dT (a_p1 7) g_p1_slots)))) sz)) (va_Qi (fun (r : Int32) (u : TW × TH) => r = o.1 ∧ u = o.2) (fun u t => cAt D dT (va_A (cSP a_p1 ++ (cW dT (a_p1 4) g_p1_world ++ (cH dT (a_p1 6) g_p1_history ++ (cS dT (a_p1 7) g_p1_slots)))) sz) (cSP a_p1 ++ (cW dT (a_p1 4) (u.1) ++ (cH dT (a_p1 6) (u.2) ++ (cS dT (a_p1 7) g_p1_slots)))) t) (va_A (cSP a_p1 ++ (cW dT (a_p1 4) g_p1_world ++ (cH dT (a_p1 6) g_p1_history ++ (cS dT (a_p1 7) g_p1_slots)))) sz)) 2 12 (va_A (cSP a_p1 ++ (cW dT (a_p1 4) g_p1_world ++ (cH dT (a_p1 6) g_p1_history ++ (cS dT (a_p1 7) g_p1_slots)))) sz) := by
  refine mStartH (WS := (cSP a_p1 ++ (cW dT (a_p1 4) g_p1_world ++ (cH dT (a_p1 6) g_p1_history ++ (cS dT (a_p1 7) g_p1_slots))))) (Qc := fun A => va_Qi (fun (r : Int32) (u : TW × TH) => r = o.1 ∧ u = o.2) (fun u t => cAt D dT A (cSP a_p1 ++ (cW dT (a_p1 4) (u.1) ++ (cH dT (a_p1 6) (u.2) ++ (cS dT (a_p1 7) g_p1_slots)))) t) A) RL rfl (by decide) (Nat.le_of_ble_eq_true rfl) ?_ sz
  intro p e s m below meth c A ls hx hb hml hr hlk htab hts hqs hown hE hA hK hP hD hS hl
  have hl : lv_has ls 3 [(0, .ref (a_p1 0 0)), (1, .int v1)] := hl
  unfold f_L_tryBack at h
  refine lv_aload_n hx hb dL_tryBack_0 rfl (lv_at hl 0 rfl) ?_
  refine lv_iload_n hx hb dL_tryBack_1 rfl (lv_at hl 1 rfl) ?_
  obtain ⟨o1, e1, h⟩ := obind h
  have hPq : va_P D vwCl ((cSP a_p1 ++ (cW dT (a_p1 4) g_p1_world ++ (cH dT (a_p1 6) g_p1_history ++ (cS dT (a_p1 7) g_p1_slots)))) ++ ([] : va_W)) _ := hP.perm (wj_split [cSP a_p1, cW dT (a_p1 4) g_p1_world, cH dT (a_p1 6) g_p1_history, cS dT (a_p1 7) g_p1_slots] [0, 1, 2, 3] [] rfl)
  have hDq : va_D A ((cSP a_p1 ++ (cW dT (a_p1 4) g_p1_world ++ (cH dT (a_p1 6) g_p1_history ++ (cS dT (a_p1 7) g_p1_slots)))) ++ ([] : va_W)) := hD.perm (wj_split [cSP a_p1, cW dT (a_p1 4) g_p1_world, cH dT (a_p1 6) g_p1_history, cS dT (a_p1 7) g_p1_slots] [0, 1, 2, 3] [] rfl)
  have hPc := hPq.left
  have hDc := hDq.left
  have hFc := va_freeL hDq hS hA
  refine xcl_iL (wr := ([] : va_W)) (vx_runV (As := [.int v1]) (rest := []) ⟨hx, hb, hml, hown, hts⟩ (c_X8_restore l hlt D dT a_p1 g_p1_world g_p1_history g_p1_slots v1 o1 e1 _) (cwV 1 hts (TB_V w_964 w_965 w_966 w_33 w_967) rfl rfl rfl ⟨rfl, nd_X8_restore⟩ ⟨Nat.le_of_ble_eq_true rfl, Nat.le_of_ble_eq_true rfl⟩) (cPre.V hPc hDc hK hE hS hFc (va_recv hK hPc (ci := 7) (q0 := 0) rfl rfl)) rfl rfl hl.1 rfl (lv_room (Nat.le_of_ble_eq_true rfl)) dL_tryBack_2 ⟨Nat.le_of_ble_eq_true rfl, Nat.le_of_ble_eq_true rfl⟩) hPq hDq hS hFc (fun k1 u1 E1 ce1 q1 H locs hw hEk hP hD hS hxc hxv hxl => ?_) (fun r1 u1 H locs hw hP hD hS => ?_)
  · have hw := xoP_inv hw
    subst hw
    have hP : va_P D vwCl (cSP a_p1 ++ (cW dT (a_p1 4) u1.1 ++ (cH dT (a_p1 6) u1.2 ++ (cS dT (a_p1 7) g_p1_slots)))) H := hP.perm (wj_back [cSP a_p1, cW dT (a_p1 4) u1.1, cH dT (a_p1 6) u1.2, cS dT (a_p1 7) g_p1_slots] [] [0, 1, 2, 3] rfl)
    have hD : va_D A (cSP a_p1 ++ (cW dT (a_p1 4) u1.1 ++ (cH dT (a_p1 6) u1.2 ++ (cS dT (a_p1 7) g_p1_slots)))) := hD.perm (wj_back [cSP a_p1, cW dT (a_p1 4) u1.1, cH dT (a_p1 6) u1.2, cS dT (a_p1 7) g_p1_slots] [] [0, 1, 2, 3] rfl)
    by_cases c2 : k1 = 2
    · replace h := iteT c2 h
      subst c2
      have hEk : E1 = EXB := hEk
      refine vx_catch (name := EXB) (E := E1) hown [] ⟨0, 5, 6, 13⟩ [⟨0, 5, 10, 37⟩] (htab.trans rfl) (fun z hz => absurd hz List.not_mem_nil) rfl (by decide) (hqs _ w_753) (by rw [hEk]; exact va_Nw.use rfl (hE.2.2.1 (EXB, EXB) (by decide +kernel))) hxc hxv hxl ?_
      refine lv_astore_n (lv' := [(2, .ref q1), (0, .ref (a_p1 0 0)), (1, .int v1)]) hx hb dL_tryBack_6 rfl hl (by decide) rfl (fun ls hl => ?_)
      refine lv_ldc (v := -9999001) hx hb hown (hqs _ w_780) dL_tryBack_7 ?_
      exact rt_i hx hb hr hlk hK hS ((u1.1, u1.2) : TW × TH) (ret2 h) hP hD dL_tryBack_9
    replace h := iteF c2 h
    by_cases c3 : k1 = 1
    · replace h := iteT c3 h
      subst c3
      have hEk : E1 = EXS := hEk
      refine vx_catch (name := EXS) (E := E1) hown [(⟨0, 5, 6, 13⟩ : ExceptionTableEntry)] ⟨0, 5, 10, 37⟩ [] (htab.trans rfl) (fun z hz => by
      simp only [List.mem_cons, List.not_mem_nil, or_false] at hz
      rcases hz with rfl
      · exact Or.inr ⟨by decide, EXB, hqs _ w_753, by rw [hEk]; exact hE.2.2.2.1 (EXS, EXB) (by decide +kernel)⟩) rfl (by decide) (hqs _ w_605) (by rw [hEk]; exact va_Nw.use rfl (hE.2.2.1 (EXS, EXS) (by decide +kernel))) hxc hxv hxl ?_
      refine lv_astore_n (lv' := [(2, .ref q1), (0, .ref (a_p1 0 0)), (1, .int v1)]) hx hb dL_tryBack_10 rfl hl (by decide) rfl (fun ls hl => ?_)
      refine lv_ldc (v := -9999003) hx hb hown (hqs _ w_635) dL_tryBack_11 ?_
      exact rt_i hx hb hr hlk hK hS ((u1.1, u1.2) : TW × TH) (ret2 h) hP hD dL_tryBack_13
    replace h := iteF c3 h
    exact nomatch h
  subst hw
  replace h := sumR h
  have hP : va_P D vwCl (cSP a_p1 ++ (cW dT (a_p1 4) u1.1 ++ (cH dT (a_p1 6) u1.2 ++ (cS dT (a_p1 7) g_p1_slots)))) H := hP.perm (wj_back [cSP a_p1, cW dT (a_p1 4) u1.1, cH dT (a_p1 6) u1.2, cS dT (a_p1 7) g_p1_slots] [] [0, 1, 2, 3] rfl)
  have hD : va_D A (cSP a_p1 ++ (cW dT (a_p1 4) u1.1 ++ (cH dT (a_p1 6) u1.2 ++ (cS dT (a_p1 7) g_p1_slots)))) := hD.perm (wj_back [cSP a_p1, cW dT (a_p1 4) u1.1, cH dT (a_p1 6) u1.2, cS dT (a_p1 7) g_p1_slots] [] [0, 1, 2, 3] rfl)
  exact rt_i hx hb hr hlk hK hS ((u1.1, u1.2) : TW × TH) (ret2 h) hP hD dL_tryBack_5

