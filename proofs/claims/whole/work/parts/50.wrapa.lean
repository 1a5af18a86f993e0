def f_L_append (n_p3 : Nat) (g_p1_text : TT) (g_p3 : Nat → Int64) (v1 : Int32) : Option (Int32 × (TT × (Nat → Int64))) :=
  ((f_X8_append g_p1_text v1).bind fun o1 => (fun u1 => o1.1.elim (fun k1 => (if k1 = 0 then (some ((1 : Int32), (u1, g_p3))) else (if k1 = 1 then (some ((2 : Int32), (u1, g_p3))) else none))) (fun r1 => (if inb (0 : Int32) n_p3 = true then (some ((0 : Int32), (u1, (vp_updL g_p3 (0 : Int32).toNatClampNeg (Int32.toInt64 r1))))) else none))) o1.2)
set_option maxHeartbeats 8000000 in
set_option maxRecDepth 100000 in
theorem c_L_append (l : Launch) (hlt : l.stackTraces = false) (D : va_G) (dT : Nat → ClassId) (a_p1 : Nat → Nat → Nat) (a_p3 : Nat) (n_p3 : Nat) (g_p1_text : TT) (g_p3 : Nat → Int64) (v1 : Int32) (o : (Int32 × (TT × (Nat → Int64)))) (h : f_L_append n_p3 g_p1_text g_p3 v1 = some o) (sz : Nat) : Met l yL_append (Cond.codeWith yL_append cL_append 4 (some .int) [(0, 9, 12, 13), (0, 9, 15, 15)] :: TB) { frames := 8, cells := 2, slots := 12, locals := 133 } (va_Pc [.ref (a_p1 0 0), .int v1, .ref a_p3] (cPre D dT (cSP a_p1 ++ (cT dT (a_p1 1) g_p1_text ++ (cJ_ dT a_p3 n_p3 g_p3))) sz)) (va_Qi (fun (r : Int32) (u : TT × (Nat → Int64)) => r = o.1 ∧ u = o.2) (fun u t => cAt D dT (va_A (cSP a_p1 ++ (cT dT (a_p1 1) g_p1_text ++ (cJ_ dT a_p3 n_p3 g_p3))) sz) (cSP a_p1 ++ (cT dT (a_p1 1) (u.1) ++ (cJ_ dT a_p3 n_p3 (u.2)))) t) (va_A (cSP a_p1 ++ (cT dT (a_p1 1) g_p1_text ++ (cJ_ dT a_p3 n_p3 g_p3))) sz)) 2 12 (va_A (cSP a_p1 ++ (cT dT (a_p1 1) g_p1_text ++ (cJ_ dT a_p3 n_p3 g_p3))) sz) := by
  refine mStartH (WS := (cSP a_p1 ++ (cT dT (a_p1 1) g_p1_text ++ (cJ_ dT a_p3 n_p3 g_p3)))) (Qc := fun A => va_Qi (fun (r : Int32) (u : TT × (Nat → Int64)) => r = o.1 ∧ u = o.2) (fun u t => cAt D dT A (cSP a_p1 ++ (cT dT (a_p1 1) (u.1) ++ (cJ_ dT a_p3 n_p3 (u.2)))) t) A) RL rfl (by decide) (Nat.le_of_ble_eq_true rfl) ?_ sz
  intro p e s m below meth c A ls hx hb hml hr hlk htab hts hqs hown hE hA hK hP hD hS hl
  have hl : lv_has ls 4 [(0, .ref (a_p1 0 0)), (1, .int v1), (2, .ref a_p3)] := hl
  unfold f_L_append at h
  refine lv_aload_n hx hb dL_append_0 rfl (lv_at hl 2 rfl) ?_
  refine lv_iconst (v := 0) hx hb dL_append_1 (by decide) ?_
  refine lv_aload_n hx hb dL_append_2 rfl (lv_at hl 0 rfl) ?_
  refine lv_iload_n hx hb dL_append_3 rfl (lv_at hl 1 rfl) ?_
  obtain ⟨o1, e1, h⟩ := obind h
  have hPq : va_P D vwCl ((cSP a_p1 ++ (cT dT (a_p1 1) g_p1_text)) ++ (cJ_ dT a_p3 n_p3 g_p3)) _ := hP.perm (wj_split [cSP a_p1, cT dT (a_p1 1) g_p1_text, cJ_ dT a_p3 n_p3 g_p3] [0, 1] [2] rfl)
  have hDq : va_D A ((cSP a_p1 ++ (cT dT (a_p1 1) g_p1_text)) ++ (cJ_ dT a_p3 n_p3 g_p3)) := hD.perm (wj_split [cSP a_p1, cT dT (a_p1 1) g_p1_text, cJ_ dT a_p3 n_p3 g_p3] [0, 1] [2] rfl)
  have hPc := hPq.left
  have hDc := hDq.left
  have hFc := va_freeL hDq hS hA
  refine xcl_iL (wr := (cJ_ dT a_p3 n_p3 g_p3)) (vx_runV (As := [.int v1]) (rest := [.int (0 : Int32), .ref a_p3]) ⟨hx, hb, hml, hown, hts⟩ (c_X8_append l hlt D dT a_p1 g_p1_text v1 o1 e1 _) (cwV 1 hts (TB_V w_412 w_413 w_414 w_50 w_415) rfl rfl rfl ⟨rfl, nd_X8_append⟩ ⟨Nat.le_of_ble_eq_true rfl, Nat.le_of_ble_eq_true rfl⟩) (cPre.V hPc hDc hK hE hS hFc (va_recv hK hPc (ci := 7) (q0 := 0) rfl rfl)) rfl rfl hl.1 rfl (lv_room (Nat.le_of_ble_eq_true rfl)) dL_append_4 ⟨Nat.le_of_ble_eq_true rfl, Nat.le_of_ble_eq_true rfl⟩) hPq hDq hS hFc (fun k1 u1 E1 ce1 q1 H locs hw hEk hP hD hS hxc hxv hxl => ?_) (fun r1 u1 H locs hw hP hD hS => ?_)
  · have hw := xoP_inv hw
    subst hw
    have hP : va_P D vwCl (cSP a_p1 ++ (cT dT (a_p1 1) u1 ++ (cJ_ dT a_p3 n_p3 g_p3))) H := hP.perm (wj_back [cSP a_p1, cT dT (a_p1 1) u1] [cJ_ dT a_p3 n_p3 g_p3] [0, 1, 2] rfl)
    have hD : va_D A (cSP a_p1 ++ (cT dT (a_p1 1) u1 ++ (cJ_ dT a_p3 n_p3 g_p3))) := hD.perm (wj_back [cSP a_p1, cT dT (a_p1 1) u1] [cJ_ dT a_p3 n_p3 g_p3] [0, 1, 2] rfl)
    by_cases c2 : k1 = 0
    · replace h := iteT c2 h
      subst c2
      have hEk : E1 = EXI := hEk
      refine vx_catch (name := EXI) (E := E1) hown [] ⟨0, 9, 12, 13⟩ [⟨0, 9, 15, 15⟩] (htab.trans rfl) (fun z hz => absurd hz List.not_mem_nil) rfl (by decide) (hqs _ w_410) (by rw [hEk]; exact va_Nw.use rfl (hE.2.2.1 (EXI, EXI) (by decide +kernel))) hxc hxv hxl ?_
      refine lv_astore_n (lv' := [(3, .ref q1), (0, .ref (a_p1 0 0)), (1, .int v1), (2, .ref a_p3)]) hx hb dL_append_12 rfl hl (by decide) rfl (fun ls hl => ?_)
      refine lv_iconst (v := 1) hx hb dL_append_13 (by decide) ?_
      exact rt_i hx hb hr hlk hK hS ((u1, g_p3) : TT × (Nat → Int64)) (ret2 h) hP hD dL_append_14
    replace h := iteF c2 h
    by_cases c3 : k1 = 1
    · replace h := iteT c3 h
      subst c3
      have hEk : E1 = EXS := hEk
      refine vx_catch (name := EXS) (E := E1) hown [(⟨0, 9, 12, 13⟩ : ExceptionTableEntry)] ⟨0, 9, 15, 15⟩ [] (htab.trans rfl) (fun z hz => by
      simp only [List.mem_cons, List.not_mem_nil, or_false] at hz
      rcases hz with rfl
      · exact Or.inr ⟨by decide, EXI, hqs _ w_410, by rw [hEk]; exact hE.2.2.2.1 (EXS, EXI) (by decide +kernel)⟩) rfl (by decide) (hqs _ w_411) (by rw [hEk]; exact va_Nw.use rfl (hE.2.2.1 (EXS, EXS) (by decide +kernel))) hxc hxv hxl ?_
      refine lv_astore_n (lv' := [(3, .ref q1), (0, .ref (a_p1 0 0)), (1, .int v1), (2, .ref a_p3)]) hx hb dL_append_15 rfl hl (by decide) rfl (fun ls hl => ?_)
      refine lv_iconst (v := 2) hx hb dL_append_16 (by decide) ?_
      exact rt_i hx hb hr hlk hK hS ((u1, g_p3) : TT × (Nat → Int64)) (ret2 h) hP hD dL_append_17
    replace h := iteF c3 h
    exact nomatch h
  subst hw
  replace h := sumR h
  have hP : va_P D vwCl (cSP a_p1 ++ (cT dT (a_p1 1) u1 ++ (cJ_ dT a_p3 n_p3 g_p3))) H := hP.perm (wj_back [cSP a_p1, cT dT (a_p1 1) u1] [cJ_ dT a_p3 n_p3 g_p3] [0, 1, 2] rfl)
  have hD : va_D A (cSP a_p1 ++ (cT dT (a_p1 1) u1 ++ (cJ_ dT a_p3 n_p3 g_p3))) := hD.perm (wj_back [cSP a_p1, cT dT (a_p1 1) u1] [cJ_ dT a_p3 n_p3 g_p3] [0, 1, 2] rfl)
  refine lv_i2l hx hb dL_append_7 rfl ?_
  obtain ⟨g4, h⟩ := chk h
  refine va_last hx hb hK hP hD hS 3 1 rfl rfl (inb_in g4) dL_append_8 (fun H locs hP hD hS => ?_)
  have hP : va_P D vwCl (cSP a_p1 ++ (cT dT (a_p1 1) u1 ++ (cJ_ dT a_p3 n_p3 (vp_updL g_p3 (0 : Int32).toNatClampNeg (Int32.toInt64 r1))))) H := hP
  have hD : va_D A (cSP a_p1 ++ (cT dT (a_p1 1) u1 ++ (cJ_ dT a_p3 n_p3 (vp_updL g_p3 (0 : Int32).toNatClampNeg (Int32.toInt64 r1))))) := hD
  refine lv_goto (tgt := 18) hx hb dL_append_9 (by decide) ?_
  refine lv_iconst (v := 0) hx hb dL_append_18 (by decide) ?_
  exact rt_i hx hb hr hlk hK hS ((u1, (vp_updL g_p3 (0 : Int32).toNatClampNeg (Int32.toInt64 r1))) : TT × (Nat → Int64)) (ret2 h) hP hD dL_append_19

def f_L_load (n_p2 : Nat) (g_p1_text : TT) (g_p1_entryReader : TE) (g_p1_world : TW) (g_p1_history : TH) (g_p1_slots : TS) (g_p2 : Nat → Int64) : Option (Int32 × (TE × TW × TH × TS × (Nat → Int64))) :=
  ((f_X8_load g_p1_text g_p1_entryReader g_p1_world g_p1_history g_p1_slots).bind fun o1 => (fun u1 => o1.1.elim (fun k1 => (if k1 = 1 then (some ((1 : Int32), (u1.1, u1.2.1, u1.2.2.1, u1.2.2.2, g_p2))) else none)) (fun r1 => (if inb (0 : Int32) n_p2 = true then (some ((0 : Int32), (u1.1, u1.2.1, u1.2.2.1, u1.2.2.2, (vp_updL g_p2 (0 : Int32).toNatClampNeg (Int32.toInt64 r1))))) else none))) o1.2)
set_option maxHeartbeats 8000000 in
set_option maxRecDepth 100000 in
theorem c_L_load (l : Launch) (hlt : l.stackTraces = false) (D : va_G) (dT : Nat → ClassId) (a_p1 : Nat → Nat → Nat) (a_p2 : Nat) (n_p2 : Nat) (g_p1_text : TT) (g_p1_entryReader : TE) (g_p1_world : TW) (g_p1_history : TH) (g_p1_slots : TS) (g_p2 : Nat → Int64) (o : (Int32 × (TE × TW × TH × TS × (Nat → Int64)))) (h : f_L_load n_p2 g_p1_text g_p1_entryReader g_p1_world g_p1_history g_p1_slots g_p2 = some o) (sz : Nat) : Met l yL_load (Cond.codeWith yL_load cL_load 3 (some .int) [(0, 8, 11, 15)] :: TB) { frames := 7, cells := 1, slots := 6, locals := 130 } (va_Pc [.ref (a_p1 0 0), .ref a_p2] (cPre D dT (cSP a_p1 ++ (cT dT (a_p1 1) g_p1_text ++ (cE dT (a_p1 2) g_p1_entryReader ++ (cW dT (a_p1 4) g_p1_world ++ (cH dT (a_p1 6) g_p1_history ++ (cS dT (a_p1 7) g_p1_slots ++ (cJ_ dT a_p2 n_p2 g_p2))))))) sz)) (va_Qi (fun (r : Int32) (u : TE × TW × TH × TS × (Nat → Int64)) => r = o.1 ∧ u = o.2) (fun u t => cAt D dT (va_A (cSP a_p1 ++ (cT dT (a_p1 1) g_p1_text ++ (cE dT (a_p1 2) g_p1_entryReader ++ (cW dT (a_p1 4) g_p1_world ++ (cH dT (a_p1 6) g_p1_history ++ (cS dT (a_p1 7) g_p1_slots ++ (cJ_ dT a_p2 n_p2 g_p2))))))) sz) (cSP a_p1 ++ (cT dT (a_p1 1) g_p1_text ++ (cE dT (a_p1 2) (u.1) ++ (cW dT (a_p1 4) (u.2.1) ++ (cH dT (a_p1 6) (u.2.2.1) ++ (cS dT (a_p1 7) (u.2.2.2.1) ++ (cJ_ dT a_p2 n_p2 (u.2.2.2.2)))))))) t) (va_A (cSP a_p1 ++ (cT dT (a_p1 1) g_p1_text ++ (cE dT (a_p1 2) g_p1_entryReader ++ (cW dT (a_p1 4) g_p1_world ++ (cH dT (a_p1 6) g_p1_history ++ (cS dT (a_p1 7) g_p1_slots ++ (cJ_ dT a_p2 n_p2 g_p2))))))) sz)) 1 6 (va_A (cSP a_p1 ++ (cT dT (a_p1 1) g_p1_text ++ (cE dT (a_p1 2) g_p1_entryReader ++ (cW dT (a_p1 4) g_p1_world ++ (cH dT (a_p1 6) g_p1_history ++ (cS dT (a_p1 7) g_p1_slots ++ (cJ_ dT a_p2 n_p2 g_p2))))))) sz) := by
  refine mStartH (WS := (cSP a_p1 ++ (cT dT (a_p1 1) g_p1_text ++ (cE dT (a_p1 2) g_p1_entryReader ++ (cW dT (a_p1 4) g_p1_world ++ (cH dT (a_p1 6) g_p1_history ++ (cS dT (a_p1 7) g_p1_slots ++ (cJ_ dT a_p2 n_p2 g_p2)))))))) (Qc := fun A => va_Qi (fun (r : Int32) (u : TE × TW × TH × TS × (Nat → Int64)) => r = o.1 ∧ u = o.2) (fun u t => cAt D dT A (cSP a_p1 ++ (cT dT (a_p1 1) g_p1_text ++ (cE dT (a_p1 2) (u.1) ++ (cW dT (a_p1 4) (u.2.1) ++ (cH dT (a_p1 6) (u.2.2.1) ++ (cS dT (a_p1 7) (u.2.2.2.1) ++ (cJ_ dT a_p2 n_p2 (u.2.2.2.2)))))))) t) A) RL rfl (by decide) (Nat.le_of_ble_eq_true rfl) ?_ sz
  intro p e s m below meth c A ls hx hb hml hr hlk htab hts hqs hown hE hA hK hP hD hS hl
  have hl : lv_has ls 3 [(0, .ref (a_p1 0 0)), (1, .ref a_p2)] := hl
  unfold f_L_load at h
  refine lv_aload_n hx hb dL_load_0 rfl (lv_at hl 1 rfl) ?_
  refine lv_iconst (v := 0) hx hb dL_load_1 (by decide) ?_
  refine lv_aload_n hx hb dL_load_2 rfl (lv_at hl 0 rfl) ?_
  obtain ⟨o1, e1, h⟩ := obind h
  have hPq : va_P D vwCl ((cSP a_p1 ++ (cT dT (a_p1 1) g_p1_text ++ (cE dT (a_p1 2) g_p1_entryReader ++ (cW dT (a_p1 4) g_p1_world ++ (cH dT (a_p1 6) g_p1_history ++ (cS dT (a_p1 7) g_p1_slots)))))) ++ (cJ_ dT a_p2 n_p2 g_p2)) _ := hP.perm (wj_split [cSP a_p1, cT dT (a_p1 1) g_p1_text, cE dT (a_p1 2) g_p1_entryReader, cW dT (a_p1 4) g_p1_world, cH dT (a_p1 6) g_p1_history, cS dT (a_p1 7) g_p1_slots, cJ_ dT a_p2 n_p2 g_p2] [0, 1, 2, 3, 4, 5] [6] rfl)
  have hDq : va_D A ((cSP a_p1 ++ (cT dT (a_p1 1) g_p1_text ++ (cE dT (a_p1 2) g_p1_entryReader ++ (cW dT (a_p1 4) g_p1_world ++ (cH dT (a_p1 6) g_p1_history ++ (cS dT (a_p1 7) g_p1_slots)))))) ++ (cJ_ dT a_p2 n_p2 g_p2)) := hD.perm (wj_split [cSP a_p1, cT dT (a_p1 1) g_p1_text, cE dT (a_p1 2) g_p1_entryReader, cW dT (a_p1 4) g_p1_world, cH dT (a_p1 6) g_p1_history, cS dT (a_p1 7) g_p1_slots, cJ_ dT a_p2 n_p2 g_p2] [0, 1, 2, 3, 4, 5] [6] rfl)
  have hPc := hPq.left
  have hDc := hDq.left
  have hFc := va_freeL hDq hS hA
  refine xcl_iL (wr := (cJ_ dT a_p2 n_p2 g_p2)) (vx_runV (As := []) (rest := [.int (0 : Int32), .ref a_p2]) ⟨hx, hb, hml, hown, hts⟩ (c_X8_load l hlt D dT a_p1 g_p1_text g_p1_entryReader g_p1_world g_p1_history g_p1_slots o1 e1 _) (cwV 0 hts (TB_V w_515 w_516 w_517 w_50 w_518) rfl rfl rfl ⟨rfl, nd_X8_load⟩ ⟨Nat.le_of_ble_eq_true rfl, Nat.le_of_ble_eq_true rfl⟩) (cPre.V hPc hDc hK hE hS hFc (va_recv hK hPc (ci := 7) (q0 := 0) rfl rfl)) rfl rfl hl.1 rfl (lv_room (Nat.le_of_ble_eq_true rfl)) dL_load_3 ⟨Nat.le_of_ble_eq_true rfl, Nat.le_of_ble_eq_true rfl⟩) hPq hDq hS hFc (fun k1 u1 E1 ce1 q1 H locs hw hEk hP hD hS hxc hxv hxl => ?_) (fun r1 u1 H locs hw hP hD hS => ?_)
  · have hw := xoP_inv hw
    subst hw
    have hP : va_P D vwCl (cSP a_p1 ++ (cT dT (a_p1 1) g_p1_text ++ (cE dT (a_p1 2) u1.1 ++ (cW dT (a_p1 4) u1.2.1 ++ (cH dT (a_p1 6) u1.2.2.1 ++ (cS dT (a_p1 7) u1.2.2.2 ++ (cJ_ dT a_p2 n_p2 g_p2))))))) H := hP.perm (wj_back [cSP a_p1, cT dT (a_p1 1) g_p1_text, cE dT (a_p1 2) u1.1, cW dT (a_p1 4) u1.2.1, cH dT (a_p1 6) u1.2.2.1, cS dT (a_p1 7) u1.2.2.2] [cJ_ dT a_p2 n_p2 g_p2] [0, 1, 2, 3, 4, 5, 6] rfl)
    have hD : va_D A (cSP a_p1 ++ (cT dT (a_p1 1) g_p1_text ++ (cE dT (a_p1 2) u1.1 ++ (cW dT (a_p1 4) u1.2.1 ++ (cH dT (a_p1 6) u1.2.2.1 ++ (cS dT (a_p1 7) u1.2.2.2 ++ (cJ_ dT a_p2 n_p2 g_p2))))))) := hD.perm (wj_back [cSP a_p1, cT dT (a_p1 1) g_p1_text, cE dT (a_p1 2) u1.1, cW dT (a_p1 4) u1.2.1, cH dT (a_p1 6) u1.2.2.1, cS dT (a_p1 7) u1.2.2.2] [cJ_ dT a_p2 n_p2 g_p2] [0, 1, 2, 3, 4, 5, 6] rfl)
    by_cases c2 : k1 = 1
    · replace h := iteT c2 h
      subst c2
      have hEk : E1 = EXS := hEk
      refine vx_catch (name := EXS) (E := E1) hown [] ⟨0, 8, 11, 15⟩ [] (htab.trans rfl) (fun z hz => absurd hz List.not_mem_nil) rfl (by decide) (hqs _ w_411) (by rw [hEk]; exact va_Nw.use rfl (hE.2.2.1 (EXS, EXS) (by decide +kernel))) hxc hxv hxl ?_
      refine lv_astore_n (lv' := [(2, .ref q1), (0, .ref (a_p1 0 0)), (1, .ref a_p2)]) hx hb dL_load_11 rfl hl (by decide) rfl (fun ls hl => ?_)
      refine lv_iconst (v := 1) hx hb dL_load_12 (by decide) ?_
      exact rt_i hx hb hr hlk hK hS ((u1.1, u1.2.1, u1.2.2.1, u1.2.2.2, g_p2) : TE × TW × TH × TS × (Nat → Int64)) (ret2 h) hP hD dL_load_13
    replace h := iteF c2 h
    exact nomatch h
  subst hw
  replace h := sumR h
  have hP : va_P D vwCl (cSP a_p1 ++ (cT dT (a_p1 1) g_p1_text ++ (cE dT (a_p1 2) u1.1 ++ (cW dT (a_p1 4) u1.2.1 ++ (cH dT (a_p1 6) u1.2.2.1 ++ (cS dT (a_p1 7) u1.2.2.2 ++ (cJ_ dT a_p2 n_p2 g_p2))))))) H := hP.perm (wj_back [cSP a_p1, cT dT (a_p1 1) g_p1_text, cE dT (a_p1 2) u1.1, cW dT (a_p1 4) u1.2.1, cH dT (a_p1 6) u1.2.2.1, cS dT (a_p1 7) u1.2.2.2] [cJ_ dT a_p2 n_p2 g_p2] [0, 1, 2, 3, 4, 5, 6] rfl)
  have hD : va_D A (cSP a_p1 ++ (cT dT (a_p1 1) g_p1_text ++ (cE dT (a_p1 2) u1.1 ++ (cW dT (a_p1 4) u1.2.1 ++ (cH dT (a_p1 6) u1.2.2.1 ++ (cS dT (a_p1 7) u1.2.2.2 ++ (cJ_ dT a_p2 n_p2 g_p2))))))) := hD.perm (wj_back [cSP a_p1, cT dT (a_p1 1) g_p1_text, cE dT (a_p1 2) u1.1, cW dT (a_p1 4) u1.2.1, cH dT (a_p1 6) u1.2.2.1, cS dT (a_p1 7) u1.2.2.2] [cJ_ dT a_p2 n_p2 g_p2] [0, 1, 2, 3, 4, 5, 6] rfl)
  refine lv_i2l hx hb dL_load_6 rfl ?_
  obtain ⟨g3, h⟩ := chk h
  refine va_last hx hb hK hP hD hS 179 1 rfl rfl (inb_in g3) dL_load_7 (fun H locs hP hD hS => ?_)
  have hP : va_P D vwCl (cSP a_p1 ++ (cT dT (a_p1 1) g_p1_text ++ (cE dT (a_p1 2) u1.1 ++ (cW dT (a_p1 4) u1.2.1 ++ (cH dT (a_p1 6) u1.2.2.1 ++ (cS dT (a_p1 7) u1.2.2.2 ++ (cJ_ dT a_p2 n_p2 (vp_updL g_p2 (0 : Int32).toNatClampNeg (Int32.toInt64 r1))))))))) H := hP
  have hD : va_D A (cSP a_p1 ++ (cT dT (a_p1 1) g_p1_text ++ (cE dT (a_p1 2) u1.1 ++ (cW dT (a_p1 4) u1.2.1 ++ (cH dT (a_p1 6) u1.2.2.1 ++ (cS dT (a_p1 7) u1.2.2.2 ++ (cJ_ dT a_p2 n_p2 (vp_updL g_p2 (0 : Int32).toNatClampNeg (Int32.toInt64 r1))))))))) := hD
  refine lv_goto (tgt := 14) hx hb dL_load_8 (by decide) ?_
  refine lv_iconst (v := 0) hx hb dL_load_14 (by decide) ?_
  exact rt_i hx hb hr hlk hK hS ((u1.1, u1.2.1, u1.2.2.1, u1.2.2.2, (vp_updL g_p2 (0 : Int32).toNatClampNeg (Int32.toInt64 r1))) : TE × TW × TH × TS × (Nat → Int64)) (ret2 h) hP hD dL_load_15

def f_L_about (n_p3 : Nat) (g_p1_world : TW) (g_p3 : Nat → Int64) (v1 : Int32) : Option (Int32 × ((Nat → Int64))) :=
  ((f_X8_about g_p1_world v1).bind fun o1 => (fun u1 => o1.1.elim (fun k1 => (if k1 = 0 then (some ((1 : Int32), g_p3)) else none)) (fun r1 => (if inb (0 : Int32) n_p3 = true then (some ((0 : Int32), (vp_updL g_p3 (0 : Int32).toNatClampNeg (Int32.toInt64 r1)))) else none))) o1.2)
set_option maxHeartbeats 8000000 in
set_option maxRecDepth 100000 in
theorem c_L_about (l : Launch) (hlt : l.stackTraces = false) (D : va_G) (dT : Nat → ClassId) (a_p1 : Nat → Nat → Nat) (a_p3 : Nat) (n_p3 : Nat) (g_p1_world : TW) (g_p3 : Nat → Int64) (v1 : Int32) (o : (Int32 × ((Nat → Int64)))) (h : f_L_about n_p3 g_p1_world g_p3 v1 = some o) (sz : Nat) : Met l yL_about (Cond.codeWith yL_about cL_about 4 (some .int) [(0, 9, 12, 13)] :: TB) { frames := 8, cells := 1, slots := 6, locals := 133 } (va_Pc [.ref (a_p1 0 0), .int v1, .ref a_p3] (cPre D dT (cSP a_p1 ++ (cW dT (a_p1 4) g_p1_world ++ (cJ_ dT a_p3 n_p3 g_p3))) sz)) (va_Qi (fun (r : Int32) (u : (Nat → Int64)) => r = o.1 ∧ u = o.2) (fun u t => cAt D dT (va_A (cSP a_p1 ++ (cW dT (a_p1 4) g_p1_world ++ (cJ_ dT a_p3 n_p3 g_p3))) sz) (cSP a_p1 ++ (cW dT (a_p1 4) g_p1_world ++ (cJ_ dT a_p3 n_p3 u))) t) (va_A (cSP a_p1 ++ (cW dT (a_p1 4) g_p1_world ++ (cJ_ dT a_p3 n_p3 g_p3))) sz)) 1 6 (va_A (cSP a_p1 ++ (cW dT (a_p1 4) g_p1_world ++ (cJ_ dT a_p3 n_p3 g_p3))) sz) := by
  refine mStartH (WS := (cSP a_p1 ++ (cW dT (a_p1 4) g_p1_world ++ (cJ_ dT a_p3 n_p3 g_p3)))) (Qc := fun A => va_Qi (fun (r : Int32) (u : (Nat → Int64)) => r = o.1 ∧ u = o.2) (fun u t => cAt D dT A (cSP a_p1 ++ (cW dT (a_p1 4) g_p1_world ++ (cJ_ dT a_p3 n_p3 u))) t) A) RL rfl (by decide) (Nat.le_of_ble_eq_true rfl) ?_ sz
  intro p e s m below meth c A ls hx hb hml hr hlk htab hts hqs hown hE hA hK hP hD hS hl
  have hl : lv_has ls 4 [(0, .ref (a_p1 0 0)), (1, .int v1), (2, .ref a_p3)] := hl
  unfold f_L_about at h
  refine lv_aload_n hx hb dL_about_0 rfl (lv_at hl 2 rfl) ?_
  refine lv_iconst (v := 0) hx hb dL_about_1 (by decide) ?_
  refine lv_aload_n hx hb dL_about_2 rfl (lv_at hl 0 rfl) ?_
  refine lv_iload_n hx hb dL_about_3 rfl (lv_at hl 1 rfl) ?_
  obtain ⟨o1, e1, h⟩ := obind h
  have hPq : va_P D vwCl ((cSP a_p1 ++ (cW dT (a_p1 4) g_p1_world)) ++ (cJ_ dT a_p3 n_p3 g_p3)) _ := hP.perm (wj_split [cSP a_p1, cW dT (a_p1 4) g_p1_world, cJ_ dT a_p3 n_p3 g_p3] [0, 1] [2] rfl)
  have hDq : va_D A ((cSP a_p1 ++ (cW dT (a_p1 4) g_p1_world)) ++ (cJ_ dT a_p3 n_p3 g_p3)) := hD.perm (wj_split [cSP a_p1, cW dT (a_p1 4) g_p1_world, cJ_ dT a_p3 n_p3 g_p3] [0, 1] [2] rfl)
  have hPc := hPq.left
  have hDc := hDq.left
  have hFc := va_freeL hDq hS hA
  refine xcl_iL (wr := (cJ_ dT a_p3 n_p3 g_p3)) (vx_runV (As := [.int v1]) (rest := [.int (0 : Int32), .ref a_p3]) ⟨hx, hb, hml, hown, hts⟩ (c_X8_about l hlt D dT a_p1 g_p1_world v1 o1 e1 _) (cwV 1 hts (TB_V w_582 w_583 w_584 w_50 w_585) rfl rfl rfl ⟨rfl, nd_X8_about⟩ ⟨Nat.le_of_ble_eq_true rfl, Nat.le_of_ble_eq_true rfl⟩) (cPre.V hPc hDc hK hE hS hFc (va_recv hK hPc (ci := 7) (q0 := 0) rfl rfl)) rfl rfl hl.1 rfl (lv_room (Nat.le_of_ble_eq_true rfl)) dL_about_4 ⟨Nat.le_of_ble_eq_true rfl, Nat.le_of_ble_eq_true rfl⟩) hPq hDq hS hFc (fun k1 u1 E1 ce1 q1 H locs hw hEk hP hD hS hxc hxv hxl => ?_) (fun r1 u1 H locs hw hP hD hS => ?_)
  · have hw := xoP_inv hw
    subst hw
    have hP : va_P D vwCl (cSP a_p1 ++ (cW dT (a_p1 4) g_p1_world ++ (cJ_ dT a_p3 n_p3 g_p3))) H := hP.perm (wj_back [cSP a_p1, cW dT (a_p1 4) g_p1_world] [cJ_ dT a_p3 n_p3 g_p3] [0, 1, 2] rfl)
    have hD : va_D A (cSP a_p1 ++ (cW dT (a_p1 4) g_p1_world ++ (cJ_ dT a_p3 n_p3 g_p3))) := hD.perm (wj_back [cSP a_p1, cW dT (a_p1 4) g_p1_world] [cJ_ dT a_p3 n_p3 g_p3] [0, 1, 2] rfl)
    by_cases c2 : k1 = 0
    · replace h := iteT c2 h
      subst c2
      have hEk : E1 = EXI := hEk
      refine vx_catch (name := EXI) (E := E1) hown [] ⟨0, 9, 12, 13⟩ [] (htab.trans rfl) (fun z hz => absurd hz List.not_mem_nil) rfl (by decide) (hqs _ w_410) (by rw [hEk]; exact va_Nw.use rfl (hE.2.2.1 (EXI, EXI) (by decide +kernel))) hxc hxv hxl ?_
      refine lv_astore_n (lv' := [(3, .ref q1), (0, .ref (a_p1 0 0)), (1, .int v1), (2, .ref a_p3)]) hx hb dL_about_12 rfl hl (by decide) rfl (fun ls hl => ?_)
      refine lv_iconst (v := 1) hx hb dL_about_13 (by decide) ?_
      exact rt_i hx hb hr hlk hK hS (g_p3 : (Nat → Int64)) (ret2 h) hP hD dL_about_14
    replace h := iteF c2 h
    exact nomatch h
  subst hw
  replace h := sumR h
  have hP : va_P D vwCl (cSP a_p1 ++ (cW dT (a_p1 4) g_p1_world ++ (cJ_ dT a_p3 n_p3 g_p3))) H := hP.perm (wj_back [cSP a_p1, cW dT (a_p1 4) g_p1_world] [cJ_ dT a_p3 n_p3 g_p3] [0, 1, 2] rfl)
  have hD : va_D A (cSP a_p1 ++ (cW dT (a_p1 4) g_p1_world ++ (cJ_ dT a_p3 n_p3 g_p3))) := hD.perm (wj_back [cSP a_p1, cW dT (a_p1 4) g_p1_world] [cJ_ dT a_p3 n_p3 g_p3] [0, 1, 2] rfl)
  refine lv_i2l hx hb dL_about_7 rfl ?_
  obtain ⟨g3, h⟩ := chk h
  refine va_last hx hb hK hP hD hS 11 1 rfl rfl (inb_in g3) dL_about_8 (fun H locs hP hD hS => ?_)
  have hP : va_P D vwCl (cSP a_p1 ++ (cW dT (a_p1 4) g_p1_world ++ (cJ_ dT a_p3 n_p3 (vp_updL g_p3 (0 : Int32).toNatClampNeg (Int32.toInt64 r1))))) H := hP
  have hD : va_D A (cSP a_p1 ++ (cW dT (a_p1 4) g_p1_world ++ (cJ_ dT a_p3 n_p3 (vp_updL g_p3 (0 : Int32).toNatClampNeg (Int32.toInt64 r1))))) := hD
  refine lv_goto (tgt := 15) hx hb dL_about_9 (by decide) ?_
  refine lv_iconst (v := 0) hx hb dL_about_15 (by decide) ?_
  exact rt_i hx hb hr hlk hK hS ((vp_updL g_p3 (0 : Int32).toNatClampNeg (Int32.toInt64 r1)) : (Nat → Int64)) (ret2 h) hP hD dL_about_16

def f_L_sum (n_p3 : Nat) (g_p1_world : TW) (g_p3 : Nat → Int64) (v1 : Int32) : Option (Int32 × ((Nat → Int64))) :=
  ((f_X8_sum g_p1_world v1).bind fun o1 => (fun u1 => o1.1.elim (fun k1 => (if k1 = 0 then (some ((1 : Int32), g_p3)) else none)) (fun r1 => (if inb (0 : Int32) n_p3 = true then (some ((0 : Int32), (vp_updL g_p3 (0 : Int32).toNatClampNeg r1))) else none))) o1.2)
set_option maxHeartbeats 8000000 in
set_option maxRecDepth 100000 in
theorem c_L_sum (l : Launch) (hlt : l.stackTraces = false) (D : va_G) (dT : Nat → ClassId) (a_p1 : Nat → Nat → Nat) (a_p3 : Nat) (n_p3 : Nat) (g_p1_world : TW) (g_p3 : Nat → Int64) (v1 : Int32) (o : (Int32 × ((Nat → Int64)))) (h : f_L_sum n_p3 g_p1_world g_p3 v1 = some o) (sz : Nat) : Met l yL_sum (Cond.codeWith yL_sum cL_sum 4 (some .int) [(0, 8, 11, 13)] :: TB) { frames := 8, cells := 1, slots := 6, locals := 133 } (va_Pc [.ref (a_p1 0 0), .int v1, .ref a_p3] (cPre D dT (cSP a_p1 ++ (cW dT (a_p1 4) g_p1_world ++ (cJ_ dT a_p3 n_p3 g_p3))) sz)) (va_Qi (fun (r : Int32) (u : (Nat → Int64)) => r = o.1 ∧ u = o.2) (fun u t => cAt D dT (va_A (cSP a_p1 ++ (cW dT (a_p1 4) g_p1_world ++ (cJ_ dT a_p3 n_p3 g_p3))) sz) (cSP a_p1 ++ (cW dT (a_p1 4) g_p1_world ++ (cJ_ dT a_p3 n_p3 u))) t) (va_A (cSP a_p1 ++ (cW dT (a_p1 4) g_p1_world ++ (cJ_ dT a_p3 n_p3 g_p3))) sz)) 1 6 (va_A (cSP a_p1 ++ (cW dT (a_p1 4) g_p1_world ++ (cJ_ dT a_p3 n_p3 g_p3))) sz) := by
  refine mStartH (WS := (cSP a_p1 ++ (cW dT (a_p1 4) g_p1_world ++ (cJ_ dT a_p3 n_p3 g_p3)))) (Qc := fun A => va_Qi (fun (r : Int32) (u : (Nat → Int64)) => r = o.1 ∧ u = o.2) (fun u t => cAt D dT A (cSP a_p1 ++ (cW dT (a_p1 4) g_p1_world ++ (cJ_ dT a_p3 n_p3 u))) t) A) RL rfl (by decide) (Nat.le_of_ble_eq_true rfl) ?_ sz
  intro p e s m below meth c A ls hx hb hml hr hlk htab hts hqs hown hE hA hK hP hD hS hl
  have hl : lv_has ls 4 [(0, .ref (a_p1 0 0)), (1, .int v1), (2, .ref a_p3)] := hl
  unfold f_L_sum at h
  refine lv_aload_n hx hb dL_sum_0 rfl (lv_at hl 2 rfl) ?_
  refine lv_iconst (v := 0) hx hb dL_sum_1 (by decide) ?_
  refine lv_aload_n hx hb dL_sum_2 rfl (lv_at hl 0 rfl) ?_
  refine lv_iload_n hx hb dL_sum_3 rfl (lv_at hl 1 rfl) ?_
  obtain ⟨o1, e1, h⟩ := obind h
  have hPq : va_P D vwCl ((cSP a_p1 ++ (cW dT (a_p1 4) g_p1_world)) ++ (cJ_ dT a_p3 n_p3 g_p3)) _ := hP.perm (wj_split [cSP a_p1, cW dT (a_p1 4) g_p1_world, cJ_ dT a_p3 n_p3 g_p3] [0, 1] [2] rfl)
  have hDq : va_D A ((cSP a_p1 ++ (cW dT (a_p1 4) g_p1_world)) ++ (cJ_ dT a_p3 n_p3 g_p3)) := hD.perm (wj_split [cSP a_p1, cW dT (a_p1 4) g_p1_world, cJ_ dT a_p3 n_p3 g_p3] [0, 1] [2] rfl)
  have hPc := hPq.left
  have hDc := hDq.left
  have hFc := va_freeL hDq hS hA
  refine xcl_lL (wr := (cJ_ dT a_p3 n_p3 g_p3)) (vx_runV (As := [.int v1]) (rest := [.int (0 : Int32), .ref a_p3]) ⟨hx, hb, hml, hown, hts⟩ (c_X8_sum l hlt D dT a_p1 g_p1_world v1 o1 e1 _) (cwV 1 hts (TB_V w_597 w_598 w_599 w_50 w_600) rfl rfl rfl ⟨rfl, nd_X8_sum⟩ ⟨Nat.le_of_ble_eq_true rfl, Nat.le_of_ble_eq_true rfl⟩) (cPre.V hPc hDc hK hE hS hFc (va_recv hK hPc (ci := 7) (q0 := 0) rfl rfl)) rfl rfl hl.1 rfl (lv_room (Nat.le_of_ble_eq_true rfl)) dL_sum_4 ⟨Nat.le_of_ble_eq_true rfl, Nat.le_of_ble_eq_true rfl⟩) hPq hDq hS hFc (fun k1 u1 E1 ce1 q1 H locs hw hEk hP hD hS hxc hxv hxl => ?_) (fun r1 u1 H locs hw hP hD hS => ?_)
  · have hw := xoP_inv hw
    subst hw
    have hP : va_P D vwCl (cSP a_p1 ++ (cW dT (a_p1 4) g_p1_world ++ (cJ_ dT a_p3 n_p3 g_p3))) H := hP.perm (wj_back [cSP a_p1, cW dT (a_p1 4) g_p1_world] [cJ_ dT a_p3 n_p3 g_p3] [0, 1, 2] rfl)
    have hD : va_D A (cSP a_p1 ++ (cW dT (a_p1 4) g_p1_world ++ (cJ_ dT a_p3 n_p3 g_p3))) := hD.perm (wj_back [cSP a_p1, cW dT (a_p1 4) g_p1_world] [cJ_ dT a_p3 n_p3 g_p3] [0, 1, 2] rfl)
    by_cases c2 : k1 = 0
    · replace h := iteT c2 h
      subst c2
      have hEk : E1 = EXI := hEk
      refine vx_catch (name := EXI) (E := E1) hown [] ⟨0, 8, 11, 13⟩ [] (htab.trans rfl) (fun z hz => absurd hz List.not_mem_nil) rfl (by decide) (hqs _ w_410) (by rw [hEk]; exact va_Nw.use rfl (hE.2.2.1 (EXI, EXI) (by decide +kernel))) hxc hxv hxl ?_
      refine lv_astore_n (lv' := [(3, .ref q1), (0, .ref (a_p1 0 0)), (1, .int v1), (2, .ref a_p3)]) hx hb dL_sum_11 rfl hl (by decide) rfl (fun ls hl => ?_)
      refine lv_iconst (v := 1) hx hb dL_sum_12 (by decide) ?_
      exact rt_i hx hb hr hlk hK hS (g_p3 : (Nat → Int64)) (ret2 h) hP hD dL_sum_13
    replace h := iteF c2 h
    exact nomatch h
  subst hw
  replace h := sumR h
  have hP : va_P D vwCl (cSP a_p1 ++ (cW dT (a_p1 4) g_p1_world ++ (cJ_ dT a_p3 n_p3 g_p3))) H := hP.perm (wj_back [cSP a_p1, cW dT (a_p1 4) g_p1_world] [cJ_ dT a_p3 n_p3 g_p3] [0, 1, 2] rfl)
  have hD : va_D A (cSP a_p1 ++ (cW dT (a_p1 4) g_p1_world ++ (cJ_ dT a_p3 n_p3 g_p3))) := hD.perm (wj_back [cSP a_p1, cW dT (a_p1 4) g_p1_world] [cJ_ dT a_p3 n_p3 g_p3] [0, 1, 2] rfl)
  obtain ⟨g3, h⟩ := chk h
  refine va_last hx hb hK hP hD hS 11 1 rfl rfl (inb_in g3) dL_sum_7 (fun H locs hP hD hS => ?_)
  have hP : va_P D vwCl (cSP a_p1 ++ (cW dT (a_p1 4) g_p1_world ++ (cJ_ dT a_p3 n_p3 (vp_updL g_p3 (0 : Int32).toNatClampNeg r1)))) H := hP
  have hD : va_D A (cSP a_p1 ++ (cW dT (a_p1 4) g_p1_world ++ (cJ_ dT a_p3 n_p3 (vp_updL g_p3 (0 : Int32).toNatClampNeg r1)))) := hD
  refine lv_goto (tgt := 14) hx hb dL_sum_8 (by decide) ?_
  refine lv_iconst (v := 0) hx hb dL_sum_14 (by decide) ?_
  exact rt_i hx hb hr hlk hK hS ((vp_updL g_p3 (0 : Int32).toNatClampNeg r1) : (Nat → Int64)) (ret2 h) hP hD dL_sum_15

def f_L_size (n_p3 : Nat) (g_p1_world : TW) (g_p3 : Nat → Int64) (v1 : Int32) : Option (Int32 × ((Nat → Int64))) :=
  ((f_X8_size g_p1_world v1).bind fun o1 => (fun u1 => o1.1.elim (fun k1 => (if k1 = 2 then (some ((1 : Int32), g_p3)) else none)) (fun r1 => (if inb (0 : Int32) n_p3 = true then (some ((0 : Int32), (vp_updL g_p3 (0 : Int32).toNatClampNeg (Int32.toInt64 r1)))) else none))) o1.2)
set_option maxHeartbeats 8000000 in
set_option maxRecDepth 100000 in
theorem c_L_size (l : Launch) (hlt : l.stackTraces = false) (D : va_G) (dT : Nat → ClassId) (a_p1 : Nat → Nat → Nat) (a_p3 : Nat) (n_p3 : Nat) (g_p1_world : TW) (g_p3 : Nat → Int64) (v1 : Int32) (o : (Int32 × ((Nat → Int64)))) (h : f_L_size n_p3 g_p1_world g_p3 v1 = some o) (sz : Nat) : Met l yL_size (Cond.codeWith yL_size cL_size 4 (some .int) [(0, 9, 12, 31)] :: TB) { frames := 8, cells := 1, slots := 6, locals := 132 } (va_Pc [.ref (a_p1 0 0), .int v1, .ref a_p3] (cPre D dT (cSP a_p1 ++ (cW dT (a_p1 4) g_p1_world ++ (cJ_ dT a_p3 n_p3 g_p3))) sz)) (va_Qi (fun (r : Int32) (u : (Nat → Int64)) => r = o.1 ∧ u = o.2) (fun u t => cAt D dT (va_A (cSP a_p1 ++ (cW dT (a_p1 4) g_p1_world ++ (cJ_ dT a_p3 n_p3 g_p3))) sz) (cSP a_p1 ++ (cW dT (a_p1 4) g_p1_world ++ (cJ_ dT a_p3 n_p3 u))) t) (va_A (cSP a_p1 ++ (cW dT (a_p1 4) g_p1_world ++ (cJ_ dT a_p3 n_p3 g_p3))) sz)) 1 6 (va_A (cSP a_p1 ++ (cW dT (a_p1 4) g_p1_world ++ (cJ_ dT a_p3 n_p3 g_p3))) sz) := by
  refine mStartH (WS := (cSP a_p1 ++ (cW dT (a_p1 4) g_p1_world ++ (cJ_ dT a_p3 n_p3 g_p3)))) (Qc := fun A => va_Qi (fun (r : Int32) (u : (Nat → Int64)) => r = o.1 ∧ u = o.2) (fun u t => cAt D dT A (cSP a_p1 ++ (cW dT (a_p1 4) g_p1_world ++ (cJ_ dT a_p3 n_p3 u))) t) A) RL rfl (by decide) (Nat.le_of_ble_eq_true rfl) ?_ sz
  intro p e s m below meth c A ls hx hb hml hr hlk htab hts hqs hown hE hA hK hP hD hS hl
  have hl : lv_has ls 4 [(0, .ref (a_p1 0 0)), (1, .int v1), (2, .ref a_p3)] := hl
  unfold f_L_size at h
  refine lv_aload_n hx hb dL_size_0 rfl (lv_at hl 2 rfl) ?_
  refine lv_iconst (v := 0) hx hb dL_size_1 (by decide) ?_
  refine lv_aload_n hx hb dL_size_2 rfl (lv_at hl 0 rfl) ?_
  refine lv_iload_n hx hb dL_size_3 rfl (lv_at hl 1 rfl) ?_
  obtain ⟨o1, e1, h⟩ := obind h
  have hPq : va_P D vwCl ((cSP a_p1 ++ (cW dT (a_p1 4) g_p1_world)) ++ (cJ_ dT a_p3 n_p3 g_p3)) _ := hP.perm (wj_split [cSP a_p1, cW dT (a_p1 4) g_p1_world, cJ_ dT a_p3 n_p3 g_p3] [0, 1] [2] rfl)
  have hDq : va_D A ((cSP a_p1 ++ (cW dT (a_p1 4) g_p1_world)) ++ (cJ_ dT a_p3 n_p3 g_p3)) := hD.perm (wj_split [cSP a_p1, cW dT (a_p1 4) g_p1_world, cJ_ dT a_p3 n_p3 g_p3] [0, 1] [2] rfl)
  have hPc := hPq.left
  have hDc := hDq.left
  have hFc := va_freeL hDq hS hA
  refine xcl_iL (wr := (cJ_ dT a_p3 n_p3 g_p3)) (vx_runV (As := [.int v1]) (rest := [.int (0 : Int32), .ref a_p3]) ⟨hx, hb, hml, hown, hts⟩ (c_X8_size l hlt D dT a_p1 g_p1_world v1 o1 e1 _) (cwV 1 hts (TB_V w_609 w_610 w_611 w_50 w_612) rfl rfl rfl ⟨rfl, nd_X8_size⟩ ⟨Nat.le_of_ble_eq_true rfl, Nat.le_of_ble_eq_true rfl⟩) (cPre.V hPc hDc hK hE hS hFc (va_recv hK hPc (ci := 7) (q0 := 0) rfl rfl)) rfl rfl hl.1 rfl (lv_room (Nat.le_of_ble_eq_true rfl)) dL_size_4 ⟨Nat.le_of_ble_eq_true rfl, Nat.le_of_ble_eq_true rfl⟩) hPq hDq hS hFc (fun k1 u1 E1 ce1 q1 H locs hw hEk hP hD hS hxc hxv hxl => ?_) (fun r1 u1 H locs hw hP hD hS => ?_)
  · have hw := xoP_inv hw
    subst hw
    have hP : va_P D vwCl (cSP a_p1 ++ (cW dT (a_p1 4) g_p1_world ++ (cJ_ dT a_p3 n_p3 g_p3))) H := hP.perm (wj_back [cSP a_p1, cW dT (a_p1 4) g_p1_world] [cJ_ dT a_p3 n_p3 g_p3] [0, 1, 2] rfl)
    have hD : va_D A (cSP a_p1 ++ (cW dT (a_p1 4) g_p1_world ++ (cJ_ dT a_p3 n_p3 g_p3))) := hD.perm (wj_back [cSP a_p1, cW dT (a_p1 4) g_p1_world] [cJ_ dT a_p3 n_p3 g_p3] [0, 1, 2] rfl)
    by_cases c2 : k1 = 2
    · replace h := iteT c2 h
      subst c2
      have hEk : E1 = EXB := hEk
      refine vx_catch (name := EXB) (E := E1) hown [] ⟨0, 9, 12, 31⟩ [] (htab.trans rfl) (fun z hz => absurd hz List.not_mem_nil) rfl (by decide) (hqs _ w_608) (by rw [hEk]; exact va_Nw.use rfl (hE.2.2.1 (EXB, EXB) (by decide +kernel))) hxc hxv hxl ?_
      refine lv_astore_n (lv' := [(3, .ref q1), (0, .ref (a_p1 0 0)), (1, .int v1), (2, .ref a_p3)]) hx hb dL_size_12 rfl hl (by decide) rfl (fun ls hl => ?_)
      refine lv_iconst (v := 1) hx hb dL_size_13 (by decide) ?_
      exact rt_i hx hb hr hlk hK hS (g_p3 : (Nat → Int64)) (ret2 h) hP hD dL_size_14
    replace h := iteF c2 h
    exact nomatch h
  subst hw
  replace h := sumR h
  have hP : va_P D vwCl (cSP a_p1 ++ (cW dT (a_p1 4) g_p1_world ++ (cJ_ dT a_p3 n_p3 g_p3))) H := hP.perm (wj_back [cSP a_p1, cW dT (a_p1 4) g_p1_world] [cJ_ dT a_p3 n_p3 g_p3] [0, 1, 2] rfl)
  have hD : va_D A (cSP a_p1 ++ (cW dT (a_p1 4) g_p1_world ++ (cJ_ dT a_p3 n_p3 g_p3))) := hD.perm (wj_back [cSP a_p1, cW dT (a_p1 4) g_p1_world] [cJ_ dT a_p3 n_p3 g_p3] [0, 1, 2] rfl)
  refine lv_i2l hx hb dL_size_7 rfl ?_
  obtain ⟨g3, h⟩ := chk h
  refine va_last hx hb hK hP hD hS 11 1 rfl rfl (inb_in g3) dL_size_8 (fun H locs hP hD hS => ?_)
  have hP : va_P D vwCl (cSP a_p1 ++ (cW dT (a_p1 4) g_p1_world ++ (cJ_ dT a_p3 n_p3 (vp_updL g_p3 (0 : Int32).toNatClampNeg (Int32.toInt64 r1))))) H := hP
  have hD : va_D A (cSP a_p1 ++ (cW dT (a_p1 4) g_p1_world ++ (cJ_ dT a_p3 n_p3 (vp_updL g_p3 (0 : Int32).toNatClampNeg (Int32.toInt64 r1))))) := hD
  refine lv_goto (tgt := 15) hx hb dL_size_9 (by decide) ?_
  refine lv_iconst (v := 0) hx hb dL_size_15 (by decide) ?_
  exact rt_i hx hb hr hlk hK hS ((vp_updL g_p3 (0 : Int32).toNatClampNeg (Int32.toInt64 r1)) : (Nat → Int64)) (ret2 h) hP hD dL_size_16

def f_L_pair (n_p5 : Nat) (g_p1_world : TW) (g_p5 : Nat → Int64) (v1 : Int32) (v2 : Int32) (v3 : Int32) : Option (Int32 × ((Nat → Int64))) :=
  ((f_X8_pair g_p1_world v1 v2 v3).bind fun o1 => (fun u1 => o1.1.elim (fun k1 => (if k1 = 2 then (some ((1 : Int32), g_p5)) else (if k1 = 0 then (some ((2 : Int32), g_p5)) else none))) (fun r1 => (if inb (0 : Int32) n_p5 = true then (some ((0 : Int32), (vp_updL g_p5 (0 : Int32).toNatClampNeg (Int32.toInt64 r1)))) else none))) o1.2)
set_option maxHeartbeats 8000000 in
set_option maxRecDepth 100000 in
theorem c_L_pair (l : Launch) (hlt : l.stackTraces = false) (D : va_G) (dT : Nat → ClassId) (a_p1 : Nat → Nat → Nat) (a_p5 : Nat) (n_p5 : Nat) (g_p1_world : TW) (g_p5 : Nat → Int64) (v1 : Int32) (v2 : Int32) (v3 : Int32) (o : (Int32 × ((Nat → Int64)))) (h : f_L_pair n_p5 g_p1_world g_p5 v1 v2 v3 = some o) (sz : Nat) : Met l yL_pair (Cond.codeWith yL_pair cL_pair 6 (some .int) [(0, 12, 15, 31), (0, 12, 19, 13)] :: TB) { frames := 9, cells := 4, slots := 24, locals := 156 } (va_Pc [.ref (a_p1 0 0), .int v1, .int v2, .int v3, .ref a_p5] (cPre D dT (cSP a_p1 ++ (cW dT (a_p1 4) g_p1_world ++ (cJ_ dT a_p5 n_p5 g_p5))) sz)) (va_Qi (fun (r : Int32) (u : (Nat → Int64)) => r = o.1 ∧ u = o.2) (fun u t => cAt D dT (va_A (cSP a_p1 ++ (cW dT (a_p1 4) g_p1_world ++ (cJ_ dT a_p5 n_p5 g_p5))) sz) (cSP a_p1 ++ (cW dT (a_p1 4) g_p1_world ++ (cJ_ dT a_p5 n_p5 u))) t) (va_A (cSP a_p1 ++ (cW dT (a_p1 4) g_p1_world ++ (cJ_ dT a_p5 n_p5 g_p5))) sz)) 4 24 (va_A (cSP a_p1 ++ (cW dT (a_p1 4) g_p1_world ++ (cJ_ dT a_p5 n_p5 g_p5))) sz) := by
  refine mStartH (WS := (cSP a_p1 ++ (cW dT (a_p1 4) g_p1_world ++ (cJ_ dT a_p5 n_p5 g_p5)))) (Qc := fun A => va_Qi (fun (r : Int32) (u : (Nat → Int64)) => r = o.1 ∧ u = o.2) (fun u t => cAt D dT A (cSP a_p1 ++ (cW dT (a_p1 4) g_p1_world ++ (cJ_ dT a_p5 n_p5 u))) t) A) RL rfl (by decide) (Nat.le_of_ble_eq_true rfl) ?_ sz
  intro p e s m below meth c A ls hx hb hml hr hlk htab hts hqs hown hE hA hK hP hD hS hl
  have hl : lv_has ls 6 [(0, .ref (a_p1 0 0)), (1, .int v1), (2, .int v2), (3, .int v3), (4, .ref a_p5)] := hl
  unfold f_L_pair at h
  refine lv_aload hx hb dL_pair_0 (lv_at hl 4 rfl) ?_
  refine lv_iconst (v := 0) hx hb dL_pair_2 (by decide) ?_
  refine lv_aload_n hx hb dL_pair_3 rfl (lv_at hl 0 rfl) ?_
  refine lv_iload_n hx hb dL_pair_4 rfl (lv_at hl 1 rfl) ?_
  refine lv_iload_n hx hb dL_pair_5 rfl (lv_at hl 2 rfl) ?_
  refine lv_iload_n hx hb dL_pair_6 rfl (lv_at hl 3 rfl) ?_
  obtain ⟨o1, e1, h⟩ := obind h
  have hPq : va_P D vwCl ((cSP a_p1 ++ (cW dT (a_p1 4) g_p1_world)) ++ (cJ_ dT a_p5 n_p5 g_p5)) _ := hP.perm (wj_split [cSP a_p1, cW dT (a_p1 4) g_p1_world, cJ_ dT a_p5 n_p5 g_p5] [0, 1] [2] rfl)
  have hDq : va_D A ((cSP a_p1 ++ (cW dT (a_p1 4) g_p1_world)) ++ (cJ_ dT a_p5 n_p5 g_p5)) := hD.perm (wj_split [cSP a_p1, cW dT (a_p1 4) g_p1_world, cJ_ dT a_p5 n_p5 g_p5] [0, 1] [2] rfl)
  have hPc := hPq.left
  have hDc := hDq.left
  have hFc := va_freeL hDq hS hA
  refine xcl_iL (wr := (cJ_ dT a_p5 n_p5 g_p5)) (vx_runV (As := [.int v1, .int v2, .int v3]) (rest := [.int (0 : Int32), .ref a_p5]) ⟨hx, hb, hml, hown, hts⟩ (c_X8_pair l hlt D dT a_p1 g_p1_world v1 v2 v3 o1 e1 _) (cwV 3 hts (TB_V w_641 w_642 w_643 w_50 w_644) rfl rfl rfl ⟨rfl, nd_X8_pair⟩ ⟨Nat.le_of_ble_eq_true rfl, Nat.le_of_ble_eq_true rfl⟩) (cPre.V hPc hDc hK hE hS hFc (va_recv hK hPc (ci := 7) (q0 := 0) rfl rfl)) rfl rfl hl.1 rfl (lv_room (Nat.le_of_ble_eq_true rfl)) dL_pair_7 ⟨Nat.le_of_ble_eq_true rfl, Nat.le_of_ble_eq_true rfl⟩) hPq hDq hS hFc (fun k1 u1 E1 ce1 q1 H locs hw hEk hP hD hS hxc hxv hxl => ?_) (fun r1 u1 H locs hw hP hD hS => ?_)
  · have hw := xoP_inv hw
    subst hw
    have hP : va_P D vwCl (cSP a_p1 ++ (cW dT (a_p1 4) g_p1_world ++ (cJ_ dT a_p5 n_p5 g_p5))) H := hP.perm (wj_back [cSP a_p1, cW dT (a_p1 4) g_p1_world] [cJ_ dT a_p5 n_p5 g_p5] [0, 1, 2] rfl)
    have hD : va_D A (cSP a_p1 ++ (cW dT (a_p1 4) g_p1_world ++ (cJ_ dT a_p5 n_p5 g_p5))) := hD.perm (wj_back [cSP a_p1, cW dT (a_p1 4) g_p1_world] [cJ_ dT a_p5 n_p5 g_p5] [0, 1, 2] rfl)
    by_cases c2 : k1 = 2
    · replace h := iteT c2 h
      subst c2
      have hEk : E1 = EXB := hEk
      refine vx_catch (name := EXB) (E := E1) hown [] ⟨0, 12, 15, 31⟩ [⟨0, 12, 19, 13⟩] (htab.trans rfl) (fun z hz => absurd hz List.not_mem_nil) rfl (by decide) (hqs _ w_608) (by rw [hEk]; exact va_Nw.use rfl (hE.2.2.1 (EXB, EXB) (by decide +kernel))) hxc hxv hxl ?_
      refine lv_astore (lv' := [(5, .ref q1), (0, .ref (a_p1 0 0)), (1, .int v1), (2, .int v2), (3, .int v3), (4, .ref a_p5)]) hx hb dL_pair_15 hl (by decide) rfl (fun ls hl => ?_)
      refine lv_iconst (v := 1) hx hb dL_pair_17 (by decide) ?_
      exact rt_i hx hb hr hlk hK hS (g_p5 : (Nat → Int64)) (ret2 h) hP hD dL_pair_18
    replace h := iteF c2 h
    by_cases c3 : k1 = 0
    · replace h := iteT c3 h
      subst c3
      have hEk : E1 = EXI := hEk
      refine vx_catch (name := EXI) (E := E1) hown [(⟨0, 12, 15, 31⟩ : ExceptionTableEntry)] ⟨0, 12, 19, 13⟩ [] (htab.trans rfl) (fun z hz => by
      simp only [List.mem_cons, List.not_mem_nil, or_false] at hz
      rcases hz with rfl
      · exact Or.inr ⟨by decide, EXB, hqs _ w_608, by rw [hEk]; exact hE.2.2.2.1 (EXI, EXB) (by decide +kernel)⟩) rfl (by decide) (hqs _ w_410) (by rw [hEk]; exact va_Nw.use rfl (hE.2.2.1 (EXI, EXI) (by decide +kernel))) hxc hxv hxl ?_
      refine lv_astore (lv' := [(5, .ref q1), (0, .ref (a_p1 0 0)), (1, .int v1), (2, .int v2), (3, .int v3), (4, .ref a_p5)]) hx hb dL_pair_19 hl (by decide) rfl (fun ls hl => ?_)
      refine lv_iconst (v := 2) hx hb dL_pair_21 (by decide) ?_
      exact rt_i hx hb hr hlk hK hS (g_p5 : (Nat → Int64)) (ret2 h) hP hD dL_pair_22
    replace h := iteF c3 h
    exact nomatch h
  subst hw
  replace h := sumR h
  have hP : va_P D vwCl (cSP a_p1 ++ (cW dT (a_p1 4) g_p1_world ++ (cJ_ dT a_p5 n_p5 g_p5))) H := hP.perm (wj_back [cSP a_p1, cW dT (a_p1 4) g_p1_world] [cJ_ dT a_p5 n_p5 g_p5] [0, 1, 2] rfl)
  have hD : va_D A (cSP a_p1 ++ (cW dT (a_p1 4) g_p1_world ++ (cJ_ dT a_p5 n_p5 g_p5))) := hD.perm (wj_back [cSP a_p1, cW dT (a_p1 4) g_p1_world] [cJ_ dT a_p5 n_p5 g_p5] [0, 1, 2] rfl)
  refine lv_i2l hx hb dL_pair_10 rfl ?_
  obtain ⟨g4, h⟩ := chk h
  refine va_last hx hb hK hP hD hS 11 1 rfl rfl (inb_in g4) dL_pair_11 (fun H locs hP hD hS => ?_)
  have hP : va_P D vwCl (cSP a_p1 ++ (cW dT (a_p1 4) g_p1_world ++ (cJ_ dT a_p5 n_p5 (vp_updL g_p5 (0 : Int32).toNatClampNeg (Int32.toInt64 r1))))) H := hP
  have hD : va_D A (cSP a_p1 ++ (cW dT (a_p1 4) g_p1_world ++ (cJ_ dT a_p5 n_p5 (vp_updL g_p5 (0 : Int32).toNatClampNeg (Int32.toInt64 r1))))) := hD
  refine lv_goto (tgt := 23) hx hb dL_pair_12 (by decide) ?_
  refine lv_iconst (v := 0) hx hb dL_pair_23 (by decide) ?_
  exact rt_i hx hb hr hlk hK hS ((vp_updL g_p5 (0 : Int32).toNatClampNeg (Int32.toInt64 r1)) : (Nat → Int64)) (ret2 h) hP hD dL_pair_24

def f_L_surprise (n_p4 : Nat) (g_p1_world : TW) (g_p4 : Nat → Int64) (v1 : Int32) (v2 : Int32) : Option (Int32 × ((Nat → Int64))) :=
  ((f_X8_surprise g_p1_world v1 v2).bind fun o1 => (fun u1 => o1.1.elim (fun k1 => (if k1 = 0 then (some ((1 : Int32), g_p4)) else none)) (fun r1 => (if inb (0 : Int32) n_p4 = true then (some ((0 : Int32), (vp_updL g_p4 (0 : Int32).toNatClampNeg (Int32.toInt64 r1)))) else none))) o1.2)
set_option maxHeartbeats 8000000 in
set_option maxRecDepth 100000 in
theorem c_L_surprise (l : Launch) (hlt : l.stackTraces = false) (D : va_G) (dT : Nat → ClassId) (a_p1 : Nat → Nat → Nat) (a_p4 : Nat) (n_p4 : Nat) (g_p1_world : TW) (g_p4 : Nat → Int64) (v1 : Int32) (v2 : Int32) (o : (Int32 × ((Nat → Int64)))) (h : f_L_surprise n_p4 g_p1_world g_p4 v1 v2 = some o) (sz : Nat) : Met l yL_surprise (Cond.codeWith yL_surprise cL_surprise 5 (some .int) [(0, 10, 13, 13)] :: TB) { frames := 8, cells := 2, slots := 12, locals := 134 } (va_Pc [.ref (a_p1 0 0), .int v1, .int v2, .ref a_p4] (cPre D dT (cSP a_p1 ++ (cW dT (a_p1 4) g_p1_world ++ (cJ_ dT a_p4 n_p4 g_p4))) sz)) (va_Qi (fun (r : Int32) (u : (Nat → Int64)) => r = o.1 ∧ u = o.2) (fun u t => cAt D dT (va_A (cSP a_p1 ++ (cW dT (a_p1 4) g_p1_world ++ (cJ_ dT a_p4 n_p4 g_p4))) sz) (cSP a_p1 ++ (cW dT (a_p1 4) g_p1_world ++ (cJ_ dT a_p4 n_p4 u))) t) (va_A (cSP a_p1 ++ (cW dT (a_p1 4) g_p1_world ++ (cJ_ dT a_p4 n_p4 g_p4))) sz)) 2 12 (va_A (cSP a_p1 ++ (cW dT (a_p1 4) g_p1_world ++ (cJ_ dT a_p4 n_p4 g_p4))) sz) := by
  refine mStartH (WS := (cSP a_p1 ++ (cW dT (a_p1 4) g_p1_world ++ (cJ_ dT a_p4 n_p4 g_p4)))) (Qc := fun A => va_Qi (fun (r : Int32) (u : (Nat → Int64)) => r = o.1 ∧ u = o.2) (fun u t => cAt D dT A (cSP a_p1 ++ (cW dT (a_p1 4) g_p1_world ++ (cJ_ dT a_p4 n_p4 u))) t) A) RL rfl (by decide) (Nat.le_of_ble_eq_true rfl) ?_ sz
  intro p e s m below meth c A ls hx hb hml hr hlk htab hts hqs hown hE hA hK hP hD hS hl
  have hl : lv_has ls 5 [(0, .ref (a_p1 0 0)), (1, .int v1), (2, .int v2), (3, .ref a_p4)] := hl
  unfold f_L_surprise at h
  refine lv_aload_n hx hb dL_surprise_0 rfl (lv_at hl 3 rfl) ?_
  refine lv_iconst (v := 0) hx hb dL_surprise_1 (by decide) ?_
  refine lv_aload_n hx hb dL_surprise_2 rfl (lv_at hl 0 rfl) ?_
  refine lv_iload_n hx hb dL_surprise_3 rfl (lv_at hl 1 rfl) ?_
  refine lv_iload_n hx hb dL_surprise_4 rfl (lv_at hl 2 rfl) ?_
  obtain ⟨o1, e1, h⟩ := obind h
  have hPq : va_P D vwCl ((cSP a_p1 ++ (cW dT (a_p1 4) g_p1_world)) ++ (cJ_ dT a_p4 n_p4 g_p4)) _ := hP.perm (wj_split [cSP a_p1, cW dT (a_p1 4) g_p1_world, cJ_ dT a_p4 n_p4 g_p4] [0, 1] [2] rfl)
  have hDq : va_D A ((cSP a_p1 ++ (cW dT (a_p1 4) g_p1_world)) ++ (cJ_ dT a_p4 n_p4 g_p4)) := hD.perm (wj_split [cSP a_p1, cW dT (a_p1 4) g_p1_world, cJ_ dT a_p4 n_p4 g_p4] [0, 1] [2] rfl)
  have hPc := hPq.left
  have hDc := hDq.left
  have hFc := va_freeL hDq hS hA
  refine xcl_iL (wr := (cJ_ dT a_p4 n_p4 g_p4)) (vx_runV (As := [.int v1, .int v2]) (rest := [.int (0 : Int32), .ref a_p4]) ⟨hx, hb, hml, hown, hts⟩ (c_X8_surprise l hlt D dT a_p1 g_p1_world v1 v2 o1 e1 _) (cwV 2 hts (TB_V w_661 w_662 w_663 w_50 w_664) rfl rfl rfl ⟨rfl, nd_X8_surprise⟩ ⟨Nat.le_of_ble_eq_true rfl, Nat.le_of_ble_eq_true rfl⟩) (cPre.V hPc hDc hK hE hS hFc (va_recv hK hPc (ci := 7) (q0 := 0) rfl rfl)) rfl rfl hl.1 rfl (lv_room (Nat.le_of_ble_eq_true rfl)) dL_surprise_5 ⟨Nat.le_of_ble_eq_true rfl, Nat.le_of_ble_eq_true rfl⟩) hPq hDq hS hFc (fun k1 u1 E1 ce1 q1 H locs hw hEk hP hD hS hxc hxv hxl => ?_) (fun r1 u1 H locs hw hP hD hS => ?_)
  · have hw := xoP_inv hw
    subst hw
    have hP : va_P D vwCl (cSP a_p1 ++ (cW dT (a_p1 4) g_p1_world ++ (cJ_ dT a_p4 n_p4 g_p4))) H := hP.perm (wj_back [cSP a_p1, cW dT (a_p1 4) g_p1_world] [cJ_ dT a_p4 n_p4 g_p4] [0, 1, 2] rfl)
    have hD : va_D A (cSP a_p1 ++ (cW dT (a_p1 4) g_p1_world ++ (cJ_ dT a_p4 n_p4 g_p4))) := hD.perm (wj_back [cSP a_p1, cW dT (a_p1 4) g_p1_world] [cJ_ dT a_p4 n_p4 g_p4] [0, 1, 2] rfl)
    by_cases c2 : k1 = 0
    · replace h := iteT c2 h
      subst c2
      have hEk : E1 = EXI := hEk
      refine vx_catch (name := EXI) (E := E1) hown [] ⟨0, 10, 13, 13⟩ [] (htab.trans rfl) (fun z hz => absurd hz List.not_mem_nil) rfl (by decide) (hqs _ w_410) (by rw [hEk]; exact va_Nw.use rfl (hE.2.2.1 (EXI, EXI) (by decide +kernel))) hxc hxv hxl ?_
      refine lv_astore (lv' := [(4, .ref q1), (0, .ref (a_p1 0 0)), (1, .int v1), (2, .int v2), (3, .ref a_p4)]) hx hb dL_surprise_13 hl (by decide) rfl (fun ls hl => ?_)
      refine lv_iconst (v := 1) hx hb dL_surprise_15 (by decide) ?_
      exact rt_i hx hb hr hlk hK hS (g_p4 : (Nat → Int64)) (ret2 h) hP hD dL_surprise_16
    replace h := iteF c2 h
    exact nomatch h
  subst hw
  replace h := sumR h
  have hP : va_P D vwCl (cSP a_p1 ++ (cW dT (a_p1 4) g_p1_world ++ (cJ_ dT a_p4 n_p4 g_p4))) H := hP.perm (wj_back [cSP a_p1, cW dT (a_p1 4) g_p1_world] [cJ_ dT a_p4 n_p4 g_p4] [0, 1, 2] rfl)
  have hD : va_D A (cSP a_p1 ++ (cW dT (a_p1 4) g_p1_world ++ (cJ_ dT a_p4 n_p4 g_p4))) := hD.perm (wj_back [cSP a_p1, cW dT (a_p1 4) g_p1_world] [cJ_ dT a_p4 n_p4 g_p4] [0, 1, 2] rfl)
  refine lv_i2l hx hb dL_surprise_8 rfl ?_
  obtain ⟨g3, h⟩ := chk h
  refine va_last hx hb hK hP hD hS 11 1 rfl rfl (inb_in g3) dL_surprise_9 (fun H locs hP hD hS => ?_)
  have hP : va_P D vwCl (cSP a_p1 ++ (cW dT (a_p1 4) g_p1_world ++ (cJ_ dT a_p4 n_p4 (vp_updL g_p4 (0 : Int32).toNatClampNeg (Int32.toInt64 r1))))) H := hP
  have hD : va_D A (cSP a_p1 ++ (cW dT (a_p1 4) g_p1_world ++ (cJ_ dT a_p4 n_p4 (vp_updL g_p4 (0 : Int32).toNatClampNeg (Int32.toInt64 r1))))) := hD
  refine lv_goto (tgt := 17) hx hb dL_surprise_10 (by decide) ?_
  refine lv_iconst (v := 0) hx hb dL_surprise_17 (by decide) ?_
  exact rt_i hx hb hr hlk hK hS ((vp_updL g_p4 (0 : Int32).toNatClampNeg (Int32.toInt64 r1)) : (Nat → Int64)) (ret2 h) hP hD dL_surprise_18

def f_L_setting (n_p3 : Nat) (g_p1_world : TW) (g_p3 : Nat → Int64) (v1 : Int32) : Option (Int32 × ((Nat → Int64))) :=
  ((f_X8_setting g_p1_world v1).bind fun o1 => (fun u1 => o1.1.elim (fun k1 => (if k1 = 0 then (some ((1 : Int32), g_p3)) else none)) (fun r1 => (if inb (0 : Int32) n_p3 = true then (some ((0 : Int32), (vp_updL g_p3 (0 : Int32).toNatClampNeg (Int32.toInt64 r1)))) else none))) o1.2)
set_option maxHeartbeats 8000000 in
set_option maxRecDepth 100000 in
theorem c_L_setting (l : Launch) (hlt : l.stackTraces = false) (D : va_G) (dT : Nat → ClassId) (a_p1 : Nat → Nat → Nat) (a_p3 : Nat) (n_p3 : Nat) (g_p1_world : TW) (g_p3 : Nat → Int64) (v1 : Int32) (o : (Int32 × ((Nat → Int64)))) (h : f_L_setting n_p3 g_p1_world g_p3 v1 = some o) (sz : Nat) : Met l yL_setting (Cond.codeWith yL_setting cL_setting 4 (some .int) [(0, 9, 12, 13)] :: TB) { frames := 8, cells := 1, slots := 6, locals := 133 } (va_Pc [.ref (a_p1 0 0), .int v1, .ref a_p3] (cPre D dT (cSP a_p1 ++ (cW dT (a_p1 4) g_p1_world ++ (cJ_ dT a_p3 n_p3 g_p3))) sz)) (va_Qi (fun (r : Int32) (u : (Nat → Int64)) => r = o.1 ∧ u = o.2) (fun u t => cAt D dT (va_A (cSP a_p1 ++ (cW dT (a_p1 4) g_p1_world ++ (cJ_ dT a_p3 n_p3 g_p3))) sz) (cSP a_p1 ++ (cW dT (a_p1 4) g_p1_world ++ (cJ_ dT a_p3 n_p3 u))) t) (va_A (cSP a_p1 ++ (cW dT (a_p1 4) g_p1_world ++ (cJ_ dT a_p3 n_p3 g_p3))) sz)) 1 6 (va_A (cSP a_p1 ++ (cW dT (a_p1 4) g_p1_world ++ (cJ_ dT a_p3 n_p3 g_p3))) sz) := by
  refine mStartH (WS := (cSP a_p1 ++ (cW dT (a_p1 4) g_p1_world ++ (cJ_ dT a_p3 n_p3 g_p3)))) (Qc := fun A => va_Qi (fun (r : Int32) (u : (Nat → Int64)) => r = o.1 ∧ u = o.2) (fun u t => cAt D dT A (cSP a_p1 ++ (cW dT (a_p1 4) g_p1_world ++ (cJ_ dT a_p3 n_p3 u))) t) A) RL rfl (by decide) (Nat.le_of_ble_eq_true rfl) ?_ sz
  intro p e s m below meth c A ls hx hb hml hr hlk htab hts hqs hown hE hA hK hP hD hS hl
  have hl : lv_has ls 4 [(0, .ref (a_p1 0 0)), (1, .int v1), (2, .ref a_p3)] := hl
  unfold f_L_setting at h
  refine lv_aload_n hx hb dL_setting_0 rfl (lv_at hl 2 rfl) ?_
  refine lv_iconst (v := 0) hx hb dL_setting_1 (by decide) ?_
  refine lv_aload_n hx hb dL_setting_2 rfl (lv_at hl 0 rfl) ?_
  refine lv_iload_n hx hb dL_setting_3 rfl (lv_at hl 1 rfl) ?_
  obtain ⟨o1, e1, h⟩ := obind h
  have hPq : va_P D vwCl ((cSP a_p1 ++ (cW dT (a_p1 4) g_p1_world)) ++ (cJ_ dT a_p3 n_p3 g_p3)) _ := hP.perm (wj_split [cSP a_p1, cW dT (a_p1 4) g_p1_world, cJ_ dT a_p3 n_p3 g_p3] [0, 1] [2] rfl)
  have hDq : va_D A ((cSP a_p1 ++ (cW dT (a_p1 4) g_p1_world)) ++ (cJ_ dT a_p3 n_p3 g_p3)) := hD.perm (wj_split [cSP a_p1, cW dT (a_p1 4) g_p1_world, cJ_ dT a_p3 n_p3 g_p3] [0, 1] [2] rfl)
  have hPc := hPq.left
  have hDc := hDq.left
  have hFc := va_freeL hDq hS hA
  refine xcl_iL (wr := (cJ_ dT a_p3 n_p3 g_p3)) (vx_runV (As := [.int v1]) (rest := [.int (0 : Int32), .ref a_p3]) ⟨hx, hb, hml, hown, hts⟩ (c_X8_setting l hlt D dT a_p1 g_p1_world v1 o1 e1 _) (cwV 1 hts (TB_V w_672 w_673 w_674 w_50 w_675) rfl rfl rfl ⟨rfl, nd_X8_setting⟩ ⟨Nat.le_of_ble_eq_true rfl, Nat.le_of_ble_eq_true rfl⟩) (cPre.V hPc hDc hK hE hS hFc (va_recv hK hPc (ci := 7) (q0 := 0) rfl rfl)) rfl rfl hl.1 rfl (lv_room (Nat.le_of_ble_eq_true rfl)) dL_setting_4 ⟨Nat.le_of_ble_eq_true rfl, Nat.le_of_ble_eq_true rfl⟩) hPq hDq hS hFc (fun k1 u1 E1 ce1 q1 H locs hw hEk hP hD hS hxc hxv hxl => ?_) (fun r1 u1 H locs hw hP hD hS => ?_)
  · have hw := xoP_inv hw
    subst hw
    have hP : va_P D vwCl (cSP a_p1 ++ (cW dT (a_p1 4) g_p1_world ++ (cJ_ dT a_p3 n_p3 g_p3))) H := hP.perm (wj_back [cSP a_p1, cW dT (a_p1 4) g_p1_world] [cJ_ dT a_p3 n_p3 g_p3] [0, 1, 2] rfl)
    have hD : va_D A (cSP a_p1 ++ (cW dT (a_p1 4) g_p1_world ++ (cJ_ dT a_p3 n_p3 g_p3))) := hD.perm (wj_back [cSP a_p1, cW dT (a_p1 4) g_p1_world] [cJ_ dT a_p3 n_p3 g_p3] [0, 1, 2] rfl)
    by_cases c2 : k1 = 0
    · replace h := iteT c2 h
      subst c2
      have hEk : E1 = EXI := hEk
      refine vx_catch (name := EXI) (E := E1) hown [] ⟨0, 9, 12, 13⟩ [] (htab.trans rfl) (fun z hz => absurd hz List.not_mem_nil) rfl (by decide) (hqs _ w_410) (by rw [hEk]; exact va_Nw.use rfl (hE.2.2.1 (EXI, EXI) (by decide +kernel))) hxc hxv hxl ?_
      refine lv_astore_n (lv' := [(3, .ref q1), (0, .ref (a_p1 0 0)), (1, .int v1), (2, .ref a_p3)]) hx hb dL_setting_12 rfl hl (by decide) rfl (fun ls hl => ?_)
      refine lv_iconst (v := 1) hx hb dL_setting_13 (by decide) ?_
      exact rt_i hx hb hr hlk hK hS (g_p3 : (Nat → Int64)) (ret2 h) hP hD dL_setting_14
    replace h := iteF c2 h
    exact nomatch h
  subst hw
  replace h := sumR h
  have hP : va_P D vwCl (cSP a_p1 ++ (cW dT (a_p1 4) g_p1_world ++ (cJ_ dT a_p3 n_p3 g_p3))) H := hP.perm (wj_back [cSP a_p1, cW dT (a_p1 4) g_p1_world] [cJ_ dT a_p3 n_p3 g_p3] [0, 1, 2] rfl)
  have hD : va_D A (cSP a_p1 ++ (cW dT (a_p1 4) g_p1_world ++ (cJ_ dT a_p3 n_p3 g_p3))) := hD.perm (wj_back [cSP a_p1, cW dT (a_p1 4) g_p1_world] [cJ_ dT a_p3 n_p3 g_p3] [0, 1, 2] rfl)
  refine lv_i2l hx hb dL_setting_7 rfl ?_
  obtain ⟨g3, h⟩ := chk h
  refine va_last hx hb hK hP hD hS 11 1 rfl rfl (inb_in g3) dL_setting_8 (fun H locs hP hD hS => ?_)
  have hP : va_P D vwCl (cSP a_p1 ++ (cW dT (a_p1 4) g_p1_world ++ (cJ_ dT a_p3 n_p3 (vp_updL g_p3 (0 : Int32).toNatClampNeg (Int32.toInt64 r1))))) H := hP
  have hD : va_D A (cSP a_p1 ++ (cW dT (a_p1 4) g_p1_world ++ (cJ_ dT a_p3 n_p3 (vp_updL g_p3 (0 : Int32).toNatClampNeg (Int32.toInt64 r1))))) := hD
  refine lv_goto (tgt := 15) hx hb dL_setting_9 (by decide) ?_
  refine lv_iconst (v := 0) hx hb dL_setting_15 (by decide) ?_
  exact rt_i hx hb hr hlk hK hS ((vp_updL g_p3 (0 : Int32).toNatClampNeg (Int32.toInt64 r1)) : (Nat → Int64)) (ret2 h) hP hD dL_setting_16

def f_L_add (n_p3 : Nat) (g_p1_world : TW) (g_p1_history : TH) (g_p3 : Nat → Int64) (v1 : Int32) : Option (Int32 × (TW × TH × (Nat → Int64))) :=
  ((f_X8_add g_p1_world g_p1_history v1).bind fun o1 => (fun u1 => o1.1.elim (fun k1 => (if k1 = 0 then (some ((1 : Int32), (u1.1, u1.2, g_p3))) else (if k1 = 1 then (some ((2 : Int32), (u1.1, u1.2, g_p3))) else none))) (fun r1 => (if inb (0 : Int32) n_p3 = true then (some ((0 : Int32), (u1.1, u1.2, (vp_updL g_p3 (0 : Int32).toNatClampNeg (Int32.toInt64 r1))))) else none))) o1.2)
set_option maxHeartbeats 8000000 in
set_option maxRecDepth 100000 in
theorem c_L_add (l : Launch) (hlt : l.stackTraces = false) (D : va_G) (dT : Nat → ClassId) (a_p1 : Nat → Nat → Nat) (a_p3 : Nat) (n_p3 : Nat) (g_p1_world : TW) (g_p1_history : TH) (g_p3 : Nat → Int64) (v1 : Int32) (o : (Int32 × (TW × TH × (Nat → Int64)))) (h : f_L_add n_p3 g_p1_world g_p1_history g_p3 v1 = some o) (sz : Nat) : Met l yL_add (Cond.codeWith yL_add cL_add 4 (some .int) [(0, 9, 12, 13), (0, 9, 15, 15)] :: TB) { frames := 8, cells := 2, slots := 12, locals := 133 } (va_Pc [.ref (a_p1 0 0), .int v1, .ref a_p3] (cPre D dT (cSP a_p1 ++ (cW dT (a_p1 4) g_p1_world ++ (cH dT (a_p1 6) g_p1_history ++ (cJ_ dT a_p3 n_p3 g_p3)))) sz)) (va_Qi (fun (r : Int32) (u : TW × TH × (Nat → Int64)) => r = o.1 ∧ u = o.2) (fun u t => cAt D dT (va_A (cSP a_p1 ++ (cW dT (a_p1 4) g_p1_world ++ (cH dT (a_p1 6) g_p1_history ++ (cJ_ dT a_p3 n_p3 g_p3)))) sz) (cSP a_p1 ++ (cW dT (a_p1 4) (u.1) ++ (cH dT (a_p1 6) (u.2.1) ++ (cJ_ dT a_p3 n_p3 (u.2.2))))) t) (va_A (cSP a_p1 ++ (cW dT (a_p1 4) g_p1_world ++ (cH dT (a_p1 6) g_p1_history ++ (cJ_ dT a_p3 n_p3 g_p3)))) sz)) 2 12 (va_A (cSP a_p1 ++ (cW dT (a_p1 4) g_p1_world ++ (cH dT (a_p1 6) g_p1_history ++ (cJ_ dT a_p3 n_p3 g_p3)))) sz) := by
  refine mStartH (WS := (cSP a_p1 ++ (cW dT (a_p1 4) g_p1_world ++ (cH dT (a_p1 6) g_p1_history ++ (cJ_ dT a_p3 n_p3 g_p3))))) (Qc := fun A => va_Qi (fun (r : Int32) (u : TW × TH × (Nat → Int64)) => r = o.1 ∧ u = o.2) (fun u t => cAt D dT A (cSP a_p1 ++ (cW dT (a_p1 4) (u.1) ++ (cH dT (a_p1 6) (u.2.1) ++ (cJ_ dT a_p3 n_p3 (u.2.2))))) t) A) RL rfl (by decide) (Nat.le_of_ble_eq_true rfl) ?_ sz
  intro p e s m below meth c A ls hx hb hml hr hlk htab hts hqs hown hE hA hK hP hD hS hl
  have hl : lv_has ls 4 [(0, .ref (a_p1 0 0)), (1, .int v1), (2, .ref a_p3)] := hl
  unfold f_L_add at h
  refine lv_aload_n hx hb dL_add_0 rfl (lv_at hl 2 rfl) ?_
  refine lv_iconst (v := 0) hx hb dL_add_1 (by decide) ?_
  refine lv_aload_n hx hb dL_add_2 rfl (lv_at hl 0 rfl) ?_
  refine lv_iload_n hx hb dL_add_3 rfl (lv_at hl 1 rfl) ?_
  obtain ⟨o1, e1, h⟩ := obind h
  have hPq : va_P D vwCl ((cSP a_p1 ++ (cW dT (a_p1 4) g_p1_world ++ (cH dT (a_p1 6) g_p1_history))) ++ (cJ_ dT a_p3 n_p3 g_p3)) _ := hP.perm (wj_split [cSP a_p1, cW dT (a_p1 4) g_p1_world, cH dT (a_p1 6) g_p1_history, cJ_ dT a_p3 n_p3 g_p3] [0, 1, 2] [3] rfl)
  have hDq : va_D A ((cSP a_p1 ++ (cW dT (a_p1 4) g_p1_world ++ (cH dT (a_p1 6) g_p1_history))) ++ (cJ_ dT a_p3 n_p3 g_p3)) := hD.perm (wj_split [cSP a_p1, cW dT (a_p1 4) g_p1_world, cH dT (a_p1 6) g_p1_history, cJ_ dT a_p3 n_p3 g_p3] [0, 1, 2] [3] rfl)
  have hPc := hPq.left
  have hDc := hDq.left
  have hFc := va_freeL hDq hS hA
  refine xcl_iL (wr := (cJ_ dT a_p3 n_p3 g_p3)) (vx_runV (As := [.int v1]) (rest := [.int (0 : Int32), .ref a_p3]) ⟨hx, hb, hml, hown, hts⟩ (c_X8_add l hlt D dT a_p1 g_p1_world g_p1_history v1 o1 e1 _) (cwV 1 hts (TB_V w_683 w_684 w_685 w_50 w_686) rfl rfl rfl ⟨rfl, nd_X8_add⟩ ⟨Nat.le_of_ble_eq_true rfl, Nat.le_of_ble_eq_true rfl⟩) (cPre.V hPc hDc hK hE hS hFc (va_recv hK hPc (ci := 7) (q0 := 0) rfl rfl)) rfl rfl hl.1 rfl (lv_room (Nat.le_of_ble_eq_true rfl)) dL_add_4 ⟨Nat.le_of_ble_eq_true rfl, Nat.le_of_ble_eq_true rfl⟩) hPq hDq hS hFc (fun k1 u1 E1 ce1 q1 H locs hw hEk hP hD hS hxc hxv hxl => ?_) (fun r1 u1 H locs hw hP hD hS => ?_)
  · have hw := xoP_inv hw
    subst hw
    have hP : va_P D vwCl (cSP a_p1 ++ (cW dT (a_p1 4) u1.1 ++ (cH dT (a_p1 6) u1.2 ++ (cJ_ dT a_p3 n_p3 g_p3)))) H := hP.perm (wj_back [cSP a_p1, cW dT (a_p1 4) u1.1, cH dT (a_p1 6) u1.2] [cJ_ dT a_p3 n_p3 g_p3] [0, 1, 2, 3] rfl)
    have hD : va_D A (cSP a_p1 ++ (cW dT (a_p1 4) u1.1 ++ (cH dT (a_p1 6) u1.2 ++ (cJ_ dT a_p3 n_p3 g_p3)))) := hD.perm (wj_back [cSP a_p1, cW dT (a_p1 4) u1.1, cH dT (a_p1 6) u1.2] [cJ_ dT a_p3 n_p3 g_p3] [0, 1, 2, 3] rfl)
    by_cases c2 : k1 = 0
    · replace h := iteT c2 h
      subst c2
      have hEk : E1 = EXI := hEk
      refine vx_catch (name := EXI) (E := E1) hown [] ⟨0, 9, 12, 13⟩ [⟨0, 9, 15, 15⟩] (htab.trans rfl) (fun z hz => absurd hz List.not_mem_nil) rfl (by decide) (hqs _ w_410) (by rw [hEk]; exact va_Nw.use rfl (hE.2.2.1 (EXI, EXI) (by decide +kernel))) hxc hxv hxl ?_
      refine lv_astore_n (lv' := [(3, .ref q1), (0, .ref (a_p1 0 0)), (1, .int v1), (2, .ref a_p3)]) hx hb dL_add_12 rfl hl (by decide) rfl (fun ls hl => ?_)
      refine lv_iconst (v := 1) hx hb dL_add_13 (by decide) ?_
      exact rt_i hx hb hr hlk hK hS ((u1.1, u1.2, g_p3) : TW × TH × (Nat → Int64)) (ret2 h) hP hD dL_add_14
    replace h := iteF c2 h
    by_cases c3 : k1 = 1
    · replace h := iteT c3 h
      subst c3
      have hEk : E1 = EXS := hEk
      refine vx_catch (name := EXS) (E := E1) hown [(⟨0, 9, 12, 13⟩ : ExceptionTableEntry)] ⟨0, 9, 15, 15⟩ [] (htab.trans rfl) (fun z hz => by
      simp only [List.mem_cons, List.not_mem_nil, or_false] at hz
      rcases hz with rfl
      · exact Or.inr ⟨by decide, EXI, hqs _ w_410, by rw [hEk]; exact hE.2.2.2.1 (EXS, EXI) (by decide +kernel)⟩) rfl (by decide) (hqs _ w_411) (by rw [hEk]; exact va_Nw.use rfl (hE.2.2.1 (EXS, EXS) (by decide +kernel))) hxc hxv hxl ?_
      refine lv_astore_n (lv' := [(3, .ref q1), (0, .ref (a_p1 0 0)), (1, .int v1), (2, .ref a_p3)]) hx hb dL_add_15 rfl hl (by decide) rfl (fun ls hl => ?_)
      refine lv_iconst (v := 2) hx hb dL_add_16 (by decide) ?_
      exact rt_i hx hb hr hlk hK hS ((u1.1, u1.2, g_p3) : TW × TH × (Nat → Int64)) (ret2 h) hP hD dL_add_17
    replace h := iteF c3 h
    exact nomatch h
  subst hw
  replace h := sumR h
  have hP : va_P D vwCl (cSP a_p1 ++ (cW dT (a_p1 4) u1.1 ++ (cH dT (a_p1 6) u1.2 ++ (cJ_ dT a_p3 n_p3 g_p3)))) H := hP.perm (wj_back [cSP a_p1, cW dT (a_p1 4) u1.1, cH dT (a_p1 6) u1.2] [cJ_ dT a_p3 n_p3 g_p3] [0, 1, 2, 3] rfl)
  have hD : va_D A (cSP a_p1 ++ (cW dT (a_p1 4) u1.1 ++ (cH dT (a_p1 6) u1.2 ++ (cJ_ dT a_p3 n_p3 g_p3)))) := hD.perm (wj_back [cSP a_p1, cW dT (a_p1 4) u1.1, cH dT (a_p1 6) u1.2] [cJ_ dT a_p3 n_p3 g_p3] [0, 1, 2, 3] rfl)
  refine lv_i2l hx hb dL_add_7 rfl ?_
  obtain ⟨g4, h⟩ := chk h
  refine va_last hx hb hK hP hD hS 153 1 rfl rfl (inb_in g4) dL_add_8 (fun H locs hP hD hS => ?_)
  have hP : va_P D vwCl (cSP a_p1 ++ (cW dT (a_p1 4) u1.1 ++ (cH dT (a_p1 6) u1.2 ++ (cJ_ dT a_p3 n_p3 (vp_updL g_p3 (0 : Int32).toNatClampNeg (Int32.toInt64 r1)))))) H := hP
  have hD : va_D A (cSP a_p1 ++ (cW dT (a_p1 4) u1.1 ++ (cH dT (a_p1 6) u1.2 ++ (cJ_ dT a_p3 n_p3 (vp_updL g_p3 (0 : Int32).toNatClampNeg (Int32.toInt64 r1)))))) := hD
  refine lv_goto (tgt := 18) hx hb dL_add_9 (by decide) ?_
  refine lv_iconst (v := 0) hx hb dL_add_18 (by decide) ?_
  exact rt_i hx hb hr hlk hK hS ((u1.1, u1.2, (vp_updL g_p3 (0 : Int32).toNatClampNeg (Int32.toInt64 r1))) : TW × TH × (Nat → Int64)) (ret2 h) hP hD dL_add_19

def f_L_resize (n_p4 : Nat) (g_p1_world : TW) (g_p1_history : TH) (g_p4 : Nat → Int64) (v1 : Int32) (v2 : Int32) : Option (Int32 × (TW × TH × (Nat → Int64))) :=
  ((f_X8_resize g_p1_world g_p1_history v1 v2).bind fun o1 => (fun u1 => o1.1.elim (fun k1 => (if k1 = 2 then (some ((1 : Int32), (u1.1, u1.2, g_p4))) else (if k1 = 0 then (some ((2 : Int32), (u1.1, u1.2, g_p4))) else none))) (fun r1 => (if inb (0 : Int32) n_p4 = true then (some ((0 : Int32), (u1.1, u1.2, (vp_updL g_p4 (0 : Int32).toNatClampNeg (Int32.toInt64 r1))))) else none))) o1.2)
set_option maxHeartbeats 8000000 in
set_option maxRecDepth 100000 in
theorem c_L_resize (l : Launch) (hlt : l.stackTraces = false) (D : va_G) (dT : Nat → ClassId) (a_p1 : Nat → Nat → Nat) (a_p4 : Nat) (n_p4 : Nat) (g_p1_world : TW) (g_p1_history : TH) (g_p4 : Nat → Int64) (v1 : Int32) (v2 : Int32) (o : (Int32 × (TW × TH × (Nat → Int64)))) (h : f_L_resize n_p4 g_p1_world g_p1_history g_p4 v1 v2 = some o) (sz : Nat) : Met l yL_resize (Cond.codeWith yL_resize cL_resize 5 (some .int) [(0, 10, 13, 31), (0, 10, 17, 13)] :: TB) { frames := 8, cells := 2, slots := 12, locals := 134 } (va_Pc [.ref (a_p1 0 0), .int v1, .int v2, .ref a_p4] (cPre D dT (cSP a_p1 ++ (cW dT (a_p1 4) g_p1_world ++ (cH dT (a_p1 6) g_p1_history ++ (cJ_ dT a_p4 n_p4 g_p4)))) sz)) (va_Qi (fun (r : Int32) (u : TW × TH × (Nat → Int64)) => r = o.1 ∧ u = o.2) (fun u t => cAt D dT (va_A (cSP a_p1 ++ (cW dT (a_p1 4) g_p1_world ++ (cH dT (a_p1 6) g_p1_history ++ (cJ_ dT a_p4 n_p4 g_p4)))) sz) (cSP a_p1 ++ (cW dT (a_p1 4) (u.1) ++ (cH dT (a_p1 6) (u.2.1) ++ (cJ_ dT a_p4 n_p4 (u.2.2))))) t) (va_A (cSP a_p1 ++ (cW dT (a_p1 4) g_p1_world ++ (cH dT (a_p1 6) g_p1_history ++ (cJ_ dT a_p4 n_p4 g_p4)))) sz)) 2 12 (va_A (cSP a_p1 ++ (cW dT (a_p1 4) g_p1_world ++ (cH dT (a_p1 6) g_p1_history ++ (cJ_ dT a_p4 n_p4 g_p4)))) sz) := by
  refine mStartH (WS := (cSP a_p1 ++ (cW dT (a_p1 4) g_p1_world ++ (cH dT (a_p1 6) g_p1_history ++ (cJ_ dT a_p4 n_p4 g_p4))))) (Qc := fun A => va_Qi (fun (r : Int32) (u : TW × TH × (Nat → Int64)) => r = o.1 ∧ u = o.2) (fun u t => cAt D dT A (cSP a_p1 ++ (cW dT (a_p1 4) (u.1) ++ (cH dT (a_p1 6) (u.2.1) ++ (cJ_ dT a_p4 n_p4 (u.2.2))))) t) A) RL rfl (by decide) (Nat.le_of_ble_eq_true rfl) ?_ sz
  intro p e s m below meth c A ls hx hb hml hr hlk htab hts hqs hown hE hA hK hP hD hS hl
  have hl : lv_has ls 5 [(0, .ref (a_p1 0 0)), (1, .int v1), (2, .int v2), (3, .ref a_p4)] := hl
  unfold f_L_resize at h
  refine lv_aload_n hx hb dL_resize_0 rfl (lv_at hl 3 rfl) ?_
  refine lv_iconst (v := 0) hx hb dL_resize_1 (by decide) ?_
  refine lv_aload_n hx hb dL_resize_2 rfl (lv_at hl 0 rfl) ?_
  refine lv_iload_n hx hb dL_resize_3 rfl (lv_at hl 1 rfl) ?_
  refine lv_iload_n hx hb dL_resize_4 rfl (lv_at hl 2 rfl) ?_
  obtain ⟨o1, e1, h⟩ := obind h
  have hPq : va_P D vwCl ((cSP a_p1 ++ (cW dT (a_p1 4) g_p1_world ++ (cH dT (a_p1 6) g_p1_history))) ++ (cJ_ dT a_p4 n_p4 g_p4)) _ := hP.perm (wj_split [cSP a_p1, cW dT (a_p1 4) g_p1_world, cH dT (a_p1 6) g_p1_history, cJ_ dT a_p4 n_p4 g_p4] [0, 1, 2] [3] rfl)
  have hDq : va_D A ((cSP a_p1 ++ (cW dT (a_p1 4) g_p1_world ++ (cH dT (a_p1 6) g_p1_history))) ++ (cJ_ dT a_p4 n_p4 g_p4)) := hD.perm (wj_split [cSP a_p1, cW dT (a_p1 4) g_p1_world, cH dT (a_p1 6) g_p1_history, cJ_ dT a_p4 n_p4 g_p4] [0, 1, 2] [3] rfl)
  have hPc := hPq.left
  have hDc := hDq.left
  have hFc := va_freeL hDq hS hA
  refine xcl_iL (wr := (cJ_ dT a_p4 n_p4 g_p4)) (vx_runV (As := [.int v1, .int v2]) (rest := [.int (0 : Int32), .ref a_p4]) ⟨hx, hb, hml, hown, hts⟩ (c_X8_resize l hlt D dT a_p1 g_p1_world g_p1_history v1 v2 o1 e1 _) (cwV 2 hts (TB_V w_705 w_706 w_707 w_50 w_708) rfl rfl rfl ⟨rfl, nd_X8_resize⟩ ⟨Nat.le_of_ble_eq_true rfl, Nat.le_of_ble_eq_true rfl⟩) (cPre.V hPc hDc hK hE hS hFc (va_recv hK hPc (ci := 7) (q0 := 0) rfl rfl)) rfl rfl hl.1 rfl (lv_room (Nat.le_of_ble_eq_true rfl)) dL_resize_5 ⟨Nat.le_of_ble_eq_true rfl, Nat.le_of_ble_eq_true rfl⟩) hPq hDq hS hFc (fun k1 u1 E1 ce1 q1 H locs hw hEk hP hD hS hxc hxv hxl => ?_) (fun r1 u1 H locs hw hP hD hS => ?_)
  · have hw := xoP_inv hw
    subst hw
    have hP : va_P D vwCl (cSP a_p1 ++ (cW dT (a_p1 4) u1.1 ++ (cH dT (a_p1 6) u1.2 ++ (cJ_ dT a_p4 n_p4 g_p4)))) H := hP.perm (wj_back [cSP a_p1, cW dT (a_p1 4) u1.1, cH dT (a_p1 6) u1.2] [cJ_ dT a_p4 n_p4 g_p4] [0, 1, 2, 3] rfl)
    have hD : va_D A (cSP a_p1 ++ (cW dT (a_p1 4) u1.1 ++ (cH dT (a_p1 6) u1.2 ++ (cJ_ dT a_p4 n_p4 g_p4)))) := hD.perm (wj_back [cSP a_p1, cW dT (a_p1 4) u1.1, cH dT (a_p1 6) u1.2] [cJ_ dT a_p4 n_p4 g_p4] [0, 1, 2, 3] rfl)
    by_cases c2 : k1 = 2
    · replace h := iteT c2 h
      subst c2
      have hEk : E1 = EXB := hEk
      refine vx_catch (name := EXB) (E := E1) hown [] ⟨0, 10, 13, 31⟩ [⟨0, 10, 17, 13⟩] (htab.trans rfl) (fun z hz => absurd hz List.not_mem_nil) rfl (by decide) (hqs _ w_608) (by rw [hEk]; exact va_Nw.use rfl (hE.2.2.1 (EXB, EXB) (by decide +kernel))) hxc hxv hxl ?_
      refine lv_astore (lv' := [(4, .ref q1), (0, .ref (a_p1 0 0)), (1, .int v1), (2, .int v2), (3, .ref a_p4)]) hx hb dL_resize_13 hl (by decide) rfl (fun ls hl => ?_)
      refine lv_iconst (v := 1) hx hb dL_resize_15 (by decide) ?_
      exact rt_i hx hb hr hlk hK hS ((u1.1, u1.2, g_p4) : TW × TH × (Nat → Int64)) (ret2 h) hP hD dL_resize_16
    replace h := iteF c2 h
    by_cases c3 : k1 = 0
    · replace h := iteT c3 h
      subst c3
      have hEk : E1 = EXI := hEk
      refine vx_catch (name := EXI) (E := E1) hown [(⟨0, 10, 13, 31⟩ : ExceptionTableEntry)] ⟨0, 10, 17, 13⟩ [] (htab.trans rfl) (fun z hz => by
      simp only [List.mem_cons, List.not_mem_nil, or_false] at hz
      rcases hz with rfl
      · exact Or.inr ⟨by decide, EXB, hqs _ w_608, by rw [hEk]; exact hE.2.2.2.1 (EXI, EXB) (by decide +kernel)⟩) rfl (by decide) (hqs _ w_410) (by rw [hEk]; exact va_Nw.use rfl (hE.2.2.1 (EXI, EXI) (by decide +kernel))) hxc hxv hxl ?_
      refine lv_astore (lv' := [(4, .ref q1), (0, .ref (a_p1 0 0)), (1, .int v1), (2, .int v2), (3, .ref a_p4)]) hx hb dL_resize_17 hl (by decide) rfl (fun ls hl => ?_)
      refine lv_iconst (v := 2) hx hb dL_resize_19 (by decide) ?_
      exact rt_i hx hb hr hlk hK hS ((u1.1, u1.2, g_p4) : TW × TH × (Nat → Int64)) (ret2 h) hP hD dL_resize_20
    replace h := iteF c3 h
    exact nomatch h
  subst hw
  replace h := sumR h
  have hP : va_P D vwCl (cSP a_p1 ++ (cW dT (a_p1 4) u1.1 ++ (cH dT (a_p1 6) u1.2 ++ (cJ_ dT a_p4 n_p4 g_p4)))) H := hP.perm (wj_back [cSP a_p1, cW dT (a_p1 4) u1.1, cH dT (a_p1 6) u1.2] [cJ_ dT a_p4 n_p4 g_p4] [0, 1, 2, 3] rfl)
  have hD : va_D A (cSP a_p1 ++ (cW dT (a_p1 4) u1.1 ++ (cH dT (a_p1 6) u1.2 ++ (cJ_ dT a_p4 n_p4 g_p4)))) := hD.perm (wj_back [cSP a_p1, cW dT (a_p1 4) u1.1, cH dT (a_p1 6) u1.2] [cJ_ dT a_p4 n_p4 g_p4] [0, 1, 2, 3] rfl)
  refine lv_i2l hx hb dL_resize_8 rfl ?_
  obtain ⟨g4, h⟩ := chk h
  refine va_last hx hb hK hP hD hS 153 1 rfl rfl (inb_in g4) dL_resize_9 (fun H locs hP hD hS => ?_)
  have hP : va_P D vwCl (cSP a_p1 ++ (cW dT (a_p1 4) u1.1 ++ (cH dT (a_p1 6) u1.2 ++ (cJ_ dT a_p4 n_p4 (vp_updL g_p4 (0 : Int32).toNatClampNeg (Int32.toInt64 r1)))))) H := hP
  have hD : va_D A (cSP a_p1 ++ (cW dT (a_p1 4) u1.1 ++ (cH dT (a_p1 6) u1.2 ++ (cJ_ dT a_p4 n_p4 (vp_updL g_p4 (0 : Int32).toNatClampNeg (Int32.toInt64 r1)))))) := hD
  refine lv_goto (tgt := 21) hx hb dL_resize_10 (by decide) ?_
  refine lv_iconst (v := 0) hx hb dL_resize_21 (by decide) ?_
  exact rt_i hx hb hr hlk hK hS ((u1.1, u1.2, (vp_updL g_p4 (0 : Int32).toNatClampNeg (Int32.toInt64 r1))) : TW × TH × (Nat → Int64)) (ret2 h) hP hD dL_resize_22

def f_L_link (n_p6 : Nat) (g_p1_world : TW) (g_p1_history : TH) (g_p6 : Nat → Int64) (v1 : Int32) (v2 : Int32) (v3 : Int32) (v4 : Int32) : Option (Int32 × (TW × TH × (Nat → Int64))) :=
  ((f_X8_link g_p1_world g_p1_history v1 v2 v3 v4).bind fun o1 => (fun u1 => o1.1.elim (fun k1 => (if k1 = 2 then (some ((1 : Int32), (u1.1, u1.2, g_p6))) else (if k1 = 0 then (some ((2 : Int32), (u1.1, u1.2, g_p6))) else none))) (fun r1 => (if inb (0 : Int32) n_p6 = true then (some ((0 : Int32), (u1.1, u1.2, (vp_updL g_p6 (0 : Int32).toNatClampNeg (Int32.toInt64 r1))))) else none))) o1.2)
set_option maxHeartbeats 8000000 in
set_option maxRecDepth 100000 in
theorem c_L_link (l : Launch) (hlt : l.stackTraces = false) (D : va_G) (dT : Nat → ClassId) (a_p1 : Nat → Nat → Nat) (a_p6 : Nat) (n_p6 : Nat) (g_p1_world : TW) (g_p1_history : TH) (g_p6 : Nat → Int64) (v1 : Int32) (v2 : Int32) (v3 : Int32) (v4 : Int32) (o : (Int32 × (TW × TH × (Nat → Int64)))) (h : f_L_link n_p6 g_p1_world g_p1_history g_p6 v1 v2 v3 v4 = some o) (sz : Nat) : Met l yL_link (Cond.codeWith yL_link cL_link 7 (some .int) [(0, 14, 17, 31), (0, 14, 21, 13)] :: TB) { frames := 9, cells := 5, slots := 30, locals := 157 } (va_Pc [.ref (a_p1 0 0), .int v1, .int v2, .int v3, .int v4, .ref a_p6] (cPre D dT (cSP a_p1 ++ (cW dT (a_p1 4) g_p1_world ++ (cH dT (a_p1 6) g_p1_history ++ (cJ_ dT a_p6 n_p6 g_p6)))) sz)) (va_Qi (fun (r : Int32) (u : TW × TH × (Nat → Int64)) => r = o.1 ∧ u = o.2) (fun u t => cAt D dT (va_A (cSP a_p1 ++ (cW dT (a_p1 4) g_p1_world ++ (cH dT (a_p1 6) g_p1_history ++ (cJ_ dT a_p6 n_p6 g_p6)))) sz) (cSP a_p1 ++ (cW dT (a_p1 4) (u.1) ++ (cH dT (a_p1 6) (u.2.1) ++ (cJ_ dT a_p6 n_p6 (u.2.2))))) t) (va_A (cSP a_p1 ++ (cW dT (a_p1 4) g_p1_world ++ (cH dT (a_p1 6) g_p1_history ++ (cJ_ dT a_p6 n_p6 g_p6)))) sz)) 5 30 (va_A (cSP a_p1 ++ (cW dT (a_p1 4) g_p1_world ++ (cH dT (a_p1 6) g_p1_history ++ (cJ_ dT a_p6 n_p6 g_p6)))) sz) := by
  refine mStartH (WS := (cSP a_p1 ++ (cW dT (a_p1 4) g_p1_world ++ (cH dT (a_p1 6) g_p1_history ++ (cJ_ dT a_p6 n_p6 g_p6))))) (Qc := fun A => va_Qi (fun (r : Int32) (u : TW × TH × (Nat → Int64)) => r = o.1 ∧ u = o.2) (fun u t => cAt D dT A (cSP a_p1 ++ (cW dT (a_p1 4) (u.1) ++ (cH dT (a_p1 6) (u.2.1) ++ (cJ_ dT a_p6 n_p6 (u.2.2))))) t) A) RL rfl (by decide) (Nat.le_of_ble_eq_true rfl) ?_ sz
  intro p e s m below meth c A ls hx hb hml hr hlk htab hts hqs hown hE hA hK hP hD hS hl
  have hl : lv_has ls 7 [(0, .ref (a_p1 0 0)), (1, .int v1), (2, .int v2), (3, .int v3), (4, .int v4), (5, .ref a_p6)] := hl
  unfold f_L_link at h
  refine lv_aload hx hb dL_link_0 (lv_at hl 5 rfl) ?_
  refine lv_iconst (v := 0) hx hb dL_link_2 (by decide) ?_
  refine lv_aload_n hx hb dL_link_3 rfl (lv_at hl 0 rfl) ?_
  refine lv_iload_n hx hb dL_link_4 rfl (lv_at hl 1 rfl) ?_
  refine lv_iload_n hx hb dL_link_5 rfl (lv_at hl 2 rfl) ?_
  refine lv_iload_n hx hb dL_link_6 rfl (lv_at hl 3 rfl) ?_
  refine lv_iload hx hb dL_link_7 (lv_at hl 4 rfl) ?_
  obtain ⟨o1, e1, h⟩ := obind h
  have hPq : va_P D vwCl ((cSP a_p1 ++ (cW dT (a_p1 4) g_p1_world ++ (cH dT (a_p1 6) g_p1_history))) ++ (cJ_ dT a_p6 n_p6 g_p6)) _ := hP.perm (wj_split [cSP a_p1, cW dT (a_p1 4) g_p1_world, cH dT (a_p1 6) g_p1_history, cJ_ dT a_p6 n_p6 g_p6] [0, 1, 2] [3] rfl)
  have hDq : va_D A ((cSP a_p1 ++ (cW dT (a_p1 4) g_p1_world ++ (cH dT (a_p1 6) g_p1_history))) ++ (cJ_ dT a_p6 n_p6 g_p6)) := hD.perm (wj_split [cSP a_p1, cW dT (a_p1 4) g_p1_world, cH dT (a_p1 6) g_p1_history, cJ_ dT a_p6 n_p6 g_p6] [0, 1, 2] [3] rfl)
  have hPc := hPq.left
  have hDc := hDq.left
  have hFc := va_freeL hDq hS hA
  refine xcl_iL (wr := (cJ_ dT a_p6 n_p6 g_p6)) (vx_runV (As := [.int v1, .int v2, .int v3, .int v4]) (rest := [.int (0 : Int32), .ref a_p6]) ⟨hx, hb, hml, hown, hts⟩ (c_X8_link l hlt D dT a_p1 g_p1_world g_p1_history v1 v2 v3 v4 o1 e1 _) (cwV 4 hts (TB_V w_717 w_718 w_719 w_50 w_720) rfl rfl rfl ⟨rfl, nd_X8_link⟩ ⟨Nat.le_of_ble_eq_true rfl, Nat.le_of_ble_eq_true rfl⟩) (cPre.V hPc hDc hK hE hS hFc (va_recv hK hPc (ci := 7) (q0 := 0) rfl rfl)) rfl rfl hl.1 rfl (lv_room (Nat.le_of_ble_eq_true rfl)) dL_link_9 ⟨Nat.le_of_ble_eq_true rfl, Nat.le_of_ble_eq_true rfl⟩) hPq hDq hS hFc (fun k1 u1 E1 ce1 q1 H locs hw hEk hP hD hS hxc hxv hxl => ?_) (fun r1 u1 H locs hw hP hD hS => ?_)
  · have hw := xoP_inv hw
    subst hw
    have hP : va_P D vwCl (cSP a_p1 ++ (cW dT (a_p1 4) u1.1 ++ (cH dT (a_p1 6) u1.2 ++ (cJ_ dT a_p6 n_p6 g_p6)))) H := hP.perm (wj_back [cSP a_p1, cW dT (a_p1 4) u1.1, cH dT (a_p1 6) u1.2] [cJ_ dT a_p6 n_p6 g_p6] [0, 1, 2, 3] rfl)
    have hD : va_D A (cSP a_p1 ++ (cW dT (a_p1 4) u1.1 ++ (cH dT (a_p1 6) u1.2 ++ (cJ_ dT a_p6 n_p6 g_p6)))) := hD.perm (wj_back [cSP a_p1, cW dT (a_p1 4) u1.1, cH dT (a_p1 6) u1.2] [cJ_ dT a_p6 n_p6 g_p6] [0, 1, 2, 3] rfl)
    by_cases c2 : k1 = 2
    · replace h := iteT c2 h
      subst c2
      have hEk : E1 = EXB := hEk
      refine vx_catch (name := EXB) (E := E1) hown [] ⟨0, 14, 17, 31⟩ [⟨0, 14, 21, 13⟩] (htab.trans rfl) (fun z hz => absurd hz List.not_mem_nil) rfl (by decide) (hqs _ w_608) (by rw [hEk]; exact va_Nw.use rfl (hE.2.2.1 (EXB, EXB) (by decide +kernel))) hxc hxv hxl ?_
      refine lv_astore (lv' := [(6, .ref q1), (0, .ref (a_p1 0 0)), (1, .int v1), (2, .int v2), (3, .int v3), (4, .int v4), (5, .ref a_p6)]) hx hb dL_link_17 hl (by decide) rfl (fun ls hl => ?_)
      refine lv_iconst (v := 1) hx hb dL_link_19 (by decide) ?_
      exact rt_i hx hb hr hlk hK hS ((u1.1, u1.2, g_p6) : TW × TH × (Nat → Int64)) (ret2 h) hP hD dL_link_20
    replace h := iteF c2 h
    by_cases c3 : k1 = 0
    · replace h := iteT c3 h
      subst c3
      have hEk : E1 = EXI := hEk
      refine vx_catch (name := EXI) (E := E1) hown [(⟨0, 14, 17, 31⟩ : ExceptionTableEntry)] ⟨0, 14, 21, 13⟩ [] (htab.trans rfl) (fun z hz => by
      simp only [List.mem_cons, List.not_mem_nil, or_false] at hz
      rcases hz with rfl
      · exact Or.inr ⟨by decide, EXB, hqs _ w_608, by rw [hEk]; exact hE.2.2.2.1 (EXI, EXB) (by decide +kernel)⟩) rfl (by decide) (hqs _ w_410) (by rw [hEk]; exact va_Nw.use rfl (hE.2.2.1 (EXI, EXI) (by decide +kernel))) hxc hxv hxl ?_
      refine lv_astore (lv' := [(6, .ref q1), (0, .ref (a_p1 0 0)), (1, .int v1), (2, .int v2), (3, .int v3), (4, .int v4), (5, .ref a_p6)]) hx hb dL_link_21 hl (by decide) rfl (fun ls hl => ?_)
      refine lv_iconst (v := 2) hx hb dL_link_23 (by decide) ?_
      exact rt_i hx hb hr hlk hK hS ((u1.1, u1.2, g_p6) : TW × TH × (Nat → Int64)) (ret2 h) hP hD dL_link_24
    replace h := iteF c3 h
    exact nomatch h
  subst hw
  replace h := sumR h
  have hP : va_P D vwCl (cSP a_p1 ++ (cW dT (a_p1 4) u1.1 ++ (cH dT (a_p1 6) u1.2 ++ (cJ_ dT a_p6 n_p6 g_p6)))) H := hP.perm (wj_back [cSP a_p1, cW dT (a_p1 4) u1.1, cH dT (a_p1 6) u1.2] [cJ_ dT a_p6 n_p6 g_p6] [0, 1, 2, 3] rfl)
  have hD : va_D A (cSP a_p1 ++ (cW dT (a_p1 4) u1.1 ++ (cH dT (a_p1 6) u1.2 ++ (cJ_ dT a_p6 n_p6 g_p6)))) := hD.perm (wj_back [cSP a_p1, cW dT (a_p1 4) u1.1, cH dT (a_p1 6) u1.2] [cJ_ dT a_p6 n_p6 g_p6] [0, 1, 2, 3] rfl)
  refine lv_i2l hx hb dL_link_12 rfl ?_
  obtain ⟨g4, h⟩ := chk h
  refine va_last hx hb hK hP hD hS 153 1 rfl rfl (inb_in g4) dL_link_13 (fun H locs hP hD hS => ?_)
  have hP : va_P D vwCl (cSP a_p1 ++ (cW dT (a_p1 4) u1.1 ++ (cH dT (a_p1 6) u1.2 ++ (cJ_ dT a_p6 n_p6 (vp_updL g_p6 (0 : Int32).toNatClampNeg (Int32.toInt64 r1)))))) H := hP
  have hD : va_D A (cSP a_p1 ++ (cW dT (a_p1 4) u1.1 ++ (cH dT (a_p1 6) u1.2 ++ (cJ_ dT a_p6 n_p6 (vp_updL g_p6 (0 : Int32).toNatClampNeg (Int32.toInt64 r1)))))) := hD
  refine lv_goto (tgt := 25) hx hb dL_link_14 (by decide) ?_
  refine lv_iconst (v := 0) hx hb dL_link_25 (by decide) ?_
  exact rt_i hx hb hr hlk hK hS ((u1.1, u1.2, (vp_updL g_p6 (0 : Int32).toNatClampNeg (Int32.toInt64 r1))) : TW × TH × (Nat → Int64)) (ret2 h) hP hD dL_link_26

def f_L_drift (n_p5 : Nat) (g_p1_world : TW) (g_p1_history : TH) (g_p5 : Nat → Int64) (v1 : Int32) (v2 : Int32) (v3 : Int32) : Option (Int32 × (TW × TH × (Nat → Int64))) :=
  ((f_X8_drift g_p1_world g_p1_history v1 v2 v3).bind fun o1 => (fun u1 => o1.1.elim (fun k1 => (if k1 = 2 then (some ((1 : Int32), (u1.1, u1.2, g_p5))) else (if k1 = 0 then (some ((2 : Int32), (u1.1, u1.2, g_p5))) else (if k1 = 1 then (some ((3 : Int32), (u1.1, u1.2, g_p5))) else none)))) (fun r1 => (if inb (0 : Int32) n_p5 = true then (some ((0 : Int32), (u1.1, u1.2, (vp_updL g_p5 (0 : Int32).toNatClampNeg (Int32.toInt64 r1))))) else none))) o1.2)
set_option maxHeartbeats 8000000 in
set_option maxRecDepth 100000 in
theorem c_L_drift (l : Launch) (hlt : l.stackTraces = false) (D : va_G) (dT : Nat → ClassId) (a_p1 : Nat → Nat → Nat) (a_p5 : Nat) (n_p5 : Nat) (g_p1_world : TW) (g_p1_history : TH) (g_p5 : Nat → Int64) (v1 : Int32) (v2 : Int32) (v3 : Int32) (o : (Int32 × (TW × TH × (Nat → Int64)))) (h : f_L_drift n_p5 g_p1_world g_p1_history g_p5 v1 v2 v3 = some o) (sz : Nat) : Met l yL_drift (Cond.codeWith yL_drift cL_drift 6 (some .int) [(0, 12, 15, 31), (0, 12, 19, 13), (0, 12, 23, 15)] :: TB) { frames := 9, cells := 5, slots := 30, locals := 156 } (va_Pc [.ref (a_p1 0 0), .int v1, .int v2, .int v3, .ref a_p5] (cPre D dT (cSP a_p1 ++ (cW dT (a_p1 4) g_p1_world ++ (cH dT (a_p1 6) g_p1_history ++ (cJ_ dT a_p5 n_p5 g_p5)))) sz)) (va_Qi (fun (r : Int32) (u : TW × TH × (Nat → Int64)) => r = o.1 ∧ u = o.2) (fun u t => cAt D dT (va_A (cSP a_p1 ++ (cW dT (a_p1 4) g_p1_world ++ (cH dT (a_p1 6) g_p1_history ++ (cJ_ dT a_p5 n_p5 g_p5)))) sz) (cSP a_p1 ++ (cW dT (a_p1 4) (u.1) ++ (cH dT (a_p1 6) (u.2.1) ++ (cJ_ dT a_p5 n_p5 (u.2.2))))) t) (va_A (cSP a_p1 ++ (cW dT (a_p1 4) g_p1_world ++ (cH dT (a_p1 6) g_p1_history ++ (cJ_ dT a_p5 n_p5 g_p5)))) sz)) 5 30 (va_A (cSP a_p1 ++ (cW dT (a_p1 4) g_p1_world ++ (cH dT (a_p1 6) g_p1_history ++ (cJ_ dT a_p5 n_p5 g_p5)))) sz) := by
  refine mStartH (WS := (cSP a_p1 ++ (cW dT (a_p1 4) g_p1_world ++ (cH dT (a_p1 6) g_p1_history ++ (cJ_ dT a_p5 n_p5 g_p5))))) (Qc := fun A => va_Qi (fun (r : Int32) (u : TW × TH × (Nat → Int64)) => r = o.1 ∧ u = o.2) (fun u t => cAt D dT A (cSP a_p1 ++ (cW dT (a_p1 4) (u.1) ++ (cH dT (a_p1 6) (u.2.1) ++ (cJ_ dT a_p5 n_p5 (u.2.2))))) t) A) RL rfl (by decide) (Nat.le_of_ble_eq_true rfl) ?_ sz
  intro p e s m below meth c A ls hx hb hml hr hlk htab hts hqs hown hE hA hK hP hD hS hl
  have hl : lv_has ls 6 [(0, .ref (a_p1 0 0)), (1, .int v1), (2, .int v2), (3, .int v3), (4, .ref a_p5)] := hl
  unfold f_L_drift at h
  refine lv_aload hx hb dL_drift_0 (lv_at hl 4 rfl) ?_
  refine lv_iconst (v := 0) hx hb dL_drift_2 (by decide) ?_
  refine lv_aload_n hx hb dL_drift_3 rfl (lv_at hl 0 rfl) ?_
  refine lv_iload_n hx hb dL_drift_4 rfl (lv_at hl 1 rfl) ?_
  refine lv_iload_n hx hb dL_drift_5 rfl (lv_at hl 2 rfl) ?_
  refine lv_iload_n hx hb dL_drift_6 rfl (lv_at hl 3 rfl) ?_
  obtain ⟨o1, e1, h⟩ := obind h
  have hPq : va_P D vwCl ((cSP a_p1 ++ (cW dT (a_p1 4) g_p1_world ++ (cH dT (a_p1 6) g_p1_history))) ++ (cJ_ dT a_p5 n_p5 g_p5)) _ := hP.perm (wj_split [cSP a_p1, cW dT (a_p1 4) g_p1_world, cH dT (a_p1 6) g_p1_history, cJ_ dT a_p5 n_p5 g_p5] [0, 1, 2] [3] rfl)
  have hDq : va_D A ((cSP a_p1 ++ (cW dT (a_p1 4) g_p1_world ++ (cH dT (a_p1 6) g_p1_history))) ++ (cJ_ dT a_p5 n_p5 g_p5)) := hD.perm (wj_split [cSP a_p1, cW dT (a_p1 4) g_p1_world, cH dT (a_p1 6) g_p1_history, cJ_ dT a_p5 n_p5 g_p5] [0, 1, 2] [3] rfl)
  have hPc := hPq.left
  have hDc := hDq.left
  have hFc := va_freeL hDq hS hA
  refine xcl_iL (wr := (cJ_ dT a_p5 n_p5 g_p5)) (vx_runV (As := [.int v1, .int v2, .int v3]) (rest := [.int (0 : Int32), .ref a_p5]) ⟨hx, hb, hml, hown, hts⟩ (c_X8_drift l hlt D dT a_p1 g_p1_world g_p1_history v1 v2 v3 o1 e1 _) (cwV 3 hts (TB_V w_724 w_725 w_726 w_50 w_727) rfl rfl rfl ⟨rfl, nd_X8_drift⟩ ⟨Nat.le_of_ble_eq_true rfl, Nat.le_of_ble_eq_true rfl⟩) (cPre.V hPc hDc hK hE hS hFc (va_recv hK hPc (ci := 7) (q0 := 0) rfl rfl)) rfl rfl hl.1 rfl (lv_room (Nat.le_of_ble_eq_true rfl)) dL_drift_7 ⟨Nat.le_of_ble_eq_true rfl, Nat.le_of_ble_eq_true rfl⟩) hPq hDq hS hFc (fun k1 u1 E1 ce1 q1 H locs hw hEk hP hD hS hxc hxv hxl => ?_) (fun r1 u1 H locs hw hP hD hS => ?_)
  · have hw := xoP_inv hw
    subst hw
    have hP : va_P D vwCl (cSP a_p1 ++ (cW dT (a_p1 4) u1.1 ++ (cH dT (a_p1 6) u1.2 ++ (cJ_ dT a_p5 n_p5 g_p5)))) H := hP.perm (wj_back [cSP a_p1, cW dT (a_p1 4) u1.1, cH dT (a_p1 6) u1.2] [cJ_ dT a_p5 n_p5 g_p5] [0, 1, 2, 3] rfl)
    have hD : va_D A (cSP a_p1 ++ (cW dT (a_p1 4) u1.1 ++ (cH dT (a_p1 6) u1.2 ++ (cJ_ dT a_p5 n_p5 g_p5)))) := hD.perm (wj_back [cSP a_p1, cW dT (a_p1 4) u1.1, cH dT (a_p1 6) u1.2] [cJ_ dT a_p5 n_p5 g_p5] [0, 1, 2, 3] rfl)
    by_cases c2 : k1 = 2
    · replace h := iteT c2 h
      subst c2
      have hEk : E1 = EXB := hEk
      refine vx_catch (name := EXB) (E := E1) hown [] ⟨0, 12, 15, 31⟩ [⟨0, 12, 19, 13⟩, ⟨0, 12, 23, 15⟩] (htab.trans rfl) (fun z hz => absurd hz List.not_mem_nil) rfl (by decide) (hqs _ w_608) (by rw [hEk]; exact va_Nw.use rfl (hE.2.2.1 (EXB, EXB) (by decide +kernel))) hxc hxv hxl ?_
      refine lv_astore (lv' := [(5, .ref q1), (0, .ref (a_p1 0 0)), (1, .int v1), (2, .int v2), (3, .int v3), (4, .ref a_p5)]) hx hb dL_drift_15 hl (by decide) rfl (fun ls hl => ?_)
      refine lv_iconst (v := 1) hx hb dL_drift_17 (by decide) ?_
      exact rt_i hx hb hr hlk hK hS ((u1.1, u1.2, g_p5) : TW × TH × (Nat → Int64)) (ret2 h) hP hD dL_drift_18
    replace h := iteF c2 h
    by_cases c3 : k1 = 0
    · replace h := iteT c3 h
      subst c3
      have hEk : E1 = EXI := hEk
      refine vx_catch (name := EXI) (E := E1) hown [(⟨0, 12, 15, 31⟩ : ExceptionTableEntry)] ⟨0, 12, 19, 13⟩ [⟨0, 12, 23, 15⟩] (htab.trans rfl) (fun z hz => by
      simp only [List.mem_cons, List.not_mem_nil, or_false] at hz
      rcases hz with rfl
      · exact Or.inr ⟨by decide, EXB, hqs _ w_608, by rw [hEk]; exact hE.2.2.2.1 (EXI, EXB) (by decide +kernel)⟩) rfl (by decide) (hqs _ w_410) (by rw [hEk]; exact va_Nw.use rfl (hE.2.2.1 (EXI, EXI) (by decide +kernel))) hxc hxv hxl ?_
      refine lv_astore (lv' := [(5, .ref q1), (0, .ref (a_p1 0 0)), (1, .int v1), (2, .int v2), (3, .int v3), (4, .ref a_p5)]) hx hb dL_drift_19 hl (by decide) rfl (fun ls hl => ?_)
      refine lv_iconst (v := 2) hx hb dL_drift_21 (by decide) ?_
      exact rt_i hx hb hr hlk hK hS ((u1.1, u1.2, g_p5) : TW × TH × (Nat → Int64)) (ret2 h) hP hD dL_drift_22
    replace h := iteF c3 h
    by_cases c4 : k1 = 1
    · replace h := iteT c4 h
      subst c4
      have hEk : E1 = EXS := hEk
      refine vx_catch (name := EXS) (E := E1) hown [(⟨0, 12, 15, 31⟩ : ExceptionTableEntry), (⟨0, 12, 19, 13⟩ : ExceptionTableEntry)] ⟨0, 12, 23, 15⟩ [] (htab.trans rfl) (fun z hz => by
      simp only [List.mem_cons, List.not_mem_nil, or_false] at hz
      rcases hz with rfl | rfl
      · exact Or.inr ⟨by decide, EXB, hqs _ w_608, by rw [hEk]; exact hE.2.2.2.1 (EXS, EXB) (by decide +kernel)⟩
      · exact Or.inr ⟨by decide, EXI, hqs _ w_410, by rw [hEk]; exact hE.2.2.2.1 (EXS, EXI) (by decide +kernel)⟩) rfl (by decide) (hqs _ w_411) (by rw [hEk]; exact va_Nw.use rfl (hE.2.2.1 (EXS, EXS) (by decide +kernel))) hxc hxv hxl ?_
      refine lv_astore (lv' := [(5, .ref q1), (0, .ref (a_p1 0 0)), (1, .int v1), (2, .int v2), (3, .int v3), (4, .ref a_p5)]) hx hb dL_drift_23 hl (by decide) rfl (fun ls hl => ?_)
      refine lv_iconst (v := 3) hx hb dL_drift_25 (by decide) ?_
      exact rt_i hx hb hr hlk hK hS ((u1.1, u1.2, g_p5) : TW × TH × (Nat → Int64)) (ret2 h) hP hD dL_drift_26
    replace h := iteF c4 h
    exact nomatch h
  subst hw
  replace h := sumR h
  have hP : va_P D vwCl (cSP a_p1 ++ (cW dT (a_p1 4) u1.1 ++ (cH dT (a_p1 6) u1.2 ++ (cJ_ dT a_p5 n_p5 g_p5)))) H := hP.perm (wj_back [cSP a_p1, cW dT (a_p1 4) u1.1, cH dT (a_p1 6) u1.2] [cJ_ dT a_p5 n_p5 g_p5] [0, 1, 2, 3] rfl)
  have hD : va_D A (cSP a_p1 ++ (cW dT (a_p1 4) u1.1 ++ (cH dT (a_p1 6) u1.2 ++ (cJ_ dT a_p5 n_p5 g_p5)))) := hD.perm (wj_back [cSP a_p1, cW dT (a_p1 4) u1.1, cH dT (a_p1 6) u1.2] [cJ_ dT a_p5 n_p5 g_p5] [0, 1, 2, 3] rfl)
  refine lv_i2l hx hb dL_drift_10 rfl ?_
  obtain ⟨g5, h⟩ := chk h
  refine va_last hx hb hK hP hD hS 153 1 rfl rfl (inb_in g5) dL_drift_11 (fun H locs hP hD hS => ?_)
  have hP : va_P D vwCl (cSP a_p1 ++ (cW dT (a_p1 4) u1.1 ++ (cH dT (a_p1 6) u1.2 ++ (cJ_ dT a_p5 n_p5 (vp_updL g_p5 (0 : Int32).toNatClampNeg (Int32.toInt64 r1)))))) H := hP
  have hD : va_D A (cSP a_p1 ++ (cW dT (a_p1 4) u1.1 ++ (cH dT (a_p1 6) u1.2 ++ (cJ_ dT a_p5 n_p5 (vp_updL g_p5 (0 : Int32).toNatClampNeg (Int32.toInt64 r1)))))) := hD
  refine lv_goto (tgt := 27) hx hb dL_drift_12 (by decide) ?_
  refine lv_iconst (v := 0) hx hb dL_drift_27 (by decide) ?_
  exact rt_i hx hb hr hlk hK hS ((u1.1, u1.2, (vp_updL g_p5 (0 : Int32).toNatClampNeg (Int32.toInt64 r1))) : TW × TH × (Nat → Int64)) (ret2 h) hP hD dL_drift_28

def f_L_run (n_p3 : Nat) (g_p1_world : TW) (g_p1_chosen : TP) (g_p1_other : TP) (g_p1_history : TH) (g_p3 : Nat → Int64) (v1 : Int32) : Option (Int32 × (TW × TP × TP × TH × (Nat → Int64))) :=
  ((f_X8_run g_p1_world g_p1_chosen g_p1_other g_p1_history v1).bind fun o1 => (fun u1 => o1.1.elim (fun k1 => (if k1 = 2 then (some ((1 : Int32), (u1.1, u1.2.1, u1.2.2.1, u1.2.2.2, g_p3))) else (if k1 = 0 then (some ((2 : Int32), (u1.1, u1.2.1, u1.2.2.1, u1.2.2.2, g_p3))) else none))) (fun r1 => (if inb (0 : Int32) n_p3 = true then (some ((0 : Int32), (u1.1, u1.2.1, u1.2.2.1, u1.2.2.2, (vp_updL g_p3 (0 : Int32).toNatClampNeg (Int32.toInt64 r1))))) else none))) o1.2)
set_option maxHeartbeats 8000000 in
set_option maxRecDepth 100000 in
theorem c_L_run (l : Launch) (hlt : l.stackTraces = false) (D : va_G) (dT : Nat → ClassId) (a_p1 : Nat → Nat → Nat) (a_p3 : Nat) (n_p3 : Nat) (g_p1_world : TW) (g_p1_chosen : TP) (g_p1_other : TP) (g_p1_history : TH) (g_p3 : Nat → Int64) (v1 : Int32) (o : (Int32 × (TW × TP × TP × TH × (Nat → Int64)))) (h : f_L_run n_p3 g_p1_world g_p1_chosen g_p1_other g_p1_history g_p3 v1 = some o) (sz : Nat) : Met l yL_run (Cond.codeWith yL_run cL_run 4 (some .int) [(0, 9, 12, 31), (0, 9, 15, 13)] :: TB) { frames := 8, cells := 2, slots := 12, locals := 168 } (va_Pc [.ref (a_p1 0 0), .int v1, .ref a_p3] (cPre D dT (cSP a_p1 ++ (cW dT (a_p1 4) g_p1_world ++ (cP dT (a_p1 8) g_p1_chosen ++ (cP dT (a_p1 9) g_p1_other ++ (cH dT (a_p1 6) g_p1_history ++ (cJ_ dT a_p3 n_p3 g_p3)))))) sz)) (va_Qi (fun (r : Int32) (u : TW × TP × TP × TH × (Nat → Int64)) => r = o.1 ∧ u = o.2) (fun u t => cAt D dT (va_A (cSP a_p1 ++ (cW dT (a_p1 4) g_p1_world ++ (cP dT (a_p1 8) g_p1_chosen ++ (cP dT (a_p1 9) g_p1_other ++ (cH dT (a_p1 6) g_p1_history ++ (cJ_ dT a_p3 n_p3 g_p3)))))) sz) (cSP a_p1 ++ (cW dT (a_p1 4) (u.1) ++ (cP dT (a_p1 8) (u.2.1) ++ (cP dT (a_p1 9) (u.2.2.1) ++ (cH dT (a_p1 6) (u.2.2.2.1) ++ (cJ_ dT a_p3 n_p3 (u.2.2.2.2))))))) t) (va_A (cSP a_p1 ++ (cW dT (a_p1 4) g_p1_world ++ (cP dT (a_p1 8) g_p1_chosen ++ (cP dT (a_p1 9) g_p1_other ++ (cH dT (a_p1 6) g_p1_history ++ (cJ_ dT a_p3 n_p3 g_p3)))))) sz)) 2 12 (va_A (cSP a_p1 ++ (cW dT (a_p1 4) g_p1_world ++ (cP dT (a_p1 8) g_p1_chosen ++ (cP dT (a_p1 9) g_p1_other ++ (cH dT (a_p1 6) g_p1_history ++ (cJ_ dT a_p3 n_p3 g_p3)))))) sz) := by
  refine mStartH (WS := (cSP a_p1 ++ (cW dT (a_p1 4) g_p1_world ++ (cP dT (a_p1 8) g_p1_chosen ++ (cP dT (a_p1 9) g_p1_other ++ (cH dT (a_p1 6) g_p1_history ++ (cJ_ dT a_p3 n_p3 g_p3))))))) (Qc := fun A => va_Qi (fun (r : Int32) (u : TW × TP × TP × TH × (Nat → Int64)) => r = o.1 ∧ u = o.2) (fun u t => cAt D dT A (cSP a_p1 ++ (cW dT (a_p1 4) (u.1) ++ (cP dT (a_p1 8) (u.2.1) ++ (cP dT (a_p1 9) (u.2.2.1) ++ (cH dT (a_p1 6) (u.2.2.2.1) ++ (cJ_ dT a_p3 n_p3 (u.2.2.2.2))))))) t) A) RL rfl (by decide) (Nat.le_of_ble_eq_true rfl) ?_ sz
  intro p e s m below meth c A ls hx hb hml hr hlk htab hts hqs hown hE hA hK hP hD hS hl
  have hl : lv_has ls 4 [(0, .ref (a_p1 0 0)), (1, .int v1), (2, .ref a_p3)] := hl
  unfold f_L_run at h
  refine lv_aload_n hx hb dL_run_0 rfl (lv_at hl 2 rfl) ?_
  refine lv_iconst (v := 0) hx hb dL_run_1 (by decide) ?_
  refine lv_aload_n hx hb dL_run_2 rfl (lv_at hl 0 rfl) ?_
  refine lv_iload_n hx hb dL_run_3 rfl (lv_at hl 1 rfl) ?_
  obtain ⟨o1, e1, h⟩ := obind h
  have hPq : va_P D vwCl ((cSP a_p1 ++ (cW dT (a_p1 4) g_p1_world ++ (cP dT (a_p1 8) g_p1_chosen ++ (cP dT (a_p1 9) g_p1_other ++ (cH dT (a_p1 6) g_p1_history))))) ++ (cJ_ dT a_p3 n_p3 g_p3)) _ := hP.perm (wj_split [cSP a_p1, cW dT (a_p1 4) g_p1_world, cP dT (a_p1 8) g_p1_chosen, cP dT (a_p1 9) g_p1_other, cH dT (a_p1 6) g_p1_history, cJ_ dT a_p3 n_p3 g_p3] [0, 1, 2, 3, 4] [5] rfl)
  have hDq : va_D A ((cSP a_p1 ++ (cW dT (a_p1 4) g_p1_world ++ (cP dT (a_p1 8) g_p1_chosen ++ (cP dT (a_p1 9) g_p1_other ++ (cH dT (a_p1 6) g_p1_history))))) ++ (cJ_ dT a_p3 n_p3 g_p3)) := hD.perm (wj_split [cSP a_p1, cW dT (a_p1 4) g_p1_world, cP dT (a_p1 8) g_p1_chosen, cP dT (a_p1 9) g_p1_other, cH dT (a_p1 6) g_p1_history, cJ_ dT a_p3 n_p3 g_p3] [0, 1, 2, 3, 4] [5] rfl)
  have hPc := hPq.left
  have hDc := hDq.left
  have hFc := va_freeL hDq hS hA
  refine xcl_iL (wr := (cJ_ dT a_p3 n_p3 g_p3)) (vx_runV (As := [.int v1]) (rest := [.int (0 : Int32), .ref a_p3]) ⟨hx, hb, hml, hown, hts⟩ (c_X8_run l hlt D dT a_p1 g_p1_world g_p1_chosen g_p1_other g_p1_history v1 o1 e1 _) (cwV 1 hts (TB_V w_737 w_738 w_739 w_50 w_740) rfl rfl rfl ⟨rfl, nd_X8_run⟩ ⟨Nat.le_of_ble_eq_true rfl, Nat.le_of_ble_eq_true rfl⟩) (cPre.V hPc hDc hK hE hS hFc (va_recv hK hPc (ci := 7) (q0 := 0) rfl rfl)) rfl rfl hl.1 rfl (lv_room (Nat.le_of_ble_eq_true rfl)) dL_run_4 ⟨Nat.le_of_ble_eq_true rfl, Nat.le_of_ble_eq_true rfl⟩) hPq hDq hS hFc (fun k1 u1 E1 ce1 q1 H locs hw hEk hP hD hS hxc hxv hxl => ?_) (fun r1 u1 H locs hw hP hD hS => ?_)
  · have hw := xoP_inv hw
    subst hw
    have hP : va_P D vwCl (cSP a_p1 ++ (cW dT (a_p1 4) u1.1 ++ (cP dT (a_p1 8) u1.2.1 ++ (cP dT (a_p1 9) u1.2.2.1 ++ (cH dT (a_p1 6) u1.2.2.2 ++ (cJ_ dT a_p3 n_p3 g_p3)))))) H := hP.perm (wj_back [cSP a_p1, cW dT (a_p1 4) u1.1, cP dT (a_p1 8) u1.2.1, cP dT (a_p1 9) u1.2.2.1, cH dT (a_p1 6) u1.2.2.2] [cJ_ dT a_p3 n_p3 g_p3] [0, 1, 2, 3, 4, 5] rfl)
    have hD : va_D A (cSP a_p1 ++ (cW dT (a_p1 4) u1.1 ++ (cP dT (a_p1 8) u1.2.1 ++ (cP dT (a_p1 9) u1.2.2.1 ++ (cH dT (a_p1 6) u1.2.2.2 ++ (cJ_ dT a_p3 n_p3 g_p3)))))) := hD.perm (wj_back [cSP a_p1, cW dT (a_p1 4) u1.1, cP dT (a_p1 8) u1.2.1, cP dT (a_p1 9) u1.2.2.1, cH dT (a_p1 6) u1.2.2.2] [cJ_ dT a_p3 n_p3 g_p3] [0, 1, 2, 3, 4, 5] rfl)
    by_cases c2 : k1 = 2
    · replace h := iteT c2 h
      subst c2
      have hEk : E1 = EXB := hEk
      refine vx_catch (name := EXB) (E := E1) hown [] ⟨0, 9, 12, 31⟩ [⟨0, 9, 15, 13⟩] (htab.trans rfl) (fun z hz => absurd hz List.not_mem_nil) rfl (by decide) (hqs _ w_608) (by rw [hEk]; exact va_Nw.use rfl (hE.2.2.1 (EXB, EXB) (by decide +kernel))) hxc hxv hxl ?_
      refine lv_astore_n (lv' := [(3, .ref q1), (0, .ref (a_p1 0 0)), (1, .int v1), (2, .ref a_p3)]) hx hb dL_run_12 rfl hl (by decide) rfl (fun ls hl => ?_)
      refine lv_iconst (v := 1) hx hb dL_run_13 (by decide) ?_
      exact rt_i hx hb hr hlk hK hS ((u1.1, u1.2.1, u1.2.2.1, u1.2.2.2, g_p3) : TW × TP × TP × TH × (Nat → Int64)) (ret2 h) hP hD dL_run_14
    replace h := iteF c2 h
    by_cases c3 : k1 = 0
    · replace h := iteT c3 h
      subst c3
      have hEk : E1 = EXI := hEk
      refine vx_catch (name := EXI) (E := E1) hown [(⟨0, 9, 12, 31⟩ : ExceptionTableEntry)] ⟨0, 9, 15, 13⟩ [] (htab.trans rfl) (fun z hz => by
      simp only [List.mem_cons, List.not_mem_nil, or_false] at hz
      rcases hz with rfl
      · exact Or.inr ⟨by decide, EXB, hqs _ w_608, by rw [hEk]; exact hE.2.2.2.1 (EXI, EXB) (by decide +kernel)⟩) rfl (by decide) (hqs _ w_410) (by rw [hEk]; exact va_Nw.use rfl (hE.2.2.1 (EXI, EXI) (by decide +kernel))) hxc hxv hxl ?_
      refine lv_astore_n (lv' := [(3, .ref q1), (0, .ref (a_p1 0 0)), (1, .int v1), (2, .ref a_p3)]) hx hb dL_run_15 rfl hl (by decide) rfl (fun ls hl => ?_)
      refine lv_iconst (v := 2) hx hb dL_run_16 (by decide) ?_
      exact rt_i hx hb hr hlk hK hS ((u1.1, u1.2.1, u1.2.2.1, u1.2.2.2, g_p3) : TW × TP × TP × TH × (Nat → Int64)) (ret2 h) hP hD dL_run_17
    replace h := iteF c3 h
    exact nomatch h
  subst hw
  replace h := sumR h
  have hP : va_P D vwCl (cSP a_p1 ++ (cW dT (a_p1 4) u1.1 ++ (cP dT (a_p1 8) u1.2.1 ++ (cP dT (a_p1 9) u1.2.2.1 ++ (cH dT (a_p1 6) u1.2.2.2 ++ (cJ_ dT a_p3 n_p3 g_p3)))))) H := hP.perm (wj_back [cSP a_p1, cW dT (a_p1 4) u1.1, cP dT (a_p1 8) u1.2.1, cP dT (a_p1 9) u1.2.2.1, cH dT (a_p1 6) u1.2.2.2] [cJ_ dT a_p3 n_p3 g_p3] [0, 1, 2, 3, 4, 5] rfl)
  have hD : va_D A (cSP a_p1 ++ (cW dT (a_p1 4) u1.1 ++ (cP dT (a_p1 8) u1.2.1 ++ (cP dT (a_p1 9) u1.2.2.1 ++ (cH dT (a_p1 6) u1.2.2.2 ++ (cJ_ dT a_p3 n_p3 g_p3)))))) := hD.perm (wj_back [cSP a_p1, cW dT (a_p1 4) u1.1, cP dT (a_p1 8) u1.2.1, cP dT (a_p1 9) u1.2.2.1, cH dT (a_p1 6) u1.2.2.2] [cJ_ dT a_p3 n_p3 g_p3] [0, 1, 2, 3, 4, 5] rfl)
  refine lv_i2l hx hb dL_run_7 rfl ?_
  obtain ⟨g4, h⟩ := chk h
  refine va_last hx hb hK hP hD hS 169 1 rfl rfl (inb_in g4) dL_run_8 (fun H locs hP hD hS => ?_)
  have hP : va_P D vwCl (cSP a_p1 ++ (cW dT (a_p1 4) u1.1 ++ (cP dT (a_p1 8) u1.2.1 ++ (cP dT (a_p1 9) u1.2.2.1 ++ (cH dT (a_p1 6) u1.2.2.2 ++ (cJ_ dT a_p3 n_p3 (vp_updL g_p3 (0 : Int32).toNatClampNeg (Int32.toInt64 r1)))))))) H := hP
  have hD : va_D A (cSP a_p1 ++ (cW dT (a_p1 4) u1.1 ++ (cP dT (a_p1 8) u1.2.1 ++ (cP dT (a_p1 9) u1.2.2.1 ++ (cH dT (a_p1 6) u1.2.2.2 ++ (cJ_ dT a_p3 n_p3 (vp_updL g_p3 (0 : Int32).toNatClampNeg (Int32.toInt64 r1)))))))) := hD
  refine lv_goto (tgt := 18) hx hb dL_run_9 (by decide) ?_
  refine lv_iconst (v := 0) hx hb dL_run_18 (by decide) ?_
  exact rt_i hx hb hr hlk hK hS ((u1.1, u1.2.1, u1.2.2.1, u1.2.2.2, (vp_updL g_p3 (0 : Int32).toNatClampNeg (Int32.toInt64 r1))) : TW × TP × TP × TH × (Nat → Int64)) (ret2 h) hP hD dL_run_19

def f_L_weeks (n_p3 : Nat) (g_p1_world : TW) (g_p1_history : TH) (g_p3 : Nat → Int64) (v1 : Int32) : Option (Int32 × (TW × TH × (Nat → Int64))) :=
  ((f_X8_weeks g_p1_world g_p1_history v1).bind fun o1 => (fun u1 => o1.1.elim (fun k1 => (if k1 = 0 then (some ((1 : Int32), (u1.1, u1.2, g_p3))) else none)) (fun r1 => (if inb (0 : Int32) n_p3 = true then (some ((0 : Int32), (u1.1, u1.2, (vp_updL g_p3 (0 : Int32).toNatClampNeg (Int32.toInt64 r1))))) else none))) o1.2)
set_option maxHeartbeats 8000000 in
set_option maxRecDepth 100000 in
theorem c_L_weeks (l : Launch) (hlt : l.stackTraces = false) (D : va_G) (dT : Nat → ClassId) (a_p1 : Nat → Nat → Nat) (a_p3 : Nat) (n_p3 : Nat) (g_p1_world : TW) (g_p1_history : TH) (g_p3 : Nat → Int64) (v1 : Int32) (o : (Int32 × (TW × TH × (Nat → Int64)))) (h : f_L_weeks n_p3 g_p1_world g_p1_history g_p3 v1 = some o) (sz : Nat) : Met l yL_weeks (Cond.codeWith yL_weeks cL_weeks 4 (some .int) [(0, 9, 12, 13)] :: TB) { frames := 8, cells := 1, slots := 6, locals := 133 } (va_Pc [.ref (a_p1 0 0), .int v1, .ref a_p3] (cPre D dT (cSP a_p1 ++ (cW dT (a_p1 4) g_p1_world ++ (cH dT (a_p1 6) g_p1_history ++ (cJ_ dT a_p3 n_p3 g_p3)))) sz)) (va_Qi (fun (r : Int32) (u : TW × TH × (Nat → Int64)) => r = o.1 ∧ u = o.2) (fun u t => cAt D dT (va_A (cSP a_p1 ++ (cW dT (a_p1 4) g_p1_world ++ (cH dT (a_p1 6) g_p1_history ++ (cJ_ dT a_p3 n_p3 g_p3)))) sz) (cSP a_p1 ++ (cW dT (a_p1 4) (u.1) ++ (cH dT (a_p1 6) (u.2.1) ++ (cJ_ dT a_p3 n_p3 (u.2.2))))) t) (va_A (cSP a_p1 ++ (cW dT (a_p1 4) g_p1_world ++ (cH dT (a_p1 6) g_p1_history ++ (cJ_ dT a_p3 n_p3 g_p3)))) sz)) 1 6 (va_A (cSP a_p1 ++ (cW dT (a_p1 4) g_p1_world ++ (cH dT (a_p1 6) g_p1_history ++ (cJ_ dT a_p3 n_p3 g_p3)))) sz) := by
  refine mStartH (WS := (cSP a_p1 ++ (cW dT (a_p1 4) g_p1_world ++ (cH dT (a_p1 6) g_p1_history ++ (cJ_ dT a_p3 n_p3 g_p3))))) (Qc := fun A => va_Qi (fun (r : Int32) (u : TW × TH × (Nat → Int64)) => r = o.1 ∧ u = o.2) (fun u t => cAt D dT A (cSP a_p1 ++ (cW dT (a_p1 4) (u.1) ++ (cH dT (a_p1 6) (u.2.1) ++ (cJ_ dT a_p3 n_p3 (u.2.2))))) t) A) RL rfl (by decide) (Nat.le_of_ble_eq_true rfl) ?_ sz
  intro p e s m below meth c A ls hx hb hml hr hlk htab hts hqs hown hE hA hK hP hD hS hl
  have hl : lv_has ls 4 [(0, .ref (a_p1 0 0)), (1, .int v1), (2, .ref a_p3)] := hl
  unfold f_L_weeks at h
  refine lv_aload_n hx hb dL_weeks_0 rfl (lv_at hl 2 rfl) ?_
  refine lv_iconst (v := 0) hx hb dL_weeks_1 (by decide) ?_
  refine lv_aload_n hx hb dL_weeks_2 rfl (lv_at hl 0 rfl) ?_
  refine lv_iload_n hx hb dL_weeks_3 rfl (lv_at hl 1 rfl) ?_
  obtain ⟨o1, e1, h⟩ := obind h
  have hPq : va_P D vwCl ((cSP a_p1 ++ (cW dT (a_p1 4) g_p1_world ++ (cH dT (a_p1 6) g_p1_history))) ++ (cJ_ dT a_p3 n_p3 g_p3)) _ := hP.perm (wj_split [cSP a_p1, cW dT (a_p1 4) g_p1_world, cH dT (a_p1 6) g_p1_history, cJ_ dT a_p3 n_p3 g_p3] [0, 1, 2] [3] rfl)
  have hDq : va_D A ((cSP a_p1 ++ (cW dT (a_p1 4) g_p1_world ++ (cH dT (a_p1 6) g_p1_history))) ++ (cJ_ dT a_p3 n_p3 g_p3)) := hD.perm (wj_split [cSP a_p1, cW dT (a_p1 4) g_p1_world, cH dT (a_p1 6) g_p1_history, cJ_ dT a_p3 n_p3 g_p3] [0, 1, 2] [3] rfl)
  have hPc := hPq.left
  have hDc := hDq.left
  have hFc := va_freeL hDq hS hA
  refine xcl_iL (wr := (cJ_ dT a_p3 n_p3 g_p3)) (vx_runV (As := [.int v1]) (rest := [.int (0 : Int32), .ref a_p3]) ⟨hx, hb, hml, hown, hts⟩ (c_X8_weeks l hlt D dT a_p1 g_p1_world g_p1_history v1 o1 e1 _) (cwV 1 hts (TB_V w_846 w_847 w_848 w_50 w_849) rfl rfl rfl ⟨rfl, nd_X8_weeks⟩ ⟨Nat.le_of_ble_eq_true rfl, Nat.le_of_ble_eq_true rfl⟩) (cPre.V hPc hDc hK hE hS hFc (va_recv hK hPc (ci := 7) (q0 := 0) rfl rfl)) rfl rfl hl.1 rfl (lv_room (Nat.le_of_ble_eq_true rfl)) dL_weeks_4 ⟨Nat.le_of_ble_eq_true rfl, Nat.le_of_ble_eq_true rfl⟩) hPq hDq hS hFc (fun k1 u1 E1 ce1 q1 H locs hw hEk hP hD hS hxc hxv hxl => ?_) (fun r1 u1 H locs hw hP hD hS => ?_)
  · have hw := xoP_inv hw
    subst hw
    have hP : va_P D vwCl (cSP a_p1 ++ (cW dT (a_p1 4) u1.1 ++ (cH dT (a_p1 6) u1.2 ++ (cJ_ dT a_p3 n_p3 g_p3)))) H := hP.perm (wj_back [cSP a_p1, cW dT (a_p1 4) u1.1, cH dT (a_p1 6) u1.2] [cJ_ dT a_p3 n_p3 g_p3] [0, 1, 2, 3] rfl)
    have hD : va_D A (cSP a_p1 ++ (cW dT (a_p1 4) u1.1 ++ (cH dT (a_p1 6) u1.2 ++ (cJ_ dT a_p3 n_p3 g_p3)))) := hD.perm (wj_back [cSP a_p1, cW dT (a_p1 4) u1.1, cH dT (a_p1 6) u1.2] [cJ_ dT a_p3 n_p3 g_p3] [0, 1, 2, 3] rfl)
    by_cases c2 : k1 = 0
    · replace h := iteT c2 h
      subst c2
      have hEk : E1 = EXI := hEk
      refine vx_catch (name := EXI) (E := E1) hown [] ⟨0, 9, 12, 13⟩ [] (htab.trans rfl) (fun z hz => absurd hz List.not_mem_nil) rfl (by decide) (hqs _ w_410) (by rw [hEk]; exact va_Nw.use rfl (hE.2.2.1 (EXI, EXI) (by decide +kernel))) hxc hxv hxl ?_
      refine lv_astore_n (lv' := [(3, .ref q1), (0, .ref (a_p1 0 0)), (1, .int v1), (2, .ref a_p3)]) hx hb dL_weeks_12 rfl hl (by decide) rfl (fun ls hl => ?_)
      refine lv_iconst (v := 1) hx hb dL_weeks_13 (by decide) ?_
      exact rt_i hx hb hr hlk hK hS ((u1.1, u1.2, g_p3) : TW × TH × (Nat → Int64)) (ret2 h) hP hD dL_weeks_14
    replace h := iteF c2 h
    exact nomatch h
  subst hw
  replace h := sumR h
  have hP : va_P D vwCl (cSP a_p1 ++ (cW dT (a_p1 4) u1.1 ++ (cH dT (a_p1 6) u1.2 ++ (cJ_ dT a_p3 n_p3 g_p3)))) H := hP.perm (wj_back [cSP a_p1, cW dT (a_p1 4) u1.1, cH dT (a_p1 6) u1.2] [cJ_ dT a_p3 n_p3 g_p3] [0, 1, 2, 3] rfl)
  have hD : va_D A (cSP a_p1 ++ (cW dT (a_p1 4) u1.1 ++ (cH dT (a_p1 6) u1.2 ++ (cJ_ dT a_p3 n_p3 g_p3)))) := hD.perm (wj_back [cSP a_p1, cW dT (a_p1 4) u1.1, cH dT (a_p1 6) u1.2] [cJ_ dT a_p3 n_p3 g_p3] [0, 1, 2, 3] rfl)
  refine lv_i2l hx hb dL_weeks_7 rfl ?_
  obtain ⟨g3, h⟩ := chk h
  refine va_last hx hb hK hP hD hS 153 1 rfl rfl (inb_in g3) dL_weeks_8 (fun H locs hP hD hS => ?_)
  have hP : va_P D vwCl (cSP a_p1 ++ (cW dT (a_p1 4) u1.1 ++ (cH dT (a_p1 6) u1.2 ++ (cJ_ dT a_p3 n_p3 (vp_updL g_p3 (0 : Int32).toNatClampNeg (Int32.toInt64 r1)))))) H := hP
  have hD : va_D A (cSP a_p1 ++ (cW dT (a_p1 4) u1.1 ++ (cH dT (a_p1 6) u1.2 ++ (cJ_ dT a_p3 n_p3 (vp_updL g_p3 (0 : Int32).toNatClampNeg (Int32.toInt64 r1)))))) := hD
  refine lv_goto (tgt := 15) hx hb dL_weeks_9 (by decide) ?_
  refine lv_iconst (v := 0) hx hb dL_weeks_15 (by decide) ?_
  exact rt_i hx hb hr hlk hK hS ((u1.1, u1.2, (vp_updL g_p3 (0 : Int32).toNatClampNeg (Int32.toInt64 r1))) : TW × TH × (Nat → Int64)) (ret2 h) hP hD dL_weeks_16

def f_L_set (n_p4 : Nat) (g_p1_world : TW) (g_p1_history : TH) (g_p4 : Nat → Int64) (v1 : Int32) (v2 : Int32) : Option (Int32 × (TW × TH × (Nat → Int64))) :=
  ((f_X8_set g_p1_world g_p1_history v1 v2).bind fun o1 => (fun u1 => o1.1.elim (fun k1 => (if k1 = 0 then (some ((1 : Int32), (u1.1, u1.2, g_p4))) else none)) (fun r1 => (if inb (0 : Int32) n_p4 = true then (some ((0 : Int32), (u1.1, u1.2, (vp_updL g_p4 (0 : Int32).toNatClampNeg (Int32.toInt64 r1))))) else none))) o1.2)
set_option maxHeartbeats 8000000 in
set_option maxRecDepth 100000 in
theorem c_L_set (l : Launch) (hlt : l.stackTraces = false) (D : va_G) (dT : Nat → ClassId) (a_p1 : Nat → Nat → Nat) (a_p4 : Nat) (n_p4 : Nat) (g_p1_world : TW) (g_p1_history : TH) (g_p4 : Nat → Int64) (v1 : Int32) (v2 : Int32) (o : (Int32 × (TW × TH × (Nat → Int64)))) (h : f_L_set n_p4 g_p1_world g_p1_history g_p4 v1 v2 = some o) (sz : Nat) : Met l yL_set (Cond.codeWith yL_set cL_set 5 (some .int) [(0, 10, 13, 13)] :: TB) { frames := 7, cells := 1, slots := 6, locals := 113 } (va_Pc [.ref (a_p1 0 0), .int v1, .int v2, .ref a_p4] (cPre D dT (cSP a_p1 ++ (cW dT (a_p1 4) g_p1_world ++ (cH dT (a_p1 6) g_p1_history ++ (cJ_ dT a_p4 n_p4 g_p4)))) sz)) (va_Qi (fun (r : Int32) (u : TW × TH × (Nat → Int64)) => r = o.1 ∧ u = o.2) (fun u t => cAt D dT (va_A (cSP a_p1 ++ (cW dT (a_p1 4) g_p1_world ++ (cH dT (a_p1 6) g_p1_history ++ (cJ_ dT a_p4 n_p4 g_p4)))) sz) (cSP a_p1 ++ (cW dT (a_p1 4) (u.1) ++ (cH dT (a_p1 6) (u.2.1) ++ (cJ_ dT a_p4 n_p4 (u.2.2))))) t) (va_A (cSP a_p1 ++ (cW dT (a_p1 4) g_p1_world ++ (cH dT (a_p1 6) g_p1_history ++ (cJ_ dT a_p4 n_p4 g_p4)))) sz)) 1 6 (va_A (cSP a_p1 ++ (cW dT (a_p1 4) g_p1_world ++ (cH dT (a_p1 6) g_p1_history ++ (cJ_ dT a_p4 n_p4 g_p4)))) sz) := by
  refine mStartH (WS := (cSP a_p1 ++ (cW dT (a_p1 4) g_p1_world ++ (cH dT (a_p1 6) g_p1_history ++ (cJ_ dT a_p4 n_p4 g_p4))))) (Qc := fun A => va_Qi (fun (r : Int32) (u : TW × TH × (Nat → Int64)) => r = o.1 ∧ u = o.2) (fun u t => cAt D dT A (cSP a_p1 ++ (cW dT (a_p1 4) (u.1) ++ (cH dT (a_p1 6) (u.2.1) ++ (cJ_ dT a_p4 n_p4 (u.2.2))))) t) A) RL rfl (by decide) (Nat.le_of_ble_eq_true rfl) ?_ sz
  intro p e s m below meth c A ls hx hb hml hr hlk htab hts hqs hown hE hA hK hP hD hS hl
  have hl : lv_has ls 5 [(0, .ref (a_p1 0 0)), (1, .int v1), (2, .int v2), (3, .ref a_p4)] := hl
  unfold f_L_set at h
  refine lv_aload_n hx hb dL_set_0 rfl (lv_at hl 3 rfl) ?_
  refine lv_iconst (v := 0) hx hb dL_set_1 (by decide) ?_
  refine lv_aload_n hx hb dL_set_2 rfl (lv_at hl 0 rfl) ?_
  refine lv_iload_n hx hb dL_set_3 rfl (lv_at hl 1 rfl) ?_
  refine lv_iload_n hx hb dL_set_4 rfl (lv_at hl 2 rfl) ?_
  obtain ⟨o1, e1, h⟩ := obind h
  have hPq : va_P D vwCl ((cSP a_p1 ++ (cW dT (a_p1 4) g_p1_world ++ (cH dT (a_p1 6) g_p1_history))) ++ (cJ_ dT a_p4 n_p4 g_p4)) _ := hP.perm (wj_split [cSP a_p1, cW dT (a_p1 4) g_p1_world, cH dT (a_p1 6) g_p1_history, cJ_ dT a_p4 n_p4 g_p4] [0, 1, 2] [3] rfl)
  have hDq : va_D A ((cSP a_p1 ++ (cW dT (a_p1 4) g_p1_world ++ (cH dT (a_p1 6) g_p1_history))) ++ (cJ_ dT a_p4 n_p4 g_p4)) := hD.perm (wj_split [cSP a_p1, cW dT (a_p1 4) g_p1_world, cH dT (a_p1 6) g_p1_history, cJ_ dT a_p4 n_p4 g_p4] [0, 1, 2] [3] rfl)
  have hPc := hPq.left
  have hDc := hDq.left
  have hFc := va_freeL hDq hS hA
  refine xcl_iL (wr := (cJ_ dT a_p4 n_p4 g_p4)) (vx_runV (As := [.int v1, .int v2]) (rest := [.int (0 : Int32), .ref a_p4]) ⟨hx, hb, hml, hown, hts⟩ (c_X8_set l hlt D dT a_p1 g_p1_world g_p1_history v1 v2 o1 e1 _) (cwV 2 hts (TB_V w_861 w_862 w_863 w_50 w_864) rfl rfl rfl ⟨rfl, nd_X8_set⟩ ⟨Nat.le_of_ble_eq_true rfl, Nat.le_of_ble_eq_true rfl⟩) (cPre.V hPc hDc hK hE hS hFc (va_recv hK hPc (ci := 7) (q0 := 0) rfl rfl)) rfl rfl hl.1 rfl (lv_room (Nat.le_of_ble_eq_true rfl)) dL_set_5 ⟨Nat.le_of_ble_eq_true rfl, Nat.le_of_ble_eq_true rfl⟩) hPq hDq hS hFc (fun k1 u1 E1 ce1 q1 H locs hw hEk hP hD hS hxc hxv hxl => ?_) (fun r1 u1 H locs hw hP hD hS => ?_)
  · have hw := xoP_inv hw
    subst hw
    have hP : va_P D vwCl (cSP a_p1 ++ (cW dT (a_p1 4) u1.1 ++ (cH dT (a_p1 6) u1.2 ++ (cJ_ dT a_p4 n_p4 g_p4)))) H := hP.perm (wj_back [cSP a_p1, cW dT (a_p1 4) u1.1, cH dT (a_p1 6) u1.2] [cJ_ dT a_p4 n_p4 g_p4] [0, 1, 2, 3] rfl)
    have hD : va_D A (cSP a_p1 ++ (cW dT (a_p1 4) u1.1 ++ (cH dT (a_p1 6) u1.2 ++ (cJ_ dT a_p4 n_p4 g_p4)))) := hD.perm (wj_back [cSP a_p1, cW dT (a_p1 4) u1.1, cH dT (a_p1 6) u1.2] [cJ_ dT a_p4 n_p4 g_p4] [0, 1, 2, 3] rfl)
    by_cases c2 : k1 = 0
    · replace h := iteT c2 h
      subst c2
      have hEk : E1 = EXI := hEk
      refine vx_catch (name := EXI) (E := E1) hown [] ⟨0, 10, 13, 13⟩ [] (htab.trans rfl) (fun z hz => absurd hz List.not_mem_nil) rfl (by decide) (hqs _ w_410) (by rw [hEk]; exact va_Nw.use rfl (hE.2.2.1 (EXI, EXI) (by decide +kernel))) hxc hxv hxl ?_
      refine lv_astore (lv' := [(4, .ref q1), (0, .ref (a_p1 0 0)), (1, .int v1), (2, .int v2), (3, .ref a_p4)]) hx hb dL_set_13 hl (by decide) rfl (fun ls hl => ?_)
      refine lv_iconst (v := 1) hx hb dL_set_15 (by decide) ?_
      exact rt_i hx hb hr hlk hK hS ((u1.1, u1.2, g_p4) : TW × TH × (Nat → Int64)) (ret2 h) hP hD dL_set_16
    replace h := iteF c2 h
    exact nomatch h
  subst hw
  replace h := sumR h
  have hP : va_P D vwCl (cSP a_p1 ++ (cW dT (a_p1 4) u1.1 ++ (cH dT (a_p1 6) u1.2 ++ (cJ_ dT a_p4 n_p4 g_p4)))) H := hP.perm (wj_back [cSP a_p1, cW dT (a_p1 4) u1.1, cH dT (a_p1 6) u1.2] [cJ_ dT a_p4 n_p4 g_p4] [0, 1, 2, 3] rfl)
  have hD : va_D A (cSP a_p1 ++ (cW dT (a_p1 4) u1.1 ++ (cH dT (a_p1 6) u1.2 ++ (cJ_ dT a_p4 n_p4 g_p4)))) := hD.perm (wj_back [cSP a_p1, cW dT (a_p1 4) u1.1, cH dT (a_p1 6) u1.2] [cJ_ dT a_p4 n_p4 g_p4] [0, 1, 2, 3] rfl)
  refine lv_i2l hx hb dL_set_8 rfl ?_
  obtain ⟨g3, h⟩ := chk h
  refine va_last hx hb hK hP hD hS 153 1 rfl rfl (inb_in g3) dL_set_9 (fun H locs hP hD hS => ?_)
  have hP : va_P D vwCl (cSP a_p1 ++ (cW dT (a_p1 4) u1.1 ++ (cH dT (a_p1 6) u1.2 ++ (cJ_ dT a_p4 n_p4 (vp_updL g_p4 (0 : Int32).toNatClampNeg (Int32.toInt64 r1)))))) H := hP
  have hD : va_D A (cSP a_p1 ++ (cW dT (a_p1 4) u1.1 ++ (cH dT (a_p1 6) u1.2 ++ (cJ_ dT a_p4 n_p4 (vp_updL g_p4 (0 : Int32).toNatClampNeg (Int32.toInt64 r1)))))) := hD
  refine lv_goto (tgt := 17) hx hb dL_set_10 (by decide) ?_
  refine lv_iconst (v := 0) hx hb dL_set_17 (by decide) ?_
  exact rt_i hx hb hr hlk hK hS ((u1.1, u1.2, (vp_updL g_p4 (0 : Int32).toNatClampNeg (Int32.toInt64 r1))) : TW × TH × (Nat → Int64)) (ret2 h) hP hD dL_set_18

def f_L_undo (n_p2 : Nat) (g_p1_world : TW) (g_p1_history : TH) (g_p2 : Nat → Int64) : Option (Int32 × (TW × TH × (Nat → Int64))) :=
  ((f_X8_undo g_p1_world g_p1_history).bind fun o1 => (fun u1 => o1.1.elim (fun k1 => (if k1 = 1 then (some ((1 : Int32), (u1.1, u1.2, g_p2))) else none)) (fun r1 => (if inb (0 : Int32) n_p2 = true then (some ((0 : Int32), (u1.1, u1.2, (vp_updL g_p2 (0 : Int32).toNatClampNeg (Int32.toInt64 r1))))) else none))) o1.2)
set_option maxHeartbeats 8000000 in
set_option maxRecDepth 100000 in
theorem c_L_undo (l : Launch) (hlt : l.stackTraces = false) (D : va_G) (dT : Nat → ClassId) (a_p1 : Nat → Nat → Nat) (a_p2 : Nat) (n_p2 : Nat) (g_p1_world : TW) (g_p1_history : TH) (g_p2 : Nat → Int64) (o : (Int32 × (TW × TH × (Nat → Int64)))) (h : f_L_undo n_p2 g_p1_world g_p1_history g_p2 = some o) (sz : Nat) : Met l yL_undo (Cond.codeWith yL_undo cL_undo 3 (some .int) [(0, 8, 11, 15)] :: TB) { frames := 7, cells := 1, slots := 6, locals := 112 } (va_Pc [.ref (a_p1 0 0), .ref a_p2] (cPre D dT (cSP a_p1 ++ (cW dT (a_p1 4) g_p1_world ++ (cH dT (a_p1 6) g_p1_history ++ (cJ_ dT a_p2 n_p2 g_p2)))) sz)) (va_Qi (fun (r : Int32) (u : TW × TH × (Nat → Int64)) => r = o.1 ∧ u = o.2) (fun u t => cAt D dT (va_A (cSP a_p1 ++ (cW dT (a_p1 4) g_p1_world ++ (cH dT (a_p1 6) g_p1_history ++ (cJ_ dT a_p2 n_p2 g_p2)))) sz) (cSP a_p1 ++ (cW dT (a_p1 4) (u.1) ++ (cH dT (a_p1 6) (u.2.1) ++ (cJ_ dT a_p2 n_p2 (u.2.2))))) t) (va_A (cSP a_p1 ++ (cW dT (a_p1 4) g_p1_world ++ (cH dT (a_p1 6) g_p1_history ++ (cJ_ dT a_p2 n_p2 g_p2)))) sz)) 1 6 (va_A (cSP a_p1 ++ (cW dT (a_p1 4) g_p1_world ++ (cH dT (a_p1 6) g_p1_history ++ (cJ_ dT a_p2 n_p2 g_p2)))) sz) := by
  refine mStartH (WS := (cSP a_p1 ++ (cW dT (a_p1 4) g_p1_world ++ (cH dT (a_p1 6) g_p1_history ++ (cJ_ dT a_p2 n_p2 g_p2))))) (Qc := fun A => va_Qi (fun (r : Int32) (u : TW × TH × (Nat → Int64)) => r = o.1 ∧ u = o.2) (fun u t => cAt D dT A (cSP a_p1 ++ (cW dT (a_p1 4) (u.1) ++ (cH dT (a_p1 6) (u.2.1) ++ (cJ_ dT a_p2 n_p2 (u.2.2))))) t) A) RL rfl (by decide) (Nat.le_of_ble_eq_true rfl) ?_ sz
  intro p e s m below meth c A ls hx hb hml hr hlk htab hts hqs hown hE hA hK hP hD hS hl
  have hl : lv_has ls 3 [(0, .ref (a_p1 0 0)), (1, .ref a_p2)] := hl
  unfold f_L_undo at h
  refine lv_aload_n hx hb dL_undo_0 rfl (lv_at hl 1 rfl) ?_
  refine lv_iconst (v := 0) hx hb dL_undo_1 (by decide) ?_
  refine lv_aload_n hx hb dL_undo_2 rfl (lv_at hl 0 rfl) ?_
  obtain ⟨o1, e1, h⟩ := obind h
  have hPq : va_P D vwCl ((cSP a_p1 ++ (cW dT (a_p1 4) g_p1_world ++ (cH dT (a_p1 6) g_p1_history))) ++ (cJ_ dT a_p2 n_p2 g_p2)) _ := hP.perm (wj_split [cSP a_p1, cW dT (a_p1 4) g_p1_world, cH dT (a_p1 6) g_p1_history, cJ_ dT a_p2 n_p2 g_p2] [0, 1, 2] [3] rfl)
  have hDq : va_D A ((cSP a_p1 ++ (cW dT (a_p1 4) g_p1_world ++ (cH dT (a_p1 6) g_p1_history))) ++ (cJ_ dT a_p2 n_p2 g_p2)) := hD.perm (wj_split [cSP a_p1, cW dT (a_p1 4) g_p1_world, cH dT (a_p1 6) g_p1_history, cJ_ dT a_p2 n_p2 g_p2] [0, 1, 2] [3] rfl)
  have hPc := hPq.left
  have hDc := hDq.left
  have hFc := va_freeL hDq hS hA
  refine xcl_iL (wr := (cJ_ dT a_p2 n_p2 g_p2)) (vx_runV (As := []) (rest := [.int (0 : Int32), .ref a_p2]) ⟨hx, hb, hml, hown, hts⟩ (c_X8_undo l hlt D dT a_p1 g_p1_world g_p1_history o1 e1 _) (cwV 0 hts (TB_V w_881 w_882 w_883 w_50 w_884) rfl rfl rfl ⟨rfl, nd_X8_undo⟩ ⟨Nat.le_of_ble_eq_true rfl, Nat.le_of_ble_eq_true rfl⟩) (cPre.V hPc hDc hK hE hS hFc (va_recv hK hPc (ci := 7) (q0 := 0) rfl rfl)) rfl rfl hl.1 rfl (lv_room (Nat.le_of_ble_eq_true rfl)) dL_undo_3 ⟨Nat.le_of_ble_eq_true rfl, Nat.le_of_ble_eq_true rfl⟩) hPq hDq hS hFc (fun k1 u1 E1 ce1 q1 H locs hw hEk hP hD hS hxc hxv hxl => ?_) (fun r1 u1 H locs hw hP hD hS => ?_)
  · have hw := xoP_inv hw
    subst hw
    have hP : va_P D vwCl (cSP a_p1 ++ (cW dT (a_p1 4) u1.1 ++ (cH dT (a_p1 6) u1.2 ++ (cJ_ dT a_p2 n_p2 g_p2)))) H := hP.perm (wj_back [cSP a_p1, cW dT (a_p1 4) u1.1, cH dT (a_p1 6) u1.2] [cJ_ dT a_p2 n_p2 g_p2] [0, 1, 2, 3] rfl)
    have hD : va_D A (cSP a_p1 ++ (cW dT (a_p1 4) u1.1 ++ (cH dT (a_p1 6) u1.2 ++ (cJ_ dT a_p2 n_p2 g_p2)))) := hD.perm (wj_back [cSP a_p1, cW dT (a_p1 4) u1.1, cH dT (a_p1 6) u1.2] [cJ_ dT a_p2 n_p2 g_p2] [0, 1, 2, 3] rfl)
    by_cases c2 : k1 = 1
    · replace h := iteT c2 h
      subst c2
      have hEk : E1 = EXS := hEk
      refine vx_catch (name := EXS) (E := E1) hown [] ⟨0, 8, 11, 15⟩ [] (htab.trans rfl) (fun z hz => absurd hz List.not_mem_nil) rfl (by decide) (hqs _ w_411) (by rw [hEk]; exact va_Nw.use rfl (hE.2.2.1 (EXS, EXS) (by decide +kernel))) hxc hxv hxl ?_
      refine lv_astore_n (lv' := [(2, .ref q1), (0, .ref (a_p1 0 0)), (1, .ref a_p2)]) hx hb dL_undo_11 rfl hl (by decide) rfl (fun ls hl => ?_)
      refine lv_iconst (v := 1) hx hb dL_undo_12 (by decide) ?_
      exact rt_i hx hb hr hlk hK hS ((u1.1, u1.2, g_p2) : TW × TH × (Nat → Int64)) (ret2 h) hP hD dL_undo_13
    replace h := iteF c2 h
    exact nomatch h
  subst hw
  replace h := sumR h
  have hP : va_P D vwCl (cSP a_p1 ++ (cW dT (a_p1 4) u1.1 ++ (cH dT (a_p1 6) u1.2 ++ (cJ_ dT a_p2 n_p2 g_p2)))) H := hP.perm (wj_back [cSP a_p1, cW dT (a_p1 4) u1.1, cH dT (a_p1 6) u1.2] [cJ_ dT a_p2 n_p2 g_p2] [0, 1, 2, 3] rfl)
  have hD : va_D A (cSP a_p1 ++ (cW dT (a_p1 4) u1.1 ++ (cH dT (a_p1 6) u1.2 ++ (cJ_ dT a_p2 n_p2 g_p2)))) := hD.perm (wj_back [cSP a_p1, cW dT (a_p1 4) u1.1, cH dT (a_p1 6) u1.2] [cJ_ dT a_p2 n_p2 g_p2] [0, 1, 2, 3] rfl)
  refine lv_i2l hx hb dL_undo_6 rfl ?_
  obtain ⟨g3, h⟩ := chk h
  refine va_last hx hb hK hP hD hS 153 1 rfl rfl (inb_in g3) dL_undo_7 (fun H locs hP hD hS => ?_)
  have hP : va_P D vwCl (cSP a_p1 ++ (cW dT (a_p1 4) u1.1 ++ (cH dT (a_p1 6) u1.2 ++ (cJ_ dT a_p2 n_p2 (vp_updL g_p2 (0 : Int32).toNatClampNeg (Int32.toInt64 r1)))))) H := hP
  have hD : va_D A (cSP a_p1 ++ (cW dT (a_p1 4) u1.1 ++ (cH dT (a_p1 6) u1.2 ++ (cJ_ dT a_p2 n_p2 (vp_updL g_p2 (0 : Int32).toNatClampNeg (Int32.toInt64 r1)))))) := hD
  refine lv_goto (tgt := 14) hx hb dL_undo_8 (by decide) ?_
  refine lv_iconst (v := 0) hx hb dL_undo_14 (by decide) ?_
  exact rt_i hx hb hr hlk hK hS ((u1.1, u1.2, (vp_updL g_p2 (0 : Int32).toNatClampNeg (Int32.toInt64 r1))) : TW × TH × (Nat → Int64)) (ret2 h) hP hD dL_undo_15

def f_L_rows (n_p4 : Nat) (g_p1_world : TW) (g_p1_chosen : TP) (g_p4 : Nat → Int64) (v1 : Int32) (v2 : Int32) : Option (Int32 × (TP × (Nat → Int64))) :=
  ((f_X8_rows g_p1_world g_p1_chosen v1 v2).bind fun o1 => (fun u1 => o1.1.elim (fun k1 => (if k1 = 2 then (some ((1 : Int32), (u1, g_p4))) else (if k1 = 0 then (some ((2 : Int32), (u1, g_p4))) else none))) (fun r1 => (if inb (0 : Int32) n_p4 = true then (some ((0 : Int32), (u1, (vp_updL g_p4 (0 : Int32).toNatClampNeg r1)))) else none))) o1.2)
set_option maxHeartbeats 8000000 in
set_option maxRecDepth 100000 in
theorem c_L_rows (l : Launch) (hlt : l.stackTraces = false) (D : va_G) (dT : Nat → ClassId) (a_p1 : Nat → Nat → Nat) (a_p4 : Nat) (n_p4 : Nat) (g_p1_world : TW) (g_p1_chosen : TP) (g_p4 : Nat → Int64) (v1 : Int32) (v2 : Int32) (o : (Int32 × (TP × (Nat → Int64)))) (h : f_L_rows n_p4 g_p1_world g_p1_chosen g_p4 v1 v2 = some o) (sz : Nat) : Met l yL_rows (Cond.codeWith yL_rows cL_rows 5 (some .int) [(0, 9, 12, 31), (0, 9, 16, 13)] :: TB) { frames := 9, cells := 2, slots := 12, locals := 154 } (va_Pc [.ref (a_p1 0 0), .int v1, .int v2, .ref a_p4] (cPre D dT (cSP a_p1 ++ (cW dT (a_p1 4) g_p1_world ++ (cP dT (a_p1 8) g_p1_chosen ++ (cJ_ dT a_p4 n_p4 g_p4)))) sz)) (va_Qi (fun (r : Int32) (u : TP × (Nat → Int64)) => r = o.1 ∧ u = o.2) (fun u t => cAt D dT (va_A (cSP a_p1 ++ (cW dT (a_p1 4) g_p1_world ++ (cP dT (a_p1 8) g_p1_chosen ++ (cJ_ dT a_p4 n_p4 g_p4)))) sz) (cSP a_p1 ++ (cW dT (a_p1 4) g_p1_world ++ (cP dT (a_p1 8) (u.1) ++ (cJ_ dT a_p4 n_p4 (u.2))))) t) (va_A (cSP a_p1 ++ (cW dT (a_p1 4) g_p1_world ++ (cP dT (a_p1 8) g_p1_chosen ++ (cJ_ dT a_p4 n_p4 g_p4)))) sz)) 2 12 (va_A (cSP a_p1 ++ (cW dT (a_p1 4) g_p1_world ++ (cP dT (a_p1 8) g_p1_chosen ++ (cJ_ dT a_p4 n_p4 g_p4)))) sz) := by
  refine mStartH (WS := (cSP a_p1 ++ (cW dT (a_p1 4) g_p1_world ++ (cP dT (a_p1 8) g_p1_chosen ++ (cJ_ dT a_p4 n_p4 g_p4))))) (Qc := fun A => va_Qi (fun (r : Int32) (u : TP × (Nat → Int64)) => r = o.1 ∧ u = o.2) (fun u t => cAt D dT A (cSP a_p1 ++ (cW dT (a_p1 4) g_p1_world ++ (cP dT (a_p1 8) (u.1) ++ (cJ_ dT a_p4 n_p4 (u.2))))) t) A) RL rfl (by decide) (Nat.le_of_ble_eq_true rfl) ?_ sz
  intro p e s m below meth c A ls hx hb hml hr hlk htab hts hqs hown hE hA hK hP hD hS hl
  have hl : lv_has ls 5 [(0, .ref (a_p1 0 0)), (1, .int v1), (2, .int v2), (3, .ref a_p4)] := hl
  unfold f_L_rows at h
  refine lv_aload_n hx hb dL_rows_0 rfl (lv_at hl 3 rfl) ?_
  refine lv_iconst (v := 0) hx hb dL_rows_1 (by decide) ?_
  refine lv_aload_n hx hb dL_rows_2 rfl (lv_at hl 0 rfl) ?_
  refine lv_iload_n hx hb dL_rows_3 rfl (lv_at hl 1 rfl) ?_
  refine lv_iload_n hx hb dL_rows_4 rfl (lv_at hl 2 rfl) ?_
  obtain ⟨o1, e1, h⟩ := obind h
  have hPq : va_P D vwCl ((cSP a_p1 ++ (cW dT (a_p1 4) g_p1_world ++ (cP dT (a_p1 8) g_p1_chosen))) ++ (cJ_ dT a_p4 n_p4 g_p4)) _ := hP.perm (wj_split [cSP a_p1, cW dT (a_p1 4) g_p1_world, cP dT (a_p1 8) g_p1_chosen, cJ_ dT a_p4 n_p4 g_p4] [0, 1, 2] [3] rfl)
  have hDq : va_D A ((cSP a_p1 ++ (cW dT (a_p1 4) g_p1_world ++ (cP dT (a_p1 8) g_p1_chosen))) ++ (cJ_ dT a_p4 n_p4 g_p4)) := hD.perm (wj_split [cSP a_p1, cW dT (a_p1 4) g_p1_world, cP dT (a_p1 8) g_p1_chosen, cJ_ dT a_p4 n_p4 g_p4] [0, 1, 2] [3] rfl)
  have hPc := hPq.left
  have hDc := hDq.left
  have hFc := va_freeL hDq hS hA
  refine xcl_lL (wr := (cJ_ dT a_p4 n_p4 g_p4)) (vx_runV (As := [.int v1, .int v2]) (rest := [.int (0 : Int32), .ref a_p4]) ⟨hx, hb, hml, hown, hts⟩ (c_X8_rows l hlt D dT a_p1 g_p1_world g_p1_chosen v1 v2 o1 e1 _) (cwV 2 hts (TB_V w_897 w_898 w_899 w_50 w_900) rfl rfl rfl ⟨rfl, nd_X8_rows⟩ ⟨Nat.le_of_ble_eq_true rfl, Nat.le_of_ble_eq_true rfl⟩) (cPre.V hPc hDc hK hE hS hFc (va_recv hK hPc (ci := 7) (q0 := 0) rfl rfl)) rfl rfl hl.1 rfl (lv_room (Nat.le_of_ble_eq_true rfl)) dL_rows_5 ⟨Nat.le_of_ble_eq_true rfl, Nat.le_of_ble_eq_true rfl⟩) hPq hDq hS hFc (fun k1 u1 E1 ce1 q1 H locs hw hEk hP hD hS hxc hxv hxl => ?_) (fun r1 u1 H locs hw hP hD hS => ?_)
  · have hw := xoP_inv hw
    subst hw
    have hP : va_P D vwCl (cSP a_p1 ++ (cW dT (a_p1 4) g_p1_world ++ (cP dT (a_p1 8) u1 ++ (cJ_ dT a_p4 n_p4 g_p4)))) H := hP.perm (wj_back [cSP a_p1, cW dT (a_p1 4) g_p1_world, cP dT (a_p1 8) u1] [cJ_ dT a_p4 n_p4 g_p4] [0, 1, 2, 3] rfl)
    have hD : va_D A (cSP a_p1 ++ (cW dT (a_p1 4) g_p1_world ++ (cP dT (a_p1 8) u1 ++ (cJ_ dT a_p4 n_p4 g_p4)))) := hD.perm (wj_back [cSP a_p1, cW dT (a_p1 4) g_p1_world, cP dT (a_p1 8) u1] [cJ_ dT a_p4 n_p4 g_p4] [0, 1, 2, 3] rfl)
    by_cases c2 : k1 = 2
    · replace h := iteT c2 h
      subst c2
      have hEk : E1 = EXB := hEk
      refine vx_catch (name := EXB) (E := E1) hown [] ⟨0, 9, 12, 31⟩ [⟨0, 9, 16, 13⟩] (htab.trans rfl) (fun z hz => absurd hz List.not_mem_nil) rfl (by decide) (hqs _ w_608) (by rw [hEk]; exact va_Nw.use rfl (hE.2.2.1 (EXB, EXB) (by decide +kernel))) hxc hxv hxl ?_
      refine lv_astore (lv' := [(4, .ref q1), (0, .ref (a_p1 0 0)), (1, .int v1), (2, .int v2), (3, .ref a_p4)]) hx hb dL_rows_12 hl (by decide) rfl (fun ls hl => ?_)
      refine lv_iconst (v := 1) hx hb dL_rows_14 (by decide) ?_
      exact rt_i hx hb hr hlk hK hS ((u1, g_p4) : TP × (Nat → Int64)) (ret2 h) hP hD dL_rows_15
    replace h := iteF c2 h
    by_cases c3 : k1 = 0
    · replace h := iteT c3 h
      subst c3
      have hEk : E1 = EXI := hEk
      refine vx_catch (name := EXI) (E := E1) hown [(⟨0, 9, 12, 31⟩ : ExceptionTableEntry)] ⟨0, 9, 16, 13⟩ [] (htab.trans rfl) (fun z hz => by
      simp only [List.mem_cons, List.not_mem_nil, or_false] at hz
      rcases hz with rfl
      · exact Or.inr ⟨by decide, EXB, hqs _ w_608, by rw [hEk]; exact hE.2.2.2.1 (EXI, EXB) (by decide +kernel)⟩) rfl (by decide) (hqs _ w_410) (by rw [hEk]; exact va_Nw.use rfl (hE.2.2.1 (EXI, EXI) (by decide +kernel))) hxc hxv hxl ?_
      refine lv_astore (lv' := [(4, .ref q1), (0, .ref (a_p1 0 0)), (1, .int v1), (2, .int v2), (3, .ref a_p4)]) hx hb dL_rows_16 hl (by decide) rfl (fun ls hl => ?_)
      refine lv_iconst (v := 2) hx hb dL_rows_18 (by decide) ?_
      exact rt_i hx hb hr hlk hK hS ((u1, g_p4) : TP × (Nat → Int64)) (ret2 h) hP hD dL_rows_19
    replace h := iteF c3 h
    exact nomatch h
  subst hw
  replace h := sumR h
  have hP : va_P D vwCl (cSP a_p1 ++ (cW dT (a_p1 4) g_p1_world ++ (cP dT (a_p1 8) u1 ++ (cJ_ dT a_p4 n_p4 g_p4)))) H := hP.perm (wj_back [cSP a_p1, cW dT (a_p1 4) g_p1_world, cP dT (a_p1 8) u1] [cJ_ dT a_p4 n_p4 g_p4] [0, 1, 2, 3] rfl)
  have hD : va_D A (cSP a_p1 ++ (cW dT (a_p1 4) g_p1_world ++ (cP dT (a_p1 8) u1 ++ (cJ_ dT a_p4 n_p4 g_p4)))) := hD.perm (wj_back [cSP a_p1, cW dT (a_p1 4) g_p1_world, cP dT (a_p1 8) u1] [cJ_ dT a_p4 n_p4 g_p4] [0, 1, 2, 3] rfl)
  obtain ⟨g4, h⟩ := chk h
  refine va_last hx hb hK hP hD hS 19 1 rfl rfl (inb_in g4) dL_rows_8 (fun H locs hP hD hS => ?_)
  have hP : va_P D vwCl (cSP a_p1 ++ (cW dT (a_p1 4) g_p1_world ++ (cP dT (a_p1 8) u1 ++ (cJ_ dT a_p4 n_p4 (vp_updL g_p4 (0 : Int32).toNatClampNeg r1))))) H := hP
  have hD : va_D A (cSP a_p1 ++ (cW dT (a_p1 4) g_p1_world ++ (cP dT (a_p1 8) u1 ++ (cJ_ dT a_p4 n_p4 (vp_updL g_p4 (0 : Int32).toNatClampNeg r1))))) := hD
  refine lv_goto (tgt := 20) hx hb dL_rows_9 (by decide) ?_
  refine lv_iconst (v := 0) hx hb dL_rows_20 (by decide) ?_
  exact rt_i hx hb hr hlk hK hS ((u1, (vp_updL g_p4 (0 : Int32).toNatClampNeg r1)) : TP × (Nat → Int64)) (ret2 h) hP hD dL_rows_21

def f_L_order (n_p5 : Nat) (g_p1_world : TW) (g_p1_chosen : TP) (g_p5 : Nat → Int64) (v1 : Int32) (v2 : Int32) (v3 : Int32) : Option (Int32 × (TP × (Nat → Int64))) :=
  ((f_X8_order g_p1_world g_p1_chosen v1 v2 v3).bind fun o1 => (fun u1 => o1.1.elim (fun k1 => (if k1 = 2 then (some ((1 : Int32), (u1, g_p5))) else (if k1 = 0 then (some ((2 : Int32), (u1, g_p5))) else none))) (fun r1 => (if inb (0 : Int32) n_p5 = true then (some ((0 : Int32), (u1, (vp_updL g_p5 (0 : Int32).toNatClampNeg (Int32.toInt64 r1))))) else none))) o1.2)
set_option maxHeartbeats 8000000 in
set_option maxRecDepth 100000 in
theorem c_L_order (l : Launch) (hlt : l.stackTraces = false) (D : va_G) (dT : Nat → ClassId) (a_p1 : Nat → Nat → Nat) (a_p5 : Nat) (n_p5 : Nat) (g_p1_world : TW) (g_p1_chosen : TP) (g_p5 : Nat → Int64) (v1 : Int32) (v2 : Int32) (v3 : Int32) (o : (Int32 × (TP × (Nat → Int64)))) (h : f_L_order n_p5 g_p1_world g_p1_chosen g_p5 v1 v2 v3 = some o) (sz : Nat) : Met l yL_order (Cond.codeWith yL_order cL_order 6 (some .int) [(0, 12, 15, 31), (0, 12, 19, 13)] :: TB) { frames := 9, cells := 3, slots := 18, locals := 155 } (va_Pc [.ref (a_p1 0 0), .int v1, .int v2, .int v3, .ref a_p5] (cPre D dT (cSP a_p1 ++ (cW dT (a_p1 4) g_p1_world ++ (cP dT (a_p1 8) g_p1_chosen ++ (cJ_ dT a_p5 n_p5 g_p5)))) sz)) (va_Qi (fun (r : Int32) (u : TP × (Nat → Int64)) => r = o.1 ∧ u = o.2) (fun u t => cAt D dT (va_A (cSP a_p1 ++ (cW dT (a_p1 4) g_p1_world ++ (cP dT (a_p1 8) g_p1_chosen ++ (cJ_ dT a_p5 n_p5 g_p5)))) sz) (cSP a_p1 ++ (cW dT (a_p1 4) g_p1_world ++ (cP dT (a_p1 8) (u.1) ++ (cJ_ dT a_p5 n_p5 (u.2))))) t) (va_A (cSP a_p1 ++ (cW dT (a_p1 4) g_p1_world ++ (cP dT (a_p1 8) g_p1_chosen ++ (cJ_ dT a_p5 n_p5 g_p5)))) sz)) 3 18 (va_A (cSP a_p1 ++ (cW dT (a_p1 4) g_p1_world ++ (cP dT (a_p1 8) g_p1_chosen ++ (cJ_ dT a_p5 n_p5 g_p5)))) sz) := by
  refine mStartH (WS := (cSP a_p1 ++ (cW dT (a_p1 4) g_p1_world ++ (cP dT (a_p1 8) g_p1_chosen ++ (cJ_ dT a_p5 n_p5 g_p5))))) (Qc := fun A => va_Qi (fun (r : Int32) (u : TP × (Nat → Int64)) => r = o.1 ∧ u = o.2) (fun u t => cAt D dT A (cSP a_p1 ++ (cW dT (a_p1 4) g_p1_world ++ (cP dT (a_p1 8) (u.1) ++ (cJ_ dT a_p5 n_p5 (u.2))))) t) A) RL rfl (by decide) (Nat.le_of_ble_eq_true rfl) ?_ sz
  intro p e s m below meth c A ls hx hb hml hr hlk htab hts hqs hown hE hA hK hP hD hS hl
  have hl : lv_has ls 6 [(0, .ref (a_p1 0 0)), (1, .int v1), (2, .int v2), (3, .int v3), (4, .ref a_p5)] := hl
  unfold f_L_order at h
  refine lv_aload hx hb dL_order_0 (lv_at hl 4 rfl) ?_
  refine lv_iconst (v := 0) hx hb dL_order_2 (by decide) ?_
  refine lv_aload_n hx hb dL_order_3 rfl (lv_at hl 0 rfl) ?_
  refine lv_iload_n hx hb dL_order_4 rfl (lv_at hl 1 rfl) ?_
  refine lv_iload_n hx hb dL_order_5 rfl (lv_at hl 2 rfl) ?_
  refine lv_iload_n hx hb dL_order_6 rfl (lv_at hl 3 rfl) ?_
  obtain ⟨o1, e1, h⟩ := obind h
  have hPq : va_P D vwCl ((cSP a_p1 ++ (cW dT (a_p1 4) g_p1_world ++ (cP dT (a_p1 8) g_p1_chosen))) ++ (cJ_ dT a_p5 n_p5 g_p5)) _ := hP.perm (wj_split [cSP a_p1, cW dT (a_p1 4) g_p1_world, cP dT (a_p1 8) g_p1_chosen, cJ_ dT a_p5 n_p5 g_p5] [0, 1, 2] [3] rfl)
  have hDq : va_D A ((cSP a_p1 ++ (cW dT (a_p1 4) g_p1_world ++ (cP dT (a_p1 8) g_p1_chosen))) ++ (cJ_ dT a_p5 n_p5 g_p5)) := hD.perm (wj_split [cSP a_p1, cW dT (a_p1 4) g_p1_world, cP dT (a_p1 8) g_p1_chosen, cJ_ dT a_p5 n_p5 g_p5] [0, 1, 2] [3] rfl)
  have hPc := hPq.left
  have hDc := hDq.left
  have hFc := va_freeL hDq hS hA
  refine xcl_iL (wr := (cJ_ dT a_p5 n_p5 g_p5)) (vx_runV (As := [.int v1, .int v2, .int v3]) (rest := [.int (0 : Int32), .ref a_p5]) ⟨hx, hb, hml, hown, hts⟩ (c_X8_order l hlt D dT a_p1 g_p1_world g_p1_chosen v1 v2 v3 o1 e1 _) (cwV 3 hts (TB_V w_909 w_910 w_911 w_50 w_912) rfl rfl rfl ⟨rfl, nd_X8_order⟩ ⟨Nat.le_of_ble_eq_true rfl, Nat.le_of_ble_eq_true rfl⟩) (cPre.V hPc hDc hK hE hS hFc (va_recv hK hPc (ci := 7) (q0 := 0) rfl rfl)) rfl rfl hl.1 rfl (lv_room (Nat.le_of_ble_eq_true rfl)) dL_order_7 ⟨Nat.le_of_ble_eq_true rfl, Nat.le_of_ble_eq_true rfl⟩) hPq hDq hS hFc (fun k1 u1 E1 ce1 q1 H locs hw hEk hP hD hS hxc hxv hxl => ?_) (fun r1 u1 H locs hw hP hD hS => ?_)
  · have hw := xoP_inv hw
    subst hw
    have hP : va_P D vwCl (cSP a_p1 ++ (cW dT (a_p1 4) g_p1_world ++ (cP dT (a_p1 8) u1 ++ (cJ_ dT a_p5 n_p5 g_p5)))) H := hP.perm (wj_back [cSP a_p1, cW dT (a_p1 4) g_p1_world, cP dT (a_p1 8) u1] [cJ_ dT a_p5 n_p5 g_p5] [0, 1, 2, 3] rfl)
    have hD : va_D A (cSP a_p1 ++ (cW dT (a_p1 4) g_p1_world ++ (cP dT (a_p1 8) u1 ++ (cJ_ dT a_p5 n_p5 g_p5)))) := hD.perm (wj_back [cSP a_p1, cW dT (a_p1 4) g_p1_world, cP dT (a_p1 8) u1] [cJ_ dT a_p5 n_p5 g_p5] [0, 1, 2, 3] rfl)
    by_cases c2 : k1 = 2
    · replace h := iteT c2 h
      subst c2
      have hEk : E1 = EXB := hEk
      refine vx_catch (name := EXB) (E := E1) hown [] ⟨0, 12, 15, 31⟩ [⟨0, 12, 19, 13⟩] (htab.trans rfl) (fun z hz => absurd hz List.not_mem_nil) rfl (by decide) (hqs _ w_608) (by rw [hEk]; exact va_Nw.use rfl (hE.2.2.1 (EXB, EXB) (by decide +kernel))) hxc hxv hxl ?_
      refine lv_astore (lv' := [(5, .ref q1), (0, .ref (a_p1 0 0)), (1, .int v1), (2, .int v2), (3, .int v3), (4, .ref a_p5)]) hx hb dL_order_15 hl (by decide) rfl (fun ls hl => ?_)
      refine lv_iconst (v := 1) hx hb dL_order_17 (by decide) ?_
      exact rt_i hx hb hr hlk hK hS ((u1, g_p5) : TP × (Nat → Int64)) (ret2 h) hP hD dL_order_18
    replace h := iteF c2 h
    by_cases c3 : k1 = 0
    · replace h := iteT c3 h
      subst c3
      have hEk : E1 = EXI := hEk
      refine vx_catch (name := EXI) (E := E1) hown [(⟨0, 12, 15, 31⟩ : ExceptionTableEntry)] ⟨0, 12, 19, 13⟩ [] (htab.trans rfl) (fun z hz => by
      simp only [List.mem_cons, List.not_mem_nil, or_false] at hz
      rcases hz with rfl
      · exact Or.inr ⟨by decide, EXB, hqs _ w_608, by rw [hEk]; exact hE.2.2.2.1 (EXI, EXB) (by decide +kernel)⟩) rfl (by decide) (hqs _ w_410) (by rw [hEk]; exact va_Nw.use rfl (hE.2.2.1 (EXI, EXI) (by decide +kernel))) hxc hxv hxl ?_
      refine lv_astore (lv' := [(5, .ref q1), (0, .ref (a_p1 0 0)), (1, .int v1), (2, .int v2), (3, .int v3), (4, .ref a_p5)]) hx hb dL_order_19 hl (by decide) rfl (fun ls hl => ?_)
      refine lv_iconst (v := 2) hx hb dL_order_21 (by decide) ?_
      exact rt_i hx hb hr hlk hK hS ((u1, g_p5) : TP × (Nat → Int64)) (ret2 h) hP hD dL_order_22
    replace h := iteF c3 h
    exact nomatch h
  subst hw
  replace h := sumR h
  have hP : va_P D vwCl (cSP a_p1 ++ (cW dT (a_p1 4) g_p1_world ++ (cP dT (a_p1 8) u1 ++ (cJ_ dT a_p5 n_p5 g_p5)))) H := hP.perm (wj_back [cSP a_p1, cW dT (a_p1 4) g_p1_world, cP dT (a_p1 8) u1] [cJ_ dT a_p5 n_p5 g_p5] [0, 1, 2, 3] rfl)
  have hD : va_D A (cSP a_p1 ++ (cW dT (a_p1 4) g_p1_world ++ (cP dT (a_p1 8) u1 ++ (cJ_ dT a_p5 n_p5 g_p5)))) := hD.perm (wj_back [cSP a_p1, cW dT (a_p1 4) g_p1_world, cP dT (a_p1 8) u1] [cJ_ dT a_p5 n_p5 g_p5] [0, 1, 2, 3] rfl)
  refine lv_i2l hx hb dL_order_10 rfl ?_
  obtain ⟨g4, h⟩ := chk h
  refine va_last hx hb hK hP hD hS 19 1 rfl rfl (inb_in g4) dL_order_11 (fun H locs hP hD hS => ?_)
  have hP : va_P D vwCl (cSP a_p1 ++ (cW dT (a_p1 4) g_p1_world ++ (cP dT (a_p1 8) u1 ++ (cJ_ dT a_p5 n_p5 (vp_updL g_p5 (0 : Int32).toNatClampNeg (Int32.toInt64 r1)))))) H := hP
  have hD : va_D A (cSP a_p1 ++ (cW dT (a_p1 4) g_p1_world ++ (cP dT (a_p1 8) u1 ++ (cJ_ dT a_p5 n_p5 (vp_updL g_p5 (0 : Int32).toNatClampNeg (Int32.toInt64 r1)))))) := hD
  refine lv_goto (tgt := 23) hx hb dL_order_12 (by decide) ?_
  refine lv_iconst (v := 0) hx hb dL_order_23 (by decide) ?_
  exact rt_i hx hb hr hlk hK hS ((u1, (vp_updL g_p5 (0 : Int32).toNatClampNeg (Int32.toInt64 r1))) : TP × (Nat → Int64)) (ret2 h) hP hD dL_order_24

def f_L_way (n_p4 : Nat) (g_p1_world : TW) (g_p1_chosen : TP) (g_p4 : Nat → Int64) (v1 : Int32) (v2 : Int32) : Option (Int32 × (TP × (Nat → Int64))) :=
  ((f_X8_way g_p1_world g_p1_chosen v1 v2).bind fun o1 => (fun u1 => o1.1.elim (fun k1 => (if k1 = 2 then (some ((1 : Int32), (u1, g_p4))) else (if k1 = 0 then (some ((2 : Int32), (u1, g_p4))) else none))) (fun r1 => (if inb (0 : Int32) n_p4 = true then (some ((0 : Int32), (u1, (vp_updL g_p4 (0 : Int32).toNatClampNeg (Int32.toInt64 r1))))) else none))) o1.2)
set_option maxHeartbeats 8000000 in
set_option maxRecDepth 100000 in
theorem c_L_way (l : Launch) (hlt : l.stackTraces = false) (D : va_G) (dT : Nat → ClassId) (a_p1 : Nat → Nat → Nat) (a_p4 : Nat) (n_p4 : Nat) (g_p1_world : TW) (g_p1_chosen : TP) (g_p4 : Nat → Int64) (v1 : Int32) (v2 : Int32) (o : (Int32 × (TP × (Nat → Int64)))) (h : f_L_way n_p4 g_p1_world g_p1_chosen g_p4 v1 v2 = some o) (sz : Nat) : Met l yL_way (Cond.codeWith yL_way cL_way 5 (some .int) [(0, 10, 13, 31), (0, 10, 17, 13)] :: TB) { frames := 8, cells := 2, slots := 12, locals := 133 } (va_Pc [.ref (a_p1 0 0), .int v1, .int v2, .ref a_p4] (cPre D dT (cSP a_p1 ++ (cW dT (a_p1 4) g_p1_world ++ (cP dT (a_p1 8) g_p1_chosen ++ (cJ_ dT a_p4 n_p4 g_p4)))) sz)) (va_Qi (fun (r : Int32) (u : TP × (Nat → Int64)) => r = o.1 ∧ u = o.2) (fun u t => cAt D dT (va_A (cSP a_p1 ++ (cW dT (a_p1 4) g_p1_world ++ (cP dT (a_p1 8) g_p1_chosen ++ (cJ_ dT a_p4 n_p4 g_p4)))) sz) (cSP a_p1 ++ (cW dT (a_p1 4) g_p1_world ++ (cP dT (a_p1 8) (u.1) ++ (cJ_ dT a_p4 n_p4 (u.2))))) t) (va_A (cSP a_p1 ++ (cW dT (a_p1 4) g_p1_world ++ (cP dT (a_p1 8) g_p1_chosen ++ (cJ_ dT a_p4 n_p4 g_p4)))) sz)) 2 12 (va_A (cSP a_p1 ++ (cW dT (a_p1 4) g_p1_world ++ (cP dT (a_p1 8) g_p1_chosen ++ (cJ_ dT a_p4 n_p4 g_p4)))) sz) := by
  refine mStartH (WS := (cSP a_p1 ++ (cW dT (a_p1 4) g_p1_world ++ (cP dT (a_p1 8) g_p1_chosen ++ (cJ_ dT a_p4 n_p4 g_p4))))) (Qc := fun A => va_Qi (fun (r : Int32) (u : TP × (Nat → Int64)) => r = o.1 ∧ u = o.2) (fun u t => cAt D dT A (cSP a_p1 ++ (cW dT (a_p1 4) g_p1_world ++ (cP dT (a_p1 8) (u.1) ++ (cJ_ dT a_p4 n_p4 (u.2))))) t) A) RL rfl (by decide) (Nat.le_of_ble_eq_true rfl) ?_ sz
  intro p e s m below meth c A ls hx hb hml hr hlk htab hts hqs hown hE hA hK hP hD hS hl
  have hl : lv_has ls 5 [(0, .ref (a_p1 0 0)), (1, .int v1), (2, .int v2), (3, .ref a_p4)] := hl
  unfold f_L_way at h
  refine lv_aload_n hx hb dL_way_0 rfl (lv_at hl 3 rfl) ?_
  refine lv_iconst (v := 0) hx hb dL_way_1 (by decide) ?_
  refine lv_aload_n hx hb dL_way_2 rfl (lv_at hl 0 rfl) ?_
  refine lv_iload_n hx hb dL_way_3 rfl (lv_at hl 1 rfl) ?_
  refine lv_iload_n hx hb dL_way_4 rfl (lv_at hl 2 rfl) ?_
  obtain ⟨o1, e1, h⟩ := obind h
  have hPq : va_P D vwCl ((cSP a_p1 ++ (cW dT (a_p1 4) g_p1_world ++ (cP dT (a_p1 8) g_p1_chosen))) ++ (cJ_ dT a_p4 n_p4 g_p4)) _ := hP.perm (wj_split [cSP a_p1, cW dT (a_p1 4) g_p1_world, cP dT (a_p1 8) g_p1_chosen, cJ_ dT a_p4 n_p4 g_p4] [0, 1, 2] [3] rfl)
  have hDq : va_D A ((cSP a_p1 ++ (cW dT (a_p1 4) g_p1_world ++ (cP dT (a_p1 8) g_p1_chosen))) ++ (cJ_ dT a_p4 n_p4 g_p4)) := hD.perm (wj_split [cSP a_p1, cW dT (a_p1 4) g_p1_world, cP dT (a_p1 8) g_p1_chosen, cJ_ dT a_p4 n_p4 g_p4] [0, 1, 2] [3] rfl)
  have hPc := hPq.left
  have hDc := hDq.left
  have hFc := va_freeL hDq hS hA
  refine xcl_iL (wr := (cJ_ dT a_p4 n_p4 g_p4)) (vx_runV (As := [.int v1, .int v2]) (rest := [.int (0 : Int32), .ref a_p4]) ⟨hx, hb, hml, hown, hts⟩ (c_X8_way l hlt D dT a_p1 g_p1_world g_p1_chosen v1 v2 o1 e1 _) (cwV 2 hts (TB_V w_921 w_922 w_923 w_50 w_924) rfl rfl rfl ⟨rfl, nd_X8_way⟩ ⟨Nat.le_of_ble_eq_true rfl, Nat.le_of_ble_eq_true rfl⟩) (cPre.V hPc hDc hK hE hS hFc (va_recv hK hPc (ci := 7) (q0 := 0) rfl rfl)) rfl rfl hl.1 rfl (lv_room (Nat.le_of_ble_eq_true rfl)) dL_way_5 ⟨Nat.le_of_ble_eq_true rfl, Nat.le_of_ble_eq_true rfl⟩) hPq hDq hS hFc (fun k1 u1 E1 ce1 q1 H locs hw hEk hP hD hS hxc hxv hxl => ?_) (fun r1 u1 H locs hw hP hD hS => ?_)
  · have hw := xoP_inv hw
    subst hw
    have hP : va_P D vwCl (cSP a_p1 ++ (cW dT (a_p1 4) g_p1_world ++ (cP dT (a_p1 8) u1 ++ (cJ_ dT a_p4 n_p4 g_p4)))) H := hP.perm (wj_back [cSP a_p1, cW dT (a_p1 4) g_p1_world, cP dT (a_p1 8) u1] [cJ_ dT a_p4 n_p4 g_p4] [0, 1, 2, 3] rfl)
    have hD : va_D A (cSP a_p1 ++ (cW dT (a_p1 4) g_p1_world ++ (cP dT (a_p1 8) u1 ++ (cJ_ dT a_p4 n_p4 g_p4)))) := hD.perm (wj_back [cSP a_p1, cW dT (a_p1 4) g_p1_world, cP dT (a_p1 8) u1] [cJ_ dT a_p4 n_p4 g_p4] [0, 1, 2, 3] rfl)
    by_cases c2 : k1 = 2
    · replace h := iteT c2 h
      subst c2
      have hEk : E1 = EXB := hEk
      refine vx_catch (name := EXB) (E := E1) hown [] ⟨0, 10, 13, 31⟩ [⟨0, 10, 17, 13⟩] (htab.trans rfl) (fun z hz => absurd hz List.not_mem_nil) rfl (by decide) (hqs _ w_608) (by rw [hEk]; exact va_Nw.use rfl (hE.2.2.1 (EXB, EXB) (by decide +kernel))) hxc hxv hxl ?_
      refine lv_astore (lv' := [(4, .ref q1), (0, .ref (a_p1 0 0)), (1, .int v1), (2, .int v2), (3, .ref a_p4)]) hx hb dL_way_13 hl (by decide) rfl (fun ls hl => ?_)
      refine lv_iconst (v := 1) hx hb dL_way_15 (by decide) ?_
      exact rt_i hx hb hr hlk hK hS ((u1, g_p4) : TP × (Nat → Int64)) (ret2 h) hP hD dL_way_16
    replace h := iteF c2 h
    by_cases c3 : k1 = 0
    · replace h := iteT c3 h
      subst c3
      have hEk : E1 = EXI := hEk
      refine vx_catch (name := EXI) (E := E1) hown [(⟨0, 10, 13, 31⟩ : ExceptionTableEntry)] ⟨0, 10, 17, 13⟩ [] (htab.trans rfl) (fun z hz => by
      simp only [List.mem_cons, List.not_mem_nil, or_false] at hz
      rcases hz with rfl
      · exact Or.inr ⟨by decide, EXB, hqs _ w_608, by rw [hEk]; exact hE.2.2.2.1 (EXI, EXB) (by decide +kernel)⟩) rfl (by decide) (hqs _ w_410) (by rw [hEk]; exact va_Nw.use rfl (hE.2.2.1 (EXI, EXI) (by decide +kernel))) hxc hxv hxl ?_
      refine lv_astore (lv' := [(4, .ref q1), (0, .ref (a_p1 0 0)), (1, .int v1), (2, .int v2), (3, .ref a_p4)]) hx hb dL_way_17 hl (by decide) rfl (fun ls hl => ?_)
      refine lv_iconst (v := 2) hx hb dL_way_19 (by decide) ?_
      exact rt_i hx hb hr hlk hK hS ((u1, g_p4) : TP × (Nat → Int64)) (ret2 h) hP hD dL_way_20
    replace h := iteF c3 h
    exact nomatch h
  subst hw
  replace h := sumR h
  have hP : va_P D vwCl (cSP a_p1 ++ (cW dT (a_p1 4) g_p1_world ++ (cP dT (a_p1 8) u1 ++ (cJ_ dT a_p4 n_p4 g_p4)))) H := hP.perm (wj_back [cSP a_p1, cW dT (a_p1 4) g_p1_world, cP dT (a_p1 8) u1] [cJ_ dT a_p4 n_p4 g_p4] [0, 1, 2, 3] rfl)
  have hD : va_D A (cSP a_p1 ++ (cW dT (a_p1 4) g_p1_world ++ (cP dT (a_p1 8) u1 ++ (cJ_ dT a_p4 n_p4 g_p4)))) := hD.perm (wj_back [cSP a_p1, cW dT (a_p1 4) g_p1_world, cP dT (a_p1 8) u1] [cJ_ dT a_p4 n_p4 g_p4] [0, 1, 2, 3] rfl)
  refine lv_i2l hx hb dL_way_8 rfl ?_
  obtain ⟨g4, h⟩ := chk h
  refine va_last hx hb hK hP hD hS 19 1 rfl rfl (inb_in g4) dL_way_9 (fun H locs hP hD hS => ?_)
  have hP : va_P D vwCl (cSP a_p1 ++ (cW dT (a_p1 4) g_p1_world ++ (cP dT (a_p1 8) u1 ++ (cJ_ dT a_p4 n_p4 (vp_updL g_p4 (0 : Int32).toNatClampNeg (Int32.toInt64 r1)))))) H := hP
  have hD : va_D A (cSP a_p1 ++ (cW dT (a_p1 4) g_p1_world ++ (cP dT (a_p1 8) u1 ++ (cJ_ dT a_p4 n_p4 (vp_updL g_p4 (0 : Int32).toNatClampNeg (Int32.toInt64 r1)))))) := hD
  refine lv_goto (tgt := 21) hx hb dL_way_10 (by decide) ?_
  refine lv_iconst (v := 0) hx hb dL_way_21 (by decide) ?_
  exact rt_i hx hb hr hlk hK hS ((u1, (vp_updL g_p4 (0 : Int32).toNatClampNeg (Int32.toInt64 r1))) : TP × (Nat → Int64)) (ret2 h) hP hD dL_way_22

def f_L_cost (n_p4 : Nat) (g_p1_world : TW) (g_p1_chosen : TP) (g_p1_other : TP) (g_p4 : Nat → Int64) (v1 : Int32) (v2 : Int32) : Option (Int32 × (TP × TP × (Nat → Int64))) :=
  ((f_X8_cost g_p1_world g_p1_chosen g_p1_other v1 v2).bind fun o1 => (fun u1 => o1.1.elim (fun k1 => (if k1 = 2 then (some ((1 : Int32), (u1.1, u1.2, g_p4))) else (if k1 = 0 then (some ((2 : Int32), (u1.1, u1.2, g_p4))) else none))) (fun r1 => (if inb (0 : Int32) n_p4 = true then (some ((0 : Int32), (u1.1, u1.2, (vp_updL g_p4 (0 : Int32).toNatClampNeg r1)))) else none))) o1.2)
set_option maxHeartbeats 8000000 in
set_option maxRecDepth 100000 in
theorem c_L_cost (l : Launch) (hlt : l.stackTraces = false) (D : va_G) (dT : Nat → ClassId) (a_p1 : Nat → Nat → Nat) (a_p4 : Nat) (n_p4 : Nat) (g_p1_world : TW) (g_p1_chosen : TP) (g_p1_other : TP) (g_p4 : Nat → Int64) (v1 : Int32) (v2 : Int32) (o : (Int32 × (TP × TP × (Nat → Int64)))) (h : f_L_cost n_p4 g_p1_world g_p1_chosen g_p1_other g_p4 v1 v2 = some o) (sz : Nat) : Met l yL_cost (Cond.codeWith yL_cost cL_cost 5 (some .int) [(0, 9, 12, 31), (0, 9, 16, 13)] :: TB) { frames := 8, cells := 2, slots := 12, locals := 145 } (va_Pc [.ref (a_p1 0 0), .int v1, .int v2, .ref a_p4] (cPre D dT (cSP a_p1 ++ (cW dT (a_p1 4) g_p1_world ++ (cP dT (a_p1 8) g_p1_chosen ++ (cP dT (a_p1 9) g_p1_other ++ (cJ_ dT a_p4 n_p4 g_p4))))) sz)) (va_Qi (fun (r : Int32) (u : TP × TP × (Nat → Int64)) => r = o.1 ∧ u = o.2) (fun u t => cAt D dT (va_A (cSP a_p1 ++ (cW dT (a_p1 4) g_p1_world ++ (cP dT (a_p1 8) g_p1_chosen ++ (cP dT (a_p1 9) g_p1_other ++ (cJ_ dT a_p4 n_p4 g_p4))))) sz) (cSP a_p1 ++ (cW dT (a_p1 4) g_p1_world ++ (cP dT (a_p1 8) (u.1) ++ (cP dT (a_p1 9) (u.2.1) ++ (cJ_ dT a_p4 n_p4 (u.2.2)))))) t) (va_A (cSP a_p1 ++ (cW dT (a_p1 4) g_p1_world ++ (cP dT (a_p1 8) g_p1_chosen ++ (cP dT (a_p1 9) g_p1_other ++ (cJ_ dT a_p4 n_p4 g_p4))))) sz)) 2 12 (va_A (cSP a_p1 ++ (cW dT (a_p1 4) g_p1_world ++ (cP dT (a_p1 8) g_p1_chosen ++ (cP dT (a_p1 9) g_p1_other ++ (cJ_ dT a_p4 n_p4 g_p4))))) sz) := by
  refine mStartH (WS := (cSP a_p1 ++ (cW dT (a_p1 4) g_p1_world ++ (cP dT (a_p1 8) g_p1_chosen ++ (cP dT (a_p1 9) g_p1_other ++ (cJ_ dT a_p4 n_p4 g_p4)))))) (Qc := fun A => va_Qi (fun (r : Int32) (u : TP × TP × (Nat → Int64)) => r = o.1 ∧ u = o.2) (fun u t => cAt D dT A (cSP a_p1 ++ (cW dT (a_p1 4) g_p1_world ++ (cP dT (a_p1 8) (u.1) ++ (cP dT (a_p1 9) (u.2.1) ++ (cJ_ dT a_p4 n_p4 (u.2.2)))))) t) A) RL rfl (by decide) (Nat.le_of_ble_eq_true rfl) ?_ sz
  intro p e s m below meth c A ls hx hb hml hr hlk htab hts hqs hown hE hA hK hP hD hS hl
  have hl : lv_has ls 5 [(0, .ref (a_p1 0 0)), (1, .int v1), (2, .int v2), (3, .ref a_p4)] := hl
  unfold f_L_cost at h
  refine lv_aload_n hx hb dL_cost_0 rfl (lv_at hl 3 rfl) ?_
  refine lv_iconst (v := 0) hx hb dL_cost_1 (by decide) ?_
  refine lv_aload_n hx hb dL_cost_2 rfl (lv_at hl 0 rfl) ?_
  refine lv_iload_n hx hb dL_cost_3 rfl (lv_at hl 1 rfl) ?_
  refine lv_iload_n hx hb dL_cost_4 rfl (lv_at hl 2 rfl) ?_
  obtain ⟨o1, e1, h⟩ := obind h
  have hPq : va_P D vwCl ((cSP a_p1 ++ (cW dT (a_p1 4) g_p1_world ++ (cP dT (a_p1 8) g_p1_chosen ++ (cP dT (a_p1 9) g_p1_other)))) ++ (cJ_ dT a_p4 n_p4 g_p4)) _ := hP.perm (wj_split [cSP a_p1, cW dT (a_p1 4) g_p1_world, cP dT (a_p1 8) g_p1_chosen, cP dT (a_p1 9) g_p1_other, cJ_ dT a_p4 n_p4 g_p4] [0, 1, 2, 3] [4] rfl)
  have hDq : va_D A ((cSP a_p1 ++ (cW dT (a_p1 4) g_p1_world ++ (cP dT (a_p1 8) g_p1_chosen ++ (cP dT (a_p1 9) g_p1_other)))) ++ (cJ_ dT a_p4 n_p4 g_p4)) := hD.perm (wj_split [cSP a_p1, cW dT (a_p1 4) g_p1_world, cP dT (a_p1 8) g_p1_chosen, cP dT (a_p1 9) g_p1_other, cJ_ dT a_p4 n_p4 g_p4] [0, 1, 2, 3] [4] rfl)
  have hPc := hPq.left
  have hDc := hDq.left
  have hFc := va_freeL hDq hS hA
  refine xcl_lL (wr := (cJ_ dT a_p4 n_p4 g_p4)) (vx_runV (As := [.int v1, .int v2]) (rest := [.int (0 : Int32), .ref a_p4]) ⟨hx, hb, hml, hown, hts⟩ (c_X8_cost l hlt D dT a_p1 g_p1_world g_p1_chosen g_p1_other v1 v2 o1 e1 _) (cwV 2 hts (TB_V w_929 w_930 w_931 w_50 w_932) rfl rfl rfl ⟨rfl, nd_X8_cost⟩ ⟨Nat.le_of_ble_eq_true rfl, Nat.le_of_ble_eq_true rfl⟩) (cPre.V hPc hDc hK hE hS hFc (va_recv hK hPc (ci := 7) (q0 := 0) rfl rfl)) rfl rfl hl.1 rfl (lv_room (Nat.le_of_ble_eq_true rfl)) dL_cost_5 ⟨Nat.le_of_ble_eq_true rfl, Nat.le_of_ble_eq_true rfl⟩) hPq hDq hS hFc (fun k1 u1 E1 ce1 q1 H locs hw hEk hP hD hS hxc hxv hxl => ?_) (fun r1 u1 H locs hw hP hD hS => ?_)
  · have hw := xoP_inv hw
    subst hw
    have hP : va_P D vwCl (cSP a_p1 ++ (cW dT (a_p1 4) g_p1_world ++ (cP dT (a_p1 8) u1.1 ++ (cP dT (a_p1 9) u1.2 ++ (cJ_ dT a_p4 n_p4 g_p4))))) H := hP.perm (wj_back [cSP a_p1, cW dT (a_p1 4) g_p1_world, cP dT (a_p1 8) u1.1, cP dT (a_p1 9) u1.2] [cJ_ dT a_p4 n_p4 g_p4] [0, 1, 2, 3, 4] rfl)
    have hD : va_D A (cSP a_p1 ++ (cW dT (a_p1 4) g_p1_world ++ (cP dT (a_p1 8) u1.1 ++ (cP dT (a_p1 9) u1.2 ++ (cJ_ dT a_p4 n_p4 g_p4))))) := hD.perm (wj_back [cSP a_p1, cW dT (a_p1 4) g_p1_world, cP dT (a_p1 8) u1.1, cP dT (a_p1 9) u1.2] [cJ_ dT a_p4 n_p4 g_p4] [0, 1, 2, 3, 4] rfl)
    by_cases c2 : k1 = 2
    · replace h := iteT c2 h
      subst c2
      have hEk : E1 = EXB := hEk
      refine vx_catch (name := EXB) (E := E1) hown [] ⟨0, 9, 12, 31⟩ [⟨0, 9, 16, 13⟩] (htab.trans rfl) (fun z hz => absurd hz List.not_mem_nil) rfl (by decide) (hqs _ w_608) (by rw [hEk]; exact va_Nw.use rfl (hE.2.2.1 (EXB, EXB) (by decide +kernel))) hxc hxv hxl ?_
      refine lv_astore (lv' := [(4, .ref q1), (0, .ref (a_p1 0 0)), (1, .int v1), (2, .int v2), (3, .ref a_p4)]) hx hb dL_cost_12 hl (by decide) rfl (fun ls hl => ?_)
      refine lv_iconst (v := 1) hx hb dL_cost_14 (by decide) ?_
      exact rt_i hx hb hr hlk hK hS ((u1.1, u1.2, g_p4) : TP × TP × (Nat → Int64)) (ret2 h) hP hD dL_cost_15
    replace h := iteF c2 h
    by_cases c3 : k1 = 0
    · replace h := iteT c3 h
      subst c3
      have hEk : E1 = EXI := hEk
      refine vx_catch (name := EXI) (E := E1) hown [(⟨0, 9, 12, 31⟩ : ExceptionTableEntry)] ⟨0, 9, 16, 13⟩ [] (htab.trans rfl) (fun z hz => by
      simp only [List.mem_cons, List.not_mem_nil, or_false] at hz
      rcases hz with rfl
      · exact Or.inr ⟨by decide, EXB, hqs _ w_608, by rw [hEk]; exact hE.2.2.2.1 (EXI, EXB) (by decide +kernel)⟩) rfl (by decide) (hqs _ w_410) (by rw [hEk]; exact va_Nw.use rfl (hE.2.2.1 (EXI, EXI) (by decide +kernel))) hxc hxv hxl ?_
      refine lv_astore (lv' := [(4, .ref q1), (0, .ref (a_p1 0 0)), (1, .int v1), (2, .int v2), (3, .ref a_p4)]) hx hb dL_cost_16 hl (by decide) rfl (fun ls hl => ?_)
      refine lv_iconst (v := 2) hx hb dL_cost_18 (by decide) ?_
      exact rt_i hx hb hr hlk hK hS ((u1.1, u1.2, g_p4) : TP × TP × (Nat → Int64)) (ret2 h) hP hD dL_cost_19
    replace h := iteF c3 h
    exact nomatch h
  subst hw
  replace h := sumR h
  have hP : va_P D vwCl (cSP a_p1 ++ (cW dT (a_p1 4) g_p1_world ++ (cP dT (a_p1 8) u1.1 ++ (cP dT (a_p1 9) u1.2 ++ (cJ_ dT a_p4 n_p4 g_p4))))) H := hP.perm (wj_back [cSP a_p1, cW dT (a_p1 4) g_p1_world, cP dT (a_p1 8) u1.1, cP dT (a_p1 9) u1.2] [cJ_ dT a_p4 n_p4 g_p4] [0, 1, 2, 3, 4] rfl)
  have hD : va_D A (cSP a_p1 ++ (cW dT (a_p1 4) g_p1_world ++ (cP dT (a_p1 8) u1.1 ++ (cP dT (a_p1 9) u1.2 ++ (cJ_ dT a_p4 n_p4 g_p4))))) := hD.perm (wj_back [cSP a_p1, cW dT (a_p1 4) g_p1_world, cP dT (a_p1 8) u1.1, cP dT (a_p1 9) u1.2] [cJ_ dT a_p4 n_p4 g_p4] [0, 1, 2, 3, 4] rfl)
  obtain ⟨g4, h⟩ := chk h
  refine va_last hx hb hK hP hD hS 27 1 rfl rfl (inb_in g4) dL_cost_8 (fun H locs hP hD hS => ?_)
  have hP : va_P D vwCl (cSP a_p1 ++ (cW dT (a_p1 4) g_p1_world ++ (cP dT (a_p1 8) u1.1 ++ (cP dT (a_p1 9) u1.2 ++ (cJ_ dT a_p4 n_p4 (vp_updL g_p4 (0 : Int32).toNatClampNeg r1)))))) H := hP
  have hD : va_D A (cSP a_p1 ++ (cW dT (a_p1 4) g_p1_world ++ (cP dT (a_p1 8) u1.1 ++ (cP dT (a_p1 9) u1.2 ++ (cJ_ dT a_p4 n_p4 (vp_updL g_p4 (0 : Int32).toNatClampNeg r1)))))) := hD
  refine lv_goto (tgt := 20) hx hb dL_cost_9 (by decide) ?_
  refine lv_iconst (v := 0) hx hb dL_cost_20 (by decide) ?_
  exact rt_i hx hb hr hlk hK hS ((u1.1, u1.2, (vp_updL g_p4 (0 : Int32).toNatClampNeg r1)) : TP × TP × (Nat → Int64)) (ret2 h) hP hD dL_cost_21

def f_L_costOfText (n_p3 : Nat) (g_p1_text : TT) (g_p1_planReader : TR) (g_p1_world : TW) (g_p1_chosen : TP) (g_p3 : Nat → Int64) (v1 : Int32) : Option (Int32 × (TR × TP × (Nat → Int64))) :=
  ((f_X8_costOfText g_p1_text g_p1_planReader g_p1_world g_p1_chosen v1).bind fun o1 => (fun u1 => o1.1.elim (fun k1 => (if k1 = 0 then (some ((1 : Int32), (u1.1, u1.2, g_p3))) else (if k1 = 1 then (some ((2 : Int32), (u1.1, u1.2, g_p3))) else none))) (fun r1 => (if inb (0 : Int32) n_p3 = true then (some ((0 : Int32), (u1.1, u1.2, (vp_updL g_p3 (0 : Int32).toNatClampNeg r1)))) else none))) o1.2)
set_option maxHeartbeats 8000000 in
set_option maxRecDepth 100000 in
theorem c_L_costOfText (l : Launch) (hlt : l.stackTraces = false) (D : va_G) (dT : Nat → ClassId) (a_p1 : Nat → Nat → Nat) (a_p3 : Nat) (n_p3 : Nat) (g_p1_text : TT) (g_p1_planReader : TR) (g_p1_world : TW) (g_p1_chosen : TP) (g_p3 : Nat → Int64) (v1 : Int32) (o : (Int32 × (TR × TP × (Nat → Int64)))) (h : f_L_costOfText n_p3 g_p1_text g_p1_planReader g_p1_world g_p1_chosen g_p3 v1 = some o) (sz : Nat) : Met l yL_costOfText (Cond.codeWith yL_costOfText cL_costOfText 4 (some .int) [(0, 8, 11, 13), (0, 8, 14, 15)] :: TB) { frames := 9, cells := 2, slots := 12, locals := 153 } (va_Pc [.ref (a_p1 0 0), .int v1, .ref a_p3] (cPre D dT (cSP a_p1 ++ (cT dT (a_p1 1) g_p1_text ++ (cR dT (a_p1 3) g_p1_planReader ++ (cW dT (a_p1 4) g_p1_world ++ (cP dT (a_p1 8) g_p1_chosen ++ (cJ_ dT a_p3 n_p3 g_p3)))))) sz)) (va_Qi (fun (r : Int32) (u : TR × TP × (Nat → Int64)) => r = o.1 ∧ u = o.2) (fun u t => cAt D dT (va_A (cSP a_p1 ++ (cT dT (a_p1 1) g_p1_text ++ (cR dT (a_p1 3) g_p1_planReader ++ (cW dT (a_p1 4) g_p1_world ++ (cP dT (a_p1 8) g_p1_chosen ++ (cJ_ dT a_p3 n_p3 g_p3)))))) sz) (cSP a_p1 ++ (cT dT (a_p1 1) g_p1_text ++ (cR dT (a_p1 3) (u.1) ++ (cW dT (a_p1 4) g_p1_world ++ (cP dT (a_p1 8) (u.2.1) ++ (cJ_ dT a_p3 n_p3 (u.2.2))))))) t) (va_A (cSP a_p1 ++ (cT dT (a_p1 1) g_p1_text ++ (cR dT (a_p1 3) g_p1_planReader ++ (cW dT (a_p1 4) g_p1_world ++ (cP dT (a_p1 8) g_p1_chosen ++ (cJ_ dT a_p3 n_p3 g_p3)))))) sz)) 2 12 (va_A (cSP a_p1 ++ (cT dT (a_p1 1) g_p1_text ++ (cR dT (a_p1 3) g_p1_planReader ++ (cW dT (a_p1 4) g_p1_world ++ (cP dT (a_p1 8) g_p1_chosen ++ (cJ_ dT a_p3 n_p3 g_p3)))))) sz) := by
  refine mStartH (WS := (cSP a_p1 ++ (cT dT (a_p1 1) g_p1_text ++ (cR dT (a_p1 3) g_p1_planReader ++ (cW dT (a_p1 4) g_p1_world ++ (cP dT (a_p1 8) g_p1_chosen ++ (cJ_ dT a_p3 n_p3 g_p3))))))) (Qc := fun A => va_Qi (fun (r : Int32) (u : TR × TP × (Nat → Int64)) => r = o.1 ∧ u = o.2) (fun u t => cAt D dT A (cSP a_p1 ++ (cT dT (a_p1 1) g_p1_text ++ (cR dT (a_p1 3) (u.1) ++ (cW dT (a_p1 4) g_p1_world ++ (cP dT (a_p1 8) (u.2.1) ++ (cJ_ dT a_p3 n_p3 (u.2.2))))))) t) A) RL rfl (by decide) (Nat.le_of_ble_eq_true rfl) ?_ sz
  intro p e s m below meth c A ls hx hb hml hr hlk htab hts hqs hown hE hA hK hP hD hS hl
  have hl : lv_has ls 4 [(0, .ref (a_p1 0 0)), (1, .int v1), (2, .ref a_p3)] := hl
  unfold f_L_costOfText at h
  refine lv_aload_n hx hb dL_costOfText_0 rfl (lv_at hl 2 rfl) ?_
  refine lv_iconst (v := 0) hx hb dL_costOfText_1 (by decide) ?_
  refine lv_aload_n hx hb dL_costOfText_2 rfl (lv_at hl 0 rfl) ?_
  refine lv_iload_n hx hb dL_costOfText_3 rfl (lv_at hl 1 rfl) ?_
  obtain ⟨o1, e1, h⟩ := obind h
  have hPq : va_P D vwCl ((cSP a_p1 ++ (cT dT (a_p1 1) g_p1_text ++ (cR dT (a_p1 3) g_p1_planReader ++ (cW dT (a_p1 4) g_p1_world ++ (cP dT (a_p1 8) g_p1_chosen))))) ++ (cJ_ dT a_p3 n_p3 g_p3)) _ := hP.perm (wj_split [cSP a_p1, cT dT (a_p1 1) g_p1_text, cR dT (a_p1 3) g_p1_planReader, cW dT (a_p1 4) g_p1_world, cP dT (a_p1 8) g_p1_chosen, cJ_ dT a_p3 n_p3 g_p3] [0, 1, 2, 3, 4] [5] rfl)
  have hDq : va_D A ((cSP a_p1 ++ (cT dT (a_p1 1) g_p1_text ++ (cR dT (a_p1 3) g_p1_planReader ++ (cW dT (a_p1 4) g_p1_world ++ (cP dT (a_p1 8) g_p1_chosen))))) ++ (cJ_ dT a_p3 n_p3 g_p3)) := hD.perm (wj_split [cSP a_p1, cT dT (a_p1 1) g_p1_text, cR dT (a_p1 3) g_p1_planReader, cW dT (a_p1 4) g_p1_world, cP dT (a_p1 8) g_p1_chosen, cJ_ dT a_p3 n_p3 g_p3] [0, 1, 2, 3, 4] [5] rfl)
  have hPc := hPq.left
  have hDc := hDq.left
  have hFc := va_freeL hDq hS hA
  refine xcl_lL (wr := (cJ_ dT a_p3 n_p3 g_p3)) (vx_runV (As := [.int v1]) (rest := [.int (0 : Int32), .ref a_p3]) ⟨hx, hb, hml, hown, hts⟩ (c_X8_costOfText l hlt D dT a_p1 g_p1_text g_p1_planReader g_p1_world g_p1_chosen v1 o1 e1 _) (cwV 1 hts (TB_V w_936 w_937 w_938 w_50 w_939) rfl rfl rfl ⟨rfl, nd_X8_costOfText⟩ ⟨Nat.le_of_ble_eq_true rfl, Nat.le_of_ble_eq_true rfl⟩) (cPre.V hPc hDc hK hE hS hFc (va_recv hK hPc (ci := 7) (q0 := 0) rfl rfl)) rfl rfl hl.1 rfl (lv_room (Nat.le_of_ble_eq_true rfl)) dL_costOfText_4 ⟨Nat.le_of_ble_eq_true rfl, Nat.le_of_ble_eq_true rfl⟩) hPq hDq hS hFc (fun k1 u1 E1 ce1 q1 H locs hw hEk hP hD hS hxc hxv hxl => ?_) (fun r1 u1 H locs hw hP hD hS => ?_)
  · have hw := xoP_inv hw
    subst hw
    have hP : va_P D vwCl (cSP a_p1 ++ (cT dT (a_p1 1) g_p1_text ++ (cR dT (a_p1 3) u1.1 ++ (cW dT (a_p1 4) g_p1_world ++ (cP dT (a_p1 8) u1.2 ++ (cJ_ dT a_p3 n_p3 g_p3)))))) H := hP.perm (wj_back [cSP a_p1, cT dT (a_p1 1) g_p1_text, cR dT (a_p1 3) u1.1, cW dT (a_p1 4) g_p1_world, cP dT (a_p1 8) u1.2] [cJ_ dT a_p3 n_p3 g_p3] [0, 1, 2, 3, 4, 5] rfl)
    have hD : va_D A (cSP a_p1 ++ (cT dT (a_p1 1) g_p1_text ++ (cR dT (a_p1 3) u1.1 ++ (cW dT (a_p1 4) g_p1_world ++ (cP dT (a_p1 8) u1.2 ++ (cJ_ dT a_p3 n_p3 g_p3)))))) := hD.perm (wj_back [cSP a_p1, cT dT (a_p1 1) g_p1_text, cR dT (a_p1 3) u1.1, cW dT (a_p1 4) g_p1_world, cP dT (a_p1 8) u1.2] [cJ_ dT a_p3 n_p3 g_p3] [0, 1, 2, 3, 4, 5] rfl)
    by_cases c2 : k1 = 0
    · replace h := iteT c2 h
      subst c2
      have hEk : E1 = EXI := hEk
      refine vx_catch (name := EXI) (E := E1) hown [] ⟨0, 8, 11, 13⟩ [⟨0, 8, 14, 15⟩] (htab.trans rfl) (fun z hz => absurd hz List.not_mem_nil) rfl (by decide) (hqs _ w_410) (by rw [hEk]; exact va_Nw.use rfl (hE.2.2.1 (EXI, EXI) (by decide +kernel))) hxc hxv hxl ?_
      refine lv_astore_n (lv' := [(3, .ref q1), (0, .ref (a_p1 0 0)), (1, .int v1), (2, .ref a_p3)]) hx hb dL_costOfText_11 rfl hl (by decide) rfl (fun ls hl => ?_)
      refine lv_iconst (v := 1) hx hb dL_costOfText_12 (by decide) ?_
      exact rt_i hx hb hr hlk hK hS ((u1.1, u1.2, g_p3) : TR × TP × (Nat → Int64)) (ret2 h) hP hD dL_costOfText_13
    replace h := iteF c2 h
    by_cases c3 : k1 = 1
    · replace h := iteT c3 h
      subst c3
      have hEk : E1 = EXS := hEk
      refine vx_catch (name := EXS) (E := E1) hown [(⟨0, 8, 11, 13⟩ : ExceptionTableEntry)] ⟨0, 8, 14, 15⟩ [] (htab.trans rfl) (fun z hz => by
      simp only [List.mem_cons, List.not_mem_nil, or_false] at hz
      rcases hz with rfl
      · exact Or.inr ⟨by decide, EXI, hqs _ w_410, by rw [hEk]; exact hE.2.2.2.1 (EXS, EXI) (by decide +kernel)⟩) rfl (by decide) (hqs _ w_411) (by rw [hEk]; exact va_Nw.use rfl (hE.2.2.1 (EXS, EXS) (by decide +kernel))) hxc hxv hxl ?_
      refine lv_astore_n (lv' := [(3, .ref q1), (0, .ref (a_p1 0 0)), (1, .int v1), (2, .ref a_p3)]) hx hb dL_costOfText_14 rfl hl (by decide) rfl (fun ls hl => ?_)
      refine lv_iconst (v := 2) hx hb dL_costOfText_15 (by decide) ?_
      exact rt_i hx hb hr hlk hK hS ((u1.1, u1.2, g_p3) : TR × TP × (Nat → Int64)) (ret2 h) hP hD dL_costOfText_16
    replace h := iteF c3 h
    exact nomatch h
  subst hw
  replace h := sumR h
  have hP : va_P D vwCl (cSP a_p1 ++ (cT dT (a_p1 1) g_p1_text ++ (cR dT (a_p1 3) u1.1 ++ (cW dT (a_p1 4) g_p1_world ++ (cP dT (a_p1 8) u1.2 ++ (cJ_ dT a_p3 n_p3 g_p3)))))) H := hP.perm (wj_back [cSP a_p1, cT dT (a_p1 1) g_p1_text, cR dT (a_p1 3) u1.1, cW dT (a_p1 4) g_p1_world, cP dT (a_p1 8) u1.2] [cJ_ dT a_p3 n_p3 g_p3] [0, 1, 2, 3, 4, 5] rfl)
  have hD : va_D A (cSP a_p1 ++ (cT dT (a_p1 1) g_p1_text ++ (cR dT (a_p1 3) u1.1 ++ (cW dT (a_p1 4) g_p1_world ++ (cP dT (a_p1 8) u1.2 ++ (cJ_ dT a_p3 n_p3 g_p3)))))) := hD.perm (wj_back [cSP a_p1, cT dT (a_p1 1) g_p1_text, cR dT (a_p1 3) u1.1, cW dT (a_p1 4) g_p1_world, cP dT (a_p1 8) u1.2] [cJ_ dT a_p3 n_p3 g_p3] [0, 1, 2, 3, 4, 5] rfl)
  obtain ⟨g4, h⟩ := chk h
  refine va_last hx hb hK hP hD hS 23 1 rfl rfl (inb_in g4) dL_costOfText_7 (fun H locs hP hD hS => ?_)
  have hP : va_P D vwCl (cSP a_p1 ++ (cT dT (a_p1 1) g_p1_text ++ (cR dT (a_p1 3) u1.1 ++ (cW dT (a_p1 4) g_p1_world ++ (cP dT (a_p1 8) u1.2 ++ (cJ_ dT a_p3 n_p3 (vp_updL g_p3 (0 : Int32).toNatClampNeg r1))))))) H := hP
  have hD : va_D A (cSP a_p1 ++ (cT dT (a_p1 1) g_p1_text ++ (cR dT (a_p1 3) u1.1 ++ (cW dT (a_p1 4) g_p1_world ++ (cP dT (a_p1 8) u1.2 ++ (cJ_ dT a_p3 n_p3 (vp_updL g_p3 (0 : Int32).toNatClampNeg r1))))))) := hD
  refine lv_goto (tgt := 17) hx hb dL_costOfText_8 (by decide) ?_
  refine lv_iconst (v := 0) hx hb dL_costOfText_17 (by decide) ?_
  exact rt_i hx hb hr hlk hK hS ((u1.1, u1.2, (vp_updL g_p3 (0 : Int32).toNatClampNeg r1)) : TR × TP × (Nat → Int64)) (ret2 h) hP hD dL_costOfText_18

