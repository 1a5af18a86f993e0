def f_X9_resize_J33   (x1 : Int32) (x2 : Int32) (s0 : Int32) (g_this : TM) (g_this_now : Nat → Int64) (g_this_diary : Nat → Int64) : Option (Int32 × (TM × (Nat → Int64) × (Nat → Int64))) :=
    ((f_X9_refused g_this s0).bind fun o5 => (if o5.1 = (0 : Int32) then ((f_X9_remember o5.2 g_this_now g_this_diary).bind fun o7 => (if inb ((1 : Int32) + x1) 353 = true then (if inb ((1 : Int32) + x1) 353 = true then (some ((Int64.toInt32 (g_this_now ((1 : Int32) + x1).toNatClampNeg)), (o7.2.1, (vp_updL g_this_now ((1 : Int32) + x1).toNatClampNeg (Int32.toInt64 x2)), o7.2.2))) else none) else none)) else (some ((0 : Int32), (o5.2, g_this_now, g_this_diary)))))
def f_X9_resize (g_this : TM) (g_this_now : Nat → Int64) (g_this_diary : Nat → Int64) (v1 : Int32) (v2 : Int32) : Option (Int32 × (TM × (Nat → Int64) × (Nat → Int64))) :=
  ((f_X9_isTable 353 g_this_now v1).bind fun o1 => (if o1.1 = (0 : Int32) then (f_X9_resize_J33 v1 v2 (1 : Int32) g_this g_this_now g_this_diary) else ((f_X9_in (Int32.toInt64 v2) (1 : Int64) (9999 : Int64)).bind fun o3 => (if o3.1 = (0 : Int32) then (f_X9_resize_J33 v1 v2 (2 : Int32) g_this g_this_now g_this_diary) else (f_X9_resize_J33 v1 v2 (0 : Int32) g_this g_this_now g_this_diary)))))
set_option maxHeartbeats 8000000 in
set_option maxRecDepth 100000 in
theorem c_X9_resize (l : Launch) (hlt : l.stackTraces = false) (D : va_G) (dT : Nat → ClassId) (a_this : Nat → Nat) (g_this : TM) (g_this_now : Nat → Int64) (g_this_diary : Nat → Int64) (v1 : Int32) (v2 : Int32) (o : (Int32 × (TM × (Nat → Int64) × (Nat → Int64)))) (h : f_X9_resize g_this g_this_now g_this_diary v1 v2 = some o) (sz : Nat) : Met l yX9_resize (WSm yX9_resize cX9_resize 4 (some .int)) { frames := 2, cells := 0, slots := 0, locals := 46 } (va_Pc [.ref (a_this 0), .int v1, .int v2] (cPre D dT (cM a_this g_this ++ (cJ_ dT (a_this 2) 353 g_this_now ++ (cJ_ dT (a_this 4) 4942 g_this_diary))) sz)) (va_Qi (fun (r : Int32) (u : TM × (Nat → Int64) × (Nat → Int64)) => r = o.1 ∧ u = o.2) (fun u t => cAt D dT (va_A (cM a_this g_this ++ (cJ_ dT (a_this 2) 353 g_this_now ++ (cJ_ dT (a_this 4) 4942 g_this_diary))) sz) (cM a_this (u.1) ++ (cJ_ dT (a_this 2) 353 (u.2.1) ++ (cJ_ dT (a_this 4) 4942 (u.2.2)))) t) (va_A (cM a_this g_this ++ (cJ_ dT (a_this 2) 353 g_this_now ++ (cJ_ dT (a_this 4) 4942 g_this_diary))) sz)) 0 0 (va_A (cM a_this g_this ++ (cJ_ dT (a_this 2) 353 g_this_now ++ (cJ_ dT (a_this 4) 4942 g_this_diary))) sz) := by
  refine mStart (WS := (cM a_this g_this ++ (cJ_ dT (a_this 2) 353 g_this_now ++ (cJ_ dT (a_this 4) 4942 g_this_diary)))) (Qc := fun A => va_Qi (fun (r : Int32) (u : TM × (Nat → Int64) × (Nat → Int64)) => r = o.1 ∧ u = o.2) (fun u t => cAt D dT A (cM a_this (u.1) ++ (cJ_ dT (a_this 2) 353 (u.2.1) ++ (cJ_ dT (a_this 4) 4942 (u.2.2)))) t) A) RX9 rfl (by decide) (Nat.le_of_ble_eq_true rfl) ?_ sz
  intro p e s m below meth c A ls hx hb hml hr hlk hnm hts hqs hown hE hA hK hP hD hS hl
  have hl : lv_has ls 4 [(0, .ref (a_this 0)), (1, .int v1), (2, .int v2)] := hl
  have L_f_X9_resize_J33 : ∀  (x1 : Int32) (x2 : Int32) (s0 : Int32) (g_this : TM) (g_this_now : Nat → Int64) (g_this_diary : Nat → Int64)   (H : Heap) (locs : List Loc) (ls : Array Slot), f_X9_resize_J33   x1 x2 s0 g_this g_this_now g_this_diary = some o → va_P D vwCl (cM a_this g_this ++ (cJ_ dT (a_this 2) 353 g_this_now ++ (cJ_ dT (a_this 4) 4942 g_this_diary))) H → va_D A (cM a_this g_this ++ (cJ_ dT (a_this 2) 353 g_this_now ++ (cJ_ dT (a_this 4) 4942 g_this_diary))) → va_S A s.heap H locs → lv_has ls 4 [(0, .ref (a_this 0)), (1, .int x1), (2, .int x2)] → W p l e (headSpec (WSm yX9_resize cX9_resize 4 (some .int)) { frames := 2, cells := 0, slots := 0, locals := 46 }).room s m [.ref (a_this 0), .int v1, .int v2].toArray below meth c H locs 0 0 (MQ below (va_Qi (fun (r : Int32) (u : TM × (Nat → Int64) × (Nat → Int64)) => r = o.1 ∧ u = o.2) (fun u t => cAt D dT A (cM a_this (u.1) ++ (cJ_ dT (a_this 2) 353 (u.2.1) ++ (cJ_ dT (a_this 4) 4942 (u.2.2)))) t) A) [.ref (a_this 0), .int v1, .int v2].toArray s 0 0 A) (F0 m 33 ls [.int s0, .ref (a_this 0)]) := by
    intro  x1 x2 s0 g_this g_this_now g_this_diary   H locs ls h hP hD hS hl
    unfold f_X9_resize_J33 at h
    obtain ⟨o5, e5, h⟩ := obind h
    have hPc := hP.sub (ws' := (cM a_this g_this)) [0] rfl
    have hDc := hD.sub (ws' := (cM a_this g_this)) [0] (by decide) rfl
    have hFc := va_free (wc := (cM a_this g_this)) hD hS hA [0] rfl
    refine cl_i (wr := (cJ_ dT (a_this 2) 353 g_this_now ++ (cJ_ dT (a_this 4) 4942 g_this_diary))) (va_runV (As := [.int s0]) (rest := []) ⟨hx, hb, hml, hown, hts⟩ (c_X9_refused l hlt D dT a_this g_this s0 o5 e5 _) (cwV 1 hts (TB_V w_1132 w_1134 w_32 w_59 w_1135) rfl rfl rfl ⟨rfl, nd_X9_refused⟩ ⟨Nat.le_of_ble_eq_true rfl, Nat.le_of_ble_eq_true rfl⟩) (cPre.V hPc hDc hK hE hS hFc (va_recv hK hP (ci := 8) (q0 := 0) rfl rfl)) rfl rfl hl.1 rfl (lv_room (Nat.le_of_ble_eq_true rfl)) dX9_resize_33 ⟨Nat.zero_le _, Nat.zero_le _⟩) hP hD hS hFc [0] [1, 2] rfl rfl (by decide) (by decide) (fun r5 u5 H locs hw hP hD hS => ?_)
    obtain ⟨rfl, rfl⟩ := hw
    have hP : va_P D vwCl (cJ_ dT (a_this 2) 353 g_this_now ++ (cJ_ dT (a_this 4) 4942 g_this_diary ++ (cM a_this o5.2))) H := hP
    have hD : va_D A (cJ_ dT (a_this 2) 353 g_this_now ++ (cJ_ dT (a_this 4) 4942 g_this_diary ++ (cM a_this o5.2))) := hD
    refine lv_if_eq (tgt := 41) hx hb dX9_resize_36 (by decide) (fun c6 => ?_) (fun c6 => ?_)
    · replace h := iteT c6 h
      refine lv_aload_n hx hb dX9_resize_41 rfl (lv_at hl 0 rfl) ?_
      obtain ⟨o7, e7, h⟩ := obind h
      have hPc := hP.sub (ws' := (cM a_this o5.2 ++ (cJ_ dT (a_this 2) 353 g_this_now ++ (cJ_ dT (a_this 4) 4942 g_this_diary)))) [2, 0, 1] rfl
      have hDc := hD.sub (ws' := (cM a_this o5.2 ++ (cJ_ dT (a_this 2) 353 g_this_now ++ (cJ_ dT (a_this 4) 4942 g_this_diary)))) [2, 0, 1] (by decide) rfl
      have hFc := va_free (wc := (cM a_this o5.2 ++ (cJ_ dT (a_this 2) 353 g_this_now ++ (cJ_ dT (a_this 4) 4942 g_this_diary)))) hD hS hA [2, 0, 1] rfl
      refine cl_v (wr := ([] : va_W)) (va_runV (As := []) (rest := []) ⟨hx, hb, hml, hown, hts⟩ (c_X9_remember l hlt D dT a_this o5.2 g_this_now g_this_diary o7 e7 _) (cwV 0 hts (TB_V w_1233 w_1235 w_39 w_59 w_1236) rfl rfl rfl ⟨rfl, nd_X9_remember⟩ ⟨Nat.le_of_ble_eq_true rfl, Nat.le_of_ble_eq_true rfl⟩) (cPre.V hPc hDc hK hE hS hFc (va_recv hK hP (ci := 8) (q0 := 2) rfl rfl)) rfl rfl hl.1 rfl (lv_room (Nat.le_of_ble_eq_true rfl)) dX9_resize_42 ⟨Nat.zero_le _, Nat.zero_le _⟩) hP hD hS hFc [2, 0, 1] [] rfl rfl (by decide) (by decide) (fun u7 H locs hw hP hD hS => ?_)
      subst hw
      have hP : va_P D vwCl (cM a_this o7.2.1 ++ (cJ_ dT (a_this 2) 353 g_this_now ++ (cJ_ dT (a_this 4) 4942 o7.2.2))) H := hP
      have hD : va_D A (cM a_this o7.2.1 ++ (cJ_ dT (a_this 2) 353 g_this_now ++ (cJ_ dT (a_this 4) 4942 o7.2.2))) := hD
      refine lv_aload_n hx hb dX9_resize_45 rfl (lv_at hl 0 rfl) ?_
      refine gf_X9_13 (v := .ref (a_this 2)) hx hb hqs hown hK hP 0 rfl rfl dX9_resize_46 ?_
      refine lv_iconst (v := 1) hx hb dX9_resize_49 (by decide) ?_
      refine lv_iload_n hx hb dX9_resize_50 rfl (lv_at hl 1 rfl) ?_
      refine lv_iadd hx hb dX9_resize_51 ?_
      obtain ⟨g8, h⟩ := chk h
      refine va_lald hx hb hK hP 1 1 rfl rfl (inb_in g8) dX9_resize_52 ?_
      refine lv_l2i hx hb dX9_resize_53 rfl ?_
      refine lv_istore_n (lv' := [(3, .int (Int64.toInt32 (g_this_now ((1 : Int32) + x1).toNatClampNeg))), (0, .ref (a_this 0)), (1, .int x1), (2, .int x2)]) hx hb dX9_resize_54 rfl hl (by decide) rfl (fun ls hl => ?_)
      refine lv_aload_n hx hb dX9_resize_55 rfl (lv_at hl 1 rfl) ?_
      refine gf_X9_13 (v := .ref (a_this 2)) hx hb hqs hown hK hP 0 rfl rfl dX9_resize_56 ?_
      refine lv_iconst (v := 1) hx hb dX9_resize_59 (by decide) ?_
      refine lv_iload_n hx hb dX9_resize_60 rfl (lv_at hl 2 rfl) ?_
      refine lv_iadd hx hb dX9_resize_61 ?_
      refine lv_iload_n hx hb dX9_resize_62 rfl (lv_at hl 3 rfl) ?_
      refine lv_i2l hx hb dX9_resize_63 rfl ?_
      obtain ⟨g9, h⟩ := chk h
      refine va_last hx hb hK hP hD hS 1 1 rfl rfl (inb_in g9) dX9_resize_64 (fun H locs hP hD hS => ?_)
      have hP : va_P D vwCl (cM a_this o7.2.1 ++ (cJ_ dT (a_this 2) 353 (vp_updL g_this_now ((1 : Int32) + x1).toNatClampNeg (Int32.toInt64 x2)) ++ (cJ_ dT (a_this 4) 4942 o7.2.2))) H := hP
      have hD : va_D A (cM a_this o7.2.1 ++ (cJ_ dT (a_this 2) 353 (vp_updL g_this_now ((1 : Int32) + x1).toNatClampNeg (Int32.toInt64 x2)) ++ (cJ_ dT (a_this 4) 4942 o7.2.2))) := hD
      refine lv_iload_n hx hb dX9_resize_65 rfl (lv_at hl 0 rfl) ?_
      exact rt_i hx hb hr hlk hK hS ((o7.2.1, (vp_updL g_this_now ((1 : Int32) + x1).toNatClampNeg (Int32.toInt64 x2)), o7.2.2) : TM × (Nat → Int64) × (Nat → Int64)) (ret2 h) hP hD dX9_resize_66
    · replace h := iteF c6 h
      refine lv_iconst (v := 0) hx hb dX9_resize_39 (by decide) ?_
      have hP := hP.sub (ws' := (cM a_this o5.2 ++ (cJ_ dT (a_this 2) 353 g_this_now ++ (cJ_ dT (a_this 4) 4942 g_this_diary)))) [2, 0, 1] rfl
      have hD := hD.sub (ws' := (cM a_this o5.2 ++ (cJ_ dT (a_this 2) 353 g_this_now ++ (cJ_ dT (a_this 4) 4942 g_this_diary)))) [2, 0, 1] (by decide) rfl
      exact rt_i hx hb hr hlk hK hS ((o5.2, g_this_now, g_this_diary) : TM × (Nat → Int64) × (Nat → Int64)) (ret2 h) hP hD dX9_resize_40
  unfold f_X9_resize at h
  refine lv_aload_n hx hb dX9_resize_0 rfl (lv_at hl 0 rfl) ?_
  refine lv_aload_n hx hb dX9_resize_1 rfl (lv_at hl 0 rfl) ?_
  refine gf_X9_13 (v := .ref (a_this 2)) hx hb hqs hown hK hP 0 rfl rfl dX9_resize_2 ?_
  refine lv_iload_n hx hb dX9_resize_5 rfl (lv_at hl 1 rfl) ?_
  obtain ⟨o1, e1, h⟩ := obind h
  have hPc := hP.sub (ws' := (cJ_ dT (a_this 2) 353 g_this_now)) [1] rfl
  have hDc := hD.sub (ws' := (cJ_ dT (a_this 2) 353 g_this_now)) [1] (by decide) rfl
  have hFc := va_free (wc := (cJ_ dT (a_this 2) 353 g_this_now)) hD hS hA [1] rfl
  refine cl_i (wr := (cM a_this g_this ++ (cJ_ dT (a_this 4) 4942 g_this_diary))) (va_runS (As := [.ref (a_this 2), .int v1]) (rest := [.ref (a_this 0)]) ⟨hx, hb, hml, hown, hts⟩ (c_X9_isTable l hlt D dT (a_this 2) 353 g_this_now v1 o1 e1 _) (va_cwS 2 hts (TB_S w_1175 w_1176 w_59 w_1177) rfl rfl rfl nd_X9_isTable ⟨Nat.le_of_ble_eq_true rfl, Nat.le_of_ble_eq_true rfl⟩) (cPre.S hPc hDc hK hE hS hFc) rfl rfl hl.1 rfl (lv_room (Nat.le_of_ble_eq_true rfl)) dX9_resize_6 ⟨Nat.zero_le _, Nat.zero_le _⟩) hP hD hS hFc [1] [0, 2] rfl rfl (by decide) (by decide) (fun r1 u1 H locs hw hP hD hS => ?_)
  obtain ⟨rfl, rfl⟩ := hw
  have hP : va_P D vwCl (cM a_this g_this ++ (cJ_ dT (a_this 4) 4942 g_this_diary ++ (cJ_ dT (a_this 2) 353 g_this_now))) H := hP
  have hD : va_D A (cM a_this g_this ++ (cJ_ dT (a_this 4) 4942 g_this_diary ++ (cJ_ dT (a_this 2) 353 g_this_now))) := hD
  refine lv_if_ne (tgt := 16) hx hb dX9_resize_9 (by decide) (fun c2 => ?_) (fun c2 => ?_)
  · replace h := iteF c2 h
    refine lv_iload_n hx hb dX9_resize_16 rfl (lv_at hl 2 rfl) ?_
    refine lv_i2l hx hb dX9_resize_17 rfl ?_
    refine lv_lconst (v := 1) hx hb dX9_resize_18 (by decide) ?_
    refine lv_ldc2 (v := 9999) hx hb hown (hqs _ w_1232) dX9_resize_19 ?_
    obtain ⟨o3, e3, h⟩ := obind h
    have hPc := hP.sub (ws' := ([] : va_W)) [] rfl
    have hDc := hD.sub (ws' := ([] : va_W)) [] (by decide) rfl
    have hFc := va_free (wc := ([] : va_W)) hD hS hA [] rfl
    refine cl_i (wr := (cM a_this g_this ++ (cJ_ dT (a_this 4) 4942 g_this_diary ++ (cJ_ dT (a_this 2) 353 g_this_now)))) (va_runS (As := [.long (Int32.toInt64 v2), .long (1 : Int64), .long (9999 : Int64)]) (rest := [.ref (a_this 0)]) ⟨hx, hb, hml, hown, hts⟩ (c_X9_in l hlt D dT (Int32.toInt64 v2) (1 : Int64) (9999 : Int64) o3 e3 _) (va_cwS 3 hts (TB_S w_1129 w_1130 w_59 w_1131) rfl rfl rfl nd_X9_in ⟨Nat.le_of_ble_eq_true rfl, Nat.le_of_ble_eq_true rfl⟩) (cPre.S hPc hDc hK hE hS hFc) rfl rfl hl.1 rfl (lv_room (Nat.le_of_ble_eq_true rfl)) dX9_resize_22 ⟨Nat.zero_le _, Nat.zero_le _⟩) hP hD hS hFc [] [0, 1, 2] rfl rfl (by decide) (by decide) (fun r3 u3 H locs hw hP hD hS => ?_)
    obtain ⟨rfl, rfl⟩ := hw
    have hP : va_P D vwCl (cM a_this g_this ++ (cJ_ dT (a_this 4) 4942 g_this_diary ++ (cJ_ dT (a_this 2) 353 g_this_now))) H := hP
    have hD : va_D A (cM a_this g_this ++ (cJ_ dT (a_this 4) 4942 g_this_diary ++ (cJ_ dT (a_this 2) 353 g_this_now))) := hD
    refine lv_if_eq (tgt := 32) hx hb dX9_resize_25 (by decide) (fun c4 => ?_) (fun c4 => ?_)
    · replace h := iteT c4 h
      refine lv_iconst (v := 2) hx hb dX9_resize_32 (by decide) ?_
      have hP := hP.sub (ws' := (cM a_this g_this ++ (cJ_ dT (a_this 2) 353 g_this_now ++ (cJ_ dT (a_this 4) 4942 g_this_diary)))) [0, 2, 1] rfl
      have hD := hD.sub (ws' := (cM a_this g_this ++ (cJ_ dT (a_this 2) 353 g_this_now ++ (cJ_ dT (a_this 4) 4942 g_this_diary)))) [0, 2, 1] (by decide) rfl
      refine L_f_X9_resize_J33  v1 v2 (2 : Int32) g_this g_this_now g_this_diary   _ _ _ h hP hD hS (lv_sub hl [0, 1, 2] rfl)
    · replace h := iteF c4 h
      refine lv_iconst (v := 0) hx hb dX9_resize_28 (by decide) ?_
      refine lv_goto (tgt := 33) hx hb dX9_resize_29 (by decide) ?_
      have hP := hP.sub (ws' := (cM a_this g_this ++ (cJ_ dT (a_this 2) 353 g_this_now ++ (cJ_ dT (a_this 4) 4942 g_this_diary)))) [0, 2, 1] rfl
      have hD := hD.sub (ws' := (cM a_this g_this ++ (cJ_ dT (a_this 2) 353 g_this_now ++ (cJ_ dT (a_this 4) 4942 g_this_diary)))) [0, 2, 1] (by decide) rfl
      refine L_f_X9_resize_J33  v1 v2 (0 : Int32) g_this g_this_now g_this_diary   _ _ _ h hP hD hS (lv_sub hl [0, 1, 2] rfl)
  · replace h := iteT c2 h
    refine lv_iconst (v := 1) hx hb dX9_resize_12 (by decide) ?_
    refine lv_goto (tgt := 33) hx hb dX9_resize_13 (by decide) ?_
    have hP := hP.sub (ws' := (cM a_this g_this ++ (cJ_ dT (a_this 2) 353 g_this_now ++ (cJ_ dT (a_this 4) 4942 g_this_diary)))) [0, 2, 1] rfl
    have hD := hD.sub (ws' := (cM a_this g_this ++ (cJ_ dT (a_this 2) 353 g_this_now ++ (cJ_ dT (a_this 4) 4942 g_this_diary)))) [0, 2, 1] (by decide) rfl
    refine L_f_X9_resize_J33  v1 v2 (1 : Int32) g_this g_this_now g_this_diary   _ _ _ h hP hD hS (lv_sub hl [0, 1, 2] rfl)

def f_X9_isShare (v0 : Int32) : Option (Int32 × (Unit)) :=
  ((f_X9_in (Int32.toInt64 v0) (1 : Int64) (1000 : Int64)).bind fun o1 => (if vp_nar .boolean o1.1 = o1.1 then (some (o1.1, ())) else none))
set_option maxHeartbeats 8000000 in
set_option maxRecDepth 100000 in
theorem c_X9_isShare (l : Launch) (hlt : l.stackTraces = false) (D : va_G) (dT : Nat → ClassId) (v0 : Int32) (o : (Int32 × (Unit))) (h : f_X9_isShare v0 = some o) (sz : Nat) : Met l yX9_isShare (WSm yX9_isShare cX9_isShare 1 (some .boolean)) { frames := 1, cells := 0, slots := 0, locals := 25 } (va_Pc [.int v0] (cPre D dT ([] : va_W) sz)) (va_Qi (fun (r : Int32) (u : Unit) => r = o.1 ∧ u = o.2) (fun u t => cAt D dT (va_A ([] : va_W) sz) ([] : va_W) t) (va_A ([] : va_W) sz)) 0 0 (va_A ([] : va_W) sz) := by
  refine mStart (WS := ([] : va_W)) (Qc := fun A => va_Qi (fun (r : Int32) (u : Unit) => r = o.1 ∧ u = o.2) (fun u t => cAt D dT A ([] : va_W) t) A) RX9 rfl (by decide) (Nat.le_of_ble_eq_true rfl) ?_ sz
  intro p e s m below meth c A ls hx hb hml hr hlk hnm hts hqs hown hE hA hK hP hD hS hl
  have hl : lv_has ls 1 [(0, .int v0)] := hl
  unfold f_X9_isShare at h
  refine lv_iload_n hx hb dX9_isShare_0 rfl (lv_at hl 0 rfl) ?_
  refine lv_i2l hx hb dX9_isShare_1 rfl ?_
  refine lv_lconst (v := 1) hx hb dX9_isShare_2 (by decide) ?_
  refine lv_ldc2 (v := 1000) hx hb hown (hqs _ w_1248) dX9_isShare_3 ?_
  obtain ⟨o1, e1, h⟩ := obind h
  have hPc := hP
  have hDc := hD
  have hFc := vfall hD hS hA
  refine cl_iA (va_runS (As := [.long (Int32.toInt64 v0), .long (1 : Int64), .long (1000 : Int64)]) (rest := []) ⟨hx, hb, hml, hown, hts⟩ (c_X9_in l hlt D dT (Int32.toInt64 v0) (1 : Int64) (1000 : Int64) o1 e1 _) (va_cwS 3 hts (TB_S w_1129 w_1130 w_59 w_1131) rfl rfl rfl nd_X9_in ⟨Nat.le_of_ble_eq_true rfl, Nat.le_of_ble_eq_true rfl⟩) (cPre.S hPc hDc hK hE hS hFc) rfl rfl hl.1 rfl (lv_room (Nat.le_of_ble_eq_true rfl)) dX9_isShare_6 ⟨Nat.zero_le _, Nat.zero_le _⟩) hS hFc (fun r1 u1 H locs hw hP hD hS => ?_)
  obtain ⟨rfl, rfl⟩ := hw
  have hP : va_P D vwCl ([] : va_W) H := hP
  have hD : va_D A ([] : va_W) := hD
  obtain ⟨g2, h⟩ := chp h
  exact rt_z hx hb hr hlk hK hS (() : Unit) (ret2 h) g2 hP hD dX9_isShare_9

def f_X9_link_J42   (x1 : Int32) (x2 : Int32) (x3 : Int32) (x4 : Int32) (s0 : Int32) (g_this : TM) (g_this_now : Nat → Int64) (g_this_diary : Nat → Int64) : Option (Int32 × (TM × (Nat → Int64) × (Nat → Int64))) :=
    ((f_X9_refused g_this s0).bind fun o4 => (if o4.1 = (0 : Int32) then ((f_X9_remember o4.2 g_this_now g_this_diary).bind fun o6 => ((f_X9_linkOn 353 g_this_now x1 x2 x3 x4).bind fun o7 => (some (o7.1, (o6.2.1, o7.2, o6.2.2))))) else (some ((0 : Int32), (o4.2, g_this_now, g_this_diary)))))
def f_X9_link_J41   (x1 : Int32) (x2 : Int32) (x3 : Int32) (x4 : Int32) (g_this : TM) (g_this_now : Nat → Int64) (g_this_diary : Nat → Int64) : Option (Int32 × (TM × (Nat → Int64) × (Nat → Int64))) :=
    (f_X9_link_J42 x1 x2 x3 x4 (2 : Int32) g_this g_this_now g_this_diary)
def f_X9_link (g_this : TM) (g_this_now : Nat → Int64) (g_this_diary : Nat → Int64) (v1 : Int32) (v2 : Int32) (v3 : Int32) (v4 : Int32) : Option (Int32 × (TM × (Nat → Int64) × (Nat → Int64))) :=
  ((f_X9_arePair 353 g_this_now v1 v2).bind fun o1 => (if o1.1 = (0 : Int32) then (f_X9_link_J42 v1 v2 v3 v4 (1 : Int32) g_this g_this_now g_this_diary) else (if v1 = v2 then (f_X9_link_J41 v1 v2 v3 v4 g_this g_this_now g_this_diary) else ((f_X9_isShare v3).bind fun o8 => (if o8.1 = (0 : Int32) then (f_X9_link_J41 v1 v2 v3 v4 g_this g_this_now g_this_diary) else ((f_X9_isShare v4).bind fun o10 => (if o10.1 = (0 : Int32) then (f_X9_link_J41 v1 v2 v3 v4 g_this g_this_now g_this_diary) else (f_X9_link_J42 v1 v2 v3 v4 (0 : Int32) g_this g_this_now g_this_diary))))))))
set_option maxHeartbeats 8000000 in
set_option maxRecDepth 100000 in
theorem c_X9_link (l : Launch) (hlt : l.stackTraces = false) (D : va_G) (dT : Nat → ClassId) (a_this : Nat → Nat) (g_this : TM) (g_this_now : Nat → Int64) (g_this_diary : Nat → Int64) (v1 : Int32) (v2 : Int32) (v3 : Int32) (v4 : Int32) (o : (Int32 × (TM × (Nat → Int64) × (Nat → Int64)))) (h : f_X9_link g_this g_this_now g_this_diary v1 v2 v3 v4 = some o) (sz : Nat) : Met l yX9_link (WSm yX9_link cX9_link 5 (some .int)) { frames := 3, cells := 0, slots := 0, locals := 68 } (va_Pc [.ref (a_this 0), .int v1, .int v2, .int v3, .int v4] (cPre D dT (cM a_this g_this ++ (cJ_ dT (a_this 2) 353 g_this_now ++ (cJ_ dT (a_this 4) 4942 g_this_diary))) sz)) (va_Qi (fun (r : Int32) (u : TM × (Nat → Int64) × (Nat → Int64)) => r = o.1 ∧ u = o.2) (fun u t => cAt D dT (va_A (cM a_this g_this ++ (cJ_ dT (a_this 2) 353 g_this_now ++ (cJ_ dT (a_this 4) 4942 g_this_diary))) sz) (cM a_this (u.1) ++ (cJ_ dT (a_this 2) 353 (u.2.1) ++ (cJ_ dT (a_this 4) 4942 (u.2.2)))) t) (va_A (cM a_this g_this ++ (cJ_ dT (a_this 2) 353 g_this_now ++ (cJ_ dT (a_this 4) 4942 g_this_diary))) sz)) 0 0 (va_A (cM a_this g_this ++ (cJ_ dT (a_this 2) 353 g_this_now ++ (cJ_ dT (a_this 4) 4942 g_this_diary))) sz) := by
  refine mStart (WS := (cM a_this g_this ++ (cJ_ dT (a_this 2) 353 g_this_now ++ (cJ_ dT (a_this 4) 4942 g_this_diary)))) (Qc := fun A => va_Qi (fun (r : Int32) (u : TM × (Nat → Int64) × (Nat → Int64)) => r = o.1 ∧ u = o.2) (fun u t => cAt D dT A (cM a_this (u.1) ++ (cJ_ dT (a_this 2) 353 (u.2.1) ++ (cJ_ dT (a_this 4) 4942 (u.2.2)))) t) A) RX9 rfl (by decide) (Nat.le_of_ble_eq_true rfl) ?_ sz
  intro p e s m below meth c A ls hx hb hml hr hlk hnm hts hqs hown hE hA hK hP hD hS hl
  have hl : lv_has ls 5 [(0, .ref (a_this 0)), (1, .int v1), (2, .int v2), (3, .int v3), (4, .int v4)] := hl
  have L_f_X9_link_J42 : ∀  (x1 : Int32) (x2 : Int32) (x3 : Int32) (x4 : Int32) (s0 : Int32) (g_this : TM) (g_this_now : Nat → Int64) (g_this_diary : Nat → Int64)   (H : Heap) (locs : List Loc) (ls : Array Slot), f_X9_link_J42   x1 x2 x3 x4 s0 g_this g_this_now g_this_diary = some o → va_P D vwCl (cM a_this g_this ++ (cJ_ dT (a_this 2) 353 g_this_now ++ (cJ_ dT (a_this 4) 4942 g_this_diary))) H → va_D A (cM a_this g_this ++ (cJ_ dT (a_this 2) 353 g_this_now ++ (cJ_ dT (a_this 4) 4942 g_this_diary))) → va_S A s.heap H locs → lv_has ls 5 [(0, .ref (a_this 0)), (1, .int x1), (2, .int x2), (3, .int x3), (4, .int x4)] → W p l e (headSpec (WSm yX9_link cX9_link 5 (some .int)) { frames := 3, cells := 0, slots := 0, locals := 68 }).room s m [.ref (a_this 0), .int v1, .int v2, .int v3, .int v4].toArray below meth c H locs 0 0 (MQ below (va_Qi (fun (r : Int32) (u : TM × (Nat → Int64) × (Nat → Int64)) => r = o.1 ∧ u = o.2) (fun u t => cAt D dT A (cM a_this (u.1) ++ (cJ_ dT (a_this 2) 353 (u.2.1) ++ (cJ_ dT (a_this 4) 4942 (u.2.2)))) t) A) [.ref (a_this 0), .int v1, .int v2, .int v3, .int v4].toArray s 0 0 A) (F0 m 42 ls [.int s0, .ref (a_this 0)]) := by
    intro  x1 x2 x3 x4 s0 g_this g_this_now g_this_diary   H locs ls h hP hD hS hl
    unfold f_X9_link_J42 at h
    obtain ⟨o4, e4, h⟩ := obind h
    have hPc := hP.sub (ws' := (cM a_this g_this)) [0] rfl
    have hDc := hD.sub (ws' := (cM a_this g_this)) [0] (by decide) rfl
    have hFc := va_free (wc := (cM a_this g_this)) hD hS hA [0] rfl
    refine cl_i (wr := (cJ_ dT (a_this 2) 353 g_this_now ++ (cJ_ dT (a_this 4) 4942 g_this_diary))) (va_runV (As := [.int s0]) (rest := []) ⟨hx, hb, hml, hown, hts⟩ (c_X9_refused l hlt D dT a_this g_this s0 o4 e4 _) (cwV 1 hts (TB_V w_1132 w_1134 w_32 w_59 w_1135) rfl rfl rfl ⟨rfl, nd_X9_refused⟩ ⟨Nat.le_of_ble_eq_true rfl, Nat.le_of_ble_eq_true rfl⟩) (cPre.V hPc hDc hK hE hS hFc (va_recv hK hP (ci := 8) (q0 := 0) rfl rfl)) rfl rfl hl.1 rfl (lv_room (Nat.le_of_ble_eq_true rfl)) dX9_link_42 ⟨Nat.zero_le _, Nat.zero_le _⟩) hP hD hS hFc [0] [1, 2] rfl rfl (by decide) (by decide) (fun r4 u4 H locs hw hP hD hS => ?_)
    obtain ⟨rfl, rfl⟩ := hw
    have hP : va_P D vwCl (cJ_ dT (a_this 2) 353 g_this_now ++ (cJ_ dT (a_this 4) 4942 g_this_diary ++ (cM a_this o4.2))) H := hP
    have hD : va_D A (cJ_ dT (a_this 2) 353 g_this_now ++ (cJ_ dT (a_this 4) 4942 g_this_diary ++ (cM a_this o4.2))) := hD
    refine lv_if_eq (tgt := 50) hx hb dX9_link_45 (by decide) (fun c5 => ?_) (fun c5 => ?_)
    · replace h := iteT c5 h
      refine lv_aload_n hx hb dX9_link_50 rfl (lv_at hl 0 rfl) ?_
      obtain ⟨o6, e6, h⟩ := obind h
      have hPc := hP.sub (ws' := (cM a_this o4.2 ++ (cJ_ dT (a_this 2) 353 g_this_now ++ (cJ_ dT (a_this 4) 4942 g_this_diary)))) [2, 0, 1] rfl
      have hDc := hD.sub (ws' := (cM a_this o4.2 ++ (cJ_ dT (a_this 2) 353 g_this_now ++ (cJ_ dT (a_this 4) 4942 g_this_diary)))) [2, 0, 1] (by decide) rfl
      have hFc := va_free (wc := (cM a_this o4.2 ++ (cJ_ dT (a_this 2) 353 g_this_now ++ (cJ_ dT (a_this 4) 4942 g_this_diary)))) hD hS hA [2, 0, 1] rfl
      refine cl_v (wr := ([] : va_W)) (va_runV (As := []) (rest := []) ⟨hx, hb, hml, hown, hts⟩ (c_X9_remember l hlt D dT a_this o4.2 g_this_now g_this_diary o6 e6 _) (cwV 0 hts (TB_V w_1233 w_1235 w_39 w_59 w_1236) rfl rfl rfl ⟨rfl, nd_X9_remember⟩ ⟨Nat.le_of_ble_eq_true rfl, Nat.le_of_ble_eq_true rfl⟩) (cPre.V hPc hDc hK hE hS hFc (va_recv hK hP (ci := 8) (q0 := 2) rfl rfl)) rfl rfl hl.1 rfl (lv_room (Nat.le_of_ble_eq_true rfl)) dX9_link_51 ⟨Nat.zero_le _, Nat.zero_le _⟩) hP hD hS hFc [2, 0, 1] [] rfl rfl (by decide) (by decide) (fun u6 H locs hw hP hD hS => ?_)
      subst hw
      have hP : va_P D vwCl (cM a_this o6.2.1 ++ (cJ_ dT (a_this 2) 353 g_this_now ++ (cJ_ dT (a_this 4) 4942 o6.2.2))) H := hP
      have hD : va_D A (cM a_this o6.2.1 ++ (cJ_ dT (a_this 2) 353 g_this_now ++ (cJ_ dT (a_this 4) 4942 o6.2.2))) := hD
      refine lv_aload_n hx hb dX9_link_54 rfl (lv_at hl 0 rfl) ?_
      refine gf_X9_13 (v := .ref (a_this 2)) hx hb hqs hown hK hP 0 rfl rfl dX9_link_55 ?_
      refine lv_iload_n hx hb dX9_link_58 rfl (lv_at hl 1 rfl) ?_
      refine lv_iload_n hx hb dX9_link_59 rfl (lv_at hl 2 rfl) ?_
      refine lv_iload_n hx hb dX9_link_60 rfl (lv_at hl 3 rfl) ?_
      refine lv_iload hx hb dX9_link_61 (lv_at hl 4 rfl) ?_
      obtain ⟨o7, e7, h⟩ := obind h
      have hPc := hP.sub (ws' := (cJ_ dT (a_this 2) 353 g_this_now)) [1] rfl
      have hDc := hD.sub (ws' := (cJ_ dT (a_this 2) 353 g_this_now)) [1] (by decide) rfl
      have hFc := va_free (wc := (cJ_ dT (a_this 2) 353 g_this_now)) hD hS hA [1] rfl
      refine cl_i (wr := (cM a_this o6.2.1 ++ (cJ_ dT (a_this 4) 4942 o6.2.2))) (va_runS (As := [.ref (a_this 2), .int x1, .int x2, .int x3, .int x4]) (rest := []) ⟨hx, hb, hml, hown, hts⟩ (c_X9_linkOn l hlt D dT (a_this 2) 353 g_this_now x1 x2 x3 x4 o7 e7 _) (va_cwS 5 hts (TB_S w_1178 w_1179 w_59 w_1180) rfl rfl rfl nd_X9_linkOn ⟨Nat.le_of_ble_eq_true rfl, Nat.le_of_ble_eq_true rfl⟩) (cPre.S hPc hDc hK hE hS hFc) rfl rfl hl.1 rfl (lv_room (Nat.le_of_ble_eq_true rfl)) dX9_link_63 ⟨Nat.zero_le _, Nat.zero_le _⟩) hP hD hS hFc [1] [0, 2] rfl rfl (by decide) (by decide) (fun r7 u7 H locs hw hP hD hS => ?_)
      obtain ⟨rfl, rfl⟩ := hw
      have hP : va_P D vwCl (cM a_this o6.2.1 ++ (cJ_ dT (a_this 4) 4942 o6.2.2 ++ (cJ_ dT (a_this 2) 353 o7.2))) H := hP
      have hD : va_D A (cM a_this o6.2.1 ++ (cJ_ dT (a_this 4) 4942 o6.2.2 ++ (cJ_ dT (a_this 2) 353 o7.2))) := hD
      have hP := hP.sub (ws' := (cM a_this o6.2.1 ++ (cJ_ dT (a_this 2) 353 o7.2 ++ (cJ_ dT (a_this 4) 4942 o6.2.2)))) [0, 2, 1] rfl
      have hD := hD.sub (ws' := (cM a_this o6.2.1 ++ (cJ_ dT (a_this 2) 353 o7.2 ++ (cJ_ dT (a_this 4) 4942 o6.2.2)))) [0, 2, 1] (by decide) rfl
      exact rt_i hx hb hr hlk hK hS ((o6.2.1, o7.2, o6.2.2) : TM × (Nat → Int64) × (Nat → Int64)) (ret2 h) hP hD dX9_link_66
    · replace h := iteF c5 h
      refine lv_iconst (v := 0) hx hb dX9_link_48 (by decide) ?_
      have hP := hP.sub (ws' := (cM a_this o4.2 ++ (cJ_ dT (a_this 2) 353 g_this_now ++ (cJ_ dT (a_this 4) 4942 g_this_diary)))) [2, 0, 1] rfl
      have hD := hD.sub (ws' := (cM a_this o4.2 ++ (cJ_ dT (a_this 2) 353 g_this_now ++ (cJ_ dT (a_this 4) 4942 g_this_diary)))) [2, 0, 1] (by decide) rfl
      exact rt_i hx hb hr hlk hK hS ((o4.2, g_this_now, g_this_diary) : TM × (Nat → Int64) × (Nat → Int64)) (ret2 h) hP hD dX9_link_49
  have L_f_X9_link_J41 : ∀  (x1 : Int32) (x2 : Int32) (x3 : Int32) (x4 : Int32) (g_this : TM) (g_this_now : Nat → Int64) (g_this_diary : Nat → Int64)   (H : Heap) (locs : List Loc) (ls : Array Slot), f_X9_link_J41   x1 x2 x3 x4 g_this g_this_now g_this_diary = some o → va_P D vwCl (cM a_this g_this ++ (cJ_ dT (a_this 2) 353 g_this_now ++ (cJ_ dT (a_this 4) 4942 g_this_diary))) H → va_D A (cM a_this g_this ++ (cJ_ dT (a_this 2) 353 g_this_now ++ (cJ_ dT (a_this 4) 4942 g_this_diary))) → va_S A s.heap H locs → lv_has ls 5 [(0, .ref (a_this 0)), (1, .int x1), (2, .int x2), (3, .int x3), (4, .int x4)] → W p l e (headSpec (WSm yX9_link cX9_link 5 (some .int)) { frames := 3, cells := 0, slots := 0, locals := 68 }).room s m [.ref (a_this 0), .int v1, .int v2, .int v3, .int v4].toArray below meth c H locs 0 0 (MQ below (va_Qi (fun (r : Int32) (u : TM × (Nat → Int64) × (Nat → Int64)) => r = o.1 ∧ u = o.2) (fun u t => cAt D dT A (cM a_this (u.1) ++ (cJ_ dT (a_this 2) 353 (u.2.1) ++ (cJ_ dT (a_this 4) 4942 (u.2.2)))) t) A) [.ref (a_this 0), .int v1, .int v2, .int v3, .int v4].toArray s 0 0 A) (F0 m 41 ls [.ref (a_this 0)]) := by
    intro  x1 x2 x3 x4 g_this g_this_now g_this_diary   H locs ls h hP hD hS hl
    unfold f_X9_link_J41 at h
    refine lv_iconst (v := 2) hx hb dX9_link_41 (by decide) ?_
    refine L_f_X9_link_J42  x1 x2 x3 x4 (2 : Int32) g_this g_this_now g_this_diary   _ _ _ h hP hD hS (lv_sub hl [0, 1, 2, 3, 4] rfl)
  unfold f_X9_link at h
  refine lv_aload_n hx hb dX9_link_0 rfl (lv_at hl 0 rfl) ?_
  refine lv_aload_n hx hb dX9_link_1 rfl (lv_at hl 0 rfl) ?_
  refine gf_X9_13 (v := .ref (a_this 2)) hx hb hqs hown hK hP 0 rfl rfl dX9_link_2 ?_
  refine lv_iload_n hx hb dX9_link_5 rfl (lv_at hl 1 rfl) ?_
  refine lv_iload_n hx hb dX9_link_6 rfl (lv_at hl 2 rfl) ?_
  obtain ⟨o1, e1, h⟩ := obind h
  have hPc := hP.sub (ws' := (cJ_ dT (a_this 2) 353 g_this_now)) [1] rfl
  have hDc := hD.sub (ws' := (cJ_ dT (a_this 2) 353 g_this_now)) [1] (by decide) rfl
  have hFc := va_free (wc := (cJ_ dT (a_this 2) 353 g_this_now)) hD hS hA [1] rfl
  refine cl_i (wr := (cM a_this g_this ++ (cJ_ dT (a_this 4) 4942 g_this_diary))) (va_runS (As := [.ref (a_this 2), .int v1, .int v2]) (rest := [.ref (a_this 0)]) ⟨hx, hb, hml, hown, hts⟩ (c_X9_arePair l hlt D dT (a_this 2) 353 g_this_now v1 v2 o1 e1 _) (va_cwS 3 hts (TB_S w_1212 w_1213 w_59 w_1214) rfl rfl rfl nd_X9_arePair ⟨Nat.le_of_ble_eq_true rfl, Nat.le_of_ble_eq_true rfl⟩) (cPre.S hPc hDc hK hE hS hFc) rfl rfl hl.1 rfl (lv_room (Nat.le_of_ble_eq_true rfl)) dX9_link_7 ⟨Nat.zero_le _, Nat.zero_le _⟩) hP hD hS hFc [1] [0, 2] rfl rfl (by decide) (by decide) (fun r1 u1 H locs hw hP hD hS => ?_)
  obtain ⟨rfl, rfl⟩ := hw
  have hP : va_P D vwCl (cM a_this g_this ++ (cJ_ dT (a_this 4) 4942 g_this_diary ++ (cJ_ dT (a_this 2) 353 g_this_now))) H := hP
  have hD : va_D A (cM a_this g_this ++ (cJ_ dT (a_this 4) 4942 g_this_diary ++ (cJ_ dT (a_this 2) 353 g_this_now))) := hD
  refine lv_if_ne (tgt := 17) hx hb dX9_link_10 (by decide) (fun c2 => ?_) (fun c2 => ?_)
  · replace h := iteF c2 h
    refine lv_iload_n hx hb dX9_link_17 rfl (lv_at hl 1 rfl) ?_
    refine lv_iload_n hx hb dX9_link_18 rfl (lv_at hl 2 rfl) ?_
    refine lv_icmp_eq (tgt := 41) hx hb dX9_link_19 (by decide) (fun c3 => ?_) (fun c3 => ?_)
    · replace h := iteT c3 h
      have hP := hP.sub (ws' := (cM a_this g_this ++ (cJ_ dT (a_this 2) 353 g_this_now ++ (cJ_ dT (a_this 4) 4942 g_this_diary)))) [0, 2, 1] rfl
      have hD := hD.sub (ws' := (cM a_this g_this ++ (cJ_ dT (a_this 2) 353 g_this_now ++ (cJ_ dT (a_this 4) 4942 g_this_diary)))) [0, 2, 1] (by decide) rfl
      refine L_f_X9_link_J41  v1 v2 v3 v4 g_this g_this_now g_this_diary   _ _ _ h hP hD hS (lv_sub hl [0, 1, 2, 3, 4] rfl)
    · replace h := iteF c3 h
      refine lv_iload_n hx hb dX9_link_22 rfl (lv_at hl 3 rfl) ?_
      obtain ⟨o8, e8, h⟩ := obind h
      have hPc := hP.sub (ws' := ([] : va_W)) [] rfl
      have hDc := hD.sub (ws' := ([] : va_W)) [] (by decide) rfl
      have hFc := va_free (wc := ([] : va_W)) hD hS hA [] rfl
      refine cl_i (wr := (cM a_this g_this ++ (cJ_ dT (a_this 4) 4942 g_this_diary ++ (cJ_ dT (a_this 2) 353 g_this_now)))) (va_runS (As := [.int v3]) (rest := [.ref (a_this 0)]) ⟨hx, hb, hml, hown, hts⟩ (c_X9_isShare l hlt D dT v3 o8 e8 _) (va_cwS 1 hts (TB_S w_1245 w_1246 w_59 w_1247) rfl rfl rfl nd_X9_isShare ⟨Nat.le_of_ble_eq_true rfl, Nat.le_of_ble_eq_true rfl⟩) (cPre.S hPc hDc hK hE hS hFc) rfl rfl hl.1 rfl (lv_room (Nat.le_of_ble_eq_true rfl)) dX9_link_23 ⟨Nat.zero_le _, Nat.zero_le _⟩) hP hD hS hFc [] [0, 1, 2] rfl rfl (by decide) (by decide) (fun r8 u8 H locs hw hP hD hS => ?_)
      obtain ⟨rfl, rfl⟩ := hw
      have hP : va_P D vwCl (cM a_this g_this ++ (cJ_ dT (a_this 4) 4942 g_this_diary ++ (cJ_ dT (a_this 2) 353 g_this_now))) H := hP
      have hD : va_D A (cM a_this g_this ++ (cJ_ dT (a_this 4) 4942 g_this_diary ++ (cJ_ dT (a_this 2) 353 g_this_now))) := hD
      refine lv_if_eq (tgt := 41) hx hb dX9_link_26 (by decide) (fun c9 => ?_) (fun c9 => ?_)
      · replace h := iteT c9 h
        have hP := hP.sub (ws' := (cM a_this g_this ++ (cJ_ dT (a_this 2) 353 g_this_now ++ (cJ_ dT (a_this 4) 4942 g_this_diary)))) [0, 2, 1] rfl
        have hD := hD.sub (ws' := (cM a_this g_this ++ (cJ_ dT (a_this 2) 353 g_this_now ++ (cJ_ dT (a_this 4) 4942 g_this_diary)))) [0, 2, 1] (by decide) rfl
        refine L_f_X9_link_J41  v1 v2 v3 v4 g_this g_this_now g_this_diary   _ _ _ h hP hD hS (lv_sub hl [0, 1, 2, 3, 4] rfl)
      · replace h := iteF c9 h
        refine lv_iload hx hb dX9_link_29 (lv_at hl 4 rfl) ?_
        obtain ⟨o10, e10, h⟩ := obind h
        have hPc := hP.sub (ws' := ([] : va_W)) [] rfl
        have hDc := hD.sub (ws' := ([] : va_W)) [] (by decide) rfl
        have hFc := va_free (wc := ([] : va_W)) hD hS hA [] rfl
        refine cl_i (wr := (cM a_this g_this ++ (cJ_ dT (a_this 4) 4942 g_this_diary ++ (cJ_ dT (a_this 2) 353 g_this_now)))) (va_runS (As := [.int v4]) (rest := [.ref (a_this 0)]) ⟨hx, hb, hml, hown, hts⟩ (c_X9_isShare l hlt D dT v4 o10 e10 _) (va_cwS 1 hts (TB_S w_1245 w_1246 w_59 w_1247) rfl rfl rfl nd_X9_isShare ⟨Nat.le_of_ble_eq_true rfl, Nat.le_of_ble_eq_true rfl⟩) (cPre.S hPc hDc hK hE hS hFc) rfl rfl hl.1 rfl (lv_room (Nat.le_of_ble_eq_true rfl)) dX9_link_31 ⟨Nat.zero_le _, Nat.zero_le _⟩) hP hD hS hFc [] [0, 1, 2] rfl rfl (by decide) (by decide) (fun r10 u10 H locs hw hP hD hS => ?_)
        obtain ⟨rfl, rfl⟩ := hw
        have hP : va_P D vwCl (cM a_this g_this ++ (cJ_ dT (a_this 4) 4942 g_this_diary ++ (cJ_ dT (a_this 2) 353 g_this_now))) H := hP
        have hD : va_D A (cM a_this g_this ++ (cJ_ dT (a_this 4) 4942 g_this_diary ++ (cJ_ dT (a_this 2) 353 g_this_now))) := hD
        refine lv_if_eq (tgt := 41) hx hb dX9_link_34 (by decide) (fun c11 => ?_) (fun c11 => ?_)
        · replace h := iteT c11 h
          have hP := hP.sub (ws' := (cM a_this g_this ++ (cJ_ dT (a_this 2) 353 g_this_now ++ (cJ_ dT (a_this 4) 4942 g_this_diary)))) [0, 2, 1] rfl
          have hD := hD.sub (ws' := (cM a_this g_this ++ (cJ_ dT (a_this 2) 353 g_this_now ++ (cJ_ dT (a_this 4) 4942 g_this_diary)))) [0, 2, 1] (by decide) rfl
          refine L_f_X9_link_J41  v1 v2 v3 v4 g_this g_this_now g_this_diary   _ _ _ h hP hD hS (lv_sub hl [0, 1, 2, 3, 4] rfl)
        · replace h := iteF c11 h
          refine lv_iconst (v := 0) hx hb dX9_link_37 (by decide) ?_
          refine lv_goto (tgt := 42) hx hb dX9_link_38 (by decide) ?_
          have hP := hP.sub (ws' := (cM a_this g_this ++ (cJ_ dT (a_this 2) 353 g_this_now ++ (cJ_ dT (a_this 4) 4942 g_this_diary)))) [0, 2, 1] rfl
          have hD := hD.sub (ws' := (cM a_this g_this ++ (cJ_ dT (a_this 2) 353 g_this_now ++ (cJ_ dT (a_this 4) 4942 g_this_diary)))) [0, 2, 1] (by decide) rfl
          refine L_f_X9_link_J42  v1 v2 v3 v4 (0 : Int32) g_this g_this_now g_this_diary   _ _ _ h hP hD hS (lv_sub hl [0, 1, 2, 3, 4] rfl)
  · replace h := iteT c2 h
    refine lv_iconst (v := 1) hx hb dX9_link_13 (by decide) ?_
    refine lv_goto (tgt := 42) hx hb dX9_link_14 (by decide) ?_
    have hP := hP.sub (ws' := (cM a_this g_this ++ (cJ_ dT (a_this 2) 353 g_this_now ++ (cJ_ dT (a_this 4) 4942 g_this_diary)))) [0, 2, 1] rfl
    have hD := hD.sub (ws' := (cM a_this g_this ++ (cJ_ dT (a_this 2) 353 g_this_now ++ (cJ_ dT (a_this 4) 4942 g_this_diary)))) [0, 2, 1] (by decide) rfl
    refine L_f_X9_link_J42  v1 v2 v3 v4 (1 : Int32) g_this g_this_now g_this_diary   _ _ _ h hP hD hS (lv_sub hl [0, 1, 2, 3, 4] rfl)

def f_X9_whyNotDrift (n_p1 : Nat) (g_p1 : Nat → Int64) (v1 : Int32) (v2 : Int32) (v3 : Int32) : Option (Int32 × (Unit)) :=
  ((f_X9_arePair n_p1 g_p1 v1 v2).bind fun o1 => (if o1.1 = (0 : Int32) then (some ((1 : Int32), ())) else (if v1 = v2 then (some ((2 : Int32), ())) else ((f_X9_isShare v3).bind fun o4 => (if o4.1 = (0 : Int32) then (some ((2 : Int32), ())) else ((f_X9_pairOf v1 v2).bind fun o6 => (if inb ((8 : Int32) + o6.1) n_p1 = true then (if (lg_cmp (g_p1 ((8 : Int32) + o6.1).toNatClampNeg) (0 : Int64)) = (0 : Int32) then (some ((3 : Int32), ())) else (some ((0 : Int32), ()))) else none)))))))
set_option maxHeartbeats 8000000 in
set_option maxRecDepth 100000 in
theorem c_X9_whyNotDrift (l : Launch) (hlt : l.stackTraces = false) (D : va_G) (dT : Nat → ClassId) (a_p1 : Nat) (n_p1 : Nat) (g_p1 : Nat → Int64) (v1 : Int32) (v2 : Int32) (v3 : Int32) (o : (Int32 × (Unit))) (h : f_X9_whyNotDrift n_p1 g_p1 v1 v2 v3 = some o) (sz : Nat) : Met l yX9_whyNotDrift (WSm yX9_whyNotDrift cX9_whyNotDrift 4 (some .int)) { frames := 3, cells := 0, slots := 0, locals := 68 } (va_Pc [.ref a_p1, .int v1, .int v2, .int v3] (cPre D dT (cJ_ dT a_p1 n_p1 g_p1) sz)) (va_Qi (fun (r : Int32) (u : Unit) => r = o.1 ∧ u = o.2) (fun u t => cAt D dT (va_A (cJ_ dT a_p1 n_p1 g_p1) sz) (cJ_ dT a_p1 n_p1 g_p1) t) (va_A (cJ_ dT a_p1 n_p1 g_p1) sz)) 0 0 (va_A (cJ_ dT a_p1 n_p1 g_p1) sz) := by
  refine mStart (WS := (cJ_ dT a_p1 n_p1 g_p1)) (Qc := fun A => va_Qi (fun (r : Int32) (u : Unit) => r = o.1 ∧ u = o.2) (fun u t => cAt D dT A (cJ_ dT a_p1 n_p1 g_p1) t) A) RX9 rfl (by decide) (Nat.le_of_ble_eq_true rfl) ?_ sz
  intro p e s m below meth c A ls hx hb hml hr hlk hnm hts hqs hown hE hA hK hP hD hS hl
  have hl : lv_has ls 4 [(0, .ref a_p1), (1, .int v1), (2, .int v2), (3, .int v3)] := hl
  unfold f_X9_whyNotDrift at h
  refine lv_aload_n hx hb dX9_whyNotDrift_0 rfl (lv_at hl 0 rfl) ?_
  refine lv_iload_n hx hb dX9_whyNotDrift_1 rfl (lv_at hl 1 rfl) ?_
  refine lv_iload_n hx hb dX9_whyNotDrift_2 rfl (lv_at hl 2 rfl) ?_
  obtain ⟨o1, e1, h⟩ := obind h
  have hPc := hP
  have hDc := hD
  have hFc := vfall hD hS hA
  refine cl_iA (va_runS (As := [.ref a_p1, .int v1, .int v2]) (rest := []) ⟨hx, hb, hml, hown, hts⟩ (c_X9_arePair l hlt D dT a_p1 n_p1 g_p1 v1 v2 o1 e1 _) (va_cwS 3 hts (TB_S w_1212 w_1213 w_59 w_1214) rfl rfl rfl nd_X9_arePair ⟨Nat.le_of_ble_eq_true rfl, Nat.le_of_ble_eq_true rfl⟩) (cPre.S hPc hDc hK hE hS hFc) rfl rfl hl.1 rfl (lv_room (Nat.le_of_ble_eq_true rfl)) dX9_whyNotDrift_3 ⟨Nat.zero_le _, Nat.zero_le _⟩) hS hFc (fun r1 u1 H locs hw hP hD hS => ?_)
  obtain ⟨rfl, rfl⟩ := hw
  have hP : va_P D vwCl (cJ_ dT a_p1 n_p1 g_p1) H := hP
  have hD : va_D A (cJ_ dT a_p1 n_p1 g_p1) := hD
  refine lv_if_ne (tgt := 13) hx hb dX9_whyNotDrift_6 (by decide) (fun c2 => ?_) (fun c2 => ?_)
  · replace h := iteF c2 h
    refine lv_iload_n hx hb dX9_whyNotDrift_13 rfl (lv_at hl 1 rfl) ?_
    refine lv_iload_n hx hb dX9_whyNotDrift_14 rfl (lv_at hl 2 rfl) ?_
    refine lv_icmp_eq (tgt := 25) hx hb dX9_whyNotDrift_15 (by decide) (fun c3 => ?_) (fun c3 => ?_)
    · replace h := iteT c3 h
      refine lv_iconst (v := 2) hx hb dX9_whyNotDrift_25 (by decide) ?_
      refine lv_goto (tgt := 49) hx hb dX9_whyNotDrift_26 (by decide) ?_
      exact rt_i hx hb hr hlk hK hS (() : Unit) (ret2 h) hP hD dX9_whyNotDrift_49
    · replace h := iteF c3 h
      refine lv_iload_n hx hb dX9_whyNotDrift_18 rfl (lv_at hl 3 rfl) ?_
      obtain ⟨o4, e4, h⟩ := obind h
      have hPc := hP.sub (ws' := ([] : va_W)) [] rfl
      have hDc := hD.sub (ws' := ([] : va_W)) [] (by decide) rfl
      have hFc := va_free (wc := ([] : va_W)) hD hS hA [] rfl
      refine cl_i (wr := (cJ_ dT a_p1 n_p1 g_p1)) (va_runS (As := [.int v3]) (rest := []) ⟨hx, hb, hml, hown, hts⟩ (c_X9_isShare l hlt D dT v3 o4 e4 _) (va_cwS 1 hts (TB_S w_1245 w_1246 w_59 w_1247) rfl rfl rfl nd_X9_isShare ⟨Nat.le_of_ble_eq_true rfl, Nat.le_of_ble_eq_true rfl⟩) (cPre.S hPc hDc hK hE hS hFc) rfl rfl hl.1 rfl (lv_room (Nat.le_of_ble_eq_true rfl)) dX9_whyNotDrift_19 ⟨Nat.zero_le _, Nat.zero_le _⟩) hP hD hS hFc [] [0] rfl rfl (by decide) (by decide) (fun r4 u4 H locs hw hP hD hS => ?_)
      obtain ⟨rfl, rfl⟩ := hw
      have hP : va_P D vwCl (cJ_ dT a_p1 n_p1 g_p1) H := hP
      have hD : va_D A (cJ_ dT a_p1 n_p1 g_p1) := hD
      refine lv_if_ne (tgt := 29) hx hb dX9_whyNotDrift_22 (by decide) (fun c5 => ?_) (fun c5 => ?_)
      · replace h := iteF c5 h
        refine lv_aload_n hx hb dX9_whyNotDrift_29 rfl (lv_at hl 0 rfl) ?_
        refine lv_bipush (v := 8) hx hb dX9_whyNotDrift_30 (by decide) ?_
        refine lv_iload_n hx hb dX9_whyNotDrift_32 rfl (lv_at hl 1 rfl) ?_
        refine lv_iload_n hx hb dX9_whyNotDrift_33 rfl (lv_at hl 2 rfl) ?_
        obtain ⟨o6, e6, h⟩ := obind h
        have hPc := hP.sub (ws' := ([] : va_W)) [] rfl
        have hDc := hD.sub (ws' := ([] : va_W)) [] (by decide) rfl
        have hFc := va_free (wc := ([] : va_W)) hD hS hA [] rfl
        refine cl_i (wr := (cJ_ dT a_p1 n_p1 g_p1)) (va_runS (As := [.int v1, .int v2]) (rest := [.int (8 : Int32), .ref a_p1]) ⟨hx, hb, hml, hown, hts⟩ (c_X9_pairOf l hlt D dT v1 v2 o6 e6 _) (va_cwS 2 hts (TB_S w_1181 w_1182 w_59 w_1183) rfl rfl rfl nd_X9_pairOf ⟨Nat.le_of_ble_eq_true rfl, Nat.le_of_ble_eq_true rfl⟩) (cPre.S hPc hDc hK hE hS hFc) rfl rfl hl.1 rfl (lv_room (Nat.le_of_ble_eq_true rfl)) dX9_whyNotDrift_34 ⟨Nat.zero_le _, Nat.zero_le _⟩) hP hD hS hFc [] [0] rfl rfl (by decide) (by decide) (fun r6 u6 H locs hw hP hD hS => ?_)
        obtain ⟨rfl, rfl⟩ := hw
        have hP : va_P D vwCl (cJ_ dT a_p1 n_p1 g_p1) H := hP
        have hD : va_D A (cJ_ dT a_p1 n_p1 g_p1) := hD
        refine lv_iadd hx hb dX9_whyNotDrift_37 ?_
        obtain ⟨g7, h⟩ := chk h
        refine va_lald hx hb hK hP 0 1 rfl rfl (inb_in g7) dX9_whyNotDrift_38 ?_
        refine lv_lconst (v := 0) hx hb dX9_whyNotDrift_39 (by decide) ?_
        refine W.lcmp hx hb dX9_whyNotDrift_40 ?_
        refine lv_if_ne (tgt := 48) hx hb dX9_whyNotDrift_41 (by decide) (fun c8 => ?_) (fun c8 => ?_)
        · replace h := iteF c8 h
          refine lv_iconst (v := 0) hx hb dX9_whyNotDrift_48 (by decide) ?_
          exact rt_i hx hb hr hlk hK hS (() : Unit) (ret2 h) hP hD dX9_whyNotDrift_49
        · replace h := iteT c8 h
          refine lv_iconst (v := 3) hx hb dX9_whyNotDrift_44 (by decide) ?_
          refine lv_goto (tgt := 49) hx hb dX9_whyNotDrift_45 (by decide) ?_
          exact rt_i hx hb hr hlk hK hS (() : Unit) (ret2 h) hP hD dX9_whyNotDrift_49
      · replace h := iteT c5 h
        refine lv_iconst (v := 2) hx hb dX9_whyNotDrift_25 (by decide) ?_
        refine lv_goto (tgt := 49) hx hb dX9_whyNotDrift_26 (by decide) ?_
        exact rt_i hx hb hr hlk hK hS (() : Unit) (ret2 h) hP hD dX9_whyNotDrift_49
  · replace h := iteT c2 h
    refine lv_iconst (v := 1) hx hb dX9_whyNotDrift_9 (by decide) ?_
    refine lv_goto (tgt := 49) hx hb dX9_whyNotDrift_10 (by decide) ?_
    exact rt_i hx hb hr hlk hK hS (() : Unit) (ret2 h) hP hD dX9_whyNotDrift_49

def f_X9_driftOn (n_p1 : Nat) (g_p1 : Nat → Int64) (v1 : Int32) (v2 : Int32) (v3 : Int32) : Option (Int32 × ((Nat → Int64))) :=
  ((f_X9_pairOf v1 v2).bind fun o1 => (if inb ((106 : Int32) + o1.1) n_p1 = true then ((f_X9_pairOf v1 v2).bind fun o3 => (if inb ((106 : Int32) + o3.1) n_p1 = true then (some ((Int64.toInt32 (g_p1 ((106 : Int32) + o1.1).toNatClampNeg)), (vp_updL g_p1 ((106 : Int32) + o3.1).toNatClampNeg (Int32.toInt64 v3)))) else none)) else none))
set_option maxHeartbeats 8000000 in
set_option maxRecDepth 100000 in
theorem c_X9_driftOn (l : Launch) (hlt : l.stackTraces = false) (D : va_G) (dT : Nat → ClassId) (a_p1 : Nat) (n_p1 : Nat) (g_p1 : Nat → Int64) (v1 : Int32) (v2 : Int32) (v3 : Int32) (o : (Int32 × ((Nat → Int64)))) (h : f_X9_driftOn n_p1 g_p1 v1 v2 v3 = some o) (sz : Nat) : Met l yX9_driftOn (WSm yX9_driftOn cX9_driftOn 5 (some .int)) { frames := 1, cells := 0, slots := 0, locals := 21 } (va_Pc [.ref a_p1, .int v1, .int v2, .int v3] (cPre D dT (cJ_ dT a_p1 n_p1 g_p1) sz)) (va_Qi (fun (r : Int32) (u : (Nat → Int64)) => r = o.1 ∧ u = o.2) (fun u t => cAt D dT (va_A (cJ_ dT a_p1 n_p1 g_p1) sz) (cJ_ dT a_p1 n_p1 u) t) (va_A (cJ_ dT a_p1 n_p1 g_p1) sz)) 0 0 (va_A (cJ_ dT a_p1 n_p1 g_p1) sz) := by
  refine mStart (WS := (cJ_ dT a_p1 n_p1 g_p1)) (Qc := fun A => va_Qi (fun (r : Int32) (u : (Nat → Int64)) => r = o.1 ∧ u = o.2) (fun u t => cAt D dT A (cJ_ dT a_p1 n_p1 u) t) A) RX9 rfl (by decide) (Nat.le_of_ble_eq_true rfl) ?_ sz
  intro p e s m below meth c A ls hx hb hml hr hlk hnm hts hqs hown hE hA hK hP hD hS hl
  have hl : lv_has ls 5 [(0, .ref a_p1), (1, .int v1), (2, .int v2), (3, .int v3)] := hl
  unfold f_X9_driftOn at h
  refine lv_aload_n hx hb dX9_driftOn_0 rfl (lv_at hl 0 rfl) ?_
  refine lv_bipush (v := 106) hx hb dX9_driftOn_1 (by decide) ?_
  refine lv_iload_n hx hb dX9_driftOn_3 rfl (lv_at hl 1 rfl) ?_
  refine lv_iload_n hx hb dX9_driftOn_4 rfl (lv_at hl 2 rfl) ?_
  obtain ⟨o1, e1, h⟩ := obind h
  have hPc := hP.sub (ws' := ([] : va_W)) [] rfl
  have hDc := hD.sub (ws' := ([] : va_W)) [] (by decide) rfl
  have hFc := va_free (wc := ([] : va_W)) hD hS hA [] rfl
  refine cl_i (wr := (cJ_ dT a_p1 n_p1 g_p1)) (va_runS (As := [.int v1, .int v2]) (rest := [.int (106 : Int32), .ref a_p1]) ⟨hx, hb, hml, hown, hts⟩ (c_X9_pairOf l hlt D dT v1 v2 o1 e1 _) (va_cwS 2 hts (TB_S w_1181 w_1182 w_59 w_1183) rfl rfl rfl nd_X9_pairOf ⟨Nat.le_of_ble_eq_true rfl, Nat.le_of_ble_eq_true rfl⟩) (cPre.S hPc hDc hK hE hS hFc) rfl rfl hl.1 rfl (lv_room (Nat.le_of_ble_eq_true rfl)) dX9_driftOn_5 ⟨Nat.zero_le _, Nat.zero_le _⟩) hP hD hS hFc [] [0] rfl rfl (by decide) (by decide) (fun r1 u1 H locs hw hP hD hS => ?_)
  obtain ⟨rfl, rfl⟩ := hw
  have hP : va_P D vwCl (cJ_ dT a_p1 n_p1 g_p1) H := hP
  have hD : va_D A (cJ_ dT a_p1 n_p1 g_p1) := hD
  refine lv_iadd hx hb dX9_driftOn_8 ?_
  obtain ⟨g2, h⟩ := chk h
  refine va_lald hx hb hK hP 0 1 rfl rfl (inb_in g2) dX9_driftOn_9 ?_
  refine lv_l2i hx hb dX9_driftOn_10 rfl ?_
  refine lv_istore (lv' := [(4, .int (Int64.toInt32 (g_p1 ((106 : Int32) + o1.1).toNatClampNeg))), (0, .ref a_p1), (1, .int v1), (2, .int v2), (3, .int v3)]) hx hb dX9_driftOn_11 hl (by decide) rfl (fun ls hl => ?_)
  refine lv_aload_n hx hb dX9_driftOn_13 rfl (lv_at hl 1 rfl) ?_
  refine lv_bipush (v := 106) hx hb dX9_driftOn_14 (by decide) ?_
  refine lv_iload_n hx hb dX9_driftOn_16 rfl (lv_at hl 2 rfl) ?_
  refine lv_iload_n hx hb dX9_driftOn_17 rfl (lv_at hl 3 rfl) ?_
  obtain ⟨o3, e3, h⟩ := obind h
  have hPc := hP.sub (ws' := ([] : va_W)) [] rfl
  have hDc := hD.sub (ws' := ([] : va_W)) [] (by decide) rfl
  have hFc := va_free (wc := ([] : va_W)) hD hS hA [] rfl
  refine cl_i (wr := (cJ_ dT a_p1 n_p1 g_p1)) (va_runS (As := [.int v1, .int v2]) (rest := [.int (106 : Int32), .ref a_p1]) ⟨hx, hb, hml, hown, hts⟩ (c_X9_pairOf l hlt D dT v1 v2 o3 e3 _) (va_cwS 2 hts (TB_S w_1181 w_1182 w_59 w_1183) rfl rfl rfl nd_X9_pairOf ⟨Nat.le_of_ble_eq_true rfl, Nat.le_of_ble_eq_true rfl⟩) (cPre.S hPc hDc hK hE hS hFc) rfl rfl hl.1 rfl (lv_room (Nat.le_of_ble_eq_true rfl)) dX9_driftOn_18 ⟨Nat.zero_le _, Nat.zero_le _⟩) hP hD hS hFc [] [0] rfl rfl (by decide) (by decide) (fun r3 u3 H locs hw hP hD hS => ?_)
  obtain ⟨rfl, rfl⟩ := hw
  have hP : va_P D vwCl (cJ_ dT a_p1 n_p1 g_p1) H := hP
  have hD : va_D A (cJ_ dT a_p1 n_p1 g_p1) := hD
  refine lv_iadd hx hb dX9_driftOn_21 ?_
  refine lv_iload_n hx hb dX9_driftOn_22 rfl (lv_at hl 4 rfl) ?_
  refine lv_i2l hx hb dX9_driftOn_23 rfl ?_
  obtain ⟨g4, h⟩ := chk h
  refine va_last hx hb hK hP hD hS 0 1 rfl rfl (inb_in g4) dX9_driftOn_24 (fun H locs hP hD hS => ?_)
  have hP : va_P D vwCl (cJ_ dT a_p1 n_p1 (vp_updL g_p1 ((106 : Int32) + o3.1).toNatClampNeg (Int32.toInt64 v3))) H := hP
  have hD : va_D A (cJ_ dT a_p1 n_p1 (vp_updL g_p1 ((106 : Int32) + o3.1).toNatClampNeg (Int32.toInt64 v3))) := hD
  refine lv_iload hx hb dX9_driftOn_25 (lv_at hl 0 rfl) ?_
  exact rt_i hx hb hr hlk hK hS ((vp_updL g_p1 ((106 : Int32) + o3.1).toNatClampNeg (Int32.toInt64 v3)) : (Nat → Int64)) (ret2 h) hP hD dX9_driftOn_27

def f_X9_drift (g_this : TM) (g_this_now : Nat → Int64) (g_this_diary : Nat → Int64) (v1 : Int32) (v2 : Int32) (v3 : Int32) : Option (Int32 × (TM × (Nat → Int64) × (Nat → Int64))) :=
  ((f_X9_whyNotDrift 353 g_this_now v1 v2 v3).bind fun o1 => ((f_X9_refused g_this o1.1).bind fun o2 => (if o2.1 = (0 : Int32) then ((f_X9_remember o2.2 g_this_now g_this_diary).bind fun o4 => ((f_X9_driftOn 353 g_this_now v1 v2 v3).bind fun o5 => (some (o5.1, (o4.2.1, o5.2, o4.2.2))))) else (some ((0 : Int32), (o2.2, g_this_now, g_this_diary))))))
set_option maxHeartbeats 8000000 in
set_option maxRecDepth 100000 in
theorem c_X9_drift (l : Launch) (hlt : l.stackTraces = false) (D : va_G) (dT : Nat → ClassId) (a_this : Nat → Nat) (g_this : TM) (g_this_now : Nat → Int64) (g_this_diary : Nat → Int64) (v1 : Int32) (v2 : Int32) (v3 : Int32) (o : (Int32 × (TM × (Nat → Int64) × (Nat → Int64)))) (h : f_X9_drift g_this g_this_now g_this_diary v1 v2 v3 = some o) (sz : Nat) : Met l yX9_drift (WSm yX9_drift cX9_drift 4 (some .int)) { frames := 4, cells := 0, slots := 0, locals := 91 } (va_Pc [.ref (a_this 0), .int v1, .int v2, .int v3] (cPre D dT (cM a_this g_this ++ (cJ_ dT (a_this 2) 353 g_this_now ++ (cJ_ dT (a_this 4) 4942 g_this_diary))) sz)) (va_Qi (fun (r : Int32) (u : TM × (Nat → Int64) × (Nat → Int64)) => r = o.1 ∧ u = o.2) (fun u t => cAt D dT (va_A (cM a_this g_this ++ (cJ_ dT (a_this 2) 353 g_this_now ++ (cJ_ dT (a_this 4) 4942 g_this_diary))) sz) (cM a_this (u.1) ++ (cJ_ dT (a_this 2) 353 (u.2.1) ++ (cJ_ dT (a_this 4) 4942 (u.2.2)))) t) (va_A (cM a_this g_this ++ (cJ_ dT (a_this 2) 353 g_this_now ++ (cJ_ dT (a_this 4) 4942 g_this_diary))) sz)) 0 0 (va_A (cM a_this g_this ++ (cJ_ dT (a_this 2) 353 g_this_now ++ (cJ_ dT (a_this 4) 4942 g_this_diary))) sz) := by
  refine mStart (WS := (cM a_this g_this ++ (cJ_ dT (a_this 2) 353 g_this_now ++ (cJ_ dT (a_this 4) 4942 g_this_diary)))) (Qc := fun A => va_Qi (fun (r : Int32) (u : TM × (Nat → Int64) × (Nat → Int64)) => r = o.1 ∧ u = o.2) (fun u t => cAt D dT A (cM a_this (u.1) ++ (cJ_ dT (a_this 2) 353 (u.2.1) ++ (cJ_ dT (a_this 4) 4942 (u.2.2)))) t) A) RX9 rfl (by decide) (Nat.le_of_ble_eq_true rfl) ?_ sz
  intro p e s m below meth c A ls hx hb hml hr hlk hnm hts hqs hown hE hA hK hP hD hS hl
  have hl : lv_has ls 4 [(0, .ref (a_this 0)), (1, .int v1), (2, .int v2), (3, .int v3)] := hl
  unfold f_X9_drift at h
  refine lv_aload_n hx hb dX9_drift_0 rfl (lv_at hl 0 rfl) ?_
  refine lv_aload_n hx hb dX9_drift_1 rfl (lv_at hl 0 rfl) ?_
  refine gf_X9_13 (v := .ref (a_this 2)) hx hb hqs hown hK hP 0 rfl rfl dX9_drift_2 ?_
  refine lv_iload_n hx hb dX9_drift_5 rfl (lv_at hl 1 rfl) ?_
  refine lv_iload_n hx hb dX9_drift_6 rfl (lv_at hl 2 rfl) ?_
  refine lv_iload_n hx hb dX9_drift_7 rfl (lv_at hl 3 rfl) ?_
  obtain ⟨o1, e1, h⟩ := obind h
  have hPc := hP.sub (ws' := (cJ_ dT (a_this 2) 353 g_this_now)) [1] rfl
  have hDc := hD.sub (ws' := (cJ_ dT (a_this 2) 353 g_this_now)) [1] (by decide) rfl
  have hFc := va_free (wc := (cJ_ dT (a_this 2) 353 g_this_now)) hD hS hA [1] rfl
  refine cl_i (wr := (cM a_this g_this ++ (cJ_ dT (a_this 4) 4942 g_this_diary))) (va_runS (As := [.ref (a_this 2), .int v1, .int v2, .int v3]) (rest := [.ref (a_this 0)]) ⟨hx, hb, hml, hown, hts⟩ (c_X9_whyNotDrift l hlt D dT (a_this 2) 353 g_this_now v1 v2 v3 o1 e1 _) (va_cwS 4 hts (TB_S w_1253 w_1254 w_59 w_1255) rfl rfl rfl nd_X9_whyNotDrift ⟨Nat.le_of_ble_eq_true rfl, Nat.le_of_ble_eq_true rfl⟩) (cPre.S hPc hDc hK hE hS hFc) rfl rfl hl.1 rfl (lv_room (Nat.le_of_ble_eq_true rfl)) dX9_drift_8 ⟨Nat.zero_le _, Nat.zero_le _⟩) hP hD hS hFc [1] [0, 2] rfl rfl (by decide) (by decide) (fun r1 u1 H locs hw hP hD hS => ?_)
  obtain ⟨rfl, rfl⟩ := hw
  have hP : va_P D vwCl (cM a_this g_this ++ (cJ_ dT (a_this 4) 4942 g_this_diary ++ (cJ_ dT (a_this 2) 353 g_this_now))) H := hP
  have hD : va_D A (cM a_this g_this ++ (cJ_ dT (a_this 4) 4942 g_this_diary ++ (cJ_ dT (a_this 2) 353 g_this_now))) := hD
  obtain ⟨o2, e2, h⟩ := obind h
  have hPc := hP.sub (ws' := (cM a_this g_this)) [0] rfl
  have hDc := hD.sub (ws' := (cM a_this g_this)) [0] (by decide) rfl
  have hFc := va_free (wc := (cM a_this g_this)) hD hS hA [0] rfl
  refine cl_i (wr := (cJ_ dT (a_this 4) 4942 g_this_diary ++ (cJ_ dT (a_this 2) 353 g_this_now))) (va_runV (As := [.int o1.1]) (rest := []) ⟨hx, hb, hml, hown, hts⟩ (c_X9_refused l hlt D dT a_this g_this o1.1 o2 e2 _) (cwV 1 hts (TB_V w_1132 w_1134 w_32 w_59 w_1135) rfl rfl rfl ⟨rfl, nd_X9_refused⟩ ⟨Nat.le_of_ble_eq_true rfl, Nat.le_of_ble_eq_true rfl⟩) (cPre.V hPc hDc hK hE hS hFc (va_recv hK hP (ci := 8) (q0 := 0) rfl rfl)) rfl rfl hl.1 rfl (lv_room (Nat.le_of_ble_eq_true rfl)) dX9_drift_11 ⟨Nat.zero_le _, Nat.zero_le _⟩) hP hD hS hFc [0] [1, 2] rfl rfl (by decide) (by decide) (fun r2 u2 H locs hw hP hD hS => ?_)
  obtain ⟨rfl, rfl⟩ := hw
  have hP : va_P D vwCl (cJ_ dT (a_this 4) 4942 g_this_diary ++ (cJ_ dT (a_this 2) 353 g_this_now ++ (cM a_this o2.2))) H := hP
  have hD : va_D A (cJ_ dT (a_this 4) 4942 g_this_diary ++ (cJ_ dT (a_this 2) 353 g_this_now ++ (cM a_this o2.2))) := hD
  refine lv_if_eq (tgt := 19) hx hb dX9_drift_14 (by decide) (fun c3 => ?_) (fun c3 => ?_)
  · replace h := iteT c3 h
    refine lv_aload_n hx hb dX9_drift_19 rfl (lv_at hl 0 rfl) ?_
    obtain ⟨o4, e4, h⟩ := obind h
    have hPc := hP.sub (ws' := (cM a_this o2.2 ++ (cJ_ dT (a_this 2) 353 g_this_now ++ (cJ_ dT (a_this 4) 4942 g_this_diary)))) [2, 1, 0] rfl
    have hDc := hD.sub (ws' := (cM a_this o2.2 ++ (cJ_ dT (a_this 2) 353 g_this_now ++ (cJ_ dT (a_this 4) 4942 g_this_diary)))) [2, 1, 0] (by decide) rfl
    have hFc := va_free (wc := (cM a_this o2.2 ++ (cJ_ dT (a_this 2) 353 g_this_now ++ (cJ_ dT (a_this 4) 4942 g_this_diary)))) hD hS hA [2, 1, 0] rfl
    refine cl_v (wr := ([] : va_W)) (va_runV (As := []) (rest := []) ⟨hx, hb, hml, hown, hts⟩ (c_X9_remember l hlt D dT a_this o2.2 g_this_now g_this_diary o4 e4 _) (cwV 0 hts (TB_V w_1233 w_1235 w_39 w_59 w_1236) rfl rfl rfl ⟨rfl, nd_X9_remember⟩ ⟨Nat.le_of_ble_eq_true rfl, Nat.le_of_ble_eq_true rfl⟩) (cPre.V hPc hDc hK hE hS hFc (va_recv hK hP (ci := 8) (q0 := 2) rfl rfl)) rfl rfl hl.1 rfl (lv_room (Nat.le_of_ble_eq_true rfl)) dX9_drift_20 ⟨Nat.zero_le _, Nat.zero_le _⟩) hP hD hS hFc [2, 1, 0] [] rfl rfl (by decide) (by decide) (fun u4 H locs hw hP hD hS => ?_)
    subst hw
    have hP : va_P D vwCl (cM a_this o4.2.1 ++ (cJ_ dT (a_this 2) 353 g_this_now ++ (cJ_ dT (a_this 4) 4942 o4.2.2))) H := hP
    have hD : va_D A (cM a_this o4.2.1 ++ (cJ_ dT (a_this 2) 353 g_this_now ++ (cJ_ dT (a_this 4) 4942 o4.2.2))) := hD
    refine lv_aload_n hx hb dX9_drift_23 rfl (lv_at hl 0 rfl) ?_
    refine gf_X9_13 (v := .ref (a_this 2)) hx hb hqs hown hK hP 0 rfl rfl dX9_drift_24 ?_
    refine lv_iload_n hx hb dX9_drift_27 rfl (lv_at hl 1 rfl) ?_
    refine lv_iload_n hx hb dX9_drift_28 rfl (lv_at hl 2 rfl) ?_
    refine lv_iload_n hx hb dX9_drift_29 rfl (lv_at hl 3 rfl) ?_
    obtain ⟨o5, e5, h⟩ := obind h
    have hPc := hP.sub (ws' := (cJ_ dT (a_this 2) 353 g_this_now)) [1] rfl
    have hDc := hD.sub (ws' := (cJ_ dT (a_this 2) 353 g_this_now)) [1] (by decide) rfl
    have hFc := va_free (wc := (cJ_ dT (a_this 2) 353 g_this_now)) hD hS hA [1] rfl
    refine cl_i (wr := (cM a_this o4.2.1 ++ (cJ_ dT (a_this 4) 4942 o4.2.2))) (va_runS (As := [.ref (a_this 2), .int v1, .int v2, .int v3]) (rest := []) ⟨hx, hb, hml, hown, hts⟩ (c_X9_driftOn l hlt D dT (a_this 2) 353 g_this_now v1 v2 v3 o5 e5 _) (va_cwS 4 hts (TB_S w_1256 w_1257 w_59 w_1258) rfl rfl rfl nd_X9_driftOn ⟨Nat.le_of_ble_eq_true rfl, Nat.le_of_ble_eq_true rfl⟩) (cPre.S hPc hDc hK hE hS hFc) rfl rfl hl.1 rfl (lv_room (Nat.le_of_ble_eq_true rfl)) dX9_drift_30 ⟨Nat.zero_le _, Nat.zero_le _⟩) hP hD hS hFc [1] [0, 2] rfl rfl (by decide) (by decide) (fun r5 u5 H locs hw hP hD hS => ?_)
    obtain ⟨rfl, rfl⟩ := hw
    have hP : va_P D vwCl (cM a_this o4.2.1 ++ (cJ_ dT (a_this 4) 4942 o4.2.2 ++ (cJ_ dT (a_this 2) 353 o5.2))) H := hP
    have hD : va_D A (cM a_this o4.2.1 ++ (cJ_ dT (a_this 4) 4942 o4.2.2 ++ (cJ_ dT (a_this 2) 353 o5.2))) := hD
    have hP := hP.sub (ws' := (cM a_this o4.2.1 ++ (cJ_ dT (a_this 2) 353 o5.2 ++ (cJ_ dT (a_this 4) 4942 o4.2.2)))) [0, 2, 1] rfl
    have hD := hD.sub (ws' := (cM a_this o4.2.1 ++ (cJ_ dT (a_this 2) 353 o5.2 ++ (cJ_ dT (a_this 4) 4942 o4.2.2)))) [0, 2, 1] (by decide) rfl
    exact rt_i hx hb hr hlk hK hS ((o4.2.1, o5.2, o4.2.2) : TM × (Nat → Int64) × (Nat → Int64)) (ret2 h) hP hD dX9_drift_33
  · replace h := iteF c3 h
    refine lv_iconst (v := 0) hx hb dX9_drift_17 (by decide) ?_
    have hP := hP.sub (ws' := (cM a_this o2.2 ++ (cJ_ dT (a_this 2) 353 g_this_now ++ (cJ_ dT (a_this 4) 4942 g_this_diary)))) [2, 1, 0] rfl
    have hD := hD.sub (ws' := (cM a_this o2.2 ++ (cJ_ dT (a_this 2) 353 g_this_now ++ (cJ_ dT (a_this 4) 4942 g_this_diary)))) [2, 1, 0] (by decide) rfl
    exact rt_i hx hb hr hlk hK hS ((o2.2, g_this_now, g_this_diary) : TM × (Nat → Int64) × (Nat → Int64)) (ret2 h) hP hD dX9_drift_18

def f_X9_find_L162 (n_p1 : Nat) (x1 : Int32) (x2 : Int32) (x3 : Int32) (x4 : Int64) (k192 : (Nat → Int64) → Option (Int32 × ((Nat → Int64)))) : Nat → Int32 → (Nat → Int64) → Option (Int32 × ((Nat → Int64)))
  | 0, _, _ => none
  | n + 1, x10, g_p1 =>
    (if x10 ≤ (3 : Int32) then (k192 g_p1) else (if inb (((313 : Int32) + x10) - (4 : Int32)) n_p1 = true then (if inb ((313 : Int32) + x10) n_p1 = true then (f_X9_find_L162 n_p1 x1 x2 x3 x4 k192 n (x10 + (-1 : Int32)) (vp_updL g_p1 ((313 : Int32) + x10).toNatClampNeg (g_p1 (((313 : Int32) + x10) - (4 : Int32)).toNatClampNeg))) else none) else none))
def f_X9_find_J129 (n_p1 : Nat)  (x1 : Int32) (x2 : Int32) (x3 : Int32) (x4 : Int64) (s0 : Int64) (s1 : Int32) (g_p1 : Nat → Int64) : Option (Int32 × ((Nat → Int64))) :=
    (if inb s1 n_p1 = true then (if inb ((204 : Int32) + x3) n_p1 = true then (if inb ((253 : Int32) + x3) n_p1 = true then (if inb ((253 : Int32) + x3) n_p1 = true then (if inb (307 : Int32) n_p1 = true then (if inb (307 : Int32) n_p1 = true then (f_X9_find_L162 n_p1 x1 x2 x3 x4 (fun (y21g_p1 : Nat → Int64) => (if inb (313 : Int32) n_p1 = true then (if inb (314 : Int32) n_p1 = true then (if inb ((106 : Int32) + x3) n_p1 = true then (if inb (315 : Int32) n_p1 = true then (if inb (305 : Int32) n_p1 = true then (if inb (316 : Int32) n_p1 = true then (if inb (312 : Int32) n_p1 = true then ((f_X9_less (10 : Int64) (((vp_updL (vp_updL (vp_updL (vp_updL y21g_p1 (313 : Int32).toNatClampNeg (((10 : Int64) * (Int32.toInt64 x1)) + (Int32.toInt64 x2))) (314 : Int32).toNatClampNeg x4) (315 : Int32).toNatClampNeg ((vp_updL (vp_updL y21g_p1 (313 : Int32).toNatClampNeg (((10 : Int64) * (Int32.toInt64 x1)) + (Int32.toInt64 x2))) (314 : Int32).toNatClampNeg x4) ((106 : Int32) + x3).toNatClampNeg)) (316 : Int32).toNatClampNeg ((vp_updL (vp_updL (vp_updL y21g_p1 (313 : Int32).toNatClampNeg (((10 : Int64) * (Int32.toInt64 x1)) + (Int32.toInt64 x2))) (314 : Int32).toNatClampNeg x4) (315 : Int32).toNatClampNeg ((vp_updL (vp_updL y21g_p1 (313 : Int32).toNatClampNeg (((10 : Int64) * (Int32.toInt64 x1)) + (Int32.toInt64 x2))) (314 : Int32).toNatClampNeg x4) ((106 : Int32) + x3).toNatClampNeg)) (305 : Int32).toNatClampNeg)) (312 : Int32).toNatClampNeg) + (1 : Int64))).bind fun o29 => (if inb (312 : Int32) n_p1 = true then (some ((1 : Int32), (vp_updL (vp_updL (vp_updL (vp_updL (vp_updL y21g_p1 (313 : Int32).toNatClampNeg (((10 : Int64) * (Int32.toInt64 x1)) + (Int32.toInt64 x2))) (314 : Int32).toNatClampNeg x4) (315 : Int32).toNatClampNeg ((vp_updL (vp_updL y21g_p1 (313 : Int32).toNatClampNeg (((10 : Int64) * (Int32.toInt64 x1)) + (Int32.toInt64 x2))) (314 : Int32).toNatClampNeg x4) ((106 : Int32) + x3).toNatClampNeg)) (316 : Int32).toNatClampNeg ((vp_updL (vp_updL (vp_updL y21g_p1 (313 : Int32).toNatClampNeg (((10 : Int64) * (Int32.toInt64 x1)) + (Int32.toInt64 x2))) (314 : Int32).toNatClampNeg x4) (315 : Int32).toNatClampNeg ((vp_updL (vp_updL y21g_p1 (313 : Int32).toNatClampNeg (((10 : Int64) * (Int32.toInt64 x1)) + (Int32.toInt64 x2))) (314 : Int32).toNatClampNeg x4) ((106 : Int32) + x3).toNatClampNeg)) (305 : Int32).toNatClampNeg)) (312 : Int32).toNatClampNeg o29.1))) else none)) else none) else none) else none) else none) else none) else none) else none)) FUEL (39 : Int32) (vp_updL (vp_updL (vp_updL (vp_updL g_p1 s1.toNatClampNeg s0) ((204 : Int32) + x3).toNatClampNeg (0 : Int64)) ((253 : Int32) + x3).toNatClampNeg (((vp_updL (vp_updL g_p1 s1.toNatClampNeg s0) ((204 : Int32) + x3).toNatClampNeg (0 : Int64)) ((253 : Int32) + x3).toNatClampNeg) + (1 : Int64))) (307 : Int32).toNatClampNeg (((vp_updL (vp_updL (vp_updL g_p1 s1.toNatClampNeg s0) ((204 : Int32) + x3).toNatClampNeg (0 : Int64)) ((253 : Int32) + x3).toNatClampNeg (((vp_updL (vp_updL g_p1 s1.toNatClampNeg s0) ((204 : Int32) + x3).toNatClampNeg (0 : Int64)) ((253 : Int32) + x3).toNatClampNeg) + (1 : Int64))) (307 : Int32).toNatClampNeg) + (1 : Int64)))) else none) else none) else none) else none) else none) else none)
def f_X9_find_J96 (n_p1 : Nat)  (x1 : Int32) (x2 : Int32) (x3 : Int32) (x4 : Int64) (s0 : Int64) (g_p1 : Nat → Int64) : Option (Int32 × ((Nat → Int64))) :=
    (if inb ((106 : Int32) + x3) n_p1 = true then (if (0 : Int32) ≤ (lg_cmp x4 (g_p1 ((106 : Int32) + x3).toNatClampNeg)) then (f_X9_find_J129 n_p1 x1 x2 x3 x4 (x4 - s0) ((155 : Int32) + x3) g_p1) else (f_X9_find_J129 n_p1 x1 x2 x3 x4 (x4 + s0) ((155 : Int32) + x3) g_p1)) else none)
def f_X9_find_J46 (n_p1 : Nat)  (x1 : Int32) (x2 : Int32) (x3 : Int32) (x4 : Int64) (s0 : Int64) (g_p1 : Nat → Int64) : Option (Int32 × ((Nat → Int64))) :=
    (if inb (302 : Int32) n_p1 = true then (if (0 : Int32) ≤ (lg_cmp s0 (g_p1 (302 : Int32).toNatClampNeg)) then (if inb (303 : Int32) n_p1 = true then (if (0 : Int32) ≤ (lg_cmp ((s0 * (g_p1 (303 : Int32).toNatClampNeg)) / (10 : Int64)) (1 : Int64)) then (f_X9_find_J96 n_p1 x1 x2 x3 x4 ((s0 * (g_p1 (303 : Int32).toNatClampNeg)) / (10 : Int64)) g_p1) else (f_X9_find_J96 n_p1 x1 x2 x3 x4 (1 : Int64) g_p1)) else none) else (if inb ((204 : Int32) + x3) n_p1 = true then (some ((0 : Int32), (vp_updL g_p1 ((204 : Int32) + x3).toNatClampNeg (0 : Int64)))) else none)) else none)
def f_X9_find (n_p1 : Nat) (g_p1 : Nat → Int64) (v1 : Int32) (v2 : Int32) : Option (Int32 × ((Nat → Int64))) :=
  ((f_X9_pairOf v1 v2).bind fun o1 => ((f_X9_believed n_p1 g_p1 o1.1).bind fun o2 => (if inb ((106 : Int32) + o1.1) n_p1 = true then (if (0 : Int32) ≤ (lg_cmp o2.1 (g_p1 ((106 : Int32) + o1.1).toNatClampNeg)) then (if inb ((106 : Int32) + o1.1) n_p1 = true then (f_X9_find_J46 n_p1 v1 v2 o1.1 o2.1 (o2.1 - (g_p1 ((106 : Int32) + o1.1).toNatClampNeg)) g_p1) else none) else (if inb ((106 : Int32) + o1.1) n_p1 = true then (f_X9_find_J46 n_p1 v1 v2 o1.1 o2.1 ((g_p1 ((106 : Int32) + o1.1).toNatClampNeg) - o2.1) g_p1) else none)) else none)))
set_option maxHeartbeats 8000000 in
set_option maxRecDepth 100000 in
theorem c_X9_find (l : Launch) (hlt : l.stackTraces = false) (D : va_G) (dT : Nat → ClassId) (a_p1 : Nat) (n_p1 : Nat) (g_p1 : Nat → Int64) (v1 : Int32) (v2 : Int32) (o : (Int32 × ((Nat → Int64)))) (h : f_X9_find n_p1 g_p1 v1 v2 = some o) (sz : Nat) : Met l yX9_find (WSm yX9_find cX9_find 11 (some .boolean)) { frames := 1, cells := 0, slots := 0, locals := 23 } (va_Pc [.ref a_p1, .int v1, .int v2] (cPre D dT (cJ_ dT a_p1 n_p1 g_p1) sz)) (va_Qi (fun (r : Int32) (u : (Nat → Int64)) => r = o.1 ∧ u = o.2) (fun u t => cAt D dT (va_A (cJ_ dT a_p1 n_p1 g_p1) sz) (cJ_ dT a_p1 n_p1 u) t) (va_A (cJ_ dT a_p1 n_p1 g_p1) sz)) 0 0 (va_A (cJ_ dT a_p1 n_p1 g_p1) sz) := by
  refine mStart (WS := (cJ_ dT a_p1 n_p1 g_p1)) (Qc := fun A => va_Qi (fun (r : Int32) (u : (Nat → Int64)) => r = o.1 ∧ u = o.2) (fun u t => cAt D dT A (cJ_ dT a_p1 n_p1 u) t) A) RX9 rfl (by decide) (Nat.le_of_ble_eq_true rfl) ?_ sz
  intro p e s m below meth c A ls hx hb hml hr hlk hnm hts hqs hown hE hA hK hP hD hS hl
  have hl : lv_has ls 11 [(0, .ref a_p1), (1, .int v1), (2, .int v2)] := hl
  have L_f_X9_find_L162 : ∀ (n_p1 : Nat) (x1 : Int32) (x2 : Int32) (x3 : Int32) (x4 : Int64) (k192 : (Nat → Int64) → Option (Int32 × ((Nat → Int64)))) (hk192 : ∀ (g_p1 : Nat → Int64) (H : Heap) (locs : List Loc) (ls : Array Slot), k192 g_p1 = some o → va_P D vwCl (cJ_ dT a_p1 n_p1 g_p1) H → va_D A (cJ_ dT a_p1 n_p1 g_p1) → va_S A s.heap H locs → lv_has ls 11 [(0, .ref a_p1), (1, .int x1), (2, .int x2), (3, .int x3), (4, .long x4)] → W p l e (headSpec (WSm yX9_find cX9_find 11 (some .boolean)) { frames := 1, cells := 0, slots := 0, locals := 23 }).room s m [.ref a_p1, .int v1, .int v2].toArray below meth c H locs 0 0 (MQ below (va_Qi (fun (r : Int32) (u : (Nat → Int64)) => r = o.1 ∧ u = o.2) (fun u t => cAt D dT A (cJ_ dT a_p1 n_p1 u) t) A) [.ref a_p1, .int v1, .int v2].toArray s 0 0 A) (F0 m 192 ls [])) (n : Nat), ∀ (x10 : Int32) (g_p1 : Nat → Int64) (H : Heap) (locs : List Loc) (ls : Array Slot), f_X9_find_L162 n_p1 x1 x2 x3 x4 k192 n x10 g_p1 = some o → va_P D vwCl (cJ_ dT a_p1 n_p1 g_p1) H → va_D A (cJ_ dT a_p1 n_p1 g_p1) → va_S A s.heap H locs → lv_has ls 11 [(0, .ref a_p1), (1, .int x1), (2, .int x2), (3, .int x3), (4, .long x4), (10, .int x10)] → W p l e (headSpec (WSm yX9_find cX9_find 11 (some .boolean)) { frames := 1, cells := 0, slots := 0, locals := 23 }).room s m [.ref a_p1, .int v1, .int v2].toArray below meth c H locs 0 0 (MQ below (va_Qi (fun (r : Int32) (u : (Nat → Int64)) => r = o.1 ∧ u = o.2) (fun u t => cAt D dT A (cJ_ dT a_p1 n_p1 u) t) A) [.ref a_p1, .int v1, .int v2].toArray s 0 0 A) (F0 m 162 ls []) := by
    intro n_p1 x1 x2 x3 x4 k192 hk192 n
    induction n with
    | zero => intro x10 g_p1 H locs ls h; exact nomatch h
    | succ n ih =>
      intro x10 g_p1 H locs ls h hP hD hS hl
      unfold f_X9_find_L162 at h
      refine lv_iload hx hb dX9_find_162 (lv_at hl 5 rfl) ?_
      refine lv_iconst (v := 3) hx hb dX9_find_164 (by decide) ?_
      refine lv_icmp_le (tgt := 192) hx hb dX9_find_165 (by decide) (fun c18 => ?_) (fun c18 => ?_)
      · replace h := iteT c18 h
        exact hk192 g_p1 _ _ _ h hP hD hS (lv_sub hl [0, 1, 2, 3, 4] rfl)
      · replace h := iteF c18 h
        refine lv_aload_n hx hb dX9_find_168 rfl (lv_at hl 0 rfl) ?_
        refine lv_sipush (v := 313) hx hb dX9_find_169 (by decide) ?_
        refine lv_iload hx hb dX9_find_172 (lv_at hl 5 rfl) ?_
        refine lv_iadd hx hb dX9_find_174 ?_
        refine lv_aload_n hx hb dX9_find_175 rfl (lv_at hl 0 rfl) ?_
        refine lv_sipush (v := 313) hx hb dX9_find_176 (by decide) ?_
        refine lv_iload hx hb dX9_find_179 (lv_at hl 5 rfl) ?_
        refine lv_iadd hx hb dX9_find_181 ?_
        refine lv_iconst (v := 4) hx hb dX9_find_182 (by decide) ?_
        refine lv_isub hx hb dX9_find_183 ?_
        obtain ⟨g19, h⟩ := chk h
        refine va_lald hx hb hK hP 0 1 rfl rfl (inb_in g19) dX9_find_184 ?_
        obtain ⟨g20, h⟩ := chk h
        refine va_last hx hb hK hP hD hS 0 1 rfl rfl (inb_in g20) dX9_find_185 (fun H locs hP hD hS => ?_)
        have hP : va_P D vwCl (cJ_ dT a_p1 n_p1 (vp_updL g_p1 ((313 : Int32) + x10).toNatClampNeg (g_p1 (((313 : Int32) + x10) - (4 : Int32)).toNatClampNeg))) H := hP
        have hD : va_D A (cJ_ dT a_p1 n_p1 (vp_updL g_p1 ((313 : Int32) + x10).toNatClampNeg (g_p1 (((313 : Int32) + x10) - (4 : Int32)).toNatClampNeg))) := hD
        refine lv_iinc (v := (x10 + (-1 : Int32))) (lv' := [(10, .int (x10 + (-1 : Int32))), (0, .ref a_p1), (1, .int x1), (2, .int x2), (3, .int x3), (4, .long x4)]) hx hb dX9_find_186 hl (k := 5) rfl rfl (by decide) rfl (fun ls hl => ?_)
        refine lv_goto (tgt := 162) hx hb dX9_find_189 (by decide) ?_
        exact ih (x10 + (-1 : Int32)) (vp_updL g_p1 ((313 : Int32) + x10).toNatClampNeg (g_p1 (((313 : Int32) + x10) - (4 : Int32)).toNatClampNeg)) _ _ _ h hP hD hS (lv_sub hl [1, 2, 3, 4, 5, 0] rfl)
  have L_f_X9_find_J129 : ∀ (n_p1 : Nat) (x1 : Int32) (x2 : Int32) (x3 : Int32) (x4 : Int64) (s0 : Int64) (s1 : Int32) (g_p1 : Nat → Int64)   (H : Heap) (locs : List Loc) (ls : Array Slot), f_X9_find_J129 n_p1  x1 x2 x3 x4 s0 s1 g_p1 = some o → va_P D vwCl (cJ_ dT a_p1 n_p1 g_p1) H → va_D A (cJ_ dT a_p1 n_p1 g_p1) → va_S A s.heap H locs → lv_has ls 11 [(0, .ref a_p1), (1, .int x1), (2, .int x2), (3, .int x3), (4, .long x4)] → W p l e (headSpec (WSm yX9_find cX9_find 11 (some .boolean)) { frames := 1, cells := 0, slots := 0, locals := 23 }).room s m [.ref a_p1, .int v1, .int v2].toArray below meth c H locs 0 0 (MQ below (va_Qi (fun (r : Int32) (u : (Nat → Int64)) => r = o.1 ∧ u = o.2) (fun u t => cAt D dT A (cJ_ dT a_p1 n_p1 u) t) A) [.ref a_p1, .int v1, .int v2].toArray s 0 0 A) (F0 m 129 ls [.long s0, .int s1, .ref a_p1]) := by
    intro n_p1 x1 x2 x3 x4 s0 s1 g_p1   H locs ls h hP hD hS hl
    unfold f_X9_find_J129 at h
    obtain ⟨g12, h⟩ := chk h
    refine va_last hx hb hK hP hD hS 0 1 rfl rfl (inb_in g12) dX9_find_129 (fun H locs hP hD hS => ?_)
    have hP : va_P D vwCl (cJ_ dT a_p1 n_p1 (vp_updL g_p1 s1.toNatClampNeg s0)) H := hP
    have hD : va_D A (cJ_ dT a_p1 n_p1 (vp_updL g_p1 s1.toNatClampNeg s0)) := hD
    refine lv_aload_n hx hb dX9_find_130 rfl (lv_at hl 0 rfl) ?_
    refine lv_sipush (v := 204) hx hb dX9_find_131 (by decide) ?_
    refine lv_iload_n hx hb dX9_find_134 rfl (lv_at hl 3 rfl) ?_
    refine lv_iadd hx hb dX9_find_135 ?_
    refine lv_lconst (v := 0) hx hb dX9_find_136 (by decide) ?_
    obtain ⟨g13, h⟩ := chk h
    refine va_last hx hb hK hP hD hS 0 1 rfl rfl (inb_in g13) dX9_find_137 (fun H locs hP hD hS => ?_)
    have hP : va_P D vwCl (cJ_ dT a_p1 n_p1 (vp_updL (vp_updL g_p1 s1.toNatClampNeg s0) ((204 : Int32) + x3).toNatClampNeg (0 : Int64))) H := hP
    have hD : va_D A (cJ_ dT a_p1 n_p1 (vp_updL (vp_updL g_p1 s1.toNatClampNeg s0) ((204 : Int32) + x3).toNatClampNeg (0 : Int64))) := hD
    refine lv_aload_n hx hb dX9_find_138 rfl (lv_at hl 0 rfl) ?_
    refine lv_sipush (v := 253) hx hb dX9_find_139 (by decide) ?_
    refine lv_iload_n hx hb dX9_find_142 rfl (lv_at hl 3 rfl) ?_
    refine lv_iadd hx hb dX9_find_143 ?_
    refine lv_dup2_11 hx hb dX9_find_144 rfl rfl ?_
    obtain ⟨g14, h⟩ := chk h
    refine va_lald hx hb hK hP 0 1 rfl rfl (inb_in g14) dX9_find_145 ?_
    refine lv_lconst (v := 1) hx hb dX9_find_146 (by decide) ?_
    refine lv_ladd hx hb dX9_find_147 ?_
    obtain ⟨g15, h⟩ := chk h
    refine va_last hx hb hK hP hD hS 0 1 rfl rfl (inb_in g15) dX9_find_148 (fun H locs hP hD hS => ?_)
    have hP : va_P D vwCl (cJ_ dT a_p1 n_p1 (vp_updL (vp_updL (vp_updL g_p1 s1.toNatClampNeg s0) ((204 : Int32) + x3).toNatClampNeg (0 : Int64)) ((253 : Int32) + x3).toNatClampNeg (((vp_updL (vp_updL g_p1 s1.toNatClampNeg s0) ((204 : Int32) + x3).toNatClampNeg (0 : Int64)) ((253 : Int32) + x3).toNatClampNeg) + (1 : Int64)))) H := hP
    have hD : va_D A (cJ_ dT a_p1 n_p1 (vp_updL (vp_updL (vp_updL g_p1 s1.toNatClampNeg s0) ((204 : Int32) + x3).toNatClampNeg (0 : Int64)) ((253 : Int32) + x3).toNatClampNeg (((vp_updL (vp_updL g_p1 s1.toNatClampNeg s0) ((204 : Int32) + x3).toNatClampNeg (0 : Int64)) ((253 : Int32) + x3).toNatClampNeg) + (1 : Int64)))) := hD
    refine lv_aload_n hx hb dX9_find_149 rfl (lv_at hl 0 rfl) ?_
    refine lv_sipush (v := 307) hx hb dX9_find_150 (by decide) ?_
    refine lv_dup2_11 hx hb dX9_find_153 rfl rfl ?_
    obtain ⟨g16, h⟩ := chk h
    refine va_lald hx hb hK hP 0 1 rfl rfl (inb_in g16) dX9_find_154 ?_
    refine lv_lconst (v := 1) hx hb dX9_find_155 (by decide) ?_
    refine lv_ladd hx hb dX9_find_156 ?_
    obtain ⟨g17, h⟩ := chk h
    refine va_last hx hb hK hP hD hS 0 1 rfl rfl (inb_in g17) dX9_find_157 (fun H locs hP hD hS => ?_)
    have hP : va_P D vwCl (cJ_ dT a_p1 n_p1 (vp_updL (vp_updL (vp_updL (vp_updL g_p1 s1.toNatClampNeg s0) ((204 : Int32) + x3).toNatClampNeg (0 : Int64)) ((253 : Int32) + x3).toNatClampNeg (((vp_updL (vp_updL g_p1 s1.toNatClampNeg s0) ((204 : Int32) + x3).toNatClampNeg (0 : Int64)) ((253 : Int32) + x3).toNatClampNeg) + (1 : Int64))) (307 : Int32).toNatClampNeg (((vp_updL (vp_updL (vp_updL g_p1 s1.toNatClampNeg s0) ((204 : Int32) + x3).toNatClampNeg (0 : Int64)) ((253 : Int32) + x3).toNatClampNeg (((vp_updL (vp_updL g_p1 s1.toNatClampNeg s0) ((204 : Int32) + x3).toNatClampNeg (0 : Int64)) ((253 : Int32) + x3).toNatClampNeg) + (1 : Int64))) (307 : Int32).toNatClampNeg) + (1 : Int64)))) H := hP
    have hD : va_D A (cJ_ dT a_p1 n_p1 (vp_updL (vp_updL (vp_updL (vp_updL g_p1 s1.toNatClampNeg s0) ((204 : Int32) + x3).toNatClampNeg (0 : Int64)) ((253 : Int32) + x3).toNatClampNeg (((vp_updL (vp_updL g_p1 s1.toNatClampNeg s0) ((204 : Int32) + x3).toNatClampNeg (0 : Int64)) ((253 : Int32) + x3).toNatClampNeg) + (1 : Int64))) (307 : Int32).toNatClampNeg (((vp_updL (vp_updL (vp_updL g_p1 s1.toNatClampNeg s0) ((204 : Int32) + x3).toNatClampNeg (0 : Int64)) ((253 : Int32) + x3).toNatClampNeg (((vp_updL (vp_updL g_p1 s1.toNatClampNeg s0) ((204 : Int32) + x3).toNatClampNeg (0 : Int64)) ((253 : Int32) + x3).toNatClampNeg) + (1 : Int64))) (307 : Int32).toNatClampNeg) + (1 : Int64)))) := hD
    refine lv_bipush (v := 39) hx hb dX9_find_158 (by decide) ?_
    refine lv_istore (lv' := [(10, .int (39 : Int32)), (0, .ref a_p1), (1, .int x1), (2, .int x2), (3, .int x3), (4, .long x4)]) hx hb dX9_find_160 hl (by decide) rfl (fun ls hl => ?_)
    refine L_f_X9_find_L162 n_p1 x1 x2 x3 x4 _ ?_ FUEL (39 : Int32) (vp_updL (vp_updL (vp_updL (vp_updL g_p1 s1.toNatClampNeg s0) ((204 : Int32) + x3).toNatClampNeg (0 : Int64)) ((253 : Int32) + x3).toNatClampNeg (((vp_updL (vp_updL g_p1 s1.toNatClampNeg s0) ((204 : Int32) + x3).toNatClampNeg (0 : Int64)) ((253 : Int32) + x3).toNatClampNeg) + (1 : Int64))) (307 : Int32).toNatClampNeg (((vp_updL (vp_updL (vp_updL g_p1 s1.toNatClampNeg s0) ((204 : Int32) + x3).toNatClampNeg (0 : Int64)) ((253 : Int32) + x3).toNatClampNeg (((vp_updL (vp_updL g_p1 s1.toNatClampNeg s0) ((204 : Int32) + x3).toNatClampNeg (0 : Int64)) ((253 : Int32) + x3).toNatClampNeg) + (1 : Int64))) (307 : Int32).toNatClampNeg) + (1 : Int64))) _ _ _ h hP hD hS (lv_sub hl [1, 2, 3, 4, 5, 0] rfl)
    · intro y21g_p1 H locs ls h hP hD hS hl
      refine lv_aload_n hx hb dX9_find_192 rfl (lv_at hl 0 rfl) ?_
      refine lv_sipush (v := 313) hx hb dX9_find_193 (by decide) ?_
      refine lv_ldc2 (v := 10) hx hb hown (hqs _ w_1066) dX9_find_196 ?_
      refine lv_iload_n hx hb dX9_find_199 rfl (lv_at hl 1 rfl) ?_
      refine lv_i2l hx hb dX9_find_200 rfl ?_
      refine lv_lmul hx hb dX9_find_201 ?_
      refine lv_iload_n hx hb dX9_find_202 rfl (lv_at hl 2 rfl) ?_
      refine lv_i2l hx hb dX9_find_203 rfl ?_
      refine lv_ladd hx hb dX9_find_204 ?_
      obtain ⟨g22, h⟩ := chk h
      refine va_last hx hb hK hP hD hS 0 1 rfl rfl (inb_in g22) dX9_find_205 (fun H locs hP hD hS => ?_)
      have hP : va_P D vwCl (cJ_ dT a_p1 n_p1 (vp_updL y21g_p1 (313 : Int32).toNatClampNeg (((10 : Int64) * (Int32.toInt64 x1)) + (Int32.toInt64 x2)))) H := hP
      have hD : va_D A (cJ_ dT a_p1 n_p1 (vp_updL y21g_p1 (313 : Int32).toNatClampNeg (((10 : Int64) * (Int32.toInt64 x1)) + (Int32.toInt64 x2)))) := hD
      refine lv_aload_n hx hb dX9_find_206 rfl (lv_at hl 0 rfl) ?_
      refine lv_sipush (v := 314) hx hb dX9_find_207 (by decide) ?_
      refine lv_lload hx hb dX9_find_210 (lv_at hl 4 rfl) ?_
      obtain ⟨g23, h⟩ := chk h
      refine va_last hx hb hK hP hD hS 0 1 rfl rfl (inb_in g23) dX9_find_212 (fun H locs hP hD hS => ?_)
      have hP : va_P D vwCl (cJ_ dT a_p1 n_p1 (vp_updL (vp_updL y21g_p1 (313 : Int32).toNatClampNeg (((10 : Int64) * (Int32.toInt64 x1)) + (Int32.toInt64 x2))) (314 : Int32).toNatClampNeg x4)) H := hP
      have hD : va_D A (cJ_ dT a_p1 n_p1 (vp_updL (vp_updL y21g_p1 (313 : Int32).toNatClampNeg (((10 : Int64) * (Int32.toInt64 x1)) + (Int32.toInt64 x2))) (314 : Int32).toNatClampNeg x4)) := hD
      refine lv_aload_n hx hb dX9_find_213 rfl (lv_at hl 0 rfl) ?_
      refine lv_sipush (v := 315) hx hb dX9_find_214 (by decide) ?_
      refine lv_aload_n hx hb dX9_find_217 rfl (lv_at hl 0 rfl) ?_
      refine lv_bipush (v := 106) hx hb dX9_find_218 (by decide) ?_
      refine lv_iload_n hx hb dX9_find_220 rfl (lv_at hl 3 rfl) ?_
      refine lv_iadd hx hb dX9_find_221 ?_
      obtain ⟨g24, h⟩ := chk h
      refine va_lald hx hb hK hP 0 1 rfl rfl (inb_in g24) dX9_find_222 ?_
      obtain ⟨g25, h⟩ := chk h
      refine va_last hx hb hK hP hD hS 0 1 rfl rfl (inb_in g25) dX9_find_223 (fun H locs hP hD hS => ?_)
      have hP : va_P D vwCl (cJ_ dT a_p1 n_p1 (vp_updL (vp_updL (vp_updL y21g_p1 (313 : Int32).toNatClampNeg (((10 : Int64) * (Int32.toInt64 x1)) + (Int32.toInt64 x2))) (314 : Int32).toNatClampNeg x4) (315 : Int32).toNatClampNeg ((vp_updL (vp_updL y21g_p1 (313 : Int32).toNatClampNeg (((10 : Int64) * (Int32.toInt64 x1)) + (Int32.toInt64 x2))) (314 : Int32).toNatClampNeg x4) ((106 : Int32) + x3).toNatClampNeg))) H := hP
      have hD : va_D A (cJ_ dT a_p1 n_p1 (vp_updL (vp_updL (vp_updL y21g_p1 (313 : Int32).toNatClampNeg (((10 : Int64) * (Int32.toInt64 x1)) + (Int32.toInt64 x2))) (314 : Int32).toNatClampNeg x4) (315 : Int32).toNatClampNeg ((vp_updL (vp_updL y21g_p1 (313 : Int32).toNatClampNeg (((10 : Int64) * (Int32.toInt64 x1)) + (Int32.toInt64 x2))) (314 : Int32).toNatClampNeg x4) ((106 : Int32) + x3).toNatClampNeg))) := hD
      refine lv_aload_n hx hb dX9_find_224 rfl (lv_at hl 0 rfl) ?_
      refine lv_sipush (v := 316) hx hb dX9_find_225 (by decide) ?_
      refine lv_aload_n hx hb dX9_find_228 rfl (lv_at hl 0 rfl) ?_
      refine lv_sipush (v := 305) hx hb dX9_find_229 (by decide) ?_
      obtain ⟨g26, h⟩ := chk h
      refine va_lald hx hb hK hP 0 1 rfl rfl (inb_in g26) dX9_find_232 ?_
      obtain ⟨g27, h⟩ := chk h
      refine va_last hx hb hK hP hD hS 0 1 rfl rfl (inb_in g27) dX9_find_233 (fun H locs hP hD hS => ?_)
      have hP : va_P D vwCl (cJ_ dT a_p1 n_p1 (vp_updL (vp_updL (vp_updL (vp_updL y21g_p1 (313 : Int32).toNatClampNeg (((10 : Int64) * (Int32.toInt64 x1)) + (Int32.toInt64 x2))) (314 : Int32).toNatClampNeg x4) (315 : Int32).toNatClampNeg ((vp_updL (vp_updL y21g_p1 (313 : Int32).toNatClampNeg (((10 : Int64) * (Int32.toInt64 x1)) + (Int32.toInt64 x2))) (314 : Int32).toNatClampNeg x4) ((106 : Int32) + x3).toNatClampNeg)) (316 : Int32).toNatClampNeg ((vp_updL (vp_updL (vp_updL y21g_p1 (313 : Int32).toNatClampNeg (((10 : Int64) * (Int32.toInt64 x1)) + (Int32.toInt64 x2))) (314 : Int32).toNatClampNeg x4) (315 : Int32).toNatClampNeg ((vp_updL (vp_updL y21g_p1 (313 : Int32).toNatClampNeg (((10 : Int64) * (Int32.toInt64 x1)) + (Int32.toInt64 x2))) (314 : Int32).toNatClampNeg x4) ((106 : Int32) + x3).toNatClampNeg)) (305 : Int32).toNatClampNeg))) H := hP
      have hD : va_D A (cJ_ dT a_p1 n_p1 (vp_updL (vp_updL (vp_updL (vp_updL y21g_p1 (313 : Int32).toNatClampNeg (((10 : Int64) * (Int32.toInt64 x1)) + (Int32.toInt64 x2))) (314 : Int32).toNatClampNeg x4) (315 : Int32).toNatClampNeg ((vp_updL (vp_updL y21g_p1 (313 : Int32).toNatClampNeg (((10 : Int64) * (Int32.toInt64 x1)) + (Int32.toInt64 x2))) (314 : Int32).toNatClampNeg x4) ((106 : Int32) + x3).toNatClampNeg)) (316 : Int32).toNatClampNeg ((vp_updL (vp_updL (vp_updL y21g_p1 (313 : Int32).toNatClampNeg (((10 : Int64) * (Int32.toInt64 x1)) + (Int32.toInt64 x2))) (314 : Int32).toNatClampNeg x4) (315 : Int32).toNatClampNeg ((vp_updL (vp_updL y21g_p1 (313 : Int32).toNatClampNeg (((10 : Int64) * (Int32.toInt64 x1)) + (Int32.toInt64 x2))) (314 : Int32).toNatClampNeg x4) ((106 : Int32) + x3).toNatClampNeg)) (305 : Int32).toNatClampNeg))) := hD
      refine lv_aload_n hx hb dX9_find_234 rfl (lv_at hl 0 rfl) ?_
      refine lv_sipush (v := 312) hx hb dX9_find_235 (by decide) ?_
      refine lv_ldc2 (v := 10) hx hb hown (hqs _ w_1066) dX9_find_238 ?_
      refine lv_aload_n hx hb dX9_find_241 rfl (lv_at hl 0 rfl) ?_
      refine lv_sipush (v := 312) hx hb dX9_find_242 (by decide) ?_
      obtain ⟨g28, h⟩ := chk h
      refine va_lald hx hb hK hP 0 1 rfl rfl (inb_in g28) dX9_find_245 ?_
      refine lv_lconst (v := 1) hx hb dX9_find_246 (by decide) ?_
      refine lv_ladd hx hb dX9_find_247 ?_
      obtain ⟨o29, e29, h⟩ := obind h
      have hPc := hP.sub (ws' := ([] : va_W)) [] rfl
      have hDc := hD.sub (ws' := ([] : va_W)) [] (by decide) rfl
      have hFc := va_free (wc := ([] : va_W)) hD hS hA [] rfl
      refine cl_l (wr := (cJ_ dT a_p1 n_p1 (vp_updL (vp_updL (vp_updL (vp_updL y21g_p1 (313 : Int32).toNatClampNeg (((10 : Int64) * (Int32.toInt64 x1)) + (Int32.toInt64 x2))) (314 : Int32).toNatClampNeg x4) (315 : Int32).toNatClampNeg ((vp_updL (vp_updL y21g_p1 (313 : Int32).toNatClampNeg (((10 : Int64) * (Int32.toInt64 x1)) + (Int32.toInt64 x2))) (314 : Int32).toNatClampNeg x4) ((106 : Int32) + x3).toNatClampNeg)) (316 : Int32).toNatClampNeg ((vp_updL (vp_updL (vp_updL y21g_p1 (313 : Int32).toNatClampNeg (((10 : Int64) * (Int32.toInt64 x1)) + (Int32.toInt64 x2))) (314 : Int32).toNatClampNeg x4) (315 : Int32).toNatClampNeg ((vp_updL (vp_updL y21g_p1 (313 : Int32).toNatClampNeg (((10 : Int64) * (Int32.toInt64 x1)) + (Int32.toInt64 x2))) (314 : Int32).toNatClampNeg x4) ((106 : Int32) + x3).toNatClampNeg)) (305 : Int32).toNatClampNeg)))) (va_runS (As := [.long (10 : Int64), .long (((vp_updL (vp_updL (vp_updL (vp_updL y21g_p1 (313 : Int32).toNatClampNeg (((10 : Int64) * (Int32.toInt64 x1)) + (Int32.toInt64 x2))) (314 : Int32).toNatClampNeg x4) (315 : Int32).toNatClampNeg ((vp_updL (vp_updL y21g_p1 (313 : Int32).toNatClampNeg (((10 : Int64) * (Int32.toInt64 x1)) + (Int32.toInt64 x2))) (314 : Int32).toNatClampNeg x4) ((106 : Int32) + x3).toNatClampNeg)) (316 : Int32).toNatClampNeg ((vp_updL (vp_updL (vp_updL y21g_p1 (313 : Int32).toNatClampNeg (((10 : Int64) * (Int32.toInt64 x1)) + (Int32.toInt64 x2))) (314 : Int32).toNatClampNeg x4) (315 : Int32).toNatClampNeg ((vp_updL (vp_updL y21g_p1 (313 : Int32).toNatClampNeg (((10 : Int64) * (Int32.toInt64 x1)) + (Int32.toInt64 x2))) (314 : Int32).toNatClampNeg x4) ((106 : Int32) + x3).toNatClampNeg)) (305 : Int32).toNatClampNeg)) (312 : Int32).toNatClampNeg) + (1 : Int64))]) (rest := [.int (312 : Int32), .ref a_p1]) ⟨hx, hb, hml, hown, hts⟩ (c_X9_less l hlt D dT (10 : Int64) (((vp_updL (vp_updL (vp_updL (vp_updL y21g_p1 (313 : Int32).toNatClampNeg (((10 : Int64) * (Int32.toInt64 x1)) + (Int32.toInt64 x2))) (314 : Int32).toNatClampNeg x4) (315 : Int32).toNatClampNeg ((vp_updL (vp_updL y21g_p1 (313 : Int32).toNatClampNeg (((10 : Int64) * (Int32.toInt64 x1)) + (Int32.toInt64 x2))) (314 : Int32).toNatClampNeg x4) ((106 : Int32) + x3).toNatClampNeg)) (316 : Int32).toNatClampNeg ((vp_updL (vp_updL (vp_updL y21g_p1 (313 : Int32).toNatClampNeg (((10 : Int64) * (Int32.toInt64 x1)) + (Int32.toInt64 x2))) (314 : Int32).toNatClampNeg x4) (315 : Int32).toNatClampNeg ((vp_updL (vp_updL y21g_p1 (313 : Int32).toNatClampNeg (((10 : Int64) * (Int32.toInt64 x1)) + (Int32.toInt64 x2))) (314 : Int32).toNatClampNeg x4) ((106 : Int32) + x3).toNatClampNeg)) (305 : Int32).toNatClampNeg)) (312 : Int32).toNatClampNeg) + (1 : Int64)) o29 e29 _) (va_cwS 2 hts (TB_S w_1289 w_1290 w_59 w_1291) rfl rfl rfl nd_X9_less ⟨Nat.le_of_ble_eq_true rfl, Nat.le_of_ble_eq_true rfl⟩) (cPre.S hPc hDc hK hE hS hFc) rfl rfl hl.1 rfl (lv_room (Nat.le_of_ble_eq_true rfl)) dX9_find_248 ⟨Nat.zero_le _, Nat.zero_le _⟩) hP hD hS hFc [] [0] rfl rfl (by decide) (by decide) (fun r29 u29 H locs hw hP hD hS => ?_)
      obtain ⟨rfl, rfl⟩ := hw
      have hP : va_P D vwCl (cJ_ dT a_p1 n_p1 (vp_updL (vp_updL (vp_updL (vp_updL y21g_p1 (313 : Int32).toNatClampNeg (((10 : Int64) * (Int32.toInt64 x1)) + (Int32.toInt64 x2))) (314 : Int32).toNatClampNeg x4) (315 : Int32).toNatClampNeg ((vp_updL (vp_updL y21g_p1 (313 : Int32).toNatClampNeg (((10 : Int64) * (Int32.toInt64 x1)) + (Int32.toInt64 x2))) (314 : Int32).toNatClampNeg x4) ((106 : Int32) + x3).toNatClampNeg)) (316 : Int32).toNatClampNeg ((vp_updL (vp_updL (vp_updL y21g_p1 (313 : Int32).toNatClampNeg (((10 : Int64) * (Int32.toInt64 x1)) + (Int32.toInt64 x2))) (314 : Int32).toNatClampNeg x4) (315 : Int32).toNatClampNeg ((vp_updL (vp_updL y21g_p1 (313 : Int32).toNatClampNeg (((10 : Int64) * (Int32.toInt64 x1)) + (Int32.toInt64 x2))) (314 : Int32).toNatClampNeg x4) ((106 : Int32) + x3).toNatClampNeg)) (305 : Int32).toNatClampNeg))) H := hP
      have hD : va_D A (cJ_ dT a_p1 n_p1 (vp_updL (vp_updL (vp_updL (vp_updL y21g_p1 (313 : Int32).toNatClampNeg (((10 : Int64) * (Int32.toInt64 x1)) + (Int32.toInt64 x2))) (314 : Int32).toNatClampNeg x4) (315 : Int32).toNatClampNeg ((vp_updL (vp_updL y21g_p1 (313 : Int32).toNatClampNeg (((10 : Int64) * (Int32.toInt64 x1)) + (Int32.toInt64 x2))) (314 : Int32).toNatClampNeg x4) ((106 : Int32) + x3).toNatClampNeg)) (316 : Int32).toNatClampNeg ((vp_updL (vp_updL (vp_updL y21g_p1 (313 : Int32).toNatClampNeg (((10 : Int64) * (Int32.toInt64 x1)) + (Int32.toInt64 x2))) (314 : Int32).toNatClampNeg x4) (315 : Int32).toNatClampNeg ((vp_updL (vp_updL y21g_p1 (313 : Int32).toNatClampNeg (((10 : Int64) * (Int32.toInt64 x1)) + (Int32.toInt64 x2))) (314 : Int32).toNatClampNeg x4) ((106 : Int32) + x3).toNatClampNeg)) (305 : Int32).toNatClampNeg))) := hD
      obtain ⟨g30, h⟩ := chk h
      refine va_last hx hb hK hP hD hS 0 1 rfl rfl (inb_in g30) dX9_find_251 (fun H locs hP hD hS => ?_)
      have hP : va_P D vwCl (cJ_ dT a_p1 n_p1 (vp_updL (vp_updL (vp_updL (vp_updL (vp_updL y21g_p1 (313 : Int32).toNatClampNeg (((10 : Int64) * (Int32.toInt64 x1)) + (Int32.toInt64 x2))) (314 : Int32).toNatClampNeg x4) (315 : Int32).toNatClampNeg ((vp_updL (vp_updL y21g_p1 (313 : Int32).toNatClampNeg (((10 : Int64) * (Int32.toInt64 x1)) + (Int32.toInt64 x2))) (314 : Int32).toNatClampNeg x4) ((106 : Int32) + x3).toNatClampNeg)) (316 : Int32).toNatClampNeg ((vp_updL (vp_updL (vp_updL y21g_p1 (313 : Int32).toNatClampNeg (((10 : Int64) * (Int32.toInt64 x1)) + (Int32.toInt64 x2))) (314 : Int32).toNatClampNeg x4) (315 : Int32).toNatClampNeg ((vp_updL (vp_updL y21g_p1 (313 : Int32).toNatClampNeg (((10 : Int64) * (Int32.toInt64 x1)) + (Int32.toInt64 x2))) (314 : Int32).toNatClampNeg x4) ((106 : Int32) + x3).toNatClampNeg)) (305 : Int32).toNatClampNeg)) (312 : Int32).toNatClampNeg o29.1)) H := hP
      have hD : va_D A (cJ_ dT a_p1 n_p1 (vp_updL (vp_updL (vp_updL (vp_updL (vp_updL y21g_p1 (313 : Int32).toNatClampNeg (((10 : Int64) * (Int32.toInt64 x1)) + (Int32.toInt64 x2))) (314 : Int32).toNatClampNeg x4) (315 : Int32).toNatClampNeg ((vp_updL (vp_updL y21g_p1 (313 : Int32).toNatClampNeg (((10 : Int64) * (Int32.toInt64 x1)) + (Int32.toInt64 x2))) (314 : Int32).toNatClampNeg x4) ((106 : Int32) + x3).toNatClampNeg)) (316 : Int32).toNatClampNeg ((vp_updL (vp_updL (vp_updL y21g_p1 (313 : Int32).toNatClampNeg (((10 : Int64) * (Int32.toInt64 x1)) + (Int32.toInt64 x2))) (314 : Int32).toNatClampNeg x4) (315 : Int32).toNatClampNeg ((vp_updL (vp_updL y21g_p1 (313 : Int32).toNatClampNeg (((10 : Int64) * (Int32.toInt64 x1)) + (Int32.toInt64 x2))) (314 : Int32).toNatClampNeg x4) ((106 : Int32) + x3).toNatClampNeg)) (305 : Int32).toNatClampNeg)) (312 : Int32).toNatClampNeg o29.1)) := hD
      refine lv_iconst (v := 1) hx hb dX9_find_252 (by decide) ?_
      exact rt_z hx hb hr hlk hK hS ((vp_updL (vp_updL (vp_updL (vp_updL (vp_updL y21g_p1 (313 : Int32).toNatClampNeg (((10 : Int64) * (Int32.toInt64 x1)) + (Int32.toInt64 x2))) (314 : Int32).toNatClampNeg x4) (315 : Int32).toNatClampNeg ((vp_updL (vp_updL y21g_p1 (313 : Int32).toNatClampNeg (((10 : Int64) * (Int32.toInt64 x1)) + (Int32.toInt64 x2))) (314 : Int32).toNatClampNeg x4) ((106 : Int32) + x3).toNatClampNeg)) (316 : Int32).toNatClampNeg ((vp_updL (vp_updL (vp_updL y21g_p1 (313 : Int32).toNatClampNeg (((10 : Int64) * (Int32.toInt64 x1)) + (Int32.toInt64 x2))) (314 : Int32).toNatClampNeg x4) (315 : Int32).toNatClampNeg ((vp_updL (vp_updL y21g_p1 (313 : Int32).toNatClampNeg (((10 : Int64) * (Int32.toInt64 x1)) + (Int32.toInt64 x2))) (314 : Int32).toNatClampNeg x4) ((106 : Int32) + x3).toNatClampNeg)) (305 : Int32).toNatClampNeg)) (312 : Int32).toNatClampNeg o29.1) : (Nat → Int64)) (ret2 h) (by decide) hP hD dX9_find_253
  have L_f_X9_find_J96 : ∀ (n_p1 : Nat) (x1 : Int32) (x2 : Int32) (x3 : Int32) (x4 : Int64) (s0 : Int64) (g_p1 : Nat → Int64)   (H : Heap) (locs : List Loc) (ls : Array Slot), f_X9_find_J96 n_p1  x1 x2 x3 x4 s0 g_p1 = some o → va_P D vwCl (cJ_ dT a_p1 n_p1 g_p1) H → va_D A (cJ_ dT a_p1 n_p1 g_p1) → va_S A s.heap H locs → lv_has ls 11 [(0, .ref a_p1), (1, .int x1), (2, .int x2), (3, .int x3), (4, .long x4)] → W p l e (headSpec (WSm yX9_find cX9_find 11 (some .boolean)) { frames := 1, cells := 0, slots := 0, locals := 23 }).room s m [.ref a_p1, .int v1, .int v2].toArray below meth c H locs 0 0 (MQ below (va_Qi (fun (r : Int32) (u : (Nat → Int64)) => r = o.1 ∧ u = o.2) (fun u t => cAt D dT A (cJ_ dT a_p1 n_p1 u) t) A) [.ref a_p1, .int v1, .int v2].toArray s 0 0 A) (F0 m 96 ls [.long s0]) := by
    intro n_p1 x1 x2 x3 x4 s0 g_p1   H locs ls h hP hD hS hl
    unfold f_X9_find_J96 at h
    refine lv_lstore (lv' := [(8, .long s0), (0, .ref a_p1), (1, .int x1), (2, .int x2), (3, .int x3), (4, .long x4)]) hx hb dX9_find_96 hl (by decide) rfl (fun ls hl => ?_)
    refine lv_aload_n hx hb dX9_find_98 rfl (lv_at hl 1 rfl) ?_
    refine lv_sipush (v := 155) hx hb dX9_find_99 (by decide) ?_
    refine lv_iload_n hx hb dX9_find_102 rfl (lv_at hl 4 rfl) ?_
    refine lv_iadd hx hb dX9_find_103 ?_
    refine lv_lload hx hb dX9_find_104 (lv_at hl 5 rfl) ?_
    refine lv_aload_n hx hb dX9_find_106 rfl (lv_at hl 1 rfl) ?_
    refine lv_bipush (v := 106) hx hb dX9_find_107 (by decide) ?_
    refine lv_iload_n hx hb dX9_find_109 rfl (lv_at hl 4 rfl) ?_
    refine lv_iadd hx hb dX9_find_110 ?_
    obtain ⟨g10, h⟩ := chk h
    refine va_lald hx hb hK hP 0 1 rfl rfl (inb_in g10) dX9_find_111 ?_
    refine W.lcmp hx hb dX9_find_112 ?_
    refine lv_if_ge (tgt := 124) hx hb dX9_find_113 (by decide) (fun c11 => ?_) (fun c11 => ?_)
    · replace h := iteT c11 h
      refine lv_lload hx hb dX9_find_124 (lv_at hl 5 rfl) ?_
      refine lv_lload hx hb dX9_find_126 (lv_at hl 0 rfl) ?_
      refine lv_lsub hx hb dX9_find_128 ?_
      refine L_f_X9_find_J129 n_p1 x1 x2 x3 x4 (x4 - s0) ((155 : Int32) + x3) g_p1   _ _ _ h hP hD hS (lv_sub hl [1, 2, 3, 4, 5] rfl)
    · replace h := iteF c11 h
      refine lv_lload hx hb dX9_find_116 (lv_at hl 5 rfl) ?_
      refine lv_lload hx hb dX9_find_118 (lv_at hl 0 rfl) ?_
      refine lv_ladd hx hb dX9_find_120 ?_
      refine lv_goto (tgt := 129) hx hb dX9_find_121 (by decide) ?_
      refine L_f_X9_find_J129 n_p1 x1 x2 x3 x4 (x4 + s0) ((155 : Int32) + x3) g_p1   _ _ _ h hP hD hS (lv_sub hl [1, 2, 3, 4, 5] rfl)
  have L_f_X9_find_J46 : ∀ (n_p1 : Nat) (x1 : Int32) (x2 : Int32) (x3 : Int32) (x4 : Int64) (s0 : Int64) (g_p1 : Nat → Int64)   (H : Heap) (locs : List Loc) (ls : Array Slot), f_X9_find_J46 n_p1  x1 x2 x3 x4 s0 g_p1 = some o → va_P D vwCl (cJ_ dT a_p1 n_p1 g_p1) H → va_D A (cJ_ dT a_p1 n_p1 g_p1) → va_S A s.heap H locs → lv_has ls 11 [(0, .ref a_p1), (1, .int x1), (2, .int x2), (3, .int x3), (4, .long x4)] → W p l e (headSpec (WSm yX9_find cX9_find 11 (some .boolean)) { frames := 1, cells := 0, slots := 0, locals := 23 }).room s m [.ref a_p1, .int v1, .int v2].toArray below meth c H locs 0 0 (MQ below (va_Qi (fun (r : Int32) (u : (Nat → Int64)) => r = o.1 ∧ u = o.2) (fun u t => cAt D dT A (cJ_ dT a_p1 n_p1 u) t) A) [.ref a_p1, .int v1, .int v2].toArray s 0 0 A) (F0 m 46 ls [.long s0]) := by
    intro n_p1 x1 x2 x3 x4 s0 g_p1   H locs ls h hP hD hS hl
    unfold f_X9_find_J46 at h
    refine lv_lstore (lv' := [(6, .long s0), (0, .ref a_p1), (1, .int x1), (2, .int x2), (3, .int x3), (4, .long x4)]) hx hb dX9_find_46 hl (by decide) rfl (fun ls hl => ?_)
    refine lv_lload hx hb dX9_find_48 (lv_at hl 0 rfl) ?_
    refine lv_aload_n hx hb dX9_find_50 rfl (lv_at hl 1 rfl) ?_
    refine lv_sipush (v := 302) hx hb dX9_find_51 (by decide) ?_
    obtain ⟨g6, h⟩ := chk h
    refine va_lald hx hb hK hP 0 1 rfl rfl (inb_in g6) dX9_find_54 ?_
    refine W.lcmp hx hb dX9_find_55 ?_
    refine lv_if_ge (tgt := 69) hx hb dX9_find_56 (by decide) (fun c7 => ?_) (fun c7 => ?_)
    · replace h := iteT c7 h
      refine lv_lload hx hb dX9_find_69 (lv_at hl 0 rfl) ?_
      refine lv_aload_n hx hb dX9_find_71 rfl (lv_at hl 1 rfl) ?_
      refine lv_sipush (v := 303) hx hb dX9_find_72 (by decide) ?_
      obtain ⟨g8, h⟩ := chk h
      refine va_lald hx hb hK hP 0 1 rfl rfl (inb_in g8) dX9_find_75 ?_
      refine lv_lmul hx hb dX9_find_76 ?_
      refine lv_ldc2 (v := 10) hx hb hown (hqs _ w_1066) dX9_find_77 ?_
      refine lv_ldiv hx hb dX9_find_80 (by decide) ?_
      refine lv_lstore (lv' := [(8, .long ((s0 * (g_p1 (303 : Int32).toNatClampNeg)) / (10 : Int64))), (6, .long s0), (0, .ref a_p1), (1, .int x1), (2, .int x2), (3, .int x3), (4, .long x4)]) hx hb dX9_find_81 hl (by decide) rfl (fun ls hl => ?_)
      refine lv_lload hx hb dX9_find_83 (lv_at hl 0 rfl) ?_
      refine lv_lconst (v := 1) hx hb dX9_find_85 (by decide) ?_
      refine W.lcmp hx hb dX9_find_86 ?_
      refine lv_if_ge (tgt := 94) hx hb dX9_find_87 (by decide) (fun c9 => ?_) (fun c9 => ?_)
      · replace h := iteT c9 h
        refine lv_lload hx hb dX9_find_94 (lv_at hl 0 rfl) ?_
        refine L_f_X9_find_J96 n_p1 x1 x2 x3 x4 ((s0 * (g_p1 (303 : Int32).toNatClampNeg)) / (10 : Int64)) g_p1   _ _ _ h hP hD hS (lv_sub hl [2, 3, 4, 5, 6] rfl)
      · replace h := iteF c9 h
        refine lv_lconst (v := 1) hx hb dX9_find_90 (by decide) ?_
        refine lv_goto (tgt := 96) hx hb dX9_find_91 (by decide) ?_
        refine L_f_X9_find_J96 n_p1 x1 x2 x3 x4 (1 : Int64) g_p1   _ _ _ h hP hD hS (lv_sub hl [2, 3, 4, 5, 6] rfl)
    · replace h := iteF c7 h
      refine lv_aload_n hx hb dX9_find_59 rfl (lv_at hl 1 rfl) ?_
      refine lv_sipush (v := 204) hx hb dX9_find_60 (by decide) ?_
      refine lv_iload_n hx hb dX9_find_63 rfl (lv_at hl 4 rfl) ?_
      refine lv_iadd hx hb dX9_find_64 ?_
      refine lv_lconst (v := 0) hx hb dX9_find_65 (by decide) ?_
      obtain ⟨g31, h⟩ := chk h
      refine va_last hx hb hK hP hD hS 0 1 rfl rfl (inb_in g31) dX9_find_66 (fun H locs hP hD hS => ?_)
      have hP : va_P D vwCl (cJ_ dT a_p1 n_p1 (vp_updL g_p1 ((204 : Int32) + x3).toNatClampNeg (0 : Int64))) H := hP
      have hD : va_D A (cJ_ dT a_p1 n_p1 (vp_updL g_p1 ((204 : Int32) + x3).toNatClampNeg (0 : Int64))) := hD
      refine lv_iconst (v := 0) hx hb dX9_find_67 (by decide) ?_
      exact rt_z hx hb hr hlk hK hS ((vp_updL g_p1 ((204 : Int32) + x3).toNatClampNeg (0 : Int64)) : (Nat → Int64)) (ret2 h) (by decide) hP hD dX9_find_68
  unfold f_X9_find at h
  refine lv_iload_n hx hb dX9_find_0 rfl (lv_at hl 1 rfl) ?_
  refine lv_iload_n hx hb dX9_find_1 rfl (lv_at hl 2 rfl) ?_
  obtain ⟨o1, e1, h⟩ := obind h
  have hPc := hP.sub (ws' := ([] : va_W)) [] rfl
  have hDc := hD.sub (ws' := ([] : va_W)) [] (by decide) rfl
  have hFc := va_free (wc := ([] : va_W)) hD hS hA [] rfl
  refine cl_i (wr := (cJ_ dT a_p1 n_p1 g_p1)) (va_runS (As := [.int v1, .int v2]) (rest := []) ⟨hx, hb, hml, hown, hts⟩ (c_X9_pairOf l hlt D dT v1 v2 o1 e1 _) (va_cwS 2 hts (TB_S w_1181 w_1182 w_59 w_1183) rfl rfl rfl nd_X9_pairOf ⟨Nat.le_of_ble_eq_true rfl, Nat.le_of_ble_eq_true rfl⟩) (cPre.S hPc hDc hK hE hS hFc) rfl rfl hl.1 rfl (lv_room (Nat.le_of_ble_eq_true rfl)) dX9_find_2 ⟨Nat.zero_le _, Nat.zero_le _⟩) hP hD hS hFc [] [0] rfl rfl (by decide) (by decide) (fun r1 u1 H locs hw hP hD hS => ?_)
  obtain ⟨rfl, rfl⟩ := hw
  have hP : va_P D vwCl (cJ_ dT a_p1 n_p1 g_p1) H := hP
  have hD : va_D A (cJ_ dT a_p1 n_p1 g_p1) := hD
  refine lv_istore_n (lv' := [(3, .int o1.1), (0, .ref a_p1), (1, .int v1), (2, .int v2)]) hx hb dX9_find_5 rfl hl (by decide) rfl (fun ls hl => ?_)
  refine lv_aload_n hx hb dX9_find_6 rfl (lv_at hl 1 rfl) ?_
  refine lv_iload_n hx hb dX9_find_7 rfl (lv_at hl 0 rfl) ?_
  obtain ⟨o2, e2, h⟩ := obind h
  have hPc := hP
  have hDc := hD
  have hFc := vfall hD hS hA
  refine cl_lA (va_runS (As := [.ref a_p1, .int o1.1]) (rest := []) ⟨hx, hb, hml, hown, hts⟩ (c_X9_believed l hlt D dT a_p1 n_p1 g_p1 o1.1 o2 e2 _) (va_cwS 2 hts (TB_S w_1215 w_1216 w_59 w_1217) rfl rfl rfl nd_X9_believed ⟨Nat.le_of_ble_eq_true rfl, Nat.le_of_ble_eq_true rfl⟩) (cPre.S hPc hDc hK hE hS hFc) rfl rfl hl.1 rfl (lv_room (Nat.le_of_ble_eq_true rfl)) dX9_find_8 ⟨Nat.zero_le _, Nat.zero_le _⟩) hS hFc (fun r2 u2 H locs hw hP hD hS => ?_)
  obtain ⟨rfl, rfl⟩ := hw
  have hP : va_P D vwCl (cJ_ dT a_p1 n_p1 g_p1) H := hP
  have hD : va_D A (cJ_ dT a_p1 n_p1 g_p1) := hD
  refine lv_lstore (lv' := [(4, .long o2.1), (3, .int o1.1), (0, .ref a_p1), (1, .int v1), (2, .int v2)]) hx hb dX9_find_11 hl (by decide) rfl (fun ls hl => ?_)
  refine lv_lload hx hb dX9_find_13 (lv_at hl 0 rfl) ?_
  refine lv_aload_n hx hb dX9_find_15 rfl (lv_at hl 2 rfl) ?_
  refine lv_bipush (v := 106) hx hb dX9_find_16 (by decide) ?_
  refine lv_iload_n hx hb dX9_find_18 rfl (lv_at hl 1 rfl) ?_
  refine lv_iadd hx hb dX9_find_19 ?_
  obtain ⟨g3, h⟩ := chk h
  refine va_lald hx hb hK hP 0 1 rfl rfl (inb_in g3) dX9_find_20 ?_
  refine W.lcmp hx hb dX9_find_21 ?_
  refine lv_if_ge (tgt := 37) hx hb dX9_find_22 (by decide) (fun c4 => ?_) (fun c4 => ?_)
  · replace h := iteT c4 h
    refine lv_lload hx hb dX9_find_37 (lv_at hl 0 rfl) ?_
    refine lv_aload_n hx hb dX9_find_39 rfl (lv_at hl 2 rfl) ?_
    refine lv_bipush (v := 106) hx hb dX9_find_40 (by decide) ?_
    refine lv_iload_n hx hb dX9_find_42 rfl (lv_at hl 1 rfl) ?_
    refine lv_iadd hx hb dX9_find_43 ?_
    obtain ⟨g5, h⟩ := chk h
    refine va_lald hx hb hK hP 0 1 rfl rfl (inb_in g5) dX9_find_44 ?_
    refine lv_lsub hx hb dX9_find_45 ?_
    refine L_f_X9_find_J46 n_p1 v1 v2 o1.1 o2.1 (o2.1 - (g_p1 ((106 : Int32) + o1.1).toNatClampNeg)) g_p1   _ _ _ h hP hD hS (lv_sub hl [2, 3, 4, 1, 0] rfl)
  · replace h := iteF c4 h
    refine lv_aload_n hx hb dX9_find_25 rfl (lv_at hl 2 rfl) ?_
    refine lv_bipush (v := 106) hx hb dX9_find_26 (by decide) ?_
    refine lv_iload_n hx hb dX9_find_28 rfl (lv_at hl 1 rfl) ?_
    refine lv_iadd hx hb dX9_find_29 ?_
    obtain ⟨g32, h⟩ := chk h
    refine va_lald hx hb hK hP 0 1 rfl rfl (inb_in g32) dX9_find_30 ?_
    refine lv_lload hx hb dX9_find_31 (lv_at hl 0 rfl) ?_
    refine lv_lsub hx hb dX9_find_33 ?_
    refine lv_goto (tgt := 46) hx hb dX9_find_34 (by decide) ?_
    refine L_f_X9_find_J46 n_p1 v1 v2 o1.1 o2.1 ((g_p1 ((106 : Int32) + o1.1).toNatClampNeg) - o2.1) g_p1   _ _ _ h hP hD hS (lv_sub hl [2, 3, 4, 1, 0] rfl)

def f_X9_runOn_L77 (n_p1 : Nat) (g_this : TM) (g_this_chosenBy : Nat → Int64) (g_this_paidBy : Nat → Int64) (g_this_toPay : Nat → Int64) (g_this_plan : Nat → Int32) (x2 : Int32) (x8 : Int32) (k141 : Int32 → (Nat → Int64) → Option (Int32 × (TM × (Nat → Int64) × (Nat → Int64) × (Nat → Int64) × (Nat → Int32) × (Nat → Int64)))) : Nat → Int32 → Int32 → (Nat → Int64) → Option (Int32 × (TM × (Nat → Int64) × (Nat → Int64) × (Nat → Int64) × (Nat → Int32) × (Nat → Int64)))
  | 0, _, _, _ => none
  | n + 1, x7, x9, g_p1 =>
    (if (7 : Int32) ≤ x9 then (k141 x7 g_p1) else (if ((x2 >>> (x8 &&& 31)) &&& (1 : Int32)) = (1 : Int32) then (if ((x2 >>> (x9 &&& 31)) &&& (1 : Int32)) = (1 : Int32) then ((f_X9_pairOf x8 x9).bind fun o15 => (if inb ((8 : Int32) + o15.1) n_p1 = true then (if (lg_cmp (g_p1 ((8 : Int32) + o15.1).toNatClampNeg) (0 : Int64)) ≤ (0 : Int32) then (f_X9_runOn_L77 n_p1 g_this g_this_chosenBy g_this_paidBy g_this_toPay g_this_plan x2 x8 k141 n x7 (x9 + (1 : Int32)) g_p1) else ((f_X9_find n_p1 g_p1 x8 x9).bind fun o18 => (if o18.1 = (0 : Int32) then (f_X9_runOn_L77 n_p1 g_this g_this_chosenBy g_this_paidBy g_this_toPay g_this_plan x2 x8 k141 n x7 (x9 + (1 : Int32)) o18.2) else (f_X9_runOn_L77 n_p1 g_this g_this_chosenBy g_this_paidBy g_this_toPay g_this_plan x2 x8 k141 n (x7 + (1 : Int32)) (x9 + (1 : Int32)) o18.2)))) else none)) else (f_X9_runOn_L77 n_p1 g_this g_this_chosenBy g_this_paidBy g_this_toPay g_this_plan x2 x8 k141 n x7 (x9 + (1 : Int32)) g_p1)) else (f_X9_runOn_L77 n_p1 g_this g_this_chosenBy g_this_paidBy g_this_toPay g_this_plan x2 x8 k141 n x7 (x9 + (1 : Int32)) g_p1)))
def f_X9_runOn_L64 (n_p1 : Nat) (g_this : TM) (g_this_chosenBy : Nat → Int64) (g_this_paidBy : Nat → Int64) (g_this_toPay : Nat → Int64) (g_this_plan : Nat → Int32) (x2 : Int32)  : Nat → Int32 → Int32 → (Nat → Int64) → Option (Int32 × (TM × (Nat → Int64) × (Nat → Int64) × (Nat → Int64) × (Nat → Int32) × (Nat → Int64)))
  | 0, _, _, _ => none
  | n + 1, x7, x8, g_p1 =>
    (if (7 : Int32) ≤ x8 then (some (x7, (g_this, g_this_chosenBy, g_this_paidBy, g_this_toPay, g_this_plan, g_p1))) else (f_X9_runOn_L77 n_p1 g_this g_this_chosenBy g_this_paidBy g_this_toPay g_this_plan x2 x8 (fun (y20x7 : Int32) (y20g_p1 : Nat → Int64) => (f_X9_runOn_L64 n_p1 g_this g_this_chosenBy g_this_paidBy g_this_toPay g_this_plan x2 n y20x7 (x8 + (1 : Int32)) y20g_p1)) FUEL x7 (x8 + (1 : Int32)) g_p1))
def f_X9_runOn (n_p1 : Nat) (g_this : TM) (g_this_chosenBy : Nat → Int64) (g_this_paidBy : Nat → Int64) (g_this_toPay : Nat → Int64) (g_this_plan : Nat → Int32) (g_p1 : Nat → Int64) (v2 : Int32) : Option (Int32 × (TM × (Nat → Int64) × (Nat → Int64) × (Nat → Int64) × (Nat → Int32) × (Nat → Int64))) :=
  ((f_X9_costOn n_p1 g_this g_this_chosenBy g_this_paidBy g_this_toPay g_this_plan g_p1 v2 (1 : Int32)).bind fun o1 => ((f_X9_costOn n_p1 o1.2.1 o1.2.2.1 o1.2.2.2.1 o1.2.2.2.2.1 o1.2.2.2.2.2 g_p1 v2 (2 : Int32)).bind fun o2 => (if inb (308 : Int32) n_p1 = true then (if inb (308 : Int32) n_p1 = true then (if inb (309 : Int32) n_p1 = true then (if inb (309 : Int32) n_p1 = true then (if inb (310 : Int32) n_p1 = true then (if inb (311 : Int32) n_p1 = true then (if inb (306 : Int32) n_p1 = true then (if inb (306 : Int32) n_p1 = true then (f_X9_runOn_L64 n_p1 o2.2.1 o2.2.2.1 o2.2.2.2.1 o2.2.2.2.2.1 o2.2.2.2.2.2 v2 FUEL (0 : Int32) (0 : Int32) (vp_updL (vp_updL (vp_updL (vp_updL (vp_updL g_p1 (308 : Int32).toNatClampNeg ((g_p1 (308 : Int32).toNatClampNeg) + o1.1)) (309 : Int32).toNatClampNeg (((vp_updL g_p1 (308 : Int32).toNatClampNeg ((g_p1 (308 : Int32).toNatClampNeg) + o1.1)) (309 : Int32).toNatClampNeg) + o2.1)) (310 : Int32).toNatClampNeg o1.1) (311 : Int32).toNatClampNeg o2.1) (306 : Int32).toNatClampNeg (((vp_updL (vp_updL (vp_updL (vp_updL g_p1 (308 : Int32).toNatClampNeg ((g_p1 (308 : Int32).toNatClampNeg) + o1.1)) (309 : Int32).toNatClampNeg (((vp_updL g_p1 (308 : Int32).toNatClampNeg ((g_p1 (308 : Int32).toNatClampNeg) + o1.1)) (309 : Int32).toNatClampNeg) + o2.1)) (310 : Int32).toNatClampNeg o1.1) (311 : Int32).toNatClampNeg o2.1) (306 : Int32).toNatClampNeg) + (1 : Int64)))) else none) else none) else none) else none) else none) else none) else none) else none)))
set_option maxHeartbeats 8000000 in
set_option maxRecDepth 100000 in
theorem c_X9_runOn (l : Launch) (hlt : l.stackTraces = false) (D : va_G) (dT : Nat → ClassId) (a_this : Nat → Nat) (a_p1 : Nat) (n_p1 : Nat) (g_this : TM) (g_this_chosenBy : Nat → Int64) (g_this_paidBy : Nat → Int64) (g_this_toPay : Nat → Int64) (g_this_plan : Nat → Int32) (g_p1 : Nat → Int64) (v2 : Int32) (o : (Int32 × (TM × (Nat → Int64) × (Nat → Int64) × (Nat → Int64) × (Nat → Int32) × (Nat → Int64)))) (h : f_X9_runOn n_p1 g_this g_this_chosenBy g_this_paidBy g_this_toPay g_this_plan g_p1 v2 = some o) (sz : Nat) : Met l yX9_runOn (WSm yX9_runOn cX9_runOn 10 (some .int)) { frames := 6, cells := 0, slots := 0, locals := 148 } (va_Pc [.ref (a_this 0), .ref a_p1, .int v2] (cPre D dT (cM a_this g_this ++ (cJ_ dT (a_this 7) 128 g_this_chosenBy ++ (cJ_ dT (a_this 8) 128 g_this_paidBy ++ (cJ_ dT (a_this 9) 128 g_this_toPay ++ (cI_ dT (a_this 10) 7 g_this_plan ++ (cJ_ dT a_p1 n_p1 g_p1)))))) sz)) (va_Qi (fun (r : Int32) (u : TM × (Nat → Int64) × (Nat → Int64) × (Nat → Int64) × (Nat → Int32) × (Nat → Int64)) => r = o.1 ∧ u = o.2) (fun u t => cAt D dT (va_A (cM a_this g_this ++ (cJ_ dT (a_this 7) 128 g_this_chosenBy ++ (cJ_ dT (a_this 8) 128 g_this_paidBy ++ (cJ_ dT (a_this 9) 128 g_this_toPay ++ (cI_ dT (a_this 10) 7 g_this_plan ++ (cJ_ dT a_p1 n_p1 g_p1)))))) sz) (cM a_this (u.1) ++ (cJ_ dT (a_this 7) 128 (u.2.1) ++ (cJ_ dT (a_this 8) 128 (u.2.2.1) ++ (cJ_ dT (a_this 9) 128 (u.2.2.2.1) ++ (cI_ dT (a_this 10) 7 (u.2.2.2.2.1) ++ (cJ_ dT a_p1 n_p1 (u.2.2.2.2.2))))))) t) (va_A (cM a_this g_this ++ (cJ_ dT (a_this 7) 128 g_this_chosenBy ++ (cJ_ dT (a_this 8) 128 g_this_paidBy ++ (cJ_ dT (a_this 9) 128 g_this_toPay ++ (cI_ dT (a_this 10) 7 g_this_plan ++ (cJ_ dT a_p1 n_p1 g_p1)))))) sz)) 0 0 (va_A (cM a_this g_this ++ (cJ_ dT (a_this 7) 128 g_this_chosenBy ++ (cJ_ dT (a_this 8) 128 g_this_paidBy ++ (cJ_ dT (a_this 9) 128 g_this_toPay ++ (cI_ dT (a_this 10) 7 g_this_plan ++ (cJ_ dT a_p1 n_p1 g_p1)))))) sz) := by
  refine mStart (WS := (cM a_this g_this ++ (cJ_ dT (a_this 7) 128 g_this_chosenBy ++ (cJ_ dT (a_this 8) 128 g_this_paidBy ++ (cJ_ dT (a_this 9) 128 g_this_toPay ++ (cI_ dT (a_this 10) 7 g_this_plan ++ (cJ_ dT a_p1 n_p1 g_p1))))))) (Qc := fun A => va_Qi (fun (r : Int32) (u : TM × (Nat → Int64) × (Nat → Int64) × (Nat → Int64) × (Nat → Int32) × (Nat → Int64)) => r = o.1 ∧ u = o.2) (fun u t => cAt D dT A (cM a_this (u.1) ++ (cJ_ dT (a_this 7) 128 (u.2.1) ++ (cJ_ dT (a_this 8) 128 (u.2.2.1) ++ (cJ_ dT (a_this 9) 128 (u.2.2.2.1) ++ (cI_ dT (a_this 10) 7 (u.2.2.2.2.1) ++ (cJ_ dT a_p1 n_p1 (u.2.2.2.2.2))))))) t) A) RX9 rfl (by decide) (Nat.le_of_ble_eq_true rfl) ?_ sz
  intro p e s m below meth c A ls hx hb hml hr hlk hnm hts hqs hown hE hA hK hP hD hS hl
  have hl : lv_has ls 10 [(0, .ref (a_this 0)), (1, .ref a_p1), (2, .int v2)] := hl
  have L_f_X9_runOn_L77 : ∀ (n_p1 : Nat) (g_this : TM) (g_this_chosenBy : Nat → Int64) (g_this_paidBy : Nat → Int64) (g_this_toPay : Nat → Int64) (g_this_plan : Nat → Int32) (x2 : Int32) (x8 : Int32) (k141 : Int32 → (Nat → Int64) → Option (Int32 × (TM × (Nat → Int64) × (Nat → Int64) × (Nat → Int64) × (Nat → Int32) × (Nat → Int64)))) (hk141 : ∀ (x7 : Int32) (g_p1 : Nat → Int64) (H : Heap) (locs : List Loc) (ls : Array Slot), k141 x7 g_p1 = some o → va_P D vwCl (cM a_this g_this ++ (cJ_ dT (a_this 7) 128 g_this_chosenBy ++ (cJ_ dT (a_this 8) 128 g_this_paidBy ++ (cJ_ dT (a_this 9) 128 g_this_toPay ++ (cI_ dT (a_this 10) 7 g_this_plan ++ (cJ_ dT a_p1 n_p1 g_p1)))))) H → va_D A (cM a_this g_this ++ (cJ_ dT (a_this 7) 128 g_this_chosenBy ++ (cJ_ dT (a_this 8) 128 g_this_paidBy ++ (cJ_ dT (a_this 9) 128 g_this_toPay ++ (cI_ dT (a_this 10) 7 g_this_plan ++ (cJ_ dT a_p1 n_p1 g_p1)))))) → va_S A s.heap H locs → lv_has ls 10 [(1, .ref a_p1), (2, .int x2), (7, .int x7), (8, .int x8)] → W p l e (headSpec (WSm yX9_runOn cX9_runOn 10 (some .int)) { frames := 6, cells := 0, slots := 0, locals := 148 }).room s m [.ref (a_this 0), .ref a_p1, .int v2].toArray below meth c H locs 0 0 (MQ below (va_Qi (fun (r : Int32) (u : TM × (Nat → Int64) × (Nat → Int64) × (Nat → Int64) × (Nat → Int32) × (Nat → Int64)) => r = o.1 ∧ u = o.2) (fun u t => cAt D dT A (cM a_this (u.1) ++ (cJ_ dT (a_this 7) 128 (u.2.1) ++ (cJ_ dT (a_this 8) 128 (u.2.2.1) ++ (cJ_ dT (a_this 9) 128 (u.2.2.2.1) ++ (cI_ dT (a_this 10) 7 (u.2.2.2.2.1) ++ (cJ_ dT a_p1 n_p1 (u.2.2.2.2.2))))))) t) A) [.ref (a_this 0), .ref a_p1, .int v2].toArray s 0 0 A) (F0 m 141 ls [])) (n : Nat), ∀ (x7 : Int32) (x9 : Int32) (g_p1 : Nat → Int64) (H : Heap) (locs : List Loc) (ls : Array Slot), f_X9_runOn_L77 n_p1 g_this g_this_chosenBy g_this_paidBy g_this_toPay g_this_plan x2 x8 k141 n x7 x9 g_p1 = some o → va_P D vwCl (cM a_this g_this ++ (cJ_ dT (a_this 7) 128 g_this_chosenBy ++ (cJ_ dT (a_this 8) 128 g_this_paidBy ++ (cJ_ dT (a_this 9) 128 g_this_toPay ++ (cI_ dT (a_this 10) 7 g_this_plan ++ (cJ_ dT a_p1 n_p1 g_p1)))))) H → va_D A (cM a_this g_this ++ (cJ_ dT (a_this 7) 128 g_this_chosenBy ++ (cJ_ dT (a_this 8) 128 g_this_paidBy ++ (cJ_ dT (a_this 9) 128 g_this_toPay ++ (cI_ dT (a_this 10) 7 g_this_plan ++ (cJ_ dT a_p1 n_p1 g_p1)))))) → va_S A s.heap H locs → lv_has ls 10 [(1, .ref a_p1), (2, .int x2), (7, .int x7), (8, .int x8), (9, .int x9)] → W p l e (headSpec (WSm yX9_runOn cX9_runOn 10 (some .int)) { frames := 6, cells := 0, slots := 0, locals := 148 }).room s m [.ref (a_this 0), .ref a_p1, .int v2].toArray below meth c H locs 0 0 (MQ below (va_Qi (fun (r : Int32) (u : TM × (Nat → Int64) × (Nat → Int64) × (Nat → Int64) × (Nat → Int32) × (Nat → Int64)) => r = o.1 ∧ u = o.2) (fun u t => cAt D dT A (cM a_this (u.1) ++ (cJ_ dT (a_this 7) 128 (u.2.1) ++ (cJ_ dT (a_this 8) 128 (u.2.2.1) ++ (cJ_ dT (a_this 9) 128 (u.2.2.2.1) ++ (cI_ dT (a_this 10) 7 (u.2.2.2.2.1) ++ (cJ_ dT a_p1 n_p1 (u.2.2.2.2.2))))))) t) A) [.ref (a_this 0), .ref a_p1, .int v2].toArray s 0 0 A) (F0 m 77 ls []) := by
    intro n_p1 g_this g_this_chosenBy g_this_paidBy g_this_toPay g_this_plan x2 x8 k141 hk141 n
    induction n with
    | zero => intro x7 x9 g_p1 H locs ls h; exact nomatch h
    | succ n ih =>
      intro x7 x9 g_p1 H locs ls h hP hD hS hl
      unfold f_X9_runOn_L77 at h
      refine lv_iload hx hb dX9_runOn_77 (lv_at hl 4 rfl) ?_
      refine lv_bipush (v := 7) hx hb dX9_runOn_79 (by decide) ?_
      refine lv_icmp_ge (tgt := 141) hx hb dX9_runOn_81 (by decide) (fun c12 => ?_) (fun c12 => ?_)
      · replace h := iteT c12 h
        exact hk141 x7 g_p1 _ _ _ h hP hD hS (lv_sub hl [0, 1, 2, 3] rfl)
      · replace h := iteF c12 h
        refine lv_iload_n hx hb dX9_runOn_84 rfl (lv_at hl 1 rfl) ?_
        refine lv_iload hx hb dX9_runOn_85 (lv_at hl 3 rfl) ?_
        refine lv_ishr hx hb dX9_runOn_87 ?_
        refine lv_iconst (v := 1) hx hb dX9_runOn_88 (by decide) ?_
        refine lv_iand hx hb dX9_runOn_89 ?_
        refine lv_iconst (v := 1) hx hb dX9_runOn_90 (by decide) ?_
        refine lv_icmp_ne (tgt := 135) hx hb dX9_runOn_91 (by decide) (fun c13 => ?_) (fun c13 => ?_)
        · replace h := iteF c13 h
          refine lv_iinc (v := (x9 + (1 : Int32))) (lv' := [(9, .int (x9 + (1 : Int32))), (1, .ref a_p1), (2, .int x2), (7, .int x7), (8, .int x8)]) hx hb dX9_runOn_135 hl (k := 4) rfl rfl (by decide) rfl (fun ls hl => ?_)
          refine lv_goto (tgt := 77) hx hb dX9_runOn_138 (by decide) ?_
          exact ih x7 (x9 + (1 : Int32)) g_p1 _ _ _ h hP hD hS (lv_sub hl [1, 2, 3, 4, 0] rfl)
        · replace h := iteT c13 h
          refine lv_iload_n hx hb dX9_runOn_94 rfl (lv_at hl 1 rfl) ?_
          refine lv_iload hx hb dX9_runOn_95 (lv_at hl 4 rfl) ?_
          refine lv_ishr hx hb dX9_runOn_97 ?_
          refine lv_iconst (v := 1) hx hb dX9_runOn_98 (by decide) ?_
          refine lv_iand hx hb dX9_runOn_99 ?_
          refine lv_iconst (v := 1) hx hb dX9_runOn_100 (by decide) ?_
          refine lv_icmp_ne (tgt := 135) hx hb dX9_runOn_101 (by decide) (fun c14 => ?_) (fun c14 => ?_)
          · replace h := iteF c14 h
            refine lv_iinc (v := (x9 + (1 : Int32))) (lv' := [(9, .int (x9 + (1 : Int32))), (1, .ref a_p1), (2, .int x2), (7, .int x7), (8, .int x8)]) hx hb dX9_runOn_135 hl (k := 4) rfl rfl (by decide) rfl (fun ls hl => ?_)
            refine lv_goto (tgt := 77) hx hb dX9_runOn_138 (by decide) ?_
            exact ih x7 (x9 + (1 : Int32)) g_p1 _ _ _ h hP hD hS (lv_sub hl [1, 2, 3, 4, 0] rfl)
          · replace h := iteT c14 h
            refine lv_aload_n hx hb dX9_runOn_104 rfl (lv_at hl 0 rfl) ?_
            refine lv_bipush (v := 8) hx hb dX9_runOn_105 (by decide) ?_
            refine lv_iload hx hb dX9_runOn_107 (lv_at hl 3 rfl) ?_
            refine lv_iload hx hb dX9_runOn_109 (lv_at hl 4 rfl) ?_
            obtain ⟨o15, e15, h⟩ := obind h
            have hPc := hP.sub (ws' := ([] : va_W)) [] rfl
            have hDc := hD.sub (ws' := ([] : va_W)) [] (by decide) rfl
            have hFc := va_free (wc := ([] : va_W)) hD hS hA [] rfl
            refine cl_i (wr := (cM a_this g_this ++ (cJ_ dT (a_this 7) 128 g_this_chosenBy ++ (cJ_ dT (a_this 8) 128 g_this_paidBy ++ (cJ_ dT (a_this 9) 128 g_this_toPay ++ (cI_ dT (a_this 10) 7 g_this_plan ++ (cJ_ dT a_p1 n_p1 g_p1))))))) (va_runS (As := [.int x8, .int x9]) (rest := [.int (8 : Int32), .ref a_p1]) ⟨hx, hb, hml, hown, hts⟩ (c_X9_pairOf l hlt D dT x8 x9 o15 e15 _) (va_cwS 2 hts (TB_S w_1181 w_1182 w_59 w_1183) rfl rfl rfl nd_X9_pairOf ⟨Nat.le_of_ble_eq_true rfl, Nat.le_of_ble_eq_true rfl⟩) (cPre.S hPc hDc hK hE hS hFc) rfl rfl hl.1 rfl (lv_room (Nat.le_of_ble_eq_true rfl)) dX9_runOn_111 ⟨Nat.zero_le _, Nat.zero_le _⟩) hP hD hS hFc [] [0, 1, 2, 3, 4, 5] rfl rfl (by decide) (by decide) (fun r15 u15 H locs hw hP hD hS => ?_)
            obtain ⟨rfl, rfl⟩ := hw
            have hP : va_P D vwCl (cM a_this g_this ++ (cJ_ dT (a_this 7) 128 g_this_chosenBy ++ (cJ_ dT (a_this 8) 128 g_this_paidBy ++ (cJ_ dT (a_this 9) 128 g_this_toPay ++ (cI_ dT (a_this 10) 7 g_this_plan ++ (cJ_ dT a_p1 n_p1 g_p1)))))) H := hP
            have hD : va_D A (cM a_this g_this ++ (cJ_ dT (a_this 7) 128 g_this_chosenBy ++ (cJ_ dT (a_this 8) 128 g_this_paidBy ++ (cJ_ dT (a_this 9) 128 g_this_toPay ++ (cI_ dT (a_this 10) 7 g_this_plan ++ (cJ_ dT a_p1 n_p1 g_p1)))))) := hD
            refine lv_iadd hx hb dX9_runOn_114 ?_
            obtain ⟨g16, h⟩ := chk h
            refine va_lald hx hb hK hP 5 1 rfl rfl (inb_in g16) dX9_runOn_115 ?_
            refine lv_lconst (v := 0) hx hb dX9_runOn_116 (by decide) ?_
            refine W.lcmp hx hb dX9_runOn_117 ?_
            refine lv_if_le (tgt := 135) hx hb dX9_runOn_118 (by decide) (fun c17 => ?_) (fun c17 => ?_)
            · replace h := iteT c17 h
              refine lv_iinc (v := (x9 + (1 : Int32))) (lv' := [(9, .int (x9 + (1 : Int32))), (1, .ref a_p1), (2, .int x2), (7, .int x7), (8, .int x8)]) hx hb dX9_runOn_135 hl (k := 4) rfl rfl (by decide) rfl (fun ls hl => ?_)
              refine lv_goto (tgt := 77) hx hb dX9_runOn_138 (by decide) ?_
              exact ih x7 (x9 + (1 : Int32)) g_p1 _ _ _ h hP hD hS (lv_sub hl [1, 2, 3, 4, 0] rfl)
            · replace h := iteF c17 h
              refine lv_aload_n hx hb dX9_runOn_121 rfl (lv_at hl 0 rfl) ?_
              refine lv_iload hx hb dX9_runOn_122 (lv_at hl 3 rfl) ?_
              refine lv_iload hx hb dX9_runOn_124 (lv_at hl 4 rfl) ?_
              obtain ⟨o18, e18, h⟩ := obind h
              have hPc := hP.sub (ws' := (cJ_ dT a_p1 n_p1 g_p1)) [5] rfl
              have hDc := hD.sub (ws' := (cJ_ dT a_p1 n_p1 g_p1)) [5] (by decide) rfl
              have hFc := va_free (wc := (cJ_ dT a_p1 n_p1 g_p1)) hD hS hA [5] rfl
              refine cl_i (wr := (cM a_this g_this ++ (cJ_ dT (a_this 7) 128 g_this_chosenBy ++ (cJ_ dT (a_this 8) 128 g_this_paidBy ++ (cJ_ dT (a_this 9) 128 g_this_toPay ++ (cI_ dT (a_this 10) 7 g_this_plan)))))) (va_runS (As := [.ref a_p1, .int x8, .int x9]) (rest := []) ⟨hx, hb, hml, hown, hts⟩ (c_X9_find l hlt D dT a_p1 n_p1 g_p1 x8 x9 o18 e18 _) (va_cwS 3 hts (TB_S w_1307 w_1308 w_59 w_1309) rfl rfl rfl nd_X9_find ⟨Nat.le_of_ble_eq_true rfl, Nat.le_of_ble_eq_true rfl⟩) (cPre.S hPc hDc hK hE hS hFc) rfl rfl hl.1 rfl (lv_room (Nat.le_of_ble_eq_true rfl)) dX9_runOn_126 ⟨Nat.zero_le _, Nat.zero_le _⟩) hP hD hS hFc [5] [0, 1, 2, 3, 4] rfl rfl (by decide) (by decide) (fun r18 u18 H locs hw hP hD hS => ?_)
              obtain ⟨rfl, rfl⟩ := hw
              have hP : va_P D vwCl (cM a_this g_this ++ (cJ_ dT (a_this 7) 128 g_this_chosenBy ++ (cJ_ dT (a_this 8) 128 g_this_paidBy ++ (cJ_ dT (a_this 9) 128 g_this_toPay ++ (cI_ dT (a_this 10) 7 g_this_plan ++ (cJ_ dT a_p1 n_p1 o18.2)))))) H := hP
              have hD : va_D A (cM a_this g_this ++ (cJ_ dT (a_this 7) 128 g_this_chosenBy ++ (cJ_ dT (a_this 8) 128 g_this_paidBy ++ (cJ_ dT (a_this 9) 128 g_this_toPay ++ (cI_ dT (a_this 10) 7 g_this_plan ++ (cJ_ dT a_p1 n_p1 o18.2)))))) := hD
              refine lv_if_eq (tgt := 135) hx hb dX9_runOn_129 (by decide) (fun c19 => ?_) (fun c19 => ?_)
              · replace h := iteT c19 h
                refine lv_iinc (v := (x9 + (1 : Int32))) (lv' := [(9, .int (x9 + (1 : Int32))), (1, .ref a_p1), (2, .int x2), (7, .int x7), (8, .int x8)]) hx hb dX9_runOn_135 hl (k := 4) rfl rfl (by decide) rfl (fun ls hl => ?_)
                refine lv_goto (tgt := 77) hx hb dX9_runOn_138 (by decide) ?_
                exact ih x7 (x9 + (1 : Int32)) o18.2 _ _ _ h hP hD hS (lv_sub hl [1, 2, 3, 4, 0] rfl)
              · replace h := iteF c19 h
                refine lv_iinc (v := (x7 + (1 : Int32))) (lv' := [(7, .int (x7 + (1 : Int32))), (1, .ref a_p1), (2, .int x2), (8, .int x8), (9, .int x9)]) hx hb dX9_runOn_132 hl (k := 2) rfl rfl (by decide) rfl (fun ls hl => ?_)
                refine lv_iinc (v := (x9 + (1 : Int32))) (lv' := [(9, .int (x9 + (1 : Int32))), (7, .int (x7 + (1 : Int32))), (1, .ref a_p1), (2, .int x2), (8, .int x8)]) hx hb dX9_runOn_135 hl (k := 4) rfl rfl (by decide) rfl (fun ls hl => ?_)
                refine lv_goto (tgt := 77) hx hb dX9_runOn_138 (by decide) ?_
                exact ih (x7 + (1 : Int32)) (x9 + (1 : Int32)) o18.2 _ _ _ h hP hD hS (lv_sub hl [2, 3, 1, 4, 0] rfl)
  have L_f_X9_runOn_L64 : ∀ (n_p1 : Nat) (g_this : TM) (g_this_chosenBy : Nat → Int64) (g_this_paidBy : Nat → Int64) (g_this_toPay : Nat → Int64) (g_this_plan : Nat → Int32) (x2 : Int32)   (n : Nat), ∀ (x7 : Int32) (x8 : Int32) (g_p1 : Nat → Int64) (H : Heap) (locs : List Loc) (ls : Array Slot), f_X9_runOn_L64 n_p1 g_this g_this_chosenBy g_this_paidBy g_this_toPay g_this_plan x2  n x7 x8 g_p1 = some o → va_P D vwCl (cM a_this g_this ++ (cJ_ dT (a_this 7) 128 g_this_chosenBy ++ (cJ_ dT (a_this 8) 128 g_this_paidBy ++ (cJ_ dT (a_this 9) 128 g_this_toPay ++ (cI_ dT (a_this 10) 7 g_this_plan ++ (cJ_ dT a_p1 n_p1 g_p1)))))) H → va_D A (cM a_this g_this ++ (cJ_ dT (a_this 7) 128 g_this_chosenBy ++ (cJ_ dT (a_this 8) 128 g_this_paidBy ++ (cJ_ dT (a_this 9) 128 g_this_toPay ++ (cI_ dT (a_this 10) 7 g_this_plan ++ (cJ_ dT a_p1 n_p1 g_p1)))))) → va_S A s.heap H locs → lv_has ls 10 [(1, .ref a_p1), (2, .int x2), (7, .int x7), (8, .int x8)] → W p l e (headSpec (WSm yX9_runOn cX9_runOn 10 (some .int)) { frames := 6, cells := 0, slots := 0, locals := 148 }).room s m [.ref (a_this 0), .ref a_p1, .int v2].toArray below meth c H locs 0 0 (MQ below (va_Qi (fun (r : Int32) (u : TM × (Nat → Int64) × (Nat → Int64) × (Nat → Int64) × (Nat → Int32) × (Nat → Int64)) => r = o.1 ∧ u = o.2) (fun u t => cAt D dT A (cM a_this (u.1) ++ (cJ_ dT (a_this 7) 128 (u.2.1) ++ (cJ_ dT (a_this 8) 128 (u.2.2.1) ++ (cJ_ dT (a_this 9) 128 (u.2.2.2.1) ++ (cI_ dT (a_this 10) 7 (u.2.2.2.2.1) ++ (cJ_ dT a_p1 n_p1 (u.2.2.2.2.2))))))) t) A) [.ref (a_this 0), .ref a_p1, .int v2].toArray s 0 0 A) (F0 m 64 ls []) := by
    intro n_p1 g_this g_this_chosenBy g_this_paidBy g_this_toPay g_this_plan x2   n
    induction n with
    | zero => intro x7 x8 g_p1 H locs ls h; exact nomatch h
    | succ n ih =>
      intro x7 x8 g_p1 H locs ls h hP hD hS hl
      unfold f_X9_runOn_L64 at h
      refine lv_iload hx hb dX9_runOn_64 (lv_at hl 3 rfl) ?_
      refine lv_bipush (v := 7) hx hb dX9_runOn_66 (by decide) ?_
      refine lv_icmp_ge (tgt := 147) hx hb dX9_runOn_68 (by decide) (fun c11 => ?_) (fun c11 => ?_)
      · replace h := iteT c11 h
        refine lv_iload hx hb dX9_runOn_147 (lv_at hl 2 rfl) ?_
        exact rt_i hx hb hr hlk hK hS ((g_this, g_this_chosenBy, g_this_paidBy, g_this_toPay, g_this_plan, g_p1) : TM × (Nat → Int64) × (Nat → Int64) × (Nat → Int64) × (Nat → Int32) × (Nat → Int64)) (ret2 h) hP hD dX9_runOn_149
      · replace h := iteF c11 h
        refine lv_iload hx hb dX9_runOn_71 (lv_at hl 3 rfl) ?_
        refine lv_iconst (v := 1) hx hb dX9_runOn_73 (by decide) ?_
        refine lv_iadd hx hb dX9_runOn_74 ?_
        refine lv_istore (lv' := [(9, .int (x8 + (1 : Int32))), (1, .ref a_p1), (2, .int x2), (7, .int x7), (8, .int x8)]) hx hb dX9_runOn_75 hl (by decide) rfl (fun ls hl => ?_)
        refine L_f_X9_runOn_L77 n_p1 g_this g_this_chosenBy g_this_paidBy g_this_toPay g_this_plan x2 x8 _ ?_ FUEL x7 (x8 + (1 : Int32)) g_p1 _ _ _ h hP hD hS (lv_sub hl [1, 2, 3, 4, 0] rfl)
        · intro y20x7 y20g_p1 H locs ls h hP hD hS hl
          refine lv_iinc (v := (x8 + (1 : Int32))) (lv' := [(8, .int (x8 + (1 : Int32))), (1, .ref a_p1), (2, .int x2), (7, .int y20x7)]) hx hb dX9_runOn_141 hl (k := 3) rfl rfl (by decide) rfl (fun ls hl => ?_)
          refine lv_goto (tgt := 64) hx hb dX9_runOn_144 (by decide) ?_
          exact ih y20x7 (x8 + (1 : Int32)) y20g_p1 _ _ _ h hP hD hS (lv_sub hl [1, 2, 3, 0] rfl)
  unfold f_X9_runOn at h
  refine lv_aload_n hx hb dX9_runOn_0 rfl (lv_at hl 0 rfl) ?_
  refine lv_aload_n hx hb dX9_runOn_1 rfl (lv_at hl 1 rfl) ?_
  refine lv_iload_n hx hb dX9_runOn_2 rfl (lv_at hl 2 rfl) ?_
  refine lv_iconst (v := 1) hx hb dX9_runOn_3 (by decide) ?_
  obtain ⟨o1, e1, h⟩ := obind h
  have hPc := hP
  have hDc := hD
  have hFc := vfall hD hS hA
  refine cl_lA (va_runV (As := [.ref a_p1, .int v2, .int (1 : Int32)]) (rest := []) ⟨hx, hb, hml, hown, hts⟩ (c_X9_costOn l hlt D dT a_this a_p1 n_p1 g_this g_this_chosenBy g_this_paidBy g_this_toPay g_this_plan g_p1 v2 (1 : Int32) o1 e1 _) (cwV 3 hts (TB_V w_1273 w_1275 w_41 w_59 w_1276) rfl rfl rfl ⟨rfl, nd_X9_costOn⟩ ⟨Nat.le_of_ble_eq_true rfl, Nat.le_of_ble_eq_true rfl⟩) (cPre.V hPc hDc hK hE hS hFc (va_recv hK hP (ci := 8) (q0 := 0) rfl rfl)) rfl rfl hl.1 rfl (lv_room (Nat.le_of_ble_eq_true rfl)) dX9_runOn_4 ⟨Nat.zero_le _, Nat.zero_le _⟩) hS hFc (fun r1 u1 H locs hw hP hD hS => ?_)
  obtain ⟨rfl, rfl⟩ := hw
  have hP : va_P D vwCl (cM a_this o1.2.1 ++ (cJ_ dT (a_this 7) 128 o1.2.2.1 ++ (cJ_ dT (a_this 8) 128 o1.2.2.2.1 ++ (cJ_ dT (a_this 9) 128 o1.2.2.2.2.1 ++ (cI_ dT (a_this 10) 7 o1.2.2.2.2.2 ++ (cJ_ dT a_p1 n_p1 g_p1)))))) H := hP
  have hD : va_D A (cM a_this o1.2.1 ++ (cJ_ dT (a_this 7) 128 o1.2.2.1 ++ (cJ_ dT (a_this 8) 128 o1.2.2.2.1 ++ (cJ_ dT (a_this 9) 128 o1.2.2.2.2.1 ++ (cI_ dT (a_this 10) 7 o1.2.2.2.2.2 ++ (cJ_ dT a_p1 n_p1 g_p1)))))) := hD
  refine lv_lstore_n (lv' := [(3, .long o1.1), (0, .ref (a_this 0)), (1, .ref a_p1), (2, .int v2)]) hx hb dX9_runOn_7 rfl hl (by decide) rfl (fun ls hl => ?_)
  refine lv_aload_n hx hb dX9_runOn_8 rfl (lv_at hl 1 rfl) ?_
  refine lv_aload_n hx hb dX9_runOn_9 rfl (lv_at hl 2 rfl) ?_
  refine lv_iload_n hx hb dX9_runOn_10 rfl (lv_at hl 3 rfl) ?_
  refine lv_iconst (v := 2) hx hb dX9_runOn_11 (by decide) ?_
  obtain ⟨o2, e2, h⟩ := obind h
  have hPc := hP
  have hDc := hD
  have hFc := vfall hD hS hA
  refine cl_lA (va_runV (As := [.ref a_p1, .int v2, .int (2 : Int32)]) (rest := []) ⟨hx, hb, hml, hown, hts⟩ (c_X9_costOn l hlt D dT a_this a_p1 n_p1 o1.2.1 o1.2.2.1 o1.2.2.2.1 o1.2.2.2.2.1 o1.2.2.2.2.2 g_p1 v2 (2 : Int32) o2 e2 _) (cwV 3 hts (TB_V w_1273 w_1275 w_41 w_59 w_1276) rfl rfl rfl ⟨rfl, nd_X9_costOn⟩ ⟨Nat.le_of_ble_eq_true rfl, Nat.le_of_ble_eq_true rfl⟩) (cPre.V hPc hDc hK hE hS hFc (va_recv hK hP (ci := 8) (q0 := 0) rfl rfl)) rfl rfl hl.1 rfl (lv_room (Nat.le_of_ble_eq_true rfl)) dX9_runOn_12 ⟨Nat.zero_le _, Nat.zero_le _⟩) hS hFc (fun r2 u2 H locs hw hP hD hS => ?_)
  obtain ⟨rfl, rfl⟩ := hw
  have hP : va_P D vwCl (cM a_this o2.2.1 ++ (cJ_ dT (a_this 7) 128 o2.2.2.1 ++ (cJ_ dT (a_this 8) 128 o2.2.2.2.1 ++ (cJ_ dT (a_this 9) 128 o2.2.2.2.2.1 ++ (cI_ dT (a_this 10) 7 o2.2.2.2.2.2 ++ (cJ_ dT a_p1 n_p1 g_p1)))))) H := hP
  have hD : va_D A (cM a_this o2.2.1 ++ (cJ_ dT (a_this 7) 128 o2.2.2.1 ++ (cJ_ dT (a_this 8) 128 o2.2.2.2.1 ++ (cJ_ dT (a_this 9) 128 o2.2.2.2.2.1 ++ (cI_ dT (a_this 10) 7 o2.2.2.2.2.2 ++ (cJ_ dT a_p1 n_p1 g_p1)))))) := hD
  refine lv_lstore (lv' := [(5, .long o2.1), (3, .long o1.1), (0, .ref (a_this 0)), (1, .ref a_p1), (2, .int v2)]) hx hb dX9_runOn_15 hl (by decide) rfl (fun ls hl => ?_)
  refine lv_aload_n hx hb dX9_runOn_17 rfl (lv_at hl 3 rfl) ?_
  refine lv_sipush (v := 308) hx hb dX9_runOn_18 (by decide) ?_
  refine lv_dup2_11 hx hb dX9_runOn_21 rfl rfl ?_
  obtain ⟨g3, h⟩ := chk h
  refine va_lald hx hb hK hP 5 1 rfl rfl (inb_in g3) dX9_runOn_22 ?_
  refine lv_lload_n hx hb dX9_runOn_23 rfl (lv_at hl 1 rfl) ?_
  refine lv_ladd hx hb dX9_runOn_24 ?_
  obtain ⟨g4, h⟩ := chk h
  refine va_last hx hb hK hP hD hS 5 1 rfl rfl (inb_in g4) dX9_runOn_25 (fun H locs hP hD hS => ?_)
  have hP : va_P D vwCl (cM a_this o2.2.1 ++ (cJ_ dT (a_this 7) 128 o2.2.2.1 ++ (cJ_ dT (a_this 8) 128 o2.2.2.2.1 ++ (cJ_ dT (a_this 9) 128 o2.2.2.2.2.1 ++ (cI_ dT (a_this 10) 7 o2.2.2.2.2.2 ++ (cJ_ dT a_p1 n_p1 (vp_updL g_p1 (308 : Int32).toNatClampNeg ((g_p1 (308 : Int32).toNatClampNeg) + o1.1)))))))) H := hP
  have hD : va_D A (cM a_this o2.2.1 ++ (cJ_ dT (a_this 7) 128 o2.2.2.1 ++ (cJ_ dT (a_this 8) 128 o2.2.2.2.1 ++ (cJ_ dT (a_this 9) 128 o2.2.2.2.2.1 ++ (cI_ dT (a_this 10) 7 o2.2.2.2.2.2 ++ (cJ_ dT a_p1 n_p1 (vp_updL g_p1 (308 : Int32).toNatClampNeg ((g_p1 (308 : Int32).toNatClampNeg) + o1.1)))))))) := hD
  refine lv_aload_n hx hb dX9_runOn_26 rfl (lv_at hl 3 rfl) ?_
  refine lv_sipush (v := 309) hx hb dX9_runOn_27 (by decide) ?_
  refine lv_dup2_11 hx hb dX9_runOn_30 rfl rfl ?_
  obtain ⟨g5, h⟩ := chk h
  refine va_lald hx hb hK hP 5 1 rfl rfl (inb_in g5) dX9_runOn_31 ?_
  refine lv_lload hx hb dX9_runOn_32 (lv_at hl 0 rfl) ?_
  refine lv_ladd hx hb dX9_runOn_34 ?_
  obtain ⟨g6, h⟩ := chk h
  refine va_last hx hb hK hP hD hS 5 1 rfl rfl (inb_in g6) dX9_runOn_35 (fun H locs hP hD hS => ?_)
  have hP : va_P D vwCl (cM a_this o2.2.1 ++ (cJ_ dT (a_this 7) 128 o2.2.2.1 ++ (cJ_ dT (a_this 8) 128 o2.2.2.2.1 ++ (cJ_ dT (a_this 9) 128 o2.2.2.2.2.1 ++ (cI_ dT (a_this 10) 7 o2.2.2.2.2.2 ++ (cJ_ dT a_p1 n_p1 (vp_updL (vp_updL g_p1 (308 : Int32).toNatClampNeg ((g_p1 (308 : Int32).toNatClampNeg) + o1.1)) (309 : Int32).toNatClampNeg (((vp_updL g_p1 (308 : Int32).toNatClampNeg ((g_p1 (308 : Int32).toNatClampNeg) + o1.1)) (309 : Int32).toNatClampNeg) + o2.1)))))))) H := hP
  have hD : va_D A (cM a_this o2.2.1 ++ (cJ_ dT (a_this 7) 128 o2.2.2.1 ++ (cJ_ dT (a_this 8) 128 o2.2.2.2.1 ++ (cJ_ dT (a_this 9) 128 o2.2.2.2.2.1 ++ (cI_ dT (a_this 10) 7 o2.2.2.2.2.2 ++ (cJ_ dT a_p1 n_p1 (vp_updL (vp_updL g_p1 (308 : Int32).toNatClampNeg ((g_p1 (308 : Int32).toNatClampNeg) + o1.1)) (309 : Int32).toNatClampNeg (((vp_updL g_p1 (308 : Int32).toNatClampNeg ((g_p1 (308 : Int32).toNatClampNeg) + o1.1)) (309 : Int32).toNatClampNeg) + o2.1)))))))) := hD
  refine lv_aload_n hx hb dX9_runOn_36 rfl (lv_at hl 3 rfl) ?_
  refine lv_sipush (v := 310) hx hb dX9_runOn_37 (by decide) ?_
  refine lv_lload_n hx hb dX9_runOn_40 rfl (lv_at hl 1 rfl) ?_
  obtain ⟨g7, h⟩ := chk h
  refine va_last hx hb hK hP hD hS 5 1 rfl rfl (inb_in g7) dX9_runOn_41 (fun H locs hP hD hS => ?_)
  have hP : va_P D vwCl (cM a_this o2.2.1 ++ (cJ_ dT (a_this 7) 128 o2.2.2.1 ++ (cJ_ dT (a_this 8) 128 o2.2.2.2.1 ++ (cJ_ dT (a_this 9) 128 o2.2.2.2.2.1 ++ (cI_ dT (a_this 10) 7 o2.2.2.2.2.2 ++ (cJ_ dT a_p1 n_p1 (vp_updL (vp_updL (vp_updL g_p1 (308 : Int32).toNatClampNeg ((g_p1 (308 : Int32).toNatClampNeg) + o1.1)) (309 : Int32).toNatClampNeg (((vp_updL g_p1 (308 : Int32).toNatClampNeg ((g_p1 (308 : Int32).toNatClampNeg) + o1.1)) (309 : Int32).toNatClampNeg) + o2.1)) (310 : Int32).toNatClampNeg o1.1))))))) H := hP
  have hD : va_D A (cM a_this o2.2.1 ++ (cJ_ dT (a_this 7) 128 o2.2.2.1 ++ (cJ_ dT (a_this 8) 128 o2.2.2.2.1 ++ (cJ_ dT (a_this 9) 128 o2.2.2.2.2.1 ++ (cI_ dT (a_this 10) 7 o2.2.2.2.2.2 ++ (cJ_ dT a_p1 n_p1 (vp_updL (vp_updL (vp_updL g_p1 (308 : Int32).toNatClampNeg ((g_p1 (308 : Int32).toNatClampNeg) + o1.1)) (309 : Int32).toNatClampNeg (((vp_updL g_p1 (308 : Int32).toNatClampNeg ((g_p1 (308 : Int32).toNatClampNeg) + o1.1)) (309 : Int32).toNatClampNeg) + o2.1)) (310 : Int32).toNatClampNeg o1.1))))))) := hD
  refine lv_aload_n hx hb dX9_runOn_42 rfl (lv_at hl 3 rfl) ?_
  refine lv_sipush (v := 311) hx hb dX9_runOn_43 (by decide) ?_
  refine lv_lload hx hb dX9_runOn_46 (lv_at hl 0 rfl) ?_
  obtain ⟨g8, h⟩ := chk h
  refine va_last hx hb hK hP hD hS 5 1 rfl rfl (inb_in g8) dX9_runOn_48 (fun H locs hP hD hS => ?_)
  have hP : va_P D vwCl (cM a_this o2.2.1 ++ (cJ_ dT (a_this 7) 128 o2.2.2.1 ++ (cJ_ dT (a_this 8) 128 o2.2.2.2.1 ++ (cJ_ dT (a_this 9) 128 o2.2.2.2.2.1 ++ (cI_ dT (a_this 10) 7 o2.2.2.2.2.2 ++ (cJ_ dT a_p1 n_p1 (vp_updL (vp_updL (vp_updL (vp_updL g_p1 (308 : Int32).toNatClampNeg ((g_p1 (308 : Int32).toNatClampNeg) + o1.1)) (309 : Int32).toNatClampNeg (((vp_updL g_p1 (308 : Int32).toNatClampNeg ((g_p1 (308 : Int32).toNatClampNeg) + o1.1)) (309 : Int32).toNatClampNeg) + o2.1)) (310 : Int32).toNatClampNeg o1.1) (311 : Int32).toNatClampNeg o2.1))))))) H := hP
  have hD : va_D A (cM a_this o2.2.1 ++ (cJ_ dT (a_this 7) 128 o2.2.2.1 ++ (cJ_ dT (a_this 8) 128 o2.2.2.2.1 ++ (cJ_ dT (a_this 9) 128 o2.2.2.2.2.1 ++ (cI_ dT (a_this 10) 7 o2.2.2.2.2.2 ++ (cJ_ dT a_p1 n_p1 (vp_updL (vp_updL (vp_updL (vp_updL g_p1 (308 : Int32).toNatClampNeg ((g_p1 (308 : Int32).toNatClampNeg) + o1.1)) (309 : Int32).toNatClampNeg (((vp_updL g_p1 (308 : Int32).toNatClampNeg ((g_p1 (308 : Int32).toNatClampNeg) + o1.1)) (309 : Int32).toNatClampNeg) + o2.1)) (310 : Int32).toNatClampNeg o1.1) (311 : Int32).toNatClampNeg o2.1))))))) := hD
  refine lv_aload_n hx hb dX9_runOn_49 rfl (lv_at hl 3 rfl) ?_
  refine lv_sipush (v := 306) hx hb dX9_runOn_50 (by decide) ?_
  refine lv_dup2_11 hx hb dX9_runOn_53 rfl rfl ?_
  obtain ⟨g9, h⟩ := chk h
  refine va_lald hx hb hK hP 5 1 rfl rfl (inb_in g9) dX9_runOn_54 ?_
  refine lv_lconst (v := 1) hx hb dX9_runOn_55 (by decide) ?_
  refine lv_ladd hx hb dX9_runOn_56 ?_
  obtain ⟨g10, h⟩ := chk h
  refine va_last hx hb hK hP hD hS 5 1 rfl rfl (inb_in g10) dX9_runOn_57 (fun H locs hP hD hS => ?_)
  have hP : va_P D vwCl (cM a_this o2.2.1 ++ (cJ_ dT (a_this 7) 128 o2.2.2.1 ++ (cJ_ dT (a_this 8) 128 o2.2.2.2.1 ++ (cJ_ dT (a_this 9) 128 o2.2.2.2.2.1 ++ (cI_ dT (a_this 10) 7 o2.2.2.2.2.2 ++ (cJ_ dT a_p1 n_p1 (vp_updL (vp_updL (vp_updL (vp_updL (vp_updL g_p1 (308 : Int32).toNatClampNeg ((g_p1 (308 : Int32).toNatClampNeg) + o1.1)) (309 : Int32).toNatClampNeg (((vp_updL g_p1 (308 : Int32).toNatClampNeg ((g_p1 (308 : Int32).toNatClampNeg) + o1.1)) (309 : Int32).toNatClampNeg) + o2.1)) (310 : Int32).toNatClampNeg o1.1) (311 : Int32).toNatClampNeg o2.1) (306 : Int32).toNatClampNeg (((vp_updL (vp_updL (vp_updL (vp_updL g_p1 (308 : Int32).toNatClampNeg ((g_p1 (308 : Int32).toNatClampNeg) + o1.1)) (309 : Int32).toNatClampNeg (((vp_updL g_p1 (308 : Int32).toNatClampNeg ((g_p1 (308 : Int32).toNatClampNeg) + o1.1)) (309 : Int32).toNatClampNeg) + o2.1)) (310 : Int32).toNatClampNeg o1.1) (311 : Int32).toNatClampNeg o2.1) (306 : Int32).toNatClampNeg) + (1 : Int64))))))))) H := hP
  have hD : va_D A (cM a_this o2.2.1 ++ (cJ_ dT (a_this 7) 128 o2.2.2.1 ++ (cJ_ dT (a_this 8) 128 o2.2.2.2.1 ++ (cJ_ dT (a_this 9) 128 o2.2.2.2.2.1 ++ (cI_ dT (a_this 10) 7 o2.2.2.2.2.2 ++ (cJ_ dT a_p1 n_p1 (vp_updL (vp_updL (vp_updL (vp_updL (vp_updL g_p1 (308 : Int32).toNatClampNeg ((g_p1 (308 : Int32).toNatClampNeg) + o1.1)) (309 : Int32).toNatClampNeg (((vp_updL g_p1 (308 : Int32).toNatClampNeg ((g_p1 (308 : Int32).toNatClampNeg) + o1.1)) (309 : Int32).toNatClampNeg) + o2.1)) (310 : Int32).toNatClampNeg o1.1) (311 : Int32).toNatClampNeg o2.1) (306 : Int32).toNatClampNeg (((vp_updL (vp_updL (vp_updL (vp_updL g_p1 (308 : Int32).toNatClampNeg ((g_p1 (308 : Int32).toNatClampNeg) + o1.1)) (309 : Int32).toNatClampNeg (((vp_updL g_p1 (308 : Int32).toNatClampNeg ((g_p1 (308 : Int32).toNatClampNeg) + o1.1)) (309 : Int32).toNatClampNeg) + o2.1)) (310 : Int32).toNatClampNeg o1.1) (311 : Int32).toNatClampNeg o2.1) (306 : Int32).toNatClampNeg) + (1 : Int64))))))))) := hD
  refine lv_iconst (v := 0) hx hb dX9_runOn_58 (by decide) ?_
  refine lv_istore (lv' := [(7, .int (0 : Int32)), (5, .long o2.1), (3, .long o1.1), (0, .ref (a_this 0)), (1, .ref a_p1), (2, .int v2)]) hx hb dX9_runOn_59 hl (by decide) rfl (fun ls hl => ?_)
  refine lv_iconst (v := 0) hx hb dX9_runOn_61 (by decide) ?_
  refine lv_istore (lv' := [(8, .int (0 : Int32)), (7, .int (0 : Int32)), (5, .long o2.1), (3, .long o1.1), (0, .ref (a_this 0)), (1, .ref a_p1), (2, .int v2)]) hx hb dX9_runOn_62 hl (by decide) rfl (fun ls hl => ?_)
  refine L_f_X9_runOn_L64 n_p1 o2.2.1 o2.2.2.1 o2.2.2.2.1 o2.2.2.2.2.1 o2.2.2.2.2.2 v2   FUEL (0 : Int32) (0 : Int32) (vp_updL (vp_updL (vp_updL (vp_updL (vp_updL g_p1 (308 : Int32).toNatClampNeg ((g_p1 (308 : Int32).toNatClampNeg) + o1.1)) (309 : Int32).toNatClampNeg (((vp_updL g_p1 (308 : Int32).toNatClampNeg ((g_p1 (308 : Int32).toNatClampNeg) + o1.1)) (309 : Int32).toNatClampNeg) + o2.1)) (310 : Int32).toNatClampNeg o1.1) (311 : Int32).toNatClampNeg o2.1) (306 : Int32).toNatClampNeg (((vp_updL (vp_updL (vp_updL (vp_updL g_p1 (308 : Int32).toNatClampNeg ((g_p1 (308 : Int32).toNatClampNeg) + o1.1)) (309 : Int32).toNatClampNeg (((vp_updL g_p1 (308 : Int32).toNatClampNeg ((g_p1 (308 : Int32).toNatClampNeg) + o1.1)) (309 : Int32).toNatClampNeg) + o2.1)) (310 : Int32).toNatClampNeg o1.1) (311 : Int32).toNatClampNeg o2.1) (306 : Int32).toNatClampNeg) + (1 : Int64))) _ _ _ h hP hD hS (lv_sub hl [5, 6, 1, 0] rfl)

def f_X9_whyNotRun (n_p1 : Nat) (g_p1 : Nat → Int64) (v1 : Int32) : Option (Int32 × (Unit)) :=
  ((f_X9_isSet n_p1 g_p1 v1).bind fun o1 => (if o1.1 = (0 : Int32) then (some ((1 : Int32), ())) else (if v1 = (0 : Int32) then (some ((2 : Int32), ())) else (some ((0 : Int32), ())))))
set_option maxHeartbeats 8000000 in
set_option maxRecDepth 100000 in
theorem c_X9_whyNotRun (l : Launch) (hlt : l.stackTraces = false) (D : va_G) (dT : Nat → ClassId) (a_p1 : Nat) (n_p1 : Nat) (g_p1 : Nat → Int64) (v1 : Int32) (o : (Int32 × (Unit))) (h : f_X9_whyNotRun n_p1 g_p1 v1 = some o) (sz : Nat) : Met l yX9_whyNotRun (WSm yX9_whyNotRun cX9_whyNotRun 2 (some .int)) { frames := 2, cells := 0, slots := 0, locals := 46 } (va_Pc [.ref a_p1, .int v1] (cPre D dT (cJ_ dT a_p1 n_p1 g_p1) sz)) (va_Qi (fun (r : Int32) (u : Unit) => r = o.1 ∧ u = o.2) (fun u t => cAt D dT (va_A (cJ_ dT a_p1 n_p1 g_p1) sz) (cJ_ dT a_p1 n_p1 g_p1) t) (va_A (cJ_ dT a_p1 n_p1 g_p1) sz)) 0 0 (va_A (cJ_ dT a_p1 n_p1 g_p1) sz) := by
  refine mStart (WS := (cJ_ dT a_p1 n_p1 g_p1)) (Qc := fun A => va_Qi (fun (r : Int32) (u : Unit) => r = o.1 ∧ u = o.2) (fun u t => cAt D dT A (cJ_ dT a_p1 n_p1 g_p1) t) A) RX9 rfl (by decide) (Nat.le_of_ble_eq_true rfl) ?_ sz
  intro p e s m below meth c A ls hx hb hml hr hlk hnm hts hqs hown hE hA hK hP hD hS hl
  have hl : lv_has ls 2 [(0, .ref a_p1), (1, .int v1)] := hl
  unfold f_X9_whyNotRun at h
  refine lv_aload_n hx hb dX9_whyNotRun_0 rfl (lv_at hl 0 rfl) ?_
  refine lv_iload_n hx hb dX9_whyNotRun_1 rfl (lv_at hl 1 rfl) ?_
  obtain ⟨o1, e1, h⟩ := obind h
  have hPc := hP
  have hDc := hD
  have hFc := vfall hD hS hA
  refine cl_iA (va_runS (As := [.ref a_p1, .int v1]) (rest := []) ⟨hx, hb, hml, hown, hts⟩ (c_X9_isSet l hlt D dT a_p1 n_p1 g_p1 v1 o1 e1 _) (va_cwS 2 hts (TB_S w_1266 w_1267 w_59 w_1268) rfl rfl rfl nd_X9_isSet ⟨Nat.le_of_ble_eq_true rfl, Nat.le_of_ble_eq_true rfl⟩) (cPre.S hPc hDc hK hE hS hFc) rfl rfl hl.1 rfl (lv_room (Nat.le_of_ble_eq_true rfl)) dX9_whyNotRun_2 ⟨Nat.zero_le _, Nat.zero_le _⟩) hS hFc (fun r1 u1 H locs hw hP hD hS => ?_)
  obtain ⟨rfl, rfl⟩ := hw
  have hP : va_P D vwCl (cJ_ dT a_p1 n_p1 g_p1) H := hP
  have hD : va_D A (cJ_ dT a_p1 n_p1 g_p1) := hD
  refine lv_if_ne (tgt := 12) hx hb dX9_whyNotRun_5 (by decide) (fun c2 => ?_) (fun c2 => ?_)
  · replace h := iteF c2 h
    refine lv_iload_n hx hb dX9_whyNotRun_12 rfl (lv_at hl 1 rfl) ?_
    refine lv_if_ne (tgt := 20) hx hb dX9_whyNotRun_13 (by decide) (fun c3 => ?_) (fun c3 => ?_)
    · replace h := iteF c3 h
      refine lv_iconst (v := 0) hx hb dX9_whyNotRun_20 (by decide) ?_
      exact rt_i hx hb hr hlk hK hS (() : Unit) (ret2 h) hP hD dX9_whyNotRun_21
    · replace h := iteT c3 h
      refine lv_iconst (v := 2) hx hb dX9_whyNotRun_16 (by decide) ?_
      refine lv_goto (tgt := 21) hx hb dX9_whyNotRun_17 (by decide) ?_
      exact rt_i hx hb hr hlk hK hS (() : Unit) (ret2 h) hP hD dX9_whyNotRun_21
  · replace h := iteT c2 h
    refine lv_iconst (v := 1) hx hb dX9_whyNotRun_8 (by decide) ?_
    refine lv_goto (tgt := 21) hx hb dX9_whyNotRun_9 (by decide) ?_
    exact rt_i hx hb hr hlk hK hS (() : Unit) (ret2 h) hP hD dX9_whyNotRun_21

def f_X9_run (g_this : TM) (g_this_now : Nat → Int64) (g_this_diary : Nat → Int64) (g_this_chosenBy : Nat → Int64) (g_this_paidBy : Nat → Int64) (g_this_toPay : Nat → Int64) (g_this_plan : Nat → Int32) (v1 : Int32) : Option (Int32 × (TM × (Nat → Int64) × (Nat → Int64) × (Nat → Int64) × (Nat → Int64) × (Nat → Int64) × (Nat → Int32))) :=
  ((f_X9_whyNotRun 353 g_this_now v1).bind fun o1 => ((f_X9_refused g_this o1.1).bind fun o2 => (if o2.1 = (0 : Int32) then ((f_X9_remember o2.2 g_this_now g_this_diary).bind fun o4 => ((f_X9_runOn 353 o4.2.1 g_this_chosenBy g_this_paidBy g_this_toPay g_this_plan g_this_now v1).bind fun o5 => (some (o5.1, (o5.2.1, o5.2.2.2.2.2.2, o4.2.2, o5.2.2.1, o5.2.2.2.1, o5.2.2.2.2.1, o5.2.2.2.2.2.1))))) else (some ((0 : Int32), (o2.2, g_this_now, g_this_diary, g_this_chosenBy, g_this_paidBy, g_this_toPay, g_this_plan))))))
set_option maxHeartbeats 8000000 in
set_option maxRecDepth 100000 in
theorem c_X9_run (l : Launch) (hlt : l.stackTraces = false) (D : va_G) (dT : Nat → ClassId) (a_this : Nat → Nat) (g_this : TM) (g_this_now : Nat → Int64) (g_this_diary : Nat → Int64) (g_this_chosenBy : Nat → Int64) (g_this_paidBy : Nat → Int64) (g_this_toPay : Nat → Int64) (g_this_plan : Nat → Int32) (v1 : Int32) (o : (Int32 × (TM × (Nat → Int64) × (Nat → Int64) × (Nat → Int64) × (Nat → Int64) × (Nat → Int64) × (Nat → Int32)))) (h : f_X9_run g_this g_this_now g_this_diary g_this_chosenBy g_this_paidBy g_this_toPay g_this_plan v1 = some o) (sz : Nat) : Met l yX9_run (WSm yX9_run cX9_run 2 (some .int)) { frames := 7, cells := 0, slots := 0, locals := 177 } (va_Pc [.ref (a_this 0), .int v1] (cPre D dT (cM a_this g_this ++ (cJ_ dT (a_this 2) 353 g_this_now ++ (cJ_ dT (a_this 4) 4942 g_this_diary ++ (cJ_ dT (a_this 7) 128 g_this_chosenBy ++ (cJ_ dT (a_this 8) 128 g_this_paidBy ++ (cJ_ dT (a_this 9) 128 g_this_toPay ++ (cI_ dT (a_this 10) 7 g_this_plan))))))) sz)) (va_Qi (fun (r : Int32) (u : TM × (Nat → Int64) × (Nat → Int64) × (Nat → Int64) × (Nat → Int64) × (Nat → Int64) × (Nat → Int32)) => r = o.1 ∧ u = o.2) (fun u t => cAt D dT (va_A (cM a_this g_this ++ (cJ_ dT (a_this 2) 353 g_this_now ++ (cJ_ dT (a_this 4) 4942 g_this_diary ++ (cJ_ dT (a_this 7) 128 g_this_chosenBy ++ (cJ_ dT (a_this 8) 128 g_this_paidBy ++ (cJ_ dT (a_this 9) 128 g_this_toPay ++ (cI_ dT (a_this 10) 7 g_this_plan))))))) sz) (cM a_this (u.1) ++ (cJ_ dT (a_this 2) 353 (u.2.1) ++ (cJ_ dT (a_this 4) 4942 (u.2.2.1) ++ (cJ_ dT (a_this 7) 128 (u.2.2.2.1) ++ (cJ_ dT (a_this 8) 128 (u.2.2.2.2.1) ++ (cJ_ dT (a_this 9) 128 (u.2.2.2.2.2.1) ++ (cI_ dT (a_this 10) 7 (u.2.2.2.2.2.2)))))))) t) (va_A (cM a_this g_this ++ (cJ_ dT (a_this 2) 353 g_this_now ++ (cJ_ dT (a_this 4) 4942 g_this_diary ++ (cJ_ dT (a_this 7) 128 g_this_chosenBy ++ (cJ_ dT (a_this 8) 128 g_this_paidBy ++ (cJ_ dT (a_this 9) 128 g_this_toPay ++ (cI_ dT (a_this 10) 7 g_this_plan))))))) sz)) 0 0 (va_A (cM a_this g_this ++ (cJ_ dT (a_this 2) 353 g_this_now ++ (cJ_ dT (a_this 4) 4942 g_this_diary ++ (cJ_ dT (a_this 7) 128 g_this_chosenBy ++ (cJ_ dT (a_this 8) 128 g_this_paidBy ++ (cJ_ dT (a_this 9) 128 g_this_toPay ++ (cI_ dT (a_this 10) 7 g_this_plan))))))) sz) := by
  refine mStart (WS := (cM a_this g_this ++ (cJ_ dT (a_this 2) 353 g_this_now ++ (cJ_ dT (a_this 4) 4942 g_this_diary ++ (cJ_ dT (a_this 7) 128 g_this_chosenBy ++ (cJ_ dT (a_this 8) 128 g_this_paidBy ++ (cJ_ dT (a_this 9) 128 g_this_toPay ++ (cI_ dT (a_this 10) 7 g_this_plan)))))))) (Qc := fun A => va_Qi (fun (r : Int32) (u : TM × (Nat → Int64) × (Nat → Int64) × (Nat → Int64) × (Nat → Int64) × (Nat → Int64) × (Nat → Int32)) => r = o.1 ∧ u = o.2) (fun u t => cAt D dT A (cM a_this (u.1) ++ (cJ_ dT (a_this 2) 353 (u.2.1) ++ (cJ_ dT (a_this 4) 4942 (u.2.2.1) ++ (cJ_ dT (a_this 7) 128 (u.2.2.2.1) ++ (cJ_ dT (a_this 8) 128 (u.2.2.2.2.1) ++ (cJ_ dT (a_this 9) 128 (u.2.2.2.2.2.1) ++ (cI_ dT (a_this 10) 7 (u.2.2.2.2.2.2)))))))) t) A) RX9 rfl (by decide) (Nat.le_of_ble_eq_true rfl) ?_ sz
  intro p e s m below meth c A ls hx hb hml hr hlk hnm hts hqs hown hE hA hK hP hD hS hl
  have hl : lv_has ls 2 [(0, .ref (a_this 0)), (1, .int v1)] := hl
  unfold f_X9_run at h
  refine lv_aload_n hx hb dX9_run_0 rfl (lv_at hl 0 rfl) ?_
  refine lv_aload_n hx hb dX9_run_1 rfl (lv_at hl 0 rfl) ?_
  refine gf_X9_13 (v := .ref (a_this 2)) hx hb hqs hown hK hP 0 rfl rfl dX9_run_2 ?_
  refine lv_iload_n hx hb dX9_run_5 rfl (lv_at hl 1 rfl) ?_
  obtain ⟨o1, e1, h⟩ := obind h
  have hPc := hP.sub (ws' := (cJ_ dT (a_this 2) 353 g_this_now)) [1] rfl
  have hDc := hD.sub (ws' := (cJ_ dT (a_this 2) 353 g_this_now)) [1] (by decide) rfl
  have hFc := va_free (wc := (cJ_ dT (a_this 2) 353 g_this_now)) hD hS hA [1] rfl
  refine cl_i (wr := (cM a_this g_this ++ (cJ_ dT (a_this 4) 4942 g_this_diary ++ (cJ_ dT (a_this 7) 128 g_this_chosenBy ++ (cJ_ dT (a_this 8) 128 g_this_paidBy ++ (cJ_ dT (a_this 9) 128 g_this_toPay ++ (cI_ dT (a_this 10) 7 g_this_plan))))))) (va_runS (As := [.ref (a_this 2), .int v1]) (rest := [.ref (a_this 0)]) ⟨hx, hb, hml, hown, hts⟩ (c_X9_whyNotRun l hlt D dT (a_this 2) 353 g_this_now v1 o1 e1 _) (va_cwS 2 hts (TB_S w_1263 w_1264 w_59 w_1265) rfl rfl rfl nd_X9_whyNotRun ⟨Nat.le_of_ble_eq_true rfl, Nat.le_of_ble_eq_true rfl⟩) (cPre.S hPc hDc hK hE hS hFc) rfl rfl hl.1 rfl (lv_room (Nat.le_of_ble_eq_true rfl)) dX9_run_6 ⟨Nat.zero_le _, Nat.zero_le _⟩) hP hD hS hFc [1] [0, 2, 3, 4, 5, 6] rfl rfl (by decide) (by decide) (fun r1 u1 H locs hw hP hD hS => ?_)
  obtain ⟨rfl, rfl⟩ := hw
  have hP : va_P D vwCl (cM a_this g_this ++ (cJ_ dT (a_this 4) 4942 g_this_diary ++ (cJ_ dT (a_this 7) 128 g_this_chosenBy ++ (cJ_ dT (a_this 8) 128 g_this_paidBy ++ (cJ_ dT (a_this 9) 128 g_this_toPay ++ (cI_ dT (a_this 10) 7 g_this_plan ++ (cJ_ dT (a_this 2) 353 g_this_now))))))) H := hP
  have hD : va_D A (cM a_this g_this ++ (cJ_ dT (a_this 4) 4942 g_this_diary ++ (cJ_ dT (a_this 7) 128 g_this_chosenBy ++ (cJ_ dT (a_this 8) 128 g_this_paidBy ++ (cJ_ dT (a_this 9) 128 g_this_toPay ++ (cI_ dT (a_this 10) 7 g_this_plan ++ (cJ_ dT (a_this 2) 353 g_this_now))))))) := hD
  obtain ⟨o2, e2, h⟩ := obind h
  have hPc := hP.sub (ws' := (cM a_this g_this)) [0] rfl
  have hDc := hD.sub (ws' := (cM a_this g_this)) [0] (by decide) rfl
  have hFc := va_free (wc := (cM a_this g_this)) hD hS hA [0] rfl
  refine cl_i (wr := (cJ_ dT (a_this 4) 4942 g_this_diary ++ (cJ_ dT (a_this 7) 128 g_this_chosenBy ++ (cJ_ dT (a_this 8) 128 g_this_paidBy ++ (cJ_ dT (a_this 9) 128 g_this_toPay ++ (cI_ dT (a_this 10) 7 g_this_plan ++ (cJ_ dT (a_this 2) 353 g_this_now))))))) (va_runV (As := [.int o1.1]) (rest := []) ⟨hx, hb, hml, hown, hts⟩ (c_X9_refused l hlt D dT a_this g_this o1.1 o2 e2 _) (cwV 1 hts (TB_V w_1132 w_1134 w_32 w_59 w_1135) rfl rfl rfl ⟨rfl, nd_X9_refused⟩ ⟨Nat.le_of_ble_eq_true rfl, Nat.le_of_ble_eq_true rfl⟩) (cPre.V hPc hDc hK hE hS hFc (va_recv hK hP (ci := 8) (q0 := 0) rfl rfl)) rfl rfl hl.1 rfl (lv_room (Nat.le_of_ble_eq_true rfl)) dX9_run_9 ⟨Nat.zero_le _, Nat.zero_le _⟩) hP hD hS hFc [0] [1, 2, 3, 4, 5, 6] rfl rfl (by decide) (by decide) (fun r2 u2 H locs hw hP hD hS => ?_)
  obtain ⟨rfl, rfl⟩ := hw
  have hP : va_P D vwCl (cJ_ dT (a_this 4) 4942 g_this_diary ++ (cJ_ dT (a_this 7) 128 g_this_chosenBy ++ (cJ_ dT (a_this 8) 128 g_this_paidBy ++ (cJ_ dT (a_this 9) 128 g_this_toPay ++ (cI_ dT (a_this 10) 7 g_this_plan ++ (cJ_ dT (a_this 2) 353 g_this_now ++ (cM a_this o2.2))))))) H := hP
  have hD : va_D A (cJ_ dT (a_this 4) 4942 g_this_diary ++ (cJ_ dT (a_this 7) 128 g_this_chosenBy ++ (cJ_ dT (a_this 8) 128 g_this_paidBy ++ (cJ_ dT (a_this 9) 128 g_this_toPay ++ (cI_ dT (a_this 10) 7 g_this_plan ++ (cJ_ dT (a_this 2) 353 g_this_now ++ (cM a_this o2.2))))))) := hD
  refine lv_if_eq (tgt := 17) hx hb dX9_run_12 (by decide) (fun c3 => ?_) (fun c3 => ?_)
  · replace h := iteT c3 h
    refine lv_aload_n hx hb dX9_run_17 rfl (lv_at hl 0 rfl) ?_
    obtain ⟨o4, e4, h⟩ := obind h
    have hPc := hP.sub (ws' := (cM a_this o2.2 ++ (cJ_ dT (a_this 2) 353 g_this_now ++ (cJ_ dT (a_this 4) 4942 g_this_diary)))) [6, 5, 0] rfl
    have hDc := hD.sub (ws' := (cM a_this o2.2 ++ (cJ_ dT (a_this 2) 353 g_this_now ++ (cJ_ dT (a_this 4) 4942 g_this_diary)))) [6, 5, 0] (by decide) rfl
    have hFc := va_free (wc := (cM a_this o2.2 ++ (cJ_ dT (a_this 2) 353 g_this_now ++ (cJ_ dT (a_this 4) 4942 g_this_diary)))) hD hS hA [6, 5, 0] rfl
    refine cl_v (wr := (cJ_ dT (a_this 7) 128 g_this_chosenBy ++ (cJ_ dT (a_this 8) 128 g_this_paidBy ++ (cJ_ dT (a_this 9) 128 g_this_toPay ++ (cI_ dT (a_this 10) 7 g_this_plan))))) (va_runV (As := []) (rest := []) ⟨hx, hb, hml, hown, hts⟩ (c_X9_remember l hlt D dT a_this o2.2 g_this_now g_this_diary o4 e4 _) (cwV 0 hts (TB_V w_1233 w_1235 w_39 w_59 w_1236) rfl rfl rfl ⟨rfl, nd_X9_remember⟩ ⟨Nat.le_of_ble_eq_true rfl, Nat.le_of_ble_eq_true rfl⟩) (cPre.V hPc hDc hK hE hS hFc (va_recv hK hP (ci := 8) (q0 := 6) rfl rfl)) rfl rfl hl.1 rfl (lv_room (Nat.le_of_ble_eq_true rfl)) dX9_run_18 ⟨Nat.zero_le _, Nat.zero_le _⟩) hP hD hS hFc [6, 5, 0] [1, 2, 3, 4] rfl rfl (by decide) (by decide) (fun u4 H locs hw hP hD hS => ?_)
    subst hw
    have hP : va_P D vwCl (cJ_ dT (a_this 7) 128 g_this_chosenBy ++ (cJ_ dT (a_this 8) 128 g_this_paidBy ++ (cJ_ dT (a_this 9) 128 g_this_toPay ++ (cI_ dT (a_this 10) 7 g_this_plan ++ (cM a_this o4.2.1 ++ (cJ_ dT (a_this 2) 353 g_this_now ++ (cJ_ dT (a_this 4) 4942 o4.2.2))))))) H := hP
    have hD : va_D A (cJ_ dT (a_this 7) 128 g_this_chosenBy ++ (cJ_ dT (a_this 8) 128 g_this_paidBy ++ (cJ_ dT (a_this 9) 128 g_this_toPay ++ (cI_ dT (a_this 10) 7 g_this_plan ++ (cM a_this o4.2.1 ++ (cJ_ dT (a_this 2) 353 g_this_now ++ (cJ_ dT (a_this 4) 4942 o4.2.2))))))) := hD
    refine lv_aload_n hx hb dX9_run_21 rfl (lv_at hl 0 rfl) ?_
    refine lv_aload_n hx hb dX9_run_22 rfl (lv_at hl 0 rfl) ?_
    refine gf_X9_13 (v := .ref (a_this 2)) hx hb hqs hown hK hP 4 rfl rfl dX9_run_23 ?_
    refine lv_iload_n hx hb dX9_run_26 rfl (lv_at hl 1 rfl) ?_
    obtain ⟨o5, e5, h⟩ := obind h
    have hPc := hP.sub (ws' := (cM a_this o4.2.1 ++ (cJ_ dT (a_this 7) 128 g_this_chosenBy ++ (cJ_ dT (a_this 8) 128 g_this_paidBy ++ (cJ_ dT (a_this 9) 128 g_this_toPay ++ (cI_ dT (a_this 10) 7 g_this_plan ++ (cJ_ dT (a_this 2) 353 g_this_now))))))) [4, 0, 1, 2, 3, 5] rfl
    have hDc := hD.sub (ws' := (cM a_this o4.2.1 ++ (cJ_ dT (a_this 7) 128 g_this_chosenBy ++ (cJ_ dT (a_this 8) 128 g_this_paidBy ++ (cJ_ dT (a_this 9) 128 g_this_toPay ++ (cI_ dT (a_this 10) 7 g_this_plan ++ (cJ_ dT (a_this 2) 353 g_this_now))))))) [4, 0, 1, 2, 3, 5] (by decide) rfl
    have hFc := va_free (wc := (cM a_this o4.2.1 ++ (cJ_ dT (a_this 7) 128 g_this_chosenBy ++ (cJ_ dT (a_this 8) 128 g_this_paidBy ++ (cJ_ dT (a_this 9) 128 g_this_toPay ++ (cI_ dT (a_this 10) 7 g_this_plan ++ (cJ_ dT (a_this 2) 353 g_this_now))))))) hD hS hA [4, 0, 1, 2, 3, 5] rfl
    refine cl_i (wr := (cJ_ dT (a_this 4) 4942 o4.2.2)) (va_runV (As := [.ref (a_this 2), .int v1]) (rest := []) ⟨hx, hb, hml, hown, hts⟩ (c_X9_runOn l hlt D dT a_this (a_this 2) 353 o4.2.1 g_this_chosenBy g_this_paidBy g_this_toPay g_this_plan g_this_now v1 o5 e5 _) (cwV 2 hts (TB_V w_1269 w_1271 w_40 w_59 w_1272) rfl rfl rfl ⟨rfl, nd_X9_runOn⟩ ⟨Nat.le_of_ble_eq_true rfl, Nat.le_of_ble_eq_true rfl⟩) (cPre.V hPc hDc hK hE hS hFc (va_recv hK hP (ci := 8) (q0 := 4) rfl rfl)) rfl rfl hl.1 rfl (lv_room (Nat.le_of_ble_eq_true rfl)) dX9_run_27 ⟨Nat.zero_le _, Nat.zero_le _⟩) hP hD hS hFc [4, 0, 1, 2, 3, 5] [6] rfl rfl (by decide) (by decide) (fun r5 u5 H locs hw hP hD hS => ?_)
    obtain ⟨rfl, rfl⟩ := hw
    have hP : va_P D vwCl (cJ_ dT (a_this 4) 4942 o4.2.2 ++ (cM a_this o5.2.1 ++ (cJ_ dT (a_this 7) 128 o5.2.2.1 ++ (cJ_ dT (a_this 8) 128 o5.2.2.2.1 ++ (cJ_ dT (a_this 9) 128 o5.2.2.2.2.1 ++ (cI_ dT (a_this 10) 7 o5.2.2.2.2.2.1 ++ (cJ_ dT (a_this 2) 353 o5.2.2.2.2.2.2))))))) H := hP
    have hD : va_D A (cJ_ dT (a_this 4) 4942 o4.2.2 ++ (cM a_this o5.2.1 ++ (cJ_ dT (a_this 7) 128 o5.2.2.1 ++ (cJ_ dT (a_this 8) 128 o5.2.2.2.1 ++ (cJ_ dT (a_this 9) 128 o5.2.2.2.2.1 ++ (cI_ dT (a_this 10) 7 o5.2.2.2.2.2.1 ++ (cJ_ dT (a_this 2) 353 o5.2.2.2.2.2.2))))))) := hD
    have hP := hP.sub (ws' := (cM a_this o5.2.1 ++ (cJ_ dT (a_this 2) 353 o5.2.2.2.2.2.2 ++ (cJ_ dT (a_this 4) 4942 o4.2.2 ++ (cJ_ dT (a_this 7) 128 o5.2.2.1 ++ (cJ_ dT (a_this 8) 128 o5.2.2.2.1 ++ (cJ_ dT (a_this 9) 128 o5.2.2.2.2.1 ++ (cI_ dT (a_this 10) 7 o5.2.2.2.2.2.1)))))))) [1, 6, 0, 2, 3, 4, 5] rfl
    have hD := hD.sub (ws' := (cM a_this o5.2.1 ++ (cJ_ dT (a_this 2) 353 o5.2.2.2.2.2.2 ++ (cJ_ dT (a_this 4) 4942 o4.2.2 ++ (cJ_ dT (a_this 7) 128 o5.2.2.1 ++ (cJ_ dT (a_this 8) 128 o5.2.2.2.1 ++ (cJ_ dT (a_this 9) 128 o5.2.2.2.2.1 ++ (cI_ dT (a_this 10) 7 o5.2.2.2.2.2.1)))))))) [1, 6, 0, 2, 3, 4, 5] (by decide) rfl
    exact rt_i hx hb hr hlk hK hS ((o5.2.1, o5.2.2.2.2.2.2, o4.2.2, o5.2.2.1, o5.2.2.2.1, o5.2.2.2.2.1, o5.2.2.2.2.2.1) : TM × (Nat → Int64) × (Nat → Int64) × (Nat → Int64) × (Nat → Int64) × (Nat → Int64) × (Nat → Int32)) (ret2 h) hP hD dX9_run_30
  · replace h := iteF c3 h
    refine lv_iconst (v := 0) hx hb dX9_run_15 (by decide) ?_
    have hP := hP.sub (ws' := (cM a_this o2.2 ++ (cJ_ dT (a_this 2) 353 g_this_now ++ (cJ_ dT (a_this 4) 4942 g_this_diary ++ (cJ_ dT (a_this 7) 128 g_this_chosenBy ++ (cJ_ dT (a_this 8) 128 g_this_paidBy ++ (cJ_ dT (a_this 9) 128 g_this_toPay ++ (cI_ dT (a_this 10) 7 g_this_plan)))))))) [6, 5, 0, 1, 2, 3, 4] rfl
    have hD := hD.sub (ws' := (cM a_this o2.2 ++ (cJ_ dT (a_this 2) 353 g_this_now ++ (cJ_ dT (a_this 4) 4942 g_this_diary ++ (cJ_ dT (a_this 7) 128 g_this_chosenBy ++ (cJ_ dT (a_this 8) 128 g_this_paidBy ++ (cJ_ dT (a_this 9) 128 g_this_toPay ++ (cI_ dT (a_this 10) 7 g_this_plan)))))))) [6, 5, 0, 1, 2, 3, 4] (by decide) rfl
    exact rt_i hx hb hr hlk hK hS ((o2.2, g_this_now, g_this_diary, g_this_chosenBy, g_this_paidBy, g_this_toPay, g_this_plan) : TM × (Nat → Int64) × (Nat → Int64) × (Nat → Int64) × (Nat → Int64) × (Nat → Int64) × (Nat → Int32)) (ret2 h) hP hD dX9_run_16

