def f_X9_wrongWorld_L16 (n_p1 : Nat) (g_this_text : Nat → Int32) (k54 : TM → (Nat → Int64) → Option (Int32 × (TM × (Nat → Int64)))) : Nat → Int32 → TM → (Nat → Int64) → Option (Int32 × (TM × (Nat → Int64)))
  | 0, _, _, _ => none
  | n + 1, x2, g_this, g_p1 =>
    (if x2 = (0 : Int32) then (k54 g_this g_p1) else ((f_X9_readEntry n_p1 g_this g_this_text g_p1).bind fun o3 => (if o3.1 = (0 : Int32) then (some ((M_spot o3.2.1), (o3.2.1, o3.2.2))) else ((f_X9_taken o3.2.1 g_this_text (59 : Int32) (59 : Int32)).bind fun o5 => (if o5.1 = (-1 : Int32) then (f_X9_wrongWorld_L16 n_p1 g_this_text k54 n (0 : Int32) o5.2 o3.2.2) else (f_X9_wrongWorld_L16 n_p1 g_this_text k54 n (1 : Int32) o5.2 o3.2.2))))))
def f_X9_wrongWorld (n_p1 : Nat) (g_this : TM) (g_this_text : Nat → Int32) (g_p1 : Nat → Int64) : Option (Int32 × (TM × (Nat → Int64))) :=
  ((f_X9_begin n_p1 g_p1).bind fun o1 => (f_X9_wrongWorld_L16 n_p1 g_this_text (fun (y7g_this : TM) (y7g_p1 : Nat → Int64) => (if (M_size y7g_this) ≤ (M_spot y7g_this) then (some ((-1 : Int32), (y7g_this, y7g_p1))) else (some ((M_spot y7g_this), (y7g_this, y7g_p1))))) FUEL (1 : Int32) (M_mk (M_refusal g_this) (M_size g_this) (M_acts g_this) (M_planned g_this) (0 : Int32) (0 : Int32)) o1.2))
set_option maxHeartbeats 8000000 in
set_option maxRecDepth 100000 in
theorem c_X9_wrongWorld (l : Launch) (hlt : l.stackTraces = false) (D : va_G) (dT : Nat → ClassId) (a_this : Nat → Nat) (a_p1 : Nat) (n_p1 : Nat) (g_this : TM) (g_this_text : Nat → Int32) (g_p1 : Nat → Int64) (o : (Int32 × (TM × (Nat → Int64)))) (h : f_X9_wrongWorld n_p1 g_this g_this_text g_p1 = some o) (sz : Nat) : Met l yX9_wrongWorld (WSm yX9_wrongWorld cX9_wrongWorld 3 (some .int)) { frames := 4, cells := 0, slots := 0, locals := 95 } (va_Pc [.ref (a_this 0), .ref a_p1] (cPre D dT (cM a_this g_this ++ (cI_ dT (a_this 1) 100 g_this_text ++ (cJ_ dT a_p1 n_p1 g_p1))) sz)) (va_Qi (fun (r : Int32) (u : TM × (Nat → Int64)) => r = o.1 ∧ u = o.2) (fun u t => cAt D dT (va_A (cM a_this g_this ++ (cI_ dT (a_this 1) 100 g_this_text ++ (cJ_ dT a_p1 n_p1 g_p1))) sz) (cM a_this (u.1) ++ (cI_ dT (a_this 1) 100 g_this_text ++ (cJ_ dT a_p1 n_p1 (u.2)))) t) (va_A (cM a_this g_this ++ (cI_ dT (a_this 1) 100 g_this_text ++ (cJ_ dT a_p1 n_p1 g_p1))) sz)) 0 0 (va_A (cM a_this g_this ++ (cI_ dT (a_this 1) 100 g_this_text ++ (cJ_ dT a_p1 n_p1 g_p1))) sz) := by
  refine mStart (WS := (cM a_this g_this ++ (cI_ dT (a_this 1) 100 g_this_text ++ (cJ_ dT a_p1 n_p1 g_p1)))) (Qc := fun A => va_Qi (fun (r : Int32) (u : TM × (Nat → Int64)) => r = o.1 ∧ u = o.2) (fun u t => cAt D dT A (cM a_this (u.1) ++ (cI_ dT (a_this 1) 100 g_this_text ++ (cJ_ dT a_p1 n_p1 (u.2)))) t) A) RX9 rfl (by decide) (Nat.le_of_ble_eq_true rfl) ?_ sz
  intro p e s m below meth c A ls hx hb hml hr hlk hnm hts hqs hown hE hA hK hP hD hS hl
  have hl : lv_has ls 3 [(0, .ref (a_this 0)), (1, .ref a_p1)] := hl
  have L_f_X9_wrongWorld_L16 : ∀ (n_p1 : Nat) (g_this_text : Nat → Int32) (k54 : TM → (Nat → Int64) → Option (Int32 × (TM × (Nat → Int64)))) (hk54 : ∀ (g_this : TM) (g_p1 : Nat → Int64) (H : Heap) (locs : List Loc) (ls : Array Slot), k54 g_this g_p1 = some o → va_P D vwCl (cM a_this g_this ++ (cI_ dT (a_this 1) 100 g_this_text ++ (cJ_ dT a_p1 n_p1 g_p1))) H → va_D A (cM a_this g_this ++ (cI_ dT (a_this 1) 100 g_this_text ++ (cJ_ dT a_p1 n_p1 g_p1))) → va_S A s.heap H locs → lv_has ls 3 [(0, .ref (a_this 0))] → W p l e (headSpec (WSm yX9_wrongWorld cX9_wrongWorld 3 (some .int)) { frames := 4, cells := 0, slots := 0, locals := 95 }).room s m [.ref (a_this 0), .ref a_p1].toArray below meth c H locs 0 0 (MQ below (va_Qi (fun (r : Int32) (u : TM × (Nat → Int64)) => r = o.1 ∧ u = o.2) (fun u t => cAt D dT A (cM a_this (u.1) ++ (cI_ dT (a_this 1) 100 g_this_text ++ (cJ_ dT a_p1 n_p1 (u.2)))) t) A) [.ref (a_this 0), .ref a_p1].toArray s 0 0 A) (F0 m 54 ls [])) (n : Nat), ∀ (x2 : Int32) (g_this : TM) (g_p1 : Nat → Int64) (H : Heap) (locs : List Loc) (ls : Array Slot), f_X9_wrongWorld_L16 n_p1 g_this_text k54 n x2 g_this g_p1 = some o → va_P D vwCl (cM a_this g_this ++ (cI_ dT (a_this 1) 100 g_this_text ++ (cJ_ dT a_p1 n_p1 g_p1))) H → va_D A (cM a_this g_this ++ (cI_ dT (a_this 1) 100 g_this_text ++ (cJ_ dT a_p1 n_p1 g_p1))) → va_S A s.heap H locs → lv_has ls 3 [(0, .ref (a_this 0)), (1, .ref a_p1), (2, .int x2)] → W p l e (headSpec (WSm yX9_wrongWorld cX9_wrongWorld 3 (some .int)) { frames := 4, cells := 0, slots := 0, locals := 95 }).room s m [.ref (a_this 0), .ref a_p1].toArray below meth c H locs 0 0 (MQ below (va_Qi (fun (r : Int32) (u : TM × (Nat → Int64)) => r = o.1 ∧ u = o.2) (fun u t => cAt D dT A (cM a_this (u.1) ++ (cI_ dT (a_this 1) 100 g_this_text ++ (cJ_ dT a_p1 n_p1 (u.2)))) t) A) [.ref (a_this 0), .ref a_p1].toArray s 0 0 A) (F0 m 16 ls []) := by
    intro n_p1 g_this_text k54 hk54 n
    induction n with
    | zero => intro x2 g_this g_p1 H locs ls h; exact nomatch h
    | succ n ih =>
      intro x2 g_this g_p1 H locs ls h hP hD hS hl
      unfold f_X9_wrongWorld_L16 at h
      refine lv_iload_n hx hb dX9_wrongWorld_16 rfl (lv_at hl 2 rfl) ?_
      refine lv_if_eq (tgt := 54) hx hb dX9_wrongWorld_17 (by decide) (fun c2 => ?_) (fun c2 => ?_)
      · replace h := iteT c2 h
        exact hk54 g_this g_p1 _ _ _ h hP hD hS (lv_sub hl [0] rfl)
      · replace h := iteF c2 h
        refine lv_aload_n hx hb dX9_wrongWorld_20 rfl (lv_at hl 0 rfl) ?_
        refine lv_aload_n hx hb dX9_wrongWorld_21 rfl (lv_at hl 1 rfl) ?_
        obtain ⟨o3, e3, h⟩ := obind h
        have hPc := hP
        have hDc := hD
        have hFc := vfall hD hS hA
        refine cl_iA (va_runV (As := [.ref a_p1]) (rest := []) ⟨hx, hb, hml, hown, hts⟩ (c_X9_readEntry l hlt D dT a_this a_p1 n_p1 g_this g_this_text g_p1 o3 e3 _) (cwV 1 hts (TB_V w_1162 w_1164 w_37 w_59 w_1165) rfl rfl rfl ⟨rfl, nd_X9_readEntry⟩ ⟨Nat.le_of_ble_eq_true rfl, Nat.le_of_ble_eq_true rfl⟩) (cPre.V hPc hDc hK hE hS hFc (va_recv hK hP (ci := 8) (q0 := 0) rfl rfl)) rfl rfl hl.1 rfl (lv_room (Nat.le_of_ble_eq_true rfl)) dX9_wrongWorld_22 ⟨Nat.zero_le _, Nat.zero_le _⟩) hS hFc (fun r3 u3 H locs hw hP hD hS => ?_)
        obtain ⟨rfl, rfl⟩ := hw
        have hP : va_P D vwCl (cM a_this o3.2.1 ++ (cI_ dT (a_this 1) 100 g_this_text ++ (cJ_ dT a_p1 n_p1 o3.2.2))) H := hP
        have hD : va_D A (cM a_this o3.2.1 ++ (cI_ dT (a_this 1) 100 g_this_text ++ (cJ_ dT a_p1 n_p1 o3.2.2))) := hD
        refine lv_if_ne (tgt := 33) hx hb dX9_wrongWorld_25 (by decide) (fun c4 => ?_) (fun c4 => ?_)
        · replace h := iteF c4 h
          refine lv_aload_n hx hb dX9_wrongWorld_33 rfl (lv_at hl 0 rfl) ?_
          refine lv_bipush (v := 59) hx hb dX9_wrongWorld_34 (by decide) ?_
          refine lv_bipush (v := 59) hx hb dX9_wrongWorld_36 (by decide) ?_
          obtain ⟨o5, e5, h⟩ := obind h
          have hPc := hP.sub (ws' := (cM a_this o3.2.1 ++ (cI_ dT (a_this 1) 100 g_this_text))) [0, 1] rfl
          have hDc := hD.sub (ws' := (cM a_this o3.2.1 ++ (cI_ dT (a_this 1) 100 g_this_text))) [0, 1] (by decide) rfl
          have hFc := va_free (wc := (cM a_this o3.2.1 ++ (cI_ dT (a_this 1) 100 g_this_text))) hD hS hA [0, 1] rfl
          refine cl_i (wr := (cJ_ dT a_p1 n_p1 o3.2.2)) (va_runV (As := [.int (59 : Int32), .int (59 : Int32)]) (rest := []) ⟨hx, hb, hml, hown, hts⟩ (c_X9_taken l hlt D dT a_this o3.2.1 g_this_text (59 : Int32) (59 : Int32) o5 e5 _) (cwV 2 hts (TB_V w_1154 w_1156 w_35 w_59 w_1157) rfl rfl rfl ⟨rfl, nd_X9_taken⟩ ⟨Nat.le_of_ble_eq_true rfl, Nat.le_of_ble_eq_true rfl⟩) (cPre.V hPc hDc hK hE hS hFc (va_recv hK hP (ci := 8) (q0 := 0) rfl rfl)) rfl rfl hl.1 rfl (lv_room (Nat.le_of_ble_eq_true rfl)) dX9_wrongWorld_38 ⟨Nat.zero_le _, Nat.zero_le _⟩) hP hD hS hFc [0, 1] [2] rfl rfl (by decide) (by decide) (fun r5 u5 H locs hw hP hD hS => ?_)
          obtain ⟨rfl, rfl⟩ := hw
          have hP : va_P D vwCl (cJ_ dT a_p1 n_p1 o3.2.2 ++ (cM a_this o5.2 ++ (cI_ dT (a_this 1) 100 g_this_text))) H := hP
          have hD : va_D A (cJ_ dT a_p1 n_p1 o3.2.2 ++ (cM a_this o5.2 ++ (cI_ dT (a_this 1) 100 g_this_text))) := hD
          refine lv_iconst (v := -1) hx hb dX9_wrongWorld_41 (by decide) ?_
          refine lv_icmp_eq (tgt := 49) hx hb dX9_wrongWorld_42 (by decide) (fun c6 => ?_) (fun c6 => ?_)
          · replace h := iteT c6 h
            refine lv_iconst (v := 0) hx hb dX9_wrongWorld_49 (by decide) ?_
            refine lv_istore_n (lv' := [(2, .int (0 : Int32)), (0, .ref (a_this 0)), (1, .ref a_p1)]) hx hb dX9_wrongWorld_50 rfl hl (by decide) rfl (fun ls hl => ?_)
            refine lv_goto (tgt := 16) hx hb dX9_wrongWorld_51 (by decide) ?_
            have hP := hP.sub (ws' := (cM a_this o5.2 ++ (cI_ dT (a_this 1) 100 g_this_text ++ (cJ_ dT a_p1 n_p1 o3.2.2)))) [1, 2, 0] rfl
            have hD := hD.sub (ws' := (cM a_this o5.2 ++ (cI_ dT (a_this 1) 100 g_this_text ++ (cJ_ dT a_p1 n_p1 o3.2.2)))) [1, 2, 0] (by decide) rfl
            exact ih (0 : Int32) o5.2 o3.2.2 _ _ _ h hP hD hS (lv_sub hl [1, 2, 0] rfl)
          · replace h := iteF c6 h
            refine lv_iconst (v := 1) hx hb dX9_wrongWorld_45 (by decide) ?_
            refine lv_goto (tgt := 50) hx hb dX9_wrongWorld_46 (by decide) ?_
            refine lv_istore_n (lv' := [(2, .int (1 : Int32)), (0, .ref (a_this 0)), (1, .ref a_p1)]) hx hb dX9_wrongWorld_50 rfl hl (by decide) rfl (fun ls hl => ?_)
            refine lv_goto (tgt := 16) hx hb dX9_wrongWorld_51 (by decide) ?_
            have hP := hP.sub (ws' := (cM a_this o5.2 ++ (cI_ dT (a_this 1) 100 g_this_text ++ (cJ_ dT a_p1 n_p1 o3.2.2)))) [1, 2, 0] rfl
            have hD := hD.sub (ws' := (cM a_this o5.2 ++ (cI_ dT (a_this 1) 100 g_this_text ++ (cJ_ dT a_p1 n_p1 o3.2.2)))) [1, 2, 0] (by decide) rfl
            exact ih (1 : Int32) o5.2 o3.2.2 _ _ _ h hP hD hS (lv_sub hl [1, 2, 0] rfl)
        · replace h := iteT c4 h
          refine lv_aload_n hx hb dX9_wrongWorld_28 rfl (lv_at hl 0 rfl) ?_
          refine gf_X9_122 (v := .int (M_spot o3.2.1)) hx hb hqs hown hK hP 0 rfl rfl dX9_wrongWorld_29 ?_
          exact rt_i hx hb hr hlk hK hS ((o3.2.1, o3.2.2) : TM × (Nat → Int64)) (ret2 h) hP hD dX9_wrongWorld_32
  unfold f_X9_wrongWorld at h
  refine lv_aload_n hx hb dX9_wrongWorld_0 rfl (lv_at hl 1 rfl) ?_
  obtain ⟨o1, e1, h⟩ := obind h
  have hPc := hP.sub (ws' := (cJ_ dT a_p1 n_p1 g_p1)) [2] rfl
  have hDc := hD.sub (ws' := (cJ_ dT a_p1 n_p1 g_p1)) [2] (by decide) rfl
  have hFc := va_free (wc := (cJ_ dT a_p1 n_p1 g_p1)) hD hS hA [2] rfl
  refine cl_v (wr := (cM a_this g_this ++ (cI_ dT (a_this 1) 100 g_this_text))) (va_runS (As := [.ref a_p1]) (rest := []) ⟨hx, hb, hml, hown, hts⟩ (c_X9_begin l hlt D dT a_p1 n_p1 g_p1 o1 e1 _) (va_cwS 1 hts (TB_S w_1062 w_1063 w_59 w_1064) rfl rfl rfl nd_X9_begin ⟨Nat.le_of_ble_eq_true rfl, Nat.le_of_ble_eq_true rfl⟩) (cPre.S hPc hDc hK hE hS hFc) rfl rfl hl.1 rfl (lv_room (Nat.le_of_ble_eq_true rfl)) dX9_wrongWorld_1 ⟨Nat.zero_le _, Nat.zero_le _⟩) hP hD hS hFc [2] [0, 1] rfl rfl (by decide) (by decide) (fun u1 H locs hw hP hD hS => ?_)
  subst hw
  have hP : va_P D vwCl (cM a_this g_this ++ (cI_ dT (a_this 1) 100 g_this_text ++ (cJ_ dT a_p1 n_p1 o1.2))) H := hP
  have hD : va_D A (cM a_this g_this ++ (cI_ dT (a_this 1) 100 g_this_text ++ (cJ_ dT a_p1 n_p1 o1.2))) := hD
  refine lv_aload_n hx hb dX9_wrongWorld_4 rfl (lv_at hl 0 rfl) ?_
  refine lv_iconst (v := 0) hx hb dX9_wrongWorld_5 (by decide) ?_
  refine pf_X9_122 hx hb hqs hown hK hP hD hS 0 rfl rfl dX9_wrongWorld_6 (fun H locs hP hD hS => ?_)
  have hP : va_P D vwCl ([(a_this 0, .inr (8, [.int (M_refusal g_this), .ref (a_this 1), .int (M_size g_this), .ref (a_this 2), .ref (a_this 3), .ref (a_this 4), .int (M_acts g_this), .ref (a_this 5), .ref (a_this 6), .ref (a_this 7), .ref (a_this 8), .ref (a_this 9), .ref (a_this 10), .int (M_planned g_this), .int (0 : Int32), .int (M_out g_this), .ref (a_this 11)]))] ++ (cI_ dT (a_this 1) 100 g_this_text ++ (cJ_ dT a_p1 n_p1 o1.2))) H := hP
  have hD : va_D A ([(a_this 0, .inr (8, [.int (M_refusal g_this), .ref (a_this 1), .int (M_size g_this), .ref (a_this 2), .ref (a_this 3), .ref (a_this 4), .int (M_acts g_this), .ref (a_this 5), .ref (a_this 6), .ref (a_this 7), .ref (a_this 8), .ref (a_this 9), .ref (a_this 10), .int (M_planned g_this), .int (0 : Int32), .int (M_out g_this), .ref (a_this 11)]))] ++ (cI_ dT (a_this 1) 100 g_this_text ++ (cJ_ dT a_p1 n_p1 o1.2))) := hD
  refine lv_aload_n hx hb dX9_wrongWorld_9 rfl (lv_at hl 0 rfl) ?_
  refine lv_iconst (v := 0) hx hb dX9_wrongWorld_10 (by decide) ?_
  refine pf_X9_151 hx hb hqs hown hK hP hD hS 0 rfl rfl dX9_wrongWorld_11 (fun H locs hP hD hS => ?_)
  have hP : va_P D vwCl ([(a_this 0, .inr (8, [.int (M_refusal g_this), .ref (a_this 1), .int (M_size g_this), .ref (a_this 2), .ref (a_this 3), .ref (a_this 4), .int (M_acts g_this), .ref (a_this 5), .ref (a_this 6), .ref (a_this 7), .ref (a_this 8), .ref (a_this 9), .ref (a_this 10), .int (M_planned g_this), .int (0 : Int32), .int (0 : Int32), .ref (a_this 11)]))] ++ (cI_ dT (a_this 1) 100 g_this_text ++ (cJ_ dT a_p1 n_p1 o1.2))) H := hP
  have hD : va_D A ([(a_this 0, .inr (8, [.int (M_refusal g_this), .ref (a_this 1), .int (M_size g_this), .ref (a_this 2), .ref (a_this 3), .ref (a_this 4), .int (M_acts g_this), .ref (a_this 5), .ref (a_this 6), .ref (a_this 7), .ref (a_this 8), .ref (a_this 9), .ref (a_this 10), .int (M_planned g_this), .int (0 : Int32), .int (0 : Int32), .ref (a_this 11)]))] ++ (cI_ dT (a_this 1) 100 g_this_text ++ (cJ_ dT a_p1 n_p1 o1.2))) := hD
  refine lv_iconst (v := 1) hx hb dX9_wrongWorld_14 (by decide) ?_
  refine lv_istore_n (lv' := [(2, .int (1 : Int32)), (0, .ref (a_this 0)), (1, .ref a_p1)]) hx hb dX9_wrongWorld_15 rfl hl (by decide) rfl (fun ls hl => ?_)
  refine L_f_X9_wrongWorld_L16 n_p1 g_this_text _ ?_ FUEL (1 : Int32) (M_mk (M_refusal g_this) (M_size g_this) (M_acts g_this) (M_planned g_this) (0 : Int32) (0 : Int32)) o1.2 _ _ _ h hP hD hS (lv_sub hl [1, 2, 0] rfl)
  · intro y7g_this y7g_p1 H locs ls h hP hD hS hl
    refine lv_aload_n hx hb dX9_wrongWorld_54 rfl (lv_at hl 0 rfl) ?_
    refine gf_X9_122 (v := .int (M_spot y7g_this)) hx hb hqs hown hK hP 0 rfl rfl dX9_wrongWorld_55 ?_
    refine lv_aload_n hx hb dX9_wrongWorld_58 rfl (lv_at hl 0 rfl) ?_
    refine gf_X9_115 (v := .int (M_size y7g_this)) hx hb hqs hown hK hP 0 rfl rfl dX9_wrongWorld_59 ?_
    refine lv_icmp_ge (tgt := 72) hx hb dX9_wrongWorld_62 (by decide) (fun c8 => ?_) (fun c8 => ?_)
    · replace h := iteT c8 h
      refine lv_iconst (v := -1) hx hb dX9_wrongWorld_72 (by decide) ?_
      exact rt_i hx hb hr hlk hK hS ((y7g_this, y7g_p1) : TM × (Nat → Int64)) (ret2 h) hP hD dX9_wrongWorld_73
    · replace h := iteF c8 h
      refine lv_aload_n hx hb dX9_wrongWorld_65 rfl (lv_at hl 0 rfl) ?_
      refine gf_X9_122 (v := .int (M_spot y7g_this)) hx hb hqs hown hK hP 0 rfl rfl dX9_wrongWorld_66 ?_
      refine lv_goto (tgt := 73) hx hb dX9_wrongWorld_69 (by decide) ?_
      exact rt_i hx hb hr hlk hK hS ((y7g_this, y7g_p1) : TM × (Nat → Int64)) (ret2 h) hP hD dX9_wrongWorld_73

def f_X9_errorPosition (g_this : TM) (g_this_text : Nat → Int32) (g_this_trial : Nat → Int64) (v1 : Int32) : Option (Int32 × (TM × (Nat → Int64))) :=
  (if v1 = (0 : Int32) then ((f_X9_wrongWorld 353 (M_mk (0 : Int32) (M_size g_this) (M_acts g_this) (M_planned g_this) (M_spot g_this) (M_out g_this)) g_this_text g_this_trial).bind fun o2 => (some (o2.1, (o2.2.1, o2.2.2)))) else ((f_X9_wrongPlan (M_mk (0 : Int32) (M_size g_this) (M_acts g_this) (M_planned g_this) (M_spot g_this) (M_out g_this)) g_this_text).bind fun o3 => (some (o3.1, (o3.2, g_this_trial)))))
set_option maxHeartbeats 8000000 in
set_option maxRecDepth 100000 in
theorem c_X9_errorPosition (l : Launch) (hlt : l.stackTraces = false) (D : va_G) (dT : Nat → ClassId) (a_this : Nat → Nat) (g_this : TM) (g_this_text : Nat → Int32) (g_this_trial : Nat → Int64) (v1 : Int32) (o : (Int32 × (TM × (Nat → Int64)))) (h : f_X9_errorPosition g_this g_this_text g_this_trial v1 = some o) (sz : Nat) : Met l yX9_errorPosition (WSm yX9_errorPosition cX9_errorPosition 2 (some .int)) { frames := 5, cells := 0, slots := 0, locals := 117 } (va_Pc [.ref (a_this 0), .int v1] (cPre D dT (cM a_this g_this ++ (cI_ dT (a_this 1) 100 g_this_text ++ (cJ_ dT (a_this 3) 353 g_this_trial))) sz)) (va_Qi (fun (r : Int32) (u : TM × (Nat → Int64)) => r = o.1 ∧ u = o.2) (fun u t => cAt D dT (va_A (cM a_this g_this ++ (cI_ dT (a_this 1) 100 g_this_text ++ (cJ_ dT (a_this 3) 353 g_this_trial))) sz) (cM a_this (u.1) ++ (cI_ dT (a_this 1) 100 g_this_text ++ (cJ_ dT (a_this 3) 353 (u.2)))) t) (va_A (cM a_this g_this ++ (cI_ dT (a_this 1) 100 g_this_text ++ (cJ_ dT (a_this 3) 353 g_this_trial))) sz)) 0 0 (va_A (cM a_this g_this ++ (cI_ dT (a_this 1) 100 g_this_text ++ (cJ_ dT (a_this 3) 353 g_this_trial))) sz) := by
  refine mStart (WS := (cM a_this g_this ++ (cI_ dT (a_this 1) 100 g_this_text ++ (cJ_ dT (a_this 3) 353 g_this_trial)))) (Qc := fun A => va_Qi (fun (r : Int32) (u : TM × (Nat → Int64)) => r = o.1 ∧ u = o.2) (fun u t => cAt D dT A (cM a_this (u.1) ++ (cI_ dT (a_this 1) 100 g_this_text ++ (cJ_ dT (a_this 3) 353 (u.2)))) t) A) RX9 rfl (by decide) (Nat.le_of_ble_eq_true rfl) ?_ sz
  intro p e s m below meth c A ls hx hb hml hr hlk hnm hts hqs hown hE hA hK hP hD hS hl
  have hl : lv_has ls 2 [(0, .ref (a_this 0)), (1, .int v1)] := hl
  unfold f_X9_errorPosition at h
  refine lv_aload_n hx hb dX9_errorPosition_0 rfl (lv_at hl 0 rfl) ?_
  refine lv_iconst (v := 0) hx hb dX9_errorPosition_1 (by decide) ?_
  refine pf_X9_55 hx hb hqs hown hK hP hD hS 0 rfl rfl dX9_errorPosition_2 (fun H locs hP hD hS => ?_)
  have hP : va_P D vwCl ([(a_this 0, .inr (8, [.int (0 : Int32), .ref (a_this 1), .int (M_size g_this), .ref (a_this 2), .ref (a_this 3), .ref (a_this 4), .int (M_acts g_this), .ref (a_this 5), .ref (a_this 6), .ref (a_this 7), .ref (a_this 8), .ref (a_this 9), .ref (a_this 10), .int (M_planned g_this), .int (M_spot g_this), .int (M_out g_this), .ref (a_this 11)]))] ++ (cI_ dT (a_this 1) 100 g_this_text ++ (cJ_ dT (a_this 3) 353 g_this_trial))) H := hP
  have hD : va_D A ([(a_this 0, .inr (8, [.int (0 : Int32), .ref (a_this 1), .int (M_size g_this), .ref (a_this 2), .ref (a_this 3), .ref (a_this 4), .int (M_acts g_this), .ref (a_this 5), .ref (a_this 6), .ref (a_this 7), .ref (a_this 8), .ref (a_this 9), .ref (a_this 10), .int (M_planned g_this), .int (M_spot g_this), .int (M_out g_this), .ref (a_this 11)]))] ++ (cI_ dT (a_this 1) 100 g_this_text ++ (cJ_ dT (a_this 3) 353 g_this_trial))) := hD
  refine lv_iload_n hx hb dX9_errorPosition_5 rfl (lv_at hl 1 rfl) ?_
  refine lv_if_eq (tgt := 16) hx hb dX9_errorPosition_6 (by decide) (fun c1 => ?_) (fun c1 => ?_)
  · replace h := iteT c1 h
    refine lv_aload_n hx hb dX9_errorPosition_16 rfl (lv_at hl 0 rfl) ?_
    refine lv_aload_n hx hb dX9_errorPosition_17 rfl (lv_at hl 0 rfl) ?_
    refine gf_X9_17 (v := .ref (a_this 3)) hx hb hqs hown hK hP 0 rfl rfl dX9_errorPosition_18 ?_
    obtain ⟨o2, e2, h⟩ := obind h
    have hPc := hP
    have hDc := hD
    have hFc := vfall hD hS hA
    refine cl_iA (va_runV (As := [.ref (a_this 3)]) (rest := []) ⟨hx, hb, hml, hown, hts⟩ (c_X9_wrongWorld l hlt D dT a_this (a_this 3) 353 (M_mk (0 : Int32) (M_size g_this) (M_acts g_this) (M_planned g_this) (M_spot g_this) (M_out g_this)) g_this_text g_this_trial o2 e2 _) (cwV 1 hts (TB_V w_1158 w_1160 w_36 w_59 w_1161) rfl rfl rfl ⟨rfl, nd_X9_wrongWorld⟩ ⟨Nat.le_of_ble_eq_true rfl, Nat.le_of_ble_eq_true rfl⟩) (cPre.V hPc hDc hK hE hS hFc (va_recv hK hP (ci := 8) (q0 := 0) rfl rfl)) rfl rfl hl.1 rfl (lv_room (Nat.le_of_ble_eq_true rfl)) dX9_errorPosition_21 ⟨Nat.zero_le _, Nat.zero_le _⟩) hS hFc (fun r2 u2 H locs hw hP hD hS => ?_)
    obtain ⟨rfl, rfl⟩ := hw
    have hP : va_P D vwCl (cM a_this o2.2.1 ++ (cI_ dT (a_this 1) 100 g_this_text ++ (cJ_ dT (a_this 3) 353 o2.2.2))) H := hP
    have hD : va_D A (cM a_this o2.2.1 ++ (cI_ dT (a_this 1) 100 g_this_text ++ (cJ_ dT (a_this 3) 353 o2.2.2))) := hD
    exact rt_i hx hb hr hlk hK hS ((o2.2.1, o2.2.2) : TM × (Nat → Int64)) (ret2 h) hP hD dX9_errorPosition_24
  · replace h := iteF c1 h
    refine lv_aload_n hx hb dX9_errorPosition_9 rfl (lv_at hl 0 rfl) ?_
    obtain ⟨o3, e3, h⟩ := obind h
    have hPc := hP.sub (ws' := (cM a_this (M_mk (0 : Int32) (M_size g_this) (M_acts g_this) (M_planned g_this) (M_spot g_this) (M_out g_this)) ++ (cI_ dT (a_this 1) 100 g_this_text))) [0, 1] rfl
    have hDc := hD.sub (ws' := (cM a_this (M_mk (0 : Int32) (M_size g_this) (M_acts g_this) (M_planned g_this) (M_spot g_this) (M_out g_this)) ++ (cI_ dT (a_this 1) 100 g_this_text))) [0, 1] (by decide) rfl
    have hFc := va_free (wc := (cM a_this (M_mk (0 : Int32) (M_size g_this) (M_acts g_this) (M_planned g_this) (M_spot g_this) (M_out g_this)) ++ (cI_ dT (a_this 1) 100 g_this_text))) hD hS hA [0, 1] rfl
    refine cl_i (wr := (cJ_ dT (a_this 3) 353 g_this_trial)) (va_runV (As := []) (rest := []) ⟨hx, hb, hml, hown, hts⟩ (c_X9_wrongPlan l hlt D dT a_this (M_mk (0 : Int32) (M_size g_this) (M_acts g_this) (M_planned g_this) (M_spot g_this) (M_out g_this)) g_this_text o3 e3 _) (cwV 0 hts (TB_V w_1144 w_1146 w_33 w_59 w_1147) rfl rfl rfl ⟨rfl, nd_X9_wrongPlan⟩ ⟨Nat.le_of_ble_eq_true rfl, Nat.le_of_ble_eq_true rfl⟩) (cPre.V hPc hDc hK hE hS hFc (va_recv hK hP (ci := 8) (q0 := 0) rfl rfl)) rfl rfl hl.1 rfl (lv_room (Nat.le_of_ble_eq_true rfl)) dX9_errorPosition_10 ⟨Nat.zero_le _, Nat.zero_le _⟩) hP hD hS hFc [0, 1] [2] rfl rfl (by decide) (by decide) (fun r3 u3 H locs hw hP hD hS => ?_)
    obtain ⟨rfl, rfl⟩ := hw
    have hP : va_P D vwCl (cJ_ dT (a_this 3) 353 g_this_trial ++ (cM a_this o3.2 ++ (cI_ dT (a_this 1) 100 g_this_text))) H := hP
    have hD : va_D A (cJ_ dT (a_this 3) 353 g_this_trial ++ (cM a_this o3.2 ++ (cI_ dT (a_this 1) 100 g_this_text))) := hD
    refine lv_goto (tgt := 24) hx hb dX9_errorPosition_13 (by decide) ?_
    have hP := hP.sub (ws' := (cM a_this o3.2 ++ (cI_ dT (a_this 1) 100 g_this_text ++ (cJ_ dT (a_this 3) 353 g_this_trial)))) [1, 2, 0] rfl
    have hD := hD.sub (ws' := (cM a_this o3.2 ++ (cI_ dT (a_this 1) 100 g_this_text ++ (cJ_ dT (a_this 3) 353 g_this_trial)))) [1, 2, 0] (by decide) rfl
    exact rt_i hx hb hr hlk hK hS ((o3.2, g_this_trial) : TM × (Nat → Int64)) (ret2 h) hP hD dX9_errorPosition_24

def f_X9_load_J18 (g_this_text : Nat → Int32)  (s0 : Int32) (g_this : TM) (g_this_now : Nat → Int64) (g_this_trial : Nat → Int64) (g_this_isKept : Nat → Int32) : Option (Int32 × (TM × (Nat → Int64) × (Nat → Int64) × (Nat → Int32))) :=
    ((f_X9_refused g_this s0).bind fun o3 => (if o3.1 = (0 : Int32) then ((f_X9_copyWorld 353 353 g_this_trial g_this_now (0 : Int32) (0 : Int32)).bind fun o5 => (if inb (0 : Int32) 2 = true then (if inb (1 : Int32) 2 = true then (some ((M_out o3.2), ((M_mk (M_refusal o3.2) (M_size o3.2) (0 : Int32) (M_planned o3.2) (M_spot o3.2) (M_out o3.2)), o5.2, g_this_trial, (upd (upd g_this_isKept (0 : Int32).toNatClampNeg (vp_nar .boolean (0 : Int32))) (1 : Int32).toNatClampNeg (vp_nar .boolean (0 : Int32)))))) else none) else none)) else (some ((0 : Int32), (o3.2, g_this_now, g_this_trial, g_this_isKept)))))
def f_X9_load (g_this : TM) (g_this_text : Nat → Int32) (g_this_now : Nat → Int64) (g_this_trial : Nat → Int64) (g_this_isKept : Nat → Int32) : Option (Int32 × (TM × (Nat → Int64) × (Nat → Int64) × (Nat → Int32))) :=
  ((f_X9_wrongWorld 353 g_this g_this_text g_this_trial).bind fun o1 => (if o1.1 = (-1 : Int32) then (f_X9_load_J18 g_this_text (0 : Int32) o1.2.1 g_this_now o1.2.2 g_this_isKept) else (f_X9_load_J18 g_this_text (1 : Int32) o1.2.1 g_this_now o1.2.2 g_this_isKept)))
set_option maxHeartbeats 8000000 in
set_option maxRecDepth 100000 in
theorem c_X9_load (l : Launch) (hlt : l.stackTraces = false) (D : va_G) (dT : Nat → ClassId) (a_this : Nat → Nat) (g_this : TM) (g_this_text : Nat → Int32) (g_this_now : Nat → Int64) (g_this_trial : Nat → Int64) (g_this_isKept : Nat → Int32) (o : (Int32 × (TM × (Nat → Int64) × (Nat → Int64) × (Nat → Int32)))) (h : f_X9_load g_this g_this_text g_this_now g_this_trial g_this_isKept = some o) (sz : Nat) : Met l yX9_load (WSm yX9_load cX9_load 1 (some .int)) { frames := 5, cells := 0, slots := 0, locals := 117 } (va_Pc [.ref (a_this 0)] (cPre D dT (cM a_this g_this ++ (cI_ dT (a_this 1) 100 g_this_text ++ (cJ_ dT (a_this 2) 353 g_this_now ++ (cJ_ dT (a_this 3) 353 g_this_trial ++ (cZ_ dT (a_this 6) 2 g_this_isKept))))) sz)) (va_Qi (fun (r : Int32) (u : TM × (Nat → Int64) × (Nat → Int64) × (Nat → Int32)) => r = o.1 ∧ u = o.2) (fun u t => cAt D dT (va_A (cM a_this g_this ++ (cI_ dT (a_this 1) 100 g_this_text ++ (cJ_ dT (a_this 2) 353 g_this_now ++ (cJ_ dT (a_this 3) 353 g_this_trial ++ (cZ_ dT (a_this 6) 2 g_this_isKept))))) sz) (cM a_this (u.1) ++ (cI_ dT (a_this 1) 100 g_this_text ++ (cJ_ dT (a_this 2) 353 (u.2.1) ++ (cJ_ dT (a_this 3) 353 (u.2.2.1) ++ (cZ_ dT (a_this 6) 2 (u.2.2.2)))))) t) (va_A (cM a_this g_this ++ (cI_ dT (a_this 1) 100 g_this_text ++ (cJ_ dT (a_this 2) 353 g_this_now ++ (cJ_ dT (a_this 3) 353 g_this_trial ++ (cZ_ dT (a_this 6) 2 g_this_isKept))))) sz)) 0 0 (va_A (cM a_this g_this ++ (cI_ dT (a_this 1) 100 g_this_text ++ (cJ_ dT (a_this 2) 353 g_this_now ++ (cJ_ dT (a_this 3) 353 g_this_trial ++ (cZ_ dT (a_this 6) 2 g_this_isKept))))) sz) := by
  refine mStart (WS := (cM a_this g_this ++ (cI_ dT (a_this 1) 100 g_this_text ++ (cJ_ dT (a_this 2) 353 g_this_now ++ (cJ_ dT (a_this 3) 353 g_this_trial ++ (cZ_ dT (a_this 6) 2 g_this_isKept)))))) (Qc := fun A => va_Qi (fun (r : Int32) (u : TM × (Nat → Int64) × (Nat → Int64) × (Nat → Int32)) => r = o.1 ∧ u = o.2) (fun u t => cAt D dT A (cM a_this (u.1) ++ (cI_ dT (a_this 1) 100 g_this_text ++ (cJ_ dT (a_this 2) 353 (u.2.1) ++ (cJ_ dT (a_this 3) 353 (u.2.2.1) ++ (cZ_ dT (a_this 6) 2 (u.2.2.2)))))) t) A) RX9 rfl (by decide) (Nat.le_of_ble_eq_true rfl) ?_ sz
  intro p e s m below meth c A ls hx hb hml hr hlk hnm hts hqs hown hE hA hK hP hD hS hl
  have hl : lv_has ls 1 [(0, .ref (a_this 0))] := hl
  have L_f_X9_load_J18 : ∀ (g_this_text : Nat → Int32) (s0 : Int32) (g_this : TM) (g_this_now : Nat → Int64) (g_this_trial : Nat → Int64) (g_this_isKept : Nat → Int32)   (H : Heap) (locs : List Loc) (ls : Array Slot), f_X9_load_J18 g_this_text  s0 g_this g_this_now g_this_trial g_this_isKept = some o → va_P D vwCl (cM a_this g_this ++ (cI_ dT (a_this 1) 100 g_this_text ++ (cJ_ dT (a_this 2) 353 g_this_now ++ (cJ_ dT (a_this 3) 353 g_this_trial ++ (cZ_ dT (a_this 6) 2 g_this_isKept))))) H → va_D A (cM a_this g_this ++ (cI_ dT (a_this 1) 100 g_this_text ++ (cJ_ dT (a_this 2) 353 g_this_now ++ (cJ_ dT (a_this 3) 353 g_this_trial ++ (cZ_ dT (a_this 6) 2 g_this_isKept))))) → va_S A s.heap H locs → lv_has ls 1 [(0, .ref (a_this 0))] → W p l e (headSpec (WSm yX9_load cX9_load 1 (some .int)) { frames := 5, cells := 0, slots := 0, locals := 117 }).room s m [.ref (a_this 0)].toArray below meth c H locs 0 0 (MQ below (va_Qi (fun (r : Int32) (u : TM × (Nat → Int64) × (Nat → Int64) × (Nat → Int32)) => r = o.1 ∧ u = o.2) (fun u t => cAt D dT A (cM a_this (u.1) ++ (cI_ dT (a_this 1) 100 g_this_text ++ (cJ_ dT (a_this 2) 353 (u.2.1) ++ (cJ_ dT (a_this 3) 353 (u.2.2.1) ++ (cZ_ dT (a_this 6) 2 (u.2.2.2)))))) t) A) [.ref (a_this 0)].toArray s 0 0 A) (F0 m 18 ls [.int s0, .ref (a_this 0)]) := by
    intro g_this_text s0 g_this g_this_now g_this_trial g_this_isKept   H locs ls h hP hD hS hl
    unfold f_X9_load_J18 at h
    obtain ⟨o3, e3, h⟩ := obind h
    have hPc := hP.sub (ws' := (cM a_this g_this)) [0] rfl
    have hDc := hD.sub (ws' := (cM a_this g_this)) [0] (by decide) rfl
    have hFc := va_free (wc := (cM a_this g_this)) hD hS hA [0] rfl
    refine cl_i (wr := (cI_ dT (a_this 1) 100 g_this_text ++ (cJ_ dT (a_this 2) 353 g_this_now ++ (cJ_ dT (a_this 3) 353 g_this_trial ++ (cZ_ dT (a_this 6) 2 g_this_isKept))))) (va_runV (As := [.int s0]) (rest := []) ⟨hx, hb, hml, hown, hts⟩ (c_X9_refused l hlt D dT a_this g_this s0 o3 e3 _) (cwV 1 hts (TB_V w_1132 w_1134 w_32 w_59 w_1135) rfl rfl rfl ⟨rfl, nd_X9_refused⟩ ⟨Nat.le_of_ble_eq_true rfl, Nat.le_of_ble_eq_true rfl⟩) (cPre.V hPc hDc hK hE hS hFc (va_recv hK hP (ci := 8) (q0 := 0) rfl rfl)) rfl rfl hl.1 rfl (lv_room (Nat.le_of_ble_eq_true rfl)) dX9_load_18 ⟨Nat.zero_le _, Nat.zero_le _⟩) hP hD hS hFc [0] [1, 2, 3, 4] rfl rfl (by decide) (by decide) (fun r3 u3 H locs hw hP hD hS => ?_)
    obtain ⟨rfl, rfl⟩ := hw
    have hP : va_P D vwCl (cI_ dT (a_this 1) 100 g_this_text ++ (cJ_ dT (a_this 2) 353 g_this_now ++ (cJ_ dT (a_this 3) 353 g_this_trial ++ (cZ_ dT (a_this 6) 2 g_this_isKept ++ (cM a_this o3.2))))) H := hP
    have hD : va_D A (cI_ dT (a_this 1) 100 g_this_text ++ (cJ_ dT (a_this 2) 353 g_this_now ++ (cJ_ dT (a_this 3) 353 g_this_trial ++ (cZ_ dT (a_this 6) 2 g_this_isKept ++ (cM a_this o3.2))))) := hD
    refine lv_if_eq (tgt := 26) hx hb dX9_load_21 (by decide) (fun c4 => ?_) (fun c4 => ?_)
    · replace h := iteT c4 h
      refine lv_aload_n hx hb dX9_load_26 rfl (lv_at hl 0 rfl) ?_
      refine gf_X9_17 (v := .ref (a_this 3)) hx hb hqs hown hK hP 4 rfl rfl dX9_load_27 ?_
      refine lv_iconst (v := 0) hx hb dX9_load_30 (by decide) ?_
      refine lv_aload_n hx hb dX9_load_31 rfl (lv_at hl 0 rfl) ?_
      refine gf_X9_13 (v := .ref (a_this 2)) hx hb hqs hown hK hP 4 rfl rfl dX9_load_32 ?_
      refine lv_iconst (v := 0) hx hb dX9_load_35 (by decide) ?_
      obtain ⟨o5, e5, h⟩ := obind h
      have hPc := hP.sub (ws' := (cJ_ dT (a_this 3) 353 g_this_trial ++ (cJ_ dT (a_this 2) 353 g_this_now))) [2, 1] rfl
      have hDc := hD.sub (ws' := (cJ_ dT (a_this 3) 353 g_this_trial ++ (cJ_ dT (a_this 2) 353 g_this_now))) [2, 1] (by decide) rfl
      have hFc := va_free (wc := (cJ_ dT (a_this 3) 353 g_this_trial ++ (cJ_ dT (a_this 2) 353 g_this_now))) hD hS hA [2, 1] rfl
      refine cl_v (wr := (cI_ dT (a_this 1) 100 g_this_text ++ (cZ_ dT (a_this 6) 2 g_this_isKept ++ (cM a_this o3.2)))) (va_runS (As := [.ref (a_this 3), .int (0 : Int32), .ref (a_this 2), .int (0 : Int32)]) (rest := []) ⟨hx, hb, hml, hown, hts⟩ (c_X9_copyWorld l hlt D dT (a_this 3) (a_this 2) 353 353 g_this_trial g_this_now (0 : Int32) (0 : Int32) o5 e5 _) (va_cwS 4 hts (TB_S w_1191 w_1192 w_59 w_1193) rfl rfl rfl nd_X9_copyWorld ⟨Nat.le_of_ble_eq_true rfl, Nat.le_of_ble_eq_true rfl⟩) (cPre.S hPc hDc hK hE hS hFc) rfl rfl hl.1 rfl (lv_room (Nat.le_of_ble_eq_true rfl)) dX9_load_36 ⟨Nat.zero_le _, Nat.zero_le _⟩) hP hD hS hFc [2, 1] [0, 3, 4] rfl rfl (by decide) (by decide) (fun u5 H locs hw hP hD hS => ?_)
      subst hw
      have hP : va_P D vwCl (cI_ dT (a_this 1) 100 g_this_text ++ (cZ_ dT (a_this 6) 2 g_this_isKept ++ (cM a_this o3.2 ++ (cJ_ dT (a_this 3) 353 g_this_trial ++ (cJ_ dT (a_this 2) 353 o5.2))))) H := hP
      have hD : va_D A (cI_ dT (a_this 1) 100 g_this_text ++ (cZ_ dT (a_this 6) 2 g_this_isKept ++ (cM a_this o3.2 ++ (cJ_ dT (a_this 3) 353 g_this_trial ++ (cJ_ dT (a_this 2) 353 o5.2))))) := hD
      refine lv_aload_n hx hb dX9_load_39 rfl (lv_at hl 0 rfl) ?_
      refine lv_iconst (v := 0) hx hb dX9_load_40 (by decide) ?_
      refine pf_X9_177 hx hb hqs hown hK hP hD hS 2 rfl rfl dX9_load_41 (fun H locs hP hD hS => ?_)
      have hP : va_P D vwCl (cI_ dT (a_this 1) 100 g_this_text ++ (cZ_ dT (a_this 6) 2 g_this_isKept ++ ([(a_this 0, .inr (8, [.int (M_refusal o3.2), .ref (a_this 1), .int (M_size o3.2), .ref (a_this 2), .ref (a_this 3), .ref (a_this 4), .int (0 : Int32), .ref (a_this 5), .ref (a_this 6), .ref (a_this 7), .ref (a_this 8), .ref (a_this 9), .ref (a_this 10), .int (M_planned o3.2), .int (M_spot o3.2), .int (M_out o3.2), .ref (a_this 11)]))] ++ (cJ_ dT (a_this 3) 353 g_this_trial ++ (cJ_ dT (a_this 2) 353 o5.2))))) H := hP
      have hD : va_D A (cI_ dT (a_this 1) 100 g_this_text ++ (cZ_ dT (a_this 6) 2 g_this_isKept ++ ([(a_this 0, .inr (8, [.int (M_refusal o3.2), .ref (a_this 1), .int (M_size o3.2), .ref (a_this 2), .ref (a_this 3), .ref (a_this 4), .int (0 : Int32), .ref (a_this 5), .ref (a_this 6), .ref (a_this 7), .ref (a_this 8), .ref (a_this 9), .ref (a_this 10), .int (M_planned o3.2), .int (M_spot o3.2), .int (M_out o3.2), .ref (a_this 11)]))] ++ (cJ_ dT (a_this 3) 353 g_this_trial ++ (cJ_ dT (a_this 2) 353 o5.2))))) := hD
      refine lv_aload_n hx hb dX9_load_44 rfl (lv_at hl 0 rfl) ?_
      refine gf_X9_26 (v := .ref (a_this 6)) hx hb hqs hown hK hP 2 rfl rfl dX9_load_45 ?_
      refine lv_iconst (v := 0) hx hb dX9_load_48 (by decide) ?_
      refine lv_iconst (v := 0) hx hb dX9_load_49 (by decide) ?_
      obtain ⟨g6, h⟩ := chk h
      refine va_zast hx hb hK hP hD hS 1 3 rfl rfl (inb_in g6) dX9_load_50 (fun H locs hP hD hS => ?_)
      have hP : va_P D vwCl (cI_ dT (a_this 1) 100 g_this_text ++ (cZ_ dT (a_this 6) 2 (upd g_this_isKept (0 : Int32).toNatClampNeg (vp_nar .boolean (0 : Int32))) ++ ([(a_this 0, .inr (8, [.int (M_refusal o3.2), .ref (a_this 1), .int (M_size o3.2), .ref (a_this 2), .ref (a_this 3), .ref (a_this 4), .int (0 : Int32), .ref (a_this 5), .ref (a_this 6), .ref (a_this 7), .ref (a_this 8), .ref (a_this 9), .ref (a_this 10), .int (M_planned o3.2), .int (M_spot o3.2), .int (M_out o3.2), .ref (a_this 11)]))] ++ (cJ_ dT (a_this 3) 353 g_this_trial ++ (cJ_ dT (a_this 2) 353 o5.2))))) H := hP
      have hD : va_D A (cI_ dT (a_this 1) 100 g_this_text ++ (cZ_ dT (a_this 6) 2 (upd g_this_isKept (0 : Int32).toNatClampNeg (vp_nar .boolean (0 : Int32))) ++ ([(a_this 0, .inr (8, [.int (M_refusal o3.2), .ref (a_this 1), .int (M_size o3.2), .ref (a_this 2), .ref (a_this 3), .ref (a_this 4), .int (0 : Int32), .ref (a_this 5), .ref (a_this 6), .ref (a_this 7), .ref (a_this 8), .ref (a_this 9), .ref (a_this 10), .int (M_planned o3.2), .int (M_spot o3.2), .int (M_out o3.2), .ref (a_this 11)]))] ++ (cJ_ dT (a_this 3) 353 g_this_trial ++ (cJ_ dT (a_this 2) 353 o5.2))))) := hD
      refine lv_aload_n hx hb dX9_load_51 rfl (lv_at hl 0 rfl) ?_
      refine gf_X9_26 (v := .ref (a_this 6)) hx hb hqs hown hK hP 2 rfl rfl dX9_load_52 ?_
      refine lv_iconst (v := 1) hx hb dX9_load_55 (by decide) ?_
      refine lv_iconst (v := 0) hx hb dX9_load_56 (by decide) ?_
      obtain ⟨g7, h⟩ := chk h
      refine va_zast hx hb hK hP hD hS 1 3 rfl rfl (inb_in g7) dX9_load_57 (fun H locs hP hD hS => ?_)
      have hP : va_P D vwCl (cI_ dT (a_this 1) 100 g_this_text ++ (cZ_ dT (a_this 6) 2 (upd (upd g_this_isKept (0 : Int32).toNatClampNeg (vp_nar .boolean (0 : Int32))) (1 : Int32).toNatClampNeg (vp_nar .boolean (0 : Int32))) ++ ([(a_this 0, .inr (8, [.int (M_refusal o3.2), .ref (a_this 1), .int (M_size o3.2), .ref (a_this 2), .ref (a_this 3), .ref (a_this 4), .int (0 : Int32), .ref (a_this 5), .ref (a_this 6), .ref (a_this 7), .ref (a_this 8), .ref (a_this 9), .ref (a_this 10), .int (M_planned o3.2), .int (M_spot o3.2), .int (M_out o3.2), .ref (a_this 11)]))] ++ (cJ_ dT (a_this 3) 353 g_this_trial ++ (cJ_ dT (a_this 2) 353 o5.2))))) H := hP
      have hD : va_D A (cI_ dT (a_this 1) 100 g_this_text ++ (cZ_ dT (a_this 6) 2 (upd (upd g_this_isKept (0 : Int32).toNatClampNeg (vp_nar .boolean (0 : Int32))) (1 : Int32).toNatClampNeg (vp_nar .boolean (0 : Int32))) ++ ([(a_this 0, .inr (8, [.int (M_refusal o3.2), .ref (a_this 1), .int (M_size o3.2), .ref (a_this 2), .ref (a_this 3), .ref (a_this 4), .int (0 : Int32), .ref (a_this 5), .ref (a_this 6), .ref (a_this 7), .ref (a_this 8), .ref (a_this 9), .ref (a_this 10), .int (M_planned o3.2), .int (M_spot o3.2), .int (M_out o3.2), .ref (a_this 11)]))] ++ (cJ_ dT (a_this 3) 353 g_this_trial ++ (cJ_ dT (a_this 2) 353 o5.2))))) := hD
      refine lv_aload_n hx hb dX9_load_58 rfl (lv_at hl 0 rfl) ?_
      refine gf_X9_151 (v := .int (M_out o3.2)) hx hb hqs hown hK hP 2 rfl rfl dX9_load_59 ?_
      have hP := hP.sub (ws' := ([(a_this 0, .inr (8, [.int (M_refusal o3.2), .ref (a_this 1), .int (M_size o3.2), .ref (a_this 2), .ref (a_this 3), .ref (a_this 4), .int (0 : Int32), .ref (a_this 5), .ref (a_this 6), .ref (a_this 7), .ref (a_this 8), .ref (a_this 9), .ref (a_this 10), .int (M_planned o3.2), .int (M_spot o3.2), .int (M_out o3.2), .ref (a_this 11)]))] ++ (cI_ dT (a_this 1) 100 g_this_text ++ (cJ_ dT (a_this 2) 353 o5.2 ++ (cJ_ dT (a_this 3) 353 g_this_trial ++ (cZ_ dT (a_this 6) 2 (upd (upd g_this_isKept (0 : Int32).toNatClampNeg (vp_nar .boolean (0 : Int32))) (1 : Int32).toNatClampNeg (vp_nar .boolean (0 : Int32))))))))) [2, 0, 4, 3, 1] rfl
      have hD := hD.sub (ws' := ([(a_this 0, .inr (8, [.int (M_refusal o3.2), .ref (a_this 1), .int (M_size o3.2), .ref (a_this 2), .ref (a_this 3), .ref (a_this 4), .int (0 : Int32), .ref (a_this 5), .ref (a_this 6), .ref (a_this 7), .ref (a_this 8), .ref (a_this 9), .ref (a_this 10), .int (M_planned o3.2), .int (M_spot o3.2), .int (M_out o3.2), .ref (a_this 11)]))] ++ (cI_ dT (a_this 1) 100 g_this_text ++ (cJ_ dT (a_this 2) 353 o5.2 ++ (cJ_ dT (a_this 3) 353 g_this_trial ++ (cZ_ dT (a_this 6) 2 (upd (upd g_this_isKept (0 : Int32).toNatClampNeg (vp_nar .boolean (0 : Int32))) (1 : Int32).toNatClampNeg (vp_nar .boolean (0 : Int32))))))))) [2, 0, 4, 3, 1] (by decide) rfl
      exact rt_i hx hb hr hlk hK hS (((M_mk (M_refusal o3.2) (M_size o3.2) (0 : Int32) (M_planned o3.2) (M_spot o3.2) (M_out o3.2)), o5.2, g_this_trial, (upd (upd g_this_isKept (0 : Int32).toNatClampNeg (vp_nar .boolean (0 : Int32))) (1 : Int32).toNatClampNeg (vp_nar .boolean (0 : Int32)))) : TM × (Nat → Int64) × (Nat → Int64) × (Nat → Int32)) (ret2 h) hP hD dX9_load_62
    · replace h := iteF c4 h
      refine lv_iconst (v := 0) hx hb dX9_load_24 (by decide) ?_
      have hP := hP.sub (ws' := (cM a_this o3.2 ++ (cI_ dT (a_this 1) 100 g_this_text ++ (cJ_ dT (a_this 2) 353 g_this_now ++ (cJ_ dT (a_this 3) 353 g_this_trial ++ (cZ_ dT (a_this 6) 2 g_this_isKept)))))) [4, 0, 1, 2, 3] rfl
      have hD := hD.sub (ws' := (cM a_this o3.2 ++ (cI_ dT (a_this 1) 100 g_this_text ++ (cJ_ dT (a_this 2) 353 g_this_now ++ (cJ_ dT (a_this 3) 353 g_this_trial ++ (cZ_ dT (a_this 6) 2 g_this_isKept)))))) [4, 0, 1, 2, 3] (by decide) rfl
      exact rt_i hx hb hr hlk hK hS ((o3.2, g_this_now, g_this_trial, g_this_isKept) : TM × (Nat → Int64) × (Nat → Int64) × (Nat → Int32)) (ret2 h) hP hD dX9_load_25
  unfold f_X9_load at h
  refine lv_aload_n hx hb dX9_load_0 rfl (lv_at hl 0 rfl) ?_
  refine lv_aload_n hx hb dX9_load_1 rfl (lv_at hl 0 rfl) ?_
  refine lv_aload_n hx hb dX9_load_2 rfl (lv_at hl 0 rfl) ?_
  refine gf_X9_17 (v := .ref (a_this 3)) hx hb hqs hown hK hP 0 rfl rfl dX9_load_3 ?_
  obtain ⟨o1, e1, h⟩ := obind h
  have hPc := hP.sub (ws' := (cM a_this g_this ++ (cI_ dT (a_this 1) 100 g_this_text ++ (cJ_ dT (a_this 3) 353 g_this_trial)))) [0, 1, 3] rfl
  have hDc := hD.sub (ws' := (cM a_this g_this ++ (cI_ dT (a_this 1) 100 g_this_text ++ (cJ_ dT (a_this 3) 353 g_this_trial)))) [0, 1, 3] (by decide) rfl
  have hFc := va_free (wc := (cM a_this g_this ++ (cI_ dT (a_this 1) 100 g_this_text ++ (cJ_ dT (a_this 3) 353 g_this_trial)))) hD hS hA [0, 1, 3] rfl
  refine cl_i (wr := (cJ_ dT (a_this 2) 353 g_this_now ++ (cZ_ dT (a_this 6) 2 g_this_isKept))) (va_runV (As := [.ref (a_this 3)]) (rest := [.ref (a_this 0)]) ⟨hx, hb, hml, hown, hts⟩ (c_X9_wrongWorld l hlt D dT a_this (a_this 3) 353 g_this g_this_text g_this_trial o1 e1 _) (cwV 1 hts (TB_V w_1158 w_1160 w_36 w_59 w_1161) rfl rfl rfl ⟨rfl, nd_X9_wrongWorld⟩ ⟨Nat.le_of_ble_eq_true rfl, Nat.le_of_ble_eq_true rfl⟩) (cPre.V hPc hDc hK hE hS hFc (va_recv hK hP (ci := 8) (q0 := 0) rfl rfl)) rfl rfl hl.1 rfl (lv_room (Nat.le_of_ble_eq_true rfl)) dX9_load_6 ⟨Nat.zero_le _, Nat.zero_le _⟩) hP hD hS hFc [0, 1, 3] [2, 4] rfl rfl (by decide) (by decide) (fun r1 u1 H locs hw hP hD hS => ?_)
  obtain ⟨rfl, rfl⟩ := hw
  have hP : va_P D vwCl (cJ_ dT (a_this 2) 353 g_this_now ++ (cZ_ dT (a_this 6) 2 g_this_isKept ++ (cM a_this o1.2.1 ++ (cI_ dT (a_this 1) 100 g_this_text ++ (cJ_ dT (a_this 3) 353 o1.2.2))))) H := hP
  have hD : va_D A (cJ_ dT (a_this 2) 353 g_this_now ++ (cZ_ dT (a_this 6) 2 g_this_isKept ++ (cM a_this o1.2.1 ++ (cI_ dT (a_this 1) 100 g_this_text ++ (cJ_ dT (a_this 3) 353 o1.2.2))))) := hD
  refine lv_iconst (v := -1) hx hb dX9_load_9 (by decide) ?_
  refine lv_icmp_ne (tgt := 17) hx hb dX9_load_10 (by decide) (fun c2 => ?_) (fun c2 => ?_)
  · replace h := iteF c2 h
    refine lv_iconst (v := 1) hx hb dX9_load_17 (by decide) ?_
    have hP := hP.sub (ws' := (cM a_this o1.2.1 ++ (cI_ dT (a_this 1) 100 g_this_text ++ (cJ_ dT (a_this 2) 353 g_this_now ++ (cJ_ dT (a_this 3) 353 o1.2.2 ++ (cZ_ dT (a_this 6) 2 g_this_isKept)))))) [2, 3, 0, 4, 1] rfl
    have hD := hD.sub (ws' := (cM a_this o1.2.1 ++ (cI_ dT (a_this 1) 100 g_this_text ++ (cJ_ dT (a_this 2) 353 g_this_now ++ (cJ_ dT (a_this 3) 353 o1.2.2 ++ (cZ_ dT (a_this 6) 2 g_this_isKept)))))) [2, 3, 0, 4, 1] (by decide) rfl
    refine L_f_X9_load_J18 g_this_text (1 : Int32) o1.2.1 g_this_now o1.2.2 g_this_isKept   _ _ _ h hP hD hS (lv_sub hl [0] rfl)
  · replace h := iteT c2 h
    refine lv_iconst (v := 0) hx hb dX9_load_13 (by decide) ?_
    refine lv_goto (tgt := 18) hx hb dX9_load_14 (by decide) ?_
    have hP := hP.sub (ws' := (cM a_this o1.2.1 ++ (cI_ dT (a_this 1) 100 g_this_text ++ (cJ_ dT (a_this 2) 353 g_this_now ++ (cJ_ dT (a_this 3) 353 o1.2.2 ++ (cZ_ dT (a_this 6) 2 g_this_isKept)))))) [2, 3, 0, 4, 1] rfl
    have hD := hD.sub (ws' := (cM a_this o1.2.1 ++ (cI_ dT (a_this 1) 100 g_this_text ++ (cJ_ dT (a_this 2) 353 g_this_now ++ (cJ_ dT (a_this 3) 353 o1.2.2 ++ (cZ_ dT (a_this 6) 2 g_this_isKept)))))) [2, 3, 0, 4, 1] (by decide) rfl
    refine L_f_X9_load_J18 g_this_text (0 : Int32) o1.2.1 g_this_now o1.2.2 g_this_isKept   _ _ _ h hP hD hS (lv_sub hl [0] rfl)

def f_X9_about_J18 (g_this_now : Nat → Int64)  (x1 : Int32) (s0 : Int32) (g_this : TM) : Option (Int32 × (TM)) :=
    ((f_X9_refused g_this s0).bind fun o3 => (if o3.1 = (0 : Int32) then (if x1 = (0 : Int32) then (if inb (0 : Int32) 353 = true then (some ((Int64.toInt32 (g_this_now (0 : Int32).toNatClampNeg)), o3.2)) else none) else (if x1 = (1 : Int32) then ((f_X9_count 353 g_this_now (8 : Int32)).bind fun o10 => (some ((Int64.toInt32 o10.1), o3.2))) else (if x1 = (2 : Int32) then ((f_X9_count 353 g_this_now (155 : Int32)).bind fun o9 => (some ((Int64.toInt32 o9.1), o3.2))) else (if inb (((305 : Int32) + x1) - (3 : Int32)) 353 = true then (some ((Int64.toInt32 (g_this_now (((305 : Int32) + x1) - (3 : Int32)).toNatClampNeg)), o3.2)) else none)))) else (some ((0 : Int32), o3.2))))
def f_X9_about (g_this : TM) (g_this_now : Nat → Int64) (v1 : Int32) : Option (Int32 × (TM)) :=
  ((f_X9_in (Int32.toInt64 v1) (0 : Int64) (5 : Int64)).bind fun o1 => (if o1.1 = (0 : Int32) then (f_X9_about_J18 g_this_now v1 (1 : Int32) g_this) else (f_X9_about_J18 g_this_now v1 (0 : Int32) g_this)))
set_option maxHeartbeats 8000000 in
set_option maxRecDepth 100000 in
theorem c_X9_about (l : Launch) (hlt : l.stackTraces = false) (D : va_G) (dT : Nat → ClassId) (a_this : Nat → Nat) (g_this : TM) (g_this_now : Nat → Int64) (v1 : Int32) (o : (Int32 × (TM))) (h : f_X9_about g_this g_this_now v1 = some o) (sz : Nat) : Met l yX9_about (WSm yX9_about cX9_about 2 (some .int)) { frames := 1, cells := 0, slots := 0, locals := 25 } (va_Pc [.ref (a_this 0), .int v1] (cPre D dT (cM a_this g_this ++ (cJ_ dT (a_this 2) 353 g_this_now)) sz)) (va_Qi (fun (r : Int32) (u : TM) => r = o.1 ∧ u = o.2) (fun u t => cAt D dT (va_A (cM a_this g_this ++ (cJ_ dT (a_this 2) 353 g_this_now)) sz) (cM a_this u ++ (cJ_ dT (a_this 2) 353 g_this_now)) t) (va_A (cM a_this g_this ++ (cJ_ dT (a_this 2) 353 g_this_now)) sz)) 0 0 (va_A (cM a_this g_this ++ (cJ_ dT (a_this 2) 353 g_this_now)) sz) := by
  refine mStart (WS := (cM a_this g_this ++ (cJ_ dT (a_this 2) 353 g_this_now))) (Qc := fun A => va_Qi (fun (r : Int32) (u : TM) => r = o.1 ∧ u = o.2) (fun u t => cAt D dT A (cM a_this u ++ (cJ_ dT (a_this 2) 353 g_this_now)) t) A) RX9 rfl (by decide) (Nat.le_of_ble_eq_true rfl) ?_ sz
  intro p e s m below meth c A ls hx hb hml hr hlk hnm hts hqs hown hE hA hK hP hD hS hl
  have hl : lv_has ls 2 [(0, .ref (a_this 0)), (1, .int v1)] := hl
  have L_f_X9_about_J18 : ∀ (g_this_now : Nat → Int64) (x1 : Int32) (s0 : Int32) (g_this : TM)   (H : Heap) (locs : List Loc) (ls : Array Slot), f_X9_about_J18 g_this_now  x1 s0 g_this = some o → va_P D vwCl (cM a_this g_this ++ (cJ_ dT (a_this 2) 353 g_this_now)) H → va_D A (cM a_this g_this ++ (cJ_ dT (a_this 2) 353 g_this_now)) → va_S A s.heap H locs → lv_has ls 2 [(0, .ref (a_this 0)), (1, .int x1)] → W p l e (headSpec (WSm yX9_about cX9_about 2 (some .int)) { frames := 1, cells := 0, slots := 0, locals := 25 }).room s m [.ref (a_this 0), .int v1].toArray below meth c H locs 0 0 (MQ below (va_Qi (fun (r : Int32) (u : TM) => r = o.1 ∧ u = o.2) (fun u t => cAt D dT A (cM a_this u ++ (cJ_ dT (a_this 2) 353 g_this_now)) t) A) [.ref (a_this 0), .int v1].toArray s 0 0 A) (F0 m 18 ls [.int s0, .ref (a_this 0)]) := by
    intro g_this_now x1 s0 g_this   H locs ls h hP hD hS hl
    unfold f_X9_about_J18 at h
    obtain ⟨o3, e3, h⟩ := obind h
    have hPc := hP.sub (ws' := (cM a_this g_this)) [0] rfl
    have hDc := hD.sub (ws' := (cM a_this g_this)) [0] (by decide) rfl
    have hFc := va_free (wc := (cM a_this g_this)) hD hS hA [0] rfl
    refine cl_i (wr := (cJ_ dT (a_this 2) 353 g_this_now)) (va_runV (As := [.int s0]) (rest := []) ⟨hx, hb, hml, hown, hts⟩ (c_X9_refused l hlt D dT a_this g_this s0 o3 e3 _) (cwV 1 hts (TB_V w_1132 w_1134 w_32 w_59 w_1135) rfl rfl rfl ⟨rfl, nd_X9_refused⟩ ⟨Nat.le_of_ble_eq_true rfl, Nat.le_of_ble_eq_true rfl⟩) (cPre.V hPc hDc hK hE hS hFc (va_recv hK hP (ci := 8) (q0 := 0) rfl rfl)) rfl rfl hl.1 rfl (lv_room (Nat.le_of_ble_eq_true rfl)) dX9_about_18 ⟨Nat.zero_le _, Nat.zero_le _⟩) hP hD hS hFc [0] [1] rfl rfl (by decide) (by decide) (fun r3 u3 H locs hw hP hD hS => ?_)
    obtain ⟨rfl, rfl⟩ := hw
    have hP : va_P D vwCl (cJ_ dT (a_this 2) 353 g_this_now ++ (cM a_this o3.2)) H := hP
    have hD : va_D A (cJ_ dT (a_this 2) 353 g_this_now ++ (cM a_this o3.2)) := hD
    refine lv_if_eq (tgt := 26) hx hb dX9_about_21 (by decide) (fun c4 => ?_) (fun c4 => ?_)
    · replace h := iteT c4 h
      refine lv_iload_n hx hb dX9_about_26 rfl (lv_at hl 1 rfl) ?_
      refine lv_if_ne (tgt := 39) hx hb dX9_about_27 (by decide) (fun c5 => ?_) (fun c5 => ?_)
      · replace h := iteF c5 h
        refine lv_iload_n hx hb dX9_about_39 rfl (lv_at hl 1 rfl) ?_
        refine lv_iconst (v := 1) hx hb dX9_about_40 (by decide) ?_
        refine lv_icmp_ne (tgt := 56) hx hb dX9_about_41 (by decide) (fun c6 => ?_) (fun c6 => ?_)
        · replace h := iteF c6 h
          refine lv_iload_n hx hb dX9_about_56 rfl (lv_at hl 1 rfl) ?_
          refine lv_iconst (v := 2) hx hb dX9_about_57 (by decide) ?_
          refine lv_icmp_ne (tgt := 74) hx hb dX9_about_58 (by decide) (fun c7 => ?_) (fun c7 => ?_)
          · replace h := iteF c7 h
            refine lv_aload_n hx hb dX9_about_74 rfl (lv_at hl 0 rfl) ?_
            refine gf_X9_13 (v := .ref (a_this 2)) hx hb hqs hown hK hP 1 rfl rfl dX9_about_75 ?_
            refine lv_sipush (v := 305) hx hb dX9_about_78 (by decide) ?_
            refine lv_iload_n hx hb dX9_about_81 rfl (lv_at hl 1 rfl) ?_
            refine lv_iadd hx hb dX9_about_82 ?_
            refine lv_iconst (v := 3) hx hb dX9_about_83 (by decide) ?_
            refine lv_isub hx hb dX9_about_84 ?_
            obtain ⟨g8, h⟩ := chk h
            refine va_lald hx hb hK hP 0 1 rfl rfl (inb_in g8) dX9_about_85 ?_
            refine lv_l2i hx hb dX9_about_86 rfl ?_
            have hP := hP.sub (ws' := (cM a_this o3.2 ++ (cJ_ dT (a_this 2) 353 g_this_now))) [1, 0] rfl
            have hD := hD.sub (ws' := (cM a_this o3.2 ++ (cJ_ dT (a_this 2) 353 g_this_now))) [1, 0] (by decide) rfl
            exact rt_i hx hb hr hlk hK hS (o3.2 : TM) (ret2 h) hP hD dX9_about_87
          · replace h := iteT c7 h
            refine lv_aload_n hx hb dX9_about_61 rfl (lv_at hl 0 rfl) ?_
            refine gf_X9_13 (v := .ref (a_this 2)) hx hb hqs hown hK hP 1 rfl rfl dX9_about_62 ?_
            refine lv_sipush (v := 155) hx hb dX9_about_65 (by decide) ?_
            obtain ⟨o9, e9, h⟩ := obind h
            have hPc := hP.sub (ws' := (cJ_ dT (a_this 2) 353 g_this_now)) [0] rfl
            have hDc := hD.sub (ws' := (cJ_ dT (a_this 2) 353 g_this_now)) [0] (by decide) rfl
            have hFc := va_free (wc := (cJ_ dT (a_this 2) 353 g_this_now)) hD hS hA [0] rfl
            refine cl_l (wr := (cM a_this o3.2)) (va_runS (As := [.ref (a_this 2), .int (155 : Int32)]) (rest := []) ⟨hx, hb, hml, hown, hts⟩ (c_X9_count l hlt D dT (a_this 2) 353 g_this_now (155 : Int32) o9 e9 _) (va_cwS 2 hts (TB_S w_1184 w_1185 w_59 w_1186) rfl rfl rfl nd_X9_count ⟨Nat.le_of_ble_eq_true rfl, Nat.le_of_ble_eq_true rfl⟩) (cPre.S hPc hDc hK hE hS hFc) rfl rfl hl.1 rfl (lv_room (Nat.le_of_ble_eq_true rfl)) dX9_about_68 ⟨Nat.zero_le _, Nat.zero_le _⟩) hP hD hS hFc [0] [1] rfl rfl (by decide) (by decide) (fun r9 u9 H locs hw hP hD hS => ?_)
            obtain ⟨rfl, rfl⟩ := hw
            have hP : va_P D vwCl (cM a_this o3.2 ++ (cJ_ dT (a_this 2) 353 g_this_now)) H := hP
            have hD : va_D A (cM a_this o3.2 ++ (cJ_ dT (a_this 2) 353 g_this_now)) := hD
            refine lv_goto (tgt := 86) hx hb dX9_about_71 (by decide) ?_
            refine lv_l2i hx hb dX9_about_86 rfl ?_
            exact rt_i hx hb hr hlk hK hS (o3.2 : TM) (ret2 h) hP hD dX9_about_87
        · replace h := iteT c6 h
          refine lv_aload_n hx hb dX9_about_44 rfl (lv_at hl 0 rfl) ?_
          refine gf_X9_13 (v := .ref (a_this 2)) hx hb hqs hown hK hP 1 rfl rfl dX9_about_45 ?_
          refine lv_bipush (v := 8) hx hb dX9_about_48 (by decide) ?_
          obtain ⟨o10, e10, h⟩ := obind h
          have hPc := hP.sub (ws' := (cJ_ dT (a_this 2) 353 g_this_now)) [0] rfl
          have hDc := hD.sub (ws' := (cJ_ dT (a_this 2) 353 g_this_now)) [0] (by decide) rfl
          have hFc := va_free (wc := (cJ_ dT (a_this 2) 353 g_this_now)) hD hS hA [0] rfl
          refine cl_l (wr := (cM a_this o3.2)) (va_runS (As := [.ref (a_this 2), .int (8 : Int32)]) (rest := []) ⟨hx, hb, hml, hown, hts⟩ (c_X9_count l hlt D dT (a_this 2) 353 g_this_now (8 : Int32) o10 e10 _) (va_cwS 2 hts (TB_S w_1184 w_1185 w_59 w_1186) rfl rfl rfl nd_X9_count ⟨Nat.le_of_ble_eq_true rfl, Nat.le_of_ble_eq_true rfl⟩) (cPre.S hPc hDc hK hE hS hFc) rfl rfl hl.1 rfl (lv_room (Nat.le_of_ble_eq_true rfl)) dX9_about_50 ⟨Nat.zero_le _, Nat.zero_le _⟩) hP hD hS hFc [0] [1] rfl rfl (by decide) (by decide) (fun r10 u10 H locs hw hP hD hS => ?_)
          obtain ⟨rfl, rfl⟩ := hw
          have hP : va_P D vwCl (cM a_this o3.2 ++ (cJ_ dT (a_this 2) 353 g_this_now)) H := hP
          have hD : va_D A (cM a_this o3.2 ++ (cJ_ dT (a_this 2) 353 g_this_now)) := hD
          refine lv_goto (tgt := 86) hx hb dX9_about_53 (by decide) ?_
          refine lv_l2i hx hb dX9_about_86 rfl ?_
          exact rt_i hx hb hr hlk hK hS (o3.2 : TM) (ret2 h) hP hD dX9_about_87
      · replace h := iteT c5 h
        refine lv_aload_n hx hb dX9_about_30 rfl (lv_at hl 0 rfl) ?_
        refine gf_X9_13 (v := .ref (a_this 2)) hx hb hqs hown hK hP 1 rfl rfl dX9_about_31 ?_
        refine lv_iconst (v := 0) hx hb dX9_about_34 (by decide) ?_
        obtain ⟨g11, h⟩ := chk h
        refine va_lald hx hb hK hP 0 1 rfl rfl (inb_in g11) dX9_about_35 ?_
        refine lv_goto (tgt := 86) hx hb dX9_about_36 (by decide) ?_
        refine lv_l2i hx hb dX9_about_86 rfl ?_
        have hP := hP.sub (ws' := (cM a_this o3.2 ++ (cJ_ dT (a_this 2) 353 g_this_now))) [1, 0] rfl
        have hD := hD.sub (ws' := (cM a_this o3.2 ++ (cJ_ dT (a_this 2) 353 g_this_now))) [1, 0] (by decide) rfl
        exact rt_i hx hb hr hlk hK hS (o3.2 : TM) (ret2 h) hP hD dX9_about_87
    · replace h := iteF c4 h
      refine lv_iconst (v := 0) hx hb dX9_about_24 (by decide) ?_
      have hP := hP.sub (ws' := (cM a_this o3.2 ++ (cJ_ dT (a_this 2) 353 g_this_now))) [1, 0] rfl
      have hD := hD.sub (ws' := (cM a_this o3.2 ++ (cJ_ dT (a_this 2) 353 g_this_now))) [1, 0] (by decide) rfl
      exact rt_i hx hb hr hlk hK hS (o3.2 : TM) (ret2 h) hP hD dX9_about_25
  unfold f_X9_about at h
  refine lv_aload_n hx hb dX9_about_0 rfl (lv_at hl 0 rfl) ?_
  refine lv_iload_n hx hb dX9_about_1 rfl (lv_at hl 1 rfl) ?_
  refine lv_i2l hx hb dX9_about_2 rfl ?_
  refine lv_lconst (v := 0) hx hb dX9_about_3 (by decide) ?_
  refine lv_ldc2 (v := 5) hx hb hown (hqs _ w_1198) dX9_about_4 ?_
  obtain ⟨o1, e1, h⟩ := obind h
  have hPc := hP.sub (ws' := ([] : va_W)) [] rfl
  have hDc := hD.sub (ws' := ([] : va_W)) [] (by decide) rfl
  have hFc := va_free (wc := ([] : va_W)) hD hS hA [] rfl
  refine cl_i (wr := (cM a_this g_this ++ (cJ_ dT (a_this 2) 353 g_this_now))) (va_runS (As := [.long (Int32.toInt64 v1), .long (0 : Int64), .long (5 : Int64)]) (rest := [.ref (a_this 0)]) ⟨hx, hb, hml, hown, hts⟩ (c_X9_in l hlt D dT (Int32.toInt64 v1) (0 : Int64) (5 : Int64) o1 e1 _) (va_cwS 3 hts (TB_S w_1129 w_1130 w_59 w_1131) rfl rfl rfl nd_X9_in ⟨Nat.le_of_ble_eq_true rfl, Nat.le_of_ble_eq_true rfl⟩) (cPre.S hPc hDc hK hE hS hFc) rfl rfl hl.1 rfl (lv_room (Nat.le_of_ble_eq_true rfl)) dX9_about_7 ⟨Nat.zero_le _, Nat.zero_le _⟩) hP hD hS hFc [] [0, 1] rfl rfl (by decide) (by decide) (fun r1 u1 H locs hw hP hD hS => ?_)
  obtain ⟨rfl, rfl⟩ := hw
  have hP : va_P D vwCl (cM a_this g_this ++ (cJ_ dT (a_this 2) 353 g_this_now)) H := hP
  have hD : va_D A (cM a_this g_this ++ (cJ_ dT (a_this 2) 353 g_this_now)) := hD
  refine lv_if_eq (tgt := 17) hx hb dX9_about_10 (by decide) (fun c2 => ?_) (fun c2 => ?_)
  · replace h := iteT c2 h
    refine lv_iconst (v := 1) hx hb dX9_about_17 (by decide) ?_
    refine L_f_X9_about_J18 g_this_now v1 (1 : Int32) g_this   _ _ _ h hP hD hS (lv_sub hl [0, 1] rfl)
  · replace h := iteF c2 h
    refine lv_iconst (v := 0) hx hb dX9_about_13 (by decide) ?_
    refine lv_goto (tgt := 18) hx hb dX9_about_14 (by decide) ?_
    refine L_f_X9_about_J18 g_this_now v1 (0 : Int32) g_this   _ _ _ h hP hD hS (lv_sub hl [0, 1] rfl)

def f_X9_sum_J18 (g_this_now : Nat → Int64)  (x1 : Int32) (s0 : Int32) (g_this : TM) : Option (Int64 × (TM)) :=
    ((f_X9_refused g_this s0).bind fun o3 => (if o3.1 = (0 : Int32) then (if inb ((308 : Int32) + x1) 353 = true then (some ((g_this_now ((308 : Int32) + x1).toNatClampNeg), o3.2)) else none) else (some ((0 : Int64), o3.2))))
def f_X9_sum (g_this : TM) (g_this_now : Nat → Int64) (v1 : Int32) : Option (Int64 × (TM)) :=
  ((f_X9_in (Int32.toInt64 v1) (0 : Int64) (3 : Int64)).bind fun o1 => (if o1.1 = (0 : Int32) then (f_X9_sum_J18 g_this_now v1 (1 : Int32) g_this) else (f_X9_sum_J18 g_this_now v1 (0 : Int32) g_this)))
set_option maxHeartbeats 8000000 in
set_option maxRecDepth 100000 in
theorem c_X9_sum (l : Launch) (hlt : l.stackTraces = false) (D : va_G) (dT : Nat → ClassId) (a_this : Nat → Nat) (g_this : TM) (g_this_now : Nat → Int64) (v1 : Int32) (o : (Int64 × (TM))) (h : f_X9_sum g_this g_this_now v1 = some o) (sz : Nat) : Met l yX9_sum (WSm yX9_sum cX9_sum 2 (some .long)) { frames := 1, cells := 0, slots := 0, locals := 25 } (va_Pc [.ref (a_this 0), .int v1] (cPre D dT (cM a_this g_this ++ (cJ_ dT (a_this 2) 353 g_this_now)) sz)) (va_Ql (fun (r : Int64) (u : TM) => r = o.1 ∧ u = o.2) (fun u t => cAt D dT (va_A (cM a_this g_this ++ (cJ_ dT (a_this 2) 353 g_this_now)) sz) (cM a_this u ++ (cJ_ dT (a_this 2) 353 g_this_now)) t) (va_A (cM a_this g_this ++ (cJ_ dT (a_this 2) 353 g_this_now)) sz)) 0 0 (va_A (cM a_this g_this ++ (cJ_ dT (a_this 2) 353 g_this_now)) sz) := by
  refine mStart (WS := (cM a_this g_this ++ (cJ_ dT (a_this 2) 353 g_this_now))) (Qc := fun A => va_Ql (fun (r : Int64) (u : TM) => r = o.1 ∧ u = o.2) (fun u t => cAt D dT A (cM a_this u ++ (cJ_ dT (a_this 2) 353 g_this_now)) t) A) RX9 rfl (by decide) (Nat.le_of_ble_eq_true rfl) ?_ sz
  intro p e s m below meth c A ls hx hb hml hr hlk hnm hts hqs hown hE hA hK hP hD hS hl
  have hl : lv_has ls 2 [(0, .ref (a_this 0)), (1, .int v1)] := hl
  have L_f_X9_sum_J18 : ∀ (g_this_now : Nat → Int64) (x1 : Int32) (s0 : Int32) (g_this : TM)   (H : Heap) (locs : List Loc) (ls : Array Slot), f_X9_sum_J18 g_this_now  x1 s0 g_this = some o → va_P D vwCl (cM a_this g_this ++ (cJ_ dT (a_this 2) 353 g_this_now)) H → va_D A (cM a_this g_this ++ (cJ_ dT (a_this 2) 353 g_this_now)) → va_S A s.heap H locs → lv_has ls 2 [(0, .ref (a_this 0)), (1, .int x1)] → W p l e (headSpec (WSm yX9_sum cX9_sum 2 (some .long)) { frames := 1, cells := 0, slots := 0, locals := 25 }).room s m [.ref (a_this 0), .int v1].toArray below meth c H locs 0 0 (MQ below (va_Ql (fun (r : Int64) (u : TM) => r = o.1 ∧ u = o.2) (fun u t => cAt D dT A (cM a_this u ++ (cJ_ dT (a_this 2) 353 g_this_now)) t) A) [.ref (a_this 0), .int v1].toArray s 0 0 A) (F0 m 18 ls [.int s0, .ref (a_this 0)]) := by
    intro g_this_now x1 s0 g_this   H locs ls h hP hD hS hl
    unfold f_X9_sum_J18 at h
    obtain ⟨o3, e3, h⟩ := obind h
    have hPc := hP.sub (ws' := (cM a_this g_this)) [0] rfl
    have hDc := hD.sub (ws' := (cM a_this g_this)) [0] (by decide) rfl
    have hFc := va_free (wc := (cM a_this g_this)) hD hS hA [0] rfl
    refine cl_i (wr := (cJ_ dT (a_this 2) 353 g_this_now)) (va_runV (As := [.int s0]) (rest := []) ⟨hx, hb, hml, hown, hts⟩ (c_X9_refused l hlt D dT a_this g_this s0 o3 e3 _) (cwV 1 hts (TB_V w_1132 w_1134 w_32 w_59 w_1135) rfl rfl rfl ⟨rfl, nd_X9_refused⟩ ⟨Nat.le_of_ble_eq_true rfl, Nat.le_of_ble_eq_true rfl⟩) (cPre.V hPc hDc hK hE hS hFc (va_recv hK hP (ci := 8) (q0 := 0) rfl rfl)) rfl rfl hl.1 rfl (lv_room (Nat.le_of_ble_eq_true rfl)) dX9_sum_18 ⟨Nat.zero_le _, Nat.zero_le _⟩) hP hD hS hFc [0] [1] rfl rfl (by decide) (by decide) (fun r3 u3 H locs hw hP hD hS => ?_)
    obtain ⟨rfl, rfl⟩ := hw
    have hP : va_P D vwCl (cJ_ dT (a_this 2) 353 g_this_now ++ (cM a_this o3.2)) H := hP
    have hD : va_D A (cJ_ dT (a_this 2) 353 g_this_now ++ (cM a_this o3.2)) := hD
    refine lv_if_eq (tgt := 26) hx hb dX9_sum_21 (by decide) (fun c4 => ?_) (fun c4 => ?_)
    · replace h := iteT c4 h
      refine lv_aload_n hx hb dX9_sum_26 rfl (lv_at hl 0 rfl) ?_
      refine gf_X9_13 (v := .ref (a_this 2)) hx hb hqs hown hK hP 1 rfl rfl dX9_sum_27 ?_
      refine lv_sipush (v := 308) hx hb dX9_sum_30 (by decide) ?_
      refine lv_iload_n hx hb dX9_sum_33 rfl (lv_at hl 1 rfl) ?_
      refine lv_iadd hx hb dX9_sum_34 ?_
      obtain ⟨g5, h⟩ := chk h
      refine va_lald hx hb hK hP 0 1 rfl rfl (inb_in g5) dX9_sum_35 ?_
      have hP := hP.sub (ws' := (cM a_this o3.2 ++ (cJ_ dT (a_this 2) 353 g_this_now))) [1, 0] rfl
      have hD := hD.sub (ws' := (cM a_this o3.2 ++ (cJ_ dT (a_this 2) 353 g_this_now))) [1, 0] (by decide) rfl
      exact rt_l hx hb hr hlk hK hS (o3.2 : TM) (ret2 h) hP hD dX9_sum_36
    · replace h := iteF c4 h
      refine lv_lconst (v := 0) hx hb dX9_sum_24 (by decide) ?_
      have hP := hP.sub (ws' := (cM a_this o3.2 ++ (cJ_ dT (a_this 2) 353 g_this_now))) [1, 0] rfl
      have hD := hD.sub (ws' := (cM a_this o3.2 ++ (cJ_ dT (a_this 2) 353 g_this_now))) [1, 0] (by decide) rfl
      exact rt_l hx hb hr hlk hK hS (o3.2 : TM) (ret2 h) hP hD dX9_sum_25
  unfold f_X9_sum at h
  refine lv_aload_n hx hb dX9_sum_0 rfl (lv_at hl 0 rfl) ?_
  refine lv_iload_n hx hb dX9_sum_1 rfl (lv_at hl 1 rfl) ?_
  refine lv_i2l hx hb dX9_sum_2 rfl ?_
  refine lv_lconst (v := 0) hx hb dX9_sum_3 (by decide) ?_
  refine lv_ldc2 (v := 3) hx hb hown (hqs _ w_1203) dX9_sum_4 ?_
  obtain ⟨o1, e1, h⟩ := obind h
  have hPc := hP.sub (ws' := ([] : va_W)) [] rfl
  have hDc := hD.sub (ws' := ([] : va_W)) [] (by decide) rfl
  have hFc := va_free (wc := ([] : va_W)) hD hS hA [] rfl
  refine cl_i (wr := (cM a_this g_this ++ (cJ_ dT (a_this 2) 353 g_this_now))) (va_runS (As := [.long (Int32.toInt64 v1), .long (0 : Int64), .long (3 : Int64)]) (rest := [.ref (a_this 0)]) ⟨hx, hb, hml, hown, hts⟩ (c_X9_in l hlt D dT (Int32.toInt64 v1) (0 : Int64) (3 : Int64) o1 e1 _) (va_cwS 3 hts (TB_S w_1129 w_1130 w_59 w_1131) rfl rfl rfl nd_X9_in ⟨Nat.le_of_ble_eq_true rfl, Nat.le_of_ble_eq_true rfl⟩) (cPre.S hPc hDc hK hE hS hFc) rfl rfl hl.1 rfl (lv_room (Nat.le_of_ble_eq_true rfl)) dX9_sum_7 ⟨Nat.zero_le _, Nat.zero_le _⟩) hP hD hS hFc [] [0, 1] rfl rfl (by decide) (by decide) (fun r1 u1 H locs hw hP hD hS => ?_)
  obtain ⟨rfl, rfl⟩ := hw
  have hP : va_P D vwCl (cM a_this g_this ++ (cJ_ dT (a_this 2) 353 g_this_now)) H := hP
  have hD : va_D A (cM a_this g_this ++ (cJ_ dT (a_this 2) 353 g_this_now)) := hD
  refine lv_if_eq (tgt := 17) hx hb dX9_sum_10 (by decide) (fun c2 => ?_) (fun c2 => ?_)
  · replace h := iteT c2 h
    refine lv_iconst (v := 1) hx hb dX9_sum_17 (by decide) ?_
    refine L_f_X9_sum_J18 g_this_now v1 (1 : Int32) g_this   _ _ _ h hP hD hS (lv_sub hl [0, 1] rfl)
  · replace h := iteF c2 h
    refine lv_iconst (v := 0) hx hb dX9_sum_13 (by decide) ?_
    refine lv_goto (tgt := 18) hx hb dX9_sum_14 (by decide) ?_
    refine L_f_X9_sum_J18 g_this_now v1 (0 : Int32) g_this   _ _ _ h hP hD hS (lv_sub hl [0, 1] rfl)

def f_X9_size_J17 (g_this_now : Nat → Int64)  (x1 : Int32) (s0 : Int32) (g_this : TM) : Option (Int32 × (TM)) :=
    ((f_X9_refused g_this s0).bind fun o3 => (if o3.1 = (0 : Int32) then (if inb ((1 : Int32) + x1) 353 = true then (some ((Int64.toInt32 (g_this_now ((1 : Int32) + x1).toNatClampNeg)), o3.2)) else none) else (some ((0 : Int32), o3.2))))
def f_X9_size (g_this : TM) (g_this_now : Nat → Int64) (v1 : Int32) : Option (Int32 × (TM)) :=
  ((f_X9_isTable 353 g_this_now v1).bind fun o1 => (if o1.1 = (0 : Int32) then (f_X9_size_J17 g_this_now v1 (1 : Int32) g_this) else (f_X9_size_J17 g_this_now v1 (0 : Int32) g_this)))
set_option maxHeartbeats 8000000 in
set_option maxRecDepth 100000 in
theorem c_X9_size (l : Launch) (hlt : l.stackTraces = false) (D : va_G) (dT : Nat → ClassId) (a_this : Nat → Nat) (g_this : TM) (g_this_now : Nat → Int64) (v1 : Int32) (o : (Int32 × (TM))) (h : f_X9_size g_this g_this_now v1 = some o) (sz : Nat) : Met l yX9_size (WSm yX9_size cX9_size 2 (some .int)) { frames := 2, cells := 0, slots := 0, locals := 46 } (va_Pc [.ref (a_this 0), .int v1] (cPre D dT (cM a_this g_this ++ (cJ_ dT (a_this 2) 353 g_this_now)) sz)) (va_Qi (fun (r : Int32) (u : TM) => r = o.1 ∧ u = o.2) (fun u t => cAt D dT (va_A (cM a_this g_this ++ (cJ_ dT (a_this 2) 353 g_this_now)) sz) (cM a_this u ++ (cJ_ dT (a_this 2) 353 g_this_now)) t) (va_A (cM a_this g_this ++ (cJ_ dT (a_this 2) 353 g_this_now)) sz)) 0 0 (va_A (cM a_this g_this ++ (cJ_ dT (a_this 2) 353 g_this_now)) sz) := by
  refine mStart (WS := (cM a_this g_this ++ (cJ_ dT (a_this 2) 353 g_this_now))) (Qc := fun A => va_Qi (fun (r : Int32) (u : TM) => r = o.1 ∧ u = o.2) (fun u t => cAt D dT A (cM a_this u ++ (cJ_ dT (a_this 2) 353 g_this_now)) t) A) RX9 rfl (by decide) (Nat.le_of_ble_eq_true rfl) ?_ sz
  intro p e s m below meth c A ls hx hb hml hr hlk hnm hts hqs hown hE hA hK hP hD hS hl
  have hl : lv_has ls 2 [(0, .ref (a_this 0)), (1, .int v1)] := hl
  have L_f_X9_size_J17 : ∀ (g_this_now : Nat → Int64) (x1 : Int32) (s0 : Int32) (g_this : TM)   (H : Heap) (locs : List Loc) (ls : Array Slot), f_X9_size_J17 g_this_now  x1 s0 g_this = some o → va_P D vwCl (cM a_this g_this ++ (cJ_ dT (a_this 2) 353 g_this_now)) H → va_D A (cM a_this g_this ++ (cJ_ dT (a_this 2) 353 g_this_now)) → va_S A s.heap H locs → lv_has ls 2 [(0, .ref (a_this 0)), (1, .int x1)] → W p l e (headSpec (WSm yX9_size cX9_size 2 (some .int)) { frames := 2, cells := 0, slots := 0, locals := 46 }).room s m [.ref (a_this 0), .int v1].toArray below meth c H locs 0 0 (MQ below (va_Qi (fun (r : Int32) (u : TM) => r = o.1 ∧ u = o.2) (fun u t => cAt D dT A (cM a_this u ++ (cJ_ dT (a_this 2) 353 g_this_now)) t) A) [.ref (a_this 0), .int v1].toArray s 0 0 A) (F0 m 17 ls [.int s0, .ref (a_this 0)]) := by
    intro g_this_now x1 s0 g_this   H locs ls h hP hD hS hl
    unfold f_X9_size_J17 at h
    obtain ⟨o3, e3, h⟩ := obind h
    have hPc := hP.sub (ws' := (cM a_this g_this)) [0] rfl
    have hDc := hD.sub (ws' := (cM a_this g_this)) [0] (by decide) rfl
    have hFc := va_free (wc := (cM a_this g_this)) hD hS hA [0] rfl
    refine cl_i (wr := (cJ_ dT (a_this 2) 353 g_this_now)) (va_runV (As := [.int s0]) (rest := []) ⟨hx, hb, hml, hown, hts⟩ (c_X9_refused l hlt D dT a_this g_this s0 o3 e3 _) (cwV 1 hts (TB_V w_1132 w_1134 w_32 w_59 w_1135) rfl rfl rfl ⟨rfl, nd_X9_refused⟩ ⟨Nat.le_of_ble_eq_true rfl, Nat.le_of_ble_eq_true rfl⟩) (cPre.V hPc hDc hK hE hS hFc (va_recv hK hP (ci := 8) (q0 := 0) rfl rfl)) rfl rfl hl.1 rfl (lv_room (Nat.le_of_ble_eq_true rfl)) dX9_size_17 ⟨Nat.zero_le _, Nat.zero_le _⟩) hP hD hS hFc [0] [1] rfl rfl (by decide) (by decide) (fun r3 u3 H locs hw hP hD hS => ?_)
    obtain ⟨rfl, rfl⟩ := hw
    have hP : va_P D vwCl (cJ_ dT (a_this 2) 353 g_this_now ++ (cM a_this o3.2)) H := hP
    have hD : va_D A (cJ_ dT (a_this 2) 353 g_this_now ++ (cM a_this o3.2)) := hD
    refine lv_if_eq (tgt := 25) hx hb dX9_size_20 (by decide) (fun c4 => ?_) (fun c4 => ?_)
    · replace h := iteT c4 h
      refine lv_aload_n hx hb dX9_size_25 rfl (lv_at hl 0 rfl) ?_
      refine gf_X9_13 (v := .ref (a_this 2)) hx hb hqs hown hK hP 1 rfl rfl dX9_size_26 ?_
      refine lv_iconst (v := 1) hx hb dX9_size_29 (by decide) ?_
      refine lv_iload_n hx hb dX9_size_30 rfl (lv_at hl 1 rfl) ?_
      refine lv_iadd hx hb dX9_size_31 ?_
      obtain ⟨g5, h⟩ := chk h
      refine va_lald hx hb hK hP 0 1 rfl rfl (inb_in g5) dX9_size_32 ?_
      refine lv_l2i hx hb dX9_size_33 rfl ?_
      have hP := hP.sub (ws' := (cM a_this o3.2 ++ (cJ_ dT (a_this 2) 353 g_this_now))) [1, 0] rfl
      have hD := hD.sub (ws' := (cM a_this o3.2 ++ (cJ_ dT (a_this 2) 353 g_this_now))) [1, 0] (by decide) rfl
      exact rt_i hx hb hr hlk hK hS (o3.2 : TM) (ret2 h) hP hD dX9_size_34
    · replace h := iteF c4 h
      refine lv_iconst (v := 0) hx hb dX9_size_23 (by decide) ?_
      have hP := hP.sub (ws' := (cM a_this o3.2 ++ (cJ_ dT (a_this 2) 353 g_this_now))) [1, 0] rfl
      have hD := hD.sub (ws' := (cM a_this o3.2 ++ (cJ_ dT (a_this 2) 353 g_this_now))) [1, 0] (by decide) rfl
      exact rt_i hx hb hr hlk hK hS (o3.2 : TM) (ret2 h) hP hD dX9_size_24
  unfold f_X9_size at h
  refine lv_aload_n hx hb dX9_size_0 rfl (lv_at hl 0 rfl) ?_
  refine lv_aload_n hx hb dX9_size_1 rfl (lv_at hl 0 rfl) ?_
  refine gf_X9_13 (v := .ref (a_this 2)) hx hb hqs hown hK hP 0 rfl rfl dX9_size_2 ?_
  refine lv_iload_n hx hb dX9_size_5 rfl (lv_at hl 1 rfl) ?_
  obtain ⟨o1, e1, h⟩ := obind h
  have hPc := hP.sub (ws' := (cJ_ dT (a_this 2) 353 g_this_now)) [1] rfl
  have hDc := hD.sub (ws' := (cJ_ dT (a_this 2) 353 g_this_now)) [1] (by decide) rfl
  have hFc := va_free (wc := (cJ_ dT (a_this 2) 353 g_this_now)) hD hS hA [1] rfl
  refine cl_i (wr := (cM a_this g_this)) (va_runS (As := [.ref (a_this 2), .int v1]) (rest := [.ref (a_this 0)]) ⟨hx, hb, hml, hown, hts⟩ (c_X9_isTable l hlt D dT (a_this 2) 353 g_this_now v1 o1 e1 _) (va_cwS 2 hts (TB_S w_1175 w_1176 w_59 w_1177) rfl rfl rfl nd_X9_isTable ⟨Nat.le_of_ble_eq_true rfl, Nat.le_of_ble_eq_true rfl⟩) (cPre.S hPc hDc hK hE hS hFc) rfl rfl hl.1 rfl (lv_room (Nat.le_of_ble_eq_true rfl)) dX9_size_6 ⟨Nat.zero_le _, Nat.zero_le _⟩) hP hD hS hFc [1] [0] rfl rfl (by decide) (by decide) (fun r1 u1 H locs hw hP hD hS => ?_)
  obtain ⟨rfl, rfl⟩ := hw
  have hP : va_P D vwCl (cM a_this g_this ++ (cJ_ dT (a_this 2) 353 g_this_now)) H := hP
  have hD : va_D A (cM a_this g_this ++ (cJ_ dT (a_this 2) 353 g_this_now)) := hD
  refine lv_if_eq (tgt := 16) hx hb dX9_size_9 (by decide) (fun c2 => ?_) (fun c2 => ?_)
  · replace h := iteT c2 h
    refine lv_iconst (v := 1) hx hb dX9_size_16 (by decide) ?_
    refine L_f_X9_size_J17 g_this_now v1 (1 : Int32) g_this   _ _ _ h hP hD hS (lv_sub hl [0, 1] rfl)
  · replace h := iteF c2 h
    refine lv_iconst (v := 0) hx hb dX9_size_12 (by decide) ?_
    refine lv_goto (tgt := 17) hx hb dX9_size_13 (by decide) ?_
    refine L_f_X9_size_J17 g_this_now v1 (0 : Int32) g_this   _ _ _ h hP hD hS (lv_sub hl [0, 1] rfl)

def f_X9_arePair (n_p1 : Nat) (g_p1 : Nat → Int64) (v1 : Int32) (v2 : Int32) : Option (Int32 × (Unit)) :=
  ((f_X9_isTable n_p1 g_p1 v1).bind fun o1 => (if o1.1 = (0 : Int32) then (some ((0 : Int32), ())) else ((f_X9_isTable n_p1 g_p1 v2).bind fun o3 => (if o3.1 = (0 : Int32) then (some ((0 : Int32), ())) else (some ((1 : Int32), ()))))))
set_option maxHeartbeats 8000000 in
set_option maxRecDepth 100000 in
theorem c_X9_arePair (l : Launch) (hlt : l.stackTraces = false) (D : va_G) (dT : Nat → ClassId) (a_p1 : Nat) (n_p1 : Nat) (g_p1 : Nat → Int64) (v1 : Int32) (v2 : Int32) (o : (Int32 × (Unit))) (h : f_X9_arePair n_p1 g_p1 v1 v2 = some o) (sz : Nat) : Met l yX9_arePair (WSm yX9_arePair cX9_arePair 3 (some .boolean)) { frames := 2, cells := 0, slots := 0, locals := 46 } (va_Pc [.ref a_p1, .int v1, .int v2] (cPre D dT (cJ_ dT a_p1 n_p1 g_p1) sz)) (va_Qi (fun (r : Int32) (u : Unit) => r = o.1 ∧ u = o.2) (fun u t => cAt D dT (va_A (cJ_ dT a_p1 n_p1 g_p1) sz) (cJ_ dT a_p1 n_p1 g_p1) t) (va_A (cJ_ dT a_p1 n_p1 g_p1) sz)) 0 0 (va_A (cJ_ dT a_p1 n_p1 g_p1) sz) := by
  refine mStart (WS := (cJ_ dT a_p1 n_p1 g_p1)) (Qc := fun A => va_Qi (fun (r : Int32) (u : Unit) => r = o.1 ∧ u = o.2) (fun u t => cAt D dT A (cJ_ dT a_p1 n_p1 g_p1) t) A) RX9 rfl (by decide) (Nat.le_of_ble_eq_true rfl) ?_ sz
  intro p e s m below meth c A ls hx hb hml hr hlk hnm hts hqs hown hE hA hK hP hD hS hl
  have hl : lv_has ls 3 [(0, .ref a_p1), (1, .int v1), (2, .int v2)] := hl
  unfold f_X9_arePair at h
  refine lv_aload_n hx hb dX9_arePair_0 rfl (lv_at hl 0 rfl) ?_
  refine lv_iload_n hx hb dX9_arePair_1 rfl (lv_at hl 1 rfl) ?_
  obtain ⟨o1, e1, h⟩ := obind h
  have hPc := hP
  have hDc := hD
  have hFc := vfall hD hS hA
  refine cl_iA (va_runS (As := [.ref a_p1, .int v1]) (rest := []) ⟨hx, hb, hml, hown, hts⟩ (c_X9_isTable l hlt D dT a_p1 n_p1 g_p1 v1 o1 e1 _) (va_cwS 2 hts (TB_S w_1175 w_1176 w_59 w_1177) rfl rfl rfl nd_X9_isTable ⟨Nat.le_of_ble_eq_true rfl, Nat.le_of_ble_eq_true rfl⟩) (cPre.S hPc hDc hK hE hS hFc) rfl rfl hl.1 rfl (lv_room (Nat.le_of_ble_eq_true rfl)) dX9_arePair_2 ⟨Nat.zero_le _, Nat.zero_le _⟩) hS hFc (fun r1 u1 H locs hw hP hD hS => ?_)
  obtain ⟨rfl, rfl⟩ := hw
  have hP : va_P D vwCl (cJ_ dT a_p1 n_p1 g_p1) H := hP
  have hD : va_D A (cJ_ dT a_p1 n_p1 g_p1) := hD
  refine lv_if_eq (tgt := 20) hx hb dX9_arePair_5 (by decide) (fun c2 => ?_) (fun c2 => ?_)
  · replace h := iteT c2 h
    refine lv_iconst (v := 0) hx hb dX9_arePair_20 (by decide) ?_
    exact rt_z hx hb hr hlk hK hS (() : Unit) (ret2 h) (by decide) hP hD dX9_arePair_21
  · replace h := iteF c2 h
    refine lv_aload_n hx hb dX9_arePair_8 rfl (lv_at hl 0 rfl) ?_
    refine lv_iload_n hx hb dX9_arePair_9 rfl (lv_at hl 2 rfl) ?_
    obtain ⟨o3, e3, h⟩ := obind h
    have hPc := hP
    have hDc := hD
    have hFc := vfall hD hS hA
    refine cl_iA (va_runS (As := [.ref a_p1, .int v2]) (rest := []) ⟨hx, hb, hml, hown, hts⟩ (c_X9_isTable l hlt D dT a_p1 n_p1 g_p1 v2 o3 e3 _) (va_cwS 2 hts (TB_S w_1175 w_1176 w_59 w_1177) rfl rfl rfl nd_X9_isTable ⟨Nat.le_of_ble_eq_true rfl, Nat.le_of_ble_eq_true rfl⟩) (cPre.S hPc hDc hK hE hS hFc) rfl rfl hl.1 rfl (lv_room (Nat.le_of_ble_eq_true rfl)) dX9_arePair_10 ⟨Nat.zero_le _, Nat.zero_le _⟩) hS hFc (fun r3 u3 H locs hw hP hD hS => ?_)
    obtain ⟨rfl, rfl⟩ := hw
    have hP : va_P D vwCl (cJ_ dT a_p1 n_p1 g_p1) H := hP
    have hD : va_D A (cJ_ dT a_p1 n_p1 g_p1) := hD
    refine lv_if_eq (tgt := 20) hx hb dX9_arePair_13 (by decide) (fun c4 => ?_) (fun c4 => ?_)
    · replace h := iteT c4 h
      refine lv_iconst (v := 0) hx hb dX9_arePair_20 (by decide) ?_
      exact rt_z hx hb hr hlk hK hS (() : Unit) (ret2 h) (by decide) hP hD dX9_arePair_21
    · replace h := iteF c4 h
      refine lv_iconst (v := 1) hx hb dX9_arePair_16 (by decide) ?_
      refine lv_goto (tgt := 21) hx hb dX9_arePair_17 (by decide) ?_
      exact rt_z hx hb hr hlk hK hS (() : Unit) (ret2 h) (by decide) hP hD dX9_arePair_21

def f_X9_pair_J39 (g_this_now : Nat → Int64)  (x1 : Int32) (x2 : Int32) (x3 : Int32) (s0 : Int32) (g_this : TM) : Option (Int32 × (TM)) :=
    ((f_X9_refused g_this s0).bind fun o4 => (if o4.1 = (0 : Int32) then ((f_X9_pairOf x1 x2).bind fun o6 => (if inb ((8 : Int32) + o6.1) 353 = true then (if (lg_cmp (g_this_now ((8 : Int32) + o6.1).toNatClampNeg) (0 : Int64)) = (0 : Int32) then (some ((-1 : Int32), o4.2)) else (if x3 = (0 : Int32) then (if inb ((57 : Int32) + o6.1) 353 = true then (some ((Int64.toInt32 (g_this_now ((57 : Int32) + o6.1).toNatClampNeg)), o4.2)) else none) else (if x3 = (1 : Int32) then (if inb ((106 : Int32) + o6.1) 353 = true then (some ((Int64.toInt32 (g_this_now ((106 : Int32) + o6.1).toNatClampNeg)), o4.2)) else none) else (if x3 = (2 : Int32) then ((f_X9_believed 353 g_this_now o6.1).bind fun o12 => (some ((Int64.toInt32 o12.1), o4.2))) else (if x3 = (3 : Int32) then (if inb ((155 : Int32) + o6.1) 353 = true then (if (lg_cmp (g_this_now ((155 : Int32) + o6.1).toNatClampNeg) (0 : Int64)) ≤ (0 : Int32) then (some ((-1 : Int32), o4.2)) else (if inb ((204 : Int32) + o6.1) 353 = true then (some ((Int64.toInt32 (g_this_now ((204 : Int32) + o6.1).toNatClampNeg)), o4.2)) else none)) else none) else (if inb ((253 : Int32) + o6.1) 353 = true then (some ((Int64.toInt32 (g_this_now ((253 : Int32) + o6.1).toNatClampNeg)), o4.2)) else none)))))) else none)) else (some ((0 : Int32), o4.2))))
def f_X9_pair_J34 (g_this_now : Nat → Int64)  (x1 : Int32) (x2 : Int32) (x3 : Int32) (g_this : TM) : Option (Int32 × (TM)) :=
    (f_X9_pair_J39 g_this_now x1 x2 x3 (2 : Int32) g_this)
def f_X9_pair (g_this : TM) (g_this_now : Nat → Int64) (v1 : Int32) (v2 : Int32) (v3 : Int32) : Option (Int32 × (TM)) :=
  ((f_X9_arePair 353 g_this_now v1 v2).bind fun o1 => (if o1.1 = (0 : Int32) then (f_X9_pair_J39 g_this_now v1 v2 v3 (1 : Int32) g_this) else (if v1 = v2 then (f_X9_pair_J34 g_this_now v1 v2 v3 g_this) else ((f_X9_in (Int32.toInt64 v3) (0 : Int64) (4 : Int64)).bind fun o17 => (if o17.1 = (0 : Int32) then (f_X9_pair_J34 g_this_now v1 v2 v3 g_this) else (f_X9_pair_J39 g_this_now v1 v2 v3 (0 : Int32) g_this))))))
set_option maxHeartbeats 8000000 in
set_option maxRecDepth 100000 in
theorem c_X9_pair (l : Launch) (hlt : l.stackTraces = false) (D : va_G) (dT : Nat → ClassId) (a_this : Nat → Nat) (g_this : TM) (g_this_now : Nat → Int64) (v1 : Int32) (v2 : Int32) (v3 : Int32) (o : (Int32 × (TM))) (h : f_X9_pair g_this g_this_now v1 v2 v3 = some o) (sz : Nat) : Met l yX9_pair (WSm yX9_pair cX9_pair 5 (some .int)) { frames := 3, cells := 0, slots := 0, locals := 68 } (va_Pc [.ref (a_this 0), .int v1, .int v2, .int v3] (cPre D dT (cM a_this g_this ++ (cJ_ dT (a_this 2) 353 g_this_now)) sz)) (va_Qi (fun (r : Int32) (u : TM) => r = o.1 ∧ u = o.2) (fun u t => cAt D dT (va_A (cM a_this g_this ++ (cJ_ dT (a_this 2) 353 g_this_now)) sz) (cM a_this u ++ (cJ_ dT (a_this 2) 353 g_this_now)) t) (va_A (cM a_this g_this ++ (cJ_ dT (a_this 2) 353 g_this_now)) sz)) 0 0 (va_A (cM a_this g_this ++ (cJ_ dT (a_this 2) 353 g_this_now)) sz) := by
  refine mStart (WS := (cM a_this g_this ++ (cJ_ dT (a_this 2) 353 g_this_now))) (Qc := fun A => va_Qi (fun (r : Int32) (u : TM) => r = o.1 ∧ u = o.2) (fun u t => cAt D dT A (cM a_this u ++ (cJ_ dT (a_this 2) 353 g_this_now)) t) A) RX9 rfl (by decide) (Nat.le_of_ble_eq_true rfl) ?_ sz
  intro p e s m below meth c A ls hx hb hml hr hlk hnm hts hqs hown hE hA hK hP hD hS hl
  have hl : lv_has ls 5 [(0, .ref (a_this 0)), (1, .int v1), (2, .int v2), (3, .int v3)] := hl
  have L_f_X9_pair_J39 : ∀ (g_this_now : Nat → Int64) (x1 : Int32) (x2 : Int32) (x3 : Int32) (s0 : Int32) (g_this : TM)   (H : Heap) (locs : List Loc) (ls : Array Slot), f_X9_pair_J39 g_this_now  x1 x2 x3 s0 g_this = some o → va_P D vwCl (cM a_this g_this ++ (cJ_ dT (a_this 2) 353 g_this_now)) H → va_D A (cM a_this g_this ++ (cJ_ dT (a_this 2) 353 g_this_now)) → va_S A s.heap H locs → lv_has ls 5 [(0, .ref (a_this 0)), (1, .int x1), (2, .int x2), (3, .int x3)] → W p l e (headSpec (WSm yX9_pair cX9_pair 5 (some .int)) { frames := 3, cells := 0, slots := 0, locals := 68 }).room s m [.ref (a_this 0), .int v1, .int v2, .int v3].toArray below meth c H locs 0 0 (MQ below (va_Qi (fun (r : Int32) (u : TM) => r = o.1 ∧ u = o.2) (fun u t => cAt D dT A (cM a_this u ++ (cJ_ dT (a_this 2) 353 g_this_now)) t) A) [.ref (a_this 0), .int v1, .int v2, .int v3].toArray s 0 0 A) (F0 m 39 ls [.int s0, .ref (a_this 0)]) := by
    intro g_this_now x1 x2 x3 s0 g_this   H locs ls h hP hD hS hl
    unfold f_X9_pair_J39 at h
    obtain ⟨o4, e4, h⟩ := obind h
    have hPc := hP.sub (ws' := (cM a_this g_this)) [0] rfl
    have hDc := hD.sub (ws' := (cM a_this g_this)) [0] (by decide) rfl
    have hFc := va_free (wc := (cM a_this g_this)) hD hS hA [0] rfl
    refine cl_i (wr := (cJ_ dT (a_this 2) 353 g_this_now)) (va_runV (As := [.int s0]) (rest := []) ⟨hx, hb, hml, hown, hts⟩ (c_X9_refused l hlt D dT a_this g_this s0 o4 e4 _) (cwV 1 hts (TB_V w_1132 w_1134 w_32 w_59 w_1135) rfl rfl rfl ⟨rfl, nd_X9_refused⟩ ⟨Nat.le_of_ble_eq_true rfl, Nat.le_of_ble_eq_true rfl⟩) (cPre.V hPc hDc hK hE hS hFc (va_recv hK hP (ci := 8) (q0 := 0) rfl rfl)) rfl rfl hl.1 rfl (lv_room (Nat.le_of_ble_eq_true rfl)) dX9_pair_39 ⟨Nat.zero_le _, Nat.zero_le _⟩) hP hD hS hFc [0] [1] rfl rfl (by decide) (by decide) (fun r4 u4 H locs hw hP hD hS => ?_)
    obtain ⟨rfl, rfl⟩ := hw
    have hP : va_P D vwCl (cJ_ dT (a_this 2) 353 g_this_now ++ (cM a_this o4.2)) H := hP
    have hD : va_D A (cJ_ dT (a_this 2) 353 g_this_now ++ (cM a_this o4.2)) := hD
    refine lv_if_eq (tgt := 47) hx hb dX9_pair_42 (by decide) (fun c5 => ?_) (fun c5 => ?_)
    · replace h := iteT c5 h
      refine lv_iload_n hx hb dX9_pair_47 rfl (lv_at hl 1 rfl) ?_
      refine lv_iload_n hx hb dX9_pair_48 rfl (lv_at hl 2 rfl) ?_
      obtain ⟨o6, e6, h⟩ := obind h
      have hPc := hP.sub (ws' := ([] : va_W)) [] rfl
      have hDc := hD.sub (ws' := ([] : va_W)) [] (by decide) rfl
      have hFc := va_free (wc := ([] : va_W)) hD hS hA [] rfl
      refine cl_i (wr := (cJ_ dT (a_this 2) 353 g_this_now ++ (cM a_this o4.2))) (va_runS (As := [.int x1, .int x2]) (rest := []) ⟨hx, hb, hml, hown, hts⟩ (c_X9_pairOf l hlt D dT x1 x2 o6 e6 _) (va_cwS 2 hts (TB_S w_1181 w_1182 w_59 w_1183) rfl rfl rfl nd_X9_pairOf ⟨Nat.le_of_ble_eq_true rfl, Nat.le_of_ble_eq_true rfl⟩) (cPre.S hPc hDc hK hE hS hFc) rfl rfl hl.1 rfl (lv_room (Nat.le_of_ble_eq_true rfl)) dX9_pair_49 ⟨Nat.zero_le _, Nat.zero_le _⟩) hP hD hS hFc [] [0, 1] rfl rfl (by decide) (by decide) (fun r6 u6 H locs hw hP hD hS => ?_)
      obtain ⟨rfl, rfl⟩ := hw
      have hP : va_P D vwCl (cJ_ dT (a_this 2) 353 g_this_now ++ (cM a_this o4.2)) H := hP
      have hD : va_D A (cJ_ dT (a_this 2) 353 g_this_now ++ (cM a_this o4.2)) := hD
      refine lv_istore (lv' := [(4, .int o6.1), (0, .ref (a_this 0)), (1, .int x1), (2, .int x2), (3, .int x3)]) hx hb dX9_pair_52 hl (by decide) rfl (fun ls hl => ?_)
      refine lv_aload_n hx hb dX9_pair_54 rfl (lv_at hl 1 rfl) ?_
      refine gf_X9_13 (v := .ref (a_this 2)) hx hb hqs hown hK hP 1 rfl rfl dX9_pair_55 ?_
      refine lv_bipush (v := 8) hx hb dX9_pair_58 (by decide) ?_
      refine lv_iload hx hb dX9_pair_60 (lv_at hl 0 rfl) ?_
      refine lv_iadd hx hb dX9_pair_62 ?_
      obtain ⟨g7, h⟩ := chk h
      refine va_lald hx hb hK hP 0 1 rfl rfl (inb_in g7) dX9_pair_63 ?_
      refine lv_lconst (v := 0) hx hb dX9_pair_64 (by decide) ?_
      refine W.lcmp hx hb dX9_pair_65 ?_
      refine lv_if_ne (tgt := 71) hx hb dX9_pair_66 (by decide) (fun c8 => ?_) (fun c8 => ?_)
      · replace h := iteF c8 h
        refine lv_iload_n hx hb dX9_pair_71 rfl (lv_at hl 4 rfl) ?_
        by_cases c9_0 : x3 = (0 : Int32)
        · replace h := iteT c9_0 h
          refine lv_tableIn (off := (32)) (tgt := 104) hx hb dX9_pair_72 (by rw [c9_0]; decide) (by rw [c9_0]; decide) (by rw [c9_0]; rfl) (by decide) ?_
          refine lv_aload_n hx hb dX9_pair_104 rfl (lv_at hl 1 rfl) ?_
          refine gf_X9_13 (v := .ref (a_this 2)) hx hb hqs hown hK hP 1 rfl rfl dX9_pair_105 ?_
          refine lv_bipush (v := 57) hx hb dX9_pair_108 (by decide) ?_
          refine lv_iload hx hb dX9_pair_110 (lv_at hl 0 rfl) ?_
          refine lv_iadd hx hb dX9_pair_112 ?_
          obtain ⟨g10, h⟩ := chk h
          refine va_lald hx hb hK hP 0 1 rfl rfl (inb_in g10) dX9_pair_113 ?_
          refine lv_l2i hx hb dX9_pair_114 rfl ?_
          have hP := hP.sub (ws' := (cM a_this o4.2 ++ (cJ_ dT (a_this 2) 353 g_this_now))) [1, 0] rfl
          have hD := hD.sub (ws' := (cM a_this o4.2 ++ (cJ_ dT (a_this 2) 353 g_this_now))) [1, 0] (by decide) rfl
          exact rt_i hx hb hr hlk hK hS (o4.2 : TM) (ret2 h) hP hD dX9_pair_115
        replace h := iteF c9_0 h
        by_cases c9_1 : x3 = (1 : Int32)
        · replace h := iteT c9_1 h
          refine lv_tableIn (off := (44)) (tgt := 116) hx hb dX9_pair_72 (by rw [c9_1]; decide) (by rw [c9_1]; decide) (by rw [c9_1]; rfl) (by decide) ?_
          refine lv_aload_n hx hb dX9_pair_116 rfl (lv_at hl 1 rfl) ?_
          refine gf_X9_13 (v := .ref (a_this 2)) hx hb hqs hown hK hP 1 rfl rfl dX9_pair_117 ?_
          refine lv_bipush (v := 106) hx hb dX9_pair_120 (by decide) ?_
          refine lv_iload hx hb dX9_pair_122 (lv_at hl 0 rfl) ?_
          refine lv_iadd hx hb dX9_pair_124 ?_
          obtain ⟨g11, h⟩ := chk h
          refine va_lald hx hb hK hP 0 1 rfl rfl (inb_in g11) dX9_pair_125 ?_
          refine lv_l2i hx hb dX9_pair_126 rfl ?_
          have hP := hP.sub (ws' := (cM a_this o4.2 ++ (cJ_ dT (a_this 2) 353 g_this_now))) [1, 0] rfl
          have hD := hD.sub (ws' := (cM a_this o4.2 ++ (cJ_ dT (a_this 2) 353 g_this_now))) [1, 0] (by decide) rfl
          exact rt_i hx hb hr hlk hK hS (o4.2 : TM) (ret2 h) hP hD dX9_pair_127
        replace h := iteF c9_1 h
        by_cases c9_2 : x3 = (2 : Int32)
        · replace h := iteT c9_2 h
          refine lv_tableIn (off := (56)) (tgt := 128) hx hb dX9_pair_72 (by rw [c9_2]; decide) (by rw [c9_2]; decide) (by rw [c9_2]; rfl) (by decide) ?_
          refine lv_aload_n hx hb dX9_pair_128 rfl (lv_at hl 1 rfl) ?_
          refine gf_X9_13 (v := .ref (a_this 2)) hx hb hqs hown hK hP 1 rfl rfl dX9_pair_129 ?_
          refine lv_iload hx hb dX9_pair_132 (lv_at hl 0 rfl) ?_
          obtain ⟨o12, e12, h⟩ := obind h
          have hPc := hP.sub (ws' := (cJ_ dT (a_this 2) 353 g_this_now)) [0] rfl
          have hDc := hD.sub (ws' := (cJ_ dT (a_this 2) 353 g_this_now)) [0] (by decide) rfl
          have hFc := va_free (wc := (cJ_ dT (a_this 2) 353 g_this_now)) hD hS hA [0] rfl
          refine cl_l (wr := (cM a_this o4.2)) (va_runS (As := [.ref (a_this 2), .int o6.1]) (rest := []) ⟨hx, hb, hml, hown, hts⟩ (c_X9_believed l hlt D dT (a_this 2) 353 g_this_now o6.1 o12 e12 _) (va_cwS 2 hts (TB_S w_1215 w_1216 w_59 w_1217) rfl rfl rfl nd_X9_believed ⟨Nat.le_of_ble_eq_true rfl, Nat.le_of_ble_eq_true rfl⟩) (cPre.S hPc hDc hK hE hS hFc) rfl rfl hl.1 rfl (lv_room (Nat.le_of_ble_eq_true rfl)) dX9_pair_134 ⟨Nat.zero_le _, Nat.zero_le _⟩) hP hD hS hFc [0] [1] rfl rfl (by decide) (by decide) (fun r12 u12 H locs hw hP hD hS => ?_)
          obtain ⟨rfl, rfl⟩ := hw
          have hP : va_P D vwCl (cM a_this o4.2 ++ (cJ_ dT (a_this 2) 353 g_this_now)) H := hP
          have hD : va_D A (cM a_this o4.2 ++ (cJ_ dT (a_this 2) 353 g_this_now)) := hD
          refine lv_l2i hx hb dX9_pair_137 rfl ?_
          exact rt_i hx hb hr hlk hK hS (o4.2 : TM) (ret2 h) hP hD dX9_pair_138
        replace h := iteF c9_2 h
        by_cases c9_3 : x3 = (3 : Int32)
        · replace h := iteT c9_3 h
          refine lv_tableIn (off := (67)) (tgt := 139) hx hb dX9_pair_72 (by rw [c9_3]; decide) (by rw [c9_3]; decide) (by rw [c9_3]; rfl) (by decide) ?_
          refine lv_aload_n hx hb dX9_pair_139 rfl (lv_at hl 1 rfl) ?_
          refine gf_X9_13 (v := .ref (a_this 2)) hx hb hqs hown hK hP 1 rfl rfl dX9_pair_140 ?_
          refine lv_sipush (v := 155) hx hb dX9_pair_143 (by decide) ?_
          refine lv_iload hx hb dX9_pair_146 (lv_at hl 0 rfl) ?_
          refine lv_iadd hx hb dX9_pair_148 ?_
          obtain ⟨g13, h⟩ := chk h
          refine va_lald hx hb hK hP 0 1 rfl rfl (inb_in g13) dX9_pair_149 ?_
          refine lv_lconst (v := 0) hx hb dX9_pair_150 (by decide) ?_
          refine W.lcmp hx hb dX9_pair_151 ?_
          refine lv_if_le (tgt := 170) hx hb dX9_pair_152 (by decide) (fun c14 => ?_) (fun c14 => ?_)
          · replace h := iteT c14 h
            refine lv_iconst (v := -1) hx hb dX9_pair_170 (by decide) ?_
            have hP := hP.sub (ws' := (cM a_this o4.2 ++ (cJ_ dT (a_this 2) 353 g_this_now))) [1, 0] rfl
            have hD := hD.sub (ws' := (cM a_this o4.2 ++ (cJ_ dT (a_this 2) 353 g_this_now))) [1, 0] (by decide) rfl
            exact rt_i hx hb hr hlk hK hS (o4.2 : TM) (ret2 h) hP hD dX9_pair_171
          · replace h := iteF c14 h
            refine lv_aload_n hx hb dX9_pair_155 rfl (lv_at hl 1 rfl) ?_
            refine gf_X9_13 (v := .ref (a_this 2)) hx hb hqs hown hK hP 1 rfl rfl dX9_pair_156 ?_
            refine lv_sipush (v := 204) hx hb dX9_pair_159 (by decide) ?_
            refine lv_iload hx hb dX9_pair_162 (lv_at hl 0 rfl) ?_
            refine lv_iadd hx hb dX9_pair_164 ?_
            obtain ⟨g15, h⟩ := chk h
            refine va_lald hx hb hK hP 0 1 rfl rfl (inb_in g15) dX9_pair_165 ?_
            refine lv_l2i hx hb dX9_pair_166 rfl ?_
            refine lv_goto (tgt := 171) hx hb dX9_pair_167 (by decide) ?_
            have hP := hP.sub (ws' := (cM a_this o4.2 ++ (cJ_ dT (a_this 2) 353 g_this_now))) [1, 0] rfl
            have hD := hD.sub (ws' := (cM a_this o4.2 ++ (cJ_ dT (a_this 2) 353 g_this_now))) [1, 0] (by decide) rfl
            exact rt_i hx hb hr hlk hK hS (o4.2 : TM) (ret2 h) hP hD dX9_pair_171
        replace h := iteF c9_3 h
        have e9_0 : ¬ Int32.toInt x3 = (0 : Int) := fun q => c9_0 (Int32.toInt_inj.mp (q.trans (by decide)))
        have e9_1 : ¬ Int32.toInt x3 = (1 : Int) := fun q => c9_1 (Int32.toInt_inj.mp (q.trans (by decide)))
        have e9_2 : ¬ Int32.toInt x3 = (2 : Int) := fun q => c9_2 (Int32.toInt_inj.mp (q.trans (by decide)))
        have e9_3 : ¬ Int32.toInt x3 = (3 : Int) := fun q => c9_3 (Int32.toInt_inj.mp (q.trans (by decide)))
        refine lv_tableOut (tgt := 172) hx hb dX9_pair_72 (by omega) (by decide) ?_
        refine lv_aload_n hx hb dX9_pair_172 rfl (lv_at hl 1 rfl) ?_
        refine gf_X9_13 (v := .ref (a_this 2)) hx hb hqs hown hK hP 1 rfl rfl dX9_pair_173 ?_
        refine lv_sipush (v := 253) hx hb dX9_pair_176 (by decide) ?_
        refine lv_iload hx hb dX9_pair_179 (lv_at hl 0 rfl) ?_
        refine lv_iadd hx hb dX9_pair_181 ?_
        obtain ⟨g16, h⟩ := chk h
        refine va_lald hx hb hK hP 0 1 rfl rfl (inb_in g16) dX9_pair_182 ?_
        refine lv_l2i hx hb dX9_pair_183 rfl ?_
        have hP := hP.sub (ws' := (cM a_this o4.2 ++ (cJ_ dT (a_this 2) 353 g_this_now))) [1, 0] rfl
        have hD := hD.sub (ws' := (cM a_this o4.2 ++ (cJ_ dT (a_this 2) 353 g_this_now))) [1, 0] (by decide) rfl
        exact rt_i hx hb hr hlk hK hS (o4.2 : TM) (ret2 h) hP hD dX9_pair_184
      · replace h := iteT c8 h
        refine lv_iconst (v := -1) hx hb dX9_pair_69 (by decide) ?_
        have hP := hP.sub (ws' := (cM a_this o4.2 ++ (cJ_ dT (a_this 2) 353 g_this_now))) [1, 0] rfl
        have hD := hD.sub (ws' := (cM a_this o4.2 ++ (cJ_ dT (a_this 2) 353 g_this_now))) [1, 0] (by decide) rfl
        exact rt_i hx hb hr hlk hK hS (o4.2 : TM) (ret2 h) hP hD dX9_pair_70
    · replace h := iteF c5 h
      refine lv_iconst (v := 0) hx hb dX9_pair_45 (by decide) ?_
      have hP := hP.sub (ws' := (cM a_this o4.2 ++ (cJ_ dT (a_this 2) 353 g_this_now))) [1, 0] rfl
      have hD := hD.sub (ws' := (cM a_this o4.2 ++ (cJ_ dT (a_this 2) 353 g_this_now))) [1, 0] (by decide) rfl
      exact rt_i hx hb hr hlk hK hS (o4.2 : TM) (ret2 h) hP hD dX9_pair_46
  have L_f_X9_pair_J34 : ∀ (g_this_now : Nat → Int64) (x1 : Int32) (x2 : Int32) (x3 : Int32) (g_this : TM)   (H : Heap) (locs : List Loc) (ls : Array Slot), f_X9_pair_J34 g_this_now  x1 x2 x3 g_this = some o → va_P D vwCl (cM a_this g_this ++ (cJ_ dT (a_this 2) 353 g_this_now)) H → va_D A (cM a_this g_this ++ (cJ_ dT (a_this 2) 353 g_this_now)) → va_S A s.heap H locs → lv_has ls 5 [(0, .ref (a_this 0)), (1, .int x1), (2, .int x2), (3, .int x3)] → W p l e (headSpec (WSm yX9_pair cX9_pair 5 (some .int)) { frames := 3, cells := 0, slots := 0, locals := 68 }).room s m [.ref (a_this 0), .int v1, .int v2, .int v3].toArray below meth c H locs 0 0 (MQ below (va_Qi (fun (r : Int32) (u : TM) => r = o.1 ∧ u = o.2) (fun u t => cAt D dT A (cM a_this u ++ (cJ_ dT (a_this 2) 353 g_this_now)) t) A) [.ref (a_this 0), .int v1, .int v2, .int v3].toArray s 0 0 A) (F0 m 34 ls [.ref (a_this 0)]) := by
    intro g_this_now x1 x2 x3 g_this   H locs ls h hP hD hS hl
    unfold f_X9_pair_J34 at h
    refine lv_iconst (v := 2) hx hb dX9_pair_34 (by decide) ?_
    refine lv_goto (tgt := 39) hx hb dX9_pair_35 (by decide) ?_
    refine L_f_X9_pair_J39 g_this_now x1 x2 x3 (2 : Int32) g_this   _ _ _ h hP hD hS (lv_sub hl [0, 1, 2, 3] rfl)
  unfold f_X9_pair at h
  refine lv_aload_n hx hb dX9_pair_0 rfl (lv_at hl 0 rfl) ?_
  refine lv_aload_n hx hb dX9_pair_1 rfl (lv_at hl 0 rfl) ?_
  refine gf_X9_13 (v := .ref (a_this 2)) hx hb hqs hown hK hP 0 rfl rfl dX9_pair_2 ?_
  refine lv_iload_n hx hb dX9_pair_5 rfl (lv_at hl 1 rfl) ?_
  refine lv_iload_n hx hb dX9_pair_6 rfl (lv_at hl 2 rfl) ?_
  obtain ⟨o1, e1, h⟩ := obind h
  have hPc := hP.sub (ws' := (cJ_ dT (a_this 2) 353 g_this_now)) [1] rfl
  have hDc := hD.sub (ws' := (cJ_ dT (a_this 2) 353 g_this_now)) [1] (by decide) rfl
  have hFc := va_free (wc := (cJ_ dT (a_this 2) 353 g_this_now)) hD hS hA [1] rfl
  refine cl_i (wr := (cM a_this g_this)) (va_runS (As := [.ref (a_this 2), .int v1, .int v2]) (rest := [.ref (a_this 0)]) ⟨hx, hb, hml, hown, hts⟩ (c_X9_arePair l hlt D dT (a_this 2) 353 g_this_now v1 v2 o1 e1 _) (va_cwS 3 hts (TB_S w_1212 w_1213 w_59 w_1214) rfl rfl rfl nd_X9_arePair ⟨Nat.le_of_ble_eq_true rfl, Nat.le_of_ble_eq_true rfl⟩) (cPre.S hPc hDc hK hE hS hFc) rfl rfl hl.1 rfl (lv_room (Nat.le_of_ble_eq_true rfl)) dX9_pair_7 ⟨Nat.zero_le _, Nat.zero_le _⟩) hP hD hS hFc [1] [0] rfl rfl (by decide) (by decide) (fun r1 u1 H locs hw hP hD hS => ?_)
  obtain ⟨rfl, rfl⟩ := hw
  have hP : va_P D vwCl (cM a_this g_this ++ (cJ_ dT (a_this 2) 353 g_this_now)) H := hP
  have hD : va_D A (cM a_this g_this ++ (cJ_ dT (a_this 2) 353 g_this_now)) := hD
  refine lv_if_ne (tgt := 17) hx hb dX9_pair_10 (by decide) (fun c2 => ?_) (fun c2 => ?_)
  · replace h := iteF c2 h
    refine lv_iload_n hx hb dX9_pair_17 rfl (lv_at hl 1 rfl) ?_
    refine lv_iload_n hx hb dX9_pair_18 rfl (lv_at hl 2 rfl) ?_
    refine lv_icmp_eq (tgt := 34) hx hb dX9_pair_19 (by decide) (fun c3 => ?_) (fun c3 => ?_)
    · replace h := iteT c3 h
      refine L_f_X9_pair_J34 g_this_now v1 v2 v3 g_this   _ _ _ h hP hD hS (lv_sub hl [0, 1, 2, 3] rfl)
    · replace h := iteF c3 h
      refine lv_iload_n hx hb dX9_pair_22 rfl (lv_at hl 3 rfl) ?_
      refine lv_i2l hx hb dX9_pair_23 rfl ?_
      refine lv_lconst (v := 0) hx hb dX9_pair_24 (by decide) ?_
      refine lv_ldc2 (v := 4) hx hb hown (hqs _ w_1067) dX9_pair_25 ?_
      obtain ⟨o17, e17, h⟩ := obind h
      have hPc := hP.sub (ws' := ([] : va_W)) [] rfl
      have hDc := hD.sub (ws' := ([] : va_W)) [] (by decide) rfl
      have hFc := va_free (wc := ([] : va_W)) hD hS hA [] rfl
      refine cl_i (wr := (cM a_this g_this ++ (cJ_ dT (a_this 2) 353 g_this_now))) (va_runS (As := [.long (Int32.toInt64 v3), .long (0 : Int64), .long (4 : Int64)]) (rest := [.ref (a_this 0)]) ⟨hx, hb, hml, hown, hts⟩ (c_X9_in l hlt D dT (Int32.toInt64 v3) (0 : Int64) (4 : Int64) o17 e17 _) (va_cwS 3 hts (TB_S w_1129 w_1130 w_59 w_1131) rfl rfl rfl nd_X9_in ⟨Nat.le_of_ble_eq_true rfl, Nat.le_of_ble_eq_true rfl⟩) (cPre.S hPc hDc hK hE hS hFc) rfl rfl hl.1 rfl (lv_room (Nat.le_of_ble_eq_true rfl)) dX9_pair_28 ⟨Nat.zero_le _, Nat.zero_le _⟩) hP hD hS hFc [] [0, 1] rfl rfl (by decide) (by decide) (fun r17 u17 H locs hw hP hD hS => ?_)
      obtain ⟨rfl, rfl⟩ := hw
      have hP : va_P D vwCl (cM a_this g_this ++ (cJ_ dT (a_this 2) 353 g_this_now)) H := hP
      have hD : va_D A (cM a_this g_this ++ (cJ_ dT (a_this 2) 353 g_this_now)) := hD
      refine lv_if_ne (tgt := 38) hx hb dX9_pair_31 (by decide) (fun c18 => ?_) (fun c18 => ?_)
      · replace h := iteF c18 h
        refine lv_iconst (v := 0) hx hb dX9_pair_38 (by decide) ?_
        refine L_f_X9_pair_J39 g_this_now v1 v2 v3 (0 : Int32) g_this   _ _ _ h hP hD hS (lv_sub hl [0, 1, 2, 3] rfl)
      · replace h := iteT c18 h
        refine L_f_X9_pair_J34 g_this_now v1 v2 v3 g_this   _ _ _ h hP hD hS (lv_sub hl [0, 1, 2, 3] rfl)
  · replace h := iteT c2 h
    refine lv_iconst (v := 1) hx hb dX9_pair_13 (by decide) ?_
    refine lv_goto (tgt := 39) hx hb dX9_pair_14 (by decide) ?_
    refine L_f_X9_pair_J39 g_this_now v1 v2 v3 (1 : Int32) g_this   _ _ _ h hP hD hS (lv_sub hl [0, 1, 2, 3] rfl)

def f_X9_surprise_J30 (g_this_now : Nat → Int64)  (x1 : Int32) (x2 : Int32) (s0 : Int32) (g_this : TM) : Option (Int32 × (TM)) :=
    ((f_X9_refused g_this s0).bind fun o3 => (if o3.1 = (0 : Int32) then (if inb (312 : Int32) 353 = true then (if (0 : Int32) ≤ (lg_cmp (Int32.toInt64 x1) (g_this_now (312 : Int32).toNatClampNeg)) then (some ((-1 : Int32), o3.2)) else (if inb (((313 : Int32) + ((4 : Int32) * x1)) + x2) 353 = true then (some ((Int64.toInt32 (g_this_now (((313 : Int32) + ((4 : Int32) * x1)) + x2).toNatClampNeg)), o3.2)) else none)) else none) else (some ((0 : Int32), o3.2))))
def f_X9_surprise_J29 (g_this_now : Nat → Int64)  (x1 : Int32) (x2 : Int32) (g_this : TM) : Option (Int32 × (TM)) :=
    (f_X9_surprise_J30 g_this_now x1 x2 (1 : Int32) g_this)
def f_X9_surprise (g_this : TM) (g_this_now : Nat → Int64) (v1 : Int32) (v2 : Int32) : Option (Int32 × (TM)) :=
  ((f_X9_in (Int32.toInt64 v1) (0 : Int64) (9 : Int64)).bind fun o1 => (if o1.1 = (0 : Int32) then (f_X9_surprise_J29 g_this_now v1 v2 g_this) else ((f_X9_in (Int32.toInt64 v2) (0 : Int64) (3 : Int64)).bind fun o8 => (if o8.1 = (0 : Int32) then (f_X9_surprise_J29 g_this_now v1 v2 g_this) else (f_X9_surprise_J30 g_this_now v1 v2 (0 : Int32) g_this)))))
set_option maxHeartbeats 8000000 in
set_option maxRecDepth 100000 in
theorem c_X9_surprise (l : Launch) (hlt : l.stackTraces = false) (D : va_G) (dT : Nat → ClassId) (a_this : Nat → Nat) (g_this : TM) (g_this_now : Nat → Int64) (v1 : Int32) (v2 : Int32) (o : (Int32 × (TM))) (h : f_X9_surprise g_this g_this_now v1 v2 = some o) (sz : Nat) : Met l yX9_surprise (WSm yX9_surprise cX9_surprise 3 (some .int)) { frames := 1, cells := 0, slots := 0, locals := 25 } (va_Pc [.ref (a_this 0), .int v1, .int v2] (cPre D dT (cM a_this g_this ++ (cJ_ dT (a_this 2) 353 g_this_now)) sz)) (va_Qi (fun (r : Int32) (u : TM) => r = o.1 ∧ u = o.2) (fun u t => cAt D dT (va_A (cM a_this g_this ++ (cJ_ dT (a_this 2) 353 g_this_now)) sz) (cM a_this u ++ (cJ_ dT (a_this 2) 353 g_this_now)) t) (va_A (cM a_this g_this ++ (cJ_ dT (a_this 2) 353 g_this_now)) sz)) 0 0 (va_A (cM a_this g_this ++ (cJ_ dT (a_this 2) 353 g_this_now)) sz) := by
  refine mStart (WS := (cM a_this g_this ++ (cJ_ dT (a_this 2) 353 g_this_now))) (Qc := fun A => va_Qi (fun (r : Int32) (u : TM) => r = o.1 ∧ u = o.2) (fun u t => cAt D dT A (cM a_this u ++ (cJ_ dT (a_this 2) 353 g_this_now)) t) A) RX9 rfl (by decide) (Nat.le_of_ble_eq_true rfl) ?_ sz
  intro p e s m below meth c A ls hx hb hml hr hlk hnm hts hqs hown hE hA hK hP hD hS hl
  have hl : lv_has ls 3 [(0, .ref (a_this 0)), (1, .int v1), (2, .int v2)] := hl
  have L_f_X9_surprise_J30 : ∀ (g_this_now : Nat → Int64) (x1 : Int32) (x2 : Int32) (s0 : Int32) (g_this : TM)   (H : Heap) (locs : List Loc) (ls : Array Slot), f_X9_surprise_J30 g_this_now  x1 x2 s0 g_this = some o → va_P D vwCl (cM a_this g_this ++ (cJ_ dT (a_this 2) 353 g_this_now)) H → va_D A (cM a_this g_this ++ (cJ_ dT (a_this 2) 353 g_this_now)) → va_S A s.heap H locs → lv_has ls 3 [(0, .ref (a_this 0)), (1, .int x1), (2, .int x2)] → W p l e (headSpec (WSm yX9_surprise cX9_surprise 3 (some .int)) { frames := 1, cells := 0, slots := 0, locals := 25 }).room s m [.ref (a_this 0), .int v1, .int v2].toArray below meth c H locs 0 0 (MQ below (va_Qi (fun (r : Int32) (u : TM) => r = o.1 ∧ u = o.2) (fun u t => cAt D dT A (cM a_this u ++ (cJ_ dT (a_this 2) 353 g_this_now)) t) A) [.ref (a_this 0), .int v1, .int v2].toArray s 0 0 A) (F0 m 30 ls [.int s0, .ref (a_this 0)]) := by
    intro g_this_now x1 x2 s0 g_this   H locs ls h hP hD hS hl
    unfold f_X9_surprise_J30 at h
    obtain ⟨o3, e3, h⟩ := obind h
    have hPc := hP.sub (ws' := (cM a_this g_this)) [0] rfl
    have hDc := hD.sub (ws' := (cM a_this g_this)) [0] (by decide) rfl
    have hFc := va_free (wc := (cM a_this g_this)) hD hS hA [0] rfl
    refine cl_i (wr := (cJ_ dT (a_this 2) 353 g_this_now)) (va_runV (As := [.int s0]) (rest := []) ⟨hx, hb, hml, hown, hts⟩ (c_X9_refused l hlt D dT a_this g_this s0 o3 e3 _) (cwV 1 hts (TB_V w_1132 w_1134 w_32 w_59 w_1135) rfl rfl rfl ⟨rfl, nd_X9_refused⟩ ⟨Nat.le_of_ble_eq_true rfl, Nat.le_of_ble_eq_true rfl⟩) (cPre.V hPc hDc hK hE hS hFc (va_recv hK hP (ci := 8) (q0 := 0) rfl rfl)) rfl rfl hl.1 rfl (lv_room (Nat.le_of_ble_eq_true rfl)) dX9_surprise_30 ⟨Nat.zero_le _, Nat.zero_le _⟩) hP hD hS hFc [0] [1] rfl rfl (by decide) (by decide) (fun r3 u3 H locs hw hP hD hS => ?_)
    obtain ⟨rfl, rfl⟩ := hw
    have hP : va_P D vwCl (cJ_ dT (a_this 2) 353 g_this_now ++ (cM a_this o3.2)) H := hP
    have hD : va_D A (cJ_ dT (a_this 2) 353 g_this_now ++ (cM a_this o3.2)) := hD
    refine lv_if_eq (tgt := 38) hx hb dX9_surprise_33 (by decide) (fun c4 => ?_) (fun c4 => ?_)
    · replace h := iteT c4 h
      refine lv_iload_n hx hb dX9_surprise_38 rfl (lv_at hl 1 rfl) ?_
      refine lv_i2l hx hb dX9_surprise_39 rfl ?_
      refine lv_aload_n hx hb dX9_surprise_40 rfl (lv_at hl 0 rfl) ?_
      refine gf_X9_13 (v := .ref (a_this 2)) hx hb hqs hown hK hP 1 rfl rfl dX9_surprise_41 ?_
      refine lv_sipush (v := 312) hx hb dX9_surprise_44 (by decide) ?_
      obtain ⟨g5, h⟩ := chk h
      refine va_lald hx hb hK hP 0 1 rfl rfl (inb_in g5) dX9_surprise_47 ?_
      refine W.lcmp hx hb dX9_surprise_48 ?_
      refine lv_if_ge (tgt := 70) hx hb dX9_surprise_49 (by decide) (fun c6 => ?_) (fun c6 => ?_)
      · replace h := iteT c6 h
        refine lv_iconst (v := -1) hx hb dX9_surprise_70 (by decide) ?_
        have hP := hP.sub (ws' := (cM a_this o3.2 ++ (cJ_ dT (a_this 2) 353 g_this_now))) [1, 0] rfl
        have hD := hD.sub (ws' := (cM a_this o3.2 ++ (cJ_ dT (a_this 2) 353 g_this_now))) [1, 0] (by decide) rfl
        exact rt_i hx hb hr hlk hK hS (o3.2 : TM) (ret2 h) hP hD dX9_surprise_71
      · replace h := iteF c6 h
        refine lv_aload_n hx hb dX9_surprise_52 rfl (lv_at hl 0 rfl) ?_
        refine gf_X9_13 (v := .ref (a_this 2)) hx hb hqs hown hK hP 1 rfl rfl dX9_surprise_53 ?_
        refine lv_sipush (v := 313) hx hb dX9_surprise_56 (by decide) ?_
        refine lv_iconst (v := 4) hx hb dX9_surprise_59 (by decide) ?_
        refine lv_iload_n hx hb dX9_surprise_60 rfl (lv_at hl 1 rfl) ?_
        refine lv_imul hx hb dX9_surprise_61 ?_
        refine lv_iadd hx hb dX9_surprise_62 ?_
        refine lv_iload_n hx hb dX9_surprise_63 rfl (lv_at hl 2 rfl) ?_
        refine lv_iadd hx hb dX9_surprise_64 ?_
        obtain ⟨g7, h⟩ := chk h
        refine va_lald hx hb hK hP 0 1 rfl rfl (inb_in g7) dX9_surprise_65 ?_
        refine lv_l2i hx hb dX9_surprise_66 rfl ?_
        refine lv_goto (tgt := 71) hx hb dX9_surprise_67 (by decide) ?_
        have hP := hP.sub (ws' := (cM a_this o3.2 ++ (cJ_ dT (a_this 2) 353 g_this_now))) [1, 0] rfl
        have hD := hD.sub (ws' := (cM a_this o3.2 ++ (cJ_ dT (a_this 2) 353 g_this_now))) [1, 0] (by decide) rfl
        exact rt_i hx hb hr hlk hK hS (o3.2 : TM) (ret2 h) hP hD dX9_surprise_71
    · replace h := iteF c4 h
      refine lv_iconst (v := 0) hx hb dX9_surprise_36 (by decide) ?_
      have hP := hP.sub (ws' := (cM a_this o3.2 ++ (cJ_ dT (a_this 2) 353 g_this_now))) [1, 0] rfl
      have hD := hD.sub (ws' := (cM a_this o3.2 ++ (cJ_ dT (a_this 2) 353 g_this_now))) [1, 0] (by decide) rfl
      exact rt_i hx hb hr hlk hK hS (o3.2 : TM) (ret2 h) hP hD dX9_surprise_37
  have L_f_X9_surprise_J29 : ∀ (g_this_now : Nat → Int64) (x1 : Int32) (x2 : Int32) (g_this : TM)   (H : Heap) (locs : List Loc) (ls : Array Slot), f_X9_surprise_J29 g_this_now  x1 x2 g_this = some o → va_P D vwCl (cM a_this g_this ++ (cJ_ dT (a_this 2) 353 g_this_now)) H → va_D A (cM a_this g_this ++ (cJ_ dT (a_this 2) 353 g_this_now)) → va_S A s.heap H locs → lv_has ls 3 [(0, .ref (a_this 0)), (1, .int x1), (2, .int x2)] → W p l e (headSpec (WSm yX9_surprise cX9_surprise 3 (some .int)) { frames := 1, cells := 0, slots := 0, locals := 25 }).room s m [.ref (a_this 0), .int v1, .int v2].toArray below meth c H locs 0 0 (MQ below (va_Qi (fun (r : Int32) (u : TM) => r = o.1 ∧ u = o.2) (fun u t => cAt D dT A (cM a_this u ++ (cJ_ dT (a_this 2) 353 g_this_now)) t) A) [.ref (a_this 0), .int v1, .int v2].toArray s 0 0 A) (F0 m 29 ls [.ref (a_this 0)]) := by
    intro g_this_now x1 x2 g_this   H locs ls h hP hD hS hl
    unfold f_X9_surprise_J29 at h
    refine lv_iconst (v := 1) hx hb dX9_surprise_29 (by decide) ?_
    refine L_f_X9_surprise_J30 g_this_now x1 x2 (1 : Int32) g_this   _ _ _ h hP hD hS (lv_sub hl [0, 1, 2] rfl)
  unfold f_X9_surprise at h
  refine lv_aload_n hx hb dX9_surprise_0 rfl (lv_at hl 0 rfl) ?_
  refine lv_iload_n hx hb dX9_surprise_1 rfl (lv_at hl 1 rfl) ?_
  refine lv_i2l hx hb dX9_surprise_2 rfl ?_
  refine lv_lconst (v := 0) hx hb dX9_surprise_3 (by decide) ?_
  refine lv_ldc2 (v := 9) hx hb hown (hqs _ w_1222) dX9_surprise_4 ?_
  obtain ⟨o1, e1, h⟩ := obind h
  have hPc := hP.sub (ws' := ([] : va_W)) [] rfl
  have hDc := hD.sub (ws' := ([] : va_W)) [] (by decide) rfl
  have hFc := va_free (wc := ([] : va_W)) hD hS hA [] rfl
  refine cl_i (wr := (cM a_this g_this ++ (cJ_ dT (a_this 2) 353 g_this_now))) (va_runS (As := [.long (Int32.toInt64 v1), .long (0 : Int64), .long (9 : Int64)]) (rest := [.ref (a_this 0)]) ⟨hx, hb, hml, hown, hts⟩ (c_X9_in l hlt D dT (Int32.toInt64 v1) (0 : Int64) (9 : Int64) o1 e1 _) (va_cwS 3 hts (TB_S w_1129 w_1130 w_59 w_1131) rfl rfl rfl nd_X9_in ⟨Nat.le_of_ble_eq_true rfl, Nat.le_of_ble_eq_true rfl⟩) (cPre.S hPc hDc hK hE hS hFc) rfl rfl hl.1 rfl (lv_room (Nat.le_of_ble_eq_true rfl)) dX9_surprise_7 ⟨Nat.zero_le _, Nat.zero_le _⟩) hP hD hS hFc [] [0, 1] rfl rfl (by decide) (by decide) (fun r1 u1 H locs hw hP hD hS => ?_)
  obtain ⟨rfl, rfl⟩ := hw
  have hP : va_P D vwCl (cM a_this g_this ++ (cJ_ dT (a_this 2) 353 g_this_now)) H := hP
  have hD : va_D A (cM a_this g_this ++ (cJ_ dT (a_this 2) 353 g_this_now)) := hD
  refine lv_if_eq (tgt := 29) hx hb dX9_surprise_10 (by decide) (fun c2 => ?_) (fun c2 => ?_)
  · replace h := iteT c2 h
    refine L_f_X9_surprise_J29 g_this_now v1 v2 g_this   _ _ _ h hP hD hS (lv_sub hl [0, 1, 2] rfl)
  · replace h := iteF c2 h
    refine lv_iload_n hx hb dX9_surprise_13 rfl (lv_at hl 2 rfl) ?_
    refine lv_i2l hx hb dX9_surprise_14 rfl ?_
    refine lv_lconst (v := 0) hx hb dX9_surprise_15 (by decide) ?_
    refine lv_ldc2 (v := 3) hx hb hown (hqs _ w_1203) dX9_surprise_16 ?_
    obtain ⟨o8, e8, h⟩ := obind h
    have hPc := hP.sub (ws' := ([] : va_W)) [] rfl
    have hDc := hD.sub (ws' := ([] : va_W)) [] (by decide) rfl
    have hFc := va_free (wc := ([] : va_W)) hD hS hA [] rfl
    refine cl_i (wr := (cM a_this g_this ++ (cJ_ dT (a_this 2) 353 g_this_now))) (va_runS (As := [.long (Int32.toInt64 v2), .long (0 : Int64), .long (3 : Int64)]) (rest := [.ref (a_this 0)]) ⟨hx, hb, hml, hown, hts⟩ (c_X9_in l hlt D dT (Int32.toInt64 v2) (0 : Int64) (3 : Int64) o8 e8 _) (va_cwS 3 hts (TB_S w_1129 w_1130 w_59 w_1131) rfl rfl rfl nd_X9_in ⟨Nat.le_of_ble_eq_true rfl, Nat.le_of_ble_eq_true rfl⟩) (cPre.S hPc hDc hK hE hS hFc) rfl rfl hl.1 rfl (lv_room (Nat.le_of_ble_eq_true rfl)) dX9_surprise_19 ⟨Nat.zero_le _, Nat.zero_le _⟩) hP hD hS hFc [] [0, 1] rfl rfl (by decide) (by decide) (fun r8 u8 H locs hw hP hD hS => ?_)
    obtain ⟨rfl, rfl⟩ := hw
    have hP : va_P D vwCl (cM a_this g_this ++ (cJ_ dT (a_this 2) 353 g_this_now)) H := hP
    have hD : va_D A (cM a_this g_this ++ (cJ_ dT (a_this 2) 353 g_this_now)) := hD
    refine lv_if_eq (tgt := 29) hx hb dX9_surprise_22 (by decide) (fun c9 => ?_) (fun c9 => ?_)
    · replace h := iteT c9 h
      refine L_f_X9_surprise_J29 g_this_now v1 v2 g_this   _ _ _ h hP hD hS (lv_sub hl [0, 1, 2] rfl)
    · replace h := iteF c9 h
      refine lv_iconst (v := 0) hx hb dX9_surprise_25 (by decide) ?_
      refine lv_goto (tgt := 30) hx hb dX9_surprise_26 (by decide) ?_
      refine L_f_X9_surprise_J30 g_this_now v1 v2 (0 : Int32) g_this   _ _ _ h hP hD hS (lv_sub hl [0, 1, 2] rfl)

def f_X9_setting_J18 (g_this_now : Nat → Int64)  (x1 : Int32) (s0 : Int32) (g_this : TM) : Option (Int32 × (TM)) :=
    ((f_X9_refused g_this s0).bind fun o3 => (if o3.1 = (0 : Int32) then (if inb ((302 : Int32) + x1) 353 = true then (some ((Int64.toInt32 (g_this_now ((302 : Int32) + x1).toNatClampNeg)), o3.2)) else none) else (some ((0 : Int32), o3.2))))
def f_X9_setting (g_this : TM) (g_this_now : Nat → Int64) (v1 : Int32) : Option (Int32 × (TM)) :=
  ((f_X9_in (Int32.toInt64 v1) (0 : Int64) (2 : Int64)).bind fun o1 => (if o1.1 = (0 : Int32) then (f_X9_setting_J18 g_this_now v1 (1 : Int32) g_this) else (f_X9_setting_J18 g_this_now v1 (0 : Int32) g_this)))
set_option maxHeartbeats 8000000 in
set_option maxRecDepth 100000 in
theorem c_X9_setting (l : Launch) (hlt : l.stackTraces = false) (D : va_G) (dT : Nat → ClassId) (a_this : Nat → Nat) (g_this : TM) (g_this_now : Nat → Int64) (v1 : Int32) (o : (Int32 × (TM))) (h : f_X9_setting g_this g_this_now v1 = some o) (sz : Nat) : Met l yX9_setting (WSm yX9_setting cX9_setting 2 (some .int)) { frames := 1, cells := 0, slots := 0, locals := 25 } (va_Pc [.ref (a_this 0), .int v1] (cPre D dT (cM a_this g_this ++ (cJ_ dT (a_this 2) 353 g_this_now)) sz)) (va_Qi (fun (r : Int32) (u : TM) => r = o.1 ∧ u = o.2) (fun u t => cAt D dT (va_A (cM a_this g_this ++ (cJ_ dT (a_this 2) 353 g_this_now)) sz) (cM a_this u ++ (cJ_ dT (a_this 2) 353 g_this_now)) t) (va_A (cM a_this g_this ++ (cJ_ dT (a_this 2) 353 g_this_now)) sz)) 0 0 (va_A (cM a_this g_this ++ (cJ_ dT (a_this 2) 353 g_this_now)) sz) := by
  refine mStart (WS := (cM a_this g_this ++ (cJ_ dT (a_this 2) 353 g_this_now))) (Qc := fun A => va_Qi (fun (r : Int32) (u : TM) => r = o.1 ∧ u = o.2) (fun u t => cAt D dT A (cM a_this u ++ (cJ_ dT (a_this 2) 353 g_this_now)) t) A) RX9 rfl (by decide) (Nat.le_of_ble_eq_true rfl) ?_ sz
  intro p e s m below meth c A ls hx hb hml hr hlk hnm hts hqs hown hE hA hK hP hD hS hl
  have hl : lv_has ls 2 [(0, .ref (a_this 0)), (1, .int v1)] := hl
  have L_f_X9_setting_J18 : ∀ (g_this_now : Nat → Int64) (x1 : Int32) (s0 : Int32) (g_this : TM)   (H : Heap) (locs : List Loc) (ls : Array Slot), f_X9_setting_J18 g_this_now  x1 s0 g_this = some o → va_P D vwCl (cM a_this g_this ++ (cJ_ dT (a_this 2) 353 g_this_now)) H → va_D A (cM a_this g_this ++ (cJ_ dT (a_this 2) 353 g_this_now)) → va_S A s.heap H locs → lv_has ls 2 [(0, .ref (a_this 0)), (1, .int x1)] → W p l e (headSpec (WSm yX9_setting cX9_setting 2 (some .int)) { frames := 1, cells := 0, slots := 0, locals := 25 }).room s m [.ref (a_this 0), .int v1].toArray below meth c H locs 0 0 (MQ below (va_Qi (fun (r : Int32) (u : TM) => r = o.1 ∧ u = o.2) (fun u t => cAt D dT A (cM a_this u ++ (cJ_ dT (a_this 2) 353 g_this_now)) t) A) [.ref (a_this 0), .int v1].toArray s 0 0 A) (F0 m 18 ls [.int s0, .ref (a_this 0)]) := by
    intro g_this_now x1 s0 g_this   H locs ls h hP hD hS hl
    unfold f_X9_setting_J18 at h
    obtain ⟨o3, e3, h⟩ := obind h
    have hPc := hP.sub (ws' := (cM a_this g_this)) [0] rfl
    have hDc := hD.sub (ws' := (cM a_this g_this)) [0] (by decide) rfl
    have hFc := va_free (wc := (cM a_this g_this)) hD hS hA [0] rfl
    refine cl_i (wr := (cJ_ dT (a_this 2) 353 g_this_now)) (va_runV (As := [.int s0]) (rest := []) ⟨hx, hb, hml, hown, hts⟩ (c_X9_refused l hlt D dT a_this g_this s0 o3 e3 _) (cwV 1 hts (TB_V w_1132 w_1134 w_32 w_59 w_1135) rfl rfl rfl ⟨rfl, nd_X9_refused⟩ ⟨Nat.le_of_ble_eq_true rfl, Nat.le_of_ble_eq_true rfl⟩) (cPre.V hPc hDc hK hE hS hFc (va_recv hK hP (ci := 8) (q0 := 0) rfl rfl)) rfl rfl hl.1 rfl (lv_room (Nat.le_of_ble_eq_true rfl)) dX9_setting_18 ⟨Nat.zero_le _, Nat.zero_le _⟩) hP hD hS hFc [0] [1] rfl rfl (by decide) (by decide) (fun r3 u3 H locs hw hP hD hS => ?_)
    obtain ⟨rfl, rfl⟩ := hw
    have hP : va_P D vwCl (cJ_ dT (a_this 2) 353 g_this_now ++ (cM a_this o3.2)) H := hP
    have hD : va_D A (cJ_ dT (a_this 2) 353 g_this_now ++ (cM a_this o3.2)) := hD
    refine lv_if_eq (tgt := 26) hx hb dX9_setting_21 (by decide) (fun c4 => ?_) (fun c4 => ?_)
    · replace h := iteT c4 h
      refine lv_aload_n hx hb dX9_setting_26 rfl (lv_at hl 0 rfl) ?_
      refine gf_X9_13 (v := .ref (a_this 2)) hx hb hqs hown hK hP 1 rfl rfl dX9_setting_27 ?_
      refine lv_sipush (v := 302) hx hb dX9_setting_30 (by decide) ?_
      refine lv_iload_n hx hb dX9_setting_33 rfl (lv_at hl 1 rfl) ?_
      refine lv_iadd hx hb dX9_setting_34 ?_
      obtain ⟨g5, h⟩ := chk h
      refine va_lald hx hb hK hP 0 1 rfl rfl (inb_in g5) dX9_setting_35 ?_
      refine lv_l2i hx hb dX9_setting_36 rfl ?_
      have hP := hP.sub (ws' := (cM a_this o3.2 ++ (cJ_ dT (a_this 2) 353 g_this_now))) [1, 0] rfl
      have hD := hD.sub (ws' := (cM a_this o3.2 ++ (cJ_ dT (a_this 2) 353 g_this_now))) [1, 0] (by decide) rfl
      exact rt_i hx hb hr hlk hK hS (o3.2 : TM) (ret2 h) hP hD dX9_setting_37
    · replace h := iteF c4 h
      refine lv_iconst (v := 0) hx hb dX9_setting_24 (by decide) ?_
      have hP := hP.sub (ws' := (cM a_this o3.2 ++ (cJ_ dT (a_this 2) 353 g_this_now))) [1, 0] rfl
      have hD := hD.sub (ws' := (cM a_this o3.2 ++ (cJ_ dT (a_this 2) 353 g_this_now))) [1, 0] (by decide) rfl
      exact rt_i hx hb hr hlk hK hS (o3.2 : TM) (ret2 h) hP hD dX9_setting_25
  unfold f_X9_setting at h
  refine lv_aload_n hx hb dX9_setting_0 rfl (lv_at hl 0 rfl) ?_
  refine lv_iload_n hx hb dX9_setting_1 rfl (lv_at hl 1 rfl) ?_
  refine lv_i2l hx hb dX9_setting_2 rfl ?_
  refine lv_lconst (v := 0) hx hb dX9_setting_3 (by decide) ?_
  refine lv_ldc2 (v := 2) hx hb hown (hqs _ w_1227) dX9_setting_4 ?_
  obtain ⟨o1, e1, h⟩ := obind h
  have hPc := hP.sub (ws' := ([] : va_W)) [] rfl
  have hDc := hD.sub (ws' := ([] : va_W)) [] (by decide) rfl
  have hFc := va_free (wc := ([] : va_W)) hD hS hA [] rfl
  refine cl_i (wr := (cM a_this g_this ++ (cJ_ dT (a_this 2) 353 g_this_now))) (va_runS (As := [.long (Int32.toInt64 v1), .long (0 : Int64), .long (2 : Int64)]) (rest := [.ref (a_this 0)]) ⟨hx, hb, hml, hown, hts⟩ (c_X9_in l hlt D dT (Int32.toInt64 v1) (0 : Int64) (2 : Int64) o1 e1 _) (va_cwS 3 hts (TB_S w_1129 w_1130 w_59 w_1131) rfl rfl rfl nd_X9_in ⟨Nat.le_of_ble_eq_true rfl, Nat.le_of_ble_eq_true rfl⟩) (cPre.S hPc hDc hK hE hS hFc) rfl rfl hl.1 rfl (lv_room (Nat.le_of_ble_eq_true rfl)) dX9_setting_7 ⟨Nat.zero_le _, Nat.zero_le _⟩) hP hD hS hFc [] [0, 1] rfl rfl (by decide) (by decide) (fun r1 u1 H locs hw hP hD hS => ?_)
  obtain ⟨rfl, rfl⟩ := hw
  have hP : va_P D vwCl (cM a_this g_this ++ (cJ_ dT (a_this 2) 353 g_this_now)) H := hP
  have hD : va_D A (cM a_this g_this ++ (cJ_ dT (a_this 2) 353 g_this_now)) := hD
  refine lv_if_eq (tgt := 17) hx hb dX9_setting_10 (by decide) (fun c2 => ?_) (fun c2 => ?_)
  · replace h := iteT c2 h
    refine lv_iconst (v := 1) hx hb dX9_setting_17 (by decide) ?_
    refine L_f_X9_setting_J18 g_this_now v1 (1 : Int32) g_this   _ _ _ h hP hD hS (lv_sub hl [0, 1] rfl)
  · replace h := iteF c2 h
    refine lv_iconst (v := 0) hx hb dX9_setting_13 (by decide) ?_
    refine lv_goto (tgt := 18) hx hb dX9_setting_14 (by decide) ?_
    refine L_f_X9_setting_J18 g_this_now v1 (0 : Int32) g_this   _ _ _ h hP hD hS (lv_sub hl [0, 1] rfl)

def f_X9_remember_J50 (g_this_now : Nat → Int64)  (g_this : TM) (g_this_diary : Nat → Int64) : Option (Unit × (TM × (Nat → Int64))) :=
    ((f_X9_copyWorld 353 4942 g_this_now g_this_diary (0 : Int32) ((353 : Int32) * (M_acts g_this))).bind fun o2 => (some ((), ((M_mk (M_refusal g_this) (M_size g_this) ((M_acts g_this) + (1 : Int32)) (M_planned g_this) (M_spot g_this) (M_out g_this)), o2.2))))
def f_X9_remember_L11 (g_this : TM) (g_this_now : Nat → Int64) (k40 : (Nat → Int64) → Option (Unit × (TM × (Nat → Int64)))) : Nat → Int32 → (Nat → Int64) → Option (Unit × (TM × (Nat → Int64)))
  | 0, _, _ => none
  | n + 1, x1, g_this_diary =>
    (if (4589 : Int32) ≤ x1 then (k40 g_this_diary) else (if inb (x1 + (353 : Int32)) 4942 = true then (if inb x1 4942 = true then (f_X9_remember_L11 g_this g_this_now k40 n (x1 + (1 : Int32)) (vp_updL g_this_diary x1.toNatClampNeg (g_this_diary (x1 + (353 : Int32)).toNatClampNeg))) else none) else none))
def f_X9_remember (g_this : TM) (g_this_now : Nat → Int64) (g_this_diary : Nat → Int64) : Option (Unit × (TM × (Nat → Int64))) :=
  (if (M_acts g_this) = (14 : Int32) then (f_X9_remember_L11 g_this g_this_now (fun (y6g_this_diary : Nat → Int64) => (f_X9_remember_J50 g_this_now (M_mk (M_refusal g_this) (M_size g_this) ((M_acts g_this) - (1 : Int32)) (M_planned g_this) (M_spot g_this) (M_out g_this)) y6g_this_diary)) FUEL (0 : Int32) g_this_diary) else (f_X9_remember_J50 g_this_now g_this g_this_diary))
set_option maxHeartbeats 8000000 in
set_option maxRecDepth 100000 in
theorem c_X9_remember (l : Launch) (hlt : l.stackTraces = false) (D : va_G) (dT : Nat → ClassId) (a_this : Nat → Nat) (g_this : TM) (g_this_now : Nat → Int64) (g_this_diary : Nat → Int64) (o : (Unit × (TM × (Nat → Int64)))) (h : f_X9_remember g_this g_this_now g_this_diary = some o) (sz : Nat) : Met l yX9_remember (WSm yX9_remember cX9_remember 2 none) { frames := 1, cells := 0, slots := 0, locals := 24 } (va_Pc [.ref (a_this 0)] (cPre D dT (cM a_this g_this ++ (cJ_ dT (a_this 2) 353 g_this_now ++ (cJ_ dT (a_this 4) 4942 g_this_diary))) sz)) (va_Qv (fun (u : TM × (Nat → Int64)) => u = o.2) (fun u t => cAt D dT (va_A (cM a_this g_this ++ (cJ_ dT (a_this 2) 353 g_this_now ++ (cJ_ dT (a_this 4) 4942 g_this_diary))) sz) (cM a_this (u.1) ++ (cJ_ dT (a_this 2) 353 g_this_now ++ (cJ_ dT (a_this 4) 4942 (u.2)))) t) (va_A (cM a_this g_this ++ (cJ_ dT (a_this 2) 353 g_this_now ++ (cJ_ dT (a_this 4) 4942 g_this_diary))) sz)) 0 0 (va_A (cM a_this g_this ++ (cJ_ dT (a_this 2) 353 g_this_now ++ (cJ_ dT (a_this 4) 4942 g_this_diary))) sz) := by
  refine mStart (WS := (cM a_this g_this ++ (cJ_ dT (a_this 2) 353 g_this_now ++ (cJ_ dT (a_this 4) 4942 g_this_diary)))) (Qc := fun A => va_Qv (fun (u : TM × (Nat → Int64)) => u = o.2) (fun u t => cAt D dT A (cM a_this (u.1) ++ (cJ_ dT (a_this 2) 353 g_this_now ++ (cJ_ dT (a_this 4) 4942 (u.2)))) t) A) RX9 rfl (by decide) (Nat.le_of_ble_eq_true rfl) ?_ sz
  intro p e s m below meth c A ls hx hb hml hr hlk hnm hts hqs hown hE hA hK hP hD hS hl
  have hl : lv_has ls 2 [(0, .ref (a_this 0))] := hl
  have L_f_X9_remember_J50 : ∀ (g_this_now : Nat → Int64) (g_this : TM) (g_this_diary : Nat → Int64)   (H : Heap) (locs : List Loc) (ls : Array Slot), f_X9_remember_J50 g_this_now  g_this g_this_diary = some o → va_P D vwCl (cM a_this g_this ++ (cJ_ dT (a_this 2) 353 g_this_now ++ (cJ_ dT (a_this 4) 4942 g_this_diary))) H → va_D A (cM a_this g_this ++ (cJ_ dT (a_this 2) 353 g_this_now ++ (cJ_ dT (a_this 4) 4942 g_this_diary))) → va_S A s.heap H locs → lv_has ls 2 [(0, .ref (a_this 0))] → W p l e (headSpec (WSm yX9_remember cX9_remember 2 none) { frames := 1, cells := 0, slots := 0, locals := 24 }).room s m [.ref (a_this 0)].toArray below meth c H locs 0 0 (MQ below (va_Qv (fun (u : TM × (Nat → Int64)) => u = o.2) (fun u t => cAt D dT A (cM a_this (u.1) ++ (cJ_ dT (a_this 2) 353 g_this_now ++ (cJ_ dT (a_this 4) 4942 (u.2)))) t) A) [.ref (a_this 0)].toArray s 0 0 A) (F0 m 50 ls []) := by
    intro g_this_now g_this g_this_diary   H locs ls h hP hD hS hl
    unfold f_X9_remember_J50 at h
    refine lv_aload_n hx hb dX9_remember_50 rfl (lv_at hl 0 rfl) ?_
    refine gf_X9_13 (v := .ref (a_this 2)) hx hb hqs hown hK hP 0 rfl rfl dX9_remember_51 ?_
    refine lv_iconst (v := 0) hx hb dX9_remember_54 (by decide) ?_
    refine lv_aload_n hx hb dX9_remember_55 rfl (lv_at hl 0 rfl) ?_
    refine gf_X9_20 (v := .ref (a_this 4)) hx hb hqs hown hK hP 0 rfl rfl dX9_remember_56 ?_
    refine lv_sipush (v := 353) hx hb dX9_remember_59 (by decide) ?_
    refine lv_aload_n hx hb dX9_remember_62 rfl (lv_at hl 0 rfl) ?_
    refine gf_X9_177 (v := .int (M_acts g_this)) hx hb hqs hown hK hP 0 rfl rfl dX9_remember_63 ?_
    refine lv_imul hx hb dX9_remember_66 ?_
    obtain ⟨o2, e2, h⟩ := obind h
    have hPc := hP.sub (ws' := (cJ_ dT (a_this 2) 353 g_this_now ++ (cJ_ dT (a_this 4) 4942 g_this_diary))) [1, 2] rfl
    have hDc := hD.sub (ws' := (cJ_ dT (a_this 2) 353 g_this_now ++ (cJ_ dT (a_this 4) 4942 g_this_diary))) [1, 2] (by decide) rfl
    have hFc := va_free (wc := (cJ_ dT (a_this 2) 353 g_this_now ++ (cJ_ dT (a_this 4) 4942 g_this_diary))) hD hS hA [1, 2] rfl
    refine cl_v (wr := (cM a_this g_this)) (va_runS (As := [.ref (a_this 2), .int (0 : Int32), .ref (a_this 4), .int ((353 : Int32) * (M_acts g_this))]) (rest := []) ⟨hx, hb, hml, hown, hts⟩ (c_X9_copyWorld l hlt D dT (a_this 2) (a_this 4) 353 4942 g_this_now g_this_diary (0 : Int32) ((353 : Int32) * (M_acts g_this)) o2 e2 _) (va_cwS 4 hts (TB_S w_1191 w_1192 w_59 w_1193) rfl rfl rfl nd_X9_copyWorld ⟨Nat.le_of_ble_eq_true rfl, Nat.le_of_ble_eq_true rfl⟩) (cPre.S hPc hDc hK hE hS hFc) rfl rfl hl.1 rfl (lv_room (Nat.le_of_ble_eq_true rfl)) dX9_remember_67 ⟨Nat.zero_le _, Nat.zero_le _⟩) hP hD hS hFc [1, 2] [0] rfl rfl (by decide) (by decide) (fun u2 H locs hw hP hD hS => ?_)
    subst hw
    have hP : va_P D vwCl (cM a_this g_this ++ (cJ_ dT (a_this 2) 353 g_this_now ++ (cJ_ dT (a_this 4) 4942 o2.2))) H := hP
    have hD : va_D A (cM a_this g_this ++ (cJ_ dT (a_this 2) 353 g_this_now ++ (cJ_ dT (a_this 4) 4942 o2.2))) := hD
    refine lv_aload_n hx hb dX9_remember_70 rfl (lv_at hl 0 rfl) ?_
    refine lv_dup hx hb dX9_remember_71 rfl ?_
    refine gf_X9_177 (v := .int (M_acts g_this)) hx hb hqs hown hK hP 0 rfl rfl dX9_remember_72 ?_
    refine lv_iconst (v := 1) hx hb dX9_remember_75 (by decide) ?_
    refine lv_iadd hx hb dX9_remember_76 ?_
    refine pf_X9_177 hx hb hqs hown hK hP hD hS 0 rfl rfl dX9_remember_77 (fun H locs hP hD hS => ?_)
    have hP : va_P D vwCl ([(a_this 0, .inr (8, [.int (M_refusal g_this), .ref (a_this 1), .int (M_size g_this), .ref (a_this 2), .ref (a_this 3), .ref (a_this 4), .int ((M_acts g_this) + (1 : Int32)), .ref (a_this 5), .ref (a_this 6), .ref (a_this 7), .ref (a_this 8), .ref (a_this 9), .ref (a_this 10), .int (M_planned g_this), .int (M_spot g_this), .int (M_out g_this), .ref (a_this 11)]))] ++ (cJ_ dT (a_this 2) 353 g_this_now ++ (cJ_ dT (a_this 4) 4942 o2.2))) H := hP
    have hD : va_D A ([(a_this 0, .inr (8, [.int (M_refusal g_this), .ref (a_this 1), .int (M_size g_this), .ref (a_this 2), .ref (a_this 3), .ref (a_this 4), .int ((M_acts g_this) + (1 : Int32)), .ref (a_this 5), .ref (a_this 6), .ref (a_this 7), .ref (a_this 8), .ref (a_this 9), .ref (a_this 10), .int (M_planned g_this), .int (M_spot g_this), .int (M_out g_this), .ref (a_this 11)]))] ++ (cJ_ dT (a_this 2) 353 g_this_now ++ (cJ_ dT (a_this 4) 4942 o2.2))) := hD
    exact rt_v hx hb hr hlk hK hS (((M_mk (M_refusal g_this) (M_size g_this) ((M_acts g_this) + (1 : Int32)) (M_planned g_this) (M_spot g_this) (M_out g_this)), o2.2) : TM × (Nat → Int64)) (retv h) hP hD dX9_remember_80
  have L_f_X9_remember_L11 : ∀ (g_this : TM) (g_this_now : Nat → Int64) (k40 : (Nat → Int64) → Option (Unit × (TM × (Nat → Int64)))) (hk40 : ∀ (g_this_diary : Nat → Int64) (H : Heap) (locs : List Loc) (ls : Array Slot), k40 g_this_diary = some o → va_P D vwCl (cM a_this g_this ++ (cJ_ dT (a_this 2) 353 g_this_now ++ (cJ_ dT (a_this 4) 4942 g_this_diary))) H → va_D A (cM a_this g_this ++ (cJ_ dT (a_this 2) 353 g_this_now ++ (cJ_ dT (a_this 4) 4942 g_this_diary))) → va_S A s.heap H locs → lv_has ls 2 [(0, .ref (a_this 0))] → W p l e (headSpec (WSm yX9_remember cX9_remember 2 none) { frames := 1, cells := 0, slots := 0, locals := 24 }).room s m [.ref (a_this 0)].toArray below meth c H locs 0 0 (MQ below (va_Qv (fun (u : TM × (Nat → Int64)) => u = o.2) (fun u t => cAt D dT A (cM a_this (u.1) ++ (cJ_ dT (a_this 2) 353 g_this_now ++ (cJ_ dT (a_this 4) 4942 (u.2)))) t) A) [.ref (a_this 0)].toArray s 0 0 A) (F0 m 40 ls [])) (n : Nat), ∀ (x1 : Int32) (g_this_diary : Nat → Int64) (H : Heap) (locs : List Loc) (ls : Array Slot), f_X9_remember_L11 g_this g_this_now k40 n x1 g_this_diary = some o → va_P D vwCl (cM a_this g_this ++ (cJ_ dT (a_this 2) 353 g_this_now ++ (cJ_ dT (a_this 4) 4942 g_this_diary))) H → va_D A (cM a_this g_this ++ (cJ_ dT (a_this 2) 353 g_this_now ++ (cJ_ dT (a_this 4) 4942 g_this_diary))) → va_S A s.heap H locs → lv_has ls 2 [(0, .ref (a_this 0)), (1, .int x1)] → W p l e (headSpec (WSm yX9_remember cX9_remember 2 none) { frames := 1, cells := 0, slots := 0, locals := 24 }).room s m [.ref (a_this 0)].toArray below meth c H locs 0 0 (MQ below (va_Qv (fun (u : TM × (Nat → Int64)) => u = o.2) (fun u t => cAt D dT A (cM a_this (u.1) ++ (cJ_ dT (a_this 2) 353 g_this_now ++ (cJ_ dT (a_this 4) 4942 (u.2)))) t) A) [.ref (a_this 0)].toArray s 0 0 A) (F0 m 11 ls []) := by
    intro g_this g_this_now k40 hk40 n
    induction n with
    | zero => intro x1 g_this_diary H locs ls h; exact nomatch h
    | succ n ih =>
      intro x1 g_this_diary H locs ls h hP hD hS hl
      unfold f_X9_remember_L11 at h
      refine lv_iload_n hx hb dX9_remember_11 rfl (lv_at hl 1 rfl) ?_
      refine lv_sipush (v := 4589) hx hb dX9_remember_12 (by decide) ?_
      refine lv_icmp_ge (tgt := 40) hx hb dX9_remember_15 (by decide) (fun c3 => ?_) (fun c3 => ?_)
      · replace h := iteT c3 h
        exact hk40 g_this_diary _ _ _ h hP hD hS (lv_sub hl [0] rfl)
      · replace h := iteF c3 h
        refine lv_aload_n hx hb dX9_remember_18 rfl (lv_at hl 0 rfl) ?_
        refine gf_X9_20 (v := .ref (a_this 4)) hx hb hqs hown hK hP 0 rfl rfl dX9_remember_19 ?_
        refine lv_iload_n hx hb dX9_remember_22 rfl (lv_at hl 1 rfl) ?_
        refine lv_aload_n hx hb dX9_remember_23 rfl (lv_at hl 0 rfl) ?_
        refine gf_X9_20 (v := .ref (a_this 4)) hx hb hqs hown hK hP 0 rfl rfl dX9_remember_24 ?_
        refine lv_iload_n hx hb dX9_remember_27 rfl (lv_at hl 1 rfl) ?_
        refine lv_sipush (v := 353) hx hb dX9_remember_28 (by decide) ?_
        refine lv_iadd hx hb dX9_remember_31 ?_
        obtain ⟨g4, h⟩ := chk h
        refine va_lald hx hb hK hP 2 1 rfl rfl (inb_in g4) dX9_remember_32 ?_
        obtain ⟨g5, h⟩ := chk h
        refine va_last hx hb hK hP hD hS 2 1 rfl rfl (inb_in g5) dX9_remember_33 (fun H locs hP hD hS => ?_)
        have hP : va_P D vwCl (cM a_this g_this ++ (cJ_ dT (a_this 2) 353 g_this_now ++ (cJ_ dT (a_this 4) 4942 (vp_updL g_this_diary x1.toNatClampNeg (g_this_diary (x1 + (353 : Int32)).toNatClampNeg))))) H := hP
        have hD : va_D A (cM a_this g_this ++ (cJ_ dT (a_this 2) 353 g_this_now ++ (cJ_ dT (a_this 4) 4942 (vp_updL g_this_diary x1.toNatClampNeg (g_this_diary (x1 + (353 : Int32)).toNatClampNeg))))) := hD
        refine lv_iinc (v := (x1 + (1 : Int32))) (lv' := [(1, .int (x1 + (1 : Int32))), (0, .ref (a_this 0))]) hx hb dX9_remember_34 hl (k := 1) rfl rfl (by decide) rfl (fun ls hl => ?_)
        refine lv_goto (tgt := 11) hx hb dX9_remember_37 (by decide) ?_
        exact ih (x1 + (1 : Int32)) (vp_updL g_this_diary x1.toNatClampNeg (g_this_diary (x1 + (353 : Int32)).toNatClampNeg)) _ _ _ h hP hD hS (lv_sub hl [1, 0] rfl)
  unfold f_X9_remember at h
  refine lv_aload_n hx hb dX9_remember_0 rfl (lv_at hl 0 rfl) ?_
  refine gf_X9_177 (v := .int (M_acts g_this)) hx hb hqs hown hK hP 0 rfl rfl dX9_remember_1 ?_
  refine lv_bipush (v := 14) hx hb dX9_remember_4 (by decide) ?_
  refine lv_icmp_ne (tgt := 50) hx hb dX9_remember_6 (by decide) (fun c1 => ?_) (fun c1 => ?_)
  · replace h := iteF c1 h
    refine L_f_X9_remember_J50 g_this_now g_this g_this_diary   _ _ _ h hP hD hS (lv_sub hl [0] rfl)
  · replace h := iteT c1 h
    refine lv_iconst (v := 0) hx hb dX9_remember_9 (by decide) ?_
    refine lv_istore_n (lv' := [(1, .int (0 : Int32)), (0, .ref (a_this 0))]) hx hb dX9_remember_10 rfl hl (by decide) rfl (fun ls hl => ?_)
    refine L_f_X9_remember_L11 g_this g_this_now _ ?_ FUEL (0 : Int32) g_this_diary _ _ _ h hP hD hS (lv_sub hl [1, 0] rfl)
    · intro y6g_this_diary H locs ls h hP hD hS hl
      refine lv_aload_n hx hb dX9_remember_40 rfl (lv_at hl 0 rfl) ?_
      refine lv_dup hx hb dX9_remember_41 rfl ?_
      refine gf_X9_177 (v := .int (M_acts g_this)) hx hb hqs hown hK hP 0 rfl rfl dX9_remember_42 ?_
      refine lv_iconst (v := 1) hx hb dX9_remember_45 (by decide) ?_
      refine lv_isub hx hb dX9_remember_46 ?_
      refine pf_X9_177 hx hb hqs hown hK hP hD hS 0 rfl rfl dX9_remember_47 (fun H locs hP hD hS => ?_)
      have hP : va_P D vwCl ([(a_this 0, .inr (8, [.int (M_refusal g_this), .ref (a_this 1), .int (M_size g_this), .ref (a_this 2), .ref (a_this 3), .ref (a_this 4), .int ((M_acts g_this) - (1 : Int32)), .ref (a_this 5), .ref (a_this 6), .ref (a_this 7), .ref (a_this 8), .ref (a_this 9), .ref (a_this 10), .int (M_planned g_this), .int (M_spot g_this), .int (M_out g_this), .ref (a_this 11)]))] ++ (cJ_ dT (a_this 2) 353 g_this_now ++ (cJ_ dT (a_this 4) 4942 y6g_this_diary))) H := hP
      have hD : va_D A ([(a_this 0, .inr (8, [.int (M_refusal g_this), .ref (a_this 1), .int (M_size g_this), .ref (a_this 2), .ref (a_this 3), .ref (a_this 4), .int ((M_acts g_this) - (1 : Int32)), .ref (a_this 5), .ref (a_this 6), .ref (a_this 7), .ref (a_this 8), .ref (a_this 9), .ref (a_this 10), .int (M_planned g_this), .int (M_spot g_this), .int (M_out g_this), .ref (a_this 11)]))] ++ (cJ_ dT (a_this 2) 353 g_this_now ++ (cJ_ dT (a_this 4) 4942 y6g_this_diary))) := hD
      refine L_f_X9_remember_J50 g_this_now (M_mk (M_refusal g_this) (M_size g_this) ((M_acts g_this) - (1 : Int32)) (M_planned g_this) (M_spot g_this) (M_out g_this)) y6g_this_diary   _ _ _ h hP hD hS (lv_sub hl [0] rfl)

def f_X9_add_J35   (x1 : Int32) (s0 : Int32) (g_this : TM) (g_this_now : Nat → Int64) (g_this_diary : Nat → Int64) : Option (Int32 × (TM × (Nat → Int64) × (Nat → Int64))) :=
    ((f_X9_refused g_this s0).bind fun o5 => (if o5.1 = (0 : Int32) then ((f_X9_remember o5.2 g_this_now g_this_diary).bind fun o7 => ((f_X9_addOn 353 g_this_now x1).bind fun o8 => (some (o8.1, (o7.2.1, o8.2, o7.2.2))))) else (some ((0 : Int32), (o5.2, g_this_now, g_this_diary)))))
def f_X9_add (g_this : TM) (g_this_now : Nat → Int64) (g_this_diary : Nat → Int64) (v1 : Int32) : Option (Int32 × (TM × (Nat → Int64) × (Nat → Int64))) :=
  ((f_X9_in (Int32.toInt64 v1) (1 : Int64) (9999 : Int64)).bind fun o1 => (if o1.1 = (0 : Int32) then (f_X9_add_J35 v1 (1 : Int32) g_this g_this_now g_this_diary) else (if inb (0 : Int32) 353 = true then (if (0 : Int32) ≤ (lg_cmp (g_this_now (0 : Int32).toNatClampNeg) (7 : Int64)) then (f_X9_add_J35 v1 (2 : Int32) g_this g_this_now g_this_diary) else (f_X9_add_J35 v1 (0 : Int32) g_this g_this_now g_this_diary)) else none)))
set_option maxHeartbeats 8000000 in
set_option maxRecDepth 100000 in
theorem c_X9_add (l : Launch) (hlt : l.stackTraces = false) (D : va_G) (dT : Nat → ClassId) (a_this : Nat → Nat) (g_this : TM) (g_this_now : Nat → Int64) (g_this_diary : Nat → Int64) (v1 : Int32) (o : (Int32 × (TM × (Nat → Int64) × (Nat → Int64)))) (h : f_X9_add g_this g_this_now g_this_diary v1 = some o) (sz : Nat) : Met l yX9_add (WSm yX9_add cX9_add 2 (some .int)) { frames := 2, cells := 0, slots := 0, locals := 45 } (va_Pc [.ref (a_this 0), .int v1] (cPre D dT (cM a_this g_this ++ (cJ_ dT (a_this 2) 353 g_this_now ++ (cJ_ dT (a_this 4) 4942 g_this_diary))) sz)) (va_Qi (fun (r : Int32) (u : TM × (Nat → Int64) × (Nat → Int64)) => r = o.1 ∧ u = o.2) (fun u t => cAt D dT (va_A (cM a_this g_this ++ (cJ_ dT (a_this 2) 353 g_this_now ++ (cJ_ dT (a_this 4) 4942 g_this_diary))) sz) (cM a_this (u.1) ++ (cJ_ dT (a_this 2) 353 (u.2.1) ++ (cJ_ dT (a_this 4) 4942 (u.2.2)))) t) (va_A (cM a_this g_this ++ (cJ_ dT (a_this 2) 353 g_this_now ++ (cJ_ dT (a_this 4) 4942 g_this_diary))) sz)) 0 0 (va_A (cM a_this g_this ++ (cJ_ dT (a_this 2) 353 g_this_now ++ (cJ_ dT (a_this 4) 4942 g_this_diary))) sz) := by
  refine mStart (WS := (cM a_this g_this ++ (cJ_ dT (a_this 2) 353 g_this_now ++ (cJ_ dT (a_this 4) 4942 g_this_diary)))) (Qc := fun A => va_Qi (fun (r : Int32) (u : TM × (Nat → Int64) × (Nat → Int64)) => r = o.1 ∧ u = o.2) (fun u t => cAt D dT A (cM a_this (u.1) ++ (cJ_ dT (a_this 2) 353 (u.2.1) ++ (cJ_ dT (a_this 4) 4942 (u.2.2)))) t) A) RX9 rfl (by decide) (Nat.le_of_ble_eq_true rfl) ?_ sz
  intro p e s m below meth c A ls hx hb hml hr hlk hnm hts hqs hown hE hA hK hP hD hS hl
  have hl : lv_has ls 2 [(0, .ref (a_this 0)), (1, .int v1)] := hl
  have L_f_X9_add_J35 : ∀  (x1 : Int32) (s0 : Int32) (g_this : TM) (g_this_now : Nat → Int64) (g_this_diary : Nat → Int64)   (H : Heap) (locs : List Loc) (ls : Array Slot), f_X9_add_J35   x1 s0 g_this g_this_now g_this_diary = some o → va_P D vwCl (cM a_this g_this ++ (cJ_ dT (a_this 2) 353 g_this_now ++ (cJ_ dT (a_this 4) 4942 g_this_diary))) H → va_D A (cM a_this g_this ++ (cJ_ dT (a_this 2) 353 g_this_now ++ (cJ_ dT (a_this 4) 4942 g_this_diary))) → va_S A s.heap H locs → lv_has ls 2 [(0, .ref (a_this 0)), (1, .int x1)] → W p l e (headSpec (WSm yX9_add cX9_add 2 (some .int)) { frames := 2, cells := 0, slots := 0, locals := 45 }).room s m [.ref (a_this 0), .int v1].toArray below meth c H locs 0 0 (MQ below (va_Qi (fun (r : Int32) (u : TM × (Nat → Int64) × (Nat → Int64)) => r = o.1 ∧ u = o.2) (fun u t => cAt D dT A (cM a_this (u.1) ++ (cJ_ dT (a_this 2) 353 (u.2.1) ++ (cJ_ dT (a_this 4) 4942 (u.2.2)))) t) A) [.ref (a_this 0), .int v1].toArray s 0 0 A) (F0 m 35 ls [.int s0, .ref (a_this 0)]) := by
    intro  x1 s0 g_this g_this_now g_this_diary   H locs ls h hP hD hS hl
    unfold f_X9_add_J35 at h
    obtain ⟨o5, e5, h⟩ := obind h
    have hPc := hP.sub (ws' := (cM a_this g_this)) [0] rfl
    have hDc := hD.sub (ws' := (cM a_this g_this)) [0] (by decide) rfl
    have hFc := va_free (wc := (cM a_this g_this)) hD hS hA [0] rfl
    refine cl_i (wr := (cJ_ dT (a_this 2) 353 g_this_now ++ (cJ_ dT (a_this 4) 4942 g_this_diary))) (va_runV (As := [.int s0]) (rest := []) ⟨hx, hb, hml, hown, hts⟩ (c_X9_refused l hlt D dT a_this g_this s0 o5 e5 _) (cwV 1 hts (TB_V w_1132 w_1134 w_32 w_59 w_1135) rfl rfl rfl ⟨rfl, nd_X9_refused⟩ ⟨Nat.le_of_ble_eq_true rfl, Nat.le_of_ble_eq_true rfl⟩) (cPre.V hPc hDc hK hE hS hFc (va_recv hK hP (ci := 8) (q0 := 0) rfl rfl)) rfl rfl hl.1 rfl (lv_room (Nat.le_of_ble_eq_true rfl)) dX9_add_35 ⟨Nat.zero_le _, Nat.zero_le _⟩) hP hD hS hFc [0] [1, 2] rfl rfl (by decide) (by decide) (fun r5 u5 H locs hw hP hD hS => ?_)
    obtain ⟨rfl, rfl⟩ := hw
    have hP : va_P D vwCl (cJ_ dT (a_this 2) 353 g_this_now ++ (cJ_ dT (a_this 4) 4942 g_this_diary ++ (cM a_this o5.2))) H := hP
    have hD : va_D A (cJ_ dT (a_this 2) 353 g_this_now ++ (cJ_ dT (a_this 4) 4942 g_this_diary ++ (cM a_this o5.2))) := hD
    refine lv_if_eq (tgt := 43) hx hb dX9_add_38 (by decide) (fun c6 => ?_) (fun c6 => ?_)
    · replace h := iteT c6 h
      refine lv_aload_n hx hb dX9_add_43 rfl (lv_at hl 0 rfl) ?_
      obtain ⟨o7, e7, h⟩ := obind h
      have hPc := hP.sub (ws' := (cM a_this o5.2 ++ (cJ_ dT (a_this 2) 353 g_this_now ++ (cJ_ dT (a_this 4) 4942 g_this_diary)))) [2, 0, 1] rfl
      have hDc := hD.sub (ws' := (cM a_this o5.2 ++ (cJ_ dT (a_this 2) 353 g_this_now ++ (cJ_ dT (a_this 4) 4942 g_this_diary)))) [2, 0, 1] (by decide) rfl
      have hFc := va_free (wc := (cM a_this o5.2 ++ (cJ_ dT (a_this 2) 353 g_this_now ++ (cJ_ dT (a_this 4) 4942 g_this_diary)))) hD hS hA [2, 0, 1] rfl
      refine cl_v (wr := ([] : va_W)) (va_runV (As := []) (rest := []) ⟨hx, hb, hml, hown, hts⟩ (c_X9_remember l hlt D dT a_this o5.2 g_this_now g_this_diary o7 e7 _) (cwV 0 hts (TB_V w_1233 w_1235 w_39 w_59 w_1236) rfl rfl rfl ⟨rfl, nd_X9_remember⟩ ⟨Nat.le_of_ble_eq_true rfl, Nat.le_of_ble_eq_true rfl⟩) (cPre.V hPc hDc hK hE hS hFc (va_recv hK hP (ci := 8) (q0 := 2) rfl rfl)) rfl rfl hl.1 rfl (lv_room (Nat.le_of_ble_eq_true rfl)) dX9_add_44 ⟨Nat.zero_le _, Nat.zero_le _⟩) hP hD hS hFc [2, 0, 1] [] rfl rfl (by decide) (by decide) (fun u7 H locs hw hP hD hS => ?_)
      subst hw
      have hP : va_P D vwCl (cM a_this o7.2.1 ++ (cJ_ dT (a_this 2) 353 g_this_now ++ (cJ_ dT (a_this 4) 4942 o7.2.2))) H := hP
      have hD : va_D A (cM a_this o7.2.1 ++ (cJ_ dT (a_this 2) 353 g_this_now ++ (cJ_ dT (a_this 4) 4942 o7.2.2))) := hD
      refine lv_aload_n hx hb dX9_add_47 rfl (lv_at hl 0 rfl) ?_
      refine gf_X9_13 (v := .ref (a_this 2)) hx hb hqs hown hK hP 0 rfl rfl dX9_add_48 ?_
      refine lv_iload_n hx hb dX9_add_51 rfl (lv_at hl 1 rfl) ?_
      obtain ⟨o8, e8, h⟩ := obind h
      have hPc := hP.sub (ws' := (cJ_ dT (a_this 2) 353 g_this_now)) [1] rfl
      have hDc := hD.sub (ws' := (cJ_ dT (a_this 2) 353 g_this_now)) [1] (by decide) rfl
      have hFc := va_free (wc := (cJ_ dT (a_this 2) 353 g_this_now)) hD hS hA [1] rfl
      refine cl_i (wr := (cM a_this o7.2.1 ++ (cJ_ dT (a_this 4) 4942 o7.2.2))) (va_runS (As := [.ref (a_this 2), .int x1]) (rest := []) ⟨hx, hb, hml, hown, hts⟩ (c_X9_addOn l hlt D dT (a_this 2) 353 g_this_now x1 o8 e8 _) (va_cwS 2 hts (TB_S w_1172 w_1173 w_59 w_1174) rfl rfl rfl nd_X9_addOn ⟨Nat.le_of_ble_eq_true rfl, Nat.le_of_ble_eq_true rfl⟩) (cPre.S hPc hDc hK hE hS hFc) rfl rfl hl.1 rfl (lv_room (Nat.le_of_ble_eq_true rfl)) dX9_add_52 ⟨Nat.zero_le _, Nat.zero_le _⟩) hP hD hS hFc [1] [0, 2] rfl rfl (by decide) (by decide) (fun r8 u8 H locs hw hP hD hS => ?_)
      obtain ⟨rfl, rfl⟩ := hw
      have hP : va_P D vwCl (cM a_this o7.2.1 ++ (cJ_ dT (a_this 4) 4942 o7.2.2 ++ (cJ_ dT (a_this 2) 353 o8.2))) H := hP
      have hD : va_D A (cM a_this o7.2.1 ++ (cJ_ dT (a_this 4) 4942 o7.2.2 ++ (cJ_ dT (a_this 2) 353 o8.2))) := hD
      have hP := hP.sub (ws' := (cM a_this o7.2.1 ++ (cJ_ dT (a_this 2) 353 o8.2 ++ (cJ_ dT (a_this 4) 4942 o7.2.2)))) [0, 2, 1] rfl
      have hD := hD.sub (ws' := (cM a_this o7.2.1 ++ (cJ_ dT (a_this 2) 353 o8.2 ++ (cJ_ dT (a_this 4) 4942 o7.2.2)))) [0, 2, 1] (by decide) rfl
      exact rt_i hx hb hr hlk hK hS ((o7.2.1, o8.2, o7.2.2) : TM × (Nat → Int64) × (Nat → Int64)) (ret2 h) hP hD dX9_add_55
    · replace h := iteF c6 h
      refine lv_iconst (v := 0) hx hb dX9_add_41 (by decide) ?_
      have hP := hP.sub (ws' := (cM a_this o5.2 ++ (cJ_ dT (a_this 2) 353 g_this_now ++ (cJ_ dT (a_this 4) 4942 g_this_diary)))) [2, 0, 1] rfl
      have hD := hD.sub (ws' := (cM a_this o5.2 ++ (cJ_ dT (a_this 2) 353 g_this_now ++ (cJ_ dT (a_this 4) 4942 g_this_diary)))) [2, 0, 1] (by decide) rfl
      exact rt_i hx hb hr hlk hK hS ((o5.2, g_this_now, g_this_diary) : TM × (Nat → Int64) × (Nat → Int64)) (ret2 h) hP hD dX9_add_42
  unfold f_X9_add at h
  refine lv_aload_n hx hb dX9_add_0 rfl (lv_at hl 0 rfl) ?_
  refine lv_iload_n hx hb dX9_add_1 rfl (lv_at hl 1 rfl) ?_
  refine lv_i2l hx hb dX9_add_2 rfl ?_
  refine lv_lconst (v := 1) hx hb dX9_add_3 (by decide) ?_
  refine lv_ldc2 (v := 9999) hx hb hown (hqs _ w_1232) dX9_add_4 ?_
  obtain ⟨o1, e1, h⟩ := obind h
  have hPc := hP.sub (ws' := ([] : va_W)) [] rfl
  have hDc := hD.sub (ws' := ([] : va_W)) [] (by decide) rfl
  have hFc := va_free (wc := ([] : va_W)) hD hS hA [] rfl
  refine cl_i (wr := (cM a_this g_this ++ (cJ_ dT (a_this 2) 353 g_this_now ++ (cJ_ dT (a_this 4) 4942 g_this_diary)))) (va_runS (As := [.long (Int32.toInt64 v1), .long (1 : Int64), .long (9999 : Int64)]) (rest := [.ref (a_this 0)]) ⟨hx, hb, hml, hown, hts⟩ (c_X9_in l hlt D dT (Int32.toInt64 v1) (1 : Int64) (9999 : Int64) o1 e1 _) (va_cwS 3 hts (TB_S w_1129 w_1130 w_59 w_1131) rfl rfl rfl nd_X9_in ⟨Nat.le_of_ble_eq_true rfl, Nat.le_of_ble_eq_true rfl⟩) (cPre.S hPc hDc hK hE hS hFc) rfl rfl hl.1 rfl (lv_room (Nat.le_of_ble_eq_true rfl)) dX9_add_7 ⟨Nat.zero_le _, Nat.zero_le _⟩) hP hD hS hFc [] [0, 1, 2] rfl rfl (by decide) (by decide) (fun r1 u1 H locs hw hP hD hS => ?_)
  obtain ⟨rfl, rfl⟩ := hw
  have hP : va_P D vwCl (cM a_this g_this ++ (cJ_ dT (a_this 2) 353 g_this_now ++ (cJ_ dT (a_this 4) 4942 g_this_diary))) H := hP
  have hD : va_D A (cM a_this g_this ++ (cJ_ dT (a_this 2) 353 g_this_now ++ (cJ_ dT (a_this 4) 4942 g_this_diary))) := hD
  refine lv_if_ne (tgt := 17) hx hb dX9_add_10 (by decide) (fun c2 => ?_) (fun c2 => ?_)
  · replace h := iteF c2 h
    refine lv_aload_n hx hb dX9_add_17 rfl (lv_at hl 0 rfl) ?_
    refine gf_X9_13 (v := .ref (a_this 2)) hx hb hqs hown hK hP 0 rfl rfl dX9_add_18 ?_
    refine lv_iconst (v := 0) hx hb dX9_add_21 (by decide) ?_
    obtain ⟨g3, h⟩ := chk h
    refine va_lald hx hb hK hP 1 1 rfl rfl (inb_in g3) dX9_add_22 ?_
    refine lv_ldc2 (v := 7) hx hb hown (hqs _ w_1171) dX9_add_23 ?_
    refine W.lcmp hx hb dX9_add_26 ?_
    refine lv_if_ge (tgt := 34) hx hb dX9_add_27 (by decide) (fun c4 => ?_) (fun c4 => ?_)
    · replace h := iteT c4 h
      refine lv_iconst (v := 2) hx hb dX9_add_34 (by decide) ?_
      refine L_f_X9_add_J35  v1 (2 : Int32) g_this g_this_now g_this_diary   _ _ _ h hP hD hS (lv_sub hl [0, 1] rfl)
    · replace h := iteF c4 h
      refine lv_iconst (v := 0) hx hb dX9_add_30 (by decide) ?_
      refine lv_goto (tgt := 35) hx hb dX9_add_31 (by decide) ?_
      refine L_f_X9_add_J35  v1 (0 : Int32) g_this g_this_now g_this_diary   _ _ _ h hP hD hS (lv_sub hl [0, 1] rfl)
  · replace h := iteT c2 h
    refine lv_iconst (v := 1) hx hb dX9_add_13 (by decide) ?_
    refine lv_goto (tgt := 35) hx hb dX9_add_14 (by decide) ?_
    refine L_f_X9_add_J35  v1 (1 : Int32) g_this g_this_now g_this_diary   _ _ _ h hP hD hS (lv_sub hl [0, 1] rfl)

