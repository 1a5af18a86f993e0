def f_X9_payFor_L18 (n_p1 : Nat) (g_this : TM) (g_this_chosenBy : Nat → Int64) (g_this_paidBy : Nat → Int64) (g_this_plan : Nat → Int32) (g_p1 : Nat → Int64)  : Nat → Int64 → Int32 → Int32 → Option (Int64 × ((Nat → Int64)))
  | 0, _, _, _ => none
  | n + 1, x3, x5, x6 =>
    (if (M_planned g_this) ≤ x6 then (some (x3, g_this_paidBy)) else (if inb x6 7 = true then ((f_X9_stepCost n_p1 128 128 g_p1 g_this_chosenBy g_this_paidBy x5 (g_this_plan x6.toNatClampNeg)).bind fun o4 => (if inb x6 7 = true then (f_X9_payFor_L18 n_p1 g_this g_this_chosenBy g_this_paidBy g_this_plan g_p1 n (x3 + o4.1) (x5 ||| ((1 : Int32) <<< ((g_this_plan x6.toNatClampNeg) &&& 31))) (x6 + (1 : Int32))) else none)) else none))
def f_X9_payFor (n_p1 : Nat) (g_this : TM) (g_this_chosenBy : Nat → Int64) (g_this_paidBy : Nat → Int64) (g_this_plan : Nat → Int32) (g_p1 : Nat → Int64) (v2 : Int32) : Option (Int64 × ((Nat → Int64))) :=
  ((f_X9_layRows n_p1 128 g_p1 g_this_paidBy v2).bind fun o1 => (f_X9_payFor_L18 n_p1 g_this g_this_chosenBy o1.2 g_this_plan g_p1 FUEL (0 : Int64) (0 : Int32) (0 : Int32)))
set_option maxHeartbeats 8000000 in
set_option maxRecDepth 100000 in
theorem c_X9_payFor (l : Launch) (hlt : l.stackTraces = false) (D : va_G) (dT : Nat → ClassId) (a_this : Nat → Nat) (a_p1 : Nat) (n_p1 : Nat) (g_this : TM) (g_this_chosenBy : Nat → Int64) (g_this_paidBy : Nat → Int64) (g_this_plan : Nat → Int32) (g_p1 : Nat → Int64) (v2 : Int32) (o : (Int64 × ((Nat → Int64)))) (h : f_X9_payFor n_p1 g_this g_this_chosenBy g_this_paidBy g_this_plan g_p1 v2 = some o) (sz : Nat) : Met l yX9_payFor (WSm yX9_payFor cX9_payFor 7 (some .long)) { frames := 4, cells := 0, slots := 0, locals := 94 } (va_Pc [.ref (a_this 0), .ref a_p1, .int v2] (cPre D dT (cM a_this g_this ++ (cJ_ dT (a_this 7) 128 g_this_chosenBy ++ (cJ_ dT (a_this 8) 128 g_this_paidBy ++ (cI_ dT (a_this 10) 7 g_this_plan ++ (cJ_ dT a_p1 n_p1 g_p1))))) sz)) (va_Ql (fun (r : Int64) (u : (Nat → Int64)) => r = o.1 ∧ u = o.2) (fun u t => cAt D dT (va_A (cM a_this g_this ++ (cJ_ dT (a_this 7) 128 g_this_chosenBy ++ (cJ_ dT (a_this 8) 128 g_this_paidBy ++ (cI_ dT (a_this 10) 7 g_this_plan ++ (cJ_ dT a_p1 n_p1 g_p1))))) sz) (cM a_this g_this ++ (cJ_ dT (a_this 7) 128 g_this_chosenBy ++ (cJ_ dT (a_this 8) 128 u ++ (cI_ dT (a_this 10) 7 g_this_plan ++ (cJ_ dT a_p1 n_p1 g_p1))))) t) (va_A (cM a_this g_this ++ (cJ_ dT (a_this 7) 128 g_this_chosenBy ++ (cJ_ dT (a_this 8) 128 g_this_paidBy ++ (cI_ dT (a_this 10) 7 g_this_plan ++ (cJ_ dT a_p1 n_p1 g_p1))))) sz)) 0 0 (va_A (cM a_this g_this ++ (cJ_ dT (a_this 7) 128 g_this_chosenBy ++ (cJ_ dT (a_this 8) 128 g_this_paidBy ++ (cI_ dT (a_this 10) 7 g_this_plan ++ (cJ_ dT a_p1 n_p1 g_p1))))) sz) := by
  refine mStart (WS := (cM a_this g_this ++ (cJ_ dT (a_this 7) 128 g_this_chosenBy ++ (cJ_ dT (a_this 8) 128 g_this_paidBy ++ (cI_ dT (a_this 10) 7 g_this_plan ++ (cJ_ dT a_p1 n_p1 g_p1)))))) (Qc := fun A => va_Ql (fun (r : Int64) (u : (Nat → Int64)) => r = o.1 ∧ u = o.2) (fun u t => cAt D dT A (cM a_this g_this ++ (cJ_ dT (a_this 7) 128 g_this_chosenBy ++ (cJ_ dT (a_this 8) 128 u ++ (cI_ dT (a_this 10) 7 g_this_plan ++ (cJ_ dT a_p1 n_p1 g_p1))))) t) A) RX9 rfl (by decide) (Nat.le_of_ble_eq_true rfl) ?_ sz
  intro p e s m below meth c A ls hx hb hml hr hlk hnm hts hqs hown hE hA hK hP hD hS hl
  have hl : lv_has ls 7 [(0, .ref (a_this 0)), (1, .ref a_p1), (2, .int v2)] := hl
  have L_f_X9_payFor_L18 : ∀ (n_p1 : Nat) (g_this : TM) (g_this_chosenBy : Nat → Int64) (g_this_paidBy : Nat → Int64) (g_this_plan : Nat → Int32) (g_p1 : Nat → Int64)   (n : Nat), ∀ (x3 : Int64) (x5 : Int32) (x6 : Int32) (H : Heap) (locs : List Loc) (ls : Array Slot), f_X9_payFor_L18 n_p1 g_this g_this_chosenBy g_this_paidBy g_this_plan g_p1  n x3 x5 x6 = some o → va_P D vwCl (cM a_this g_this ++ (cJ_ dT (a_this 7) 128 g_this_chosenBy ++ (cJ_ dT (a_this 8) 128 g_this_paidBy ++ (cI_ dT (a_this 10) 7 g_this_plan ++ (cJ_ dT a_p1 n_p1 g_p1))))) H → va_D A (cM a_this g_this ++ (cJ_ dT (a_this 7) 128 g_this_chosenBy ++ (cJ_ dT (a_this 8) 128 g_this_paidBy ++ (cI_ dT (a_this 10) 7 g_this_plan ++ (cJ_ dT a_p1 n_p1 g_p1))))) → va_S A s.heap H locs → lv_has ls 7 [(0, .ref (a_this 0)), (1, .ref a_p1), (3, .long x3), (5, .int x5), (6, .int x6)] → W p l e (headSpec (WSm yX9_payFor cX9_payFor 7 (some .long)) { frames := 4, cells := 0, slots := 0, locals := 94 }).room s m [.ref (a_this 0), .ref a_p1, .int v2].toArray below meth c H locs 0 0 (MQ below (va_Ql (fun (r : Int64) (u : (Nat → Int64)) => r = o.1 ∧ u = o.2) (fun u t => cAt D dT A (cM a_this g_this ++ (cJ_ dT (a_this 7) 128 g_this_chosenBy ++ (cJ_ dT (a_this 8) 128 u ++ (cI_ dT (a_this 10) 7 g_this_plan ++ (cJ_ dT a_p1 n_p1 g_p1))))) t) A) [.ref (a_this 0), .ref a_p1, .int v2].toArray s 0 0 A) (F0 m 18 ls []) := by
    intro n_p1 g_this g_this_chosenBy g_this_paidBy g_this_plan g_p1   n
    induction n with
    | zero => intro x3 x5 x6 H locs ls h; exact nomatch h
    | succ n ih =>
      intro x3 x5 x6 H locs ls h hP hD hS hl
      unfold f_X9_payFor_L18 at h
      refine lv_iload hx hb dX9_payFor_18 (lv_at hl 4 rfl) ?_
      refine lv_aload_n hx hb dX9_payFor_20 rfl (lv_at hl 0 rfl) ?_
      refine gf_X9_98 (v := .int (M_planned g_this)) hx hb hqs hown hK hP 0 rfl rfl dX9_payFor_21 ?_
      refine lv_icmp_ge (tgt := 71) hx hb dX9_payFor_24 (by decide) (fun c2 => ?_) (fun c2 => ?_)
      · replace h := iteT c2 h
        refine lv_lload_n hx hb dX9_payFor_71 rfl (lv_at hl 2 rfl) ?_
        exact rt_l hx hb hr hlk hK hS (g_this_paidBy : (Nat → Int64)) (ret2 h) hP hD dX9_payFor_72
      · replace h := iteF c2 h
        refine lv_lload_n hx hb dX9_payFor_27 rfl (lv_at hl 2 rfl) ?_
        refine lv_aload_n hx hb dX9_payFor_28 rfl (lv_at hl 1 rfl) ?_
        refine lv_aload_n hx hb dX9_payFor_29 rfl (lv_at hl 0 rfl) ?_
        refine gf_X9_30 (v := .ref (a_this 7)) hx hb hqs hown hK hP 0 rfl rfl dX9_payFor_30 ?_
        refine lv_aload_n hx hb dX9_payFor_33 rfl (lv_at hl 0 rfl) ?_
        refine gf_X9_33 (v := .ref (a_this 8)) hx hb hqs hown hK hP 0 rfl rfl dX9_payFor_34 ?_
        refine lv_iload hx hb dX9_payFor_37 (lv_at hl 3 rfl) ?_
        refine lv_aload_n hx hb dX9_payFor_39 rfl (lv_at hl 0 rfl) ?_
        refine gf_X9_39 (v := .ref (a_this 10)) hx hb hqs hown hK hP 0 rfl rfl dX9_payFor_40 ?_
        refine lv_iload hx hb dX9_payFor_43 (lv_at hl 4 rfl) ?_
        obtain ⟨g3, h⟩ := chk h
        refine va_iald hx hb hK hP 3 0 rfl rfl (inb_in g3) dX9_payFor_45 ?_
        obtain ⟨o4, e4, h⟩ := obind h
        have hPc := hP.sub (ws' := (cJ_ dT a_p1 n_p1 g_p1 ++ (cJ_ dT (a_this 7) 128 g_this_chosenBy ++ (cJ_ dT (a_this 8) 128 g_this_paidBy)))) [4, 1, 2] rfl
        have hDc := hD.sub (ws' := (cJ_ dT a_p1 n_p1 g_p1 ++ (cJ_ dT (a_this 7) 128 g_this_chosenBy ++ (cJ_ dT (a_this 8) 128 g_this_paidBy)))) [4, 1, 2] (by decide) rfl
        have hFc := va_free (wc := (cJ_ dT a_p1 n_p1 g_p1 ++ (cJ_ dT (a_this 7) 128 g_this_chosenBy ++ (cJ_ dT (a_this 8) 128 g_this_paidBy)))) hD hS hA [4, 1, 2] rfl
        refine cl_l (wr := (cM a_this g_this ++ (cI_ dT (a_this 10) 7 g_this_plan))) (va_runS (As := [.ref a_p1, .ref (a_this 7), .ref (a_this 8), .int x5, .int (g_this_plan x6.toNatClampNeg)]) (rest := [.long x3]) ⟨hx, hb, hml, hown, hts⟩ (c_X9_stepCost l hlt D dT a_p1 (a_this 7) (a_this 8) n_p1 128 128 g_p1 g_this_chosenBy g_this_paidBy x5 (g_this_plan x6.toNatClampNeg) o4 e4 _) (va_cwS 5 hts (TB_S w_1296 w_1297 w_59 w_1298) rfl rfl rfl nd_X9_stepCost ⟨Nat.le_of_ble_eq_true rfl, Nat.le_of_ble_eq_true rfl⟩) (cPre.S hPc hDc hK hE hS hFc) rfl rfl hl.1 rfl (lv_room (Nat.le_of_ble_eq_true rfl)) dX9_payFor_46 ⟨Nat.zero_le _, Nat.zero_le _⟩) hP hD hS hFc [4, 1, 2] [0, 3] rfl rfl (by decide) (by decide) (fun r4 u4 H locs hw hP hD hS => ?_)
        obtain ⟨rfl, rfl⟩ := hw
        have hP : va_P D vwCl (cM a_this g_this ++ (cI_ dT (a_this 10) 7 g_this_plan ++ (cJ_ dT a_p1 n_p1 g_p1 ++ (cJ_ dT (a_this 7) 128 g_this_chosenBy ++ (cJ_ dT (a_this 8) 128 g_this_paidBy))))) H := hP
        have hD : va_D A (cM a_this g_this ++ (cI_ dT (a_this 10) 7 g_this_plan ++ (cJ_ dT a_p1 n_p1 g_p1 ++ (cJ_ dT (a_this 7) 128 g_this_chosenBy ++ (cJ_ dT (a_this 8) 128 g_this_paidBy))))) := hD
        refine lv_ladd hx hb dX9_payFor_49 ?_
        refine lv_lstore_n (lv' := [(3, .long (x3 + o4.1)), (0, .ref (a_this 0)), (1, .ref a_p1), (5, .int x5), (6, .int x6)]) hx hb dX9_payFor_50 rfl hl (by decide) rfl (fun ls hl => ?_)
        refine lv_iload hx hb dX9_payFor_51 (lv_at hl 3 rfl) ?_
        refine lv_iconst (v := 1) hx hb dX9_payFor_53 (by decide) ?_
        refine lv_aload_n hx hb dX9_payFor_54 rfl (lv_at hl 1 rfl) ?_
        refine gf_X9_39 (v := .ref (a_this 10)) hx hb hqs hown hK hP 0 rfl rfl dX9_payFor_55 ?_
        refine lv_iload hx hb dX9_payFor_58 (lv_at hl 4 rfl) ?_
        obtain ⟨g5, h⟩ := chk h
        refine va_iald hx hb hK hP 1 0 rfl rfl (inb_in g5) dX9_payFor_60 ?_
        refine lv_ishl hx hb dX9_payFor_61 ?_
        refine lv_ior hx hb dX9_payFor_62 ?_
        refine lv_istore (lv' := [(5, .int (x5 ||| ((1 : Int32) <<< ((g_this_plan x6.toNatClampNeg) &&& 31)))), (3, .long (x3 + o4.1)), (0, .ref (a_this 0)), (1, .ref a_p1), (6, .int x6)]) hx hb dX9_payFor_63 hl (by decide) rfl (fun ls hl => ?_)
        refine lv_iinc (v := (x6 + (1 : Int32))) (lv' := [(6, .int (x6 + (1 : Int32))), (5, .int (x5 ||| ((1 : Int32) <<< ((g_this_plan x6.toNatClampNeg) &&& 31)))), (3, .long (x3 + o4.1)), (0, .ref (a_this 0)), (1, .ref a_p1)]) hx hb dX9_payFor_65 hl (k := 4) rfl rfl (by decide) rfl (fun ls hl => ?_)
        refine lv_goto (tgt := 18) hx hb dX9_payFor_68 (by decide) ?_
        have hP := hP.sub (ws' := (cM a_this g_this ++ (cJ_ dT (a_this 7) 128 g_this_chosenBy ++ (cJ_ dT (a_this 8) 128 g_this_paidBy ++ (cI_ dT (a_this 10) 7 g_this_plan ++ (cJ_ dT a_p1 n_p1 g_p1)))))) [0, 3, 4, 1, 2] rfl
        have hD := hD.sub (ws' := (cM a_this g_this ++ (cJ_ dT (a_this 7) 128 g_this_chosenBy ++ (cJ_ dT (a_this 8) 128 g_this_paidBy ++ (cI_ dT (a_this 10) 7 g_this_plan ++ (cJ_ dT a_p1 n_p1 g_p1)))))) [0, 3, 4, 1, 2] (by decide) rfl
        exact ih (x3 + o4.1) (x5 ||| ((1 : Int32) <<< ((g_this_plan x6.toNatClampNeg) &&& 31))) (x6 + (1 : Int32)) _ _ _ h hP hD hS (lv_sub hl [3, 4, 2, 1, 0] rfl)
  unfold f_X9_payFor at h
  refine lv_aload_n hx hb dX9_payFor_0 rfl (lv_at hl 0 rfl) ?_
  refine lv_aload_n hx hb dX9_payFor_1 rfl (lv_at hl 1 rfl) ?_
  refine lv_aload_n hx hb dX9_payFor_2 rfl (lv_at hl 0 rfl) ?_
  refine gf_X9_33 (v := .ref (a_this 8)) hx hb hqs hown hK hP 0 rfl rfl dX9_payFor_3 ?_
  refine lv_iload_n hx hb dX9_payFor_6 rfl (lv_at hl 2 rfl) ?_
  obtain ⟨o1, e1, h⟩ := obind h
  have hPc := hP.sub (ws' := (cJ_ dT a_p1 n_p1 g_p1 ++ (cJ_ dT (a_this 8) 128 g_this_paidBy))) [4, 2] rfl
  have hDc := hD.sub (ws' := (cJ_ dT a_p1 n_p1 g_p1 ++ (cJ_ dT (a_this 8) 128 g_this_paidBy))) [4, 2] (by decide) rfl
  have hFc := va_free (wc := (cJ_ dT a_p1 n_p1 g_p1 ++ (cJ_ dT (a_this 8) 128 g_this_paidBy))) hD hS hA [4, 2] rfl
  refine cl_v (wr := (cM a_this g_this ++ (cJ_ dT (a_this 7) 128 g_this_chosenBy ++ (cI_ dT (a_this 10) 7 g_this_plan)))) (va_runV (As := [.ref a_p1, .ref (a_this 8), .int v2]) (rest := []) ⟨hx, hb, hml, hown, hts⟩ (c_X9_layRows l hlt D dT a_this a_p1 (a_this 8) n_p1 128 g_p1 g_this_paidBy v2 o1 e1 _) (cwV 3 hts (TB_V w_1281 w_1283 w_43 w_59 w_1284) rfl rfl rfl ⟨rfl, nd_X9_layRows⟩ ⟨Nat.le_of_ble_eq_true rfl, Nat.le_of_ble_eq_true rfl⟩) (cPre.V hPc hDc hK hE hS hFc (va_recv hK hP (ci := 8) (q0 := 0) rfl rfl)) rfl rfl hl.1 rfl (lv_room (Nat.le_of_ble_eq_true rfl)) dX9_payFor_7 ⟨Nat.zero_le _, Nat.zero_le _⟩) hP hD hS hFc [4, 2] [0, 1, 3] rfl rfl (by decide) (by decide) (fun u1 H locs hw hP hD hS => ?_)
  subst hw
  have hP : va_P D vwCl (cM a_this g_this ++ (cJ_ dT (a_this 7) 128 g_this_chosenBy ++ (cI_ dT (a_this 10) 7 g_this_plan ++ (cJ_ dT a_p1 n_p1 g_p1 ++ (cJ_ dT (a_this 8) 128 o1.2))))) H := hP
  have hD : va_D A (cM a_this g_this ++ (cJ_ dT (a_this 7) 128 g_this_chosenBy ++ (cI_ dT (a_this 10) 7 g_this_plan ++ (cJ_ dT a_p1 n_p1 g_p1 ++ (cJ_ dT (a_this 8) 128 o1.2))))) := hD
  refine lv_lconst (v := 0) hx hb dX9_payFor_10 (by decide) ?_
  refine lv_lstore_n (lv' := [(3, .long (0 : Int64)), (0, .ref (a_this 0)), (1, .ref a_p1), (2, .int v2)]) hx hb dX9_payFor_11 rfl hl (by decide) rfl (fun ls hl => ?_)
  refine lv_iconst (v := 0) hx hb dX9_payFor_12 (by decide) ?_
  refine lv_istore (lv' := [(5, .int (0 : Int32)), (3, .long (0 : Int64)), (0, .ref (a_this 0)), (1, .ref a_p1), (2, .int v2)]) hx hb dX9_payFor_13 hl (by decide) rfl (fun ls hl => ?_)
  refine lv_iconst (v := 0) hx hb dX9_payFor_15 (by decide) ?_
  refine lv_istore (lv' := [(6, .int (0 : Int32)), (5, .int (0 : Int32)), (3, .long (0 : Int64)), (0, .ref (a_this 0)), (1, .ref a_p1), (2, .int v2)]) hx hb dX9_payFor_16 hl (by decide) rfl (fun ls hl => ?_)
  have hP := hP.sub (ws' := (cM a_this g_this ++ (cJ_ dT (a_this 7) 128 g_this_chosenBy ++ (cJ_ dT (a_this 8) 128 o1.2 ++ (cI_ dT (a_this 10) 7 g_this_plan ++ (cJ_ dT a_p1 n_p1 g_p1)))))) [0, 1, 4, 2, 3] rfl
  have hD := hD.sub (ws' := (cM a_this g_this ++ (cJ_ dT (a_this 7) 128 g_this_chosenBy ++ (cJ_ dT (a_this 8) 128 o1.2 ++ (cI_ dT (a_this 10) 7 g_this_plan ++ (cJ_ dT a_p1 n_p1 g_p1)))))) [0, 1, 4, 2, 3] (by decide) rfl
  refine L_f_X9_payFor_L18 n_p1 g_this g_this_chosenBy o1.2 g_this_plan g_p1   FUEL (0 : Int64) (0 : Int32) (0 : Int32) _ _ _ h hP hD hS (lv_sub hl [3, 4, 2, 1, 0] rfl)

def f_X9_costOn (n_p1 : Nat) (g_this : TM) (g_this_chosenBy : Nat → Int64) (g_this_paidBy : Nat → Int64) (g_this_toPay : Nat → Int64) (g_this_plan : Nat → Int32) (g_p1 : Nat → Int64) (v2 : Int32) (v3 : Int32) : Option (Int64 × (TM × (Nat → Int64) × (Nat → Int64) × (Nat → Int64) × (Nat → Int32))) :=
  ((f_X9_choose n_p1 g_this g_this_chosenBy g_this_toPay g_this_plan g_p1 v2 (1 : Int32)).bind fun o1 => (if v3 = (0 : Int32) then (some (o1.1, (o1.2.1, o1.2.2.1, g_this_paidBy, o1.2.2.2.1, o1.2.2.2.2))) else ((f_X9_payFor n_p1 o1.2.1 o1.2.2.1 g_this_paidBy o1.2.2.2.2 g_p1 (2 : Int32)).bind fun o3 => (if v3 = (1 : Int32) then (some (o3.1, (o1.2.1, o1.2.2.1, o3.2, o1.2.2.2.1, o1.2.2.2.2))) else ((f_X9_choose n_p1 o1.2.1 o1.2.2.1 o1.2.2.2.1 o1.2.2.2.2 g_p1 v2 (2 : Int32)).bind fun o5 => (some ((o3.1 - o5.1), (o5.2.1, o5.2.2.1, o3.2, o5.2.2.2.1, o5.2.2.2.2))))))))
set_option maxHeartbeats 8000000 in
set_option maxRecDepth 100000 in
theorem c_X9_costOn (l : Launch) (hlt : l.stackTraces = false) (D : va_G) (dT : Nat → ClassId) (a_this : Nat → Nat) (a_p1 : Nat) (n_p1 : Nat) (g_this : TM) (g_this_chosenBy : Nat → Int64) (g_this_paidBy : Nat → Int64) (g_this_toPay : Nat → Int64) (g_this_plan : Nat → Int32) (g_p1 : Nat → Int64) (v2 : Int32) (v3 : Int32) (o : (Int64 × (TM × (Nat → Int64) × (Nat → Int64) × (Nat → Int64) × (Nat → Int32)))) (h : f_X9_costOn n_p1 g_this g_this_chosenBy g_this_paidBy g_this_toPay g_this_plan g_p1 v2 v3 = some o) (sz : Nat) : Met l yX9_costOn (WSm yX9_costOn cX9_costOn 8 (some .long)) { frames := 5, cells := 0, slots := 0, locals := 121 } (va_Pc [.ref (a_this 0), .ref a_p1, .int v2, .int v3] (cPre D dT (cM a_this g_this ++ (cJ_ dT (a_this 7) 128 g_this_chosenBy ++ (cJ_ dT (a_this 8) 128 g_this_paidBy ++ (cJ_ dT (a_this 9) 128 g_this_toPay ++ (cI_ dT (a_this 10) 7 g_this_plan ++ (cJ_ dT a_p1 n_p1 g_p1)))))) sz)) (va_Ql (fun (r : Int64) (u : TM × (Nat → Int64) × (Nat → Int64) × (Nat → Int64) × (Nat → Int32)) => r = o.1 ∧ u = o.2) (fun u t => cAt D dT (va_A (cM a_this g_this ++ (cJ_ dT (a_this 7) 128 g_this_chosenBy ++ (cJ_ dT (a_this 8) 128 g_this_paidBy ++ (cJ_ dT (a_this 9) 128 g_this_toPay ++ (cI_ dT (a_this 10) 7 g_this_plan ++ (cJ_ dT a_p1 n_p1 g_p1)))))) sz) (cM a_this (u.1) ++ (cJ_ dT (a_this 7) 128 (u.2.1) ++ (cJ_ dT (a_this 8) 128 (u.2.2.1) ++ (cJ_ dT (a_this 9) 128 (u.2.2.2.1) ++ (cI_ dT (a_this 10) 7 (u.2.2.2.2) ++ (cJ_ dT a_p1 n_p1 g_p1)))))) t) (va_A (cM a_this g_this ++ (cJ_ dT (a_this 7) 128 g_this_chosenBy ++ (cJ_ dT (a_this 8) 128 g_this_paidBy ++ (cJ_ dT (a_this 9) 128 g_this_toPay ++ (cI_ dT (a_this 10) 7 g_this_plan ++ (cJ_ dT a_p1 n_p1 g_p1)))))) sz)) 0 0 (va_A (cM a_this g_this ++ (cJ_ dT (a_this 7) 128 g_this_chosenBy ++ (cJ_ dT (a_this 8) 128 g_this_paidBy ++ (cJ_ dT (a_this 9) 128 g_this_toPay ++ (cI_ dT (a_this 10) 7 g_this_plan ++ (cJ_ dT a_p1 n_p1 g_p1)))))) sz) := by
  refine mStart (WS := (cM a_this g_this ++ (cJ_ dT (a_this 7) 128 g_this_chosenBy ++ (cJ_ dT (a_this 8) 128 g_this_paidBy ++ (cJ_ dT (a_this 9) 128 g_this_toPay ++ (cI_ dT (a_this 10) 7 g_this_plan ++ (cJ_ dT a_p1 n_p1 g_p1))))))) (Qc := fun A => va_Ql (fun (r : Int64) (u : TM × (Nat → Int64) × (Nat → Int64) × (Nat → Int64) × (Nat → Int32)) => r = o.1 ∧ u = o.2) (fun u t => cAt D dT A (cM a_this (u.1) ++ (cJ_ dT (a_this 7) 128 (u.2.1) ++ (cJ_ dT (a_this 8) 128 (u.2.2.1) ++ (cJ_ dT (a_this 9) 128 (u.2.2.2.1) ++ (cI_ dT (a_this 10) 7 (u.2.2.2.2) ++ (cJ_ dT a_p1 n_p1 g_p1)))))) t) A) RX9 rfl (by decide) (Nat.le_of_ble_eq_true rfl) ?_ sz
  intro p e s m below meth c A ls hx hb hml hr hlk hnm hts hqs hown hE hA hK hP hD hS hl
  have hl : lv_has ls 8 [(0, .ref (a_this 0)), (1, .ref a_p1), (2, .int v2), (3, .int v3)] := hl
  unfold f_X9_costOn at h
  refine lv_aload_n hx hb dX9_costOn_0 rfl (lv_at hl 0 rfl) ?_
  refine lv_aload_n hx hb dX9_costOn_1 rfl (lv_at hl 1 rfl) ?_
  refine lv_iload_n hx hb dX9_costOn_2 rfl (lv_at hl 2 rfl) ?_
  refine lv_iconst (v := 1) hx hb dX9_costOn_3 (by decide) ?_
  obtain ⟨o1, e1, h⟩ := obind h
  have hPc := hP.sub (ws' := (cM a_this g_this ++ (cJ_ dT (a_this 7) 128 g_this_chosenBy ++ (cJ_ dT (a_this 9) 128 g_this_toPay ++ (cI_ dT (a_this 10) 7 g_this_plan ++ (cJ_ dT a_p1 n_p1 g_p1)))))) [0, 1, 3, 4, 5] rfl
  have hDc := hD.sub (ws' := (cM a_this g_this ++ (cJ_ dT (a_this 7) 128 g_this_chosenBy ++ (cJ_ dT (a_this 9) 128 g_this_toPay ++ (cI_ dT (a_this 10) 7 g_this_plan ++ (cJ_ dT a_p1 n_p1 g_p1)))))) [0, 1, 3, 4, 5] (by decide) rfl
  have hFc := va_free (wc := (cM a_this g_this ++ (cJ_ dT (a_this 7) 128 g_this_chosenBy ++ (cJ_ dT (a_this 9) 128 g_this_toPay ++ (cI_ dT (a_this 10) 7 g_this_plan ++ (cJ_ dT a_p1 n_p1 g_p1)))))) hD hS hA [0, 1, 3, 4, 5] rfl
  refine cl_l (wr := (cJ_ dT (a_this 8) 128 g_this_paidBy)) (va_runV (As := [.ref a_p1, .int v2, .int (1 : Int32)]) (rest := []) ⟨hx, hb, hml, hown, hts⟩ (c_X9_choose l hlt D dT a_this a_p1 n_p1 g_this g_this_chosenBy g_this_toPay g_this_plan g_p1 v2 (1 : Int32) o1 e1 _) (cwV 3 hts (TB_V w_1277 w_1279 w_42 w_59 w_1280) rfl rfl rfl ⟨rfl, nd_X9_choose⟩ ⟨Nat.le_of_ble_eq_true rfl, Nat.le_of_ble_eq_true rfl⟩) (cPre.V hPc hDc hK hE hS hFc (va_recv hK hP (ci := 8) (q0 := 0) rfl rfl)) rfl rfl hl.1 rfl (lv_room (Nat.le_of_ble_eq_true rfl)) dX9_costOn_4 ⟨Nat.zero_le _, Nat.zero_le _⟩) hP hD hS hFc [0, 1, 3, 4, 5] [2] rfl rfl (by decide) (by decide) (fun r1 u1 H locs hw hP hD hS => ?_)
  obtain ⟨rfl, rfl⟩ := hw
  have hP : va_P D vwCl (cJ_ dT (a_this 8) 128 g_this_paidBy ++ (cM a_this o1.2.1 ++ (cJ_ dT (a_this 7) 128 o1.2.2.1 ++ (cJ_ dT (a_this 9) 128 o1.2.2.2.1 ++ (cI_ dT (a_this 10) 7 o1.2.2.2.2 ++ (cJ_ dT a_p1 n_p1 g_p1)))))) H := hP
  have hD : va_D A (cJ_ dT (a_this 8) 128 g_this_paidBy ++ (cM a_this o1.2.1 ++ (cJ_ dT (a_this 7) 128 o1.2.2.1 ++ (cJ_ dT (a_this 9) 128 o1.2.2.2.1 ++ (cI_ dT (a_this 10) 7 o1.2.2.2.2 ++ (cJ_ dT a_p1 n_p1 g_p1)))))) := hD
  refine lv_lstore (lv' := [(4, .long o1.1), (0, .ref (a_this 0)), (1, .ref a_p1), (2, .int v2), (3, .int v3)]) hx hb dX9_costOn_7 hl (by decide) rfl (fun ls hl => ?_)
  refine lv_iload_n hx hb dX9_costOn_9 rfl (lv_at hl 4 rfl) ?_
  refine lv_if_ne (tgt := 16) hx hb dX9_costOn_10 (by decide) (fun c2 => ?_) (fun c2 => ?_)
  · replace h := iteF c2 h
    refine lv_aload_n hx hb dX9_costOn_16 rfl (lv_at hl 1 rfl) ?_
    refine lv_aload_n hx hb dX9_costOn_17 rfl (lv_at hl 2 rfl) ?_
    refine lv_iconst (v := 2) hx hb dX9_costOn_18 (by decide) ?_
    obtain ⟨o3, e3, h⟩ := obind h
    have hPc := hP.sub (ws' := (cM a_this o1.2.1 ++ (cJ_ dT (a_this 7) 128 o1.2.2.1 ++ (cJ_ dT (a_this 8) 128 g_this_paidBy ++ (cI_ dT (a_this 10) 7 o1.2.2.2.2 ++ (cJ_ dT a_p1 n_p1 g_p1)))))) [1, 2, 0, 4, 5] rfl
    have hDc := hD.sub (ws' := (cM a_this o1.2.1 ++ (cJ_ dT (a_this 7) 128 o1.2.2.1 ++ (cJ_ dT (a_this 8) 128 g_this_paidBy ++ (cI_ dT (a_this 10) 7 o1.2.2.2.2 ++ (cJ_ dT a_p1 n_p1 g_p1)))))) [1, 2, 0, 4, 5] (by decide) rfl
    have hFc := va_free (wc := (cM a_this o1.2.1 ++ (cJ_ dT (a_this 7) 128 o1.2.2.1 ++ (cJ_ dT (a_this 8) 128 g_this_paidBy ++ (cI_ dT (a_this 10) 7 o1.2.2.2.2 ++ (cJ_ dT a_p1 n_p1 g_p1)))))) hD hS hA [1, 2, 0, 4, 5] rfl
    refine cl_l (wr := (cJ_ dT (a_this 9) 128 o1.2.2.2.1)) (va_runV (As := [.ref a_p1, .int (2 : Int32)]) (rest := []) ⟨hx, hb, hml, hown, hts⟩ (c_X9_payFor l hlt D dT a_this a_p1 n_p1 o1.2.1 o1.2.2.1 g_this_paidBy o1.2.2.2.2 g_p1 (2 : Int32) o3 e3 _) (cwV 2 hts (TB_V w_1303 w_1305 w_44 w_59 w_1306) rfl rfl rfl ⟨rfl, nd_X9_payFor⟩ ⟨Nat.le_of_ble_eq_true rfl, Nat.le_of_ble_eq_true rfl⟩) (cPre.V hPc hDc hK hE hS hFc (va_recv hK hP (ci := 8) (q0 := 1) rfl rfl)) rfl rfl hl.1 rfl (lv_room (Nat.le_of_ble_eq_true rfl)) dX9_costOn_19 ⟨Nat.zero_le _, Nat.zero_le _⟩) hP hD hS hFc [1, 2, 0, 4, 5] [3] rfl rfl (by decide) (by decide) (fun r3 u3 H locs hw hP hD hS => ?_)
    obtain ⟨rfl, rfl⟩ := hw
    have hP : va_P D vwCl (cJ_ dT (a_this 9) 128 o1.2.2.2.1 ++ (cM a_this o1.2.1 ++ (cJ_ dT (a_this 7) 128 o1.2.2.1 ++ (cJ_ dT (a_this 8) 128 o3.2 ++ (cI_ dT (a_this 10) 7 o1.2.2.2.2 ++ (cJ_ dT a_p1 n_p1 g_p1)))))) H := hP
    have hD : va_D A (cJ_ dT (a_this 9) 128 o1.2.2.2.1 ++ (cM a_this o1.2.1 ++ (cJ_ dT (a_this 7) 128 o1.2.2.1 ++ (cJ_ dT (a_this 8) 128 o3.2 ++ (cI_ dT (a_this 10) 7 o1.2.2.2.2 ++ (cJ_ dT a_p1 n_p1 g_p1)))))) := hD
    refine lv_lstore (lv' := [(6, .long o3.1), (4, .long o1.1), (0, .ref (a_this 0)), (1, .ref a_p1), (2, .int v2), (3, .int v3)]) hx hb dX9_costOn_22 hl (by decide) rfl (fun ls hl => ?_)
    refine lv_iload_n hx hb dX9_costOn_24 rfl (lv_at hl 5 rfl) ?_
    refine lv_iconst (v := 1) hx hb dX9_costOn_25 (by decide) ?_
    refine lv_icmp_ne (tgt := 34) hx hb dX9_costOn_26 (by decide) (fun c4 => ?_) (fun c4 => ?_)
    · replace h := iteF c4 h
      refine lv_lload hx hb dX9_costOn_34 (lv_at hl 0 rfl) ?_
      refine lv_aload_n hx hb dX9_costOn_36 rfl (lv_at hl 2 rfl) ?_
      refine lv_aload_n hx hb dX9_costOn_37 rfl (lv_at hl 3 rfl) ?_
      refine lv_iload_n hx hb dX9_costOn_38 rfl (lv_at hl 4 rfl) ?_
      refine lv_iconst (v := 2) hx hb dX9_costOn_39 (by decide) ?_
      obtain ⟨o5, e5, h⟩ := obind h
      have hPc := hP.sub (ws' := (cM a_this o1.2.1 ++ (cJ_ dT (a_this 7) 128 o1.2.2.1 ++ (cJ_ dT (a_this 9) 128 o1.2.2.2.1 ++ (cI_ dT (a_this 10) 7 o1.2.2.2.2 ++ (cJ_ dT a_p1 n_p1 g_p1)))))) [1, 2, 0, 4, 5] rfl
      have hDc := hD.sub (ws' := (cM a_this o1.2.1 ++ (cJ_ dT (a_this 7) 128 o1.2.2.1 ++ (cJ_ dT (a_this 9) 128 o1.2.2.2.1 ++ (cI_ dT (a_this 10) 7 o1.2.2.2.2 ++ (cJ_ dT a_p1 n_p1 g_p1)))))) [1, 2, 0, 4, 5] (by decide) rfl
      have hFc := va_free (wc := (cM a_this o1.2.1 ++ (cJ_ dT (a_this 7) 128 o1.2.2.1 ++ (cJ_ dT (a_this 9) 128 o1.2.2.2.1 ++ (cI_ dT (a_this 10) 7 o1.2.2.2.2 ++ (cJ_ dT a_p1 n_p1 g_p1)))))) hD hS hA [1, 2, 0, 4, 5] rfl
      refine cl_l (wr := (cJ_ dT (a_this 8) 128 o3.2)) (va_runV (As := [.ref a_p1, .int v2, .int (2 : Int32)]) (rest := [.long o3.1]) ⟨hx, hb, hml, hown, hts⟩ (c_X9_choose l hlt D dT a_this a_p1 n_p1 o1.2.1 o1.2.2.1 o1.2.2.2.1 o1.2.2.2.2 g_p1 v2 (2 : Int32) o5 e5 _) (cwV 3 hts (TB_V w_1277 w_1279 w_42 w_59 w_1280) rfl rfl rfl ⟨rfl, nd_X9_choose⟩ ⟨Nat.le_of_ble_eq_true rfl, Nat.le_of_ble_eq_true rfl⟩) (cPre.V hPc hDc hK hE hS hFc (va_recv hK hP (ci := 8) (q0 := 1) rfl rfl)) rfl rfl hl.1 rfl (lv_room (Nat.le_of_ble_eq_true rfl)) dX9_costOn_40 ⟨Nat.zero_le _, Nat.zero_le _⟩) hP hD hS hFc [1, 2, 0, 4, 5] [3] rfl rfl (by decide) (by decide) (fun r5 u5 H locs hw hP hD hS => ?_)
      obtain ⟨rfl, rfl⟩ := hw
      have hP : va_P D vwCl (cJ_ dT (a_this 8) 128 o3.2 ++ (cM a_this o5.2.1 ++ (cJ_ dT (a_this 7) 128 o5.2.2.1 ++ (cJ_ dT (a_this 9) 128 o5.2.2.2.1 ++ (cI_ dT (a_this 10) 7 o5.2.2.2.2 ++ (cJ_ dT a_p1 n_p1 g_p1)))))) H := hP
      have hD : va_D A (cJ_ dT (a_this 8) 128 o3.2 ++ (cM a_this o5.2.1 ++ (cJ_ dT (a_this 7) 128 o5.2.2.1 ++ (cJ_ dT (a_this 9) 128 o5.2.2.2.1 ++ (cI_ dT (a_this 10) 7 o5.2.2.2.2 ++ (cJ_ dT a_p1 n_p1 g_p1)))))) := hD
      refine lv_lsub hx hb dX9_costOn_43 ?_
      have hP := hP.sub (ws' := (cM a_this o5.2.1 ++ (cJ_ dT (a_this 7) 128 o5.2.2.1 ++ (cJ_ dT (a_this 8) 128 o3.2 ++ (cJ_ dT (a_this 9) 128 o5.2.2.2.1 ++ (cI_ dT (a_this 10) 7 o5.2.2.2.2 ++ (cJ_ dT a_p1 n_p1 g_p1))))))) [1, 2, 0, 3, 4, 5] rfl
      have hD := hD.sub (ws' := (cM a_this o5.2.1 ++ (cJ_ dT (a_this 7) 128 o5.2.2.1 ++ (cJ_ dT (a_this 8) 128 o3.2 ++ (cJ_ dT (a_this 9) 128 o5.2.2.2.1 ++ (cI_ dT (a_this 10) 7 o5.2.2.2.2 ++ (cJ_ dT a_p1 n_p1 g_p1))))))) [1, 2, 0, 3, 4, 5] (by decide) rfl
      exact rt_l hx hb hr hlk hK hS ((o5.2.1, o5.2.2.1, o3.2, o5.2.2.2.1, o5.2.2.2.2) : TM × (Nat → Int64) × (Nat → Int64) × (Nat → Int64) × (Nat → Int32)) (ret2 h) hP hD dX9_costOn_44
    · replace h := iteT c4 h
      refine lv_lload hx hb dX9_costOn_29 (lv_at hl 0 rfl) ?_
      refine lv_goto (tgt := 44) hx hb dX9_costOn_31 (by decide) ?_
      have hP := hP.sub (ws' := (cM a_this o1.2.1 ++ (cJ_ dT (a_this 7) 128 o1.2.2.1 ++ (cJ_ dT (a_this 8) 128 o3.2 ++ (cJ_ dT (a_this 9) 128 o1.2.2.2.1 ++ (cI_ dT (a_this 10) 7 o1.2.2.2.2 ++ (cJ_ dT a_p1 n_p1 g_p1))))))) [1, 2, 3, 0, 4, 5] rfl
      have hD := hD.sub (ws' := (cM a_this o1.2.1 ++ (cJ_ dT (a_this 7) 128 o1.2.2.1 ++ (cJ_ dT (a_this 8) 128 o3.2 ++ (cJ_ dT (a_this 9) 128 o1.2.2.2.1 ++ (cI_ dT (a_this 10) 7 o1.2.2.2.2 ++ (cJ_ dT a_p1 n_p1 g_p1))))))) [1, 2, 3, 0, 4, 5] (by decide) rfl
      exact rt_l hx hb hr hlk hK hS ((o1.2.1, o1.2.2.1, o3.2, o1.2.2.2.1, o1.2.2.2.2) : TM × (Nat → Int64) × (Nat → Int64) × (Nat → Int64) × (Nat → Int32)) (ret2 h) hP hD dX9_costOn_44
  · replace h := iteT c2 h
    refine lv_lload hx hb dX9_costOn_13 (lv_at hl 0 rfl) ?_
    have hP := hP.sub (ws' := (cM a_this o1.2.1 ++ (cJ_ dT (a_this 7) 128 o1.2.2.1 ++ (cJ_ dT (a_this 8) 128 g_this_paidBy ++ (cJ_ dT (a_this 9) 128 o1.2.2.2.1 ++ (cI_ dT (a_this 10) 7 o1.2.2.2.2 ++ (cJ_ dT a_p1 n_p1 g_p1))))))) [1, 2, 0, 3, 4, 5] rfl
    have hD := hD.sub (ws' := (cM a_this o1.2.1 ++ (cJ_ dT (a_this 7) 128 o1.2.2.1 ++ (cJ_ dT (a_this 8) 128 g_this_paidBy ++ (cJ_ dT (a_this 9) 128 o1.2.2.2.1 ++ (cI_ dT (a_this 10) 7 o1.2.2.2.2 ++ (cJ_ dT a_p1 n_p1 g_p1))))))) [1, 2, 0, 3, 4, 5] (by decide) rfl
    exact rt_l hx hb hr hlk hK hS ((o1.2.1, o1.2.2.1, g_this_paidBy, o1.2.2.2.1, o1.2.2.2.2) : TM × (Nat → Int64) × (Nat → Int64) × (Nat → Int64) × (Nat → Int32)) (ret2 h) hP hD dX9_costOn_15

def f_X9_append_J31   (x1 : Int32) (s0 : Int32) (g_this : TM) (g_this_text : Nat → Int32) : Option (Int32 × (TM × (Nat → Int32))) :=
    ((f_X9_refused g_this s0).bind fun o4 => (if o4.1 = (0 : Int32) then (if inb (M_size o4.2) 100 = true then (some (((M_size o4.2) + (1 : Int32)), ((M_mk (M_refusal o4.2) ((M_size o4.2) + (1 : Int32)) (M_acts o4.2) (M_planned o4.2) (M_spot o4.2) (M_out o4.2)), (upd g_this_text (M_size o4.2).toNatClampNeg x1)))) else none) else (some ((0 : Int32), (o4.2, g_this_text)))))
def f_X9_append (g_this : TM) (g_this_text : Nat → Int32) (v1 : Int32) : Option (Int32 × (TM × (Nat → Int32))) :=
  ((f_X9_in (Int32.toInt64 v1) (0 : Int64) (255 : Int64)).bind fun o1 => (if o1.1 = (0 : Int32) then (f_X9_append_J31 v1 (1 : Int32) g_this g_this_text) else (if (M_size g_this) = (100 : Int32) then (f_X9_append_J31 v1 (2 : Int32) g_this g_this_text) else (f_X9_append_J31 v1 (0 : Int32) g_this g_this_text))))
set_option maxHeartbeats 8000000 in
set_option maxRecDepth 100000 in
theorem c_X9_append (l : Launch) (hlt : l.stackTraces = false) (D : va_G) (dT : Nat → ClassId) (a_this : Nat → Nat) (g_this : TM) (g_this_text : Nat → Int32) (v1 : Int32) (o : (Int32 × (TM × (Nat → Int32)))) (h : f_X9_append g_this g_this_text v1 = some o) (sz : Nat) : Met l yX9_append (WSm yX9_append cX9_append 2 (some .int)) { frames := 1, cells := 0, slots := 0, locals := 25 } (va_Pc [.ref (a_this 0), .int v1] (cPre D dT (cM a_this g_this ++ (cI_ dT (a_this 1) 100 g_this_text)) sz)) (va_Qi (fun (r : Int32) (u : TM × (Nat → Int32)) => r = o.1 ∧ u = o.2) (fun u t => cAt D dT (va_A (cM a_this g_this ++ (cI_ dT (a_this 1) 100 g_this_text)) sz) (cM a_this (u.1) ++ (cI_ dT (a_this 1) 100 (u.2))) t) (va_A (cM a_this g_this ++ (cI_ dT (a_this 1) 100 g_this_text)) sz)) 0 0 (va_A (cM a_this g_this ++ (cI_ dT (a_this 1) 100 g_this_text)) sz) := by
  refine mStart (WS := (cM a_this g_this ++ (cI_ dT (a_this 1) 100 g_this_text))) (Qc := fun A => va_Qi (fun (r : Int32) (u : TM × (Nat → Int32)) => r = o.1 ∧ u = o.2) (fun u t => cAt D dT A (cM a_this (u.1) ++ (cI_ dT (a_this 1) 100 (u.2))) t) A) RX9 rfl (by decide) (Nat.le_of_ble_eq_true rfl) ?_ sz
  intro p e s m below meth c A ls hx hb hml hr hlk hnm hts hqs hown hE hA hK hP hD hS hl
  have hl : lv_has ls 2 [(0, .ref (a_this 0)), (1, .int v1)] := hl
  have L_f_X9_append_J31 : ∀  (x1 : Int32) (s0 : Int32) (g_this : TM) (g_this_text : Nat → Int32)   (H : Heap) (locs : List Loc) (ls : Array Slot), f_X9_append_J31   x1 s0 g_this g_this_text = some o → va_P D vwCl (cM a_this g_this ++ (cI_ dT (a_this 1) 100 g_this_text)) H → va_D A (cM a_this g_this ++ (cI_ dT (a_this 1) 100 g_this_text)) → va_S A s.heap H locs → lv_has ls 2 [(0, .ref (a_this 0)), (1, .int x1)] → W p l e (headSpec (WSm yX9_append cX9_append 2 (some .int)) { frames := 1, cells := 0, slots := 0, locals := 25 }).room s m [.ref (a_this 0), .int v1].toArray below meth c H locs 0 0 (MQ below (va_Qi (fun (r : Int32) (u : TM × (Nat → Int32)) => r = o.1 ∧ u = o.2) (fun u t => cAt D dT A (cM a_this (u.1) ++ (cI_ dT (a_this 1) 100 (u.2))) t) A) [.ref (a_this 0), .int v1].toArray s 0 0 A) (F0 m 31 ls [.int s0, .ref (a_this 0)]) := by
    intro  x1 s0 g_this g_this_text   H locs ls h hP hD hS hl
    unfold f_X9_append_J31 at h
    obtain ⟨o4, e4, h⟩ := obind h
    have hPc := hP.sub (ws' := (cM a_this g_this)) [0] rfl
    have hDc := hD.sub (ws' := (cM a_this g_this)) [0] (by decide) rfl
    have hFc := va_free (wc := (cM a_this g_this)) hD hS hA [0] rfl
    refine cl_i (wr := (cI_ dT (a_this 1) 100 g_this_text)) (va_runV (As := [.int s0]) (rest := []) ⟨hx, hb, hml, hown, hts⟩ (c_X9_refused l hlt D dT a_this g_this s0 o4 e4 _) (cwV 1 hts (TB_V w_1132 w_1134 w_32 w_59 w_1135) rfl rfl rfl ⟨rfl, nd_X9_refused⟩ ⟨Nat.le_of_ble_eq_true rfl, Nat.le_of_ble_eq_true rfl⟩) (cPre.V hPc hDc hK hE hS hFc (va_recv hK hP (ci := 8) (q0 := 0) rfl rfl)) rfl rfl hl.1 rfl (lv_room (Nat.le_of_ble_eq_true rfl)) dX9_append_31 ⟨Nat.zero_le _, Nat.zero_le _⟩) hP hD hS hFc [0] [1] rfl rfl (by decide) (by decide) (fun r4 u4 H locs hw hP hD hS => ?_)
    obtain ⟨rfl, rfl⟩ := hw
    have hP : va_P D vwCl (cI_ dT (a_this 1) 100 g_this_text ++ (cM a_this o4.2)) H := hP
    have hD : va_D A (cI_ dT (a_this 1) 100 g_this_text ++ (cM a_this o4.2)) := hD
    refine lv_if_eq (tgt := 39) hx hb dX9_append_34 (by decide) (fun c5 => ?_) (fun c5 => ?_)
    · replace h := iteT c5 h
      refine lv_aload_n hx hb dX9_append_39 rfl (lv_at hl 0 rfl) ?_
      refine gf_X9_7 (v := .ref (a_this 1)) hx hb hqs hown hK hP 1 rfl rfl dX9_append_40 ?_
      refine lv_aload_n hx hb dX9_append_43 rfl (lv_at hl 0 rfl) ?_
      refine gf_X9_115 (v := .int (M_size o4.2)) hx hb hqs hown hK hP 1 rfl rfl dX9_append_44 ?_
      refine lv_iload_n hx hb dX9_append_47 rfl (lv_at hl 1 rfl) ?_
      obtain ⟨g6, h⟩ := chk h
      refine va_iast hx hb hK hP hD hS 0 0 rfl rfl (inb_in g6) dX9_append_48 (fun H locs hP hD hS => ?_)
      have hP : va_P D vwCl (cI_ dT (a_this 1) 100 (upd g_this_text (M_size o4.2).toNatClampNeg x1) ++ (cM a_this o4.2)) H := hP
      have hD : va_D A (cI_ dT (a_this 1) 100 (upd g_this_text (M_size o4.2).toNatClampNeg x1) ++ (cM a_this o4.2)) := hD
      refine lv_aload_n hx hb dX9_append_49 rfl (lv_at hl 0 rfl) ?_
      refine lv_dup hx hb dX9_append_50 rfl ?_
      refine gf_X9_115 (v := .int (M_size o4.2)) hx hb hqs hown hK hP 1 rfl rfl dX9_append_51 ?_
      refine lv_iconst (v := 1) hx hb dX9_append_54 (by decide) ?_
      refine lv_iadd hx hb dX9_append_55 ?_
      refine pf_X9_115 hx hb hqs hown hK hP hD hS 1 rfl rfl dX9_append_56 (fun H locs hP hD hS => ?_)
      have hP : va_P D vwCl (cI_ dT (a_this 1) 100 (upd g_this_text (M_size o4.2).toNatClampNeg x1) ++ ([(a_this 0, .inr (8, [.int (M_refusal o4.2), .ref (a_this 1), .int ((M_size o4.2) + (1 : Int32)), .ref (a_this 2), .ref (a_this 3), .ref (a_this 4), .int (M_acts o4.2), .ref (a_this 5), .ref (a_this 6), .ref (a_this 7), .ref (a_this 8), .ref (a_this 9), .ref (a_this 10), .int (M_planned o4.2), .int (M_spot o4.2), .int (M_out o4.2), .ref (a_this 11)]))])) H := hP
      have hD : va_D A (cI_ dT (a_this 1) 100 (upd g_this_text (M_size o4.2).toNatClampNeg x1) ++ ([(a_this 0, .inr (8, [.int (M_refusal o4.2), .ref (a_this 1), .int ((M_size o4.2) + (1 : Int32)), .ref (a_this 2), .ref (a_this 3), .ref (a_this 4), .int (M_acts o4.2), .ref (a_this 5), .ref (a_this 6), .ref (a_this 7), .ref (a_this 8), .ref (a_this 9), .ref (a_this 10), .int (M_planned o4.2), .int (M_spot o4.2), .int (M_out o4.2), .ref (a_this 11)]))])) := hD
      refine lv_aload_n hx hb dX9_append_59 rfl (lv_at hl 0 rfl) ?_
      refine gf_X9_115 (v := .int ((M_size o4.2) + (1 : Int32))) hx hb hqs hown hK hP 1 rfl rfl dX9_append_60 ?_
      have hP := hP.sub (ws' := ([(a_this 0, .inr (8, [.int (M_refusal o4.2), .ref (a_this 1), .int ((M_size o4.2) + (1 : Int32)), .ref (a_this 2), .ref (a_this 3), .ref (a_this 4), .int (M_acts o4.2), .ref (a_this 5), .ref (a_this 6), .ref (a_this 7), .ref (a_this 8), .ref (a_this 9), .ref (a_this 10), .int (M_planned o4.2), .int (M_spot o4.2), .int (M_out o4.2), .ref (a_this 11)]))] ++ (cI_ dT (a_this 1) 100 (upd g_this_text (M_size o4.2).toNatClampNeg x1)))) [1, 0] rfl
      have hD := hD.sub (ws' := ([(a_this 0, .inr (8, [.int (M_refusal o4.2), .ref (a_this 1), .int ((M_size o4.2) + (1 : Int32)), .ref (a_this 2), .ref (a_this 3), .ref (a_this 4), .int (M_acts o4.2), .ref (a_this 5), .ref (a_this 6), .ref (a_this 7), .ref (a_this 8), .ref (a_this 9), .ref (a_this 10), .int (M_planned o4.2), .int (M_spot o4.2), .int (M_out o4.2), .ref (a_this 11)]))] ++ (cI_ dT (a_this 1) 100 (upd g_this_text (M_size o4.2).toNatClampNeg x1)))) [1, 0] (by decide) rfl
      exact rt_i hx hb hr hlk hK hS (((M_mk (M_refusal o4.2) ((M_size o4.2) + (1 : Int32)) (M_acts o4.2) (M_planned o4.2) (M_spot o4.2) (M_out o4.2)), (upd g_this_text (M_size o4.2).toNatClampNeg x1)) : TM × (Nat → Int32)) (ret2 h) hP hD dX9_append_63
    · replace h := iteF c5 h
      refine lv_iconst (v := 0) hx hb dX9_append_37 (by decide) ?_
      have hP := hP.sub (ws' := (cM a_this o4.2 ++ (cI_ dT (a_this 1) 100 g_this_text))) [1, 0] rfl
      have hD := hD.sub (ws' := (cM a_this o4.2 ++ (cI_ dT (a_this 1) 100 g_this_text))) [1, 0] (by decide) rfl
      exact rt_i hx hb hr hlk hK hS ((o4.2, g_this_text) : TM × (Nat → Int32)) (ret2 h) hP hD dX9_append_38
  unfold f_X9_append at h
  refine lv_aload_n hx hb dX9_append_0 rfl (lv_at hl 0 rfl) ?_
  refine lv_iload_n hx hb dX9_append_1 rfl (lv_at hl 1 rfl) ?_
  refine lv_i2l hx hb dX9_append_2 rfl ?_
  refine lv_lconst (v := 0) hx hb dX9_append_3 (by decide) ?_
  refine lv_ldc2 (v := 255) hx hb hown (hqs _ w_1128) dX9_append_4 ?_
  obtain ⟨o1, e1, h⟩ := obind h
  have hPc := hP.sub (ws' := ([] : va_W)) [] rfl
  have hDc := hD.sub (ws' := ([] : va_W)) [] (by decide) rfl
  have hFc := va_free (wc := ([] : va_W)) hD hS hA [] rfl
  refine cl_i (wr := (cM a_this g_this ++ (cI_ dT (a_this 1) 100 g_this_text))) (va_runS (As := [.long (Int32.toInt64 v1), .long (0 : Int64), .long (255 : Int64)]) (rest := [.ref (a_this 0)]) ⟨hx, hb, hml, hown, hts⟩ (c_X9_in l hlt D dT (Int32.toInt64 v1) (0 : Int64) (255 : Int64) o1 e1 _) (va_cwS 3 hts (TB_S w_1129 w_1130 w_59 w_1131) rfl rfl rfl nd_X9_in ⟨Nat.le_of_ble_eq_true rfl, Nat.le_of_ble_eq_true rfl⟩) (cPre.S hPc hDc hK hE hS hFc) rfl rfl hl.1 rfl (lv_room (Nat.le_of_ble_eq_true rfl)) dX9_append_7 ⟨Nat.zero_le _, Nat.zero_le _⟩) hP hD hS hFc [] [0, 1] rfl rfl (by decide) (by decide) (fun r1 u1 H locs hw hP hD hS => ?_)
  obtain ⟨rfl, rfl⟩ := hw
  have hP : va_P D vwCl (cM a_this g_this ++ (cI_ dT (a_this 1) 100 g_this_text)) H := hP
  have hD : va_D A (cM a_this g_this ++ (cI_ dT (a_this 1) 100 g_this_text)) := hD
  refine lv_if_ne (tgt := 17) hx hb dX9_append_10 (by decide) (fun c2 => ?_) (fun c2 => ?_)
  · replace h := iteF c2 h
    refine lv_aload_n hx hb dX9_append_17 rfl (lv_at hl 0 rfl) ?_
    refine gf_X9_115 (v := .int (M_size g_this)) hx hb hqs hown hK hP 0 rfl rfl dX9_append_18 ?_
    refine lv_bipush (v := 100) hx hb dX9_append_21 (by decide) ?_
    refine lv_icmp_ne (tgt := 30) hx hb dX9_append_23 (by decide) (fun c3 => ?_) (fun c3 => ?_)
    · replace h := iteF c3 h
      refine lv_iconst (v := 0) hx hb dX9_append_30 (by decide) ?_
      refine L_f_X9_append_J31  v1 (0 : Int32) g_this g_this_text   _ _ _ h hP hD hS (lv_sub hl [0, 1] rfl)
    · replace h := iteT c3 h
      refine lv_iconst (v := 2) hx hb dX9_append_26 (by decide) ?_
      refine lv_goto (tgt := 31) hx hb dX9_append_27 (by decide) ?_
      refine L_f_X9_append_J31  v1 (2 : Int32) g_this g_this_text   _ _ _ h hP hD hS (lv_sub hl [0, 1] rfl)
  · replace h := iteT c2 h
    refine lv_iconst (v := 1) hx hb dX9_append_13 (by decide) ?_
    refine lv_goto (tgt := 31) hx hb dX9_append_14 (by decide) ?_
    refine L_f_X9_append_J31  v1 (1 : Int32) g_this g_this_text   _ _ _ h hP hD hS (lv_sub hl [0, 1] rfl)

def f_X9_clearText (g_this : TM) : Option (Int32 × (TM)) :=
  (some ((M_size g_this), (M_mk (0 : Int32) (0 : Int32) (M_acts g_this) (M_planned g_this) (M_spot g_this) (M_out g_this))))
set_option maxHeartbeats 8000000 in
set_option maxRecDepth 100000 in
theorem c_X9_clearText (l : Launch) (hlt : l.stackTraces = false) (D : va_G) (dT : Nat → ClassId) (a_this : Nat → Nat) (g_this : TM) (o : (Int32 × (TM))) (h : f_X9_clearText g_this = some o) (sz : Nat) : Met l yX9_clearText (WSm yX9_clearText cX9_clearText 2 (some .int)) { frames := 0, cells := 0, slots := 0, locals := 0 } (va_Pc [.ref (a_this 0)] (cPre D dT (cM a_this g_this) sz)) (va_Qi (fun (r : Int32) (u : TM) => r = o.1 ∧ u = o.2) (fun u t => cAt D dT (va_A (cM a_this g_this) sz) (cM a_this u) t) (va_A (cM a_this g_this) sz)) 0 0 (va_A (cM a_this g_this) sz) := by
  refine mStart (WS := (cM a_this g_this)) (Qc := fun A => va_Qi (fun (r : Int32) (u : TM) => r = o.1 ∧ u = o.2) (fun u t => cAt D dT A (cM a_this u) t) A) RX9 rfl (by decide) (Nat.le_of_ble_eq_true rfl) ?_ sz
  intro p e s m below meth c A ls hx hb hml hr hlk hnm hts hqs hown hE hA hK hP hD hS hl
  have hl : lv_has ls 2 [(0, .ref (a_this 0))] := hl
  unfold f_X9_clearText at h
  refine lv_aload_n hx hb dX9_clearText_0 rfl (lv_at hl 0 rfl) ?_
  refine lv_iconst (v := 0) hx hb dX9_clearText_1 (by decide) ?_
  refine pf_X9_55 hx hb hqs hown hK hP hD hS 0 rfl rfl dX9_clearText_2 (fun H locs hP hD hS => ?_)
  have hP : va_P D vwCl ([(a_this 0, .inr (8, [.int (0 : Int32), .ref (a_this 1), .int (M_size g_this), .ref (a_this 2), .ref (a_this 3), .ref (a_this 4), .int (M_acts g_this), .ref (a_this 5), .ref (a_this 6), .ref (a_this 7), .ref (a_this 8), .ref (a_this 9), .ref (a_this 10), .int (M_planned g_this), .int (M_spot g_this), .int (M_out g_this), .ref (a_this 11)]))]) H := hP
  have hD : va_D A ([(a_this 0, .inr (8, [.int (0 : Int32), .ref (a_this 1), .int (M_size g_this), .ref (a_this 2), .ref (a_this 3), .ref (a_this 4), .int (M_acts g_this), .ref (a_this 5), .ref (a_this 6), .ref (a_this 7), .ref (a_this 8), .ref (a_this 9), .ref (a_this 10), .int (M_planned g_this), .int (M_spot g_this), .int (M_out g_this), .ref (a_this 11)]))]) := hD
  refine lv_aload_n hx hb dX9_clearText_5 rfl (lv_at hl 0 rfl) ?_
  refine gf_X9_115 (v := .int (M_size g_this)) hx hb hqs hown hK hP 0 rfl rfl dX9_clearText_6 ?_
  refine lv_istore_n (lv' := [(1, .int (M_size g_this)), (0, .ref (a_this 0))]) hx hb dX9_clearText_9 rfl hl (by decide) rfl (fun ls hl => ?_)
  refine lv_aload_n hx hb dX9_clearText_10 rfl (lv_at hl 1 rfl) ?_
  refine lv_iconst (v := 0) hx hb dX9_clearText_11 (by decide) ?_
  refine pf_X9_115 hx hb hqs hown hK hP hD hS 0 rfl rfl dX9_clearText_12 (fun H locs hP hD hS => ?_)
  have hP : va_P D vwCl ([(a_this 0, .inr (8, [.int (0 : Int32), .ref (a_this 1), .int (0 : Int32), .ref (a_this 2), .ref (a_this 3), .ref (a_this 4), .int (M_acts g_this), .ref (a_this 5), .ref (a_this 6), .ref (a_this 7), .ref (a_this 8), .ref (a_this 9), .ref (a_this 10), .int (M_planned g_this), .int (M_spot g_this), .int (M_out g_this), .ref (a_this 11)]))]) H := hP
  have hD : va_D A ([(a_this 0, .inr (8, [.int (0 : Int32), .ref (a_this 1), .int (0 : Int32), .ref (a_this 2), .ref (a_this 3), .ref (a_this 4), .int (M_acts g_this), .ref (a_this 5), .ref (a_this 6), .ref (a_this 7), .ref (a_this 8), .ref (a_this 9), .ref (a_this 10), .int (M_planned g_this), .int (M_spot g_this), .int (M_out g_this), .ref (a_this 11)]))]) := hD
  refine lv_iload_n hx hb dX9_clearText_15 rfl (lv_at hl 0 rfl) ?_
  exact rt_i hx hb hr hlk hK hS ((M_mk (0 : Int32) (0 : Int32) (M_acts g_this) (M_planned g_this) (M_spot g_this) (M_out g_this)) : TM) (ret2 h) hP hD dX9_clearText_16

def f_X9_sign (g_this : TM) (g_this_text : Nat → Int32) : Option (Int32 × (Unit)) :=
  (if (M_size g_this) ≤ (M_spot g_this) then (some ((-1 : Int32), ())) else (if inb (M_spot g_this) 100 = true then (some ((g_this_text (M_spot g_this).toNatClampNeg), ())) else none))
set_option maxHeartbeats 8000000 in
set_option maxRecDepth 100000 in
theorem c_X9_sign (l : Launch) (hlt : l.stackTraces = false) (D : va_G) (dT : Nat → ClassId) (a_this : Nat → Nat) (g_this : TM) (g_this_text : Nat → Int32) (o : (Int32 × (Unit))) (h : f_X9_sign g_this g_this_text = some o) (sz : Nat) : Met l yX9_sign (WSm yX9_sign cX9_sign 1 (some .int)) { frames := 0, cells := 0, slots := 0, locals := 0 } (va_Pc [.ref (a_this 0)] (cPre D dT (cM a_this g_this ++ (cI_ dT (a_this 1) 100 g_this_text)) sz)) (va_Qi (fun (r : Int32) (u : Unit) => r = o.1 ∧ u = o.2) (fun u t => cAt D dT (va_A (cM a_this g_this ++ (cI_ dT (a_this 1) 100 g_this_text)) sz) (cM a_this g_this ++ (cI_ dT (a_this 1) 100 g_this_text)) t) (va_A (cM a_this g_this ++ (cI_ dT (a_this 1) 100 g_this_text)) sz)) 0 0 (va_A (cM a_this g_this ++ (cI_ dT (a_this 1) 100 g_this_text)) sz) := by
  refine mStart (WS := (cM a_this g_this ++ (cI_ dT (a_this 1) 100 g_this_text))) (Qc := fun A => va_Qi (fun (r : Int32) (u : Unit) => r = o.1 ∧ u = o.2) (fun u t => cAt D dT A (cM a_this g_this ++ (cI_ dT (a_this 1) 100 g_this_text)) t) A) RX9 rfl (by decide) (Nat.le_of_ble_eq_true rfl) ?_ sz
  intro p e s m below meth c A ls hx hb hml hr hlk hnm hts hqs hown hE hA hK hP hD hS hl
  have hl : lv_has ls 1 [(0, .ref (a_this 0))] := hl
  unfold f_X9_sign at h
  refine lv_aload_n hx hb dX9_sign_0 rfl (lv_at hl 0 rfl) ?_
  refine gf_X9_122 (v := .int (M_spot g_this)) hx hb hqs hown hK hP 0 rfl rfl dX9_sign_1 ?_
  refine lv_aload_n hx hb dX9_sign_4 rfl (lv_at hl 0 rfl) ?_
  refine gf_X9_115 (v := .int (M_size g_this)) hx hb hqs hown hK hP 0 rfl rfl dX9_sign_5 ?_
  refine lv_icmp_ge (tgt := 23) hx hb dX9_sign_8 (by decide) (fun c1 => ?_) (fun c1 => ?_)
  · replace h := iteT c1 h
    refine lv_iconst (v := -1) hx hb dX9_sign_23 (by decide) ?_
    exact rt_i hx hb hr hlk hK hS (() : Unit) (ret2 h) hP hD dX9_sign_24
  · replace h := iteF c1 h
    refine lv_aload_n hx hb dX9_sign_11 rfl (lv_at hl 0 rfl) ?_
    refine gf_X9_7 (v := .ref (a_this 1)) hx hb hqs hown hK hP 0 rfl rfl dX9_sign_12 ?_
    refine lv_aload_n hx hb dX9_sign_15 rfl (lv_at hl 0 rfl) ?_
    refine gf_X9_122 (v := .int (M_spot g_this)) hx hb hqs hown hK hP 0 rfl rfl dX9_sign_16 ?_
    obtain ⟨g2, h⟩ := chk h
    refine va_iald hx hb hK hP 1 0 rfl rfl (inb_in g2) dX9_sign_19 ?_
    refine lv_goto (tgt := 24) hx hb dX9_sign_20 (by decide) ?_
    exact rt_i hx hb hr hlk hK hS (() : Unit) (ret2 h) hP hD dX9_sign_24

def f_X9_taken (g_this : TM) (g_this_text : Nat → Int32) (v1 : Int32) (v2 : Int32) : Option (Int32 × (TM)) :=
  ((f_X9_sign g_this g_this_text).bind fun o1 => ((f_X9_in (Int32.toInt64 o1.1) (Int32.toInt64 v1) (Int32.toInt64 v2)).bind fun o2 => (if o2.1 = (0 : Int32) then (some ((-1 : Int32), g_this)) else (some ((o1.1 - v1), (M_mk (M_refusal g_this) (M_size g_this) (M_acts g_this) (M_planned g_this) ((M_spot g_this) + (1 : Int32)) (M_out g_this)))))))
set_option maxHeartbeats 8000000 in
set_option maxRecDepth 100000 in
theorem c_X9_taken (l : Launch) (hlt : l.stackTraces = false) (D : va_G) (dT : Nat → ClassId) (a_this : Nat → Nat) (g_this : TM) (g_this_text : Nat → Int32) (v1 : Int32) (v2 : Int32) (o : (Int32 × (TM))) (h : f_X9_taken g_this g_this_text v1 v2 = some o) (sz : Nat) : Met l yX9_taken (WSm yX9_taken cX9_taken 4 (some .int)) { frames := 1, cells := 0, slots := 0, locals := 25 } (va_Pc [.ref (a_this 0), .int v1, .int v2] (cPre D dT (cM a_this g_this ++ (cI_ dT (a_this 1) 100 g_this_text)) sz)) (va_Qi (fun (r : Int32) (u : TM) => r = o.1 ∧ u = o.2) (fun u t => cAt D dT (va_A (cM a_this g_this ++ (cI_ dT (a_this 1) 100 g_this_text)) sz) (cM a_this u ++ (cI_ dT (a_this 1) 100 g_this_text)) t) (va_A (cM a_this g_this ++ (cI_ dT (a_this 1) 100 g_this_text)) sz)) 0 0 (va_A (cM a_this g_this ++ (cI_ dT (a_this 1) 100 g_this_text)) sz) := by
  refine mStart (WS := (cM a_this g_this ++ (cI_ dT (a_this 1) 100 g_this_text))) (Qc := fun A => va_Qi (fun (r : Int32) (u : TM) => r = o.1 ∧ u = o.2) (fun u t => cAt D dT A (cM a_this u ++ (cI_ dT (a_this 1) 100 g_this_text)) t) A) RX9 rfl (by decide) (Nat.le_of_ble_eq_true rfl) ?_ sz
  intro p e s m below meth c A ls hx hb hml hr hlk hnm hts hqs hown hE hA hK hP hD hS hl
  have hl : lv_has ls 4 [(0, .ref (a_this 0)), (1, .int v1), (2, .int v2)] := hl
  unfold f_X9_taken at h
  refine lv_aload_n hx hb dX9_taken_0 rfl (lv_at hl 0 rfl) ?_
  obtain ⟨o1, e1, h⟩ := obind h
  have hPc := hP
  have hDc := hD
  have hFc := vfall hD hS hA
  refine cl_iA (va_runV (As := []) (rest := []) ⟨hx, hb, hml, hown, hts⟩ (c_X9_sign l hlt D dT a_this g_this g_this_text o1 e1 _) (cwV 0 hts (TB_V w_1148 w_1150 w_34 w_59 w_1151) rfl rfl rfl ⟨rfl, nd_X9_sign⟩ ⟨Nat.le_of_ble_eq_true rfl, Nat.le_of_ble_eq_true rfl⟩) (cPre.V hPc hDc hK hE hS hFc (va_recv hK hP (ci := 8) (q0 := 0) rfl rfl)) rfl rfl hl.1 rfl (lv_room (Nat.le_of_ble_eq_true rfl)) dX9_taken_1 ⟨Nat.zero_le _, Nat.zero_le _⟩) hS hFc (fun r1 u1 H locs hw hP hD hS => ?_)
  obtain ⟨rfl, rfl⟩ := hw
  have hP : va_P D vwCl (cM a_this g_this ++ (cI_ dT (a_this 1) 100 g_this_text)) H := hP
  have hD : va_D A (cM a_this g_this ++ (cI_ dT (a_this 1) 100 g_this_text)) := hD
  refine lv_istore_n (lv' := [(3, .int o1.1), (0, .ref (a_this 0)), (1, .int v1), (2, .int v2)]) hx hb dX9_taken_4 rfl hl (by decide) rfl (fun ls hl => ?_)
  refine lv_iload_n hx hb dX9_taken_5 rfl (lv_at hl 0 rfl) ?_
  refine lv_i2l hx hb dX9_taken_6 rfl ?_
  refine lv_iload_n hx hb dX9_taken_7 rfl (lv_at hl 2 rfl) ?_
  refine lv_i2l hx hb dX9_taken_8 rfl ?_
  refine lv_iload_n hx hb dX9_taken_9 rfl (lv_at hl 3 rfl) ?_
  refine lv_i2l hx hb dX9_taken_10 rfl ?_
  obtain ⟨o2, e2, h⟩ := obind h
  have hPc := hP.sub (ws' := ([] : va_W)) [] rfl
  have hDc := hD.sub (ws' := ([] : va_W)) [] (by decide) rfl
  have hFc := va_free (wc := ([] : va_W)) hD hS hA [] rfl
  refine cl_i (wr := (cM a_this g_this ++ (cI_ dT (a_this 1) 100 g_this_text))) (va_runS (As := [.long (Int32.toInt64 o1.1), .long (Int32.toInt64 v1), .long (Int32.toInt64 v2)]) (rest := []) ⟨hx, hb, hml, hown, hts⟩ (c_X9_in l hlt D dT (Int32.toInt64 o1.1) (Int32.toInt64 v1) (Int32.toInt64 v2) o2 e2 _) (va_cwS 3 hts (TB_S w_1129 w_1130 w_59 w_1131) rfl rfl rfl nd_X9_in ⟨Nat.le_of_ble_eq_true rfl, Nat.le_of_ble_eq_true rfl⟩) (cPre.S hPc hDc hK hE hS hFc) rfl rfl hl.1 rfl (lv_room (Nat.le_of_ble_eq_true rfl)) dX9_taken_11 ⟨Nat.zero_le _, Nat.zero_le _⟩) hP hD hS hFc [] [0, 1] rfl rfl (by decide) (by decide) (fun r2 u2 H locs hw hP hD hS => ?_)
  obtain ⟨rfl, rfl⟩ := hw
  have hP : va_P D vwCl (cM a_this g_this ++ (cI_ dT (a_this 1) 100 g_this_text)) H := hP
  have hD : va_D A (cM a_this g_this ++ (cI_ dT (a_this 1) 100 g_this_text)) := hD
  refine lv_if_ne (tgt := 19) hx hb dX9_taken_14 (by decide) (fun c3 => ?_) (fun c3 => ?_)
  · replace h := iteF c3 h
    refine lv_aload_n hx hb dX9_taken_19 rfl (lv_at hl 1 rfl) ?_
    refine lv_dup hx hb dX9_taken_20 rfl ?_
    refine gf_X9_122 (v := .int (M_spot g_this)) hx hb hqs hown hK hP 0 rfl rfl dX9_taken_21 ?_
    refine lv_iconst (v := 1) hx hb dX9_taken_24 (by decide) ?_
    refine lv_iadd hx hb dX9_taken_25 ?_
    refine pf_X9_122 hx hb hqs hown hK hP hD hS 0 rfl rfl dX9_taken_26 (fun H locs hP hD hS => ?_)
    have hP : va_P D vwCl ([(a_this 0, .inr (8, [.int (M_refusal g_this), .ref (a_this 1), .int (M_size g_this), .ref (a_this 2), .ref (a_this 3), .ref (a_this 4), .int (M_acts g_this), .ref (a_this 5), .ref (a_this 6), .ref (a_this 7), .ref (a_this 8), .ref (a_this 9), .ref (a_this 10), .int (M_planned g_this), .int ((M_spot g_this) + (1 : Int32)), .int (M_out g_this), .ref (a_this 11)]))] ++ (cI_ dT (a_this 1) 100 g_this_text)) H := hP
    have hD : va_D A ([(a_this 0, .inr (8, [.int (M_refusal g_this), .ref (a_this 1), .int (M_size g_this), .ref (a_this 2), .ref (a_this 3), .ref (a_this 4), .int (M_acts g_this), .ref (a_this 5), .ref (a_this 6), .ref (a_this 7), .ref (a_this 8), .ref (a_this 9), .ref (a_this 10), .int (M_planned g_this), .int ((M_spot g_this) + (1 : Int32)), .int (M_out g_this), .ref (a_this 11)]))] ++ (cI_ dT (a_this 1) 100 g_this_text)) := hD
    refine lv_iload_n hx hb dX9_taken_29 rfl (lv_at hl 0 rfl) ?_
    refine lv_iload_n hx hb dX9_taken_30 rfl (lv_at hl 2 rfl) ?_
    refine lv_isub hx hb dX9_taken_31 ?_
    exact rt_i hx hb hr hlk hK hS ((M_mk (M_refusal g_this) (M_size g_this) (M_acts g_this) (M_planned g_this) ((M_spot g_this) + (1 : Int32)) (M_out g_this)) : TM) (ret2 h) hP hD dX9_taken_32
  · replace h := iteT c3 h
    refine lv_iconst (v := -1) hx hb dX9_taken_17 (by decide) ?_
    exact rt_i hx hb hr hlk hK hS (g_this : TM) (ret2 h) hP hD dX9_taken_18

def f_X9_number_L19 (g_this_text : Nat → Int32) (x1 : Int32)  : Nat → Int32 → TM → Option (Int32 × (TM))
  | 0, _, _ => none
  | n + 1, x2, g_this =>
    ((f_X9_sign g_this g_this_text).bind fun o3 => ((f_X9_in (Int32.toInt64 o3.1) (48 : Int64) (57 : Int64)).bind fun o4 => (if o4.1 = (0 : Int32) then (some (x2, g_this)) else ((f_X9_sign g_this g_this_text).bind fun o6 => (if ((((10 : Int32) * x2) + o6.1) - (48 : Int32)) ≤ x1 then ((f_X9_sign g_this g_this_text).bind fun o8 => (f_X9_number_L19 g_this_text x1 n ((((10 : Int32) * x2) + o8.1) - (48 : Int32)) (M_mk (M_refusal g_this) (M_size g_this) (M_acts g_this) (M_planned g_this) ((M_spot g_this) + (1 : Int32)) (M_out g_this)))) else (some ((-1 : Int32), g_this)))))))
def f_X9_number (g_this : TM) (g_this_text : Nat → Int32) (v1 : Int32) : Option (Int32 × (TM)) :=
  ((f_X9_taken g_this g_this_text (49 : Int32) (57 : Int32)).bind fun o1 => (if o1.1 = (-1 : Int32) then (some ((-1 : Int32), o1.2)) else (f_X9_number_L19 g_this_text v1 FUEL (o1.1 + (1 : Int32)) o1.2)))
set_option maxHeartbeats 8000000 in
set_option maxRecDepth 100000 in
theorem c_X9_number (l : Launch) (hlt : l.stackTraces = false) (D : va_G) (dT : Nat → ClassId) (a_this : Nat → Nat) (g_this : TM) (g_this_text : Nat → Int32) (v1 : Int32) (o : (Int32 × (TM))) (h : f_X9_number g_this g_this_text v1 = some o) (sz : Nat) : Met l yX9_number (WSm yX9_number cX9_number 3 (some .int)) { frames := 2, cells := 0, slots := 0, locals := 48 } (va_Pc [.ref (a_this 0), .int v1] (cPre D dT (cM a_this g_this ++ (cI_ dT (a_this 1) 100 g_this_text)) sz)) (va_Qi (fun (r : Int32) (u : TM) => r = o.1 ∧ u = o.2) (fun u t => cAt D dT (va_A (cM a_this g_this ++ (cI_ dT (a_this 1) 100 g_this_text)) sz) (cM a_this u ++ (cI_ dT (a_this 1) 100 g_this_text)) t) (va_A (cM a_this g_this ++ (cI_ dT (a_this 1) 100 g_this_text)) sz)) 0 0 (va_A (cM a_this g_this ++ (cI_ dT (a_this 1) 100 g_this_text)) sz) := by
  refine mStart (WS := (cM a_this g_this ++ (cI_ dT (a_this 1) 100 g_this_text))) (Qc := fun A => va_Qi (fun (r : Int32) (u : TM) => r = o.1 ∧ u = o.2) (fun u t => cAt D dT A (cM a_this u ++ (cI_ dT (a_this 1) 100 g_this_text)) t) A) RX9 rfl (by decide) (Nat.le_of_ble_eq_true rfl) ?_ sz
  intro p e s m below meth c A ls hx hb hml hr hlk hnm hts hqs hown hE hA hK hP hD hS hl
  have hl : lv_has ls 3 [(0, .ref (a_this 0)), (1, .int v1)] := hl
  have L_f_X9_number_L19 : ∀ (g_this_text : Nat → Int32) (x1 : Int32)   (n : Nat), ∀ (x2 : Int32) (g_this : TM) (H : Heap) (locs : List Loc) (ls : Array Slot), f_X9_number_L19 g_this_text x1  n x2 g_this = some o → va_P D vwCl (cM a_this g_this ++ (cI_ dT (a_this 1) 100 g_this_text)) H → va_D A (cM a_this g_this ++ (cI_ dT (a_this 1) 100 g_this_text)) → va_S A s.heap H locs → lv_has ls 3 [(0, .ref (a_this 0)), (1, .int x1), (2, .int x2)] → W p l e (headSpec (WSm yX9_number cX9_number 3 (some .int)) { frames := 2, cells := 0, slots := 0, locals := 48 }).room s m [.ref (a_this 0), .int v1].toArray below meth c H locs 0 0 (MQ below (va_Qi (fun (r : Int32) (u : TM) => r = o.1 ∧ u = o.2) (fun u t => cAt D dT A (cM a_this u ++ (cI_ dT (a_this 1) 100 g_this_text)) t) A) [.ref (a_this 0), .int v1].toArray s 0 0 A) (F0 m 19 ls []) := by
    intro g_this_text x1   n
    induction n with
    | zero => intro x2 g_this H locs ls h; exact nomatch h
    | succ n ih =>
      intro x2 g_this H locs ls h hP hD hS hl
      unfold f_X9_number_L19 at h
      refine lv_aload_n hx hb dX9_number_19 rfl (lv_at hl 0 rfl) ?_
      obtain ⟨o3, e3, h⟩ := obind h
      have hPc := hP
      have hDc := hD
      have hFc := vfall hD hS hA
      refine cl_iA (va_runV (As := []) (rest := []) ⟨hx, hb, hml, hown, hts⟩ (c_X9_sign l hlt D dT a_this g_this g_this_text o3 e3 _) (cwV 0 hts (TB_V w_1148 w_1150 w_34 w_59 w_1151) rfl rfl rfl ⟨rfl, nd_X9_sign⟩ ⟨Nat.le_of_ble_eq_true rfl, Nat.le_of_ble_eq_true rfl⟩) (cPre.V hPc hDc hK hE hS hFc (va_recv hK hP (ci := 8) (q0 := 0) rfl rfl)) rfl rfl hl.1 rfl (lv_room (Nat.le_of_ble_eq_true rfl)) dX9_number_20 ⟨Nat.zero_le _, Nat.zero_le _⟩) hS hFc (fun r3 u3 H locs hw hP hD hS => ?_)
      obtain ⟨rfl, rfl⟩ := hw
      have hP : va_P D vwCl (cM a_this g_this ++ (cI_ dT (a_this 1) 100 g_this_text)) H := hP
      have hD : va_D A (cM a_this g_this ++ (cI_ dT (a_this 1) 100 g_this_text)) := hD
      refine lv_i2l hx hb dX9_number_23 rfl ?_
      refine lv_ldc2 (v := 48) hx hb hown (hqs _ w_1152) dX9_number_24 ?_
      refine lv_ldc2 (v := 57) hx hb hown (hqs _ w_1170) dX9_number_27 ?_
      obtain ⟨o4, e4, h⟩ := obind h
      have hPc := hP.sub (ws' := ([] : va_W)) [] rfl
      have hDc := hD.sub (ws' := ([] : va_W)) [] (by decide) rfl
      have hFc := va_free (wc := ([] : va_W)) hD hS hA [] rfl
      refine cl_i (wr := (cM a_this g_this ++ (cI_ dT (a_this 1) 100 g_this_text))) (va_runS (As := [.long (Int32.toInt64 o3.1), .long (48 : Int64), .long (57 : Int64)]) (rest := []) ⟨hx, hb, hml, hown, hts⟩ (c_X9_in l hlt D dT (Int32.toInt64 o3.1) (48 : Int64) (57 : Int64) o4 e4 _) (va_cwS 3 hts (TB_S w_1129 w_1130 w_59 w_1131) rfl rfl rfl nd_X9_in ⟨Nat.le_of_ble_eq_true rfl, Nat.le_of_ble_eq_true rfl⟩) (cPre.S hPc hDc hK hE hS hFc) rfl rfl hl.1 rfl (lv_room (Nat.le_of_ble_eq_true rfl)) dX9_number_30 ⟨Nat.zero_le _, Nat.zero_le _⟩) hP hD hS hFc [] [0, 1] rfl rfl (by decide) (by decide) (fun r4 u4 H locs hw hP hD hS => ?_)
      obtain ⟨rfl, rfl⟩ := hw
      have hP : va_P D vwCl (cM a_this g_this ++ (cI_ dT (a_this 1) 100 g_this_text)) H := hP
      have hD : va_D A (cM a_this g_this ++ (cI_ dT (a_this 1) 100 g_this_text)) := hD
      refine lv_if_eq (tgt := 80) hx hb dX9_number_33 (by decide) (fun c5 => ?_) (fun c5 => ?_)
      · replace h := iteT c5 h
        refine lv_iload_n hx hb dX9_number_80 rfl (lv_at hl 2 rfl) ?_
        exact rt_i hx hb hr hlk hK hS (g_this : TM) (ret2 h) hP hD dX9_number_81
      · replace h := iteF c5 h
        refine lv_bipush (v := 10) hx hb dX9_number_36 (by decide) ?_
        refine lv_iload_n hx hb dX9_number_38 rfl (lv_at hl 2 rfl) ?_
        refine lv_imul hx hb dX9_number_39 ?_
        refine lv_aload_n hx hb dX9_number_40 rfl (lv_at hl 0 rfl) ?_
        obtain ⟨o6, e6, h⟩ := obind h
        have hPc := hP
        have hDc := hD
        have hFc := vfall hD hS hA
        refine cl_iA (va_runV (As := []) (rest := [.int ((10 : Int32) * x2)]) ⟨hx, hb, hml, hown, hts⟩ (c_X9_sign l hlt D dT a_this g_this g_this_text o6 e6 _) (cwV 0 hts (TB_V w_1148 w_1150 w_34 w_59 w_1151) rfl rfl rfl ⟨rfl, nd_X9_sign⟩ ⟨Nat.le_of_ble_eq_true rfl, Nat.le_of_ble_eq_true rfl⟩) (cPre.V hPc hDc hK hE hS hFc (va_recv hK hP (ci := 8) (q0 := 0) rfl rfl)) rfl rfl hl.1 rfl (lv_room (Nat.le_of_ble_eq_true rfl)) dX9_number_41 ⟨Nat.zero_le _, Nat.zero_le _⟩) hS hFc (fun r6 u6 H locs hw hP hD hS => ?_)
        obtain ⟨rfl, rfl⟩ := hw
        have hP : va_P D vwCl (cM a_this g_this ++ (cI_ dT (a_this 1) 100 g_this_text)) H := hP
        have hD : va_D A (cM a_this g_this ++ (cI_ dT (a_this 1) 100 g_this_text)) := hD
        refine lv_iadd hx hb dX9_number_44 ?_
        refine lv_bipush (v := 48) hx hb dX9_number_45 (by decide) ?_
        refine lv_isub hx hb dX9_number_47 ?_
        refine lv_iload_n hx hb dX9_number_48 rfl (lv_at hl 1 rfl) ?_
        refine lv_icmp_le (tgt := 54) hx hb dX9_number_49 (by decide) (fun c7 => ?_) (fun c7 => ?_)
        · replace h := iteT c7 h
          refine lv_bipush (v := 10) hx hb dX9_number_54 (by decide) ?_
          refine lv_iload_n hx hb dX9_number_56 rfl (lv_at hl 2 rfl) ?_
          refine lv_imul hx hb dX9_number_57 ?_
          refine lv_aload_n hx hb dX9_number_58 rfl (lv_at hl 0 rfl) ?_
          obtain ⟨o8, e8, h⟩ := obind h
          have hPc := hP
          have hDc := hD
          have hFc := vfall hD hS hA
          refine cl_iA (va_runV (As := []) (rest := [.int ((10 : Int32) * x2)]) ⟨hx, hb, hml, hown, hts⟩ (c_X9_sign l hlt D dT a_this g_this g_this_text o8 e8 _) (cwV 0 hts (TB_V w_1148 w_1150 w_34 w_59 w_1151) rfl rfl rfl ⟨rfl, nd_X9_sign⟩ ⟨Nat.le_of_ble_eq_true rfl, Nat.le_of_ble_eq_true rfl⟩) (cPre.V hPc hDc hK hE hS hFc (va_recv hK hP (ci := 8) (q0 := 0) rfl rfl)) rfl rfl hl.1 rfl (lv_room (Nat.le_of_ble_eq_true rfl)) dX9_number_59 ⟨Nat.zero_le _, Nat.zero_le _⟩) hS hFc (fun r8 u8 H locs hw hP hD hS => ?_)
          obtain ⟨rfl, rfl⟩ := hw
          have hP : va_P D vwCl (cM a_this g_this ++ (cI_ dT (a_this 1) 100 g_this_text)) H := hP
          have hD : va_D A (cM a_this g_this ++ (cI_ dT (a_this 1) 100 g_this_text)) := hD
          refine lv_iadd hx hb dX9_number_62 ?_
          refine lv_bipush (v := 48) hx hb dX9_number_63 (by decide) ?_
          refine lv_isub hx hb dX9_number_65 ?_
          refine lv_istore_n (lv' := [(2, .int ((((10 : Int32) * x2) + o8.1) - (48 : Int32))), (0, .ref (a_this 0)), (1, .int x1)]) hx hb dX9_number_66 rfl hl (by decide) rfl (fun ls hl => ?_)
          refine lv_aload_n hx hb dX9_number_67 rfl (lv_at hl 1 rfl) ?_
          refine lv_dup hx hb dX9_number_68 rfl ?_
          refine gf_X9_122 (v := .int (M_spot g_this)) hx hb hqs hown hK hP 0 rfl rfl dX9_number_69 ?_
          refine lv_iconst (v := 1) hx hb dX9_number_72 (by decide) ?_
          refine lv_iadd hx hb dX9_number_73 ?_
          refine pf_X9_122 hx hb hqs hown hK hP hD hS 0 rfl rfl dX9_number_74 (fun H locs hP hD hS => ?_)
          have hP : va_P D vwCl ([(a_this 0, .inr (8, [.int (M_refusal g_this), .ref (a_this 1), .int (M_size g_this), .ref (a_this 2), .ref (a_this 3), .ref (a_this 4), .int (M_acts g_this), .ref (a_this 5), .ref (a_this 6), .ref (a_this 7), .ref (a_this 8), .ref (a_this 9), .ref (a_this 10), .int (M_planned g_this), .int ((M_spot g_this) + (1 : Int32)), .int (M_out g_this), .ref (a_this 11)]))] ++ (cI_ dT (a_this 1) 100 g_this_text)) H := hP
          have hD : va_D A ([(a_this 0, .inr (8, [.int (M_refusal g_this), .ref (a_this 1), .int (M_size g_this), .ref (a_this 2), .ref (a_this 3), .ref (a_this 4), .int (M_acts g_this), .ref (a_this 5), .ref (a_this 6), .ref (a_this 7), .ref (a_this 8), .ref (a_this 9), .ref (a_this 10), .int (M_planned g_this), .int ((M_spot g_this) + (1 : Int32)), .int (M_out g_this), .ref (a_this 11)]))] ++ (cI_ dT (a_this 1) 100 g_this_text)) := hD
          refine lv_goto (tgt := 19) hx hb dX9_number_77 (by decide) ?_
          exact ih ((((10 : Int32) * x2) + o8.1) - (48 : Int32)) (M_mk (M_refusal g_this) (M_size g_this) (M_acts g_this) (M_planned g_this) ((M_spot g_this) + (1 : Int32)) (M_out g_this)) _ _ _ h hP hD hS (lv_sub hl [1, 2, 0] rfl)
        · replace h := iteF c7 h
          refine lv_iconst (v := -1) hx hb dX9_number_52 (by decide) ?_
          exact rt_i hx hb hr hlk hK hS (g_this : TM) (ret2 h) hP hD dX9_number_53
  unfold f_X9_number at h
  refine lv_aload_n hx hb dX9_number_0 rfl (lv_at hl 0 rfl) ?_
  refine lv_bipush (v := 49) hx hb dX9_number_1 (by decide) ?_
  refine lv_bipush (v := 57) hx hb dX9_number_3 (by decide) ?_
  obtain ⟨o1, e1, h⟩ := obind h
  have hPc := hP
  have hDc := hD
  have hFc := vfall hD hS hA
  refine cl_iA (va_runV (As := [.int (49 : Int32), .int (57 : Int32)]) (rest := []) ⟨hx, hb, hml, hown, hts⟩ (c_X9_taken l hlt D dT a_this g_this g_this_text (49 : Int32) (57 : Int32) o1 e1 _) (cwV 2 hts (TB_V w_1154 w_1156 w_35 w_59 w_1157) rfl rfl rfl ⟨rfl, nd_X9_taken⟩ ⟨Nat.le_of_ble_eq_true rfl, Nat.le_of_ble_eq_true rfl⟩) (cPre.V hPc hDc hK hE hS hFc (va_recv hK hP (ci := 8) (q0 := 0) rfl rfl)) rfl rfl hl.1 rfl (lv_room (Nat.le_of_ble_eq_true rfl)) dX9_number_5 ⟨Nat.zero_le _, Nat.zero_le _⟩) hS hFc (fun r1 u1 H locs hw hP hD hS => ?_)
  obtain ⟨rfl, rfl⟩ := hw
  have hP : va_P D vwCl (cM a_this o1.2 ++ (cI_ dT (a_this 1) 100 g_this_text)) H := hP
  have hD : va_D A (cM a_this o1.2 ++ (cI_ dT (a_this 1) 100 g_this_text)) := hD
  refine lv_istore_n (lv' := [(2, .int o1.1), (0, .ref (a_this 0)), (1, .int v1)]) hx hb dX9_number_8 rfl hl (by decide) rfl (fun ls hl => ?_)
  refine lv_iload_n hx hb dX9_number_9 rfl (lv_at hl 0 rfl) ?_
  refine lv_iconst (v := -1) hx hb dX9_number_10 (by decide) ?_
  refine lv_icmp_ne (tgt := 16) hx hb dX9_number_11 (by decide) (fun c2 => ?_) (fun c2 => ?_)
  · replace h := iteF c2 h
    refine lv_iinc (v := (o1.1 + (1 : Int32))) (lv' := [(2, .int (o1.1 + (1 : Int32))), (0, .ref (a_this 0)), (1, .int v1)]) hx hb dX9_number_16 hl (k := 0) rfl rfl (by decide) rfl (fun ls hl => ?_)
    refine L_f_X9_number_L19 g_this_text v1   FUEL (o1.1 + (1 : Int32)) o1.2 _ _ _ h hP hD hS (lv_sub hl [1, 2, 0] rfl)
  · replace h := iteT c2 h
    refine lv_iconst (v := -1) hx hb dX9_number_14 (by decide) ?_
    exact rt_i hx hb hr hlk hK hS (o1.2 : TM) (ret2 h) hP hD dX9_number_15

def f_X9_wrongPlan_J41 (g_this_text : Nat → Int32) (k9 : Int32 → Int32 → TM → Option (Int32 × (TM))) (x1 : Int32) (s0 : Int32) (g_this : TM) : Option (Int32 × (TM)) :=
    (if s0 = (-1 : Int32) then (some ((M_spot g_this), g_this)) else (if ((x1 >>> (s0 &&& 31)) &&& (1 : Int32)) = (1 : Int32) then (some ((M_spot g_this), g_this)) else (if (x1 ||| ((1 : Int32) <<< (s0 &&& 31))) = (127 : Int32) then (k9 (x1 ||| ((1 : Int32) <<< (s0 &&& 31))) (0 : Int32) (M_mk (M_refusal g_this) (M_size g_this) (M_acts g_this) (M_planned g_this) ((M_spot g_this) + (1 : Int32)) (M_out g_this))) else ((f_X9_taken (M_mk (M_refusal g_this) (M_size g_this) (M_acts g_this) (M_planned g_this) ((M_spot g_this) + (1 : Int32)) (M_out g_this)) g_this_text (62 : Int32) (62 : Int32)).bind fun o8 => (if o8.1 = (-1 : Int32) then (k9 (x1 ||| ((1 : Int32) <<< (s0 &&& 31))) (0 : Int32) o8.2) else (k9 (x1 ||| ((1 : Int32) <<< (s0 &&& 31))) (1 : Int32) o8.2))))))
def f_X9_wrongPlan_L9 (g_this_text : Nat → Int32) (k104 : TM → Option (Int32 × (TM))) : Nat → Int32 → Int32 → TM → Option (Int32 × (TM))
  | 0, _, _, _ => none
  | n + 1, x1, x2, g_this =>
    (if x2 = (0 : Int32) then (k104 g_this) else ((f_X9_sign g_this g_this_text).bind fun o2 => ((f_X9_in (Int32.toInt64 o2.1) (48 : Int64) (54 : Int64)).bind fun o3 => (if o3.1 = (0 : Int32) then (f_X9_wrongPlan_J41 g_this_text (fun x1 x2 g_this => f_X9_wrongPlan_L9 g_this_text k104 n x1 x2 g_this) x1 (-1 : Int32) g_this) else ((f_X9_sign g_this g_this_text).bind fun o10 => (f_X9_wrongPlan_J41 g_this_text (fun x1 x2 g_this => f_X9_wrongPlan_L9 g_this_text k104 n x1 x2 g_this) x1 (o10.1 - (48 : Int32)) g_this))))))
def f_X9_wrongPlan (g_this : TM) (g_this_text : Nat → Int32) : Option (Int32 × (TM)) :=
  (f_X9_wrongPlan_L9 g_this_text (fun (y11g_this : TM) => (if (M_size y11g_this) ≤ (M_spot y11g_this) then (some ((-1 : Int32), y11g_this)) else (some ((M_spot y11g_this), y11g_this)))) FUEL (0 : Int32) (1 : Int32) (M_mk (M_refusal g_this) (M_size g_this) (M_acts g_this) (M_planned g_this) (0 : Int32) (M_out g_this)))
set_option maxHeartbeats 8000000 in
set_option maxRecDepth 100000 in
theorem c_X9_wrongPlan (l : Launch) (hlt : l.stackTraces = false) (D : va_G) (dT : Nat → ClassId) (a_this : Nat → Nat) (g_this : TM) (g_this_text : Nat → Int32) (o : (Int32 × (TM))) (h : f_X9_wrongPlan g_this g_this_text = some o) (sz : Nat) : Met l yX9_wrongPlan (WSm yX9_wrongPlan cX9_wrongPlan 4 (some .int)) { frames := 2, cells := 0, slots := 0, locals := 48 } (va_Pc [.ref (a_this 0)] (cPre D dT (cM a_this g_this ++ (cI_ dT (a_this 1) 100 g_this_text)) sz)) (va_Qi (fun (r : Int32) (u : TM) => r = o.1 ∧ u = o.2) (fun u t => cAt D dT (va_A (cM a_this g_this ++ (cI_ dT (a_this 1) 100 g_this_text)) sz) (cM a_this u ++ (cI_ dT (a_this 1) 100 g_this_text)) t) (va_A (cM a_this g_this ++ (cI_ dT (a_this 1) 100 g_this_text)) sz)) 0 0 (va_A (cM a_this g_this ++ (cI_ dT (a_this 1) 100 g_this_text)) sz) := by
  refine mStart (WS := (cM a_this g_this ++ (cI_ dT (a_this 1) 100 g_this_text))) (Qc := fun A => va_Qi (fun (r : Int32) (u : TM) => r = o.1 ∧ u = o.2) (fun u t => cAt D dT A (cM a_this u ++ (cI_ dT (a_this 1) 100 g_this_text)) t) A) RX9 rfl (by decide) (Nat.le_of_ble_eq_true rfl) ?_ sz
  intro p e s m below meth c A ls hx hb hml hr hlk hnm hts hqs hown hE hA hK hP hD hS hl
  have hl : lv_has ls 4 [(0, .ref (a_this 0))] := hl
  have L_f_X9_wrongPlan_J41 : ∀ (g_this_text : Nat → Int32) (x1 : Int32) (s0 : Int32) (g_this : TM) (k9 : Int32 → Int32 → TM → Option (Int32 × (TM))) (hk9 : ∀ (x1 : Int32) (x2 : Int32) (g_this : TM) (H : Heap) (locs : List Loc) (ls : Array Slot), k9 x1 x2 g_this = some o → va_P D vwCl (cM a_this g_this ++ (cI_ dT (a_this 1) 100 g_this_text)) H → va_D A (cM a_this g_this ++ (cI_ dT (a_this 1) 100 g_this_text)) → va_S A s.heap H locs → lv_has ls 4 [(0, .ref (a_this 0)), (1, .int x1), (2, .int x2)] → W p l e (headSpec (WSm yX9_wrongPlan cX9_wrongPlan 4 (some .int)) { frames := 2, cells := 0, slots := 0, locals := 48 }).room s m [.ref (a_this 0)].toArray below meth c H locs 0 0 (MQ below (va_Qi (fun (r : Int32) (u : TM) => r = o.1 ∧ u = o.2) (fun u t => cAt D dT A (cM a_this u ++ (cI_ dT (a_this 1) 100 g_this_text)) t) A) [.ref (a_this 0)].toArray s 0 0 A) (F0 m 9 ls [])) (H : Heap) (locs : List Loc) (ls : Array Slot), f_X9_wrongPlan_J41 g_this_text k9 x1 s0 g_this = some o → va_P D vwCl (cM a_this g_this ++ (cI_ dT (a_this 1) 100 g_this_text)) H → va_D A (cM a_this g_this ++ (cI_ dT (a_this 1) 100 g_this_text)) → va_S A s.heap H locs → lv_has ls 4 [(0, .ref (a_this 0)), (1, .int x1)] → W p l e (headSpec (WSm yX9_wrongPlan cX9_wrongPlan 4 (some .int)) { frames := 2, cells := 0, slots := 0, locals := 48 }).room s m [.ref (a_this 0)].toArray below meth c H locs 0 0 (MQ below (va_Qi (fun (r : Int32) (u : TM) => r = o.1 ∧ u = o.2) (fun u t => cAt D dT A (cM a_this u ++ (cI_ dT (a_this 1) 100 g_this_text)) t) A) [.ref (a_this 0)].toArray s 0 0 A) (F0 m 41 ls [.int s0]) := by
    intro g_this_text x1 s0 g_this k9 hk9 H locs ls h hP hD hS hl
    unfold f_X9_wrongPlan_J41 at h
    refine lv_istore_n (lv' := [(3, .int s0), (0, .ref (a_this 0)), (1, .int x1)]) hx hb dX9_wrongPlan_41 rfl hl (by decide) rfl (fun ls hl => ?_)
    refine lv_iload_n hx hb dX9_wrongPlan_42 rfl (lv_at hl 0 rfl) ?_
    refine lv_iconst (v := -1) hx hb dX9_wrongPlan_43 (by decide) ?_
    refine lv_icmp_eq (tgt := 56) hx hb dX9_wrongPlan_44 (by decide) (fun c5 => ?_) (fun c5 => ?_)
    · replace h := iteT c5 h
      refine lv_aload_n hx hb dX9_wrongPlan_56 rfl (lv_at hl 1 rfl) ?_
      refine gf_X9_122 (v := .int (M_spot g_this)) hx hb hqs hown hK hP 0 rfl rfl dX9_wrongPlan_57 ?_
      exact rt_i hx hb hr hlk hK hS (g_this : TM) (ret2 h) hP hD dX9_wrongPlan_60
    · replace h := iteF c5 h
      refine lv_iload_n hx hb dX9_wrongPlan_47 rfl (lv_at hl 2 rfl) ?_
      refine lv_iload_n hx hb dX9_wrongPlan_48 rfl (lv_at hl 0 rfl) ?_
      refine lv_ishr hx hb dX9_wrongPlan_49 ?_
      refine lv_iconst (v := 1) hx hb dX9_wrongPlan_50 (by decide) ?_
      refine lv_iand hx hb dX9_wrongPlan_51 ?_
      refine lv_iconst (v := 1) hx hb dX9_wrongPlan_52 (by decide) ?_
      refine lv_icmp_ne (tgt := 61) hx hb dX9_wrongPlan_53 (by decide) (fun c6 => ?_) (fun c6 => ?_)
      · replace h := iteF c6 h
        refine lv_iload_n hx hb dX9_wrongPlan_61 rfl (lv_at hl 2 rfl) ?_
        refine lv_iconst (v := 1) hx hb dX9_wrongPlan_62 (by decide) ?_
        refine lv_iload_n hx hb dX9_wrongPlan_63 rfl (lv_at hl 0 rfl) ?_
        refine lv_ishl hx hb dX9_wrongPlan_64 ?_
        refine lv_ior hx hb dX9_wrongPlan_65 ?_
        refine lv_istore_n (lv' := [(1, .int (x1 ||| ((1 : Int32) <<< (s0 &&& 31)))), (3, .int s0), (0, .ref (a_this 0))]) hx hb dX9_wrongPlan_66 rfl hl (by decide) rfl (fun ls hl => ?_)
        refine lv_aload_n hx hb dX9_wrongPlan_67 rfl (lv_at hl 2 rfl) ?_
        refine lv_dup hx hb dX9_wrongPlan_68 rfl ?_
        refine gf_X9_122 (v := .int (M_spot g_this)) hx hb hqs hown hK hP 0 rfl rfl dX9_wrongPlan_69 ?_
        refine lv_iconst (v := 1) hx hb dX9_wrongPlan_72 (by decide) ?_
        refine lv_iadd hx hb dX9_wrongPlan_73 ?_
        refine pf_X9_122 hx hb hqs hown hK hP hD hS 0 rfl rfl dX9_wrongPlan_74 (fun H locs hP hD hS => ?_)
        have hP : va_P D vwCl ([(a_this 0, .inr (8, [.int (M_refusal g_this), .ref (a_this 1), .int (M_size g_this), .ref (a_this 2), .ref (a_this 3), .ref (a_this 4), .int (M_acts g_this), .ref (a_this 5), .ref (a_this 6), .ref (a_this 7), .ref (a_this 8), .ref (a_this 9), .ref (a_this 10), .int (M_planned g_this), .int ((M_spot g_this) + (1 : Int32)), .int (M_out g_this), .ref (a_this 11)]))] ++ (cI_ dT (a_this 1) 100 g_this_text)) H := hP
        have hD : va_D A ([(a_this 0, .inr (8, [.int (M_refusal g_this), .ref (a_this 1), .int (M_size g_this), .ref (a_this 2), .ref (a_this 3), .ref (a_this 4), .int (M_acts g_this), .ref (a_this 5), .ref (a_this 6), .ref (a_this 7), .ref (a_this 8), .ref (a_this 9), .ref (a_this 10), .int (M_planned g_this), .int ((M_spot g_this) + (1 : Int32)), .int (M_out g_this), .ref (a_this 11)]))] ++ (cI_ dT (a_this 1) 100 g_this_text)) := hD
        refine lv_iload_n hx hb dX9_wrongPlan_77 rfl (lv_at hl 0 rfl) ?_
        refine lv_bipush (v := 127) hx hb dX9_wrongPlan_78 (by decide) ?_
        refine lv_icmp_eq (tgt := 99) hx hb dX9_wrongPlan_80 (by decide) (fun c7 => ?_) (fun c7 => ?_)
        · replace h := iteT c7 h
          refine lv_iconst (v := 0) hx hb dX9_wrongPlan_99 (by decide) ?_
          refine lv_istore_n (lv' := [(2, .int (0 : Int32)), (1, .int (x1 ||| ((1 : Int32) <<< (s0 &&& 31)))), (3, .int s0), (0, .ref (a_this 0))]) hx hb dX9_wrongPlan_100 rfl hl (by decide) rfl (fun ls hl => ?_)
          refine lv_goto (tgt := 9) hx hb dX9_wrongPlan_101 (by decide) ?_
          exact hk9 (x1 ||| ((1 : Int32) <<< (s0 &&& 31))) (0 : Int32) (M_mk (M_refusal g_this) (M_size g_this) (M_acts g_this) (M_planned g_this) ((M_spot g_this) + (1 : Int32)) (M_out g_this)) _ _ _ h hP hD hS (lv_sub hl [3, 1, 0] rfl)
        · replace h := iteF c7 h
          refine lv_aload_n hx hb dX9_wrongPlan_83 rfl (lv_at hl 2 rfl) ?_
          refine lv_bipush (v := 62) hx hb dX9_wrongPlan_84 (by decide) ?_
          refine lv_bipush (v := 62) hx hb dX9_wrongPlan_86 (by decide) ?_
          obtain ⟨o8, e8, h⟩ := obind h
          have hPc := hP
          have hDc := hD
          have hFc := vfall hD hS hA
          refine cl_iA (va_runV (As := [.int (62 : Int32), .int (62 : Int32)]) (rest := []) ⟨hx, hb, hml, hown, hts⟩ (c_X9_taken l hlt D dT a_this (M_mk (M_refusal g_this) (M_size g_this) (M_acts g_this) (M_planned g_this) ((M_spot g_this) + (1 : Int32)) (M_out g_this)) g_this_text (62 : Int32) (62 : Int32) o8 e8 _) (cwV 2 hts (TB_V w_1154 w_1156 w_35 w_59 w_1157) rfl rfl rfl ⟨rfl, nd_X9_taken⟩ ⟨Nat.le_of_ble_eq_true rfl, Nat.le_of_ble_eq_true rfl⟩) (cPre.V hPc hDc hK hE hS hFc (va_recv hK hP (ci := 8) (q0 := 0) rfl rfl)) rfl rfl hl.1 rfl (lv_room (Nat.le_of_ble_eq_true rfl)) dX9_wrongPlan_88 ⟨Nat.zero_le _, Nat.zero_le _⟩) hS hFc (fun r8 u8 H locs hw hP hD hS => ?_)
          obtain ⟨rfl, rfl⟩ := hw
          have hP : va_P D vwCl (cM a_this o8.2 ++ (cI_ dT (a_this 1) 100 g_this_text)) H := hP
          have hD : va_D A (cM a_this o8.2 ++ (cI_ dT (a_this 1) 100 g_this_text)) := hD
          refine lv_iconst (v := -1) hx hb dX9_wrongPlan_91 (by decide) ?_
          refine lv_icmp_eq (tgt := 99) hx hb dX9_wrongPlan_92 (by decide) (fun c9 => ?_) (fun c9 => ?_)
          · replace h := iteT c9 h
            refine lv_iconst (v := 0) hx hb dX9_wrongPlan_99 (by decide) ?_
            refine lv_istore_n (lv' := [(2, .int (0 : Int32)), (1, .int (x1 ||| ((1 : Int32) <<< (s0 &&& 31)))), (3, .int s0), (0, .ref (a_this 0))]) hx hb dX9_wrongPlan_100 rfl hl (by decide) rfl (fun ls hl => ?_)
            refine lv_goto (tgt := 9) hx hb dX9_wrongPlan_101 (by decide) ?_
            exact hk9 (x1 ||| ((1 : Int32) <<< (s0 &&& 31))) (0 : Int32) o8.2 _ _ _ h hP hD hS (lv_sub hl [3, 1, 0] rfl)
          · replace h := iteF c9 h
            refine lv_iconst (v := 1) hx hb dX9_wrongPlan_95 (by decide) ?_
            refine lv_goto (tgt := 100) hx hb dX9_wrongPlan_96 (by decide) ?_
            refine lv_istore_n (lv' := [(2, .int (1 : Int32)), (1, .int (x1 ||| ((1 : Int32) <<< (s0 &&& 31)))), (3, .int s0), (0, .ref (a_this 0))]) hx hb dX9_wrongPlan_100 rfl hl (by decide) rfl (fun ls hl => ?_)
            refine lv_goto (tgt := 9) hx hb dX9_wrongPlan_101 (by decide) ?_
            exact hk9 (x1 ||| ((1 : Int32) <<< (s0 &&& 31))) (1 : Int32) o8.2 _ _ _ h hP hD hS (lv_sub hl [3, 1, 0] rfl)
      · replace h := iteT c6 h
        refine lv_aload_n hx hb dX9_wrongPlan_56 rfl (lv_at hl 1 rfl) ?_
        refine gf_X9_122 (v := .int (M_spot g_this)) hx hb hqs hown hK hP 0 rfl rfl dX9_wrongPlan_57 ?_
        exact rt_i hx hb hr hlk hK hS (g_this : TM) (ret2 h) hP hD dX9_wrongPlan_60
  have L_f_X9_wrongPlan_L9 : ∀ (g_this_text : Nat → Int32) (k104 : TM → Option (Int32 × (TM))) (hk104 : ∀ (g_this : TM) (H : Heap) (locs : List Loc) (ls : Array Slot), k104 g_this = some o → va_P D vwCl (cM a_this g_this ++ (cI_ dT (a_this 1) 100 g_this_text)) H → va_D A (cM a_this g_this ++ (cI_ dT (a_this 1) 100 g_this_text)) → va_S A s.heap H locs → lv_has ls 4 [(0, .ref (a_this 0))] → W p l e (headSpec (WSm yX9_wrongPlan cX9_wrongPlan 4 (some .int)) { frames := 2, cells := 0, slots := 0, locals := 48 }).room s m [.ref (a_this 0)].toArray below meth c H locs 0 0 (MQ below (va_Qi (fun (r : Int32) (u : TM) => r = o.1 ∧ u = o.2) (fun u t => cAt D dT A (cM a_this u ++ (cI_ dT (a_this 1) 100 g_this_text)) t) A) [.ref (a_this 0)].toArray s 0 0 A) (F0 m 104 ls [])) (n : Nat), ∀ (x1 : Int32) (x2 : Int32) (g_this : TM) (H : Heap) (locs : List Loc) (ls : Array Slot), f_X9_wrongPlan_L9 g_this_text k104 n x1 x2 g_this = some o → va_P D vwCl (cM a_this g_this ++ (cI_ dT (a_this 1) 100 g_this_text)) H → va_D A (cM a_this g_this ++ (cI_ dT (a_this 1) 100 g_this_text)) → va_S A s.heap H locs → lv_has ls 4 [(0, .ref (a_this 0)), (1, .int x1), (2, .int x2)] → W p l e (headSpec (WSm yX9_wrongPlan cX9_wrongPlan 4 (some .int)) { frames := 2, cells := 0, slots := 0, locals := 48 }).room s m [.ref (a_this 0)].toArray below meth c H locs 0 0 (MQ below (va_Qi (fun (r : Int32) (u : TM) => r = o.1 ∧ u = o.2) (fun u t => cAt D dT A (cM a_this u ++ (cI_ dT (a_this 1) 100 g_this_text)) t) A) [.ref (a_this 0)].toArray s 0 0 A) (F0 m 9 ls []) := by
    intro g_this_text k104 hk104 n
    induction n with
    | zero => intro x1 x2 g_this H locs ls h; exact nomatch h
    | succ n ih =>
      intro x1 x2 g_this H locs ls h hP hD hS hl
      unfold f_X9_wrongPlan_L9 at h
      refine lv_iload_n hx hb dX9_wrongPlan_9 rfl (lv_at hl 2 rfl) ?_
      refine lv_if_eq (tgt := 104) hx hb dX9_wrongPlan_10 (by decide) (fun c1 => ?_) (fun c1 => ?_)
      · replace h := iteT c1 h
        exact hk104 g_this _ _ _ h hP hD hS (lv_sub hl [0] rfl)
      · replace h := iteF c1 h
        refine lv_aload_n hx hb dX9_wrongPlan_13 rfl (lv_at hl 0 rfl) ?_
        obtain ⟨o2, e2, h⟩ := obind h
        have hPc := hP
        have hDc := hD
        have hFc := vfall hD hS hA
        refine cl_iA (va_runV (As := []) (rest := []) ⟨hx, hb, hml, hown, hts⟩ (c_X9_sign l hlt D dT a_this g_this g_this_text o2 e2 _) (cwV 0 hts (TB_V w_1148 w_1150 w_34 w_59 w_1151) rfl rfl rfl ⟨rfl, nd_X9_sign⟩ ⟨Nat.le_of_ble_eq_true rfl, Nat.le_of_ble_eq_true rfl⟩) (cPre.V hPc hDc hK hE hS hFc (va_recv hK hP (ci := 8) (q0 := 0) rfl rfl)) rfl rfl hl.1 rfl (lv_room (Nat.le_of_ble_eq_true rfl)) dX9_wrongPlan_14 ⟨Nat.zero_le _, Nat.zero_le _⟩) hS hFc (fun r2 u2 H locs hw hP hD hS => ?_)
        obtain ⟨rfl, rfl⟩ := hw
        have hP : va_P D vwCl (cM a_this g_this ++ (cI_ dT (a_this 1) 100 g_this_text)) H := hP
        have hD : va_D A (cM a_this g_this ++ (cI_ dT (a_this 1) 100 g_this_text)) := hD
        refine lv_i2l hx hb dX9_wrongPlan_17 rfl ?_
        refine lv_ldc2 (v := 48) hx hb hown (hqs _ w_1152) dX9_wrongPlan_18 ?_
        refine lv_ldc2 (v := 54) hx hb hown (hqs _ w_1153) dX9_wrongPlan_21 ?_
        obtain ⟨o3, e3, h⟩ := obind h
        have hPc := hP.sub (ws' := ([] : va_W)) [] rfl
        have hDc := hD.sub (ws' := ([] : va_W)) [] (by decide) rfl
        have hFc := va_free (wc := ([] : va_W)) hD hS hA [] rfl
        refine cl_i (wr := (cM a_this g_this ++ (cI_ dT (a_this 1) 100 g_this_text))) (va_runS (As := [.long (Int32.toInt64 o2.1), .long (48 : Int64), .long (54 : Int64)]) (rest := []) ⟨hx, hb, hml, hown, hts⟩ (c_X9_in l hlt D dT (Int32.toInt64 o2.1) (48 : Int64) (54 : Int64) o3 e3 _) (va_cwS 3 hts (TB_S w_1129 w_1130 w_59 w_1131) rfl rfl rfl nd_X9_in ⟨Nat.le_of_ble_eq_true rfl, Nat.le_of_ble_eq_true rfl⟩) (cPre.S hPc hDc hK hE hS hFc) rfl rfl hl.1 rfl (lv_room (Nat.le_of_ble_eq_true rfl)) dX9_wrongPlan_24 ⟨Nat.zero_le _, Nat.zero_le _⟩) hP hD hS hFc [] [0, 1] rfl rfl (by decide) (by decide) (fun r3 u3 H locs hw hP hD hS => ?_)
        obtain ⟨rfl, rfl⟩ := hw
        have hP : va_P D vwCl (cM a_this g_this ++ (cI_ dT (a_this 1) 100 g_this_text)) H := hP
        have hD : va_D A (cM a_this g_this ++ (cI_ dT (a_this 1) 100 g_this_text)) := hD
        refine lv_if_eq (tgt := 40) hx hb dX9_wrongPlan_27 (by decide) (fun c4 => ?_) (fun c4 => ?_)
        · replace h := iteT c4 h
          refine lv_iconst (v := -1) hx hb dX9_wrongPlan_40 (by decide) ?_
          refine L_f_X9_wrongPlan_J41 g_this_text x1 (-1 : Int32) g_this _ ih _ _ _ h hP hD hS (lv_sub hl [0, 1] rfl)
        · replace h := iteF c4 h
          refine lv_aload_n hx hb dX9_wrongPlan_30 rfl (lv_at hl 0 rfl) ?_
          obtain ⟨o10, e10, h⟩ := obind h
          have hPc := hP
          have hDc := hD
          have hFc := vfall hD hS hA
          refine cl_iA (va_runV (As := []) (rest := []) ⟨hx, hb, hml, hown, hts⟩ (c_X9_sign l hlt D dT a_this g_this g_this_text o10 e10 _) (cwV 0 hts (TB_V w_1148 w_1150 w_34 w_59 w_1151) rfl rfl rfl ⟨rfl, nd_X9_sign⟩ ⟨Nat.le_of_ble_eq_true rfl, Nat.le_of_ble_eq_true rfl⟩) (cPre.V hPc hDc hK hE hS hFc (va_recv hK hP (ci := 8) (q0 := 0) rfl rfl)) rfl rfl hl.1 rfl (lv_room (Nat.le_of_ble_eq_true rfl)) dX9_wrongPlan_31 ⟨Nat.zero_le _, Nat.zero_le _⟩) hS hFc (fun r10 u10 H locs hw hP hD hS => ?_)
          obtain ⟨rfl, rfl⟩ := hw
          have hP : va_P D vwCl (cM a_this g_this ++ (cI_ dT (a_this 1) 100 g_this_text)) H := hP
          have hD : va_D A (cM a_this g_this ++ (cI_ dT (a_this 1) 100 g_this_text)) := hD
          refine lv_bipush (v := 48) hx hb dX9_wrongPlan_34 (by decide) ?_
          refine lv_isub hx hb dX9_wrongPlan_36 ?_
          refine lv_goto (tgt := 41) hx hb dX9_wrongPlan_37 (by decide) ?_
          refine L_f_X9_wrongPlan_J41 g_this_text x1 (o10.1 - (48 : Int32)) g_this _ ih _ _ _ h hP hD hS (lv_sub hl [0, 1] rfl)
  unfold f_X9_wrongPlan at h
  refine lv_aload_n hx hb dX9_wrongPlan_0 rfl (lv_at hl 0 rfl) ?_
  refine lv_iconst (v := 0) hx hb dX9_wrongPlan_1 (by decide) ?_
  refine pf_X9_122 hx hb hqs hown hK hP hD hS 0 rfl rfl dX9_wrongPlan_2 (fun H locs hP hD hS => ?_)
  have hP : va_P D vwCl ([(a_this 0, .inr (8, [.int (M_refusal g_this), .ref (a_this 1), .int (M_size g_this), .ref (a_this 2), .ref (a_this 3), .ref (a_this 4), .int (M_acts g_this), .ref (a_this 5), .ref (a_this 6), .ref (a_this 7), .ref (a_this 8), .ref (a_this 9), .ref (a_this 10), .int (M_planned g_this), .int (0 : Int32), .int (M_out g_this), .ref (a_this 11)]))] ++ (cI_ dT (a_this 1) 100 g_this_text)) H := hP
  have hD : va_D A ([(a_this 0, .inr (8, [.int (M_refusal g_this), .ref (a_this 1), .int (M_size g_this), .ref (a_this 2), .ref (a_this 3), .ref (a_this 4), .int (M_acts g_this), .ref (a_this 5), .ref (a_this 6), .ref (a_this 7), .ref (a_this 8), .ref (a_this 9), .ref (a_this 10), .int (M_planned g_this), .int (0 : Int32), .int (M_out g_this), .ref (a_this 11)]))] ++ (cI_ dT (a_this 1) 100 g_this_text)) := hD
  refine lv_iconst (v := 0) hx hb dX9_wrongPlan_5 (by decide) ?_
  refine lv_istore_n (lv' := [(1, .int (0 : Int32)), (0, .ref (a_this 0))]) hx hb dX9_wrongPlan_6 rfl hl (by decide) rfl (fun ls hl => ?_)
  refine lv_iconst (v := 1) hx hb dX9_wrongPlan_7 (by decide) ?_
  refine lv_istore_n (lv' := [(2, .int (1 : Int32)), (1, .int (0 : Int32)), (0, .ref (a_this 0))]) hx hb dX9_wrongPlan_8 rfl hl (by decide) rfl (fun ls hl => ?_)
  refine L_f_X9_wrongPlan_L9 g_this_text _ ?_ FUEL (0 : Int32) (1 : Int32) (M_mk (M_refusal g_this) (M_size g_this) (M_acts g_this) (M_planned g_this) (0 : Int32) (M_out g_this)) _ _ _ h hP hD hS (lv_sub hl [2, 1, 0] rfl)
  · intro y11g_this H locs ls h hP hD hS hl
    refine lv_aload_n hx hb dX9_wrongPlan_104 rfl (lv_at hl 0 rfl) ?_
    refine gf_X9_122 (v := .int (M_spot y11g_this)) hx hb hqs hown hK hP 0 rfl rfl dX9_wrongPlan_105 ?_
    refine lv_aload_n hx hb dX9_wrongPlan_108 rfl (lv_at hl 0 rfl) ?_
    refine gf_X9_115 (v := .int (M_size y11g_this)) hx hb hqs hown hK hP 0 rfl rfl dX9_wrongPlan_109 ?_
    refine lv_icmp_ge (tgt := 122) hx hb dX9_wrongPlan_112 (by decide) (fun c12 => ?_) (fun c12 => ?_)
    · replace h := iteT c12 h
      refine lv_iconst (v := -1) hx hb dX9_wrongPlan_122 (by decide) ?_
      exact rt_i hx hb hr hlk hK hS (y11g_this : TM) (ret2 h) hP hD dX9_wrongPlan_123
    · replace h := iteF c12 h
      refine lv_aload_n hx hb dX9_wrongPlan_115 rfl (lv_at hl 0 rfl) ?_
      refine gf_X9_122 (v := .int (M_spot y11g_this)) hx hb hqs hown hK hP 0 rfl rfl dX9_wrongPlan_116 ?_
      refine lv_goto (tgt := 123) hx hb dX9_wrongPlan_119 (by decide) ?_
      exact rt_i hx hb hr hlk hK hS (y11g_this : TM) (ret2 h) hP hD dX9_wrongPlan_123

def f_X9_linkOn (n_p1 : Nat) (g_p1 : Nat → Int64) (v1 : Int32) (v2 : Int32) (v3 : Int32) (v4 : Int32) : Option (Int32 × ((Nat → Int64))) :=
  ((f_X9_pairOf v1 v2).bind fun o1 => (if inb ((8 : Int32) + o1.1) n_p1 = true then (if inb ((57 : Int32) + o1.1) n_p1 = true then (if inb ((106 : Int32) + o1.1) n_p1 = true then (if inb ((155 : Int32) + o1.1) n_p1 = true then (if inb ((204 : Int32) + o1.1) n_p1 = true then ((f_X9_count n_p1 (vp_updL (vp_updL (vp_updL (vp_updL (vp_updL g_p1 ((8 : Int32) + o1.1).toNatClampNeg (1 : Int64)) ((57 : Int32) + o1.1).toNatClampNeg (Int32.toInt64 v3)) ((106 : Int32) + o1.1).toNatClampNeg (Int32.toInt64 v4)) ((155 : Int32) + o1.1).toNatClampNeg (0 : Int64)) ((204 : Int32) + o1.1).toNatClampNeg (0 : Int64)) (8 : Int32)).bind fun o7 => (some ((Int64.toInt32 o7.1), (vp_updL (vp_updL (vp_updL (vp_updL (vp_updL g_p1 ((8 : Int32) + o1.1).toNatClampNeg (1 : Int64)) ((57 : Int32) + o1.1).toNatClampNeg (Int32.toInt64 v3)) ((106 : Int32) + o1.1).toNatClampNeg (Int32.toInt64 v4)) ((155 : Int32) + o1.1).toNatClampNeg (0 : Int64)) ((204 : Int32) + o1.1).toNatClampNeg (0 : Int64))))) else none) else none) else none) else none) else none))
set_option maxHeartbeats 8000000 in
set_option maxRecDepth 100000 in
theorem c_X9_linkOn (l : Launch) (hlt : l.stackTraces = false) (D : va_G) (dT : Nat → ClassId) (a_p1 : Nat) (n_p1 : Nat) (g_p1 : Nat → Int64) (v1 : Int32) (v2 : Int32) (v3 : Int32) (v4 : Int32) (o : (Int32 × ((Nat → Int64)))) (h : f_X9_linkOn n_p1 g_p1 v1 v2 v3 v4 = some o) (sz : Nat) : Met l yX9_linkOn (WSm yX9_linkOn cX9_linkOn 6 (some .int)) { frames := 1, cells := 0, slots := 0, locals := 24 } (va_Pc [.ref a_p1, .int v1, .int v2, .int v3, .int v4] (cPre D dT (cJ_ dT a_p1 n_p1 g_p1) sz)) (va_Qi (fun (r : Int32) (u : (Nat → Int64)) => r = o.1 ∧ u = o.2) (fun u t => cAt D dT (va_A (cJ_ dT a_p1 n_p1 g_p1) sz) (cJ_ dT a_p1 n_p1 u) t) (va_A (cJ_ dT a_p1 n_p1 g_p1) sz)) 0 0 (va_A (cJ_ dT a_p1 n_p1 g_p1) sz) := by
  refine mStart (WS := (cJ_ dT a_p1 n_p1 g_p1)) (Qc := fun A => va_Qi (fun (r : Int32) (u : (Nat → Int64)) => r = o.1 ∧ u = o.2) (fun u t => cAt D dT A (cJ_ dT a_p1 n_p1 u) t) A) RX9 rfl (by decide) (Nat.le_of_ble_eq_true rfl) ?_ sz
  intro p e s m below meth c A ls hx hb hml hr hlk hnm hts hqs hown hE hA hK hP hD hS hl
  have hl : lv_has ls 6 [(0, .ref a_p1), (1, .int v1), (2, .int v2), (3, .int v3), (4, .int v4)] := hl
  unfold f_X9_linkOn at h
  refine lv_iload_n hx hb dX9_linkOn_0 rfl (lv_at hl 1 rfl) ?_
  refine lv_iload_n hx hb dX9_linkOn_1 rfl (lv_at hl 2 rfl) ?_
  obtain ⟨o1, e1, h⟩ := obind h
  have hPc := hP.sub (ws' := ([] : va_W)) [] rfl
  have hDc := hD.sub (ws' := ([] : va_W)) [] (by decide) rfl
  have hFc := va_free (wc := ([] : va_W)) hD hS hA [] rfl
  refine cl_i (wr := (cJ_ dT a_p1 n_p1 g_p1)) (va_runS (As := [.int v1, .int v2]) (rest := []) ⟨hx, hb, hml, hown, hts⟩ (c_X9_pairOf l hlt D dT v1 v2 o1 e1 _) (va_cwS 2 hts (TB_S w_1181 w_1182 w_59 w_1183) rfl rfl rfl nd_X9_pairOf ⟨Nat.le_of_ble_eq_true rfl, Nat.le_of_ble_eq_true rfl⟩) (cPre.S hPc hDc hK hE hS hFc) rfl rfl hl.1 rfl (lv_room (Nat.le_of_ble_eq_true rfl)) dX9_linkOn_2 ⟨Nat.zero_le _, Nat.zero_le _⟩) hP hD hS hFc [] [0] rfl rfl (by decide) (by decide) (fun r1 u1 H locs hw hP hD hS => ?_)
  obtain ⟨rfl, rfl⟩ := hw
  have hP : va_P D vwCl (cJ_ dT a_p1 n_p1 g_p1) H := hP
  have hD : va_D A (cJ_ dT a_p1 n_p1 g_p1) := hD
  refine lv_istore (lv' := [(5, .int o1.1), (0, .ref a_p1), (1, .int v1), (2, .int v2), (3, .int v3), (4, .int v4)]) hx hb dX9_linkOn_5 hl (by decide) rfl (fun ls hl => ?_)
  refine lv_aload_n hx hb dX9_linkOn_7 rfl (lv_at hl 1 rfl) ?_
  refine lv_bipush (v := 8) hx hb dX9_linkOn_8 (by decide) ?_
  refine lv_iload hx hb dX9_linkOn_10 (lv_at hl 0 rfl) ?_
  refine lv_iadd hx hb dX9_linkOn_12 ?_
  refine lv_lconst (v := 1) hx hb dX9_linkOn_13 (by decide) ?_
  obtain ⟨g2, h⟩ := chk h
  refine va_last hx hb hK hP hD hS 0 1 rfl rfl (inb_in g2) dX9_linkOn_14 (fun H locs hP hD hS => ?_)
  have hP : va_P D vwCl (cJ_ dT a_p1 n_p1 (vp_updL g_p1 ((8 : Int32) + o1.1).toNatClampNeg (1 : Int64))) H := hP
  have hD : va_D A (cJ_ dT a_p1 n_p1 (vp_updL g_p1 ((8 : Int32) + o1.1).toNatClampNeg (1 : Int64))) := hD
  refine lv_aload_n hx hb dX9_linkOn_15 rfl (lv_at hl 1 rfl) ?_
  refine lv_bipush (v := 57) hx hb dX9_linkOn_16 (by decide) ?_
  refine lv_iload hx hb dX9_linkOn_18 (lv_at hl 0 rfl) ?_
  refine lv_iadd hx hb dX9_linkOn_20 ?_
  refine lv_iload_n hx hb dX9_linkOn_21 rfl (lv_at hl 4 rfl) ?_
  refine lv_i2l hx hb dX9_linkOn_22 rfl ?_
  obtain ⟨g3, h⟩ := chk h
  refine va_last hx hb hK hP hD hS 0 1 rfl rfl (inb_in g3) dX9_linkOn_23 (fun H locs hP hD hS => ?_)
  have hP : va_P D vwCl (cJ_ dT a_p1 n_p1 (vp_updL (vp_updL g_p1 ((8 : Int32) + o1.1).toNatClampNeg (1 : Int64)) ((57 : Int32) + o1.1).toNatClampNeg (Int32.toInt64 v3))) H := hP
  have hD : va_D A (cJ_ dT a_p1 n_p1 (vp_updL (vp_updL g_p1 ((8 : Int32) + o1.1).toNatClampNeg (1 : Int64)) ((57 : Int32) + o1.1).toNatClampNeg (Int32.toInt64 v3))) := hD
  refine lv_aload_n hx hb dX9_linkOn_24 rfl (lv_at hl 1 rfl) ?_
  refine lv_bipush (v := 106) hx hb dX9_linkOn_25 (by decide) ?_
  refine lv_iload hx hb dX9_linkOn_27 (lv_at hl 0 rfl) ?_
  refine lv_iadd hx hb dX9_linkOn_29 ?_
  refine lv_iload hx hb dX9_linkOn_30 (lv_at hl 5 rfl) ?_
  refine lv_i2l hx hb dX9_linkOn_32 rfl ?_
  obtain ⟨g4, h⟩ := chk h
  refine va_last hx hb hK hP hD hS 0 1 rfl rfl (inb_in g4) dX9_linkOn_33 (fun H locs hP hD hS => ?_)
  have hP : va_P D vwCl (cJ_ dT a_p1 n_p1 (vp_updL (vp_updL (vp_updL g_p1 ((8 : Int32) + o1.1).toNatClampNeg (1 : Int64)) ((57 : Int32) + o1.1).toNatClampNeg (Int32.toInt64 v3)) ((106 : Int32) + o1.1).toNatClampNeg (Int32.toInt64 v4))) H := hP
  have hD : va_D A (cJ_ dT a_p1 n_p1 (vp_updL (vp_updL (vp_updL g_p1 ((8 : Int32) + o1.1).toNatClampNeg (1 : Int64)) ((57 : Int32) + o1.1).toNatClampNeg (Int32.toInt64 v3)) ((106 : Int32) + o1.1).toNatClampNeg (Int32.toInt64 v4))) := hD
  refine lv_aload_n hx hb dX9_linkOn_34 rfl (lv_at hl 1 rfl) ?_
  refine lv_sipush (v := 155) hx hb dX9_linkOn_35 (by decide) ?_
  refine lv_iload hx hb dX9_linkOn_38 (lv_at hl 0 rfl) ?_
  refine lv_iadd hx hb dX9_linkOn_40 ?_
  refine lv_lconst (v := 0) hx hb dX9_linkOn_41 (by decide) ?_
  obtain ⟨g5, h⟩ := chk h
  refine va_last hx hb hK hP hD hS 0 1 rfl rfl (inb_in g5) dX9_linkOn_42 (fun H locs hP hD hS => ?_)
  have hP : va_P D vwCl (cJ_ dT a_p1 n_p1 (vp_updL (vp_updL (vp_updL (vp_updL g_p1 ((8 : Int32) + o1.1).toNatClampNeg (1 : Int64)) ((57 : Int32) + o1.1).toNatClampNeg (Int32.toInt64 v3)) ((106 : Int32) + o1.1).toNatClampNeg (Int32.toInt64 v4)) ((155 : Int32) + o1.1).toNatClampNeg (0 : Int64))) H := hP
  have hD : va_D A (cJ_ dT a_p1 n_p1 (vp_updL (vp_updL (vp_updL (vp_updL g_p1 ((8 : Int32) + o1.1).toNatClampNeg (1 : Int64)) ((57 : Int32) + o1.1).toNatClampNeg (Int32.toInt64 v3)) ((106 : Int32) + o1.1).toNatClampNeg (Int32.toInt64 v4)) ((155 : Int32) + o1.1).toNatClampNeg (0 : Int64))) := hD
  refine lv_aload_n hx hb dX9_linkOn_43 rfl (lv_at hl 1 rfl) ?_
  refine lv_sipush (v := 204) hx hb dX9_linkOn_44 (by decide) ?_
  refine lv_iload hx hb dX9_linkOn_47 (lv_at hl 0 rfl) ?_
  refine lv_iadd hx hb dX9_linkOn_49 ?_
  refine lv_lconst (v := 0) hx hb dX9_linkOn_50 (by decide) ?_
  obtain ⟨g6, h⟩ := chk h
  refine va_last hx hb hK hP hD hS 0 1 rfl rfl (inb_in g6) dX9_linkOn_51 (fun H locs hP hD hS => ?_)
  have hP : va_P D vwCl (cJ_ dT a_p1 n_p1 (vp_updL (vp_updL (vp_updL (vp_updL (vp_updL g_p1 ((8 : Int32) + o1.1).toNatClampNeg (1 : Int64)) ((57 : Int32) + o1.1).toNatClampNeg (Int32.toInt64 v3)) ((106 : Int32) + o1.1).toNatClampNeg (Int32.toInt64 v4)) ((155 : Int32) + o1.1).toNatClampNeg (0 : Int64)) ((204 : Int32) + o1.1).toNatClampNeg (0 : Int64))) H := hP
  have hD : va_D A (cJ_ dT a_p1 n_p1 (vp_updL (vp_updL (vp_updL (vp_updL (vp_updL g_p1 ((8 : Int32) + o1.1).toNatClampNeg (1 : Int64)) ((57 : Int32) + o1.1).toNatClampNeg (Int32.toInt64 v3)) ((106 : Int32) + o1.1).toNatClampNeg (Int32.toInt64 v4)) ((155 : Int32) + o1.1).toNatClampNeg (0 : Int64)) ((204 : Int32) + o1.1).toNatClampNeg (0 : Int64))) := hD
  refine lv_aload_n hx hb dX9_linkOn_52 rfl (lv_at hl 1 rfl) ?_
  refine lv_bipush (v := 8) hx hb dX9_linkOn_53 (by decide) ?_
  obtain ⟨o7, e7, h⟩ := obind h
  have hPc := hP
  have hDc := hD
  have hFc := vfall hD hS hA
  refine cl_lA (va_runS (As := [.ref a_p1, .int (8 : Int32)]) (rest := []) ⟨hx, hb, hml, hown, hts⟩ (c_X9_count l hlt D dT a_p1 n_p1 (vp_updL (vp_updL (vp_updL (vp_updL (vp_updL g_p1 ((8 : Int32) + o1.1).toNatClampNeg (1 : Int64)) ((57 : Int32) + o1.1).toNatClampNeg (Int32.toInt64 v3)) ((106 : Int32) + o1.1).toNatClampNeg (Int32.toInt64 v4)) ((155 : Int32) + o1.1).toNatClampNeg (0 : Int64)) ((204 : Int32) + o1.1).toNatClampNeg (0 : Int64)) (8 : Int32) o7 e7 _) (va_cwS 2 hts (TB_S w_1184 w_1185 w_59 w_1186) rfl rfl rfl nd_X9_count ⟨Nat.le_of_ble_eq_true rfl, Nat.le_of_ble_eq_true rfl⟩) (cPre.S hPc hDc hK hE hS hFc) rfl rfl hl.1 rfl (lv_room (Nat.le_of_ble_eq_true rfl)) dX9_linkOn_55 ⟨Nat.zero_le _, Nat.zero_le _⟩) hS hFc (fun r7 u7 H locs hw hP hD hS => ?_)
  obtain ⟨rfl, rfl⟩ := hw
  have hP : va_P D vwCl (cJ_ dT a_p1 n_p1 (vp_updL (vp_updL (vp_updL (vp_updL (vp_updL g_p1 ((8 : Int32) + o1.1).toNatClampNeg (1 : Int64)) ((57 : Int32) + o1.1).toNatClampNeg (Int32.toInt64 v3)) ((106 : Int32) + o1.1).toNatClampNeg (Int32.toInt64 v4)) ((155 : Int32) + o1.1).toNatClampNeg (0 : Int64)) ((204 : Int32) + o1.1).toNatClampNeg (0 : Int64))) H := hP
  have hD : va_D A (cJ_ dT a_p1 n_p1 (vp_updL (vp_updL (vp_updL (vp_updL (vp_updL g_p1 ((8 : Int32) + o1.1).toNatClampNeg (1 : Int64)) ((57 : Int32) + o1.1).toNatClampNeg (Int32.toInt64 v3)) ((106 : Int32) + o1.1).toNatClampNeg (Int32.toInt64 v4)) ((155 : Int32) + o1.1).toNatClampNeg (0 : Int64)) ((204 : Int32) + o1.1).toNatClampNeg (0 : Int64))) := hD
  refine lv_l2i hx hb dX9_linkOn_58 rfl ?_
  exact rt_i hx hb hr hlk hK hS ((vp_updL (vp_updL (vp_updL (vp_updL (vp_updL g_p1 ((8 : Int32) + o1.1).toNatClampNeg (1 : Int64)) ((57 : Int32) + o1.1).toNatClampNeg (Int32.toInt64 v3)) ((106 : Int32) + o1.1).toNatClampNeg (Int32.toInt64 v4)) ((155 : Int32) + o1.1).toNatClampNeg (0 : Int64)) ((204 : Int32) + o1.1).toNatClampNeg (0 : Int64)) : (Nat → Int64)) (ret2 h) hP hD dX9_linkOn_59

def f_X9_addOn (n_p1 : Nat) (g_p1 : Nat → Int64) (v1 : Int32) : Option (Int32 × ((Nat → Int64))) :=
  (if inb (0 : Int32) n_p1 = true then (if inb ((1 : Int32) + (Int64.toInt32 (g_p1 (0 : Int32).toNatClampNeg))) n_p1 = true then (if inb (0 : Int32) n_p1 = true then (if inb (0 : Int32) n_p1 = true then (some ((Int64.toInt32 (g_p1 (0 : Int32).toNatClampNeg)), (vp_updL (vp_updL g_p1 ((1 : Int32) + (Int64.toInt32 (g_p1 (0 : Int32).toNatClampNeg))).toNatClampNeg (Int32.toInt64 v1)) (0 : Int32).toNatClampNeg (((vp_updL g_p1 ((1 : Int32) + (Int64.toInt32 (g_p1 (0 : Int32).toNatClampNeg))).toNatClampNeg (Int32.toInt64 v1)) (0 : Int32).toNatClampNeg) + (1 : Int64))))) else none) else none) else none) else none)
set_option maxHeartbeats 8000000 in
set_option maxRecDepth 100000 in
theorem c_X9_addOn (l : Launch) (hlt : l.stackTraces = false) (D : va_G) (dT : Nat → ClassId) (a_p1 : Nat) (n_p1 : Nat) (g_p1 : Nat → Int64) (v1 : Int32) (o : (Int32 × ((Nat → Int64)))) (h : f_X9_addOn n_p1 g_p1 v1 = some o) (sz : Nat) : Met l yX9_addOn (WSm yX9_addOn cX9_addOn 3 (some .int)) { frames := 0, cells := 0, slots := 0, locals := 0 } (va_Pc [.ref a_p1, .int v1] (cPre D dT (cJ_ dT a_p1 n_p1 g_p1) sz)) (va_Qi (fun (r : Int32) (u : (Nat → Int64)) => r = o.1 ∧ u = o.2) (fun u t => cAt D dT (va_A (cJ_ dT a_p1 n_p1 g_p1) sz) (cJ_ dT a_p1 n_p1 u) t) (va_A (cJ_ dT a_p1 n_p1 g_p1) sz)) 0 0 (va_A (cJ_ dT a_p1 n_p1 g_p1) sz) := by
  refine mStart (WS := (cJ_ dT a_p1 n_p1 g_p1)) (Qc := fun A => va_Qi (fun (r : Int32) (u : (Nat → Int64)) => r = o.1 ∧ u = o.2) (fun u t => cAt D dT A (cJ_ dT a_p1 n_p1 u) t) A) RX9 rfl (by decide) (Nat.le_of_ble_eq_true rfl) ?_ sz
  intro p e s m below meth c A ls hx hb hml hr hlk hnm hts hqs hown hE hA hK hP hD hS hl
  have hl : lv_has ls 3 [(0, .ref a_p1), (1, .int v1)] := hl
  unfold f_X9_addOn at h
  refine lv_aload_n hx hb dX9_addOn_0 rfl (lv_at hl 0 rfl) ?_
  refine lv_iconst (v := 0) hx hb dX9_addOn_1 (by decide) ?_
  obtain ⟨g1, h⟩ := chk h
  refine va_lald hx hb hK hP 0 1 rfl rfl (inb_in g1) dX9_addOn_2 ?_
  refine lv_l2i hx hb dX9_addOn_3 rfl ?_
  refine lv_istore_n (lv' := [(2, .int (Int64.toInt32 (g_p1 (0 : Int32).toNatClampNeg))), (0, .ref a_p1), (1, .int v1)]) hx hb dX9_addOn_4 rfl hl (by decide) rfl (fun ls hl => ?_)
  refine lv_aload_n hx hb dX9_addOn_5 rfl (lv_at hl 1 rfl) ?_
  refine lv_iconst (v := 1) hx hb dX9_addOn_6 (by decide) ?_
  refine lv_iload_n hx hb dX9_addOn_7 rfl (lv_at hl 0 rfl) ?_
  refine lv_iadd hx hb dX9_addOn_8 ?_
  refine lv_iload_n hx hb dX9_addOn_9 rfl (lv_at hl 2 rfl) ?_
  refine lv_i2l hx hb dX9_addOn_10 rfl ?_
  obtain ⟨g2, h⟩ := chk h
  refine va_last hx hb hK hP hD hS 0 1 rfl rfl (inb_in g2) dX9_addOn_11 (fun H locs hP hD hS => ?_)
  have hP : va_P D vwCl (cJ_ dT a_p1 n_p1 (vp_updL g_p1 ((1 : Int32) + (Int64.toInt32 (g_p1 (0 : Int32).toNatClampNeg))).toNatClampNeg (Int32.toInt64 v1))) H := hP
  have hD : va_D A (cJ_ dT a_p1 n_p1 (vp_updL g_p1 ((1 : Int32) + (Int64.toInt32 (g_p1 (0 : Int32).toNatClampNeg))).toNatClampNeg (Int32.toInt64 v1))) := hD
  refine lv_aload_n hx hb dX9_addOn_12 rfl (lv_at hl 1 rfl) ?_
  refine lv_iconst (v := 0) hx hb dX9_addOn_13 (by decide) ?_
  refine lv_dup2_11 hx hb dX9_addOn_14 rfl rfl ?_
  obtain ⟨g3, h⟩ := chk h
  refine va_lald hx hb hK hP 0 1 rfl rfl (inb_in g3) dX9_addOn_15 ?_
  refine lv_lconst (v := 1) hx hb dX9_addOn_16 (by decide) ?_
  refine lv_ladd hx hb dX9_addOn_17 ?_
  obtain ⟨g4, h⟩ := chk h
  refine va_last hx hb hK hP hD hS 0 1 rfl rfl (inb_in g4) dX9_addOn_18 (fun H locs hP hD hS => ?_)
  have hP : va_P D vwCl (cJ_ dT a_p1 n_p1 (vp_updL (vp_updL g_p1 ((1 : Int32) + (Int64.toInt32 (g_p1 (0 : Int32).toNatClampNeg))).toNatClampNeg (Int32.toInt64 v1)) (0 : Int32).toNatClampNeg (((vp_updL g_p1 ((1 : Int32) + (Int64.toInt32 (g_p1 (0 : Int32).toNatClampNeg))).toNatClampNeg (Int32.toInt64 v1)) (0 : Int32).toNatClampNeg) + (1 : Int64)))) H := hP
  have hD : va_D A (cJ_ dT a_p1 n_p1 (vp_updL (vp_updL g_p1 ((1 : Int32) + (Int64.toInt32 (g_p1 (0 : Int32).toNatClampNeg))).toNatClampNeg (Int32.toInt64 v1)) (0 : Int32).toNatClampNeg (((vp_updL g_p1 ((1 : Int32) + (Int64.toInt32 (g_p1 (0 : Int32).toNatClampNeg))).toNatClampNeg (Int32.toInt64 v1)) (0 : Int32).toNatClampNeg) + (1 : Int64)))) := hD
  refine lv_iload_n hx hb dX9_addOn_19 rfl (lv_at hl 0 rfl) ?_
  exact rt_i hx hb hr hlk hK hS ((vp_updL (vp_updL g_p1 ((1 : Int32) + (Int64.toInt32 (g_p1 (0 : Int32).toNatClampNeg))).toNatClampNeg (Int32.toInt64 v1)) (0 : Int32).toNatClampNeg (((vp_updL g_p1 ((1 : Int32) + (Int64.toInt32 (g_p1 (0 : Int32).toNatClampNeg))).toNatClampNeg (Int32.toInt64 v1)) (0 : Int32).toNatClampNeg) + (1 : Int64))) : (Nat → Int64)) (ret2 h) hP hD dX9_addOn_20

def f_X9_readEntry_J208 (n_p1 : Nat) (g_this_text : Nat → Int32)  (x5 : Int32) (g_this : TM) (g_p1 : Nat → Int64) : Option (Int32 × (TM × (Nat → Int64))) :=
    (if x5 = (-1 : Int32) then (some ((0 : Int32), (g_this, g_p1))) else (some ((1 : Int32), (g_this, g_p1))))
def f_X9_readEntry_J198 (n_p1 : Nat) (g_this_text : Nat → Int32)  (x5 : Int32) (g_this : TM) (g_p1 : Nat → Int64) : Option (Int32 × (TM × (Nat → Int64))) :=
    (f_X9_readEntry_J208 n_p1 g_this_text x5 (M_mk (M_refusal g_this) (M_size g_this) (M_acts g_this) (M_planned g_this) (M_spot g_this) ((M_out g_this) + (1 : Int32))) g_p1)
def f_X9_readEntry_J131 (n_p1 : Nat) (g_this_text : Nat → Int32)  (x2 : Int32) (x3 : Int32) (s0 : Int32) (g_this : TM) (g_p1 : Nat → Int64) : Option (Int32 × (TM × (Nat → Int64))) :=
    (if s0 = (-1 : Int32) then (some ((0 : Int32), (g_this, g_p1))) else ((f_X9_taken g_this g_this_text (44 : Int32) (44 : Int32)).bind fun o13 => (if o13.1 = (-1 : Int32) then (some ((0 : Int32), (o13.2, g_p1))) else ((f_X9_number o13.2 g_this_text (1000 : Int32)).bind fun o15 => (if o15.1 = (-1 : Int32) then (f_X9_readEntry_J198 n_p1 g_this_text o15.1 o15.2 g_p1) else ((f_X9_isTable n_p1 g_p1 x2).bind fun o18 => (if o18.1 = (0 : Int32) then (f_X9_readEntry_J198 n_p1 g_this_text o15.1 o15.2 g_p1) else ((f_X9_isTable n_p1 g_p1 x3).bind fun o20 => (if o20.1 = (0 : Int32) then (f_X9_readEntry_J198 n_p1 g_this_text o15.1 o15.2 g_p1) else ((f_X9_linkOn n_p1 g_p1 x2 x3 s0 o15.1).bind fun o22 => (f_X9_readEntry_J208 n_p1 g_this_text o15.1 o15.2 o22.2)))))))))))
def f_X9_readEntry_J54 (n_p1 : Nat) (g_this_text : Nat → Int32)  (x2 : Int32) (g_this : TM) (g_p1 : Nat → Int64) : Option (Int32 × (TM × (Nat → Int64))) :=
    (if x2 = (-1 : Int32) then (some ((0 : Int32), (g_this, g_p1))) else (some ((1 : Int32), (g_this, g_p1))))
def f_X9_readEntry_J44 (n_p1 : Nat) (g_this_text : Nat → Int32)  (x2 : Int32) (g_this : TM) (g_p1 : Nat → Int64) : Option (Int32 × (TM × (Nat → Int64))) :=
    (f_X9_readEntry_J54 n_p1 g_this_text x2 (M_mk (M_refusal g_this) (M_size g_this) (M_acts g_this) (M_planned g_this) (M_spot g_this) ((M_out g_this) + (1 : Int32))) g_p1)
def f_X9_readEntry (n_p1 : Nat) (g_this : TM) (g_this_text : Nat → Int32) (g_p1 : Nat → Int64) : Option (Int32 × (TM × (Nat → Int64))) :=
  ((f_X9_taken g_this g_this_text (116 : Int32) (116 : Int32)).bind fun o1 => (if o1.1 = (-1 : Int32) then ((f_X9_taken o1.2 g_this_text (112 : Int32) (112 : Int32)).bind fun o3 => (if o3.1 = (-1 : Int32) then (some ((0 : Int32), (o3.2, g_p1))) else ((f_X9_taken o3.2 g_this_text (48 : Int32) (54 : Int32)).bind fun o5 => (if o5.1 = (-1 : Int32) then (some ((0 : Int32), (o5.2, g_p1))) else ((f_X9_sign o5.2 g_this_text).bind fun o7 => (if o7.1 = ((48 : Int32) + o5.1) then (some ((0 : Int32), (o5.2, g_p1))) else ((f_X9_taken o5.2 g_this_text (48 : Int32) (54 : Int32)).bind fun o9 => (if o9.1 = (-1 : Int32) then (f_X9_readEntry_J131 n_p1 g_this_text o5.1 o9.1 (-1 : Int32) o9.2 g_p1) else ((f_X9_number o9.2 g_this_text (1000 : Int32)).bind fun o11 => (f_X9_readEntry_J131 n_p1 g_this_text o5.1 o9.1 o11.1 o11.2 g_p1)))))))))) else ((f_X9_number o1.2 g_this_text (9999 : Int32)).bind fun o23 => (if o23.1 = (-1 : Int32) then (f_X9_readEntry_J44 n_p1 g_this_text o23.1 o23.2 g_p1) else (if inb (0 : Int32) n_p1 = true then (if (0 : Int32) ≤ (lg_cmp (g_p1 (0 : Int32).toNatClampNeg) (7 : Int64)) then (f_X9_readEntry_J44 n_p1 g_this_text o23.1 o23.2 g_p1) else ((f_X9_addOn n_p1 g_p1 o23.1).bind fun o28 => (f_X9_readEntry_J54 n_p1 g_this_text o23.1 o23.2 o28.2))) else none)))))
set_option maxHeartbeats 8000000 in
set_option maxRecDepth 100000 in
theorem c_X9_readEntry (l : Launch) (hlt : l.stackTraces = false) (D : va_G) (dT : Nat → ClassId) (a_this : Nat → Nat) (a_p1 : Nat) (n_p1 : Nat) (g_this : TM) (g_this_text : Nat → Int32) (g_p1 : Nat → Int64) (o : (Int32 × (TM × (Nat → Int64)))) (h : f_X9_readEntry n_p1 g_this g_this_text g_p1 = some o) (sz : Nat) : Met l yX9_readEntry (WSm yX9_readEntry cX9_readEntry 6 (some .boolean)) { frames := 3, cells := 0, slots := 0, locals := 70 } (va_Pc [.ref (a_this 0), .ref a_p1] (cPre D dT (cM a_this g_this ++ (cI_ dT (a_this 1) 100 g_this_text ++ (cJ_ dT a_p1 n_p1 g_p1))) sz)) (va_Qi (fun (r : Int32) (u : TM × (Nat → Int64)) => r = o.1 ∧ u = o.2) (fun u t => cAt D dT (va_A (cM a_this g_this ++ (cI_ dT (a_this 1) 100 g_this_text ++ (cJ_ dT a_p1 n_p1 g_p1))) sz) (cM a_this (u.1) ++ (cI_ dT (a_this 1) 100 g_this_text ++ (cJ_ dT a_p1 n_p1 (u.2)))) t) (va_A (cM a_this g_this ++ (cI_ dT (a_this 1) 100 g_this_text ++ (cJ_ dT a_p1 n_p1 g_p1))) sz)) 0 0 (va_A (cM a_this g_this ++ (cI_ dT (a_this 1) 100 g_this_text ++ (cJ_ dT a_p1 n_p1 g_p1))) sz) := by
  refine mStart (WS := (cM a_this g_this ++ (cI_ dT (a_this 1) 100 g_this_text ++ (cJ_ dT a_p1 n_p1 g_p1)))) (Qc := fun A => va_Qi (fun (r : Int32) (u : TM × (Nat → Int64)) => r = o.1 ∧ u = o.2) (fun u t => cAt D dT A (cM a_this (u.1) ++ (cI_ dT (a_this 1) 100 g_this_text ++ (cJ_ dT a_p1 n_p1 (u.2)))) t) A) RX9 rfl (by decide) (Nat.le_of_ble_eq_true rfl) ?_ sz
  intro p e s m below meth c A ls hx hb hml hr hlk hnm hts hqs hown hE hA hK hP hD hS hl
  have hl : lv_has ls 6 [(0, .ref (a_this 0)), (1, .ref a_p1)] := hl
  have L_f_X9_readEntry_J208 : ∀ (n_p1 : Nat) (g_this_text : Nat → Int32) (x5 : Int32) (g_this : TM) (g_p1 : Nat → Int64)   (H : Heap) (locs : List Loc) (ls : Array Slot), f_X9_readEntry_J208 n_p1 g_this_text  x5 g_this g_p1 = some o → va_P D vwCl (cM a_this g_this ++ (cI_ dT (a_this 1) 100 g_this_text ++ (cJ_ dT a_p1 n_p1 g_p1))) H → va_D A (cM a_this g_this ++ (cI_ dT (a_this 1) 100 g_this_text ++ (cJ_ dT a_p1 n_p1 g_p1))) → va_S A s.heap H locs → lv_has ls 6 [(5, .int x5)] → W p l e (headSpec (WSm yX9_readEntry cX9_readEntry 6 (some .boolean)) { frames := 3, cells := 0, slots := 0, locals := 70 }).room s m [.ref (a_this 0), .ref a_p1].toArray below meth c H locs 0 0 (MQ below (va_Qi (fun (r : Int32) (u : TM × (Nat → Int64)) => r = o.1 ∧ u = o.2) (fun u t => cAt D dT A (cM a_this (u.1) ++ (cI_ dT (a_this 1) 100 g_this_text ++ (cJ_ dT a_p1 n_p1 (u.2)))) t) A) [.ref (a_this 0), .ref a_p1].toArray s 0 0 A) (F0 m 208 ls []) := by
    intro n_p1 g_this_text x5 g_this g_p1   H locs ls h hP hD hS hl
    unfold f_X9_readEntry_J208 at h
    refine lv_iload hx hb dX9_readEntry_208 (lv_at hl 0 rfl) ?_
    refine lv_iconst (v := -1) hx hb dX9_readEntry_210 (by decide) ?_
    refine lv_icmp_eq (tgt := 218) hx hb dX9_readEntry_211 (by decide) (fun c17 => ?_) (fun c17 => ?_)
    · replace h := iteT c17 h
      refine lv_iconst (v := 0) hx hb dX9_readEntry_218 (by decide) ?_
      exact rt_z hx hb hr hlk hK hS ((g_this, g_p1) : TM × (Nat → Int64)) (ret2 h) (by decide) hP hD dX9_readEntry_219
    · replace h := iteF c17 h
      refine lv_iconst (v := 1) hx hb dX9_readEntry_214 (by decide) ?_
      refine lv_goto (tgt := 219) hx hb dX9_readEntry_215 (by decide) ?_
      exact rt_z hx hb hr hlk hK hS ((g_this, g_p1) : TM × (Nat → Int64)) (ret2 h) (by decide) hP hD dX9_readEntry_219
  have L_f_X9_readEntry_J198 : ∀ (n_p1 : Nat) (g_this_text : Nat → Int32) (x5 : Int32) (g_this : TM) (g_p1 : Nat → Int64)   (H : Heap) (locs : List Loc) (ls : Array Slot), f_X9_readEntry_J198 n_p1 g_this_text  x5 g_this g_p1 = some o → va_P D vwCl (cM a_this g_this ++ (cI_ dT (a_this 1) 100 g_this_text ++ (cJ_ dT a_p1 n_p1 g_p1))) H → va_D A (cM a_this g_this ++ (cI_ dT (a_this 1) 100 g_this_text ++ (cJ_ dT a_p1 n_p1 g_p1))) → va_S A s.heap H locs → lv_has ls 6 [(0, .ref (a_this 0)), (5, .int x5)] → W p l e (headSpec (WSm yX9_readEntry cX9_readEntry 6 (some .boolean)) { frames := 3, cells := 0, slots := 0, locals := 70 }).room s m [.ref (a_this 0), .ref a_p1].toArray below meth c H locs 0 0 (MQ below (va_Qi (fun (r : Int32) (u : TM × (Nat → Int64)) => r = o.1 ∧ u = o.2) (fun u t => cAt D dT A (cM a_this (u.1) ++ (cI_ dT (a_this 1) 100 g_this_text ++ (cJ_ dT a_p1 n_p1 (u.2)))) t) A) [.ref (a_this 0), .ref a_p1].toArray s 0 0 A) (F0 m 198 ls []) := by
    intro n_p1 g_this_text x5 g_this g_p1   H locs ls h hP hD hS hl
    unfold f_X9_readEntry_J198 at h
    refine lv_aload_n hx hb dX9_readEntry_198 rfl (lv_at hl 0 rfl) ?_
    refine lv_dup hx hb dX9_readEntry_199 rfl ?_
    refine gf_X9_151 (v := .int (M_out g_this)) hx hb hqs hown hK hP 0 rfl rfl dX9_readEntry_200 ?_
    refine lv_iconst (v := 1) hx hb dX9_readEntry_203 (by decide) ?_
    refine lv_iadd hx hb dX9_readEntry_204 ?_
    refine pf_X9_151 hx hb hqs hown hK hP hD hS 0 rfl rfl dX9_readEntry_205 (fun H locs hP hD hS => ?_)
    have hP : va_P D vwCl ([(a_this 0, .inr (8, [.int (M_refusal g_this), .ref (a_this 1), .int (M_size g_this), .ref (a_this 2), .ref (a_this 3), .ref (a_this 4), .int (M_acts g_this), .ref (a_this 5), .ref (a_this 6), .ref (a_this 7), .ref (a_this 8), .ref (a_this 9), .ref (a_this 10), .int (M_planned g_this), .int (M_spot g_this), .int ((M_out g_this) + (1 : Int32)), .ref (a_this 11)]))] ++ (cI_ dT (a_this 1) 100 g_this_text ++ (cJ_ dT a_p1 n_p1 g_p1))) H := hP
    have hD : va_D A ([(a_this 0, .inr (8, [.int (M_refusal g_this), .ref (a_this 1), .int (M_size g_this), .ref (a_this 2), .ref (a_this 3), .ref (a_this 4), .int (M_acts g_this), .ref (a_this 5), .ref (a_this 6), .ref (a_this 7), .ref (a_this 8), .ref (a_this 9), .ref (a_this 10), .int (M_planned g_this), .int (M_spot g_this), .int ((M_out g_this) + (1 : Int32)), .ref (a_this 11)]))] ++ (cI_ dT (a_this 1) 100 g_this_text ++ (cJ_ dT a_p1 n_p1 g_p1))) := hD
    refine L_f_X9_readEntry_J208 n_p1 g_this_text x5 (M_mk (M_refusal g_this) (M_size g_this) (M_acts g_this) (M_planned g_this) (M_spot g_this) ((M_out g_this) + (1 : Int32))) g_p1   _ _ _ h hP hD hS (lv_sub hl [1] rfl)
  have L_f_X9_readEntry_J131 : ∀ (n_p1 : Nat) (g_this_text : Nat → Int32) (x2 : Int32) (x3 : Int32) (s0 : Int32) (g_this : TM) (g_p1 : Nat → Int64)   (H : Heap) (locs : List Loc) (ls : Array Slot), f_X9_readEntry_J131 n_p1 g_this_text  x2 x3 s0 g_this g_p1 = some o → va_P D vwCl (cM a_this g_this ++ (cI_ dT (a_this 1) 100 g_this_text ++ (cJ_ dT a_p1 n_p1 g_p1))) H → va_D A (cM a_this g_this ++ (cI_ dT (a_this 1) 100 g_this_text ++ (cJ_ dT a_p1 n_p1 g_p1))) → va_S A s.heap H locs → lv_has ls 6 [(0, .ref (a_this 0)), (1, .ref a_p1), (2, .int x2), (3, .int x3)] → W p l e (headSpec (WSm yX9_readEntry cX9_readEntry 6 (some .boolean)) { frames := 3, cells := 0, slots := 0, locals := 70 }).room s m [.ref (a_this 0), .ref a_p1].toArray below meth c H locs 0 0 (MQ below (va_Qi (fun (r : Int32) (u : TM × (Nat → Int64)) => r = o.1 ∧ u = o.2) (fun u t => cAt D dT A (cM a_this (u.1) ++ (cI_ dT (a_this 1) 100 g_this_text ++ (cJ_ dT a_p1 n_p1 (u.2)))) t) A) [.ref (a_this 0), .ref a_p1].toArray s 0 0 A) (F0 m 131 ls [.int s0]) := by
    intro n_p1 g_this_text x2 x3 s0 g_this g_p1   H locs ls h hP hD hS hl
    unfold f_X9_readEntry_J131 at h
    refine lv_istore (lv' := [(4, .int s0), (0, .ref (a_this 0)), (1, .ref a_p1), (2, .int x2), (3, .int x3)]) hx hb dX9_readEntry_131 hl (by decide) rfl (fun ls hl => ?_)
    refine lv_iload hx hb dX9_readEntry_133 (lv_at hl 0 rfl) ?_
    refine lv_iconst (v := -1) hx hb dX9_readEntry_135 (by decide) ?_
    refine lv_icmp_eq (tgt := 151) hx hb dX9_readEntry_136 (by decide) (fun c12 => ?_) (fun c12 => ?_)
    · replace h := iteT c12 h
      refine lv_iconst (v := 0) hx hb dX9_readEntry_151 (by decide) ?_
      exact rt_z hx hb hr hlk hK hS ((g_this, g_p1) : TM × (Nat → Int64)) (ret2 h) (by decide) hP hD dX9_readEntry_152
    · replace h := iteF c12 h
      refine lv_aload_n hx hb dX9_readEntry_139 rfl (lv_at hl 1 rfl) ?_
      refine lv_bipush (v := 44) hx hb dX9_readEntry_140 (by decide) ?_
      refine lv_bipush (v := 44) hx hb dX9_readEntry_142 (by decide) ?_
      obtain ⟨o13, e13, h⟩ := obind h
      have hPc := hP.sub (ws' := (cM a_this g_this ++ (cI_ dT (a_this 1) 100 g_this_text))) [0, 1] rfl
      have hDc := hD.sub (ws' := (cM a_this g_this ++ (cI_ dT (a_this 1) 100 g_this_text))) [0, 1] (by decide) rfl
      have hFc := va_free (wc := (cM a_this g_this ++ (cI_ dT (a_this 1) 100 g_this_text))) hD hS hA [0, 1] rfl
      refine cl_i (wr := (cJ_ dT a_p1 n_p1 g_p1)) (va_runV (As := [.int (44 : Int32), .int (44 : Int32)]) (rest := []) ⟨hx, hb, hml, hown, hts⟩ (c_X9_taken l hlt D dT a_this g_this g_this_text (44 : Int32) (44 : Int32) o13 e13 _) (cwV 2 hts (TB_V w_1154 w_1156 w_35 w_59 w_1157) rfl rfl rfl ⟨rfl, nd_X9_taken⟩ ⟨Nat.le_of_ble_eq_true rfl, Nat.le_of_ble_eq_true rfl⟩) (cPre.V hPc hDc hK hE hS hFc (va_recv hK hP (ci := 8) (q0 := 0) rfl rfl)) rfl rfl hl.1 rfl (lv_room (Nat.le_of_ble_eq_true rfl)) dX9_readEntry_144 ⟨Nat.zero_le _, Nat.zero_le _⟩) hP hD hS hFc [0, 1] [2] rfl rfl (by decide) (by decide) (fun r13 u13 H locs hw hP hD hS => ?_)
      obtain ⟨rfl, rfl⟩ := hw
      have hP : va_P D vwCl (cJ_ dT a_p1 n_p1 g_p1 ++ (cM a_this o13.2 ++ (cI_ dT (a_this 1) 100 g_this_text))) H := hP
      have hD : va_D A (cJ_ dT a_p1 n_p1 g_p1 ++ (cM a_this o13.2 ++ (cI_ dT (a_this 1) 100 g_this_text))) := hD
      refine lv_iconst (v := -1) hx hb dX9_readEntry_147 (by decide) ?_
      refine lv_icmp_ne (tgt := 153) hx hb dX9_readEntry_148 (by decide) (fun c14 => ?_) (fun c14 => ?_)
      · replace h := iteF c14 h
        refine lv_aload_n hx hb dX9_readEntry_153 rfl (lv_at hl 1 rfl) ?_
        refine lv_sipush (v := 1000) hx hb dX9_readEntry_154 (by decide) ?_
        obtain ⟨o15, e15, h⟩ := obind h
        have hPc := hP.sub (ws' := (cM a_this o13.2 ++ (cI_ dT (a_this 1) 100 g_this_text))) [1, 2] rfl
        have hDc := hD.sub (ws' := (cM a_this o13.2 ++ (cI_ dT (a_this 1) 100 g_this_text))) [1, 2] (by decide) rfl
        have hFc := va_free (wc := (cM a_this o13.2 ++ (cI_ dT (a_this 1) 100 g_this_text))) hD hS hA [1, 2] rfl
        refine cl_i (wr := (cJ_ dT a_p1 n_p1 g_p1)) (va_runV (As := [.int (1000 : Int32)]) (rest := []) ⟨hx, hb, hml, hown, hts⟩ (c_X9_number l hlt D dT a_this o13.2 g_this_text (1000 : Int32) o15 e15 _) (cwV 1 hts (TB_V w_1166 w_1168 w_38 w_59 w_1169) rfl rfl rfl ⟨rfl, nd_X9_number⟩ ⟨Nat.le_of_ble_eq_true rfl, Nat.le_of_ble_eq_true rfl⟩) (cPre.V hPc hDc hK hE hS hFc (va_recv hK hP (ci := 8) (q0 := 1) rfl rfl)) rfl rfl hl.1 rfl (lv_room (Nat.le_of_ble_eq_true rfl)) dX9_readEntry_157 ⟨Nat.zero_le _, Nat.zero_le _⟩) hP hD hS hFc [1, 2] [0] rfl rfl (by decide) (by decide) (fun r15 u15 H locs hw hP hD hS => ?_)
        obtain ⟨rfl, rfl⟩ := hw
        have hP : va_P D vwCl (cJ_ dT a_p1 n_p1 g_p1 ++ (cM a_this o15.2 ++ (cI_ dT (a_this 1) 100 g_this_text))) H := hP
        have hD : va_D A (cJ_ dT a_p1 n_p1 g_p1 ++ (cM a_this o15.2 ++ (cI_ dT (a_this 1) 100 g_this_text))) := hD
        refine lv_istore (lv' := [(5, .int o15.1), (4, .int s0), (0, .ref (a_this 0)), (1, .ref a_p1), (2, .int x2), (3, .int x3)]) hx hb dX9_readEntry_160 hl (by decide) rfl (fun ls hl => ?_)
        refine lv_iload hx hb dX9_readEntry_162 (lv_at hl 0 rfl) ?_
        refine lv_iconst (v := -1) hx hb dX9_readEntry_164 (by decide) ?_
        refine lv_icmp_eq (tgt := 198) hx hb dX9_readEntry_165 (by decide) (fun c16 => ?_) (fun c16 => ?_)
        · replace h := iteT c16 h
          have hP := hP.sub (ws' := (cM a_this o15.2 ++ (cI_ dT (a_this 1) 100 g_this_text ++ (cJ_ dT a_p1 n_p1 g_p1)))) [1, 2, 0] rfl
          have hD := hD.sub (ws' := (cM a_this o15.2 ++ (cI_ dT (a_this 1) 100 g_this_text ++ (cJ_ dT a_p1 n_p1 g_p1)))) [1, 2, 0] (by decide) rfl
          refine L_f_X9_readEntry_J198 n_p1 g_this_text o15.1 o15.2 g_p1   _ _ _ h hP hD hS (lv_sub hl [2, 0] rfl)
        · replace h := iteF c16 h
          refine lv_aload_n hx hb dX9_readEntry_168 rfl (lv_at hl 3 rfl) ?_
          refine lv_iload_n hx hb dX9_readEntry_169 rfl (lv_at hl 4 rfl) ?_
          obtain ⟨o18, e18, h⟩ := obind h
          have hPc := hP.sub (ws' := (cJ_ dT a_p1 n_p1 g_p1)) [0] rfl
          have hDc := hD.sub (ws' := (cJ_ dT a_p1 n_p1 g_p1)) [0] (by decide) rfl
          have hFc := va_free (wc := (cJ_ dT a_p1 n_p1 g_p1)) hD hS hA [0] rfl
          refine cl_i (wr := (cM a_this o15.2 ++ (cI_ dT (a_this 1) 100 g_this_text))) (va_runS (As := [.ref a_p1, .int x2]) (rest := []) ⟨hx, hb, hml, hown, hts⟩ (c_X9_isTable l hlt D dT a_p1 n_p1 g_p1 x2 o18 e18 _) (va_cwS 2 hts (TB_S w_1175 w_1176 w_59 w_1177) rfl rfl rfl nd_X9_isTable ⟨Nat.le_of_ble_eq_true rfl, Nat.le_of_ble_eq_true rfl⟩) (cPre.S hPc hDc hK hE hS hFc) rfl rfl hl.1 rfl (lv_room (Nat.le_of_ble_eq_true rfl)) dX9_readEntry_170 ⟨Nat.zero_le _, Nat.zero_le _⟩) hP hD hS hFc [0] [1, 2] rfl rfl (by decide) (by decide) (fun r18 u18 H locs hw hP hD hS => ?_)
          obtain ⟨rfl, rfl⟩ := hw
          have hP : va_P D vwCl (cM a_this o15.2 ++ (cI_ dT (a_this 1) 100 g_this_text ++ (cJ_ dT a_p1 n_p1 g_p1))) H := hP
          have hD : va_D A (cM a_this o15.2 ++ (cI_ dT (a_this 1) 100 g_this_text ++ (cJ_ dT a_p1 n_p1 g_p1))) := hD
          refine lv_if_eq (tgt := 198) hx hb dX9_readEntry_173 (by decide) (fun c19 => ?_) (fun c19 => ?_)
          · replace h := iteT c19 h
            refine L_f_X9_readEntry_J198 n_p1 g_this_text o15.1 o15.2 g_p1   _ _ _ h hP hD hS (lv_sub hl [2, 0] rfl)
          · replace h := iteF c19 h
            refine lv_aload_n hx hb dX9_readEntry_176 rfl (lv_at hl 3 rfl) ?_
            refine lv_iload_n hx hb dX9_readEntry_177 rfl (lv_at hl 5 rfl) ?_
            obtain ⟨o20, e20, h⟩ := obind h
            have hPc := hP.sub (ws' := (cJ_ dT a_p1 n_p1 g_p1)) [2] rfl
            have hDc := hD.sub (ws' := (cJ_ dT a_p1 n_p1 g_p1)) [2] (by decide) rfl
            have hFc := va_free (wc := (cJ_ dT a_p1 n_p1 g_p1)) hD hS hA [2] rfl
            refine cl_i (wr := (cM a_this o15.2 ++ (cI_ dT (a_this 1) 100 g_this_text))) (va_runS (As := [.ref a_p1, .int x3]) (rest := []) ⟨hx, hb, hml, hown, hts⟩ (c_X9_isTable l hlt D dT a_p1 n_p1 g_p1 x3 o20 e20 _) (va_cwS 2 hts (TB_S w_1175 w_1176 w_59 w_1177) rfl rfl rfl nd_X9_isTable ⟨Nat.le_of_ble_eq_true rfl, Nat.le_of_ble_eq_true rfl⟩) (cPre.S hPc hDc hK hE hS hFc) rfl rfl hl.1 rfl (lv_room (Nat.le_of_ble_eq_true rfl)) dX9_readEntry_178 ⟨Nat.zero_le _, Nat.zero_le _⟩) hP hD hS hFc [2] [0, 1] rfl rfl (by decide) (by decide) (fun r20 u20 H locs hw hP hD hS => ?_)
            obtain ⟨rfl, rfl⟩ := hw
            have hP : va_P D vwCl (cM a_this o15.2 ++ (cI_ dT (a_this 1) 100 g_this_text ++ (cJ_ dT a_p1 n_p1 g_p1))) H := hP
            have hD : va_D A (cM a_this o15.2 ++ (cI_ dT (a_this 1) 100 g_this_text ++ (cJ_ dT a_p1 n_p1 g_p1))) := hD
            refine lv_if_eq (tgt := 198) hx hb dX9_readEntry_181 (by decide) (fun c21 => ?_) (fun c21 => ?_)
            · replace h := iteT c21 h
              refine L_f_X9_readEntry_J198 n_p1 g_this_text o15.1 o15.2 g_p1   _ _ _ h hP hD hS (lv_sub hl [2, 0] rfl)
            · replace h := iteF c21 h
              refine lv_aload_n hx hb dX9_readEntry_184 rfl (lv_at hl 3 rfl) ?_
              refine lv_iload_n hx hb dX9_readEntry_185 rfl (lv_at hl 4 rfl) ?_
              refine lv_iload_n hx hb dX9_readEntry_186 rfl (lv_at hl 5 rfl) ?_
              refine lv_iload hx hb dX9_readEntry_187 (lv_at hl 1 rfl) ?_
              refine lv_iload hx hb dX9_readEntry_189 (lv_at hl 0 rfl) ?_
              obtain ⟨o22, e22, h⟩ := obind h
              have hPc := hP.sub (ws' := (cJ_ dT a_p1 n_p1 g_p1)) [2] rfl
              have hDc := hD.sub (ws' := (cJ_ dT a_p1 n_p1 g_p1)) [2] (by decide) rfl
              have hFc := va_free (wc := (cJ_ dT a_p1 n_p1 g_p1)) hD hS hA [2] rfl
              refine cl_i (wr := (cM a_this o15.2 ++ (cI_ dT (a_this 1) 100 g_this_text))) (va_runS (As := [.ref a_p1, .int x2, .int x3, .int s0, .int o15.1]) (rest := []) ⟨hx, hb, hml, hown, hts⟩ (c_X9_linkOn l hlt D dT a_p1 n_p1 g_p1 x2 x3 s0 o15.1 o22 e22 _) (va_cwS 5 hts (TB_S w_1178 w_1179 w_59 w_1180) rfl rfl rfl nd_X9_linkOn ⟨Nat.le_of_ble_eq_true rfl, Nat.le_of_ble_eq_true rfl⟩) (cPre.S hPc hDc hK hE hS hFc) rfl rfl hl.1 rfl (lv_room (Nat.le_of_ble_eq_true rfl)) dX9_readEntry_191 ⟨Nat.zero_le _, Nat.zero_le _⟩) hP hD hS hFc [2] [0, 1] rfl rfl (by decide) (by decide) (fun r22 u22 H locs hw hP hD hS => ?_)
              obtain ⟨rfl, rfl⟩ := hw
              have hP : va_P D vwCl (cM a_this o15.2 ++ (cI_ dT (a_this 1) 100 g_this_text ++ (cJ_ dT a_p1 n_p1 o22.2))) H := hP
              have hD : va_D A (cM a_this o15.2 ++ (cI_ dT (a_this 1) 100 g_this_text ++ (cJ_ dT a_p1 n_p1 o22.2))) := hD
              refine lv_pop hx hb dX9_readEntry_194 rfl ?_
              refine lv_goto (tgt := 208) hx hb dX9_readEntry_195 (by decide) ?_
              refine L_f_X9_readEntry_J208 n_p1 g_this_text o15.1 o15.2 o22.2   _ _ _ h hP hD hS (lv_sub hl [0] rfl)
      · replace h := iteT c14 h
        refine lv_iconst (v := 0) hx hb dX9_readEntry_151 (by decide) ?_
        have hP := hP.sub (ws' := (cM a_this o13.2 ++ (cI_ dT (a_this 1) 100 g_this_text ++ (cJ_ dT a_p1 n_p1 g_p1)))) [1, 2, 0] rfl
        have hD := hD.sub (ws' := (cM a_this o13.2 ++ (cI_ dT (a_this 1) 100 g_this_text ++ (cJ_ dT a_p1 n_p1 g_p1)))) [1, 2, 0] (by decide) rfl
        exact rt_z hx hb hr hlk hK hS ((o13.2, g_p1) : TM × (Nat → Int64)) (ret2 h) (by decide) hP hD dX9_readEntry_152
  have L_f_X9_readEntry_J54 : ∀ (n_p1 : Nat) (g_this_text : Nat → Int32) (x2 : Int32) (g_this : TM) (g_p1 : Nat → Int64)   (H : Heap) (locs : List Loc) (ls : Array Slot), f_X9_readEntry_J54 n_p1 g_this_text  x2 g_this g_p1 = some o → va_P D vwCl (cM a_this g_this ++ (cI_ dT (a_this 1) 100 g_this_text ++ (cJ_ dT a_p1 n_p1 g_p1))) H → va_D A (cM a_this g_this ++ (cI_ dT (a_this 1) 100 g_this_text ++ (cJ_ dT a_p1 n_p1 g_p1))) → va_S A s.heap H locs → lv_has ls 6 [(2, .int x2)] → W p l e (headSpec (WSm yX9_readEntry cX9_readEntry 6 (some .boolean)) { frames := 3, cells := 0, slots := 0, locals := 70 }).room s m [.ref (a_this 0), .ref a_p1].toArray below meth c H locs 0 0 (MQ below (va_Qi (fun (r : Int32) (u : TM × (Nat → Int64)) => r = o.1 ∧ u = o.2) (fun u t => cAt D dT A (cM a_this (u.1) ++ (cI_ dT (a_this 1) 100 g_this_text ++ (cJ_ dT a_p1 n_p1 (u.2)))) t) A) [.ref (a_this 0), .ref a_p1].toArray s 0 0 A) (F0 m 54 ls []) := by
    intro n_p1 g_this_text x2 g_this g_p1   H locs ls h hP hD hS hl
    unfold f_X9_readEntry_J54 at h
    refine lv_iload_n hx hb dX9_readEntry_54 rfl (lv_at hl 0 rfl) ?_
    refine lv_iconst (v := -1) hx hb dX9_readEntry_55 (by decide) ?_
    refine lv_icmp_eq (tgt := 63) hx hb dX9_readEntry_56 (by decide) (fun c25 => ?_) (fun c25 => ?_)
    · replace h := iteT c25 h
      refine lv_iconst (v := 0) hx hb dX9_readEntry_63 (by decide) ?_
      exact rt_z hx hb hr hlk hK hS ((g_this, g_p1) : TM × (Nat → Int64)) (ret2 h) (by decide) hP hD dX9_readEntry_64
    · replace h := iteF c25 h
      refine lv_iconst (v := 1) hx hb dX9_readEntry_59 (by decide) ?_
      refine lv_goto (tgt := 64) hx hb dX9_readEntry_60 (by decide) ?_
      exact rt_z hx hb hr hlk hK hS ((g_this, g_p1) : TM × (Nat → Int64)) (ret2 h) (by decide) hP hD dX9_readEntry_64
  have L_f_X9_readEntry_J44 : ∀ (n_p1 : Nat) (g_this_text : Nat → Int32) (x2 : Int32) (g_this : TM) (g_p1 : Nat → Int64)   (H : Heap) (locs : List Loc) (ls : Array Slot), f_X9_readEntry_J44 n_p1 g_this_text  x2 g_this g_p1 = some o → va_P D vwCl (cM a_this g_this ++ (cI_ dT (a_this 1) 100 g_this_text ++ (cJ_ dT a_p1 n_p1 g_p1))) H → va_D A (cM a_this g_this ++ (cI_ dT (a_this 1) 100 g_this_text ++ (cJ_ dT a_p1 n_p1 g_p1))) → va_S A s.heap H locs → lv_has ls 6 [(0, .ref (a_this 0)), (2, .int x2)] → W p l e (headSpec (WSm yX9_readEntry cX9_readEntry 6 (some .boolean)) { frames := 3, cells := 0, slots := 0, locals := 70 }).room s m [.ref (a_this 0), .ref a_p1].toArray below meth c H locs 0 0 (MQ below (va_Qi (fun (r : Int32) (u : TM × (Nat → Int64)) => r = o.1 ∧ u = o.2) (fun u t => cAt D dT A (cM a_this (u.1) ++ (cI_ dT (a_this 1) 100 g_this_text ++ (cJ_ dT a_p1 n_p1 (u.2)))) t) A) [.ref (a_this 0), .ref a_p1].toArray s 0 0 A) (F0 m 44 ls []) := by
    intro n_p1 g_this_text x2 g_this g_p1   H locs ls h hP hD hS hl
    unfold f_X9_readEntry_J44 at h
    refine lv_aload_n hx hb dX9_readEntry_44 rfl (lv_at hl 0 rfl) ?_
    refine lv_dup hx hb dX9_readEntry_45 rfl ?_
    refine gf_X9_151 (v := .int (M_out g_this)) hx hb hqs hown hK hP 0 rfl rfl dX9_readEntry_46 ?_
    refine lv_iconst (v := 1) hx hb dX9_readEntry_49 (by decide) ?_
    refine lv_iadd hx hb dX9_readEntry_50 ?_
    refine pf_X9_151 hx hb hqs hown hK hP hD hS 0 rfl rfl dX9_readEntry_51 (fun H locs hP hD hS => ?_)
    have hP : va_P D vwCl ([(a_this 0, .inr (8, [.int (M_refusal g_this), .ref (a_this 1), .int (M_size g_this), .ref (a_this 2), .ref (a_this 3), .ref (a_this 4), .int (M_acts g_this), .ref (a_this 5), .ref (a_this 6), .ref (a_this 7), .ref (a_this 8), .ref (a_this 9), .ref (a_this 10), .int (M_planned g_this), .int (M_spot g_this), .int ((M_out g_this) + (1 : Int32)), .ref (a_this 11)]))] ++ (cI_ dT (a_this 1) 100 g_this_text ++ (cJ_ dT a_p1 n_p1 g_p1))) H := hP
    have hD : va_D A ([(a_this 0, .inr (8, [.int (M_refusal g_this), .ref (a_this 1), .int (M_size g_this), .ref (a_this 2), .ref (a_this 3), .ref (a_this 4), .int (M_acts g_this), .ref (a_this 5), .ref (a_this 6), .ref (a_this 7), .ref (a_this 8), .ref (a_this 9), .ref (a_this 10), .int (M_planned g_this), .int (M_spot g_this), .int ((M_out g_this) + (1 : Int32)), .ref (a_this 11)]))] ++ (cI_ dT (a_this 1) 100 g_this_text ++ (cJ_ dT a_p1 n_p1 g_p1))) := hD
    refine L_f_X9_readEntry_J54 n_p1 g_this_text x2 (M_mk (M_refusal g_this) (M_size g_this) (M_acts g_this) (M_planned g_this) (M_spot g_this) ((M_out g_this) + (1 : Int32))) g_p1   _ _ _ h hP hD hS (lv_sub hl [1] rfl)
  unfold f_X9_readEntry at h
  refine lv_aload_n hx hb dX9_readEntry_0 rfl (lv_at hl 0 rfl) ?_
  refine lv_bipush (v := 116) hx hb dX9_readEntry_1 (by decide) ?_
  refine lv_bipush (v := 116) hx hb dX9_readEntry_3 (by decide) ?_
  obtain ⟨o1, e1, h⟩ := obind h
  have hPc := hP.sub (ws' := (cM a_this g_this ++ (cI_ dT (a_this 1) 100 g_this_text))) [0, 1] rfl
  have hDc := hD.sub (ws' := (cM a_this g_this ++ (cI_ dT (a_this 1) 100 g_this_text))) [0, 1] (by decide) rfl
  have hFc := va_free (wc := (cM a_this g_this ++ (cI_ dT (a_this 1) 100 g_this_text))) hD hS hA [0, 1] rfl
  refine cl_i (wr := (cJ_ dT a_p1 n_p1 g_p1)) (va_runV (As := [.int (116 : Int32), .int (116 : Int32)]) (rest := []) ⟨hx, hb, hml, hown, hts⟩ (c_X9_taken l hlt D dT a_this g_this g_this_text (116 : Int32) (116 : Int32) o1 e1 _) (cwV 2 hts (TB_V w_1154 w_1156 w_35 w_59 w_1157) rfl rfl rfl ⟨rfl, nd_X9_taken⟩ ⟨Nat.le_of_ble_eq_true rfl, Nat.le_of_ble_eq_true rfl⟩) (cPre.V hPc hDc hK hE hS hFc (va_recv hK hP (ci := 8) (q0 := 0) rfl rfl)) rfl rfl hl.1 rfl (lv_room (Nat.le_of_ble_eq_true rfl)) dX9_readEntry_5 ⟨Nat.zero_le _, Nat.zero_le _⟩) hP hD hS hFc [0, 1] [2] rfl rfl (by decide) (by decide) (fun r1 u1 H locs hw hP hD hS => ?_)
  obtain ⟨rfl, rfl⟩ := hw
  have hP : va_P D vwCl (cJ_ dT a_p1 n_p1 g_p1 ++ (cM a_this o1.2 ++ (cI_ dT (a_this 1) 100 g_this_text))) H := hP
  have hD : va_D A (cJ_ dT a_p1 n_p1 g_p1 ++ (cM a_this o1.2 ++ (cI_ dT (a_this 1) 100 g_this_text))) := hD
  refine lv_iconst (v := -1) hx hb dX9_readEntry_8 (by decide) ?_
  refine lv_icmp_eq (tgt := 65) hx hb dX9_readEntry_9 (by decide) (fun c2 => ?_) (fun c2 => ?_)
  · replace h := iteT c2 h
    refine lv_aload_n hx hb dX9_readEntry_65 rfl (lv_at hl 0 rfl) ?_
    refine lv_bipush (v := 112) hx hb dX9_readEntry_66 (by decide) ?_
    refine lv_bipush (v := 112) hx hb dX9_readEntry_68 (by decide) ?_
    obtain ⟨o3, e3, h⟩ := obind h
    have hPc := hP.sub (ws' := (cM a_this o1.2 ++ (cI_ dT (a_this 1) 100 g_this_text))) [1, 2] rfl
    have hDc := hD.sub (ws' := (cM a_this o1.2 ++ (cI_ dT (a_this 1) 100 g_this_text))) [1, 2] (by decide) rfl
    have hFc := va_free (wc := (cM a_this o1.2 ++ (cI_ dT (a_this 1) 100 g_this_text))) hD hS hA [1, 2] rfl
    refine cl_i (wr := (cJ_ dT a_p1 n_p1 g_p1)) (va_runV (As := [.int (112 : Int32), .int (112 : Int32)]) (rest := []) ⟨hx, hb, hml, hown, hts⟩ (c_X9_taken l hlt D dT a_this o1.2 g_this_text (112 : Int32) (112 : Int32) o3 e3 _) (cwV 2 hts (TB_V w_1154 w_1156 w_35 w_59 w_1157) rfl rfl rfl ⟨rfl, nd_X9_taken⟩ ⟨Nat.le_of_ble_eq_true rfl, Nat.le_of_ble_eq_true rfl⟩) (cPre.V hPc hDc hK hE hS hFc (va_recv hK hP (ci := 8) (q0 := 1) rfl rfl)) rfl rfl hl.1 rfl (lv_room (Nat.le_of_ble_eq_true rfl)) dX9_readEntry_70 ⟨Nat.zero_le _, Nat.zero_le _⟩) hP hD hS hFc [1, 2] [0] rfl rfl (by decide) (by decide) (fun r3 u3 H locs hw hP hD hS => ?_)
    obtain ⟨rfl, rfl⟩ := hw
    have hP : va_P D vwCl (cJ_ dT a_p1 n_p1 g_p1 ++ (cM a_this o3.2 ++ (cI_ dT (a_this 1) 100 g_this_text))) H := hP
    have hD : va_D A (cJ_ dT a_p1 n_p1 g_p1 ++ (cM a_this o3.2 ++ (cI_ dT (a_this 1) 100 g_this_text))) := hD
    refine lv_iconst (v := -1) hx hb dX9_readEntry_73 (by decide) ?_
    refine lv_icmp_ne (tgt := 79) hx hb dX9_readEntry_74 (by decide) (fun c4 => ?_) (fun c4 => ?_)
    · replace h := iteF c4 h
      refine lv_aload_n hx hb dX9_readEntry_79 rfl (lv_at hl 0 rfl) ?_
      refine lv_bipush (v := 48) hx hb dX9_readEntry_80 (by decide) ?_
      refine lv_bipush (v := 54) hx hb dX9_readEntry_82 (by decide) ?_
      obtain ⟨o5, e5, h⟩ := obind h
      have hPc := hP.sub (ws' := (cM a_this o3.2 ++ (cI_ dT (a_this 1) 100 g_this_text))) [1, 2] rfl
      have hDc := hD.sub (ws' := (cM a_this o3.2 ++ (cI_ dT (a_this 1) 100 g_this_text))) [1, 2] (by decide) rfl
      have hFc := va_free (wc := (cM a_this o3.2 ++ (cI_ dT (a_this 1) 100 g_this_text))) hD hS hA [1, 2] rfl
      refine cl_i (wr := (cJ_ dT a_p1 n_p1 g_p1)) (va_runV (As := [.int (48 : Int32), .int (54 : Int32)]) (rest := []) ⟨hx, hb, hml, hown, hts⟩ (c_X9_taken l hlt D dT a_this o3.2 g_this_text (48 : Int32) (54 : Int32) o5 e5 _) (cwV 2 hts (TB_V w_1154 w_1156 w_35 w_59 w_1157) rfl rfl rfl ⟨rfl, nd_X9_taken⟩ ⟨Nat.le_of_ble_eq_true rfl, Nat.le_of_ble_eq_true rfl⟩) (cPre.V hPc hDc hK hE hS hFc (va_recv hK hP (ci := 8) (q0 := 1) rfl rfl)) rfl rfl hl.1 rfl (lv_room (Nat.le_of_ble_eq_true rfl)) dX9_readEntry_84 ⟨Nat.zero_le _, Nat.zero_le _⟩) hP hD hS hFc [1, 2] [0] rfl rfl (by decide) (by decide) (fun r5 u5 H locs hw hP hD hS => ?_)
      obtain ⟨rfl, rfl⟩ := hw
      have hP : va_P D vwCl (cJ_ dT a_p1 n_p1 g_p1 ++ (cM a_this o5.2 ++ (cI_ dT (a_this 1) 100 g_this_text))) H := hP
      have hD : va_D A (cJ_ dT a_p1 n_p1 g_p1 ++ (cM a_this o5.2 ++ (cI_ dT (a_this 1) 100 g_this_text))) := hD
      refine lv_istore_n (lv' := [(2, .int o5.1), (0, .ref (a_this 0)), (1, .ref a_p1)]) hx hb dX9_readEntry_87 rfl hl (by decide) rfl (fun ls hl => ?_)
      refine lv_iload_n hx hb dX9_readEntry_88 rfl (lv_at hl 0 rfl) ?_
      refine lv_iconst (v := -1) hx hb dX9_readEntry_89 (by decide) ?_
      refine lv_icmp_eq (tgt := 104) hx hb dX9_readEntry_90 (by decide) (fun c6 => ?_) (fun c6 => ?_)
      · replace h := iteT c6 h
        refine lv_iconst (v := 0) hx hb dX9_readEntry_104 (by decide) ?_
        have hP := hP.sub (ws' := (cM a_this o5.2 ++ (cI_ dT (a_this 1) 100 g_this_text ++ (cJ_ dT a_p1 n_p1 g_p1)))) [1, 2, 0] rfl
        have hD := hD.sub (ws' := (cM a_this o5.2 ++ (cI_ dT (a_this 1) 100 g_this_text ++ (cJ_ dT a_p1 n_p1 g_p1)))) [1, 2, 0] (by decide) rfl
        exact rt_z hx hb hr hlk hK hS ((o5.2, g_p1) : TM × (Nat → Int64)) (ret2 h) (by decide) hP hD dX9_readEntry_105
      · replace h := iteF c6 h
        refine lv_aload_n hx hb dX9_readEntry_93 rfl (lv_at hl 1 rfl) ?_
        obtain ⟨o7, e7, h⟩ := obind h
        have hPc := hP.sub (ws' := (cM a_this o5.2 ++ (cI_ dT (a_this 1) 100 g_this_text))) [1, 2] rfl
        have hDc := hD.sub (ws' := (cM a_this o5.2 ++ (cI_ dT (a_this 1) 100 g_this_text))) [1, 2] (by decide) rfl
        have hFc := va_free (wc := (cM a_this o5.2 ++ (cI_ dT (a_this 1) 100 g_this_text))) hD hS hA [1, 2] rfl
        refine cl_i (wr := (cJ_ dT a_p1 n_p1 g_p1)) (va_runV (As := []) (rest := []) ⟨hx, hb, hml, hown, hts⟩ (c_X9_sign l hlt D dT a_this o5.2 g_this_text o7 e7 _) (cwV 0 hts (TB_V w_1148 w_1150 w_34 w_59 w_1151) rfl rfl rfl ⟨rfl, nd_X9_sign⟩ ⟨Nat.le_of_ble_eq_true rfl, Nat.le_of_ble_eq_true rfl⟩) (cPre.V hPc hDc hK hE hS hFc (va_recv hK hP (ci := 8) (q0 := 1) rfl rfl)) rfl rfl hl.1 rfl (lv_room (Nat.le_of_ble_eq_true rfl)) dX9_readEntry_94 ⟨Nat.zero_le _, Nat.zero_le _⟩) hP hD hS hFc [1, 2] [0] rfl rfl (by decide) (by decide) (fun r7 u7 H locs hw hP hD hS => ?_)
        obtain ⟨rfl, rfl⟩ := hw
        have hP : va_P D vwCl (cJ_ dT a_p1 n_p1 g_p1 ++ (cM a_this o5.2 ++ (cI_ dT (a_this 1) 100 g_this_text))) H := hP
        have hD : va_D A (cJ_ dT a_p1 n_p1 g_p1 ++ (cM a_this o5.2 ++ (cI_ dT (a_this 1) 100 g_this_text))) := hD
        refine lv_bipush (v := 48) hx hb dX9_readEntry_97 (by decide) ?_
        refine lv_iload_n hx hb dX9_readEntry_99 rfl (lv_at hl 0 rfl) ?_
        refine lv_iadd hx hb dX9_readEntry_100 ?_
        refine lv_icmp_ne (tgt := 106) hx hb dX9_readEntry_101 (by decide) (fun c8 => ?_) (fun c8 => ?_)
        · replace h := iteF c8 h
          refine lv_aload_n hx hb dX9_readEntry_106 rfl (lv_at hl 1 rfl) ?_
          refine lv_bipush (v := 48) hx hb dX9_readEntry_107 (by decide) ?_
          refine lv_bipush (v := 54) hx hb dX9_readEntry_109 (by decide) ?_
          obtain ⟨o9, e9, h⟩ := obind h
          have hPc := hP.sub (ws' := (cM a_this o5.2 ++ (cI_ dT (a_this 1) 100 g_this_text))) [1, 2] rfl
          have hDc := hD.sub (ws' := (cM a_this o5.2 ++ (cI_ dT (a_this 1) 100 g_this_text))) [1, 2] (by decide) rfl
          have hFc := va_free (wc := (cM a_this o5.2 ++ (cI_ dT (a_this 1) 100 g_this_text))) hD hS hA [1, 2] rfl
          refine cl_i (wr := (cJ_ dT a_p1 n_p1 g_p1)) (va_runV (As := [.int (48 : Int32), .int (54 : Int32)]) (rest := []) ⟨hx, hb, hml, hown, hts⟩ (c_X9_taken l hlt D dT a_this o5.2 g_this_text (48 : Int32) (54 : Int32) o9 e9 _) (cwV 2 hts (TB_V w_1154 w_1156 w_35 w_59 w_1157) rfl rfl rfl ⟨rfl, nd_X9_taken⟩ ⟨Nat.le_of_ble_eq_true rfl, Nat.le_of_ble_eq_true rfl⟩) (cPre.V hPc hDc hK hE hS hFc (va_recv hK hP (ci := 8) (q0 := 1) rfl rfl)) rfl rfl hl.1 rfl (lv_room (Nat.le_of_ble_eq_true rfl)) dX9_readEntry_111 ⟨Nat.zero_le _, Nat.zero_le _⟩) hP hD hS hFc [1, 2] [0] rfl rfl (by decide) (by decide) (fun r9 u9 H locs hw hP hD hS => ?_)
          obtain ⟨rfl, rfl⟩ := hw
          have hP : va_P D vwCl (cJ_ dT a_p1 n_p1 g_p1 ++ (cM a_this o9.2 ++ (cI_ dT (a_this 1) 100 g_this_text))) H := hP
          have hD : va_D A (cJ_ dT a_p1 n_p1 g_p1 ++ (cM a_this o9.2 ++ (cI_ dT (a_this 1) 100 g_this_text))) := hD
          refine lv_istore_n (lv' := [(3, .int o9.1), (2, .int o5.1), (0, .ref (a_this 0)), (1, .ref a_p1)]) hx hb dX9_readEntry_114 rfl hl (by decide) rfl (fun ls hl => ?_)
          refine lv_iload_n hx hb dX9_readEntry_115 rfl (lv_at hl 0 rfl) ?_
          refine lv_iconst (v := -1) hx hb dX9_readEntry_116 (by decide) ?_
          refine lv_icmp_ne (tgt := 124) hx hb dX9_readEntry_117 (by decide) (fun c10 => ?_) (fun c10 => ?_)
          · replace h := iteF c10 h
            refine lv_aload_n hx hb dX9_readEntry_124 rfl (lv_at hl 2 rfl) ?_
            refine lv_sipush (v := 1000) hx hb dX9_readEntry_125 (by decide) ?_
            obtain ⟨o11, e11, h⟩ := obind h
            have hPc := hP.sub (ws' := (cM a_this o9.2 ++ (cI_ dT (a_this 1) 100 g_this_text))) [1, 2] rfl
            have hDc := hD.sub (ws' := (cM a_this o9.2 ++ (cI_ dT (a_this 1) 100 g_this_text))) [1, 2] (by decide) rfl
            have hFc := va_free (wc := (cM a_this o9.2 ++ (cI_ dT (a_this 1) 100 g_this_text))) hD hS hA [1, 2] rfl
            refine cl_i (wr := (cJ_ dT a_p1 n_p1 g_p1)) (va_runV (As := [.int (1000 : Int32)]) (rest := []) ⟨hx, hb, hml, hown, hts⟩ (c_X9_number l hlt D dT a_this o9.2 g_this_text (1000 : Int32) o11 e11 _) (cwV 1 hts (TB_V w_1166 w_1168 w_38 w_59 w_1169) rfl rfl rfl ⟨rfl, nd_X9_number⟩ ⟨Nat.le_of_ble_eq_true rfl, Nat.le_of_ble_eq_true rfl⟩) (cPre.V hPc hDc hK hE hS hFc (va_recv hK hP (ci := 8) (q0 := 1) rfl rfl)) rfl rfl hl.1 rfl (lv_room (Nat.le_of_ble_eq_true rfl)) dX9_readEntry_128 ⟨Nat.zero_le _, Nat.zero_le _⟩) hP hD hS hFc [1, 2] [0] rfl rfl (by decide) (by decide) (fun r11 u11 H locs hw hP hD hS => ?_)
            obtain ⟨rfl, rfl⟩ := hw
            have hP : va_P D vwCl (cJ_ dT a_p1 n_p1 g_p1 ++ (cM a_this o11.2 ++ (cI_ dT (a_this 1) 100 g_this_text))) H := hP
            have hD : va_D A (cJ_ dT a_p1 n_p1 g_p1 ++ (cM a_this o11.2 ++ (cI_ dT (a_this 1) 100 g_this_text))) := hD
            have hP := hP.sub (ws' := (cM a_this o11.2 ++ (cI_ dT (a_this 1) 100 g_this_text ++ (cJ_ dT a_p1 n_p1 g_p1)))) [1, 2, 0] rfl
            have hD := hD.sub (ws' := (cM a_this o11.2 ++ (cI_ dT (a_this 1) 100 g_this_text ++ (cJ_ dT a_p1 n_p1 g_p1)))) [1, 2, 0] (by decide) rfl
            refine L_f_X9_readEntry_J131 n_p1 g_this_text o5.1 o9.1 o11.1 o11.2 g_p1   _ _ _ h hP hD hS (lv_sub hl [2, 3, 1, 0] rfl)
          · replace h := iteT c10 h
            refine lv_iconst (v := -1) hx hb dX9_readEntry_120 (by decide) ?_
            refine lv_goto (tgt := 131) hx hb dX9_readEntry_121 (by decide) ?_
            have hP := hP.sub (ws' := (cM a_this o9.2 ++ (cI_ dT (a_this 1) 100 g_this_text ++ (cJ_ dT a_p1 n_p1 g_p1)))) [1, 2, 0] rfl
            have hD := hD.sub (ws' := (cM a_this o9.2 ++ (cI_ dT (a_this 1) 100 g_this_text ++ (cJ_ dT a_p1 n_p1 g_p1)))) [1, 2, 0] (by decide) rfl
            refine L_f_X9_readEntry_J131 n_p1 g_this_text o5.1 o9.1 (-1 : Int32) o9.2 g_p1   _ _ _ h hP hD hS (lv_sub hl [2, 3, 1, 0] rfl)
        · replace h := iteT c8 h
          refine lv_iconst (v := 0) hx hb dX9_readEntry_104 (by decide) ?_
          have hP := hP.sub (ws' := (cM a_this o5.2 ++ (cI_ dT (a_this 1) 100 g_this_text ++ (cJ_ dT a_p1 n_p1 g_p1)))) [1, 2, 0] rfl
          have hD := hD.sub (ws' := (cM a_this o5.2 ++ (cI_ dT (a_this 1) 100 g_this_text ++ (cJ_ dT a_p1 n_p1 g_p1)))) [1, 2, 0] (by decide) rfl
          exact rt_z hx hb hr hlk hK hS ((o5.2, g_p1) : TM × (Nat → Int64)) (ret2 h) (by decide) hP hD dX9_readEntry_105
    · replace h := iteT c4 h
      refine lv_iconst (v := 0) hx hb dX9_readEntry_77 (by decide) ?_
      have hP := hP.sub (ws' := (cM a_this o3.2 ++ (cI_ dT (a_this 1) 100 g_this_text ++ (cJ_ dT a_p1 n_p1 g_p1)))) [1, 2, 0] rfl
      have hD := hD.sub (ws' := (cM a_this o3.2 ++ (cI_ dT (a_this 1) 100 g_this_text ++ (cJ_ dT a_p1 n_p1 g_p1)))) [1, 2, 0] (by decide) rfl
      exact rt_z hx hb hr hlk hK hS ((o3.2, g_p1) : TM × (Nat → Int64)) (ret2 h) (by decide) hP hD dX9_readEntry_78
  · replace h := iteF c2 h
    refine lv_aload_n hx hb dX9_readEntry_12 rfl (lv_at hl 0 rfl) ?_
    refine lv_sipush (v := 9999) hx hb dX9_readEntry_13 (by decide) ?_
    obtain ⟨o23, e23, h⟩ := obind h
    have hPc := hP.sub (ws' := (cM a_this o1.2 ++ (cI_ dT (a_this 1) 100 g_this_text))) [1, 2] rfl
    have hDc := hD.sub (ws' := (cM a_this o1.2 ++ (cI_ dT (a_this 1) 100 g_this_text))) [1, 2] (by decide) rfl
    have hFc := va_free (wc := (cM a_this o1.2 ++ (cI_ dT (a_this 1) 100 g_this_text))) hD hS hA [1, 2] rfl
    refine cl_i (wr := (cJ_ dT a_p1 n_p1 g_p1)) (va_runV (As := [.int (9999 : Int32)]) (rest := []) ⟨hx, hb, hml, hown, hts⟩ (c_X9_number l hlt D dT a_this o1.2 g_this_text (9999 : Int32) o23 e23 _) (cwV 1 hts (TB_V w_1166 w_1168 w_38 w_59 w_1169) rfl rfl rfl ⟨rfl, nd_X9_number⟩ ⟨Nat.le_of_ble_eq_true rfl, Nat.le_of_ble_eq_true rfl⟩) (cPre.V hPc hDc hK hE hS hFc (va_recv hK hP (ci := 8) (q0 := 1) rfl rfl)) rfl rfl hl.1 rfl (lv_room (Nat.le_of_ble_eq_true rfl)) dX9_readEntry_16 ⟨Nat.zero_le _, Nat.zero_le _⟩) hP hD hS hFc [1, 2] [0] rfl rfl (by decide) (by decide) (fun r23 u23 H locs hw hP hD hS => ?_)
    obtain ⟨rfl, rfl⟩ := hw
    have hP : va_P D vwCl (cJ_ dT a_p1 n_p1 g_p1 ++ (cM a_this o23.2 ++ (cI_ dT (a_this 1) 100 g_this_text))) H := hP
    have hD : va_D A (cJ_ dT a_p1 n_p1 g_p1 ++ (cM a_this o23.2 ++ (cI_ dT (a_this 1) 100 g_this_text))) := hD
    refine lv_istore_n (lv' := [(2, .int o23.1), (0, .ref (a_this 0)), (1, .ref a_p1)]) hx hb dX9_readEntry_19 rfl hl (by decide) rfl (fun ls hl => ?_)
    refine lv_iload_n hx hb dX9_readEntry_20 rfl (lv_at hl 0 rfl) ?_
    refine lv_iconst (v := -1) hx hb dX9_readEntry_21 (by decide) ?_
    refine lv_icmp_eq (tgt := 44) hx hb dX9_readEntry_22 (by decide) (fun c24 => ?_) (fun c24 => ?_)
    · replace h := iteT c24 h
      have hP := hP.sub (ws' := (cM a_this o23.2 ++ (cI_ dT (a_this 1) 100 g_this_text ++ (cJ_ dT a_p1 n_p1 g_p1)))) [1, 2, 0] rfl
      have hD := hD.sub (ws' := (cM a_this o23.2 ++ (cI_ dT (a_this 1) 100 g_this_text ++ (cJ_ dT a_p1 n_p1 g_p1)))) [1, 2, 0] (by decide) rfl
      refine L_f_X9_readEntry_J44 n_p1 g_this_text o23.1 o23.2 g_p1   _ _ _ h hP hD hS (lv_sub hl [1, 0] rfl)
    · replace h := iteF c24 h
      refine lv_aload_n hx hb dX9_readEntry_25 rfl (lv_at hl 2 rfl) ?_
      refine lv_iconst (v := 0) hx hb dX9_readEntry_26 (by decide) ?_
      obtain ⟨g26, h⟩ := chk h
      refine va_lald hx hb hK hP 0 1 rfl rfl (inb_in g26) dX9_readEntry_27 ?_
      refine lv_ldc2 (v := 7) hx hb hown (hqs _ w_1171) dX9_readEntry_28 ?_
      refine W.lcmp hx hb dX9_readEntry_31 ?_
      refine lv_if_ge (tgt := 44) hx hb dX9_readEntry_32 (by decide) (fun c27 => ?_) (fun c27 => ?_)
      · replace h := iteT c27 h
        have hP := hP.sub (ws' := (cM a_this o23.2 ++ (cI_ dT (a_this 1) 100 g_this_text ++ (cJ_ dT a_p1 n_p1 g_p1)))) [1, 2, 0] rfl
        have hD := hD.sub (ws' := (cM a_this o23.2 ++ (cI_ dT (a_this 1) 100 g_this_text ++ (cJ_ dT a_p1 n_p1 g_p1)))) [1, 2, 0] (by decide) rfl
        refine L_f_X9_readEntry_J44 n_p1 g_this_text o23.1 o23.2 g_p1   _ _ _ h hP hD hS (lv_sub hl [1, 0] rfl)
      · replace h := iteF c27 h
        refine lv_aload_n hx hb dX9_readEntry_35 rfl (lv_at hl 2 rfl) ?_
        refine lv_iload_n hx hb dX9_readEntry_36 rfl (lv_at hl 0 rfl) ?_
        obtain ⟨o28, e28, h⟩ := obind h
        have hPc := hP.sub (ws' := (cJ_ dT a_p1 n_p1 g_p1)) [0] rfl
        have hDc := hD.sub (ws' := (cJ_ dT a_p1 n_p1 g_p1)) [0] (by decide) rfl
        have hFc := va_free (wc := (cJ_ dT a_p1 n_p1 g_p1)) hD hS hA [0] rfl
        refine cl_i (wr := (cM a_this o23.2 ++ (cI_ dT (a_this 1) 100 g_this_text))) (va_runS (As := [.ref a_p1, .int o23.1]) (rest := []) ⟨hx, hb, hml, hown, hts⟩ (c_X9_addOn l hlt D dT a_p1 n_p1 g_p1 o23.1 o28 e28 _) (va_cwS 2 hts (TB_S w_1172 w_1173 w_59 w_1174) rfl rfl rfl nd_X9_addOn ⟨Nat.le_of_ble_eq_true rfl, Nat.le_of_ble_eq_true rfl⟩) (cPre.S hPc hDc hK hE hS hFc) rfl rfl hl.1 rfl (lv_room (Nat.le_of_ble_eq_true rfl)) dX9_readEntry_37 ⟨Nat.zero_le _, Nat.zero_le _⟩) hP hD hS hFc [0] [1, 2] rfl rfl (by decide) (by decide) (fun r28 u28 H locs hw hP hD hS => ?_)
        obtain ⟨rfl, rfl⟩ := hw
        have hP : va_P D vwCl (cM a_this o23.2 ++ (cI_ dT (a_this 1) 100 g_this_text ++ (cJ_ dT a_p1 n_p1 o28.2))) H := hP
        have hD : va_D A (cM a_this o23.2 ++ (cI_ dT (a_this 1) 100 g_this_text ++ (cJ_ dT a_p1 n_p1 o28.2))) := hD
        refine lv_pop hx hb dX9_readEntry_40 rfl ?_
        refine lv_goto (tgt := 54) hx hb dX9_readEntry_41 (by decide) ?_
        refine L_f_X9_readEntry_J54 n_p1 g_this_text o23.1 o23.2 o28.2   _ _ _ h hP hD hS (lv_sub hl [0] rfl)

