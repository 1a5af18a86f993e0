def f_X7_takeFrom (g_this : TW) (g_p1 : TW) : Option (Unit × (TW)) :=
  (some ((), (W_mk (W_tables g_p1) (W_weeks g_p1) (W_runs g_p1) (W_surprises g_p1) (va_cpy (W_sums g_p1) (W_sums g_this) (0 : Int32).toNatClampNeg (0 : Int32).toNatClampNeg (4 : Int32).toNatClampNeg) (va_cpy (W_settings g_p1) (W_settings g_this) (0 : Int32).toNatClampNeg (0 : Int32).toNatClampNeg (3 : Int32).toNatClampNeg) (va_cpy (W_sizes g_p1) (W_sizes g_this) (0 : Int32).toNatClampNeg (0 : Int32).toNatClampNeg (7 : Int32).toNatClampNeg) (va_cpy (W_guesses g_p1) (W_guesses g_this) (0 : Int32).toNatClampNeg (0 : Int32).toNatClampNeg (21 : Int32).toNatClampNeg) (va_cpy (W_shares g_p1) (W_shares g_this) (0 : Int32).toNatClampNeg (0 : Int32).toNatClampNeg (21 : Int32).toNatClampNeg) (va_cpy (W_memories g_p1) (W_memories g_this) (0 : Int32).toNatClampNeg (0 : Int32).toNatClampNeg (21 : Int32).toNatClampNeg) (va_cpy (W_ages g_p1) (W_ages g_this) (0 : Int32).toNatClampNeg (0 : Int32).toNatClampNeg (21 : Int32).toNatClampNeg) (va_cpy (W_surprisesOf g_p1) (W_surprisesOf g_this) (0 : Int32).toNatClampNeg (0 : Int32).toNatClampNeg (21 : Int32).toNatClampNeg) (va_cpy (W_told g_p1) (W_told g_this) (0 : Int32).toNatClampNeg (0 : Int32).toNatClampNeg (40 : Int32).toNatClampNeg))))
set_option maxHeartbeats 8000000 in
set_option maxRecDepth 100000 in
theorem c_X7_takeFrom (l : Launch) (hlt : l.stackTraces = false) (D : va_G) (dT : Nat → ClassId) (a_this : Nat → Nat) (a_p1 : Nat → Nat) (g_this : TW) (g_p1 : TW) (o : (Unit × (TW))) (h : f_X7_takeFrom g_this g_p1 = some o) (sz : Nat) : Met l yX7_takeFrom (WSm yX7_takeFrom cX7_takeFrom 2 none) { frames := 1, cells := 0, slots := 0, locals := 48 } (va_Pc [.ref (a_this 0), .ref (a_p1 0)] (cPre D dT (cW dT a_this g_this ++ (cW dT a_p1 g_p1)) sz)) (va_Qv (fun (u : TW) => u = o.2) (fun u t => cAt D dT (va_A (cW dT a_this g_this ++ (cW dT a_p1 g_p1)) sz) (cW dT a_this u ++ (cW dT a_p1 g_p1)) t) (va_A (cW dT a_this g_this ++ (cW dT a_p1 g_p1)) sz)) 0 0 (va_A (cW dT a_this g_this ++ (cW dT a_p1 g_p1)) sz) := by
  refine mStart (WS := (cW dT a_this g_this ++ (cW dT a_p1 g_p1))) (Qc := fun A => va_Qv (fun (u : TW) => u = o.2) (fun u t => cAt D dT A (cW dT a_this u ++ (cW dT a_p1 g_p1)) t) A) RX7 rfl (by decide) (Nat.le_of_ble_eq_true rfl) ?_ sz
  intro p e s m below meth c A ls hx hb hml hr hlk hnm hts hqs hown hE hA hK hP hD hS hl
  have hl : lv_has ls 2 [(0, .ref (a_this 0)), (1, .ref (a_p1 0))] := hl
  unfold f_X7_takeFrom at h
  refine lv_aload_n hx hb dX7_takeFrom_0 rfl (lv_at hl 0 rfl) ?_
  refine lv_aload_n hx hb dX7_takeFrom_1 rfl (lv_at hl 1 rfl) ?_
  refine gf_X7_48 (v := .int (W_tables g_p1)) hx hb hqs hown hK hP 10 rfl rfl dX7_takeFrom_2 ?_
  refine pf_X7_48 hx hb hqs hown hK hP hD hS 0 rfl rfl dX7_takeFrom_5 (fun H locs hP hD hS => ?_)
  have hP : va_P D vwCl ([(a_this 0, .inr (6, [.int (W_tables g_p1), .int (W_weeks g_this), .int (W_runs g_this), .int (W_surprises g_this), .ref (a_this 1), .ref (a_this 2), .ref (a_this 3), .ref (a_this 4), .ref (a_this 5), .ref (a_this 6), .ref (a_this 7), .ref (a_this 8), .ref (a_this 9)])), (a_this 1, .inl (dT 1, 4, .inr (.inl (W_sums g_this)))), (a_this 2, .inl (dT 0, 3, .inl (W_settings g_this))), (a_this 3, .inl (dT 0, 7, .inl (W_sizes g_this))), (a_this 4, .inl (dT 0, 21, .inl (W_guesses g_this))), (a_this 5, .inl (dT 0, 21, .inl (W_shares g_this))), (a_this 6, .inl (dT 0, 21, .inl (W_memories g_this))), (a_this 7, .inl (dT 0, 21, .inl (W_ages g_this))), (a_this 8, .inl (dT 0, 21, .inl (W_surprisesOf g_this))), (a_this 9, .inl (dT 0, 40, .inl (W_told g_this)))] ++ (cW dT a_p1 g_p1)) H := hP
  have hD : va_D A ([(a_this 0, .inr (6, [.int (W_tables g_p1), .int (W_weeks g_this), .int (W_runs g_this), .int (W_surprises g_this), .ref (a_this 1), .ref (a_this 2), .ref (a_this 3), .ref (a_this 4), .ref (a_this 5), .ref (a_this 6), .ref (a_this 7), .ref (a_this 8), .ref (a_this 9)])), (a_this 1, .inl (dT 1, 4, .inr (.inl (W_sums g_this)))), (a_this 2, .inl (dT 0, 3, .inl (W_settings g_this))), (a_this 3, .inl (dT 0, 7, .inl (W_sizes g_this))), (a_this 4, .inl (dT 0, 21, .inl (W_guesses g_this))), (a_this 5, .inl (dT 0, 21, .inl (W_shares g_this))), (a_this 6, .inl (dT 0, 21, .inl (W_memories g_this))), (a_this 7, .inl (dT 0, 21, .inl (W_ages g_this))), (a_this 8, .inl (dT 0, 21, .inl (W_surprisesOf g_this))), (a_this 9, .inl (dT 0, 40, .inl (W_told g_this)))] ++ (cW dT a_p1 g_p1)) := hD
  refine lv_aload_n hx hb dX7_takeFrom_8 rfl (lv_at hl 0 rfl) ?_
  refine lv_aload_n hx hb dX7_takeFrom_9 rfl (lv_at hl 1 rfl) ?_
  refine gf_X7_52 (v := .int (W_weeks g_p1)) hx hb hqs hown hK hP 10 rfl rfl dX7_takeFrom_10 ?_
  refine pf_X7_52 hx hb hqs hown hK hP hD hS 0 rfl rfl dX7_takeFrom_13 (fun H locs hP hD hS => ?_)
  have hP : va_P D vwCl ([(a_this 0, .inr (6, [.int (W_tables g_p1), .int (W_weeks g_p1), .int (W_runs g_this), .int (W_surprises g_this), .ref (a_this 1), .ref (a_this 2), .ref (a_this 3), .ref (a_this 4), .ref (a_this 5), .ref (a_this 6), .ref (a_this 7), .ref (a_this 8), .ref (a_this 9)])), (a_this 1, .inl (dT 1, 4, .inr (.inl (W_sums g_this)))), (a_this 2, .inl (dT 0, 3, .inl (W_settings g_this))), (a_this 3, .inl (dT 0, 7, .inl (W_sizes g_this))), (a_this 4, .inl (dT 0, 21, .inl (W_guesses g_this))), (a_this 5, .inl (dT 0, 21, .inl (W_shares g_this))), (a_this 6, .inl (dT 0, 21, .inl (W_memories g_this))), (a_this 7, .inl (dT 0, 21, .inl (W_ages g_this))), (a_this 8, .inl (dT 0, 21, .inl (W_surprisesOf g_this))), (a_this 9, .inl (dT 0, 40, .inl (W_told g_this)))] ++ (cW dT a_p1 g_p1)) H := hP
  have hD : va_D A ([(a_this 0, .inr (6, [.int (W_tables g_p1), .int (W_weeks g_p1), .int (W_runs g_this), .int (W_surprises g_this), .ref (a_this 1), .ref (a_this 2), .ref (a_this 3), .ref (a_this 4), .ref (a_this 5), .ref (a_this 6), .ref (a_this 7), .ref (a_this 8), .ref (a_this 9)])), (a_this 1, .inl (dT 1, 4, .inr (.inl (W_sums g_this)))), (a_this 2, .inl (dT 0, 3, .inl (W_settings g_this))), (a_this 3, .inl (dT 0, 7, .inl (W_sizes g_this))), (a_this 4, .inl (dT 0, 21, .inl (W_guesses g_this))), (a_this 5, .inl (dT 0, 21, .inl (W_shares g_this))), (a_this 6, .inl (dT 0, 21, .inl (W_memories g_this))), (a_this 7, .inl (dT 0, 21, .inl (W_ages g_this))), (a_this 8, .inl (dT 0, 21, .inl (W_surprisesOf g_this))), (a_this 9, .inl (dT 0, 40, .inl (W_told g_this)))] ++ (cW dT a_p1 g_p1)) := hD
  refine lv_aload_n hx hb dX7_takeFrom_16 rfl (lv_at hl 0 rfl) ?_
  refine lv_aload_n hx hb dX7_takeFrom_17 rfl (lv_at hl 1 rfl) ?_
  refine gf_X7_55 (v := .int (W_runs g_p1)) hx hb hqs hown hK hP 10 rfl rfl dX7_takeFrom_18 ?_
  refine pf_X7_55 hx hb hqs hown hK hP hD hS 0 rfl rfl dX7_takeFrom_21 (fun H locs hP hD hS => ?_)
  have hP : va_P D vwCl ([(a_this 0, .inr (6, [.int (W_tables g_p1), .int (W_weeks g_p1), .int (W_runs g_p1), .int (W_surprises g_this), .ref (a_this 1), .ref (a_this 2), .ref (a_this 3), .ref (a_this 4), .ref (a_this 5), .ref (a_this 6), .ref (a_this 7), .ref (a_this 8), .ref (a_this 9)])), (a_this 1, .inl (dT 1, 4, .inr (.inl (W_sums g_this)))), (a_this 2, .inl (dT 0, 3, .inl (W_settings g_this))), (a_this 3, .inl (dT 0, 7, .inl (W_sizes g_this))), (a_this 4, .inl (dT 0, 21, .inl (W_guesses g_this))), (a_this 5, .inl (dT 0, 21, .inl (W_shares g_this))), (a_this 6, .inl (dT 0, 21, .inl (W_memories g_this))), (a_this 7, .inl (dT 0, 21, .inl (W_ages g_this))), (a_this 8, .inl (dT 0, 21, .inl (W_surprisesOf g_this))), (a_this 9, .inl (dT 0, 40, .inl (W_told g_this)))] ++ (cW dT a_p1 g_p1)) H := hP
  have hD : va_D A ([(a_this 0, .inr (6, [.int (W_tables g_p1), .int (W_weeks g_p1), .int (W_runs g_p1), .int (W_surprises g_this), .ref (a_this 1), .ref (a_this 2), .ref (a_this 3), .ref (a_this 4), .ref (a_this 5), .ref (a_this 6), .ref (a_this 7), .ref (a_this 8), .ref (a_this 9)])), (a_this 1, .inl (dT 1, 4, .inr (.inl (W_sums g_this)))), (a_this 2, .inl (dT 0, 3, .inl (W_settings g_this))), (a_this 3, .inl (dT 0, 7, .inl (W_sizes g_this))), (a_this 4, .inl (dT 0, 21, .inl (W_guesses g_this))), (a_this 5, .inl (dT 0, 21, .inl (W_shares g_this))), (a_this 6, .inl (dT 0, 21, .inl (W_memories g_this))), (a_this 7, .inl (dT 0, 21, .inl (W_ages g_this))), (a_this 8, .inl (dT 0, 21, .inl (W_surprisesOf g_this))), (a_this 9, .inl (dT 0, 40, .inl (W_told g_this)))] ++ (cW dT a_p1 g_p1)) := hD
  refine lv_aload_n hx hb dX7_takeFrom_24 rfl (lv_at hl 0 rfl) ?_
  refine lv_aload_n hx hb dX7_takeFrom_25 rfl (lv_at hl 1 rfl) ?_
  refine gf_X7_58 (v := .int (W_surprises g_p1)) hx hb hqs hown hK hP 10 rfl rfl dX7_takeFrom_26 ?_
  refine pf_X7_58 hx hb hqs hown hK hP hD hS 0 rfl rfl dX7_takeFrom_29 (fun H locs hP hD hS => ?_)
  have hP : va_P D vwCl ([(a_this 0, .inr (6, [.int (W_tables g_p1), .int (W_weeks g_p1), .int (W_runs g_p1), .int (W_surprises g_p1), .ref (a_this 1), .ref (a_this 2), .ref (a_this 3), .ref (a_this 4), .ref (a_this 5), .ref (a_this 6), .ref (a_this 7), .ref (a_this 8), .ref (a_this 9)])), (a_this 1, .inl (dT 1, 4, .inr (.inl (W_sums g_this)))), (a_this 2, .inl (dT 0, 3, .inl (W_settings g_this))), (a_this 3, .inl (dT 0, 7, .inl (W_sizes g_this))), (a_this 4, .inl (dT 0, 21, .inl (W_guesses g_this))), (a_this 5, .inl (dT 0, 21, .inl (W_shares g_this))), (a_this 6, .inl (dT 0, 21, .inl (W_memories g_this))), (a_this 7, .inl (dT 0, 21, .inl (W_ages g_this))), (a_this 8, .inl (dT 0, 21, .inl (W_surprisesOf g_this))), (a_this 9, .inl (dT 0, 40, .inl (W_told g_this)))] ++ (cW dT a_p1 g_p1)) H := hP
  have hD : va_D A ([(a_this 0, .inr (6, [.int (W_tables g_p1), .int (W_weeks g_p1), .int (W_runs g_p1), .int (W_surprises g_p1), .ref (a_this 1), .ref (a_this 2), .ref (a_this 3), .ref (a_this 4), .ref (a_this 5), .ref (a_this 6), .ref (a_this 7), .ref (a_this 8), .ref (a_this 9)])), (a_this 1, .inl (dT 1, 4, .inr (.inl (W_sums g_this)))), (a_this 2, .inl (dT 0, 3, .inl (W_settings g_this))), (a_this 3, .inl (dT 0, 7, .inl (W_sizes g_this))), (a_this 4, .inl (dT 0, 21, .inl (W_guesses g_this))), (a_this 5, .inl (dT 0, 21, .inl (W_shares g_this))), (a_this 6, .inl (dT 0, 21, .inl (W_memories g_this))), (a_this 7, .inl (dT 0, 21, .inl (W_ages g_this))), (a_this 8, .inl (dT 0, 21, .inl (W_surprisesOf g_this))), (a_this 9, .inl (dT 0, 40, .inl (W_told g_this)))] ++ (cW dT a_p1 g_p1)) := hD
  refine lv_aload_n hx hb dX7_takeFrom_32 rfl (lv_at hl 1 rfl) ?_
  refine gf_X7_9 (v := .ref (a_p1 1)) hx hb hqs hown hK hP 10 rfl rfl dX7_takeFrom_33 ?_
  refine lv_iconst (v := 0) hx hb dX7_takeFrom_36 (by decide) ?_
  refine lv_aload_n hx hb dX7_takeFrom_37 rfl (lv_at hl 0 rfl) ?_
  refine gf_X7_9 (v := .ref (a_this 1)) hx hb hqs hown hK hP 0 rfl rfl dX7_takeFrom_38 ?_
  refine lv_iconst (v := 0) hx hb dX7_takeFrom_41 (by decide) ?_
  refine lv_iconst (v := 4) hx hb dX7_takeFrom_42 (by decide) ?_
  refine va_copyl hx hb (hml.trans hl.1.symm) hown (hqs _ w_524) (hqs _ w_526) (hqs _ w_525) (hqs _ w_65) hK hP hD hS 11 1 1 1 rfl rfl rfl rfl rfl (by decide) (by decide) (by decide) (by decide) (by decide) (fun _ _ => rfl) (Nat.le_of_ble_eq_true rfl) (Nat.le_of_ble_eq_true rfl) dX7_takeFrom_43 (fun H locs hP hD hS => ?_)
  have hP : va_P D vwCl ([(a_this 0, .inr (6, [.int (W_tables g_p1), .int (W_weeks g_p1), .int (W_runs g_p1), .int (W_surprises g_p1), .ref (a_this 1), .ref (a_this 2), .ref (a_this 3), .ref (a_this 4), .ref (a_this 5), .ref (a_this 6), .ref (a_this 7), .ref (a_this 8), .ref (a_this 9)])), (a_this 1, .inl (dT 1, 4, .inr (.inl (va_cpy (W_sums g_p1) (W_sums g_this) (0 : Int32).toNatClampNeg (0 : Int32).toNatClampNeg (4 : Int32).toNatClampNeg)))), (a_this 2, .inl (dT 0, 3, .inl (W_settings g_this))), (a_this 3, .inl (dT 0, 7, .inl (W_sizes g_this))), (a_this 4, .inl (dT 0, 21, .inl (W_guesses g_this))), (a_this 5, .inl (dT 0, 21, .inl (W_shares g_this))), (a_this 6, .inl (dT 0, 21, .inl (W_memories g_this))), (a_this 7, .inl (dT 0, 21, .inl (W_ages g_this))), (a_this 8, .inl (dT 0, 21, .inl (W_surprisesOf g_this))), (a_this 9, .inl (dT 0, 40, .inl (W_told g_this)))] ++ (cW dT a_p1 g_p1)) H := hP
  have hD : va_D A ([(a_this 0, .inr (6, [.int (W_tables g_p1), .int (W_weeks g_p1), .int (W_runs g_p1), .int (W_surprises g_p1), .ref (a_this 1), .ref (a_this 2), .ref (a_this 3), .ref (a_this 4), .ref (a_this 5), .ref (a_this 6), .ref (a_this 7), .ref (a_this 8), .ref (a_this 9)])), (a_this 1, .inl (dT 1, 4, .inr (.inl (va_cpy (W_sums g_p1) (W_sums g_this) (0 : Int32).toNatClampNeg (0 : Int32).toNatClampNeg (4 : Int32).toNatClampNeg)))), (a_this 2, .inl (dT 0, 3, .inl (W_settings g_this))), (a_this 3, .inl (dT 0, 7, .inl (W_sizes g_this))), (a_this 4, .inl (dT 0, 21, .inl (W_guesses g_this))), (a_this 5, .inl (dT 0, 21, .inl (W_shares g_this))), (a_this 6, .inl (dT 0, 21, .inl (W_memories g_this))), (a_this 7, .inl (dT 0, 21, .inl (W_ages g_this))), (a_this 8, .inl (dT 0, 21, .inl (W_surprisesOf g_this))), (a_this 9, .inl (dT 0, 40, .inl (W_told g_this)))] ++ (cW dT a_p1 g_p1)) := hD
  refine lv_aload_n hx hb dX7_takeFrom_46 rfl (lv_at hl 1 rfl) ?_
  refine gf_X7_24 (v := .ref (a_p1 2)) hx hb hqs hown hK hP 10 rfl rfl dX7_takeFrom_47 ?_
  refine lv_iconst (v := 0) hx hb dX7_takeFrom_50 (by decide) ?_
  refine lv_aload_n hx hb dX7_takeFrom_51 rfl (lv_at hl 0 rfl) ?_
  refine gf_X7_24 (v := .ref (a_this 2)) hx hb hqs hown hK hP 0 rfl rfl dX7_takeFrom_52 ?_
  refine lv_iconst (v := 0) hx hb dX7_takeFrom_55 (by decide) ?_
  refine lv_iconst (v := 3) hx hb dX7_takeFrom_56 (by decide) ?_
  refine va_copyi hx hb (hml.trans hl.1.symm) hown (hqs _ w_524) (hqs _ w_526) (hqs _ w_525) (hqs _ w_65) hK hP hD hS 12 2 0 0 rfl rfl rfl rfl rfl (by decide) (by decide) (by decide) (by decide) (by decide) (fun _ _ => rfl) (Nat.le_of_ble_eq_true rfl) (Nat.le_of_ble_eq_true rfl) dX7_takeFrom_57 (fun H locs hP hD hS => ?_)
  have hP : va_P D vwCl ([(a_this 0, .inr (6, [.int (W_tables g_p1), .int (W_weeks g_p1), .int (W_runs g_p1), .int (W_surprises g_p1), .ref (a_this 1), .ref (a_this 2), .ref (a_this 3), .ref (a_this 4), .ref (a_this 5), .ref (a_this 6), .ref (a_this 7), .ref (a_this 8), .ref (a_this 9)])), (a_this 1, .inl (dT 1, 4, .inr (.inl (va_cpy (W_sums g_p1) (W_sums g_this) (0 : Int32).toNatClampNeg (0 : Int32).toNatClampNeg (4 : Int32).toNatClampNeg)))), (a_this 2, .inl (dT 0, 3, .inl (va_cpy (W_settings g_p1) (W_settings g_this) (0 : Int32).toNatClampNeg (0 : Int32).toNatClampNeg (3 : Int32).toNatClampNeg))), (a_this 3, .inl (dT 0, 7, .inl (W_sizes g_this))), (a_this 4, .inl (dT 0, 21, .inl (W_guesses g_this))), (a_this 5, .inl (dT 0, 21, .inl (W_shares g_this))), (a_this 6, .inl (dT 0, 21, .inl (W_memories g_this))), (a_this 7, .inl (dT 0, 21, .inl (W_ages g_this))), (a_this 8, .inl (dT 0, 21, .inl (W_surprisesOf g_this))), (a_this 9, .inl (dT 0, 40, .inl (W_told g_this)))] ++ (cW dT a_p1 g_p1)) H := hP
  have hD : va_D A ([(a_this 0, .inr (6, [.int (W_tables g_p1), .int (W_weeks g_p1), .int (W_runs g_p1), .int (W_surprises g_p1), .ref (a_this 1), .ref (a_this 2), .ref (a_this 3), .ref (a_this 4), .ref (a_this 5), .ref (a_this 6), .ref (a_this 7), .ref (a_this 8), .ref (a_this 9)])), (a_this 1, .inl (dT 1, 4, .inr (.inl (va_cpy (W_sums g_p1) (W_sums g_this) (0 : Int32).toNatClampNeg (0 : Int32).toNatClampNeg (4 : Int32).toNatClampNeg)))), (a_this 2, .inl (dT 0, 3, .inl (va_cpy (W_settings g_p1) (W_settings g_this) (0 : Int32).toNatClampNeg (0 : Int32).toNatClampNeg (3 : Int32).toNatClampNeg))), (a_this 3, .inl (dT 0, 7, .inl (W_sizes g_this))), (a_this 4, .inl (dT 0, 21, .inl (W_guesses g_this))), (a_this 5, .inl (dT 0, 21, .inl (W_shares g_this))), (a_this 6, .inl (dT 0, 21, .inl (W_memories g_this))), (a_this 7, .inl (dT 0, 21, .inl (W_ages g_this))), (a_this 8, .inl (dT 0, 21, .inl (W_surprisesOf g_this))), (a_this 9, .inl (dT 0, 40, .inl (W_told g_this)))] ++ (cW dT a_p1 g_p1)) := hD
  refine lv_aload_n hx hb dX7_takeFrom_60 rfl (lv_at hl 1 rfl) ?_
  refine gf_X7_27 (v := .ref (a_p1 3)) hx hb hqs hown hK hP 10 rfl rfl dX7_takeFrom_61 ?_
  refine lv_iconst (v := 0) hx hb dX7_takeFrom_64 (by decide) ?_
  refine lv_aload_n hx hb dX7_takeFrom_65 rfl (lv_at hl 0 rfl) ?_
  refine gf_X7_27 (v := .ref (a_this 3)) hx hb hqs hown hK hP 0 rfl rfl dX7_takeFrom_66 ?_
  refine lv_iconst (v := 0) hx hb dX7_takeFrom_69 (by decide) ?_
  refine lv_bipush (v := 7) hx hb dX7_takeFrom_70 (by decide) ?_
  refine va_copyi hx hb (hml.trans hl.1.symm) hown (hqs _ w_524) (hqs _ w_526) (hqs _ w_525) (hqs _ w_65) hK hP hD hS 13 3 0 0 rfl rfl rfl rfl rfl (by decide) (by decide) (by decide) (by decide) (by decide) (fun _ _ => rfl) (Nat.le_of_ble_eq_true rfl) (Nat.le_of_ble_eq_true rfl) dX7_takeFrom_72 (fun H locs hP hD hS => ?_)
  have hP : va_P D vwCl ([(a_this 0, .inr (6, [.int (W_tables g_p1), .int (W_weeks g_p1), .int (W_runs g_p1), .int (W_surprises g_p1), .ref (a_this 1), .ref (a_this 2), .ref (a_this 3), .ref (a_this 4), .ref (a_this 5), .ref (a_this 6), .ref (a_this 7), .ref (a_this 8), .ref (a_this 9)])), (a_this 1, .inl (dT 1, 4, .inr (.inl (va_cpy (W_sums g_p1) (W_sums g_this) (0 : Int32).toNatClampNeg (0 : Int32).toNatClampNeg (4 : Int32).toNatClampNeg)))), (a_this 2, .inl (dT 0, 3, .inl (va_cpy (W_settings g_p1) (W_settings g_this) (0 : Int32).toNatClampNeg (0 : Int32).toNatClampNeg (3 : Int32).toNatClampNeg))), (a_this 3, .inl (dT 0, 7, .inl (va_cpy (W_sizes g_p1) (W_sizes g_this) (0 : Int32).toNatClampNeg (0 : Int32).toNatClampNeg (7 : Int32).toNatClampNeg))), (a_this 4, .inl (dT 0, 21, .inl (W_guesses g_this))), (a_this 5, .inl (dT 0, 21, .inl (W_shares g_this))), (a_this 6, .inl (dT 0, 21, .inl (W_memories g_this))), (a_this 7, .inl (dT 0, 21, .inl (W_ages g_this))), (a_this 8, .inl (dT 0, 21, .inl (W_surprisesOf g_this))), (a_this 9, .inl (dT 0, 40, .inl (W_told g_this)))] ++ (cW dT a_p1 g_p1)) H := hP
  have hD : va_D A ([(a_this 0, .inr (6, [.int (W_tables g_p1), .int (W_weeks g_p1), .int (W_runs g_p1), .int (W_surprises g_p1), .ref (a_this 1), .ref (a_this 2), .ref (a_this 3), .ref (a_this 4), .ref (a_this 5), .ref (a_this 6), .ref (a_this 7), .ref (a_this 8), .ref (a_this 9)])), (a_this 1, .inl (dT 1, 4, .inr (.inl (va_cpy (W_sums g_p1) (W_sums g_this) (0 : Int32).toNatClampNeg (0 : Int32).toNatClampNeg (4 : Int32).toNatClampNeg)))), (a_this 2, .inl (dT 0, 3, .inl (va_cpy (W_settings g_p1) (W_settings g_this) (0 : Int32).toNatClampNeg (0 : Int32).toNatClampNeg (3 : Int32).toNatClampNeg))), (a_this 3, .inl (dT 0, 7, .inl (va_cpy (W_sizes g_p1) (W_sizes g_this) (0 : Int32).toNatClampNeg (0 : Int32).toNatClampNeg (7 : Int32).toNatClampNeg))), (a_this 4, .inl (dT 0, 21, .inl (W_guesses g_this))), (a_this 5, .inl (dT 0, 21, .inl (W_shares g_this))), (a_this 6, .inl (dT 0, 21, .inl (W_memories g_this))), (a_this 7, .inl (dT 0, 21, .inl (W_ages g_this))), (a_this 8, .inl (dT 0, 21, .inl (W_surprisesOf g_this))), (a_this 9, .inl (dT 0, 40, .inl (W_told g_this)))] ++ (cW dT a_p1 g_p1)) := hD
  refine lv_aload_n hx hb dX7_takeFrom_75 rfl (lv_at hl 1 rfl) ?_
  refine gf_X7_30 (v := .ref (a_p1 4)) hx hb hqs hown hK hP 10 rfl rfl dX7_takeFrom_76 ?_
  refine lv_iconst (v := 0) hx hb dX7_takeFrom_79 (by decide) ?_
  refine lv_aload_n hx hb dX7_takeFrom_80 rfl (lv_at hl 0 rfl) ?_
  refine gf_X7_30 (v := .ref (a_this 4)) hx hb hqs hown hK hP 0 rfl rfl dX7_takeFrom_81 ?_
  refine lv_iconst (v := 0) hx hb dX7_takeFrom_84 (by decide) ?_
  refine lv_bipush (v := 21) hx hb dX7_takeFrom_85 (by decide) ?_
  refine va_copyi hx hb (hml.trans hl.1.symm) hown (hqs _ w_524) (hqs _ w_526) (hqs _ w_525) (hqs _ w_65) hK hP hD hS 14 4 0 0 rfl rfl rfl rfl rfl (by decide) (by decide) (by decide) (by decide) (by decide) (fun _ _ => rfl) (Nat.le_of_ble_eq_true rfl) (Nat.le_of_ble_eq_true rfl) dX7_takeFrom_87 (fun H locs hP hD hS => ?_)
  have hP : va_P D vwCl ([(a_this 0, .inr (6, [.int (W_tables g_p1), .int (W_weeks g_p1), .int (W_runs g_p1), .int (W_surprises g_p1), .ref (a_this 1), .ref (a_this 2), .ref (a_this 3), .ref (a_this 4), .ref (a_this 5), .ref (a_this 6), .ref (a_this 7), .ref (a_this 8), .ref (a_this 9)])), (a_this 1, .inl (dT 1, 4, .inr (.inl (va_cpy (W_sums g_p1) (W_sums g_this) (0 : Int32).toNatClampNeg (0 : Int32).toNatClampNeg (4 : Int32).toNatClampNeg)))), (a_this 2, .inl (dT 0, 3, .inl (va_cpy (W_settings g_p1) (W_settings g_this) (0 : Int32).toNatClampNeg (0 : Int32).toNatClampNeg (3 : Int32).toNatClampNeg))), (a_this 3, .inl (dT 0, 7, .inl (va_cpy (W_sizes g_p1) (W_sizes g_this) (0 : Int32).toNatClampNeg (0 : Int32).toNatClampNeg (7 : Int32).toNatClampNeg))), (a_this 4, .inl (dT 0, 21, .inl (va_cpy (W_guesses g_p1) (W_guesses g_this) (0 : Int32).toNatClampNeg (0 : Int32).toNatClampNeg (21 : Int32).toNatClampNeg))), (a_this 5, .inl (dT 0, 21, .inl (W_shares g_this))), (a_this 6, .inl (dT 0, 21, .inl (W_memories g_this))), (a_this 7, .inl (dT 0, 21, .inl (W_ages g_this))), (a_this 8, .inl (dT 0, 21, .inl (W_surprisesOf g_this))), (a_this 9, .inl (dT 0, 40, .inl (W_told g_this)))] ++ (cW dT a_p1 g_p1)) H := hP
  have hD : va_D A ([(a_this 0, .inr (6, [.int (W_tables g_p1), .int (W_weeks g_p1), .int (W_runs g_p1), .int (W_surprises g_p1), .ref (a_this 1), .ref (a_this 2), .ref (a_this 3), .ref (a_this 4), .ref (a_this 5), .ref (a_this 6), .ref (a_this 7), .ref (a_this 8), .ref (a_this 9)])), (a_this 1, .inl (dT 1, 4, .inr (.inl (va_cpy (W_sums g_p1) (W_sums g_this) (0 : Int32).toNatClampNeg (0 : Int32).toNatClampNeg (4 : Int32).toNatClampNeg)))), (a_this 2, .inl (dT 0, 3, .inl (va_cpy (W_settings g_p1) (W_settings g_this) (0 : Int32).toNatClampNeg (0 : Int32).toNatClampNeg (3 : Int32).toNatClampNeg))), (a_this 3, .inl (dT 0, 7, .inl (va_cpy (W_sizes g_p1) (W_sizes g_this) (0 : Int32).toNatClampNeg (0 : Int32).toNatClampNeg (7 : Int32).toNatClampNeg))), (a_this 4, .inl (dT 0, 21, .inl (va_cpy (W_guesses g_p1) (W_guesses g_this) (0 : Int32).toNatClampNeg (0 : Int32).toNatClampNeg (21 : Int32).toNatClampNeg))), (a_this 5, .inl (dT 0, 21, .inl (W_shares g_this))), (a_this 6, .inl (dT 0, 21, .inl (W_memories g_this))), (a_this 7, .inl (dT 0, 21, .inl (W_ages g_this))), (a_this 8, .inl (dT 0, 21, .inl (W_surprisesOf g_this))), (a_this 9, .inl (dT 0, 40, .inl (W_told g_this)))] ++ (cW dT a_p1 g_p1)) := hD
  refine lv_aload_n hx hb dX7_takeFrom_90 rfl (lv_at hl 1 rfl) ?_
  refine gf_X7_33 (v := .ref (a_p1 5)) hx hb hqs hown hK hP 10 rfl rfl dX7_takeFrom_91 ?_
  refine lv_iconst (v := 0) hx hb dX7_takeFrom_94 (by decide) ?_
  refine lv_aload_n hx hb dX7_takeFrom_95 rfl (lv_at hl 0 rfl) ?_
  refine gf_X7_33 (v := .ref (a_this 5)) hx hb hqs hown hK hP 0 rfl rfl dX7_takeFrom_96 ?_
  refine lv_iconst (v := 0) hx hb dX7_takeFrom_99 (by decide) ?_
  refine lv_bipush (v := 21) hx hb dX7_takeFrom_100 (by decide) ?_
  refine va_copyi hx hb (hml.trans hl.1.symm) hown (hqs _ w_524) (hqs _ w_526) (hqs _ w_525) (hqs _ w_65) hK hP hD hS 15 5 0 0 rfl rfl rfl rfl rfl (by decide) (by decide) (by decide) (by decide) (by decide) (fun _ _ => rfl) (Nat.le_of_ble_eq_true rfl) (Nat.le_of_ble_eq_true rfl) dX7_takeFrom_102 (fun H locs hP hD hS => ?_)
  have hP : va_P D vwCl ([(a_this 0, .inr (6, [.int (W_tables g_p1), .int (W_weeks g_p1), .int (W_runs g_p1), .int (W_surprises g_p1), .ref (a_this 1), .ref (a_this 2), .ref (a_this 3), .ref (a_this 4), .ref (a_this 5), .ref (a_this 6), .ref (a_this 7), .ref (a_this 8), .ref (a_this 9)])), (a_this 1, .inl (dT 1, 4, .inr (.inl (va_cpy (W_sums g_p1) (W_sums g_this) (0 : Int32).toNatClampNeg (0 : Int32).toNatClampNeg (4 : Int32).toNatClampNeg)))), (a_this 2, .inl (dT 0, 3, .inl (va_cpy (W_settings g_p1) (W_settings g_this) (0 : Int32).toNatClampNeg (0 : Int32).toNatClampNeg (3 : Int32).toNatClampNeg))), (a_this 3, .inl (dT 0, 7, .inl (va_cpy (W_sizes g_p1) (W_sizes g_this) (0 : Int32).toNatClampNeg (0 : Int32).toNatClampNeg (7 : Int32).toNatClampNeg))), (a_this 4, .inl (dT 0, 21, .inl (va_cpy (W_guesses g_p1) (W_guesses g_this) (0 : Int32).toNatClampNeg (0 : Int32).toNatClampNeg (21 : Int32).toNatClampNeg))), (a_this 5, .inl (dT 0, 21, .inl (va_cpy (W_shares g_p1) (W_shares g_this) (0 : Int32).toNatClampNeg (0 : Int32).toNatClampNeg (21 : Int32).toNatClampNeg))), (a_this 6, .inl (dT 0, 21, .inl (W_memories g_this))), (a_this 7, .inl (dT 0, 21, .inl (W_ages g_this))), (a_this 8, .inl (dT 0, 21, .inl (W_surprisesOf g_this))), (a_this 9, .inl (dT 0, 40, .inl (W_told g_this)))] ++ (cW dT a_p1 g_p1)) H := hP
  have hD : va_D A ([(a_this 0, .inr (6, [.int (W_tables g_p1), .int (W_weeks g_p1), .int (W_runs g_p1), .int (W_surprises g_p1), .ref (a_this 1), .ref (a_this 2), .ref (a_this 3), .ref (a_this 4), .ref (a_this 5), .ref (a_this 6), .ref (a_this 7), .ref (a_this 8), .ref (a_this 9)])), (a_this 1, .inl (dT 1, 4, .inr (.inl (va_cpy (W_sums g_p1) (W_sums g_this) (0 : Int32).toNatClampNeg (0 : Int32).toNatClampNeg (4 : Int32).toNatClampNeg)))), (a_this 2, .inl (dT 0, 3, .inl (va_cpy (W_settings g_p1) (W_settings g_this) (0 : Int32).toNatClampNeg (0 : Int32).toNatClampNeg (3 : Int32).toNatClampNeg))), (a_this 3, .inl (dT 0, 7, .inl (va_cpy (W_sizes g_p1) (W_sizes g_this) (0 : Int32).toNatClampNeg (0 : Int32).toNatClampNeg (7 : Int32).toNatClampNeg))), (a_this 4, .inl (dT 0, 21, .inl (va_cpy (W_guesses g_p1) (W_guesses g_this) (0 : Int32).toNatClampNeg (0 : Int32).toNatClampNeg (21 : Int32).toNatClampNeg))), (a_this 5, .inl (dT 0, 21, .inl (va_cpy (W_shares g_p1) (W_shares g_this) (0 : Int32).toNatClampNeg (0 : Int32).toNatClampNeg (21 : Int32).toNatClampNeg))), (a_this 6, .inl (dT 0, 21, .inl (W_memories g_this))), (a_this 7, .inl (dT 0, 21, .inl (W_ages g_this))), (a_this 8, .inl (dT 0, 21, .inl (W_surprisesOf g_this))), (a_this 9, .inl (dT 0, 40, .inl (W_told g_this)))] ++ (cW dT a_p1 g_p1)) := hD
  refine lv_aload_n hx hb dX7_takeFrom_105 rfl (lv_at hl 1 rfl) ?_
  refine gf_X7_36 (v := .ref (a_p1 6)) hx hb hqs hown hK hP 10 rfl rfl dX7_takeFrom_106 ?_
  refine lv_iconst (v := 0) hx hb dX7_takeFrom_109 (by decide) ?_
  refine lv_aload_n hx hb dX7_takeFrom_110 rfl (lv_at hl 0 rfl) ?_
  refine gf_X7_36 (v := .ref (a_this 6)) hx hb hqs hown hK hP 0 rfl rfl dX7_takeFrom_111 ?_
  refine lv_iconst (v := 0) hx hb dX7_takeFrom_114 (by decide) ?_
  refine lv_bipush (v := 21) hx hb dX7_takeFrom_115 (by decide) ?_
  refine va_copyi hx hb (hml.trans hl.1.symm) hown (hqs _ w_524) (hqs _ w_526) (hqs _ w_525) (hqs _ w_65) hK hP hD hS 16 6 0 0 rfl rfl rfl rfl rfl (by decide) (by decide) (by decide) (by decide) (by decide) (fun _ _ => rfl) (Nat.le_of_ble_eq_true rfl) (Nat.le_of_ble_eq_true rfl) dX7_takeFrom_117 (fun H locs hP hD hS => ?_)
  have hP : va_P D vwCl ([(a_this 0, .inr (6, [.int (W_tables g_p1), .int (W_weeks g_p1), .int (W_runs g_p1), .int (W_surprises g_p1), .ref (a_this 1), .ref (a_this 2), .ref (a_this 3), .ref (a_this 4), .ref (a_this 5), .ref (a_this 6), .ref (a_this 7), .ref (a_this 8), .ref (a_this 9)])), (a_this 1, .inl (dT 1, 4, .inr (.inl (va_cpy (W_sums g_p1) (W_sums g_this) (0 : Int32).toNatClampNeg (0 : Int32).toNatClampNeg (4 : Int32).toNatClampNeg)))), (a_this 2, .inl (dT 0, 3, .inl (va_cpy (W_settings g_p1) (W_settings g_this) (0 : Int32).toNatClampNeg (0 : Int32).toNatClampNeg (3 : Int32).toNatClampNeg))), (a_this 3, .inl (dT 0, 7, .inl (va_cpy (W_sizes g_p1) (W_sizes g_this) (0 : Int32).toNatClampNeg (0 : Int32).toNatClampNeg (7 : Int32).toNatClampNeg))), (a_this 4, .inl (dT 0, 21, .inl (va_cpy (W_guesses g_p1) (W_guesses g_this) (0 : Int32).toNatClampNeg (0 : Int32).toNatClampNeg (21 : Int32).toNatClampNeg))), (a_this 5, .inl (dT 0, 21, .inl (va_cpy (W_shares g_p1) (W_shares g_this) (0 : Int32).toNatClampNeg (0 : Int32).toNatClampNeg (21 : Int32).toNatClampNeg))), (a_this 6, .inl (dT 0, 21, .inl (va_cpy (W_memories g_p1) (W_memories g_this) (0 : Int32).toNatClampNeg (0 : Int32).toNatClampNeg (21 : Int32).toNatClampNeg))), (a_this 7, .inl (dT 0, 21, .inl (W_ages g_this))), (a_this 8, .inl (dT 0, 21, .inl (W_surprisesOf g_this))), (a_this 9, .inl (dT 0, 40, .inl (W_told g_this)))] ++ (cW dT a_p1 g_p1)) H := hP
  have hD : va_D A ([(a_this 0, .inr (6, [.int (W_tables g_p1), .int (W_weeks g_p1), .int (W_runs g_p1), .int (W_surprises g_p1), .ref (a_this 1), .ref (a_this 2), .ref (a_this 3), .ref (a_this 4), .ref (a_this 5), .ref (a_this 6), .ref (a_this 7), .ref (a_this 8), .ref (a_this 9)])), (a_this 1, .inl (dT 1, 4, .inr (.inl (va_cpy (W_sums g_p1) (W_sums g_this) (0 : Int32).toNatClampNeg (0 : Int32).toNatClampNeg (4 : Int32).toNatClampNeg)))), (a_this 2, .inl (dT 0, 3, .inl (va_cpy (W_settings g_p1) (W_settings g_this) (0 : Int32).toNatClampNeg (0 : Int32).toNatClampNeg (3 : Int32).toNatClampNeg))), (a_this 3, .inl (dT 0, 7, .inl (va_cpy (W_sizes g_p1) (W_sizes g_this) (0 : Int32).toNatClampNeg (0 : Int32).toNatClampNeg (7 : Int32).toNatClampNeg))), (a_this 4, .inl (dT 0, 21, .inl (va_cpy (W_guesses g_p1) (W_guesses g_this) (0 : Int32).toNatClampNeg (0 : Int32).toNatClampNeg (21 : Int32).toNatClampNeg))), (a_this 5, .inl (dT 0, 21, .inl (va_cpy (W_shares g_p1) (W_shares g_this) (0 : Int32).toNatClampNeg (0 : Int32).toNatClampNeg (21 : Int32).toNatClampNeg))), (a_this 6, .inl (dT 0, 21, .inl (va_cpy (W_memories g_p1) (W_memories g_this) (0 : Int32).toNatClampNeg (0 : Int32).toNatClampNeg (21 : Int32).toNatClampNeg))), (a_this 7, .inl (dT 0, 21, .inl (W_ages g_this))), (a_this 8, .inl (dT 0, 21, .inl (W_surprisesOf g_this))), (a_this 9, .inl (dT 0, 40, .inl (W_told g_this)))] ++ (cW dT a_p1 g_p1)) := hD
  refine lv_aload_n hx hb dX7_takeFrom_120 rfl (lv_at hl 1 rfl) ?_
  refine gf_X7_39 (v := .ref (a_p1 7)) hx hb hqs hown hK hP 10 rfl rfl dX7_takeFrom_121 ?_
  refine lv_iconst (v := 0) hx hb dX7_takeFrom_124 (by decide) ?_
  refine lv_aload_n hx hb dX7_takeFrom_125 rfl (lv_at hl 0 rfl) ?_
  refine gf_X7_39 (v := .ref (a_this 7)) hx hb hqs hown hK hP 0 rfl rfl dX7_takeFrom_126 ?_
  refine lv_iconst (v := 0) hx hb dX7_takeFrom_129 (by decide) ?_
  refine lv_bipush (v := 21) hx hb dX7_takeFrom_130 (by decide) ?_
  refine va_copyi hx hb (hml.trans hl.1.symm) hown (hqs _ w_524) (hqs _ w_526) (hqs _ w_525) (hqs _ w_65) hK hP hD hS 17 7 0 0 rfl rfl rfl rfl rfl (by decide) (by decide) (by decide) (by decide) (by decide) (fun _ _ => rfl) (Nat.le_of_ble_eq_true rfl) (Nat.le_of_ble_eq_true rfl) dX7_takeFrom_132 (fun H locs hP hD hS => ?_)
  have hP : va_P D vwCl ([(a_this 0, .inr (6, [.int (W_tables g_p1), .int (W_weeks g_p1), .int (W_runs g_p1), .int (W_surprises g_p1), .ref (a_this 1), .ref (a_this 2), .ref (a_this 3), .ref (a_this 4), .ref (a_this 5), .ref (a_this 6), .ref (a_this 7), .ref (a_this 8), .ref (a_this 9)])), (a_this 1, .inl (dT 1, 4, .inr (.inl (va_cpy (W_sums g_p1) (W_sums g_this) (0 : Int32).toNatClampNeg (0 : Int32).toNatClampNeg (4 : Int32).toNatClampNeg)))), (a_this 2, .inl (dT 0, 3, .inl (va_cpy (W_settings g_p1) (W_settings g_this) (0 : Int32).toNatClampNeg (0 : Int32).toNatClampNeg (3 : Int32).toNatClampNeg))), (a_this 3, .inl (dT 0, 7, .inl (va_cpy (W_sizes g_p1) (W_sizes g_this) (0 : Int32).toNatClampNeg (0 : Int32).toNatClampNeg (7 : Int32).toNatClampNeg))), (a_this 4, .inl (dT 0, 21, .inl (va_cpy (W_guesses g_p1) (W_guesses g_this) (0 : Int32).toNatClampNeg (0 : Int32).toNatClampNeg (21 : Int32).toNatClampNeg))), (a_this 5, .inl (dT 0, 21, .inl (va_cpy (W_shares g_p1) (W_shares g_this) (0 : Int32).toNatClampNeg (0 : Int32).toNatClampNeg (21 : Int32).toNatClampNeg))), (a_this 6, .inl (dT 0, 21, .inl (va_cpy (W_memories g_p1) (W_memories g_this) (0 : Int32).toNatClampNeg (0 : Int32).toNatClampNeg (21 : Int32).toNatClampNeg))), (a_this 7, .inl (dT 0, 21, .inl (va_cpy (W_ages g_p1) (W_ages g_this) (0 : Int32).toNatClampNeg (0 : Int32).toNatClampNeg (21 : Int32).toNatClampNeg))), (a_this 8, .inl (dT 0, 21, .inl (W_surprisesOf g_this))), (a_this 9, .inl (dT 0, 40, .inl (W_told g_this)))] ++ (cW dT a_p1 g_p1)) H := hP
  have hD : va_D A ([(a_this 0, .inr (6, [.int (W_tables g_p1), .int (W_weeks g_p1), .int (W_runs g_p1), .int (W_surprises g_p1), .ref (a_this 1), .ref (a_this 2), .ref (a_this 3), .ref (a_this 4), .ref (a_this 5), .ref (a_this 6), .ref (a_this 7), .ref (a_this 8), .ref (a_this 9)])), (a_this 1, .inl (dT 1, 4, .inr (.inl (va_cpy (W_sums g_p1) (W_sums g_this) (0 : Int32).toNatClampNeg (0 : Int32).toNatClampNeg (4 : Int32).toNatClampNeg)))), (a_this 2, .inl (dT 0, 3, .inl (va_cpy (W_settings g_p1) (W_settings g_this) (0 : Int32).toNatClampNeg (0 : Int32).toNatClampNeg (3 : Int32).toNatClampNeg))), (a_this 3, .inl (dT 0, 7, .inl (va_cpy (W_sizes g_p1) (W_sizes g_this) (0 : Int32).toNatClampNeg (0 : Int32).toNatClampNeg (7 : Int32).toNatClampNeg))), (a_this 4, .inl (dT 0, 21, .inl (va_cpy (W_guesses g_p1) (W_guesses g_this) (0 : Int32).toNatClampNeg (0 : Int32).toNatClampNeg (21 : Int32).toNatClampNeg))), (a_this 5, .inl (dT 0, 21, .inl (va_cpy (W_shares g_p1) (W_shares g_this) (0 : Int32).toNatClampNeg (0 : Int32).toNatClampNeg (21 : Int32).toNatClampNeg))), (a_this 6, .inl (dT 0, 21, .inl (va_cpy (W_memories g_p1) (W_memories g_this) (0 : Int32).toNatClampNeg (0 : Int32).toNatClampNeg (21 : Int32).toNatClampNeg))), (a_this 7, .inl (dT 0, 21, .inl (va_cpy (W_ages g_p1) (W_ages g_this) (0 : Int32).toNatClampNeg (0 : Int32).toNatClampNeg (21 : Int32).toNatClampNeg))), (a_this 8, .inl (dT 0, 21, .inl (W_surprisesOf g_this))), (a_this 9, .inl (dT 0, 40, .inl (W_told g_this)))] ++ (cW dT a_p1 g_p1)) := hD
  refine lv_aload_n hx hb dX7_takeFrom_135 rfl (lv_at hl 1 rfl) ?_
  refine gf_X7_42 (v := .ref (a_p1 8)) hx hb hqs hown hK hP 10 rfl rfl dX7_takeFrom_136 ?_
  refine lv_iconst (v := 0) hx hb dX7_takeFrom_139 (by decide) ?_
  refine lv_aload_n hx hb dX7_takeFrom_140 rfl (lv_at hl 0 rfl) ?_
  refine gf_X7_42 (v := .ref (a_this 8)) hx hb hqs hown hK hP 0 rfl rfl dX7_takeFrom_141 ?_
  refine lv_iconst (v := 0) hx hb dX7_takeFrom_144 (by decide) ?_
  refine lv_bipush (v := 21) hx hb dX7_takeFrom_145 (by decide) ?_
  refine va_copyi hx hb (hml.trans hl.1.symm) hown (hqs _ w_524) (hqs _ w_526) (hqs _ w_525) (hqs _ w_65) hK hP hD hS 18 8 0 0 rfl rfl rfl rfl rfl (by decide) (by decide) (by decide) (by decide) (by decide) (fun _ _ => rfl) (Nat.le_of_ble_eq_true rfl) (Nat.le_of_ble_eq_true rfl) dX7_takeFrom_147 (fun H locs hP hD hS => ?_)
  have hP : va_P D vwCl ([(a_this 0, .inr (6, [.int (W_tables g_p1), .int (W_weeks g_p1), .int (W_runs g_p1), .int (W_surprises g_p1), .ref (a_this 1), .ref (a_this 2), .ref (a_this 3), .ref (a_this 4), .ref (a_this 5), .ref (a_this 6), .ref (a_this 7), .ref (a_this 8), .ref (a_this 9)])), (a_this 1, .inl (dT 1, 4, .inr (.inl (va_cpy (W_sums g_p1) (W_sums g_this) (0 : Int32).toNatClampNeg (0 : Int32).toNatClampNeg (4 : Int32).toNatClampNeg)))), (a_this 2, .inl (dT 0, 3, .inl (va_cpy (W_settings g_p1) (W_settings g_this) (0 : Int32).toNatClampNeg (0 : Int32).toNatClampNeg (3 : Int32).toNatClampNeg))), (a_this 3, .inl (dT 0, 7, .inl (va_cpy (W_sizes g_p1) (W_sizes g_this) (0 : Int32).toNatClampNeg (0 : Int32).toNatClampNeg (7 : Int32).toNatClampNeg))), (a_this 4, .inl (dT 0, 21, .inl (va_cpy (W_guesses g_p1) (W_guesses g_this) (0 : Int32).toNatClampNeg (0 : Int32).toNatClampNeg (21 : Int32).toNatClampNeg))), (a_this 5, .inl (dT 0, 21, .inl (va_cpy (W_shares g_p1) (W_shares g_this) (0 : Int32).toNatClampNeg (0 : Int32).toNatClampNeg (21 : Int32).toNatClampNeg))), (a_this 6, .inl (dT 0, 21, .inl (va_cpy (W_memories g_p1) (W_memories g_this) (0 : Int32).toNatClampNeg (0 : Int32).toNatClampNeg (21 : Int32).toNatClampNeg))), (a_this 7, .inl (dT 0, 21, .inl (va_cpy (W_ages g_p1) (W_ages g_this) (0 : Int32).toNatClampNeg (0 : Int32).toNatClampNeg (21 : Int32).toNatClampNeg))), (a_this 8, .inl (dT 0, 21, .inl (va_cpy (W_surprisesOf g_p1) (W_surprisesOf g_this) (0 : Int32).toNatClampNeg (0 : Int32).toNatClampNeg (21 : Int32).toNatClampNeg))), (a_this 9, .inl (dT 0, 40, .inl (W_told g_this)))] ++ (cW dT a_p1 g_p1)) H := hP
  have hD : va_D A ([(a_this 0, .inr (6, [.int (W_tables g_p1), .int (W_weeks g_p1), .int (W_runs g_p1), .int (W_surprises g_p1), .ref (a_this 1), .ref (a_this 2), .ref (a_this 3), .ref (a_this 4), .ref (a_this 5), .ref (a_this 6), .ref (a_this 7), .ref (a_this 8), .ref (a_this 9)])), (a_this 1, .inl (dT 1, 4, .inr (.inl (va_cpy (W_sums g_p1) (W_sums g_this) (0 : Int32).toNatClampNeg (0 : Int32).toNatClampNeg (4 : Int32).toNatClampNeg)))), (a_this 2, .inl (dT 0, 3, .inl (va_cpy (W_settings g_p1) (W_settings g_this) (0 : Int32).toNatClampNeg (0 : Int32).toNatClampNeg (3 : Int32).toNatClampNeg))), (a_this 3, .inl (dT 0, 7, .inl (va_cpy (W_sizes g_p1) (W_sizes g_this) (0 : Int32).toNatClampNeg (0 : Int32).toNatClampNeg (7 : Int32).toNatClampNeg))), (a_this 4, .inl (dT 0, 21, .inl (va_cpy (W_guesses g_p1) (W_guesses g_this) (0 : Int32).toNatClampNeg (0 : Int32).toNatClampNeg (21 : Int32).toNatClampNeg))), (a_this 5, .inl (dT 0, 21, .inl (va_cpy (W_shares g_p1) (W_shares g_this) (0 : Int32).toNatClampNeg (0 : Int32).toNatClampNeg (21 : Int32).toNatClampNeg))), (a_this 6, .inl (dT 0, 21, .inl (va_cpy (W_memories g_p1) (W_memories g_this) (0 : Int32).toNatClampNeg (0 : Int32).toNatClampNeg (21 : Int32).toNatClampNeg))), (a_this 7, .inl (dT 0, 21, .inl (va_cpy (W_ages g_p1) (W_ages g_this) (0 : Int32).toNatClampNeg (0 : Int32).toNatClampNeg (21 : Int32).toNatClampNeg))), (a_this 8, .inl (dT 0, 21, .inl (va_cpy (W_surprisesOf g_p1) (W_surprisesOf g_this) (0 : Int32).toNatClampNeg (0 : Int32).toNatClampNeg (21 : Int32).toNatClampNeg))), (a_this 9, .inl (dT 0, 40, .inl (W_told g_this)))] ++ (cW dT a_p1 g_p1)) := hD
  refine lv_aload_n hx hb dX7_takeFrom_150 rfl (lv_at hl 1 rfl) ?_
  refine gf_X7_45 (v := .ref (a_p1 9)) hx hb hqs hown hK hP 10 rfl rfl dX7_takeFrom_151 ?_
  refine lv_iconst (v := 0) hx hb dX7_takeFrom_154 (by decide) ?_
  refine lv_aload_n hx hb dX7_takeFrom_155 rfl (lv_at hl 0 rfl) ?_
  refine gf_X7_45 (v := .ref (a_this 9)) hx hb hqs hown hK hP 0 rfl rfl dX7_takeFrom_156 ?_
  refine lv_iconst (v := 0) hx hb dX7_takeFrom_159 (by decide) ?_
  refine lv_bipush (v := 40) hx hb dX7_takeFrom_160 (by decide) ?_
  refine va_copyi hx hb (hml.trans hl.1.symm) hown (hqs _ w_524) (hqs _ w_526) (hqs _ w_525) (hqs _ w_65) hK hP hD hS 19 9 0 0 rfl rfl rfl rfl rfl (by decide) (by decide) (by decide) (by decide) (by decide) (fun _ _ => rfl) (Nat.le_of_ble_eq_true rfl) (Nat.le_of_ble_eq_true rfl) dX7_takeFrom_162 (fun H locs hP hD hS => ?_)
  have hP : va_P D vwCl ([(a_this 0, .inr (6, [.int (W_tables g_p1), .int (W_weeks g_p1), .int (W_runs g_p1), .int (W_surprises g_p1), .ref (a_this 1), .ref (a_this 2), .ref (a_this 3), .ref (a_this 4), .ref (a_this 5), .ref (a_this 6), .ref (a_this 7), .ref (a_this 8), .ref (a_this 9)])), (a_this 1, .inl (dT 1, 4, .inr (.inl (va_cpy (W_sums g_p1) (W_sums g_this) (0 : Int32).toNatClampNeg (0 : Int32).toNatClampNeg (4 : Int32).toNatClampNeg)))), (a_this 2, .inl (dT 0, 3, .inl (va_cpy (W_settings g_p1) (W_settings g_this) (0 : Int32).toNatClampNeg (0 : Int32).toNatClampNeg (3 : Int32).toNatClampNeg))), (a_this 3, .inl (dT 0, 7, .inl (va_cpy (W_sizes g_p1) (W_sizes g_this) (0 : Int32).toNatClampNeg (0 : Int32).toNatClampNeg (7 : Int32).toNatClampNeg))), (a_this 4, .inl (dT 0, 21, .inl (va_cpy (W_guesses g_p1) (W_guesses g_this) (0 : Int32).toNatClampNeg (0 : Int32).toNatClampNeg (21 : Int32).toNatClampNeg))), (a_this 5, .inl (dT 0, 21, .inl (va_cpy (W_shares g_p1) (W_shares g_this) (0 : Int32).toNatClampNeg (0 : Int32).toNatClampNeg (21 : Int32).toNatClampNeg))), (a_this 6, .inl (dT 0, 21, .inl (va_cpy (W_memories g_p1) (W_memories g_this) (0 : Int32).toNatClampNeg (0 : Int32).toNatClampNeg (21 : Int32).toNatClampNeg))), (a_this 7, .inl (dT 0, 21, .inl (va_cpy (W_ages g_p1) (W_ages g_this) (0 : Int32).toNatClampNeg (0 : Int32).toNatClampNeg (21 : Int32).toNatClampNeg))), (a_this 8, .inl (dT 0, 21, .inl (va_cpy (W_surprisesOf g_p1) (W_surprisesOf g_this) (0 : Int32).toNatClampNeg (0 : Int32).toNatClampNeg (21 : Int32).toNatClampNeg))), (a_this 9, .inl (dT 0, 40, .inl (va_cpy (W_told g_p1) (W_told g_this) (0 : Int32).toNatClampNeg (0 : Int32).toNatClampNeg (40 : Int32).toNatClampNeg)))] ++ (cW dT a_p1 g_p1)) H := hP
  have hD : va_D A ([(a_this 0, .inr (6, [.int (W_tables g_p1), .int (W_weeks g_p1), .int (W_runs g_p1), .int (W_surprises g_p1), .ref (a_this 1), .ref (a_this 2), .ref (a_this 3), .ref (a_this 4), .ref (a_this 5), .ref (a_this 6), .ref (a_this 7), .ref (a_this 8), .ref (a_this 9)])), (a_this 1, .inl (dT 1, 4, .inr (.inl (va_cpy (W_sums g_p1) (W_sums g_this) (0 : Int32).toNatClampNeg (0 : Int32).toNatClampNeg (4 : Int32).toNatClampNeg)))), (a_this 2, .inl (dT 0, 3, .inl (va_cpy (W_settings g_p1) (W_settings g_this) (0 : Int32).toNatClampNeg (0 : Int32).toNatClampNeg (3 : Int32).toNatClampNeg))), (a_this 3, .inl (dT 0, 7, .inl (va_cpy (W_sizes g_p1) (W_sizes g_this) (0 : Int32).toNatClampNeg (0 : Int32).toNatClampNeg (7 : Int32).toNatClampNeg))), (a_this 4, .inl (dT 0, 21, .inl (va_cpy (W_guesses g_p1) (W_guesses g_this) (0 : Int32).toNatClampNeg (0 : Int32).toNatClampNeg (21 : Int32).toNatClampNeg))), (a_this 5, .inl (dT 0, 21, .inl (va_cpy (W_shares g_p1) (W_shares g_this) (0 : Int32).toNatClampNeg (0 : Int32).toNatClampNeg (21 : Int32).toNatClampNeg))), (a_this 6, .inl (dT 0, 21, .inl (va_cpy (W_memories g_p1) (W_memories g_this) (0 : Int32).toNatClampNeg (0 : Int32).toNatClampNeg (21 : Int32).toNatClampNeg))), (a_this 7, .inl (dT 0, 21, .inl (va_cpy (W_ages g_p1) (W_ages g_this) (0 : Int32).toNatClampNeg (0 : Int32).toNatClampNeg (21 : Int32).toNatClampNeg))), (a_this 8, .inl (dT 0, 21, .inl (va_cpy (W_surprisesOf g_p1) (W_surprisesOf g_this) (0 : Int32).toNatClampNeg (0 : Int32).toNatClampNeg (21 : Int32).toNatClampNeg))), (a_this 9, .inl (dT 0, 40, .inl (va_cpy (W_told g_p1) (W_told g_this) (0 : Int32).toNatClampNeg (0 : Int32).toNatClampNeg (40 : Int32).toNatClampNeg)))] ++ (cW dT a_p1 g_p1)) := hD
  exact rt_v hx hb hr hlk hK hS ((W_mk (W_tables g_p1) (W_weeks g_p1) (W_runs g_p1) (W_surprises g_p1) (va_cpy (W_sums g_p1) (W_sums g_this) (0 : Int32).toNatClampNeg (0 : Int32).toNatClampNeg (4 : Int32).toNatClampNeg) (va_cpy (W_settings g_p1) (W_settings g_this) (0 : Int32).toNatClampNeg (0 : Int32).toNatClampNeg (3 : Int32).toNatClampNeg) (va_cpy (W_sizes g_p1) (W_sizes g_this) (0 : Int32).toNatClampNeg (0 : Int32).toNatClampNeg (7 : Int32).toNatClampNeg) (va_cpy (W_guesses g_p1) (W_guesses g_this) (0 : Int32).toNatClampNeg (0 : Int32).toNatClampNeg (21 : Int32).toNatClampNeg) (va_cpy (W_shares g_p1) (W_shares g_this) (0 : Int32).toNatClampNeg (0 : Int32).toNatClampNeg (21 : Int32).toNatClampNeg) (va_cpy (W_memories g_p1) (W_memories g_this) (0 : Int32).toNatClampNeg (0 : Int32).toNatClampNeg (21 : Int32).toNatClampNeg) (va_cpy (W_ages g_p1) (W_ages g_this) (0 : Int32).toNatClampNeg (0 : Int32).toNatClampNeg (21 : Int32).toNatClampNeg) (va_cpy (W_surprisesOf g_p1) (W_surprisesOf g_this) (0 : Int32).toNatClampNeg (0 : Int32).toNatClampNeg (21 : Int32).toNatClampNeg) (va_cpy (W_told g_p1) (W_told g_this) (0 : Int32).toNatClampNeg (0 : Int32).toNatClampNeg (40 : Int32).toNatClampNeg)) : TW) (retv h) hP hD dX7_takeFrom_165

def f_X7_sizeOf (g_this : TW) (v1 : Int32) : Option (Int32 × (Unit)) :=
  ((f_X8_isIn v1 (0 : Int32) (6 : Int32)).bind fun o1 => (if o1.1 = (0 : Int32) then (some ((0 : Int32), ())) else (if inb v1 7 = true then (some (((W_sizes g_this) v1.toNatClampNeg), ())) else none)))
set_option maxHeartbeats 8000000 in
set_option maxRecDepth 100000 in
theorem c_X7_sizeOf (l : Launch) (hlt : l.stackTraces = false) (D : va_G) (dT : Nat → ClassId) (a_this : Nat → Nat) (g_this : TW) (v1 : Int32) (o : (Int32 × (Unit))) (h : f_X7_sizeOf g_this v1 = some o) (sz : Nat) : Met l yX7_sizeOf (WSm yX7_sizeOf cX7_sizeOf 2 (some .int)) { frames := 1, cells := 0, slots := 0, locals := 22 } (va_Pc [.ref (a_this 0), .int v1] (cPre D dT (cW dT a_this g_this) sz)) (va_Qi (fun (r : Int32) (u : Unit) => r = o.1 ∧ u = o.2) (fun u t => cAt D dT (va_A (cW dT a_this g_this) sz) (cW dT a_this g_this) t) (va_A (cW dT a_this g_this) sz)) 0 0 (va_A (cW dT a_this g_this) sz) := by
  refine mStart (WS := (cW dT a_this g_this)) (Qc := fun A => va_Qi (fun (r : Int32) (u : Unit) => r = o.1 ∧ u = o.2) (fun u t => cAt D dT A (cW dT a_this g_this) t) A) RX7 rfl (by decide) (Nat.le_of_ble_eq_true rfl) ?_ sz
  intro p e s m below meth c A ls hx hb hml hr hlk hnm hts hqs hown hE hA hK hP hD hS hl
  have hl : lv_has ls 2 [(0, .ref (a_this 0)), (1, .int v1)] := hl
  unfold f_X7_sizeOf at h
  refine lv_iload_n hx hb dX7_sizeOf_0 rfl (lv_at hl 1 rfl) ?_
  refine lv_iconst (v := 0) hx hb dX7_sizeOf_1 (by decide) ?_
  refine lv_bipush (v := 6) hx hb dX7_sizeOf_2 (by decide) ?_
  obtain ⟨o1, e1, h⟩ := obind h
  have hPc := hP.sub (ws' := ([] : va_W)) [] rfl
  have hDc := hD.sub (ws' := ([] : va_W)) [] (by decide) rfl
  have hFc := va_free (wc := ([] : va_W)) hD hS hA [] rfl
  refine cl_i (wr := (cW dT a_this g_this)) (va_runSN (As := [.int v1, .int (0 : Int32), .int (6 : Int32)]) (rest := []) ⟨hx, hb, hml, hown, hts⟩ (c_X8_isIn l hlt D dT v1 (0 : Int32) (6 : Int32) o1 e1 _) ⟨va_cnB 3 hts (TB_in (WSm_in w_332)) rfl rfl rfl (hE.1 (RX7, 71, yX8_isIn, RX8) (List.mem_of_getElem? (i := 14) rfl)) (hqs _ w_50) nd_X8_isIn ⟨Nat.le_of_ble_eq_true rfl, Nat.le_of_ble_eq_true rfl⟩, hqs _ w_331, trivial⟩ (cPre.S hPc hDc hK hE hS hFc) rfl rfl hl.1 rfl (lv_room (Nat.le_of_ble_eq_true rfl)) dX7_sizeOf_4 ⟨Nat.zero_le _, Nat.zero_le _⟩) hP hD hS hFc [] [0, 1, 2, 3, 4, 5, 6, 7, 8, 9] rfl rfl (by decide) (by decide) (fun r1 u1 H locs hw hP hD hS => ?_)
  obtain ⟨rfl, rfl⟩ := hw
  have hP : va_P D vwCl (cW dT a_this g_this) H := hP
  have hD : va_D A (cW dT a_this g_this) := hD
  refine lv_if_eq (tgt := 19) hx hb dX7_sizeOf_7 (by decide) (fun c2 => ?_) (fun c2 => ?_)
  · replace h := iteT c2 h
    refine lv_iconst (v := 0) hx hb dX7_sizeOf_19 (by decide) ?_
    exact rt_i hx hb hr hlk hK hS (() : Unit) (ret2 h) hP hD dX7_sizeOf_20
  · replace h := iteF c2 h
    refine lv_aload_n hx hb dX7_sizeOf_10 rfl (lv_at hl 0 rfl) ?_
    refine gf_X7_27 (v := .ref (a_this 3)) hx hb hqs hown hK hP 0 rfl rfl dX7_sizeOf_11 ?_
    refine lv_iload_n hx hb dX7_sizeOf_14 rfl (lv_at hl 1 rfl) ?_
    obtain ⟨g3, h⟩ := chk h
    refine va_iald hx hb hK hP 3 0 rfl rfl (inb_in g3) dX7_sizeOf_15 ?_
    refine lv_goto (tgt := 20) hx hb dX7_sizeOf_16 (by decide) ?_
    exact rt_i hx hb hr hlk hK hS (() : Unit) (ret2 h) hP hD dX7_sizeOf_20

def f_X7_shareOf (g_this : TW) (v1 : Int32) (v2 : Int32) : Option (Int32 × (Unit)) :=
  ((f_X8_isIn v1 (0 : Int32) (20 : Int32)).bind fun o1 => (if o1.1 = (0 : Int32) then (some ((0 : Int32), ())) else (if v2 = (2 : Int32) then (if inb v1 21 = true then (some (((W_shares g_this) v1.toNatClampNeg), ())) else none) else (if v2 = (1 : Int32) then (if inb v1 21 = true then (if ((W_memories g_this) v1.toNatClampNeg) ≤ (0 : Int32) then (if inb v1 21 = true then (some (((W_guesses g_this) v1.toNatClampNeg), ())) else none) else (if inb v1 21 = true then (some (((W_memories g_this) v1.toNatClampNeg), ())) else none)) else none) else (if inb v1 21 = true then (some (((W_guesses g_this) v1.toNatClampNeg), ())) else none)))))
set_option maxHeartbeats 8000000 in
set_option maxRecDepth 100000 in
theorem c_X7_shareOf (l : Launch) (hlt : l.stackTraces = false) (D : va_G) (dT : Nat → ClassId) (a_this : Nat → Nat) (g_this : TW) (v1 : Int32) (v2 : Int32) (o : (Int32 × (Unit))) (h : f_X7_shareOf g_this v1 v2 = some o) (sz : Nat) : Met l yX7_shareOf (WSm yX7_shareOf cX7_shareOf 3 (some .int)) { frames := 1, cells := 0, slots := 0, locals := 22 } (va_Pc [.ref (a_this 0), .int v1, .int v2] (cPre D dT (cW dT a_this g_this) sz)) (va_Qi (fun (r : Int32) (u : Unit) => r = o.1 ∧ u = o.2) (fun u t => cAt D dT (va_A (cW dT a_this g_this) sz) (cW dT a_this g_this) t) (va_A (cW dT a_this g_this) sz)) 0 0 (va_A (cW dT a_this g_this) sz) := by
  refine mStart (WS := (cW dT a_this g_this)) (Qc := fun A => va_Qi (fun (r : Int32) (u : Unit) => r = o.1 ∧ u = o.2) (fun u t => cAt D dT A (cW dT a_this g_this) t) A) RX7 rfl (by decide) (Nat.le_of_ble_eq_true rfl) ?_ sz
  intro p e s m below meth c A ls hx hb hml hr hlk hnm hts hqs hown hE hA hK hP hD hS hl
  have hl : lv_has ls 3 [(0, .ref (a_this 0)), (1, .int v1), (2, .int v2)] := hl
  unfold f_X7_shareOf at h
  refine lv_iload_n hx hb dX7_shareOf_0 rfl (lv_at hl 1 rfl) ?_
  refine lv_iconst (v := 0) hx hb dX7_shareOf_1 (by decide) ?_
  refine lv_bipush (v := 20) hx hb dX7_shareOf_2 (by decide) ?_
  obtain ⟨o1, e1, h⟩ := obind h
  have hPc := hP.sub (ws' := ([] : va_W)) [] rfl
  have hDc := hD.sub (ws' := ([] : va_W)) [] (by decide) rfl
  have hFc := va_free (wc := ([] : va_W)) hD hS hA [] rfl
  refine cl_i (wr := (cW dT a_this g_this)) (va_runSN (As := [.int v1, .int (0 : Int32), .int (20 : Int32)]) (rest := []) ⟨hx, hb, hml, hown, hts⟩ (c_X8_isIn l hlt D dT v1 (0 : Int32) (20 : Int32) o1 e1 _) ⟨va_cnB 3 hts (TB_in (WSm_in w_332)) rfl rfl rfl (hE.1 (RX7, 71, yX8_isIn, RX8) (List.mem_of_getElem? (i := 14) rfl)) (hqs _ w_50) nd_X8_isIn ⟨Nat.le_of_ble_eq_true rfl, Nat.le_of_ble_eq_true rfl⟩, hqs _ w_331, trivial⟩ (cPre.S hPc hDc hK hE hS hFc) rfl rfl hl.1 rfl (lv_room (Nat.le_of_ble_eq_true rfl)) dX7_shareOf_4 ⟨Nat.zero_le _, Nat.zero_le _⟩) hP hD hS hFc [] [0, 1, 2, 3, 4, 5, 6, 7, 8, 9] rfl rfl (by decide) (by decide) (fun r1 u1 H locs hw hP hD hS => ?_)
  obtain ⟨rfl, rfl⟩ := hw
  have hP : va_P D vwCl (cW dT a_this g_this) H := hP
  have hD : va_D A (cW dT a_this g_this) := hD
  refine lv_if_ne (tgt := 12) hx hb dX7_shareOf_7 (by decide) (fun c2 => ?_) (fun c2 => ?_)
  · replace h := iteF c2 h
    refine lv_iload_n hx hb dX7_shareOf_12 rfl (lv_at hl 2 rfl) ?_
    refine lv_iconst (v := 2) hx hb dX7_shareOf_13 (by decide) ?_
    refine lv_icmp_ne (tgt := 24) hx hb dX7_shareOf_14 (by decide) (fun c3 => ?_) (fun c3 => ?_)
    · replace h := iteF c3 h
      refine lv_iload_n hx hb dX7_shareOf_24 rfl (lv_at hl 2 rfl) ?_
      refine lv_iconst (v := 1) hx hb dX7_shareOf_25 (by decide) ?_
      refine lv_icmp_ne (tgt := 47) hx hb dX7_shareOf_26 (by decide) (fun c4 => ?_) (fun c4 => ?_)
      · replace h := iteF c4 h
        refine lv_aload_n hx hb dX7_shareOf_47 rfl (lv_at hl 0 rfl) ?_
        refine gf_X7_30 (v := .ref (a_this 4)) hx hb hqs hown hK hP 0 rfl rfl dX7_shareOf_48 ?_
        refine lv_iload_n hx hb dX7_shareOf_51 rfl (lv_at hl 1 rfl) ?_
        obtain ⟨g5, h⟩ := chk h
        refine va_iald hx hb hK hP 4 0 rfl rfl (inb_in g5) dX7_shareOf_52 ?_
        exact rt_i hx hb hr hlk hK hS (() : Unit) (ret2 h) hP hD dX7_shareOf_53
      · replace h := iteT c4 h
        refine lv_aload_n hx hb dX7_shareOf_29 rfl (lv_at hl 0 rfl) ?_
        refine gf_X7_36 (v := .ref (a_this 6)) hx hb hqs hown hK hP 0 rfl rfl dX7_shareOf_30 ?_
        refine lv_iload_n hx hb dX7_shareOf_33 rfl (lv_at hl 1 rfl) ?_
        obtain ⟨g6, h⟩ := chk h
        refine va_iald hx hb hK hP 6 0 rfl rfl (inb_in g6) dX7_shareOf_34 ?_
        refine lv_if_le (tgt := 47) hx hb dX7_shareOf_35 (by decide) (fun c7 => ?_) (fun c7 => ?_)
        · replace h := iteT c7 h
          refine lv_aload_n hx hb dX7_shareOf_47 rfl (lv_at hl 0 rfl) ?_
          refine gf_X7_30 (v := .ref (a_this 4)) hx hb hqs hown hK hP 0 rfl rfl dX7_shareOf_48 ?_
          refine lv_iload_n hx hb dX7_shareOf_51 rfl (lv_at hl 1 rfl) ?_
          obtain ⟨g8, h⟩ := chk h
          refine va_iald hx hb hK hP 4 0 rfl rfl (inb_in g8) dX7_shareOf_52 ?_
          exact rt_i hx hb hr hlk hK hS (() : Unit) (ret2 h) hP hD dX7_shareOf_53
        · replace h := iteF c7 h
          refine lv_aload_n hx hb dX7_shareOf_38 rfl (lv_at hl 0 rfl) ?_
          refine gf_X7_36 (v := .ref (a_this 6)) hx hb hqs hown hK hP 0 rfl rfl dX7_shareOf_39 ?_
          refine lv_iload_n hx hb dX7_shareOf_42 rfl (lv_at hl 1 rfl) ?_
          obtain ⟨g9, h⟩ := chk h
          refine va_iald hx hb hK hP 6 0 rfl rfl (inb_in g9) dX7_shareOf_43 ?_
          refine lv_goto (tgt := 53) hx hb dX7_shareOf_44 (by decide) ?_
          exact rt_i hx hb hr hlk hK hS (() : Unit) (ret2 h) hP hD dX7_shareOf_53
    · replace h := iteT c3 h
      refine lv_aload_n hx hb dX7_shareOf_17 rfl (lv_at hl 0 rfl) ?_
      refine gf_X7_33 (v := .ref (a_this 5)) hx hb hqs hown hK hP 0 rfl rfl dX7_shareOf_18 ?_
      refine lv_iload_n hx hb dX7_shareOf_21 rfl (lv_at hl 1 rfl) ?_
      obtain ⟨g10, h⟩ := chk h
      refine va_iald hx hb hK hP 5 0 rfl rfl (inb_in g10) dX7_shareOf_22 ?_
      exact rt_i hx hb hr hlk hK hS (() : Unit) (ret2 h) hP hD dX7_shareOf_23
  · replace h := iteT c2 h
    refine lv_iconst (v := 0) hx hb dX7_shareOf_10 (by decide) ?_
    exact rt_i hx hb hr hlk hK hS (() : Unit) (ret2 h) hP hD dX7_shareOf_11

def f_X7_makeNew_L22  (k40 : TW → Option (Unit × (TW))) : Nat → Int32 → TW → Option (Unit × (TW))
  | 0, _, _ => none
  | n + 1, x1, g_this =>
    (if (4 : Int32) ≤ x1 then (k40 g_this) else (if inb x1 4 = true then (f_X7_makeNew_L22 k40 n (x1 + (1 : Int32)) (W_mk (W_tables g_this) (W_weeks g_this) (W_runs g_this) (W_surprises g_this) (vp_updL (W_sums g_this) x1.toNatClampNeg (0 : Int64)) (W_settings g_this) (W_sizes g_this) (W_guesses g_this) (W_shares g_this) (W_memories g_this) (W_ages g_this) (W_surprisesOf g_this) (W_told g_this))) else none))
def f_X7_makeNew_L55   : Nat → Int32 → TW → Option (Unit × (TW))
  | 0, _, _ => none
  | n + 1, x1, g_this =>
    (if (21 : Int32) ≤ x1 then (some ((), g_this)) else (if inb x1 21 = true then (if inb x1 21 = true then (if inb x1 21 = true then (if inb x1 21 = true then (if inb x1 21 = true then (f_X7_makeNew_L55 n (x1 + (1 : Int32)) (W_mk (W_tables g_this) (W_weeks g_this) (W_runs g_this) (W_surprises g_this) (W_sums g_this) (W_settings g_this) (W_sizes g_this) (upd (W_guesses g_this) x1.toNatClampNeg (0 : Int32)) (upd (W_shares g_this) x1.toNatClampNeg (0 : Int32)) (upd (W_memories g_this) x1.toNatClampNeg (0 : Int32)) (upd (W_ages g_this) x1.toNatClampNeg (0 : Int32)) (upd (W_surprisesOf g_this) x1.toNatClampNeg (0 : Int32)) (W_told g_this))) else none) else none) else none) else none) else none))
def f_X7_makeNew (g_this : TW) : Option (Unit × (TW)) :=
  (f_X7_makeNew_L22 (fun (y3g_this : TW) => (f_X7_makeNew_L55 FUEL (0 : Int32) (W_mk (W_tables y3g_this) (W_weeks y3g_this) (W_runs y3g_this) (W_surprises y3g_this) (W_sums y3g_this) (va_cpy (fun j => ([50, 10, 4] : List Int32).getD j 0) (W_settings y3g_this) (0 : Int32).toNatClampNeg (0 : Int32).toNatClampNeg (3 : Int32).toNatClampNeg) (W_sizes y3g_this) (W_guesses y3g_this) (W_shares y3g_this) (W_memories y3g_this) (W_ages y3g_this) (W_surprisesOf y3g_this) (W_told y3g_this)))) FUEL (0 : Int32) (W_mk (0 : Int32) (0 : Int32) (0 : Int32) (0 : Int32) (W_sums g_this) (W_settings g_this) (W_sizes g_this) (W_guesses g_this) (W_shares g_this) (W_memories g_this) (W_ages g_this) (W_surprisesOf g_this) (W_told g_this)))
set_option maxHeartbeats 8000000 in
set_option maxRecDepth 100000 in
theorem c_X7_makeNew (l : Launch) (hlt : l.stackTraces = false) (D : va_G) (dT : Nat → ClassId) (a_this : Nat → Nat) (g_this : TW) (o : (Unit × (TW))) (h : f_X7_makeNew g_this = some o) (sz : Nat) : Met l yX7_makeNew (WSm yX7_makeNew cX7_makeNew 2 none) { frames := 1, cells := 0, slots := 0, locals := 48 } (va_Pc [.ref (a_this 0)] (cPre D dT (cW dT a_this g_this) sz)) (va_Qv (fun (u : TW) => u = o.2) (fun u t => cAt D dT (va_A (cW dT a_this g_this) sz) (cW dT a_this u) t) (va_A (cW dT a_this g_this) sz)) 0 0 (va_A (cW dT a_this g_this) sz) := by
  refine mStart (WS := (cW dT a_this g_this)) (Qc := fun A => va_Qv (fun (u : TW) => u = o.2) (fun u t => cAt D dT A (cW dT a_this u) t) A) RX7 rfl (by decide) (Nat.le_of_ble_eq_true rfl) ?_ sz
  intro p e s m below meth c A ls hx hb hml hr hlk hnm hts hqs hown hE hA hK hP hD hS hl
  have hl : lv_has ls 2 [(0, .ref (a_this 0))] := hl
  have L_f_X7_makeNew_L22 : ∀  (k40 : TW → Option (Unit × (TW))) (hk40 : ∀ (g_this : TW) (H : Heap) (locs : List Loc) (ls : Array Slot), k40 g_this = some o → va_P D vwCl (cW dT a_this g_this) H → va_D A (cW dT a_this g_this) → va_S A s.heap H locs → lv_has ls 2 [(0, .ref (a_this 0))] → W p l e (headSpec (WSm yX7_makeNew cX7_makeNew 2 none) { frames := 1, cells := 0, slots := 0, locals := 48 }).room s m [.ref (a_this 0)].toArray below meth c H locs 0 0 (MQ below (va_Qv (fun (u : TW) => u = o.2) (fun u t => cAt D dT A (cW dT a_this u) t) A) [.ref (a_this 0)].toArray s 0 0 A) (F0 m 40 ls [])) (n : Nat), ∀ (x1 : Int32) (g_this : TW) (H : Heap) (locs : List Loc) (ls : Array Slot), f_X7_makeNew_L22  k40 n x1 g_this = some o → va_P D vwCl (cW dT a_this g_this) H → va_D A (cW dT a_this g_this) → va_S A s.heap H locs → lv_has ls 2 [(0, .ref (a_this 0)), (1, .int x1)] → W p l e (headSpec (WSm yX7_makeNew cX7_makeNew 2 none) { frames := 1, cells := 0, slots := 0, locals := 48 }).room s m [.ref (a_this 0)].toArray below meth c H locs 0 0 (MQ below (va_Qv (fun (u : TW) => u = o.2) (fun u t => cAt D dT A (cW dT a_this u) t) A) [.ref (a_this 0)].toArray s 0 0 A) (F0 m 22 ls []) := by
    intro  k40 hk40 n
    induction n with
    | zero => intro x1 g_this H locs ls h; exact nomatch h
    | succ n ih =>
      intro x1 g_this H locs ls h hP hD hS hl
      unfold f_X7_makeNew_L22 at h
      refine lv_iload_n hx hb dX7_makeNew_22 rfl (lv_at hl 1 rfl) ?_
      refine lv_iconst (v := 4) hx hb dX7_makeNew_23 (by decide) ?_
      refine lv_icmp_ge (tgt := 40) hx hb dX7_makeNew_24 (by decide) (fun c1 => ?_) (fun c1 => ?_)
      · replace h := iteT c1 h
        exact hk40 g_this _ _ _ h hP hD hS (lv_sub hl [0] rfl)
      · replace h := iteF c1 h
        refine lv_aload_n hx hb dX7_makeNew_27 rfl (lv_at hl 0 rfl) ?_
        refine gf_X7_9 (v := .ref (a_this 1)) hx hb hqs hown hK hP 0 rfl rfl dX7_makeNew_28 ?_
        refine lv_iload_n hx hb dX7_makeNew_31 rfl (lv_at hl 1 rfl) ?_
        refine lv_lconst (v := 0) hx hb dX7_makeNew_32 (by decide) ?_
        obtain ⟨g2, h⟩ := chk h
        refine va_last hx hb hK hP hD hS 1 1 rfl rfl (inb_in g2) dX7_makeNew_33 (fun H locs hP hD hS => ?_)
        have hP : va_P D vwCl ([(a_this 0, .inr (6, [.int (W_tables g_this), .int (W_weeks g_this), .int (W_runs g_this), .int (W_surprises g_this), .ref (a_this 1), .ref (a_this 2), .ref (a_this 3), .ref (a_this 4), .ref (a_this 5), .ref (a_this 6), .ref (a_this 7), .ref (a_this 8), .ref (a_this 9)])), (a_this 1, .inl (dT 1, 4, .inr (.inl (vp_updL (W_sums g_this) x1.toNatClampNeg (0 : Int64))))), (a_this 2, .inl (dT 0, 3, .inl (W_settings g_this))), (a_this 3, .inl (dT 0, 7, .inl (W_sizes g_this))), (a_this 4, .inl (dT 0, 21, .inl (W_guesses g_this))), (a_this 5, .inl (dT 0, 21, .inl (W_shares g_this))), (a_this 6, .inl (dT 0, 21, .inl (W_memories g_this))), (a_this 7, .inl (dT 0, 21, .inl (W_ages g_this))), (a_this 8, .inl (dT 0, 21, .inl (W_surprisesOf g_this))), (a_this 9, .inl (dT 0, 40, .inl (W_told g_this)))]) H := hP
        have hD : va_D A ([(a_this 0, .inr (6, [.int (W_tables g_this), .int (W_weeks g_this), .int (W_runs g_this), .int (W_surprises g_this), .ref (a_this 1), .ref (a_this 2), .ref (a_this 3), .ref (a_this 4), .ref (a_this 5), .ref (a_this 6), .ref (a_this 7), .ref (a_this 8), .ref (a_this 9)])), (a_this 1, .inl (dT 1, 4, .inr (.inl (vp_updL (W_sums g_this) x1.toNatClampNeg (0 : Int64))))), (a_this 2, .inl (dT 0, 3, .inl (W_settings g_this))), (a_this 3, .inl (dT 0, 7, .inl (W_sizes g_this))), (a_this 4, .inl (dT 0, 21, .inl (W_guesses g_this))), (a_this 5, .inl (dT 0, 21, .inl (W_shares g_this))), (a_this 6, .inl (dT 0, 21, .inl (W_memories g_this))), (a_this 7, .inl (dT 0, 21, .inl (W_ages g_this))), (a_this 8, .inl (dT 0, 21, .inl (W_surprisesOf g_this))), (a_this 9, .inl (dT 0, 40, .inl (W_told g_this)))]) := hD
        refine lv_iinc (v := (x1 + (1 : Int32))) (lv' := [(1, .int (x1 + (1 : Int32))), (0, .ref (a_this 0))]) hx hb dX7_makeNew_34 hl (k := 1) rfl rfl (by decide) rfl (fun ls hl => ?_)
        refine lv_goto (tgt := 22) hx hb dX7_makeNew_37 (by decide) ?_
        exact ih (x1 + (1 : Int32)) (W_mk (W_tables g_this) (W_weeks g_this) (W_runs g_this) (W_surprises g_this) (vp_updL (W_sums g_this) x1.toNatClampNeg (0 : Int64)) (W_settings g_this) (W_sizes g_this) (W_guesses g_this) (W_shares g_this) (W_memories g_this) (W_ages g_this) (W_surprisesOf g_this) (W_told g_this)) _ _ _ h hP hD hS (lv_sub hl [1, 0] rfl)
  have L_f_X7_makeNew_L55 : ∀    (n : Nat), ∀ (x1 : Int32) (g_this : TW) (H : Heap) (locs : List Loc) (ls : Array Slot), f_X7_makeNew_L55   n x1 g_this = some o → va_P D vwCl (cW dT a_this g_this) H → va_D A (cW dT a_this g_this) → va_S A s.heap H locs → lv_has ls 2 [(0, .ref (a_this 0)), (1, .int x1)] → W p l e (headSpec (WSm yX7_makeNew cX7_makeNew 2 none) { frames := 1, cells := 0, slots := 0, locals := 48 }).room s m [.ref (a_this 0)].toArray below meth c H locs 0 0 (MQ below (va_Qv (fun (u : TW) => u = o.2) (fun u t => cAt D dT A (cW dT a_this u) t) A) [.ref (a_this 0)].toArray s 0 0 A) (F0 m 55 ls []) := by
    intro    n
    induction n with
    | zero => intro x1 g_this H locs ls h; exact nomatch h
    | succ n ih =>
      intro x1 g_this H locs ls h hP hD hS hl
      unfold f_X7_makeNew_L55 at h
      refine lv_iload_n hx hb dX7_makeNew_55 rfl (lv_at hl 1 rfl) ?_
      refine lv_bipush (v := 21) hx hb dX7_makeNew_56 (by decide) ?_
      refine lv_icmp_ge (tgt := 102) hx hb dX7_makeNew_58 (by decide) (fun c5 => ?_) (fun c5 => ?_)
      · replace h := iteT c5 h
        exact rt_v hx hb hr hlk hK hS (g_this : TW) (retv h) hP hD dX7_makeNew_102
      · replace h := iteF c5 h
        refine lv_aload_n hx hb dX7_makeNew_61 rfl (lv_at hl 0 rfl) ?_
        refine gf_X7_30 (v := .ref (a_this 4)) hx hb hqs hown hK hP 0 rfl rfl dX7_makeNew_62 ?_
        refine lv_iload_n hx hb dX7_makeNew_65 rfl (lv_at hl 1 rfl) ?_
        refine lv_iconst (v := 0) hx hb dX7_makeNew_66 (by decide) ?_
        obtain ⟨g6, h⟩ := chk h
        refine va_iast hx hb hK hP hD hS 4 0 rfl rfl (inb_in g6) dX7_makeNew_67 (fun H locs hP hD hS => ?_)
        have hP : va_P D vwCl ([(a_this 0, .inr (6, [.int (W_tables g_this), .int (W_weeks g_this), .int (W_runs g_this), .int (W_surprises g_this), .ref (a_this 1), .ref (a_this 2), .ref (a_this 3), .ref (a_this 4), .ref (a_this 5), .ref (a_this 6), .ref (a_this 7), .ref (a_this 8), .ref (a_this 9)])), (a_this 1, .inl (dT 1, 4, .inr (.inl (W_sums g_this)))), (a_this 2, .inl (dT 0, 3, .inl (W_settings g_this))), (a_this 3, .inl (dT 0, 7, .inl (W_sizes g_this))), (a_this 4, .inl (dT 0, 21, .inl (upd (W_guesses g_this) x1.toNatClampNeg (0 : Int32)))), (a_this 5, .inl (dT 0, 21, .inl (W_shares g_this))), (a_this 6, .inl (dT 0, 21, .inl (W_memories g_this))), (a_this 7, .inl (dT 0, 21, .inl (W_ages g_this))), (a_this 8, .inl (dT 0, 21, .inl (W_surprisesOf g_this))), (a_this 9, .inl (dT 0, 40, .inl (W_told g_this)))]) H := hP
        have hD : va_D A ([(a_this 0, .inr (6, [.int (W_tables g_this), .int (W_weeks g_this), .int (W_runs g_this), .int (W_surprises g_this), .ref (a_this 1), .ref (a_this 2), .ref (a_this 3), .ref (a_this 4), .ref (a_this 5), .ref (a_this 6), .ref (a_this 7), .ref (a_this 8), .ref (a_this 9)])), (a_this 1, .inl (dT 1, 4, .inr (.inl (W_sums g_this)))), (a_this 2, .inl (dT 0, 3, .inl (W_settings g_this))), (a_this 3, .inl (dT 0, 7, .inl (W_sizes g_this))), (a_this 4, .inl (dT 0, 21, .inl (upd (W_guesses g_this) x1.toNatClampNeg (0 : Int32)))), (a_this 5, .inl (dT 0, 21, .inl (W_shares g_this))), (a_this 6, .inl (dT 0, 21, .inl (W_memories g_this))), (a_this 7, .inl (dT 0, 21, .inl (W_ages g_this))), (a_this 8, .inl (dT 0, 21, .inl (W_surprisesOf g_this))), (a_this 9, .inl (dT 0, 40, .inl (W_told g_this)))]) := hD
        refine lv_aload_n hx hb dX7_makeNew_68 rfl (lv_at hl 0 rfl) ?_
        refine gf_X7_33 (v := .ref (a_this 5)) hx hb hqs hown hK hP 0 rfl rfl dX7_makeNew_69 ?_
        refine lv_iload_n hx hb dX7_makeNew_72 rfl (lv_at hl 1 rfl) ?_
        refine lv_iconst (v := 0) hx hb dX7_makeNew_73 (by decide) ?_
        obtain ⟨g7, h⟩ := chk h
        refine va_iast hx hb hK hP hD hS 5 0 rfl rfl (inb_in g7) dX7_makeNew_74 (fun H locs hP hD hS => ?_)
        have hP : va_P D vwCl ([(a_this 0, .inr (6, [.int (W_tables g_this), .int (W_weeks g_this), .int (W_runs g_this), .int (W_surprises g_this), .ref (a_this 1), .ref (a_this 2), .ref (a_this 3), .ref (a_this 4), .ref (a_this 5), .ref (a_this 6), .ref (a_this 7), .ref (a_this 8), .ref (a_this 9)])), (a_this 1, .inl (dT 1, 4, .inr (.inl (W_sums g_this)))), (a_this 2, .inl (dT 0, 3, .inl (W_settings g_this))), (a_this 3, .inl (dT 0, 7, .inl (W_sizes g_this))), (a_this 4, .inl (dT 0, 21, .inl (upd (W_guesses g_this) x1.toNatClampNeg (0 : Int32)))), (a_this 5, .inl (dT 0, 21, .inl (upd (W_shares g_this) x1.toNatClampNeg (0 : Int32)))), (a_this 6, .inl (dT 0, 21, .inl (W_memories g_this))), (a_this 7, .inl (dT 0, 21, .inl (W_ages g_this))), (a_this 8, .inl (dT 0, 21, .inl (W_surprisesOf g_this))), (a_this 9, .inl (dT 0, 40, .inl (W_told g_this)))]) H := hP
        have hD : va_D A ([(a_this 0, .inr (6, [.int (W_tables g_this), .int (W_weeks g_this), .int (W_runs g_this), .int (W_surprises g_this), .ref (a_this 1), .ref (a_this 2), .ref (a_this 3), .ref (a_this 4), .ref (a_this 5), .ref (a_this 6), .ref (a_this 7), .ref (a_this 8), .ref (a_this 9)])), (a_this 1, .inl (dT 1, 4, .inr (.inl (W_sums g_this)))), (a_this 2, .inl (dT 0, 3, .inl (W_settings g_this))), (a_this 3, .inl (dT 0, 7, .inl (W_sizes g_this))), (a_this 4, .inl (dT 0, 21, .inl (upd (W_guesses g_this) x1.toNatClampNeg (0 : Int32)))), (a_this 5, .inl (dT 0, 21, .inl (upd (W_shares g_this) x1.toNatClampNeg (0 : Int32)))), (a_this 6, .inl (dT 0, 21, .inl (W_memories g_this))), (a_this 7, .inl (dT 0, 21, .inl (W_ages g_this))), (a_this 8, .inl (dT 0, 21, .inl (W_surprisesOf g_this))), (a_this 9, .inl (dT 0, 40, .inl (W_told g_this)))]) := hD
        refine lv_aload_n hx hb dX7_makeNew_75 rfl (lv_at hl 0 rfl) ?_
        refine gf_X7_36 (v := .ref (a_this 6)) hx hb hqs hown hK hP 0 rfl rfl dX7_makeNew_76 ?_
        refine lv_iload_n hx hb dX7_makeNew_79 rfl (lv_at hl 1 rfl) ?_
        refine lv_iconst (v := 0) hx hb dX7_makeNew_80 (by decide) ?_
        obtain ⟨g8, h⟩ := chk h
        refine va_iast hx hb hK hP hD hS 6 0 rfl rfl (inb_in g8) dX7_makeNew_81 (fun H locs hP hD hS => ?_)
        have hP : va_P D vwCl ([(a_this 0, .inr (6, [.int (W_tables g_this), .int (W_weeks g_this), .int (W_runs g_this), .int (W_surprises g_this), .ref (a_this 1), .ref (a_this 2), .ref (a_this 3), .ref (a_this 4), .ref (a_this 5), .ref (a_this 6), .ref (a_this 7), .ref (a_this 8), .ref (a_this 9)])), (a_this 1, .inl (dT 1, 4, .inr (.inl (W_sums g_this)))), (a_this 2, .inl (dT 0, 3, .inl (W_settings g_this))), (a_this 3, .inl (dT 0, 7, .inl (W_sizes g_this))), (a_this 4, .inl (dT 0, 21, .inl (upd (W_guesses g_this) x1.toNatClampNeg (0 : Int32)))), (a_this 5, .inl (dT 0, 21, .inl (upd (W_shares g_this) x1.toNatClampNeg (0 : Int32)))), (a_this 6, .inl (dT 0, 21, .inl (upd (W_memories g_this) x1.toNatClampNeg (0 : Int32)))), (a_this 7, .inl (dT 0, 21, .inl (W_ages g_this))), (a_this 8, .inl (dT 0, 21, .inl (W_surprisesOf g_this))), (a_this 9, .inl (dT 0, 40, .inl (W_told g_this)))]) H := hP
        have hD : va_D A ([(a_this 0, .inr (6, [.int (W_tables g_this), .int (W_weeks g_this), .int (W_runs g_this), .int (W_surprises g_this), .ref (a_this 1), .ref (a_this 2), .ref (a_this 3), .ref (a_this 4), .ref (a_this 5), .ref (a_this 6), .ref (a_this 7), .ref (a_this 8), .ref (a_this 9)])), (a_this 1, .inl (dT 1, 4, .inr (.inl (W_sums g_this)))), (a_this 2, .inl (dT 0, 3, .inl (W_settings g_this))), (a_this 3, .inl (dT 0, 7, .inl (W_sizes g_this))), (a_this 4, .inl (dT 0, 21, .inl (upd (W_guesses g_this) x1.toNatClampNeg (0 : Int32)))), (a_this 5, .inl (dT 0, 21, .inl (upd (W_shares g_this) x1.toNatClampNeg (0 : Int32)))), (a_this 6, .inl (dT 0, 21, .inl (upd (W_memories g_this) x1.toNatClampNeg (0 : Int32)))), (a_this 7, .inl (dT 0, 21, .inl (W_ages g_this))), (a_this 8, .inl (dT 0, 21, .inl (W_surprisesOf g_this))), (a_this 9, .inl (dT 0, 40, .inl (W_told g_this)))]) := hD
        refine lv_aload_n hx hb dX7_makeNew_82 rfl (lv_at hl 0 rfl) ?_
        refine gf_X7_39 (v := .ref (a_this 7)) hx hb hqs hown hK hP 0 rfl rfl dX7_makeNew_83 ?_
        refine lv_iload_n hx hb dX7_makeNew_86 rfl (lv_at hl 1 rfl) ?_
        refine lv_iconst (v := 0) hx hb dX7_makeNew_87 (by decide) ?_
        obtain ⟨g9, h⟩ := chk h
        refine va_iast hx hb hK hP hD hS 7 0 rfl rfl (inb_in g9) dX7_makeNew_88 (fun H locs hP hD hS => ?_)
        have hP : va_P D vwCl ([(a_this 0, .inr (6, [.int (W_tables g_this), .int (W_weeks g_this), .int (W_runs g_this), .int (W_surprises g_this), .ref (a_this 1), .ref (a_this 2), .ref (a_this 3), .ref (a_this 4), .ref (a_this 5), .ref (a_this 6), .ref (a_this 7), .ref (a_this 8), .ref (a_this 9)])), (a_this 1, .inl (dT 1, 4, .inr (.inl (W_sums g_this)))), (a_this 2, .inl (dT 0, 3, .inl (W_settings g_this))), (a_this 3, .inl (dT 0, 7, .inl (W_sizes g_this))), (a_this 4, .inl (dT 0, 21, .inl (upd (W_guesses g_this) x1.toNatClampNeg (0 : Int32)))), (a_this 5, .inl (dT 0, 21, .inl (upd (W_shares g_this) x1.toNatClampNeg (0 : Int32)))), (a_this 6, .inl (dT 0, 21, .inl (upd (W_memories g_this) x1.toNatClampNeg (0 : Int32)))), (a_this 7, .inl (dT 0, 21, .inl (upd (W_ages g_this) x1.toNatClampNeg (0 : Int32)))), (a_this 8, .inl (dT 0, 21, .inl (W_surprisesOf g_this))), (a_this 9, .inl (dT 0, 40, .inl (W_told g_this)))]) H := hP
        have hD : va_D A ([(a_this 0, .inr (6, [.int (W_tables g_this), .int (W_weeks g_this), .int (W_runs g_this), .int (W_surprises g_this), .ref (a_this 1), .ref (a_this 2), .ref (a_this 3), .ref (a_this 4), .ref (a_this 5), .ref (a_this 6), .ref (a_this 7), .ref (a_this 8), .ref (a_this 9)])), (a_this 1, .inl (dT 1, 4, .inr (.inl (W_sums g_this)))), (a_this 2, .inl (dT 0, 3, .inl (W_settings g_this))), (a_this 3, .inl (dT 0, 7, .inl (W_sizes g_this))), (a_this 4, .inl (dT 0, 21, .inl (upd (W_guesses g_this) x1.toNatClampNeg (0 : Int32)))), (a_this 5, .inl (dT 0, 21, .inl (upd (W_shares g_this) x1.toNatClampNeg (0 : Int32)))), (a_this 6, .inl (dT 0, 21, .inl (upd (W_memories g_this) x1.toNatClampNeg (0 : Int32)))), (a_this 7, .inl (dT 0, 21, .inl (upd (W_ages g_this) x1.toNatClampNeg (0 : Int32)))), (a_this 8, .inl (dT 0, 21, .inl (W_surprisesOf g_this))), (a_this 9, .inl (dT 0, 40, .inl (W_told g_this)))]) := hD
        refine lv_aload_n hx hb dX7_makeNew_89 rfl (lv_at hl 0 rfl) ?_
        refine gf_X7_42 (v := .ref (a_this 8)) hx hb hqs hown hK hP 0 rfl rfl dX7_makeNew_90 ?_
        refine lv_iload_n hx hb dX7_makeNew_93 rfl (lv_at hl 1 rfl) ?_
        refine lv_iconst (v := 0) hx hb dX7_makeNew_94 (by decide) ?_
        obtain ⟨g10, h⟩ := chk h
        refine va_iast hx hb hK hP hD hS 8 0 rfl rfl (inb_in g10) dX7_makeNew_95 (fun H locs hP hD hS => ?_)
        have hP : va_P D vwCl ([(a_this 0, .inr (6, [.int (W_tables g_this), .int (W_weeks g_this), .int (W_runs g_this), .int (W_surprises g_this), .ref (a_this 1), .ref (a_this 2), .ref (a_this 3), .ref (a_this 4), .ref (a_this 5), .ref (a_this 6), .ref (a_this 7), .ref (a_this 8), .ref (a_this 9)])), (a_this 1, .inl (dT 1, 4, .inr (.inl (W_sums g_this)))), (a_this 2, .inl (dT 0, 3, .inl (W_settings g_this))), (a_this 3, .inl (dT 0, 7, .inl (W_sizes g_this))), (a_this 4, .inl (dT 0, 21, .inl (upd (W_guesses g_this) x1.toNatClampNeg (0 : Int32)))), (a_this 5, .inl (dT 0, 21, .inl (upd (W_shares g_this) x1.toNatClampNeg (0 : Int32)))), (a_this 6, .inl (dT 0, 21, .inl (upd (W_memories g_this) x1.toNatClampNeg (0 : Int32)))), (a_this 7, .inl (dT 0, 21, .inl (upd (W_ages g_this) x1.toNatClampNeg (0 : Int32)))), (a_this 8, .inl (dT 0, 21, .inl (upd (W_surprisesOf g_this) x1.toNatClampNeg (0 : Int32)))), (a_this 9, .inl (dT 0, 40, .inl (W_told g_this)))]) H := hP
        have hD : va_D A ([(a_this 0, .inr (6, [.int (W_tables g_this), .int (W_weeks g_this), .int (W_runs g_this), .int (W_surprises g_this), .ref (a_this 1), .ref (a_this 2), .ref (a_this 3), .ref (a_this 4), .ref (a_this 5), .ref (a_this 6), .ref (a_this 7), .ref (a_this 8), .ref (a_this 9)])), (a_this 1, .inl (dT 1, 4, .inr (.inl (W_sums g_this)))), (a_this 2, .inl (dT 0, 3, .inl (W_settings g_this))), (a_this 3, .inl (dT 0, 7, .inl (W_sizes g_this))), (a_this 4, .inl (dT 0, 21, .inl (upd (W_guesses g_this) x1.toNatClampNeg (0 : Int32)))), (a_this 5, .inl (dT 0, 21, .inl (upd (W_shares g_this) x1.toNatClampNeg (0 : Int32)))), (a_this 6, .inl (dT 0, 21, .inl (upd (W_memories g_this) x1.toNatClampNeg (0 : Int32)))), (a_this 7, .inl (dT 0, 21, .inl (upd (W_ages g_this) x1.toNatClampNeg (0 : Int32)))), (a_this 8, .inl (dT 0, 21, .inl (upd (W_surprisesOf g_this) x1.toNatClampNeg (0 : Int32)))), (a_this 9, .inl (dT 0, 40, .inl (W_told g_this)))]) := hD
        refine lv_iinc (v := (x1 + (1 : Int32))) (lv' := [(1, .int (x1 + (1 : Int32))), (0, .ref (a_this 0))]) hx hb dX7_makeNew_96 hl (k := 1) rfl rfl (by decide) rfl (fun ls hl => ?_)
        refine lv_goto (tgt := 55) hx hb dX7_makeNew_99 (by decide) ?_
        exact ih (x1 + (1 : Int32)) (W_mk (W_tables g_this) (W_weeks g_this) (W_runs g_this) (W_surprises g_this) (W_sums g_this) (W_settings g_this) (W_sizes g_this) (upd (W_guesses g_this) x1.toNatClampNeg (0 : Int32)) (upd (W_shares g_this) x1.toNatClampNeg (0 : Int32)) (upd (W_memories g_this) x1.toNatClampNeg (0 : Int32)) (upd (W_ages g_this) x1.toNatClampNeg (0 : Int32)) (upd (W_surprisesOf g_this) x1.toNatClampNeg (0 : Int32)) (W_told g_this)) _ _ _ h hP hD hS (lv_sub hl [1, 0] rfl)
  unfold f_X7_makeNew at h
  refine lv_aload_n hx hb dX7_makeNew_0 rfl (lv_at hl 0 rfl) ?_
  refine lv_iconst (v := 0) hx hb dX7_makeNew_1 (by decide) ?_
  refine pf_X7_48 hx hb hqs hown hK hP hD hS 0 rfl rfl dX7_makeNew_2 (fun H locs hP hD hS => ?_)
  have hP : va_P D vwCl ([(a_this 0, .inr (6, [.int (0 : Int32), .int (W_weeks g_this), .int (W_runs g_this), .int (W_surprises g_this), .ref (a_this 1), .ref (a_this 2), .ref (a_this 3), .ref (a_this 4), .ref (a_this 5), .ref (a_this 6), .ref (a_this 7), .ref (a_this 8), .ref (a_this 9)])), (a_this 1, .inl (dT 1, 4, .inr (.inl (W_sums g_this)))), (a_this 2, .inl (dT 0, 3, .inl (W_settings g_this))), (a_this 3, .inl (dT 0, 7, .inl (W_sizes g_this))), (a_this 4, .inl (dT 0, 21, .inl (W_guesses g_this))), (a_this 5, .inl (dT 0, 21, .inl (W_shares g_this))), (a_this 6, .inl (dT 0, 21, .inl (W_memories g_this))), (a_this 7, .inl (dT 0, 21, .inl (W_ages g_this))), (a_this 8, .inl (dT 0, 21, .inl (W_surprisesOf g_this))), (a_this 9, .inl (dT 0, 40, .inl (W_told g_this)))]) H := hP
  have hD : va_D A ([(a_this 0, .inr (6, [.int (0 : Int32), .int (W_weeks g_this), .int (W_runs g_this), .int (W_surprises g_this), .ref (a_this 1), .ref (a_this 2), .ref (a_this 3), .ref (a_this 4), .ref (a_this 5), .ref (a_this 6), .ref (a_this 7), .ref (a_this 8), .ref (a_this 9)])), (a_this 1, .inl (dT 1, 4, .inr (.inl (W_sums g_this)))), (a_this 2, .inl (dT 0, 3, .inl (W_settings g_this))), (a_this 3, .inl (dT 0, 7, .inl (W_sizes g_this))), (a_this 4, .inl (dT 0, 21, .inl (W_guesses g_this))), (a_this 5, .inl (dT 0, 21, .inl (W_shares g_this))), (a_this 6, .inl (dT 0, 21, .inl (W_memories g_this))), (a_this 7, .inl (dT 0, 21, .inl (W_ages g_this))), (a_this 8, .inl (dT 0, 21, .inl (W_surprisesOf g_this))), (a_this 9, .inl (dT 0, 40, .inl (W_told g_this)))]) := hD
  refine lv_aload_n hx hb dX7_makeNew_5 rfl (lv_at hl 0 rfl) ?_
  refine lv_iconst (v := 0) hx hb dX7_makeNew_6 (by decide) ?_
  refine pf_X7_52 hx hb hqs hown hK hP hD hS 0 rfl rfl dX7_makeNew_7 (fun H locs hP hD hS => ?_)
  have hP : va_P D vwCl ([(a_this 0, .inr (6, [.int (0 : Int32), .int (0 : Int32), .int (W_runs g_this), .int (W_surprises g_this), .ref (a_this 1), .ref (a_this 2), .ref (a_this 3), .ref (a_this 4), .ref (a_this 5), .ref (a_this 6), .ref (a_this 7), .ref (a_this 8), .ref (a_this 9)])), (a_this 1, .inl (dT 1, 4, .inr (.inl (W_sums g_this)))), (a_this 2, .inl (dT 0, 3, .inl (W_settings g_this))), (a_this 3, .inl (dT 0, 7, .inl (W_sizes g_this))), (a_this 4, .inl (dT 0, 21, .inl (W_guesses g_this))), (a_this 5, .inl (dT 0, 21, .inl (W_shares g_this))), (a_this 6, .inl (dT 0, 21, .inl (W_memories g_this))), (a_this 7, .inl (dT 0, 21, .inl (W_ages g_this))), (a_this 8, .inl (dT 0, 21, .inl (W_surprisesOf g_this))), (a_this 9, .inl (dT 0, 40, .inl (W_told g_this)))]) H := hP
  have hD : va_D A ([(a_this 0, .inr (6, [.int (0 : Int32), .int (0 : Int32), .int (W_runs g_this), .int (W_surprises g_this), .ref (a_this 1), .ref (a_this 2), .ref (a_this 3), .ref (a_this 4), .ref (a_this 5), .ref (a_this 6), .ref (a_this 7), .ref (a_this 8), .ref (a_this 9)])), (a_this 1, .inl (dT 1, 4, .inr (.inl (W_sums g_this)))), (a_this 2, .inl (dT 0, 3, .inl (W_settings g_this))), (a_this 3, .inl (dT 0, 7, .inl (W_sizes g_this))), (a_this 4, .inl (dT 0, 21, .inl (W_guesses g_this))), (a_this 5, .inl (dT 0, 21, .inl (W_shares g_this))), (a_this 6, .inl (dT 0, 21, .inl (W_memories g_this))), (a_this 7, .inl (dT 0, 21, .inl (W_ages g_this))), (a_this 8, .inl (dT 0, 21, .inl (W_surprisesOf g_this))), (a_this 9, .inl (dT 0, 40, .inl (W_told g_this)))]) := hD
  refine lv_aload_n hx hb dX7_makeNew_10 rfl (lv_at hl 0 rfl) ?_
  refine lv_iconst (v := 0) hx hb dX7_makeNew_11 (by decide) ?_
  refine pf_X7_55 hx hb hqs hown hK hP hD hS 0 rfl rfl dX7_makeNew_12 (fun H locs hP hD hS => ?_)
  have hP : va_P D vwCl ([(a_this 0, .inr (6, [.int (0 : Int32), .int (0 : Int32), .int (0 : Int32), .int (W_surprises g_this), .ref (a_this 1), .ref (a_this 2), .ref (a_this 3), .ref (a_this 4), .ref (a_this 5), .ref (a_this 6), .ref (a_this 7), .ref (a_this 8), .ref (a_this 9)])), (a_this 1, .inl (dT 1, 4, .inr (.inl (W_sums g_this)))), (a_this 2, .inl (dT 0, 3, .inl (W_settings g_this))), (a_this 3, .inl (dT 0, 7, .inl (W_sizes g_this))), (a_this 4, .inl (dT 0, 21, .inl (W_guesses g_this))), (a_this 5, .inl (dT 0, 21, .inl (W_shares g_this))), (a_this 6, .inl (dT 0, 21, .inl (W_memories g_this))), (a_this 7, .inl (dT 0, 21, .inl (W_ages g_this))), (a_this 8, .inl (dT 0, 21, .inl (W_surprisesOf g_this))), (a_this 9, .inl (dT 0, 40, .inl (W_told g_this)))]) H := hP
  have hD : va_D A ([(a_this 0, .inr (6, [.int (0 : Int32), .int (0 : Int32), .int (0 : Int32), .int (W_surprises g_this), .ref (a_this 1), .ref (a_this 2), .ref (a_this 3), .ref (a_this 4), .ref (a_this 5), .ref (a_this 6), .ref (a_this 7), .ref (a_this 8), .ref (a_this 9)])), (a_this 1, .inl (dT 1, 4, .inr (.inl (W_sums g_this)))), (a_this 2, .inl (dT 0, 3, .inl (W_settings g_this))), (a_this 3, .inl (dT 0, 7, .inl (W_sizes g_this))), (a_this 4, .inl (dT 0, 21, .inl (W_guesses g_this))), (a_this 5, .inl (dT 0, 21, .inl (W_shares g_this))), (a_this 6, .inl (dT 0, 21, .inl (W_memories g_this))), (a_this 7, .inl (dT 0, 21, .inl (W_ages g_this))), (a_this 8, .inl (dT 0, 21, .inl (W_surprisesOf g_this))), (a_this 9, .inl (dT 0, 40, .inl (W_told g_this)))]) := hD
  refine lv_aload_n hx hb dX7_makeNew_15 rfl (lv_at hl 0 rfl) ?_
  refine lv_iconst (v := 0) hx hb dX7_makeNew_16 (by decide) ?_
  refine pf_X7_58 hx hb hqs hown hK hP hD hS 0 rfl rfl dX7_makeNew_17 (fun H locs hP hD hS => ?_)
  have hP : va_P D vwCl ([(a_this 0, .inr (6, [.int (0 : Int32), .int (0 : Int32), .int (0 : Int32), .int (0 : Int32), .ref (a_this 1), .ref (a_this 2), .ref (a_this 3), .ref (a_this 4), .ref (a_this 5), .ref (a_this 6), .ref (a_this 7), .ref (a_this 8), .ref (a_this 9)])), (a_this 1, .inl (dT 1, 4, .inr (.inl (W_sums g_this)))), (a_this 2, .inl (dT 0, 3, .inl (W_settings g_this))), (a_this 3, .inl (dT 0, 7, .inl (W_sizes g_this))), (a_this 4, .inl (dT 0, 21, .inl (W_guesses g_this))), (a_this 5, .inl (dT 0, 21, .inl (W_shares g_this))), (a_this 6, .inl (dT 0, 21, .inl (W_memories g_this))), (a_this 7, .inl (dT 0, 21, .inl (W_ages g_this))), (a_this 8, .inl (dT 0, 21, .inl (W_surprisesOf g_this))), (a_this 9, .inl (dT 0, 40, .inl (W_told g_this)))]) H := hP
  have hD : va_D A ([(a_this 0, .inr (6, [.int (0 : Int32), .int (0 : Int32), .int (0 : Int32), .int (0 : Int32), .ref (a_this 1), .ref (a_this 2), .ref (a_this 3), .ref (a_this 4), .ref (a_this 5), .ref (a_this 6), .ref (a_this 7), .ref (a_this 8), .ref (a_this 9)])), (a_this 1, .inl (dT 1, 4, .inr (.inl (W_sums g_this)))), (a_this 2, .inl (dT 0, 3, .inl (W_settings g_this))), (a_this 3, .inl (dT 0, 7, .inl (W_sizes g_this))), (a_this 4, .inl (dT 0, 21, .inl (W_guesses g_this))), (a_this 5, .inl (dT 0, 21, .inl (W_shares g_this))), (a_this 6, .inl (dT 0, 21, .inl (W_memories g_this))), (a_this 7, .inl (dT 0, 21, .inl (W_ages g_this))), (a_this 8, .inl (dT 0, 21, .inl (W_surprisesOf g_this))), (a_this 9, .inl (dT 0, 40, .inl (W_told g_this)))]) := hD
  refine lv_iconst (v := 0) hx hb dX7_makeNew_20 (by decide) ?_
  refine lv_istore_n (lv' := [(1, .int (0 : Int32)), (0, .ref (a_this 0))]) hx hb dX7_makeNew_21 rfl hl (by decide) rfl (fun ls hl => ?_)
  refine L_f_X7_makeNew_L22  _ ?_ FUEL (0 : Int32) (W_mk (0 : Int32) (0 : Int32) (0 : Int32) (0 : Int32) (W_sums g_this) (W_settings g_this) (W_sizes g_this) (W_guesses g_this) (W_shares g_this) (W_memories g_this) (W_ages g_this) (W_surprisesOf g_this) (W_told g_this)) _ _ _ h hP hD hS (lv_sub hl [1, 0] rfl)
  · intro y3g_this H locs ls h hP hD hS hl
    obtain ⟨t4, z4, s4⟩ := hE.2.2.2.2.2.2.1 ("FIRST_SETTING", [50, 10, 4]) (List.mem_of_getElem? (i := 0) rfl)
    refine va_getsN (C := RX8) (n := "FIRST_SETTING") (d := "[I") (v := .ref t4) hx hb z4 hS hown (va_Nw.use rfl hE.2.1) (fun _ h9 => h9) dX7_makeNew_40 ?_
    refine lv_iconst (v := 0) hx hb dX7_makeNew_43 (by decide) ?_
    refine lv_aload_n hx hb dX7_makeNew_44 rfl (lv_at hl 0 rfl) ?_
    refine gf_X7_24 (v := .ref (a_this 2)) hx hb hqs hown hK hP 0 rfl rfl dX7_makeNew_45 ?_
    refine lv_iconst (v := 0) hx hb dX7_makeNew_48 (by decide) ?_
    refine lv_iconst (v := 3) hx hb dX7_makeNew_49 (by decide) ?_
    refine va_copyx hx hb (hml.trans hl.1.symm) hown (hqs _ w_524) (hqs _ w_526) (hqs _ w_525) (hqs _ w_65) hK hP hD hS (sT.X s4).1 (sT.X s4).2.1 (sT.X s4).2.2 2 0 rfl rfl (by decide) (by decide) (by decide) (by decide) (by decide) (Nat.le_of_ble_eq_true rfl) (Nat.le_of_ble_eq_true rfl) dX7_makeNew_50 (fun H locs hP hD hS => ?_)
    have hP : va_P D vwCl ([(a_this 0, .inr (6, [.int (W_tables y3g_this), .int (W_weeks y3g_this), .int (W_runs y3g_this), .int (W_surprises y3g_this), .ref (a_this 1), .ref (a_this 2), .ref (a_this 3), .ref (a_this 4), .ref (a_this 5), .ref (a_this 6), .ref (a_this 7), .ref (a_this 8), .ref (a_this 9)])), (a_this 1, .inl (dT 1, 4, .inr (.inl (W_sums y3g_this)))), (a_this 2, .inl (dT 0, 3, .inl (va_cpy (fun j => ([50, 10, 4] : List Int32).getD j 0) (W_settings y3g_this) (0 : Int32).toNatClampNeg (0 : Int32).toNatClampNeg (3 : Int32).toNatClampNeg))), (a_this 3, .inl (dT 0, 7, .inl (W_sizes y3g_this))), (a_this 4, .inl (dT 0, 21, .inl (W_guesses y3g_this))), (a_this 5, .inl (dT 0, 21, .inl (W_shares y3g_this))), (a_this 6, .inl (dT 0, 21, .inl (W_memories y3g_this))), (a_this 7, .inl (dT 0, 21, .inl (W_ages y3g_this))), (a_this 8, .inl (dT 0, 21, .inl (W_surprisesOf y3g_this))), (a_this 9, .inl (dT 0, 40, .inl (W_told y3g_this)))]) H := hP
    have hD : va_D A ([(a_this 0, .inr (6, [.int (W_tables y3g_this), .int (W_weeks y3g_this), .int (W_runs y3g_this), .int (W_surprises y3g_this), .ref (a_this 1), .ref (a_this 2), .ref (a_this 3), .ref (a_this 4), .ref (a_this 5), .ref (a_this 6), .ref (a_this 7), .ref (a_this 8), .ref (a_this 9)])), (a_this 1, .inl (dT 1, 4, .inr (.inl (W_sums y3g_this)))), (a_this 2, .inl (dT 0, 3, .inl (va_cpy (fun j => ([50, 10, 4] : List Int32).getD j 0) (W_settings y3g_this) (0 : Int32).toNatClampNeg (0 : Int32).toNatClampNeg (3 : Int32).toNatClampNeg))), (a_this 3, .inl (dT 0, 7, .inl (W_sizes y3g_this))), (a_this 4, .inl (dT 0, 21, .inl (W_guesses y3g_this))), (a_this 5, .inl (dT 0, 21, .inl (W_shares y3g_this))), (a_this 6, .inl (dT 0, 21, .inl (W_memories y3g_this))), (a_this 7, .inl (dT 0, 21, .inl (W_ages y3g_this))), (a_this 8, .inl (dT 0, 21, .inl (W_surprisesOf y3g_this))), (a_this 9, .inl (dT 0, 40, .inl (W_told y3g_this)))]) := hD
    refine lv_iconst (v := 0) hx hb dX7_makeNew_53 (by decide) ?_
    refine lv_istore_n (lv' := [(1, .int (0 : Int32)), (0, .ref (a_this 0))]) hx hb dX7_makeNew_54 rfl hl (by decide) rfl (fun ls hl => ?_)
    refine L_f_X7_makeNew_L55    FUEL (0 : Int32) (W_mk (W_tables y3g_this) (W_weeks y3g_this) (W_runs y3g_this) (W_surprises y3g_this) (W_sums y3g_this) (va_cpy (fun j => ([50, 10, 4] : List Int32).getD j 0) (W_settings y3g_this) (0 : Int32).toNatClampNeg (0 : Int32).toNatClampNeg (3 : Int32).toNatClampNeg) (W_sizes y3g_this) (W_guesses y3g_this) (W_shares y3g_this) (W_memories y3g_this) (W_ages y3g_this) (W_surprisesOf y3g_this) (W_told y3g_this)) _ _ _ h hP hD hS (lv_sub hl [1, 0] rfl)

def f_X7_hasTable (g_this : TW) (v1 : Int32) : Option (Int32 × (Unit)) :=
  (if v1 < (0 : Int32) then (some ((0 : Int32), ())) else (if (W_tables g_this) ≤ v1 then (some ((0 : Int32), ())) else (some ((1 : Int32), ()))))
set_option maxHeartbeats 8000000 in
set_option maxRecDepth 100000 in
theorem c_X7_hasTable (l : Launch) (hlt : l.stackTraces = false) (D : va_G) (dT : Nat → ClassId) (a_this : Nat → Nat) (g_this : TW) (v1 : Int32) (o : (Int32 × (Unit))) (h : f_X7_hasTable g_this v1 = some o) (sz : Nat) : Met l yX7_hasTable (WSm yX7_hasTable cX7_hasTable 2 (some .boolean)) { frames := 0, cells := 0, slots := 0, locals := 0 } (va_Pc [.ref (a_this 0), .int v1] (cPre D dT (cW dT a_this g_this) sz)) (va_Qi (fun (r : Int32) (u : Unit) => r = o.1 ∧ u = o.2) (fun u t => cAt D dT (va_A (cW dT a_this g_this) sz) (cW dT a_this g_this) t) (va_A (cW dT a_this g_this) sz)) 0 0 (va_A (cW dT a_this g_this) sz) := by
  refine mStart (WS := (cW dT a_this g_this)) (Qc := fun A => va_Qi (fun (r : Int32) (u : Unit) => r = o.1 ∧ u = o.2) (fun u t => cAt D dT A (cW dT a_this g_this) t) A) RX7 rfl (by decide) (Nat.le_of_ble_eq_true rfl) ?_ sz
  intro p e s m below meth c A ls hx hb hml hr hlk hnm hts hqs hown hE hA hK hP hD hS hl
  have hl : lv_has ls 2 [(0, .ref (a_this 0)), (1, .int v1)] := hl
  unfold f_X7_hasTable at h
  refine lv_iload_n hx hb dX7_hasTable_0 rfl (lv_at hl 1 rfl) ?_
  refine lv_if_lt (tgt := 16) hx hb dX7_hasTable_1 (by decide) (fun c1 => ?_) (fun c1 => ?_)
  · replace h := iteT c1 h
    refine lv_iconst (v := 0) hx hb dX7_hasTable_16 (by decide) ?_
    exact rt_z hx hb hr hlk hK hS (() : Unit) (ret2 h) (by decide) hP hD dX7_hasTable_17
  · replace h := iteF c1 h
    refine lv_iload_n hx hb dX7_hasTable_4 rfl (lv_at hl 1 rfl) ?_
    refine lv_aload_n hx hb dX7_hasTable_5 rfl (lv_at hl 0 rfl) ?_
    refine gf_X7_48 (v := .int (W_tables g_this)) hx hb hqs hown hK hP 0 rfl rfl dX7_hasTable_6 ?_
    refine lv_icmp_ge (tgt := 16) hx hb dX7_hasTable_9 (by decide) (fun c2 => ?_) (fun c2 => ?_)
    · replace h := iteT c2 h
      refine lv_iconst (v := 0) hx hb dX7_hasTable_16 (by decide) ?_
      exact rt_z hx hb hr hlk hK hS (() : Unit) (ret2 h) (by decide) hP hD dX7_hasTable_17
    · replace h := iteF c2 h
      refine lv_iconst (v := 1) hx hb dX7_hasTable_12 (by decide) ?_
      refine lv_goto (tgt := 17) hx hb dX7_hasTable_13 (by decide) ?_
      exact rt_z hx hb hr hlk hK hS (() : Unit) (ret2 h) (by decide) hP hD dX7_hasTable_17

def f_X7_hasTables (g_this : TW) (v1 : Int32) : Option (Int32 × (Unit)) :=
  (if v1 < (0 : Int32) then (some ((0 : Int32), ())) else (if (v1 >>> ((W_tables g_this) &&& 31)) = (0 : Int32) then (some ((1 : Int32), ())) else (some ((0 : Int32), ()))))
set_option maxHeartbeats 8000000 in
set_option maxRecDepth 100000 in
theorem c_X7_hasTables (l : Launch) (hlt : l.stackTraces = false) (D : va_G) (dT : Nat → ClassId) (a_this : Nat → Nat) (g_this : TW) (v1 : Int32) (o : (Int32 × (Unit))) (h : f_X7_hasTables g_this v1 = some o) (sz : Nat) : Met l yX7_hasTables (WSm yX7_hasTables cX7_hasTables 2 (some .boolean)) { frames := 0, cells := 0, slots := 0, locals := 0 } (va_Pc [.ref (a_this 0), .int v1] (cPre D dT (cW dT a_this g_this) sz)) (va_Qi (fun (r : Int32) (u : Unit) => r = o.1 ∧ u = o.2) (fun u t => cAt D dT (va_A (cW dT a_this g_this) sz) (cW dT a_this g_this) t) (va_A (cW dT a_this g_this) sz)) 0 0 (va_A (cW dT a_this g_this) sz) := by
  refine mStart (WS := (cW dT a_this g_this)) (Qc := fun A => va_Qi (fun (r : Int32) (u : Unit) => r = o.1 ∧ u = o.2) (fun u t => cAt D dT A (cW dT a_this g_this) t) A) RX7 rfl (by decide) (Nat.le_of_ble_eq_true rfl) ?_ sz
  intro p e s m below meth c A ls hx hb hml hr hlk hnm hts hqs hown hE hA hK hP hD hS hl
  have hl : lv_has ls 2 [(0, .ref (a_this 0)), (1, .int v1)] := hl
  unfold f_X7_hasTables at h
  refine lv_iload_n hx hb dX7_hasTables_0 rfl (lv_at hl 1 rfl) ?_
  refine lv_if_lt (tgt := 17) hx hb dX7_hasTables_1 (by decide) (fun c1 => ?_) (fun c1 => ?_)
  · replace h := iteT c1 h
    refine lv_iconst (v := 0) hx hb dX7_hasTables_17 (by decide) ?_
    exact rt_z hx hb hr hlk hK hS (() : Unit) (ret2 h) (by decide) hP hD dX7_hasTables_18
  · replace h := iteF c1 h
    refine lv_iload_n hx hb dX7_hasTables_4 rfl (lv_at hl 1 rfl) ?_
    refine lv_aload_n hx hb dX7_hasTables_5 rfl (lv_at hl 0 rfl) ?_
    refine gf_X7_48 (v := .int (W_tables g_this)) hx hb hqs hown hK hP 0 rfl rfl dX7_hasTables_6 ?_
    refine lv_ishr hx hb dX7_hasTables_9 ?_
    refine lv_if_ne (tgt := 17) hx hb dX7_hasTables_10 (by decide) (fun c2 => ?_) (fun c2 => ?_)
    · replace h := iteF c2 h
      refine lv_iconst (v := 0) hx hb dX7_hasTables_17 (by decide) ?_
      exact rt_z hx hb hr hlk hK hS (() : Unit) (ret2 h) (by decide) hP hD dX7_hasTables_18
    · replace h := iteT c2 h
      refine lv_iconst (v := 1) hx hb dX7_hasTables_13 (by decide) ?_
      refine lv_goto (tgt := 18) hx hb dX7_hasTables_14 (by decide) ?_
      exact rt_z hx hb hr hlk hK hS (() : Unit) (ret2 h) (by decide) hP hD dX7_hasTables_18

def f_X7_hasTwoTables (g_this : TW) (v1 : Int32) (v2 : Int32) : Option (Int32 × (Unit)) :=
  ((f_X7_hasTable g_this v1).bind fun o1 => (if o1.1 = (0 : Int32) then (some ((0 : Int32), ())) else ((f_X7_hasTable g_this v2).bind fun o3 => (if o3.1 = (0 : Int32) then (some ((0 : Int32), ())) else (if v1 = v2 then (some ((0 : Int32), ())) else (some ((1 : Int32), ())))))))
set_option maxHeartbeats 8000000 in
set_option maxRecDepth 100000 in
theorem c_X7_hasTwoTables (l : Launch) (hlt : l.stackTraces = false) (D : va_G) (dT : Nat → ClassId) (a_this : Nat → Nat) (g_this : TW) (v1 : Int32) (v2 : Int32) (o : (Int32 × (Unit))) (h : f_X7_hasTwoTables g_this v1 v2 = some o) (sz : Nat) : Met l yX7_hasTwoTables (WSm yX7_hasTwoTables cX7_hasTwoTables 3 (some .boolean)) { frames := 1, cells := 0, slots := 0, locals := 21 } (va_Pc [.ref (a_this 0), .int v1, .int v2] (cPre D dT (cW dT a_this g_this) sz)) (va_Qi (fun (r : Int32) (u : Unit) => r = o.1 ∧ u = o.2) (fun u t => cAt D dT (va_A (cW dT a_this g_this) sz) (cW dT a_this g_this) t) (va_A (cW dT a_this g_this) sz)) 0 0 (va_A (cW dT a_this g_this) sz) := by
  refine mStart (WS := (cW dT a_this g_this)) (Qc := fun A => va_Qi (fun (r : Int32) (u : Unit) => r = o.1 ∧ u = o.2) (fun u t => cAt D dT A (cW dT a_this g_this) t) A) RX7 rfl (by decide) (Nat.le_of_ble_eq_true rfl) ?_ sz
  intro p e s m below meth c A ls hx hb hml hr hlk hnm hts hqs hown hE hA hK hP hD hS hl
  have hl : lv_has ls 3 [(0, .ref (a_this 0)), (1, .int v1), (2, .int v2)] := hl
  unfold f_X7_hasTwoTables at h
  refine lv_aload_n hx hb dX7_hasTwoTables_0 rfl (lv_at hl 0 rfl) ?_
  refine lv_iload_n hx hb dX7_hasTwoTables_1 rfl (lv_at hl 1 rfl) ?_
  obtain ⟨o1, e1, h⟩ := obind h
  have hPc := hP
  have hDc := hD
  have hFc := vfall hD hS hA
  refine cl_iA (va_runV (As := [.int v1]) (rest := []) ⟨hx, hb, hml, hown, hts⟩ (c_X7_hasTable l hlt D dT a_this g_this v1 o1 e1 _) (cwV 1 hts (TB_V w_561 w_562 w_563 w_55 w_564) rfl rfl rfl ⟨rfl, nd_X7_hasTable⟩ ⟨Nat.le_of_ble_eq_true rfl, Nat.le_of_ble_eq_true rfl⟩) (cPre.V hPc hDc hK hE hS hFc (va_recv hK hP (ci := 6) (q0 := 0) rfl rfl)) rfl rfl hl.1 rfl (lv_room (Nat.le_of_ble_eq_true rfl)) dX7_hasTwoTables_2 ⟨Nat.zero_le _, Nat.zero_le _⟩) hS hFc (fun r1 u1 H locs hw hP hD hS => ?_)
  obtain ⟨rfl, rfl⟩ := hw
  have hP : va_P D vwCl (cW dT a_this g_this) H := hP
  have hD : va_D A (cW dT a_this g_this) := hD
  refine lv_if_eq (tgt := 25) hx hb dX7_hasTwoTables_5 (by decide) (fun c2 => ?_) (fun c2 => ?_)
  · replace h := iteT c2 h
    refine lv_iconst (v := 0) hx hb dX7_hasTwoTables_25 (by decide) ?_
    exact rt_z hx hb hr hlk hK hS (() : Unit) (ret2 h) (by decide) hP hD dX7_hasTwoTables_26
  · replace h := iteF c2 h
    refine lv_aload_n hx hb dX7_hasTwoTables_8 rfl (lv_at hl 0 rfl) ?_
    refine lv_iload_n hx hb dX7_hasTwoTables_9 rfl (lv_at hl 2 rfl) ?_
    obtain ⟨o3, e3, h⟩ := obind h
    have hPc := hP
    have hDc := hD
    have hFc := vfall hD hS hA
    refine cl_iA (va_runV (As := [.int v2]) (rest := []) ⟨hx, hb, hml, hown, hts⟩ (c_X7_hasTable l hlt D dT a_this g_this v2 o3 e3 _) (cwV 1 hts (TB_V w_561 w_562 w_563 w_55 w_564) rfl rfl rfl ⟨rfl, nd_X7_hasTable⟩ ⟨Nat.le_of_ble_eq_true rfl, Nat.le_of_ble_eq_true rfl⟩) (cPre.V hPc hDc hK hE hS hFc (va_recv hK hP (ci := 6) (q0 := 0) rfl rfl)) rfl rfl hl.1 rfl (lv_room (Nat.le_of_ble_eq_true rfl)) dX7_hasTwoTables_10 ⟨Nat.zero_le _, Nat.zero_le _⟩) hS hFc (fun r3 u3 H locs hw hP hD hS => ?_)
    obtain ⟨rfl, rfl⟩ := hw
    have hP : va_P D vwCl (cW dT a_this g_this) H := hP
    have hD : va_D A (cW dT a_this g_this) := hD
    refine lv_if_eq (tgt := 25) hx hb dX7_hasTwoTables_13 (by decide) (fun c4 => ?_) (fun c4 => ?_)
    · replace h := iteT c4 h
      refine lv_iconst (v := 0) hx hb dX7_hasTwoTables_25 (by decide) ?_
      exact rt_z hx hb hr hlk hK hS (() : Unit) (ret2 h) (by decide) hP hD dX7_hasTwoTables_26
    · replace h := iteF c4 h
      refine lv_iload_n hx hb dX7_hasTwoTables_16 rfl (lv_at hl 1 rfl) ?_
      refine lv_iload_n hx hb dX7_hasTwoTables_17 rfl (lv_at hl 2 rfl) ?_
      refine lv_icmp_eq (tgt := 25) hx hb dX7_hasTwoTables_18 (by decide) (fun c5 => ?_) (fun c5 => ?_)
      · replace h := iteT c5 h
        refine lv_iconst (v := 0) hx hb dX7_hasTwoTables_25 (by decide) ?_
        exact rt_z hx hb hr hlk hK hS (() : Unit) (ret2 h) (by decide) hP hD dX7_hasTwoTables_26
      · replace h := iteF c5 h
        refine lv_iconst (v := 1) hx hb dX7_hasTwoTables_21 (by decide) ?_
        refine lv_goto (tgt := 26) hx hb dX7_hasTwoTables_22 (by decide) ?_
        exact rt_z hx hb hr hlk hK hS (() : Unit) (ret2 h) (by decide) hP hD dX7_hasTwoTables_26

def f_X7_isFull (g_this : TW) : Option (Int32 × (Unit)) :=
  (if (W_tables g_this) < (7 : Int32) then (some ((0 : Int32), ())) else (some ((1 : Int32), ())))
set_option maxHeartbeats 8000000 in
set_option maxRecDepth 100000 in
theorem c_X7_isFull (l : Launch) (hlt : l.stackTraces = false) (D : va_G) (dT : Nat → ClassId) (a_this : Nat → Nat) (g_this : TW) (o : (Int32 × (Unit))) (h : f_X7_isFull g_this = some o) (sz : Nat) : Met l yX7_isFull (WSm yX7_isFull cX7_isFull 1 (some .boolean)) { frames := 0, cells := 0, slots := 0, locals := 0 } (va_Pc [.ref (a_this 0)] (cPre D dT (cW dT a_this g_this) sz)) (va_Qi (fun (r : Int32) (u : Unit) => r = o.1 ∧ u = o.2) (fun u t => cAt D dT (va_A (cW dT a_this g_this) sz) (cW dT a_this g_this) t) (va_A (cW dT a_this g_this) sz)) 0 0 (va_A (cW dT a_this g_this) sz) := by
  refine mStart (WS := (cW dT a_this g_this)) (Qc := fun A => va_Qi (fun (r : Int32) (u : Unit) => r = o.1 ∧ u = o.2) (fun u t => cAt D dT A (cW dT a_this g_this) t) A) RX7 rfl (by decide) (Nat.le_of_ble_eq_true rfl) ?_ sz
  intro p e s m below meth c A ls hx hb hml hr hlk hnm hts hqs hown hE hA hK hP hD hS hl
  have hl : lv_has ls 1 [(0, .ref (a_this 0))] := hl
  unfold f_X7_isFull at h
  refine lv_aload_n hx hb dX7_isFull_0 rfl (lv_at hl 0 rfl) ?_
  refine gf_X7_48 (v := .int (W_tables g_this)) hx hb hqs hown hK hP 0 rfl rfl dX7_isFull_1 ?_
  refine lv_bipush (v := 7) hx hb dX7_isFull_4 (by decide) ?_
  refine lv_icmp_lt (tgt := 13) hx hb dX7_isFull_6 (by decide) (fun c1 => ?_) (fun c1 => ?_)
  · replace h := iteT c1 h
    refine lv_iconst (v := 0) hx hb dX7_isFull_13 (by decide) ?_
    exact rt_z hx hb hr hlk hK hS (() : Unit) (ret2 h) (by decide) hP hD dX7_isFull_14
  · replace h := iteF c1 h
    refine lv_iconst (v := 1) hx hb dX7_isFull_9 (by decide) ?_
    refine lv_goto (tgt := 14) hx hb dX7_isFull_10 (by decide) ?_
    exact rt_z hx hb hr hlk hK hS (() : Unit) (ret2 h) (by decide) hP hD dX7_isFull_14

def f_X7_isLinked (g_this : TW) (v1 : Int32) : Option (Int32 × (Unit)) :=
  ((f_X8_isIn v1 (0 : Int32) (20 : Int32)).bind fun o1 => (if o1.1 = (0 : Int32) then (some ((0 : Int32), ())) else (if inb v1 21 = true then (if ((W_guesses g_this) v1.toNatClampNeg) ≤ (0 : Int32) then (some ((0 : Int32), ())) else (some ((1 : Int32), ()))) else none)))
set_option maxHeartbeats 8000000 in
set_option maxRecDepth 100000 in
theorem c_X7_isLinked (l : Launch) (hlt : l.stackTraces = false) (D : va_G) (dT : Nat → ClassId) (a_this : Nat → Nat) (g_this : TW) (v1 : Int32) (o : (Int32 × (Unit))) (h : f_X7_isLinked g_this v1 = some o) (sz : Nat) : Met l yX7_isLinked (WSm yX7_isLinked cX7_isLinked 2 (some .boolean)) { frames := 1, cells := 0, slots := 0, locals := 22 } (va_Pc [.ref (a_this 0), .int v1] (cPre D dT (cW dT a_this g_this) sz)) (va_Qi (fun (r : Int32) (u : Unit) => r = o.1 ∧ u = o.2) (fun u t => cAt D dT (va_A (cW dT a_this g_this) sz) (cW dT a_this g_this) t) (va_A (cW dT a_this g_this) sz)) 0 0 (va_A (cW dT a_this g_this) sz) := by
  refine mStart (WS := (cW dT a_this g_this)) (Qc := fun A => va_Qi (fun (r : Int32) (u : Unit) => r = o.1 ∧ u = o.2) (fun u t => cAt D dT A (cW dT a_this g_this) t) A) RX7 rfl (by decide) (Nat.le_of_ble_eq_true rfl) ?_ sz
  intro p e s m below meth c A ls hx hb hml hr hlk hnm hts hqs hown hE hA hK hP hD hS hl
  have hl : lv_has ls 2 [(0, .ref (a_this 0)), (1, .int v1)] := hl
  unfold f_X7_isLinked at h
  refine lv_iload_n hx hb dX7_isLinked_0 rfl (lv_at hl 1 rfl) ?_
  refine lv_iconst (v := 0) hx hb dX7_isLinked_1 (by decide) ?_
  refine lv_bipush (v := 20) hx hb dX7_isLinked_2 (by decide) ?_
  obtain ⟨o1, e1, h⟩ := obind h
  have hPc := hP.sub (ws' := ([] : va_W)) [] rfl
  have hDc := hD.sub (ws' := ([] : va_W)) [] (by decide) rfl
  have hFc := va_free (wc := ([] : va_W)) hD hS hA [] rfl
  refine cl_i (wr := (cW dT a_this g_this)) (va_runSN (As := [.int v1, .int (0 : Int32), .int (20 : Int32)]) (rest := []) ⟨hx, hb, hml, hown, hts⟩ (c_X8_isIn l hlt D dT v1 (0 : Int32) (20 : Int32) o1 e1 _) ⟨va_cnB 3 hts (TB_in (WSm_in w_332)) rfl rfl rfl (hE.1 (RX7, 71, yX8_isIn, RX8) (List.mem_of_getElem? (i := 14) rfl)) (hqs _ w_50) nd_X8_isIn ⟨Nat.le_of_ble_eq_true rfl, Nat.le_of_ble_eq_true rfl⟩, hqs _ w_331, trivial⟩ (cPre.S hPc hDc hK hE hS hFc) rfl rfl hl.1 rfl (lv_room (Nat.le_of_ble_eq_true rfl)) dX7_isLinked_4 ⟨Nat.zero_le _, Nat.zero_le _⟩) hP hD hS hFc [] [0, 1, 2, 3, 4, 5, 6, 7, 8, 9] rfl rfl (by decide) (by decide) (fun r1 u1 H locs hw hP hD hS => ?_)
  obtain ⟨rfl, rfl⟩ := hw
  have hP : va_P D vwCl (cW dT a_this g_this) H := hP
  have hD : va_D A (cW dT a_this g_this) := hD
  refine lv_if_eq (tgt := 23) hx hb dX7_isLinked_7 (by decide) (fun c2 => ?_) (fun c2 => ?_)
  · replace h := iteT c2 h
    refine lv_iconst (v := 0) hx hb dX7_isLinked_23 (by decide) ?_
    exact rt_z hx hb hr hlk hK hS (() : Unit) (ret2 h) (by decide) hP hD dX7_isLinked_24
  · replace h := iteF c2 h
    refine lv_aload_n hx hb dX7_isLinked_10 rfl (lv_at hl 0 rfl) ?_
    refine gf_X7_30 (v := .ref (a_this 4)) hx hb hqs hown hK hP 0 rfl rfl dX7_isLinked_11 ?_
    refine lv_iload_n hx hb dX7_isLinked_14 rfl (lv_at hl 1 rfl) ?_
    obtain ⟨g3, h⟩ := chk h
    refine va_iald hx hb hK hP 4 0 rfl rfl (inb_in g3) dX7_isLinked_15 ?_
    refine lv_if_le (tgt := 23) hx hb dX7_isLinked_16 (by decide) (fun c4 => ?_) (fun c4 => ?_)
    · replace h := iteT c4 h
      refine lv_iconst (v := 0) hx hb dX7_isLinked_23 (by decide) ?_
      exact rt_z hx hb hr hlk hK hS (() : Unit) (ret2 h) (by decide) hP hD dX7_isLinked_24
    · replace h := iteF c4 h
      refine lv_iconst (v := 1) hx hb dX7_isLinked_19 (by decide) ?_
      refine lv_goto (tgt := 24) hx hb dX7_isLinked_20 (by decide) ?_
      exact rt_z hx hb hr hlk hK hS (() : Unit) (ret2 h) (by decide) hP hD dX7_isLinked_24

def f_X7_hasMemory (g_this : TW) (v1 : Int32) : Option (Int32 × (Unit)) :=
  ((f_X8_isIn v1 (0 : Int32) (20 : Int32)).bind fun o1 => (if o1.1 = (0 : Int32) then (some ((0 : Int32), ())) else (if inb v1 21 = true then (if ((W_memories g_this) v1.toNatClampNeg) ≤ (0 : Int32) then (some ((0 : Int32), ())) else (some ((1 : Int32), ()))) else none)))
set_option maxHeartbeats 8000000 in
set_option maxRecDepth 100000 in
theorem c_X7_hasMemory (l : Launch) (hlt : l.stackTraces = false) (D : va_G) (dT : Nat → ClassId) (a_this : Nat → Nat) (g_this : TW) (v1 : Int32) (o : (Int32 × (Unit))) (h : f_X7_hasMemory g_this v1 = some o) (sz : Nat) : Met l yX7_hasMemory (WSm yX7_hasMemory cX7_hasMemory 2 (some .boolean)) { frames := 1, cells := 0, slots := 0, locals := 22 } (va_Pc [.ref (a_this 0), .int v1] (cPre D dT (cW dT a_this g_this) sz)) (va_Qi (fun (r : Int32) (u : Unit) => r = o.1 ∧ u = o.2) (fun u t => cAt D dT (va_A (cW dT a_this g_this) sz) (cW dT a_this g_this) t) (va_A (cW dT a_this g_this) sz)) 0 0 (va_A (cW dT a_this g_this) sz) := by
  refine mStart (WS := (cW dT a_this g_this)) (Qc := fun A => va_Qi (fun (r : Int32) (u : Unit) => r = o.1 ∧ u = o.2) (fun u t => cAt D dT A (cW dT a_this g_this) t) A) RX7 rfl (by decide) (Nat.le_of_ble_eq_true rfl) ?_ sz
  intro p e s m below meth c A ls hx hb hml hr hlk hnm hts hqs hown hE hA hK hP hD hS hl
  have hl : lv_has ls 2 [(0, .ref (a_this 0)), (1, .int v1)] := hl
  unfold f_X7_hasMemory at h
  refine lv_iload_n hx hb dX7_hasMemory_0 rfl (lv_at hl 1 rfl) ?_
  refine lv_iconst (v := 0) hx hb dX7_hasMemory_1 (by decide) ?_
  refine lv_bipush (v := 20) hx hb dX7_hasMemory_2 (by decide) ?_
  obtain ⟨o1, e1, h⟩ := obind h
  have hPc := hP.sub (ws' := ([] : va_W)) [] rfl
  have hDc := hD.sub (ws' := ([] : va_W)) [] (by decide) rfl
  have hFc := va_free (wc := ([] : va_W)) hD hS hA [] rfl
  refine cl_i (wr := (cW dT a_this g_this)) (va_runSN (As := [.int v1, .int (0 : Int32), .int (20 : Int32)]) (rest := []) ⟨hx, hb, hml, hown, hts⟩ (c_X8_isIn l hlt D dT v1 (0 : Int32) (20 : Int32) o1 e1 _) ⟨va_cnB 3 hts (TB_in (WSm_in w_332)) rfl rfl rfl (hE.1 (RX7, 71, yX8_isIn, RX8) (List.mem_of_getElem? (i := 14) rfl)) (hqs _ w_50) nd_X8_isIn ⟨Nat.le_of_ble_eq_true rfl, Nat.le_of_ble_eq_true rfl⟩, hqs _ w_331, trivial⟩ (cPre.S hPc hDc hK hE hS hFc) rfl rfl hl.1 rfl (lv_room (Nat.le_of_ble_eq_true rfl)) dX7_hasMemory_4 ⟨Nat.zero_le _, Nat.zero_le _⟩) hP hD hS hFc [] [0, 1, 2, 3, 4, 5, 6, 7, 8, 9] rfl rfl (by decide) (by decide) (fun r1 u1 H locs hw hP hD hS => ?_)
  obtain ⟨rfl, rfl⟩ := hw
  have hP : va_P D vwCl (cW dT a_this g_this) H := hP
  have hD : va_D A (cW dT a_this g_this) := hD
  refine lv_if_eq (tgt := 23) hx hb dX7_hasMemory_7 (by decide) (fun c2 => ?_) (fun c2 => ?_)
  · replace h := iteT c2 h
    refine lv_iconst (v := 0) hx hb dX7_hasMemory_23 (by decide) ?_
    exact rt_z hx hb hr hlk hK hS (() : Unit) (ret2 h) (by decide) hP hD dX7_hasMemory_24
  · replace h := iteF c2 h
    refine lv_aload_n hx hb dX7_hasMemory_10 rfl (lv_at hl 0 rfl) ?_
    refine gf_X7_36 (v := .ref (a_this 6)) hx hb hqs hown hK hP 0 rfl rfl dX7_hasMemory_11 ?_
    refine lv_iload_n hx hb dX7_hasMemory_14 rfl (lv_at hl 1 rfl) ?_
    obtain ⟨g3, h⟩ := chk h
    refine va_iald hx hb hK hP 6 0 rfl rfl (inb_in g3) dX7_hasMemory_15 ?_
    refine lv_if_le (tgt := 23) hx hb dX7_hasMemory_16 (by decide) (fun c4 => ?_) (fun c4 => ?_)
    · replace h := iteT c4 h
      refine lv_iconst (v := 0) hx hb dX7_hasMemory_23 (by decide) ?_
      exact rt_z hx hb hr hlk hK hS (() : Unit) (ret2 h) (by decide) hP hD dX7_hasMemory_24
    · replace h := iteF c4 h
      refine lv_iconst (v := 1) hx hb dX7_hasMemory_19 (by decide) ?_
      refine lv_goto (tgt := 24) hx hb dX7_hasMemory_20 (by decide) ?_
      exact rt_z hx hb hr hlk hK hS (() : Unit) (ret2 h) (by decide) hP hD dX7_hasMemory_24

def f_X7_remembersSince (g_this : TW) (v1 : Int32) (v2 : Int32) : Option (Int32 × (Unit)) :=
  ((f_X7_hasMemory g_this v1).bind fun o1 => (if o1.1 = (0 : Int32) then (some ((0 : Int32), ())) else (if inb v1 21 = true then (if v2 < ((W_ages g_this) v1.toNatClampNeg) then (some ((0 : Int32), ())) else (some ((1 : Int32), ()))) else none)))
set_option maxHeartbeats 8000000 in
set_option maxRecDepth 100000 in
theorem c_X7_remembersSince (l : Launch) (hlt : l.stackTraces = false) (D : va_G) (dT : Nat → ClassId) (a_this : Nat → Nat) (g_this : TW) (v1 : Int32) (v2 : Int32) (o : (Int32 × (Unit))) (h : f_X7_remembersSince g_this v1 v2 = some o) (sz : Nat) : Met l yX7_remembersSince (WSm yX7_remembersSince cX7_remembersSince 3 (some .boolean)) { frames := 2, cells := 0, slots := 0, locals := 43 } (va_Pc [.ref (a_this 0), .int v1, .int v2] (cPre D dT (cW dT a_this g_this) sz)) (va_Qi (fun (r : Int32) (u : Unit) => r = o.1 ∧ u = o.2) (fun u t => cAt D dT (va_A (cW dT a_this g_this) sz) (cW dT a_this g_this) t) (va_A (cW dT a_this g_this) sz)) 0 0 (va_A (cW dT a_this g_this) sz) := by
  refine mStart (WS := (cW dT a_this g_this)) (Qc := fun A => va_Qi (fun (r : Int32) (u : Unit) => r = o.1 ∧ u = o.2) (fun u t => cAt D dT A (cW dT a_this g_this) t) A) RX7 rfl (by decide) (Nat.le_of_ble_eq_true rfl) ?_ sz
  intro p e s m below meth c A ls hx hb hml hr hlk hnm hts hqs hown hE hA hK hP hD hS hl
  have hl : lv_has ls 3 [(0, .ref (a_this 0)), (1, .int v1), (2, .int v2)] := hl
  unfold f_X7_remembersSince at h
  refine lv_aload_n hx hb dX7_remembersSince_0 rfl (lv_at hl 0 rfl) ?_
  refine lv_iload_n hx hb dX7_remembersSince_1 rfl (lv_at hl 1 rfl) ?_
  obtain ⟨o1, e1, h⟩ := obind h
  have hPc := hP
  have hDc := hD
  have hFc := vfall hD hS hA
  refine cl_iA (va_runV (As := [.int v1]) (rest := []) ⟨hx, hb, hml, hown, hts⟩ (c_X7_hasMemory l hlt D dT a_this g_this v1 o1 e1 _) (cwV 1 hts (TB_V w_654 w_655 w_656 w_55 w_657) rfl rfl rfl ⟨rfl, nd_X7_hasMemory⟩ ⟨Nat.le_of_ble_eq_true rfl, Nat.le_of_ble_eq_true rfl⟩) (cPre.V hPc hDc hK hE hS hFc (va_recv hK hP (ci := 6) (q0 := 0) rfl rfl)) rfl rfl hl.1 rfl (lv_room (Nat.le_of_ble_eq_true rfl)) dX7_remembersSince_2 ⟨Nat.zero_le _, Nat.zero_le _⟩) hS hFc (fun r1 u1 H locs hw hP hD hS => ?_)
  obtain ⟨rfl, rfl⟩ := hw
  have hP : va_P D vwCl (cW dT a_this g_this) H := hP
  have hD : va_D A (cW dT a_this g_this) := hD
  refine lv_if_eq (tgt := 22) hx hb dX7_remembersSince_5 (by decide) (fun c2 => ?_) (fun c2 => ?_)
  · replace h := iteT c2 h
    refine lv_iconst (v := 0) hx hb dX7_remembersSince_22 (by decide) ?_
    exact rt_z hx hb hr hlk hK hS (() : Unit) (ret2 h) (by decide) hP hD dX7_remembersSince_23
  · replace h := iteF c2 h
    refine lv_aload_n hx hb dX7_remembersSince_8 rfl (lv_at hl 0 rfl) ?_
    refine gf_X7_39 (v := .ref (a_this 7)) hx hb hqs hown hK hP 0 rfl rfl dX7_remembersSince_9 ?_
    refine lv_iload_n hx hb dX7_remembersSince_12 rfl (lv_at hl 1 rfl) ?_
    obtain ⟨g3, h⟩ := chk h
    refine va_iald hx hb hK hP 7 0 rfl rfl (inb_in g3) dX7_remembersSince_13 ?_
    refine lv_iload_n hx hb dX7_remembersSince_14 rfl (lv_at hl 2 rfl) ?_
    refine lv_icmp_gt (tgt := 22) hx hb dX7_remembersSince_15 (by decide) (fun c4 => ?_) (fun c4 => ?_)
    · replace h := iteT c4 h
      refine lv_iconst (v := 0) hx hb dX7_remembersSince_22 (by decide) ?_
      exact rt_z hx hb hr hlk hK hS (() : Unit) (ret2 h) (by decide) hP hD dX7_remembersSince_23
    · replace h := iteF c4 h
      refine lv_iconst (v := 1) hx hb dX7_remembersSince_18 (by decide) ?_
      refine lv_goto (tgt := 23) hx hb dX7_remembersSince_19 (by decide) ?_
      exact rt_z hx hb hr hlk hK hS (() : Unit) (ret2 h) (by decide) hP hD dX7_remembersSince_23

def f_X7_linkCount_L4 (g_this : TW)  : Nat → Int32 → Int32 → Option (Int32 × (Unit))
  | 0, _, _ => none
  | n + 1, x1, x2 =>
    (if (21 : Int32) ≤ x2 then (some (x1, ())) else (if inb x2 21 = true then (if ((W_guesses g_this) x2.toNatClampNeg) ≤ (0 : Int32) then (f_X7_linkCount_L4 g_this n x1 (x2 + (1 : Int32))) else (f_X7_linkCount_L4 g_this n (x1 + (1 : Int32)) (x2 + (1 : Int32)))) else none))
def f_X7_linkCount (g_this : TW) : Option (Int32 × (Unit)) :=
  (f_X7_linkCount_L4 g_this FUEL (0 : Int32) (0 : Int32))
set_option maxHeartbeats 8000000 in
set_option maxRecDepth 100000 in
theorem c_X7_linkCount (l : Launch) (hlt : l.stackTraces = false) (D : va_G) (dT : Nat → ClassId) (a_this : Nat → Nat) (g_this : TW) (o : (Int32 × (Unit))) (h : f_X7_linkCount g_this = some o) (sz : Nat) : Met l yX7_linkCount (WSm yX7_linkCount cX7_linkCount 3 (some .int)) { frames := 0, cells := 0, slots := 0, locals := 0 } (va_Pc [.ref (a_this 0)] (cPre D dT (cW dT a_this g_this) sz)) (va_Qi (fun (r : Int32) (u : Unit) => r = o.1 ∧ u = o.2) (fun u t => cAt D dT (va_A (cW dT a_this g_this) sz) (cW dT a_this g_this) t) (va_A (cW dT a_this g_this) sz)) 0 0 (va_A (cW dT a_this g_this) sz) := by
  refine mStart (WS := (cW dT a_this g_this)) (Qc := fun A => va_Qi (fun (r : Int32) (u : Unit) => r = o.1 ∧ u = o.2) (fun u t => cAt D dT A (cW dT a_this g_this) t) A) RX7 rfl (by decide) (Nat.le_of_ble_eq_true rfl) ?_ sz
  intro p e s m below meth c A ls hx hb hml hr hlk hnm hts hqs hown hE hA hK hP hD hS hl
  have hl : lv_has ls 3 [(0, .ref (a_this 0))] := hl
  have L_f_X7_linkCount_L4 : ∀ (g_this : TW)   (n : Nat), ∀ (x1 : Int32) (x2 : Int32) (H : Heap) (locs : List Loc) (ls : Array Slot), f_X7_linkCount_L4 g_this  n x1 x2 = some o → va_P D vwCl (cW dT a_this g_this) H → va_D A (cW dT a_this g_this) → va_S A s.heap H locs → lv_has ls 3 [(0, .ref (a_this 0)), (1, .int x1), (2, .int x2)] → W p l e (headSpec (WSm yX7_linkCount cX7_linkCount 3 (some .int)) { frames := 0, cells := 0, slots := 0, locals := 0 }).room s m [.ref (a_this 0)].toArray below meth c H locs 0 0 (MQ below (va_Qi (fun (r : Int32) (u : Unit) => r = o.1 ∧ u = o.2) (fun u t => cAt D dT A (cW dT a_this g_this) t) A) [.ref (a_this 0)].toArray s 0 0 A) (F0 m 4 ls []) := by
    intro g_this   n
    induction n with
    | zero => intro x1 x2 H locs ls h; exact nomatch h
    | succ n ih =>
      intro x1 x2 H locs ls h hP hD hS hl
      unfold f_X7_linkCount_L4 at h
      refine lv_iload_n hx hb dX7_linkCount_4 rfl (lv_at hl 2 rfl) ?_
      refine lv_bipush (v := 21) hx hb dX7_linkCount_5 (by decide) ?_
      refine lv_icmp_ge (tgt := 28) hx hb dX7_linkCount_7 (by decide) (fun c1 => ?_) (fun c1 => ?_)
      · replace h := iteT c1 h
        refine lv_iload_n hx hb dX7_linkCount_28 rfl (lv_at hl 1 rfl) ?_
        exact rt_i hx hb hr hlk hK hS (() : Unit) (ret2 h) hP hD dX7_linkCount_29
      · replace h := iteF c1 h
        refine lv_aload_n hx hb dX7_linkCount_10 rfl (lv_at hl 0 rfl) ?_
        refine gf_X7_30 (v := .ref (a_this 4)) hx hb hqs hown hK hP 0 rfl rfl dX7_linkCount_11 ?_
        refine lv_iload_n hx hb dX7_linkCount_14 rfl (lv_at hl 2 rfl) ?_
        obtain ⟨g2, h⟩ := chk h
        refine va_iald hx hb hK hP 4 0 rfl rfl (inb_in g2) dX7_linkCount_15 ?_
        refine lv_if_le (tgt := 22) hx hb dX7_linkCount_16 (by decide) (fun c3 => ?_) (fun c3 => ?_)
        · replace h := iteT c3 h
          refine lv_iinc (v := (x2 + (1 : Int32))) (lv' := [(2, .int (x2 + (1 : Int32))), (0, .ref (a_this 0)), (1, .int x1)]) hx hb dX7_linkCount_22 hl (k := 2) rfl rfl (by decide) rfl (fun ls hl => ?_)
          refine lv_goto (tgt := 4) hx hb dX7_linkCount_25 (by decide) ?_
          exact ih x1 (x2 + (1 : Int32)) _ _ _ h hP hD hS (lv_sub hl [1, 2, 0] rfl)
        · replace h := iteF c3 h
          refine lv_iinc (v := (x1 + (1 : Int32))) (lv' := [(1, .int (x1 + (1 : Int32))), (0, .ref (a_this 0)), (2, .int x2)]) hx hb dX7_linkCount_19 hl (k := 1) rfl rfl (by decide) rfl (fun ls hl => ?_)
          refine lv_iinc (v := (x2 + (1 : Int32))) (lv' := [(2, .int (x2 + (1 : Int32))), (1, .int (x1 + (1 : Int32))), (0, .ref (a_this 0))]) hx hb dX7_linkCount_22 hl (k := 2) rfl rfl (by decide) rfl (fun ls hl => ?_)
          refine lv_goto (tgt := 4) hx hb dX7_linkCount_25 (by decide) ?_
          exact ih (x1 + (1 : Int32)) (x2 + (1 : Int32)) _ _ _ h hP hD hS (lv_sub hl [2, 1, 0] rfl)
  unfold f_X7_linkCount at h
  refine lv_iconst (v := 0) hx hb dX7_linkCount_0 (by decide) ?_
  refine lv_istore_n (lv' := [(1, .int (0 : Int32)), (0, .ref (a_this 0))]) hx hb dX7_linkCount_1 rfl hl (by decide) rfl (fun ls hl => ?_)
  refine lv_iconst (v := 0) hx hb dX7_linkCount_2 (by decide) ?_
  refine lv_istore_n (lv' := [(2, .int (0 : Int32)), (1, .int (0 : Int32)), (0, .ref (a_this 0))]) hx hb dX7_linkCount_3 rfl hl (by decide) rfl (fun ls hl => ?_)
  refine L_f_X7_linkCount_L4 g_this   FUEL (0 : Int32) (0 : Int32) _ _ _ h hP hD hS (lv_sub hl [2, 1, 0] rfl)

def f_X7_memoryCount_L4 (g_this : TW)  : Nat → Int32 → Int32 → Option (Int32 × (Unit))
  | 0, _, _ => none
  | n + 1, x1, x2 =>
    (if (21 : Int32) ≤ x2 then (some (x1, ())) else (if inb x2 21 = true then (if ((W_memories g_this) x2.toNatClampNeg) ≤ (0 : Int32) then (f_X7_memoryCount_L4 g_this n x1 (x2 + (1 : Int32))) else (f_X7_memoryCount_L4 g_this n (x1 + (1 : Int32)) (x2 + (1 : Int32)))) else none))
def f_X7_memoryCount (g_this : TW) : Option (Int32 × (Unit)) :=
  (f_X7_memoryCount_L4 g_this FUEL (0 : Int32) (0 : Int32))
set_option maxHeartbeats 8000000 in
set_option maxRecDepth 100000 in
theorem c_X7_memoryCount (l : Launch) (hlt : l.stackTraces = false) (D : va_G) (dT : Nat → ClassId) (a_this : Nat → Nat) (g_this : TW) (o : (Int32 × (Unit))) (h : f_X7_memoryCount g_this = some o) (sz : Nat) : Met l yX7_memoryCount (WSm yX7_memoryCount cX7_memoryCount 3 (some .int)) { frames := 0, cells := 0, slots := 0, locals := 0 } (va_Pc [.ref (a_this 0)] (cPre D dT (cW dT a_this g_this) sz)) (va_Qi (fun (r : Int32) (u : Unit) => r = o.1 ∧ u = o.2) (fun u t => cAt D dT (va_A (cW dT a_this g_this) sz) (cW dT a_this g_this) t) (va_A (cW dT a_this g_this) sz)) 0 0 (va_A (cW dT a_this g_this) sz) := by
  refine mStart (WS := (cW dT a_this g_this)) (Qc := fun A => va_Qi (fun (r : Int32) (u : Unit) => r = o.1 ∧ u = o.2) (fun u t => cAt D dT A (cW dT a_this g_this) t) A) RX7 rfl (by decide) (Nat.le_of_ble_eq_true rfl) ?_ sz
  intro p e s m below meth c A ls hx hb hml hr hlk hnm hts hqs hown hE hA hK hP hD hS hl
  have hl : lv_has ls 3 [(0, .ref (a_this 0))] := hl
  have L_f_X7_memoryCount_L4 : ∀ (g_this : TW)   (n : Nat), ∀ (x1 : Int32) (x2 : Int32) (H : Heap) (locs : List Loc) (ls : Array Slot), f_X7_memoryCount_L4 g_this  n x1 x2 = some o → va_P D vwCl (cW dT a_this g_this) H → va_D A (cW dT a_this g_this) → va_S A s.heap H locs → lv_has ls 3 [(0, .ref (a_this 0)), (1, .int x1), (2, .int x2)] → W p l e (headSpec (WSm yX7_memoryCount cX7_memoryCount 3 (some .int)) { frames := 0, cells := 0, slots := 0, locals := 0 }).room s m [.ref (a_this 0)].toArray below meth c H locs 0 0 (MQ below (va_Qi (fun (r : Int32) (u : Unit) => r = o.1 ∧ u = o.2) (fun u t => cAt D dT A (cW dT a_this g_this) t) A) [.ref (a_this 0)].toArray s 0 0 A) (F0 m 4 ls []) := by
    intro g_this   n
    induction n with
    | zero => intro x1 x2 H locs ls h; exact nomatch h
    | succ n ih =>
      intro x1 x2 H locs ls h hP hD hS hl
      unfold f_X7_memoryCount_L4 at h
      refine lv_iload_n hx hb dX7_memoryCount_4 rfl (lv_at hl 2 rfl) ?_
      refine lv_bipush (v := 21) hx hb dX7_memoryCount_5 (by decide) ?_
      refine lv_icmp_ge (tgt := 28) hx hb dX7_memoryCount_7 (by decide) (fun c1 => ?_) (fun c1 => ?_)
      · replace h := iteT c1 h
        refine lv_iload_n hx hb dX7_memoryCount_28 rfl (lv_at hl 1 rfl) ?_
        exact rt_i hx hb hr hlk hK hS (() : Unit) (ret2 h) hP hD dX7_memoryCount_29
      · replace h := iteF c1 h
        refine lv_aload_n hx hb dX7_memoryCount_10 rfl (lv_at hl 0 rfl) ?_
        refine gf_X7_36 (v := .ref (a_this 6)) hx hb hqs hown hK hP 0 rfl rfl dX7_memoryCount_11 ?_
        refine lv_iload_n hx hb dX7_memoryCount_14 rfl (lv_at hl 2 rfl) ?_
        obtain ⟨g2, h⟩ := chk h
        refine va_iald hx hb hK hP 6 0 rfl rfl (inb_in g2) dX7_memoryCount_15 ?_
        refine lv_if_le (tgt := 22) hx hb dX7_memoryCount_16 (by decide) (fun c3 => ?_) (fun c3 => ?_)
        · replace h := iteT c3 h
          refine lv_iinc (v := (x2 + (1 : Int32))) (lv' := [(2, .int (x2 + (1 : Int32))), (0, .ref (a_this 0)), (1, .int x1)]) hx hb dX7_memoryCount_22 hl (k := 2) rfl rfl (by decide) rfl (fun ls hl => ?_)
          refine lv_goto (tgt := 4) hx hb dX7_memoryCount_25 (by decide) ?_
          exact ih x1 (x2 + (1 : Int32)) _ _ _ h hP hD hS (lv_sub hl [1, 2, 0] rfl)
        · replace h := iteF c3 h
          refine lv_iinc (v := (x1 + (1 : Int32))) (lv' := [(1, .int (x1 + (1 : Int32))), (0, .ref (a_this 0)), (2, .int x2)]) hx hb dX7_memoryCount_19 hl (k := 1) rfl rfl (by decide) rfl (fun ls hl => ?_)
          refine lv_iinc (v := (x2 + (1 : Int32))) (lv' := [(2, .int (x2 + (1 : Int32))), (1, .int (x1 + (1 : Int32))), (0, .ref (a_this 0))]) hx hb dX7_memoryCount_22 hl (k := 2) rfl rfl (by decide) rfl (fun ls hl => ?_)
          refine lv_goto (tgt := 4) hx hb dX7_memoryCount_25 (by decide) ?_
          exact ih (x1 + (1 : Int32)) (x2 + (1 : Int32)) _ _ _ h hP hD hS (lv_sub hl [2, 1, 0] rfl)
  unfold f_X7_memoryCount at h
  refine lv_iconst (v := 0) hx hb dX7_memoryCount_0 (by decide) ?_
  refine lv_istore_n (lv' := [(1, .int (0 : Int32)), (0, .ref (a_this 0))]) hx hb dX7_memoryCount_1 rfl hl (by decide) rfl (fun ls hl => ?_)
  refine lv_iconst (v := 0) hx hb dX7_memoryCount_2 (by decide) ?_
  refine lv_istore_n (lv' := [(2, .int (0 : Int32)), (1, .int (0 : Int32)), (0, .ref (a_this 0))]) hx hb dX7_memoryCount_3 rfl hl (by decide) rfl (fun ls hl => ?_)
  refine L_f_X7_memoryCount_L4 g_this   FUEL (0 : Int32) (0 : Int32) _ _ _ h hP hD hS (lv_sub hl [2, 1, 0] rfl)

def f_X7_numberOf (g_this : TW) (v1 : Int32) : Option (Int32 × (Unit)) :=
  (if v1 = (0 : Int32) then (some ((W_tables g_this), ())) else (if v1 = (1 : Int32) then ((f_X7_linkCount g_this).bind fun o2 => (some (o2.1, ()))) else (if v1 = (2 : Int32) then ((f_X7_memoryCount g_this).bind fun o3 => (some (o3.1, ()))) else (if v1 = (3 : Int32) then (some ((W_weeks g_this), ())) else (if v1 = (4 : Int32) then (some ((W_runs g_this), ())) else (some ((W_surprises g_this), ())))))))
set_option maxHeartbeats 8000000 in
set_option maxRecDepth 100000 in
theorem c_X7_numberOf (l : Launch) (hlt : l.stackTraces = false) (D : va_G) (dT : Nat → ClassId) (a_this : Nat → Nat) (g_this : TW) (v1 : Int32) (o : (Int32 × (Unit))) (h : f_X7_numberOf g_this v1 = some o) (sz : Nat) : Met l yX7_numberOf (WSm yX7_numberOf cX7_numberOf 2 (some .int)) { frames := 1, cells := 0, slots := 0, locals := 22 } (va_Pc [.ref (a_this 0), .int v1] (cPre D dT (cW dT a_this g_this) sz)) (va_Qi (fun (r : Int32) (u : Unit) => r = o.1 ∧ u = o.2) (fun u t => cAt D dT (va_A (cW dT a_this g_this) sz) (cW dT a_this g_this) t) (va_A (cW dT a_this g_this) sz)) 0 0 (va_A (cW dT a_this g_this) sz) := by
  refine mStart (WS := (cW dT a_this g_this)) (Qc := fun A => va_Qi (fun (r : Int32) (u : Unit) => r = o.1 ∧ u = o.2) (fun u t => cAt D dT A (cW dT a_this g_this) t) A) RX7 rfl (by decide) (Nat.le_of_ble_eq_true rfl) ?_ sz
  intro p e s m below meth c A ls hx hb hml hr hlk hnm hts hqs hown hE hA hK hP hD hS hl
  have hl : lv_has ls 2 [(0, .ref (a_this 0)), (1, .int v1)] := hl
  unfold f_X7_numberOf at h
  refine lv_iload_n hx hb dX7_numberOf_0 rfl (lv_at hl 1 rfl) ?_
  by_cases c1_0 : v1 = (0 : Int32)
  · replace h := iteT c1_0 h
    refine lv_tableIn (off := (35)) (tgt := 36) hx hb dX7_numberOf_1 (by rw [c1_0]; decide) (by rw [c1_0]; decide) (by rw [c1_0]; rfl) (by decide) ?_
    refine lv_aload_n hx hb dX7_numberOf_36 rfl (lv_at hl 0 rfl) ?_
    refine gf_X7_48 (v := .int (W_tables g_this)) hx hb hqs hown hK hP 0 rfl rfl dX7_numberOf_37 ?_
    exact rt_i hx hb hr hlk hK hS (() : Unit) (ret2 h) hP hD dX7_numberOf_40
  replace h := iteF c1_0 h
  by_cases c1_1 : v1 = (1 : Int32)
  · replace h := iteT c1_1 h
    refine lv_tableIn (off := (40)) (tgt := 41) hx hb dX7_numberOf_1 (by rw [c1_1]; decide) (by rw [c1_1]; decide) (by rw [c1_1]; rfl) (by decide) ?_
    refine lv_aload_n hx hb dX7_numberOf_41 rfl (lv_at hl 0 rfl) ?_
    obtain ⟨o2, e2, h⟩ := obind h
    have hPc := hP
    have hDc := hD
    have hFc := vfall hD hS hA
    refine cl_iA (va_runV (As := []) (rest := []) ⟨hx, hb, hml, hown, hts⟩ (c_X7_linkCount l hlt D dT a_this g_this o2 e2 _) (cwV 0 hts (TB_V w_574 w_576 w_9 w_55 w_577) rfl rfl rfl ⟨rfl, nd_X7_linkCount⟩ ⟨Nat.le_of_ble_eq_true rfl, Nat.le_of_ble_eq_true rfl⟩) (cPre.V hPc hDc hK hE hS hFc (va_recv hK hP (ci := 6) (q0 := 0) rfl rfl)) rfl rfl hl.1 rfl (lv_room (Nat.le_of_ble_eq_true rfl)) dX7_numberOf_42 ⟨Nat.zero_le _, Nat.zero_le _⟩) hS hFc (fun r2 u2 H locs hw hP hD hS => ?_)
    obtain ⟨rfl, rfl⟩ := hw
    have hP : va_P D vwCl (cW dT a_this g_this) H := hP
    have hD : va_D A (cW dT a_this g_this) := hD
    exact rt_i hx hb hr hlk hK hS (() : Unit) (ret2 h) hP hD dX7_numberOf_45
  replace h := iteF c1_1 h
  by_cases c1_2 : v1 = (2 : Int32)
  · replace h := iteT c1_2 h
    refine lv_tableIn (off := (45)) (tgt := 46) hx hb dX7_numberOf_1 (by rw [c1_2]; decide) (by rw [c1_2]; decide) (by rw [c1_2]; rfl) (by decide) ?_
    refine lv_aload_n hx hb dX7_numberOf_46 rfl (lv_at hl 0 rfl) ?_
    obtain ⟨o3, e3, h⟩ := obind h
    have hPc := hP
    have hDc := hD
    have hFc := vfall hD hS hA
    refine cl_iA (va_runV (As := []) (rest := []) ⟨hx, hb, hml, hown, hts⟩ (c_X7_memoryCount l hlt D dT a_this g_this o3 e3 _) (cwV 0 hts (TB_V w_590 w_591 w_592 w_55 w_593) rfl rfl rfl ⟨rfl, nd_X7_memoryCount⟩ ⟨Nat.le_of_ble_eq_true rfl, Nat.le_of_ble_eq_true rfl⟩) (cPre.V hPc hDc hK hE hS hFc (va_recv hK hP (ci := 6) (q0 := 0) rfl rfl)) rfl rfl hl.1 rfl (lv_room (Nat.le_of_ble_eq_true rfl)) dX7_numberOf_47 ⟨Nat.zero_le _, Nat.zero_le _⟩) hS hFc (fun r3 u3 H locs hw hP hD hS => ?_)
    obtain ⟨rfl, rfl⟩ := hw
    have hP : va_P D vwCl (cW dT a_this g_this) H := hP
    have hD : va_D A (cW dT a_this g_this) := hD
    exact rt_i hx hb hr hlk hK hS (() : Unit) (ret2 h) hP hD dX7_numberOf_50
  replace h := iteF c1_2 h
  by_cases c1_3 : v1 = (3 : Int32)
  · replace h := iteT c1_3 h
    refine lv_tableIn (off := (50)) (tgt := 51) hx hb dX7_numberOf_1 (by rw [c1_3]; decide) (by rw [c1_3]; decide) (by rw [c1_3]; rfl) (by decide) ?_
    refine lv_aload_n hx hb dX7_numberOf_51 rfl (lv_at hl 0 rfl) ?_
    refine gf_X7_52 (v := .int (W_weeks g_this)) hx hb hqs hown hK hP 0 rfl rfl dX7_numberOf_52 ?_
    exact rt_i hx hb hr hlk hK hS (() : Unit) (ret2 h) hP hD dX7_numberOf_55
  replace h := iteF c1_3 h
  by_cases c1_4 : v1 = (4 : Int32)
  · replace h := iteT c1_4 h
    refine lv_tableIn (off := (55)) (tgt := 56) hx hb dX7_numberOf_1 (by rw [c1_4]; decide) (by rw [c1_4]; decide) (by rw [c1_4]; rfl) (by decide) ?_
    refine lv_aload_n hx hb dX7_numberOf_56 rfl (lv_at hl 0 rfl) ?_
    refine gf_X7_55 (v := .int (W_runs g_this)) hx hb hqs hown hK hP 0 rfl rfl dX7_numberOf_57 ?_
    exact rt_i hx hb hr hlk hK hS (() : Unit) (ret2 h) hP hD dX7_numberOf_60
  replace h := iteF c1_4 h
  have e1_0 : ¬ Int32.toInt v1 = (0 : Int) := fun q => c1_0 (Int32.toInt_inj.mp (q.trans (by decide)))
  have e1_1 : ¬ Int32.toInt v1 = (1 : Int) := fun q => c1_1 (Int32.toInt_inj.mp (q.trans (by decide)))
  have e1_2 : ¬ Int32.toInt v1 = (2 : Int) := fun q => c1_2 (Int32.toInt_inj.mp (q.trans (by decide)))
  have e1_3 : ¬ Int32.toInt v1 = (3 : Int) := fun q => c1_3 (Int32.toInt_inj.mp (q.trans (by decide)))
  have e1_4 : ¬ Int32.toInt v1 = (4 : Int) := fun q => c1_4 (Int32.toInt_inj.mp (q.trans (by decide)))
  refine lv_tableOut (tgt := 61) hx hb dX7_numberOf_1 (by omega) (by decide) ?_
  refine lv_aload_n hx hb dX7_numberOf_61 rfl (lv_at hl 0 rfl) ?_
  refine gf_X7_58 (v := .int (W_surprises g_this)) hx hb hqs hown hK hP 0 rfl rfl dX7_numberOf_62 ?_
  exact rt_i hx hb hr hlk hK hS (() : Unit) (ret2 h) hP hD dX7_numberOf_65

def f_X7_sumOf (g_this : TW) (v1 : Int32) : Option (Int64 × (Unit)) :=
  ((f_X8_isIn v1 (0 : Int32) (3 : Int32)).bind fun o1 => (if o1.1 = (0 : Int32) then (some ((0 : Int64), ())) else (if inb v1 4 = true then (some (((W_sums g_this) v1.toNatClampNeg), ())) else none)))
set_option maxHeartbeats 8000000 in
set_option maxRecDepth 100000 in
theorem c_X7_sumOf (l : Launch) (hlt : l.stackTraces = false) (D : va_G) (dT : Nat → ClassId) (a_this : Nat → Nat) (g_this : TW) (v1 : Int32) (o : (Int64 × (Unit))) (h : f_X7_sumOf g_this v1 = some o) (sz : Nat) : Met l yX7_sumOf (WSm yX7_sumOf cX7_sumOf 2 (some .long)) { frames := 1, cells := 0, slots := 0, locals := 22 } (va_Pc [.ref (a_this 0), .int v1] (cPre D dT (cW dT a_this g_this) sz)) (va_Ql (fun (r : Int64) (u : Unit) => r = o.1 ∧ u = o.2) (fun u t => cAt D dT (va_A (cW dT a_this g_this) sz) (cW dT a_this g_this) t) (va_A (cW dT a_this g_this) sz)) 0 0 (va_A (cW dT a_this g_this) sz) := by
  refine mStart (WS := (cW dT a_this g_this)) (Qc := fun A => va_Ql (fun (r : Int64) (u : Unit) => r = o.1 ∧ u = o.2) (fun u t => cAt D dT A (cW dT a_this g_this) t) A) RX7 rfl (by decide) (Nat.le_of_ble_eq_true rfl) ?_ sz
  intro p e s m below meth c A ls hx hb hml hr hlk hnm hts hqs hown hE hA hK hP hD hS hl
  have hl : lv_has ls 2 [(0, .ref (a_this 0)), (1, .int v1)] := hl
  unfold f_X7_sumOf at h
  refine lv_iload_n hx hb dX7_sumOf_0 rfl (lv_at hl 1 rfl) ?_
  refine lv_iconst (v := 0) hx hb dX7_sumOf_1 (by decide) ?_
  refine lv_iconst (v := 3) hx hb dX7_sumOf_2 (by decide) ?_
  obtain ⟨o1, e1, h⟩ := obind h
  have hPc := hP.sub (ws' := ([] : va_W)) [] rfl
  have hDc := hD.sub (ws' := ([] : va_W)) [] (by decide) rfl
  have hFc := va_free (wc := ([] : va_W)) hD hS hA [] rfl
  refine cl_i (wr := (cW dT a_this g_this)) (va_runSN (As := [.int v1, .int (0 : Int32), .int (3 : Int32)]) (rest := []) ⟨hx, hb, hml, hown, hts⟩ (c_X8_isIn l hlt D dT v1 (0 : Int32) (3 : Int32) o1 e1 _) ⟨va_cnB 3 hts (TB_in (WSm_in w_332)) rfl rfl rfl (hE.1 (RX7, 71, yX8_isIn, RX8) (List.mem_of_getElem? (i := 14) rfl)) (hqs _ w_50) nd_X8_isIn ⟨Nat.le_of_ble_eq_true rfl, Nat.le_of_ble_eq_true rfl⟩, hqs _ w_331, trivial⟩ (cPre.S hPc hDc hK hE hS hFc) rfl rfl hl.1 rfl (lv_room (Nat.le_of_ble_eq_true rfl)) dX7_sumOf_3 ⟨Nat.zero_le _, Nat.zero_le _⟩) hP hD hS hFc [] [0, 1, 2, 3, 4, 5, 6, 7, 8, 9] rfl rfl (by decide) (by decide) (fun r1 u1 H locs hw hP hD hS => ?_)
  obtain ⟨rfl, rfl⟩ := hw
  have hP : va_P D vwCl (cW dT a_this g_this) H := hP
  have hD : va_D A (cW dT a_this g_this) := hD
  refine lv_if_eq (tgt := 18) hx hb dX7_sumOf_6 (by decide) (fun c2 => ?_) (fun c2 => ?_)
  · replace h := iteT c2 h
    refine lv_lconst (v := 0) hx hb dX7_sumOf_18 (by decide) ?_
    exact rt_l hx hb hr hlk hK hS (() : Unit) (ret2 h) hP hD dX7_sumOf_19
  · replace h := iteF c2 h
    refine lv_aload_n hx hb dX7_sumOf_9 rfl (lv_at hl 0 rfl) ?_
    refine gf_X7_9 (v := .ref (a_this 1)) hx hb hqs hown hK hP 0 rfl rfl dX7_sumOf_10 ?_
    refine lv_iload_n hx hb dX7_sumOf_13 rfl (lv_at hl 1 rfl) ?_
    obtain ⟨g3, h⟩ := chk h
    refine va_lald hx hb hK hP 1 1 rfl rfl (inb_in g3) dX7_sumOf_14 ?_
    refine lv_goto (tgt := 19) hx hb dX7_sumOf_15 (by decide) ?_
    exact rt_l hx hb hr hlk hK hS (() : Unit) (ret2 h) hP hD dX7_sumOf_19

def f_X7_settingOf (g_this : TW) (v1 : Int32) : Option (Int32 × (Unit)) :=
  ((f_X8_isIn v1 (0 : Int32) (2 : Int32)).bind fun o1 => (if o1.1 = (0 : Int32) then (some ((0 : Int32), ())) else (if inb v1 3 = true then (some (((W_settings g_this) v1.toNatClampNeg), ())) else none)))
set_option maxHeartbeats 8000000 in
set_option maxRecDepth 100000 in
theorem c_X7_settingOf (l : Launch) (hlt : l.stackTraces = false) (D : va_G) (dT : Nat → ClassId) (a_this : Nat → Nat) (g_this : TW) (v1 : Int32) (o : (Int32 × (Unit))) (h : f_X7_settingOf g_this v1 = some o) (sz : Nat) : Met l yX7_settingOf (WSm yX7_settingOf cX7_settingOf 2 (some .int)) { frames := 1, cells := 0, slots := 0, locals := 22 } (va_Pc [.ref (a_this 0), .int v1] (cPre D dT (cW dT a_this g_this) sz)) (va_Qi (fun (r : Int32) (u : Unit) => r = o.1 ∧ u = o.2) (fun u t => cAt D dT (va_A (cW dT a_this g_this) sz) (cW dT a_this g_this) t) (va_A (cW dT a_this g_this) sz)) 0 0 (va_A (cW dT a_this g_this) sz) := by
  refine mStart (WS := (cW dT a_this g_this)) (Qc := fun A => va_Qi (fun (r : Int32) (u : Unit) => r = o.1 ∧ u = o.2) (fun u t => cAt D dT A (cW dT a_this g_this) t) A) RX7 rfl (by decide) (Nat.le_of_ble_eq_true rfl) ?_ sz
  intro p e s m below meth c A ls hx hb hml hr hlk hnm hts hqs hown hE hA hK hP hD hS hl
  have hl : lv_has ls 2 [(0, .ref (a_this 0)), (1, .int v1)] := hl
  unfold f_X7_settingOf at h
  refine lv_iload_n hx hb dX7_settingOf_0 rfl (lv_at hl 1 rfl) ?_
  refine lv_iconst (v := 0) hx hb dX7_settingOf_1 (by decide) ?_
  refine lv_iconst (v := 2) hx hb dX7_settingOf_2 (by decide) ?_
  obtain ⟨o1, e1, h⟩ := obind h
  have hPc := hP.sub (ws' := ([] : va_W)) [] rfl
  have hDc := hD.sub (ws' := ([] : va_W)) [] (by decide) rfl
  have hFc := va_free (wc := ([] : va_W)) hD hS hA [] rfl
  refine cl_i (wr := (cW dT a_this g_this)) (va_runSN (As := [.int v1, .int (0 : Int32), .int (2 : Int32)]) (rest := []) ⟨hx, hb, hml, hown, hts⟩ (c_X8_isIn l hlt D dT v1 (0 : Int32) (2 : Int32) o1 e1 _) ⟨va_cnB 3 hts (TB_in (WSm_in w_332)) rfl rfl rfl (hE.1 (RX7, 71, yX8_isIn, RX8) (List.mem_of_getElem? (i := 14) rfl)) (hqs _ w_50) nd_X8_isIn ⟨Nat.le_of_ble_eq_true rfl, Nat.le_of_ble_eq_true rfl⟩, hqs _ w_331, trivial⟩ (cPre.S hPc hDc hK hE hS hFc) rfl rfl hl.1 rfl (lv_room (Nat.le_of_ble_eq_true rfl)) dX7_settingOf_3 ⟨Nat.zero_le _, Nat.zero_le _⟩) hP hD hS hFc [] [0, 1, 2, 3, 4, 5, 6, 7, 8, 9] rfl rfl (by decide) (by decide) (fun r1 u1 H locs hw hP hD hS => ?_)
  obtain ⟨rfl, rfl⟩ := hw
  have hP : va_P D vwCl (cW dT a_this g_this) H := hP
  have hD : va_D A (cW dT a_this g_this) := hD
  refine lv_if_eq (tgt := 18) hx hb dX7_settingOf_6 (by decide) (fun c2 => ?_) (fun c2 => ?_)
  · replace h := iteT c2 h
    refine lv_iconst (v := 0) hx hb dX7_settingOf_18 (by decide) ?_
    exact rt_i hx hb hr hlk hK hS (() : Unit) (ret2 h) hP hD dX7_settingOf_19
  · replace h := iteF c2 h
    refine lv_aload_n hx hb dX7_settingOf_9 rfl (lv_at hl 0 rfl) ?_
    refine gf_X7_24 (v := .ref (a_this 2)) hx hb hqs hown hK hP 0 rfl rfl dX7_settingOf_10 ?_
    refine lv_iload_n hx hb dX7_settingOf_13 rfl (lv_at hl 1 rfl) ?_
    obtain ⟨g3, h⟩ := chk h
    refine va_iald hx hb hK hP 2 0 rfl rfl (inb_in g3) dX7_settingOf_14 ?_
    refine lv_goto (tgt := 19) hx hb dX7_settingOf_15 (by decide) ?_
    exact rt_i hx hb hr hlk hK hS (() : Unit) (ret2 h) hP hD dX7_settingOf_19

def f_X7_pairNumberOf (g_this : TW) (v1 : Int32) (v2 : Int32) : Option (Int32 × (Unit)) :=
  ((f_X7_isLinked g_this v1).bind fun o1 => (if o1.1 = (0 : Int32) then (some ((-1 : Int32), ())) else (if v2 = (0 : Int32) then ((f_X7_shareOf g_this v1 (0 : Int32)).bind fun o4 => (some (o4.1, ()))) else (if v2 = (1 : Int32) then ((f_X7_shareOf g_this v1 (2 : Int32)).bind fun o5 => (some (o5.1, ()))) else (if v2 = (2 : Int32) then ((f_X7_shareOf g_this v1 (1 : Int32)).bind fun o6 => (some (o6.1, ()))) else (if v2 = (3 : Int32) then ((f_X7_hasMemory g_this v1).bind fun o7 => (if o7.1 = (0 : Int32) then (some ((-1 : Int32), ())) else (if inb v1 21 = true then (some (((W_ages g_this) v1.toNatClampNeg), ())) else none))) else (if inb v1 21 = true then (some (((W_surprisesOf g_this) v1.toNatClampNeg), ())) else none)))))))
set_option maxHeartbeats 8000000 in
set_option maxRecDepth 100000 in
theorem c_X7_pairNumberOf (l : Launch) (hlt : l.stackTraces = false) (D : va_G) (dT : Nat → ClassId) (a_this : Nat → Nat) (g_this : TW) (v1 : Int32) (v2 : Int32) (o : (Int32 × (Unit))) (h : f_X7_pairNumberOf g_this v1 v2 = some o) (sz : Nat) : Met l yX7_pairNumberOf (WSm yX7_pairNumberOf cX7_pairNumberOf 3 (some .int)) { frames := 2, cells := 0, slots := 0, locals := 44 } (va_Pc [.ref (a_this 0), .int v1, .int v2] (cPre D dT (cW dT a_this g_this) sz)) (va_Qi (fun (r : Int32) (u : Unit) => r = o.1 ∧ u = o.2) (fun u t => cAt D dT (va_A (cW dT a_this g_this) sz) (cW dT a_this g_this) t) (va_A (cW dT a_this g_this) sz)) 0 0 (va_A (cW dT a_this g_this) sz) := by
  refine mStart (WS := (cW dT a_this g_this)) (Qc := fun A => va_Qi (fun (r : Int32) (u : Unit) => r = o.1 ∧ u = o.2) (fun u t => cAt D dT A (cW dT a_this g_this) t) A) RX7 rfl (by decide) (Nat.le_of_ble_eq_true rfl) ?_ sz
  intro p e s m below meth c A ls hx hb hml hr hlk hnm hts hqs hown hE hA hK hP hD hS hl
  have hl : lv_has ls 3 [(0, .ref (a_this 0)), (1, .int v1), (2, .int v2)] := hl
  unfold f_X7_pairNumberOf at h
  refine lv_aload_n hx hb dX7_pairNumberOf_0 rfl (lv_at hl 0 rfl) ?_
  refine lv_iload_n hx hb dX7_pairNumberOf_1 rfl (lv_at hl 1 rfl) ?_
  obtain ⟨o1, e1, h⟩ := obind h
  have hPc := hP
  have hDc := hD
  have hFc := vfall hD hS hA
  refine cl_iA (va_runV (As := [.int v1]) (rest := []) ⟨hx, hb, hml, hown, hts⟩ (c_X7_isLinked l hlt D dT a_this g_this v1 o1 e1 _) (cwV 1 hts (TB_V w_391 w_392 w_393 w_55 w_394) rfl rfl rfl ⟨rfl, nd_X7_isLinked⟩ ⟨Nat.le_of_ble_eq_true rfl, Nat.le_of_ble_eq_true rfl⟩) (cPre.V hPc hDc hK hE hS hFc (va_recv hK hP (ci := 6) (q0 := 0) rfl rfl)) rfl rfl hl.1 rfl (lv_room (Nat.le_of_ble_eq_true rfl)) dX7_pairNumberOf_2 ⟨Nat.zero_le _, Nat.zero_le _⟩) hS hFc (fun r1 u1 H locs hw hP hD hS => ?_)
  obtain ⟨rfl, rfl⟩ := hw
  have hP : va_P D vwCl (cW dT a_this g_this) H := hP
  have hD : va_D A (cW dT a_this g_this) := hD
  refine lv_if_ne (tgt := 10) hx hb dX7_pairNumberOf_5 (by decide) (fun c2 => ?_) (fun c2 => ?_)
  · replace h := iteF c2 h
    refine lv_iload_n hx hb dX7_pairNumberOf_10 rfl (lv_at hl 2 rfl) ?_
    by_cases c3_0 : v2 = (0 : Int32)
    · replace h := iteT c3_0 h
      refine lv_tableIn (off := (29)) (tgt := 40) hx hb dX7_pairNumberOf_11 (by rw [c3_0]; decide) (by rw [c3_0]; decide) (by rw [c3_0]; rfl) (by decide) ?_
      refine lv_aload_n hx hb dX7_pairNumberOf_40 rfl (lv_at hl 0 rfl) ?_
      refine lv_iload_n hx hb dX7_pairNumberOf_41 rfl (lv_at hl 1 rfl) ?_
      refine lv_iconst (v := 0) hx hb dX7_pairNumberOf_42 (by decide) ?_
      obtain ⟨o4, e4, h⟩ := obind h
      have hPc := hP
      have hDc := hD
      have hFc := vfall hD hS hA
      refine cl_iA (va_runV (As := [.int v1, .int (0 : Int32)]) (rest := []) ⟨hx, hb, hml, hown, hts⟩ (c_X7_shareOf l hlt D dT a_this g_this v1 (0 : Int32) o4 e4 _) (cwV 2 hts (TB_V w_400 w_401 w_402 w_55 w_403) rfl rfl rfl ⟨rfl, nd_X7_shareOf⟩ ⟨Nat.le_of_ble_eq_true rfl, Nat.le_of_ble_eq_true rfl⟩) (cPre.V hPc hDc hK hE hS hFc (va_recv hK hP (ci := 6) (q0 := 0) rfl rfl)) rfl rfl hl.1 rfl (lv_room (Nat.le_of_ble_eq_true rfl)) dX7_pairNumberOf_43 ⟨Nat.zero_le _, Nat.zero_le _⟩) hS hFc (fun r4 u4 H locs hw hP hD hS => ?_)
      obtain ⟨rfl, rfl⟩ := hw
      have hP : va_P D vwCl (cW dT a_this g_this) H := hP
      have hD : va_D A (cW dT a_this g_this) := hD
      exact rt_i hx hb hr hlk hK hS (() : Unit) (ret2 h) hP hD dX7_pairNumberOf_46
    replace h := iteF c3_0 h
    by_cases c3_1 : v2 = (1 : Int32)
    · replace h := iteT c3_1 h
      refine lv_tableIn (off := (36)) (tgt := 47) hx hb dX7_pairNumberOf_11 (by rw [c3_1]; decide) (by rw [c3_1]; decide) (by rw [c3_1]; rfl) (by decide) ?_
      refine lv_aload_n hx hb dX7_pairNumberOf_47 rfl (lv_at hl 0 rfl) ?_
      refine lv_iload_n hx hb dX7_pairNumberOf_48 rfl (lv_at hl 1 rfl) ?_
      refine lv_iconst (v := 2) hx hb dX7_pairNumberOf_49 (by decide) ?_
      obtain ⟨o5, e5, h⟩ := obind h
      have hPc := hP
      have hDc := hD
      have hFc := vfall hD hS hA
      refine cl_iA (va_runV (As := [.int v1, .int (2 : Int32)]) (rest := []) ⟨hx, hb, hml, hown, hts⟩ (c_X7_shareOf l hlt D dT a_this g_this v1 (2 : Int32) o5 e5 _) (cwV 2 hts (TB_V w_400 w_401 w_402 w_55 w_403) rfl rfl rfl ⟨rfl, nd_X7_shareOf⟩ ⟨Nat.le_of_ble_eq_true rfl, Nat.le_of_ble_eq_true rfl⟩) (cPre.V hPc hDc hK hE hS hFc (va_recv hK hP (ci := 6) (q0 := 0) rfl rfl)) rfl rfl hl.1 rfl (lv_room (Nat.le_of_ble_eq_true rfl)) dX7_pairNumberOf_50 ⟨Nat.zero_le _, Nat.zero_le _⟩) hS hFc (fun r5 u5 H locs hw hP hD hS => ?_)
      obtain ⟨rfl, rfl⟩ := hw
      have hP : va_P D vwCl (cW dT a_this g_this) H := hP
      have hD : va_D A (cW dT a_this g_this) := hD
      exact rt_i hx hb hr hlk hK hS (() : Unit) (ret2 h) hP hD dX7_pairNumberOf_53
    replace h := iteF c3_1 h
    by_cases c3_2 : v2 = (2 : Int32)
    · replace h := iteT c3_2 h
      refine lv_tableIn (off := (43)) (tgt := 54) hx hb dX7_pairNumberOf_11 (by rw [c3_2]; decide) (by rw [c3_2]; decide) (by rw [c3_2]; rfl) (by decide) ?_
      refine lv_aload_n hx hb dX7_pairNumberOf_54 rfl (lv_at hl 0 rfl) ?_
      refine lv_iload_n hx hb dX7_pairNumberOf_55 rfl (lv_at hl 1 rfl) ?_
      refine lv_iconst (v := 1) hx hb dX7_pairNumberOf_56 (by decide) ?_
      obtain ⟨o6, e6, h⟩ := obind h
      have hPc := hP
      have hDc := hD
      have hFc := vfall hD hS hA
      refine cl_iA (va_runV (As := [.int v1, .int (1 : Int32)]) (rest := []) ⟨hx, hb, hml, hown, hts⟩ (c_X7_shareOf l hlt D dT a_this g_this v1 (1 : Int32) o6 e6 _) (cwV 2 hts (TB_V w_400 w_401 w_402 w_55 w_403) rfl rfl rfl ⟨rfl, nd_X7_shareOf⟩ ⟨Nat.le_of_ble_eq_true rfl, Nat.le_of_ble_eq_true rfl⟩) (cPre.V hPc hDc hK hE hS hFc (va_recv hK hP (ci := 6) (q0 := 0) rfl rfl)) rfl rfl hl.1 rfl (lv_room (Nat.le_of_ble_eq_true rfl)) dX7_pairNumberOf_57 ⟨Nat.zero_le _, Nat.zero_le _⟩) hS hFc (fun r6 u6 H locs hw hP hD hS => ?_)
      obtain ⟨rfl, rfl⟩ := hw
      have hP : va_P D vwCl (cW dT a_this g_this) H := hP
      have hD : va_D A (cW dT a_this g_this) := hD
      exact rt_i hx hb hr hlk hK hS (() : Unit) (ret2 h) hP hD dX7_pairNumberOf_60
    replace h := iteF c3_2 h
    by_cases c3_3 : v2 = (3 : Int32)
    · replace h := iteT c3_3 h
      refine lv_tableIn (off := (50)) (tgt := 61) hx hb dX7_pairNumberOf_11 (by rw [c3_3]; decide) (by rw [c3_3]; decide) (by rw [c3_3]; rfl) (by decide) ?_
      refine lv_aload_n hx hb dX7_pairNumberOf_61 rfl (lv_at hl 0 rfl) ?_
      refine lv_iload_n hx hb dX7_pairNumberOf_62 rfl (lv_at hl 1 rfl) ?_
      obtain ⟨o7, e7, h⟩ := obind h
      have hPc := hP
      have hDc := hD
      have hFc := vfall hD hS hA
      refine cl_iA (va_runV (As := [.int v1]) (rest := []) ⟨hx, hb, hml, hown, hts⟩ (c_X7_hasMemory l hlt D dT a_this g_this v1 o7 e7 _) (cwV 1 hts (TB_V w_654 w_655 w_656 w_55 w_657) rfl rfl rfl ⟨rfl, nd_X7_hasMemory⟩ ⟨Nat.le_of_ble_eq_true rfl, Nat.le_of_ble_eq_true rfl⟩) (cPre.V hPc hDc hK hE hS hFc (va_recv hK hP (ci := 6) (q0 := 0) rfl rfl)) rfl rfl hl.1 rfl (lv_room (Nat.le_of_ble_eq_true rfl)) dX7_pairNumberOf_63 ⟨Nat.zero_le _, Nat.zero_le _⟩) hS hFc (fun r7 u7 H locs hw hP hD hS => ?_)
      obtain ⟨rfl, rfl⟩ := hw
      have hP : va_P D vwCl (cW dT a_this g_this) H := hP
      have hD : va_D A (cW dT a_this g_this) := hD
      refine lv_if_eq (tgt := 78) hx hb dX7_pairNumberOf_66 (by decide) (fun c8 => ?_) (fun c8 => ?_)
      · replace h := iteT c8 h
        refine lv_iconst (v := -1) hx hb dX7_pairNumberOf_78 (by decide) ?_
        exact rt_i hx hb hr hlk hK hS (() : Unit) (ret2 h) hP hD dX7_pairNumberOf_79
      · replace h := iteF c8 h
        refine lv_aload_n hx hb dX7_pairNumberOf_69 rfl (lv_at hl 0 rfl) ?_
        refine gf_X7_39 (v := .ref (a_this 7)) hx hb hqs hown hK hP 0 rfl rfl dX7_pairNumberOf_70 ?_
        refine lv_iload_n hx hb dX7_pairNumberOf_73 rfl (lv_at hl 1 rfl) ?_
        obtain ⟨g9, h⟩ := chk h
        refine va_iald hx hb hK hP 7 0 rfl rfl (inb_in g9) dX7_pairNumberOf_74 ?_
        refine lv_goto (tgt := 79) hx hb dX7_pairNumberOf_75 (by decide) ?_
        exact rt_i hx hb hr hlk hK hS (() : Unit) (ret2 h) hP hD dX7_pairNumberOf_79
    replace h := iteF c3_3 h
    have e3_0 : ¬ Int32.toInt v2 = (0 : Int) := fun q => c3_0 (Int32.toInt_inj.mp (q.trans (by decide)))
    have e3_1 : ¬ Int32.toInt v2 = (1 : Int) := fun q => c3_1 (Int32.toInt_inj.mp (q.trans (by decide)))
    have e3_2 : ¬ Int32.toInt v2 = (2 : Int) := fun q => c3_2 (Int32.toInt_inj.mp (q.trans (by decide)))
    have e3_3 : ¬ Int32.toInt v2 = (3 : Int) := fun q => c3_3 (Int32.toInt_inj.mp (q.trans (by decide)))
    refine lv_tableOut (tgt := 80) hx hb dX7_pairNumberOf_11 (by omega) (by decide) ?_
    refine lv_aload_n hx hb dX7_pairNumberOf_80 rfl (lv_at hl 0 rfl) ?_
    refine gf_X7_42 (v := .ref (a_this 8)) hx hb hqs hown hK hP 0 rfl rfl dX7_pairNumberOf_81 ?_
    refine lv_iload_n hx hb dX7_pairNumberOf_84 rfl (lv_at hl 1 rfl) ?_
    obtain ⟨g10, h⟩ := chk h
    refine va_iald hx hb hK hP 8 0 rfl rfl (inb_in g10) dX7_pairNumberOf_85 ?_
    exact rt_i hx hb hr hlk hK hS (() : Unit) (ret2 h) hP hD dX7_pairNumberOf_86
  · replace h := iteT c2 h
    refine lv_iconst (v := -1) hx hb dX7_pairNumberOf_8 (by decide) ?_
    exact rt_i hx hb hr hlk hK hS (() : Unit) (ret2 h) hP hD dX7_pairNumberOf_9

def f_X7_surpriseNumberOf (g_this : TW) (v1 : Int32) (v2 : Int32) : Option (Int32 × (Unit)) :=
  (if v1 < (0 : Int32) then (some ((-1 : Int32), ())) else (if (10 : Int32) ≤ v1 then (some ((-1 : Int32), ())) else (if (W_surprises g_this) ≤ v1 then (some ((-1 : Int32), ())) else ((f_X8_isIn v2 (0 : Int32) (3 : Int32)).bind fun o4 => (if o4.1 = (0 : Int32) then (some ((-1 : Int32), ())) else (if inb ((((((W_surprises g_this) - (1 : Int32)) - v1) - (((W_surprises g_this) - (1 : Int32)) - v1) / (10 : Int32) * (10 : Int32)) * (4 : Int32)) + v2) 40 = true then (some (((W_told g_this) ((((((W_surprises g_this) - (1 : Int32)) - v1) - (((W_surprises g_this) - (1 : Int32)) - v1) / (10 : Int32) * (10 : Int32)) * (4 : Int32)) + v2).toNatClampNeg), ())) else none))))))
set_option maxHeartbeats 8000000 in
set_option maxRecDepth 100000 in
theorem c_X7_surpriseNumberOf (l : Launch) (hlt : l.stackTraces = false) (D : va_G) (dT : Nat → ClassId) (a_this : Nat → Nat) (g_this : TW) (v1 : Int32) (v2 : Int32) (o : (Int32 × (Unit))) (h : f_X7_surpriseNumberOf g_this v1 v2 = some o) (sz : Nat) : Met l yX7_surpriseNumberOf (WSm yX7_surpriseNumberOf cX7_surpriseNumberOf 3 (some .int)) { frames := 1, cells := 0, slots := 0, locals := 22 } (va_Pc [.ref (a_this 0), .int v1, .int v2] (cPre D dT (cW dT a_this g_this) sz)) (va_Qi (fun (r : Int32) (u : Unit) => r = o.1 ∧ u = o.2) (fun u t => cAt D dT (va_A (cW dT a_this g_this) sz) (cW dT a_this g_this) t) (va_A (cW dT a_this g_this) sz)) 0 0 (va_A (cW dT a_this g_this) sz) := by
  refine mStart (WS := (cW dT a_this g_this)) (Qc := fun A => va_Qi (fun (r : Int32) (u : Unit) => r = o.1 ∧ u = o.2) (fun u t => cAt D dT A (cW dT a_this g_this) t) A) RX7 rfl (by decide) (Nat.le_of_ble_eq_true rfl) ?_ sz
  intro p e s m below meth c A ls hx hb hml hr hlk hnm hts hqs hown hE hA hK hP hD hS hl
  have hl : lv_has ls 3 [(0, .ref (a_this 0)), (1, .int v1), (2, .int v2)] := hl
  unfold f_X7_surpriseNumberOf at h
  refine lv_iload_n hx hb dX7_surpriseNumberOf_0 rfl (lv_at hl 1 rfl) ?_
  refine lv_if_lt (tgt := 27) hx hb dX7_surpriseNumberOf_1 (by decide) (fun c1 => ?_) (fun c1 => ?_)
  · replace h := iteT c1 h
    refine lv_iconst (v := -1) hx hb dX7_surpriseNumberOf_27 (by decide) ?_
    exact rt_i hx hb hr hlk hK hS (() : Unit) (ret2 h) hP hD dX7_surpriseNumberOf_28
  · replace h := iteF c1 h
    refine lv_iload_n hx hb dX7_surpriseNumberOf_4 rfl (lv_at hl 1 rfl) ?_
    refine lv_bipush (v := 10) hx hb dX7_surpriseNumberOf_5 (by decide) ?_
    refine lv_icmp_ge (tgt := 27) hx hb dX7_surpriseNumberOf_7 (by decide) (fun c2 => ?_) (fun c2 => ?_)
    · replace h := iteT c2 h
      refine lv_iconst (v := -1) hx hb dX7_surpriseNumberOf_27 (by decide) ?_
      exact rt_i hx hb hr hlk hK hS (() : Unit) (ret2 h) hP hD dX7_surpriseNumberOf_28
    · replace h := iteF c2 h
      refine lv_iload_n hx hb dX7_surpriseNumberOf_10 rfl (lv_at hl 1 rfl) ?_
      refine lv_aload_n hx hb dX7_surpriseNumberOf_11 rfl (lv_at hl 0 rfl) ?_
      refine gf_X7_58 (v := .int (W_surprises g_this)) hx hb hqs hown hK hP 0 rfl rfl dX7_surpriseNumberOf_12 ?_
      refine lv_icmp_ge (tgt := 27) hx hb dX7_surpriseNumberOf_15 (by decide) (fun c3 => ?_) (fun c3 => ?_)
      · replace h := iteT c3 h
        refine lv_iconst (v := -1) hx hb dX7_surpriseNumberOf_27 (by decide) ?_
        exact rt_i hx hb hr hlk hK hS (() : Unit) (ret2 h) hP hD dX7_surpriseNumberOf_28
      · replace h := iteF c3 h
        refine lv_iload_n hx hb dX7_surpriseNumberOf_18 rfl (lv_at hl 2 rfl) ?_
        refine lv_iconst (v := 0) hx hb dX7_surpriseNumberOf_19 (by decide) ?_
        refine lv_iconst (v := 3) hx hb dX7_surpriseNumberOf_20 (by decide) ?_
        obtain ⟨o4, e4, h⟩ := obind h
        have hPc := hP.sub (ws' := ([] : va_W)) [] rfl
        have hDc := hD.sub (ws' := ([] : va_W)) [] (by decide) rfl
        have hFc := va_free (wc := ([] : va_W)) hD hS hA [] rfl
        refine cl_i (wr := (cW dT a_this g_this)) (va_runSN (As := [.int v2, .int (0 : Int32), .int (3 : Int32)]) (rest := []) ⟨hx, hb, hml, hown, hts⟩ (c_X8_isIn l hlt D dT v2 (0 : Int32) (3 : Int32) o4 e4 _) ⟨va_cnB 3 hts (TB_in (WSm_in w_332)) rfl rfl rfl (hE.1 (RX7, 71, yX8_isIn, RX8) (List.mem_of_getElem? (i := 14) rfl)) (hqs _ w_50) nd_X8_isIn ⟨Nat.le_of_ble_eq_true rfl, Nat.le_of_ble_eq_true rfl⟩, hqs _ w_331, trivial⟩ (cPre.S hPc hDc hK hE hS hFc) rfl rfl hl.1 rfl (lv_room (Nat.le_of_ble_eq_true rfl)) dX7_surpriseNumberOf_21 ⟨Nat.zero_le _, Nat.zero_le _⟩) hP hD hS hFc [] [0, 1, 2, 3, 4, 5, 6, 7, 8, 9] rfl rfl (by decide) (by decide) (fun r4 u4 H locs hw hP hD hS => ?_)
        obtain ⟨rfl, rfl⟩ := hw
        have hP : va_P D vwCl (cW dT a_this g_this) H := hP
        have hD : va_D A (cW dT a_this g_this) := hD
        refine lv_if_ne (tgt := 29) hx hb dX7_surpriseNumberOf_24 (by decide) (fun c5 => ?_) (fun c5 => ?_)
        · replace h := iteF c5 h
          refine lv_aload_n hx hb dX7_surpriseNumberOf_29 rfl (lv_at hl 0 rfl) ?_
          refine gf_X7_45 (v := .ref (a_this 9)) hx hb hqs hown hK hP 0 rfl rfl dX7_surpriseNumberOf_30 ?_
          refine lv_aload_n hx hb dX7_surpriseNumberOf_33 rfl (lv_at hl 0 rfl) ?_
          refine gf_X7_58 (v := .int (W_surprises g_this)) hx hb hqs hown hK hP 0 rfl rfl dX7_surpriseNumberOf_34 ?_
          refine lv_iconst (v := 1) hx hb dX7_surpriseNumberOf_37 (by decide) ?_
          refine lv_isub hx hb dX7_surpriseNumberOf_38 ?_
          refine lv_iload_n hx hb dX7_surpriseNumberOf_39 rfl (lv_at hl 1 rfl) ?_
          refine lv_isub hx hb dX7_surpriseNumberOf_40 ?_
          refine lv_bipush (v := 10) hx hb dX7_surpriseNumberOf_41 (by decide) ?_
          refine lv_irem hx hb dX7_surpriseNumberOf_43 (by decide) ?_
          refine lv_iconst (v := 4) hx hb dX7_surpriseNumberOf_44 (by decide) ?_
          refine lv_imul hx hb dX7_surpriseNumberOf_45 ?_
          refine lv_iload_n hx hb dX7_surpriseNumberOf_46 rfl (lv_at hl 2 rfl) ?_
          refine lv_iadd hx hb dX7_surpriseNumberOf_47 ?_
          obtain ⟨g6, h⟩ := chk h
          refine va_iald hx hb hK hP 9 0 rfl rfl (inb_in g6) dX7_surpriseNumberOf_48 ?_
          exact rt_i hx hb hr hlk hK hS (() : Unit) (ret2 h) hP hD dX7_surpriseNumberOf_49
        · replace h := iteT c5 h
          refine lv_iconst (v := -1) hx hb dX7_surpriseNumberOf_27 (by decide) ?_
          exact rt_i hx hb hr hlk hK hS (() : Unit) (ret2 h) hP hD dX7_surpriseNumberOf_28

def f_X7_addTable (g_this : TW) (v1 : Int32) : Option (Int32 × (TW)) :=
  ((f_X8_isIn (W_tables g_this) (0 : Int32) (6 : Int32)).bind fun o1 => (if o1.1 = (0 : Int32) then (some (((W_tables g_this) - (1 : Int32)), g_this)) else (if inb (W_tables g_this) 7 = true then (some ((((W_tables g_this) + (1 : Int32)) - (1 : Int32)), (W_mk ((W_tables g_this) + (1 : Int32)) (W_weeks g_this) (W_runs g_this) (W_surprises g_this) (W_sums g_this) (W_settings g_this) (upd (W_sizes g_this) (W_tables g_this).toNatClampNeg v1) (W_guesses g_this) (W_shares g_this) (W_memories g_this) (W_ages g_this) (W_surprisesOf g_this) (W_told g_this)))) else none)))
set_option maxHeartbeats 8000000 in
set_option maxRecDepth 100000 in
theorem c_X7_addTable (l : Launch) (hlt : l.stackTraces = false) (D : va_G) (dT : Nat → ClassId) (a_this : Nat → Nat) (g_this : TW) (v1 : Int32) (o : (Int32 × (TW))) (h : f_X7_addTable g_this v1 = some o) (sz : Nat) : Met l yX7_addTable (WSm yX7_addTable cX7_addTable 2 (some .int)) { frames := 1, cells := 0, slots := 0, locals := 22 } (va_Pc [.ref (a_this 0), .int v1] (cPre D dT (cW dT a_this g_this) sz)) (va_Qi (fun (r : Int32) (u : TW) => r = o.1 ∧ u = o.2) (fun u t => cAt D dT (va_A (cW dT a_this g_this) sz) (cW dT a_this u) t) (va_A (cW dT a_this g_this) sz)) 0 0 (va_A (cW dT a_this g_this) sz) := by
  refine mStart (WS := (cW dT a_this g_this)) (Qc := fun A => va_Qi (fun (r : Int32) (u : TW) => r = o.1 ∧ u = o.2) (fun u t => cAt D dT A (cW dT a_this u) t) A) RX7 rfl (by decide) (Nat.le_of_ble_eq_true rfl) ?_ sz
  intro p e s m below meth c A ls hx hb hml hr hlk hnm hts hqs hown hE hA hK hP hD hS hl
  have hl : lv_has ls 2 [(0, .ref (a_this 0)), (1, .int v1)] := hl
  unfold f_X7_addTable at h
  refine lv_aload_n hx hb dX7_addTable_0 rfl (lv_at hl 0 rfl) ?_
  refine gf_X7_48 (v := .int (W_tables g_this)) hx hb hqs hown hK hP 0 rfl rfl dX7_addTable_1 ?_
  refine lv_iconst (v := 0) hx hb dX7_addTable_4 (by decide) ?_
  refine lv_bipush (v := 6) hx hb dX7_addTable_5 (by decide) ?_
  obtain ⟨o1, e1, h⟩ := obind h
  have hPc := hP.sub (ws' := ([] : va_W)) [] rfl
  have hDc := hD.sub (ws' := ([] : va_W)) [] (by decide) rfl
  have hFc := va_free (wc := ([] : va_W)) hD hS hA [] rfl
  refine cl_i (wr := (cW dT a_this g_this)) (va_runSN (As := [.int (W_tables g_this), .int (0 : Int32), .int (6 : Int32)]) (rest := []) ⟨hx, hb, hml, hown, hts⟩ (c_X8_isIn l hlt D dT (W_tables g_this) (0 : Int32) (6 : Int32) o1 e1 _) ⟨va_cnB 3 hts (TB_in (WSm_in w_332)) rfl rfl rfl (hE.1 (RX7, 71, yX8_isIn, RX8) (List.mem_of_getElem? (i := 14) rfl)) (hqs _ w_50) nd_X8_isIn ⟨Nat.le_of_ble_eq_true rfl, Nat.le_of_ble_eq_true rfl⟩, hqs _ w_331, trivial⟩ (cPre.S hPc hDc hK hE hS hFc) rfl rfl hl.1 rfl (lv_room (Nat.le_of_ble_eq_true rfl)) dX7_addTable_7 ⟨Nat.zero_le _, Nat.zero_le _⟩) hP hD hS hFc [] [0, 1, 2, 3, 4, 5, 6, 7, 8, 9] rfl rfl (by decide) (by decide) (fun r1 u1 H locs hw hP hD hS => ?_)
  obtain ⟨rfl, rfl⟩ := hw
  have hP : va_P D vwCl (cW dT a_this g_this) H := hP
  have hD : va_D A (cW dT a_this g_this) := hD
  refine lv_if_eq (tgt := 33) hx hb dX7_addTable_10 (by decide) (fun c2 => ?_) (fun c2 => ?_)
  · replace h := iteT c2 h
    refine lv_aload_n hx hb dX7_addTable_33 rfl (lv_at hl 0 rfl) ?_
    refine gf_X7_48 (v := .int (W_tables g_this)) hx hb hqs hown hK hP 0 rfl rfl dX7_addTable_34 ?_
    refine lv_iconst (v := 1) hx hb dX7_addTable_37 (by decide) ?_
    refine lv_isub hx hb dX7_addTable_38 ?_
    exact rt_i hx hb hr hlk hK hS (g_this : TW) (ret2 h) hP hD dX7_addTable_39
  · replace h := iteF c2 h
    refine lv_aload_n hx hb dX7_addTable_13 rfl (lv_at hl 0 rfl) ?_
    refine gf_X7_27 (v := .ref (a_this 3)) hx hb hqs hown hK hP 0 rfl rfl dX7_addTable_14 ?_
    refine lv_aload_n hx hb dX7_addTable_17 rfl (lv_at hl 0 rfl) ?_
    refine gf_X7_48 (v := .int (W_tables g_this)) hx hb hqs hown hK hP 0 rfl rfl dX7_addTable_18 ?_
    refine lv_iload_n hx hb dX7_addTable_21 rfl (lv_at hl 1 rfl) ?_
    obtain ⟨g3, h⟩ := chk h
    refine va_iast hx hb hK hP hD hS 3 0 rfl rfl (inb_in g3) dX7_addTable_22 (fun H locs hP hD hS => ?_)
    have hP : va_P D vwCl ([(a_this 0, .inr (6, [.int (W_tables g_this), .int (W_weeks g_this), .int (W_runs g_this), .int (W_surprises g_this), .ref (a_this 1), .ref (a_this 2), .ref (a_this 3), .ref (a_this 4), .ref (a_this 5), .ref (a_this 6), .ref (a_this 7), .ref (a_this 8), .ref (a_this 9)])), (a_this 1, .inl (dT 1, 4, .inr (.inl (W_sums g_this)))), (a_this 2, .inl (dT 0, 3, .inl (W_settings g_this))), (a_this 3, .inl (dT 0, 7, .inl (upd (W_sizes g_this) (W_tables g_this).toNatClampNeg v1))), (a_this 4, .inl (dT 0, 21, .inl (W_guesses g_this))), (a_this 5, .inl (dT 0, 21, .inl (W_shares g_this))), (a_this 6, .inl (dT 0, 21, .inl (W_memories g_this))), (a_this 7, .inl (dT 0, 21, .inl (W_ages g_this))), (a_this 8, .inl (dT 0, 21, .inl (W_surprisesOf g_this))), (a_this 9, .inl (dT 0, 40, .inl (W_told g_this)))]) H := hP
    have hD : va_D A ([(a_this 0, .inr (6, [.int (W_tables g_this), .int (W_weeks g_this), .int (W_runs g_this), .int (W_surprises g_this), .ref (a_this 1), .ref (a_this 2), .ref (a_this 3), .ref (a_this 4), .ref (a_this 5), .ref (a_this 6), .ref (a_this 7), .ref (a_this 8), .ref (a_this 9)])), (a_this 1, .inl (dT 1, 4, .inr (.inl (W_sums g_this)))), (a_this 2, .inl (dT 0, 3, .inl (W_settings g_this))), (a_this 3, .inl (dT 0, 7, .inl (upd (W_sizes g_this) (W_tables g_this).toNatClampNeg v1))), (a_this 4, .inl (dT 0, 21, .inl (W_guesses g_this))), (a_this 5, .inl (dT 0, 21, .inl (W_shares g_this))), (a_this 6, .inl (dT 0, 21, .inl (W_memories g_this))), (a_this 7, .inl (dT 0, 21, .inl (W_ages g_this))), (a_this 8, .inl (dT 0, 21, .inl (W_surprisesOf g_this))), (a_this 9, .inl (dT 0, 40, .inl (W_told g_this)))]) := hD
    refine lv_aload_n hx hb dX7_addTable_23 rfl (lv_at hl 0 rfl) ?_
    refine lv_dup hx hb dX7_addTable_24 rfl ?_
    refine gf_X7_48 (v := .int (W_tables g_this)) hx hb hqs hown hK hP 0 rfl rfl dX7_addTable_25 ?_
    refine lv_iconst (v := 1) hx hb dX7_addTable_28 (by decide) ?_
    refine lv_iadd hx hb dX7_addTable_29 ?_
    refine pf_X7_48 hx hb hqs hown hK hP hD hS 0 rfl rfl dX7_addTable_30 (fun H locs hP hD hS => ?_)
    have hP : va_P D vwCl ([(a_this 0, .inr (6, [.int ((W_tables g_this) + (1 : Int32)), .int (W_weeks g_this), .int (W_runs g_this), .int (W_surprises g_this), .ref (a_this 1), .ref (a_this 2), .ref (a_this 3), .ref (a_this 4), .ref (a_this 5), .ref (a_this 6), .ref (a_this 7), .ref (a_this 8), .ref (a_this 9)])), (a_this 1, .inl (dT 1, 4, .inr (.inl (W_sums g_this)))), (a_this 2, .inl (dT 0, 3, .inl (W_settings g_this))), (a_this 3, .inl (dT 0, 7, .inl (upd (W_sizes g_this) (W_tables g_this).toNatClampNeg v1))), (a_this 4, .inl (dT 0, 21, .inl (W_guesses g_this))), (a_this 5, .inl (dT 0, 21, .inl (W_shares g_this))), (a_this 6, .inl (dT 0, 21, .inl (W_memories g_this))), (a_this 7, .inl (dT 0, 21, .inl (W_ages g_this))), (a_this 8, .inl (dT 0, 21, .inl (W_surprisesOf g_this))), (a_this 9, .inl (dT 0, 40, .inl (W_told g_this)))]) H := hP
    have hD : va_D A ([(a_this 0, .inr (6, [.int ((W_tables g_this) + (1 : Int32)), .int (W_weeks g_this), .int (W_runs g_this), .int (W_surprises g_this), .ref (a_this 1), .ref (a_this 2), .ref (a_this 3), .ref (a_this 4), .ref (a_this 5), .ref (a_this 6), .ref (a_this 7), .ref (a_this 8), .ref (a_this 9)])), (a_this 1, .inl (dT 1, 4, .inr (.inl (W_sums g_this)))), (a_this 2, .inl (dT 0, 3, .inl (W_settings g_this))), (a_this 3, .inl (dT 0, 7, .inl (upd (W_sizes g_this) (W_tables g_this).toNatClampNeg v1))), (a_this 4, .inl (dT 0, 21, .inl (W_guesses g_this))), (a_this 5, .inl (dT 0, 21, .inl (W_shares g_this))), (a_this 6, .inl (dT 0, 21, .inl (W_memories g_this))), (a_this 7, .inl (dT 0, 21, .inl (W_ages g_this))), (a_this 8, .inl (dT 0, 21, .inl (W_surprisesOf g_this))), (a_this 9, .inl (dT 0, 40, .inl (W_told g_this)))]) := hD
    refine lv_aload_n hx hb dX7_addTable_33 rfl (lv_at hl 0 rfl) ?_
    refine gf_X7_48 (v := .int ((W_tables g_this) + (1 : Int32))) hx hb hqs hown hK hP 0 rfl rfl dX7_addTable_34 ?_
    refine lv_iconst (v := 1) hx hb dX7_addTable_37 (by decide) ?_
    refine lv_isub hx hb dX7_addTable_38 ?_
    exact rt_i hx hb hr hlk hK hS ((W_mk ((W_tables g_this) + (1 : Int32)) (W_weeks g_this) (W_runs g_this) (W_surprises g_this) (W_sums g_this) (W_settings g_this) (upd (W_sizes g_this) (W_tables g_this).toNatClampNeg v1) (W_guesses g_this) (W_shares g_this) (W_memories g_this) (W_ages g_this) (W_surprisesOf g_this) (W_told g_this)) : TW) (ret2 h) hP hD dX7_addTable_39

def f_X7_changeSize (g_this : TW) (v1 : Int32) (v2 : Int32) : Option (Int32 × (TW)) :=
  ((f_X7_sizeOf g_this v1).bind fun o1 => ((f_X8_isIn v1 (0 : Int32) (6 : Int32)).bind fun o2 => (if o2.1 = (0 : Int32) then (some (o1.1, g_this)) else (if inb v1 7 = true then (some (o1.1, (W_mk (W_tables g_this) (W_weeks g_this) (W_runs g_this) (W_surprises g_this) (W_sums g_this) (W_settings g_this) (upd (W_sizes g_this) v1.toNatClampNeg v2) (W_guesses g_this) (W_shares g_this) (W_memories g_this) (W_ages g_this) (W_surprisesOf g_this) (W_told g_this)))) else none))))
set_option maxHeartbeats 8000000 in
set_option maxRecDepth 100000 in
theorem c_X7_changeSize (l : Launch) (hlt : l.stackTraces = false) (D : va_G) (dT : Nat → ClassId) (a_this : Nat → Nat) (g_this : TW) (v1 : Int32) (v2 : Int32) (o : (Int32 × (TW))) (h : f_X7_changeSize g_this v1 v2 = some o) (sz : Nat) : Met l yX7_changeSize (WSm yX7_changeSize cX7_changeSize 4 (some .int)) { frames := 2, cells := 0, slots := 0, locals := 43 } (va_Pc [.ref (a_this 0), .int v1, .int v2] (cPre D dT (cW dT a_this g_this) sz)) (va_Qi (fun (r : Int32) (u : TW) => r = o.1 ∧ u = o.2) (fun u t => cAt D dT (va_A (cW dT a_this g_this) sz) (cW dT a_this u) t) (va_A (cW dT a_this g_this) sz)) 0 0 (va_A (cW dT a_this g_this) sz) := by
  refine mStart (WS := (cW dT a_this g_this)) (Qc := fun A => va_Qi (fun (r : Int32) (u : TW) => r = o.1 ∧ u = o.2) (fun u t => cAt D dT A (cW dT a_this u) t) A) RX7 rfl (by decide) (Nat.le_of_ble_eq_true rfl) ?_ sz
  intro p e s m below meth c A ls hx hb hml hr hlk hnm hts hqs hown hE hA hK hP hD hS hl
  have hl : lv_has ls 4 [(0, .ref (a_this 0)), (1, .int v1), (2, .int v2)] := hl
  unfold f_X7_changeSize at h
  refine lv_aload_n hx hb dX7_changeSize_0 rfl (lv_at hl 0 rfl) ?_
  refine lv_iload_n hx hb dX7_changeSize_1 rfl (lv_at hl 1 rfl) ?_
  obtain ⟨o1, e1, h⟩ := obind h
  have hPc := hP
  have hDc := hD
  have hFc := vfall hD hS hA
  refine cl_iA (va_runV (As := [.int v1]) (rest := []) ⟨hx, hb, hml, hown, hts⟩ (c_X7_sizeOf l hlt D dT a_this g_this v1 o1 e1 _) (cwV 1 hts (TB_V w_713 w_635 w_636 w_55 w_637) rfl rfl rfl ⟨rfl, nd_X7_sizeOf⟩ ⟨Nat.le_of_ble_eq_true rfl, Nat.le_of_ble_eq_true rfl⟩) (cPre.V hPc hDc hK hE hS hFc (va_recv hK hP (ci := 6) (q0 := 0) rfl rfl)) rfl rfl hl.1 rfl (lv_room (Nat.le_of_ble_eq_true rfl)) dX7_changeSize_2 ⟨Nat.zero_le _, Nat.zero_le _⟩) hS hFc (fun r1 u1 H locs hw hP hD hS => ?_)
  obtain ⟨rfl, rfl⟩ := hw
  have hP : va_P D vwCl (cW dT a_this g_this) H := hP
  have hD : va_D A (cW dT a_this g_this) := hD
  refine lv_istore_n (lv' := [(3, .int o1.1), (0, .ref (a_this 0)), (1, .int v1), (2, .int v2)]) hx hb dX7_changeSize_5 rfl hl (by decide) rfl (fun ls hl => ?_)
  refine lv_iload_n hx hb dX7_changeSize_6 rfl (lv_at hl 2 rfl) ?_
  refine lv_iconst (v := 0) hx hb dX7_changeSize_7 (by decide) ?_
  refine lv_bipush (v := 6) hx hb dX7_changeSize_8 (by decide) ?_
  obtain ⟨o2, e2, h⟩ := obind h
  have hPc := hP.sub (ws' := ([] : va_W)) [] rfl
  have hDc := hD.sub (ws' := ([] : va_W)) [] (by decide) rfl
  have hFc := va_free (wc := ([] : va_W)) hD hS hA [] rfl
  refine cl_i (wr := (cW dT a_this g_this)) (va_runSN (As := [.int v1, .int (0 : Int32), .int (6 : Int32)]) (rest := []) ⟨hx, hb, hml, hown, hts⟩ (c_X8_isIn l hlt D dT v1 (0 : Int32) (6 : Int32) o2 e2 _) ⟨va_cnB 3 hts (TB_in (WSm_in w_332)) rfl rfl rfl (hE.1 (RX7, 71, yX8_isIn, RX8) (List.mem_of_getElem? (i := 14) rfl)) (hqs _ w_50) nd_X8_isIn ⟨Nat.le_of_ble_eq_true rfl, Nat.le_of_ble_eq_true rfl⟩, hqs _ w_331, trivial⟩ (cPre.S hPc hDc hK hE hS hFc) rfl rfl hl.1 rfl (lv_room (Nat.le_of_ble_eq_true rfl)) dX7_changeSize_10 ⟨Nat.zero_le _, Nat.zero_le _⟩) hP hD hS hFc [] [0, 1, 2, 3, 4, 5, 6, 7, 8, 9] rfl rfl (by decide) (by decide) (fun r2 u2 H locs hw hP hD hS => ?_)
  obtain ⟨rfl, rfl⟩ := hw
  have hP : va_P D vwCl (cW dT a_this g_this) H := hP
  have hD : va_D A (cW dT a_this g_this) := hD
  refine lv_if_eq (tgt := 23) hx hb dX7_changeSize_13 (by decide) (fun c3 => ?_) (fun c3 => ?_)
  · replace h := iteT c3 h
    refine lv_iload_n hx hb dX7_changeSize_23 rfl (lv_at hl 0 rfl) ?_
    exact rt_i hx hb hr hlk hK hS (g_this : TW) (ret2 h) hP hD dX7_changeSize_24
  · replace h := iteF c3 h
    refine lv_aload_n hx hb dX7_changeSize_16 rfl (lv_at hl 1 rfl) ?_
    refine gf_X7_27 (v := .ref (a_this 3)) hx hb hqs hown hK hP 0 rfl rfl dX7_changeSize_17 ?_
    refine lv_iload_n hx hb dX7_changeSize_20 rfl (lv_at hl 2 rfl) ?_
    refine lv_iload_n hx hb dX7_changeSize_21 rfl (lv_at hl 3 rfl) ?_
    obtain ⟨g4, h⟩ := chk h
    refine va_iast hx hb hK hP hD hS 3 0 rfl rfl (inb_in g4) dX7_changeSize_22 (fun H locs hP hD hS => ?_)
    have hP : va_P D vwCl ([(a_this 0, .inr (6, [.int (W_tables g_this), .int (W_weeks g_this), .int (W_runs g_this), .int (W_surprises g_this), .ref (a_this 1), .ref (a_this 2), .ref (a_this 3), .ref (a_this 4), .ref (a_this 5), .ref (a_this 6), .ref (a_this 7), .ref (a_this 8), .ref (a_this 9)])), (a_this 1, .inl (dT 1, 4, .inr (.inl (W_sums g_this)))), (a_this 2, .inl (dT 0, 3, .inl (W_settings g_this))), (a_this 3, .inl (dT 0, 7, .inl (upd (W_sizes g_this) v1.toNatClampNeg v2))), (a_this 4, .inl (dT 0, 21, .inl (W_guesses g_this))), (a_this 5, .inl (dT 0, 21, .inl (W_shares g_this))), (a_this 6, .inl (dT 0, 21, .inl (W_memories g_this))), (a_this 7, .inl (dT 0, 21, .inl (W_ages g_this))), (a_this 8, .inl (dT 0, 21, .inl (W_surprisesOf g_this))), (a_this 9, .inl (dT 0, 40, .inl (W_told g_this)))]) H := hP
    have hD : va_D A ([(a_this 0, .inr (6, [.int (W_tables g_this), .int (W_weeks g_this), .int (W_runs g_this), .int (W_surprises g_this), .ref (a_this 1), .ref (a_this 2), .ref (a_this 3), .ref (a_this 4), .ref (a_this 5), .ref (a_this 6), .ref (a_this 7), .ref (a_this 8), .ref (a_this 9)])), (a_this 1, .inl (dT 1, 4, .inr (.inl (W_sums g_this)))), (a_this 2, .inl (dT 0, 3, .inl (W_settings g_this))), (a_this 3, .inl (dT 0, 7, .inl (upd (W_sizes g_this) v1.toNatClampNeg v2))), (a_this 4, .inl (dT 0, 21, .inl (W_guesses g_this))), (a_this 5, .inl (dT 0, 21, .inl (W_shares g_this))), (a_this 6, .inl (dT 0, 21, .inl (W_memories g_this))), (a_this 7, .inl (dT 0, 21, .inl (W_ages g_this))), (a_this 8, .inl (dT 0, 21, .inl (W_surprisesOf g_this))), (a_this 9, .inl (dT 0, 40, .inl (W_told g_this)))]) := hD
    refine lv_iload_n hx hb dX7_changeSize_23 rfl (lv_at hl 0 rfl) ?_
    exact rt_i hx hb hr hlk hK hS ((W_mk (W_tables g_this) (W_weeks g_this) (W_runs g_this) (W_surprises g_this) (W_sums g_this) (W_settings g_this) (upd (W_sizes g_this) v1.toNatClampNeg v2) (W_guesses g_this) (W_shares g_this) (W_memories g_this) (W_ages g_this) (W_surprisesOf g_this) (W_told g_this)) : TW) (ret2 h) hP hD dX7_changeSize_24

def f_X7_forget (g_this : TW) (v1 : Int32) : Option (Unit × (TW)) :=
  ((f_X8_isIn v1 (0 : Int32) (20 : Int32)).bind fun o1 => (if o1.1 = (0 : Int32) then (some ((), g_this)) else (if inb v1 21 = true then (if inb v1 21 = true then (some ((), (W_mk (W_tables g_this) (W_weeks g_this) (W_runs g_this) (W_surprises g_this) (W_sums g_this) (W_settings g_this) (W_sizes g_this) (W_guesses g_this) (W_shares g_this) (upd (W_memories g_this) v1.toNatClampNeg (0 : Int32)) (upd (W_ages g_this) v1.toNatClampNeg (0 : Int32)) (W_surprisesOf g_this) (W_told g_this)))) else none) else none)))
set_option maxHeartbeats 8000000 in
set_option maxRecDepth 100000 in
theorem c_X7_forget (l : Launch) (hlt : l.stackTraces = false) (D : va_G) (dT : Nat → ClassId) (a_this : Nat → Nat) (g_this : TW) (v1 : Int32) (o : (Unit × (TW))) (h : f_X7_forget g_this v1 = some o) (sz : Nat) : Met l yX7_forget (WSm yX7_forget cX7_forget 2 none) { frames := 1, cells := 0, slots := 0, locals := 22 } (va_Pc [.ref (a_this 0), .int v1] (cPre D dT (cW dT a_this g_this) sz)) (va_Qv (fun (u : TW) => u = o.2) (fun u t => cAt D dT (va_A (cW dT a_this g_this) sz) (cW dT a_this u) t) (va_A (cW dT a_this g_this) sz)) 0 0 (va_A (cW dT a_this g_this) sz) := by
  refine mStart (WS := (cW dT a_this g_this)) (Qc := fun A => va_Qv (fun (u : TW) => u = o.2) (fun u t => cAt D dT A (cW dT a_this u) t) A) RX7 rfl (by decide) (Nat.le_of_ble_eq_true rfl) ?_ sz
  intro p e s m below meth c A ls hx hb hml hr hlk hnm hts hqs hown hE hA hK hP hD hS hl
  have hl : lv_has ls 2 [(0, .ref (a_this 0)), (1, .int v1)] := hl
  unfold f_X7_forget at h
  refine lv_iload_n hx hb dX7_forget_0 rfl (lv_at hl 1 rfl) ?_
  refine lv_iconst (v := 0) hx hb dX7_forget_1 (by decide) ?_
  refine lv_bipush (v := 20) hx hb dX7_forget_2 (by decide) ?_
  obtain ⟨o1, e1, h⟩ := obind h
  have hPc := hP.sub (ws' := ([] : va_W)) [] rfl
  have hDc := hD.sub (ws' := ([] : va_W)) [] (by decide) rfl
  have hFc := va_free (wc := ([] : va_W)) hD hS hA [] rfl
  refine cl_i (wr := (cW dT a_this g_this)) (va_runSN (As := [.int v1, .int (0 : Int32), .int (20 : Int32)]) (rest := []) ⟨hx, hb, hml, hown, hts⟩ (c_X8_isIn l hlt D dT v1 (0 : Int32) (20 : Int32) o1 e1 _) ⟨va_cnB 3 hts (TB_in (WSm_in w_332)) rfl rfl rfl (hE.1 (RX7, 71, yX8_isIn, RX8) (List.mem_of_getElem? (i := 14) rfl)) (hqs _ w_50) nd_X8_isIn ⟨Nat.le_of_ble_eq_true rfl, Nat.le_of_ble_eq_true rfl⟩, hqs _ w_331, trivial⟩ (cPre.S hPc hDc hK hE hS hFc) rfl rfl hl.1 rfl (lv_room (Nat.le_of_ble_eq_true rfl)) dX7_forget_4 ⟨Nat.zero_le _, Nat.zero_le _⟩) hP hD hS hFc [] [0, 1, 2, 3, 4, 5, 6, 7, 8, 9] rfl rfl (by decide) (by decide) (fun r1 u1 H locs hw hP hD hS => ?_)
  obtain ⟨rfl, rfl⟩ := hw
  have hP : va_P D vwCl (cW dT a_this g_this) H := hP
  have hD : va_D A (cW dT a_this g_this) := hD
  refine lv_if_eq (tgt := 24) hx hb dX7_forget_7 (by decide) (fun c2 => ?_) (fun c2 => ?_)
  · replace h := iteT c2 h
    exact rt_v hx hb hr hlk hK hS (g_this : TW) (retv h) hP hD dX7_forget_24
  · replace h := iteF c2 h
    refine lv_aload_n hx hb dX7_forget_10 rfl (lv_at hl 0 rfl) ?_
    refine gf_X7_36 (v := .ref (a_this 6)) hx hb hqs hown hK hP 0 rfl rfl dX7_forget_11 ?_
    refine lv_iload_n hx hb dX7_forget_14 rfl (lv_at hl 1 rfl) ?_
    refine lv_iconst (v := 0) hx hb dX7_forget_15 (by decide) ?_
    obtain ⟨g3, h⟩ := chk h
    refine va_iast hx hb hK hP hD hS 6 0 rfl rfl (inb_in g3) dX7_forget_16 (fun H locs hP hD hS => ?_)
    have hP : va_P D vwCl ([(a_this 0, .inr (6, [.int (W_tables g_this), .int (W_weeks g_this), .int (W_runs g_this), .int (W_surprises g_this), .ref (a_this 1), .ref (a_this 2), .ref (a_this 3), .ref (a_this 4), .ref (a_this 5), .ref (a_this 6), .ref (a_this 7), .ref (a_this 8), .ref (a_this 9)])), (a_this 1, .inl (dT 1, 4, .inr (.inl (W_sums g_this)))), (a_this 2, .inl (dT 0, 3, .inl (W_settings g_this))), (a_this 3, .inl (dT 0, 7, .inl (W_sizes g_this))), (a_this 4, .inl (dT 0, 21, .inl (W_guesses g_this))), (a_this 5, .inl (dT 0, 21, .inl (W_shares g_this))), (a_this 6, .inl (dT 0, 21, .inl (upd (W_memories g_this) v1.toNatClampNeg (0 : Int32)))), (a_this 7, .inl (dT 0, 21, .inl (W_ages g_this))), (a_this 8, .inl (dT 0, 21, .inl (W_surprisesOf g_this))), (a_this 9, .inl (dT 0, 40, .inl (W_told g_this)))]) H := hP
    have hD : va_D A ([(a_this 0, .inr (6, [.int (W_tables g_this), .int (W_weeks g_this), .int (W_runs g_this), .int (W_surprises g_this), .ref (a_this 1), .ref (a_this 2), .ref (a_this 3), .ref (a_this 4), .ref (a_this 5), .ref (a_this 6), .ref (a_this 7), .ref (a_this 8), .ref (a_this 9)])), (a_this 1, .inl (dT 1, 4, .inr (.inl (W_sums g_this)))), (a_this 2, .inl (dT 0, 3, .inl (W_settings g_this))), (a_this 3, .inl (dT 0, 7, .inl (W_sizes g_this))), (a_this 4, .inl (dT 0, 21, .inl (W_guesses g_this))), (a_this 5, .inl (dT 0, 21, .inl (W_shares g_this))), (a_this 6, .inl (dT 0, 21, .inl (upd (W_memories g_this) v1.toNatClampNeg (0 : Int32)))), (a_this 7, .inl (dT 0, 21, .inl (W_ages g_this))), (a_this 8, .inl (dT 0, 21, .inl (W_surprisesOf g_this))), (a_this 9, .inl (dT 0, 40, .inl (W_told g_this)))]) := hD
    refine lv_aload_n hx hb dX7_forget_17 rfl (lv_at hl 0 rfl) ?_
    refine gf_X7_39 (v := .ref (a_this 7)) hx hb hqs hown hK hP 0 rfl rfl dX7_forget_18 ?_
    refine lv_iload_n hx hb dX7_forget_21 rfl (lv_at hl 1 rfl) ?_
    refine lv_iconst (v := 0) hx hb dX7_forget_22 (by decide) ?_
    obtain ⟨g4, h⟩ := chk h
    refine va_iast hx hb hK hP hD hS 7 0 rfl rfl (inb_in g4) dX7_forget_23 (fun H locs hP hD hS => ?_)
    have hP : va_P D vwCl ([(a_this 0, .inr (6, [.int (W_tables g_this), .int (W_weeks g_this), .int (W_runs g_this), .int (W_surprises g_this), .ref (a_this 1), .ref (a_this 2), .ref (a_this 3), .ref (a_this 4), .ref (a_this 5), .ref (a_this 6), .ref (a_this 7), .ref (a_this 8), .ref (a_this 9)])), (a_this 1, .inl (dT 1, 4, .inr (.inl (W_sums g_this)))), (a_this 2, .inl (dT 0, 3, .inl (W_settings g_this))), (a_this 3, .inl (dT 0, 7, .inl (W_sizes g_this))), (a_this 4, .inl (dT 0, 21, .inl (W_guesses g_this))), (a_this 5, .inl (dT 0, 21, .inl (W_shares g_this))), (a_this 6, .inl (dT 0, 21, .inl (upd (W_memories g_this) v1.toNatClampNeg (0 : Int32)))), (a_this 7, .inl (dT 0, 21, .inl (upd (W_ages g_this) v1.toNatClampNeg (0 : Int32)))), (a_this 8, .inl (dT 0, 21, .inl (W_surprisesOf g_this))), (a_this 9, .inl (dT 0, 40, .inl (W_told g_this)))]) H := hP
    have hD : va_D A ([(a_this 0, .inr (6, [.int (W_tables g_this), .int (W_weeks g_this), .int (W_runs g_this), .int (W_surprises g_this), .ref (a_this 1), .ref (a_this 2), .ref (a_this 3), .ref (a_this 4), .ref (a_this 5), .ref (a_this 6), .ref (a_this 7), .ref (a_this 8), .ref (a_this 9)])), (a_this 1, .inl (dT 1, 4, .inr (.inl (W_sums g_this)))), (a_this 2, .inl (dT 0, 3, .inl (W_settings g_this))), (a_this 3, .inl (dT 0, 7, .inl (W_sizes g_this))), (a_this 4, .inl (dT 0, 21, .inl (W_guesses g_this))), (a_this 5, .inl (dT 0, 21, .inl (W_shares g_this))), (a_this 6, .inl (dT 0, 21, .inl (upd (W_memories g_this) v1.toNatClampNeg (0 : Int32)))), (a_this 7, .inl (dT 0, 21, .inl (upd (W_ages g_this) v1.toNatClampNeg (0 : Int32)))), (a_this 8, .inl (dT 0, 21, .inl (W_surprisesOf g_this))), (a_this 9, .inl (dT 0, 40, .inl (W_told g_this)))]) := hD
    exact rt_v hx hb hr hlk hK hS ((W_mk (W_tables g_this) (W_weeks g_this) (W_runs g_this) (W_surprises g_this) (W_sums g_this) (W_settings g_this) (W_sizes g_this) (W_guesses g_this) (W_shares g_this) (upd (W_memories g_this) v1.toNatClampNeg (0 : Int32)) (upd (W_ages g_this) v1.toNatClampNeg (0 : Int32)) (W_surprisesOf g_this) (W_told g_this)) : TW) (retv h) hP hD dX7_forget_24

def f_X7_linkPair_J29   (g_this : TW) : Option (Int32 × (TW)) :=
    ((f_X7_linkCount g_this).bind fun o3 => (some (o3.1, g_this)))
def f_X7_linkPair (g_this : TW) (v1 : Int32) (v2 : Int32) (v3 : Int32) : Option (Int32 × (TW)) :=
  ((f_X8_isIn v1 (0 : Int32) (20 : Int32)).bind fun o1 => (if o1.1 = (0 : Int32) then (f_X7_linkPair_J29 g_this) else (if inb v1 21 = true then (if inb v1 21 = true then ((f_X7_forget (W_mk (W_tables g_this) (W_weeks g_this) (W_runs g_this) (W_surprises g_this) (W_sums g_this) (W_settings g_this) (W_sizes g_this) (upd (W_guesses g_this) v1.toNatClampNeg v2) (upd (W_shares g_this) v1.toNatClampNeg v3) (W_memories g_this) (W_ages g_this) (W_surprisesOf g_this) (W_told g_this)) v1).bind fun o6 => (f_X7_linkPair_J29 o6.2)) else none) else none)))
set_option maxHeartbeats 8000000 in
set_option maxRecDepth 100000 in
theorem c_X7_linkPair (l : Launch) (hlt : l.stackTraces = false) (D : va_G) (dT : Nat → ClassId) (a_this : Nat → Nat) (g_this : TW) (v1 : Int32) (v2 : Int32) (v3 : Int32) (o : (Int32 × (TW))) (h : f_X7_linkPair g_this v1 v2 v3 = some o) (sz : Nat) : Met l yX7_linkPair (WSm yX7_linkPair cX7_linkPair 4 (some .int)) { frames := 2, cells := 0, slots := 0, locals := 43 } (va_Pc [.ref (a_this 0), .int v1, .int v2, .int v3] (cPre D dT (cW dT a_this g_this) sz)) (va_Qi (fun (r : Int32) (u : TW) => r = o.1 ∧ u = o.2) (fun u t => cAt D dT (va_A (cW dT a_this g_this) sz) (cW dT a_this u) t) (va_A (cW dT a_this g_this) sz)) 0 0 (va_A (cW dT a_this g_this) sz) := by
  refine mStart (WS := (cW dT a_this g_this)) (Qc := fun A => va_Qi (fun (r : Int32) (u : TW) => r = o.1 ∧ u = o.2) (fun u t => cAt D dT A (cW dT a_this u) t) A) RX7 rfl (by decide) (Nat.le_of_ble_eq_true rfl) ?_ sz
  intro p e s m below meth c A ls hx hb hml hr hlk hnm hts hqs hown hE hA hK hP hD hS hl
  have hl : lv_has ls 4 [(0, .ref (a_this 0)), (1, .int v1), (2, .int v2), (3, .int v3)] := hl
  have L_f_X7_linkPair_J29 : ∀  (g_this : TW)   (H : Heap) (locs : List Loc) (ls : Array Slot), f_X7_linkPair_J29   g_this = some o → va_P D vwCl (cW dT a_this g_this) H → va_D A (cW dT a_this g_this) → va_S A s.heap H locs → lv_has ls 4 [(0, .ref (a_this 0))] → W p l e (headSpec (WSm yX7_linkPair cX7_linkPair 4 (some .int)) { frames := 2, cells := 0, slots := 0, locals := 43 }).room s m [.ref (a_this 0), .int v1, .int v2, .int v3].toArray below meth c H locs 0 0 (MQ below (va_Qi (fun (r : Int32) (u : TW) => r = o.1 ∧ u = o.2) (fun u t => cAt D dT A (cW dT a_this u) t) A) [.ref (a_this 0), .int v1, .int v2, .int v3].toArray s 0 0 A) (F0 m 29 ls []) := by
    intro  g_this   H locs ls h hP hD hS hl
    unfold f_X7_linkPair_J29 at h
    refine lv_aload_n hx hb dX7_linkPair_29 rfl (lv_at hl 0 rfl) ?_
    obtain ⟨o3, e3, h⟩ := obind h
    have hPc := hP
    have hDc := hD
    have hFc := vfall hD hS hA
    refine cl_iA (va_runV (As := []) (rest := []) ⟨hx, hb, hml, hown, hts⟩ (c_X7_linkCount l hlt D dT a_this g_this o3 e3 _) (cwV 0 hts (TB_V w_574 w_576 w_9 w_55 w_577) rfl rfl rfl ⟨rfl, nd_X7_linkCount⟩ ⟨Nat.le_of_ble_eq_true rfl, Nat.le_of_ble_eq_true rfl⟩) (cPre.V hPc hDc hK hE hS hFc (va_recv hK hP (ci := 6) (q0 := 0) rfl rfl)) rfl rfl hl.1 rfl (lv_room (Nat.le_of_ble_eq_true rfl)) dX7_linkPair_30 ⟨Nat.zero_le _, Nat.zero_le _⟩) hS hFc (fun r3 u3 H locs hw hP hD hS => ?_)
    obtain ⟨rfl, rfl⟩ := hw
    have hP : va_P D vwCl (cW dT a_this g_this) H := hP
    have hD : va_D A (cW dT a_this g_this) := hD
    exact rt_i hx hb hr hlk hK hS (g_this : TW) (ret2 h) hP hD dX7_linkPair_33
  unfold f_X7_linkPair at h
  refine lv_iload_n hx hb dX7_linkPair_0 rfl (lv_at hl 1 rfl) ?_
  refine lv_iconst (v := 0) hx hb dX7_linkPair_1 (by decide) ?_
  refine lv_bipush (v := 20) hx hb dX7_linkPair_2 (by decide) ?_
  obtain ⟨o1, e1, h⟩ := obind h
  have hPc := hP.sub (ws' := ([] : va_W)) [] rfl
  have hDc := hD.sub (ws' := ([] : va_W)) [] (by decide) rfl
  have hFc := va_free (wc := ([] : va_W)) hD hS hA [] rfl
  refine cl_i (wr := (cW dT a_this g_this)) (va_runSN (As := [.int v1, .int (0 : Int32), .int (20 : Int32)]) (rest := []) ⟨hx, hb, hml, hown, hts⟩ (c_X8_isIn l hlt D dT v1 (0 : Int32) (20 : Int32) o1 e1 _) ⟨va_cnB 3 hts (TB_in (WSm_in w_332)) rfl rfl rfl (hE.1 (RX7, 71, yX8_isIn, RX8) (List.mem_of_getElem? (i := 14) rfl)) (hqs _ w_50) nd_X8_isIn ⟨Nat.le_of_ble_eq_true rfl, Nat.le_of_ble_eq_true rfl⟩, hqs _ w_331, trivial⟩ (cPre.S hPc hDc hK hE hS hFc) rfl rfl hl.1 rfl (lv_room (Nat.le_of_ble_eq_true rfl)) dX7_linkPair_4 ⟨Nat.zero_le _, Nat.zero_le _⟩) hP hD hS hFc [] [0, 1, 2, 3, 4, 5, 6, 7, 8, 9] rfl rfl (by decide) (by decide) (fun r1 u1 H locs hw hP hD hS => ?_)
  obtain ⟨rfl, rfl⟩ := hw
  have hP : va_P D vwCl (cW dT a_this g_this) H := hP
  have hD : va_D A (cW dT a_this g_this) := hD
  refine lv_if_eq (tgt := 29) hx hb dX7_linkPair_7 (by decide) (fun c2 => ?_) (fun c2 => ?_)
  · replace h := iteT c2 h
    refine L_f_X7_linkPair_J29  g_this   _ _ _ h hP hD hS (lv_sub hl [0] rfl)
  · replace h := iteF c2 h
    refine lv_aload_n hx hb dX7_linkPair_10 rfl (lv_at hl 0 rfl) ?_
    refine gf_X7_30 (v := .ref (a_this 4)) hx hb hqs hown hK hP 0 rfl rfl dX7_linkPair_11 ?_
    refine lv_iload_n hx hb dX7_linkPair_14 rfl (lv_at hl 1 rfl) ?_
    refine lv_iload_n hx hb dX7_linkPair_15 rfl (lv_at hl 2 rfl) ?_
    obtain ⟨g4, h⟩ := chk h
    refine va_iast hx hb hK hP hD hS 4 0 rfl rfl (inb_in g4) dX7_linkPair_16 (fun H locs hP hD hS => ?_)
    have hP : va_P D vwCl ([(a_this 0, .inr (6, [.int (W_tables g_this), .int (W_weeks g_this), .int (W_runs g_this), .int (W_surprises g_this), .ref (a_this 1), .ref (a_this 2), .ref (a_this 3), .ref (a_this 4), .ref (a_this 5), .ref (a_this 6), .ref (a_this 7), .ref (a_this 8), .ref (a_this 9)])), (a_this 1, .inl (dT 1, 4, .inr (.inl (W_sums g_this)))), (a_this 2, .inl (dT 0, 3, .inl (W_settings g_this))), (a_this 3, .inl (dT 0, 7, .inl (W_sizes g_this))), (a_this 4, .inl (dT 0, 21, .inl (upd (W_guesses g_this) v1.toNatClampNeg v2))), (a_this 5, .inl (dT 0, 21, .inl (W_shares g_this))), (a_this 6, .inl (dT 0, 21, .inl (W_memories g_this))), (a_this 7, .inl (dT 0, 21, .inl (W_ages g_this))), (a_this 8, .inl (dT 0, 21, .inl (W_surprisesOf g_this))), (a_this 9, .inl (dT 0, 40, .inl (W_told g_this)))]) H := hP
    have hD : va_D A ([(a_this 0, .inr (6, [.int (W_tables g_this), .int (W_weeks g_this), .int (W_runs g_this), .int (W_surprises g_this), .ref (a_this 1), .ref (a_this 2), .ref (a_this 3), .ref (a_this 4), .ref (a_this 5), .ref (a_this 6), .ref (a_this 7), .ref (a_this 8), .ref (a_this 9)])), (a_this 1, .inl (dT 1, 4, .inr (.inl (W_sums g_this)))), (a_this 2, .inl (dT 0, 3, .inl (W_settings g_this))), (a_this 3, .inl (dT 0, 7, .inl (W_sizes g_this))), (a_this 4, .inl (dT 0, 21, .inl (upd (W_guesses g_this) v1.toNatClampNeg v2))), (a_this 5, .inl (dT 0, 21, .inl (W_shares g_this))), (a_this 6, .inl (dT 0, 21, .inl (W_memories g_this))), (a_this 7, .inl (dT 0, 21, .inl (W_ages g_this))), (a_this 8, .inl (dT 0, 21, .inl (W_surprisesOf g_this))), (a_this 9, .inl (dT 0, 40, .inl (W_told g_this)))]) := hD
    refine lv_aload_n hx hb dX7_linkPair_17 rfl (lv_at hl 0 rfl) ?_
    refine gf_X7_33 (v := .ref (a_this 5)) hx hb hqs hown hK hP 0 rfl rfl dX7_linkPair_18 ?_
    refine lv_iload_n hx hb dX7_linkPair_21 rfl (lv_at hl 1 rfl) ?_
    refine lv_iload_n hx hb dX7_linkPair_22 rfl (lv_at hl 3 rfl) ?_
    obtain ⟨g5, h⟩ := chk h
    refine va_iast hx hb hK hP hD hS 5 0 rfl rfl (inb_in g5) dX7_linkPair_23 (fun H locs hP hD hS => ?_)
    have hP : va_P D vwCl ([(a_this 0, .inr (6, [.int (W_tables g_this), .int (W_weeks g_this), .int (W_runs g_this), .int (W_surprises g_this), .ref (a_this 1), .ref (a_this 2), .ref (a_this 3), .ref (a_this 4), .ref (a_this 5), .ref (a_this 6), .ref (a_this 7), .ref (a_this 8), .ref (a_this 9)])), (a_this 1, .inl (dT 1, 4, .inr (.inl (W_sums g_this)))), (a_this 2, .inl (dT 0, 3, .inl (W_settings g_this))), (a_this 3, .inl (dT 0, 7, .inl (W_sizes g_this))), (a_this 4, .inl (dT 0, 21, .inl (upd (W_guesses g_this) v1.toNatClampNeg v2))), (a_this 5, .inl (dT 0, 21, .inl (upd (W_shares g_this) v1.toNatClampNeg v3))), (a_this 6, .inl (dT 0, 21, .inl (W_memories g_this))), (a_this 7, .inl (dT 0, 21, .inl (W_ages g_this))), (a_this 8, .inl (dT 0, 21, .inl (W_surprisesOf g_this))), (a_this 9, .inl (dT 0, 40, .inl (W_told g_this)))]) H := hP
    have hD : va_D A ([(a_this 0, .inr (6, [.int (W_tables g_this), .int (W_weeks g_this), .int (W_runs g_this), .int (W_surprises g_this), .ref (a_this 1), .ref (a_this 2), .ref (a_this 3), .ref (a_this 4), .ref (a_this 5), .ref (a_this 6), .ref (a_this 7), .ref (a_this 8), .ref (a_this 9)])), (a_this 1, .inl (dT 1, 4, .inr (.inl (W_sums g_this)))), (a_this 2, .inl (dT 0, 3, .inl (W_settings g_this))), (a_this 3, .inl (dT 0, 7, .inl (W_sizes g_this))), (a_this 4, .inl (dT 0, 21, .inl (upd (W_guesses g_this) v1.toNatClampNeg v2))), (a_this 5, .inl (dT 0, 21, .inl (upd (W_shares g_this) v1.toNatClampNeg v3))), (a_this 6, .inl (dT 0, 21, .inl (W_memories g_this))), (a_this 7, .inl (dT 0, 21, .inl (W_ages g_this))), (a_this 8, .inl (dT 0, 21, .inl (W_surprisesOf g_this))), (a_this 9, .inl (dT 0, 40, .inl (W_told g_this)))]) := hD
    refine lv_aload_n hx hb dX7_linkPair_24 rfl (lv_at hl 0 rfl) ?_
    refine lv_iload_n hx hb dX7_linkPair_25 rfl (lv_at hl 1 rfl) ?_
    obtain ⟨o6, e6, h⟩ := obind h
    have hPc := hP
    have hDc := hD
    have hFc := vfall hD hS hA
    refine cl_vA (va_runV (As := [.int v1]) (rest := []) ⟨hx, hb, hml, hown, hts⟩ (c_X7_forget l hlt D dT a_this (W_mk (W_tables g_this) (W_weeks g_this) (W_runs g_this) (W_surprises g_this) (W_sums g_this) (W_settings g_this) (W_sizes g_this) (upd (W_guesses g_this) v1.toNatClampNeg v2) (upd (W_shares g_this) v1.toNatClampNeg v3) (W_memories g_this) (W_ages g_this) (W_surprisesOf g_this) (W_told g_this)) v1 o6 e6 _) (cwV 1 hts (TB_V w_570 w_571 w_572 w_55 w_573) rfl rfl rfl ⟨rfl, nd_X7_forget⟩ ⟨Nat.le_of_ble_eq_true rfl, Nat.le_of_ble_eq_true rfl⟩) (cPre.V hPc hDc hK hE hS hFc (va_recv hK hP (ci := 6) (q0 := 0) rfl rfl)) rfl rfl hl.1 rfl (lv_room (Nat.le_of_ble_eq_true rfl)) dX7_linkPair_26 ⟨Nat.zero_le _, Nat.zero_le _⟩) hS hFc (fun u6 H locs hw hP hD hS => ?_)
    subst hw
    have hP : va_P D vwCl (cW dT a_this o6.2) H := hP
    have hD : va_D A (cW dT a_this o6.2) := hD
    refine L_f_X7_linkPair_J29  o6.2   _ _ _ h hP hD hS (lv_sub hl [0] rfl)

def f_X7_changeShare (g_this : TW) (v1 : Int32) (v2 : Int32) : Option (Int32 × (TW)) :=
  ((f_X7_shareOf g_this v1 (2 : Int32)).bind fun o1 => ((f_X8_isIn v1 (0 : Int32) (20 : Int32)).bind fun o2 => (if o2.1 = (0 : Int32) then (some (o1.1, g_this)) else (if inb v1 21 = true then (some (o1.1, (W_mk (W_tables g_this) (W_weeks g_this) (W_runs g_this) (W_surprises g_this) (W_sums g_this) (W_settings g_this) (W_sizes g_this) (W_guesses g_this) (upd (W_shares g_this) v1.toNatClampNeg v2) (W_memories g_this) (W_ages g_this) (W_surprisesOf g_this) (W_told g_this)))) else none))))
set_option maxHeartbeats 8000000 in
set_option maxRecDepth 100000 in
theorem c_X7_changeShare (l : Launch) (hlt : l.stackTraces = false) (D : va_G) (dT : Nat → ClassId) (a_this : Nat → Nat) (g_this : TW) (v1 : Int32) (v2 : Int32) (o : (Int32 × (TW))) (h : f_X7_changeShare g_this v1 v2 = some o) (sz : Nat) : Met l yX7_changeShare (WSm yX7_changeShare cX7_changeShare 4 (some .int)) { frames := 2, cells := 0, slots := 0, locals := 44 } (va_Pc [.ref (a_this 0), .int v1, .int v2] (cPre D dT (cW dT a_this g_this) sz)) (va_Qi (fun (r : Int32) (u : TW) => r = o.1 ∧ u = o.2) (fun u t => cAt D dT (va_A (cW dT a_this g_this) sz) (cW dT a_this u) t) (va_A (cW dT a_this g_this) sz)) 0 0 (va_A (cW dT a_this g_this) sz) := by
  refine mStart (WS := (cW dT a_this g_this)) (Qc := fun A => va_Qi (fun (r : Int32) (u : TW) => r = o.1 ∧ u = o.2) (fun u t => cAt D dT A (cW dT a_this u) t) A) RX7 rfl (by decide) (Nat.le_of_ble_eq_true rfl) ?_ sz
  intro p e s m below meth c A ls hx hb hml hr hlk hnm hts hqs hown hE hA hK hP hD hS hl
  have hl : lv_has ls 4 [(0, .ref (a_this 0)), (1, .int v1), (2, .int v2)] := hl
  unfold f_X7_changeShare at h
  refine lv_aload_n hx hb dX7_changeShare_0 rfl (lv_at hl 0 rfl) ?_
  refine lv_iload_n hx hb dX7_changeShare_1 rfl (lv_at hl 1 rfl) ?_
  refine lv_iconst (v := 2) hx hb dX7_changeShare_2 (by decide) ?_
  obtain ⟨o1, e1, h⟩ := obind h
  have hPc := hP
  have hDc := hD
  have hFc := vfall hD hS hA
  refine cl_iA (va_runV (As := [.int v1, .int (2 : Int32)]) (rest := []) ⟨hx, hb, hml, hown, hts⟩ (c_X7_shareOf l hlt D dT a_this g_this v1 (2 : Int32) o1 e1 _) (cwV 2 hts (TB_V w_400 w_401 w_402 w_55 w_403) rfl rfl rfl ⟨rfl, nd_X7_shareOf⟩ ⟨Nat.le_of_ble_eq_true rfl, Nat.le_of_ble_eq_true rfl⟩) (cPre.V hPc hDc hK hE hS hFc (va_recv hK hP (ci := 6) (q0 := 0) rfl rfl)) rfl rfl hl.1 rfl (lv_room (Nat.le_of_ble_eq_true rfl)) dX7_changeShare_3 ⟨Nat.zero_le _, Nat.zero_le _⟩) hS hFc (fun r1 u1 H locs hw hP hD hS => ?_)
  obtain ⟨rfl, rfl⟩ := hw
  have hP : va_P D vwCl (cW dT a_this g_this) H := hP
  have hD : va_D A (cW dT a_this g_this) := hD
  refine lv_istore_n (lv' := [(3, .int o1.1), (0, .ref (a_this 0)), (1, .int v1), (2, .int v2)]) hx hb dX7_changeShare_6 rfl hl (by decide) rfl (fun ls hl => ?_)
  refine lv_iload_n hx hb dX7_changeShare_7 rfl (lv_at hl 2 rfl) ?_
  refine lv_iconst (v := 0) hx hb dX7_changeShare_8 (by decide) ?_
  refine lv_bipush (v := 20) hx hb dX7_changeShare_9 (by decide) ?_
  obtain ⟨o2, e2, h⟩ := obind h
  have hPc := hP.sub (ws' := ([] : va_W)) [] rfl
  have hDc := hD.sub (ws' := ([] : va_W)) [] (by decide) rfl
  have hFc := va_free (wc := ([] : va_W)) hD hS hA [] rfl
  refine cl_i (wr := (cW dT a_this g_this)) (va_runSN (As := [.int v1, .int (0 : Int32), .int (20 : Int32)]) (rest := []) ⟨hx, hb, hml, hown, hts⟩ (c_X8_isIn l hlt D dT v1 (0 : Int32) (20 : Int32) o2 e2 _) ⟨va_cnB 3 hts (TB_in (WSm_in w_332)) rfl rfl rfl (hE.1 (RX7, 71, yX8_isIn, RX8) (List.mem_of_getElem? (i := 14) rfl)) (hqs _ w_50) nd_X8_isIn ⟨Nat.le_of_ble_eq_true rfl, Nat.le_of_ble_eq_true rfl⟩, hqs _ w_331, trivial⟩ (cPre.S hPc hDc hK hE hS hFc) rfl rfl hl.1 rfl (lv_room (Nat.le_of_ble_eq_true rfl)) dX7_changeShare_11 ⟨Nat.zero_le _, Nat.zero_le _⟩) hP hD hS hFc [] [0, 1, 2, 3, 4, 5, 6, 7, 8, 9] rfl rfl (by decide) (by decide) (fun r2 u2 H locs hw hP hD hS => ?_)
  obtain ⟨rfl, rfl⟩ := hw
  have hP : va_P D vwCl (cW dT a_this g_this) H := hP
  have hD : va_D A (cW dT a_this g_this) := hD
  refine lv_if_eq (tgt := 24) hx hb dX7_changeShare_14 (by decide) (fun c3 => ?_) (fun c3 => ?_)
  · replace h := iteT c3 h
    refine lv_iload_n hx hb dX7_changeShare_24 rfl (lv_at hl 0 rfl) ?_
    exact rt_i hx hb hr hlk hK hS (g_this : TW) (ret2 h) hP hD dX7_changeShare_25
  · replace h := iteF c3 h
    refine lv_aload_n hx hb dX7_changeShare_17 rfl (lv_at hl 1 rfl) ?_
    refine gf_X7_33 (v := .ref (a_this 5)) hx hb hqs hown hK hP 0 rfl rfl dX7_changeShare_18 ?_
    refine lv_iload_n hx hb dX7_changeShare_21 rfl (lv_at hl 2 rfl) ?_
    refine lv_iload_n hx hb dX7_changeShare_22 rfl (lv_at hl 3 rfl) ?_
    obtain ⟨g4, h⟩ := chk h
    refine va_iast hx hb hK hP hD hS 5 0 rfl rfl (inb_in g4) dX7_changeShare_23 (fun H locs hP hD hS => ?_)
    have hP : va_P D vwCl ([(a_this 0, .inr (6, [.int (W_tables g_this), .int (W_weeks g_this), .int (W_runs g_this), .int (W_surprises g_this), .ref (a_this 1), .ref (a_this 2), .ref (a_this 3), .ref (a_this 4), .ref (a_this 5), .ref (a_this 6), .ref (a_this 7), .ref (a_this 8), .ref (a_this 9)])), (a_this 1, .inl (dT 1, 4, .inr (.inl (W_sums g_this)))), (a_this 2, .inl (dT 0, 3, .inl (W_settings g_this))), (a_this 3, .inl (dT 0, 7, .inl (W_sizes g_this))), (a_this 4, .inl (dT 0, 21, .inl (W_guesses g_this))), (a_this 5, .inl (dT 0, 21, .inl (upd (W_shares g_this) v1.toNatClampNeg v2))), (a_this 6, .inl (dT 0, 21, .inl (W_memories g_this))), (a_this 7, .inl (dT 0, 21, .inl (W_ages g_this))), (a_this 8, .inl (dT 0, 21, .inl (W_surprisesOf g_this))), (a_this 9, .inl (dT 0, 40, .inl (W_told g_this)))]) H := hP
    have hD : va_D A ([(a_this 0, .inr (6, [.int (W_tables g_this), .int (W_weeks g_this), .int (W_runs g_this), .int (W_surprises g_this), .ref (a_this 1), .ref (a_this 2), .ref (a_this 3), .ref (a_this 4), .ref (a_this 5), .ref (a_this 6), .ref (a_this 7), .ref (a_this 8), .ref (a_this 9)])), (a_this 1, .inl (dT 1, 4, .inr (.inl (W_sums g_this)))), (a_this 2, .inl (dT 0, 3, .inl (W_settings g_this))), (a_this 3, .inl (dT 0, 7, .inl (W_sizes g_this))), (a_this 4, .inl (dT 0, 21, .inl (W_guesses g_this))), (a_this 5, .inl (dT 0, 21, .inl (upd (W_shares g_this) v1.toNatClampNeg v2))), (a_this 6, .inl (dT 0, 21, .inl (W_memories g_this))), (a_this 7, .inl (dT 0, 21, .inl (W_ages g_this))), (a_this 8, .inl (dT 0, 21, .inl (W_surprisesOf g_this))), (a_this 9, .inl (dT 0, 40, .inl (W_told g_this)))]) := hD
    refine lv_iload_n hx hb dX7_changeShare_24 rfl (lv_at hl 0 rfl) ?_
    exact rt_i hx hb hr hlk hK hS ((W_mk (W_tables g_this) (W_weeks g_this) (W_runs g_this) (W_surprises g_this) (W_sums g_this) (W_settings g_this) (W_sizes g_this) (W_guesses g_this) (upd (W_shares g_this) v1.toNatClampNeg v2) (W_memories g_this) (W_ages g_this) (W_surprisesOf g_this) (W_told g_this)) : TW) (ret2 h) hP hD dX7_changeShare_25

def f_X7_changeSetting (g_this : TW) (v1 : Int32) (v2 : Int32) : Option (Int32 × (TW)) :=
  ((f_X7_settingOf g_this v1).bind fun o1 => ((f_X8_isIn v1 (0 : Int32) (2 : Int32)).bind fun o2 => (if o2.1 = (0 : Int32) then (some (o1.1, g_this)) else (if inb v1 3 = true then (some (o1.1, (W_mk (W_tables g_this) (W_weeks g_this) (W_runs g_this) (W_surprises g_this) (W_sums g_this) (upd (W_settings g_this) v1.toNatClampNeg v2) (W_sizes g_this) (W_guesses g_this) (W_shares g_this) (W_memories g_this) (W_ages g_this) (W_surprisesOf g_this) (W_told g_this)))) else none))))
set_option maxHeartbeats 8000000 in
set_option maxRecDepth 100000 in
theorem c_X7_changeSetting (l : Launch) (hlt : l.stackTraces = false) (D : va_G) (dT : Nat → ClassId) (a_this : Nat → Nat) (g_this : TW) (v1 : Int32) (v2 : Int32) (o : (Int32 × (TW))) (h : f_X7_changeSetting g_this v1 v2 = some o) (sz : Nat) : Met l yX7_changeSetting (WSm yX7_changeSetting cX7_changeSetting 4 (some .int)) { frames := 2, cells := 0, slots := 0, locals := 43 } (va_Pc [.ref (a_this 0), .int v1, .int v2] (cPre D dT (cW dT a_this g_this) sz)) (va_Qi (fun (r : Int32) (u : TW) => r = o.1 ∧ u = o.2) (fun u t => cAt D dT (va_A (cW dT a_this g_this) sz) (cW dT a_this u) t) (va_A (cW dT a_this g_this) sz)) 0 0 (va_A (cW dT a_this g_this) sz) := by
  refine mStart (WS := (cW dT a_this g_this)) (Qc := fun A => va_Qi (fun (r : Int32) (u : TW) => r = o.1 ∧ u = o.2) (fun u t => cAt D dT A (cW dT a_this u) t) A) RX7 rfl (by decide) (Nat.le_of_ble_eq_true rfl) ?_ sz
  intro p e s m below meth c A ls hx hb hml hr hlk hnm hts hqs hown hE hA hK hP hD hS hl
  have hl : lv_has ls 4 [(0, .ref (a_this 0)), (1, .int v1), (2, .int v2)] := hl
  unfold f_X7_changeSetting at h
  refine lv_aload_n hx hb dX7_changeSetting_0 rfl (lv_at hl 0 rfl) ?_
  refine lv_iload_n hx hb dX7_changeSetting_1 rfl (lv_at hl 1 rfl) ?_
  obtain ⟨o1, e1, h⟩ := obind h
  have hPc := hP
  have hDc := hD
  have hFc := vfall hD hS hA
  refine cl_iA (va_runV (As := [.int v1]) (rest := []) ⟨hx, hb, hml, hown, hts⟩ (c_X7_settingOf l hlt D dT a_this g_this v1 o1 e1 _) (cwV 1 hts (TB_V w_877 w_677 w_678 w_55 w_679) rfl rfl rfl ⟨rfl, nd_X7_settingOf⟩ ⟨Nat.le_of_ble_eq_true rfl, Nat.le_of_ble_eq_true rfl⟩) (cPre.V hPc hDc hK hE hS hFc (va_recv hK hP (ci := 6) (q0 := 0) rfl rfl)) rfl rfl hl.1 rfl (lv_room (Nat.le_of_ble_eq_true rfl)) dX7_changeSetting_2 ⟨Nat.zero_le _, Nat.zero_le _⟩) hS hFc (fun r1 u1 H locs hw hP hD hS => ?_)
  obtain ⟨rfl, rfl⟩ := hw
  have hP : va_P D vwCl (cW dT a_this g_this) H := hP
  have hD : va_D A (cW dT a_this g_this) := hD
  refine lv_istore_n (lv' := [(3, .int o1.1), (0, .ref (a_this 0)), (1, .int v1), (2, .int v2)]) hx hb dX7_changeSetting_5 rfl hl (by decide) rfl (fun ls hl => ?_)
  refine lv_iload_n hx hb dX7_changeSetting_6 rfl (lv_at hl 2 rfl) ?_
  refine lv_iconst (v := 0) hx hb dX7_changeSetting_7 (by decide) ?_
  refine lv_iconst (v := 2) hx hb dX7_changeSetting_8 (by decide) ?_
  obtain ⟨o2, e2, h⟩ := obind h
  have hPc := hP.sub (ws' := ([] : va_W)) [] rfl
  have hDc := hD.sub (ws' := ([] : va_W)) [] (by decide) rfl
  have hFc := va_free (wc := ([] : va_W)) hD hS hA [] rfl
  refine cl_i (wr := (cW dT a_this g_this)) (va_runSN (As := [.int v1, .int (0 : Int32), .int (2 : Int32)]) (rest := []) ⟨hx, hb, hml, hown, hts⟩ (c_X8_isIn l hlt D dT v1 (0 : Int32) (2 : Int32) o2 e2 _) ⟨va_cnB 3 hts (TB_in (WSm_in w_332)) rfl rfl rfl (hE.1 (RX7, 71, yX8_isIn, RX8) (List.mem_of_getElem? (i := 14) rfl)) (hqs _ w_50) nd_X8_isIn ⟨Nat.le_of_ble_eq_true rfl, Nat.le_of_ble_eq_true rfl⟩, hqs _ w_331, trivial⟩ (cPre.S hPc hDc hK hE hS hFc) rfl rfl hl.1 rfl (lv_room (Nat.le_of_ble_eq_true rfl)) dX7_changeSetting_9 ⟨Nat.zero_le _, Nat.zero_le _⟩) hP hD hS hFc [] [0, 1, 2, 3, 4, 5, 6, 7, 8, 9] rfl rfl (by decide) (by decide) (fun r2 u2 H locs hw hP hD hS => ?_)
  obtain ⟨rfl, rfl⟩ := hw
  have hP : va_P D vwCl (cW dT a_this g_this) H := hP
  have hD : va_D A (cW dT a_this g_this) := hD
  refine lv_if_eq (tgt := 22) hx hb dX7_changeSetting_12 (by decide) (fun c3 => ?_) (fun c3 => ?_)
  · replace h := iteT c3 h
    refine lv_iload_n hx hb dX7_changeSetting_22 rfl (lv_at hl 0 rfl) ?_
    exact rt_i hx hb hr hlk hK hS (g_this : TW) (ret2 h) hP hD dX7_changeSetting_23
  · replace h := iteF c3 h
    refine lv_aload_n hx hb dX7_changeSetting_15 rfl (lv_at hl 1 rfl) ?_
    refine gf_X7_24 (v := .ref (a_this 2)) hx hb hqs hown hK hP 0 rfl rfl dX7_changeSetting_16 ?_
    refine lv_iload_n hx hb dX7_changeSetting_19 rfl (lv_at hl 2 rfl) ?_
    refine lv_iload_n hx hb dX7_changeSetting_20 rfl (lv_at hl 3 rfl) ?_
    obtain ⟨g4, h⟩ := chk h
    refine va_iast hx hb hK hP hD hS 2 0 rfl rfl (inb_in g4) dX7_changeSetting_21 (fun H locs hP hD hS => ?_)
    have hP : va_P D vwCl ([(a_this 0, .inr (6, [.int (W_tables g_this), .int (W_weeks g_this), .int (W_runs g_this), .int (W_surprises g_this), .ref (a_this 1), .ref (a_this 2), .ref (a_this 3), .ref (a_this 4), .ref (a_this 5), .ref (a_this 6), .ref (a_this 7), .ref (a_this 8), .ref (a_this 9)])), (a_this 1, .inl (dT 1, 4, .inr (.inl (W_sums g_this)))), (a_this 2, .inl (dT 0, 3, .inl (upd (W_settings g_this) v1.toNatClampNeg v2))), (a_this 3, .inl (dT 0, 7, .inl (W_sizes g_this))), (a_this 4, .inl (dT 0, 21, .inl (W_guesses g_this))), (a_this 5, .inl (dT 0, 21, .inl (W_shares g_this))), (a_this 6, .inl (dT 0, 21, .inl (W_memories g_this))), (a_this 7, .inl (dT 0, 21, .inl (W_ages g_this))), (a_this 8, .inl (dT 0, 21, .inl (W_surprisesOf g_this))), (a_this 9, .inl (dT 0, 40, .inl (W_told g_this)))]) H := hP
    have hD : va_D A ([(a_this 0, .inr (6, [.int (W_tables g_this), .int (W_weeks g_this), .int (W_runs g_this), .int (W_surprises g_this), .ref (a_this 1), .ref (a_this 2), .ref (a_this 3), .ref (a_this 4), .ref (a_this 5), .ref (a_this 6), .ref (a_this 7), .ref (a_this 8), .ref (a_this 9)])), (a_this 1, .inl (dT 1, 4, .inr (.inl (W_sums g_this)))), (a_this 2, .inl (dT 0, 3, .inl (upd (W_settings g_this) v1.toNatClampNeg v2))), (a_this 3, .inl (dT 0, 7, .inl (W_sizes g_this))), (a_this 4, .inl (dT 0, 21, .inl (W_guesses g_this))), (a_this 5, .inl (dT 0, 21, .inl (W_shares g_this))), (a_this 6, .inl (dT 0, 21, .inl (W_memories g_this))), (a_this 7, .inl (dT 0, 21, .inl (W_ages g_this))), (a_this 8, .inl (dT 0, 21, .inl (W_surprisesOf g_this))), (a_this 9, .inl (dT 0, 40, .inl (W_told g_this)))]) := hD
    refine lv_iload_n hx hb dX7_changeSetting_22 rfl (lv_at hl 0 rfl) ?_
    exact rt_i hx hb hr hlk hK hS ((W_mk (W_tables g_this) (W_weeks g_this) (W_runs g_this) (W_surprises g_this) (W_sums g_this) (upd (W_settings g_this) v1.toNatClampNeg v2) (W_sizes g_this) (W_guesses g_this) (W_shares g_this) (W_memories g_this) (W_ages g_this) (W_surprisesOf g_this) (W_told g_this)) : TW) (ret2 h) hP hD dX7_changeSetting_23

def f_X7_makeOlder (g_this : TW) (v1 : Int32) : Option (Unit × (TW)) :=
  ((f_X7_hasMemory g_this v1).bind fun o1 => (if o1.1 = (0 : Int32) then (some ((), g_this)) else (if inb v1 21 = true then (if inb v1 21 = true then (if inb v1 21 = true then (if inb (2 : Int32) 3 = true then (if ((upd (W_ages g_this) v1.toNatClampNeg (((W_ages g_this) v1.toNatClampNeg) + (1 : Int32))) v1.toNatClampNeg) ≤ ((W_settings g_this) (2 : Int32).toNatClampNeg) then (some ((), (W_mk (W_tables g_this) (W_weeks g_this) (W_runs g_this) (W_surprises g_this) (W_sums g_this) (W_settings g_this) (W_sizes g_this) (W_guesses g_this) (W_shares g_this) (W_memories g_this) (upd (W_ages g_this) v1.toNatClampNeg (((W_ages g_this) v1.toNatClampNeg) + (1 : Int32))) (W_surprisesOf g_this) (W_told g_this)))) else ((f_X7_forget (W_mk (W_tables g_this) (W_weeks g_this) (W_runs g_this) (W_surprises g_this) (W_sums g_this) (W_settings g_this) (W_sizes g_this) (W_guesses g_this) (W_shares g_this) (W_memories g_this) (upd (W_ages g_this) v1.toNatClampNeg (((W_ages g_this) v1.toNatClampNeg) + (1 : Int32))) (W_surprisesOf g_this) (W_told g_this)) v1).bind fun o8 => (some ((), o8.2)))) else none) else none) else none) else none)))
set_option maxHeartbeats 8000000 in
set_option maxRecDepth 100000 in
theorem c_X7_makeOlder (l : Launch) (hlt : l.stackTraces = false) (D : va_G) (dT : Nat → ClassId) (a_this : Nat → Nat) (g_this : TW) (v1 : Int32) (o : (Unit × (TW))) (h : f_X7_makeOlder g_this v1 = some o) (sz : Nat) : Met l yX7_makeOlder (WSm yX7_makeOlder cX7_makeOlder 2 none) { frames := 2, cells := 0, slots := 0, locals := 43 } (va_Pc [.ref (a_this 0), .int v1] (cPre D dT (cW dT a_this g_this) sz)) (va_Qv (fun (u : TW) => u = o.2) (fun u t => cAt D dT (va_A (cW dT a_this g_this) sz) (cW dT a_this u) t) (va_A (cW dT a_this g_this) sz)) 0 0 (va_A (cW dT a_this g_this) sz) := by
  refine mStart (WS := (cW dT a_this g_this)) (Qc := fun A => va_Qv (fun (u : TW) => u = o.2) (fun u t => cAt D dT A (cW dT a_this u) t) A) RX7 rfl (by decide) (Nat.le_of_ble_eq_true rfl) ?_ sz
  intro p e s m below meth c A ls hx hb hml hr hlk hnm hts hqs hown hE hA hK hP hD hS hl
  have hl : lv_has ls 2 [(0, .ref (a_this 0)), (1, .int v1)] := hl
  unfold f_X7_makeOlder at h
  refine lv_aload_n hx hb dX7_makeOlder_0 rfl (lv_at hl 0 rfl) ?_
  refine lv_iload_n hx hb dX7_makeOlder_1 rfl (lv_at hl 1 rfl) ?_
  obtain ⟨o1, e1, h⟩ := obind h
  have hPc := hP
  have hDc := hD
  have hFc := vfall hD hS hA
  refine cl_iA (va_runV (As := [.int v1]) (rest := []) ⟨hx, hb, hml, hown, hts⟩ (c_X7_hasMemory l hlt D dT a_this g_this v1 o1 e1 _) (cwV 1 hts (TB_V w_654 w_655 w_656 w_55 w_657) rfl rfl rfl ⟨rfl, nd_X7_hasMemory⟩ ⟨Nat.le_of_ble_eq_true rfl, Nat.le_of_ble_eq_true rfl⟩) (cPre.V hPc hDc hK hE hS hFc (va_recv hK hP (ci := 6) (q0 := 0) rfl rfl)) rfl rfl hl.1 rfl (lv_room (Nat.le_of_ble_eq_true rfl)) dX7_makeOlder_2 ⟨Nat.zero_le _, Nat.zero_le _⟩) hS hFc (fun r1 u1 H locs hw hP hD hS => ?_)
  obtain ⟨rfl, rfl⟩ := hw
  have hP : va_P D vwCl (cW dT a_this g_this) H := hP
  have hD : va_D A (cW dT a_this g_this) := hD
  refine lv_if_eq (tgt := 38) hx hb dX7_makeOlder_5 (by decide) (fun c2 => ?_) (fun c2 => ?_)
  · replace h := iteT c2 h
    exact rt_v hx hb hr hlk hK hS (g_this : TW) (retv h) hP hD dX7_makeOlder_38
  · replace h := iteF c2 h
    refine lv_aload_n hx hb dX7_makeOlder_8 rfl (lv_at hl 0 rfl) ?_
    refine gf_X7_39 (v := .ref (a_this 7)) hx hb hqs hown hK hP 0 rfl rfl dX7_makeOlder_9 ?_
    refine lv_iload_n hx hb dX7_makeOlder_12 rfl (lv_at hl 1 rfl) ?_
    refine lv_dup2_11 hx hb dX7_makeOlder_13 rfl rfl ?_
    obtain ⟨g3, h⟩ := chk h
    refine va_iald hx hb hK hP 7 0 rfl rfl (inb_in g3) dX7_makeOlder_14 ?_
    refine lv_iconst (v := 1) hx hb dX7_makeOlder_15 (by decide) ?_
    refine lv_iadd hx hb dX7_makeOlder_16 ?_
    obtain ⟨g4, h⟩ := chk h
    refine va_iast hx hb hK hP hD hS 7 0 rfl rfl (inb_in g4) dX7_makeOlder_17 (fun H locs hP hD hS => ?_)
    have hP : va_P D vwCl ([(a_this 0, .inr (6, [.int (W_tables g_this), .int (W_weeks g_this), .int (W_runs g_this), .int (W_surprises g_this), .ref (a_this 1), .ref (a_this 2), .ref (a_this 3), .ref (a_this 4), .ref (a_this 5), .ref (a_this 6), .ref (a_this 7), .ref (a_this 8), .ref (a_this 9)])), (a_this 1, .inl (dT 1, 4, .inr (.inl (W_sums g_this)))), (a_this 2, .inl (dT 0, 3, .inl (W_settings g_this))), (a_this 3, .inl (dT 0, 7, .inl (W_sizes g_this))), (a_this 4, .inl (dT 0, 21, .inl (W_guesses g_this))), (a_this 5, .inl (dT 0, 21, .inl (W_shares g_this))), (a_this 6, .inl (dT 0, 21, .inl (W_memories g_this))), (a_this 7, .inl (dT 0, 21, .inl (upd (W_ages g_this) v1.toNatClampNeg (((W_ages g_this) v1.toNatClampNeg) + (1 : Int32))))), (a_this 8, .inl (dT 0, 21, .inl (W_surprisesOf g_this))), (a_this 9, .inl (dT 0, 40, .inl (W_told g_this)))]) H := hP
    have hD : va_D A ([(a_this 0, .inr (6, [.int (W_tables g_this), .int (W_weeks g_this), .int (W_runs g_this), .int (W_surprises g_this), .ref (a_this 1), .ref (a_this 2), .ref (a_this 3), .ref (a_this 4), .ref (a_this 5), .ref (a_this 6), .ref (a_this 7), .ref (a_this 8), .ref (a_this 9)])), (a_this 1, .inl (dT 1, 4, .inr (.inl (W_sums g_this)))), (a_this 2, .inl (dT 0, 3, .inl (W_settings g_this))), (a_this 3, .inl (dT 0, 7, .inl (W_sizes g_this))), (a_this 4, .inl (dT 0, 21, .inl (W_guesses g_this))), (a_this 5, .inl (dT 0, 21, .inl (W_shares g_this))), (a_this 6, .inl (dT 0, 21, .inl (W_memories g_this))), (a_this 7, .inl (dT 0, 21, .inl (upd (W_ages g_this) v1.toNatClampNeg (((W_ages g_this) v1.toNatClampNeg) + (1 : Int32))))), (a_this 8, .inl (dT 0, 21, .inl (W_surprisesOf g_this))), (a_this 9, .inl (dT 0, 40, .inl (W_told g_this)))]) := hD
    refine lv_aload_n hx hb dX7_makeOlder_18 rfl (lv_at hl 0 rfl) ?_
    refine gf_X7_39 (v := .ref (a_this 7)) hx hb hqs hown hK hP 0 rfl rfl dX7_makeOlder_19 ?_
    refine lv_iload_n hx hb dX7_makeOlder_22 rfl (lv_at hl 1 rfl) ?_
    obtain ⟨g5, h⟩ := chk h
    refine va_iald hx hb hK hP 7 0 rfl rfl (inb_in g5) dX7_makeOlder_23 ?_
    refine lv_aload_n hx hb dX7_makeOlder_24 rfl (lv_at hl 0 rfl) ?_
    refine gf_X7_24 (v := .ref (a_this 2)) hx hb hqs hown hK hP 0 rfl rfl dX7_makeOlder_25 ?_
    refine lv_iconst (v := 2) hx hb dX7_makeOlder_28 (by decide) ?_
    obtain ⟨g6, h⟩ := chk h
    refine va_iald hx hb hK hP 2 0 rfl rfl (inb_in g6) dX7_makeOlder_29 ?_
    refine lv_icmp_le (tgt := 38) hx hb dX7_makeOlder_30 (by decide) (fun c7 => ?_) (fun c7 => ?_)
    · replace h := iteT c7 h
      exact rt_v hx hb hr hlk hK hS ((W_mk (W_tables g_this) (W_weeks g_this) (W_runs g_this) (W_surprises g_this) (W_sums g_this) (W_settings g_this) (W_sizes g_this) (W_guesses g_this) (W_shares g_this) (W_memories g_this) (upd (W_ages g_this) v1.toNatClampNeg (((W_ages g_this) v1.toNatClampNeg) + (1 : Int32))) (W_surprisesOf g_this) (W_told g_this)) : TW) (retv h) hP hD dX7_makeOlder_38
    · replace h := iteF c7 h
      refine lv_aload_n hx hb dX7_makeOlder_33 rfl (lv_at hl 0 rfl) ?_
      refine lv_iload_n hx hb dX7_makeOlder_34 rfl (lv_at hl 1 rfl) ?_
      obtain ⟨o8, e8, h⟩ := obind h
      have hPc := hP
      have hDc := hD
      have hFc := vfall hD hS hA
      refine cl_vA (va_runV (As := [.int v1]) (rest := []) ⟨hx, hb, hml, hown, hts⟩ (c_X7_forget l hlt D dT a_this (W_mk (W_tables g_this) (W_weeks g_this) (W_runs g_this) (W_surprises g_this) (W_sums g_this) (W_settings g_this) (W_sizes g_this) (W_guesses g_this) (W_shares g_this) (W_memories g_this) (upd (W_ages g_this) v1.toNatClampNeg (((W_ages g_this) v1.toNatClampNeg) + (1 : Int32))) (W_surprisesOf g_this) (W_told g_this)) v1 o8 e8 _) (cwV 1 hts (TB_V w_570 w_571 w_572 w_55 w_573) rfl rfl rfl ⟨rfl, nd_X7_forget⟩ ⟨Nat.le_of_ble_eq_true rfl, Nat.le_of_ble_eq_true rfl⟩) (cPre.V hPc hDc hK hE hS hFc (va_recv hK hP (ci := 6) (q0 := 0) rfl rfl)) rfl rfl hl.1 rfl (lv_room (Nat.le_of_ble_eq_true rfl)) dX7_makeOlder_35 ⟨Nat.zero_le _, Nat.zero_le _⟩) hS hFc (fun u8 H locs hw hP hD hS => ?_)
      subst hw
      have hP : va_P D vwCl (cW dT a_this o8.2) H := hP
      have hD : va_D A (cW dT a_this o8.2) := hD
      exact rt_v hx hb hr hlk hK hS (o8.2 : TW) (retv h) hP hD dX7_makeOlder_38

def f_X7_passWeeks_L19 (x1 : Int32) (x2 : Int32) (k36 : TW → Option (Int32 × (TW))) : Nat → Int32 → TW → Option (Int32 × (TW))
  | 0, _, _ => none
  | n + 1, x3, g_this =>
    (if (21 : Int32) ≤ x3 then (k36 g_this) else ((f_X7_makeOlder g_this x3).bind fun o3 => (f_X7_passWeeks_L19 x1 x2 k36 n (x3 + (1 : Int32)) o3.2)))
def f_X7_passWeeks_L12 (x1 : Int32) (k42 : TW → Option (Int32 × (TW))) : Nat → Int32 → TW → Option (Int32 × (TW))
  | 0, _, _ => none
  | n + 1, x2, g_this =>
    (if x1 ≤ x2 then (k42 g_this) else (f_X7_passWeeks_L19 x1 x2 (fun (y4g_this : TW) => (f_X7_passWeeks_L12 x1 k42 n (x2 + (1 : Int32)) y4g_this)) FUEL (0 : Int32) g_this))
def f_X7_passWeeks (g_this : TW) (v1 : Int32) : Option (Int32 × (TW)) :=
  (f_X7_passWeeks_L12 v1 (fun (y5g_this : TW) => ((f_X7_memoryCount y5g_this).bind fun o6 => (some (o6.1, y5g_this)))) FUEL (0 : Int32) (W_mk (W_tables g_this) ((W_weeks g_this) + v1) (W_runs g_this) (W_surprises g_this) (W_sums g_this) (W_settings g_this) (W_sizes g_this) (W_guesses g_this) (W_shares g_this) (W_memories g_this) (W_ages g_this) (W_surprisesOf g_this) (W_told g_this)))
set_option maxHeartbeats 8000000 in
set_option maxRecDepth 100000 in
theorem c_X7_passWeeks (l : Launch) (hlt : l.stackTraces = false) (D : va_G) (dT : Nat → ClassId) (a_this : Nat → Nat) (g_this : TW) (v1 : Int32) (o : (Int32 × (TW))) (h : f_X7_passWeeks g_this v1 = some o) (sz : Nat) : Met l yX7_passWeeks (WSm yX7_passWeeks cX7_passWeeks 4 (some .int)) { frames := 3, cells := 0, slots := 0, locals := 64 } (va_Pc [.ref (a_this 0), .int v1] (cPre D dT (cW dT a_this g_this) sz)) (va_Qi (fun (r : Int32) (u : TW) => r = o.1 ∧ u = o.2) (fun u t => cAt D dT (va_A (cW dT a_this g_this) sz) (cW dT a_this u) t) (va_A (cW dT a_this g_this) sz)) 0 0 (va_A (cW dT a_this g_this) sz) := by
  refine mStart (WS := (cW dT a_this g_this)) (Qc := fun A => va_Qi (fun (r : Int32) (u : TW) => r = o.1 ∧ u = o.2) (fun u t => cAt D dT A (cW dT a_this u) t) A) RX7 rfl (by decide) (Nat.le_of_ble_eq_true rfl) ?_ sz
  intro p e s m below meth c A ls hx hb hml hr hlk hnm hts hqs hown hE hA hK hP hD hS hl
  have hl : lv_has ls 4 [(0, .ref (a_this 0)), (1, .int v1)] := hl
  have L_f_X7_passWeeks_L19 : ∀ (x1 : Int32) (x2 : Int32) (k36 : TW → Option (Int32 × (TW))) (hk36 : ∀ (g_this : TW) (H : Heap) (locs : List Loc) (ls : Array Slot), k36 g_this = some o → va_P D vwCl (cW dT a_this g_this) H → va_D A (cW dT a_this g_this) → va_S A s.heap H locs → lv_has ls 4 [(0, .ref (a_this 0)), (1, .int x1), (2, .int x2)] → W p l e (headSpec (WSm yX7_passWeeks cX7_passWeeks 4 (some .int)) { frames := 3, cells := 0, slots := 0, locals := 64 }).room s m [.ref (a_this 0), .int v1].toArray below meth c H locs 0 0 (MQ below (va_Qi (fun (r : Int32) (u : TW) => r = o.1 ∧ u = o.2) (fun u t => cAt D dT A (cW dT a_this u) t) A) [.ref (a_this 0), .int v1].toArray s 0 0 A) (F0 m 36 ls [])) (n : Nat), ∀ (x3 : Int32) (g_this : TW) (H : Heap) (locs : List Loc) (ls : Array Slot), f_X7_passWeeks_L19 x1 x2 k36 n x3 g_this = some o → va_P D vwCl (cW dT a_this g_this) H → va_D A (cW dT a_this g_this) → va_S A s.heap H locs → lv_has ls 4 [(0, .ref (a_this 0)), (1, .int x1), (2, .int x2), (3, .int x3)] → W p l e (headSpec (WSm yX7_passWeeks cX7_passWeeks 4 (some .int)) { frames := 3, cells := 0, slots := 0, locals := 64 }).room s m [.ref (a_this 0), .int v1].toArray below meth c H locs 0 0 (MQ below (va_Qi (fun (r : Int32) (u : TW) => r = o.1 ∧ u = o.2) (fun u t => cAt D dT A (cW dT a_this u) t) A) [.ref (a_this 0), .int v1].toArray s 0 0 A) (F0 m 19 ls []) := by
    intro x1 x2 k36 hk36 n
    induction n with
    | zero => intro x3 g_this H locs ls h; exact nomatch h
    | succ n ih =>
      intro x3 g_this H locs ls h hP hD hS hl
      unfold f_X7_passWeeks_L19 at h
      refine lv_iload_n hx hb dX7_passWeeks_19 rfl (lv_at hl 3 rfl) ?_
      refine lv_bipush (v := 21) hx hb dX7_passWeeks_20 (by decide) ?_
      refine lv_icmp_ge (tgt := 36) hx hb dX7_passWeeks_22 (by decide) (fun c2 => ?_) (fun c2 => ?_)
      · replace h := iteT c2 h
        exact hk36 g_this _ _ _ h hP hD hS (lv_sub hl [0, 1, 2] rfl)
      · replace h := iteF c2 h
        refine lv_aload_n hx hb dX7_passWeeks_25 rfl (lv_at hl 0 rfl) ?_
        refine lv_iload_n hx hb dX7_passWeeks_26 rfl (lv_at hl 3 rfl) ?_
        obtain ⟨o3, e3, h⟩ := obind h
        have hPc := hP
        have hDc := hD
        have hFc := vfall hD hS hA
        refine cl_vA (va_runV (As := [.int x3]) (rest := []) ⟨hx, hb, hml, hown, hts⟩ (c_X7_makeOlder l hlt D dT a_this g_this x3 o3 e3 _) (cwV 1 hts (TB_V w_854 w_856 w_25 w_55 w_857) rfl rfl rfl ⟨rfl, nd_X7_makeOlder⟩ ⟨Nat.le_of_ble_eq_true rfl, Nat.le_of_ble_eq_true rfl⟩) (cPre.V hPc hDc hK hE hS hFc (va_recv hK hP (ci := 6) (q0 := 0) rfl rfl)) rfl rfl hl.1 rfl (lv_room (Nat.le_of_ble_eq_true rfl)) dX7_passWeeks_27 ⟨Nat.zero_le _, Nat.zero_le _⟩) hS hFc (fun u3 H locs hw hP hD hS => ?_)
        subst hw
        have hP : va_P D vwCl (cW dT a_this o3.2) H := hP
        have hD : va_D A (cW dT a_this o3.2) := hD
        refine lv_iinc (v := (x3 + (1 : Int32))) (lv' := [(3, .int (x3 + (1 : Int32))), (0, .ref (a_this 0)), (1, .int x1), (2, .int x2)]) hx hb dX7_passWeeks_30 hl (k := 3) rfl rfl (by decide) rfl (fun ls hl => ?_)
        refine lv_goto (tgt := 19) hx hb dX7_passWeeks_33 (by decide) ?_
        exact ih (x3 + (1 : Int32)) o3.2 _ _ _ h hP hD hS (lv_sub hl [1, 2, 3, 0] rfl)
  have L_f_X7_passWeeks_L12 : ∀ (x1 : Int32) (k42 : TW → Option (Int32 × (TW))) (hk42 : ∀ (g_this : TW) (H : Heap) (locs : List Loc) (ls : Array Slot), k42 g_this = some o → va_P D vwCl (cW dT a_this g_this) H → va_D A (cW dT a_this g_this) → va_S A s.heap H locs → lv_has ls 4 [(0, .ref (a_this 0))] → W p l e (headSpec (WSm yX7_passWeeks cX7_passWeeks 4 (some .int)) { frames := 3, cells := 0, slots := 0, locals := 64 }).room s m [.ref (a_this 0), .int v1].toArray below meth c H locs 0 0 (MQ below (va_Qi (fun (r : Int32) (u : TW) => r = o.1 ∧ u = o.2) (fun u t => cAt D dT A (cW dT a_this u) t) A) [.ref (a_this 0), .int v1].toArray s 0 0 A) (F0 m 42 ls [])) (n : Nat), ∀ (x2 : Int32) (g_this : TW) (H : Heap) (locs : List Loc) (ls : Array Slot), f_X7_passWeeks_L12 x1 k42 n x2 g_this = some o → va_P D vwCl (cW dT a_this g_this) H → va_D A (cW dT a_this g_this) → va_S A s.heap H locs → lv_has ls 4 [(0, .ref (a_this 0)), (1, .int x1), (2, .int x2)] → W p l e (headSpec (WSm yX7_passWeeks cX7_passWeeks 4 (some .int)) { frames := 3, cells := 0, slots := 0, locals := 64 }).room s m [.ref (a_this 0), .int v1].toArray below meth c H locs 0 0 (MQ below (va_Qi (fun (r : Int32) (u : TW) => r = o.1 ∧ u = o.2) (fun u t => cAt D dT A (cW dT a_this u) t) A) [.ref (a_this 0), .int v1].toArray s 0 0 A) (F0 m 12 ls []) := by
    intro x1 k42 hk42 n
    induction n with
    | zero => intro x2 g_this H locs ls h; exact nomatch h
    | succ n ih =>
      intro x2 g_this H locs ls h hP hD hS hl
      unfold f_X7_passWeeks_L12 at h
      refine lv_iload_n hx hb dX7_passWeeks_12 rfl (lv_at hl 2 rfl) ?_
      refine lv_iload_n hx hb dX7_passWeeks_13 rfl (lv_at hl 1 rfl) ?_
      refine lv_icmp_ge (tgt := 42) hx hb dX7_passWeeks_14 (by decide) (fun c1 => ?_) (fun c1 => ?_)
      · replace h := iteT c1 h
        exact hk42 g_this _ _ _ h hP hD hS (lv_sub hl [0] rfl)
      · replace h := iteF c1 h
        refine lv_iconst (v := 0) hx hb dX7_passWeeks_17 (by decide) ?_
        refine lv_istore_n (lv' := [(3, .int (0 : Int32)), (0, .ref (a_this 0)), (1, .int x1), (2, .int x2)]) hx hb dX7_passWeeks_18 rfl hl (by decide) rfl (fun ls hl => ?_)
        refine L_f_X7_passWeeks_L19 x1 x2 _ ?_ FUEL (0 : Int32) g_this _ _ _ h hP hD hS (lv_sub hl [1, 2, 3, 0] rfl)
        · intro y4g_this H locs ls h hP hD hS hl
          refine lv_iinc (v := (x2 + (1 : Int32))) (lv' := [(2, .int (x2 + (1 : Int32))), (0, .ref (a_this 0)), (1, .int x1)]) hx hb dX7_passWeeks_36 hl (k := 2) rfl rfl (by decide) rfl (fun ls hl => ?_)
          refine lv_goto (tgt := 12) hx hb dX7_passWeeks_39 (by decide) ?_
          exact ih (x2 + (1 : Int32)) y4g_this _ _ _ h hP hD hS (lv_sub hl [1, 2, 0] rfl)
  unfold f_X7_passWeeks at h
  refine lv_aload_n hx hb dX7_passWeeks_0 rfl (lv_at hl 0 rfl) ?_
  refine lv_dup hx hb dX7_passWeeks_1 rfl ?_
  refine gf_X7_52 (v := .int (W_weeks g_this)) hx hb hqs hown hK hP 0 rfl rfl dX7_passWeeks_2 ?_
  refine lv_iload_n hx hb dX7_passWeeks_5 rfl (lv_at hl 1 rfl) ?_
  refine lv_iadd hx hb dX7_passWeeks_6 ?_
  refine pf_X7_52 hx hb hqs hown hK hP hD hS 0 rfl rfl dX7_passWeeks_7 (fun H locs hP hD hS => ?_)
  have hP : va_P D vwCl ([(a_this 0, .inr (6, [.int (W_tables g_this), .int ((W_weeks g_this) + v1), .int (W_runs g_this), .int (W_surprises g_this), .ref (a_this 1), .ref (a_this 2), .ref (a_this 3), .ref (a_this 4), .ref (a_this 5), .ref (a_this 6), .ref (a_this 7), .ref (a_this 8), .ref (a_this 9)])), (a_this 1, .inl (dT 1, 4, .inr (.inl (W_sums g_this)))), (a_this 2, .inl (dT 0, 3, .inl (W_settings g_this))), (a_this 3, .inl (dT 0, 7, .inl (W_sizes g_this))), (a_this 4, .inl (dT 0, 21, .inl (W_guesses g_this))), (a_this 5, .inl (dT 0, 21, .inl (W_shares g_this))), (a_this 6, .inl (dT 0, 21, .inl (W_memories g_this))), (a_this 7, .inl (dT 0, 21, .inl (W_ages g_this))), (a_this 8, .inl (dT 0, 21, .inl (W_surprisesOf g_this))), (a_this 9, .inl (dT 0, 40, .inl (W_told g_this)))]) H := hP
  have hD : va_D A ([(a_this 0, .inr (6, [.int (W_tables g_this), .int ((W_weeks g_this) + v1), .int (W_runs g_this), .int (W_surprises g_this), .ref (a_this 1), .ref (a_this 2), .ref (a_this 3), .ref (a_this 4), .ref (a_this 5), .ref (a_this 6), .ref (a_this 7), .ref (a_this 8), .ref (a_this 9)])), (a_this 1, .inl (dT 1, 4, .inr (.inl (W_sums g_this)))), (a_this 2, .inl (dT 0, 3, .inl (W_settings g_this))), (a_this 3, .inl (dT 0, 7, .inl (W_sizes g_this))), (a_this 4, .inl (dT 0, 21, .inl (W_guesses g_this))), (a_this 5, .inl (dT 0, 21, .inl (W_shares g_this))), (a_this 6, .inl (dT 0, 21, .inl (W_memories g_this))), (a_this 7, .inl (dT 0, 21, .inl (W_ages g_this))), (a_this 8, .inl (dT 0, 21, .inl (W_surprisesOf g_this))), (a_this 9, .inl (dT 0, 40, .inl (W_told g_this)))]) := hD
  refine lv_iconst (v := 0) hx hb dX7_passWeeks_10 (by decide) ?_
  refine lv_istore_n (lv' := [(2, .int (0 : Int32)), (0, .ref (a_this 0)), (1, .int v1)]) hx hb dX7_passWeeks_11 rfl hl (by decide) rfl (fun ls hl => ?_)
  refine L_f_X7_passWeeks_L12 v1 _ ?_ FUEL (0 : Int32) (W_mk (W_tables g_this) ((W_weeks g_this) + v1) (W_runs g_this) (W_surprises g_this) (W_sums g_this) (W_settings g_this) (W_sizes g_this) (W_guesses g_this) (W_shares g_this) (W_memories g_this) (W_ages g_this) (W_surprisesOf g_this) (W_told g_this)) _ _ _ h hP hD hS (lv_sub hl [1, 2, 0] rfl)
  · intro y5g_this H locs ls h hP hD hS hl
    refine lv_aload_n hx hb dX7_passWeeks_42 rfl (lv_at hl 0 rfl) ?_
    obtain ⟨o6, e6, h⟩ := obind h
    have hPc := hP
    have hDc := hD
    have hFc := vfall hD hS hA
    refine cl_iA (va_runV (As := []) (rest := []) ⟨hx, hb, hml, hown, hts⟩ (c_X7_memoryCount l hlt D dT a_this y5g_this o6 e6 _) (cwV 0 hts (TB_V w_590 w_591 w_592 w_55 w_593) rfl rfl rfl ⟨rfl, nd_X7_memoryCount⟩ ⟨Nat.le_of_ble_eq_true rfl, Nat.le_of_ble_eq_true rfl⟩) (cPre.V hPc hDc hK hE hS hFc (va_recv hK hP (ci := 6) (q0 := 0) rfl rfl)) rfl rfl hl.1 rfl (lv_room (Nat.le_of_ble_eq_true rfl)) dX7_passWeeks_43 ⟨Nat.zero_le _, Nat.zero_le _⟩) hS hFc (fun r6 u6 H locs hw hP hD hS => ?_)
    obtain ⟨rfl, rfl⟩ := hw
    have hP : va_P D vwCl (cW dT a_this y5g_this) H := hP
    have hD : va_D A (cW dT a_this y5g_this) := hD
    exact rt_i hx hb hr hlk hK hS (y5g_this : TW) (ret2 h) hP hD dX7_passWeeks_46

def f_X7_noteRun (g_this : TW) (v1 : Int64) (v3 : Int64) : Option (Unit × (TW)) :=
  (if inb (0 : Int32) 4 = true then (if inb (0 : Int32) 4 = true then (if inb (1 : Int32) 4 = true then (if inb (1 : Int32) 4 = true then (if inb (2 : Int32) 4 = true then (if inb (3 : Int32) 4 = true then (some ((), (W_mk (W_tables g_this) (W_weeks g_this) ((W_runs g_this) + (1 : Int32)) (W_surprises g_this) (vp_updL (vp_updL (vp_updL (vp_updL (W_sums g_this) (0 : Int32).toNatClampNeg (((W_sums g_this) (0 : Int32).toNatClampNeg) + v1)) (1 : Int32).toNatClampNeg (((vp_updL (W_sums g_this) (0 : Int32).toNatClampNeg (((W_sums g_this) (0 : Int32).toNatClampNeg) + v1)) (1 : Int32).toNatClampNeg) + v3)) (2 : Int32).toNatClampNeg v1) (3 : Int32).toNatClampNeg v3) (W_settings g_this) (W_sizes g_this) (W_guesses g_this) (W_shares g_this) (W_memories g_this) (W_ages g_this) (W_surprisesOf g_this) (W_told g_this)))) else none) else none) else none) else none) else none) else none)
set_option maxHeartbeats 8000000 in
set_option maxRecDepth 100000 in
theorem c_X7_noteRun (l : Launch) (hlt : l.stackTraces = false) (D : va_G) (dT : Nat → ClassId) (a_this : Nat → Nat) (g_this : TW) (v1 : Int64) (v3 : Int64) (o : (Unit × (TW))) (h : f_X7_noteRun g_this v1 v3 = some o) (sz : Nat) : Met l yX7_noteRun (WSm yX7_noteRun cX7_noteRun 5 none) { frames := 0, cells := 0, slots := 0, locals := 0 } (va_Pc [.ref (a_this 0), .long v1, .long v3] (cPre D dT (cW dT a_this g_this) sz)) (va_Qv (fun (u : TW) => u = o.2) (fun u t => cAt D dT (va_A (cW dT a_this g_this) sz) (cW dT a_this u) t) (va_A (cW dT a_this g_this) sz)) 0 0 (va_A (cW dT a_this g_this) sz) := by
  refine mStart (WS := (cW dT a_this g_this)) (Qc := fun A => va_Qv (fun (u : TW) => u = o.2) (fun u t => cAt D dT A (cW dT a_this u) t) A) RX7 rfl (by decide) (Nat.le_of_ble_eq_true rfl) ?_ sz
  intro p e s m below meth c A ls hx hb hml hr hlk hnm hts hqs hown hE hA hK hP hD hS hl
  have hl : lv_has ls 5 [(0, .ref (a_this 0)), (1, .long v1), (3, .long v3)] := hl
  unfold f_X7_noteRun at h
  refine lv_aload_n hx hb dX7_noteRun_0 rfl (lv_at hl 0 rfl) ?_
  refine lv_dup hx hb dX7_noteRun_1 rfl ?_
  refine gf_X7_55 (v := .int (W_runs g_this)) hx hb hqs hown hK hP 0 rfl rfl dX7_noteRun_2 ?_
  refine lv_iconst (v := 1) hx hb dX7_noteRun_5 (by decide) ?_
  refine lv_iadd hx hb dX7_noteRun_6 ?_
  refine pf_X7_55 hx hb hqs hown hK hP hD hS 0 rfl rfl dX7_noteRun_7 (fun H locs hP hD hS => ?_)
  have hP : va_P D vwCl ([(a_this 0, .inr (6, [.int (W_tables g_this), .int (W_weeks g_this), .int ((W_runs g_this) + (1 : Int32)), .int (W_surprises g_this), .ref (a_this 1), .ref (a_this 2), .ref (a_this 3), .ref (a_this 4), .ref (a_this 5), .ref (a_this 6), .ref (a_this 7), .ref (a_this 8), .ref (a_this 9)])), (a_this 1, .inl (dT 1, 4, .inr (.inl (W_sums g_this)))), (a_this 2, .inl (dT 0, 3, .inl (W_settings g_this))), (a_this 3, .inl (dT 0, 7, .inl (W_sizes g_this))), (a_this 4, .inl (dT 0, 21, .inl (W_guesses g_this))), (a_this 5, .inl (dT 0, 21, .inl (W_shares g_this))), (a_this 6, .inl (dT 0, 21, .inl (W_memories g_this))), (a_this 7, .inl (dT 0, 21, .inl (W_ages g_this))), (a_this 8, .inl (dT 0, 21, .inl (W_surprisesOf g_this))), (a_this 9, .inl (dT 0, 40, .inl (W_told g_this)))]) H := hP
  have hD : va_D A ([(a_this 0, .inr (6, [.int (W_tables g_this), .int (W_weeks g_this), .int ((W_runs g_this) + (1 : Int32)), .int (W_surprises g_this), .ref (a_this 1), .ref (a_this 2), .ref (a_this 3), .ref (a_this 4), .ref (a_this 5), .ref (a_this 6), .ref (a_this 7), .ref (a_this 8), .ref (a_this 9)])), (a_this 1, .inl (dT 1, 4, .inr (.inl (W_sums g_this)))), (a_this 2, .inl (dT 0, 3, .inl (W_settings g_this))), (a_this 3, .inl (dT 0, 7, .inl (W_sizes g_this))), (a_this 4, .inl (dT 0, 21, .inl (W_guesses g_this))), (a_this 5, .inl (dT 0, 21, .inl (W_shares g_this))), (a_this 6, .inl (dT 0, 21, .inl (W_memories g_this))), (a_this 7, .inl (dT 0, 21, .inl (W_ages g_this))), (a_this 8, .inl (dT 0, 21, .inl (W_surprisesOf g_this))), (a_this 9, .inl (dT 0, 40, .inl (W_told g_this)))]) := hD
  refine lv_aload_n hx hb dX7_noteRun_10 rfl (lv_at hl 0 rfl) ?_
  refine gf_X7_9 (v := .ref (a_this 1)) hx hb hqs hown hK hP 0 rfl rfl dX7_noteRun_11 ?_
  refine lv_iconst (v := 0) hx hb dX7_noteRun_14 (by decide) ?_
  refine lv_dup2_11 hx hb dX7_noteRun_15 rfl rfl ?_
  obtain ⟨g1, h⟩ := chk h
  refine va_lald hx hb hK hP 1 1 rfl rfl (inb_in g1) dX7_noteRun_16 ?_
  refine lv_lload_n hx hb dX7_noteRun_17 rfl (lv_at hl 1 rfl) ?_
  refine lv_ladd hx hb dX7_noteRun_18 ?_
  obtain ⟨g2, h⟩ := chk h
  refine va_last hx hb hK hP hD hS 1 1 rfl rfl (inb_in g2) dX7_noteRun_19 (fun H locs hP hD hS => ?_)
  have hP : va_P D vwCl ([(a_this 0, .inr (6, [.int (W_tables g_this), .int (W_weeks g_this), .int ((W_runs g_this) + (1 : Int32)), .int (W_surprises g_this), .ref (a_this 1), .ref (a_this 2), .ref (a_this 3), .ref (a_this 4), .ref (a_this 5), .ref (a_this 6), .ref (a_this 7), .ref (a_this 8), .ref (a_this 9)])), (a_this 1, .inl (dT 1, 4, .inr (.inl (vp_updL (W_sums g_this) (0 : Int32).toNatClampNeg (((W_sums g_this) (0 : Int32).toNatClampNeg) + v1))))), (a_this 2, .inl (dT 0, 3, .inl (W_settings g_this))), (a_this 3, .inl (dT 0, 7, .inl (W_sizes g_this))), (a_this 4, .inl (dT 0, 21, .inl (W_guesses g_this))), (a_this 5, .inl (dT 0, 21, .inl (W_shares g_this))), (a_this 6, .inl (dT 0, 21, .inl (W_memories g_this))), (a_this 7, .inl (dT 0, 21, .inl (W_ages g_this))), (a_this 8, .inl (dT 0, 21, .inl (W_surprisesOf g_this))), (a_this 9, .inl (dT 0, 40, .inl (W_told g_this)))]) H := hP
  have hD : va_D A ([(a_this 0, .inr (6, [.int (W_tables g_this), .int (W_weeks g_this), .int ((W_runs g_this) + (1 : Int32)), .int (W_surprises g_this), .ref (a_this 1), .ref (a_this 2), .ref (a_this 3), .ref (a_this 4), .ref (a_this 5), .ref (a_this 6), .ref (a_this 7), .ref (a_this 8), .ref (a_this 9)])), (a_this 1, .inl (dT 1, 4, .inr (.inl (vp_updL (W_sums g_this) (0 : Int32).toNatClampNeg (((W_sums g_this) (0 : Int32).toNatClampNeg) + v1))))), (a_this 2, .inl (dT 0, 3, .inl (W_settings g_this))), (a_this 3, .inl (dT 0, 7, .inl (W_sizes g_this))), (a_this 4, .inl (dT 0, 21, .inl (W_guesses g_this))), (a_this 5, .inl (dT 0, 21, .inl (W_shares g_this))), (a_this 6, .inl (dT 0, 21, .inl (W_memories g_this))), (a_this 7, .inl (dT 0, 21, .inl (W_ages g_this))), (a_this 8, .inl (dT 0, 21, .inl (W_surprisesOf g_this))), (a_this 9, .inl (dT 0, 40, .inl (W_told g_this)))]) := hD
  refine lv_aload_n hx hb dX7_noteRun_20 rfl (lv_at hl 0 rfl) ?_
  refine gf_X7_9 (v := .ref (a_this 1)) hx hb hqs hown hK hP 0 rfl rfl dX7_noteRun_21 ?_
  refine lv_iconst (v := 1) hx hb dX7_noteRun_24 (by decide) ?_
  refine lv_dup2_11 hx hb dX7_noteRun_25 rfl rfl ?_
  obtain ⟨g3, h⟩ := chk h
  refine va_lald hx hb hK hP 1 1 rfl rfl (inb_in g3) dX7_noteRun_26 ?_
  refine lv_lload_n hx hb dX7_noteRun_27 rfl (lv_at hl 2 rfl) ?_
  refine lv_ladd hx hb dX7_noteRun_28 ?_
  obtain ⟨g4, h⟩ := chk h
  refine va_last hx hb hK hP hD hS 1 1 rfl rfl (inb_in g4) dX7_noteRun_29 (fun H locs hP hD hS => ?_)
  have hP : va_P D vwCl ([(a_this 0, .inr (6, [.int (W_tables g_this), .int (W_weeks g_this), .int ((W_runs g_this) + (1 : Int32)), .int (W_surprises g_this), .ref (a_this 1), .ref (a_this 2), .ref (a_this 3), .ref (a_this 4), .ref (a_this 5), .ref (a_this 6), .ref (a_this 7), .ref (a_this 8), .ref (a_this 9)])), (a_this 1, .inl (dT 1, 4, .inr (.inl (vp_updL (vp_updL (W_sums g_this) (0 : Int32).toNatClampNeg (((W_sums g_this) (0 : Int32).toNatClampNeg) + v1)) (1 : Int32).toNatClampNeg (((vp_updL (W_sums g_this) (0 : Int32).toNatClampNeg (((W_sums g_this) (0 : Int32).toNatClampNeg) + v1)) (1 : Int32).toNatClampNeg) + v3))))), (a_this 2, .inl (dT 0, 3, .inl (W_settings g_this))), (a_this 3, .inl (dT 0, 7, .inl (W_sizes g_this))), (a_this 4, .inl (dT 0, 21, .inl (W_guesses g_this))), (a_this 5, .inl (dT 0, 21, .inl (W_shares g_this))), (a_this 6, .inl (dT 0, 21, .inl (W_memories g_this))), (a_this 7, .inl (dT 0, 21, .inl (W_ages g_this))), (a_this 8, .inl (dT 0, 21, .inl (W_surprisesOf g_this))), (a_this 9, .inl (dT 0, 40, .inl (W_told g_this)))]) H := hP
  have hD : va_D A ([(a_this 0, .inr (6, [.int (W_tables g_this), .int (W_weeks g_this), .int ((W_runs g_this) + (1 : Int32)), .int (W_surprises g_this), .ref (a_this 1), .ref (a_this 2), .ref (a_this 3), .ref (a_this 4), .ref (a_this 5), .ref (a_this 6), .ref (a_this 7), .ref (a_this 8), .ref (a_this 9)])), (a_this 1, .inl (dT 1, 4, .inr (.inl (vp_updL (vp_updL (W_sums g_this) (0 : Int32).toNatClampNeg (((W_sums g_this) (0 : Int32).toNatClampNeg) + v1)) (1 : Int32).toNatClampNeg (((vp_updL (W_sums g_this) (0 : Int32).toNatClampNeg (((W_sums g_this) (0 : Int32).toNatClampNeg) + v1)) (1 : Int32).toNatClampNeg) + v3))))), (a_this 2, .inl (dT 0, 3, .inl (W_settings g_this))), (a_this 3, .inl (dT 0, 7, .inl (W_sizes g_this))), (a_this 4, .inl (dT 0, 21, .inl (W_guesses g_this))), (a_this 5, .inl (dT 0, 21, .inl (W_shares g_this))), (a_this 6, .inl (dT 0, 21, .inl (W_memories g_this))), (a_this 7, .inl (dT 0, 21, .inl (W_ages g_this))), (a_this 8, .inl (dT 0, 21, .inl (W_surprisesOf g_this))), (a_this 9, .inl (dT 0, 40, .inl (W_told g_this)))]) := hD
  refine lv_aload_n hx hb dX7_noteRun_30 rfl (lv_at hl 0 rfl) ?_
  refine gf_X7_9 (v := .ref (a_this 1)) hx hb hqs hown hK hP 0 rfl rfl dX7_noteRun_31 ?_
  refine lv_iconst (v := 2) hx hb dX7_noteRun_34 (by decide) ?_
  refine lv_lload_n hx hb dX7_noteRun_35 rfl (lv_at hl 1 rfl) ?_
  obtain ⟨g5, h⟩ := chk h
  refine va_last hx hb hK hP hD hS 1 1 rfl rfl (inb_in g5) dX7_noteRun_36 (fun H locs hP hD hS => ?_)
  have hP : va_P D vwCl ([(a_this 0, .inr (6, [.int (W_tables g_this), .int (W_weeks g_this), .int ((W_runs g_this) + (1 : Int32)), .int (W_surprises g_this), .ref (a_this 1), .ref (a_this 2), .ref (a_this 3), .ref (a_this 4), .ref (a_this 5), .ref (a_this 6), .ref (a_this 7), .ref (a_this 8), .ref (a_this 9)])), (a_this 1, .inl (dT 1, 4, .inr (.inl (vp_updL (vp_updL (vp_updL (W_sums g_this) (0 : Int32).toNatClampNeg (((W_sums g_this) (0 : Int32).toNatClampNeg) + v1)) (1 : Int32).toNatClampNeg (((vp_updL (W_sums g_this) (0 : Int32).toNatClampNeg (((W_sums g_this) (0 : Int32).toNatClampNeg) + v1)) (1 : Int32).toNatClampNeg) + v3)) (2 : Int32).toNatClampNeg v1)))), (a_this 2, .inl (dT 0, 3, .inl (W_settings g_this))), (a_this 3, .inl (dT 0, 7, .inl (W_sizes g_this))), (a_this 4, .inl (dT 0, 21, .inl (W_guesses g_this))), (a_this 5, .inl (dT 0, 21, .inl (W_shares g_this))), (a_this 6, .inl (dT 0, 21, .inl (W_memories g_this))), (a_this 7, .inl (dT 0, 21, .inl (W_ages g_this))), (a_this 8, .inl (dT 0, 21, .inl (W_surprisesOf g_this))), (a_this 9, .inl (dT 0, 40, .inl (W_told g_this)))]) H := hP
  have hD : va_D A ([(a_this 0, .inr (6, [.int (W_tables g_this), .int (W_weeks g_this), .int ((W_runs g_this) + (1 : Int32)), .int (W_surprises g_this), .ref (a_this 1), .ref (a_this 2), .ref (a_this 3), .ref (a_this 4), .ref (a_this 5), .ref (a_this 6), .ref (a_this 7), .ref (a_this 8), .ref (a_this 9)])), (a_this 1, .inl (dT 1, 4, .inr (.inl (vp_updL (vp_updL (vp_updL (W_sums g_this) (0 : Int32).toNatClampNeg (((W_sums g_this) (0 : Int32).toNatClampNeg) + v1)) (1 : Int32).toNatClampNeg (((vp_updL (W_sums g_this) (0 : Int32).toNatClampNeg (((W_sums g_this) (0 : Int32).toNatClampNeg) + v1)) (1 : Int32).toNatClampNeg) + v3)) (2 : Int32).toNatClampNeg v1)))), (a_this 2, .inl (dT 0, 3, .inl (W_settings g_this))), (a_this 3, .inl (dT 0, 7, .inl (W_sizes g_this))), (a_this 4, .inl (dT 0, 21, .inl (W_guesses g_this))), (a_this 5, .inl (dT 0, 21, .inl (W_shares g_this))), (a_this 6, .inl (dT 0, 21, .inl (W_memories g_this))), (a_this 7, .inl (dT 0, 21, .inl (W_ages g_this))), (a_this 8, .inl (dT 0, 21, .inl (W_surprisesOf g_this))), (a_this 9, .inl (dT 0, 40, .inl (W_told g_this)))]) := hD
  refine lv_aload_n hx hb dX7_noteRun_37 rfl (lv_at hl 0 rfl) ?_
  refine gf_X7_9 (v := .ref (a_this 1)) hx hb hqs hown hK hP 0 rfl rfl dX7_noteRun_38 ?_
  refine lv_iconst (v := 3) hx hb dX7_noteRun_41 (by decide) ?_
  refine lv_lload_n hx hb dX7_noteRun_42 rfl (lv_at hl 2 rfl) ?_
  obtain ⟨g6, h⟩ := chk h
  refine va_last hx hb hK hP hD hS 1 1 rfl rfl (inb_in g6) dX7_noteRun_43 (fun H locs hP hD hS => ?_)
  have hP : va_P D vwCl ([(a_this 0, .inr (6, [.int (W_tables g_this), .int (W_weeks g_this), .int ((W_runs g_this) + (1 : Int32)), .int (W_surprises g_this), .ref (a_this 1), .ref (a_this 2), .ref (a_this 3), .ref (a_this 4), .ref (a_this 5), .ref (a_this 6), .ref (a_this 7), .ref (a_this 8), .ref (a_this 9)])), (a_this 1, .inl (dT 1, 4, .inr (.inl (vp_updL (vp_updL (vp_updL (vp_updL (W_sums g_this) (0 : Int32).toNatClampNeg (((W_sums g_this) (0 : Int32).toNatClampNeg) + v1)) (1 : Int32).toNatClampNeg (((vp_updL (W_sums g_this) (0 : Int32).toNatClampNeg (((W_sums g_this) (0 : Int32).toNatClampNeg) + v1)) (1 : Int32).toNatClampNeg) + v3)) (2 : Int32).toNatClampNeg v1) (3 : Int32).toNatClampNeg v3)))), (a_this 2, .inl (dT 0, 3, .inl (W_settings g_this))), (a_this 3, .inl (dT 0, 7, .inl (W_sizes g_this))), (a_this 4, .inl (dT 0, 21, .inl (W_guesses g_this))), (a_this 5, .inl (dT 0, 21, .inl (W_shares g_this))), (a_this 6, .inl (dT 0, 21, .inl (W_memories g_this))), (a_this 7, .inl (dT 0, 21, .inl (W_ages g_this))), (a_this 8, .inl (dT 0, 21, .inl (W_surprisesOf g_this))), (a_this 9, .inl (dT 0, 40, .inl (W_told g_this)))]) H := hP
  have hD : va_D A ([(a_this 0, .inr (6, [.int (W_tables g_this), .int (W_weeks g_this), .int ((W_runs g_this) + (1 : Int32)), .int (W_surprises g_this), .ref (a_this 1), .ref (a_this 2), .ref (a_this 3), .ref (a_this 4), .ref (a_this 5), .ref (a_this 6), .ref (a_this 7), .ref (a_this 8), .ref (a_this 9)])), (a_this 1, .inl (dT 1, 4, .inr (.inl (vp_updL (vp_updL (vp_updL (vp_updL (W_sums g_this) (0 : Int32).toNatClampNeg (((W_sums g_this) (0 : Int32).toNatClampNeg) + v1)) (1 : Int32).toNatClampNeg (((vp_updL (W_sums g_this) (0 : Int32).toNatClampNeg (((W_sums g_this) (0 : Int32).toNatClampNeg) + v1)) (1 : Int32).toNatClampNeg) + v3)) (2 : Int32).toNatClampNeg v1) (3 : Int32).toNatClampNeg v3)))), (a_this 2, .inl (dT 0, 3, .inl (W_settings g_this))), (a_this 3, .inl (dT 0, 7, .inl (W_sizes g_this))), (a_this 4, .inl (dT 0, 21, .inl (W_guesses g_this))), (a_this 5, .inl (dT 0, 21, .inl (W_shares g_this))), (a_this 6, .inl (dT 0, 21, .inl (W_memories g_this))), (a_this 7, .inl (dT 0, 21, .inl (W_ages g_this))), (a_this 8, .inl (dT 0, 21, .inl (W_surprisesOf g_this))), (a_this 9, .inl (dT 0, 40, .inl (W_told g_this)))]) := hD
  exact rt_v hx hb hr hlk hK hS ((W_mk (W_tables g_this) (W_weeks g_this) ((W_runs g_this) + (1 : Int32)) (W_surprises g_this) (vp_updL (vp_updL (vp_updL (vp_updL (W_sums g_this) (0 : Int32).toNatClampNeg (((W_sums g_this) (0 : Int32).toNatClampNeg) + v1)) (1 : Int32).toNatClampNeg (((vp_updL (W_sums g_this) (0 : Int32).toNatClampNeg (((W_sums g_this) (0 : Int32).toNatClampNeg) + v1)) (1 : Int32).toNatClampNeg) + v3)) (2 : Int32).toNatClampNeg v1) (3 : Int32).toNatClampNeg v3) (W_settings g_this) (W_sizes g_this) (W_guesses g_this) (W_shares g_this) (W_memories g_this) (W_ages g_this) (W_surprisesOf g_this) (W_told g_this)) : TW) (retv h) hP hD dX7_noteRun_44

def f_X7_differenceOf (g_this : TW) (v1 : Int32) : Option (Int32 × (Unit)) :=
  ((f_X7_shareOf g_this v1 (1 : Int32)).bind fun o1 => ((f_X7_shareOf g_this v1 (2 : Int32)).bind fun o2 => (some ((if 0 ≤ (o1.1 - o2.1) then (o1.1 - o2.1) else 0 - (o1.1 - o2.1)), ()))))
set_option maxHeartbeats 8000000 in
set_option maxRecDepth 100000 in
theorem c_X7_differenceOf (l : Launch) (hlt : l.stackTraces = false) (D : va_G) (dT : Nat → ClassId) (a_this : Nat → Nat) (g_this : TW) (v1 : Int32) (o : (Int32 × (Unit))) (h : f_X7_differenceOf g_this v1 = some o) (sz : Nat) : Met l yX7_differenceOf (WSm yX7_differenceOf cX7_differenceOf 2 (some .int)) { frames := 2, cells := 0, slots := 0, locals := 44 } (va_Pc [.ref (a_this 0), .int v1] (cPre D dT (cW dT a_this g_this) sz)) (va_Qi (fun (r : Int32) (u : Unit) => r = o.1 ∧ u = o.2) (fun u t => cAt D dT (va_A (cW dT a_this g_this) sz) (cW dT a_this g_this) t) (va_A (cW dT a_this g_this) sz)) 0 0 (va_A (cW dT a_this g_this) sz) := by
  refine mStart (WS := (cW dT a_this g_this)) (Qc := fun A => va_Qi (fun (r : Int32) (u : Unit) => r = o.1 ∧ u = o.2) (fun u t => cAt D dT A (cW dT a_this g_this) t) A) RX7 rfl (by decide) (Nat.le_of_ble_eq_true rfl) ?_ sz
  intro p e s m below meth c A ls hx hb hml hr hlk hnm hts hqs hown hE hA hK hP hD hS hl
  have hl : lv_has ls 2 [(0, .ref (a_this 0)), (1, .int v1)] := hl
  unfold f_X7_differenceOf at h
  refine lv_aload_n hx hb dX7_differenceOf_0 rfl (lv_at hl 0 rfl) ?_
  refine lv_iload_n hx hb dX7_differenceOf_1 rfl (lv_at hl 1 rfl) ?_
  refine lv_iconst (v := 1) hx hb dX7_differenceOf_2 (by decide) ?_
  obtain ⟨o1, e1, h⟩ := obind h
  have hPc := hP
  have hDc := hD
  have hFc := vfall hD hS hA
  refine cl_iA (va_runV (As := [.int v1, .int (1 : Int32)]) (rest := []) ⟨hx, hb, hml, hown, hts⟩ (c_X7_shareOf l hlt D dT a_this g_this v1 (1 : Int32) o1 e1 _) (cwV 2 hts (TB_V w_400 w_401 w_402 w_55 w_403) rfl rfl rfl ⟨rfl, nd_X7_shareOf⟩ ⟨Nat.le_of_ble_eq_true rfl, Nat.le_of_ble_eq_true rfl⟩) (cPre.V hPc hDc hK hE hS hFc (va_recv hK hP (ci := 6) (q0 := 0) rfl rfl)) rfl rfl hl.1 rfl (lv_room (Nat.le_of_ble_eq_true rfl)) dX7_differenceOf_3 ⟨Nat.zero_le _, Nat.zero_le _⟩) hS hFc (fun r1 u1 H locs hw hP hD hS => ?_)
  obtain ⟨rfl, rfl⟩ := hw
  have hP : va_P D vwCl (cW dT a_this g_this) H := hP
  have hD : va_D A (cW dT a_this g_this) := hD
  refine lv_aload_n hx hb dX7_differenceOf_6 rfl (lv_at hl 0 rfl) ?_
  refine lv_iload_n hx hb dX7_differenceOf_7 rfl (lv_at hl 1 rfl) ?_
  refine lv_iconst (v := 2) hx hb dX7_differenceOf_8 (by decide) ?_
  obtain ⟨o2, e2, h⟩ := obind h
  have hPc := hP
  have hDc := hD
  have hFc := vfall hD hS hA
  refine cl_iA (va_runV (As := [.int v1, .int (2 : Int32)]) (rest := [.int o1.1]) ⟨hx, hb, hml, hown, hts⟩ (c_X7_shareOf l hlt D dT a_this g_this v1 (2 : Int32) o2 e2 _) (cwV 2 hts (TB_V w_400 w_401 w_402 w_55 w_403) rfl rfl rfl ⟨rfl, nd_X7_shareOf⟩ ⟨Nat.le_of_ble_eq_true rfl, Nat.le_of_ble_eq_true rfl⟩) (cPre.V hPc hDc hK hE hS hFc (va_recv hK hP (ci := 6) (q0 := 0) rfl rfl)) rfl rfl hl.1 rfl (lv_room (Nat.le_of_ble_eq_true rfl)) dX7_differenceOf_9 ⟨Nat.zero_le _, Nat.zero_le _⟩) hS hFc (fun r2 u2 H locs hw hP hD hS => ?_)
  obtain ⟨rfl, rfl⟩ := hw
  have hP : va_P D vwCl (cW dT a_this g_this) H := hP
  have hD : va_D A (cW dT a_this g_this) := hD
  refine lv_isub hx hb dX7_differenceOf_12 ?_
  refine va_mabs hx hb (hml.trans hl.1.symm) hown (hqs _ w_404) (hqs _ w_405) (hqs _ w_66) (hqs _ w_406) (Nat.le_of_ble_eq_true rfl) (Nat.le_of_ble_eq_true rfl) (Nat.le_of_ble_eq_true rfl) (Nat.le_of_ble_eq_true rfl) dX7_differenceOf_13 ?_
  exact rt_i hx hb hr hlk hK hS (() : Unit) (ret2 h) hP hD dX7_differenceOf_16

def f_X7_noteSurprise (g_this : TW) (v1 : Int32) (v2 : Int32) (v3 : Int32) : Option (Unit × (TW)) :=
  (if (((W_surprises g_this) - (W_surprises g_this) / (10 : Int32) * (10 : Int32)) * (4 : Int32)) < (0 : Int32) then (some ((), (W_mk (W_tables g_this) (W_weeks g_this) (W_runs g_this) ((W_surprises g_this) + (1 : Int32)) (W_sums g_this) (W_settings g_this) (W_sizes g_this) (W_guesses g_this) (W_shares g_this) (W_memories g_this) (W_ages g_this) (W_surprisesOf g_this) (W_told g_this)))) else (if (40 : Int32) ≤ ((((W_surprises g_this) - (W_surprises g_this) / (10 : Int32) * (10 : Int32)) * (4 : Int32)) + (3 : Int32)) then (some ((), (W_mk (W_tables g_this) (W_weeks g_this) (W_runs g_this) ((W_surprises g_this) + (1 : Int32)) (W_sums g_this) (W_settings g_this) (W_sizes g_this) (W_guesses g_this) (W_shares g_this) (W_memories g_this) (W_ages g_this) (W_surprisesOf g_this) (W_told g_this)))) else (if inb (((W_surprises g_this) - (W_surprises g_this) / (10 : Int32) * (10 : Int32)) * (4 : Int32)) 40 = true then (if inb ((((W_surprises g_this) - (W_surprises g_this) / (10 : Int32) * (10 : Int32)) * (4 : Int32)) + (1 : Int32)) 40 = true then (if inb ((((W_surprises g_this) - (W_surprises g_this) / (10 : Int32) * (10 : Int32)) * (4 : Int32)) + (2 : Int32)) 40 = true then (if inb ((((W_surprises g_this) - (W_surprises g_this) / (10 : Int32) * (10 : Int32)) * (4 : Int32)) + (3 : Int32)) 40 = true then (some ((), (W_mk (W_tables g_this) (W_weeks g_this) (W_runs g_this) ((W_surprises g_this) + (1 : Int32)) (W_sums g_this) (W_settings g_this) (W_sizes g_this) (W_guesses g_this) (W_shares g_this) (W_memories g_this) (W_ages g_this) (W_surprisesOf g_this) (upd (upd (upd (upd (W_told g_this) (((W_surprises g_this) - (W_surprises g_this) / (10 : Int32) * (10 : Int32)) * (4 : Int32)).toNatClampNeg v1) ((((W_surprises g_this) - (W_surprises g_this) / (10 : Int32) * (10 : Int32)) * (4 : Int32)) + (1 : Int32)).toNatClampNeg v2) ((((W_surprises g_this) - (W_surprises g_this) / (10 : Int32) * (10 : Int32)) * (4 : Int32)) + (2 : Int32)).toNatClampNeg v3) ((((W_surprises g_this) - (W_surprises g_this) / (10 : Int32) * (10 : Int32)) * (4 : Int32)) + (3 : Int32)).toNatClampNeg (W_weeks g_this))))) else none) else none) else none) else none)))
set_option maxHeartbeats 8000000 in
set_option maxRecDepth 100000 in
theorem c_X7_noteSurprise (l : Launch) (hlt : l.stackTraces = false) (D : va_G) (dT : Nat → ClassId) (a_this : Nat → Nat) (g_this : TW) (v1 : Int32) (v2 : Int32) (v3 : Int32) (o : (Unit × (TW))) (h : f_X7_noteSurprise g_this v1 v2 v3 = some o) (sz : Nat) : Met l yX7_noteSurprise (WSm yX7_noteSurprise cX7_noteSurprise 5 none) { frames := 0, cells := 0, slots := 0, locals := 0 } (va_Pc [.ref (a_this 0), .int v1, .int v2, .int v3] (cPre D dT (cW dT a_this g_this) sz)) (va_Qv (fun (u : TW) => u = o.2) (fun u t => cAt D dT (va_A (cW dT a_this g_this) sz) (cW dT a_this u) t) (va_A (cW dT a_this g_this) sz)) 0 0 (va_A (cW dT a_this g_this) sz) := by
  refine mStart (WS := (cW dT a_this g_this)) (Qc := fun A => va_Qv (fun (u : TW) => u = o.2) (fun u t => cAt D dT A (cW dT a_this u) t) A) RX7 rfl (by decide) (Nat.le_of_ble_eq_true rfl) ?_ sz
  intro p e s m below meth c A ls hx hb hml hr hlk hnm hts hqs hown hE hA hK hP hD hS hl
  have hl : lv_has ls 5 [(0, .ref (a_this 0)), (1, .int v1), (2, .int v2), (3, .int v3)] := hl
  unfold f_X7_noteSurprise at h
  refine lv_aload_n hx hb dX7_noteSurprise_0 rfl (lv_at hl 0 rfl) ?_
  refine gf_X7_58 (v := .int (W_surprises g_this)) hx hb hqs hown hK hP 0 rfl rfl dX7_noteSurprise_1 ?_
  refine lv_bipush (v := 10) hx hb dX7_noteSurprise_4 (by decide) ?_
  refine lv_irem hx hb dX7_noteSurprise_6 (by decide) ?_
  refine lv_iconst (v := 4) hx hb dX7_noteSurprise_7 (by decide) ?_
  refine lv_imul hx hb dX7_noteSurprise_8 ?_
  refine lv_istore (lv' := [(4, .int (((W_surprises g_this) - (W_surprises g_this) / (10 : Int32) * (10 : Int32)) * (4 : Int32))), (0, .ref (a_this 0)), (1, .int v1), (2, .int v2), (3, .int v3)]) hx hb dX7_noteSurprise_9 hl (by decide) rfl (fun ls hl => ?_)
  refine lv_iload hx hb dX7_noteSurprise_11 (lv_at hl 0 rfl) ?_
  refine lv_if_lt (tgt := 69) hx hb dX7_noteSurprise_13 (by decide) (fun c1 => ?_) (fun c1 => ?_)
  · replace h := iteT c1 h
    refine lv_aload_n hx hb dX7_noteSurprise_69 rfl (lv_at hl 1 rfl) ?_
    refine lv_dup hx hb dX7_noteSurprise_70 rfl ?_
    refine gf_X7_58 (v := .int (W_surprises g_this)) hx hb hqs hown hK hP 0 rfl rfl dX7_noteSurprise_71 ?_
    refine lv_iconst (v := 1) hx hb dX7_noteSurprise_74 (by decide) ?_
    refine lv_iadd hx hb dX7_noteSurprise_75 ?_
    refine pf_X7_58 hx hb hqs hown hK hP hD hS 0 rfl rfl dX7_noteSurprise_76 (fun H locs hP hD hS => ?_)
    have hP : va_P D vwCl ([(a_this 0, .inr (6, [.int (W_tables g_this), .int (W_weeks g_this), .int (W_runs g_this), .int ((W_surprises g_this) + (1 : Int32)), .ref (a_this 1), .ref (a_this 2), .ref (a_this 3), .ref (a_this 4), .ref (a_this 5), .ref (a_this 6), .ref (a_this 7), .ref (a_this 8), .ref (a_this 9)])), (a_this 1, .inl (dT 1, 4, .inr (.inl (W_sums g_this)))), (a_this 2, .inl (dT 0, 3, .inl (W_settings g_this))), (a_this 3, .inl (dT 0, 7, .inl (W_sizes g_this))), (a_this 4, .inl (dT 0, 21, .inl (W_guesses g_this))), (a_this 5, .inl (dT 0, 21, .inl (W_shares g_this))), (a_this 6, .inl (dT 0, 21, .inl (W_memories g_this))), (a_this 7, .inl (dT 0, 21, .inl (W_ages g_this))), (a_this 8, .inl (dT 0, 21, .inl (W_surprisesOf g_this))), (a_this 9, .inl (dT 0, 40, .inl (W_told g_this)))]) H := hP
    have hD : va_D A ([(a_this 0, .inr (6, [.int (W_tables g_this), .int (W_weeks g_this), .int (W_runs g_this), .int ((W_surprises g_this) + (1 : Int32)), .ref (a_this 1), .ref (a_this 2), .ref (a_this 3), .ref (a_this 4), .ref (a_this 5), .ref (a_this 6), .ref (a_this 7), .ref (a_this 8), .ref (a_this 9)])), (a_this 1, .inl (dT 1, 4, .inr (.inl (W_sums g_this)))), (a_this 2, .inl (dT 0, 3, .inl (W_settings g_this))), (a_this 3, .inl (dT 0, 7, .inl (W_sizes g_this))), (a_this 4, .inl (dT 0, 21, .inl (W_guesses g_this))), (a_this 5, .inl (dT 0, 21, .inl (W_shares g_this))), (a_this 6, .inl (dT 0, 21, .inl (W_memories g_this))), (a_this 7, .inl (dT 0, 21, .inl (W_ages g_this))), (a_this 8, .inl (dT 0, 21, .inl (W_surprisesOf g_this))), (a_this 9, .inl (dT 0, 40, .inl (W_told g_this)))]) := hD
    exact rt_v hx hb hr hlk hK hS ((W_mk (W_tables g_this) (W_weeks g_this) (W_runs g_this) ((W_surprises g_this) + (1 : Int32)) (W_sums g_this) (W_settings g_this) (W_sizes g_this) (W_guesses g_this) (W_shares g_this) (W_memories g_this) (W_ages g_this) (W_surprisesOf g_this) (W_told g_this)) : TW) (retv h) hP hD dX7_noteSurprise_79
  · replace h := iteF c1 h
    refine lv_iload hx hb dX7_noteSurprise_16 (lv_at hl 0 rfl) ?_
    refine lv_iconst (v := 3) hx hb dX7_noteSurprise_18 (by decide) ?_
    refine lv_iadd hx hb dX7_noteSurprise_19 ?_
    refine lv_aload_n hx hb dX7_noteSurprise_20 rfl (lv_at hl 1 rfl) ?_
    refine gf_X7_45 (v := .ref (a_this 9)) hx hb hqs hown hK hP 0 rfl rfl dX7_noteSurprise_21 ?_
    refine va_alen hx hb hK hP 9 0 rfl rfl (v := (40 : Int32)) rfl dX7_noteSurprise_24 ?_
    refine lv_icmp_ge (tgt := 69) hx hb dX7_noteSurprise_25 (by decide) (fun c2 => ?_) (fun c2 => ?_)
    · replace h := iteT c2 h
      refine lv_aload_n hx hb dX7_noteSurprise_69 rfl (lv_at hl 1 rfl) ?_
      refine lv_dup hx hb dX7_noteSurprise_70 rfl ?_
      refine gf_X7_58 (v := .int (W_surprises g_this)) hx hb hqs hown hK hP 0 rfl rfl dX7_noteSurprise_71 ?_
      refine lv_iconst (v := 1) hx hb dX7_noteSurprise_74 (by decide) ?_
      refine lv_iadd hx hb dX7_noteSurprise_75 ?_
      refine pf_X7_58 hx hb hqs hown hK hP hD hS 0 rfl rfl dX7_noteSurprise_76 (fun H locs hP hD hS => ?_)
      have hP : va_P D vwCl ([(a_this 0, .inr (6, [.int (W_tables g_this), .int (W_weeks g_this), .int (W_runs g_this), .int ((W_surprises g_this) + (1 : Int32)), .ref (a_this 1), .ref (a_this 2), .ref (a_this 3), .ref (a_this 4), .ref (a_this 5), .ref (a_this 6), .ref (a_this 7), .ref (a_this 8), .ref (a_this 9)])), (a_this 1, .inl (dT 1, 4, .inr (.inl (W_sums g_this)))), (a_this 2, .inl (dT 0, 3, .inl (W_settings g_this))), (a_this 3, .inl (dT 0, 7, .inl (W_sizes g_this))), (a_this 4, .inl (dT 0, 21, .inl (W_guesses g_this))), (a_this 5, .inl (dT 0, 21, .inl (W_shares g_this))), (a_this 6, .inl (dT 0, 21, .inl (W_memories g_this))), (a_this 7, .inl (dT 0, 21, .inl (W_ages g_this))), (a_this 8, .inl (dT 0, 21, .inl (W_surprisesOf g_this))), (a_this 9, .inl (dT 0, 40, .inl (W_told g_this)))]) H := hP
      have hD : va_D A ([(a_this 0, .inr (6, [.int (W_tables g_this), .int (W_weeks g_this), .int (W_runs g_this), .int ((W_surprises g_this) + (1 : Int32)), .ref (a_this 1), .ref (a_this 2), .ref (a_this 3), .ref (a_this 4), .ref (a_this 5), .ref (a_this 6), .ref (a_this 7), .ref (a_this 8), .ref (a_this 9)])), (a_this 1, .inl (dT 1, 4, .inr (.inl (W_sums g_this)))), (a_this 2, .inl (dT 0, 3, .inl (W_settings g_this))), (a_this 3, .inl (dT 0, 7, .inl (W_sizes g_this))), (a_this 4, .inl (dT 0, 21, .inl (W_guesses g_this))), (a_this 5, .inl (dT 0, 21, .inl (W_shares g_this))), (a_this 6, .inl (dT 0, 21, .inl (W_memories g_this))), (a_this 7, .inl (dT 0, 21, .inl (W_ages g_this))), (a_this 8, .inl (dT 0, 21, .inl (W_surprisesOf g_this))), (a_this 9, .inl (dT 0, 40, .inl (W_told g_this)))]) := hD
      exact rt_v hx hb hr hlk hK hS ((W_mk (W_tables g_this) (W_weeks g_this) (W_runs g_this) ((W_surprises g_this) + (1 : Int32)) (W_sums g_this) (W_settings g_this) (W_sizes g_this) (W_guesses g_this) (W_shares g_this) (W_memories g_this) (W_ages g_this) (W_surprisesOf g_this) (W_told g_this)) : TW) (retv h) hP hD dX7_noteSurprise_79
    · replace h := iteF c2 h
      refine lv_aload_n hx hb dX7_noteSurprise_28 rfl (lv_at hl 1 rfl) ?_
      refine gf_X7_45 (v := .ref (a_this 9)) hx hb hqs hown hK hP 0 rfl rfl dX7_noteSurprise_29 ?_
      refine lv_iload hx hb dX7_noteSurprise_32 (lv_at hl 0 rfl) ?_
      refine lv_iload_n hx hb dX7_noteSurprise_34 rfl (lv_at hl 2 rfl) ?_
      obtain ⟨g3, h⟩ := chk h
      refine va_iast hx hb hK hP hD hS 9 0 rfl rfl (inb_in g3) dX7_noteSurprise_35 (fun H locs hP hD hS => ?_)
      have hP : va_P D vwCl ([(a_this 0, .inr (6, [.int (W_tables g_this), .int (W_weeks g_this), .int (W_runs g_this), .int (W_surprises g_this), .ref (a_this 1), .ref (a_this 2), .ref (a_this 3), .ref (a_this 4), .ref (a_this 5), .ref (a_this 6), .ref (a_this 7), .ref (a_this 8), .ref (a_this 9)])), (a_this 1, .inl (dT 1, 4, .inr (.inl (W_sums g_this)))), (a_this 2, .inl (dT 0, 3, .inl (W_settings g_this))), (a_this 3, .inl (dT 0, 7, .inl (W_sizes g_this))), (a_this 4, .inl (dT 0, 21, .inl (W_guesses g_this))), (a_this 5, .inl (dT 0, 21, .inl (W_shares g_this))), (a_this 6, .inl (dT 0, 21, .inl (W_memories g_this))), (a_this 7, .inl (dT 0, 21, .inl (W_ages g_this))), (a_this 8, .inl (dT 0, 21, .inl (W_surprisesOf g_this))), (a_this 9, .inl (dT 0, 40, .inl (upd (W_told g_this) (((W_surprises g_this) - (W_surprises g_this) / (10 : Int32) * (10 : Int32)) * (4 : Int32)).toNatClampNeg v1)))]) H := hP
      have hD : va_D A ([(a_this 0, .inr (6, [.int (W_tables g_this), .int (W_weeks g_this), .int (W_runs g_this), .int (W_surprises g_this), .ref (a_this 1), .ref (a_this 2), .ref (a_this 3), .ref (a_this 4), .ref (a_this 5), .ref (a_this 6), .ref (a_this 7), .ref (a_this 8), .ref (a_this 9)])), (a_this 1, .inl (dT 1, 4, .inr (.inl (W_sums g_this)))), (a_this 2, .inl (dT 0, 3, .inl (W_settings g_this))), (a_this 3, .inl (dT 0, 7, .inl (W_sizes g_this))), (a_this 4, .inl (dT 0, 21, .inl (W_guesses g_this))), (a_this 5, .inl (dT 0, 21, .inl (W_shares g_this))), (a_this 6, .inl (dT 0, 21, .inl (W_memories g_this))), (a_this 7, .inl (dT 0, 21, .inl (W_ages g_this))), (a_this 8, .inl (dT 0, 21, .inl (W_surprisesOf g_this))), (a_this 9, .inl (dT 0, 40, .inl (upd (W_told g_this) (((W_surprises g_this) - (W_surprises g_this) / (10 : Int32) * (10 : Int32)) * (4 : Int32)).toNatClampNeg v1)))]) := hD
      refine lv_aload_n hx hb dX7_noteSurprise_36 rfl (lv_at hl 1 rfl) ?_
      refine gf_X7_45 (v := .ref (a_this 9)) hx hb hqs hown hK hP 0 rfl rfl dX7_noteSurprise_37 ?_
      refine lv_iload hx hb dX7_noteSurprise_40 (lv_at hl 0 rfl) ?_
      refine lv_iconst (v := 1) hx hb dX7_noteSurprise_42 (by decide) ?_
      refine lv_iadd hx hb dX7_noteSurprise_43 ?_
      refine lv_iload_n hx hb dX7_noteSurprise_44 rfl (lv_at hl 3 rfl) ?_
      obtain ⟨g4, h⟩ := chk h
      refine va_iast hx hb hK hP hD hS 9 0 rfl rfl (inb_in g4) dX7_noteSurprise_45 (fun H locs hP hD hS => ?_)
      have hP : va_P D vwCl ([(a_this 0, .inr (6, [.int (W_tables g_this), .int (W_weeks g_this), .int (W_runs g_this), .int (W_surprises g_this), .ref (a_this 1), .ref (a_this 2), .ref (a_this 3), .ref (a_this 4), .ref (a_this 5), .ref (a_this 6), .ref (a_this 7), .ref (a_this 8), .ref (a_this 9)])), (a_this 1, .inl (dT 1, 4, .inr (.inl (W_sums g_this)))), (a_this 2, .inl (dT 0, 3, .inl (W_settings g_this))), (a_this 3, .inl (dT 0, 7, .inl (W_sizes g_this))), (a_this 4, .inl (dT 0, 21, .inl (W_guesses g_this))), (a_this 5, .inl (dT 0, 21, .inl (W_shares g_this))), (a_this 6, .inl (dT 0, 21, .inl (W_memories g_this))), (a_this 7, .inl (dT 0, 21, .inl (W_ages g_this))), (a_this 8, .inl (dT 0, 21, .inl (W_surprisesOf g_this))), (a_this 9, .inl (dT 0, 40, .inl (upd (upd (W_told g_this) (((W_surprises g_this) - (W_surprises g_this) / (10 : Int32) * (10 : Int32)) * (4 : Int32)).toNatClampNeg v1) ((((W_surprises g_this) - (W_surprises g_this) / (10 : Int32) * (10 : Int32)) * (4 : Int32)) + (1 : Int32)).toNatClampNeg v2)))]) H := hP
      have hD : va_D A ([(a_this 0, .inr (6, [.int (W_tables g_this), .int (W_weeks g_this), .int (W_runs g_this), .int (W_surprises g_this), .ref (a_this 1), .ref (a_this 2), .ref (a_this 3), .ref (a_this 4), .ref (a_this 5), .ref (a_this 6), .ref (a_this 7), .ref (a_this 8), .ref (a_this 9)])), (a_this 1, .inl (dT 1, 4, .inr (.inl (W_sums g_this)))), (a_this 2, .inl (dT 0, 3, .inl (W_settings g_this))), (a_this 3, .inl (dT 0, 7, .inl (W_sizes g_this))), (a_this 4, .inl (dT 0, 21, .inl (W_guesses g_this))), (a_this 5, .inl (dT 0, 21, .inl (W_shares g_this))), (a_this 6, .inl (dT 0, 21, .inl (W_memories g_this))), (a_this 7, .inl (dT 0, 21, .inl (W_ages g_this))), (a_this 8, .inl (dT 0, 21, .inl (W_surprisesOf g_this))), (a_this 9, .inl (dT 0, 40, .inl (upd (upd (W_told g_this) (((W_surprises g_this) - (W_surprises g_this) / (10 : Int32) * (10 : Int32)) * (4 : Int32)).toNatClampNeg v1) ((((W_surprises g_this) - (W_surprises g_this) / (10 : Int32) * (10 : Int32)) * (4 : Int32)) + (1 : Int32)).toNatClampNeg v2)))]) := hD
      refine lv_aload_n hx hb dX7_noteSurprise_46 rfl (lv_at hl 1 rfl) ?_
      refine gf_X7_45 (v := .ref (a_this 9)) hx hb hqs hown hK hP 0 rfl rfl dX7_noteSurprise_47 ?_
      refine lv_iload hx hb dX7_noteSurprise_50 (lv_at hl 0 rfl) ?_
      refine lv_iconst (v := 2) hx hb dX7_noteSurprise_52 (by decide) ?_
      refine lv_iadd hx hb dX7_noteSurprise_53 ?_
      refine lv_iload_n hx hb dX7_noteSurprise_54 rfl (lv_at hl 4 rfl) ?_
      obtain ⟨g5, h⟩ := chk h
      refine va_iast hx hb hK hP hD hS 9 0 rfl rfl (inb_in g5) dX7_noteSurprise_55 (fun H locs hP hD hS => ?_)
      have hP : va_P D vwCl ([(a_this 0, .inr (6, [.int (W_tables g_this), .int (W_weeks g_this), .int (W_runs g_this), .int (W_surprises g_this), .ref (a_this 1), .ref (a_this 2), .ref (a_this 3), .ref (a_this 4), .ref (a_this 5), .ref (a_this 6), .ref (a_this 7), .ref (a_this 8), .ref (a_this 9)])), (a_this 1, .inl (dT 1, 4, .inr (.inl (W_sums g_this)))), (a_this 2, .inl (dT 0, 3, .inl (W_settings g_this))), (a_this 3, .inl (dT 0, 7, .inl (W_sizes g_this))), (a_this 4, .inl (dT 0, 21, .inl (W_guesses g_this))), (a_this 5, .inl (dT 0, 21, .inl (W_shares g_this))), (a_this 6, .inl (dT 0, 21, .inl (W_memories g_this))), (a_this 7, .inl (dT 0, 21, .inl (W_ages g_this))), (a_this 8, .inl (dT 0, 21, .inl (W_surprisesOf g_this))), (a_this 9, .inl (dT 0, 40, .inl (upd (upd (upd (W_told g_this) (((W_surprises g_this) - (W_surprises g_this) / (10 : Int32) * (10 : Int32)) * (4 : Int32)).toNatClampNeg v1) ((((W_surprises g_this) - (W_surprises g_this) / (10 : Int32) * (10 : Int32)) * (4 : Int32)) + (1 : Int32)).toNatClampNeg v2) ((((W_surprises g_this) - (W_surprises g_this) / (10 : Int32) * (10 : Int32)) * (4 : Int32)) + (2 : Int32)).toNatClampNeg v3)))]) H := hP
      have hD : va_D A ([(a_this 0, .inr (6, [.int (W_tables g_this), .int (W_weeks g_this), .int (W_runs g_this), .int (W_surprises g_this), .ref (a_this 1), .ref (a_this 2), .ref (a_this 3), .ref (a_this 4), .ref (a_this 5), .ref (a_this 6), .ref (a_this 7), .ref (a_this 8), .ref (a_this 9)])), (a_this 1, .inl (dT 1, 4, .inr (.inl (W_sums g_this)))), (a_this 2, .inl (dT 0, 3, .inl (W_settings g_this))), (a_this 3, .inl (dT 0, 7, .inl (W_sizes g_this))), (a_this 4, .inl (dT 0, 21, .inl (W_guesses g_this))), (a_this 5, .inl (dT 0, 21, .inl (W_shares g_this))), (a_this 6, .inl (dT 0, 21, .inl (W_memories g_this))), (a_this 7, .inl (dT 0, 21, .inl (W_ages g_this))), (a_this 8, .inl (dT 0, 21, .inl (W_surprisesOf g_this))), (a_this 9, .inl (dT 0, 40, .inl (upd (upd (upd (W_told g_this) (((W_surprises g_this) - (W_surprises g_this) / (10 : Int32) * (10 : Int32)) * (4 : Int32)).toNatClampNeg v1) ((((W_surprises g_this) - (W_surprises g_this) / (10 : Int32) * (10 : Int32)) * (4 : Int32)) + (1 : Int32)).toNatClampNeg v2) ((((W_surprises g_this) - (W_surprises g_this) / (10 : Int32) * (10 : Int32)) * (4 : Int32)) + (2 : Int32)).toNatClampNeg v3)))]) := hD
      refine lv_aload_n hx hb dX7_noteSurprise_56 rfl (lv_at hl 1 rfl) ?_
      refine gf_X7_45 (v := .ref (a_this 9)) hx hb hqs hown hK hP 0 rfl rfl dX7_noteSurprise_57 ?_
      refine lv_iload hx hb dX7_noteSurprise_60 (lv_at hl 0 rfl) ?_
      refine lv_iconst (v := 3) hx hb dX7_noteSurprise_62 (by decide) ?_
      refine lv_iadd hx hb dX7_noteSurprise_63 ?_
      refine lv_aload_n hx hb dX7_noteSurprise_64 rfl (lv_at hl 1 rfl) ?_
      refine gf_X7_52 (v := .int (W_weeks g_this)) hx hb hqs hown hK hP 0 rfl rfl dX7_noteSurprise_65 ?_
      obtain ⟨g6, h⟩ := chk h
      refine va_iast hx hb hK hP hD hS 9 0 rfl rfl (inb_in g6) dX7_noteSurprise_68 (fun H locs hP hD hS => ?_)
      have hP : va_P D vwCl ([(a_this 0, .inr (6, [.int (W_tables g_this), .int (W_weeks g_this), .int (W_runs g_this), .int (W_surprises g_this), .ref (a_this 1), .ref (a_this 2), .ref (a_this 3), .ref (a_this 4), .ref (a_this 5), .ref (a_this 6), .ref (a_this 7), .ref (a_this 8), .ref (a_this 9)])), (a_this 1, .inl (dT 1, 4, .inr (.inl (W_sums g_this)))), (a_this 2, .inl (dT 0, 3, .inl (W_settings g_this))), (a_this 3, .inl (dT 0, 7, .inl (W_sizes g_this))), (a_this 4, .inl (dT 0, 21, .inl (W_guesses g_this))), (a_this 5, .inl (dT 0, 21, .inl (W_shares g_this))), (a_this 6, .inl (dT 0, 21, .inl (W_memories g_this))), (a_this 7, .inl (dT 0, 21, .inl (W_ages g_this))), (a_this 8, .inl (dT 0, 21, .inl (W_surprisesOf g_this))), (a_this 9, .inl (dT 0, 40, .inl (upd (upd (upd (upd (W_told g_this) (((W_surprises g_this) - (W_surprises g_this) / (10 : Int32) * (10 : Int32)) * (4 : Int32)).toNatClampNeg v1) ((((W_surprises g_this) - (W_surprises g_this) / (10 : Int32) * (10 : Int32)) * (4 : Int32)) + (1 : Int32)).toNatClampNeg v2) ((((W_surprises g_this) - (W_surprises g_this) / (10 : Int32) * (10 : Int32)) * (4 : Int32)) + (2 : Int32)).toNatClampNeg v3) ((((W_surprises g_this) - (W_surprises g_this) / (10 : Int32) * (10 : Int32)) * (4 : Int32)) + (3 : Int32)).toNatClampNeg (W_weeks g_this))))]) H := hP
      have hD : va_D A ([(a_this 0, .inr (6, [.int (W_tables g_this), .int (W_weeks g_this), .int (W_runs g_this), .int (W_surprises g_this), .ref (a_this 1), .ref (a_this 2), .ref (a_this 3), .ref (a_this 4), .ref (a_this 5), .ref (a_this 6), .ref (a_this 7), .ref (a_this 8), .ref (a_this 9)])), (a_this 1, .inl (dT 1, 4, .inr (.inl (W_sums g_this)))), (a_this 2, .inl (dT 0, 3, .inl (W_settings g_this))), (a_this 3, .inl (dT 0, 7, .inl (W_sizes g_this))), (a_this 4, .inl (dT 0, 21, .inl (W_guesses g_this))), (a_this 5, .inl (dT 0, 21, .inl (W_shares g_this))), (a_this 6, .inl (dT 0, 21, .inl (W_memories g_this))), (a_this 7, .inl (dT 0, 21, .inl (W_ages g_this))), (a_this 8, .inl (dT 0, 21, .inl (W_surprisesOf g_this))), (a_this 9, .inl (dT 0, 40, .inl (upd (upd (upd (upd (W_told g_this) (((W_surprises g_this) - (W_surprises g_this) / (10 : Int32) * (10 : Int32)) * (4 : Int32)).toNatClampNeg v1) ((((W_surprises g_this) - (W_surprises g_this) / (10 : Int32) * (10 : Int32)) * (4 : Int32)) + (1 : Int32)).toNatClampNeg v2) ((((W_surprises g_this) - (W_surprises g_this) / (10 : Int32) * (10 : Int32)) * (4 : Int32)) + (2 : Int32)).toNatClampNeg v3) ((((W_surprises g_this) - (W_surprises g_this) / (10 : Int32) * (10 : Int32)) * (4 : Int32)) + (3 : Int32)).toNatClampNeg (W_weeks g_this))))]) := hD
      refine lv_aload_n hx hb dX7_noteSurprise_69 rfl (lv_at hl 1 rfl) ?_
      refine lv_dup hx hb dX7_noteSurprise_70 rfl ?_
      refine gf_X7_58 (v := .int (W_surprises g_this)) hx hb hqs hown hK hP 0 rfl rfl dX7_noteSurprise_71 ?_
      refine lv_iconst (v := 1) hx hb dX7_noteSurprise_74 (by decide) ?_
      refine lv_iadd hx hb dX7_noteSurprise_75 ?_
      refine pf_X7_58 hx hb hqs hown hK hP hD hS 0 rfl rfl dX7_noteSurprise_76 (fun H locs hP hD hS => ?_)
      have hP : va_P D vwCl ([(a_this 0, .inr (6, [.int (W_tables g_this), .int (W_weeks g_this), .int (W_runs g_this), .int ((W_surprises g_this) + (1 : Int32)), .ref (a_this 1), .ref (a_this 2), .ref (a_this 3), .ref (a_this 4), .ref (a_this 5), .ref (a_this 6), .ref (a_this 7), .ref (a_this 8), .ref (a_this 9)])), (a_this 1, .inl (dT 1, 4, .inr (.inl (W_sums g_this)))), (a_this 2, .inl (dT 0, 3, .inl (W_settings g_this))), (a_this 3, .inl (dT 0, 7, .inl (W_sizes g_this))), (a_this 4, .inl (dT 0, 21, .inl (W_guesses g_this))), (a_this 5, .inl (dT 0, 21, .inl (W_shares g_this))), (a_this 6, .inl (dT 0, 21, .inl (W_memories g_this))), (a_this 7, .inl (dT 0, 21, .inl (W_ages g_this))), (a_this 8, .inl (dT 0, 21, .inl (W_surprisesOf g_this))), (a_this 9, .inl (dT 0, 40, .inl (upd (upd (upd (upd (W_told g_this) (((W_surprises g_this) - (W_surprises g_this) / (10 : Int32) * (10 : Int32)) * (4 : Int32)).toNatClampNeg v1) ((((W_surprises g_this) - (W_surprises g_this) / (10 : Int32) * (10 : Int32)) * (4 : Int32)) + (1 : Int32)).toNatClampNeg v2) ((((W_surprises g_this) - (W_surprises g_this) / (10 : Int32) * (10 : Int32)) * (4 : Int32)) + (2 : Int32)).toNatClampNeg v3) ((((W_surprises g_this) - (W_surprises g_this) / (10 : Int32) * (10 : Int32)) * (4 : Int32)) + (3 : Int32)).toNatClampNeg (W_weeks g_this))))]) H := hP
      have hD : va_D A ([(a_this 0, .inr (6, [.int (W_tables g_this), .int (W_weeks g_this), .int (W_runs g_this), .int ((W_surprises g_this) + (1 : Int32)), .ref (a_this 1), .ref (a_this 2), .ref (a_this 3), .ref (a_this 4), .ref (a_this 5), .ref (a_this 6), .ref (a_this 7), .ref (a_this 8), .ref (a_this 9)])), (a_this 1, .inl (dT 1, 4, .inr (.inl (W_sums g_this)))), (a_this 2, .inl (dT 0, 3, .inl (W_settings g_this))), (a_this 3, .inl (dT 0, 7, .inl (W_sizes g_this))), (a_this 4, .inl (dT 0, 21, .inl (W_guesses g_this))), (a_this 5, .inl (dT 0, 21, .inl (W_shares g_this))), (a_this 6, .inl (dT 0, 21, .inl (W_memories g_this))), (a_this 7, .inl (dT 0, 21, .inl (W_ages g_this))), (a_this 8, .inl (dT 0, 21, .inl (W_surprisesOf g_this))), (a_this 9, .inl (dT 0, 40, .inl (upd (upd (upd (upd (W_told g_this) (((W_surprises g_this) - (W_surprises g_this) / (10 : Int32) * (10 : Int32)) * (4 : Int32)).toNatClampNeg v1) ((((W_surprises g_this) - (W_surprises g_this) / (10 : Int32) * (10 : Int32)) * (4 : Int32)) + (1 : Int32)).toNatClampNeg v2) ((((W_surprises g_this) - (W_surprises g_this) / (10 : Int32) * (10 : Int32)) * (4 : Int32)) + (2 : Int32)).toNatClampNeg v3) ((((W_surprises g_this) - (W_surprises g_this) / (10 : Int32) * (10 : Int32)) * (4 : Int32)) + (3 : Int32)).toNatClampNeg (W_weeks g_this))))]) := hD
      exact rt_v hx hb hr hlk hK hS ((W_mk (W_tables g_this) (W_weeks g_this) (W_runs g_this) ((W_surprises g_this) + (1 : Int32)) (W_sums g_this) (W_settings g_this) (W_sizes g_this) (W_guesses g_this) (W_shares g_this) (W_memories g_this) (W_ages g_this) (W_surprisesOf g_this) (upd (upd (upd (upd (W_told g_this) (((W_surprises g_this) - (W_surprises g_this) / (10 : Int32) * (10 : Int32)) * (4 : Int32)).toNatClampNeg v1) ((((W_surprises g_this) - (W_surprises g_this) / (10 : Int32) * (10 : Int32)) * (4 : Int32)) + (1 : Int32)).toNatClampNeg v2) ((((W_surprises g_this) - (W_surprises g_this) / (10 : Int32) * (10 : Int32)) * (4 : Int32)) + (2 : Int32)).toNatClampNeg v3) ((((W_surprises g_this) - (W_surprises g_this) / (10 : Int32) * (10 : Int32)) * (4 : Int32)) + (3 : Int32)).toNatClampNeg (W_weeks g_this))) : TW) (retv h) hP hD dX7_noteSurprise_79

def f_X7_learnPair (g_this : TW) (v1 : Int32) (v2 : Int32) : Option (Unit × (TW)) :=
  ((f_X8_pairIndex v1 v2).bind fun o1 => ((f_X7_isLinked g_this o1.1).bind fun o2 => (if o2.1 = (0 : Int32) then (some ((), g_this)) else (if inb o1.1 21 = true then ((f_X7_differenceOf (W_mk (W_tables g_this) (W_weeks g_this) (W_runs g_this) (W_surprises g_this) (W_sums g_this) (W_settings g_this) (W_sizes g_this) (W_guesses g_this) (W_shares g_this) (W_memories g_this) (upd (W_ages g_this) o1.1.toNatClampNeg (0 : Int32)) (W_surprisesOf g_this) (W_told g_this)) o1.1).bind fun o5 => (if inb (0 : Int32) 3 = true then (if ((W_settings g_this) (0 : Int32).toNatClampNeg) ≤ o5.1 then ((f_X7_shareOf (W_mk (W_tables g_this) (W_weeks g_this) (W_runs g_this) (W_surprises g_this) (W_sums g_this) (W_settings g_this) (W_sizes g_this) (W_guesses g_this) (W_shares g_this) (W_memories g_this) (upd (W_ages g_this) o1.1.toNatClampNeg (0 : Int32)) (W_surprisesOf g_this) (W_told g_this)) o1.1 (1 : Int32)).bind fun o8 => (if inb o1.1 21 = true then ((f_X7_noteSurprise (W_mk (W_tables g_this) (W_weeks g_this) (W_runs g_this) (W_surprises g_this) (W_sums g_this) (W_settings g_this) (W_sizes g_this) (W_guesses g_this) (W_shares g_this) (W_memories g_this) (upd (W_ages g_this) o1.1.toNatClampNeg (0 : Int32)) (W_surprisesOf g_this) (W_told g_this)) (((10 : Int32) * v1) + v2) o8.1 ((W_shares g_this) o1.1.toNatClampNeg)).bind fun o10 => (if inb o1.1 21 = true then (if inb o1.1 21 = true then (if inb (1 : Int32) 3 = true then (if inb o1.1 21 = true then (if ((W_shares o10.2) o1.1.toNatClampNeg) ≤ o8.1 then (if inb o1.1 21 = true then (some ((), (W_mk (W_tables o10.2) (W_weeks o10.2) (W_runs o10.2) (W_surprises o10.2) (W_sums o10.2) (W_settings o10.2) (W_sizes o10.2) (W_guesses o10.2) (W_shares o10.2) (upd (W_memories o10.2) o1.1.toNatClampNeg (o8.1 - (if (1 : Int32) < ((o5.1 * ((W_settings o10.2) (1 : Int32).toNatClampNeg)) / (10 : Int32)) then ((o5.1 * ((W_settings o10.2) (1 : Int32).toNatClampNeg)) / (10 : Int32)) else (1 : Int32)))) (W_ages o10.2) (upd (W_surprisesOf o10.2) o1.1.toNatClampNeg (((W_surprisesOf o10.2) o1.1.toNatClampNeg) + (1 : Int32))) (W_told o10.2)))) else none) else (if inb o1.1 21 = true then (some ((), (W_mk (W_tables o10.2) (W_weeks o10.2) (W_runs o10.2) (W_surprises o10.2) (W_sums o10.2) (W_settings o10.2) (W_sizes o10.2) (W_guesses o10.2) (W_shares o10.2) (upd (W_memories o10.2) o1.1.toNatClampNeg (o8.1 + (if (1 : Int32) < ((o5.1 * ((W_settings o10.2) (1 : Int32).toNatClampNeg)) / (10 : Int32)) then ((o5.1 * ((W_settings o10.2) (1 : Int32).toNatClampNeg)) / (10 : Int32)) else (1 : Int32)))) (W_ages o10.2) (upd (W_surprisesOf o10.2) o1.1.toNatClampNeg (((W_surprisesOf o10.2) o1.1.toNatClampNeg) + (1 : Int32))) (W_told o10.2)))) else none)) else none) else none) else none) else none)) else none)) else (some ((), (W_mk (W_tables g_this) (W_weeks g_this) (W_runs g_this) (W_surprises g_this) (W_sums g_this) (W_settings g_this) (W_sizes g_this) (W_guesses g_this) (W_shares g_this) (W_memories g_this) (upd (W_ages g_this) o1.1.toNatClampNeg (0 : Int32)) (W_surprisesOf g_this) (W_told g_this))))) else none)) else none))))
set_option maxHeartbeats 8000000 in
set_option maxRecDepth 100000 in
theorem c_X7_learnPair (l : Launch) (hlt : l.stackTraces = false) (D : va_G) (dT : Nat → ClassId) (a_this : Nat → Nat) (g_this : TW) (v1 : Int32) (v2 : Int32) (o : (Unit × (TW))) (h : f_X7_learnPair g_this v1 v2 = some o) (sz : Nat) : Met l yX7_learnPair (WSm yX7_learnPair cX7_learnPair 7 none) { frames := 3, cells := 0, slots := 0, locals := 65 } (va_Pc [.ref (a_this 0), .int v1, .int v2] (cPre D dT (cW dT a_this g_this) sz)) (va_Qv (fun (u : TW) => u = o.2) (fun u t => cAt D dT (va_A (cW dT a_this g_this) sz) (cW dT a_this u) t) (va_A (cW dT a_this g_this) sz)) 0 0 (va_A (cW dT a_this g_this) sz) := by
  refine mStart (WS := (cW dT a_this g_this)) (Qc := fun A => va_Qv (fun (u : TW) => u = o.2) (fun u t => cAt D dT A (cW dT a_this u) t) A) RX7 rfl (by decide) (Nat.le_of_ble_eq_true rfl) ?_ sz
  intro p e s m below meth c A ls hx hb hml hr hlk hnm hts hqs hown hE hA hK hP hD hS hl
  have hl : lv_has ls 7 [(0, .ref (a_this 0)), (1, .int v1), (2, .int v2)] := hl
  unfold f_X7_learnPair at h
  refine lv_iload_n hx hb dX7_learnPair_0 rfl (lv_at hl 1 rfl) ?_
  refine lv_iload_n hx hb dX7_learnPair_1 rfl (lv_at hl 2 rfl) ?_
  obtain ⟨o1, e1, h⟩ := obind h
  have hPc := hP.sub (ws' := ([] : va_W)) [] rfl
  have hDc := hD.sub (ws' := ([] : va_W)) [] (by decide) rfl
  have hFc := va_free (wc := ([] : va_W)) hD hS hA [] rfl
  refine cl_i (wr := (cW dT a_this g_this)) (va_runSN (As := [.int v1, .int v2]) (rest := []) ⟨hx, hb, hml, hown, hts⟩ (c_X8_pairIndex l hlt D dT v1 v2 o1 e1 _) ⟨va_cnB 2 hts (TB_in (WSm_in w_384)) rfl rfl rfl (hE.1 (RX7, 114, yX8_pairIndex, RX8) (List.mem_of_getElem? (i := 13) rfl)) (hqs _ w_50) nd_X8_pairIndex ⟨Nat.le_of_ble_eq_true rfl, Nat.le_of_ble_eq_true rfl⟩, hqs _ w_383, trivial⟩ (cPre.S hPc hDc hK hE hS hFc) rfl rfl hl.1 rfl (lv_room (Nat.le_of_ble_eq_true rfl)) dX7_learnPair_2 ⟨Nat.zero_le _, Nat.zero_le _⟩) hP hD hS hFc [] [0, 1, 2, 3, 4, 5, 6, 7, 8, 9] rfl rfl (by decide) (by decide) (fun r1 u1 H locs hw hP hD hS => ?_)
  obtain ⟨rfl, rfl⟩ := hw
  have hP : va_P D vwCl (cW dT a_this g_this) H := hP
  have hD : va_D A (cW dT a_this g_this) := hD
  refine lv_istore_n (lv' := [(3, .int o1.1), (0, .ref (a_this 0)), (1, .int v1), (2, .int v2)]) hx hb dX7_learnPair_5 rfl hl (by decide) rfl (fun ls hl => ?_)
  refine lv_aload_n hx hb dX7_learnPair_6 rfl (lv_at hl 1 rfl) ?_
  refine lv_iload_n hx hb dX7_learnPair_7 rfl (lv_at hl 0 rfl) ?_
  obtain ⟨o2, e2, h⟩ := obind h
  have hPc := hP
  have hDc := hD
  have hFc := vfall hD hS hA
  refine cl_iA (va_runV (As := [.int o1.1]) (rest := []) ⟨hx, hb, hml, hown, hts⟩ (c_X7_isLinked l hlt D dT a_this g_this o1.1 o2 e2 _) (cwV 1 hts (TB_V w_391 w_392 w_393 w_55 w_394) rfl rfl rfl ⟨rfl, nd_X7_isLinked⟩ ⟨Nat.le_of_ble_eq_true rfl, Nat.le_of_ble_eq_true rfl⟩) (cPre.V hPc hDc hK hE hS hFc (va_recv hK hP (ci := 6) (q0 := 0) rfl rfl)) rfl rfl hl.1 rfl (lv_room (Nat.le_of_ble_eq_true rfl)) dX7_learnPair_8 ⟨Nat.zero_le _, Nat.zero_le _⟩) hS hFc (fun r2 u2 H locs hw hP hD hS => ?_)
  obtain ⟨rfl, rfl⟩ := hw
  have hP : va_P D vwCl (cW dT a_this g_this) H := hP
  have hD : va_D A (cW dT a_this g_this) := hD
  refine lv_if_ne (tgt := 15) hx hb dX7_learnPair_11 (by decide) (fun c3 => ?_) (fun c3 => ?_)
  · replace h := iteF c3 h
    refine lv_aload_n hx hb dX7_learnPair_15 rfl (lv_at hl 1 rfl) ?_
    refine gf_X7_39 (v := .ref (a_this 7)) hx hb hqs hown hK hP 0 rfl rfl dX7_learnPair_16 ?_
    refine lv_iload_n hx hb dX7_learnPair_19 rfl (lv_at hl 0 rfl) ?_
    refine lv_iconst (v := 0) hx hb dX7_learnPair_20 (by decide) ?_
    obtain ⟨g4, h⟩ := chk h
    refine va_iast hx hb hK hP hD hS 7 0 rfl rfl (inb_in g4) dX7_learnPair_21 (fun H locs hP hD hS => ?_)
    have hP : va_P D vwCl ([(a_this 0, .inr (6, [.int (W_tables g_this), .int (W_weeks g_this), .int (W_runs g_this), .int (W_surprises g_this), .ref (a_this 1), .ref (a_this 2), .ref (a_this 3), .ref (a_this 4), .ref (a_this 5), .ref (a_this 6), .ref (a_this 7), .ref (a_this 8), .ref (a_this 9)])), (a_this 1, .inl (dT 1, 4, .inr (.inl (W_sums g_this)))), (a_this 2, .inl (dT 0, 3, .inl (W_settings g_this))), (a_this 3, .inl (dT 0, 7, .inl (W_sizes g_this))), (a_this 4, .inl (dT 0, 21, .inl (W_guesses g_this))), (a_this 5, .inl (dT 0, 21, .inl (W_shares g_this))), (a_this 6, .inl (dT 0, 21, .inl (W_memories g_this))), (a_this 7, .inl (dT 0, 21, .inl (upd (W_ages g_this) o1.1.toNatClampNeg (0 : Int32)))), (a_this 8, .inl (dT 0, 21, .inl (W_surprisesOf g_this))), (a_this 9, .inl (dT 0, 40, .inl (W_told g_this)))]) H := hP
    have hD : va_D A ([(a_this 0, .inr (6, [.int (W_tables g_this), .int (W_weeks g_this), .int (W_runs g_this), .int (W_surprises g_this), .ref (a_this 1), .ref (a_this 2), .ref (a_this 3), .ref (a_this 4), .ref (a_this 5), .ref (a_this 6), .ref (a_this 7), .ref (a_this 8), .ref (a_this 9)])), (a_this 1, .inl (dT 1, 4, .inr (.inl (W_sums g_this)))), (a_this 2, .inl (dT 0, 3, .inl (W_settings g_this))), (a_this 3, .inl (dT 0, 7, .inl (W_sizes g_this))), (a_this 4, .inl (dT 0, 21, .inl (W_guesses g_this))), (a_this 5, .inl (dT 0, 21, .inl (W_shares g_this))), (a_this 6, .inl (dT 0, 21, .inl (W_memories g_this))), (a_this 7, .inl (dT 0, 21, .inl (upd (W_ages g_this) o1.1.toNatClampNeg (0 : Int32)))), (a_this 8, .inl (dT 0, 21, .inl (W_surprisesOf g_this))), (a_this 9, .inl (dT 0, 40, .inl (W_told g_this)))]) := hD
    refine lv_aload_n hx hb dX7_learnPair_22 rfl (lv_at hl 1 rfl) ?_
    refine lv_iload_n hx hb dX7_learnPair_23 rfl (lv_at hl 0 rfl) ?_
    obtain ⟨o5, e5, h⟩ := obind h
    have hPc := hP
    have hDc := hD
    have hFc := vfall hD hS hA
    refine cl_iA (va_runV (As := [.int o1.1]) (rest := []) ⟨hx, hb, hml, hown, hts⟩ (c_X7_differenceOf l hlt D dT a_this (W_mk (W_tables g_this) (W_weeks g_this) (W_runs g_this) (W_surprises g_this) (W_sums g_this) (W_settings g_this) (W_sizes g_this) (W_guesses g_this) (W_shares g_this) (W_memories g_this) (upd (W_ages g_this) o1.1.toNatClampNeg (0 : Int32)) (W_surprisesOf g_this) (W_told g_this)) o1.1 o5 e5 _) (cwV 1 hts (TB_V w_396 w_398 w_5 w_55 w_399) rfl rfl rfl ⟨rfl, nd_X7_differenceOf⟩ ⟨Nat.le_of_ble_eq_true rfl, Nat.le_of_ble_eq_true rfl⟩) (cPre.V hPc hDc hK hE hS hFc (va_recv hK hP (ci := 6) (q0 := 0) rfl rfl)) rfl rfl hl.1 rfl (lv_room (Nat.le_of_ble_eq_true rfl)) dX7_learnPair_24 ⟨Nat.zero_le _, Nat.zero_le _⟩) hS hFc (fun r5 u5 H locs hw hP hD hS => ?_)
    obtain ⟨rfl, rfl⟩ := hw
    have hP : va_P D vwCl ([(a_this 0, .inr (6, [.int (W_tables g_this), .int (W_weeks g_this), .int (W_runs g_this), .int (W_surprises g_this), .ref (a_this 1), .ref (a_this 2), .ref (a_this 3), .ref (a_this 4), .ref (a_this 5), .ref (a_this 6), .ref (a_this 7), .ref (a_this 8), .ref (a_this 9)])), (a_this 1, .inl (dT 1, 4, .inr (.inl (W_sums g_this)))), (a_this 2, .inl (dT 0, 3, .inl (W_settings g_this))), (a_this 3, .inl (dT 0, 7, .inl (W_sizes g_this))), (a_this 4, .inl (dT 0, 21, .inl (W_guesses g_this))), (a_this 5, .inl (dT 0, 21, .inl (W_shares g_this))), (a_this 6, .inl (dT 0, 21, .inl (W_memories g_this))), (a_this 7, .inl (dT 0, 21, .inl (upd (W_ages g_this) o1.1.toNatClampNeg (0 : Int32)))), (a_this 8, .inl (dT 0, 21, .inl (W_surprisesOf g_this))), (a_this 9, .inl (dT 0, 40, .inl (W_told g_this)))]) H := hP
    have hD : va_D A ([(a_this 0, .inr (6, [.int (W_tables g_this), .int (W_weeks g_this), .int (W_runs g_this), .int (W_surprises g_this), .ref (a_this 1), .ref (a_this 2), .ref (a_this 3), .ref (a_this 4), .ref (a_this 5), .ref (a_this 6), .ref (a_this 7), .ref (a_this 8), .ref (a_this 9)])), (a_this 1, .inl (dT 1, 4, .inr (.inl (W_sums g_this)))), (a_this 2, .inl (dT 0, 3, .inl (W_settings g_this))), (a_this 3, .inl (dT 0, 7, .inl (W_sizes g_this))), (a_this 4, .inl (dT 0, 21, .inl (W_guesses g_this))), (a_this 5, .inl (dT 0, 21, .inl (W_shares g_this))), (a_this 6, .inl (dT 0, 21, .inl (W_memories g_this))), (a_this 7, .inl (dT 0, 21, .inl (upd (W_ages g_this) o1.1.toNatClampNeg (0 : Int32)))), (a_this 8, .inl (dT 0, 21, .inl (W_surprisesOf g_this))), (a_this 9, .inl (dT 0, 40, .inl (W_told g_this)))]) := hD
    refine lv_istore (lv' := [(4, .int o5.1), (3, .int o1.1), (0, .ref (a_this 0)), (1, .int v1), (2, .int v2)]) hx hb dX7_learnPair_27 hl (by decide) rfl (fun ls hl => ?_)
    refine lv_iload hx hb dX7_learnPair_29 (lv_at hl 0 rfl) ?_
    refine lv_aload_n hx hb dX7_learnPair_31 rfl (lv_at hl 2 rfl) ?_
    refine gf_X7_24 (v := .ref (a_this 2)) hx hb hqs hown hK hP 0 rfl rfl dX7_learnPair_32 ?_
    refine lv_iconst (v := 0) hx hb dX7_learnPair_35 (by decide) ?_
    obtain ⟨g6, h⟩ := chk h
    refine va_iald hx hb hK hP 2 0 rfl rfl (inb_in g6) dX7_learnPair_36 ?_
    refine lv_icmp_ge (tgt := 41) hx hb dX7_learnPair_37 (by decide) (fun c7 => ?_) (fun c7 => ?_)
    · replace h := iteT c7 h
      refine lv_aload_n hx hb dX7_learnPair_41 rfl (lv_at hl 2 rfl) ?_
      refine lv_iload_n hx hb dX7_learnPair_42 rfl (lv_at hl 1 rfl) ?_
      refine lv_iconst (v := 1) hx hb dX7_learnPair_43 (by decide) ?_
      obtain ⟨o8, e8, h⟩ := obind h
      have hPc := hP
      have hDc := hD
      have hFc := vfall hD hS hA
      refine cl_iA (va_runV (As := [.int o1.1, .int (1 : Int32)]) (rest := []) ⟨hx, hb, hml, hown, hts⟩ (c_X7_shareOf l hlt D dT a_this (W_mk (W_tables g_this) (W_weeks g_this) (W_runs g_this) (W_surprises g_this) (W_sums g_this) (W_settings g_this) (W_sizes g_this) (W_guesses g_this) (W_shares g_this) (W_memories g_this) (upd (W_ages g_this) o1.1.toNatClampNeg (0 : Int32)) (W_surprisesOf g_this) (W_told g_this)) o1.1 (1 : Int32) o8 e8 _) (cwV 2 hts (TB_V w_400 w_401 w_402 w_55 w_403) rfl rfl rfl ⟨rfl, nd_X7_shareOf⟩ ⟨Nat.le_of_ble_eq_true rfl, Nat.le_of_ble_eq_true rfl⟩) (cPre.V hPc hDc hK hE hS hFc (va_recv hK hP (ci := 6) (q0 := 0) rfl rfl)) rfl rfl hl.1 rfl (lv_room (Nat.le_of_ble_eq_true rfl)) dX7_learnPair_44 ⟨Nat.zero_le _, Nat.zero_le _⟩) hS hFc (fun r8 u8 H locs hw hP hD hS => ?_)
      obtain ⟨rfl, rfl⟩ := hw
      have hP : va_P D vwCl ([(a_this 0, .inr (6, [.int (W_tables g_this), .int (W_weeks g_this), .int (W_runs g_this), .int (W_surprises g_this), .ref (a_this 1), .ref (a_this 2), .ref (a_this 3), .ref (a_this 4), .ref (a_this 5), .ref (a_this 6), .ref (a_this 7), .ref (a_this 8), .ref (a_this 9)])), (a_this 1, .inl (dT 1, 4, .inr (.inl (W_sums g_this)))), (a_this 2, .inl (dT 0, 3, .inl (W_settings g_this))), (a_this 3, .inl (dT 0, 7, .inl (W_sizes g_this))), (a_this 4, .inl (dT 0, 21, .inl (W_guesses g_this))), (a_this 5, .inl (dT 0, 21, .inl (W_shares g_this))), (a_this 6, .inl (dT 0, 21, .inl (W_memories g_this))), (a_this 7, .inl (dT 0, 21, .inl (upd (W_ages g_this) o1.1.toNatClampNeg (0 : Int32)))), (a_this 8, .inl (dT 0, 21, .inl (W_surprisesOf g_this))), (a_this 9, .inl (dT 0, 40, .inl (W_told g_this)))]) H := hP
      have hD : va_D A ([(a_this 0, .inr (6, [.int (W_tables g_this), .int (W_weeks g_this), .int (W_runs g_this), .int (W_surprises g_this), .ref (a_this 1), .ref (a_this 2), .ref (a_this 3), .ref (a_this 4), .ref (a_this 5), .ref (a_this 6), .ref (a_this 7), .ref (a_this 8), .ref (a_this 9)])), (a_this 1, .inl (dT 1, 4, .inr (.inl (W_sums g_this)))), (a_this 2, .inl (dT 0, 3, .inl (W_settings g_this))), (a_this 3, .inl (dT 0, 7, .inl (W_sizes g_this))), (a_this 4, .inl (dT 0, 21, .inl (W_guesses g_this))), (a_this 5, .inl (dT 0, 21, .inl (W_shares g_this))), (a_this 6, .inl (dT 0, 21, .inl (W_memories g_this))), (a_this 7, .inl (dT 0, 21, .inl (upd (W_ages g_this) o1.1.toNatClampNeg (0 : Int32)))), (a_this 8, .inl (dT 0, 21, .inl (W_surprisesOf g_this))), (a_this 9, .inl (dT 0, 40, .inl (W_told g_this)))]) := hD
      refine lv_istore (lv' := [(5, .int o8.1), (4, .int o5.1), (3, .int o1.1), (0, .ref (a_this 0)), (1, .int v1), (2, .int v2)]) hx hb dX7_learnPair_47 hl (by decide) rfl (fun ls hl => ?_)
      refine lv_aload_n hx hb dX7_learnPair_49 rfl (lv_at hl 3 rfl) ?_
      refine lv_bipush (v := 10) hx hb dX7_learnPair_50 (by decide) ?_
      refine lv_iload_n hx hb dX7_learnPair_52 rfl (lv_at hl 4 rfl) ?_
      refine lv_imul hx hb dX7_learnPair_53 ?_
      refine lv_iload_n hx hb dX7_learnPair_54 rfl (lv_at hl 5 rfl) ?_
      refine lv_iadd hx hb dX7_learnPair_55 ?_
      refine lv_iload hx hb dX7_learnPair_56 (lv_at hl 0 rfl) ?_
      refine lv_aload_n hx hb dX7_learnPair_58 rfl (lv_at hl 3 rfl) ?_
      refine gf_X7_33 (v := .ref (a_this 5)) hx hb hqs hown hK hP 0 rfl rfl dX7_learnPair_59 ?_
      refine lv_iload_n hx hb dX7_learnPair_62 rfl (lv_at hl 2 rfl) ?_
      obtain ⟨g9, h⟩ := chk h
      refine va_iald hx hb hK hP 5 0 rfl rfl (inb_in g9) dX7_learnPair_63 ?_
      obtain ⟨o10, e10, h⟩ := obind h
      have hPc := hP
      have hDc := hD
      have hFc := vfall hD hS hA
      refine cl_vA (va_runV (As := [.int (((10 : Int32) * v1) + v2), .int o8.1, .int ((W_shares g_this) o1.1.toNatClampNeg)]) (rest := []) ⟨hx, hb, hml, hown, hts⟩ (c_X7_noteSurprise l hlt D dT a_this (W_mk (W_tables g_this) (W_weeks g_this) (W_runs g_this) (W_surprises g_this) (W_sums g_this) (W_settings g_this) (W_sizes g_this) (W_guesses g_this) (W_shares g_this) (W_memories g_this) (upd (W_ages g_this) o1.1.toNatClampNeg (0 : Int32)) (W_surprisesOf g_this) (W_told g_this)) (((10 : Int32) * v1) + v2) o8.1 ((W_shares g_this) o1.1.toNatClampNeg) o10 e10 _) (cwV 3 hts (TB_V w_838 w_840 w_24 w_55 w_841) rfl rfl rfl ⟨rfl, nd_X7_noteSurprise⟩ ⟨Nat.le_of_ble_eq_true rfl, Nat.le_of_ble_eq_true rfl⟩) (cPre.V hPc hDc hK hE hS hFc (va_recv hK hP (ci := 6) (q0 := 0) rfl rfl)) rfl rfl hl.1 rfl (lv_room (Nat.le_of_ble_eq_true rfl)) dX7_learnPair_64 ⟨Nat.zero_le _, Nat.zero_le _⟩) hS hFc (fun u10 H locs hw hP hD hS => ?_)
      subst hw
      have hP : va_P D vwCl (cW dT a_this o10.2) H := hP
      have hD : va_D A (cW dT a_this o10.2) := hD
      refine lv_aload_n hx hb dX7_learnPair_67 rfl (lv_at hl 3 rfl) ?_
      refine gf_X7_42 (v := .ref (a_this 8)) hx hb hqs hown hK hP 0 rfl rfl dX7_learnPair_68 ?_
      refine lv_iload_n hx hb dX7_learnPair_71 rfl (lv_at hl 2 rfl) ?_
      refine lv_dup2_11 hx hb dX7_learnPair_72 rfl rfl ?_
      obtain ⟨g11, h⟩ := chk h
      refine va_iald hx hb hK hP 8 0 rfl rfl (inb_in g11) dX7_learnPair_73 ?_
      refine lv_iconst (v := 1) hx hb dX7_learnPair_74 (by decide) ?_
      refine lv_iadd hx hb dX7_learnPair_75 ?_
      obtain ⟨g12, h⟩ := chk h
      refine va_iast hx hb hK hP hD hS 8 0 rfl rfl (inb_in g12) dX7_learnPair_76 (fun H locs hP hD hS => ?_)
      have hP : va_P D vwCl ([(a_this 0, .inr (6, [.int (W_tables o10.2), .int (W_weeks o10.2), .int (W_runs o10.2), .int (W_surprises o10.2), .ref (a_this 1), .ref (a_this 2), .ref (a_this 3), .ref (a_this 4), .ref (a_this 5), .ref (a_this 6), .ref (a_this 7), .ref (a_this 8), .ref (a_this 9)])), (a_this 1, .inl (dT 1, 4, .inr (.inl (W_sums o10.2)))), (a_this 2, .inl (dT 0, 3, .inl (W_settings o10.2))), (a_this 3, .inl (dT 0, 7, .inl (W_sizes o10.2))), (a_this 4, .inl (dT 0, 21, .inl (W_guesses o10.2))), (a_this 5, .inl (dT 0, 21, .inl (W_shares o10.2))), (a_this 6, .inl (dT 0, 21, .inl (W_memories o10.2))), (a_this 7, .inl (dT 0, 21, .inl (W_ages o10.2))), (a_this 8, .inl (dT 0, 21, .inl (upd (W_surprisesOf o10.2) o1.1.toNatClampNeg (((W_surprisesOf o10.2) o1.1.toNatClampNeg) + (1 : Int32))))), (a_this 9, .inl (dT 0, 40, .inl (W_told o10.2)))]) H := hP
      have hD : va_D A ([(a_this 0, .inr (6, [.int (W_tables o10.2), .int (W_weeks o10.2), .int (W_runs o10.2), .int (W_surprises o10.2), .ref (a_this 1), .ref (a_this 2), .ref (a_this 3), .ref (a_this 4), .ref (a_this 5), .ref (a_this 6), .ref (a_this 7), .ref (a_this 8), .ref (a_this 9)])), (a_this 1, .inl (dT 1, 4, .inr (.inl (W_sums o10.2)))), (a_this 2, .inl (dT 0, 3, .inl (W_settings o10.2))), (a_this 3, .inl (dT 0, 7, .inl (W_sizes o10.2))), (a_this 4, .inl (dT 0, 21, .inl (W_guesses o10.2))), (a_this 5, .inl (dT 0, 21, .inl (W_shares o10.2))), (a_this 6, .inl (dT 0, 21, .inl (W_memories o10.2))), (a_this 7, .inl (dT 0, 21, .inl (W_ages o10.2))), (a_this 8, .inl (dT 0, 21, .inl (upd (W_surprisesOf o10.2) o1.1.toNatClampNeg (((W_surprisesOf o10.2) o1.1.toNatClampNeg) + (1 : Int32))))), (a_this 9, .inl (dT 0, 40, .inl (W_told o10.2)))]) := hD
      refine lv_iconst (v := 1) hx hb dX7_learnPair_77 (by decide) ?_
      refine lv_iload hx hb dX7_learnPair_78 (lv_at hl 1 rfl) ?_
      refine lv_aload_n hx hb dX7_learnPair_80 rfl (lv_at hl 3 rfl) ?_
      refine gf_X7_24 (v := .ref (a_this 2)) hx hb hqs hown hK hP 0 rfl rfl dX7_learnPair_81 ?_
      refine lv_iconst (v := 1) hx hb dX7_learnPair_84 (by decide) ?_
      obtain ⟨g13, h⟩ := chk h
      refine va_iald hx hb hK hP 2 0 rfl rfl (inb_in g13) dX7_learnPair_85 ?_
      refine lv_imul hx hb dX7_learnPair_86 ?_
      refine lv_bipush (v := 10) hx hb dX7_learnPair_87 (by decide) ?_
      refine lv_idiv hx hb dX7_learnPair_89 (by decide) ?_
      refine va_mmax hx hb (hml.trans hl.1.symm) hown (hqs _ w_842) (hqs _ w_389) (hqs _ w_66) (hqs _ w_390) (Nat.le_of_ble_eq_true rfl) (Nat.le_of_ble_eq_true rfl) (Nat.le_of_ble_eq_true rfl) (Nat.le_of_ble_eq_true rfl) dX7_learnPair_90 ?_
      refine lv_istore (lv' := [(6, .int (if (1 : Int32) < ((o5.1 * ((W_settings o10.2) (1 : Int32).toNatClampNeg)) / (10 : Int32)) then ((o5.1 * ((W_settings o10.2) (1 : Int32).toNatClampNeg)) / (10 : Int32)) else (1 : Int32))), (5, .int o8.1), (4, .int o5.1), (3, .int o1.1), (0, .ref (a_this 0)), (1, .int v1), (2, .int v2)]) hx hb dX7_learnPair_93 hl (by decide) rfl (fun ls hl => ?_)
      refine lv_aload_n hx hb dX7_learnPair_95 rfl (lv_at hl 4 rfl) ?_
      refine gf_X7_36 (v := .ref (a_this 6)) hx hb hqs hown hK hP 0 rfl rfl dX7_learnPair_96 ?_
      refine lv_iload_n hx hb dX7_learnPair_99 rfl (lv_at hl 3 rfl) ?_
      refine lv_iload hx hb dX7_learnPair_100 (lv_at hl 1 rfl) ?_
      refine lv_aload_n hx hb dX7_learnPair_102 rfl (lv_at hl 4 rfl) ?_
      refine gf_X7_33 (v := .ref (a_this 5)) hx hb hqs hown hK hP 0 rfl rfl dX7_learnPair_103 ?_
      refine lv_iload_n hx hb dX7_learnPair_106 rfl (lv_at hl 3 rfl) ?_
      obtain ⟨g14, h⟩ := chk h
      refine va_iald hx hb hK hP 5 0 rfl rfl (inb_in g14) dX7_learnPair_107 ?_
      refine lv_icmp_ge (tgt := 119) hx hb dX7_learnPair_108 (by decide) (fun c15 => ?_) (fun c15 => ?_)
      · replace h := iteT c15 h
        refine lv_iload hx hb dX7_learnPair_119 (lv_at hl 1 rfl) ?_
        refine lv_iload hx hb dX7_learnPair_121 (lv_at hl 0 rfl) ?_
        refine lv_isub hx hb dX7_learnPair_123 ?_
        obtain ⟨g16, h⟩ := chk h
        refine va_iast hx hb hK hP hD hS 6 0 rfl rfl (inb_in g16) dX7_learnPair_124 (fun H locs hP hD hS => ?_)
        have hP : va_P D vwCl ([(a_this 0, .inr (6, [.int (W_tables o10.2), .int (W_weeks o10.2), .int (W_runs o10.2), .int (W_surprises o10.2), .ref (a_this 1), .ref (a_this 2), .ref (a_this 3), .ref (a_this 4), .ref (a_this 5), .ref (a_this 6), .ref (a_this 7), .ref (a_this 8), .ref (a_this 9)])), (a_this 1, .inl (dT 1, 4, .inr (.inl (W_sums o10.2)))), (a_this 2, .inl (dT 0, 3, .inl (W_settings o10.2))), (a_this 3, .inl (dT 0, 7, .inl (W_sizes o10.2))), (a_this 4, .inl (dT 0, 21, .inl (W_guesses o10.2))), (a_this 5, .inl (dT 0, 21, .inl (W_shares o10.2))), (a_this 6, .inl (dT 0, 21, .inl (upd (W_memories o10.2) o1.1.toNatClampNeg (o8.1 - (if (1 : Int32) < ((o5.1 * ((W_settings o10.2) (1 : Int32).toNatClampNeg)) / (10 : Int32)) then ((o5.1 * ((W_settings o10.2) (1 : Int32).toNatClampNeg)) / (10 : Int32)) else (1 : Int32)))))), (a_this 7, .inl (dT 0, 21, .inl (W_ages o10.2))), (a_this 8, .inl (dT 0, 21, .inl (upd (W_surprisesOf o10.2) o1.1.toNatClampNeg (((W_surprisesOf o10.2) o1.1.toNatClampNeg) + (1 : Int32))))), (a_this 9, .inl (dT 0, 40, .inl (W_told o10.2)))]) H := hP
        have hD : va_D A ([(a_this 0, .inr (6, [.int (W_tables o10.2), .int (W_weeks o10.2), .int (W_runs o10.2), .int (W_surprises o10.2), .ref (a_this 1), .ref (a_this 2), .ref (a_this 3), .ref (a_this 4), .ref (a_this 5), .ref (a_this 6), .ref (a_this 7), .ref (a_this 8), .ref (a_this 9)])), (a_this 1, .inl (dT 1, 4, .inr (.inl (W_sums o10.2)))), (a_this 2, .inl (dT 0, 3, .inl (W_settings o10.2))), (a_this 3, .inl (dT 0, 7, .inl (W_sizes o10.2))), (a_this 4, .inl (dT 0, 21, .inl (W_guesses o10.2))), (a_this 5, .inl (dT 0, 21, .inl (W_shares o10.2))), (a_this 6, .inl (dT 0, 21, .inl (upd (W_memories o10.2) o1.1.toNatClampNeg (o8.1 - (if (1 : Int32) < ((o5.1 * ((W_settings o10.2) (1 : Int32).toNatClampNeg)) / (10 : Int32)) then ((o5.1 * ((W_settings o10.2) (1 : Int32).toNatClampNeg)) / (10 : Int32)) else (1 : Int32)))))), (a_this 7, .inl (dT 0, 21, .inl (W_ages o10.2))), (a_this 8, .inl (dT 0, 21, .inl (upd (W_surprisesOf o10.2) o1.1.toNatClampNeg (((W_surprisesOf o10.2) o1.1.toNatClampNeg) + (1 : Int32))))), (a_this 9, .inl (dT 0, 40, .inl (W_told o10.2)))]) := hD
        exact rt_v hx hb hr hlk hK hS ((W_mk (W_tables o10.2) (W_weeks o10.2) (W_runs o10.2) (W_surprises o10.2) (W_sums o10.2) (W_settings o10.2) (W_sizes o10.2) (W_guesses o10.2) (W_shares o10.2) (upd (W_memories o10.2) o1.1.toNatClampNeg (o8.1 - (if (1 : Int32) < ((o5.1 * ((W_settings o10.2) (1 : Int32).toNatClampNeg)) / (10 : Int32)) then ((o5.1 * ((W_settings o10.2) (1 : Int32).toNatClampNeg)) / (10 : Int32)) else (1 : Int32)))) (W_ages o10.2) (upd (W_surprisesOf o10.2) o1.1.toNatClampNeg (((W_surprisesOf o10.2) o1.1.toNatClampNeg) + (1 : Int32))) (W_told o10.2)) : TW) (retv h) hP hD dX7_learnPair_125
      · replace h := iteF c15 h
        refine lv_iload hx hb dX7_learnPair_111 (lv_at hl 1 rfl) ?_
        refine lv_iload hx hb dX7_learnPair_113 (lv_at hl 0 rfl) ?_
        refine lv_iadd hx hb dX7_learnPair_115 ?_
        refine lv_goto (tgt := 124) hx hb dX7_learnPair_116 (by decide) ?_
        obtain ⟨g17, h⟩ := chk h
        refine va_iast hx hb hK hP hD hS 6 0 rfl rfl (inb_in g17) dX7_learnPair_124 (fun H locs hP hD hS => ?_)
        have hP : va_P D vwCl ([(a_this 0, .inr (6, [.int (W_tables o10.2), .int (W_weeks o10.2), .int (W_runs o10.2), .int (W_surprises o10.2), .ref (a_this 1), .ref (a_this 2), .ref (a_this 3), .ref (a_this 4), .ref (a_this 5), .ref (a_this 6), .ref (a_this 7), .ref (a_this 8), .ref (a_this 9)])), (a_this 1, .inl (dT 1, 4, .inr (.inl (W_sums o10.2)))), (a_this 2, .inl (dT 0, 3, .inl (W_settings o10.2))), (a_this 3, .inl (dT 0, 7, .inl (W_sizes o10.2))), (a_this 4, .inl (dT 0, 21, .inl (W_guesses o10.2))), (a_this 5, .inl (dT 0, 21, .inl (W_shares o10.2))), (a_this 6, .inl (dT 0, 21, .inl (upd (W_memories o10.2) o1.1.toNatClampNeg (o8.1 + (if (1 : Int32) < ((o5.1 * ((W_settings o10.2) (1 : Int32).toNatClampNeg)) / (10 : Int32)) then ((o5.1 * ((W_settings o10.2) (1 : Int32).toNatClampNeg)) / (10 : Int32)) else (1 : Int32)))))), (a_this 7, .inl (dT 0, 21, .inl (W_ages o10.2))), (a_this 8, .inl (dT 0, 21, .inl (upd (W_surprisesOf o10.2) o1.1.toNatClampNeg (((W_surprisesOf o10.2) o1.1.toNatClampNeg) + (1 : Int32))))), (a_this 9, .inl (dT 0, 40, .inl (W_told o10.2)))]) H := hP
        have hD : va_D A ([(a_this 0, .inr (6, [.int (W_tables o10.2), .int (W_weeks o10.2), .int (W_runs o10.2), .int (W_surprises o10.2), .ref (a_this 1), .ref (a_this 2), .ref (a_this 3), .ref (a_this 4), .ref (a_this 5), .ref (a_this 6), .ref (a_this 7), .ref (a_this 8), .ref (a_this 9)])), (a_this 1, .inl (dT 1, 4, .inr (.inl (W_sums o10.2)))), (a_this 2, .inl (dT 0, 3, .inl (W_settings o10.2))), (a_this 3, .inl (dT 0, 7, .inl (W_sizes o10.2))), (a_this 4, .inl (dT 0, 21, .inl (W_guesses o10.2))), (a_this 5, .inl (dT 0, 21, .inl (W_shares o10.2))), (a_this 6, .inl (dT 0, 21, .inl (upd (W_memories o10.2) o1.1.toNatClampNeg (o8.1 + (if (1 : Int32) < ((o5.1 * ((W_settings o10.2) (1 : Int32).toNatClampNeg)) / (10 : Int32)) then ((o5.1 * ((W_settings o10.2) (1 : Int32).toNatClampNeg)) / (10 : Int32)) else (1 : Int32)))))), (a_this 7, .inl (dT 0, 21, .inl (W_ages o10.2))), (a_this 8, .inl (dT 0, 21, .inl (upd (W_surprisesOf o10.2) o1.1.toNatClampNeg (((W_surprisesOf o10.2) o1.1.toNatClampNeg) + (1 : Int32))))), (a_this 9, .inl (dT 0, 40, .inl (W_told o10.2)))]) := hD
        exact rt_v hx hb hr hlk hK hS ((W_mk (W_tables o10.2) (W_weeks o10.2) (W_runs o10.2) (W_surprises o10.2) (W_sums o10.2) (W_settings o10.2) (W_sizes o10.2) (W_guesses o10.2) (W_shares o10.2) (upd (W_memories o10.2) o1.1.toNatClampNeg (o8.1 + (if (1 : Int32) < ((o5.1 * ((W_settings o10.2) (1 : Int32).toNatClampNeg)) / (10 : Int32)) then ((o5.1 * ((W_settings o10.2) (1 : Int32).toNatClampNeg)) / (10 : Int32)) else (1 : Int32)))) (W_ages o10.2) (upd (W_surprisesOf o10.2) o1.1.toNatClampNeg (((W_surprisesOf o10.2) o1.1.toNatClampNeg) + (1 : Int32))) (W_told o10.2)) : TW) (retv h) hP hD dX7_learnPair_125
    · replace h := iteF c7 h
      exact rt_v hx hb hr hlk hK hS ((W_mk (W_tables g_this) (W_weeks g_this) (W_runs g_this) (W_surprises g_this) (W_sums g_this) (W_settings g_this) (W_sizes g_this) (W_guesses g_this) (W_shares g_this) (W_memories g_this) (upd (W_ages g_this) o1.1.toNatClampNeg (0 : Int32)) (W_surprisesOf g_this) (W_told g_this)) : TW) (retv h) hP hD dX7_learnPair_40
  · replace h := iteT c3 h
    exact rt_v hx hb hr hlk hK hS (g_this : TW) (retv h) hP hD dX7_learnPair_14

def f_X7_learn_L18 (x1 : Int32) (x2 : Int32) (x3 : Int32) (k55 : TW → Option (Int32 × (TW))) : Nat → Int32 → TW → Option (Int32 × (TW))
  | 0, _, _ => none
  | n + 1, x4, g_this =>
    (if (7 : Int32) ≤ x4 then (k55 g_this) else ((f_X8_holds x1 x3).bind fun o3 => (if o3.1 = (0 : Int32) then (f_X7_learn_L18 x1 x2 x3 k55 n (x4 + (1 : Int32)) g_this) else ((f_X8_holds x1 x4).bind fun o5 => (if o5.1 = (0 : Int32) then (f_X7_learn_L18 x1 x2 x3 k55 n (x4 + (1 : Int32)) g_this) else ((f_X7_learnPair g_this x3 x4).bind fun o7 => (f_X7_learn_L18 x1 x2 x3 k55 n (x4 + (1 : Int32)) o7.2)))))))
def f_X7_learn_L7 (x1 : Int32) (x2 : Int32)  : Nat → Int32 → TW → Option (Int32 × (TW))
  | 0, _, _ => none
  | n + 1, x3, g_this =>
    (if (7 : Int32) ≤ x3 then (some (((W_surprises g_this) - x2), g_this)) else (f_X7_learn_L18 x1 x2 x3 (fun (y8g_this : TW) => (f_X7_learn_L7 x1 x2 n (x3 + (1 : Int32)) y8g_this)) FUEL (x3 + (1 : Int32)) g_this))
def f_X7_learn (g_this : TW) (v1 : Int32) : Option (Int32 × (TW)) :=
  (f_X7_learn_L7 v1 (W_surprises g_this) FUEL (0 : Int32) g_this)
set_option maxHeartbeats 8000000 in
set_option maxRecDepth 100000 in
theorem c_X7_learn (l : Launch) (hlt : l.stackTraces = false) (D : va_G) (dT : Nat → ClassId) (a_this : Nat → Nat) (g_this : TW) (v1 : Int32) (o : (Int32 × (TW))) (h : f_X7_learn g_this v1 = some o) (sz : Nat) : Met l yX7_learn (WSm yX7_learn cX7_learn 5 (some .int)) { frames := 4, cells := 0, slots := 0, locals := 91 } (va_Pc [.ref (a_this 0), .int v1] (cPre D dT (cW dT a_this g_this) sz)) (va_Qi (fun (r : Int32) (u : TW) => r = o.1 ∧ u = o.2) (fun u t => cAt D dT (va_A (cW dT a_this g_this) sz) (cW dT a_this u) t) (va_A (cW dT a_this g_this) sz)) 0 0 (va_A (cW dT a_this g_this) sz) := by
  refine mStart (WS := (cW dT a_this g_this)) (Qc := fun A => va_Qi (fun (r : Int32) (u : TW) => r = o.1 ∧ u = o.2) (fun u t => cAt D dT A (cW dT a_this u) t) A) RX7 rfl (by decide) (Nat.le_of_ble_eq_true rfl) ?_ sz
  intro p e s m below meth c A ls hx hb hml hr hlk hnm hts hqs hown hE hA hK hP hD hS hl
  have hl : lv_has ls 5 [(0, .ref (a_this 0)), (1, .int v1)] := hl
  have L_f_X7_learn_L18 : ∀ (x1 : Int32) (x2 : Int32) (x3 : Int32) (k55 : TW → Option (Int32 × (TW))) (hk55 : ∀ (g_this : TW) (H : Heap) (locs : List Loc) (ls : Array Slot), k55 g_this = some o → va_P D vwCl (cW dT a_this g_this) H → va_D A (cW dT a_this g_this) → va_S A s.heap H locs → lv_has ls 5 [(0, .ref (a_this 0)), (1, .int x1), (2, .int x2), (3, .int x3)] → W p l e (headSpec (WSm yX7_learn cX7_learn 5 (some .int)) { frames := 4, cells := 0, slots := 0, locals := 91 }).room s m [.ref (a_this 0), .int v1].toArray below meth c H locs 0 0 (MQ below (va_Qi (fun (r : Int32) (u : TW) => r = o.1 ∧ u = o.2) (fun u t => cAt D dT A (cW dT a_this u) t) A) [.ref (a_this 0), .int v1].toArray s 0 0 A) (F0 m 55 ls [])) (n : Nat), ∀ (x4 : Int32) (g_this : TW) (H : Heap) (locs : List Loc) (ls : Array Slot), f_X7_learn_L18 x1 x2 x3 k55 n x4 g_this = some o → va_P D vwCl (cW dT a_this g_this) H → va_D A (cW dT a_this g_this) → va_S A s.heap H locs → lv_has ls 5 [(0, .ref (a_this 0)), (1, .int x1), (2, .int x2), (3, .int x3), (4, .int x4)] → W p l e (headSpec (WSm yX7_learn cX7_learn 5 (some .int)) { frames := 4, cells := 0, slots := 0, locals := 91 }).room s m [.ref (a_this 0), .int v1].toArray below meth c H locs 0 0 (MQ below (va_Qi (fun (r : Int32) (u : TW) => r = o.1 ∧ u = o.2) (fun u t => cAt D dT A (cW dT a_this u) t) A) [.ref (a_this 0), .int v1].toArray s 0 0 A) (F0 m 18 ls []) := by
    intro x1 x2 x3 k55 hk55 n
    induction n with
    | zero => intro x4 g_this H locs ls h; exact nomatch h
    | succ n ih =>
      intro x4 g_this H locs ls h hP hD hS hl
      unfold f_X7_learn_L18 at h
      refine lv_iload hx hb dX7_learn_18 (lv_at hl 4 rfl) ?_
      refine lv_bipush (v := 7) hx hb dX7_learn_20 (by decide) ?_
      refine lv_icmp_ge (tgt := 55) hx hb dX7_learn_22 (by decide) (fun c2 => ?_) (fun c2 => ?_)
      · replace h := iteT c2 h
        exact hk55 g_this _ _ _ h hP hD hS (lv_sub hl [0, 1, 2, 3] rfl)
      · replace h := iteF c2 h
        refine lv_iload_n hx hb dX7_learn_25 rfl (lv_at hl 1 rfl) ?_
        refine lv_iload_n hx hb dX7_learn_26 rfl (lv_at hl 3 rfl) ?_
        obtain ⟨o3, e3, h⟩ := obind h
        have hPc := hP.sub (ws' := ([] : va_W)) [] rfl
        have hDc := hD.sub (ws' := ([] : va_W)) [] (by decide) rfl
        have hFc := va_free (wc := ([] : va_W)) hD hS hA [] rfl
        refine cl_i (wr := (cW dT a_this g_this)) (va_runSN (As := [.int x1, .int x3]) (rest := []) ⟨hx, hb, hml, hown, hts⟩ (c_X8_holds l hlt D dT x1 x3 o3 e3 _) ⟨va_cnB 2 hts (TB_in (WSm_in w_366)) rfl rfl rfl (hE.1 (RX7, 106, yX8_holds, RX8) (List.mem_of_getElem? (i := 16) rfl)) (hqs _ w_50) nd_X8_holds ⟨Nat.le_of_ble_eq_true rfl, Nat.le_of_ble_eq_true rfl⟩, hqs _ w_365, trivial⟩ (cPre.S hPc hDc hK hE hS hFc) rfl rfl hl.1 rfl (lv_room (Nat.le_of_ble_eq_true rfl)) dX7_learn_27 ⟨Nat.zero_le _, Nat.zero_le _⟩) hP hD hS hFc [] [0, 1, 2, 3, 4, 5, 6, 7, 8, 9] rfl rfl (by decide) (by decide) (fun r3 u3 H locs hw hP hD hS => ?_)
        obtain ⟨rfl, rfl⟩ := hw
        have hP : va_P D vwCl (cW dT a_this g_this) H := hP
        have hD : va_D A (cW dT a_this g_this) := hD
        refine lv_if_eq (tgt := 49) hx hb dX7_learn_30 (by decide) (fun c4 => ?_) (fun c4 => ?_)
        · replace h := iteT c4 h
          refine lv_iinc (v := (x4 + (1 : Int32))) (lv' := [(4, .int (x4 + (1 : Int32))), (0, .ref (a_this 0)), (1, .int x1), (2, .int x2), (3, .int x3)]) hx hb dX7_learn_49 hl (k := 4) rfl rfl (by decide) rfl (fun ls hl => ?_)
          refine lv_goto (tgt := 18) hx hb dX7_learn_52 (by decide) ?_
          exact ih (x4 + (1 : Int32)) g_this _ _ _ h hP hD hS (lv_sub hl [1, 2, 3, 4, 0] rfl)
        · replace h := iteF c4 h
          refine lv_iload_n hx hb dX7_learn_33 rfl (lv_at hl 1 rfl) ?_
          refine lv_iload hx hb dX7_learn_34 (lv_at hl 4 rfl) ?_
          obtain ⟨o5, e5, h⟩ := obind h
          have hPc := hP.sub (ws' := ([] : va_W)) [] rfl
          have hDc := hD.sub (ws' := ([] : va_W)) [] (by decide) rfl
          have hFc := va_free (wc := ([] : va_W)) hD hS hA [] rfl
          refine cl_i (wr := (cW dT a_this g_this)) (va_runSN (As := [.int x1, .int x4]) (rest := []) ⟨hx, hb, hml, hown, hts⟩ (c_X8_holds l hlt D dT x1 x4 o5 e5 _) ⟨va_cnB 2 hts (TB_in (WSm_in w_366)) rfl rfl rfl (hE.1 (RX7, 106, yX8_holds, RX8) (List.mem_of_getElem? (i := 16) rfl)) (hqs _ w_50) nd_X8_holds ⟨Nat.le_of_ble_eq_true rfl, Nat.le_of_ble_eq_true rfl⟩, hqs _ w_365, trivial⟩ (cPre.S hPc hDc hK hE hS hFc) rfl rfl hl.1 rfl (lv_room (Nat.le_of_ble_eq_true rfl)) dX7_learn_36 ⟨Nat.zero_le _, Nat.zero_le _⟩) hP hD hS hFc [] [0, 1, 2, 3, 4, 5, 6, 7, 8, 9] rfl rfl (by decide) (by decide) (fun r5 u5 H locs hw hP hD hS => ?_)
          obtain ⟨rfl, rfl⟩ := hw
          have hP : va_P D vwCl (cW dT a_this g_this) H := hP
          have hD : va_D A (cW dT a_this g_this) := hD
          refine lv_if_eq (tgt := 49) hx hb dX7_learn_39 (by decide) (fun c6 => ?_) (fun c6 => ?_)
          · replace h := iteT c6 h
            refine lv_iinc (v := (x4 + (1 : Int32))) (lv' := [(4, .int (x4 + (1 : Int32))), (0, .ref (a_this 0)), (1, .int x1), (2, .int x2), (3, .int x3)]) hx hb dX7_learn_49 hl (k := 4) rfl rfl (by decide) rfl (fun ls hl => ?_)
            refine lv_goto (tgt := 18) hx hb dX7_learn_52 (by decide) ?_
            exact ih (x4 + (1 : Int32)) g_this _ _ _ h hP hD hS (lv_sub hl [1, 2, 3, 4, 0] rfl)
          · replace h := iteF c6 h
            refine lv_aload_n hx hb dX7_learn_42 rfl (lv_at hl 0 rfl) ?_
            refine lv_iload_n hx hb dX7_learn_43 rfl (lv_at hl 3 rfl) ?_
            refine lv_iload hx hb dX7_learn_44 (lv_at hl 4 rfl) ?_
            obtain ⟨o7, e7, h⟩ := obind h
            have hPc := hP
            have hDc := hD
            have hFc := vfall hD hS hA
            refine cl_vA (va_runV (As := [.int x3, .int x4]) (rest := []) ⟨hx, hb, hml, hown, hts⟩ (c_X7_learnPair l hlt D dT a_this g_this x3 x4 o7 e7 _) (cwV 2 hts (TB_V w_834 w_836 w_23 w_55 w_837) rfl rfl rfl ⟨rfl, nd_X7_learnPair⟩ ⟨Nat.le_of_ble_eq_true rfl, Nat.le_of_ble_eq_true rfl⟩) (cPre.V hPc hDc hK hE hS hFc (va_recv hK hP (ci := 6) (q0 := 0) rfl rfl)) rfl rfl hl.1 rfl (lv_room (Nat.le_of_ble_eq_true rfl)) dX7_learn_46 ⟨Nat.zero_le _, Nat.zero_le _⟩) hS hFc (fun u7 H locs hw hP hD hS => ?_)
            subst hw
            have hP : va_P D vwCl (cW dT a_this o7.2) H := hP
            have hD : va_D A (cW dT a_this o7.2) := hD
            refine lv_iinc (v := (x4 + (1 : Int32))) (lv' := [(4, .int (x4 + (1 : Int32))), (0, .ref (a_this 0)), (1, .int x1), (2, .int x2), (3, .int x3)]) hx hb dX7_learn_49 hl (k := 4) rfl rfl (by decide) rfl (fun ls hl => ?_)
            refine lv_goto (tgt := 18) hx hb dX7_learn_52 (by decide) ?_
            exact ih (x4 + (1 : Int32)) o7.2 _ _ _ h hP hD hS (lv_sub hl [1, 2, 3, 4, 0] rfl)
  have L_f_X7_learn_L7 : ∀ (x1 : Int32) (x2 : Int32)   (n : Nat), ∀ (x3 : Int32) (g_this : TW) (H : Heap) (locs : List Loc) (ls : Array Slot), f_X7_learn_L7 x1 x2  n x3 g_this = some o → va_P D vwCl (cW dT a_this g_this) H → va_D A (cW dT a_this g_this) → va_S A s.heap H locs → lv_has ls 5 [(0, .ref (a_this 0)), (1, .int x1), (2, .int x2), (3, .int x3)] → W p l e (headSpec (WSm yX7_learn cX7_learn 5 (some .int)) { frames := 4, cells := 0, slots := 0, locals := 91 }).room s m [.ref (a_this 0), .int v1].toArray below meth c H locs 0 0 (MQ below (va_Qi (fun (r : Int32) (u : TW) => r = o.1 ∧ u = o.2) (fun u t => cAt D dT A (cW dT a_this u) t) A) [.ref (a_this 0), .int v1].toArray s 0 0 A) (F0 m 7 ls []) := by
    intro x1 x2   n
    induction n with
    | zero => intro x3 g_this H locs ls h; exact nomatch h
    | succ n ih =>
      intro x3 g_this H locs ls h hP hD hS hl
      unfold f_X7_learn_L7 at h
      refine lv_iload_n hx hb dX7_learn_7 rfl (lv_at hl 3 rfl) ?_
      refine lv_bipush (v := 7) hx hb dX7_learn_8 (by decide) ?_
      refine lv_icmp_ge (tgt := 61) hx hb dX7_learn_10 (by decide) (fun c1 => ?_) (fun c1 => ?_)
      · replace h := iteT c1 h
        refine lv_aload_n hx hb dX7_learn_61 rfl (lv_at hl 0 rfl) ?_
        refine gf_X7_58 (v := .int (W_surprises g_this)) hx hb hqs hown hK hP 0 rfl rfl dX7_learn_62 ?_
        refine lv_iload_n hx hb dX7_learn_65 rfl (lv_at hl 2 rfl) ?_
        refine lv_isub hx hb dX7_learn_66 ?_
        exact rt_i hx hb hr hlk hK hS (g_this : TW) (ret2 h) hP hD dX7_learn_67
      · replace h := iteF c1 h
        refine lv_iload_n hx hb dX7_learn_13 rfl (lv_at hl 3 rfl) ?_
        refine lv_iconst (v := 1) hx hb dX7_learn_14 (by decide) ?_
        refine lv_iadd hx hb dX7_learn_15 ?_
        refine lv_istore (lv' := [(4, .int (x3 + (1 : Int32))), (0, .ref (a_this 0)), (1, .int x1), (2, .int x2), (3, .int x3)]) hx hb dX7_learn_16 hl (by decide) rfl (fun ls hl => ?_)
        refine L_f_X7_learn_L18 x1 x2 x3 _ ?_ FUEL (x3 + (1 : Int32)) g_this _ _ _ h hP hD hS (lv_sub hl [1, 2, 3, 4, 0] rfl)
        · intro y8g_this H locs ls h hP hD hS hl
          refine lv_iinc (v := (x3 + (1 : Int32))) (lv' := [(3, .int (x3 + (1 : Int32))), (0, .ref (a_this 0)), (1, .int x1), (2, .int x2)]) hx hb dX7_learn_55 hl (k := 3) rfl rfl (by decide) rfl (fun ls hl => ?_)
          refine lv_goto (tgt := 7) hx hb dX7_learn_58 (by decide) ?_
          exact ih (x3 + (1 : Int32)) y8g_this _ _ _ h hP hD hS (lv_sub hl [1, 2, 3, 0] rfl)
  unfold f_X7_learn at h
  refine lv_aload_n hx hb dX7_learn_0 rfl (lv_at hl 0 rfl) ?_
  refine gf_X7_58 (v := .int (W_surprises g_this)) hx hb hqs hown hK hP 0 rfl rfl dX7_learn_1 ?_
  refine lv_istore_n (lv' := [(2, .int (W_surprises g_this)), (0, .ref (a_this 0)), (1, .int v1)]) hx hb dX7_learn_4 rfl hl (by decide) rfl (fun ls hl => ?_)
  refine lv_iconst (v := 0) hx hb dX7_learn_5 (by decide) ?_
  refine lv_istore_n (lv' := [(3, .int (0 : Int32)), (2, .int (W_surprises g_this)), (0, .ref (a_this 0)), (1, .int v1)]) hx hb dX7_learn_6 rfl hl (by decide) rfl (fun ls hl => ?_)
  refine L_f_X7_learn_L7 v1 (W_surprises g_this)   FUEL (0 : Int32) g_this _ _ _ h hP hD hS (lv_sub hl [2, 3, 1, 0] rfl)

def f_X7_mostWronglyBelieved_L17 (g_this : TW) (x3 : Int32) (k72 : Int32 → Int32 → Option (Int32 × (Unit))) : Nat → Int32 → Int32 → Int32 → Option (Int32 × (Unit))
  | 0, _, _, _ => none
  | n + 1, x1, x2, x4 =>
    (if (7 : Int32) ≤ x4 then (k72 x1 x2) else ((f_X8_pairIndex x3 x4).bind fun o3 => ((f_X7_isLinked g_this o3.1).bind fun o4 => (if o4.1 = (0 : Int32) then (f_X7_mostWronglyBelieved_L17 g_this x3 k72 n x1 x2 (x4 + (1 : Int32))) else ((f_X7_differenceOf g_this o3.1).bind fun o6 => (if o6.1 ≤ x2 then (f_X7_mostWronglyBelieved_L17 g_this x3 k72 n x1 x2 (x4 + (1 : Int32))) else ((f_X7_differenceOf g_this o3.1).bind fun o8 => (f_X7_mostWronglyBelieved_L17 g_this x3 k72 n (((10 : Int32) * x3) + x4) o8.1 (x4 + (1 : Int32))))))))))
def f_X7_mostWronglyBelieved_L6 (g_this : TW)  : Nat → Int32 → Int32 → Int32 → Option (Int32 × (Unit))
  | 0, _, _, _ => none
  | n + 1, x1, x2, x3 =>
    (if (7 : Int32) ≤ x3 then (some (x1, ())) else (f_X7_mostWronglyBelieved_L17 g_this x3 (fun (y9x1 : Int32) (y9x2 : Int32) => (f_X7_mostWronglyBelieved_L6 g_this n y9x1 y9x2 (x3 + (1 : Int32)))) FUEL x1 x2 (x3 + (1 : Int32))))
def f_X7_mostWronglyBelieved (g_this : TW) : Option (Int32 × (Unit)) :=
  (f_X7_mostWronglyBelieved_L6 g_this FUEL (-1 : Int32) (-1 : Int32) (0 : Int32))
set_option maxHeartbeats 8000000 in
set_option maxRecDepth 100000 in
theorem c_X7_mostWronglyBelieved (l : Launch) (hlt : l.stackTraces = false) (D : va_G) (dT : Nat → ClassId) (a_this : Nat → Nat) (g_this : TW) (o : (Int32 × (Unit))) (h : f_X7_mostWronglyBelieved g_this = some o) (sz : Nat) : Met l yX7_mostWronglyBelieved (WSm yX7_mostWronglyBelieved cX7_mostWronglyBelieved 6 (some .int)) { frames := 3, cells := 0, slots := 0, locals := 65 } (va_Pc [.ref (a_this 0)] (cPre D dT (cW dT a_this g_this) sz)) (va_Qi (fun (r : Int32) (u : Unit) => r = o.1 ∧ u = o.2) (fun u t => cAt D dT (va_A (cW dT a_this g_this) sz) (cW dT a_this g_this) t) (va_A (cW dT a_this g_this) sz)) 0 0 (va_A (cW dT a_this g_this) sz) := by
  refine mStart (WS := (cW dT a_this g_this)) (Qc := fun A => va_Qi (fun (r : Int32) (u : Unit) => r = o.1 ∧ u = o.2) (fun u t => cAt D dT A (cW dT a_this g_this) t) A) RX7 rfl (by decide) (Nat.le_of_ble_eq_true rfl) ?_ sz
  intro p e s m below meth c A ls hx hb hml hr hlk hnm hts hqs hown hE hA hK hP hD hS hl
  have hl : lv_has ls 6 [(0, .ref (a_this 0))] := hl
  have L_f_X7_mostWronglyBelieved_L17 : ∀ (g_this : TW) (x3 : Int32) (k72 : Int32 → Int32 → Option (Int32 × (Unit))) (hk72 : ∀ (x1 : Int32) (x2 : Int32) (H : Heap) (locs : List Loc) (ls : Array Slot), k72 x1 x2 = some o → va_P D vwCl (cW dT a_this g_this) H → va_D A (cW dT a_this g_this) → va_S A s.heap H locs → lv_has ls 6 [(0, .ref (a_this 0)), (1, .int x1), (2, .int x2), (3, .int x3)] → W p l e (headSpec (WSm yX7_mostWronglyBelieved cX7_mostWronglyBelieved 6 (some .int)) { frames := 3, cells := 0, slots := 0, locals := 65 }).room s m [.ref (a_this 0)].toArray below meth c H locs 0 0 (MQ below (va_Qi (fun (r : Int32) (u : Unit) => r = o.1 ∧ u = o.2) (fun u t => cAt D dT A (cW dT a_this g_this) t) A) [.ref (a_this 0)].toArray s 0 0 A) (F0 m 72 ls [])) (n : Nat), ∀ (x1 : Int32) (x2 : Int32) (x4 : Int32) (H : Heap) (locs : List Loc) (ls : Array Slot), f_X7_mostWronglyBelieved_L17 g_this x3 k72 n x1 x2 x4 = some o → va_P D vwCl (cW dT a_this g_this) H → va_D A (cW dT a_this g_this) → va_S A s.heap H locs → lv_has ls 6 [(0, .ref (a_this 0)), (1, .int x1), (2, .int x2), (3, .int x3), (4, .int x4)] → W p l e (headSpec (WSm yX7_mostWronglyBelieved cX7_mostWronglyBelieved 6 (some .int)) { frames := 3, cells := 0, slots := 0, locals := 65 }).room s m [.ref (a_this 0)].toArray below meth c H locs 0 0 (MQ below (va_Qi (fun (r : Int32) (u : Unit) => r = o.1 ∧ u = o.2) (fun u t => cAt D dT A (cW dT a_this g_this) t) A) [.ref (a_this 0)].toArray s 0 0 A) (F0 m 17 ls []) := by
    intro g_this x3 k72 hk72 n
    induction n with
    | zero => intro x1 x2 x4 H locs ls h; exact nomatch h
    | succ n ih =>
      intro x1 x2 x4 H locs ls h hP hD hS hl
      unfold f_X7_mostWronglyBelieved_L17 at h
      refine lv_iload hx hb dX7_mostWronglyBelieved_17 (lv_at hl 4 rfl) ?_
      refine lv_bipush (v := 7) hx hb dX7_mostWronglyBelieved_19 (by decide) ?_
      refine lv_icmp_ge (tgt := 72) hx hb dX7_mostWronglyBelieved_21 (by decide) (fun c2 => ?_) (fun c2 => ?_)
      · replace h := iteT c2 h
        exact hk72 x1 x2 _ _ _ h hP hD hS (lv_sub hl [0, 1, 2, 3] rfl)
      · replace h := iteF c2 h
        refine lv_iload_n hx hb dX7_mostWronglyBelieved_24 rfl (lv_at hl 3 rfl) ?_
        refine lv_iload hx hb dX7_mostWronglyBelieved_25 (lv_at hl 4 rfl) ?_
        obtain ⟨o3, e3, h⟩ := obind h
        have hPc := hP.sub (ws' := ([] : va_W)) [] rfl
        have hDc := hD.sub (ws' := ([] : va_W)) [] (by decide) rfl
        have hFc := va_free (wc := ([] : va_W)) hD hS hA [] rfl
        refine cl_i (wr := (cW dT a_this g_this)) (va_runSN (As := [.int x3, .int x4]) (rest := []) ⟨hx, hb, hml, hown, hts⟩ (c_X8_pairIndex l hlt D dT x3 x4 o3 e3 _) ⟨va_cnB 2 hts (TB_in (WSm_in w_384)) rfl rfl rfl (hE.1 (RX7, 114, yX8_pairIndex, RX8) (List.mem_of_getElem? (i := 13) rfl)) (hqs _ w_50) nd_X8_pairIndex ⟨Nat.le_of_ble_eq_true rfl, Nat.le_of_ble_eq_true rfl⟩, hqs _ w_383, trivial⟩ (cPre.S hPc hDc hK hE hS hFc) rfl rfl hl.1 rfl (lv_room (Nat.le_of_ble_eq_true rfl)) dX7_mostWronglyBelieved_27 ⟨Nat.zero_le _, Nat.zero_le _⟩) hP hD hS hFc [] [0, 1, 2, 3, 4, 5, 6, 7, 8, 9] rfl rfl (by decide) (by decide) (fun r3 u3 H locs hw hP hD hS => ?_)
        obtain ⟨rfl, rfl⟩ := hw
        have hP : va_P D vwCl (cW dT a_this g_this) H := hP
        have hD : va_D A (cW dT a_this g_this) := hD
        refine lv_istore (lv' := [(5, .int o3.1), (0, .ref (a_this 0)), (1, .int x1), (2, .int x2), (3, .int x3), (4, .int x4)]) hx hb dX7_mostWronglyBelieved_30 hl (by decide) rfl (fun ls hl => ?_)
        refine lv_aload_n hx hb dX7_mostWronglyBelieved_32 rfl (lv_at hl 1 rfl) ?_
        refine lv_iload hx hb dX7_mostWronglyBelieved_33 (lv_at hl 0 rfl) ?_
        obtain ⟨o4, e4, h⟩ := obind h
        have hPc := hP
        have hDc := hD
        have hFc := vfall hD hS hA
        refine cl_iA (va_runV (As := [.int o3.1]) (rest := []) ⟨hx, hb, hml, hown, hts⟩ (c_X7_isLinked l hlt D dT a_this g_this o3.1 o4 e4 _) (cwV 1 hts (TB_V w_391 w_392 w_393 w_55 w_394) rfl rfl rfl ⟨rfl, nd_X7_isLinked⟩ ⟨Nat.le_of_ble_eq_true rfl, Nat.le_of_ble_eq_true rfl⟩) (cPre.V hPc hDc hK hE hS hFc (va_recv hK hP (ci := 6) (q0 := 0) rfl rfl)) rfl rfl hl.1 rfl (lv_room (Nat.le_of_ble_eq_true rfl)) dX7_mostWronglyBelieved_35 ⟨Nat.zero_le _, Nat.zero_le _⟩) hS hFc (fun r4 u4 H locs hw hP hD hS => ?_)
        obtain ⟨rfl, rfl⟩ := hw
        have hP : va_P D vwCl (cW dT a_this g_this) H := hP
        have hD : va_D A (cW dT a_this g_this) := hD
        refine lv_if_eq (tgt := 66) hx hb dX7_mostWronglyBelieved_38 (by decide) (fun c5 => ?_) (fun c5 => ?_)
        · replace h := iteT c5 h
          refine lv_iinc (v := (x4 + (1 : Int32))) (lv' := [(4, .int (x4 + (1 : Int32))), (5, .int o3.1), (0, .ref (a_this 0)), (1, .int x1), (2, .int x2), (3, .int x3)]) hx hb dX7_mostWronglyBelieved_66 hl (k := 5) rfl rfl (by decide) rfl (fun ls hl => ?_)
          refine lv_goto (tgt := 17) hx hb dX7_mostWronglyBelieved_69 (by decide) ?_
          exact ih x1 x2 (x4 + (1 : Int32)) _ _ _ h hP hD hS (lv_sub hl [2, 3, 4, 5, 0] rfl)
        · replace h := iteF c5 h
          refine lv_aload_n hx hb dX7_mostWronglyBelieved_41 rfl (lv_at hl 1 rfl) ?_
          refine lv_iload hx hb dX7_mostWronglyBelieved_42 (lv_at hl 0 rfl) ?_
          obtain ⟨o6, e6, h⟩ := obind h
          have hPc := hP
          have hDc := hD
          have hFc := vfall hD hS hA
          refine cl_iA (va_runV (As := [.int o3.1]) (rest := []) ⟨hx, hb, hml, hown, hts⟩ (c_X7_differenceOf l hlt D dT a_this g_this o3.1 o6 e6 _) (cwV 1 hts (TB_V w_396 w_398 w_5 w_55 w_399) rfl rfl rfl ⟨rfl, nd_X7_differenceOf⟩ ⟨Nat.le_of_ble_eq_true rfl, Nat.le_of_ble_eq_true rfl⟩) (cPre.V hPc hDc hK hE hS hFc (va_recv hK hP (ci := 6) (q0 := 0) rfl rfl)) rfl rfl hl.1 rfl (lv_room (Nat.le_of_ble_eq_true rfl)) dX7_mostWronglyBelieved_44 ⟨Nat.zero_le _, Nat.zero_le _⟩) hS hFc (fun r6 u6 H locs hw hP hD hS => ?_)
          obtain ⟨rfl, rfl⟩ := hw
          have hP : va_P D vwCl (cW dT a_this g_this) H := hP
          have hD : va_D A (cW dT a_this g_this) := hD
          refine lv_iload_n hx hb dX7_mostWronglyBelieved_47 rfl (lv_at hl 3 rfl) ?_
          refine lv_icmp_le (tgt := 66) hx hb dX7_mostWronglyBelieved_48 (by decide) (fun c7 => ?_) (fun c7 => ?_)
          · replace h := iteT c7 h
            refine lv_iinc (v := (x4 + (1 : Int32))) (lv' := [(4, .int (x4 + (1 : Int32))), (5, .int o3.1), (0, .ref (a_this 0)), (1, .int x1), (2, .int x2), (3, .int x3)]) hx hb dX7_mostWronglyBelieved_66 hl (k := 5) rfl rfl (by decide) rfl (fun ls hl => ?_)
            refine lv_goto (tgt := 17) hx hb dX7_mostWronglyBelieved_69 (by decide) ?_
            exact ih x1 x2 (x4 + (1 : Int32)) _ _ _ h hP hD hS (lv_sub hl [2, 3, 4, 5, 0] rfl)
          · replace h := iteF c7 h
            refine lv_aload_n hx hb dX7_mostWronglyBelieved_51 rfl (lv_at hl 1 rfl) ?_
            refine lv_iload hx hb dX7_mostWronglyBelieved_52 (lv_at hl 0 rfl) ?_
            obtain ⟨o8, e8, h⟩ := obind h
            have hPc := hP
            have hDc := hD
            have hFc := vfall hD hS hA
            refine cl_iA (va_runV (As := [.int o3.1]) (rest := []) ⟨hx, hb, hml, hown, hts⟩ (c_X7_differenceOf l hlt D dT a_this g_this o3.1 o8 e8 _) (cwV 1 hts (TB_V w_396 w_398 w_5 w_55 w_399) rfl rfl rfl ⟨rfl, nd_X7_differenceOf⟩ ⟨Nat.le_of_ble_eq_true rfl, Nat.le_of_ble_eq_true rfl⟩) (cPre.V hPc hDc hK hE hS hFc (va_recv hK hP (ci := 6) (q0 := 0) rfl rfl)) rfl rfl hl.1 rfl (lv_room (Nat.le_of_ble_eq_true rfl)) dX7_mostWronglyBelieved_54 ⟨Nat.zero_le _, Nat.zero_le _⟩) hS hFc (fun r8 u8 H locs hw hP hD hS => ?_)
            obtain ⟨rfl, rfl⟩ := hw
            have hP : va_P D vwCl (cW dT a_this g_this) H := hP
            have hD : va_D A (cW dT a_this g_this) := hD
            refine lv_istore_n (lv' := [(2, .int o8.1), (5, .int o3.1), (0, .ref (a_this 0)), (1, .int x1), (3, .int x3), (4, .int x4)]) hx hb dX7_mostWronglyBelieved_57 rfl hl (by decide) rfl (fun ls hl => ?_)
            refine lv_bipush (v := 10) hx hb dX7_mostWronglyBelieved_58 (by decide) ?_
            refine lv_iload_n hx hb dX7_mostWronglyBelieved_60 rfl (lv_at hl 4 rfl) ?_
            refine lv_imul hx hb dX7_mostWronglyBelieved_61 ?_
            refine lv_iload hx hb dX7_mostWronglyBelieved_62 (lv_at hl 5 rfl) ?_
            refine lv_iadd hx hb dX7_mostWronglyBelieved_64 ?_
            refine lv_istore_n (lv' := [(1, .int (((10 : Int32) * x3) + x4)), (2, .int o8.1), (5, .int o3.1), (0, .ref (a_this 0)), (3, .int x3), (4, .int x4)]) hx hb dX7_mostWronglyBelieved_65 rfl hl (by decide) rfl (fun ls hl => ?_)
            refine lv_iinc (v := (x4 + (1 : Int32))) (lv' := [(4, .int (x4 + (1 : Int32))), (1, .int (((10 : Int32) * x3) + x4)), (2, .int o8.1), (5, .int o3.1), (0, .ref (a_this 0)), (3, .int x3)]) hx hb dX7_mostWronglyBelieved_66 hl (k := 5) rfl rfl (by decide) rfl (fun ls hl => ?_)
            refine lv_goto (tgt := 17) hx hb dX7_mostWronglyBelieved_69 (by decide) ?_
            exact ih (((10 : Int32) * x3) + x4) o8.1 (x4 + (1 : Int32)) _ _ _ h hP hD hS (lv_sub hl [4, 1, 2, 5, 0] rfl)
  have L_f_X7_mostWronglyBelieved_L6 : ∀ (g_this : TW)   (n : Nat), ∀ (x1 : Int32) (x2 : Int32) (x3 : Int32) (H : Heap) (locs : List Loc) (ls : Array Slot), f_X7_mostWronglyBelieved_L6 g_this  n x1 x2 x3 = some o → va_P D vwCl (cW dT a_this g_this) H → va_D A (cW dT a_this g_this) → va_S A s.heap H locs → lv_has ls 6 [(0, .ref (a_this 0)), (1, .int x1), (2, .int x2), (3, .int x3)] → W p l e (headSpec (WSm yX7_mostWronglyBelieved cX7_mostWronglyBelieved 6 (some .int)) { frames := 3, cells := 0, slots := 0, locals := 65 }).room s m [.ref (a_this 0)].toArray below meth c H locs 0 0 (MQ below (va_Qi (fun (r : Int32) (u : Unit) => r = o.1 ∧ u = o.2) (fun u t => cAt D dT A (cW dT a_this g_this) t) A) [.ref (a_this 0)].toArray s 0 0 A) (F0 m 6 ls []) := by
    intro g_this   n
    induction n with
    | zero => intro x1 x2 x3 H locs ls h; exact nomatch h
    | succ n ih =>
      intro x1 x2 x3 H locs ls h hP hD hS hl
      unfold f_X7_mostWronglyBelieved_L6 at h
      refine lv_iload_n hx hb dX7_mostWronglyBelieved_6 rfl (lv_at hl 3 rfl) ?_
      refine lv_bipush (v := 7) hx hb dX7_mostWronglyBelieved_7 (by decide) ?_
      refine lv_icmp_ge (tgt := 78) hx hb dX7_mostWronglyBelieved_9 (by decide) (fun c1 => ?_) (fun c1 => ?_)
      · replace h := iteT c1 h
        refine lv_iload_n hx hb dX7_mostWronglyBelieved_78 rfl (lv_at hl 1 rfl) ?_
        exact rt_i hx hb hr hlk hK hS (() : Unit) (ret2 h) hP hD dX7_mostWronglyBelieved_79
      · replace h := iteF c1 h
        refine lv_iload_n hx hb dX7_mostWronglyBelieved_12 rfl (lv_at hl 3 rfl) ?_
        refine lv_iconst (v := 1) hx hb dX7_mostWronglyBelieved_13 (by decide) ?_
        refine lv_iadd hx hb dX7_mostWronglyBelieved_14 ?_
        refine lv_istore (lv' := [(4, .int (x3 + (1 : Int32))), (0, .ref (a_this 0)), (1, .int x1), (2, .int x2), (3, .int x3)]) hx hb dX7_mostWronglyBelieved_15 hl (by decide) rfl (fun ls hl => ?_)
        refine L_f_X7_mostWronglyBelieved_L17 g_this x3 _ ?_ FUEL x1 x2 (x3 + (1 : Int32)) _ _ _ h hP hD hS (lv_sub hl [1, 2, 3, 4, 0] rfl)
        · intro y9x1 y9x2 H locs ls h hP hD hS hl
          refine lv_iinc (v := (x3 + (1 : Int32))) (lv' := [(3, .int (x3 + (1 : Int32))), (0, .ref (a_this 0)), (1, .int y9x1), (2, .int y9x2)]) hx hb dX7_mostWronglyBelieved_72 hl (k := 3) rfl rfl (by decide) rfl (fun ls hl => ?_)
          refine lv_goto (tgt := 6) hx hb dX7_mostWronglyBelieved_75 (by decide) ?_
          exact ih y9x1 y9x2 (x3 + (1 : Int32)) _ _ _ h hP hD hS (lv_sub hl [1, 2, 3, 0] rfl)
  unfold f_X7_mostWronglyBelieved at h
  refine lv_iconst (v := -1) hx hb dX7_mostWronglyBelieved_0 (by decide) ?_
  refine lv_istore_n (lv' := [(1, .int (-1 : Int32)), (0, .ref (a_this 0))]) hx hb dX7_mostWronglyBelieved_1 rfl hl (by decide) rfl (fun ls hl => ?_)
  refine lv_iconst (v := -1) hx hb dX7_mostWronglyBelieved_2 (by decide) ?_
  refine lv_istore_n (lv' := [(2, .int (-1 : Int32)), (1, .int (-1 : Int32)), (0, .ref (a_this 0))]) hx hb dX7_mostWronglyBelieved_3 rfl hl (by decide) rfl (fun ls hl => ?_)
  refine lv_iconst (v := 0) hx hb dX7_mostWronglyBelieved_4 (by decide) ?_
  refine lv_istore_n (lv' := [(3, .int (0 : Int32)), (2, .int (-1 : Int32)), (1, .int (-1 : Int32)), (0, .ref (a_this 0))]) hx hb dX7_mostWronglyBelieved_5 rfl hl (by decide) rfl (fun ls hl => ?_)
  refine L_f_X7_mostWronglyBelieved_L6 g_this   FUEL (-1 : Int32) (-1 : Int32) (0 : Int32) _ _ _ h hP hD hS (lv_sub hl [3, 2, 1, 0] rfl)

