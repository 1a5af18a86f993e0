theorem lcA : lg_cmp (-9999002 : Int64) (-9999002 : Int64) = 0 := by decide
theorem lcX : lg_cmp (-9999001 : Int64) (-9999001 : Int64) = 0 := by decide
theorem y_sh1 : ∀ n, n ≤ 7 → (1 : Int32) <<< (nI n &&& 31) = nI (2 ^ n) := by decide +kernel
theorem ec_about0 {N K : Nat} {q : CW} {w : TW} (hw : WK N K w q) (T E cc P Q H S) : f_L_call T E w cc P Q H S (2 : Int32) (0 : Int32) (0 : Int32) (0 : Int32) = some (nI (q.1 0), (T, E, w, cc, P, Q, H, S)) := ec_about hw (j := 0) (by omega) T E cc P Q H S 0 0
theorem v_660 {N K L : Nat} {c : Nat → Nat} {q : CW} {w : TW} {T : TT} (hT : TK T L c) (hw : WK N K w q) {X : Nat} (hX : X < 2147483648) (E R cc P Q H S) : ∃ E', f_L_refuses_J660 (nI X) 1 T E R w cc P Q H S = some (1, (T, E', R, w, cc, P, Q, H, S)) := by
  obtain ⟨x, E1, e, hl⟩ := z_err hT E R
  unfold f_L_refuses_J660
  rw [if_neg (by decide), z_save2 T E cc P Q H S, Option.bind_some, if_pos rfl, z_back1 T E cc P Q H S, Option.bind_some, if_pos rfl, z_append hX T E cc P Q H S, Option.bind_some, if_pos rfl]
  rw [z_script4 cc P Q, Option.bind_some, if_pos rfl, z_script1 hX cc P Q, Option.bind_some, if_pos rfl, z_script2 hX cc P Q, Option.bind_some, if_pos rfl, z_sim cc P Q, Option.bind_some, if_pos rfl, e, Option.bind_some]
  by_cases hx : x = -1
  · exact ⟨E1, if_pos hx⟩
  · obtain ⟨E3, e3⟩ := hl hx E1 w cc P Q H S
    refine ⟨E3, (if_neg hx).trans ?_⟩
    rw [e3, Option.bind_some]
    exact if_pos rfl
theorem v_520 {N K L : Nat} {c : Nat → Nat} {q : CW} {w : TW} {T : TT} (hT : TK T L c) (hw : WK N K w q) {X : Nat} (hX : X < 2147483648) (E R cc P Q H S) : ∃ E', f_L_refuses_J520 (nI X) (nI (q.1 0)) (nI (2 ^ q.1 0)) 1 T E R w cc P Q H S = some (1, (T, E', R, w, cc, P, Q, H, S)) := by
  have h7 := hw.2.1.1.1
  unfold f_L_refuses_J520
  by_cases h0 : q.1 0 = 0
  · rw [if_pos (show nI (q.1 0) ≤ (0 : Int32) from (y_Ile (b := 0) (by omega) (by omega)).mpr (by omega))]
    exact v_660 hT hw hX E R cc P Q H S
  · have hp : 0 < q.1 0 := by omega
    have nz : ¬ nI (q.1 0) = 0 := fun z => by have := (y_Ieq (b := 0) (by omega) (by omega)).mp z; omega
    rw [if_neg (show ¬ nI (q.1 0) ≤ (0 : Int32) from fun z => by have := (y_Ile (b := 0) (by omega) (by omega)).mp z; omega), if_neg nz, if_neg (by decide)]
    rw [z_resizeT hw hX hp T E cc P Q H S, Option.bind_some, if_pos rfl, z_pairT hw hX hp T E cc P Q H S, Option.bind_some, if_pos rfl, z_linkT hw hX hp H, Option.bind_some, if_pos rfl, z_driftT hw hX hp T E cc P Q H S, Option.bind_some, if_pos rfl, z_matT1 hw hX hp T E cc P Q H S, Option.bind_some, if_pos rfl, z_matT2 hw hX hp T E cc P Q H S, Option.bind_some, if_pos rfl, if_neg nz, z_pairT5 hw hX hp T E cc P Q H S, Option.bind_some, if_pos rfl]
    unfold f_L_refuses_J658
    exact v_660 hT hw hX E R cc P Q H S
theorem v_335 {N K L : Nat} {c : Nat → Nat} {q : CW} {w : TW} {T : TT} (hT : TK T L c) (hw : WK N K w q) {X : Nat} (hX : X < 2147483648) (E R cc P Q H S) : ∃ E', f_L_refuses_J335 (nI X) (nI (q.1 0)) (nI (2 ^ q.1 0)) 1 T E R w cc P Q H S = some (1, (T, E', R, w, cc, P, Q, H, S)) := by
  have hp := y_pw7 hw
  have nz : ¬ nI (2 ^ q.1 0) = 0 := fun z => by have := (y_Ieq (b := 0) (by omega) (by omega)).mp z; omega
  unfold f_L_refuses_J335
  rw [if_neg (by decide), z_rows1 hw P, Option.bind_some, if_pos lcX, if_neg nz, z_rows2 hw hX P, Option.bind_some, if_pos lcA]
  rw [z_order1 hw T E cc P Q H S, Option.bind_some, if_pos rfl, if_neg nz, z_order2 hw hX T E cc P Q H S, Option.bind_some, if_pos rfl, z_way1 hw T E cc P Q H S, Option.bind_some, if_pos rfl, if_neg nz, z_way2 hw hX T E cc P Q H S, Option.bind_some, if_pos rfl]
  rw [z_cost1 hw P Q, Option.bind_some, if_pos lcX, if_neg nz, z_cost2 hw hX P Q, Option.bind_some, if_pos lcA, z_text hX T R P, Option.bind_some, if_pos lcA]
  rw [z_mat1 hw T E cc P Q H S, Option.bind_some, if_pos rfl, z_learns0 hw T E cc P Q H S, Option.bind_some, if_pos rfl]
  exact v_520 hT hw hX E R cc P Q H S
theorem v_173 {N K L : Nat} {c : Nat → Nat} {q : CW} {w : TW} {T : TT} (hT : TK T L c) (hw : WK N K w q) {X : Nat} (hX : X < 2147483648) (E R cc P Q H S) : ∃ E', f_L_refuses_J173 (nI X) (nI (q.1 0)) (nI (2 ^ q.1 0)) 1 T E R w cc P Q H S = some (1, (T, E', R, w, cc, P, Q, H, S)) := by
  unfold f_L_refuses_J173
  rw [if_neg (by decide), z_resize hw hX T E cc P Q H S, Option.bind_some, if_pos rfl, z_link0 hw H, Option.bind_some, if_pos rfl, z_drift hw T E cc P Q H S, Option.bind_some, if_pos rfl, z_run9 hw hX T E cc P Q H S, Option.bind_some, if_pos rfl, z_run0 hw T E cc P Q H S, Option.bind_some, if_pos rfl, z_runn hw hX T E cc P Q H S, Option.bind_some, if_pos rfl, z_weeks hw hX T E cc P Q H S, Option.bind_some, if_pos rfl, z_set1 hw hX T E cc P Q H S, Option.bind_some, if_pos rfl, z_set2 hw T E cc P Q H S, Option.bind_some, if_pos rfl]
  exact v_335 hT hw hX E R cc P Q H S
theorem d_refuses {N K L : Nat} {c : Nat → Nat} {q : CW} {w : TW} {T : TT} (hT : TK T L c) (hw : WK N K w q) {X : Nat} (hX : X < 2147483648) (E R cc P Q H S) : ∃ E', f_L_refuses T E R w cc P Q H S (nI X) = some (1, (T, E', R, w, cc, P, Q, H, S)) := by
  have h7 := hw.2.1.1.1
  unfold f_L_refuses
  rw [ec_about0 hw T E cc P Q H S, Option.bind_some, z_about6 hw hX T E cc P Q H S, Option.bind_some, if_pos rfl, z_sum hX, Option.bind_some, if_pos lcA, z_size hw T E cc P Q H S, Option.bind_some, if_pos rfl, z_pair9 hw T E cc P Q H S, Option.bind_some, if_pos rfl, z_sur10 hw hX T E cc P Q H S, Option.bind_some, if_pos rfl, z_sur4 hw T E cc P Q H S, Option.bind_some, if_pos rfl, z_setting hw hX T E cc P Q H S, Option.bind_some, if_pos rfl, z_add hw hX T E cc P Q H S, Option.bind_some, if_pos rfl]
  by_cases h : q.1 0 < 7
  · rw [if_pos (show nI (q.1 0) < (7 : Int32) from (y_Ilt (b := 7) (by omega) (by omega)).mpr h)]
    unfold f_L_refuses_J168
    rw [y_sh1 _ h7]
    exact v_173 hT hw hX E R cc P Q H S
  · rw [if_neg (show ¬ nI (q.1 0) < (7 : Int32) from fun z => h ((y_Ilt (b := 7) (by omega) (by omega)).mp z))]
    rw [z_add5 hw (by omega) T E cc P Q H S, Option.bind_some, if_pos rfl]
    unfold f_L_refuses_J168
    rw [y_sh1 _ h7]
    exact v_173 hT hw hX E R cc P Q H S
