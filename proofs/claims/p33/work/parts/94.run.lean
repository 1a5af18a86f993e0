theorem y_sub0 (x y : Int64) : x - y = lN 0 ↔ x = y := by
  constructor
  · intro h
    have : x - y + y = lN 0 + y := by rw [h]
    rw [Int64.sub_add_cancel, show lN 0 = (0 : Int64) from rfl, Int64.zero_add] at this
    exact this
  · intro h
    rw [h, Int64.sub_self]; rfl
theorem c_regret {P1 P2 : TP} {w : TW} {ρ : Nat → Nat} {S : Nat} (hw : WRp w ρ) (hi : INp ρ) (hS : S < 2 ^ ρ 0) : ∃ P1' P2', f_X8_regretIn P1 P2 w (nI S) = some (yCost ρ S 2, (P1', P2')) ∧ PCH P1' ρ 1 S ∧ PCH P2' ρ 2 S := by
  obtain ⟨Q1, a1, a2⟩ := cp_chooseP (P := P1) (k := 1) hw hi (by omega) hS
  obtain ⟨Q2, b1, b2⟩ := cp_chooseP (P := P2) (k := 2) hw hi (by omega) hS
  have e := cp_by (P1 := Q1) (P2 := Q2) (k1 := 1) (k2 := 2) hi hS a2 b2.1
  refine ⟨Q1, Q2, ?_, a2, b2⟩
  unfold f_X8_regretIn
  rw [y_c1, a1]
  show ((f_X3_choose P2 w (nI S) (2 : Int32)).bind _) = _
  rw [y_c2, b1]
  show ((f_X3_costAsPlannedBy Q2 Q1).bind _) = _
  rw [e]
  show some (lN (yTr ρ 1 2 S) - P_restOf Q2 0, (Q1, Q2)) = _
  rw [b2.2.1]
  rfl
def yσ (ρ : Nat → Nat) (S : Nat) (σ : Nat → Int64) : Nat → Int64 := fun i => if i = 0 then σ 0 + yCost ρ S 1 else if i = 1 then σ 1 + yCost ρ S 2 else if i = 2 then yCost ρ S 1 else if i = 3 then yCost ρ S 2 else σ i
def yR0 (ρ : Nat → Nat) : Nat → Nat := pu ρ 306 (ρ 306 + 1)
def yRn (S : Nat) (ρ : Nat → Nat) : Nat → Nat := yLn S (yR0 ρ)
theorem INf.r0 {N : Nat} {ρ : Nat → Nat} (h : INf N ρ) : INf (N + 1) (yR0 ρ) := by
  obtain ⟨⟨i1, j2, j3⟩, i2, i3, i4, i5⟩ := h
  unfold yR0
  refine ⟨⟨?_, ?_, ?_⟩, ?_, ?_, ?_, ?_⟩
  · simp (disch := omega) only [W_m_tables, W_m_weeks, W_m_runs, W_m_surprises, W_m_sums, W_m_settings, W_m_sizes, W_m_guesses, W_m_shares, W_m_memories, W_m_ages, W_m_surprisesOf, W_m_told, pu_e, pu_n, y_ue, y_un, y_ve, y_vn, true_and, and_true]; exact i1
  · intro t ht
    simp (disch := omega) only [W_m_tables, W_m_weeks, W_m_runs, W_m_surprises, W_m_sums, W_m_settings, W_m_sizes, W_m_guesses, W_m_shares, W_m_memories, W_m_ages, W_m_surprisesOf, W_m_told, pu_e, pu_n, y_ue, y_un, y_ve, y_vn, true_and, and_true] at ht
    have := j2 t ht
    simp (disch := omega) only [W_m_tables, W_m_weeks, W_m_runs, W_m_surprises, W_m_sums, W_m_settings, W_m_sizes, W_m_guesses, W_m_shares, W_m_memories, W_m_ages, W_m_surprisesOf, W_m_told, pu_e, pu_n, y_ue, y_un, y_ve, y_vn, true_and, and_true]
    exact this
  · intro c hc
    have := j3 c hc
    have hq := yq_lt c hc
    simp (disch := omega) only [W_m_tables, W_m_weeks, W_m_runs, W_m_surprises, W_m_sums, W_m_settings, W_m_sizes, W_m_guesses, W_m_shares, W_m_memories, W_m_ages, W_m_surprisesOf, W_m_told, pu_e, pu_n, y_ue, y_un, y_ve, y_vn, true_and, and_true]
    exact this
  · simp (disch := omega) only [W_m_tables, W_m_weeks, W_m_runs, W_m_surprises, W_m_sums, W_m_settings, W_m_sizes, W_m_guesses, W_m_shares, W_m_memories, W_m_ages, W_m_surprisesOf, W_m_told, pu_e, pu_n, y_ue, y_un, y_ve, y_vn, true_and, and_true]; exact i2
  · simp (disch := omega) only [W_m_tables, W_m_weeks, W_m_runs, W_m_surprises, W_m_sums, W_m_settings, W_m_sizes, W_m_guesses, W_m_shares, W_m_memories, W_m_ages, W_m_surprisesOf, W_m_told, pu_e, pu_n, y_ue, y_un, y_ve, y_vn, true_and, and_true]; omega
  · intro c hc
    have := i4 c hc
    have hq := yq_lt c hc
    simp (disch := omega) only [W_m_tables, W_m_weeks, W_m_runs, W_m_surprises, W_m_sums, W_m_settings, W_m_sizes, W_m_guesses, W_m_shares, W_m_memories, W_m_ages, W_m_surprisesOf, W_m_told, pu_e, pu_n, y_ue, y_un, y_ve, y_vn, true_and, and_true]
    omega
  · intro q hq hn
    have := i5 q hq hn
    simp (disch := omega) only [W_m_tables, W_m_weeks, W_m_runs, W_m_surprises, W_m_sums, W_m_settings, W_m_sizes, W_m_guesses, W_m_shares, W_m_memories, W_m_ages, W_m_surprisesOf, W_m_told, pu_e, pu_n, y_ue, y_un, y_ve, y_vn, true_and, and_true]
    exact this
theorem WRb.r0 {w : TW} {ρ : Nat → Nat} {σ τ : Nat → Int64} (h : WRb False w ρ σ) (h7 : ρ 0 ≤ 7) : WRb False w (yR0 ρ) τ := by
  obtain ⟨⟨w1, w2, w3⟩, w4, w5, w6, w7, w8, w9, w10, w11⟩ := h
  unfold yR0
  refine ⟨⟨?_, ?_, ?_⟩, ?_, fun z => z.elim, ?_, fun z => z.elim, ?_, ?_, ?_, ?_⟩
  · simp (disch := omega) only [W_m_tables, W_m_weeks, W_m_runs, W_m_surprises, W_m_sums, W_m_settings, W_m_sizes, W_m_guesses, W_m_shares, W_m_memories, W_m_ages, W_m_surprisesOf, W_m_told, pu_e, pu_n, y_ue, y_un, y_ve, y_vn, true_and, and_true]; exact w1
  · intro t ht
    simp (disch := omega) only [W_m_tables, W_m_weeks, W_m_runs, W_m_surprises, W_m_sums, W_m_settings, W_m_sizes, W_m_guesses, W_m_shares, W_m_memories, W_m_ages, W_m_surprisesOf, W_m_told, pu_e, pu_n, y_ue, y_un, y_ve, y_vn, true_and, and_true] at ht
    have := w2 t ht
    simp (disch := omega) only [W_m_tables, W_m_weeks, W_m_runs, W_m_surprises, W_m_sums, W_m_settings, W_m_sizes, W_m_guesses, W_m_shares, W_m_memories, W_m_ages, W_m_surprisesOf, W_m_told, pu_e, pu_n, y_ue, y_un, y_ve, y_vn, true_and, and_true]
    exact this
  · intro c hc
    have := w3 c hc
    have hq := yq_lt c hc
    simp (disch := omega) only [W_m_tables, W_m_weeks, W_m_runs, W_m_surprises, W_m_sums, W_m_settings, W_m_sizes, W_m_guesses, W_m_shares, W_m_memories, W_m_ages, W_m_surprisesOf, W_m_told, pu_e, pu_n, y_ue, y_un, y_ve, y_vn, true_and, and_true]
    exact this
  · simp (disch := omega) only [W_m_tables, W_m_weeks, W_m_runs, W_m_surprises, W_m_sums, W_m_settings, W_m_sizes, W_m_guesses, W_m_shares, W_m_memories, W_m_ages, W_m_surprisesOf, W_m_told, pu_e, pu_n, y_ue, y_un, y_ve, y_vn, true_and, and_true]; exact w4
  · simp (disch := omega) only [W_m_tables, W_m_weeks, W_m_runs, W_m_surprises, W_m_sums, W_m_settings, W_m_sizes, W_m_guesses, W_m_shares, W_m_memories, W_m_ages, W_m_surprisesOf, W_m_told, pu_e, pu_n, y_ue, y_un, y_ve, y_vn, true_and, and_true]; exact w6
  · intro i hi; have := w8 i hi; simp (disch := omega) only [W_m_tables, W_m_weeks, W_m_runs, W_m_surprises, W_m_sums, W_m_settings, W_m_sizes, W_m_guesses, W_m_shares, W_m_memories, W_m_ages, W_m_surprisesOf, W_m_told, pu_e, pu_n, y_ue, y_un, y_ve, y_vn, true_and, and_true]; exact this
  · intro c hc hm
    have := w9 c hc
    have hq := yq_lt c hc
    simp (disch := omega) only [W_m_tables, W_m_weeks, W_m_runs, W_m_surprises, W_m_sums, W_m_settings, W_m_sizes, W_m_guesses, W_m_shares, W_m_memories, W_m_ages, W_m_surprisesOf, W_m_told, pu_e, pu_n, y_ue, y_un, y_ve, y_vn, true_and, and_true] at hm ⊢
    exact this hm
  · intro c hc
    have := w10 c hc
    have hq := yq_lt c hc
    simp (disch := omega) only [W_m_tables, W_m_weeks, W_m_runs, W_m_surprises, W_m_sums, W_m_settings, W_m_sizes, W_m_guesses, W_m_shares, W_m_memories, W_m_ages, W_m_surprisesOf, W_m_told, pu_e, pu_n, y_ue, y_un, y_ve, y_vn, true_and, and_true]
    exact this
  · intro k hk hk2 j hj
    simp (disch := omega) only [W_m_tables, W_m_weeks, W_m_runs, W_m_surprises, W_m_sums, W_m_settings, W_m_sizes, W_m_guesses, W_m_shares, W_m_memories, W_m_ages, W_m_surprisesOf, W_m_told, pu_e, pu_n, y_ue, y_un, y_ve, y_vn, true_and, and_true] at hk2
    have := w11 k hk hk2 j hj
    simp (disch := omega) only [W_m_tables, W_m_weeks, W_m_runs, W_m_surprises, W_m_sums, W_m_settings, W_m_sizes, W_m_guesses, W_m_shares, W_m_memories, W_m_ages, W_m_surprisesOf, W_m_told, pu_e, pu_n, y_ue, y_un, y_ve, y_vn, true_and, and_true]
    exact this
theorem c_note {w : TW} {ρ : Nat → Nat} {σ : Nat → Int64} {S : Nat} (h : WRf w ρ σ) (h7 : ρ 0 ≤ 7) : ∃ w', f_X7_noteRun w (yCost ρ S 1) (yCost ρ S 2) = some ((), w') ∧ WRf w' (yR0 ρ) (yσ ρ S σ) := by
  obtain ⟨⟨w1, w2, w3⟩, w4, w5, w6, w7, w8, w9, w10, w11⟩ := h
  have s0 := w7 0 (by omega)
  have s1 := w7 1 (by omega)
  refine ⟨(W_mk (W_tables w) (W_weeks w) (nI (ρ 306 + 1)) (W_surprises w) (vp_updL (vp_updL (vp_updL (vp_updL (W_sums w) 0 (σ 0 + yCost ρ S 1)) 1 (σ 1 + yCost ρ S 2)) 2 (yCost ρ S 1)) 3 (yCost ρ S 2)) (W_settings w) (W_sizes w) (W_guesses w) (W_shares w) (W_memories w) (W_ages w) (W_surprisesOf w) (W_told w)), ?_, ⟨?_, ?_, ?_⟩, ?_, ?_, ?_, ?_, ?_, ?_, ?_, ?_⟩
  · unfold f_X7_noteRun
    simp (disch := omega) only [y_c0, y_c1, y_c10, y_c100, y_c1000, y_c10000, y_c100000, y_c106, y_c112, y_c116, y_c127, y_c128, y_c13, y_c14, y_c155, y_c2, y_c20, y_c200, y_c204, y_c21, y_c253, y_c255, y_c3, y_c30, y_c302, y_c303, y_c304, y_c305, y_c306, y_c307, y_c308, y_c309, y_c310, y_c311, y_c312, y_c313, y_c314, y_c315, y_c316, y_c32, y_c33, y_c353, y_c39, y_c4, y_c40, y_c44, y_c4589, y_c48, y_c49, y_c5, y_c512, y_c54, y_c57, y_c59, y_c6, y_c62, y_c64, y_c7, y_c8, y_c9, y_c99, y_c9999, y_d0, y_d1, y_d10, y_d100, y_d1000000, y_d1442695040888963407, y_d2, y_d20, y_d255, y_d3, y_d4, y_d40, y_d4294967295, y_d48, y_d5, y_d50, y_d54, y_d57, y_d6364136223846793005, y_d7, y_d9, y_d9999, y_dR, y_dS, y_dk, y_nar0, y_nar1, y_Ilt, y_Ile, y_Ieq, y_Iadd, y_Imul, y_Idiv, y_Llt, y_Lle, y_Leq, y_Ladd, y_Lmul, y_Ldiv, y_I2l, y_L2i, y_shn, y_or, y_and, y_bn1, y_bn0, y_inb, y_cl, y_gle, y_gge, y_ggt, y_glt, y_geq, if_pos, if_neg, if_true, if_false, Option.bind_some, w5, s0, s1, y_un]
  · unfold yR0; simp (disch := omega) only [W_m_tables, W_m_weeks, W_m_runs, W_m_surprises, W_m_sums, W_m_settings, W_m_sizes, W_m_guesses, W_m_shares, W_m_memories, W_m_ages, W_m_surprisesOf, W_m_told, pu_e, pu_n, y_ue, y_un, y_ve, y_vn, true_and, and_true]; exact w1
  · intro t ht
    unfold yR0 at ht ⊢
    simp (disch := omega) only [W_m_tables, W_m_weeks, W_m_runs, W_m_surprises, W_m_sums, W_m_settings, W_m_sizes, W_m_guesses, W_m_shares, W_m_memories, W_m_ages, W_m_surprisesOf, W_m_told, pu_e, pu_n, y_ue, y_un, y_ve, y_vn, true_and, and_true] at ht
    have := w2 t ht
    simp (disch := omega) only [W_m_tables, W_m_weeks, W_m_runs, W_m_surprises, W_m_sums, W_m_settings, W_m_sizes, W_m_guesses, W_m_shares, W_m_memories, W_m_ages, W_m_surprisesOf, W_m_told, pu_e, pu_n, y_ue, y_un, y_ve, y_vn, true_and, and_true]
    exact this
  · intro c hc
    have := w3 c hc
    have hq := yq_lt c hc
    unfold yR0
    simp (disch := omega) only [W_m_tables, W_m_weeks, W_m_runs, W_m_surprises, W_m_sums, W_m_settings, W_m_sizes, W_m_guesses, W_m_shares, W_m_memories, W_m_ages, W_m_surprisesOf, W_m_told, pu_e, pu_n, y_ue, y_un, y_ve, y_vn, true_and, and_true]
    exact this
  · unfold yR0; simp (disch := omega) only [W_m_tables, W_m_weeks, W_m_runs, W_m_surprises, W_m_sums, W_m_settings, W_m_sizes, W_m_guesses, W_m_shares, W_m_memories, W_m_ages, W_m_surprisesOf, W_m_told, pu_e, pu_n, y_ue, y_un, y_ve, y_vn, true_and, and_true]; exact w4
  · unfold yR0; simp (disch := omega) only [W_m_tables, W_m_weeks, W_m_runs, W_m_surprises, W_m_sums, W_m_settings, W_m_sizes, W_m_guesses, W_m_shares, W_m_memories, W_m_ages, W_m_surprisesOf, W_m_told, pu_e, pu_n, y_ue, y_un, y_ve, y_vn, true_and, and_true]
  · unfold yR0; simp (disch := omega) only [W_m_tables, W_m_weeks, W_m_runs, W_m_surprises, W_m_sums, W_m_settings, W_m_sizes, W_m_guesses, W_m_shares, W_m_memories, W_m_ages, W_m_surprisesOf, W_m_told, pu_e, pu_n, y_ue, y_un, y_ve, y_vn, true_and, and_true]; exact w6
  · intro i hi
    have q : i = 0 ∨ i = 1 ∨ i = 2 ∨ i = 3 := by omega
    rcases q with q | q | q | q <;> subst q <;> rfl
  · intro i hi; have := w8 i hi; unfold yR0; simp (disch := omega) only [W_m_tables, W_m_weeks, W_m_runs, W_m_surprises, W_m_sums, W_m_settings, W_m_sizes, W_m_guesses, W_m_shares, W_m_memories, W_m_ages, W_m_surprisesOf, W_m_told, pu_e, pu_n, y_ue, y_un, y_ve, y_vn, true_and, and_true]; exact this
  · intro c hc hm
    have := w9 c hc
    have hq := yq_lt c hc
    unfold yR0 at hm ⊢
    simp (disch := omega) only [W_m_tables, W_m_weeks, W_m_runs, W_m_surprises, W_m_sums, W_m_settings, W_m_sizes, W_m_guesses, W_m_shares, W_m_memories, W_m_ages, W_m_surprisesOf, W_m_told, pu_e, pu_n, y_ue, y_un, y_ve, y_vn, true_and, and_true] at hm ⊢
    exact this hm
  · intro c hc
    have := w10 c hc
    have hq := yq_lt c hc
    unfold yR0
    simp (disch := omega) only [W_m_tables, W_m_weeks, W_m_runs, W_m_surprises, W_m_sums, W_m_settings, W_m_sizes, W_m_guesses, W_m_shares, W_m_memories, W_m_ages, W_m_surprisesOf, W_m_told, pu_e, pu_n, y_ue, y_un, y_ve, y_vn, true_and, and_true]
    exact this
  · intro k hk hk2 j hj
    unfold yR0 at hk2 ⊢
    simp (disch := omega) only [W_m_tables, W_m_weeks, W_m_runs, W_m_surprises, W_m_sums, W_m_settings, W_m_sizes, W_m_guesses, W_m_shares, W_m_memories, W_m_ages, W_m_surprisesOf, W_m_told, pu_e, pu_n, y_ue, y_un, y_ve, y_vn, true_and, and_true] at hk2
    have := w11 k hk hk2 j hj
    simp (disch := omega) only [W_m_tables, W_m_weeks, W_m_runs, W_m_surprises, W_m_sums, W_m_settings, W_m_sizes, W_m_guesses, W_m_shares, W_m_memories, W_m_ages, W_m_surprisesOf, W_m_told, pu_e, pu_n, y_ue, y_un, y_ve, y_vn, true_and, and_true]
    exact this
theorem y_2pow {ρ : Nat → Nat} (h : INp ρ) {S : Nat} (hS : S < 2 ^ ρ 0) : S < 128 := Nat.lt_of_lt_of_le hS (y_pow7 _ h.1)
theorem c_runIn {N : Nat} {P1 P2 : TP} {w : TW} {ρ : Nat → Nat} {σ : Nat → Int64} {S : Nat} (hw : WRf w ρ σ) (hi : INf N ρ) (hN : N < 800000) (hS : S < 2 ^ ρ 0) : ∃ P1' P2' w', f_X8_runIn P1 P2 w (nI S) = some (nI (yRn S ρ 307 - ρ 307), (P1', P2', w')) ∧ WRf w' (yRn S ρ) (yσ ρ S σ) := by
  obtain ⟨Q1, Q2, a1, a2, a3⟩ := c_regret (P1 := P1) (P2 := P2) hw.1 hi.1 hS
  obtain ⟨w1, b1, b2⟩ := c_note (S := S) hw hi.1.1
  have hS7 := y_2pow hi.1 hS
  obtain ⟨w2, d1, d2⟩ := c_learn (S := S) (b2.b True) hi.r0 (by omega) (by omega)
  refine ⟨Q1, Q2, w2, ?_, d2.f⟩
  unfold f_X8_runIn
  rw [a1]
  show ((f_X7_noteRun w (P_restOf Q2 0 + yCost ρ S 2) (yCost ρ S 2)).bind fun o3 => (f_X7_learn o3.2 (nI S)).bind fun o4 => some (o4.1, Q1, Q2, o4.2)) = _
  rw [show P_restOf Q2 0 + yCost ρ S 2 = yCost ρ S 1 from by
    rw [a3.2.1]
    show lN _ + (lN (yTr ρ 1 2 S) - lN _) = lN (yTr ρ 1 2 S)
    rw [Int64.add_comm, Int64.sub_add_cancel], b1]
  show ((f_X7_learn w1 (nI S)).bind fun o4 => some (o4.1, Q1, Q2, o4.2)) = _
  rw [d1]
  rfl
theorem x_runOn {N : Nat} {M : TM} {cb pb tp : Nat → Int64} {pl : Nat → Int32} {r : Nat → Int64} {ρ : Nat → Nat} {σ : Nat → Int64} {S : Nat} (hr : RRf r ρ σ) (hi : INf N ρ) (hN : N < 800000) (hS : S < 2 ^ ρ 0) : ∃ x cb' pb' tp' pl' r', f_X9_runOn 353 M cb pb tp pl r (nI S) = some (nI (yRn S ρ 307 - ρ 307), (Mpl M x, cb', pb', tp', pl', r')) ∧ RRf r' (yRn S ρ) (yσ ρ S σ) := by
  obtain ⟨x1, cb1, pb1, tp1, pl1, a1⟩ := x_cost (M := M) (cb := cb) (pb := pb) (tp := tp) (pl := pl) (what := 1) hr.p hi.1 hS (by omega)
  obtain ⟨x2, cb2, pb2, tp2, pl2, b1⟩ := x_cost (M := Mpl M x1) (cb := cb1) (pb := pb1) (tp := tp1) (pl := pl1) (what := 2) hr.p hi.1 hS (by omega)
  have hS7 := y_2pow hi.1 hS
  obtain ⟨F, hF, hF1⟩ := y_fuel
  have h0 := hr.2 0 (by omega)
  have h1 := hr.2 1 (by omega)
  have h306 := hr.1 306 (by omega) (by omega)
  have hr2 : RRf (vp_updL (vp_updL (vp_updL (vp_updL (vp_updL r 308 (σ 0 + yCost ρ S 1)) 309 (σ 1 + yCost ρ S 2)) 310 (yCost ρ S 1)) 311 (yCost ρ S 2)) 306 (lN (ρ 306 + 1))) (yR0 ρ) (yσ ρ S σ) := by
    refine ⟨fun j hj hj2 => ?_, fun j hj => ?_⟩
    · unfold yR0
      by_cases z : j = 306
      · simp (disch := omega) only [W_m_tables, W_m_weeks, W_m_runs, W_m_surprises, W_m_sums, W_m_settings, W_m_sizes, W_m_guesses, W_m_shares, W_m_memories, W_m_ages, W_m_surprisesOf, W_m_told, pu_e, pu_n, y_ue, y_un, y_ve, y_vn, true_and, and_true]
      · have := hr.1 j hj hj2
        simp (disch := omega) only [W_m_tables, W_m_weeks, W_m_runs, W_m_surprises, W_m_sums, W_m_settings, W_m_sizes, W_m_guesses, W_m_shares, W_m_memories, W_m_ages, W_m_surprisesOf, W_m_told, pu_e, pu_n, y_ue, y_un, y_ve, y_vn, true_and, and_true]
        exact this
    · have q : j = 0 ∨ j = 1 ∨ j = 2 ∨ j = 3 := by omega
      rcases q with q | q | q | q <;> subst q <;> rfl
  obtain ⟨r', c', d1, d2, d3⟩ := x_64 (M := Mpl M x2) (cb := cb2) (pb := pb2) (tp := tp2) (pl := pl2) (S := S) (by omega) 7 0 F 0 _ _ (N + 1) rfl (by omega) hr2 hi.r0 (by omega)
  refine ⟨x2, cb2, pb2, tp2, pl2, r', ?_, d3⟩
  have e307 : yR0 ρ 307 = ρ 307 := pu_n (by omega)
  have hc : c' = yRn S ρ 307 - ρ 307 := by
    unfold yRn yLn
    omega
  rw [← hc]
  unfold f_X9_runOn
  rw [y_c1, a1]
  show ((f_X9_costOn 353 (Mpl M x1) cb1 pb1 tp1 pl1 r (nI S) (2 : Int32)).bind _) = _
  rw [y_c2, b1, hF]
  simp (disch := omega) only [y_c0, y_c1, y_c10, y_c100, y_c1000, y_c10000, y_c100000, y_c106, y_c112, y_c116, y_c127, y_c128, y_c13, y_c14, y_c155, y_c2, y_c20, y_c200, y_c204, y_c21, y_c253, y_c255, y_c3, y_c30, y_c302, y_c303, y_c304, y_c305, y_c306, y_c307, y_c308, y_c309, y_c310, y_c311, y_c312, y_c313, y_c314, y_c315, y_c316, y_c32, y_c33, y_c353, y_c39, y_c4, y_c40, y_c44, y_c4589, y_c48, y_c49, y_c5, y_c512, y_c54, y_c57, y_c59, y_c6, y_c62, y_c64, y_c7, y_c8, y_c9, y_c99, y_c9999, y_d0, y_d1, y_d10, y_d100, y_d1000000, y_d1442695040888963407, y_d2, y_d20, y_d255, y_d3, y_d4, y_d40, y_d4294967295, y_d48, y_d5, y_d50, y_d54, y_d57, y_d6364136223846793005, y_d7, y_d9, y_d9999, y_dR, y_dS, y_dk, y_nar0, y_nar1, y_Ilt, y_Ile, y_Ieq, y_Iadd, y_Imul, y_Idiv, y_Llt, y_Lle, y_Leq, y_Ladd, y_Lmul, y_Ldiv, y_I2l, y_L2i, y_shn, y_or, y_and, y_bn1, y_bn0, y_inb, y_cl, y_gle, y_gge, y_ggt, y_glt, y_geq, if_pos, if_neg, if_true, if_false, Option.bind_some, h0, h1, h306, y_un]
  exact d1
theorem yRn_7 (S : Nat) (ρ : Nat → Nat) : ρ 307 ≤ yRn S ρ 307 := by
  have := yLn_7 S (yR0 ρ)
  rw [show yR0 ρ 307 = ρ 307 from pu_n (by omega)] at this
  exact this
theorem INf.rn {N S : Nat} {ρ : Nat → Nat} (h : INf N ρ) : INf (N + 50) (yRn S ρ) := by
  have := yLn_i (S := S) h.r0
  rw [show N + 1 + 49 = N + 50 by omega] at this
  exact this
theorem s_run {N : Nat} {P1 P2 : TP} {M : TM} {cb pb tp : Nat → Int64} {pl : Nat → Int32} {w : TW} {r : Nat → Int64} {ρ : Nat → Nat} {σ : Nat → Int64} {S : Nat} (h : ST N w r ρ σ) (hN : N < 800000) (hS : S < 2 ^ ρ 0) :
    ∃ P1' P2' w' n x cb' pb' tp' pl' r', f_X8_runIn P1 P2 w (nI S) = some (nI n, (P1', P2', w')) ∧ f_X9_runOn 353 M cb pb tp pl r (nI S) = some (nI n, (Mpl M x, cb', pb', tp', pl', r')) ∧ ST (N + 50) w' r' (yRn S ρ) (yσ ρ S σ) ∧ n < 1000000 := by
  obtain ⟨hw, hr, hi⟩ := h
  obtain ⟨P1', P2', w', a1, a2⟩ := c_runIn (P1 := P1) (P2 := P2) hw hi hN hS
  obtain ⟨x, cb', pb', tp', pl', r', b1, b2⟩ := x_runOn (M := M) (cb := cb) (pb := pb) (tp := tp) (pl := pl) hr hi hN hS
  have := (hi.rn (S := S)).2.2.1
  exact ⟨P1', P2', w', _, x, cb', pb', tp', pl', r', a1, b1, ⟨a2, b2, hi.rn⟩, by omega⟩
