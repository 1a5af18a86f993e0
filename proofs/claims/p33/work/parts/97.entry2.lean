def Msq (M : TM) (s o : Nat) : TM := M_mk (M_refusal M) (M_size M) (M_acts M) (M_planned M) (nI s) (nI o)
theorem Msp_q {M : TM} {o : Nat} (h : M_out M = nI o) (j : Nat) : Msp M j = Msq M j o := by unfold Msp Msq; rw [h]
theorem Msp_i {M : TM} {i o : Nat} (h : M_out M = nI o) (h2 : M_spot M = nI i) : M = Msq M i o := by unfold Msq; rw [← h, ← h2]; rfl
def CMP (E : TE) : Prop := ∃ p v, E_place E = nI p ∧ (p = 3 ∨ p = 5) ∧ E_number E = nI v ∧ 0 < v ∧ v ≤ 9999
theorem c_two {w : TW} {ρ : Nat → Nat} (hw : WRp w ρ) (h7 : ρ 0 ≤ 7) {a b : Nat} (ha : a < 2147483648) (hb : b < 2147483648) : f_X7_hasTwoTables w (nI a) (nI b) = some (if a < ρ 0 ∧ b < ρ 0 ∧ a ≠ b then nI 1 else nI 0, ()) := by
  have e1 := c_hasT hw h7 ha
  have e2 := c_hasT hw h7 hb
  by_cases q1 : a < ρ 0
  · by_cases q2 : b < ρ 0
    · by_cases q3 : a = b
      · simp (disch := omega) only [y_c0, y_c1, y_c10, y_c100, y_c1000, y_c10000, y_c100000, y_c106, y_c112, y_c116, y_c127, y_c128, y_c13, y_c14, y_c155, y_c2, y_c20, y_c200, y_c204, y_c21, y_c253, y_c255, y_c3, y_c30, y_c302, y_c303, y_c304, y_c305, y_c306, y_c307, y_c308, y_c309, y_c310, y_c311, y_c312, y_c313, y_c314, y_c315, y_c316, y_c32, y_c33, y_c353, y_c39, y_c4, y_c40, y_c44, y_c4589, y_c48, y_c49, y_c5, y_c512, y_c54, y_c57, y_c59, y_c6, y_c62, y_c64, y_c7, y_c8, y_c9, y_c99, y_c9999, y_d0, y_d1, y_d10, y_d100, y_d1000000, y_d1442695040888963407, y_d2, y_d20, y_d255, y_d3, y_d4, y_d40, y_d4294967295, y_d48, y_d5, y_d50, y_d54, y_d57, y_d6364136223846793005, y_d7, y_d9, y_d9999, y_dR, y_dS, y_dk, y_nar0, y_nar1, y_Ilt, y_Ile, y_Ieq, y_Iadd, y_Imul, y_Idiv, y_Llt, y_Lle, y_Leq, y_Ladd, y_Lmul, y_Ldiv, y_I2l, y_L2i, y_shn, y_or, y_and, y_bn1, y_bn0, y_inb, y_cl, y_gle, y_gge, y_ggt, y_glt, y_geq, if_pos, if_neg, if_true, if_false, Option.bind_some, f_X7_hasTwoTables, e1, e2]
      · simp (disch := omega) only [y_c0, y_c1, y_c10, y_c100, y_c1000, y_c10000, y_c100000, y_c106, y_c112, y_c116, y_c127, y_c128, y_c13, y_c14, y_c155, y_c2, y_c20, y_c200, y_c204, y_c21, y_c253, y_c255, y_c3, y_c30, y_c302, y_c303, y_c304, y_c305, y_c306, y_c307, y_c308, y_c309, y_c310, y_c311, y_c312, y_c313, y_c314, y_c315, y_c316, y_c32, y_c33, y_c353, y_c39, y_c4, y_c40, y_c44, y_c4589, y_c48, y_c49, y_c5, y_c512, y_c54, y_c57, y_c59, y_c6, y_c62, y_c64, y_c7, y_c8, y_c9, y_c99, y_c9999, y_d0, y_d1, y_d10, y_d100, y_d1000000, y_d1442695040888963407, y_d2, y_d20, y_d255, y_d3, y_d4, y_d40, y_d4294967295, y_d48, y_d5, y_d50, y_d54, y_d57, y_d6364136223846793005, y_d7, y_d9, y_d9999, y_dR, y_dS, y_dk, y_nar0, y_nar1, y_Ilt, y_Ile, y_Ieq, y_Iadd, y_Imul, y_Idiv, y_Llt, y_Lle, y_Leq, y_Ladd, y_Lmul, y_Ldiv, y_I2l, y_L2i, y_shn, y_or, y_and, y_bn1, y_bn0, y_inb, y_cl, y_gle, y_gge, y_ggt, y_glt, y_geq, if_pos, if_neg, if_true, if_false, Option.bind_some, f_X7_hasTwoTables, e1, e2]
    · simp (disch := omega) only [y_c0, y_c1, y_c10, y_c100, y_c1000, y_c10000, y_c100000, y_c106, y_c112, y_c116, y_c127, y_c128, y_c13, y_c14, y_c155, y_c2, y_c20, y_c200, y_c204, y_c21, y_c253, y_c255, y_c3, y_c30, y_c302, y_c303, y_c304, y_c305, y_c306, y_c307, y_c308, y_c309, y_c310, y_c311, y_c312, y_c313, y_c314, y_c315, y_c316, y_c32, y_c33, y_c353, y_c39, y_c4, y_c40, y_c44, y_c4589, y_c48, y_c49, y_c5, y_c512, y_c54, y_c57, y_c59, y_c6, y_c62, y_c64, y_c7, y_c8, y_c9, y_c99, y_c9999, y_d0, y_d1, y_d10, y_d100, y_d1000000, y_d1442695040888963407, y_d2, y_d20, y_d255, y_d3, y_d4, y_d40, y_d4294967295, y_d48, y_d5, y_d50, y_d54, y_d57, y_d6364136223846793005, y_d7, y_d9, y_d9999, y_dR, y_dS, y_dk, y_nar0, y_nar1, y_Ilt, y_Ile, y_Ieq, y_Iadd, y_Imul, y_Idiv, y_Llt, y_Lle, y_Leq, y_Ladd, y_Lmul, y_Ldiv, y_I2l, y_L2i, y_shn, y_or, y_and, y_bn1, y_bn0, y_inb, y_cl, y_gle, y_gge, y_ggt, y_glt, y_geq, if_pos, if_neg, if_true, if_false, Option.bind_some, f_X7_hasTwoTables, e1, e2]
  · simp (disch := omega) only [y_c0, y_c1, y_c10, y_c100, y_c1000, y_c10000, y_c100000, y_c106, y_c112, y_c116, y_c127, y_c128, y_c13, y_c14, y_c155, y_c2, y_c20, y_c200, y_c204, y_c21, y_c253, y_c255, y_c3, y_c30, y_c302, y_c303, y_c304, y_c305, y_c306, y_c307, y_c308, y_c309, y_c310, y_c311, y_c312, y_c313, y_c314, y_c315, y_c316, y_c32, y_c33, y_c353, y_c39, y_c4, y_c40, y_c44, y_c4589, y_c48, y_c49, y_c5, y_c512, y_c54, y_c57, y_c59, y_c6, y_c62, y_c64, y_c7, y_c8, y_c9, y_c99, y_c9999, y_d0, y_d1, y_d10, y_d100, y_d1000000, y_d1442695040888963407, y_d2, y_d20, y_d255, y_d3, y_d4, y_d40, y_d4294967295, y_d48, y_d5, y_d50, y_d54, y_d57, y_d6364136223846793005, y_d7, y_d9, y_d9999, y_dR, y_dS, y_dk, y_nar0, y_nar1, y_Ilt, y_Ile, y_Ieq, y_Iadd, y_Imul, y_Idiv, y_Llt, y_Lle, y_Leq, y_Ladd, y_Lmul, y_Ldiv, y_I2l, y_L2i, y_shn, y_or, y_and, y_bn1, y_bn0, y_inb, y_cl, y_gle, y_gge, y_ggt, y_glt, y_geq, if_pos, if_neg, if_true, if_false, Option.bind_some, f_X7_hasTwoTables, e1, e2]
def ENT (N L i o : Nat) (c : Nat → Nat) (M : TM) (mt : Nat → Int32) (r : Nat → Int64) (w : TW) (σ : Nat → Int64) (E : TE) : Prop :=
  ∃ ok j o' r' E', f_X9_readEntry 353 M mt r = some (nI ok, (Msq M j o', r')) ∧ i ≤ j ∧ j ≤ L ∧ RUN c (j - i) i E E' ∧
    ((ok = 0 ∧ STK L c j E') ∨ (ok = 1 ∧ CMP E' ∧ (j < L → c j < 48 ∨ 57 < c j) ∧ i < j ∧ ∃ w' ρ' b, b ≤ 1 ∧ f_X8_doEntry E' w = some (nI b, w') ∧ ST N w' r' ρ' σ ∧ o' + b = o + 1))
theorem x_entT {N L i o : Nat} {c : Nat → Nat} {M : TM} {mt : Nat → Int32} {r : Nat → Int64} {w : TW} {ρ : Nat → Nat} {σ : Nat → Int64} {E : TE} (hM : RTX M mt L c i) (ho : M_out M = nI o) (hE : E_place E = nI 0) (h : ST N w r ρ σ) (hc : i < L ∧ c i = 116) : ENT N L i o c M mt r w σ E := by
  obtain ⟨hc1, hc2⟩ := hc
  have tk := x_tk (lo := 116) (hi := 116) hM (by omega) (by omega)
  rw [if_pos (by omega)] at tk
  have hte := t_entry (d := c i) hE (by omega)
  rw [if_pos hc2] at hte
  have hr1 : RUN c (i + 1 - i) i E (E_mk (nI 3) (E_first E) (E_second E) (E_guess E) (nI 0)) := by
    rw [show i + 1 - i = 1 by omega]; exact RUN.one (by omega) hte
  obtain ⟨j, x, v', n0, n1, n2, n3, n4, n5⟩ := x_number (mt := mt) (p := 3) (mx := 9999) (E := E_mk (nI 3) (E_first E) (E_second E) (E_guess E) (nI 0)) (Or.inl rfl) rfl (hM.sp (show i + 1 ≤ L by omega)) rfl rfl
  have hr2 := hr1.to n4 (by omega) n1
  have hfun : f_X9_readEntry 353 M mt r = (if x = (-1 : Int32) then (f_X9_readEntry_J44 353 mt x (Msp M j) r) else (if inb (0 : Int32) 353 = true then (if (0 : Int32) ≤ (lg_cmp (r (0 : Int32).toNatClampNeg) (7 : Int64)) then (f_X9_readEntry_J44 353 mt x (Msp M j) r) else ((f_X9_addOn 353 r x).bind fun o28 => (f_X9_readEntry_J54 353 mt x (Msp M j) o28.2))) else none)) := by
    unfold f_X9_readEntry
    rw [show (116 : Int32) = nI 116 from rfl, tk]
    simp only [Option.bind_some]
    rw [if_neg (e4_no' _ (by omega)), show (9999 : Int32) = nI 9999 from rfl, n0]
    rfl
  have h44 : f_X9_readEntry_J44 353 mt x (Msp M j) r = (if x = (-1 : Int32) then some ((0 : Int32), (Msq M j (o + 1), r)) else some ((1 : Int32), (Msq M j (o + 1), r))) := by
    unfold f_X9_readEntry_J44 f_X9_readEntry_J54
    show (if x = (-1 : Int32) then some ((0 : Int32), (M_mk _ _ _ _ _ (M_out M + (1 : Int32)), r)) else some ((1 : Int32), (M_mk _ _ _ _ _ (M_out M + (1 : Int32)), r))) = _
    rw [ho, y_c1, y_Iadd]; rfl
  rcases n5 with ⟨n5, n6, n7⟩ | ⟨n5, n6⟩
  · have hx : ¬ x = (-1 : Int32) := by
      rw [n5]
      exact fun z => by
        have := y_m1n
        rw [← z] at this
        exact y_pos (by omega) this
    rw [if_neg hx, if_pos (by decide)] at hfun
    rw [if_neg hx] at h44
    have r0 := h.2.1.1 0 (by omega) (by omega)
    have h7 := h.2.2.1.1
    have hcm : CMP (Enum (E_mk (nI 3) (E_first E) (E_second E) (E_guess E) (nI 0)) v') := ⟨3, v', rfl, Or.inl rfl, rfl, by omega, by omega⟩
    by_cases q : ρ 0 < 7
    · obtain ⟨w', r', a1, a2, a3⟩ := s_add h (z := v') ⟨by omega, by omega⟩ q
      refine ⟨1, j, o, r', _, ?_, by omega, n2, hr2, Or.inr ⟨rfl, hcm, n7, by omega, w', _, 1, by omega, ?_, a3, rfl⟩⟩
      · rw [hfun, show (7 : Int64) = lN 7 from rfl, show r (0 : Int32).toNatClampNeg = lN (ρ 0) from r0, if_neg (show ¬ (0 : Int32) ≤ lg_cmp (lN (ρ 0)) (lN 7) from fun z => by have := (y_Lle (by omega) (by omega)).mp ((lg_cmp_ge _ _).mp z); omega), n5, a2]
        show f_X9_readEntry_J54 353 mt (nI v') (Msp M j) r' = _
        unfold f_X9_readEntry_J54
        rw [← n5, if_neg hx, Msp_q ho]; rfl
      · unfold f_X8_doEntry
        rw [show f_X0_isTable (Enum (E_mk (nI 3) (E_first E) (E_second E) (E_guess E) (nI 0)) v') = some (nI 1, ()) from rfl, Option.bind_some, if_neg y_z1]
        have : f_X7_isFull w = some (nI 0, ()) := by
          unfold f_X7_isFull
          rw [h.1.1.1, if_pos (show nI (ρ 0) < (7 : Int32) from (y_Ilt (b := 7) (by omega) (by omega)).mpr q)]; rfl
        rw [this, Option.bind_some, if_pos y_z0, show E_number (Enum (E_mk (nI 3) (E_first E) (E_second E) (E_guess E) (nI 0)) v') = nI v' from rfl, a1]; rfl
    · refine ⟨1, j, o + 1, r, _, ?_, by omega, n2, hr2, Or.inr ⟨rfl, hcm, n7, by omega, w, ρ, 0, by omega, ?_, h, rfl⟩⟩
      · rw [hfun, show (7 : Int64) = lN 7 from rfl, show r (0 : Int32).toNatClampNeg = lN (ρ 0) from r0, if_pos ((lg_cmp_ge _ _).mpr ((y_Lle (by omega) (by omega)).mpr (by omega))), h44]; rfl
      · unfold f_X8_doEntry
        rw [show f_X0_isTable (Enum (E_mk (nI 3) (E_first E) (E_second E) (E_guess E) (nI 0)) v') = some (nI 1, ()) from rfl, Option.bind_some, if_neg y_z1]
        have : f_X7_isFull w = some (nI 1, ()) := by
          unfold f_X7_isFull
          rw [h.1.1.1, if_neg (show ¬ nI (ρ 0) < (7 : Int32) from fun z => q ((y_Ilt (b := 7) (by omega) (by omega)).mp z))]; rfl
        rw [this, Option.bind_some]
        exact if_neg y_z1
  · rw [if_pos n5, h44, if_pos n5] at hfun
    exact ⟨0, j, o + 1, r, _, hfun, by omega, n2, hr2, Or.inl ⟨rfl, n6⟩⟩
theorem x_entP {N L i o : Nat} {c : Nat → Nat} {M : TM} {mt : Nat → Int32} {r : Nat → Int64} {w : TW} {ρ : Nat → Nat} {σ : Nat → Int64} {E : TE} (hM : RTX M mt L c i) (ho : M_out M = nI o) (hE : E_place E = nI 0) (h : ST N w r ρ σ) (hc : ¬ (i < L ∧ c i = 116)) : ENT N L i o c M mt r w σ E := by
  have tk := x_tk (lo := 116) (hi := 116) hM (by omega) (by omega)
  rw [if_neg (by omega)] at tk
  have tk2 := x_tk (lo := 112) (hi := 112) hM (by omega) (by omega)
  have hil := hM.2.2.2.1
  have f1 : f_X9_readEntry 353 M mt r = ((f_X9_taken M mt (112 : Int32) (112 : Int32)).bind fun o3 => (if o3.1 = (-1 : Int32) then (some ((0 : Int32), (o3.2, r))) else ((f_X9_taken o3.2 mt (48 : Int32) (54 : Int32)).bind fun o5 => (if o5.1 = (-1 : Int32) then (some ((0 : Int32), (o5.2, r))) else ((f_X9_sign o5.2 mt).bind fun o7 => (if o7.1 = ((48 : Int32) + o5.1) then (some ((0 : Int32), (o5.2, r))) else ((f_X9_taken o5.2 mt (48 : Int32) (54 : Int32)).bind fun o9 => (if o9.1 = (-1 : Int32) then (f_X9_readEntry_J131 353 mt o5.1 o9.1 (-1 : Int32) o9.2 r) else ((f_X9_number o9.2 mt (1000 : Int32)).bind fun o11 => (f_X9_readEntry_J131 353 mt o5.1 o9.1 o11.1 o11.2 r)))))))))) := by
    unfold f_X9_readEntry
    rw [show (116 : Int32) = nI 116 from rfl, tk, Option.bind_some]
    exact if_pos rfl
  rw [show (112 : Int32) = nI 112 from rfl, tk2] at f1
  by_cases q1 : i < L ∧ c i = 112
  · obtain ⟨p1, p2⟩ := q1
    rw [if_pos (by omega)] at f1
    have hte := t_entry (d := c i) hE (by omega)
    rw [if_neg (by omega), if_pos p2] at hte
    have hr1 : RUN c (i + 1 - i) i E (E_mk (nI 1) (E_first E) (E_second E) (E_guess E) (nI 0)) := by
      rw [show i + 1 - i = 1 by omega]; exact RUN.one (by omega) hte
    have hM1 := hM.sp (show i + 1 ≤ L by omega)
    have tk3 := x_tk (lo := 48) (hi := 54) hM1 (by omega) (by omega)
    simp only [Option.bind_some] at f1
    rw [if_neg (e4_no' (c i - 112) (by omega))] at f1
    rw [show (48 : Int32) = nI 48 from rfl, show (54 : Int32) = nI 54 from rfl] at f1
    have f2 := f1
    rw [tk3] at f2
    by_cases q2 : i + 1 < L ∧ 48 ≤ c (i + 1) ∧ c (i + 1) ≤ 54
    · rw [if_pos q2] at f2
      have b1 := (hM.2.2.2.2 (i + 1) q2.1).2
      have ht1 := (t_first (E := E_mk (nI 1) (E_first E) (E_second E) (E_guess E) (nI 0)) (d := c (i + 1)) rfl b1).1 ⟨q2.2.1, q2.2.2⟩
      generalize hadef : c (i + 1) - 48 = a at f2 ht1
      have ha7 : a < 7 := by omega
      have hr2 := hr1.to (k := i + 2) (by rw [show i + 2 - (i + 1) = 1 by omega]; exact RUN.one (by omega) ht1) (by omega) (by omega)
      simp only [Option.bind_some] at f2
      rw [if_neg (e4_no' a (by omega))] at f2
      have hM2 := hM1.sp (show i + 1 + 1 ≤ L by omega)
      have hs := x_sign hM2
      have tk4 := x_tk (lo := 48) (hi := 54) hM2 (by omega) (by omega)
      rw [hs] at f2
      simp only [Option.bind_some] at f2
      by_cases q3 : i + 1 + 1 < L ∧ c (i + 1 + 1) = 48 + a
      · rw [if_pos q3.1, q3.2] at f2
        replace f2 := f2.trans (if_pos (show nI (48 + a) = nI 48 + nI a from (y_Iadd _ _).symm))
        have b2 := (hM.2.2.2.2 (i + 1 + 1) q3.1).2
        refine ⟨0, i + 2, o, r, _, f2.trans ?_, by omega, by omega, hr2, Or.inl ⟨rfl, Or.inl ⟨q3.1, (t_second (f := a) rfl rfl ha7 b2).2 (by omega)⟩⟩⟩
        show some ((0 : Int32), (Msp M (i + 2), r)) = _
        rw [Msp_q ho]; rfl
      · have hne : ¬ (if i + 1 + 1 < L then nI (c (i + 1 + 1)) else (-1 : Int32)) = nI 48 + nI a := by
          rw [y_Iadd]
          by_cases z : i + 1 + 1 < L
          · rw [if_pos z]
            exact fun y => q3 ⟨z, (y_Ieq (by have := (hM.2.2.2.2 (i + 1 + 1) z).2; omega) (by omega)).mp y⟩
          · rw [if_neg z]
            exact fun y => e4_no' (48 + a) (by omega) y.symm
        rw [if_neg hne, tk4] at f2
        by_cases q4 : i + 1 + 1 < L ∧ 48 ≤ c (i + 1 + 1) ∧ c (i + 1 + 1) ≤ 54
        · rw [if_pos q4] at f2
          have b2 := (hM.2.2.2.2 (i + 1 + 1) q4.1).2
          have ht2 := (t_second (E := E_mk (nI 2) (nI a) (E_second E) (E_guess E) (nI 0)) (f := a) rfl rfl ha7 b2).1 ⟨q4.2.1, q4.2.2, fun y => q3 ⟨q4.1, y⟩⟩
          have hbne : c (i + 1 + 1) - 48 ≠ a := by omega
          generalize hbdef : c (i + 1 + 1) - 48 = b at f2 ht2 hbne
          have hb7 : b < 7 := by omega
          have hr3 := hr2.to (k := i + 3) (by rw [show i + 3 - (i + 2) = 1 by omega]; exact RUN.one (show c (i + 1 + 1) ≠ 59 by omega) ht2) (by omega) (by omega)
          simp only [Option.bind_some] at f2
          rw [if_neg (e4_no' b (by omega))] at f2
          have hM3 := hM2.sp (show i + 1 + 1 + 1 ≤ L by omega)
          obtain ⟨j, x, g, n0, n1, n2, n3, n4, n5⟩ := x_number (mt := mt) (p := 4) (mx := 1000) (E := E_mk (nI 4) (nI a) (nI b) (E_guess E) (nI 0)) (Or.inr (Or.inl rfl)) rfl hM3 rfl rfl
          have hr4 := hr3.to n4 (by omega) n1
          rw [show (1000 : Int32) = nI 1000 from rfl, n0] at f2
          simp only [Option.bind_some] at f2
          replace f2 := f2.trans (show _ = f_X9_readEntry_J131 353 mt (nI a) (nI b) x (Msp M j) r from rfl)
          unfold f_X9_readEntry_J131 at f2
          rcases n5 with ⟨n5, n6, n7⟩ | ⟨n5, n6⟩
          · have hx : ¬ x = (-1 : Int32) := by
              rw [n5]
              exact fun z => by
                have := y_m1n
                rw [← z] at this
                exact y_pos (by omega) this
            rw [if_neg hx] at f2
            have hMj := hM.sp n2
            have tk5 := x_tk (lo := 44) (hi := 44) hMj (by omega) (by omega)
            rw [show (44 : Int32) = nI 44 from rfl, tk5] at f2
            by_cases q5 : j < L ∧ c j = 44
            · rw [if_pos (by omega)] at f2
              have ht4 := t_comma (E := Enum (E_mk (nI 4) (nI a) (nI b) (E_guess E) (nI 0)) g) (d := c j) rfl rfl (by omega) (by omega) (by omega)
              rw [if_pos ⟨q5.2, by omega⟩] at ht4
              have hr5 := hr4.to (k := j + 1) (by rw [show j + 1 - j = 1 by omega]; exact RUN.one (by omega) ht4) (by omega) (by omega)
              simp only [Option.bind_some] at f2
              rw [if_neg (e4_no' (c j - 44) (by omega))] at f2
              obtain ⟨k, y, s, m0, m1, m2, m3, m4, m5⟩ := x_number (mt := mt) (p := 5) (mx := 1000) (E := E_mk (nI 5) (nI a) (nI b) (nI g) (nI 0)) (Or.inr (Or.inr rfl)) rfl (hMj.sp (show j + 1 ≤ L by omega)) rfl rfl
              have hr6 := hr5.to m4 (by omega) m1
              rw [show (1000 : Int32) = nI 1000 from rfl, m0] at f2
              simp only [Option.bind_some] at f2
              have h198 : f_X9_readEntry_J198 353 mt y (Msp M k) r = (if y = (-1 : Int32) then some ((0 : Int32), (Msq M k (o + 1), r)) else some ((1 : Int32), (Msq M k (o + 1), r))) := by
                unfold f_X9_readEntry_J198 f_X9_readEntry_J208
                show (if y = (-1 : Int32) then some ((0 : Int32), (M_mk _ _ _ _ _ (M_out M + (1 : Int32)), r)) else some ((1 : Int32), (M_mk _ _ _ _ _ (M_out M + (1 : Int32)), r))) = _
                rw [ho, y_c1, y_Iadd]; rfl
              rcases m5 with ⟨m5, m6, m7⟩ | ⟨m5, m6⟩
              · have hy : ¬ y = (-1 : Int32) := by
                  rw [m5]
                  exact fun z => by
                    have := y_m1n
                    rw [← z] at this
                    exact y_pos (by omega) this
                rw [if_neg hy] at h198
                rw [if_neg hy] at f2
                have t1 := x_isT h.2.1.p h.2.2.1.1 (j := a) (by omega)
                have t2 := x_isT h.2.1.p h.2.2.1.1 (j := b) (by omega)
                have tw := c_two h.1.1 h.2.2.1.1 (a := a) (b := b) (by omega) (by omega)
                have hcm : CMP (Enum (E_mk (nI 5) (nI a) (nI b) (nI g) (nI 0)) s) := ⟨5, s, rfl, Or.inr rfl, rfl, by omega, by omega⟩
                have hdo : f_X8_doEntry (Enum (E_mk (nI 5) (nI a) (nI b) (nI g) (nI 0)) s) w = ((f_X7_hasTwoTables w (nI a) (nI b)).bind fun o3 => (if o3.1 = (0 : Int32) then (some ((0 : Int32), w)) else ((f_X8_pairIndex (nI a) (nI b)).bind fun o5 => ((f_X7_linkPair w o5.1 (nI g) (nI s)).bind fun o6 => (some ((1 : Int32), o6.2)))))) := by
                  unfold f_X8_doEntry
                  rw [show f_X0_isTable (Enum (E_mk (nI 5) (nI a) (nI b) (nI g) (nI 0)) s) = some (nI 0, ()) from rfl, Option.bind_some, if_pos y_z0]
                  rfl
                rw [t1, Option.bind_some] at f2
                by_cases q6 : a < ρ 0
                · rw [if_pos q6] at f2
                  rw [if_neg y_z1, t2, Option.bind_some] at f2
                  by_cases q7 : b < ρ 0
                  · rw [if_pos q7] at f2
                    replace f2 := f2.trans (if_neg y_z1)
                    rw [if_pos ⟨q6, q7, fun z => hbne z.symm⟩] at tw
                    rw [tw, Option.bind_some, if_neg y_z1, c_pair a ha7 b hb7 (fun z => hbne z.symm)] at hdo
                    obtain ⟨w', r', n, l1, l2, l3, l4⟩ := s_link h (yci_lt a ha7 b hb7 (fun z => hbne z.symm)) (g := g) (s := s) ⟨by omega, by omega⟩ ⟨by omega, by omega⟩
                    have l2' := l2 a b ha7 hb7 (fun z => hbne z.symm) rfl
                    replace hdo := hdo.trans (show _ = ((f_X7_linkPair w (nI (yci a b)) (nI g) (nI s)).bind fun o6 => (some ((1 : Int32), o6.2))) from rfl)
                    rw [l1] at hdo
                    rw [n5, m5, l2'] at f2
                    refine ⟨1, k, o, r', _, f2.trans ?_, by omega, m2, hr6, Or.inr ⟨rfl, hcm, m7, by omega, w', _, 1, by omega, hdo, l3, rfl⟩⟩
                    show f_X9_readEntry_J208 353 mt (nI s) (Msp M k) r' = _
                    unfold f_X9_readEntry_J208
                    rw [← m5, if_neg hy, Msp_q ho]; rfl
                  · rw [if_neg q7] at f2
                    rw [if_pos y_z0] at f2
                    rw [if_neg (fun z => q7 z.2.1)] at tw
                    rw [tw, Option.bind_some, if_pos y_z0] at hdo
                    exact ⟨1, k, o + 1, r, _, f2.trans h198, by omega, m2, hr6, Or.inr ⟨rfl, hcm, m7, by omega, w, ρ, 0, by omega, hdo, h, rfl⟩⟩
                · rw [if_neg q6] at f2
                  rw [if_pos y_z0] at f2
                  rw [if_neg (fun z => q6 z.1)] at tw
                  rw [tw, Option.bind_some, if_pos y_z0] at hdo
                  exact ⟨1, k, o + 1, r, _, f2.trans h198, by omega, m2, hr6, Or.inr ⟨rfl, hcm, m7, by omega, w, ρ, 0, by omega, hdo, h, rfl⟩⟩
              · rw [if_pos m5] at f2
                rw [if_pos m5] at h198
                exact ⟨0, k, o + 1, r, _, f2.trans h198, by omega, m2, hr6, Or.inl ⟨rfl, m6⟩⟩
            · rw [if_neg (by omega)] at f2
              simp only [Option.bind_some] at f2
              replace f2 := f2.trans (if_pos trivial)
              refine ⟨0, j, o, r, _, f2.trans ?_, by omega, n2, hr4, Or.inl ⟨rfl, ?_⟩⟩
              · show some ((0 : Int32), (Msp M j, r)) = _
                rw [Msp_q ho]; rfl
              · rcases Nat.lt_or_ge j L with z | z
                · have bj := (hM.2.2.2.2 j z).2
                  have ht4 := t_comma (E := Enum (E_mk (nI 4) (nI a) (nI b) (E_guess E) (nI 0)) g) (d := c j) rfl rfl (by omega) (n7 z) bj
                  rw [if_neg (by omega)] at ht4
                  exact Or.inl ⟨z, _, ht4⟩
                · exact Or.inr ⟨by omega, nc_pl (p := 4) rfl (by omega)⟩
          · rw [if_pos n5] at f2
            refine ⟨0, j, o, r, _, f2.trans ?_, by omega, n2, hr4, Or.inl ⟨rfl, n6⟩⟩
            rw [Msp_q ho]; rfl
        · rw [if_neg q4] at f2
          simp only [Option.bind_some] at f2
          replace f2 := f2.trans (if_pos trivial)
          unfold f_X9_readEntry_J131 at f2
          replace f2 := f2.trans (if_pos rfl)
          refine ⟨0, i + 2, o, r, _, f2.trans ?_, by omega, by omega, hr2, Or.inl ⟨rfl, ?_⟩⟩
          · show some ((0 : Int32), (Msp M (i + 2), r)) = _
            rw [Msp_q ho]; rfl
          · rcases Nat.lt_or_ge (i + 2) L with z | z
            · have b2 := (hM.2.2.2.2 (i + 2) z).2
              exact Or.inl ⟨z, (t_second (f := a) rfl rfl ha7 b2).2 (fun y => q4 ⟨z, y.1, y.2.1⟩)⟩
            · exact Or.inr ⟨by omega, nc_pl (p := 2) rfl (by omega)⟩
    · rw [if_neg q2, Option.bind_some] at f2
      replace f2 := f2.trans (if_pos rfl)
      refine ⟨0, i + 1, o, r, _, f2.trans ?_, by omega, by omega, hr1, Or.inl ⟨rfl, ?_⟩⟩
      · show some ((0 : Int32), (Msp M (i + 1), r)) = _
        rw [Msp_q ho]; rfl
      · rcases Nat.lt_or_ge (i + 1) L with z | z
        · have b1 := (hM.2.2.2.2 (i + 1) z).2
          exact Or.inl ⟨z, (t_first rfl b1).2 (fun y => q2 ⟨z, y⟩)⟩
        · exact Or.inr ⟨by omega, nc_pl (p := 1) rfl (by omega)⟩
  · rw [if_neg (by omega), Option.bind_some] at f1
    replace f1 := f1.trans (if_pos rfl)
    refine ⟨0, i, o, r, E, f1.trans ?_, Nat.le_refl _, hil, ?_, Or.inl ⟨rfl, ?_⟩⟩
    · show some ((0 : Int32), (M, r)) = _
      rw [Msp_i ho hM.2.1]; rfl
    · rw [Nat.sub_self]; rfl
    · rcases Nat.lt_or_ge i L with z | z
      · have hci := (hM.2.2.2.2 i z).2
        have hte := t_entry (d := c i) hE hci
        rw [if_neg (by omega), if_neg (by omega)] at hte
        exact Or.inl ⟨z, _, hte⟩
      · exact Or.inr ⟨by omega, nc_pl hE (by omega)⟩
theorem x_entry {N L i o : Nat} {c : Nat → Nat} {M : TM} {mt : Nat → Int32} {r : Nat → Int64} {w : TW} {ρ : Nat → Nat} {σ : Nat → Int64} {E : TE} (hM : RTX M mt L c i) (ho : M_out M = nI o) (hE : E_place E = nI 0) (h : ST N w r ρ σ) : ENT N L i o c M mt r w σ E := by
  by_cases hc : i < L ∧ c i = 116
  · exact x_entT hM ho hE h hc
  · exact x_entP hM ho hE h hc
