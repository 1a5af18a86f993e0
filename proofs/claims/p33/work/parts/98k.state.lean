theorem y_chr : ∀ j, j < 256 → ((nI j).toUInt32 % 65536).toInt32 = nI j ∧ vp_nar .char (nI j) = nI j := by decide +kernel
theorem p_append {T : TT} {M : TM} {mt : Nat → Int32} {L : Nat} {c : Nat → Nat} (ht : TXR T M mt L c) (v : Int32) :
    ∃ res av T' M' mt' L' c', f_X8_append T v = some (res, T') ∧ f_X9_append M mt v = some (av, (M', mt')) ∧ RS 1 2 0 res av (M_refusal M') ∧ M_acts M' = M_acts M ∧ TXR T' M' mt' L' c' := by
  have ht2 := ht
  obtain ⟨h1, h2, h3, h4⟩ := ht
  have r0 := x_ref M (c := 0) (by omega)
  have r1 := x_ref M (c := 1) (by omega)
  have r2 := x_ref M (c := 2) (by omega)
  rw [if_pos rfl] at r0
  rw [if_neg (by omega)] at r1 r2
  rcases y_rng v 0 255 (by omega) (by omega) with ⟨j, rfl, -, hj, e1, e2, -⟩ | ⟨-, e1, e2, -⟩
  · obtain ⟨y1, y2⟩ := y_chr j (by omega)
    by_cases q : L < 100
    · refine ⟨Sum.inr (nI (L + 1)), nI (L + 1), T_mk (nI (L + 1)) (upd (T_signs T) L (nI j)), M_mk (nI 0) (nI (L + 1)) (M_acts M) (M_planned M) (M_spot M) (M_out M), upd mt L (nI j), L + 1, pu c L j, ?_, ?_, RS.ok, rfl, rfl, rfl, by omega, fun k hk => ?_⟩
      · unfold f_X8_append
        rw [show f_X8_needRange (nI j) (0 : Int32) (255 : Int32) = some (Sum.inr (), ()) from e1, Option.bind_some, y1]
        show ((f_X6_isFull T).bind _) = _
        have hf : f_X6_isFull T = some (nI 0, ()) := by
          unfold f_X6_isFull
          rw [h1, if_pos (show nI L < (100 : Int32) from (y_Ilt (b := 100) (by omega) (by omega)).mpr q)]; rfl
        rw [hf, Option.bind_some]
        refine (if_pos y_z0).trans ?_
        have hp : f_X6_put T (nI j) = some (nI (L + 1), T_mk (nI (L + 1)) (upd (T_signs T) L (nI j))) := by
          simp (disch := omega) only [y_c0, y_c1, y_c10, y_c100, y_c1000, y_c10000, y_c100000, y_c106, y_c112, y_c116, y_c127, y_c128, y_c13, y_c14, y_c155, y_c2, y_c20, y_c200, y_c204, y_c21, y_c253, y_c255, y_c3, y_c30, y_c302, y_c303, y_c304, y_c305, y_c306, y_c307, y_c308, y_c309, y_c310, y_c311, y_c312, y_c313, y_c314, y_c315, y_c316, y_c32, y_c33, y_c353, y_c39, y_c4, y_c40, y_c44, y_c4589, y_c48, y_c49, y_c5, y_c512, y_c54, y_c57, y_c59, y_c6, y_c62, y_c64, y_c7, y_c8, y_c9, y_c99, y_c9999, y_d0, y_d1, y_d10, y_d100, y_d1000000, y_d1442695040888963407, y_d2, y_d20, y_d255, y_d3, y_d4, y_d40, y_d4294967295, y_d48, y_d5, y_d50, y_d54, y_d57, y_d6364136223846793005, y_d7, y_d9, y_d9999, y_dR, y_dS, y_dk, y_nar0, y_nar1, y_Ilt, y_Ile, y_Ieq, y_Iadd, y_Imul, y_Idiv, y_Llt, y_Lle, y_Leq, y_Ladd, y_Lmul, y_Ldiv, y_I2l, y_L2i, y_shn, y_or, y_and, y_bn1, y_bn0, y_inb, y_cl, y_gle, y_gge, y_ggt, y_glt, y_geq, if_pos, if_neg, if_true, if_false, Option.bind_some, f_X6_put, h1, c_isIn, y2]
        rw [hp]; rfl
      · unfold f_X9_append
        rw [y_I2l (by omega), show f_X9_in (lN j) (0 : Int64) (255 : Int64) = some (nI 1, ()) from e2, Option.bind_some, if_neg y_z1, h2, if_neg (show ¬ nI L = (100 : Int32) from fun z => by have := (y_Ieq (b := 100) (by omega) (by omega)).mp z; omega)]
        unfold f_X9_append_J31
        rw [show (0 : Int32) = nI 0 from rfl, r0, Option.bind_some, if_pos rfl, show M_size (nI 0, Mrf M 0).2 = nI L from h2, if_pos (y_inb q (by omega)), y_cl (by omega), y_c1, y_Iadd]
        rfl
      · by_cases z : k = L
        · refine ⟨?_, ?_, ?_⟩
          · show upd (T_signs T) L (nI j) k = _
            rw [y_ve z, pu_e z]
          · rw [y_ve z, pu_e z]
          · rw [pu_e z]; exact hj
        · obtain ⟨a1, a2, a3⟩ := h4 k (by omega)
          refine ⟨?_, ?_, ?_⟩
          · show upd (T_signs T) L (nI j) k = _
            rw [y_vn z, pu_n z]; exact a1
          · rw [y_vn z, pu_n z]; exact a2
          · rw [pu_n z]; exact a3
    · refine ⟨Sum.inl 1, 0, T, Mrf M 2, mt, L, c, ?_, ?_, RS.s (by omega), rfl, h1, h2, h3, h4⟩
      · unfold f_X8_append
        rw [show f_X8_needRange (nI j) (0 : Int32) (255 : Int32) = some (Sum.inr (), ()) from e1, Option.bind_some]
        show ((f_X6_isFull T).bind _) = _
        have hf : f_X6_isFull T = some (nI 1, ()) := by
          unfold f_X6_isFull
          rw [h1, if_neg (show ¬ nI L < (100 : Int32) from fun z => q ((y_Ilt (b := 100) (by omega) (by omega)).mp z))]; rfl
        rw [hf, Option.bind_some]
        exact if_neg y_z1
      · unfold f_X9_append
        rw [y_I2l (by omega), show f_X9_in (lN j) (0 : Int64) (255 : Int64) = some (nI 1, ()) from e2, Option.bind_some, if_neg y_z1, h2, if_pos (show nI L = (100 : Int32) from by rw [show L = 100 by omega]; rfl)]
        unfold f_X9_append_J31
        rw [show (2 : Int32) = nI 2 from rfl, r2, Option.bind_some]
        exact if_neg y_z1
  · refine ⟨Sum.inl 0, 0, T, Mrf M 1, mt, L, c, ?_, ?_, RS.a (by omega), rfl, h1, h2, h3, h4⟩
    · unfold f_X8_append
      rw [show f_X8_needRange v (0 : Int32) (255 : Int32) = some (Sum.inl 0, ()) from e1]; rfl
    · unfold f_X9_append
      rw [show f_X9_in v.toInt64 (0 : Int64) (255 : Int64) = some (nI 0, ()) from e2, Option.bind_some, if_pos y_z0]
      unfold f_X9_append_J31
      rw [show (1 : Int32) = nI 1 from rfl, r1, Option.bind_some]
      exact if_neg y_z1
theorem p_clear {T : TT} {M : TM} {mt : Nat → Int32} {L : Nat} {c : Nat → Nat} (ht : TXR T M mt L c) :
    ∃ x T' M', f_X8_clearText T = some (x, T') ∧ f_X9_clearText M = some (x, M') ∧ M_acts M' = M_acts M ∧ TXR T' M' mt 0 c := by
  obtain ⟨h1, h2, h3, h4⟩ := ht
  refine ⟨nI L, T_mk (nI 0) (T_signs T), M_mk (nI 0) (nI 0) (M_acts M) (M_planned M) (M_spot M) (M_out M), ?_, ?_, rfl, rfl, rfl, by omega, fun k hk => by omega⟩
  · unfold f_X8_clearText f_X6_empty
    rw [h1]; rfl
  · unfold f_X9_clearText
    rw [h2]; rfl
theorem TXR.sm {T : TT} {M M' : TM} {mt : Nat → Int32} {L : Nat} {c : Nat → Nat} (ht : TXR T M mt L c) (h : M_size M' = M_size M) : TXR T M' mt L c := ⟨ht.1, h.trans ht.2.1, ht.2.2⟩
theorem p_err0 {T : TT} {E : TE} {R : TR} {M : TM} {mt : Nat → Int32} {tr : Nat → Int64} {L : Nat} {c : Nat → Nat} (ht : TXR T M mt L c) :
    ∃ x E' M' tr', f_X8_errorPosition T E R (0 : Int32) = some (x, (E', R)) ∧ f_X9_errorPosition M mt tr (0 : Int32) = some (x, (M', tr')) ∧ SM2 M' M := by
  obtain ⟨w0, -, k2⟩ := c_new (W_mk 0 0 0 0 (fun _ => 0) (fun _ => 0) (fun _ => 0) (fun _ => 0) (fun _ => 0) (fun _ => 0) (fun _ => 0) (fun _ => 0) (fun _ => 0))
  obtain ⟨v, E', j, o, r', e1, e2, -⟩ := x_world (M := Mrf M 0) (ht.sm rfl) E tr w0 k2 0
  refine ⟨v, E', Msq (Mrf M 0) j o, r', ?_, ?_, ⟨rfl, rfl⟩⟩
  rotate_left
  · unfold f_X9_errorPosition
    rw [if_pos rfl]
    show ((f_X9_wrongWorld 353 (Mrf M 0) mt tr).bind _) = _
    rw [e2]
    rfl
  · unfold f_X8_errorPosition
    rw [if_pos rfl, e1]; rfl
theorem p_err1 {T : TT} {E : TE} {R : TR} {M : TM} {mt : Nat → Int32} {tr : Nat → Int64} {L : Nat} {c : Nat → Nat} (ht : TXR T M mt L c) :
    ∃ x R' M', f_X8_errorPosition T E R (1 : Int32) = some (x, (E, R')) ∧ f_X9_errorPosition M mt tr (1 : Int32) = some (x, (M', tr)) ∧ SM2 M' M := by
  obtain ⟨v, j, R', e1, e2, -⟩ := x_plan (M := Mrf M 0) (ht.sm rfl) R
  refine ⟨v, R', Msp (Mrf M 0) j, ?_, ?_, ⟨rfl, rfl⟩⟩
  rotate_left
  · unfold f_X9_errorPosition
    rw [if_neg (by decide)]
    show ((f_X9_wrongPlan (Mrf M 0) mt).bind _) = _
    rw [e2]
    rfl
  · unfold f_X8_errorPosition
    rw [if_neg (by decide), e1]; rfl
theorem p_load {N L : Nat} {T : TT} {E : TE} {w : TW} {H : TH} {S : TS} {M : TM} {mt : Nat → Int32} {now tr dia kept : Nat → Int64} {isK : Nat → Int32} {c : Nat → Nat} (ht : TXR T M mt L c) (hg : GW N w H M now dia) (hs : SL N S kept isK) :
    ∃ res av E' w' H' S' M' now' tr' isK', f_X8_load T E w H S = some (res, (E', w', H', S')) ∧ f_X9_load M mt now tr isK = some (av, (M', now', tr', isK')) ∧ RS 0 1 0 res av (M_refusal M') ∧ M_size M' = M_size M ∧ GW N w' H' M' now' dia ∧ SL N S' kept isK' := by
  have hg2 := hg
  obtain ⟨-, a, x, hM, hH⟩ := hg
  obtain ⟨w0, k1, k2⟩ := c_new w
  obtain ⟨v, E', j, o, r', e1, e2, e3⟩ := x_world ht E tr w0 k2 N
  have r0 := x_ref (Msq M j o) (c := 0) (by omega)
  have r1 := x_ref (Msq M j o) (c := 1) (by omega)
  rw [if_pos rfl] at r0
  rw [if_neg (by omega)] at r1
  by_cases q : v = -1
  · obtain ⟨w', E2, ρ', g1, g2⟩ := e3 q
    obtain ⟨S', g3, g4⟩ := c_empty (S := S)
    refine ⟨Sum.inr (nI o), nI o, E2, w', H_mk (nI 0) (H_next H) (H_w H), S', M_mk (nI 0) (M_size M) (nI 0) (M_planned M) (nI j) (nI o), fun j => if 0 ≤ j ∧ j < 0 + 353 then r' (0 + (j - 0)) else now j, r', upd (upd isK 0 (nI 0)) 1 (nI 0), ?_, ?_, RS.ok, rfl, ⟨⟨ρ', _, g2.congr (fun i hi => ?_)⟩, 0, x, rfl, rfl, by omega, hH.2.2.1, hH.2.2.2.1, fun i hi => absurd hi (Nat.not_lt_zero _)⟩, fun s hs2 => ⟨0, by omega, g4 s hs2, ?_, fun z => by omega⟩⟩
    · unfold f_X8_load
      rw [e1, Option.bind_some]
      refine (if_pos q).trans ?_
      rw [k1, Option.bind_some]
      show ((f_X5_emptyAll S).bind fun o5 => (f_X8_readEntries T E' w0).bind fun o6 => some (Sum.inr o6.1, (o6.2.1, o6.2.2, H_mk (0 : Int32) (H_next H) (H_w H), o5.2))) = _
      rw [g3, Option.bind_some]
      rw [g1]; rfl
    · unfold f_X9_load
      rw [e2, Option.bind_some]
      refine (if_pos q).trans ?_
      unfold f_X9_load_J18
      rw [show (0 : Int32) = nI 0 from rfl]
      show ((f_X9_refused (Msq M j o) (nI 0)).bind _) = _
      rw [r0, Option.bind_some]
      refine (if_pos rfl).trans ?_
      rw [show f_X9_copyWorld 353 353 r' now (nI 0) (nI 0) = _ from x_copy (a := 0) (b := 0) (by omega) (by omega) (by omega) (by omega), Option.bind_some]
      refine (if_pos (by decide)).trans ?_
      refine (if_pos (by decide)).trans ?_
      rfl
    · show (if 0 ≤ i ∧ i < 0 + 353 then r' (0 + (i - 0)) else now i) = _
      rw [if_pos (by omega), show 0 + (i - 0) = i by omega]
    · have : s = 0 ∨ s = 1 := by omega
      rcases this with rfl | rfl <;> rfl
  · refine ⟨Sum.inl 1, 0, E', w, H, S, Mrf (Msq M j o) 1, now, r', isK, ?_, ?_, RS.s (by omega), rfl, hg2.mono (Nat.le_refl _) rfl, hs⟩
    · unfold f_X8_load
      rw [e1, Option.bind_some]
      exact if_neg q
    · unfold f_X9_load
      rw [e2, Option.bind_some]
      refine (if_neg q).trans ?_
      unfold f_X9_load_J18
      rw [show (1 : Int32) = nI 1 from rfl]
      show ((f_X9_refused (Msq M j o) (nI 1)).bind _) = _
      rw [r1, Option.bind_some]
      exact if_neg y_z1
theorem y_slot (v : Int32) : (∃ j, v = nI j ∧ j < 2 ∧ f_X8_needSlot v = some (Sum.inr (), ()) ∧ f_X9_in (lN j) (0 : Int64) (1 : Int64) = some (nI 1, ())) ∨ (f_X8_needSlot v = some (Sum.inl 2, ()) ∧ f_X9_in v.toInt64 (0 : Int64) (1 : Int64) = some (nI 0, ())) := by
  rcases y_rng v 0 1 (by omega) (by omega) with ⟨j, rfl, -, hj, -, e2, e3⟩ | ⟨-, -, e2, e3⟩
  · refine Or.inl ⟨j, rfl, by omega, ?_, e2⟩
    unfold f_X8_needSlot
    rw [show f_X8_isIn (nI j) (0 : Int32) (1 : Int32) = some (nI 1, ()) from e3, Option.bind_some]
    exact if_neg y_z1
  · refine Or.inr ⟨?_, e2⟩
    unfold f_X8_needSlot
    rw [show f_X8_isIn v (0 : Int32) (1 : Int32) = some (nI 0, ()) from e3, Option.bind_some]
    exact if_pos y_z0
theorem p_save {N : Nat} {w : TW} {S : TS} {M : TM} {now kept : Nat → Int64} {isK : Nat → Int32} {ρ : Nat → Nat} {σ : Nat → Int64} (h : ST N w now ρ σ) (hs : SL N S kept isK) (v : Int32) :
    ∃ res av S' M' kept' isK', f_X8_save w S v = some (res, S') ∧ f_X9_save M now kept isK v = some (av, (M', kept', isK')) ∧ RS 0 0 1 res av (M_refusal M') ∧ SM2 M' M ∧ SL N S' kept' isK' := by
  have r0 := x_ref M (c := 0) (by omega)
  have r1 := x_ref M (c := 1) (by omega)
  rw [if_pos rfl] at r0
  rw [if_neg (by omega)] at r1
  rcases y_slot v with ⟨j, rfl, hj, e1, e2⟩ | ⟨e1, e2⟩
  · obtain ⟨S', kept', k1, k2, k3⟩ := s_put hs h hj
    have x1 : now (305 : Int32).toNatClampNeg = lN (ρ 305) := h.2.1.1 305 (by omega) (by omega)
    refine ⟨Sum.inr (nI (ρ 305)), nI (ρ 305), S', Mrf M 0, kept', upd isK j (nI 1), ?_, ?_, RS.ok, SM2.rf M 0, k3⟩
    · unfold f_X8_save
      rw [e1, Option.bind_some]
      show ((f_X5_put S w (nI j)).bind _) = _
      rw [k1, Option.bind_some, h.1.2.1]
    · unfold f_X9_save
      rw [y_I2l (by omega), e2, Option.bind_some, if_neg y_z1]
      unfold f_X9_save_J16
      rw [show (0 : Int32) = nI 0 from rfl, r0, Option.bind_some, if_pos rfl, show f_X9_copyWorld 353 706 now kept (nI 0) ((353 : Int32) * nI j) = _ from k2, Option.bind_some, if_pos (y_inb hj (by omega)), if_pos (by decide), x1, y_L2i, y_cl (by omega)]
      rfl
  · refine ⟨Sum.inl 2, 0, S, Mrf M 1, kept, isK, ?_, ?_, RS.x (by omega), SM2.rf M 1, hs⟩
    · unfold f_X8_save
      rw [e1]; rfl
    · unfold f_X9_save
      rw [e2, Option.bind_some, if_pos y_z0]
      unfold f_X9_save_J16
      rw [show (1 : Int32) = nI 1 from rfl, r1, Option.bind_some]
      exact if_neg y_z1
theorem p_restore {N : Nat} {w : TW} {H : TH} {S : TS} {M : TM} {now dia kept : Nat → Int64} {isK : Nat → Int32} (hg : GW N w H M now dia) (hs : SL N S kept isK) (v : Int32) :
    ∃ res av w' H' M' now', f_X8_restore w H S v = some (res, (w', H')) ∧ f_X9_restore M now kept isK v = some (av, (M', now')) ∧ RS 0 2 1 res av (M_refusal M') ∧ M_size M' = M_size M ∧ GW N w' H' M' now' dia := by
  have r0 := x_ref M (c := 0) (by omega)
  have r1 := x_ref M (c := 1) (by omega)
  have r2 := x_ref M (c := 2) (by omega)
  rw [if_pos rfl] at r0
  rw [if_neg (by omega)] at r1 r2
  have hg2 := hg
  obtain ⟨-, a, x, hM, hH⟩ := hg
  rcases y_slot v with ⟨j, rfl, hj, e1, e2⟩ | ⟨e1, e2⟩
  · obtain ⟨f, k1, k2, k3, k4⟩ := s_out (w := w) (now := now) hs hj
    have hf : f = 0 ∨ f = 1 := by omega
    have hx : f_X9_restore M now kept isK (nI j) = (if isK j = (0 : Int32) then (f_X9_restore_J29 kept isK (nI j) (2 : Int32) M now) else (f_X9_restore_J29 kept isK (nI j) (0 : Int32) M now)) := by
      unfold f_X9_restore
      rw [y_I2l (by omega), e2, Option.bind_some, if_neg y_z1, if_pos (y_inb hj (by omega)), y_cl (by omega)]
    rw [k3] at hx
    rcases hf with rfl | rfl
    · rw [if_pos y_z0] at hx
      refine ⟨Sum.inl 1, 0, w, H, Mrf M 2, now, ?_, ?_, RS.s (by omega), rfl, hg2.mono (Nat.le_refl _) rfl⟩
      · unfold f_X8_restore
        rw [e1, Option.bind_some]
        show ((f_X5_isFilled S (nI j)).bind _) = _
        rw [k2, Option.bind_some]
        exact if_pos y_z0
      · rw [hx]
        unfold f_X9_restore_J29
        rw [show (2 : Int32) = nI 2 from rfl, r2, Option.bind_some]
        exact if_neg y_z1
    · rw [if_neg y_z1] at hx
      obtain ⟨w', now', ρ', σ', g1, g2, g3⟩ := k4 rfl
      have x1 : now' (305 : Int32).toNatClampNeg = lN (ρ' 305) := g3.2.1.1 305 (by omega) (by omega)
      refine ⟨Sum.inr (nI (ρ' 305)), nI (ρ' 305), w', H_mk (nI 0) (H_next H) (H_w H), Mac (Mrf M 0) 0, now', ?_, ?_, RS.ok, rfl, ⟨⟨ρ', σ', g3⟩, 0, x, rfl, rfl, by omega, hH.2.2.1, hH.2.2.2.1, fun i hi => absurd hi (Nat.not_lt_zero _)⟩⟩
      · unfold f_X8_restore
        rw [e1, Option.bind_some]
        show ((f_X5_isFilled S (nI j)).bind _) = _
        rw [k2, Option.bind_some]
        refine (if_neg y_z1).trans ?_
        rw [g1, Option.bind_some]
        show some (Sum.inr (W_weeks w'), _) = _
        rw [g3.1.2.1]; rfl
      · rw [hx]
        unfold f_X9_restore_J29
        rw [show (0 : Int32) = nI 0 from rfl, r0, Option.bind_some, if_pos rfl, show f_X9_copyWorld 706 353 kept now ((353 : Int32) * nI j) (nI 0) = _ from g2, Option.bind_some, if_pos (by decide)]
        show some ((now' (305 : Int32).toNatClampNeg).toInt32, _) = _
        rw [x1, y_L2i]
        rfl
  · refine ⟨Sum.inl 2, 0, w, H, Mrf M 1, now, ?_, ?_, RS.x (by omega), rfl, hg2.mono (Nat.le_refl _) rfl⟩
    · unfold f_X8_restore
      rw [e1]; rfl
    · unfold f_X9_restore
      rw [e2, Option.bind_some, if_pos y_z0]
      unfold f_X9_restore_J29
      rw [show (1 : Int32) = nI 1 from rfl, r1, Option.bind_some]
      exact if_neg y_z1
