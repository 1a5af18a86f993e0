theorem ST.congr {N : Nat} {w : TW} {r r' : Nat → Int64} {ρ : Nat → Nat} {σ : Nat → Int64} (h : ST N w r ρ σ) (e : ∀ i, i < 353 → r' i = r i) : ST N w r' ρ σ := ⟨h.1, h.2.1.congr e, h.2.2⟩
theorem ST.mono {N K : Nat} {w : TW} {r : Nat → Int64} {ρ : Nat → Nat} {σ : Nat → Int64} (h : ST N w r ρ σ) (hk : N ≤ K) : ST K w r ρ σ := ⟨h.1, h.2.1, h.2.2.mono hk⟩
/-- the states before the last actions, and the diary -/
def HS (N : Nat) (H : TH) (a x : Nat) (dia : Nat → Int64) : Prop := H_count H = nI a ∧ a ≤ 14 ∧ H_next H = nI x ∧ x < 14 ∧ ∀ i, i < a → ∃ ρ σ, ST N (H_w H ((x + 14 - a + i) % 14)) (fun j => dia (353 * i + j)) ρ σ
theorem HS.mono {N K : Nat} {H : TH} {a x : Nat} {dia : Nat → Int64} (h : HS N H a x dia) (hk : N ≤ K) : HS K H a x dia := by
  obtain ⟨h1, h2, h3, h4, h5⟩ := h
  refine ⟨h1, h2, h3, h4, fun i hi => ?_⟩
  obtain ⟨ρ, σ, s⟩ := h5 i hi
  exact ⟨ρ, σ, s.mono hk⟩
def Mac (M : TM) (a : Nat) : TM := M_mk (M_refusal M) (M_size M) (nI a) (M_planned M) (M_spot M) (M_out M)
theorem x_rem11 {M : TM} {r : Nat → Int64} {K : (Nat → Int64) → Option (Unit × (TM × (Nat → Int64)))} : ∀ rr k n d, k + rr = 4589 → rr < n → f_X9_remember_L11 M r K n (nI k) d = K (fun j => if k ≤ j ∧ j < 4589 then d (j + 353) else d j) := by
  intro rr
  induction rr with
  | zero =>
    intro k n d hk hn
    obtain ⟨n, rfl⟩ : ∃ m, n = m + 1 := ⟨n - 1, by omega⟩
    rw [f_X9_remember_L11, show k = 4589 by omega]
    refine (if_pos (by decide)).trans ?_
    congr 1
    funext j
    rw [if_neg (by omega)]
  | succ rr ih =>
    intro k n d hk hn
    obtain ⟨n, rfl⟩ : ∃ m, n = m + 1 := ⟨n - 1, by omega⟩
    have := ih (k + 1) n (vp_updL d k (d (k + 353))) (by omega) (by omega)
    rw [f_X9_remember_L11, if_neg (show ¬ (4589 : Int32) ≤ nI k from fun z => by have := (y_Ile (a := 4589) (by omega) (by omega)).mp z; omega)]
    rw [show (353 : Int32) = nI 353 from rfl, y_Iadd, if_pos (y_inb (by omega) (by omega)), if_pos (y_inb (by omega) (by omega)), y_cl (by omega), y_cl (by omega), y_c1, y_Iadd]
    refine this.trans ?_
    congr 1
    funext j
    by_cases e : j = k
    · rw [if_neg (by omega), if_pos (by omega), y_ue e, e]
    · by_cases e2 : k + 1 ≤ j ∧ j < 4589
      · rw [if_pos e2, if_pos (by omega), y_un (by omega)]
      · rw [if_neg e2, if_neg (by omega), y_un e]
theorem x_rem50 {M : TM} {r dia : Nat → Int64} {a : Nat} (ha : a < 14) (hM : M_acts M = nI a) : f_X9_remember_J50 r M dia = some ((), (Mac M (a + 1), fun j => if 353 * a ≤ j ∧ j < 353 * a + 353 then r (0 + (j - 353 * a)) else dia j)) := by
  unfold f_X9_remember_J50
  rw [hM, show (353 : Int32) = nI 353 from rfl, y_Imul, show (0 : Int32) = nI 0 from rfl, x_copy (by omega) (by omega) (by omega) (by omega), y_c1, y_Iadd]
  rfl
theorem c_remember {H : TH} {w : TW} {x a : Nat} {ρ : Nat → Nat} {σ : Nat → Int64} (hc : H_count H = nI a) (ha : a ≤ 14) (hn : H_next H = nI x) (hx : x < 14) (hw : WRf w ρ σ) (h7 : ρ 0 ≤ 7) : ∃ w1, f_X1_remember H w = some ((), H_mk (nI (if 14 < a + 1 then 14 else a + 1)) (nI ((x + 1) % 14)) (updW (H_w H) x w1)) ∧ WRf w1 ρ σ := by
  obtain ⟨w1, e, e1⟩ := c_take (w := H_w H x) hw h7
  refine ⟨w1, ?_, e1⟩
  have hs : f_X1_stateAt H (nI x) = some ((), ()) := by
    simp (disch := omega) only [y_c0, y_c1, y_c10, y_c100, y_c1000, y_c10000, y_c100000, y_c106, y_c112, y_c116, y_c127, y_c128, y_c13, y_c14, y_c155, y_c2, y_c20, y_c200, y_c204, y_c21, y_c253, y_c255, y_c3, y_c30, y_c302, y_c303, y_c304, y_c305, y_c306, y_c307, y_c308, y_c309, y_c310, y_c311, y_c312, y_c313, y_c314, y_c315, y_c316, y_c32, y_c33, y_c353, y_c39, y_c4, y_c40, y_c44, y_c4589, y_c48, y_c49, y_c5, y_c512, y_c54, y_c57, y_c59, y_c6, y_c62, y_c64, y_c7, y_c8, y_c9, y_c99, y_c9999, y_d0, y_d1, y_d10, y_d100, y_d1000000, y_d1442695040888963407, y_d2, y_d20, y_d255, y_d3, y_d4, y_d40, y_d4294967295, y_d48, y_d5, y_d50, y_d54, y_d57, y_d6364136223846793005, y_d7, y_d9, y_d9999, y_dR, y_dS, y_dk, y_nar0, y_nar1, y_Ilt, y_Ile, y_Ieq, y_Iadd, y_Imul, y_Idiv, y_Llt, y_Lle, y_Leq, y_Ladd, y_Lmul, y_Ldiv, y_I2l, y_L2i, y_shn, y_or, y_and, y_bn1, y_bn0, y_inb, y_cl, y_gle, y_gge, y_ggt, y_glt, y_geq, if_pos, if_neg, if_true, if_false, Option.bind_some, f_X1_stateAt, c_isIn]
  unfold f_X1_remember
  rw [hn, hc]
  by_cases q : 14 < a + 1
  · simp (disch := omega) only [y_c0, y_c1, y_c10, y_c100, y_c1000, y_c10000, y_c100000, y_c106, y_c112, y_c116, y_c127, y_c128, y_c13, y_c14, y_c155, y_c2, y_c20, y_c200, y_c204, y_c21, y_c253, y_c255, y_c3, y_c30, y_c302, y_c303, y_c304, y_c305, y_c306, y_c307, y_c308, y_c309, y_c310, y_c311, y_c312, y_c313, y_c314, y_c315, y_c316, y_c32, y_c33, y_c353, y_c39, y_c4, y_c40, y_c44, y_c4589, y_c48, y_c49, y_c5, y_c512, y_c54, y_c57, y_c59, y_c6, y_c62, y_c64, y_c7, y_c8, y_c9, y_c99, y_c9999, y_d0, y_d1, y_d10, y_d100, y_d1000000, y_d1442695040888963407, y_d2, y_d20, y_d255, y_d3, y_d4, y_d40, y_d4294967295, y_d48, y_d5, y_d50, y_d54, y_d57, y_d6364136223846793005, y_d7, y_d9, y_d9999, y_dR, y_dS, y_dk, y_nar0, y_nar1, y_Ilt, y_Ile, y_Ieq, y_Iadd, y_Imul, y_Idiv, y_Llt, y_Lle, y_Leq, y_Ladd, y_Lmul, y_Ldiv, y_I2l, y_L2i, y_shn, y_or, y_and, y_bn1, y_bn0, y_inb, y_cl, y_gle, y_gge, y_ggt, y_glt, y_geq, if_pos, if_neg, if_true, if_false, Option.bind_some, hs, e, y_Irem2]
  · simp (disch := omega) only [y_c0, y_c1, y_c10, y_c100, y_c1000, y_c10000, y_c100000, y_c106, y_c112, y_c116, y_c127, y_c128, y_c13, y_c14, y_c155, y_c2, y_c20, y_c200, y_c204, y_c21, y_c253, y_c255, y_c3, y_c30, y_c302, y_c303, y_c304, y_c305, y_c306, y_c307, y_c308, y_c309, y_c310, y_c311, y_c312, y_c313, y_c314, y_c315, y_c316, y_c32, y_c33, y_c353, y_c39, y_c4, y_c40, y_c44, y_c4589, y_c48, y_c49, y_c5, y_c512, y_c54, y_c57, y_c59, y_c6, y_c62, y_c64, y_c7, y_c8, y_c9, y_c99, y_c9999, y_d0, y_d1, y_d10, y_d100, y_d1000000, y_d1442695040888963407, y_d2, y_d20, y_d255, y_d3, y_d4, y_d40, y_d4294967295, y_d48, y_d5, y_d50, y_d54, y_d57, y_d6364136223846793005, y_d7, y_d9, y_d9999, y_dR, y_dS, y_dk, y_nar0, y_nar1, y_Ilt, y_Ile, y_Ieq, y_Iadd, y_Imul, y_Idiv, y_Llt, y_Lle, y_Leq, y_Ladd, y_Lmul, y_Ldiv, y_I2l, y_L2i, y_shn, y_or, y_and, y_bn1, y_bn0, y_inb, y_cl, y_gle, y_gge, y_ggt, y_glt, y_geq, if_pos, if_neg, if_true, if_false, Option.bind_some, hs, e, y_Irem2]
theorem s_remember {N : Nat} {H : TH} {M : TM} {w : TW} {r dia : Nat → Int64} {a x : Nat} {ρ : Nat → Nat} {σ : Nat → Int64} (hH : HS N H a x dia) (hM : M_acts M = nI a) (h : ST N w r ρ σ) :
    ∃ H' dia' a' x', f_X1_remember H w = some ((), H') ∧ f_X9_remember M r dia = some ((), (Mac M a', dia')) ∧ HS N H' a' x' dia' := by
  obtain ⟨hc, ha, hn, hx, hh⟩ := hH
  obtain ⟨w1, e, e1⟩ := c_remember hc ha hn hx h.1 h.2.2.1.1
  have h1 : ST N w1 r ρ σ := ⟨e1, h.2.1, h.2.2⟩
  by_cases q : a = 14
  · subst q
    rw [if_pos (by omega)] at e
    obtain ⟨F, hF, hF1⟩ := y_fuel
    refine ⟨_, fun j => if 353 * 13 ≤ j ∧ j < 353 * 13 + 353 then r (0 + (j - 353 * 13)) else (fun j => if 0 ≤ j ∧ j < 4589 then dia (j + 353) else dia j) j, 14, (x + 1) % 14, e, ?_, rfl, Nat.le_refl _, rfl, by omega, fun i hi => ?_⟩
    · unfold f_X9_remember
      rw [hM, if_pos (show nI 14 = (14 : Int32) from rfl), hF, show (0 : Int32) = nI 0 from rfl, x_rem11 4589 0 F dia rfl (by omega)]
      rw [y_c1, y_Isub (by omega)]
      exact x_rem50 (M := Mac M 13) (a := 13) (by omega) rfl
    · by_cases z : i = 13
      · subst z
        refine ⟨ρ, σ, ?_⟩
        rw [show ((x + 1) % 14 + 14 - 14 + 13) % 14 = x by omega, show H_w (H_mk (nI 14) (nI ((x + 1) % 14)) (updW (H_w H) x w1)) x = w1 from if_pos rfl]
        refine h1.congr (fun j hj => ?_)
        show (if 353 * 13 ≤ 353 * 13 + j ∧ 353 * 13 + j < 353 * 13 + 353 then r (0 + (353 * 13 + j - 353 * 13)) else _) = _
        rw [if_pos (by omega), show 0 + (353 * 13 + j - 353 * 13) = j by omega]
      · obtain ⟨ρ2, σ2, s⟩ := hh (i + 1) (by omega)
        refine ⟨ρ2, σ2, ?_⟩
        rw [show ((x + 1) % 14 + 14 - 14 + i) % 14 = (x + 14 - 14 + (i + 1)) % 14 by omega, show H_w (H_mk (nI 14) (nI ((x + 1) % 14)) (updW (H_w H) x w1)) ((x + 14 - 14 + (i + 1)) % 14) = H_w H ((x + 14 - 14 + (i + 1)) % 14) from if_neg (by omega)]
        refine s.congr (fun j hj => ?_)
        show (if 353 * 13 ≤ 353 * i + j ∧ 353 * i + j < 353 * 13 + 353 then _ else (if 0 ≤ 353 * i + j ∧ 353 * i + j < 4589 then dia (353 * i + j + 353) else _)) = _
        rw [if_neg (by omega), if_pos (by omega), show 353 * i + j + 353 = 353 * (i + 1) + j by omega]
  · rw [if_neg (by omega)] at e
    refine ⟨_, fun j => if 353 * a ≤ j ∧ j < 353 * a + 353 then r (0 + (j - 353 * a)) else dia j, a + 1, (x + 1) % 14, e, ?_, rfl, by omega, rfl, by omega, fun i hi => ?_⟩
    · unfold f_X9_remember
      rw [hM, if_neg (show ¬ nI a = (14 : Int32) from fun y => q ((y_Ieq (b := 14) (by omega) (by omega)).mp y))]
      exact x_rem50 (by omega) hM
    · by_cases z : i = a
      · subst z
        refine ⟨ρ, σ, ?_⟩
        rw [show ((x + 1) % 14 + 14 - (i + 1) + i) % 14 = x by omega, show H_w (H_mk (nI (i + 1)) (nI ((x + 1) % 14)) (updW (H_w H) x w1)) x = w1 from if_pos rfl]
        refine h1.congr (fun j hj => ?_)
        show (if 353 * i ≤ 353 * i + j ∧ 353 * i + j < 353 * i + 353 then r (0 + (353 * i + j - 353 * i)) else _) = _
        rw [if_pos (by omega)]
        congr 1; omega
      · obtain ⟨ρ2, σ2, s⟩ := hh i (by omega)
        refine ⟨ρ2, σ2, ?_⟩
        rw [show ((x + 1) % 14 + 14 - (a + 1) + i) % 14 = (x + 14 - a + i) % 14 by omega, show H_w (H_mk (nI (a + 1)) (nI ((x + 1) % 14)) (updW (H_w H) x w1)) ((x + 14 - a + i) % 14) = H_w H ((x + 14 - a + i) % 14) from if_neg (by omega)]
        refine s.congr (fun j hj => ?_)
        show (if 353 * a ≤ 353 * i + j ∧ 353 * i + j < 353 * a + 353 then _ else dia (353 * i + j)) = _
        rw [if_neg (by omega)]
theorem s_undo {N : Nat} {H : TH} {M : TM} {w : TW} {now dia : Nat → Int64} {a x : Nat} (hH : HS N H a x dia) (hM : M_acts M = nI a) (h0 : 0 < a) :
    ∃ w' now' x' ρ' σ', f_X1_takeBack H w = some (nI (a - 1), (H_mk (nI (a - 1)) (nI x') (H_w H), w')) ∧ f_X9_copyWorld 4942 353 dia now ((353 : Int32) * (M_acts M - (1 : Int32))) (0 : Int32) = some ((), now') ∧ HS N (H_mk (nI (a - 1)) (nI x') (H_w H)) (a - 1) x' dia ∧ ST N w' now' ρ' σ' := by
  obtain ⟨hc, ha, hn, hx, hh⟩ := hH
  obtain ⟨ρ, σ, s⟩ := hh (a - 1) (by omega)
  rw [show (x + 14 - a + (a - 1)) % 14 = (x + 13) % 14 by omega] at s
  obtain ⟨w1, e, e1⟩ := c_take (w := w) s.1 s.2.2.1.1
  have hx13 : (x + 13) % 14 < 14 := Nat.mod_lt _ (by omega)
  refine ⟨w1, fun j => if 0 ≤ j ∧ j < 0 + 353 then dia (353 * (a - 1) + (j - 0)) else now j, (x + 13) % 14, ρ, σ, ?_, ?_, ⟨rfl, by omega, rfl, hx13, fun i hi => ?_⟩, ?_⟩
  · have hs : f_X1_stateAt H (nI ((x + 13) % 14)) = some ((), ()) := by
      simp (disch := omega) only [y_c0, y_c1, y_c10, y_c100, y_c1000, y_c10000, y_c100000, y_c106, y_c112, y_c116, y_c127, y_c128, y_c13, y_c14, y_c155, y_c2, y_c20, y_c200, y_c204, y_c21, y_c253, y_c255, y_c3, y_c30, y_c302, y_c303, y_c304, y_c305, y_c306, y_c307, y_c308, y_c309, y_c310, y_c311, y_c312, y_c313, y_c314, y_c315, y_c316, y_c32, y_c33, y_c353, y_c39, y_c4, y_c40, y_c44, y_c4589, y_c48, y_c49, y_c5, y_c512, y_c54, y_c57, y_c59, y_c6, y_c62, y_c64, y_c7, y_c8, y_c9, y_c99, y_c9999, y_d0, y_d1, y_d10, y_d100, y_d1000000, y_d1442695040888963407, y_d2, y_d20, y_d255, y_d3, y_d4, y_d40, y_d4294967295, y_d48, y_d5, y_d50, y_d54, y_d57, y_d6364136223846793005, y_d7, y_d9, y_d9999, y_dR, y_dS, y_dk, y_nar0, y_nar1, y_Ilt, y_Ile, y_Ieq, y_Iadd, y_Imul, y_Idiv, y_Llt, y_Lle, y_Leq, y_Ladd, y_Lmul, y_Ldiv, y_I2l, y_L2i, y_shn, y_or, y_and, y_bn1, y_bn0, y_inb, y_cl, y_gle, y_gge, y_ggt, y_glt, y_geq, if_pos, if_neg, if_true, if_false, Option.bind_some, f_X1_stateAt, c_isIn]
    have g1 : nI (x + 14) - nI 1 = nI (x + 13) := by rw [y_Isub (by omega), show x + 14 - 1 = x + 13 by omega]
    have g2 : nI a - nI 1 = nI (a - 1) := y_Isub (by omega)
    unfold f_X1_takeBack
    rw [hn, hc]
    simp (disch := omega) only [y_c0, y_c1, y_c10, y_c100, y_c1000, y_c10000, y_c100000, y_c106, y_c112, y_c116, y_c127, y_c128, y_c13, y_c14, y_c155, y_c2, y_c20, y_c200, y_c204, y_c21, y_c253, y_c255, y_c3, y_c30, y_c302, y_c303, y_c304, y_c305, y_c306, y_c307, y_c308, y_c309, y_c310, y_c311, y_c312, y_c313, y_c314, y_c315, y_c316, y_c32, y_c33, y_c353, y_c39, y_c4, y_c40, y_c44, y_c4589, y_c48, y_c49, y_c5, y_c512, y_c54, y_c57, y_c59, y_c6, y_c62, y_c64, y_c7, y_c8, y_c9, y_c99, y_c9999, y_d0, y_d1, y_d10, y_d100, y_d1000000, y_d1442695040888963407, y_d2, y_d20, y_d255, y_d3, y_d4, y_d40, y_d4294967295, y_d48, y_d5, y_d50, y_d54, y_d57, y_d6364136223846793005, y_d7, y_d9, y_d9999, y_dR, y_dS, y_dk, y_nar0, y_nar1, y_Ilt, y_Ile, y_Ieq, y_Iadd, y_Imul, y_Idiv, y_Llt, y_Lle, y_Leq, y_Ladd, y_Lmul, y_Ldiv, y_I2l, y_L2i, y_shn, y_or, y_and, y_bn1, y_bn0, y_inb, y_cl, y_gle, y_gge, y_ggt, y_glt, y_geq, if_pos, if_neg, if_true, if_false, Option.bind_some, g1, g2, y_Irem2, hs, e]
  · rw [hM, show (353 : Int32) = nI 353 from rfl, y_c1, y_Isub (by omega), y_Imul, show (0 : Int32) = nI 0 from rfl]
    exact x_copy (by omega) (by omega) (by omega) (by omega)
  · obtain ⟨ρ2, σ2, s2⟩ := hh i (by omega)
    refine ⟨ρ2, σ2, ?_⟩
    rw [show ((x + 13) % 14 + 14 - (a - 1) + i) % 14 = (x + 14 - a + i) % 14 by omega]
    exact s2
  · refine ⟨e1, s.2.1.congr (fun i hi => ?_), s.2.2⟩
    show (if 0 ≤ i ∧ i < 0 + 353 then dia (353 * (a - 1) + (i - 0)) else now i) = _
    rw [if_pos (by omega)]; rfl
/-- the slots -/
def SL (N : Nat) (S : TS) (kept : Nat → Int64) (isK : Nat → Int32) : Prop := ∀ s, s < 2 → ∃ f, f ≤ 1 ∧ S_filled S s = nI f ∧ isK s = nI f ∧ (f = 1 → ∃ ρ σ, ST N (S_w S s) (fun j => kept (353 * s + j)) ρ σ)
theorem SL.mono {N K : Nat} {S : TS} {kept : Nat → Int64} {isK : Nat → Int32} (h : SL N S kept isK) (hk : N ≤ K) : SL K S kept isK := by
  intro s hs
  obtain ⟨f, a1, a2, a3, a4⟩ := h s hs
  refine ⟨f, a1, a2, a3, fun hf => ?_⟩
  obtain ⟨ρ, σ, b⟩ := a4 hf
  exact ⟨ρ, σ, b.mono hk⟩
theorem s_put {N : Nat} {S : TS} {w : TW} {r kept : Nat → Int64} {isK : Nat → Int32} {ρ : Nat → Nat} {σ : Nat → Int64} {s : Nat} (hS : SL N S kept isK) (h : ST N w r ρ σ) (hs : s < 2) :
    ∃ S' kept', f_X5_put S w (nI s) = some ((), S') ∧ f_X9_copyWorld 353 706 r kept (0 : Int32) ((353 : Int32) * nI s) = some ((), kept') ∧ SL N S' kept' (upd isK s (nI 1)) := by
  obtain ⟨w1, e, e1⟩ := c_take (w := S_w S s) h.1 h.2.2.1.1
  refine ⟨S_mk (upd (S_filled S) s (nI 1)) (updW (S_w S) s w1), fun j => if 353 * s ≤ j ∧ j < 353 * s + 353 then r (0 + (j - 353 * s)) else kept j, ?_, ?_, fun t ht => ?_⟩
  · simp (disch := omega) only [y_c0, y_c1, y_c10, y_c100, y_c1000, y_c10000, y_c100000, y_c106, y_c112, y_c116, y_c127, y_c128, y_c13, y_c14, y_c155, y_c2, y_c20, y_c200, y_c204, y_c21, y_c253, y_c255, y_c3, y_c30, y_c302, y_c303, y_c304, y_c305, y_c306, y_c307, y_c308, y_c309, y_c310, y_c311, y_c312, y_c313, y_c314, y_c315, y_c316, y_c32, y_c33, y_c353, y_c39, y_c4, y_c40, y_c44, y_c4589, y_c48, y_c49, y_c5, y_c512, y_c54, y_c57, y_c59, y_c6, y_c62, y_c64, y_c7, y_c8, y_c9, y_c99, y_c9999, y_d0, y_d1, y_d10, y_d100, y_d1000000, y_d1442695040888963407, y_d2, y_d20, y_d255, y_d3, y_d4, y_d40, y_d4294967295, y_d48, y_d5, y_d50, y_d54, y_d57, y_d6364136223846793005, y_d7, y_d9, y_d9999, y_dR, y_dS, y_dk, y_nar0, y_nar1, y_Ilt, y_Ile, y_Ieq, y_Iadd, y_Imul, y_Idiv, y_Llt, y_Lle, y_Leq, y_Ladd, y_Lmul, y_Ldiv, y_I2l, y_L2i, y_shn, y_or, y_and, y_bn1, y_bn0, y_inb, y_cl, y_gle, y_gge, y_ggt, y_glt, y_geq, if_pos, if_neg, if_true, if_false, Option.bind_some, f_X5_put, c_isIn, e]
  · rw [show (353 : Int32) = nI 353 from rfl, y_Imul, show (0 : Int32) = nI 0 from rfl]
    exact x_copy (by omega) (by omega) (by omega) (by omega)
  · by_cases z : t = s
    · subst z
      refine ⟨1, by omega, if_pos rfl, if_pos rfl, fun _ => ⟨ρ, σ, ?_⟩⟩
      rw [show S_w (S_mk (upd (S_filled S) t (nI 1)) (updW (S_w S) t w1)) t = w1 from if_pos rfl]
      refine ⟨e1, h.2.1.congr (fun j hj => ?_), h.2.2⟩
      show (if 353 * t ≤ 353 * t + j ∧ 353 * t + j < 353 * t + 353 then r (0 + (353 * t + j - 353 * t)) else _) = _
      rw [if_pos (by omega)]
      congr 1; omega
    · obtain ⟨f, a1, a2, a3, a4⟩ := hS t ht
      refine ⟨f, a1, (y_vn z).trans a2, (y_vn z).trans a3, fun hf => ?_⟩
      obtain ⟨ρ2, σ2, b⟩ := a4 hf
      refine ⟨ρ2, σ2, ?_⟩
      rw [show S_w (S_mk (upd (S_filled S) s (nI 1)) (updW (S_w S) s w1)) t = S_w S t from if_neg z]
      refine b.congr (fun j hj => ?_)
      show (if 353 * s ≤ 353 * t + j ∧ 353 * t + j < 353 * s + 353 then _ else kept (353 * t + j)) = _
      rw [if_neg (by omega)]
theorem s_out {N : Nat} {S : TS} {w : TW} {now kept : Nat → Int64} {isK : Nat → Int32} {s : Nat} (hS : SL N S kept isK) (hs : s < 2) : ∃ f, f ≤ 1 ∧ f_X5_isFilled S (nI s) = some (nI f, ()) ∧ isK s = nI f ∧ (f = 1 →
    ∃ w' now' ρ' σ', f_X5_takeOut S w (nI s) = some ((), w') ∧ f_X9_copyWorld 706 353 kept now ((353 : Int32) * nI s) (0 : Int32) = some ((), now') ∧ ST N w' now' ρ' σ') := by
  obtain ⟨f, a1, a2, a3, a4⟩ := hS s hs
  have hf : f_X5_isFilled S (nI s) = some (nI f, ()) := by
    have q : f = 0 ∨ f = 1 := by omega
    rcases q with q | q <;> subst q
    · simp (disch := omega) only [y_c0, y_c1, y_c10, y_c100, y_c1000, y_c10000, y_c100000, y_c106, y_c112, y_c116, y_c127, y_c128, y_c13, y_c14, y_c155, y_c2, y_c20, y_c200, y_c204, y_c21, y_c253, y_c255, y_c3, y_c30, y_c302, y_c303, y_c304, y_c305, y_c306, y_c307, y_c308, y_c309, y_c310, y_c311, y_c312, y_c313, y_c314, y_c315, y_c316, y_c32, y_c33, y_c353, y_c39, y_c4, y_c40, y_c44, y_c4589, y_c48, y_c49, y_c5, y_c512, y_c54, y_c57, y_c59, y_c6, y_c62, y_c64, y_c7, y_c8, y_c9, y_c99, y_c9999, y_d0, y_d1, y_d10, y_d100, y_d1000000, y_d1442695040888963407, y_d2, y_d20, y_d255, y_d3, y_d4, y_d40, y_d4294967295, y_d48, y_d5, y_d50, y_d54, y_d57, y_d6364136223846793005, y_d7, y_d9, y_d9999, y_dR, y_dS, y_dk, y_nar0, y_nar1, y_Ilt, y_Ile, y_Ieq, y_Iadd, y_Imul, y_Idiv, y_Llt, y_Lle, y_Leq, y_Ladd, y_Lmul, y_Ldiv, y_I2l, y_L2i, y_shn, y_or, y_and, y_bn1, y_bn0, y_inb, y_cl, y_gle, y_gge, y_ggt, y_glt, y_geq, if_pos, if_neg, if_true, if_false, Option.bind_some, f_X5_isFilled, c_isIn, a2]
    · simp (disch := omega) only [y_c0, y_c1, y_c10, y_c100, y_c1000, y_c10000, y_c100000, y_c106, y_c112, y_c116, y_c127, y_c128, y_c13, y_c14, y_c155, y_c2, y_c20, y_c200, y_c204, y_c21, y_c253, y_c255, y_c3, y_c30, y_c302, y_c303, y_c304, y_c305, y_c306, y_c307, y_c308, y_c309, y_c310, y_c311, y_c312, y_c313, y_c314, y_c315, y_c316, y_c32, y_c33, y_c353, y_c39, y_c4, y_c40, y_c44, y_c4589, y_c48, y_c49, y_c5, y_c512, y_c54, y_c57, y_c59, y_c6, y_c62, y_c64, y_c7, y_c8, y_c9, y_c99, y_c9999, y_d0, y_d1, y_d10, y_d100, y_d1000000, y_d1442695040888963407, y_d2, y_d20, y_d255, y_d3, y_d4, y_d40, y_d4294967295, y_d48, y_d5, y_d50, y_d54, y_d57, y_d6364136223846793005, y_d7, y_d9, y_d9999, y_dR, y_dS, y_dk, y_nar0, y_nar1, y_Ilt, y_Ile, y_Ieq, y_Iadd, y_Imul, y_Idiv, y_Llt, y_Lle, y_Leq, y_Ladd, y_Lmul, y_Ldiv, y_I2l, y_L2i, y_shn, y_or, y_and, y_bn1, y_bn0, y_inb, y_cl, y_gle, y_gge, y_ggt, y_glt, y_geq, if_pos, if_neg, if_true, if_false, Option.bind_some, f_X5_isFilled, c_isIn, a2]
  refine ⟨f, a1, hf, a3, fun hq => ?_⟩
  obtain ⟨ρ, σ, b⟩ := a4 hq
  obtain ⟨w1, e, e1⟩ := c_take (w := w) b.1 b.2.2.1.1
  subst hq
  refine ⟨w1, fun j => if 0 ≤ j ∧ j < 0 + 353 then kept (353 * s + (j - 0)) else now j, ρ, σ, ?_, ?_, e1, b.2.1.congr (fun i hi => ?_), b.2.2⟩
  · simp (disch := omega) only [y_c0, y_c1, y_c10, y_c100, y_c1000, y_c10000, y_c100000, y_c106, y_c112, y_c116, y_c127, y_c128, y_c13, y_c14, y_c155, y_c2, y_c20, y_c200, y_c204, y_c21, y_c253, y_c255, y_c3, y_c30, y_c302, y_c303, y_c304, y_c305, y_c306, y_c307, y_c308, y_c309, y_c310, y_c311, y_c312, y_c313, y_c314, y_c315, y_c316, y_c32, y_c33, y_c353, y_c39, y_c4, y_c40, y_c44, y_c4589, y_c48, y_c49, y_c5, y_c512, y_c54, y_c57, y_c59, y_c6, y_c62, y_c64, y_c7, y_c8, y_c9, y_c99, y_c9999, y_d0, y_d1, y_d10, y_d100, y_d1000000, y_d1442695040888963407, y_d2, y_d20, y_d255, y_d3, y_d4, y_d40, y_d4294967295, y_d48, y_d5, y_d50, y_d54, y_d57, y_d6364136223846793005, y_d7, y_d9, y_d9999, y_dR, y_dS, y_dk, y_nar0, y_nar1, y_Ilt, y_Ile, y_Ieq, y_Iadd, y_Imul, y_Idiv, y_Llt, y_Lle, y_Leq, y_Ladd, y_Lmul, y_Ldiv, y_I2l, y_L2i, y_shn, y_or, y_and, y_bn1, y_bn0, y_inb, y_cl, y_gle, y_gge, y_ggt, y_glt, y_geq, if_pos, if_neg, if_true, if_false, Option.bind_some, f_X5_takeOut, hf, e]
  · rw [show (353 : Int32) = nI 353 from rfl, y_Imul, show (0 : Int32) = nI 0 from rfl]
    exact x_copy (by omega) (by omega) (by omega) (by omega)
  · show (if 0 ≤ i ∧ i < 0 + 353 then kept (353 * s + (i - 0)) else now i) = _
    rw [if_pos (by omega)]; rfl
theorem c_empty2 : ∀ rr k n S, k + rr = 2 → rr < n → ∃ S', f_X5_emptyAll_L2 n (nI k) S = some ((), S') ∧ (∀ i, k ≤ i → i < 2 → S_filled S' i = nI 0) ∧ ∀ i, i < k → S_filled S' i = S_filled S i := by
  intro rr
  induction rr with
  | zero =>
    intro k n S hk hn
    obtain ⟨n, rfl⟩ : ∃ m, n = m + 1 := ⟨n - 1, by omega⟩
    refine ⟨S, ?_, fun i a b => by omega, fun _ _ => rfl⟩
    rw [f_X5_emptyAll_L2, show k = 2 by omega]
    exact if_pos (by decide)
  | succ rr ih =>
    intro k n S hk hn
    obtain ⟨n, rfl⟩ : ∃ m, n = m + 1 := ⟨n - 1, by omega⟩
    obtain ⟨S', e, e1, e2⟩ := ih (k + 1) n (S_mk (upd (S_filled S) k (nI 0)) (S_w S)) (by omega) (by omega)
    refine ⟨S', ?_, ?_, ?_⟩
    · rw [f_X5_emptyAll_L2]
      simp (disch := omega) only [y_c0, y_c1, y_c10, y_c100, y_c1000, y_c10000, y_c100000, y_c106, y_c112, y_c116, y_c127, y_c128, y_c13, y_c14, y_c155, y_c2, y_c20, y_c200, y_c204, y_c21, y_c253, y_c255, y_c3, y_c30, y_c302, y_c303, y_c304, y_c305, y_c306, y_c307, y_c308, y_c309, y_c310, y_c311, y_c312, y_c313, y_c314, y_c315, y_c316, y_c32, y_c33, y_c353, y_c39, y_c4, y_c40, y_c44, y_c4589, y_c48, y_c49, y_c5, y_c512, y_c54, y_c57, y_c59, y_c6, y_c62, y_c64, y_c7, y_c8, y_c9, y_c99, y_c9999, y_d0, y_d1, y_d10, y_d100, y_d1000000, y_d1442695040888963407, y_d2, y_d20, y_d255, y_d3, y_d4, y_d40, y_d4294967295, y_d48, y_d5, y_d50, y_d54, y_d57, y_d6364136223846793005, y_d7, y_d9, y_d9999, y_dR, y_dS, y_dk, y_nar0, y_nar1, y_Ilt, y_Ile, y_Ieq, y_Iadd, y_Imul, y_Idiv, y_Llt, y_Lle, y_Leq, y_Ladd, y_Lmul, y_Ldiv, y_I2l, y_L2i, y_shn, y_or, y_and, y_bn1, y_bn0, y_inb, y_cl, y_gle, y_gge, y_ggt, y_glt, y_geq, if_pos, if_neg, if_true, if_false, Option.bind_some]
      exact e
    · intro i a b
      by_cases z : i = k
      · rw [e2 i (by omega)]
        exact if_pos z
      · exact e1 i (by omega) b
    · intro i a
      rw [e2 i (by omega)]
      exact if_neg (by omega)
theorem c_empty {S : TS} : ∃ S', f_X5_emptyAll S = some ((), S') ∧ ∀ i, i < 2 → S_filled S' i = nI 0 := by
  obtain ⟨F, hF, hF1⟩ := y_fuel
  obtain ⟨S', e, e1, -⟩ := c_empty2 2 0 F S rfl (by omega)
  refine ⟨S', ?_, fun i hi => e1 i (Nat.zero_le _) hi⟩
  unfold f_X5_emptyAll
  rw [hF]
  exact e
