theorem y_z0 : nI 0 = (0 : Int32) := rfl
theorem y_z1 : ¬ nI 1 = (0 : Int32) := by decide
theorem y_subn {a b : Nat} (h : a < b) (hb : b < 1000000) : nI a - nI b < 0 := by
  have ea : (nI a).toInt = (a : Int) := nI_toInt (by omega)
  have eb : (nI b).toInt = (b : Int) := nI_toInt (by omega)
  have e0 : (0 : Int32).toInt = 0 := rfl
  rw [fa_lt, fb_subI (by rw [ea, eb]; omega) (by rw [ea, eb]; omega), ea, eb, e0]
  omega
theorem e4_no' (n : Nat) (h : n < 256) : ¬ nI n = (-1 : Int32) := (by decide +kernel : ∀ n, n < 256 → ¬ nI n = (-1 : Int32)) n h
theorem y_m1n : (-1 : Int32) < 0 := by decide
def Msp (M : TM) (s : Nat) : TM := M_mk (M_refusal M) (M_size M) (M_acts M) (M_planned M) (nI s) (M_out M)
def RTX (M : TM) (mt : Nat → Int32) (L : Nat) (c : Nat → Nat) (i : Nat) : Prop := M_size M = nI L ∧ M_spot M = nI i ∧ L ≤ 100 ∧ i ≤ L ∧ ∀ k, k < L → mt k = nI (c k) ∧ c k ≤ 255
theorem RTX.sp {M : TM} {mt : Nat → Int32} {L i j : Nat} {c : Nat → Nat} (h : RTX M mt L c i) (hj : j ≤ L) : RTX (Msp M j) mt L c j := ⟨h.1, rfl, h.2.2.1, hj, h.2.2.2.2⟩
theorem x_sign {M : TM} {mt : Nat → Int32} {L i : Nat} {c : Nat → Nat} (h : RTX M mt L c i) : f_X9_sign M mt = some (if i < L then nI (c i) else -1, ()) := by
  obtain ⟨h1, h2, h3, h4, h5⟩ := h
  unfold f_X9_sign
  rw [h1, h2]
  by_cases q : i < L
  · rw [if_neg (show ¬ nI L ≤ nI i from fun z => by have := (y_Ile (by omega) (by omega)).mp z; omega), if_pos (y_inb (show i < 100 by omega) (by omega)), y_cl (show i < 2147483648 by omega), (h5 i q).1, if_pos q]
  · rw [if_pos ((y_Ile (by omega) (by omega)).mpr (by omega)), if_neg q]
theorem x_tk {M : TM} {mt : Nat → Int32} {L i lo hi : Nat} {c : Nat → Nat} (h : RTX M mt L c i) (hlo : lo < 256) (hhi : hi < 256) : f_X9_taken M mt (nI lo) (nI hi) = if i < L ∧ lo ≤ c i ∧ c i ≤ hi then some (nI (c i - lo), Msp M (i + 1)) else some (-1, M) := by
  have hs := x_sign h
  obtain ⟨h1, h2, h3, h4, h5⟩ := h
  unfold f_X9_taken
  rw [hs]
  by_cases q : i < L
  · have hc := (h5 i q).2
    rw [if_pos q]
    show ((f_X9_in (nI (c i)).toInt64 (nI lo).toInt64 (nI hi).toInt64).bind _) = _
    rw [y_I2l (by omega), y_I2l (by omega), y_I2l (by omega), x_in (by omega) (by omega) (by omega)]
    by_cases z : lo ≤ c i ∧ c i ≤ hi
    · rw [if_pos z, if_pos ⟨q, z⟩]
      rw [Option.bind_some, if_neg y_z1]
      show some (nI (c i) - nI lo, M_mk _ _ _ _ (M_spot M + (1 : Int32)) _) = _
      rw [h2, y_c1, y_Iadd, y_Isub z.1]
      rfl
    · rw [if_neg z, if_neg (fun y => z y.2), Option.bind_some]
      exact if_pos y_z0
  · rw [if_neg q, if_neg (fun y => q y.1)]
    show ((f_X9_in (-1 : Int32).toInt64 (nI lo).toInt64 (nI hi).toInt64).bind _) = _
    rw [y_I2l (by omega), x_inN y_m1n (by omega), Option.bind_some]
    exact if_pos y_z0
def Enum (E : TE) (v : Nat) : TE := E_mk (E_place E) (E_first E) (E_second E) (E_guess E) (nI v)
def mxp (p : Nat) : Nat := if p = 3 then 9999 else 1000
theorem t_dig {E : TE} {p v d : Nat} (hp : E_place E = nI p) (hp2 : p = 3 ∨ p = 4 ∨ p = 5) (hv : E_number E = nI v) (hv2 : v ≤ 9999) (hd : 48 ≤ d ∧ d ≤ 57) : f_X0_takes E (nI d) = if 1 ≤ v * 10 + d - 48 ∧ v * 10 + d - 48 ≤ mxp p then some (nI 1, Enum E (v * 10 + d - 48)) else some (nI 0, E) := by
  have hn : ((nI v * (10 : Int32)) + nI d) - (48 : Int32) = nI (v * 10 + d - 48) := by
    rw [y_c10, y_Imul, y_Iadd, y_c48, y_Isub (by omega)]
  have key : ∀ mx, mx < 100000 → f_X0_takesDigit E (nI d) (nI mx) = if 1 ≤ v * 10 + d - 48 ∧ v * 10 + d - 48 ≤ mx then some (nI 1, Enum E (v * 10 + d - 48)) else some (nI 0, E) := by
    intro mx hmx
    unfold f_X0_takesDigit
    rw [y_c57, show f_X8_isIn (nI d) (48 : Int32) (nI 57) = some (if 48 ≤ d ∧ d ≤ 57 then nI 1 else nI 0, ()) from c_isIn (lo := 48) (by omega) (by omega) (by omega), if_pos hd, Option.bind_some, if_neg y_z1, hv, hn, y_c1, c_isIn (by omega) (by omega) (by omega)]
    by_cases z : 1 ≤ v * 10 + d - 48 ∧ v * 10 + d - 48 ≤ mx
    · rw [if_pos z, if_pos z, Option.bind_some]
      exact if_neg y_z1
    · rw [if_neg z, if_neg z, Option.bind_some]
      exact if_pos y_z0
  unfold f_X0_takes
  rw [hp]
  rcases hp2 with q | q | q <;> subst q
  · rw [if_neg (by decide), if_neg (by decide), if_neg (by decide), if_pos (by decide), show (9999 : Int32) = nI 9999 from rfl, key 9999 (by omega), show mxp 3 = 9999 from rfl]
    by_cases z : 1 ≤ v * 10 + d - 48 ∧ v * 10 + d - 48 ≤ 9999
    · rw [if_pos z, Option.bind_some]; exact if_neg y_z1
    · rw [if_neg z, Option.bind_some]
      refine (if_pos y_z0).trans ?_
      have : f_X0_takesEnd E (nI d) = some (nI 0, E) := if_neg (fun y => by have := (y_Ieq (b := 59) (by omega) (by omega)).mp y; omega)
      show ((f_X0_takesEnd E (nI d)).bind _) = _
      rw [this, Option.bind_some]
      exact if_pos y_z0
  · rw [if_neg (by decide), if_neg (by decide), if_neg (by decide), if_neg (by decide), if_pos (by decide), show (1000 : Int32) = nI 1000 from rfl, key 1000 (by omega), show mxp 4 = 1000 from rfl]
    by_cases z : 1 ≤ v * 10 + d - 48 ∧ v * 10 + d - 48 ≤ 1000
    · rw [if_pos z, Option.bind_some]; exact if_neg y_z1
    · rw [if_neg z, Option.bind_some]
      refine (if_pos y_z0).trans ?_
      have : f_X0_takesComma E (nI d) = some (nI 0, E) := if_neg (fun y => by have := (y_Ieq (b := 44) (by omega) (by omega)).mp y; omega)
      show ((f_X0_takesComma E (nI d)).bind _) = _
      rw [this, Option.bind_some]
      exact if_pos y_z0
  · rw [if_neg (by decide), if_neg (by decide), if_neg (by decide), if_neg (by decide), if_neg (by decide), show (1000 : Int32) = nI 1000 from rfl, key 1000 (by omega), show mxp 5 = 1000 from rfl]
    by_cases z : 1 ≤ v * 10 + d - 48 ∧ v * 10 + d - 48 ≤ 1000
    · rw [if_pos z, Option.bind_some]; exact if_neg y_z1
    · rw [if_neg z, Option.bind_some]
      refine (if_pos y_z0).trans ?_
      have : f_X0_takesEnd E (nI d) = some (nI 0, E) := if_neg (fun y => by have := (y_Ieq (b := 59) (by omega) (by omega)).mp y; omega)
      show ((f_X0_takesEnd E (nI d)).bind _) = _
      rw [this, Option.bind_some]
      exact if_pos y_z0
theorem t_nod0 {E : TE} {d mx : Nat} (hd : d < 48 ∨ 57 < d) (hd2 : d ≤ 255) : f_X0_takesDigit E (nI d) (nI mx) = some (nI 0, E) := by
  unfold f_X0_takesDigit
  rw [y_c48, y_c57, c_isIn (by omega) (by omega) (by omega), if_neg (by omega), Option.bind_some]
  exact if_pos y_z0
/-- at the end of a number that is an entry's last -/
theorem t_end {E : TE} {p v d : Nat} (hp : E_place E = nI p) (hp2 : p = 3 ∨ p = 5) (hv : E_number E = nI v) (hv2 : v ≤ 9999) (hd : d < 48 ∨ 57 < d) (hd2 : d ≤ 255) : f_X0_takes E (nI d) = if d = 59 ∧ 0 < v then some (nI 1, E_mk (nI 0) (E_first E) (E_second E) (E_guess E) (nI 0)) else some (nI 0, E) := by
  have hc : f_X0_isComplete E = some (if 0 < v then nI 1 else nI 0, ()) := by
    unfold f_X0_isComplete
    rw [hp, hv]
    by_cases z : 0 < v
    · rw [if_neg (show ¬ nI v ≤ (0 : Int32) from fun y => by have := (y_Ile (b := 0) (by omega) (by omega)).mp y; omega), if_pos z]
      rcases hp2 with q | q <;> subst q <;> decide
    · rw [if_pos (show nI v ≤ (0 : Int32) from (y_Ile (b := 0) (by omega) (by omega)).mpr (by omega)), if_neg z]; rfl
  have key : f_X0_takesEnd E (nI d) = if d = 59 ∧ 0 < v then some (nI 1, E_mk (nI 0) (E_first E) (E_second E) (E_guess E) (nI 0)) else some (nI 0, E) := by
    unfold f_X0_takesEnd
    by_cases q : d = 59
    · subst q
      rw [if_pos (by decide), hc]
      by_cases z : 0 < v
      · rw [if_pos z, if_pos ⟨rfl, z⟩]
        rfl
      · rw [if_neg z, if_neg (fun y => z y.2), Option.bind_some]
        exact if_pos y_z0
    · rw [if_neg (show ¬ nI d = (59 : Int32) from fun y => q ((y_Ieq (b := 59) (by omega) (by omega)).mp y)), if_neg (fun y => q y.1)]; rfl
  unfold f_X0_takes
  rw [hp]
  rcases hp2 with q | q <;> subst q
  · rw [if_neg (by decide), if_neg (by decide), if_neg (by decide), if_pos (by decide), show (9999 : Int32) = nI 9999 from rfl, t_nod0 hd hd2, Option.bind_some]
    refine (if_pos y_z0).trans ?_
    show ((f_X0_takesEnd E (nI d)).bind _) = _
    rw [key]
    by_cases z : d = 59 ∧ 0 < v
    · rw [if_pos z, Option.bind_some]; exact if_neg y_z1
    · rw [if_neg z, Option.bind_some]; exact if_pos y_z0
  · rw [if_neg (by decide), if_neg (by decide), if_neg (by decide), if_neg (by decide), if_neg (by decide), show (1000 : Int32) = nI 1000 from rfl, t_nod0 hd hd2, Option.bind_some]
    refine (if_pos y_z0).trans ?_
    show ((f_X0_takesEnd E (nI d)).bind _) = _
    rw [key]
    by_cases z : d = 59 ∧ 0 < v
    · rw [if_pos z, Option.bind_some]; exact if_neg y_z1
    · rw [if_neg z, Option.bind_some]; exact if_pos y_z0
theorem t_comma {E : TE} {v d : Nat} (hp : E_place E = nI 4) (hv : E_number E = nI v) (hv2 : v ≤ 9999) (hd : d < 48 ∨ 57 < d) (hd2 : d ≤ 255) : f_X0_takes E (nI d) = if d = 44 ∧ 0 < v then some (nI 1, E_mk (nI 5) (E_first E) (E_second E) (nI v) (nI 0)) else some (nI 0, E) := by
  have key : f_X0_takesComma E (nI d) = if d = 44 ∧ 0 < v then some (nI 1, E_mk (nI 5) (E_first E) (E_second E) (nI v) (nI 0)) else some (nI 0, E) := by
    unfold f_X0_takesComma
    by_cases q : d = 44
    · subst q
      rw [if_pos (by decide), hv]
      by_cases z : 0 < v
      · rw [if_neg (show ¬ nI v = (0 : Int32) from fun y => by have := (y_Ieq (b := 0) (by omega) (by omega)).mp y; omega), if_pos ⟨rfl, z⟩]
        simp (disch := omega) only [y_c0, y_c1, y_c10, y_c100, y_c1000, y_c10000, y_c100000, y_c106, y_c112, y_c116, y_c127, y_c128, y_c13, y_c14, y_c155, y_c2, y_c20, y_c200, y_c204, y_c21, y_c253, y_c255, y_c3, y_c30, y_c302, y_c303, y_c304, y_c305, y_c306, y_c307, y_c308, y_c309, y_c310, y_c311, y_c312, y_c313, y_c314, y_c315, y_c316, y_c32, y_c33, y_c353, y_c39, y_c4, y_c40, y_c44, y_c4589, y_c48, y_c49, y_c5, y_c512, y_c54, y_c57, y_c59, y_c6, y_c62, y_c64, y_c7, y_c8, y_c9, y_c99, y_c9999, y_d0, y_d1, y_d10, y_d100, y_d1000000, y_d1442695040888963407, y_d2, y_d20, y_d255, y_d3, y_d4, y_d40, y_d4294967295, y_d48, y_d5, y_d50, y_d54, y_d57, y_d6364136223846793005, y_d7, y_d9, y_d9999, y_dR, y_dS, y_dk, y_nar0, y_nar1, y_Ilt, y_Ile, y_Ieq, y_Iadd, y_Imul, y_Idiv, y_Llt, y_Lle, y_Leq, y_Ladd, y_Lmul, y_Ldiv, y_I2l, y_L2i, y_shn, y_or, y_and, y_bn1, y_bn0, y_inb, y_cl, y_gle, y_gge, y_ggt, y_glt, y_geq, if_pos, if_neg, if_true, if_false, Option.bind_some, f_X0_expect, E_m_place, E_m_first, E_m_second, E_m_guess, E_m_number]
      · rw [if_pos (show nI v = (0 : Int32) from by rw [show v = 0 by omega]; rfl), if_neg (fun y => z y.2)]; rfl
    · rw [if_neg (show ¬ nI d = (44 : Int32) from fun y => q ((y_Ieq (b := 44) (by omega) (by omega)).mp y)), if_neg (fun y => q y.1)]; rfl
  unfold f_X0_takes
  rw [hp]
  rw [if_neg (by decide), if_neg (by decide), if_neg (by decide), if_neg (by decide), if_pos (by decide), show (1000 : Int32) = nI 1000 from rfl, t_nod0 hd hd2, Option.bind_some]
  refine (if_pos y_z0).trans ?_
  show ((f_X0_takesComma E (nI d)).bind _) = _
  rw [key]
  by_cases z : d = 44 ∧ 0 < v
  · rw [if_pos z, Option.bind_some]; exact if_neg y_z1
  · rw [if_neg z, Option.bind_some]; exact if_pos y_z0
theorem t_entry {E : TE} {d : Nat} (hp : E_place E = nI 0) (hd2 : d ≤ 255) : f_X0_takes E (nI d) = if d = 116 then some (nI 1, E_mk (nI 3) (E_first E) (E_second E) (E_guess E) (nI 0)) else if d = 112 then some (nI 1, E_mk (nI 1) (E_first E) (E_second E) (E_guess E) (nI 0)) else some (nI 0, E) := by
  unfold f_X0_takes
  rw [hp, if_pos (by decide)]
  unfold f_X0_takesEntry f_X0_takesEntry_J14
  by_cases q : d = 116
  · subst q; rw [if_pos (by decide), if_pos rfl]; simp (disch := omega) only [y_c0, y_c1, y_c10, y_c100, y_c1000, y_c10000, y_c100000, y_c106, y_c112, y_c116, y_c127, y_c128, y_c13, y_c14, y_c155, y_c2, y_c20, y_c200, y_c204, y_c21, y_c253, y_c255, y_c3, y_c30, y_c302, y_c303, y_c304, y_c305, y_c306, y_c307, y_c308, y_c309, y_c310, y_c311, y_c312, y_c313, y_c314, y_c315, y_c316, y_c32, y_c33, y_c353, y_c39, y_c4, y_c40, y_c44, y_c4589, y_c48, y_c49, y_c5, y_c512, y_c54, y_c57, y_c59, y_c6, y_c62, y_c64, y_c7, y_c8, y_c9, y_c99, y_c9999, y_d0, y_d1, y_d10, y_d100, y_d1000000, y_d1442695040888963407, y_d2, y_d20, y_d255, y_d3, y_d4, y_d40, y_d4294967295, y_d48, y_d5, y_d50, y_d54, y_d57, y_d6364136223846793005, y_d7, y_d9, y_d9999, y_dR, y_dS, y_dk, y_nar0, y_nar1, y_Ilt, y_Ile, y_Ieq, y_Iadd, y_Imul, y_Idiv, y_Llt, y_Lle, y_Leq, y_Ladd, y_Lmul, y_Ldiv, y_I2l, y_L2i, y_shn, y_or, y_and, y_bn1, y_bn0, y_inb, y_cl, y_gle, y_gge, y_ggt, y_glt, y_geq, if_pos, if_neg, if_true, if_false, Option.bind_some, f_X0_expect, E_m_place, E_m_first, E_m_second, E_m_guess, E_m_number]
  · rw [if_neg (show ¬ nI d = (116 : Int32) from fun y => q ((y_Ieq (b := 116) (by omega) (by omega)).mp y)), if_neg q]
    by_cases q2 : d = 112
    · subst q2; rw [if_pos (by decide), if_pos rfl]; simp (disch := omega) only [y_c0, y_c1, y_c10, y_c100, y_c1000, y_c10000, y_c100000, y_c106, y_c112, y_c116, y_c127, y_c128, y_c13, y_c14, y_c155, y_c2, y_c20, y_c200, y_c204, y_c21, y_c253, y_c255, y_c3, y_c30, y_c302, y_c303, y_c304, y_c305, y_c306, y_c307, y_c308, y_c309, y_c310, y_c311, y_c312, y_c313, y_c314, y_c315, y_c316, y_c32, y_c33, y_c353, y_c39, y_c4, y_c40, y_c44, y_c4589, y_c48, y_c49, y_c5, y_c512, y_c54, y_c57, y_c59, y_c6, y_c62, y_c64, y_c7, y_c8, y_c9, y_c99, y_c9999, y_d0, y_d1, y_d10, y_d100, y_d1000000, y_d1442695040888963407, y_d2, y_d20, y_d255, y_d3, y_d4, y_d40, y_d4294967295, y_d48, y_d5, y_d50, y_d54, y_d57, y_d6364136223846793005, y_d7, y_d9, y_d9999, y_dR, y_dS, y_dk, y_nar0, y_nar1, y_Ilt, y_Ile, y_Ieq, y_Iadd, y_Imul, y_Idiv, y_Llt, y_Lle, y_Leq, y_Ladd, y_Lmul, y_Ldiv, y_I2l, y_L2i, y_shn, y_or, y_and, y_bn1, y_bn0, y_inb, y_cl, y_gle, y_gge, y_ggt, y_glt, y_geq, if_pos, if_neg, if_true, if_false, Option.bind_some, f_X0_expect, E_m_place, E_m_first, E_m_second, E_m_guess, E_m_number]
    · rw [if_neg (show ¬ nI d = (112 : Int32) from fun y => q2 ((y_Ieq (b := 112) (by omega) (by omega)).mp y)), if_neg q2]; simp (disch := omega) only [y_c0, y_c1, y_c10, y_c100, y_c1000, y_c10000, y_c100000, y_c106, y_c112, y_c116, y_c127, y_c128, y_c13, y_c14, y_c155, y_c2, y_c20, y_c200, y_c204, y_c21, y_c253, y_c255, y_c3, y_c30, y_c302, y_c303, y_c304, y_c305, y_c306, y_c307, y_c308, y_c309, y_c310, y_c311, y_c312, y_c313, y_c314, y_c315, y_c316, y_c32, y_c33, y_c353, y_c39, y_c4, y_c40, y_c44, y_c4589, y_c48, y_c49, y_c5, y_c512, y_c54, y_c57, y_c59, y_c6, y_c62, y_c64, y_c7, y_c8, y_c9, y_c99, y_c9999, y_d0, y_d1, y_d10, y_d100, y_d1000000, y_d1442695040888963407, y_d2, y_d20, y_d255, y_d3, y_d4, y_d40, y_d4294967295, y_d48, y_d5, y_d50, y_d54, y_d57, y_d6364136223846793005, y_d7, y_d9, y_d9999, y_dR, y_dS, y_dk, y_nar0, y_nar1, y_Ilt, y_Ile, y_Ieq, y_Iadd, y_Imul, y_Idiv, y_Llt, y_Lle, y_Leq, y_Ladd, y_Lmul, y_Ldiv, y_I2l, y_L2i, y_shn, y_or, y_and, y_bn1, y_bn0, y_inb, y_cl, y_gle, y_gge, y_ggt, y_glt, y_geq, if_pos, if_neg, if_true, if_false, Option.bind_some, f_X0_expect, E_m_place, E_m_first, E_m_second, E_m_guess, E_m_number]
theorem y_dg48 {d : Nat} (hd2 : d ≤ 255) : f_X8_isIn (nI d - (48 : Int32)) (0 : Int32) (6 : Int32) = some (if 48 ≤ d ∧ d ≤ 54 then nI 1 else nI 0, ()) := by
  by_cases q : 48 ≤ d
  · rw [y_c48, y_Isub q, y_c0, y_c6, c_isIn (by omega) (by omega) (by omega)]
    by_cases z : d ≤ 54
    · rw [if_pos (by omega), if_pos (by omega)]
    · rw [if_neg (by omega), if_neg (by omega)]
  · rw [if_neg (fun y => q y.1), y_c0]
    exact c_isInN (y_subn (b := 48) (by omega) (by omega)) (by omega)
theorem t_first {E : TE} {d : Nat} (hp : E_place E = nI 1) (hd2 : d ≤ 255) : (48 ≤ d ∧ d ≤ 54 → f_X0_takes E (nI d) = some (nI 1, E_mk (nI 2) (nI (d - 48)) (E_second E) (E_guess E) (nI 0))) ∧ (¬ (48 ≤ d ∧ d ≤ 54) → ∃ E', f_X0_takes E (nI d) = some (nI 0, E')) := by
  have e : f_X0_takes E (nI d) = ((f_X8_isIn (nI d - (48 : Int32)) (0 : Int32) (6 : Int32)).bind fun o4 => (if o4.1 = (0 : Int32) then (some ((0 : Int32), (E_mk (E_place E) (nI d - (48 : Int32)) (E_second E) (E_guess E) (E_number E)))) else ((f_X0_expect (E_mk (E_place E) (nI d - (48 : Int32)) (E_second E) (E_guess E) (E_number E)) (2 : Int32)).bind fun o6 => (if o6.1 = (0 : Int32) then (some ((0 : Int32), o6.2)) else (some ((1 : Int32), o6.2)))))) := by
    unfold f_X0_takes
    rw [hp, if_neg (by decide), if_pos (by decide)]
  rw [e, y_dg48 hd2]
  refine ⟨fun z => ?_, fun z => ?_⟩
  · rw [if_pos z, y_c48, y_Isub z.1]; simp (disch := omega) only [y_c0, y_c1, y_c10, y_c100, y_c1000, y_c10000, y_c100000, y_c106, y_c112, y_c116, y_c127, y_c128, y_c13, y_c14, y_c155, y_c2, y_c20, y_c200, y_c204, y_c21, y_c253, y_c255, y_c3, y_c30, y_c302, y_c303, y_c304, y_c305, y_c306, y_c307, y_c308, y_c309, y_c310, y_c311, y_c312, y_c313, y_c314, y_c315, y_c316, y_c32, y_c33, y_c353, y_c39, y_c4, y_c40, y_c44, y_c4589, y_c48, y_c49, y_c5, y_c512, y_c54, y_c57, y_c59, y_c6, y_c62, y_c64, y_c7, y_c8, y_c9, y_c99, y_c9999, y_d0, y_d1, y_d10, y_d100, y_d1000000, y_d1442695040888963407, y_d2, y_d20, y_d255, y_d3, y_d4, y_d40, y_d4294967295, y_d48, y_d5, y_d50, y_d54, y_d57, y_d6364136223846793005, y_d7, y_d9, y_d9999, y_dR, y_dS, y_dk, y_nar0, y_nar1, y_Ilt, y_Ile, y_Ieq, y_Iadd, y_Imul, y_Idiv, y_Llt, y_Lle, y_Leq, y_Ladd, y_Lmul, y_Ldiv, y_I2l, y_L2i, y_shn, y_or, y_and, y_bn1, y_bn0, y_inb, y_cl, y_gle, y_gge, y_ggt, y_glt, y_geq, if_pos, if_neg, if_true, if_false, Option.bind_some, f_X0_expect, E_m_place, E_m_first, E_m_second, E_m_guess, E_m_number]
  · rw [if_neg z, Option.bind_some]; exact ⟨_, if_pos y_z0⟩
theorem t_second {E : TE} {d f : Nat} (hp : E_place E = nI 2) (hf : E_first E = nI f) (hf2 : f < 7) (hd2 : d ≤ 255) : (48 ≤ d ∧ d ≤ 54 ∧ d ≠ 48 + f → f_X0_takes E (nI d) = some (nI 1, E_mk (nI 4) (E_first E) (nI (d - 48)) (E_guess E) (nI 0))) ∧ (¬ (48 ≤ d ∧ d ≤ 54 ∧ d ≠ 48 + f) → ∃ E', f_X0_takes E (nI d) = some (nI 0, E')) := by
  have e : f_X0_takes E (nI d) = ((f_X8_isIn (nI d - (48 : Int32)) (0 : Int32) (6 : Int32)).bind fun o8 => (if o8.1 = (0 : Int32) then (some ((0 : Int32), (E_mk (E_place E) (E_first E) (nI d - (48 : Int32)) (E_guess E) (E_number E)))) else (if (nI d - (48 : Int32)) = (E_first E) then (some ((0 : Int32), (E_mk (E_place E) (E_first E) (nI d - (48 : Int32)) (E_guess E) (E_number E)))) else ((f_X0_expect (E_mk (E_place E) (E_first E) (nI d - (48 : Int32)) (E_guess E) (E_number E)) (4 : Int32)).bind fun o11 => (if o11.1 = (0 : Int32) then (some ((0 : Int32), o11.2)) else (some ((1 : Int32), o11.2))))))) := by
    unfold f_X0_takes
    rw [hp, if_neg (by decide), if_neg (by decide), if_pos (by decide)]
  rw [e, y_dg48 hd2]
  by_cases z : 48 ≤ d ∧ d ≤ 54
  · rw [if_pos z, Option.bind_some, y_c48, y_Isub z.1]
    refine ⟨fun y => ?_, fun y => ?_⟩
    · have hne : ¬ nI (d - 48) = E_first E := fun x => by rw [hf] at x; have := (y_Ieq (by omega) (by omega)).mp x; omega
      simp (disch := omega) only [y_c0, y_c1, y_c10, y_c100, y_c1000, y_c10000, y_c100000, y_c106, y_c112, y_c116, y_c127, y_c128, y_c13, y_c14, y_c155, y_c2, y_c20, y_c200, y_c204, y_c21, y_c253, y_c255, y_c3, y_c30, y_c302, y_c303, y_c304, y_c305, y_c306, y_c307, y_c308, y_c309, y_c310, y_c311, y_c312, y_c313, y_c314, y_c315, y_c316, y_c32, y_c33, y_c353, y_c39, y_c4, y_c40, y_c44, y_c4589, y_c48, y_c49, y_c5, y_c512, y_c54, y_c57, y_c59, y_c6, y_c62, y_c64, y_c7, y_c8, y_c9, y_c99, y_c9999, y_d0, y_d1, y_d10, y_d100, y_d1000000, y_d1442695040888963407, y_d2, y_d20, y_d255, y_d3, y_d4, y_d40, y_d4294967295, y_d48, y_d5, y_d50, y_d54, y_d57, y_d6364136223846793005, y_d7, y_d9, y_d9999, y_dR, y_dS, y_dk, y_nar0, y_nar1, y_Ilt, y_Ile, y_Ieq, y_Iadd, y_Imul, y_Idiv, y_Llt, y_Lle, y_Leq, y_Ladd, y_Lmul, y_Ldiv, y_I2l, y_L2i, y_shn, y_or, y_and, y_bn1, y_bn0, y_inb, y_cl, y_gle, y_gge, y_ggt, y_glt, y_geq, if_pos, if_neg, if_true, if_false, Option.bind_some, hne, f_X0_expect, E_m_place, E_m_first, E_m_second, E_m_guess, E_m_number]
    · have he : nI (d - 48) = E_first E := by rw [hf, show d - 48 = f by omega]
      refine ⟨E_mk (E_place E) (E_first E) (nI (d - 48)) (E_guess E) (E_number E), ?_⟩
      simp (disch := omega) only [y_c0, y_c1, y_c10, y_c100, y_c1000, y_c10000, y_c100000, y_c106, y_c112, y_c116, y_c127, y_c128, y_c13, y_c14, y_c155, y_c2, y_c20, y_c200, y_c204, y_c21, y_c253, y_c255, y_c3, y_c30, y_c302, y_c303, y_c304, y_c305, y_c306, y_c307, y_c308, y_c309, y_c310, y_c311, y_c312, y_c313, y_c314, y_c315, y_c316, y_c32, y_c33, y_c353, y_c39, y_c4, y_c40, y_c44, y_c4589, y_c48, y_c49, y_c5, y_c512, y_c54, y_c57, y_c59, y_c6, y_c62, y_c64, y_c7, y_c8, y_c9, y_c99, y_c9999, y_d0, y_d1, y_d10, y_d100, y_d1000000, y_d1442695040888963407, y_d2, y_d20, y_d255, y_d3, y_d4, y_d40, y_d4294967295, y_d48, y_d5, y_d50, y_d54, y_d57, y_d6364136223846793005, y_d7, y_d9, y_d9999, y_dR, y_dS, y_dk, y_nar0, y_nar1, y_Ilt, y_Ile, y_Ieq, y_Iadd, y_Imul, y_Idiv, y_Llt, y_Lle, y_Leq, y_Ladd, y_Lmul, y_Ldiv, y_I2l, y_L2i, y_shn, y_or, y_and, y_bn1, y_bn0, y_inb, y_cl, y_gle, y_gge, y_ggt, y_glt, y_geq, if_pos, if_neg, if_true, if_false, Option.bind_some, he, E_m_place, E_m_first, E_m_second, E_m_guess, E_m_number]
  · rw [if_neg z, Option.bind_some]
    exact ⟨fun y => absurd ⟨y.1, y.2.1⟩ z, fun _ => ⟨_, if_pos y_z0⟩⟩
