/-- the class's reader takes k signs, none of them a semicolon -/
def RUN (c : Nat → Nat) : Nat → Nat → TE → TE → Prop
  | 0, _, E, E' => E = E'
  | k + 1, i, E, E' => c i ≠ 59 ∧ ∃ E1, f_X0_takes E (nI (c i)) = some (nI 1, E1) ∧ RUN c k (i + 1) E1 E'
theorem RUN.one {c : Nat → Nat} {i : Nat} {E E' : TE} (h : c i ≠ 59) (e : f_X0_takes E (nI (c i)) = some (nI 1, E')) : RUN c 1 i E E' := ⟨h, E', e, rfl⟩
theorem RUN.app {c : Nat → Nat} : ∀ k i l (E E1 E' : TE), RUN c k i E E1 → RUN c l (i + k) E1 E' → RUN c (k + l) i E E' := by
  intro k
  induction k with
  | zero =>
    intro i l E E1 E' h1 h2
    have : E = E1 := h1
    subst this
    rw [Nat.zero_add]
    exact h2
  | succ k ih =>
    intro i l E E1 E' h1 h2
    obtain ⟨a, E2, b, d⟩ := h1
    rw [show k + 1 + l = (k + l) + 1 by omega]
    exact ⟨a, E2, b, ih (i + 1) l E2 E1 E' d (by rw [show i + 1 + k = i + (k + 1) by omega]; exact h2)⟩
theorem RUN.to {c : Nat → Nat} {i j k : Nat} {E E1 E' : TE} (h1 : RUN c (j - i) i E E1) (h2 : RUN c (k - j) j E1 E') (hij : i ≤ j) (hjk : j ≤ k) : RUN c (k - i) i E E' := by
  have := RUN.app (j - i) i (k - j) E E1 E' h1 (by rw [show i + (j - i) = j by omega]; exact h2)
  rw [show j - i + (k - j) = k - i by omega] at this
  exact this
/-- stuck at j -/
def STK (L : Nat) (c : Nat → Nat) (j : Nat) (E : TE) : Prop := (j < L ∧ ∃ E', f_X0_takes E (nI (c j)) = some (nI 0, E')) ∨ (j = L ∧ f_X0_isComplete E = some (nI 0, ()))
theorem nc_num {E : TE} {p : Nat} (hp : E_place E = nI p) (h : E_number E = nI 0) : f_X0_isComplete E = some (nI 0, ()) := by
  unfold f_X0_isComplete
  rw [h]; exact if_pos (show nI 0 ≤ (0 : Int32) by decide)
theorem nc_pl {E : TE} {p : Nat} (hp : E_place E = nI p) (h : p = 0 ∨ p = 1 ∨ p = 2 ∨ p = 4) : f_X0_isComplete E = some (nI 0, ()) := by
  unfold f_X0_isComplete
  rw [hp]
  split
  · rfl
  · rcases h with h | h | h | h <;> subst h <;> decide
theorem cm_pl {E : TE} {p v : Nat} (hp : E_place E = nI p) (h : p = 3 ∨ p = 5) (hv : E_number E = nI v) (h1 : 0 < v) (h2 : v ≤ 9999) : f_X0_isComplete E = some (nI 1, ()) := by
  unfold f_X0_isComplete
  rw [hp, hv, if_neg (show ¬ nI v ≤ (0 : Int32) from fun y => by have := (y_Ile (b := 0) (by omega) (by omega)).mp y; omega)]
  rcases h with h | h <;> subst h <;> decide
theorem x_19 {mt : Nat → Int32} {L mx p : Nat} {c : Nat → Nat} (hp2 : p = 3 ∨ p = 4 ∨ p = 5) (hmx : mxp p = mx) : ∀ rr i v n (M : TM) (E : TE), L - i = rr → rr < n → 1 ≤ v → v ≤ mx → RTX M mt L c i → E_place E = nI p → E_number E = nI v →
    ∃ j x v', f_X9_number_L19 mt (nI mx) n (nI v) M = some (x, Msp M j) ∧ i ≤ j ∧ j ≤ L ∧ 1 ≤ v' ∧ v' ≤ mx ∧ RUN c (j - i) i E (Enum E v') ∧ ((x = nI v' ∧ (j < L → c j < 48 ∨ 57 < c j)) ∨ (x = -1 ∧ STK L c j (Enum E v'))) := by
  have hm9 : mx ≤ 9999 := by rw [← hmx]; unfold mxp; split <;> omega
  intro rr
  induction rr with
  | zero =>
    intro i v n M E hi hn h1 h2 hM hE hv
    obtain ⟨n, rfl⟩ : ∃ m, n = m + 1 := ⟨n - 1, by omega⟩
    have hs := x_sign hM
    have hil := hM.2.2.2.1
    refine ⟨i, nI v, v, ?_, Nat.le_refl _, hil, h1, h2, ?_, Or.inl ⟨rfl, fun h => by omega⟩⟩
    · rw [f_X9_number_L19, hs, if_neg (by omega)]
      rw [Option.bind_some, y_d48, x_inN y_m1n (by omega), Option.bind_some]
      refine (if_pos y_z0).trans ?_
      rw [show Msp M i = M from by unfold Msp; rw [← hM.2.1]; rfl]
    · rw [Nat.sub_self]
      show E = Enum E v
      unfold Enum
      rw [← hv]; rfl
  | succ rr ih =>
    intro i v n M E hi hn h1 h2 hM hE hv
    obtain ⟨n, rfl⟩ : ∃ m, n = m + 1 := ⟨n - 1, by omega⟩
    have hs := x_sign hM
    have hil := hM.2.2.2.1
    have hci := (hM.2.2.2.2 i (by omega)).2
    rw [if_pos (show i < L by omega)] at hs
    by_cases q : 48 ≤ c i ∧ c i ≤ 57
    · have ht := t_dig hE hp2 hv (by omega) q
      rw [hmx] at ht
      have hn2 : ((10 : Int32) * nI v + nI (c i)) - (48 : Int32) = nI (v * 10 + c i - 48) := by
        rw [y_c10, y_Imul, y_Iadd, y_c48, y_Isub (by omega), Nat.mul_comm]
      by_cases z : v * 10 + c i - 48 ≤ mx
      · rw [if_pos ⟨by omega, z⟩] at ht
        obtain ⟨j, x, v', f, f1, f2, f3, f4, f5, f6⟩ := ih (i + 1) (v * 10 + c i - 48) n (Msp M (i + 1)) (Enum E (v * 10 + c i - 48)) (by omega) (by omega) (by omega) z (hM.sp (by omega)) hE rfl
        refine ⟨j, x, v', ?_, by omega, f2, f3, f4, ?_, f6⟩
        · rw [f_X9_number_L19, hs]
          show ((f_X9_in (nI (c i)).toInt64 (48 : Int64) (57 : Int64)).bind _) = _
          rw [y_d48, y_d57, y_I2l (by omega), x_in (by omega) (by omega) (by omega), if_pos q, Option.bind_some]
          refine (if_neg y_z1).trans ?_
          simp only [Option.bind_some, hn2]
          rw [if_pos ((y_Ile (by omega) (by omega)).mpr z), hM.2.1, y_c1, y_Iadd]
          exact f
        · exact RUN.to (j := i + 1) (by rw [show i + 1 - i = 1 by omega]; exact RUN.one (by omega) ht) f5 (by omega) f1
      · rw [if_neg (fun y => z y.2)] at ht
        refine ⟨i, -1, v, ?_, Nat.le_refl _, hil, h1, h2, ?_, Or.inr ⟨rfl, Or.inl ⟨by omega, E, ?_⟩⟩⟩
        · rw [f_X9_number_L19, hs]
          show ((f_X9_in (nI (c i)).toInt64 (48 : Int64) (57 : Int64)).bind _) = _
          rw [y_d48, y_d57, y_I2l (by omega), x_in (by omega) (by omega) (by omega), if_pos q, Option.bind_some]
          refine (if_neg y_z1).trans ?_
          simp only [Option.bind_some, hn2]
          rw [if_neg (fun y => z ((y_Ile (by omega) (by omega)).mp y)), show Msp M i = M from by unfold Msp; rw [← hM.2.1]; rfl]
        · rw [Nat.sub_self]
          show E = Enum E v
          unfold Enum
          rw [← hv]; rfl
        · rw [show Enum E v = E from by unfold Enum; rw [← hv]; rfl]
          exact ht
    · refine ⟨i, nI v, v, ?_, Nat.le_refl _, hil, h1, h2, ?_, Or.inl ⟨rfl, fun _ => by omega⟩⟩
      · rw [f_X9_number_L19, hs]
        show ((f_X9_in (nI (c i)).toInt64 (48 : Int64) (57 : Int64)).bind _) = _
        rw [y_d48, y_d57, y_I2l (by omega), x_in (by omega) (by omega) (by omega), if_neg q, Option.bind_some]
        refine (if_pos y_z0).trans ?_
        rw [show Msp M i = M from by unfold Msp; rw [← hM.2.1]; rfl]
      · rw [Nat.sub_self]
        show E = Enum E v
        unfold Enum
        rw [← hv]; rfl
theorem x_number {mt : Nat → Int32} {L mx p i : Nat} {c : Nat → Nat} {M : TM} {E : TE} (hp2 : p = 3 ∨ p = 4 ∨ p = 5) (hmx : mxp p = mx) (hM : RTX M mt L c i) (hE : E_place E = nI p) (hv : E_number E = nI 0) :
    ∃ j x v', f_X9_number M mt (nI mx) = some (x, Msp M j) ∧ i ≤ j ∧ j ≤ L ∧ v' ≤ mx ∧ RUN c (j - i) i E (Enum E v') ∧ ((x = nI v' ∧ 1 ≤ v' ∧ (j < L → c j < 48 ∨ 57 < c j)) ∨ (x = -1 ∧ STK L c j (Enum E v'))) := by
  have hm9 : mx ≤ 9999 ∧ 9 ≤ mx := by rw [← hmx]; unfold mxp; split <;> omega
  have hil := hM.2.2.2.1
  have hMM : Msp M i = M := by unfold Msp; rw [← hM.2.1]; rfl
  have hEE : Enum E 0 = E := by unfold Enum; rw [← hv]; rfl
  have tk := x_tk (lo := 49) (hi := 57) hM (by omega) (by omega)
  unfold f_X9_number
  rw [show (49 : Int32) = nI 49 from rfl, y_c57, tk]
  by_cases q : i < L ∧ 49 ≤ c i ∧ c i ≤ 57
  · rw [if_pos q]
    obtain ⟨F, hF, hF1⟩ := y_fuel
    have hL := hM.2.2.1
    have ht := t_dig (v := 0) hE hp2 hv (by omega) (show 48 ≤ c i ∧ c i ≤ 57 by omega)
    rw [if_pos (by omega), show 0 * 10 + c i - 48 = c i - 48 by omega] at ht
    obtain ⟨j, x, v', f, f1, f2, f3, f4, f5, f6⟩ := x_19 (mt := mt) hp2 hmx (L - (i + 1)) (i + 1) (c i - 48) F (Msp M (i + 1)) (Enum E (c i - 48)) rfl (by omega) (by omega) (by omega) (hM.sp (by omega)) hE rfl
    refine ⟨j, x, v', ?_, by omega, f2, f4, ?_, ?_⟩
    · show (if nI (c i - 49) = (-1 : Int32) then _ else f_X9_number_L19 mt (nI mx) FUEL (nI (c i - 49) + (1 : Int32)) (Msp M (i + 1))) = _
      rw [if_neg (show ¬ nI (c i - 49) = (-1 : Int32) from e4_no' _ (by omega)), hF, y_c1, y_Iadd, show c i - 49 + 1 = c i - 48 by omega]
      exact f
    · exact RUN.to (j := i + 1) (by rw [show i + 1 - i = 1 by omega]; exact RUN.one (by omega) ht) f5 (by omega) f1
    · rcases f6 with f6 | f6
      · exact Or.inl ⟨f6.1, f3, f6.2⟩
      · exact Or.inr f6
  · rw [if_neg q]
    refine ⟨i, -1, 0, ?_, Nat.le_refl _, hil, by omega, ?_, Or.inr ⟨rfl, ?_⟩⟩
    · rw [Option.bind_some]
      refine (if_pos rfl).trans ?_
      rw [hMM]
    · rw [Nat.sub_self]
      exact hEE.symm
    · rw [hEE]
      rcases Nat.lt_or_ge i L with z | z
      · refine Or.inl ⟨z, E, ?_⟩
        have hci := (hM.2.2.2.2 i z).2
        by_cases z2 : c i = 48
        · have ht := t_dig (v := 0) hE hp2 hv (by omega) (show 48 ≤ c i ∧ c i ≤ 57 by omega)
          rw [if_neg (by omega)] at ht
          exact ht
        · have hnd : c i < 48 ∨ 57 < c i := by omega
          rcases hp2 with hp2 | hp2 | hp2
          · have := t_end hE (Or.inl hp2) hv (by omega) hnd hci
            rw [if_neg (by omega)] at this
            exact this
          · subst hp2
            have := t_comma hE hv (by omega) hnd hci
            rw [if_neg (by omega)] at this
            exact this
          · have := t_end hE (Or.inr hp2) hv (by omega) hnd hci
            rw [if_neg (by omega)] at this
            exact this
      · exact Or.inr ⟨by omega, nc_num hE hv⟩
