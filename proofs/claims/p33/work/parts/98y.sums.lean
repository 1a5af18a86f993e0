-- sums over pairs
def ysm (f : Nat → Nat) : Nat → Nat
  | 0 => 0
  | n + 1 => ysm f n + f n
theorem ysm_cong {f g : Nat → Nat} : ∀ n, (∀ c, c < n → f c = g c) → ysm f n = ysm g n := by
  intro n
  induction n with
  | zero => intro _; rfl
  | succ n ih => intro h; rw [ysm, ysm, ih (fun c hc => h c (by omega)), h n (by omega)]
theorem ysm_lt {f g : Nat → Nat} {d : Nat} : ∀ n, d < n → (∀ c, c < n → c ≠ d → f c = g c) → f d < g d → ysm f n < ysm g n := by
  intro n
  induction n with
  | zero => intro hd; omega
  | succ n ih =>
    intro hd h hl
    rw [ysm, ysm]
    by_cases e : d = n
    · subst e
      rw [ysm_cong d (fun c hc => h c (by omega) (by omega))]
      omega
    · have := ih (by omega) (fun c hc hn => h c (by omega) hn) hl
      rw [h n (by omega) (fun z => e z.symm)]
      omega
theorem yct_ysm (f : Nat → Nat) : ∀ n, yct f n = ysm (fun c => yb (f c)) n := by
  intro n
  induction n with
  | zero => rfl
  | succ n ih => rw [yct, ysm, ih]
def s2i (f : Nat → Nat) (a : Nat) : Nat → Nat → Nat
  | 0, _ => 0
  | r + 1, b => f (7 * a + b) + s2i f a r (b + 1)
def s2o (f : Nat → Nat) (m : Nat) : Nat → Nat → Nat
  | 0, _ => 0
  | r + 1, a => s2i f a (m - (a + 1)) (a + 1) + s2o f m r (a + 1)
def S2 (f : Nat → Nat) (m : Nat) : Nat := s2o f m m 0
theorem S2_0 (f : Nat → Nat) : S2 f 0 = 0 := rfl
theorem S2_1 (f : Nat → Nat) : S2 f 1 = (0 + 0) := rfl
theorem S2_2 (f : Nat → Nat) : S2 f 2 = ((f 1 + 0) + (0 + 0)) := rfl
theorem S2_3 (f : Nat → Nat) : S2 f 3 = ((f 1 + (f 2 + 0)) + ((f 9 + 0) + (0 + 0))) := rfl
theorem S2_4 (f : Nat → Nat) : S2 f 4 = ((f 1 + (f 2 + (f 3 + 0))) + ((f 9 + (f 10 + 0)) + ((f 17 + 0) + (0 + 0)))) := rfl
theorem S2_5 (f : Nat → Nat) : S2 f 5 = ((f 1 + (f 2 + (f 3 + (f 4 + 0)))) + ((f 9 + (f 10 + (f 11 + 0))) + ((f 17 + (f 18 + 0)) + ((f 25 + 0) + (0 + 0))))) := rfl
theorem S2_6 (f : Nat → Nat) : S2 f 6 = ((f 1 + (f 2 + (f 3 + (f 4 + (f 5 + 0))))) + ((f 9 + (f 10 + (f 11 + (f 12 + 0)))) + ((f 17 + (f 18 + (f 19 + 0))) + ((f 25 + (f 26 + 0)) + ((f 33 + 0) + (0 + 0)))))) := rfl
theorem S2_7 (f : Nat → Nat) : S2 f 7 = ((f 1 + (f 2 + (f 3 + (f 4 + (f 5 + (f 6 + 0)))))) + ((f 9 + (f 10 + (f 11 + (f 12 + (f 13 + 0))))) + ((f 17 + (f 18 + (f 19 + (f 20 + 0)))) + ((f 25 + (f 26 + (f 27 + 0))) + ((f 33 + (f 34 + 0)) + ((f 41 + 0) + (0 + 0))))))) := rfl
theorem ysm_21 (f : Nat → Nat) : ysm (fun c => f (yq c)) 21 = 0 + f 1 + f 2 + f 9 + f 3 + f 10 + f 17 + f 4 + f 11 + f 18 + f 25 + f 5 + f 12 + f 19 + f 26 + f 33 + f 6 + f 13 + f 20 + f 27 + f 34 + f 41 := rfl
theorem S2_q (f : Nat → Nat) : S2 f 7 = ysm (fun c => f (yq c)) 21 := by
  rw [S2_7, ysm_21]
  omega
theorem S2_ext {f : Nat → Nat} {n : Nat} (hn : n ≤ 7) (h : ∀ a b, a < b → b < 7 → n ≤ b → f (7 * a + b) = 0) : S2 f n = ysm (fun c => f (yq c)) 21 := by
  rw [← S2_q, S2_7]
  have z0_1 : n ≤ 1 → f 1 = 0 := fun q => h 0 1 (by omega) (by omega) q
  have z0_2 : n ≤ 2 → f 2 = 0 := fun q => h 0 2 (by omega) (by omega) q
  have z0_3 : n ≤ 3 → f 3 = 0 := fun q => h 0 3 (by omega) (by omega) q
  have z0_4 : n ≤ 4 → f 4 = 0 := fun q => h 0 4 (by omega) (by omega) q
  have z0_5 : n ≤ 5 → f 5 = 0 := fun q => h 0 5 (by omega) (by omega) q
  have z0_6 : n ≤ 6 → f 6 = 0 := fun q => h 0 6 (by omega) (by omega) q
  have z1_2 : n ≤ 2 → f 9 = 0 := fun q => h 1 2 (by omega) (by omega) q
  have z1_3 : n ≤ 3 → f 10 = 0 := fun q => h 1 3 (by omega) (by omega) q
  have z1_4 : n ≤ 4 → f 11 = 0 := fun q => h 1 4 (by omega) (by omega) q
  have z1_5 : n ≤ 5 → f 12 = 0 := fun q => h 1 5 (by omega) (by omega) q
  have z1_6 : n ≤ 6 → f 13 = 0 := fun q => h 1 6 (by omega) (by omega) q
  have z2_3 : n ≤ 3 → f 17 = 0 := fun q => h 2 3 (by omega) (by omega) q
  have z2_4 : n ≤ 4 → f 18 = 0 := fun q => h 2 4 (by omega) (by omega) q
  have z2_5 : n ≤ 5 → f 19 = 0 := fun q => h 2 5 (by omega) (by omega) q
  have z2_6 : n ≤ 6 → f 20 = 0 := fun q => h 2 6 (by omega) (by omega) q
  have z3_4 : n ≤ 4 → f 25 = 0 := fun q => h 3 4 (by omega) (by omega) q
  have z3_5 : n ≤ 5 → f 26 = 0 := fun q => h 3 5 (by omega) (by omega) q
  have z3_6 : n ≤ 6 → f 27 = 0 := fun q => h 3 6 (by omega) (by omega) q
  have z4_5 : n ≤ 5 → f 33 = 0 := fun q => h 4 5 (by omega) (by omega) q
  have z4_6 : n ≤ 6 → f 34 = 0 := fun q => h 4 6 (by omega) (by omega) q
  have z5_6 : n ≤ 6 → f 41 = 0 := fun q => h 5 6 (by omega) (by omega) q
  have q : n = 0 ∨ n = 1 ∨ n = 2 ∨ n = 3 ∨ n = 4 ∨ n = 5 ∨ n = 6 ∨ n = 7 := by omega
  rcases q with e | e | e | e | e | e | e | e <;> subst e
  · rw [S2_0]
    rw [z0_1 (by omega), z0_2 (by omega), z0_3 (by omega), z0_4 (by omega), z0_5 (by omega), z0_6 (by omega), z1_2 (by omega), z1_3 (by omega), z1_4 (by omega), z1_5 (by omega), z1_6 (by omega), z2_3 (by omega), z2_4 (by omega), z2_5 (by omega), z2_6 (by omega), z3_4 (by omega), z3_5 (by omega), z3_6 (by omega), z4_5 (by omega), z4_6 (by omega), z5_6 (by omega)]
    try omega
  · rw [S2_1]
    rw [z0_1 (by omega), z0_2 (by omega), z0_3 (by omega), z0_4 (by omega), z0_5 (by omega), z0_6 (by omega), z1_2 (by omega), z1_3 (by omega), z1_4 (by omega), z1_5 (by omega), z1_6 (by omega), z2_3 (by omega), z2_4 (by omega), z2_5 (by omega), z2_6 (by omega), z3_4 (by omega), z3_5 (by omega), z3_6 (by omega), z4_5 (by omega), z4_6 (by omega), z5_6 (by omega)]
    try omega
  · rw [S2_2]
    rw [z0_2 (by omega), z0_3 (by omega), z0_4 (by omega), z0_5 (by omega), z0_6 (by omega), z1_2 (by omega), z1_3 (by omega), z1_4 (by omega), z1_5 (by omega), z1_6 (by omega), z2_3 (by omega), z2_4 (by omega), z2_5 (by omega), z2_6 (by omega), z3_4 (by omega), z3_5 (by omega), z3_6 (by omega), z4_5 (by omega), z4_6 (by omega), z5_6 (by omega)]
    try omega
  · rw [S2_3]
    rw [z0_3 (by omega), z0_4 (by omega), z0_5 (by omega), z0_6 (by omega), z1_3 (by omega), z1_4 (by omega), z1_5 (by omega), z1_6 (by omega), z2_3 (by omega), z2_4 (by omega), z2_5 (by omega), z2_6 (by omega), z3_4 (by omega), z3_5 (by omega), z3_6 (by omega), z4_5 (by omega), z4_6 (by omega), z5_6 (by omega)]
    try omega
  · rw [S2_4]
    rw [z0_4 (by omega), z0_5 (by omega), z0_6 (by omega), z1_4 (by omega), z1_5 (by omega), z1_6 (by omega), z2_4 (by omega), z2_5 (by omega), z2_6 (by omega), z3_4 (by omega), z3_5 (by omega), z3_6 (by omega), z4_5 (by omega), z4_6 (by omega), z5_6 (by omega)]
    try omega
  · rw [S2_5]
    rw [z0_5 (by omega), z0_6 (by omega), z1_5 (by omega), z1_6 (by omega), z2_5 (by omega), z2_6 (by omega), z3_5 (by omega), z3_6 (by omega), z4_5 (by omega), z4_6 (by omega), z5_6 (by omega)]
    try omega
  · rw [S2_6]
    rw [z0_6 (by omega), z1_6 (by omega), z2_6 (by omega), z3_6 (by omega), z4_6 (by omega), z5_6 (by omega)]
    try omega
  · rw [S2_7]
    try rfl
-- how wrongly a pair is believed, over all pairs
def yDo (ρ : Nat → Nat) (p : Nat) : Nat := if 0 < ρ (8 + p) then yDf ρ p else 0
def PHI (ρ : Nat → Nat) : Nat := ysm (fun c => yDo ρ (yq c)) 21
theorem yDo_cong {ρ ρ' : Nat → Nat} {p : Nat} (h8 : ρ' (8 + p) = ρ (8 + p)) (h57 : ρ' (57 + p) = ρ (57 + p)) (h106 : ρ' (106 + p) = ρ (106 + p)) (h155 : ρ' (155 + p) = ρ (155 + p)) : yDo ρ' p = yDo ρ p := by
  have eb : yBl ρ' p = yBl ρ p := by
    unfold yBl ysh
    rw [h57, h106, h155]
  unfold yDo yDf
  rw [h8, eb, h106]
theorem phi_cong {ρ ρ' : Nat → Nat} (h : ∀ j, j < 204 → ρ' j = ρ j) : PHI ρ' = PHI ρ := ysm_cong 21 (fun c hc => by
  have := yq_lt c hc
  exact yDo_cong (h _ (by omega)) (h _ (by omega)) (h _ (by omega)) (h _ (by omega)))
theorem fn_phi {N : Nat} {ρ : Nat → Nat} (hi : INf N ρ) {a b : Nat} (hab : a < b) (hb : b < 7) (hl : 0 < ρ (8 + (7 * a + b))) : PHI (yFn ρ a b) + yFn ρ a b 307 ≤ PHI ρ + ρ 307 := by
  obtain ⟨h1, h2⟩ := yq_ab b hb a hab
  rw [yFn_7 (by omega)]
  unfold yFn
  by_cases z : yDf ρ (7 * a + b) < ρ 302
  · rw [if_pos z, if_pos z, phi_cong (fun j hj => pu_n (by omega))]
    exact Nat.le_refl _
  · rw [if_neg z, if_neg z]
    have hz : ρ 302 ≤ yDf ρ (yq (b * (b - 1) / 2 + a)) := by rw [h2]; omega
    have hl2 : 0 < ρ (8 + yq (b * (b - 1) / 2 + a)) := by rw [h2]; exact hl
    have hm := yMv_le hi h1 hz
    have hv := yNv_bd hi h1 hl2 hz
    have hd := yDf_le hi.1 h1
    rw [h2] at hm hv hd
    have hlt : PHI (yFs ρ a b (7 * a + b)) < PHI ρ := by
      refine ysm_lt (d := b * (b - 1) / 2 + a) 21 h1 (fun c hc hne => ?_) ?_
      · have hq := yq_lt c hc
        have hne2 : yq c ≠ 7 * a + b := fun e => hne (yq_inj c hc _ h1 (by rw [e, h2]))
        exact yDo_cong (yFs_o (by omega) (by omega) (by omega) (by omega)) (yFs_o (by omega) (by omega) (by omega) (by omega)) (yFs_o (by omega) (by omega) (by omega) (by omega)) (yFs_o (by omega) (by omega) (by omega) (by omega))
      · show yDo (yFs ρ a b (7 * a + b)) (yq (b * (b - 1) / 2 + a)) < yDo ρ (yq (b * (b - 1) / 2 + a))
        rw [h2]
        have e8 : yFs ρ a b (7 * a + b) (8 + (7 * a + b)) = ρ (8 + (7 * a + b)) := yFs_o (by omega) (by omega) (by omega) (by omega)
        have e106 : yFs ρ a b (7 * a + b) (106 + (7 * a + b)) = ρ (106 + (7 * a + b)) := yFs_o (by omega) (by omega) (by omega) (by omega)
        have eb : yBl (yFs ρ a b (7 * a + b)) (7 * a + b) = yNv ρ (7 * a + b) := by
          unfold yBl ysh
          rw [if_neg (by omega), if_pos rfl, yFs_m, if_pos (by omega)]
        unfold yDo
        rw [e8, if_pos hl, if_pos hl]
        have hm1 := hm.1
        have hm2 := hm.2
        unfold yDf at hm2 ⊢
        rw [eb, e106]
        unfold yNv
        by_cases c : ρ (106 + (7 * a + b)) ≤ yBl ρ (7 * a + b)
        · rw [if_pos c] at hm2
          rw [if_pos c, if_pos c, if_pos (by omega)]
          omega
        · rw [if_neg c] at hm2
          rw [if_neg c, if_neg c]
          split <;> omega
    omega
theorem in_phi {S a : Nat} : ∀ rr b ρ N, b + rr = 7 → a < b → INf N ρ → PHI (yIn S a rr b ρ) + yIn S a rr b ρ 307 ≤ PHI ρ + ρ 307 := by
  intro rr
  induction rr with
  | zero => intro b ρ N _ _ _; exact Nat.le_refl _
  | succ rr ih =>
    intro b ρ N hb hab hi
    rw [yIn]
    by_cases z : S.testBit a = true ∧ S.testBit b = true ∧ 0 < ρ (8 + (7 * a + b))
    · rw [if_pos z]
      exact Nat.le_trans (ih _ _ (N + 1) (by omega) (by omega) (hi.fn hab (by omega) z.2.2)) (fn_phi hi hab (by omega) z.2.2)
    · rw [if_neg z]
      exact ih _ _ N (by omega) (by omega) hi
theorem ot_phi {S : Nat} : ∀ rr a ρ N, a + rr = 7 → INf N ρ → PHI (yOt S rr a ρ) + yOt S rr a ρ 307 ≤ PHI ρ + ρ 307 := by
  intro rr
  induction rr with
  | zero => intro a ρ N _ _; exact Nat.le_refl _
  | succ rr ih =>
    intro a ρ N ha hi
    rw [yOt]
    exact Nat.le_trans (ih _ _ _ (by omega) (yIn_i _ _ _ _ (by omega) (by omega) hi)) (in_phi _ _ _ N (by omega) (by omega) hi)
/-- surprises bring believed shares nearer to the true ones -/
theorem run_phi {N S : Nat} {ρ : Nat → Nat} (hi : INf N ρ) : PHI (yRn S ρ) + yRn S ρ 307 ≤ PHI ρ + ρ 307 ∧ (yRn S ρ 307 = ρ 307 → PHI (yRn S ρ) = PHI ρ) := by
  have e0 : PHI (yR0 ρ) = PHI ρ := phi_cong (fun j hj => pu_n (by omega))
  have e7 : yR0 ρ 307 = ρ 307 := pu_n (by omega)
  refine ⟨?_, fun h => ?_⟩
  · have := ot_phi (S := S) 7 0 (yR0 ρ) (N + 1) rfl hi.r0
    rw [e0, e7] at this
    exact this
  · have hag : AG (yR0 ρ) (yR0 ρ) := fun j hj => rfl
    have h2 : yLn S (yR0 ρ) 307 = yR0 ρ 307 := by rw [e7]; exact h
    obtain ⟨l1, -, -⟩ := hag.ln h2
    rw [← e0]
    exact phi_cong (fun j hj => l1 j (Or.inl hj))
-- the pair that is most wrongly believed
def dp (ρ : Nat → Nat) (p : Nat × Nat) : Nat := yDf ρ (7 * p.1 + p.2)
def stp (ρ : Nat → Nat) (a b : Nat) (s : Option (Nat × Nat)) : Option (Nat × Nat) :=
  if 0 < ρ (8 + (7 * a + b)) then (match s with
    | none => some (a, b)
    | some p => if dp ρ p < dp ρ (a, b) then some (a, b) else some p) else s
def inn (ρ : Nat → Nat) (a : Nat) : Nat → Nat → Option (Nat × Nat) → Option (Nat × Nat)
  | 0, _, s => s
  | r + 1, b, s => inn ρ a r (b + 1) (stp ρ a b s)
def otr (ρ : Nat → Nat) (m : Nat) : Nat → Nat → Option (Nat × Nat) → Option (Nat × Nat)
  | 0, _, s => s
  | r + 1, a, s => otr ρ m r (a + 1) (inn ρ a (m - (a + 1)) (a + 1) s)
def g10 : Option (Nat × Nat) → Int32
  | none => -1
  | some p => nI (10 * p.1 + p.2)
def gd (ρ : Nat → Nat) : Option (Nat × Nat) → Int32
  | none => -1
  | some p => nI (dp ρ p)
def VB (ρ : Nat → Nat) (s : Option (Nat × Nat)) : Prop := ∀ p, s = some p → p.1 < p.2 ∧ p.2 < 7 ∧ 0 < ρ (8 + (7 * p.1 + p.2))
theorem vb_stp {ρ : Nat → Nat} {a b : Nat} {s : Option (Nat × Nat)} (h : VB ρ s) (hab : a < b) (hb : b < 7) : VB ρ (stp ρ a b s) := by
  intro p hp
  unfold stp at hp
  by_cases z : 0 < ρ (8 + (7 * a + b))
  · rw [if_pos z] at hp
    cases s with
    | none =>
      have hp : some (a, b) = some p := hp
      cases hp; exact ⟨hab, hb, z⟩
    | some s =>
      have hp : (if dp ρ s < dp ρ (a, b) then some (a, b) else some s) = some p := hp
      by_cases y : dp ρ s < dp ρ (a, b)
      · rw [if_pos y] at hp; cases hp; exact ⟨hab, hb, z⟩
      · rw [if_neg y] at hp; exact h p hp
  · rw [if_neg z] at hp; exact h p hp
theorem vb_inn {ρ : Nat → Nat} {a : Nat} : ∀ r b s, b + r ≤ 7 → a < b → VB ρ s → VB ρ (inn ρ a r b s) := by
  intro r
  induction r with
  | zero => intro b s _ _ h; exact h
  | succ r ih => intro b s hb hab h; exact ih _ _ (by omega) (by omega) (vb_stp h hab (by omega))
theorem vb_otr {ρ : Nat → Nat} {m : Nat} (hm : m ≤ 7) : ∀ r a s, a + r ≤ m → VB ρ s → VB ρ (otr ρ m r a s) := by
  intro r
  induction r with
  | zero => intro a s _ h; exact h
  | succ r ih => intro a s ha h; exact ih _ _ (by omega) (vb_inn _ _ _ (by omega) (by omega) h)
theorem stp_no {ρ : Nat → Nat} {a b : Nat} {s : Option (Nat × Nat)} (h : ρ (8 + (7 * a + b)) = 0) : stp ρ a b s = s := if_neg (by omega)
theorem inn_no {ρ : Nat → Nat} {a : Nat} : ∀ r b s, (∀ b', b ≤ b' → b' < b + r → ρ (8 + (7 * a + b')) = 0) → inn ρ a r b s = s := by
  intro r
  induction r with
  | zero => intro b s _; rfl
  | succ r ih =>
    intro b s h
    rw [inn, stp_no (h b (Nat.le_refl _) (by omega))]
    exact ih _ _ (fun b' h1 h2 => h b' (by omega) (by omega))
theorem inn_add {ρ : Nat → Nat} {a : Nat} : ∀ r1 r2 b s, inn ρ a (r1 + r2) b s = inn ρ a r2 (b + r1) (inn ρ a r1 b s) := by
  intro r1
  induction r1 with
  | zero => intro r2 b s; rw [Nat.zero_add]; rfl
  | succ r1 ih =>
    intro r2 b s
    rw [show r1 + 1 + r2 = (r1 + r2) + 1 by omega, inn, inn, ih, show b + 1 + r1 = b + (r1 + 1) by omega]
theorem otr_no {ρ : Nat → Nat} {n : Nat} (h : ∀ a b, a < b → b < 7 → n ≤ b → ρ (8 + (7 * a + b)) = 0) : ∀ r a s, a + r = 7 → n ≤ a → otr ρ 7 r a s = s := by
  intro r
  induction r with
  | zero => intro a s _ _; rfl
  | succ r ih =>
    intro a s ha hn
    rw [otr, inn_no _ _ _ (fun b' h1 h2 => h a b' (by omega) (by omega) (by omega))]
    exact ih _ _ (by omega) (by omega)
theorem otr_ext {ρ : Nat → Nat} {n : Nat} (hn : n ≤ 7) (h : ∀ a b, a < b → b < 7 → n ≤ b → ρ (8 + (7 * a + b)) = 0) : ∀ r a s, a + r = n → otr ρ 7 (r + (7 - n)) a s = otr ρ n r a s := by
  intro r
  induction r with
  | zero =>
    intro a s ha
    rw [Nat.zero_add]
    exact otr_no h _ _ _ (by omega) (by omega)
  | succ r ih =>
    intro a s ha
    rw [show r + 1 + (7 - n) = (r + (7 - n)) + 1 by omega, otr, otr, show 7 - (a + 1) = (n - (a + 1)) + (7 - n) by omega, inn_add, inn_no _ _ _ (fun b' h1 h2 => h a b' (by omega) (by omega) (by omega))]
    exact ih _ _ (by omega)
def best (ρ : Nat → Nat) (n : Nat) : Option (Nat × Nat) := otr ρ n n 0 none
theorem best_ext {ρ : Nat → Nat} {n : Nat} (hn : n ≤ 7) (h : ∀ a b, a < b → b < 7 → n ≤ b → ρ (8 + (7 * a + b)) = 0) : best ρ 7 = best ρ n := by
  have := otr_ext hn h n 0 none (Nat.zero_add _)
  rw [show n + (7 - n) = 7 by omega] at this
  exact this
-- none is found if none is linked, and only then
theorem stp_some {ρ : Nat → Nat} {a b : Nat} {s : Option (Nat × Nat)} (h : s ≠ none) : stp ρ a b s ≠ none := by
  unfold stp
  cases s with
  | none => exact absurd rfl h
  | some p =>
    by_cases z : 0 < ρ (8 + (7 * a + b))
    · rw [if_pos z]
      show (if dp ρ p < dp ρ (a, b) then some (a, b) else some p) ≠ none
      split <;> exact Option.some_ne_none _
    · rw [if_neg z]; exact Option.some_ne_none _
theorem inn_some {ρ : Nat → Nat} {a : Nat} : ∀ r b s, s ≠ none → inn ρ a r b s ≠ none := by
  intro r
  induction r with
  | zero => intro b s h; exact h
  | succ r ih => intro b s h; exact ih _ _ (stp_some h)
theorem otr_some {ρ : Nat → Nat} {m : Nat} : ∀ r a s, s ≠ none → otr ρ m r a s ≠ none := by
  intro r
  induction r with
  | zero => intro a s h; exact h
  | succ r ih => intro a s h; exact ih _ _ (inn_some _ _ _ h)
theorem inn_hit {ρ : Nat → Nat} {a b0 : Nat} (h : 0 < ρ (8 + (7 * a + b0))) : ∀ r b s, b ≤ b0 → b0 < b + r → inn ρ a r b s ≠ none := by
  intro r
  induction r with
  | zero => intro b s h1 h2; omega
  | succ r ih =>
    intro b s h1 h2
    rw [inn]
    by_cases e : b = b0
    · subst e
      refine inn_some _ _ _ ?_
      unfold stp
      rw [if_pos h]
      cases s with
      | none => exact Option.some_ne_none _
      | some p =>
        show (if dp ρ p < dp ρ (a, b) then some (a, b) else some p) ≠ none
        split <;> exact Option.some_ne_none _
    · exact ih _ _ (by omega) (by omega)
theorem otr_hit {ρ : Nat → Nat} {a0 b0 : Nat} (hab : a0 < b0) (hb : b0 < 7) (h : 0 < ρ (8 + (7 * a0 + b0))) : ∀ r a s, a + r = 7 → a ≤ a0 → otr ρ 7 r a s ≠ none := by
  intro r
  induction r with
  | zero => intro a s h1 h2; omega
  | succ r ih =>
    intro a s h1 h2
    rw [otr]
    by_cases e : a = a0
    · subst e
      exact otr_some _ _ _ (inn_hit h _ _ _ (by omega) (by omega))
    · exact ih _ _ (by omega) (by omega)
theorem yct_zero {f : Nat → Nat} : ∀ n, yct f n = 0 ↔ ∀ c, c < n → f c = 0 := by
  intro n
  induction n with
  | zero => exact ⟨fun _ c hc => absurd hc (Nat.not_lt_zero _), fun _ => rfl⟩
  | succ n ih =>
    rw [yct]
    constructor
    · intro h c hc
      by_cases e : c = n
      · subst e
        by_cases z : 0 < f c
        · rw [yb_1 z] at h; omega
        · omega
      · exact ih.mp (by omega) c (by omega)
    · intro h
      rw [ih.mpr (fun c hc => h c (by omega)), yb_0 (by rw [h n (by omega)]; omega)]
theorem yq_pair : ∀ c, c < 21 → ∃ a, a < 7 ∧ ∃ b, b < 7 ∧ a < b ∧ yq c = 7 * a + b := by decide +kernel
theorem best_none {N : Nat} {ρ : Nat → Nat} (hi : INf N ρ) : best ρ 7 = none ↔ yct (fun c => ρ (57 + yq c)) 21 = 0 := by
  rw [yct_zero]
  constructor
  · intro h c hc
    obtain ⟨a, ha, b, hb, hab, e⟩ := yq_pair c hc
    obtain ⟨-, -, -, -, i5, -⟩ := hi.1.2.2 c hc
    by_cases z : 0 < ρ (57 + yq c)
    · have h8 := i5.mpr z
      rw [e] at h8
      exact absurd h (otr_hit hab hb h8 7 0 none rfl (Nat.zero_le _))
    · show ρ (57 + yq c) = 0
      omega
  · intro h
    have hz : ∀ a b, a < b → b < 7 → ρ (8 + (7 * a + b)) = 0 := by
      intro a b hab hb
      obtain ⟨h1, h2⟩ := yq_ab b hb a hab
      obtain ⟨-, -, -, -, i5, -⟩ := hi.1.2.2 _ h1
      have := h _ h1
      have h57 : ρ (57 + yq (b * (b - 1) / 2 + a)) = 0 := this
      rw [← h2]
      omega
    exact otr_no (n := 0) (fun a b hab hb _ => hz a b hab hb) 7 0 none rfl (Nat.zero_le _)
-- the class finds it
theorem dp_le {N : Nat} {ρ : Nat → Nat} (hi : INf N ρ) {p : Nat × Nat} (h1 : p.1 < p.2) (h2 : p.2 < 7) : dp ρ p ≤ 1000 := by
  obtain ⟨k1, k2⟩ := yq_ab p.2 h2 p.1 h1
  have := (yDf_le hi.1 k1).2.2
  rw [k2] at this
  exact this
theorem y_m1lt {n : Nat} (h : n < 2147483648) : ¬ nI n ≤ (-1 : Int32) := (y_neg y_m1n h).2.1
theorem gd_le {N : Nat} {ρ : Nat → Nat} (hi : INf N ρ) {a b : Nat} (hab : a < b) (hb : b < 7) {s : Option (Nat × Nat)} (hs : VB ρ s) (hl : 0 < ρ (8 + (7 * a + b))) : (nI (dp ρ (a, b)) ≤ gd ρ s → stp ρ a b s = s) ∧ (¬ nI (dp ρ (a, b)) ≤ gd ρ s → stp ρ a b s = some (a, b)) := by
  have h1 := dp_le hi (p := (a, b)) hab hb
  unfold stp
  rw [if_pos hl]
  cases s with
  | none =>
    exact ⟨fun h => absurd h (y_m1lt (by omega)), fun _ => rfl⟩
  | some p =>
    obtain ⟨v1, v2, -⟩ := hs p rfl
    have h2 := dp_le hi v1 v2
    have e : nI (dp ρ (a, b)) ≤ gd ρ (some p) ↔ dp ρ (a, b) ≤ dp ρ p := y_Ile (by omega) (by omega)
    refine ⟨fun h => ?_, fun h => ?_⟩
    · have := e.mp h
      exact if_neg (by omega)
    · have : ¬ dp ρ (a, b) ≤ dp ρ p := fun z => h (e.mpr z)
      exact if_pos (by omega)
theorem c_ws1 {N : Nat} {w : TW} {ρ : Nat → Nat} {a : Nat} {K1 : Int32 → Int32 → Option (Int32 × Unit)} (hw : WRp w ρ) (hi : INf N ρ) : ∀ r b n s, b + r = 7 → r < n → a < b → VB ρ s → f_X7_mostWronglyBelieved_L17 w (nI a) K1 n (g10 s) (gd ρ s) (nI b) = K1 (g10 (inn ρ a r b s)) (gd ρ (inn ρ a r b s)) := by
  intro r
  induction r with
  | zero =>
    intro b n s hb hn _ _
    obtain ⟨n, rfl⟩ : ∃ m, n = m + 1 := ⟨n - 1, by omega⟩
    rw [f_X7_mostWronglyBelieved_L17, show b = 7 by omega]; exact if_pos (by decide)
  | succ r ih =>
    intro b n s hb hn hab hs
    obtain ⟨n, rfl⟩ : ∃ m, n = m + 1 := ⟨n - 1, by omega⟩
    obtain ⟨k1, k2⟩ := yq_ab b (by omega) a hab
    rw [c_wst hw hi.1 hab (by omega) rfl, inn, k2]
    by_cases hl : 0 < ρ (8 + (7 * a + b))
    · obtain ⟨e1, e2⟩ := gd_le hi hab (by omega) hs hl
      by_cases z : nI (dp ρ (a, b)) ≤ gd ρ s
      · rw [if_neg (fun y => y.2 z), e1 z]
        exact ih _ _ _ (by omega) (by omega) (by omega) hs
      · rw [if_pos ⟨hl, z⟩, e2 z, show (10 : Int32) * nI a + nI b = nI (10 * a + b) from by rw [show (10 : Int32) = nI 10 from rfl, y_Imul, y_Iadd]]
        exact ih (b + 1) n (some (a, b)) (by omega) (by omega) (by omega) (fun p hp => by cases hp; exact ⟨hab, by omega, hl⟩)
    · rw [if_neg (fun y => hl y.1), stp_no (by omega)]
      exact ih _ _ _ (by omega) (by omega) (by omega) hs
theorem c_ws2 {N : Nat} {w : TW} {ρ : Nat → Nat} (hw : WRp w ρ) (hi : INf N ρ) : ∀ r a n s, a + r = 7 → r < n → VB ρ s → f_X7_mostWronglyBelieved_L6 w n (g10 s) (gd ρ s) (nI a) = some (g10 (otr ρ 7 r a s), ()) := by
  intro r
  induction r with
  | zero =>
    intro a n s ha hn _
    obtain ⟨n, rfl⟩ : ∃ m, n = m + 1 := ⟨n - 1, by omega⟩
    rw [f_X7_mostWronglyBelieved_L6, show a = 7 by omega]; exact if_pos (by decide)
  | succ r ih =>
    intro a n s ha hn hs
    obtain ⟨n, rfl⟩ : ∃ m, n = m + 1 := ⟨n - 1, by omega⟩
    obtain ⟨F, hF, hF1⟩ := y_fuel
    rw [f_X7_mostWronglyBelieved_L6, if_neg (show ¬ (7 : Int32) ≤ nI a from fun z => by have := (y_Ile (a := 7) (by omega) (by omega)).mp z; omega), hF, y_c1, y_Iadd]
    rw [c_ws1 hw hi (7 - (a + 1)) (a + 1) F s (by omega) (by omega) (by omega) hs, otr]
    exact ih (a + 1) n _ (by omega) (by omega) (vb_inn _ _ _ (by omega) (by omega) hs)
theorem e_worst {N K : Nat} {q : CW} {w : TW} (hw : WK N K w q) : f_X8_worst w = some (g10 (best q.1 (q.1 0)), ()) := by
  obtain ⟨F, hF, hF1⟩ := y_fuel
  rw [← best_ext hw.2.1.1.1 hw.2.2.2.1]
  unfold f_X8_worst f_X7_mostWronglyBelieved
  rw [hF, show f_X7_mostWronglyBelieved_L6 w F (-1 : Int32) (-1 : Int32) (0 : Int32) = _ from c_ws2 hw.1.1 hw.2.1 7 0 F none rfl (by omega) (fun p hp => nomatch hp)]
  rfl
