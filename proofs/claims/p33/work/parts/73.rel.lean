/-- the pairs: place in the reference's row of the pair that stands at c in the class's rows -/
def yq (c : Nat) : Nat := [1, 2, 9, 3, 10, 17, 4, 11, 18, 25, 5, 12, 19, 26, 33, 6, 13, 20, 27, 34, 41].getD c 0
theorem yq_ab : ∀ b, b < 7 → ∀ a, a < b → b * (b - 1) / 2 + a < 21 ∧ yq (b * (b - 1) / 2 + a) = 7 * a + b := by decide +kernel
theorem yq_lt : ∀ c, c < 21 → yq c < 49 := by decide +kernel
theorem yq_inj : ∀ c, c < 21 → ∀ d, d < 21 → yq c = yq d → c = d := by decide +kernel
/-- shares by kind: 0 guessed, 1 believed, 2 true -/
def ysh (ρ : Nat → Nat) (k q : Nat) : Nat := if k = 0 then ρ (57 + q) else if k = 1 then (if 0 < ρ (155 + q) then ρ (155 + q) else ρ (57 + q)) else ρ (106 + q)
def yz (ρ : Nat → Nat) (t : Nat) : Nat := ρ (1 + t)
def yg (ρ : Nat → Nat) (k t u : Nat) : Nat := ysh ρ k (7 * u + t)
def yrw (ρ : Nat → Nat) (k s : Nat) : Nat := yr (yz ρ) (yg ρ k) s 7
/-- what planners ask of a row -/
def INp (ρ : Nat → Nat) : Prop := ρ 0 ≤ 7 ∧ (∀ t, t < ρ 0 → 1 ≤ ρ (1 + t) ∧ ρ (1 + t) ≤ 9999) ∧ (∀ c, c < 21 → ρ (8 + yq c) ≤ 1 ∧ ρ (57 + yq c) ≤ 1000 ∧ ρ (106 + yq c) ≤ 1000 ∧ ρ (155 + yq c) ≤ 1000 ∧ (0 < ρ (8 + yq c) ↔ 0 < ρ (57 + yq c)) ∧ (0 < ρ (8 + yq c) ↔ 0 < ρ (106 + yq c)) ∧ (0 < ρ (155 + yq c) → 0 < ρ (8 + yq c)))
/-- the class's world, as far as planners look at it -/
def WRp (w : TW) (ρ : Nat → Nat) : Prop := W_tables w = nI (ρ 0) ∧ (∀ t, t < ρ 0 → W_sizes w t = nI (ρ (1 + t))) ∧ (∀ c, c < 21 → W_guesses w c = nI (ρ (57 + yq c)) ∧ W_shares w c = nI (ρ (106 + yq c)) ∧ W_memories w c = nI (ρ (155 + yq c)))
/-- the reference's row, as far as planners look at it -/
def RRp (r : Nat → Int64) (ρ : Nat → Nat) : Prop := ∀ i, i < 204 → r i = lN (ρ i)
theorem INp.sh {ρ : Nat → Nat} (h : INp ρ) {c : Nat} (hc : c < 21) (k : Nat) : ysh ρ k (yq c) ≤ 1000 ∧ (0 < ysh ρ k (yq c) ↔ 0 < ρ (8 + yq c)) := by
  obtain ⟨-, -, h⟩ := h
  obtain ⟨h1, h2, h3, h4, h5, h6, h7⟩ := h c hc
  unfold ysh
  split
  · exact ⟨h2, h5.symm⟩
  · split
    · split
      · rename_i q; exact ⟨h4, fun _ => h7 q, fun _ => q⟩
      · exact ⟨h2, h5.symm⟩
    · exact ⟨h3, h6.symm⟩
theorem INp.g {ρ : Nat → Nat} (h : INp ρ) (k : Nat) {t u : Nat} (ht : t < 7) (hu : u < t) : yg ρ k t u ≤ 1000 := by
  obtain ⟨h1, h2⟩ := yq_ab t ht u hu
  have := (h.sh h1 k).1
  rw [h2] at this
  exact this
theorem y_lowbits : ∀ n, n ≤ 7 → ∀ s, s < 2 ^ n → ∀ t, t < 7 → s.testBit t = true → t < n := by decide +kernel
theorem yrw_bd {ρ : Nat → Nat} (h : INp ρ) (k : Nat) {s : Nat} (hs : s < 2 ^ ρ 0) : 1 ≤ yrw ρ k s ∧ yrw ρ k s ≤ 1000000000000 := by
  refine yr_bd 7 (fun t ht hb => ?_) (fun t u ht hu => h.g k ht hu)
  exact (h.2.1 t (y_lowbits (ρ 0) h.1 s hs t ht hb)).1
