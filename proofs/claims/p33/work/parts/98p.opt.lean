/-- the cheapest way on by steps st costs no more than any plan's way by steps that are no cheaper -/
theorem yD_none {st : Nat → Nat → Nat} {w s : Nat} (hs : s < 128) (h : ∀ t, t < 7 → ycd w s t = false) : yD st w s = 0 := by
  rw [yD_eq hs]
  unfold yFd
  rcases yf_sp (p := ycd w s) (c := fun t => st s t + yD st w (s ||| 2 ^ t)) 7 with ⟨e, -⟩ | ⟨x, -, h1, h2, -⟩
  · rw [e]
  · rw [h x h1] at h2; exact nomatch h2
theorem yD_le1 {st : Nat → Nat → Nat} {w s t : Nat} (hs : s < 128) (ht : t < 7) (hc : ycd w s t = true) : yD st w s ≤ st s t + yD st w (s ||| 2 ^ t) := by
  rw [yD_eq hs]
  unfold yFd
  rcases yf_sp (p := ycd w s) (c := fun t => st s t + yD st w (s ||| 2 ^ t)) 7 with ⟨-, h⟩ | ⟨x, e, -, -, h3, -⟩
  · rw [h t ht] at hc; exact nomatch hc
  · rw [e]; exact h3 t ht hc
theorem yD_le_yC {st st' st0 : Nat → Nat → Nat} {w : Nat} (hle : ∀ s t, st s t ≤ st' s t) : ∀ n s, s < 128 → ymiss w s ≤ n → yD st w s ≤ yC st' s (yP st0 w n s) := by
  intro n
  induction n with
  | zero =>
    intro s hs hm
    rw [yD_none hs (fun t ht => ?_)]
    · exact Nat.zero_le _
    · cases q : ycd w s t with
      | false => rfl
      | true => have := ymiss_step ht q; omega
  | succ n ih =>
    intro s hs hm
    rw [yP]
    unfold yFd
    rcases yf_sp (p := ycd w s) (c := fun t => st0 s t + yD st0 w (s ||| 2 ^ t)) 7 with ⟨e, h⟩ | ⟨x, e, h1, h2, -⟩
    · rw [e, yD_none hs h]; exact Nat.zero_le _
    · rw [e]
      have h3 := ymiss_step h1 h2
      have h4 := y_orlt s hs x h1 (ycd_s h2).2
      have h5 := ih (s ||| 2 ^ x) h4.2 (by omega)
      have h6 := yD_le1 (st := st) hs h1 h2
      have h7 := hle s x
      show yD st w s ≤ st' s x + yC st' (s ||| 2 ^ x) (yP st0 w n (s ||| 2 ^ x))
      omega
theorem yst_le (rc rp z : Nat → Nat) (s t : Nat) : yst rp rp z s t ≤ yst rc rp z s t := by
  unfold yst
  by_cases h : s = 0
  · rw [if_pos h, if_pos h]; exact Nat.le_refl _
  · rw [if_neg h, if_neg h]
    generalize rp s * z t = A
    generalize 3 * (rp s + z t) = B
    have : (if B < A then B else A) ≤ (if 3 * (rc s + z t) < rc s * z t then B else A) := by
      split <;> split <;> omega
    omega
theorem yC_bd {st : Nat → Nat → Nat} {B : Nat} (h : ∀ s t, st s t ≤ B) : ∀ L s, yC st s L ≤ B * L.length := by
  intro L
  induction L with
  | nil => intro s; exact Nat.zero_le _
  | cons t L ih =>
    intro s
    have h1 := h s t
    have h2 := ih (s ||| 2 ^ t)
    rw [yC, List.length_cons, Nat.mul_succ]
    omega
/-- what the chosen plan costs in truth, at least the least and at most 7 steps' limits -/
theorem yTr_le (ρ : Nat → Nat) (S : Nat) : yD (yst1 ρ 2) S 0 ≤ yTr ρ 1 2 S ∧ yTr ρ 1 2 S ≤ 7000000000000000 := by
  refine ⟨yD_le_yC (fun s t => yst_le _ _ _ s t) 7 0 (by omega) (ymiss_le S 0), ?_⟩
  have h1 := yC_bd (st := yst (yrw ρ 1) (yrw ρ 2) (yz ρ)) (B := 1000000000000000) (fun s t => yst_bd _ _ _ s t) (yPl ρ 1 S) 0
  have h2 : (yPl ρ 1 S).length ≤ 7 := yP_len 7 0
  unfold yTr
  omega
theorem yCost_1 (ρ : Nat → Nat) (S : Nat) : yCost ρ S 1 = lN (yTr ρ 1 2 S) := rfl
theorem yCost_2 (ρ : Nat → Nat) (S : Nat) : yCost ρ S 2 = lN (yTr ρ 1 2 S - yD (yst1 ρ 2) S 0) := by
  show lN (yTr ρ 1 2 S) - lN (yD (yst1 ρ 2) S 0) = _
  exact y_Lsub (yTr_le ρ S).1
def MP (ρ : Nat → Nat) : Prop := ∀ c, c < 21 → 0 < ρ (155 + yq c) → 0 < ρ (253 + yq c)
theorem mp_fn {ρ : Nat → Nat} {a b : Nat} (hb : 7 * a + b < 49) (h : MP ρ) : MP (yFn ρ a b) := by
  intro c hc hm
  have hq := yq_lt c hc
  unfold yFn at hm ⊢
  split at hm <;> rename_i z
  · rw [if_pos z]
    rw [pu_n (by omega)] at hm ⊢
    exact h c hc hm
  · rw [if_neg z]
    by_cases e : yq c = 7 * a + b
    · rw [e, yFs_s]; omega
    · rw [yFs_o (by omega) (by omega) (by omega) (by omega)] at hm ⊢
      exact h c hc hm
theorem mp_in {S a : Nat} (ha : a < 7) : ∀ rr b ρ, b + rr = 7 → MP ρ → MP (yIn S a rr b ρ) := by
  intro rr
  induction rr with
  | zero => intro b ρ _ h; exact h
  | succ rr ih =>
    intro b ρ hb h
    rw [yIn]
    refine ih _ _ (by omega) ?_
    split
    · exact mp_fn (by omega) h
    · exact h
theorem mp_ot {S : Nat} : ∀ rr a ρ, a + rr = 7 → MP ρ → MP (yOt S rr a ρ) := by
  intro rr
  induction rr with
  | zero => intro a ρ _ h; exact h
  | succ rr ih =>
    intro a ρ ha h
    rw [yOt]
    exact ih _ _ (by omega) (mp_in (by omega) _ _ _ (by omega) h)
theorem yRn_o {S j : Nat} (ρ : Nat → Nat) (h : j < 155 ∨ (302 ≤ j ∧ j < 306)) : yRn S ρ j = ρ j := by
  unfold yRn yR0
  rw [yLn_o _ (by omega)]
  exact pu_n (by omega)
theorem yRn_6 {S : Nat} (ρ : Nat → Nat) : yRn S ρ 306 = ρ 306 + 1 := by
  unfold yRn yR0
  rw [yLn_o _ (by omega)]
  exact pu_e rfl
theorem iv_run {K S : Nat} {ρ : Nat → Nat} {σ : Nat → Int64} (h : IV K (ρ, σ)) : IV (K + 1) (yRn S ρ, yσ ρ S σ) := by
  obtain ⟨a, b, c, s0, s1, s2, s3, t0, t1, t2, t3, t4, t5, t6, t7⟩ := h
  obtain ⟨k1, k2⟩ := yTr_le ρ S
  refine ⟨?_, fun x y hx hy h0 => ?_, ?_, s0 + yTr ρ 1 2 S, s1 + (yTr ρ 1 2 S - yD (yst1 ρ 2) S 0), yTr ρ 1 2 S, yTr ρ 1 2 S - yD (yst1 ρ 2) S 0, ?_, ?_, ?_, ?_, ?_, ?_, ?_, ?_⟩
  · refine mp_ot 7 0 (yR0 ρ) rfl (fun i hi hm => ?_)
    have := yq_lt i hi
    unfold yR0 at hm ⊢
    rw [pu_n (by omega)] at hm ⊢
    exact a i hi hm
  · have h0 : yRn S ρ 0 ≤ y := h0
    rw [yRn_o ρ (by omega)] at h0
    show yRn S ρ (8 + (7 * x + y)) = 0
    rw [yRn_o ρ (by omega)]
    exact b x y hx hy h0
  · have c : ρ 306 ≤ K := c
    show yRn S ρ 306 ≤ K + 1
    rw [yRn_6]; omega
  · show σ 0 + yCost ρ S 1 = _
    have t0 : σ 0 = lN s0 := t0
    rw [t0, yCost_1, y_Ladd]
  · show σ 1 + yCost ρ S 2 = _
    have t1 : σ 1 = lN s1 := t1
    rw [t1, yCost_2, y_Ladd]
  · exact yCost_1 ρ S
  · exact yCost_2 ρ S
  · omega
  · omega
  · have t6 : s0 ≤ ρ 306 * 7000000000000000 := t6
    show _ ≤ yRn S ρ 306 * 7000000000000000
    rw [yRn_6, Nat.succ_mul]; omega
  · exact k2
