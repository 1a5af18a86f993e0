/-- rows of a set: what the tables below u do to v -/
def yi (f : Nat → Nat) (s v : Nat) : Nat → Nat
  | 0 => v
  | u + 1 => if s.testBit u = true ∧ 0 < f u then max 1 (yi f s v u * f u / 1000) else yi f s v u
def yr (z : Nat → Nat) (g : Nat → Nat → Nat) (s : Nat) : Nat → Nat
  | 0 => 1
  | t + 1 => if s.testBit t = true then yi (g t) s (min 1000000000000 (yr z g s t * z t)) t else yr z g s t
theorem yi_bd {f : Nat → Nat} {s v : Nat} (hv : 1 ≤ v) : ∀ n, (∀ u, u < n → f u ≤ 1000) → 1 ≤ yi f s v n ∧ yi f s v n ≤ v := by
  intro n
  induction n with
  | zero => intro _; exact ⟨hv, Nat.le_refl _⟩
  | succ n ih =>
    intro hf
    obtain ⟨h1, h2⟩ := ih (fun u hu => hf u (by omega))
    have h3 : yi f s v n * f n / 1000 ≤ yi f s v n := Nat.div_le_of_le_mul (by rw [Nat.mul_comm 1000]; exact Nat.mul_le_mul_left _ (hf n (by omega)))
    rw [yi]
    by_cases h : s.testBit n = true ∧ 0 < f n
    · rw [if_pos h]; omega
    · rw [if_neg h]; exact ⟨h1, h2⟩
theorem yr_bd {z : Nat → Nat} {g : Nat → Nat → Nat} {s : Nat} : ∀ n, (∀ t, t < n → s.testBit t = true → 1 ≤ z t) → (∀ t u, t < n → u < t → g t u ≤ 1000) → 1 ≤ yr z g s n ∧ yr z g s n ≤ 1000000000000 := by
  intro n
  induction n with
  | zero => intro _ _; exact ⟨Nat.le_refl _, by rw [yr]; omega⟩
  | succ n ih =>
    intro hz hg
    obtain ⟨h1, h2⟩ := ih (fun t ht => hz t (by omega)) (fun t u ht => hg t u (by omega))
    rw [yr]
    by_cases h : s.testBit n = true
    · rw [if_pos h]
      have h3 : 1 ≤ yr z g s n * z n := Nat.mul_pos h1 (hz n (by omega) h)
      have h4 := yi_bd (f := g n) (s := s) (v := min 1000000000000 (yr z g s n * z n)) (by omega) n (fun u hu => hg n u (by omega) hu)
      omega
    · rw [if_neg h]; exact ⟨h1, h2⟩
theorem yi_cong {f f' : Nat → Nat} {s s' v : Nat} : ∀ n, (∀ u, u < n → s.testBit u = s'.testBit u) → (∀ u, u < n → s.testBit u = true → f u = f' u) → yi f s v n = yi f' s' v n := by
  intro n
  induction n with
  | zero => intro _ _; rfl
  | succ n ih =>
    intro hs hf
    have e := ih (fun u hu => hs u (by omega)) (fun u hu => hf u (by omega))
    rw [yi, yi, e, ← hs n (by omega)]
    by_cases h : s.testBit n = true
    · rw [hf n (by omega) h]
    · rw [if_neg (fun q => h q.1), if_neg (fun q => h q.1)]
theorem yr_cong {z z' : Nat → Nat} {g g' : Nat → Nat → Nat} {s s' : Nat} : ∀ n, (∀ u, u < n → s.testBit u = s'.testBit u) → (∀ t, t < n → s.testBit t = true → z t = z' t) → (∀ t, t < n → s.testBit t = true → ∀ u, u < t → s.testBit u = true → g t u = g' t u) → yr z g s n = yr z' g' s' n := by
  intro n
  induction n with
  | zero => intro _ _ _; rfl
  | succ n ih =>
    intro hs hz hg
    have e := ih (fun u hu => hs u (by omega)) (fun t ht => hz t (by omega)) (fun t ht => hg t (by omega))
    rw [yr, yr, e, ← hs n (by omega)]
    by_cases h : s.testBit n = true
    · rw [if_pos h, if_pos h, hz n (by omega) h]
      exact yi_cong n (fun u hu => hs u (by omega)) (fun u hu hb => hg n (by omega) h u hu hb)
    · rw [if_neg h, if_neg h]
theorem yr_top {z : Nat → Nat} {g : Nat → Nat → Nat} {s n : Nat} : ∀ k, (∀ u, n ≤ u → u < n + k → s.testBit u = false) → yr z g s (n + k) = yr z g s n := by
  intro k
  induction k with
  | zero => intro _; rfl
  | succ k ih =>
    intro h
    rw [← Nat.add_assoc, yr, if_neg (by rw [h (n + k) (by omega) (by omega)]; exact Bool.false_ne_true)]
    exact ih (fun u h1 h2 => h u h1 (by omega))
/-- what a step costs, by rows of one kind, with the way chosen by rows of another -/
def yst (rc rp z : Nat → Nat) (s t : Nat) : Nat := if s = 0 then 0 else min 1000000000000000 ((if 3 * (rc s + z t) < rc s * z t then 3 * (rp s + z t) else rp s * z t) + rp (s ||| 2 ^ t))
theorem yst_bd (rc rp z : Nat → Nat) (s t : Nat) : yst rc rp z s t ≤ 1000000000000000 := by
  unfold yst
  by_cases h : s = 0
  · rw [if_pos h]; omega
  · rw [if_neg h]; omega
def yf (p : Nat → Bool) (c : Nat → Nat) : Nat → Option (Nat × Nat)
  | 0 => none
  | t + 1 => if p t = true then (match yf p c t with
      | none => some (c t, t)
      | some x => if c t < x.1 then some (c t, t) else some x) else yf p c t
theorem yf_no {p : Nat → Bool} {c : Nat → Nat} {t : Nat} (h : p t = false) : yf p c (t + 1) = yf p c t := by
  rw [yf, if_neg (by rw [h]; exact Bool.false_ne_true)]
theorem yf_new {p : Nat → Bool} {c : Nat → Nat} {t : Nat} (h : p t = true) (e : yf p c t = none) : yf p c (t + 1) = some (c t, t) := by
  rw [yf, if_pos h, e]
theorem yf_less {p : Nat → Bool} {c : Nat → Nat} {t : Nat} {x : Nat × Nat} (h : p t = true) (e : yf p c t = some x) (hl : c t < x.1) : yf p c (t + 1) = some (c t, t) := by
  rw [yf, if_pos h, e]
  exact if_pos hl
theorem yf_keep {p : Nat → Bool} {c : Nat → Nat} {t : Nat} {x : Nat × Nat} (e : yf p c t = some x) (hl : p t = true → ¬ c t < x.1) : yf p c (t + 1) = some x := by
  by_cases h : p t = true
  · rw [yf, if_pos h, e]
    exact if_neg (hl h)
  · rw [yf, if_neg h, e]
theorem yf_cong {p : Nat → Bool} {c c' : Nat → Nat} : ∀ n, (∀ t, t < n → p t = true → c t = c' t) → yf p c n = yf p c' n := by
  intro n
  induction n with
  | zero => intro _; rfl
  | succ n ih =>
    intro h
    have e := ih (fun t ht => h t (by omega))
    by_cases hp : p n = true
    · rw [yf, yf, if_pos hp, if_pos hp, e, h n (by omega) hp]
    · rw [yf, yf, if_neg hp, if_neg hp, e]
theorem yf_sp {p : Nat → Bool} {c : Nat → Nat} : ∀ n, (yf p c n = none ∧ ∀ t, t < n → p t = false) ∨ ∃ x, yf p c n = some (c x, x) ∧ x < n ∧ p x = true ∧ (∀ t, t < n → p t = true → c x ≤ c t) ∧ (∀ t, t < x → p t = true → c x < c t) := by
  intro n
  induction n with
  | zero => exact Or.inl ⟨rfl, fun t ht => absurd ht (Nat.not_lt_zero _)⟩
  | succ n ih =>
    rcases ih with ⟨e, h⟩ | ⟨x, e, h1, h2, h3, h4⟩
    · by_cases hp : p n = true
      · refine Or.inr ⟨n, yf_new hp e, by omega, hp, fun t ht hq => ?_, fun t ht hq => ?_⟩
        · rcases Nat.lt_or_ge t n with h5 | h5
          · rw [h t h5] at hq; exact nomatch hq
          · rw [show t = n by omega]; exact Nat.le_refl _
        · rw [h t ht] at hq; exact nomatch hq
      · refine Or.inl ⟨?_, fun t ht => ?_⟩
        · rw [yf_no (by simpa using hp)]; exact e
        · rcases Nat.lt_or_ge t n with h5 | h5
          · exact h t h5
          · rw [show t = n by omega]; simpa using hp
    · by_cases hp : p n = true ∧ c n < c x
      · refine Or.inr ⟨n, yf_less hp.1 e hp.2, by omega, hp.1, fun t ht hq => ?_, fun t ht hq => ?_⟩
        · rcases Nat.lt_or_ge t n with h5 | h5
          · have := h3 t h5 hq; omega
          · rw [show t = n by omega]; exact Nat.le_refl _
        · have := h3 t ht hq; omega
      · refine Or.inr ⟨x, yf_keep e (fun q w => hp ⟨q, w⟩), by omega, h2, fun t ht hq => ?_, h4⟩
        rcases Nat.lt_or_ge t n with h5 | h5
        · exact h3 t h5 hq
        · rw [show t = n by omega] at hq ⊢
          rcases Nat.lt_or_ge (c n) (c x) with h6 | h6
          · exact absurd ⟨hq, h6⟩ hp
          · exact h6
def ycd (w s t : Nat) : Bool := w.testBit t && !s.testBit t
def yA (st : Nat → Nat → Nat) (w : Nat) : Nat → Nat → Nat
  | 0, _ => 0
  | n + 1, s => match yf (ycd w s) (fun t => st s t + yA st w n (s ||| 2 ^ t)) 7 with
    | none => 0
    | some x => x.1
theorem y_orlt : ∀ s, s < 128 → ∀ t, t < 7 → s.testBit t = false → s < s ||| 2 ^ t ∧ s ||| 2 ^ t < 128 := by decide +kernel
theorem ycd_s {w s t : Nat} (h : ycd w s t = true) : w.testBit t = true ∧ s.testBit t = false := by
  unfold ycd at h
  simpa using h
theorem yA_st {st : Nat → Nat → Nat} {w : Nat} : ∀ n m s, s < 128 → 128 ≤ s + n → 128 ≤ s + m → yA st w n s = yA st w m s := by
  intro n
  induction n with
  | zero => intro m s h1 h2; omega
  | succ n ih =>
    intro m s h1 h2 h3
    cases m with
    | zero => omega
    | succ m =>
      rw [yA, yA, yf_cong 7 (fun t ht hp => by
        have h4 := y_orlt s h1 t ht (ycd_s hp).2
        rw [ih m (s ||| 2 ^ t) h4.2 (by omega) (by omega)])]
def yD (st : Nat → Nat → Nat) (w s : Nat) : Nat := yA st w 128 s
def yFd (st : Nat → Nat → Nat) (w s : Nat) : Option (Nat × Nat) := yf (ycd w s) (fun t => st s t + yD st w (s ||| 2 ^ t)) 7
theorem yD_eq {st : Nat → Nat → Nat} {w s : Nat} (hs : s < 128) : yD st w s = match yFd st w s with
    | none => 0
    | some x => x.1 := by
  unfold yD yFd
  rw [yA, yf_cong 7 (fun t ht hp => by
    have h4 := y_orlt s hs t ht (ycd_s hp).2
    show _ = st s t + yD st w (s ||| 2 ^ t)
    unfold yD
    rw [yA_st 127 128 (s ||| 2 ^ t) h4.2 (by omega) (by omega)])]
theorem yD_bd {st : Nat → Nat → Nat} {w K : Nat} (hst : ∀ s t, st s t ≤ K) : ∀ n s, s < 128 → 128 ≤ s + n → yD st w s ≤ K * n := by
  intro n
  induction n with
  | zero => intro s h1 h2; omega
  | succ n ih =>
    intro s h1 h2
    rw [yD_eq h1]
    unfold yFd
    rcases yf_sp (p := ycd w s) (c := fun t => st s t + yD st w (s ||| 2 ^ t)) 7 with ⟨e, -⟩ | ⟨x, e, h3, h4, -⟩
    · rw [e]; exact Nat.zero_le _
    · rw [e]
      have h5 := y_orlt s h1 x h3 (ycd_s h4).2
      have h6 := ih (s ||| 2 ^ x) h5.2 (by omega)
      have h7 := hst s x
      show st s x + yD st w (s ||| 2 ^ x) ≤ K * (n + 1)
      rw [Nat.mul_succ]
      omega
def yP (st : Nat → Nat → Nat) (w : Nat) : Nat → Nat → List Nat
  | 0, _ => []
  | n + 1, s => match yFd st w s with
    | none => []
    | some x => x.2 :: yP st w n (s ||| 2 ^ x.2)
def yC (st : Nat → Nat → Nat) : Nat → List Nat → Nat
  | _, [] => 0
  | s, t :: l => st s t + yC st (s ||| 2 ^ t) l
theorem yP_len {st : Nat → Nat → Nat} {w : Nat} : ∀ n s, (yP st w n s).length ≤ n := by
  intro n
  induction n with
  | zero => intro s; exact Nat.le_refl _
  | succ n ih =>
    intro s
    rw [yP]
    cases yFd st w s with
    | none => exact Nat.zero_le _
    | some x => exact Nat.succ_le_succ (ih _)
theorem yP_in {st : Nat → Nat → Nat} {w : Nat} : ∀ n s t, t ∈ yP st w n s → t < 7 ∧ w.testBit t = true := by
  intro n
  induction n with
  | zero => intro s t h; exact nomatch h
  | succ n ih =>
    intro s t h
    rw [yP] at h
    unfold yFd at h
    rcases yf_sp (p := ycd w s) (c := fun t => st s t + yD st w (s ||| 2 ^ t)) 7 with ⟨e, -⟩ | ⟨x, e, h3, h4, -⟩
    · rw [e] at h; exact nomatch h
    · rw [e] at h
      rcases List.mem_cons.mp h with h5 | h5
      · rw [h5]; exact ⟨h3, (ycd_s h4).1⟩
      · exact ih _ _ h5
