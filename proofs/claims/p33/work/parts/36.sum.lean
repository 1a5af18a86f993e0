theorem sumR {ρ γ : Type} {f : Nat → γ} {g : ρ → γ} {x : ρ} {o : γ} (h : Sum.elim f g (Sum.inr x) = o) : g x = o := h
