-- groups of cells in another order
def wjoin : List va_W → va_W
  | [] => []
  | [g] => g
  | g :: h :: l => g ++ wjoin (h :: l)
theorem wjoin_flat : ∀ gs : List va_W, wjoin gs = gs.flatten
  | [] => rfl
  | [g] => by show g = g ++ []; rw [List.append_nil]
  | g :: h :: l => by
    show g ++ wjoin (h :: l) = g ++ (h :: l).flatten
    rw [wjoin_flat (h :: l)]
theorem wj_ix (gs : List va_W) (is : List Nat) (h : is.isPerm (List.range gs.length) = true) : gs.Perm (is.map (fun i => gs.getD i [])) := by
  have h1 := (List.isPerm_iff.mp h).map (fun i => gs.getD i [])
  refine List.Perm.symm (h1.trans ?_)
  have : (List.range gs.length).map (fun i => gs.getD i []) = gs := by
    apply List.ext_getElem?
    intro i
    rw [List.getElem?_map]
    by_cases hi : i < gs.length
    · rw [List.getElem?_range hi, List.getElem?_eq_getElem hi]
      simp [List.getD_eq_getElem?_getD, List.getElem?_eq_getElem hi]
    · rw [List.getElem?_eq_none (by simpa using hi), List.getElem?_eq_none (by simpa using hi)]; rfl
  rw [this]
theorem wj_split (gs : List va_W) (ic ir : List Nat) (h : (ic ++ ir).isPerm (List.range gs.length) = true) : (wjoin gs).Perm (wjoin (ic.map (fun i => gs.getD i [])) ++ wjoin (ir.map (fun i => gs.getD i []))) := by
  have h1 := (wj_ix gs _ h).flatten
  rw [List.map_append, List.flatten_append] at h1
  rw [wjoin_flat, wjoin_flat, wjoin_flat]
  exact h1
theorem wj_back (cs rs : List va_W) (is : List Nat) (h : is.isPerm (List.range (cs ++ rs).length) = true) : (wjoin cs ++ wjoin rs).Perm (wjoin (is.map (fun i => (cs ++ rs).getD i []))) := by
  have h1 := (wj_ix (cs ++ rs) _ h).flatten
  rw [List.flatten_append] at h1
  rw [wjoin_flat, wjoin_flat, wjoin_flat]
  exact h1
section CALLP2
variable {p : Program} {l : Launch} {e : Env} {R : Room} {s : State} {m : MethodId} {args : Array Value} {below : List Frame} {meth : Method} {c : Code} {H : Heap} {locs : List Loc} {cells slots : Nat} {Q : State → Prop}
variable {cc : ByteArray} {pc : Nat} {ls : Array Slot} {rest st0 : List Value} {D : va_G} {dT : Nat → ClassId} {A : Nat → Prop} {wc wr : va_W} {mc ms : Nat} {av : Array Value}
theorem rt_a {S : Type} {post : S → Prop} {wu : S → va_W} {ra : Nat} {C : String} (hx : p.tables.exec = Jvm.exec) (hb : c.code = cc) (hr : meth.sig.returnType = some (.object C)) (hlk : meth.locks = false) (hK : va_K D vwCl (tyl dT) s) (hS : va_S A s.heap H locs) (u : S) (hu : post u) (hP : va_P D vwCl (wu u) H) (hD : va_D A (wu u)) (hdg : decode cc pc = .ok (.areturn, 1)) :
    W p l e R s m args below meth c H locs cells slots (MQ below (va_Qr post (fun u q t => q = ra ∧ cAt D dT A (wu u) t) A) args s cells slots A) (F0 m pc ls [.ref ra]) :=
  W.aret hx hb hr (Or.inl ⟨C, rfl⟩) (Or.inr ⟨ra, rfl⟩) (fun t ht hW => ⟨⟨u, ra, rfl, hu, rfl, by rw [ht]; exact hP, va_K.moved hW.alike hK, hD⟩, hS.F ht⟩) hS.2.2 hdg hlk
theorem cl_aL {S : Type} {post : S → Prop} {wu : S → va_W} {ra : Nat} (hr : va_Run p l e R s m args below meth c H locs cells slots mc ms (F0 m pc ls st0) rest (va_Qr post (fun u q t => q = ra ∧ cAt D dT (va_A wc H.size) (wu u) t) (va_A wc H.size) av) (va_A wc H.size))
    (hP : va_P D vwCl (wc ++ wr) H) (hD : va_D A (wc ++ wr)) (hS : va_S A s.heap H locs) (hF : ∀ q, va_A wc H.size q → A q)
    (kk : ∀ (u : S) (H1 : Heap) (locs1 : List Loc), post u → va_P D vwCl (wu u ++ wr) H1 → va_D A (wu u ++ wr) → va_S A s.heap H1 locs1 → W p l e R s m args below meth c H1 locs1 (cells + mc) (slots + ms) Q (F0 m (pc + 3) ls (.ref ra :: rest))) :
    W p l e R s m args below meth c H locs cells slots Q (F0 m pc ls st0) := by
  refine va_callr hr hS (fun q _ h => hF q h) hF (fun u q t H1 locs1 ht hvm hw hB hz1 hk1 hS1 => ?_)
  obtain ⟨rfl, hP1, hK1, hD1⟩ := hB
  rw [ht] at hP1
  obtain ⟨hP2, hD2⟩ := va_joinL hP hD hk1 hF hP1 hD1
  exact kk u H1 locs1 hw hP2 hD2 hS1
theorem cl_iL {S : Type} {post : Int32 → S → Prop} {wu : S → va_W} (hr : va_Run p l e R s m args below meth c H locs cells slots mc ms (F0 m pc ls st0) rest (va_Qi post (fun u t => cAt D dT (va_A wc H.size) (wu u) t) (va_A wc H.size) av) (va_A wc H.size))
    (hP : va_P D vwCl (wc ++ wr) H) (hD : va_D A (wc ++ wr)) (hS : va_S A s.heap H locs) (hF : ∀ q, va_A wc H.size q → A q)
    (kk : ∀ (r : Int32) (u : S) (H1 : Heap) (locs1 : List Loc), post r u → va_P D vwCl (wu u ++ wr) H1 → va_D A (wu u ++ wr) → va_S A s.heap H1 locs1 → W p l e R s m args below meth c H1 locs1 (cells + mc) (slots + ms) Q (F0 m (pc + 3) ls (.int r :: rest))) : W p l e R s m args below meth c H locs cells slots Q (F0 m pc ls st0) := by
  refine va_calli hr hS (fun q _ h => hF q h) hF (fun r u t H1 locs1 ht hvm hw hB hz1 hk1 hS1 => ?_)
  obtain ⟨hP1, hK1, hD1⟩ := hB
  rw [ht] at hP1
  obtain ⟨hP2, hD2⟩ := va_joinL hP hD hk1 hF hP1 hD1
  exact kk r u H1 locs1 hw hP2 hD2 hS1
theorem xcl_iL {S SX : Type} {post : Int32 → S → Prop} {ox : Option (Nat × SX)} {wu : S → va_W} {wx : SX → va_W} (hr : vx_Run p l e R s m args below meth c H locs cells slots mc ms (F0 m pc ls st0) rest (va_Qi post (fun u t => cAt D dT (va_A wc H.size) (wu u) t) (va_A wc H.size) av) (xEnd D dT ox wx (va_A wc H.size)) (va_A wc H.size))
    (hP : va_P D vwCl (wc ++ wr) H) (hD : va_D A (wc ++ wr)) (hS : va_S A s.heap H locs) (hF : ∀ q, va_A wc H.size q → A q)
    (kx : ∀ (k : Nat) (u : SX) (E : String) (ce : Cell) (q9 : Addr) (H1 : Heap) (locs1 : List Loc), some (k, u) = ox → E = exK k → va_P D vwCl (wx u ++ wr) H1 → va_D A (wx u ++ wr) → va_S A s.heap H1 locs1 → H1[q9]? = some ce → ce.vm = .none → s.vm.findClass E = some ce.cls → vx_W p l e R s m args below meth c H1 locs1 (cells + mc) (slots + ms) Q (F0 m pc ls rest) q9)
    (kk : ∀ (r : Int32) (u : S) (H1 : Heap) (locs1 : List Loc), post r u → va_P D vwCl (wu u ++ wr) H1 → va_D A (wu u ++ wr) → va_S A s.heap H1 locs1 → W p l e R s m args below meth c H1 locs1 (cells + mc) (slots + ms) Q (F0 m (pc + 3) ls (.int r :: rest))) : W p l e R s m args below meth c H locs cells slots Q (F0 m pc ls st0) := by
  refine vx_calli hr hS (fun q _ h => hF q h) hF (fun q _ h => hF q h) (fun E ce q9 ku t H1 locs1 ht hvm hw hB hz1 hk1 hS1 hce hcv hcl => ?_) (fun r u t H1 locs1 ht hvm hw hB hz1 hk1 hS1 => ?_)
  · obtain ⟨k, u⟩ := ku
    obtain ⟨hE, hP1, hK1, hD1⟩ := hB
    rw [ht] at hP1
    obtain ⟨hP2, hD2⟩ := va_joinL hP hD hk1 hF hP1 hD1
    exact kx k u E ce q9 H1 locs1 hw hE hP2 hD2 hS1 hce hcv hcl
  · obtain ⟨hP1, hK1, hD1⟩ := hB
    rw [ht] at hP1
    obtain ⟨hP2, hD2⟩ := va_joinL hP hD hk1 hF hP1 hD1
    exact kk r u H1 locs1 hw hP2 hD2 hS1
theorem cl_lL {S : Type} {post : Int64 → S → Prop} {wu : S → va_W} (hr : va_Run p l e R s m args below meth c H locs cells slots mc ms (F0 m pc ls st0) rest (va_Ql post (fun u t => cAt D dT (va_A wc H.size) (wu u) t) (va_A wc H.size) av) (va_A wc H.size))
    (hP : va_P D vwCl (wc ++ wr) H) (hD : va_D A (wc ++ wr)) (hS : va_S A s.heap H locs) (hF : ∀ q, va_A wc H.size q → A q)
    (kk : ∀ (r : Int64) (u : S) (H1 : Heap) (locs1 : List Loc), post r u → va_P D vwCl (wu u ++ wr) H1 → va_D A (wu u ++ wr) → va_S A s.heap H1 locs1 → W p l e R s m args below meth c H1 locs1 (cells + mc) (slots + ms) Q (F0 m (pc + 3) ls (.long r :: rest))) : W p l e R s m args below meth c H locs cells slots Q (F0 m pc ls st0) := by
  refine va_calll hr hS (fun q _ h => hF q h) hF (fun r u t H1 locs1 ht hvm hw hB hz1 hk1 hS1 => ?_)
  obtain ⟨hP1, hK1, hD1⟩ := hB
  rw [ht] at hP1
  obtain ⟨hP2, hD2⟩ := va_joinL hP hD hk1 hF hP1 hD1
  exact kk r u H1 locs1 hw hP2 hD2 hS1
theorem xcl_lL {S SX : Type} {post : Int64 → S → Prop} {ox : Option (Nat × SX)} {wu : S → va_W} {wx : SX → va_W} (hr : vx_Run p l e R s m args below meth c H locs cells slots mc ms (F0 m pc ls st0) rest (va_Ql post (fun u t => cAt D dT (va_A wc H.size) (wu u) t) (va_A wc H.size) av) (xEnd D dT ox wx (va_A wc H.size)) (va_A wc H.size))
    (hP : va_P D vwCl (wc ++ wr) H) (hD : va_D A (wc ++ wr)) (hS : va_S A s.heap H locs) (hF : ∀ q, va_A wc H.size q → A q)
    (kx : ∀ (k : Nat) (u : SX) (E : String) (ce : Cell) (q9 : Addr) (H1 : Heap) (locs1 : List Loc), some (k, u) = ox → E = exK k → va_P D vwCl (wx u ++ wr) H1 → va_D A (wx u ++ wr) → va_S A s.heap H1 locs1 → H1[q9]? = some ce → ce.vm = .none → s.vm.findClass E = some ce.cls → vx_W p l e R s m args below meth c H1 locs1 (cells + mc) (slots + ms) Q (F0 m pc ls rest) q9)
    (kk : ∀ (r : Int64) (u : S) (H1 : Heap) (locs1 : List Loc), post r u → va_P D vwCl (wu u ++ wr) H1 → va_D A (wu u ++ wr) → va_S A s.heap H1 locs1 → W p l e R s m args below meth c H1 locs1 (cells + mc) (slots + ms) Q (F0 m (pc + 3) ls (.long r :: rest))) : W p l e R s m args below meth c H locs cells slots Q (F0 m pc ls st0) := by
  refine vx_calll hr hS (fun q _ h => hF q h) hF (fun q _ h => hF q h) (fun E ce q9 ku t H1 locs1 ht hvm hw hB hz1 hk1 hS1 hce hcv hcl => ?_) (fun r u t H1 locs1 ht hvm hw hB hz1 hk1 hS1 => ?_)
  · obtain ⟨k, u⟩ := ku
    obtain ⟨hE, hP1, hK1, hD1⟩ := hB
    rw [ht] at hP1
    obtain ⟨hP2, hD2⟩ := va_joinL hP hD hk1 hF hP1 hD1
    exact kx k u E ce q9 H1 locs1 hw hE hP2 hD2 hS1 hce hcv hcl
  · obtain ⟨hP1, hK1, hD1⟩ := hB
    rw [ht] at hP1
    obtain ⟨hP2, hD2⟩ := va_joinL hP hD hk1 hF hP1 hD1
    exact kk r u H1 locs1 hw hP2 hD2 hS1
theorem xcl_vL {S SX : Type} {post : S → Prop} {ox : Option (Nat × SX)} {wu : S → va_W} {wx : SX → va_W} (hr : vx_Run p l e R s m args below meth c H locs cells slots mc ms (F0 m pc ls st0) rest (va_Qv post (fun u t => cAt D dT (va_A wc H.size) (wu u) t) (va_A wc H.size) av) (xEnd D dT ox wx (va_A wc H.size)) (va_A wc H.size))
    (hP : va_P D vwCl (wc ++ wr) H) (hD : va_D A (wc ++ wr)) (hS : va_S A s.heap H locs) (hF : ∀ q, va_A wc H.size q → A q)
    (kx : ∀ (k : Nat) (u : SX) (E : String) (ce : Cell) (q9 : Addr) (H1 : Heap) (locs1 : List Loc), some (k, u) = ox → E = exK k → va_P D vwCl (wx u ++ wr) H1 → va_D A (wx u ++ wr) → va_S A s.heap H1 locs1 → H1[q9]? = some ce → ce.vm = .none → s.vm.findClass E = some ce.cls → vx_W p l e R s m args below meth c H1 locs1 (cells + mc) (slots + ms) Q (F0 m pc ls rest) q9)
    (kk : ∀ (u : S) (H1 : Heap) (locs1 : List Loc), post u → va_P D vwCl (wu u ++ wr) H1 → va_D A (wu u ++ wr) → va_S A s.heap H1 locs1 → W p l e R s m args below meth c H1 locs1 (cells + mc) (slots + ms) Q (F0 m (pc + 3) ls rest)) : W p l e R s m args below meth c H locs cells slots Q (F0 m pc ls st0) := by
  refine vx_callv hr hS (fun q _ h => hF q h) hF (fun q _ h => hF q h) (fun E ce q9 ku t H1 locs1 ht hvm hw hB hz1 hk1 hS1 hce hcv hcl => ?_) (fun u t H1 locs1 ht hvm hw hB hz1 hk1 hS1 => ?_)
  · obtain ⟨k, u⟩ := ku
    obtain ⟨hE, hP1, hK1, hD1⟩ := hB
    rw [ht] at hP1
    obtain ⟨hP2, hD2⟩ := va_joinL hP hD hk1 hF hP1 hD1
    exact kx k u E ce q9 H1 locs1 hw hE hP2 hD2 hS1 hce hcv hcl
  · obtain ⟨hP1, hK1, hD1⟩ := hB
    rw [ht] at hP1
    obtain ⟨hP2, hD2⟩ := va_joinL hP hD hk1 hF hP1 hD1
    exact kk u H1 locs1 hw hP2 hD2 hS1
end CALLP2
