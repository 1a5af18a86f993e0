-- rows of worlds: the states that are remembered, the save slots
theorem va_P.perm {D : va_G} {cl : List vw_C} {ws ws' : va_W} {H : Heap} (h : va_P D cl ws H) (hp : ws.Perm ws') : va_P D cl ws' H := by
  intro k q hk
  obtain ⟨i, hi⟩ := List.getElem?_of_mem (hp.mem_iff.mpr (List.mem_of_getElem? hk))
  exact h i q hi
theorem va_D_nodup {A : Nat → Prop} {ws : va_W} : va_D A ws ↔ (ws.map Prod.fst).Nodup ∧ ∀ q ∈ ws, A q.1 := by
  constructor
  · intro h
    refine ⟨?_, fun q hq => ?_⟩
    · unfold List.Nodup
      rw [List.pairwise_iff_getElem]
      intro i j hi hj hij e
      rw [List.length_map] at hi hj
      rw [List.getElem_map, List.getElem_map] at e
      have := h.1 i j ws[i] ws[j] (List.getElem?_eq_getElem hi) (List.getElem?_eq_getElem hj) e
      omega
    · obtain ⟨k, hk⟩ := List.getElem?_of_mem hq
      exact h.2 k q hk
  · intro ⟨h1, h2⟩
    refine ⟨fun i j p q hi hj e => ?_, fun k q hk => h2 q (List.mem_of_getElem? hk)⟩
    have e1 : (ws.map Prod.fst)[i]? = some p.1 := by rw [List.getElem?_map, hi]; rfl
    have e2 : (ws.map Prod.fst)[j]? = some p.1 := by rw [List.getElem?_map, hj, e]; rfl
    have hl : i < (ws.map Prod.fst).length := (List.getElem?_eq_some_iff.mp e1).1
    exact (List.getElem?_inj hl h1).mp (e1.trans e2.symm)
theorem va_D.perm {A : Nat → Prop} {ws ws' : va_W} (h : va_D A ws) (hp : ws.Perm ws') : va_D A ws' := by
  obtain ⟨h1, h2⟩ := va_D_nodup.mp h
  exact va_D_nodup.mpr ⟨(hp.map Prod.fst).nodup_iff.mp h1, fun q hq => h2 q (hp.mem_iff.mpr hq)⟩
theorem va_P.left {D : va_G} {cl : List vw_C} {a b : va_W} {H : Heap} (h : va_P D cl (a ++ b) H) : va_P D cl a H := fun k q hk => h k q (by rw [List.getElem?_append_left (List.getElem?_eq_some_iff.mp hk).1]; exact hk)
theorem va_D.left {A : Nat → Prop} {a b : va_W} (h : va_D A (a ++ b)) : va_D A a := by
  obtain ⟨h1, h2⟩ := va_D_nodup.mp h
  rw [List.map_append] at h1
  exact va_D_nodup.mpr ⟨(List.nodup_append.mp h1).1, fun q hq => h2 q (List.mem_append_left _ hq)⟩
theorem va_freeL {A0 : Nat → Prop} {a b : va_W} {H0 H : Heap} {locs : List Loc} (hD : va_D A0 (a ++ b)) (hS : va_S A0 H0 H locs) (hA : ∀ q, H0.size ≤ q → A0 q) : ∀ q, va_A a H.size q → A0 q := vfall hD.left hS hA
theorem va_joinL {A0 : Nat → Prop} {D : va_G} {cl : List vw_C} {wc wr w1 : va_W} {H H1 : Heap} (hP : va_P D cl (wc ++ wr) H) (hD : va_D A0 (wc ++ wr)) (hk : ∀ q : Nat, q < H.size → ¬ va_A wc H.size q → H1[q]? = H[q]?) (hF : ∀ q, va_A wc H.size q → A0 q) (hP1 : va_P D cl w1 H1) (hD1 : va_D (va_A wc H.size) w1) : va_P D cl (w1 ++ wr) H1 ∧ va_D A0 (w1 ++ wr) := by
  have key := va_join (wc := wc) (wr := wr) hP hD (List.range wc.length) ((List.range wr.length).map (· + wc.length)) ?_ ?_ ?_ ?_ hk hF hP1 hD1
  · exact ⟨key.1.perm List.perm_append_comm, key.2.perm List.perm_append_comm⟩
  · apply List.ext_getElem?
    intro i
    rw [List.getElem?_map, List.getElem?_map]
    by_cases hi : i < wc.length
    · rw [List.getElem?_range hi, List.getElem?_eq_getElem hi]
      simp [List.getElem?_append_left hi, List.getElem?_eq_getElem hi]
    · rw [List.getElem?_eq_none (by simpa using hi), List.getElem?_eq_none (by simpa using hi)]; rfl
  · apply List.ext_getElem?
    intro i
    rw [List.map_map, List.getElem?_map, List.getElem?_map]
    by_cases hi : i < wr.length
    · rw [List.getElem?_range hi, List.getElem?_eq_getElem hi]
      simp [List.getElem?_append_right (Nat.le_add_left wc.length i), List.getElem?_eq_getElem hi]
    · rw [List.getElem?_eq_none (by simpa using hi), List.getElem?_eq_none (by simpa using hi)]; rfl
  · have : ∀ (l : List Nat), l.Nodup → va_nd l = true := by
      intro l
      induction l with
      | nil => intro _; rfl
      | cons a l ih =>
        intro h
        obtain ⟨h1, h2⟩ := List.nodup_cons.mp h
        show (decide (a ∉ l) && va_nd l) = true
        rw [ih h2, decide_eq_true h1]; rfl
    refine this _ ?_
    refine List.Pairwise.map _ ?_ List.nodup_range
    intro a b hab e
    exact hab (Nat.add_right_cancel e)
  · intro i hi hc
    obtain ⟨j, hj, rfl⟩ := List.mem_map.mp hi
    have := List.mem_range.mp hc
    omega
theorem rng_perm {α : Type} {n k : Nat} (hk : k < n) (F : Nat → List α) : ((List.range n).flatMap F).Perm (F k ++ ((List.range n).erase k).flatMap F) := by
  have h := (List.perm_cons_erase (List.mem_range.mpr hk)).flatMap_right F
  rwa [List.flatMap_cons] at h
theorem rng_erase {α : Type} {n k : Nat} {F G : Nat → List α} (h : ∀ j, j ≠ k → F j = G j) : ((List.range n).erase k).flatMap F = ((List.range n).erase k).flatMap G := by
  rw [List.flatMap_def, List.flatMap_def]
  congr 1
  refine List.map_congr_left fun j hj => h j ?_
  exact fun e => (List.nodup_range.mem_erase_iff.mp hj).1 e
/-- the address of a world of a row, from the row's own base -/
def wadr (a : Nat → Nat) (b k : Nat) : Nat → Nat := fun j => a (b + 10 * k + j)
abbrev TH : Type := Int32 × Int32 × (Nat → TW)
def H_count (h : TH) : Int32 := h.1
def H_next (h : TH) : Int32 := h.2.1
def H_w (h : TH) : Nat → TW := h.2.2
def H_mk (c n : Int32) (w : Nat → TW) : TH := (c, n, w)
abbrev TS : Type := (Nat → Int32) × (Nat → TW)
def S_filled (h : TS) : Nat → Int32 := h.1
def S_w (h : TS) : Nat → TW := h.2
def S_mk (f : Nat → Int32) (w : Nat → TW) : TS := (f, w)
def updW (f : Nat → TW) (k : Nat) (w : TW) : Nat → TW := fun j => if j = k then w else f j
def cH (dT : Nat → ClassId) (a : Nat → Nat) (h : TH) : va_W := (a 0, .inr (1, [.ref (a 1), .int (H_count h), .int (H_next h)])) :: (a 1, .inl (dT 4, 14, .inr (.inr (.inr (.inr (fun j => some (a (2 + 10 * j)))))))) :: (List.range 14).flatMap (fun k => cW dT (wadr a 2 k) (H_w h k))
def cHr (dT : Nat → ClassId) (a : Nat → Nat) (h : TH) (k : Nat) : va_W := (a 0, .inr (1, [.ref (a 1), .int (H_count h), .int (H_next h)])) :: (a 1, .inl (dT 4, 14, .inr (.inr (.inr (.inr (fun j => some (a (2 + 10 * j)))))))) :: ((List.range 14).erase k).flatMap (fun k => cW dT (wadr a 2 k) (H_w h k))
def cS (dT : Nat → ClassId) (a : Nat → Nat) (h : TS) : va_W := (a 0, .inr (4, [.ref (a 1), .ref (a 2)])) :: (a 1, .inl (dT 4, 2, .inr (.inr (.inr (.inr (fun j => some (a (3 + 10 * j)))))))) :: (a 2, .inl (dT 3, 2, .inl (S_filled h))) :: (List.range 2).flatMap (fun k => cW dT (wadr a 3 k) (S_w h k))
def cSr (dT : Nat → ClassId) (a : Nat → Nat) (h : TS) (k : Nat) : va_W := (a 0, .inr (4, [.ref (a 1), .ref (a 2)])) :: (a 1, .inl (dT 4, 2, .inr (.inr (.inr (.inr (fun j => some (a (3 + 10 * j)))))))) :: (a 2, .inl (dT 3, 2, .inl (S_filled h))) :: ((List.range 2).erase k).flatMap (fun k => cW dT (wadr a 3 k) (S_w h k))
theorem cH_perm {dT : Nat → ClassId} {a : Nat → Nat} {h : TH} {k : Nat} (hk : k < 14) (w : TW) : (cH dT a (H_mk (H_count h) (H_next h) (updW (H_w h) k w))).Perm (cW dT (wadr a 2 k) w ++ cHr dT a h k) := by
  have h1 := rng_perm hk (fun j => cW dT (wadr a 2 j) (updW (H_w h) k w j))
  have h2 : ((List.range 14).erase k).flatMap (fun j => cW dT (wadr a 2 j) (updW (H_w h) k w j)) = ((List.range 14).erase k).flatMap (fun j => cW dT (wadr a 2 j) (H_w h j)) := rng_erase (fun j hj => by show cW dT _ (if j = k then w else _) = _; rw [if_neg hj])
  have h3 : cW dT (wadr a 2 k) (updW (H_w h) k w k) = cW dT (wadr a 2 k) w := by show cW dT _ (if k = k then w else _) = _; rw [if_pos rfl]
  rw [h2] at h1
  rw [h3] at h1
  refine ((h1.cons _).cons _).trans ?_
  exact (List.perm_middle.symm.trans (List.Perm.append_left _ .rfl)).cons _ |>.trans List.perm_middle.symm
theorem cS_perm {dT : Nat → ClassId} {a : Nat → Nat} {h : TS} {k : Nat} (hk : k < 2) (w : TW) : (cS dT a (S_mk (S_filled h) (updW (S_w h) k w))).Perm (cW dT (wadr a 3 k) w ++ cSr dT a h k) := by
  have h1 := rng_perm hk (fun j => cW dT (wadr a 3 j) (updW (S_w h) k w j))
  have h2 : ((List.range 2).erase k).flatMap (fun j => cW dT (wadr a 3 j) (updW (S_w h) k w j)) = ((List.range 2).erase k).flatMap (fun j => cW dT (wadr a 3 j) (S_w h j)) := rng_erase (fun j hj => by show cW dT _ (if j = k then w else _) = _; rw [if_neg hj])
  have h3 : cW dT (wadr a 3 k) (updW (S_w h) k w k) = cW dT (wadr a 3 k) w := by show cW dT _ (if k = k then w else _) = _; rw [if_pos rfl]
  rw [h2] at h1
  rw [h3] at h1
  refine (((h1.cons _).cons _).cons _).trans ?_
  exact (((List.perm_middle.symm.cons _).trans List.perm_middle.symm).cons _).trans List.perm_middle.symm
theorem updW_self (f : Nat → TW) (k : Nat) : updW f k (f k) = f := by
  funext j
  show (if j = k then f k else f j) = f j
  by_cases h : j = k
  · rw [if_pos h, h]
  · rw [if_neg h]
theorem cH_open {dT : Nat → ClassId} {a : Nat → Nat} {h : TH} {k : Nat} (hk : k < 14) : (cH dT a h).Perm (cW dT (wadr a 2 k) (H_w h k) ++ cHr dT a h k) := by
  have := cH_perm (dT := dT) (a := a) (h := h) hk (H_w h k)
  rw [updW_self] at this
  exact this
theorem cS_open {dT : Nat → ClassId} {a : Nat → Nat} {h : TS} {k : Nat} (hk : k < 2) : (cS dT a h).Perm (cW dT (wadr a 3 k) (S_w h k) ++ cSr dT a h k) := by
  have := cS_perm (dT := dT) (a := a) (h := h) hk (S_w h k)
  rw [updW_self] at this
  exact this
theorem pm_1 {c w r X : va_W} (h : c.Perm (w ++ r)) : (c ++ X).Perm ((w ++ X) ++ r) := by
  refine (h.append_right X).trans ?_
  rw [List.append_assoc, List.append_assoc]
  exact List.perm_append_comm.append_left w
theorem pm_2 {c w r X : va_W} (h : c.Perm (w ++ r)) : (c ++ X).Perm ((X ++ w) ++ r) := by
  refine (h.append_right X).trans ?_
  refine List.perm_append_comm.trans ?_
  rw [List.append_assoc]
theorem inb_lt {i : Int32} {n : Nat} (h : inb i n = true) : i.toNatClampNeg < n := Nat.not_le.mp fun q => inb_in h (Or.inr q)
section CALLP
variable {p : Program} {l : Launch} {e : Env} {R : Room} {s : State} {m : MethodId} {args : Array Value} {below : List Frame} {meth : Method} {c : Code} {H : Heap} {locs : List Loc} {cells slots : Nat} {Q : State → Prop}
variable {cc : ByteArray} {pc : Nat} {ls : Array Slot} {rest st0 : List Value} {D : va_G} {dT : Nat → ClassId} {A : Nat → Prop} {wc wr : va_W} {mc ms : Nat} {av : Array Value}
theorem cl_vL {S : Type} {post : S → Prop} {wu : S → va_W} (hr : va_Run p l e R s m args below meth c H locs cells slots mc ms (F0 m pc ls st0) rest (va_Qv post (fun u t => cAt D dT (va_A wc H.size) (wu u) t) (va_A wc H.size) av) (va_A wc H.size))
    (hP : va_P D vwCl (wc ++ wr) H) (hD : va_D A (wc ++ wr)) (hS : va_S A s.heap H locs) (hF : ∀ q, va_A wc H.size q → A q)
    (kk : ∀ (u : S) (H1 : Heap) (locs1 : List Loc), post u → va_P D vwCl (wu u ++ wr) H1 → va_D A (wu u ++ wr) → va_S A s.heap H1 locs1 → W p l e R s m args below meth c H1 locs1 (cells + mc) (slots + ms) Q (F0 m (pc + 3) ls rest)) :
    W p l e R s m args below meth c H locs cells slots Q (F0 m pc ls st0) := by
  refine va_callv hr hS (fun q _ h => hF q h) hF (fun u t H1 locs1 ht hvm hw hB hz1 hk1 hS1 => ?_)
  obtain ⟨hP1, hK1, hD1⟩ := hB
  rw [ht] at hP1
  obtain ⟨hP2, hD2⟩ := va_joinL hP hD hk1 hF hP1 hD1
  exact kk u H1 locs1 hw hP2 hD2 hS1
end CALLP
