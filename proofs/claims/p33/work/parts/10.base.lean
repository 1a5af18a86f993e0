def TB : List Cond := lw_tbl.filter goodWord
theorem TB_mem {w : Cond} (i : Nat) (h : lw_tbl[i]? = some w) (hg : goodWord w = true) : w ∈ TB := List.mem_filter.mpr ⟨List.mem_of_getElem? h, hg⟩
theorem TB_good {w : Cond} (h : w ∈ TB) : goodWord w = true := (List.mem_filter.mp h).2
theorem TB_in {hd : Cond} {ws : List Cond} (h : ∀ w ∈ ws, w ∈ TB) : GoodIn (hd :: TB) ws := fun w hw => ⟨List.mem_cons_of_mem _ (h w hw), good_of_word (TB_good (h w hw))⟩
abbrev WSm (y : MethodName) (b : ByteArray) (mL : Nat) (ret : Option FieldType) : List Cond := Cond.code y b mL ret :: TB
theorem WSm_in {y : MethodName} {b : ByteArray} {mL : Nat} {ret : Option FieldType} (h : Cond.code y b mL ret ∈ TB) : ∀ w ∈ WSm y b mL ret, w ∈ TB := fun w hw => (List.mem_cons.mp hw).elim (fun e => by rw [e]; exact h) id
theorem TB_V {hd : Cond} {own C : String} {idx : Nat} {y : MethodName} {b : ByteArray} {mL : Nat} {ret : Option FieldType} (h1 : Cond.methodLink own idx y ∈ TB) (h2 : Cond.instanceMethod y ∈ TB) (h3 : Cond.selects C y y ∈ TB) (h4 : Cond.initialized C ∈ TB) (h5 : Cond.code y b mL ret ∈ TB) : GoodIn (hd :: TB) (wsV own idx C y (WSm y b mL ret)) := by
  refine TB_in fun w hw => ?_
  unfold wsV at hw
  rcases List.mem_append.mp hw with h | h
  · simp only [List.mem_cons, List.not_mem_nil, or_false] at h
    rcases h with rfl | rfl | rfl | rfl <;> assumption
  · exact WSm_in h5 w h
theorem TB_S {hd : Cond} {own : String} {idx : Nat} {y : MethodName} {b : ByteArray} {mL : Nat} {ret : Option FieldType} (h1 : Cond.methodLink own idx y ∈ TB) (h2 : Cond.static y ∈ TB) (h3 : Cond.initialized y.cls ∈ TB) (h5 : Cond.code y b mL ret ∈ TB) : GoodIn (hd :: TB) (va_wsS own idx y (WSm y b mL ret)) := by
  refine TB_in fun w hw => ?_
  unfold va_wsS at hw
  rcases List.mem_append.mp hw with h | h
  · simp only [List.mem_cons, List.not_mem_nil, or_false] at h
    rcases h with rfl | rfl | rfl <;> assumption
  · exact WSm_in h5 w h
theorem TB_U {hd : Cond} {own C owner : String} {idx : Nat} {x y : MethodName} {b : ByteArray} {mL : Nat} {ret : Option FieldType} (h1 : Cond.methodLink own idx x ∈ TB) (h2 : Cond.sameMethod x.cls owner x.name x.desc ∈ TB) (h3 : Cond.selects C x y ∈ TB) (h4 : Cond.instanceMethod y ∈ TB) (h6 : Cond.initialized y.cls ∈ TB) (h5 : Cond.code y b mL ret ∈ TB) : GoodIn (hd :: TB) (va_wsU own idx C owner x y (WSm y b mL ret)) := by
  refine TB_in fun w hw => ?_
  unfold va_wsU at hw
  rcases List.mem_append.mp hw with h | h
  · simp only [List.mem_cons, List.not_mem_nil, or_false] at h
    rcases h with rfl | rfl | rfl | rfl | rfl <;> assumption
  · exact WSm_in h5 w h
-- the array classes that the worlds use
abbrev tyl (dT : Nat → ClassId) : List (ClassId × FieldType) := [(dT 0, .int), (dT 1, .long), (dT 2, .char), (dT 3, .boolean), (dT 4, .object "SurprisedPlans$World")]
-- words that are not carried by the tables' words alone
def NWM : List (String × Nat × MethodName × String) := [(RX8, 9, yX6_init, RX8), (RX8, 18, yX0_init, RX8), (RX0, 3, yX4_init, RX8), (RX8, 25, yX2_init, RX8), (RX2, 3, yX4_init, RX8), (RX8, 32, yX7_init, RX8), (RX1, 17, yX7_init, RX8), (RX5, 21, yX7_init, RX8), (RX8, 56, yX3_init, RX8), (RX6, 19, yX8_isIn, RX8), (RX0, 28, yX8_isIn, RX8), (RX2, 26, yX8_isIn, RX8), (RX2, 30, yX8_holds, RX8), (RX7, 114, yX8_pairIndex, RX8), (RX7, 71, yX8_isIn, RX8), (RX1, 39, yX8_isIn, RX8), (RX7, 106, yX8_holds, RX8), (RX5, 22, yX8_isIn, RX8), (RX3, 83, yX8_isIn, RX8)]
def EXI : String := "java/lang/IllegalArgumentException"
def EXS : String := "java/lang/IllegalStateException"
def EXB : String := "java/lang/IndexOutOfBoundsException"
def CAS : List (String × String) := [("[I", "java/lang/Cloneable"), (EXI, EXI), (EXS, EXS), (EXB, EXB)]
def NCA : List (String × String) := [(EXI, EXS), (EXI, EXB), (EXS, EXI), (EXS, EXB), (EXB, EXI), (EXB, EXS)]
def DEC : List MethodName := [⟨RX4, "begin", "()V"⟩, ⟨RX4, "takes", "(I)Z"⟩, ⟨RX4, "isComplete", "()Z"⟩, ⟨"java/lang/RuntimeException", "<init>", "(Ljava/lang/String;)V"⟩, ⟨"java/lang/Exception", "<init>", "(Ljava/lang/String;)V"⟩, ⟨"java/lang/Throwable", "<init>", "(Ljava/lang/String;)V"⟩]
def STR : List (Nat × String) := [(373, "an argument is out of its range"), (74, "the text is full"), (91, "the text is not a world"), (366, "no such table"), (243, "the same table twice"), (138, "there are seven tables"), (158, "the pair is not linked"), (369, "a set with a table that there is not"), (371, "the empty set"), (182, "no such setting, or not a value of it"), (191, "no state is remembered"), (375, "an argument is too small"), (237, "the text is not a plan of the tables that there are"), (266, "the script does not have so many commands"), (377, "no such save slot"), (297, "nothing has been saved in the slot")]
def STAT : List (String × List Int32) := [("FIRST_SETTING", [50, 10, 4]), ("LEAST_SETTING", [1, 1, 0]), ("MOST_SETTING", [1000, 10, 20])]
/-- a static array of three ints that nobody writes -/
def sT (t : Nat) (f : Nat → Int32) (A : Nat → Prop) (U : State) (H : Heap) : Prop := ∃ cell : Cell, H[t]? = some cell ∧ U.isArrayOf cell .int ∧ cell.vm ≠ .unknown ∧ cell.vm.isStatics = false ∧ U.vm.findClass "[I" = some cell.cls ∧ cell.slots.size = 3 ∧ (∀ j : Nat, j < 3 → cell.slots[j]? = some (.int (f j))) ∧ ¬ A t
theorem sT.moved {t : Nat} {f : Nat → Int32} {A : Nat → Prop} {u U : State} {H : Heap} (hvm : u.vm.Alike U.vm) (h : sT t f A u H) : sT t f A U H := by
  obtain ⟨cell, h1, h2, h3, h4, h5, h6⟩ := h
  exact ⟨cell, h1, State.isArrayOf_alike hvm h2, h3, h4, by rw [hvm.findClass]; exact h5, h6⟩
theorem sT.kept {t : Nat} {f : Nat → Int32} {A : Nat → Prop} {U : State} {H H1 : Heap} (h : sT t f A U H) (hq : ∀ a : Nat, a < H.size → ¬ A a → H1[a]? = H[a]?) : sT t f A U H1 := by
  obtain ⟨cell, h1, h2, h3, h4, h5, h6, h7, h8⟩ := h
  exact ⟨cell, by rw [hq t (Array.getElem?_eq_some_iff.mp h1).1 h8]; exact h1, h2, h3, h4, h5, h6, h7, h8⟩
theorem sT.narrow {t : Nat} {f : Nat → Int32} {A B : Nat → Prop} {U : State} {H : Heap} (h : sT t f A U H) (hAB : ∀ q, B q → A q) : sT t f B U H := by
  obtain ⟨cell, h1, h2, h3, h4, h5, h6, h7, h8⟩ := h
  exact ⟨cell, h1, h2, h3, h4, h5, h6, h7, fun z => h8 (hAB t z)⟩
/-- what every method finds: words of nest mates, classes, statics, texts -/
def EN (A : Nat → Prop) (U : State) (H : Heap) : Prop :=
  (∀ q ∈ NWM, va_Nw (.methodLinkNest q.1 q.2.1 q.2.2.1 q.2.2.2) U) ∧ va_Nw (.fieldLinkNest RX7 15 RX8 "FIRST_SETTING" "[I" RX8) U ∧
  (∀ q ∈ CAS, va_Nw (.castable q.1 q.2) U) ∧ (∀ q ∈ NCA, va_Nc q.1 q.2 U) ∧ (∀ y ∈ DEC, va_Nw (.declares y) U) ∧
  (∀ q ∈ STR, ∃ a, vk_R RX8 q.1 q.2 a U) ∧ (∀ q ∈ STAT, ∃ t, va_Z RX8 q.1 "[I" (.ref t) A U H ∧ sT t (fun j => q.2.getD j 0) A U H) ∧
  vx_Zq Bundle.tN "UNASSIGNED_STACK" Bundle.steD A U H ∧ vx_Zq Bundle.tN "SUPPRESSED_SENTINEL" Bundle.listD A U H
theorem EN.call {A A' : Nat → Prop} {s U : State} {H : Heap} {locs : List Loc} (h : EN A s s.heap) (hS : va_S A s.heap H locs) (hF : ∀ q, A' q → A q) (hW : s.WarmedH U.vm) (hU : U.heap = H) : EN A' U U.heap := by
  obtain ⟨h1, h2, h3, h4, h5, h6, h7, h8, h9⟩ := h
  have hk := hS.2.1
  rw [hU]
  refine ⟨fun q hq => va_Nw.warmM hW (h1 q hq), va_Nw.warmF hW h2, fun q hq => va_Nw.warmC hW (h3 q hq), fun q hq => va_Nc.moved hW.alike (h4 q hq), fun y hy => va_Nw.warmD hW (h5 y hy), fun q hq => ?_, fun q hq => ?_, vx_Zq.narrow (vx_Zq.kept (vx_Zq.moved hW.alike h8) hk) hF, vx_Zq.narrow (vx_Zq.kept (vx_Zq.moved hW.alike h9) hk) hF⟩
  · obtain ⟨a, ha⟩ := h6 q hq
    exact ⟨a, vk_R.warm hW ha⟩
  · obtain ⟨t, ha, hb⟩ := h7 q hq
    exact ⟨t, va_Z.narrow (va_Z.kept (va_Z.moved hW.alike ha) hk) hF, sT.narrow (sT.kept (sT.moved hW.alike hb) hk) hF⟩
theorem EN.blind {A : Nat → Prop} {U V : State} (hv : U.vm = V.vm) (hh : U.heap = V.heap) (h : EN A U U.heap) : EN A V V.heap := by
  obtain ⟨h1, h2, h3, h4, h5, h6, h7, h8, h9⟩ := h
  have hal : U.vm.Alike V.vm := by rw [hv]; exact Vm.Alike.refl _
  rw [hh] at h7 h8 h9
  refine ⟨fun q hq => va_Nw.same rfl hv (h1 q hq), va_Nw.same rfl hv h2, fun q hq => va_Nw.same rfl hv (h3 q hq), fun q hq => va_Nc.moved hal (h4 q hq), fun y hy => va_Nw.same rfl hv (h5 y hy), fun q hq => ?_, fun q hq => ?_, vx_Zq.moved hal h8, vx_Zq.moved hal h9⟩
  · obtain ⟨a, ha⟩ := h6 q hq
    exact ⟨a, vk_R.same hv.symm ha⟩
  · obtain ⟨t, ha, hb⟩ := h7 q hq
    exact ⟨t, va_Z.moved hal ha, sT.moved hal hb⟩
/-- a method's start, its end -/
def cPre (D : va_G) (dT : Nat → ClassId) (WS : va_W) (sz : Nat) (U : State) : Prop := U.heap.size = sz ∧ va_P D vwCl WS U.heap ∧ va_K D vwCl (tyl dT) U ∧ va_D (fun _ => True) WS ∧ EN (va_A WS sz) U U.heap
def cAt (D : va_G) (dT : Nat → ClassId) (A : Nat → Prop) (u : va_W) (t : State) : Prop := va_P D vwCl u t.heap ∧ va_K D vwCl (tyl dT) t ∧ va_D A u
theorem cPre.blind {D : va_G} {dT : Nat → ClassId} {WS : va_W} {sz : Nat} {av : List Value} : FrameBlind (va_Pc av (cPre D dT WS sz)) := fun a U g mk q => by
  obtain ⟨q0, q1, qP, qK, qD, qE⟩ := q
  exact ⟨q0, q1, qP, va_K.moved (u := U) (U := U.calling g mk a) (Vm.Alike.refl U.vm) qK, qD, EN.blind (U := U) (V := U.calling g mk a) rfl rfl qE⟩
theorem cPre.S {D : va_G} {dT : Nat → ClassId} {wc : va_W} {A : Nat → Prop} {s : State} {H : Heap} {locs : List Loc} {As : List Value} (hP : va_P D vwCl wc H) (hD : va_D A wc) (hK : va_K D vwCl (tyl dT) s) (hE : EN A s s.heap) (hS : va_S A s.heap H locs) (hF : ∀ q, va_A wc H.size q → A q) : PreS s H (va_Pc As (cPre D dT wc H.size)) As :=
  ⟨cPre.blind, fun U hU hW => ⟨rfl, by rw [hU], by rw [hU]; exact hP, va_K.moved hW.alike hK, hD.weaken (fun _ _ _ _ => trivial), hE.call hS hF hW hU⟩⟩
theorem cPre.V {D : va_G} {dT : Nat → ClassId} {wc : va_W} {A : Nat → Prop} {s : State} {H : Heap} {locs : List Loc} {As : List Value} {b : Nat} {C : String} (hP : va_P D vwCl wc H) (hD : va_D A wc) (hK : va_K D vwCl (tyl dT) s) (hE : EN A s s.heap) (hS : va_S A s.heap H locs) (hF : ∀ q, va_A wc H.size q → A q) (hr : ∃ cell : Cell, H[b]? = some cell ∧ cell.vm.isStatics = false ∧ s.vm.findClass C = some cell.cls) : PreV s H C b (va_Pc (.ref b :: As) (cPre D dT wc H.size)) As :=
  ⟨cPre.blind, hr, fun U hU hW => ⟨rfl, by rw [hU], by rw [hU]; exact hP, va_K.moved hW.alike hK, hD.weaken (fun _ _ _ _ => trivial), hE.call hS hF hW hU⟩⟩
