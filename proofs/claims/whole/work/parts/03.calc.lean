/-! A calculus over the kit's rows: X says of a frame with locals L, stack st and world ws that it comes to its end; one row an instruction, no heap in sight. -/
abbrev Gm : Type := va_G × List (ClassId × FieldType) × Nat
abbrev Fx : Type := Program × Launch × Env × Room × State × MethodId × Array Value × List Frame × Method × Code × (Nat → Prop) × (State → Prop) × Gm
def lsv : Nat → List (Option Value) → List (Nat × Value)
  | _, [] => []
  | i, none :: t => lsv (i + 1) t
  | i, some v :: t => (i, v) :: lsv (i + 1) t
def cTx : List (String × Nat × String) := [(RX5, 137, "no cue above the current one"), (RX5, 148, "no cue below the current one"), (RX5, 159, "number of ticks"), (RX5, 270, "no such letter"), (RX5, 295, "no such channel"), (RX5, 300, "level out of range"), (RX5, 305, "no such group"), (RX5, 309, "no such cue"), (RX5, 290, "the macro was never run"), (RX5, 255, "no such rank"), (RX5, 175, "no room for another group"), (RX5, 307, "no such effect"), (RX5, 242, "the channel is not parked"), (RX5, 199, "no source was the latest one yet"), (RX5, 222, "the effect runs"), (RX5, 230, "the effect does not run"), (RX5, 64, "number, time or curve of a cue"), (RX5, 272, "no room for another step"), (RX5, 122, "the cue has no change for this channel"), (RX5, 207, "shape, period, size or spread of an effect"), (RX5, 75, "there is a cue with this number"), (RX5, 264, "all channels are parked"), (RX5, 209, "no room for another effect"), (RX5, 84, "no room for another cue")]
def cEx : List String := ["java/lang/IndexOutOfBoundsException", "java/lang/IllegalArgumentException", "java/lang/IllegalStateException", "java/lang/UnsupportedOperationException", "java/util/NoSuchElementException", "java/lang/ArithmeticException"]
def cDec : List MethodName := [Bundle.initS "java/lang/RuntimeException", Bundle.initS "java/lang/Exception", Bundle.initS Bundle.tN]
/-- words on exceptions and on arrays of references that go along with every call: what is castable, what is not, what is declared; D.1 99 holds the mirror of Object[] -/
def cOb : List String := ["StageConsole$Cue", "StageConsole$Group", "StageConsole$Effect", "StageConsole$Step"]
def cV (D : va_G) (U : State) : Prop := (∀ X ∈ cEx, va_Nw (.castable X X) U) ∧ (∀ y ∈ cDec, va_Nw (.declares y) U) ∧ (∀ X ∈ cEx, ∀ Y ∈ cEx, X ≠ Y → va_Nc X Y U) ∧ va_Dc U ∧ va_Mi "[Ljava/lang/Object;" (D.1 99) U ∧ va_AO "java/lang/Object" U ∧ va_AO "StageConsole$Channel" U ∧ (∀ X ∈ cOb, va_Nw (.castable X "java/lang/Object") U) ∧ va_Nw (.methodLinkNest RX5 53 yX0_init RX5) U ∧ va_Nw (.methodLinkNest RX5 179 yX3_init RX5) U
theorem cV.warm {D : va_G} {s U : State} (hW : s.WarmedH U.vm) (h : cV D s) : cV D U := ⟨fun X hX => va_Nw.warmC hW (h.1 X hX), fun y hy => va_Nw.warmD hW (h.2.1 y hy), fun X hX Y hY n => (h.2.2.1 X hX Y hY n).moved hW.alike, va_Dc.moved hW.alike h.2.2.2.1, va_Mi.moved hW.alike h.2.2.2.2.1, va_AO.moved hW.alike h.2.2.2.2.2.1, va_AO.moved hW.alike h.2.2.2.2.2.2.1, fun X hX => va_Nw.warmC hW (h.2.2.2.2.2.2.2.1 X hX), va_Nw.warmM hW h.2.2.2.2.2.2.2.2.1, va_Nw.warmM hW h.2.2.2.2.2.2.2.2.2⟩
theorem cV.same {D : va_G} {U U' : State} (hv : U'.vm = U.vm) (h : cV D U) : cV D U' := by
  have ha : U.vm.Alike U'.vm := by rw [hv]; exact Vm.Alike.refl _
  exact ⟨fun X hX => va_tabs rfl hv.symm (h.1 X hX), fun y hy => va_tabs rfl hv.symm (h.2.1 y hy), fun X hX Y hY n => (h.2.2.1 X hX Y hY n).moved ha, va_Dc.moved ha h.2.2.2.1, va_Mi.moved ha h.2.2.2.2.1, va_AO.moved ha h.2.2.2.2.2.1, va_AO.moved ha h.2.2.2.2.2.2.1, fun X hX => va_tabs rfl hv.symm (h.2.2.2.2.2.2.2.1 X hX), va_tabs rfl hv.symm h.2.2.2.2.2.2.2.2.1, va_tabs rfl hv.symm h.2.2.2.2.2.2.2.2.2⟩
def cZ (Γ : Gm) (A : Nat → Prop) (U : State) (H : Heap) : Prop := va_Z "java/util/ArrayList" "DEFAULTCAPACITY_EMPTY_ELEMENTDATA" "[Ljava/lang/Object;" (.ref Γ.2.2) A U H ∧ va_T (.object "java/lang/Object") Γ.2.2 0 (fun _ => .null) A U H ∧ vx_Zq Bundle.tN "UNASSIGNED_STACK" Bundle.steD A U H ∧ vx_Zq Bundle.tN "SUPPRESSED_SENTINEL" Bundle.listD A U H ∧ (∀ q ∈ cTx, ∃ a, vk_R q.1 q.2.1 q.2.2 a U) ∧ cV Γ.1 U
theorem cZ.same {Γ : Gm} {A : Nat → Prop} {U U' : State} {H : Heap} (hv : U'.vm = U.vm) (h : cZ Γ A U H) : cZ Γ A U' H := by
  have ha : U.vm.Alike U'.vm := by rw [hv]; exact Vm.Alike.refl _
  obtain ⟨h1, h2, h3, h4, h5, h6⟩ := h
  refine ⟨h1.moved ha, h2.moved ha, h3.moved ha, h4.moved ha, fun q hq => ?_, h6.same hv⟩
  obtain ⟨a, h⟩ := h5 q hq
  exact ⟨a, h.same hv⟩
theorem cZ.call {Γ : Gm} {A A' : Nat → Prop} {s U : State} {H : Heap} {locs : List Loc} (h : cZ Γ A s s.heap) (hW : s.WarmedH U.vm) (hU : U.heap = H) (hS : va_S A s.heap H locs) (hA : ∀ q, A' q → A q) : cZ Γ A' U U.heap := by
  have hk : ∀ a : Nat, a < s.heap.size → ¬ A a → U.heap[a]? = s.heap[a]? := fun a h1 h2 => by rw [hU]; exact hS.2.1 a h1 h2
  obtain ⟨h1, h2, h3, h4, h5, h6⟩ := h
  refine ⟨((h1.kept hk).moved hW.alike).narrow hA, ((h2.kept hk).moved hW.alike).narrow hA, ((h3.kept hk).moved hW.alike).narrow hA, ((h4.kept hk).moved hW.alike).narrow hA, fun q hq => ?_, h6.warm hW⟩
  obtain ⟨a, h⟩ := h5 q hq
  exact ⟨a, h.warm hW⟩
/-- the frame at pc -/
def X (φ : Fx) (pc : Nat) (L : List (Option Value)) (st : List Value) (ws : va_W) (kc ns : Nat) : Prop := match φ with
  | (p, l, e, R, s, m, args, below, meth, c, A, Q, Γ) => ∀ (H : Heap) (locs : List Loc) (ls : Array Slot), va_P Γ.1 vwCl ws H → va_D A ws → va_S A s.heap H locs → lv_has ls c.maxLocals (lsv 0 L) → W p l e R s m args below meth c H locs kc ns Q (F0 m pc ls st)
/-- how a method ends: it answers r over the world ws', or throws E -/
def cQ (D : va_G) (Post : Option Value → va_W → Prop) (A : Nat → Prop) : Array Value → State → Outcome → State → Prop := fun _ st oc t => (∃ (r : Option Value) (ws' : va_W), oc = .returned r ∧ Post r ws' ∧ va_P D vwCl ws' t.heap ∧ va_D A ws') ∧ va_F A st t
def cE (D : va_G) (PostX : String → va_W → Prop) (A : Nat → Prop) : String → State → State → Prop := fun E st t => (∃ ws' : va_W, PostX E ws' ∧ va_P D vwCl ws' t.heap ∧ va_D A ws') ∧ va_F A st t
def cP (Γ : Gm) (ws : va_W) (sz : Nat) (U : State) : Prop := U.heap.size = sz ∧ va_P Γ.1 vwCl ws U.heap ∧ va_K Γ.1 vwCl Γ.2.1 U ∧ va_D (fun _ => True) ws ∧ cZ Γ (va_A ws sz) U U.heap
/-- a method's contract: called with the arguments av over the world ws -/
def Ct (Γ : Gm) (l : Launch) (y : MethodName) (wy : List Cond) (rm : Room) (av : List Value) (ws : va_W) (Post : Option Value → va_W → Prop) (PostX : String → va_W → Prop) : Prop :=
  ∀ sz : Nat, vx_Met l y wy rm (va_Pc av (cP Γ ws sz)) (cQ Γ.1 Post (va_A ws sz)) (cE Γ.1 PostX (va_A ws sz)) rm.cells rm.slots (va_A ws sz)
/-- what stands fast in a frame, whatever its end -/
def Cb (Γ : Gm) (l : Launch) (φ : Fx) (cc : ByteArray) (nL : Nat) (own : String) (wl : List Cond) (rm : Room) : Prop := match φ with
  | (p, l', e, R, s, m, args, below, meth, c, A, Q, Γ') => p.tables.exec = Jvm.exec ∧ c.code = cc ∧ c.maxLocals = nL ∧ s.vm.findClass own = some m.cls ∧ (∀ w ∈ wl, w.before args s = true) ∧ va_K Γ.1 vwCl Γ.2.1 s ∧ (∀ q, s.heap.size ≤ q → A q) ∧ cZ Γ A s s.heap ∧ R = rm ∧ l' = l ∧ Γ' = Γ ∧ l.stackTraces = false
/-- and how it ends -/
def Cx (Γ : Gm) (l : Launch) (φ : Fx) (cc : ByteArray) (nL : Nat) (own : String) (wl : List Cond) (rm : Room) (nm : String) (rt : Option FieldType) (Post : Option Value → va_W → Prop) (PostX : String → va_W → Prop) : Prop := Cb Γ l φ cc nL own wl rm ∧ match φ with
  | (p, l', e, R, s, m, args, below, meth, c, A, Q, Γ') => meth.name = nm ∧ meth.sig.returnType = rt ∧ meth.locks = false ∧ Q = vx_MQ below (cQ Γ.1 Post A) (cE Γ.1 PostX A) args s rm.cells rm.slots A ∧ ∀ x ∈ c.exceptionTable.toList, False
theorem Ct.of {Γ : Gm} {l : Launch} {y : MethodName} {wy wy' : List Cond} {rm : Room} {av : List Value} {ws : va_W} {Post : Option Value → va_W → Prop} {PostX : String → va_W → Prop} {cc : ByteArray} {maxL : Nat} {rt : Option FieldType} (L0 : List (Option Value))
    (hw : wy = Cond.code y cc maxL rt :: wy') (hl : l.stackTraces = false) (hy : plainName y.cls = true) (hen : (lg_sl av).length ≤ maxL) (hL : lsv 0 L0 = lv_args 0 av)
    (body : ∀ φ : Fx, Cx Γ l φ cc maxL y.cls wy rm y.name rt Post PostX → X φ 0 L0 [] ws 0 0) : Ct Γ l y wy rm av ws Post PostX := by
  intro sz
  refine vx_ofW (cc := cc) (maxL := maxL) (ret := rt) hy hw ?_
  intro p e s m args below meth c s₁ B hml htab hv
  obtain ⟨rfl, hsz, hP, hK, hD, hZ⟩ := hv
  have hts := atoms_spec (ws := wy) B.pre
  have K := body (p, l, e, (headSpec wy rm).room, s, m, av.toArray, below, meth, c, va_A ws sz, vx_MQ below (cQ Γ.1 Post (va_A ws sz)) (cE Γ.1 PostX (va_A ws sz)) av.toArray s rm.cells rm.slots (va_A ws sz), Γ) ⟨⟨B.exec, B.bytes, hml, findClass_of_methodNamed B.named, hts, hK, fun q h => Or.inr (hsz ▸ h), hZ, rfl, rfl, rfl, hl⟩, (name_of_methodNamed B.named B.method).1, B.returns, B.notSynchronized, rfl, htab⟩
  have hl0 := lv_entry av (n := maxL) hen
  rw [lg_entry_eq]
  exact K s.heap [] _ hP hD.self va_S.rf (by rw [hL, hml]; exact hl0)
/-- locals: one more value -/
def okst (L : List (Option Value)) (i : Nat) : Bool := match i with
  | 0 => true
  | j + 1 => match L[j]? with
    | some (some (.long _)) => false
    | some (some (.double _)) => false
    | _ => true
theorem lsv_mem {L : List (Option Value)} : ∀ {i : Nat} {q : Nat × Value}, q ∈ lsv i L → ∃ j, q.1 = i + j ∧ L[j]? = some (some q.2) := by
  induction L with
  | nil => intro i q h; cases h
  | cons a t ih =>
    intro i q h
    cases a with
    | none =>
      obtain ⟨j, h1, h2⟩ := ih (i := i + 1) (q := q) h
      exact ⟨j + 1, by omega, by simpa using h2⟩
    | some v =>
      rcases List.mem_cons.mp h with rfl | h
      · exact ⟨0, rfl, rfl⟩
      · obtain ⟨j, h1, h2⟩ := ih (i := i + 1) (q := q) h
        exact ⟨j + 1, by omega, by simpa using h2⟩
theorem lsv_in {L : List (Option Value)} : ∀ {i j : Nat} {v : Value}, L[j]? = some (some v) → (i + j, v) ∈ lsv i L := by
  induction L with
  | nil => intro i j v h; simp at h
  | cons a t ih =>
    intro i j v h
    cases j with
    | zero =>
      have h' : a = some v := by simpa using h
      subst h'
      exact List.mem_cons_self
    | succ j =>
      have h2 : t[j]? = some (some v) := by simpa using h
      have h3 := ih (i := i + 1) h2
      have e : i + (j + 1) = i + 1 + j := by omega
      rw [e]
      cases a with
      | none => exact h3
      | some w => exact List.mem_cons_of_mem _ h3
theorem lv_has.mono {ls : Array Slot} {nL : Nat} {a b : List (Nat × Value)} (h : lv_has ls nL a) (hab : ∀ q ∈ b, q ∈ a) : lv_has ls nL b := ⟨h.1, h.2.1, fun q hq => h.2.2 q (hab q hq)⟩
theorem lsv_at {ls : Array Slot} {nL : Nat} {L : List (Option Value)} (h : lv_has ls nL (lsv 0 L)) {i : Nat} {v : Value} (hi : L[i]? = some (some v)) : ls[i]? = some (.val v) := by
  have h1 := lsv_in (i := 0) hi
  rw [Nat.zero_add] at h1
  exact h.2.2 _ h1
theorem okst_cat {L : List (Option Value)} {i : Nat} (h : okst L i = true) {j : Nat} {v : Value} (hj : j + 1 = i) (hv : L[j]? = some (some v)) : ¬ v.category = 2 := by
  subst hj
  intro hc
  cases v <;> simp [Value.category] at hc <;> simp [okst, hv] at h
theorem lsv_set1 {ls : Array Slot} {nL i : Nat} {v : Value} {L : List (Option Value)} (hk : okst L i = true) (h : lv_has ls nL ((i, v) :: (lsv 0 L).filter (fun q => !(q.1 == i) && !(q.1 + 1 == i && q.2.category == 2)))) : lv_has ls nL (lsv 0 (L.set i (some v))) := by
  refine h.mono fun q hq => ?_
  obtain ⟨j, h1, h2⟩ := lsv_mem hq
  rw [Nat.zero_add] at h1
  obtain ⟨a, w⟩ := q
  dsimp only at h1 h2
  subst h1
  by_cases e : a = i
  · subst e
    rw [List.getElem?_set] at h2
    split at h2
    · split at h2
      · cases h2
        exact List.mem_cons_self
      · cases h2
    · omega
  · rw [List.getElem?_set_ne (Ne.symm e)] at h2
    refine List.mem_cons_of_mem _ (List.mem_filter.mpr ⟨by have := lsv_in (i := 0) h2; rwa [Nat.zero_add] at this, ?_⟩)
    have hn : ¬ (a + 1 = i ∧ w.category = 2) := fun z => okst_cat hk z.1 h2 z.2
    simp only [Bool.and_eq_true, Bool.not_eq_true', beq_eq_false_iff_ne, ne_eq, Bool.and_eq_false_iff]
    refine ⟨e, ?_⟩
    by_cases z : a + 1 = i
    · exact Or.inr fun q => hn ⟨z, q⟩
    · exact Or.inl z
theorem lsv_set2 {ls : Array Slot} {nL i : Nat} {v : Value} {L : List (Option Value)} (hk : okst L i = true) (h : lv_has ls nL ((i, v) :: (lsv 0 L).filter (fun q => !(q.1 == i) && (!(q.1 == i + 1) && !(q.1 + 1 == i && q.2.category == 2))))) : lv_has ls nL (lsv 0 ((L.set i (some v)).set (i + 1) none)) := by
  refine h.mono fun q hq => ?_
  obtain ⟨j, h1, h2⟩ := lsv_mem hq
  rw [Nat.zero_add] at h1
  obtain ⟨a, w⟩ := q
  dsimp only at h1 h2
  subst h1
  by_cases e1 : a = i + 1
  · subst e1
    rw [List.getElem?_set] at h2
    split at h2
    · split at h2 <;> cases h2
    · omega
  rw [List.getElem?_set_ne (Ne.symm e1)] at h2
  by_cases e : a = i
  · subst e
    rw [List.getElem?_set] at h2
    split at h2
    · split at h2
      · cases h2
        exact List.mem_cons_self
      · cases h2
    · omega
  · rw [List.getElem?_set_ne (Ne.symm e)] at h2
    refine List.mem_cons_of_mem _ (List.mem_filter.mpr ⟨by have := lsv_in (i := 0) h2; rwa [Nat.zero_add] at this, ?_⟩)
    have hn : ¬ (a + 1 = i ∧ w.category = 2) := fun z => okst_cat hk z.1 h2 z.2
    simp only [Bool.and_eq_true, Bool.not_eq_true', beq_eq_false_iff_ne, ne_eq, Bool.and_eq_false_iff]
    refine ⟨e, e1, ?_⟩
    by_cases z : a + 1 = i
    · exact Or.inr fun q => hn ⟨z, q⟩
    · exact Or.inl z
