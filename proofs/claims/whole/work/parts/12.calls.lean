def qI (P : Int32 → va_W → Prop) : Option Value → va_W → Prop := fun r w => ∃ v : Int32, r = some (.int v) ∧ P v w
def qJ (P : Int64 → va_W → Prop) : Option Value → va_W → Prop := fun r w => ∃ v : Int64, r = some (.long v) ∧ P v w
def qF (P : UInt32 → va_W → Prop) : Option Value → va_W → Prop := fun r w => ∃ v : UInt32, r = some (.float v) ∧ P v w
def qD (P : UInt64 → va_W → Prop) : Option Value → va_W → Prop := fun r w => ∃ v : UInt64, r = some (.double v) ∧ P v w
def qQ (P : Option Nat → va_W → Prop) : Option Value → va_W → Prop := fun r w => ∃ v : Option Nat, r = some (va_rf v) ∧ P v w
def qV (P : va_W → Prop) : Option Value → va_W → Prop := fun r w => r = none ∧ P w
def bI (b : Bool) : Int32 := if b then 1 else 0
theorem bI_eq0 {b : Bool} : bI b = 0 ↔ b = false := by cases b <;> decide
theorem bI_ne0 {b : Bool} : ¬ bI b = 0 ↔ b = true := by cases b <;> decide
theorem bI_nar (b : Bool) : narrow .boolean (.int (bI b)) = .int (bI b) := by cases b <;> rfl
theorem bI_arr (b : Bool) : vp_nar .boolean (bI b) = bI b := by cases b <;> rfl
theorem iinc1 (n : Nat) : nI n + Int32.ofInt 1 = nI (n + 1) := nI_1 n
section XT
variable {φ : Fx} {pc : Nat} {L : List (Option Value)} {st : List Value} {ws : va_W} {kc ns : Nat}
theorem x_top {x y : Int32} (h : x = y) (kk : X φ pc L (.int y :: st) ws kc ns) : X φ pc L (.int x :: st) ws kc ns := by subst h; exact kk
theorem x_nm {x : Int32} (kk : ∀ y : Int32, y = x → X φ pc L (.int y :: st) ws kc ns) : X φ pc L (.int x :: st) ws kc ns := kk x rfl
theorem x_topq {x y : Value} (h : x = y) (kk : X φ pc L (y :: st) ws kc ns) : X φ pc L (x :: st) ws kc ns := by subst h; exact kk
theorem x_ws {ws' : va_W} (h : ws = ws') (kk : X φ pc L st ws' kc ns) : X φ pc L st ws kc ns := by subst h; exact kk
theorem x_dropn (i : Nat) (kk : X φ pc (L.set i none) st ws kc ns) : X φ pc L st ws kc ns := by
  obtain ⟨p, l', e, R, s, m, args, below, meth, c, A, Q, Γ'⟩ := φ
  intro H locs ls hP hD hS hl
  refine kk H locs ls hP hD hS (hl.mono fun q hq => ?_)
  obtain ⟨j, h1, h2⟩ := lsv_mem hq
  obtain ⟨b, w⟩ := q
  rw [Nat.zero_add] at h1
  dsimp only at h1 h2
  subst h1
  rw [List.getElem?_set] at h2
  split at h2
  · split at h2 <;> cases h2
  · have := lsv_in (i := 0) h2
    rwa [Nat.zero_add] at this
theorem x_ls {L' : List (Option Value)} (h : L = L') (kk : X φ pc L' st ws kc ns) : X φ pc L st ws kc ns := by subst h; exact kk
end XT
section XK
variable {Γ : Gm} {l : Launch} {φ : Fx} {cc : ByteArray} {nL : Nat} {own : String} {wl : List Cond} {rm : Room} {pc : Nat} {L : List (Option Value)} {st rest : List Value} {wsc wr : va_W} {kc ns : Nat} {nm : String} {rt : Option FieldType} {Post : Option Value → va_W → Prop} {PostX : String → va_W → Prop} {y : MethodName} {wy wy' : List Cond} {rm' : Room} {b idx maxL : Nat} {As : List Value} {PX' : String → va_W → Prop} {bytes : ByteArray} {ret : Option FieldType} {Cn : String} {T : u_T} {N : Nat} {fs : List Value}
theorem x_callV0_i (C : Cb Γ l φ cc nL own wl rm) (pc' kc' ns' q0 ci n : Nat) {P' : Int32 → va_W → Prop}
    (hC : Ct Γ l y wy rm' (.ref b :: As) wsc (qI P') noX) (hw : wy = Cond.code y bytes maxL ret :: wy') (hG : GoodIn wl (wsV own idx Cn y wy)) (hdd : y.cls = Cn ∧ y.cls ≠ "java/lang/invoke/MethodHandle" ∧ y.cls ≠ "java/lang/invoke/VarHandle" ∧ (parseMethodDescriptor y.desc).map (fun d => d.parameters.length) = some n) (hR : rm'.frames + 1 ≤ rm.frames ∧ 8 + (maxL + 11) + rm'.locals ≤ rm.locals)
    (hc : vwCl[ci]? = some (Cn, T, N)) (hq : wsc[q0]? = some (b, .inr (ci, fs))) (hn : As.length = n) (hs0 : st = As.reverse ++ .ref b :: rest) (hcat : (rest.map fun v => v.category).sum ≤ 8) (hf : kc + rm'.cells ≤ rm.cells ∧ ns + rm'.slots ≤ rm.slots) (hd : decode cc pc = .ok (.invokevirtual idx, 3)) (hpc : pc + 3 = pc') (hk : kc + rm'.cells = kc') (hn' : ns + rm'.slots = ns')
    (kk : ∀ (v : Int32) (ws' : va_W), P' v ws' → X φ pc' L (.int v :: rest) ws' kc' ns') : X φ pc L st wsc kc ns := by
  have h := x_callV (wr := []) C pc' q0 ci n hC hw hG hdd hR hc hq hn hs0 hcat hf hd hpc (fun r ws' hr => by obtain ⟨v, rfl, h⟩ := hr; subst hk hn'; rw [List.append_nil]; exact kk v ws' h)
  rwa [List.append_nil] at h
theorem x_callS0_i (C : Cb Γ l φ cc nL own wl rm) (pc' kc' ns' n : Nat) {P' : Int32 → va_W → Prop}
    (hC : Ct Γ l y wy rm' As wsc (qI P') noX) (hw : wy = Cond.code y bytes maxL ret :: wy') (hG : GoodIn wl (va_wsS own idx y wy)) (hdd : y.cls ≠ "java/lang/invoke/MethodHandle" ∧ y.cls ≠ "java/lang/invoke/VarHandle" ∧ (parseMethodDescriptor y.desc).map (fun d => d.parameters.length) = some n) (hR : rm'.frames + 1 ≤ rm.frames ∧ 8 + (maxL + 11) + rm'.locals ≤ rm.locals)
    (hn : As.length = n) (hs0 : st = As.reverse ++ rest) (hcat : (rest.map fun v => v.category).sum ≤ 8) (hf : kc + rm'.cells ≤ rm.cells ∧ ns + rm'.slots ≤ rm.slots) (hd : decode cc pc = .ok (.invokestatic idx, 3)) (hpc : pc + 3 = pc') (hk : kc + rm'.cells = kc') (hn' : ns + rm'.slots = ns')
    (kk : ∀ (v : Int32) (ws' : va_W), P' v ws' → X φ pc' L (.int v :: rest) ws' kc' ns') : X φ pc L st wsc kc ns := by
  have h := x_callS (wr := []) C pc' n hC hw hG hdd hR hn hs0 hcat hf hd hpc (fun r ws' hr => by obtain ⟨v, rfl, h⟩ := hr; subst hk hn'; rw [List.append_nil]; exact kk v ws' h)
  rwa [List.append_nil] at h
theorem x_callVx0_i (C : Cx Γ l φ cc nL own wl rm nm rt Post PostX) (pc' kc' ns' q0 ci n : Nat) {P' : Int32 → va_W → Prop}
    (hC : Ct Γ l y wy rm' (.ref b :: As) wsc (qI P') PX') (hw : wy = Cond.code y bytes maxL ret :: wy') (hG : GoodIn wl (wsV own idx Cn y wy)) (hdd : y.cls = Cn ∧ y.cls ≠ "java/lang/invoke/MethodHandle" ∧ y.cls ≠ "java/lang/invoke/VarHandle" ∧ (parseMethodDescriptor y.desc).map (fun d => d.parameters.length) = some n) (hR : rm'.frames + 1 ≤ rm.frames ∧ 8 + (maxL + 11) + rm'.locals ≤ rm.locals)
    (hc : vwCl[ci]? = some (Cn, T, N)) (hq : wsc[q0]? = some (b, .inr (ci, fs))) (hn : As.length = n) (hs0 : st = As.reverse ++ .ref b :: rest) (hcat : (rest.map fun v => v.category).sum ≤ 8) (hf : kc + rm'.cells ≤ rm.cells ∧ ns + rm'.slots ≤ rm.slots) (hd : decode cc pc = .ok (.invokevirtual idx, 3)) (hpc : pc + 3 = pc') (hk : kc + rm'.cells = kc') (hn' : ns + rm'.slots = ns')
    (kk : ∀ (v : Int32) (ws' : va_W), P' v ws' → X φ pc' L (.int v :: rest) ws' kc' ns')
    (kx : ∀ (E : String) (ws' : va_W), PX' E ws' → PostX E ws') : X φ pc L st wsc kc ns := by
  have h := x_callVx (wr := []) C pc' q0 ci n hC hw hG hdd hR hc hq hn hs0 hcat hf hd hpc (fun r ws' hr => by obtain ⟨v, rfl, h⟩ := hr; subst hk hn'; rw [List.append_nil]; exact kk v ws' h) (fun E ws' h => by rw [List.append_nil]; exact kx E ws' h)
  rwa [List.append_nil] at h
theorem x_callSx0_i (C : Cx Γ l φ cc nL own wl rm nm rt Post PostX) (pc' kc' ns' n : Nat) {P' : Int32 → va_W → Prop}
    (hC : Ct Γ l y wy rm' As wsc (qI P') PX') (hw : wy = Cond.code y bytes maxL ret :: wy') (hG : GoodIn wl (va_wsS own idx y wy)) (hdd : y.cls ≠ "java/lang/invoke/MethodHandle" ∧ y.cls ≠ "java/lang/invoke/VarHandle" ∧ (parseMethodDescriptor y.desc).map (fun d => d.parameters.length) = some n) (hR : rm'.frames + 1 ≤ rm.frames ∧ 8 + (maxL + 11) + rm'.locals ≤ rm.locals)
    (hn : As.length = n) (hs0 : st = As.reverse ++ rest) (hcat : (rest.map fun v => v.category).sum ≤ 8) (hf : kc + rm'.cells ≤ rm.cells ∧ ns + rm'.slots ≤ rm.slots) (hd : decode cc pc = .ok (.invokestatic idx, 3)) (hpc : pc + 3 = pc') (hk : kc + rm'.cells = kc') (hn' : ns + rm'.slots = ns')
    (kk : ∀ (v : Int32) (ws' : va_W), P' v ws' → X φ pc' L (.int v :: rest) ws' kc' ns')
    (kx : ∀ (E : String) (ws' : va_W), PX' E ws' → PostX E ws') : X φ pc L st wsc kc ns := by
  have h := x_callSx (wr := []) C pc' n hC hw hG hdd hR hn hs0 hcat hf hd hpc (fun r ws' hr => by obtain ⟨v, rfl, h⟩ := hr; subst hk hn'; rw [List.append_nil]; exact kk v ws' h) (fun E ws' h => by rw [List.append_nil]; exact kx E ws' h)
  rwa [List.append_nil] at h
theorem x_callV1_i (C : Cb Γ l φ cc nL own wl rm) (pc' kc' ns' q0 ci n : Nat) {P' : Int32 → va_W → Prop}
    (hC : Ct Γ l y wy rm' (.ref b :: As) wsc (qI P') noX) (hw : wy = Cond.code y bytes maxL ret :: wy') (hG : GoodIn wl (wsV own idx Cn y wy)) (hdd : y.cls = Cn ∧ y.cls ≠ "java/lang/invoke/MethodHandle" ∧ y.cls ≠ "java/lang/invoke/VarHandle" ∧ (parseMethodDescriptor y.desc).map (fun d => d.parameters.length) = some n) (hR : rm'.frames + 1 ≤ rm.frames ∧ 8 + (maxL + 11) + rm'.locals ≤ rm.locals)
    (hc : vwCl[ci]? = some (Cn, T, N)) (hq : wsc[q0]? = some (b, .inr (ci, fs))) (hn : As.length = n) (hs0 : st = As.reverse ++ .ref b :: rest) (hcat : (rest.map fun v => v.category).sum ≤ 8) (hf : kc + rm'.cells ≤ rm.cells ∧ ns + rm'.slots ≤ rm.slots) (hd : decode cc pc = .ok (.invokevirtual idx, 3)) (hpc : pc + 3 = pc') (hk : kc + rm'.cells = kc') (hn' : ns + rm'.slots = ns')
    (kk : ∀ (v : Int32) (ws' : va_W), P' v ws' → X φ pc' L (.int v :: rest) (ws' ++ wr) kc' ns') : X φ pc L st (wsc ++ wr) kc ns := by
  have h := x_callV (wr := wr) C pc' q0 ci n hC hw hG hdd hR hc hq hn hs0 hcat hf hd hpc (fun r ws' hr => by obtain ⟨v, rfl, h⟩ := hr; subst hk hn'; exact kk v ws' h)
  exact h
theorem x_callS1_i (C : Cb Γ l φ cc nL own wl rm) (pc' kc' ns' n : Nat) {P' : Int32 → va_W → Prop}
    (hC : Ct Γ l y wy rm' As wsc (qI P') noX) (hw : wy = Cond.code y bytes maxL ret :: wy') (hG : GoodIn wl (va_wsS own idx y wy)) (hdd : y.cls ≠ "java/lang/invoke/MethodHandle" ∧ y.cls ≠ "java/lang/invoke/VarHandle" ∧ (parseMethodDescriptor y.desc).map (fun d => d.parameters.length) = some n) (hR : rm'.frames + 1 ≤ rm.frames ∧ 8 + (maxL + 11) + rm'.locals ≤ rm.locals)
    (hn : As.length = n) (hs0 : st = As.reverse ++ rest) (hcat : (rest.map fun v => v.category).sum ≤ 8) (hf : kc + rm'.cells ≤ rm.cells ∧ ns + rm'.slots ≤ rm.slots) (hd : decode cc pc = .ok (.invokestatic idx, 3)) (hpc : pc + 3 = pc') (hk : kc + rm'.cells = kc') (hn' : ns + rm'.slots = ns')
    (kk : ∀ (v : Int32) (ws' : va_W), P' v ws' → X φ pc' L (.int v :: rest) (ws' ++ wr) kc' ns') : X φ pc L st (wsc ++ wr) kc ns := by
  have h := x_callS (wr := wr) C pc' n hC hw hG hdd hR hn hs0 hcat hf hd hpc (fun r ws' hr => by obtain ⟨v, rfl, h⟩ := hr; subst hk hn'; exact kk v ws' h)
  exact h
theorem x_callVx1_i (C : Cx Γ l φ cc nL own wl rm nm rt Post PostX) (pc' kc' ns' q0 ci n : Nat) {P' : Int32 → va_W → Prop}
    (hC : Ct Γ l y wy rm' (.ref b :: As) wsc (qI P') PX') (hw : wy = Cond.code y bytes maxL ret :: wy') (hG : GoodIn wl (wsV own idx Cn y wy)) (hdd : y.cls = Cn ∧ y.cls ≠ "java/lang/invoke/MethodHandle" ∧ y.cls ≠ "java/lang/invoke/VarHandle" ∧ (parseMethodDescriptor y.desc).map (fun d => d.parameters.length) = some n) (hR : rm'.frames + 1 ≤ rm.frames ∧ 8 + (maxL + 11) + rm'.locals ≤ rm.locals)
    (hc : vwCl[ci]? = some (Cn, T, N)) (hq : wsc[q0]? = some (b, .inr (ci, fs))) (hn : As.length = n) (hs0 : st = As.reverse ++ .ref b :: rest) (hcat : (rest.map fun v => v.category).sum ≤ 8) (hf : kc + rm'.cells ≤ rm.cells ∧ ns + rm'.slots ≤ rm.slots) (hd : decode cc pc = .ok (.invokevirtual idx, 3)) (hpc : pc + 3 = pc') (hk : kc + rm'.cells = kc') (hn' : ns + rm'.slots = ns')
    (kk : ∀ (v : Int32) (ws' : va_W), P' v ws' → X φ pc' L (.int v :: rest) (ws' ++ wr) kc' ns')
    (kx : ∀ (E : String) (ws' : va_W), PX' E ws' → PostX E (ws' ++ wr)) : X φ pc L st (wsc ++ wr) kc ns := by
  have h := x_callVx (wr := wr) C pc' q0 ci n hC hw hG hdd hR hc hq hn hs0 hcat hf hd hpc (fun r ws' hr => by obtain ⟨v, rfl, h⟩ := hr; subst hk hn'; exact kk v ws' h) (fun E ws' h => by exact kx E ws' h)
  exact h
theorem x_callSx1_i (C : Cx Γ l φ cc nL own wl rm nm rt Post PostX) (pc' kc' ns' n : Nat) {P' : Int32 → va_W → Prop}
    (hC : Ct Γ l y wy rm' As wsc (qI P') PX') (hw : wy = Cond.code y bytes maxL ret :: wy') (hG : GoodIn wl (va_wsS own idx y wy)) (hdd : y.cls ≠ "java/lang/invoke/MethodHandle" ∧ y.cls ≠ "java/lang/invoke/VarHandle" ∧ (parseMethodDescriptor y.desc).map (fun d => d.parameters.length) = some n) (hR : rm'.frames + 1 ≤ rm.frames ∧ 8 + (maxL + 11) + rm'.locals ≤ rm.locals)
    (hn : As.length = n) (hs0 : st = As.reverse ++ rest) (hcat : (rest.map fun v => v.category).sum ≤ 8) (hf : kc + rm'.cells ≤ rm.cells ∧ ns + rm'.slots ≤ rm.slots) (hd : decode cc pc = .ok (.invokestatic idx, 3)) (hpc : pc + 3 = pc') (hk : kc + rm'.cells = kc') (hn' : ns + rm'.slots = ns')
    (kk : ∀ (v : Int32) (ws' : va_W), P' v ws' → X φ pc' L (.int v :: rest) (ws' ++ wr) kc' ns')
    (kx : ∀ (E : String) (ws' : va_W), PX' E ws' → PostX E (ws' ++ wr)) : X φ pc L st (wsc ++ wr) kc ns := by
  have h := x_callSx (wr := wr) C pc' n hC hw hG hdd hR hn hs0 hcat hf hd hpc (fun r ws' hr => by obtain ⟨v, rfl, h⟩ := hr; subst hk hn'; exact kk v ws' h) (fun E ws' h => by exact kx E ws' h)
  exact h
theorem x_callV0_j (C : Cb Γ l φ cc nL own wl rm) (pc' kc' ns' q0 ci n : Nat) {P' : Int64 → va_W → Prop}
    (hC : Ct Γ l y wy rm' (.ref b :: As) wsc (qJ P') noX) (hw : wy = Cond.code y bytes maxL ret :: wy') (hG : GoodIn wl (wsV own idx Cn y wy)) (hdd : y.cls = Cn ∧ y.cls ≠ "java/lang/invoke/MethodHandle" ∧ y.cls ≠ "java/lang/invoke/VarHandle" ∧ (parseMethodDescriptor y.desc).map (fun d => d.parameters.length) = some n) (hR : rm'.frames + 1 ≤ rm.frames ∧ 8 + (maxL + 11) + rm'.locals ≤ rm.locals)
    (hc : vwCl[ci]? = some (Cn, T, N)) (hq : wsc[q0]? = some (b, .inr (ci, fs))) (hn : As.length = n) (hs0 : st = As.reverse ++ .ref b :: rest) (hcat : (rest.map fun v => v.category).sum ≤ 8) (hf : kc + rm'.cells ≤ rm.cells ∧ ns + rm'.slots ≤ rm.slots) (hd : decode cc pc = .ok (.invokevirtual idx, 3)) (hpc : pc + 3 = pc') (hk : kc + rm'.cells = kc') (hn' : ns + rm'.slots = ns')
    (kk : ∀ (v : Int64) (ws' : va_W), P' v ws' → X φ pc' L (.long v :: rest) ws' kc' ns') : X φ pc L st wsc kc ns := by
  have h := x_callV (wr := []) C pc' q0 ci n hC hw hG hdd hR hc hq hn hs0 hcat hf hd hpc (fun r ws' hr => by obtain ⟨v, rfl, h⟩ := hr; subst hk hn'; rw [List.append_nil]; exact kk v ws' h)
  rwa [List.append_nil] at h
theorem x_callS0_j (C : Cb Γ l φ cc nL own wl rm) (pc' kc' ns' n : Nat) {P' : Int64 → va_W → Prop}
    (hC : Ct Γ l y wy rm' As wsc (qJ P') noX) (hw : wy = Cond.code y bytes maxL ret :: wy') (hG : GoodIn wl (va_wsS own idx y wy)) (hdd : y.cls ≠ "java/lang/invoke/MethodHandle" ∧ y.cls ≠ "java/lang/invoke/VarHandle" ∧ (parseMethodDescriptor y.desc).map (fun d => d.parameters.length) = some n) (hR : rm'.frames + 1 ≤ rm.frames ∧ 8 + (maxL + 11) + rm'.locals ≤ rm.locals)
    (hn : As.length = n) (hs0 : st = As.reverse ++ rest) (hcat : (rest.map fun v => v.category).sum ≤ 8) (hf : kc + rm'.cells ≤ rm.cells ∧ ns + rm'.slots ≤ rm.slots) (hd : decode cc pc = .ok (.invokestatic idx, 3)) (hpc : pc + 3 = pc') (hk : kc + rm'.cells = kc') (hn' : ns + rm'.slots = ns')
    (kk : ∀ (v : Int64) (ws' : va_W), P' v ws' → X φ pc' L (.long v :: rest) ws' kc' ns') : X φ pc L st wsc kc ns := by
  have h := x_callS (wr := []) C pc' n hC hw hG hdd hR hn hs0 hcat hf hd hpc (fun r ws' hr => by obtain ⟨v, rfl, h⟩ := hr; subst hk hn'; rw [List.append_nil]; exact kk v ws' h)
  rwa [List.append_nil] at h
theorem x_callVx0_j (C : Cx Γ l φ cc nL own wl rm nm rt Post PostX) (pc' kc' ns' q0 ci n : Nat) {P' : Int64 → va_W → Prop}
    (hC : Ct Γ l y wy rm' (.ref b :: As) wsc (qJ P') PX') (hw : wy = Cond.code y bytes maxL ret :: wy') (hG : GoodIn wl (wsV own idx Cn y wy)) (hdd : y.cls = Cn ∧ y.cls ≠ "java/lang/invoke/MethodHandle" ∧ y.cls ≠ "java/lang/invoke/VarHandle" ∧ (parseMethodDescriptor y.desc).map (fun d => d.parameters.length) = some n) (hR : rm'.frames + 1 ≤ rm.frames ∧ 8 + (maxL + 11) + rm'.locals ≤ rm.locals)
    (hc : vwCl[ci]? = some (Cn, T, N)) (hq : wsc[q0]? = some (b, .inr (ci, fs))) (hn : As.length = n) (hs0 : st = As.reverse ++ .ref b :: rest) (hcat : (rest.map fun v => v.category).sum ≤ 8) (hf : kc + rm'.cells ≤ rm.cells ∧ ns + rm'.slots ≤ rm.slots) (hd : decode cc pc = .ok (.invokevirtual idx, 3)) (hpc : pc + 3 = pc') (hk : kc + rm'.cells = kc') (hn' : ns + rm'.slots = ns')
    (kk : ∀ (v : Int64) (ws' : va_W), P' v ws' → X φ pc' L (.long v :: rest) ws' kc' ns')
    (kx : ∀ (E : String) (ws' : va_W), PX' E ws' → PostX E ws') : X φ pc L st wsc kc ns := by
  have h := x_callVx (wr := []) C pc' q0 ci n hC hw hG hdd hR hc hq hn hs0 hcat hf hd hpc (fun r ws' hr => by obtain ⟨v, rfl, h⟩ := hr; subst hk hn'; rw [List.append_nil]; exact kk v ws' h) (fun E ws' h => by rw [List.append_nil]; exact kx E ws' h)
  rwa [List.append_nil] at h
theorem x_callSx0_j (C : Cx Γ l φ cc nL own wl rm nm rt Post PostX) (pc' kc' ns' n : Nat) {P' : Int64 → va_W → Prop}
    (hC : Ct Γ l y wy rm' As wsc (qJ P') PX') (hw : wy = Cond.code y bytes maxL ret :: wy') (hG : GoodIn wl (va_wsS own idx y wy)) (hdd : y.cls ≠ "java/lang/invoke/MethodHandle" ∧ y.cls ≠ "java/lang/invoke/VarHandle" ∧ (parseMethodDescriptor y.desc).map (fun d => d.parameters.length) = some n) (hR : rm'.frames + 1 ≤ rm.frames ∧ 8 + (maxL + 11) + rm'.locals ≤ rm.locals)
    (hn : As.length = n) (hs0 : st = As.reverse ++ rest) (hcat : (rest.map fun v => v.category).sum ≤ 8) (hf : kc + rm'.cells ≤ rm.cells ∧ ns + rm'.slots ≤ rm.slots) (hd : decode cc pc = .ok (.invokestatic idx, 3)) (hpc : pc + 3 = pc') (hk : kc + rm'.cells = kc') (hn' : ns + rm'.slots = ns')
    (kk : ∀ (v : Int64) (ws' : va_W), P' v ws' → X φ pc' L (.long v :: rest) ws' kc' ns')
    (kx : ∀ (E : String) (ws' : va_W), PX' E ws' → PostX E ws') : X φ pc L st wsc kc ns := by
  have h := x_callSx (wr := []) C pc' n hC hw hG hdd hR hn hs0 hcat hf hd hpc (fun r ws' hr => by obtain ⟨v, rfl, h⟩ := hr; subst hk hn'; rw [List.append_nil]; exact kk v ws' h) (fun E ws' h => by rw [List.append_nil]; exact kx E ws' h)
  rwa [List.append_nil] at h
theorem x_callV1_j (C : Cb Γ l φ cc nL own wl rm) (pc' kc' ns' q0 ci n : Nat) {P' : Int64 → va_W → Prop}
    (hC : Ct Γ l y wy rm' (.ref b :: As) wsc (qJ P') noX) (hw : wy = Cond.code y bytes maxL ret :: wy') (hG : GoodIn wl (wsV own idx Cn y wy)) (hdd : y.cls = Cn ∧ y.cls ≠ "java/lang/invoke/MethodHandle" ∧ y.cls ≠ "java/lang/invoke/VarHandle" ∧ (parseMethodDescriptor y.desc).map (fun d => d.parameters.length) = some n) (hR : rm'.frames + 1 ≤ rm.frames ∧ 8 + (maxL + 11) + rm'.locals ≤ rm.locals)
    (hc : vwCl[ci]? = some (Cn, T, N)) (hq : wsc[q0]? = some (b, .inr (ci, fs))) (hn : As.length = n) (hs0 : st = As.reverse ++ .ref b :: rest) (hcat : (rest.map fun v => v.category).sum ≤ 8) (hf : kc + rm'.cells ≤ rm.cells ∧ ns + rm'.slots ≤ rm.slots) (hd : decode cc pc = .ok (.invokevirtual idx, 3)) (hpc : pc + 3 = pc') (hk : kc + rm'.cells = kc') (hn' : ns + rm'.slots = ns')
    (kk : ∀ (v : Int64) (ws' : va_W), P' v ws' → X φ pc' L (.long v :: rest) (ws' ++ wr) kc' ns') : X φ pc L st (wsc ++ wr) kc ns := by
  have h := x_callV (wr := wr) C pc' q0 ci n hC hw hG hdd hR hc hq hn hs0 hcat hf hd hpc (fun r ws' hr => by obtain ⟨v, rfl, h⟩ := hr; subst hk hn'; exact kk v ws' h)
  exact h
theorem x_callS1_j (C : Cb Γ l φ cc nL own wl rm) (pc' kc' ns' n : Nat) {P' : Int64 → va_W → Prop}
    (hC : Ct Γ l y wy rm' As wsc (qJ P') noX) (hw : wy = Cond.code y bytes maxL ret :: wy') (hG : GoodIn wl (va_wsS own idx y wy)) (hdd : y.cls ≠ "java/lang/invoke/MethodHandle" ∧ y.cls ≠ "java/lang/invoke/VarHandle" ∧ (parseMethodDescriptor y.desc).map (fun d => d.parameters.length) = some n) (hR : rm'.frames + 1 ≤ rm.frames ∧ 8 + (maxL + 11) + rm'.locals ≤ rm.locals)
    (hn : As.length = n) (hs0 : st = As.reverse ++ rest) (hcat : (rest.map fun v => v.category).sum ≤ 8) (hf : kc + rm'.cells ≤ rm.cells ∧ ns + rm'.slots ≤ rm.slots) (hd : decode cc pc = .ok (.invokestatic idx, 3)) (hpc : pc + 3 = pc') (hk : kc + rm'.cells = kc') (hn' : ns + rm'.slots = ns')
    (kk : ∀ (v : Int64) (ws' : va_W), P' v ws' → X φ pc' L (.long v :: rest) (ws' ++ wr) kc' ns') : X φ pc L st (wsc ++ wr) kc ns := by
  have h := x_callS (wr := wr) C pc' n hC hw hG hdd hR hn hs0 hcat hf hd hpc (fun r ws' hr => by obtain ⟨v, rfl, h⟩ := hr; subst hk hn'; exact kk v ws' h)
  exact h
theorem x_callVx1_j (C : Cx Γ l φ cc nL own wl rm nm rt Post PostX) (pc' kc' ns' q0 ci n : Nat) {P' : Int64 → va_W → Prop}
    (hC : Ct Γ l y wy rm' (.ref b :: As) wsc (qJ P') PX') (hw : wy = Cond.code y bytes maxL ret :: wy') (hG : GoodIn wl (wsV own idx Cn y wy)) (hdd : y.cls = Cn ∧ y.cls ≠ "java/lang/invoke/MethodHandle" ∧ y.cls ≠ "java/lang/invoke/VarHandle" ∧ (parseMethodDescriptor y.desc).map (fun d => d.parameters.length) = some n) (hR : rm'.frames + 1 ≤ rm.frames ∧ 8 + (maxL + 11) + rm'.locals ≤ rm.locals)
    (hc : vwCl[ci]? = some (Cn, T, N)) (hq : wsc[q0]? = some (b, .inr (ci, fs))) (hn : As.length = n) (hs0 : st = As.reverse ++ .ref b :: rest) (hcat : (rest.map fun v => v.category).sum ≤ 8) (hf : kc + rm'.cells ≤ rm.cells ∧ ns + rm'.slots ≤ rm.slots) (hd : decode cc pc = .ok (.invokevirtual idx, 3)) (hpc : pc + 3 = pc') (hk : kc + rm'.cells = kc') (hn' : ns + rm'.slots = ns')
    (kk : ∀ (v : Int64) (ws' : va_W), P' v ws' → X φ pc' L (.long v :: rest) (ws' ++ wr) kc' ns')
    (kx : ∀ (E : String) (ws' : va_W), PX' E ws' → PostX E (ws' ++ wr)) : X φ pc L st (wsc ++ wr) kc ns := by
  have h := x_callVx (wr := wr) C pc' q0 ci n hC hw hG hdd hR hc hq hn hs0 hcat hf hd hpc (fun r ws' hr => by obtain ⟨v, rfl, h⟩ := hr; subst hk hn'; exact kk v ws' h) (fun E ws' h => by exact kx E ws' h)
  exact h
theorem x_callSx1_j (C : Cx Γ l φ cc nL own wl rm nm rt Post PostX) (pc' kc' ns' n : Nat) {P' : Int64 → va_W → Prop}
    (hC : Ct Γ l y wy rm' As wsc (qJ P') PX') (hw : wy = Cond.code y bytes maxL ret :: wy') (hG : GoodIn wl (va_wsS own idx y wy)) (hdd : y.cls ≠ "java/lang/invoke/MethodHandle" ∧ y.cls ≠ "java/lang/invoke/VarHandle" ∧ (parseMethodDescriptor y.desc).map (fun d => d.parameters.length) = some n) (hR : rm'.frames + 1 ≤ rm.frames ∧ 8 + (maxL + 11) + rm'.locals ≤ rm.locals)
    (hn : As.length = n) (hs0 : st = As.reverse ++ rest) (hcat : (rest.map fun v => v.category).sum ≤ 8) (hf : kc + rm'.cells ≤ rm.cells ∧ ns + rm'.slots ≤ rm.slots) (hd : decode cc pc = .ok (.invokestatic idx, 3)) (hpc : pc + 3 = pc') (hk : kc + rm'.cells = kc') (hn' : ns + rm'.slots = ns')
    (kk : ∀ (v : Int64) (ws' : va_W), P' v ws' → X φ pc' L (.long v :: rest) (ws' ++ wr) kc' ns')
    (kx : ∀ (E : String) (ws' : va_W), PX' E ws' → PostX E (ws' ++ wr)) : X φ pc L st (wsc ++ wr) kc ns := by
  have h := x_callSx (wr := wr) C pc' n hC hw hG hdd hR hn hs0 hcat hf hd hpc (fun r ws' hr => by obtain ⟨v, rfl, h⟩ := hr; subst hk hn'; exact kk v ws' h) (fun E ws' h => by exact kx E ws' h)
  exact h
theorem x_callV0_f (C : Cb Γ l φ cc nL own wl rm) (pc' kc' ns' q0 ci n : Nat) {P' : UInt32 → va_W → Prop}
    (hC : Ct Γ l y wy rm' (.ref b :: As) wsc (qF P') noX) (hw : wy = Cond.code y bytes maxL ret :: wy') (hG : GoodIn wl (wsV own idx Cn y wy)) (hdd : y.cls = Cn ∧ y.cls ≠ "java/lang/invoke/MethodHandle" ∧ y.cls ≠ "java/lang/invoke/VarHandle" ∧ (parseMethodDescriptor y.desc).map (fun d => d.parameters.length) = some n) (hR : rm'.frames + 1 ≤ rm.frames ∧ 8 + (maxL + 11) + rm'.locals ≤ rm.locals)
    (hc : vwCl[ci]? = some (Cn, T, N)) (hq : wsc[q0]? = some (b, .inr (ci, fs))) (hn : As.length = n) (hs0 : st = As.reverse ++ .ref b :: rest) (hcat : (rest.map fun v => v.category).sum ≤ 8) (hf : kc + rm'.cells ≤ rm.cells ∧ ns + rm'.slots ≤ rm.slots) (hd : decode cc pc = .ok (.invokevirtual idx, 3)) (hpc : pc + 3 = pc') (hk : kc + rm'.cells = kc') (hn' : ns + rm'.slots = ns')
    (kk : ∀ (v : UInt32) (ws' : va_W), P' v ws' → X φ pc' L (.float v :: rest) ws' kc' ns') : X φ pc L st wsc kc ns := by
  have h := x_callV (wr := []) C pc' q0 ci n hC hw hG hdd hR hc hq hn hs0 hcat hf hd hpc (fun r ws' hr => by obtain ⟨v, rfl, h⟩ := hr; subst hk hn'; rw [List.append_nil]; exact kk v ws' h)
  rwa [List.append_nil] at h
theorem x_callS0_f (C : Cb Γ l φ cc nL own wl rm) (pc' kc' ns' n : Nat) {P' : UInt32 → va_W → Prop}
    (hC : Ct Γ l y wy rm' As wsc (qF P') noX) (hw : wy = Cond.code y bytes maxL ret :: wy') (hG : GoodIn wl (va_wsS own idx y wy)) (hdd : y.cls ≠ "java/lang/invoke/MethodHandle" ∧ y.cls ≠ "java/lang/invoke/VarHandle" ∧ (parseMethodDescriptor y.desc).map (fun d => d.parameters.length) = some n) (hR : rm'.frames + 1 ≤ rm.frames ∧ 8 + (maxL + 11) + rm'.locals ≤ rm.locals)
    (hn : As.length = n) (hs0 : st = As.reverse ++ rest) (hcat : (rest.map fun v => v.category).sum ≤ 8) (hf : kc + rm'.cells ≤ rm.cells ∧ ns + rm'.slots ≤ rm.slots) (hd : decode cc pc = .ok (.invokestatic idx, 3)) (hpc : pc + 3 = pc') (hk : kc + rm'.cells = kc') (hn' : ns + rm'.slots = ns')
    (kk : ∀ (v : UInt32) (ws' : va_W), P' v ws' → X φ pc' L (.float v :: rest) ws' kc' ns') : X φ pc L st wsc kc ns := by
  have h := x_callS (wr := []) C pc' n hC hw hG hdd hR hn hs0 hcat hf hd hpc (fun r ws' hr => by obtain ⟨v, rfl, h⟩ := hr; subst hk hn'; rw [List.append_nil]; exact kk v ws' h)
  rwa [List.append_nil] at h
theorem x_callVx0_f (C : Cx Γ l φ cc nL own wl rm nm rt Post PostX) (pc' kc' ns' q0 ci n : Nat) {P' : UInt32 → va_W → Prop}
    (hC : Ct Γ l y wy rm' (.ref b :: As) wsc (qF P') PX') (hw : wy = Cond.code y bytes maxL ret :: wy') (hG : GoodIn wl (wsV own idx Cn y wy)) (hdd : y.cls = Cn ∧ y.cls ≠ "java/lang/invoke/MethodHandle" ∧ y.cls ≠ "java/lang/invoke/VarHandle" ∧ (parseMethodDescriptor y.desc).map (fun d => d.parameters.length) = some n) (hR : rm'.frames + 1 ≤ rm.frames ∧ 8 + (maxL + 11) + rm'.locals ≤ rm.locals)
    (hc : vwCl[ci]? = some (Cn, T, N)) (hq : wsc[q0]? = some (b, .inr (ci, fs))) (hn : As.length = n) (hs0 : st = As.reverse ++ .ref b :: rest) (hcat : (rest.map fun v => v.category).sum ≤ 8) (hf : kc + rm'.cells ≤ rm.cells ∧ ns + rm'.slots ≤ rm.slots) (hd : decode cc pc = .ok (.invokevirtual idx, 3)) (hpc : pc + 3 = pc') (hk : kc + rm'.cells = kc') (hn' : ns + rm'.slots = ns')
    (kk : ∀ (v : UInt32) (ws' : va_W), P' v ws' → X φ pc' L (.float v :: rest) ws' kc' ns')
    (kx : ∀ (E : String) (ws' : va_W), PX' E ws' → PostX E ws') : X φ pc L st wsc kc ns := by
  have h := x_callVx (wr := []) C pc' q0 ci n hC hw hG hdd hR hc hq hn hs0 hcat hf hd hpc (fun r ws' hr => by obtain ⟨v, rfl, h⟩ := hr; subst hk hn'; rw [List.append_nil]; exact kk v ws' h) (fun E ws' h => by rw [List.append_nil]; exact kx E ws' h)
  rwa [List.append_nil] at h
theorem x_callSx0_f (C : Cx Γ l φ cc nL own wl rm nm rt Post PostX) (pc' kc' ns' n : Nat) {P' : UInt32 → va_W → Prop}
    (hC : Ct Γ l y wy rm' As wsc (qF P') PX') (hw : wy = Cond.code y bytes maxL ret :: wy') (hG : GoodIn wl (va_wsS own idx y wy)) (hdd : y.cls ≠ "java/lang/invoke/MethodHandle" ∧ y.cls ≠ "java/lang/invoke/VarHandle" ∧ (parseMethodDescriptor y.desc).map (fun d => d.parameters.length) = some n) (hR : rm'.frames + 1 ≤ rm.frames ∧ 8 + (maxL + 11) + rm'.locals ≤ rm.locals)
    (hn : As.length = n) (hs0 : st = As.reverse ++ rest) (hcat : (rest.map fun v => v.category).sum ≤ 8) (hf : kc + rm'.cells ≤ rm.cells ∧ ns + rm'.slots ≤ rm.slots) (hd : decode cc pc = .ok (.invokestatic idx, 3)) (hpc : pc + 3 = pc') (hk : kc + rm'.cells = kc') (hn' : ns + rm'.slots = ns')
    (kk : ∀ (v : UInt32) (ws' : va_W), P' v ws' → X φ pc' L (.float v :: rest) ws' kc' ns')
    (kx : ∀ (E : String) (ws' : va_W), PX' E ws' → PostX E ws') : X φ pc L st wsc kc ns := by
  have h := x_callSx (wr := []) C pc' n hC hw hG hdd hR hn hs0 hcat hf hd hpc (fun r ws' hr => by obtain ⟨v, rfl, h⟩ := hr; subst hk hn'; rw [List.append_nil]; exact kk v ws' h) (fun E ws' h => by rw [List.append_nil]; exact kx E ws' h)
  rwa [List.append_nil] at h
theorem x_callV1_f (C : Cb Γ l φ cc nL own wl rm) (pc' kc' ns' q0 ci n : Nat) {P' : UInt32 → va_W → Prop}
    (hC : Ct Γ l y wy rm' (.ref b :: As) wsc (qF P') noX) (hw : wy = Cond.code y bytes maxL ret :: wy') (hG : GoodIn wl (wsV own idx Cn y wy)) (hdd : y.cls = Cn ∧ y.cls ≠ "java/lang/invoke/MethodHandle" ∧ y.cls ≠ "java/lang/invoke/VarHandle" ∧ (parseMethodDescriptor y.desc).map (fun d => d.parameters.length) = some n) (hR : rm'.frames + 1 ≤ rm.frames ∧ 8 + (maxL + 11) + rm'.locals ≤ rm.locals)
    (hc : vwCl[ci]? = some (Cn, T, N)) (hq : wsc[q0]? = some (b, .inr (ci, fs))) (hn : As.length = n) (hs0 : st = As.reverse ++ .ref b :: rest) (hcat : (rest.map fun v => v.category).sum ≤ 8) (hf : kc + rm'.cells ≤ rm.cells ∧ ns + rm'.slots ≤ rm.slots) (hd : decode cc pc = .ok (.invokevirtual idx, 3)) (hpc : pc + 3 = pc') (hk : kc + rm'.cells = kc') (hn' : ns + rm'.slots = ns')
    (kk : ∀ (v : UInt32) (ws' : va_W), P' v ws' → X φ pc' L (.float v :: rest) (ws' ++ wr) kc' ns') : X φ pc L st (wsc ++ wr) kc ns := by
  have h := x_callV (wr := wr) C pc' q0 ci n hC hw hG hdd hR hc hq hn hs0 hcat hf hd hpc (fun r ws' hr => by obtain ⟨v, rfl, h⟩ := hr; subst hk hn'; exact kk v ws' h)
  exact h
theorem x_callS1_f (C : Cb Γ l φ cc nL own wl rm) (pc' kc' ns' n : Nat) {P' : UInt32 → va_W → Prop}
    (hC : Ct Γ l y wy rm' As wsc (qF P') noX) (hw : wy = Cond.code y bytes maxL ret :: wy') (hG : GoodIn wl (va_wsS own idx y wy)) (hdd : y.cls ≠ "java/lang/invoke/MethodHandle" ∧ y.cls ≠ "java/lang/invoke/VarHandle" ∧ (parseMethodDescriptor y.desc).map (fun d => d.parameters.length) = some n) (hR : rm'.frames + 1 ≤ rm.frames ∧ 8 + (maxL + 11) + rm'.locals ≤ rm.locals)
    (hn : As.length = n) (hs0 : st = As.reverse ++ rest) (hcat : (rest.map fun v => v.category).sum ≤ 8) (hf : kc + rm'.cells ≤ rm.cells ∧ ns + rm'.slots ≤ rm.slots) (hd : decode cc pc = .ok (.invokestatic idx, 3)) (hpc : pc + 3 = pc') (hk : kc + rm'.cells = kc') (hn' : ns + rm'.slots = ns')
    (kk : ∀ (v : UInt32) (ws' : va_W), P' v ws' → X φ pc' L (.float v :: rest) (ws' ++ wr) kc' ns') : X φ pc L st (wsc ++ wr) kc ns := by
  have h := x_callS (wr := wr) C pc' n hC hw hG hdd hR hn hs0 hcat hf hd hpc (fun r ws' hr => by obtain ⟨v, rfl, h⟩ := hr; subst hk hn'; exact kk v ws' h)
  exact h
theorem x_callVx1_f (C : Cx Γ l φ cc nL own wl rm nm rt Post PostX) (pc' kc' ns' q0 ci n : Nat) {P' : UInt32 → va_W → Prop}
    (hC : Ct Γ l y wy rm' (.ref b :: As) wsc (qF P') PX') (hw : wy = Cond.code y bytes maxL ret :: wy') (hG : GoodIn wl (wsV own idx Cn y wy)) (hdd : y.cls = Cn ∧ y.cls ≠ "java/lang/invoke/MethodHandle" ∧ y.cls ≠ "java/lang/invoke/VarHandle" ∧ (parseMethodDescriptor y.desc).map (fun d => d.parameters.length) = some n) (hR : rm'.frames + 1 ≤ rm.frames ∧ 8 + (maxL + 11) + rm'.locals ≤ rm.locals)
    (hc : vwCl[ci]? = some (Cn, T, N)) (hq : wsc[q0]? = some (b, .inr (ci, fs))) (hn : As.length = n) (hs0 : st = As.reverse ++ .ref b :: rest) (hcat : (rest.map fun v => v.category).sum ≤ 8) (hf : kc + rm'.cells ≤ rm.cells ∧ ns + rm'.slots ≤ rm.slots) (hd : decode cc pc = .ok (.invokevirtual idx, 3)) (hpc : pc + 3 = pc') (hk : kc + rm'.cells = kc') (hn' : ns + rm'.slots = ns')
    (kk : ∀ (v : UInt32) (ws' : va_W), P' v ws' → X φ pc' L (.float v :: rest) (ws' ++ wr) kc' ns')
    (kx : ∀ (E : String) (ws' : va_W), PX' E ws' → PostX E (ws' ++ wr)) : X φ pc L st (wsc ++ wr) kc ns := by
  have h := x_callVx (wr := wr) C pc' q0 ci n hC hw hG hdd hR hc hq hn hs0 hcat hf hd hpc (fun r ws' hr => by obtain ⟨v, rfl, h⟩ := hr; subst hk hn'; exact kk v ws' h) (fun E ws' h => by exact kx E ws' h)
  exact h
theorem x_callSx1_f (C : Cx Γ l φ cc nL own wl rm nm rt Post PostX) (pc' kc' ns' n : Nat) {P' : UInt32 → va_W → Prop}
    (hC : Ct Γ l y wy rm' As wsc (qF P') PX') (hw : wy = Cond.code y bytes maxL ret :: wy') (hG : GoodIn wl (va_wsS own idx y wy)) (hdd : y.cls ≠ "java/lang/invoke/MethodHandle" ∧ y.cls ≠ "java/lang/invoke/VarHandle" ∧ (parseMethodDescriptor y.desc).map (fun d => d.parameters.length) = some n) (hR : rm'.frames + 1 ≤ rm.frames ∧ 8 + (maxL + 11) + rm'.locals ≤ rm.locals)
    (hn : As.length = n) (hs0 : st = As.reverse ++ rest) (hcat : (rest.map fun v => v.category).sum ≤ 8) (hf : kc + rm'.cells ≤ rm.cells ∧ ns + rm'.slots ≤ rm.slots) (hd : decode cc pc = .ok (.invokestatic idx, 3)) (hpc : pc + 3 = pc') (hk : kc + rm'.cells = kc') (hn' : ns + rm'.slots = ns')
    (kk : ∀ (v : UInt32) (ws' : va_W), P' v ws' → X φ pc' L (.float v :: rest) (ws' ++ wr) kc' ns')
    (kx : ∀ (E : String) (ws' : va_W), PX' E ws' → PostX E (ws' ++ wr)) : X φ pc L st (wsc ++ wr) kc ns := by
  have h := x_callSx (wr := wr) C pc' n hC hw hG hdd hR hn hs0 hcat hf hd hpc (fun r ws' hr => by obtain ⟨v, rfl, h⟩ := hr; subst hk hn'; exact kk v ws' h) (fun E ws' h => by exact kx E ws' h)
  exact h
theorem x_callV0_d (C : Cb Γ l φ cc nL own wl rm) (pc' kc' ns' q0 ci n : Nat) {P' : UInt64 → va_W → Prop}
    (hC : Ct Γ l y wy rm' (.ref b :: As) wsc (qD P') noX) (hw : wy = Cond.code y bytes maxL ret :: wy') (hG : GoodIn wl (wsV own idx Cn y wy)) (hdd : y.cls = Cn ∧ y.cls ≠ "java/lang/invoke/MethodHandle" ∧ y.cls ≠ "java/lang/invoke/VarHandle" ∧ (parseMethodDescriptor y.desc).map (fun d => d.parameters.length) = some n) (hR : rm'.frames + 1 ≤ rm.frames ∧ 8 + (maxL + 11) + rm'.locals ≤ rm.locals)
    (hc : vwCl[ci]? = some (Cn, T, N)) (hq : wsc[q0]? = some (b, .inr (ci, fs))) (hn : As.length = n) (hs0 : st = As.reverse ++ .ref b :: rest) (hcat : (rest.map fun v => v.category).sum ≤ 8) (hf : kc + rm'.cells ≤ rm.cells ∧ ns + rm'.slots ≤ rm.slots) (hd : decode cc pc = .ok (.invokevirtual idx, 3)) (hpc : pc + 3 = pc') (hk : kc + rm'.cells = kc') (hn' : ns + rm'.slots = ns')
    (kk : ∀ (v : UInt64) (ws' : va_W), P' v ws' → X φ pc' L (.double v :: rest) ws' kc' ns') : X φ pc L st wsc kc ns := by
  have h := x_callV (wr := []) C pc' q0 ci n hC hw hG hdd hR hc hq hn hs0 hcat hf hd hpc (fun r ws' hr => by obtain ⟨v, rfl, h⟩ := hr; subst hk hn'; rw [List.append_nil]; exact kk v ws' h)
  rwa [List.append_nil] at h
theorem x_callS0_d (C : Cb Γ l φ cc nL own wl rm) (pc' kc' ns' n : Nat) {P' : UInt64 → va_W → Prop}
    (hC : Ct Γ l y wy rm' As wsc (qD P') noX) (hw : wy = Cond.code y bytes maxL ret :: wy') (hG : GoodIn wl (va_wsS own idx y wy)) (hdd : y.cls ≠ "java/lang/invoke/MethodHandle" ∧ y.cls ≠ "java/lang/invoke/VarHandle" ∧ (parseMethodDescriptor y.desc).map (fun d => d.parameters.length) = some n) (hR : rm'.frames + 1 ≤ rm.frames ∧ 8 + (maxL + 11) + rm'.locals ≤ rm.locals)
    (hn : As.length = n) (hs0 : st = As.reverse ++ rest) (hcat : (rest.map fun v => v.category).sum ≤ 8) (hf : kc + rm'.cells ≤ rm.cells ∧ ns + rm'.slots ≤ rm.slots) (hd : decode cc pc = .ok (.invokestatic idx, 3)) (hpc : pc + 3 = pc') (hk : kc + rm'.cells = kc') (hn' : ns + rm'.slots = ns')
    (kk : ∀ (v : UInt64) (ws' : va_W), P' v ws' → X φ pc' L (.double v :: rest) ws' kc' ns') : X φ pc L st wsc kc ns := by
  have h := x_callS (wr := []) C pc' n hC hw hG hdd hR hn hs0 hcat hf hd hpc (fun r ws' hr => by obtain ⟨v, rfl, h⟩ := hr; subst hk hn'; rw [List.append_nil]; exact kk v ws' h)
  rwa [List.append_nil] at h
theorem x_callVx0_d (C : Cx Γ l φ cc nL own wl rm nm rt Post PostX) (pc' kc' ns' q0 ci n : Nat) {P' : UInt64 → va_W → Prop}
    (hC : Ct Γ l y wy rm' (.ref b :: As) wsc (qD P') PX') (hw : wy = Cond.code y bytes maxL ret :: wy') (hG : GoodIn wl (wsV own idx Cn y wy)) (hdd : y.cls = Cn ∧ y.cls ≠ "java/lang/invoke/MethodHandle" ∧ y.cls ≠ "java/lang/invoke/VarHandle" ∧ (parseMethodDescriptor y.desc).map (fun d => d.parameters.length) = some n) (hR : rm'.frames + 1 ≤ rm.frames ∧ 8 + (maxL + 11) + rm'.locals ≤ rm.locals)
    (hc : vwCl[ci]? = some (Cn, T, N)) (hq : wsc[q0]? = some (b, .inr (ci, fs))) (hn : As.length = n) (hs0 : st = As.reverse ++ .ref b :: rest) (hcat : (rest.map fun v => v.category).sum ≤ 8) (hf : kc + rm'.cells ≤ rm.cells ∧ ns + rm'.slots ≤ rm.slots) (hd : decode cc pc = .ok (.invokevirtual idx, 3)) (hpc : pc + 3 = pc') (hk : kc + rm'.cells = kc') (hn' : ns + rm'.slots = ns')
    (kk : ∀ (v : UInt64) (ws' : va_W), P' v ws' → X φ pc' L (.double v :: rest) ws' kc' ns')
    (kx : ∀ (E : String) (ws' : va_W), PX' E ws' → PostX E ws') : X φ pc L st wsc kc ns := by
  have h := x_callVx (wr := []) C pc' q0 ci n hC hw hG hdd hR hc hq hn hs0 hcat hf hd hpc (fun r ws' hr => by obtain ⟨v, rfl, h⟩ := hr; subst hk hn'; rw [List.append_nil]; exact kk v ws' h) (fun E ws' h => by rw [List.append_nil]; exact kx E ws' h)
  rwa [List.append_nil] at h
theorem x_callSx0_d (C : Cx Γ l φ cc nL own wl rm nm rt Post PostX) (pc' kc' ns' n : Nat) {P' : UInt64 → va_W → Prop}
    (hC : Ct Γ l y wy rm' As wsc (qD P') PX') (hw : wy = Cond.code y bytes maxL ret :: wy') (hG : GoodIn wl (va_wsS own idx y wy)) (hdd : y.cls ≠ "java/lang/invoke/MethodHandle" ∧ y.cls ≠ "java/lang/invoke/VarHandle" ∧ (parseMethodDescriptor y.desc).map (fun d => d.parameters.length) = some n) (hR : rm'.frames + 1 ≤ rm.frames ∧ 8 + (maxL + 11) + rm'.locals ≤ rm.locals)
    (hn : As.length = n) (hs0 : st = As.reverse ++ rest) (hcat : (rest.map fun v => v.category).sum ≤ 8) (hf : kc + rm'.cells ≤ rm.cells ∧ ns + rm'.slots ≤ rm.slots) (hd : decode cc pc = .ok (.invokestatic idx, 3)) (hpc : pc + 3 = pc') (hk : kc + rm'.cells = kc') (hn' : ns + rm'.slots = ns')
    (kk : ∀ (v : UInt64) (ws' : va_W), P' v ws' → X φ pc' L (.double v :: rest) ws' kc' ns')
    (kx : ∀ (E : String) (ws' : va_W), PX' E ws' → PostX E ws') : X φ pc L st wsc kc ns := by
  have h := x_callSx (wr := []) C pc' n hC hw hG hdd hR hn hs0 hcat hf hd hpc (fun r ws' hr => by obtain ⟨v, rfl, h⟩ := hr; subst hk hn'; rw [List.append_nil]; exact kk v ws' h) (fun E ws' h => by rw [List.append_nil]; exact kx E ws' h)
  rwa [List.append_nil] at h
theorem x_callV1_d (C : Cb Γ l φ cc nL own wl rm) (pc' kc' ns' q0 ci n : Nat) {P' : UInt64 → va_W → Prop}
    (hC : Ct Γ l y wy rm' (.ref b :: As) wsc (qD P') noX) (hw : wy = Cond.code y bytes maxL ret :: wy') (hG : GoodIn wl (wsV own idx Cn y wy)) (hdd : y.cls = Cn ∧ y.cls ≠ "java/lang/invoke/MethodHandle" ∧ y.cls ≠ "java/lang/invoke/VarHandle" ∧ (parseMethodDescriptor y.desc).map (fun d => d.parameters.length) = some n) (hR : rm'.frames + 1 ≤ rm.frames ∧ 8 + (maxL + 11) + rm'.locals ≤ rm.locals)
    (hc : vwCl[ci]? = some (Cn, T, N)) (hq : wsc[q0]? = some (b, .inr (ci, fs))) (hn : As.length = n) (hs0 : st = As.reverse ++ .ref b :: rest) (hcat : (rest.map fun v => v.category).sum ≤ 8) (hf : kc + rm'.cells ≤ rm.cells ∧ ns + rm'.slots ≤ rm.slots) (hd : decode cc pc = .ok (.invokevirtual idx, 3)) (hpc : pc + 3 = pc') (hk : kc + rm'.cells = kc') (hn' : ns + rm'.slots = ns')
    (kk : ∀ (v : UInt64) (ws' : va_W), P' v ws' → X φ pc' L (.double v :: rest) (ws' ++ wr) kc' ns') : X φ pc L st (wsc ++ wr) kc ns := by
  have h := x_callV (wr := wr) C pc' q0 ci n hC hw hG hdd hR hc hq hn hs0 hcat hf hd hpc (fun r ws' hr => by obtain ⟨v, rfl, h⟩ := hr; subst hk hn'; exact kk v ws' h)
  exact h
theorem x_callS1_d (C : Cb Γ l φ cc nL own wl rm) (pc' kc' ns' n : Nat) {P' : UInt64 → va_W → Prop}
    (hC : Ct Γ l y wy rm' As wsc (qD P') noX) (hw : wy = Cond.code y bytes maxL ret :: wy') (hG : GoodIn wl (va_wsS own idx y wy)) (hdd : y.cls ≠ "java/lang/invoke/MethodHandle" ∧ y.cls ≠ "java/lang/invoke/VarHandle" ∧ (parseMethodDescriptor y.desc).map (fun d => d.parameters.length) = some n) (hR : rm'.frames + 1 ≤ rm.frames ∧ 8 + (maxL + 11) + rm'.locals ≤ rm.locals)
    (hn : As.length = n) (hs0 : st = As.reverse ++ rest) (hcat : (rest.map fun v => v.category).sum ≤ 8) (hf : kc + rm'.cells ≤ rm.cells ∧ ns + rm'.slots ≤ rm.slots) (hd : decode cc pc = .ok (.invokestatic idx, 3)) (hpc : pc + 3 = pc') (hk : kc + rm'.cells = kc') (hn' : ns + rm'.slots = ns')
    (kk : ∀ (v : UInt64) (ws' : va_W), P' v ws' → X φ pc' L (.double v :: rest) (ws' ++ wr) kc' ns') : X φ pc L st (wsc ++ wr) kc ns := by
  have h := x_callS (wr := wr) C pc' n hC hw hG hdd hR hn hs0 hcat hf hd hpc (fun r ws' hr => by obtain ⟨v, rfl, h⟩ := hr; subst hk hn'; exact kk v ws' h)
  exact h
theorem x_callVx1_d (C : Cx Γ l φ cc nL own wl rm nm rt Post PostX) (pc' kc' ns' q0 ci n : Nat) {P' : UInt64 → va_W → Prop}
    (hC : Ct Γ l y wy rm' (.ref b :: As) wsc (qD P') PX') (hw : wy = Cond.code y bytes maxL ret :: wy') (hG : GoodIn wl (wsV own idx Cn y wy)) (hdd : y.cls = Cn ∧ y.cls ≠ "java/lang/invoke/MethodHandle" ∧ y.cls ≠ "java/lang/invoke/VarHandle" ∧ (parseMethodDescriptor y.desc).map (fun d => d.parameters.length) = some n) (hR : rm'.frames + 1 ≤ rm.frames ∧ 8 + (maxL + 11) + rm'.locals ≤ rm.locals)
    (hc : vwCl[ci]? = some (Cn, T, N)) (hq : wsc[q0]? = some (b, .inr (ci, fs))) (hn : As.length = n) (hs0 : st = As.reverse ++ .ref b :: rest) (hcat : (rest.map fun v => v.category).sum ≤ 8) (hf : kc + rm'.cells ≤ rm.cells ∧ ns + rm'.slots ≤ rm.slots) (hd : decode cc pc = .ok (.invokevirtual idx, 3)) (hpc : pc + 3 = pc') (hk : kc + rm'.cells = kc') (hn' : ns + rm'.slots = ns')
    (kk : ∀ (v : UInt64) (ws' : va_W), P' v ws' → X φ pc' L (.double v :: rest) (ws' ++ wr) kc' ns')
    (kx : ∀ (E : String) (ws' : va_W), PX' E ws' → PostX E (ws' ++ wr)) : X φ pc L st (wsc ++ wr) kc ns := by
  have h := x_callVx (wr := wr) C pc' q0 ci n hC hw hG hdd hR hc hq hn hs0 hcat hf hd hpc (fun r ws' hr => by obtain ⟨v, rfl, h⟩ := hr; subst hk hn'; exact kk v ws' h) (fun E ws' h => by exact kx E ws' h)
  exact h
theorem x_callSx1_d (C : Cx Γ l φ cc nL own wl rm nm rt Post PostX) (pc' kc' ns' n : Nat) {P' : UInt64 → va_W → Prop}
    (hC : Ct Γ l y wy rm' As wsc (qD P') PX') (hw : wy = Cond.code y bytes maxL ret :: wy') (hG : GoodIn wl (va_wsS own idx y wy)) (hdd : y.cls ≠ "java/lang/invoke/MethodHandle" ∧ y.cls ≠ "java/lang/invoke/VarHandle" ∧ (parseMethodDescriptor y.desc).map (fun d => d.parameters.length) = some n) (hR : rm'.frames + 1 ≤ rm.frames ∧ 8 + (maxL + 11) + rm'.locals ≤ rm.locals)
    (hn : As.length = n) (hs0 : st = As.reverse ++ rest) (hcat : (rest.map fun v => v.category).sum ≤ 8) (hf : kc + rm'.cells ≤ rm.cells ∧ ns + rm'.slots ≤ rm.slots) (hd : decode cc pc = .ok (.invokestatic idx, 3)) (hpc : pc + 3 = pc') (hk : kc + rm'.cells = kc') (hn' : ns + rm'.slots = ns')
    (kk : ∀ (v : UInt64) (ws' : va_W), P' v ws' → X φ pc' L (.double v :: rest) (ws' ++ wr) kc' ns')
    (kx : ∀ (E : String) (ws' : va_W), PX' E ws' → PostX E (ws' ++ wr)) : X φ pc L st (wsc ++ wr) kc ns := by
  have h := x_callSx (wr := wr) C pc' n hC hw hG hdd hR hn hs0 hcat hf hd hpc (fun r ws' hr => by obtain ⟨v, rfl, h⟩ := hr; subst hk hn'; exact kk v ws' h) (fun E ws' h => by exact kx E ws' h)
  exact h
theorem x_callV0_q (C : Cb Γ l φ cc nL own wl rm) (pc' kc' ns' q0 ci n : Nat) {P' : Option Nat → va_W → Prop}
    (hC : Ct Γ l y wy rm' (.ref b :: As) wsc (qQ P') noX) (hw : wy = Cond.code y bytes maxL ret :: wy') (hG : GoodIn wl (wsV own idx Cn y wy)) (hdd : y.cls = Cn ∧ y.cls ≠ "java/lang/invoke/MethodHandle" ∧ y.cls ≠ "java/lang/invoke/VarHandle" ∧ (parseMethodDescriptor y.desc).map (fun d => d.parameters.length) = some n) (hR : rm'.frames + 1 ≤ rm.frames ∧ 8 + (maxL + 11) + rm'.locals ≤ rm.locals)
    (hc : vwCl[ci]? = some (Cn, T, N)) (hq : wsc[q0]? = some (b, .inr (ci, fs))) (hn : As.length = n) (hs0 : st = As.reverse ++ .ref b :: rest) (hcat : (rest.map fun v => v.category).sum ≤ 8) (hf : kc + rm'.cells ≤ rm.cells ∧ ns + rm'.slots ≤ rm.slots) (hd : decode cc pc = .ok (.invokevirtual idx, 3)) (hpc : pc + 3 = pc') (hk : kc + rm'.cells = kc') (hn' : ns + rm'.slots = ns')
    (kk : ∀ (v : Option Nat) (ws' : va_W), P' v ws' → X φ pc' L (va_rf v :: rest) ws' kc' ns') : X φ pc L st wsc kc ns := by
  have h := x_callV (wr := []) C pc' q0 ci n hC hw hG hdd hR hc hq hn hs0 hcat hf hd hpc (fun r ws' hr => by obtain ⟨v, rfl, h⟩ := hr; subst hk hn'; rw [List.append_nil]; exact kk v ws' h)
  rwa [List.append_nil] at h
theorem x_callS0_q (C : Cb Γ l φ cc nL own wl rm) (pc' kc' ns' n : Nat) {P' : Option Nat → va_W → Prop}
    (hC : Ct Γ l y wy rm' As wsc (qQ P') noX) (hw : wy = Cond.code y bytes maxL ret :: wy') (hG : GoodIn wl (va_wsS own idx y wy)) (hdd : y.cls ≠ "java/lang/invoke/MethodHandle" ∧ y.cls ≠ "java/lang/invoke/VarHandle" ∧ (parseMethodDescriptor y.desc).map (fun d => d.parameters.length) = some n) (hR : rm'.frames + 1 ≤ rm.frames ∧ 8 + (maxL + 11) + rm'.locals ≤ rm.locals)
    (hn : As.length = n) (hs0 : st = As.reverse ++ rest) (hcat : (rest.map fun v => v.category).sum ≤ 8) (hf : kc + rm'.cells ≤ rm.cells ∧ ns + rm'.slots ≤ rm.slots) (hd : decode cc pc = .ok (.invokestatic idx, 3)) (hpc : pc + 3 = pc') (hk : kc + rm'.cells = kc') (hn' : ns + rm'.slots = ns')
    (kk : ∀ (v : Option Nat) (ws' : va_W), P' v ws' → X φ pc' L (va_rf v :: rest) ws' kc' ns') : X φ pc L st wsc kc ns := by
  have h := x_callS (wr := []) C pc' n hC hw hG hdd hR hn hs0 hcat hf hd hpc (fun r ws' hr => by obtain ⟨v, rfl, h⟩ := hr; subst hk hn'; rw [List.append_nil]; exact kk v ws' h)
  rwa [List.append_nil] at h
theorem x_callVx0_q (C : Cx Γ l φ cc nL own wl rm nm rt Post PostX) (pc' kc' ns' q0 ci n : Nat) {P' : Option Nat → va_W → Prop}
    (hC : Ct Γ l y wy rm' (.ref b :: As) wsc (qQ P') PX') (hw : wy = Cond.code y bytes maxL ret :: wy') (hG : GoodIn wl (wsV own idx Cn y wy)) (hdd : y.cls = Cn ∧ y.cls ≠ "java/lang/invoke/MethodHandle" ∧ y.cls ≠ "java/lang/invoke/VarHandle" ∧ (parseMethodDescriptor y.desc).map (fun d => d.parameters.length) = some n) (hR : rm'.frames + 1 ≤ rm.frames ∧ 8 + (maxL + 11) + rm'.locals ≤ rm.locals)
    (hc : vwCl[ci]? = some (Cn, T, N)) (hq : wsc[q0]? = some (b, .inr (ci, fs))) (hn : As.length = n) (hs0 : st = As.reverse ++ .ref b :: rest) (hcat : (rest.map fun v => v.category).sum ≤ 8) (hf : kc + rm'.cells ≤ rm.cells ∧ ns + rm'.slots ≤ rm.slots) (hd : decode cc pc = .ok (.invokevirtual idx, 3)) (hpc : pc + 3 = pc') (hk : kc + rm'.cells = kc') (hn' : ns + rm'.slots = ns')
    (kk : ∀ (v : Option Nat) (ws' : va_W), P' v ws' → X φ pc' L (va_rf v :: rest) ws' kc' ns')
    (kx : ∀ (E : String) (ws' : va_W), PX' E ws' → PostX E ws') : X φ pc L st wsc kc ns := by
  have h := x_callVx (wr := []) C pc' q0 ci n hC hw hG hdd hR hc hq hn hs0 hcat hf hd hpc (fun r ws' hr => by obtain ⟨v, rfl, h⟩ := hr; subst hk hn'; rw [List.append_nil]; exact kk v ws' h) (fun E ws' h => by rw [List.append_nil]; exact kx E ws' h)
  rwa [List.append_nil] at h
theorem x_callSx0_q (C : Cx Γ l φ cc nL own wl rm nm rt Post PostX) (pc' kc' ns' n : Nat) {P' : Option Nat → va_W → Prop}
    (hC : Ct Γ l y wy rm' As wsc (qQ P') PX') (hw : wy = Cond.code y bytes maxL ret :: wy') (hG : GoodIn wl (va_wsS own idx y wy)) (hdd : y.cls ≠ "java/lang/invoke/MethodHandle" ∧ y.cls ≠ "java/lang/invoke/VarHandle" ∧ (parseMethodDescriptor y.desc).map (fun d => d.parameters.length) = some n) (hR : rm'.frames + 1 ≤ rm.frames ∧ 8 + (maxL + 11) + rm'.locals ≤ rm.locals)
    (hn : As.length = n) (hs0 : st = As.reverse ++ rest) (hcat : (rest.map fun v => v.category).sum ≤ 8) (hf : kc + rm'.cells ≤ rm.cells ∧ ns + rm'.slots ≤ rm.slots) (hd : decode cc pc = .ok (.invokestatic idx, 3)) (hpc : pc + 3 = pc') (hk : kc + rm'.cells = kc') (hn' : ns + rm'.slots = ns')
    (kk : ∀ (v : Option Nat) (ws' : va_W), P' v ws' → X φ pc' L (va_rf v :: rest) ws' kc' ns')
    (kx : ∀ (E : String) (ws' : va_W), PX' E ws' → PostX E ws') : X φ pc L st wsc kc ns := by
  have h := x_callSx (wr := []) C pc' n hC hw hG hdd hR hn hs0 hcat hf hd hpc (fun r ws' hr => by obtain ⟨v, rfl, h⟩ := hr; subst hk hn'; rw [List.append_nil]; exact kk v ws' h) (fun E ws' h => by rw [List.append_nil]; exact kx E ws' h)
  rwa [List.append_nil] at h
theorem x_callV1_q (C : Cb Γ l φ cc nL own wl rm) (pc' kc' ns' q0 ci n : Nat) {P' : Option Nat → va_W → Prop}
    (hC : Ct Γ l y wy rm' (.ref b :: As) wsc (qQ P') noX) (hw : wy = Cond.code y bytes maxL ret :: wy') (hG : GoodIn wl (wsV own idx Cn y wy)) (hdd : y.cls = Cn ∧ y.cls ≠ "java/lang/invoke/MethodHandle" ∧ y.cls ≠ "java/lang/invoke/VarHandle" ∧ (parseMethodDescriptor y.desc).map (fun d => d.parameters.length) = some n) (hR : rm'.frames + 1 ≤ rm.frames ∧ 8 + (maxL + 11) + rm'.locals ≤ rm.locals)
    (hc : vwCl[ci]? = some (Cn, T, N)) (hq : wsc[q0]? = some (b, .inr (ci, fs))) (hn : As.length = n) (hs0 : st = As.reverse ++ .ref b :: rest) (hcat : (rest.map fun v => v.category).sum ≤ 8) (hf : kc + rm'.cells ≤ rm.cells ∧ ns + rm'.slots ≤ rm.slots) (hd : decode cc pc = .ok (.invokevirtual idx, 3)) (hpc : pc + 3 = pc') (hk : kc + rm'.cells = kc') (hn' : ns + rm'.slots = ns')
    (kk : ∀ (v : Option Nat) (ws' : va_W), P' v ws' → X φ pc' L (va_rf v :: rest) (ws' ++ wr) kc' ns') : X φ pc L st (wsc ++ wr) kc ns := by
  have h := x_callV (wr := wr) C pc' q0 ci n hC hw hG hdd hR hc hq hn hs0 hcat hf hd hpc (fun r ws' hr => by obtain ⟨v, rfl, h⟩ := hr; subst hk hn'; exact kk v ws' h)
  exact h
theorem x_callS1_q (C : Cb Γ l φ cc nL own wl rm) (pc' kc' ns' n : Nat) {P' : Option Nat → va_W → Prop}
    (hC : Ct Γ l y wy rm' As wsc (qQ P') noX) (hw : wy = Cond.code y bytes maxL ret :: wy') (hG : GoodIn wl (va_wsS own idx y wy)) (hdd : y.cls ≠ "java/lang/invoke/MethodHandle" ∧ y.cls ≠ "java/lang/invoke/VarHandle" ∧ (parseMethodDescriptor y.desc).map (fun d => d.parameters.length) = some n) (hR : rm'.frames + 1 ≤ rm.frames ∧ 8 + (maxL + 11) + rm'.locals ≤ rm.locals)
    (hn : As.length = n) (hs0 : st = As.reverse ++ rest) (hcat : (rest.map fun v => v.category).sum ≤ 8) (hf : kc + rm'.cells ≤ rm.cells ∧ ns + rm'.slots ≤ rm.slots) (hd : decode cc pc = .ok (.invokestatic idx, 3)) (hpc : pc + 3 = pc') (hk : kc + rm'.cells = kc') (hn' : ns + rm'.slots = ns')
    (kk : ∀ (v : Option Nat) (ws' : va_W), P' v ws' → X φ pc' L (va_rf v :: rest) (ws' ++ wr) kc' ns') : X φ pc L st (wsc ++ wr) kc ns := by
  have h := x_callS (wr := wr) C pc' n hC hw hG hdd hR hn hs0 hcat hf hd hpc (fun r ws' hr => by obtain ⟨v, rfl, h⟩ := hr; subst hk hn'; exact kk v ws' h)
  exact h
theorem x_callVx1_q (C : Cx Γ l φ cc nL own wl rm nm rt Post PostX) (pc' kc' ns' q0 ci n : Nat) {P' : Option Nat → va_W → Prop}
    (hC : Ct Γ l y wy rm' (.ref b :: As) wsc (qQ P') PX') (hw : wy = Cond.code y bytes maxL ret :: wy') (hG : GoodIn wl (wsV own idx Cn y wy)) (hdd : y.cls = Cn ∧ y.cls ≠ "java/lang/invoke/MethodHandle" ∧ y.cls ≠ "java/lang/invoke/VarHandle" ∧ (parseMethodDescriptor y.desc).map (fun d => d.parameters.length) = some n) (hR : rm'.frames + 1 ≤ rm.frames ∧ 8 + (maxL + 11) + rm'.locals ≤ rm.locals)
    (hc : vwCl[ci]? = some (Cn, T, N)) (hq : wsc[q0]? = some (b, .inr (ci, fs))) (hn : As.length = n) (hs0 : st = As.reverse ++ .ref b :: rest) (hcat : (rest.map fun v => v.category).sum ≤ 8) (hf : kc + rm'.cells ≤ rm.cells ∧ ns + rm'.slots ≤ rm.slots) (hd : decode cc pc = .ok (.invokevirtual idx, 3)) (hpc : pc + 3 = pc') (hk : kc + rm'.cells = kc') (hn' : ns + rm'.slots = ns')
    (kk : ∀ (v : Option Nat) (ws' : va_W), P' v ws' → X φ pc' L (va_rf v :: rest) (ws' ++ wr) kc' ns')
    (kx : ∀ (E : String) (ws' : va_W), PX' E ws' → PostX E (ws' ++ wr)) : X φ pc L st (wsc ++ wr) kc ns := by
  have h := x_callVx (wr := wr) C pc' q0 ci n hC hw hG hdd hR hc hq hn hs0 hcat hf hd hpc (fun r ws' hr => by obtain ⟨v, rfl, h⟩ := hr; subst hk hn'; exact kk v ws' h) (fun E ws' h => by exact kx E ws' h)
  exact h
theorem x_callSx1_q (C : Cx Γ l φ cc nL own wl rm nm rt Post PostX) (pc' kc' ns' n : Nat) {P' : Option Nat → va_W → Prop}
    (hC : Ct Γ l y wy rm' As wsc (qQ P') PX') (hw : wy = Cond.code y bytes maxL ret :: wy') (hG : GoodIn wl (va_wsS own idx y wy)) (hdd : y.cls ≠ "java/lang/invoke/MethodHandle" ∧ y.cls ≠ "java/lang/invoke/VarHandle" ∧ (parseMethodDescriptor y.desc).map (fun d => d.parameters.length) = some n) (hR : rm'.frames + 1 ≤ rm.frames ∧ 8 + (maxL + 11) + rm'.locals ≤ rm.locals)
    (hn : As.length = n) (hs0 : st = As.reverse ++ rest) (hcat : (rest.map fun v => v.category).sum ≤ 8) (hf : kc + rm'.cells ≤ rm.cells ∧ ns + rm'.slots ≤ rm.slots) (hd : decode cc pc = .ok (.invokestatic idx, 3)) (hpc : pc + 3 = pc') (hk : kc + rm'.cells = kc') (hn' : ns + rm'.slots = ns')
    (kk : ∀ (v : Option Nat) (ws' : va_W), P' v ws' → X φ pc' L (va_rf v :: rest) (ws' ++ wr) kc' ns')
    (kx : ∀ (E : String) (ws' : va_W), PX' E ws' → PostX E (ws' ++ wr)) : X φ pc L st (wsc ++ wr) kc ns := by
  have h := x_callSx (wr := wr) C pc' n hC hw hG hdd hR hn hs0 hcat hf hd hpc (fun r ws' hr => by obtain ⟨v, rfl, h⟩ := hr; subst hk hn'; exact kk v ws' h) (fun E ws' h => by exact kx E ws' h)
  exact h
theorem x_callV0_v (C : Cb Γ l φ cc nL own wl rm) (pc' kc' ns' q0 ci n : Nat) {P' : va_W → Prop}
    (hC : Ct Γ l y wy rm' (.ref b :: As) wsc (qV P') noX) (hw : wy = Cond.code y bytes maxL ret :: wy') (hG : GoodIn wl (wsV own idx Cn y wy)) (hdd : y.cls = Cn ∧ y.cls ≠ "java/lang/invoke/MethodHandle" ∧ y.cls ≠ "java/lang/invoke/VarHandle" ∧ (parseMethodDescriptor y.desc).map (fun d => d.parameters.length) = some n) (hR : rm'.frames + 1 ≤ rm.frames ∧ 8 + (maxL + 11) + rm'.locals ≤ rm.locals)
    (hc : vwCl[ci]? = some (Cn, T, N)) (hq : wsc[q0]? = some (b, .inr (ci, fs))) (hn : As.length = n) (hs0 : st = As.reverse ++ .ref b :: rest) (hcat : (rest.map fun v => v.category).sum ≤ 8) (hf : kc + rm'.cells ≤ rm.cells ∧ ns + rm'.slots ≤ rm.slots) (hd : decode cc pc = .ok (.invokevirtual idx, 3)) (hpc : pc + 3 = pc') (hk : kc + rm'.cells = kc') (hn' : ns + rm'.slots = ns')
    (kk : ∀ (ws' : va_W), P' ws' → X φ pc' L (rest) ws' kc' ns') : X φ pc L st wsc kc ns := by
  have h := x_callV (wr := []) C pc' q0 ci n hC hw hG hdd hR hc hq hn hs0 hcat hf hd hpc (fun r ws' hr => by obtain ⟨rfl, h⟩ := hr; subst hk hn'; rw [List.append_nil]; exact kk ws' h)
  rwa [List.append_nil] at h
theorem x_callS0_v (C : Cb Γ l φ cc nL own wl rm) (pc' kc' ns' n : Nat) {P' : va_W → Prop}
    (hC : Ct Γ l y wy rm' As wsc (qV P') noX) (hw : wy = Cond.code y bytes maxL ret :: wy') (hG : GoodIn wl (va_wsS own idx y wy)) (hdd : y.cls ≠ "java/lang/invoke/MethodHandle" ∧ y.cls ≠ "java/lang/invoke/VarHandle" ∧ (parseMethodDescriptor y.desc).map (fun d => d.parameters.length) = some n) (hR : rm'.frames + 1 ≤ rm.frames ∧ 8 + (maxL + 11) + rm'.locals ≤ rm.locals)
    (hn : As.length = n) (hs0 : st = As.reverse ++ rest) (hcat : (rest.map fun v => v.category).sum ≤ 8) (hf : kc + rm'.cells ≤ rm.cells ∧ ns + rm'.slots ≤ rm.slots) (hd : decode cc pc = .ok (.invokestatic idx, 3)) (hpc : pc + 3 = pc') (hk : kc + rm'.cells = kc') (hn' : ns + rm'.slots = ns')
    (kk : ∀ (ws' : va_W), P' ws' → X φ pc' L (rest) ws' kc' ns') : X φ pc L st wsc kc ns := by
  have h := x_callS (wr := []) C pc' n hC hw hG hdd hR hn hs0 hcat hf hd hpc (fun r ws' hr => by obtain ⟨rfl, h⟩ := hr; subst hk hn'; rw [List.append_nil]; exact kk ws' h)
  rwa [List.append_nil] at h
theorem x_callVx0_v (C : Cx Γ l φ cc nL own wl rm nm rt Post PostX) (pc' kc' ns' q0 ci n : Nat) {P' : va_W → Prop}
    (hC : Ct Γ l y wy rm' (.ref b :: As) wsc (qV P') PX') (hw : wy = Cond.code y bytes maxL ret :: wy') (hG : GoodIn wl (wsV own idx Cn y wy)) (hdd : y.cls = Cn ∧ y.cls ≠ "java/lang/invoke/MethodHandle" ∧ y.cls ≠ "java/lang/invoke/VarHandle" ∧ (parseMethodDescriptor y.desc).map (fun d => d.parameters.length) = some n) (hR : rm'.frames + 1 ≤ rm.frames ∧ 8 + (maxL + 11) + rm'.locals ≤ rm.locals)
    (hc : vwCl[ci]? = some (Cn, T, N)) (hq : wsc[q0]? = some (b, .inr (ci, fs))) (hn : As.length = n) (hs0 : st = As.reverse ++ .ref b :: rest) (hcat : (rest.map fun v => v.category).sum ≤ 8) (hf : kc + rm'.cells ≤ rm.cells ∧ ns + rm'.slots ≤ rm.slots) (hd : decode cc pc = .ok (.invokevirtual idx, 3)) (hpc : pc + 3 = pc') (hk : kc + rm'.cells = kc') (hn' : ns + rm'.slots = ns')
    (kk : ∀ (ws' : va_W), P' ws' → X φ pc' L (rest) ws' kc' ns')
    (kx : ∀ (E : String) (ws' : va_W), PX' E ws' → PostX E ws') : X φ pc L st wsc kc ns := by
  have h := x_callVx (wr := []) C pc' q0 ci n hC hw hG hdd hR hc hq hn hs0 hcat hf hd hpc (fun r ws' hr => by obtain ⟨rfl, h⟩ := hr; subst hk hn'; rw [List.append_nil]; exact kk ws' h) (fun E ws' h => by rw [List.append_nil]; exact kx E ws' h)
  rwa [List.append_nil] at h
theorem x_callSx0_v (C : Cx Γ l φ cc nL own wl rm nm rt Post PostX) (pc' kc' ns' n : Nat) {P' : va_W → Prop}
    (hC : Ct Γ l y wy rm' As wsc (qV P') PX') (hw : wy = Cond.code y bytes maxL ret :: wy') (hG : GoodIn wl (va_wsS own idx y wy)) (hdd : y.cls ≠ "java/lang/invoke/MethodHandle" ∧ y.cls ≠ "java/lang/invoke/VarHandle" ∧ (parseMethodDescriptor y.desc).map (fun d => d.parameters.length) = some n) (hR : rm'.frames + 1 ≤ rm.frames ∧ 8 + (maxL + 11) + rm'.locals ≤ rm.locals)
    (hn : As.length = n) (hs0 : st = As.reverse ++ rest) (hcat : (rest.map fun v => v.category).sum ≤ 8) (hf : kc + rm'.cells ≤ rm.cells ∧ ns + rm'.slots ≤ rm.slots) (hd : decode cc pc = .ok (.invokestatic idx, 3)) (hpc : pc + 3 = pc') (hk : kc + rm'.cells = kc') (hn' : ns + rm'.slots = ns')
    (kk : ∀ (ws' : va_W), P' ws' → X φ pc' L (rest) ws' kc' ns')
    (kx : ∀ (E : String) (ws' : va_W), PX' E ws' → PostX E ws') : X φ pc L st wsc kc ns := by
  have h := x_callSx (wr := []) C pc' n hC hw hG hdd hR hn hs0 hcat hf hd hpc (fun r ws' hr => by obtain ⟨rfl, h⟩ := hr; subst hk hn'; rw [List.append_nil]; exact kk ws' h) (fun E ws' h => by rw [List.append_nil]; exact kx E ws' h)
  rwa [List.append_nil] at h
theorem x_callV1_v (C : Cb Γ l φ cc nL own wl rm) (pc' kc' ns' q0 ci n : Nat) {P' : va_W → Prop}
    (hC : Ct Γ l y wy rm' (.ref b :: As) wsc (qV P') noX) (hw : wy = Cond.code y bytes maxL ret :: wy') (hG : GoodIn wl (wsV own idx Cn y wy)) (hdd : y.cls = Cn ∧ y.cls ≠ "java/lang/invoke/MethodHandle" ∧ y.cls ≠ "java/lang/invoke/VarHandle" ∧ (parseMethodDescriptor y.desc).map (fun d => d.parameters.length) = some n) (hR : rm'.frames + 1 ≤ rm.frames ∧ 8 + (maxL + 11) + rm'.locals ≤ rm.locals)
    (hc : vwCl[ci]? = some (Cn, T, N)) (hq : wsc[q0]? = some (b, .inr (ci, fs))) (hn : As.length = n) (hs0 : st = As.reverse ++ .ref b :: rest) (hcat : (rest.map fun v => v.category).sum ≤ 8) (hf : kc + rm'.cells ≤ rm.cells ∧ ns + rm'.slots ≤ rm.slots) (hd : decode cc pc = .ok (.invokevirtual idx, 3)) (hpc : pc + 3 = pc') (hk : kc + rm'.cells = kc') (hn' : ns + rm'.slots = ns')
    (kk : ∀ (ws' : va_W), P' ws' → X φ pc' L (rest) (ws' ++ wr) kc' ns') : X φ pc L st (wsc ++ wr) kc ns := by
  have h := x_callV (wr := wr) C pc' q0 ci n hC hw hG hdd hR hc hq hn hs0 hcat hf hd hpc (fun r ws' hr => by obtain ⟨rfl, h⟩ := hr; subst hk hn'; exact kk ws' h)
  exact h
theorem x_callS1_v (C : Cb Γ l φ cc nL own wl rm) (pc' kc' ns' n : Nat) {P' : va_W → Prop}
    (hC : Ct Γ l y wy rm' As wsc (qV P') noX) (hw : wy = Cond.code y bytes maxL ret :: wy') (hG : GoodIn wl (va_wsS own idx y wy)) (hdd : y.cls ≠ "java/lang/invoke/MethodHandle" ∧ y.cls ≠ "java/lang/invoke/VarHandle" ∧ (parseMethodDescriptor y.desc).map (fun d => d.parameters.length) = some n) (hR : rm'.frames + 1 ≤ rm.frames ∧ 8 + (maxL + 11) + rm'.locals ≤ rm.locals)
    (hn : As.length = n) (hs0 : st = As.reverse ++ rest) (hcat : (rest.map fun v => v.category).sum ≤ 8) (hf : kc + rm'.cells ≤ rm.cells ∧ ns + rm'.slots ≤ rm.slots) (hd : decode cc pc = .ok (.invokestatic idx, 3)) (hpc : pc + 3 = pc') (hk : kc + rm'.cells = kc') (hn' : ns + rm'.slots = ns')
    (kk : ∀ (ws' : va_W), P' ws' → X φ pc' L (rest) (ws' ++ wr) kc' ns') : X φ pc L st (wsc ++ wr) kc ns := by
  have h := x_callS (wr := wr) C pc' n hC hw hG hdd hR hn hs0 hcat hf hd hpc (fun r ws' hr => by obtain ⟨rfl, h⟩ := hr; subst hk hn'; exact kk ws' h)
  exact h
theorem x_callVx1_v (C : Cx Γ l φ cc nL own wl rm nm rt Post PostX) (pc' kc' ns' q0 ci n : Nat) {P' : va_W → Prop}
    (hC : Ct Γ l y wy rm' (.ref b :: As) wsc (qV P') PX') (hw : wy = Cond.code y bytes maxL ret :: wy') (hG : GoodIn wl (wsV own idx Cn y wy)) (hdd : y.cls = Cn ∧ y.cls ≠ "java/lang/invoke/MethodHandle" ∧ y.cls ≠ "java/lang/invoke/VarHandle" ∧ (parseMethodDescriptor y.desc).map (fun d => d.parameters.length) = some n) (hR : rm'.frames + 1 ≤ rm.frames ∧ 8 + (maxL + 11) + rm'.locals ≤ rm.locals)
    (hc : vwCl[ci]? = some (Cn, T, N)) (hq : wsc[q0]? = some (b, .inr (ci, fs))) (hn : As.length = n) (hs0 : st = As.reverse ++ .ref b :: rest) (hcat : (rest.map fun v => v.category).sum ≤ 8) (hf : kc + rm'.cells ≤ rm.cells ∧ ns + rm'.slots ≤ rm.slots) (hd : decode cc pc = .ok (.invokevirtual idx, 3)) (hpc : pc + 3 = pc') (hk : kc + rm'.cells = kc') (hn' : ns + rm'.slots = ns')
    (kk : ∀ (ws' : va_W), P' ws' → X φ pc' L (rest) (ws' ++ wr) kc' ns')
    (kx : ∀ (E : String) (ws' : va_W), PX' E ws' → PostX E (ws' ++ wr)) : X φ pc L st (wsc ++ wr) kc ns := by
  have h := x_callVx (wr := wr) C pc' q0 ci n hC hw hG hdd hR hc hq hn hs0 hcat hf hd hpc (fun r ws' hr => by obtain ⟨rfl, h⟩ := hr; subst hk hn'; exact kk ws' h) (fun E ws' h => by exact kx E ws' h)
  exact h
theorem x_callSx1_v (C : Cx Γ l φ cc nL own wl rm nm rt Post PostX) (pc' kc' ns' n : Nat) {P' : va_W → Prop}
    (hC : Ct Γ l y wy rm' As wsc (qV P') PX') (hw : wy = Cond.code y bytes maxL ret :: wy') (hG : GoodIn wl (va_wsS own idx y wy)) (hdd : y.cls ≠ "java/lang/invoke/MethodHandle" ∧ y.cls ≠ "java/lang/invoke/VarHandle" ∧ (parseMethodDescriptor y.desc).map (fun d => d.parameters.length) = some n) (hR : rm'.frames + 1 ≤ rm.frames ∧ 8 + (maxL + 11) + rm'.locals ≤ rm.locals)
    (hn : As.length = n) (hs0 : st = As.reverse ++ rest) (hcat : (rest.map fun v => v.category).sum ≤ 8) (hf : kc + rm'.cells ≤ rm.cells ∧ ns + rm'.slots ≤ rm.slots) (hd : decode cc pc = .ok (.invokestatic idx, 3)) (hpc : pc + 3 = pc') (hk : kc + rm'.cells = kc') (hn' : ns + rm'.slots = ns')
    (kk : ∀ (ws' : va_W), P' ws' → X φ pc' L (rest) (ws' ++ wr) kc' ns')
    (kx : ∀ (E : String) (ws' : va_W), PX' E ws' → PostX E (ws' ++ wr)) : X φ pc L st (wsc ++ wr) kc ns := by
  have h := x_callSx (wr := wr) C pc' n hC hw hG hdd hR hn hs0 hcat hf hd hpc (fun r ws' hr => by obtain ⟨rfl, h⟩ := hr; subst hk hn'; exact kk ws' h) (fun E ws' h => by exact kx E ws' h)
  exact h
end XK
