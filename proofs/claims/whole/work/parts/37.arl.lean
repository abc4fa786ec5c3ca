/-! ArrayList's methods over a small world: the list b, its row e, other cells we; by wip/whole/genL.py -/
def wB (b : Nat) (mc : Int32) (e n : Nat) (we : va_W) : va_W := (b, .inr (3, [.int mc, .ref e, .int (nI n)])) :: we
def wL (a : Nat → ClassId) (b e : Nat) (mc n : Int32) (cap : Nat) (f : Nat → Option Nat) (we : va_W) : va_W := (b, .inr (3, [.int mc, .ref e, .int n])) :: (e, .inl (a 6, cap, .inr (.inr (.inr (.inr f))))) :: we
def wE (b E0 : Nat) (mc n : Int32) (we : va_W) : va_W := (b, .inr (3, [.int mc, .ref E0, .int n])) :: we
theorem wL_last (a : Nat → ClassId) (b e : Nat) (mc n : Int32) (cap : Nat) (f : Nat → Option Nat) (we : va_W) (x : Nat × va_E) : (wL a b e mc n cap f (we ++ [x]))[2 + we.length]? = some x := by
  rw [Nat.add_comm]
  show (we ++ [x])[we.length]? = some x
  simp
theorem wL_set (a : Nat → ClassId) (b e : Nat) (mc n : Int32) (cap : Nat) (f : Nat → Option Nat) (we : va_W) (x y : Nat × va_E) : (wL a b e mc n cap f (we ++ [x])).set (2 + we.length) y = wL a b e mc n cap f (we ++ [y]) := by
  rw [Nat.add_comm]
  show _ :: _ :: ((we ++ [x]).set we.length y) = _ :: _ :: (we ++ [y])
  simp
theorem wL_turn (x y : Nat × va_E) (we : va_W) (z : Nat × va_E) : (x :: y :: (we ++ [z])).Perm ((x :: z :: we) ++ [y]) := by
  refine List.Perm.cons x ?_
  show (y :: (we ++ [z])).Perm (z :: (we ++ [y]))
  exact ((List.perm_append_comm (l₁ := we) (l₂ := [z])).cons y).trans ((List.Perm.swap z y we).trans ((List.perm_append_comm (l₁ := [y]) (l₂ := we)).cons z))
theorem wE_turn (x : Nat × va_E) (we : va_W) (z : Nat × va_E) : (x :: (we ++ [z])).Perm (x :: z :: we) := (List.perm_append_comm (l₁ := we) (l₂ := [z])).cons x
theorem elO.mono {we ws : va_W} {f : Nat → Option Nat} (h : elO we f) (hs : ∀ q ∈ we, q ∈ ws) : elO ws f := fun i y hy => by
  obtain ⟨ci, fs, Cn, T, N, h1, h2⟩ := h i y hy
  exact ⟨ci, fs, Cn, T, N, hs _ h1, h2⟩
theorem elO.cpy {we : va_W} {f : Nat → Option Nat} {n : Nat} (h : elO we f) : elO we (va_cpy f (fun _ => none) 0 0 n) := fun i y hy => by
  unfold va_cpy at hy
  split at hy
  · exact h _ y hy
  · cases hy
theorem nl_max {c : Nat} (h2 : 2 ≤ c) (hc : c < 1000) : nI c + (if nI 1 < nI (c / 2) then nI (c / 2) else nI 1) = nI (c + c / 2) := by
  by_cases h : 1 < c / 2
  · rw [if_pos (nI_lt h (by omega)), nI_add]
  · rw [if_neg (nI_nlt (by omega) (by decide)), nI_add, show c / 2 = 1 by omega]
theorem nl_d (c : Nat) : nI (c + 1) - nI c = nI 1 := by
  rw [pk_sub (by omega), Nat.add_sub_cancel_left]
theorem nl_sh {c : Nat} (hc : c < 1000) : nI c >>> ((1 : Int32) &&& 31) = nI (c / 2) := by
  have k := pk_shrN (n := c) (by omega) ((1 : Int32) &&& 31) 1 (by decide)
  rwa [Nat.pow_one] at k
section AL
variable {l : Launch} {Γ : Gm} {D : va_G} {a : Nat → ClassId} {E0 : Nat} {φ : Fx} {cc : ByteArray} {nL : Nat} {own : String} {wl : List Cond} {rm : Room} {pc : Nat} {L : List (Option Value)} {st rest : List Value} {ws : va_W} {kc ns : Nat}
theorem x_callI0 (C : Cb Γ l φ cc nL own wl rm) (pc' kc' ns' n : Nat) {y : MethodName} {wy wy' : List Cond} {rm' : Room} {b idx maxL : Nat} {As : List Value} {P' : va_W → Prop} {bytes : ByteArray}
    (hC : Ct Γ l y wy rm' (.ref b :: As) ws (qV P') noX) (hw : wy = Cond.code y bytes maxL none :: wy') (hG : GoodIn wl wy) (hini : Cond.initialized y.cls ∈ wl) (hlk : Cond.methodLink own idx y ∈ wl) (hins : Cond.instanceMethod y ∈ wl) (hy1 : y.name = "<init>") (hdd : y.cls ≠ "java/lang/invoke/MethodHandle" ∧ y.cls ≠ "java/lang/invoke/VarHandle" ∧ (parseMethodDescriptor y.desc).map (fun d => d.parameters.length) = some n) (hR : rm'.frames + 1 ≤ rm.frames ∧ 8 + (maxL + 11) + rm'.locals ≤ rm.locals)
    (hn : As.length = n) (hs0 : st = As.reverse ++ .ref b :: rest) (hcat : (rest.map fun v => v.category).sum ≤ 8) (hf : kc + rm'.cells ≤ rm.cells ∧ ns + rm'.slots ≤ rm.slots) (hd : decode cc pc = .ok (.invokespecial idx, 3)) (hpc : pc + 3 = pc') (hk : kc + rm'.cells = kc') (hn' : ns + rm'.slots = ns')
    (kk : ∀ ws' : va_W, P' ws' → X φ pc' L rest ws' kc' ns') : X φ pc L st ws kc ns := by
  have h := x_callI (wr := []) C pc' n hC hw hG hini hlk hins hy1 hdd hR hn hs0 hcat hf hd hpc (fun r ws' hr => by obtain ⟨rfl, h⟩ := hr; subst hk hn'; rw [List.append_nil]; exact kk ws' h)
  rwa [List.append_nil] at h
set_option maxRecDepth 100000 in
set_option maxHeartbeats 4000000 in
theorem cJ_chk3 (hl : l.stackTraces = false) {ws : va_W} {i n : Nat} (hi : i < n) (hn : n < 1000) : Ct Γ l yJ3_checkIndex_8e157 wsJ3_checkIndex_8e157 { frames := 4, cells := 0, slots := 0, locals := 100 } [.int (nI i), .int (nI n), .null] (ws) (qI fun v w => v = nI i ∧ w = ws) noX := by
  refine Ct.of [some (.int (nI i)), some (.int (nI n)), some (.null)] rfl hl (by decide) (Nat.le_of_ble_eq_true rfl) rfl (fun φ C0 => ?_)
  have C := C0.1
  refine x_iload_n C 1 dJ3_checkIndex_8e157_0 rfl rfl ?_
  refine x_if_lt C 9 4 dJ3_checkIndex_8e157_1 (by decide) rfl (fun zk1 => ?_) (fun zk1 => ?_)
  · have zk1 := (nI_ltI (a := i) (b := 0) (by omega) (by omega)).mp zk1
    exfalso; omega
  · have zk1 := mt (nI_ltI (a := i) (b := 0) (by omega) (by omega)).mpr zk1
    refine x_iload_n C 5 dJ3_checkIndex_8e157_4 rfl rfl ?_
    refine x_iload_n C 6 dJ3_checkIndex_8e157_5 rfl rfl ?_
    refine x_icmp_lt C 16 9 dJ3_checkIndex_8e157_6 (by decide) rfl (fun zk6 => ?_) (fun zk6 => ?_)
    · have zk6 := (nI_ltI (a := i) (b := n) (by omega) (by omega)).mp zk6
      refine x_iload_n C 17 dJ3_checkIndex_8e157_16 rfl rfl ?_
      exact x_zret C0 dJ3_checkIndex_8e157_17 (Nat.le_of_ble_eq_true rfl) (Nat.le_of_ble_eq_true rfl) ⟨_, rfl, ⟨rfl, rfl⟩⟩
    · have zk6 := mt (nI_ltI (a := i) (b := n) (by omega) (by omega)).mpr zk6
      exfalso; omega
set_option maxRecDepth 100000 in
set_option maxHeartbeats 4000000 in
theorem cJ_chk (hl : l.stackTraces = false) {ws : va_W} {i n : Nat} (hi : i < n) (hn : n < 1000) : Ct Γ l yJ15_checkIndex_7cf53 wsJ15_checkIndex_7cf53 { frames := 8, cells := 0, slots := 0, locals := 200 } [.int (nI i), .int (nI n)] (ws) (qI fun v w => v = nI i ∧ w = ws) noX := by
  refine Ct.of [some (.int (nI i)), some (.int (nI n))] rfl hl (by decide) (Nat.le_of_ble_eq_true rfl) rfl (fun φ C0 => ?_)
  have C := C0.1
  refine x_iload_n C 1 dJ15_checkIndex_7cf53_0 rfl rfl ?_
  refine x_iload_n C 2 dJ15_checkIndex_7cf53_1 rfl rfl ?_
  refine x_null C 3 dJ15_checkIndex_7cf53_2 rfl ?_
  refine x_callS0_i C 6 0 0 3 (cJ_chk3 hl hi hn) rfl gJ15_checkIndex_7cf53_J3_checkIndex_8e157 ⟨by decide, by decide, rfl⟩ ⟨Nat.le_of_ble_eq_true rfl, Nat.le_of_ble_eq_true rfl⟩ rfl rfl (Nat.le_of_ble_eq_true rfl) ⟨Nat.le_of_ble_eq_true rfl, Nat.le_of_ble_eq_true rfl⟩ dJ15_checkIndex_7cf53_3 rfl rfl rfl (fun r1 w1 h1 => ?_)
  obtain ⟨rfl, rfl⟩ := h1
  exact x_zret C0 dJ15_checkIndex_7cf53_6 (Nat.le_of_ble_eq_true rfl) (Nat.le_of_ble_eq_true rfl) ⟨_, rfl, ⟨rfl, rfl⟩⟩
theorem fg_Jx4a65c_size_8abf5_48 : gF RJx4a65c wsJx4a65c_size_8abf5 48 3 2 := ⟨RJx4a65c, TJx4a65c, 3, "java/util/ArrayList", rfl, fun w h => (List.mem_cons_of_mem _ (List.mem_append_right _ h)), by decide, (List.mem_cons_of_mem _ (List.mem_append_left _ (List.mem_of_getElem? (i := 0) rfl))), Or.inl rfl⟩
set_option maxRecDepth 100000 in
set_option maxHeartbeats 4000000 in
theorem cA_size (hl : l.stackTraces = false) {b e n : Nat} {mc : Int32} {we : va_W}  : Ct (gm D a E0) l yJx4a65c_size_8abf5 wsJx4a65c_size_8abf5 { frames := 4, cells := 0, slots := 0, locals := 100 } [.ref b] (wB b mc e n we) (qI fun v w => v = nI n ∧ w = wB b mc e n we) noX := by
  refine Ct.of [some (.ref b)] rfl hl (by decide) (Nat.le_of_ble_eq_true rfl) rfl (fun φ C0 => ?_)
  have C := C0.1
  refine x_aload_n C 1 dJx4a65c_size_8abf5_0 rfl rfl ?_
  refine x_get C 4 0 rfl fg_Jx4a65c_size_8abf5_48 rfl dJx4a65c_size_8abf5_1 rfl ?_
  exact x_zret C0 dJx4a65c_size_8abf5_4 (Nat.le_of_ble_eq_true rfl) (Nat.le_of_ble_eq_true rfl) ⟨_, rfl, ⟨rfl, rfl⟩⟩
theorem fg_Jx4a65c_elementData_915e3_9 : gF RJx4a65c wsJx4a65c_elementData_915e3 9 3 1 := ⟨RJx4a65c, TJx4a65c, 3, "java/util/ArrayList", rfl, fun w h => (List.mem_cons_of_mem _ (List.mem_append_right _ h)), by decide, (List.mem_cons_of_mem _ (List.mem_append_left _ (List.mem_of_getElem? (i := 0) rfl))), Or.inl rfl⟩
set_option maxRecDepth 100000 in
set_option maxHeartbeats 4000000 in
theorem cA_elem (hl : l.stackTraces = false) {b e : Nat} {mc : Int32} {n cap : Nat} {f : Nat → Option Nat} {we : va_W} {i y : Nat} (hi : i < n) (hc : n ≤ cap) (hn : cap < 1000) (hfi : f i = some y)  : Ct (gm D a E0) l yJx4a65c_elementData_915e3 wsJx4a65c_elementData_915e3 { frames := 4, cells := 0, slots := 0, locals := 100 } [.ref b, .int (nI i)] (wL a b e mc (nI n) cap f we) (qQ fun v w => v = some y ∧ w = wL a b e mc (nI n) cap f we) noX := by
  refine Ct.of [some (.ref b), some (.int (nI i))] rfl hl (by decide) (Nat.le_of_ble_eq_true rfl) rfl (fun φ C0 => ?_)
  have C := C0.1
  refine x_aload_n C 1 dJx4a65c_elementData_915e3_0 rfl rfl ?_
  refine x_get C 4 0 rfl fg_Jx4a65c_elementData_915e3_9 rfl dJx4a65c_elementData_915e3_1 rfl ?_
  refine x_iload_n C 5 dJx4a65c_elementData_915e3_4 rfl rfl ?_
  refine x_aldq C 6 1 6 rfl rfl (vp_in_nI (by omega) (by omega)) dJx4a65c_elementData_915e3_5 rfl ?_
  refine x_topq (show _ = Value.ref y from by rw [nI_clamp (by omega), hfi]; rfl) ?_
  exact x_aret (r := some y) C0 rfl (Or.inl ⟨_, rfl⟩) dJx4a65c_elementData_915e3_6 (Nat.le_of_ble_eq_true rfl) (Nat.le_of_ble_eq_true rfl) ⟨_, rfl, ⟨rfl, rfl⟩⟩
theorem fg_Jx4a65c_get_915e3_48 : gF RJx4a65c wsJx4a65c_get_915e3 48 3 2 := ⟨RJx4a65c, TJx4a65c, 3, "java/util/ArrayList", rfl, fun w h => (List.mem_cons_of_mem _ (List.mem_append_right _ h)), by decide, (List.mem_cons_of_mem _ (List.mem_append_left _ (List.mem_of_getElem? (i := 0) rfl))), Or.inl rfl⟩
set_option maxRecDepth 100000 in
set_option maxHeartbeats 4000000 in
theorem cA_get (hl : l.stackTraces = false) {b e : Nat} {mc : Int32} {n cap : Nat} {f : Nat → Option Nat} {we : va_W} {i y : Nat} (hi : i < n) (hc : n ≤ cap) (hn : cap < 1000) (hfi : f i = some y)  : Ct (gm D a E0) l yJx4a65c_get_915e3 wsJx4a65c_get_915e3 { frames := 12, cells := 0, slots := 0, locals := 300 } [.ref b, .int (nI i)] (wL a b e mc (nI n) cap f we) (qQ fun v w => v = some y ∧ w = wL a b e mc (nI n) cap f we) noX := by
  refine Ct.of [some (.ref b), some (.int (nI i))] rfl hl (by decide) (Nat.le_of_ble_eq_true rfl) rfl (fun φ C0 => ?_)
  have C := C0.1
  refine x_iload_n C 1 dJx4a65c_get_915e3_0 rfl rfl ?_
  refine x_aload_n C 2 dJx4a65c_get_915e3_1 rfl rfl ?_
  refine x_get C 5 0 rfl fg_Jx4a65c_get_915e3_48 rfl dJx4a65c_get_915e3_2 rfl ?_
  refine x_callS0_i C 8 0 0 2 (cJ_chk hl hi (by omega)) rfl gJx4a65c_get_915e3_J15_checkIndex_7cf53 ⟨by decide, by decide, rfl⟩ ⟨Nat.le_of_ble_eq_true rfl, Nat.le_of_ble_eq_true rfl⟩ rfl rfl (Nat.le_of_ble_eq_true rfl) ⟨Nat.le_of_ble_eq_true rfl, Nat.le_of_ble_eq_true rfl⟩ dJx4a65c_get_915e3_5 rfl rfl rfl (fun r1 w1 h1 => ?_)
  obtain ⟨rfl, rfl⟩ := h1
  refine x_pop C 9 dJx4a65c_get_915e3_8 rfl rfl ?_
  refine x_aload_n C 10 dJx4a65c_get_915e3_9 rfl rfl ?_
  refine x_iload_n C 11 dJx4a65c_get_915e3_10 rfl rfl ?_
  refine x_callV0_q C 14 0 0 0 3 1 (cA_elem hl hi hc hn hfi) rfl gJx4a65c_get_915e3_Jx4a65c_elementData_915e3 ⟨rfl, by decide, by decide, rfl⟩ ⟨Nat.le_of_ble_eq_true rfl, Nat.le_of_ble_eq_true rfl⟩ rfl rfl rfl rfl (Nat.le_of_ble_eq_true rfl) ⟨Nat.le_of_ble_eq_true rfl, Nat.le_of_ble_eq_true rfl⟩ dJx4a65c_get_915e3_11 rfl rfl rfl (fun r2 w2 h2 => ?_)
  obtain ⟨rfl, rfl⟩ := h2
  exact x_aret (r := some y) C0 rfl (Or.inl ⟨_, rfl⟩) dJx4a65c_get_915e3_14 (Nat.le_of_ble_eq_true rfl) (Nat.le_of_ble_eq_true rfl) ⟨_, rfl, ⟨rfl, rfl⟩⟩
set_option maxRecDepth 100000 in
set_option maxHeartbeats 4000000 in
theorem cJ_newLen (hl : l.stackTraces = false) {ws : va_W} {c : Nat} (h2 : 2 ≤ c) (hc : c < 1000) : Ct Γ l yJ8_newLength_cabcc wsJ8_newLength_cabcc { frames := 4, cells := 0, slots := 0, locals := 100 } [.int (nI c), .int (nI 1), .int (nI (c / 2))] (ws) (qI fun v w => v = nI (c + c / 2) ∧ w = ws) noX := by
  refine Ct.of [some (.int (nI c)), some (.int (nI 1)), some (.int (nI (c / 2))), none] rfl hl (by decide) (Nat.le_of_ble_eq_true rfl) rfl (fun φ C0 => ?_)
  have C := C0.1
  refine x_iload_n C 1 dJ8_newLength_cabcc_0 rfl rfl ?_
  refine x_iload_n C 2 dJ8_newLength_cabcc_1 rfl rfl ?_
  refine x_iload_n C 3 dJ8_newLength_cabcc_2 rfl rfl ?_
  refine x_mmax C 6 (List.mem_cons_of_mem _ (List.mem_of_getElem? (i := 0) rfl)) (List.mem_cons_of_mem _ (List.mem_of_getElem? (i := 1) rfl)) (List.mem_cons_of_mem _ (List.mem_of_getElem? (i := 2) rfl)) (List.mem_cons_of_mem _ (List.mem_of_getElem? (i := 3) rfl)) (Nat.le_of_ble_eq_true rfl) (Nat.le_of_ble_eq_true rfl) (Nat.le_of_ble_eq_true rfl) (Nat.le_of_ble_eq_true rfl) dJ8_newLength_cabcc_3 rfl ?_
  refine x_iadd C 7 dJ8_newLength_cabcc_6 rfl ?_
  refine x_top (show _ = nI (c + c / 2) from nl_max h2 hc) ?_
  refine x_istore_n C 8 dJ8_newLength_cabcc_7 (by decide) rfl rfl ?_
  refine x_iconst (v := (0)) C 9 dJ8_newLength_cabcc_8 (by decide) rfl ?_
  refine x_iload_n C 10 dJ8_newLength_cabcc_9 rfl rfl ?_
  refine x_icmp_ge C 21 13 dJ8_newLength_cabcc_10 (by decide) rfl (fun zk10 => ?_) (fun zk10 => ?_)
  · have zk10 := (nI_leI (a := (c + c / 2)) (b := 0) (by omega) (by omega)).mp zk10
    exfalso; omega
  · have zk10 := mt (nI_leI (a := (c + c / 2)) (b := 0) (by omega) (by omega)).mpr zk10
    refine x_iload_n C 14 dJ8_newLength_cabcc_13 rfl rfl ?_
    refine x_ldc (v := 2147483639) C 16 (List.mem_cons_of_mem _ (List.mem_of_getElem? (i := 4) rfl)) dJ8_newLength_cabcc_14 rfl ?_
    refine x_icmp_gt C 21 19 dJ8_newLength_cabcc_16 (by decide) rfl (fun zk16 => ?_) (fun zk16 => ?_)
    · have zk16 := (nI_ltI (a := 2147483639) (b := (c + c / 2)) (by omega) (by omega)).mp zk16
      exfalso; omega
    · have zk16 := mt (nI_ltI (a := 2147483639) (b := (c + c / 2)) (by omega) (by omega)).mpr zk16
      refine x_iload_n C 20 dJ8_newLength_cabcc_19 rfl rfl ?_
      exact x_zret C0 dJ8_newLength_cabcc_20 (Nat.le_of_ble_eq_true rfl) (Nat.le_of_ble_eq_true rfl) ⟨_, rfl, ⟨rfl, rfl⟩⟩
set_option maxRecDepth 100000 in
set_option maxHeartbeats 4000000 in
theorem cJ_copy3 (hl : l.stackTraces = false) {b e : Nat} {mc : Int32} {n cap : Nat} {f : Nat → Option Nat} {we : va_W} {m : Nat} (hm : cap ≤ m) (hm2 : m ≤ 22) (hel : elO we f)  : Ct (gm D a E0) l yJ7_copyOf_6403c wsJ7_copyOf_6403c { frames := 4, cells := 1, slots := 22, locals := 100 } [.ref e, .int (nI m), .ref (D.1 99)] (wL a b e mc (nI n) cap f we) (qQ fun v w => ∃ q, v = some q ∧ w = wL a b e mc (nI n) cap f (we ++ [(q, .inl (a 6, m, .inr (.inr (.inr (.inr (va_cpy f (fun _ => none) 0 0 cap))))))])) noX := by
  refine Ct.of [some (.ref e), some (.int (nI m)), some (.ref (D.1 99)), none] rfl hl (by decide) (Nat.le_of_ble_eq_true rfl) rfl (fun φ C0 => ?_)
  have C := C0.1
  refine x_aload_n C 1 dJ7_copyOf_6403c_0 rfl rfl ?_
  refine x_ldcM C 3 (List.mem_cons_of_mem _ (List.mem_of_getElem? (i := 0) rfl)) dJ7_copyOf_6403c_1 rfl ?_
  refine x_acmp_ne C 13 6 (rx := some (D.1 99)) (ry := some (D.1 99)) dJ7_copyOf_6403c_3 (by decide) rfl (fun zq => ?_) (fun zq => ?_)
  · exact absurd rfl zq
  · refine x_iload_n C 7 dJ7_copyOf_6403c_6 rfl rfl ?_
    refine x_newq C 10 6 (N' := m) (List.mem_cons_of_mem _ (List.mem_of_getElem? (i := 1) rfl)) (fun U h => h.2.2.2.2.2.1) rfl (nI_pos (by omega)) (nI_clamp (by omega)) (by omega) (Nat.le_of_ble_eq_true rfl) (show 0 + m ≤ 22 by omega) dJ7_copyOf_6403c_7 rfl (fun q => ?_)
    refine x_ws (show _ = wL a b e mc (nI n) cap f (we ++ [(q, .inl (a 6, m, .inr (.inr (.inr (.inr (fun _ => none))))))]) from rfl) ?_
    refine x_goto C 24 dJ7_copyOf_6403c_10 (by decide) ?_
    refine x_astore_n C 25 dJ7_copyOf_6403c_24 (by decide) rfl rfl ?_
    refine x_aload_n C 26 dJ7_copyOf_6403c_25 rfl rfl ?_
    refine x_iconst (v := (0)) C 27 dJ7_copyOf_6403c_26 (by decide) rfl ?_
    refine x_aload_n C 28 dJ7_copyOf_6403c_27 rfl rfl ?_
    refine x_iconst (v := (0)) C 29 dJ7_copyOf_6403c_28 (by decide) rfl ?_
    refine x_aload_n C 30 dJ7_copyOf_6403c_29 rfl rfl ?_
    refine x_alen C 31 1 6 rfl rfl dJ7_copyOf_6403c_30 rfl ?_
    refine x_top (show _ = nI cap from rfl) ?_
    refine x_iload_n C 32 dJ7_copyOf_6403c_31 rfl rfl ?_
    refine x_mmin C 35 (List.mem_cons_of_mem _ (List.mem_of_getElem? (i := 2) rfl)) (List.mem_cons_of_mem _ (List.mem_of_getElem? (i := 3) rfl)) (List.mem_cons_of_mem _ (List.mem_of_getElem? (i := 4) rfl)) (List.mem_cons_of_mem _ (List.mem_of_getElem? (i := 5) rfl)) (Nat.le_of_ble_eq_true rfl) (Nat.le_of_ble_eq_true rfl) (Nat.le_of_ble_eq_true rfl) (show 0 + m ≤ 22 by omega) dJ7_copyOf_6403c_32 rfl ?_
    refine x_top (show _ = nI cap from if_neg (nI_nlt hm (by omega))) ?_
    refine x_cpO C 38 1 (2 + we.length) 6 6 (List.mem_cons_of_mem _ (List.mem_of_getElem? (i := 6) rfl)) (List.mem_cons_of_mem _ (List.mem_of_getElem? (i := 7) rfl)) (List.mem_cons_of_mem _ (List.mem_of_getElem? (i := 8) rfl)) (List.mem_cons_of_mem _ (List.mem_of_getElem? (i := 9) rfl)) rfl (wL_last _ _ _ _ _ _ _ _ _) rfl rfl (by decide) (by decide) (nI_pos (by omega)) (by rw [nI_clamp (by omega)]; exact Nat.le_of_eq (Nat.zero_add _)) (by rw [nI_clamp (by omega)]; show 0 + cap ≤ m; omega) (elO.mono hel fun q hq => by simp [wL, hq]) (Nat.le_of_ble_eq_true rfl) (Nat.le_of_ble_eq_true rfl) dJ7_copyOf_6403c_35 rfl ?_
    refine x_ws (show _ = wL a b e mc (nI n) cap f (we ++ [(q, .inl (a 6, m, .inr (.inr (.inr (.inr (va_cpy f (fun _ => none) 0 0 cap))))))]) from by rw [nI_clamp (by omega)]; exact wL_set _ _ _ _ _ _ _ _ _ _) ?_
    refine x_aload_n C 39 dJ7_copyOf_6403c_38 rfl rfl ?_
    exact x_aret (r := some q) C0 rfl (Or.inr ⟨_, rfl⟩) dJ7_copyOf_6403c_39 (Nat.le_of_ble_eq_true rfl) (show 0 + m ≤ 22 by omega) ⟨_, rfl, ⟨q, rfl, rfl⟩⟩
set_option maxRecDepth 100000 in
set_option maxHeartbeats 4000000 in
theorem cJ_copy2 (hl : l.stackTraces = false) {b e : Nat} {mc : Int32} {n cap : Nat} {f : Nat → Option Nat} {we : va_W} {m : Nat} (hm : cap ≤ m) (hm2 : m ≤ 22) (hel : elO we f)  : Ct (gm D a E0) l yJ7_copyOf_1904c wsJ7_copyOf_1904c { frames := 8, cells := 1, slots := 22, locals := 200 } [.ref e, .int (nI m)] (wL a b e mc (nI n) cap f we) (qQ fun v w => ∃ q, v = some q ∧ w = wL a b e mc (nI n) cap f (we ++ [(q, .inl (a 6, m, .inr (.inr (.inr (.inr (va_cpy f (fun _ => none) 0 0 cap))))))])) noX := by
  refine Ct.of [some (.ref e), some (.int (nI m))] rfl hl (by decide) (Nat.le_of_ble_eq_true rfl) rfl (fun φ C0 => ?_)
  have C := C0.1
  refine x_aload_n C 1 dJ7_copyOf_1904c_0 rfl rfl ?_
  refine x_iload_n C 2 dJ7_copyOf_1904c_1 rfl rfl ?_
  refine x_aload_n C 3 dJ7_copyOf_1904c_2 rfl rfl ?_
  refine x_getC C 6 1 6 rfl rfl (List.mem_cons_of_mem _ (List.mem_of_getElem? (i := 0) rfl)) (List.mem_cons_of_mem _ (List.mem_of_getElem? (i := 1) rfl)) (List.mem_cons_of_mem _ (List.mem_of_getElem? (i := 2) rfl)) (List.mem_cons_of_mem _ (List.mem_of_getElem? (i := 3) rfl)) (Nat.le_of_ble_eq_true rfl) (Nat.le_of_ble_eq_true rfl) dJ7_copyOf_1904c_3 rfl ?_
  refine x_callS0_q C 9 1 22 3 (cJ_copy3 hl hm hm2 hel) rfl gJ7_copyOf_1904c_J7_copyOf_6403c ⟨by decide, by decide, rfl⟩ ⟨Nat.le_of_ble_eq_true rfl, Nat.le_of_ble_eq_true rfl⟩ rfl rfl (Nat.le_of_ble_eq_true rfl) ⟨Nat.le_of_ble_eq_true rfl, Nat.le_of_ble_eq_true rfl⟩ dJ7_copyOf_1904c_6 rfl rfl rfl (fun r1 w1 h1 => ?_)
  obtain ⟨q, rfl, rfl⟩ := h1
  exact x_aret (r := some q) C0 rfl (Or.inr ⟨_, rfl⟩) dJ7_copyOf_1904c_9 (Nat.le_of_ble_eq_true rfl) (Nat.le_of_ble_eq_true rfl) ⟨_, rfl, ⟨q, rfl, rfl⟩⟩
theorem fg_Jx4a65c_grow_92f84_9 : gF RJx4a65c wsJx4a65c_grow_92f84 9 3 1 := ⟨RJx4a65c, TJx4a65c, 3, "java/util/ArrayList", rfl, fun w h => (List.mem_cons_of_mem _ (List.mem_append_right _ h)), by decide, (List.mem_cons_of_mem _ (List.mem_append_left _ (List.mem_append_left _ (List.mem_of_getElem? (i := 0) rfl)))), Or.inl rfl⟩
theorem fp_Jx4a65c_grow_92f84_9 : pF RJx4a65c wsJx4a65c_grow_92f84 9 3 1 false (.array (.object "java/lang/Object")) := ⟨RJx4a65c, TJx4a65c, 3, "java/util/ArrayList", tyJx4a65c, rfl, fun w h => (List.mem_cons_of_mem _ (List.mem_append_right _ h)), by decide, (List.mem_cons_of_mem _ (List.mem_append_left _ (List.mem_append_left _ (List.mem_of_getElem? (i := 0) rfl)))), Or.inl rfl, tyJx4a65c_ok, nmJx4a65c, rfl, rfl, fun h => absurd h (by decide)⟩
set_option maxRecDepth 100000 in
set_option maxHeartbeats 4000000 in
theorem cA_growN (hl : l.stackTraces = false) {b e : Nat} {mc : Int32} {n cap : Nat} {f : Nat → Option Nat} {we : va_W} (h2 : 2 ≤ cap) (hm2 : cap + cap / 2 ≤ 22) (hel : elO we f)  : Ct (gm D a E0) l yJx4a65c_grow_92f84 wsJx4a65c_grow_92f84 { frames := 12, cells := 1, slots := 22, locals := 300 } [.ref b, .int (nI (cap + 1))] (wL a b e mc (nI n) cap f we) (qQ fun v w => ∃ q, v = some q ∧ w = wL a b q mc (nI n) (cap + cap / 2) (va_cpy f (fun _ => none) 0 0 cap) we) noX := by
  refine Ct.of [some (.ref b), some (.int (nI (cap + 1))), none, none] rfl hl (by decide) (Nat.le_of_ble_eq_true rfl) rfl (fun φ C0 => ?_)
  have C := C0.1
  refine x_aload_n C 1 dJx4a65c_grow_92f84_0 rfl rfl ?_
  refine x_get C 4 0 rfl fg_Jx4a65c_grow_92f84_9 rfl dJx4a65c_grow_92f84_1 rfl ?_
  refine x_alen C 5 1 6 rfl rfl dJx4a65c_grow_92f84_4 rfl ?_
  refine x_top (show _ = nI cap from rfl) ?_
  refine x_istore_n C 6 dJx4a65c_grow_92f84_5 (by decide) rfl rfl ?_
  refine x_iload_n C 7 dJx4a65c_grow_92f84_6 rfl rfl ?_
  refine x_if_gt C 20 10 dJx4a65c_grow_92f84_7 (by decide) rfl (fun zk7 => ?_) (fun zk7 => ?_)
  · have zk7 := (nI_ltI (a := 0) (b := cap) (by omega) (by omega)).mp zk7
    refine x_iload_n C 21 dJx4a65c_grow_92f84_20 rfl rfl ?_
    refine x_iload_n C 22 dJx4a65c_grow_92f84_21 rfl rfl ?_
    refine x_iload_n C 23 dJx4a65c_grow_92f84_22 rfl rfl ?_
    refine x_isub C 24 dJx4a65c_grow_92f84_23 rfl ?_
    refine x_top (show _ = nI 1 from nl_d cap) ?_
    refine x_iload_n C 25 dJx4a65c_grow_92f84_24 rfl rfl ?_
    refine x_iconst (v := (1)) C 26 dJx4a65c_grow_92f84_25 (by decide) rfl ?_
    refine x_ishr C 27 dJx4a65c_grow_92f84_26 rfl ?_
    refine x_top (show _ = nI (cap / 2) from nl_sh (by omega)) ?_
    refine x_callS0_i C 30 0 0 3 (cJ_newLen hl h2 (by omega)) rfl gJx4a65c_grow_92f84_J8_newLength_cabcc ⟨by decide, by decide, rfl⟩ ⟨Nat.le_of_ble_eq_true rfl, Nat.le_of_ble_eq_true rfl⟩ rfl rfl (Nat.le_of_ble_eq_true rfl) ⟨Nat.le_of_ble_eq_true rfl, Nat.le_of_ble_eq_true rfl⟩ dJx4a65c_grow_92f84_27 rfl rfl rfl (fun r1 w1 h1 => ?_)
    obtain ⟨rfl, rfl⟩ := h1
    refine x_istore_n C 31 dJx4a65c_grow_92f84_30 (by decide) rfl rfl ?_
    refine x_aload_n C 32 dJx4a65c_grow_92f84_31 rfl rfl ?_
    refine x_aload_n C 33 dJx4a65c_grow_92f84_32 rfl rfl ?_
    refine x_get C 36 0 rfl fg_Jx4a65c_grow_92f84_9 rfl dJx4a65c_grow_92f84_33 rfl ?_
    refine x_iload_n C 37 dJx4a65c_grow_92f84_36 rfl rfl ?_
    refine x_callS0_q C 40 1 22 2 (cJ_copy2 hl (by omega) hm2 hel) rfl gJx4a65c_grow_92f84_J7_copyOf_1904c ⟨by decide, by decide, rfl⟩ ⟨Nat.le_of_ble_eq_true rfl, Nat.le_of_ble_eq_true rfl⟩ rfl rfl (Nat.le_of_ble_eq_true rfl) ⟨Nat.le_of_ble_eq_true rfl, Nat.le_of_ble_eq_true rfl⟩ dJx4a65c_grow_92f84_37 rfl rfl rfl (fun r2 w2 h2 => ?_)
    obtain ⟨q, rfl, rfl⟩ := h2
    refine x_dup_x1 C 41 dJx4a65c_grow_92f84_40 rfl rfl rfl ?_
    refine x_put C 44 0 rfl fp_Jx4a65c_grow_92f84_9 rfl rfl (Nat.le_of_ble_eq_true rfl) dJx4a65c_grow_92f84_41 rfl ?_
    refine x_ws (show _ = (b, .inr (3, [.int mc, .ref q, .int (nI n)])) :: (e, .inl (a 6, cap, .inr (.inr (.inr (.inr f))))) :: (we ++ [(q, .inl (a 6, cap + cap / 2, .inr (.inr (.inr (.inr (va_cpy f (fun _ => none) 0 0 cap))))))]) from rfl) ?_
    refine x_perm (wL_turn _ _ _ _) ?_
    refine x_drop ?_
    refine x_ws (show _ = wL a b q mc (nI n) (cap + cap / 2) (va_cpy f (fun _ => none) 0 0 cap) we from rfl) ?_
    exact x_aret (r := some q) C0 rfl (Or.inr ⟨_, rfl⟩) dJx4a65c_grow_92f84_44 (Nat.le_of_ble_eq_true rfl) (Nat.le_of_ble_eq_true rfl) ⟨_, rfl, ⟨q, rfl, rfl⟩⟩
  · have zk7 := mt (nI_ltI (a := 0) (b := cap) (by omega) (by omega)).mpr zk7
    exfalso; omega
set_option maxRecDepth 100000 in
set_option maxHeartbeats 4000000 in
theorem cA_growE (hl : l.stackTraces = false) {b : Nat} {mc : Int32} {we : va_W}  : Ct (gm D a E0) l yJx4a65c_grow_92f84 wsJx4a65c_grow_92f84 { frames := 12, cells := 1, slots := 22, locals := 300 } [.ref b, .int (nI 1)] (wE b E0 mc (nI 0) we) (qQ fun v w => ∃ q, v = some q ∧ w = wL a b q mc (nI 0) 10 (fun _ => none) we) noX := by
  refine Ct.of [some (.ref b), some (.int (nI 1)), none, none] rfl hl (by decide) (Nat.le_of_ble_eq_true rfl) rfl (fun φ C0 => ?_)
  have C := C0.1
  refine x_aload_n C 1 dJx4a65c_grow_92f84_0 rfl rfl ?_
  refine x_get C 4 0 rfl fg_Jx4a65c_grow_92f84_9 rfl dJx4a65c_grow_92f84_1 rfl ?_
  refine x_tlen0 C 5 dJx4a65c_grow_92f84_4 rfl ?_
  refine x_istore_n C 6 dJx4a65c_grow_92f84_5 (by decide) rfl rfl ?_
  refine x_iload_n C 7 dJx4a65c_grow_92f84_6 rfl rfl ?_
  refine x_if_gt C 20 10 dJx4a65c_grow_92f84_7 (by decide) rfl (fun zk7 => ?_) (fun zk7 => ?_)
  · exact absurd zk7 (by decide)
  · refine x_aload_n C 11 dJx4a65c_grow_92f84_10 rfl rfl ?_
    refine x_get C 14 0 rfl fg_Jx4a65c_grow_92f84_9 rfl dJx4a65c_grow_92f84_11 rfl ?_
    refine x_gets0 C 17 (List.mem_cons_of_mem _ (List.mem_append_left _ (List.mem_append_left _ (List.mem_of_getElem? (i := 1) rfl)))) dJx4a65c_grow_92f84_14 rfl ?_
    refine x_acmp_eq C 45 20 (rx := some E0) (ry := some E0) dJx4a65c_grow_92f84_17 (by decide) rfl (fun zq => ?_) (fun zq => ?_)
    · refine x_aload_n C 46 dJx4a65c_grow_92f84_45 rfl rfl ?_
      refine x_bipush (v := (10)) C 48 dJx4a65c_grow_92f84_46 (by decide) rfl ?_
      refine x_iload_n C 49 dJx4a65c_grow_92f84_48 rfl rfl ?_
      refine x_mmax C 52 (List.mem_cons_of_mem _ (List.mem_append_left _ (List.mem_append_left _ (List.mem_of_getElem? (i := 2) rfl)))) (List.mem_cons_of_mem _ (List.mem_append_left _ (List.mem_append_left _ (List.mem_of_getElem? (i := 3) rfl)))) (List.mem_cons_of_mem _ (List.mem_append_left _ (List.mem_append_left _ (List.mem_of_getElem? (i := 4) rfl)))) (List.mem_cons_of_mem _ (List.mem_append_left _ (List.mem_append_left _ (List.mem_of_getElem? (i := 5) rfl)))) (Nat.le_of_ble_eq_true rfl) (Nat.le_of_ble_eq_true rfl) (Nat.le_of_ble_eq_true rfl) (Nat.le_of_ble_eq_true rfl) dJx4a65c_grow_92f84_49 rfl ?_
      refine x_top (show _ = nI 10 from rfl) ?_
      refine x_newq C 55 6 (N' := 10) (List.mem_cons_of_mem _ (List.mem_append_left _ (List.mem_append_left _ (List.mem_of_getElem? (i := 6) rfl)))) (fun U h => h.2.2.2.2.2.1) rfl (by decide) (by decide) (by omega) (Nat.le_of_ble_eq_true rfl) (Nat.le_of_ble_eq_true rfl) dJx4a65c_grow_92f84_52 rfl (fun q => ?_)
      refine x_dup_x1 C 56 dJx4a65c_grow_92f84_55 rfl rfl rfl ?_
      refine x_put C 59 0 rfl fp_Jx4a65c_grow_92f84_9 rfl rfl (Nat.le_of_ble_eq_true rfl) dJx4a65c_grow_92f84_56 rfl ?_
      refine x_ws (show _ = (b, .inr (3, [.int mc, .ref q, .int (nI 0)])) :: (we ++ [(q, .inl (a 6, 10, .inr (.inr (.inr (.inr (fun _ => none))))))]) from rfl) ?_
      refine x_perm (wE_turn _ _ _) ?_
      refine x_ws (show _ = wL a b q mc (nI 0) 10 (fun _ => none) we from rfl) ?_
      exact x_aret (r := some q) C0 rfl (Or.inr ⟨_, rfl⟩) dJx4a65c_grow_92f84_59 (Nat.le_of_ble_eq_true rfl) (Nat.le_of_ble_eq_true rfl) ⟨_, rfl, ⟨q, rfl, rfl⟩⟩
    · exact absurd rfl zq
theorem fg_Jx4a65c_grow_d5877_48 : gF RJx4a65c wsJx4a65c_grow_d5877 48 3 2 := ⟨RJx4a65c, TJx4a65c, 3, "java/util/ArrayList", rfl, fun w h => (List.mem_cons_of_mem _ (List.mem_append_right _ h)), by decide, (List.mem_cons_of_mem _ (List.mem_append_left _ (List.mem_append_left _ (List.mem_of_getElem? (i := 0) rfl)))), Or.inl rfl⟩
set_option maxRecDepth 100000 in
set_option maxHeartbeats 4000000 in
theorem cA_grow0N (hl : l.stackTraces = false) {b e : Nat} {mc : Int32} {cap : Nat} {f : Nat → Option Nat} {we : va_W} (h2 : 2 ≤ cap) (hm2 : cap + cap / 2 ≤ 22) (hel : elO we f)  : Ct (gm D a E0) l yJx4a65c_grow_d5877 wsJx4a65c_grow_d5877 { frames := 16, cells := 1, slots := 22, locals := 400 } [.ref b] (wL a b e mc (nI cap) cap f we) (qQ fun v w => ∃ q, v = some q ∧ w = wL a b q mc (nI cap) (cap + cap / 2) (va_cpy f (fun _ => none) 0 0 cap) we) noX := by
  refine Ct.of [some (.ref b)] rfl hl (by decide) (Nat.le_of_ble_eq_true rfl) rfl (fun φ C0 => ?_)
  have C := C0.1
  refine x_aload_n C 1 dJx4a65c_grow_d5877_0 rfl rfl ?_
  refine x_aload_n C 2 dJx4a65c_grow_d5877_1 rfl rfl ?_
  refine x_get C 5 0 rfl fg_Jx4a65c_grow_d5877_48 rfl dJx4a65c_grow_d5877_2 rfl ?_
  refine x_iconst (v := (1)) C 6 dJx4a65c_grow_d5877_5 (by decide) rfl ?_
  refine x_iadd C 7 dJx4a65c_grow_d5877_6 rfl ?_
  refine x_top (show _ = nI (cap + 1) from nI_add _ _) ?_
  refine x_callV0_q C 10 1 22 0 3 1 (cA_growN hl h2 hm2 hel) rfl gJx4a65c_grow_d5877_Jx4a65c_grow_92f84 ⟨rfl, by decide, by decide, rfl⟩ ⟨Nat.le_of_ble_eq_true rfl, Nat.le_of_ble_eq_true rfl⟩ rfl rfl rfl rfl (Nat.le_of_ble_eq_true rfl) ⟨Nat.le_of_ble_eq_true rfl, Nat.le_of_ble_eq_true rfl⟩ dJx4a65c_grow_d5877_7 rfl rfl rfl (fun r1 w1 h1 => ?_)
  obtain ⟨q, rfl, rfl⟩ := h1
  exact x_aret (r := some q) C0 rfl (Or.inr ⟨_, rfl⟩) dJx4a65c_grow_d5877_10 (Nat.le_of_ble_eq_true rfl) (Nat.le_of_ble_eq_true rfl) ⟨_, rfl, ⟨q, rfl, rfl⟩⟩
set_option maxRecDepth 100000 in
set_option maxHeartbeats 4000000 in
theorem cA_grow0E (hl : l.stackTraces = false) {b : Nat} {mc : Int32} {we : va_W}  : Ct (gm D a E0) l yJx4a65c_grow_d5877 wsJx4a65c_grow_d5877 { frames := 16, cells := 1, slots := 22, locals := 400 } [.ref b] (wE b E0 mc (nI 0) we) (qQ fun v w => ∃ q, v = some q ∧ w = wL a b q mc (nI 0) 10 (fun _ => none) we) noX := by
  refine Ct.of [some (.ref b)] rfl hl (by decide) (Nat.le_of_ble_eq_true rfl) rfl (fun φ C0 => ?_)
  have C := C0.1
  refine x_aload_n C 1 dJx4a65c_grow_d5877_0 rfl rfl ?_
  refine x_aload_n C 2 dJx4a65c_grow_d5877_1 rfl rfl ?_
  refine x_get C 5 0 rfl fg_Jx4a65c_grow_d5877_48 rfl dJx4a65c_grow_d5877_2 rfl ?_
  refine x_iconst (v := (1)) C 6 dJx4a65c_grow_d5877_5 (by decide) rfl ?_
  refine x_iadd C 7 dJx4a65c_grow_d5877_6 rfl ?_
  refine x_top (show _ = nI (0 + 1) from nI_add _ _) ?_
  refine x_callV0_q C 10 1 22 0 3 1 (cA_growE hl) rfl gJx4a65c_grow_d5877_Jx4a65c_grow_92f84 ⟨rfl, by decide, by decide, rfl⟩ ⟨Nat.le_of_ble_eq_true rfl, Nat.le_of_ble_eq_true rfl⟩ rfl rfl rfl rfl (Nat.le_of_ble_eq_true rfl) ⟨Nat.le_of_ble_eq_true rfl, Nat.le_of_ble_eq_true rfl⟩ dJx4a65c_grow_d5877_7 rfl rfl rfl (fun r1 w1 h1 => ?_)
  obtain ⟨q, rfl, rfl⟩ := h1
  exact x_aret (r := some q) C0 rfl (Or.inr ⟨_, rfl⟩) dJx4a65c_grow_d5877_10 (Nat.le_of_ble_eq_true rfl) (Nat.le_of_ble_eq_true rfl) ⟨_, rfl, ⟨q, rfl, rfl⟩⟩
theorem fp_Jx4a65c_add_72be8_48 : pF RJx4a65c wsJx4a65c_add_72be8 48 3 2 false (.int) := ⟨RJx4a65c, TJx4a65c, 3, "java/util/ArrayList", tyJx4a65c, rfl, fun w h => (List.mem_cons_of_mem _ (List.mem_append_right _ h)), by decide, (List.mem_cons_of_mem _ (List.mem_append_left _ (List.mem_append_left _ (List.mem_of_getElem? (i := 0) rfl)))), Or.inl rfl, tyJx4a65c_ok, nmJx4a65c, rfl, rfl, fun h => absurd h (by decide)⟩
set_option maxRecDepth 100000 in
set_option maxHeartbeats 4000000 in
theorem cA_addHR (hl : l.stackTraces = false) {b e : Nat} {mc : Int32} {n cap : Nat} {f : Nat → Option Nat} {we : va_W} {x : Nat} (hx : elO we (fun _ => some x)) (hn : n < cap) (hc : cap < 1000)  : Ct (gm D a E0) l yJx4a65c_add_72be8 wsJx4a65c_add_72be8 { frames := 20, cells := 0, slots := 0, locals := 500 } [.ref b, .ref x, .ref e, .int (nI n)] (wL a b e mc (nI n) cap f we) (qV fun w => w = wL a b e mc (nI (n + 1)) cap (va_up f n (some x)) we) noX := by
  refine Ct.of [some (.ref b), some (.ref x), some (.ref e), some (.int (nI n))] rfl hl (by decide) (Nat.le_of_ble_eq_true rfl) rfl (fun φ C0 => ?_)
  have C := C0.1
  refine x_iload_n C 1 dJx4a65c_add_72be8_0 rfl rfl ?_
  refine x_aload_n C 2 dJx4a65c_add_72be8_1 rfl rfl ?_
  refine x_alen C 3 1 6 rfl rfl dJx4a65c_add_72be8_2 rfl ?_
  refine x_top (show _ = nI cap from rfl) ?_
  refine x_icmp_ne C 11 6 dJx4a65c_add_72be8_3 (by decide) rfl (fun zk3 => ?_) (fun zk3 => ?_)
  · have zk3 := mt (nI_eq (a := n) (b := cap) (by omega) (by omega)).mpr zk3
    refine x_aload_n C 12 dJx4a65c_add_72be8_11 rfl rfl ?_
    refine x_iload_n C 13 dJx4a65c_add_72be8_12 rfl rfl ?_
    refine x_aload_n C 14 dJx4a65c_add_72be8_13 rfl rfl ?_
    refine x_astO C 15 1 6 rfl rfl (elO.mono hx fun z hz => List.mem_cons_of_mem _ (List.mem_cons_of_mem _ hz)) (vp_in_nI (by omega) (by omega)) dJx4a65c_add_72be8_14 rfl ?_
    refine x_ws (show _ = wL a b e mc (nI n) cap (va_up f n (some x)) we from by rw [nI_clamp (by omega)]; rfl) ?_
    refine x_aload_n C 16 dJx4a65c_add_72be8_15 rfl rfl ?_
    refine x_iload_n C 17 dJx4a65c_add_72be8_16 rfl rfl ?_
    refine x_iconst (v := (1)) C 18 dJx4a65c_add_72be8_17 (by decide) rfl ?_
    refine x_iadd C 19 dJx4a65c_add_72be8_18 rfl ?_
    refine x_top (show _ = nI (n + 1) from nI_add _ _) ?_
    refine x_put C 22 0 rfl fp_Jx4a65c_add_72be8_48 rfl rfl (Nat.le_of_ble_eq_true rfl) dJx4a65c_add_72be8_19 rfl ?_
    refine x_ws (show _ = wL a b e mc (nI (n + 1)) cap (va_up f n (some x)) we from rfl) ?_
    exact x_vret C0 dJx4a65c_add_72be8_22 (Nat.le_of_ble_eq_true rfl) (Nat.le_of_ble_eq_true rfl) ⟨rfl, rfl⟩
  · have zk3 := (nI_eq (a := n) (b := cap) (by omega) (by omega)).mp zk3
    exfalso; omega
set_option maxRecDepth 100000 in
set_option maxHeartbeats 4000000 in
theorem cA_addHE (hl : l.stackTraces = false) {b : Nat} {mc : Int32} {we : va_W} {x : Nat} (hx : elO we (fun _ => some x))  : Ct (gm D a E0) l yJx4a65c_add_72be8 wsJx4a65c_add_72be8 { frames := 20, cells := 1, slots := 22, locals := 500 } [.ref b, .ref x, .ref E0, .int (nI 0)] (wE b E0 mc (nI 0) we) (qV fun w => ∃ q, w = wL a b q mc (nI 1) 10 (va_up (fun _ => none) 0 (some x)) we) noX := by
  refine Ct.of [some (.ref b), some (.ref x), some (.ref E0), some (.int (nI 0))] rfl hl (by decide) (Nat.le_of_ble_eq_true rfl) rfl (fun φ C0 => ?_)
  have C := C0.1
  refine x_iload_n C 1 dJx4a65c_add_72be8_0 rfl rfl ?_
  refine x_aload_n C 2 dJx4a65c_add_72be8_1 rfl rfl ?_
  refine x_tlen0 C 3 dJx4a65c_add_72be8_2 rfl ?_
  refine x_icmp_ne C 11 6 dJx4a65c_add_72be8_3 (by decide) rfl (fun zk3 => ?_) (fun zk3 => ?_)
  · have zk3 := mt (nI_eq (a := 0) (b := 0) (by omega) (by omega)).mpr zk3
    exact absurd rfl zk3
  · have zk3 := (nI_eq (a := 0) (b := 0) (by omega) (by omega)).mp zk3
    refine x_aload_n C 7 dJx4a65c_add_72be8_6 rfl rfl ?_
    refine x_callV0_q C 10 1 22 0 3 0 (cA_grow0E hl) rfl gJx4a65c_add_72be8_Jx4a65c_grow_d5877 ⟨rfl, by decide, by decide, rfl⟩ ⟨Nat.le_of_ble_eq_true rfl, Nat.le_of_ble_eq_true rfl⟩ rfl rfl rfl rfl (Nat.le_of_ble_eq_true rfl) ⟨Nat.le_of_ble_eq_true rfl, Nat.le_of_ble_eq_true rfl⟩ dJx4a65c_add_72be8_7 rfl rfl rfl (fun r1 w1 h1 => ?_)
    obtain ⟨q, rfl, rfl⟩ := h1
    refine x_ws (show _ = wL a b q mc (nI 0) 10 (fun _ => none) we from rfl) ?_
    refine x_astore_n C 11 dJx4a65c_add_72be8_10 (by decide) rfl rfl ?_
    refine x_aload_n C 12 dJx4a65c_add_72be8_11 rfl rfl ?_
    refine x_iload_n C 13 dJx4a65c_add_72be8_12 rfl rfl ?_
    refine x_aload_n C 14 dJx4a65c_add_72be8_13 rfl rfl ?_
    refine x_astO C 15 1 6 rfl rfl (elO.mono hx fun z hz => List.mem_cons_of_mem _ (List.mem_cons_of_mem _ hz)) (vp_in_nI (by omega) (by omega)) dJx4a65c_add_72be8_14 rfl ?_
    refine x_ws (show _ = wL a b q mc (nI 0) 10 (va_up (fun _ => none) 0 (some x)) we from by rw [nI_clamp (by omega)]; rfl) ?_
    refine x_aload_n C 16 dJx4a65c_add_72be8_15 rfl rfl ?_
    refine x_iload_n C 17 dJx4a65c_add_72be8_16 rfl rfl ?_
    refine x_iconst (v := (1)) C 18 dJx4a65c_add_72be8_17 (by decide) rfl ?_
    refine x_iadd C 19 dJx4a65c_add_72be8_18 rfl ?_
    refine x_top (show _ = nI (0 + 1) from nI_add _ _) ?_
    refine x_put C 22 0 rfl fp_Jx4a65c_add_72be8_48 rfl rfl (Nat.le_of_ble_eq_true rfl) dJx4a65c_add_72be8_19 rfl ?_
    refine x_ws (show _ = wL a b q mc (nI (0 + 1)) 10 (va_up (fun _ => none) 0 (some x)) we from rfl) ?_
    exact x_vret C0 dJx4a65c_add_72be8_22 (Nat.le_of_ble_eq_true rfl) (Nat.le_of_ble_eq_true rfl) ⟨rfl, ⟨q, rfl⟩⟩
theorem fg_Jx4a65c_add_9ea2d_63 : gF RJx4a65c wsJx4a65c_add_9ea2d 63 3 0 := ⟨RJx4a65c, TJx4a65c, 3, "java/util/ArrayList", rfl, fun w h => (List.mem_cons_of_mem _ (List.mem_append_right _ h)), by decide, (List.mem_cons_of_mem _ (List.mem_append_left _ (List.mem_append_left _ (List.mem_of_getElem? (i := 0) rfl)))), Or.inr (List.mem_cons_of_mem _ (List.mem_append_left _ (List.mem_append_left _ (List.mem_of_getElem? (i := 1) rfl))))⟩
theorem fp_Jx4a65c_add_9ea2d_63 : pF RJx4a65c wsJx4a65c_add_9ea2d 63 3 0 false (.int) := ⟨RJx4a65c, TJx4a65c, 3, "java/util/ArrayList", tyJx4a65c, rfl, fun w h => (List.mem_cons_of_mem _ (List.mem_append_right _ h)), by decide, (List.mem_cons_of_mem _ (List.mem_append_left _ (List.mem_append_left _ (List.mem_of_getElem? (i := 0) rfl)))), Or.inr (List.mem_cons_of_mem _ (List.mem_append_left _ (List.mem_append_left _ (List.mem_of_getElem? (i := 1) rfl)))), tyJx4a65c_ok, nmJx4a65c, rfl, rfl, fun h => absurd h (by decide)⟩
theorem fg_Jx4a65c_add_9ea2d_9 : gF RJx4a65c wsJx4a65c_add_9ea2d 9 3 1 := ⟨RJx4a65c, TJx4a65c, 3, "java/util/ArrayList", rfl, fun w h => (List.mem_cons_of_mem _ (List.mem_append_right _ h)), by decide, (List.mem_cons_of_mem _ (List.mem_append_left _ (List.mem_append_left _ (List.mem_of_getElem? (i := 2) rfl)))), Or.inl rfl⟩
theorem fg_Jx4a65c_add_9ea2d_48 : gF RJx4a65c wsJx4a65c_add_9ea2d 48 3 2 := ⟨RJx4a65c, TJx4a65c, 3, "java/util/ArrayList", rfl, fun w h => (List.mem_cons_of_mem _ (List.mem_append_right _ h)), by decide, (List.mem_cons_of_mem _ (List.mem_append_left _ (List.mem_append_left _ (List.mem_of_getElem? (i := 3) rfl)))), Or.inl rfl⟩
set_option maxRecDepth 100000 in
set_option maxHeartbeats 4000000 in
theorem cA_addR (hl : l.stackTraces = false) {b e : Nat} {mc : Int32} {n cap : Nat} {f : Nat → Option Nat} {we : va_W} {x : Nat} (hx : elO we (fun _ => some x)) (hn : n < cap) (hc : cap < 1000)  : Ct (gm D a E0) l yJx4a65c_add_9ea2d wsJx4a65c_add_9ea2d { frames := 24, cells := 1, slots := 22, locals := 600 } [.ref b, .ref x] (wL a b e mc (nI n) cap f we) (qI fun v w => v = 1 ∧ w = wL a b e (mc + 1) (nI (n + 1)) cap (va_up f n (some x)) we) noX := by
  refine Ct.of [some (.ref b), some (.ref x)] rfl hl (by decide) (Nat.le_of_ble_eq_true rfl) rfl (fun φ C0 => ?_)
  have C := C0.1
  refine x_aload_n C 1 dJx4a65c_add_9ea2d_0 rfl rfl ?_
  refine x_dup C 2 dJx4a65c_add_9ea2d_1 rfl rfl ?_
  refine x_get C 5 0 rfl fg_Jx4a65c_add_9ea2d_63 rfl dJx4a65c_add_9ea2d_2 rfl ?_
  refine x_iconst (v := (1)) C 6 dJx4a65c_add_9ea2d_5 (by decide) rfl ?_
  refine x_iadd C 7 dJx4a65c_add_9ea2d_6 rfl ?_
  refine x_put C 10 0 rfl fp_Jx4a65c_add_9ea2d_63 rfl rfl (Nat.le_of_ble_eq_true rfl) dJx4a65c_add_9ea2d_7 rfl ?_
  refine x_ws (show _ = wL a b e (mc + (1)) (nI n) cap f we from rfl) ?_
  refine x_aload_n C 11 dJx4a65c_add_9ea2d_10 rfl rfl ?_
  refine x_aload_n C 12 dJx4a65c_add_9ea2d_11 rfl rfl ?_
  refine x_aload_n C 13 dJx4a65c_add_9ea2d_12 rfl rfl ?_
  refine x_get C 16 0 rfl fg_Jx4a65c_add_9ea2d_9 rfl dJx4a65c_add_9ea2d_13 rfl ?_
  refine x_aload_n C 17 dJx4a65c_add_9ea2d_16 rfl rfl ?_
  refine x_get C 20 0 rfl fg_Jx4a65c_add_9ea2d_48 rfl dJx4a65c_add_9ea2d_17 rfl ?_
  refine x_callV0_v C 23 0 0 0 3 3 (cA_addHR hl hx hn hc) rfl gJx4a65c_add_9ea2d_Jx4a65c_add_72be8 ⟨rfl, by decide, by decide, rfl⟩ ⟨Nat.le_of_ble_eq_true rfl, Nat.le_of_ble_eq_true rfl⟩ rfl rfl rfl rfl (Nat.le_of_ble_eq_true rfl) ⟨Nat.le_of_ble_eq_true rfl, Nat.le_of_ble_eq_true rfl⟩ dJx4a65c_add_9ea2d_20 rfl rfl rfl (fun w1 h1 => ?_)
  subst h1
  refine x_iconst (v := (1)) C 24 dJx4a65c_add_9ea2d_23 (by decide) rfl ?_
  exact x_nret C0 rfl (rfl) dJx4a65c_add_9ea2d_24 (Nat.le_of_ble_eq_true rfl) (Nat.le_of_ble_eq_true rfl) ⟨_, rfl, ⟨rfl, rfl⟩⟩
set_option maxRecDepth 100000 in
set_option maxHeartbeats 4000000 in
theorem cA_addE (hl : l.stackTraces = false) {b : Nat} {mc : Int32} {we : va_W} {x : Nat} (hx : elO we (fun _ => some x))  : Ct (gm D a E0) l yJx4a65c_add_9ea2d wsJx4a65c_add_9ea2d { frames := 24, cells := 1, slots := 22, locals := 600 } [.ref b, .ref x] (wE b E0 mc (nI 0) we) (qI fun v w => v = 1 ∧ ∃ q, w = wL a b q (mc + 1) (nI 1) 10 (va_up (fun _ => none) 0 (some x)) we) noX := by
  refine Ct.of [some (.ref b), some (.ref x)] rfl hl (by decide) (Nat.le_of_ble_eq_true rfl) rfl (fun φ C0 => ?_)
  have C := C0.1
  refine x_aload_n C 1 dJx4a65c_add_9ea2d_0 rfl rfl ?_
  refine x_dup C 2 dJx4a65c_add_9ea2d_1 rfl rfl ?_
  refine x_get C 5 0 rfl fg_Jx4a65c_add_9ea2d_63 rfl dJx4a65c_add_9ea2d_2 rfl ?_
  refine x_iconst (v := (1)) C 6 dJx4a65c_add_9ea2d_5 (by decide) rfl ?_
  refine x_iadd C 7 dJx4a65c_add_9ea2d_6 rfl ?_
  refine x_put C 10 0 rfl fp_Jx4a65c_add_9ea2d_63 rfl rfl (Nat.le_of_ble_eq_true rfl) dJx4a65c_add_9ea2d_7 rfl ?_
  refine x_ws (show _ = wE b E0 (mc + (1)) (nI 0) we from rfl) ?_
  refine x_aload_n C 11 dJx4a65c_add_9ea2d_10 rfl rfl ?_
  refine x_aload_n C 12 dJx4a65c_add_9ea2d_11 rfl rfl ?_
  refine x_aload_n C 13 dJx4a65c_add_9ea2d_12 rfl rfl ?_
  refine x_get C 16 0 rfl fg_Jx4a65c_add_9ea2d_9 rfl dJx4a65c_add_9ea2d_13 rfl ?_
  refine x_aload_n C 17 dJx4a65c_add_9ea2d_16 rfl rfl ?_
  refine x_get C 20 0 rfl fg_Jx4a65c_add_9ea2d_48 rfl dJx4a65c_add_9ea2d_17 rfl ?_
  refine x_callV0_v C 23 1 22 0 3 3 (cA_addHE hl hx) rfl gJx4a65c_add_9ea2d_Jx4a65c_add_72be8 ⟨rfl, by decide, by decide, rfl⟩ ⟨Nat.le_of_ble_eq_true rfl, Nat.le_of_ble_eq_true rfl⟩ rfl rfl rfl rfl (Nat.le_of_ble_eq_true rfl) ⟨Nat.le_of_ble_eq_true rfl, Nat.le_of_ble_eq_true rfl⟩ dJx4a65c_add_9ea2d_20 rfl rfl rfl (fun w1 h1 => ?_)
  obtain ⟨q, rfl⟩ := h1
  refine x_iconst (v := (1)) C 24 dJx4a65c_add_9ea2d_23 (by decide) rfl ?_
  exact x_nret C0 rfl (rfl) dJx4a65c_add_9ea2d_24 (Nat.le_of_ble_eq_true rfl) (Nat.le_of_ble_eq_true rfl) ⟨_, rfl, ⟨rfl, q, rfl⟩⟩
theorem fg_Jx4a65c_rangeCheckForAdd_d00df_48 : gF RJx4a65c wsJx4a65c_rangeCheckForAdd_d00df 48 3 2 := ⟨RJx4a65c, TJx4a65c, 3, "java/util/ArrayList", rfl, fun w h => (List.mem_cons_of_mem _ (List.mem_append_right _ h)), by decide, (List.mem_cons_of_mem _ (List.mem_append_left _ (List.mem_of_getElem? (i := 0) rfl))), Or.inl rfl⟩
set_option maxRecDepth 100000 in
set_option maxHeartbeats 4000000 in
theorem cA_rng (hl : l.stackTraces = false) {b e i n : Nat} {mc : Int32} {we : va_W} (hi : i ≤ n) (hn : n < 1000)  : Ct (gm D a E0) l yJx4a65c_rangeCheckForAdd_d00df wsJx4a65c_rangeCheckForAdd_d00df { frames := 4, cells := 0, slots := 0, locals := 100 } [.ref b, .int (nI i)] (wB b mc e n we) (qV fun w => w = wB b mc e n we) noX := by
  refine Ct.of [some (.ref b), some (.int (nI i))] rfl hl (by decide) (Nat.le_of_ble_eq_true rfl) rfl (fun φ C0 => ?_)
  have C := C0.1
  refine x_iload_n C 1 dJx4a65c_rangeCheckForAdd_d00df_0 rfl rfl ?_
  refine x_aload_n C 2 dJx4a65c_rangeCheckForAdd_d00df_1 rfl rfl ?_
  refine x_get C 5 0 rfl fg_Jx4a65c_rangeCheckForAdd_d00df_48 rfl dJx4a65c_rangeCheckForAdd_d00df_2 rfl ?_
  refine x_icmp_gt C 12 8 dJx4a65c_rangeCheckForAdd_d00df_5 (by decide) rfl (fun zk5 => ?_) (fun zk5 => ?_)
  · have zk5 := (nI_ltI (a := n) (b := i) (by omega) (by omega)).mp zk5
    exfalso; omega
  · have zk5 := mt (nI_ltI (a := n) (b := i) (by omega) (by omega)).mpr zk5
    refine x_iload_n C 9 dJx4a65c_rangeCheckForAdd_d00df_8 rfl rfl ?_
    refine x_if_ge C 25 12 dJx4a65c_rangeCheckForAdd_d00df_9 (by decide) rfl (fun zk9 => ?_) (fun zk9 => ?_)
    · have zk9 := (nI_leI (a := 0) (b := i) (by omega) (by omega)).mp zk9
      exact x_vret C0 dJx4a65c_rangeCheckForAdd_d00df_25 (Nat.le_of_ble_eq_true rfl) (Nat.le_of_ble_eq_true rfl) ⟨rfl, rfl⟩
    · have zk9 := mt (nI_leI (a := 0) (b := i) (by omega) (by omega)).mpr zk9
      exfalso; omega
theorem fg_Jx4a65c_add_7a177_63 : gF RJx4a65c wsJx4a65c_add_7a177 63 3 0 := ⟨RJx4a65c, TJx4a65c, 3, "java/util/ArrayList", rfl, fun w h => (List.mem_cons_of_mem _ (List.mem_append_right _ h)), by decide, (List.mem_cons_of_mem _ (List.mem_append_left _ (List.mem_append_left _ (List.mem_of_getElem? (i := 0) rfl)))), Or.inr (List.mem_cons_of_mem _ (List.mem_append_left _ (List.mem_append_left _ (List.mem_of_getElem? (i := 1) rfl))))⟩
theorem fp_Jx4a65c_add_7a177_63 : pF RJx4a65c wsJx4a65c_add_7a177 63 3 0 false (.int) := ⟨RJx4a65c, TJx4a65c, 3, "java/util/ArrayList", tyJx4a65c, rfl, fun w h => (List.mem_cons_of_mem _ (List.mem_append_right _ h)), by decide, (List.mem_cons_of_mem _ (List.mem_append_left _ (List.mem_append_left _ (List.mem_of_getElem? (i := 0) rfl)))), Or.inr (List.mem_cons_of_mem _ (List.mem_append_left _ (List.mem_append_left _ (List.mem_of_getElem? (i := 1) rfl)))), tyJx4a65c_ok, nmJx4a65c, rfl, rfl, fun h => absurd h (by decide)⟩
theorem fg_Jx4a65c_add_7a177_48 : gF RJx4a65c wsJx4a65c_add_7a177 48 3 2 := ⟨RJx4a65c, TJx4a65c, 3, "java/util/ArrayList", rfl, fun w h => (List.mem_cons_of_mem _ (List.mem_append_right _ h)), by decide, (List.mem_cons_of_mem _ (List.mem_append_left _ (List.mem_append_left _ (List.mem_of_getElem? (i := 2) rfl)))), Or.inl rfl⟩
theorem fg_Jx4a65c_add_7a177_9 : gF RJx4a65c wsJx4a65c_add_7a177 9 3 1 := ⟨RJx4a65c, TJx4a65c, 3, "java/util/ArrayList", rfl, fun w h => (List.mem_cons_of_mem _ (List.mem_append_right _ h)), by decide, (List.mem_cons_of_mem _ (List.mem_append_left _ (List.mem_append_left _ (List.mem_of_getElem? (i := 3) rfl)))), Or.inl rfl⟩
theorem fp_Jx4a65c_add_7a177_48 : pF RJx4a65c wsJx4a65c_add_7a177 48 3 2 false (.int) := ⟨RJx4a65c, TJx4a65c, 3, "java/util/ArrayList", tyJx4a65c, rfl, fun w h => (List.mem_cons_of_mem _ (List.mem_append_right _ h)), by decide, (List.mem_cons_of_mem _ (List.mem_append_left _ (List.mem_append_left _ (List.mem_of_getElem? (i := 2) rfl)))), Or.inl rfl, tyJx4a65c_ok, nmJx4a65c, rfl, rfl, fun h => absurd h (by decide)⟩
set_option maxRecDepth 100000 in
set_option maxHeartbeats 4000000 in
theorem cA_insR (hl : l.stackTraces = false) {b e : Nat} {mc : Int32} {n cap : Nat} {f : Nat → Option Nat} {we : va_W} {i : Nat} {x : Nat} (hx : elO we (fun _ => some x)) (hel : elO we f) (hi : i ≤ n) (hn : n < cap) (hc : cap < 1000)  : Ct (gm D a E0) l yJx4a65c_add_7a177 wsJx4a65c_add_7a177 { frames := 24, cells := 1, slots := 22, locals := 600 } [.ref b, .int (nI i), .ref x] (wL a b e mc (nI n) cap f we) (qV fun w => w = wL a b e (mc + 1) (nI (n + 1)) cap (va_up (va_cpy f f i (i + 1) (n - i)) i (some x)) we) noX := by
  refine Ct.of [some (.ref b), some (.int (nI i)), some (.ref x), none, none] rfl hl (by decide) (Nat.le_of_ble_eq_true rfl) rfl (fun φ C0 => ?_)
  have C := C0.1
  refine x_aload_n C 1 dJx4a65c_add_7a177_0 rfl rfl ?_
  refine x_iload_n C 2 dJx4a65c_add_7a177_1 rfl rfl ?_
  refine x_callV0_v C 5 0 0 0 3 1 (cA_rng hl hi (by omega)) rfl gJx4a65c_add_7a177_Jx4a65c_rangeCheckForAdd_d00df ⟨rfl, by decide, by decide, rfl⟩ ⟨Nat.le_of_ble_eq_true rfl, Nat.le_of_ble_eq_true rfl⟩ rfl rfl rfl rfl (Nat.le_of_ble_eq_true rfl) ⟨Nat.le_of_ble_eq_true rfl, Nat.le_of_ble_eq_true rfl⟩ dJx4a65c_add_7a177_2 rfl rfl rfl (fun w1 h1 => ?_)
  subst h1
  refine x_aload_n C 6 dJx4a65c_add_7a177_5 rfl rfl ?_
  refine x_dup C 7 dJx4a65c_add_7a177_6 rfl rfl ?_
  refine x_get C 10 0 rfl fg_Jx4a65c_add_7a177_63 rfl dJx4a65c_add_7a177_7 rfl ?_
  refine x_iconst (v := (1)) C 11 dJx4a65c_add_7a177_10 (by decide) rfl ?_
  refine x_iadd C 12 dJx4a65c_add_7a177_11 rfl ?_
  refine x_put C 15 0 rfl fp_Jx4a65c_add_7a177_63 rfl rfl (Nat.le_of_ble_eq_true rfl) dJx4a65c_add_7a177_12 rfl ?_
  refine x_ws (show _ = wL a b e (mc + (1)) (nI n) cap f we from rfl) ?_
  refine x_aload_n C 16 dJx4a65c_add_7a177_15 rfl rfl ?_
  refine x_get C 19 0 rfl fg_Jx4a65c_add_7a177_48 rfl dJx4a65c_add_7a177_16 rfl ?_
  refine x_dup C 20 dJx4a65c_add_7a177_19 rfl rfl ?_
  refine x_istore_n C 21 dJx4a65c_add_7a177_20 (by decide) rfl rfl ?_
  refine x_aload_n C 22 dJx4a65c_add_7a177_21 rfl rfl ?_
  refine x_get C 25 0 rfl fg_Jx4a65c_add_7a177_9 rfl dJx4a65c_add_7a177_22 rfl ?_
  refine x_dup C 26 dJx4a65c_add_7a177_25 rfl rfl ?_
  refine x_astore C 28 dJx4a65c_add_7a177_26 (by decide) rfl rfl ?_
  refine x_alen C 29 1 6 rfl rfl dJx4a65c_add_7a177_28 rfl ?_
  refine x_top (show _ = nI cap from rfl) ?_
  refine x_icmp_ne C 38 32 dJx4a65c_add_7a177_29 (by decide) rfl (fun zk29 => ?_) (fun zk29 => ?_)
  · have zk29 := mt (nI_eq (a := n) (b := cap) (by omega) (by omega)).mpr zk29
    refine x_aload C 40 dJx4a65c_add_7a177_38 rfl rfl ?_
    refine x_iload_n C 41 dJx4a65c_add_7a177_40 rfl rfl ?_
    refine x_aload C 43 dJx4a65c_add_7a177_41 rfl rfl ?_
    refine x_iload_n C 44 dJx4a65c_add_7a177_43 rfl rfl ?_
    refine x_iconst (v := (1)) C 45 dJx4a65c_add_7a177_44 (by decide) rfl ?_
    refine x_iadd C 46 dJx4a65c_add_7a177_45 rfl ?_
    refine x_top (show _ = nI (i + 1) from nI_add _ _) ?_
    refine x_iload_n C 47 dJx4a65c_add_7a177_46 rfl rfl ?_
    refine x_iload_n C 48 dJx4a65c_add_7a177_47 rfl rfl ?_
    refine x_isub C 49 dJx4a65c_add_7a177_48 rfl ?_
    refine x_top (show _ = nI (n - i) from pk_sub (by omega)) ?_
    refine x_cpO C 52 1 1 6 6 (List.mem_cons_of_mem _ (List.mem_append_left _ (List.mem_append_left _ (List.mem_of_getElem? (i := 4) rfl)))) (List.mem_cons_of_mem _ (List.mem_append_left _ (List.mem_append_left _ (List.mem_of_getElem? (i := 5) rfl)))) (List.mem_cons_of_mem _ (List.mem_append_left _ (List.mem_append_left _ (List.mem_of_getElem? (i := 6) rfl)))) (List.mem_cons_of_mem _ (List.mem_append_left _ (List.mem_append_left _ (List.mem_of_getElem? (i := 7) rfl)))) rfl rfl rfl rfl (nI_pos (by omega)) (nI_pos (by omega)) (nI_pos (by omega)) (by (try rw [nI_clamp (by omega)]); (try rw [nI_clamp (by omega)]); omega) (by (try rw [nI_clamp (by omega)]); (try rw [nI_clamp (by omega)]); omega) (elO.mono hel fun z hz => List.mem_cons_of_mem _ (List.mem_cons_of_mem _ hz)) (Nat.le_of_ble_eq_true rfl) (Nat.le_of_ble_eq_true rfl) dJx4a65c_add_7a177_49 rfl ?_
    refine x_ws (show _ = wL a b e (mc + (1)) (nI n) cap (va_cpy f f i (i + 1) (n - i)) we from by (try rw [nI_clamp (by omega)]); (try rw [nI_clamp (by omega)]); (try rw [nI_clamp (by omega)]); rfl) ?_
    refine x_aload C 54 dJx4a65c_add_7a177_52 rfl rfl ?_
    refine x_iload_n C 55 dJx4a65c_add_7a177_54 rfl rfl ?_
    refine x_aload_n C 56 dJx4a65c_add_7a177_55 rfl rfl ?_
    refine x_astO C 57 1 6 rfl rfl (elO.mono hx fun z hz => List.mem_cons_of_mem _ (List.mem_cons_of_mem _ hz)) (vp_in_nI (by omega) (by omega)) dJx4a65c_add_7a177_56 rfl ?_
    refine x_ws (show _ = wL a b e (mc + (1)) (nI n) cap (va_up (va_cpy f f i (i + 1) (n - i)) i (some x)) we from by rw [nI_clamp (by omega)]; rfl) ?_
    refine x_aload_n C 58 dJx4a65c_add_7a177_57 rfl rfl ?_
    refine x_iload_n C 59 dJx4a65c_add_7a177_58 rfl rfl ?_
    refine x_iconst (v := (1)) C 60 dJx4a65c_add_7a177_59 (by decide) rfl ?_
    refine x_iadd C 61 dJx4a65c_add_7a177_60 rfl ?_
    refine x_top (show _ = nI (n + 1) from nI_add _ _) ?_
    refine x_put C 64 0 rfl fp_Jx4a65c_add_7a177_48 rfl rfl (Nat.le_of_ble_eq_true rfl) dJx4a65c_add_7a177_61 rfl ?_
    refine x_ws (show _ = wL a b e (mc + (1)) (nI (n + 1)) cap (va_up (va_cpy f f i (i + 1) (n - i)) i (some x)) we from rfl) ?_
    exact x_vret C0 dJx4a65c_add_7a177_64 (Nat.le_of_ble_eq_true rfl) (Nat.le_of_ble_eq_true rfl) ⟨rfl, rfl⟩
  · have zk29 := (nI_eq (a := n) (b := cap) (by omega) (by omega)).mp zk29
    exfalso; omega
set_option maxRecDepth 100000 in
set_option maxHeartbeats 4000000 in
theorem cA_insN (hl : l.stackTraces = false) {b e : Nat} {mc : Int32} {cap : Nat} {f : Nat → Option Nat} {we : va_W} {i : Nat} {x : Nat} (hx : elO we (fun _ => some x)) (h2 : 2 ≤ cap) (hm2 : cap + cap / 2 ≤ 22) (hel : elO we f) (hi : i ≤ cap)  : Ct (gm D a E0) l yJx4a65c_add_7a177 wsJx4a65c_add_7a177 { frames := 24, cells := 1, slots := 22, locals := 600 } [.ref b, .int (nI i), .ref x] (wL a b e mc (nI cap) cap f we) (qV fun w => ∃ q, w = wL a b q (mc + 1) (nI (cap + 1)) (cap + cap / 2) (va_up (va_cpy (va_cpy f (fun _ => none) 0 0 cap) (va_cpy f (fun _ => none) 0 0 cap) i (i + 1) (cap - i)) i (some x)) we) noX := by
  refine Ct.of [some (.ref b), some (.int (nI i)), some (.ref x), none, none] rfl hl (by decide) (Nat.le_of_ble_eq_true rfl) rfl (fun φ C0 => ?_)
  have C := C0.1
  refine x_aload_n C 1 dJx4a65c_add_7a177_0 rfl rfl ?_
  refine x_iload_n C 2 dJx4a65c_add_7a177_1 rfl rfl ?_
  refine x_callV0_v C 5 0 0 0 3 1 (cA_rng hl hi (by omega)) rfl gJx4a65c_add_7a177_Jx4a65c_rangeCheckForAdd_d00df ⟨rfl, by decide, by decide, rfl⟩ ⟨Nat.le_of_ble_eq_true rfl, Nat.le_of_ble_eq_true rfl⟩ rfl rfl rfl rfl (Nat.le_of_ble_eq_true rfl) ⟨Nat.le_of_ble_eq_true rfl, Nat.le_of_ble_eq_true rfl⟩ dJx4a65c_add_7a177_2 rfl rfl rfl (fun w1 h1 => ?_)
  subst h1
  refine x_aload_n C 6 dJx4a65c_add_7a177_5 rfl rfl ?_
  refine x_dup C 7 dJx4a65c_add_7a177_6 rfl rfl ?_
  refine x_get C 10 0 rfl fg_Jx4a65c_add_7a177_63 rfl dJx4a65c_add_7a177_7 rfl ?_
  refine x_iconst (v := (1)) C 11 dJx4a65c_add_7a177_10 (by decide) rfl ?_
  refine x_iadd C 12 dJx4a65c_add_7a177_11 rfl ?_
  refine x_put C 15 0 rfl fp_Jx4a65c_add_7a177_63 rfl rfl (Nat.le_of_ble_eq_true rfl) dJx4a65c_add_7a177_12 rfl ?_
  refine x_ws (show _ = wL a b e (mc + (1)) (nI cap) cap f we from rfl) ?_
  refine x_aload_n C 16 dJx4a65c_add_7a177_15 rfl rfl ?_
  refine x_get C 19 0 rfl fg_Jx4a65c_add_7a177_48 rfl dJx4a65c_add_7a177_16 rfl ?_
  refine x_dup C 20 dJx4a65c_add_7a177_19 rfl rfl ?_
  refine x_istore_n C 21 dJx4a65c_add_7a177_20 (by decide) rfl rfl ?_
  refine x_aload_n C 22 dJx4a65c_add_7a177_21 rfl rfl ?_
  refine x_get C 25 0 rfl fg_Jx4a65c_add_7a177_9 rfl dJx4a65c_add_7a177_22 rfl ?_
  refine x_dup C 26 dJx4a65c_add_7a177_25 rfl rfl ?_
  refine x_astore C 28 dJx4a65c_add_7a177_26 (by decide) rfl rfl ?_
  refine x_alen C 29 1 6 rfl rfl dJx4a65c_add_7a177_28 rfl ?_
  refine x_top (show _ = nI cap from rfl) ?_
  refine x_icmp_ne C 38 32 dJx4a65c_add_7a177_29 (by decide) rfl (fun zk29 => ?_) (fun zk29 => ?_)
  · have zk29 := mt (nI_eq (a := cap) (b := cap) (by omega) (by omega)).mpr zk29
    exact absurd rfl zk29
  · have zk29 := (nI_eq (a := cap) (b := cap) (by omega) (by omega)).mp zk29
    refine x_aload_n C 33 dJx4a65c_add_7a177_32 rfl rfl ?_
    refine x_callV0_q C 36 1 22 0 3 0 (cA_grow0N hl h2 hm2 hel) rfl gJx4a65c_add_7a177_Jx4a65c_grow_d5877 ⟨rfl, by decide, by decide, rfl⟩ ⟨Nat.le_of_ble_eq_true rfl, Nat.le_of_ble_eq_true rfl⟩ rfl rfl rfl rfl (Nat.le_of_ble_eq_true rfl) ⟨Nat.le_of_ble_eq_true rfl, Nat.le_of_ble_eq_true rfl⟩ dJx4a65c_add_7a177_33 rfl rfl rfl (fun r2 w2 h2 => ?_)
    obtain ⟨q, rfl, rfl⟩ := h2
    refine x_ws (show _ = wL a b q (mc + (1)) (nI cap) (cap + cap / 2) (va_cpy f (fun _ => none) 0 0 cap) we from rfl) ?_
    refine x_astore C 38 dJx4a65c_add_7a177_36 (by decide) rfl rfl ?_
    refine x_aload C 40 dJx4a65c_add_7a177_38 rfl rfl ?_
    refine x_iload_n C 41 dJx4a65c_add_7a177_40 rfl rfl ?_
    refine x_aload C 43 dJx4a65c_add_7a177_41 rfl rfl ?_
    refine x_iload_n C 44 dJx4a65c_add_7a177_43 rfl rfl ?_
    refine x_iconst (v := (1)) C 45 dJx4a65c_add_7a177_44 (by decide) rfl ?_
    refine x_iadd C 46 dJx4a65c_add_7a177_45 rfl ?_
    refine x_top (show _ = nI (i + 1) from nI_add _ _) ?_
    refine x_iload_n C 47 dJx4a65c_add_7a177_46 rfl rfl ?_
    refine x_iload_n C 48 dJx4a65c_add_7a177_47 rfl rfl ?_
    refine x_isub C 49 dJx4a65c_add_7a177_48 rfl ?_
    refine x_top (show _ = nI (cap - i) from pk_sub (by omega)) ?_
    have hel := elO.cpy (n := cap) hel
    refine x_cpO C 52 1 1 6 6 (List.mem_cons_of_mem _ (List.mem_append_left _ (List.mem_append_left _ (List.mem_of_getElem? (i := 4) rfl)))) (List.mem_cons_of_mem _ (List.mem_append_left _ (List.mem_append_left _ (List.mem_of_getElem? (i := 5) rfl)))) (List.mem_cons_of_mem _ (List.mem_append_left _ (List.mem_append_left _ (List.mem_of_getElem? (i := 6) rfl)))) (List.mem_cons_of_mem _ (List.mem_append_left _ (List.mem_append_left _ (List.mem_of_getElem? (i := 7) rfl)))) rfl rfl rfl rfl (nI_pos (by omega)) (nI_pos (by omega)) (nI_pos (by omega)) (by (try rw [nI_clamp (by omega)]); (try rw [nI_clamp (by omega)]); omega) (by (try rw [nI_clamp (by omega)]); (try rw [nI_clamp (by omega)]); omega) (elO.mono hel fun z hz => List.mem_cons_of_mem _ (List.mem_cons_of_mem _ hz)) (Nat.le_of_ble_eq_true rfl) (Nat.le_of_ble_eq_true rfl) dJx4a65c_add_7a177_49 rfl ?_
    refine x_ws (show _ = wL a b q (mc + (1)) (nI cap) (cap + cap / 2) (va_cpy (va_cpy f (fun _ => none) 0 0 cap) (va_cpy f (fun _ => none) 0 0 cap) i (i + 1) (cap - i)) we from by (try rw [nI_clamp (by omega)]); (try rw [nI_clamp (by omega)]); (try rw [nI_clamp (by omega)]); rfl) ?_
    refine x_aload C 54 dJx4a65c_add_7a177_52 rfl rfl ?_
    refine x_iload_n C 55 dJx4a65c_add_7a177_54 rfl rfl ?_
    refine x_aload_n C 56 dJx4a65c_add_7a177_55 rfl rfl ?_
    refine x_astO C 57 1 6 rfl rfl (elO.mono hx fun z hz => List.mem_cons_of_mem _ (List.mem_cons_of_mem _ hz)) (vp_in_nI (by omega) (by omega)) dJx4a65c_add_7a177_56 rfl ?_
    refine x_ws (show _ = wL a b q (mc + (1)) (nI cap) (cap + cap / 2) (va_up (va_cpy (va_cpy f (fun _ => none) 0 0 cap) (va_cpy f (fun _ => none) 0 0 cap) i (i + 1) (cap - i)) i (some x)) we from by rw [nI_clamp (by omega)]; rfl) ?_
    refine x_aload_n C 58 dJx4a65c_add_7a177_57 rfl rfl ?_
    refine x_iload_n C 59 dJx4a65c_add_7a177_58 rfl rfl ?_
    refine x_iconst (v := (1)) C 60 dJx4a65c_add_7a177_59 (by decide) rfl ?_
    refine x_iadd C 61 dJx4a65c_add_7a177_60 rfl ?_
    refine x_top (show _ = nI (cap + 1) from nI_add _ _) ?_
    refine x_put C 64 0 rfl fp_Jx4a65c_add_7a177_48 rfl rfl (Nat.le_of_ble_eq_true rfl) dJx4a65c_add_7a177_61 rfl ?_
    refine x_ws (show _ = wL a b q (mc + (1)) (nI (cap + 1)) (cap + cap / 2) (va_up (va_cpy (va_cpy f (fun _ => none) 0 0 cap) (va_cpy f (fun _ => none) 0 0 cap) i (i + 1) (cap - i)) i (some x)) we from rfl) ?_
    exact x_vret C0 dJx4a65c_add_7a177_64 (Nat.le_of_ble_eq_true rfl) (Nat.le_of_ble_eq_true rfl) ⟨rfl, ⟨q, rfl⟩⟩
set_option maxRecDepth 100000 in
set_option maxHeartbeats 4000000 in
theorem cA_insE (hl : l.stackTraces = false) {b : Nat} {mc : Int32} {we : va_W} {x : Nat} (hx : elO we (fun _ => some x))  : Ct (gm D a E0) l yJx4a65c_add_7a177 wsJx4a65c_add_7a177 { frames := 24, cells := 1, slots := 22, locals := 600 } [.ref b, .int (nI 0), .ref x] (wE b E0 mc (nI 0) we) (qV fun w => ∃ q, w = wL a b q (mc + 1) (nI 1) 10 (va_up (va_cpy (fun _ => none) (fun _ => none) 0 (0 + 1) (0 - 0)) 0 (some x)) we) noX := by
  refine Ct.of [some (.ref b), some (.int (nI 0)), some (.ref x), none, none] rfl hl (by decide) (Nat.le_of_ble_eq_true rfl) rfl (fun φ C0 => ?_)
  have C := C0.1
  refine x_aload_n C 1 dJx4a65c_add_7a177_0 rfl rfl ?_
  refine x_iload_n C 2 dJx4a65c_add_7a177_1 rfl rfl ?_
  refine x_callV0_v C 5 0 0 0 3 1 (cA_rng hl (Nat.le_refl 0) (by omega)) rfl gJx4a65c_add_7a177_Jx4a65c_rangeCheckForAdd_d00df ⟨rfl, by decide, by decide, rfl⟩ ⟨Nat.le_of_ble_eq_true rfl, Nat.le_of_ble_eq_true rfl⟩ rfl rfl rfl rfl (Nat.le_of_ble_eq_true rfl) ⟨Nat.le_of_ble_eq_true rfl, Nat.le_of_ble_eq_true rfl⟩ dJx4a65c_add_7a177_2 rfl rfl rfl (fun w1 h1 => ?_)
  subst h1
  refine x_aload_n C 6 dJx4a65c_add_7a177_5 rfl rfl ?_
  refine x_dup C 7 dJx4a65c_add_7a177_6 rfl rfl ?_
  refine x_get C 10 0 rfl fg_Jx4a65c_add_7a177_63 rfl dJx4a65c_add_7a177_7 rfl ?_
  refine x_iconst (v := (1)) C 11 dJx4a65c_add_7a177_10 (by decide) rfl ?_
  refine x_iadd C 12 dJx4a65c_add_7a177_11 rfl ?_
  refine x_put C 15 0 rfl fp_Jx4a65c_add_7a177_63 rfl rfl (Nat.le_of_ble_eq_true rfl) dJx4a65c_add_7a177_12 rfl ?_
  refine x_ws (show _ = wE b E0 (mc + (1)) (nI 0) we from rfl) ?_
  refine x_aload_n C 16 dJx4a65c_add_7a177_15 rfl rfl ?_
  refine x_get C 19 0 rfl fg_Jx4a65c_add_7a177_48 rfl dJx4a65c_add_7a177_16 rfl ?_
  refine x_dup C 20 dJx4a65c_add_7a177_19 rfl rfl ?_
  refine x_istore_n C 21 dJx4a65c_add_7a177_20 (by decide) rfl rfl ?_
  refine x_aload_n C 22 dJx4a65c_add_7a177_21 rfl rfl ?_
  refine x_get C 25 0 rfl fg_Jx4a65c_add_7a177_9 rfl dJx4a65c_add_7a177_22 rfl ?_
  refine x_dup C 26 dJx4a65c_add_7a177_25 rfl rfl ?_
  refine x_astore C 28 dJx4a65c_add_7a177_26 (by decide) rfl rfl ?_
  refine x_tlen0 C 29 dJx4a65c_add_7a177_28 rfl ?_
  refine x_icmp_ne C 38 32 dJx4a65c_add_7a177_29 (by decide) rfl (fun zk29 => ?_) (fun zk29 => ?_)
  · have zk29 := mt (nI_eq (a := 0) (b := 0) (by omega) (by omega)).mpr zk29
    exact absurd rfl zk29
  · have zk29 := (nI_eq (a := 0) (b := 0) (by omega) (by omega)).mp zk29
    refine x_aload_n C 33 dJx4a65c_add_7a177_32 rfl rfl ?_
    refine x_callV0_q C 36 1 22 0 3 0 (cA_grow0E hl) rfl gJx4a65c_add_7a177_Jx4a65c_grow_d5877 ⟨rfl, by decide, by decide, rfl⟩ ⟨Nat.le_of_ble_eq_true rfl, Nat.le_of_ble_eq_true rfl⟩ rfl rfl rfl rfl (Nat.le_of_ble_eq_true rfl) ⟨Nat.le_of_ble_eq_true rfl, Nat.le_of_ble_eq_true rfl⟩ dJx4a65c_add_7a177_33 rfl rfl rfl (fun r2 w2 h2 => ?_)
    obtain ⟨q, rfl, rfl⟩ := h2
    refine x_ws (show _ = wL a b q (mc + (1)) (nI 0) 10 (fun _ => none) we from rfl) ?_
    refine x_astore C 38 dJx4a65c_add_7a177_36 (by decide) rfl rfl ?_
    refine x_aload C 40 dJx4a65c_add_7a177_38 rfl rfl ?_
    refine x_iload_n C 41 dJx4a65c_add_7a177_40 rfl rfl ?_
    refine x_aload C 43 dJx4a65c_add_7a177_41 rfl rfl ?_
    refine x_iload_n C 44 dJx4a65c_add_7a177_43 rfl rfl ?_
    refine x_iconst (v := (1)) C 45 dJx4a65c_add_7a177_44 (by decide) rfl ?_
    refine x_iadd C 46 dJx4a65c_add_7a177_45 rfl ?_
    refine x_top (show _ = nI (0 + 1) from nI_add _ _) ?_
    refine x_iload_n C 47 dJx4a65c_add_7a177_46 rfl rfl ?_
    refine x_iload_n C 48 dJx4a65c_add_7a177_47 rfl rfl ?_
    refine x_isub C 49 dJx4a65c_add_7a177_48 rfl ?_
    refine x_top (show _ = nI (0 - 0) from pk_sub (by omega)) ?_
    have hel : elO we (fun _ => none) := fun _ _ h => by cases h
    refine x_cpO C 52 1 1 6 6 (List.mem_cons_of_mem _ (List.mem_append_left _ (List.mem_append_left _ (List.mem_of_getElem? (i := 4) rfl)))) (List.mem_cons_of_mem _ (List.mem_append_left _ (List.mem_append_left _ (List.mem_of_getElem? (i := 5) rfl)))) (List.mem_cons_of_mem _ (List.mem_append_left _ (List.mem_append_left _ (List.mem_of_getElem? (i := 6) rfl)))) (List.mem_cons_of_mem _ (List.mem_append_left _ (List.mem_append_left _ (List.mem_of_getElem? (i := 7) rfl)))) rfl rfl rfl rfl (nI_pos (by omega)) (nI_pos (by omega)) (nI_pos (by omega)) (by (try rw [nI_clamp (by omega)]); (try rw [nI_clamp (by omega)]); omega) (by (try rw [nI_clamp (by omega)]); (try rw [nI_clamp (by omega)]); omega) (elO.mono hel fun z hz => List.mem_cons_of_mem _ (List.mem_cons_of_mem _ hz)) (Nat.le_of_ble_eq_true rfl) (Nat.le_of_ble_eq_true rfl) dJx4a65c_add_7a177_49 rfl ?_
    refine x_ws (show _ = wL a b q (mc + (1)) (nI 0) 10 (va_cpy (fun _ => none) (fun _ => none) 0 (0 + 1) (0 - 0)) we from by (try rw [nI_clamp (by omega)]); (try rw [nI_clamp (by omega)]); (try rw [nI_clamp (by omega)]); rfl) ?_
    refine x_aload C 54 dJx4a65c_add_7a177_52 rfl rfl ?_
    refine x_iload_n C 55 dJx4a65c_add_7a177_54 rfl rfl ?_
    refine x_aload_n C 56 dJx4a65c_add_7a177_55 rfl rfl ?_
    refine x_astO C 57 1 6 rfl rfl (elO.mono hx fun z hz => List.mem_cons_of_mem _ (List.mem_cons_of_mem _ hz)) (vp_in_nI (by omega) (by omega)) dJx4a65c_add_7a177_56 rfl ?_
    refine x_ws (show _ = wL a b q (mc + (1)) (nI 0) 10 (va_up (va_cpy (fun _ => none) (fun _ => none) 0 (0 + 1) (0 - 0)) 0 (some x)) we from by rw [nI_clamp (by omega)]; rfl) ?_
    refine x_aload_n C 58 dJx4a65c_add_7a177_57 rfl rfl ?_
    refine x_iload_n C 59 dJx4a65c_add_7a177_58 rfl rfl ?_
    refine x_iconst (v := (1)) C 60 dJx4a65c_add_7a177_59 (by decide) rfl ?_
    refine x_iadd C 61 dJx4a65c_add_7a177_60 rfl ?_
    refine x_top (show _ = nI (0 + 1) from nI_add _ _) ?_
    refine x_put C 64 0 rfl fp_Jx4a65c_add_7a177_48 rfl rfl (Nat.le_of_ble_eq_true rfl) dJx4a65c_add_7a177_61 rfl ?_
    refine x_ws (show _ = wL a b q (mc + (1)) (nI (0 + 1)) 10 (va_up (va_cpy (fun _ => none) (fun _ => none) 0 (0 + 1) (0 - 0)) 0 (some x)) we from rfl) ?_
    exact x_vret C0 dJx4a65c_add_7a177_64 (Nat.le_of_ble_eq_true rfl) (Nat.le_of_ble_eq_true rfl) ⟨rfl, ⟨q, rfl⟩⟩
theorem fg_Jx4a65c_fastRemove_b59b0_63 : gF RJx4a65c wsJx4a65c_fastRemove_b59b0 63 3 0 := ⟨RJx4a65c, TJx4a65c, 3, "java/util/ArrayList", rfl, fun w h => (List.mem_cons_of_mem _ (List.mem_append_right _ h)), by decide, (List.mem_cons_of_mem _ (List.mem_append_left _ (List.mem_of_getElem? (i := 0) rfl))), Or.inr (List.mem_cons_of_mem _ (List.mem_append_left _ (List.mem_of_getElem? (i := 1) rfl)))⟩
theorem fp_Jx4a65c_fastRemove_b59b0_63 : pF RJx4a65c wsJx4a65c_fastRemove_b59b0 63 3 0 false (.int) := ⟨RJx4a65c, TJx4a65c, 3, "java/util/ArrayList", tyJx4a65c, rfl, fun w h => (List.mem_cons_of_mem _ (List.mem_append_right _ h)), by decide, (List.mem_cons_of_mem _ (List.mem_append_left _ (List.mem_of_getElem? (i := 0) rfl))), Or.inr (List.mem_cons_of_mem _ (List.mem_append_left _ (List.mem_of_getElem? (i := 1) rfl))), tyJx4a65c_ok, nmJx4a65c, rfl, rfl, fun h => absurd h (by decide)⟩
theorem fg_Jx4a65c_fastRemove_b59b0_48 : gF RJx4a65c wsJx4a65c_fastRemove_b59b0 48 3 2 := ⟨RJx4a65c, TJx4a65c, 3, "java/util/ArrayList", rfl, fun w h => (List.mem_cons_of_mem _ (List.mem_append_right _ h)), by decide, (List.mem_cons_of_mem _ (List.mem_append_left _ (List.mem_of_getElem? (i := 2) rfl))), Or.inl rfl⟩
theorem fp_Jx4a65c_fastRemove_b59b0_48 : pF RJx4a65c wsJx4a65c_fastRemove_b59b0 48 3 2 false (.int) := ⟨RJx4a65c, TJx4a65c, 3, "java/util/ArrayList", tyJx4a65c, rfl, fun w h => (List.mem_cons_of_mem _ (List.mem_append_right _ h)), by decide, (List.mem_cons_of_mem _ (List.mem_append_left _ (List.mem_of_getElem? (i := 2) rfl))), Or.inl rfl, tyJx4a65c_ok, nmJx4a65c, rfl, rfl, fun h => absurd h (by decide)⟩
set_option maxRecDepth 100000 in
set_option maxHeartbeats 4000000 in
theorem cA_frM (hl : l.stackTraces = false) {b e : Nat} {mc : Int32} {n cap : Nat} {f : Nat → Option Nat} {we : va_W} {i : Nat} (hel : elO we f) (hi : i < n) (hn : n ≤ cap) (hc : cap < 1000) (hl2 : i < n - 1)  : Ct (gm D a E0) l yJx4a65c_fastRemove_b59b0 wsJx4a65c_fastRemove_b59b0 { frames := 4, cells := 0, slots := 0, locals := 100 } [.ref b, .ref e, .int (nI i)] (wL a b e mc (nI n) cap f we) (qV fun w => w = wL a b e (mc + 1) (nI (n - 1)) cap (va_up (va_cpy f f (i + 1) i (n - 1 - i)) (n - 1) none) we) noX := by
  refine Ct.of [some (.ref b), some (.ref e), some (.int (nI i)), none] rfl hl (by decide) (Nat.le_of_ble_eq_true rfl) rfl (fun φ C0 => ?_)
  have C := C0.1
  refine x_aload_n C 1 dJx4a65c_fastRemove_b59b0_0 rfl rfl ?_
  refine x_dup C 2 dJx4a65c_fastRemove_b59b0_1 rfl rfl ?_
  refine x_get C 5 0 rfl fg_Jx4a65c_fastRemove_b59b0_63 rfl dJx4a65c_fastRemove_b59b0_2 rfl ?_
  refine x_iconst (v := (1)) C 6 dJx4a65c_fastRemove_b59b0_5 (by decide) rfl ?_
  refine x_iadd C 7 dJx4a65c_fastRemove_b59b0_6 rfl ?_
  refine x_put C 10 0 rfl fp_Jx4a65c_fastRemove_b59b0_63 rfl rfl (Nat.le_of_ble_eq_true rfl) dJx4a65c_fastRemove_b59b0_7 rfl ?_
  refine x_ws (show _ = wL a b e (mc + (1)) (nI n) cap f we from rfl) ?_
  refine x_aload_n C 11 dJx4a65c_fastRemove_b59b0_10 rfl rfl ?_
  refine x_get C 14 0 rfl fg_Jx4a65c_fastRemove_b59b0_48 rfl dJx4a65c_fastRemove_b59b0_11 rfl ?_
  refine x_iconst (v := (1)) C 15 dJx4a65c_fastRemove_b59b0_14 (by decide) rfl ?_
  refine x_isub C 16 dJx4a65c_fastRemove_b59b0_15 rfl ?_
  refine x_top (show _ = nI (n - 1) from pk_sub (b := 1) (by omega)) ?_
  refine x_dup C 17 dJx4a65c_fastRemove_b59b0_16 rfl rfl ?_
  refine x_istore_n C 18 dJx4a65c_fastRemove_b59b0_17 (by decide) rfl rfl ?_
  refine x_iload_n C 19 dJx4a65c_fastRemove_b59b0_18 rfl rfl ?_
  refine x_icmp_le C 34 22 dJx4a65c_fastRemove_b59b0_19 (by decide) rfl (fun zk19 => ?_) (fun zk19 => ?_)
  · have zk19 := (nI_leI (a := (n - 1)) (b := i) (by omega) (by omega)).mp zk19
    exfalso; omega
  · have zk19 := mt (nI_leI (a := (n - 1)) (b := i) (by omega) (by omega)).mpr zk19
    refine x_aload_n C 23 dJx4a65c_fastRemove_b59b0_22 rfl rfl ?_
    refine x_iload_n C 24 dJx4a65c_fastRemove_b59b0_23 rfl rfl ?_
    refine x_iconst (v := (1)) C 25 dJx4a65c_fastRemove_b59b0_24 (by decide) rfl ?_
    refine x_iadd C 26 dJx4a65c_fastRemove_b59b0_25 rfl ?_
    refine x_top (show _ = nI (i + 1) from nI_add _ _) ?_
    refine x_aload_n C 27 dJx4a65c_fastRemove_b59b0_26 rfl rfl ?_
    refine x_iload_n C 28 dJx4a65c_fastRemove_b59b0_27 rfl rfl ?_
    refine x_iload_n C 29 dJx4a65c_fastRemove_b59b0_28 rfl rfl ?_
    refine x_iload_n C 30 dJx4a65c_fastRemove_b59b0_29 rfl rfl ?_
    refine x_isub C 31 dJx4a65c_fastRemove_b59b0_30 rfl ?_
    refine x_top (show _ = nI ((n - 1) - i) from pk_sub (by omega)) ?_
    refine x_cpO C 34 1 1 6 6 (List.mem_cons_of_mem _ (List.mem_append_left _ (List.mem_of_getElem? (i := 3) rfl))) (List.mem_cons_of_mem _ (List.mem_append_left _ (List.mem_of_getElem? (i := 4) rfl))) (List.mem_cons_of_mem _ (List.mem_append_left _ (List.mem_of_getElem? (i := 5) rfl))) (List.mem_cons_of_mem _ (List.mem_append_left _ (List.mem_of_getElem? (i := 6) rfl))) rfl rfl rfl rfl (nI_pos (by omega)) (nI_pos (by omega)) (nI_pos (by omega)) (by (try rw [nI_clamp (by omega)]); (try rw [nI_clamp (by omega)]); omega) (by (try rw [nI_clamp (by omega)]); (try rw [nI_clamp (by omega)]); omega) (elO.mono hel fun z hz => List.mem_cons_of_mem _ (List.mem_cons_of_mem _ hz)) (Nat.le_of_ble_eq_true rfl) (Nat.le_of_ble_eq_true rfl) dJx4a65c_fastRemove_b59b0_31 rfl ?_
    refine x_ws (show _ = wL a b e (mc + (1)) (nI n) cap (va_cpy f f (i + 1) i ((n - 1) - i)) we from by (try rw [nI_clamp (by omega)]); (try rw [nI_clamp (by omega)]); (try rw [nI_clamp (by omega)]); rfl) ?_
    refine x_aload_n C 35 dJx4a65c_fastRemove_b59b0_34 rfl rfl ?_
    refine x_aload_n C 36 dJx4a65c_fastRemove_b59b0_35 rfl rfl ?_
    refine x_iload_n C 37 dJx4a65c_fastRemove_b59b0_36 rfl rfl ?_
    refine x_dup_x1 C 38 dJx4a65c_fastRemove_b59b0_37 rfl rfl rfl ?_
    refine x_put C 41 0 rfl fp_Jx4a65c_fastRemove_b59b0_48 rfl rfl (Nat.le_of_ble_eq_true rfl) dJx4a65c_fastRemove_b59b0_38 rfl ?_
    refine x_ws (show _ = wL a b e (mc + (1)) (nI (n - 1)) cap (va_cpy f f (i + 1) i ((n - 1) - i)) we from rfl) ?_
    refine x_null C 42 dJx4a65c_fastRemove_b59b0_41 rfl ?_
    refine x_ast0 C 43 1 6 rfl rfl (vp_in_nI (by omega) (by omega)) dJx4a65c_fastRemove_b59b0_42 rfl ?_
    refine x_ws (show _ = wL a b e (mc + (1)) (nI (n - 1)) cap (va_up (va_cpy f f (i + 1) i ((n - 1) - i)) (n - 1) none) we from by rw [nI_clamp (by omega)]; rfl) ?_
    exact x_vret C0 dJx4a65c_fastRemove_b59b0_43 (Nat.le_of_ble_eq_true rfl) (Nat.le_of_ble_eq_true rfl) ⟨rfl, rfl⟩
set_option maxRecDepth 100000 in
set_option maxHeartbeats 4000000 in
theorem cA_frL (hl : l.stackTraces = false) {b e : Nat} {mc : Int32} {n cap : Nat} {f : Nat → Option Nat} {we : va_W} {i : Nat} (hel : elO we f) (hi : i < n) (hn : n ≤ cap) (hc : cap < 1000) (hl2 : ¬ i < n - 1)  : Ct (gm D a E0) l yJx4a65c_fastRemove_b59b0 wsJx4a65c_fastRemove_b59b0 { frames := 4, cells := 0, slots := 0, locals := 100 } [.ref b, .ref e, .int (nI i)] (wL a b e mc (nI n) cap f we) (qV fun w => w = wL a b e (mc + 1) (nI (n - 1)) cap (va_up f (n - 1) none) we) noX := by
  refine Ct.of [some (.ref b), some (.ref e), some (.int (nI i)), none] rfl hl (by decide) (Nat.le_of_ble_eq_true rfl) rfl (fun φ C0 => ?_)
  have C := C0.1
  refine x_aload_n C 1 dJx4a65c_fastRemove_b59b0_0 rfl rfl ?_
  refine x_dup C 2 dJx4a65c_fastRemove_b59b0_1 rfl rfl ?_
  refine x_get C 5 0 rfl fg_Jx4a65c_fastRemove_b59b0_63 rfl dJx4a65c_fastRemove_b59b0_2 rfl ?_
  refine x_iconst (v := (1)) C 6 dJx4a65c_fastRemove_b59b0_5 (by decide) rfl ?_
  refine x_iadd C 7 dJx4a65c_fastRemove_b59b0_6 rfl ?_
  refine x_put C 10 0 rfl fp_Jx4a65c_fastRemove_b59b0_63 rfl rfl (Nat.le_of_ble_eq_true rfl) dJx4a65c_fastRemove_b59b0_7 rfl ?_
  refine x_ws (show _ = wL a b e (mc + (1)) (nI n) cap f we from rfl) ?_
  refine x_aload_n C 11 dJx4a65c_fastRemove_b59b0_10 rfl rfl ?_
  refine x_get C 14 0 rfl fg_Jx4a65c_fastRemove_b59b0_48 rfl dJx4a65c_fastRemove_b59b0_11 rfl ?_
  refine x_iconst (v := (1)) C 15 dJx4a65c_fastRemove_b59b0_14 (by decide) rfl ?_
  refine x_isub C 16 dJx4a65c_fastRemove_b59b0_15 rfl ?_
  refine x_top (show _ = nI (n - 1) from pk_sub (b := 1) (by omega)) ?_
  refine x_dup C 17 dJx4a65c_fastRemove_b59b0_16 rfl rfl ?_
  refine x_istore_n C 18 dJx4a65c_fastRemove_b59b0_17 (by decide) rfl rfl ?_
  refine x_iload_n C 19 dJx4a65c_fastRemove_b59b0_18 rfl rfl ?_
  refine x_icmp_le C 34 22 dJx4a65c_fastRemove_b59b0_19 (by decide) rfl (fun zk19 => ?_) (fun zk19 => ?_)
  · have zk19 := (nI_leI (a := (n - 1)) (b := i) (by omega) (by omega)).mp zk19
    refine x_aload_n C 35 dJx4a65c_fastRemove_b59b0_34 rfl rfl ?_
    refine x_aload_n C 36 dJx4a65c_fastRemove_b59b0_35 rfl rfl ?_
    refine x_iload_n C 37 dJx4a65c_fastRemove_b59b0_36 rfl rfl ?_
    refine x_dup_x1 C 38 dJx4a65c_fastRemove_b59b0_37 rfl rfl rfl ?_
    refine x_put C 41 0 rfl fp_Jx4a65c_fastRemove_b59b0_48 rfl rfl (Nat.le_of_ble_eq_true rfl) dJx4a65c_fastRemove_b59b0_38 rfl ?_
    refine x_ws (show _ = wL a b e (mc + (1)) (nI (n - 1)) cap f we from rfl) ?_
    refine x_null C 42 dJx4a65c_fastRemove_b59b0_41 rfl ?_
    refine x_ast0 C 43 1 6 rfl rfl (vp_in_nI (by omega) (by omega)) dJx4a65c_fastRemove_b59b0_42 rfl ?_
    refine x_ws (show _ = wL a b e (mc + (1)) (nI (n - 1)) cap (va_up f (n - 1) none) we from by rw [nI_clamp (by omega)]; rfl) ?_
    exact x_vret C0 dJx4a65c_fastRemove_b59b0_43 (Nat.le_of_ble_eq_true rfl) (Nat.le_of_ble_eq_true rfl) ⟨rfl, rfl⟩
  · have zk19 := mt (nI_leI (a := (n - 1)) (b := i) (by omega) (by omega)).mpr zk19
    exfalso; omega
theorem fg_Jx4a65c_remove_915e3_48 : gF RJx4a65c wsJx4a65c_remove_915e3 48 3 2 := ⟨RJx4a65c, TJx4a65c, 3, "java/util/ArrayList", rfl, fun w h => (List.mem_cons_of_mem _ (List.mem_append_right _ h)), by decide, (List.mem_cons_of_mem _ (List.mem_append_left _ (List.mem_of_getElem? (i := 0) rfl))), Or.inl rfl⟩
theorem fg_Jx4a65c_remove_915e3_9 : gF RJx4a65c wsJx4a65c_remove_915e3 9 3 1 := ⟨RJx4a65c, TJx4a65c, 3, "java/util/ArrayList", rfl, fun w h => (List.mem_cons_of_mem _ (List.mem_append_right _ h)), by decide, (List.mem_cons_of_mem _ (List.mem_append_left _ (List.mem_of_getElem? (i := 1) rfl))), Or.inl rfl⟩
set_option maxRecDepth 100000 in
set_option maxHeartbeats 4000000 in
theorem cA_rmM (hl : l.stackTraces = false) {b e : Nat} {mc : Int32} {n cap : Nat} {f : Nat → Option Nat} {we : va_W} {i y : Nat} (hel : elO we f) (hi : i < n) (hn : n ≤ cap) (hc : cap < 1000) (hfi : f i = some y) (hl2 : i < n - 1)  : Ct (gm D a E0) l yJx4a65c_remove_915e3 wsJx4a65c_remove_915e3 { frames := 12, cells := 0, slots := 0, locals := 300 } [.ref b, .int (nI i)] (wL a b e mc (nI n) cap f we) (qQ fun v w => v = some y ∧ w = wL a b e (mc + 1) (nI (n - 1)) cap (va_up (va_cpy f f (i + 1) i (n - 1 - i)) (n - 1) none) we) noX := by
  refine Ct.of [some (.ref b), some (.int (nI i)), none, none] rfl hl (by decide) (Nat.le_of_ble_eq_true rfl) rfl (fun φ C0 => ?_)
  have C := C0.1
  refine x_iload_n C 1 dJx4a65c_remove_915e3_0 rfl rfl ?_
  refine x_aload_n C 2 dJx4a65c_remove_915e3_1 rfl rfl ?_
  refine x_get C 5 0 rfl fg_Jx4a65c_remove_915e3_48 rfl dJx4a65c_remove_915e3_2 rfl ?_
  refine x_callS0_i C 8 0 0 2 (cJ_chk hl hi (by omega)) rfl gJx4a65c_remove_915e3_J15_checkIndex_7cf53 ⟨by decide, by decide, rfl⟩ ⟨Nat.le_of_ble_eq_true rfl, Nat.le_of_ble_eq_true rfl⟩ rfl rfl (Nat.le_of_ble_eq_true rfl) ⟨Nat.le_of_ble_eq_true rfl, Nat.le_of_ble_eq_true rfl⟩ dJx4a65c_remove_915e3_5 rfl rfl rfl (fun r1 w1 h1 => ?_)
  obtain ⟨rfl, rfl⟩ := h1
  refine x_pop C 9 dJx4a65c_remove_915e3_8 rfl rfl ?_
  refine x_aload_n C 10 dJx4a65c_remove_915e3_9 rfl rfl ?_
  refine x_get C 13 0 rfl fg_Jx4a65c_remove_915e3_9 rfl dJx4a65c_remove_915e3_10 rfl ?_
  refine x_astore_n C 14 dJx4a65c_remove_915e3_13 (by decide) rfl rfl ?_
  refine x_aload_n C 15 dJx4a65c_remove_915e3_14 rfl rfl ?_
  refine x_iload_n C 16 dJx4a65c_remove_915e3_15 rfl rfl ?_
  refine x_aldq C 17 1 6 rfl rfl (vp_in_nI (by omega) (by omega)) dJx4a65c_remove_915e3_16 rfl ?_
  refine x_topq (show _ = Value.ref y from by rw [nI_clamp (by omega), hfi]; rfl) ?_
  refine x_astore_n C 18 dJx4a65c_remove_915e3_17 (by decide) rfl rfl ?_
  refine x_aload_n C 19 dJx4a65c_remove_915e3_18 rfl rfl ?_
  refine x_aload_n C 20 dJx4a65c_remove_915e3_19 rfl rfl ?_
  refine x_iload_n C 21 dJx4a65c_remove_915e3_20 rfl rfl ?_
  refine x_callV0_v C 24 0 0 0 3 2 (cA_frM hl hel hi hn hc hl2) rfl gJx4a65c_remove_915e3_Jx4a65c_fastRemove_b59b0 ⟨rfl, by decide, by decide, rfl⟩ ⟨Nat.le_of_ble_eq_true rfl, Nat.le_of_ble_eq_true rfl⟩ rfl rfl rfl rfl (Nat.le_of_ble_eq_true rfl) ⟨Nat.le_of_ble_eq_true rfl, Nat.le_of_ble_eq_true rfl⟩ dJx4a65c_remove_915e3_21 rfl rfl rfl (fun w2 h2 => ?_)
  subst h2
  refine x_aload_n C 25 dJx4a65c_remove_915e3_24 rfl rfl ?_
  exact x_aret (r := some y) C0 rfl (Or.inl ⟨_, rfl⟩) dJx4a65c_remove_915e3_25 (Nat.le_of_ble_eq_true rfl) (Nat.le_of_ble_eq_true rfl) ⟨_, rfl, ⟨rfl, rfl⟩⟩
set_option maxRecDepth 100000 in
set_option maxHeartbeats 4000000 in
theorem cA_rmL (hl : l.stackTraces = false) {b e : Nat} {mc : Int32} {n cap : Nat} {f : Nat → Option Nat} {we : va_W} {i y : Nat} (hel : elO we f) (hi : i < n) (hn : n ≤ cap) (hc : cap < 1000) (hfi : f i = some y) (hl2 : ¬ i < n - 1)  : Ct (gm D a E0) l yJx4a65c_remove_915e3 wsJx4a65c_remove_915e3 { frames := 12, cells := 0, slots := 0, locals := 300 } [.ref b, .int (nI i)] (wL a b e mc (nI n) cap f we) (qQ fun v w => v = some y ∧ w = wL a b e (mc + 1) (nI (n - 1)) cap (va_up f (n - 1) none) we) noX := by
  refine Ct.of [some (.ref b), some (.int (nI i)), none, none] rfl hl (by decide) (Nat.le_of_ble_eq_true rfl) rfl (fun φ C0 => ?_)
  have C := C0.1
  refine x_iload_n C 1 dJx4a65c_remove_915e3_0 rfl rfl ?_
  refine x_aload_n C 2 dJx4a65c_remove_915e3_1 rfl rfl ?_
  refine x_get C 5 0 rfl fg_Jx4a65c_remove_915e3_48 rfl dJx4a65c_remove_915e3_2 rfl ?_
  refine x_callS0_i C 8 0 0 2 (cJ_chk hl hi (by omega)) rfl gJx4a65c_remove_915e3_J15_checkIndex_7cf53 ⟨by decide, by decide, rfl⟩ ⟨Nat.le_of_ble_eq_true rfl, Nat.le_of_ble_eq_true rfl⟩ rfl rfl (Nat.le_of_ble_eq_true rfl) ⟨Nat.le_of_ble_eq_true rfl, Nat.le_of_ble_eq_true rfl⟩ dJx4a65c_remove_915e3_5 rfl rfl rfl (fun r1 w1 h1 => ?_)
  obtain ⟨rfl, rfl⟩ := h1
  refine x_pop C 9 dJx4a65c_remove_915e3_8 rfl rfl ?_
  refine x_aload_n C 10 dJx4a65c_remove_915e3_9 rfl rfl ?_
  refine x_get C 13 0 rfl fg_Jx4a65c_remove_915e3_9 rfl dJx4a65c_remove_915e3_10 rfl ?_
  refine x_astore_n C 14 dJx4a65c_remove_915e3_13 (by decide) rfl rfl ?_
  refine x_aload_n C 15 dJx4a65c_remove_915e3_14 rfl rfl ?_
  refine x_iload_n C 16 dJx4a65c_remove_915e3_15 rfl rfl ?_
  refine x_aldq C 17 1 6 rfl rfl (vp_in_nI (by omega) (by omega)) dJx4a65c_remove_915e3_16 rfl ?_
  refine x_topq (show _ = Value.ref y from by rw [nI_clamp (by omega), hfi]; rfl) ?_
  refine x_astore_n C 18 dJx4a65c_remove_915e3_17 (by decide) rfl rfl ?_
  refine x_aload_n C 19 dJx4a65c_remove_915e3_18 rfl rfl ?_
  refine x_aload_n C 20 dJx4a65c_remove_915e3_19 rfl rfl ?_
  refine x_iload_n C 21 dJx4a65c_remove_915e3_20 rfl rfl ?_
  refine x_callV0_v C 24 0 0 0 3 2 (cA_frL hl hel hi hn hc hl2) rfl gJx4a65c_remove_915e3_Jx4a65c_fastRemove_b59b0 ⟨rfl, by decide, by decide, rfl⟩ ⟨Nat.le_of_ble_eq_true rfl, Nat.le_of_ble_eq_true rfl⟩ rfl rfl rfl rfl (Nat.le_of_ble_eq_true rfl) ⟨Nat.le_of_ble_eq_true rfl, Nat.le_of_ble_eq_true rfl⟩ dJx4a65c_remove_915e3_21 rfl rfl rfl (fun w2 h2 => ?_)
  subst h2
  refine x_aload_n C 25 dJx4a65c_remove_915e3_24 rfl rfl ?_
  exact x_aret (r := some y) C0 rfl (Or.inl ⟨_, rfl⟩) dJx4a65c_remove_915e3_25 (Nat.le_of_ble_eq_true rfl) (Nat.le_of_ble_eq_true rfl) ⟨_, rfl, ⟨rfl, rfl⟩⟩
theorem fg_Jx4a65c_clear_da8c8_63 : gF RJx4a65c wsJx4a65c_clear_da8c8 63 3 0 := ⟨RJx4a65c, TJx4a65c, 3, "java/util/ArrayList", rfl, fun w h => (List.mem_cons_of_mem _ (List.mem_append_right _ h)), by decide, (List.mem_cons_of_mem _ (List.mem_append_left _ (List.mem_of_getElem? (i := 0) rfl))), Or.inr (List.mem_cons_of_mem _ (List.mem_append_left _ (List.mem_of_getElem? (i := 1) rfl)))⟩
theorem fp_Jx4a65c_clear_da8c8_63 : pF RJx4a65c wsJx4a65c_clear_da8c8 63 3 0 false (.int) := ⟨RJx4a65c, TJx4a65c, 3, "java/util/ArrayList", tyJx4a65c, rfl, fun w h => (List.mem_cons_of_mem _ (List.mem_append_right _ h)), by decide, (List.mem_cons_of_mem _ (List.mem_append_left _ (List.mem_of_getElem? (i := 0) rfl))), Or.inr (List.mem_cons_of_mem _ (List.mem_append_left _ (List.mem_of_getElem? (i := 1) rfl))), tyJx4a65c_ok, nmJx4a65c, rfl, rfl, fun h => absurd h (by decide)⟩
theorem fg_Jx4a65c_clear_da8c8_9 : gF RJx4a65c wsJx4a65c_clear_da8c8 9 3 1 := ⟨RJx4a65c, TJx4a65c, 3, "java/util/ArrayList", rfl, fun w h => (List.mem_cons_of_mem _ (List.mem_append_right _ h)), by decide, (List.mem_cons_of_mem _ (List.mem_append_left _ (List.mem_of_getElem? (i := 2) rfl))), Or.inl rfl⟩
theorem fg_Jx4a65c_clear_da8c8_48 : gF RJx4a65c wsJx4a65c_clear_da8c8 48 3 2 := ⟨RJx4a65c, TJx4a65c, 3, "java/util/ArrayList", rfl, fun w h => (List.mem_cons_of_mem _ (List.mem_append_right _ h)), by decide, (List.mem_cons_of_mem _ (List.mem_append_left _ (List.mem_of_getElem? (i := 3) rfl))), Or.inl rfl⟩
theorem fp_Jx4a65c_clear_da8c8_48 : pF RJx4a65c wsJx4a65c_clear_da8c8 48 3 2 false (.int) := ⟨RJx4a65c, TJx4a65c, 3, "java/util/ArrayList", tyJx4a65c, rfl, fun w h => (List.mem_cons_of_mem _ (List.mem_append_right _ h)), by decide, (List.mem_cons_of_mem _ (List.mem_append_left _ (List.mem_of_getElem? (i := 3) rfl))), Or.inl rfl, tyJx4a65c_ok, nmJx4a65c, rfl, rfl, fun h => absurd h (by decide)⟩
set_option maxRecDepth 100000 in
set_option maxHeartbeats 4000000 in
theorem cA_clear (hl : l.stackTraces = false) {b e : Nat} {mc : Int32} {n cap : Nat} {f : Nat → Option Nat} {we : va_W} (hn : n ≤ cap) (hc : cap < 1000) (hf : ∀ i, n ≤ i → f i = none)  : Ct (gm D a E0) l yJx4a65c_clear_da8c8 wsJx4a65c_clear_da8c8 { frames := 4, cells := 0, slots := 0, locals := 100 } [.ref b] (wL a b e mc (nI n) cap f we) (qV fun w => w = wL a b e (mc + 1) (nI 0) cap (fun _ => none) we) noX := by
  refine Ct.of [some (.ref b), none, none, none] rfl hl (by decide) (Nat.le_of_ble_eq_true rfl) rfl (fun φ C0 => ?_)
  have C := C0.1
  refine x_aload_n C 1 dJx4a65c_clear_da8c8_0 rfl rfl ?_
  refine x_dup C 2 dJx4a65c_clear_da8c8_1 rfl rfl ?_
  refine x_get C 5 0 rfl fg_Jx4a65c_clear_da8c8_63 rfl dJx4a65c_clear_da8c8_2 rfl ?_
  refine x_iconst (v := (1)) C 6 dJx4a65c_clear_da8c8_5 (by decide) rfl ?_
  refine x_iadd C 7 dJx4a65c_clear_da8c8_6 rfl ?_
  refine x_put C 10 0 rfl fp_Jx4a65c_clear_da8c8_63 rfl rfl (Nat.le_of_ble_eq_true rfl) dJx4a65c_clear_da8c8_7 rfl ?_
  refine x_ws (show _ = wL a b e (mc + (1)) (nI n) cap f we from rfl) ?_
  refine x_aload_n C 11 dJx4a65c_clear_da8c8_10 rfl rfl ?_
  refine x_get C 14 0 rfl fg_Jx4a65c_clear_da8c8_9 rfl dJx4a65c_clear_da8c8_11 rfl ?_
  refine x_astore_n C 15 dJx4a65c_clear_da8c8_14 (by decide) rfl rfl ?_
  refine x_aload_n C 16 dJx4a65c_clear_da8c8_15 rfl rfl ?_
  refine x_get C 19 0 rfl fg_Jx4a65c_clear_da8c8_48 rfl dJx4a65c_clear_da8c8_16 rfl ?_
  refine x_istore_n C 20 dJx4a65c_clear_da8c8_19 (by decide) rfl rfl ?_
  refine x_aload_n C 21 dJx4a65c_clear_da8c8_20 rfl rfl ?_
  refine x_iconst (v := (0)) C 22 dJx4a65c_clear_da8c8_21 (by decide) rfl ?_
  refine x_dup_x1 C 23 dJx4a65c_clear_da8c8_22 rfl rfl rfl ?_
  refine x_put C 26 0 rfl fp_Jx4a65c_clear_da8c8_48 rfl rfl (Nat.le_of_ble_eq_true rfl) dJx4a65c_clear_da8c8_23 rfl ?_
  refine x_ws (show _ = wL a b e (mc + (1)) (0) cap f we from rfl) ?_
  refine x_istore_n C 27 dJx4a65c_clear_da8c8_26 (by decide) rfl rfl ?_
  have lp27 : ∀ (k i : Nat) (g : Nat → Option Nat), i + k = n → (∀ i, n ≤ i → g i = none) → (∀ j, j < i → g j = none) → X φ 27 [some (.ref b), some (.ref e), some (.int (nI n)), some (.int (nI i))] [] (wL a b e (mc + 1) (nI 0) cap g we) 0 0 := by
    intro k
    induction k with
    | zero =>
      intro i g hi hg hg2
      refine x_iload_n C 28 dJx4a65c_clear_da8c8_27 rfl rfl ?_
      refine x_iload_n C 29 dJx4a65c_clear_da8c8_28 rfl rfl ?_
      refine x_icmp_ge C 42 32 dJx4a65c_clear_da8c8_29 (by decide) rfl (fun zk29 => ?_) (fun zk29 => ?_)
      · have zk29 := (nI_leI (a := n) (b := i) (by omega) (by omega)).mp zk29
        exact x_vret C0 dJx4a65c_clear_da8c8_42 (Nat.le_of_ble_eq_true rfl) (Nat.le_of_ble_eq_true rfl) ⟨rfl, by rw [show g = fun _ => none from funext fun z => (Nat.lt_or_ge z n).elim (fun h => hg2 z (by omega)) (hg z)]⟩
      · have zk29 := mt (nI_leI (a := n) (b := i) (by omega) (by omega)).mpr zk29
        exfalso; omega
    | succ k ih =>
      intro i g hi hg hg2
      refine x_iload_n C 28 dJx4a65c_clear_da8c8_27 rfl rfl ?_
      refine x_iload_n C 29 dJx4a65c_clear_da8c8_28 rfl rfl ?_
      refine x_icmp_ge C 42 32 dJx4a65c_clear_da8c8_29 (by decide) rfl (fun zk29 => ?_) (fun zk29 => ?_)
      · have zk29 := (nI_leI (a := n) (b := i) (by omega) (by omega)).mp zk29
        exfalso; omega
      · have zk29 := mt (nI_leI (a := n) (b := i) (by omega) (by omega)).mpr zk29
        refine x_aload_n C 33 dJx4a65c_clear_da8c8_32 rfl rfl ?_
        refine x_iload_n C 34 dJx4a65c_clear_da8c8_33 rfl rfl ?_
        refine x_null C 35 dJx4a65c_clear_da8c8_34 rfl ?_
        refine x_ast0 C 36 1 6 rfl rfl (vp_in_nI (by omega) (by omega)) dJx4a65c_clear_da8c8_35 rfl ?_
        refine x_ws (show _ = wL a b e (mc + (1)) (0) cap (va_up g i none) we from by rw [nI_clamp (by omega)]; rfl) ?_
        refine x_iinc (v := nI (i + 1)) C 39 rfl dJx4a65c_clear_da8c8_36 (iinc1 _) (by decide) rfl rfl ?_
        refine x_goto C 27 dJx4a65c_clear_da8c8_39 (by decide) ?_
        refine ih (i + 1) _ (by omega) (fun z hz => (va_up_ne _ _ (by omega)).trans (hg z hz)) (fun z hz => ?_)
        by_cases hzi : z = i
        · subst hzi
          exact va_up_self _ _ _
        · exact (va_up_ne _ _ hzi).trans (hg2 z (by omega))
  exact lp27 n 0 _ (by omega) hf (fun _ h => absurd h (Nat.not_lt_zero _))
set_option maxRecDepth 100000 in
set_option maxHeartbeats 4000000 in
theorem cA_clearE (hl : l.stackTraces = false) {b : Nat} {mc : Int32} {we : va_W}  : Ct (gm D a E0) l yJx4a65c_clear_da8c8 wsJx4a65c_clear_da8c8 { frames := 4, cells := 0, slots := 0, locals := 100 } [.ref b] (wE b E0 mc (nI 0) we) (qV fun w => w = wE b E0 (mc + 1) (nI 0) we) noX := by
  refine Ct.of [some (.ref b), none, none, none] rfl hl (by decide) (Nat.le_of_ble_eq_true rfl) rfl (fun φ C0 => ?_)
  have C := C0.1
  refine x_aload_n C 1 dJx4a65c_clear_da8c8_0 rfl rfl ?_
  refine x_dup C 2 dJx4a65c_clear_da8c8_1 rfl rfl ?_
  refine x_get C 5 0 rfl fg_Jx4a65c_clear_da8c8_63 rfl dJx4a65c_clear_da8c8_2 rfl ?_
  refine x_iconst (v := (1)) C 6 dJx4a65c_clear_da8c8_5 (by decide) rfl ?_
  refine x_iadd C 7 dJx4a65c_clear_da8c8_6 rfl ?_
  refine x_put C 10 0 rfl fp_Jx4a65c_clear_da8c8_63 rfl rfl (Nat.le_of_ble_eq_true rfl) dJx4a65c_clear_da8c8_7 rfl ?_
  refine x_ws (show _ = wE b E0 (mc + (1)) (nI 0) we from rfl) ?_
  refine x_aload_n C 11 dJx4a65c_clear_da8c8_10 rfl rfl ?_
  refine x_get C 14 0 rfl fg_Jx4a65c_clear_da8c8_9 rfl dJx4a65c_clear_da8c8_11 rfl ?_
  refine x_astore_n C 15 dJx4a65c_clear_da8c8_14 (by decide) rfl rfl ?_
  refine x_aload_n C 16 dJx4a65c_clear_da8c8_15 rfl rfl ?_
  refine x_get C 19 0 rfl fg_Jx4a65c_clear_da8c8_48 rfl dJx4a65c_clear_da8c8_16 rfl ?_
  refine x_istore_n C 20 dJx4a65c_clear_da8c8_19 (by decide) rfl rfl ?_
  refine x_aload_n C 21 dJx4a65c_clear_da8c8_20 rfl rfl ?_
  refine x_iconst (v := (0)) C 22 dJx4a65c_clear_da8c8_21 (by decide) rfl ?_
  refine x_dup_x1 C 23 dJx4a65c_clear_da8c8_22 rfl rfl rfl ?_
  refine x_put C 26 0 rfl fp_Jx4a65c_clear_da8c8_48 rfl rfl (Nat.le_of_ble_eq_true rfl) dJx4a65c_clear_da8c8_23 rfl ?_
  refine x_ws (show _ = wE b E0 (mc + (1)) (0) we from rfl) ?_
  refine x_istore_n C 27 dJx4a65c_clear_da8c8_26 (by decide) rfl rfl ?_
  refine x_iload_n C 28 dJx4a65c_clear_da8c8_27 rfl rfl ?_
  refine x_iload_n C 29 dJx4a65c_clear_da8c8_28 rfl rfl ?_
  refine x_icmp_ge C 42 32 dJx4a65c_clear_da8c8_29 (by decide) rfl (fun zk29 => ?_) (fun zk29 => ?_)
  · have zk29 := (nI_leI (a := 0) (b := 0) (by omega) (by omega)).mp zk29
    exact x_vret C0 dJx4a65c_clear_da8c8_42 (Nat.le_of_ble_eq_true rfl) (Nat.le_of_ble_eq_true rfl) ⟨rfl, rfl⟩
  · have zk29 := mt (nI_leI (a := 0) (b := 0) (by omega) (by omega)).mpr zk29
    exact absurd (Nat.le_refl 0) zk29
set_option maxRecDepth 100000 in
set_option maxHeartbeats 4000000 in
theorem cJ_aci (hl : l.stackTraces = false) {ws : va_W} {b : Nat}  : Ct Γ l yJxa1e45_init_da8c8 wsJxa1e45_init_da8c8 { frames := 8, cells := 0, slots := 0, locals := 200 } [.ref b] (ws) (qV fun w => w = ws) noX := by
  refine Ct.of [some (.ref b)] rfl hl (by decide) (Nat.le_of_ble_eq_true rfl) rfl (fun φ C0 => ?_)
  have C := C0.1
  refine x_aload_n C 1 dJxa1e45_init_da8c8_0 rfl rfl ?_
  refine x_objI C0.1 4 (List.mem_cons_of_mem _ (List.mem_of_getElem? (i := 0) rfl)) (List.mem_cons_of_mem _ (List.mem_of_getElem? (i := 1) rfl)) (List.mem_cons_of_mem _ (List.mem_of_getElem? (i := 2) rfl)) (Nat.le_of_ble_eq_true rfl) (Nat.le_of_ble_eq_true rfl) dJxa1e45_init_da8c8_1 rfl ?_
  exact x_vret C0 dJxa1e45_init_da8c8_4 (Nat.le_of_ble_eq_true rfl) (Nat.le_of_ble_eq_true rfl) ⟨rfl, rfl⟩
theorem fp_Jxc12de_init_da8c8_7 : pF RJxc12de wsJxc12de_init_da8c8 7 3 0 false (.int) := ⟨RJx4a65c, TJx4a65c, 3, "java/util/AbstractList", tyJx4a65c, rfl, fun w h => (List.mem_cons_of_mem _ (List.mem_append_right _ h)), by decide, (List.mem_cons_of_mem _ (List.mem_append_left _ (List.mem_of_getElem? (i := 0) rfl))), Or.inl rfl, tyJx4a65c_ok, nmJx4a65c, rfl, rfl, fun h => absurd h (by decide)⟩
set_option maxRecDepth 100000 in
set_option maxHeartbeats 4000000 in
theorem cJ_ali (hl : l.stackTraces = false) {b : Nat}  : Ct (gm D a E0) l yJxc12de_init_da8c8 wsJxc12de_init_da8c8 { frames := 12, cells := 0, slots := 0, locals := 300 } [.ref b] ([(b, .inr (3, [.int 0, .null, .int 0]))]) (qV fun w => w = [(b, .inr (3, [.int 0, .null, .int 0]))]) noX := by
  refine Ct.of [some (.ref b)] rfl hl (by decide) (Nat.le_of_ble_eq_true rfl) rfl (fun φ C0 => ?_)
  have C := C0.1
  refine x_aload_n C 1 dJxc12de_init_da8c8_0 rfl rfl ?_
  refine x_callI0 C 4 0 0 0 (cJ_aci hl) rfl gJxc12de_init_da8c8_Jxa1e45_init_da8c8 (List.mem_cons_of_mem _ (List.mem_append_left _ (List.mem_of_getElem? (i := 3) rfl))) (List.mem_cons_of_mem _ (List.mem_append_left _ (List.mem_of_getElem? (i := 1) rfl))) (List.mem_cons_of_mem _ (List.mem_append_left _ (List.mem_of_getElem? (i := 2) rfl))) rfl ⟨by decide, by decide, rfl⟩ ⟨Nat.le_of_ble_eq_true rfl, Nat.le_of_ble_eq_true rfl⟩ rfl rfl (Nat.le_of_ble_eq_true rfl) ⟨Nat.le_of_ble_eq_true rfl, Nat.le_of_ble_eq_true rfl⟩ dJxc12de_init_da8c8_1 rfl rfl rfl (fun w h => ?_)
  subst h
  refine x_aload_n C 5 dJxc12de_init_da8c8_4 rfl rfl ?_
  refine x_iconst (v := (0)) C 6 dJxc12de_init_da8c8_5 (by decide) rfl ?_
  refine x_put C 9 0 rfl fp_Jxc12de_init_da8c8_7 rfl rfl (Nat.le_of_ble_eq_true rfl) dJxc12de_init_da8c8_6 rfl ?_
  exact x_vret C0 dJxc12de_init_da8c8_9 (Nat.le_of_ble_eq_true rfl) (Nat.le_of_ble_eq_true rfl) ⟨rfl, rfl⟩
theorem fp_Jx4a65c_init_da8c8_9 : pF RJx4a65c wsJx4a65c_init_da8c8 9 3 1 false (.array (.object "java/lang/Object")) := ⟨RJx4a65c, TJx4a65c, 3, "java/util/ArrayList", tyJx4a65c, rfl, fun w h => (List.mem_cons_of_mem _ (List.mem_append_right _ h)), by decide, (List.mem_cons_of_mem _ (List.mem_append_left _ (List.mem_of_getElem? (i := 1) rfl))), Or.inl rfl, tyJx4a65c_ok, nmJx4a65c, rfl, rfl, fun h => absurd h (by decide)⟩
set_option maxRecDepth 100000 in
set_option maxHeartbeats 4000000 in
theorem cA_init (hl : l.stackTraces = false) {b : Nat}  : Ct (gm D a E0) l yJx4a65c_init_da8c8 wsJx4a65c_init_da8c8 { frames := 16, cells := 0, slots := 0, locals := 400 } [.ref b] ([(b, .inr (3, [.int 0, .null, .int 0]))]) (qV fun w => w = [(b, .inr (3, [.int 0, .ref E0, .int 0]))]) noX := by
  refine Ct.of [some (.ref b)] rfl hl (by decide) (Nat.le_of_ble_eq_true rfl) rfl (fun φ C0 => ?_)
  have C := C0.1
  refine x_aload_n C 1 dJx4a65c_init_da8c8_0 rfl rfl ?_
  refine x_callI0 C 4 0 0 0 (cJ_ali hl) rfl gJx4a65c_init_da8c8_Jxc12de_init_da8c8 (List.mem_cons_of_mem _ (List.mem_append_left _ (List.mem_of_getElem? (i := 4) rfl))) (List.mem_cons_of_mem _ (List.mem_append_left _ (List.mem_of_getElem? (i := 2) rfl))) (List.mem_cons_of_mem _ (List.mem_append_left _ (List.mem_of_getElem? (i := 3) rfl))) rfl ⟨by decide, by decide, rfl⟩ ⟨Nat.le_of_ble_eq_true rfl, Nat.le_of_ble_eq_true rfl⟩ rfl rfl (Nat.le_of_ble_eq_true rfl) ⟨Nat.le_of_ble_eq_true rfl, Nat.le_of_ble_eq_true rfl⟩ dJx4a65c_init_da8c8_1 rfl rfl rfl (fun w h => ?_)
  subst h
  refine x_aload_n C 5 dJx4a65c_init_da8c8_4 rfl rfl ?_
  refine x_gets0 C 8 (List.mem_cons_of_mem _ (List.mem_append_left _ (List.mem_of_getElem? (i := 0) rfl))) dJx4a65c_init_da8c8_5 rfl ?_
  refine x_put C 11 0 rfl fp_Jx4a65c_init_da8c8_9 rfl rfl (Nat.le_of_ble_eq_true rfl) dJx4a65c_init_da8c8_8 rfl ?_
  exact x_vret C0 dJx4a65c_init_da8c8_11 (Nat.le_of_ble_eq_true rfl) (Nat.le_of_ble_eq_true rfl) ⟨rfl, rfl⟩
end AL
