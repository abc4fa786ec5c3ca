/-! the macro's steps; by wip/whole/genC6.py -/
def okF (b : Bool) (f : Int32) : Int32 := if b = true then 110 else f
def flL (b : Bool) (x : Int32) : Int32 := if b = true then okF (lvB x) 97 else 105
def flC (n : Nat → Nat) (S : Nat → Nat → Nat → Int32) (k : Nat) : Int32 :=
  if S 10 k 0 = 103 then okF (decide (poC S (n 0) (S 0 0 0 + 1) < n 0)) 101
  else if S 10 k 0 = 98 then okF (decide (0 < poC S (n 0) (S 0 0 0))) 101
  else if S 10 k 0 = 116 then okF (hqC S (n 0) (S 10 k 1)) 101
  else if S 10 k 0 = 102 then flL (upB (n 1) (S 10 k 1)) (S 10 k 2)
  else if S 10 k 0 = 109 then okF (lvB (S 10 k 1)) 97
  else if S 10 k 0 = 112 then flL (chB (S 10 k 1)) (S 10 k 2)
  else okF (tkB (S 10 k 1)) 97
def dsC (n g : Nat → Nat) (S : Nat → Nat → Nat → Int32) (en : Int64) (k : Nat) : (Nat → Nat → Nat → Int32) × Int64 :=
  if S 10 k 0 = 103 then (ppS (poC S (n 0) (S 0 0 0 + 1)) S, en)
  else if S 10 k 0 = 98 then (ppS (poC S (n 0) (S 0 0 0) - 1) S, en)
  else if S 10 k 0 = 116 then (ppS (poC S (n 0) (S 10 k 1)) S, en)
  else if S 10 k 0 = 102 then (mfS (gtK (S 10 k 1)) (S 10 k 2) S, en)
  else if S 10 k 0 = 109 then (uS S 0 0 2 (S 10 k 1), en)
  else if S 10 k 0 = 112 then (uS S 4 (gtK (S 10 k 1)) 8 (S 10 k 2), en)
  else tcL g (n 1) (n 2) (gtK (S 10 k 1)) S en
def rmC (n g : Nat → Nat) : Nat → Nat → (Nat → Nat → Nat → Int32) → Int64 → Nat × (Nat → Nat → Nat → Int32) × Int64
  | 0, i, S, en => (i, S, en)
  | m + 1, i, S, en => if flC n S i = 110 then rmC n g m (i + 1) (dsC n g (uS S 0 0 3 (flC n S i)) en i).1 (dsC n g (uS S 0 0 3 (flC n S i)) en i).2 else (i, uS S 0 0 3 (flC n S i), en)
theorem okF_t {b : Bool} {f : Int32} (hf : ¬ f = 110) (h : okF b f = 110) : b = true := by
  unfold okF at h
  split at h
  · assumption
  · exact absurd h hf
theorem flL_t {b : Bool} {x : Int32} (h : flL b x = 110) : b = true ∧ lvB x = true := by
  unfold flL at h
  split at h
  · exact ⟨by assumption, okF_t (by decide) h⟩
  · exact absurd h (by decide)
theorem okF_c (b : Bool) {f : Int32} (hf : f = 101 ∨ f = 97) : okF b f = 110 ∨ okF b f = 101 ∨ okF b f = 97 ∨ okF b f = 105 := by
  unfold okF
  split
  · exact Or.inl rfl
  · rcases hf with h | h
    · exact Or.inr (Or.inl h)
    · exact Or.inr (Or.inr (Or.inl h))
theorem flL_c (b : Bool) (x : Int32) : flL b x = 110 ∨ flL b x = 101 ∨ flL b x = 97 ∨ flL b x = 105 := by
  unfold flL
  split
  · exact okF_c _ (Or.inr rfl)
  · exact Or.inr (Or.inr (Or.inr rfl))
theorem flC_c (n : Nat → Nat) (S : Nat → Nat → Nat → Int32) (k : Nat) : flC n S k = 110 ∨ flC n S k = 101 ∨ flC n S k = 97 ∨ flC n S k = 105 := by
  unfold flC
  split
  · exact okF_c _ (Or.inl rfl)
  split
  · exact okF_c _ (Or.inl rfl)
  split
  · exact okF_c _ (Or.inl rfl)
  split
  · exact flL_c _ _
  split
  · exact okF_c _ (Or.inr rfl)
  split
  · exact flL_c _ _
  · exact okF_c _ (Or.inr rfl)
theorem chK_fl {f : Int32} (h : f = 110 ∨ f = 101 ∨ f = 97 ∨ f = 105) : chK f := by
  rcases h with h | h | h | h <;> rw [h]
  · exact chK_nI (q := 110) (by decide)
  · exact chK_nI (q := 101) (by decide)
  · exact chK_nI (q := 97) (by decide)
  · exact chK_nI (q := 105) (by decide)
theorem flC_u (n : Nat → Nat) (S : Nat → Nat → Nat → Int32) (k : Nat) (x : Int32) : flC n (uS S 0 0 3 x) k = flC n S k := by
  have e5 : uS S 0 0 3 x 5 = S 5 := uS_row S 0 3 x (by decide)
  have e10 : uS S 0 0 3 x 10 = S 10 := uS_row S 0 3 x (by decide)
  have e0 : uS S 0 0 3 x 0 0 0 = S 0 0 0 := by simp [uS, upd]
  have en : nuC (uS S 0 0 3 x) = nuC S := by
    funext k2
    show uS S 0 0 3 x 5 k2 0 = S 5 k2 0
    rw [e5]
  simp only [flC, poC, hqC, en, e5, e10, e0]
theorem ca_last {x : Int32} (h : caB x = true) (h1 : ¬ x = 103) (h2 : ¬ x = 98) (h3 : ¬ x = 116) (h4 : ¬ x = 102) (h5 : ¬ x = 109) (h6 : ¬ x = 112) : x = 119 := by
  simp only [caB, Bool.or_eq_true, decide_eq_true_eq] at h
  rcases h with (((((q | q) | q) | q) | q) | q) | q
  · exact absurd q h1
  · exact absurd q h2
  · exact absurd q h3
  · exact absurd q h4
  · exact absurd q h5
  · exact absurd q h6
  · exact q
section CC
variable {l : Launch} {Γ : Gm} {D : va_G} {a : Nat → ClassId} {E0 : Nat} {n cap : Nat → Nat} {A : Nat → Nat → Nat} {g : Nat → Nat} {en : Int64} {S : Nat → Nat → Nat → Int32}
set_option maxRecDepth 100000 in
set_option maxHeartbeats 4000000 in
theorem cC_faultOfLevel (hl : l.stackTraces = false) {ws : va_W} {b : Bool} {x : Int32} : Ct Γ l yX5_faultOfLevel wsX5_faultOfLevel { frames := 12, cells := 0, slots := 0, locals := 300 } [.int (bI b), .int x] (ws) (qI fun v w => v = flL b x ∧ w = ws) noX := by
  refine Ct.of [some (.int (bI b)), some (.int x)] rfl hl (by decide) (Nat.le_of_ble_eq_true rfl) rfl (fun φ C0 => ?_)
  have C := C0.1
  refine x_iload_n C 1 dX5_faultOfLevel_0 rfl rfl ?_
  refine x_if_ne C 7 4 dX5_faultOfLevel_1 (by decide) rfl (fun zk1 => ?_) (fun zk1 => ?_)
  · have zk1 := bI_ne0.mp zk1
    refine x_iload_n C 8 dX5_faultOfLevel_7 rfl rfl ?_
    refine x_callS0_i C 11 0 0 1 (cC_isLevel hl) rfl gX5_faultOfLevel_X5_isLevel ⟨by decide, by decide, rfl⟩ ⟨Nat.le_of_ble_eq_true rfl, Nat.le_of_ble_eq_true rfl⟩ rfl rfl (Nat.le_of_ble_eq_true rfl) ⟨Nat.le_of_ble_eq_true rfl, Nat.le_of_ble_eq_true rfl⟩ dX5_faultOfLevel_8 rfl rfl rfl (fun r1 w1 h1 => ?_)
    obtain ⟨rfl, rfl⟩ := h1
    refine x_top (show _ = bI (lvB x) from rfl) ?_
    refine x_if_eq C 19 14 dX5_faultOfLevel_11 (by decide) rfl (fun zk11 => ?_) (fun zk11 => ?_)
    · have zk11 := bI_eq0.mp zk11
      refine x_bipush (v := (97)) C 21 dX5_faultOfLevel_19 (by decide) rfl ?_
      exact x_nret C0 rfl (rfl) dX5_faultOfLevel_21 (Nat.le_of_ble_eq_true rfl) (Nat.le_of_ble_eq_true rfl) ⟨_, rfl, ⟨by rw [flL, if_pos zk1, okF, if_neg (by rw [zk11]; decide)], rfl⟩⟩
    · have zk11 := bI_ne0.mp zk11
      refine x_bipush (v := (110)) C 16 dX5_faultOfLevel_14 (by decide) rfl ?_
      refine x_goto C 21 dX5_faultOfLevel_16 (by decide) ?_
      exact x_nret C0 rfl (rfl) dX5_faultOfLevel_21 (Nat.le_of_ble_eq_true rfl) (Nat.le_of_ble_eq_true rfl) ⟨_, rfl, ⟨by rw [flL, if_pos zk1, okF, if_pos zk11], rfl⟩⟩
  · have zk1 := bI_eq0.mp zk1
    refine x_bipush (v := (105)) C 6 dX5_faultOfLevel_4 (by decide) rfl ?_
    exact x_nret C0 rfl (rfl) dX5_faultOfLevel_6 (Nat.le_of_ble_eq_true rfl) (Nat.le_of_ble_eq_true rfl) ⟨_, rfl, ⟨by rw [flL, if_neg (by rw [zk1]; decide)], rfl⟩⟩
theorem fg_X5_faultOf_352 : gF RX5 wsX5_faultOf 352 8 0 := ⟨RX4, TX4, 3, "StageConsole$Step", rfl, fun w h => (List.mem_cons_of_mem _ (List.mem_append_left _ (List.mem_append_left _ (List.mem_append_left _ (List.mem_append_right _ h))))), by decide, (List.mem_cons_of_mem _ (List.mem_append_left _ (List.mem_append_left _ (List.mem_append_left _ (List.mem_append_left _ (List.mem_append_left _ (List.mem_of_getElem? (i := 0) rfl))))))), Or.inl rfl⟩
theorem fg_X5_faultOf_355 : gF RX5 wsX5_faultOf 355 8 1 := ⟨RX4, TX4, 3, "StageConsole$Step", rfl, fun w h => (List.mem_cons_of_mem _ (List.mem_append_left _ (List.mem_append_left _ (List.mem_append_left _ (List.mem_append_right _ h))))), by decide, (List.mem_cons_of_mem _ (List.mem_append_left _ (List.mem_append_left _ (List.mem_append_left _ (List.mem_append_left _ (List.mem_append_left _ (List.mem_of_getElem? (i := 1) rfl))))))), Or.inl rfl⟩
theorem fg_X5_faultOf_358 : gF RX5 wsX5_faultOf 358 8 2 := ⟨RX4, TX4, 3, "StageConsole$Step", rfl, fun w h => (List.mem_cons_of_mem _ (List.mem_append_left _ (List.mem_append_left _ (List.mem_append_left _ (List.mem_append_right _ h))))), by decide, (List.mem_cons_of_mem _ (List.mem_append_left _ (List.mem_append_left _ (List.mem_append_left _ (List.mem_append_left _ (List.mem_append_left _ (List.mem_of_getElem? (i := 2) rfl))))))), Or.inl rfl⟩
set_option maxRecDepth 100000 in
set_option maxHeartbeats 4000000 in
theorem cC_faultOf (hl : l.stackTraces = false) (hN : CN n cap) {k : Nat} (hk : k < n 3) (hcl : caB (S 10 k 0) = true)  : Ct (gm D a E0) l yX5_faultOf wsX5_faultOf { frames := 28, cells := 0, slots := 0, locals := 700 } [.ref (A 0 0), .ref (A 10 k)] (wC a E0 n cap A g en S) (qI fun v w => v = flC n S k ∧ w = wC a E0 n cap A g en S) noX := by
  refine Ct.of [some (.ref (A 0 0)), some (.ref (A 10 k))] rfl hl (by decide) (Nat.le_of_ble_eq_true rfl) rfl (fun φ C0 => ?_)
  have C := C0.1
  refine x_aload_n C 1 dX5_faultOf_0 rfl rfl ?_
  refine xc_get C 4 10 k (by decide) (show k < n 3 from by omega) rfl fg_X5_faultOf_352 rfl dX5_faultOf_1 rfl ?_
  by_cases hk103 : S 10 k 0 = (103 : Int32)
  · refine x_top hk103 ?_
    refine x_tableIn C 96 (off := 92) dX5_faultOf_4 (by decide) (by decide) (by decide) (by decide) ?_
    refine x_aload_n C 97 dX5_faultOf_96 rfl rfl ?_
    refine xc_callV_i C 100 0 0 0 0 9 0 (cC_hasCueAbove hl hN) rfl gX5_faultOf_X5_hasCueAbove ⟨rfl, by decide, by decide, rfl⟩ ⟨Nat.le_of_ble_eq_true rfl, Nat.le_of_ble_eq_true rfl⟩ rfl (by decide) (show 0 < 1 by decide) rfl rfl rfl (Nat.le_of_ble_eq_true rfl) ⟨Nat.le_of_ble_eq_true rfl, Nat.le_of_ble_eq_true rfl⟩ dX5_faultOf_97 rfl rfl rfl (fun r1 w1 h1 => ?_)
    obtain ⟨rfl, rfl⟩ := h1
    refine x_top (show _ = bI (decide ((poC S (n 0) (S 0 0 0 + 1)) < n 0)) from rfl) ?_
    refine x_if_eq C 108 103 dX5_faultOf_100 (by decide) rfl (fun zk100 => ?_) (fun zk100 => ?_)
    · have zk100 := bI_eq0.mp zk100
      refine x_bipush (v := (101)) C 110 dX5_faultOf_108 (by decide) rfl ?_
      exact x_nret C0 rfl (rfl) dX5_faultOf_110 (Nat.le_of_ble_eq_true rfl) (Nat.le_of_ble_eq_true rfl) ⟨_, rfl, ⟨by rw [flC, if_pos hk103, okF, if_neg (by rw [zk100]; decide)], rfl⟩⟩
    · have zk100 := bI_ne0.mp zk100
      refine x_bipush (v := (110)) C 105 dX5_faultOf_103 (by decide) rfl ?_
      refine x_goto C 110 dX5_faultOf_105 (by decide) ?_
      exact x_nret C0 rfl (rfl) dX5_faultOf_110 (Nat.le_of_ble_eq_true rfl) (Nat.le_of_ble_eq_true rfl) ⟨_, rfl, ⟨by rw [flC, if_pos hk103, okF, if_pos zk100], rfl⟩⟩
  by_cases hk98 : S 10 k 0 = (98 : Int32)
  · refine x_top hk98 ?_
    refine x_tableIn C 111 (off := 107) dX5_faultOf_4 (by decide) (by decide) (by decide) (by decide) ?_
    refine x_aload_n C 112 dX5_faultOf_111 rfl rfl ?_
    refine xc_callV_i C 115 0 0 0 0 9 0 (cC_hasCueBelow hl hN) rfl gX5_faultOf_X5_hasCueBelow ⟨rfl, by decide, by decide, rfl⟩ ⟨Nat.le_of_ble_eq_true rfl, Nat.le_of_ble_eq_true rfl⟩ rfl (by decide) (show 0 < 1 by decide) rfl rfl rfl (Nat.le_of_ble_eq_true rfl) ⟨Nat.le_of_ble_eq_true rfl, Nat.le_of_ble_eq_true rfl⟩ dX5_faultOf_112 rfl rfl rfl (fun r2 w2 h2 => ?_)
    obtain ⟨rfl, rfl⟩ := h2
    refine x_top (show _ = bI (decide (0 < (poC S (n 0) (S 0 0 0)))) from rfl) ?_
    refine x_if_eq C 123 118 dX5_faultOf_115 (by decide) rfl (fun zk115 => ?_) (fun zk115 => ?_)
    · have zk115 := bI_eq0.mp zk115
      refine x_bipush (v := (101)) C 125 dX5_faultOf_123 (by decide) rfl ?_
      exact x_nret C0 rfl (rfl) dX5_faultOf_125 (Nat.le_of_ble_eq_true rfl) (Nat.le_of_ble_eq_true rfl) ⟨_, rfl, ⟨by rw [flC, if_neg hk103, if_pos hk98, okF, if_neg (by rw [zk115]; decide)], rfl⟩⟩
    · have zk115 := bI_ne0.mp zk115
      refine x_bipush (v := (110)) C 120 dX5_faultOf_118 (by decide) rfl ?_
      refine x_goto C 125 dX5_faultOf_120 (by decide) ?_
      exact x_nret C0 rfl (rfl) dX5_faultOf_125 (Nat.le_of_ble_eq_true rfl) (Nat.le_of_ble_eq_true rfl) ⟨_, rfl, ⟨by rw [flC, if_neg hk103, if_pos hk98, okF, if_pos zk115], rfl⟩⟩
  by_cases hk116 : S 10 k 0 = (116 : Int32)
  · refine x_top hk116 ?_
    refine x_tableIn C 126 (off := 122) dX5_faultOf_4 (by decide) (by decide) (by decide) (by decide) ?_
    refine x_aload_n C 127 dX5_faultOf_126 rfl rfl ?_
    refine x_aload_n C 128 dX5_faultOf_127 rfl rfl ?_
    refine xc_get C 131 10 k (by decide) (show k < n 3 from by omega) rfl fg_X5_faultOf_355 rfl dX5_faultOf_128 rfl ?_
    refine xc_callV_i C 134 0 0 0 0 9 1 (cC_hasCue hl hN) rfl gX5_faultOf_X5_hasCue ⟨rfl, by decide, by decide, rfl⟩ ⟨Nat.le_of_ble_eq_true rfl, Nat.le_of_ble_eq_true rfl⟩ rfl (by decide) (show 0 < 1 by decide) rfl rfl rfl (Nat.le_of_ble_eq_true rfl) ⟨Nat.le_of_ble_eq_true rfl, Nat.le_of_ble_eq_true rfl⟩ dX5_faultOf_131 rfl rfl rfl (fun r3 w3 h3 => ?_)
    obtain ⟨rfl, rfl⟩ := h3
    refine x_top (show _ = bI (hqC S (n 0) (S 10 k 1)) from rfl) ?_
    refine x_if_eq C 142 137 dX5_faultOf_134 (by decide) rfl (fun zk134 => ?_) (fun zk134 => ?_)
    · have zk134 := bI_eq0.mp zk134
      refine x_bipush (v := (101)) C 144 dX5_faultOf_142 (by decide) rfl ?_
      exact x_nret C0 rfl (rfl) dX5_faultOf_144 (Nat.le_of_ble_eq_true rfl) (Nat.le_of_ble_eq_true rfl) ⟨_, rfl, ⟨by rw [flC, if_neg hk103, if_neg hk98, if_pos hk116, okF, if_neg (by rw [zk134]; decide)], rfl⟩⟩
    · have zk134 := bI_ne0.mp zk134
      refine x_bipush (v := (110)) C 139 dX5_faultOf_137 (by decide) rfl ?_
      refine x_goto C 144 dX5_faultOf_139 (by decide) ?_
      exact x_nret C0 rfl (rfl) dX5_faultOf_144 (Nat.le_of_ble_eq_true rfl) (Nat.le_of_ble_eq_true rfl) ⟨_, rfl, ⟨by rw [flC, if_neg hk103, if_neg hk98, if_pos hk116, okF, if_pos zk134], rfl⟩⟩
  by_cases hk102 : S 10 k 0 = (102 : Int32)
  · refine x_top hk102 ?_
    refine x_tableIn C 145 (off := 141) dX5_faultOf_4 (by decide) (by decide) (by decide) (by decide) ?_
    refine x_aload_n C 146 dX5_faultOf_145 rfl rfl ?_
    refine x_aload_n C 147 dX5_faultOf_146 rfl rfl ?_
    refine xc_get C 150 10 k (by decide) (show k < n 3 from by omega) rfl fg_X5_faultOf_355 rfl dX5_faultOf_147 rfl ?_
    refine xc_callV_i C 153 0 0 0 0 9 1 (cC_isGroup hl) rfl gX5_faultOf_X5_isGroup ⟨rfl, by decide, by decide, rfl⟩ ⟨Nat.le_of_ble_eq_true rfl, Nat.le_of_ble_eq_true rfl⟩ rfl (by decide) (show 0 < 1 by decide) rfl rfl rfl (Nat.le_of_ble_eq_true rfl) ⟨Nat.le_of_ble_eq_true rfl, Nat.le_of_ble_eq_true rfl⟩ dX5_faultOf_150 rfl rfl rfl (fun r4 w4 h4 => ?_)
    obtain ⟨rfl, rfl⟩ := h4
    refine x_top (show _ = bI (upB (n 1) (S 10 k 1)) from rfl) ?_
    refine x_aload_n C 154 dX5_faultOf_153 rfl rfl ?_
    refine xc_get C 157 10 k (by decide) (show k < n 3 from by omega) rfl fg_X5_faultOf_358 rfl dX5_faultOf_154 rfl ?_
    refine x_callS0_i C 160 0 0 2 (cC_faultOfLevel hl (b := upB (n 1) (S 10 k 1)) (x := S 10 k 2)) rfl gX5_faultOf_X5_faultOfLevel ⟨by decide, by decide, rfl⟩ ⟨Nat.le_of_ble_eq_true rfl, Nat.le_of_ble_eq_true rfl⟩ rfl rfl (Nat.le_of_ble_eq_true rfl) ⟨Nat.le_of_ble_eq_true rfl, Nat.le_of_ble_eq_true rfl⟩ dX5_faultOf_157 rfl rfl rfl (fun r5 w5 h5 => ?_)
    obtain ⟨rfl, rfl⟩ := h5
    exact x_nret C0 rfl ((chK_fl (flL_c _ _)).1) dX5_faultOf_160 (Nat.le_of_ble_eq_true rfl) (Nat.le_of_ble_eq_true rfl) ⟨_, rfl, ⟨by rw [flC, if_neg hk103, if_neg hk98, if_neg hk116, if_pos hk102], rfl⟩⟩
  by_cases hk109 : S 10 k 0 = (109 : Int32)
  · refine x_top hk109 ?_
    refine x_tableIn C 176 (off := 172) dX5_faultOf_4 (by decide) (by decide) (by decide) (by decide) ?_
    refine x_aload_n C 177 dX5_faultOf_176 rfl rfl ?_
    refine xc_get C 180 10 k (by decide) (show k < n 3 from by omega) rfl fg_X5_faultOf_355 rfl dX5_faultOf_177 rfl ?_
    refine x_callS0_i C 183 0 0 1 (cC_isLevel hl) rfl gX5_faultOf_X5_isLevel ⟨by decide, by decide, rfl⟩ ⟨Nat.le_of_ble_eq_true rfl, Nat.le_of_ble_eq_true rfl⟩ rfl rfl (Nat.le_of_ble_eq_true rfl) ⟨Nat.le_of_ble_eq_true rfl, Nat.le_of_ble_eq_true rfl⟩ dX5_faultOf_180 rfl rfl rfl (fun r6 w6 h6 => ?_)
    obtain ⟨rfl, rfl⟩ := h6
    refine x_top (show _ = bI (lvB (S 10 k 1)) from rfl) ?_
    refine x_if_eq C 191 186 dX5_faultOf_183 (by decide) rfl (fun zk183 => ?_) (fun zk183 => ?_)
    · have zk183 := bI_eq0.mp zk183
      refine x_bipush (v := (97)) C 193 dX5_faultOf_191 (by decide) rfl ?_
      exact x_nret C0 rfl (rfl) dX5_faultOf_193 (Nat.le_of_ble_eq_true rfl) (Nat.le_of_ble_eq_true rfl) ⟨_, rfl, ⟨by rw [flC, if_neg hk103, if_neg hk98, if_neg hk116, if_neg hk102, if_pos hk109, okF, if_neg (by rw [zk183]; decide)], rfl⟩⟩
    · have zk183 := bI_ne0.mp zk183
      refine x_bipush (v := (110)) C 188 dX5_faultOf_186 (by decide) rfl ?_
      refine x_goto C 193 dX5_faultOf_188 (by decide) ?_
      exact x_nret C0 rfl (rfl) dX5_faultOf_193 (Nat.le_of_ble_eq_true rfl) (Nat.le_of_ble_eq_true rfl) ⟨_, rfl, ⟨by rw [flC, if_neg hk103, if_neg hk98, if_neg hk116, if_neg hk102, if_pos hk109, okF, if_pos zk183], rfl⟩⟩
  by_cases hk112 : S 10 k 0 = (112 : Int32)
  · refine x_top hk112 ?_
    refine x_tableIn C 161 (off := 157) dX5_faultOf_4 (by decide) (by decide) (by decide) (by decide) ?_
    refine x_aload_n C 162 dX5_faultOf_161 rfl rfl ?_
    refine xc_get C 165 10 k (by decide) (show k < n 3 from by omega) rfl fg_X5_faultOf_355 rfl dX5_faultOf_162 rfl ?_
    refine x_callS0_i C 168 0 0 1 (cC_isChannel hl) rfl gX5_faultOf_X5_isChannel ⟨by decide, by decide, rfl⟩ ⟨Nat.le_of_ble_eq_true rfl, Nat.le_of_ble_eq_true rfl⟩ rfl rfl (Nat.le_of_ble_eq_true rfl) ⟨Nat.le_of_ble_eq_true rfl, Nat.le_of_ble_eq_true rfl⟩ dX5_faultOf_165 rfl rfl rfl (fun r7 w7 h7 => ?_)
    obtain ⟨rfl, rfl⟩ := h7
    refine x_top (show _ = bI (chB (S 10 k 1)) from rfl) ?_
    refine x_aload_n C 169 dX5_faultOf_168 rfl rfl ?_
    refine xc_get C 172 10 k (by decide) (show k < n 3 from by omega) rfl fg_X5_faultOf_358 rfl dX5_faultOf_169 rfl ?_
    refine x_callS0_i C 175 0 0 2 (cC_faultOfLevel hl (b := chB (S 10 k 1)) (x := S 10 k 2)) rfl gX5_faultOf_X5_faultOfLevel ⟨by decide, by decide, rfl⟩ ⟨Nat.le_of_ble_eq_true rfl, Nat.le_of_ble_eq_true rfl⟩ rfl rfl (Nat.le_of_ble_eq_true rfl) ⟨Nat.le_of_ble_eq_true rfl, Nat.le_of_ble_eq_true rfl⟩ dX5_faultOf_172 rfl rfl rfl (fun r8 w8 h8 => ?_)
    obtain ⟨rfl, rfl⟩ := h8
    exact x_nret C0 rfl ((chK_fl (flL_c _ _)).1) dX5_faultOf_175 (Nat.le_of_ble_eq_true rfl) (Nat.le_of_ble_eq_true rfl) ⟨_, rfl, ⟨by rw [flC, if_neg hk103, if_neg hk98, if_neg hk116, if_neg hk102, if_neg hk109, if_pos hk112], rfl⟩⟩
  refine x_top (ca_last hcl hk103 hk98 hk116 hk102 hk109 hk112) ?_
  refine x_tableOut C 194 dX5_faultOf_4 (Or.inr (by decide)) (by decide) ?_
  refine x_aload_n C 195 dX5_faultOf_194 rfl rfl ?_
  refine xc_get C 198 10 k (by decide) (show k < n 3 from by omega) rfl fg_X5_faultOf_355 rfl dX5_faultOf_195 rfl ?_
  refine x_callS0_i C 201 0 0 1 (cC_isPassing hl) rfl gX5_faultOf_X5_isPassing ⟨by decide, by decide, rfl⟩ ⟨Nat.le_of_ble_eq_true rfl, Nat.le_of_ble_eq_true rfl⟩ rfl rfl (Nat.le_of_ble_eq_true rfl) ⟨Nat.le_of_ble_eq_true rfl, Nat.le_of_ble_eq_true rfl⟩ dX5_faultOf_198 rfl rfl rfl (fun r9 w9 h9 => ?_)
  obtain ⟨rfl, rfl⟩ := h9
  refine x_top (show _ = bI (tkB (S 10 k 1)) from rfl) ?_
  refine x_if_eq C 209 204 dX5_faultOf_201 (by decide) rfl (fun zk201 => ?_) (fun zk201 => ?_)
  · have zk201 := bI_eq0.mp zk201
    refine x_bipush (v := (97)) C 211 dX5_faultOf_209 (by decide) rfl ?_
    exact x_nret C0 rfl (rfl) dX5_faultOf_211 (Nat.le_of_ble_eq_true rfl) (Nat.le_of_ble_eq_true rfl) ⟨_, rfl, ⟨by rw [flC, if_neg hk103, if_neg hk98, if_neg hk116, if_neg hk102, if_neg hk109, if_neg hk112, okF, if_neg (by rw [zk201]; decide)], rfl⟩⟩
  · have zk201 := bI_ne0.mp zk201
    refine x_bipush (v := (110)) C 206 dX5_faultOf_204 (by decide) rfl ?_
    refine x_goto C 211 dX5_faultOf_206 (by decide) ?_
    exact x_nret C0 rfl (rfl) dX5_faultOf_211 (Nat.le_of_ble_eq_true rfl) (Nat.le_of_ble_eq_true rfl) ⟨_, rfl, ⟨by rw [flC, if_neg hk103, if_neg hk98, if_neg hk116, if_neg hk102, if_neg hk109, if_neg hk112, okF, if_pos zk201], rfl⟩⟩
theorem fg_X5_doStep_352 : gF RX5 wsX5_doStep 352 8 0 := ⟨RX4, TX4, 3, "StageConsole$Step", rfl, fun w h => (List.mem_cons_of_mem _ (List.mem_append_left _ (List.mem_append_left _ (List.mem_append_left _ (List.mem_append_left _ (List.mem_append_left _ (List.mem_append_left _ (List.mem_append_left _ (List.mem_append_left _ (List.mem_append_right _ h)))))))))), by decide, (List.mem_cons_of_mem _ (List.mem_append_left _ (List.mem_append_left _ (List.mem_append_left _ (List.mem_append_left _ (List.mem_append_left _ (List.mem_append_left _ (List.mem_append_left _ (List.mem_append_left _ (List.mem_append_left _ (List.mem_append_left _ (List.mem_of_getElem? (i := 0) rfl)))))))))))), Or.inl rfl⟩
theorem fg_X5_doStep_355 : gF RX5 wsX5_doStep 355 8 1 := ⟨RX4, TX4, 3, "StageConsole$Step", rfl, fun w h => (List.mem_cons_of_mem _ (List.mem_append_left _ (List.mem_append_left _ (List.mem_append_left _ (List.mem_append_left _ (List.mem_append_left _ (List.mem_append_left _ (List.mem_append_left _ (List.mem_append_left _ (List.mem_append_right _ h)))))))))), by decide, (List.mem_cons_of_mem _ (List.mem_append_left _ (List.mem_append_left _ (List.mem_append_left _ (List.mem_append_left _ (List.mem_append_left _ (List.mem_append_left _ (List.mem_append_left _ (List.mem_append_left _ (List.mem_append_left _ (List.mem_append_left _ (List.mem_of_getElem? (i := 1) rfl)))))))))))), Or.inl rfl⟩
theorem fg_X5_doStep_358 : gF RX5 wsX5_doStep 358 8 2 := ⟨RX4, TX4, 3, "StageConsole$Step", rfl, fun w h => (List.mem_cons_of_mem _ (List.mem_append_left _ (List.mem_append_left _ (List.mem_append_left _ (List.mem_append_left _ (List.mem_append_left _ (List.mem_append_left _ (List.mem_append_left _ (List.mem_append_left _ (List.mem_append_right _ h)))))))))), by decide, (List.mem_cons_of_mem _ (List.mem_append_left _ (List.mem_append_left _ (List.mem_append_left _ (List.mem_append_left _ (List.mem_append_left _ (List.mem_append_left _ (List.mem_append_left _ (List.mem_append_left _ (List.mem_append_left _ (List.mem_append_left _ (List.mem_of_getElem? (i := 2) rfl)))))))))))), Or.inl rfl⟩
set_option maxRecDepth 100000 in
set_option maxHeartbeats 4000000 in
theorem cC_doStep (hl : l.stackTraces = false) (hN : CN n cap) {k : Nat} (hk : k < n 3) (hcl : caB (S 10 k 0) = true) (hE : CE n g S) (hF : CF S) (hK : ∀ p, p < n 0 → chK (S 5 p 2)) (hf : flC n S k = 110)  : Ct (gm D a E0) l yX5_doStep wsX5_doStep { frames := 32, cells := 0, slots := 0, locals := 800 } [.ref (A 0 0), .ref (A 10 k)] (wC a E0 n cap A g en S) (qV fun w => w = wC a E0 n cap A g (dsC n g S en k).2 (dsC n g S en k).1) noX := by
  refine Ct.of [some (.ref (A 0 0)), some (.ref (A 10 k))] rfl hl (by decide) (Nat.le_of_ble_eq_true rfl) rfl (fun φ C0 => ?_)
  have C := C0.1
  refine x_aload_n C 1 dX5_doStep_0 rfl rfl ?_
  refine xc_get C 4 10 k (by decide) (show k < n 3 from by omega) rfl fg_X5_doStep_352 rfl dX5_doStep_1 rfl ?_
  by_cases hk103 : S 10 k 0 = (103 : Int32)
  · refine x_top hk103 ?_
    refine x_tableIn C 96 (off := 92) dX5_doStep_4 (by decide) (by decide) (by decide) (by decide) ?_
    rw [flC, if_pos hk103] at hf
    obtain hp := of_decide_eq_true (okF_t (by decide) hf)
    refine x_aload_n C 97 dX5_doStep_96 rfl rfl ?_
    refine x_aload_n C 98 dX5_doStep_97 rfl rfl ?_
    refine xc_callV_i C 101 0 0 0 0 9 0 (cC_placeAbove hl hN) rfl gX5_doStep_X5_placeAbove ⟨rfl, by decide, by decide, rfl⟩ ⟨Nat.le_of_ble_eq_true rfl, Nat.le_of_ble_eq_true rfl⟩ rfl (by decide) (show 0 < 1 by decide) rfl rfl rfl (Nat.le_of_ble_eq_true rfl) ⟨Nat.le_of_ble_eq_true rfl, Nat.le_of_ble_eq_true rfl⟩ dX5_doStep_98 rfl rfl rfl (fun r1 w1 h1 => ?_)
    obtain ⟨rfl, rfl⟩ := h1
    refine xc_callV_v C 104 0 0 0 0 9 1 (cC_playPlace hl hN hp (hK _ hp)) rfl gX5_doStep_X5_playPlace ⟨rfl, by decide, by decide, rfl⟩ ⟨Nat.le_of_ble_eq_true rfl, Nat.le_of_ble_eq_true rfl⟩ rfl (by decide) (show 0 < 1 by decide) rfl rfl rfl (Nat.le_of_ble_eq_true rfl) ⟨Nat.le_of_ble_eq_true rfl, Nat.le_of_ble_eq_true rfl⟩ dX5_doStep_101 rfl rfl rfl (fun w2 h2 => ?_)
    subst h2
    refine x_goto C 185 dX5_doStep_104 (by decide) ?_
    exact x_vret C0 dX5_doStep_185 (Nat.le_of_ble_eq_true rfl) (Nat.le_of_ble_eq_true rfl) ⟨rfl, by rw [dsC, if_pos hk103]⟩
  by_cases hk98 : S 10 k 0 = (98 : Int32)
  · refine x_top hk98 ?_
    refine x_tableIn C 107 (off := 103) dX5_doStep_4 (by decide) (by decide) (by decide) (by decide) ?_
    rw [flC, if_neg hk103, if_pos hk98] at hf
    obtain hp := of_decide_eq_true (okF_t (by decide) hf)
    have hp2 : (poC S (n 0) (S 0 0 0)) - 1 < n 0 := by have := poC_le S (n 0) (S 0 0 0); omega
    refine x_aload_n C 108 dX5_doStep_107 rfl rfl ?_
    refine x_aload_n C 109 dX5_doStep_108 rfl rfl ?_
    refine xc_callV_i C 112 0 0 0 0 9 0 (cC_placeBelow hl hN) rfl gX5_doStep_X5_placeBelow ⟨rfl, by decide, by decide, rfl⟩ ⟨Nat.le_of_ble_eq_true rfl, Nat.le_of_ble_eq_true rfl⟩ rfl (by decide) (show 0 < 1 by decide) rfl rfl rfl (Nat.le_of_ble_eq_true rfl) ⟨Nat.le_of_ble_eq_true rfl, Nat.le_of_ble_eq_true rfl⟩ dX5_doStep_109 rfl rfl rfl (fun r3 w3 h3 => ?_)
    obtain ⟨rfl, rfl⟩ := h3
    refine x_top (show _ = nI ((poC S (n 0) (S 0 0 0)) - 1) from kd_pos hp) ?_
    refine xc_callV_v C 115 0 0 0 0 9 1 (cC_playPlace hl hN hp2 (hK _ hp2)) rfl gX5_doStep_X5_playPlace ⟨rfl, by decide, by decide, rfl⟩ ⟨Nat.le_of_ble_eq_true rfl, Nat.le_of_ble_eq_true rfl⟩ rfl (by decide) (show 0 < 1 by decide) rfl rfl rfl (Nat.le_of_ble_eq_true rfl) ⟨Nat.le_of_ble_eq_true rfl, Nat.le_of_ble_eq_true rfl⟩ dX5_doStep_112 rfl rfl rfl (fun w4 h4 => ?_)
    subst h4
    refine x_goto C 185 dX5_doStep_115 (by decide) ?_
    exact x_vret C0 dX5_doStep_185 (Nat.le_of_ble_eq_true rfl) (Nat.le_of_ble_eq_true rfl) ⟨rfl, by rw [dsC, if_neg hk103, if_pos hk98]⟩
  by_cases hk116 : S 10 k 0 = (116 : Int32)
  · refine x_top hk116 ?_
    refine x_tableIn C 118 (off := 114) dX5_doStep_4 (by decide) (by decide) (by decide) (by decide) ?_
    rw [flC, if_neg hk103, if_neg hk98, if_pos hk116] at hf
    obtain ⟨hp, -⟩ := hqC_lt (okF_t (by decide) hf)
    refine x_aload_n C 119 dX5_doStep_118 rfl rfl ?_
    refine x_aload_n C 120 dX5_doStep_119 rfl rfl ?_
    refine x_aload_n C 121 dX5_doStep_120 rfl rfl ?_
    refine xc_get C 124 10 k (by decide) (show k < n 3 from by omega) rfl fg_X5_doStep_355 rfl dX5_doStep_121 rfl ?_
    refine xc_callV_i C 127 0 0 0 0 9 1 (cC_placeOf hl hN) rfl gX5_doStep_X5_placeOf ⟨rfl, by decide, by decide, rfl⟩ ⟨Nat.le_of_ble_eq_true rfl, Nat.le_of_ble_eq_true rfl⟩ rfl (by decide) (show 0 < 1 by decide) rfl rfl rfl (Nat.le_of_ble_eq_true rfl) ⟨Nat.le_of_ble_eq_true rfl, Nat.le_of_ble_eq_true rfl⟩ dX5_doStep_124 rfl rfl rfl (fun r5 w5 h5 => ?_)
    obtain ⟨rfl, rfl⟩ := h5
    refine xc_callV_v C 130 0 0 0 0 9 1 (cC_playPlace hl hN hp (hK _ hp)) rfl gX5_doStep_X5_playPlace ⟨rfl, by decide, by decide, rfl⟩ ⟨Nat.le_of_ble_eq_true rfl, Nat.le_of_ble_eq_true rfl⟩ rfl (by decide) (show 0 < 1 by decide) rfl rfl rfl (Nat.le_of_ble_eq_true rfl) ⟨Nat.le_of_ble_eq_true rfl, Nat.le_of_ble_eq_true rfl⟩ dX5_doStep_127 rfl rfl rfl (fun w6 h6 => ?_)
    subst h6
    refine x_goto C 185 dX5_doStep_130 (by decide) ?_
    exact x_vret C0 dX5_doStep_185 (Nat.le_of_ble_eq_true rfl) (Nat.le_of_ble_eq_true rfl) ⟨rfl, by rw [dsC, if_neg hk103, if_neg hk98, if_pos hk116]⟩
  by_cases hk102 : S 10 k 0 = (102 : Int32)
  · refine x_top hk102 ?_
    refine x_tableIn C 133 (off := 129) dX5_doStep_4 (by decide) (by decide) (by decide) (by decide) ?_
    rw [flC, if_neg hk103, if_neg hk98, if_neg hk116, if_pos hk102] at hf
    obtain ⟨G, hG, hGe⟩ := (upB_iff (by have := hN.2.2.1; omega)).mp (flL_t hf).1
    refine x_aload_n C 134 dX5_doStep_133 rfl rfl ?_
    refine x_aload_n C 135 dX5_doStep_134 rfl rfl ?_
    refine xc_get C 138 10 k (by decide) (show k < n 3 from by omega) rfl fg_X5_doStep_355 rfl dX5_doStep_135 rfl ?_
    refine x_top hGe ?_
    refine x_aload_n C 139 dX5_doStep_138 rfl rfl ?_
    refine xc_get C 142 10 k (by decide) (show k < n 3 from by omega) rfl fg_X5_doStep_358 rfl dX5_doStep_139 rfl ?_
    refine xc_callV_i C 145 0 0 0 0 9 2 (cC_moveFader hl hN hG) rfl gX5_doStep_X5_moveFader ⟨rfl, by decide, by decide, rfl⟩ ⟨Nat.le_of_ble_eq_true rfl, Nat.le_of_ble_eq_true rfl⟩ rfl (by decide) (show 0 < 1 by decide) rfl rfl rfl (Nat.le_of_ble_eq_true rfl) ⟨Nat.le_of_ble_eq_true rfl, Nat.le_of_ble_eq_true rfl⟩ dX5_doStep_142 rfl rfl rfl (fun r7 w7 h7 => ?_)
    obtain ⟨rfl, rfl⟩ := h7
    refine x_pop C 146 dX5_doStep_145 rfl rfl ?_
    refine x_goto C 185 dX5_doStep_146 (by decide) ?_
    exact x_vret C0 dX5_doStep_185 (Nat.le_of_ble_eq_true rfl) (Nat.le_of_ble_eq_true rfl) ⟨rfl, by rw [dsC, if_neg hk103, if_neg hk98, if_neg hk116, if_pos hk102, hGe, gtK_nI (by have := hN.2.2.1; omega)]⟩
  by_cases hk109 : S 10 k 0 = (109 : Int32)
  · refine x_top hk109 ?_
    refine x_tableIn C 165 (off := 161) dX5_doStep_4 (by decide) (by decide) (by decide) (by decide) ?_
    refine x_aload_n C 166 dX5_doStep_165 rfl rfl ?_
    refine x_aload_n C 167 dX5_doStep_166 rfl rfl ?_
    refine xc_get C 170 10 k (by decide) (show k < n 3 from by omega) rfl fg_X5_doStep_355 rfl dX5_doStep_167 rfl ?_
    refine xc_callV_i C 173 0 0 0 0 9 1 (cC_moveMaster hl) rfl gX5_doStep_X5_moveMaster ⟨rfl, by decide, by decide, rfl⟩ ⟨Nat.le_of_ble_eq_true rfl, Nat.le_of_ble_eq_true rfl⟩ rfl (by decide) (show 0 < 1 by decide) rfl rfl rfl (Nat.le_of_ble_eq_true rfl) ⟨Nat.le_of_ble_eq_true rfl, Nat.le_of_ble_eq_true rfl⟩ dX5_doStep_170 rfl rfl rfl (fun r8 w8 h8 => ?_)
    obtain ⟨rfl, rfl⟩ := h8
    refine x_pop C 174 dX5_doStep_173 rfl rfl ?_
    refine x_goto C 185 dX5_doStep_174 (by decide) ?_
    exact x_vret C0 dX5_doStep_185 (Nat.le_of_ble_eq_true rfl) (Nat.le_of_ble_eq_true rfl) ⟨rfl, by rw [dsC, if_neg hk103, if_neg hk98, if_neg hk116, if_neg hk102, if_pos hk109]⟩
  by_cases hk112 : S 10 k 0 = (112 : Int32)
  · refine x_top hk112 ?_
    refine x_tableIn C 149 (off := 145) dX5_doStep_4 (by decide) (by decide) (by decide) (by decide) ?_
    rw [flC, if_neg hk103, if_neg hk98, if_neg hk116, if_neg hk102, if_neg hk109, if_pos hk112] at hf
    obtain ⟨c, hc, hce⟩ := chB_iff.mp (flL_t hf).1
    refine x_aload_n C 150 dX5_doStep_149 rfl rfl ?_
    refine x_aload_n C 151 dX5_doStep_150 rfl rfl ?_
    refine xc_get C 154 10 k (by decide) (show k < n 3 from by omega) rfl fg_X5_doStep_355 rfl dX5_doStep_151 rfl ?_
    refine x_top hce ?_
    refine x_aload_n C 155 dX5_doStep_154 rfl rfl ?_
    refine xc_get C 158 10 k (by decide) (show k < n 3 from by omega) rfl fg_X5_doStep_358 rfl dX5_doStep_155 rfl ?_
    refine xc_callV_i C 161 0 0 0 0 9 2 (cC_parkAt hl hc) rfl gX5_doStep_X5_parkAt ⟨rfl, by decide, by decide, rfl⟩ ⟨Nat.le_of_ble_eq_true rfl, Nat.le_of_ble_eq_true rfl⟩ rfl (by decide) (show 0 < 1 by decide) rfl rfl rfl (Nat.le_of_ble_eq_true rfl) ⟨Nat.le_of_ble_eq_true rfl, Nat.le_of_ble_eq_true rfl⟩ dX5_doStep_158 rfl rfl rfl (fun r9 w9 h9 => ?_)
    obtain ⟨rfl, rfl⟩ := h9
    refine x_pop C 162 dX5_doStep_161 rfl rfl ?_
    refine x_goto C 185 dX5_doStep_162 (by decide) ?_
    exact x_vret C0 dX5_doStep_185 (Nat.le_of_ble_eq_true rfl) (Nat.le_of_ble_eq_true rfl) ⟨rfl, by rw [dsC, if_neg hk103, if_neg hk98, if_neg hk116, if_neg hk102, if_neg hk109, if_pos hk112, hce, gtK_nI (by omega)]⟩
  refine x_top (ca_last hcl hk103 hk98 hk116 hk102 hk109 hk112) ?_
  refine x_tableOut C 177 dX5_doStep_4 (Or.inr (by decide)) (by decide) ?_
  rw [flC, if_neg hk103, if_neg hk98, if_neg hk116, if_neg hk102, if_neg hk109, if_neg hk112] at hf
  obtain ⟨t, -, ht, hte⟩ := inB_pass.mp (okF_t (by decide) hf)
  refine x_aload_n C 178 dX5_doStep_177 rfl rfl ?_
  refine x_aload_n C 179 dX5_doStep_178 rfl rfl ?_
  refine xc_get C 182 10 k (by decide) (show k < n 3 from by omega) rfl fg_X5_doStep_355 rfl dX5_doStep_179 rfl ?_
  refine x_top hte ?_
  refine xc_callV_v C 185 0 0 0 0 9 1 (cC_passTicks hl ht hN hE hF) rfl gX5_doStep_X5_passTicks ⟨rfl, by decide, by decide, rfl⟩ ⟨Nat.le_of_ble_eq_true rfl, Nat.le_of_ble_eq_true rfl⟩ rfl (by decide) (show 0 < 1 by decide) rfl rfl rfl (Nat.le_of_ble_eq_true rfl) ⟨Nat.le_of_ble_eq_true rfl, Nat.le_of_ble_eq_true rfl⟩ dX5_doStep_182 rfl rfl rfl (fun w10 h10 => ?_)
  subst h10
  exact x_vret C0 dX5_doStep_185 (Nat.le_of_ble_eq_true rfl) (Nat.le_of_ble_eq_true rfl) ⟨rfl, by rw [dsC, if_neg hk103, if_neg hk98, if_neg hk116, if_neg hk102, if_neg hk109, if_neg hk112, hte, gtK_nI (by omega)]⟩
theorem fp_X5_runMacro_49 : pF RX5 wsX5_runMacro 49 9 10 false (.char) := ⟨RX5, TX5, 11, "StageConsole", tyX5, rfl, fun w h => (List.mem_cons_of_mem _ (List.mem_append_left _ (List.mem_append_left _ (List.mem_append_left _ (List.mem_append_left _ (List.mem_append_left _ (List.mem_append_left _ (List.mem_append_left _ (List.mem_append_left _ (List.mem_append_right _ h)))))))))), by decide, (List.mem_cons_of_mem _ (List.mem_append_left _ (List.mem_append_left _ (List.mem_append_left _ (List.mem_append_left _ (List.mem_append_left _ (List.mem_append_left _ (List.mem_append_left _ (List.mem_append_left _ (List.mem_append_left _ (List.mem_append_left _ (List.mem_of_getElem? (i := 0) rfl)))))))))))), Or.inl rfl, tyX5_ok, nmX5, rfl, rfl, fun h => absurd h (by decide)⟩
theorem fg_X5_runMacro_46 : gF RX5 wsX5_runMacro 46 9 9 := ⟨RX5, TX5, 11, "StageConsole", rfl, fun w h => (List.mem_cons_of_mem _ (List.mem_append_left _ (List.mem_append_left _ (List.mem_append_left _ (List.mem_append_left _ (List.mem_append_left _ (List.mem_append_left _ (List.mem_append_left _ (List.mem_append_left _ (List.mem_append_right _ h)))))))))), by decide, (List.mem_cons_of_mem _ (List.mem_append_left _ (List.mem_append_left _ (List.mem_append_left _ (List.mem_append_left _ (List.mem_append_left _ (List.mem_append_left _ (List.mem_append_left _ (List.mem_append_left _ (List.mem_append_left _ (List.mem_append_left _ (List.mem_of_getElem? (i := 1) rfl)))))))))))), Or.inl rfl⟩
theorem fg_X5_runMacro_49 : gF RX5 wsX5_runMacro 49 9 10 := ⟨RX5, TX5, 11, "StageConsole", rfl, fun w h => (List.mem_cons_of_mem _ (List.mem_append_left _ (List.mem_append_left _ (List.mem_append_left _ (List.mem_append_left _ (List.mem_append_left _ (List.mem_append_left _ (List.mem_append_left _ (List.mem_append_left _ (List.mem_append_right _ h)))))))))), by decide, (List.mem_cons_of_mem _ (List.mem_append_left _ (List.mem_append_left _ (List.mem_append_left _ (List.mem_append_left _ (List.mem_append_left _ (List.mem_append_left _ (List.mem_append_left _ (List.mem_append_left _ (List.mem_append_left _ (List.mem_append_left _ (List.mem_of_getElem? (i := 0) rfl)))))))))))), Or.inl rfl⟩
set_option maxRecDepth 100000 in
set_option maxHeartbeats 4000000 in
theorem cC_runMacro (hl : l.stackTraces = false) (hN : CN n cap) {P : (Nat → Nat → Nat → Int32) → Prop} (hP : ∀ T, P T → CE n g T ∧ CF T ∧ (∀ p, p < n 0 → chK (T 5 p 2)) ∧ ∀ k, k < n 3 → caB (T 10 k 0) = true) (hS1 : ∀ T f, chK f → P T → P (uS T 0 0 3 f)) (hS2 : ∀ T e k, P T → k < n 3 → flC n T k = 110 → P (dsC n g T e k).1) (h0 : P S)  : Ct (gm D a E0) l yX5_runMacro wsX5_runMacro { frames := 36, cells := 0, slots := 0, locals := 900 } [.ref (A 0 0)] (wC a E0 n cap A g en S) (qI fun v w => v = nI (rmC n g (n 3) 0 (uS S 0 0 3 110) en).1 ∧ w = wC a E0 n cap A g (rmC n g (n 3) 0 (uS S 0 0 3 110) en).2.2 (rmC n g (n 3) 0 (uS S 0 0 3 110) en).2.1) noX := by
  refine Ct.of [some (.ref (A 0 0)), none] rfl hl (by decide) (Nat.le_of_ble_eq_true rfl) rfl (fun φ C0 => ?_)
  have C := C0.1
  refine x_aload_n C 1 dX5_runMacro_0 rfl rfl ?_
  refine x_bipush (v := (110)) C 3 dX5_runMacro_1 (by decide) rfl ?_
  refine xc_put C 6 0 0 3 (by decide) (show 0 < 1 by decide) rfl fp_X5_runMacro_49 rfl rfl (Nat.le_of_ble_eq_true rfl) rfl dX5_runMacro_3 rfl ?_
  refine x_iconst (v := (0)) C 7 dX5_runMacro_6 (by decide) rfl ?_
  refine x_istore_n C 8 dX5_runMacro_7 (by decide) rfl rfl ?_
  have lp8 : ∀ (m i : Nat) (T : Nat → Nat → Nat → Int32) (e2 : Int64), i + m = n 3 → P T → (rmC n g (n 3) 0 (uS S 0 0 3 110) en) = rmC n g m i T e2 → X φ 8 [some (.ref (A 0 0)), some (.int (nI i))] [] (wC a E0 n cap A g e2 T) 0 0 := by
    intro m
    induction m with
    | zero =>
      intro i T e2 hi hT hr
      refine x_iload_n C 9 dX5_runMacro_8 rfl rfl ?_
      refine x_aload_n C 10 dX5_runMacro_9 rfl rfl ?_
      refine xc_get C 13 0 0 (by decide) (show 0 < 1 by decide) rfl fg_X5_runMacro_46 rfl dX5_runMacro_10 rfl ?_
      refine xc_callV_i C 16 0 0 3 3 3 0 (cC_size hl (j := 3) (by decide)) rfl gX5_runMacro_Jx4a65c_size_8abf5 ⟨rfl, by decide, by decide, rfl⟩ ⟨Nat.le_of_ble_eq_true rfl, Nat.le_of_ble_eq_true rfl⟩ rfl (by decide) (show 3 < 4 by decide) rfl rfl rfl (Nat.le_of_ble_eq_true rfl) ⟨Nat.le_of_ble_eq_true rfl, Nat.le_of_ble_eq_true rfl⟩ dX5_runMacro_13 rfl rfl rfl (fun r1 w1 h1 => ?_)
      obtain ⟨rfl, rfl⟩ := h1
      have h8 := hN.2.2.2.2
      refine x_icmp_ge C 70 19 dX5_runMacro_16 (by decide) rfl (fun zk16 => ?_) (fun zk16 => ?_)
      · have zk16 := (nI_leI (a := (n 3)) (b := i) (by omega) (by omega)).mp zk16
        refine x_aload_n C 71 dX5_runMacro_70 rfl rfl ?_
        refine xc_get C 74 0 0 (by decide) (show 0 < 1 by decide) rfl fg_X5_runMacro_46 rfl dX5_runMacro_71 rfl ?_
        refine xc_callV_i C 77 0 0 3 3 3 0 (cC_size hl (j := 3) (by decide)) rfl gX5_runMacro_Jx4a65c_size_8abf5 ⟨rfl, by decide, by decide, rfl⟩ ⟨Nat.le_of_ble_eq_true rfl, Nat.le_of_ble_eq_true rfl⟩ rfl (by decide) (show 3 < 4 by decide) rfl rfl rfl (Nat.le_of_ble_eq_true rfl) ⟨Nat.le_of_ble_eq_true rfl, Nat.le_of_ble_eq_true rfl⟩ dX5_runMacro_74 rfl rfl rfl (fun r2 w2 h2 => ?_)
        obtain ⟨rfl, rfl⟩ := h2
        exact x_zret C0 dX5_runMacro_77 (Nat.le_of_ble_eq_true rfl) (Nat.le_of_ble_eq_true rfl) ⟨_, rfl, ⟨by rw [hr]; show nI (n 3) = nI i; rw [show i = n 3 by omega], by rw [hr]; rfl⟩⟩
      · have zk16 := mt (nI_leI (a := (n 3)) (b := i) (by omega) (by omega)).mpr zk16
        exfalso; omega
    | succ m ih =>
      intro i T e2 hi hT hr
      refine x_iload_n C 9 dX5_runMacro_8 rfl rfl ?_
      refine x_aload_n C 10 dX5_runMacro_9 rfl rfl ?_
      refine xc_get C 13 0 0 (by decide) (show 0 < 1 by decide) rfl fg_X5_runMacro_46 rfl dX5_runMacro_10 rfl ?_
      refine xc_callV_i C 16 0 0 3 3 3 0 (cC_size hl (j := 3) (by decide)) rfl gX5_runMacro_Jx4a65c_size_8abf5 ⟨rfl, by decide, by decide, rfl⟩ ⟨Nat.le_of_ble_eq_true rfl, Nat.le_of_ble_eq_true rfl⟩ rfl (by decide) (show 3 < 4 by decide) rfl rfl rfl (Nat.le_of_ble_eq_true rfl) ⟨Nat.le_of_ble_eq_true rfl, Nat.le_of_ble_eq_true rfl⟩ dX5_runMacro_13 rfl rfl rfl (fun r3 w3 h3 => ?_)
      obtain ⟨rfl, rfl⟩ := h3
      have h8 := hN.2.2.2.2
      refine x_icmp_ge C 70 19 dX5_runMacro_16 (by decide) rfl (fun zk16 => ?_) (fun zk16 => ?_)
      · have zk16 := (nI_leI (a := (n 3)) (b := i) (by omega) (by omega)).mp zk16
        exfalso; omega
      · have zk16 := mt (nI_leI (a := (n 3)) (b := i) (by omega) (by omega)).mpr zk16
        refine x_aload_n C 20 dX5_runMacro_19 rfl rfl ?_
        refine x_aload_n C 21 dX5_runMacro_20 rfl rfl ?_
        refine x_aload_n C 22 dX5_runMacro_21 rfl rfl ?_
        refine xc_get C 25 0 0 (by decide) (show 0 < 1 by decide) rfl fg_X5_runMacro_46 rfl dX5_runMacro_22 rfl ?_
        refine x_iload_n C 26 dX5_runMacro_25 rfl rfl ?_
        refine xc_callV_q C 29 0 0 3 3 3 1 (cC_get hl (j := 3) (by decide) (i := i) (by omega) (hN.1 3 (by decide)).1 (hN.1 3 (by decide)).2) rfl gX5_runMacro_Jx4a65c_get_915e3 ⟨rfl, by decide, by decide, rfl⟩ ⟨Nat.le_of_ble_eq_true rfl, Nat.le_of_ble_eq_true rfl⟩ rfl (by decide) (show 3 < 4 by decide) rfl rfl rfl (Nat.le_of_ble_eq_true rfl) ⟨Nat.le_of_ble_eq_true rfl, Nat.le_of_ble_eq_true rfl⟩ dX5_runMacro_26 rfl rfl rfl (fun r4 w4 h4 => ?_)
        obtain ⟨rfl, rfl⟩ := h4
        refine x_topq (show _ = Value.ref (A 10 i) from rfl) ?_
        refine xc_castS C 32 10 i (by decide) (show i < n 3 from by omega) rfl rfl (List.mem_cons_of_mem _ (List.mem_append_left _ (List.mem_append_left _ (List.mem_append_left _ (List.mem_append_left _ (List.mem_append_left _ (List.mem_append_left _ (List.mem_append_left _ (List.mem_append_left _ (List.mem_append_left _ (List.mem_append_left _ (List.mem_of_getElem? (i := 2) rfl)))))))))))) dX5_runMacro_29 rfl ?_
        refine xc_callV_i C 35 0 0 0 0 9 1 (cC_faultOf hl (S := T) hN (show i < n 3 by omega) ((hP T hT).2.2.2 i (by omega))) rfl gX5_runMacro_X5_faultOf ⟨rfl, by decide, by decide, rfl⟩ ⟨Nat.le_of_ble_eq_true rfl, Nat.le_of_ble_eq_true rfl⟩ rfl (by decide) (show 0 < 1 by decide) rfl rfl rfl (Nat.le_of_ble_eq_true rfl) ⟨Nat.le_of_ble_eq_true rfl, Nat.le_of_ble_eq_true rfl⟩ dX5_runMacro_32 rfl rfl rfl (fun r5 w5 h5 => ?_)
        obtain ⟨rfl, rfl⟩ := h5
        refine xc_put C 38 0 0 3 (by decide) (show 0 < 1 by decide) rfl fp_X5_runMacro_49 (chK_fl (flC_c _ _ _)).1 (chK_fl (flC_c _ _ _)).2 (Nat.le_of_ble_eq_true rfl) rfl dX5_runMacro_35 rfl ?_
        refine x_aload_n C 39 dX5_runMacro_38 rfl rfl ?_
        refine xc_get C 42 0 0 (by decide) (show 0 < 1 by decide) rfl fg_X5_runMacro_49 rfl dX5_runMacro_39 rfl ?_
        refine x_top (show _ = (flC n T i) from by simp [uS, upd]) ?_
        refine x_bipush (v := (110)) C 44 dX5_runMacro_42 (by decide) rfl ?_
        refine x_icmp_eq C 49 47 dX5_runMacro_44 (by decide) rfl (fun zk44 => ?_) (fun zk44 => ?_)
        · have hT1 := hS1 T (flC n T i) (chK_fl (flC_c _ _ _)) hT
          refine x_aload_n C 50 dX5_runMacro_49 rfl rfl ?_
          refine x_aload_n C 51 dX5_runMacro_50 rfl rfl ?_
          refine xc_get C 54 0 0 (by decide) (show 0 < 1 by decide) rfl fg_X5_runMacro_46 rfl dX5_runMacro_51 rfl ?_
          refine x_iload_n C 55 dX5_runMacro_54 rfl rfl ?_
          refine xc_callV_q C 58 0 0 3 3 3 1 (cC_get hl (j := 3) (by decide) (i := i) (by omega) (hN.1 3 (by decide)).1 (hN.1 3 (by decide)).2) rfl gX5_runMacro_Jx4a65c_get_915e3 ⟨rfl, by decide, by decide, rfl⟩ ⟨Nat.le_of_ble_eq_true rfl, Nat.le_of_ble_eq_true rfl⟩ rfl (by decide) (show 3 < 4 by decide) rfl rfl rfl (Nat.le_of_ble_eq_true rfl) ⟨Nat.le_of_ble_eq_true rfl, Nat.le_of_ble_eq_true rfl⟩ dX5_runMacro_55 rfl rfl rfl (fun r6 w6 h6 => ?_)
          obtain ⟨rfl, rfl⟩ := h6
          refine x_topq (show _ = Value.ref (A 10 i) from rfl) ?_
          refine xc_castS C 61 10 i (by decide) (show i < n 3 from by omega) rfl rfl (List.mem_cons_of_mem _ (List.mem_append_left _ (List.mem_append_left _ (List.mem_append_left _ (List.mem_append_left _ (List.mem_append_left _ (List.mem_append_left _ (List.mem_append_left _ (List.mem_append_left _ (List.mem_append_left _ (List.mem_append_left _ (List.mem_of_getElem? (i := 2) rfl)))))))))))) dX5_runMacro_58 rfl ?_
          refine xc_callV_v C 64 0 0 0 0 9 1 (cC_doStep hl (S := (uS T 0 0 3 (flC n T i))) hN (show i < n 3 by omega) ((hP _ hT1).2.2.2 i (by omega)) (hP _ hT1).1 (hP _ hT1).2.1 (hP _ hT1).2.2.1 ((flC_u n T i _).trans zk44)) rfl gX5_runMacro_X5_doStep ⟨rfl, by decide, by decide, rfl⟩ ⟨Nat.le_of_ble_eq_true rfl, Nat.le_of_ble_eq_true rfl⟩ rfl (by decide) (show 0 < 1 by decide) rfl rfl rfl (Nat.le_of_ble_eq_true rfl) ⟨Nat.le_of_ble_eq_true rfl, Nat.le_of_ble_eq_true rfl⟩ dX5_runMacro_61 rfl rfl rfl (fun w7 h7 => ?_)
          subst h7
          refine x_iinc (v := nI (i + 1)) C 67 rfl dX5_runMacro_64 (iinc1 _) (by decide) rfl rfl ?_
          refine x_goto C 8 dX5_runMacro_67 (by decide) ?_
          exact ih (i + 1) _ _ (by omega) (hS2 _ e2 i hT1 (by omega) ((flC_u n T i _).trans zk44)) (by rw [hr, rmC, if_pos zk44])
        · refine x_iload_n C 48 dX5_runMacro_47 rfl rfl ?_
          exact x_zret C0 dX5_runMacro_48 (Nat.le_of_ble_eq_true rfl) (Nat.le_of_ble_eq_true rfl) ⟨_, rfl, ⟨by rw [hr, rmC, if_neg zk44], by rw [hr, rmC, if_neg zk44]⟩⟩
  exact lp8 (n 3) 0 _ _ (by omega) (hS1 S 110 (chK_nI (q := 110) (by decide)) h0) rfl
end CC
