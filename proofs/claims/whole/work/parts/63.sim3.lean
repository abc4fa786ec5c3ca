/-! ranks, means, members' bits, cues put in and taken out: class and reference alike -/
section S3
variable {n cap g : Nat → Nat} {en e : Int64} {S T : Nat → Nat → Nat → Int32} {I J : Nat → Nat → Int32} {q ng ne nt c : Nat}
theorem lt_eq {f h : Nat → Int32} : ∀ (m i k : Nat), (∀ j, i ≤ j → j < i + m → f j = h j) → ltL f m i k = ltL h m i k
  | 0, _, _, _ => rfl
  | m + 1, i, k, hh => by
    rw [ltL, ltL, hh i (Nat.le_refl i) (by omega)]
    exact lt_eq m (i + 1) _ (fun j a b => hh j (by omega) (by omega))
theorem np_eq {f h : Nat → Int32} : ∀ (m i k : Nat), (∀ j, i ≤ j → j < i + m → f j = h j) → npL f m i k = npL h m i k
  | 0, _, _, _ => rfl
  | m + 1, i, k, hh => by
    rw [npL, npL, hh i (Nat.le_refl i) (by omega)]
    exact np_eq m (i + 1) _ (fun j a b => hh j (by omega) (by omega))
theorem sp_eq {f h a b : Nat → Int32} : ∀ (m i : Nat) (v : Int32), (∀ j, i ≤ j → j < i + m → f j = h j ∧ a j = b j) → spL f a m i v = spL h b m i v
  | 0, _, _, _ => rfl
  | m + 1, i, v, hh => by
    rw [spL, spL, (hh i (Nat.le_refl i) (by omega)).1, (hh i (Nat.le_refl i) (by omega)).2]
    exact sp_eq m (i + 1) _ (fun j a b => hh j (by omega) (by omega))
theorem rk_eq {f h : Nat → Int32} {c : Nat} (hc : f c = h c) : ∀ (m i k : Nat), (∀ j, i ≤ j → j < i + m → f j = h j) → rkL f c m i k = rkL h c m i k
  | 0, _, _, _ => rfl
  | m + 1, i, k, hh => by
    rw [rkL, rkL, hh i (Nat.le_refl i) (by omega), hc]
    exact rk_eq hc m (i + 1) _ (fun j a b => hh j (by omega) (by omega))
theorem cb_eq {f h : Nat → Int32} (r : Nat) (hh : ∀ j, j < 12 → f j = h j) : ∀ (m i : Nat) (v : Int32), i + m = 12 → cbL f r m i v = cbL h r m i v
  | 0, _, _, _ => rfl
  | m + 1, i, v, hm => by
    rw [cbL, cbL, rk_eq (hh i (by omega)) 12 0 0 (fun j _ b => hh j (by omega))]
    exact cb_eq r hh m (i + 1) _ (by omega)
/-! every rank has its channel -/
def rkP (f : Nat → Int32) (i c : Nat) : Prop := f c < f i ∨ (f i = f c ∧ i < c)
theorem rk_up (f : Nat → Int32) (c : Nat) : ∀ (m i k : Nat), rkL f c (m + 1) i k = if f c < f (i + m) ∨ (f (i + m) = f c ∧ i + m < c) then rkL f c m i k + 1 else rkL f c m i k
  | 0, _, _ => rfl
  | m + 1, i, k => by
    rw [rkL, rk_up f c m (i + 1), show i + 1 + m = i + (m + 1) by omega]
    rfl
theorem rkP_trans {f : Nat → Int32} {i a b : Nat} (h1 : rkP f i a) (h2 : rkP f a b) : rkP f i b := by
  rcases h1 with h1 | ⟨h1, h3⟩
  · rcases h2 with h2 | ⟨h2, h4⟩
    · exact Or.inl (Int32.lt_trans h2 h1)
    · exact Or.inl (h2 ▸ h1)
  · rcases h2 with h2 | ⟨h2, h4⟩
    · exact Or.inl (h1 ▸ h2)
    · exact Or.inr ⟨h1.trans h2, by omega⟩
theorem rkP_tot {f : Nat → Int32} {a b : Nat} (h : a ≠ b) : rkP f a b ∨ rkP f b a := by
  by_cases z : f a = f b
  · rcases Nat.lt_or_ge a b with w | w
    · exact Or.inl (Or.inr ⟨z, w⟩)
    · exact Or.inr (Or.inr ⟨z.symm, by omega⟩)
  · rcases Int32.lt_or_le (f a) (f b) with w | w
    · exact Or.inr (Or.inl w)
    · refine Or.inl (Or.inl ?_)
      rcases Int32.lt_or_le (f b) (f a) with y | y
      · exact y
      · exact absurd (Int32.le_antisymm y w) z
theorem rkP_irr {f : Nat → Int32} {a : Nat} (h : rkP f a a) : False := by
  rcases h with h | ⟨-, h⟩
  · exact Int32.lt_irrefl h
  · exact Nat.lt_irrefl a h
theorem rk_s (f : Nat → Int32) (c N : Nat) : (rkP f N c → rkL f c (N + 1) 0 0 = rkL f c N 0 0 + 1) ∧ (¬ rkP f N c → rkL f c (N + 1) 0 0 = rkL f c N 0 0) := by
  have h := rk_up f c N 0 0
  rw [Nat.zero_add] at h
  exact ⟨fun q => by rw [h, if_pos (show f c < f N ∨ (f N = f c ∧ N < c) from q)], fun q => by rw [h, if_neg (show ¬ (f c < f N ∨ (f N = f c ∧ N < c)) from q)]⟩
theorem rk_mono (f : Nat → Int32) {a b : Nat} (hab : rkP f a b) : ∀ N, rkL f a N 0 0 ≤ rkL f b N 0 0
  | 0 => Nat.le_refl _
  | N + 1 => by
    have ih := rk_mono f hab N
    have h1 := rk_s f a N
    have h2 := rk_s f b N
    by_cases z : rkP f N a
    · rw [h1.1 z, h2.1 (rkP_trans z hab)]
      omega
    · rw [h1.2 z]
      by_cases w : rkP f N b
      · rw [h2.1 w]
        omega
      · rw [h2.2 w]
        exact ih
theorem rk_lt (f : Nat → Int32) {a b : Nat} (hab : rkP f a b) : ∀ N, a < N → rkL f a N 0 0 < rkL f b N 0 0
  | 0, h => absurd h (Nat.not_lt_zero a)
  | N + 1, h => by
    have h1 := rk_s f a N
    have h2 := rk_s f b N
    by_cases y : a = N
    · subst y
      rw [h1.2 rkP_irr, h2.1 hab]
      have := rk_mono f hab a
      omega
    · have ih := rk_lt f hab N (by omega)
      by_cases z : rkP f N a
      · rw [h1.1 z, h2.1 (rkP_trans z hab)]
        omega
      · rw [h1.2 z]
        by_cases w : rkP f N b
        · rw [h2.1 w]
          omega
        · rw [h2.2 w]
          exact ih
theorem rk_sur (f : Nat → Int32) : ∀ N r, r < N → ∃ c, c < N ∧ rkL f c N 0 0 = r
  | 0, _, h => absurd h (Nat.not_lt_zero _)
  | N + 1, r, h => by
    have hN := (rk_s f N N).2 rkP_irr
    have hle := rkL_le f N N 0 0
    rcases Nat.lt_trichotomy r (rkL f N N 0 0) with z | z | z
    · obtain ⟨c, h1, h2⟩ := rk_sur f N r (by omega)
      refine ⟨c, by omega, ?_⟩
      have w : ¬ rkP f N c := fun w => by
        have := rk_mono f w N
        omega
      rw [(rk_s f c N).2 w, h2]
    · exact ⟨N, by omega, by rw [hN, z]⟩
    · obtain ⟨c, h1, h2⟩ := rk_sur f N (r - 1) (by omega)
      refine ⟨c, by omega, ?_⟩
      have w : rkP f N c := by
        rcases rkP_tot (f := f) (a := N) (b := c) (by omega) with w | w
        · exact w
        · have := rk_lt f w N h1
          omega
      rw [(rk_s f c N).1 w, h2]
      omega
theorem cb_any {f : Nat → Int32} {r : Nat} : ∀ (m i : Nat) (v w : Int32), (∃ c, i ≤ c ∧ c < i + m ∧ rkL f c 12 0 0 = r) → cbL f r m i v = cbL f r m i w
  | 0, i, _, _, ⟨c, h1, h2, _⟩ => absurd h2 (by omega)
  | m + 1, i, v, w, ⟨c, h1, h2, h3⟩ => by
    rw [cbL, cbL]
    by_cases z : rkL f i 12 0 0 = r
    · rw [if_pos z, if_pos z]
    · rw [if_neg z, if_neg z]
      refine cb_any m (i + 1) v w ⟨c, ?_, by omega, h3⟩
      rcases Nat.lt_or_ge i c with y | y
      · omega
      · have : c = i := by omega
        rw [this] at h3
        exact absurd h3 z
theorem cb_all {f h : Nat → Int32} {r : Nat} (hr : r < 12) (hh : ∀ j, j < 12 → f j = h j) (v w : Int32) : cbL f r 12 0 v = cbL h r 12 0 w := by
  rw [cb_eq r hh 12 0 v rfl]
  obtain ⟨c, h1, h2⟩ := rk_sur h 12 r hr
  exact cb_any 12 0 v w ⟨c, Nat.zero_le c, by omega, h2⟩
/-! the mean is a number -/
def okD (v : FP.Core.Datum) : Prop := match v with
  | .nan => False
  | .inf _ => True
  | .fin _ c q => c < 9007199254740992 ∧ q ≤ 971
theorem b64t : FP.Core.b64.tails = 4503599627370496 := by decide
theorem b64e : FP.Core.b64.exps = 2048 := by decide
theorem b64q : FP.Core.b64.qmin = -1074 := by decide
theorem b64x : FP.Core.b64.qmax = 971 := by decide
theorem b64p : 2 ^ FP.Core.b64.p = 9007199254740992 := by decide
theorem vf_mod (x : UInt64) : vf_n64 x ↔ x.toNat % 9223372036854775808 ≤ 9218868437227405312 := by
  unfold vf_n64
  rw [UInt64.le_iff_toNat_le, UInt64.toNat_and]
  have h1 : (0x7fffffffffffffff : UInt64).toNat = 2 ^ 63 - 1 := by decide
  have h2 : (0x7ff0000000000000 : UInt64).toNat = 9218868437227405312 := by decide
  rw [h1, h2, Nat.and_two_pow_sub_one_eq_mod]
theorem enc64 (v : FP.Core.Datum) (h : okD v) : vf_n64 (UInt64.ofNat (FP.Core.encode FP.Core.b64 v)) := by
  rw [vf_mod, UInt64.toNat_ofNat']
  cases v with
  | nan => exact h.elim
  | inf s =>
    show (FP.Core.assemble FP.Core.b64 s (FP.Core.b64.exps - 1) 0) % 2 ^ 64 % 9223372036854775808 ≤ _
    unfold FP.Core.assemble
    rw [b64t, b64e]
    cases s <;> decide
  | fin s c q =>
    obtain ⟨h1, h2⟩ := h
    show (if c < FP.Core.b64.tails then FP.Core.assemble FP.Core.b64 s 0 c else FP.Core.assemble FP.Core.b64 s ((q - FP.Core.b64.qmin).toNat + 1) (c - FP.Core.b64.tails)) % 2 ^ 64 % 9223372036854775808 ≤ 9218868437227405312
    have hf : (false : Bool).toNat = 0 := rfl
    have ht : (true : Bool).toNat = 1 := rfl
    have hp : (2 : Nat) ^ 64 = 18446744073709551616 := by decide
    rw [b64t, b64q, hp]
    split
    · rename_i z
      unfold FP.Core.assemble
      rw [b64t, b64e]
      cases s
      · rw [hf]
        omega
      · rw [ht]
        omega
    · rename_i z
      unfold FP.Core.assemble
      rw [b64t, b64e]
      have h3 : (q - -1074).toNat + 1 ≤ 2046 := by omega
      generalize (q - -1074).toNat + 1 = k at h3
      cases s
      · rw [hf]
        omega
      · rw [ht]
        omega
theorem okD_bound {s : Bool} {c : Nat} {q : Int} (h : c < 9007199254740992) : okD (FP.Core.bound FP.Core.b64 s c q) := by
  unfold FP.Core.bound
  rw [b64x]
  split
  · exact ⟨h, by assumption⟩
  · trivial
theorem okD_round (s : Bool) (num den : Nat) (e : Int) : okD (FP.Core.roundRatio FP.Core.b64 s num den e) := by
  unfold FP.Core.roundRatio
  split
  · rw [b64q]
    exact ⟨by decide, by decide⟩
  · unfold FP.Core.roundAt FP.Core.settle
    rw [b64p]
    split
    · exact okD_bound (by assumption)
    · exact okD_bound (by rw [b64t]; decide)
theorem dec_no {x : UInt64} (h : vf_n64 x) : FP.Core.decode FP.Core.b64 x.toNat ≠ .nan := by
  rw [vf_mod] at h
  unfold FP.Core.decode FP.Core.fieldE FP.Core.fieldT
  rw [b64t, b64e]
  split
  · split
    · exact fun q => by cases q
    · omega
  · split <;> exact fun q => by cases q
theorem quo_ok {x y : FP.Core.Datum} {s : Bool} {c : Nat} {q : Int} (hx : x ≠ .nan) (hy : y = .fin s c q) (hc : c ≠ 0) : okD (FP.Core.quotient FP.Core.b64 x y) := by
  subst hy
  cases x with
  | nan => exact absurd rfl hx
  | inf t => trivial
  | fin t d r =>
    show okD (if c = 0 then (if d = 0 then FP.Core.Datum.nan else FP.Core.Datum.inf (t != s)) else FP.Core.roundRatio FP.Core.b64 (t != s) d c (r - q))
    rw [if_neg hc]
    exact okD_round _ _ _ _
theorem i2d_n (s : Int32) : vf_n64 (FP.i2d s) := by
  show vf_n64 (UInt64.ofNat (FP.Core.encode FP.Core.b64 (FP.Core.round FP.Core.b64 (FP.Core.ofInt s.toInt))))
  exact enc64 _ (okD_round _ _ _ _)
theorem dec_k : ∀ k, k < 13 → k ≠ 0 → ∃ s c q, FP.Core.decode FP.Core.b64 (FP.i2d (nI k)).toNat = .fin s c q ∧ c ≠ 0 := by
  intro k h1 h2
  have h3 : k = 1 ∨ k = 2 ∨ k = 3 ∨ k = 4 ∨ k = 5 ∨ k = 6 ∨ k = 7 ∨ k = 8 ∨ k = 9 ∨ k = 10 ∨ k = 11 ∨ k = 12 := by omega
  rcases h3 with rfl | rfl | rfl | rfl | rfl | rfl | rfl | rfl | rfl | rfl | rfl | rfl
  · exact ⟨false, 4503599627370496, -52, by decide +kernel, by decide⟩
  · exact ⟨false, 4503599627370496, -51, by decide +kernel, by decide⟩
  · exact ⟨false, 6755399441055744, -51, by decide +kernel, by decide⟩
  · exact ⟨false, 4503599627370496, -50, by decide +kernel, by decide⟩
  · exact ⟨false, 5629499534213120, -50, by decide +kernel, by decide⟩
  · exact ⟨false, 6755399441055744, -50, by decide +kernel, by decide⟩
  · exact ⟨false, 7881299347898368, -50, by decide +kernel, by decide⟩
  · exact ⟨false, 4503599627370496, -49, by decide +kernel, by decide⟩
  · exact ⟨false, 5066549580791808, -49, by decide +kernel, by decide⟩
  · exact ⟨false, 5629499534213120, -49, by decide +kernel, by decide⟩
  · exact ⟨false, 6192449487634432, -49, by decide +kernel, by decide⟩
  · exact ⟨false, 6755399441055744, -49, by decide +kernel, by decide⟩
theorem mean_n (s : Int32) {k : Nat} (h0 : ¬ k = 0) (hk : k ≤ 12) : vf_n64 (FP.ddiv (FP.i2d s) (FP.i2d (nI k))) := by
  obtain ⟨s2, c, q, h1, h2⟩ := dec_k k (by omega) h0
  show vf_n64 (UInt64.ofNat (FP.Core.encode FP.Core.b64 (FP.Core.quotient FP.Core.b64 (FP.Core.decode FP.Core.b64 (FP.i2d s).toNat) (FP.Core.decode FP.Core.b64 (FP.i2d (nI k)).toNat))))
  exact enc64 _ (quo_ok (dec_no (i2d_n s)) h1 h2)
/-! members as bits -/
def bt (x : Int32) (i : Nat) : Bool := x.toBitVec.getLsbD i
theorem b_ext {x y : Int32} (h : ∀ i, i < 32 → bt x i = bt y i) : x = y := Int32.toBitVec_inj.mp (BitVec.eq_of_getLsbD_eq (fun i hi => h i hi))
theorem b_and (x y : Int32) (i : Nat) : bt (x &&& y) i = (bt x i && bt y i) := by unfold bt; rw [Int32.toBitVec_and, BitVec.getLsbD_and]
theorem b_xor (x y : Int32) (i : Nat) : bt (x ^^^ y) i = (bt x i ^^ bt y i) := by unfold bt; rw [Int32.toBitVec_xor, BitVec.getLsbD_xor]
theorem s_l : ∀ n, n < 32 → ((nI n &&& 31).toBitVec.smod 32).toNat = n := by decide +kernel
theorem b_shl (n : Nat) (hn : n < 32) (x : Int32) {i : Nat} (hi : i < 32) : bt (x <<< (nI n &&& 31)) i = (decide (n ≤ i) && bt x (i - n)) := by
  unfold bt
  rw [Int32.toBitVec_shiftLeft]
  show (x.toBitVec <<< ((nI n &&& 31).toBitVec.smod 32).toNat).getLsbD i = _
  rw [s_l n hn, BitVec.getLsbD_shiftLeft]
  rcases Nat.lt_or_ge i n with h | h
  · simp [h, Nat.not_le.mpr h]
  · simp [hi, h, Nat.not_lt.mpr h]
theorem b_sshr (n : Nat) (hn : n < 32) (x : Int32) {i : Nat} (hi : i < 32) : bt (x >>> (nI n &&& 31)) i = if n + i < 32 then bt x (n + i) else bt x 31 := by
  unfold bt
  rw [Int32.toBitVec_shiftRight]
  show (x.toBitVec.sshiftRight ((nI n &&& 31).toBitVec.smod 32).toNat).getLsbD i = _
  rw [s_l n hn, BitVec.getLsbD_sshiftRight, BitVec.msb_eq_getLsbD_last]
  simp [hi]
theorem b_one : ∀ i, i < 32 → bt 1 i = decide (i = 0) := by decide +kernel
theorem mbB_bt (ms : Int32) {c : Nat} (hc : c < 12) : mbB ms c = bt ms c := by
  have k : bt (ms >>> (nI c &&& 31)) 0 = bt ms c := by
    rw [b_sshr c (by omega) ms (by decide), if_pos (by omega), Nat.add_zero]
  unfold mbB
  cases hb : bt ms c with
  | true =>
    refine decide_eq_true (b_ext fun i hi => ?_)
    rw [b_and, b_one i hi]
    by_cases z : i = 0
    · subst z
      rw [k, hb]
      rfl
    · rw [decide_eq_false z, Bool.and_false]
  | false =>
    refine decide_eq_false fun q => ?_
    have h2 := congrArg (fun y => bt y 0) q
    rw [b_and, k, hb, b_one 0 (by decide)] at h2
    exact absurd h2 (by decide)
theorem mbB_x (ms : Int32) {c d : Nat} (hc : c < 12) (hd : d < 12) : mbB (ms ^^^ (1 <<< (nI c &&& 31))) d = if d = c then !mbB ms d else mbB ms d := by
  rw [mbB_bt _ hd, mbB_bt _ hd, b_xor, b_shl c (by omega) 1 (by omega)]
  by_cases z : d = c
  · subst z
    rw [if_pos rfl, Nat.sub_self, b_one 0 (by decide)]
    cases bt ms d <;> simp
  · rw [if_neg z]
    by_cases w : c ≤ d
    · rw [b_one (d - c) (by omega), decide_eq_false (show ¬ d - c = 0 by omega)]
      simp
    · rw [decide_eq_false w]
      simp
theorem mbB_0 {c : Nat} (hc : c < 12) : mbB 0 c = false := by
  rw [mbB_bt _ hc]
  exact BitVec.getLsbD_zero
end S3
