/-! what the reference's methods answer, as functions of its rows -/
theorem lc_lt (x y : Int64) : lg_cmp x y < 0 ↔ x < y := by
  have h := lg_cmp_ge x y
  constructor
  · intro q
    rcases Int64.lt_or_le x y with z | z
    · exact z
    · exact absurd (h.mpr z) (by rw [Int32.le_iff_toInt_le]; rw [Int32.lt_iff_toInt_lt] at q; omega)
  · intro q
    rcases Int32.lt_or_le (lg_cmp x y) 0 with z | z
    · exact z
    · exact absurd (h.mp z) (by rw [Int64.le_iff_toInt_le]; rw [Int64.lt_iff_toInt_lt] at q; omega)
theorem lc_gt (x y : Int64) : 0 < lg_cmp x y ↔ y < x := by
  unfold lg_cmp
  by_cases h : x > y
  · simp [h]
  · rw [if_neg h]
    by_cases h2 : x = y
    · rw [if_pos h2]
      exact ⟨fun q => absurd q (by decide), fun q => absurd q h⟩
    · rw [if_neg h2]
      exact ⟨fun q => absurd q (by decide), fun q => absurd q h⟩
def inB (x y z : Int64) : Bool := decide (y ≤ x) && decide (x ≤ z)
def chB (x : Int32) : Bool := inB x.toInt64 0 11
def lvB (x : Int32) : Bool := inB x.toInt64 0 255
def upB (n : Nat) (x : Int32) : Bool := inB x.toInt64 0 (nI n - 1).toInt64
theorem inB_int (x y z : Int32) : inB x.toInt64 y.toInt64 z.toInt64 = true ↔ y.toInt ≤ x.toInt ∧ x.toInt ≤ z.toInt := by
  simp [inB, Int64.le_iff_toInt_le]
theorem chB_iff {x : Int32} : chB x = true ↔ ∃ c, c < 12 ∧ x = nI c := by
  have h : chB x = inB x.toInt64 (0 : Int32).toInt64 (11 : Int32).toInt64 := rfl
  rw [h, inB_int]
  constructor
  · intro ⟨h1, h2⟩
    have h3 : vp_in x 12 := vp_in_iff.mpr ⟨h1, by have : (11 : Int32).toInt = 11 := by decide
                                                  omega⟩
    exact vp_in_of h3 (by decide)
  · rintro ⟨c, hc, rfl⟩
    rw [nI_toInt (by omega), show (11 : Int32).toInt = 11 by decide, show (0 : Int32).toInt = 0 by decide]
    omega
theorem lvB_iff {x : Int32} : lvB x = true ↔ ∃ c, c < 256 ∧ x = nI c := by
  have h : lvB x = inB x.toInt64 (0 : Int32).toInt64 (255 : Int32).toInt64 := rfl
  rw [h, inB_int]
  constructor
  · intro ⟨h1, h2⟩
    have h3 : vp_in x 256 := vp_in_iff.mpr ⟨h1, by have : (255 : Int32).toInt = 255 := by decide
                                                   omega⟩
    exact vp_in_of h3 (by decide)
  · rintro ⟨c, hc, rfl⟩
    rw [nI_toInt (by omega), show (255 : Int32).toInt = 255 by decide, show (0 : Int32).toInt = 0 by decide]
    omega
theorem upB_iff {n : Nat} (hn : n < 1000) {x : Int32} : upB n x = true ↔ ∃ c, c < n ∧ x = nI c := by
  have h : upB n x = inB x.toInt64 (0 : Int32).toInt64 (nI n - 1).toInt64 := rfl
  have h1 : (nI n - 1).toInt = (n : Int) - 1 := by
    have := pk_sub_toInt (a := n) (b := 1) (by omega) (by omega)
    exact this
  rw [h, inB_int, h1]
  constructor
  · intro ⟨h1, h2⟩
    have h3 : vp_in x n := vp_in_iff.mpr ⟨h1, by omega⟩
    exact vp_in_of h3 (by omega)
  · rintro ⟨c, hc, rfl⟩
    rw [nI_toInt (by omega), show (0 : Int32).toInt = 0 by decide]
    omega
theorem chB_nI {c : Nat} (h : c < 12) : chB (nI c) = true := chB_iff.mpr ⟨c, h, rfl⟩
theorem lvB_nI {c : Nat} (h : c < 256) : lvB (nI c) = true := lvB_iff.mpr ⟨c, h, rfl⟩
theorem upB_nI {n c : Nat} (hn : n < 1000) (h : c < n) : upB n (nI c) = true := (upB_iff hn).mpr ⟨c, h, rfl⟩
/-- the first place of n from i on where num is x; i + n if none -/
def fnd (num : Nat → Int32) (x : Int32) : Nat → Nat → Nat
  | 0, i => i
  | n + 1, i => if num i = x then i else fnd num x n (i + 1)
/-- a place, or -1 -/
def atI (n k : Nat) : Int32 := if k < n then nI k else -1
theorem fnd_le (num : Nat → Int32) (x : Int32) : ∀ n i, fnd num x n i ≤ i + n
  | 0, i => Nat.le_refl i
  | n + 1, i => by
    unfold fnd
    split
    · omega
    · have := fnd_le num x n (i + 1)
      omega
theorem fnd_ge (num : Nat → Int32) (x : Int32) : ∀ n i, i ≤ fnd num x n i
  | 0, i => Nat.le_refl i
  | n + 1, i => by
    unfold fnd
    split
    · omega
    · have := fnd_ge num x n (i + 1)
      omega
theorem fnd_at (num : Nat → Int32) (x : Int32) : ∀ n i, fnd num x n i < i + n → num (fnd num x n i) = x
  | 0, i => fun h => absurd h (by unfold fnd; omega)
  | n + 1, i => fun h => by
    unfold fnd at h ⊢
    split
    · assumption
    · rename_i q
      rw [if_neg q] at h
      exact fnd_at num x n (i + 1) (by omega)
theorem fnd_no (num : Nat → Int32) (x : Int32) : ∀ n i k, i ≤ k → k < fnd num x n i → num k ≠ x
  | 0, i, k => fun h1 h2 => absurd h2 (by unfold fnd; omega)
  | n + 1, i, k => fun h1 h2 => by
    unfold fnd at h2
    split at h2
    · omega
    · rename_i q
      rcases Nat.lt_or_ge i k with z | z
      · exact fnd_no num x n (i + 1) k z h2
      · have : i = k := by omega
        subst this
        exact q
def mx (x y : Int32) : Int32 := if x < y then y else x
def mn (x y : Int32) : Int32 := if y < x then y else x
/-- one of the reference's cues over another, channel by channel -/
def cpL (x y : Nat) : Nat → Nat → (Nat → Nat → Int32) → (Nat → Nat → Int32)
  | 0, _, I => I
  | n + 1, c, I => cpL x y n (c + 1) (uI I 4 (12 * y + c) (I 4 (12 * x + c)))
def cp1 (I : Nat → Nat → Int32) (x y : Nat) : Nat → Nat → Int32 := uI (uI (uI (uI I 0 y (I 0 x)) 1 y (I 1 x)) 2 y (I 2 x)) 3 y (I 3 x)
def cpM (I : Nat → Nat → Int32) (x y : Nat) : Nat → Nat → Int32 := cpL x y 12 0 (cp1 I x y)
/-- the tracked level, from the cues below k down -/
def trk (ch bl : Nat → Int32) (c : Nat) : Nat → Int32
  | 0 => 0
  | k + 1 => if ch (12 * k + c) = -1 ∧ bl k = 0 then trk ch bl c k else mx 0 (ch (12 * k + c))
def kd : Nat → Int32
  | 0 => -1
  | n + 1 => nI n
theorem kd_dec (n : Nat) : nI n + Int32.ofInt (-1) = kd n := by
  cases n with
  | zero => decide
  | succ k => exact pk_m1 k
/-- how far a fade has come -/
def fdV (how w n t : Int32) : Int32 := if how = 108 then w * n / t else if how = 113 then w * (n * n) / (t * t) else w * (3 * n * n * t - 2 * n * n * n) / (t * t * t)
def fadF (I : Nat → Nat → Int32) (c : Nat) : Int32 := if I 10 c = 0 then I 5 c else I 5 c + fdV (I 9 c) (I 6 c - I 5 c) (I 30 6 - I 7 c) (I 8 c)
def mbB (ms : Int32) (c : Nat) : Bool := decide ((ms >>> (nI c &&& 31)) &&& 1 = 1)
def bsL (mem fad : Nat → Int32) (c : Nat) : Nat → Nat → Int32 → Int32
  | 0, _, v => v
  | n + 1, g, v => bsL mem fad c n (g + 1) (if mbB (mem g) c then mx v (fad g) else v)
def bsF (I : Nat → Nat → Int32) (ng c : Nat) : Int32 :=
  if I 11 c = 0 then bsL (I 14) (I 15) c ng 0 (fadF I c)
  else if I 12 c < 0 then fadF I c else if mbB (I 14 (I 12 c).toNatClampNeg) c = true then I 15 (I 12 c).toNatClampNeg else fadF I c
def ahd (ms : Int32) : Nat → Nat → Nat → Nat
  | 0, _, k => k
  | n + 1, i, k => ahd ms n (i + 1) (if mbB ms i then k + 1 else k)
def effV (sh sz p ph : Int32) : Int32 := if sh = 119 then sz * ph / p else if sh = 116 then (if p / 2 < ph then sz * (p - ph) / (p - p / 2) else sz * ph / (p / 2)) else if p / 2 ≤ ph then 0 else sz
def phF (x p : Int32) : Int32 := x - x / p * p
def gvF (I : Nat → Nat → Int32) (eg : Nat → Nat) (e c : Nat) : Int32 :=
  if I 22 e = 0 then 0 else if mbB (I 14 (eg e)) c = false then 0 else effV (I 17 e) (I 19 e) (I 18 e) (phF (I 30 6 - I 21 e + I 20 e * nI (ahd (I 14 (eg e)) c 0 0)) (I 18 e))
def smL (I : Nat → Nat → Int32) (eg : Nat → Nat) (c : Nat) : Nat → Nat → Int32 → Int32
  | 0, _, v => v
  | n + 1, e, v => smL I eg c n (e + 1) (v + gvF I eg e c)
def lvF (I : Nat → Nat → Int32) (eg : Nat → Nat) (ng ne c : Nat) : Int32 := if I 13 c = -1 then mn 255 (smL I eg c ne 0 (bsF I ng c)) * I 30 7 / 255 else I 13 c
/-- what the walks need of the rows: numbers of things, indices within, divisors not 0 -/
def MI (I : Nat → Nat → Int32) (eg : Nat → Nat) (nq ng ne nt : Nat) : Prop :=
  (I 30 0 = nI nq ∧ nq ≤ 16) ∧ (I 30 2 = nI ng ∧ ng ≤ 5) ∧ (I 30 3 = nI ne ∧ ne ≤ 4) ∧ (I 30 4 = nI nt ∧ nt ≤ 8) ∧
  (∀ c, c < 12 → ¬ I 12 c < 0 → ∃ g, g < ng ∧ I 12 c = nI g) ∧ (∀ c, c < 12 → ¬ I 10 c = 0 → ∃ t, 1 ≤ t ∧ t ≤ 40 ∧ I 8 c = nI t) ∧
  (∀ e, e < ne → I 16 e = nI (eg e) ∧ eg e < ng) ∧ (∀ e, e < ne → ∃ p, 2 ≤ p ∧ p ≤ 40 ∧ I 18 e = nI p)
theorem nz1 {t : Nat} (h : 1 ≤ t) (h2 : t ≤ 40) : ¬ nI t = 0 := nI_ne0 (by omega) (by omega)
theorem nz2 {t : Nat} (h : 1 ≤ t) (h2 : t ≤ 40) : ¬ nI t * nI t = 0 := by
  rw [pk_mul]
  have := Nat.mul_le_mul h2 h2
  have h3 := Nat.mul_le_mul h h
  exact nI_ne0 (by omega) (by omega)
theorem nz3 {t : Nat} (h : 1 ≤ t) (h2 : t ≤ 40) : ¬ nI t * nI t * nI t = 0 := by
  rw [pk_mul, pk_mul]
  have := Nat.mul_le_mul (Nat.mul_le_mul h2 h2) h2
  have h3 := Nat.mul_le_mul (Nat.mul_le_mul h h) h
  exact nI_ne0 (by omega) (by omega)
theorem half_of {p : Nat} (h2 : p ≤ 40) : nI p / 2 = nI (p / 2) := pk_div (d := 2) (by omega) (by decide) (by decide)
theorem nzh {p : Nat} (h : 2 ≤ p) (h2 : p ≤ 40) : ¬ nI p / 2 = 0 := by rw [half_of h2]; exact nI_ne0 (by omega) (by omega)
theorem nzr {p : Nat} (h : 2 ≤ p) (h2 : p ≤ 40) : ¬ nI p - nI p / 2 = 0 := by rw [half_of h2, pk_sub (by omega)]; exact nI_ne0 (by omega) (by omega)
theorem nI_nm1 {k : Nat} (h : k < 2 ^ 31) : ¬ nI k = -1 := fun q => by
  have h1 := congrArg Int32.toInt q
  rw [nI_toInt h, show (-1 : Int32).toInt = -1 by decide] at h1
  omega
def shB (x : Int32) : Bool := decide (x = 119) || decide (x = 116) || decide (x = 113)
def effB (sh p sz sp : Int32) : Bool := shB sh && (inB p.toInt64 2 40 && (inB sz.toInt64 1 255 && inB sp.toInt64 0 39))
def cvB (x : Int32) : Bool := decide (x = 108) || decide (x = 113) || decide (x = 115)
def cueB (x t cv : Int32) : Bool := inB x.toInt64 1 99 && (inB t.toInt64 0 40 && cvB cv)
def caB (x : Int32) : Bool := decide (x = 103) || decide (x = 98) || decide (x = 116) || decide (x = 102) || decide (x = 109) || decide (x = 112) || decide (x = 119)
def tkB (x : Int32) : Bool := inB x.toInt64 1 100
def sfL (g : Nat) : Nat → Nat → (Nat → Nat → Int32) → (Nat → Nat → Int32)
  | 0, _, I => I
  | n + 1, c, I => sfL g n (c + 1) (uI I 12 c (if mbB (I 14 g) c then nI g else I 12 c))
def sfM (I : Nat → Nat → Int32) (g lv : Nat) : Nat → Nat → Int32 := sfL g 12 0 (uI I 15 g (nI lv))
/-- how many of n from i on are not 0, with k before -/
def ctL (f : Nat → Int32) : Nat → Nat → Nat → Nat
  | 0, _, k => k
  | n + 1, i, k => ctL f n (i + 1) (if f i = 0 then k else k + 1)
theorem ctL_le (f : Nat → Int32) : ∀ n i k, ctL f n i k ≤ k + n
  | 0, _, k => Nat.le_refl k
  | n + 1, i, k => by
    unfold ctL
    split
    · have := ctL_le f n (i + 1) k
      omega
    · have := ctL_le f n (i + 1) (k + 1)
      omega
def tlL (I : Nat → Nat → Int32) : Nat → Nat → Int32 → Int32
  | 0, _, v => v
  | n + 1, i, v => tlL I n (i + 1) (mx v (if I 10 i = 0 then 0 else I 8 i - (I 30 6 - I 7 i)))
def fgL (num : Nat → Int32) (cur : Int32) : Nat → Int32 → Int32
  | 0, v => v
  | n + 1, v => fgL num cur n (if num n ≤ cur then v else nI n)
def fbL (num : Nat → Int32) (cur : Int32) : Nat → Nat → Int32 → Int32
  | 0, _, v => v
  | n + 1, i, v => fbL num cur n (i + 1) (if cur ≤ num i then v else nI i)
theorem kd_sub (n : Nat) : nI n - 1 = kd n := by
  cases n with
  | zero => decide
  | succ k => exact nI_pred k
/-- a cue is played: one channel -/
def plB (k c : Nat) (I : Nat → Nat → Int32) : Nat → Nat → Int32 :=
  if trk (I 4) (I 3) c (k + 1) = fadF I c then uI (uI I 5 c (fadF I c)) 10 c 0
  else if I 1 k ≤ 0 then uI (uI (uI (uI (uI (uI (uI (uI (uI I 5 c (fadF I c)) 10 c 0) 12 c (-1)) 10 c 0) 6 c (trk (I 4) (I 3) c (k + 1))) 7 c (I 30 6)) 8 c (I 1 k)) 9 c (I 2 k)) 5 c (trk (I 4) (I 3) c (k + 1))
  else uI (uI (uI (uI (uI (uI (uI (uI (uI I 5 c (fadF I c)) 10 c 0) 12 c (-1)) 10 c 1) 6 c (trk (I 4) (I 3) c (k + 1))) 7 c (I 30 6)) 8 c (I 1 k)) 9 c (I 2 k)) 5 c (fadF I c)
def plL (k : Nat) : Nat → Nat → (Nat → Nat → Int32) → (Nat → Nat → Int32)
  | 0, _, I => I
  | n + 1, c, I => plL k n (c + 1) (plB k c I)
def plS (k : Nat) (I : Nat → Nat → Int32) : Nat → Nat → Int32 := plL k 12 0 (uI I 30 1 (I 0 k))
theorem plB_row (k c : Nat) (I : Nat → Nat → Int32) {r : Nat} (h5 : r ≠ 5) (h6 : r ≠ 6) (h7 : r ≠ 7) (h8 : r ≠ 8) (h9 : r ≠ 9) (h10 : r ≠ 10) (h12 : r ≠ 12) : plB k c I r = I r := by
  unfold plB
  split
  · simp only [uI_n _ _ _ h5, uI_n _ _ _ h10]
  · split <;> simp only [uI_n _ _ _ h5, uI_n _ _ _ h6, uI_n _ _ _ h7, uI_n _ _ _ h8, uI_n _ _ _ h9, uI_n _ _ _ h10, uI_n _ _ _ h12]
theorem plL_row (k : Nat) {r : Nat} (h5 : r ≠ 5) (h6 : r ≠ 6) (h7 : r ≠ 7) (h8 : r ≠ 8) (h9 : r ≠ 9) (h10 : r ≠ 10) (h12 : r ≠ 12) : ∀ (n c : Nat) (I : Nat → Nat → Int32), plL k n c I r = I r
  | 0, _, _ => rfl
  | n + 1, c, I => by rw [plL, plL_row k h5 h6 h7 h8 h9 h10 h12 n, plB_row k c I h5 h6 h7 h8 h9 h10 h12]
theorem plS_cur (k : Nat) (I : Nat → Nat → Int32) : plS k I 30 1 = I 0 k := by
  rw [plS, plL_row k (by decide) (by decide) (by decide) (by decide) (by decide) (by decide) (by decide), uI_s]
  rfl
/-- a fade that goes on has a time -/
def HT (I : Nat → Nat → Int32) : Prop := ∀ c, c < 12 → ¬ I 10 c = 0 → ∃ t, 1 ≤ t ∧ t ≤ 40 ∧ I 8 c = nI t
theorem plB_ht {k c : Nat} {I : Nat → Nat → Int32} (h : HT I) (hT : ∃ t, t ≤ 40 ∧ I 1 k = nI t) : HT (plB k c I) := by
  intro d hd
  unfold plB
  split
  · intro q
    by_cases e : d = c
    · subst e
      exact absurd (by simp [uI, upd]) q
    · have : I 10 d ≠ 0 := by simpa [uI, upd, e] using q
      simpa [uI, upd, e] using h d hd this
  · split
    · intro q
      by_cases e : d = c
      · subst e
        exact absurd (by simp [uI, upd]) q
      · have : I 10 d ≠ 0 := by simpa [uI, upd, e] using q
        simpa [uI, upd, e] using h d hd this
    · rename_i q1
      intro q
      by_cases e : d = c
      · subst e
        obtain ⟨t, h1, h2⟩ := hT
        refine ⟨t, ?_, h1, by simp [uI, upd, h2]⟩
        rcases Nat.eq_zero_or_pos t with z | z
        · subst z
          rw [h2] at q1
          exact absurd (by decide) q1
        · exact z
      · have : I 10 d ≠ 0 := by simpa [uI, upd, e] using q
        simpa [uI, upd, e] using h d hd this
/-! plays, macros, time: what the walks need -/
def HC (I : Nat → Nat → Int32) : Prop := ∀ j, j < 16 → vp_nar .char (I 2 j) = I 2 j ∧ vp_nar .boolean (I 3 j) = I 3 j
theorem cpL_row (x y : Nat) {r : Nat} (h : r ≠ 4) : ∀ (n c : Nat) (I : Nat → Nat → Int32), cpL x y n c I r = I r
  | 0, _, _ => rfl
  | n + 1, c, I => by rw [cpL, cpL_row x y h n, uI_n _ _ _ h]
theorem cpM_row (I : Nat → Nat → Int32) (x y : Nat) {r : Nat} (h0 : r ≠ 0) (h1 : r ≠ 1) (h2 : r ≠ 2) (h3 : r ≠ 3) (h4 : r ≠ 4) : cpM I x y r = I r := by
  rw [cpM, cpL_row x y h4, cp1, uI_n _ _ _ h3, uI_n _ _ _ h2, uI_n _ _ _ h1, uI_n _ _ _ h0]
theorem cpM_hc {I : Nat → Nat → Int32} {x y : Nat} (hx : x < 16) (h : HC I) : HC (cpM I x y) := by
  intro j hj
  have e2 : cpM I x y 2 = upd (I 2) y (I 2 x) := by rw [cpM, cpL_row x y (by decide)]; rfl
  have e3 : cpM I x y 3 = upd (I 3) y (I 3 x) := by rw [cpM, cpL_row x y (by decide)]; rfl
  rw [e2, e3]
  unfold upd
  by_cases e : j = y
  · simp only [e, if_true]
    exact h x hx
  · simp only [e, if_false]
    exact h j hj
def rmL : Nat → Nat → (Nat → Nat → Int32) → (Nat → Nat → Int32)
  | 0, _, I => I
  | n + 1, i, I => rmL n (i + 1) (cpM I (i + 1) i)
/-- a cue's place: from above down, each with a higher number moved up -/
def acL (x : Int32) : Nat → (Nat → Nat → Int32) → Nat × (Nat → Nat → Int32)
  | 0, I => (0, I)
  | n + 1, I => if I 0 n ≤ x then (n + 1, I) else acL x n (cpM I n (n + 1))
def clL (i : Nat) : Nat → Nat → (Nat → Nat → Int32) → (Nat → Nat → Int32)
  | 0, _, I => I
  | n + 1, c, I => clL i n (c + 1) (uI I 4 (12 * i + c) (-1))
theorem clL_row (i : Nat) {r : Nat} (h : r ≠ 4) : ∀ (n c : Nat) (I : Nat → Nat → Int32), clL i n c I r = I r
  | 0, _, _ => rfl
  | n + 1, c, I => by rw [clL, clL_row i h n, uI_n _ _ _ h]
def acN (J : Nat → Nat → Int32) (i : Nat) (x t cv : Int32) : Nat → Nat → Int32 := clL i 12 0 (uI (uI (uI (uI J 0 i x) 1 i t) 2 i cv) 3 i 0)
def acM (I : Nat → Nat → Int32) (nq : Nat) (x t cv : Int32) : Nat → Nat → Int32 :=
  uI (acN (acL x nq (uI I 30 8 0)).2 (acL x nq (uI I 30 8 0)).1 x t cv) 30 0 (nI (nq + 1))
/-- time: fades that end, the energy of the levels, ticks -/
def ptL : Nat → Nat → (Nat → Nat → Int32) → (Nat → Nat → Int32)
  | 0, _, I => I
  | n + 1, c, I => ptL n (c + 1) (if I 10 c = 0 then I else if I 30 6 - I 7 c = I 8 c then uI (uI I 10 c 0) 5 c (I 6 c) else I)
theorem ptL_row {r : Nat} (h : r ≠ 10) (h5 : r ≠ 5) : ∀ (n c : Nat) (I : Nat → Nat → Int32), ptL n c I r = I r
  | 0, _, _ => rfl
  | n + 1, c, I => by
    rw [ptL, ptL_row h h5 n]
    split
    · rfl
    · split
      · rw [uI_n _ _ _ h5, uI_n _ _ _ h]
      · rfl
theorem ptL_10 (d : Nat) : ∀ (n c : Nat) (I : Nat → Nat → Int32), ¬ ptL n c I 10 d = 0 → ¬ I 10 d = 0
  | 0, _, _ => id
  | n + 1, c, I => fun h => by
    rw [ptL] at h
    have h2 := ptL_10 d n (c + 1) _ h
    split at h2
    · exact h2
    · split at h2
      · intro q
        apply h2
        by_cases e : d = c <;> simp [uI, upd, e, q]
      · exact h2
def enL (I : Nat → Nat → Int32) (eg : Nat → Nat) (ng ne : Nat) : Nat → Nat → Int64 → Int64
  | 0, _, v => v
  | n + 1, c, v => enL I eg ng ne n (c + 1) (v + (lvF I eg ng ne c).toInt64)
def tkI (I : Nat → Nat → Int32) : Nat → Nat → Int32 := ptL 12 0 (uI I 30 6 (I 30 6 + 1))
def tkL (eg : Nat → Nat) (ng ne : Nat) : Nat → (Nat → Nat → Int32) → Int64 → (Nat → Nat → Int32) × Int64
  | 0, I, v => (I, v)
  | n + 1, I, v => tkL eg ng ne n (tkI I) (enL (tkI I) eg ng ne 12 0 v)
theorem MI_tk {I : Nat → Nat → Int32} {eg : Nat → Nat} {nq ng ne nt : Nat} (h : MI I eg nq ng ne nt) : MI (tkI I) eg nq ng ne nt := by
  obtain ⟨h0, h2, h3, h4, hs, ht, he, hp⟩ := h
  have e30 : tkI I 30 = upd (I 30) 6 (I 30 6 + 1) := by rw [tkI, ptL_row (by decide) (by decide)]; rfl
  have er : ∀ r, r ≠ 10 → r ≠ 5 → r ≠ 30 → tkI I r = I r := fun r a b c => by rw [tkI, ptL_row a b, uI_n _ _ _ c]
  refine ⟨?_, ?_, ?_, ?_, ?_, ?_, ?_, ?_⟩
  · rw [e30]; exact h0
  · rw [e30]; exact h2
  · rw [e30]; exact h3
  · rw [e30]; exact h4
  · rw [er 12 (by decide) (by decide) (by decide)]; exact hs
  · intro c hc q
    rw [er 8 (by decide) (by decide) (by decide)]
    have q2 : ¬ (uI I 30 6 (I 30 6 + 1)) 10 c = 0 := ptL_10 c 12 0 (uI I 30 6 (I 30 6 + 1)) q
    rw [uI_n _ _ _ (by decide)] at q2
    exact ht c hc q2
  · rw [er 16 (by decide) (by decide) (by decide)]; exact he
  · rw [er 18 (by decide) (by decide) (by decide)]; exact hp
/-- ranks -/
def rkL (f : Nat → Int32) (c : Nat) : Nat → Nat → Nat → Nat
  | 0, _, k => k
  | n + 1, i, k => rkL f c n (i + 1) (if f c < f i ∨ (f i = f c ∧ i < c) then k + 1 else k)
theorem rkL_le (f : Nat → Int32) (c : Nat) : ∀ n i k, rkL f c n i k ≤ k + n
  | 0, _, k => Nat.le_refl k
  | n + 1, i, k => by
    unfold rkL
    split
    · have := rkL_le f c n (i + 1) (k + 1)
      omega
    · have := rkL_le f c n (i + 1) k
      omega
def cbL (f : Nat → Int32) (r : Nat) : Nat → Nat → Int32 → Int32
  | 0, _, v => v
  | n + 1, c, v => cbL f r n (c + 1) (if rkL f c 12 0 0 = r then nI c else v)
def ltL (f : Nat → Int32) : Nat → Nat → Nat → Nat
  | 0, _, k => k
  | n + 1, i, k => ltL f n (i + 1) (if f i ≤ 0 then k else k + 1)
theorem ltL_le (f : Nat → Int32) : ∀ n i k, ltL f n i k ≤ k + n
  | 0, _, k => Nat.le_refl k
  | n + 1, i, k => by
    unfold ltL
    split
    · have := ltL_le f n (i + 1) k
      omega
    · have := ltL_le f n (i + 1) (k + 1)
      omega
def npL (pk : Nat → Int32) : Nat → Nat → Nat → Nat
  | 0, _, k => k
  | n + 1, i, k => npL pk n (i + 1) (if pk i = -1 then k + 1 else k)
def spL (pk f : Nat → Int32) : Nat → Nat → Int32 → Int32
  | 0, _, v => v
  | n + 1, i, v => spL pk f n (i + 1) (v + (if pk i = -1 then f i else 0))
theorem npL_le (pk : Nat → Int32) : ∀ n i k, npL pk n i k ≤ k + n
  | 0, _, k => Nat.le_refl k
  | n + 1, i, k => by
    unfold npL
    split
    · have := npL_le pk n (i + 1) (k + 1)
      omega
    · have := npL_le pk n (i + 1) k
      omega
theorem litNN : ∀ k, k < 13 → vf_n32 (FP.fdiv (FP.i2f (nI k)) 1094713344) := by unfold vf_n32; decide +kernel
