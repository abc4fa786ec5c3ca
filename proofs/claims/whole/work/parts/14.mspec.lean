/-! what the reference's methods answer, as functions of its rows -/
theorem lc_lt (x y : Int64) : lg_cmp x y < 0 ↔ x < y := by
  have h := lg_cmp_ge x y
  constructor
  · intro q
    rcases Int64.lt_or_le x y with z | z
    · exact z
    · exact absurd (h.mpr z) (by rw [Int32.le_iff_toInt_le]; rw [Int32.lt_iff_toInt_lt] at q; omega)
  · intro q
    rcases Int32.lt_or_le (lg_cmp x y) 0 with z | z
    · exact z
    · exact absurd (h.mp z) (by rw [Int64.le_iff_toInt_le]; rw [Int64.lt_iff_toInt_lt] at q; omega)
theorem lc_gt (x y : Int64) : 0 < lg_cmp x y ↔ y < x := by
  unfold lg_cmp
  by_cases h : x > y
  · simp [h]
  · rw [if_neg h]
    by_cases h2 : x = y
    · rw [if_pos h2]
      exact ⟨fun q => absurd q (by decide), fun q => absurd q h⟩
    · rw [if_neg h2]
      exact ⟨fun q => absurd q (by decide), fun q => absurd q h⟩
def inB (x y z : Int64) : Bool := decide (y ≤ x) && decide (x ≤ z)
def chB (x : Int32) : Bool := inB x.toInt64 0 11
def lvB (x : Int32) : Bool := inB x.toInt64 0 255
def upB (n : Nat) (x : Int32) : Bool := inB x.toInt64 0 (nI n - 1).toInt64
theorem inB_int (x y z : Int32) : inB x.toInt64 y.toInt64 z.toInt64 = true ↔ y.toInt ≤ x.toInt ∧ x.toInt ≤ z.toInt := by
  simp [inB, Int64.le_iff_toInt_le]
theorem chB_iff {x : Int32} : chB x = true ↔ ∃ c, c < 12 ∧ x = nI c := by
  have h : chB x = inB x.toInt64 (0 : Int32).toInt64 (11 : Int32).toInt64 := rfl
  rw [h, inB_int]
  constructor
  · intro ⟨h1, h2⟩
    have h3 : vp_in x 12 := vp_in_iff.mpr ⟨h1, by have : (11 : Int32).toInt = 11 := by decide
                                                  omega⟩
    exact vp_in_of h3 (by decide)
  · rintro ⟨c, hc, rfl⟩
    rw [nI_toInt (by omega), show (11 : Int32).toInt = 11 by decide, show (0 : Int32).toInt = 0 by decide]
    omega
theorem lvB_iff {x : Int32} : lvB x = true ↔ ∃ c, c < 256 ∧ x = nI c := by
  have h : lvB x = inB x.toInt64 (0 : Int32).toInt64 (255 : Int32).toInt64 := rfl
  rw [h, inB_int]
  constructor
  · intro ⟨h1, h2⟩
    have h3 : vp_in x 256 := vp_in_iff.mpr ⟨h1, by have : (255 : Int32).toInt = 255 := by decide
                                                   omega⟩
    exact vp_in_of h3 (by decide)
  · rintro ⟨c, hc, rfl⟩
    rw [nI_toInt (by omega), show (255 : Int32).toInt = 255 by decide, show (0 : Int32).toInt = 0 by decide]
    omega
theorem upB_iff {n : Nat} (hn : n < 1000) {x : Int32} : upB n x = true ↔ ∃ c, c < n ∧ x = nI c := by
  have h : upB n x = inB x.toInt64 (0 : Int32).toInt64 (nI n - 1).toInt64 := rfl
  have h1 : (nI n - 1).toInt = (n : Int) - 1 := by
    have := pk_sub_toInt (a := n) (b := 1) (by omega) (by omega)
    exact this
  rw [h, inB_int, h1]
  constructor
  · intro ⟨h1, h2⟩
    have h3 : vp_in x n := vp_in_iff.mpr ⟨h1, by omega⟩
    exact vp_in_of h3 (by omega)
  · rintro ⟨c, hc, rfl⟩
    rw [nI_toInt (by omega), show (0 : Int32).toInt = 0 by decide]
    omega
theorem chB_nI {c : Nat} (h : c < 12) : chB (nI c) = true := chB_iff.mpr ⟨c, h, rfl⟩
theorem lvB_nI {c : Nat} (h : c < 256) : lvB (nI c) = true := lvB_iff.mpr ⟨c, h, rfl⟩
theorem upB_nI {n c : Nat} (hn : n < 1000) (h : c < n) : upB n (nI c) = true := (upB_iff hn).mpr ⟨c, h, rfl⟩
/-- the first place of n from i on where num is x; i + n if none -/
def fnd (num : Nat → Int32) (x : Int32) : Nat → Nat → Nat
  | 0, i => i
  | n + 1, i => if num i = x then i else fnd num x n (i + 1)
/-- a place, or -1 -/
def atI (n k : Nat) : Int32 := if k < n then nI k else -1
theorem fnd_le (num : Nat → Int32) (x : Int32) : ∀ n i, fnd num x n i ≤ i + n
  | 0, i => Nat.le_refl i
  | n + 1, i => by
    unfold fnd
    split
    · omega
    · have := fnd_le num x n (i + 1)
      omega
theorem fnd_ge (num : Nat → Int32) (x : Int32) : ∀ n i, i ≤ fnd num x n i
  | 0, i => Nat.le_refl i
  | n + 1, i => by
    unfold fnd
    split
    · omega
    · have := fnd_ge num x n (i + 1)
      omega
theorem fnd_at (num : Nat → Int32) (x : Int32) : ∀ n i, fnd num x n i < i + n → num (fnd num x n i) = x
  | 0, i => fun h => absurd h (by unfold fnd; omega)
  | n + 1, i => fun h => by
    unfold fnd at h ⊢
    split
    · assumption
    · rename_i q
      rw [if_neg q] at h
      exact fnd_at num x n (i + 1) (by omega)
theorem fnd_no (num : Nat → Int32) (x : Int32) : ∀ n i k, i ≤ k → k < fnd num x n i → num k ≠ x
  | 0, i, k => fun h1 h2 => absurd h2 (by unfold fnd; omega)
  | n + 1, i, k => fun h1 h2 => by
    unfold fnd at h2
    split at h2
    · omega
    · rename_i q
      rcases Nat.lt_or_ge i k with z | z
      · exact fnd_no num x n (i + 1) k z h2
      · have : i = k := by omega
        subst this
        exact q
def mx (x y : Int32) : Int32 := if x < y then y else x
def mn (x y : Int32) : Int32 := if y < x then y else x
/-- one of the reference's cues over another, channel by channel -/
def cpL (x y : Nat) : Nat → Nat → (Nat → Nat → Int32) → (Nat → Nat → Int32)
  | 0, _, I => I
  | n + 1, c, I => cpL x y n (c + 1) (uI I 4 (12 * y + c) (I 4 (12 * x + c)))
def cp1 (I : Nat → Nat → Int32) (x y : Nat) : Nat → Nat → Int32 := uI (uI (uI (uI I 0 y (I 0 x)) 1 y (I 1 x)) 2 y (I 2 x)) 3 y (I 3 x)
def cpM (I : Nat → Nat → Int32) (x y : Nat) : Nat → Nat → Int32 := cpL x y 12 0 (cp1 I x y)
/-- the tracked level, from the cues below k down -/
def trk (ch bl : Nat → Int32) (c : Nat) : Nat → Int32
  | 0 => 0
  | k + 1 => if ch (12 * k + c) = -1 ∧ bl k = 0 then trk ch bl c k else mx 0 (ch (12 * k + c))
def kd : Nat → Int32
  | 0 => -1
  | n + 1 => nI n
theorem kd_dec (n : Nat) : nI n + Int32.ofInt (-1) = kd n := by
  cases n with
  | zero => decide
  | succ k => exact pk_m1 k
/-- how far a fade has come -/
def fdV (how w n t : Int32) : Int32 := if how = 108 then w * n / t else if how = 113 then w * (n * n) / (t * t) else w * (3 * n * n * t - 2 * n * n * n) / (t * t * t)
def fadF (I : Nat → Nat → Int32) (c : Nat) : Int32 := if I 10 c = 0 then I 5 c else I 5 c + fdV (I 9 c) (I 6 c - I 5 c) (I 30 6 - I 7 c) (I 8 c)
def mbB (ms : Int32) (c : Nat) : Bool := decide ((ms >>> (nI c &&& 31)) &&& 1 = 1)
def bsL (mem fad : Nat → Int32) (c : Nat) : Nat → Nat → Int32 → Int32
  | 0, _, v => v
  | n + 1, g, v => bsL mem fad c n (g + 1) (if mbB (mem g) c then mx v (fad g) else v)
def bsF (I : Nat → Nat → Int32) (ng c : Nat) : Int32 :=
  if I 11 c = 0 then bsL (I 14) (I 15) c ng 0 (fadF I c)
  else if I 12 c < 0 then fadF I c else if mbB (I 14 (I 12 c).toNatClampNeg) c = true then I 15 (I 12 c).toNatClampNeg else fadF I c
def ahd (ms : Int32) : Nat → Nat → Nat → Nat
  | 0, _, k => k
  | n + 1, i, k => ahd ms n (i + 1) (if mbB ms i then k + 1 else k)
def effV (sh sz p ph : Int32) : Int32 := if sh = 119 then sz * ph / p else if sh = 116 then (if p / 2 < ph then sz * (p - ph) / (p - p / 2) else sz * ph / (p / 2)) else if p / 2 ≤ ph then 0 else sz
def phF (x p : Int32) : Int32 := x - x / p * p
def gvF (I : Nat → Nat → Int32) (eg : Nat → Nat) (e c : Nat) : Int32 :=
  if I 22 e = 0 then 0 else if mbB (I 14 (eg e)) c = false then 0 else effV (I 17 e) (I 19 e) (I 18 e) (phF (I 30 6 - I 21 e + I 20 e * nI (ahd (I 14 (eg e)) c 0 0)) (I 18 e))
def smL (I : Nat → Nat → Int32) (eg : Nat → Nat) (c : Nat) : Nat → Nat → Int32 → Int32
  | 0, _, v => v
  | n + 1, e, v => smL I eg c n (e + 1) (v + gvF I eg e c)
def lvF (I : Nat → Nat → Int32) (eg : Nat → Nat) (ng ne c : Nat) : Int32 := if I 13 c = -1 then mn 255 (smL I eg c ne 0 (bsF I ng c)) * I 30 7 / 255 else I 13 c
/-- what the walks need of the rows: numbers of things, indices within, divisors not 0 -/
def MI (I : Nat → Nat → Int32) (eg : Nat → Nat) (nq ng ne nt : Nat) : Prop :=
  (I 30 0 = nI nq ∧ nq ≤ 16) ∧ (I 30 2 = nI ng ∧ ng ≤ 5) ∧ (I 30 3 = nI ne ∧ ne ≤ 4) ∧ (I 30 4 = nI nt ∧ nt ≤ 8) ∧
  (∀ c, c < 12 → ¬ I 12 c < 0 → ∃ g, g < ng ∧ I 12 c = nI g) ∧ (∀ c, c < 12 → ¬ I 10 c = 0 → ∃ t, 1 ≤ t ∧ t ≤ 40 ∧ I 8 c = nI t) ∧
  (∀ e, e < ne → I 16 e = nI (eg e) ∧ eg e < ng) ∧ (∀ e, e < ne → ∃ p, 2 ≤ p ∧ p ≤ 40 ∧ I 18 e = nI p)
theorem nz1 {t : Nat} (h : 1 ≤ t) (h2 : t ≤ 40) : ¬ nI t = 0 := nI_ne0 (by omega) (by omega)
theorem nz2 {t : Nat} (h : 1 ≤ t) (h2 : t ≤ 40) : ¬ nI t * nI t = 0 := by
  rw [pk_mul]
  have := Nat.mul_le_mul h2 h2
  have h3 := Nat.mul_le_mul h h
  exact nI_ne0 (by omega) (by omega)
theorem nz3 {t : Nat} (h : 1 ≤ t) (h2 : t ≤ 40) : ¬ nI t * nI t * nI t = 0 := by
  rw [pk_mul, pk_mul]
  have := Nat.mul_le_mul (Nat.mul_le_mul h2 h2) h2
  have h3 := Nat.mul_le_mul (Nat.mul_le_mul h h) h
  exact nI_ne0 (by omega) (by omega)
theorem half_of {p : Nat} (h2 : p ≤ 40) : nI p / 2 = nI (p / 2) := pk_div (d := 2) (by omega) (by decide) (by decide)
theorem nzh {p : Nat} (h : 2 ≤ p) (h2 : p ≤ 40) : ¬ nI p / 2 = 0 := by rw [half_of h2]; exact nI_ne0 (by omega) (by omega)
theorem nzr {p : Nat} (h : 2 ≤ p) (h2 : p ≤ 40) : ¬ nI p - nI p / 2 = 0 := by rw [half_of h2, pk_sub (by omega)]; exact nI_ne0 (by omega) (by omega)
theorem nI_nm1 {k : Nat} (h : k < 2 ^ 31) : ¬ nI k = -1 := fun q => by
  have h1 := congrArg Int32.toInt q
  rw [nI_toInt h, show (-1 : Int32).toInt = -1 by decide] at h1
  omega
def shB (x : Int32) : Bool := decide (x = 119) || decide (x = 116) || decide (x = 113)
def effB (sh p sz sp : Int32) : Bool := shB sh && (inB p.toInt64 2 40 && (inB sz.toInt64 1 255 && inB sp.toInt64 0 39))
def cvB (x : Int32) : Bool := decide (x = 108) || decide (x = 113) || decide (x = 115)
def cueB (x t cv : Int32) : Bool := inB x.toInt64 1 99 && (inB t.toInt64 0 40 && cvB cv)
def caB (x : Int32) : Bool := decide (x = 103) || decide (x = 98) || decide (x = 116) || decide (x = 102) || decide (x = 109) || decide (x = 112) || decide (x = 119)
def tkB (x : Int32) : Bool := inB x.toInt64 1 100
def sfL (g : Nat) : Nat → Nat → (Nat → Nat → Int32) → (Nat → Nat → Int32)
  | 0, _, I => I
  | n + 1, c, I => sfL g n (c + 1) (uI I 12 c (if mbB (I 14 g) c then nI g else I 12 c))
def sfM (I : Nat → Nat → Int32) (g lv : Nat) : Nat → Nat → Int32 := sfL g 12 0 (uI I 15 g (nI lv))
/-- how many of n from i on are not 0, with k before -/
def ctL (f : Nat → Int32) : Nat → Nat → Nat → Nat
  | 0, _, k => k
  | n + 1, i, k => ctL f n (i + 1) (if f i = 0 then k else k + 1)
theorem ctL_le (f : Nat → Int32) : ∀ n i k, ctL f n i k ≤ k + n
  | 0, _, k => Nat.le_refl k
  | n + 1, i, k => by
    unfold ctL
    split
    · have := ctL_le f n (i + 1) k
      omega
    · have := ctL_le f n (i + 1) (k + 1)
      omega
def tlL (I : Nat → Nat → Int32) : Nat → Nat → Int32 → Int32
  | 0, _, v => v
  | n + 1, i, v => tlL I n (i + 1) (mx v (if I 10 i = 0 then 0 else I 8 i - (I 30 6 - I 7 i)))
def fgL (num : Nat → Int32) (cur : Int32) : Nat → Int32 → Int32
  | 0, v => v
  | n + 1, v => fgL num cur n (if num n ≤ cur then v else nI n)
def fbL (num : Nat → Int32) (cur : Int32) : Nat → Nat → Int32 → Int32
  | 0, _, v => v
  | n + 1, i, v => fbL num cur n (i + 1) (if cur ≤ num i then v else nI i)
theorem kd_sub (n : Nat) : nI n - 1 = kd n := by
  cases n with
  | zero => decide
  | succ k => exact nI_pred k
/-- a cue is played: one channel -/
def plB (k c : Nat) (I : Nat → Nat → Int32) : Nat → Nat → Int32 :=
  if trk (I 4) (I 3) c (k + 1) = fadF I c then uI (uI I 5 c (fadF I c)) 10 c 0
  else if I 1 k ≤ 0 then uI (uI (uI (uI (uI (uI (uI (uI (uI I 5 c (fadF I c)) 10 c 0) 12 c (-1)) 10 c 0) 6 c (trk (I 4) (I 3) c (k + 1))) 7 c (I 30 6)) 8 c (I 1 k)) 9 c (I 2 k)) 5 c (trk (I 4) (I 3) c (k + 1))
  else uI (uI (uI (uI (uI (uI (uI (uI (uI I 5 c (fadF I c)) 10 c 0) 12 c (-1)) 10 c 1) 6 c (trk (I 4) (I 3) c (k + 1))) 7 c (I 30 6)) 8 c (I 1 k)) 9 c (I 2 k)) 5 c (fadF I c)
def plL (k : Nat) : Nat → Nat → (Nat → Nat → Int32) → (Nat → Nat → Int32)
  | 0, _, I => I
  | n + 1, c, I => plL k n (c + 1) (plB k c I)
def plS (k : Nat) (I : Nat → Nat → Int32) : Nat → Nat → Int32 := plL k 12 0 (uI I 30 1 (I 0 k))
theorem plB_row (k c : Nat) (I : Nat → Nat → Int32) {r : Nat} (h5 : r ≠ 5) (h6 : r ≠ 6) (h7 : r ≠ 7) (h8 : r ≠ 8) (h9 : r ≠ 9) (h10 : r ≠ 10) (h12 : r ≠ 12) : plB k c I r = I r := by
  unfold plB
  split
  · simp only [uI_n _ _ _ h5, uI_n _ _ _ h10]
  · split <;> simp only [uI_n _ _ _ h5, uI_n _ _ _ h6, uI_n _ _ _ h7, uI_n _ _ _ h8, uI_n _ _ _ h9, uI_n _ _ _ h10, uI_n _ _ _ h12]
theorem plL_row (k : Nat) {r : Nat} (h5 : r ≠ 5) (h6 : r ≠ 6) (h7 : r ≠ 7) (h8 : r ≠ 8) (h9 : r ≠ 9) (h10 : r ≠ 10) (h12 : r ≠ 12) : ∀ (n c : Nat) (I : Nat → Nat → Int32), plL k n c I r = I r
  | 0, _, _ => rfl
  | n + 1, c, I => by rw [plL, plL_row k h5 h6 h7 h8 h9 h10 h12 n, plB_row k c I h5 h6 h7 h8 h9 h10 h12]
theorem plS_cur (k : Nat) (I : Nat → Nat → Int32) : plS k I 30 1 = I 0 k := by
  rw [plS, plL_row k (by decide) (by decide) (by decide) (by decide) (by decide) (by decide) (by decide), uI_s]
  rfl
/-- a fade that goes on has a time -/
def HT (I : Nat → Nat → Int32) : Prop := ∀ c, c < 12 → ¬ I 10 c = 0 → ∃ t, 1 ≤ t ∧ t ≤ 40 ∧ I 8 c = nI t
theorem plB_ht {k c : Nat} {I : Nat → Nat → Int32} (h : HT I) (hT : ∃ t, t ≤ 40 ∧ I 1 k = nI t) : HT (plB k c I) := by
  intro d hd
  unfold plB
  split
  · intro q
    by_cases e : d = c
    · subst e
      exact absurd (by simp [uI, upd]) q
    · have : I 10 d ≠ 0 := by simpa [uI, upd, e] using q
      simpa [uI, upd, e] using h d hd this
  · split
    · intro q
      by_cases e : d = c
      · subst e
        exact absurd (by simp [uI, upd]) q
      · have : I 10 d ≠ 0 := by simpa [uI, upd, e] using q
        simpa [uI, upd, e] using h d hd this
    · rename_i q1
      intro q
      by_cases e : d = c
      · subst e
        obtain ⟨t, h1, h2⟩ := hT
        refine ⟨t, ?_, h1, by simp [uI, upd, h2]⟩
        rcases Nat.eq_zero_or_pos t with z | z
        · subst z
          rw [h2] at q1
          exact absurd (by decide) q1
        · exact z
      · have : I 10 d ≠ 0 := by simpa [uI, upd, e] using q
        simpa [uI, upd, e] using h d hd this
