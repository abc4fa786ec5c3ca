/-! what the class's methods answer, as functions of its cells -/
theorem inB_ge {x y z : Int32} (h1 : y ≤ x) (h2 : x ≤ z) : inB x.toInt64 y.toInt64 z.toInt64 = true := (inB_int x y z).mpr ⟨Int32.le_iff_toInt_le.mp h1, Int32.le_iff_toInt_le.mp h2⟩
theorem inB_lt {x y z : Int32} (h1 : x < y) : inB x.toInt64 y.toInt64 z.toInt64 = false := by
  cases h : inB x.toInt64 y.toInt64 z.toInt64 with
  | false => rfl
  | true => exact absurd (Int32.le_iff_toInt_le.mpr ((inB_int x y z).mp h).1) (Int32.not_le.mpr h1)
theorem inB_gt {x y z : Int32} (h1 : z < x) : inB x.toInt64 y.toInt64 z.toInt64 = false := by
  cases h : inB x.toInt64 y.toInt64 z.toInt64 with
  | false => rfl
  | true => exact absurd (Int32.le_iff_toInt_le.mpr ((inB_int x y z).mp h).2) (Int32.not_le.mpr h1)
/-- counts -/
def CN (n cap : Nat → Nat) : Prop := (∀ j, j < 4 → n j ≤ cap j ∧ cap j < 1000) ∧ n 0 ≤ 16 ∧ n 1 ≤ 5 ∧ n 2 ≤ 4 ∧ n 3 ≤ 8
/-- effects: their groups, their periods -/
def CE (n : Nat → Nat) (g : Nat → Nat) (S : Nat → Nat → Nat → Int32) : Prop := ∀ e, e < n 2 → g e < n 1 ∧ ∃ p, 2 ≤ p ∧ p ≤ 40 ∧ S 9 e 1 = nI p
/-- fades: their times -/
def CF (S : Nat → Nat → Nat → Int32) : Prop := ∀ c, c < 12 → ∃ t d, t ≤ 40 ∧ d ≤ t ∧ S 4 c 1 = nI t ∧ S 4 c 2 = nI d
/-- the place of a number among the cues -/
def poL (num : Nat → Int32) (x : Int32) : Nat → Nat → Nat
  | 0, i => i
  | n + 1, i => if num i < x then poL num x n (i + 1) else i
theorem poL_le (num : Nat → Int32) (x : Int32) : ∀ n i, poL num x n i ≤ i + n
  | 0, i => Nat.le_refl i
  | n + 1, i => by
    unfold poL
    split
    · have := poL_le num x n (i + 1)
      omega
    · omega
abbrev nuC (S : Nat → Nat → Nat → Int32) : Nat → Int32 := fun k => S 5 k 0
abbrev poC (S : Nat → Nat → Nat → Int32) (nq : Nat) (x : Int32) : Nat := poL (nuC S) x nq 0
theorem poC_le (S : Nat → Nat → Nat → Int32) (nq : Nat) (x : Int32) : poC S nq x ≤ nq := by
  have := poL_le (nuC S) x nq 0
  show poL (nuC S) x nq 0 ≤ nq
  omega
def hqC (S : Nat → Nat → Nat → Int32) (nq : Nat) (x : Int32) : Bool := decide (poC S nq x < nq) && decide (S 5 (poC S nq x) 0 = x)
/-- the tracked level: from the cues below k down -/
def trC (S : Nat → Nat → Nat → Int32) (c : Nat) : Nat → Int32
  | 0 => 0
  | k + 1 => if S 6 k c = -1 then (if S 5 k 3 = 0 then trC S c k else 0) else S 6 k c
/-- a channel follows a cue -/
def flS (S : Nat → Nat → Nat → Int32) (c : Nat) (tr t cv : Int32) : Nat → Nat → Nat → Int32 :=
  if S 4 c 0 = tr then uS (uS S 4 c 1 0) 4 c 2 0
  else if t = 0 then uS (uS (uS (uS S 4 c 1 0) 4 c 2 0) 4 c 7 (-1)) 4 c 0 tr
  else uS (uS (uS (uS (uS (uS (uS S 4 c 1 0) 4 c 2 0) 4 c 7 (-1)) 4 c 1 t) 4 c 3 (S 4 c 0)) 4 c 4 tr) 4 c 5 cv
def ppL (p : Nat) : Nat → Nat → (Nat → Nat → Nat → Int32) → (Nat → Nat → Nat → Int32)
  | 0, _, S => S
  | n + 1, c, S => ppL p n (c + 1) (flS S c (trC S c (p + 1)) (S 5 p 1) (S 5 p 2))
def ppS (p : Nat) (S : Nat → Nat → Nat → Int32) : Nat → Nat → Nat → Int32 := uS (ppL p 12 0 S) 0 0 0 (ppL p 12 0 S 5 p 0)
/-- a fade's part; a tick -/
def fdP (cv d n t : Int32) : Int32 := if cv = 113 then d * (n * n) / (t * t) else if cv = 115 then d * (3 * n * n * t - 2 * n * n * n) / (t * t * t) else d * n / t
def foS (S : Nat → Nat → Nat → Int32) (c : Nat) : Nat → Nat → Nat → Int32 :=
  if S 4 c 2 < S 4 c 1 then (if S 4 c 2 + 1 < S 4 c 1 then uS (uS S 4 c 2 (S 4 c 2 + 1)) 4 c 0 (S 4 c 3 + fdP (S 4 c 5) (S 4 c 4 - S 4 c 3) (S 4 c 2 + 1) (S 4 c 1)) else uS (uS S 4 c 2 (S 4 c 2 + 1)) 4 c 0 (S 4 c 4)) else S
def foL : Nat → Nat → (Nat → Nat → Nat → Int32) → (Nat → Nat → Nat → Int32)
  | 0, _, S => S
  | n + 1, c, S => foL n (c + 1) (foS S c)
/-- levels -/
def mbC (f : Nat → Int32) : Nat → Nat → Nat → Nat
  | 0, _, k => k
  | n + 1, i, k => mbC f n (i + 1) (if f i = 0 then k else k + 1)
theorem mbC_le (f : Nat → Int32) : ∀ n i k, mbC f n i k ≤ k + n
  | 0, _, k => Nat.le_refl k
  | n + 1, i, k => by
    unfold mbC
    split
    · have := mbC_le f n (i + 1) k
      omega
    · have := mbC_le f n (i + 1) (k + 1)
      omega
def hiL (S : Nat → Nat → Nat → Int32) (c : Nat) : Nat → Nat → Int32 → Int32
  | 0, _, v => v
  | n + 1, g, v => hiL S c n (g + 1) (if S 8 g c = 0 then v else mx v (S 7 g 0))
def laC (S : Nat → Nat → Nat → Int32) (ng c : Nat) : Int32 := if 0 ≤ S 4 c 7 ∧ S 4 c 7 < nI ng ∧ ¬ S 8 (S 4 c 7).toNatClampNeg c = 0 then S 7 (S 4 c 7).toNatClampNeg 0 else S 4 c 0
def bsC (S : Nat → Nat → Nat → Int32) (ng c : Nat) : Int32 := if S 4 c 6 = 0 then hiL S c ng 0 (S 4 c 0) else laC S ng c
def vlP (sh p sz ph : Int32) : Int32 := if sh = 119 then sz * ph / p else if sh = 113 then (if ph < p / 2 then sz else 0) else if ph ≤ p / 2 then sz * ph / (p / 2) else sz * (p - ph) / (p - p / 2)
def vlC (S : Nat → Nat → Nat → Int32) (e : Nat) (ticks mb : Int32) : Int32 := vlP (S 9 e 0) (S 9 e 1) (S 9 e 2) ((ticks + S 9 e 3 * mb) - (ticks + S 9 e 3 * mb) / S 9 e 1 * S 9 e 1)
def gvC (S : Nat → Nat → Nat → Int32) (g : Nat → Nat) (e c : Nat) : Int32 := if S 9 e 4 = 0 then 0 else if S 8 (g e) c = 0 then 0 else vlC S e (S 0 0 1 - S 9 e 5) (nI (mbC (S 8 (g e)) c 0 0))
def ouC (S : Nat → Nat → Nat → Int32) (c : Nat) (sum : Int32) : Int32 := if S 4 c 8 = -1 then mn sum 255 * S 0 0 2 / 255 else S 4 c 8
def saL (S : Nat → Nat → Nat → Int32) (g : Nat → Nat) (c : Nat) : Nat → Nat → Int32 → Int32
  | 0, _, v => v
  | n + 1, e, v => saL S g c n (e + 1) (v + gvC S g e c)
def f1L (ng : Nat) : Nat → Nat → (Nat → Nat → Nat → Int32) → (Nat → Nat → Nat → Int32)
  | 0, _, S => S
  | n + 1, c, S => f1L ng n (c + 1) (uS S 2 0 c (bsC S ng c))
def adL (g : Nat → Nat) (e : Nat) : Nat → Nat → Nat → (Nat → Nat → Nat → Int32) → (Nat → Nat → Nat → Int32)
  | 0, _, _, S => S
  | n + 1, c, k, S => if S 8 (g e) c = 0 then adL g e n (c + 1) k S else adL g e n (c + 1) (k + 1) (uS S 2 0 c (S 2 0 c + vlC S e (S 0 0 1 - S 9 e 5) (nI k)))
def f2L (g : Nat → Nat) : Nat → Nat → (Nat → Nat → Nat → Int32) → (Nat → Nat → Nat → Int32)
  | 0, _, S => S
  | n + 1, e, S => f2L g n (e + 1) (if S 9 e 4 = 0 then S else adL g e 12 0 0 S)
def f3L : Nat → Nat → (Nat → Nat → Nat → Int32) → (Nat → Nat → Nat → Int32)
  | 0, _, S => S
  | n + 1, c, S => f3L n (c + 1) (uS S 2 0 c (ouC S c (S 2 0 c)))
def flv (g : Nat → Nat) (ng ne : Nat) (S : Nat → Nat → Nat → Int32) : Nat → Nat → Nat → Int32 := f3L 12 0 (f2L g ne 0 (f1L ng 12 0 S))
/-- time -/
def esL (S : Nat → Nat → Nat → Int32) : Nat → Nat → Int64 → Int64
  | 0, _, v => v
  | n + 1, c, v => esL S n (c + 1) (v + (S 2 0 c).toInt64)
def tcS (g : Nat → Nat) (ng ne : Nat) (S : Nat → Nat → Nat → Int32) : Nat → Nat → Nat → Int32 := flv g ng ne (foL 12 0 (uS S 0 0 1 (S 0 0 1 + 1)))
def tcL (g : Nat → Nat) (ng ne : Nat) : Nat → (Nat → Nat → Nat → Int32) → Int64 → (Nat → Nat → Nat → Int32) × Int64
  | 0, S, v => (S, v)
  | n + 1, S, v => tcL g ng ne n (tcS g ng ne S) (esL (tcS g ng ne S) 12 0 v)
/-- groups, ranks, counts -/
def mfL (G : Nat) : Nat → Nat → (Nat → Nat → Nat → Int32) → (Nat → Nat → Nat → Int32)
  | 0, _, S => S
  | n + 1, c, S => mfL G n (c + 1) (if S 8 G c = 0 then S else uS S 4 c 7 (nI G))
def mfS (G : Nat) (lv : Int32) (S : Nat → Nat → Nat → Int32) : Nat → Nat → Nat → Int32 := uS (mfL G 12 0 S) 7 G 0 lv
def ldL (S : Nat → Nat → Nat → Int32) : Nat → Nat → Int32 → Int32
  | 0, _, v => v
  | n + 1, c, v => ldL S n (c + 1) (mx v (S 4 c 1 - S 4 c 2))
def fcL (S : Nat → Nat → Nat → Int32) : Nat → Nat → Nat → Nat
  | 0, _, k => k
  | n + 1, c, k => fcL S n (c + 1) (if S 4 c 1 - S 4 c 2 ≤ 0 then k else k + 1)
def rnC (S : Nat → Nat → Nat → Int32) : Nat → Nat → Nat → Nat
  | 0, _, k => k
  | n + 1, e, k => rnC S n (e + 1) (if S 9 e 4 = 0 then k else k + 1)
/-- a value that a char, a boolean can hold -/
def chK (v : Int32) : Prop := narrow .char (.int v) = .int v ∧ fits .char (.int v) = true
def boK (v : Int32) : Prop := narrow .boolean (.int v) = .int v ∧ vp_nar .boolean v = v ∧ fits .boolean (.int v) = true
theorem boK_bI (b : Bool) : boK (bI b) := ⟨bI_nar b, bI_arr b, bI_fit b⟩
theorem chK_nI {q : Nat} (h : q < 65536) : chK (nI q) := pk_charN h
theorem kd_neg {k : Nat} (h : k < 1000) : kd k < 0 ↔ k = 0 := by
  cases k with
  | zero => exact ⟨fun _ => rfl, fun _ => by decide⟩
  | succ m => exact ⟨fun q => absurd q (nI_pos (n := m) (by omega)), fun q => by omega⟩
theorem pw_ge {x y : Int32} (h : ¬ x < y) : y ≤ x := Int32.not_lt.mp h
theorem pw_lt {x y : Int32} (h : ¬ y ≤ x) : x < y := Int32.not_le.mp h
