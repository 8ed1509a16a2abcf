/-! the mathematical value of what both sides do: lines as rows of Int32, sizes as naturals -/
def isW (lo hi v : Int32) : Prop := ¬ v < lo ∧ ¬ hi < v
def cmp3 (x y : Int32) : Int32 := if x < y then -1 else if x = y then 0 else 1
def clampS (v lo hi : Int32) : Int32 := g_max lo (g_min hi v)
def hasSideP (x y : Int32) : Prop := isW 0 510 x ∧ isW 0 511 y
def anyB (q : Nat → Bool) : Nat → Bool
  | 0 => false
  | n + 1 => anyB q n || q n
theorem anyB_of {q : Nat → Bool} {i n : Nat} (h : i < n) (hi : q i = true) : anyB q n = true := by
  induction n with
  | zero => omega
  | succ n ih =>
    rw [anyB]
    by_cases e : i = n
    · subst e; simp [hi]
    · rw [ih (by omega)]; rfl
theorem anyB_iff {q : Nat → Bool} {n : Nat} : anyB q n = true ↔ ∃ i, i < n ∧ q i = true := by
  constructor
  · induction n with
    | zero => intro h; cases h
    | succ n ih =>
      intro h
      rw [anyB, Bool.or_eq_true] at h
      rcases h with h | h
      · obtain ⟨i, h1, h2⟩ := ih h; exact ⟨i, by omega, h2⟩
      · exact ⟨n, by omega, h⟩
  · rintro ⟨i, h1, h2⟩; exact anyB_of h1 h2
theorem anyB_no {q : Nat → Bool} {i : Nat} (h : anyB q i = false) (hi : ¬ q i = true) : anyB q (i + 1) = false := by
  rw [anyB, h]; simp at hi; simp [hi]
def cntB (q : Nat → Bool) : Nat → Nat
  | 0 => 0
  | n + 1 => cntB q n + if q n then 1 else 0
theorem cntB_le (q : Nat → Bool) : ∀ n, cntB q n ≤ n
  | 0 => Nat.le_refl _
  | n + 1 => by have := cntB_le q n; rw [cntB]; split <;> omega
theorem cntB_y {q : Nat → Bool} {n : Nat} (h : q n = true) : cntB q (n + 1) = cntB q n + 1 := by rw [cntB, if_pos h]
theorem cntB_n {q : Nat → Bool} {n : Nat} (h : ¬ q n = true) : cntB q (n + 1) = cntB q n := by rw [cntB, if_neg h]; rfl
theorem cntB_cong {q r : Nat → Bool} : ∀ {n : Nat}, (∀ k, k < n → q k = r k) → cntB q n = cntB r n
  | 0, _ => rfl
  | n + 1, h => by rw [cntB, cntB, cntB_cong (fun k hk => h k (by omega)), h n (by omega)]
/-- POINT i lies by x, y no farther than d -/
def nearB (X Y : Nat → Int32) (i : Nat) (x y d : Int32) : Bool := decide (¬ d < g_abs (X i - x)) && decide (¬ d < g_abs (Y i - y))
def lenS (X Y : Nat → Int32) : Nat → Int32
  | 0 => 0
  | k + 1 => lenS X Y k + (g_abs (X (k + 1) - X k) + g_abs (Y (k + 1) - Y k))
def arS (X Y : Nat → Int32) (i : Nat) : Nat → Int32
  | 0 => 0
  | d + 1 => arS X Y i d + (X (i + d) * Y (i + d + 1) - X (i + d + 1) * Y (i + d))
/-- twice the AREA that POINTS i to j go around -/
def areaS (X Y : Nat → Int32) (i j : Nat) : Int32 := g_abs (X j * Y i - X i * Y j + arS X Y i (j - i))
def abvB (X Y : Nat → Int32) (a b : Nat) (x y : Int32) : Bool := decide (¬ x < X a) && decide (x < X b) && decide (¬ (Y b - Y a) * (x - X a) ≤ (y - Y a) * (X b - X a))
def pabB (X Y : Nat → Int32) (x y : Int32) (k : Nat) : Bool := if X (k + 1) < X k then abvB X Y (k + 1) k x y else abvB X Y k (k + 1) x y
/-- SIDE of x, y -/
def sideS (X Y : Nat → Int32) (n : Nat) (x y : Int32) : Nat := cntB (pabB X Y x y) (n - 1) % 2
def spanB (X : Nat → Int32) (a b : Nat) : Bool := decide (¬ g_max (X a) (X (a + 1)) < g_min (X b) (X (b + 1))) && decide (¬ g_max (X b) (X (b + 1)) < g_min (X a) (X (a + 1)))
def turnS (X Y : Nat → Int32) (a k : Nat) : Int32 := cmp3 ((X (a + 1) - X a) * (Y k - Y a)) ((Y (a + 1) - Y a) * (X k - X a))
def strB (X Y : Nat → Int32) (a b : Nat) : Bool := decide (¬ 0 < turnS X Y a b * turnS X Y a (b + 1))
def meetB (X Y : Nat → Int32) (a b : Nat) : Bool := spanB X a b && spanB Y a b && strB X Y a b && strB X Y b a
def crossR (X Y : Nat → Int32) (a : Nat) : Nat → Nat
  | d => cntB (fun k => meetB X Y a (a + 2 + k)) d
/-- how many pairs of pieces, the first one before piece a -/
def crossS (X Y : Nat → Int32) (n : Nat) : Nat → Nat
  | 0 => 0
  | a + 1 => crossS X Y n a + crossR X Y a (n - 1 - (a + 2))
