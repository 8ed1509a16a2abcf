/-! cuts again and again, and one way down: the same -/
theorem fneck_trim {q r : Nat → Bool} {lo m : Nat} : ∀ J, m ≤ J → (∀ j, m < j → j ≤ J → q j = false) → (∀ j, lo ≤ j → j ≤ m → q j = r j) → fneck q lo J = fneck r lo m := by
  have base : ∀ k, k ≤ m → (∀ j, lo ≤ j → j ≤ m → q j = r j) → fneck q lo k = fneck r lo k := by
    intro k
    induction k with
    | zero => intro _ _; rfl
    | succ k ih =>
      intro hk h
      rw [fneck, fneck]
      by_cases e : k + 1 < lo
      · rw [if_pos e, if_pos e]
      · rw [if_neg e, if_neg e, h (k + 1) (by omega) hk, ih (by omega) h]
  intro J
  induction J with
  | zero => intro h _ h2; rw [show m = 0 by omega]; rfl
  | succ J ih =>
    intro h h1 h2
    by_cases e : m = J + 1
    · subst e; exact base (J + 1) (Nat.le_refl _) h2
    · rw [fneck]
      by_cases e2 : J + 1 < lo
      · rw [if_pos e2, fneck_0 (by omega)]
      · rw [if_neg e2, if_neg (by rw [h1 (J + 1) (by omega) (Nat.le_refl _)]; decide)]
        exact ih (by omega) (fun j a b => h1 j a (by omega)) h2
def nk2B (X Y : RW) (n : Nat) (nr : Int32) (i j : Nat) : Bool := nkB X Y nr i j && decide (4 ≤ n - (j - i - 1))
theorem neck_2 (X Y : RW) {n : Nat} (nr : Int32) (i : Nat) (hn : 4 ≤ n) : fneck (nk2B X Y n nr i) (i + 3) (n - 1) = neckS X Y n nr i := by
  rw [neckS]
  refine fneck_trim (n - 1) (by omega) (fun j h1 h2 => ?_) (fun j h1 h2 => ?_)
  · rw [nk2B, show decide (4 ≤ n - (j - i - 1)) = false from decide_eq_false (by omega), Bool.and_false]
  · rw [nk2B, show decide (4 ≤ n - (j - i - 1)) = true from decide_eq_true (by omega), Bool.and_true]
theorem nkB_r {X Y : RW} {nr : Int32} {i j : Nat} (h1 : inP (X i)) (h2 : inP (Y i)) (h3 : inP (X j)) (h4 : inP (Y j)) : nkB X Y nr i j = true ↔ ¬ nr < g_abs (X i - X j) ∧ ¬ nr < g_abs (Y i - Y j) := by
  rw [nkB, nearB, Bool.and_eq_true, decide_eq_true_eq, decide_eq_true_eq, abs_c h1 h3, abs_c h2 h4]
theorem neck_0 {X Y : RW} {n i : Nat} {nr : Int32} : neckS X Y n nr i = 0 ↔ ∀ j, i + 3 ≤ j → j ≤ n - 1 → j ≤ n + i - 3 → nkB X Y nr i j = false := by
  constructor
  · intro h j h1 h2 h3
    cases e : nkB X Y nr i j with
    | false => rfl
    | true =>
      have := fneck_max (nkB X Y nr i) (i + 3) (min (n - 1) (n + i - 3)) j h1 (by omega) e
      rw [neckS] at h; omega
  · intro h
    rcases fneck_sp (nkB X Y nr i) (i + 3) (min (n - 1) (n + i - 3)) with h1 | ⟨h1, h2, h3⟩
    · exact h1
    · have := h _ h1 (by omega) (by omega)
      rw [this] at h3; cases h3
theorem neck_mx {X Y : RW} {n i j : Nat} {nr : Int32} (h : neckS X Y n nr i = j) : ∀ k, j < k → i + 3 ≤ k → k ≤ n - 1 → k ≤ n + i - 3 → nkB X Y nr i k = false := by
  intro k h0 h1 h2 h3
  cases e : nkB X Y nr i k with
  | false => rfl
  | true =>
    have := fneck_max (nkB X Y nr i) (i + 3) (min (n - 1) (n + i - 3)) k h1 (by omega) e
    rw [neckS] at h; omega
def nnL (nr : Int32) (L : LN) (i : Nat) : Prop := neckS L.2.1 L.2.2 L.1 nr i = 0
theorem nn_cut {nr : Int32} {L : LN} {a j : Nat} (hn : ∀ i, i < a → nnL nr L i) (hj : neckS L.2.1 L.2.2 L.1 nr a = j) (hz : j ≠ 0) : ∀ i, i < a + 1 → nnL nr (cutA L a j) i := by
  intro i hi
  obtain ⟨h1, h2, h3⟩ := neck_sp hj hz
  rw [nnL, neck_0]
  intro k k1 k2 k3
  have k2' : k ≤ L.1 - (j - a - 1) - 1 := k2
  have k3' : k ≤ L.1 - (j - a - 1) + i - 3 := k3
  have ei : ∀ Z : RW, shfS Z a j i = Z i := fun Z => by rw [shfS, if_pos (by omega)]
  show nkB (shfS L.2.1 a j) (shfS L.2.2 a j) nr i k = false
  by_cases e : k ≤ a
  · have ek : ∀ Z : RW, shfS Z a j k = Z k := fun Z => by rw [shfS, if_pos e]
    have := neck_0.mp (hn i (by omega)) k k1 (by omega) (by omega)
    rw [nkB, nearB, ei, ei, ek, ek]; rw [nkB, nearB] at this; exact this
  · have ek : ∀ Z : RW, shfS Z a j k = Z (k + (j - a - 1)) := fun Z => by rw [shfS, if_neg e]
    have : nkB L.2.1 L.2.2 nr i (k + (j - a - 1)) = false := by
      by_cases e2 : i < a
      · exact neck_0.mp (hn i e2) _ (by omega) (by omega) (by omega)
      · rw [show i = a by omega]
        exact neck_mx hj _ (by omega) (by omega) (by omega) (by omega)
    rw [nkB, nearB, ei, ei, ek, ek]; rw [nkB, nearB] at this; exact this
theorem cut_adv {nr yr : Int32} {L : LN} {P : LPS} {CU : LN × LPS} {a i : Nat} (h48 : L.1 ≤ 48) (hia : i ≤ a) (hz : nnL nr L i) (hn : ∀ k, k < a → nnL nr L k) (hc : cutS nr yr (48 - a) a L P = CU) :
    cutS nr yr (48 - max a (i + 1)) (max a (i + 1)) L P = CU ∧ ∀ k, k < max a (i + 1) → nnL nr L k := by
  by_cases e : i < a
  · rw [show max a (i + 1) = a by omega]; exact ⟨hc, hn⟩
  · obtain rfl : i = a := by omega
    rw [show max i (i + 1) = i + 1 by omega]
    refine ⟨?_, fun k hk => ?_⟩
    · by_cases e2 : i + 3 < L.1
      · rw [← hc, cutS_no e2 h48 hz]
      · rw [← hc, cutS_end e2, cutS_end (by omega)]
    · by_cases e3 : k = i
      · rw [e3]; exact hz
      · exact hn k (by omega)
theorem inW_g {b n t k : Nat} {S X f g : RW} {x : Int32} (h : inW b n t k S X f g) (htk : t ≤ k) (hk : k < 48) (hx : x = S t) : inW b n (t + 1) (k + 1) S X f (upd g (48 * b + t) x) := by
  refine ⟨fun j hj => ?_, fun j h1 h2 => ?_, fun q hq => ?_⟩
  · by_cases e : j = t
    · subst e; rw [pk_us]; exact hx
    · rw [pk_un (by omega)]; exact h.1 j (by omega)
  · rw [pk_un (by omega)]; exact h.2.1 j (by omega) h2
  · rw [pk_un (by omega)]; exact h.2.2 q hq
theorem upd_2 (f : RW) (i : Nat) (x y : Int32) : upd (upd f i x) i y = upd f i y := by
  funext k
  by_cases e : k = i
  · subst e; rw [pk_us, pk_us]
  · rw [pk_un e, pk_un e, pk_un e]
theorem upd_same {f : RW} {i : Nat} {x : Int32} (h : f i = x) : upd f i x = f := by
  funext k
  by_cases e : k = i
  · subst e; rw [pk_us]; exact h.symm
  · rw [pk_un e]
