/-! a YEAR of the river: moving, leaving out, filling, cutting -/
abbrev RW : Type := Nat → Int32
abbrev LN : Type := Nat × RW × RW
def inP (v : Int32) : Prop := 0 ≤ v.toInt ∧ v.toInt ≤ 511
def bendI (X : RW) (n : Nat) (v : Int32) : Int32 := if v < 1 ∨ ¬ v ≤ nI (n - 2) then 0 else X (v.toNatClampNeg - 1) + X (v.toNatClampNeg + 1) - 2 * X v.toNatClampNeg
theorem bendI_in {X : RW} {n k : Nat} (h1 : 1 ≤ k) (h2 : k ≤ n - 2) (hn : n ≤ 48) : bendI X n (nI k) = X (k - 1) + X (k + 1) - 2 * X k := by
  have a : ¬ nI k < 1 := by
    intro h
    exact absurd ((nI_ltI (a := k) (b := 1) (by omega) (by decide)).mp h) (by omega)
  have b : nI k ≤ nI (n - 2) := nI_le h2 (by omega)
  rw [bendI, if_neg (by rintro (h | h); exact a h; exact h b), nI_clamp (by omega)]
theorem bend_k {v : Int32} {n : Nat} (hn : n ≤ 48) (h1 : ¬ v < 1) (h2 : v ≤ nI (n - 2)) : ∃ k, 1 ≤ k ∧ k ≤ n - 2 ∧ v = nI k := by
  have h0 : ¬ v < 0 := by
    intro h
    apply h1
    rw [Int32.lt_iff_toInt_lt] at h ⊢
    have : (1 : Int32).toInt = 1 := by decide
    have : (0 : Int32).toInt = 0 := by decide
    omega
  obtain ⟨k, hk, rfl⟩ := nI_of h0
  refine ⟨k, ?_, (nI_leI hk (by omega)).mp h2, rfl⟩
  apply Nat.pos_of_ne_zero
  intro h
  subst h
  exact h1 (by decide)
def feltS (X : RW) (n : Nat) (w0 w1 w2 : Int32) (i : Nat) : Int32 := w0 * bendI X n (nI i) + w1 * bendI X n (nI i - 1) + w2 * bendI X n (nI i - 2)
def mvS (X : RW) (n : Nat) (w0 w1 w2 f : Int32) (i : Nat) : Int32 := clampS (X i - clampS (feltS X n w0 w1 w2 i * f / 10000) (-8) 8) 0 511
def bidx (x y : Int32) : Nat := (x / 64 + 8 * (y / 64)).toNatClampNeg
def forceS (X Y : RW) (B : RW) (rate : Int32) (i : Nat) : Int32 := rate * B (bidx (X i) (Y i))
def mvR (Z X Y : RW) (n : Nat) (B : RW) (rate w0 w1 w2 : Int32) : RW := fun i => if 0 < i ∧ i < n - 1 then mvS Z n w0 w1 w2 (forceS X Y B rate i) i else Z i
/-- part 1 of a YEAR -/
def movL (B : RW) (rate w0 w1 w2 : Int32) (L : LN) : LN := (L.1, mvR L.2.1 L.2.1 L.2.2 L.1 B rate w0 w1 w2, mvR L.2.2 L.2.1 L.2.2 L.1 B rate w0 w1 w2)
/-- leaving out: what is kept of the first i POINTS, and how many there will be -/
def clsS (X Y : RW) (n : Nat) : Nat → Nat × RW × RW × Nat
  | 0 => (0, fun _ => 0, fun _ => 0, n)
  | i + 1 => if (0 < i ∧ i < n - 1) ∧ 4 < (clsS X Y n i).2.2.2 ∧ nearB (clsS X Y n i).2.1 (clsS X Y n i).2.2.1 ((clsS X Y n i).1 - 1) (X i) (Y i) 3 = true
      then ((clsS X Y n i).1, (clsS X Y n i).2.1, (clsS X Y n i).2.2.1, (clsS X Y n i).2.2.2 - 1)
      else ((clsS X Y n i).1 + 1, upd (clsS X Y n i).2.1 (clsS X Y n i).1 (X i), upd (clsS X Y n i).2.2.1 (clsS X Y n i).1 (Y i), (clsS X Y n i).2.2.2)
def clsL (L : LN) : LN := ((clsS L.2.1 L.2.2 L.1 L.1).1, (clsS L.2.1 L.2.2 L.1 L.1).2.1, (clsS L.2.1 L.2.2 L.1 L.1).2.2.1)
theorem cls_out {X Y : RW} {n i : Nat} (h : (0 < i ∧ i < n - 1) ∧ 4 < (clsS X Y n i).2.2.2 ∧ nearB (clsS X Y n i).2.1 (clsS X Y n i).2.2.1 ((clsS X Y n i).1 - 1) (X i) (Y i) 3 = true) :
    clsS X Y n (i + 1) = ((clsS X Y n i).1, (clsS X Y n i).2.1, (clsS X Y n i).2.2.1, (clsS X Y n i).2.2.2 - 1) := by rw [clsS, if_pos h]
theorem cls_in {X Y : RW} {n i : Nat} (h : ¬ ((0 < i ∧ i < n - 1) ∧ 4 < (clsS X Y n i).2.2.2 ∧ nearB (clsS X Y n i).2.1 (clsS X Y n i).2.2.1 ((clsS X Y n i).1 - 1) (X i) (Y i) 3 = true)) :
    clsS X Y n (i + 1) = ((clsS X Y n i).1 + 1, upd (clsS X Y n i).2.1 (clsS X Y n i).1 (X i), upd (clsS X Y n i).2.2.1 (clsS X Y n i).1 (Y i), (clsS X Y n i).2.2.2) := by rw [clsS, if_neg h]
theorem cls_inv (X Y : RW) {n : Nat} (hn : 4 ≤ n) : ∀ i, i ≤ n → (clsS X Y n i).1 + (n - i) = (clsS X Y n i).2.2.2 ∧ 4 ≤ (clsS X Y n i).2.2.2 ∧ (clsS X Y n i).2.2.2 ≤ n ∧ (0 < i → 0 < (clsS X Y n i).1)
  | 0, _ => by simp [clsS, hn]
  | i + 1, hi => by
    obtain ⟨h1, h2, h3, h4⟩ := cls_inv X Y hn i (by omega)
    by_cases h : (0 < i ∧ i < n - 1) ∧ 4 < (clsS X Y n i).2.2.2 ∧ nearB (clsS X Y n i).2.1 (clsS X Y n i).2.2.1 ((clsS X Y n i).1 - 1) (X i) (Y i) 3 = true
    · rw [cls_out h]
      have := h4 h.1.1
      have := h.2.1
      refine ⟨?_, ?_, ?_, fun _ => ?_⟩ <;> simp only <;> omega
    · rw [cls_in h]
      refine ⟨?_, ?_, ?_, fun _ => ?_⟩ <;> simp only <;> omega
/-- filling: the first i POINTS with those between them, and how many there will be -/
def lngS (X Y : RW) (n : Nat) (d : Int32) : Nat → Nat × RW × RW × Nat
  | 0 => (0, fun _ => 0, fun _ => 0, n)
  | i + 1 => if 0 < i ∧ (lngS X Y n d i).2.2.2 < 48 ∧ ¬ nearB X Y (i - 1) (X i) (Y i) d = true
      then ((lngS X Y n d i).1 + 2, upd (upd (lngS X Y n d i).2.1 (lngS X Y n d i).1 ((X (i - 1) + X i) / 2)) ((lngS X Y n d i).1 + 1) (X i), upd (upd (lngS X Y n d i).2.2.1 (lngS X Y n d i).1 ((Y (i - 1) + Y i) / 2)) ((lngS X Y n d i).1 + 1) (Y i), (lngS X Y n d i).2.2.2 + 1)
      else ((lngS X Y n d i).1 + 1, upd (lngS X Y n d i).2.1 (lngS X Y n d i).1 (X i), upd (lngS X Y n d i).2.2.1 (lngS X Y n d i).1 (Y i), (lngS X Y n d i).2.2.2)
def lngL (d : Int32) (L : LN) : LN := ((lngS L.2.1 L.2.2 L.1 d L.1).1, (lngS L.2.1 L.2.2 L.1 d L.1).2.1, (lngS L.2.1 L.2.2 L.1 d L.1).2.2.1)
theorem lng_more {X Y : RW} {n i : Nat} {d : Int32} (h : 0 < i ∧ (lngS X Y n d i).2.2.2 < 48 ∧ ¬ nearB X Y (i - 1) (X i) (Y i) d = true) :
    lngS X Y n d (i + 1) = ((lngS X Y n d i).1 + 2, upd (upd (lngS X Y n d i).2.1 (lngS X Y n d i).1 ((X (i - 1) + X i) / 2)) ((lngS X Y n d i).1 + 1) (X i), upd (upd (lngS X Y n d i).2.2.1 (lngS X Y n d i).1 ((Y (i - 1) + Y i) / 2)) ((lngS X Y n d i).1 + 1) (Y i), (lngS X Y n d i).2.2.2 + 1) := by rw [lngS, if_pos h]
theorem lng_one {X Y : RW} {n i : Nat} {d : Int32} (h : ¬ (0 < i ∧ (lngS X Y n d i).2.2.2 < 48 ∧ ¬ nearB X Y (i - 1) (X i) (Y i) d = true)) :
    lngS X Y n d (i + 1) = ((lngS X Y n d i).1 + 1, upd (lngS X Y n d i).2.1 (lngS X Y n d i).1 (X i), upd (lngS X Y n d i).2.2.1 (lngS X Y n d i).1 (Y i), (lngS X Y n d i).2.2.2) := by rw [lngS, if_neg h]
theorem lng_inv (X Y : RW) {n : Nat} (d : Int32) (hn : n ≤ 48) : ∀ i, i ≤ n → (lngS X Y n d i).1 + (n - i) = (lngS X Y n d i).2.2.2 ∧ n ≤ (lngS X Y n d i).2.2.2 ∧ (lngS X Y n d i).2.2.2 ≤ 48 ∧ i ≤ (lngS X Y n d i).1
  | 0, _ => by simp [lngS, hn]
  | i + 1, hi => by
    obtain ⟨h1, h2, h3, h4⟩ := lng_inv X Y d hn i (by omega)
    by_cases h : 0 < i ∧ (lngS X Y n d i).2.2.2 < 48 ∧ ¬ nearB X Y (i - 1) (X i) (Y i) d = true
    · rw [lng_more h]
      have := h.2.1
      refine ⟨?_, ?_, ?_, ?_⟩ <;> simp only <;> omega
    · rw [lng_one h]
      refine ⟨?_, ?_, ?_, ?_⟩ <;> simp only <;> omega
/-- parts 1 and 2 of a YEAR -/
def windL (B : RW) (rate w0 w1 w2 d : Int32) (L : LN) : LN := lngL d (clsL (movL B rate w0 w1 w2 L))
def okL (L : LN) : Prop := 4 ≤ L.1 ∧ L.1 ≤ 48 ∧ ∀ k, k < L.1 → inP (L.2.1 k) ∧ inP (L.2.2 k)
/-- the greatest j up to the given one, not below lo, that q takes; 0: none -/
def fneck (q : Nat → Bool) (lo : Nat) : Nat → Nat
  | 0 => 0
  | j + 1 => if j + 1 < lo then 0 else if q (j + 1) = true then j + 1 else fneck q lo j
def nkB (X Y : RW) (near : Int32) (i j : Nat) : Bool := nearB X Y j (X i) (Y i) near
def neckS (X Y : RW) (n : Nat) (near : Int32) (i : Nat) : Nat := fneck (nkB X Y near i) (i + 3) (min (n - 1) (n + i - 3))
theorem fneck_y {q : Nat → Bool} {lo j : Nat} (h0 : 0 < j) (h : lo ≤ j) (hq : q j = true) : fneck q lo j = j := by
  obtain ⟨j, rfl⟩ : ∃ b, j = b + 1 := ⟨j - 1, by omega⟩
  rw [fneck, if_neg (by omega), if_pos hq]
theorem fneck_n {q : Nat → Bool} {lo j : Nat} (h0 : 0 < j) (h : lo ≤ j) (hq : ¬ q j = true) : fneck q lo j = fneck q lo (j - 1) := by
  obtain ⟨j, rfl⟩ : ∃ b, j = b + 1 := ⟨j - 1, by omega⟩
  rw [fneck, if_neg (by omega), if_neg hq]; rfl
theorem fneck_0 {q : Nat → Bool} {lo j : Nat} (h : j < lo) : fneck q lo j = 0 := by
  cases j with
  | zero => rfl
  | succ j => rw [fneck, if_pos h]
theorem fneck_sp (q : Nat → Bool) (lo : Nat) : ∀ j, fneck q lo j = 0 ∨ (lo ≤ fneck q lo j ∧ fneck q lo j ≤ j ∧ q (fneck q lo j) = true)
  | 0 => Or.inl rfl
  | j + 1 => by
    rw [fneck]
    split
    · exact Or.inl rfl
    · split
      · rename_i h1 h2
        exact Or.inr ⟨by omega, Nat.le_refl _, h2⟩
      · rcases fneck_sp q lo j with h | ⟨h1, h2, h3⟩
        · exact Or.inl h
        · exact Or.inr ⟨h1, by omega, h3⟩
theorem fneck_max (q : Nat → Bool) (lo : Nat) : ∀ j k, lo ≤ k → k ≤ j → q k = true → k ≤ fneck q lo j
  | 0, k, h1, h2, _ => by omega
  | j + 1, k, h1, h2, h3 => by
    rw [fneck, if_neg (by omega)]
    split
    · exact h2
    · rename_i hq
      have : k ≠ j + 1 := fun e => hq (e ▸ h3)
      exact fneck_max q lo j k h1 (by omega) h3
/-- LOOPS: how many, their YEARS, POINTS, AREAS -/
abbrev LPS : Type := Nat × RW × RW × RW
def noteS (P : LPS) (yr pt ar : Int32) : LPS := if P.1 < 30 then (P.1 + 1, upd P.2.1 P.1 yr, upd P.2.2.1 P.1 pt, upd P.2.2.2 P.1 ar) else P
def shfS (X : Nat → Int32) (i j : Nat) : Nat → Int32 := fun k => if k ≤ i then X k else X (k + (j - i - 1))
def cutA (L : LN) (i j : Nat) : LN := (L.1 - (j - i - 1), shfS L.2.1 i j, shfS L.2.2 i j)
/-- part 3 of a YEAR, from POINT i on -/
def cutS (near yr : Int32) : Nat → Nat → LN → LPS → LN × LPS
  | 0, _, L, P => (L, P)
  | f + 1, i, L, P => if i + 3 < L.1 then
      (if neckS L.2.1 L.2.2 L.1 near i = 0 then cutS near yr f (i + 1) L P
       else cutS near yr f (i + 1) (cutA L i (neckS L.2.1 L.2.2 L.1 near i)) (noteS P yr (nI (neckS L.2.1 L.2.2 L.1 near i - i - 1)) (areaS L.2.1 L.2.2 i (neckS L.2.1 L.2.2 L.1 near i))))
      else (L, P)
