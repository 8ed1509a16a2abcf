/-! what stays true of a line; lines of trial; rates that are MET; years foretold -/
theorem inP_n {x : Int32} (h : inP x) : ∃ a : Nat, a ≤ 511 ∧ x = nI a := by
  refine ⟨x.toInt.toNat, by have := h.1; have := h.2; omega, ?_⟩
  rw [fa_eqI, nI_toInt (by have := h.1; have := h.2; omega)]
  have := h.1; omega
theorem inP_of {a : Nat} (h : a ≤ 511) : inP (nI a) := by rw [inP, nI_toInt (by omega)]; omega
theorem clampS_in (v : Int32) : inP (clampS v 0 511) := by
  have h0 : (0 : Int32).toInt = 0 := by decide
  have h5 : (511 : Int32).toInt = 511 := by decide
  have key : ∀ w : Int32, w.toInt ≤ 511 → inP (g_max 0 w) := by
    intro w hw
    rw [g_max]
    by_cases h2 : (0 : Int32) < w
    · rw [if_pos h2]
      rw [Int32.lt_iff_toInt_lt] at h2
      exact ⟨by omega, hw⟩
    · rw [if_neg h2]
      exact ⟨by omega, by omega⟩
  rw [clampS]
  apply key
  rw [g_min]
  by_cases h : v < 511
  · rw [if_pos h]
    rw [Int32.lt_iff_toInt_lt] at h
    omega
  · rw [if_neg h]
    omega
theorem mid_in {x y : Int32} (hx : inP x) (hy : inP y) : inP ((x + y) / 2) := by
  obtain ⟨a, ha, rfl⟩ := inP_n hx
  obtain ⟨b, hb, rfl⟩ := inP_n hy
  rw [nI_add, show (2 : Int32) = nI 2 from rfl, pk_div (by omega) (by decide) (by decide)]
  exact inP_of (by omega)
theorem movL_ok {B : RW} {rate w0 w1 w2 : Int32} {L : LN} (h : okL L) : okL (movL B rate w0 w1 w2 L) := by
  refine ⟨h.1, h.2.1, fun k hk => ?_⟩
  have hk' : k < L.1 := hk
  show inP (mvR _ _ _ _ _ _ _ _ _ k) ∧ inP (mvR _ _ _ _ _ _ _ _ _ k)
  rw [mvR, mvR]
  by_cases e : 0 < k ∧ k < L.1 - 1
  · rw [if_pos e, if_pos e]; exact ⟨clampS_in _, clampS_in _⟩
  · rw [if_neg e, if_neg e]; exact h.2.2 k hk'
theorem upd_P {p : Int32 → Prop} {f : RW} {n : Nat} {x : Int32} (h : ∀ k, k < n → p (f k)) (hx : p x) : ∀ k, k < n + 1 → p (upd f n x k) := by
  intro k hk
  by_cases e : k = n
  · subst e; rw [pk_us]; exact hx
  · rw [pk_un e]; exact h k (by omega)
theorem cls_rng {X Y : RW} {n : Nat} (h : ∀ k, k < n → inP (X k) ∧ inP (Y k)) : ∀ i, i ≤ n → (∀ k, k < (clsS X Y n i).1 → inP ((clsS X Y n i).2.1 k)) ∧ (∀ k, k < (clsS X Y n i).1 → inP ((clsS X Y n i).2.2.1 k))
  | 0, _ => ⟨fun k hk => absurd hk (Nat.not_lt_zero k), fun k hk => absurd hk (Nat.not_lt_zero k)⟩
  | i + 1, hi => by
    obtain ⟨h1, h2⟩ := cls_rng h i (by omega)
    by_cases e : (0 < i ∧ i < n - 1) ∧ 4 < (clsS X Y n i).2.2.2 ∧ nearB (clsS X Y n i).2.1 (clsS X Y n i).2.2.1 ((clsS X Y n i).1 - 1) (X i) (Y i) 3 = true
    · rw [cls_out e]; exact ⟨h1, h2⟩
    · rw [cls_in e]; exact ⟨upd_P h1 (h i (by omega)).1, upd_P h2 (h i (by omega)).2⟩
theorem clsL_ok {L : LN} (h : okL L) : okL (clsL L) := by
  obtain ⟨h1, h2, h3⟩ := h
  have a := cls_inv L.2.1 L.2.2 h1 L.1 (Nat.le_refl _)
  have b := cls_rng h3 L.1 (Nat.le_refl _)
  refine ⟨?_, ?_, fun k hk => ⟨b.1 k hk, b.2 k hk⟩⟩
  · show 4 ≤ (clsS _ _ _ _).1; omega
  · show (clsS _ _ _ _).1 ≤ 48; omega
theorem lng_rng {X Y : RW} {n : Nat} {d : Int32} (h : ∀ k, k < n → inP (X k) ∧ inP (Y k)) : ∀ i, i ≤ n → (∀ k, k < (lngS X Y n d i).1 → inP ((lngS X Y n d i).2.1 k)) ∧ (∀ k, k < (lngS X Y n d i).1 → inP ((lngS X Y n d i).2.2.1 k))
  | 0, _ => ⟨fun k hk => absurd hk (Nat.not_lt_zero k), fun k hk => absurd hk (Nat.not_lt_zero k)⟩
  | i + 1, hi => by
    obtain ⟨h1, h2⟩ := lng_rng h i (by omega)
    by_cases e : 0 < i ∧ (lngS X Y n d i).2.2.2 < 48 ∧ ¬ nearB X Y (i - 1) (X i) (Y i) d = true
    · rw [lng_more e]
      have hi1 := h (i - 1) (by omega)
      have hi2 := h i (by omega)
      exact ⟨upd_P (upd_P h1 (mid_in hi1.1 hi2.1)) hi2.1, upd_P (upd_P h2 (mid_in hi1.2 hi2.2)) hi2.2⟩
    · rw [lng_one e]; exact ⟨upd_P h1 (h i (by omega)).1, upd_P h2 (h i (by omega)).2⟩
theorem lngL_ok {d : Int32} {L : LN} (h : okL L) : okL (lngL d L) := by
  obtain ⟨h1, h2, h3⟩ := h
  have a := lng_inv L.2.1 L.2.2 d h2 L.1 (Nat.le_refl _)
  have b := lng_rng (d := d) h3 L.1 (Nat.le_refl _)
  refine ⟨?_, ?_, fun k hk => ⟨b.1 k hk, b.2 k hk⟩⟩
  · show 4 ≤ (lngS _ _ _ _ _).1; omega
  · show (lngS _ _ _ _ _).1 ≤ 48; omega
theorem windL_ok {B : RW} {rate w0 w1 w2 d : Int32} {L : LN} (h : okL L) : okL (windL B rate w0 w1 w2 d L) := lngL_ok (clsL_ok (movL_ok h))
theorem cutA_ok {L : LN} {i j : Nat} (h : okL L) (h1 : i + 3 ≤ j) (h2 : j ≤ L.1 - 1) (h3 : j ≤ L.1 + i - 3) : okL (cutA L i j) := by
  obtain ⟨a1, a2, a3⟩ := h
  refine ⟨?_, ?_, fun k hk => ?_⟩
  · show 4 ≤ L.1 - (j - i - 1); omega
  · show L.1 - (j - i - 1) ≤ 48; omega
  · have hk' : k < L.1 - (j - i - 1) := hk
    show inP (shfS _ _ _ k) ∧ inP (shfS _ _ _ k)
    rw [shfS, shfS]
    by_cases e : k ≤ i
    · rw [if_pos e, if_pos e]; exact a3 k (by omega)
    · rw [if_neg e, if_neg e]; exact a3 _ (by omega)
theorem cutS_ok {nr yr : Int32} : ∀ (f i : Nat) {L : LN} {P : LPS}, okL L → okL (cutS nr yr f i L P).1
  | 0, _, _, _, h => h
  | f + 1, i, L, P, h => by
    rw [cutS]
    split
    · split
      · exact cutS_ok f (i + 1) h
      · rename_i h1 h2
        obtain ⟨a, b, c⟩ := neck_sp rfl h2
        exact cutS_ok f (i + 1) (cutA_ok h a b c)
    · exact h
theorem noteS_le {P : LPS} {y p a : Int32} (h : P.1 ≤ 30) : (noteS P y p a).1 ≤ 30 := by rw [noteS_eq]; exact noteN_le h
theorem cutS_le {nr yr : Int32} : ∀ (f i : Nat) {L : LN} {P : LPS}, P.1 ≤ 30 → (cutS nr yr f i L P).2.1 ≤ 30
  | 0, _, _, _, h => h
  | f + 1, i, L, P, h => by
    rw [cutS]
    split
    · split
      · exact cutS_le f (i + 1) h
      · exact cutS_le f (i + 1) (noteS_le h)
    · exact h
theorem cutS_line {nr yr yr' : Int32} : ∀ (f i : Nat) {L : LN} {P P' : LPS}, (cutS nr yr f i L P).1 = (cutS nr yr' f i L P').1
  | 0, _, _, _, _ => rfl
  | f + 1, i, L, P, P' => by
    rw [cutS, cutS]
    split
    · split
      · exact cutS_line f (i + 1)
      · exact cutS_line f (i + 1)
    · rfl
theorem cutS_cnt {nr yr yr' : Int32} : ∀ (f i : Nat) {L : LN} {P P' : LPS}, P.1 = P'.1 → (cutS nr yr f i L P).2.1 = (cutS nr yr' f i L P').2.1
  | 0, _, _, _, _, h => h
  | f + 1, i, L, P, P', h => by
    rw [cutS, cutS]
    split
    · split
      · exact cutS_cnt f (i + 1) h
      · exact cutS_cnt f (i + 1) (by rw [noteS_eq, noteS_eq, h])
    · exact h
/-- LOOPS alike: as many, and the same ones -/
def eqP (P P' : LPS) : Prop := P.1 = P'.1 ∧ ∀ k, k < P.1 → P.2.1 k = P'.2.1 k ∧ P.2.2.1 k = P'.2.2.1 k ∧ P.2.2.2 k = P'.2.2.2 k
theorem noteS_eqP {P P' : LPS} {y p a : Int32} (h : eqP P P') : eqP (noteS P y p a) (noteS P' y p a) := by
  obtain ⟨h1, h2⟩ := h
  rw [noteS, noteS, ← h1]
  by_cases e : P.1 < 30
  · rw [if_pos e, if_pos e]
    refine ⟨by simp only [h1], fun k hk => ?_⟩
    have hk' : k < P.1 + 1 := hk
    show upd _ _ _ k = upd _ _ _ k ∧ upd _ _ _ k = upd _ _ _ k ∧ upd _ _ _ k = upd _ _ _ k
    by_cases z : k = P.1
    · subst z; simp [pk_us]
    · rw [pk_un z, pk_un z, pk_un z, pk_un z, pk_un z, pk_un z]; exact h2 k (by omega)
  · rw [if_neg e, if_neg e]; exact ⟨h1, h2⟩
theorem cutS_eqP {nr yr : Int32} : ∀ (f i : Nat) {L : LN} {P P' : LPS}, eqP P P' → eqP (cutS nr yr f i L P).2 (cutS nr yr f i L P').2
  | 0, _, _, _, _, h => h
  | f + 1, i, L, P, P', h => by
    rw [cutS, cutS]
    split
    · split
      · exact cutS_eqP f (i + 1) h
      · exact cutS_eqP f (i + 1) (noteS_eqP h)
    · exact h
def P0 : LPS := (0, fun _ => 0, fun _ => 0, fun _ => 0)
def cutLn (nr : Int32) (L : LN) : LN := (cutS nr 0 48 0 L P0).1
def hasCut (nr : Int32) (L : LN) : Bool := decide (0 < (cutS nr 0 48 0 L P0).2.1)
/-- SETTINGS: w0, w1, w2, LONG, NEAR -/
abbrev ST : Type := Int32 × Int32 × Int32 × Int32 × Int32
def wndS (B : RW) (S : ST) (r : Int32) (L : LN) : LN := windL B r S.1 S.2.1 S.2.2.1 S.2.2.2.1 L
/-- the line of a trial in the YEAR y -/
def trL (B : RW) (S : ST) (r : Int32) (L : LN) : Nat → LN
  | 0 => L
  | y + 1 => cutLn S.2.2.2.2 (wndS B S r (trL B S r L y))
theorem trL_ok {B : RW} {S : ST} {r : Int32} {L : LN} (h : okL L) : ∀ y, okL (trL B S r L y)
  | 0 => h
  | y + 1 => cutS_ok 48 0 (windL_ok (trL_ok h y))
/-- MARKS: how many, where, of which YEARS, TOLERANCE -/
abbrev MK : Type := Nat × RW × RW × RW × Int32
def okM (M : MK) : Prop := M.1 ≤ 30 ∧ ∀ k, k < M.1 → ∃ y, y ≤ 60 ∧ M.2.2.2.1 k = nI y
/-- a MARK of the YEAR y isn't met by the line -/
def offB (M : MK) (L : LN) (y : Nat) : Bool := anyB (disB L.2.1 L.2.2 L.1 M.2.1 M.2.2.1 M.2.2.2.1 M.2.2.2.2 (nI y)) M.1
def metB (B : RW) (S : ST) (L : LN) (M : MK) (r : Int32) : Bool := !anyB (fun y => offB M (trL B S r L y) y) 61
/-- the first YEAR from k + 1 on behind which q tells of a cut -/
def frst (q : Nat → Bool) : Nat → Nat → Nat
  | 0, k => k + 1
  | f + 1, k => if q k = true then k + 1 else frst q f (k + 1)
def fyS (B : RW) (S : ST) (L : LN) (r : Int32) : Nat := frst (fun y => hasCut S.2.2.2.2 (wndS B S r (trL B S r L y))) 60 0
theorem frst_le (q : Nat → Bool) : ∀ f k, k + 1 ≤ frst q f k ∧ frst q f k ≤ k + f + 1
  | 0, k => ⟨Nat.le_refl _, Nat.le_refl _⟩
  | f + 1, k => by
    rw [frst]
    split
    · omega
    · have := frst_le q f (k + 1); omega
def foreS (B : RW) (S : ST) (L : LN) (rr : RW) (most : Bool) : Nat → Int32
  | 0 => -1
  | k + 1 => if foreS B S L rr most k = -1 ∨ (if most then foreS B S L rr most k < nI (fyS B S L (rr k)) else nI (fyS B S L (rr k)) < foreS B S L rr most k) then nI (fyS B S L (rr k)) else foreS B S L rr most k
/-- the RATES from low on that are MET: how many, which -/
def metS (B : RW) (S : ST) (L : LN) (M : MK) (fr : RW) (low : Nat) : Nat → Nat × RW
  | 0 => (0, fr)
  | k + 1 => if metB B S L M (nI (low + k)) = true then ((metS B S L M fr low k).1 + 1, upd (metS B S L M fr low k).2 (metS B S L M fr low k).1 (nI (low + k))) else metS B S L M fr low k
theorem metS_le (B : RW) (S : ST) (L : LN) (M : MK) (fr : RW) (low : Nat) : ∀ k, (metS B S L M fr low k).1 ≤ k
  | 0 => Nat.le_refl _
  | k + 1 => by
    have := metS_le B S L M fr low k
    rw [metS]; split
    · simp only; omega
    · omega
theorem latS_c {az : RW} : ∀ {n : Nat}, (∀ k, k < n → ∃ y, y ≤ 60 ∧ az k = nI y) → (n = 0 ∧ latS az n = -1) ∨ ∃ y, y ≤ 60 ∧ latS az n = nI y ∧ ∀ k, k < n → ∃ z, z ≤ y ∧ az k = nI z
  | 0, _ => Or.inl ⟨rfl, rfl⟩
  | n + 1, h => by
    right
    obtain ⟨y, hy, ey⟩ := h n (by omega)
    rcases latS_c (n := n) (fun k hk => h k (by omega)) with ⟨h0, h1⟩ | ⟨z, hz, h1, h2⟩
    · subst h0
      refine ⟨y, hy, ?_, fun k hk => ⟨y, Nat.le_refl _, by rw [show k = 0 by omega]; exact ey⟩⟩
      rw [latS, h1, ey, g_max, if_pos]
      rw [Int32.lt_iff_toInt_lt, nI_toInt (by omega), show (-1 : Int32).toInt = -1 from by decide]; omega
    · rw [latS, h1, ey, g_max]
      by_cases e : z < y
      · rw [if_pos (nI_lt e (by omega))]
        refine ⟨y, hy, rfl, fun k hk => ?_⟩
        by_cases ek : k = n
        · subst ek; exact ⟨y, Nat.le_refl _, ey⟩
        · obtain ⟨w, hw, ew⟩ := h2 k (by omega); exact ⟨w, by omega, ew⟩
      · rw [if_neg (nI_nlt (by omega) (by omega))]
        refine ⟨z, hz, rfl, fun k hk => ?_⟩
        by_cases ek : k = n
        · subst ek; exact ⟨y, by omega, ey⟩
        · exact h2 k (by omega)
theorem off_late {M : MK} {L : LN} {y z : Nat} (hz : ∀ k, k < M.1 → ∃ w, w ≤ z ∧ M.2.2.2.1 k = nI w) (hy : z < y) (h60 : y ≤ 60) : offB M L y = false := by
  rw [offB]
  cases e : anyB (disB L.2.1 L.2.2 L.1 M.2.1 M.2.2.1 M.2.2.2.1 M.2.2.2.2 (nI y)) M.1 with
  | false => rfl
  | true =>
    obtain ⟨k, hk, hq⟩ := anyB_iff.mp e
    obtain ⟨w, hw, ew⟩ := hz k hk
    rw [disB, ew, Bool.and_eq_true, decide_eq_true_eq, nI_eq (by omega) (by omega)] at hq
    omega
theorem anyB_split {q : Nat → Bool} {a b : Nat} (hab : a ≤ b) (h : ∀ k, a ≤ k → k < b → q k = false) : anyB q b = anyB q a := by
  induction b with
  | zero => rw [show a = 0 by omega]
  | succ b ih =>
    by_cases e : a = b + 1
    · rw [e]
    · rw [anyB, ih (by omega) (fun k h1 h2 => h k h1 (by omega)), h b (by omega) (by omega), Bool.or_false]
