/-! where class and reference write a number otherwise: over the integers -/
theorem bm_ {x : Int} (h1 : -2147483648 ≤ x) (h2 : x < 2147483648) : x.bmod (2 ^ 32) = x := by
  apply Int.bmod_eq_of_le_mul_two
  · show -((2 ^ 32 : Nat) : Int) ≤ x * 2; omega
  · show x * 2 < ((2 ^ 32 : Nat) : Int); omega
theorem ti_add {a b : Int32} (h1 : -2147483648 ≤ a.toInt + b.toInt) (h2 : a.toInt + b.toInt < 2147483648) : (a + b).toInt = a.toInt + b.toInt := by rw [Int32.toInt_add, bm_ h1 h2]
theorem ti_sub {a b : Int32} (h1 : -2147483648 ≤ a.toInt - b.toInt) (h2 : a.toInt - b.toInt < 2147483648) : (a - b).toInt = a.toInt - b.toInt := by rw [Int32.toInt_sub, bm_ h1 h2]
theorem ti_mul {a b : Int32} (h1 : -2147483648 ≤ a.toInt * b.toInt) (h2 : a.toInt * b.toInt < 2147483648) : (a * b).toInt = a.toInt * b.toInt := by rw [Int32.toInt_mul, bm_ h1 h2]
theorem ti_neg {a : Int32} (h1 : -2147483648 ≤ -a.toInt) (h2 : -a.toInt < 2147483648) : (-a).toInt = -a.toInt := by rw [Int32.toInt_neg, bm_ h1 h2]
theorem ti_0 : (0 : Int32).toInt = 0 := by decide
theorem ti_abs {v : Int32} (h : -2147483648 < v.toInt) : (g_abs v).toInt = if 0 ≤ v.toInt then v.toInt else -v.toInt := by
  have hl := v.toInt_lt
  rw [g_abs]
  by_cases e : (0 : Int32) ≤ v
  · have e' := e
    rw [Int32.le_iff_toInt_le, ti_0] at e'
    rw [if_pos e, if_pos e']
  · have e' := e
    rw [Int32.le_iff_toInt_le, ti_0] at e'
    rw [if_neg e, if_neg e', ti_sub (by rw [ti_0]; omega) (by rw [ti_0]; omega), ti_0]
    omega
theorem dif_in {a b : Int32} (ha : inP a) (hb : inP b) : (a - b).toInt = a.toInt - b.toInt ∧ -511 ≤ a.toInt - b.toInt ∧ a.toInt - b.toInt ≤ 511 := by
  have := ha.1; have := ha.2; have := hb.1; have := hb.2
  exact ⟨ti_sub (by omega) (by omega), by omega, by omega⟩
theorem abs_c {a b : Int32} (ha : inP a) (hb : inP b) : g_abs (a - b) = g_abs (b - a) := by
  obtain ⟨h1, h2, h3⟩ := dif_in ha hb
  obtain ⟨k1, k2, k3⟩ := dif_in hb ha
  rw [fa_eqI, ti_abs (by omega), ti_abs (by omega), h1, k1]
  split <;> split <;> omega
theorem abs_43 {a b : Int32} (ha : inP a) (hb : inP b) : 4 ≤ g_abs (a - b) ↔ 3 < g_abs (b - a) := by
  rw [abs_c ha hb, Int32.le_iff_toInt_le, Int32.lt_iff_toInt_lt, show (4 : Int32).toInt = 4 from by decide, show (3 : Int32).toInt = 3 from by decide]
  omega
/-- a product of two numbers that are no more than 511 either way -/
theorem pr_b {x y : Int} (h1 : -511 ≤ x) (h2 : x ≤ 511) (h3 : -511 ≤ y) (h4 : y ≤ 511) : -261121 ≤ x * y ∧ x * y ≤ 261121 := by
  have key : ∀ a b : Int, 0 ≤ a → a ≤ 511 → 0 ≤ b → b ≤ 511 → 0 ≤ a * b ∧ a * b ≤ 261121 := by
    intro a b h1 h2 h3 h4
    refine ⟨Int.mul_nonneg h1 h3, ?_⟩
    have := Int.mul_le_mul h2 h4 h3 (by decide : (0:Int) ≤ 511)
    omega
  rcases Int.le_total 0 x with hx | hx <;> rcases Int.le_total 0 y with hy | hy
  · have := key x y hx h2 hy h4; omega
  · have := key x (-y) hx h2 (by omega) (by omega); rw [Int.mul_neg] at this; omega
  · have := key (-x) y (by omega) (by omega) hy h4; rw [Int.neg_mul] at this; omega
  · have := key (-x) (-y) (by omega) (by omega) (by omega) (by omega); rw [Int.neg_mul_neg] at this; omega
theorem ti_pr {a b : Int32} (h1 : -511 ≤ a.toInt) (h2 : a.toInt ≤ 511) (h3 : -511 ≤ b.toInt) (h4 : b.toInt ≤ 511) : (a * b).toInt = a.toInt * b.toInt := by
  have := pr_b h1 h2 h3 h4
  exact ti_mul (by omega) (by omega)
/-- the piece is above the place: the reference's sum against the class's two sides -/
theorem abv_r {xf yf xt yt x y : Int32} (h1 : inP xf) (h2 : inP yf) (h3 : inP xt) (h4 : inP yt) (h5 : inP x) (h6 : inP y) : 0 < (yf - y) * (xt - xf) + (yt - yf) * (x - xf) ↔ ¬ (yt - yf) * (x - xf) ≤ (y - yf) * (xt - xf) := by
  obtain ⟨a1, b1, c1⟩ := dif_in h2 h6
  obtain ⟨a2, b2, c2⟩ := dif_in h3 h1
  obtain ⟨a3, b3, c3⟩ := dif_in h4 h2
  obtain ⟨a4, b4, c4⟩ := dif_in h5 h1
  obtain ⟨a5, b5, c5⟩ := dif_in h6 h2
  have p1 : ((yf - y) * (xt - xf)).toInt = (yf.toInt - y.toInt) * (xt.toInt - xf.toInt) := by rw [ti_pr (by omega) (by omega) (by omega) (by omega), a1, a2]
  have p2 : ((yt - yf) * (x - xf)).toInt = (yt.toInt - yf.toInt) * (x.toInt - xf.toInt) := by rw [ti_pr (by omega) (by omega) (by omega) (by omega), a3, a4]
  have p3 : ((y - yf) * (xt - xf)).toInt = (y.toInt - yf.toInt) * (xt.toInt - xf.toInt) := by rw [ti_pr (by omega) (by omega) (by omega) (by omega), a5, a2]
  have q1 := pr_b b1 c1 b2 c2
  have q2 := pr_b b3 c3 b4 c4
  have e : (yf.toInt - y.toInt) * (xt.toInt - xf.toInt) = -((y.toInt - yf.toInt) * (xt.toInt - xf.toInt)) := by
    rw [show yf.toInt - y.toInt = -(y.toInt - yf.toInt) by omega, Int.neg_mul]
  rw [Int32.lt_iff_toInt_lt, Int32.le_iff_toInt_le, ti_0, ti_add (by rw [p1, p2]; omega) (by rw [p1, p2]; omega), p1, p2, p3, e]
  generalize (y.toInt - yf.toInt) * (xt.toInt - xf.toInt) = u
  generalize (yt.toInt - yf.toInt) * (x.toInt - xf.toInt) = v
  omega
/-- the reference's move -/
def refB (b : Int32) : Int32 := if b ≤ 8 then (if -8 ≤ b then b else -8) else 8
def refT (t : Int32) : Int32 := if 0 ≤ t then (if t ≤ 511 then t else 511) else 0
theorem ti_clamp (v lo hi : Int32) : (clampS v lo hi).toInt = if lo.toInt < (if v.toInt < hi.toInt then v.toInt else hi.toInt) then (if v.toInt < hi.toInt then v.toInt else hi.toInt) else lo.toInt := by
  have hmin : (g_min hi v).toInt = if v.toInt < hi.toInt then v.toInt else hi.toInt := by
    rw [g_min]
    by_cases h : v < hi
    · rw [if_pos h, if_pos (Int32.lt_iff_toInt_lt.mp h)]
    · rw [if_neg h, if_neg (fun z => h (Int32.lt_iff_toInt_lt.mpr z))]
  rw [clampS, g_max]
  by_cases h : lo < g_min hi v
  · have h' := Int32.lt_iff_toInt_lt.mp h
    rw [hmin] at h'
    rw [if_pos h, if_pos h', hmin]
  · have h' : ¬ lo.toInt < (g_min hi v).toInt := fun z => h (Int32.lt_iff_toInt_lt.mpr z)
    rw [hmin] at h'
    rw [if_neg h, if_neg h']
theorem div_b (p : Int32) : -214748 ≤ (p / 10000).toInt ∧ (p / 10000).toInt ≤ 214748 := by
  rw [Int32.toInt_div_of_ne_right _ _ (by decide), show (10000 : Int32).toInt = 10000 from by decide]
  have h1 := p.toInt_lt
  have h2 := p.le_toInt
  rcases Int.le_total 0 p.toInt with h | h
  · rw [Int.tdiv_eq_ediv_of_nonneg h]; omega
  · have e : p.toInt.tdiv 10000 = -((-p.toInt).tdiv 10000) := by rw [Int.neg_tdiv, Int.neg_neg]
    rw [e, Int.tdiv_eq_ediv_of_nonneg (by omega)]; omega
theorem mv_r {x p : Int32} (hx : inP x) : refT (x + refB (-(p / 10000))) = clampS (x - clampS (p / 10000) (-8) 8) 0 511 := by
  obtain ⟨d1, d2⟩ := div_b p
  have := hx.1; have := hx.2
  generalize p / 10000 = q at d1 d2 ⊢
  have m8 : (-8 : Int32).toInt = -8 := by decide
  have p8 : (8 : Int32).toInt = 8 := by decide
  have p5 : (511 : Int32).toInt = 511 := by decide
  have hn : (-q).toInt = -q.toInt := ti_neg (by omega) (by omega)
  have hB : (refB (-q)).toInt = if -q.toInt ≤ 8 then (if -8 ≤ -q.toInt then -q.toInt else -8) else 8 := by
    rw [refB]
    by_cases h : -q ≤ 8
    · have h' := Int32.le_iff_toInt_le.mp h
      rw [hn, p8] at h'
      rw [if_pos h, if_pos h']
      by_cases k : -8 ≤ -q
      · have k' := Int32.le_iff_toInt_le.mp k
        rw [hn, m8] at k'
        rw [if_pos k, if_pos k', hn]
      · have k' : ¬ (-8 : Int32).toInt ≤ (-q).toInt := fun z => k (Int32.le_iff_toInt_le.mpr z)
        rw [hn, m8] at k'
        rw [if_neg k, if_neg k', m8]
    · have h' : ¬ (-q).toInt ≤ (8 : Int32).toInt := fun z => h (Int32.le_iff_toInt_le.mpr z)
      rw [hn, p8] at h'
      rw [if_neg h, if_neg h', p8]
  have hC := ti_clamp q (-8) 8
  rw [m8, p8] at hC
  have hb8 : -8 ≤ (refB (-q)).toInt ∧ (refB (-q)).toInt ≤ 8 := by rw [hB]; split <;> (try split) <;> omega
  have hc8 : (clampS q (-8) 8).toInt = -(refB (-q)).toInt := by
    rw [hC, hB]
    split <;> split <;> (try split) <;> (try split) <;> omega
  have hA : (x + refB (-q)).toInt = x.toInt + (refB (-q)).toInt := ti_add (by omega) (by omega)
  have hS : (x - clampS q (-8) 8).toInt = x.toInt + (refB (-q)).toInt := by rw [ti_sub (by omega) (by omega), hc8]; omega
  have hD := ti_clamp (x - clampS q (-8) 8) 0 511
  rw [hS, ti_0, p5] at hD
  rw [fa_eqI, hD, refT]
  generalize hz : x + refB (-q) = z at hA
  rw [← hA]
  by_cases h : (0 : Int32) ≤ z
  · have h' := Int32.le_iff_toInt_le.mp h
    rw [ti_0] at h'
    rw [if_pos h]
    by_cases k : z ≤ 511
    · have k' := Int32.le_iff_toInt_le.mp k
      rw [p5] at k'
      rw [if_pos k]
      split <;> split at * <;> omega
    · have k' : ¬ z.toInt ≤ (511 : Int32).toInt := fun w => k (Int32.le_iff_toInt_le.mpr w)
      rw [p5] at k'
      rw [if_neg k, p5]
      split <;> split at * <;> omega
  · have h' : ¬ (0 : Int32).toInt ≤ z.toInt := fun w => h (Int32.le_iff_toInt_le.mpr w)
    rw [ti_0] at h'
    rw [if_neg h, ti_0]
    split <;> split at * <;> omega
theorem bend_k2 {v : Int32} {n : Nat} (hn : n ≤ 48) (h2 : 2 ≤ n) (h1 : ¬ v < 1) : v < nI (n - 1) ↔ v ≤ nI (n - 2) := by
  rw [Int32.lt_iff_toInt_lt, Int32.le_iff_toInt_le, nI_toInt (by omega), nI_toInt (by omega)]
  omega
