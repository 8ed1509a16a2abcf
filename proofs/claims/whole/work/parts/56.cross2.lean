def turnR (X Y : RW) (a b c : Nat) : Int32 := cmp3 ((X b - X a) * (Y c - Y a)) ((Y b - Y a) * (X c - X a))
def tZ (X Y : RW) (a b c : Nat) : Int := ((X b).toInt - (X a).toInt) * ((Y c).toInt - (Y a).toInt) - ((Y b).toInt - (Y a).toInt) * ((X c).toInt - (X a).toInt)
theorem cmp_c (x y : Int32) : (cmp3 x y = -1 ∧ x.toInt < y.toInt) ∨ (cmp3 x y = 0 ∧ x.toInt = y.toInt) ∨ (cmp3 x y = 1 ∧ y.toInt < x.toInt) := by
  rw [cmp3]
  by_cases h : x < y
  · exact Or.inl ⟨by rw [if_pos h], Int32.lt_iff_toInt_lt.mp h⟩
  · rw [if_neg h]
    by_cases h2 : x = y
    · exact Or.inr (Or.inl ⟨by rw [if_pos h2], by rw [h2]⟩)
    · refine Or.inr (Or.inr ⟨by rw [if_neg h2], ?_⟩)
      have a : ¬ x.toInt < y.toInt := fun z => h (Int32.lt_iff_toInt_lt.mpr z)
      have b : ¬ x.toInt = y.toInt := fun z => h2 (fa_eqI.mpr z)
      omega
theorem prod_i {X Y : RW} {a b c : Nat} (h : ∀ k, k = a ∨ k = b ∨ k = c → inP (X k) ∧ inP (Y k)) : ((X b - X a) * (Y c - Y a)).toInt = ((X b).toInt - (X a).toInt) * ((Y c).toInt - (Y a).toInt) ∧ ((Y b - Y a) * (X c - X a)).toInt = ((Y b).toInt - (Y a).toInt) * ((X c).toInt - (X a).toInt) := by
  obtain ⟨a1, a2⟩ := h a (Or.inl rfl)
  obtain ⟨b1, b2⟩ := h b (Or.inr (Or.inl rfl))
  obtain ⟨c1, c2⟩ := h c (Or.inr (Or.inr rfl))
  obtain ⟨d1, e1, f1⟩ := dif_in b1 a1
  obtain ⟨d2, e2, f2⟩ := dif_in c2 a2
  obtain ⟨d3, e3, f3⟩ := dif_in b2 a2
  obtain ⟨d4, e4, f4⟩ := dif_in c1 a1
  exact ⟨by rw [ti_pr (by omega) (by omega) (by omega) (by omega), d1, d2], by rw [ti_pr (by omega) (by omega) (by omega) (by omega), d3, d4]⟩
theorem prod_b {X Y : RW} {a b c : Nat} (h : ∀ k, k = a ∨ k = b ∨ k = c → inP (X k) ∧ inP (Y k)) : (-261121 ≤ ((X b - X a) * (Y c - Y a)).toInt ∧ ((X b - X a) * (Y c - Y a)).toInt ≤ 261121) ∧ -261121 ≤ ((Y b - Y a) * (X c - X a)).toInt ∧ ((Y b - Y a) * (X c - X a)).toInt ≤ 261121 := by
  obtain ⟨p1, p2⟩ := prod_i h
  obtain ⟨a1, a2⟩ := h a (Or.inl rfl)
  obtain ⟨b1, b2⟩ := h b (Or.inr (Or.inl rfl))
  obtain ⟨c1, c2⟩ := h c (Or.inr (Or.inr rfl))
  obtain ⟨-, e1, f1⟩ := dif_in b1 a1
  obtain ⟨-, e2, f2⟩ := dif_in c2 a2
  obtain ⟨-, e3, f3⟩ := dif_in b2 a2
  obtain ⟨-, e4, f4⟩ := dif_in c1 a1
  rw [p1, p2]
  exact ⟨pr_b e1 f1 e2 f2, pr_b e3 f3 e4 f4⟩
theorem turn_c {X Y : RW} {a b c : Nat} (h : ∀ k, k = a ∨ k = b ∨ k = c → inP (X k) ∧ inP (Y k)) : (turnR X Y a b c = -1 ∧ tZ X Y a b c < 0) ∨ (turnR X Y a b c = 0 ∧ tZ X Y a b c = 0) ∨ (turnR X Y a b c = 1 ∧ 0 < tZ X Y a b c) := by
  obtain ⟨p1, p2⟩ := prod_i h
  have := cmp_c ((X b - X a) * (Y c - Y a)) ((Y b - Y a) * (X c - X a))
  rw [p1, p2] at this
  unfold turnR tZ
  rcases this with ⟨z, w⟩ | ⟨z, w⟩ | ⟨z, w⟩
  · exact Or.inl ⟨z, by omega⟩
  · exact Or.inr (Or.inl ⟨z, by omega⟩)
  · exact Or.inr (Or.inr ⟨z, by omega⟩)
/-- the sign of a difference of two such products -/
theorem sub_s {p q : Int32} (h1 : -261121 ≤ p.toInt) (h2 : p.toInt ≤ 261121) (h3 : -261121 ≤ q.toInt) (h4 : q.toInt ≤ 261121) : (p - q ≤ 0 ↔ p.toInt ≤ q.toInt) ∧ (0 ≤ p - q ↔ q.toInt ≤ p.toInt) := by
  rw [Int32.le_iff_toInt_le, Int32.le_iff_toInt_le, ti_0, ti_sub (by omega) (by omega)]
  omega
theorem turn_1 {X Y : RW} {a b c : Nat} (h : ∀ k, k = a ∨ k = b ∨ k = c → inP (X k) ∧ inP (Y k)) (z : ¬ (X b - X a) * (Y c - Y a) - (Y b - Y a) * (X c - X a) ≤ 0) : (1 : Int32) = turnR X Y a b c := by
  obtain ⟨⟨b1, b2⟩, b3, b4⟩ := prod_b h
  have s := sub_s b1 b2 b3 b4
  rw [s.1] at z
  rcases cmp_c ((X b - X a) * (Y c - Y a)) ((Y b - Y a) * (X c - X a)) with ⟨_, w⟩ | ⟨_, w⟩ | ⟨w, _⟩
  · omega
  · omega
  · exact w.symm
theorem turn_m {X Y : RW} {a b c : Nat} (h : ∀ k, k = a ∨ k = b ∨ k = c → inP (X k) ∧ inP (Y k)) (z : ¬ 0 ≤ (X b - X a) * (Y c - Y a) - (Y b - Y a) * (X c - X a)) : (-1 : Int32) = turnR X Y a b c := by
  obtain ⟨⟨b1, b2⟩, b3, b4⟩ := prod_b h
  have s := sub_s b1 b2 b3 b4
  rw [s.2] at z
  rcases cmp_c ((X b - X a) * (Y c - Y a)) ((Y b - Y a) * (X c - X a)) with ⟨w, _⟩ | ⟨_, w⟩ | ⟨_, w⟩
  · exact w.symm
  · omega
  · omega
theorem turn_0 {X Y : RW} {a b c : Nat} (h : ∀ k, k = a ∨ k = b ∨ k = c → inP (X k) ∧ inP (Y k)) (z : (X b - X a) * (Y c - Y a) - (Y b - Y a) * (X c - X a) ≤ 0) (z2 : 0 ≤ (X b - X a) * (Y c - Y a) - (Y b - Y a) * (X c - X a)) : (0 : Int32) = turnR X Y a b c := by
  obtain ⟨⟨b1, b2⟩, b3, b4⟩ := prod_b h
  have s := sub_s b1 b2 b3 b4
  rw [s.1] at z; rw [s.2] at z2
  rcases cmp_c ((X b - X a) * (Y c - Y a)) ((Y b - Y a) * (X c - X a)) with ⟨_, w⟩ | ⟨w, _⟩ | ⟨_, w⟩
  · omega
  · exact w.symm
  · omega
def onP (X Y : RW) (a b c : Nat) : Prop := turnR X Y a b c = 0 ∧ btwP (X c) (X a) (X b) ∧ btwP (Y c) (Y a) (Y b)
def mtP (X Y : RW) (a b c d : Nat) : Prop := onP X Y a b c ∨ onP X Y a b d ∨ onP X Y c d a ∨ onP X Y c d b ∨ (turnR X Y a b c * turnR X Y a b d < 0 ∧ turnR X Y c d a * turnR X Y c d b < 0)
theorem btw_i {v a b : Int32} : btwP v a b ↔ bt (v.toInt - a.toInt) (b.toInt - a.toInt) := by
  unfold btwP bt
  by_cases h : a < b
  · rw [if_pos h]
    simp only [Int32.lt_iff_toInt_lt] at h ⊢
    omega
  · rw [if_neg h]
    simp only [Int32.lt_iff_toInt_lt] at h ⊢
    omega
theorem ti_max {x y : Int32} : (g_max x y).toInt = if x.toInt < y.toInt then y.toInt else x.toInt := by
  rw [g_max]
  by_cases h : x < y
  · rw [if_pos h, if_pos (Int32.lt_iff_toInt_lt.mp h)]
  · rw [if_neg h, if_neg (fun z => h (Int32.lt_iff_toInt_lt.mpr z))]
theorem ti_min {x y : Int32} : (g_min x y).toInt = if y.toInt < x.toInt then y.toInt else x.toInt := by
  rw [g_min]
  by_cases h : y < x
  · rw [if_pos h, if_pos (Int32.lt_iff_toInt_lt.mp h)]
  · rw [if_neg h, if_neg (fun z => h (Int32.lt_iff_toInt_lt.mpr z))]
theorem span_i {X : RW} {a b : Nat} : spanB X a b = true ↔ sp ((X (a + 1)).toInt - (X a).toInt) ((X b).toInt - (X a).toInt) ((X (b + 1)).toInt - (X b).toInt) := by
  rw [spanB, Bool.and_eq_true, decide_eq_true_eq, decide_eq_true_eq, Int32.lt_iff_toInt_lt, Int32.lt_iff_toInt_lt, ti_max, ti_min, ti_max, ti_min]
  generalize (X a).toInt = p
  generalize (X (a + 1)).toInt = q
  generalize (X b).toInt = r
  generalize (X (b + 1)).toInt = s
  unfold sp
  split <;> split <;> split <;> split <;> omega
theorem pr_op {r s : Int32} {S T : Int} (h1 : (r = -1 ∧ S < 0) ∨ (r = 0 ∧ S = 0) ∨ (r = 1 ∧ 0 < S)) (h2 : (s = -1 ∧ T < 0) ∨ (s = 0 ∧ T = 0) ∨ (s = 1 ∧ 0 < T)) : (¬ 0 < r * s ↔ op S T) ∧ (r * s < 0 ↔ os S T) := by
  unfold op os
  rcases h1 with ⟨rfl, h1⟩ | ⟨rfl, h1⟩ | ⟨rfl, h1⟩ <;> rcases h2 with ⟨rfl, h2⟩ | ⟨rfl, h2⟩ | ⟨rfl, h2⟩
  · exact ⟨iff_of_false (by decide) (by omega), iff_of_false (by decide) (by omega)⟩
  · exact ⟨iff_of_true (by decide) (by omega), iff_of_false (by decide) (by omega)⟩
  · exact ⟨iff_of_true (by decide) (by omega), iff_of_true (by decide) (by omega)⟩
  · exact ⟨iff_of_true (by decide) (by omega), iff_of_false (by decide) (by omega)⟩
  · exact ⟨iff_of_true (by decide) (by omega), iff_of_false (by decide) (by omega)⟩
  · exact ⟨iff_of_true (by decide) (by omega), iff_of_false (by decide) (by omega)⟩
  · exact ⟨iff_of_true (by decide) (by omega), iff_of_true (by decide) (by omega)⟩
  · exact ⟨iff_of_true (by decide) (by omega), iff_of_false (by decide) (by omega)⟩
  · exact ⟨iff_of_false (by decide) (by omega), iff_of_false (by decide) (by omega)⟩
theorem z_i {r : Int32} {S : Int} (h1 : (r = -1 ∧ S < 0) ∨ (r = 0 ∧ S = 0) ∨ (r = 1 ∧ 0 < S)) : r = 0 ↔ S = 0 := by
  rcases h1 with ⟨rfl, h1⟩ | ⟨rfl, h1⟩ | ⟨rfl, h1⟩
  · exact iff_of_false (by decide) (by omega)
  · exact iff_of_true rfl h1
  · exact iff_of_false (by decide) (by omega)
theorem mt_i {X Y : RW} {n a b : Nat} (h : ∀ k, k < n → inP (X k) ∧ inP (Y k)) (ha : a + 1 < n) (hb : b + 1 < n) : mtP X Y a (a + 1) b (b + 1) ↔ meetB X Y a b = true := by
  have q1 := turn_c (X := X) (Y := Y) (a := a) (b := a + 1) (c := b) (fun k hk => h k (by omega))
  have q2 := turn_c (X := X) (Y := Y) (a := a) (b := a + 1) (c := b + 1) (fun k hk => h k (by omega))
  have q3 := turn_c (X := X) (Y := Y) (a := b) (b := b + 1) (c := a) (fun k hk => h k (by omega))
  have q4 := turn_c (X := X) (Y := Y) (a := b) (b := b + 1) (c := a + 1) (fun k hk => h k (by omega))
  have e1 : tZ X Y a (a + 1) b = t1_ ((X (a + 1)).toInt - (X a).toInt) ((Y (a + 1)).toInt - (Y a).toInt) ((X (b + 1)).toInt - (X b).toInt) ((Y (b + 1)).toInt - (Y b).toInt) ((X b).toInt - (X a).toInt) ((Y b).toInt - (Y a).toInt) := rfl
  have e2 : tZ X Y a (a + 1) (b + 1) = t1_ ((X (a + 1)).toInt - (X a).toInt) ((Y (a + 1)).toInt - (Y a).toInt) ((X (b + 1)).toInt - (X b).toInt) ((Y (b + 1)).toInt - (Y b).toInt) ((X b).toInt - (X a).toInt) ((Y b).toInt - (Y a).toInt) + k_ ((X (a + 1)).toInt - (X a).toInt) ((Y (a + 1)).toInt - (Y a).toInt) ((X (b + 1)).toInt - (X b).toInt) ((Y (b + 1)).toInt - (Y b).toInt) ((X b).toInt - (X a).toInt) ((Y b).toInt - (Y a).toInt) := by
    unfold tZ t1_ k_
    rw [show (Y (b + 1)).toInt - (Y a).toInt = ((Y b).toInt - (Y a).toInt) + ((Y (b + 1)).toInt - (Y b).toInt) by omega, show (X (b + 1)).toInt - (X a).toInt = ((X b).toInt - (X a).toInt) + ((X (b + 1)).toInt - (X b).toInt) by omega, Int.mul_add, Int.mul_add]
    omega
  have e3 : tZ X Y b (b + 1) a = t3_ ((X (a + 1)).toInt - (X a).toInt) ((Y (a + 1)).toInt - (Y a).toInt) ((X (b + 1)).toInt - (X b).toInt) ((Y (b + 1)).toInt - (Y b).toInt) ((X b).toInt - (X a).toInt) ((Y b).toInt - (Y a).toInt) := by
    unfold tZ t3_
    rw [show (Y a).toInt - (Y b).toInt = -((Y b).toInt - (Y a).toInt) by omega, show (X a).toInt - (X b).toInt = -((X b).toInt - (X a).toInt) by omega, Int.mul_neg, Int.mul_neg]
    omega
  have e4 : tZ X Y b (b + 1) (a + 1) = t3_ ((X (a + 1)).toInt - (X a).toInt) ((Y (a + 1)).toInt - (Y a).toInt) ((X (b + 1)).toInt - (X b).toInt) ((Y (b + 1)).toInt - (Y b).toInt) ((X b).toInt - (X a).toInt) ((Y b).toInt - (Y a).toInt) - k_ ((X (a + 1)).toInt - (X a).toInt) ((Y (a + 1)).toInt - (Y a).toInt) ((X (b + 1)).toInt - (X b).toInt) ((Y (b + 1)).toInt - (Y b).toInt) ((X b).toInt - (X a).toInt) ((Y b).toInt - (Y a).toInt) := by
    unfold tZ t3_ k_
    rw [show (Y (a + 1)).toInt - (Y b).toInt = ((Y (a + 1)).toInt - (Y a).toInt) - ((Y b).toInt - (Y a).toInt) by omega, show (X (a + 1)).toInt - (X b).toInt = ((X (a + 1)).toInt - (X a).toInt) - ((X b).toInt - (X a).toInt) by omega]
    generalize (X (a + 1)).toInt - (X a).toInt = ux
    generalize (Y (a + 1)).toInt - (Y a).toInt = uy
    generalize (X (b + 1)).toInt - (X b).toInt = vx
    generalize (Y (b + 1)).toInt - (Y b).toInt = vy
    generalize (X b).toInt - (X a).toInt = wx
    generalize (Y b).toInt - (Y a).toInt = wy
    rw [Int.mul_sub, Int.mul_sub, Int.mul_comm vx uy, Int.mul_comm vy ux]
    omega
  rw [e1] at q1; rw [e2] at q2; rw [e3] at q3; rw [e4] at q4
  have m : meetB X Y a b = true ↔ CLp ((X (a + 1)).toInt - (X a).toInt) ((Y (a + 1)).toInt - (Y a).toInt) ((X (b + 1)).toInt - (X b).toInt) ((Y (b + 1)).toInt - (Y b).toInt) ((X b).toInt - (X a).toInt) ((Y b).toInt - (Y a).toInt) := by
    rw [meetB, Bool.and_eq_true, Bool.and_eq_true, Bool.and_eq_true, span_i, span_i, strB, strB, decide_eq_true_eq, decide_eq_true_eq]
    unfold CLp
    rw [← (pr_op q1 q2).1, ← (pr_op q3 q4).1]
    exact ⟨fun h => ⟨h.1.1.1, h.1.1.2, h.1.2, h.2⟩, fun h => ⟨⟨⟨h.1, h.2.1⟩, h.2.2.1⟩, h.2.2.2⟩⟩
  rw [m, CLRF]
  unfold mtP onP RFp
  rw [z_i q1, z_i q2, z_i q3, z_i q4, (pr_op q1 q2).2, (pr_op q3 q4).2, btw_i, btw_i, btw_i, btw_i, btw_i, btw_i, btw_i, btw_i,
    show (X (b + 1)).toInt - (X a).toInt = ((X b).toInt - (X a).toInt) + ((X (b + 1)).toInt - (X b).toInt) by omega, show (Y (b + 1)).toInt - (Y a).toInt = ((Y b).toInt - (Y a).toInt) + ((Y (b + 1)).toInt - (Y b).toInt) by omega,
    show (X a).toInt - (X b).toInt = -((X b).toInt - (X a).toInt) by omega, show (Y a).toInt - (Y b).toInt = -((Y b).toInt - (Y a).toInt) by omega,
    show (X (a + 1)).toInt - (X b).toInt = ((X (a + 1)).toInt - (X a).toInt) - ((X b).toInt - (X a).toInt) by omega, show (Y (a + 1)).toInt - (Y b).toInt = ((Y (a + 1)).toInt - (Y a).toInt) - ((Y b).toInt - (Y a).toInt) by omega]
