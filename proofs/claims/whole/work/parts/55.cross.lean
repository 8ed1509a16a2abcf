/-! two pieces have a place in common: the class's test and the reference's are one -/
/-- z lies between 0 and u -/
def bt (z u : Int) : Prop := (0 ≤ z ∧ z ≤ u) ∨ (u ≤ z ∧ z ≤ 0)
/-- 0 .. u and w .. w + v meet -/
def sp (u w v : Int) : Prop := ¬ (0 < w ∧ 0 < w + v ∧ u < w ∧ u < w + v) ∧ ¬ (w < 0 ∧ w + v < 0 ∧ w < u ∧ w + v < u)
def op (s t : Int) : Prop := (s ≤ 0 ∧ 0 ≤ t) ∨ (0 ≤ s ∧ t ≤ 0)
def os (s t : Int) : Prop := (s < 0 ∧ 0 < t) ∨ (0 < s ∧ t < 0)
theorem sp_bt {u w v : Int} : sp u w v ↔ bt w u ∨ bt (w + v) u ∨ bt (-w) v ∨ bt (u - w) v := by
  unfold sp bt; omega
def t1_ (ux uy vx vy wx wy : Int) : Int := ux * wy - uy * wx
def k_ (ux uy vx vy wx wy : Int) : Int := ux * vy - uy * vx
def t3_ (ux uy vx vy wx wy : Int) : Int := vy * wx - vx * wy
def CLp (ux uy vx vy wx wy : Int) : Prop := sp ux wx vx ∧ sp uy wy vy ∧ op (t1_ ux uy vx vy wx wy) (t1_ ux uy vx vy wx wy + k_ ux uy vx vy wx wy) ∧ op (t3_ ux uy vx vy wx wy) (t3_ ux uy vx vy wx wy - k_ ux uy vx vy wx wy)
def RFp (ux uy vx vy wx wy : Int) : Prop :=
  (t1_ ux uy vx vy wx wy = 0 ∧ bt wx ux ∧ bt wy uy) ∨ (t1_ ux uy vx vy wx wy + k_ ux uy vx vy wx wy = 0 ∧ bt (wx + vx) ux ∧ bt (wy + vy) uy) ∨
  (t3_ ux uy vx vy wx wy = 0 ∧ bt (-wx) vx ∧ bt (-wy) vy) ∨ (t3_ ux uy vx vy wx wy - k_ ux uy vx vy wx wy = 0 ∧ bt (ux - wx) vx ∧ bt (uy - wy) vy) ∨
  (os (t1_ ux uy vx vy wx wy) (t1_ ux uy vx vy wx wy + k_ ux uy vx vy wx wy) ∧ os (t3_ ux uy vx vy wx wy) (t3_ ux uy vx vy wx wy - k_ ux uy vx vy wx wy))
theorem mu_nn {u t : Int} (hu : 0 < u) (h : 0 ≤ u * t) : 0 ≤ t := by
  rcases Int.lt_or_le t 0 with ht | ht
  · have := Int.mul_neg_of_pos_of_neg hu ht; omega
  · exact ht
theorem mu_np {u t : Int} (hu : 0 < u) (h : u * t ≤ 0) : t ≤ 0 := by
  rcases Int.lt_or_le 0 t with ht | ht
  · have := Int.mul_pos hu ht; omega
  · exact ht
theorem mu_z {u t : Int} (hu : u ≠ 0) (h : u * t = 0) : t = 0 := (Int.mul_eq_zero.mp h).resolve_left hu
/-- out of u * s = z * k, with z between 0 and u: s has k's sign -/
theorem sg_1 {u s z k : Int} (hu : u ≠ 0) (hz : bt z u) (e : u * s = z * k) : (0 ≤ k → 0 ≤ s) ∧ (k ≤ 0 → s ≤ 0) := by
  rcases Int.lt_or_gt_of_ne hu with h | h
  · have hz' : z ≤ 0 := by unfold bt at hz; omega
    have e' : (-u) * s = (-z) * k := by rw [Int.neg_mul, Int.neg_mul, e]
    refine ⟨fun hk => mu_nn (u := -u) (by omega) (by rw [e']; exact Int.mul_nonneg (by omega) hk), fun hk => mu_np (u := -u) (by omega) (by rw [e']; exact Int.mul_nonpos_of_nonneg_of_nonpos (by omega) hk)⟩
  · have hz' : 0 ≤ z := by unfold bt at hz; omega
    refine ⟨fun hk => mu_nn h (by rw [e]; exact Int.mul_nonneg hz' hk), fun hk => mu_np h (by rw [e]; exact Int.mul_nonpos_of_nonneg_of_nonpos hz' hk)⟩
theorem id_x {ux uy vx vy wx wy : Int} (h : t1_ ux uy vx vy wx wy = 0) : ux * t3_ ux uy vx vy wx wy = wx * k_ ux uy vx vy wx wy ∧ uy * t3_ ux uy vx vy wx wy = wy * k_ ux uy vx vy wx wy := by
  unfold t1_ at h
  have h' : ux * wy = uy * wx := by omega
  unfold t3_ k_
  constructor
  · have a : ux * (vy * wx - vx * wy) = ux * vy * wx - vx * (ux * wy) := by rw [Int.mul_sub, Int.mul_assoc, Int.mul_left_comm ux vx wy]
    have b : wx * (ux * vy - uy * vx) = ux * vy * wx - vx * (uy * wx) := by rw [Int.mul_sub, Int.mul_comm wx (ux * vy), Int.mul_comm wx (uy * vx), Int.mul_assoc uy vx wx, Int.mul_left_comm uy vx wx]
    rw [a, b, h']
  · have a : uy * (vy * wx - vx * wy) = vy * (uy * wx) - uy * vx * wy := by rw [Int.mul_sub, Int.mul_left_comm uy vy wx, Int.mul_assoc]
    have b : wy * (ux * vy - uy * vx) = vy * (ux * wy) - uy * vx * wy := by rw [Int.mul_sub, Int.mul_comm wy (ux * vy), Int.mul_comm wy (uy * vx), Int.mul_assoc ux vy wy, Int.mul_left_comm ux vy wy]
    rw [a, b, h']
theorem id_x2 {ux uy vx vy wx wy : Int} (h : t1_ ux uy vx vy wx wy = 0) : ux * (t3_ ux uy vx vy wx wy - k_ ux uy vx vy wx wy) = (wx - ux) * k_ ux uy vx vy wx wy ∧ uy * (t3_ ux uy vx vy wx wy - k_ ux uy vx vy wx wy) = (wy - uy) * k_ ux uy vx vy wx wy := by
  obtain ⟨a, b⟩ := id_x h
  exact ⟨by rw [Int.mul_sub, a, Int.sub_mul], by rw [Int.mul_sub, b, Int.sub_mul]⟩
/-- the reference's first case gives the class's test -/
theorem RC_1 {ux uy vx vy wx wy : Int} (h : t1_ ux uy vx vy wx wy = 0) (hx : bt wx ux) (hy : bt wy uy) : CLp ux uy vx vy wx wy := by
  refine ⟨sp_bt.mpr (Or.inl hx), sp_bt.mpr (Or.inl hy), ?_, ?_⟩
  · rw [h]; unfold op; omega
  · obtain ⟨a1, a2⟩ := id_x h
    obtain ⟨b1, b2⟩ := id_x2 h
    by_cases e : ux = 0
    · by_cases e2 : uy = 0
      · subst e; subst e2
        have wx0 : wx = 0 := by unfold bt at hx; omega
        have wy0 : wy = 0 := by unfold bt at hy; omega
        subst wx0; subst wy0
        unfold t3_ k_ op; simp
      · have s1 := sg_1 e2 hy a2
        have s2 := sg_1 (s := -(t3_ ux uy vx vy wx wy - k_ ux uy vx vy wx wy)) (z := uy - wy) e2 (by unfold bt at hy ⊢; omega) (by rw [Int.mul_neg, b2, ← Int.neg_mul]; congr 1; omega)
        unfold op
        rcases Int.le_total 0 (k_ ux uy vx vy wx wy) with hk | hk
        · have := s1.1 hk; have := s2.1 hk; omega
        · have := s1.2 hk; have := s2.2 hk; omega
    · have s1 := sg_1 e hx a1
      have s2 := sg_1 (s := -(t3_ ux uy vx vy wx wy - k_ ux uy vx vy wx wy)) (z := ux - wx) e (by unfold bt at hx ⊢; omega) (by rw [Int.mul_neg, b1, ← Int.neg_mul]; congr 1; omega)
      unfold op
      rcases Int.le_total 0 (k_ ux uy vx vy wx wy) with hk | hk
      · have := s1.1 hk; have := s2.1 hk; omega
      · have := s1.2 hk; have := s2.2 hk; omega
/-- the ends of the second piece in the other order -/
theorem sw_1 (ux uy vx vy wx wy : Int) : t1_ ux uy (-vx) (-vy) (wx + vx) (wy + vy) = t1_ ux uy vx vy wx wy + k_ ux uy vx vy wx wy ∧ k_ ux uy (-vx) (-vy) (wx + vx) (wy + vy) = - k_ ux uy vx vy wx wy ∧ t3_ ux uy (-vx) (-vy) (wx + vx) (wy + vy) = - t3_ ux uy vx vy wx wy := by
  unfold t1_ k_ t3_
  refine ⟨?_, ?_, ?_⟩
  · rw [Int.mul_add, Int.mul_add]; omega
  · rw [Int.mul_neg, Int.mul_neg]; omega
  · rw [Int.mul_add, Int.mul_add, Int.neg_mul, Int.neg_mul, Int.neg_mul, Int.neg_mul, Int.mul_comm vy vx]; omega
theorem sp_n {u w v : Int} : sp u (w + v) (-v) ↔ sp u w v := by unfold sp; omega
theorem sp_x {u w v : Int} : sp v (-w) u ↔ sp u w v := by unfold sp; omega
theorem bt_n {w v : Int} : bt (-(w + v)) (-v) ↔ bt (-w) v := by unfold bt; omega
theorem bt_m {u w v : Int} : bt (u - (w + v)) (-v) ↔ bt (u - w) v := by unfold bt; omega
theorem op_n {s k : Int} : op (s + k) (s + k + -k) ↔ op s (s + k) := by unfold op; omega
theorem op_m {s k : Int} : op (-s) (-s - -k) ↔ op s (s - k) := by unfold op; omega
theorem op_x {s k : Int} : op s (s + -k) ↔ op s (s - k) := by unfold op; omega
theorem op_y {s k : Int} : op s (s - -k) ↔ op s (s + k) := by unfold op; omega
theorem os_n {s k : Int} : os (s + k) (s + k + -k) ↔ os s (s + k) := by unfold os; omega
theorem os_m {s k : Int} : os (-s) (-s - -k) ↔ os s (s - k) := by unfold os; omega
theorem os_x {s k : Int} : os s (s + -k) ↔ os s (s - k) := by unfold os; omega
theorem os_y {s k : Int} : os s (s - -k) ↔ os s (s + k) := by unfold os; omega
theorem ze_1 {s k : Int} : s + k + -k = 0 ↔ s = 0 := by omega
theorem ze_2 {s : Int} : -s = 0 ↔ s = 0 := by omega
theorem ze_3 {s k : Int} : -s - -k = 0 ↔ s - k = 0 := by omega
theorem ze_4 {s k : Int} : s + -k = 0 ↔ s - k = 0 := by omega
theorem ze_5 {s k : Int} : s - -k = 0 ↔ s + k = 0 := by omega
theorem CL_sw {ux uy vx vy wx wy : Int} : CLp ux uy (-vx) (-vy) (wx + vx) (wy + vy) ↔ CLp ux uy vx vy wx wy := by
  obtain ⟨a, b, c⟩ := sw_1 ux uy vx vy wx wy
  unfold CLp
  rw [a, b, c, sp_n, sp_n, op_n, op_m]
theorem RF_sw {ux uy vx vy wx wy : Int} : RFp ux uy (-vx) (-vy) (wx + vx) (wy + vy) ↔ RFp ux uy vx vy wx wy := by
  obtain ⟨a, b, c⟩ := sw_1 ux uy vx vy wx wy
  unfold RFp
  rw [a, b, c, ze_1, ze_2, ze_3, bt_n, bt_n, bt_m, bt_m, os_n, os_m, show wx + vx + -vx = wx by omega, show wy + vy + -vy = wy by omega]
  constructor
  · rintro (h | h | h)
    · exact Or.inr (Or.inl h)
    · exact Or.inl h
    · exact Or.inr (Or.inr h)
  · rintro (h | h | h)
    · exact Or.inr (Or.inl h)
    · exact Or.inl h
    · exact Or.inr (Or.inr h)
/-- the pieces in the other order -/
theorem sx_1 (ux uy vx vy wx wy : Int) : t1_ vx vy ux uy (-wx) (-wy) = t3_ ux uy vx vy wx wy ∧ k_ vx vy ux uy (-wx) (-wy) = - k_ ux uy vx vy wx wy ∧ t3_ vx vy ux uy (-wx) (-wy) = t1_ ux uy vx vy wx wy := by
  unfold t1_ k_ t3_
  refine ⟨?_, ?_, ?_⟩
  · rw [Int.mul_neg, Int.mul_neg]; omega
  · rw [Int.mul_comm vx uy, Int.mul_comm vy ux]; omega
  · rw [Int.mul_neg, Int.mul_neg]; omega
theorem CL_sx {ux uy vx vy wx wy : Int} : CLp vx vy ux uy (-wx) (-wy) ↔ CLp ux uy vx vy wx wy := by
  obtain ⟨a, b, c⟩ := sx_1 ux uy vx vy wx wy
  unfold CLp
  rw [a, b, c, sp_x, sp_x, op_x, op_y]
  exact ⟨fun h => ⟨h.1, h.2.1, h.2.2.2, h.2.2.1⟩, fun h => ⟨h.1, h.2.1, h.2.2.2, h.2.2.1⟩⟩
theorem RF_sx {ux uy vx vy wx wy : Int} : RFp vx vy ux uy (-wx) (-wy) ↔ RFp ux uy vx vy wx wy := by
  obtain ⟨a, b, c⟩ := sx_1 ux uy vx vy wx wy
  unfold RFp
  rw [a, b, c, ze_4, ze_5, os_x, os_y, Int.neg_neg, Int.neg_neg, show -wx + ux = ux - wx by omega, show -wy + uy = uy - wy by omega, show vx - -wx = wx + vx by omega, show vy - -wy = wy + vy by omega]
  constructor
  · rintro (h | h | h | h | h)
    · exact Or.inr (Or.inr (Or.inl h))
    · exact Or.inr (Or.inr (Or.inr (Or.inl h)))
    · exact Or.inl h
    · exact Or.inr (Or.inl h)
    · exact Or.inr (Or.inr (Or.inr (Or.inr ⟨h.2, h.1⟩)))
  · rintro (h | h | h | h | h)
    · exact Or.inr (Or.inr (Or.inl h))
    · exact Or.inr (Or.inr (Or.inr (Or.inl h)))
    · exact Or.inl h
    · exact Or.inr (Or.inl h)
    · exact Or.inr (Or.inr (Or.inr (Or.inr ⟨h.2, h.1⟩)))
/-- the crossing place lies in both spans -/
theorem sp_of {u w v K T3 T1 : Int} (hK : 0 < K) (h3 : 0 ≤ T3) (h3' : T3 ≤ K) (h1 : T1 ≤ 0) (h1' : -T1 ≤ K) (e : u * T3 = w * K - v * T1) : sp u w v := by
  have e2 : w * K - v * T1 = w * (K + T1) + (w + v) * (-T1) := by rw [Int.mul_add, Int.add_mul, Int.mul_neg, Int.mul_neg]; omega
  have e3 : u * T3 = u * T3 + 0 * (K - T3) := by rw [Int.zero_mul]; omega
  constructor
  · rintro ⟨a1, a2, a3, a4⟩
    -- a bound m with 0 ≤ .. < m on one side
    have m1 : w * (K + T1) + (w + v) * (-T1) ≥ (if w < w + v then w else w + v) * K := by
      have hw : (if w < w + v then w else w + v) * (K + T1) ≤ w * (K + T1) := Int.mul_le_mul_of_nonneg_right (by split <;> omega) (by omega)
      have hv : (if w < w + v then w else w + v) * (-T1) ≤ (w + v) * (-T1) := Int.mul_le_mul_of_nonneg_right (by split <;> omega) (by omega)
      have : (if w < w + v then w else w + v) * K = (if w < w + v then w else w + v) * (K + T1) + (if w < w + v then w else w + v) * (-T1) := by rw [← Int.mul_add]; congr 1; omega
      omega
    generalize hm : (if w < w + v then w else w + v) = m at m1
    have hm0 : 0 < m := by rw [← hm]; split <;> omega
    have hmu : u < m := by rw [← hm]; split <;> omega
    have m2 : u * T3 ≤ (m - 1) * K := by
      have a : u * T3 ≤ (m - 1) * T3 := Int.mul_le_mul_of_nonneg_right (by omega) h3
      have b : (m - 1) * T3 ≤ (m - 1) * K := Int.mul_le_mul_of_nonneg_left h3' (by omega)
      omega
    have m3 : (m - 1) * K = m * K - K := by rw [Int.sub_mul, Int.one_mul]
    omega
  · rintro ⟨a1, a2, a3, a4⟩
    have m1 : w * (K + T1) + (w + v) * (-T1) ≤ (if w < w + v then w + v else w) * K := by
      have hw : w * (K + T1) ≤ (if w < w + v then w + v else w) * (K + T1) := Int.mul_le_mul_of_nonneg_right (by split <;> omega) (by omega)
      have hv : (w + v) * (-T1) ≤ (if w < w + v then w + v else w) * (-T1) := Int.mul_le_mul_of_nonneg_right (by split <;> omega) (by omega)
      have : (if w < w + v then w + v else w) * K = (if w < w + v then w + v else w) * (K + T1) + (if w < w + v then w + v else w) * (-T1) := by rw [← Int.mul_add]; congr 1; omega
      omega
    generalize hm : (if w < w + v then w + v else w) = m at m1
    have hm0 : m < 0 := by rw [← hm]; split <;> omega
    have hmu : m < u := by rw [← hm]; split <;> omega
    have m2 : (m + 1) * K ≤ u * T3 := by
      have a : (m + 1) * T3 ≤ u * T3 := Int.mul_le_mul_of_nonneg_right (by omega) h3
      have b : (m + 1) * K ≤ (m + 1) * T3 := by
        have := Int.mul_le_mul_of_nonneg_left h3' (show 0 ≤ -(m + 1) by omega)
        rw [Int.neg_mul, Int.neg_mul] at this; omega
      omega
    have m3 : (m + 1) * K = m * K + K := by rw [Int.add_mul, Int.one_mul]
    omega
theorem id_c (ux uy vx vy wx wy : Int) : ux * t3_ ux uy vx vy wx wy = wx * k_ ux uy vx vy wx wy - vx * t1_ ux uy vx vy wx wy ∧ uy * t3_ ux uy vx vy wx wy = wy * k_ ux uy vx vy wx wy - vy * t1_ ux uy vx vy wx wy := by
  unfold t3_ k_ t1_
  simp only [Int.mul_sub]
  constructor
  · rw [Int.mul_left_comm ux vy wx, Int.mul_left_comm ux vx wy, Int.mul_left_comm wx ux vy, Int.mul_left_comm wx uy vx, Int.mul_left_comm vx ux wy, Int.mul_left_comm vx uy wx, Int.mul_left_comm vy ux wx, Int.mul_comm wx vy, Int.mul_comm wx vx]; omega
  · rw [Int.mul_left_comm uy vy wx, Int.mul_left_comm uy vx wy, Int.mul_left_comm wy ux vy, Int.mul_left_comm wy uy vx, Int.mul_left_comm vy ux wy, Int.mul_left_comm vy uy wx, Int.mul_left_comm vx uy wy, Int.mul_comm wy vy, Int.mul_comm wy vx]; omega
theorem RC_5 {ux uy vx vy wx wy : Int} (h1 : os (t1_ ux uy vx vy wx wy) (t1_ ux uy vx vy wx wy + k_ ux uy vx vy wx wy)) (h2 : os (t3_ ux uy vx vy wx wy) (t3_ ux uy vx vy wx wy - k_ ux uy vx vy wx wy)) : CLp ux uy vx vy wx wy := by
  obtain ⟨i1, i2⟩ := id_c ux uy vx vy wx wy
  unfold CLp
  generalize t1_ ux uy vx vy wx wy = T1 at *
  generalize t3_ ux uy vx vy wx wy = T3 at *
  generalize k_ ux uy vx vy wx wy = K at *
  rcases Int.lt_or_le 0 K with hk | hk
  · refine ⟨sp_of (K := K) (T3 := T3) (T1 := T1) hk (by unfold os at *; omega) (by unfold os at *; omega) (by unfold os at *; omega) (by unfold os at *; omega) i1, sp_of (K := K) (T3 := T3) (T1 := T1) hk (by unfold os at *; omega) (by unfold os at *; omega) (by unfold os at *; omega) (by unfold os at *; omega) i2, by unfold os op at *; omega, by unfold os op at *; omega⟩
  · have hk' : K < 0 := by unfold os at *; omega
    refine ⟨sp_of (K := -K) (T3 := -T3) (T1 := -T1) (by omega) (by unfold os at *; omega) (by unfold os at *; omega) (by unfold os at *; omega) (by unfold os at *; omega) (by rw [Int.mul_neg, Int.mul_neg, Int.mul_neg, i1]; omega), sp_of (K := -K) (T3 := -T3) (T1 := -T1) (by omega) (by unfold os at *; omega) (by unfold os at *; omega) (by unfold os at *; omega) (by unfold os at *; omega) (by rw [Int.mul_neg, Int.mul_neg, Int.mul_neg, i2]; omega), by unfold os op at *; omega, by unfold os op at *; omega⟩
theorem RC_ {ux uy vx vy wx wy : Int} (h : RFp ux uy vx vy wx wy) : CLp ux uy vx vy wx wy := by
  rcases h with ⟨a, b, c⟩ | ⟨a, b, c⟩ | ⟨a, b, c⟩ | ⟨a, b, c⟩ | ⟨a, b⟩
  · exact RC_1 a b c
  · exact CL_sw.mp (RC_1 (by rw [(sw_1 ux uy vx vy wx wy).1]; exact a) b c)
  · exact CL_sx.mp (RC_1 (by rw [(sx_1 ux uy vx vy wx wy).1]; exact a) b c)
  · refine CL_sx.mp (CL_sw.mp (RC_1 ?_ ?_ ?_))
    · rw [(sw_1 vx vy ux uy (-wx) (-wy)).1, (sx_1 ux uy vx vy wx wy).1, (sx_1 ux uy vx vy wx wy).2.1]; omega
    · rw [show -wx + ux = ux - wx by omega]; exact b
    · rw [show -wy + uy = uy - wy by omega]; exact c
  · exact RC_5 a b
theorem bt_of {u w k s t : Int} (hk : 0 < k) (hs : 0 ≤ s) (ht : t ≤ 0) (e1 : u * s = w * k) (e2 : u * t = (w - u) * k) : bt w u := by
  rw [Int.mul_comm w k] at e1
  rw [Int.mul_comm (w - u) k] at e2
  unfold bt
  rcases Int.lt_trichotomy u 0 with h | h | h
  · right
    have a : k * w ≤ 0 := by rw [← e1]; exact Int.mul_nonpos_of_nonpos_of_nonneg (by omega) hs
    have b : 0 ≤ k * (w - u) := by rw [← e2]; exact Int.mul_nonneg_of_nonpos_of_nonpos (by omega) ht
    have := mu_np hk a
    have := mu_nn hk b
    omega
  · left
    rw [h, Int.zero_mul] at e1
    have := mu_z (by omega) e1.symm
    omega
  · left
    have a : 0 ≤ k * w := by rw [← e1]; exact Int.mul_nonneg (by omega) hs
    have b : k * (w - u) ≤ 0 := by rw [← e2]; exact Int.mul_nonpos_of_nonneg_of_nonpos (by omega) ht
    have := mu_nn hk a
    have := mu_np hk b
    omega
theorem par_bt {u1 u2 z1 z2 : Int} (hu : u1 ≠ 0) (e : u1 * z2 = u2 * z1) (h : bt z1 u1) : bt z2 u2 := by
  have s1 := sg_1 (k := u2) hu h (by rw [e, Int.mul_comm])
  have s2 := sg_1 (s := u2 - z2) (z := u1 - z1) (k := u2) hu (by unfold bt at h ⊢; omega) (by rw [Int.mul_sub, Int.sub_mul, e, Int.mul_comm z1 u2])
  unfold bt
  rcases Int.le_total 0 u2 with hk | hk
  · have := s1.1 hk; have := s2.1 hk; omega
  · have := s1.2 hk; have := s2.2 hk; omega
theorem CR_0 {ux uy vx vy wx wy : Int} (hx : sp ux wx vx) (h1 : ux * wy = uy * wx) (h2 : ux * (wy + vy) = uy * (wx + vx)) (h3 : vx * (-wy) = vy * (-wx)) (h4 : vx * (uy - wy) = vy * (ux - wx)) (hu : ux ≠ 0) (hv : vx ≠ 0) :
    (bt wx ux ∧ bt wy uy) ∨ (bt (wx + vx) ux ∧ bt (wy + vy) uy) ∨ (bt (-wx) vx ∧ bt (-wy) vy) ∨ (bt (ux - wx) vx ∧ bt (uy - wy) vy) := by
  rcases sp_bt.mp hx with h | h | h | h
  · exact Or.inl ⟨h, par_bt hu h1 h⟩
  · exact Or.inr (Or.inl ⟨h, par_bt hu h2 h⟩)
  · exact Or.inr (Or.inr (Or.inl ⟨h, par_bt hv h3 h⟩))
  · exact Or.inr (Or.inr (Or.inr ⟨h, par_bt hv h4 h⟩))
theorem CR_1 {ux uy vx vy wx wy : Int} (h : CLp ux uy vx vy wx wy) (hz : t1_ ux uy vx vy wx wy = 0) : RFp ux uy vx vy wx wy := by
  obtain ⟨hx, hy, h12, h34⟩ := h
  obtain ⟨a1, a2⟩ := id_x hz
  obtain ⟨b1, b2⟩ := id_x2 hz
  rcases Int.lt_trichotomy (k_ ux uy vx vy wx wy) 0 with hk | hk | hk
  · refine Or.inl ⟨hz, bt_of (k := -k_ ux uy vx vy wx wy) (s := -t3_ ux uy vx vy wx wy) (t := -(t3_ ux uy vx vy wx wy - k_ ux uy vx vy wx wy)) (by omega) (by unfold op at h34; omega) (by unfold op at h34; omega) (by rw [Int.mul_neg, Int.mul_neg, a1]) (by rw [Int.mul_neg, Int.mul_neg, b1]), bt_of (k := -k_ ux uy vx vy wx wy) (s := -t3_ ux uy vx vy wx wy) (t := -(t3_ ux uy vx vy wx wy - k_ ux uy vx vy wx wy)) (by omega) (by unfold op at h34; omega) (by unfold op at h34; omega) (by rw [Int.mul_neg, Int.mul_neg, a2]) (by rw [Int.mul_neg, Int.mul_neg, b2])⟩
  · have t3z : t3_ ux uy vx vy wx wy = 0 := by unfold op at h34; omega
    have e1 : ux * wy = uy * wx := by unfold t1_ at hz; omega
    have ek : ux * vy = uy * vx := by unfold k_ at hk; omega
    have e3 : vy * wx = vx * wy := by unfold t3_ at t3z; omega
    have e2 : ux * (wy + vy) = uy * (wx + vx) := by rw [Int.mul_add, Int.mul_add]; omega
    have e3' : vx * (-wy) = vy * (-wx) := by rw [Int.mul_neg, Int.mul_neg]; omega
    have e4 : vx * (uy - wy) = vy * (ux - wx) := by rw [Int.mul_sub, Int.mul_sub, Int.mul_comm vx uy, Int.mul_comm vy ux]; omega
    have fin : (bt wx ux ∧ bt wy uy) ∨ (bt (wx + vx) ux ∧ bt (wy + vy) uy) ∨ (bt (-wx) vx ∧ bt (-wy) vy) ∨ (bt (ux - wx) vx ∧ bt (uy - wy) vy) → RFp ux uy vx vy wx wy := by
      rintro (z | z | z | z)
      · exact Or.inl ⟨hz, z⟩
      · exact Or.inr (Or.inl ⟨by omega, z⟩)
      · exact Or.inr (Or.inr (Or.inl ⟨t3z, z⟩))
      · exact Or.inr (Or.inr (Or.inr (Or.inl ⟨by omega, z⟩)))
    apply fin
    by_cases hu : ux = 0
    · by_cases hu2 : uy = 0
      · right; right; left
        subst hu; subst hu2
        unfold sp at hx hy; unfold bt; omega
      · -- the first piece stands upright
        have vx0 : vx = 0 := mu_z hu2 (by rw [← ek, hu, Int.zero_mul])
        by_cases hv2 : vy = 0
        · left; subst vx0; subst hv2; unfold sp at hx hy; unfold bt; omega
        · have r := CR_0 (ux := uy) (uy := ux) (vx := vy) (vy := vx) (wx := wy) (wy := wx) hy e1.symm e2.symm e3'.symm e4.symm hu2 hv2
          rcases r with z | z | z | z
          · exact Or.inl ⟨z.2, z.1⟩
          · exact Or.inr (Or.inl ⟨z.2, z.1⟩)
          · exact Or.inr (Or.inr (Or.inl ⟨z.2, z.1⟩))
          · exact Or.inr (Or.inr (Or.inr ⟨z.2, z.1⟩))
    · by_cases hv : vx = 0
      · have vy0 : vy = 0 := mu_z hu (by rw [ek, hv, Int.mul_zero])
        left; subst hv; subst vy0; unfold sp at hx hy; unfold bt; omega
      · exact CR_0 hx e1 e2 e3' e4 hu hv
  · refine Or.inl ⟨hz, bt_of hk (by unfold op at h34; omega) (by unfold op at h34; omega) a1 b1, bt_of hk (by unfold op at h34; omega) (by unfold op at h34; omega) a2 b2⟩
theorem CR_ {ux uy vx vy wx wy : Int} (h : CLp ux uy vx vy wx wy) : RFp ux uy vx vy wx wy := by
  by_cases e1 : t1_ ux uy vx vy wx wy = 0
  · exact CR_1 h e1
  by_cases e2 : t1_ ux uy vx vy wx wy + k_ ux uy vx vy wx wy = 0
  · exact RF_sw.mp (CR_1 (CL_sw.mpr h) (by rw [(sw_1 ux uy vx vy wx wy).1]; exact e2))
  by_cases e3 : t3_ ux uy vx vy wx wy = 0
  · exact RF_sx.mp (CR_1 (CL_sx.mpr h) (by rw [(sx_1 ux uy vx vy wx wy).1]; exact e3))
  by_cases e4 : t3_ ux uy vx vy wx wy - k_ ux uy vx vy wx wy = 0
  · refine RF_sx.mp (RF_sw.mp (CR_1 (CL_sw.mpr (CL_sx.mpr h)) ?_))
    rw [(sw_1 vx vy ux uy (-wx) (-wy)).1, (sx_1 ux uy vx vy wx wy).1, (sx_1 ux uy vx vy wx wy).2.1]; omega
  · obtain ⟨-, -, h12, h34⟩ := h
    exact Or.inr (Or.inr (Or.inr (Or.inr ⟨by unfold op at h12; unfold os; omega, by unfold op at h34; unfold os; omega⟩)))
theorem CLRF {ux uy vx vy wx wy : Int} : CLp ux uy vx vy wx wy ↔ RFp ux uy vx vy wx wy := ⟨CR_, RC_⟩
