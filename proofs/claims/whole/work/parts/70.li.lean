/-! the law's loop: what the two sides share, small rows -/
def LTape (tn : Nat) (T : Nat → Nat) (ft ftr : Nat → Int32) : Prop := tn ≤ 200 ∧ (∀ k, T k < 256) ∧ (∀ k, k < tn → ft k = nI (T k)) ∧ ∀ k, k < tn → ftr k = (nI (T k)).toInt8.toInt32
def LBank (B fb fbr : Nat → Int32) : Prop := (∀ k, k < 64 → fb k = B k) ∧ ∀ k, k < 64 → fbr k = B k
def LTold (tN : Nat) (TX TY ux uy fxr fyr fm : Nat → Int32) : Prop := okL (tN, TX, TY) ∧ (∀ k, k < tN → ux k = TX k) ∧ (∀ k, k < tN → uy k = TY k) ∧ fm 2 = nI tN ∧ (∀ k, k < tN → fxr (48 * 2 + k) = TX k) ∧ ∀ k, k < tN → fyr (48 * 2 + k) = TY k
def LLine (n : Nat) (X Y fx fy fxr fyr fm : Nat → Int32) (yr : Nat) : Prop := okL (n, X, Y) ∧ (∀ k, k < n → fx k = X k) ∧ (∀ k, k < n → fy k = Y k) ∧ fm 0 = nI n ∧ (∀ k, k < n → fxr (48 * 0 + k) = X k) ∧ (∀ k, k < n → fyr (48 * 0 + k) = Y k) ∧ yr ≤ 999
def LLoop (ln : Nat) (fy0 fp0 fa0 g1 g2 g3 : Nat → Int32) : Prop := ln ≤ 30 ∧ eqP (ln, fy0, fp0, fa0) (ln, g1, g2, g3)
def LPlot (pn : Nat) (ex ey ew ec d1 d2 d3 d4 : Nat → Int32) : Prop := pn ≤ 20 ∧ (∀ k, k < pn → d1 k = ex k) ∧ (∀ k, k < pn → d2 k = ey k) ∧ (∀ k, k < pn → d3 k = ew k) ∧ (∀ k, k < pn → d4 k = ec k) ∧ ∀ k, k < pn → inP (ex k) ∧ inP (ey k)
def LMark (mn : Nat) (ax0 ay0 az0 : Nat → Int32) (tol : Int32) (k1 k2 k3 : Nat → Int32) : Prop := okM (mn, ax0, ay0, az0, tol) ∧ (∀ k, k < mn → k1 k = ax0 k) ∧ (∀ k, k < mn → k2 k = ay0 k) ∧ ∀ k, k < mn → k3 k = az0 k
def LRate (rn : Nat) (fr r1 : Nat → Int32) : Prop := rn ≤ 20 ∧ ∀ k, k < rn → r1 k = fr k
/-- what the law's body stands on: its words, the machine's constants, the script -/
def LC (p : Program) (l : Launch) (m : MethodId) (c : Code) (s : State) (args : Array Value) (A : Nat → Prop) (g : gT) (b L : Nat) (xs : Nat → Int32) : Prop :=
  CallFix p m c cL_law 7 s args wsL_law RL ∧ gK g s ∧ gX A s s.heap ∧ (∀ q, s.heap.size ≤ q → A q) ∧ va_X b L xs s s.heap ∧ b < s.heap.size ∧ ¬ A b ∧ L ≤ 3584 ∧ l.stackTraces = false
section LR
variable {p : Program} {l : Launch} {e : Env} {R : Room} {s : State} {m : MethodId} {args : Array Value} {below : List Frame} {meth : Method} {c : Code} {H : Heap} {locs : List Loc} {cells slots : Nat} {Q : State → Prop}
variable {pc : Nat} {ls : Array Slot} {rest : List Value} {A : Nat → Prop} {cc : ByteArray}
theorem l_sld (hx : p.tables.exec = Jvm.exec) (hb : c.code = cc) {b L : Nat} {xs : Nat → Int32} (hX : va_X b L xs s s.heap) (hbl : b < s.heap.size) (hbA : ¬ A b) (hL : L ≤ 3584) (hS : va_S A s.heap H locs) {j : Nat} (hj : j < L) (hdg : decode cc pc = .ok (.iaload, 1))
    (kk : W p l e R s m args below meth c H locs cells slots Q (F0 m (pc + 1) ls (.int (xs j) :: rest))) : W p l e R s m args below meth c H locs cells slots Q (F0 m pc ls (.int (nI j) :: .ref b :: rest)) := by
  refine va_sld hx hb hX hbl hbA hS (vp_in_nI hj (by omega)) hdg ?_
  rw [nI_clamp (by omega)]
  exact kk
theorem l_lcmp (hx : p.tables.exec = Jvm.exec) (hb : c.code = cc) {x y : Int64} (h : x = y) (hdg : decode cc pc = .ok (.lcmp, 1)) (kk : W p l e R s m args below meth c H locs cells slots Q (F0 m (pc + 1) ls (.int 0 :: rest))) : W p l e R s m args below meth c H locs cells slots Q (F0 m pc ls (.long y :: .long x :: rest)) := by
  refine W.lcmp hx hb hdg ?_
  have : lg_cmp x y = 0 := by subst h; simp [lg_cmp]
  rw [this]
  exact kk
end LR
theorem l_le {n : Nat} {v : Int32} (hn : n < 2 ^ 31) (h : isW 0 (nI n) v) : ∃ j : Nat, j ≤ n ∧ v = nI j := by
  obtain ⟨j, hj, rfl⟩ := nI_of h.1
  refine ⟨j, ?_, rfl⟩
  have := h.2
  rw [nI_ltI hn hj] at this
  omega
theorem l_lt {n : Nat} {v : Int32} (hn : n < 2 ^ 31) (h : isW 0 (nI n - 1) v) : ∃ j : Nat, j < n ∧ v = nI j := by
  cases n with
  | zero =>
    exfalso
    obtain ⟨j, hj, rfl⟩ := nI_of h.1
    apply h.2
    rw [show nI 0 - 1 = -1 from by decide, Int32.lt_iff_toInt_lt, nI_toInt hj, show (-1 : Int32).toInt = -1 from by decide]
    omega
  | succ n =>
    rw [nI_pred] at h
    obtain ⟨j, hj, e⟩ := l_le (by omega) h
    exact ⟨j, by omega, e⟩
theorem l_nidx {n : Nat} {v : Int32} (hn : n < 2 ^ 31) (h : ¬ isW 0 (nI n - 1) v) : v < 0 ∨ nI n ≤ v := by
  by_cases h0 : v < 0
  · exact Or.inl h0
  · right
    obtain ⟨j, hj, rfl⟩ := nI_of h0
    rw [nI_leI hn hj]
    apply Nat.le_of_not_lt
    intro hlt
    apply h
    cases n with
    | zero => omega
    | succ n =>
      rw [nI_pred]
      exact (isW_n (a := 0) (by decide) (by omega) hj).mpr ⟨Nat.zero_le _, by omega⟩
theorem l_out {v : Int32} {K : Nat} (hK : K < 100) (h : v.toInt < 0 ∨ (K : Int) < v.toInt) : v < 0 ∨ ¬ v ≤ nI K := by
  rw [Int32.lt_iff_toInt_lt, Int32.le_iff_toInt_le, nI_toInt (by omega), show (0 : Int32).toInt = 0 from by decide]
  omega
theorem l_tab {v : Int32} {K : Nat} (hK : K < 100) (h : ¬ (v.toInt < 0 ∨ (K : Int) < v.toInt)) : ∃ k, k ≤ K ∧ v = nI k := by
  refine ⟨v.toInt.toNat, by omega, ?_⟩
  rw [fa_eqI, nI_toInt (by omega)]
  omega
theorem l_inP {v : Int32} {K : Nat} (hK : K ≤ 511) (h : isW 0 (nI K) v) : inP v := by
  obtain ⟨j, hj, rfl⟩ := l_le (by omega) h
  exact inP_of (by omega)
theorem l_set {X Y : RW} {n pn : Nat} {ex ey d1 d2 f f' : RW} (h1 : ∀ k, k < pn → d1 k = ex k) (h2 : ∀ k, k < pn → d2 k = ey k) : ∀ k, k < pn → setR f' (sdR X Y n d1 d2) pn k = setR f (sdR X Y n ex ey) pn k := by
  intro k hk
  rw [setR, setR, if_pos hk, if_pos hk, sdR, sdR, h1 k hk, h2 k hk]
theorem l_set0 {pn : Nat} {f f' : RW} : ∀ k, k < pn → setR f' (fun _ => 0) pn k = setR f (fun _ => 0) pn k := by
  intro k hk
  rw [setR, setR, if_pos hk, if_pos hk]
theorem l_upd {n : Nat} {d f : RW} {v : Int32} (h : ∀ k, k < n → d k = f k) : ∀ k, k < n + 1 → upd d n v k = upd f n v k := by
  intro k hk
  by_cases e : k = n
  · subst e; rw [pk_us, pk_us]
  · rw [pk_un e, pk_un e]; exact h k (by omega)
theorem l_updP {n : Nat} {f f' : RW} {v v' : Int32} (h : ∀ k, k < n → inP (f k) ∧ inP (f' k)) (h1 : inP v) (h2 : inP v') : ∀ k, k < n + 1 → inP (upd f n v k) ∧ inP (upd f' n v' k) := by
  intro k hk
  by_cases e : k = n
  · subst e; rw [pk_us, pk_us]; exact ⟨h1, h2⟩
  · rw [pk_un e, pk_un e]; exact h k (by omega)
theorem l_okM {mn : Nat} {a b z a' b' : RW} {tol x : Int32} (h : okM (mn, a, b, z, tol)) (hm : mn < 30) (hx : isW 0 60 x) : okM (mn + 1, a', b', upd z mn x, tol) := by
  obtain ⟨j, hj, rfl⟩ := l_le (n := 60) (by decide) hx
  refine ⟨by show mn + 1 ≤ 30; omega, fun k hk => ?_⟩
  have hk' : k < mn + 1 := hk
  show ∃ y, y ≤ 60 ∧ upd z mn (nI j) k = nI y
  by_cases e : k = mn
  · subst e; exact ⟨j, hj, pk_us⟩
  · rw [pk_un e]; exact h.2 k (by show k < mn; omega)
theorem goI_ok {B : RW} {S : ST} {rt : Int32} {pn : Nat} {ex ey : RW} : ∀ (j : Nat) (G : GS), okL G.1 → G.2.1.1 ≤ 30 → G.2.2.1 ≤ 999 → okL (goIter B S rt pn ex ey j G).1 ∧ (goIter B S rt pn ex ey j G).2.1.1 ≤ 30 ∧ (goIter B S rt pn ex ey j G).2.2.1 ≤ 999
  | 0, G, h1, h2, h3 => ⟨h1, h2, h3⟩
  | j + 1, G, h1, h2, h3 => by
    rw [goIter]
    by_cases h : G.2.2.1 < 999
    · rw [if_pos h]
      exact goI_ok j _ (cutS_ok 48 0 (windL_ok h1)) (cutS_le 48 0 h2) (by show G.2.2.1 + 1 ≤ 999; omega)
    · rw [if_neg h]; exact ⟨h1, h2, h3⟩
theorem l_met {v w : Int32} (h : metP v w) : ∃ a b : Nat, a ≤ b ∧ b ≤ 200 ∧ b - a ≤ 19 ∧ v = nI a ∧ w = nI b := by
  obtain ⟨h1, h2, h3⟩ := h
  obtain ⟨b, hb, rfl⟩ := l_le (n := 200) (by decide) h1
  obtain ⟨a, ha, rfl⟩ := l_le (by omega) h2
  refine ⟨a, b, ha, hb, ?_, rfl, rfl⟩
  have e : nI b - nI a = nI (b - a) := by
    have := nI_add (b - a) a
    rw [show b - a + a = b from by omega] at this
    rw [← this]; simp
  rw [e, show (20 : Int32) = nI 20 from rfl, nI_ltI (by omega) (by decide)] at h3
  omega
