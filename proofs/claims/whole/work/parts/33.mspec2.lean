/-! the reference's search -/
def rcI (q : Nat → Bool) (S rc : Nat → Nat) (i : Nat) : Nat → Nat := fun a => if 1 ≤ a ∧ a ≤ i then (if q a = true then S a else 1000000) else rc a
theorem rcI_0 {q : Nat → Bool} {S rc : Nat → Nat} : rcI q S rc 0 = rc := by
  funext a
  unfold rcI
  rw [if_neg (by omega)]
theorem rcI_s {q : Nat → Bool} {S rc : Nat → Nat} {i v : Nat} (hv : v = if q (i + 1) = true then S (i + 1) else 1000000) : un (rcI q S rc i) (i + 1) v = rcI q S rc (i + 1) := by
  subst hv
  funext a
  unfold un
  by_cases ha : a = i + 1
  · subst ha; rw [va_up_self]; unfold rcI; rw [if_pos (show 1 ≤ i + 1 ∧ i + 1 ≤ i + 1 by omega)]
  · rw [va_up_ne _ _ ha]
    unfold rcI
    by_cases h : 1 ≤ a ∧ a ≤ i
    · rw [if_pos h, if_pos (show 1 ≤ a ∧ a ≤ i + 1 by omega)]
    · rw [if_neg h, if_neg (show ¬ (1 ≤ a ∧ a ≤ i + 1) by omega)]
theorem rcI_le {q : Nat → Bool} {S rc : Nat → Nat} {i a : Nat} (h1 : 1 ≤ a) (h2 : a ≤ i) (hS : S a ≤ 1000000) : rcI q S rc i a ≤ 1000000 := by
  unfold rcI
  rw [if_pos ⟨h1, h2⟩]
  split <;> omega
/-- is (s, e) behind (ls, la) -/
def bhd (ls : Option Nat) (la s e : Nat) : Bool := match ls with
  | none => true
  | some x => decide (x < s) || (decide (s = x) && decide (la < e))
theorem bh_1 {ls : Option Nat} {la s e : Nat} (hs : s < 2 ^ 31) (hx : ∀ x, ls = some x → x < 2 ^ 31) (h : cV ls < nI s) : bhd ls la s e = true := by
  cases ls with
  | none => rfl
  | some x =>
    have h1 : x < s := (nI_ltI (hx x rfl) hs).mp h
    simp [bhd, h1]
theorem bh_2 {ls : Option Nat} {la s e : Nat} (hs : s < 2 ^ 31) (hx : ∀ x, ls = some x → x < 2 ^ 31) (h : nI s = cV ls) (h2 : la < e) : bhd ls la s e = true := by
  cases ls with
  | none => rfl
  | some x =>
    have h1 : s = x := (nI_eq hs (hx x rfl)).mp h
    simp [bhd, h1, h2]
theorem bh_3 {ls : Option Nat} {la s e : Nat} (hs : s < 2 ^ 31) (hx : ∀ x, ls = some x → x < 2 ^ 31) (h : ¬ cV ls < nI s) (h2 : ¬ nI s = cV ls ∨ e ≤ la) : bhd ls la s e = false := by
  cases ls with
  | none =>
    exact absurd (show (-1 : Int32) < nI s by
      apply Int32.lt_iff_toInt_lt.mpr
      rw [nI_toInt hs]
      have : (-1 : Int32).toInt = -1 := by decide +kernel
      omega) h
  | some x =>
    have h1 : ¬ x < s := fun q => h ((nI_ltI (hx x rfl) hs).mpr q)
    rcases h2 with h2 | h2
    · have h3 : ¬ s = x := fun q => h2 (by rw [q]; rfl)
      simp [bhd, h1, h3]
    · simp [bhd, h1, show ¬ la < e by omega]
/-- the best that is behind, of the first i -/
def scn (q : Nat → Bool) (R : Nat → Nat) (ls : Option Nat) (la : Nat) : Nat → Nat × Nat
  | 0 => (0, 401)
  | i + 1 => if (q (i + 1) && bhd ls la (R (i + 1)) (i + 1) && decide (R (i + 1) < (scn q R ls la i).2)) = true then (i + 1, R (i + 1)) else scn q R ls la i
theorem scn_y {q : Nat → Bool} {R : Nat → Nat} {ls : Option Nat} {la i : Nat} (h1 : q (i + 1) = true) (h2 : bhd ls la (R (i + 1)) (i + 1) = true) (h3 : R (i + 1) < (scn q R ls la i).2) : scn q R ls la (i + 1) = (i + 1, R (i + 1)) := by
  show (if (q (i + 1) && bhd ls la (R (i + 1)) (i + 1) && decide (R (i + 1) < (scn q R ls la i).2)) = true then _ else _) = _
  rw [if_pos (by rw [h1, h2, decide_eq_true h3]; rfl)]
theorem scn_n {q : Nat → Bool} {R : Nat → Nat} {ls : Option Nat} {la i : Nat} (h : q (i + 1) = false ∨ bhd ls la (R (i + 1)) (i + 1) = false ∨ (scn q R ls la i).2 ≤ R (i + 1)) : scn q R ls la (i + 1) = scn q R ls la i := by
  show (if (q (i + 1) && bhd ls la (R (i + 1)) (i + 1) && decide (R (i + 1) < (scn q R ls la i).2)) = true then _ else _) = _
  rw [if_neg]
  rcases h with h | h | h
  · rw [h]; simp
  · rw [h]; simp
  · rw [decide_eq_false (by omega)]; simp
theorem scn_le {q : Nat → Bool} {R : Nat → Nat} {ls : Option Nat} {la : Nat} : ∀ i, (scn q R ls la i).1 ≤ i ∧ (scn q R ls la i).2 ≤ 401
  | 0 => ⟨Nat.le_refl _, Nat.le_refl _⟩
  | i + 1 => by
    have ih := scn_le (q := q) (R := R) (ls := ls) (la := la) i
    by_cases h1 : q (i + 1) = true ∧ bhd ls la (R (i + 1)) (i + 1) = true ∧ R (i + 1) < (scn q R ls la i).2
    · rw [scn_y h1.1 h1.2.1 h1.2.2]
      exact ⟨Nat.le_refl _, by show R (i + 1) ≤ 401; omega⟩
    · rw [scn_n]
      · exact ⟨by omega, ih.2⟩
      · cases hq : q (i + 1) with
        | false => exact Or.inl rfl
        | true =>
          cases hb : bhd ls la (R (i + 1)) (i + 1) with
          | false => exact Or.inr (Or.inl rfl)
          | true => exact Or.inr (Or.inr (Nat.not_lt.mp fun z => h1 ⟨hq, hb, z⟩))
/-- the one before place f -/
def pvN (hn : Nat → Nat) (f : Nat) : Nat := match f with
  | 0 => 0
  | g + 1 => hn g
def pvS (hs : Nat → Nat) (f : Nat) : Option Nat := match f with
  | 0 => none
  | g + 1 => some (hs g)
/-- a row whose first f are those of another -/
def wdI (hn wd : Nat → Nat) (f : Nat) : Nat → Nat := fun j => if j < f then hn j else wd j
theorem wdI_0 {hn wd : Nat → Nat} : wdI hn wd 0 = wd := by
  funext j
  unfold wdI
  rw [if_neg (by omega)]
theorem wdI_s {hn wd : Nat → Nat} {f v : Nat} (hv : v = hn f) : un (wdI hn wd f) f v = wdI hn wd (f + 1) := by
  subst hv
  funext j
  unfold un
  by_cases h : j = f
  · subst h; rw [va_up_self]; unfold wdI; rw [if_pos (by omega)]
  · rw [va_up_ne _ _ h]
    unfold wdI
    by_cases h2 : j < f
    · rw [if_pos h2, if_pos (by omega)]
    · rw [if_neg h2, if_neg (by omega)]
