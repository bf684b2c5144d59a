/-! WHAT THE REFERENCE'S METHODS ANSWER AND DO -/
def btw (v a b : Int32) : Bool := !decide (v < a) && !decide (b < v)
theorem btw_in {n : Nat} {x : Int32} (h : btw x (nI 1) (nI n) = true) (h200 : n ≤ 200) : ∃ j : Nat, 1 ≤ j ∧ j ≤ n ∧ x = nI j := by
  simp only [btw, Bool.and_eq_true, Bool.not_eq_true', decide_eq_false_iff_not] at h
  exact cLiv_in h.1 h.2 h200
theorem btw_nI {a b v : Nat} (h1 : a ≤ v) (h2 : v ≤ b) (hb : b < 2 ^ 31) : btw (nI v) (nI a) (nI b) = true := by
  simp only [btw, Bool.and_eq_true, Bool.not_eq_true', decide_eq_false_iff_not]
  exact ⟨nI_nlt h1 (by omega), nI_nlt h2 hb⟩
def isE (n : Nat) (th : Nat → Bool) (x : Int32) : Bool := btw x (nI 1) (nI n) && th x.toNatClampNeg
theorem isE_nI {n : Nat} {th : Nat → Bool} {j : Nat} (h1 : 1 ≤ j) (h2 : j ≤ n) (h200 : n ≤ 200) : isE n th (nI j) = th j := by
  unfold isE
  rw [btw_nI h1 h2 (by omega), nI_clamp (by omega)]
  rfl
/-- what stood for j stands for itself, up to i -/
def drM (me : Nat → Nat) (j i : Nat) : Nat → Nat := fun a => if 1 ≤ a ∧ a ≤ i ∧ me a = j then 0 else me a
theorem drM_0 {me : Nat → Nat} {j : Nat} : drM me j 0 = me := by
  funext a
  unfold drM
  rw [if_neg (by omega)]
theorem drM_at {me : Nat → Nat} {j i : Nat} : drM me j i (i + 1) = me (i + 1) := by
  unfold drM
  rw [if_neg (by omega)]
theorem drM_s {me : Nat → Nat} {j i v : Nat} (hv : v = if me (i + 1) = j then 0 else me (i + 1)) : un (drM me j i) (i + 1) v = drM me j (i + 1) := by
  subst hv
  funext a
  unfold un
  by_cases ha : a = i + 1
  · subst ha
    rw [va_up_self]
    unfold drM
    by_cases hm : me (i + 1) = j
    · rw [if_pos hm, if_pos ⟨by omega, Nat.le_refl _, hm⟩]
    · rw [if_neg hm, if_neg (fun q => hm q.2.2)]
  · rw [va_up_ne _ _ ha]
    unfold drM
    by_cases h2 : 1 ≤ a ∧ a ≤ i ∧ me a = j
    · rw [if_pos h2, if_pos ⟨h2.1, by omega, h2.2.2⟩]
    · rw [if_neg h2, if_neg (fun q => h2 ⟨q.1, by omega, q.2.2⟩)]
def okM (x y z : Int32) : Bool := btw x (nI 0) (nI 19) && isSg y && btw z (nI 0) (nI 1000)
def clI (co : Nat → Option Nat) (i : Nat) : Nat → Option Nat := fun j => if j < i then none else co j
theorem clI_0 {co : Nat → Option Nat} : clI co 0 = co := by funext j; simp [clI]
theorem clI_s {co : Nat → Option Nat} {i : Nat} : va_up (clI co i) i none = clI co (i + 1) := by
  funext j
  by_cases h : j = i
  · subst h; rw [va_up_self]; unfold clI; rw [if_pos (by omega)]
  · rw [va_up_ne _ _ h]
    unfold clI
    by_cases h2 : j < i
    · rw [if_pos h2, if_pos (by omega)]
    · rw [if_neg h2, if_neg (by omega)]
def inM (th : Nat → Bool) (gr : Nat → Int32) (x : Int32) (j : Nat) : Bool := th j && (decide (x < 0) || decide ((gr j >>> (x &&& 31)) &&& nI 1 = nI 1))
def abM (th : Nat → Bool) (me : Nat → Nat) (d j : Nat) : Bool := th j && decide (me j = d)
def mfM (th : Nat → Bool) (me : Nat → Nat) (gr : Nat → Int32) (lk : Int32) (j : Nat) : Bool := th j && decide (me j = 0) && (decide (lk < 0) || decide ((gr j >>> (lk &&& 31)) &&& nI 1 = nI 1))
def hasM (fd : Nat) (x : Int32) : Bool := btw x (nI 0) (nI fd - nI 1)
/-- the least cost of the first s signs out of the first p places -/
def tB (w : Nat → Nat → Nat) : Nat → Nat → Nat
  | 0, 0 => 0
  | 0, s + 1 => tB w 0 s + 30
  | p + 1, 0 => tB w p 0 + 25
  | p + 1, s + 1 => min (min (tB w (p + 1) s + 30) (tB w p (s + 1) + 25)) (tB w p s + w p s)
theorem tB_le {w : Nat → Nat → Nat} : ∀ p s, tB w p s ≤ 25 * p + 30 * s
  | 0, 0 => by simp [tB]
  | 0, s + 1 => by
    have := tB_le (w := w) 0 s
    simp only [tB]
    omega
  | p + 1, 0 => by
    have := tB_le (w := w) p 0
    simp only [tB]
    omega
  | p + 1, s + 1 => by
    have := tB_le (w := w) (p + 1) s
    simp only [tB]
    omega
/-- what sign s of entry e costs at place p -/
def wM (co : Nat → Option Nat) (sg : Nat → Nat) (e p s : Nat) : Nat := match co (128 * p + sg (20 * e + s)) with
  | none => 60
  | some c => c
def owM (P : Nat) (co : Nat → Option Nat) (sz sg : Nat → Nat) (e : Nat) : Nat := tB (wM co sg e) P (sz e)
theorem owM_le {P : Nat} {co : Nat → Option Nat} {sz sg : Nat → Nat} {e : Nat} (hP : P ≤ 20) (hz : sz e ≤ 20) : owM P co sz sg e ≤ 1100 := by
  have := tB_le (w := wM co sg e) P (sz e)
  unfold owM
  omega
/-- the least of an entry's own sum and those that stand for it, up to i -/
def sOm (th : Nat → Bool) (me : Nat → Nat) (o : Nat → Nat) (e : Nat) : Nat → Nat
  | 0 => o e
  | a + 1 => if (th (a + 1) && decide (me (a + 1) = e)) = true then min (sOm th me o e a) (o (a + 1)) else sOm th me o e a
theorem sOm_le {th : Nat → Bool} {me o : Nat → Nat} {e : Nat} : ∀ a, sOm th me o e a ≤ o e
  | 0 => Nat.le_refl _
  | a + 1 => by
    have := sOm_le (th := th) (me := me) (o := o) (e := e) a
    unfold sOm
    split <;> omega
