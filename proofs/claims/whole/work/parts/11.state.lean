/-! THE SYSTEM'S STATE in words of its own: numbers, lists and functions; and where each lies in the memory. Index 0: the object, 1: its row of entries, 2: what is read, 3: its costs, 4: its least costs, 5: what was found, 6 and 7: numbers and sums of it; entry i at 2*i+8, its signs at 2*i+9; from 1000 on: the others' cells. -/
def bI (b : Bool) : Int32 := if b = true then 1 else 0
theorem bI_t : bI true = 1 := rfl
theorem bI_f : bI false = 0 := rfl
theorem bI_ne {b : Bool} (h : ¬ bI b = 0) : b = true := by cases b <;> simp_all [bI]
theorem bI_eq {b : Bool} (h : bI b = 0) : b = false := by cases b <;> simp_all [bI]
/-- of an entry: how many signs, its groups' bits, is it dropped, what it stands for, its sum as reckoned last -/
abbrev Ent : Type := Nat × Int32 × Bool × Option Nat × Nat
def oE (ad : Nat → Nat) (o : Option Nat) : Option Nat := o.map (fun i => ad (2 * i + 8))
def entO (ad : Nat → Nat) (i : Nat) (e : Ent) : va_E := .inr (0, [.ref (ad (2 * i + 9)), .int (nI e.1), .int e.2.1, .int (bI e.2.2.1), va_rf (oE ad e.2.2.2.1), .int (nI e.2.2.2.2)])
/-- a cost that was told, or none -/
def cV (o : Option Nat) : Int32 := match o with
  | none => -1
  | some c => nI c
abbrev iA (aC : Nat → ClassId) (n : Nat) (f : Nat → Int32) : va_E := .inl (aC 0, n, .inl f)
abbrev qA (cA : ClassId) (n : Nat) (f : Nat → Option Nat) : va_E := .inl (cA, n, .inr (.inr (.inr (.inr f))))
def rowE (ad : Nat → Nat) (n : Nat) : Nat → Option Nat := fun i => if 1 ≤ i ∧ i ≤ n then some (ad (2 * i + 8)) else none
def ctC (aC : Nat → ClassId) (ad : Nat → Nat) (n : Nat) (gl : Int32) (E : Nat → Ent) (G : Nat → Nat → Nat) (P : Nat) (co : Nat → Option Nat) (lc : Nat → Nat) (hc : Nat) (hn hs : Nat → Nat) (X : Nat → Option va_E) : Nat → Option va_E := fun k =>
  if 1000 ≤ k then X k
  else if k = 0 then some (.inr (3, [.ref (ad 1), .int (nI n), .ref (ad 2), .ref (ad 5), .int gl]))
  else if k = 1 then some (qA (aC 1) 201 (rowE ad n))
  else if k = 2 then some (.inr (2, [.ref (ad 3), .ref (ad 4), .int (nI P)]))
  else if k = 3 then some (iA aC 1880 (fun j => cV (co j)))
  else if k = 4 then some (iA aC 21 (fun j => nI (lc j)))
  else if k = 5 then some (.inr (1, [.ref (ad 6), .ref (ad 7), .int (nI hc)]))
  else if k = 6 then some (iA aC 200 (fun j => nI (hn j)))
  else if k = 7 then some (iA aC 200 (fun j => nI (hs j)))
  else if k < 10 then none
  else if n < (k - 8) / 2 then none
  else if k % 2 = 0 then some (entO ad ((k - 8) / 2) (E ((k - 8) / 2)))
  else some (iA aC 20 (fun j => nI (G ((k - 8) / 2) j)))
section CTC
variable {aC : Nat → ClassId} {ad : Nat → Nat} {n : Nat} {gl : Int32} {E : Nat → Ent} {G : Nat → Nat → Nat} {P : Nat} {co : Nat → Option Nat} {lc : Nat → Nat} {hc : Nat} {hn hs : Nat → Nat} {X : Nat → Option va_E}
theorem ctC_e {i : Nat} (h1 : 1 ≤ i) (h2 : i ≤ n) (h3 : n ≤ 200) : ctC aC ad n gl E G P co lc hc hn hs X (2 * i + 8) = some (entO ad i (E i)) := by
  unfold ctC
  rw [if_neg (by omega), if_neg (by omega), if_neg (by omega), if_neg (by omega), if_neg (by omega), if_neg (by omega), if_neg (by omega), if_neg (by omega), if_neg (by omega), if_neg (by omega), if_neg (by omega), if_pos (by omega), show (2 * i + 8 - 8) / 2 = i by omega]
theorem ctC_s {i : Nat} (h1 : 1 ≤ i) (h2 : i ≤ n) (h3 : n ≤ 200) : ctC aC ad n gl E G P co lc hc hn hs X (2 * i + 9) = some (iA aC 20 (fun j => nI (G i j))) := by
  unfold ctC
  rw [if_neg (by omega), if_neg (by omega), if_neg (by omega), if_neg (by omega), if_neg (by omega), if_neg (by omega), if_neg (by omega), if_neg (by omega), if_neg (by omega), if_neg (by omega), if_neg (by omega), if_neg (by omega), show (2 * i + 9 - 8) / 2 = i by omega]
theorem ctC_0 : ctC aC ad n gl E G P co lc hc hn hs X 0 = some (.inr (3, [.ref (ad 1), .int (nI n), .ref (ad 2), .ref (ad 5), .int gl])) := rfl
theorem ctC_1 : ctC aC ad n gl E G P co lc hc hn hs X 1 = some (qA (aC 1) 201 (rowE ad n)) := rfl
theorem ctC_2 : ctC aC ad n gl E G P co lc hc hn hs X 2 = some (.inr (2, [.ref (ad 3), .ref (ad 4), .int (nI P)])) := rfl
theorem ctC_3 : ctC aC ad n gl E G P co lc hc hn hs X 3 = some (iA aC 1880 (fun j => cV (co j))) := rfl
theorem ctC_4 : ctC aC ad n gl E G P co lc hc hn hs X 4 = some (iA aC 21 (fun j => nI (lc j))) := rfl
theorem ctC_5 : ctC aC ad n gl E G P co lc hc hn hs X 5 = some (.inr (1, [.ref (ad 6), .ref (ad 7), .int (nI hc)])) := rfl
theorem ctC_6 : ctC aC ad n gl E G P co lc hc hn hs X 6 = some (iA aC 200 (fun j => nI (hn j))) := rfl
theorem ctC_7 : ctC aC ad n gl E G P co lc hc hn hs X 7 = some (iA aC 200 (fun j => nI (hs j))) := rfl
theorem ctC_x {k : Nat} (h : 1000 ≤ k) : ctC aC ad n gl E G P co lc hc hn hs X k = X k := if_pos h
theorem ctC_free {k : Nat} (h1 : 10 ≤ k) (h2 : n < (k - 8) / 2) (h3 : k < 1000) : ctC aC ad n gl E G P co lc hc hn hs X k = none := by
  unfold ctC
  rw [if_neg (by omega), if_neg (by omega), if_neg (by omega), if_neg (by omega), if_neg (by omega), if_neg (by omega), if_neg (by omega), if_neg (by omega), if_neg (by omega), if_neg (by omega), if_pos h2]
theorem ctC_gl {gl' : Int32} : va_up (ctC aC ad n gl E G P co lc hc hn hs X) 0 (some (.inr (3, [.ref (ad 1), .int (nI n), .ref (ad 2), .ref (ad 5), .int gl']))) = ctC aC ad n gl' E G P co lc hc hn hs X := by
  funext k
  by_cases hk : k = 0
  · subst hk; rw [va_up_self]; rfl
  · rw [va_up_ne _ _ hk]; unfold ctC; rw [if_neg hk, if_neg hk]
theorem ctC_P {P' : Nat} : va_up (ctC aC ad n gl E G P co lc hc hn hs X) 2 (some (.inr (2, [.ref (ad 3), .ref (ad 4), .int (nI P')]))) = ctC aC ad n gl E G P' co lc hc hn hs X := by
  funext k
  by_cases hk : k = 2
  · subst hk; rw [va_up_self]; rfl
  · rw [va_up_ne _ _ hk]; unfold ctC; rw [if_neg hk, if_neg hk]
theorem ctC_co {co' : Nat → Option Nat} : va_up (ctC aC ad n gl E G P co lc hc hn hs X) 3 (some (iA aC 1880 (fun j => cV (co' j)))) = ctC aC ad n gl E G P co' lc hc hn hs X := by
  funext k
  by_cases hk : k = 3
  · subst hk; rw [va_up_self]; rfl
  · rw [va_up_ne _ _ hk]; unfold ctC; rw [if_neg hk, if_neg hk]
theorem ctC_lc {lc' : Nat → Nat} : va_up (ctC aC ad n gl E G P co lc hc hn hs X) 4 (some (iA aC 21 (fun j => nI (lc' j)))) = ctC aC ad n gl E G P co lc' hc hn hs X := by
  funext k
  by_cases hk : k = 4
  · subst hk; rw [va_up_self]; rfl
  · rw [va_up_ne _ _ hk]; unfold ctC; rw [if_neg hk, if_neg hk]
theorem ctC_hc {hc' : Nat} : va_up (ctC aC ad n gl E G P co lc hc hn hs X) 5 (some (.inr (1, [.ref (ad 6), .ref (ad 7), .int (nI hc')]))) = ctC aC ad n gl E G P co lc hc' hn hs X := by
  funext k
  by_cases hk : k = 5
  · subst hk; rw [va_up_self]; rfl
  · rw [va_up_ne _ _ hk]; unfold ctC; rw [if_neg hk, if_neg hk]
theorem ctC_hn {hn' : Nat → Nat} : va_up (ctC aC ad n gl E G P co lc hc hn hs X) 6 (some (iA aC 200 (fun j => nI (hn' j)))) = ctC aC ad n gl E G P co lc hc hn' hs X := by
  funext k
  by_cases hk : k = 6
  · subst hk; rw [va_up_self]; rfl
  · rw [va_up_ne _ _ hk]; unfold ctC; rw [if_neg hk, if_neg hk]
theorem ctC_hs {hs' : Nat → Nat} : va_up (ctC aC ad n gl E G P co lc hc hn hs X) 7 (some (iA aC 200 (fun j => nI (hs' j)))) = ctC aC ad n gl E G P co lc hc hn hs' X := by
  funext k
  by_cases hk : k = 7
  · subst hk; rw [va_up_self]; rfl
  · rw [va_up_ne _ _ hk]; unfold ctC; rw [if_neg hk, if_neg hk]
theorem ctC_E {i : Nat} {e : Ent} (h1 : 1 ≤ i) (h2 : i ≤ n) (h3 : n ≤ 200) : va_up (ctC aC ad n gl E G P co lc hc hn hs X) (2 * i + 8) (some (entO ad i e)) = ctC aC ad n gl (va_up E i e) G P co lc hc hn hs X := by
  funext k
  by_cases hk : k = 2 * i + 8
  · subst hk; rw [va_up_self, ctC_e h1 h2 h3, va_up_self]
  · rw [va_up_ne _ _ hk]
    unfold ctC
    by_cases h10 : k < 10
    · simp only [if_pos h10]
    · by_cases he : k % 2 = 0
      · rw [va_up_ne E e (show (k - 8) / 2 ≠ i by omega)]
      · simp only [if_neg he]
theorem ctC_G {i : Nat} {f : Nat → Nat} (h1 : 1 ≤ i) (h2 : i ≤ n) (h3 : n ≤ 200) : va_up (ctC aC ad n gl E G P co lc hc hn hs X) (2 * i + 9) (some (iA aC 20 (fun j => nI (f j)))) = ctC aC ad n gl E (va_up G i f) P co lc hc hn hs X := by
  funext k
  by_cases hk : k = 2 * i + 9
  · subst hk; rw [va_up_self, ctC_s h1 h2 h3, va_up_self]
  · rw [va_up_ne _ _ hk]
    unfold ctC
    by_cases h10 : k < 10
    · simp only [if_pos h10]
    · by_cases he : k % 2 = 0
      · simp only [if_pos he]
      · rw [va_up_ne G f (show (k - 8) / 2 ≠ i by omega)]
end CTC
/-- one place of a row of numbers is written -/
def un (f : Nat → Nat) (k v : Nat) : Nat → Nat := va_up f k v
theorem upd_nI {f : Nat → Nat} {k v : Nat} : upd (fun j => nI (f j)) k (nI v) = fun j => nI (un f k v j) := by
  funext j
  by_cases h : j = k
  · subst h; simp [upd, un, va_up]
  · simp [upd, un, va_up, h]
theorem upd_cV {f : Nat → Option Nat} {k v : Nat} : upd (fun j => cV (f j)) k (nI v) = fun j => cV (va_up f k (some v) j) := by
  funext j
  by_cases h : j = k
  · subst h; simp [upd, va_up, cV]
  · simp [upd, va_up, h]
