/-- the memory as the object is made: it alone, and the others' cells -/
def ctB (X : Nat → Option va_E) : Nat → Option va_E := fun k => if 1000 ≤ k then X k else if k = 0 then some (.inr (3, [.null, .int 0, .null, .null, .int 0])) else none
theorem ctB_0 {X : Nat → Option va_E} : ctB X 0 = some (.inr (3, [.null, .int 0, .null, .null, .int 0])) := rfl
theorem ctB_n {X : Nat → Option va_E} {k : Nat} (h : k < 1000) (h0 : k ≠ 0) : ctB X k = none := by
  unfold ctB
  rw [if_neg (by omega), if_neg h0]
theorem ctB_new {aC : Nat → ClassId} {ad : Nat → Nat} {X : Nat → Option va_E} {f : Nat → Option va_E} (h : ∀ k, 8 ≤ k → f k = ctB X k)
    (h0 : f 0 = some (.inr (3, [.ref (ad 1), .int 0, .ref (ad 2), .ref (ad 5), .int (-1)]))) (h1 : f 1 = some (qA (aC 1) 201 (fun _ => none)))
    (h2 : f 2 = some (.inr (2, [.ref (ad 3), .ref (ad 4), .int 0]))) (h3 : f 3 = some (iA aC 1880 (flI (fun _ => 0) (-1) 1880))) (h4 : f 4 = some (iA aC 21 (fun _ => 0)))
    (h5 : f 5 = some (.inr (1, [.ref (ad 6), .ref (ad 7), .int 0]))) (h6 : f 6 = some (iA aC 200 (fun _ => 0))) (h7 : f 7 = some (iA aC 200 (fun _ => 0))) :
    f = ctC aC ad 0 (-1) (fun _ => (0, 0, false, none, 0)) (fun _ _ => 0) 0 (clC (fun _ => some 0)) (fun _ => 0) 0 (fun _ => 0) (fun _ => 0) X := by
  funext k
  by_cases hk : 8 ≤ k
  · rw [h k hk]
    unfold ctB ctC
    by_cases hx : 1000 ≤ k
    · rw [if_pos hx, if_pos hx]
    · rw [if_neg hx, if_neg hx, if_neg (by omega), if_neg (by omega), if_neg (by omega), if_neg (by omega), if_neg (by omega), if_neg (by omega), if_neg (by omega), if_neg (by omega), if_neg (by omega)]
      by_cases h10 : k < 10
      · rw [if_pos h10]
      · rw [if_neg h10, if_pos (by omega)]
  · have h3' : flI (fun _ => 0) (-1) 1880 = fun j => cV (clC (fun _ => some 0) j) := flI_cV (co := fun _ => some 0)
    have hr : (fun _ => none : Nat → Option Nat) = rowE ad 0 := by
      funext j
      unfold rowE
      rw [if_neg (by omega)]
    rcases (show k = 0 ∨ k = 1 ∨ k = 2 ∨ k = 3 ∨ k = 4 ∨ k = 5 ∨ k = 6 ∨ k = 7 by omega) with rfl | rfl | rfl | rfl | rfl | rfl | rfl | rfl
    · rw [h0]; rfl
    · rw [h1, hr]; rfl
    · rw [h2]; rfl
    · rw [h3, h3']; rfl
    · rw [h4]; rfl
    · rw [h5]; rfl
    · rw [h6]; rfl
    · rw [h7]; rfl
theorem ctC_grow {aC : Nat → ClassId} {ad ad1 : Nat → Nat} {n : Nat} {gl : Int32} {E : Nat → Ent} {G : Nat → Nat → Nat} {P : Nat} {co : Nat → Option Nat} {lc : Nat → Nat} {hc : Nat} {hn hs : Nat → Nat} {X : Nat → Option va_E} {f : Nat → Option va_E}
    (had : ∀ k, k ≠ 2 * (n + 1) + 8 → k ≠ 2 * (n + 1) + 9 → ad1 k = ad k) (h200 : n < 200) (hsf : sfOk n E)
    (h0 : f 0 = some (.inr (3, [.ref (ad 1), .int (nI (n + 1)), .ref (ad 2), .ref (ad 5), .int gl])))
    (h1 : f 1 = some (qA (aC 1) 201 (va_up (rowE ad n) (n + 1) (some (ad1 (2 * (n + 1) + 8))))))
    (he : f (2 * (n + 1) + 8) = some (.inr (0, [.ref (ad1 (2 * (n + 1) + 9)), .int 0, .int 0, .int 0, .null, .int 0])))
    (hg : f (2 * (n + 1) + 9) = some (iA aC 20 (fun _ => 0)))
    (hf : ∀ k, k ≠ 0 → k ≠ 1 → k ≠ 2 * (n + 1) + 8 → k ≠ 2 * (n + 1) + 9 → f k = ctC aC ad n gl E G P co lc hc hn hs X k) :
    f = ctC aC ad1 (n + 1) gl (va_up E (n + 1) (0, 0, false, none, 0)) (va_up G (n + 1) (fun _ => 0)) P co lc hc hn hs X := by
  have a : ∀ k, k < 10 → ad1 k = ad k := fun k hk => had k (by omega) (by omega)
  funext k
  by_cases k0 : k = 0
  · subst k0; rw [h0, ctC_0, a 1 (by omega), a 2 (by omega), a 5 (by omega)]
  by_cases k1 : k = 1
  · subst k1
    rw [h1, ctC_1]
    have hr : va_up (rowE ad n) (n + 1) (some (ad1 (2 * (n + 1) + 8))) = rowE ad1 (n + 1) := by
      funext j
      by_cases hj : j = n + 1
      · subst hj; rw [va_up_self]; unfold rowE; rw [if_pos (by omega)]
      · rw [va_up_ne _ _ hj]
        unfold rowE
        by_cases h2 : 1 ≤ j ∧ j ≤ n
        · rw [if_pos h2, if_pos (by omega), had _ (by omega) (by omega)]
        · rw [if_neg h2, if_neg (by omega)]
    rw [hr]
  by_cases ke : k = 2 * (n + 1) + 8
  · subst ke; rw [he, ctC_e (by omega) (Nat.le_refl _) (by omega), va_up_self]; rfl
  by_cases kg : k = 2 * (n + 1) + 9
  · subst kg; rw [hg, ctC_s (by omega) (Nat.le_refl _) (by omega), va_up_self]; rfl
  rw [hf k k0 k1 ke kg]
  unfold ctC
  by_cases hx : 1000 ≤ k
  · rw [if_pos hx, if_pos hx]
  rw [if_neg hx, if_neg hx, if_neg k0, if_neg k0, if_neg k1, if_neg k1]
  by_cases k2 : k = 2
  · rw [if_pos k2, if_pos k2, a 3 (by omega), a 4 (by omega)]
  rw [if_neg k2, if_neg k2]
  by_cases k3 : k = 3
  · rw [if_pos k3, if_pos k3]
  rw [if_neg k3, if_neg k3]
  by_cases k4 : k = 4
  · rw [if_pos k4, if_pos k4]
  rw [if_neg k4, if_neg k4]
  by_cases k5 : k = 5
  · rw [if_pos k5, if_pos k5, a 6 (by omega), a 7 (by omega)]
  rw [if_neg k5, if_neg k5]
  by_cases k6 : k = 6
  · rw [if_pos k6, if_pos k6]
  rw [if_neg k6, if_neg k6]
  by_cases k7 : k = 7
  · rw [if_pos k7, if_pos k7]
  rw [if_neg k7, if_neg k7]
  by_cases k10 : k < 10
  · rw [if_pos k10, if_pos k10]
  rw [if_neg k10, if_neg k10]
  by_cases kn : n < (k - 8) / 2
  · rw [if_pos kn, if_pos (show n + 1 < (k - 8) / 2 by omega)]
  rw [if_neg kn, if_neg (show ¬ n + 1 < (k - 8) / 2 by omega), va_up_ne E _ (show (k - 8) / 2 ≠ n + 1 by omega), va_up_ne G _ (show (k - 8) / 2 ≠ n + 1 by omega)]
  by_cases k2 : k % 2 = 0
  · rw [if_pos k2, if_pos k2]
    have ho : oE ad1 (E ((k - 8) / 2)).2.2.2.1 = oE ad (E ((k - 8) / 2)).2.2.2.1 := by
      cases hs : (E ((k - 8) / 2)).2.2.2.1 with
      | none => rfl
      | some j =>
        have hj := hsf _ (by omega) (by omega) j hs
        show some (ad1 (2 * j + 8)) = some (ad (2 * j + 8))
        rw [had _ (by omega) (by omega)]
    unfold entO
    rw [ho, had _ (by omega) (by omega)]
  · rw [if_neg k2, if_neg k2]
