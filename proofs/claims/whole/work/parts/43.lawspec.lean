section TWO
variable {aC : Nat → ClassId} {ad ad1 : Nat → Nat} {n : Nat} {gl : Int32} {E : Nat → Ent} {G : Nat → Nat → Nat} {P : Nat} {co : Nat → Option Nat} {lc : Nat → Nat} {hc : Nat} {hn hs : Nat → Nat} {n' : Nat} {th : Nat → Bool} {sz : Nat → Nat} {sg : Nat → Nat} {me : Nat → Nat} {gr : Nat → Int32} {lk : Int32} {P' : Nat} {co' : Nat → Option Nat} {tb : Nat → Nat} {fd : Nat} {wd : Nat → Nat} {sm : Nat → Nat} {rc : Nat → Nat} {Z X Y : Nat → Option va_E}
theorem ctCM : ctC aC ad n gl E G P co lc hc hn hs (ctM aC ad n' th sz sg me gr lk P' co' tb fd wd sm rc Z) = ctM aC ad n' th sz sg me gr lk P' co' tb fd wd sm rc (ctC aC ad n gl E G P co lc hc hn hs Z) := by
  funext k
  by_cases h : k < 1000
  · rw [ctM_x h]
    unfold ctC
    rw [if_neg (show ¬ 1000 ≤ k by omega), if_neg (show ¬ 1000 ≤ k by omega)]
  · rw [ctC_x (show 1000 ≤ k by omega)]
    unfold ctM
    rw [if_neg h, if_neg h]
theorem ctC_X (h : ∀ k, 1000 ≤ k → X k = Y k) : ctC aC ad n gl E G P co lc hc hn hs X = ctC aC ad n gl E G P co lc hc hn hs Y := by
  funext k
  by_cases hk : 1000 ≤ k
  · rw [ctC_x hk, ctC_x hk]; exact h k hk
  · unfold ctC
    rw [if_neg hk, if_neg hk]
theorem ctM_ad (h : ∀ k, 1000 ≤ k → ad1 k = ad k) : ctM aC ad n' th sz sg me gr lk P' co' tb fd wd sm rc Z = ctM aC ad1 n' th sz sg me gr lk P' co' tb fd wd sm rc Z := by
  unfold ctM
  rw [h 1001 (by omega), h 1002 (by omega), h 1003 (by omega), h 1004 (by omega), h 1005 (by omega), h 1006 (by omega), h 1007 (by omega), h 1008 (by omega), h 1009 (by omega), h 1010 (by omega)]
theorem ctM_X (h : ∀ k, k < 1000 → X k = Y k) : ctM aC ad n' th sz sg me gr lk P' co' tb fd wd sm rc X = ctM aC ad n' th sz sg me gr lk P' co' tb fd wd sm rc Y := by
  funext k
  by_cases hk : k < 1000
  · rw [ctM_x hk, ctM_x hk]; exact h k hk
  · unfold ctM
    rw [if_neg hk, if_neg hk]
end TWO
theorem isSg_of {y : Int32} (h : isSg y = true) : ∃ q : Nat, 33 ≤ q ∧ q ≤ 126 ∧ y = nI q := by
  simp only [isSg, Bool.and_eq_true, Bool.not_eq_true', decide_eq_false_iff_not] at h
  have h0 : ¬ y < 0 := fun q => h.1 (Int32.lt_trans q (show (0 : Int32) < nI 33 by decide +kernel))
  obtain ⟨j, hj, rfl⟩ := nI_of h0
  refine ⟨j, ?_, ?_, rfl⟩
  · rcases Nat.lt_or_ge j 33 with q | q
    · exact absurd (nI_lt q (by omega)) h.1
    · exact q
  · rcases Nat.lt_or_ge 126 j with q | q
    · exact absurd (nI_lt q hj) h.2
    · exact q
theorem isK_of {y : Int32} (h : isK y = true) : ∃ q : Nat, 1 ≤ q ∧ q ≤ 1000 ∧ y = nI q := by
  simp only [isK, Bool.and_eq_true, Bool.not_eq_true', decide_eq_false_iff_not] at h
  have h0 : ¬ y < 0 := fun q => h.1 (Int32.lt_trans q (show (0 : Int32) < nI 1 by decide +kernel))
  obtain ⟨j, hj, rfl⟩ := nI_of h0
  refine ⟨j, ?_, ?_, rfl⟩
  · rcases Nat.lt_or_ge j 1 with q | q
    · exact absurd (nI_lt q (by omega)) h.1
    · exact q
  · rcases Nat.lt_or_ge 1000 j with q | q
    · exact absurd (nI_lt q hj) h.2
    · exact q
theorem okC_of {x y z : Int32} (h : okC x y z = true) : ∃ pl q cs : Nat, pl < 20 ∧ 33 ≤ q ∧ q ≤ 126 ∧ cs ≤ 1000 ∧ x = nI pl ∧ y = nI q ∧ z = nI cs := by
  simp only [okC, Bool.and_eq_true, Bool.not_eq_true', decide_eq_false_iff_not, decide_eq_true_eq] at h
  obtain ⟨⟨⟨⟨h1, h2⟩, h3⟩, h4⟩, h5⟩ := h
  obtain ⟨q, q1, q2, rfl⟩ := isSg_of h3
  obtain ⟨pl, hp, rfl⟩ := nI_of h1
  obtain ⟨cs, hc, rfl⟩ := nI_of h4
  refine ⟨pl, q, cs, ?_, q1, q2, ?_, rfl, rfl, rfl⟩
  · rcases Nat.lt_or_ge pl 20 with t | t
    · exact t
    · exact absurd (nI_le t hp) h2
  · exact (nI_leI hc (by decide)).mp h5
theorem hasB_of {hc : Nat} {x : Int32} (h : hasB hc x = true) : ∃ j : Nat, j < hc ∧ x = nI j := by
  simp only [hasB, Bool.and_eq_true, Bool.not_eq_true', decide_eq_false_iff_not] at h
  obtain ⟨j, hj, rfl⟩ := nI_of h.1
  refine ⟨j, ?_, rfl⟩
  rcases Nat.lt_or_ge j hc with q | q
  · exact q
  · exact absurd (nI_le q hj) h.2
theorem pH_hs {q : Nat → Bool} {E : Nat → Ent} {hn hs : Nat → Nat} (h : ∀ j, hs j ≤ 100000) (hE : ∀ j, (E j).2.2.2.2 ≤ 100000) : ∀ i j, (pH q E hn hs i).2.2 j ≤ 100000
  | 0, j => h j
  | i + 1, j => by
    have ih := pH_hs (q := q) (hn := hn) h hE i
    by_cases hq : q (i + 1) = true
    · rw [pH_y hq]
      show un _ _ _ j ≤ 100000
      unfold un va_up
      split
      · exact hE _
      · exact ih j
    · rw [pH_n hq]; exact ih j
/-- both sides' other numbers -/
def RX (P hc : Nat) (gl : Int32) (co coM : Nat → Option Nat) (hn hs wd sm : Nat → Nat) : Prop :=
  P ≤ 20 ∧ hc ≤ 200 ∧ (gl = -1 ∨ isGr gl = true) ∧ (∀ k c, co k = some c → c ≤ 1000) ∧ (∀ k c, coM k = some c → c ≤ 1000) ∧ (∀ p c, p < 20 → 33 ≤ c → c ≤ 126 → coM (128 * p + c) = co (p * 94 + c - 33)) ∧ (∀ j, hs j ≤ 100000) ∧ ∀ j, j < hc → wd j = hn j ∧ sm j = hs j
theorem RX.tell {P hc : Nat} {gl : Int32} {co coM : Nat → Option Nat} {hn hs wd sm : Nat → Nat} (h : RX P hc gl co coM hn hs wd sm) {pl q cs : Nat} (hp : pl < 20) (q1 : 33 ≤ q) (q2 : q ≤ 126) (hcs : cs ≤ 1000) : RX (max P (pl + 1)) hc gl (va_up co (pl * 94 + q - 33) (some cs)) (va_up coM (128 * pl + q) (some cs)) hn hs wd sm := by
  obtain ⟨h1, h2, h3, h4, h5, h6, h7, h8⟩ := h
  refine ⟨by omega, h2, h3, fun k c hk => ?_, fun k c hk => ?_, fun p c a b d => ?_, h7, h8⟩
  · by_cases e : k = pl * 94 + q - 33
    · subst e; rw [va_up_self] at hk; cases hk; exact hcs
    · rw [va_up_ne _ _ e] at hk; exact h4 k c hk
  · by_cases e : k = 128 * pl + q
    · subst e; rw [va_up_self] at hk; cases hk; exact hcs
    · rw [va_up_ne _ _ e] at hk; exact h5 k c hk
  · by_cases e : p = pl ∧ c = q
    · obtain ⟨rfl, rfl⟩ := e; rw [va_up_self, va_up_self]
    · rw [va_up_ne _ _ (show 128 * p + c ≠ 128 * pl + q by omega), va_up_ne _ _ (show p * 94 + c - 33 ≠ pl * 94 + q - 33 by omega)]
      exact h6 p c a b d
theorem RX.clr {P hc : Nat} {gl : Int32} {co coM : Nat → Option Nat} {hn hs wd sm : Nat → Nat} (h : RX P hc gl co coM hn hs wd sm) : RX 0 hc gl (clC co) (clI coM 2560) hn hs wd sm := by
  obtain ⟨h1, h2, h3, h4, h5, h6, h7, h8⟩ := h
  refine ⟨Nat.zero_le _, h2, h3, fun k c hk => ?_, fun k c hk => ?_, fun p c a b d => ?_, h7, h8⟩
  · unfold clC at hk
    split at hk
    · cases hk
    · exact h4 k c hk
  · unfold clI at hk
    split at hk
    · cases hk
    · exact h5 k c hk
  · unfold clC clI
    rw [if_pos (by omega), if_pos (by omega)]
theorem RX.look {P hc : Nat} {gl x : Int32} {co coM : Nat → Option Nat} {hn hs wd sm : Nat → Nat} (h : RX P hc gl co coM hn hs wd sm) (hx : x = -1 ∨ isGr x = true) : RX P hc x co coM hn hs wd sm := ⟨h.1, h.2.1, hx, h.2.2.2⟩
theorem RX.hits {P hc hc' : Nat} {gl : Int32} {co coM : Nat → Option Nat} {hn hs wd sm hn' hs' wd' sm' : Nat → Nat} (h : RX P hc gl co coM hn hs wd sm) (h1 : hc' ≤ 200) (h2 : ∀ j, hs' j ≤ 100000) (h3 : ∀ j, j < hc' → wd' j = hn' j ∧ sm' j = hs' j) : RX P hc' gl co coM hn' hs' wd' sm' := ⟨h.1, h1, h.2.2.1, h.2.2.2.1, h.2.2.2.2.1, h.2.2.2.2.2.1, h2, h3⟩
section FND
variable {n : Nat} {E : Nat → Ent} {G : Nat → Nat → Nat} {th : Nat → Bool} {sz sg me : Nat → Nat} {gr : Nat → Int32} {P : Nat} {co coM : Nat → Option Nat} {gl : Int32}
theorem RE.mfs (h : RE n E G th sz sg me gr) (hP : P ≤ 20) (hc : ∀ p c, p < 20 → 33 ≤ c → c ≤ 126 → coM (128 * p + c) = co (p * 94 + c - 33)) (hg : gl = -1 ∨ isGr gl = true) {e : Nat} (h1 : 1 ≤ e) (h2 : e ≤ n) (hm : mfM th me gr gl e = true) : (rkE P co G E n e).2.2.2.2 = sOm th me (owM P coM sz sg) e n := by
  rw [h.mf hg h1 h2] at hm
  simp only [mbf, Bool.and_eq_true, Bool.not_eq_true'] at hm
  exact h.sum hP hc h1 h2 hm.1 (by cases hs : (E e).2.2.2.1 with | none => rfl | some x => rw [hs] at hm; exact absurd hm.2.1 (fun q => by cases q))
theorem RE.sel (h : RE n E G th sz sg me gr) (hP : P ≤ 20) (hc : ∀ p c, p < 20 → 33 ≤ c → c ≤ 126 → coM (128 * p + c) = co (p * 94 + c - 33)) (hg : gl = -1 ∨ isGr gl = true) {rc hn hs : Nat → Nat} : ∀ f, f ≤ (fH (okF gl (rkE P co G E n)) (rkE P co G E n) hn hs n).1 → scn (mfM th me gr gl) (rcI (mfM th me gr gl) (fun a => sOm th me (owM P coM sz sg) a n) rc n) (pvS (fH (okF gl (rkE P co G E n)) (rkE P co G E n) hn hs n).2.2 f) (pvN (fH (okF gl (rkE P co G E n)) (rkE P co G E n) hn hs n).2.1 f) n = if f < (fH (okF gl (rkE P co G E n)) (rkE P co G E n) hn hs n).1 then ((fH (okF gl (rkE P co G E n)) (rkE P co G E n) hn hs n).2.1 f, (fH (okF gl (rkE P co G E n)) (rkE P co G E n) hn hs n).2.2 f) else (0, 401) := by
  have hm : ∀ e, 1 ≤ e → e ≤ n → mfM th me gr gl e = (!(rkE P co G E n e).2.2.1 && mbf gl (rkE P co G E n e)) := fun e a b => (h.reck hP).mf hg a b
  have hr : ∀ e, 1 ≤ e → e ≤ n → mfM th me gr gl e = true → rcI (mfM th me gr gl) (fun a => sOm th me (owM P coM sz sg) a n) rc n e = (rkE P co G E n e).2.2.2.2 := fun e a b hq => by
    unfold rcI
    rw [if_pos ⟨a, b⟩, if_pos hq]
    exact (h.mfs hP hc hg a b hq).symm
  have hok : ∀ e, 1 ≤ e → e ≤ n → (okF gl (rkE P co G E n) e = true ↔ mfM th me gr gl e = true ∧ (rkE P co G E n e).2.2.2.2 ≤ 400) := fun e a b => by
    rw [hm e a b]
    unfold okF
    simp only [Bool.and_eq_true, decide_eq_true_eq]
  exact sel_of (ordR_fH (q := okF gl (rkE P co G E n)) (E := rkE P co G E n) (hn := hn) (hs := hs) n) (fun e a b => by
    rw [hok e a b]
    constructor
    · intro q
      exact ⟨q.1, by rw [hr e a b q.1]; omega⟩
    · intro q
      rw [hr e a b q.1] at q
      exact ⟨q.1, by omega⟩) (fun e a b q => hr e a b ((hok e a b).mp q).1)
theorem RE.okp (h : RE n E G th sz sg me gr) (hP : P ≤ 20) (hc : ∀ p c, p < 20 → 33 ≤ c → c ≤ 126 → coM (128 * p + c) = co (p * 94 + c - 33)) (hg : gl = -1 ∨ isGr gl = true) {e : Nat} (h1 : 1 ≤ e) (h2 : e ≤ n) : okN th me gr gl P sz coM sg e = okP gl P co G (rkE P co G E n) e := by
  obtain ⟨a1, -, a3, -, -, -⟩ := h.2.2.2.2.2 e h1 h2
  unfold okN plB okP
  rw [(h.reck (co := co) hP).mf hg h1 h2, rkE_k.1, a3, ← spl_eq hc (E e).1 (h.2.1 e) a1]
  by_cases hl : (E e).1 = P
  · rw [hl]
    cases (!(rkE P co G E n e).2.2.1 && mbf gl (rkE P co G E n e)) <;> simp
  · rw [decide_eq_false hl]
    simp
end FND
/-- what holds at the law's head, t calls done: both objects in one memory, their states as one -/
def lawI (D : va_G) (aC : Nat → ClassId) (lo b t : Nat) (ad : Nat → Nat) (H : Heap) (ls : Array Slot) : Prop :=
  ∃ (n : Nat) (gl : Int32) (E : Nat → Ent) (G : Nat → Nat → Nat) (P : Nat) (co : Nat → Option Nat) (lc : Nat → Nat) (hc : Nat) (hn : Nat → Nat) (hs : Nat → Nat) (th : Nat → Bool) (sz : Nat → Nat) (sg : Nat → Nat) (me : Nat → Nat) (gr : Nat → Int32) (coM : Nat → Option Nat) (tb : Nat → Nat) (wd : Nat → Nat) (sm : Nat → Nat) (rc : Nat → Nat), mw D vwCl lo ad (ctC aC ad n gl E G P co lc hc hn hs (ctM aC ad n th sz sg me gr gl P coM tb hc wd sm rc (fun _ => none))) H ∧ RE n E G th sz sg me gr ∧ RX P hc gl co coM hn hs wd sm ∧ lv_has ls 4 [(0, .ref b), (1, .ref (ad 0)), (2, .ref (ad 1000)), (3, .int (nI (4 * t)))]
