/-! BOTH SIDES' SUMS AND ORDERS -/
section RS
variable {n : Nat} {E : Nat → Ent} {G : Nat → Nat → Nat} {th : Nat → Bool} {sz sg me : Nat → Nat} {gr : Nat → Int32} {P : Nat} {co coM : Nat → Option Nat}
theorem RE.own (h : RE n E G th sz sg me gr) (hP : P ≤ 20) (hc : ∀ p c, p < 20 → 33 ≤ c → c ≤ 126 → coM (128 * p + c) = co (p * 94 + c - 33)) {i : Nat} (h1 : 1 ≤ i) (h2 : i ≤ n) : own P co (G i) (E i).1 = owM P coM sz sg i := by
  obtain ⟨a1, -, a3, -, -, -⟩ := h.2.2.2.2.2 i h1 h2
  exact own_eq a3 hP a1 hc
theorem RE.sums (h : RE n E G th sz sg me gr) (hP : P ≤ 20) (hc : ∀ p c, p < 20 → 33 ≤ c → c ≤ 126 → coM (128 * p + c) = co (p * 94 + c - 33)) : ∀ i, i ≤ n → (∀ j, 1 ≤ j → j ≤ n → (E j).2.2.1 = false → (E j).2.2.2.1 = none → (rk2 (rk1 P co G E n) i j).2.2.2.2 = sOm th me (owM P coM sz sg) j i) ∧ (∀ j, 1 ≤ j → j ≤ n → (E j).2.2.1 = false → ¬ (E j).2.2.2.1 = none → (rk2 (rk1 P co G E n) i j).2.2.2.2 = owM P coM sz sg j) := by
  have base : ∀ j, 1 ≤ j → j ≤ n → (E j).2.2.1 = false → (rk1 P co G E n j).2.2.2.2 = owM P coM sz sg j := by
    intro j a b hd
    unfold rk1
    rw [if_pos ⟨a, b, hd⟩]
    exact h.own hP hc a b
  intro i
  induction i with
  | zero => intro _; exact ⟨fun j a b hd _ => base j a b hd, fun j a b hd _ => base j a b hd⟩
  | succ i ih =>
    intro hi
    obtain ⟨ih1, ih2⟩ := ih (by omega)
    have ea := h.2.2.2.2.2 (i + 1) (by omega) hi
    have hdq : (rk1 P co G E n (i + 1)).2.2.1 = (E (i + 1)).2.2.1 := rk1_dr
    have hsq : (rk1 P co G E n (i + 1)).2.2.2.1 = (E (i + 1)).2.2.2.1 := rk1_sf
    cases hd : (E (i + 1)).2.2.1 with
    | true =>
      rw [rk2_dr (by rw [hdq]; exact hd)]
      refine ⟨fun j a b c d => ?_, ih2⟩
      rw [ih1 j a b c d]
      show _ = if (th (i + 1) && decide (me (i + 1) = j)) = true then _ else _
      rw [if_neg (by rw [ea.2.1, hd]; simp)]
    | false =>
      cases hs : (E (i + 1)).2.2.2.1 with
      | none =>
        rw [rk2_no (by rw [hdq]; exact hd) (by rw [hsq]; exact hs)]
        refine ⟨fun j a b c d => ?_, ih2⟩
        rw [ih1 j a b c d]
        show _ = if (th (i + 1) && decide (me (i + 1) = j)) = true then _ else _
        have hm := (h.me_0 (by omega) hi hd).mpr hs
        rw [if_neg (by rw [hm]; simp; omega)]
      | some k =>
        rw [rk2_so (by rw [hdq]; exact hd) (by rw [hsq]; exact hs)]
        have hm := (h.me_iff (by omega) hi hd (ea.2.2.2.2.2 k hs).1).mpr hs
        have hkn := (ea.2.2.2.2.2 k hs).2.2.2.2
        refine ⟨fun j a b c d => ?_, fun j a b c d => ?_⟩
        · show _ = if (th (i + 1) && decide (me (i + 1) = j)) = true then _ else _
          by_cases hjk : j = k
          · subst hjk
            rw [va_up_self, if_pos (by rw [ea.2.1, hd, hm]; simp)]
            show min _ _ = _
            rw [ih1 j a b c d, ih2 (i + 1) (by omega) hi hd (by rw [hs]; intro q; cases q)]
          · rw [va_up_ne _ _ hjk, if_neg (by rw [hm]; simp; omega)]
            exact ih1 j a b c d
        · rw [va_up_ne _ _ (show j ≠ k from fun q => d (by rw [q]; exact hkn))]
          exact ih2 j a b c d
theorem RE.sum (h : RE n E G th sz sg me gr) (hP : P ≤ 20) (hc : ∀ p c, p < 20 → 33 ≤ c → c ≤ 126 → coM (128 * p + c) = co (p * 94 + c - 33)) {j : Nat} (h1 : 1 ≤ j) (h2 : j ≤ n) (hd : (E j).2.2.1 = false) (hs : (E j).2.2.2.1 = none) : (rkE P co G E n j).2.2.2.2 = sOm th me (owM P coM sz sg) j n := (h.sums hP hc n (Nat.le_refl _)).1 j h1 h2 hd hs
end RS
/-! the order that comes by inserting -/
theorem inP_gt (hs : Nat → Nat) (b : Nat) : ∀ k j, inP hs b k ≤ j → j < k → b < hs j
  | 0, j, _, h => absurd h (Nat.not_lt_zero _)
  | k + 1, j, h1, h2 => by
    by_cases hb : b < hs k
    · rw [show inP hs b (k + 1) = inP hs b k from if_pos hb] at h1
      by_cases hj : j = k
      · rw [hj]; exact hb
      · exact inP_gt hs b k j h1 (by omega)
    · rw [show inP hs b (k + 1) = k + 1 from if_neg hb] at h1
      omega
theorem inP_le2 (hs : Nat → Nat) (b : Nat) : ∀ k, inP hs b k = 0 ∨ hs (inP hs b k - 1) ≤ b
  | 0 => Or.inl rfl
  | k + 1 => by
    by_cases hb : b < hs k
    · rw [show inP hs b (k + 1) = inP hs b k from if_pos hb]
      exact inP_le2 hs b k
    · rw [show inP hs b (k + 1) = k + 1 from if_neg hb]
      right
      show hs k ≤ b
      omega
theorem insR_lo {f : Nat → Nat} {p hc v j : Nat} (h : j < p) : insR f p hc v j = f j := by
  unfold insR un
  rw [va_up_ne _ _ (by omega)]
  unfold shf
  rw [if_neg (by omega)]
theorem insR_at {f : Nat → Nat} {p hc v : Nat} : insR f p hc v p = v := va_up_self _ _ _
theorem insR_hi {f : Nat → Nat} {p hc v j : Nat} (h : p < j) (h2 : j ≤ hc) : insR f p hc v j = f (j - 1) := by
  unfold insR un
  rw [va_up_ne _ _ (by omega)]
  unfold shf
  rw [if_pos ⟨h, h2⟩]
def lx (a b c d : Nat) : Prop := a < c ∨ (a = c ∧ b < d)
def ordR (q : Nat → Bool) (s : Nat → Nat) (i : Nat) (r : Nat × (Nat → Nat) × (Nat → Nat)) : Prop :=
  (∀ f g, f < g → g < r.1 → lx (r.2.2 f) (r.2.1 f) (r.2.2 g) (r.2.1 g)) ∧ (∀ f, f < r.1 → 1 ≤ r.2.1 f ∧ r.2.1 f ≤ i ∧ q (r.2.1 f) = true ∧ r.2.2 f = s (r.2.1 f)) ∧ ∀ e, 1 ≤ e → e ≤ i → q e = true → ∃ f, f < r.1 ∧ r.2.1 f = e
theorem ordR_fH {q : Nat → Bool} {E : Nat → Ent} {hn hs : Nat → Nat} : ∀ i, ordR q (fun e => (E e).2.2.2.2) i (fH q E hn hs i)
  | 0 => ⟨fun f g _ h => absurd h (Nat.not_lt_zero _), fun f h => absurd h (Nat.not_lt_zero _), fun e a b _ => by omega⟩
  | i + 1 => by
    obtain ⟨A, B, C⟩ := ordR_fH (q := q) (E := E) (hn := hn) (hs := hs) i
    by_cases hq : q (i + 1) = true
    · rw [fH_y hq]
      generalize fH q E hn hs i = r at A B C ⊢
      obtain ⟨hc, fn, fs⟩ := r
      simp only at A B C ⊢
      generalize hb : (E (i + 1)).2.2.2.2 = b
      have P1 := inP_gt fs b hc
      have P2 := inP_le2 fs b hc
      have P3 := inP_le fs b hc
      generalize inP fs b hc = p at P1 P2 P3 ⊢
      have lows : ∀ f, f < p → fs f ≤ b := by
        intro f hf
        rcases P2 with P2 | P2
        · omega
        · by_cases hfp : f = p - 1
          · rw [hfp]; exact P2
          · have := A f (p - 1) (by omega) (by omega)
            rcases this with t | t
            · omega
            · omega
      refine ⟨fun f g hfg hg => ?_, fun f hf => ?_, fun e a c hqe => ?_⟩
      · show lx (insR fs p hc b f) (insR fn p hc (i + 1) f) (insR fs p hc b g) (insR fn p hc (i + 1) g)
        have hg' : g < hc + 1 := hg
        rcases Nat.lt_or_ge g p with g1 | g1
        · rw [insR_lo g1, insR_lo g1, insR_lo (show f < p by omega), insR_lo (show f < p by omega)]
          exact A f g hfg (by omega)
        · by_cases g2 : g = p
          · subst g2
            rw [insR_at, insR_at, insR_lo hfg, insR_lo hfg]
            have h1 := lows f hfg
            have h2 := (B f (by omega)).2.1
            unfold lx
            omega
          · rw [insR_hi (show p < g by omega) (show g ≤ hc by omega), insR_hi (show p < g by omega) (show g ≤ hc by omega)]
            rcases Nat.lt_or_ge f p with f1 | f1
            · rw [insR_lo f1, insR_lo f1]
              exact A f (g - 1) (by omega) (by omega)
            · by_cases f2 : f = p
              · subst f2
                rw [insR_at, insR_at]
                exact Or.inl (P1 (g - 1) (by omega) (by omega))
              · rw [insR_hi (show p < f by omega) (show f ≤ hc by omega), insR_hi (show p < f by omega) (show f ≤ hc by omega)]
                exact A (f - 1) (g - 1) (by omega) (by omega)
      · show 1 ≤ insR fn p hc (i + 1) f ∧ insR fn p hc (i + 1) f ≤ i + 1 ∧ q (insR fn p hc (i + 1) f) = true ∧ insR fs p hc b f = (E (insR fn p hc (i + 1) f)).2.2.2.2
        have hf' : f < hc + 1 := hf
        rcases Nat.lt_or_ge f p with f1 | f1
        · rw [insR_lo f1, insR_lo f1]
          obtain ⟨b1, b2, b3, b4⟩ := B f (by omega)
          exact ⟨b1, by omega, b3, b4⟩
        · by_cases f2 : f = p
          · subst f2
            rw [insR_at, insR_at]
            exact ⟨by omega, Nat.le_refl _, hq, hb.symm⟩
          · rw [insR_hi (show p < f by omega) (show f ≤ hc by omega), insR_hi (show p < f by omega) (show f ≤ hc by omega)]
            obtain ⟨b1, b2, b3, b4⟩ := B (f - 1) (by omega)
            exact ⟨b1, by omega, b3, b4⟩
      · show ∃ f, f < hc + 1 ∧ insR fn p hc (i + 1) f = e
        by_cases he : e = i + 1
        · exact ⟨p, by omega, by rw [insR_at, he]⟩
        · obtain ⟨f, hf, hfe⟩ := C e a (by omega) hqe
          rcases Nat.lt_or_ge f p with f1 | f1
          · exact ⟨f, by omega, by rw [insR_lo f1]; exact hfe⟩
          · exact ⟨f + 1, by omega, by rw [insR_hi (show p < f + 1 by omega) (show f + 1 ≤ hc by omega)]; exact hfe⟩
    · rw [fH_n hq]
      refine ⟨A, fun f hf => ?_, fun e a c hqe => ?_⟩
      · obtain ⟨b1, b2, b3, b4⟩ := B f hf
        exact ⟨b1, by omega, b3, b4⟩
      · by_cases he : e = i + 1
        · subst he; exact absurd hqe hq
        · exact C e a (by omega) hqe
/-- the scan finds the least that is behind -/
def cand (q : Nat → Bool) (R : Nat → Nat) (ls : Option Nat) (la i e : Nat) : Prop := 1 ≤ e ∧ e ≤ i ∧ q e = true ∧ bhd ls la (R e) e = true ∧ R e < 401
theorem scn_sp {q : Nat → Bool} {R : Nat → Nat} {ls : Option Nat} {la : Nat} : ∀ i, (scn q R ls la i = (0, 401) ∧ ∀ e, ¬ cand q R ls la i e) ∨ (cand q R ls la i (scn q R ls la i).1 ∧ (scn q R ls la i).2 = R (scn q R ls la i).1 ∧ ∀ e, cand q R ls la i e → R (scn q R ls la i).1 < R e ∨ (R (scn q R ls la i).1 = R e ∧ (scn q R ls la i).1 ≤ e))
  | 0 => Or.inl ⟨rfl, fun e h => by have := h.1; have := h.2.1; omega⟩
  | i + 1 => by
    have ih := scn_sp (q := q) (R := R) (ls := ls) (la := la) i
    have up : ∀ e, cand q R ls la i e → cand q R ls la (i + 1) e := fun e h => ⟨h.1, by have := h.2.1; omega, h.2.2⟩
    have dn : ∀ e, cand q R ls la (i + 1) e → e = i + 1 ∨ cand q R ls la i e := fun e h => by
      by_cases he : e = i + 1
      · exact Or.inl he
      · exact Or.inr ⟨h.1, by have := h.2.1; omega, h.2.2⟩
    by_cases hy : q (i + 1) = true ∧ bhd ls la (R (i + 1)) (i + 1) = true ∧ R (i + 1) < (scn q R ls la i).2
    · rw [scn_y hy.1 hy.2.1 hy.2.2]
      right
      have h401 := (scn_le (q := q) (R := R) (ls := ls) (la := la) i).2
      refine ⟨⟨by omega, Nat.le_refl _, hy.1, hy.2.1, by show R (i + 1) < 401; omega⟩, rfl, fun e he => ?_⟩
      rcases dn e he with rfl | he2
      · exact Or.inr ⟨rfl, Nat.le_refl _⟩
      · left
        rcases ih with ih | ih
        · exact absurd he2 (ih.2 e)
        · have h1 := ih.2.2 e he2
          have h2 := ih.2.1
          show R (i + 1) < R e
          omega
    · have hno : q (i + 1) = false ∨ bhd ls la (R (i + 1)) (i + 1) = false ∨ (scn q R ls la i).2 ≤ R (i + 1) := by
        cases hq : q (i + 1) with
        | false => exact Or.inl rfl
        | true =>
          cases hb : bhd ls la (R (i + 1)) (i + 1) with
          | false => exact Or.inr (Or.inl rfl)
          | true => exact Or.inr (Or.inr (Nat.not_lt.mp fun z => hy ⟨hq, hb, z⟩))
      rw [scn_n hno]
      rcases ih with ih | ih
      · left
        refine ⟨ih.1, fun e he => ?_⟩
        rcases dn e he with rfl | he2
        · rcases hno with t | t | t
          · rw [he.2.2.1] at t; cases t
          · rw [he.2.2.2.1] at t; cases t
          · rw [ih.1] at t
            have := he.2.2.2.2
            have t' : 401 ≤ R (i + 1) := t
            omega
        · exact ih.2 e he2
      · right
        refine ⟨up _ ih.1, ih.2.1, fun e he => ?_⟩
        rcases dn e he with rfl | he2
        · rcases hno with t | t | t
          · rw [he.2.2.1] at t; cases t
          · rw [he.2.2.2.1] at t; cases t
          · have h2 := ih.2.1
            have h3 := ih.1.2.1
            omega
        · exact ih.2.2 e he2
theorem sel_of {q q' : Nat → Bool} {s R : Nat → Nat} {n : Nat} {r : Nat × (Nat → Nat) × (Nat → Nat)} (h : ordR q s n r) (hqq : ∀ e, 1 ≤ e → e ≤ n → (q e = true ↔ q' e = true ∧ R e < 401)) (hR : ∀ e, 1 ≤ e → e ≤ n → q e = true → R e = s e) : ∀ f, f ≤ r.1 → scn q' R (pvS r.2.2 f) (pvN r.2.1 f) n = if f < r.1 then (r.2.1 f, r.2.2 f) else (0, 401) := by
  obtain ⟨A, B, C⟩ := h
  intro f hf
  have toIdx : ∀ e, cand q' R (pvS r.2.2 f) (pvN r.2.1 f) n e → ∃ g, f ≤ g ∧ g < r.1 ∧ r.2.1 g = e := by
    intro e he
    have hqe := (hqq e he.1 he.2.1).mpr ⟨he.2.2.1, he.2.2.2.2⟩
    obtain ⟨g, hg, hge⟩ := C e he.1 he.2.1 hqe
    refine ⟨g, ?_, hg, hge⟩
    rcases Nat.lt_or_ge g f with t | t
    · exfalso
      obtain ⟨f', rfl⟩ : ∃ f', f = f' + 1 := ⟨f - 1, by omega⟩
      have hb : bhd (some (r.2.2 f')) (r.2.1 f') (R e) e = true := he.2.2.2.1
      have hsg := (B g hg).2.2.2
      have hRe := hR e he.1 he.2.1 hqe
      rw [hge] at hsg
      simp only [bhd, Bool.or_eq_true, Bool.and_eq_true, decide_eq_true_eq] at hb
      by_cases hgf : g = f'
      · subst hgf
        rw [hge] at hb
        omega
      · have hl := A g f' (by omega) (by omega)
        rw [hge] at hl
        unfold lx at hl
        omega
    · exact t
  have ofIdx : ∀ g, f ≤ g → g < r.1 → cand q' R (pvS r.2.2 f) (pvN r.2.1 f) n (r.2.1 g) := by
    intro g hfg hg
    obtain ⟨b1, b2, b3, b4⟩ := B g hg
    have h1 := (hqq _ b1 b2).mp b3
    refine ⟨b1, b2, h1.1, ?_, h1.2⟩
    cases f with
    | zero => rfl
    | succ f' =>
      show bhd (some (r.2.2 f')) (r.2.1 f') (R (r.2.1 g)) (r.2.1 g) = true
      rw [hR _ b1 b2 b3, ← b4]
      have hl := A f' g (by omega) hg
      unfold lx at hl
      simp only [bhd, Bool.or_eq_true, Bool.and_eq_true, decide_eq_true_eq]
      omega
  have sp := scn_sp (q := q') (R := R) (ls := pvS r.2.2 f) (la := pvN r.2.1 f) n
  by_cases hfr : f < r.1
  · rw [if_pos hfr]
    rcases sp with sp | sp
    · exact absurd (ofIdx f (Nat.le_refl _) hfr) (sp.2 _)
    · obtain ⟨g, g1, g2, g3⟩ := toIdx _ sp.1
      have hm := sp.2.2 _ (ofIdx f (Nat.le_refl _) hfr)
      obtain ⟨b1, b2, b3, b4⟩ := B f hfr
      obtain ⟨c1, c2, c3, c4⟩ := B g g2
      have hgf : g = f := by
        by_cases hgf : g = f
        · exact hgf
        · have hl := A f g (by omega) g2
          rw [hR _ b1 b2 b3, ← b4, ← g3, hR _ c1 c2 c3, ← c4] at hm
          unfold lx at hl
          omega
      subst hgf
      apply Prod.ext
      · exact g3.symm
      · rw [sp.2.1, ← g3, hR _ c1 c2 c3, ← c4]
  · rw [if_neg hfr]
    rcases sp with sp | sp
    · exact sp.1
    · obtain ⟨g, g1, g2, g3⟩ := toIdx _ sp.1
      omega
/-- the plain ones -/
theorem pH_cnt {q : Nat → Bool} {E : Nat → Ent} {hn hs : Nat → Nat} : ∀ i, (pH q E hn hs i).1 = cnt q i
  | 0 => rfl
  | i + 1 => by
    by_cases h : q (i + 1) = true
    · rw [pH_y h, cnt_y h]; show _ + 1 = _; rw [pH_cnt i]
    · rw [pH_n h, cnt_n (by simpa using h)]; exact pH_cnt i
theorem pl_eq {p q : Nat → Bool} {E : Nat → Ent} {S hn hs wd sm : Nat → Nat} {k n : Nat} (hpq : ∀ i, 1 ≤ i → i ≤ n → p i = q i) (hS : ∀ i, 1 ≤ i → i ≤ n → q i = true → S i = (E i).2.2.2.2) : ∀ i, i ≤ n → ∀ f, f < min (cnt q i) k → (plW p S k wd sm i).1 f = (pH q E hn hs i).2.1 f ∧ (plW p S k wd sm i).2 f = (pH q E hn hs i).2.2 f
  | 0, _, f, hf => by
    have : f < min 0 k := hf
    omega
  | i + 1, hi, f, hf => by
    have ih := pl_eq (hn := hn) (hs := hs) (wd := wd) (sm := sm) (k := k) hpq hS i (by omega)
    have hci : cnt p i = cnt q i := cnt_congr i (fun a h1 h2 => hpq a h1 (by omega))
    have hpc := pH_cnt (q := q) (E := E) (hn := hn) (hs := hs) i
    have hpi := hpq (i + 1) (by omega) hi
    cases hq : q (i + 1) with
    | true =>
      rw [cnt_y hq] at hf
      rw [pH_y hq]
      by_cases hk : cnt q i < k
      · rw [plW_y (by rw [hpi]; exact hq) (by rw [hci]; exact hk), hci, hpc]
        show un _ (cnt q i) (i + 1) f = un _ (cnt q i) (i + 1) f ∧ un _ (cnt q i) (S (i + 1)) f = un _ (cnt q i) _ f
        by_cases hfc : f = cnt q i
        · subst hfc
          unfold un
          rw [va_up_self, va_up_self, va_up_self, va_up_self]
          exact ⟨rfl, hS _ (by omega) hi hq⟩
        · unfold un
          rw [va_up_ne _ _ hfc, va_up_ne _ _ hfc, va_up_ne _ _ hfc, va_up_ne _ _ hfc]
          exact ih f (by omega)
      · rw [plW_n (Or.inr (by rw [hci]; omega)), hpc]
        show _ = un _ (cnt q i) (i + 1) f ∧ _ = un _ (cnt q i) _ f
        unfold un
        rw [va_up_ne _ _ (show f ≠ cnt q i by omega), va_up_ne _ _ (show f ≠ cnt q i by omega)]
        exact ih f (by omega)
    | false =>
      rw [cnt_n hq] at hf
      rw [pH_n (by rw [hq]; decide), plW_n (Or.inl (by rw [hpi]; exact hq))]
      exact ih f hf
