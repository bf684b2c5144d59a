/-! BOTH SIDES' ENTRIES -/
def RE (n : Nat) (E : Nat → Ent) (G : Nat → Nat → Nat) (th : Nat → Bool) (sz sg me : Nat → Nat) (gr : Nat → Int32) : Prop :=
  n ≤ 200 ∧ (∀ j, (E j).1 ≤ 20) ∧ (∀ j, (E j).2.2.2.2 ≤ 100000) ∧ (∀ j, me j ≤ 200) ∧ (∀ j, (j = 0 ∨ n < j) → sz j = 0 ∧ me j = 0 ∧ gr j = 0) ∧
  ∀ j, 1 ≤ j → j ≤ n → (∀ k, k < (E j).1 → 33 ≤ G j k ∧ G j k ≤ 126 ∧ sg (20 * j + k) = G j k) ∧ th j = !(E j).2.2.1 ∧ sz j = (E j).1 ∧ gr j = (E j).2.1 ∧ ((E j).2.2.1 = false → me j = ((E j).2.2.2.1).getD 0) ∧ ∀ i, (E j).2.2.2.1 = some i → 1 ≤ i ∧ i ≤ n ∧ (E j).2.2.1 = false ∧ (E i).2.2.1 = false ∧ (E i).2.2.2.1 = none
section REL
variable {n : Nat} {E : Nat → Ent} {G : Nat → Nat → Nat} {th : Nat → Bool} {sz sg me : Nat → Nat} {gr : Nat → Int32}
theorem RE.sf (h : RE n E G th sz sg me gr) : sfOk n E := fun i a b j hj => by
  have := (h.2.2.2.2.2 i a b).2.2.2.2.2 j hj
  exact ⟨this.1, this.2.1⟩
theorem RE.sz20 (h : RE n E G th sz sg me gr) : ∀ j, sz j ≤ 20 := fun j => by
  by_cases hj : 1 ≤ j ∧ j ≤ n
  · rw [(h.2.2.2.2.2 j hj.1 hj.2).2.2.1]; exact h.2.1 j
  · rw [(h.2.2.2.2.1 j (by omega)).1]; omega
theorem RE.sg127 (h : RE n E G th sz sg me gr) : ∀ a k, k < sz a → sg (20 * a + k) ≤ 127 := fun a k hk => by
  by_cases hj : 1 ≤ a ∧ a ≤ n
  · have h1 := h.2.2.2.2.2 a hj.1 hj.2
    rw [h1.2.2.1] at hk
    have h2 := h1.1 k hk
    rw [h2.2.2]
    omega
  · rw [(h.2.2.2.2.1 a (by omega)).1] at hk; omega
theorem RE.sgn (h : RE n E G th sz sg me gr) : ∀ j k, 1 ≤ j → j ≤ n → k < (E j).1 → 33 ≤ G j k ∧ G j k ≤ 126 := fun j k a b hk => by
  have := (h.2.2.2.2.2 j a b).1 k hk
  exact ⟨this.1, this.2.1⟩
theorem RE.no (h : RE n E G th sz sg me gr) {x : Int32} (hc : cLiv n E x = none) : isE n th x = false := by
  unfold isE
  cases hb : btw x (nI 1) (nI n) with
  | false => rfl
  | true =>
    obtain ⟨j, h1, h2, rfl⟩ := btw_in hb h.1
    rw [nI_clamp (by have := h.1; omega)]
    rw [cLiv_nI h1 h2 h.1] at hc
    have h3 := (h.2.2.2.2.2 j h1 h2).2.1
    cases hd : (E j).2.2.1 with
    | true => rw [h3, hd]; rfl
    | false => rw [hd] at hc; simp at hc
theorem RE.yes (h : RE n E G th sz sg me gr) {j : Nat} (h1 : 1 ≤ j) (h2 : j ≤ n) (hd : (E j).2.2.1 = false) : th j = true := by
  rw [(h.2.2.2.2.2 j h1 h2).2.1, hd]; rfl
theorem up_prj {α : Type} (f : Ent → α) {j x : Nat} {e : Ent} (hf : f e = f (E j)) : f (va_up E j e x) = f (E x) := by
  by_cases hx : x = j
  · subst hx; rw [va_up_self]; exact hf
  · rw [va_up_ne _ _ hx]
theorem RE.entry (h : RE n E G th sz sg me gr) (hn : n < 200) : RE (n + 1) (va_up E (n + 1) (0, 0, false, none, 0)) (va_up G (n + 1) (fun _ => 0)) (va_up th (n + 1) true) sz sg me gr := by
  obtain ⟨h1, h2, h3, h4, h5, h6⟩ := h
  refine ⟨by omega, fun j => ?_, fun j => ?_, h4, fun j hj => h5 j (by omega), fun j a b => ?_⟩
  · by_cases hj : j = n + 1
    · subst hj; rw [va_up_self]; exact Nat.zero_le _
    · rw [va_up_ne _ _ hj]; exact h2 j
  · by_cases hj : j = n + 1
    · subst hj; rw [va_up_self]; exact Nat.zero_le _
    · rw [va_up_ne _ _ hj]; exact h3 j
  · by_cases hj : j = n + 1
    · subst hj
      have h0 := h5 (n + 1) (Or.inr (by omega))
      rw [va_up_self, va_up_self, va_up_self]
      exact ⟨fun k hk => absurd hk (Nat.not_lt_zero _), rfl, h0.1, h0.2.2, fun _ => h0.2.1, fun i hi => by cases hi⟩
    · obtain ⟨a1, a2, a3, a4, a5, a6⟩ := h6 j a (by omega)
      rw [va_up_ne E _ hj, va_up_ne G _ hj, va_up_ne th _ hj]
      refine ⟨a1, a2, a3, a4, a5, fun i hi => ?_⟩
      obtain ⟨b1, b2, b3, b4, b5⟩ := a6 i hi
      rw [va_up_ne E _ (show i ≠ n + 1 by omega)]
      exact ⟨b1, by omega, b3, b4, b5⟩
theorem RE.letter (h : RE n E G th sz sg me gr) {j q : Nat} (hj1 : 1 ≤ j) (hj2 : j ≤ n) (hl : (E j).1 < 20) (hq1 : 33 ≤ q) (hq2 : q ≤ 126) : RE n (va_up E j (seN (E j) ((E j).1 + 1))) (va_up G j (un (G j) (E j).1 q)) th (un sz j (sz j + 1)) (un sg (20 * j + sz j) q) me gr := by
  obtain ⟨h1, h2, h3, h4, h5, h6⟩ := h
  have hzj := (h6 j hj1 hj2).2.2.1
  have pd : ∀ x, (va_up E j (seN (E j) ((E j).1 + 1)) x).2.2.1 = (E x).2.2.1 := fun x => up_prj (fun e => e.2.2.1) rfl
  have ps : ∀ x, (va_up E j (seN (E j) ((E j).1 + 1)) x).2.2.2.1 = (E x).2.2.2.1 := fun x => up_prj (fun e => e.2.2.2.1) rfl
  have pb : ∀ x, (va_up E j (seN (E j) ((E j).1 + 1)) x).2.1 = (E x).2.1 := fun x => up_prj (fun e => e.2.1) rfl
  have pl : ∀ x, (va_up E j (seN (E j) ((E j).1 + 1)) x).2.2.2.2 = (E x).2.2.2.2 := fun x => up_prj (fun e => e.2.2.2.2) rfl
  refine ⟨h1, fun i => ?_, fun i => by rw [pl]; exact h3 i, h4, fun i hi => ?_, fun i a b => ?_⟩
  · by_cases hi : i = j
    · subst hi; rw [va_up_self]; show (E i).1 + 1 ≤ 20; omega
    · rw [va_up_ne _ _ hi]; exact h2 i
  · rw [show un sz j (sz j + 1) i = sz i from va_up_ne _ _ (by omega)]; exact h5 i hi
  · obtain ⟨a1, a2, a3, a4, a5, a6⟩ := h6 i a b
    rw [pd, ps, pb]
    refine ⟨fun k hk => ?_, a2, ?_, a4, a5, fun x hx => by rw [pd, ps]; exact a6 x hx⟩
    · by_cases hi : i = j
      · subst hi
        rw [va_up_self] at hk ⊢
        by_cases hkl : k = (E i).1
        · subst hkl
          rw [hzj]
          rw [show un (G i) (E i).1 q (E i).1 = q from va_up_self _ _ _, show un sg (20 * i + (E i).1) q (20 * i + (E i).1) = q from va_up_self _ _ _]
          exact ⟨hq1, hq2, rfl⟩
        · have hk2 : k < (E i).1 := by have : k < (E i).1 + 1 := hk; omega
          rw [hzj, show un (G i) (E i).1 q k = G i k from va_up_ne _ _ hkl, show un sg (20 * i + (E i).1) q (20 * i + k) = sg (20 * i + k) from va_up_ne _ _ (by omega)]
          exact a1 k hk2
      · rw [va_up_ne E _ hi] at hk
        have hk2 := h2 i
        rw [va_up_ne G _ hi, hzj, show un sg (20 * j + (E j).1) q (20 * i + k) = sg (20 * i + k) from va_up_ne _ _ (by omega)]
        exact a1 k hk
    · by_cases hi : i = j
      · subst hi; rw [va_up_self, show un sz i (sz i + 1) i = sz i + 1 from va_up_self _ _ _, a3]; rfl
      · rw [va_up_ne E _ hi, show un sz j (sz j + 1) i = sz i from va_up_ne _ _ hi]; exact a3
theorem RE.within (h : RE n E G th sz sg me gr) {j : Nat} {b : Int32} (hj1 : 1 ≤ j) (hj2 : j ≤ n) : RE n (va_up E j (seB (E j) ((E j).2.1 ||| b))) G th sz sg me (upd gr j (gr j ||| b)) := by
  obtain ⟨h1, h2, h3, h4, h5, h6⟩ := h
  have pn : ∀ x, (va_up E j (seB (E j) ((E j).2.1 ||| b)) x).1 = (E x).1 := fun x => up_prj (fun e => e.1) rfl
  have pd : ∀ x, (va_up E j (seB (E j) ((E j).2.1 ||| b)) x).2.2.1 = (E x).2.2.1 := fun x => up_prj (fun e => e.2.2.1) rfl
  have ps : ∀ x, (va_up E j (seB (E j) ((E j).2.1 ||| b)) x).2.2.2.1 = (E x).2.2.2.1 := fun x => up_prj (fun e => e.2.2.2.1) rfl
  have pl : ∀ x, (va_up E j (seB (E j) ((E j).2.1 ||| b)) x).2.2.2.2 = (E x).2.2.2.2 := fun x => up_prj (fun e => e.2.2.2.2) rfl
  refine ⟨h1, fun i => by rw [pn]; exact h2 i, fun i => by rw [pl]; exact h3 i, h4, fun i hi => ?_, fun i a b' => ?_⟩
  · rw [show upd gr j (gr j ||| b) i = gr i from pk_un (by omega)]; exact h5 i hi
  · obtain ⟨a1, a2, a3, a4, a5, a6⟩ := h6 i a b'
    rw [pn, pd, ps]
    refine ⟨a1, a2, a3, ?_, a5, fun x hx => by rw [pd, ps]; exact a6 x hx⟩
    by_cases hi : i = j
    · subst hi; rw [va_up_self, pk_us, a4]; rfl
    · rw [va_up_ne E _ hi, pk_un hi]; exact a4
theorem RE.ab (h : RE n E G th sz sg me gr) {j k : Nat} (hj1 : 1 ≤ j) (hj2 : j ≤ n) (hdj : (E j).2.2.1 = false) (hk1 : 1 ≤ k) (hk2 : k ≤ n) (hdk : (E k).2.2.1 = false) (hjk : ¬ j = k) (hsk : (E k).2.2.2.1 = none) (hno : ∀ i, 1 ≤ i → i ≤ n → ¬ (E i).2.2.2.1 = some j) : RE n (va_up E j (seS (E j) (some k))) G th sz sg (un me j k) gr := by
  obtain ⟨h1, h2, h3, h4, h5, h6⟩ := h
  have pn : ∀ x, (va_up E j (seS (E j) (some k)) x).1 = (E x).1 := fun x => up_prj (fun e => e.1) rfl
  have pb : ∀ x, (va_up E j (seS (E j) (some k)) x).2.1 = (E x).2.1 := fun x => up_prj (fun e => e.2.1) rfl
  have pd : ∀ x, (va_up E j (seS (E j) (some k)) x).2.2.1 = (E x).2.2.1 := fun x => up_prj (fun e => e.2.2.1) rfl
  have pl : ∀ x, (va_up E j (seS (E j) (some k)) x).2.2.2.2 = (E x).2.2.2.2 := fun x => up_prj (fun e => e.2.2.2.2) rfl
  refine ⟨h1, fun i => by rw [pn]; exact h2 i, fun i => by rw [pl]; exact h3 i, fun i => ?_, fun i hi => ?_, fun i a b => ?_⟩
  · unfold un va_up
    split
    · omega
    · exact h4 i
  · rw [show un me j k i = me i from va_up_ne _ _ (by omega)]; exact h5 i hi
  · obtain ⟨a1, a2, a3, a4, a5, a6⟩ := h6 i a b
    rw [pn, pb, pd]
    by_cases hi : i = j
    · subst hi
      rw [va_up_self, show un me i k i = k from va_up_self _ _ _]
      refine ⟨a1, a2, a3, a4, fun _ => rfl, fun x hx => ?_⟩
      have hxk : k = x := Option.some.inj hx
      subst hxk
      rw [pd, va_up_ne E _ (show k ≠ i from fun q => hjk q.symm)]
      exact ⟨hk1, hk2, hdj, hdk, hsk⟩
    · rw [va_up_ne E _ hi, show un me j k i = me i from va_up_ne _ _ hi]
      refine ⟨a1, a2, a3, a4, a5, fun x hx => ?_⟩
      obtain ⟨b1, b2, b3, b4, b5⟩ := a6 x hx
      have hxj : x ≠ j := fun q => hno i a b (by rw [hx, q])
      rw [va_up_ne E _ hxj]
      exact ⟨b1, b2, b3, b4, b5⟩
theorem drE_prj {α : Type} (f : Ent → α) (h1 : ∀ e, f (seD e) = f e) (h2 : ∀ e, f (seS e none) = f e) {j m i : Nat} : f (drE E j m i) = f (E i) := by
  have h0 : f (va_up E j (seD (E j)) i) = f (E i) := up_prj f (h1 _)
  unfold drE
  split
  · rw [h2, h0]
  · exact h0
theorem drE_self {j m : Nat} : drE E j m j = seD (E j) := by
  unfold drE
  rw [if_neg (by rw [va_up_self]; intro q; cases q.2.2.1), va_up_self]
theorem drE_oth {j i : Nat} (hij : i ≠ j) (h1 : 1 ≤ i) (h2 : i ≤ n) : drE E j n i = if (E i).2.2.1 = false ∧ (E i).2.2.2.1 = some j then seS (E i) none else E i := by
  unfold drE
  rw [va_up_ne _ _ hij]
  by_cases h : (E i).2.2.1 = false ∧ (E i).2.2.2.1 = some j
  · rw [if_pos ⟨h1, h2, h⟩, if_pos h]
  · rw [if_neg (fun q => h q.2.2), if_neg h]
theorem RE.drop (h : RE n E G th sz sg me gr) {j : Nat} (hj1 : 1 ≤ j) (hj2 : j ≤ n) : RE n (drE E j n) G (va_up th j false) sz sg (drM me j n) gr := by
  obtain ⟨h1, h2, h3, h4, h5, h6⟩ := h
  have pn : ∀ x, (drE E j n x).1 = (E x).1 := fun x => drE_prj (fun e => e.1) (fun _ => rfl) (fun _ => rfl)
  have pb : ∀ x, (drE E j n x).2.1 = (E x).2.1 := fun x => drE_prj (fun e => e.2.1) (fun _ => rfl) (fun _ => rfl)
  have pl : ∀ x, (drE E j n x).2.2.2.2 = (E x).2.2.2.2 := fun x => drE_prj (fun e => e.2.2.2.2) (fun _ => rfl) (fun _ => rfl)
  refine ⟨h1, fun i => by rw [pn]; exact h2 i, fun i => by rw [pl]; exact h3 i, fun i => ?_, fun i hi => ?_, fun i a b => ?_⟩
  · unfold drM
    split
    · omega
    · exact h4 i
  · rw [show drM me j n i = me i from if_neg (by omega)]; exact h5 i hi
  · obtain ⟨a1, a2, a3, a4, a5, a6⟩ := h6 i a b
    rw [pn, pb]
    by_cases hi : i = j
    · subst hi
      rw [drE_self, va_up_self]
      exact ⟨a1, rfl, a3, a4, (fun q => by cases q), (fun x hx => by cases hx)⟩
    · rw [va_up_ne th _ hi]
      by_cases hc : (E i).2.2.1 = false ∧ (E i).2.2.2.1 = some j
      · rw [drE_oth hi a b, if_pos hc]
        refine ⟨a1, a2, a3, a4, fun _ => ?_, fun x hx => by cases hx⟩
        have hm : me i = j := by rw [a5 hc.1, hc.2]; rfl
        unfold drM
        rw [if_pos ⟨a, b, hm⟩]
        rfl
      · rw [drE_oth hi a b, if_neg hc]
        refine ⟨a1, a2, a3, a4, fun hd => ?_, fun x hx => ?_⟩
        · have hm : ¬ me i = j := by
            rw [a5 hd]
            cases hs : (E i).2.2.2.1 with
            | none => show ¬ 0 = j; omega
            | some x =>
              intro q
              exact hc ⟨hd, by rw [hs, show x = j from q]⟩
          unfold drM
          rw [if_neg (fun q => hm q.2.2)]
          exact a5 hd
        · obtain ⟨b1, b2, b3, b4, b5⟩ := a6 x hx
          have hxj : x ≠ j := fun q => hc ⟨b3, by rw [hx, q]⟩
          rw [drE_oth hxj b1 b2, if_neg (fun q => by rw [b5] at q; cases q.2)]
          exact ⟨b1, b2, b3, b4, b5⟩
theorem RE.reck (h : RE n E G th sz sg me gr) {P : Nat} {co : Nat → Option Nat} (hP : P ≤ 20) : RE n (rkE P co G E n) G th sz sg me gr := by
  obtain ⟨h1, h2, h3, h4, h5, h6⟩ := h
  refine ⟨h1, fun i => by rw [rkE_k.1]; exact h2 i, rk2_ls (rk1_ls hP h2 h3) n, h4, h5, fun i a b => ?_⟩
  obtain ⟨a1, a2, a3, a4, a5, a6⟩ := h6 i a b
  rw [rkE_k.1, rkE_k.2.1, rkE_k.2.2.1, rkE_k.2.2.2]
  exact ⟨a1, a2, a3, a4, a5, fun x hx => by rw [rkE_k.2.2.1, rkE_k.2.2.2]; exact a6 x hx⟩
/-- the counts -/
theorem RE.cntW (h : RE n E G th sz sg me gr) {x : Int32} (hx : x = -1 ∨ isGr x = true) : cnt (inW E x) n = cnt (inM th gr x) n := cnt_congr n (fun i a b => by
  obtain ⟨-, a2, -, a4, -, -⟩ := h.2.2.2.2.2 i a b
  unfold inW inM
  rw [inG_eq hx, a2, a4])
theorem RE.cntD (h : RE n E G th sz sg me gr) : cnt (inW E (-1)) n = cnt th n := cnt_congr n (fun i a b => by
  obtain ⟨-, a2, -, -, -, -⟩ := h.2.2.2.2.2 i a b
  unfold inW
  rw [inG_all, a2, Bool.and_true])
theorem RE.me_iff (h : RE n E G th sz sg me gr) {i d : Nat} (h1 : 1 ≤ i) (h2 : i ≤ n) (hd : (E i).2.2.1 = false) (hd1 : 1 ≤ d) : me i = d ↔ (E i).2.2.2.1 = some d := by
  obtain ⟨-, -, -, -, a5, a6⟩ := h.2.2.2.2.2 i h1 h2
  rw [a5 hd]
  cases hs : (E i).2.2.2.1 with
  | none => exact ⟨fun q => by have : 0 = d := q; omega, fun q => by cases q⟩
  | some x => exact ⟨fun q => by rw [show x = d from q], fun q => Option.some.inj q⟩
theorem RE.me_0 (h : RE n E G th sz sg me gr) {i : Nat} (h1 : 1 ≤ i) (h2 : i ≤ n) (hd : (E i).2.2.1 = false) : me i = 0 ↔ (E i).2.2.2.1 = none := by
  obtain ⟨-, -, -, -, a5, a6⟩ := h.2.2.2.2.2 i h1 h2
  rw [a5 hd]
  cases hs : (E i).2.2.2.1 with
  | none => exact ⟨fun _ => rfl, fun _ => rfl⟩
  | some x => exact ⟨fun q => by have h9 : x = 0 := q; have := (a6 x hs).1; omega, fun q => by cases q⟩
theorem RE.cntA (h : RE n E G th sz sg me gr) {d : Nat} (hd1 : 1 ≤ d) : cnt (abO E d) n = cnt (abM th me d) n := cnt_congr n (fun i a b => by
  have a2 := (h.2.2.2.2.2 i a b).2.1
  unfold abO abM
  rw [a2]
  cases hd : (E i).2.2.1 with
  | true => rfl
  | false =>
    rw [decide_eq_decide.mpr (h.me_iff a b hd hd1)])
theorem cnt_0 {q : Nat → Bool} : ∀ {n : Nat}, cnt q n = 0 → ∀ i, 1 ≤ i → i ≤ n → q i = false
  | 0, _, i, a, b => by omega
  | n + 1, h, i, a, b => by
    have h1 : cnt q n + (if q (n + 1) = true then 1 else 0) = 0 := h
    by_cases hi : i = n + 1
    · subst hi
      cases hq : q (n + 1) with
      | false => rfl
      | true => rw [if_pos hq] at h1; omega
    · exact cnt_0 (n := n) (by omega) i a (by omega)
theorem RE.mf (h : RE n E G th sz sg me gr) {gl : Int32} (hg : gl = -1 ∨ isGr gl = true) {i : Nat} (h1 : 1 ≤ i) (h2 : i ≤ n) : mfM th me gr gl i = (!(E i).2.2.1 && mbf gl (E i)) := by
  obtain ⟨-, a2, -, a4, -, -⟩ := h.2.2.2.2.2 i h1 h2
  unfold mfM mbf
  rw [inG_eq hg, a2, a4]
  cases hd : (E i).2.2.1 with
  | true => rfl
  | false =>
    have h9 : decide (me i = 0) = (E i).2.2.2.1.isNone := by
      cases hs : (E i).2.2.2.1 with
      | none => exact decide_eq_true ((h.me_0 h1 h2 hd).mpr hs)
      | some x => exact decide_eq_false (fun q => by rw [(h.me_0 h1 h2 hd).mp q] at hs; cases hs)
    rw [h9]
    simp only [Bool.not_false, Bool.true_and]
end REL
