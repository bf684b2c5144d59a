/-! WHAT THE LEAVES ANSWER -/
def isSg (x : Int32) : Bool := !decide (x < nI 33) && !decide (nI 126 < x)
def isGr (x : Int32) : Bool := !decide (x < 0) && !decide (nI 8 ≤ x)
def isK (x : Int32) : Bool := !decide (x < nI 1) && !decide (nI 1000 < x)
theorem isSg_nI {q : Nat} (h1 : 33 ≤ q) (h2 : q ≤ 126) : isSg (nI q) = true := by
  have a : ¬ nI q < nI 33 := fun h => absurd ((nI_ltI (by omega) (by omega)).mp h) (by omega)
  have b : ¬ nI 126 < nI q := fun h => absurd ((nI_ltI (by omega) (by omega)).mp h) (by omega)
  simp [isSg, a, b]
theorem isK_nI {k : Nat} (h1 : 1 ≤ k) (h2 : k ≤ 1000) : isK (nI k) = true := by
  have a : ¬ nI k < nI 1 := fun h => absurd ((nI_ltI (by omega) (by omega)).mp h) (by omega)
  have b : ¬ nI 1000 < nI k := fun h => absurd ((nI_ltI (by omega) (by omega)).mp h) (by omega)
  simp [isK, a, b]
theorem nI_nm1 {c : Nat} (h : c < 2 ^ 31) : ¬ nI c = -1 := fun q => by
  have h1 := nI_toInt h
  rw [q] at h1
  have h2 : (-1 : Int32).toInt = -1 := by decide +kernel
  omega
theorem mn_nI {a b : Nat} (ha : a < 2 ^ 31) (hb : b < 2 ^ 31) : (if nI b < nI a then nI b else nI a) = nI (min a b) := by
  by_cases h : b < a
  · rw [if_pos ((nI_ltI hb ha).mpr h), Nat.min_eq_right (by omega)]
  · rw [if_neg (fun q => h ((nI_ltI hb ha).mp q)), Nat.min_eq_left (by omega)]
theorem mx_nI {a b : Nat} (ha : a < 2 ^ 31) (hb : b < 2 ^ 31) : (if nI a < nI b then nI b else nI a) = nI (max a b) := by
  by_cases h : a < b
  · rw [if_pos ((nI_ltI ha hb).mpr h), Nat.max_eq_right (by omega)]
  · rw [if_neg (fun q => h ((nI_ltI ha hb).mp q)), Nat.max_eq_left (by omega)]
/-- what sign q costs at place p -/
def wC (co : Nat → Option Nat) (p q : Nat) : Nat := match co (p * 94 + q - 33) with
  | none => 60
  | some c => c
theorem wC_le {co : Nat → Option Nat} (h : ∀ k c, co k = some c → c ≤ 1000) (p q : Nat) : wC co p q ≤ 1000 := by
  unfold wC
  cases hc : co (p * 94 + q - 33) with
  | none => simp
  | some c => exact h _ c hc
/-- a row of least costs, one sign on -/
def dpS (c w : Nat → Nat) : Nat → Nat
  | 0 => c 0 + 30
  | p + 1 => min (c p + w p) (min (c (p + 1) + 30) (dpS c w p + 25))
theorem dpS_le (c w : Nat → Nat) : ∀ j, dpS c w j ≤ c j + 30
  | 0 => Nat.le_refl _
  | p + 1 => by
    show min (c p + w p) (min (c (p + 1) + 30) (dpS c w p + 25)) ≤ c (p + 1) + 30
    omega
/-- the row as the walk of its places has it: up to place i new, behind it old -/
def adS (c w : Nat → Nat) (i : Nat) : Nat → Nat := fun j => if j ≤ i then dpS c w j else c j
def lc0 (c : Nat → Nat) (i : Nat) : Nat → Nat := fun j => if j < i then j * 25 else c j
def lcR (P : Nat) (co : Nat → Option Nat) (g : Nat → Nat) (c : Nat → Nat) : Nat → Nat → Nat
  | 0 => lc0 c (P + 1)
  | i + 1 => adS (lcR P co g c i) (fun p => wC co p (g i)) P
theorem lcR_le {P : Nat} {co : Nat → Option Nat} {g c : Nat → Nat} : ∀ (i j : Nat), j ≤ P → lcR P co g c i j ≤ j * 25 + 30 * i
  | 0, j, h => by
    show lc0 c (P + 1) j ≤ _
    unfold lc0
    rw [if_pos (by omega)]
    omega
  | i + 1, j, h => by
    show adS (lcR P co g c i) (fun p => wC co p (g i)) P j ≤ _
    unfold adS
    rw [if_pos h]
    have h1 := dpS_le (lcR P co g c i) (fun p => wC co p (g i)) j
    have h2 := lcR_le (P := P) (co := co) (g := g) (c := c) i j h
    omega
theorem adS_0 {c w : Nat → Nat} : un c 0 (c 0 + 30) = adS c w 0 := by
  funext j
  by_cases h : j = 0
  · subst h; simp [un, va_up, adS, dpS]
  · simp [un, va_up, adS, h]
theorem adS_s {c w : Nat → Nat} {i v : Nat} (hv : v = min (c i + w i) (min (c (i + 1) + 30) (dpS c w i + 25))) : un (adS c w i) (i + 1) v = adS c w (i + 1) := by
  subst hv
  funext j
  by_cases h : j = i + 1
  · subst h; simp [un, va_up, adS, dpS]
  · by_cases h2 : j ≤ i
    · simp [un, va_up, adS, h, h2, show j ≤ i + 1 by omega]
    · simp [un, va_up, adS, h, h2, show ¬ j ≤ i + 1 by omega]
theorem adS_at {c w : Nat → Nat} {i : Nat} : adS c w i i = dpS c w i := by simp [adS]
theorem adS_nx {c w : Nat → Nat} {i : Nat} : adS c w i (i + 1) = c (i + 1) := if_neg (by omega)
theorem lc0_s {c : Nat → Nat} {i : Nat} : un (lc0 c i) i (i * 25) = lc0 c (i + 1) := by
  funext j
  by_cases h : j = i
  · subst h; simp [un, va_up, lc0]
  · by_cases h2 : j < i
    · simp [un, va_up, lc0, h, h2, show j < i + 1 by omega]
    · simp [un, va_up, lc0, h, h2, show ¬ j < i + 1 by omega]
theorem lc0_0 {c : Nat → Nat} : lc0 c 0 = c := by
  funext j
  simp [lc0]
/-- is each of the first i signs told at its place -/
def spl (co : Nat → Option Nat) (g : Nat → Nat) : Nat → Bool
  | 0 => true
  | i + 1 => spl co g i && (co (i * 94 + g i - 33)).isSome
/-- a row filled up to i -/
def flI (f : Nat → Int32) (x : Int32) (i : Nat) : Nat → Int32 := fun j => if j < i then x else f j
theorem flI_0 {f : Nat → Int32} {x : Int32} : flI f x 0 = f := by funext j; simp [flI]
theorem flI_s {f : Nat → Int32} {x : Int32} {i : Nat} : upd (flI f x i) i x = flI f x (i + 1) := by
  funext j
  by_cases h : j = i
  · subst h; simp [upd, flI]
  · by_cases h2 : j < i
    · simp [upd, flI, h, h2, show j < i + 1 by omega]
    · simp [upd, flI, h, h2, show ¬ j < i + 1 by omega]
/-- where a sum b comes into a row of sums of which the first k are looked at from behind -/
def inP (hs : Nat → Nat) (b : Nat) : Nat → Nat
  | 0 => 0
  | k + 1 => if b < hs k then inP hs b k else k + 1
theorem inP_le (hs : Nat → Nat) (b : Nat) : ∀ k, inP hs b k ≤ k
  | 0 => Nat.le_refl _
  | k + 1 => by
    show (if b < hs k then inP hs b k else k + 1) ≤ k + 1
    have := inP_le hs b k
    split <;> omega
/-- the row moved on by one from place a on, up to hc -/
def shf (f : Nat → Nat) (a hc : Nat) : Nat → Nat := fun j => if a < j ∧ j ≤ hc then f (j - 1) else f j
theorem shf_0 {f : Nat → Nat} {hc : Nat} : shf f hc hc = f := by
  funext j
  unfold shf
  rw [if_neg (by omega)]
theorem shf_s {f : Nat → Nat} {a hc : Nat} (h : a + 1 ≤ hc) : un (shf f (a + 1) hc) (a + 1) (shf f (a + 1) hc a) = shf f a hc := by
  funext j
  by_cases hj : j = a + 1
  · subst hj
    simp only [un, va_up, shf, if_true]
    rw [if_neg (by omega), if_pos (by omega)]
    rfl
  · simp only [un, va_up, shf, if_neg hj]
    by_cases h2 : a < j ∧ j ≤ hc
    · rw [if_pos (show a + 1 < j ∧ j ≤ hc by omega), if_pos h2]
    · rw [if_neg (show ¬ (a + 1 < j ∧ j ≤ hc) by omega), if_neg h2]
def insR (f : Nat → Nat) (p hc v : Nat) : Nat → Nat := un (shf f p hc) p v
def hasB (hc : Nat) (x : Int32) : Bool := !decide (x < 0) && !decide (nI hc ≤ x)
theorem hasB_nI {hc j : Nat} (h : j < hc) (hc2 : hc < 2 ^ 31) : hasB hc (nI j) = true := by
  have a : ¬ nI j < 0 := nI_pos (by omega)
  have b : ¬ nI hc ≤ nI j := nI_ge h hc2
  simp [hasB, a, b]
def inG (b x : Int32) : Bool := decide (x = -1) || !decide (b &&& (nI 1 <<< (x &&& 31)) = 0)
/-- the entry with this number, where there is one that isn't dropped -/
def cLiv (n : Nat) (E : Nat → Ent) (x : Int32) : Option Nat := if x < nI 1 then none else if nI n < x then none else if (E x.toNatClampNeg).2.2.1 = true then none else some x.toNatClampNeg
theorem cLiv_in {n : Nat} {x : Int32} (h1 : ¬ x < nI 1) (h2 : ¬ nI n < x) (h : n ≤ 200) : ∃ j : Nat, 1 ≤ j ∧ j ≤ n ∧ x = nI j := by
  have h0 : ¬ x < 0 := fun q => h1 (Int32.lt_trans q (show (0 : Int32) < nI 1 by decide +kernel))
  obtain ⟨j, hj, rfl⟩ := nI_of h0
  refine ⟨j, ?_, ?_, rfl⟩
  · rcases Nat.lt_or_ge j 1 with q | q
    · exact absurd (nI_lt q (by omega)) h1
    · exact q
  · rcases Nat.lt_or_ge n j with q | q
    · exact absurd (nI_lt q hj) h2
    · exact q
theorem cLiv_nI {n : Nat} {E : Nat → Ent} {j : Nat} (h1 : 1 ≤ j) (h2 : j ≤ n) (h : n ≤ 200) : cLiv n E (nI j) = if (E j).2.2.1 = true then none else some j := by
  unfold cLiv
  rw [if_neg (nI_nlt h1 (by omega)), if_neg (nI_nlt h2 (by omega)), nI_clamp (by omega)]
theorem cLiv_some {n : Nat} {E : Nat → Ent} {x : Int32} {j : Nat} (h : n ≤ 200) (hc : cLiv n E x = some j) : 1 ≤ j ∧ j ≤ n ∧ (E j).2.2.1 = false ∧ x = nI j := by
  unfold cLiv at hc
  by_cases h1 : x < nI 1
  · rw [if_pos h1] at hc; cases hc
  · by_cases h2 : nI n < x
    · rw [if_neg h1, if_pos h2] at hc; cases hc
    · obtain ⟨i, a, b, rfl⟩ := cLiv_in h1 h2 h
      rw [if_neg h1, if_neg h2, nI_clamp (by omega)] at hc
      by_cases h3 : (E i).2.2.1 = true
      · rw [if_pos h3] at hc; cases hc
      · rw [if_neg h3] at hc
        cases hc
        exact ⟨a, b, by simpa using h3, rfl⟩
/-- how many of 1 .. n have q -/
def cnt (q : Nat → Bool) : Nat → Nat
  | 0 => 0
  | n + 1 => cnt q n + if q (n + 1) = true then 1 else 0
theorem cnt_le (q : Nat → Bool) : ∀ n, cnt q n ≤ n
  | 0 => Nat.le_refl _
  | n + 1 => by
    show cnt q n + (if q (n + 1) = true then 1 else 0) ≤ n + 1
    have := cnt_le q n
    split <;> omega
theorem spl_no {co : Nat → Option Nat} {g : Nat → Nat} {i : Nat} (hn : co (i * 94 + g i - 33) = none) : ∀ {P : Nat}, i < P → spl co g P = false
  | 0, h => absurd h (Nat.not_lt_zero _)
  | P + 1, h => by
    show (spl co g P && (co (P * 94 + g P - 33)).isSome) = false
    by_cases hp : i = P
    · subst hp; rw [hn]; simp
    · rw [spl_no hn (show i < P by omega)]; rfl
theorem va_up_c76 {ct : Nat → Option va_E} {x y z : Option va_E} : va_up (va_up (va_up ct 6 x) 7 y) 6 z = va_up (va_up ct 6 z) 7 y := by
  funext k
  by_cases h7 : k = 7
  · subst h7; simp [va_up]
  · by_cases h6 : k = 6
    · subst h6; simp [va_up]
    · simp [va_up, h6, h7]
/-! WHAT THE OBJECT'S OWN METHODS ANSWER AND DO -/
theorem cLiv_lo {n : Nat} {E : Nat → Ent} {x : Int32} (h : x < nI 1) : cLiv n E x = none := if_pos h
theorem cLiv_hi {n : Nat} {E : Nat → Ent} {x : Int32} (h1 : ¬ x < nI 1) (h : nI n < x) : cLiv n E x = none := by
  unfold cLiv
  rw [if_neg h1, if_pos h]
/-- may an entry be found: it stands for no other, and it is in the group that is looked at -/
def mbf (gl : Int32) (e : Ent) : Bool := e.2.2.2.1.isNone && inG e.2.1 gl
def inW (E : Nat → Ent) (x : Int32) (j : Nat) : Bool := !(E j).2.2.1 && inG (E j).2.1 x
def abO (E : Nat → Ent) (d : Nat) (j : Nat) : Bool := !(E j).2.2.1 && decide ((E j).2.2.2.1 = some d)
/-- what stands for others is among the entries -/
def sfOk (n : Nat) (E : Nat → Ent) : Prop := ∀ i, 1 ≤ i → i ≤ n → ∀ j, (E i).2.2.2.1 = some j → 1 ≤ j ∧ j ≤ n
theorem oE_inj {D : va_G} {lo : Nat} {H : Heap} {aC : Nat → ClassId} {ad : Nat → Nat} {n : Nat} {gl : Int32} {E : Nat → Ent} {G : Nat → Nat → Nat} {P : Nat} {co : Nat → Option Nat} {lc : Nat → Nat} {hc : Nat} {hn hs : Nat → Nat} {X : Nat → Option va_E} (hM : mw D vwCl lo ad (ctC aC ad n gl E G P co lc hc hn hs X) H) (h200 : n ≤ 200) {d : Nat} (h1 : 1 ≤ d) (h2 : d ≤ n) {o : Option Nat} (ho : ∀ j, o = some j → 1 ≤ j ∧ j ≤ n) : oE ad o = some (ad (2 * d + 8)) ↔ o = some d := by
  constructor
  · intro h
    cases o with
    | none => cases h
    | some j =>
      have hj := ho j rfl
      have h3 : ad (2 * j + 8) = ad (2 * d + 8) := Option.some.inj h
      have h4 := hM.2 _ _ _ _ (ctC_e hj.1 hj.2 h200) (ctC_e h1 h2 h200) h3
      rw [show j = d by omega]
  · intro h
    rw [h]
    rfl
def seL (e : Ent) (v : Nat) : Ent := (e.1, e.2.1, e.2.2.1, e.2.2.2.1, v)
def seS (e : Ent) (o : Option Nat) : Ent := (e.1, e.2.1, e.2.2.1, o, e.2.2.2.2)
def seB (e : Ent) (b : Int32) : Ent := (e.1, b, e.2.2.1, e.2.2.2.1, e.2.2.2.2)
def seN (e : Ent) (k : Nat) : Ent := (k, e.2.1, e.2.2.1, e.2.2.2.1, e.2.2.2.2)
def seD (e : Ent) : Ent := (e.1, e.2.1, true, none, e.2.2.2.2)
/-- an entry's own sum -/
def own (P : Nat) (co : Nat → Option Nat) (g : Nat → Nat) (len : Nat) : Nat := lcR P co g (fun _ => 0) len P
theorem dpS_congr {c c' w : Nat → Nat} : ∀ j, (∀ k, k ≤ j → c k = c' k) → dpS c w j = dpS c' w j
  | 0, h => by show c 0 + 30 = c' 0 + 30; rw [h 0 (Nat.le_refl _)]
  | j + 1, h => by
    show min (c j + w j) (min (c (j + 1) + 30) (dpS c w j + 25)) = min (c' j + w j) (min (c' (j + 1) + 30) (dpS c' w j + 25))
    rw [h j (by omega), h (j + 1) (Nat.le_refl _), dpS_congr j (fun k hk => h k (by omega))]
theorem lcR_any {P : Nat} {co : Nat → Option Nat} {g c c' : Nat → Nat} : ∀ (i j : Nat), j ≤ P → lcR P co g c i j = lcR P co g c' i j
  | 0, j, h => by
    show lc0 c (P + 1) j = lc0 c' (P + 1) j
    unfold lc0
    rw [if_pos (by omega), if_pos (by omega)]
  | i + 1, j, h => by
    show adS (lcR P co g c i) (fun p => wC co p (g i)) P j = adS (lcR P co g c' i) (fun p => wC co p (g i)) P j
    unfold adS
    rw [if_pos h, if_pos h]
    exact dpS_congr j (fun k hk => lcR_any i k (by omega))
/-- the first pass: each entry's own sum, up to entry i -/
def rk1 (P : Nat) (co : Nat → Option Nat) (G : Nat → Nat → Nat) (E : Nat → Ent) (i : Nat) : Nat → Ent := fun j => if 1 ≤ j ∧ j ≤ i ∧ (E j).2.2.1 = false then seL (E j) (own P co (G j) (E j).1) else E j
theorem rk1_0 {P : Nat} {co : Nat → Option Nat} {G : Nat → Nat → Nat} {E : Nat → Ent} : rk1 P co G E 0 = E := by
  funext j
  unfold rk1
  rw [if_neg (by omega)]
theorem rk1_at {P : Nat} {co : Nat → Option Nat} {G : Nat → Nat → Nat} {E : Nat → Ent} {i j : Nat} (h : i < j) : rk1 P co G E i j = E j := by
  unfold rk1
  rw [if_neg (by omega)]
theorem rk1_dr {P : Nat} {co : Nat → Option Nat} {G : Nat → Nat → Nat} {E : Nat → Ent} {i j : Nat} : (rk1 P co G E i j).2.2.1 = (E j).2.2.1 := by
  unfold rk1
  split <;> rfl
theorem rk1_sf {P : Nat} {co : Nat → Option Nat} {G : Nat → Nat → Nat} {E : Nat → Ent} {i j : Nat} : (rk1 P co G E i j).2.2.2.1 = (E j).2.2.2.1 := by
  unfold rk1
  split <;> rfl
theorem rk1_n {P : Nat} {co : Nat → Option Nat} {G : Nat → Nat → Nat} {E : Nat → Ent} {i : Nat} (h : (E (i + 1)).2.2.1 = true) : rk1 P co G E (i + 1) = rk1 P co G E i := by
  funext j
  unfold rk1
  by_cases hj : j = i + 1
  · subst hj; rw [if_neg (by rw [h]; simp), if_neg (by omega)]
  · by_cases h2 : 1 ≤ j ∧ j ≤ i ∧ (E j).2.2.1 = false
    · rw [if_pos h2, if_pos ⟨h2.1, by omega, h2.2.2⟩]
    · rw [if_neg h2, if_neg (fun q => h2 ⟨q.1, by omega, q.2.2⟩)]
theorem rk1_s {P : Nat} {co : Nat → Option Nat} {G : Nat → Nat → Nat} {E : Nat → Ent} {i : Nat} (h : (E (i + 1)).2.2.1 = false) : va_up (rk1 P co G E i) (i + 1) (seL (E (i + 1)) (own P co (G (i + 1)) (E (i + 1)).1)) = rk1 P co G E (i + 1) := by
  funext j
  by_cases hj : j = i + 1
  · subst hj
    rw [va_up_self]
    unfold rk1
    rw [if_pos ⟨by omega, Nat.le_refl _, h⟩]
  · rw [va_up_ne _ _ hj]
    unfold rk1
    by_cases h2 : 1 ≤ j ∧ j ≤ i ∧ (E j).2.2.1 = false
    · rw [if_pos h2, if_pos ⟨h2.1, by omega, h2.2.2⟩]
    · rw [if_neg h2, if_neg (fun q => h2 ⟨q.1, by omega, q.2.2⟩)]
/-- the second pass: what an entry stands for has the lesser of both -/
def rk2 (E : Nat → Ent) : Nat → Nat → Ent
  | 0 => E
  | i + 1 => if (E (i + 1)).2.2.1 = true then rk2 E i else match (E (i + 1)).2.2.2.1 with
    | none => rk2 E i
    | some j => va_up (rk2 E i) j (seL (rk2 E i j) (min (rk2 E i j).2.2.2.2 (rk2 E i (i + 1)).2.2.2.2))
theorem rk2_dr {E : Nat → Ent} {i : Nat} (h : (E (i + 1)).2.2.1 = true) : rk2 E (i + 1) = rk2 E i := by
  show (if (E (i + 1)).2.2.1 = true then rk2 E i else _) = _
  rw [if_pos h]
theorem rk2_no {E : Nat → Ent} {i : Nat} (h : (E (i + 1)).2.2.1 = false) (h2 : (E (i + 1)).2.2.2.1 = none) : rk2 E (i + 1) = rk2 E i := by
  simp only [rk2, h, h2]
  simp
theorem rk2_so {E : Nat → Ent} {i j : Nat} (h : (E (i + 1)).2.2.1 = false) (h2 : (E (i + 1)).2.2.2.1 = some j) : rk2 E (i + 1) = va_up (rk2 E i) j (seL (rk2 E i j) (min (rk2 E i j).2.2.2.2 (rk2 E i (i + 1)).2.2.2.2)) := by
  simp only [rk2, h, h2]
  simp
theorem rk2_keep (E : Nat → Ent) : ∀ (i j : Nat), (rk2 E i j).1 = (E j).1 ∧ (rk2 E i j).2.1 = (E j).2.1 ∧ (rk2 E i j).2.2.1 = (E j).2.2.1 ∧ (rk2 E i j).2.2.2.1 = (E j).2.2.2.1
  | 0, j => ⟨rfl, rfl, rfl, rfl⟩
  | i + 1, j => by
    have ih := rk2_keep E i
    cases hd : (E (i + 1)).2.2.1 with
    | true => rw [rk2_dr hd]; exact ih j
    | false =>
      cases hs : (E (i + 1)).2.2.2.1 with
      | none => rw [rk2_no hd hs]; exact ih j
      | some k =>
        rw [rk2_so hd hs]
        by_cases hj : j = k
        · subst hj; rw [va_up_self]; exact ih j
        · rw [va_up_ne _ _ hj]; exact ih j
def rkE (P : Nat) (co : Nat → Option Nat) (G : Nat → Nat → Nat) (E : Nat → Ent) (n : Nat) : Nat → Ent := rk2 (rk1 P co G E n) n
theorem own_le {P : Nat} {co : Nat → Option Nat} {g : Nat → Nat} {len : Nat} (hP : P ≤ 20) (hl : len ≤ 20) : own P co g len ≤ 1100 := by
  have := lcR_le (P := P) (co := co) (g := g) (c := fun _ => 0) len P (Nat.le_refl _)
  unfold own
  omega
theorem rk1_ls {P : Nat} {co : Nat → Option Nat} {G : Nat → Nat → Nat} {E : Nat → Ent} {i : Nat} (hP : P ≤ 20) (hl : ∀ j, (E j).1 ≤ 20) (h : ∀ j, (E j).2.2.2.2 ≤ 100000) (j : Nat) : (rk1 P co G E i j).2.2.2.2 ≤ 100000 := by
  unfold rk1
  split
  · show own P co (G j) (E j).1 ≤ 100000
    have := own_le (P := P) (co := co) (g := G j) hP (hl j)
    omega
  · exact h j
theorem rk2_ls {E : Nat → Ent} (h : ∀ j, (E j).2.2.2.2 ≤ 100000) : ∀ (i j : Nat), (rk2 E i j).2.2.2.2 ≤ 100000
  | 0, j => h j
  | i + 1, j => by
    have ih := rk2_ls h i
    cases hd : (E (i + 1)).2.2.1 with
    | true => rw [rk2_dr hd]; exact ih j
    | false =>
      cases hs : (E (i + 1)).2.2.2.1 with
      | none => rw [rk2_no hd hs]; exact ih j
      | some k =>
        rw [rk2_so hd hs]
        by_cases hj : j = k
        · subst hj
          rw [va_up_self]
          have := ih j
          show min _ _ ≤ 100000
          omega
        · rw [va_up_ne _ _ hj]; exact ih j
/-- the found so far, in the order of sums -/
def okF (gl : Int32) (E : Nat → Ent) (j : Nat) : Bool := !(E j).2.2.1 && mbf gl (E j) && decide ((E j).2.2.2.2 ≤ 400)
def fH (q : Nat → Bool) (E : Nat → Ent) (hn hs : Nat → Nat) : Nat → Nat × (Nat → Nat) × (Nat → Nat)
  | 0 => (0, hn, hs)
  | i + 1 => if q (i + 1) = true then ((fH q E hn hs i).1 + 1, insR (fH q E hn hs i).2.1 (inP (fH q E hn hs i).2.2 (E (i + 1)).2.2.2.2 (fH q E hn hs i).1) (fH q E hn hs i).1 (i + 1), insR (fH q E hn hs i).2.2 (inP (fH q E hn hs i).2.2 (E (i + 1)).2.2.2.2 (fH q E hn hs i).1) (fH q E hn hs i).1 (E (i + 1)).2.2.2.2) else fH q E hn hs i
theorem fH_y {q : Nat → Bool} {E : Nat → Ent} {hn hs : Nat → Nat} {i : Nat} (h : q (i + 1) = true) : fH q E hn hs (i + 1) = ((fH q E hn hs i).1 + 1, insR (fH q E hn hs i).2.1 (inP (fH q E hn hs i).2.2 (E (i + 1)).2.2.2.2 (fH q E hn hs i).1) (fH q E hn hs i).1 (i + 1), insR (fH q E hn hs i).2.2 (inP (fH q E hn hs i).2.2 (E (i + 1)).2.2.2.2 (fH q E hn hs i).1) (fH q E hn hs i).1 (E (i + 1)).2.2.2.2) := by
  show (if q (i + 1) = true then _ else _) = _
  rw [if_pos h]
theorem fH_n {q : Nat → Bool} {E : Nat → Ent} {hn hs : Nat → Nat} {i : Nat} (h : ¬ q (i + 1) = true) : fH q E hn hs (i + 1) = fH q E hn hs i := by
  show (if q (i + 1) = true then _ else _) = _
  rw [if_neg h]
theorem fH_le {q : Nat → Bool} {E : Nat → Ent} {hn hs : Nat → Nat} : ∀ i, (fH q E hn hs i).1 ≤ i
  | 0 => Nat.le_refl _
  | i + 1 => by
    have ih := fH_le (q := q) (E := E) (hn := hn) (hs := hs) i
    by_cases h : q (i + 1) = true
    · rw [fH_y h]; show _ + 1 ≤ i + 1; omega
    · rw [fH_n h]; omega
theorem insR_le {f : Nat → Nat} {p hc v B : Nat} (h : ∀ j, f j ≤ B) (hv : v ≤ B) (j : Nat) : insR f p hc v j ≤ B := by
  unfold insR un va_up shf
  split
  · exact hv
  · split <;> exact h _
theorem fH_hs {q : Nat → Bool} {E : Nat → Ent} {hn hs : Nat → Nat} (h : ∀ j, hs j ≤ 100000) (hE : ∀ j, (E j).2.2.2.2 ≤ 100000) : ∀ i j, (fH q E hn hs i).2.2 j ≤ 100000
  | 0, j => h j
  | i + 1, j => by
    have ih := fH_hs (q := q) (hn := hn) h hE i
    by_cases hq : q (i + 1) = true
    · rw [fH_y hq]; exact insR_le ih (hE _) j
    · rw [fH_n hq]; exact ih j
/-- the plain ones so far, by numbers -/
def okP (gl : Int32) (P : Nat) (co : Nat → Option Nat) (G : Nat → Nat → Nat) (E : Nat → Ent) (j : Nat) : Bool := !(E j).2.2.1 && mbf gl (E j) && (decide ((E j).1 = P) && spl co (G j) P)
def pH (q : Nat → Bool) (E : Nat → Ent) (hn hs : Nat → Nat) : Nat → Nat × (Nat → Nat) × (Nat → Nat)
  | 0 => (0, hn, hs)
  | i + 1 => if q (i + 1) = true then ((pH q E hn hs i).1 + 1, un (pH q E hn hs i).2.1 (pH q E hn hs i).1 (i + 1), un (pH q E hn hs i).2.2 (pH q E hn hs i).1 (E (i + 1)).2.2.2.2) else pH q E hn hs i
theorem pH_y {q : Nat → Bool} {E : Nat → Ent} {hn hs : Nat → Nat} {i : Nat} (h : q (i + 1) = true) : pH q E hn hs (i + 1) = ((pH q E hn hs i).1 + 1, un (pH q E hn hs i).2.1 (pH q E hn hs i).1 (i + 1), un (pH q E hn hs i).2.2 (pH q E hn hs i).1 (E (i + 1)).2.2.2.2) := by
  show (if q (i + 1) = true then _ else _) = _
  rw [if_pos h]
theorem pH_n {q : Nat → Bool} {E : Nat → Ent} {hn hs : Nat → Nat} {i : Nat} (h : ¬ q (i + 1) = true) : pH q E hn hs (i + 1) = pH q E hn hs i := by
  show (if q (i + 1) = true then _ else _) = _
  rw [if_neg h]
theorem pH_le {q : Nat → Bool} {E : Nat → Ent} {hn hs : Nat → Nat} : ∀ i, (pH q E hn hs i).1 ≤ i
  | 0 => Nat.le_refl _
  | i + 1 => by
    have ih := pH_le (q := q) (E := E) (hn := hn) (hs := hs) i
    by_cases h : q (i + 1) = true
    · rw [pH_y h]; show _ + 1 ≤ i + 1; omega
    · rw [pH_n h]; omega
/-- an entry is dropped: what stood for it stands for itself, up to i -/
def drE (E : Nat → Ent) (d : Nat) (i : Nat) : Nat → Ent := fun j => if 1 ≤ j ∧ j ≤ i ∧ (va_up E d (seD (E d)) j).2.2.1 = false ∧ (E j).2.2.2.1 = some d then seS (va_up E d (seD (E d)) j) none else va_up E d (seD (E d)) j
theorem drE_0 {E : Nat → Ent} {d : Nat} : drE E d 0 = va_up E d (seD (E d)) := by
  funext j
  unfold drE
  rw [if_neg (by omega)]
theorem drE_at {E : Nat → Ent} {d i j : Nat} (h : i < j) : drE E d i j = va_up E d (seD (E d)) j := by
  unfold drE
  rw [if_neg (by omega)]
theorem drE_n {E : Nat → Ent} {d i : Nat} (h : ¬ ((va_up E d (seD (E d)) (i + 1)).2.2.1 = false ∧ (E (i + 1)).2.2.2.1 = some d)) : drE E d (i + 1) = drE E d i := by
  funext j
  unfold drE
  by_cases hj : j = i + 1
  · subst hj; rw [if_neg (fun q => h ⟨q.2.2.1, q.2.2.2⟩), if_neg (by omega)]
  · by_cases h2 : 1 ≤ j ∧ j ≤ i ∧ (va_up E d (seD (E d)) j).2.2.1 = false ∧ (E j).2.2.2.1 = some d
    · rw [if_pos h2, if_pos ⟨h2.1, by omega, h2.2.2⟩]
    · rw [if_neg h2, if_neg (fun q => h2 ⟨q.1, by omega, q.2.2⟩)]
theorem drE_s {E : Nat → Ent} {d i : Nat} (h : (va_up E d (seD (E d)) (i + 1)).2.2.1 = false) (h2 : (E (i + 1)).2.2.2.1 = some d) : va_up (drE E d i) (i + 1) (seS (va_up E d (seD (E d)) (i + 1)) none) = drE E d (i + 1) := by
  funext j
  by_cases hj : j = i + 1
  · subst hj
    rw [va_up_self]
    unfold drE
    rw [if_pos ⟨by omega, Nat.le_refl _, h, h2⟩]
  · rw [va_up_ne _ _ hj]
    unfold drE
    by_cases h3 : 1 ≤ j ∧ j ≤ i ∧ (va_up E d (seD (E d)) j).2.2.1 = false ∧ (E j).2.2.2.1 = some d
    · rw [if_pos h3, if_pos ⟨h3.1, by omega, h3.2.2⟩]
    · rw [if_neg h3, if_neg (fun q => h3 ⟨q.1, by omega, q.2.2⟩)]
theorem drE_sf {E : Nat → Ent} {d i j : Nat} (h : (va_up E d (seD (E d)) j).2.2.1 = false) : (va_up E d (seD (E d)) j).2.2.2.1 = (E j).2.2.2.1 := by
  by_cases hj : j = d
  · subst hj; rw [va_up_self] at h; cases h
  · rw [va_up_ne _ _ hj]
theorem rkE_k {P : Nat} {co : Nat → Option Nat} {G : Nat → Nat → Nat} {E : Nat → Ent} {n j : Nat} : (rkE P co G E n j).1 = (E j).1 ∧ (rkE P co G E n j).2.1 = (E j).2.1 ∧ (rkE P co G E n j).2.2.1 = (E j).2.2.1 ∧ (rkE P co G E n j).2.2.2.1 = (E j).2.2.2.1 := by
  have h := rk2_keep (rk1 P co G E n) n j
  have h1 : (rk1 P co G E n j).1 = (E j).1 := by unfold rk1; split <;> rfl
  have h2 : (rk1 P co G E n j).2.1 = (E j).2.1 := by unfold rk1; split <;> rfl
  exact ⟨h.1.trans h1, h.2.1.trans h2, h.2.2.1.trans rk1_dr, h.2.2.2.trans rk1_sf⟩
def okC (x y z : Int32) : Bool := !decide (x < 0) && !decide (nI 20 ≤ x) && isSg y && !decide (z < 0) && decide (z ≤ nI 1000)
theorem sfOk_set {n : Nat} {E : Nat → Ent} {j k : Nat} (h : sfOk n E) (h1 : 1 ≤ k) (h2 : k ≤ n) : sfOk n (va_up E j (seS (E j) (some k))) := by
  intro i a b z hz
  by_cases hij : i = j
  · subst hij
    rw [va_up_self] at hz
    cases hz
    exact ⟨h1, h2⟩
  · rw [va_up_ne _ _ hij] at hz
    exact h i a b z hz
theorem vu_comm {α : Type} {f : Nat → α} {a b : Nat} {x y : α} (h : a ≠ b) : va_up (va_up f a x) b y = va_up (va_up f b y) a x := by
  funext k
  by_cases ha : k = a
  · subst ha; rw [va_up_ne _ _ h, va_up_self, va_up_self]
  · by_cases hb : k = b
    · subst hb; rw [va_up_self, va_up_ne _ _ ha, va_up_self]
    · rw [va_up_ne _ _ hb, va_up_ne _ _ ha, va_up_ne _ _ ha, va_up_ne _ _ hb]
def clC (co : Nat → Option Nat) : Nat → Option Nat := fun j => if j < 1880 then none else co j
theorem flI_cV {co : Nat → Option Nat} : flI (fun j => cV (co j)) (-1) 1880 = fun j => cV (clC co j) := by
  funext j
  unfold flI clC
  split <;> rfl
