/-! BOTH SIDES' NUMBERS: bits (the kit's family 'Int32 by its bits' turned to this use), ranges, counts -/
def bt (x : Int32) (i : Nat) : Bool := x.toBitVec.getLsbD i
theorem b_ext {x y : Int32} (h : ∀ i, i < 32 → bt x i = bt y i) : x = y := Int32.toBitVec_inj.mp (BitVec.eq_of_getLsbD_eq (fun i hi => h i hi))
theorem b_and (x y : Int32) (i : Nat) : bt (x &&& y) i = (bt x i && bt y i) := by unfold bt; rw [Int32.toBitVec_and, BitVec.getLsbD_and]
theorem b_0 (i : Nat) : bt 0 i = false := BitVec.getLsbD_zero
theorem b_1 : ∀ i, i < 32 → bt (nI 1) i = decide (i = 0) := by decide +kernel
theorem s_l : ∀ n, n < 32 → ((nI n &&& 31).toBitVec.smod 32).toNat = n := by decide +kernel
theorem b_shl (n : Nat) (hn : n < 32) (x : Int32) {i : Nat} (hi : i < 32) : bt (x <<< (nI n &&& 31)) i = (decide (n ≤ i) && bt x (i - n)) := by
  unfold bt
  rw [Int32.toBitVec_shiftLeft]
  show (x.toBitVec <<< ((nI n &&& 31).toBitVec.smod 32).toNat).getLsbD i = _
  rw [s_l n hn, BitVec.getLsbD_shiftLeft]
  rcases Nat.lt_or_ge i n with h | h
  · simp [h, Nat.not_le.mpr h]
  · simp [hi, h, Nat.not_lt.mpr h]
theorem b_sshr (n : Nat) (hn : n < 32) (x : Int32) {i : Nat} (hi : i < 32) : bt (x >>> (nI n &&& 31)) i = if n + i < 32 then bt x (n + i) else bt x 31 := by
  unfold bt
  rw [Int32.toBitVec_shiftRight]
  show (x.toBitVec.sshiftRight ((nI n &&& 31).toBitVec.smod 32).toNat).getLsbD i = _
  rw [s_l n hn, BitVec.getLsbD_sshiftRight, BitVec.msb_eq_getLsbD_last]
  simp [hi]
theorem g_and {b : Int32} {g : Nat} (hg : g < 8) : b &&& (nI 1 <<< (nI g &&& 31)) = 0 ↔ bt b g = false := by
  constructor
  · intro h
    have h1 := congrArg (fun z => bt z g) h
    simp only [b_and, b_0, b_shl g (by omega) (nI 1) (show g < 32 by omega), Nat.sub_self] at h1
    rw [b_1 0 (by decide)] at h1
    simpa using h1
  · intro h
    apply b_ext
    intro i hi
    rw [b_and, b_shl g (by omega) (nI 1) hi, b_0]
    by_cases hgi : g ≤ i
    · rw [b_1 (i - g) (by omega)]
      by_cases hig : i = g
      · subst hig; rw [h]; rfl
      · simp [show ¬ i - g = 0 by omega]
    · simp [hgi]
theorem g_shr {b : Int32} {g : Nat} (hg : g < 8) : (b >>> (nI g &&& 31)) &&& nI 1 = nI 1 ↔ bt b g = true := by
  constructor
  · intro h
    have h1 := congrArg (fun z => bt z 0) h
    simp only [b_and] at h1
    rw [b_sshr g (by omega) b (by decide), b_1 0 (by decide), if_pos (by omega)] at h1
    simpa using h1
  · intro h
    apply b_ext
    intro i hi
    rw [b_and, b_1 i hi, b_sshr g (by omega) b hi]
    by_cases h0 : i = 0
    · subst h0; rw [if_pos (by omega), Nat.add_zero, h]; rfl
    · simp [h0]
theorem isGr_of {x : Int32} (h : isGr x = true) : ∃ g : Nat, g < 8 ∧ x = nI g := by
  simp only [isGr, Bool.and_eq_true, Bool.not_eq_true', decide_eq_false_iff_not] at h
  obtain ⟨g, hg, rfl⟩ := nI_of h.1
  refine ⟨g, ?_, rfl⟩
  rcases Nat.lt_or_ge g 8 with q | q
  · exact q
  · exact absurd (nI_le q hg) h.2
theorem inG_eq {b x : Int32} (hx : x = -1 ∨ isGr x = true) : inG b x = (decide (x < 0) || decide ((b >>> (x &&& 31)) &&& nI 1 = nI 1)) := by
  rcases hx with rfl | hx
  · have h1 : ((-1 : Int32) < 0) := by decide +kernel
    simp [inG, h1]
  · obtain ⟨g, hg, rfl⟩ := isGr_of hx
    have h1 : ¬ nI g = -1 := nI_nm1 (by omega)
    have h2 : ¬ nI g < 0 := nI_pos (by omega)
    unfold inG
    rw [decide_eq_false h1, decide_eq_false h2, Bool.false_or, Bool.false_or]
    cases hb : bt b g with
    | true =>
      rw [decide_eq_true ((g_shr hg).mpr hb), decide_eq_false (fun q => by rw [(g_and hg).mp q] at hb; cases hb)]
      rfl
    | false =>
      rw [decide_eq_true ((g_and hg).mpr hb), decide_eq_false (fun q => by rw [(g_shr hg).mp q] at hb; cases hb)]
      rfl
theorem inG_all {b : Int32} : inG b (-1) = true := by simp [inG]
/-- ranges, as each side asks -/
theorem lt_ge {x : Int32} {a : Nat} (ha : a + 1 < 2 ^ 31) : nI a < x ↔ nI (a + 1) ≤ x := by
  rw [Int32.lt_iff_toInt_lt, Int32.le_iff_toInt_le, nI_toInt (by omega), nI_toInt ha]
  omega
theorem btw_7 {x : Int32} : btw x (nI 0) (nI 7) = isGr x := by
  unfold btw isGr
  rw [nI_0, decide_eq_decide.mpr (lt_ge (x := x) (a := 7) (by decide))]
theorem btw_m7 {x : Int32} : btw x (-1) (nI 7) = true ↔ (x = -1 ∨ isGr x = true) := by
  have hm : (-1 : Int32).toInt = -1 := by decide +kernel
  have h0 : (0 : Int32).toInt = 0 := by decide +kernel
  simp only [btw, isGr, Bool.and_eq_true, Bool.not_eq_true', decide_eq_false_iff_not]
  rw [lt_ge (by decide)]
  constructor
  · intro h
    by_cases hx : x < 0
    · left
      apply Int32.toInt_inj.mp
      have h1 : ¬ x.toInt < (-1 : Int32).toInt := fun q => h.1 (Int32.lt_iff_toInt_lt.mpr q)
      have h2 : x.toInt < (0 : Int32).toInt := Int32.lt_iff_toInt_lt.mp hx
      omega
    · exact Or.inr ⟨hx, h.2⟩
  · intro h
    rcases h with rfl | h
    · exact ⟨by decide +kernel, by decide +kernel⟩
    · refine ⟨fun q => h.1 (Int32.lt_iff_toInt_lt.mpr ?_), h.2⟩
      have h1 := Int32.lt_iff_toInt_lt.mp q
      omega
theorem okM_eq {x y z : Int32} : okM x y z = okC x y z := by
  unfold okM okC btw
  rw [nI_0]
  have h1 : decide (nI 19 < x) = decide (nI 20 ≤ x) := decide_eq_decide.mpr (lt_ge (by decide))
  have h2 : (!decide (nI 1000 < z)) = decide (z ≤ nI 1000) := by
    rw [← decide_not]
    apply decide_eq_decide.mpr
    rw [Int32.lt_iff_toInt_lt, Int32.le_iff_toInt_le]
    omega
  rw [h1, h2]
  simp only [Bool.and_assoc]
theorem hasM_eq {fd : Nat} {x : Int32} (h : fd ≤ 200) : hasM fd x = hasB fd x := by
  unfold hasM hasB btw
  rw [nI_0]
  congr 2
  apply decide_eq_decide.mpr
  cases fd with
  | zero =>
    have h1 : nI 0 - nI 1 = -1 := by decide +kernel
    rw [h1, nI_0]
    have hm : (-1 : Int32).toInt = -1 := by decide +kernel
    have h0 : (0 : Int32).toInt = 0 := by decide +kernel
    rw [Int32.lt_iff_toInt_lt, Int32.le_iff_toInt_le, hm, h0]
    omega
  | succ f =>
    rw [show nI (f + 1) - nI 1 = nI f from nI_pred f]
    exact lt_ge (by omega)
theorem cnt_congr {p q : Nat → Bool} : ∀ n, (∀ i, 1 ≤ i → i ≤ n → p i = q i) → cnt p n = cnt q n
  | 0, _ => rfl
  | n + 1, h => by
    show cnt p n + (if p (n + 1) = true then 1 else 0) = cnt q n + (if q (n + 1) = true then 1 else 0)
    rw [h (n + 1) (by omega) (Nat.le_refl _), cnt_congr n (fun i a b => h i a (by omega))]
/-- the two tables of least costs -/
theorem tB_congr {w w' : Nat → Nat → Nat} : ∀ p s, (∀ a b, a < p → b < s → w a b = w' a b) → tB w p s = tB w' p s
  | 0, 0, _ => by simp only [tB]
  | 0, s + 1, h => by
    simp only [tB]
    rw [tB_congr 0 s (fun a b ha hb => h a b ha (by omega))]
  | p + 1, 0, h => by
    simp only [tB]
    rw [tB_congr p 0 (fun a b ha hb => h a b (by omega) hb)]
  | p + 1, s + 1, h => by
    simp only [tB]
    rw [tB_congr (p + 1) s (fun a b ha hb => h a b ha (by omega)), tB_congr p (s + 1) (fun a b ha hb => h a b (by omega) hb), tB_congr p s (fun a b ha hb => h a b (by omega) (by omega)), h p s (by omega) (by omega)]
theorem dpS_tB {w : Nat → Nat → Nat} {c : Nat → Nat} {i : Nat} : ∀ p, (∀ a, a ≤ p → c a = tB w a i) → dpS c (fun a => w a i) p = tB w p (i + 1)
  | 0, h => by
    show c 0 + 30 = _
    rw [h 0 (Nat.le_refl _)]
    simp only [tB]
  | p + 1, h => by
    show min (c p + w p i) (min (c (p + 1) + 30) (dpS c (fun a => w a i) p + 25)) = _
    rw [dpS_tB p (fun a ha => h a (by omega)), h p (by omega), h (p + 1) (Nat.le_refl _)]
    simp only [tB]
    omega
theorem tB_p0 {w : Nat → Nat → Nat} : ∀ p, tB w p 0 = p * 25
  | 0 => by simp only [tB]
  | p + 1 => by
    simp only [tB]
    rw [tB_p0 p]
    omega
theorem lcR_tB {P : Nat} {co : Nat → Option Nat} {g c : Nat → Nat} : ∀ i j, j ≤ P → lcR P co g c i j = tB (fun p s => wC co p (g s)) j i
  | 0, j, h => by
    show lc0 c (P + 1) j = _
    unfold lc0
    rw [if_pos (by omega), tB_p0]
  | i + 1, j, h => by
    show adS (lcR P co g c i) (fun p => wC co p (g i)) P j = _
    unfold adS
    rw [if_pos h]
    exact dpS_tB (w := fun p s => wC co p (g s)) j (fun a ha => lcR_tB i a (by omega))
theorem own_eq {P : Nat} {co coM : Nat → Option Nat} {g : Nat → Nat} {sz sg : Nat → Nat} {e len : Nat} (hz : sz e = len) (hP : P ≤ 20) (hg : ∀ k, k < len → 33 ≤ g k ∧ g k ≤ 126 ∧ sg (20 * e + k) = g k) (hc : ∀ p c, p < 20 → 33 ≤ c → c ≤ 126 → coM (128 * p + c) = co (p * 94 + c - 33)) : own P co g len = owM P coM sz sg e := by
  unfold own owM
  rw [lcR_tB len P (Nat.le_refl _), hz]
  apply tB_congr
  intro a b ha hb
  have h1 := hg b hb
  unfold wC wM
  rw [h1.2.2, hc a (g b) (by omega) h1.1 h1.2.1]
  cases co (a * 94 + g b - 33) <;> rfl
theorem spl_eq {co coM : Nat → Option Nat} {g sg : Nat → Nat} {e : Nat} (hc : ∀ p c, p < 20 → 33 ≤ c → c ≤ 126 → coM (128 * p + c) = co (p * 94 + c - 33)) : ∀ m, m ≤ 20 → (∀ k, k < m → 33 ≤ g k ∧ g k ≤ 126 ∧ sg (20 * e + k) = g k) → spl co g m = splM coM sg e m
  | 0, _, _ => rfl
  | m + 1, hm, hg => by
    show (spl co g m && (co (m * 94 + g m - 33)).isSome) = (splM coM sg e m && (coM (128 * m + sg (20 * e + m))).isSome)
    have h1 := hg m (by omega)
    rw [spl_eq hc m (by omega) (fun k hk => hg k (by omega)), h1.2.2, hc m (g m) (by omega) h1.1 h1.2.1]
