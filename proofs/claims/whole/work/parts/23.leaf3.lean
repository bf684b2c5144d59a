set_option maxHeartbeats 4000000 in
set_option maxRecDepth 100000 in
theorem c_hforget (l : Launch) {D : va_G} {aC : Nat → ClassId} {lo : Nat} {ad : Nat → Nat} {ct : Nat → Option va_E} {hc : Nat} (h5 : ct 5 = some (.inr (1, [.ref (ad 6), .ref (ad 7), .int (nI hc)]))) : Met l yX1_forget (wsO yX1_forget cX1_forget 1 none) ({ frames := 0, cells := 0, slots := 0, locals := 0 } : Room) (mPc D vwCl (tyA aC) lo ad ct [.ref (ad 5)]) (mD0 D vwCl lo ad (va_up ct 5 (some (.inr (1, [.ref (ad 6), .ref (ad 7), .int (nI 0)]))))) 0 0 (fun q => lo ≤ q) := by
  refine Met.ofW (cc := cX1_forget) (maxL := 1) (ret := none) (by decide) rfl ?_
  intro pr en s0 mm args below meth cc0 s₁ B hml hv
  obtain ⟨rfl, hlo, hM, hKK⟩ := hv
  have hK := hKK.1
  have hr := B.returns
  have hts := atoms_spec (ws := (wsO yX1_forget cX1_forget 1 none)) B.pre
  have F : CallFix pr mm cc0 cX1_forget 1 s0 (([.ref (ad 5)] : List Value).toArray) (wsO yX1_forget cX1_forget 1 none) RX1 := ⟨B.exec, B.bytes, hml, findClass_of_methodNamed B.named, hts⟩
  have hx := F.1
  have hb := F.2.1
  have hlocks := B.notSynchronized
  have hS : va_S (fun q => lo ≤ q) s0.heap s0.heap [] := va_S.rf
  have hl := lv_entry ([.ref (ad 5)]) (n := 1) (Nat.le_of_ble_eq_true rfl)
  rw [lg_entry_eq]
  generalize (lg_sl ([.ref (ad 5)]) ++ List.replicate (1 - (lg_sl ([.ref (ad 5)])).length) Slot.unset).toArray = ls at hl ⊢
  have hl : lv_has ls 1 [(0, .ref (ad 5))] := hl
  refine lv_aload_n hx hb dX1_forget_0 rfl (lv_at hl 0 rfl) ?_
  refine lv_iconst (v := (nI 0)) hx hb dX1_forget_1 (by decide) ?_
  refine m_put F (ci := 1) (v := .int (nI 0)) (fun w h => tb_O (inX1 w h)) mc_X1 hK hM hS h5 2 (by decide) (tb_O lkX1_18) rfl rfl rfl (Nat.le_of_ble_eq_true rfl) dX1_forget_2 (fun H locs hM hS => ?_)
  have hM : mw D vwCl lo ad (va_up ct 5 (some (.inr (1, [.ref (ad 6), .ref (ad 7), .int (nI 0)])))) H := hM
  exact W.vret hx hb hr (fun t ht hW => ⟨⟨_, _, rfl, ⟨rfl, rfl⟩, by rw [ht]; exact hM⟩, hS.F ht⟩) hS.2.2 dX1_forget_5

set_option maxHeartbeats 4000000 in
set_option maxRecDepth 100000 in
theorem c_has (l : Launch) {D : va_G} {aC : Nat → ClassId} {lo : Nat} {ad : Nat → Nat} {ct : Nat → Option va_E} {hc : Nat} {hn : Nat → Nat} (x : Int32) (hh : hc ≤ 200) (h5 : ct 5 = some (.inr (1, [.ref (ad 6), .ref (ad 7), .int (nI hc)]))) (h6 : ct 6 = some (iA aC 200 (fun j => nI (hn j)))) : Met l yX1_has (wsO yX1_has cX1_has 2 (some .boolean)) ({ frames := 0, cells := 0, slots := 0, locals := 0 } : Room) (mPc D vwCl (tyA aC) lo ad ct [.ref (ad 5), .int x]) (mD1 D vwCl lo (.int (bI (hasB hc x))) ad ct) 0 0 (fun q => lo ≤ q) := by
  refine Met.ofW (cc := cX1_has) (maxL := 2) (ret := (some .boolean)) (by decide) rfl ?_
  intro pr en s0 mm args below meth cc0 s₁ B hml hv
  obtain ⟨rfl, hlo, hM, hKK⟩ := hv
  have hK := hKK.1
  have hr := B.returns
  have hts := atoms_spec (ws := (wsO yX1_has cX1_has 2 (some .boolean))) B.pre
  have F : CallFix pr mm cc0 cX1_has 2 s0 (([.ref (ad 5), .int x] : List Value).toArray) (wsO yX1_has cX1_has 2 (some .boolean)) RX1 := ⟨B.exec, B.bytes, hml, findClass_of_methodNamed B.named, hts⟩
  have hx := F.1
  have hb := F.2.1
  have hlocks := B.notSynchronized
  have hS : va_S (fun q => lo ≤ q) s0.heap s0.heap [] := va_S.rf
  have hl := lv_entry ([.ref (ad 5), .int x]) (n := 2) (Nat.le_of_ble_eq_true rfl)
  rw [lg_entry_eq]
  generalize (lg_sl ([.ref (ad 5), .int x]) ++ List.replicate (2 - (lg_sl ([.ref (ad 5), .int x])).length) Slot.unset).toArray = ls at hl ⊢
  have hl : lv_has ls 2 [(0, .ref (ad 5)), (1, .int x)] := hl
  refine lv_iload_n hx hb dX1_has_0 rfl (lv_at hl 1 rfl) ?_
  refine lv_if_lt (tgt := 25) hx hb dX1_has_1 (by decide) (fun c_1 => ?_) (fun c_1 => ?_)
  · skip
    refine lv_iconst (v := (nI 0)) hx hb dX1_has_25 (by decide) ?_
    exact W.zret hx hb hr rfl (fun t ht hW => ⟨⟨_, _, _, rfl, ⟨by rw [show hasB hc x = false by first | simp [hasB, c_1, c_9] | simp [hasB, c_1]]; rfl, rfl, rfl⟩, by rw [ht]; exact hM⟩, hS.F ht⟩) hS.2.2 dX1_has_26
  · skip
    refine lv_iload_n hx hb dX1_has_4 rfl (lv_at hl 1 rfl) ?_
    refine lv_aload_n hx hb dX1_has_5 rfl (lv_at hl 0 rfl) ?_
    refine m_get F (ci := 1) (v := .int (nI hc)) (fun w h => tb_O (inX1 w h)) hK hM h5 rfl 2 (by decide) (tb_O lkX1_18) rfl dX1_has_6 ?_
    refine lv_icmp_ge (tgt := 25) hx hb dX1_has_9 (by decide) (fun c_9 => ?_) (fun c_9 => ?_)
    · skip
      refine lv_iconst (v := (nI 0)) hx hb dX1_has_25 (by decide) ?_
      exact W.zret hx hb hr rfl (fun t ht hW => ⟨⟨_, _, _, rfl, ⟨by rw [show hasB hc x = false by first | simp [hasB, c_1, c_9] | simp [hasB, c_1]]; rfl, rfl, rfl⟩, by rw [ht]; exact hM⟩, hS.F ht⟩) hS.2.2 dX1_has_26
    · skip
      refine lv_iload_n hx hb dX1_has_12 rfl (lv_at hl 1 rfl) ?_
      refine lv_aload_n hx hb dX1_has_13 rfl (lv_at hl 0 rfl) ?_
      refine m_get F (ci := 1) (v := .ref (ad 6)) (fun w h => tb_O (inX1 w h)) hK hM h5 rfl 0 (by decide) (tb_O lkX1_9) rfl dX1_has_14 ?_
      refine m_alen F hK hM 0 rfl h6 dX1_has_17 ?_
      refine lv_icmp_ge (tgt := 25) hx hb dX1_has_18 (by decide) (fun c_18 => ?_) (fun c_18 => ?_)
      · skip
        exact absurd (Int32.le_trans (nI_le hh (by omega)) c_18) c_9
      · skip
        refine lv_iconst (v := (nI 1)) hx hb dX1_has_21 (by decide) ?_
        refine lv_goto (tgt := 26) hx hb dX1_has_22 (by decide) ?_
        exact W.zret hx hb hr rfl (fun t ht hW => ⟨⟨_, _, _, rfl, ⟨by rw [show hasB hc x = true by simp [hasB, c_1, c_9]]; rfl, rfl, rfl⟩, by rw [ht]; exact hM⟩, hS.F ht⟩) hS.2.2 dX1_has_26

set_option maxHeartbeats 4000000 in
set_option maxRecDepth 100000 in
theorem c_addLast (l : Launch) {D : va_G} {aC : Nat → ClassId} {lo : Nat} {ad : Nat → Nat} {ct : Nat → Option va_E} {hc : Nat} {hn hs : Nat → Nat} (a b : Nat) (hh : hc < 200) (h5 : ct 5 = some (.inr (1, [.ref (ad 6), .ref (ad 7), .int (nI hc)]))) (h6 : ct 6 = some (iA aC 200 (fun j => nI (hn j)))) (h7 : ct 7 = some (iA aC 200 (fun j => nI (hs j)))) : Met l yX1_addLast (wsO yX1_addLast cX1_addLast 3 none) ({ frames := 0, cells := 0, slots := 0, locals := 0 } : Room) (mPc D vwCl (tyA aC) lo ad ct [.ref (ad 5), .int (nI a), .int (nI b)]) (mD0 D vwCl lo ad (va_up (va_up (va_up ct 6 (some (iA aC 200 (fun j => nI ((un hn hc a) j))))) 7 (some (iA aC 200 (fun j => nI ((un hs hc b) j))))) 5 (some (.inr (1, [.ref (ad 6), .ref (ad 7), .int (nI (hc + 1))]))))) 0 0 (fun q => lo ≤ q) := by
  refine Met.ofW (cc := cX1_addLast) (maxL := 3) (ret := none) (by decide) rfl ?_
  intro pr en s0 mm args below meth cc0 s₁ B hml hv
  obtain ⟨rfl, hlo, hM, hKK⟩ := hv
  have hK := hKK.1
  have hr := B.returns
  have hts := atoms_spec (ws := (wsO yX1_addLast cX1_addLast 3 none)) B.pre
  have F : CallFix pr mm cc0 cX1_addLast 3 s0 (([.ref (ad 5), .int (nI a), .int (nI b)] : List Value).toArray) (wsO yX1_addLast cX1_addLast 3 none) RX1 := ⟨B.exec, B.bytes, hml, findClass_of_methodNamed B.named, hts⟩
  have hx := F.1
  have hb := F.2.1
  have hlocks := B.notSynchronized
  have hS : va_S (fun q => lo ≤ q) s0.heap s0.heap [] := va_S.rf
  have hl := lv_entry ([.ref (ad 5), .int (nI a), .int (nI b)]) (n := 3) (Nat.le_of_ble_eq_true rfl)
  rw [lg_entry_eq]
  generalize (lg_sl ([.ref (ad 5), .int (nI a), .int (nI b)]) ++ List.replicate (3 - (lg_sl ([.ref (ad 5), .int (nI a), .int (nI b)])).length) Slot.unset).toArray = ls at hl ⊢
  have hl : lv_has ls 3 [(0, .ref (ad 5)), (1, .int (nI a)), (2, .int (nI b))] := hl
  refine lv_aload_n hx hb dX1_addLast_0 rfl (lv_at hl 0 rfl) ?_
  refine m_get F (ci := 1) (v := .int (nI hc)) (fun w h => tb_O (inX1 w h)) hK hM h5 rfl 2 (by decide) (tb_O lkX1_18) rfl dX1_addLast_1 ?_
  refine lv_aload_n hx hb dX1_addLast_4 rfl (lv_at hl 0 rfl) ?_
  refine m_get F (ci := 1) (v := .ref (ad 6)) (fun w h => tb_O (inX1 w h)) hK hM h5 rfl 0 (by decide) (tb_O lkX1_9) rfl dX1_addLast_5 ?_
  refine m_alen F hK hM 0 rfl h6 dX1_addLast_8 ?_
  refine m_icmp_ge F (a := hc) (b := 200) (by omega) (by omega) (tgt := 42) dX1_addLast_9 (by decide) (fun c_9 => ?_) (fun c_9 => ?_)
  · skip
    exact absurd c_9 (by omega)
  · skip
    refine lv_aload_n hx hb dX1_addLast_12 rfl (lv_at hl 0 rfl) ?_
    refine m_get F (ci := 1) (v := .ref (ad 6)) (fun w h => tb_O (inX1 w h)) hK hM h5 rfl 0 (by decide) (tb_O lkX1_9) rfl dX1_addLast_13 ?_
    refine lv_aload_n hx hb dX1_addLast_16 rfl (lv_at hl 0 rfl) ?_
    refine m_get F (ci := 1) (v := .int (nI hc)) (fun w h => tb_O (inX1 w h)) hK hM h5 rfl 2 (by decide) (tb_O lkX1_18) rfl dX1_addLast_17 ?_
    refine lv_iload_n hx hb dX1_addLast_20 rfl (lv_at hl 1 rfl) ?_
    refine m_iast F hK hM hS 0 rfl (j := hc) (x := (nI a)) h6 (by omega) (by decide) dX1_addLast_21 (fun H locs hM hS => ?_)
    have hM : mw D vwCl lo ad (va_up ct 6 (some (.inl (aC 0, 200, .inl (upd (fun j => nI (hn j)) hc (nI a)))))) H := hM
    have hM : mw D vwCl lo ad (va_up ct 6 (some (iA aC 200 (fun j => nI ((un hn hc a) j))))) H := by rw [upd_nI] at hM; exact hM
    refine lv_aload_n hx hb dX1_addLast_22 rfl (lv_at hl 0 rfl) ?_
    refine m_get F (ci := 1) (v := .ref (ad 7)) (fun w h => tb_O (inX1 w h)) hK hM ((va_up_ne _ _ (by decide)).trans h5) rfl 1 (by decide) (tb_O lkX1_15) rfl dX1_addLast_23 ?_
    refine lv_aload_n hx hb dX1_addLast_26 rfl (lv_at hl 0 rfl) ?_
    refine m_get F (ci := 1) (v := .int (nI hc)) (fun w h => tb_O (inX1 w h)) hK hM ((va_up_ne _ _ (by decide)).trans h5) rfl 2 (by decide) (tb_O lkX1_18) rfl dX1_addLast_27 ?_
    refine lv_iload_n hx hb dX1_addLast_30 rfl (lv_at hl 2 rfl) ?_
    refine m_iast F hK hM hS 0 rfl (j := hc) (x := (nI b)) ((va_up_ne _ _ (by decide)).trans h7) (by omega) (by decide) dX1_addLast_31 (fun H locs hM hS => ?_)
    have hM : mw D vwCl lo ad (va_up (va_up ct 6 (some (iA aC 200 (fun j => nI ((un hn hc a) j))))) 7 (some (.inl (aC 0, 200, .inl (upd (fun j => nI (hs j)) hc (nI b)))))) H := hM
    have hM : mw D vwCl lo ad (va_up (va_up ct 6 (some (iA aC 200 (fun j => nI ((un hn hc a) j))))) 7 (some (iA aC 200 (fun j => nI ((un hs hc b) j))))) H := by rw [upd_nI] at hM; exact hM
    refine lv_aload_n hx hb dX1_addLast_32 rfl (lv_at hl 0 rfl) ?_
    refine lv_dup hx hb dX1_addLast_33 rfl ?_
    refine m_get F (ci := 1) (v := .int (nI hc)) (fun w h => tb_O (inX1 w h)) hK hM ((va_up_ne _ _ (by decide)).trans ((va_up_ne _ _ (by decide)).trans h5)) rfl 2 (by decide) (tb_O lkX1_18) rfl dX1_addLast_34 ?_
    refine lv_iconst (v := (nI 1)) hx hb dX1_addLast_37 (by decide) ?_
    refine lv_iadd hx hb dX1_addLast_38 ?_
    refine m_top (nI_add hc 1) ?_
    refine m_put F (ci := 1) (v := .int (nI (hc + 1))) (fun w h => tb_O (inX1 w h)) mc_X1 hK hM hS ((va_up_ne _ _ (by decide)).trans ((va_up_ne _ _ (by decide)).trans h5)) 2 (by decide) (tb_O lkX1_18) rfl rfl rfl (Nat.le_of_ble_eq_true rfl) dX1_addLast_39 (fun H locs hM hS => ?_)
    have hM : mw D vwCl lo ad (va_up (va_up (va_up ct 6 (some (iA aC 200 (fun j => nI ((un hn hc a) j))))) 7 (some (iA aC 200 (fun j => nI ((un hs hc b) j))))) 5 (some (.inr (1, [.ref (ad 6), .ref (ad 7), .int (nI (hc + 1))])))) H := hM
    exact W.vret hx hb hr (fun t ht hW => ⟨⟨_, _, rfl, ⟨rfl, rfl⟩, by rw [ht]; exact hM⟩, hS.F ht⟩) hS.2.2 dX1_addLast_42

set_option maxHeartbeats 4000000 in
set_option maxRecDepth 100000 in
theorem c_addBySum (l : Launch) {D : va_G} {aC : Nat → ClassId} {lo : Nat} {ad : Nat → Nat} {ct : Nat → Option va_E} {hc : Nat} {hn hs : Nat → Nat} (a b : Nat) (hh : hc < 200) (hb31 : b < 2 ^ 31) (hs31 : ∀ j, hs j < 2 ^ 31) (h5 : ct 5 = some (.inr (1, [.ref (ad 6), .ref (ad 7), .int (nI hc)]))) (h6 : ct 6 = some (iA aC 200 (fun j => nI (hn j)))) (h7 : ct 7 = some (iA aC 200 (fun j => nI (hs j)))) : Met l yX1_addBySum (wsO yX1_addBySum cX1_addBySum 4 none) ({ frames := 0, cells := 0, slots := 0, locals := 0 } : Room) (mPc D vwCl (tyA aC) lo ad ct [.ref (ad 5), .int (nI a), .int (nI b)]) (mD0 D vwCl lo ad (va_up (va_up (va_up ct 6 (some (iA aC 200 (fun j => nI ((insR hn (inP hs b hc) hc a) j))))) 7 (some (iA aC 200 (fun j => nI ((insR hs (inP hs b hc) hc b) j))))) 5 (some (.inr (1, [.ref (ad 6), .ref (ad 7), .int (nI (hc + 1))]))))) 0 0 (fun q => lo ≤ q) := by
  refine Met.ofW (cc := cX1_addBySum) (maxL := 4) (ret := none) (by decide) rfl ?_
  intro pr en s0 mm args below meth cc0 s₁ B hml hv
  obtain ⟨rfl, hlo, hM, hKK⟩ := hv
  have hK := hKK.1
  have hr := B.returns
  have hts := atoms_spec (ws := (wsO yX1_addBySum cX1_addBySum 4 none)) B.pre
  have F : CallFix pr mm cc0 cX1_addBySum 4 s0 (([.ref (ad 5), .int (nI a), .int (nI b)] : List Value).toArray) (wsO yX1_addBySum cX1_addBySum 4 none) RX1 := ⟨B.exec, B.bytes, hml, findClass_of_methodNamed B.named, hts⟩
  have hx := F.1
  have hb := F.2.1
  have hlocks := B.notSynchronized
  have hS : va_S (fun q => lo ≤ q) s0.heap s0.heap [] := va_S.rf
  have hl := lv_entry ([.ref (ad 5), .int (nI a), .int (nI b)]) (n := 4) (Nat.le_of_ble_eq_true rfl)
  rw [lg_entry_eq]
  generalize (lg_sl ([.ref (ad 5), .int (nI a), .int (nI b)]) ++ List.replicate (4 - (lg_sl ([.ref (ad 5), .int (nI a), .int (nI b)])).length) Slot.unset).toArray = ls at hl ⊢
  have hl : lv_has ls 4 [(0, .ref (ad 5)), (1, .int (nI a)), (2, .int (nI b))] := hl
  have loop_18 : ∀ (fu : Nat) (i : Nat), (i ≤ hc) → (inP hs b hc = inP hs b i) → i + 1 ≤ fu → ∀ (H : Heap) (locs : List Loc) (ls : Array Slot), mw D vwCl lo ad (va_up (va_up ct 6 (some (iA aC 200 (fun j => nI ((shf hn i hc) j))))) 7 (some (iA aC 200 (fun j => nI ((shf hs i hc) j))))) H → va_S (fun q => lo ≤ q) s0.heap H locs → lv_has ls 4 [(0, .ref (ad 5)), (1, .int (nI a)), (2, .int (nI b)), (3, .int (nI i))] → W pr l en (headSpec (wsO yX1_addBySum cX1_addBySum 4 none) ({ frames := 0, cells := 0, slots := 0, locals := 0 } : Room)).room s0 mm (([.ref (ad 5), .int (nI a), .int (nI b)] : List Value).toArray) below meth cc0 H locs 0 0 (MQ below (mD0 D vwCl lo ad (va_up (va_up (va_up ct 6 (some (iA aC 200 (fun j => nI ((insR hn (inP hs b hc) hc a) j))))) 7 (some (iA aC 200 (fun j => nI ((insR hs (inP hs b hc) hc b) j))))) 5 (some (.inr (1, [.ref (ad 6), .ref (ad 7), .int (nI (hc + 1))]))))) (([.ref (ad 5), .int (nI a), .int (nI b)] : List Value).toArray) s0 0 0 (fun q => lo ≤ q)) (F0 mm 18 ls []) := by
    intro fu
    induction fu with
    | zero =>
      intro i hi hin hfu H locs ls hM hS hl
      exact absurd hfu (by omega)
    | succ fu ih_18 =>
      intro i hi hin hfu H locs ls hM hS hl
      refine lv_iload_n hx hb dX1_addBySum_18 rfl (lv_at hl 3 rfl) ?_
      refine lv_if_le (tgt := 68) hx hb dX1_addBySum_19 (by decide) (fun c_19 => ?_) (fun c_19 => ?_)
      · skip
        have hi0 : i = 0 := Nat.eq_zero_of_not_pos (fun q => nI_nle q (by omega) c_19)
        have hpos : inP hs b hc = i := by rw [hin, hi0]; rfl
        refine lv_aload_n hx hb dX1_addBySum_68 rfl (lv_at hl 0 rfl) ?_
        refine m_get F (ci := 1) (v := .ref (ad 6)) (fun w h => tb_O (inX1 w h)) hK hM ((va_up_ne _ _ (by decide)).trans ((va_up_ne _ _ (by decide)).trans h5)) rfl 0 (by decide) (tb_O lkX1_9) rfl dX1_addBySum_69 ?_
        refine lv_iload_n hx hb dX1_addBySum_72 rfl (lv_at hl 3 rfl) ?_
        refine lv_iload_n hx hb dX1_addBySum_73 rfl (lv_at hl 1 rfl) ?_
        refine m_iast F hK hM hS 0 rfl (j := i) (x := (nI a)) ((va_up_ne _ _ (by decide)).trans (va_up_self _ _ _)) (by omega) (by decide) dX1_addBySum_74 (fun H locs hM hS => ?_)
        have hM : mw D vwCl lo ad (va_up (va_up (va_up ct 6 (some (iA aC 200 (fun j => nI ((shf hn i hc) j))))) 7 (some (iA aC 200 (fun j => nI ((shf hs i hc) j))))) 6 (some (.inl (aC 0, 200, .inl (upd (fun j => nI ((shf hn i hc) j)) i (nI a)))))) H := hM
        have hM : mw D vwCl lo ad (va_up (va_up ct 6 (some (iA aC 200 (fun j => nI ((insR hn (i) hc a) j))))) 7 (some (iA aC 200 (fun j => nI ((shf hs (i) hc) j))))) H := by rw [upd_nI, va_up_c76] at hM; exact hM
        refine lv_aload_n hx hb dX1_addBySum_75 rfl (lv_at hl 0 rfl) ?_
        refine m_get F (ci := 1) (v := .ref (ad 7)) (fun w h => tb_O (inX1 w h)) hK hM ((va_up_ne _ _ (by decide)).trans ((va_up_ne _ _ (by decide)).trans h5)) rfl 1 (by decide) (tb_O lkX1_15) rfl dX1_addBySum_76 ?_
        refine lv_iload_n hx hb dX1_addBySum_79 rfl (lv_at hl 3 rfl) ?_
        refine lv_iload_n hx hb dX1_addBySum_80 rfl (lv_at hl 2 rfl) ?_
        refine m_iast F hK hM hS 0 rfl (j := i) (x := (nI b)) (va_up_self _ _ _) (by omega) (by decide) dX1_addBySum_81 (fun H locs hM hS => ?_)
        have hM : mw D vwCl lo ad (va_up (va_up (va_up ct 6 (some (iA aC 200 (fun j => nI ((insR hn (i) hc a) j))))) 7 (some (iA aC 200 (fun j => nI ((shf hs (i) hc) j))))) 7 (some (.inl (aC 0, 200, .inl (upd (fun j => nI ((shf hs (i) hc) j)) i (nI b)))))) H := hM
        have hM : mw D vwCl lo ad (va_up (va_up ct 6 (some (iA aC 200 (fun j => nI ((insR hn (i) hc a) j))))) 7 (some (iA aC 200 (fun j => nI ((insR hs (i) hc b) j))))) H := by rw [upd_nI, bx_uu] at hM; exact hM
        refine lv_aload_n hx hb dX1_addBySum_82 rfl (lv_at hl 0 rfl) ?_
        refine lv_dup hx hb dX1_addBySum_83 rfl ?_
        refine m_get F (ci := 1) (v := .int (nI hc)) (fun w h => tb_O (inX1 w h)) hK hM ((va_up_ne _ _ (by decide)).trans ((va_up_ne _ _ (by decide)).trans h5)) rfl 2 (by decide) (tb_O lkX1_18) rfl dX1_addBySum_84 ?_
        refine lv_iconst (v := (nI 1)) hx hb dX1_addBySum_87 (by decide) ?_
        refine lv_iadd hx hb dX1_addBySum_88 ?_
        refine m_top (nI_add hc 1) ?_
        refine m_put F (ci := 1) (v := .int (nI (hc + 1))) (fun w h => tb_O (inX1 w h)) mc_X1 hK hM hS ((va_up_ne _ _ (by decide)).trans ((va_up_ne _ _ (by decide)).trans h5)) 2 (by decide) (tb_O lkX1_18) rfl rfl rfl (Nat.le_of_ble_eq_true rfl) dX1_addBySum_89 (fun H locs hM hS => ?_)
        have hM : mw D vwCl lo ad (va_up (va_up (va_up ct 6 (some (iA aC 200 (fun j => nI ((insR hn (i) hc a) j))))) 7 (some (iA aC 200 (fun j => nI ((insR hs (i) hc b) j))))) 5 (some (.inr (1, [.ref (ad 6), .ref (ad 7), .int (nI (hc + 1))])))) H := hM
        exact W.vret hx hb hr (fun t ht hW => ⟨⟨_, _, rfl, ⟨rfl, by rw [hpos]⟩, by rw [ht]; exact hM⟩, hS.F ht⟩) hS.2.2 dX1_addBySum_92
      · skip
        obtain ⟨k, rfl⟩ : ∃ k, i = k + 1 := ⟨i - 1, by have : i ≠ 0 := fun q => c_19 (by rw [q]; decide +kernel); omega⟩
        refine lv_aload_n hx hb dX1_addBySum_22 rfl (lv_at hl 0 rfl) ?_
        refine m_get F (ci := 1) (v := .ref (ad 7)) (fun w h => tb_O (inX1 w h)) hK hM ((va_up_ne _ _ (by decide)).trans ((va_up_ne _ _ (by decide)).trans h5)) rfl 1 (by decide) (tb_O lkX1_15) rfl dX1_addBySum_23 ?_
        refine lv_iload_n hx hb dX1_addBySum_26 rfl (lv_at hl 3 rfl) ?_
        refine lv_iconst (v := (nI 1)) hx hb dX1_addBySum_27 (by decide) ?_
        refine lv_isub hx hb dX1_addBySum_28 ?_
        refine m_top (y := (nI k)) (nI_pred k) ?_
        refine m_iald F hK hM 0 rfl (j := k) (va_up_self _ _ _) (by omega) (by decide) dX1_addBySum_29 ?_
        refine m_top (y := (nI (hs k))) (congrArg nI (show shf hs (k + 1) hc k = hs k from if_neg (by omega))) ?_
        refine lv_iload_n hx hb dX1_addBySum_30 rfl (lv_at hl 2 rfl) ?_
        refine m_icmp_le F (a := (hs k)) (b := b) (hs31 k) hb31 (tgt := 68) dX1_addBySum_31 (by decide) (fun c_31 => ?_) (fun c_31 => ?_)
        · skip
          have hpos : inP hs b hc = k + 1 := by rw [hin]; exact if_neg (Nat.not_lt.mpr c_31)
          refine lv_aload_n hx hb dX1_addBySum_68 rfl (lv_at hl 0 rfl) ?_
          refine m_get F (ci := 1) (v := .ref (ad 6)) (fun w h => tb_O (inX1 w h)) hK hM ((va_up_ne _ _ (by decide)).trans ((va_up_ne _ _ (by decide)).trans h5)) rfl 0 (by decide) (tb_O lkX1_9) rfl dX1_addBySum_69 ?_
          refine lv_iload_n hx hb dX1_addBySum_72 rfl (lv_at hl 3 rfl) ?_
          refine lv_iload_n hx hb dX1_addBySum_73 rfl (lv_at hl 1 rfl) ?_
          refine m_iast F hK hM hS 0 rfl (j := (k + 1)) (x := (nI a)) ((va_up_ne _ _ (by decide)).trans (va_up_self _ _ _)) (by omega) (by decide) dX1_addBySum_74 (fun H locs hM hS => ?_)
          have hM : mw D vwCl lo ad (va_up (va_up (va_up ct 6 (some (iA aC 200 (fun j => nI ((shf hn (k + 1) hc) j))))) 7 (some (iA aC 200 (fun j => nI ((shf hs (k + 1) hc) j))))) 6 (some (.inl (aC 0, 200, .inl (upd (fun j => nI ((shf hn (k + 1) hc) j)) (k + 1) (nI a)))))) H := hM
          have hM : mw D vwCl lo ad (va_up (va_up ct 6 (some (iA aC 200 (fun j => nI ((insR hn (k + 1) hc a) j))))) 7 (some (iA aC 200 (fun j => nI ((shf hs (k + 1) hc) j))))) H := by rw [upd_nI, va_up_c76] at hM; exact hM
          refine lv_aload_n hx hb dX1_addBySum_75 rfl (lv_at hl 0 rfl) ?_
          refine m_get F (ci := 1) (v := .ref (ad 7)) (fun w h => tb_O (inX1 w h)) hK hM ((va_up_ne _ _ (by decide)).trans ((va_up_ne _ _ (by decide)).trans h5)) rfl 1 (by decide) (tb_O lkX1_15) rfl dX1_addBySum_76 ?_
          refine lv_iload_n hx hb dX1_addBySum_79 rfl (lv_at hl 3 rfl) ?_
          refine lv_iload_n hx hb dX1_addBySum_80 rfl (lv_at hl 2 rfl) ?_
          refine m_iast F hK hM hS 0 rfl (j := (k + 1)) (x := (nI b)) (va_up_self _ _ _) (by omega) (by decide) dX1_addBySum_81 (fun H locs hM hS => ?_)
          have hM : mw D vwCl lo ad (va_up (va_up (va_up ct 6 (some (iA aC 200 (fun j => nI ((insR hn (k + 1) hc a) j))))) 7 (some (iA aC 200 (fun j => nI ((shf hs (k + 1) hc) j))))) 7 (some (.inl (aC 0, 200, .inl (upd (fun j => nI ((shf hs (k + 1) hc) j)) (k + 1) (nI b)))))) H := hM
          have hM : mw D vwCl lo ad (va_up (va_up ct 6 (some (iA aC 200 (fun j => nI ((insR hn (k + 1) hc a) j))))) 7 (some (iA aC 200 (fun j => nI ((insR hs (k + 1) hc b) j))))) H := by rw [upd_nI, bx_uu] at hM; exact hM
          refine lv_aload_n hx hb dX1_addBySum_82 rfl (lv_at hl 0 rfl) ?_
          refine lv_dup hx hb dX1_addBySum_83 rfl ?_
          refine m_get F (ci := 1) (v := .int (nI hc)) (fun w h => tb_O (inX1 w h)) hK hM ((va_up_ne _ _ (by decide)).trans ((va_up_ne _ _ (by decide)).trans h5)) rfl 2 (by decide) (tb_O lkX1_18) rfl dX1_addBySum_84 ?_
          refine lv_iconst (v := (nI 1)) hx hb dX1_addBySum_87 (by decide) ?_
          refine lv_iadd hx hb dX1_addBySum_88 ?_
          refine m_top (nI_add hc 1) ?_
          refine m_put F (ci := 1) (v := .int (nI (hc + 1))) (fun w h => tb_O (inX1 w h)) mc_X1 hK hM hS ((va_up_ne _ _ (by decide)).trans ((va_up_ne _ _ (by decide)).trans h5)) 2 (by decide) (tb_O lkX1_18) rfl rfl rfl (Nat.le_of_ble_eq_true rfl) dX1_addBySum_89 (fun H locs hM hS => ?_)
          have hM : mw D vwCl lo ad (va_up (va_up (va_up ct 6 (some (iA aC 200 (fun j => nI ((insR hn (k + 1) hc a) j))))) 7 (some (iA aC 200 (fun j => nI ((insR hs (k + 1) hc b) j))))) 5 (some (.inr (1, [.ref (ad 6), .ref (ad 7), .int (nI (hc + 1))])))) H := hM
          exact W.vret hx hb hr (fun t ht hW => ⟨⟨_, _, rfl, ⟨rfl, by rw [hpos]⟩, by rw [ht]; exact hM⟩, hS.F ht⟩) hS.2.2 dX1_addBySum_92
        · skip
          refine lv_aload_n hx hb dX1_addBySum_34 rfl (lv_at hl 0 rfl) ?_
          refine m_get F (ci := 1) (v := .ref (ad 6)) (fun w h => tb_O (inX1 w h)) hK hM ((va_up_ne _ _ (by decide)).trans ((va_up_ne _ _ (by decide)).trans h5)) rfl 0 (by decide) (tb_O lkX1_9) rfl dX1_addBySum_35 ?_
          refine lv_iload_n hx hb dX1_addBySum_38 rfl (lv_at hl 3 rfl) ?_
          refine lv_aload_n hx hb dX1_addBySum_39 rfl (lv_at hl 0 rfl) ?_
          refine m_get F (ci := 1) (v := .ref (ad 6)) (fun w h => tb_O (inX1 w h)) hK hM ((va_up_ne _ _ (by decide)).trans ((va_up_ne _ _ (by decide)).trans h5)) rfl 0 (by decide) (tb_O lkX1_9) rfl dX1_addBySum_40 ?_
          refine lv_iload_n hx hb dX1_addBySum_43 rfl (lv_at hl 3 rfl) ?_
          refine lv_iconst (v := (nI 1)) hx hb dX1_addBySum_44 (by decide) ?_
          refine lv_isub hx hb dX1_addBySum_45 ?_
          refine m_top (y := (nI k)) (nI_pred k) ?_
          refine m_iald F hK hM 0 rfl (j := k) ((va_up_ne _ _ (by decide)).trans (va_up_self _ _ _)) (by omega) (by decide) dX1_addBySum_46 ?_
          refine m_top (y := (nI (shf hn (k + 1) hc k))) rfl ?_
          refine m_iast F hK hM hS 0 rfl (j := (k + 1)) (x := (nI (shf hn (k + 1) hc k))) ((va_up_ne _ _ (by decide)).trans (va_up_self _ _ _)) (by omega) (by decide) dX1_addBySum_47 (fun H locs hM hS => ?_)
          have hM : mw D vwCl lo ad (va_up (va_up (va_up ct 6 (some (iA aC 200 (fun j => nI ((shf hn (k + 1) hc) j))))) 7 (some (iA aC 200 (fun j => nI ((shf hs (k + 1) hc) j))))) 6 (some (.inl (aC 0, 200, .inl (upd (fun j => nI ((shf hn (k + 1) hc) j)) (k + 1) (nI (shf hn (k + 1) hc k))))))) H := hM
          have hM : mw D vwCl lo ad (va_up (va_up ct 6 (some (iA aC 200 (fun j => nI ((shf hn k hc) j))))) 7 (some (iA aC 200 (fun j => nI ((shf hs (k + 1) hc) j))))) H := by rw [upd_nI, va_up_c76, shf_s hi] at hM; exact hM
          refine lv_aload_n hx hb dX1_addBySum_48 rfl (lv_at hl 0 rfl) ?_
          refine m_get F (ci := 1) (v := .ref (ad 7)) (fun w h => tb_O (inX1 w h)) hK hM ((va_up_ne _ _ (by decide)).trans ((va_up_ne _ _ (by decide)).trans h5)) rfl 1 (by decide) (tb_O lkX1_15) rfl dX1_addBySum_49 ?_
          refine lv_iload_n hx hb dX1_addBySum_52 rfl (lv_at hl 3 rfl) ?_
          refine lv_aload_n hx hb dX1_addBySum_53 rfl (lv_at hl 0 rfl) ?_
          refine m_get F (ci := 1) (v := .ref (ad 7)) (fun w h => tb_O (inX1 w h)) hK hM ((va_up_ne _ _ (by decide)).trans ((va_up_ne _ _ (by decide)).trans h5)) rfl 1 (by decide) (tb_O lkX1_15) rfl dX1_addBySum_54 ?_
          refine lv_iload_n hx hb dX1_addBySum_57 rfl (lv_at hl 3 rfl) ?_
          refine lv_iconst (v := (nI 1)) hx hb dX1_addBySum_58 (by decide) ?_
          refine lv_isub hx hb dX1_addBySum_59 ?_
          refine m_top (y := (nI k)) (nI_pred k) ?_
          refine m_iald F hK hM 0 rfl (j := k) (va_up_self _ _ _) (by omega) (by decide) dX1_addBySum_60 ?_
          refine m_top (y := (nI (shf hs (k + 1) hc k))) rfl ?_
          refine m_iast F hK hM hS 0 rfl (j := (k + 1)) (x := (nI (shf hs (k + 1) hc k))) (va_up_self _ _ _) (by omega) (by decide) dX1_addBySum_61 (fun H locs hM hS => ?_)
          have hM : mw D vwCl lo ad (va_up (va_up (va_up ct 6 (some (iA aC 200 (fun j => nI ((shf hn k hc) j))))) 7 (some (iA aC 200 (fun j => nI ((shf hs (k + 1) hc) j))))) 7 (some (.inl (aC 0, 200, .inl (upd (fun j => nI ((shf hs (k + 1) hc) j)) (k + 1) (nI (shf hs (k + 1) hc k))))))) H := hM
          have hM : mw D vwCl lo ad (va_up (va_up ct 6 (some (iA aC 200 (fun j => nI ((shf hn k hc) j))))) 7 (some (iA aC 200 (fun j => nI ((shf hs k hc) j))))) H := by rw [upd_nI, bx_uu, shf_s hi] at hM; exact hM
          refine lv_iinc (v := (nI k)) (lv' := [(3, .int (nI k)), (0, .ref (ad 5)), (1, .int (nI a)), (2, .int (nI b))]) hx hb dX1_addBySum_62 hl (k := 3) rfl (pk_m1 _) (by decide) rfl (fun ls hl => ?_)
          refine lv_goto (tgt := 18) hx hb dX1_addBySum_65 (by decide) ?_
          exact ih_18 k (by omega) (by rw [hin]; exact if_pos c_31) (by omega) _ _ _ hM hS (lv_sub hl [1, 2, 3, 0] rfl)
  refine lv_aload_n hx hb dX1_addBySum_0 rfl (lv_at hl 0 rfl) ?_
  refine m_get F (ci := 1) (v := .int (nI hc)) (fun w h => tb_O (inX1 w h)) hK hM h5 rfl 2 (by decide) (tb_O lkX1_18) rfl dX1_addBySum_1 ?_
  refine lv_aload_n hx hb dX1_addBySum_4 rfl (lv_at hl 0 rfl) ?_
  refine m_get F (ci := 1) (v := .ref (ad 6)) (fun w h => tb_O (inX1 w h)) hK hM h5 rfl 0 (by decide) (tb_O lkX1_9) rfl dX1_addBySum_5 ?_
  refine m_alen F hK hM 0 rfl h6 dX1_addBySum_8 ?_
  refine m_icmp_lt F (a := hc) (b := 200) (by omega) (by omega) (tgt := 13) dX1_addBySum_9 (by decide) (fun c_9 => ?_) (fun c_9 => ?_)
  · skip
    refine lv_aload_n hx hb dX1_addBySum_13 rfl (lv_at hl 0 rfl) ?_
    refine m_get F (ci := 1) (v := .int (nI hc)) (fun w h => tb_O (inX1 w h)) hK hM h5 rfl 2 (by decide) (tb_O lkX1_18) rfl dX1_addBySum_14 ?_
    refine lv_istore_n (lv' := [(3, .int (nI hc)), (0, .ref (ad 5)), (1, .int (nI a)), (2, .int (nI b))]) hx hb dX1_addBySum_17 rfl hl (by decide) rfl (fun ls hl => ?_)
    have hM : mw D vwCl lo ad (va_up (va_up ct 6 (some (iA aC 200 (fun j => nI ((shf hn hc hc) j))))) 7 (some (iA aC 200 (fun j => nI ((shf hs hc hc) j))))) s0.heap := hM.eq (fun k => by
      rw [shf_0, shf_0]
      by_cases hk : k = 7
      · subst hk; rw [va_up_self]; exact h7
      · rw [va_up_ne _ _ hk]
        by_cases hk6 : k = 6
        · subst hk6; rw [va_up_self]; exact h6
        · rw [va_up_ne _ _ hk6])
    exact loop_18 (hc + 1) hc (Nat.le_refl _) rfl (Nat.le_refl _) _ _ _ hM hS (lv_sub hl [1, 2, 3, 0] rfl)
  · skip
    exact absurd c_9 (by omega)

set_option maxHeartbeats 4000000 in
set_option maxRecDepth 100000 in
theorem c_keepFirst (l : Launch) {D : va_G} {aC : Nat → ClassId} {lo : Nat} {ad : Nat → Nat} {ct : Nat → Option va_E} {hc : Nat} (k : Nat) (hh : hc ≤ 200) (hk : k ≤ 1000) (h5 : ct 5 = some (.inr (1, [.ref (ad 6), .ref (ad 7), .int (nI hc)]))) : Met l yX1_keepFirst (wsO yX1_keepFirst cX1_keepFirst 2 none) ({ frames := 1, cells := 0, slots := 0, locals := 14 } : Room) (mPc D vwCl (tyA aC) lo ad ct [.ref (ad 5), .int (nI k)]) (mD0 D vwCl lo ad (va_up ct 5 (some (.inr (1, [.ref (ad 6), .ref (ad 7), .int (nI (min hc k))]))))) 0 0 (fun q => lo ≤ q) := by
  refine Met.ofW (cc := cX1_keepFirst) (maxL := 2) (ret := none) (by decide) rfl ?_
  intro pr en s0 mm args below meth cc0 s₁ B hml hv
  obtain ⟨rfl, hlo, hM, hKK⟩ := hv
  have hK := hKK.1
  have hr := B.returns
  have hts := atoms_spec (ws := (wsO yX1_keepFirst cX1_keepFirst 2 none)) B.pre
  have F : CallFix pr mm cc0 cX1_keepFirst 2 s0 (([.ref (ad 5), .int (nI k)] : List Value).toArray) (wsO yX1_keepFirst cX1_keepFirst 2 none) RX1 := ⟨B.exec, B.bytes, hml, findClass_of_methodNamed B.named, hts⟩
  have hx := F.1
  have hb := F.2.1
  have hlocks := B.notSynchronized
  have hS : va_S (fun q => lo ≤ q) s0.heap s0.heap [] := va_S.rf
  have hl := lv_entry ([.ref (ad 5), .int (nI k)]) (n := 2) (Nat.le_of_ble_eq_true rfl)
  rw [lg_entry_eq]
  generalize (lg_sl ([.ref (ad 5), .int (nI k)]) ++ List.replicate (2 - (lg_sl ([.ref (ad 5), .int (nI k)])).length) Slot.unset).toArray = ls at hl ⊢
  have hl : lv_has ls 2 [(0, .ref (ad 5)), (1, .int (nI k))] := hl
  refine lv_aload_n hx hb dX1_keepFirst_0 rfl (lv_at hl 0 rfl) ?_
  refine lv_aload_n hx hb dX1_keepFirst_1 rfl (lv_at hl 0 rfl) ?_
  refine m_get F (ci := 1) (v := .int (nI hc)) (fun w h => tb_O (inX1 w h)) hK hM h5 rfl 2 (by decide) (tb_O lkX1_18) rfl dX1_keepFirst_2 ?_
  refine lv_iload_n hx hb dX1_keepFirst_5 rfl (lv_at hl 1 rfl) ?_
  refine va_mmin hx hb (F.2.2.1.trans hl.1.symm) F.2.2.2.1 (F.2.2.2.2 _ (tb_O mlX1_22)) (F.2.2.2.2 _ (tb_O st_min)) (F.2.2.2.2 _ (tb_O iniMath)) (F.2.2.2.2 _ (tb_O cd_min)) (Nat.le_of_ble_eq_true rfl) (Nat.le_of_ble_eq_true rfl) (Nat.le_of_ble_eq_true rfl) (Nat.le_of_ble_eq_true rfl) dX1_keepFirst_6 ?_
  refine m_top (y := (nI (min hc k))) (mn_nI (by omega) (by omega)) ?_
  refine m_put F (ci := 1) (v := .int (nI (min hc k))) (fun w h => tb_O (inX1 w h)) mc_X1 hK hM hS h5 2 (by decide) (tb_O lkX1_18) rfl rfl rfl (Nat.le_of_ble_eq_true rfl) dX1_keepFirst_9 (fun H locs hM hS => ?_)
  have hM : mw D vwCl lo ad (va_up ct 5 (some (.inr (1, [.ref (ad 6), .ref (ad 7), .int (nI (min hc k))])))) H := hM
  exact W.vret hx hb hr (fun t ht hW => ⟨⟨_, _, rfl, ⟨rfl, rfl⟩, by rw [ht]; exact hM⟩, hS.F ht⟩) hS.2.2 dX1_keepFirst_12

set_option maxHeartbeats 4000000 in
set_option maxRecDepth 100000 in
theorem c_append (l : Launch) {D : va_G} {aC : Nat → ClassId} {lo : Nat} {ad : Nat → Nat} {ct : Nat → Option va_E} {ke ks len : Nat} {gb db lv : Int32} {sv : Value} {g : Nat → Nat} (q : Nat) (hl20 : len < 20) (hne : ke ≠ ks) (he : ct ke = some (.inr (0, [.ref (ad ks), .int (nI len), .int gb, .int db, sv, .int lv]))) (hg : ct ks = some (iA aC 20 (fun j => nI (g j)))) : Met l yX0_append (wsO yX0_append cX0_append 2 (some .boolean)) ({ frames := 0, cells := 0, slots := 0, locals := 0 } : Room) (mPc D vwCl (tyA aC) lo ad ct [.ref (ad ke), .int (nI q)]) (mD1 D vwCl lo (.int (nI 1)) ad (va_up (va_up ct ks (some (iA aC 20 (fun j => nI (un g len q j))))) ke (some (.inr (0, [.ref (ad ks), .int (nI (len + 1)), .int gb, .int db, sv, .int lv]))))) 0 0 (fun q => lo ≤ q) := by
  refine Met.ofW (cc := cX0_append) (maxL := 2) (ret := (some .boolean)) (by decide) rfl ?_
  intro pr en s0 mm args below meth cc0 s₁ B hml hv
  obtain ⟨rfl, hlo, hM, hKK⟩ := hv
  have hK := hKK.1
  have hr := B.returns
  have hts := atoms_spec (ws := (wsO yX0_append cX0_append 2 (some .boolean))) B.pre
  have F : CallFix pr mm cc0 cX0_append 2 s0 (([.ref (ad ke), .int (nI q)] : List Value).toArray) (wsO yX0_append cX0_append 2 (some .boolean)) RX0 := ⟨B.exec, B.bytes, hml, findClass_of_methodNamed B.named, hts⟩
  have hx := F.1
  have hb := F.2.1
  have hlocks := B.notSynchronized
  have hS : va_S (fun q => lo ≤ q) s0.heap s0.heap [] := va_S.rf
  have hl := lv_entry ([.ref (ad ke), .int (nI q)]) (n := 2) (Nat.le_of_ble_eq_true rfl)
  rw [lg_entry_eq]
  generalize (lg_sl ([.ref (ad ke), .int (nI q)]) ++ List.replicate (2 - (lg_sl ([.ref (ad ke), .int (nI q)])).length) Slot.unset).toArray = ls at hl ⊢
  have hl : lv_has ls 2 [(0, .ref (ad ke)), (1, .int (nI q))] := hl
  refine lv_aload_n hx hb dX0_append_0 rfl (lv_at hl 0 rfl) ?_
  refine m_get F (ci := 0) (v := .int (nI len)) (fun w h => tb_O (inX0 w h)) hK hM he rfl 1 (by decide) (tb_O lkX0_15) rfl dX0_append_1 ?_
  refine lv_aload_n hx hb dX0_append_4 rfl (lv_at hl 0 rfl) ?_
  refine m_get F (ci := 0) (v := .ref (ad ks)) (fun w h => tb_O (inX0 w h)) hK hM he rfl 0 (by decide) (tb_O lkX0_9) rfl dX0_append_5 ?_
  refine m_alen F hK hM 0 rfl hg dX0_append_8 ?_
  refine m_icmp_lt F (a := len) (b := 20) (by omega) (by omega) (tgt := 14) dX0_append_9 (by decide) (fun c_9 => ?_) (fun c_9 => ?_)
  · skip
    refine lv_aload_n hx hb dX0_append_14 rfl (lv_at hl 0 rfl) ?_
    refine m_get F (ci := 0) (v := .ref (ad ks)) (fun w h => tb_O (inX0 w h)) hK hM he rfl 0 (by decide) (tb_O lkX0_9) rfl dX0_append_15 ?_
    refine lv_aload_n hx hb dX0_append_18 rfl (lv_at hl 0 rfl) ?_
    refine m_get F (ci := 0) (v := .int (nI len)) (fun w h => tb_O (inX0 w h)) hK hM he rfl 1 (by decide) (tb_O lkX0_15) rfl dX0_append_19 ?_
    refine lv_iload_n hx hb dX0_append_22 rfl (lv_at hl 1 rfl) ?_
    refine m_iast F hK hM hS 0 rfl (j := len) (x := (nI q)) hg (by omega) (by decide) dX0_append_23 (fun H locs hM hS => ?_)
    have hM : mw D vwCl lo ad (va_up ct ks (some (.inl (aC 0, 20, .inl (upd (fun j => nI (g j)) len (nI q)))))) H := hM
    have hM : mw D vwCl lo ad (va_up ct ks (some (iA aC 20 (fun j => nI (un g len q j))))) H := by rw [upd_nI] at hM; exact hM
    refine lv_aload_n hx hb dX0_append_24 rfl (lv_at hl 0 rfl) ?_
    refine lv_dup hx hb dX0_append_25 rfl ?_
    refine m_get F (ci := 0) (v := .int (nI len)) (fun w h => tb_O (inX0 w h)) hK hM ((va_up_ne _ _ hne).trans he) rfl 1 (by decide) (tb_O lkX0_15) rfl dX0_append_26 ?_
    refine lv_iconst (v := (nI 1)) hx hb dX0_append_29 (by decide) ?_
    refine lv_iadd hx hb dX0_append_30 ?_
    refine m_top (nI_add len 1) ?_
    refine m_put F (ci := 0) (v := .int (nI (len + 1))) (fun w h => tb_O (inX0 w h)) mc_X0 hK hM hS ((va_up_ne _ _ hne).trans he) 1 (by decide) (tb_O lkX0_15) rfl rfl rfl (Nat.le_of_ble_eq_true rfl) dX0_append_31 (fun H locs hM hS => ?_)
    have hM : mw D vwCl lo ad (va_up (va_up ct ks (some (iA aC 20 (fun j => nI (un g len q j))))) ke (some (.inr (0, [.ref (ad ks), .int (nI (len + 1)), .int gb, .int db, sv, .int lv])))) H := hM
    refine lv_iconst (v := (nI 1)) hx hb dX0_append_34 (by decide) ?_
    exact W.zret hx hb hr rfl (fun t ht hW => ⟨⟨_, _, _, rfl, ⟨rfl, rfl, rfl⟩, by rw [ht]; exact hM⟩, hS.F ht⟩) hS.2.2 dX0_append_35
  · skip
    exact absurd c_9 (by omega)

set_option maxHeartbeats 4000000 in
set_option maxRecDepth 100000 in
theorem c_appendF (l : Launch) {D : va_G} {aC : Nat → ClassId} {lo : Nat} {ad : Nat → Nat} {ct : Nat → Option va_E} {ke ks len : Nat} {gb db lv : Int32} {sv : Value} {g : Nat → Nat} (q : Nat) (hl20 : len = 20) (he : ct ke = some (.inr (0, [.ref (ad ks), .int (nI len), .int gb, .int db, sv, .int lv]))) (hg : ct ks = some (iA aC 20 (fun j => nI (g j)))) : Met l yX0_append (wsO yX0_append cX0_append 2 (some .boolean)) ({ frames := 0, cells := 0, slots := 0, locals := 0 } : Room) (mPc D vwCl (tyA aC) lo ad ct [.ref (ad ke), .int (nI q)]) (mD1 D vwCl lo (.int (nI 0)) ad ct) 0 0 (fun q => lo ≤ q) := by
  refine Met.ofW (cc := cX0_append) (maxL := 2) (ret := (some .boolean)) (by decide) rfl ?_
  intro pr en s0 mm args below meth cc0 s₁ B hml hv
  obtain ⟨rfl, hlo, hM, hKK⟩ := hv
  have hK := hKK.1
  have hr := B.returns
  have hts := atoms_spec (ws := (wsO yX0_append cX0_append 2 (some .boolean))) B.pre
  have F : CallFix pr mm cc0 cX0_append 2 s0 (([.ref (ad ke), .int (nI q)] : List Value).toArray) (wsO yX0_append cX0_append 2 (some .boolean)) RX0 := ⟨B.exec, B.bytes, hml, findClass_of_methodNamed B.named, hts⟩
  have hx := F.1
  have hb := F.2.1
  have hlocks := B.notSynchronized
  have hS : va_S (fun q => lo ≤ q) s0.heap s0.heap [] := va_S.rf
  have hl := lv_entry ([.ref (ad ke), .int (nI q)]) (n := 2) (Nat.le_of_ble_eq_true rfl)
  rw [lg_entry_eq]
  generalize (lg_sl ([.ref (ad ke), .int (nI q)]) ++ List.replicate (2 - (lg_sl ([.ref (ad ke), .int (nI q)])).length) Slot.unset).toArray = ls at hl ⊢
  have hl : lv_has ls 2 [(0, .ref (ad ke)), (1, .int (nI q))] := hl
  refine lv_aload_n hx hb dX0_append_0 rfl (lv_at hl 0 rfl) ?_
  refine m_get F (ci := 0) (v := .int (nI len)) (fun w h => tb_O (inX0 w h)) hK hM he rfl 1 (by decide) (tb_O lkX0_15) rfl dX0_append_1 ?_
  refine lv_aload_n hx hb dX0_append_4 rfl (lv_at hl 0 rfl) ?_
  refine m_get F (ci := 0) (v := .ref (ad ks)) (fun w h => tb_O (inX0 w h)) hK hM he rfl 0 (by decide) (tb_O lkX0_9) rfl dX0_append_5 ?_
  refine m_alen F hK hM 0 rfl hg dX0_append_8 ?_
  refine m_icmp_lt F (a := len) (b := 20) (by omega) (by omega) (tgt := 14) dX0_append_9 (by decide) (fun c_9 => ?_) (fun c_9 => ?_)
  · skip
    exact absurd c_9 (by omega)
  · skip
    refine lv_iconst (v := (nI 0)) hx hb dX0_append_12 (by decide) ?_
    exact W.zret hx hb hr rfl (fun t ht hW => ⟨⟨_, _, _, rfl, ⟨rfl, rfl, rfl⟩, by rw [ht]; exact hM⟩, hS.F ht⟩) hS.2.2 dX0_append_13

set_option maxHeartbeats 4000000 in
set_option maxRecDepth 100000 in
theorem c_join (l : Launch) {D : va_G} {aC : Nat → ClassId} {lo : Nat} {ad : Nat → Nat} {ct : Nat → Option va_E} {ke ks len : Nat} {gb db lv : Int32} {sv : Value} (x : Int32) (he : ct ke = some (.inr (0, [.ref (ad ks), .int (nI len), .int gb, .int db, sv, .int lv]))) : Met l yX0_join (wsO yX0_join cX0_join 2 none) ({ frames := 0, cells := 0, slots := 0, locals := 0 } : Room) (mPc D vwCl (tyA aC) lo ad ct [.ref (ad ke), .int x]) (mD0 D vwCl lo ad (va_up ct ke (some (.inr (0, [.ref (ad ks), .int (nI len), .int (gb ||| (nI 1) <<< (x &&& 31)), .int db, sv, .int lv]))))) 0 0 (fun q => lo ≤ q) := by
  refine Met.ofW (cc := cX0_join) (maxL := 2) (ret := none) (by decide) rfl ?_
  intro pr en s0 mm args below meth cc0 s₁ B hml hv
  obtain ⟨rfl, hlo, hM, hKK⟩ := hv
  have hK := hKK.1
  have hr := B.returns
  have hts := atoms_spec (ws := (wsO yX0_join cX0_join 2 none)) B.pre
  have F : CallFix pr mm cc0 cX0_join 2 s0 (([.ref (ad ke), .int x] : List Value).toArray) (wsO yX0_join cX0_join 2 none) RX0 := ⟨B.exec, B.bytes, hml, findClass_of_methodNamed B.named, hts⟩
  have hx := F.1
  have hb := F.2.1
  have hlocks := B.notSynchronized
  have hS : va_S (fun q => lo ≤ q) s0.heap s0.heap [] := va_S.rf
  have hl := lv_entry ([.ref (ad ke), .int x]) (n := 2) (Nat.le_of_ble_eq_true rfl)
  rw [lg_entry_eq]
  generalize (lg_sl ([.ref (ad ke), .int x]) ++ List.replicate (2 - (lg_sl ([.ref (ad ke), .int x])).length) Slot.unset).toArray = ls at hl ⊢
  have hl : lv_has ls 2 [(0, .ref (ad ke)), (1, .int x)] := hl
  refine lv_aload_n hx hb dX0_join_0 rfl (lv_at hl 0 rfl) ?_
  refine lv_dup hx hb dX0_join_1 rfl ?_
  refine m_get F (ci := 0) (v := .int gb) (fun w h => tb_O (inX0 w h)) hK hM he rfl 2 (by decide) (tb_O lkX0_19) rfl dX0_join_2 ?_
  refine lv_iconst (v := (nI 1)) hx hb dX0_join_5 (by decide) ?_
  refine lv_iload_n hx hb dX0_join_6 rfl (lv_at hl 1 rfl) ?_
  refine lv_ishl hx hb dX0_join_7 ?_
  refine lv_ior hx hb dX0_join_8 ?_
  refine m_put F (ci := 0) (v := .int (gb ||| ((nI 1) <<< (x &&& 31)))) (fun w h => tb_O (inX0 w h)) mc_X0 hK hM hS he 2 (by decide) (tb_O lkX0_19) rfl rfl rfl (Nat.le_of_ble_eq_true rfl) dX0_join_9 (fun H locs hM hS => ?_)
  have hM : mw D vwCl lo ad (va_up ct ke (some (.inr (0, [.ref (ad ks), .int (nI len), .int (gb ||| ((nI 1) <<< (x &&& 31))), .int db, sv, .int lv])))) H := hM
  exact W.vret hx hb hr (fun t ht hW => ⟨⟨_, _, rfl, ⟨rfl, rfl⟩, by rw [ht]; exact hM⟩, hS.F ht⟩) hS.2.2 dX0_join_12

set_option maxHeartbeats 4000000 in
set_option maxRecDepth 100000 in
theorem c_isWithin (l : Launch) {D : va_G} {aC : Nat → ClassId} {lo : Nat} {ad : Nat → Nat} {ct : Nat → Option va_E} {ke ks len : Nat} {gb db lv : Int32} {sv : Value} (x : Int32) (he : ct ke = some (.inr (0, [.ref (ad ks), .int (nI len), .int gb, .int db, sv, .int lv]))) : Met l yX0_isWithin (wsO yX0_isWithin cX0_isWithin 2 (some .boolean)) ({ frames := 0, cells := 0, slots := 0, locals := 0 } : Room) (mPc D vwCl (tyA aC) lo ad ct [.ref (ad ke), .int x]) (mD1 D vwCl lo (.int (bI (inG gb x))) ad ct) 0 0 (fun q => lo ≤ q) := by
  refine Met.ofW (cc := cX0_isWithin) (maxL := 2) (ret := (some .boolean)) (by decide) rfl ?_
  intro pr en s0 mm args below meth cc0 s₁ B hml hv
  obtain ⟨rfl, hlo, hM, hKK⟩ := hv
  have hK := hKK.1
  have hr := B.returns
  have hts := atoms_spec (ws := (wsO yX0_isWithin cX0_isWithin 2 (some .boolean))) B.pre
  have F : CallFix pr mm cc0 cX0_isWithin 2 s0 (([.ref (ad ke), .int x] : List Value).toArray) (wsO yX0_isWithin cX0_isWithin 2 (some .boolean)) RX0 := ⟨B.exec, B.bytes, hml, findClass_of_methodNamed B.named, hts⟩
  have hx := F.1
  have hb := F.2.1
  have hlocks := B.notSynchronized
  have hS : va_S (fun q => lo ≤ q) s0.heap s0.heap [] := va_S.rf
  have hl := lv_entry ([.ref (ad ke), .int x]) (n := 2) (Nat.le_of_ble_eq_true rfl)
  rw [lg_entry_eq]
  generalize (lg_sl ([.ref (ad ke), .int x]) ++ List.replicate (2 - (lg_sl ([.ref (ad ke), .int x])).length) Slot.unset).toArray = ls at hl ⊢
  have hl : lv_has ls 2 [(0, .ref (ad ke)), (1, .int x)] := hl
  refine lv_iload_n hx hb dX0_isWithin_0 rfl (lv_at hl 1 rfl) ?_
  refine lv_iconst (v := (-1)) hx hb dX0_isWithin_1 (by decide) ?_
  refine lv_icmp_eq (tgt := 16) hx hb dX0_isWithin_2 (by decide) (fun c_2 => ?_) (fun c_2 => ?_)
  · skip
    refine lv_iconst (v := (nI 1)) hx hb dX0_isWithin_16 (by decide) ?_
    refine lv_goto (tgt := 21) hx hb dX0_isWithin_17 (by decide) ?_
    exact W.zret hx hb hr rfl (fun t ht hW => ⟨⟨_, _, _, rfl, ⟨by rw [show inG gb x = true by first | simp [inG, c_2, c_13] | simp [inG, c_2]]; rfl, rfl, rfl⟩, by rw [ht]; exact hM⟩, hS.F ht⟩) hS.2.2 dX0_isWithin_21
  · skip
    refine lv_aload_n hx hb dX0_isWithin_5 rfl (lv_at hl 0 rfl) ?_
    refine m_get F (ci := 0) (v := .int gb) (fun w h => tb_O (inX0 w h)) hK hM he rfl 2 (by decide) (tb_O lkX0_19) rfl dX0_isWithin_6 ?_
    refine lv_iconst (v := (nI 1)) hx hb dX0_isWithin_9 (by decide) ?_
    refine lv_iload_n hx hb dX0_isWithin_10 rfl (lv_at hl 1 rfl) ?_
    refine lv_ishl hx hb dX0_isWithin_11 ?_
    refine lv_iand hx hb dX0_isWithin_12 ?_
    refine lv_if_eq (tgt := 20) hx hb dX0_isWithin_13 (by decide) (fun c_13 => ?_) (fun c_13 => ?_)
    · skip
      refine lv_iconst (v := (nI 0)) hx hb dX0_isWithin_20 (by decide) ?_
      exact W.zret hx hb hr rfl (fun t ht hW => ⟨⟨_, _, _, rfl, ⟨by rw [show inG gb x = false by simp [inG, c_2, c_13]]; rfl, rfl, rfl⟩, by rw [ht]; exact hM⟩, hS.F ht⟩) hS.2.2 dX0_isWithin_21
    · skip
      refine lv_iconst (v := (nI 1)) hx hb dX0_isWithin_16 (by decide) ?_
      refine lv_goto (tgt := 21) hx hb dX0_isWithin_17 (by decide) ?_
      exact W.zret hx hb hr rfl (fun t ht hW => ⟨⟨_, _, _, rfl, ⟨by rw [show inG gb x = true by first | simp [inG, c_2, c_13] | simp [inG, c_2]]; rfl, rfl, rfl⟩, by rw [ht]; exact hM⟩, hS.F ht⟩) hS.2.2 dX0_isWithin_21
