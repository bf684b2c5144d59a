set_option maxHeartbeats 4000000 in
set_option maxRecDepth 100000 in
theorem c_isSign (l : Launch) {D : va_G} {aC : Nat → ClassId} {lo : Nat} {ad : Nat → Nat} {ct : Nat → Option va_E} (x : Int32)  : Met l yX3_isSign (wsO yX3_isSign cX3_isSign 1 (some .boolean)) ({ frames := 0, cells := 0, slots := 0, locals := 0 } : Room) (mPc D vwCl (tyA aC) lo ad ct [.int x]) (mD1 D vwCl lo (.int (bI (isSg x))) ad ct) 0 0 (fun q => lo ≤ q) := by
  refine Met.ofW (cc := cX3_isSign) (maxL := 1) (ret := (some .boolean)) (by decide) rfl ?_
  intro pr en s0 mm args below meth cc0 s₁ B hml hv
  obtain ⟨rfl, hlo, hM, hKK⟩ := hv
  have hK := hKK.1
  have hr := B.returns
  have hts := atoms_spec (ws := (wsO yX3_isSign cX3_isSign 1 (some .boolean))) B.pre
  have F : CallFix pr mm cc0 cX3_isSign 1 s0 (([.int x] : List Value).toArray) (wsO yX3_isSign cX3_isSign 1 (some .boolean)) RX3 := ⟨B.exec, B.bytes, hml, findClass_of_methodNamed B.named, hts⟩
  have hx := F.1
  have hb := F.2.1
  have hlocks := B.notSynchronized
  have hS : va_S (fun q => lo ≤ q) s0.heap s0.heap [] := va_S.rf
  have hl := lv_entry ([.int x]) (n := 1) (Nat.le_of_ble_eq_true rfl)
  rw [lg_entry_eq]
  generalize (lg_sl ([.int x]) ++ List.replicate (1 - (lg_sl ([.int x])).length) Slot.unset).toArray = ls at hl ⊢
  have hl : lv_has ls 1 [(0, .int x)] := hl
  refine lv_iload_n hx hb dX3_isSign_0 rfl (lv_at hl 0 rfl) ?_
  refine lv_bipush (v := (nI 33)) hx hb dX3_isSign_1 (by decide) ?_
  refine lv_icmp_lt (tgt := 16) hx hb dX3_isSign_3 (by decide) (fun c_3 => ?_) (fun c_3 => ?_)
  · skip
    refine lv_iconst (v := (nI 0)) hx hb dX3_isSign_16 (by decide) ?_
    exact W.zret hx hb hr rfl (fun t ht hW => ⟨⟨_, _, _, rfl, ⟨by rw [show isSg x = false by first | simp [isSg, c_3, c_9] | simp [isSg, c_3]]; rfl, rfl, rfl⟩, by rw [ht]; exact hM⟩, hS.F ht⟩) hS.2.2 dX3_isSign_17
  · skip
    refine lv_iload_n hx hb dX3_isSign_6 rfl (lv_at hl 0 rfl) ?_
    refine lv_bipush (v := (nI 126)) hx hb dX3_isSign_7 (by decide) ?_
    refine lv_icmp_gt (tgt := 16) hx hb dX3_isSign_9 (by decide) (fun c_9 => ?_) (fun c_9 => ?_)
    · skip
      refine lv_iconst (v := (nI 0)) hx hb dX3_isSign_16 (by decide) ?_
      exact W.zret hx hb hr rfl (fun t ht hW => ⟨⟨_, _, _, rfl, ⟨by rw [show isSg x = false by first | simp [isSg, c_3, c_9] | simp [isSg, c_3]]; rfl, rfl, rfl⟩, by rw [ht]; exact hM⟩, hS.F ht⟩) hS.2.2 dX3_isSign_17
    · skip
      refine lv_iconst (v := (nI 1)) hx hb dX3_isSign_12 (by decide) ?_
      refine lv_goto (tgt := 17) hx hb dX3_isSign_13 (by decide) ?_
      exact W.zret hx hb hr rfl (fun t ht hW => ⟨⟨_, _, _, rfl, ⟨by rw [show isSg x = true by simp [isSg, c_3, c_9]]; rfl, rfl, rfl⟩, by rw [ht]; exact hM⟩, hS.F ht⟩) hS.2.2 dX3_isSign_17

set_option maxHeartbeats 4000000 in
set_option maxRecDepth 100000 in
theorem c_isGroup (l : Launch) {D : va_G} {aC : Nat → ClassId} {lo : Nat} {ad : Nat → Nat} {ct : Nat → Option va_E} (x : Int32)  : Met l yX3_isGroup (wsO yX3_isGroup cX3_isGroup 1 (some .boolean)) ({ frames := 0, cells := 0, slots := 0, locals := 0 } : Room) (mPc D vwCl (tyA aC) lo ad ct [.int x]) (mD1 D vwCl lo (.int (bI (isGr x))) ad ct) 0 0 (fun q => lo ≤ q) := by
  refine Met.ofW (cc := cX3_isGroup) (maxL := 1) (ret := (some .boolean)) (by decide) rfl ?_
  intro pr en s0 mm args below meth cc0 s₁ B hml hv
  obtain ⟨rfl, hlo, hM, hKK⟩ := hv
  have hK := hKK.1
  have hr := B.returns
  have hts := atoms_spec (ws := (wsO yX3_isGroup cX3_isGroup 1 (some .boolean))) B.pre
  have F : CallFix pr mm cc0 cX3_isGroup 1 s0 (([.int x] : List Value).toArray) (wsO yX3_isGroup cX3_isGroup 1 (some .boolean)) RX3 := ⟨B.exec, B.bytes, hml, findClass_of_methodNamed B.named, hts⟩
  have hx := F.1
  have hb := F.2.1
  have hlocks := B.notSynchronized
  have hS : va_S (fun q => lo ≤ q) s0.heap s0.heap [] := va_S.rf
  have hl := lv_entry ([.int x]) (n := 1) (Nat.le_of_ble_eq_true rfl)
  rw [lg_entry_eq]
  generalize (lg_sl ([.int x]) ++ List.replicate (1 - (lg_sl ([.int x])).length) Slot.unset).toArray = ls at hl ⊢
  have hl : lv_has ls 1 [(0, .int x)] := hl
  refine lv_iload_n hx hb dX3_isGroup_0 rfl (lv_at hl 0 rfl) ?_
  refine lv_if_lt (tgt := 14) hx hb dX3_isGroup_1 (by decide) (fun c_1 => ?_) (fun c_1 => ?_)
  · skip
    refine lv_iconst (v := (nI 0)) hx hb dX3_isGroup_14 (by decide) ?_
    exact W.zret hx hb hr rfl (fun t ht hW => ⟨⟨_, _, _, rfl, ⟨by rw [show isGr x = false by first | simp [isGr, c_1, c_7] | simp [isGr, c_1]]; rfl, rfl, rfl⟩, by rw [ht]; exact hM⟩, hS.F ht⟩) hS.2.2 dX3_isGroup_15
  · skip
    refine lv_iload_n hx hb dX3_isGroup_4 rfl (lv_at hl 0 rfl) ?_
    refine lv_bipush (v := (nI 8)) hx hb dX3_isGroup_5 (by decide) ?_
    refine lv_icmp_ge (tgt := 14) hx hb dX3_isGroup_7 (by decide) (fun c_7 => ?_) (fun c_7 => ?_)
    · skip
      refine lv_iconst (v := (nI 0)) hx hb dX3_isGroup_14 (by decide) ?_
      exact W.zret hx hb hr rfl (fun t ht hW => ⟨⟨_, _, _, rfl, ⟨by rw [show isGr x = false by first | simp [isGr, c_1, c_7] | simp [isGr, c_1]]; rfl, rfl, rfl⟩, by rw [ht]; exact hM⟩, hS.F ht⟩) hS.2.2 dX3_isGroup_15
    · skip
      refine lv_iconst (v := (nI 1)) hx hb dX3_isGroup_10 (by decide) ?_
      refine lv_goto (tgt := 15) hx hb dX3_isGroup_11 (by decide) ?_
      exact W.zret hx hb hr rfl (fun t ht hW => ⟨⟨_, _, _, rfl, ⟨by rw [show isGr x = true by simp [isGr, c_1, c_7]]; rfl, rfl, rfl⟩, by rw [ht]; exact hM⟩, hS.F ht⟩) hS.2.2 dX3_isGroup_15

set_option maxHeartbeats 4000000 in
set_option maxRecDepth 100000 in
theorem c_mayBeAsked (l : Launch) {D : va_G} {aC : Nat → ClassId} {lo : Nat} {ad : Nat → Nat} {ct : Nat → Option va_E} (x : Int32)  : Met l yX3_mayBeAsked (wsO yX3_mayBeAsked cX3_mayBeAsked 1 (some .boolean)) ({ frames := 0, cells := 0, slots := 0, locals := 0 } : Room) (mPc D vwCl (tyA aC) lo ad ct [.int x]) (mD1 D vwCl lo (.int (bI (isK x))) ad ct) 0 0 (fun q => lo ≤ q) := by
  refine Met.ofW (cc := cX3_mayBeAsked) (maxL := 1) (ret := (some .boolean)) (by decide) rfl ?_
  intro pr en s0 mm args below meth cc0 s₁ B hml hv
  obtain ⟨rfl, hlo, hM, hKK⟩ := hv
  have hK := hKK.1
  have hr := B.returns
  have hts := atoms_spec (ws := (wsO yX3_mayBeAsked cX3_mayBeAsked 1 (some .boolean))) B.pre
  have F : CallFix pr mm cc0 cX3_mayBeAsked 1 s0 (([.int x] : List Value).toArray) (wsO yX3_mayBeAsked cX3_mayBeAsked 1 (some .boolean)) RX3 := ⟨B.exec, B.bytes, hml, findClass_of_methodNamed B.named, hts⟩
  have hx := F.1
  have hb := F.2.1
  have hlocks := B.notSynchronized
  have hS : va_S (fun q => lo ≤ q) s0.heap s0.heap [] := va_S.rf
  have hl := lv_entry ([.int x]) (n := 1) (Nat.le_of_ble_eq_true rfl)
  rw [lg_entry_eq]
  generalize (lg_sl ([.int x]) ++ List.replicate (1 - (lg_sl ([.int x])).length) Slot.unset).toArray = ls at hl ⊢
  have hl : lv_has ls 1 [(0, .int x)] := hl
  refine lv_iload_n hx hb dX3_mayBeAsked_0 rfl (lv_at hl 0 rfl) ?_
  refine lv_iconst (v := (nI 1)) hx hb dX3_mayBeAsked_1 (by decide) ?_
  refine lv_icmp_lt (tgt := 16) hx hb dX3_mayBeAsked_2 (by decide) (fun c_2 => ?_) (fun c_2 => ?_)
  · skip
    refine lv_iconst (v := (nI 0)) hx hb dX3_mayBeAsked_16 (by decide) ?_
    exact W.zret hx hb hr rfl (fun t ht hW => ⟨⟨_, _, _, rfl, ⟨by rw [show isK x = false by first | simp [isK, c_2, c_9] | simp [isK, c_2]]; rfl, rfl, rfl⟩, by rw [ht]; exact hM⟩, hS.F ht⟩) hS.2.2 dX3_mayBeAsked_17
  · skip
    refine lv_iload_n hx hb dX3_mayBeAsked_5 rfl (lv_at hl 0 rfl) ?_
    refine lv_sipush (v := (nI 1000)) hx hb dX3_mayBeAsked_6 (by decide) ?_
    refine lv_icmp_gt (tgt := 16) hx hb dX3_mayBeAsked_9 (by decide) (fun c_9 => ?_) (fun c_9 => ?_)
    · skip
      refine lv_iconst (v := (nI 0)) hx hb dX3_mayBeAsked_16 (by decide) ?_
      exact W.zret hx hb hr rfl (fun t ht hW => ⟨⟨_, _, _, rfl, ⟨by rw [show isK x = false by first | simp [isK, c_2, c_9] | simp [isK, c_2]]; rfl, rfl, rfl⟩, by rw [ht]; exact hM⟩, hS.F ht⟩) hS.2.2 dX3_mayBeAsked_17
    · skip
      refine lv_iconst (v := (nI 1)) hx hb dX3_mayBeAsked_12 (by decide) ?_
      refine lv_goto (tgt := 17) hx hb dX3_mayBeAsked_13 (by decide) ?_
      exact W.zret hx hb hr rfl (fun t ht hW => ⟨⟨_, _, _, rfl, ⟨by rw [show isK x = true by simp [isK, c_2, c_9]]; rfl, rfl, rfl⟩, by rw [ht]; exact hM⟩, hS.F ht⟩) hS.2.2 dX3_mayBeAsked_17

set_option maxHeartbeats 4000000 in
set_option maxRecDepth 100000 in
theorem c_indexOf (l : Launch) {D : va_G} {aC : Nat → ClassId} {lo : Nat} {ad : Nat → Nat} {ct : Nat → Option va_E} (pl q : Nat) (hp : pl < 20) (hq1 : 33 ≤ q) (hq2 : q ≤ 126) : Met l yX2_indexOf (wsO yX2_indexOf cX2_indexOf 2 (some .int)) ({ frames := 1, cells := 0, slots := 0, locals := 20 } : Room) (mPc D vwCl (tyA aC) lo ad ct [.int (nI pl), .int (nI q)]) (mD1 D vwCl lo (.int (nI (pl * 94 + q - 33))) ad ct) 0 0 (fun q => lo ≤ q) := by
  refine Met.ofW (cc := cX2_indexOf) (maxL := 2) (ret := (some .int)) (by decide) rfl ?_
  intro pr en s0 mm args below meth cc0 s₁ B hml hv
  obtain ⟨rfl, hlo, hM, hKK⟩ := hv
  have hK := hKK.1
  have hr := B.returns
  have hts := atoms_spec (ws := (wsO yX2_indexOf cX2_indexOf 2 (some .int))) B.pre
  have F : CallFix pr mm cc0 cX2_indexOf 2 s0 (([.int (nI pl), .int (nI q)] : List Value).toArray) (wsO yX2_indexOf cX2_indexOf 2 (some .int)) RX2 := ⟨B.exec, B.bytes, hml, findClass_of_methodNamed B.named, hts⟩
  have hx := F.1
  have hb := F.2.1
  have hlocks := B.notSynchronized
  have hS : va_S (fun q => lo ≤ q) s0.heap s0.heap [] := va_S.rf
  have hl := lv_entry ([.int (nI pl), .int (nI q)]) (n := 2) (Nat.le_of_ble_eq_true rfl)
  rw [lg_entry_eq]
  generalize (lg_sl ([.int (nI pl), .int (nI q)]) ++ List.replicate (2 - (lg_sl ([.int (nI pl), .int (nI q)])).length) Slot.unset).toArray = ls at hl ⊢
  have hl : lv_has ls 2 [(0, .int (nI pl)), (1, .int (nI q))] := hl
  refine lv_iload_n hx hb dX2_indexOf_0 rfl (lv_at hl 0 rfl) ?_
  refine lv_if_lt (tgt := 17) hx hb dX2_indexOf_1 (by decide) (fun c_1 => ?_) (fun c_1 => ?_)
  · skip
    exact absurd c_1 (nI_pos (by omega))
  · skip
    refine lv_iload_n hx hb dX2_indexOf_4 rfl (lv_at hl 0 rfl) ?_
    refine lv_bipush (v := (nI 20)) hx hb dX2_indexOf_5 (by decide) ?_
    refine m_icmp_ge F (a := pl) (b := 20) (by omega) (by omega) (tgt := 17) dX2_indexOf_7 (by decide) (fun c_7 => ?_) (fun c_7 => ?_)
    · skip
      exact absurd c_7 (by omega)
    · skip
      refine lv_iload_n hx hb dX2_indexOf_10 rfl (lv_at hl 1 rfl) ?_
      refine m_d1 (v := .int (bI (isSg (nI q)))) (ct1 := ct) (va_runSN (As := [.int (nI q)]) (rest := []) F (c_isSign l (nI q)) ⟨va_cnB 1 F.2.2.2.2 (go_O (fun _ h => tb_O h) cdX3_isSign) rfl rfl rfl hKK.2.1 (F.2.2.2.2 _ (tb_O iniX3)) (by decide +kernel) ⟨Nat.le_of_ble_eq_true rfl, Nat.le_of_ble_eq_true rfl⟩, F.2.2.2.2 _ (tb_O stX3_isSign), trivial⟩ (mPreS hKK hM (Nat.le_trans hlo hS.1)) rfl rfl hl.1 rfl (lv_room (Nat.le_of_ble_eq_true rfl)) dX2_indexOf_11 ⟨Nat.le_of_ble_eq_true rfl, Nat.le_of_ble_eq_true rfl⟩) hS (fun H locs hM hS => ?_)
      refine lv_if_ne (tgt := 19) hx hb dX2_indexOf_14 (by decide) (fun c_14 => ?_) (fun c_14 => ?_)
      · skip
        refine lv_iload_n hx hb dX2_indexOf_19 rfl (lv_at hl 0 rfl) ?_
        refine lv_bipush (v := (nI 94)) hx hb dX2_indexOf_20 (by decide) ?_
        refine lv_imul hx hb dX2_indexOf_22 ?_
        refine m_top (pk_mul pl 94) ?_
        refine lv_iload_n hx hb dX2_indexOf_23 rfl (lv_at hl 1 rfl) ?_
        refine lv_iadd hx hb dX2_indexOf_24 ?_
        refine m_top (nI_add (pl * 94) q) ?_
        refine lv_bipush (v := (nI 33)) hx hb dX2_indexOf_25 (by decide) ?_
        refine lv_isub hx hb dX2_indexOf_27 ?_
        refine m_top (y := (nI (pl * 94 + q - 33))) (pk_sub (by omega)) ?_
        exact W.iret hx hb hr (fun t ht hW => ⟨⟨_, _, _, rfl, ⟨rfl, rfl, rfl⟩, by rw [ht]; exact hM⟩, hS.F ht⟩) hS.2.2 dX2_indexOf_28
      · skip
        exact absurd (by rw [isSg_nI hq1 hq2]; decide) (fun h : ¬ bI (isSg (nI q)) = 0 => h c_14)

set_option maxHeartbeats 4000000 in
set_option maxRecDepth 100000 in
theorem c_told (l : Launch) {D : va_G} {aC : Nat → ClassId} {lo : Nat} {ad : Nat → Nat} {ct : Nat → Option va_E} {P : Nat} {co : Nat → Option Nat} (pl q : Nat) (hp : pl < 20) (hq1 : 33 ≤ q) (hq2 : q ≤ 126) (h2 : ct 2 = some (.inr (2, [.ref (ad 3), .ref (ad 4), .int (nI P)]))) (h3 : ct 3 = some (iA aC 1880 (fun j => cV (co j)))) : Met l yX2_told (wsO yX2_told cX2_told 4 (some .int)) ({ frames := 2, cells := 0, slots := 0, locals := 41 } : Room) (mPc D vwCl (tyA aC) lo ad ct [.ref (ad 2), .int (nI pl), .int (nI q)]) (mD1 D vwCl lo (.int (cV (co (pl * 94 + q - 33)))) ad ct) 0 0 (fun q => lo ≤ q) := by
  refine Met.ofW (cc := cX2_told) (maxL := 4) (ret := (some .int)) (by decide) rfl ?_
  intro pr en s0 mm args below meth cc0 s₁ B hml hv
  obtain ⟨rfl, hlo, hM, hKK⟩ := hv
  have hK := hKK.1
  have hr := B.returns
  have hts := atoms_spec (ws := (wsO yX2_told cX2_told 4 (some .int))) B.pre
  have F : CallFix pr mm cc0 cX2_told 4 s0 (([.ref (ad 2), .int (nI pl), .int (nI q)] : List Value).toArray) (wsO yX2_told cX2_told 4 (some .int)) RX2 := ⟨B.exec, B.bytes, hml, findClass_of_methodNamed B.named, hts⟩
  have hx := F.1
  have hb := F.2.1
  have hlocks := B.notSynchronized
  have hS : va_S (fun q => lo ≤ q) s0.heap s0.heap [] := va_S.rf
  have hl := lv_entry ([.ref (ad 2), .int (nI pl), .int (nI q)]) (n := 4) (Nat.le_of_ble_eq_true rfl)
  rw [lg_entry_eq]
  generalize (lg_sl ([.ref (ad 2), .int (nI pl), .int (nI q)]) ++ List.replicate (4 - (lg_sl ([.ref (ad 2), .int (nI pl), .int (nI q)])).length) Slot.unset).toArray = ls at hl ⊢
  have hl : lv_has ls 4 [(0, .ref (ad 2)), (1, .int (nI pl)), (2, .int (nI q))] := hl
  refine lv_iload_n hx hb dX2_told_0 rfl (lv_at hl 1 rfl) ?_
  refine lv_iload_n hx hb dX2_told_1 rfl (lv_at hl 2 rfl) ?_
  refine m_d1 (v := .int (nI (pl * 94 + q - 33))) (ct1 := ct) (va_runS (As := [.int (nI pl), .int (nI q)]) (rest := []) F (c_indexOf l pl q hp hq1 hq2) (va_cwS 2 F.2.2.2.2 (go_S (fun _ h => tb_O h) mlX2_28 stX2_indexOf iniX2 cdX2_indexOf) rfl rfl rfl (by decide +kernel) ⟨Nat.le_of_ble_eq_true rfl, Nat.le_of_ble_eq_true rfl⟩) (mPreS hKK hM (Nat.le_trans hlo hS.1)) rfl rfl hl.1 rfl (lv_room (Nat.le_of_ble_eq_true rfl)) dX2_told_2 ⟨Nat.le_of_ble_eq_true rfl, Nat.le_of_ble_eq_true rfl⟩) hS (fun H locs hM hS => ?_)
  refine lv_istore_n (lv' := [(3, .int (nI (pl * 94 + q - 33))), (0, .ref (ad 2)), (1, .int (nI pl)), (2, .int (nI q))]) hx hb dX2_told_5 rfl hl (by decide) rfl (fun ls hl => ?_)
  refine lv_iload_n hx hb dX2_told_6 rfl (lv_at hl 0 rfl) ?_
  refine lv_if_ge (tgt := 14) hx hb dX2_told_7 (by decide) (fun c_7 => ?_) (fun c_7 => ?_)
  · skip
    refine lv_aload_n hx hb dX2_told_14 rfl (lv_at hl 1 rfl) ?_
    refine m_get F (ci := 2) (v := .ref (ad 3)) (fun w h => tb_O (inX2 w h)) hK hM h2 rfl 0 (by decide) (tb_O lkX2_11) rfl dX2_told_15 ?_
    refine lv_iload_n hx hb dX2_told_18 rfl (lv_at hl 0 rfl) ?_
    refine m_iald F hK hM 0 rfl (j := (pl * 94 + q - 33)) h3 (by omega) (by decide) dX2_told_19 ?_
    refine m_top (y := (cV (co (pl * 94 + q - 33)))) rfl ?_
    exact W.iret hx hb hr (fun t ht hW => ⟨⟨_, _, _, rfl, ⟨rfl, rfl, rfl⟩, by rw [ht]; exact hM⟩, hS.F ht⟩) hS.2.2 dX2_told_20
  · skip
    exact absurd (nI_pos' (by omega)) c_7

set_option maxHeartbeats 4000000 in
set_option maxRecDepth 100000 in
theorem c_costAs (l : Launch) {D : va_G} {aC : Nat → ClassId} {lo : Nat} {ad : Nat → Nat} {ct : Nat → Option va_E} {P : Nat} {co : Nat → Option Nat} (pl q : Nat) (hp : pl < 20) (hq1 : 33 ≤ q) (hq2 : q ≤ 126) (h2 : ct 2 = some (.inr (2, [.ref (ad 3), .ref (ad 4), .int (nI P)]))) (h3 : ct 3 = some (iA aC 1880 (fun j => cV (co j)))) (hco : ∀ k c, co k = some c → c ≤ 1000) : Met l yX2_costAs (wsO yX2_costAs cX2_costAs 4 (some .int)) ({ frames := 3, cells := 0, slots := 0, locals := 64 } : Room) (mPc D vwCl (tyA aC) lo ad ct [.ref (ad 2), .int (nI pl), .int (nI q)]) (mD1 D vwCl lo (.int (nI (wC co pl q))) ad ct) 0 0 (fun q => lo ≤ q) := by
  refine Met.ofW (cc := cX2_costAs) (maxL := 4) (ret := (some .int)) (by decide) rfl ?_
  intro pr en s0 mm args below meth cc0 s₁ B hml hv
  obtain ⟨rfl, hlo, hM, hKK⟩ := hv
  have hK := hKK.1
  have hr := B.returns
  have hts := atoms_spec (ws := (wsO yX2_costAs cX2_costAs 4 (some .int))) B.pre
  have F : CallFix pr mm cc0 cX2_costAs 4 s0 (([.ref (ad 2), .int (nI pl), .int (nI q)] : List Value).toArray) (wsO yX2_costAs cX2_costAs 4 (some .int)) RX2 := ⟨B.exec, B.bytes, hml, findClass_of_methodNamed B.named, hts⟩
  have hx := F.1
  have hb := F.2.1
  have hlocks := B.notSynchronized
  have hS : va_S (fun q => lo ≤ q) s0.heap s0.heap [] := va_S.rf
  have hl := lv_entry ([.ref (ad 2), .int (nI pl), .int (nI q)]) (n := 4) (Nat.le_of_ble_eq_true rfl)
  rw [lg_entry_eq]
  generalize (lg_sl ([.ref (ad 2), .int (nI pl), .int (nI q)]) ++ List.replicate (4 - (lg_sl ([.ref (ad 2), .int (nI pl), .int (nI q)])).length) Slot.unset).toArray = ls at hl ⊢
  have hl : lv_has ls 4 [(0, .ref (ad 2)), (1, .int (nI pl)), (2, .int (nI q))] := hl
  refine lv_aload_n hx hb dX2_costAs_0 rfl (lv_at hl 0 rfl) ?_
  refine lv_iload_n hx hb dX2_costAs_1 rfl (lv_at hl 1 rfl) ?_
  refine lv_iload_n hx hb dX2_costAs_2 rfl (lv_at hl 2 rfl) ?_
  refine m_d1 (v := .int (cV (co (pl * 94 + q - 33)))) (ct1 := ct) (va_runV (As := [.int (nI pl), .int (nI q)]) (rest := []) F (c_told l pl q hp hq1 hq2 h2 h3) (cwV 2 F.2.2.2.2 (go_V (fun _ h => tb_O h) mlX2_45 imX2_told seX2_told iniX2 cdX2_told) rfl rfl rfl (by decide +kernel) ⟨Nat.le_of_ble_eq_true rfl, Nat.le_of_ble_eq_true rfl⟩) (mPreV hKK hM (Nat.le_trans hlo hS.1) h2 rfl) rfl rfl hl.1 rfl (lv_room (Nat.le_of_ble_eq_true rfl)) dX2_costAs_3 ⟨Nat.le_of_ble_eq_true rfl, Nat.le_of_ble_eq_true rfl⟩) hS (fun H locs hM hS => ?_)
  rcases hcx : co (pl * 94 + q - 33) with _ | cx
  · skip
    refine m_top (y := (-1)) rfl ?_
    refine lv_istore_n (lv' := [(3, .int (-1)), (0, .ref (ad 2)), (1, .int (nI pl)), (2, .int (nI q))]) hx hb dX2_costAs_6 rfl hl (by decide) rfl (fun ls hl => ?_)
    refine lv_iload_n hx hb dX2_costAs_7 rfl (lv_at hl 0 rfl) ?_
    refine lv_iconst (v := (-1)) hx hb dX2_costAs_8 (by decide) ?_
    refine lv_icmp_ne (tgt := 17) hx hb dX2_costAs_9 (by decide) (fun c_9 => ?_) (fun c_9 => ?_)
    · skip
      exact absurd rfl c_9
    · skip
      refine lv_bipush (v := (nI 60)) hx hb dX2_costAs_12 (by decide) ?_
      refine lv_goto (tgt := 18) hx hb dX2_costAs_14 (by decide) ?_
      exact W.iret hx hb hr (fun t ht hW => ⟨⟨_, _, _, rfl, ⟨by simp [wC, hcx], rfl, rfl⟩, by rw [ht]; exact hM⟩, hS.F ht⟩) hS.2.2 dX2_costAs_18
  · skip
    refine m_top (y := nI cx) rfl ?_
    refine lv_istore_n (lv' := [(3, .int (nI cx)), (0, .ref (ad 2)), (1, .int (nI pl)), (2, .int (nI q))]) hx hb dX2_costAs_6 rfl hl (by decide) rfl (fun ls hl => ?_)
    refine lv_iload_n hx hb dX2_costAs_7 rfl (lv_at hl 0 rfl) ?_
    refine lv_iconst (v := (-1)) hx hb dX2_costAs_8 (by decide) ?_
    refine lv_icmp_ne (tgt := 17) hx hb dX2_costAs_9 (by decide) (fun c_9 => ?_) (fun c_9 => ?_)
    · skip
      refine lv_iload_n hx hb dX2_costAs_17 rfl (lv_at hl 0 rfl) ?_
      exact W.iret hx hb hr (fun t ht hW => ⟨⟨_, _, _, rfl, ⟨by simp [wC, hcx], rfl, rfl⟩, by rw [ht]; exact hM⟩, hS.F ht⟩) hS.2.2 dX2_costAs_18
    · skip
      exact absurd c_9 (nI_nm1 (by have := hco _ _ hcx; omega))

set_option maxHeartbeats 4000000 in
set_option maxRecDepth 100000 in
theorem c_tell (l : Launch) {D : va_G} {aC : Nat → ClassId} {lo : Nat} {ad : Nat → Nat} {ct : Nat → Option va_E} {P : Nat} {co : Nat → Option Nat} (pl q cs : Nat) (hp : pl < 20) (hq1 : 33 ≤ q) (hq2 : q ≤ 126) (hcs : cs ≤ 1000) (hP : P ≤ 20) (h2 : ct 2 = some (.inr (2, [.ref (ad 3), .ref (ad 4), .int (nI P)]))) (h3 : ct 3 = some (iA aC 1880 (fun j => cV (co j)))) : Met l yX2_tell (wsO yX2_tell cX2_tell 5 none) ({ frames := 2, cells := 0, slots := 0, locals := 41 } : Room) (mPc D vwCl (tyA aC) lo ad ct [.ref (ad 2), .int (nI pl), .int (nI q), .int (nI cs)]) (mD0 D vwCl lo ad (va_up (va_up ct 3 (some (iA aC 1880 (fun j => cV ((va_up co (pl * 94 + q - 33) (some cs)) j))))) 2 (some (.inr (2, [.ref (ad 3), .ref (ad 4), .int (nI (max P (pl + 1)))]))))) 0 0 (fun q => lo ≤ q) := by
  refine Met.ofW (cc := cX2_tell) (maxL := 5) (ret := none) (by decide) rfl ?_
  intro pr en s0 mm args below meth cc0 s₁ B hml hv
  obtain ⟨rfl, hlo, hM, hKK⟩ := hv
  have hK := hKK.1
  have hr := B.returns
  have hts := atoms_spec (ws := (wsO yX2_tell cX2_tell 5 none)) B.pre
  have F : CallFix pr mm cc0 cX2_tell 5 s0 (([.ref (ad 2), .int (nI pl), .int (nI q), .int (nI cs)] : List Value).toArray) (wsO yX2_tell cX2_tell 5 none) RX2 := ⟨B.exec, B.bytes, hml, findClass_of_methodNamed B.named, hts⟩
  have hx := F.1
  have hb := F.2.1
  have hlocks := B.notSynchronized
  have hS : va_S (fun q => lo ≤ q) s0.heap s0.heap [] := va_S.rf
  have hl := lv_entry ([.ref (ad 2), .int (nI pl), .int (nI q), .int (nI cs)]) (n := 5) (Nat.le_of_ble_eq_true rfl)
  rw [lg_entry_eq]
  generalize (lg_sl ([.ref (ad 2), .int (nI pl), .int (nI q), .int (nI cs)]) ++ List.replicate (5 - (lg_sl ([.ref (ad 2), .int (nI pl), .int (nI q), .int (nI cs)])).length) Slot.unset).toArray = ls at hl ⊢
  have hl : lv_has ls 5 [(0, .ref (ad 2)), (1, .int (nI pl)), (2, .int (nI q)), (3, .int (nI cs))] := hl
  refine lv_iload_n hx hb dX2_tell_0 rfl (lv_at hl 1 rfl) ?_
  refine lv_iload_n hx hb dX2_tell_1 rfl (lv_at hl 2 rfl) ?_
  refine m_d1 (v := .int (nI (pl * 94 + q - 33))) (ct1 := ct) (va_runS (As := [.int (nI pl), .int (nI q)]) (rest := []) F (c_indexOf l pl q hp hq1 hq2) (va_cwS 2 F.2.2.2.2 (go_S (fun _ h => tb_O h) mlX2_28 stX2_indexOf iniX2 cdX2_indexOf) rfl rfl rfl (by decide +kernel) ⟨Nat.le_of_ble_eq_true rfl, Nat.le_of_ble_eq_true rfl⟩) (mPreS hKK hM (Nat.le_trans hlo hS.1)) rfl rfl hl.1 rfl (lv_room (Nat.le_of_ble_eq_true rfl)) dX2_tell_2 ⟨Nat.le_of_ble_eq_true rfl, Nat.le_of_ble_eq_true rfl⟩) hS (fun H locs hM hS => ?_)
  refine lv_istore (lv' := [(4, .int (nI (pl * 94 + q - 33))), (0, .ref (ad 2)), (1, .int (nI pl)), (2, .int (nI q)), (3, .int (nI cs))]) hx hb dX2_tell_5 hl (by decide) rfl (fun ls hl => ?_)
  refine lv_iload hx hb dX2_tell_7 (lv_at hl 0 rfl) ?_
  refine lv_if_ge (tgt := 13) hx hb dX2_tell_9 (by decide) (fun c_9 => ?_) (fun c_9 => ?_)
  · skip
    refine lv_aload_n hx hb dX2_tell_13 rfl (lv_at hl 1 rfl) ?_
    refine m_get F (ci := 2) (v := .ref (ad 3)) (fun w h => tb_O (inX2 w h)) hK hM h2 rfl 0 (by decide) (tb_O lkX2_11) rfl dX2_tell_14 ?_
    refine lv_iload hx hb dX2_tell_17 (lv_at hl 0 rfl) ?_
    refine lv_iload_n hx hb dX2_tell_19 rfl (lv_at hl 4 rfl) ?_
    refine m_iast F hK hM hS 0 rfl (j := (pl * 94 + q - 33)) (x := (nI cs)) h3 (by omega) (by decide) dX2_tell_20 (fun H locs hM hS => ?_)
    have hM : mw D vwCl lo ad (va_up ct 3 (some (.inl (aC 0, 1880, .inl (upd (fun j => cV (co j)) (pl * 94 + q - 33) (nI cs)))))) H := hM
    have hM : mw D vwCl lo ad (va_up ct 3 (some (iA aC 1880 (fun j => cV ((va_up co (pl * 94 + q - 33) (some cs)) j))))) H := by rw [upd_cV] at hM; exact hM
    refine lv_aload_n hx hb dX2_tell_21 rfl (lv_at hl 1 rfl) ?_
    refine lv_aload_n hx hb dX2_tell_22 rfl (lv_at hl 1 rfl) ?_
    refine m_get F (ci := 2) (v := .int (nI P)) (fun w h => tb_O (inX2 w h)) hK hM ((va_up_ne _ _ (by decide)).trans h2) rfl 2 (by decide) (tb_O lkX2_24) rfl dX2_tell_23 ?_
    refine lv_iload_n hx hb dX2_tell_26 rfl (lv_at hl 2 rfl) ?_
    refine lv_iconst (v := (nI 1)) hx hb dX2_tell_27 (by decide) ?_
    refine lv_iadd hx hb dX2_tell_28 ?_
    refine m_top (nI_add pl 1) ?_
    refine va_mmax hx hb (F.2.2.1.trans hl.1.symm) F.2.2.2.1 (F.2.2.2.2 _ (tb_O mlX2_32)) (F.2.2.2.2 _ (tb_O st_max)) (F.2.2.2.2 _ (tb_O iniMath)) (F.2.2.2.2 _ (tb_O cd_max)) (Nat.le_of_ble_eq_true rfl) (Nat.le_of_ble_eq_true rfl) (Nat.le_of_ble_eq_true rfl) (Nat.le_of_ble_eq_true rfl) dX2_tell_29 ?_
    refine m_top (y := (nI (max P (pl + 1)))) (mx_nI (by omega) (by omega)) ?_
    refine m_put F (ci := 2) (v := .int (nI (max P (pl + 1)))) (fun w h => tb_O (inX2 w h)) mc_X2 hK hM hS ((va_up_ne _ _ (by decide)).trans h2) 2 (by decide) (tb_O lkX2_24) rfl rfl rfl (Nat.le_of_ble_eq_true rfl) dX2_tell_32 (fun H locs hM hS => ?_)
    have hM : mw D vwCl lo ad (va_up (va_up ct 3 (some (iA aC 1880 (fun j => cV ((va_up co (pl * 94 + q - 33) (some cs)) j))))) 2 (some (.inr (2, [.ref (ad 3), .ref (ad 4), .int (nI (max P (pl + 1)))])))) H := hM
    exact W.vret hx hb hr (fun t ht hW => ⟨⟨_, _, rfl, ⟨rfl, rfl⟩, by rw [ht]; exact hM⟩, hS.F ht⟩) hS.2.2 dX2_tell_35
  · skip
    exact absurd (nI_pos' (by omega)) c_9
