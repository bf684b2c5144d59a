set_option maxHeartbeats 4000000 in
set_option maxRecDepth 100000 in
theorem c_between (l : Launch) {D : va_G} {aC : Nat → ClassId} {lo : Nat} {ad : Nat → Nat} {ct : Nat → Option va_E} (x a b : Int32)  : Met l yX4_between (wsO yX4_between cX4_between 3 (some .boolean)) ({ frames := 0, cells := 0, slots := 0, locals := 0 } : Room) (mPc D vwCl (tyA aC) lo ad ct [.int x, .int a, .int b]) (mD1 D vwCl lo (.int (bI (btw x a b))) ad ct) 0 0 (fun q => lo ≤ q) := by
  refine Met.ofW (cc := cX4_between) (maxL := 3) (ret := (some .boolean)) (by decide) rfl ?_
  intro pr en s0 mm args below meth cc0 s₁ B hml hv
  obtain ⟨rfl, hlo, hM, hKK⟩ := hv
  have hK := hKK.1
  have hr := B.returns
  have hts := atoms_spec (ws := (wsO yX4_between cX4_between 3 (some .boolean))) B.pre
  have F : CallFix pr mm cc0 cX4_between 3 s0 (([.int x, .int a, .int b] : List Value).toArray) (wsO yX4_between cX4_between 3 (some .boolean)) RX4 := ⟨B.exec, B.bytes, hml, findClass_of_methodNamed B.named, hts⟩
  have hx := F.1
  have hb := F.2.1
  have hlocks := B.notSynchronized
  have hS : va_S (fun q => lo ≤ q) s0.heap s0.heap [] := va_S.rf
  have hl := lv_entry ([.int x, .int a, .int b]) (n := 3) (Nat.le_of_ble_eq_true rfl)
  rw [lg_entry_eq]
  generalize (lg_sl ([.int x, .int a, .int b]) ++ List.replicate (3 - (lg_sl ([.int x, .int a, .int b])).length) Slot.unset).toArray = ls at hl ⊢
  have hl : lv_has ls 3 [(0, .int x), (1, .int a), (2, .int b)] := hl
  refine lv_iload_n hx hb dX4_between_0 rfl (lv_at hl 0 rfl) ?_
  refine lv_iload_n hx hb dX4_between_1 rfl (lv_at hl 1 rfl) ?_
  refine lv_icmp_lt (tgt := 14) hx hb dX4_between_2 (by decide) (fun c_2 => ?_) (fun c_2 => ?_)
  · skip
    refine lv_iconst (v := (nI 0)) hx hb dX4_between_14 (by decide) ?_
    exact W.zret hx hb hr rfl (fun t ht hW => ⟨⟨_, _, _, rfl, ⟨by rw [show btw x a b = false by first | simp [btw, c_2, c_7] | simp [btw, c_2]]; rfl, rfl, rfl⟩, by rw [ht]; exact hM⟩, hS.F ht⟩) hS.2.2 dX4_between_15
  · skip
    refine lv_iload_n hx hb dX4_between_5 rfl (lv_at hl 0 rfl) ?_
    refine lv_iload_n hx hb dX4_between_6 rfl (lv_at hl 2 rfl) ?_
    refine lv_icmp_gt (tgt := 14) hx hb dX4_between_7 (by decide) (fun c_7 => ?_) (fun c_7 => ?_)
    · skip
      refine lv_iconst (v := (nI 0)) hx hb dX4_between_14 (by decide) ?_
      exact W.zret hx hb hr rfl (fun t ht hW => ⟨⟨_, _, _, rfl, ⟨by rw [show btw x a b = false by first | simp [btw, c_2, c_7] | simp [btw, c_2]]; rfl, rfl, rfl⟩, by rw [ht]; exact hM⟩, hS.F ht⟩) hS.2.2 dX4_between_15
    · skip
      refine lv_iconst (v := (nI 1)) hx hb dX4_between_10 (by decide) ?_
      refine lv_goto (tgt := 15) hx hb dX4_between_11 (by decide) ?_
      exact W.zret hx hb hr rfl (fun t ht hW => ⟨⟨_, _, _, rfl, ⟨by rw [show btw x a b = true by simp [btw, c_2, c_7]]; rfl, rfl, rfl⟩, by rw [ht]; exact hM⟩, hS.F ht⟩) hS.2.2 dX4_between_15

set_option maxHeartbeats 4000000 in
set_option maxRecDepth 100000 in
theorem c_mIsE (l : Launch) {D : va_G} {aC : Nat → ClassId} {lo : Nat} {ad : Nat → Nat} {n : Nat} {th : Nat → Bool} {sz : Nat → Nat} {sg : Nat → Nat} {me : Nat → Nat} {gr : Nat → Int32} {lk : Int32} {P : Nat} {co : Nat → Option Nat} {tb : Nat → Nat} {fd : Nat} {wd : Nat → Nat} {sm : Nat → Nat} {rc : Nat → Nat} {X : Nat → Option va_E} (x : Int32) (h200 : n ≤ 200) : Met l yX4_isEntry (wsO yX4_isEntry cX4_isEntry 2 (some .boolean)) ({ frames := 1, cells := 0, slots := 0, locals := 22 } : Room) (mPc D vwCl (tyA aC) lo ad (ctM aC ad n th sz sg me gr lk P co tb fd wd sm rc X) [.ref (ad 1000), .int x]) (mD1 D vwCl lo (.int (bI (isE n th x))) ad (ctM aC ad n th sz sg me gr lk P co tb fd wd sm rc X)) 0 0 (fun q => lo ≤ q) := by
  refine Met.ofW (cc := cX4_isEntry) (maxL := 2) (ret := (some .boolean)) (by decide) rfl ?_
  intro pr en s0 mm args below meth cc0 s₁ B hml hv
  obtain ⟨rfl, hlo, hM, hKK⟩ := hv
  have hK := hKK.1
  have hr := B.returns
  have hts := atoms_spec (ws := (wsO yX4_isEntry cX4_isEntry 2 (some .boolean))) B.pre
  have F : CallFix pr mm cc0 cX4_isEntry 2 s0 (([.ref (ad 1000), .int x] : List Value).toArray) (wsO yX4_isEntry cX4_isEntry 2 (some .boolean)) RX4 := ⟨B.exec, B.bytes, hml, findClass_of_methodNamed B.named, hts⟩
  have hx := F.1
  have hb := F.2.1
  have hlocks := B.notSynchronized
  have hS : va_S (fun q => lo ≤ q) s0.heap s0.heap [] := va_S.rf
  have hl := lv_entry ([.ref (ad 1000), .int x]) (n := 2) (Nat.le_of_ble_eq_true rfl)
  rw [lg_entry_eq]
  generalize (lg_sl ([.ref (ad 1000), .int x]) ++ List.replicate (2 - (lg_sl ([.ref (ad 1000), .int x])).length) Slot.unset).toArray = ls at hl ⊢
  have hl : lv_has ls 2 [(0, .ref (ad 1000)), (1, .int x)] := hl
  refine lv_iload_n hx hb dX4_isEntry_0 rfl (lv_at hl 1 rfl) ?_
  refine lv_iconst (v := (nI 1)) hx hb dX4_isEntry_1 (by decide) ?_
  refine lv_aload_n hx hb dX4_isEntry_2 rfl (lv_at hl 0 rfl) ?_
  refine m_get F (ci := 4) (v := .int (nI n)) (fun w h => tb_O (inX4 w h)) hK hM ctM_o rfl 0 (by decide) (tb_O lkX4_51) rfl dX4_isEntry_3 ?_
  refine m_d1 (v := .int (bI (btw x (nI 1) (nI n)))) (ct1 := ctM aC ad n th sz sg me gr lk P co tb fd wd sm rc X) (va_runS (As := [.int x, .int (nI 1), .int (nI n)]) (rest := []) F (c_between l x (nI 1) (nI n)) (va_cwS 3 F.2.2.2.2 (go_S (fun _ h => tb_O h) mlX4_54 stX4_between iniX4 cdX4_between) rfl rfl rfl (by decide +kernel) ⟨Nat.le_of_ble_eq_true rfl, Nat.le_of_ble_eq_true rfl⟩) (mPreS hKK hM (Nat.le_trans hlo hS.1)) rfl rfl hl.1 rfl (lv_room (Nat.le_of_ble_eq_true rfl)) dX4_isEntry_6 ⟨Nat.le_of_ble_eq_true rfl, Nat.le_of_ble_eq_true rfl⟩) hS (fun H locs hM hS => ?_)
  refine lv_if_eq (tgt := 25) hx hb dX4_isEntry_9 (by decide) (fun c_9 => ?_) (fun c_9 => ?_)
  · skip
    refine lv_iconst (v := (nI 0)) hx hb dX4_isEntry_25 (by decide) ?_
    exact W.zret hx hb hr rfl (fun t ht hW => ⟨⟨_, _, _, rfl, ⟨by first | (rw [isE_nI hj1 hj2 h200, bI_eq c_18]; rfl) | (rw [show isE n th x = false by unfold isE; rw [bI_eq c_9]; rfl]; rfl), rfl, rfl⟩, by rw [ht]; exact hM⟩, hS.F ht⟩) hS.2.2 dX4_isEntry_26
  · skip
    obtain ⟨j, hj1, hj2, rfl⟩ := btw_in (bI_ne c_9) h200
    refine lv_aload_n hx hb dX4_isEntry_12 rfl (lv_at hl 0 rfl) ?_
    refine m_get F (ci := 4) (v := .ref (ad 1001)) (fun w h => tb_O (inX4 w h)) hK hM ctM_o rfl 1 (by decide) (tb_O lkX4_7) rfl dX4_isEntry_13 ?_
    refine lv_iload_n hx hb dX4_isEntry_16 rfl (lv_at hl 1 rfl) ?_
    refine m_zald F hK hM 2 rfl (j := j) ctM_ath (by omega) (by decide) dX4_isEntry_17 ?_
    refine m_top (y := (bI (th j))) rfl ?_
    refine lv_if_eq (tgt := 25) hx hb dX4_isEntry_18 (by decide) (fun c_18 => ?_) (fun c_18 => ?_)
    · skip
      refine lv_iconst (v := (nI 0)) hx hb dX4_isEntry_25 (by decide) ?_
      exact W.zret hx hb hr rfl (fun t ht hW => ⟨⟨_, _, _, rfl, ⟨by first | (rw [isE_nI hj1 hj2 h200, bI_eq c_18]; rfl) | (rw [show isE n th x = false by unfold isE; rw [bI_eq c_9]; rfl]; rfl), rfl, rfl⟩, by rw [ht]; exact hM⟩, hS.F ht⟩) hS.2.2 dX4_isEntry_26
    · skip
      refine lv_iconst (v := (nI 1)) hx hb dX4_isEntry_21 (by decide) ?_
      refine lv_goto (tgt := 26) hx hb dX4_isEntry_22 (by decide) ?_
      exact W.zret hx hb hr rfl (fun t ht hW => ⟨⟨_, _, _, rfl, ⟨by rw [isE_nI hj1 hj2 h200, bI_ne c_18]; rfl, rfl, rfl⟩, by rw [ht]; exact hM⟩, hS.F ht⟩) hS.2.2 dX4_isEntry_26

set_option maxHeartbeats 4000000 in
set_option maxRecDepth 100000 in
theorem c_mEntryR (l : Launch) {D : va_G} {aC : Nat → ClassId} {lo : Nat} {ad : Nat → Nat} {n : Nat} {th : Nat → Bool} {sz : Nat → Nat} {sg : Nat → Nat} {me : Nat → Nat} {gr : Nat → Int32} {lk : Int32} {P : Nat} {co : Nat → Option Nat} {tb : Nat → Nat} {fd : Nat} {wd : Nat → Nat} {sm : Nat → Nat} {rc : Nat → Nat} {X : Nat → Option va_E} (hnn : n = 200) : Met l yX4_entry (wsO yX4_entry cX4_entry 1 (some .int)) ({ frames := 0, cells := 0, slots := 0, locals := 0 } : Room) (mPc D vwCl (tyA aC) lo ad (ctM aC ad n th sz sg me gr lk P co tb fd wd sm rc X) [.ref (ad 1000)]) (mD1 D vwCl lo (.int (-4)) ad (ctM aC ad n th sz sg me gr lk P co tb fd wd sm rc X)) 0 0 (fun q => lo ≤ q) := by
  refine Met.ofW (cc := cX4_entry) (maxL := 1) (ret := (some .int)) (by decide) rfl ?_
  intro pr en s0 mm args below meth cc0 s₁ B hml hv
  obtain ⟨rfl, hlo, hM, hKK⟩ := hv
  have hK := hKK.1
  have hr := B.returns
  have hts := atoms_spec (ws := (wsO yX4_entry cX4_entry 1 (some .int))) B.pre
  have F : CallFix pr mm cc0 cX4_entry 1 s0 (([.ref (ad 1000)] : List Value).toArray) (wsO yX4_entry cX4_entry 1 (some .int)) RX4 := ⟨B.exec, B.bytes, hml, findClass_of_methodNamed B.named, hts⟩
  have hx := F.1
  have hb := F.2.1
  have hlocks := B.notSynchronized
  have hS : va_S (fun q => lo ≤ q) s0.heap s0.heap [] := va_S.rf
  have hl := lv_entry ([.ref (ad 1000)]) (n := 1) (Nat.le_of_ble_eq_true rfl)
  rw [lg_entry_eq]
  generalize (lg_sl ([.ref (ad 1000)]) ++ List.replicate (1 - (lg_sl ([.ref (ad 1000)])).length) Slot.unset).toArray = ls at hl ⊢
  have hl : lv_has ls 1 [(0, .ref (ad 1000))] := hl
  refine lv_aload_n hx hb dX4_entry_0 rfl (lv_at hl 0 rfl) ?_
  refine m_get F (ci := 4) (v := .int (nI n)) (fun w h => tb_O (inX4 w h)) hK hM ctM_o rfl 0 (by decide) (tb_O lkX4_51) rfl dX4_entry_1 ?_
  refine lv_sipush (v := (nI 200)) hx hb dX4_entry_4 (by decide) ?_
  refine m_icmp_ne F (a := n) (b := 200) (by omega) (by omega) (tgt := 13) dX4_entry_7 (by decide) (fun c_7 => ?_) (fun c_7 => ?_)
  · skip
    exact absurd hnn c_7
  · skip
    refine lv_bipush (v := (-4)) hx hb dX4_entry_10 (by decide) ?_
    exact W.iret hx hb hr (fun t ht hW => ⟨⟨_, _, _, rfl, ⟨rfl, rfl, rfl⟩, by rw [ht]; exact hM⟩, hS.F ht⟩) hS.2.2 dX4_entry_12

set_option maxHeartbeats 4000000 in
set_option maxRecDepth 100000 in
theorem c_mEntry (l : Launch) {D : va_G} {aC : Nat → ClassId} {lo : Nat} {ad : Nat → Nat} {n : Nat} {th : Nat → Bool} {sz : Nat → Nat} {sg : Nat → Nat} {me : Nat → Nat} {gr : Nat → Int32} {lk : Int32} {P : Nat} {co : Nat → Option Nat} {tb : Nat → Nat} {fd : Nat} {wd : Nat → Nat} {sm : Nat → Nat} {rc : Nat → Nat} {X : Nat → Option va_E} (hnn : n < 200) : Met l yX4_entry (wsO yX4_entry cX4_entry 1 (some .int)) ({ frames := 0, cells := 0, slots := 0, locals := 0 } : Room) (mPc D vwCl (tyA aC) lo ad (ctM aC ad n th sz sg me gr lk P co tb fd wd sm rc X) [.ref (ad 1000)]) (mD1 D vwCl lo (.int (nI (n + 1))) ad (ctM aC ad (n + 1) (va_up th (n + 1) true) sz sg me gr lk P co tb fd wd sm rc X)) 0 0 (fun q => lo ≤ q) := by
  refine Met.ofW (cc := cX4_entry) (maxL := 1) (ret := (some .int)) (by decide) rfl ?_
  intro pr en s0 mm args below meth cc0 s₁ B hml hv
  obtain ⟨rfl, hlo, hM, hKK⟩ := hv
  have hK := hKK.1
  have hr := B.returns
  have hts := atoms_spec (ws := (wsO yX4_entry cX4_entry 1 (some .int))) B.pre
  have F : CallFix pr mm cc0 cX4_entry 1 s0 (([.ref (ad 1000)] : List Value).toArray) (wsO yX4_entry cX4_entry 1 (some .int)) RX4 := ⟨B.exec, B.bytes, hml, findClass_of_methodNamed B.named, hts⟩
  have hx := F.1
  have hb := F.2.1
  have hlocks := B.notSynchronized
  have hS : va_S (fun q => lo ≤ q) s0.heap s0.heap [] := va_S.rf
  have hl := lv_entry ([.ref (ad 1000)]) (n := 1) (Nat.le_of_ble_eq_true rfl)
  rw [lg_entry_eq]
  generalize (lg_sl ([.ref (ad 1000)]) ++ List.replicate (1 - (lg_sl ([.ref (ad 1000)])).length) Slot.unset).toArray = ls at hl ⊢
  have hl : lv_has ls 1 [(0, .ref (ad 1000))] := hl
  refine lv_aload_n hx hb dX4_entry_0 rfl (lv_at hl 0 rfl) ?_
  refine m_get F (ci := 4) (v := .int (nI n)) (fun w h => tb_O (inX4 w h)) hK hM ctM_o rfl 0 (by decide) (tb_O lkX4_51) rfl dX4_entry_1 ?_
  refine lv_sipush (v := (nI 200)) hx hb dX4_entry_4 (by decide) ?_
  refine m_icmp_ne F (a := n) (b := 200) (by omega) (by omega) (tgt := 13) dX4_entry_7 (by decide) (fun c_7 => ?_) (fun c_7 => ?_)
  · skip
    refine lv_aload_n hx hb dX4_entry_13 rfl (lv_at hl 0 rfl) ?_
    refine lv_dup hx hb dX4_entry_14 rfl ?_
    refine m_get F (ci := 4) (v := .int (nI n)) (fun w h => tb_O (inX4 w h)) hK hM ctM_o rfl 0 (by decide) (tb_O lkX4_51) rfl dX4_entry_15 ?_
    refine lv_iconst (v := (nI 1)) hx hb dX4_entry_18 (by decide) ?_
    refine lv_iadd hx hb dX4_entry_19 ?_
    refine m_top (nI_add n 1) ?_
    refine m_put F (ci := 4) (v := .int (nI (n + 1))) (fun w h => tb_O (inX4 w h)) mc_X4 hK hM hS ctM_o 0 (by decide) (tb_O lkX4_51) rfl rfl rfl (Nat.le_of_ble_eq_true rfl) dX4_entry_20 (fun H locs hM hS => ?_)
    have hM : mw D vwCl lo ad (va_up (ctM aC ad n th sz sg me gr lk P co tb fd wd sm rc X) 1000 (some (.inr (4, [.int (nI (n + 1)), .ref (ad 1001), .ref (ad 1002), .ref (ad 1003), .ref (ad 1004), .ref (ad 1005), .int lk, .int (nI P), .ref (ad 1006), .ref (ad 1007), .int (nI fd), .ref (ad 1008), .ref (ad 1009), .ref (ad 1010)])))) H := hM
    have hM : mw D vwCl lo ad (ctM aC ad (n + 1) th sz sg me gr lk P co tb fd wd sm rc X) H := by rw [ctM_n] at hM; exact hM
    refine lv_aload_n hx hb dX4_entry_23 rfl (lv_at hl 0 rfl) ?_
    refine m_get F (ci := 4) (v := .ref (ad 1001)) (fun w h => tb_O (inX4 w h)) hK hM ctM_o rfl 1 (by decide) (tb_O lkX4_7) rfl dX4_entry_24 ?_
    refine lv_aload_n hx hb dX4_entry_27 rfl (lv_at hl 0 rfl) ?_
    refine m_get F (ci := 4) (v := .int (nI (n + 1))) (fun w h => tb_O (inX4 w h)) hK hM ctM_o rfl 0 (by decide) (tb_O lkX4_51) rfl dX4_entry_28 ?_
    refine lv_iconst (v := (nI 1)) hx hb dX4_entry_31 (by decide) ?_
    refine m_zast F hK hM hS 2 rfl (j := (n + 1)) (b := true) ctM_ath (by omega) (by decide) dX4_entry_32 (fun H locs hM hS => ?_)
    have hM : mw D vwCl lo ad (ctM aC ad (n + 1) (va_up th (n + 1) true) sz sg me gr lk P co tb fd wd sm rc X) H := by rw [upd_bI, ctM_th] at hM; exact hM
    refine lv_aload_n hx hb dX4_entry_33 rfl (lv_at hl 0 rfl) ?_
    refine m_get F (ci := 4) (v := .int (nI (n + 1))) (fun w h => tb_O (inX4 w h)) hK hM ctM_o rfl 0 (by decide) (tb_O lkX4_51) rfl dX4_entry_34 ?_
    exact W.iret hx hb hr (fun t ht hW => ⟨⟨_, _, _, rfl, ⟨rfl, rfl, rfl⟩, by rw [ht]; exact hM⟩, hS.F ht⟩) hS.2.2 dX4_entry_37
  · skip
    exact absurd c_7 (by omega)

set_option maxHeartbeats 4000000 in
set_option maxRecDepth 100000 in
theorem c_mLetterU (l : Launch) {D : va_G} {aC : Nat → ClassId} {lo : Nat} {ad : Nat → Nat} {n : Nat} {th : Nat → Bool} {sz : Nat → Nat} {sg : Nat → Nat} {me : Nat → Nat} {gr : Nat → Int32} {lk : Int32} {P : Nat} {co : Nat → Option Nat} {tb : Nat → Nat} {fd : Nat} {wd : Nat → Nat} {sm : Nat → Nat} {rc : Nat → Nat} {X : Nat → Option va_E} (x y : Int32) (hn0 : isE n th x = false) (h200 : n ≤ 200) : Met l yX4_letter (wsO yX4_letter cX4_letter 3 (some .int)) ({ frames := 2, cells := 0, slots := 0, locals := 43 } : Room) (mPc D vwCl (tyA aC) lo ad (ctM aC ad n th sz sg me gr lk P co tb fd wd sm rc X) [.ref (ad 1000), .int x, .int y]) (mD1 D vwCl lo (.int (-1)) ad (ctM aC ad n th sz sg me gr lk P co tb fd wd sm rc X)) 0 0 (fun q => lo ≤ q) := by
  refine Met.ofW (cc := cX4_letter) (maxL := 3) (ret := (some .int)) (by decide) rfl ?_
  intro pr en s0 mm args below meth cc0 s₁ B hml hv
  obtain ⟨rfl, hlo, hM, hKK⟩ := hv
  have hK := hKK.1
  have hr := B.returns
  have hts := atoms_spec (ws := (wsO yX4_letter cX4_letter 3 (some .int))) B.pre
  have F : CallFix pr mm cc0 cX4_letter 3 s0 (([.ref (ad 1000), .int x, .int y] : List Value).toArray) (wsO yX4_letter cX4_letter 3 (some .int)) RX4 := ⟨B.exec, B.bytes, hml, findClass_of_methodNamed B.named, hts⟩
  have hx := F.1
  have hb := F.2.1
  have hlocks := B.notSynchronized
  have hS : va_S (fun q => lo ≤ q) s0.heap s0.heap [] := va_S.rf
  have hl := lv_entry ([.ref (ad 1000), .int x, .int y]) (n := 3) (Nat.le_of_ble_eq_true rfl)
  rw [lg_entry_eq]
  generalize (lg_sl ([.ref (ad 1000), .int x, .int y]) ++ List.replicate (3 - (lg_sl ([.ref (ad 1000), .int x, .int y])).length) Slot.unset).toArray = ls at hl ⊢
  have hl : lv_has ls 3 [(0, .ref (ad 1000)), (1, .int x), (2, .int y)] := hl
  refine lv_aload_n hx hb dX4_letter_0 rfl (lv_at hl 0 rfl) ?_
  refine lv_iload_n hx hb dX4_letter_1 rfl (lv_at hl 1 rfl) ?_
  refine m_d1 (v := .int (bI (isE n th x))) (ct1 := ctM aC ad n th sz sg me gr lk P co tb fd wd sm rc X) (va_runV (As := [.int x]) (rest := []) F (c_mIsE l x h200) (cwV 1 F.2.2.2.2 (go_V (fun _ h => tb_O h) mlX4_58 imX4_isEntry seX4_isEntry iniX4 cdX4_isEntry) rfl rfl rfl (by decide +kernel) ⟨Nat.le_of_ble_eq_true rfl, Nat.le_of_ble_eq_true rfl⟩) (mPreV hKK hM (Nat.le_trans hlo hS.1) ctM_o rfl) rfl rfl hl.1 rfl (lv_room (Nat.le_of_ble_eq_true rfl)) dX4_letter_2 ⟨Nat.le_of_ble_eq_true rfl, Nat.le_of_ble_eq_true rfl⟩) hS (fun H locs hM hS => ?_)
  refine lv_if_ne (tgt := 10) hx hb dX4_letter_5 (by decide) (fun c_5 => ?_) (fun c_5 => ?_)
  · skip
    exact absurd (by rw [hn0]; rfl) c_5
  · skip
    refine lv_iconst (v := (-1)) hx hb dX4_letter_8 (by decide) ?_
    exact W.iret hx hb hr (fun t ht hW => ⟨⟨_, _, _, rfl, ⟨rfl, rfl, rfl⟩, by rw [ht]; exact hM⟩, hS.F ht⟩) hS.2.2 dX4_letter_9

set_option maxHeartbeats 4000000 in
set_option maxRecDepth 100000 in
theorem c_mLetterO (l : Launch) {D : va_G} {aC : Nat → ClassId} {lo : Nat} {ad : Nat → Nat} {n : Nat} {th : Nat → Bool} {sz : Nat → Nat} {sg : Nat → Nat} {me : Nat → Nat} {gr : Nat → Int32} {lk : Int32} {P : Nat} {co : Nat → Option Nat} {tb : Nat → Nat} {fd : Nat} {wd : Nat → Nat} {sm : Nat → Nat} {rc : Nat → Nat} {X : Nat → Option va_E} (j : Nat) (y : Int32) (hj1 : 1 ≤ j) (hj2 : j ≤ n) (h200 : n ≤ 200) (ht : th j = true) (hy : isSg y = false) : Met l yX4_letter (wsO yX4_letter cX4_letter 3 (some .int)) ({ frames := 2, cells := 0, slots := 0, locals := 43 } : Room) (mPc D vwCl (tyA aC) lo ad (ctM aC ad n th sz sg me gr lk P co tb fd wd sm rc X) [.ref (ad 1000), .int (nI j), .int y]) (mD1 D vwCl lo (.int (-2)) ad (ctM aC ad n th sz sg me gr lk P co tb fd wd sm rc X)) 0 0 (fun q => lo ≤ q) := by
  refine Met.ofW (cc := cX4_letter) (maxL := 3) (ret := (some .int)) (by decide) rfl ?_
  intro pr en s0 mm args below meth cc0 s₁ B hml hv
  obtain ⟨rfl, hlo, hM, hKK⟩ := hv
  have hK := hKK.1
  have hr := B.returns
  have hts := atoms_spec (ws := (wsO yX4_letter cX4_letter 3 (some .int))) B.pre
  have F : CallFix pr mm cc0 cX4_letter 3 s0 (([.ref (ad 1000), .int (nI j), .int y] : List Value).toArray) (wsO yX4_letter cX4_letter 3 (some .int)) RX4 := ⟨B.exec, B.bytes, hml, findClass_of_methodNamed B.named, hts⟩
  have hx := F.1
  have hb := F.2.1
  have hlocks := B.notSynchronized
  have hS : va_S (fun q => lo ≤ q) s0.heap s0.heap [] := va_S.rf
  have hl := lv_entry ([.ref (ad 1000), .int (nI j), .int y]) (n := 3) (Nat.le_of_ble_eq_true rfl)
  rw [lg_entry_eq]
  generalize (lg_sl ([.ref (ad 1000), .int (nI j), .int y]) ++ List.replicate (3 - (lg_sl ([.ref (ad 1000), .int (nI j), .int y])).length) Slot.unset).toArray = ls at hl ⊢
  have hl : lv_has ls 3 [(0, .ref (ad 1000)), (1, .int (nI j)), (2, .int y)] := hl
  refine lv_aload_n hx hb dX4_letter_0 rfl (lv_at hl 0 rfl) ?_
  refine lv_iload_n hx hb dX4_letter_1 rfl (lv_at hl 1 rfl) ?_
  refine m_d1 (v := .int (bI (isE n th (nI j)))) (ct1 := ctM aC ad n th sz sg me gr lk P co tb fd wd sm rc X) (va_runV (As := [.int (nI j)]) (rest := []) F (c_mIsE l (nI j) h200) (cwV 1 F.2.2.2.2 (go_V (fun _ h => tb_O h) mlX4_58 imX4_isEntry seX4_isEntry iniX4 cdX4_isEntry) rfl rfl rfl (by decide +kernel) ⟨Nat.le_of_ble_eq_true rfl, Nat.le_of_ble_eq_true rfl⟩) (mPreV hKK hM (Nat.le_trans hlo hS.1) ctM_o rfl) rfl rfl hl.1 rfl (lv_room (Nat.le_of_ble_eq_true rfl)) dX4_letter_2 ⟨Nat.le_of_ble_eq_true rfl, Nat.le_of_ble_eq_true rfl⟩) hS (fun H locs hM hS => ?_)
  refine lv_if_ne (tgt := 10) hx hb dX4_letter_5 (by decide) (fun c_5 => ?_) (fun c_5 => ?_)
  · skip
    refine lv_iload_n hx hb dX4_letter_10 rfl (lv_at hl 2 rfl) ?_
    refine lv_bipush (v := (nI 33)) hx hb dX4_letter_11 (by decide) ?_
    refine lv_bipush (v := (nI 126)) hx hb dX4_letter_13 (by decide) ?_
    refine m_d1 (v := .int (bI (btw y (nI 33) (nI 126)))) (ct1 := ctM aC ad n th sz sg me gr lk P co tb fd wd sm rc X) (va_runS (As := [.int y, .int (nI 33), .int (nI 126)]) (rest := []) F (c_between l y (nI 33) (nI 126)) (va_cwS 3 F.2.2.2.2 (go_S (fun _ h => tb_O h) mlX4_54 stX4_between iniX4 cdX4_between) rfl rfl rfl (by decide +kernel) ⟨Nat.le_of_ble_eq_true rfl, Nat.le_of_ble_eq_true rfl⟩) (mPreS hKK hM (Nat.le_trans hlo hS.1)) rfl rfl hl.1 rfl (lv_room (Nat.le_of_ble_eq_true rfl)) dX4_letter_15 ⟨Nat.le_of_ble_eq_true rfl, Nat.le_of_ble_eq_true rfl⟩) hS (fun H locs hM hS => ?_)
    refine lv_if_ne (tgt := 24) hx hb dX4_letter_18 (by decide) (fun c_18 => ?_) (fun c_18 => ?_)
    · skip
      exact absurd (by rw [show btw y (nI 33) (nI 126) = isSg y from rfl, hy]; rfl) c_18
    · skip
      refine lv_bipush (v := (-2)) hx hb dX4_letter_21 (by decide) ?_
      exact W.iret hx hb hr (fun t ht hW => ⟨⟨_, _, _, rfl, ⟨rfl, rfl, rfl⟩, by rw [ht]; exact hM⟩, hS.F ht⟩) hS.2.2 dX4_letter_23
  · skip
    exact absurd (by rw [isE_nI hj1 hj2 h200, ht]; decide) (fun h : ¬ bI (isE n th (nI j)) = 0 => h c_5)

set_option maxHeartbeats 4000000 in
set_option maxRecDepth 100000 in
theorem c_mLetterR (l : Launch) {D : va_G} {aC : Nat → ClassId} {lo : Nat} {ad : Nat → Nat} {n : Nat} {th : Nat → Bool} {sz : Nat → Nat} {sg : Nat → Nat} {me : Nat → Nat} {gr : Nat → Int32} {lk : Int32} {P : Nat} {co : Nat → Option Nat} {tb : Nat → Nat} {fd : Nat} {wd : Nat → Nat} {sm : Nat → Nat} {rc : Nat → Nat} {X : Nat → Option va_E} (j q : Nat) (hj1 : 1 ≤ j) (hj2 : j ≤ n) (h200 : n ≤ 200) (ht : th j = true) (hq1 : 33 ≤ q) (hq2 : q ≤ 126) (hsz : ∀ k, sz k ≤ 20) (hl20 : sz j = 20) : Met l yX4_letter (wsO yX4_letter cX4_letter 3 (some .int)) ({ frames := 2, cells := 0, slots := 0, locals := 43 } : Room) (mPc D vwCl (tyA aC) lo ad (ctM aC ad n th sz sg me gr lk P co tb fd wd sm rc X) [.ref (ad 1000), .int (nI j), .int (nI q)]) (mD1 D vwCl lo (.int (-4)) ad (ctM aC ad n th sz sg me gr lk P co tb fd wd sm rc X)) 0 0 (fun q => lo ≤ q) := by
  refine Met.ofW (cc := cX4_letter) (maxL := 3) (ret := (some .int)) (by decide) rfl ?_
  intro pr en s0 mm args below meth cc0 s₁ B hml hv
  obtain ⟨rfl, hlo, hM, hKK⟩ := hv
  have hK := hKK.1
  have hr := B.returns
  have hts := atoms_spec (ws := (wsO yX4_letter cX4_letter 3 (some .int))) B.pre
  have F : CallFix pr mm cc0 cX4_letter 3 s0 (([.ref (ad 1000), .int (nI j), .int (nI q)] : List Value).toArray) (wsO yX4_letter cX4_letter 3 (some .int)) RX4 := ⟨B.exec, B.bytes, hml, findClass_of_methodNamed B.named, hts⟩
  have hx := F.1
  have hb := F.2.1
  have hlocks := B.notSynchronized
  have hS : va_S (fun q => lo ≤ q) s0.heap s0.heap [] := va_S.rf
  have hl := lv_entry ([.ref (ad 1000), .int (nI j), .int (nI q)]) (n := 3) (Nat.le_of_ble_eq_true rfl)
  rw [lg_entry_eq]
  generalize (lg_sl ([.ref (ad 1000), .int (nI j), .int (nI q)]) ++ List.replicate (3 - (lg_sl ([.ref (ad 1000), .int (nI j), .int (nI q)])).length) Slot.unset).toArray = ls at hl ⊢
  have hl : lv_has ls 3 [(0, .ref (ad 1000)), (1, .int (nI j)), (2, .int (nI q))] := hl
  refine lv_aload_n hx hb dX4_letter_0 rfl (lv_at hl 0 rfl) ?_
  refine lv_iload_n hx hb dX4_letter_1 rfl (lv_at hl 1 rfl) ?_
  refine m_d1 (v := .int (bI (isE n th (nI j)))) (ct1 := ctM aC ad n th sz sg me gr lk P co tb fd wd sm rc X) (va_runV (As := [.int (nI j)]) (rest := []) F (c_mIsE l (nI j) h200) (cwV 1 F.2.2.2.2 (go_V (fun _ h => tb_O h) mlX4_58 imX4_isEntry seX4_isEntry iniX4 cdX4_isEntry) rfl rfl rfl (by decide +kernel) ⟨Nat.le_of_ble_eq_true rfl, Nat.le_of_ble_eq_true rfl⟩) (mPreV hKK hM (Nat.le_trans hlo hS.1) ctM_o rfl) rfl rfl hl.1 rfl (lv_room (Nat.le_of_ble_eq_true rfl)) dX4_letter_2 ⟨Nat.le_of_ble_eq_true rfl, Nat.le_of_ble_eq_true rfl⟩) hS (fun H locs hM hS => ?_)
  refine lv_if_ne (tgt := 10) hx hb dX4_letter_5 (by decide) (fun c_5 => ?_) (fun c_5 => ?_)
  · skip
    refine lv_iload_n hx hb dX4_letter_10 rfl (lv_at hl 2 rfl) ?_
    refine lv_bipush (v := (nI 33)) hx hb dX4_letter_11 (by decide) ?_
    refine lv_bipush (v := (nI 126)) hx hb dX4_letter_13 (by decide) ?_
    refine m_d1 (v := .int (bI (btw (nI q) (nI 33) (nI 126)))) (ct1 := ctM aC ad n th sz sg me gr lk P co tb fd wd sm rc X) (va_runS (As := [.int (nI q), .int (nI 33), .int (nI 126)]) (rest := []) F (c_between l (nI q) (nI 33) (nI 126)) (va_cwS 3 F.2.2.2.2 (go_S (fun _ h => tb_O h) mlX4_54 stX4_between iniX4 cdX4_between) rfl rfl rfl (by decide +kernel) ⟨Nat.le_of_ble_eq_true rfl, Nat.le_of_ble_eq_true rfl⟩) (mPreS hKK hM (Nat.le_trans hlo hS.1)) rfl rfl hl.1 rfl (lv_room (Nat.le_of_ble_eq_true rfl)) dX4_letter_15 ⟨Nat.le_of_ble_eq_true rfl, Nat.le_of_ble_eq_true rfl⟩) hS (fun H locs hM hS => ?_)
    refine lv_if_ne (tgt := 24) hx hb dX4_letter_18 (by decide) (fun c_18 => ?_) (fun c_18 => ?_)
    · skip
      refine lv_aload_n hx hb dX4_letter_24 rfl (lv_at hl 0 rfl) ?_
      refine m_get F (ci := 4) (v := .ref (ad 1002)) (fun w h => tb_O (inX4 w h)) hK hM ctM_o rfl 2 (by decide) (tb_O lkX4_13) rfl dX4_letter_25 ?_
      refine lv_iload_n hx hb dX4_letter_28 rfl (lv_at hl 1 rfl) ?_
      refine m_iald F hK hM 0 rfl (j := j) ctM_asz (by omega) (by decide) dX4_letter_29 ?_
      refine m_top (y := (nI (sz j))) rfl ?_
      refine lv_bipush (v := (nI 20)) hx hb dX4_letter_30 (by decide) ?_
      refine m_icmp_ne F (a := (sz j)) (b := 20) (by omega) (by omega) (tgt := 38) dX4_letter_32 (by decide) (fun c_32 => ?_) (fun c_32 => ?_)
      · skip
        exact absurd hl20 c_32
      · skip
        refine lv_bipush (v := (-4)) hx hb dX4_letter_35 (by decide) ?_
        exact W.iret hx hb hr (fun t ht hW => ⟨⟨_, _, _, rfl, ⟨rfl, rfl, rfl⟩, by rw [ht]; exact hM⟩, hS.F ht⟩) hS.2.2 dX4_letter_37
    · skip
      exact absurd (by rw [btw_nI hq1 hq2 (by omega)]; decide) (fun h : ¬ bI (btw (nI q) (nI 33) (nI 126)) = 0 => h c_18)
  · skip
    exact absurd (by rw [isE_nI hj1 hj2 h200, ht]; decide) (fun h : ¬ bI (isE n th (nI j)) = 0 => h c_5)

set_option maxHeartbeats 4000000 in
set_option maxRecDepth 100000 in
theorem c_mLetter (l : Launch) {D : va_G} {aC : Nat → ClassId} {lo : Nat} {ad : Nat → Nat} {n : Nat} {th : Nat → Bool} {sz : Nat → Nat} {sg : Nat → Nat} {me : Nat → Nat} {gr : Nat → Int32} {lk : Int32} {P : Nat} {co : Nat → Option Nat} {tb : Nat → Nat} {fd : Nat} {wd : Nat → Nat} {sm : Nat → Nat} {rc : Nat → Nat} {X : Nat → Option va_E} (j q : Nat) (hj1 : 1 ≤ j) (hj2 : j ≤ n) (h200 : n ≤ 200) (ht : th j = true) (hq1 : 33 ≤ q) (hq2 : q ≤ 126) (hsz : ∀ k, sz k ≤ 20) (hl20 : sz j < 20) : Met l yX4_letter (wsO yX4_letter cX4_letter 3 (some .int)) ({ frames := 2, cells := 0, slots := 0, locals := 43 } : Room) (mPc D vwCl (tyA aC) lo ad (ctM aC ad n th sz sg me gr lk P co tb fd wd sm rc X) [.ref (ad 1000), .int (nI j), .int (nI q)]) (mD1 D vwCl lo (.int (nI (sz j + 1))) ad (ctM aC ad n th (un sz j (sz j + 1)) (un sg (20 * j + sz j) q) me gr lk P co tb fd wd sm rc X)) 0 0 (fun q => lo ≤ q) := by
  refine Met.ofW (cc := cX4_letter) (maxL := 3) (ret := (some .int)) (by decide) rfl ?_
  intro pr en s0 mm args below meth cc0 s₁ B hml hv
  obtain ⟨rfl, hlo, hM, hKK⟩ := hv
  have hK := hKK.1
  have hr := B.returns
  have hts := atoms_spec (ws := (wsO yX4_letter cX4_letter 3 (some .int))) B.pre
  have F : CallFix pr mm cc0 cX4_letter 3 s0 (([.ref (ad 1000), .int (nI j), .int (nI q)] : List Value).toArray) (wsO yX4_letter cX4_letter 3 (some .int)) RX4 := ⟨B.exec, B.bytes, hml, findClass_of_methodNamed B.named, hts⟩
  have hx := F.1
  have hb := F.2.1
  have hlocks := B.notSynchronized
  have hS : va_S (fun q => lo ≤ q) s0.heap s0.heap [] := va_S.rf
  have hl := lv_entry ([.ref (ad 1000), .int (nI j), .int (nI q)]) (n := 3) (Nat.le_of_ble_eq_true rfl)
  rw [lg_entry_eq]
  generalize (lg_sl ([.ref (ad 1000), .int (nI j), .int (nI q)]) ++ List.replicate (3 - (lg_sl ([.ref (ad 1000), .int (nI j), .int (nI q)])).length) Slot.unset).toArray = ls at hl ⊢
  have hl : lv_has ls 3 [(0, .ref (ad 1000)), (1, .int (nI j)), (2, .int (nI q))] := hl
  refine lv_aload_n hx hb dX4_letter_0 rfl (lv_at hl 0 rfl) ?_
  refine lv_iload_n hx hb dX4_letter_1 rfl (lv_at hl 1 rfl) ?_
  refine m_d1 (v := .int (bI (isE n th (nI j)))) (ct1 := ctM aC ad n th sz sg me gr lk P co tb fd wd sm rc X) (va_runV (As := [.int (nI j)]) (rest := []) F (c_mIsE l (nI j) h200) (cwV 1 F.2.2.2.2 (go_V (fun _ h => tb_O h) mlX4_58 imX4_isEntry seX4_isEntry iniX4 cdX4_isEntry) rfl rfl rfl (by decide +kernel) ⟨Nat.le_of_ble_eq_true rfl, Nat.le_of_ble_eq_true rfl⟩) (mPreV hKK hM (Nat.le_trans hlo hS.1) ctM_o rfl) rfl rfl hl.1 rfl (lv_room (Nat.le_of_ble_eq_true rfl)) dX4_letter_2 ⟨Nat.le_of_ble_eq_true rfl, Nat.le_of_ble_eq_true rfl⟩) hS (fun H locs hM hS => ?_)
  refine lv_if_ne (tgt := 10) hx hb dX4_letter_5 (by decide) (fun c_5 => ?_) (fun c_5 => ?_)
  · skip
    refine lv_iload_n hx hb dX4_letter_10 rfl (lv_at hl 2 rfl) ?_
    refine lv_bipush (v := (nI 33)) hx hb dX4_letter_11 (by decide) ?_
    refine lv_bipush (v := (nI 126)) hx hb dX4_letter_13 (by decide) ?_
    refine m_d1 (v := .int (bI (btw (nI q) (nI 33) (nI 126)))) (ct1 := ctM aC ad n th sz sg me gr lk P co tb fd wd sm rc X) (va_runS (As := [.int (nI q), .int (nI 33), .int (nI 126)]) (rest := []) F (c_between l (nI q) (nI 33) (nI 126)) (va_cwS 3 F.2.2.2.2 (go_S (fun _ h => tb_O h) mlX4_54 stX4_between iniX4 cdX4_between) rfl rfl rfl (by decide +kernel) ⟨Nat.le_of_ble_eq_true rfl, Nat.le_of_ble_eq_true rfl⟩) (mPreS hKK hM (Nat.le_trans hlo hS.1)) rfl rfl hl.1 rfl (lv_room (Nat.le_of_ble_eq_true rfl)) dX4_letter_15 ⟨Nat.le_of_ble_eq_true rfl, Nat.le_of_ble_eq_true rfl⟩) hS (fun H locs hM hS => ?_)
    refine lv_if_ne (tgt := 24) hx hb dX4_letter_18 (by decide) (fun c_18 => ?_) (fun c_18 => ?_)
    · skip
      refine lv_aload_n hx hb dX4_letter_24 rfl (lv_at hl 0 rfl) ?_
      refine m_get F (ci := 4) (v := .ref (ad 1002)) (fun w h => tb_O (inX4 w h)) hK hM ctM_o rfl 2 (by decide) (tb_O lkX4_13) rfl dX4_letter_25 ?_
      refine lv_iload_n hx hb dX4_letter_28 rfl (lv_at hl 1 rfl) ?_
      refine m_iald F hK hM 0 rfl (j := j) ctM_asz (by omega) (by decide) dX4_letter_29 ?_
      refine m_top (y := (nI (sz j))) rfl ?_
      refine lv_bipush (v := (nI 20)) hx hb dX4_letter_30 (by decide) ?_
      refine m_icmp_ne F (a := (sz j)) (b := 20) (by omega) (by omega) (tgt := 38) dX4_letter_32 (by decide) (fun c_32 => ?_) (fun c_32 => ?_)
      · skip
        refine lv_aload_n hx hb dX4_letter_38 rfl (lv_at hl 0 rfl) ?_
        refine m_get F (ci := 4) (v := .ref (ad 1003)) (fun w h => tb_O (inX4 w h)) hK hM ctM_o rfl 3 (by decide) (tb_O lkX4_17) rfl dX4_letter_39 ?_
        refine lv_bipush (v := (nI 20)) hx hb dX4_letter_42 (by decide) ?_
        refine lv_iload_n hx hb dX4_letter_44 rfl (lv_at hl 1 rfl) ?_
        refine lv_imul hx hb dX4_letter_45 ?_
        refine m_top (pk_mul 20 j) ?_
        refine lv_aload_n hx hb dX4_letter_46 rfl (lv_at hl 0 rfl) ?_
        refine m_get F (ci := 4) (v := .ref (ad 1002)) (fun w h => tb_O (inX4 w h)) hK hM ctM_o rfl 2 (by decide) (tb_O lkX4_13) rfl dX4_letter_47 ?_
        refine lv_iload_n hx hb dX4_letter_50 rfl (lv_at hl 1 rfl) ?_
        refine m_iald F hK hM 0 rfl (j := j) ctM_asz (by omega) (by decide) dX4_letter_51 ?_
        refine m_top (y := (nI (sz j))) rfl ?_
        refine lv_iadd hx hb dX4_letter_52 ?_
        refine m_top (nI_add (20 * j) (sz j)) ?_
        refine lv_iload_n hx hb dX4_letter_53 rfl (lv_at hl 2 rfl) ?_
        refine m_iast F hK hM hS 0 rfl (j := (20 * j + (sz j))) (x := (nI q)) ctM_asg (by omega) (by decide) dX4_letter_54 (fun H locs hM hS => ?_)
        have hM : mw D vwCl lo ad (ctM aC ad n th sz (un sg (20 * j + (sz j)) q) me gr lk P co tb fd wd sm rc X) H := by rw [upd_nI, ctM_sg] at hM; exact hM
        refine lv_aload_n hx hb dX4_letter_55 rfl (lv_at hl 0 rfl) ?_
        refine m_get F (ci := 4) (v := .ref (ad 1002)) (fun w h => tb_O (inX4 w h)) hK hM ctM_o rfl 2 (by decide) (tb_O lkX4_13) rfl dX4_letter_56 ?_
        refine lv_iload_n hx hb dX4_letter_59 rfl (lv_at hl 1 rfl) ?_
        refine lv_dup2_11 hx hb dX4_letter_60 rfl rfl ?_
        refine m_iald F hK hM 0 rfl (j := j) ctM_asz (by omega) (by decide) dX4_letter_61 ?_
        refine m_top (y := (nI (sz j))) rfl ?_
        refine lv_iconst (v := (nI 1)) hx hb dX4_letter_62 (by decide) ?_
        refine lv_iadd hx hb dX4_letter_63 ?_
        refine m_top (nI_add (sz j) 1) ?_
        refine m_iast F hK hM hS 0 rfl (j := j) (x := (nI (sz j + 1))) ctM_asz (by omega) (by decide) dX4_letter_64 (fun H locs hM hS => ?_)
        have hM : mw D vwCl lo ad (ctM aC ad n th (un sz j (sz j + 1)) (un sg (20 * j + (sz j)) q) me gr lk P co tb fd wd sm rc X) H := by rw [upd_nI, ctM_sz] at hM; exact hM
        refine lv_aload_n hx hb dX4_letter_65 rfl (lv_at hl 0 rfl) ?_
        refine m_get F (ci := 4) (v := .ref (ad 1002)) (fun w h => tb_O (inX4 w h)) hK hM ctM_o rfl 2 (by decide) (tb_O lkX4_13) rfl dX4_letter_66 ?_
        refine lv_iload_n hx hb dX4_letter_69 rfl (lv_at hl 1 rfl) ?_
        refine m_iald F hK hM 0 rfl (j := j) ctM_asz (by omega) (by decide) dX4_letter_70 ?_
        refine m_top (y := (nI (sz j + 1))) (congrArg nI (va_up_self _ _ _)) ?_
        exact W.iret hx hb hr (fun t ht hW => ⟨⟨_, _, _, rfl, ⟨rfl, rfl, rfl⟩, by rw [ht]; exact hM⟩, hS.F ht⟩) hS.2.2 dX4_letter_71
      · skip
        exact absurd c_32 (by omega)
    · skip
      exact absurd (by rw [btw_nI hq1 hq2 (by omega)]; decide) (fun h : ¬ bI (btw (nI q) (nI 33) (nI 126)) = 0 => h c_18)
  · skip
    exact absurd (by rw [isE_nI hj1 hj2 h200, ht]; decide) (fun h : ¬ bI (isE n th (nI j)) = 0 => h c_5)

set_option maxHeartbeats 4000000 in
set_option maxRecDepth 100000 in
theorem c_mCount (l : Launch) {D : va_G} {aC : Nat → ClassId} {lo : Nat} {ad : Nat → Nat} {n : Nat} {th : Nat → Bool} {sz : Nat → Nat} {sg : Nat → Nat} {me : Nat → Nat} {gr : Nat → Int32} {lk : Int32} {P : Nat} {co : Nat → Option Nat} {tb : Nat → Nat} {fd : Nat} {wd : Nat → Nat} {sm : Nat → Nat} {rc : Nat → Nat} {X : Nat → Option va_E} (h200 : n ≤ 200) : Met l yX4_count (wsO yX4_count cX4_count 3 (some .int)) ({ frames := 0, cells := 0, slots := 0, locals := 0 } : Room) (mPc D vwCl (tyA aC) lo ad (ctM aC ad n th sz sg me gr lk P co tb fd wd sm rc X) [.ref (ad 1000)]) (mD1 D vwCl lo (.int (nI (cnt (th) n))) ad (ctM aC ad n th sz sg me gr lk P co tb fd wd sm rc X)) 0 0 (fun q => lo ≤ q) := by
  refine Met.ofW (cc := cX4_count) (maxL := 3) (ret := (some .int)) (by decide) rfl ?_
  intro pr en s0 mm args below meth cc0 s₁ B hml hv
  obtain ⟨rfl, hlo, hM, hKK⟩ := hv
  have hK := hKK.1
  have hr := B.returns
  have hts := atoms_spec (ws := (wsO yX4_count cX4_count 3 (some .int))) B.pre
  have F : CallFix pr mm cc0 cX4_count 3 s0 (([.ref (ad 1000)] : List Value).toArray) (wsO yX4_count cX4_count 3 (some .int)) RX4 := ⟨B.exec, B.bytes, hml, findClass_of_methodNamed B.named, hts⟩
  have hx := F.1
  have hb := F.2.1
  have hlocks := B.notSynchronized
  have hS : va_S (fun q => lo ≤ q) s0.heap s0.heap [] := va_S.rf
  have hl := lv_entry ([.ref (ad 1000)]) (n := 3) (Nat.le_of_ble_eq_true rfl)
  rw [lg_entry_eq]
  generalize (lg_sl ([.ref (ad 1000)]) ++ List.replicate (3 - (lg_sl ([.ref (ad 1000)])).length) Slot.unset).toArray = ls at hl ⊢
  have hl : lv_has ls 3 [(0, .ref (ad 1000))] := hl
  have loop_4 : ∀ (fu : Nat) (i : Nat), (i ≤ n) → n + 1 - i ≤ fu → ∀ (H : Heap) (locs : List Loc) (ls : Array Slot), mw D vwCl lo ad (ctM aC ad n th sz sg me gr lk P co tb fd wd sm rc X) H → va_S (fun q => lo ≤ q) s0.heap H locs → lv_has ls 3 [(0, .ref (ad 1000)), (1, .int (nI (cnt (th) i))), (2, .int (nI (i + 1)))] → W pr l en (headSpec (wsO yX4_count cX4_count 3 (some .int)) ({ frames := 0, cells := 0, slots := 0, locals := 0 } : Room)).room s0 mm (([.ref (ad 1000)] : List Value).toArray) below meth cc0 H locs 0 0 (MQ below (mD1 D vwCl lo (.int (nI (cnt (th) n))) ad (ctM aC ad n th sz sg me gr lk P co tb fd wd sm rc X)) (([.ref (ad 1000)] : List Value).toArray) s0 0 0 (fun q => lo ≤ q)) (F0 mm 4 ls []) := by
    intro fu
    induction fu with
    | zero =>
      intro i hi hfu H locs ls hM hS hl
      exact absurd hfu (by omega)
    | succ fu ih_4 =>
      intro i hi hfu H locs ls hM hS hl
      have hcl := cnt_le (th) i
      refine lv_iload_n hx hb dX4_count_4 rfl (lv_at hl 2 rfl) ?_
      refine lv_aload_n hx hb dX4_count_5 rfl (lv_at hl 0 rfl) ?_
      refine m_get F (ci := 4) (v := .int (nI n)) (fun w h => tb_O (inX4 w h)) hK hM ctM_o rfl 0 (by decide) (tb_O lkX4_51) rfl dX4_count_6 ?_
      refine m_icmp_gt F (a := (i + 1)) (b := n) (by omega) (by omega) (tgt := 35) dX4_count_9 (by decide) (fun c_9 => ?_) (fun c_9 => ?_)
      · skip
        have hin9 : n = i := by omega
        subst hin9
        refine lv_iload_n hx hb dX4_count_35 rfl (lv_at hl 1 rfl) ?_
        exact W.iret hx hb hr (fun t ht hW => ⟨⟨_, _, _, rfl, ⟨rfl, rfl, rfl⟩, by rw [ht]; exact hM⟩, hS.F ht⟩) hS.2.2 dX4_count_36
      · skip
        refine lv_aload_n hx hb dX4_count_12 rfl (lv_at hl 0 rfl) ?_
        refine m_get F (ci := 4) (v := .ref (ad 1001)) (fun w h => tb_O (inX4 w h)) hK hM ctM_o rfl 1 (by decide) (tb_O lkX4_7) rfl dX4_count_13 ?_
        refine lv_iload_n hx hb dX4_count_16 rfl (lv_at hl 2 rfl) ?_
        refine m_zald F hK hM 2 rfl (j := (i + 1)) ctM_ath (by omega) (by decide) dX4_count_17 ?_
        refine m_top (y := (bI (th (i + 1)))) rfl ?_
        refine lv_if_eq (tgt := 27) hx hb dX4_count_18 (by decide) (fun c_18 => ?_) (fun c_18 => ?_)
        · skip
          refine lv_iload_n hx hb dX4_count_27 rfl (lv_at hl 1 rfl) ?_
          refine lv_istore_n (lv' := [(1, .int (nI (cnt (th) i))), (0, .ref (ad 1000)), (2, .int (nI (i + 1)))]) hx hb dX4_count_28 rfl hl (by decide) rfl (fun ls hl => ?_)
          refine lv_iinc (v := (nI (i + 1 + 1))) (lv' := [(2, .int (nI (i + 1 + 1))), (1, .int (nI (cnt (th) i))), (0, .ref (ad 1000))]) hx hb dX4_count_29 hl (k := 2) rfl (nI_1 (i + 1)) (by decide) rfl (fun ls hl => ?_)
          refine lv_goto (tgt := 4) hx hb dX4_count_32 (by decide) ?_
          have hcn : cnt (th) (i + 1) = cnt (th) i := by show cnt (th) i + _ = _; rw [if_neg (by rw [bI_eq c_18]; decide)]; rfl
          rw [← hcn] at hl
          exact ih_4 (i + 1) (by omega) (by omega) _ _ _ hM hS (lv_sub hl [2, 1, 0] rfl)
        · skip
          refine lv_iload_n hx hb dX4_count_21 rfl (lv_at hl 1 rfl) ?_
          refine lv_iconst (v := (nI 1)) hx hb dX4_count_22 (by decide) ?_
          refine lv_iadd hx hb dX4_count_23 ?_
          refine m_top (nI_add (cnt (th) i) 1) ?_
          refine lv_goto (tgt := 28) hx hb dX4_count_24 (by decide) ?_
          refine lv_istore_n (lv' := [(1, .int (nI (cnt (th) i + 1))), (0, .ref (ad 1000)), (2, .int (nI (i + 1)))]) hx hb dX4_count_28 rfl hl (by decide) rfl (fun ls hl => ?_)
          refine lv_iinc (v := (nI (i + 1 + 1))) (lv' := [(2, .int (nI (i + 1 + 1))), (1, .int (nI (cnt (th) i + 1))), (0, .ref (ad 1000))]) hx hb dX4_count_29 hl (k := 2) rfl (nI_1 (i + 1)) (by decide) rfl (fun ls hl => ?_)
          refine lv_goto (tgt := 4) hx hb dX4_count_32 (by decide) ?_
          have hcn : cnt (th) (i + 1) = cnt (th) i + 1 := by show cnt (th) i + _ = _; rw [if_pos (bI_ne c_18)]
          rw [← hcn] at hl
          exact ih_4 (i + 1) (by omega) (by omega) _ _ _ hM hS (lv_sub hl [2, 1, 0] rfl)
  refine lv_iconst (v := (nI 0)) hx hb dX4_count_0 (by decide) ?_
  refine lv_istore_n (lv' := [(1, .int (nI 0)), (0, .ref (ad 1000))]) hx hb dX4_count_1 rfl hl (by decide) rfl (fun ls hl => ?_)
  refine lv_iconst (v := (nI 1)) hx hb dX4_count_2 (by decide) ?_
  refine lv_istore_n (lv' := [(2, .int (nI 1)), (1, .int (nI 0)), (0, .ref (ad 1000))]) hx hb dX4_count_3 rfl hl (by decide) rfl (fun ls hl => ?_)
  exact loop_4 (n + 1) 0 (Nat.zero_le _) (by omega) _ _ _ hM hS (lv_sub hl [2, 1, 0] rfl)

set_option maxHeartbeats 4000000 in
set_option maxRecDepth 100000 in
theorem c_mDropU (l : Launch) {D : va_G} {aC : Nat → ClassId} {lo : Nat} {ad : Nat → Nat} {n : Nat} {th : Nat → Bool} {sz : Nat → Nat} {sg : Nat → Nat} {me : Nat → Nat} {gr : Nat → Int32} {lk : Int32} {P : Nat} {co : Nat → Option Nat} {tb : Nat → Nat} {fd : Nat} {wd : Nat → Nat} {sm : Nat → Nat} {rc : Nat → Nat} {X : Nat → Option va_E} (x : Int32) (hn0 : isE n th x = false) (h200 : n ≤ 200) : Met l yX4_drop (wsO yX4_drop cX4_drop 3 (some .int)) ({ frames := 2, cells := 0, slots := 0, locals := 43 } : Room) (mPc D vwCl (tyA aC) lo ad (ctM aC ad n th sz sg me gr lk P co tb fd wd sm rc X) [.ref (ad 1000), .int x]) (mD1 D vwCl lo (.int (-1)) ad (ctM aC ad n th sz sg me gr lk P co tb fd wd sm rc X)) 0 0 (fun q => lo ≤ q) := by
  refine Met.ofW (cc := cX4_drop) (maxL := 3) (ret := (some .int)) (by decide) rfl ?_
  intro pr en s0 mm args below meth cc0 s₁ B hml hv
  obtain ⟨rfl, hlo, hM, hKK⟩ := hv
  have hK := hKK.1
  have hr := B.returns
  have hts := atoms_spec (ws := (wsO yX4_drop cX4_drop 3 (some .int))) B.pre
  have F : CallFix pr mm cc0 cX4_drop 3 s0 (([.ref (ad 1000), .int x] : List Value).toArray) (wsO yX4_drop cX4_drop 3 (some .int)) RX4 := ⟨B.exec, B.bytes, hml, findClass_of_methodNamed B.named, hts⟩
  have hx := F.1
  have hb := F.2.1
  have hlocks := B.notSynchronized
  have hS : va_S (fun q => lo ≤ q) s0.heap s0.heap [] := va_S.rf
  have hl := lv_entry ([.ref (ad 1000), .int x]) (n := 3) (Nat.le_of_ble_eq_true rfl)
  rw [lg_entry_eq]
  generalize (lg_sl ([.ref (ad 1000), .int x]) ++ List.replicate (3 - (lg_sl ([.ref (ad 1000), .int x])).length) Slot.unset).toArray = ls at hl ⊢
  have hl : lv_has ls 3 [(0, .ref (ad 1000)), (1, .int x)] := hl
  refine lv_aload_n hx hb dX4_drop_0 rfl (lv_at hl 0 rfl) ?_
  refine lv_iload_n hx hb dX4_drop_1 rfl (lv_at hl 1 rfl) ?_
  refine m_d1 (v := .int (bI (isE n th x))) (ct1 := ctM aC ad n th sz sg me gr lk P co tb fd wd sm rc X) (va_runV (As := [.int x]) (rest := []) F (c_mIsE l x h200) (cwV 1 F.2.2.2.2 (go_V (fun _ h => tb_O h) mlX4_58 imX4_isEntry seX4_isEntry iniX4 cdX4_isEntry) rfl rfl rfl (by decide +kernel) ⟨Nat.le_of_ble_eq_true rfl, Nat.le_of_ble_eq_true rfl⟩) (mPreV hKK hM (Nat.le_trans hlo hS.1) ctM_o rfl) rfl rfl hl.1 rfl (lv_room (Nat.le_of_ble_eq_true rfl)) dX4_drop_2 ⟨Nat.le_of_ble_eq_true rfl, Nat.le_of_ble_eq_true rfl⟩) hS (fun H locs hM hS => ?_)
  refine lv_if_ne (tgt := 10) hx hb dX4_drop_5 (by decide) (fun c_5 => ?_) (fun c_5 => ?_)
  · skip
    exact absurd (by rw [hn0]; rfl) c_5
  · skip
    refine lv_iconst (v := (-1)) hx hb dX4_drop_8 (by decide) ?_
    exact W.iret hx hb hr (fun t ht hW => ⟨⟨_, _, _, rfl, ⟨rfl, rfl, rfl⟩, by rw [ht]; exact hM⟩, hS.F ht⟩) hS.2.2 dX4_drop_9

set_option maxHeartbeats 4000000 in
set_option maxRecDepth 100000 in
theorem c_mDrop (l : Launch) {D : va_G} {aC : Nat → ClassId} {lo : Nat} {ad : Nat → Nat} {n : Nat} {th : Nat → Bool} {sz : Nat → Nat} {sg : Nat → Nat} {me : Nat → Nat} {gr : Nat → Int32} {lk : Int32} {P : Nat} {co : Nat → Option Nat} {tb : Nat → Nat} {fd : Nat} {wd : Nat → Nat} {sm : Nat → Nat} {rc : Nat → Nat} {X : Nat → Option va_E} (j : Nat) (hj1 : 1 ≤ j) (hj2 : j ≤ n) (h200 : n ≤ 200) (ht : th j = true) (hme : ∀ k, me k ≤ 200) : Met l yX4_drop (wsO yX4_drop cX4_drop 3 (some .int)) ({ frames := 2, cells := 0, slots := 0, locals := 43 } : Room) (mPc D vwCl (tyA aC) lo ad (ctM aC ad n th sz sg me gr lk P co tb fd wd sm rc X) [.ref (ad 1000), .int (nI j)]) (mD1 D vwCl lo (.int (nI (cnt (va_up th j false) n))) ad (ctM aC ad n (va_up th j false) sz sg (drM me j n) gr lk P co tb fd wd sm rc X)) 0 0 (fun q => lo ≤ q) := by
  refine Met.ofW (cc := cX4_drop) (maxL := 3) (ret := (some .int)) (by decide) rfl ?_
  intro pr en s0 mm args below meth cc0 s₁ B hml hv
  obtain ⟨rfl, hlo, hM, hKK⟩ := hv
  have hK := hKK.1
  have hr := B.returns
  have hts := atoms_spec (ws := (wsO yX4_drop cX4_drop 3 (some .int))) B.pre
  have F : CallFix pr mm cc0 cX4_drop 3 s0 (([.ref (ad 1000), .int (nI j)] : List Value).toArray) (wsO yX4_drop cX4_drop 3 (some .int)) RX4 := ⟨B.exec, B.bytes, hml, findClass_of_methodNamed B.named, hts⟩
  have hx := F.1
  have hb := F.2.1
  have hlocks := B.notSynchronized
  have hS : va_S (fun q => lo ≤ q) s0.heap s0.heap [] := va_S.rf
  have hl := lv_entry ([.ref (ad 1000), .int (nI j)]) (n := 3) (Nat.le_of_ble_eq_true rfl)
  rw [lg_entry_eq]
  generalize (lg_sl ([.ref (ad 1000), .int (nI j)]) ++ List.replicate (3 - (lg_sl ([.ref (ad 1000), .int (nI j)])).length) Slot.unset).toArray = ls at hl ⊢
  have hl : lv_has ls 3 [(0, .ref (ad 1000)), (1, .int (nI j))] := hl
  have loop_19 : ∀ (fu : Nat) (i : Nat), (i ≤ n) → n + 1 - i ≤ fu → ∀ (H : Heap) (locs : List Loc) (ls : Array Slot), mw D vwCl lo ad (ctM aC ad n (va_up th j false) sz sg (drM me j i) gr lk P co tb fd wd sm rc X) H → va_S (fun q => lo ≤ q) s0.heap H locs → lv_has ls 3 [(0, .ref (ad 1000)), (1, .int (nI j)), (2, .int (nI (i + 1)))] → W pr l en (headSpec (wsO yX4_drop cX4_drop 3 (some .int)) ({ frames := 2, cells := 0, slots := 0, locals := 43 } : Room)).room s0 mm (([.ref (ad 1000), .int (nI j)] : List Value).toArray) below meth cc0 H locs 0 0 (MQ below (mD1 D vwCl lo (.int (nI (cnt (va_up th j false) n))) ad (ctM aC ad n (va_up th j false) sz sg (drM me j n) gr lk P co tb fd wd sm rc X)) (([.ref (ad 1000), .int (nI j)] : List Value).toArray) s0 0 0 (fun q => lo ≤ q)) (F0 mm 19 ls []) := by
    intro fu
    induction fu with
    | zero =>
      intro i hi hfu H locs ls hM hS hl
      exact absurd hfu (by omega)
    | succ fu ih_19 =>
      intro i hi hfu H locs ls hM hS hl
      have hme1 := hme (i + 1)
      have hda : drM me j i (i + 1) = me (i + 1) := drM_at
      refine lv_iload_n hx hb dX4_drop_19 rfl (lv_at hl 2 rfl) ?_
      refine lv_aload_n hx hb dX4_drop_20 rfl (lv_at hl 0 rfl) ?_
      refine m_get F (ci := 4) (v := .int (nI n)) (fun w h => tb_O (inX4 w h)) hK hM ctM_o rfl 0 (by decide) (tb_O lkX4_51) rfl dX4_drop_21 ?_
      refine m_icmp_gt F (a := (i + 1)) (b := n) (by omega) (by omega) (tgt := 59) dX4_drop_24 (by decide) (fun c_24 => ?_) (fun c_24 => ?_)
      · skip
        have hin9 : n = i := by omega
        subst hin9
        refine lv_aload_n hx hb dX4_drop_59 rfl (lv_at hl 0 rfl) ?_
        refine m_d1 (v := .int (nI (cnt (va_up th j false) n))) (ct1 := ctM aC ad n (va_up th j false) sz sg (drM me j n) gr lk P co tb fd wd sm rc X) (va_runV (As := []) (rest := []) F (c_mCount l h200) (cwV 0 F.2.2.2.2 (go_V (fun _ h => tb_O h) mlX4_62 imX4_count seX4_count iniX4 cdX4_count) rfl rfl rfl (by decide +kernel) ⟨Nat.le_of_ble_eq_true rfl, Nat.le_of_ble_eq_true rfl⟩) (mPreV hKK hM (Nat.le_trans hlo hS.1) ctM_o rfl) rfl rfl hl.1 rfl (lv_room (Nat.le_of_ble_eq_true rfl)) dX4_drop_60 ⟨Nat.le_of_ble_eq_true rfl, Nat.le_of_ble_eq_true rfl⟩) hS (fun H locs hM hS => ?_)
        exact W.iret hx hb hr (fun t ht hW => ⟨⟨_, _, _, rfl, ⟨rfl, rfl, rfl⟩, by rw [ht]; exact hM⟩, hS.F ht⟩) hS.2.2 dX4_drop_63
      · skip
        refine lv_aload_n hx hb dX4_drop_27 rfl (lv_at hl 0 rfl) ?_
        refine m_get F (ci := 4) (v := .ref (ad 1004)) (fun w h => tb_O (inX4 w h)) hK hM ctM_o rfl 4 (by decide) (tb_O lkX4_20) rfl dX4_drop_28 ?_
        refine lv_iload_n hx hb dX4_drop_31 rfl (lv_at hl 2 rfl) ?_
        refine lv_aload_n hx hb dX4_drop_32 rfl (lv_at hl 0 rfl) ?_
        refine m_get F (ci := 4) (v := .ref (ad 1004)) (fun w h => tb_O (inX4 w h)) hK hM ctM_o rfl 4 (by decide) (tb_O lkX4_20) rfl dX4_drop_33 ?_
        refine lv_iload_n hx hb dX4_drop_36 rfl (lv_at hl 2 rfl) ?_
        refine m_iald F hK hM 0 rfl (j := (i + 1)) ctM_ame (by omega) (by decide) dX4_drop_37 ?_
        refine m_top (y := (nI (me (i + 1)))) (congrArg nI hda) ?_
        refine lv_iload_n hx hb dX4_drop_38 rfl (lv_at hl 1 rfl) ?_
        refine m_icmp_ne F (a := (me (i + 1))) (b := j) (by omega) (by omega) (tgt := 46) dX4_drop_39 (by decide) (fun c_39 => ?_) (fun c_39 => ?_)
        · skip
          refine lv_aload_n hx hb dX4_drop_46 rfl (lv_at hl 0 rfl) ?_
          refine m_get F (ci := 4) (v := .ref (ad 1004)) (fun w h => tb_O (inX4 w h)) hK hM ctM_o rfl 4 (by decide) (tb_O lkX4_20) rfl dX4_drop_47 ?_
          refine lv_iload_n hx hb dX4_drop_50 rfl (lv_at hl 2 rfl) ?_
          refine m_iald F hK hM 0 rfl (j := (i + 1)) ctM_ame (by omega) (by decide) dX4_drop_51 ?_
          refine m_top (y := (nI (me (i + 1)))) (congrArg nI hda) ?_
          refine m_iast F hK hM hS 0 rfl (j := (i + 1)) (x := (nI (me (i + 1)))) ctM_ame (by omega) (by decide) dX4_drop_52 (fun H locs hM hS => ?_)
          have hM : mw D vwCl lo ad (ctM aC ad n (va_up th j false) sz sg (drM me j (i + 1)) gr lk P co tb fd wd sm rc X) H := by rw [upd_nI, drM_s (by first | rw [if_pos c_39] | rw [if_neg c_39]), ctM_me] at hM; exact hM
          refine lv_iinc (v := (nI (i + 1 + 1))) (lv' := [(2, .int (nI (i + 1 + 1))), (0, .ref (ad 1000)), (1, .int (nI j))]) hx hb dX4_drop_53 hl (k := 2) rfl (nI_1 (i + 1)) (by decide) rfl (fun ls hl => ?_)
          refine lv_goto (tgt := 19) hx hb dX4_drop_56 (by decide) ?_
          exact ih_19 (i + 1) (by omega) (by omega) _ _ _ hM hS (lv_sub hl [1, 2, 0] rfl)
        · skip
          refine lv_iconst (v := (nI 0)) hx hb dX4_drop_42 (by decide) ?_
          refine lv_goto (tgt := 52) hx hb dX4_drop_43 (by decide) ?_
          refine m_iast F hK hM hS 0 rfl (j := (i + 1)) (x := (nI 0)) ctM_ame (by omega) (by decide) dX4_drop_52 (fun H locs hM hS => ?_)
          have hM : mw D vwCl lo ad (ctM aC ad n (va_up th j false) sz sg (drM me j (i + 1)) gr lk P co tb fd wd sm rc X) H := by rw [upd_nI, drM_s (by first | rw [if_pos c_39] | rw [if_neg c_39]), ctM_me] at hM; exact hM
          refine lv_iinc (v := (nI (i + 1 + 1))) (lv' := [(2, .int (nI (i + 1 + 1))), (0, .ref (ad 1000)), (1, .int (nI j))]) hx hb dX4_drop_53 hl (k := 2) rfl (nI_1 (i + 1)) (by decide) rfl (fun ls hl => ?_)
          refine lv_goto (tgt := 19) hx hb dX4_drop_56 (by decide) ?_
          exact ih_19 (i + 1) (by omega) (by omega) _ _ _ hM hS (lv_sub hl [1, 2, 0] rfl)
  refine lv_aload_n hx hb dX4_drop_0 rfl (lv_at hl 0 rfl) ?_
  refine lv_iload_n hx hb dX4_drop_1 rfl (lv_at hl 1 rfl) ?_
  refine m_d1 (v := .int (bI (isE n th (nI j)))) (ct1 := ctM aC ad n th sz sg me gr lk P co tb fd wd sm rc X) (va_runV (As := [.int (nI j)]) (rest := []) F (c_mIsE l (nI j) h200) (cwV 1 F.2.2.2.2 (go_V (fun _ h => tb_O h) mlX4_58 imX4_isEntry seX4_isEntry iniX4 cdX4_isEntry) rfl rfl rfl (by decide +kernel) ⟨Nat.le_of_ble_eq_true rfl, Nat.le_of_ble_eq_true rfl⟩) (mPreV hKK hM (Nat.le_trans hlo hS.1) ctM_o rfl) rfl rfl hl.1 rfl (lv_room (Nat.le_of_ble_eq_true rfl)) dX4_drop_2 ⟨Nat.le_of_ble_eq_true rfl, Nat.le_of_ble_eq_true rfl⟩) hS (fun H locs hM hS => ?_)
  refine lv_if_ne (tgt := 10) hx hb dX4_drop_5 (by decide) (fun c_5 => ?_) (fun c_5 => ?_)
  · skip
    refine lv_aload_n hx hb dX4_drop_10 rfl (lv_at hl 0 rfl) ?_
    refine m_get F (ci := 4) (v := .ref (ad 1001)) (fun w h => tb_O (inX4 w h)) hK hM ctM_o rfl 1 (by decide) (tb_O lkX4_7) rfl dX4_drop_11 ?_
    refine lv_iload_n hx hb dX4_drop_14 rfl (lv_at hl 1 rfl) ?_
    refine lv_iconst (v := (nI 0)) hx hb dX4_drop_15 (by decide) ?_
    refine m_zast F hK hM hS 2 rfl (j := j) (b := false) ctM_ath (by omega) (by decide) dX4_drop_16 (fun H locs hM hS => ?_)
    have hM : mw D vwCl lo ad (ctM aC ad n (va_up th j false) sz sg me gr lk P co tb fd wd sm rc X) H := by rw [upd_bI, ctM_th] at hM; exact hM
    refine lv_iconst (v := (nI 1)) hx hb dX4_drop_17 (by decide) ?_
    refine lv_istore_n (lv' := [(2, .int (nI 1)), (0, .ref (ad 1000)), (1, .int (nI j))]) hx hb dX4_drop_18 rfl hl (by decide) rfl (fun ls hl => ?_)
    exact loop_19 (n + 1) 0 (Nat.zero_le _) (by omega) _ _ _ (by rw [drM_0]; exact hM) hS (lv_sub hl [1, 2, 0] rfl)
  · skip
    exact absurd (by rw [isE_nI hj1 hj2 h200, ht]; decide) (fun h : ¬ bI (isE n th (nI j)) = 0 => h c_5)

set_option maxHeartbeats 4000000 in
set_option maxRecDepth 100000 in
theorem c_mCostO (l : Launch) {D : va_G} {aC : Nat → ClassId} {lo : Nat} {ad : Nat → Nat} {n : Nat} {th : Nat → Bool} {sz : Nat → Nat} {sg : Nat → Nat} {me : Nat → Nat} {gr : Nat → Int32} {lk : Int32} {P : Nat} {co : Nat → Option Nat} {tb : Nat → Nat} {fd : Nat} {wd : Nat → Nat} {sm : Nat → Nat} {rc : Nat → Nat} {X : Nat → Option va_E} (x y z : Int32) (hk : okM x y z = false) : Met l yX4_cost (wsO yX4_cost cX4_cost 4 (some .int)) ({ frames := 1, cells := 0, slots := 0, locals := 22 } : Room) (mPc D vwCl (tyA aC) lo ad (ctM aC ad n th sz sg me gr lk P co tb fd wd sm rc X) [.ref (ad 1000), .int x, .int y, .int z]) (mD1 D vwCl lo (.int (-2)) ad (ctM aC ad n th sz sg me gr lk P co tb fd wd sm rc X)) 0 0 (fun q => lo ≤ q) := by
  refine Met.ofW (cc := cX4_cost) (maxL := 4) (ret := (some .int)) (by decide) rfl ?_
  intro pr en s0 mm args below meth cc0 s₁ B hml hv
  obtain ⟨rfl, hlo, hM, hKK⟩ := hv
  have hK := hKK.1
  have hr := B.returns
  have hts := atoms_spec (ws := (wsO yX4_cost cX4_cost 4 (some .int))) B.pre
  have F : CallFix pr mm cc0 cX4_cost 4 s0 (([.ref (ad 1000), .int x, .int y, .int z] : List Value).toArray) (wsO yX4_cost cX4_cost 4 (some .int)) RX4 := ⟨B.exec, B.bytes, hml, findClass_of_methodNamed B.named, hts⟩
  have hx := F.1
  have hb := F.2.1
  have hlocks := B.notSynchronized
  have hS : va_S (fun q => lo ≤ q) s0.heap s0.heap [] := va_S.rf
  have hl := lv_entry ([.ref (ad 1000), .int x, .int y, .int z]) (n := 4) (Nat.le_of_ble_eq_true rfl)
  rw [lg_entry_eq]
  generalize (lg_sl ([.ref (ad 1000), .int x, .int y, .int z]) ++ List.replicate (4 - (lg_sl ([.ref (ad 1000), .int x, .int y, .int z])).length) Slot.unset).toArray = ls at hl ⊢
  have hl : lv_has ls 4 [(0, .ref (ad 1000)), (1, .int x), (2, .int y), (3, .int z)] := hl
  refine lv_iload_n hx hb dX4_cost_0 rfl (lv_at hl 1 rfl) ?_
  refine lv_iconst (v := (nI 0)) hx hb dX4_cost_1 (by decide) ?_
  refine lv_bipush (v := (nI 19)) hx hb dX4_cost_2 (by decide) ?_
  refine m_d1 (v := .int (bI (btw x (nI 0) (nI 19)))) (ct1 := ctM aC ad n th sz sg me gr lk P co tb fd wd sm rc X) (va_runS (As := [.int x, .int (nI 0), .int (nI 19)]) (rest := []) F (c_between l x (nI 0) (nI 19)) (va_cwS 3 F.2.2.2.2 (go_S (fun _ h => tb_O h) mlX4_54 stX4_between iniX4 cdX4_between) rfl rfl rfl (by decide +kernel) ⟨Nat.le_of_ble_eq_true rfl, Nat.le_of_ble_eq_true rfl⟩) (mPreS hKK hM (Nat.le_trans hlo hS.1)) rfl rfl hl.1 rfl (lv_room (Nat.le_of_ble_eq_true rfl)) dX4_cost_4 ⟨Nat.le_of_ble_eq_true rfl, Nat.le_of_ble_eq_true rfl⟩) hS (fun H locs hM hS => ?_)
  refine lv_if_eq (tgt := 32) hx hb dX4_cost_7 (by decide) (fun c_7 => ?_) (fun c_7 => ?_)
  · skip
    refine lv_bipush (v := (-2)) hx hb dX4_cost_32 (by decide) ?_
    exact W.iret hx hb hr (fun t ht hW => ⟨⟨_, _, _, rfl, ⟨rfl, rfl, rfl⟩, by rw [ht]; exact hM⟩, hS.F ht⟩) hS.2.2 dX4_cost_34
  · skip
    refine lv_iload_n hx hb dX4_cost_10 rfl (lv_at hl 2 rfl) ?_
    refine lv_bipush (v := (nI 33)) hx hb dX4_cost_11 (by decide) ?_
    refine lv_bipush (v := (nI 126)) hx hb dX4_cost_13 (by decide) ?_
    refine m_d1 (v := .int (bI (btw y (nI 33) (nI 126)))) (ct1 := ctM aC ad n th sz sg me gr lk P co tb fd wd sm rc X) (va_runS (As := [.int y, .int (nI 33), .int (nI 126)]) (rest := []) F (c_between l y (nI 33) (nI 126)) (va_cwS 3 F.2.2.2.2 (go_S (fun _ h => tb_O h) mlX4_54 stX4_between iniX4 cdX4_between) rfl rfl rfl (by decide +kernel) ⟨Nat.le_of_ble_eq_true rfl, Nat.le_of_ble_eq_true rfl⟩) (mPreS hKK hM (Nat.le_trans hlo hS.1)) rfl rfl hl.1 rfl (lv_room (Nat.le_of_ble_eq_true rfl)) dX4_cost_15 ⟨Nat.le_of_ble_eq_true rfl, Nat.le_of_ble_eq_true rfl⟩) hS (fun H locs hM hS => ?_)
    refine lv_if_eq (tgt := 32) hx hb dX4_cost_18 (by decide) (fun c_18 => ?_) (fun c_18 => ?_)
    · skip
      refine lv_bipush (v := (-2)) hx hb dX4_cost_32 (by decide) ?_
      exact W.iret hx hb hr (fun t ht hW => ⟨⟨_, _, _, rfl, ⟨rfl, rfl, rfl⟩, by rw [ht]; exact hM⟩, hS.F ht⟩) hS.2.2 dX4_cost_34
    · skip
      refine lv_iload_n hx hb dX4_cost_21 rfl (lv_at hl 3 rfl) ?_
      refine lv_iconst (v := (nI 0)) hx hb dX4_cost_22 (by decide) ?_
      refine lv_sipush (v := (nI 1000)) hx hb dX4_cost_23 (by decide) ?_
      refine m_d1 (v := .int (bI (btw z (nI 0) (nI 1000)))) (ct1 := ctM aC ad n th sz sg me gr lk P co tb fd wd sm rc X) (va_runS (As := [.int z, .int (nI 0), .int (nI 1000)]) (rest := []) F (c_between l z (nI 0) (nI 1000)) (va_cwS 3 F.2.2.2.2 (go_S (fun _ h => tb_O h) mlX4_54 stX4_between iniX4 cdX4_between) rfl rfl rfl (by decide +kernel) ⟨Nat.le_of_ble_eq_true rfl, Nat.le_of_ble_eq_true rfl⟩) (mPreS hKK hM (Nat.le_trans hlo hS.1)) rfl rfl hl.1 rfl (lv_room (Nat.le_of_ble_eq_true rfl)) dX4_cost_26 ⟨Nat.le_of_ble_eq_true rfl, Nat.le_of_ble_eq_true rfl⟩) hS (fun H locs hM hS => ?_)
      refine lv_if_ne (tgt := 35) hx hb dX4_cost_29 (by decide) (fun c_29 => ?_) (fun c_29 => ?_)
      · skip
        exact absurd hk (by rw [show okM x y z = (btw x (nI 0) (nI 19) && btw y (nI 33) (nI 126) && btw z (nI 0) (nI 1000)) from rfl, bI_ne c_7, bI_ne c_18, bI_ne c_29]; decide)
      · skip
        refine lv_bipush (v := (-2)) hx hb dX4_cost_32 (by decide) ?_
        exact W.iret hx hb hr (fun t ht hW => ⟨⟨_, _, _, rfl, ⟨rfl, rfl, rfl⟩, by rw [ht]; exact hM⟩, hS.F ht⟩) hS.2.2 dX4_cost_34

set_option maxHeartbeats 4000000 in
set_option maxRecDepth 100000 in
theorem c_mCost (l : Launch) {D : va_G} {aC : Nat → ClassId} {lo : Nat} {ad : Nat → Nat} {n : Nat} {th : Nat → Bool} {sz : Nat → Nat} {sg : Nat → Nat} {me : Nat → Nat} {gr : Nat → Int32} {lk : Int32} {P : Nat} {co : Nat → Option Nat} {tb : Nat → Nat} {fd : Nat} {wd : Nat → Nat} {sm : Nat → Nat} {rc : Nat → Nat} {X : Nat → Option va_E} (pl q cs : Nat) (hp : pl < 20) (hq1 : 33 ≤ q) (hq2 : q ≤ 126) (hcs : cs ≤ 1000) (hP : P ≤ 20) : Met l yX4_cost (wsO yX4_cost cX4_cost 4 (some .int)) ({ frames := 1, cells := 0, slots := 0, locals := 22 } : Room) (mPc D vwCl (tyA aC) lo ad (ctM aC ad n th sz sg me gr lk P co tb fd wd sm rc X) [.ref (ad 1000), .int (nI pl), .int (nI q), .int (nI cs)]) (mD1 D vwCl lo (.int (nI (max P (pl + 1)))) ad (ctM aC ad n th sz sg me gr lk (max P (pl + 1)) (va_up co (128 * pl + q) (some cs)) tb fd wd sm rc X)) 0 0 (fun q => lo ≤ q) := by
  refine Met.ofW (cc := cX4_cost) (maxL := 4) (ret := (some .int)) (by decide) rfl ?_
  intro pr en s0 mm args below meth cc0 s₁ B hml hv
  obtain ⟨rfl, hlo, hM, hKK⟩ := hv
  have hK := hKK.1
  have hr := B.returns
  have hts := atoms_spec (ws := (wsO yX4_cost cX4_cost 4 (some .int))) B.pre
  have F : CallFix pr mm cc0 cX4_cost 4 s0 (([.ref (ad 1000), .int (nI pl), .int (nI q), .int (nI cs)] : List Value).toArray) (wsO yX4_cost cX4_cost 4 (some .int)) RX4 := ⟨B.exec, B.bytes, hml, findClass_of_methodNamed B.named, hts⟩
  have hx := F.1
  have hb := F.2.1
  have hlocks := B.notSynchronized
  have hS : va_S (fun q => lo ≤ q) s0.heap s0.heap [] := va_S.rf
  have hl := lv_entry ([.ref (ad 1000), .int (nI pl), .int (nI q), .int (nI cs)]) (n := 4) (Nat.le_of_ble_eq_true rfl)
  rw [lg_entry_eq]
  generalize (lg_sl ([.ref (ad 1000), .int (nI pl), .int (nI q), .int (nI cs)]) ++ List.replicate (4 - (lg_sl ([.ref (ad 1000), .int (nI pl), .int (nI q), .int (nI cs)])).length) Slot.unset).toArray = ls at hl ⊢
  have hl : lv_has ls 4 [(0, .ref (ad 1000)), (1, .int (nI pl)), (2, .int (nI q)), (3, .int (nI cs))] := hl
  refine lv_iload_n hx hb dX4_cost_0 rfl (lv_at hl 1 rfl) ?_
  refine lv_iconst (v := (nI 0)) hx hb dX4_cost_1 (by decide) ?_
  refine lv_bipush (v := (nI 19)) hx hb dX4_cost_2 (by decide) ?_
  refine m_d1 (v := .int (bI (btw (nI pl) (nI 0) (nI 19)))) (ct1 := ctM aC ad n th sz sg me gr lk P co tb fd wd sm rc X) (va_runS (As := [.int (nI pl), .int (nI 0), .int (nI 19)]) (rest := []) F (c_between l (nI pl) (nI 0) (nI 19)) (va_cwS 3 F.2.2.2.2 (go_S (fun _ h => tb_O h) mlX4_54 stX4_between iniX4 cdX4_between) rfl rfl rfl (by decide +kernel) ⟨Nat.le_of_ble_eq_true rfl, Nat.le_of_ble_eq_true rfl⟩) (mPreS hKK hM (Nat.le_trans hlo hS.1)) rfl rfl hl.1 rfl (lv_room (Nat.le_of_ble_eq_true rfl)) dX4_cost_4 ⟨Nat.le_of_ble_eq_true rfl, Nat.le_of_ble_eq_true rfl⟩) hS (fun H locs hM hS => ?_)
  refine lv_if_eq (tgt := 32) hx hb dX4_cost_7 (by decide) (fun c_7 => ?_) (fun c_7 => ?_)
  · skip
    exact absurd (by rw [btw_nI (by omega) (by omega) (by omega)]; decide) (fun h : ¬ bI (btw (nI pl) (nI 0) (nI 19)) = 0 => h c_7)
  · skip
    refine lv_iload_n hx hb dX4_cost_10 rfl (lv_at hl 2 rfl) ?_
    refine lv_bipush (v := (nI 33)) hx hb dX4_cost_11 (by decide) ?_
    refine lv_bipush (v := (nI 126)) hx hb dX4_cost_13 (by decide) ?_
    refine m_d1 (v := .int (bI (btw (nI q) (nI 33) (nI 126)))) (ct1 := ctM aC ad n th sz sg me gr lk P co tb fd wd sm rc X) (va_runS (As := [.int (nI q), .int (nI 33), .int (nI 126)]) (rest := []) F (c_between l (nI q) (nI 33) (nI 126)) (va_cwS 3 F.2.2.2.2 (go_S (fun _ h => tb_O h) mlX4_54 stX4_between iniX4 cdX4_between) rfl rfl rfl (by decide +kernel) ⟨Nat.le_of_ble_eq_true rfl, Nat.le_of_ble_eq_true rfl⟩) (mPreS hKK hM (Nat.le_trans hlo hS.1)) rfl rfl hl.1 rfl (lv_room (Nat.le_of_ble_eq_true rfl)) dX4_cost_15 ⟨Nat.le_of_ble_eq_true rfl, Nat.le_of_ble_eq_true rfl⟩) hS (fun H locs hM hS => ?_)
    refine lv_if_eq (tgt := 32) hx hb dX4_cost_18 (by decide) (fun c_18 => ?_) (fun c_18 => ?_)
    · skip
      exact absurd (by rw [btw_nI (by omega) (by omega) (by omega)]; decide) (fun h : ¬ bI (btw (nI q) (nI 33) (nI 126)) = 0 => h c_18)
    · skip
      refine lv_iload_n hx hb dX4_cost_21 rfl (lv_at hl 3 rfl) ?_
      refine lv_iconst (v := (nI 0)) hx hb dX4_cost_22 (by decide) ?_
      refine lv_sipush (v := (nI 1000)) hx hb dX4_cost_23 (by decide) ?_
      refine m_d1 (v := .int (bI (btw (nI cs) (nI 0) (nI 1000)))) (ct1 := ctM aC ad n th sz sg me gr lk P co tb fd wd sm rc X) (va_runS (As := [.int (nI cs), .int (nI 0), .int (nI 1000)]) (rest := []) F (c_between l (nI cs) (nI 0) (nI 1000)) (va_cwS 3 F.2.2.2.2 (go_S (fun _ h => tb_O h) mlX4_54 stX4_between iniX4 cdX4_between) rfl rfl rfl (by decide +kernel) ⟨Nat.le_of_ble_eq_true rfl, Nat.le_of_ble_eq_true rfl⟩) (mPreS hKK hM (Nat.le_trans hlo hS.1)) rfl rfl hl.1 rfl (lv_room (Nat.le_of_ble_eq_true rfl)) dX4_cost_26 ⟨Nat.le_of_ble_eq_true rfl, Nat.le_of_ble_eq_true rfl⟩) hS (fun H locs hM hS => ?_)
      refine lv_if_ne (tgt := 35) hx hb dX4_cost_29 (by decide) (fun c_29 => ?_) (fun c_29 => ?_)
      · skip
        refine lv_aload_n hx hb dX4_cost_35 rfl (lv_at hl 0 rfl) ?_
        refine m_get F (ci := 4) (v := .ref (ad 1006)) (fun w h => tb_O (inX4 w h)) hK hM ctM_o rfl 8 (by decide) (tb_O lkX4_30) rfl dX4_cost_36 ?_
        refine lv_sipush (v := (nI 128)) hx hb dX4_cost_39 (by decide) ?_
        refine lv_iload_n hx hb dX4_cost_42 rfl (lv_at hl 1 rfl) ?_
        refine lv_imul hx hb dX4_cost_43 ?_
        refine m_top (pk_mul 128 pl) ?_
        refine lv_iload_n hx hb dX4_cost_44 rfl (lv_at hl 2 rfl) ?_
        refine lv_iadd hx hb dX4_cost_45 ?_
        refine m_top (nI_add (128 * pl) q) ?_
        refine lv_iload_n hx hb dX4_cost_46 rfl (lv_at hl 3 rfl) ?_
        refine m_iast F hK hM hS 0 rfl (j := (128 * pl + q)) (x := (nI cs)) ctM_aco (by omega) (by decide) dX4_cost_47 (fun H locs hM hS => ?_)
        have hM : mw D vwCl lo ad (ctM aC ad n th sz sg me gr lk P (va_up co (128 * pl + q) (some cs)) tb fd wd sm rc X) H := by rw [upd_cV, ctM_co] at hM; exact hM
        refine lv_aload_n hx hb dX4_cost_48 rfl (lv_at hl 0 rfl) ?_
        refine lv_iload_n hx hb dX4_cost_49 rfl (lv_at hl 1 rfl) ?_
        refine lv_aload_n hx hb dX4_cost_50 rfl (lv_at hl 0 rfl) ?_
        refine m_get F (ci := 4) (v := .int (nI P)) (fun w h => tb_O (inX4 w h)) hK hM ctM_o rfl 7 (by decide) (tb_O lkX4_48) rfl dX4_cost_51 ?_
        refine m_icmp_ge F (a := pl) (b := P) (by omega) (by omega) (tgt := 64) dX4_cost_54 (by decide) (fun c_54 => ?_) (fun c_54 => ?_)
        · skip
          refine lv_iload_n hx hb dX4_cost_64 rfl (lv_at hl 1 rfl) ?_
          refine lv_iconst (v := (nI 1)) hx hb dX4_cost_65 (by decide) ?_
          refine lv_iadd hx hb dX4_cost_66 ?_
          refine m_top (nI_add pl 1) ?_
          refine m_top (y := nI (max P (pl + 1))) (congrArg nI (by omega)) ?_
          refine m_put F (ci := 4) (v := .int (nI (max P (pl + 1)))) (fun w h => tb_O (inX4 w h)) mc_X4 hK hM hS ctM_o 7 (by decide) (tb_O lkX4_48) rfl rfl rfl (Nat.le_of_ble_eq_true rfl) dX4_cost_67 (fun H locs hM hS => ?_)
          have hM : mw D vwCl lo ad (va_up (ctM aC ad n th sz sg me gr lk P (va_up co (128 * pl + q) (some cs)) tb fd wd sm rc X) 1000 (some (.inr (4, [.int (nI n), .ref (ad 1001), .ref (ad 1002), .ref (ad 1003), .ref (ad 1004), .ref (ad 1005), .int lk, .int (nI (max P (pl + 1))), .ref (ad 1006), .ref (ad 1007), .int (nI fd), .ref (ad 1008), .ref (ad 1009), .ref (ad 1010)])))) H := hM
          have hM : mw D vwCl lo ad (ctM aC ad n th sz sg me gr lk (max P (pl + 1)) (va_up co (128 * pl + q) (some cs)) tb fd wd sm rc X) H := by rw [ctM_P] at hM; exact hM
          refine lv_aload_n hx hb dX4_cost_70 rfl (lv_at hl 0 rfl) ?_
          refine m_get F (ci := 4) (v := .int (nI (max P (pl + 1)))) (fun w h => tb_O (inX4 w h)) hK hM ctM_o rfl 7 (by decide) (tb_O lkX4_48) rfl dX4_cost_71 ?_
          exact W.iret hx hb hr (fun t ht hW => ⟨⟨_, _, _, rfl, ⟨rfl, rfl, rfl⟩, by rw [ht]; exact hM⟩, hS.F ht⟩) hS.2.2 dX4_cost_74
        · skip
          refine lv_aload_n hx hb dX4_cost_57 rfl (lv_at hl 0 rfl) ?_
          refine m_get F (ci := 4) (v := .int (nI P)) (fun w h => tb_O (inX4 w h)) hK hM ctM_o rfl 7 (by decide) (tb_O lkX4_48) rfl dX4_cost_58 ?_
          refine lv_goto (tgt := 67) hx hb dX4_cost_61 (by decide) ?_
          refine m_top (y := nI (max P (pl + 1))) (congrArg nI (by omega)) ?_
          refine m_put F (ci := 4) (v := .int (nI (max P (pl + 1)))) (fun w h => tb_O (inX4 w h)) mc_X4 hK hM hS ctM_o 7 (by decide) (tb_O lkX4_48) rfl rfl rfl (Nat.le_of_ble_eq_true rfl) dX4_cost_67 (fun H locs hM hS => ?_)
          have hM : mw D vwCl lo ad (va_up (ctM aC ad n th sz sg me gr lk P (va_up co (128 * pl + q) (some cs)) tb fd wd sm rc X) 1000 (some (.inr (4, [.int (nI n), .ref (ad 1001), .ref (ad 1002), .ref (ad 1003), .ref (ad 1004), .ref (ad 1005), .int lk, .int (nI (max P (pl + 1))), .ref (ad 1006), .ref (ad 1007), .int (nI fd), .ref (ad 1008), .ref (ad 1009), .ref (ad 1010)])))) H := hM
          have hM : mw D vwCl lo ad (ctM aC ad n th sz sg me gr lk (max P (pl + 1)) (va_up co (128 * pl + q) (some cs)) tb fd wd sm rc X) H := by rw [ctM_P] at hM; exact hM
          refine lv_aload_n hx hb dX4_cost_70 rfl (lv_at hl 0 rfl) ?_
          refine m_get F (ci := 4) (v := .int (nI (max P (pl + 1)))) (fun w h => tb_O (inX4 w h)) hK hM ctM_o rfl 7 (by decide) (tb_O lkX4_48) rfl dX4_cost_71 ?_
          exact W.iret hx hb hr (fun t ht hW => ⟨⟨_, _, _, rfl, ⟨rfl, rfl, rfl⟩, by rw [ht]; exact hM⟩, hS.F ht⟩) hS.2.2 dX4_cost_74
      · skip
        exact absurd (by rw [btw_nI (by omega) (by omega) (by omega)]; decide) (fun h : ¬ bI (btw (nI cs) (nI 0) (nI 1000)) = 0 => h c_29)

set_option maxHeartbeats 4000000 in
set_option maxRecDepth 100000 in
theorem c_mForget (l : Launch) {D : va_G} {aC : Nat → ClassId} {lo : Nat} {ad : Nat → Nat} {n : Nat} {th : Nat → Bool} {sz : Nat → Nat} {sg : Nat → Nat} {me : Nat → Nat} {gr : Nat → Int32} {lk : Int32} {P : Nat} {co : Nat → Option Nat} {tb : Nat → Nat} {fd : Nat} {wd : Nat → Nat} {sm : Nat → Nat} {rc : Nat → Nat} {X : Nat → Option va_E}  : Met l yX4_forget (wsO yX4_forget cX4_forget 2 none) ({ frames := 0, cells := 0, slots := 0, locals := 0 } : Room) (mPc D vwCl (tyA aC) lo ad (ctM aC ad n th sz sg me gr lk P co tb fd wd sm rc X) [.ref (ad 1000)]) (mD0 D vwCl lo ad (ctM aC ad n th sz sg me gr lk 0 (clI co 2560) tb fd wd sm rc X)) 0 0 (fun q => lo ≤ q) := by
  refine Met.ofW (cc := cX4_forget) (maxL := 2) (ret := none) (by decide) rfl ?_
  intro pr en s0 mm args below meth cc0 s₁ B hml hv
  obtain ⟨rfl, hlo, hM, hKK⟩ := hv
  have hK := hKK.1
  have hr := B.returns
  have hts := atoms_spec (ws := (wsO yX4_forget cX4_forget 2 none)) B.pre
  have F : CallFix pr mm cc0 cX4_forget 2 s0 (([.ref (ad 1000)] : List Value).toArray) (wsO yX4_forget cX4_forget 2 none) RX4 := ⟨B.exec, B.bytes, hml, findClass_of_methodNamed B.named, hts⟩
  have hx := F.1
  have hb := F.2.1
  have hlocks := B.notSynchronized
  have hS : va_S (fun q => lo ≤ q) s0.heap s0.heap [] := va_S.rf
  have hl := lv_entry ([.ref (ad 1000)]) (n := 2) (Nat.le_of_ble_eq_true rfl)
  rw [lg_entry_eq]
  generalize (lg_sl ([.ref (ad 1000)]) ++ List.replicate (2 - (lg_sl ([.ref (ad 1000)])).length) Slot.unset).toArray = ls at hl ⊢
  have hl : lv_has ls 2 [(0, .ref (ad 1000))] := hl
  have loop_7 : ∀ (fu : Nat) (i : Nat), (i ≤ 2560) → 2561 - i ≤ fu → ∀ (H : Heap) (locs : List Loc) (ls : Array Slot), mw D vwCl lo ad (ctM aC ad n th sz sg me gr lk 0 (clI co i) tb fd wd sm rc X) H → va_S (fun q => lo ≤ q) s0.heap H locs → lv_has ls 2 [(0, .ref (ad 1000)), (1, .int (nI i))] → W pr l en (headSpec (wsO yX4_forget cX4_forget 2 none) ({ frames := 0, cells := 0, slots := 0, locals := 0 } : Room)).room s0 mm (([.ref (ad 1000)] : List Value).toArray) below meth cc0 H locs 0 0 (MQ below (mD0 D vwCl lo ad (ctM aC ad n th sz sg me gr lk 0 (clI co 2560) tb fd wd sm rc X)) (([.ref (ad 1000)] : List Value).toArray) s0 0 0 (fun q => lo ≤ q)) (F0 mm 7 ls []) := by
    intro fu
    induction fu with
    | zero =>
      intro i hi hfu H locs ls hM hS hl
      exact absurd hfu (by omega)
    | succ fu ih_7 =>
      intro i hi hfu H locs ls hM hS hl
      refine lv_iload_n hx hb dX4_forget_7 rfl (lv_at hl 1 rfl) ?_
      refine lv_sipush (v := (nI 2560)) hx hb dX4_forget_8 (by decide) ?_
      refine m_icmp_ge F (a := i) (b := 2560) (by omega) (by omega) (tgt := 27) dX4_forget_11 (by decide) (fun c_11 => ?_) (fun c_11 => ?_)
      · skip
        have hin9 : i = 2560 := by omega
        subst hin9
        exact W.vret hx hb hr (fun t ht hW => ⟨⟨_, _, rfl, ⟨rfl, rfl⟩, by rw [ht]; exact hM⟩, hS.F ht⟩) hS.2.2 dX4_forget_27
      · skip
        refine lv_aload_n hx hb dX4_forget_14 rfl (lv_at hl 0 rfl) ?_
        refine m_get F (ci := 4) (v := .ref (ad 1006)) (fun w h => tb_O (inX4 w h)) hK hM ctM_o rfl 8 (by decide) (tb_O lkX4_30) rfl dX4_forget_15 ?_
        refine lv_iload_n hx hb dX4_forget_18 rfl (lv_at hl 1 rfl) ?_
        refine lv_iconst (v := (-1)) hx hb dX4_forget_19 (by decide) ?_
        refine m_iast F hK hM hS 0 rfl (j := i) (x := (-1)) ctM_aco (by omega) (by decide) dX4_forget_20 (fun H locs hM hS => ?_)
        have hM : mw D vwCl lo ad (ctM aC ad n th sz sg me gr lk 0 (clI co (i + 1)) tb fd wd sm rc X) H := by rw [upd_cN, clI_s, ctM_co] at hM; exact hM
        refine lv_iinc (v := (nI (i + 1))) (lv' := [(1, .int (nI (i + 1))), (0, .ref (ad 1000))]) hx hb dX4_forget_21 hl (k := 1) rfl (nI_1 i) (by decide) rfl (fun ls hl => ?_)
        refine lv_goto (tgt := 7) hx hb dX4_forget_24 (by decide) ?_
        exact ih_7 (i + 1) (by omega) (by omega) _ _ _ hM hS (lv_sub hl [1, 0] rfl)
  refine lv_aload_n hx hb dX4_forget_0 rfl (lv_at hl 0 rfl) ?_
  refine lv_iconst (v := (nI 0)) hx hb dX4_forget_1 (by decide) ?_
  refine m_put F (ci := 4) (v := .int (nI 0)) (fun w h => tb_O (inX4 w h)) mc_X4 hK hM hS ctM_o 7 (by decide) (tb_O lkX4_48) rfl rfl rfl (Nat.le_of_ble_eq_true rfl) dX4_forget_2 (fun H locs hM hS => ?_)
  have hM : mw D vwCl lo ad (va_up (ctM aC ad n th sz sg me gr lk P co tb fd wd sm rc X) 1000 (some (.inr (4, [.int (nI n), .ref (ad 1001), .ref (ad 1002), .ref (ad 1003), .ref (ad 1004), .ref (ad 1005), .int lk, .int (nI 0), .ref (ad 1006), .ref (ad 1007), .int (nI fd), .ref (ad 1008), .ref (ad 1009), .ref (ad 1010)])))) H := hM
  have hM : mw D vwCl lo ad (ctM aC ad n th sz sg me gr lk 0 co tb fd wd sm rc X) H := by rw [ctM_P] at hM; exact hM
  refine lv_iconst (v := (nI 0)) hx hb dX4_forget_5 (by decide) ?_
  refine lv_istore_n (lv' := [(1, .int (nI 0)), (0, .ref (ad 1000))]) hx hb dX4_forget_6 rfl hl (by decide) rfl (fun ls hl => ?_)
  exact loop_7 2561 0 (Nat.zero_le _) (by omega) _ _ _ (by rw [clI_0]; exact hM) hS (lv_sub hl [1, 0] rfl)

set_option maxHeartbeats 4000000 in
set_option maxRecDepth 100000 in
theorem c_mClear (l : Launch) {D : va_G} {aC : Nat → ClassId} {lo : Nat} {ad : Nat → Nat} {n : Nat} {th : Nat → Bool} {sz : Nat → Nat} {sg : Nat → Nat} {me : Nat → Nat} {gr : Nat → Int32} {lk : Int32} {P : Nat} {co : Nat → Option Nat} {tb : Nat → Nat} {fd : Nat} {wd : Nat → Nat} {sm : Nat → Nat} {rc : Nat → Nat} {X : Nat → Option va_E}  : Met l yX4_clear (wsO yX4_clear cX4_clear 2 (some .int)) ({ frames := 1, cells := 0, slots := 0, locals := 21 } : Room) (mPc D vwCl (tyA aC) lo ad (ctM aC ad n th sz sg me gr lk P co tb fd wd sm rc X) [.ref (ad 1000)]) (mD1 D vwCl lo (.int (nI P)) ad (ctM aC ad n th sz sg me gr lk 0 (clI co 2560) tb fd wd sm rc X)) 0 0 (fun q => lo ≤ q) := by
  refine Met.ofW (cc := cX4_clear) (maxL := 2) (ret := (some .int)) (by decide) rfl ?_
  intro pr en s0 mm args below meth cc0 s₁ B hml hv
  obtain ⟨rfl, hlo, hM, hKK⟩ := hv
  have hK := hKK.1
  have hr := B.returns
  have hts := atoms_spec (ws := (wsO yX4_clear cX4_clear 2 (some .int))) B.pre
  have F : CallFix pr mm cc0 cX4_clear 2 s0 (([.ref (ad 1000)] : List Value).toArray) (wsO yX4_clear cX4_clear 2 (some .int)) RX4 := ⟨B.exec, B.bytes, hml, findClass_of_methodNamed B.named, hts⟩
  have hx := F.1
  have hb := F.2.1
  have hlocks := B.notSynchronized
  have hS : va_S (fun q => lo ≤ q) s0.heap s0.heap [] := va_S.rf
  have hl := lv_entry ([.ref (ad 1000)]) (n := 2) (Nat.le_of_ble_eq_true rfl)
  rw [lg_entry_eq]
  generalize (lg_sl ([.ref (ad 1000)]) ++ List.replicate (2 - (lg_sl ([.ref (ad 1000)])).length) Slot.unset).toArray = ls at hl ⊢
  have hl : lv_has ls 2 [(0, .ref (ad 1000))] := hl
  refine lv_aload_n hx hb dX4_clear_0 rfl (lv_at hl 0 rfl) ?_
  refine m_get F (ci := 4) (v := .int (nI P)) (fun w h => tb_O (inX4 w h)) hK hM ctM_o rfl 7 (by decide) (tb_O lkX4_48) rfl dX4_clear_1 ?_
  refine lv_istore_n (lv' := [(1, .int (nI P)), (0, .ref (ad 1000))]) hx hb dX4_clear_4 rfl hl (by decide) rfl (fun ls hl => ?_)
  refine lv_aload_n hx hb dX4_clear_5 rfl (lv_at hl 1 rfl) ?_
  refine m_d0 (ct1 := ctM aC ad n th sz sg me gr lk 0 (clI co 2560) tb fd wd sm rc X) (va_runV (As := []) (rest := []) F (c_mForget l) (cwV 0 F.2.2.2.2 (go_V (fun _ h => tb_O h) mlX4_45 imX4_forget seX4_forget iniX4 cdX4_forget) rfl rfl rfl (by decide +kernel) ⟨Nat.le_of_ble_eq_true rfl, Nat.le_of_ble_eq_true rfl⟩) (mPreV hKK hM (Nat.le_trans hlo hS.1) ctM_o rfl) rfl rfl hl.1 rfl (lv_room (Nat.le_of_ble_eq_true rfl)) dX4_clear_6 ⟨Nat.le_of_ble_eq_true rfl, Nat.le_of_ble_eq_true rfl⟩) hS (fun H locs hM hS => ?_)
  refine lv_iload_n hx hb dX4_clear_9 rfl (lv_at hl 0 rfl) ?_
  exact W.iret hx hb hr (fun t ht hW => ⟨⟨_, _, _, rfl, ⟨rfl, rfl, rfl⟩, by rw [ht]; exact hM⟩, hS.F ht⟩) hS.2.2 dX4_clear_10

set_option maxHeartbeats 4000000 in
set_option maxRecDepth 100000 in
theorem c_mMbf (l : Launch) {D : va_G} {aC : Nat → ClassId} {lo : Nat} {ad : Nat → Nat} {n : Nat} {th : Nat → Bool} {sz : Nat → Nat} {sg : Nat → Nat} {me : Nat → Nat} {gr : Nat → Int32} {lk : Int32} {P : Nat} {co : Nat → Option Nat} {tb : Nat → Nat} {fd : Nat} {wd : Nat → Nat} {sm : Nat → Nat} {rc : Nat → Nat} {X : Nat → Option va_E} (j : Nat) (hj1 : 1 ≤ j) (hj2 : j ≤ n) (h200 : n ≤ 200) (hme : ∀ k, me k ≤ 200) : Met l yX4_mayBeFound (wsO yX4_mayBeFound cX4_mayBeFound 2 (some .boolean)) ({ frames := 0, cells := 0, slots := 0, locals := 0 } : Room) (mPc D vwCl (tyA aC) lo ad (ctM aC ad n th sz sg me gr lk P co tb fd wd sm rc X) [.ref (ad 1000), .int (nI j)]) (mD1 D vwCl lo (.int (bI (mfM th me gr lk j))) ad (ctM aC ad n th sz sg me gr lk P co tb fd wd sm rc X)) 0 0 (fun q => lo ≤ q) := by
  refine Met.ofW (cc := cX4_mayBeFound) (maxL := 2) (ret := (some .boolean)) (by decide) rfl ?_
  intro pr en s0 mm args below meth cc0 s₁ B hml hv
  obtain ⟨rfl, hlo, hM, hKK⟩ := hv
  have hK := hKK.1
  have hr := B.returns
  have hts := atoms_spec (ws := (wsO yX4_mayBeFound cX4_mayBeFound 2 (some .boolean))) B.pre
  have F : CallFix pr mm cc0 cX4_mayBeFound 2 s0 (([.ref (ad 1000), .int (nI j)] : List Value).toArray) (wsO yX4_mayBeFound cX4_mayBeFound 2 (some .boolean)) RX4 := ⟨B.exec, B.bytes, hml, findClass_of_methodNamed B.named, hts⟩
  have hx := F.1
  have hb := F.2.1
  have hlocks := B.notSynchronized
  have hS : va_S (fun q => lo ≤ q) s0.heap s0.heap [] := va_S.rf
  have hl := lv_entry ([.ref (ad 1000), .int (nI j)]) (n := 2) (Nat.le_of_ble_eq_true rfl)
  rw [lg_entry_eq]
  generalize (lg_sl ([.ref (ad 1000), .int (nI j)]) ++ List.replicate (2 - (lg_sl ([.ref (ad 1000), .int (nI j)])).length) Slot.unset).toArray = ls at hl ⊢
  have hl : lv_has ls 2 [(0, .ref (ad 1000)), (1, .int (nI j))] := hl
  refine lv_aload_n hx hb dX4_mayBeFound_0 rfl (lv_at hl 0 rfl) ?_
  refine m_get F (ci := 4) (v := .ref (ad 1001)) (fun w h => tb_O (inX4 w h)) hK hM ctM_o rfl 1 (by decide) (tb_O lkX4_7) rfl dX4_mayBeFound_1 ?_
  refine lv_iload_n hx hb dX4_mayBeFound_4 rfl (lv_at hl 1 rfl) ?_
  refine m_zald F hK hM 2 rfl (j := j) ctM_ath (by omega) (by decide) dX4_mayBeFound_5 ?_
  refine m_top (y := (bI (th j))) rfl ?_
  refine lv_if_eq (tgt := 46) hx hb dX4_mayBeFound_6 (by decide) (fun c_6 => ?_) (fun c_6 => ?_)
  · skip
    refine lv_iconst (v := (nI 0)) hx hb dX4_mayBeFound_46 (by decide) ?_
    exact W.zret hx hb hr rfl (fun t ht hW => ⟨⟨_, _, _, rfl, ⟨by rw [show mfM th me gr lk j = false by first | simp [mfM, bI_ne c_6, hm0, c_22, c_39] | simp [mfM, bI_ne c_6, hm0] | simp [mfM, bI_eq c_6]]; rfl, rfl, rfl⟩, by rw [ht]; exact hM⟩, hS.F ht⟩) hS.2.2 dX4_mayBeFound_47
  · skip
    refine lv_aload_n hx hb dX4_mayBeFound_9 rfl (lv_at hl 0 rfl) ?_
    refine m_get F (ci := 4) (v := .ref (ad 1004)) (fun w h => tb_O (inX4 w h)) hK hM ctM_o rfl 4 (by decide) (tb_O lkX4_20) rfl dX4_mayBeFound_10 ?_
    refine lv_iload_n hx hb dX4_mayBeFound_13 rfl (lv_at hl 1 rfl) ?_
    refine m_iald F hK hM 0 rfl (j := j) ctM_ame (by omega) (by decide) dX4_mayBeFound_14 ?_
    refine m_top (y := (nI (me j))) rfl ?_
    refine lv_if_ne (tgt := 46) hx hb dX4_mayBeFound_15 (by decide) (fun c_15 => ?_) (fun c_15 => ?_)
    · skip
      have hm0 : ¬ me j = 0 := fun q => c_15 (by rw [q]; exact nI_0)
      refine lv_iconst (v := (nI 0)) hx hb dX4_mayBeFound_46 (by decide) ?_
      exact W.zret hx hb hr rfl (fun t ht hW => ⟨⟨_, _, _, rfl, ⟨by rw [show mfM th me gr lk j = false by first | simp [mfM, bI_ne c_6, hm0, c_22, c_39] | simp [mfM, bI_ne c_6, hm0] | simp [mfM, bI_eq c_6]]; rfl, rfl, rfl⟩, by rw [ht]; exact hM⟩, hS.F ht⟩) hS.2.2 dX4_mayBeFound_47
    · skip
      have hm0 : me j = 0 := by have hmj := hme j; exact (nI_eq (by omega) (by omega)).mp (c_15.trans nI_0.symm)
      refine lv_aload_n hx hb dX4_mayBeFound_18 rfl (lv_at hl 0 rfl) ?_
      refine m_get F (ci := 4) (v := .int lk) (fun w h => tb_O (inX4 w h)) hK hM ctM_o rfl 6 (by decide) (tb_O lkX4_26) rfl dX4_mayBeFound_19 ?_
      refine lv_if_lt (tgt := 42) hx hb dX4_mayBeFound_22 (by decide) (fun c_22 => ?_) (fun c_22 => ?_)
      · skip
        refine lv_iconst (v := (nI 1)) hx hb dX4_mayBeFound_42 (by decide) ?_
        refine lv_goto (tgt := 47) hx hb dX4_mayBeFound_43 (by decide) ?_
        exact W.zret hx hb hr rfl (fun t ht hW => ⟨⟨_, _, _, rfl, ⟨by rw [show mfM th me gr lk j = true by first | simp [mfM, bI_ne c_6, hm0, c_22, c_39] | simp [mfM, bI_ne c_6, hm0, c_22]]; rfl, rfl, rfl⟩, by rw [ht]; exact hM⟩, hS.F ht⟩) hS.2.2 dX4_mayBeFound_47
      · skip
        refine lv_aload_n hx hb dX4_mayBeFound_25 rfl (lv_at hl 0 rfl) ?_
        refine m_get F (ci := 4) (v := .ref (ad 1005)) (fun w h => tb_O (inX4 w h)) hK hM ctM_o rfl 5 (by decide) (tb_O lkX4_23) rfl dX4_mayBeFound_26 ?_
        refine lv_iload_n hx hb dX4_mayBeFound_29 rfl (lv_at hl 1 rfl) ?_
        refine m_iald F hK hM 0 rfl (j := j) ctM_agr (by omega) (by decide) dX4_mayBeFound_30 ?_
        refine m_top (y := (gr j)) rfl ?_
        refine lv_aload_n hx hb dX4_mayBeFound_31 rfl (lv_at hl 0 rfl) ?_
        refine m_get F (ci := 4) (v := .int lk) (fun w h => tb_O (inX4 w h)) hK hM ctM_o rfl 6 (by decide) (tb_O lkX4_26) rfl dX4_mayBeFound_32 ?_
        refine lv_ishr hx hb dX4_mayBeFound_35 ?_
        refine lv_iconst (v := (nI 1)) hx hb dX4_mayBeFound_36 (by decide) ?_
        refine lv_iand hx hb dX4_mayBeFound_37 ?_
        refine lv_iconst (v := (nI 1)) hx hb dX4_mayBeFound_38 (by decide) ?_
        refine lv_icmp_ne (tgt := 46) hx hb dX4_mayBeFound_39 (by decide) (fun c_39 => ?_) (fun c_39 => ?_)
        · skip
          refine lv_iconst (v := (nI 0)) hx hb dX4_mayBeFound_46 (by decide) ?_
          exact W.zret hx hb hr rfl (fun t ht hW => ⟨⟨_, _, _, rfl, ⟨by rw [show mfM th me gr lk j = false by first | simp [mfM, bI_ne c_6, hm0, c_22, c_39] | simp [mfM, bI_ne c_6, hm0] | simp [mfM, bI_eq c_6]]; rfl, rfl, rfl⟩, by rw [ht]; exact hM⟩, hS.F ht⟩) hS.2.2 dX4_mayBeFound_47
        · skip
          refine lv_iconst (v := (nI 1)) hx hb dX4_mayBeFound_42 (by decide) ?_
          refine lv_goto (tgt := 47) hx hb dX4_mayBeFound_43 (by decide) ?_
          exact W.zret hx hb hr rfl (fun t ht hW => ⟨⟨_, _, _, rfl, ⟨by rw [show mfM th me gr lk j = true by first | simp [mfM, bI_ne c_6, hm0, c_22, c_39] | simp [mfM, bI_ne c_6, hm0, c_22]]; rfl, rfl, rfl⟩, by rw [ht]; exact hM⟩, hS.F ht⟩) hS.2.2 dX4_mayBeFound_47

set_option maxHeartbeats 4000000 in
set_option maxRecDepth 100000 in
theorem c_mAbs (l : Launch) {D : va_G} {aC : Nat → ClassId} {lo : Nat} {ad : Nat → Nat} {n : Nat} {th : Nat → Bool} {sz : Nat → Nat} {sg : Nat → Nat} {me : Nat → Nat} {gr : Nat → Int32} {lk : Int32} {P : Nat} {co : Nat → Option Nat} {tb : Nat → Nat} {fd : Nat} {wd : Nat → Nat} {sm : Nat → Nat} {rc : Nat → Nat} {X : Nat → Option va_E} (d : Nat) (h200 : n ≤ 200) (hme : ∀ k, me k ≤ 200) (hd2 : d ≤ 200) : Met l yX4_abbreviations (wsO yX4_abbreviations cX4_abbreviations 4 (some .int)) ({ frames := 0, cells := 0, slots := 0, locals := 0 } : Room) (mPc D vwCl (tyA aC) lo ad (ctM aC ad n th sz sg me gr lk P co tb fd wd sm rc X) [.ref (ad 1000), .int (nI d)]) (mD1 D vwCl lo (.int (nI (cnt (abM th me d) n))) ad (ctM aC ad n th sz sg me gr lk P co tb fd wd sm rc X)) 0 0 (fun q => lo ≤ q) := by
  refine Met.ofW (cc := cX4_abbreviations) (maxL := 4) (ret := (some .int)) (by decide) rfl ?_
  intro pr en s0 mm args below meth cc0 s₁ B hml hv
  obtain ⟨rfl, hlo, hM, hKK⟩ := hv
  have hK := hKK.1
  have hr := B.returns
  have hts := atoms_spec (ws := (wsO yX4_abbreviations cX4_abbreviations 4 (some .int))) B.pre
  have F : CallFix pr mm cc0 cX4_abbreviations 4 s0 (([.ref (ad 1000), .int (nI d)] : List Value).toArray) (wsO yX4_abbreviations cX4_abbreviations 4 (some .int)) RX4 := ⟨B.exec, B.bytes, hml, findClass_of_methodNamed B.named, hts⟩
  have hx := F.1
  have hb := F.2.1
  have hlocks := B.notSynchronized
  have hS : va_S (fun q => lo ≤ q) s0.heap s0.heap [] := va_S.rf
  have hl := lv_entry ([.ref (ad 1000), .int (nI d)]) (n := 4) (Nat.le_of_ble_eq_true rfl)
  rw [lg_entry_eq]
  generalize (lg_sl ([.ref (ad 1000), .int (nI d)]) ++ List.replicate (4 - (lg_sl ([.ref (ad 1000), .int (nI d)])).length) Slot.unset).toArray = ls at hl ⊢
  have hl : lv_has ls 4 [(0, .ref (ad 1000)), (1, .int (nI d))] := hl
  have loop_4 : ∀ (fu : Nat) (i : Nat), (i ≤ n) → n + 1 - i ≤ fu → ∀ (H : Heap) (locs : List Loc) (ls : Array Slot), mw D vwCl lo ad (ctM aC ad n th sz sg me gr lk P co tb fd wd sm rc X) H → va_S (fun q => lo ≤ q) s0.heap H locs → lv_has ls 4 [(0, .ref (ad 1000)), (1, .int (nI d)), (2, .int (nI (cnt (abM th me d) i))), (3, .int (nI (i + 1)))] → W pr l en (headSpec (wsO yX4_abbreviations cX4_abbreviations 4 (some .int)) ({ frames := 0, cells := 0, slots := 0, locals := 0 } : Room)).room s0 mm (([.ref (ad 1000), .int (nI d)] : List Value).toArray) below meth cc0 H locs 0 0 (MQ below (mD1 D vwCl lo (.int (nI (cnt (abM th me d) n))) ad (ctM aC ad n th sz sg me gr lk P co tb fd wd sm rc X)) (([.ref (ad 1000), .int (nI d)] : List Value).toArray) s0 0 0 (fun q => lo ≤ q)) (F0 mm 4 ls []) := by
    intro fu
    induction fu with
    | zero =>
      intro i hi hfu H locs ls hM hS hl
      exact absurd hfu (by omega)
    | succ fu ih_4 =>
      intro i hi hfu H locs ls hM hS hl
      have hcl := cnt_le (abM th me d) i
      refine lv_iload_n hx hb dX4_abbreviations_4 rfl (lv_at hl 3 rfl) ?_
      refine lv_aload_n hx hb dX4_abbreviations_5 rfl (lv_at hl 0 rfl) ?_
      refine m_get F (ci := 4) (v := .int (nI n)) (fun w h => tb_O (inX4 w h)) hK hM ctM_o rfl 0 (by decide) (tb_O lkX4_51) rfl dX4_abbreviations_6 ?_
      refine m_icmp_gt F (a := (i + 1)) (b := n) (by omega) (by omega) (tgt := 45) dX4_abbreviations_9 (by decide) (fun c_9 => ?_) (fun c_9 => ?_)
      · skip
        have hin9 : n = i := by omega
        subst hin9
        refine lv_iload_n hx hb dX4_abbreviations_45 rfl (lv_at hl 2 rfl) ?_
        exact W.iret hx hb hr (fun t ht hW => ⟨⟨_, _, _, rfl, ⟨rfl, rfl, rfl⟩, by rw [ht]; exact hM⟩, hS.F ht⟩) hS.2.2 dX4_abbreviations_46
      · skip
        refine lv_aload_n hx hb dX4_abbreviations_12 rfl (lv_at hl 0 rfl) ?_
        refine m_get F (ci := 4) (v := .ref (ad 1001)) (fun w h => tb_O (inX4 w h)) hK hM ctM_o rfl 1 (by decide) (tb_O lkX4_7) rfl dX4_abbreviations_13 ?_
        refine lv_iload_n hx hb dX4_abbreviations_16 rfl (lv_at hl 3 rfl) ?_
        refine m_zald F hK hM 2 rfl (j := (i + 1)) ctM_ath (by omega) (by decide) dX4_abbreviations_17 ?_
        refine m_top (y := (bI (th (i + 1)))) rfl ?_
        refine lv_if_eq (tgt := 37) hx hb dX4_abbreviations_18 (by decide) (fun c_18 => ?_) (fun c_18 => ?_)
        · skip
          refine lv_iload_n hx hb dX4_abbreviations_37 rfl (lv_at hl 2 rfl) ?_
          refine lv_istore_n (lv' := [(2, .int (nI (cnt (abM th me d) i))), (0, .ref (ad 1000)), (1, .int (nI d)), (3, .int (nI (i + 1)))]) hx hb dX4_abbreviations_38 rfl hl (by decide) rfl (fun ls hl => ?_)
          refine lv_iinc (v := (nI (i + 1 + 1))) (lv' := [(3, .int (nI (i + 1 + 1))), (2, .int (nI (cnt (abM th me d) i))), (0, .ref (ad 1000)), (1, .int (nI d))]) hx hb dX4_abbreviations_39 hl (k := 3) rfl (nI_1 (i + 1)) (by decide) rfl (fun ls hl => ?_)
          refine lv_goto (tgt := 4) hx hb dX4_abbreviations_42 (by decide) ?_
          have hcn : cnt (abM th me d) (i + 1) = cnt (abM th me d) i := by show cnt (abM th me d) i + _ = _; rw [if_neg (by first | simp [abM, bI_ne c_18, c_28] | simp [abM, bI_eq c_18])]; rfl
          rw [← hcn] at hl
          exact ih_4 (i + 1) (by omega) (by omega) _ _ _ hM hS (lv_sub hl [2, 3, 1, 0] rfl)
        · skip
          refine lv_aload_n hx hb dX4_abbreviations_21 rfl (lv_at hl 0 rfl) ?_
          refine m_get F (ci := 4) (v := .ref (ad 1004)) (fun w h => tb_O (inX4 w h)) hK hM ctM_o rfl 4 (by decide) (tb_O lkX4_20) rfl dX4_abbreviations_22 ?_
          refine lv_iload_n hx hb dX4_abbreviations_25 rfl (lv_at hl 3 rfl) ?_
          refine m_iald F hK hM 0 rfl (j := (i + 1)) ctM_ame (by omega) (by decide) dX4_abbreviations_26 ?_
          refine m_top (y := (nI (me (i + 1)))) rfl ?_
          refine lv_iload_n hx hb dX4_abbreviations_27 rfl (lv_at hl 1 rfl) ?_
          have hmi := hme (i + 1)
          refine m_icmp_ne F (a := (me (i + 1))) (b := d) (by omega) (by omega) (tgt := 37) dX4_abbreviations_28 (by decide) (fun c_28 => ?_) (fun c_28 => ?_)
          · skip
            refine lv_iload_n hx hb dX4_abbreviations_37 rfl (lv_at hl 2 rfl) ?_
            refine lv_istore_n (lv' := [(2, .int (nI (cnt (abM th me d) i))), (0, .ref (ad 1000)), (1, .int (nI d)), (3, .int (nI (i + 1)))]) hx hb dX4_abbreviations_38 rfl hl (by decide) rfl (fun ls hl => ?_)
            refine lv_iinc (v := (nI (i + 1 + 1))) (lv' := [(3, .int (nI (i + 1 + 1))), (2, .int (nI (cnt (abM th me d) i))), (0, .ref (ad 1000)), (1, .int (nI d))]) hx hb dX4_abbreviations_39 hl (k := 3) rfl (nI_1 (i + 1)) (by decide) rfl (fun ls hl => ?_)
            refine lv_goto (tgt := 4) hx hb dX4_abbreviations_42 (by decide) ?_
            have hcn : cnt (abM th me d) (i + 1) = cnt (abM th me d) i := by show cnt (abM th me d) i + _ = _; rw [if_neg (by first | simp [abM, bI_ne c_18, c_28] | simp [abM, bI_eq c_18])]; rfl
            rw [← hcn] at hl
            exact ih_4 (i + 1) (by omega) (by omega) _ _ _ hM hS (lv_sub hl [2, 3, 1, 0] rfl)
          · skip
            refine lv_iload_n hx hb dX4_abbreviations_31 rfl (lv_at hl 2 rfl) ?_
            refine lv_iconst (v := (nI 1)) hx hb dX4_abbreviations_32 (by decide) ?_
            refine lv_iadd hx hb dX4_abbreviations_33 ?_
            refine m_top (nI_add (cnt (abM th me d) i) 1) ?_
            refine lv_goto (tgt := 38) hx hb dX4_abbreviations_34 (by decide) ?_
            refine lv_istore_n (lv' := [(2, .int (nI (cnt (abM th me d) i + 1))), (0, .ref (ad 1000)), (1, .int (nI d)), (3, .int (nI (i + 1)))]) hx hb dX4_abbreviations_38 rfl hl (by decide) rfl (fun ls hl => ?_)
            refine lv_iinc (v := (nI (i + 1 + 1))) (lv' := [(3, .int (nI (i + 1 + 1))), (2, .int (nI (cnt (abM th me d) i + 1))), (0, .ref (ad 1000)), (1, .int (nI d))]) hx hb dX4_abbreviations_39 hl (k := 3) rfl (nI_1 (i + 1)) (by decide) rfl (fun ls hl => ?_)
            refine lv_goto (tgt := 4) hx hb dX4_abbreviations_42 (by decide) ?_
            have hcn : cnt (abM th me d) (i + 1) = cnt (abM th me d) i + 1 := by show cnt (abM th me d) i + _ = _; rw [if_pos (by simp [abM, bI_ne c_18, c_28])]
            rw [← hcn] at hl
            exact ih_4 (i + 1) (by omega) (by omega) _ _ _ hM hS (lv_sub hl [2, 3, 1, 0] rfl)
  refine lv_iconst (v := (nI 0)) hx hb dX4_abbreviations_0 (by decide) ?_
  refine lv_istore_n (lv' := [(2, .int (nI 0)), (0, .ref (ad 1000)), (1, .int (nI d))]) hx hb dX4_abbreviations_1 rfl hl (by decide) rfl (fun ls hl => ?_)
  refine lv_iconst (v := (nI 1)) hx hb dX4_abbreviations_2 (by decide) ?_
  refine lv_istore_n (lv' := [(3, .int (nI 1)), (2, .int (nI 0)), (0, .ref (ad 1000)), (1, .int (nI d))]) hx hb dX4_abbreviations_3 rfl hl (by decide) rfl (fun ls hl => ?_)
  exact loop_4 (n + 1) 0 (Nat.zero_le _) (by omega) _ _ _ hM hS (lv_sub hl [2, 3, 1, 0] rfl)

set_option maxHeartbeats 4000000 in
set_option maxRecDepth 100000 in
theorem c_mAbU1 (l : Launch) {D : va_G} {aC : Nat → ClassId} {lo : Nat} {ad : Nat → Nat} {n : Nat} {th : Nat → Bool} {sz : Nat → Nat} {sg : Nat → Nat} {me : Nat → Nat} {gr : Nat → Int32} {lk : Int32} {P : Nat} {co : Nat → Option Nat} {tb : Nat → Nat} {fd : Nat} {wd : Nat → Nat} {sm : Nat → Nat} {rc : Nat → Nat} {X : Nat → Option va_E} (x y : Int32) (hn0 : isE n th x = false) (h200 : n ≤ 200) : Met l yX4_abbreviation (wsO yX4_abbreviation cX4_abbreviation 3 (some .int)) ({ frames := 2, cells := 0, slots := 0, locals := 45 } : Room) (mPc D vwCl (tyA aC) lo ad (ctM aC ad n th sz sg me gr lk P co tb fd wd sm rc X) [.ref (ad 1000), .int x, .int y]) (mD1 D vwCl lo (.int (-1)) ad (ctM aC ad n th sz sg me gr lk P co tb fd wd sm rc X)) 0 0 (fun q => lo ≤ q) := by
  refine Met.ofW (cc := cX4_abbreviation) (maxL := 3) (ret := (some .int)) (by decide) rfl ?_
  intro pr en s0 mm args below meth cc0 s₁ B hml hv
  obtain ⟨rfl, hlo, hM, hKK⟩ := hv
  have hK := hKK.1
  have hr := B.returns
  have hts := atoms_spec (ws := (wsO yX4_abbreviation cX4_abbreviation 3 (some .int))) B.pre
  have F : CallFix pr mm cc0 cX4_abbreviation 3 s0 (([.ref (ad 1000), .int x, .int y] : List Value).toArray) (wsO yX4_abbreviation cX4_abbreviation 3 (some .int)) RX4 := ⟨B.exec, B.bytes, hml, findClass_of_methodNamed B.named, hts⟩
  have hx := F.1
  have hb := F.2.1
  have hlocks := B.notSynchronized
  have hS : va_S (fun q => lo ≤ q) s0.heap s0.heap [] := va_S.rf
  have hl := lv_entry ([.ref (ad 1000), .int x, .int y]) (n := 3) (Nat.le_of_ble_eq_true rfl)
  rw [lg_entry_eq]
  generalize (lg_sl ([.ref (ad 1000), .int x, .int y]) ++ List.replicate (3 - (lg_sl ([.ref (ad 1000), .int x, .int y])).length) Slot.unset).toArray = ls at hl ⊢
  have hl : lv_has ls 3 [(0, .ref (ad 1000)), (1, .int x), (2, .int y)] := hl
  refine lv_aload_n hx hb dX4_abbreviation_0 rfl (lv_at hl 0 rfl) ?_
  refine lv_iload_n hx hb dX4_abbreviation_1 rfl (lv_at hl 1 rfl) ?_
  refine m_d1 (v := .int (bI (isE n th x))) (ct1 := ctM aC ad n th sz sg me gr lk P co tb fd wd sm rc X) (va_runV (As := [.int x]) (rest := []) F (c_mIsE l x h200) (cwV 1 F.2.2.2.2 (go_V (fun _ h => tb_O h) mlX4_58 imX4_isEntry seX4_isEntry iniX4 cdX4_isEntry) rfl rfl rfl (by decide +kernel) ⟨Nat.le_of_ble_eq_true rfl, Nat.le_of_ble_eq_true rfl⟩) (mPreV hKK hM (Nat.le_trans hlo hS.1) ctM_o rfl) rfl rfl hl.1 rfl (lv_room (Nat.le_of_ble_eq_true rfl)) dX4_abbreviation_2 ⟨Nat.le_of_ble_eq_true rfl, Nat.le_of_ble_eq_true rfl⟩) hS (fun H locs hM hS => ?_)
  refine lv_if_eq (tgt := 16) hx hb dX4_abbreviation_5 (by decide) (fun c_5 => ?_) (fun c_5 => ?_)
  · skip
    refine lv_iconst (v := (-1)) hx hb dX4_abbreviation_16 (by decide) ?_
    exact W.iret hx hb hr (fun t ht hW => ⟨⟨_, _, _, rfl, ⟨rfl, rfl, rfl⟩, by rw [ht]; exact hM⟩, hS.F ht⟩) hS.2.2 dX4_abbreviation_17
  · skip
    exact absurd (by rw [hn0]; rfl) c_5

set_option maxHeartbeats 4000000 in
set_option maxRecDepth 100000 in
theorem c_mAbU2 (l : Launch) {D : va_G} {aC : Nat → ClassId} {lo : Nat} {ad : Nat → Nat} {n : Nat} {th : Nat → Bool} {sz : Nat → Nat} {sg : Nat → Nat} {me : Nat → Nat} {gr : Nat → Int32} {lk : Int32} {P : Nat} {co : Nat → Option Nat} {tb : Nat → Nat} {fd : Nat} {wd : Nat → Nat} {sm : Nat → Nat} {rc : Nat → Nat} {X : Nat → Option va_E} (x y : Int32) (hn0 : isE n th y = false) (h200 : n ≤ 200) : Met l yX4_abbreviation (wsO yX4_abbreviation cX4_abbreviation 3 (some .int)) ({ frames := 2, cells := 0, slots := 0, locals := 45 } : Room) (mPc D vwCl (tyA aC) lo ad (ctM aC ad n th sz sg me gr lk P co tb fd wd sm rc X) [.ref (ad 1000), .int x, .int y]) (mD1 D vwCl lo (.int (-1)) ad (ctM aC ad n th sz sg me gr lk P co tb fd wd sm rc X)) 0 0 (fun q => lo ≤ q) := by
  refine Met.ofW (cc := cX4_abbreviation) (maxL := 3) (ret := (some .int)) (by decide) rfl ?_
  intro pr en s0 mm args below meth cc0 s₁ B hml hv
  obtain ⟨rfl, hlo, hM, hKK⟩ := hv
  have hK := hKK.1
  have hr := B.returns
  have hts := atoms_spec (ws := (wsO yX4_abbreviation cX4_abbreviation 3 (some .int))) B.pre
  have F : CallFix pr mm cc0 cX4_abbreviation 3 s0 (([.ref (ad 1000), .int x, .int y] : List Value).toArray) (wsO yX4_abbreviation cX4_abbreviation 3 (some .int)) RX4 := ⟨B.exec, B.bytes, hml, findClass_of_methodNamed B.named, hts⟩
  have hx := F.1
  have hb := F.2.1
  have hlocks := B.notSynchronized
  have hS : va_S (fun q => lo ≤ q) s0.heap s0.heap [] := va_S.rf
  have hl := lv_entry ([.ref (ad 1000), .int x, .int y]) (n := 3) (Nat.le_of_ble_eq_true rfl)
  rw [lg_entry_eq]
  generalize (lg_sl ([.ref (ad 1000), .int x, .int y]) ++ List.replicate (3 - (lg_sl ([.ref (ad 1000), .int x, .int y])).length) Slot.unset).toArray = ls at hl ⊢
  have hl : lv_has ls 3 [(0, .ref (ad 1000)), (1, .int x), (2, .int y)] := hl
  refine lv_aload_n hx hb dX4_abbreviation_0 rfl (lv_at hl 0 rfl) ?_
  refine lv_iload_n hx hb dX4_abbreviation_1 rfl (lv_at hl 1 rfl) ?_
  refine m_d1 (v := .int (bI (isE n th x))) (ct1 := ctM aC ad n th sz sg me gr lk P co tb fd wd sm rc X) (va_runV (As := [.int x]) (rest := []) F (c_mIsE l x h200) (cwV 1 F.2.2.2.2 (go_V (fun _ h => tb_O h) mlX4_58 imX4_isEntry seX4_isEntry iniX4 cdX4_isEntry) rfl rfl rfl (by decide +kernel) ⟨Nat.le_of_ble_eq_true rfl, Nat.le_of_ble_eq_true rfl⟩) (mPreV hKK hM (Nat.le_trans hlo hS.1) ctM_o rfl) rfl rfl hl.1 rfl (lv_room (Nat.le_of_ble_eq_true rfl)) dX4_abbreviation_2 ⟨Nat.le_of_ble_eq_true rfl, Nat.le_of_ble_eq_true rfl⟩) hS (fun H locs hM hS => ?_)
  refine lv_if_eq (tgt := 16) hx hb dX4_abbreviation_5 (by decide) (fun c_5 => ?_) (fun c_5 => ?_)
  · skip
    refine lv_iconst (v := (-1)) hx hb dX4_abbreviation_16 (by decide) ?_
    exact W.iret hx hb hr (fun t ht hW => ⟨⟨_, _, _, rfl, ⟨rfl, rfl, rfl⟩, by rw [ht]; exact hM⟩, hS.F ht⟩) hS.2.2 dX4_abbreviation_17
  · skip
    refine lv_aload_n hx hb dX4_abbreviation_8 rfl (lv_at hl 0 rfl) ?_
    refine lv_iload_n hx hb dX4_abbreviation_9 rfl (lv_at hl 2 rfl) ?_
    refine m_d1 (v := .int (bI (isE n th y))) (ct1 := ctM aC ad n th sz sg me gr lk P co tb fd wd sm rc X) (va_runV (As := [.int y]) (rest := []) F (c_mIsE l y h200) (cwV 1 F.2.2.2.2 (go_V (fun _ h => tb_O h) mlX4_58 imX4_isEntry seX4_isEntry iniX4 cdX4_isEntry) rfl rfl rfl (by decide +kernel) ⟨Nat.le_of_ble_eq_true rfl, Nat.le_of_ble_eq_true rfl⟩) (mPreV hKK hM (Nat.le_trans hlo hS.1) ctM_o rfl) rfl rfl hl.1 rfl (lv_room (Nat.le_of_ble_eq_true rfl)) dX4_abbreviation_10 ⟨Nat.le_of_ble_eq_true rfl, Nat.le_of_ble_eq_true rfl⟩) hS (fun H locs hM hS => ?_)
    refine lv_if_ne (tgt := 18) hx hb dX4_abbreviation_13 (by decide) (fun c_13 => ?_) (fun c_13 => ?_)
    · skip
      exact absurd (by rw [hn0]; rfl) c_13
    · skip
      refine lv_iconst (v := (-1)) hx hb dX4_abbreviation_16 (by decide) ?_
      exact W.iret hx hb hr (fun t ht hW => ⟨⟨_, _, _, rfl, ⟨rfl, rfl, rfl⟩, by rw [ht]; exact hM⟩, hS.F ht⟩) hS.2.2 dX4_abbreviation_17

set_option maxHeartbeats 4000000 in
set_option maxRecDepth 100000 in
theorem c_mAbS (l : Launch) {D : va_G} {aC : Nat → ClassId} {lo : Nat} {ad : Nat → Nat} {n : Nat} {th : Nat → Bool} {sz : Nat → Nat} {sg : Nat → Nat} {me : Nat → Nat} {gr : Nat → Int32} {lk : Int32} {P : Nat} {co : Nat → Option Nat} {tb : Nat → Nat} {fd : Nat} {wd : Nat → Nat} {sm : Nat → Nat} {rc : Nat → Nat} {X : Nat → Option va_E} (j k : Nat) (hj1 : 1 ≤ j) (hj2 : j ≤ n) (h200 : n ≤ 200) (ht : th j = true) (hk1 : 1 ≤ k) (hk2 : k ≤ n) (htk : th k = true) (hme : ∀ k, me k ≤ 200) (hst : j = k ∨ me k ≠ 0 ∨ 0 < cnt (abM th me j) n) : Met l yX4_abbreviation (wsO yX4_abbreviation cX4_abbreviation 3 (some .int)) ({ frames := 2, cells := 0, slots := 0, locals := 45 } : Room) (mPc D vwCl (tyA aC) lo ad (ctM aC ad n th sz sg me gr lk P co tb fd wd sm rc X) [.ref (ad 1000), .int (nI j), .int (nI k)]) (mD1 D vwCl lo (.int (-3)) ad (ctM aC ad n th sz sg me gr lk P co tb fd wd sm rc X)) 0 0 (fun q => lo ≤ q) := by
  refine Met.ofW (cc := cX4_abbreviation) (maxL := 3) (ret := (some .int)) (by decide) rfl ?_
  intro pr en s0 mm args below meth cc0 s₁ B hml hv
  obtain ⟨rfl, hlo, hM, hKK⟩ := hv
  have hK := hKK.1
  have hr := B.returns
  have hts := atoms_spec (ws := (wsO yX4_abbreviation cX4_abbreviation 3 (some .int))) B.pre
  have F : CallFix pr mm cc0 cX4_abbreviation 3 s0 (([.ref (ad 1000), .int (nI j), .int (nI k)] : List Value).toArray) (wsO yX4_abbreviation cX4_abbreviation 3 (some .int)) RX4 := ⟨B.exec, B.bytes, hml, findClass_of_methodNamed B.named, hts⟩
  have hx := F.1
  have hb := F.2.1
  have hlocks := B.notSynchronized
  have hS : va_S (fun q => lo ≤ q) s0.heap s0.heap [] := va_S.rf
  have hl := lv_entry ([.ref (ad 1000), .int (nI j), .int (nI k)]) (n := 3) (Nat.le_of_ble_eq_true rfl)
  rw [lg_entry_eq]
  generalize (lg_sl ([.ref (ad 1000), .int (nI j), .int (nI k)]) ++ List.replicate (3 - (lg_sl ([.ref (ad 1000), .int (nI j), .int (nI k)])).length) Slot.unset).toArray = ls at hl ⊢
  have hl : lv_has ls 3 [(0, .ref (ad 1000)), (1, .int (nI j)), (2, .int (nI k))] := hl
  refine lv_aload_n hx hb dX4_abbreviation_0 rfl (lv_at hl 0 rfl) ?_
  refine lv_iload_n hx hb dX4_abbreviation_1 rfl (lv_at hl 1 rfl) ?_
  refine m_d1 (v := .int (bI (isE n th (nI j)))) (ct1 := ctM aC ad n th sz sg me gr lk P co tb fd wd sm rc X) (va_runV (As := [.int (nI j)]) (rest := []) F (c_mIsE l (nI j) h200) (cwV 1 F.2.2.2.2 (go_V (fun _ h => tb_O h) mlX4_58 imX4_isEntry seX4_isEntry iniX4 cdX4_isEntry) rfl rfl rfl (by decide +kernel) ⟨Nat.le_of_ble_eq_true rfl, Nat.le_of_ble_eq_true rfl⟩) (mPreV hKK hM (Nat.le_trans hlo hS.1) ctM_o rfl) rfl rfl hl.1 rfl (lv_room (Nat.le_of_ble_eq_true rfl)) dX4_abbreviation_2 ⟨Nat.le_of_ble_eq_true rfl, Nat.le_of_ble_eq_true rfl⟩) hS (fun H locs hM hS => ?_)
  refine lv_if_eq (tgt := 16) hx hb dX4_abbreviation_5 (by decide) (fun c_5 => ?_) (fun c_5 => ?_)
  · skip
    exact absurd (by rw [isE_nI hj1 hj2 h200, ht]; decide) (fun h : ¬ bI (isE n th (nI j)) = 0 => h c_5)
  · skip
    refine lv_aload_n hx hb dX4_abbreviation_8 rfl (lv_at hl 0 rfl) ?_
    refine lv_iload_n hx hb dX4_abbreviation_9 rfl (lv_at hl 2 rfl) ?_
    refine m_d1 (v := .int (bI (isE n th (nI k)))) (ct1 := ctM aC ad n th sz sg me gr lk P co tb fd wd sm rc X) (va_runV (As := [.int (nI k)]) (rest := []) F (c_mIsE l (nI k) h200) (cwV 1 F.2.2.2.2 (go_V (fun _ h => tb_O h) mlX4_58 imX4_isEntry seX4_isEntry iniX4 cdX4_isEntry) rfl rfl rfl (by decide +kernel) ⟨Nat.le_of_ble_eq_true rfl, Nat.le_of_ble_eq_true rfl⟩) (mPreV hKK hM (Nat.le_trans hlo hS.1) ctM_o rfl) rfl rfl hl.1 rfl (lv_room (Nat.le_of_ble_eq_true rfl)) dX4_abbreviation_10 ⟨Nat.le_of_ble_eq_true rfl, Nat.le_of_ble_eq_true rfl⟩) hS (fun H locs hM hS => ?_)
    refine lv_if_ne (tgt := 18) hx hb dX4_abbreviation_13 (by decide) (fun c_13 => ?_) (fun c_13 => ?_)
    · skip
      refine lv_iload_n hx hb dX4_abbreviation_18 rfl (lv_at hl 1 rfl) ?_
      refine lv_iload_n hx hb dX4_abbreviation_19 rfl (lv_at hl 2 rfl) ?_
      refine m_icmp_eq F (a := j) (b := k) (by omega) (by omega) (tgt := 40) dX4_abbreviation_20 (by decide) (fun c_20 => ?_) (fun c_20 => ?_)
      · skip
        refine lv_bipush (v := (-3)) hx hb dX4_abbreviation_40 (by decide) ?_
        exact W.iret hx hb hr (fun t ht hW => ⟨⟨_, _, _, rfl, ⟨rfl, rfl, rfl⟩, by rw [ht]; exact hM⟩, hS.F ht⟩) hS.2.2 dX4_abbreviation_42
      · skip
        refine lv_aload_n hx hb dX4_abbreviation_23 rfl (lv_at hl 0 rfl) ?_
        refine m_get F (ci := 4) (v := .ref (ad 1004)) (fun w h => tb_O (inX4 w h)) hK hM ctM_o rfl 4 (by decide) (tb_O lkX4_20) rfl dX4_abbreviation_24 ?_
        refine lv_iload_n hx hb dX4_abbreviation_27 rfl (lv_at hl 2 rfl) ?_
        refine m_iald F hK hM 0 rfl (j := k) ctM_ame (by omega) (by decide) dX4_abbreviation_28 ?_
        refine m_top (y := (nI (me k))) rfl ?_
        refine lv_if_gt (tgt := 40) hx hb dX4_abbreviation_29 (by decide) (fun c_29 => ?_) (fun c_29 => ?_)
        · skip
          refine lv_bipush (v := (-3)) hx hb dX4_abbreviation_40 (by decide) ?_
          exact W.iret hx hb hr (fun t ht hW => ⟨⟨_, _, _, rfl, ⟨rfl, rfl, rfl⟩, by rw [ht]; exact hM⟩, hS.F ht⟩) hS.2.2 dX4_abbreviation_42
        · skip
          have hmk : me k = 0 := by have hq := hme k; rcases Nat.eq_zero_or_pos (me k) with q | q; exact q; exact absurd (nI_lt q (by omega)) (by rw [nI_0]; exact c_29)
          refine lv_aload_n hx hb dX4_abbreviation_32 rfl (lv_at hl 0 rfl) ?_
          refine lv_iload_n hx hb dX4_abbreviation_33 rfl (lv_at hl 1 rfl) ?_
          refine m_d1 (v := .int (nI (cnt (abM th me j) n))) (ct1 := ctM aC ad n th sz sg me gr lk P co tb fd wd sm rc X) (va_runV (As := [.int (nI j)]) (rest := []) F (c_mAbs l j h200 hme (by omega)) (cwV 1 F.2.2.2.2 (go_V (fun _ h => tb_O h) mlX4_82 imX4_abbreviations seX4_abbreviations iniX4 cdX4_abbreviations) rfl rfl rfl (by decide +kernel) ⟨Nat.le_of_ble_eq_true rfl, Nat.le_of_ble_eq_true rfl⟩) (mPreV hKK hM (Nat.le_trans hlo hS.1) ctM_o rfl) rfl rfl hl.1 rfl (lv_room (Nat.le_of_ble_eq_true rfl)) dX4_abbreviation_34 ⟨Nat.le_of_ble_eq_true rfl, Nat.le_of_ble_eq_true rfl⟩) hS (fun H locs hM hS => ?_)
          refine lv_if_le (tgt := 43) hx hb dX4_abbreviation_37 (by decide) (fun c_37 => ?_) (fun c_37 => ?_)
          · skip
            have hcz : ¬ 0 < cnt (abM th me j) n := fun q => nI_nle q (by have := cnt_le (abM th me j) n; omega) c_37
            exact absurd hst (fun q => q.elim c_20 (fun q => q.elim (fun q => q hmk) hcz))
          · skip
            refine lv_bipush (v := (-3)) hx hb dX4_abbreviation_40 (by decide) ?_
            exact W.iret hx hb hr (fun t ht hW => ⟨⟨_, _, _, rfl, ⟨rfl, rfl, rfl⟩, by rw [ht]; exact hM⟩, hS.F ht⟩) hS.2.2 dX4_abbreviation_42
    · skip
      exact absurd (by rw [isE_nI hk1 hk2 h200, htk]; decide) (fun h : ¬ bI (isE n th (nI k)) = 0 => h c_13)

set_option maxHeartbeats 4000000 in
set_option maxRecDepth 100000 in
theorem c_mAb (l : Launch) {D : va_G} {aC : Nat → ClassId} {lo : Nat} {ad : Nat → Nat} {n : Nat} {th : Nat → Bool} {sz : Nat → Nat} {sg : Nat → Nat} {me : Nat → Nat} {gr : Nat → Int32} {lk : Int32} {P : Nat} {co : Nat → Option Nat} {tb : Nat → Nat} {fd : Nat} {wd : Nat → Nat} {sm : Nat → Nat} {rc : Nat → Nat} {X : Nat → Option va_E} (j k : Nat) (hj1 : 1 ≤ j) (hj2 : j ≤ n) (h200 : n ≤ 200) (ht : th j = true) (hk1 : 1 ≤ k) (hk2 : k ≤ n) (htk : th k = true) (hme : ∀ k, me k ≤ 200) (hjk : ¬ j = k) (hsk : me k = 0) (hcz : cnt (abM th me j) n = 0) : Met l yX4_abbreviation (wsO yX4_abbreviation cX4_abbreviation 3 (some .int)) ({ frames := 2, cells := 0, slots := 0, locals := 45 } : Room) (mPc D vwCl (tyA aC) lo ad (ctM aC ad n th sz sg me gr lk P co tb fd wd sm rc X) [.ref (ad 1000), .int (nI j), .int (nI k)]) (mD1 D vwCl lo (.int (nI (cnt (abM th (un me j k) k) n))) ad (ctM aC ad n th sz sg (un me j k) gr lk P co tb fd wd sm rc X)) 0 0 (fun q => lo ≤ q) := by
  refine Met.ofW (cc := cX4_abbreviation) (maxL := 3) (ret := (some .int)) (by decide) rfl ?_
  intro pr en s0 mm args below meth cc0 s₁ B hml hv
  obtain ⟨rfl, hlo, hM, hKK⟩ := hv
  have hK := hKK.1
  have hr := B.returns
  have hts := atoms_spec (ws := (wsO yX4_abbreviation cX4_abbreviation 3 (some .int))) B.pre
  have F : CallFix pr mm cc0 cX4_abbreviation 3 s0 (([.ref (ad 1000), .int (nI j), .int (nI k)] : List Value).toArray) (wsO yX4_abbreviation cX4_abbreviation 3 (some .int)) RX4 := ⟨B.exec, B.bytes, hml, findClass_of_methodNamed B.named, hts⟩
  have hx := F.1
  have hb := F.2.1
  have hlocks := B.notSynchronized
  have hS : va_S (fun q => lo ≤ q) s0.heap s0.heap [] := va_S.rf
  have hl := lv_entry ([.ref (ad 1000), .int (nI j), .int (nI k)]) (n := 3) (Nat.le_of_ble_eq_true rfl)
  rw [lg_entry_eq]
  generalize (lg_sl ([.ref (ad 1000), .int (nI j), .int (nI k)]) ++ List.replicate (3 - (lg_sl ([.ref (ad 1000), .int (nI j), .int (nI k)])).length) Slot.unset).toArray = ls at hl ⊢
  have hl : lv_has ls 3 [(0, .ref (ad 1000)), (1, .int (nI j)), (2, .int (nI k))] := hl
  refine lv_aload_n hx hb dX4_abbreviation_0 rfl (lv_at hl 0 rfl) ?_
  refine lv_iload_n hx hb dX4_abbreviation_1 rfl (lv_at hl 1 rfl) ?_
  refine m_d1 (v := .int (bI (isE n th (nI j)))) (ct1 := ctM aC ad n th sz sg me gr lk P co tb fd wd sm rc X) (va_runV (As := [.int (nI j)]) (rest := []) F (c_mIsE l (nI j) h200) (cwV 1 F.2.2.2.2 (go_V (fun _ h => tb_O h) mlX4_58 imX4_isEntry seX4_isEntry iniX4 cdX4_isEntry) rfl rfl rfl (by decide +kernel) ⟨Nat.le_of_ble_eq_true rfl, Nat.le_of_ble_eq_true rfl⟩) (mPreV hKK hM (Nat.le_trans hlo hS.1) ctM_o rfl) rfl rfl hl.1 rfl (lv_room (Nat.le_of_ble_eq_true rfl)) dX4_abbreviation_2 ⟨Nat.le_of_ble_eq_true rfl, Nat.le_of_ble_eq_true rfl⟩) hS (fun H locs hM hS => ?_)
  refine lv_if_eq (tgt := 16) hx hb dX4_abbreviation_5 (by decide) (fun c_5 => ?_) (fun c_5 => ?_)
  · skip
    exact absurd (by rw [isE_nI hj1 hj2 h200, ht]; decide) (fun h : ¬ bI (isE n th (nI j)) = 0 => h c_5)
  · skip
    refine lv_aload_n hx hb dX4_abbreviation_8 rfl (lv_at hl 0 rfl) ?_
    refine lv_iload_n hx hb dX4_abbreviation_9 rfl (lv_at hl 2 rfl) ?_
    refine m_d1 (v := .int (bI (isE n th (nI k)))) (ct1 := ctM aC ad n th sz sg me gr lk P co tb fd wd sm rc X) (va_runV (As := [.int (nI k)]) (rest := []) F (c_mIsE l (nI k) h200) (cwV 1 F.2.2.2.2 (go_V (fun _ h => tb_O h) mlX4_58 imX4_isEntry seX4_isEntry iniX4 cdX4_isEntry) rfl rfl rfl (by decide +kernel) ⟨Nat.le_of_ble_eq_true rfl, Nat.le_of_ble_eq_true rfl⟩) (mPreV hKK hM (Nat.le_trans hlo hS.1) ctM_o rfl) rfl rfl hl.1 rfl (lv_room (Nat.le_of_ble_eq_true rfl)) dX4_abbreviation_10 ⟨Nat.le_of_ble_eq_true rfl, Nat.le_of_ble_eq_true rfl⟩) hS (fun H locs hM hS => ?_)
    refine lv_if_ne (tgt := 18) hx hb dX4_abbreviation_13 (by decide) (fun c_13 => ?_) (fun c_13 => ?_)
    · skip
      refine lv_iload_n hx hb dX4_abbreviation_18 rfl (lv_at hl 1 rfl) ?_
      refine lv_iload_n hx hb dX4_abbreviation_19 rfl (lv_at hl 2 rfl) ?_
      refine m_icmp_eq F (a := j) (b := k) (by omega) (by omega) (tgt := 40) dX4_abbreviation_20 (by decide) (fun c_20 => ?_) (fun c_20 => ?_)
      · skip
        exact absurd c_20 hjk
      · skip
        refine lv_aload_n hx hb dX4_abbreviation_23 rfl (lv_at hl 0 rfl) ?_
        refine m_get F (ci := 4) (v := .ref (ad 1004)) (fun w h => tb_O (inX4 w h)) hK hM ctM_o rfl 4 (by decide) (tb_O lkX4_20) rfl dX4_abbreviation_24 ?_
        refine lv_iload_n hx hb dX4_abbreviation_27 rfl (lv_at hl 2 rfl) ?_
        refine m_iald F hK hM 0 rfl (j := k) ctM_ame (by omega) (by decide) dX4_abbreviation_28 ?_
        refine m_top (y := (nI (me k))) rfl ?_
        refine lv_if_gt (tgt := 40) hx hb dX4_abbreviation_29 (by decide) (fun c_29 => ?_) (fun c_29 => ?_)
        · skip
          exact absurd c_29 (by rw [hsk]; decide)
        · skip
          refine lv_aload_n hx hb dX4_abbreviation_32 rfl (lv_at hl 0 rfl) ?_
          refine lv_iload_n hx hb dX4_abbreviation_33 rfl (lv_at hl 1 rfl) ?_
          refine m_d1 (v := .int (nI (cnt (abM th me j) n))) (ct1 := ctM aC ad n th sz sg me gr lk P co tb fd wd sm rc X) (va_runV (As := [.int (nI j)]) (rest := []) F (c_mAbs l j h200 hme (by omega)) (cwV 1 F.2.2.2.2 (go_V (fun _ h => tb_O h) mlX4_82 imX4_abbreviations seX4_abbreviations iniX4 cdX4_abbreviations) rfl rfl rfl (by decide +kernel) ⟨Nat.le_of_ble_eq_true rfl, Nat.le_of_ble_eq_true rfl⟩) (mPreV hKK hM (Nat.le_trans hlo hS.1) ctM_o rfl) rfl rfl hl.1 rfl (lv_room (Nat.le_of_ble_eq_true rfl)) dX4_abbreviation_34 ⟨Nat.le_of_ble_eq_true rfl, Nat.le_of_ble_eq_true rfl⟩) hS (fun H locs hM hS => ?_)
          refine lv_if_le (tgt := 43) hx hb dX4_abbreviation_37 (by decide) (fun c_37 => ?_) (fun c_37 => ?_)
          · skip
            refine lv_aload_n hx hb dX4_abbreviation_43 rfl (lv_at hl 0 rfl) ?_
            refine m_get F (ci := 4) (v := .ref (ad 1004)) (fun w h => tb_O (inX4 w h)) hK hM ctM_o rfl 4 (by decide) (tb_O lkX4_20) rfl dX4_abbreviation_44 ?_
            refine lv_iload_n hx hb dX4_abbreviation_47 rfl (lv_at hl 1 rfl) ?_
            refine lv_iload_n hx hb dX4_abbreviation_48 rfl (lv_at hl 2 rfl) ?_
            refine m_iast F hK hM hS 0 rfl (j := j) (x := (nI k)) ctM_ame (by omega) (by decide) dX4_abbreviation_49 (fun H locs hM hS => ?_)
            have hM : mw D vwCl lo ad (ctM aC ad n th sz sg (un me j k) gr lk P co tb fd wd sm rc X) H := by rw [upd_nI, ctM_me] at hM; exact hM
            refine lv_aload_n hx hb dX4_abbreviation_50 rfl (lv_at hl 0 rfl) ?_
            refine lv_iload_n hx hb dX4_abbreviation_51 rfl (lv_at hl 2 rfl) ?_
            refine m_d1 (v := .int (nI (cnt (abM th (un me j k) k) n))) (ct1 := ctM aC ad n th sz sg (un me j k) gr lk P co tb fd wd sm rc X) (va_runV (As := [.int (nI k)]) (rest := []) F (c_mAbs l k h200 (fun z => by unfold un va_up; split; omega; exact hme z) (by omega)) (cwV 1 F.2.2.2.2 (go_V (fun _ h => tb_O h) mlX4_82 imX4_abbreviations seX4_abbreviations iniX4 cdX4_abbreviations) rfl rfl rfl (by decide +kernel) ⟨Nat.le_of_ble_eq_true rfl, Nat.le_of_ble_eq_true rfl⟩) (mPreV hKK hM (Nat.le_trans hlo hS.1) ctM_o rfl) rfl rfl hl.1 rfl (lv_room (Nat.le_of_ble_eq_true rfl)) dX4_abbreviation_52 ⟨Nat.le_of_ble_eq_true rfl, Nat.le_of_ble_eq_true rfl⟩) hS (fun H locs hM hS => ?_)
            exact W.iret hx hb hr (fun t ht hW => ⟨⟨_, _, _, rfl, ⟨rfl, rfl, rfl⟩, by rw [ht]; exact hM⟩, hS.F ht⟩) hS.2.2 dX4_abbreviation_55
          · skip
            exact absurd (by rw [hcz]; decide) c_37
    · skip
      exact absurd (by rw [isE_nI hk1 hk2 h200, htk]; decide) (fun h : ¬ bI (isE n th (nI k)) = 0 => h c_13)

set_option maxHeartbeats 4000000 in
set_option maxRecDepth 100000 in
theorem c_mWordU (l : Launch) {D : va_G} {aC : Nat → ClassId} {lo : Nat} {ad : Nat → Nat} {n : Nat} {th : Nat → Bool} {sz : Nat → Nat} {sg : Nat → Nat} {me : Nat → Nat} {gr : Nat → Int32} {lk : Int32} {P : Nat} {co : Nat → Option Nat} {tb : Nat → Nat} {fd : Nat} {wd : Nat → Nat} {sm : Nat → Nat} {rc : Nat → Nat} {X : Nat → Option va_E} (x : Int32) (hk : hasM fd x = false) : Met l yX4_word (wsO yX4_word cX4_word 2 (some .int)) ({ frames := 1, cells := 0, slots := 0, locals := 22 } : Room) (mPc D vwCl (tyA aC) lo ad (ctM aC ad n th sz sg me gr lk P co tb fd wd sm rc X) [.ref (ad 1000), .int x]) (mD1 D vwCl lo (.int (-1)) ad (ctM aC ad n th sz sg me gr lk P co tb fd wd sm rc X)) 0 0 (fun q => lo ≤ q) := by
  refine Met.ofW (cc := cX4_word) (maxL := 2) (ret := (some .int)) (by decide) rfl ?_
  intro pr en s0 mm args below meth cc0 s₁ B hml hv
  obtain ⟨rfl, hlo, hM, hKK⟩ := hv
  have hK := hKK.1
  have hr := B.returns
  have hts := atoms_spec (ws := (wsO yX4_word cX4_word 2 (some .int))) B.pre
  have F : CallFix pr mm cc0 cX4_word 2 s0 (([.ref (ad 1000), .int x] : List Value).toArray) (wsO yX4_word cX4_word 2 (some .int)) RX4 := ⟨B.exec, B.bytes, hml, findClass_of_methodNamed B.named, hts⟩
  have hx := F.1
  have hb := F.2.1
  have hlocks := B.notSynchronized
  have hS : va_S (fun q => lo ≤ q) s0.heap s0.heap [] := va_S.rf
  have hl := lv_entry ([.ref (ad 1000), .int x]) (n := 2) (Nat.le_of_ble_eq_true rfl)
  rw [lg_entry_eq]
  generalize (lg_sl ([.ref (ad 1000), .int x]) ++ List.replicate (2 - (lg_sl ([.ref (ad 1000), .int x])).length) Slot.unset).toArray = ls at hl ⊢
  have hl : lv_has ls 2 [(0, .ref (ad 1000)), (1, .int x)] := hl
  refine lv_iload_n hx hb dX4_word_0 rfl (lv_at hl 1 rfl) ?_
  refine lv_iconst (v := (nI 0)) hx hb dX4_word_1 (by decide) ?_
  refine lv_aload_n hx hb dX4_word_2 rfl (lv_at hl 0 rfl) ?_
  refine m_get F (ci := 4) (v := .int (nI fd)) (fun w h => tb_O (inX4 w h)) hK hM ctM_o rfl 10 (by decide) (tb_O lkX4_71) rfl dX4_word_3 ?_
  refine lv_iconst (v := (nI 1)) hx hb dX4_word_6 (by decide) ?_
  refine lv_isub hx hb dX4_word_7 ?_
  refine m_d1 (v := .int (bI (btw x (nI 0) (nI fd - nI 1)))) (ct1 := ctM aC ad n th sz sg me gr lk P co tb fd wd sm rc X) (va_runS (As := [.int x, .int (nI 0), .int ((nI fd) - (nI 1))]) (rest := []) F (c_between l x (nI 0) (nI fd - nI 1)) (va_cwS 3 F.2.2.2.2 (go_S (fun _ h => tb_O h) mlX4_54 stX4_between iniX4 cdX4_between) rfl rfl rfl (by decide +kernel) ⟨Nat.le_of_ble_eq_true rfl, Nat.le_of_ble_eq_true rfl⟩) (mPreS hKK hM (Nat.le_trans hlo hS.1)) rfl rfl hl.1 rfl (lv_room (Nat.le_of_ble_eq_true rfl)) dX4_word_8 ⟨Nat.le_of_ble_eq_true rfl, Nat.le_of_ble_eq_true rfl⟩) hS (fun H locs hM hS => ?_)
  refine lv_if_eq (tgt := 23) hx hb dX4_word_11 (by decide) (fun c_11 => ?_) (fun c_11 => ?_)
  · skip
    refine lv_iconst (v := (-1)) hx hb dX4_word_23 (by decide) ?_
    exact W.iret hx hb hr (fun t ht hW => ⟨⟨_, _, _, rfl, ⟨rfl, rfl, rfl⟩, by rw [ht]; exact hM⟩, hS.F ht⟩) hS.2.2 dX4_word_24
  · skip
    exact absurd (by rw [show btw x (nI 0) (nI fd - nI 1) = hasM fd x from rfl, hk]; rfl) c_11

set_option maxHeartbeats 4000000 in
set_option maxRecDepth 100000 in
theorem c_mWord (l : Launch) {D : va_G} {aC : Nat → ClassId} {lo : Nat} {ad : Nat → Nat} {n : Nat} {th : Nat → Bool} {sz : Nat → Nat} {sg : Nat → Nat} {me : Nat → Nat} {gr : Nat → Int32} {lk : Int32} {P : Nat} {co : Nat → Option Nat} {tb : Nat → Nat} {fd : Nat} {wd : Nat → Nat} {sm : Nat → Nat} {rc : Nat → Nat} {X : Nat → Option va_E} (j : Nat) (hh : fd ≤ 200) (hj : j < fd) : Met l yX4_word (wsO yX4_word cX4_word 2 (some .int)) ({ frames := 1, cells := 0, slots := 0, locals := 22 } : Room) (mPc D vwCl (tyA aC) lo ad (ctM aC ad n th sz sg me gr lk P co tb fd wd sm rc X) [.ref (ad 1000), .int (nI j)]) (mD1 D vwCl lo (.int (nI (wd j))) ad (ctM aC ad n th sz sg me gr lk P co tb fd wd sm rc X)) 0 0 (fun q => lo ≤ q) := by
  refine Met.ofW (cc := cX4_word) (maxL := 2) (ret := (some .int)) (by decide) rfl ?_
  intro pr en s0 mm args below meth cc0 s₁ B hml hv
  obtain ⟨rfl, hlo, hM, hKK⟩ := hv
  have hK := hKK.1
  have hr := B.returns
  have hts := atoms_spec (ws := (wsO yX4_word cX4_word 2 (some .int))) B.pre
  have F : CallFix pr mm cc0 cX4_word 2 s0 (([.ref (ad 1000), .int (nI j)] : List Value).toArray) (wsO yX4_word cX4_word 2 (some .int)) RX4 := ⟨B.exec, B.bytes, hml, findClass_of_methodNamed B.named, hts⟩
  have hx := F.1
  have hb := F.2.1
  have hlocks := B.notSynchronized
  have hS : va_S (fun q => lo ≤ q) s0.heap s0.heap [] := va_S.rf
  have hl := lv_entry ([.ref (ad 1000), .int (nI j)]) (n := 2) (Nat.le_of_ble_eq_true rfl)
  rw [lg_entry_eq]
  generalize (lg_sl ([.ref (ad 1000), .int (nI j)]) ++ List.replicate (2 - (lg_sl ([.ref (ad 1000), .int (nI j)])).length) Slot.unset).toArray = ls at hl ⊢
  have hl : lv_has ls 2 [(0, .ref (ad 1000)), (1, .int (nI j))] := hl
  refine lv_iload_n hx hb dX4_word_0 rfl (lv_at hl 1 rfl) ?_
  refine lv_iconst (v := (nI 0)) hx hb dX4_word_1 (by decide) ?_
  refine lv_aload_n hx hb dX4_word_2 rfl (lv_at hl 0 rfl) ?_
  refine m_get F (ci := 4) (v := .int (nI fd)) (fun w h => tb_O (inX4 w h)) hK hM ctM_o rfl 10 (by decide) (tb_O lkX4_71) rfl dX4_word_3 ?_
  refine lv_iconst (v := (nI 1)) hx hb dX4_word_6 (by decide) ?_
  refine lv_isub hx hb dX4_word_7 ?_
  refine m_top (y := (nI (fd - 1))) (pk_sub (by omega)) ?_
  refine m_d1 (v := .int (bI (btw (nI j) (nI 0) (nI (fd - 1))))) (ct1 := ctM aC ad n th sz sg me gr lk P co tb fd wd sm rc X) (va_runS (As := [.int (nI j), .int (nI 0), .int (nI (fd - 1))]) (rest := []) F (c_between l (nI j) (nI 0) (nI (fd - 1))) (va_cwS 3 F.2.2.2.2 (go_S (fun _ h => tb_O h) mlX4_54 stX4_between iniX4 cdX4_between) rfl rfl rfl (by decide +kernel) ⟨Nat.le_of_ble_eq_true rfl, Nat.le_of_ble_eq_true rfl⟩) (mPreS hKK hM (Nat.le_trans hlo hS.1)) rfl rfl hl.1 rfl (lv_room (Nat.le_of_ble_eq_true rfl)) dX4_word_8 ⟨Nat.le_of_ble_eq_true rfl, Nat.le_of_ble_eq_true rfl⟩) hS (fun H locs hM hS => ?_)
  refine lv_if_eq (tgt := 23) hx hb dX4_word_11 (by decide) (fun c_11 => ?_) (fun c_11 => ?_)
  · skip
    exact absurd (by rw [btw_nI (by omega) (by omega) (by omega)]; decide) (fun h : ¬ bI (btw (nI j) (nI 0) (nI (fd - 1))) = 0 => h c_11)
  · skip
    refine lv_aload_n hx hb dX4_word_14 rfl (lv_at hl 0 rfl) ?_
    refine m_get F (ci := 4) (v := .ref (ad 1008)) (fun w h => tb_O (inX4 w h)) hK hM ctM_o rfl 11 (by decide) (tb_O lkX4_36) rfl dX4_word_15 ?_
    refine lv_iload_n hx hb dX4_word_18 rfl (lv_at hl 1 rfl) ?_
    refine m_iald F hK hM 0 rfl (j := j) ctM_awd (by omega) (by decide) dX4_word_19 ?_
    refine m_top (y := (nI (wd j))) rfl ?_
    refine lv_goto (tgt := 24) hx hb dX4_word_20 (by decide) ?_
    exact W.iret hx hb hr (fun t ht hW => ⟨⟨_, _, _, rfl, ⟨rfl, rfl, rfl⟩, by rw [ht]; exact hM⟩, hS.F ht⟩) hS.2.2 dX4_word_24

set_option maxHeartbeats 4000000 in
set_option maxRecDepth 100000 in
theorem c_mSumU (l : Launch) {D : va_G} {aC : Nat → ClassId} {lo : Nat} {ad : Nat → Nat} {n : Nat} {th : Nat → Bool} {sz : Nat → Nat} {sg : Nat → Nat} {me : Nat → Nat} {gr : Nat → Int32} {lk : Int32} {P : Nat} {co : Nat → Option Nat} {tb : Nat → Nat} {fd : Nat} {wd : Nat → Nat} {sm : Nat → Nat} {rc : Nat → Nat} {X : Nat → Option va_E} (x : Int32) (hk : hasM fd x = false) : Met l yX4_sum (wsO yX4_sum cX4_sum 2 (some .long)) ({ frames := 1, cells := 0, slots := 0, locals := 22 } : Room) (mPc D vwCl (tyA aC) lo ad (ctM aC ad n th sz sg me gr lk P co tb fd wd sm rc X) [.ref (ad 1000), .int x]) (mD1 D vwCl lo (.long (-1)) ad (ctM aC ad n th sz sg me gr lk P co tb fd wd sm rc X)) 0 0 (fun q => lo ≤ q) := by
  refine Met.ofW (cc := cX4_sum) (maxL := 2) (ret := (some .long)) (by decide) rfl ?_
  intro pr en s0 mm args below meth cc0 s₁ B hml hv
  obtain ⟨rfl, hlo, hM, hKK⟩ := hv
  have hK := hKK.1
  have hr := B.returns
  have hts := atoms_spec (ws := (wsO yX4_sum cX4_sum 2 (some .long))) B.pre
  have F : CallFix pr mm cc0 cX4_sum 2 s0 (([.ref (ad 1000), .int x] : List Value).toArray) (wsO yX4_sum cX4_sum 2 (some .long)) RX4 := ⟨B.exec, B.bytes, hml, findClass_of_methodNamed B.named, hts⟩
  have hx := F.1
  have hb := F.2.1
  have hlocks := B.notSynchronized
  have hS : va_S (fun q => lo ≤ q) s0.heap s0.heap [] := va_S.rf
  have hl := lv_entry ([.ref (ad 1000), .int x]) (n := 2) (Nat.le_of_ble_eq_true rfl)
  rw [lg_entry_eq]
  generalize (lg_sl ([.ref (ad 1000), .int x]) ++ List.replicate (2 - (lg_sl ([.ref (ad 1000), .int x])).length) Slot.unset).toArray = ls at hl ⊢
  have hl : lv_has ls 2 [(0, .ref (ad 1000)), (1, .int x)] := hl
  refine lv_iload_n hx hb dX4_sum_0 rfl (lv_at hl 1 rfl) ?_
  refine lv_iconst (v := (nI 0)) hx hb dX4_sum_1 (by decide) ?_
  refine lv_aload_n hx hb dX4_sum_2 rfl (lv_at hl 0 rfl) ?_
  refine m_get F (ci := 4) (v := .int (nI fd)) (fun w h => tb_O (inX4 w h)) hK hM ctM_o rfl 10 (by decide) (tb_O lkX4_71) rfl dX4_sum_3 ?_
  refine lv_iconst (v := (nI 1)) hx hb dX4_sum_6 (by decide) ?_
  refine lv_isub hx hb dX4_sum_7 ?_
  refine m_d1 (v := .int (bI (btw x (nI 0) (nI fd - nI 1)))) (ct1 := ctM aC ad n th sz sg me gr lk P co tb fd wd sm rc X) (va_runS (As := [.int x, .int (nI 0), .int ((nI fd) - (nI 1))]) (rest := []) F (c_between l x (nI 0) (nI fd - nI 1)) (va_cwS 3 F.2.2.2.2 (go_S (fun _ h => tb_O h) mlX4_54 stX4_between iniX4 cdX4_between) rfl rfl rfl (by decide +kernel) ⟨Nat.le_of_ble_eq_true rfl, Nat.le_of_ble_eq_true rfl⟩) (mPreS hKK hM (Nat.le_trans hlo hS.1)) rfl rfl hl.1 rfl (lv_room (Nat.le_of_ble_eq_true rfl)) dX4_sum_8 ⟨Nat.le_of_ble_eq_true rfl, Nat.le_of_ble_eq_true rfl⟩) hS (fun H locs hM hS => ?_)
  refine lv_if_eq (tgt := 24) hx hb dX4_sum_11 (by decide) (fun c_11 => ?_) (fun c_11 => ?_)
  · skip
    refine lv_ldc2 (v := (-1)) hx hb F.2.2.2.1 (F.2.2.2.2 _ (tb_O klX4_80)) dX4_sum_24 ?_
    exact W.lret hx hb hr (fun t ht hW => ⟨⟨_, _, _, rfl, ⟨rfl, rfl, rfl⟩, by rw [ht]; exact hM⟩, hS.F ht⟩) hS.2.2 dX4_sum_27
  · skip
    exact absurd (by rw [show btw x (nI 0) (nI fd - nI 1) = hasM fd x from rfl, hk]; rfl) c_11

set_option maxHeartbeats 4000000 in
set_option maxRecDepth 100000 in
theorem c_mSum (l : Launch) {D : va_G} {aC : Nat → ClassId} {lo : Nat} {ad : Nat → Nat} {n : Nat} {th : Nat → Bool} {sz : Nat → Nat} {sg : Nat → Nat} {me : Nat → Nat} {gr : Nat → Int32} {lk : Int32} {P : Nat} {co : Nat → Option Nat} {tb : Nat → Nat} {fd : Nat} {wd : Nat → Nat} {sm : Nat → Nat} {rc : Nat → Nat} {X : Nat → Option va_E} (j : Nat) (hh : fd ≤ 200) (hj : j < fd) : Met l yX4_sum (wsO yX4_sum cX4_sum 2 (some .long)) ({ frames := 1, cells := 0, slots := 0, locals := 22 } : Room) (mPc D vwCl (tyA aC) lo ad (ctM aC ad n th sz sg me gr lk P co tb fd wd sm rc X) [.ref (ad 1000), .int (nI j)]) (mD1 D vwCl lo (.long ((nI (sm j)).toInt64)) ad (ctM aC ad n th sz sg me gr lk P co tb fd wd sm rc X)) 0 0 (fun q => lo ≤ q) := by
  refine Met.ofW (cc := cX4_sum) (maxL := 2) (ret := (some .long)) (by decide) rfl ?_
  intro pr en s0 mm args below meth cc0 s₁ B hml hv
  obtain ⟨rfl, hlo, hM, hKK⟩ := hv
  have hK := hKK.1
  have hr := B.returns
  have hts := atoms_spec (ws := (wsO yX4_sum cX4_sum 2 (some .long))) B.pre
  have F : CallFix pr mm cc0 cX4_sum 2 s0 (([.ref (ad 1000), .int (nI j)] : List Value).toArray) (wsO yX4_sum cX4_sum 2 (some .long)) RX4 := ⟨B.exec, B.bytes, hml, findClass_of_methodNamed B.named, hts⟩
  have hx := F.1
  have hb := F.2.1
  have hlocks := B.notSynchronized
  have hS : va_S (fun q => lo ≤ q) s0.heap s0.heap [] := va_S.rf
  have hl := lv_entry ([.ref (ad 1000), .int (nI j)]) (n := 2) (Nat.le_of_ble_eq_true rfl)
  rw [lg_entry_eq]
  generalize (lg_sl ([.ref (ad 1000), .int (nI j)]) ++ List.replicate (2 - (lg_sl ([.ref (ad 1000), .int (nI j)])).length) Slot.unset).toArray = ls at hl ⊢
  have hl : lv_has ls 2 [(0, .ref (ad 1000)), (1, .int (nI j))] := hl
  refine lv_iload_n hx hb dX4_sum_0 rfl (lv_at hl 1 rfl) ?_
  refine lv_iconst (v := (nI 0)) hx hb dX4_sum_1 (by decide) ?_
  refine lv_aload_n hx hb dX4_sum_2 rfl (lv_at hl 0 rfl) ?_
  refine m_get F (ci := 4) (v := .int (nI fd)) (fun w h => tb_O (inX4 w h)) hK hM ctM_o rfl 10 (by decide) (tb_O lkX4_71) rfl dX4_sum_3 ?_
  refine lv_iconst (v := (nI 1)) hx hb dX4_sum_6 (by decide) ?_
  refine lv_isub hx hb dX4_sum_7 ?_
  refine m_top (y := (nI (fd - 1))) (pk_sub (by omega)) ?_
  refine m_d1 (v := .int (bI (btw (nI j) (nI 0) (nI (fd - 1))))) (ct1 := ctM aC ad n th sz sg me gr lk P co tb fd wd sm rc X) (va_runS (As := [.int (nI j), .int (nI 0), .int (nI (fd - 1))]) (rest := []) F (c_between l (nI j) (nI 0) (nI (fd - 1))) (va_cwS 3 F.2.2.2.2 (go_S (fun _ h => tb_O h) mlX4_54 stX4_between iniX4 cdX4_between) rfl rfl rfl (by decide +kernel) ⟨Nat.le_of_ble_eq_true rfl, Nat.le_of_ble_eq_true rfl⟩) (mPreS hKK hM (Nat.le_trans hlo hS.1)) rfl rfl hl.1 rfl (lv_room (Nat.le_of_ble_eq_true rfl)) dX4_sum_8 ⟨Nat.le_of_ble_eq_true rfl, Nat.le_of_ble_eq_true rfl⟩) hS (fun H locs hM hS => ?_)
  refine lv_if_eq (tgt := 24) hx hb dX4_sum_11 (by decide) (fun c_11 => ?_) (fun c_11 => ?_)
  · skip
    exact absurd (by rw [btw_nI (by omega) (by omega) (by omega)]; decide) (fun h : ¬ bI (btw (nI j) (nI 0) (nI (fd - 1))) = 0 => h c_11)
  · skip
    refine lv_aload_n hx hb dX4_sum_14 rfl (lv_at hl 0 rfl) ?_
    refine m_get F (ci := 4) (v := .ref (ad 1009)) (fun w h => tb_O (inX4 w h)) hK hM ctM_o rfl 12 (by decide) (tb_O lkX4_39) rfl dX4_sum_15 ?_
    refine lv_iload_n hx hb dX4_sum_18 rfl (lv_at hl 1 rfl) ?_
    refine m_iald F hK hM 0 rfl (j := j) ctM_asm (by omega) (by decide) dX4_sum_19 ?_
    refine m_top (y := (nI (sm j))) rfl ?_
    refine lv_i2l (v := ((nI (sm j)).toInt64)) hx hb dX4_sum_20 rfl ?_
    refine lv_goto (tgt := 27) hx hb dX4_sum_21 (by decide) ?_
    exact W.lret hx hb hr (fun t ht hW => ⟨⟨_, _, _, rfl, ⟨rfl, rfl, rfl⟩, by rw [ht]; exact hM⟩, hS.F ht⟩) hS.2.2 dX4_sum_27
