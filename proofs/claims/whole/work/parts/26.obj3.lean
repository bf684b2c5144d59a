set_option maxHeartbeats 4000000 in
set_option maxRecDepth 100000 in
theorem c_letterU (l : Launch) {D : va_G} {aC : Nat → ClassId} {lo : Nat} {ad : Nat → Nat} {n : Nat} {gl : Int32} {E : Nat → Ent} {G : Nat → Nat → Nat} {P : Nat} {co : Nat → Option Nat} {lc : Nat → Nat} {hc : Nat} {hn hs : Nat → Nat} {X : Nat → Option va_E} (x y : Int32) (hn0 : cLiv n E x = none) (h200 : n ≤ 200) : Met l yX3_letter (wsO yX3_letter cX3_letter 4 (some .int)) ({ frames := 1, cells := 0, slots := 0, locals := 22 } : Room) (mPc D vwCl (tyA aC) lo ad (ctC aC ad n gl E G P co lc hc hn hs X) [.ref (ad 0), .int x, .int y]) (mD1 D vwCl lo (.int (-1)) ad (ctC aC ad n gl E G P co lc hc hn hs X)) 0 0 (fun q => lo ≤ q) := by
  refine Met.ofW (cc := cX3_letter) (maxL := 4) (ret := (some .int)) (by decide) rfl ?_
  intro pr en s0 mm args below meth cc0 s₁ B hml hv
  obtain ⟨rfl, hlo, hM, hKK⟩ := hv
  have hK := hKK.1
  have hr := B.returns
  have hts := atoms_spec (ws := (wsO yX3_letter cX3_letter 4 (some .int))) B.pre
  have F : CallFix pr mm cc0 cX3_letter 4 s0 (([.ref (ad 0), .int x, .int y] : List Value).toArray) (wsO yX3_letter cX3_letter 4 (some .int)) RX3 := ⟨B.exec, B.bytes, hml, findClass_of_methodNamed B.named, hts⟩
  have hx := F.1
  have hb := F.2.1
  have hlocks := B.notSynchronized
  have hS : va_S (fun q => lo ≤ q) s0.heap s0.heap [] := va_S.rf
  have hl := lv_entry ([.ref (ad 0), .int x, .int y]) (n := 4) (Nat.le_of_ble_eq_true rfl)
  rw [lg_entry_eq]
  generalize (lg_sl ([.ref (ad 0), .int x, .int y]) ++ List.replicate (4 - (lg_sl ([.ref (ad 0), .int x, .int y])).length) Slot.unset).toArray = ls at hl ⊢
  have hl : lv_has ls 4 [(0, .ref (ad 0)), (1, .int x), (2, .int y)] := hl
  refine lv_aload_n hx hb dX3_letter_0 rfl (lv_at hl 0 rfl) ?_
  refine lv_iload_n hx hb dX3_letter_1 rfl (lv_at hl 1 rfl) ?_
  refine m_d1 (v := va_rf (oE ad (cLiv n E x))) (ct1 := ctC aC ad n gl E G P co lc hc hn hs X) (va_runV (As := [.int x]) (rest := []) F (c_living l x h200) (cwV 1 F.2.2.2.2 (go_V (fun _ h => tb_O h) mlX3_37 imX3_living seX3_living iniX3 cdX3_living) rfl rfl rfl (by decide +kernel) ⟨Nat.le_of_ble_eq_true rfl, Nat.le_of_ble_eq_true rfl⟩) (mPreV hKK hM (Nat.le_trans hlo hS.1) ctC_0 rfl) rfl rfl hl.1 rfl (lv_room (Nat.le_of_ble_eq_true rfl)) dX3_letter_2 ⟨Nat.le_of_ble_eq_true rfl, Nat.le_of_ble_eq_true rfl⟩) hS (fun H locs hM hS => ?_)
  rw [hn0]
  · skip
    refine m_val (v' := .null) rfl ?_
    refine lv_astore_nN (lv' := [(3, .null), (0, .ref (ad 0)), (1, .int x), (2, .int y)]) hx hb dX3_letter_5 rfl hl (by decide) rfl (fun ls hl => ?_)
    refine lv_aload_nN hx hb dX3_letter_6 rfl (lv_at hl 0 rfl) ?_
    refine lv_ifnonnullN hx hb dX3_letter_7 ?_
    refine lv_iconst (v := (-1)) hx hb dX3_letter_10 (by decide) ?_
    exact W.iret hx hb hr (fun t ht hW => ⟨⟨_, _, _, rfl, ⟨rfl, rfl, rfl⟩, by rw [ht]; exact hM⟩, hS.F ht⟩) hS.2.2 dX3_letter_11

set_option maxHeartbeats 4000000 in
set_option maxRecDepth 100000 in
theorem c_letterO (l : Launch) {D : va_G} {aC : Nat → ClassId} {lo : Nat} {ad : Nat → Nat} {n : Nat} {gl : Int32} {E : Nat → Ent} {G : Nat → Nat → Nat} {P : Nat} {co : Nat → Option Nat} {lc : Nat → Nat} {hc : Nat} {hn hs : Nat → Nat} {X : Nat → Option va_E} (j : Nat) (y : Int32) (hj1 : 1 ≤ j) (hj2 : j ≤ n) (h200 : n ≤ 200) (hd : (E j).2.2.1 = false) (hy : isSg y = false) : Met l yX3_letter (wsO yX3_letter cX3_letter 4 (some .int)) ({ frames := 1, cells := 0, slots := 0, locals := 22 } : Room) (mPc D vwCl (tyA aC) lo ad (ctC aC ad n gl E G P co lc hc hn hs X) [.ref (ad 0), .int (nI j), .int y]) (mD1 D vwCl lo (.int (-2)) ad (ctC aC ad n gl E G P co lc hc hn hs X)) 0 0 (fun q => lo ≤ q) := by
  refine Met.ofW (cc := cX3_letter) (maxL := 4) (ret := (some .int)) (by decide) rfl ?_
  intro pr en s0 mm args below meth cc0 s₁ B hml hv
  obtain ⟨rfl, hlo, hM, hKK⟩ := hv
  have hK := hKK.1
  have hr := B.returns
  have hts := atoms_spec (ws := (wsO yX3_letter cX3_letter 4 (some .int))) B.pre
  have F : CallFix pr mm cc0 cX3_letter 4 s0 (([.ref (ad 0), .int (nI j), .int y] : List Value).toArray) (wsO yX3_letter cX3_letter 4 (some .int)) RX3 := ⟨B.exec, B.bytes, hml, findClass_of_methodNamed B.named, hts⟩
  have hx := F.1
  have hb := F.2.1
  have hlocks := B.notSynchronized
  have hS : va_S (fun q => lo ≤ q) s0.heap s0.heap [] := va_S.rf
  have hl := lv_entry ([.ref (ad 0), .int (nI j), .int y]) (n := 4) (Nat.le_of_ble_eq_true rfl)
  rw [lg_entry_eq]
  generalize (lg_sl ([.ref (ad 0), .int (nI j), .int y]) ++ List.replicate (4 - (lg_sl ([.ref (ad 0), .int (nI j), .int y])).length) Slot.unset).toArray = ls at hl ⊢
  have hl : lv_has ls 4 [(0, .ref (ad 0)), (1, .int (nI j)), (2, .int y)] := hl
  refine lv_aload_n hx hb dX3_letter_0 rfl (lv_at hl 0 rfl) ?_
  refine lv_iload_n hx hb dX3_letter_1 rfl (lv_at hl 1 rfl) ?_
  refine m_d1 (v := .ref (ad (2 * j + 8))) (ct1 := ctC aC ad n gl E G P co lc hc hn hs X) (va_runV (As := [.int (nI j)]) (rest := []) F (c_livT l j hj1 hj2 h200 hd) (cwV 1 F.2.2.2.2 (go_V (fun _ h => tb_O h) mlX3_37 imX3_living seX3_living iniX3 cdX3_living) rfl rfl rfl (by decide +kernel) ⟨Nat.le_of_ble_eq_true rfl, Nat.le_of_ble_eq_true rfl⟩) (mPreV hKK hM (Nat.le_trans hlo hS.1) ctC_0 rfl) rfl rfl hl.1 rfl (lv_room (Nat.le_of_ble_eq_true rfl)) dX3_letter_2 ⟨Nat.le_of_ble_eq_true rfl, Nat.le_of_ble_eq_true rfl⟩) hS (fun H locs hM hS => ?_)
  refine lv_astore_n (lv' := [(3, .ref (ad (2 * j + 8))), (0, .ref (ad 0)), (1, .int (nI j)), (2, .int y)]) hx hb dX3_letter_5 rfl hl (by decide) rfl (fun ls hl => ?_)
  refine lv_aload_n hx hb dX3_letter_6 rfl (lv_at hl 0 rfl) ?_
  refine lv_ifnonnull (tgt := 12) hx hb dX3_letter_7 (by decide) ?_
  refine lv_iload_n hx hb dX3_letter_12 rfl (lv_at hl 3 rfl) ?_
  refine m_d1 (v := .int (bI (isSg y))) (ct1 := ctC aC ad n gl E G P co lc hc hn hs X) (va_runS (As := [.int y]) (rest := []) F (c_isSign l y) (va_cwS 1 F.2.2.2.2 (go_S (fun _ h => tb_O h) mlX3_41 stX3_isSign iniX3 cdX3_isSign) rfl rfl rfl (by decide +kernel) ⟨Nat.le_of_ble_eq_true rfl, Nat.le_of_ble_eq_true rfl⟩) (mPreS hKK hM (Nat.le_trans hlo hS.1)) rfl rfl hl.1 rfl (lv_room (Nat.le_of_ble_eq_true rfl)) dX3_letter_13 ⟨Nat.le_of_ble_eq_true rfl, Nat.le_of_ble_eq_true rfl⟩) hS (fun H locs hM hS => ?_)
  refine lv_if_ne (tgt := 22) hx hb dX3_letter_16 (by decide) (fun c_16 => ?_) (fun c_16 => ?_)
  · skip
    exact absurd (by rw [hy]; rfl) c_16
  · skip
    refine lv_bipush (v := (-2)) hx hb dX3_letter_19 (by decide) ?_
    exact W.iret hx hb hr (fun t ht hW => ⟨⟨_, _, _, rfl, ⟨rfl, rfl, rfl⟩, by rw [ht]; exact hM⟩, hS.F ht⟩) hS.2.2 dX3_letter_21

set_option maxHeartbeats 4000000 in
set_option maxRecDepth 100000 in
theorem c_letterR (l : Launch) {D : va_G} {aC : Nat → ClassId} {lo : Nat} {ad : Nat → Nat} {n : Nat} {gl : Int32} {E : Nat → Ent} {G : Nat → Nat → Nat} {P : Nat} {co : Nat → Option Nat} {lc : Nat → Nat} {hc : Nat} {hn hs : Nat → Nat} {X : Nat → Option va_E} (j q : Nat) (hj1 : 1 ≤ j) (hj2 : j ≤ n) (h200 : n ≤ 200) (hd : (E j).2.2.1 = false) (hq1 : 33 ≤ q) (hq2 : q ≤ 126) (hl20 : (E j).1 = 20) : Met l yX3_letter (wsO yX3_letter cX3_letter 4 (some .int)) ({ frames := 1, cells := 0, slots := 0, locals := 22 } : Room) (mPc D vwCl (tyA aC) lo ad (ctC aC ad n gl E G P co lc hc hn hs X) [.ref (ad 0), .int (nI j), .int (nI q)]) (mD1 D vwCl lo (.int (-4)) ad (ctC aC ad n gl E G P co lc hc hn hs X)) 0 0 (fun q => lo ≤ q) := by
  refine Met.ofW (cc := cX3_letter) (maxL := 4) (ret := (some .int)) (by decide) rfl ?_
  intro pr en s0 mm args below meth cc0 s₁ B hml hv
  obtain ⟨rfl, hlo, hM, hKK⟩ := hv
  have hK := hKK.1
  have hr := B.returns
  have hts := atoms_spec (ws := (wsO yX3_letter cX3_letter 4 (some .int))) B.pre
  have F : CallFix pr mm cc0 cX3_letter 4 s0 (([.ref (ad 0), .int (nI j), .int (nI q)] : List Value).toArray) (wsO yX3_letter cX3_letter 4 (some .int)) RX3 := ⟨B.exec, B.bytes, hml, findClass_of_methodNamed B.named, hts⟩
  have hx := F.1
  have hb := F.2.1
  have hlocks := B.notSynchronized
  have hS : va_S (fun q => lo ≤ q) s0.heap s0.heap [] := va_S.rf
  have hl := lv_entry ([.ref (ad 0), .int (nI j), .int (nI q)]) (n := 4) (Nat.le_of_ble_eq_true rfl)
  rw [lg_entry_eq]
  generalize (lg_sl ([.ref (ad 0), .int (nI j), .int (nI q)]) ++ List.replicate (4 - (lg_sl ([.ref (ad 0), .int (nI j), .int (nI q)])).length) Slot.unset).toArray = ls at hl ⊢
  have hl : lv_has ls 4 [(0, .ref (ad 0)), (1, .int (nI j)), (2, .int (nI q))] := hl
  refine lv_aload_n hx hb dX3_letter_0 rfl (lv_at hl 0 rfl) ?_
  refine lv_iload_n hx hb dX3_letter_1 rfl (lv_at hl 1 rfl) ?_
  refine m_d1 (v := .ref (ad (2 * j + 8))) (ct1 := ctC aC ad n gl E G P co lc hc hn hs X) (va_runV (As := [.int (nI j)]) (rest := []) F (c_livT l j hj1 hj2 h200 hd) (cwV 1 F.2.2.2.2 (go_V (fun _ h => tb_O h) mlX3_37 imX3_living seX3_living iniX3 cdX3_living) rfl rfl rfl (by decide +kernel) ⟨Nat.le_of_ble_eq_true rfl, Nat.le_of_ble_eq_true rfl⟩) (mPreV hKK hM (Nat.le_trans hlo hS.1) ctC_0 rfl) rfl rfl hl.1 rfl (lv_room (Nat.le_of_ble_eq_true rfl)) dX3_letter_2 ⟨Nat.le_of_ble_eq_true rfl, Nat.le_of_ble_eq_true rfl⟩) hS (fun H locs hM hS => ?_)
  refine lv_astore_n (lv' := [(3, .ref (ad (2 * j + 8))), (0, .ref (ad 0)), (1, .int (nI j)), (2, .int (nI q))]) hx hb dX3_letter_5 rfl hl (by decide) rfl (fun ls hl => ?_)
  refine lv_aload_n hx hb dX3_letter_6 rfl (lv_at hl 0 rfl) ?_
  refine lv_ifnonnull (tgt := 12) hx hb dX3_letter_7 (by decide) ?_
  refine lv_iload_n hx hb dX3_letter_12 rfl (lv_at hl 3 rfl) ?_
  refine m_d1 (v := .int (bI (isSg (nI q)))) (ct1 := ctC aC ad n gl E G P co lc hc hn hs X) (va_runS (As := [.int (nI q)]) (rest := []) F (c_isSign l (nI q)) (va_cwS 1 F.2.2.2.2 (go_S (fun _ h => tb_O h) mlX3_41 stX3_isSign iniX3 cdX3_isSign) rfl rfl rfl (by decide +kernel) ⟨Nat.le_of_ble_eq_true rfl, Nat.le_of_ble_eq_true rfl⟩) (mPreS hKK hM (Nat.le_trans hlo hS.1)) rfl rfl hl.1 rfl (lv_room (Nat.le_of_ble_eq_true rfl)) dX3_letter_13 ⟨Nat.le_of_ble_eq_true rfl, Nat.le_of_ble_eq_true rfl⟩) hS (fun H locs hM hS => ?_)
  refine lv_if_ne (tgt := 22) hx hb dX3_letter_16 (by decide) (fun c_16 => ?_) (fun c_16 => ?_)
  · skip
    refine lv_aload_n hx hb dX3_letter_22 rfl (lv_at hl 0 rfl) ?_
    refine lv_iload_n hx hb dX3_letter_23 rfl (lv_at hl 3 rfl) ?_
    refine m_d1 (v := .int (nI 0)) (ct1 := ctC aC ad n gl E G P co lc hc hn hs X) (va_runV (As := [.int (nI q)]) (rest := []) F (c_appendF l (ke := 2 * j + 8) (ks := 2 * j + 9) (len := (E j).1) (gb := (E j).2.1) (db := bI (E j).2.2.1) (lv := nI (E j).2.2.2.2) (sv := va_rf (oE ad (E j).2.2.2.1)) q hl20 (ctC_e hj1 hj2 h200) (ctC_s hj1 hj2 h200)) (cwV 1 F.2.2.2.2 (go_V (fun _ h => tb_O h) mlX3_45 imX0_append seX0_append iniX0 cdX0_append) rfl rfl rfl (by decide +kernel) ⟨Nat.le_of_ble_eq_true rfl, Nat.le_of_ble_eq_true rfl⟩) (mPreV hKK hM (Nat.le_trans hlo hS.1) (ctC_e hj1 hj2 h200) rfl) rfl rfl hl.1 rfl (lv_room (Nat.le_of_ble_eq_true rfl)) dX3_letter_24 ⟨Nat.le_of_ble_eq_true rfl, Nat.le_of_ble_eq_true rfl⟩) hS (fun H locs hM hS => ?_)
    refine lv_if_eq (tgt := 37) hx hb dX3_letter_27 (by decide) (fun c_27 => ?_) (fun c_27 => ?_)
    · skip
      refine lv_bipush (v := (-4)) hx hb dX3_letter_37 (by decide) ?_
      exact W.iret hx hb hr (fun t ht hW => ⟨⟨_, _, _, rfl, ⟨rfl, rfl, rfl⟩, by rw [ht]; exact hM⟩, hS.F ht⟩) hS.2.2 dX3_letter_39
    · skip
      exact absurd nI_0 c_27
  · skip
    exact absurd (by rw [isSg_nI hq1 hq2]; decide) (fun h : ¬ bI (isSg (nI q)) = 0 => h c_16)

set_option maxHeartbeats 4000000 in
set_option maxRecDepth 100000 in
theorem c_letter (l : Launch) {D : va_G} {aC : Nat → ClassId} {lo : Nat} {ad : Nat → Nat} {n : Nat} {gl : Int32} {E : Nat → Ent} {G : Nat → Nat → Nat} {P : Nat} {co : Nat → Option Nat} {lc : Nat → Nat} {hc : Nat} {hn hs : Nat → Nat} {X : Nat → Option va_E} (j q : Nat) (hj1 : 1 ≤ j) (hj2 : j ≤ n) (h200 : n ≤ 200) (hd : (E j).2.2.1 = false) (hq1 : 33 ≤ q) (hq2 : q ≤ 126) (hl20 : (E j).1 < 20) : Met l yX3_letter (wsO yX3_letter cX3_letter 4 (some .int)) ({ frames := 1, cells := 0, slots := 0, locals := 22 } : Room) (mPc D vwCl (tyA aC) lo ad (ctC aC ad n gl E G P co lc hc hn hs X) [.ref (ad 0), .int (nI j), .int (nI q)]) (mD1 D vwCl lo (.int (nI ((E j).1 + 1))) ad (ctC aC ad n gl (va_up E j (seN (E j) ((E j).1 + 1))) (va_up G j (un (G j) (E j).1 q)) P co lc hc hn hs X)) 0 0 (fun q => lo ≤ q) := by
  refine Met.ofW (cc := cX3_letter) (maxL := 4) (ret := (some .int)) (by decide) rfl ?_
  intro pr en s0 mm args below meth cc0 s₁ B hml hv
  obtain ⟨rfl, hlo, hM, hKK⟩ := hv
  have hK := hKK.1
  have hr := B.returns
  have hts := atoms_spec (ws := (wsO yX3_letter cX3_letter 4 (some .int))) B.pre
  have F : CallFix pr mm cc0 cX3_letter 4 s0 (([.ref (ad 0), .int (nI j), .int (nI q)] : List Value).toArray) (wsO yX3_letter cX3_letter 4 (some .int)) RX3 := ⟨B.exec, B.bytes, hml, findClass_of_methodNamed B.named, hts⟩
  have hx := F.1
  have hb := F.2.1
  have hlocks := B.notSynchronized
  have hS : va_S (fun q => lo ≤ q) s0.heap s0.heap [] := va_S.rf
  have hl := lv_entry ([.ref (ad 0), .int (nI j), .int (nI q)]) (n := 4) (Nat.le_of_ble_eq_true rfl)
  rw [lg_entry_eq]
  generalize (lg_sl ([.ref (ad 0), .int (nI j), .int (nI q)]) ++ List.replicate (4 - (lg_sl ([.ref (ad 0), .int (nI j), .int (nI q)])).length) Slot.unset).toArray = ls at hl ⊢
  have hl : lv_has ls 4 [(0, .ref (ad 0)), (1, .int (nI j)), (2, .int (nI q))] := hl
  refine lv_aload_n hx hb dX3_letter_0 rfl (lv_at hl 0 rfl) ?_
  refine lv_iload_n hx hb dX3_letter_1 rfl (lv_at hl 1 rfl) ?_
  refine m_d1 (v := .ref (ad (2 * j + 8))) (ct1 := ctC aC ad n gl E G P co lc hc hn hs X) (va_runV (As := [.int (nI j)]) (rest := []) F (c_livT l j hj1 hj2 h200 hd) (cwV 1 F.2.2.2.2 (go_V (fun _ h => tb_O h) mlX3_37 imX3_living seX3_living iniX3 cdX3_living) rfl rfl rfl (by decide +kernel) ⟨Nat.le_of_ble_eq_true rfl, Nat.le_of_ble_eq_true rfl⟩) (mPreV hKK hM (Nat.le_trans hlo hS.1) ctC_0 rfl) rfl rfl hl.1 rfl (lv_room (Nat.le_of_ble_eq_true rfl)) dX3_letter_2 ⟨Nat.le_of_ble_eq_true rfl, Nat.le_of_ble_eq_true rfl⟩) hS (fun H locs hM hS => ?_)
  refine lv_astore_n (lv' := [(3, .ref (ad (2 * j + 8))), (0, .ref (ad 0)), (1, .int (nI j)), (2, .int (nI q))]) hx hb dX3_letter_5 rfl hl (by decide) rfl (fun ls hl => ?_)
  refine lv_aload_n hx hb dX3_letter_6 rfl (lv_at hl 0 rfl) ?_
  refine lv_ifnonnull (tgt := 12) hx hb dX3_letter_7 (by decide) ?_
  refine lv_iload_n hx hb dX3_letter_12 rfl (lv_at hl 3 rfl) ?_
  refine m_d1 (v := .int (bI (isSg (nI q)))) (ct1 := ctC aC ad n gl E G P co lc hc hn hs X) (va_runS (As := [.int (nI q)]) (rest := []) F (c_isSign l (nI q)) (va_cwS 1 F.2.2.2.2 (go_S (fun _ h => tb_O h) mlX3_41 stX3_isSign iniX3 cdX3_isSign) rfl rfl rfl (by decide +kernel) ⟨Nat.le_of_ble_eq_true rfl, Nat.le_of_ble_eq_true rfl⟩) (mPreS hKK hM (Nat.le_trans hlo hS.1)) rfl rfl hl.1 rfl (lv_room (Nat.le_of_ble_eq_true rfl)) dX3_letter_13 ⟨Nat.le_of_ble_eq_true rfl, Nat.le_of_ble_eq_true rfl⟩) hS (fun H locs hM hS => ?_)
  refine lv_if_ne (tgt := 22) hx hb dX3_letter_16 (by decide) (fun c_16 => ?_) (fun c_16 => ?_)
  · skip
    refine lv_aload_n hx hb dX3_letter_22 rfl (lv_at hl 0 rfl) ?_
    refine lv_iload_n hx hb dX3_letter_23 rfl (lv_at hl 3 rfl) ?_
    refine m_d1 (v := .int (nI 1)) (ct1 := va_up (va_up (ctC aC ad n gl E G P co lc hc hn hs X) (2 * j + 9) (some (iA aC 20 (fun k => nI (un (G j) (E j).1 q k))))) (2 * j + 8) (some (.inr (0, [.ref (ad (2 * j + 9)), .int (nI ((E j).1 + 1)), .int ((E j).2.1), .int (bI (E j).2.2.1), va_rf (oE ad (E j).2.2.2.1), .int (nI (E j).2.2.2.2)])))) (va_runV (As := [.int (nI q)]) (rest := []) F (c_append l (ke := 2 * j + 8) (ks := 2 * j + 9) (len := (E j).1) (gb := (E j).2.1) (db := bI (E j).2.2.1) (lv := nI (E j).2.2.2.2) (sv := va_rf (oE ad (E j).2.2.2.1)) (g := G j) q hl20 (by omega) (ctC_e hj1 hj2 h200) (ctC_s hj1 hj2 h200)) (cwV 1 F.2.2.2.2 (go_V (fun _ h => tb_O h) mlX3_45 imX0_append seX0_append iniX0 cdX0_append) rfl rfl rfl (by decide +kernel) ⟨Nat.le_of_ble_eq_true rfl, Nat.le_of_ble_eq_true rfl⟩) (mPreV hKK hM (Nat.le_trans hlo hS.1) (ctC_e hj1 hj2 h200) rfl) rfl rfl hl.1 rfl (lv_room (Nat.le_of_ble_eq_true rfl)) dX3_letter_24 ⟨Nat.le_of_ble_eq_true rfl, Nat.le_of_ble_eq_true rfl⟩) hS (fun H locs hM hS => ?_)
    have hM : mw D vwCl lo ad (ctC aC ad n gl (va_up E j (seN (E j) ((E j).1 + 1))) (va_up G j (un (G j) (E j).1 q)) P co lc hc hn hs X) H := by
        have h9 : mw D vwCl lo ad (va_up (va_up (ctC aC ad n gl E G P co lc hc hn hs X) (2 * j + 9) (some (iA aC 20 (fun k => nI (un (G j) (E j).1 q k))))) (2 * j + 8) (some (entO ad j (seN (E j) ((E j).1 + 1))))) H := hM
        rw [ctC_G hj1 hj2 h200, ctC_E hj1 hj2 h200] at h9
        exact h9
    refine lv_if_eq (tgt := 37) hx hb dX3_letter_27 (by decide) (fun c_27 => ?_) (fun c_27 => ?_)
    · skip
      exact absurd c_27 (by decide)
    · skip
      refine lv_aload_n hx hb dX3_letter_30 rfl (lv_at hl 0 rfl) ?_
      refine m_get F (ci := 0) (v := .int (nI (((va_up E j (seN (E j) ((E j).1 + 1))) j).1))) (fun w h => tb_O (inX0 w h)) hK hM (ctC_e hj1 hj2 h200) rfl 1 (by decide) (tb_O lkX3_48) rfl dX3_letter_31 ?_
      refine m_val (v' := .int (nI ((E j).1 + 1))) (by rw [va_up_self]; rfl) ?_
      refine lv_goto (tgt := 39) hx hb dX3_letter_34 (by decide) ?_
      exact W.iret hx hb hr (fun t ht hW => ⟨⟨_, _, _, rfl, ⟨rfl, rfl, rfl⟩, by rw [ht]; exact hM⟩, hS.F ht⟩) hS.2.2 dX3_letter_39
  · skip
    exact absurd (by rw [isSg_nI hq1 hq2]; decide) (fun h : ¬ bI (isSg (nI q)) = 0 => h c_16)

set_option maxHeartbeats 4000000 in
set_option maxRecDepth 100000 in
theorem c_dropU (l : Launch) {D : va_G} {aC : Nat → ClassId} {lo : Nat} {ad : Nat → Nat} {n : Nat} {gl : Int32} {E : Nat → Ent} {G : Nat → Nat → Nat} {P : Nat} {co : Nat → Option Nat} {lc : Nat → Nat} {hc : Nat} {hn hs : Nat → Nat} {X : Nat → Option va_E} (x : Int32) (hn0 : cLiv n E x = none) (h200 : n ≤ 200) : Met l yX3_drop (wsO yX3_drop cX3_drop 5 (some .int)) ({ frames := 1, cells := 0, slots := 0, locals := 22 } : Room) (mPc D vwCl (tyA aC) lo ad (ctC aC ad n gl E G P co lc hc hn hs X) [.ref (ad 0), .int x]) (mD1 D vwCl lo (.int (-1)) ad (ctC aC ad n gl E G P co lc hc hn hs X)) 0 0 (fun q => lo ≤ q) := by
  refine Met.ofW (cc := cX3_drop) (maxL := 5) (ret := (some .int)) (by decide) rfl ?_
  intro pr en s0 mm args below meth cc0 s₁ B hml hv
  obtain ⟨rfl, hlo, hM, hKK⟩ := hv
  have hK := hKK.1
  have hr := B.returns
  have hts := atoms_spec (ws := (wsO yX3_drop cX3_drop 5 (some .int))) B.pre
  have F : CallFix pr mm cc0 cX3_drop 5 s0 (([.ref (ad 0), .int x] : List Value).toArray) (wsO yX3_drop cX3_drop 5 (some .int)) RX3 := ⟨B.exec, B.bytes, hml, findClass_of_methodNamed B.named, hts⟩
  have hx := F.1
  have hb := F.2.1
  have hlocks := B.notSynchronized
  have hS : va_S (fun q => lo ≤ q) s0.heap s0.heap [] := va_S.rf
  have hl := lv_entry ([.ref (ad 0), .int x]) (n := 5) (Nat.le_of_ble_eq_true rfl)
  rw [lg_entry_eq]
  generalize (lg_sl ([.ref (ad 0), .int x]) ++ List.replicate (5 - (lg_sl ([.ref (ad 0), .int x])).length) Slot.unset).toArray = ls at hl ⊢
  have hl : lv_has ls 5 [(0, .ref (ad 0)), (1, .int x)] := hl
  refine lv_aload_n hx hb dX3_drop_0 rfl (lv_at hl 0 rfl) ?_
  refine lv_iload_n hx hb dX3_drop_1 rfl (lv_at hl 1 rfl) ?_
  refine m_d1 (v := va_rf (oE ad (cLiv n E x))) (ct1 := ctC aC ad n gl E G P co lc hc hn hs X) (va_runV (As := [.int x]) (rest := []) F (c_living l x h200) (cwV 1 F.2.2.2.2 (go_V (fun _ h => tb_O h) mlX3_37 imX3_living seX3_living iniX3 cdX3_living) rfl rfl rfl (by decide +kernel) ⟨Nat.le_of_ble_eq_true rfl, Nat.le_of_ble_eq_true rfl⟩) (mPreV hKK hM (Nat.le_trans hlo hS.1) ctC_0 rfl) rfl rfl hl.1 rfl (lv_room (Nat.le_of_ble_eq_true rfl)) dX3_drop_2 ⟨Nat.le_of_ble_eq_true rfl, Nat.le_of_ble_eq_true rfl⟩) hS (fun H locs hM hS => ?_)
  rw [hn0]
  · skip
    refine m_val (v' := .null) rfl ?_
    refine lv_astore_nN (lv' := [(2, .null), (0, .ref (ad 0)), (1, .int x)]) hx hb dX3_drop_5 rfl hl (by decide) rfl (fun ls hl => ?_)
    refine lv_aload_nN hx hb dX3_drop_6 rfl (lv_at hl 0 rfl) ?_
    refine lv_ifnonnullN hx hb dX3_drop_7 ?_
    refine lv_iconst (v := (-1)) hx hb dX3_drop_10 (by decide) ?_
    exact W.iret hx hb hr (fun t ht hW => ⟨⟨_, _, _, rfl, ⟨rfl, rfl, rfl⟩, by rw [ht]; exact hM⟩, hS.F ht⟩) hS.2.2 dX3_drop_11

set_option maxHeartbeats 4000000 in
set_option maxRecDepth 100000 in
theorem c_drop (l : Launch) {D : va_G} {aC : Nat → ClassId} {lo : Nat} {ad : Nat → Nat} {n : Nat} {gl : Int32} {E : Nat → Ent} {G : Nat → Nat → Nat} {P : Nat} {co : Nat → Option Nat} {lc : Nat → Nat} {hc : Nat} {hn hs : Nat → Nat} {X : Nat → Option va_E} (j : Nat) (hj1 : 1 ≤ j) (hj2 : j ≤ n) (h200 : n ≤ 200) (hd : (E j).2.2.1 = false) (hsfo : sfOk n E) : Met l yX3_drop (wsO yX3_drop cX3_drop 5 (some .int)) ({ frames := 2, cells := 0, slots := 0, locals := 46 } : Room) (mPc D vwCl (tyA aC) lo ad (ctC aC ad n gl E G P co lc hc hn hs X) [.ref (ad 0), .int (nI j)]) (mD1 D vwCl lo (.int (nI (cnt (inW (drE E j n) (-1)) n))) ad (ctC aC ad n gl (drE E j n) G P co lc hc hn hs X)) 0 0 (fun q => lo ≤ q) := by
  refine Met.ofW (cc := cX3_drop) (maxL := 5) (ret := (some .int)) (by decide) rfl ?_
  intro pr en s0 mm args below meth cc0 s₁ B hml hv
  obtain ⟨rfl, hlo, hM, hKK⟩ := hv
  have hK := hKK.1
  have hr := B.returns
  have hts := atoms_spec (ws := (wsO yX3_drop cX3_drop 5 (some .int))) B.pre
  have F : CallFix pr mm cc0 cX3_drop 5 s0 (([.ref (ad 0), .int (nI j)] : List Value).toArray) (wsO yX3_drop cX3_drop 5 (some .int)) RX3 := ⟨B.exec, B.bytes, hml, findClass_of_methodNamed B.named, hts⟩
  have hx := F.1
  have hb := F.2.1
  have hlocks := B.notSynchronized
  have hS : va_S (fun q => lo ≤ q) s0.heap s0.heap [] := va_S.rf
  have hl := lv_entry ([.ref (ad 0), .int (nI j)]) (n := 5) (Nat.le_of_ble_eq_true rfl)
  rw [lg_entry_eq]
  generalize (lg_sl ([.ref (ad 0), .int (nI j)]) ++ List.replicate (5 - (lg_sl ([.ref (ad 0), .int (nI j)])).length) Slot.unset).toArray = ls at hl ⊢
  have hl : lv_has ls 5 [(0, .ref (ad 0)), (1, .int (nI j))] := hl
  have loop_24 : ∀ (fu : Nat) (i : Nat), (i ≤ n) → n + 1 - i ≤ fu → ∀ (H : Heap) (locs : List Loc) (ls : Array Slot), mw D vwCl lo ad (ctC aC ad n gl (drE E j i) G P co lc hc hn hs X) H → va_S (fun q => lo ≤ q) s0.heap H locs → lv_has ls 5 [(0, .ref (ad 0)), (1, .int (nI j)), (2, .ref (ad (2 * j + 8))), (3, .int (nI (i + 1)))] → W pr l en (headSpec (wsO yX3_drop cX3_drop 5 (some .int)) ({ frames := 2, cells := 0, slots := 0, locals := 46 } : Room)).room s0 mm (([.ref (ad 0), .int (nI j)] : List Value).toArray) below meth cc0 H locs 0 0 (MQ below (mD1 D vwCl lo (.int (nI (cnt (inW (drE E j n) (-1)) n))) ad (ctC aC ad n gl (drE E j n) G P co lc hc hn hs X)) (([.ref (ad 0), .int (nI j)] : List Value).toArray) s0 0 0 (fun q => lo ≤ q)) (F0 mm 24 ls []) := by
    intro fu
    induction fu with
    | zero =>
      intro i hi hfu H locs ls hM hS hl
      exact absurd hfu (by omega)
    | succ fu ih_24 =>
      intro i hi hfu H locs ls hM hS hl
      refine lv_iload_n hx hb dX3_drop_24 rfl (lv_at hl 3 rfl) ?_
      refine lv_aload_n hx hb dX3_drop_25 rfl (lv_at hl 0 rfl) ?_
      refine m_get F (ci := 3) (v := .int (nI n)) (fun w h => tb_O (inX3 w h)) hK hM ctC_0 rfl 1 (by decide) (tb_O lkX3_15) rfl dX3_drop_26 ?_
      refine m_icmp_gt F (a := (i + 1)) (b := n) (by omega) (by omega) (tgt := 65) dX3_drop_29 (by decide) (fun c_29 => ?_) (fun c_29 => ?_)
      · skip
        have hin : n = i := by omega
        subst hin
        refine lv_aload_n hx hb dX3_drop_65 rfl (lv_at hl 0 rfl) ?_
        refine lv_iconst (v := (-1)) hx hb dX3_drop_66 (by decide) ?_
        refine m_d1 (v := .int (nI (cnt (inW (drE E j n) (-1)) n))) (ct1 := ctC aC ad n gl (drE E j n) G P co lc hc hn hs X) (va_runV (As := [.int (-1)]) (rest := []) F (c_countWithin l (-1) h200) (cwV 1 F.2.2.2.2 (go_V (fun _ h => tb_O h) mlX3_59 imX3_countWithin seX3_countWithin iniX3 cdX3_countWithin) rfl rfl rfl (by decide +kernel) ⟨Nat.le_of_ble_eq_true rfl, Nat.le_of_ble_eq_true rfl⟩) (mPreV hKK hM (Nat.le_trans hlo hS.1) ctC_0 rfl) rfl rfl hl.1 rfl (lv_room (Nat.le_of_ble_eq_true rfl)) dX3_drop_67 ⟨Nat.le_of_ble_eq_true rfl, Nat.le_of_ble_eq_true rfl⟩) hS (fun H locs hM hS => ?_)
        exact W.iret hx hb hr (fun t ht hW => ⟨⟨_, _, _, rfl, ⟨rfl, rfl, rfl⟩, by rw [ht]; exact hM⟩, hS.F ht⟩) hS.2.2 dX3_drop_70
      · skip
        have hda : (drE E j i) (i + 1) = (va_up E j (seD (E j))) (i + 1) := drE_at (by omega)
        refine lv_aload_n hx hb dX3_drop_32 rfl (lv_at hl 0 rfl) ?_
        refine lv_iload_n hx hb dX3_drop_33 rfl (lv_at hl 3 rfl) ?_
        rcases hdr : ((va_up E j (seD (E j))) (i + 1)).2.2.1 with _ | _
        · skip
          refine m_d1 (v := .ref (ad (2 * (i + 1) + 8))) (ct1 := ctC aC ad n gl (drE E j i) G P co lc hc hn hs X) (va_runV (As := [.int (nI (i + 1))]) (rest := []) F (c_livT l (i + 1) (by omega) (by omega) h200 (by rw [hda]; exact hdr)) (cwV 1 F.2.2.2.2 (go_V (fun _ h => tb_O h) mlX3_37 imX3_living seX3_living iniX3 cdX3_living) rfl rfl rfl (by decide +kernel) ⟨Nat.le_of_ble_eq_true rfl, Nat.le_of_ble_eq_true rfl⟩) (mPreV hKK hM (Nat.le_trans hlo hS.1) ctC_0 rfl) rfl rfl hl.1 rfl (lv_room (Nat.le_of_ble_eq_true rfl)) dX3_drop_34 ⟨Nat.le_of_ble_eq_true rfl, Nat.le_of_ble_eq_true rfl⟩) hS (fun H locs hM hS => ?_)
          refine lv_astore (lv' := [(4, .ref (ad (2 * (i + 1) + 8))), (0, .ref (ad 0)), (1, .int (nI j)), (2, .ref (ad (2 * j + 8))), (3, .int (nI (i + 1)))]) hx hb dX3_drop_37 hl (by decide) rfl (fun ls hl => ?_)
          refine lv_aload hx hb dX3_drop_39 (lv_at hl 0 rfl) ?_
          refine lv_ifnull hx hb dX3_drop_41 ?_
          refine lv_aload hx hb dX3_drop_44 (lv_at hl 0 rfl) ?_
          refine m_get F (ci := 0) (v := va_rf (oE ad ((drE E j i) (i + 1)).2.2.2.1)) (fun w h => tb_O (inX0 w h)) hK hM (ctC_e (by omega) (by omega) h200) rfl 4 (by decide) (tb_O lkX3_55) rfl dX3_drop_46 ?_
          refine lv_aload_n hx hb dX3_drop_49 rfl (lv_at hl 3 rfl) ?_
          have hsq : ((drE E j i) (i + 1)).2.2.2.1 = (E (i + 1)).2.2.2.1 := by rw [hda]; exact drE_sf (i := i) hdr
          have hiff := oE_inj hM h200 hj1 hj2 (o := ((drE E j i) (i + 1)).2.2.2.1) (fun k hk => hsfo (i + 1) (by omega) (by omega) k (by rw [← hsq]; exact hk))
          refine m_acmp_ne F (rx := oE ad ((drE E j i) (i + 1)).2.2.2.1) (tgt := 59) dX3_drop_50 (by decide) (fun c_50 => ?_) (fun c_50 => ?_)
          · skip
            have hno : ¬ ((va_up E j (seD (E j))) (i + 1)).2.2.1 = false ∨ ¬ (E (i + 1)).2.2.2.1 = some j := Or.inr (fun q => c_50 (hiff.mpr (by rw [hsq]; exact q)))
            refine lv_iinc (v := (nI (i + 1 + 1))) (lv' := [(3, .int (nI (i + 1 + 1))), (4, .ref (ad (2 * (i + 1) + 8))), (0, .ref (ad 0)), (1, .int (nI j)), (2, .ref (ad (2 * j + 8)))]) hx hb dX3_drop_59 hl (k := 4) rfl (nI_1 (i + 1)) (by decide) rfl (fun ls hl => ?_)
            refine lv_goto (tgt := 24) hx hb dX3_drop_62 (by decide) ?_
            exact ih_24 (i + 1) (by omega) (by omega) _ _ _ (by rw [drE_n (fun q => (show ¬ ((va_up E j (seD (E j))) (i + 1)).2.2.1 = false ∨ ¬ (E (i + 1)).2.2.2.1 = some j by first | exact hno | exact Or.inl (by rw [hdr]; decide)).elim (fun a => a q.1) (fun a => a q.2))]; exact hM) hS (lv_sub hl [2, 3, 4, 0] rfl)
          · skip
            have hq : (E (i + 1)).2.2.2.1 = some j := by rw [← hsq]; exact hiff.mp c_50
            refine lv_aload hx hb dX3_drop_53 (lv_at hl 0 rfl) ?_
            refine lv_null hx hb dX3_drop_55 ?_
            refine m_put F (ci := 0) (v := .null) (fun w h => tb_O (inX0 w h)) mc_X0 hK hM hS (ctC_e (by omega) (by omega) h200) 4 (by decide) (tb_O lkX3_55) rfl rfl rfl (Nat.le_of_ble_eq_true rfl) dX3_drop_56 (fun H locs hM hS => ?_)
            have hM : mw D vwCl lo ad (va_up (ctC aC ad n gl (drE E j i) G P co lc hc hn hs X) (2 * (i + 1) + 8) (some (.inr (0, [.ref (ad (2 * (i + 1) + 9)), .int (nI (((drE E j i) (i + 1)).1)), .int (((drE E j i) (i + 1)).2.1), .int (bI ((drE E j i) (i + 1)).2.2.1), .null, .int (nI (((drE E j i) (i + 1)).2.2.2.2))])))) H := hM
            have hM : mw D vwCl lo ad (ctC aC ad n gl (drE E j (i + 1)) G P co lc hc hn hs X) H := by
                have h9 : mw D vwCl lo ad (va_up (ctC aC ad n gl (drE E j i) G P co lc hc hn hs X) (2 * (i + 1) + 8) (some (entO ad (i + 1) (seS ((drE E j i) (i + 1)) none)))) H := hM
                rw [ctC_E (by omega) (by omega) h200, hda, drE_s hdr hq] at h9
                exact h9
            refine lv_iinc (v := (nI (i + 1 + 1))) (lv' := [(3, .int (nI (i + 1 + 1))), (4, .ref (ad (2 * (i + 1) + 8))), (0, .ref (ad 0)), (1, .int (nI j)), (2, .ref (ad (2 * j + 8)))]) hx hb dX3_drop_59 hl (k := 4) rfl (nI_1 (i + 1)) (by decide) rfl (fun ls hl => ?_)
            refine lv_goto (tgt := 24) hx hb dX3_drop_62 (by decide) ?_
            exact ih_24 (i + 1) (by omega) (by omega) _ _ _ hM hS (lv_sub hl [2, 3, 4, 0] rfl)
        · skip
          refine m_d1 (v := .null) (ct1 := ctC aC ad n gl (drE E j i) G P co lc hc hn hs X) (va_runV (As := [.int (nI (i + 1))]) (rest := []) F (c_livF l (i + 1) (by omega) (by omega) h200 (by rw [hda]; exact hdr)) (cwV 1 F.2.2.2.2 (go_V (fun _ h => tb_O h) mlX3_37 imX3_living seX3_living iniX3 cdX3_living) rfl rfl rfl (by decide +kernel) ⟨Nat.le_of_ble_eq_true rfl, Nat.le_of_ble_eq_true rfl⟩) (mPreV hKK hM (Nat.le_trans hlo hS.1) ctC_0 rfl) rfl rfl hl.1 rfl (lv_room (Nat.le_of_ble_eq_true rfl)) dX3_drop_34 ⟨Nat.le_of_ble_eq_true rfl, Nat.le_of_ble_eq_true rfl⟩) hS (fun H locs hM hS => ?_)
          refine lv_astoreN (lv' := [(4, .null), (0, .ref (ad 0)), (1, .int (nI j)), (2, .ref (ad (2 * j + 8))), (3, .int (nI (i + 1)))]) hx hb dX3_drop_37 hl (by decide) rfl (fun ls hl => ?_)
          refine lv_aloadN hx hb dX3_drop_39 (lv_at hl 0 rfl) ?_
          refine lv_ifnullN (tgt := 59) hx hb dX3_drop_41 (by decide) ?_
          refine lv_iinc (v := (nI (i + 1 + 1))) (lv' := [(3, .int (nI (i + 1 + 1))), (4, .null), (0, .ref (ad 0)), (1, .int (nI j)), (2, .ref (ad (2 * j + 8)))]) hx hb dX3_drop_59 hl (k := 4) rfl (nI_1 (i + 1)) (by decide) rfl (fun ls hl => ?_)
          refine lv_goto (tgt := 24) hx hb dX3_drop_62 (by decide) ?_
          exact ih_24 (i + 1) (by omega) (by omega) _ _ _ (by rw [drE_n (fun q => (show ¬ ((va_up E j (seD (E j))) (i + 1)).2.2.1 = false ∨ ¬ (E (i + 1)).2.2.2.1 = some j by first | exact hno | exact Or.inl (by rw [hdr]; decide)).elim (fun a => a q.1) (fun a => a q.2))]; exact hM) hS (lv_sub hl [2, 3, 4, 0] rfl)
  refine lv_aload_n hx hb dX3_drop_0 rfl (lv_at hl 0 rfl) ?_
  refine lv_iload_n hx hb dX3_drop_1 rfl (lv_at hl 1 rfl) ?_
  refine m_d1 (v := .ref (ad (2 * j + 8))) (ct1 := ctC aC ad n gl E G P co lc hc hn hs X) (va_runV (As := [.int (nI j)]) (rest := []) F (c_livT l j hj1 hj2 h200 hd) (cwV 1 F.2.2.2.2 (go_V (fun _ h => tb_O h) mlX3_37 imX3_living seX3_living iniX3 cdX3_living) rfl rfl rfl (by decide +kernel) ⟨Nat.le_of_ble_eq_true rfl, Nat.le_of_ble_eq_true rfl⟩) (mPreV hKK hM (Nat.le_trans hlo hS.1) ctC_0 rfl) rfl rfl hl.1 rfl (lv_room (Nat.le_of_ble_eq_true rfl)) dX3_drop_2 ⟨Nat.le_of_ble_eq_true rfl, Nat.le_of_ble_eq_true rfl⟩) hS (fun H locs hM hS => ?_)
  refine lv_astore_n (lv' := [(2, .ref (ad (2 * j + 8))), (0, .ref (ad 0)), (1, .int (nI j))]) hx hb dX3_drop_5 rfl hl (by decide) rfl (fun ls hl => ?_)
  refine lv_aload_n hx hb dX3_drop_6 rfl (lv_at hl 0 rfl) ?_
  refine lv_ifnonnull (tgt := 12) hx hb dX3_drop_7 (by decide) ?_
  refine lv_aload_n hx hb dX3_drop_12 rfl (lv_at hl 0 rfl) ?_
  refine lv_iconst (v := (nI 1)) hx hb dX3_drop_13 (by decide) ?_
  refine m_put F (ci := 0) (v := .int (nI 1)) (fun w h => tb_O (inX0 w h)) mc_X0 hK hM hS (ctC_e hj1 hj2 h200) 3 (by decide) (tb_O lkX3_51) rfl rfl rfl (Nat.le_of_ble_eq_true rfl) dX3_drop_14 (fun H locs hM hS => ?_)
  have hM : mw D vwCl lo ad (va_up (ctC aC ad n gl E G P co lc hc hn hs X) (2 * j + 8) (some (.inr (0, [.ref (ad (2 * j + 9)), .int (nI ((E j).1)), .int ((E j).2.1), .int (nI 1), va_rf (oE ad (E j).2.2.2.1), .int (nI ((E j).2.2.2.2))])))) H := hM
  refine lv_aload_n hx hb dX3_drop_17 rfl (lv_at hl 0 rfl) ?_
  refine lv_null hx hb dX3_drop_18 ?_
  refine m_put F (ci := 0) (v := .null) (fun w h => tb_O (inX0 w h)) mc_X0 hK hM hS (va_up_self _ _ _) 4 (by decide) (tb_O lkX3_55) rfl rfl rfl (Nat.le_of_ble_eq_true rfl) dX3_drop_19 (fun H locs hM hS => ?_)
  have hM : mw D vwCl lo ad (va_up (va_up (ctC aC ad n gl E G P co lc hc hn hs X) (2 * j + 8) (some (.inr (0, [.ref (ad (2 * j + 9)), .int (nI ((E j).1)), .int ((E j).2.1), .int (nI 1), va_rf (oE ad (E j).2.2.2.1), .int (nI ((E j).2.2.2.2))])))) (2 * j + 8) (some (.inr (0, [.ref (ad (2 * j + 9)), .int (nI ((E j).1)), .int ((E j).2.1), .int (nI 1), .null, .int (nI ((E j).2.2.2.2))])))) H := hM
  have hM : mw D vwCl lo ad (ctC aC ad n gl (drE E j 0) G P co lc hc hn hs X) H := by
      have h9 : mw D vwCl lo ad (va_up (va_up (ctC aC ad n gl E G P co lc hc hn hs X) (2 * j + 8) (some (.inr (0, [.ref (ad (2 * j + 9)), .int (nI (E j).1), .int (E j).2.1, .int (nI 1), va_rf (oE ad (E j).2.2.2.1), .int (nI (E j).2.2.2.2)])))) (2 * j + 8) (some (entO ad j (seD (E j))))) H := hM
      rw [bx_uu, ctC_E hj1 hj2 h200, ← drE_0] at h9
      exact h9
  refine lv_iconst (v := (nI 1)) hx hb dX3_drop_22 (by decide) ?_
  refine lv_istore_n (lv' := [(3, .int (nI 1)), (2, .ref (ad (2 * j + 8))), (0, .ref (ad 0)), (1, .int (nI j))]) hx hb dX3_drop_23 rfl hl (by decide) rfl (fun ls hl => ?_)
  exact loop_24 (n + 1) 0 (Nat.zero_le _) (by omega) _ _ _ hM hS (lv_sub hl [2, 3, 1, 0] rfl)

set_option maxHeartbeats 4000000 in
set_option maxRecDepth 100000 in
theorem c_costO (l : Launch) {D : va_G} {aC : Nat → ClassId} {lo : Nat} {ad : Nat → Nat} {n : Nat} {gl : Int32} {E : Nat → Ent} {G : Nat → Nat → Nat} {P : Nat} {co : Nat → Option Nat} {lc : Nat → Nat} {hc : Nat} {hn hs : Nat → Nat} {X : Nat → Option va_E} (x y z : Int32) (hk : okC x y z = false) : Met l yX3_cost (wsO yX3_cost cX3_cost 4 (some .int)) ({ frames := 1, cells := 0, slots := 0, locals := 20 } : Room) (mPc D vwCl (tyA aC) lo ad (ctC aC ad n gl E G P co lc hc hn hs X) [.ref (ad 0), .int x, .int y, .int z]) (mD1 D vwCl lo (.int (-2)) ad (ctC aC ad n gl E G P co lc hc hn hs X)) 0 0 (fun q => lo ≤ q) := by
  refine Met.ofW (cc := cX3_cost) (maxL := 4) (ret := (some .int)) (by decide) rfl ?_
  intro pr en s0 mm args below meth cc0 s₁ B hml hv
  obtain ⟨rfl, hlo, hM, hKK⟩ := hv
  have hK := hKK.1
  have hr := B.returns
  have hts := atoms_spec (ws := (wsO yX3_cost cX3_cost 4 (some .int))) B.pre
  have F : CallFix pr mm cc0 cX3_cost 4 s0 (([.ref (ad 0), .int x, .int y, .int z] : List Value).toArray) (wsO yX3_cost cX3_cost 4 (some .int)) RX3 := ⟨B.exec, B.bytes, hml, findClass_of_methodNamed B.named, hts⟩
  have hx := F.1
  have hb := F.2.1
  have hlocks := B.notSynchronized
  have hS : va_S (fun q => lo ≤ q) s0.heap s0.heap [] := va_S.rf
  have hl := lv_entry ([.ref (ad 0), .int x, .int y, .int z]) (n := 4) (Nat.le_of_ble_eq_true rfl)
  rw [lg_entry_eq]
  generalize (lg_sl ([.ref (ad 0), .int x, .int y, .int z]) ++ List.replicate (4 - (lg_sl ([.ref (ad 0), .int x, .int y, .int z])).length) Slot.unset).toArray = ls at hl ⊢
  have hl : lv_has ls 4 [(0, .ref (ad 0)), (1, .int x), (2, .int y), (3, .int z)] := hl
  refine lv_iload_n hx hb dX3_cost_0 rfl (lv_at hl 1 rfl) ?_
  refine lv_if_lt (tgt := 28) hx hb dX3_cost_1 (by decide) (fun c_1 => ?_) (fun c_1 => ?_)
  · skip
    refine lv_bipush (v := (-2)) hx hb dX3_cost_28 (by decide) ?_
    exact W.iret hx hb hr (fun t ht hW => ⟨⟨_, _, _, rfl, ⟨rfl, rfl, rfl⟩, by rw [ht]; exact hM⟩, hS.F ht⟩) hS.2.2 dX3_cost_30
  · skip
    refine lv_iload_n hx hb dX3_cost_4 rfl (lv_at hl 1 rfl) ?_
    refine lv_bipush (v := (nI 20)) hx hb dX3_cost_5 (by decide) ?_
    refine lv_icmp_ge (tgt := 28) hx hb dX3_cost_7 (by decide) (fun c_7 => ?_) (fun c_7 => ?_)
    · skip
      refine lv_bipush (v := (-2)) hx hb dX3_cost_28 (by decide) ?_
      exact W.iret hx hb hr (fun t ht hW => ⟨⟨_, _, _, rfl, ⟨rfl, rfl, rfl⟩, by rw [ht]; exact hM⟩, hS.F ht⟩) hS.2.2 dX3_cost_30
    · skip
      refine lv_iload_n hx hb dX3_cost_10 rfl (lv_at hl 2 rfl) ?_
      refine m_d1 (v := .int (bI (isSg y))) (ct1 := ctC aC ad n gl E G P co lc hc hn hs X) (va_runS (As := [.int y]) (rest := []) F (c_isSign l y) (va_cwS 1 F.2.2.2.2 (go_S (fun _ h => tb_O h) mlX3_41 stX3_isSign iniX3 cdX3_isSign) rfl rfl rfl (by decide +kernel) ⟨Nat.le_of_ble_eq_true rfl, Nat.le_of_ble_eq_true rfl⟩) (mPreS hKK hM (Nat.le_trans hlo hS.1)) rfl rfl hl.1 rfl (lv_room (Nat.le_of_ble_eq_true rfl)) dX3_cost_11 ⟨Nat.le_of_ble_eq_true rfl, Nat.le_of_ble_eq_true rfl⟩) hS (fun H locs hM hS => ?_)
      refine lv_if_eq (tgt := 28) hx hb dX3_cost_14 (by decide) (fun c_14 => ?_) (fun c_14 => ?_)
      · skip
        refine lv_bipush (v := (-2)) hx hb dX3_cost_28 (by decide) ?_
        exact W.iret hx hb hr (fun t ht hW => ⟨⟨_, _, _, rfl, ⟨rfl, rfl, rfl⟩, by rw [ht]; exact hM⟩, hS.F ht⟩) hS.2.2 dX3_cost_30
      · skip
        refine lv_iload_n hx hb dX3_cost_17 rfl (lv_at hl 3 rfl) ?_
        refine lv_if_lt (tgt := 28) hx hb dX3_cost_18 (by decide) (fun c_18 => ?_) (fun c_18 => ?_)
        · skip
          refine lv_bipush (v := (-2)) hx hb dX3_cost_28 (by decide) ?_
          exact W.iret hx hb hr (fun t ht hW => ⟨⟨_, _, _, rfl, ⟨rfl, rfl, rfl⟩, by rw [ht]; exact hM⟩, hS.F ht⟩) hS.2.2 dX3_cost_30
        · skip
          refine lv_iload_n hx hb dX3_cost_21 rfl (lv_at hl 3 rfl) ?_
          refine lv_sipush (v := (nI 1000)) hx hb dX3_cost_22 (by decide) ?_
          refine lv_icmp_le (tgt := 31) hx hb dX3_cost_25 (by decide) (fun c_25 => ?_) (fun c_25 => ?_)
          · skip
            exact absurd hk (by simp [okC, c_1, c_7, bI_ne c_14, c_18, c_25])
          · skip
            refine lv_bipush (v := (-2)) hx hb dX3_cost_28 (by decide) ?_
            exact W.iret hx hb hr (fun t ht hW => ⟨⟨_, _, _, rfl, ⟨rfl, rfl, rfl⟩, by rw [ht]; exact hM⟩, hS.F ht⟩) hS.2.2 dX3_cost_30

set_option maxHeartbeats 4000000 in
set_option maxRecDepth 100000 in
theorem c_cost (l : Launch) {D : va_G} {aC : Nat → ClassId} {lo : Nat} {ad : Nat → Nat} {n : Nat} {gl : Int32} {E : Nat → Ent} {G : Nat → Nat → Nat} {P : Nat} {co : Nat → Option Nat} {lc : Nat → Nat} {hc : Nat} {hn hs : Nat → Nat} {X : Nat → Option va_E} (pl q cs : Nat) (hp : pl < 20) (hq1 : 33 ≤ q) (hq2 : q ≤ 126) (hcs : cs ≤ 1000) (hP : P ≤ 20) : Met l yX3_cost (wsO yX3_cost cX3_cost 4 (some .int)) ({ frames := 3, cells := 0, slots := 0, locals := 65 } : Room) (mPc D vwCl (tyA aC) lo ad (ctC aC ad n gl E G P co lc hc hn hs X) [.ref (ad 0), .int (nI pl), .int (nI q), .int (nI cs)]) (mD1 D vwCl lo (.int (nI (max P (pl + 1)))) ad (ctC aC ad n gl E G (max P (pl + 1)) (va_up co (pl * 94 + q - 33) (some cs)) lc hc hn hs X)) 0 0 (fun q => lo ≤ q) := by
  refine Met.ofW (cc := cX3_cost) (maxL := 4) (ret := (some .int)) (by decide) rfl ?_
  intro pr en s0 mm args below meth cc0 s₁ B hml hv
  obtain ⟨rfl, hlo, hM, hKK⟩ := hv
  have hK := hKK.1
  have hr := B.returns
  have hts := atoms_spec (ws := (wsO yX3_cost cX3_cost 4 (some .int))) B.pre
  have F : CallFix pr mm cc0 cX3_cost 4 s0 (([.ref (ad 0), .int (nI pl), .int (nI q), .int (nI cs)] : List Value).toArray) (wsO yX3_cost cX3_cost 4 (some .int)) RX3 := ⟨B.exec, B.bytes, hml, findClass_of_methodNamed B.named, hts⟩
  have hx := F.1
  have hb := F.2.1
  have hlocks := B.notSynchronized
  have hS : va_S (fun q => lo ≤ q) s0.heap s0.heap [] := va_S.rf
  have hl := lv_entry ([.ref (ad 0), .int (nI pl), .int (nI q), .int (nI cs)]) (n := 4) (Nat.le_of_ble_eq_true rfl)
  rw [lg_entry_eq]
  generalize (lg_sl ([.ref (ad 0), .int (nI pl), .int (nI q), .int (nI cs)]) ++ List.replicate (4 - (lg_sl ([.ref (ad 0), .int (nI pl), .int (nI q), .int (nI cs)])).length) Slot.unset).toArray = ls at hl ⊢
  have hl : lv_has ls 4 [(0, .ref (ad 0)), (1, .int (nI pl)), (2, .int (nI q)), (3, .int (nI cs))] := hl
  refine lv_iload_n hx hb dX3_cost_0 rfl (lv_at hl 1 rfl) ?_
  refine lv_if_lt (tgt := 28) hx hb dX3_cost_1 (by decide) (fun c_1 => ?_) (fun c_1 => ?_)
  · skip
    exact absurd c_1 (nI_pos (by omega))
  · skip
    refine lv_iload_n hx hb dX3_cost_4 rfl (lv_at hl 1 rfl) ?_
    refine lv_bipush (v := (nI 20)) hx hb dX3_cost_5 (by decide) ?_
    refine m_icmp_ge F (a := pl) (b := 20) (by omega) (by omega) (tgt := 28) dX3_cost_7 (by decide) (fun c_7 => ?_) (fun c_7 => ?_)
    · skip
      exact absurd c_7 (by omega)
    · skip
      refine lv_iload_n hx hb dX3_cost_10 rfl (lv_at hl 2 rfl) ?_
      refine m_d1 (v := .int (bI (isSg (nI q)))) (ct1 := ctC aC ad n gl E G P co lc hc hn hs X) (va_runS (As := [.int (nI q)]) (rest := []) F (c_isSign l (nI q)) (va_cwS 1 F.2.2.2.2 (go_S (fun _ h => tb_O h) mlX3_41 stX3_isSign iniX3 cdX3_isSign) rfl rfl rfl (by decide +kernel) ⟨Nat.le_of_ble_eq_true rfl, Nat.le_of_ble_eq_true rfl⟩) (mPreS hKK hM (Nat.le_trans hlo hS.1)) rfl rfl hl.1 rfl (lv_room (Nat.le_of_ble_eq_true rfl)) dX3_cost_11 ⟨Nat.le_of_ble_eq_true rfl, Nat.le_of_ble_eq_true rfl⟩) hS (fun H locs hM hS => ?_)
      refine lv_if_eq (tgt := 28) hx hb dX3_cost_14 (by decide) (fun c_14 => ?_) (fun c_14 => ?_)
      · skip
        exact absurd (by rw [isSg_nI hq1 hq2]; decide) (fun h : ¬ bI (isSg (nI q)) = 0 => h c_14)
      · skip
        refine lv_iload_n hx hb dX3_cost_17 rfl (lv_at hl 3 rfl) ?_
        refine lv_if_lt (tgt := 28) hx hb dX3_cost_18 (by decide) (fun c_18 => ?_) (fun c_18 => ?_)
        · skip
          exact absurd c_18 (nI_pos (by omega))
        · skip
          refine lv_iload_n hx hb dX3_cost_21 rfl (lv_at hl 3 rfl) ?_
          refine lv_sipush (v := (nI 1000)) hx hb dX3_cost_22 (by decide) ?_
          refine m_icmp_le F (a := cs) (b := 1000) (by omega) (by omega) (tgt := 31) dX3_cost_25 (by decide) (fun c_25 => ?_) (fun c_25 => ?_)
          · skip
            refine lv_aload_n hx hb dX3_cost_31 rfl (lv_at hl 0 rfl) ?_
            refine m_get F (ci := 3) (v := .ref (ad 2)) (fun w h => tb_O (inX3 w h)) hK hM ctC_0 rfl 2 (by decide) (tb_O lkX3_22) rfl dX3_cost_32 ?_
            refine lv_iload_n hx hb dX3_cost_35 rfl (lv_at hl 1 rfl) ?_
            refine lv_iload_n hx hb dX3_cost_36 rfl (lv_at hl 2 rfl) ?_
            refine lv_iload_n hx hb dX3_cost_37 rfl (lv_at hl 3 rfl) ?_
            refine m_d0 (ct1 := va_up (va_up (ctC aC ad n gl E G P co lc hc hn hs X) 3 (some (iA aC 1880 (fun j => cV ((va_up co (pl * 94 + q - 33) (some cs)) j))))) 2 (some (.inr (2, [.ref (ad 3), .ref (ad 4), .int (nI (max P (pl + 1)))])))) (va_runV (As := [.int (nI pl), .int (nI q), .int (nI cs)]) (rest := []) F (c_tell l pl q cs hp hq1 hq2 hcs hP ctC_2 ctC_3) (cwV 3 F.2.2.2.2 (go_V (fun _ h => tb_O h) mlX3_63 imX2_tell seX2_tell iniX2 cdX2_tell) rfl rfl rfl (by decide +kernel) ⟨Nat.le_of_ble_eq_true rfl, Nat.le_of_ble_eq_true rfl⟩) (mPreV hKK hM (Nat.le_trans hlo hS.1) ctC_2 rfl) rfl rfl hl.1 rfl (lv_room (Nat.le_of_ble_eq_true rfl)) dX3_cost_38 ⟨Nat.le_of_ble_eq_true rfl, Nat.le_of_ble_eq_true rfl⟩) hS (fun H locs hM hS => ?_)
            have hM : mw D vwCl lo ad (ctC aC ad n gl E G (max P (pl + 1)) (va_up co (pl * 94 + q - 33) (some cs)) lc hc hn hs X) H := by rw [ctC_co, ctC_P] at hM; exact hM
            refine lv_aload_n hx hb dX3_cost_41 rfl (lv_at hl 0 rfl) ?_
            refine m_get F (ci := 3) (v := .ref (ad 2)) (fun w h => tb_O (inX3 w h)) hK hM ctC_0 rfl 2 (by decide) (tb_O lkX3_22) rfl dX3_cost_42 ?_
            refine m_get F (ci := 2) (v := .int (nI (max P (pl + 1)))) (fun w h => tb_O (inX2 w h)) hK hM ctC_2 rfl 2 (by decide) (tb_O lkX3_67) rfl dX3_cost_45 ?_
            exact W.iret hx hb hr (fun t ht hW => ⟨⟨_, _, _, rfl, ⟨rfl, rfl, rfl⟩, by rw [ht]; exact hM⟩, hS.F ht⟩) hS.2.2 dX3_cost_48
          · skip
            exact absurd c_25 (by omega)

set_option maxHeartbeats 4000000 in
set_option maxRecDepth 100000 in
theorem c_wordU (l : Launch) {D : va_G} {aC : Nat → ClassId} {lo : Nat} {ad : Nat → Nat} {n : Nat} {gl : Int32} {E : Nat → Ent} {G : Nat → Nat → Nat} {P : Nat} {co : Nat → Option Nat} {lc : Nat → Nat} {hc : Nat} {hn hs : Nat → Nat} {X : Nat → Option va_E} (x : Int32) (hh : hc ≤ 200) (hk : hasB hc x = false) : Met l yX3_word (wsO yX3_word cX3_word 2 (some .int)) ({ frames := 1, cells := 0, slots := 0, locals := 21 } : Room) (mPc D vwCl (tyA aC) lo ad (ctC aC ad n gl E G P co lc hc hn hs X) [.ref (ad 0), .int x]) (mD1 D vwCl lo (.int (-1)) ad (ctC aC ad n gl E G P co lc hc hn hs X)) 0 0 (fun q => lo ≤ q) := by
  refine Met.ofW (cc := cX3_word) (maxL := 2) (ret := (some .int)) (by decide) rfl ?_
  intro pr en s0 mm args below meth cc0 s₁ B hml hv
  obtain ⟨rfl, hlo, hM, hKK⟩ := hv
  have hK := hKK.1
  have hr := B.returns
  have hts := atoms_spec (ws := (wsO yX3_word cX3_word 2 (some .int))) B.pre
  have F : CallFix pr mm cc0 cX3_word 2 s0 (([.ref (ad 0), .int x] : List Value).toArray) (wsO yX3_word cX3_word 2 (some .int)) RX3 := ⟨B.exec, B.bytes, hml, findClass_of_methodNamed B.named, hts⟩
  have hx := F.1
  have hb := F.2.1
  have hlocks := B.notSynchronized
  have hS : va_S (fun q => lo ≤ q) s0.heap s0.heap [] := va_S.rf
  have hl := lv_entry ([.ref (ad 0), .int x]) (n := 2) (Nat.le_of_ble_eq_true rfl)
  rw [lg_entry_eq]
  generalize (lg_sl ([.ref (ad 0), .int x]) ++ List.replicate (2 - (lg_sl ([.ref (ad 0), .int x])).length) Slot.unset).toArray = ls at hl ⊢
  have hl : lv_has ls 2 [(0, .ref (ad 0)), (1, .int x)] := hl
  refine lv_aload_n hx hb dX3_word_0 rfl (lv_at hl 0 rfl) ?_
  refine m_get F (ci := 3) (v := .ref (ad 5)) (fun w h => tb_O (inX3 w h)) hK hM ctC_0 rfl 3 (by decide) (tb_O lkX3_29) rfl dX3_word_1 ?_
  refine lv_iload_n hx hb dX3_word_4 rfl (lv_at hl 1 rfl) ?_
  refine m_d1 (v := .int (bI (hasB hc x))) (ct1 := ctC aC ad n gl E G P co lc hc hn hs X) (va_runV (As := [.int x]) (rest := []) F (c_has l x hh ctC_5 ctC_6) (cwV 1 F.2.2.2.2 (go_V (fun _ h => tb_O h) mlX3_98 imX1_has seX1_has iniX1 cdX1_has) rfl rfl rfl (by decide +kernel) ⟨Nat.le_of_ble_eq_true rfl, Nat.le_of_ble_eq_true rfl⟩) (mPreV hKK hM (Nat.le_trans hlo hS.1) ctC_5 rfl) rfl rfl hl.1 rfl (lv_room (Nat.le_of_ble_eq_true rfl)) dX3_word_5 ⟨Nat.le_of_ble_eq_true rfl, Nat.le_of_ble_eq_true rfl⟩) hS (fun H locs hM hS => ?_)
  refine lv_if_eq (tgt := 23) hx hb dX3_word_8 (by decide) (fun c_8 => ?_) (fun c_8 => ?_)
  · skip
    refine lv_iconst (v := (-1)) hx hb dX3_word_23 (by decide) ?_
    exact W.iret hx hb hr (fun t ht hW => ⟨⟨_, _, _, rfl, ⟨rfl, rfl, rfl⟩, by rw [ht]; exact hM⟩, hS.F ht⟩) hS.2.2 dX3_word_24
  · skip
    exact absurd (by rw [hk]; rfl) c_8

set_option maxHeartbeats 4000000 in
set_option maxRecDepth 100000 in
theorem c_word (l : Launch) {D : va_G} {aC : Nat → ClassId} {lo : Nat} {ad : Nat → Nat} {n : Nat} {gl : Int32} {E : Nat → Ent} {G : Nat → Nat → Nat} {P : Nat} {co : Nat → Option Nat} {lc : Nat → Nat} {hc : Nat} {hn hs : Nat → Nat} {X : Nat → Option va_E} (j : Nat) (hh : hc ≤ 200) (hj : j < hc) : Met l yX3_word (wsO yX3_word cX3_word 2 (some .int)) ({ frames := 1, cells := 0, slots := 0, locals := 21 } : Room) (mPc D vwCl (tyA aC) lo ad (ctC aC ad n gl E G P co lc hc hn hs X) [.ref (ad 0), .int (nI j)]) (mD1 D vwCl lo (.int (nI (hn j))) ad (ctC aC ad n gl E G P co lc hc hn hs X)) 0 0 (fun q => lo ≤ q) := by
  refine Met.ofW (cc := cX3_word) (maxL := 2) (ret := (some .int)) (by decide) rfl ?_
  intro pr en s0 mm args below meth cc0 s₁ B hml hv
  obtain ⟨rfl, hlo, hM, hKK⟩ := hv
  have hK := hKK.1
  have hr := B.returns
  have hts := atoms_spec (ws := (wsO yX3_word cX3_word 2 (some .int))) B.pre
  have F : CallFix pr mm cc0 cX3_word 2 s0 (([.ref (ad 0), .int (nI j)] : List Value).toArray) (wsO yX3_word cX3_word 2 (some .int)) RX3 := ⟨B.exec, B.bytes, hml, findClass_of_methodNamed B.named, hts⟩
  have hx := F.1
  have hb := F.2.1
  have hlocks := B.notSynchronized
  have hS : va_S (fun q => lo ≤ q) s0.heap s0.heap [] := va_S.rf
  have hl := lv_entry ([.ref (ad 0), .int (nI j)]) (n := 2) (Nat.le_of_ble_eq_true rfl)
  rw [lg_entry_eq]
  generalize (lg_sl ([.ref (ad 0), .int (nI j)]) ++ List.replicate (2 - (lg_sl ([.ref (ad 0), .int (nI j)])).length) Slot.unset).toArray = ls at hl ⊢
  have hl : lv_has ls 2 [(0, .ref (ad 0)), (1, .int (nI j))] := hl
  refine lv_aload_n hx hb dX3_word_0 rfl (lv_at hl 0 rfl) ?_
  refine m_get F (ci := 3) (v := .ref (ad 5)) (fun w h => tb_O (inX3 w h)) hK hM ctC_0 rfl 3 (by decide) (tb_O lkX3_29) rfl dX3_word_1 ?_
  refine lv_iload_n hx hb dX3_word_4 rfl (lv_at hl 1 rfl) ?_
  refine m_d1 (v := .int (bI (hasB hc (nI j)))) (ct1 := ctC aC ad n gl E G P co lc hc hn hs X) (va_runV (As := [.int (nI j)]) (rest := []) F (c_has l (nI j) hh ctC_5 ctC_6) (cwV 1 F.2.2.2.2 (go_V (fun _ h => tb_O h) mlX3_98 imX1_has seX1_has iniX1 cdX1_has) rfl rfl rfl (by decide +kernel) ⟨Nat.le_of_ble_eq_true rfl, Nat.le_of_ble_eq_true rfl⟩) (mPreV hKK hM (Nat.le_trans hlo hS.1) ctC_5 rfl) rfl rfl hl.1 rfl (lv_room (Nat.le_of_ble_eq_true rfl)) dX3_word_5 ⟨Nat.le_of_ble_eq_true rfl, Nat.le_of_ble_eq_true rfl⟩) hS (fun H locs hM hS => ?_)
  refine lv_if_eq (tgt := 23) hx hb dX3_word_8 (by decide) (fun c_8 => ?_) (fun c_8 => ?_)
  · skip
    exact absurd (by rw [hasB_nI hj (by omega)]; decide) (fun h : ¬ bI (hasB hc (nI j)) = 0 => h c_8)
  · skip
    refine lv_aload_n hx hb dX3_word_11 rfl (lv_at hl 0 rfl) ?_
    refine m_get F (ci := 3) (v := .ref (ad 5)) (fun w h => tb_O (inX3 w h)) hK hM ctC_0 rfl 3 (by decide) (tb_O lkX3_29) rfl dX3_word_12 ?_
    refine m_get F (ci := 1) (v := .ref (ad 6)) (fun w h => tb_O (inX1 w h)) hK hM ctC_5 rfl 0 (by decide) (tb_O lkX3_101) rfl dX3_word_15 ?_
    refine lv_iload_n hx hb dX3_word_18 rfl (lv_at hl 1 rfl) ?_
    refine m_iald F hK hM 0 rfl (j := j) ctC_6 (by omega) (by decide) dX3_word_19 ?_
    refine m_top (y := (nI (hn j))) rfl ?_
    refine lv_goto (tgt := 24) hx hb dX3_word_20 (by decide) ?_
    exact W.iret hx hb hr (fun t ht hW => ⟨⟨_, _, _, rfl, ⟨rfl, rfl, rfl⟩, by rw [ht]; exact hM⟩, hS.F ht⟩) hS.2.2 dX3_word_24

set_option maxHeartbeats 4000000 in
set_option maxRecDepth 100000 in
theorem c_sumU (l : Launch) {D : va_G} {aC : Nat → ClassId} {lo : Nat} {ad : Nat → Nat} {n : Nat} {gl : Int32} {E : Nat → Ent} {G : Nat → Nat → Nat} {P : Nat} {co : Nat → Option Nat} {lc : Nat → Nat} {hc : Nat} {hn hs : Nat → Nat} {X : Nat → Option va_E} (x : Int32) (hh : hc ≤ 200) (hk : hasB hc x = false) : Met l yX3_sum (wsO yX3_sum cX3_sum 2 (some .long)) ({ frames := 1, cells := 0, slots := 0, locals := 21 } : Room) (mPc D vwCl (tyA aC) lo ad (ctC aC ad n gl E G P co lc hc hn hs X) [.ref (ad 0), .int x]) (mD1 D vwCl lo (.long (-1)) ad (ctC aC ad n gl E G P co lc hc hn hs X)) 0 0 (fun q => lo ≤ q) := by
  refine Met.ofW (cc := cX3_sum) (maxL := 2) (ret := (some .long)) (by decide) rfl ?_
  intro pr en s0 mm args below meth cc0 s₁ B hml hv
  obtain ⟨rfl, hlo, hM, hKK⟩ := hv
  have hK := hKK.1
  have hr := B.returns
  have hts := atoms_spec (ws := (wsO yX3_sum cX3_sum 2 (some .long))) B.pre
  have F : CallFix pr mm cc0 cX3_sum 2 s0 (([.ref (ad 0), .int x] : List Value).toArray) (wsO yX3_sum cX3_sum 2 (some .long)) RX3 := ⟨B.exec, B.bytes, hml, findClass_of_methodNamed B.named, hts⟩
  have hx := F.1
  have hb := F.2.1
  have hlocks := B.notSynchronized
  have hS : va_S (fun q => lo ≤ q) s0.heap s0.heap [] := va_S.rf
  have hl := lv_entry ([.ref (ad 0), .int x]) (n := 2) (Nat.le_of_ble_eq_true rfl)
  rw [lg_entry_eq]
  generalize (lg_sl ([.ref (ad 0), .int x]) ++ List.replicate (2 - (lg_sl ([.ref (ad 0), .int x])).length) Slot.unset).toArray = ls at hl ⊢
  have hl : lv_has ls 2 [(0, .ref (ad 0)), (1, .int x)] := hl
  refine lv_aload_n hx hb dX3_sum_0 rfl (lv_at hl 0 rfl) ?_
  refine m_get F (ci := 3) (v := .ref (ad 5)) (fun w h => tb_O (inX3 w h)) hK hM ctC_0 rfl 3 (by decide) (tb_O lkX3_29) rfl dX3_sum_1 ?_
  refine lv_iload_n hx hb dX3_sum_4 rfl (lv_at hl 1 rfl) ?_
  refine m_d1 (v := .int (bI (hasB hc x))) (ct1 := ctC aC ad n gl E G P co lc hc hn hs X) (va_runV (As := [.int x]) (rest := []) F (c_has l x hh ctC_5 ctC_6) (cwV 1 F.2.2.2.2 (go_V (fun _ h => tb_O h) mlX3_98 imX1_has seX1_has iniX1 cdX1_has) rfl rfl rfl (by decide +kernel) ⟨Nat.le_of_ble_eq_true rfl, Nat.le_of_ble_eq_true rfl⟩) (mPreV hKK hM (Nat.le_trans hlo hS.1) ctC_5 rfl) rfl rfl hl.1 rfl (lv_room (Nat.le_of_ble_eq_true rfl)) dX3_sum_5 ⟨Nat.le_of_ble_eq_true rfl, Nat.le_of_ble_eq_true rfl⟩) hS (fun H locs hM hS => ?_)
  refine lv_if_eq (tgt := 24) hx hb dX3_sum_8 (by decide) (fun c_8 => ?_) (fun c_8 => ?_)
  · skip
    refine lv_ldc2 (v := (-1)) hx hb F.2.2.2.1 (F.2.2.2.2 _ (by decide +kernel)) dX3_sum_24 ?_
    exact W.lret hx hb hr (fun t ht hW => ⟨⟨_, _, _, rfl, ⟨rfl, rfl, rfl⟩, by rw [ht]; exact hM⟩, hS.F ht⟩) hS.2.2 dX3_sum_27
  · skip
    exact absurd (by rw [hk]; rfl) c_8

set_option maxHeartbeats 4000000 in
set_option maxRecDepth 100000 in
theorem c_sum (l : Launch) {D : va_G} {aC : Nat → ClassId} {lo : Nat} {ad : Nat → Nat} {n : Nat} {gl : Int32} {E : Nat → Ent} {G : Nat → Nat → Nat} {P : Nat} {co : Nat → Option Nat} {lc : Nat → Nat} {hc : Nat} {hn hs : Nat → Nat} {X : Nat → Option va_E} (j : Nat) (hh : hc ≤ 200) (hj : j < hc) : Met l yX3_sum (wsO yX3_sum cX3_sum 2 (some .long)) ({ frames := 1, cells := 0, slots := 0, locals := 21 } : Room) (mPc D vwCl (tyA aC) lo ad (ctC aC ad n gl E G P co lc hc hn hs X) [.ref (ad 0), .int (nI j)]) (mD1 D vwCl lo (.long ((nI (hs j)).toInt64)) ad (ctC aC ad n gl E G P co lc hc hn hs X)) 0 0 (fun q => lo ≤ q) := by
  refine Met.ofW (cc := cX3_sum) (maxL := 2) (ret := (some .long)) (by decide) rfl ?_
  intro pr en s0 mm args below meth cc0 s₁ B hml hv
  obtain ⟨rfl, hlo, hM, hKK⟩ := hv
  have hK := hKK.1
  have hr := B.returns
  have hts := atoms_spec (ws := (wsO yX3_sum cX3_sum 2 (some .long))) B.pre
  have F : CallFix pr mm cc0 cX3_sum 2 s0 (([.ref (ad 0), .int (nI j)] : List Value).toArray) (wsO yX3_sum cX3_sum 2 (some .long)) RX3 := ⟨B.exec, B.bytes, hml, findClass_of_methodNamed B.named, hts⟩
  have hx := F.1
  have hb := F.2.1
  have hlocks := B.notSynchronized
  have hS : va_S (fun q => lo ≤ q) s0.heap s0.heap [] := va_S.rf
  have hl := lv_entry ([.ref (ad 0), .int (nI j)]) (n := 2) (Nat.le_of_ble_eq_true rfl)
  rw [lg_entry_eq]
  generalize (lg_sl ([.ref (ad 0), .int (nI j)]) ++ List.replicate (2 - (lg_sl ([.ref (ad 0), .int (nI j)])).length) Slot.unset).toArray = ls at hl ⊢
  have hl : lv_has ls 2 [(0, .ref (ad 0)), (1, .int (nI j))] := hl
  refine lv_aload_n hx hb dX3_sum_0 rfl (lv_at hl 0 rfl) ?_
  refine m_get F (ci := 3) (v := .ref (ad 5)) (fun w h => tb_O (inX3 w h)) hK hM ctC_0 rfl 3 (by decide) (tb_O lkX3_29) rfl dX3_sum_1 ?_
  refine lv_iload_n hx hb dX3_sum_4 rfl (lv_at hl 1 rfl) ?_
  refine m_d1 (v := .int (bI (hasB hc (nI j)))) (ct1 := ctC aC ad n gl E G P co lc hc hn hs X) (va_runV (As := [.int (nI j)]) (rest := []) F (c_has l (nI j) hh ctC_5 ctC_6) (cwV 1 F.2.2.2.2 (go_V (fun _ h => tb_O h) mlX3_98 imX1_has seX1_has iniX1 cdX1_has) rfl rfl rfl (by decide +kernel) ⟨Nat.le_of_ble_eq_true rfl, Nat.le_of_ble_eq_true rfl⟩) (mPreV hKK hM (Nat.le_trans hlo hS.1) ctC_5 rfl) rfl rfl hl.1 rfl (lv_room (Nat.le_of_ble_eq_true rfl)) dX3_sum_5 ⟨Nat.le_of_ble_eq_true rfl, Nat.le_of_ble_eq_true rfl⟩) hS (fun H locs hM hS => ?_)
  refine lv_if_eq (tgt := 24) hx hb dX3_sum_8 (by decide) (fun c_8 => ?_) (fun c_8 => ?_)
  · skip
    exact absurd (by rw [hasB_nI hj (by omega)]; decide) (fun h : ¬ bI (hasB hc (nI j)) = 0 => h c_8)
  · skip
    refine lv_aload_n hx hb dX3_sum_11 rfl (lv_at hl 0 rfl) ?_
    refine m_get F (ci := 3) (v := .ref (ad 5)) (fun w h => tb_O (inX3 w h)) hK hM ctC_0 rfl 3 (by decide) (tb_O lkX3_29) rfl dX3_sum_12 ?_
    refine m_get F (ci := 1) (v := .ref (ad 7)) (fun w h => tb_O (inX1 w h)) hK hM ctC_5 rfl 1 (by decide) (tb_O lkX3_105) rfl dX3_sum_15 ?_
    refine lv_iload_n hx hb dX3_sum_18 rfl (lv_at hl 1 rfl) ?_
    refine m_iald F hK hM 0 rfl (j := j) ctC_7 (by omega) (by decide) dX3_sum_19 ?_
    refine m_top (y := (nI (hs j))) rfl ?_
    refine lv_i2l (v := ((nI (hs j)).toInt64)) hx hb dX3_sum_20 rfl ?_
    refine lv_goto (tgt := 27) hx hb dX3_sum_21 (by decide) ?_
    exact W.lret hx hb hr (fun t ht hW => ⟨⟨_, _, _, rfl, ⟨rfl, rfl, rfl⟩, by rw [ht]; exact hM⟩, hS.F ht⟩) hS.2.2 dX3_sum_27

set_option maxHeartbeats 4000000 in
set_option maxRecDepth 100000 in
theorem c_withinLO (l : Launch) {D : va_G} {aC : Nat → ClassId} {lo : Nat} {ad : Nat → Nat} {n : Nat} {gl : Int32} {E : Nat → Ent} {G : Nat → Nat → Nat} {P : Nat} {co : Nat → Option Nat} {lc : Nat → Nat} {hc : Nat} {hn hs : Nat → Nat} {X : Nat → Option va_E} (x : Int32) (hx1 : ¬ x = -1) (hx2 : isGr x = false) (h200 : n ≤ 200) : Met l yX3_within (wsO yX3_within cX3_within 4 (some .int)) ({ frames := 2, cells := 0, slots := 0, locals := 41 } : Room) (mPc D vwCl (tyA aC) lo ad (ctC aC ad n gl E G P co lc hc hn hs X) [.ref (ad 0), .int x, .int (nI 0)]) (mD1 D vwCl lo (.int (-2)) ad (ctC aC ad n gl E G P co lc hc hn hs X)) 0 0 (fun q => lo ≤ q) := by
  refine Met.ofW (cc := cX3_within) (maxL := 4) (ret := (some .int)) (by decide) rfl ?_
  intro pr en s0 mm args below meth cc0 s₁ B hml hv
  obtain ⟨rfl, hlo, hM, hKK⟩ := hv
  have hK := hKK.1
  have hr := B.returns
  have hts := atoms_spec (ws := (wsO yX3_within cX3_within 4 (some .int))) B.pre
  have F : CallFix pr mm cc0 cX3_within 4 s0 (([.ref (ad 0), .int x, .int (nI 0)] : List Value).toArray) (wsO yX3_within cX3_within 4 (some .int)) RX3 := ⟨B.exec, B.bytes, hml, findClass_of_methodNamed B.named, hts⟩
  have hx := F.1
  have hb := F.2.1
  have hlocks := B.notSynchronized
  have hS : va_S (fun q => lo ≤ q) s0.heap s0.heap [] := va_S.rf
  have hl := lv_entry ([.ref (ad 0), .int x, .int (nI 0)]) (n := 4) (Nat.le_of_ble_eq_true rfl)
  rw [lg_entry_eq]
  generalize (lg_sl ([.ref (ad 0), .int x, .int (nI 0)]) ++ List.replicate (4 - (lg_sl ([.ref (ad 0), .int x, .int (nI 0)])).length) Slot.unset).toArray = ls at hl ⊢
  have hl : lv_has ls 4 [(0, .ref (ad 0)), (1, .int x), (2, .int (nI 0))] := hl
  refine lv_iload_n hx hb dX3_within_0 rfl (lv_at hl 2 rfl) ?_
  refine lv_if_ne (tgt := 10) hx hb dX3_within_1 (by decide) (fun c_1 => ?_) (fun c_1 => ?_)
  · skip
    exact absurd nI_0 c_1
  · skip
    refine lv_aload_n hx hb dX3_within_4 rfl (lv_at hl 0 rfl) ?_
    refine lv_iload_n hx hb dX3_within_5 rfl (lv_at hl 1 rfl) ?_
    refine m_d1 (v := .int (-2)) (ct1 := ctC aC ad n gl E G P co lc hc hn hs X) (va_runV (As := [.int x]) (rest := []) F (c_lookAtN l x hx1 hx2 h200) (cwV 1 F.2.2.2.2 (go_V (fun _ h => tb_O h) mlX3_110 imX3_lookAt seX3_lookAt iniX3 cdX3_lookAt) rfl rfl rfl (by decide +kernel) ⟨Nat.le_of_ble_eq_true rfl, Nat.le_of_ble_eq_true rfl⟩) (mPreV hKK hM (Nat.le_trans hlo hS.1) ctC_0 rfl) rfl rfl hl.1 rfl (lv_room (Nat.le_of_ble_eq_true rfl)) dX3_within_6 ⟨Nat.le_of_ble_eq_true rfl, Nat.le_of_ble_eq_true rfl⟩) hS (fun H locs hM hS => ?_)
    exact W.iret hx hb hr (fun t ht hW => ⟨⟨_, _, _, rfl, ⟨rfl, rfl, rfl⟩, by rw [ht]; exact hM⟩, hS.F ht⟩) hS.2.2 dX3_within_9

set_option maxHeartbeats 4000000 in
set_option maxRecDepth 100000 in
theorem c_withinL (l : Launch) {D : va_G} {aC : Nat → ClassId} {lo : Nat} {ad : Nat → Nat} {n : Nat} {gl : Int32} {E : Nat → Ent} {G : Nat → Nat → Nat} {P : Nat} {co : Nat → Option Nat} {lc : Nat → Nat} {hc : Nat} {hn hs : Nat → Nat} {X : Nat → Option va_E} (x : Int32) (hxg : x = -1 ∨ isGr x = true) (h200 : n ≤ 200) : Met l yX3_within (wsO yX3_within cX3_within 4 (some .int)) ({ frames := 3, cells := 0, slots := 0, locals := 67 } : Room) (mPc D vwCl (tyA aC) lo ad (ctC aC ad n gl E G P co lc hc hn hs X) [.ref (ad 0), .int x, .int (nI 0)]) (mD1 D vwCl lo (.int (nI (cnt (inW E x) n))) ad (ctC aC ad n x E G P co lc hc hn hs X)) 0 0 (fun q => lo ≤ q) := by
  refine Met.ofW (cc := cX3_within) (maxL := 4) (ret := (some .int)) (by decide) rfl ?_
  intro pr en s0 mm args below meth cc0 s₁ B hml hv
  obtain ⟨rfl, hlo, hM, hKK⟩ := hv
  have hK := hKK.1
  have hr := B.returns
  have hts := atoms_spec (ws := (wsO yX3_within cX3_within 4 (some .int))) B.pre
  have F : CallFix pr mm cc0 cX3_within 4 s0 (([.ref (ad 0), .int x, .int (nI 0)] : List Value).toArray) (wsO yX3_within cX3_within 4 (some .int)) RX3 := ⟨B.exec, B.bytes, hml, findClass_of_methodNamed B.named, hts⟩
  have hx := F.1
  have hb := F.2.1
  have hlocks := B.notSynchronized
  have hS : va_S (fun q => lo ≤ q) s0.heap s0.heap [] := va_S.rf
  have hl := lv_entry ([.ref (ad 0), .int x, .int (nI 0)]) (n := 4) (Nat.le_of_ble_eq_true rfl)
  rw [lg_entry_eq]
  generalize (lg_sl ([.ref (ad 0), .int x, .int (nI 0)]) ++ List.replicate (4 - (lg_sl ([.ref (ad 0), .int x, .int (nI 0)])).length) Slot.unset).toArray = ls at hl ⊢
  have hl : lv_has ls 4 [(0, .ref (ad 0)), (1, .int x), (2, .int (nI 0))] := hl
  refine lv_iload_n hx hb dX3_within_0 rfl (lv_at hl 2 rfl) ?_
  refine lv_if_ne (tgt := 10) hx hb dX3_within_1 (by decide) (fun c_1 => ?_) (fun c_1 => ?_)
  · skip
    exact absurd nI_0 c_1
  · skip
    refine lv_aload_n hx hb dX3_within_4 rfl (lv_at hl 0 rfl) ?_
    refine lv_iload_n hx hb dX3_within_5 rfl (lv_at hl 1 rfl) ?_
    refine m_d1 (v := .int (nI (cnt (inW E x) n))) (ct1 := ctC aC ad n x E G P co lc hc hn hs X) (va_runV (As := [.int x]) (rest := []) F (c_lookAt l x hxg h200) (cwV 1 F.2.2.2.2 (go_V (fun _ h => tb_O h) mlX3_110 imX3_lookAt seX3_lookAt iniX3 cdX3_lookAt) rfl rfl rfl (by decide +kernel) ⟨Nat.le_of_ble_eq_true rfl, Nat.le_of_ble_eq_true rfl⟩) (mPreV hKK hM (Nat.le_trans hlo hS.1) ctC_0 rfl) rfl rfl hl.1 rfl (lv_room (Nat.le_of_ble_eq_true rfl)) dX3_within_6 ⟨Nat.le_of_ble_eq_true rfl, Nat.le_of_ble_eq_true rfl⟩) hS (fun H locs hM hS => ?_)
    exact W.iret hx hb hr (fun t ht hW => ⟨⟨_, _, _, rfl, ⟨rfl, rfl, rfl⟩, by rw [ht]; exact hM⟩, hS.F ht⟩) hS.2.2 dX3_within_9

set_option maxHeartbeats 4000000 in
set_option maxRecDepth 100000 in
theorem c_withinU (l : Launch) {D : va_G} {aC : Nat → ClassId} {lo : Nat} {ad : Nat → Nat} {n : Nat} {gl : Int32} {E : Nat → Ent} {G : Nat → Nat → Nat} {P : Nat} {co : Nat → Option Nat} {lc : Nat → Nat} {hc : Nat} {hn hs : Nat → Nat} {X : Nat → Option va_E} (x y : Int32) (hy0 : ¬ y = 0) (hn0 : cLiv n E y = none) (h200 : n ≤ 200) : Met l yX3_within (wsO yX3_within cX3_within 4 (some .int)) ({ frames := 1, cells := 0, slots := 0, locals := 22 } : Room) (mPc D vwCl (tyA aC) lo ad (ctC aC ad n gl E G P co lc hc hn hs X) [.ref (ad 0), .int x, .int y]) (mD1 D vwCl lo (.int (-1)) ad (ctC aC ad n gl E G P co lc hc hn hs X)) 0 0 (fun q => lo ≤ q) := by
  refine Met.ofW (cc := cX3_within) (maxL := 4) (ret := (some .int)) (by decide) rfl ?_
  intro pr en s0 mm args below meth cc0 s₁ B hml hv
  obtain ⟨rfl, hlo, hM, hKK⟩ := hv
  have hK := hKK.1
  have hr := B.returns
  have hts := atoms_spec (ws := (wsO yX3_within cX3_within 4 (some .int))) B.pre
  have F : CallFix pr mm cc0 cX3_within 4 s0 (([.ref (ad 0), .int x, .int y] : List Value).toArray) (wsO yX3_within cX3_within 4 (some .int)) RX3 := ⟨B.exec, B.bytes, hml, findClass_of_methodNamed B.named, hts⟩
  have hx := F.1
  have hb := F.2.1
  have hlocks := B.notSynchronized
  have hS : va_S (fun q => lo ≤ q) s0.heap s0.heap [] := va_S.rf
  have hl := lv_entry ([.ref (ad 0), .int x, .int y]) (n := 4) (Nat.le_of_ble_eq_true rfl)
  rw [lg_entry_eq]
  generalize (lg_sl ([.ref (ad 0), .int x, .int y]) ++ List.replicate (4 - (lg_sl ([.ref (ad 0), .int x, .int y])).length) Slot.unset).toArray = ls at hl ⊢
  have hl : lv_has ls 4 [(0, .ref (ad 0)), (1, .int x), (2, .int y)] := hl
  refine lv_iload_n hx hb dX3_within_0 rfl (lv_at hl 2 rfl) ?_
  refine lv_if_ne (tgt := 10) hx hb dX3_within_1 (by decide) (fun c_1 => ?_) (fun c_1 => ?_)
  · skip
    refine lv_aload_n hx hb dX3_within_10 rfl (lv_at hl 0 rfl) ?_
    refine lv_iload_n hx hb dX3_within_11 rfl (lv_at hl 2 rfl) ?_
    refine m_d1 (v := va_rf (oE ad (cLiv n E y))) (ct1 := ctC aC ad n gl E G P co lc hc hn hs X) (va_runV (As := [.int y]) (rest := []) F (c_living l y h200) (cwV 1 F.2.2.2.2 (go_V (fun _ h => tb_O h) mlX3_37 imX3_living seX3_living iniX3 cdX3_living) rfl rfl rfl (by decide +kernel) ⟨Nat.le_of_ble_eq_true rfl, Nat.le_of_ble_eq_true rfl⟩) (mPreV hKK hM (Nat.le_trans hlo hS.1) ctC_0 rfl) rfl rfl hl.1 rfl (lv_room (Nat.le_of_ble_eq_true rfl)) dX3_within_12 ⟨Nat.le_of_ble_eq_true rfl, Nat.le_of_ble_eq_true rfl⟩) hS (fun H locs hM hS => ?_)
    rw [hn0]
    · skip
      refine m_val (v' := .null) rfl ?_
      refine lv_astore_nN (lv' := [(3, .null), (0, .ref (ad 0)), (1, .int x), (2, .int y)]) hx hb dX3_within_15 rfl hl (by decide) rfl (fun ls hl => ?_)
      refine lv_aload_nN hx hb dX3_within_16 rfl (lv_at hl 0 rfl) ?_
      refine lv_ifnonnullN hx hb dX3_within_17 ?_
      refine lv_iconst (v := (-1)) hx hb dX3_within_20 (by decide) ?_
      exact W.iret hx hb hr (fun t ht hW => ⟨⟨_, _, _, rfl, ⟨rfl, rfl, rfl⟩, by rw [ht]; exact hM⟩, hS.F ht⟩) hS.2.2 dX3_within_21
  · skip
    exact absurd c_1 hy0

set_option maxHeartbeats 4000000 in
set_option maxRecDepth 100000 in
theorem c_withinO (l : Launch) {D : va_G} {aC : Nat → ClassId} {lo : Nat} {ad : Nat → Nat} {n : Nat} {gl : Int32} {E : Nat → Ent} {G : Nat → Nat → Nat} {P : Nat} {co : Nat → Option Nat} {lc : Nat → Nat} {hc : Nat} {hn hs : Nat → Nat} {X : Nat → Option va_E} (x : Int32) (j : Nat) (hj1 : 1 ≤ j) (hj2 : j ≤ n) (h200 : n ≤ 200) (hd : (E j).2.2.1 = false) (hg : isGr x = false) : Met l yX3_within (wsO yX3_within cX3_within 4 (some .int)) ({ frames := 1, cells := 0, slots := 0, locals := 22 } : Room) (mPc D vwCl (tyA aC) lo ad (ctC aC ad n gl E G P co lc hc hn hs X) [.ref (ad 0), .int x, .int (nI j)]) (mD1 D vwCl lo (.int (-2)) ad (ctC aC ad n gl E G P co lc hc hn hs X)) 0 0 (fun q => lo ≤ q) := by
  refine Met.ofW (cc := cX3_within) (maxL := 4) (ret := (some .int)) (by decide) rfl ?_
  intro pr en s0 mm args below meth cc0 s₁ B hml hv
  obtain ⟨rfl, hlo, hM, hKK⟩ := hv
  have hK := hKK.1
  have hr := B.returns
  have hts := atoms_spec (ws := (wsO yX3_within cX3_within 4 (some .int))) B.pre
  have F : CallFix pr mm cc0 cX3_within 4 s0 (([.ref (ad 0), .int x, .int (nI j)] : List Value).toArray) (wsO yX3_within cX3_within 4 (some .int)) RX3 := ⟨B.exec, B.bytes, hml, findClass_of_methodNamed B.named, hts⟩
  have hx := F.1
  have hb := F.2.1
  have hlocks := B.notSynchronized
  have hS : va_S (fun q => lo ≤ q) s0.heap s0.heap [] := va_S.rf
  have hl := lv_entry ([.ref (ad 0), .int x, .int (nI j)]) (n := 4) (Nat.le_of_ble_eq_true rfl)
  rw [lg_entry_eq]
  generalize (lg_sl ([.ref (ad 0), .int x, .int (nI j)]) ++ List.replicate (4 - (lg_sl ([.ref (ad 0), .int x, .int (nI j)])).length) Slot.unset).toArray = ls at hl ⊢
  have hl : lv_has ls 4 [(0, .ref (ad 0)), (1, .int x), (2, .int (nI j))] := hl
  refine lv_iload_n hx hb dX3_within_0 rfl (lv_at hl 2 rfl) ?_
  refine lv_if_ne (tgt := 10) hx hb dX3_within_1 (by decide) (fun c_1 => ?_) (fun c_1 => ?_)
  · skip
    refine lv_aload_n hx hb dX3_within_10 rfl (lv_at hl 0 rfl) ?_
    refine lv_iload_n hx hb dX3_within_11 rfl (lv_at hl 2 rfl) ?_
    refine m_d1 (v := .ref (ad (2 * j + 8))) (ct1 := ctC aC ad n gl E G P co lc hc hn hs X) (va_runV (As := [.int (nI j)]) (rest := []) F (c_livT l j hj1 hj2 h200 hd) (cwV 1 F.2.2.2.2 (go_V (fun _ h => tb_O h) mlX3_37 imX3_living seX3_living iniX3 cdX3_living) rfl rfl rfl (by decide +kernel) ⟨Nat.le_of_ble_eq_true rfl, Nat.le_of_ble_eq_true rfl⟩) (mPreV hKK hM (Nat.le_trans hlo hS.1) ctC_0 rfl) rfl rfl hl.1 rfl (lv_room (Nat.le_of_ble_eq_true rfl)) dX3_within_12 ⟨Nat.le_of_ble_eq_true rfl, Nat.le_of_ble_eq_true rfl⟩) hS (fun H locs hM hS => ?_)
    refine lv_astore_n (lv' := [(3, .ref (ad (2 * j + 8))), (0, .ref (ad 0)), (1, .int x), (2, .int (nI j))]) hx hb dX3_within_15 rfl hl (by decide) rfl (fun ls hl => ?_)
    refine lv_aload_n hx hb dX3_within_16 rfl (lv_at hl 0 rfl) ?_
    refine lv_ifnonnull (tgt := 22) hx hb dX3_within_17 (by decide) ?_
    refine lv_iload_n hx hb dX3_within_22 rfl (lv_at hl 2 rfl) ?_
    refine m_d1 (v := .int (bI (isGr x))) (ct1 := ctC aC ad n gl E G P co lc hc hn hs X) (va_runS (As := [.int x]) (rest := []) F (c_isGroup l x) (va_cwS 1 F.2.2.2.2 (go_S (fun _ h => tb_O h) mlX3_113 stX3_isGroup iniX3 cdX3_isGroup) rfl rfl rfl (by decide +kernel) ⟨Nat.le_of_ble_eq_true rfl, Nat.le_of_ble_eq_true rfl⟩) (mPreS hKK hM (Nat.le_trans hlo hS.1)) rfl rfl hl.1 rfl (lv_room (Nat.le_of_ble_eq_true rfl)) dX3_within_23 ⟨Nat.le_of_ble_eq_true rfl, Nat.le_of_ble_eq_true rfl⟩) hS (fun H locs hM hS => ?_)
    refine lv_if_ne (tgt := 32) hx hb dX3_within_26 (by decide) (fun c_26 => ?_) (fun c_26 => ?_)
    · skip
      exact absurd (by rw [hg]; rfl) c_26
    · skip
      refine lv_bipush (v := (-2)) hx hb dX3_within_29 (by decide) ?_
      exact W.iret hx hb hr (fun t ht hW => ⟨⟨_, _, _, rfl, ⟨rfl, rfl, rfl⟩, by rw [ht]; exact hM⟩, hS.F ht⟩) hS.2.2 dX3_within_31
  · skip
    exact absurd c_1 (nI_ne0 hj1 (by omega))

set_option maxHeartbeats 4000000 in
set_option maxRecDepth 100000 in
theorem c_within (l : Launch) {D : va_G} {aC : Nat → ClassId} {lo : Nat} {ad : Nat → Nat} {n : Nat} {gl : Int32} {E : Nat → Ent} {G : Nat → Nat → Nat} {P : Nat} {co : Nat → Option Nat} {lc : Nat → Nat} {hc : Nat} {hn hs : Nat → Nat} {X : Nat → Option va_E} (x : Int32) (j : Nat) (hj1 : 1 ≤ j) (hj2 : j ≤ n) (h200 : n ≤ 200) (hd : (E j).2.2.1 = false) (hg : isGr x = true) : Met l yX3_within (wsO yX3_within cX3_within 4 (some .int)) ({ frames := 2, cells := 0, slots := 0, locals := 46 } : Room) (mPc D vwCl (tyA aC) lo ad (ctC aC ad n gl E G P co lc hc hn hs X) [.ref (ad 0), .int x, .int (nI j)]) (mD1 D vwCl lo (.int (nI (cnt (inW (va_up E j (seB (E j) ((E j).2.1 ||| nI 1 <<< (x &&& 31)))) x) n))) ad (ctC aC ad n gl (va_up E j (seB (E j) ((E j).2.1 ||| nI 1 <<< (x &&& 31)))) G P co lc hc hn hs X)) 0 0 (fun q => lo ≤ q) := by
  refine Met.ofW (cc := cX3_within) (maxL := 4) (ret := (some .int)) (by decide) rfl ?_
  intro pr en s0 mm args below meth cc0 s₁ B hml hv
  obtain ⟨rfl, hlo, hM, hKK⟩ := hv
  have hK := hKK.1
  have hr := B.returns
  have hts := atoms_spec (ws := (wsO yX3_within cX3_within 4 (some .int))) B.pre
  have F : CallFix pr mm cc0 cX3_within 4 s0 (([.ref (ad 0), .int x, .int (nI j)] : List Value).toArray) (wsO yX3_within cX3_within 4 (some .int)) RX3 := ⟨B.exec, B.bytes, hml, findClass_of_methodNamed B.named, hts⟩
  have hx := F.1
  have hb := F.2.1
  have hlocks := B.notSynchronized
  have hS : va_S (fun q => lo ≤ q) s0.heap s0.heap [] := va_S.rf
  have hl := lv_entry ([.ref (ad 0), .int x, .int (nI j)]) (n := 4) (Nat.le_of_ble_eq_true rfl)
  rw [lg_entry_eq]
  generalize (lg_sl ([.ref (ad 0), .int x, .int (nI j)]) ++ List.replicate (4 - (lg_sl ([.ref (ad 0), .int x, .int (nI j)])).length) Slot.unset).toArray = ls at hl ⊢
  have hl : lv_has ls 4 [(0, .ref (ad 0)), (1, .int x), (2, .int (nI j))] := hl
  refine lv_iload_n hx hb dX3_within_0 rfl (lv_at hl 2 rfl) ?_
  refine lv_if_ne (tgt := 10) hx hb dX3_within_1 (by decide) (fun c_1 => ?_) (fun c_1 => ?_)
  · skip
    refine lv_aload_n hx hb dX3_within_10 rfl (lv_at hl 0 rfl) ?_
    refine lv_iload_n hx hb dX3_within_11 rfl (lv_at hl 2 rfl) ?_
    refine m_d1 (v := .ref (ad (2 * j + 8))) (ct1 := ctC aC ad n gl E G P co lc hc hn hs X) (va_runV (As := [.int (nI j)]) (rest := []) F (c_livT l j hj1 hj2 h200 hd) (cwV 1 F.2.2.2.2 (go_V (fun _ h => tb_O h) mlX3_37 imX3_living seX3_living iniX3 cdX3_living) rfl rfl rfl (by decide +kernel) ⟨Nat.le_of_ble_eq_true rfl, Nat.le_of_ble_eq_true rfl⟩) (mPreV hKK hM (Nat.le_trans hlo hS.1) ctC_0 rfl) rfl rfl hl.1 rfl (lv_room (Nat.le_of_ble_eq_true rfl)) dX3_within_12 ⟨Nat.le_of_ble_eq_true rfl, Nat.le_of_ble_eq_true rfl⟩) hS (fun H locs hM hS => ?_)
    refine lv_astore_n (lv' := [(3, .ref (ad (2 * j + 8))), (0, .ref (ad 0)), (1, .int x), (2, .int (nI j))]) hx hb dX3_within_15 rfl hl (by decide) rfl (fun ls hl => ?_)
    refine lv_aload_n hx hb dX3_within_16 rfl (lv_at hl 0 rfl) ?_
    refine lv_ifnonnull (tgt := 22) hx hb dX3_within_17 (by decide) ?_
    refine lv_iload_n hx hb dX3_within_22 rfl (lv_at hl 2 rfl) ?_
    refine m_d1 (v := .int (bI (isGr x))) (ct1 := ctC aC ad n gl E G P co lc hc hn hs X) (va_runS (As := [.int x]) (rest := []) F (c_isGroup l x) (va_cwS 1 F.2.2.2.2 (go_S (fun _ h => tb_O h) mlX3_113 stX3_isGroup iniX3 cdX3_isGroup) rfl rfl rfl (by decide +kernel) ⟨Nat.le_of_ble_eq_true rfl, Nat.le_of_ble_eq_true rfl⟩) (mPreS hKK hM (Nat.le_trans hlo hS.1)) rfl rfl hl.1 rfl (lv_room (Nat.le_of_ble_eq_true rfl)) dX3_within_23 ⟨Nat.le_of_ble_eq_true rfl, Nat.le_of_ble_eq_true rfl⟩) hS (fun H locs hM hS => ?_)
    refine lv_if_ne (tgt := 32) hx hb dX3_within_26 (by decide) (fun c_26 => ?_) (fun c_26 => ?_)
    · skip
      refine lv_aload_n hx hb dX3_within_32 rfl (lv_at hl 0 rfl) ?_
      refine lv_iload_n hx hb dX3_within_33 rfl (lv_at hl 2 rfl) ?_
      refine m_d0 (ct1 := va_up (ctC aC ad n gl E G P co lc hc hn hs X) (2 * j + 8) (some (.inr (0, [.ref (ad (2 * j + 9)), .int (nI ((E j).1)), .int ((E j).2.1 ||| nI 1 <<< (x &&& 31)), .int (bI (E j).2.2.1), va_rf (oE ad (E j).2.2.2.1), .int (nI (E j).2.2.2.2)])))) (va_runV (As := [.int x]) (rest := []) F (c_join l (ke := 2 * j + 8) (ks := 2 * j + 9) (len := (E j).1) (gb := (E j).2.1) (db := bI (E j).2.2.1) (lv := nI (E j).2.2.2.2) (sv := va_rf (oE ad (E j).2.2.2.1)) x (ctC_e hj1 hj2 h200)) (cwV 1 F.2.2.2.2 (go_V (fun _ h => tb_O h) mlX3_116 imX0_join seX0_join iniX0 cdX0_join) rfl rfl rfl (by decide +kernel) ⟨Nat.le_of_ble_eq_true rfl, Nat.le_of_ble_eq_true rfl⟩) (mPreV hKK hM (Nat.le_trans hlo hS.1) (ctC_e hj1 hj2 h200) rfl) rfl rfl hl.1 rfl (lv_room (Nat.le_of_ble_eq_true rfl)) dX3_within_34 ⟨Nat.le_of_ble_eq_true rfl, Nat.le_of_ble_eq_true rfl⟩) hS (fun H locs hM hS => ?_)
      have hM : mw D vwCl lo ad (ctC aC ad n gl (va_up E j (seB (E j) ((E j).2.1 ||| nI 1 <<< (x &&& 31)))) G P co lc hc hn hs X) H := by
          have h9 : mw D vwCl lo ad (va_up (ctC aC ad n gl E G P co lc hc hn hs X) (2 * j + 8) (some (entO ad j (seB (E j) ((E j).2.1 ||| nI 1 <<< (x &&& 31)))))) H := hM
          rw [ctC_E hj1 hj2 h200] at h9
          exact h9
      refine lv_aload_n hx hb dX3_within_37 rfl (lv_at hl 1 rfl) ?_
      refine lv_iload_n hx hb dX3_within_38 rfl (lv_at hl 2 rfl) ?_
      refine m_d1 (v := .int (nI (cnt (inW (va_up E j (seB (E j) ((E j).2.1 ||| nI 1 <<< (x &&& 31)))) x) n))) (ct1 := ctC aC ad n gl (va_up E j (seB (E j) ((E j).2.1 ||| nI 1 <<< (x &&& 31)))) G P co lc hc hn hs X) (va_runV (As := [.int x]) (rest := []) F (c_countWithin l x h200) (cwV 1 F.2.2.2.2 (go_V (fun _ h => tb_O h) mlX3_59 imX3_countWithin seX3_countWithin iniX3 cdX3_countWithin) rfl rfl rfl (by decide +kernel) ⟨Nat.le_of_ble_eq_true rfl, Nat.le_of_ble_eq_true rfl⟩) (mPreV hKK hM (Nat.le_trans hlo hS.1) ctC_0 rfl) rfl rfl hl.1 rfl (lv_room (Nat.le_of_ble_eq_true rfl)) dX3_within_39 ⟨Nat.le_of_ble_eq_true rfl, Nat.le_of_ble_eq_true rfl⟩) hS (fun H locs hM hS => ?_)
      exact W.iret hx hb hr (fun t ht hW => ⟨⟨_, _, _, rfl, ⟨rfl, rfl, rfl⟩, by rw [ht]; exact hM⟩, hS.F ht⟩) hS.2.2 dX3_within_42
    · skip
      exact absurd hg (by rw [bI_eq c_26]; decide)
  · skip
    exact absurd c_1 (nI_ne0 hj1 (by omega))

set_option maxHeartbeats 4000000 in
set_option maxRecDepth 100000 in
theorem c_abU1 (l : Launch) {D : va_G} {aC : Nat → ClassId} {lo : Nat} {ad : Nat → Nat} {n : Nat} {gl : Int32} {E : Nat → Ent} {G : Nat → Nat → Nat} {P : Nat} {co : Nat → Option Nat} {lc : Nat → Nat} {hc : Nat} {hn hs : Nat → Nat} {X : Nat → Option va_E} (x y : Int32) (hn0 : cLiv n E x = none) (h200 : n ≤ 200) : Met l yX3_abbreviation (wsO yX3_abbreviation cX3_abbreviation 5 (some .int)) ({ frames := 2, cells := 0, slots := 0, locals := 46 } : Room) (mPc D vwCl (tyA aC) lo ad (ctC aC ad n gl E G P co lc hc hn hs X) [.ref (ad 0), .int x, .int y]) (mD1 D vwCl lo (.int (-1)) ad (ctC aC ad n gl E G P co lc hc hn hs X)) 0 0 (fun q => lo ≤ q) := by
  refine Met.ofW (cc := cX3_abbreviation) (maxL := 5) (ret := (some .int)) (by decide) rfl ?_
  intro pr en s0 mm args below meth cc0 s₁ B hml hv
  obtain ⟨rfl, hlo, hM, hKK⟩ := hv
  have hK := hKK.1
  have hr := B.returns
  have hts := atoms_spec (ws := (wsO yX3_abbreviation cX3_abbreviation 5 (some .int))) B.pre
  have F : CallFix pr mm cc0 cX3_abbreviation 5 s0 (([.ref (ad 0), .int x, .int y] : List Value).toArray) (wsO yX3_abbreviation cX3_abbreviation 5 (some .int)) RX3 := ⟨B.exec, B.bytes, hml, findClass_of_methodNamed B.named, hts⟩
  have hx := F.1
  have hb := F.2.1
  have hlocks := B.notSynchronized
  have hS : va_S (fun q => lo ≤ q) s0.heap s0.heap [] := va_S.rf
  have hl := lv_entry ([.ref (ad 0), .int x, .int y]) (n := 5) (Nat.le_of_ble_eq_true rfl)
  rw [lg_entry_eq]
  generalize (lg_sl ([.ref (ad 0), .int x, .int y]) ++ List.replicate (5 - (lg_sl ([.ref (ad 0), .int x, .int y])).length) Slot.unset).toArray = ls at hl ⊢
  have hl : lv_has ls 5 [(0, .ref (ad 0)), (1, .int x), (2, .int y)] := hl
  refine lv_aload_n hx hb dX3_abbreviation_0 rfl (lv_at hl 0 rfl) ?_
  refine lv_iload_n hx hb dX3_abbreviation_1 rfl (lv_at hl 1 rfl) ?_
  refine m_d1 (v := va_rf (oE ad (cLiv n E x))) (ct1 := ctC aC ad n gl E G P co lc hc hn hs X) (va_runV (As := [.int x]) (rest := []) F (c_living l x h200) (cwV 1 F.2.2.2.2 (go_V (fun _ h => tb_O h) mlX3_37 imX3_living seX3_living iniX3 cdX3_living) rfl rfl rfl (by decide +kernel) ⟨Nat.le_of_ble_eq_true rfl, Nat.le_of_ble_eq_true rfl⟩) (mPreV hKK hM (Nat.le_trans hlo hS.1) ctC_0 rfl) rfl rfl hl.1 rfl (lv_room (Nat.le_of_ble_eq_true rfl)) dX3_abbreviation_2 ⟨Nat.le_of_ble_eq_true rfl, Nat.le_of_ble_eq_true rfl⟩) hS (fun H locs hM hS => ?_)
  rw [hn0]
  · skip
    refine m_val (v' := .null) rfl ?_
    refine lv_astore_nN (lv' := [(3, .null), (0, .ref (ad 0)), (1, .int x), (2, .int y)]) hx hb dX3_abbreviation_5 rfl hl (by decide) rfl (fun ls hl => ?_)
    refine lv_aload_n hx hb dX3_abbreviation_6 rfl (lv_at hl 1 rfl) ?_
    refine lv_iload_n hx hb dX3_abbreviation_7 rfl (lv_at hl 3 rfl) ?_
    refine m_d1 (v := va_rf (oE ad (cLiv n E y))) (ct1 := ctC aC ad n gl E G P co lc hc hn hs X) (va_runV (As := [.int y]) (rest := []) F (c_living l y h200) (cwV 1 F.2.2.2.2 (go_V (fun _ h => tb_O h) mlX3_37 imX3_living seX3_living iniX3 cdX3_living) rfl rfl rfl (by decide +kernel) ⟨Nat.le_of_ble_eq_true rfl, Nat.le_of_ble_eq_true rfl⟩) (mPreV hKK hM (Nat.le_trans hlo hS.1) ctC_0 rfl) rfl rfl hl.1 rfl (lv_room (Nat.le_of_ble_eq_true rfl)) dX3_abbreviation_8 ⟨Nat.le_of_ble_eq_true rfl, Nat.le_of_ble_eq_true rfl⟩) hS (fun H locs hM hS => ?_)
    rcases hk9 : cLiv n E y with _ | k
    · skip
      refine m_val (v' := .null) rfl ?_
      refine lv_astoreN (lv' := [(4, .null), (3, .null), (0, .ref (ad 0)), (1, .int x), (2, .int y)]) hx hb dX3_abbreviation_11 hl (by decide) rfl (fun ls hl => ?_)
      refine lv_aload_nN hx hb dX3_abbreviation_13 rfl (lv_at hl 1 rfl) ?_
      refine lv_ifnullN (tgt := 22) hx hb dX3_abbreviation_14 (by decide) ?_
      refine lv_iconst (v := (-1)) hx hb dX3_abbreviation_22 (by decide) ?_
      exact W.iret hx hb hr (fun t ht hW => ⟨⟨_, _, _, rfl, ⟨rfl, rfl, rfl⟩, by rw [ht]; exact hM⟩, hS.F ht⟩) hS.2.2 dX3_abbreviation_23
    · skip
      refine m_val (v' := .ref (ad (2 * k + 8))) rfl ?_
      refine lv_astore (lv' := [(4, .ref (ad (2 * k + 8))), (3, .null), (0, .ref (ad 0)), (1, .int x), (2, .int y)]) hx hb dX3_abbreviation_11 hl (by decide) rfl (fun ls hl => ?_)
      refine lv_aload_nN hx hb dX3_abbreviation_13 rfl (lv_at hl 1 rfl) ?_
      refine lv_ifnullN (tgt := 22) hx hb dX3_abbreviation_14 (by decide) ?_
      refine lv_iconst (v := (-1)) hx hb dX3_abbreviation_22 (by decide) ?_
      exact W.iret hx hb hr (fun t ht hW => ⟨⟨_, _, _, rfl, ⟨rfl, rfl, rfl⟩, by rw [ht]; exact hM⟩, hS.F ht⟩) hS.2.2 dX3_abbreviation_23

set_option maxHeartbeats 4000000 in
set_option maxRecDepth 100000 in
theorem c_abU2 (l : Launch) {D : va_G} {aC : Nat → ClassId} {lo : Nat} {ad : Nat → Nat} {n : Nat} {gl : Int32} {E : Nat → Ent} {G : Nat → Nat → Nat} {P : Nat} {co : Nat → Option Nat} {lc : Nat → Nat} {hc : Nat} {hn hs : Nat → Nat} {X : Nat → Option va_E} (x y : Int32) (hn0 : cLiv n E y = none) (h200 : n ≤ 200) : Met l yX3_abbreviation (wsO yX3_abbreviation cX3_abbreviation 5 (some .int)) ({ frames := 2, cells := 0, slots := 0, locals := 46 } : Room) (mPc D vwCl (tyA aC) lo ad (ctC aC ad n gl E G P co lc hc hn hs X) [.ref (ad 0), .int x, .int y]) (mD1 D vwCl lo (.int (-1)) ad (ctC aC ad n gl E G P co lc hc hn hs X)) 0 0 (fun q => lo ≤ q) := by
  refine Met.ofW (cc := cX3_abbreviation) (maxL := 5) (ret := (some .int)) (by decide) rfl ?_
  intro pr en s0 mm args below meth cc0 s₁ B hml hv
  obtain ⟨rfl, hlo, hM, hKK⟩ := hv
  have hK := hKK.1
  have hr := B.returns
  have hts := atoms_spec (ws := (wsO yX3_abbreviation cX3_abbreviation 5 (some .int))) B.pre
  have F : CallFix pr mm cc0 cX3_abbreviation 5 s0 (([.ref (ad 0), .int x, .int y] : List Value).toArray) (wsO yX3_abbreviation cX3_abbreviation 5 (some .int)) RX3 := ⟨B.exec, B.bytes, hml, findClass_of_methodNamed B.named, hts⟩
  have hx := F.1
  have hb := F.2.1
  have hlocks := B.notSynchronized
  have hS : va_S (fun q => lo ≤ q) s0.heap s0.heap [] := va_S.rf
  have hl := lv_entry ([.ref (ad 0), .int x, .int y]) (n := 5) (Nat.le_of_ble_eq_true rfl)
  rw [lg_entry_eq]
  generalize (lg_sl ([.ref (ad 0), .int x, .int y]) ++ List.replicate (5 - (lg_sl ([.ref (ad 0), .int x, .int y])).length) Slot.unset).toArray = ls at hl ⊢
  have hl : lv_has ls 5 [(0, .ref (ad 0)), (1, .int x), (2, .int y)] := hl
  refine lv_aload_n hx hb dX3_abbreviation_0 rfl (lv_at hl 0 rfl) ?_
  refine lv_iload_n hx hb dX3_abbreviation_1 rfl (lv_at hl 1 rfl) ?_
  refine m_d1 (v := va_rf (oE ad (cLiv n E x))) (ct1 := ctC aC ad n gl E G P co lc hc hn hs X) (va_runV (As := [.int x]) (rest := []) F (c_living l x h200) (cwV 1 F.2.2.2.2 (go_V (fun _ h => tb_O h) mlX3_37 imX3_living seX3_living iniX3 cdX3_living) rfl rfl rfl (by decide +kernel) ⟨Nat.le_of_ble_eq_true rfl, Nat.le_of_ble_eq_true rfl⟩) (mPreV hKK hM (Nat.le_trans hlo hS.1) ctC_0 rfl) rfl rfl hl.1 rfl (lv_room (Nat.le_of_ble_eq_true rfl)) dX3_abbreviation_2 ⟨Nat.le_of_ble_eq_true rfl, Nat.le_of_ble_eq_true rfl⟩) hS (fun H locs hM hS => ?_)
  rcases hk9 : cLiv n E x with _ | k
  · skip
    refine m_val (v' := .null) rfl ?_
    refine lv_astore_nN (lv' := [(3, .null), (0, .ref (ad 0)), (1, .int x), (2, .int y)]) hx hb dX3_abbreviation_5 rfl hl (by decide) rfl (fun ls hl => ?_)
    refine lv_aload_n hx hb dX3_abbreviation_6 rfl (lv_at hl 1 rfl) ?_
    refine lv_iload_n hx hb dX3_abbreviation_7 rfl (lv_at hl 3 rfl) ?_
    refine m_d1 (v := va_rf (oE ad (cLiv n E y))) (ct1 := ctC aC ad n gl E G P co lc hc hn hs X) (va_runV (As := [.int y]) (rest := []) F (c_living l y h200) (cwV 1 F.2.2.2.2 (go_V (fun _ h => tb_O h) mlX3_37 imX3_living seX3_living iniX3 cdX3_living) rfl rfl rfl (by decide +kernel) ⟨Nat.le_of_ble_eq_true rfl, Nat.le_of_ble_eq_true rfl⟩) (mPreV hKK hM (Nat.le_trans hlo hS.1) ctC_0 rfl) rfl rfl hl.1 rfl (lv_room (Nat.le_of_ble_eq_true rfl)) dX3_abbreviation_8 ⟨Nat.le_of_ble_eq_true rfl, Nat.le_of_ble_eq_true rfl⟩) hS (fun H locs hM hS => ?_)
    rw [hn0]
    · skip
      refine m_val (v' := .null) rfl ?_
      refine lv_astoreN (lv' := [(4, .null), (3, .null), (0, .ref (ad 0)), (1, .int x), (2, .int y)]) hx hb dX3_abbreviation_11 hl (by decide) rfl (fun ls hl => ?_)
      refine lv_aload_nN hx hb dX3_abbreviation_13 rfl (lv_at hl 1 rfl) ?_
      refine lv_ifnullN (tgt := 22) hx hb dX3_abbreviation_14 (by decide) ?_
      refine lv_iconst (v := (-1)) hx hb dX3_abbreviation_22 (by decide) ?_
      exact W.iret hx hb hr (fun t ht hW => ⟨⟨_, _, _, rfl, ⟨rfl, rfl, rfl⟩, by rw [ht]; exact hM⟩, hS.F ht⟩) hS.2.2 dX3_abbreviation_23
  · skip
    refine m_val (v' := .ref (ad (2 * k + 8))) rfl ?_
    refine lv_astore_n (lv' := [(3, .ref (ad (2 * k + 8))), (0, .ref (ad 0)), (1, .int x), (2, .int y)]) hx hb dX3_abbreviation_5 rfl hl (by decide) rfl (fun ls hl => ?_)
    refine lv_aload_n hx hb dX3_abbreviation_6 rfl (lv_at hl 1 rfl) ?_
    refine lv_iload_n hx hb dX3_abbreviation_7 rfl (lv_at hl 3 rfl) ?_
    refine m_d1 (v := va_rf (oE ad (cLiv n E y))) (ct1 := ctC aC ad n gl E G P co lc hc hn hs X) (va_runV (As := [.int y]) (rest := []) F (c_living l y h200) (cwV 1 F.2.2.2.2 (go_V (fun _ h => tb_O h) mlX3_37 imX3_living seX3_living iniX3 cdX3_living) rfl rfl rfl (by decide +kernel) ⟨Nat.le_of_ble_eq_true rfl, Nat.le_of_ble_eq_true rfl⟩) (mPreV hKK hM (Nat.le_trans hlo hS.1) ctC_0 rfl) rfl rfl hl.1 rfl (lv_room (Nat.le_of_ble_eq_true rfl)) dX3_abbreviation_8 ⟨Nat.le_of_ble_eq_true rfl, Nat.le_of_ble_eq_true rfl⟩) hS (fun H locs hM hS => ?_)
    rw [hn0]
    · skip
      refine m_val (v' := .null) rfl ?_
      refine lv_astoreN (lv' := [(4, .null), (3, .ref (ad (2 * k + 8))), (0, .ref (ad 0)), (1, .int x), (2, .int y)]) hx hb dX3_abbreviation_11 hl (by decide) rfl (fun ls hl => ?_)
      refine lv_aload_n hx hb dX3_abbreviation_13 rfl (lv_at hl 1 rfl) ?_
      refine lv_ifnull hx hb dX3_abbreviation_14 ?_
      refine lv_aloadN hx hb dX3_abbreviation_17 (lv_at hl 0 rfl) ?_
      refine lv_ifnonnullN hx hb dX3_abbreviation_19 ?_
      refine lv_iconst (v := (-1)) hx hb dX3_abbreviation_22 (by decide) ?_
      exact W.iret hx hb hr (fun t ht hW => ⟨⟨_, _, _, rfl, ⟨rfl, rfl, rfl⟩, by rw [ht]; exact hM⟩, hS.F ht⟩) hS.2.2 dX3_abbreviation_23

set_option maxHeartbeats 4000000 in
set_option maxRecDepth 100000 in
theorem c_abS (l : Launch) {D : va_G} {aC : Nat → ClassId} {lo : Nat} {ad : Nat → Nat} {n : Nat} {gl : Int32} {E : Nat → Ent} {G : Nat → Nat → Nat} {P : Nat} {co : Nat → Option Nat} {lc : Nat → Nat} {hc : Nat} {hn hs : Nat → Nat} {X : Nat → Option va_E} (j k : Nat) (hj1 : 1 ≤ j) (hj2 : j ≤ n) (h200 : n ≤ 200) (hd : (E j).2.2.1 = false) (hk1 : 1 ≤ k) (hk2 : k ≤ n) (hdk : (E k).2.2.1 = false) (hsfo : sfOk n E) (hst : j = k ∨ (E k).2.2.2.1 ≠ none ∨ 0 < cnt (abO E j) n) : Met l yX3_abbreviation (wsO yX3_abbreviation cX3_abbreviation 5 (some .int)) ({ frames := 2, cells := 0, slots := 0, locals := 46 } : Room) (mPc D vwCl (tyA aC) lo ad (ctC aC ad n gl E G P co lc hc hn hs X) [.ref (ad 0), .int (nI j), .int (nI k)]) (mD1 D vwCl lo (.int (-3)) ad (ctC aC ad n gl E G P co lc hc hn hs X)) 0 0 (fun q => lo ≤ q) := by
  refine Met.ofW (cc := cX3_abbreviation) (maxL := 5) (ret := (some .int)) (by decide) rfl ?_
  intro pr en s0 mm args below meth cc0 s₁ B hml hv
  obtain ⟨rfl, hlo, hM, hKK⟩ := hv
  have hK := hKK.1
  have hr := B.returns
  have hts := atoms_spec (ws := (wsO yX3_abbreviation cX3_abbreviation 5 (some .int))) B.pre
  have F : CallFix pr mm cc0 cX3_abbreviation 5 s0 (([.ref (ad 0), .int (nI j), .int (nI k)] : List Value).toArray) (wsO yX3_abbreviation cX3_abbreviation 5 (some .int)) RX3 := ⟨B.exec, B.bytes, hml, findClass_of_methodNamed B.named, hts⟩
  have hx := F.1
  have hb := F.2.1
  have hlocks := B.notSynchronized
  have hS : va_S (fun q => lo ≤ q) s0.heap s0.heap [] := va_S.rf
  have hl := lv_entry ([.ref (ad 0), .int (nI j), .int (nI k)]) (n := 5) (Nat.le_of_ble_eq_true rfl)
  rw [lg_entry_eq]
  generalize (lg_sl ([.ref (ad 0), .int (nI j), .int (nI k)]) ++ List.replicate (5 - (lg_sl ([.ref (ad 0), .int (nI j), .int (nI k)])).length) Slot.unset).toArray = ls at hl ⊢
  have hl : lv_has ls 5 [(0, .ref (ad 0)), (1, .int (nI j)), (2, .int (nI k))] := hl
  refine lv_aload_n hx hb dX3_abbreviation_0 rfl (lv_at hl 0 rfl) ?_
  refine lv_iload_n hx hb dX3_abbreviation_1 rfl (lv_at hl 1 rfl) ?_
  refine m_d1 (v := .ref (ad (2 * j + 8))) (ct1 := ctC aC ad n gl E G P co lc hc hn hs X) (va_runV (As := [.int (nI j)]) (rest := []) F (c_livT l j hj1 hj2 h200 hd) (cwV 1 F.2.2.2.2 (go_V (fun _ h => tb_O h) mlX3_37 imX3_living seX3_living iniX3 cdX3_living) rfl rfl rfl (by decide +kernel) ⟨Nat.le_of_ble_eq_true rfl, Nat.le_of_ble_eq_true rfl⟩) (mPreV hKK hM (Nat.le_trans hlo hS.1) ctC_0 rfl) rfl rfl hl.1 rfl (lv_room (Nat.le_of_ble_eq_true rfl)) dX3_abbreviation_2 ⟨Nat.le_of_ble_eq_true rfl, Nat.le_of_ble_eq_true rfl⟩) hS (fun H locs hM hS => ?_)
  refine lv_astore_n (lv' := [(3, .ref (ad (2 * j + 8))), (0, .ref (ad 0)), (1, .int (nI j)), (2, .int (nI k))]) hx hb dX3_abbreviation_5 rfl hl (by decide) rfl (fun ls hl => ?_)
  refine lv_aload_n hx hb dX3_abbreviation_6 rfl (lv_at hl 1 rfl) ?_
  refine lv_iload_n hx hb dX3_abbreviation_7 rfl (lv_at hl 3 rfl) ?_
  refine m_d1 (v := .ref (ad (2 * k + 8))) (ct1 := ctC aC ad n gl E G P co lc hc hn hs X) (va_runV (As := [.int (nI k)]) (rest := []) F (c_livT l k hk1 hk2 h200 hdk) (cwV 1 F.2.2.2.2 (go_V (fun _ h => tb_O h) mlX3_37 imX3_living seX3_living iniX3 cdX3_living) rfl rfl rfl (by decide +kernel) ⟨Nat.le_of_ble_eq_true rfl, Nat.le_of_ble_eq_true rfl⟩) (mPreV hKK hM (Nat.le_trans hlo hS.1) ctC_0 rfl) rfl rfl hl.1 rfl (lv_room (Nat.le_of_ble_eq_true rfl)) dX3_abbreviation_8 ⟨Nat.le_of_ble_eq_true rfl, Nat.le_of_ble_eq_true rfl⟩) hS (fun H locs hM hS => ?_)
  refine lv_astore (lv' := [(4, .ref (ad (2 * k + 8))), (3, .ref (ad (2 * j + 8))), (0, .ref (ad 0)), (1, .int (nI j)), (2, .int (nI k))]) hx hb dX3_abbreviation_11 hl (by decide) rfl (fun ls hl => ?_)
  refine lv_aload_n hx hb dX3_abbreviation_13 rfl (lv_at hl 1 rfl) ?_
  refine lv_ifnull hx hb dX3_abbreviation_14 ?_
  refine lv_aload hx hb dX3_abbreviation_17 (lv_at hl 0 rfl) ?_
  refine lv_ifnonnull (tgt := 24) hx hb dX3_abbreviation_19 (by decide) ?_
  refine lv_aload_n hx hb dX3_abbreviation_24 rfl (lv_at hl 1 rfl) ?_
  refine lv_aload hx hb dX3_abbreviation_25 (lv_at hl 0 rfl) ?_
  refine m_acmp_eq2 F (tgt := 46) dX3_abbreviation_27 (by decide) (fun c_27 => ?_) (fun c_27 => ?_)
  · skip
    refine lv_bipush (v := (-3)) hx hb dX3_abbreviation_46 (by decide) ?_
    exact W.iret hx hb hr (fun t ht hW => ⟨⟨_, _, _, rfl, ⟨rfl, rfl, rfl⟩, by rw [ht]; exact hM⟩, hS.F ht⟩) hS.2.2 dX3_abbreviation_48
  · skip
    have hjk : ¬ j = k := fun q => c_27 (by rw [q])
    refine lv_aload hx hb dX3_abbreviation_30 (lv_at hl 0 rfl) ?_
    refine m_get F (ci := 0) (v := va_rf (oE ad (E k).2.2.2.1)) (fun w h => tb_O (inX0 w h)) hK hM (ctC_e hk1 hk2 h200) rfl 4 (by decide) (tb_O lkX3_55) rfl dX3_abbreviation_32 ?_
    rcases hsf : (E k).2.2.2.1 with _ | z
    · skip
      refine m_val (v' := .null) rfl ?_
      refine lv_ifnonnullN hx hb dX3_abbreviation_35 ?_
      refine lv_aload_n hx hb dX3_abbreviation_38 rfl (lv_at hl 2 rfl) ?_
      refine lv_aload_n hx hb dX3_abbreviation_39 rfl (lv_at hl 1 rfl) ?_
      refine m_d1 (v := .int (nI (cnt (abO E j) n))) (ct1 := ctC aC ad n gl E G P co lc hc hn hs X) (va_runV (As := [.ref (ad (2 * j + 8))]) (rest := []) F (c_countAb l j hj1 hj2 h200 hsfo) (cwV 1 F.2.2.2.2 (go_V (fun _ h => tb_O h) mlX3_119 imX3_countAbbreviations seX3_countAbbreviations iniX3 cdX3_countAbbreviations) rfl rfl rfl (by decide +kernel) ⟨Nat.le_of_ble_eq_true rfl, Nat.le_of_ble_eq_true rfl⟩) (mPreV hKK hM (Nat.le_trans hlo hS.1) ctC_0 rfl) rfl rfl hl.1 rfl (lv_room (Nat.le_of_ble_eq_true rfl)) dX3_abbreviation_40 ⟨Nat.le_of_ble_eq_true rfl, Nat.le_of_ble_eq_true rfl⟩) hS (fun H locs hM hS => ?_)
      refine lv_if_le (tgt := 49) hx hb dX3_abbreviation_43 (by decide) (fun c_43 => ?_) (fun c_43 => ?_)
      · skip
        have hcz : ¬ 0 < cnt (abO E j) n := fun q => nI_nle q (by have := cnt_le (abO E j) n; omega) c_43
        exact absurd hst (fun q => q.elim hjk (fun q => q.elim (fun q => q hsf) hcz))
      · skip
        refine lv_bipush (v := (-3)) hx hb dX3_abbreviation_46 (by decide) ?_
        exact W.iret hx hb hr (fun t ht hW => ⟨⟨_, _, _, rfl, ⟨rfl, rfl, rfl⟩, by rw [ht]; exact hM⟩, hS.F ht⟩) hS.2.2 dX3_abbreviation_48
    · skip
      refine m_val (v' := .ref (ad (2 * z + 8))) rfl ?_
      refine lv_ifnonnull (tgt := 46) hx hb dX3_abbreviation_35 (by decide) ?_
      refine lv_bipush (v := (-3)) hx hb dX3_abbreviation_46 (by decide) ?_
      exact W.iret hx hb hr (fun t ht hW => ⟨⟨_, _, _, rfl, ⟨rfl, rfl, rfl⟩, by rw [ht]; exact hM⟩, hS.F ht⟩) hS.2.2 dX3_abbreviation_48

set_option maxHeartbeats 4000000 in
set_option maxRecDepth 100000 in
theorem c_ab (l : Launch) {D : va_G} {aC : Nat → ClassId} {lo : Nat} {ad : Nat → Nat} {n : Nat} {gl : Int32} {E : Nat → Ent} {G : Nat → Nat → Nat} {P : Nat} {co : Nat → Option Nat} {lc : Nat → Nat} {hc : Nat} {hn hs : Nat → Nat} {X : Nat → Option va_E} (j k : Nat) (hj1 : 1 ≤ j) (hj2 : j ≤ n) (h200 : n ≤ 200) (hd : (E j).2.2.1 = false) (hk1 : 1 ≤ k) (hk2 : k ≤ n) (hdk : (E k).2.2.1 = false) (hsfo : sfOk n E) (hjk : ¬ j = k) (hsk : (E k).2.2.2.1 = none) (hcz : cnt (abO E j) n = 0) : Met l yX3_abbreviation (wsO yX3_abbreviation cX3_abbreviation 5 (some .int)) ({ frames := 2, cells := 0, slots := 0, locals := 46 } : Room) (mPc D vwCl (tyA aC) lo ad (ctC aC ad n gl E G P co lc hc hn hs X) [.ref (ad 0), .int (nI j), .int (nI k)]) (mD1 D vwCl lo (.int (nI (cnt (abO (va_up E j (seS (E j) (some k))) k) n))) ad (ctC aC ad n gl (va_up E j (seS (E j) (some k))) G P co lc hc hn hs X)) 0 0 (fun q => lo ≤ q) := by
  refine Met.ofW (cc := cX3_abbreviation) (maxL := 5) (ret := (some .int)) (by decide) rfl ?_
  intro pr en s0 mm args below meth cc0 s₁ B hml hv
  obtain ⟨rfl, hlo, hM, hKK⟩ := hv
  have hK := hKK.1
  have hr := B.returns
  have hts := atoms_spec (ws := (wsO yX3_abbreviation cX3_abbreviation 5 (some .int))) B.pre
  have F : CallFix pr mm cc0 cX3_abbreviation 5 s0 (([.ref (ad 0), .int (nI j), .int (nI k)] : List Value).toArray) (wsO yX3_abbreviation cX3_abbreviation 5 (some .int)) RX3 := ⟨B.exec, B.bytes, hml, findClass_of_methodNamed B.named, hts⟩
  have hx := F.1
  have hb := F.2.1
  have hlocks := B.notSynchronized
  have hS : va_S (fun q => lo ≤ q) s0.heap s0.heap [] := va_S.rf
  have hl := lv_entry ([.ref (ad 0), .int (nI j), .int (nI k)]) (n := 5) (Nat.le_of_ble_eq_true rfl)
  rw [lg_entry_eq]
  generalize (lg_sl ([.ref (ad 0), .int (nI j), .int (nI k)]) ++ List.replicate (5 - (lg_sl ([.ref (ad 0), .int (nI j), .int (nI k)])).length) Slot.unset).toArray = ls at hl ⊢
  have hl : lv_has ls 5 [(0, .ref (ad 0)), (1, .int (nI j)), (2, .int (nI k))] := hl
  refine lv_aload_n hx hb dX3_abbreviation_0 rfl (lv_at hl 0 rfl) ?_
  refine lv_iload_n hx hb dX3_abbreviation_1 rfl (lv_at hl 1 rfl) ?_
  refine m_d1 (v := .ref (ad (2 * j + 8))) (ct1 := ctC aC ad n gl E G P co lc hc hn hs X) (va_runV (As := [.int (nI j)]) (rest := []) F (c_livT l j hj1 hj2 h200 hd) (cwV 1 F.2.2.2.2 (go_V (fun _ h => tb_O h) mlX3_37 imX3_living seX3_living iniX3 cdX3_living) rfl rfl rfl (by decide +kernel) ⟨Nat.le_of_ble_eq_true rfl, Nat.le_of_ble_eq_true rfl⟩) (mPreV hKK hM (Nat.le_trans hlo hS.1) ctC_0 rfl) rfl rfl hl.1 rfl (lv_room (Nat.le_of_ble_eq_true rfl)) dX3_abbreviation_2 ⟨Nat.le_of_ble_eq_true rfl, Nat.le_of_ble_eq_true rfl⟩) hS (fun H locs hM hS => ?_)
  refine lv_astore_n (lv' := [(3, .ref (ad (2 * j + 8))), (0, .ref (ad 0)), (1, .int (nI j)), (2, .int (nI k))]) hx hb dX3_abbreviation_5 rfl hl (by decide) rfl (fun ls hl => ?_)
  refine lv_aload_n hx hb dX3_abbreviation_6 rfl (lv_at hl 1 rfl) ?_
  refine lv_iload_n hx hb dX3_abbreviation_7 rfl (lv_at hl 3 rfl) ?_
  refine m_d1 (v := .ref (ad (2 * k + 8))) (ct1 := ctC aC ad n gl E G P co lc hc hn hs X) (va_runV (As := [.int (nI k)]) (rest := []) F (c_livT l k hk1 hk2 h200 hdk) (cwV 1 F.2.2.2.2 (go_V (fun _ h => tb_O h) mlX3_37 imX3_living seX3_living iniX3 cdX3_living) rfl rfl rfl (by decide +kernel) ⟨Nat.le_of_ble_eq_true rfl, Nat.le_of_ble_eq_true rfl⟩) (mPreV hKK hM (Nat.le_trans hlo hS.1) ctC_0 rfl) rfl rfl hl.1 rfl (lv_room (Nat.le_of_ble_eq_true rfl)) dX3_abbreviation_8 ⟨Nat.le_of_ble_eq_true rfl, Nat.le_of_ble_eq_true rfl⟩) hS (fun H locs hM hS => ?_)
  refine lv_astore (lv' := [(4, .ref (ad (2 * k + 8))), (3, .ref (ad (2 * j + 8))), (0, .ref (ad 0)), (1, .int (nI j)), (2, .int (nI k))]) hx hb dX3_abbreviation_11 hl (by decide) rfl (fun ls hl => ?_)
  refine lv_aload_n hx hb dX3_abbreviation_13 rfl (lv_at hl 1 rfl) ?_
  refine lv_ifnull hx hb dX3_abbreviation_14 ?_
  refine lv_aload hx hb dX3_abbreviation_17 (lv_at hl 0 rfl) ?_
  refine lv_ifnonnull (tgt := 24) hx hb dX3_abbreviation_19 (by decide) ?_
  refine lv_aload_n hx hb dX3_abbreviation_24 rfl (lv_at hl 1 rfl) ?_
  refine lv_aload hx hb dX3_abbreviation_25 (lv_at hl 0 rfl) ?_
  refine m_acmp_eq2 F (tgt := 46) dX3_abbreviation_27 (by decide) (fun c_27 => ?_) (fun c_27 => ?_)
  · skip
    exact absurd (by have h4 := hM.2 _ _ _ _ (ctC_e hj1 hj2 h200) (ctC_e hk1 hk2 h200) c_27; omega) hjk
  · skip
    refine lv_aload hx hb dX3_abbreviation_30 (lv_at hl 0 rfl) ?_
    refine m_get F (ci := 0) (v := va_rf (oE ad (E k).2.2.2.1)) (fun w h => tb_O (inX0 w h)) hK hM (ctC_e hk1 hk2 h200) rfl 4 (by decide) (tb_O lkX3_55) rfl dX3_abbreviation_32 ?_
    refine m_val (v' := .null) (by rw [hsk]; rfl) ?_
    refine lv_ifnonnullN hx hb dX3_abbreviation_35 ?_
    refine lv_aload_n hx hb dX3_abbreviation_38 rfl (lv_at hl 2 rfl) ?_
    refine lv_aload_n hx hb dX3_abbreviation_39 rfl (lv_at hl 1 rfl) ?_
    refine m_d1 (v := .int (nI (cnt (abO E j) n))) (ct1 := ctC aC ad n gl E G P co lc hc hn hs X) (va_runV (As := [.ref (ad (2 * j + 8))]) (rest := []) F (c_countAb l j hj1 hj2 h200 hsfo) (cwV 1 F.2.2.2.2 (go_V (fun _ h => tb_O h) mlX3_119 imX3_countAbbreviations seX3_countAbbreviations iniX3 cdX3_countAbbreviations) rfl rfl rfl (by decide +kernel) ⟨Nat.le_of_ble_eq_true rfl, Nat.le_of_ble_eq_true rfl⟩) (mPreV hKK hM (Nat.le_trans hlo hS.1) ctC_0 rfl) rfl rfl hl.1 rfl (lv_room (Nat.le_of_ble_eq_true rfl)) dX3_abbreviation_40 ⟨Nat.le_of_ble_eq_true rfl, Nat.le_of_ble_eq_true rfl⟩) hS (fun H locs hM hS => ?_)
    refine lv_if_le (tgt := 49) hx hb dX3_abbreviation_43 (by decide) (fun c_43 => ?_) (fun c_43 => ?_)
    · skip
      refine lv_aload_n hx hb dX3_abbreviation_49 rfl (lv_at hl 1 rfl) ?_
      refine lv_aload hx hb dX3_abbreviation_50 (lv_at hl 0 rfl) ?_
      refine m_put F (ci := 0) (v := .ref (ad (2 * k + 8))) (fun w h => tb_O (inX0 w h)) mc_X0 hK hM hS (ctC_e hj1 hj2 h200) 4 (by decide) (tb_O lkX3_55) rfl rfl rfl (Nat.le_of_ble_eq_true rfl) dX3_abbreviation_52 (fun H locs hM hS => ?_)
      have hM : mw D vwCl lo ad (va_up (ctC aC ad n gl E G P co lc hc hn hs X) (2 * j + 8) (some (.inr (0, [.ref (ad (2 * j + 9)), .int (nI ((E j).1)), .int ((E j).2.1), .int (bI (E j).2.2.1), .ref (ad (2 * k + 8)), .int (nI ((E j).2.2.2.2))])))) H := hM
      have hM : mw D vwCl lo ad (ctC aC ad n gl (va_up E j (seS (E j) (some k))) G P co lc hc hn hs X) H := by
          have h9 : mw D vwCl lo ad (va_up (ctC aC ad n gl E G P co lc hc hn hs X) (2 * j + 8) (some (entO ad j (seS (E j) (some k))))) H := hM
          rw [ctC_E hj1 hj2 h200] at h9
          exact h9
      refine lv_aload_n hx hb dX3_abbreviation_55 rfl (lv_at hl 2 rfl) ?_
      refine lv_aload hx hb dX3_abbreviation_56 (lv_at hl 0 rfl) ?_
      refine m_d1 (v := .int (nI (cnt (abO (va_up E j (seS (E j) (some k))) k) n))) (ct1 := ctC aC ad n gl (va_up E j (seS (E j) (some k))) G P co lc hc hn hs X) (va_runV (As := [.ref (ad (2 * k + 8))]) (rest := []) F (c_countAb l k hk1 hk2 h200 (sfOk_set hsfo hk1 hk2)) (cwV 1 F.2.2.2.2 (go_V (fun _ h => tb_O h) mlX3_119 imX3_countAbbreviations seX3_countAbbreviations iniX3 cdX3_countAbbreviations) rfl rfl rfl (by decide +kernel) ⟨Nat.le_of_ble_eq_true rfl, Nat.le_of_ble_eq_true rfl⟩) (mPreV hKK hM (Nat.le_trans hlo hS.1) ctC_0 rfl) rfl rfl hl.1 rfl (lv_room (Nat.le_of_ble_eq_true rfl)) dX3_abbreviation_58 ⟨Nat.le_of_ble_eq_true rfl, Nat.le_of_ble_eq_true rfl⟩) hS (fun H locs hM hS => ?_)
      exact W.iret hx hb hr (fun t ht hW => ⟨⟨_, _, _, rfl, ⟨rfl, rfl, rfl⟩, by rw [ht]; exact hM⟩, hS.F ht⟩) hS.2.2 dX3_abbreviation_61
    · skip
      exact absurd (by rw [hcz]; decide) c_43
