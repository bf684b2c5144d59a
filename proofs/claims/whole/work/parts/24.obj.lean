set_option maxHeartbeats 4000000 in
set_option maxRecDepth 100000 in
theorem c_living (l : Launch) {D : va_G} {aC : Nat → ClassId} {lo : Nat} {ad : Nat → Nat} {n : Nat} {gl : Int32} {E : Nat → Ent} {G : Nat → Nat → Nat} {P : Nat} {co : Nat → Option Nat} {lc : Nat → Nat} {hc : Nat} {hn hs : Nat → Nat} {X : Nat → Option va_E} (x : Int32) (h200 : n ≤ 200) : Met l yX3_living (wsO yX3_living cX3_living 3 (some (.object "WordTrees$Entry"))) ({ frames := 0, cells := 0, slots := 0, locals := 0 } : Room) (mPc D vwCl (tyA aC) lo ad (ctC aC ad n gl E G P co lc hc hn hs X) [.ref (ad 0), .int x]) (mD1 D vwCl lo (va_rf (oE ad (cLiv n E x))) ad (ctC aC ad n gl E G P co lc hc hn hs X)) 0 0 (fun q => lo ≤ q) := by
  refine Met.ofW (cc := cX3_living) (maxL := 3) (ret := (some (.object "WordTrees$Entry"))) (by decide) rfl ?_
  intro pr en s0 mm args below meth cc0 s₁ B hml hv
  obtain ⟨rfl, hlo, hM, hKK⟩ := hv
  have hK := hKK.1
  have hr := B.returns
  have hts := atoms_spec (ws := (wsO yX3_living cX3_living 3 (some (.object "WordTrees$Entry")))) B.pre
  have F : CallFix pr mm cc0 cX3_living 3 s0 (([.ref (ad 0), .int x] : List Value).toArray) (wsO yX3_living cX3_living 3 (some (.object "WordTrees$Entry"))) RX3 := ⟨B.exec, B.bytes, hml, findClass_of_methodNamed B.named, hts⟩
  have hx := F.1
  have hb := F.2.1
  have hlocks := B.notSynchronized
  have hS : va_S (fun q => lo ≤ q) s0.heap s0.heap [] := va_S.rf
  have hl := lv_entry ([.ref (ad 0), .int x]) (n := 3) (Nat.le_of_ble_eq_true rfl)
  rw [lg_entry_eq]
  generalize (lg_sl ([.ref (ad 0), .int x]) ++ List.replicate (3 - (lg_sl ([.ref (ad 0), .int x])).length) Slot.unset).toArray = ls at hl ⊢
  have hl : lv_has ls 3 [(0, .ref (ad 0)), (1, .int x)] := hl
  refine lv_iload_n hx hb dX3_living_0 rfl (lv_at hl 1 rfl) ?_
  refine lv_iconst (v := (nI 1)) hx hb dX3_living_1 (by decide) ?_
  refine lv_icmp_lt (tgt := 22) hx hb dX3_living_2 (by decide) (fun c_2 => ?_) (fun c_2 => ?_)
  · skip
    refine lv_null hx hb dX3_living_22 ?_
    exact W.aret hx hb hr (Or.inl ⟨_, rfl⟩) (Or.inl rfl) (fun t ht hW => ⟨⟨_, _, _, rfl, ⟨by first | (rw [cLiv_lo c_2]; rfl) | (rw [cLiv_hi c_2 c_10]; rfl), rfl, rfl⟩, by rw [ht]; exact hM⟩, hS.F ht⟩) hS.2.2 dX3_living_23
  · skip
    refine lv_iload_n hx hb dX3_living_5 rfl (lv_at hl 1 rfl) ?_
    refine lv_aload_n hx hb dX3_living_6 rfl (lv_at hl 0 rfl) ?_
    refine m_get F (ci := 3) (v := .int (nI n)) (fun w h => tb_O (inX3 w h)) hK hM ctC_0 rfl 1 (by decide) (tb_O lkX3_15) rfl dX3_living_7 ?_
    refine lv_icmp_gt (tgt := 22) hx hb dX3_living_10 (by decide) (fun c_10 => ?_) (fun c_10 => ?_)
    · skip
      refine lv_null hx hb dX3_living_22 ?_
      exact W.aret hx hb hr (Or.inl ⟨_, rfl⟩) (Or.inl rfl) (fun t ht hW => ⟨⟨_, _, _, rfl, ⟨by first | (rw [cLiv_lo c_2]; rfl) | (rw [cLiv_hi c_2 c_10]; rfl), rfl, rfl⟩, by rw [ht]; exact hM⟩, hS.F ht⟩) hS.2.2 dX3_living_23
    · skip
      obtain ⟨j, hj1, hj2, rfl⟩ := cLiv_in c_2 c_10 h200
      refine lv_iload_n hx hb dX3_living_13 rfl (lv_at hl 1 rfl) ?_
      refine lv_aload_n hx hb dX3_living_14 rfl (lv_at hl 0 rfl) ?_
      refine m_get F (ci := 3) (v := .ref (ad 1)) (fun w h => tb_O (inX3 w h)) hK hM ctC_0 rfl 0 (by decide) (tb_O lkX3_11) rfl dX3_living_15 ?_
      refine m_alen F hK hM 1 rfl ctC_1 dX3_living_18 ?_
      refine m_icmp_lt F (a := j) (b := 201) (by omega) (by omega) (tgt := 24) dX3_living_19 (by decide) (fun c_19 => ?_) (fun c_19 => ?_)
      · skip
        refine lv_aload_n hx hb dX3_living_24 rfl (lv_at hl 0 rfl) ?_
        refine m_get F (ci := 3) (v := .ref (ad 1)) (fun w h => tb_O (inX3 w h)) hK hM ctC_0 rfl 0 (by decide) (tb_O lkX3_11) rfl dX3_living_25 ?_
        refine lv_iload_n hx hb dX3_living_28 rfl (lv_at hl 1 rfl) ?_
        refine m_aald F hK hM 1 rfl (j := j) ctC_1 (by omega) (by decide) dX3_living_29 ?_
        refine m_val (v' := .ref (ad (2 * j + 8))) (by rw [show rowE ad n j = some (ad (2 * j + 8)) from if_pos ⟨hj1, hj2⟩]; rfl) ?_
        refine lv_astore_n (lv' := [(2, .ref (ad (2 * j + 8))), (0, .ref (ad 0)), (1, .int (nI j))]) hx hb dX3_living_30 rfl hl (by decide) rfl (fun ls hl => ?_)
        refine lv_aload_n hx hb dX3_living_31 rfl (lv_at hl 0 rfl) ?_
        refine lv_ifnull hx hb dX3_living_32 ?_
        refine lv_aload_n hx hb dX3_living_35 rfl (lv_at hl 0 rfl) ?_
        refine m_get F (ci := 0) (v := .int (bI (E j).2.2.1)) (fun w h => tb_O (inX0 w h)) hK hM (ctC_e hj1 hj2 h200) rfl 3 (by decide) (tb_O lkX3_51) rfl dX3_living_36 ?_
        refine lv_if_eq (tgt := 46) hx hb dX3_living_39 (by decide) (fun c_39 => ?_) (fun c_39 => ?_)
        · skip
          refine lv_aload_n hx hb dX3_living_46 rfl (lv_at hl 0 rfl) ?_
          exact W.aret hx hb hr (Or.inl ⟨_, rfl⟩) (Or.inr ⟨_, rfl⟩) (fun t ht hW => ⟨⟨_, _, _, rfl, ⟨by rw [cLiv_nI hj1 hj2 h200, if_neg (by rw [bI_eq c_39]; decide)]; rfl, rfl, rfl⟩, by rw [ht]; exact hM⟩, hS.F ht⟩) hS.2.2 dX3_living_47
        · skip
          refine lv_null hx hb dX3_living_42 ?_
          refine lv_goto (tgt := 47) hx hb dX3_living_43 (by decide) ?_
          exact W.aret hx hb hr (Or.inl ⟨_, rfl⟩) (Or.inl rfl) (fun t ht hW => ⟨⟨_, _, _, rfl, ⟨by rw [cLiv_nI hj1 hj2 h200, if_pos (bI_ne c_39)]; rfl, rfl, rfl⟩, by rw [ht]; exact hM⟩, hS.F ht⟩) hS.2.2 dX3_living_47
      · skip
        exact absurd c_19 (by omega)

theorem c_livT (l : Launch) {D : va_G} {aC : Nat → ClassId} {lo : Nat} {ad : Nat → Nat} {n : Nat} {gl : Int32} {E : Nat → Ent} {G : Nat → Nat → Nat} {P : Nat} {co : Nat → Option Nat} {lc : Nat → Nat} {hc : Nat} {hn hs : Nat → Nat} {X : Nat → Option va_E} (j : Nat) (h1 : 1 ≤ j) (h2 : j ≤ n) (h200 : n ≤ 200) (hd : (E j).2.2.1 = false) : Met l yX3_living (wsO yX3_living cX3_living 3 (some (.object "WordTrees$Entry"))) ({ frames := 0, cells := 0, slots := 0, locals := 0 } : Room) (mPc D vwCl (tyA aC) lo ad (ctC aC ad n gl E G P co lc hc hn hs X) [.ref (ad 0), .int (nI j)]) (mD1 D vwCl lo (.ref (ad (2 * j + 8))) ad (ctC aC ad n gl E G P co lc hc hn hs X)) 0 0 (fun q => lo ≤ q) := by
  have h := c_living l (D := D) (aC := aC) (lo := lo) (ad := ad) (n := n) (gl := gl) (E := E) (G := G) (P := P) (co := co) (lc := lc) (hc := hc) (hn := hn) (hs := hs) (X := X) (nI j) h200
  rw [cLiv_nI h1 h2 h200, hd] at h
  exact h

theorem c_livF (l : Launch) {D : va_G} {aC : Nat → ClassId} {lo : Nat} {ad : Nat → Nat} {n : Nat} {gl : Int32} {E : Nat → Ent} {G : Nat → Nat → Nat} {P : Nat} {co : Nat → Option Nat} {lc : Nat → Nat} {hc : Nat} {hn hs : Nat → Nat} {X : Nat → Option va_E} (j : Nat) (h1 : 1 ≤ j) (h2 : j ≤ n) (h200 : n ≤ 200) (hd : (E j).2.2.1 = true) : Met l yX3_living (wsO yX3_living cX3_living 3 (some (.object "WordTrees$Entry"))) ({ frames := 0, cells := 0, slots := 0, locals := 0 } : Room) (mPc D vwCl (tyA aC) lo ad (ctC aC ad n gl E G P co lc hc hn hs X) [.ref (ad 0), .int (nI j)]) (mD1 D vwCl lo (.null) ad (ctC aC ad n gl E G P co lc hc hn hs X)) 0 0 (fun q => lo ≤ q) := by
  have h := c_living l (D := D) (aC := aC) (lo := lo) (ad := ad) (n := n) (gl := gl) (E := E) (G := G) (P := P) (co := co) (lc := lc) (hc := hc) (hn := hn) (hs := hs) (X := X) (nI j) h200
  rw [cLiv_nI h1 h2 h200, hd] at h
  exact h

set_option maxHeartbeats 4000000 in
set_option maxRecDepth 100000 in
theorem c_mayBeFound (l : Launch) {D : va_G} {aC : Nat → ClassId} {lo : Nat} {ad : Nat → Nat} {n : Nat} {gl : Int32} {E : Nat → Ent} {G : Nat → Nat → Nat} {P : Nat} {co : Nat → Option Nat} {lc : Nat → Nat} {hc : Nat} {hn hs : Nat → Nat} {X : Nat → Option va_E} (i : Nat) (h1 : 1 ≤ i) (h2 : i ≤ n) (h200 : n ≤ 200) : Met l yX3_mayBeFound (wsO yX3_mayBeFound cX3_mayBeFound 2 (some .boolean)) ({ frames := 1, cells := 0, slots := 0, locals := 21 } : Room) (mPc D vwCl (tyA aC) lo ad (ctC aC ad n gl E G P co lc hc hn hs X) [.ref (ad 0), .ref (ad (2 * i + 8))]) (mD1 D vwCl lo (.int (bI (mbf gl (E i)))) ad (ctC aC ad n gl E G P co lc hc hn hs X)) 0 0 (fun q => lo ≤ q) := by
  refine Met.ofW (cc := cX3_mayBeFound) (maxL := 2) (ret := (some .boolean)) (by decide) rfl ?_
  intro pr en s0 mm args below meth cc0 s₁ B hml hv
  obtain ⟨rfl, hlo, hM, hKK⟩ := hv
  have hK := hKK.1
  have hr := B.returns
  have hts := atoms_spec (ws := (wsO yX3_mayBeFound cX3_mayBeFound 2 (some .boolean))) B.pre
  have F : CallFix pr mm cc0 cX3_mayBeFound 2 s0 (([.ref (ad 0), .ref (ad (2 * i + 8))] : List Value).toArray) (wsO yX3_mayBeFound cX3_mayBeFound 2 (some .boolean)) RX3 := ⟨B.exec, B.bytes, hml, findClass_of_methodNamed B.named, hts⟩
  have hx := F.1
  have hb := F.2.1
  have hlocks := B.notSynchronized
  have hS : va_S (fun q => lo ≤ q) s0.heap s0.heap [] := va_S.rf
  have hl := lv_entry ([.ref (ad 0), .ref (ad (2 * i + 8))]) (n := 2) (Nat.le_of_ble_eq_true rfl)
  rw [lg_entry_eq]
  generalize (lg_sl ([.ref (ad 0), .ref (ad (2 * i + 8))]) ++ List.replicate (2 - (lg_sl ([.ref (ad 0), .ref (ad (2 * i + 8))])).length) Slot.unset).toArray = ls at hl ⊢
  have hl : lv_has ls 2 [(0, .ref (ad 0)), (1, .ref (ad (2 * i + 8)))] := hl
  refine lv_aload_n hx hb dX3_mayBeFound_0 rfl (lv_at hl 1 rfl) ?_
  refine m_get F (ci := 0) (v := va_rf (oE ad (E i).2.2.2.1)) (fun w h => tb_O (inX0 w h)) hK hM (ctC_e h1 h2 h200) rfl 4 (by decide) (tb_O lkX3_55) rfl dX3_mayBeFound_1 ?_
  rcases hsf : (E i).2.2.2.1 with _ | k
  · skip
    refine m_val (v' := .null) rfl ?_
    refine lv_ifnonnullN hx hb dX3_mayBeFound_4 ?_
    refine lv_aload_n hx hb dX3_mayBeFound_7 rfl (lv_at hl 1 rfl) ?_
    refine lv_aload_n hx hb dX3_mayBeFound_8 rfl (lv_at hl 0 rfl) ?_
    refine m_get F (ci := 3) (v := .int gl) (fun w h => tb_O (inX3 w h)) hK hM ctC_0 rfl 4 (by decide) (tb_O lkX3_33) rfl dX3_mayBeFound_9 ?_
    refine m_d1 (v := .int (bI (inG (E i).2.1 gl))) (ct1 := ctC aC ad n gl E G P co lc hc hn hs X) (va_runV (As := [.int gl]) (rest := []) F (c_isWithin l (ke := 2 * i + 8) (ks := 2 * i + 9) (len := (E i).1) (gb := (E i).2.1) (db := bI (E i).2.2.1) (lv := nI (E i).2.2.2.2) (sv := va_rf (oE ad (E i).2.2.2.1)) gl (ctC_e h1 h2 h200)) (cwV 1 F.2.2.2.2 (go_V (fun _ h => tb_O h) mlX3_129 imX0_isWithin seX0_isWithin iniX0 cdX0_isWithin) rfl rfl rfl (by decide +kernel) ⟨Nat.le_of_ble_eq_true rfl, Nat.le_of_ble_eq_true rfl⟩) (mPreV hKK hM (Nat.le_trans hlo hS.1) (ctC_e h1 h2 h200) rfl) rfl rfl hl.1 rfl (lv_room (Nat.le_of_ble_eq_true rfl)) dX3_mayBeFound_12 ⟨Nat.le_of_ble_eq_true rfl, Nat.le_of_ble_eq_true rfl⟩) hS (fun H locs hM hS => ?_)
    refine lv_if_eq (tgt := 22) hx hb dX3_mayBeFound_15 (by decide) (fun c_15 => ?_) (fun c_15 => ?_)
    · skip
      refine lv_iconst (v := (nI 0)) hx hb dX3_mayBeFound_22 (by decide) ?_
      exact W.zret hx hb hr rfl (fun t ht hW => ⟨⟨_, _, _, rfl, ⟨by rw [show mbf gl (E i) = false by first | simp [mbf, hsf, bI_eq c_15] | simp [mbf, hsf]]; rfl, rfl, rfl⟩, by rw [ht]; exact hM⟩, hS.F ht⟩) hS.2.2 dX3_mayBeFound_23
    · skip
      refine lv_iconst (v := (nI 1)) hx hb dX3_mayBeFound_18 (by decide) ?_
      refine lv_goto (tgt := 23) hx hb dX3_mayBeFound_19 (by decide) ?_
      exact W.zret hx hb hr rfl (fun t ht hW => ⟨⟨_, _, _, rfl, ⟨by rw [show mbf gl (E i) = true by simp [mbf, hsf, bI_ne c_15]]; rfl, rfl, rfl⟩, by rw [ht]; exact hM⟩, hS.F ht⟩) hS.2.2 dX3_mayBeFound_23
  · skip
    refine m_val (v' := .ref (ad (2 * k + 8))) rfl ?_
    refine lv_ifnonnull (tgt := 22) hx hb dX3_mayBeFound_4 (by decide) ?_
    refine lv_iconst (v := (nI 0)) hx hb dX3_mayBeFound_22 (by decide) ?_
    exact W.zret hx hb hr rfl (fun t ht hW => ⟨⟨_, _, _, rfl, ⟨by rw [show mbf gl (E i) = false by first | simp [mbf, hsf, bI_eq c_15] | simp [mbf, hsf]]; rfl, rfl, rfl⟩, by rw [ht]; exact hM⟩, hS.F ht⟩) hS.2.2 dX3_mayBeFound_23

set_option maxHeartbeats 4000000 in
set_option maxRecDepth 100000 in
theorem c_countWithin (l : Launch) {D : va_G} {aC : Nat → ClassId} {lo : Nat} {ad : Nat → Nat} {n : Nat} {gl : Int32} {E : Nat → Ent} {G : Nat → Nat → Nat} {P : Nat} {co : Nat → Option Nat} {lc : Nat → Nat} {hc : Nat} {hn hs : Nat → Nat} {X : Nat → Option va_E} (x : Int32) (h200 : n ≤ 200) : Met l yX3_countWithin (wsO yX3_countWithin cX3_countWithin 5 (some .int)) ({ frames := 1, cells := 0, slots := 0, locals := 22 } : Room) (mPc D vwCl (tyA aC) lo ad (ctC aC ad n gl E G P co lc hc hn hs X) [.ref (ad 0), .int x]) (mD1 D vwCl lo (.int (nI (cnt (inW E x) n))) ad (ctC aC ad n gl E G P co lc hc hn hs X)) 0 0 (fun q => lo ≤ q) := by
  refine Met.ofW (cc := cX3_countWithin) (maxL := 5) (ret := (some .int)) (by decide) rfl ?_
  intro pr en s0 mm args below meth cc0 s₁ B hml hv
  obtain ⟨rfl, hlo, hM, hKK⟩ := hv
  have hK := hKK.1
  have hr := B.returns
  have hts := atoms_spec (ws := (wsO yX3_countWithin cX3_countWithin 5 (some .int))) B.pre
  have F : CallFix pr mm cc0 cX3_countWithin 5 s0 (([.ref (ad 0), .int x] : List Value).toArray) (wsO yX3_countWithin cX3_countWithin 5 (some .int)) RX3 := ⟨B.exec, B.bytes, hml, findClass_of_methodNamed B.named, hts⟩
  have hx := F.1
  have hb := F.2.1
  have hlocks := B.notSynchronized
  have hS : va_S (fun q => lo ≤ q) s0.heap s0.heap [] := va_S.rf
  have hl := lv_entry ([.ref (ad 0), .int x]) (n := 5) (Nat.le_of_ble_eq_true rfl)
  rw [lg_entry_eq]
  generalize (lg_sl ([.ref (ad 0), .int x]) ++ List.replicate (5 - (lg_sl ([.ref (ad 0), .int x])).length) Slot.unset).toArray = ls at hl ⊢
  have hl : lv_has ls 5 [(0, .ref (ad 0)), (1, .int x)] := hl
  have loop_4 : ∀ (fu : Nat) (i : Nat), (i ≤ n) → n + 1 - i ≤ fu → ∀ (H : Heap) (locs : List Loc) (ls : Array Slot), mw D vwCl lo ad (ctC aC ad n gl E G P co lc hc hn hs X) H → va_S (fun q => lo ≤ q) s0.heap H locs → lv_has ls 5 [(0, .ref (ad 0)), (1, .int x), (2, .int (nI (cnt (inW E x) i))), (3, .int (nI (i + 1)))] → W pr l en (headSpec (wsO yX3_countWithin cX3_countWithin 5 (some .int)) ({ frames := 1, cells := 0, slots := 0, locals := 22 } : Room)).room s0 mm (([.ref (ad 0), .int x] : List Value).toArray) below meth cc0 H locs 0 0 (MQ below (mD1 D vwCl lo (.int (nI (cnt (inW E x) n))) ad (ctC aC ad n gl E G P co lc hc hn hs X)) (([.ref (ad 0), .int x] : List Value).toArray) s0 0 0 (fun q => lo ≤ q)) (F0 mm 4 ls []) := by
    intro fu
    induction fu with
    | zero =>
      intro i hi hfu H locs ls hM hS hl
      exact absurd hfu (by omega)
    | succ fu ih_4 =>
      intro i hi hfu H locs ls hM hS hl
      have hcl := cnt_le (inW E x) i
      refine lv_iload_n hx hb dX3_countWithin_4 rfl (lv_at hl 3 rfl) ?_
      refine lv_aload_n hx hb dX3_countWithin_5 rfl (lv_at hl 0 rfl) ?_
      refine m_get F (ci := 3) (v := .int (nI n)) (fun w h => tb_O (inX3 w h)) hK hM ctC_0 rfl 1 (by decide) (tb_O lkX3_15) rfl dX3_countWithin_6 ?_
      refine m_icmp_gt F (a := (i + 1)) (b := n) (by omega) (by omega) (tgt := 42) dX3_countWithin_9 (by decide) (fun c_9 => ?_) (fun c_9 => ?_)
      · skip
        have hin : n = i := by omega
        subst hin
        refine lv_iload_n hx hb dX3_countWithin_42 rfl (lv_at hl 2 rfl) ?_
        exact W.iret hx hb hr (fun t ht hW => ⟨⟨_, _, _, rfl, ⟨rfl, rfl, rfl⟩, by rw [ht]; exact hM⟩, hS.F ht⟩) hS.2.2 dX3_countWithin_43
      · skip
        refine lv_aload_n hx hb dX3_countWithin_12 rfl (lv_at hl 0 rfl) ?_
        refine lv_iload_n hx hb dX3_countWithin_13 rfl (lv_at hl 3 rfl) ?_
        rcases hdr : (E (i + 1)).2.2.1 with _ | _
        · skip
          refine m_d1 (v := .ref (ad (2 * (i + 1) + 8))) (ct1 := ctC aC ad n gl E G P co lc hc hn hs X) (va_runV (As := [.int (nI (i + 1))]) (rest := []) F (c_livT l (i + 1) (by omega) (by omega) h200 hdr) (cwV 1 F.2.2.2.2 (go_V (fun _ h => tb_O h) mlX3_37 imX3_living seX3_living iniX3 cdX3_living) rfl rfl rfl (by decide +kernel) ⟨Nat.le_of_ble_eq_true rfl, Nat.le_of_ble_eq_true rfl⟩) (mPreV hKK hM (Nat.le_trans hlo hS.1) ctC_0 rfl) rfl rfl hl.1 rfl (lv_room (Nat.le_of_ble_eq_true rfl)) dX3_countWithin_14 ⟨Nat.le_of_ble_eq_true rfl, Nat.le_of_ble_eq_true rfl⟩) hS (fun H locs hM hS => ?_)
          refine lv_astore (lv' := [(4, .ref (ad (2 * (i + 1) + 8))), (0, .ref (ad 0)), (1, .int x), (2, .int (nI (cnt (inW E x) i))), (3, .int (nI (i + 1)))]) hx hb dX3_countWithin_17 hl (by decide) rfl (fun ls hl => ?_)
          refine lv_aload hx hb dX3_countWithin_19 (lv_at hl 0 rfl) ?_
          refine lv_ifnull hx hb dX3_countWithin_21 ?_
          refine lv_aload hx hb dX3_countWithin_24 (lv_at hl 0 rfl) ?_
          refine lv_iload_n hx hb dX3_countWithin_26 rfl (lv_at hl 2 rfl) ?_
          refine m_d1 (v := .int (bI (inG (E (i + 1)).2.1 x))) (ct1 := ctC aC ad n gl E G P co lc hc hn hs X) (va_runV (As := [.int x]) (rest := []) F (c_isWithin l (ke := 2 * (i + 1) + 8) (ks := 2 * (i + 1) + 9) (len := (E (i + 1)).1) (gb := (E (i + 1)).2.1) (db := bI (E (i + 1)).2.2.1) (lv := nI (E (i + 1)).2.2.2.2) (sv := va_rf (oE ad (E (i + 1)).2.2.2.1)) x (ctC_e (by omega) (by omega) h200)) (cwV 1 F.2.2.2.2 (go_V (fun _ h => tb_O h) mlX3_129 imX0_isWithin seX0_isWithin iniX0 cdX0_isWithin) rfl rfl rfl (by decide +kernel) ⟨Nat.le_of_ble_eq_true rfl, Nat.le_of_ble_eq_true rfl⟩) (mPreV hKK hM (Nat.le_trans hlo hS.1) (ctC_e (by omega) (by omega) h200) rfl) rfl rfl hl.1 rfl (lv_room (Nat.le_of_ble_eq_true rfl)) dX3_countWithin_27 ⟨Nat.le_of_ble_eq_true rfl, Nat.le_of_ble_eq_true rfl⟩) hS (fun H locs hM hS => ?_)
          refine lv_if_eq (tgt := 36) hx hb dX3_countWithin_30 (by decide) (fun c_30 => ?_) (fun c_30 => ?_)
          · skip
            refine lv_iinc (v := (nI (i + 1 + 1))) (lv' := [(3, .int (nI (i + 1 + 1))), (4, .ref (ad (2 * (i + 1) + 8))), (0, .ref (ad 0)), (1, .int x), (2, .int (nI (cnt (inW E x) i)))]) hx hb dX3_countWithin_36 hl (k := 4) rfl (nI_1 (i + 1)) (by decide) rfl (fun ls hl => ?_)
            refine lv_goto (tgt := 4) hx hb dX3_countWithin_39 (by decide) ?_
            have hcn : cnt (inW E x) (i + 1) = cnt (inW E x) i := by show cnt (inW E x) i + _ = _; rw [if_neg (by simp [inW, hdr, bI_eq c_30])]; rfl
            rw [← hcn] at hl
            exact ih_4 (i + 1) (by omega) (by omega) _ _ _ hM hS (lv_sub hl [2, 3, 4, 0] rfl)
          · skip
            refine lv_iinc (v := (nI (cnt (inW E x) i + 1))) (lv' := [(2, .int (nI (cnt (inW E x) i + 1))), (4, .ref (ad (2 * (i + 1) + 8))), (0, .ref (ad 0)), (1, .int x), (3, .int (nI (i + 1)))]) hx hb dX3_countWithin_33 hl (k := 3) rfl (nI_1 (cnt (inW E x) i)) (by decide) rfl (fun ls hl => ?_)
            refine lv_iinc (v := (nI (i + 1 + 1))) (lv' := [(3, .int (nI (i + 1 + 1))), (2, .int (nI (cnt (inW E x) i + 1))), (4, .ref (ad (2 * (i + 1) + 8))), (0, .ref (ad 0)), (1, .int x)]) hx hb dX3_countWithin_36 hl (k := 4) rfl (nI_1 (i + 1)) (by decide) rfl (fun ls hl => ?_)
            refine lv_goto (tgt := 4) hx hb dX3_countWithin_39 (by decide) ?_
            have hcn : cnt (inW E x) (i + 1) = cnt (inW E x) i + 1 := by show cnt (inW E x) i + _ = _; rw [if_pos (by simp [inW, hdr, bI_ne c_30])]
            rw [← hcn] at hl
            exact ih_4 (i + 1) (by omega) (by omega) _ _ _ hM hS (lv_sub hl [3, 4, 1, 0] rfl)
        · skip
          refine m_d1 (v := .null) (ct1 := ctC aC ad n gl E G P co lc hc hn hs X) (va_runV (As := [.int (nI (i + 1))]) (rest := []) F (c_livF l (i + 1) (by omega) (by omega) h200 hdr) (cwV 1 F.2.2.2.2 (go_V (fun _ h => tb_O h) mlX3_37 imX3_living seX3_living iniX3 cdX3_living) rfl rfl rfl (by decide +kernel) ⟨Nat.le_of_ble_eq_true rfl, Nat.le_of_ble_eq_true rfl⟩) (mPreV hKK hM (Nat.le_trans hlo hS.1) ctC_0 rfl) rfl rfl hl.1 rfl (lv_room (Nat.le_of_ble_eq_true rfl)) dX3_countWithin_14 ⟨Nat.le_of_ble_eq_true rfl, Nat.le_of_ble_eq_true rfl⟩) hS (fun H locs hM hS => ?_)
          refine lv_astoreN (lv' := [(4, .null), (0, .ref (ad 0)), (1, .int x), (2, .int (nI (cnt (inW E x) i))), (3, .int (nI (i + 1)))]) hx hb dX3_countWithin_17 hl (by decide) rfl (fun ls hl => ?_)
          refine lv_aloadN hx hb dX3_countWithin_19 (lv_at hl 0 rfl) ?_
          refine lv_ifnullN (tgt := 36) hx hb dX3_countWithin_21 (by decide) ?_
          refine lv_iinc (v := (nI (i + 1 + 1))) (lv' := [(3, .int (nI (i + 1 + 1))), (4, .null), (0, .ref (ad 0)), (1, .int x), (2, .int (nI (cnt (inW E x) i)))]) hx hb dX3_countWithin_36 hl (k := 4) rfl (nI_1 (i + 1)) (by decide) rfl (fun ls hl => ?_)
          refine lv_goto (tgt := 4) hx hb dX3_countWithin_39 (by decide) ?_
          have hcn : cnt (inW E x) (i + 1) = cnt (inW E x) i := by show cnt (inW E x) i + _ = _; rw [if_neg (by simp [inW, hdr])]; rfl
          rw [← hcn] at hl
          exact ih_4 (i + 1) (by omega) (by omega) _ _ _ hM hS (lv_sub hl [2, 3, 4, 0] rfl)
  refine lv_iconst (v := (nI 0)) hx hb dX3_countWithin_0 (by decide) ?_
  refine lv_istore_n (lv' := [(2, .int (nI 0)), (0, .ref (ad 0)), (1, .int x)]) hx hb dX3_countWithin_1 rfl hl (by decide) rfl (fun ls hl => ?_)
  refine lv_iconst (v := (nI 1)) hx hb dX3_countWithin_2 (by decide) ?_
  refine lv_istore_n (lv' := [(3, .int (nI 1)), (2, .int (nI 0)), (0, .ref (ad 0)), (1, .int x)]) hx hb dX3_countWithin_3 rfl hl (by decide) rfl (fun ls hl => ?_)
  exact loop_4 (n + 1) 0 (Nat.zero_le _) (by omega) _ _ _ hM hS (lv_sub hl [2, 3, 1, 0] rfl)

set_option maxHeartbeats 4000000 in
set_option maxRecDepth 100000 in
theorem c_countAb (l : Launch) {D : va_G} {aC : Nat → ClassId} {lo : Nat} {ad : Nat → Nat} {n : Nat} {gl : Int32} {E : Nat → Ent} {G : Nat → Nat → Nat} {P : Nat} {co : Nat → Option Nat} {lc : Nat → Nat} {hc : Nat} {hn hs : Nat → Nat} {X : Nat → Option va_E} (d : Nat) (hd1 : 1 ≤ d) (hd2 : d ≤ n) (h200 : n ≤ 200) (hsf : sfOk n E) : Met l yX3_countAbbreviations (wsO yX3_countAbbreviations cX3_countAbbreviations 5 (some .int)) ({ frames := 1, cells := 0, slots := 0, locals := 22 } : Room) (mPc D vwCl (tyA aC) lo ad (ctC aC ad n gl E G P co lc hc hn hs X) [.ref (ad 0), .ref (ad (2 * d + 8))]) (mD1 D vwCl lo (.int (nI (cnt (abO E d) n))) ad (ctC aC ad n gl E G P co lc hc hn hs X)) 0 0 (fun q => lo ≤ q) := by
  refine Met.ofW (cc := cX3_countAbbreviations) (maxL := 5) (ret := (some .int)) (by decide) rfl ?_
  intro pr en s0 mm args below meth cc0 s₁ B hml hv
  obtain ⟨rfl, hlo, hM, hKK⟩ := hv
  have hK := hKK.1
  have hr := B.returns
  have hts := atoms_spec (ws := (wsO yX3_countAbbreviations cX3_countAbbreviations 5 (some .int))) B.pre
  have F : CallFix pr mm cc0 cX3_countAbbreviations 5 s0 (([.ref (ad 0), .ref (ad (2 * d + 8))] : List Value).toArray) (wsO yX3_countAbbreviations cX3_countAbbreviations 5 (some .int)) RX3 := ⟨B.exec, B.bytes, hml, findClass_of_methodNamed B.named, hts⟩
  have hx := F.1
  have hb := F.2.1
  have hlocks := B.notSynchronized
  have hS : va_S (fun q => lo ≤ q) s0.heap s0.heap [] := va_S.rf
  have hl := lv_entry ([.ref (ad 0), .ref (ad (2 * d + 8))]) (n := 5) (Nat.le_of_ble_eq_true rfl)
  rw [lg_entry_eq]
  generalize (lg_sl ([.ref (ad 0), .ref (ad (2 * d + 8))]) ++ List.replicate (5 - (lg_sl ([.ref (ad 0), .ref (ad (2 * d + 8))])).length) Slot.unset).toArray = ls at hl ⊢
  have hl : lv_has ls 5 [(0, .ref (ad 0)), (1, .ref (ad (2 * d + 8)))] := hl
  have loop_4 : ∀ (fu : Nat) (i : Nat), (i ≤ n) → n + 1 - i ≤ fu → ∀ (H : Heap) (locs : List Loc) (ls : Array Slot), mw D vwCl lo ad (ctC aC ad n gl E G P co lc hc hn hs X) H → va_S (fun q => lo ≤ q) s0.heap H locs → lv_has ls 5 [(0, .ref (ad 0)), (1, .ref (ad (2 * d + 8))), (2, .int (nI (cnt (abO E d) i))), (3, .int (nI (i + 1)))] → W pr l en (headSpec (wsO yX3_countAbbreviations cX3_countAbbreviations 5 (some .int)) ({ frames := 1, cells := 0, slots := 0, locals := 22 } : Room)).room s0 mm (([.ref (ad 0), .ref (ad (2 * d + 8))] : List Value).toArray) below meth cc0 H locs 0 0 (MQ below (mD1 D vwCl lo (.int (nI (cnt (abO E d) n))) ad (ctC aC ad n gl E G P co lc hc hn hs X)) (([.ref (ad 0), .ref (ad (2 * d + 8))] : List Value).toArray) s0 0 0 (fun q => lo ≤ q)) (F0 mm 4 ls []) := by
    intro fu
    induction fu with
    | zero =>
      intro i hi hfu H locs ls hM hS hl
      exact absurd hfu (by omega)
    | succ fu ih_4 =>
      intro i hi hfu H locs ls hM hS hl
      have hcl := cnt_le (abO E d) i
      refine lv_iload_n hx hb dX3_countAbbreviations_4 rfl (lv_at hl 3 rfl) ?_
      refine lv_aload_n hx hb dX3_countAbbreviations_5 rfl (lv_at hl 0 rfl) ?_
      refine m_get F (ci := 3) (v := .int (nI n)) (fun w h => tb_O (inX3 w h)) hK hM ctC_0 rfl 1 (by decide) (tb_O lkX3_15) rfl dX3_countAbbreviations_6 ?_
      refine m_icmp_gt F (a := (i + 1)) (b := n) (by omega) (by omega) (tgt := 42) dX3_countAbbreviations_9 (by decide) (fun c_9 => ?_) (fun c_9 => ?_)
      · skip
        have hin : n = i := by omega
        subst hin
        refine lv_iload_n hx hb dX3_countAbbreviations_42 rfl (lv_at hl 2 rfl) ?_
        exact W.iret hx hb hr (fun t ht hW => ⟨⟨_, _, _, rfl, ⟨rfl, rfl, rfl⟩, by rw [ht]; exact hM⟩, hS.F ht⟩) hS.2.2 dX3_countAbbreviations_43
      · skip
        refine lv_aload_n hx hb dX3_countAbbreviations_12 rfl (lv_at hl 0 rfl) ?_
        refine lv_iload_n hx hb dX3_countAbbreviations_13 rfl (lv_at hl 3 rfl) ?_
        rcases hdr : (E (i + 1)).2.2.1 with _ | _
        · skip
          refine m_d1 (v := .ref (ad (2 * (i + 1) + 8))) (ct1 := ctC aC ad n gl E G P co lc hc hn hs X) (va_runV (As := [.int (nI (i + 1))]) (rest := []) F (c_livT l (i + 1) (by omega) (by omega) h200 hdr) (cwV 1 F.2.2.2.2 (go_V (fun _ h => tb_O h) mlX3_37 imX3_living seX3_living iniX3 cdX3_living) rfl rfl rfl (by decide +kernel) ⟨Nat.le_of_ble_eq_true rfl, Nat.le_of_ble_eq_true rfl⟩) (mPreV hKK hM (Nat.le_trans hlo hS.1) ctC_0 rfl) rfl rfl hl.1 rfl (lv_room (Nat.le_of_ble_eq_true rfl)) dX3_countAbbreviations_14 ⟨Nat.le_of_ble_eq_true rfl, Nat.le_of_ble_eq_true rfl⟩) hS (fun H locs hM hS => ?_)
          refine lv_astore (lv' := [(4, .ref (ad (2 * (i + 1) + 8))), (0, .ref (ad 0)), (1, .ref (ad (2 * d + 8))), (2, .int (nI (cnt (abO E d) i))), (3, .int (nI (i + 1)))]) hx hb dX3_countAbbreviations_17 hl (by decide) rfl (fun ls hl => ?_)
          refine lv_aload hx hb dX3_countAbbreviations_19 (lv_at hl 0 rfl) ?_
          refine lv_ifnull hx hb dX3_countAbbreviations_21 ?_
          refine lv_aload hx hb dX3_countAbbreviations_24 (lv_at hl 0 rfl) ?_
          refine m_get F (ci := 0) (v := va_rf (oE ad (E (i + 1)).2.2.2.1)) (fun w h => tb_O (inX0 w h)) hK hM (ctC_e (by omega) (by omega) h200) rfl 4 (by decide) (tb_O lkX3_55) rfl dX3_countAbbreviations_26 ?_
          refine lv_aload_n hx hb dX3_countAbbreviations_29 rfl (lv_at hl 2 rfl) ?_
          refine m_acmp_ne F (rx := oE ad (E (i + 1)).2.2.2.1) (tgt := 36) dX3_countAbbreviations_30 (by decide) (fun c_30 => ?_) (fun c_30 => ?_)
          · skip
            have hno : ¬ (E (i + 1)).2.2.2.1 = some d := fun q => c_30 ((oE_inj hM h200 hd1 hd2 (hsf (i + 1) (by omega) (by omega))).mpr q)
            refine lv_iinc (v := (nI (i + 1 + 1))) (lv' := [(3, .int (nI (i + 1 + 1))), (4, .ref (ad (2 * (i + 1) + 8))), (0, .ref (ad 0)), (1, .ref (ad (2 * d + 8))), (2, .int (nI (cnt (abO E d) i)))]) hx hb dX3_countAbbreviations_36 hl (k := 4) rfl (nI_1 (i + 1)) (by decide) rfl (fun ls hl => ?_)
            refine lv_goto (tgt := 4) hx hb dX3_countAbbreviations_39 (by decide) ?_
            have hcn : cnt (abO E d) (i + 1) = cnt (abO E d) i := by show cnt (abO E d) i + _ = _; rw [if_neg (by simp [abO, hdr, hno])]; rfl
            rw [← hcn] at hl
            exact ih_4 (i + 1) (by omega) (by omega) _ _ _ hM hS (lv_sub hl [2, 3, 4, 0] rfl)
          · skip
            have hno : (E (i + 1)).2.2.2.1 = some d := (oE_inj hM h200 hd1 hd2 (hsf (i + 1) (by omega) (by omega))).mp c_30
            refine lv_iinc (v := (nI (cnt (abO E d) i + 1))) (lv' := [(2, .int (nI (cnt (abO E d) i + 1))), (4, .ref (ad (2 * (i + 1) + 8))), (0, .ref (ad 0)), (1, .ref (ad (2 * d + 8))), (3, .int (nI (i + 1)))]) hx hb dX3_countAbbreviations_33 hl (k := 3) rfl (nI_1 (cnt (abO E d) i)) (by decide) rfl (fun ls hl => ?_)
            refine lv_iinc (v := (nI (i + 1 + 1))) (lv' := [(3, .int (nI (i + 1 + 1))), (2, .int (nI (cnt (abO E d) i + 1))), (4, .ref (ad (2 * (i + 1) + 8))), (0, .ref (ad 0)), (1, .ref (ad (2 * d + 8)))]) hx hb dX3_countAbbreviations_36 hl (k := 4) rfl (nI_1 (i + 1)) (by decide) rfl (fun ls hl => ?_)
            refine lv_goto (tgt := 4) hx hb dX3_countAbbreviations_39 (by decide) ?_
            have hcn : cnt (abO E d) (i + 1) = cnt (abO E d) i + 1 := by show cnt (abO E d) i + _ = _; rw [if_pos (by simp [abO, hdr, hno])]
            rw [← hcn] at hl
            exact ih_4 (i + 1) (by omega) (by omega) _ _ _ hM hS (lv_sub hl [3, 4, 1, 0] rfl)
        · skip
          refine m_d1 (v := .null) (ct1 := ctC aC ad n gl E G P co lc hc hn hs X) (va_runV (As := [.int (nI (i + 1))]) (rest := []) F (c_livF l (i + 1) (by omega) (by omega) h200 hdr) (cwV 1 F.2.2.2.2 (go_V (fun _ h => tb_O h) mlX3_37 imX3_living seX3_living iniX3 cdX3_living) rfl rfl rfl (by decide +kernel) ⟨Nat.le_of_ble_eq_true rfl, Nat.le_of_ble_eq_true rfl⟩) (mPreV hKK hM (Nat.le_trans hlo hS.1) ctC_0 rfl) rfl rfl hl.1 rfl (lv_room (Nat.le_of_ble_eq_true rfl)) dX3_countAbbreviations_14 ⟨Nat.le_of_ble_eq_true rfl, Nat.le_of_ble_eq_true rfl⟩) hS (fun H locs hM hS => ?_)
          refine lv_astoreN (lv' := [(4, .null), (0, .ref (ad 0)), (1, .ref (ad (2 * d + 8))), (2, .int (nI (cnt (abO E d) i))), (3, .int (nI (i + 1)))]) hx hb dX3_countAbbreviations_17 hl (by decide) rfl (fun ls hl => ?_)
          refine lv_aloadN hx hb dX3_countAbbreviations_19 (lv_at hl 0 rfl) ?_
          refine lv_ifnullN (tgt := 36) hx hb dX3_countAbbreviations_21 (by decide) ?_
          refine lv_iinc (v := (nI (i + 1 + 1))) (lv' := [(3, .int (nI (i + 1 + 1))), (4, .null), (0, .ref (ad 0)), (1, .ref (ad (2 * d + 8))), (2, .int (nI (cnt (abO E d) i)))]) hx hb dX3_countAbbreviations_36 hl (k := 4) rfl (nI_1 (i + 1)) (by decide) rfl (fun ls hl => ?_)
          refine lv_goto (tgt := 4) hx hb dX3_countAbbreviations_39 (by decide) ?_
          have hcn : cnt (abO E d) (i + 1) = cnt (abO E d) i := by show cnt (abO E d) i + _ = _; rw [if_neg (by simp [abO, hdr])]; rfl
          rw [← hcn] at hl
          exact ih_4 (i + 1) (by omega) (by omega) _ _ _ hM hS (lv_sub hl [2, 3, 4, 0] rfl)
  refine lv_iconst (v := (nI 0)) hx hb dX3_countAbbreviations_0 (by decide) ?_
  refine lv_istore_n (lv' := [(2, .int (nI 0)), (0, .ref (ad 0)), (1, .ref (ad (2 * d + 8)))]) hx hb dX3_countAbbreviations_1 rfl hl (by decide) rfl (fun ls hl => ?_)
  refine lv_iconst (v := (nI 1)) hx hb dX3_countAbbreviations_2 (by decide) ?_
  refine lv_istore_n (lv' := [(3, .int (nI 1)), (2, .int (nI 0)), (0, .ref (ad 0)), (1, .ref (ad (2 * d + 8)))]) hx hb dX3_countAbbreviations_3 rfl hl (by decide) rfl (fun ls hl => ?_)
  exact loop_4 (n + 1) 0 (Nat.zero_le _) (by omega) _ _ _ hM hS (lv_sub hl [2, 3, 1, 0] rfl)

set_option maxHeartbeats 4000000 in
set_option maxRecDepth 100000 in
theorem c_lookAtN (l : Launch) {D : va_G} {aC : Nat → ClassId} {lo : Nat} {ad : Nat → Nat} {n : Nat} {gl : Int32} {E : Nat → Ent} {G : Nat → Nat → Nat} {P : Nat} {co : Nat → Option Nat} {lc : Nat → Nat} {hc : Nat} {hn hs : Nat → Nat} {X : Nat → Option va_E} (x : Int32) (hx1 : ¬ x = -1) (hx2 : isGr x = false) (h200 : n ≤ 200) : Met l yX3_lookAt (wsO yX3_lookAt cX3_lookAt 2 (some .int)) ({ frames := 1, cells := 0, slots := 0, locals := 20 } : Room) (mPc D vwCl (tyA aC) lo ad (ctC aC ad n gl E G P co lc hc hn hs X) [.ref (ad 0), .int x]) (mD1 D vwCl lo (.int (-2)) ad (ctC aC ad n gl E G P co lc hc hn hs X)) 0 0 (fun q => lo ≤ q) := by
  refine Met.ofW (cc := cX3_lookAt) (maxL := 2) (ret := (some .int)) (by decide) rfl ?_
  intro pr en s0 mm args below meth cc0 s₁ B hml hv
  obtain ⟨rfl, hlo, hM, hKK⟩ := hv
  have hK := hKK.1
  have hr := B.returns
  have hts := atoms_spec (ws := (wsO yX3_lookAt cX3_lookAt 2 (some .int))) B.pre
  have F : CallFix pr mm cc0 cX3_lookAt 2 s0 (([.ref (ad 0), .int x] : List Value).toArray) (wsO yX3_lookAt cX3_lookAt 2 (some .int)) RX3 := ⟨B.exec, B.bytes, hml, findClass_of_methodNamed B.named, hts⟩
  have hx := F.1
  have hb := F.2.1
  have hlocks := B.notSynchronized
  have hS : va_S (fun q => lo ≤ q) s0.heap s0.heap [] := va_S.rf
  have hl := lv_entry ([.ref (ad 0), .int x]) (n := 2) (Nat.le_of_ble_eq_true rfl)
  rw [lg_entry_eq]
  generalize (lg_sl ([.ref (ad 0), .int x]) ++ List.replicate (2 - (lg_sl ([.ref (ad 0), .int x])).length) Slot.unset).toArray = ls at hl ⊢
  have hl : lv_has ls 2 [(0, .ref (ad 0)), (1, .int x)] := hl
  refine lv_iload_n hx hb dX3_lookAt_0 rfl (lv_at hl 1 rfl) ?_
  refine lv_iconst (v := (-1)) hx hb dX3_lookAt_1 (by decide) ?_
  refine lv_icmp_eq (tgt := 15) hx hb dX3_lookAt_2 (by decide) (fun c_2 => ?_) (fun c_2 => ?_)
  · skip
    exact absurd c_2 hx1
  · skip
    refine lv_iload_n hx hb dX3_lookAt_5 rfl (lv_at hl 1 rfl) ?_
    refine m_d1 (v := .int (bI (isGr x))) (ct1 := ctC aC ad n gl E G P co lc hc hn hs X) (va_runS (As := [.int x]) (rest := []) F (c_isGroup l x) (va_cwS 1 F.2.2.2.2 (go_S (fun _ h => tb_O h) mlX3_113 stX3_isGroup iniX3 cdX3_isGroup) rfl rfl rfl (by decide +kernel) ⟨Nat.le_of_ble_eq_true rfl, Nat.le_of_ble_eq_true rfl⟩) (mPreS hKK hM (Nat.le_trans hlo hS.1)) rfl rfl hl.1 rfl (lv_room (Nat.le_of_ble_eq_true rfl)) dX3_lookAt_6 ⟨Nat.le_of_ble_eq_true rfl, Nat.le_of_ble_eq_true rfl⟩) hS (fun H locs hM hS => ?_)
    refine lv_if_ne (tgt := 15) hx hb dX3_lookAt_9 (by decide) (fun c_9 => ?_) (fun c_9 => ?_)
    · skip
      exact absurd (by rw [hx2]; rfl) c_9
    · skip
      refine lv_bipush (v := (-2)) hx hb dX3_lookAt_12 (by decide) ?_
      exact W.iret hx hb hr (fun t ht hW => ⟨⟨_, _, _, rfl, ⟨rfl, rfl, rfl⟩, by rw [ht]; exact hM⟩, hS.F ht⟩) hS.2.2 dX3_lookAt_14

set_option maxHeartbeats 4000000 in
set_option maxRecDepth 100000 in
theorem c_lookAt (l : Launch) {D : va_G} {aC : Nat → ClassId} {lo : Nat} {ad : Nat → Nat} {n : Nat} {gl : Int32} {E : Nat → Ent} {G : Nat → Nat → Nat} {P : Nat} {co : Nat → Option Nat} {lc : Nat → Nat} {hc : Nat} {hn hs : Nat → Nat} {X : Nat → Option va_E} (x : Int32) (hxg : x = -1 ∨ isGr x = true) (h200 : n ≤ 200) : Met l yX3_lookAt (wsO yX3_lookAt cX3_lookAt 2 (some .int)) ({ frames := 2, cells := 0, slots := 0, locals := 46 } : Room) (mPc D vwCl (tyA aC) lo ad (ctC aC ad n gl E G P co lc hc hn hs X) [.ref (ad 0), .int x]) (mD1 D vwCl lo (.int (nI (cnt (inW E x) n))) ad (ctC aC ad n x E G P co lc hc hn hs X)) 0 0 (fun q => lo ≤ q) := by
  refine Met.ofW (cc := cX3_lookAt) (maxL := 2) (ret := (some .int)) (by decide) rfl ?_
  intro pr en s0 mm args below meth cc0 s₁ B hml hv
  obtain ⟨rfl, hlo, hM, hKK⟩ := hv
  have hK := hKK.1
  have hr := B.returns
  have hts := atoms_spec (ws := (wsO yX3_lookAt cX3_lookAt 2 (some .int))) B.pre
  have F : CallFix pr mm cc0 cX3_lookAt 2 s0 (([.ref (ad 0), .int x] : List Value).toArray) (wsO yX3_lookAt cX3_lookAt 2 (some .int)) RX3 := ⟨B.exec, B.bytes, hml, findClass_of_methodNamed B.named, hts⟩
  have hx := F.1
  have hb := F.2.1
  have hlocks := B.notSynchronized
  have hS : va_S (fun q => lo ≤ q) s0.heap s0.heap [] := va_S.rf
  have hl := lv_entry ([.ref (ad 0), .int x]) (n := 2) (Nat.le_of_ble_eq_true rfl)
  rw [lg_entry_eq]
  generalize (lg_sl ([.ref (ad 0), .int x]) ++ List.replicate (2 - (lg_sl ([.ref (ad 0), .int x])).length) Slot.unset).toArray = ls at hl ⊢
  have hl : lv_has ls 2 [(0, .ref (ad 0)), (1, .int x)] := hl
  refine lv_iload_n hx hb dX3_lookAt_0 rfl (lv_at hl 1 rfl) ?_
  refine lv_iconst (v := (-1)) hx hb dX3_lookAt_1 (by decide) ?_
  refine lv_icmp_eq (tgt := 15) hx hb dX3_lookAt_2 (by decide) (fun c_2 => ?_) (fun c_2 => ?_)
  · skip
    refine lv_aload_n hx hb dX3_lookAt_15 rfl (lv_at hl 0 rfl) ?_
    refine lv_iload_n hx hb dX3_lookAt_16 rfl (lv_at hl 1 rfl) ?_
    refine m_put F (ci := 3) (v := .int x) (fun w h => tb_O (inX3 w h)) mc_X3 hK hM hS ctC_0 4 (by decide) (tb_O lkX3_33) rfl rfl rfl (Nat.le_of_ble_eq_true rfl) dX3_lookAt_17 (fun H locs hM hS => ?_)
    have hM : mw D vwCl lo ad (va_up (ctC aC ad n gl E G P co lc hc hn hs X) 0 (some (.inr (3, [.ref (ad 1), .int (nI n), .ref (ad 2), .ref (ad 5), .int x])))) H := hM
    have hM : mw D vwCl lo ad (ctC aC ad n x E G P co lc hc hn hs X) H := by rw [ctC_gl] at hM; exact hM
    refine lv_aload_n hx hb dX3_lookAt_20 rfl (lv_at hl 0 rfl) ?_
    refine lv_iload_n hx hb dX3_lookAt_21 rfl (lv_at hl 1 rfl) ?_
    refine m_d1 (v := .int (nI (cnt (inW E x) n))) (ct1 := ctC aC ad n x E G P co lc hc hn hs X) (va_runV (As := [.int x]) (rest := []) F (c_countWithin l x h200) (cwV 1 F.2.2.2.2 (go_V (fun _ h => tb_O h) mlX3_59 imX3_countWithin seX3_countWithin iniX3 cdX3_countWithin) rfl rfl rfl (by decide +kernel) ⟨Nat.le_of_ble_eq_true rfl, Nat.le_of_ble_eq_true rfl⟩) (mPreV hKK hM (Nat.le_trans hlo hS.1) ctC_0 rfl) rfl rfl hl.1 rfl (lv_room (Nat.le_of_ble_eq_true rfl)) dX3_lookAt_22 ⟨Nat.le_of_ble_eq_true rfl, Nat.le_of_ble_eq_true rfl⟩) hS (fun H locs hM hS => ?_)
    exact W.iret hx hb hr (fun t ht hW => ⟨⟨_, _, _, rfl, ⟨rfl, rfl, rfl⟩, by rw [ht]; exact hM⟩, hS.F ht⟩) hS.2.2 dX3_lookAt_25
  · skip
    refine lv_iload_n hx hb dX3_lookAt_5 rfl (lv_at hl 1 rfl) ?_
    refine m_d1 (v := .int (bI (isGr x))) (ct1 := ctC aC ad n gl E G P co lc hc hn hs X) (va_runS (As := [.int x]) (rest := []) F (c_isGroup l x) (va_cwS 1 F.2.2.2.2 (go_S (fun _ h => tb_O h) mlX3_113 stX3_isGroup iniX3 cdX3_isGroup) rfl rfl rfl (by decide +kernel) ⟨Nat.le_of_ble_eq_true rfl, Nat.le_of_ble_eq_true rfl⟩) (mPreS hKK hM (Nat.le_trans hlo hS.1)) rfl rfl hl.1 rfl (lv_room (Nat.le_of_ble_eq_true rfl)) dX3_lookAt_6 ⟨Nat.le_of_ble_eq_true rfl, Nat.le_of_ble_eq_true rfl⟩) hS (fun H locs hM hS => ?_)
    refine lv_if_ne (tgt := 15) hx hb dX3_lookAt_9 (by decide) (fun c_9 => ?_) (fun c_9 => ?_)
    · skip
      refine lv_aload_n hx hb dX3_lookAt_15 rfl (lv_at hl 0 rfl) ?_
      refine lv_iload_n hx hb dX3_lookAt_16 rfl (lv_at hl 1 rfl) ?_
      refine m_put F (ci := 3) (v := .int x) (fun w h => tb_O (inX3 w h)) mc_X3 hK hM hS ctC_0 4 (by decide) (tb_O lkX3_33) rfl rfl rfl (Nat.le_of_ble_eq_true rfl) dX3_lookAt_17 (fun H locs hM hS => ?_)
      have hM : mw D vwCl lo ad (va_up (ctC aC ad n gl E G P co lc hc hn hs X) 0 (some (.inr (3, [.ref (ad 1), .int (nI n), .ref (ad 2), .ref (ad 5), .int x])))) H := hM
      have hM : mw D vwCl lo ad (ctC aC ad n x E G P co lc hc hn hs X) H := by rw [ctC_gl] at hM; exact hM
      refine lv_aload_n hx hb dX3_lookAt_20 rfl (lv_at hl 0 rfl) ?_
      refine lv_iload_n hx hb dX3_lookAt_21 rfl (lv_at hl 1 rfl) ?_
      refine m_d1 (v := .int (nI (cnt (inW E x) n))) (ct1 := ctC aC ad n x E G P co lc hc hn hs X) (va_runV (As := [.int x]) (rest := []) F (c_countWithin l x h200) (cwV 1 F.2.2.2.2 (go_V (fun _ h => tb_O h) mlX3_59 imX3_countWithin seX3_countWithin iniX3 cdX3_countWithin) rfl rfl rfl (by decide +kernel) ⟨Nat.le_of_ble_eq_true rfl, Nat.le_of_ble_eq_true rfl⟩) (mPreV hKK hM (Nat.le_trans hlo hS.1) ctC_0 rfl) rfl rfl hl.1 rfl (lv_room (Nat.le_of_ble_eq_true rfl)) dX3_lookAt_22 ⟨Nat.le_of_ble_eq_true rfl, Nat.le_of_ble_eq_true rfl⟩) hS (fun H locs hM hS => ?_)
      exact W.iret hx hb hr (fun t ht hW => ⟨⟨_, _, _, rfl, ⟨rfl, rfl, rfl⟩, by rw [ht]; exact hM⟩, hS.F ht⟩) hS.2.2 dX3_lookAt_25
    · skip
      exact absurd (hxg.resolve_left c_2) (by rw [bI_eq c_9]; decide)
