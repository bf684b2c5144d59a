set_option maxHeartbeats 4000000 in
set_option maxRecDepth 100000 in
theorem c_mSumOf (l : Launch) {D : va_G} {aC : Nat → ClassId} {lo : Nat} {ad : Nat → Nat} {n : Nat} {th : Nat → Bool} {sz : Nat → Nat} {sg : Nat → Nat} {me : Nat → Nat} {gr : Nat → Int32} {lk : Int32} {P : Nat} {co : Nat → Option Nat} {tb : Nat → Nat} {fd : Nat} {wd : Nat → Nat} {sm : Nat → Nat} {rc : Nat → Nat} {X : Nat → Option va_E} (e : Nat) (he2 : e ≤ 200) (h200 : n ≤ 200) (hme : ∀ k, me k ≤ 200) (hP : P ≤ 20) (hsz : ∀ k, sz k ≤ 20) (hco : ∀ k c, co k = some c → c ≤ 1000) (hsg : ∀ a k, k < sz a → sg (20 * a + k) ≤ 127) : Met l yX4_sumOf (wsO yX4_sumOf cX4_sumOf 5 (some .int)) ({ frames := 1, cells := 0, slots := 0, locals := 26 } : Room) (mPc D vwCl (tyA aC) lo ad (ctM aC ad n th sz sg me gr lk P co tb fd wd sm rc X) [.ref (ad 1000), .int (nI e)]) (mQ1 D vwCl lo (fun v ad1 ct1 => v = .int (nI (sOm th me (owM P co sz sg) e n)) ∧ ad1 = ad ∧ ∃ tb1, ct1 = ctM aC ad n th sz sg me gr lk P co tb1 fd wd sm rc X)) 0 0 (fun q => lo ≤ q) := by
  refine Met.ofW (cc := cX4_sumOf) (maxL := 5) (ret := (some .int)) (by decide) rfl ?_
  intro pr en s0 mm args below meth cc0 s₁ B hml hv
  obtain ⟨rfl, hlo, hM, hKK⟩ := hv
  have hK := hKK.1
  have hr := B.returns
  have hts := atoms_spec (ws := (wsO yX4_sumOf cX4_sumOf 5 (some .int))) B.pre
  have F : CallFix pr mm cc0 cX4_sumOf 5 s0 (([.ref (ad 1000), .int (nI e)] : List Value).toArray) (wsO yX4_sumOf cX4_sumOf 5 (some .int)) RX4 := ⟨B.exec, B.bytes, hml, findClass_of_methodNamed B.named, hts⟩
  have hx := F.1
  have hb := F.2.1
  have hlocks := B.notSynchronized
  have hS : va_S (fun q => lo ≤ q) s0.heap s0.heap [] := va_S.rf
  have hl := lv_entry ([.ref (ad 1000), .int (nI e)]) (n := 5) (Nat.le_of_ble_eq_true rfl)
  rw [lg_entry_eq]
  generalize (lg_sl ([.ref (ad 1000), .int (nI e)]) ++ List.replicate (5 - (lg_sl ([.ref (ad 1000), .int (nI e)])).length) Slot.unset).toArray = ls at hl ⊢
  have hl : lv_has ls 5 [(0, .ref (ad 1000)), (1, .int (nI e))] := hl
  have loop_8 : ∀ (fu : Nat) (i : Nat) (tb : Nat → Nat), (i ≤ n) → n + 1 - i ≤ fu → ∀ (H : Heap) (locs : List Loc) (ls : Array Slot), mw D vwCl lo ad (ctM aC ad n th sz sg me gr lk P co tb fd wd sm rc X) H → va_S (fun q => lo ≤ q) s0.heap H locs → lv_has ls 5 [(0, .ref (ad 1000)), (1, .int (nI e)), (2, .int (nI (sOm th me (owM P co sz sg) e i))), (3, .int (nI (i + 1)))] → W pr l en (headSpec (wsO yX4_sumOf cX4_sumOf 5 (some .int)) ({ frames := 1, cells := 0, slots := 0, locals := 26 } : Room)).room s0 mm (([.ref (ad 1000), .int (nI e)] : List Value).toArray) below meth cc0 H locs 0 0 (MQ below (mQ1 D vwCl lo (fun v ad1 ct1 => v = .int (nI (sOm th me (owM P co sz sg) e n)) ∧ ad1 = ad ∧ ∃ tb1, ct1 = ctM aC ad n th sz sg me gr lk P co tb1 fd wd sm rc X)) (([.ref (ad 1000), .int (nI e)] : List Value).toArray) s0 0 0 (fun q => lo ≤ q)) (F0 mm 8 ls []) := by
    intro fu
    induction fu with
    | zero =>
      intro i tb hi hfu H locs ls hM hS hl
      exact absurd hfu (by omega)
    | succ fu ih_8 =>
      intro i tb hi hfu H locs ls hM hS hl
      have hle := sOm_le (th := th) (me := me) (o := owM P co sz sg) (e := e) i
      have hoe : owM P co sz sg e ≤ 1100 := owM_le hP (hsz e)
      have hoi : owM P co sz sg (i + 1) ≤ 1100 := owM_le hP (hsz (i + 1))
      have hmi := hme (i + 1)
      refine lv_iload_n hx hb dX4_sumOf_8 rfl (lv_at hl 3 rfl) ?_
      refine lv_aload_n hx hb dX4_sumOf_9 rfl (lv_at hl 0 rfl) ?_
      refine m_get F (ci := 4) (v := .int (nI n)) (fun w h => tb_O (inX4 w h)) hK hM ctM_o rfl 0 (by decide) (tb_O lkX4_51) rfl dX4_sumOf_10 ?_
      refine m_icmp_gt F (a := (i + 1)) (b := n) (by omega) (by omega) (tgt := 61) dX4_sumOf_13 (by decide) (fun c_13 => ?_) (fun c_13 => ?_)
      · skip
        have hin9 : n = i := by omega
        subst hin9
        refine lv_iload_n hx hb dX4_sumOf_61 rfl (lv_at hl 2 rfl) ?_
        exact W.iret hx hb hr (fun t ht hW => ⟨⟨_, _, _, rfl, ⟨rfl, rfl, _, rfl⟩, by rw [ht]; exact hM⟩, hS.F ht⟩) hS.2.2 dX4_sumOf_62
      · skip
        refine lv_aload_n hx hb dX4_sumOf_16 rfl (lv_at hl 0 rfl) ?_
        refine m_get F (ci := 4) (v := .ref (ad 1001)) (fun w h => tb_O (inX4 w h)) hK hM ctM_o rfl 1 (by decide) (tb_O lkX4_7) rfl dX4_sumOf_17 ?_
        refine lv_iload_n hx hb dX4_sumOf_20 rfl (lv_at hl 3 rfl) ?_
        refine m_zald F hK hM 2 rfl (j := (i + 1)) ctM_ath (by omega) (by decide) dX4_sumOf_21 ?_
        refine m_top (y := (bI (th (i + 1)))) rfl ?_
        refine lv_if_eq (tgt := 55) hx hb dX4_sumOf_22 (by decide) (fun c_22 => ?_) (fun c_22 => ?_)
        · skip
          refine lv_iinc (v := (nI (i + 1 + 1))) (lv' := [(3, .int (nI (i + 1 + 1))), (0, .ref (ad 1000)), (1, .int (nI e)), (2, .int (nI (sOm th me (owM P co sz sg) e i)))]) hx hb dX4_sumOf_55 hl (k := 3) rfl (nI_1 (i + 1)) (by decide) rfl (fun ls hl => ?_)
          refine lv_goto (tgt := 8) hx hb dX4_sumOf_58 (by decide) ?_
          have hcn : sOm th me (owM P co sz sg) e (i + 1) = sOm th me (owM P co sz sg) e i := by
            show (if (th (i + 1) && decide (me (i + 1) = e)) = true then min (sOm th me (owM P co sz sg) e i) (owM P co sz sg (i + 1)) else sOm th me (owM P co sz sg) e i) = _
            rw [if_neg (by first | simp [bI_ne c_22, c_32] | simp [bI_eq c_22])]
          rw [← hcn] at hl
          exact ih_8 (i + 1) tb (by omega) (by omega) _ _ _ hM hS (lv_sub hl [1, 2, 3, 0] rfl)
        · skip
          refine lv_aload_n hx hb dX4_sumOf_25 rfl (lv_at hl 0 rfl) ?_
          refine m_get F (ci := 4) (v := .ref (ad 1004)) (fun w h => tb_O (inX4 w h)) hK hM ctM_o rfl 4 (by decide) (tb_O lkX4_20) rfl dX4_sumOf_26 ?_
          refine lv_iload_n hx hb dX4_sumOf_29 rfl (lv_at hl 3 rfl) ?_
          refine m_iald F hK hM 0 rfl (j := (i + 1)) ctM_ame (by omega) (by decide) dX4_sumOf_30 ?_
          refine m_top (y := (nI (me (i + 1)))) rfl ?_
          refine lv_iload_n hx hb dX4_sumOf_31 rfl (lv_at hl 1 rfl) ?_
          refine m_icmp_ne F (a := (me (i + 1))) (b := e) (by omega) (by omega) (tgt := 55) dX4_sumOf_32 (by decide) (fun c_32 => ?_) (fun c_32 => ?_)
          · skip
            refine lv_iinc (v := (nI (i + 1 + 1))) (lv' := [(3, .int (nI (i + 1 + 1))), (0, .ref (ad 1000)), (1, .int (nI e)), (2, .int (nI (sOm th me (owM P co sz sg) e i)))]) hx hb dX4_sumOf_55 hl (k := 3) rfl (nI_1 (i + 1)) (by decide) rfl (fun ls hl => ?_)
            refine lv_goto (tgt := 8) hx hb dX4_sumOf_58 (by decide) ?_
            have hcn : sOm th me (owM P co sz sg) e (i + 1) = sOm th me (owM P co sz sg) e i := by
              show (if (th (i + 1) && decide (me (i + 1) = e)) = true then min (sOm th me (owM P co sz sg) e i) (owM P co sz sg (i + 1)) else sOm th me (owM P co sz sg) e i) = _
              rw [if_neg (by first | simp [bI_ne c_22, c_32] | simp [bI_eq c_22])]
            rw [← hcn] at hl
            exact ih_8 (i + 1) tb (by omega) (by omega) _ _ _ hM hS (lv_sub hl [1, 2, 3, 0] rfl)
          · skip
            refine lv_aload_n hx hb dX4_sumOf_35 rfl (lv_at hl 0 rfl) ?_
            refine lv_iload_n hx hb dX4_sumOf_36 rfl (lv_at hl 3 rfl) ?_
            refine m_ret1 (va_runV (As := [.int (nI (i + 1))]) (rest := []) F (c_mOwn l (i + 1) (by omega) hP hsz hco hsg) (cwV 1 F.2.2.2.2 (go_V (fun _ h => tb_O h) mlX4_67 imX4_ownSum seX4_ownSum iniX4 cdX4_ownSum) rfl rfl rfl (by decide +kernel) ⟨Nat.le_of_ble_eq_true rfl, Nat.le_of_ble_eq_true rfl⟩) (mPreV hKK hM (Nat.le_trans hlo hS.1) ctM_o rfl) rfl rfl hl.1 rfl (lv_room (Nat.le_of_ble_eq_true rfl)) dX4_sumOf_37 ⟨Nat.le_of_ble_eq_true rfl, Nat.le_of_ble_eq_true rfl⟩) hS (fun v9 ad1 ct1 H locs hp9 hM hS => ?_)
            obtain ⟨rfl, h9, tbo1, rfl⟩ := hp9
            replace h9 := h9.symm
            subst h9
            refine lv_istore (lv' := [(4, .int (nI (owM P co sz sg (i + 1)))), (0, .ref (ad 1000)), (1, .int (nI e)), (2, .int (nI (sOm th me (owM P co sz sg) e i))), (3, .int (nI (i + 1)))]) hx hb dX4_sumOf_40 hl (by decide) rfl (fun ls hl => ?_)
            refine lv_iload hx hb dX4_sumOf_42 (lv_at hl 0 rfl) ?_
            refine lv_iload_n hx hb dX4_sumOf_44 rfl (lv_at hl 3 rfl) ?_
            refine m_icmp_ge F (a := (owM P co sz sg (i + 1))) (b := (sOm th me (owM P co sz sg) e i)) (by omega) (by omega) (tgt := 53) dX4_sumOf_45 (by decide) (fun c_45 => ?_) (fun c_45 => ?_)
            · skip
              refine lv_iload_n hx hb dX4_sumOf_53 rfl (lv_at hl 3 rfl) ?_
              refine lv_istore_n (lv' := [(2, .int (nI (sOm th me (owM P co sz sg) e i))), (4, .int (nI (owM P co sz sg (i + 1)))), (0, .ref (ad 1000)), (1, .int (nI e)), (3, .int (nI (i + 1)))]) hx hb dX4_sumOf_54 rfl hl (by decide) rfl (fun ls hl => ?_)
              refine lv_iinc (v := (nI (i + 1 + 1))) (lv' := [(3, .int (nI (i + 1 + 1))), (2, .int (nI (sOm th me (owM P co sz sg) e i))), (4, .int (nI (owM P co sz sg (i + 1)))), (0, .ref (ad 1000)), (1, .int (nI e))]) hx hb dX4_sumOf_55 hl (k := 4) rfl (nI_1 (i + 1)) (by decide) rfl (fun ls hl => ?_)
              refine lv_goto (tgt := 8) hx hb dX4_sumOf_58 (by decide) ?_
              have hcn : sOm th me (owM P co sz sg) e (i + 1) = sOm th me (owM P co sz sg) e i := by
                show (if (th (i + 1) && decide (me (i + 1) = e)) = true then min (sOm th me (owM P co sz sg) e i) (owM P co sz sg (i + 1)) else sOm th me (owM P co sz sg) e i) = _
                rw [if_pos (by simp [bI_ne c_22, c_32])]; omega
              rw [← hcn] at hl
              exact ih_8 (i + 1) tbo1 (by omega) (by omega) _ _ _ hM hS (lv_sub hl [3, 4, 1, 0] rfl)
            · skip
              refine lv_iload hx hb dX4_sumOf_48 (lv_at hl 0 rfl) ?_
              refine lv_goto (tgt := 54) hx hb dX4_sumOf_50 (by decide) ?_
              refine lv_istore_n (lv' := [(2, .int (nI (owM P co sz sg (i + 1)))), (4, .int (nI (owM P co sz sg (i + 1)))), (0, .ref (ad 1000)), (1, .int (nI e)), (3, .int (nI (i + 1)))]) hx hb dX4_sumOf_54 rfl hl (by decide) rfl (fun ls hl => ?_)
              refine lv_iinc (v := (nI (i + 1 + 1))) (lv' := [(3, .int (nI (i + 1 + 1))), (2, .int (nI (owM P co sz sg (i + 1)))), (4, .int (nI (owM P co sz sg (i + 1)))), (0, .ref (ad 1000)), (1, .int (nI e))]) hx hb dX4_sumOf_55 hl (k := 4) rfl (nI_1 (i + 1)) (by decide) rfl (fun ls hl => ?_)
              refine lv_goto (tgt := 8) hx hb dX4_sumOf_58 (by decide) ?_
              have hcn : sOm th me (owM P co sz sg) e (i + 1) = owM P co sz sg (i + 1) := by
                show (if (th (i + 1) && decide (me (i + 1) = e)) = true then min (sOm th me (owM P co sz sg) e i) (owM P co sz sg (i + 1)) else sOm th me (owM P co sz sg) e i) = _
                rw [if_pos (by simp [bI_ne c_22, c_32])]; omega
              rw [← hcn] at hl
              exact ih_8 (i + 1) tbo1 (by omega) (by omega) _ _ _ hM hS (lv_sub hl [3, 4, 1, 0] rfl)
  refine lv_aload_n hx hb dX4_sumOf_0 rfl (lv_at hl 0 rfl) ?_
  refine lv_iload_n hx hb dX4_sumOf_1 rfl (lv_at hl 1 rfl) ?_
  refine m_ret1 (va_runV (As := [.int (nI e)]) (rest := []) F (c_mOwn l e he2 hP hsz hco hsg) (cwV 1 F.2.2.2.2 (go_V (fun _ h => tb_O h) mlX4_67 imX4_ownSum seX4_ownSum iniX4 cdX4_ownSum) rfl rfl rfl (by decide +kernel) ⟨Nat.le_of_ble_eq_true rfl, Nat.le_of_ble_eq_true rfl⟩) (mPreV hKK hM (Nat.le_trans hlo hS.1) ctM_o rfl) rfl rfl hl.1 rfl (lv_room (Nat.le_of_ble_eq_true rfl)) dX4_sumOf_2 ⟨Nat.le_of_ble_eq_true rfl, Nat.le_of_ble_eq_true rfl⟩) hS (fun v9 ad1 ct1 H locs hp9 hM hS => ?_)
  obtain ⟨rfl, h9, tbo2, rfl⟩ := hp9
  replace h9 := h9.symm
  subst h9
  refine lv_istore_n (lv' := [(2, .int (nI (owM P co sz sg e))), (0, .ref (ad 1000)), (1, .int (nI e))]) hx hb dX4_sumOf_5 rfl hl (by decide) rfl (fun ls hl => ?_)
  refine lv_iconst (v := (nI 1)) hx hb dX4_sumOf_6 (by decide) ?_
  refine lv_istore_n (lv' := [(3, .int (nI 1)), (2, .int (nI (owM P co sz sg e))), (0, .ref (ad 1000)), (1, .int (nI e))]) hx hb dX4_sumOf_7 rfl hl (by decide) rfl (fun ls hl => ?_)
  exact loop_8 (n + 1) 0 tbo2 (Nat.zero_le _) (by omega) _ _ _ hM hS (lv_sub hl [2, 3, 1, 0] rfl)

set_option maxHeartbeats 4000000 in
set_option maxRecDepth 100000 in
theorem c_mFindO (l : Launch) {D : va_G} {aC : Nat → ClassId} {lo : Nat} {ad : Nat → Nat} {n : Nat} {th : Nat → Bool} {sz : Nat → Nat} {sg : Nat → Nat} {me : Nat → Nat} {gr : Nat → Int32} {lk : Int32} {P : Nat} {co : Nat → Option Nat} {tb : Nat → Nat} {fd : Nat} {wd : Nat → Nat} {sm : Nat → Nat} {rc : Nat → Nat} {X : Nat → Option va_E} (x : Int32) (hk : isK x = false) : Met l yX4_find (wsO yX4_find cX4_find 10 (some .int)) ({ frames := 1, cells := 0, slots := 0, locals := 22 } : Room) (mPc D vwCl (tyA aC) lo ad (ctM aC ad n th sz sg me gr lk P co tb fd wd sm rc X) [.ref (ad 1000), .int x]) (mD1 D vwCl lo (.int (-2)) ad (ctM aC ad n th sz sg me gr lk P co tb fd wd sm rc X)) 0 0 (fun q => lo ≤ q) := by
  refine Met.ofW (cc := cX4_find) (maxL := 10) (ret := (some .int)) (by decide) rfl ?_
  intro pr en s0 mm args below meth cc0 s₁ B hml hv
  obtain ⟨rfl, hlo, hM, hKK⟩ := hv
  have hK := hKK.1
  have hr := B.returns
  have hts := atoms_spec (ws := (wsO yX4_find cX4_find 10 (some .int))) B.pre
  have F : CallFix pr mm cc0 cX4_find 10 s0 (([.ref (ad 1000), .int x] : List Value).toArray) (wsO yX4_find cX4_find 10 (some .int)) RX4 := ⟨B.exec, B.bytes, hml, findClass_of_methodNamed B.named, hts⟩
  have hx := F.1
  have hb := F.2.1
  have hlocks := B.notSynchronized
  have hS : va_S (fun q => lo ≤ q) s0.heap s0.heap [] := va_S.rf
  have hl := lv_entry ([.ref (ad 1000), .int x]) (n := 10) (Nat.le_of_ble_eq_true rfl)
  rw [lg_entry_eq]
  generalize (lg_sl ([.ref (ad 1000), .int x]) ++ List.replicate (10 - (lg_sl ([.ref (ad 1000), .int x])).length) Slot.unset).toArray = ls at hl ⊢
  have hl : lv_has ls 10 [(0, .ref (ad 1000)), (1, .int x)] := hl
  refine lv_iload_n hx hb dX4_find_0 rfl (lv_at hl 1 rfl) ?_
  refine lv_iconst (v := (nI 1)) hx hb dX4_find_1 (by decide) ?_
  refine lv_sipush (v := (nI 1000)) hx hb dX4_find_2 (by decide) ?_
  refine m_d1 (v := .int (bI (btw x (nI 1) (nI 1000)))) (ct1 := ctM aC ad n th sz sg me gr lk P co tb fd wd sm rc X) (va_runS (As := [.int x, .int (nI 1), .int (nI 1000)]) (rest := []) F (c_between l x (nI 1) (nI 1000)) (va_cwS 3 F.2.2.2.2 (go_S (fun _ h => tb_O h) mlX4_54 stX4_between iniX4 cdX4_between) rfl rfl rfl (by decide +kernel) ⟨Nat.le_of_ble_eq_true rfl, Nat.le_of_ble_eq_true rfl⟩) (mPreS hKK hM (Nat.le_trans hlo hS.1)) rfl rfl hl.1 rfl (lv_room (Nat.le_of_ble_eq_true rfl)) dX4_find_5 ⟨Nat.le_of_ble_eq_true rfl, Nat.le_of_ble_eq_true rfl⟩) hS (fun H locs hM hS => ?_)
  refine lv_if_ne (tgt := 14) hx hb dX4_find_8 (by decide) (fun c_8 => ?_) (fun c_8 => ?_)
  · skip
    exact absurd (by rw [show btw x (nI 1) (nI 1000) = isK x from rfl, hk]; rfl) c_8
  · skip
    refine lv_bipush (v := (-2)) hx hb dX4_find_11 (by decide) ?_
    exact W.iret hx hb hr (fun t ht hW => ⟨⟨_, _, _, rfl, ⟨rfl, rfl, rfl⟩, by rw [ht]; exact hM⟩, hS.F ht⟩) hS.2.2 dX4_find_13

set_option maxHeartbeats 4000000 in
set_option maxRecDepth 100000 in
theorem c_mPlainO (l : Launch) {D : va_G} {aC : Nat → ClassId} {lo : Nat} {ad : Nat → Nat} {n : Nat} {th : Nat → Bool} {sz : Nat → Nat} {sg : Nat → Nat} {me : Nat → Nat} {gr : Nat → Int32} {lk : Int32} {P : Nat} {co : Nat → Option Nat} {tb : Nat → Nat} {fd : Nat} {wd : Nat → Nat} {sm : Nat → Nat} {rc : Nat → Nat} {X : Nat → Option va_E} (x : Int32) (hk : isK x = false) : Met l yX4_plain (wsO yX4_plain cX4_plain 6 (some .int)) ({ frames := 1, cells := 0, slots := 0, locals := 22 } : Room) (mPc D vwCl (tyA aC) lo ad (ctM aC ad n th sz sg me gr lk P co tb fd wd sm rc X) [.ref (ad 1000), .int x]) (mD1 D vwCl lo (.int (-2)) ad (ctM aC ad n th sz sg me gr lk P co tb fd wd sm rc X)) 0 0 (fun q => lo ≤ q) := by
  refine Met.ofW (cc := cX4_plain) (maxL := 6) (ret := (some .int)) (by decide) rfl ?_
  intro pr en s0 mm args below meth cc0 s₁ B hml hv
  obtain ⟨rfl, hlo, hM, hKK⟩ := hv
  have hK := hKK.1
  have hr := B.returns
  have hts := atoms_spec (ws := (wsO yX4_plain cX4_plain 6 (some .int))) B.pre
  have F : CallFix pr mm cc0 cX4_plain 6 s0 (([.ref (ad 1000), .int x] : List Value).toArray) (wsO yX4_plain cX4_plain 6 (some .int)) RX4 := ⟨B.exec, B.bytes, hml, findClass_of_methodNamed B.named, hts⟩
  have hx := F.1
  have hb := F.2.1
  have hlocks := B.notSynchronized
  have hS : va_S (fun q => lo ≤ q) s0.heap s0.heap [] := va_S.rf
  have hl := lv_entry ([.ref (ad 1000), .int x]) (n := 6) (Nat.le_of_ble_eq_true rfl)
  rw [lg_entry_eq]
  generalize (lg_sl ([.ref (ad 1000), .int x]) ++ List.replicate (6 - (lg_sl ([.ref (ad 1000), .int x])).length) Slot.unset).toArray = ls at hl ⊢
  have hl : lv_has ls 6 [(0, .ref (ad 1000)), (1, .int x)] := hl
  refine lv_iload_n hx hb dX4_plain_0 rfl (lv_at hl 1 rfl) ?_
  refine lv_iconst (v := (nI 1)) hx hb dX4_plain_1 (by decide) ?_
  refine lv_sipush (v := (nI 1000)) hx hb dX4_plain_2 (by decide) ?_
  refine m_d1 (v := .int (bI (btw x (nI 1) (nI 1000)))) (ct1 := ctM aC ad n th sz sg me gr lk P co tb fd wd sm rc X) (va_runS (As := [.int x, .int (nI 1), .int (nI 1000)]) (rest := []) F (c_between l x (nI 1) (nI 1000)) (va_cwS 3 F.2.2.2.2 (go_S (fun _ h => tb_O h) mlX4_54 stX4_between iniX4 cdX4_between) rfl rfl rfl (by decide +kernel) ⟨Nat.le_of_ble_eq_true rfl, Nat.le_of_ble_eq_true rfl⟩) (mPreS hKK hM (Nat.le_trans hlo hS.1)) rfl rfl hl.1 rfl (lv_room (Nat.le_of_ble_eq_true rfl)) dX4_plain_5 ⟨Nat.le_of_ble_eq_true rfl, Nat.le_of_ble_eq_true rfl⟩) hS (fun H locs hM hS => ?_)
  refine lv_if_ne (tgt := 14) hx hb dX4_plain_8 (by decide) (fun c_8 => ?_) (fun c_8 => ?_)
  · skip
    exact absurd (by rw [show btw x (nI 1) (nI 1000) = isK x from rfl, hk]; rfl) c_8
  · skip
    refine lv_bipush (v := (-2)) hx hb dX4_plain_11 (by decide) ?_
    exact W.iret hx hb hr (fun t ht hW => ⟨⟨_, _, _, rfl, ⟨rfl, rfl, rfl⟩, by rw [ht]; exact hM⟩, hS.F ht⟩) hS.2.2 dX4_plain_13

set_option maxHeartbeats 4000000 in
set_option maxRecDepth 100000 in
theorem c_mFind (l : Launch) {D : va_G} {aC : Nat → ClassId} {lo : Nat} {ad : Nat → Nat} {n : Nat} {th : Nat → Bool} {sz : Nat → Nat} {sg : Nat → Nat} {me : Nat → Nat} {gr : Nat → Int32} {lk : Int32} {P : Nat} {co : Nat → Option Nat} {tb : Nat → Nat} {fd : Nat} {wd : Nat → Nat} {sm : Nat → Nat} {rc : Nat → Nat} {X : Nat → Option va_E} (k : Nat) {hc : Nat} {hn hs : Nat → Nat} (hk1 : 1 ≤ k) (hk2 : k ≤ 1000) (hhc : hc ≤ 200) (hn1 : ∀ f, f < hc → 1 ≤ hn f ∧ hn f ≤ 200) (hs1 : ∀ f, f < hc → hs f ≤ 400) (hsel : ∀ f, f ≤ hc → scn (mfM th me gr lk) (rcI (mfM th me gr lk) (fun a => sOm th me (owM P co sz sg) a n) rc n) (pvS hs f) (pvN hn f) n = if f < hc then (hn f, hs f) else (0, 401)) (h200 : n ≤ 200) (hme : ∀ k, me k ≤ 200) (hP : P ≤ 20) (hsz : ∀ k, sz k ≤ 20) (hco : ∀ k c, co k = some c → c ≤ 1000) (hsg : ∀ a k, k < sz a → sg (20 * a + k) ≤ 127) : Met l yX4_find (wsO yX4_find cX4_find 10 (some .int)) ({ frames := 2, cells := 0, slots := 0, locals := 50 } : Room) (mPc D vwCl (tyA aC) lo ad (ctM aC ad n th sz sg me gr lk P co tb fd wd sm rc X) [.ref (ad 1000), .int (nI k)]) (mQ1 D vwCl lo (fun v ad1 ct1 => v = .int (nI (min hc k)) ∧ ad1 = ad ∧ ∃ tb1, ct1 = ctM aC ad n th sz sg me gr lk P co tb1 (min hc k) (wdI hn wd (min hc k)) (wdI hs sm (min hc k)) (rcI (mfM th me gr lk) (fun a => sOm th me (owM P co sz sg) a n) rc n) X)) 0 0 (fun q => lo ≤ q) := by
  refine Met.ofW (cc := cX4_find) (maxL := 10) (ret := (some .int)) (by decide) rfl ?_
  intro pr en s0 mm args below meth cc0 s₁ B hml hv
  obtain ⟨rfl, hlo, hM, hKK⟩ := hv
  have hK := hKK.1
  have hr := B.returns
  have hts := atoms_spec (ws := (wsO yX4_find cX4_find 10 (some .int))) B.pre
  have F : CallFix pr mm cc0 cX4_find 10 s0 (([.ref (ad 1000), .int (nI k)] : List Value).toArray) (wsO yX4_find cX4_find 10 (some .int)) RX4 := ⟨B.exec, B.bytes, hml, findClass_of_methodNamed B.named, hts⟩
  have hx := F.1
  have hb := F.2.1
  have hlocks := B.notSynchronized
  have hS : va_S (fun q => lo ≤ q) s0.heap s0.heap [] := va_S.rf
  have hl := lv_entry ([.ref (ad 1000), .int (nI k)]) (n := 10) (Nat.le_of_ble_eq_true rfl)
  rw [lg_entry_eq]
  generalize (lg_sl ([.ref (ad 1000), .int (nI k)]) ++ List.replicate (10 - (lg_sl ([.ref (ad 1000), .int (nI k)])).length) Slot.unset).toArray = ls at hl ⊢
  have hl : lv_has ls 10 [(0, .ref (ad 1000)), (1, .int (nI k))] := hl
  have loop_66 : ∀ (fu : Nat) (f b : Nat) (tb : Nat → Nat), (f ≤ hc) → (f ≤ k) → ((b = 0 ∧ f = hc) ∨ b = 1) → 2 * (hc - f) + b + 1 ≤ fu → ∀ (H : Heap) (locs : List Loc) (ls : Array Slot), mw D vwCl lo ad (ctM aC ad n th sz sg me gr lk P co tb f (wdI hn wd f) (wdI hs sm f) (rcI (mfM th me gr lk) (fun a => sOm th me (owM P co sz sg) a n) rc n) X) H → va_S (fun q => lo ≤ q) s0.heap H locs → lv_has ls 10 [(0, .ref (ad 1000)), (1, .int (nI k)), (2, .int (nI (pvN hn f))), (3, .int (cV (pvS hs f))), (4, .int (nI b))] → W pr l en (headSpec (wsO yX4_find cX4_find 10 (some .int)) ({ frames := 2, cells := 0, slots := 0, locals := 50 } : Room)).room s0 mm (([.ref (ad 1000), .int (nI k)] : List Value).toArray) below meth cc0 H locs 0 0 (MQ below (mQ1 D vwCl lo (fun v ad1 ct1 => v = .int (nI (min hc k)) ∧ ad1 = ad ∧ ∃ tb1, ct1 = ctM aC ad n th sz sg me gr lk P co tb1 (min hc k) (wdI hn wd (min hc k)) (wdI hs sm (min hc k)) (rcI (mfM th me gr lk) (fun a => sOm th me (owM P co sz sg) a n) rc n) X)) (([.ref (ad 1000), .int (nI k)] : List Value).toArray) s0 0 0 (fun q => lo ≤ q)) (F0 mm 66 ls []) := by
    intro fu
    induction fu with
    | zero =>
      intro f b tb hf hfk hb01 hfu H locs ls hM hS hl
      exact absurd hfu (by omega)
    | succ fu ih_66 =>
      intro f b tb hf hfk hb01 hfu H locs ls hM hS hl
      have hpv : ∀ x, pvS hs f = some x → x < 2 ^ 31 := fun x hx9 => by
        cases f with
        | zero => cases hx9
        | succ g => cases hx9; have := hs1 g (by omega); omega
      have hpn : pvN hn f ≤ 200 := by
        cases f with
        | zero => exact Nat.zero_le _
        | succ g => exact (hn1 g (by omega)).2
      have hsel9 := hsel f hf
      have loop_90 : ∀ (fu : Nat) (i : Nat), (i ≤ n) → (f < k) → (b = 1) → n + 1 - i ≤ fu → ∀ (H : Heap) (locs : List Loc) (ls : Array Slot), mw D vwCl lo ad (ctM aC ad n th sz sg me gr lk P co tb f (wdI hn wd f) (wdI hs sm f) (rcI (mfM th me gr lk) (fun a => sOm th me (owM P co sz sg) a n) rc n) X) H → va_S (fun q => lo ≤ q) s0.heap H locs → lv_has ls 10 [(0, .ref (ad 1000)), (1, .int (nI k)), (2, .int (nI (pvN hn f))), (3, .int (cV (pvS hs f))), (5, .int (nI ((scn (mfM th me gr lk) (rcI (mfM th me gr lk) (fun a => sOm th me (owM P co sz sg) a n) rc n) (pvS hs f) (pvN hn f) i).1))), (6, .int (nI ((scn (mfM th me gr lk) (rcI (mfM th me gr lk) (fun a => sOm th me (owM P co sz sg) a n) rc n) (pvS hs f) (pvN hn f) i).2))), (7, .int (nI (i + 1)))] → W pr l en (headSpec (wsO yX4_find cX4_find 10 (some .int)) ({ frames := 2, cells := 0, slots := 0, locals := 50 } : Room)).room s0 mm (([.ref (ad 1000), .int (nI k)] : List Value).toArray) below meth cc0 H locs 0 0 (MQ below (mQ1 D vwCl lo (fun v ad1 ct1 => v = .int (nI (min hc k)) ∧ ad1 = ad ∧ ∃ tb1, ct1 = ctM aC ad n th sz sg me gr lk P co tb1 (min hc k) (wdI hn wd (min hc k)) (wdI hs sm (min hc k)) (rcI (mfM th me gr lk) (fun a => sOm th me (owM P co sz sg) a n) rc n) X)) (([.ref (ad 1000), .int (nI k)] : List Value).toArray) s0 0 0 (fun q => lo ≤ q)) (F0 mm 90 ls []) := by
        intro fu
        induction fu with
        | zero =>
          intro i hi hfk2 hb1 hfu H locs ls hM hS hl
          exact absurd hfu (by omega)
        | succ fu ih_90 =>
          intro i hi hfk2 hb1 hfu H locs ls hM hS hl
          have hsl := scn_le (q := mfM th me gr lk) (R := rcI (mfM th me gr lk) (fun a => sOm th me (owM P co sz sg) a n) rc n) (ls := pvS hs f) (la := pvN hn f) i
          refine lv_iload hx hb dX4_find_90 (lv_at hl 6 rfl) ?_
          refine lv_aload_n hx hb dX4_find_92 rfl (lv_at hl 0 rfl) ?_
          refine m_get F (ci := 4) (v := .int (nI n)) (fun w h => tb_O (inX4 w h)) hK hM ctM_o rfl 0 (by decide) (tb_O lkX4_51) rfl dX4_find_93 ?_
          refine m_icmp_gt F (a := (i + 1)) (b := n) (by omega) (by omega) (tgt := 168) dX4_find_96 (by decide) (fun c_96 => ?_) (fun c_96 => ?_)
          · skip
            have hin9 : n = i := by omega
            subst hin9
            refine lv_iload hx hb dX4_find_168 (lv_at hl 4 rfl) ?_
            refine lv_if_le (tgt := 177) hx hb dX4_find_170 (by decide) (fun c_170 => ?_) (fun c_170 => ?_)
            · skip
              have hz : (scn (mfM th me gr lk) (rcI (mfM th me gr lk) (fun a => sOm th me (owM P co sz sg) a n) rc n) (pvS hs f) (pvN hn f) n).1 = 0 := by rcases Nat.eq_zero_or_pos (scn (mfM th me gr lk) (rcI (mfM th me gr lk) (fun a => sOm th me (owM P co sz sg) a n) rc n) (pvS hs f) (pvN hn f) n).1 with q | q; exact q; exact absurd c_170 (nI_nle q (by omega))
              have hfc : f = hc := by
                rcases Nat.lt_or_ge f hc with q | q
                · rw [hsel9, if_pos q] at hz; have := (hn1 f q).1; exact absurd (show hn f = 0 from hz) (by omega)
                · omega
              refine lv_iconst (v := (nI 0)) hx hb dX4_find_177 (by decide) ?_
              refine lv_istore (lv' := [(4, .int (nI 0)), (0, .ref (ad 1000)), (1, .int (nI k)), (2, .int (nI (pvN hn f))), (3, .int (cV (pvS hs f))), (5, .int (nI ((scn (mfM th me gr lk) (rcI (mfM th me gr lk) (fun a => sOm th me (owM P co sz sg) a n) rc n) (pvS hs f) (pvN hn f) n).1))), (6, .int (nI ((scn (mfM th me gr lk) (rcI (mfM th me gr lk) (fun a => sOm th me (owM P co sz sg) a n) rc n) (pvS hs f) (pvN hn f) n).2))), (7, .int (nI (n + 1)))]) hx hb dX4_find_178 hl (by decide) rfl (fun ls hl => ?_)
              refine lv_iload hx hb dX4_find_180 (lv_at hl 0 rfl) ?_
              refine lv_if_eq (tgt := 223) hx hb dX4_find_182 (by decide) (fun c_182 => ?_) (fun c_182 => ?_)
              · skip
                refine lv_goto (tgt := 66) hx hb dX4_find_223 (by decide) ?_
                exact ih_66 f 0 tb (by omega) (by omega) (Or.inl ⟨rfl, hfc⟩) (by omega) _ _ _ hM hS (lv_sub hl [1, 2, 3, 4, 0] rfl)
              · skip
                exact absurd nI_0 c_182
            · skip
              have hz : ¬ (scn (mfM th me gr lk) (rcI (mfM th me gr lk) (fun a => sOm th me (owM P co sz sg) a n) rc n) (pvS hs f) (pvN hn f) n).1 = 0 := fun q => c_170 (by rw [q, nI_0]; decide)
              have hfc : f < hc := by
                rcases Nat.lt_or_ge f hc with q | q
                · exact q
                · exact absurd (by rw [hsel9, if_neg (by omega)]) hz
              have hb5 : (scn (mfM th me gr lk) (rcI (mfM th me gr lk) (fun a => sOm th me (owM P co sz sg) a n) rc n) (pvS hs f) (pvN hn f) n).1 = hn f := by rw [hsel9, if_pos hfc]
              have hb6 : (scn (mfM th me gr lk) (rcI (mfM th me gr lk) (fun a => sOm th me (owM P co sz sg) a n) rc n) (pvS hs f) (pvN hn f) n).2 = hs f := by rw [hsel9, if_pos hfc]
              refine lv_iconst (v := (nI 1)) hx hb dX4_find_173 (by decide) ?_
              refine lv_goto (tgt := 178) hx hb dX4_find_174 (by decide) ?_
              refine lv_istore (lv' := [(4, .int (nI 1)), (0, .ref (ad 1000)), (1, .int (nI k)), (2, .int (nI (pvN hn f))), (3, .int (cV (pvS hs f))), (5, .int (nI ((scn (mfM th me gr lk) (rcI (mfM th me gr lk) (fun a => sOm th me (owM P co sz sg) a n) rc n) (pvS hs f) (pvN hn f) n).1))), (6, .int (nI ((scn (mfM th me gr lk) (rcI (mfM th me gr lk) (fun a => sOm th me (owM P co sz sg) a n) rc n) (pvS hs f) (pvN hn f) n).2))), (7, .int (nI (n + 1)))]) hx hb dX4_find_178 hl (by decide) rfl (fun ls hl => ?_)
              refine lv_iload hx hb dX4_find_180 (lv_at hl 0 rfl) ?_
              refine lv_if_eq (tgt := 223) hx hb dX4_find_182 (by decide) (fun c_182 => ?_) (fun c_182 => ?_)
              · skip
                exact absurd c_182 (by decide)
              · skip
                refine lv_aload_n hx hb dX4_find_185 rfl (lv_at hl 1 rfl) ?_
                refine m_get F (ci := 4) (v := .ref (ad 1008)) (fun w h => tb_O (inX4 w h)) hK hM ctM_o rfl 11 (by decide) (tb_O lkX4_36) rfl dX4_find_186 ?_
                refine lv_aload_n hx hb dX4_find_189 rfl (lv_at hl 1 rfl) ?_
                refine m_get F (ci := 4) (v := .int (nI f)) (fun w h => tb_O (inX4 w h)) hK hM ctM_o rfl 10 (by decide) (tb_O lkX4_71) rfl dX4_find_190 ?_
                refine lv_iload hx hb dX4_find_193 (lv_at hl 5 rfl) ?_
                refine m_iast F hK hM hS 0 rfl (j := f) (x := (nI ((scn (mfM th me gr lk) (rcI (mfM th me gr lk) (fun a => sOm th me (owM P co sz sg) a n) rc n) (pvS hs f) (pvN hn f) n).1))) ctM_awd (by omega) (by decide) dX4_find_195 (fun H locs hM hS => ?_)
                have hM : mw D vwCl lo ad (ctM aC ad n th sz sg me gr lk P co tb f (wdI hn wd (f + 1)) (wdI hs sm f) (rcI (mfM th me gr lk) (fun a => sOm th me (owM P co sz sg) a n) rc n) X) H := by rw [upd_nI, wdI_s hb5, ctM_wd] at hM; exact hM
                refine lv_aload_n hx hb dX4_find_196 rfl (lv_at hl 1 rfl) ?_
                refine m_get F (ci := 4) (v := .ref (ad 1009)) (fun w h => tb_O (inX4 w h)) hK hM ctM_o rfl 12 (by decide) (tb_O lkX4_39) rfl dX4_find_197 ?_
                refine lv_aload_n hx hb dX4_find_200 rfl (lv_at hl 1 rfl) ?_
                refine m_get F (ci := 4) (v := .int (nI f)) (fun w h => tb_O (inX4 w h)) hK hM ctM_o rfl 10 (by decide) (tb_O lkX4_71) rfl dX4_find_201 ?_
                refine lv_iload hx hb dX4_find_204 (lv_at hl 6 rfl) ?_
                refine m_iast F hK hM hS 0 rfl (j := f) (x := (nI ((scn (mfM th me gr lk) (rcI (mfM th me gr lk) (fun a => sOm th me (owM P co sz sg) a n) rc n) (pvS hs f) (pvN hn f) n).2))) ctM_asm (by omega) (by decide) dX4_find_206 (fun H locs hM hS => ?_)
                have hM : mw D vwCl lo ad (ctM aC ad n th sz sg me gr lk P co tb f (wdI hn wd (f + 1)) (wdI hs sm (f + 1)) (rcI (mfM th me gr lk) (fun a => sOm th me (owM P co sz sg) a n) rc n) X) H := by rw [upd_nI, wdI_s hb6, ctM_sm] at hM; exact hM
                refine lv_aload_n hx hb dX4_find_207 rfl (lv_at hl 1 rfl) ?_
                refine lv_dup hx hb dX4_find_208 rfl ?_
                refine m_get F (ci := 4) (v := .int (nI f)) (fun w h => tb_O (inX4 w h)) hK hM ctM_o rfl 10 (by decide) (tb_O lkX4_71) rfl dX4_find_209 ?_
                refine lv_iconst (v := (nI 1)) hx hb dX4_find_212 (by decide) ?_
                refine lv_iadd hx hb dX4_find_213 ?_
                refine m_top (nI_add f 1) ?_
                refine m_put F (ci := 4) (v := .int (nI (f + 1))) (fun w h => tb_O (inX4 w h)) mc_X4 hK hM hS ctM_o 10 (by decide) (tb_O lkX4_71) rfl rfl rfl (Nat.le_of_ble_eq_true rfl) dX4_find_214 (fun H locs hM hS => ?_)
                have hM : mw D vwCl lo ad (va_up (ctM aC ad n th sz sg me gr lk P co tb f (wdI hn wd (f + 1)) (wdI hs sm (f + 1)) (rcI (mfM th me gr lk) (fun a => sOm th me (owM P co sz sg) a n) rc n) X) 1000 (some (.inr (4, [.int (nI n), .ref (ad 1001), .ref (ad 1002), .ref (ad 1003), .ref (ad 1004), .ref (ad 1005), .int lk, .int (nI P), .ref (ad 1006), .ref (ad 1007), .int (nI (f + 1)), .ref (ad 1008), .ref (ad 1009), .ref (ad 1010)])))) H := hM
                have hM : mw D vwCl lo ad (ctM aC ad n th sz sg me gr lk P co tb (f + 1) (wdI hn wd (f + 1)) (wdI hs sm (f + 1)) (rcI (mfM th me gr lk) (fun a => sOm th me (owM P co sz sg) a n) rc n) X) H := by rw [ctM_fd] at hM; exact hM
                refine lv_iload hx hb dX4_find_217 (lv_at hl 5 rfl) ?_
                refine lv_istore_n (lv' := [(2, .int (nI ((scn (mfM th me gr lk) (rcI (mfM th me gr lk) (fun a => sOm th me (owM P co sz sg) a n) rc n) (pvS hs f) (pvN hn f) n).1))), (4, .int (nI 1)), (0, .ref (ad 1000)), (1, .int (nI k)), (3, .int (cV (pvS hs f))), (5, .int (nI ((scn (mfM th me gr lk) (rcI (mfM th me gr lk) (fun a => sOm th me (owM P co sz sg) a n) rc n) (pvS hs f) (pvN hn f) n).1))), (6, .int (nI ((scn (mfM th me gr lk) (rcI (mfM th me gr lk) (fun a => sOm th me (owM P co sz sg) a n) rc n) (pvS hs f) (pvN hn f) n).2))), (7, .int (nI (n + 1)))]) hx hb dX4_find_219 rfl hl (by decide) rfl (fun ls hl => ?_)
                refine lv_iload hx hb dX4_find_220 (lv_at hl 6 rfl) ?_
                refine lv_istore_n (lv' := [(3, .int (nI ((scn (mfM th me gr lk) (rcI (mfM th me gr lk) (fun a => sOm th me (owM P co sz sg) a n) rc n) (pvS hs f) (pvN hn f) n).2))), (2, .int (nI ((scn (mfM th me gr lk) (rcI (mfM th me gr lk) (fun a => sOm th me (owM P co sz sg) a n) rc n) (pvS hs f) (pvN hn f) n).1))), (4, .int (nI 1)), (0, .ref (ad 1000)), (1, .int (nI k)), (5, .int (nI ((scn (mfM th me gr lk) (rcI (mfM th me gr lk) (fun a => sOm th me (owM P co sz sg) a n) rc n) (pvS hs f) (pvN hn f) n).1))), (6, .int (nI ((scn (mfM th me gr lk) (rcI (mfM th me gr lk) (fun a => sOm th me (owM P co sz sg) a n) rc n) (pvS hs f) (pvN hn f) n).2))), (7, .int (nI (n + 1)))]) hx hb dX4_find_222 rfl hl (by decide) rfl (fun ls hl => ?_)
                refine lv_goto (tgt := 66) hx hb dX4_find_223 (by decide) ?_
                rw [hb5, hb6] at hl
                exact ih_66 (f + 1) 1 tb (by omega) (by omega) (Or.inr rfl) (by omega) _ _ _ hM hS (lv_sub hl [3, 4, 1, 0, 2] rfl)
          · skip
            refine lv_aload_n hx hb dX4_find_99 rfl (lv_at hl 0 rfl) ?_
            refine lv_iload hx hb dX4_find_100 (lv_at hl 6 rfl) ?_
            refine m_d1 (v := .int (bI (mfM th me gr lk (i + 1)))) (ct1 := ctM aC ad n th sz sg me gr lk P co tb f (wdI hn wd f) (wdI hs sm f) (rcI (mfM th me gr lk) (fun a => sOm th me (owM P co sz sg) a n) rc n) X) (va_runV (As := [.int (nI (i + 1))]) (rest := []) F (c_mMbf l (i + 1) (by omega) (by omega) h200 hme) (cwV 1 F.2.2.2.2 (go_V (fun _ h => tb_O h) mlX4_74 imX4_mayBeFound seX4_mayBeFound iniX4 cdX4_mayBeFound) rfl rfl rfl (by decide +kernel) ⟨Nat.le_of_ble_eq_true rfl, Nat.le_of_ble_eq_true rfl⟩) (mPreV hKK hM (Nat.le_trans hlo hS.1) ctM_o rfl) rfl rfl hl.1 rfl (lv_room (Nat.le_of_ble_eq_true rfl)) dX4_find_102 ⟨Nat.le_of_ble_eq_true rfl, Nat.le_of_ble_eq_true rfl⟩) hS (fun H locs hM hS => ?_)
            refine lv_if_eq (tgt := 162) hx hb dX4_find_105 (by decide) (fun c_105 => ?_) (fun c_105 => ?_)
            · skip
              refine lv_iinc (v := (nI (i + 1 + 1))) (lv' := [(7, .int (nI (i + 1 + 1))), (0, .ref (ad 1000)), (1, .int (nI k)), (2, .int (nI (pvN hn f))), (3, .int (cV (pvS hs f))), (5, .int (nI ((scn (mfM th me gr lk) (rcI (mfM th me gr lk) (fun a => sOm th me (owM P co sz sg) a n) rc n) (pvS hs f) (pvN hn f) i).1))), (6, .int (nI ((scn (mfM th me gr lk) (rcI (mfM th me gr lk) (fun a => sOm th me (owM P co sz sg) a n) rc n) (pvS hs f) (pvN hn f) i).2)))]) hx hb dX4_find_162 hl (k := 6) rfl (nI_1 (i + 1)) (by decide) rfl (fun ls hl => ?_)
              refine lv_goto (tgt := 90) hx hb dX4_find_165 (by decide) ?_
              have hsc : scn (mfM th me gr lk) (rcI (mfM th me gr lk) (fun a => sOm th me (owM P co sz sg) a n) rc n) (pvS hs f) (pvN hn f) (i + 1) = scn (mfM th me gr lk) (rcI (mfM th me gr lk) (fun a => sOm th me (owM P co sz sg) a n) rc n) (pvS hs f) (pvN hn f) i := scn_n (by first | exact Or.inl (bI_eq c_105) | exact Or.inr (Or.inr c_151) | exact Or.inr (Or.inl (bh_3 (by omega) hpv c_120 (Or.inr c_132))) | exact Or.inr (Or.inl (bh_3 (by omega) hpv c_120 (Or.inl c_126))))
              have hl : lv_has ls 10 [(7, .int (nI (i + 1 + 1))), (0, .ref (ad 1000)), (1, .int (nI k)), (2, .int (nI (pvN hn f))), (3, .int (cV (pvS hs f))), (5, .int (nI (scn (mfM th me gr lk) (rcI (mfM th me gr lk) (fun a => sOm th me (owM P co sz sg) a n) rc n) (pvS hs f) (pvN hn f) (i + 1)).1)), (6, .int (nI (scn (mfM th me gr lk) (rcI (mfM th me gr lk) (fun a => sOm th me (owM P co sz sg) a n) rc n) (pvS hs f) (pvN hn f) (i + 1)).2))] := by rw [hsc]; exact hl
              exact ih_90 (i + 1) (by omega) hfk2 hb1 (by omega) _ _ _ hM hS (lv_sub hl [1, 2, 3, 4, 5, 6, 0] rfl)
            · skip
              refine lv_aload_n hx hb dX4_find_108 rfl (lv_at hl 0 rfl) ?_
              refine m_get F (ci := 4) (v := .ref (ad 1010)) (fun w h => tb_O (inX4 w h)) hK hM ctM_o rfl 13 (by decide) (tb_O lkX4_42) rfl dX4_find_109 ?_
              refine lv_iload hx hb dX4_find_112 (lv_at hl 6 rfl) ?_
              refine m_iald F hK hM 0 rfl (j := (i + 1)) ctM_arc (by omega) (by decide) dX4_find_114 ?_
              refine m_top (y := (nI ((rcI (mfM th me gr lk) (fun a => sOm th me (owM P co sz sg) a n) rc n) (i + 1)))) rfl ?_
              have hRi : (rcI (mfM th me gr lk) (fun a => sOm th me (owM P co sz sg) a n) rc n) (i + 1) ≤ 1000000 := rcI_le (by omega) (by omega) (Nat.le_trans (Nat.le_trans (sOm_le n) (owM_le hP (hsz (i + 1)))) (by decide))
              refine lv_istore (lv' := [(8, .int (nI ((rcI (mfM th me gr lk) (fun a => sOm th me (owM P co sz sg) a n) rc n) (i + 1)))), (0, .ref (ad 1000)), (1, .int (nI k)), (2, .int (nI (pvN hn f))), (3, .int (cV (pvS hs f))), (5, .int (nI ((scn (mfM th me gr lk) (rcI (mfM th me gr lk) (fun a => sOm th me (owM P co sz sg) a n) rc n) (pvS hs f) (pvN hn f) i).1))), (6, .int (nI ((scn (mfM th me gr lk) (rcI (mfM th me gr lk) (fun a => sOm th me (owM P co sz sg) a n) rc n) (pvS hs f) (pvN hn f) i).2))), (7, .int (nI (i + 1)))]) hx hb dX4_find_115 hl (by decide) rfl (fun ls hl => ?_)
              refine lv_iload hx hb dX4_find_117 (lv_at hl 0 rfl) ?_
              refine lv_iload_n hx hb dX4_find_119 rfl (lv_at hl 4 rfl) ?_
              refine lv_icmp_gt (tgt := 135) hx hb dX4_find_120 (by decide) (fun c_120 => ?_) (fun c_120 => ?_)
              · skip
                refine lv_iconst (v := (nI 1)) hx hb dX4_find_135 (by decide) ?_
                refine lv_goto (tgt := 140) hx hb dX4_find_136 (by decide) ?_
                refine lv_istore (lv' := [(9, .int (nI 1)), (8, .int (nI ((rcI (mfM th me gr lk) (fun a => sOm th me (owM P co sz sg) a n) rc n) (i + 1)))), (0, .ref (ad 1000)), (1, .int (nI k)), (2, .int (nI (pvN hn f))), (3, .int (cV (pvS hs f))), (5, .int (nI ((scn (mfM th me gr lk) (rcI (mfM th me gr lk) (fun a => sOm th me (owM P co sz sg) a n) rc n) (pvS hs f) (pvN hn f) i).1))), (6, .int (nI ((scn (mfM th me gr lk) (rcI (mfM th me gr lk) (fun a => sOm th me (owM P co sz sg) a n) rc n) (pvS hs f) (pvN hn f) i).2))), (7, .int (nI (i + 1)))]) hx hb dX4_find_140 hl (by decide) rfl (fun ls hl => ?_)
                refine lv_iload hx hb dX4_find_142 (lv_at hl 0 rfl) ?_
                refine lv_if_eq (tgt := 162) hx hb dX4_find_144 (by decide) (fun c_144 => ?_) (fun c_144 => ?_)
                · skip
                  exact absurd c_144 (by decide)
                · skip
                  refine lv_iload hx hb dX4_find_147 (lv_at hl 1 rfl) ?_
                  refine lv_iload hx hb dX4_find_149 (lv_at hl 7 rfl) ?_
                  refine m_icmp_ge F (a := ((rcI (mfM th me gr lk) (fun a => sOm th me (owM P co sz sg) a n) rc n) (i + 1))) (b := ((scn (mfM th me gr lk) (rcI (mfM th me gr lk) (fun a => sOm th me (owM P co sz sg) a n) rc n) (pvS hs f) (pvN hn f) i).2)) (by omega) (by omega) (tgt := 162) dX4_find_151 (by decide) (fun c_151 => ?_) (fun c_151 => ?_)
                  · skip
                    refine lv_iinc (v := (nI (i + 1 + 1))) (lv' := [(7, .int (nI (i + 1 + 1))), (9, .int (nI 1)), (8, .int (nI ((rcI (mfM th me gr lk) (fun a => sOm th me (owM P co sz sg) a n) rc n) (i + 1)))), (0, .ref (ad 1000)), (1, .int (nI k)), (2, .int (nI (pvN hn f))), (3, .int (cV (pvS hs f))), (5, .int (nI ((scn (mfM th me gr lk) (rcI (mfM th me gr lk) (fun a => sOm th me (owM P co sz sg) a n) rc n) (pvS hs f) (pvN hn f) i).1))), (6, .int (nI ((scn (mfM th me gr lk) (rcI (mfM th me gr lk) (fun a => sOm th me (owM P co sz sg) a n) rc n) (pvS hs f) (pvN hn f) i).2)))]) hx hb dX4_find_162 hl (k := 8) rfl (nI_1 (i + 1)) (by decide) rfl (fun ls hl => ?_)
                    refine lv_goto (tgt := 90) hx hb dX4_find_165 (by decide) ?_
                    have hsc : scn (mfM th me gr lk) (rcI (mfM th me gr lk) (fun a => sOm th me (owM P co sz sg) a n) rc n) (pvS hs f) (pvN hn f) (i + 1) = scn (mfM th me gr lk) (rcI (mfM th me gr lk) (fun a => sOm th me (owM P co sz sg) a n) rc n) (pvS hs f) (pvN hn f) i := scn_n (by first | exact Or.inl (bI_eq c_105) | exact Or.inr (Or.inr c_151) | exact Or.inr (Or.inl (bh_3 (by omega) hpv c_120 (Or.inr c_132))) | exact Or.inr (Or.inl (bh_3 (by omega) hpv c_120 (Or.inl c_126))))
                    have hl : lv_has ls 10 [(7, .int (nI (i + 1 + 1))), (9, .int (nI 1)), (8, .int (nI ((rcI (mfM th me gr lk) (fun a => sOm th me (owM P co sz sg) a n) rc n) (i + 1)))), (0, .ref (ad 1000)), (1, .int (nI k)), (2, .int (nI (pvN hn f))), (3, .int (cV (pvS hs f))), (5, .int (nI (scn (mfM th me gr lk) (rcI (mfM th me gr lk) (fun a => sOm th me (owM P co sz sg) a n) rc n) (pvS hs f) (pvN hn f) (i + 1)).1)), (6, .int (nI (scn (mfM th me gr lk) (rcI (mfM th me gr lk) (fun a => sOm th me (owM P co sz sg) a n) rc n) (pvS hs f) (pvN hn f) (i + 1)).2))] := by rw [hsc]; exact hl
                    exact ih_90 (i + 1) (by omega) hfk2 hb1 (by omega) _ _ _ hM hS (lv_sub hl [3, 4, 5, 6, 7, 8, 0] rfl)
                  · skip
                    refine lv_iload hx hb dX4_find_154 (lv_at hl 8 rfl) ?_
                    refine lv_istore (lv' := [(5, .int (nI (i + 1))), (9, .int (nI 1)), (8, .int (nI ((rcI (mfM th me gr lk) (fun a => sOm th me (owM P co sz sg) a n) rc n) (i + 1)))), (0, .ref (ad 1000)), (1, .int (nI k)), (2, .int (nI (pvN hn f))), (3, .int (cV (pvS hs f))), (6, .int (nI ((scn (mfM th me gr lk) (rcI (mfM th me gr lk) (fun a => sOm th me (owM P co sz sg) a n) rc n) (pvS hs f) (pvN hn f) i).2))), (7, .int (nI (i + 1)))]) hx hb dX4_find_156 hl (by decide) rfl (fun ls hl => ?_)
                    refine lv_iload hx hb dX4_find_158 (lv_at hl 2 rfl) ?_
                    refine lv_istore (lv' := [(6, .int (nI ((rcI (mfM th me gr lk) (fun a => sOm th me (owM P co sz sg) a n) rc n) (i + 1)))), (5, .int (nI (i + 1))), (9, .int (nI 1)), (8, .int (nI ((rcI (mfM th me gr lk) (fun a => sOm th me (owM P co sz sg) a n) rc n) (i + 1)))), (0, .ref (ad 1000)), (1, .int (nI k)), (2, .int (nI (pvN hn f))), (3, .int (cV (pvS hs f))), (7, .int (nI (i + 1)))]) hx hb dX4_find_160 hl (by decide) rfl (fun ls hl => ?_)
                    refine lv_iinc (v := (nI (i + 1 + 1))) (lv' := [(7, .int (nI (i + 1 + 1))), (6, .int (nI ((rcI (mfM th me gr lk) (fun a => sOm th me (owM P co sz sg) a n) rc n) (i + 1)))), (5, .int (nI (i + 1))), (9, .int (nI 1)), (8, .int (nI ((rcI (mfM th me gr lk) (fun a => sOm th me (owM P co sz sg) a n) rc n) (i + 1)))), (0, .ref (ad 1000)), (1, .int (nI k)), (2, .int (nI (pvN hn f))), (3, .int (cV (pvS hs f)))]) hx hb dX4_find_162 hl (k := 8) rfl (nI_1 (i + 1)) (by decide) rfl (fun ls hl => ?_)
                    refine lv_goto (tgt := 90) hx hb dX4_find_165 (by decide) ?_
                    have hsc : scn (mfM th me gr lk) (rcI (mfM th me gr lk) (fun a => sOm th me (owM P co sz sg) a n) rc n) (pvS hs f) (pvN hn f) (i + 1) = (i + 1, (rcI (mfM th me gr lk) (fun a => sOm th me (owM P co sz sg) a n) rc n) (i + 1)) := scn_y (bI_ne c_105) (by first | exact bh_1 (by omega) hpv c_120 | exact bh_2 (by omega) hpv c_126 c_132) c_151
                    have hl : lv_has ls 10 [(7, .int (nI (i + 1 + 1))), (6, .int (nI (scn (mfM th me gr lk) (rcI (mfM th me gr lk) (fun a => sOm th me (owM P co sz sg) a n) rc n) (pvS hs f) (pvN hn f) (i + 1)).2)), (5, .int (nI (scn (mfM th me gr lk) (rcI (mfM th me gr lk) (fun a => sOm th me (owM P co sz sg) a n) rc n) (pvS hs f) (pvN hn f) (i + 1)).1)), (9, .int (nI 1)), (8, .int (nI ((rcI (mfM th me gr lk) (fun a => sOm th me (owM P co sz sg) a n) rc n) (i + 1)))), (0, .ref (ad 1000)), (1, .int (nI k)), (2, .int (nI (pvN hn f))), (3, .int (cV (pvS hs f)))] := by rw [hsc]; exact hl
                    exact ih_90 (i + 1) (by omega) hfk2 hb1 (by omega) _ _ _ hM hS (lv_sub hl [5, 6, 7, 8, 2, 1, 0] rfl)
              · skip
                refine lv_iload hx hb dX4_find_123 (lv_at hl 0 rfl) ?_
                refine lv_iload_n hx hb dX4_find_125 rfl (lv_at hl 4 rfl) ?_
                refine lv_icmp_ne (tgt := 139) hx hb dX4_find_126 (by decide) (fun c_126 => ?_) (fun c_126 => ?_)
                · skip
                  refine lv_iconst (v := (nI 0)) hx hb dX4_find_139 (by decide) ?_
                  refine lv_istore (lv' := [(9, .int (nI 0)), (8, .int (nI ((rcI (mfM th me gr lk) (fun a => sOm th me (owM P co sz sg) a n) rc n) (i + 1)))), (0, .ref (ad 1000)), (1, .int (nI k)), (2, .int (nI (pvN hn f))), (3, .int (cV (pvS hs f))), (5, .int (nI ((scn (mfM th me gr lk) (rcI (mfM th me gr lk) (fun a => sOm th me (owM P co sz sg) a n) rc n) (pvS hs f) (pvN hn f) i).1))), (6, .int (nI ((scn (mfM th me gr lk) (rcI (mfM th me gr lk) (fun a => sOm th me (owM P co sz sg) a n) rc n) (pvS hs f) (pvN hn f) i).2))), (7, .int (nI (i + 1)))]) hx hb dX4_find_140 hl (by decide) rfl (fun ls hl => ?_)
                  refine lv_iload hx hb dX4_find_142 (lv_at hl 0 rfl) ?_
                  refine lv_if_eq (tgt := 162) hx hb dX4_find_144 (by decide) (fun c_144 => ?_) (fun c_144 => ?_)
                  · skip
                    refine lv_iinc (v := (nI (i + 1 + 1))) (lv' := [(7, .int (nI (i + 1 + 1))), (9, .int (nI 0)), (8, .int (nI ((rcI (mfM th me gr lk) (fun a => sOm th me (owM P co sz sg) a n) rc n) (i + 1)))), (0, .ref (ad 1000)), (1, .int (nI k)), (2, .int (nI (pvN hn f))), (3, .int (cV (pvS hs f))), (5, .int (nI ((scn (mfM th me gr lk) (rcI (mfM th me gr lk) (fun a => sOm th me (owM P co sz sg) a n) rc n) (pvS hs f) (pvN hn f) i).1))), (6, .int (nI ((scn (mfM th me gr lk) (rcI (mfM th me gr lk) (fun a => sOm th me (owM P co sz sg) a n) rc n) (pvS hs f) (pvN hn f) i).2)))]) hx hb dX4_find_162 hl (k := 8) rfl (nI_1 (i + 1)) (by decide) rfl (fun ls hl => ?_)
                    refine lv_goto (tgt := 90) hx hb dX4_find_165 (by decide) ?_
                    have hsc : scn (mfM th me gr lk) (rcI (mfM th me gr lk) (fun a => sOm th me (owM P co sz sg) a n) rc n) (pvS hs f) (pvN hn f) (i + 1) = scn (mfM th me gr lk) (rcI (mfM th me gr lk) (fun a => sOm th me (owM P co sz sg) a n) rc n) (pvS hs f) (pvN hn f) i := scn_n (by first | exact Or.inl (bI_eq c_105) | exact Or.inr (Or.inr c_151) | exact Or.inr (Or.inl (bh_3 (by omega) hpv c_120 (Or.inr c_132))) | exact Or.inr (Or.inl (bh_3 (by omega) hpv c_120 (Or.inl c_126))))
                    have hl : lv_has ls 10 [(7, .int (nI (i + 1 + 1))), (9, .int (nI 0)), (8, .int (nI ((rcI (mfM th me gr lk) (fun a => sOm th me (owM P co sz sg) a n) rc n) (i + 1)))), (0, .ref (ad 1000)), (1, .int (nI k)), (2, .int (nI (pvN hn f))), (3, .int (cV (pvS hs f))), (5, .int (nI (scn (mfM th me gr lk) (rcI (mfM th me gr lk) (fun a => sOm th me (owM P co sz sg) a n) rc n) (pvS hs f) (pvN hn f) (i + 1)).1)), (6, .int (nI (scn (mfM th me gr lk) (rcI (mfM th me gr lk) (fun a => sOm th me (owM P co sz sg) a n) rc n) (pvS hs f) (pvN hn f) (i + 1)).2))] := by rw [hsc]; exact hl
                    exact ih_90 (i + 1) (by omega) hfk2 hb1 (by omega) _ _ _ hM hS (lv_sub hl [3, 4, 5, 6, 7, 8, 0] rfl)
                  · skip
                    exact absurd nI_0 c_144
                · skip
                  refine lv_iload hx hb dX4_find_129 (lv_at hl 7 rfl) ?_
                  refine lv_iload_n hx hb dX4_find_131 rfl (lv_at hl 3 rfl) ?_
                  refine m_icmp_le F (a := (i + 1)) (b := (pvN hn f)) (by omega) (by omega) (tgt := 139) dX4_find_132 (by decide) (fun c_132 => ?_) (fun c_132 => ?_)
                  · skip
                    refine lv_iconst (v := (nI 0)) hx hb dX4_find_139 (by decide) ?_
                    refine lv_istore (lv' := [(9, .int (nI 0)), (8, .int (nI ((rcI (mfM th me gr lk) (fun a => sOm th me (owM P co sz sg) a n) rc n) (i + 1)))), (0, .ref (ad 1000)), (1, .int (nI k)), (2, .int (nI (pvN hn f))), (3, .int (cV (pvS hs f))), (5, .int (nI ((scn (mfM th me gr lk) (rcI (mfM th me gr lk) (fun a => sOm th me (owM P co sz sg) a n) rc n) (pvS hs f) (pvN hn f) i).1))), (6, .int (nI ((scn (mfM th me gr lk) (rcI (mfM th me gr lk) (fun a => sOm th me (owM P co sz sg) a n) rc n) (pvS hs f) (pvN hn f) i).2))), (7, .int (nI (i + 1)))]) hx hb dX4_find_140 hl (by decide) rfl (fun ls hl => ?_)
                    refine lv_iload hx hb dX4_find_142 (lv_at hl 0 rfl) ?_
                    refine lv_if_eq (tgt := 162) hx hb dX4_find_144 (by decide) (fun c_144 => ?_) (fun c_144 => ?_)
                    · skip
                      refine lv_iinc (v := (nI (i + 1 + 1))) (lv' := [(7, .int (nI (i + 1 + 1))), (9, .int (nI 0)), (8, .int (nI ((rcI (mfM th me gr lk) (fun a => sOm th me (owM P co sz sg) a n) rc n) (i + 1)))), (0, .ref (ad 1000)), (1, .int (nI k)), (2, .int (nI (pvN hn f))), (3, .int (cV (pvS hs f))), (5, .int (nI ((scn (mfM th me gr lk) (rcI (mfM th me gr lk) (fun a => sOm th me (owM P co sz sg) a n) rc n) (pvS hs f) (pvN hn f) i).1))), (6, .int (nI ((scn (mfM th me gr lk) (rcI (mfM th me gr lk) (fun a => sOm th me (owM P co sz sg) a n) rc n) (pvS hs f) (pvN hn f) i).2)))]) hx hb dX4_find_162 hl (k := 8) rfl (nI_1 (i + 1)) (by decide) rfl (fun ls hl => ?_)
                      refine lv_goto (tgt := 90) hx hb dX4_find_165 (by decide) ?_
                      have hsc : scn (mfM th me gr lk) (rcI (mfM th me gr lk) (fun a => sOm th me (owM P co sz sg) a n) rc n) (pvS hs f) (pvN hn f) (i + 1) = scn (mfM th me gr lk) (rcI (mfM th me gr lk) (fun a => sOm th me (owM P co sz sg) a n) rc n) (pvS hs f) (pvN hn f) i := scn_n (by first | exact Or.inl (bI_eq c_105) | exact Or.inr (Or.inr c_151) | exact Or.inr (Or.inl (bh_3 (by omega) hpv c_120 (Or.inr c_132))) | exact Or.inr (Or.inl (bh_3 (by omega) hpv c_120 (Or.inl c_126))))
                      have hl : lv_has ls 10 [(7, .int (nI (i + 1 + 1))), (9, .int (nI 0)), (8, .int (nI ((rcI (mfM th me gr lk) (fun a => sOm th me (owM P co sz sg) a n) rc n) (i + 1)))), (0, .ref (ad 1000)), (1, .int (nI k)), (2, .int (nI (pvN hn f))), (3, .int (cV (pvS hs f))), (5, .int (nI (scn (mfM th me gr lk) (rcI (mfM th me gr lk) (fun a => sOm th me (owM P co sz sg) a n) rc n) (pvS hs f) (pvN hn f) (i + 1)).1)), (6, .int (nI (scn (mfM th me gr lk) (rcI (mfM th me gr lk) (fun a => sOm th me (owM P co sz sg) a n) rc n) (pvS hs f) (pvN hn f) (i + 1)).2))] := by rw [hsc]; exact hl
                      exact ih_90 (i + 1) (by omega) hfk2 hb1 (by omega) _ _ _ hM hS (lv_sub hl [3, 4, 5, 6, 7, 8, 0] rfl)
                    · skip
                      exact absurd nI_0 c_144
                  · skip
                    refine lv_iconst (v := (nI 1)) hx hb dX4_find_135 (by decide) ?_
                    refine lv_goto (tgt := 140) hx hb dX4_find_136 (by decide) ?_
                    refine lv_istore (lv' := [(9, .int (nI 1)), (8, .int (nI ((rcI (mfM th me gr lk) (fun a => sOm th me (owM P co sz sg) a n) rc n) (i + 1)))), (0, .ref (ad 1000)), (1, .int (nI k)), (2, .int (nI (pvN hn f))), (3, .int (cV (pvS hs f))), (5, .int (nI ((scn (mfM th me gr lk) (rcI (mfM th me gr lk) (fun a => sOm th me (owM P co sz sg) a n) rc n) (pvS hs f) (pvN hn f) i).1))), (6, .int (nI ((scn (mfM th me gr lk) (rcI (mfM th me gr lk) (fun a => sOm th me (owM P co sz sg) a n) rc n) (pvS hs f) (pvN hn f) i).2))), (7, .int (nI (i + 1)))]) hx hb dX4_find_140 hl (by decide) rfl (fun ls hl => ?_)
                    refine lv_iload hx hb dX4_find_142 (lv_at hl 0 rfl) ?_
                    refine lv_if_eq (tgt := 162) hx hb dX4_find_144 (by decide) (fun c_144 => ?_) (fun c_144 => ?_)
                    · skip
                      exact absurd c_144 (by decide)
                    · skip
                      refine lv_iload hx hb dX4_find_147 (lv_at hl 1 rfl) ?_
                      refine lv_iload hx hb dX4_find_149 (lv_at hl 7 rfl) ?_
                      refine m_icmp_ge F (a := ((rcI (mfM th me gr lk) (fun a => sOm th me (owM P co sz sg) a n) rc n) (i + 1))) (b := ((scn (mfM th me gr lk) (rcI (mfM th me gr lk) (fun a => sOm th me (owM P co sz sg) a n) rc n) (pvS hs f) (pvN hn f) i).2)) (by omega) (by omega) (tgt := 162) dX4_find_151 (by decide) (fun c_151 => ?_) (fun c_151 => ?_)
                      · skip
                        refine lv_iinc (v := (nI (i + 1 + 1))) (lv' := [(7, .int (nI (i + 1 + 1))), (9, .int (nI 1)), (8, .int (nI ((rcI (mfM th me gr lk) (fun a => sOm th me (owM P co sz sg) a n) rc n) (i + 1)))), (0, .ref (ad 1000)), (1, .int (nI k)), (2, .int (nI (pvN hn f))), (3, .int (cV (pvS hs f))), (5, .int (nI ((scn (mfM th me gr lk) (rcI (mfM th me gr lk) (fun a => sOm th me (owM P co sz sg) a n) rc n) (pvS hs f) (pvN hn f) i).1))), (6, .int (nI ((scn (mfM th me gr lk) (rcI (mfM th me gr lk) (fun a => sOm th me (owM P co sz sg) a n) rc n) (pvS hs f) (pvN hn f) i).2)))]) hx hb dX4_find_162 hl (k := 8) rfl (nI_1 (i + 1)) (by decide) rfl (fun ls hl => ?_)
                        refine lv_goto (tgt := 90) hx hb dX4_find_165 (by decide) ?_
                        have hsc : scn (mfM th me gr lk) (rcI (mfM th me gr lk) (fun a => sOm th me (owM P co sz sg) a n) rc n) (pvS hs f) (pvN hn f) (i + 1) = scn (mfM th me gr lk) (rcI (mfM th me gr lk) (fun a => sOm th me (owM P co sz sg) a n) rc n) (pvS hs f) (pvN hn f) i := scn_n (by first | exact Or.inl (bI_eq c_105) | exact Or.inr (Or.inr c_151) | exact Or.inr (Or.inl (bh_3 (by omega) hpv c_120 (Or.inr c_132))) | exact Or.inr (Or.inl (bh_3 (by omega) hpv c_120 (Or.inl c_126))))
                        have hl : lv_has ls 10 [(7, .int (nI (i + 1 + 1))), (9, .int (nI 1)), (8, .int (nI ((rcI (mfM th me gr lk) (fun a => sOm th me (owM P co sz sg) a n) rc n) (i + 1)))), (0, .ref (ad 1000)), (1, .int (nI k)), (2, .int (nI (pvN hn f))), (3, .int (cV (pvS hs f))), (5, .int (nI (scn (mfM th me gr lk) (rcI (mfM th me gr lk) (fun a => sOm th me (owM P co sz sg) a n) rc n) (pvS hs f) (pvN hn f) (i + 1)).1)), (6, .int (nI (scn (mfM th me gr lk) (rcI (mfM th me gr lk) (fun a => sOm th me (owM P co sz sg) a n) rc n) (pvS hs f) (pvN hn f) (i + 1)).2))] := by rw [hsc]; exact hl
                        exact ih_90 (i + 1) (by omega) hfk2 hb1 (by omega) _ _ _ hM hS (lv_sub hl [3, 4, 5, 6, 7, 8, 0] rfl)
                      · skip
                        refine lv_iload hx hb dX4_find_154 (lv_at hl 8 rfl) ?_
                        refine lv_istore (lv' := [(5, .int (nI (i + 1))), (9, .int (nI 1)), (8, .int (nI ((rcI (mfM th me gr lk) (fun a => sOm th me (owM P co sz sg) a n) rc n) (i + 1)))), (0, .ref (ad 1000)), (1, .int (nI k)), (2, .int (nI (pvN hn f))), (3, .int (cV (pvS hs f))), (6, .int (nI ((scn (mfM th me gr lk) (rcI (mfM th me gr lk) (fun a => sOm th me (owM P co sz sg) a n) rc n) (pvS hs f) (pvN hn f) i).2))), (7, .int (nI (i + 1)))]) hx hb dX4_find_156 hl (by decide) rfl (fun ls hl => ?_)
                        refine lv_iload hx hb dX4_find_158 (lv_at hl 2 rfl) ?_
                        refine lv_istore (lv' := [(6, .int (nI ((rcI (mfM th me gr lk) (fun a => sOm th me (owM P co sz sg) a n) rc n) (i + 1)))), (5, .int (nI (i + 1))), (9, .int (nI 1)), (8, .int (nI ((rcI (mfM th me gr lk) (fun a => sOm th me (owM P co sz sg) a n) rc n) (i + 1)))), (0, .ref (ad 1000)), (1, .int (nI k)), (2, .int (nI (pvN hn f))), (3, .int (cV (pvS hs f))), (7, .int (nI (i + 1)))]) hx hb dX4_find_160 hl (by decide) rfl (fun ls hl => ?_)
                        refine lv_iinc (v := (nI (i + 1 + 1))) (lv' := [(7, .int (nI (i + 1 + 1))), (6, .int (nI ((rcI (mfM th me gr lk) (fun a => sOm th me (owM P co sz sg) a n) rc n) (i + 1)))), (5, .int (nI (i + 1))), (9, .int (nI 1)), (8, .int (nI ((rcI (mfM th me gr lk) (fun a => sOm th me (owM P co sz sg) a n) rc n) (i + 1)))), (0, .ref (ad 1000)), (1, .int (nI k)), (2, .int (nI (pvN hn f))), (3, .int (cV (pvS hs f)))]) hx hb dX4_find_162 hl (k := 8) rfl (nI_1 (i + 1)) (by decide) rfl (fun ls hl => ?_)
                        refine lv_goto (tgt := 90) hx hb dX4_find_165 (by decide) ?_
                        have hsc : scn (mfM th me gr lk) (rcI (mfM th me gr lk) (fun a => sOm th me (owM P co sz sg) a n) rc n) (pvS hs f) (pvN hn f) (i + 1) = (i + 1, (rcI (mfM th me gr lk) (fun a => sOm th me (owM P co sz sg) a n) rc n) (i + 1)) := scn_y (bI_ne c_105) (by first | exact bh_1 (by omega) hpv c_120 | exact bh_2 (by omega) hpv c_126 c_132) c_151
                        have hl : lv_has ls 10 [(7, .int (nI (i + 1 + 1))), (6, .int (nI (scn (mfM th me gr lk) (rcI (mfM th me gr lk) (fun a => sOm th me (owM P co sz sg) a n) rc n) (pvS hs f) (pvN hn f) (i + 1)).2)), (5, .int (nI (scn (mfM th me gr lk) (rcI (mfM th me gr lk) (fun a => sOm th me (owM P co sz sg) a n) rc n) (pvS hs f) (pvN hn f) (i + 1)).1)), (9, .int (nI 1)), (8, .int (nI ((rcI (mfM th me gr lk) (fun a => sOm th me (owM P co sz sg) a n) rc n) (i + 1)))), (0, .ref (ad 1000)), (1, .int (nI k)), (2, .int (nI (pvN hn f))), (3, .int (cV (pvS hs f)))] := by rw [hsc]; exact hl
                        exact ih_90 (i + 1) (by omega) hfk2 hb1 (by omega) _ _ _ hM hS (lv_sub hl [5, 6, 7, 8, 2, 1, 0] rfl)
      refine lv_iload hx hb dX4_find_66 (lv_at hl 4 rfl) ?_
      refine lv_if_eq (tgt := 226) hx hb dX4_find_68 (by decide) (fun c_68 => ?_) (fun c_68 => ?_)
      · skip
        have hb0 : b = 0 := by rcases hb01 with q | q; exact q.1; exact absurd c_68 (by rw [q]; decide)
        have hfh : min hc k = f := by rcases hb01 with q | q <;> omega
        refine lv_aload_n hx hb dX4_find_226 rfl (lv_at hl 0 rfl) ?_
        refine m_get F (ci := 4) (v := .int (nI f)) (fun w h => tb_O (inX4 w h)) hK hM ctM_o rfl 10 (by decide) (tb_O lkX4_71) rfl dX4_find_227 ?_
        rw [← hfh] at hM
        exact W.iret hx hb hr (fun t ht hW => ⟨⟨_, _, _, rfl, ⟨by rw [hfh], rfl, _, rfl⟩, by rw [ht]; exact hM⟩, hS.F ht⟩) hS.2.2 dX4_find_230
      · skip
        have hb1 : b = 1 := by rcases hb01 with q | q; exact absurd (by rw [q.1]; exact nI_0) c_68; exact q
        refine lv_aload_n hx hb dX4_find_71 rfl (lv_at hl 0 rfl) ?_
        refine m_get F (ci := 4) (v := .int (nI f)) (fun w h => tb_O (inX4 w h)) hK hM ctM_o rfl 10 (by decide) (tb_O lkX4_71) rfl dX4_find_72 ?_
        refine lv_iload_n hx hb dX4_find_75 rfl (lv_at hl 1 rfl) ?_
        refine m_icmp_ge F (a := f) (b := k) (by omega) (by omega) (tgt := 226) dX4_find_76 (by decide) (fun c_76 => ?_) (fun c_76 => ?_)
        · skip
          have hfh : min hc k = f := by omega
          refine lv_aload_n hx hb dX4_find_226 rfl (lv_at hl 0 rfl) ?_
          refine m_get F (ci := 4) (v := .int (nI f)) (fun w h => tb_O (inX4 w h)) hK hM ctM_o rfl 10 (by decide) (tb_O lkX4_71) rfl dX4_find_227 ?_
          rw [← hfh] at hM
          exact W.iret hx hb hr (fun t ht hW => ⟨⟨_, _, _, rfl, ⟨by rw [hfh], rfl, _, rfl⟩, by rw [ht]; exact hM⟩, hS.F ht⟩) hS.2.2 dX4_find_230
        · skip
          refine lv_iconst (v := (nI 0)) hx hb dX4_find_79 (by decide) ?_
          refine lv_istore (lv' := [(5, .int (nI 0)), (0, .ref (ad 1000)), (1, .int (nI k)), (2, .int (nI (pvN hn f))), (3, .int (cV (pvS hs f))), (4, .int (nI b))]) hx hb dX4_find_80 hl (by decide) rfl (fun ls hl => ?_)
          refine lv_sipush (v := (nI 401)) hx hb dX4_find_82 (by decide) ?_
          refine lv_istore (lv' := [(6, .int (nI 401)), (5, .int (nI 0)), (0, .ref (ad 1000)), (1, .int (nI k)), (2, .int (nI (pvN hn f))), (3, .int (cV (pvS hs f))), (4, .int (nI b))]) hx hb dX4_find_85 hl (by decide) rfl (fun ls hl => ?_)
          refine lv_iconst (v := (nI 1)) hx hb dX4_find_87 (by decide) ?_
          refine lv_istore (lv' := [(7, .int (nI 1)), (6, .int (nI 401)), (5, .int (nI 0)), (0, .ref (ad 1000)), (1, .int (nI k)), (2, .int (nI (pvN hn f))), (3, .int (cV (pvS hs f))), (4, .int (nI b))]) hx hb dX4_find_88 hl (by decide) rfl (fun ls hl => ?_)
          exact loop_90 (n + 1) 0 (Nat.zero_le _) c_76 hb1 (by omega) _ _ _ hM hS (lv_sub hl [3, 4, 5, 6, 2, 1, 0] rfl)
  have loop_21 : ∀ (fu : Nat) (i : Nat) (tb : Nat → Nat), (i ≤ n) → n + 1 - i ≤ fu → ∀ (H : Heap) (locs : List Loc) (ls : Array Slot), mw D vwCl lo ad (ctM aC ad n th sz sg me gr lk P co tb 0 wd sm (rcI (mfM th me gr lk) (fun a => sOm th me (owM P co sz sg) a n) rc i) X) H → va_S (fun q => lo ≤ q) s0.heap H locs → lv_has ls 10 [(0, .ref (ad 1000)), (1, .int (nI k)), (2, .int (nI (i + 1)))] → W pr l en (headSpec (wsO yX4_find cX4_find 10 (some .int)) ({ frames := 2, cells := 0, slots := 0, locals := 50 } : Room)).room s0 mm (([.ref (ad 1000), .int (nI k)] : List Value).toArray) below meth cc0 H locs 0 0 (MQ below (mQ1 D vwCl lo (fun v ad1 ct1 => v = .int (nI (min hc k)) ∧ ad1 = ad ∧ ∃ tb1, ct1 = ctM aC ad n th sz sg me gr lk P co tb1 (min hc k) (wdI hn wd (min hc k)) (wdI hs sm (min hc k)) (rcI (mfM th me gr lk) (fun a => sOm th me (owM P co sz sg) a n) rc n) X)) (([.ref (ad 1000), .int (nI k)] : List Value).toArray) s0 0 0 (fun q => lo ≤ q)) (F0 mm 21 ls []) := by
    intro fu
    induction fu with
    | zero =>
      intro i tb hi hfu H locs ls hM hS hl
      exact absurd hfu (by omega)
    | succ fu ih_21 =>
      intro i tb hi hfu H locs ls hM hS hl
      have hSi : sOm th me (owM P co sz sg) (i + 1) n ≤ 1100 := Nat.le_trans (sOm_le n) (owM_le hP (hsz (i + 1)))
      refine lv_iload_n hx hb dX4_find_21 rfl (lv_at hl 2 rfl) ?_
      refine lv_aload_n hx hb dX4_find_22 rfl (lv_at hl 0 rfl) ?_
      refine m_get F (ci := 4) (v := .int (nI n)) (fun w h => tb_O (inX4 w h)) hK hM ctM_o rfl 0 (by decide) (tb_O lkX4_51) rfl dX4_find_23 ?_
      refine m_icmp_gt F (a := (i + 1)) (b := n) (by omega) (by omega) (tgt := 59) dX4_find_26 (by decide) (fun c_26 => ?_) (fun c_26 => ?_)
      · skip
        have hin9 : n = i := by omega
        subst hin9
        refine lv_iconst (v := (nI 0)) hx hb dX4_find_59 (by decide) ?_
        refine lv_istore_n (lv' := [(2, .int (nI 0)), (0, .ref (ad 1000)), (1, .int (nI k))]) hx hb dX4_find_60 rfl hl (by decide) rfl (fun ls hl => ?_)
        refine lv_iconst (v := (-1)) hx hb dX4_find_61 (by decide) ?_
        refine lv_istore_n (lv' := [(3, .int (-1)), (2, .int (nI 0)), (0, .ref (ad 1000)), (1, .int (nI k))]) hx hb dX4_find_62 rfl hl (by decide) rfl (fun ls hl => ?_)
        refine lv_iconst (v := (nI 1)) hx hb dX4_find_63 (by decide) ?_
        refine lv_istore (lv' := [(4, .int (nI 1)), (3, .int (-1)), (2, .int (nI 0)), (0, .ref (ad 1000)), (1, .int (nI k))]) hx hb dX4_find_64 hl (by decide) rfl (fun ls hl => ?_)
        exact loop_66 (2 * hc + 2) 0 1 tb (Nat.zero_le _) (Nat.zero_le _) (Or.inr rfl) (by omega) _ _ _ (by rw [wdI_0, wdI_0]; exact hM) hS (lv_sub hl [3, 4, 2, 1, 0] rfl)
      · skip
        refine lv_aload_n hx hb dX4_find_29 rfl (lv_at hl 0 rfl) ?_
        refine m_get F (ci := 4) (v := .ref (ad 1010)) (fun w h => tb_O (inX4 w h)) hK hM ctM_o rfl 13 (by decide) (tb_O lkX4_42) rfl dX4_find_30 ?_
        refine lv_iload_n hx hb dX4_find_33 rfl (lv_at hl 2 rfl) ?_
        refine lv_aload_n hx hb dX4_find_34 rfl (lv_at hl 0 rfl) ?_
        refine lv_iload_n hx hb dX4_find_35 rfl (lv_at hl 2 rfl) ?_
        refine m_d1 (v := .int (bI (mfM th me gr lk (i + 1)))) (ct1 := ctM aC ad n th sz sg me gr lk P co tb 0 wd sm (rcI (mfM th me gr lk) (fun a => sOm th me (owM P co sz sg) a n) rc i) X) (va_runV (As := [.int (nI (i + 1))]) (rest := [.int (nI (i + 1)), .ref (ad 1010)]) F (c_mMbf l (i + 1) (by omega) (by omega) h200 hme) (cwV 1 F.2.2.2.2 (go_V (fun _ h => tb_O h) mlX4_74 imX4_mayBeFound seX4_mayBeFound iniX4 cdX4_mayBeFound) rfl rfl rfl (by decide +kernel) ⟨Nat.le_of_ble_eq_true rfl, Nat.le_of_ble_eq_true rfl⟩) (mPreV hKK hM (Nat.le_trans hlo hS.1) ctM_o rfl) rfl rfl hl.1 rfl (lv_room (Nat.le_of_ble_eq_true rfl)) dX4_find_36 ⟨Nat.le_of_ble_eq_true rfl, Nat.le_of_ble_eq_true rfl⟩) hS (fun H locs hM hS => ?_)
        refine lv_if_eq (tgt := 50) hx hb dX4_find_39 (by decide) (fun c_39 => ?_) (fun c_39 => ?_)
        · skip
          refine lv_ldc (v := nI 1000000) hx hb F.2.2.2.1 (F.2.2.2.2 _ (tb_O kcX4_66)) dX4_find_50 ?_
          refine m_iast F hK hM hS 0 rfl (j := (i + 1)) (x := (nI 1000000)) ctM_arc (by omega) (by decide) dX4_find_52 (fun H locs hM hS => ?_)
          have hM : mw D vwCl lo ad (ctM aC ad n th sz sg me gr lk P co tb 0 wd sm (rcI (mfM th me gr lk) (fun a => sOm th me (owM P co sz sg) a n) rc (i + 1)) X) H := by rw [upd_nI, rcI_s (q := mfM th me gr lk) (S := (fun a => sOm th me (owM P co sz sg) a n)) (by first | rw [if_pos (bI_ne c_39)] | rw [if_neg (by rw [bI_eq c_39]; decide)]), ctM_rc] at hM; exact hM
          refine lv_iinc (v := (nI (i + 1 + 1))) (lv' := [(2, .int (nI (i + 1 + 1))), (0, .ref (ad 1000)), (1, .int (nI k))]) hx hb dX4_find_53 hl (k := 2) rfl (nI_1 (i + 1)) (by decide) rfl (fun ls hl => ?_)
          refine lv_goto (tgt := 21) hx hb dX4_find_56 (by decide) ?_
          exact ih_21 (i + 1) tb (by omega) (by omega) _ _ _ hM hS (lv_sub hl [1, 2, 0] rfl)
        · skip
          refine lv_aload_n hx hb dX4_find_42 rfl (lv_at hl 0 rfl) ?_
          refine lv_iload_n hx hb dX4_find_43 rfl (lv_at hl 2 rfl) ?_
          refine m_ret1 (va_runV (As := [.int (nI (i + 1))]) (rest := [.int (nI (i + 1)), .ref (ad 1010)]) F (c_mSumOf l (i + 1) (by omega) h200 hme hP hsz hco hsg) (cwV 1 F.2.2.2.2 (go_V (fun _ h => tb_O h) mlX4_77 imX4_sumOf seX4_sumOf iniX4 cdX4_sumOf) rfl rfl rfl (by decide +kernel) ⟨Nat.le_of_ble_eq_true rfl, Nat.le_of_ble_eq_true rfl⟩) (mPreV hKK hM (Nat.le_trans hlo hS.1) ctM_o rfl) rfl rfl hl.1 rfl (lv_room (Nat.le_of_ble_eq_true rfl)) dX4_find_44 ⟨Nat.le_of_ble_eq_true rfl, Nat.le_of_ble_eq_true rfl⟩) hS (fun v9 ad1 ct1 H locs hp9 hM hS => ?_)
          obtain ⟨rfl, h9, tbs1, rfl⟩ := hp9
          replace h9 := h9.symm
          subst h9
          refine lv_goto (tgt := 52) hx hb dX4_find_47 (by decide) ?_
          refine m_iast F hK hM hS 0 rfl (j := (i + 1)) (x := (nI (sOm th me (owM P co sz sg) (i + 1) n))) ctM_arc (by omega) (by decide) dX4_find_52 (fun H locs hM hS => ?_)
          have hM : mw D vwCl lo ad (ctM aC ad n th sz sg me gr lk P co tbs1 0 wd sm (rcI (mfM th me gr lk) (fun a => sOm th me (owM P co sz sg) a n) rc (i + 1)) X) H := by rw [upd_nI, rcI_s (q := mfM th me gr lk) (S := (fun a => sOm th me (owM P co sz sg) a n)) (by first | rw [if_pos (bI_ne c_39)] | rw [if_neg (by rw [bI_eq c_39]; decide)]), ctM_rc] at hM; exact hM
          refine lv_iinc (v := (nI (i + 1 + 1))) (lv' := [(2, .int (nI (i + 1 + 1))), (0, .ref (ad 1000)), (1, .int (nI k))]) hx hb dX4_find_53 hl (k := 2) rfl (nI_1 (i + 1)) (by decide) rfl (fun ls hl => ?_)
          refine lv_goto (tgt := 21) hx hb dX4_find_56 (by decide) ?_
          exact ih_21 (i + 1) tbs1 (by omega) (by omega) _ _ _ hM hS (lv_sub hl [1, 2, 0] rfl)
  refine lv_iload_n hx hb dX4_find_0 rfl (lv_at hl 1 rfl) ?_
  refine lv_iconst (v := (nI 1)) hx hb dX4_find_1 (by decide) ?_
  refine lv_sipush (v := (nI 1000)) hx hb dX4_find_2 (by decide) ?_
  refine m_d1 (v := .int (bI (btw (nI k) (nI 1) (nI 1000)))) (ct1 := ctM aC ad n th sz sg me gr lk P co tb fd wd sm rc X) (va_runS (As := [.int (nI k), .int (nI 1), .int (nI 1000)]) (rest := []) F (c_between l (nI k) (nI 1) (nI 1000)) (va_cwS 3 F.2.2.2.2 (go_S (fun _ h => tb_O h) mlX4_54 stX4_between iniX4 cdX4_between) rfl rfl rfl (by decide +kernel) ⟨Nat.le_of_ble_eq_true rfl, Nat.le_of_ble_eq_true rfl⟩) (mPreS hKK hM (Nat.le_trans hlo hS.1)) rfl rfl hl.1 rfl (lv_room (Nat.le_of_ble_eq_true rfl)) dX4_find_5 ⟨Nat.le_of_ble_eq_true rfl, Nat.le_of_ble_eq_true rfl⟩) hS (fun H locs hM hS => ?_)
  refine lv_if_ne (tgt := 14) hx hb dX4_find_8 (by decide) (fun c_8 => ?_) (fun c_8 => ?_)
  · skip
    refine lv_aload_n hx hb dX4_find_14 rfl (lv_at hl 0 rfl) ?_
    refine lv_iconst (v := (nI 0)) hx hb dX4_find_15 (by decide) ?_
    refine m_put F (ci := 4) (v := .int (nI 0)) (fun w h => tb_O (inX4 w h)) mc_X4 hK hM hS ctM_o 10 (by decide) (tb_O lkX4_71) rfl rfl rfl (Nat.le_of_ble_eq_true rfl) dX4_find_16 (fun H locs hM hS => ?_)
    have hM : mw D vwCl lo ad (va_up (ctM aC ad n th sz sg me gr lk P co tb fd wd sm rc X) 1000 (some (.inr (4, [.int (nI n), .ref (ad 1001), .ref (ad 1002), .ref (ad 1003), .ref (ad 1004), .ref (ad 1005), .int lk, .int (nI P), .ref (ad 1006), .ref (ad 1007), .int (nI 0), .ref (ad 1008), .ref (ad 1009), .ref (ad 1010)])))) H := hM
    have hM : mw D vwCl lo ad (ctM aC ad n th sz sg me gr lk P co tb 0 wd sm rc X) H := by rw [ctM_fd] at hM; exact hM
    refine lv_iconst (v := (nI 1)) hx hb dX4_find_19 (by decide) ?_
    refine lv_istore_n (lv' := [(2, .int (nI 1)), (0, .ref (ad 1000)), (1, .int (nI k))]) hx hb dX4_find_20 rfl hl (by decide) rfl (fun ls hl => ?_)
    exact loop_21 (n + 1) 0 tb (Nat.zero_le _) (by omega) _ _ _ (by rw [rcI_0]; exact hM) hS (lv_sub hl [1, 2, 0] rfl)
  · skip
    exact absurd (by rw [btw_nI hk1 hk2 (by omega)]; decide) (fun h : ¬ bI (btw (nI k) (nI 1) (nI 1000)) = 0 => h c_8)
