set_option maxHeartbeats 4000000 in
set_option maxRecDepth 100000 in
theorem c_mWithinLO (l : Launch) {D : va_G} {aC : Nat → ClassId} {lo : Nat} {ad : Nat → Nat} {n : Nat} {th : Nat → Bool} {sz : Nat → Nat} {sg : Nat → Nat} {me : Nat → Nat} {gr : Nat → Int32} {lk : Int32} {P : Nat} {co : Nat → Option Nat} {tb : Nat → Nat} {fd : Nat} {wd : Nat → Nat} {sm : Nat → Nat} {rc : Nat → Nat} {X : Nat → Option va_E} (x : Int32) (hxg : btw x (-1) (nI 7) = false) : Met l yX4_within (wsO yX4_within cX4_within 5 (some .int)) ({ frames := 2, cells := 0, slots := 0, locals := 43 } : Room) (mPc D vwCl (tyA aC) lo ad (ctM aC ad n th sz sg me gr lk P co tb fd wd sm rc X) [.ref (ad 1000), .int x, .int (nI 0)]) (mD1 D vwCl lo (.int (-2)) ad (ctM aC ad n th sz sg me gr lk P co tb fd wd sm rc X)) 0 0 (fun q => lo ≤ q) := by
  refine Met.ofW (cc := cX4_within) (maxL := 5) (ret := (some .int)) (by decide) rfl ?_
  intro pr en s0 mm args below meth cc0 s₁ B hml hv
  obtain ⟨rfl, hlo, hM, hKK⟩ := hv
  have hK := hKK.1
  have hr := B.returns
  have hts := atoms_spec (ws := (wsO yX4_within cX4_within 5 (some .int))) B.pre
  have F : CallFix pr mm cc0 cX4_within 5 s0 (([.ref (ad 1000), .int x, .int (nI 0)] : List Value).toArray) (wsO yX4_within cX4_within 5 (some .int)) RX4 := ⟨B.exec, B.bytes, hml, findClass_of_methodNamed B.named, hts⟩
  have hx := F.1
  have hb := F.2.1
  have hlocks := B.notSynchronized
  have hS : va_S (fun q => lo ≤ q) s0.heap s0.heap [] := va_S.rf
  have hl := lv_entry ([.ref (ad 1000), .int x, .int (nI 0)]) (n := 5) (Nat.le_of_ble_eq_true rfl)
  rw [lg_entry_eq]
  generalize (lg_sl ([.ref (ad 1000), .int x, .int (nI 0)]) ++ List.replicate (5 - (lg_sl ([.ref (ad 1000), .int x, .int (nI 0)])).length) Slot.unset).toArray = ls at hl ⊢
  have hl : lv_has ls 5 [(0, .ref (ad 1000)), (1, .int x), (2, .int (nI 0))] := hl
  refine lv_iload_n hx hb dX4_within_0 rfl (lv_at hl 2 rfl) ?_
  refine lv_if_eq (tgt := 14) hx hb dX4_within_1 (by decide) (fun c_1 => ?_) (fun c_1 => ?_)
  · skip
    refine lv_iload_n hx hb dX4_within_14 rfl (lv_at hl 1 rfl) ?_
    refine lv_iload_n hx hb dX4_within_15 rfl (lv_at hl 2 rfl) ?_
    refine lv_if_ne (tgt := 23) hx hb dX4_within_16 (by decide) (fun c_16 => ?_) (fun c_16 => ?_)
    · skip
      exact absurd nI_0 c_16
    · skip
      refine lv_iconst (v := (-1)) hx hb dX4_within_19 (by decide) ?_
      refine lv_goto (tgt := 24) hx hb dX4_within_20 (by decide) ?_
      refine lv_bipush (v := (nI 7)) hx hb dX4_within_24 (by decide) ?_
      refine m_d1 (v := .int (bI (btw x (-1) (nI 7)))) (ct1 := ctM aC ad n th sz sg me gr lk P co tb fd wd sm rc X) (va_runS (As := [.int x, .int (-1), .int (nI 7)]) (rest := []) F (c_between l x (-1) (nI 7)) (va_cwS 3 F.2.2.2.2 (go_S (fun _ h => tb_O h) mlX4_54 stX4_between iniX4 cdX4_between) rfl rfl rfl (by decide +kernel) ⟨Nat.le_of_ble_eq_true rfl, Nat.le_of_ble_eq_true rfl⟩) (mPreS hKK hM (Nat.le_trans hlo hS.1)) rfl rfl hl.1 rfl (lv_room (Nat.le_of_ble_eq_true rfl)) dX4_within_26 ⟨Nat.le_of_ble_eq_true rfl, Nat.le_of_ble_eq_true rfl⟩) hS (fun H locs hM hS => ?_)
      refine lv_if_ne (tgt := 35) hx hb dX4_within_29 (by decide) (fun c_29 => ?_) (fun c_29 => ?_)
      · skip
        exact absurd (by rw [hxg]; rfl) c_29
      · skip
        refine lv_bipush (v := (-2)) hx hb dX4_within_32 (by decide) ?_
        exact W.iret hx hb hr (fun t ht hW => ⟨⟨_, _, _, rfl, ⟨rfl, rfl, rfl⟩, by rw [ht]; exact hM⟩, hS.F ht⟩) hS.2.2 dX4_within_34
  · skip
    exact absurd nI_0 c_1

set_option maxHeartbeats 4000000 in
set_option maxRecDepth 100000 in
theorem c_mWithinL (l : Launch) {D : va_G} {aC : Nat → ClassId} {lo : Nat} {ad : Nat → Nat} {n : Nat} {th : Nat → Bool} {sz : Nat → Nat} {sg : Nat → Nat} {me : Nat → Nat} {gr : Nat → Int32} {lk : Int32} {P : Nat} {co : Nat → Option Nat} {tb : Nat → Nat} {fd : Nat} {wd : Nat → Nat} {sm : Nat → Nat} {rc : Nat → Nat} {X : Nat → Option va_E} (x : Int32) (hxg : btw x (-1) (nI 7) = true) (h200 : n ≤ 200) : Met l yX4_within (wsO yX4_within cX4_within 5 (some .int)) ({ frames := 2, cells := 0, slots := 0, locals := 43 } : Room) (mPc D vwCl (tyA aC) lo ad (ctM aC ad n th sz sg me gr lk P co tb fd wd sm rc X) [.ref (ad 1000), .int x, .int (nI 0)]) (mD1 D vwCl lo (.int (nI (cnt (inM th gr x) n))) ad (ctM aC ad n th sz sg me gr x P co tb fd wd sm rc X)) 0 0 (fun q => lo ≤ q) := by
  refine Met.ofW (cc := cX4_within) (maxL := 5) (ret := (some .int)) (by decide) rfl ?_
  intro pr en s0 mm args below meth cc0 s₁ B hml hv
  obtain ⟨rfl, hlo, hM, hKK⟩ := hv
  have hK := hKK.1
  have hr := B.returns
  have hts := atoms_spec (ws := (wsO yX4_within cX4_within 5 (some .int))) B.pre
  have F : CallFix pr mm cc0 cX4_within 5 s0 (([.ref (ad 1000), .int x, .int (nI 0)] : List Value).toArray) (wsO yX4_within cX4_within 5 (some .int)) RX4 := ⟨B.exec, B.bytes, hml, findClass_of_methodNamed B.named, hts⟩
  have hx := F.1
  have hb := F.2.1
  have hlocks := B.notSynchronized
  have hS : va_S (fun q => lo ≤ q) s0.heap s0.heap [] := va_S.rf
  have hl := lv_entry ([.ref (ad 1000), .int x, .int (nI 0)]) (n := 5) (Nat.le_of_ble_eq_true rfl)
  rw [lg_entry_eq]
  generalize (lg_sl ([.ref (ad 1000), .int x, .int (nI 0)]) ++ List.replicate (5 - (lg_sl ([.ref (ad 1000), .int x, .int (nI 0)])).length) Slot.unset).toArray = ls at hl ⊢
  have hl : lv_has ls 5 [(0, .ref (ad 1000)), (1, .int x), (2, .int (nI 0))] := hl
  have loop_68 : ∀ (fu : Nat) (i : Nat), (i ≤ n) → n + 1 - i ≤ fu → ∀ (H : Heap) (locs : List Loc) (ls : Array Slot), mw D vwCl lo ad (ctM aC ad n th sz sg me gr x P co tb fd wd sm rc X) H → va_S (fun q => lo ≤ q) s0.heap H locs → lv_has ls 5 [(0, .ref (ad 1000)), (1, .int x), (2, .int (nI 0)), (3, .int (nI (cnt (inM th gr x) i))), (4, .int (nI (i + 1)))] → W pr l en (headSpec (wsO yX4_within cX4_within 5 (some .int)) ({ frames := 2, cells := 0, slots := 0, locals := 43 } : Room)).room s0 mm (([.ref (ad 1000), .int x, .int (nI 0)] : List Value).toArray) below meth cc0 H locs 0 0 (MQ below (mD1 D vwCl lo (.int (nI (cnt (inM th gr x) n))) ad (ctM aC ad n th sz sg me gr x P co tb fd wd sm rc X)) (([.ref (ad 1000), .int x, .int (nI 0)] : List Value).toArray) s0 0 0 (fun q => lo ≤ q)) (F0 mm 68 ls []) := by
    intro fu
    induction fu with
    | zero =>
      intro i hi hfu H locs ls hM hS hl
      exact absurd hfu (by omega)
    | succ fu ih_68 =>
      intro i hi hfu H locs ls hM hS hl
      have hcl := cnt_le (inM th gr x) i
      refine lv_iload hx hb dX4_within_68 (lv_at hl 4 rfl) ?_
      refine lv_aload_n hx hb dX4_within_70 rfl (lv_at hl 0 rfl) ?_
      refine m_get F (ci := 4) (v := .int (nI n)) (fun w h => tb_O (inX4 w h)) hK hM ctM_o rfl 0 (by decide) (tb_O lkX4_51) rfl dX4_within_71 ?_
      refine m_icmp_gt F (a := (i + 1)) (b := n) (by omega) (by omega) (tgt := 120) dX4_within_74 (by decide) (fun c_74 => ?_) (fun c_74 => ?_)
      · skip
        have hin9 : n = i := by omega
        subst hin9
        refine lv_iload_n hx hb dX4_within_120 rfl (lv_at hl 3 rfl) ?_
        exact W.iret hx hb hr (fun t ht hW => ⟨⟨_, _, _, rfl, ⟨rfl, rfl, rfl⟩, by rw [ht]; exact hM⟩, hS.F ht⟩) hS.2.2 dX4_within_121
      · skip
        refine lv_aload_n hx hb dX4_within_77 rfl (lv_at hl 0 rfl) ?_
        refine m_get F (ci := 4) (v := .ref (ad 1001)) (fun w h => tb_O (inX4 w h)) hK hM ctM_o rfl 1 (by decide) (tb_O lkX4_7) rfl dX4_within_78 ?_
        refine lv_iload hx hb dX4_within_81 (lv_at hl 4 rfl) ?_
        refine m_zald F hK hM 2 rfl (j := (i + 1)) ctM_ath (by omega) (by decide) dX4_within_83 ?_
        refine m_top (y := (bI (th (i + 1)))) rfl ?_
        refine lv_if_eq (tgt := 112) hx hb dX4_within_84 (by decide) (fun c_84 => ?_) (fun c_84 => ?_)
        · skip
          refine lv_iload_n hx hb dX4_within_112 rfl (lv_at hl 3 rfl) ?_
          refine lv_istore_n (lv' := [(3, .int (nI (cnt (inM th gr x) i))), (0, .ref (ad 1000)), (1, .int x), (2, .int (nI 0)), (4, .int (nI (i + 1)))]) hx hb dX4_within_113 rfl hl (by decide) rfl (fun ls hl => ?_)
          refine lv_iinc (v := (nI (i + 1 + 1))) (lv' := [(4, .int (nI (i + 1 + 1))), (3, .int (nI (cnt (inM th gr x) i))), (0, .ref (ad 1000)), (1, .int x), (2, .int (nI 0))]) hx hb dX4_within_114 hl (k := 4) rfl (nI_1 (i + 1)) (by decide) rfl (fun ls hl => ?_)
          refine lv_goto (tgt := 68) hx hb dX4_within_117 (by decide) ?_
          have hcn : cnt (inM th gr x) (i + 1) = cnt (inM th gr x) i := by show cnt (inM th gr x) i + _ = _; rw [if_neg (by first | simp [inM, bI_ne c_84, c_88, c_103] | simp [inM, bI_eq c_84])]; rfl
          rw [← hcn] at hl
          exact ih_68 (i + 1) (by omega) (by omega) _ _ _ hM hS (lv_sub hl [2, 3, 4, 1, 0] rfl)
        · skip
          refine lv_iload_n hx hb dX4_within_87 rfl (lv_at hl 1 rfl) ?_
          refine lv_if_lt (tgt := 106) hx hb dX4_within_88 (by decide) (fun c_88 => ?_) (fun c_88 => ?_)
          · skip
            refine lv_iload_n hx hb dX4_within_106 rfl (lv_at hl 3 rfl) ?_
            refine lv_iconst (v := (nI 1)) hx hb dX4_within_107 (by decide) ?_
            refine lv_iadd hx hb dX4_within_108 ?_
            refine m_top (nI_add (cnt (inM th gr x) i) 1) ?_
            refine lv_goto (tgt := 113) hx hb dX4_within_109 (by decide) ?_
            refine lv_istore_n (lv' := [(3, .int (nI (cnt (inM th gr x) i + 1))), (0, .ref (ad 1000)), (1, .int x), (2, .int (nI 0)), (4, .int (nI (i + 1)))]) hx hb dX4_within_113 rfl hl (by decide) rfl (fun ls hl => ?_)
            refine lv_iinc (v := (nI (i + 1 + 1))) (lv' := [(4, .int (nI (i + 1 + 1))), (3, .int (nI (cnt (inM th gr x) i + 1))), (0, .ref (ad 1000)), (1, .int x), (2, .int (nI 0))]) hx hb dX4_within_114 hl (k := 4) rfl (nI_1 (i + 1)) (by decide) rfl (fun ls hl => ?_)
            refine lv_goto (tgt := 68) hx hb dX4_within_117 (by decide) ?_
            have hcn : cnt (inM th gr x) (i + 1) = cnt (inM th gr x) i + 1 := by show cnt (inM th gr x) i + _ = _; rw [if_pos (by first | simp [inM, bI_ne c_84, c_88, c_103] | simp [inM, bI_ne c_84, c_88])]
            rw [← hcn] at hl
            exact ih_68 (i + 1) (by omega) (by omega) _ _ _ hM hS (lv_sub hl [2, 3, 4, 1, 0] rfl)
          · skip
            refine lv_aload_n hx hb dX4_within_91 rfl (lv_at hl 0 rfl) ?_
            refine m_get F (ci := 4) (v := .ref (ad 1005)) (fun w h => tb_O (inX4 w h)) hK hM ctM_o rfl 5 (by decide) (tb_O lkX4_23) rfl dX4_within_92 ?_
            refine lv_iload hx hb dX4_within_95 (lv_at hl 4 rfl) ?_
            refine m_iald F hK hM 0 rfl (j := (i + 1)) ctM_agr (by omega) (by decide) dX4_within_97 ?_
            refine m_top (y := (gr (i + 1))) rfl ?_
            refine lv_iload_n hx hb dX4_within_98 rfl (lv_at hl 1 rfl) ?_
            refine lv_ishr hx hb dX4_within_99 ?_
            refine lv_iconst (v := (nI 1)) hx hb dX4_within_100 (by decide) ?_
            refine lv_iand hx hb dX4_within_101 ?_
            refine lv_iconst (v := (nI 1)) hx hb dX4_within_102 (by decide) ?_
            refine lv_icmp_ne (tgt := 112) hx hb dX4_within_103 (by decide) (fun c_103 => ?_) (fun c_103 => ?_)
            · skip
              refine lv_iload_n hx hb dX4_within_112 rfl (lv_at hl 3 rfl) ?_
              refine lv_istore_n (lv' := [(3, .int (nI (cnt (inM th gr x) i))), (0, .ref (ad 1000)), (1, .int x), (2, .int (nI 0)), (4, .int (nI (i + 1)))]) hx hb dX4_within_113 rfl hl (by decide) rfl (fun ls hl => ?_)
              refine lv_iinc (v := (nI (i + 1 + 1))) (lv' := [(4, .int (nI (i + 1 + 1))), (3, .int (nI (cnt (inM th gr x) i))), (0, .ref (ad 1000)), (1, .int x), (2, .int (nI 0))]) hx hb dX4_within_114 hl (k := 4) rfl (nI_1 (i + 1)) (by decide) rfl (fun ls hl => ?_)
              refine lv_goto (tgt := 68) hx hb dX4_within_117 (by decide) ?_
              have hcn : cnt (inM th gr x) (i + 1) = cnt (inM th gr x) i := by show cnt (inM th gr x) i + _ = _; rw [if_neg (by first | simp [inM, bI_ne c_84, c_88, c_103] | simp [inM, bI_eq c_84])]; rfl
              rw [← hcn] at hl
              exact ih_68 (i + 1) (by omega) (by omega) _ _ _ hM hS (lv_sub hl [2, 3, 4, 1, 0] rfl)
            · skip
              refine lv_iload_n hx hb dX4_within_106 rfl (lv_at hl 3 rfl) ?_
              refine lv_iconst (v := (nI 1)) hx hb dX4_within_107 (by decide) ?_
              refine lv_iadd hx hb dX4_within_108 ?_
              refine m_top (nI_add (cnt (inM th gr x) i) 1) ?_
              refine lv_goto (tgt := 113) hx hb dX4_within_109 (by decide) ?_
              refine lv_istore_n (lv' := [(3, .int (nI (cnt (inM th gr x) i + 1))), (0, .ref (ad 1000)), (1, .int x), (2, .int (nI 0)), (4, .int (nI (i + 1)))]) hx hb dX4_within_113 rfl hl (by decide) rfl (fun ls hl => ?_)
              refine lv_iinc (v := (nI (i + 1 + 1))) (lv' := [(4, .int (nI (i + 1 + 1))), (3, .int (nI (cnt (inM th gr x) i + 1))), (0, .ref (ad 1000)), (1, .int x), (2, .int (nI 0))]) hx hb dX4_within_114 hl (k := 4) rfl (nI_1 (i + 1)) (by decide) rfl (fun ls hl => ?_)
              refine lv_goto (tgt := 68) hx hb dX4_within_117 (by decide) ?_
              have hcn : cnt (inM th gr x) (i + 1) = cnt (inM th gr x) i + 1 := by show cnt (inM th gr x) i + _ = _; rw [if_pos (by first | simp [inM, bI_ne c_84, c_88, c_103] | simp [inM, bI_ne c_84, c_88])]
              rw [← hcn] at hl
              exact ih_68 (i + 1) (by omega) (by omega) _ _ _ hM hS (lv_sub hl [2, 3, 4, 1, 0] rfl)
  refine lv_iload_n hx hb dX4_within_0 rfl (lv_at hl 2 rfl) ?_
  refine lv_if_eq (tgt := 14) hx hb dX4_within_1 (by decide) (fun c_1 => ?_) (fun c_1 => ?_)
  · skip
    refine lv_iload_n hx hb dX4_within_14 rfl (lv_at hl 1 rfl) ?_
    refine lv_iload_n hx hb dX4_within_15 rfl (lv_at hl 2 rfl) ?_
    refine lv_if_ne (tgt := 23) hx hb dX4_within_16 (by decide) (fun c_16 => ?_) (fun c_16 => ?_)
    · skip
      exact absurd nI_0 c_16
    · skip
      refine lv_iconst (v := (-1)) hx hb dX4_within_19 (by decide) ?_
      refine lv_goto (tgt := 24) hx hb dX4_within_20 (by decide) ?_
      refine lv_bipush (v := (nI 7)) hx hb dX4_within_24 (by decide) ?_
      refine m_d1 (v := .int (bI (btw x (-1) (nI 7)))) (ct1 := ctM aC ad n th sz sg me gr lk P co tb fd wd sm rc X) (va_runS (As := [.int x, .int (-1), .int (nI 7)]) (rest := []) F (c_between l x (-1) (nI 7)) (va_cwS 3 F.2.2.2.2 (go_S (fun _ h => tb_O h) mlX4_54 stX4_between iniX4 cdX4_between) rfl rfl rfl (by decide +kernel) ⟨Nat.le_of_ble_eq_true rfl, Nat.le_of_ble_eq_true rfl⟩) (mPreS hKK hM (Nat.le_trans hlo hS.1)) rfl rfl hl.1 rfl (lv_room (Nat.le_of_ble_eq_true rfl)) dX4_within_26 ⟨Nat.le_of_ble_eq_true rfl, Nat.le_of_ble_eq_true rfl⟩) hS (fun H locs hM hS => ?_)
      refine lv_if_ne (tgt := 35) hx hb dX4_within_29 (by decide) (fun c_29 => ?_) (fun c_29 => ?_)
      · skip
        refine lv_iload_n hx hb dX4_within_35 rfl (lv_at hl 2 rfl) ?_
        refine lv_if_ne (tgt := 47) hx hb dX4_within_36 (by decide) (fun c_36 => ?_) (fun c_36 => ?_)
        · skip
          exact absurd nI_0 c_36
        · skip
          refine lv_aload_n hx hb dX4_within_39 rfl (lv_at hl 0 rfl) ?_
          refine lv_iload_n hx hb dX4_within_40 rfl (lv_at hl 1 rfl) ?_
          refine m_put F (ci := 4) (v := .int x) (fun w h => tb_O (inX4 w h)) mc_X4 hK hM hS ctM_o 6 (by decide) (tb_O lkX4_26) rfl rfl rfl (Nat.le_of_ble_eq_true rfl) dX4_within_41 (fun H locs hM hS => ?_)
          have hM : mw D vwCl lo ad (va_up (ctM aC ad n th sz sg me gr lk P co tb fd wd sm rc X) 1000 (some (.inr (4, [.int (nI n), .ref (ad 1001), .ref (ad 1002), .ref (ad 1003), .ref (ad 1004), .ref (ad 1005), .int x, .int (nI P), .ref (ad 1006), .ref (ad 1007), .int (nI fd), .ref (ad 1008), .ref (ad 1009), .ref (ad 1010)])))) H := hM
          have hM : mw D vwCl lo ad (ctM aC ad n th sz sg me gr x P co tb fd wd sm rc X) H := by rw [ctM_lk] at hM; exact hM
          refine lv_goto (tgt := 63) hx hb dX4_within_44 (by decide) ?_
          refine lv_iconst (v := (nI 0)) hx hb dX4_within_63 (by decide) ?_
          refine lv_istore_n (lv' := [(3, .int (nI 0)), (0, .ref (ad 1000)), (1, .int x), (2, .int (nI 0))]) hx hb dX4_within_64 rfl hl (by decide) rfl (fun ls hl => ?_)
          refine lv_iconst (v := (nI 1)) hx hb dX4_within_65 (by decide) ?_
          refine lv_istore (lv' := [(4, .int (nI 1)), (3, .int (nI 0)), (0, .ref (ad 1000)), (1, .int x), (2, .int (nI 0))]) hx hb dX4_within_66 hl (by decide) rfl (fun ls hl => ?_)
          exact loop_68 (n + 1) 0 (Nat.zero_le _) (by omega) _ _ _ hM hS (lv_sub hl [2, 3, 4, 1, 0] rfl)
      · skip
        exact absurd (by rw [hxg]; decide) (fun h : ¬ bI (btw x (-1) (nI 7)) = 0 => h c_29)
  · skip
    exact absurd nI_0 c_1

set_option maxHeartbeats 4000000 in
set_option maxRecDepth 100000 in
theorem c_mWithinU (l : Launch) {D : va_G} {aC : Nat → ClassId} {lo : Nat} {ad : Nat → Nat} {n : Nat} {th : Nat → Bool} {sz : Nat → Nat} {sg : Nat → Nat} {me : Nat → Nat} {gr : Nat → Int32} {lk : Int32} {P : Nat} {co : Nat → Option Nat} {tb : Nat → Nat} {fd : Nat} {wd : Nat → Nat} {sm : Nat → Nat} {rc : Nat → Nat} {X : Nat → Option va_E} (x y : Int32) (hy0 : ¬ y = 0) (hn0 : isE n th y = false) (h200 : n ≤ 200) : Met l yX4_within (wsO yX4_within cX4_within 5 (some .int)) ({ frames := 2, cells := 0, slots := 0, locals := 43 } : Room) (mPc D vwCl (tyA aC) lo ad (ctM aC ad n th sz sg me gr lk P co tb fd wd sm rc X) [.ref (ad 1000), .int x, .int y]) (mD1 D vwCl lo (.int (-1)) ad (ctM aC ad n th sz sg me gr lk P co tb fd wd sm rc X)) 0 0 (fun q => lo ≤ q) := by
  refine Met.ofW (cc := cX4_within) (maxL := 5) (ret := (some .int)) (by decide) rfl ?_
  intro pr en s0 mm args below meth cc0 s₁ B hml hv
  obtain ⟨rfl, hlo, hM, hKK⟩ := hv
  have hK := hKK.1
  have hr := B.returns
  have hts := atoms_spec (ws := (wsO yX4_within cX4_within 5 (some .int))) B.pre
  have F : CallFix pr mm cc0 cX4_within 5 s0 (([.ref (ad 1000), .int x, .int y] : List Value).toArray) (wsO yX4_within cX4_within 5 (some .int)) RX4 := ⟨B.exec, B.bytes, hml, findClass_of_methodNamed B.named, hts⟩
  have hx := F.1
  have hb := F.2.1
  have hlocks := B.notSynchronized
  have hS : va_S (fun q => lo ≤ q) s0.heap s0.heap [] := va_S.rf
  have hl := lv_entry ([.ref (ad 1000), .int x, .int y]) (n := 5) (Nat.le_of_ble_eq_true rfl)
  rw [lg_entry_eq]
  generalize (lg_sl ([.ref (ad 1000), .int x, .int y]) ++ List.replicate (5 - (lg_sl ([.ref (ad 1000), .int x, .int y])).length) Slot.unset).toArray = ls at hl ⊢
  have hl : lv_has ls 5 [(0, .ref (ad 1000)), (1, .int x), (2, .int y)] := hl
  refine lv_iload_n hx hb dX4_within_0 rfl (lv_at hl 2 rfl) ?_
  refine lv_if_eq (tgt := 14) hx hb dX4_within_1 (by decide) (fun c_1 => ?_) (fun c_1 => ?_)
  · skip
    exact absurd c_1 hy0
  · skip
    refine lv_aload_n hx hb dX4_within_4 rfl (lv_at hl 0 rfl) ?_
    refine lv_iload_n hx hb dX4_within_5 rfl (lv_at hl 2 rfl) ?_
    refine m_d1 (v := .int (bI (isE n th y))) (ct1 := ctM aC ad n th sz sg me gr lk P co tb fd wd sm rc X) (va_runV (As := [.int y]) (rest := []) F (c_mIsE l y h200) (cwV 1 F.2.2.2.2 (go_V (fun _ h => tb_O h) mlX4_58 imX4_isEntry seX4_isEntry iniX4 cdX4_isEntry) rfl rfl rfl (by decide +kernel) ⟨Nat.le_of_ble_eq_true rfl, Nat.le_of_ble_eq_true rfl⟩) (mPreV hKK hM (Nat.le_trans hlo hS.1) ctM_o rfl) rfl rfl hl.1 rfl (lv_room (Nat.le_of_ble_eq_true rfl)) dX4_within_6 ⟨Nat.le_of_ble_eq_true rfl, Nat.le_of_ble_eq_true rfl⟩) hS (fun H locs hM hS => ?_)
    refine lv_if_ne (tgt := 14) hx hb dX4_within_9 (by decide) (fun c_9 => ?_) (fun c_9 => ?_)
    · skip
      exact absurd (by rw [hn0]; rfl) c_9
    · skip
      refine lv_iconst (v := (-1)) hx hb dX4_within_12 (by decide) ?_
      exact W.iret hx hb hr (fun t ht hW => ⟨⟨_, _, _, rfl, ⟨rfl, rfl, rfl⟩, by rw [ht]; exact hM⟩, hS.F ht⟩) hS.2.2 dX4_within_13

set_option maxHeartbeats 4000000 in
set_option maxRecDepth 100000 in
theorem c_mWithinO (l : Launch) {D : va_G} {aC : Nat → ClassId} {lo : Nat} {ad : Nat → Nat} {n : Nat} {th : Nat → Bool} {sz : Nat → Nat} {sg : Nat → Nat} {me : Nat → Nat} {gr : Nat → Int32} {lk : Int32} {P : Nat} {co : Nat → Option Nat} {tb : Nat → Nat} {fd : Nat} {wd : Nat → Nat} {sm : Nat → Nat} {rc : Nat → Nat} {X : Nat → Option va_E} (x : Int32) (j : Nat) (hj1 : 1 ≤ j) (hj2 : j ≤ n) (h200 : n ≤ 200) (ht : th j = true) (hxg : btw x (nI 0) (nI 7) = false) : Met l yX4_within (wsO yX4_within cX4_within 5 (some .int)) ({ frames := 2, cells := 0, slots := 0, locals := 43 } : Room) (mPc D vwCl (tyA aC) lo ad (ctM aC ad n th sz sg me gr lk P co tb fd wd sm rc X) [.ref (ad 1000), .int x, .int (nI j)]) (mD1 D vwCl lo (.int (-2)) ad (ctM aC ad n th sz sg me gr lk P co tb fd wd sm rc X)) 0 0 (fun q => lo ≤ q) := by
  refine Met.ofW (cc := cX4_within) (maxL := 5) (ret := (some .int)) (by decide) rfl ?_
  intro pr en s0 mm args below meth cc0 s₁ B hml hv
  obtain ⟨rfl, hlo, hM, hKK⟩ := hv
  have hK := hKK.1
  have hr := B.returns
  have hts := atoms_spec (ws := (wsO yX4_within cX4_within 5 (some .int))) B.pre
  have F : CallFix pr mm cc0 cX4_within 5 s0 (([.ref (ad 1000), .int x, .int (nI j)] : List Value).toArray) (wsO yX4_within cX4_within 5 (some .int)) RX4 := ⟨B.exec, B.bytes, hml, findClass_of_methodNamed B.named, hts⟩
  have hx := F.1
  have hb := F.2.1
  have hlocks := B.notSynchronized
  have hS : va_S (fun q => lo ≤ q) s0.heap s0.heap [] := va_S.rf
  have hl := lv_entry ([.ref (ad 1000), .int x, .int (nI j)]) (n := 5) (Nat.le_of_ble_eq_true rfl)
  rw [lg_entry_eq]
  generalize (lg_sl ([.ref (ad 1000), .int x, .int (nI j)]) ++ List.replicate (5 - (lg_sl ([.ref (ad 1000), .int x, .int (nI j)])).length) Slot.unset).toArray = ls at hl ⊢
  have hl : lv_has ls 5 [(0, .ref (ad 1000)), (1, .int x), (2, .int (nI j))] := hl
  refine lv_iload_n hx hb dX4_within_0 rfl (lv_at hl 2 rfl) ?_
  refine lv_if_eq (tgt := 14) hx hb dX4_within_1 (by decide) (fun c_1 => ?_) (fun c_1 => ?_)
  · skip
    exact absurd c_1 (nI_ne0 hj1 (by omega))
  · skip
    refine lv_aload_n hx hb dX4_within_4 rfl (lv_at hl 0 rfl) ?_
    refine lv_iload_n hx hb dX4_within_5 rfl (lv_at hl 2 rfl) ?_
    refine m_d1 (v := .int (bI (isE n th (nI j)))) (ct1 := ctM aC ad n th sz sg me gr lk P co tb fd wd sm rc X) (va_runV (As := [.int (nI j)]) (rest := []) F (c_mIsE l (nI j) h200) (cwV 1 F.2.2.2.2 (go_V (fun _ h => tb_O h) mlX4_58 imX4_isEntry seX4_isEntry iniX4 cdX4_isEntry) rfl rfl rfl (by decide +kernel) ⟨Nat.le_of_ble_eq_true rfl, Nat.le_of_ble_eq_true rfl⟩) (mPreV hKK hM (Nat.le_trans hlo hS.1) ctM_o rfl) rfl rfl hl.1 rfl (lv_room (Nat.le_of_ble_eq_true rfl)) dX4_within_6 ⟨Nat.le_of_ble_eq_true rfl, Nat.le_of_ble_eq_true rfl⟩) hS (fun H locs hM hS => ?_)
    refine lv_if_ne (tgt := 14) hx hb dX4_within_9 (by decide) (fun c_9 => ?_) (fun c_9 => ?_)
    · skip
      refine lv_iload_n hx hb dX4_within_14 rfl (lv_at hl 1 rfl) ?_
      refine lv_iload_n hx hb dX4_within_15 rfl (lv_at hl 2 rfl) ?_
      refine lv_if_ne (tgt := 23) hx hb dX4_within_16 (by decide) (fun c_16 => ?_) (fun c_16 => ?_)
      · skip
        refine lv_iconst (v := (nI 0)) hx hb dX4_within_23 (by decide) ?_
        refine lv_bipush (v := (nI 7)) hx hb dX4_within_24 (by decide) ?_
        refine m_d1 (v := .int (bI (btw x (nI 0) (nI 7)))) (ct1 := ctM aC ad n th sz sg me gr lk P co tb fd wd sm rc X) (va_runS (As := [.int x, .int (nI 0), .int (nI 7)]) (rest := []) F (c_between l x (nI 0) (nI 7)) (va_cwS 3 F.2.2.2.2 (go_S (fun _ h => tb_O h) mlX4_54 stX4_between iniX4 cdX4_between) rfl rfl rfl (by decide +kernel) ⟨Nat.le_of_ble_eq_true rfl, Nat.le_of_ble_eq_true rfl⟩) (mPreS hKK hM (Nat.le_trans hlo hS.1)) rfl rfl hl.1 rfl (lv_room (Nat.le_of_ble_eq_true rfl)) dX4_within_26 ⟨Nat.le_of_ble_eq_true rfl, Nat.le_of_ble_eq_true rfl⟩) hS (fun H locs hM hS => ?_)
        refine lv_if_ne (tgt := 35) hx hb dX4_within_29 (by decide) (fun c_29 => ?_) (fun c_29 => ?_)
        · skip
          exact absurd (by rw [hxg]; rfl) c_29
        · skip
          refine lv_bipush (v := (-2)) hx hb dX4_within_32 (by decide) ?_
          exact W.iret hx hb hr (fun t ht hW => ⟨⟨_, _, _, rfl, ⟨rfl, rfl, rfl⟩, by rw [ht]; exact hM⟩, hS.F ht⟩) hS.2.2 dX4_within_34
      · skip
        exact absurd c_16 (nI_ne0 hj1 (by omega))
    · skip
      exact absurd (by rw [isE_nI hj1 hj2 h200, ht]; decide) (fun h : ¬ bI (isE n th (nI j)) = 0 => h c_9)

set_option maxHeartbeats 4000000 in
set_option maxRecDepth 100000 in
theorem c_mWithin (l : Launch) {D : va_G} {aC : Nat → ClassId} {lo : Nat} {ad : Nat → Nat} {n : Nat} {th : Nat → Bool} {sz : Nat → Nat} {sg : Nat → Nat} {me : Nat → Nat} {gr : Nat → Int32} {lk : Int32} {P : Nat} {co : Nat → Option Nat} {tb : Nat → Nat} {fd : Nat} {wd : Nat → Nat} {sm : Nat → Nat} {rc : Nat → Nat} {X : Nat → Option va_E} (x : Int32) (j : Nat) (hj1 : 1 ≤ j) (hj2 : j ≤ n) (h200 : n ≤ 200) (ht : th j = true) (hxg : btw x (nI 0) (nI 7) = true) : Met l yX4_within (wsO yX4_within cX4_within 5 (some .int)) ({ frames := 2, cells := 0, slots := 0, locals := 43 } : Room) (mPc D vwCl (tyA aC) lo ad (ctM aC ad n th sz sg me gr lk P co tb fd wd sm rc X) [.ref (ad 1000), .int x, .int (nI j)]) (mD1 D vwCl lo (.int (nI (cnt (inM th (upd gr j (gr j ||| (nI 1) <<< (x &&& 31))) x) n))) ad (ctM aC ad n th sz sg me (upd gr j (gr j ||| (nI 1) <<< (x &&& 31))) lk P co tb fd wd sm rc X)) 0 0 (fun q => lo ≤ q) := by
  refine Met.ofW (cc := cX4_within) (maxL := 5) (ret := (some .int)) (by decide) rfl ?_
  intro pr en s0 mm args below meth cc0 s₁ B hml hv
  obtain ⟨rfl, hlo, hM, hKK⟩ := hv
  have hK := hKK.1
  have hr := B.returns
  have hts := atoms_spec (ws := (wsO yX4_within cX4_within 5 (some .int))) B.pre
  have F : CallFix pr mm cc0 cX4_within 5 s0 (([.ref (ad 1000), .int x, .int (nI j)] : List Value).toArray) (wsO yX4_within cX4_within 5 (some .int)) RX4 := ⟨B.exec, B.bytes, hml, findClass_of_methodNamed B.named, hts⟩
  have hx := F.1
  have hb := F.2.1
  have hlocks := B.notSynchronized
  have hS : va_S (fun q => lo ≤ q) s0.heap s0.heap [] := va_S.rf
  have hl := lv_entry ([.ref (ad 1000), .int x, .int (nI j)]) (n := 5) (Nat.le_of_ble_eq_true rfl)
  rw [lg_entry_eq]
  generalize (lg_sl ([.ref (ad 1000), .int x, .int (nI j)]) ++ List.replicate (5 - (lg_sl ([.ref (ad 1000), .int x, .int (nI j)])).length) Slot.unset).toArray = ls at hl ⊢
  have hl : lv_has ls 5 [(0, .ref (ad 1000)), (1, .int x), (2, .int (nI j))] := hl
  have loop_68 : ∀ (fu : Nat) (i : Nat), (i ≤ n) → n + 1 - i ≤ fu → ∀ (H : Heap) (locs : List Loc) (ls : Array Slot), mw D vwCl lo ad (ctM aC ad n th sz sg me (upd gr j (gr j ||| (nI 1) <<< (x &&& 31))) lk P co tb fd wd sm rc X) H → va_S (fun q => lo ≤ q) s0.heap H locs → lv_has ls 5 [(0, .ref (ad 1000)), (1, .int x), (2, .int (nI j)), (3, .int (nI (cnt (inM th (upd gr j (gr j ||| (nI 1) <<< (x &&& 31))) x) i))), (4, .int (nI (i + 1)))] → W pr l en (headSpec (wsO yX4_within cX4_within 5 (some .int)) ({ frames := 2, cells := 0, slots := 0, locals := 43 } : Room)).room s0 mm (([.ref (ad 1000), .int x, .int (nI j)] : List Value).toArray) below meth cc0 H locs 0 0 (MQ below (mD1 D vwCl lo (.int (nI (cnt (inM th (upd gr j (gr j ||| (nI 1) <<< (x &&& 31))) x) n))) ad (ctM aC ad n th sz sg me (upd gr j (gr j ||| (nI 1) <<< (x &&& 31))) lk P co tb fd wd sm rc X)) (([.ref (ad 1000), .int x, .int (nI j)] : List Value).toArray) s0 0 0 (fun q => lo ≤ q)) (F0 mm 68 ls []) := by
    intro fu
    induction fu with
    | zero =>
      intro i hi hfu H locs ls hM hS hl
      exact absurd hfu (by omega)
    | succ fu ih_68 =>
      intro i hi hfu H locs ls hM hS hl
      have hcl := cnt_le (inM th (upd gr j (gr j ||| (nI 1) <<< (x &&& 31))) x) i
      refine lv_iload hx hb dX4_within_68 (lv_at hl 4 rfl) ?_
      refine lv_aload_n hx hb dX4_within_70 rfl (lv_at hl 0 rfl) ?_
      refine m_get F (ci := 4) (v := .int (nI n)) (fun w h => tb_O (inX4 w h)) hK hM ctM_o rfl 0 (by decide) (tb_O lkX4_51) rfl dX4_within_71 ?_
      refine m_icmp_gt F (a := (i + 1)) (b := n) (by omega) (by omega) (tgt := 120) dX4_within_74 (by decide) (fun c_74 => ?_) (fun c_74 => ?_)
      · skip
        have hin9 : n = i := by omega
        subst hin9
        refine lv_iload_n hx hb dX4_within_120 rfl (lv_at hl 3 rfl) ?_
        exact W.iret hx hb hr (fun t ht hW => ⟨⟨_, _, _, rfl, ⟨rfl, rfl, rfl⟩, by rw [ht]; exact hM⟩, hS.F ht⟩) hS.2.2 dX4_within_121
      · skip
        refine lv_aload_n hx hb dX4_within_77 rfl (lv_at hl 0 rfl) ?_
        refine m_get F (ci := 4) (v := .ref (ad 1001)) (fun w h => tb_O (inX4 w h)) hK hM ctM_o rfl 1 (by decide) (tb_O lkX4_7) rfl dX4_within_78 ?_
        refine lv_iload hx hb dX4_within_81 (lv_at hl 4 rfl) ?_
        refine m_zald F hK hM 2 rfl (j := (i + 1)) ctM_ath (by omega) (by decide) dX4_within_83 ?_
        refine m_top (y := (bI (th (i + 1)))) rfl ?_
        refine lv_if_eq (tgt := 112) hx hb dX4_within_84 (by decide) (fun c_84 => ?_) (fun c_84 => ?_)
        · skip
          refine lv_iload_n hx hb dX4_within_112 rfl (lv_at hl 3 rfl) ?_
          refine lv_istore_n (lv' := [(3, .int (nI (cnt (inM th (upd gr j (gr j ||| (nI 1) <<< (x &&& 31))) x) i))), (0, .ref (ad 1000)), (1, .int x), (2, .int (nI j)), (4, .int (nI (i + 1)))]) hx hb dX4_within_113 rfl hl (by decide) rfl (fun ls hl => ?_)
          refine lv_iinc (v := (nI (i + 1 + 1))) (lv' := [(4, .int (nI (i + 1 + 1))), (3, .int (nI (cnt (inM th (upd gr j (gr j ||| (nI 1) <<< (x &&& 31))) x) i))), (0, .ref (ad 1000)), (1, .int x), (2, .int (nI j))]) hx hb dX4_within_114 hl (k := 4) rfl (nI_1 (i + 1)) (by decide) rfl (fun ls hl => ?_)
          refine lv_goto (tgt := 68) hx hb dX4_within_117 (by decide) ?_
          have hcn : cnt (inM th (upd gr j (gr j ||| (nI 1) <<< (x &&& 31))) x) (i + 1) = cnt (inM th (upd gr j (gr j ||| (nI 1) <<< (x &&& 31))) x) i := by show cnt (inM th (upd gr j (gr j ||| (nI 1) <<< (x &&& 31))) x) i + _ = _; rw [if_neg (by first | simp [inM, bI_ne c_84, c_88, c_103] | simp [inM, bI_eq c_84])]; rfl
          rw [← hcn] at hl
          exact ih_68 (i + 1) (by omega) (by omega) _ _ _ hM hS (lv_sub hl [2, 3, 4, 1, 0] rfl)
        · skip
          refine lv_iload_n hx hb dX4_within_87 rfl (lv_at hl 1 rfl) ?_
          refine lv_if_lt (tgt := 106) hx hb dX4_within_88 (by decide) (fun c_88 => ?_) (fun c_88 => ?_)
          · skip
            refine lv_iload_n hx hb dX4_within_106 rfl (lv_at hl 3 rfl) ?_
            refine lv_iconst (v := (nI 1)) hx hb dX4_within_107 (by decide) ?_
            refine lv_iadd hx hb dX4_within_108 ?_
            refine m_top (nI_add (cnt (inM th (upd gr j (gr j ||| (nI 1) <<< (x &&& 31))) x) i) 1) ?_
            refine lv_goto (tgt := 113) hx hb dX4_within_109 (by decide) ?_
            refine lv_istore_n (lv' := [(3, .int (nI (cnt (inM th (upd gr j (gr j ||| (nI 1) <<< (x &&& 31))) x) i + 1))), (0, .ref (ad 1000)), (1, .int x), (2, .int (nI j)), (4, .int (nI (i + 1)))]) hx hb dX4_within_113 rfl hl (by decide) rfl (fun ls hl => ?_)
            refine lv_iinc (v := (nI (i + 1 + 1))) (lv' := [(4, .int (nI (i + 1 + 1))), (3, .int (nI (cnt (inM th (upd gr j (gr j ||| (nI 1) <<< (x &&& 31))) x) i + 1))), (0, .ref (ad 1000)), (1, .int x), (2, .int (nI j))]) hx hb dX4_within_114 hl (k := 4) rfl (nI_1 (i + 1)) (by decide) rfl (fun ls hl => ?_)
            refine lv_goto (tgt := 68) hx hb dX4_within_117 (by decide) ?_
            have hcn : cnt (inM th (upd gr j (gr j ||| (nI 1) <<< (x &&& 31))) x) (i + 1) = cnt (inM th (upd gr j (gr j ||| (nI 1) <<< (x &&& 31))) x) i + 1 := by show cnt (inM th (upd gr j (gr j ||| (nI 1) <<< (x &&& 31))) x) i + _ = _; rw [if_pos (by first | simp [inM, bI_ne c_84, c_88, c_103] | simp [inM, bI_ne c_84, c_88])]
            rw [← hcn] at hl
            exact ih_68 (i + 1) (by omega) (by omega) _ _ _ hM hS (lv_sub hl [2, 3, 4, 1, 0] rfl)
          · skip
            refine lv_aload_n hx hb dX4_within_91 rfl (lv_at hl 0 rfl) ?_
            refine m_get F (ci := 4) (v := .ref (ad 1005)) (fun w h => tb_O (inX4 w h)) hK hM ctM_o rfl 5 (by decide) (tb_O lkX4_23) rfl dX4_within_92 ?_
            refine lv_iload hx hb dX4_within_95 (lv_at hl 4 rfl) ?_
            refine m_iald F hK hM 0 rfl (j := (i + 1)) ctM_agr (by omega) (by decide) dX4_within_97 ?_
            refine m_top (y := ((upd gr j (gr j ||| (nI 1) <<< (x &&& 31))) (i + 1))) rfl ?_
            refine lv_iload_n hx hb dX4_within_98 rfl (lv_at hl 1 rfl) ?_
            refine lv_ishr hx hb dX4_within_99 ?_
            refine lv_iconst (v := (nI 1)) hx hb dX4_within_100 (by decide) ?_
            refine lv_iand hx hb dX4_within_101 ?_
            refine lv_iconst (v := (nI 1)) hx hb dX4_within_102 (by decide) ?_
            refine lv_icmp_ne (tgt := 112) hx hb dX4_within_103 (by decide) (fun c_103 => ?_) (fun c_103 => ?_)
            · skip
              refine lv_iload_n hx hb dX4_within_112 rfl (lv_at hl 3 rfl) ?_
              refine lv_istore_n (lv' := [(3, .int (nI (cnt (inM th (upd gr j (gr j ||| (nI 1) <<< (x &&& 31))) x) i))), (0, .ref (ad 1000)), (1, .int x), (2, .int (nI j)), (4, .int (nI (i + 1)))]) hx hb dX4_within_113 rfl hl (by decide) rfl (fun ls hl => ?_)
              refine lv_iinc (v := (nI (i + 1 + 1))) (lv' := [(4, .int (nI (i + 1 + 1))), (3, .int (nI (cnt (inM th (upd gr j (gr j ||| (nI 1) <<< (x &&& 31))) x) i))), (0, .ref (ad 1000)), (1, .int x), (2, .int (nI j))]) hx hb dX4_within_114 hl (k := 4) rfl (nI_1 (i + 1)) (by decide) rfl (fun ls hl => ?_)
              refine lv_goto (tgt := 68) hx hb dX4_within_117 (by decide) ?_
              have hcn : cnt (inM th (upd gr j (gr j ||| (nI 1) <<< (x &&& 31))) x) (i + 1) = cnt (inM th (upd gr j (gr j ||| (nI 1) <<< (x &&& 31))) x) i := by show cnt (inM th (upd gr j (gr j ||| (nI 1) <<< (x &&& 31))) x) i + _ = _; rw [if_neg (by first | simp [inM, bI_ne c_84, c_88, c_103] | simp [inM, bI_eq c_84])]; rfl
              rw [← hcn] at hl
              exact ih_68 (i + 1) (by omega) (by omega) _ _ _ hM hS (lv_sub hl [2, 3, 4, 1, 0] rfl)
            · skip
              refine lv_iload_n hx hb dX4_within_106 rfl (lv_at hl 3 rfl) ?_
              refine lv_iconst (v := (nI 1)) hx hb dX4_within_107 (by decide) ?_
              refine lv_iadd hx hb dX4_within_108 ?_
              refine m_top (nI_add (cnt (inM th (upd gr j (gr j ||| (nI 1) <<< (x &&& 31))) x) i) 1) ?_
              refine lv_goto (tgt := 113) hx hb dX4_within_109 (by decide) ?_
              refine lv_istore_n (lv' := [(3, .int (nI (cnt (inM th (upd gr j (gr j ||| (nI 1) <<< (x &&& 31))) x) i + 1))), (0, .ref (ad 1000)), (1, .int x), (2, .int (nI j)), (4, .int (nI (i + 1)))]) hx hb dX4_within_113 rfl hl (by decide) rfl (fun ls hl => ?_)
              refine lv_iinc (v := (nI (i + 1 + 1))) (lv' := [(4, .int (nI (i + 1 + 1))), (3, .int (nI (cnt (inM th (upd gr j (gr j ||| (nI 1) <<< (x &&& 31))) x) i + 1))), (0, .ref (ad 1000)), (1, .int x), (2, .int (nI j))]) hx hb dX4_within_114 hl (k := 4) rfl (nI_1 (i + 1)) (by decide) rfl (fun ls hl => ?_)
              refine lv_goto (tgt := 68) hx hb dX4_within_117 (by decide) ?_
              have hcn : cnt (inM th (upd gr j (gr j ||| (nI 1) <<< (x &&& 31))) x) (i + 1) = cnt (inM th (upd gr j (gr j ||| (nI 1) <<< (x &&& 31))) x) i + 1 := by show cnt (inM th (upd gr j (gr j ||| (nI 1) <<< (x &&& 31))) x) i + _ = _; rw [if_pos (by first | simp [inM, bI_ne c_84, c_88, c_103] | simp [inM, bI_ne c_84, c_88])]
              rw [← hcn] at hl
              exact ih_68 (i + 1) (by omega) (by omega) _ _ _ hM hS (lv_sub hl [2, 3, 4, 1, 0] rfl)
  refine lv_iload_n hx hb dX4_within_0 rfl (lv_at hl 2 rfl) ?_
  refine lv_if_eq (tgt := 14) hx hb dX4_within_1 (by decide) (fun c_1 => ?_) (fun c_1 => ?_)
  · skip
    exact absurd c_1 (nI_ne0 hj1 (by omega))
  · skip
    refine lv_aload_n hx hb dX4_within_4 rfl (lv_at hl 0 rfl) ?_
    refine lv_iload_n hx hb dX4_within_5 rfl (lv_at hl 2 rfl) ?_
    refine m_d1 (v := .int (bI (isE n th (nI j)))) (ct1 := ctM aC ad n th sz sg me gr lk P co tb fd wd sm rc X) (va_runV (As := [.int (nI j)]) (rest := []) F (c_mIsE l (nI j) h200) (cwV 1 F.2.2.2.2 (go_V (fun _ h => tb_O h) mlX4_58 imX4_isEntry seX4_isEntry iniX4 cdX4_isEntry) rfl rfl rfl (by decide +kernel) ⟨Nat.le_of_ble_eq_true rfl, Nat.le_of_ble_eq_true rfl⟩) (mPreV hKK hM (Nat.le_trans hlo hS.1) ctM_o rfl) rfl rfl hl.1 rfl (lv_room (Nat.le_of_ble_eq_true rfl)) dX4_within_6 ⟨Nat.le_of_ble_eq_true rfl, Nat.le_of_ble_eq_true rfl⟩) hS (fun H locs hM hS => ?_)
    refine lv_if_ne (tgt := 14) hx hb dX4_within_9 (by decide) (fun c_9 => ?_) (fun c_9 => ?_)
    · skip
      refine lv_iload_n hx hb dX4_within_14 rfl (lv_at hl 1 rfl) ?_
      refine lv_iload_n hx hb dX4_within_15 rfl (lv_at hl 2 rfl) ?_
      refine lv_if_ne (tgt := 23) hx hb dX4_within_16 (by decide) (fun c_16 => ?_) (fun c_16 => ?_)
      · skip
        refine lv_iconst (v := (nI 0)) hx hb dX4_within_23 (by decide) ?_
        refine lv_bipush (v := (nI 7)) hx hb dX4_within_24 (by decide) ?_
        refine m_d1 (v := .int (bI (btw x (nI 0) (nI 7)))) (ct1 := ctM aC ad n th sz sg me gr lk P co tb fd wd sm rc X) (va_runS (As := [.int x, .int (nI 0), .int (nI 7)]) (rest := []) F (c_between l x (nI 0) (nI 7)) (va_cwS 3 F.2.2.2.2 (go_S (fun _ h => tb_O h) mlX4_54 stX4_between iniX4 cdX4_between) rfl rfl rfl (by decide +kernel) ⟨Nat.le_of_ble_eq_true rfl, Nat.le_of_ble_eq_true rfl⟩) (mPreS hKK hM (Nat.le_trans hlo hS.1)) rfl rfl hl.1 rfl (lv_room (Nat.le_of_ble_eq_true rfl)) dX4_within_26 ⟨Nat.le_of_ble_eq_true rfl, Nat.le_of_ble_eq_true rfl⟩) hS (fun H locs hM hS => ?_)
        refine lv_if_ne (tgt := 35) hx hb dX4_within_29 (by decide) (fun c_29 => ?_) (fun c_29 => ?_)
        · skip
          refine lv_iload_n hx hb dX4_within_35 rfl (lv_at hl 2 rfl) ?_
          refine lv_if_ne (tgt := 47) hx hb dX4_within_36 (by decide) (fun c_36 => ?_) (fun c_36 => ?_)
          · skip
            refine lv_aload_n hx hb dX4_within_47 rfl (lv_at hl 0 rfl) ?_
            refine m_get F (ci := 4) (v := .ref (ad 1005)) (fun w h => tb_O (inX4 w h)) hK hM ctM_o rfl 5 (by decide) (tb_O lkX4_23) rfl dX4_within_48 ?_
            refine lv_iload_n hx hb dX4_within_51 rfl (lv_at hl 2 rfl) ?_
            refine lv_aload_n hx hb dX4_within_52 rfl (lv_at hl 0 rfl) ?_
            refine m_get F (ci := 4) (v := .ref (ad 1005)) (fun w h => tb_O (inX4 w h)) hK hM ctM_o rfl 5 (by decide) (tb_O lkX4_23) rfl dX4_within_53 ?_
            refine lv_iload_n hx hb dX4_within_56 rfl (lv_at hl 2 rfl) ?_
            refine m_iald F hK hM 0 rfl (j := j) ctM_agr (by omega) (by decide) dX4_within_57 ?_
            refine m_top (y := (gr j)) rfl ?_
            refine lv_iconst (v := (nI 1)) hx hb dX4_within_58 (by decide) ?_
            refine lv_iload_n hx hb dX4_within_59 rfl (lv_at hl 1 rfl) ?_
            refine lv_ishl hx hb dX4_within_60 ?_
            refine lv_ior hx hb dX4_within_61 ?_
            refine m_iast F hK hM hS 0 rfl (j := j) (x := ((gr j) ||| ((nI 1) <<< (x &&& 31)))) ctM_agr (by omega) (by decide) dX4_within_62 (fun H locs hM hS => ?_)
            have hM : mw D vwCl lo ad (ctM aC ad n th sz sg me (upd gr j ((gr j) ||| ((nI 1) <<< (x &&& 31)))) lk P co tb fd wd sm rc X) H := by rw [ctM_gr] at hM; exact hM
            refine lv_iconst (v := (nI 0)) hx hb dX4_within_63 (by decide) ?_
            refine lv_istore_n (lv' := [(3, .int (nI 0)), (0, .ref (ad 1000)), (1, .int x), (2, .int (nI j))]) hx hb dX4_within_64 rfl hl (by decide) rfl (fun ls hl => ?_)
            refine lv_iconst (v := (nI 1)) hx hb dX4_within_65 (by decide) ?_
            refine lv_istore (lv' := [(4, .int (nI 1)), (3, .int (nI 0)), (0, .ref (ad 1000)), (1, .int x), (2, .int (nI j))]) hx hb dX4_within_66 hl (by decide) rfl (fun ls hl => ?_)
            exact loop_68 (n + 1) 0 (Nat.zero_le _) (by omega) _ _ _ hM hS (lv_sub hl [2, 3, 4, 1, 0] rfl)
          · skip
            exact absurd c_36 (nI_ne0 hj1 (by omega))
        · skip
          exact absurd (by rw [hxg]; decide) (fun h : ¬ bI (btw x (nI 0) (nI 7)) = 0 => h c_29)
      · skip
        exact absurd c_16 (nI_ne0 hj1 (by omega))
    · skip
      exact absurd (by rw [isE_nI hj1 hj2 h200, ht]; decide) (fun h : ¬ bI (isE n th (nI j)) = 0 => h c_9)

set_option maxHeartbeats 4000000 in
set_option maxRecDepth 100000 in
theorem c_mOwn (l : Launch) {D : va_G} {aC : Nat → ClassId} {lo : Nat} {ad : Nat → Nat} {n : Nat} {th : Nat → Bool} {sz : Nat → Nat} {sg : Nat → Nat} {me : Nat → Nat} {gr : Nat → Int32} {lk : Int32} {P : Nat} {co : Nat → Option Nat} {tb : Nat → Nat} {fd : Nat} {wd : Nat → Nat} {sm : Nat → Nat} {rc : Nat → Nat} {X : Nat → Option va_E} (e : Nat) (he2 : e ≤ 200) (hP : P ≤ 20) (hsz : ∀ k, sz k ≤ 20) (hco : ∀ k c, co k = some c → c ≤ 1000) (hsg : ∀ a k, k < sz a → sg (20 * a + k) ≤ 127) : Met l yX4_ownSum (wsO yX4_ownSum cX4_ownSum 7 (some .int)) ({ frames := 0, cells := 0, slots := 0, locals := 0 } : Room) (mPc D vwCl (tyA aC) lo ad (ctM aC ad n th sz sg me gr lk P co tb fd wd sm rc X) [.ref (ad 1000), .int (nI e)]) (mQ1 D vwCl lo (fun v ad1 ct1 => v = .int (nI (owM P co sz sg e)) ∧ ad1 = ad ∧ ∃ tb1, ct1 = ctM aC ad n th sz sg me gr lk P co tb1 fd wd sm rc X)) 0 0 (fun q => lo ≤ q) := by
  refine Met.ofW (cc := cX4_ownSum) (maxL := 7) (ret := (some .int)) (by decide) rfl ?_
  intro pr en s0 mm args below meth cc0 s₁ B hml hv
  obtain ⟨rfl, hlo, hM, hKK⟩ := hv
  have hK := hKK.1
  have hr := B.returns
  have hts := atoms_spec (ws := (wsO yX4_ownSum cX4_ownSum 7 (some .int))) B.pre
  have F : CallFix pr mm cc0 cX4_ownSum 7 s0 (([.ref (ad 1000), .int (nI e)] : List Value).toArray) (wsO yX4_ownSum cX4_ownSum 7 (some .int)) RX4 := ⟨B.exec, B.bytes, hml, findClass_of_methodNamed B.named, hts⟩
  have hx := F.1
  have hb := F.2.1
  have hlocks := B.notSynchronized
  have hS : va_S (fun q => lo ≤ q) s0.heap s0.heap [] := va_S.rf
  have hl := lv_entry ([.ref (ad 1000), .int (nI e)]) (n := 7) (Nat.le_of_ble_eq_true rfl)
  rw [lg_entry_eq]
  generalize (lg_sl ([.ref (ad 1000), .int (nI e)]) ++ List.replicate (7 - (lg_sl ([.ref (ad 1000), .int (nI e)])).length) Slot.unset).toArray = ls at hl ⊢
  have hl : lv_has ls 7 [(0, .ref (ad 1000)), (1, .int (nI e))] := hl
  have loop_2 : ∀ (fu : Nat) (p : Nat) (tb : Nat → Nat), (p ≤ P + 1) → (∀ p' s', p' < p → s' ≤ sz e → tb (21 * p' + s') = tB (wM co sg e) p' s') → P + 2 - p ≤ fu → ∀ (H : Heap) (locs : List Loc) (ls : Array Slot), mw D vwCl lo ad (ctM aC ad n th sz sg me gr lk P co tb fd wd sm rc X) H → va_S (fun q => lo ≤ q) s0.heap H locs → lv_has ls 7 [(0, .ref (ad 1000)), (1, .int (nI e)), (2, .int (nI p))] → W pr l en (headSpec (wsO yX4_ownSum cX4_ownSum 7 (some .int)) ({ frames := 0, cells := 0, slots := 0, locals := 0 } : Room)).room s0 mm (([.ref (ad 1000), .int (nI e)] : List Value).toArray) below meth cc0 H locs 0 0 (MQ below (mQ1 D vwCl lo (fun v ad1 ct1 => v = .int (nI (owM P co sz sg e)) ∧ ad1 = ad ∧ ∃ tb1, ct1 = ctM aC ad n th sz sg me gr lk P co tb1 fd wd sm rc X)) (([.ref (ad 1000), .int (nI e)] : List Value).toArray) s0 0 0 (fun q => lo ≤ q)) (F0 mm 2 ls []) := by
    intro fu
    induction fu with
    | zero =>
      intro p tb hi htb hfu H locs ls hM hS hl
      exact absurd hfu (by omega)
    | succ fu ih_2 =>
      intro p tb hi htb hfu H locs ls hM hS hl
      have hze := hsz e
      have loop_12 : ∀ (fu : Nat) (s : Nat) (tb : Nat → Nat), (p ≤ P) → (s ≤ sz e + 1) → (∀ p' s', p' < p → s' ≤ sz e → tb (21 * p' + s') = tB (wM co sg e) p' s') → (∀ s', s' < s → tb (21 * p + s') = tB (wM co sg e) p s') → sz e + 2 - s ≤ fu → ∀ (H : Heap) (locs : List Loc) (ls : Array Slot), mw D vwCl lo ad (ctM aC ad n th sz sg me gr lk P co tb fd wd sm rc X) H → va_S (fun q => lo ≤ q) s0.heap H locs → lv_has ls 7 [(0, .ref (ad 1000)), (1, .int (nI e)), (2, .int (nI p)), (3, .int (nI s))] → W pr l en (headSpec (wsO yX4_ownSum cX4_ownSum 7 (some .int)) ({ frames := 0, cells := 0, slots := 0, locals := 0 } : Room)).room s0 mm (([.ref (ad 1000), .int (nI e)] : List Value).toArray) below meth cc0 H locs 0 0 (MQ below (mQ1 D vwCl lo (fun v ad1 ct1 => v = .int (nI (owM P co sz sg e)) ∧ ad1 = ad ∧ ∃ tb1, ct1 = ctM aC ad n th sz sg me gr lk P co tb1 fd wd sm rc X)) (([.ref (ad 1000), .int (nI e)] : List Value).toArray) s0 0 0 (fun q => lo ≤ q)) (F0 mm 12 ls []) := by
        intro fu
        induction fu with
        | zero =>
          intro s tb hpP hs htb htc hfu H locs ls hM hS hl
          exact absurd hfu (by omega)
        | succ fu ih_12 =>
          intro s tb hpP hs htb htc hfu H locs ls hM hS hl
          refine lv_iload_n hx hb dX4_ownSum_12 rfl (lv_at hl 3 rfl) ?_
          refine lv_aload_n hx hb dX4_ownSum_13 rfl (lv_at hl 0 rfl) ?_
          refine m_get F (ci := 4) (v := .ref (ad 1002)) (fun w h => tb_O (inX4 w h)) hK hM ctM_o rfl 2 (by decide) (tb_O lkX4_13) rfl dX4_ownSum_14 ?_
          refine lv_iload_n hx hb dX4_ownSum_17 rfl (lv_at hl 1 rfl) ?_
          refine m_iald F hK hM 0 rfl (j := e) ctM_asz (by omega) (by decide) dX4_ownSum_18 ?_
          refine m_top (y := (nI (sz e))) rfl ?_
          refine m_icmp_gt F (a := s) (b := (sz e)) (by omega) (by omega) (tgt := 228) dX4_ownSum_19 (by decide) (fun c_19 => ?_) (fun c_19 => ?_)
          · skip
            have hin8 : s = sz e + 1 := by omega
            subst hin8
            refine lv_iinc (v := (nI (p + 1))) (lv' := [(2, .int (nI (p + 1))), (0, .ref (ad 1000)), (1, .int (nI e)), (3, .int (nI (sz e + 1)))]) hx hb dX4_ownSum_228 hl (k := 2) rfl (nI_1 p) (by decide) rfl (fun ls hl => ?_)
            refine lv_goto (tgt := 2) hx hb dX4_ownSum_231 (by decide) ?_
            exact ih_2 (p + 1) tb (by omega) (fun p' s' hp hs' => (Nat.lt_or_ge p' p).elim (fun q => htb p' s' q hs') (fun q => by rw [show p' = p by omega]; exact htc s' (by omega))) (by omega) _ _ _ hM hS (lv_sub hl [1, 2, 0] rfl)
          · skip
            rcases p with _ | r <;> rcases s with _ | k
            · skip
              refine lv_iload_n hx hb dX4_ownSum_22 rfl (lv_at hl 2 rfl) ?_
              refine lv_if_ne (tgt := 34) hx hb dX4_ownSum_23 (by decide) (fun c_23 => ?_) (fun c_23 => ?_)
              · skip
                exact absurd nI_0 c_23
              · skip
                refine lv_iload_n hx hb dX4_ownSum_26 rfl (lv_at hl 3 rfl) ?_
                refine lv_if_ne (tgt := 34) hx hb dX4_ownSum_27 (by decide) (fun c_27 => ?_) (fun c_27 => ?_)
                · skip
                  exact absurd nI_0 c_27
                · skip
                  refine lv_iconst (v := (nI 0)) hx hb dX4_ownSum_30 (by decide) ?_
                  refine lv_goto (tgt := 36) hx hb dX4_ownSum_31 (by decide) ?_
                  refine lv_istore (lv' := [(4, .int (nI 0)), (0, .ref (ad 1000)), (1, .int (nI e)), (2, .int (nI 0)), (3, .int (nI 0))]) hx hb dX4_ownSum_36 hl (by decide) rfl (fun ls hl => ?_)
                  refine lv_iload_n hx hb dX4_ownSum_38 rfl (lv_at hl 4 rfl) ?_
                  refine lv_if_le (tgt := 81) hx hb dX4_ownSum_39 (by decide) (fun c_39 => ?_) (fun c_39 => ?_)
                  · skip
                    refine lv_iload_n hx hb dX4_ownSum_81 rfl (lv_at hl 3 rfl) ?_
                    refine lv_if_le (tgt := 126) hx hb dX4_ownSum_82 (by decide) (fun c_82 => ?_) (fun c_82 => ?_)
                    · skip
                      refine lv_iload_n hx hb dX4_ownSum_126 rfl (lv_at hl 3 rfl) ?_
                      refine lv_if_le (tgt := 209) hx hb dX4_ownSum_127 (by decide) (fun c_127 => ?_) (fun c_127 => ?_)
                      · skip
                        refine lv_aload_n hx hb dX4_ownSum_209 rfl (lv_at hl 1 rfl) ?_
                        refine m_get F (ci := 4) (v := .ref (ad 1007)) (fun w h => tb_O (inX4 w h)) hK hM ctM_o rfl 9 (by decide) (tb_O lkX4_33) rfl dX4_ownSum_210 ?_
                        refine lv_bipush (v := (nI 21)) hx hb dX4_ownSum_213 (by decide) ?_
                        refine lv_iload_n hx hb dX4_ownSum_215 rfl (lv_at hl 3 rfl) ?_
                        refine lv_imul hx hb dX4_ownSum_216 ?_
                        refine m_top (pk_mul 21 0) ?_
                        refine lv_iload_n hx hb dX4_ownSum_217 rfl (lv_at hl 4 rfl) ?_
                        refine lv_iadd hx hb dX4_ownSum_218 ?_
                        refine m_top (nI_add (21 * 0) 0) ?_
                        refine lv_iload hx hb dX4_ownSum_219 (lv_at hl 0 rfl) ?_
                        refine m_top (y := nI (tB (wM co sg e) 0 0)) (congrArg nI (show 0 = tB (wM co sg e) 0 0 from (by simp only [tB]))) ?_
                        refine m_iast F hK hM hS 0 rfl (j := (21 * 0 + 0)) (x := (nI (tB (wM co sg e) 0 0))) ctM_atb (by omega) (by decide) dX4_ownSum_221 (fun H locs hM hS => ?_)
                        have hM : mw D vwCl lo ad (ctM aC ad n th sz sg me gr lk P co (un tb (21 * 0 + 0) (tB (wM co sg e) 0 0)) fd wd sm rc X) H := by rw [upd_nI, ctM_tb] at hM; exact hM
                        refine lv_iinc (v := (nI (0 + 1))) (lv' := [(3, .int (nI (0 + 1))), (4, .int (nI 0)), (0, .ref (ad 1000)), (1, .int (nI e)), (2, .int (nI 0))]) hx hb dX4_ownSum_222 hl (k := 4) rfl (nI_1 0) (by decide) rfl (fun ls hl => ?_)
                        refine lv_goto (tgt := 12) hx hb dX4_ownSum_225 (by decide) ?_
                        exact ih_12 (0 + 1) (un tb (21 * 0 + 0) (tB (wM co sg e) 0 0)) (by omega) (by omega) (fun p' s' hp hs' => by rw [show un tb (21 * 0 + 0) (tB (wM co sg e) 0 0) (21 * p' + s') = tb (21 * p' + s') from va_up_ne _ _ (by omega)]; exact htb p' s' hp hs') (fun s' hs' => (Nat.lt_or_ge s' (0)).elim (fun q => by rw [show un tb (21 * 0 + 0) (tB (wM co sg e) 0 0) (21 * 0 + s') = tb (21 * 0 + s') from va_up_ne _ _ (by omega)]; exact htc s' q) (fun q => by rw [show s' = 0 by omega]; exact va_up_self _ _ _)) (by omega) _ _ _ hM hS (lv_sub hl [2, 3, 4, 0] rfl)
                      · skip
                        exact absurd (by rw [nI_0]; decide) c_127
                    · skip
                      exact absurd (by rw [nI_0]; decide) c_82
                  · skip
                    exact absurd (by rw [nI_0]; decide) c_39
            · skip
              refine lv_iload_n hx hb dX4_ownSum_22 rfl (lv_at hl 2 rfl) ?_
              refine lv_if_ne (tgt := 34) hx hb dX4_ownSum_23 (by decide) (fun c_23 => ?_) (fun c_23 => ?_)
              · skip
                exact absurd nI_0 c_23
              · skip
                refine lv_iload_n hx hb dX4_ownSum_26 rfl (lv_at hl 3 rfl) ?_
                refine lv_if_ne (tgt := 34) hx hb dX4_ownSum_27 (by decide) (fun c_27 => ?_) (fun c_27 => ?_)
                · skip
                  refine lv_ldc (v := nI 1000000) hx hb F.2.2.2.1 (F.2.2.2.2 _ (tb_O kcX4_66)) dX4_ownSum_34 ?_
                  refine lv_istore (lv' := [(4, .int (nI 1000000)), (0, .ref (ad 1000)), (1, .int (nI e)), (2, .int (nI 0)), (3, .int (nI (k + 1)))]) hx hb dX4_ownSum_36 hl (by decide) rfl (fun ls hl => ?_)
                  refine lv_iload_n hx hb dX4_ownSum_38 rfl (lv_at hl 4 rfl) ?_
                  refine lv_if_le (tgt := 81) hx hb dX4_ownSum_39 (by decide) (fun c_39 => ?_) (fun c_39 => ?_)
                  · skip
                    exact absurd c_39 (nI_nle (by omega) (by omega))
                  · skip
                    refine lv_aload_n hx hb dX4_ownSum_42 rfl (lv_at hl 1 rfl) ?_
                    refine m_get F (ci := 4) (v := .ref (ad 1007)) (fun w h => tb_O (inX4 w h)) hK hM ctM_o rfl 9 (by decide) (tb_O lkX4_33) rfl dX4_ownSum_43 ?_
                    refine lv_bipush (v := (nI 21)) hx hb dX4_ownSum_46 (by decide) ?_
                    refine lv_iload_n hx hb dX4_ownSum_48 rfl (lv_at hl 3 rfl) ?_
                    refine lv_imul hx hb dX4_ownSum_49 ?_
                    refine m_top (pk_mul 21 0) ?_
                    refine lv_iload_n hx hb dX4_ownSum_50 rfl (lv_at hl 4 rfl) ?_
                    refine lv_iadd hx hb dX4_ownSum_51 ?_
                    refine m_top (nI_add (21 * 0) (k + 1)) ?_
                    refine lv_iconst (v := (nI 1)) hx hb dX4_ownSum_52 (by decide) ?_
                    refine lv_isub hx hb dX4_ownSum_53 ?_
                    refine m_top (y := (nI (21 * 0 + k))) ((pk_sub (by omega)).trans (congrArg nI (by omega))) ?_
                    refine m_iald F hK hM 0 rfl (j := (21 * 0 + k)) ctM_atb (by omega) (by decide) dX4_ownSum_54 ?_
                    refine m_top (y := (nI (tB (wM co sg e) 0 k))) (congrArg nI (htc k (by omega))) ?_
                    refine lv_bipush (v := (nI 30)) hx hb dX4_ownSum_55 (by decide) ?_
                    refine lv_iadd hx hb dX4_ownSum_57 ?_
                    refine m_top (nI_add (tB (wM co sg e) 0 k) 30) ?_
                    refine lv_iload hx hb dX4_ownSum_58 (lv_at hl 0 rfl) ?_
                    have hb1 := tB_le (w := (wM co sg e)) 0 k
                    refine m_icmp_ge F (a := (tB (wM co sg e) 0 k + 30)) (b := 1000000) (by omega) (by omega) (tgt := 81) dX4_ownSum_60 (by decide) (fun c_60 => ?_) (fun c_60 => ?_)
                    · skip
                      exact absurd c_60 (by omega)
                    · skip
                      refine lv_aload_n hx hb dX4_ownSum_63 rfl (lv_at hl 1 rfl) ?_
                      refine m_get F (ci := 4) (v := .ref (ad 1007)) (fun w h => tb_O (inX4 w h)) hK hM ctM_o rfl 9 (by decide) (tb_O lkX4_33) rfl dX4_ownSum_64 ?_
                      refine lv_bipush (v := (nI 21)) hx hb dX4_ownSum_67 (by decide) ?_
                      refine lv_iload_n hx hb dX4_ownSum_69 rfl (lv_at hl 3 rfl) ?_
                      refine lv_imul hx hb dX4_ownSum_70 ?_
                      refine m_top (pk_mul 21 0) ?_
                      refine lv_iload_n hx hb dX4_ownSum_71 rfl (lv_at hl 4 rfl) ?_
                      refine lv_iadd hx hb dX4_ownSum_72 ?_
                      refine m_top (nI_add (21 * 0) (k + 1)) ?_
                      refine lv_iconst (v := (nI 1)) hx hb dX4_ownSum_73 (by decide) ?_
                      refine lv_isub hx hb dX4_ownSum_74 ?_
                      refine m_top (y := (nI (21 * 0 + k))) ((pk_sub (by omega)).trans (congrArg nI (by omega))) ?_
                      refine m_iald F hK hM 0 rfl (j := (21 * 0 + k)) ctM_atb (by omega) (by decide) dX4_ownSum_75 ?_
                      refine m_top (y := (nI (tB (wM co sg e) 0 k))) (congrArg nI (htc k (by omega))) ?_
                      refine lv_bipush (v := (nI 30)) hx hb dX4_ownSum_76 (by decide) ?_
                      refine lv_iadd hx hb dX4_ownSum_78 ?_
                      refine m_top (nI_add (tB (wM co sg e) 0 k) 30) ?_
                      refine lv_istore (lv' := [(4, .int (nI (tB (wM co sg e) 0 k + 30))), (0, .ref (ad 1000)), (1, .int (nI e)), (2, .int (nI 0)), (3, .int (nI (k + 1)))]) hx hb dX4_ownSum_79 hl (by decide) rfl (fun ls hl => ?_)
                      refine lv_iload_n hx hb dX4_ownSum_81 rfl (lv_at hl 3 rfl) ?_
                      refine lv_if_le (tgt := 126) hx hb dX4_ownSum_82 (by decide) (fun c_82 => ?_) (fun c_82 => ?_)
                      · skip
                        refine lv_iload_n hx hb dX4_ownSum_126 rfl (lv_at hl 3 rfl) ?_
                        refine lv_if_le (tgt := 209) hx hb dX4_ownSum_127 (by decide) (fun c_127 => ?_) (fun c_127 => ?_)
                        · skip
                          refine lv_aload_n hx hb dX4_ownSum_209 rfl (lv_at hl 1 rfl) ?_
                          refine m_get F (ci := 4) (v := .ref (ad 1007)) (fun w h => tb_O (inX4 w h)) hK hM ctM_o rfl 9 (by decide) (tb_O lkX4_33) rfl dX4_ownSum_210 ?_
                          refine lv_bipush (v := (nI 21)) hx hb dX4_ownSum_213 (by decide) ?_
                          refine lv_iload_n hx hb dX4_ownSum_215 rfl (lv_at hl 3 rfl) ?_
                          refine lv_imul hx hb dX4_ownSum_216 ?_
                          refine m_top (pk_mul 21 0) ?_
                          refine lv_iload_n hx hb dX4_ownSum_217 rfl (lv_at hl 4 rfl) ?_
                          refine lv_iadd hx hb dX4_ownSum_218 ?_
                          refine m_top (nI_add (21 * 0) (k + 1)) ?_
                          refine lv_iload hx hb dX4_ownSum_219 (lv_at hl 0 rfl) ?_
                          refine m_top (y := nI (tB (wM co sg e) 0 (k + 1))) (congrArg nI (show tB (wM co sg e) 0 k + 30 = tB (wM co sg e) 0 (k + 1) from (by simp only [tB]))) ?_
                          refine m_iast F hK hM hS 0 rfl (j := (21 * 0 + (k + 1))) (x := (nI (tB (wM co sg e) 0 (k + 1)))) ctM_atb (by omega) (by decide) dX4_ownSum_221 (fun H locs hM hS => ?_)
                          have hM : mw D vwCl lo ad (ctM aC ad n th sz sg me gr lk P co (un tb (21 * 0 + (k + 1)) (tB (wM co sg e) 0 (k + 1))) fd wd sm rc X) H := by rw [upd_nI, ctM_tb] at hM; exact hM
                          refine lv_iinc (v := (nI (k + 1 + 1))) (lv' := [(3, .int (nI (k + 1 + 1))), (4, .int (nI (tB (wM co sg e) 0 k + 30))), (0, .ref (ad 1000)), (1, .int (nI e)), (2, .int (nI 0))]) hx hb dX4_ownSum_222 hl (k := 4) rfl (nI_1 (k + 1)) (by decide) rfl (fun ls hl => ?_)
                          refine lv_goto (tgt := 12) hx hb dX4_ownSum_225 (by decide) ?_
                          exact ih_12 (k + 1 + 1) (un tb (21 * 0 + (k + 1)) (tB (wM co sg e) 0 (k + 1))) (by omega) (by omega) (fun p' s' hp hs' => by rw [show un tb (21 * 0 + (k + 1)) (tB (wM co sg e) 0 (k + 1)) (21 * p' + s') = tb (21 * p' + s') from va_up_ne _ _ (by omega)]; exact htb p' s' hp hs') (fun s' hs' => (Nat.lt_or_ge s' (k + 1)).elim (fun q => by rw [show un tb (21 * 0 + (k + 1)) (tB (wM co sg e) 0 (k + 1)) (21 * 0 + s') = tb (21 * 0 + s') from va_up_ne _ _ (by omega)]; exact htc s' q) (fun q => by rw [show s' = k + 1 by omega]; exact va_up_self _ _ _)) (by omega) _ _ _ hM hS (lv_sub hl [2, 3, 4, 0] rfl)
                        · skip
                          exact absurd (by rw [nI_0]; decide) c_127
                      · skip
                        exact absurd (by rw [nI_0]; decide) c_82
                · skip
                  exact absurd c_27 (nI_ne0 (by omega) (by omega))
            · skip
              refine lv_iload_n hx hb dX4_ownSum_22 rfl (lv_at hl 2 rfl) ?_
              refine lv_if_ne (tgt := 34) hx hb dX4_ownSum_23 (by decide) (fun c_23 => ?_) (fun c_23 => ?_)
              · skip
                refine lv_ldc (v := nI 1000000) hx hb F.2.2.2.1 (F.2.2.2.2 _ (tb_O kcX4_66)) dX4_ownSum_34 ?_
                refine lv_istore (lv' := [(4, .int (nI 1000000)), (0, .ref (ad 1000)), (1, .int (nI e)), (2, .int (nI (r + 1))), (3, .int (nI 0))]) hx hb dX4_ownSum_36 hl (by decide) rfl (fun ls hl => ?_)
                refine lv_iload_n hx hb dX4_ownSum_38 rfl (lv_at hl 4 rfl) ?_
                refine lv_if_le (tgt := 81) hx hb dX4_ownSum_39 (by decide) (fun c_39 => ?_) (fun c_39 => ?_)
                · skip
                  refine lv_iload_n hx hb dX4_ownSum_81 rfl (lv_at hl 3 rfl) ?_
                  refine lv_if_le (tgt := 126) hx hb dX4_ownSum_82 (by decide) (fun c_82 => ?_) (fun c_82 => ?_)
                  · skip
                    exact absurd c_82 (nI_nle (by omega) (by omega))
                  · skip
                    refine lv_aload_n hx hb dX4_ownSum_85 rfl (lv_at hl 1 rfl) ?_
                    refine m_get F (ci := 4) (v := .ref (ad 1007)) (fun w h => tb_O (inX4 w h)) hK hM ctM_o rfl 9 (by decide) (tb_O lkX4_33) rfl dX4_ownSum_86 ?_
                    refine lv_bipush (v := (nI 21)) hx hb dX4_ownSum_89 (by decide) ?_
                    refine lv_iload_n hx hb dX4_ownSum_91 rfl (lv_at hl 3 rfl) ?_
                    refine lv_imul hx hb dX4_ownSum_92 ?_
                    refine m_top (pk_mul 21 (r + 1)) ?_
                    refine lv_bipush (v := (nI 21)) hx hb dX4_ownSum_93 (by decide) ?_
                    refine lv_isub hx hb dX4_ownSum_95 ?_
                    refine m_top (y := (nI (21 * r))) ((pk_sub (by omega)).trans (congrArg nI (by omega))) ?_
                    refine lv_iload_n hx hb dX4_ownSum_96 rfl (lv_at hl 4 rfl) ?_
                    refine lv_iadd hx hb dX4_ownSum_97 ?_
                    refine m_top (nI_add (21 * r) 0) ?_
                    refine m_iald F hK hM 0 rfl (j := (21 * r + 0)) ctM_atb (by omega) (by decide) dX4_ownSum_98 ?_
                    refine m_top (y := (nI (tB (wM co sg e) r 0))) (congrArg nI (htb r 0 (by omega) (by omega))) ?_
                    refine lv_bipush (v := (nI 25)) hx hb dX4_ownSum_99 (by decide) ?_
                    refine lv_iadd hx hb dX4_ownSum_101 ?_
                    refine m_top (nI_add (tB (wM co sg e) r 0) 25) ?_
                    refine lv_iload hx hb dX4_ownSum_102 (lv_at hl 0 rfl) ?_
                    have hb2 := tB_le (w := (wM co sg e)) r 0
                    refine m_icmp_ge F (a := (tB (wM co sg e) r 0 + 25)) (b := 1000000) (by omega) (by omega) (tgt := 126) dX4_ownSum_104 (by decide) (fun c_104 => ?_) (fun c_104 => ?_)
                    · skip
                      exact absurd c_104 (by omega)
                    · skip
                      refine lv_aload_n hx hb dX4_ownSum_107 rfl (lv_at hl 1 rfl) ?_
                      refine m_get F (ci := 4) (v := .ref (ad 1007)) (fun w h => tb_O (inX4 w h)) hK hM ctM_o rfl 9 (by decide) (tb_O lkX4_33) rfl dX4_ownSum_108 ?_
                      refine lv_bipush (v := (nI 21)) hx hb dX4_ownSum_111 (by decide) ?_
                      refine lv_iload_n hx hb dX4_ownSum_113 rfl (lv_at hl 3 rfl) ?_
                      refine lv_imul hx hb dX4_ownSum_114 ?_
                      refine m_top (pk_mul 21 (r + 1)) ?_
                      refine lv_bipush (v := (nI 21)) hx hb dX4_ownSum_115 (by decide) ?_
                      refine lv_isub hx hb dX4_ownSum_117 ?_
                      refine m_top (y := (nI (21 * r))) ((pk_sub (by omega)).trans (congrArg nI (by omega))) ?_
                      refine lv_iload_n hx hb dX4_ownSum_118 rfl (lv_at hl 4 rfl) ?_
                      refine lv_iadd hx hb dX4_ownSum_119 ?_
                      refine m_top (nI_add (21 * r) 0) ?_
                      refine m_iald F hK hM 0 rfl (j := (21 * r + 0)) ctM_atb (by omega) (by decide) dX4_ownSum_120 ?_
                      refine m_top (y := (nI (tB (wM co sg e) r 0))) (congrArg nI (htb r 0 (by omega) (by omega))) ?_
                      refine lv_bipush (v := (nI 25)) hx hb dX4_ownSum_121 (by decide) ?_
                      refine lv_iadd hx hb dX4_ownSum_123 ?_
                      refine m_top (nI_add (tB (wM co sg e) r 0) 25) ?_
                      refine lv_istore (lv' := [(4, .int (nI (tB (wM co sg e) r 0 + 25))), (0, .ref (ad 1000)), (1, .int (nI e)), (2, .int (nI (r + 1))), (3, .int (nI 0))]) hx hb dX4_ownSum_124 hl (by decide) rfl (fun ls hl => ?_)
                      refine lv_iload_n hx hb dX4_ownSum_126 rfl (lv_at hl 3 rfl) ?_
                      refine lv_if_le (tgt := 209) hx hb dX4_ownSum_127 (by decide) (fun c_127 => ?_) (fun c_127 => ?_)
                      · skip
                        exact absurd c_127 (nI_nle (by omega) (by omega))
                      · skip
                        refine lv_iload_n hx hb dX4_ownSum_130 rfl (lv_at hl 4 rfl) ?_
                        refine lv_if_le (tgt := 209) hx hb dX4_ownSum_131 (by decide) (fun c_131 => ?_) (fun c_131 => ?_)
                        · skip
                          refine lv_aload_n hx hb dX4_ownSum_209 rfl (lv_at hl 1 rfl) ?_
                          refine m_get F (ci := 4) (v := .ref (ad 1007)) (fun w h => tb_O (inX4 w h)) hK hM ctM_o rfl 9 (by decide) (tb_O lkX4_33) rfl dX4_ownSum_210 ?_
                          refine lv_bipush (v := (nI 21)) hx hb dX4_ownSum_213 (by decide) ?_
                          refine lv_iload_n hx hb dX4_ownSum_215 rfl (lv_at hl 3 rfl) ?_
                          refine lv_imul hx hb dX4_ownSum_216 ?_
                          refine m_top (pk_mul 21 (r + 1)) ?_
                          refine lv_iload_n hx hb dX4_ownSum_217 rfl (lv_at hl 4 rfl) ?_
                          refine lv_iadd hx hb dX4_ownSum_218 ?_
                          refine m_top (nI_add (21 * (r + 1)) 0) ?_
                          refine lv_iload hx hb dX4_ownSum_219 (lv_at hl 0 rfl) ?_
                          refine m_top (y := nI (tB (wM co sg e) (r + 1) 0)) (congrArg nI (show tB (wM co sg e) r 0 + 25 = tB (wM co sg e) (r + 1) 0 from (by simp only [tB]))) ?_
                          refine m_iast F hK hM hS 0 rfl (j := (21 * (r + 1) + 0)) (x := (nI (tB (wM co sg e) (r + 1) 0))) ctM_atb (by omega) (by decide) dX4_ownSum_221 (fun H locs hM hS => ?_)
                          have hM : mw D vwCl lo ad (ctM aC ad n th sz sg me gr lk P co (un tb (21 * (r + 1) + 0) (tB (wM co sg e) (r + 1) 0)) fd wd sm rc X) H := by rw [upd_nI, ctM_tb] at hM; exact hM
                          refine lv_iinc (v := (nI (0 + 1))) (lv' := [(3, .int (nI (0 + 1))), (4, .int (nI (tB (wM co sg e) r 0 + 25))), (0, .ref (ad 1000)), (1, .int (nI e)), (2, .int (nI (r + 1)))]) hx hb dX4_ownSum_222 hl (k := 4) rfl (nI_1 0) (by decide) rfl (fun ls hl => ?_)
                          refine lv_goto (tgt := 12) hx hb dX4_ownSum_225 (by decide) ?_
                          exact ih_12 (0 + 1) (un tb (21 * (r + 1) + 0) (tB (wM co sg e) (r + 1) 0)) (by omega) (by omega) (fun p' s' hp hs' => by rw [show un tb (21 * (r + 1) + 0) (tB (wM co sg e) (r + 1) 0) (21 * p' + s') = tb (21 * p' + s') from va_up_ne _ _ (by omega)]; exact htb p' s' hp hs') (fun s' hs' => (Nat.lt_or_ge s' (0)).elim (fun q => by rw [show un tb (21 * (r + 1) + 0) (tB (wM co sg e) (r + 1) 0) (21 * (r + 1) + s') = tb (21 * (r + 1) + s') from va_up_ne _ _ (by omega)]; exact htc s' q) (fun q => by rw [show s' = 0 by omega]; exact va_up_self _ _ _)) (by omega) _ _ _ hM hS (lv_sub hl [2, 3, 4, 0] rfl)
                        · skip
                          exact absurd (by rw [nI_0]; decide) c_131
                · skip
                  exact absurd (by rw [nI_0]; decide) c_39
              · skip
                exact absurd c_23 (nI_ne0 (by omega) (by omega))
            · skip
              refine lv_iload_n hx hb dX4_ownSum_22 rfl (lv_at hl 2 rfl) ?_
              refine lv_if_ne (tgt := 34) hx hb dX4_ownSum_23 (by decide) (fun c_23 => ?_) (fun c_23 => ?_)
              · skip
                refine lv_ldc (v := nI 1000000) hx hb F.2.2.2.1 (F.2.2.2.2 _ (tb_O kcX4_66)) dX4_ownSum_34 ?_
                refine lv_istore (lv' := [(4, .int (nI 1000000)), (0, .ref (ad 1000)), (1, .int (nI e)), (2, .int (nI (r + 1))), (3, .int (nI (k + 1)))]) hx hb dX4_ownSum_36 hl (by decide) rfl (fun ls hl => ?_)
                refine lv_iload_n hx hb dX4_ownSum_38 rfl (lv_at hl 4 rfl) ?_
                refine lv_if_le (tgt := 81) hx hb dX4_ownSum_39 (by decide) (fun c_39 => ?_) (fun c_39 => ?_)
                · skip
                  exact absurd c_39 (nI_nle (by omega) (by omega))
                · skip
                  refine lv_aload_n hx hb dX4_ownSum_42 rfl (lv_at hl 1 rfl) ?_
                  refine m_get F (ci := 4) (v := .ref (ad 1007)) (fun w h => tb_O (inX4 w h)) hK hM ctM_o rfl 9 (by decide) (tb_O lkX4_33) rfl dX4_ownSum_43 ?_
                  refine lv_bipush (v := (nI 21)) hx hb dX4_ownSum_46 (by decide) ?_
                  refine lv_iload_n hx hb dX4_ownSum_48 rfl (lv_at hl 3 rfl) ?_
                  refine lv_imul hx hb dX4_ownSum_49 ?_
                  refine m_top (pk_mul 21 (r + 1)) ?_
                  refine lv_iload_n hx hb dX4_ownSum_50 rfl (lv_at hl 4 rfl) ?_
                  refine lv_iadd hx hb dX4_ownSum_51 ?_
                  refine m_top (nI_add (21 * (r + 1)) (k + 1)) ?_
                  refine lv_iconst (v := (nI 1)) hx hb dX4_ownSum_52 (by decide) ?_
                  refine lv_isub hx hb dX4_ownSum_53 ?_
                  refine m_top (y := (nI (21 * (r + 1) + k))) ((pk_sub (by omega)).trans (congrArg nI (by omega))) ?_
                  refine m_iald F hK hM 0 rfl (j := (21 * (r + 1) + k)) ctM_atb (by omega) (by decide) dX4_ownSum_54 ?_
                  refine m_top (y := (nI (tB (wM co sg e) (r + 1) k))) (congrArg nI (htc k (by omega))) ?_
                  refine lv_bipush (v := (nI 30)) hx hb dX4_ownSum_55 (by decide) ?_
                  refine lv_iadd hx hb dX4_ownSum_57 ?_
                  refine m_top (nI_add (tB (wM co sg e) (r + 1) k) 30) ?_
                  refine lv_iload hx hb dX4_ownSum_58 (lv_at hl 0 rfl) ?_
                  have hb1 := tB_le (w := (wM co sg e)) (r + 1) k
                  refine m_icmp_ge F (a := (tB (wM co sg e) (r + 1) k + 30)) (b := 1000000) (by omega) (by omega) (tgt := 81) dX4_ownSum_60 (by decide) (fun c_60 => ?_) (fun c_60 => ?_)
                  · skip
                    exact absurd c_60 (by omega)
                  · skip
                    refine lv_aload_n hx hb dX4_ownSum_63 rfl (lv_at hl 1 rfl) ?_
                    refine m_get F (ci := 4) (v := .ref (ad 1007)) (fun w h => tb_O (inX4 w h)) hK hM ctM_o rfl 9 (by decide) (tb_O lkX4_33) rfl dX4_ownSum_64 ?_
                    refine lv_bipush (v := (nI 21)) hx hb dX4_ownSum_67 (by decide) ?_
                    refine lv_iload_n hx hb dX4_ownSum_69 rfl (lv_at hl 3 rfl) ?_
                    refine lv_imul hx hb dX4_ownSum_70 ?_
                    refine m_top (pk_mul 21 (r + 1)) ?_
                    refine lv_iload_n hx hb dX4_ownSum_71 rfl (lv_at hl 4 rfl) ?_
                    refine lv_iadd hx hb dX4_ownSum_72 ?_
                    refine m_top (nI_add (21 * (r + 1)) (k + 1)) ?_
                    refine lv_iconst (v := (nI 1)) hx hb dX4_ownSum_73 (by decide) ?_
                    refine lv_isub hx hb dX4_ownSum_74 ?_
                    refine m_top (y := (nI (21 * (r + 1) + k))) ((pk_sub (by omega)).trans (congrArg nI (by omega))) ?_
                    refine m_iald F hK hM 0 rfl (j := (21 * (r + 1) + k)) ctM_atb (by omega) (by decide) dX4_ownSum_75 ?_
                    refine m_top (y := (nI (tB (wM co sg e) (r + 1) k))) (congrArg nI (htc k (by omega))) ?_
                    refine lv_bipush (v := (nI 30)) hx hb dX4_ownSum_76 (by decide) ?_
                    refine lv_iadd hx hb dX4_ownSum_78 ?_
                    refine m_top (nI_add (tB (wM co sg e) (r + 1) k) 30) ?_
                    refine lv_istore (lv' := [(4, .int (nI (tB (wM co sg e) (r + 1) k + 30))), (0, .ref (ad 1000)), (1, .int (nI e)), (2, .int (nI (r + 1))), (3, .int (nI (k + 1)))]) hx hb dX4_ownSum_79 hl (by decide) rfl (fun ls hl => ?_)
                    refine lv_iload_n hx hb dX4_ownSum_81 rfl (lv_at hl 3 rfl) ?_
                    refine lv_if_le (tgt := 126) hx hb dX4_ownSum_82 (by decide) (fun c_82 => ?_) (fun c_82 => ?_)
                    · skip
                      exact absurd c_82 (nI_nle (by omega) (by omega))
                    · skip
                      refine lv_aload_n hx hb dX4_ownSum_85 rfl (lv_at hl 1 rfl) ?_
                      refine m_get F (ci := 4) (v := .ref (ad 1007)) (fun w h => tb_O (inX4 w h)) hK hM ctM_o rfl 9 (by decide) (tb_O lkX4_33) rfl dX4_ownSum_86 ?_
                      refine lv_bipush (v := (nI 21)) hx hb dX4_ownSum_89 (by decide) ?_
                      refine lv_iload_n hx hb dX4_ownSum_91 rfl (lv_at hl 3 rfl) ?_
                      refine lv_imul hx hb dX4_ownSum_92 ?_
                      refine m_top (pk_mul 21 (r + 1)) ?_
                      refine lv_bipush (v := (nI 21)) hx hb dX4_ownSum_93 (by decide) ?_
                      refine lv_isub hx hb dX4_ownSum_95 ?_
                      refine m_top (y := (nI (21 * r))) ((pk_sub (by omega)).trans (congrArg nI (by omega))) ?_
                      refine lv_iload_n hx hb dX4_ownSum_96 rfl (lv_at hl 4 rfl) ?_
                      refine lv_iadd hx hb dX4_ownSum_97 ?_
                      refine m_top (nI_add (21 * r) (k + 1)) ?_
                      refine m_iald F hK hM 0 rfl (j := (21 * r + (k + 1))) ctM_atb (by omega) (by decide) dX4_ownSum_98 ?_
                      refine m_top (y := (nI (tB (wM co sg e) r (k + 1)))) (congrArg nI (htb r (k + 1) (by omega) (by omega))) ?_
                      refine lv_bipush (v := (nI 25)) hx hb dX4_ownSum_99 (by decide) ?_
                      refine lv_iadd hx hb dX4_ownSum_101 ?_
                      refine m_top (nI_add (tB (wM co sg e) r (k + 1)) 25) ?_
                      refine lv_iload hx hb dX4_ownSum_102 (lv_at hl 0 rfl) ?_
                      have hb2 := tB_le (w := (wM co sg e)) r (k + 1)
                      refine m_icmp_ge F (a := (tB (wM co sg e) r (k + 1) + 25)) (b := (tB (wM co sg e) (r + 1) k + 30)) (by omega) (by omega) (tgt := 126) dX4_ownSum_104 (by decide) (fun c_104 => ?_) (fun c_104 => ?_)
                      · skip
                        refine lv_iload_n hx hb dX4_ownSum_126 rfl (lv_at hl 3 rfl) ?_
                        refine lv_if_le (tgt := 209) hx hb dX4_ownSum_127 (by decide) (fun c_127 => ?_) (fun c_127 => ?_)
                        · skip
                          exact absurd c_127 (nI_nle (by omega) (by omega))
                        · skip
                          refine lv_iload_n hx hb dX4_ownSum_130 rfl (lv_at hl 4 rfl) ?_
                          refine lv_if_le (tgt := 209) hx hb dX4_ownSum_131 (by decide) (fun c_131 => ?_) (fun c_131 => ?_)
                          · skip
                            exact absurd c_131 (nI_nle (by omega) (by omega))
                          · skip
                            refine lv_aload_n hx hb dX4_ownSum_134 rfl (lv_at hl 1 rfl) ?_
                            refine m_get F (ci := 4) (v := .ref (ad 1006)) (fun w h => tb_O (inX4 w h)) hK hM ctM_o rfl 8 (by decide) (tb_O lkX4_30) rfl dX4_ownSum_135 ?_
                            refine lv_sipush (v := (nI 128)) hx hb dX4_ownSum_138 (by decide) ?_
                            refine lv_iload_n hx hb dX4_ownSum_141 rfl (lv_at hl 3 rfl) ?_
                            refine lv_iconst (v := (nI 1)) hx hb dX4_ownSum_142 (by decide) ?_
                            refine lv_isub hx hb dX4_ownSum_143 ?_
                            refine m_top (y := (nI r)) (nI_pred r) ?_
                            refine lv_imul hx hb dX4_ownSum_144 ?_
                            refine m_top (pk_mul 128 r) ?_
                            refine lv_aload_n hx hb dX4_ownSum_145 rfl (lv_at hl 1 rfl) ?_
                            refine m_get F (ci := 4) (v := .ref (ad 1003)) (fun w h => tb_O (inX4 w h)) hK hM ctM_o rfl 3 (by decide) (tb_O lkX4_17) rfl dX4_ownSum_146 ?_
                            refine lv_bipush (v := (nI 20)) hx hb dX4_ownSum_149 (by decide) ?_
                            refine lv_iload_n hx hb dX4_ownSum_151 rfl (lv_at hl 2 rfl) ?_
                            refine lv_imul hx hb dX4_ownSum_152 ?_
                            refine m_top (pk_mul 20 e) ?_
                            refine lv_iload_n hx hb dX4_ownSum_153 rfl (lv_at hl 4 rfl) ?_
                            refine lv_iadd hx hb dX4_ownSum_154 ?_
                            refine m_top (nI_add (20 * e) (k + 1)) ?_
                            refine lv_iconst (v := (nI 1)) hx hb dX4_ownSum_155 (by decide) ?_
                            refine lv_isub hx hb dX4_ownSum_156 ?_
                            refine m_top (y := (nI (20 * e + k))) ((pk_sub (by omega)).trans (congrArg nI (by omega))) ?_
                            have hsk := hsg e k (by omega)
                            refine m_iald F hK hM 0 rfl (j := (20 * e + k)) ctM_asg (by omega) (by decide) dX4_ownSum_157 ?_
                            refine m_top (y := (nI (sg (20 * e + k)))) rfl ?_
                            refine lv_iadd hx hb dX4_ownSum_158 ?_
                            refine m_top (nI_add (128 * r) (sg (20 * e + k))) ?_
                            refine m_iald F hK hM 0 rfl (j := (128 * r + (sg (20 * e + k)))) ctM_aco (by omega) (by decide) dX4_ownSum_159 ?_
                            refine m_top (y := (cV (co (128 * r + (sg (20 * e + k)))))) rfl ?_
                            rcases hcx : co (128 * r + sg (20 * e + k)) with _ | cx
                            · skip
                              refine m_top (y := (-1)) rfl ?_
                              refine lv_istore (lv' := [(5, .int (-1)), (4, .int (nI (tB (wM co sg e) (r + 1) k + 30))), (0, .ref (ad 1000)), (1, .int (nI e)), (2, .int (nI (r + 1))), (3, .int (nI (k + 1)))]) hx hb dX4_ownSum_160 hl (by decide) rfl (fun ls hl => ?_)
                              refine lv_aload_n hx hb dX4_ownSum_162 rfl (lv_at hl 2 rfl) ?_
                              refine m_get F (ci := 4) (v := .ref (ad 1007)) (fun w h => tb_O (inX4 w h)) hK hM ctM_o rfl 9 (by decide) (tb_O lkX4_33) rfl dX4_ownSum_163 ?_
                              refine lv_bipush (v := (nI 21)) hx hb dX4_ownSum_166 (by decide) ?_
                              refine lv_iload_n hx hb dX4_ownSum_168 rfl (lv_at hl 4 rfl) ?_
                              refine lv_imul hx hb dX4_ownSum_169 ?_
                              refine m_top (pk_mul 21 (r + 1)) ?_
                              refine lv_bipush (v := (nI 21)) hx hb dX4_ownSum_170 (by decide) ?_
                              refine lv_isub hx hb dX4_ownSum_172 ?_
                              refine m_top (y := (nI (21 * r))) ((pk_sub (by omega)).trans (congrArg nI (by omega))) ?_
                              refine lv_iload_n hx hb dX4_ownSum_173 rfl (lv_at hl 5 rfl) ?_
                              refine lv_iadd hx hb dX4_ownSum_174 ?_
                              refine m_top (nI_add (21 * r) (k + 1)) ?_
                              refine lv_iconst (v := (nI 1)) hx hb dX4_ownSum_175 (by decide) ?_
                              refine lv_isub hx hb dX4_ownSum_176 ?_
                              refine m_top (y := (nI (21 * r + k))) ((pk_sub (by omega)).trans (congrArg nI (by omega))) ?_
                              refine m_iald F hK hM 0 rfl (j := (21 * r + k)) ctM_atb (by omega) (by decide) dX4_ownSum_177 ?_
                              refine m_top (y := (nI (tB (wM co sg e) r k))) (congrArg nI (htb r k (by omega) (by omega))) ?_
                              refine lv_iload hx hb dX4_ownSum_178 (lv_at hl 0 rfl) ?_
                              refine lv_if_ge (tgt := 188) hx hb dX4_ownSum_180 (by decide) (fun c_180 => ?_) (fun c_180 => ?_)
                              · skip
                                exact absurd c_180 (by decide)
                              · skip
                                refine lv_bipush (v := (nI 60)) hx hb dX4_ownSum_183 (by decide) ?_
                                refine lv_goto (tgt := 190) hx hb dX4_ownSum_185 (by decide) ?_
                                refine lv_iadd hx hb dX4_ownSum_190 ?_
                                refine m_top (y := (nI (tB (wM co sg e) r k + wM co sg e r k))) ((nI_add _ _).trans (congrArg nI (by simp [wM, hcx]))) ?_
                                refine lv_istore (lv' := [(6, .int (nI (tB (wM co sg e) r k + wM co sg e r k))), (5, .int (-1)), (4, .int (nI (tB (wM co sg e) (r + 1) k + 30))), (0, .ref (ad 1000)), (1, .int (nI e)), (2, .int (nI (r + 1))), (3, .int (nI (k + 1)))]) hx hb dX4_ownSum_191 hl (by decide) rfl (fun ls hl => ?_)
                                refine lv_iload hx hb dX4_ownSum_193 (lv_at hl 0 rfl) ?_
                                refine lv_iload hx hb dX4_ownSum_195 (lv_at hl 2 rfl) ?_
                                have hb3 := tB_le (w := (wM co sg e)) r k
                                have hw3 : wM co sg e r k ≤ 1000 := by unfold wM; rw [hcx]; first | decide | exact hcx2
                                refine m_icmp_ge F (a := (tB (wM co sg e) r k + wM co sg e r k)) (b := (tB (wM co sg e) (r + 1) k + 30)) (by omega) (by omega) (tgt := 205) dX4_ownSum_197 (by decide) (fun c_197 => ?_) (fun c_197 => ?_)
                                · skip
                                  refine lv_iload hx hb dX4_ownSum_205 (lv_at hl 2 rfl) ?_
                                  refine lv_istore (lv' := [(4, .int (nI (tB (wM co sg e) (r + 1) k + 30))), (6, .int (nI (tB (wM co sg e) r k + wM co sg e r k))), (5, .int (-1)), (0, .ref (ad 1000)), (1, .int (nI e)), (2, .int (nI (r + 1))), (3, .int (nI (k + 1)))]) hx hb dX4_ownSum_207 hl (by decide) rfl (fun ls hl => ?_)
                                  refine lv_aload_n hx hb dX4_ownSum_209 rfl (lv_at hl 3 rfl) ?_
                                  refine m_get F (ci := 4) (v := .ref (ad 1007)) (fun w h => tb_O (inX4 w h)) hK hM ctM_o rfl 9 (by decide) (tb_O lkX4_33) rfl dX4_ownSum_210 ?_
                                  refine lv_bipush (v := (nI 21)) hx hb dX4_ownSum_213 (by decide) ?_
                                  refine lv_iload_n hx hb dX4_ownSum_215 rfl (lv_at hl 5 rfl) ?_
                                  refine lv_imul hx hb dX4_ownSum_216 ?_
                                  refine m_top (pk_mul 21 (r + 1)) ?_
                                  refine lv_iload_n hx hb dX4_ownSum_217 rfl (lv_at hl 6 rfl) ?_
                                  refine lv_iadd hx hb dX4_ownSum_218 ?_
                                  refine m_top (nI_add (21 * (r + 1)) (k + 1)) ?_
                                  refine lv_iload hx hb dX4_ownSum_219 (lv_at hl 0 rfl) ?_
                                  refine m_top (y := nI (tB (wM co sg e) (r + 1) (k + 1))) (congrArg nI (show tB (wM co sg e) (r + 1) k + 30 = tB (wM co sg e) (r + 1) (k + 1) from (by simp only [tB]; first | done | omega))) ?_
                                  refine m_iast F hK hM hS 0 rfl (j := (21 * (r + 1) + (k + 1))) (x := (nI (tB (wM co sg e) (r + 1) (k + 1)))) ctM_atb (by omega) (by decide) dX4_ownSum_221 (fun H locs hM hS => ?_)
                                  have hM : mw D vwCl lo ad (ctM aC ad n th sz sg me gr lk P co (un tb (21 * (r + 1) + (k + 1)) (tB (wM co sg e) (r + 1) (k + 1))) fd wd sm rc X) H := by rw [upd_nI, ctM_tb] at hM; exact hM
                                  refine lv_iinc (v := (nI (k + 1 + 1))) (lv' := [(3, .int (nI (k + 1 + 1))), (4, .int (nI (tB (wM co sg e) (r + 1) k + 30))), (6, .int (nI (tB (wM co sg e) r k + wM co sg e r k))), (5, .int (-1)), (0, .ref (ad 1000)), (1, .int (nI e)), (2, .int (nI (r + 1)))]) hx hb dX4_ownSum_222 hl (k := 6) rfl (nI_1 (k + 1)) (by decide) rfl (fun ls hl => ?_)
                                  refine lv_goto (tgt := 12) hx hb dX4_ownSum_225 (by decide) ?_
                                  exact ih_12 (k + 1 + 1) (un tb (21 * (r + 1) + (k + 1)) (tB (wM co sg e) (r + 1) (k + 1))) (by omega) (by omega) (fun p' s' hp hs' => by rw [show un tb (21 * (r + 1) + (k + 1)) (tB (wM co sg e) (r + 1) (k + 1)) (21 * p' + s') = tb (21 * p' + s') from va_up_ne _ _ (by omega)]; exact htb p' s' hp hs') (fun s' hs' => (Nat.lt_or_ge s' (k + 1)).elim (fun q => by rw [show un tb (21 * (r + 1) + (k + 1)) (tB (wM co sg e) (r + 1) (k + 1)) (21 * (r + 1) + s') = tb (21 * (r + 1) + s') from va_up_ne _ _ (by omega)]; exact htc s' q) (fun q => by rw [show s' = k + 1 by omega]; exact va_up_self _ _ _)) (by omega) _ _ _ hM hS (lv_sub hl [4, 5, 6, 0] rfl)
                                · skip
                                  refine lv_iload hx hb dX4_ownSum_200 (lv_at hl 0 rfl) ?_
                                  refine lv_goto (tgt := 207) hx hb dX4_ownSum_202 (by decide) ?_
                                  refine lv_istore (lv' := [(4, .int (nI (tB (wM co sg e) r k + wM co sg e r k))), (6, .int (nI (tB (wM co sg e) r k + wM co sg e r k))), (5, .int (-1)), (0, .ref (ad 1000)), (1, .int (nI e)), (2, .int (nI (r + 1))), (3, .int (nI (k + 1)))]) hx hb dX4_ownSum_207 hl (by decide) rfl (fun ls hl => ?_)
                                  refine lv_aload_n hx hb dX4_ownSum_209 rfl (lv_at hl 3 rfl) ?_
                                  refine m_get F (ci := 4) (v := .ref (ad 1007)) (fun w h => tb_O (inX4 w h)) hK hM ctM_o rfl 9 (by decide) (tb_O lkX4_33) rfl dX4_ownSum_210 ?_
                                  refine lv_bipush (v := (nI 21)) hx hb dX4_ownSum_213 (by decide) ?_
                                  refine lv_iload_n hx hb dX4_ownSum_215 rfl (lv_at hl 5 rfl) ?_
                                  refine lv_imul hx hb dX4_ownSum_216 ?_
                                  refine m_top (pk_mul 21 (r + 1)) ?_
                                  refine lv_iload_n hx hb dX4_ownSum_217 rfl (lv_at hl 6 rfl) ?_
                                  refine lv_iadd hx hb dX4_ownSum_218 ?_
                                  refine m_top (nI_add (21 * (r + 1)) (k + 1)) ?_
                                  refine lv_iload hx hb dX4_ownSum_219 (lv_at hl 0 rfl) ?_
                                  refine m_top (y := nI (tB (wM co sg e) (r + 1) (k + 1))) (congrArg nI (show tB (wM co sg e) r k + wM co sg e r k = tB (wM co sg e) (r + 1) (k + 1) from (by simp only [tB]; first | done | omega))) ?_
                                  refine m_iast F hK hM hS 0 rfl (j := (21 * (r + 1) + (k + 1))) (x := (nI (tB (wM co sg e) (r + 1) (k + 1)))) ctM_atb (by omega) (by decide) dX4_ownSum_221 (fun H locs hM hS => ?_)
                                  have hM : mw D vwCl lo ad (ctM aC ad n th sz sg me gr lk P co (un tb (21 * (r + 1) + (k + 1)) (tB (wM co sg e) (r + 1) (k + 1))) fd wd sm rc X) H := by rw [upd_nI, ctM_tb] at hM; exact hM
                                  refine lv_iinc (v := (nI (k + 1 + 1))) (lv' := [(3, .int (nI (k + 1 + 1))), (4, .int (nI (tB (wM co sg e) r k + wM co sg e r k))), (6, .int (nI (tB (wM co sg e) r k + wM co sg e r k))), (5, .int (-1)), (0, .ref (ad 1000)), (1, .int (nI e)), (2, .int (nI (r + 1)))]) hx hb dX4_ownSum_222 hl (k := 6) rfl (nI_1 (k + 1)) (by decide) rfl (fun ls hl => ?_)
                                  refine lv_goto (tgt := 12) hx hb dX4_ownSum_225 (by decide) ?_
                                  exact ih_12 (k + 1 + 1) (un tb (21 * (r + 1) + (k + 1)) (tB (wM co sg e) (r + 1) (k + 1))) (by omega) (by omega) (fun p' s' hp hs' => by rw [show un tb (21 * (r + 1) + (k + 1)) (tB (wM co sg e) (r + 1) (k + 1)) (21 * p' + s') = tb (21 * p' + s') from va_up_ne _ _ (by omega)]; exact htb p' s' hp hs') (fun s' hs' => (Nat.lt_or_ge s' (k + 1)).elim (fun q => by rw [show un tb (21 * (r + 1) + (k + 1)) (tB (wM co sg e) (r + 1) (k + 1)) (21 * (r + 1) + s') = tb (21 * (r + 1) + s') from va_up_ne _ _ (by omega)]; exact htc s' q) (fun q => by rw [show s' = k + 1 by omega]; exact va_up_self _ _ _)) (by omega) _ _ _ hM hS (lv_sub hl [4, 5, 6, 0] rfl)
                            · skip
                              refine m_top (y := nI cx) rfl ?_
                              have hcx2 := hco _ _ hcx
                              refine lv_istore (lv' := [(5, .int (nI cx)), (4, .int (nI (tB (wM co sg e) (r + 1) k + 30))), (0, .ref (ad 1000)), (1, .int (nI e)), (2, .int (nI (r + 1))), (3, .int (nI (k + 1)))]) hx hb dX4_ownSum_160 hl (by decide) rfl (fun ls hl => ?_)
                              refine lv_aload_n hx hb dX4_ownSum_162 rfl (lv_at hl 2 rfl) ?_
                              refine m_get F (ci := 4) (v := .ref (ad 1007)) (fun w h => tb_O (inX4 w h)) hK hM ctM_o rfl 9 (by decide) (tb_O lkX4_33) rfl dX4_ownSum_163 ?_
                              refine lv_bipush (v := (nI 21)) hx hb dX4_ownSum_166 (by decide) ?_
                              refine lv_iload_n hx hb dX4_ownSum_168 rfl (lv_at hl 4 rfl) ?_
                              refine lv_imul hx hb dX4_ownSum_169 ?_
                              refine m_top (pk_mul 21 (r + 1)) ?_
                              refine lv_bipush (v := (nI 21)) hx hb dX4_ownSum_170 (by decide) ?_
                              refine lv_isub hx hb dX4_ownSum_172 ?_
                              refine m_top (y := (nI (21 * r))) ((pk_sub (by omega)).trans (congrArg nI (by omega))) ?_
                              refine lv_iload_n hx hb dX4_ownSum_173 rfl (lv_at hl 5 rfl) ?_
                              refine lv_iadd hx hb dX4_ownSum_174 ?_
                              refine m_top (nI_add (21 * r) (k + 1)) ?_
                              refine lv_iconst (v := (nI 1)) hx hb dX4_ownSum_175 (by decide) ?_
                              refine lv_isub hx hb dX4_ownSum_176 ?_
                              refine m_top (y := (nI (21 * r + k))) ((pk_sub (by omega)).trans (congrArg nI (by omega))) ?_
                              refine m_iald F hK hM 0 rfl (j := (21 * r + k)) ctM_atb (by omega) (by decide) dX4_ownSum_177 ?_
                              refine m_top (y := (nI (tB (wM co sg e) r k))) (congrArg nI (htb r k (by omega) (by omega))) ?_
                              refine lv_iload hx hb dX4_ownSum_178 (lv_at hl 0 rfl) ?_
                              refine lv_if_ge (tgt := 188) hx hb dX4_ownSum_180 (by decide) (fun c_180 => ?_) (fun c_180 => ?_)
                              · skip
                                refine lv_iload hx hb dX4_ownSum_188 (lv_at hl 0 rfl) ?_
                                refine lv_iadd hx hb dX4_ownSum_190 ?_
                                refine m_top (y := (nI (tB (wM co sg e) r k + wM co sg e r k))) ((nI_add _ _).trans (congrArg nI (by simp [wM, hcx]))) ?_
                                refine lv_istore (lv' := [(6, .int (nI (tB (wM co sg e) r k + wM co sg e r k))), (5, .int (nI cx)), (4, .int (nI (tB (wM co sg e) (r + 1) k + 30))), (0, .ref (ad 1000)), (1, .int (nI e)), (2, .int (nI (r + 1))), (3, .int (nI (k + 1)))]) hx hb dX4_ownSum_191 hl (by decide) rfl (fun ls hl => ?_)
                                refine lv_iload hx hb dX4_ownSum_193 (lv_at hl 0 rfl) ?_
                                refine lv_iload hx hb dX4_ownSum_195 (lv_at hl 2 rfl) ?_
                                have hb3 := tB_le (w := (wM co sg e)) r k
                                have hw3 : wM co sg e r k ≤ 1000 := by unfold wM; rw [hcx]; first | decide | exact hcx2
                                refine m_icmp_ge F (a := (tB (wM co sg e) r k + wM co sg e r k)) (b := (tB (wM co sg e) (r + 1) k + 30)) (by omega) (by omega) (tgt := 205) dX4_ownSum_197 (by decide) (fun c_197 => ?_) (fun c_197 => ?_)
                                · skip
                                  refine lv_iload hx hb dX4_ownSum_205 (lv_at hl 2 rfl) ?_
                                  refine lv_istore (lv' := [(4, .int (nI (tB (wM co sg e) (r + 1) k + 30))), (6, .int (nI (tB (wM co sg e) r k + wM co sg e r k))), (5, .int (nI cx)), (0, .ref (ad 1000)), (1, .int (nI e)), (2, .int (nI (r + 1))), (3, .int (nI (k + 1)))]) hx hb dX4_ownSum_207 hl (by decide) rfl (fun ls hl => ?_)
                                  refine lv_aload_n hx hb dX4_ownSum_209 rfl (lv_at hl 3 rfl) ?_
                                  refine m_get F (ci := 4) (v := .ref (ad 1007)) (fun w h => tb_O (inX4 w h)) hK hM ctM_o rfl 9 (by decide) (tb_O lkX4_33) rfl dX4_ownSum_210 ?_
                                  refine lv_bipush (v := (nI 21)) hx hb dX4_ownSum_213 (by decide) ?_
                                  refine lv_iload_n hx hb dX4_ownSum_215 rfl (lv_at hl 5 rfl) ?_
                                  refine lv_imul hx hb dX4_ownSum_216 ?_
                                  refine m_top (pk_mul 21 (r + 1)) ?_
                                  refine lv_iload_n hx hb dX4_ownSum_217 rfl (lv_at hl 6 rfl) ?_
                                  refine lv_iadd hx hb dX4_ownSum_218 ?_
                                  refine m_top (nI_add (21 * (r + 1)) (k + 1)) ?_
                                  refine lv_iload hx hb dX4_ownSum_219 (lv_at hl 0 rfl) ?_
                                  refine m_top (y := nI (tB (wM co sg e) (r + 1) (k + 1))) (congrArg nI (show tB (wM co sg e) (r + 1) k + 30 = tB (wM co sg e) (r + 1) (k + 1) from (by simp only [tB]; first | done | omega))) ?_
                                  refine m_iast F hK hM hS 0 rfl (j := (21 * (r + 1) + (k + 1))) (x := (nI (tB (wM co sg e) (r + 1) (k + 1)))) ctM_atb (by omega) (by decide) dX4_ownSum_221 (fun H locs hM hS => ?_)
                                  have hM : mw D vwCl lo ad (ctM aC ad n th sz sg me gr lk P co (un tb (21 * (r + 1) + (k + 1)) (tB (wM co sg e) (r + 1) (k + 1))) fd wd sm rc X) H := by rw [upd_nI, ctM_tb] at hM; exact hM
                                  refine lv_iinc (v := (nI (k + 1 + 1))) (lv' := [(3, .int (nI (k + 1 + 1))), (4, .int (nI (tB (wM co sg e) (r + 1) k + 30))), (6, .int (nI (tB (wM co sg e) r k + wM co sg e r k))), (5, .int (nI cx)), (0, .ref (ad 1000)), (1, .int (nI e)), (2, .int (nI (r + 1)))]) hx hb dX4_ownSum_222 hl (k := 6) rfl (nI_1 (k + 1)) (by decide) rfl (fun ls hl => ?_)
                                  refine lv_goto (tgt := 12) hx hb dX4_ownSum_225 (by decide) ?_
                                  exact ih_12 (k + 1 + 1) (un tb (21 * (r + 1) + (k + 1)) (tB (wM co sg e) (r + 1) (k + 1))) (by omega) (by omega) (fun p' s' hp hs' => by rw [show un tb (21 * (r + 1) + (k + 1)) (tB (wM co sg e) (r + 1) (k + 1)) (21 * p' + s') = tb (21 * p' + s') from va_up_ne _ _ (by omega)]; exact htb p' s' hp hs') (fun s' hs' => (Nat.lt_or_ge s' (k + 1)).elim (fun q => by rw [show un tb (21 * (r + 1) + (k + 1)) (tB (wM co sg e) (r + 1) (k + 1)) (21 * (r + 1) + s') = tb (21 * (r + 1) + s') from va_up_ne _ _ (by omega)]; exact htc s' q) (fun q => by rw [show s' = k + 1 by omega]; exact va_up_self _ _ _)) (by omega) _ _ _ hM hS (lv_sub hl [4, 5, 6, 0] rfl)
                                · skip
                                  refine lv_iload hx hb dX4_ownSum_200 (lv_at hl 0 rfl) ?_
                                  refine lv_goto (tgt := 207) hx hb dX4_ownSum_202 (by decide) ?_
                                  refine lv_istore (lv' := [(4, .int (nI (tB (wM co sg e) r k + wM co sg e r k))), (6, .int (nI (tB (wM co sg e) r k + wM co sg e r k))), (5, .int (nI cx)), (0, .ref (ad 1000)), (1, .int (nI e)), (2, .int (nI (r + 1))), (3, .int (nI (k + 1)))]) hx hb dX4_ownSum_207 hl (by decide) rfl (fun ls hl => ?_)
                                  refine lv_aload_n hx hb dX4_ownSum_209 rfl (lv_at hl 3 rfl) ?_
                                  refine m_get F (ci := 4) (v := .ref (ad 1007)) (fun w h => tb_O (inX4 w h)) hK hM ctM_o rfl 9 (by decide) (tb_O lkX4_33) rfl dX4_ownSum_210 ?_
                                  refine lv_bipush (v := (nI 21)) hx hb dX4_ownSum_213 (by decide) ?_
                                  refine lv_iload_n hx hb dX4_ownSum_215 rfl (lv_at hl 5 rfl) ?_
                                  refine lv_imul hx hb dX4_ownSum_216 ?_
                                  refine m_top (pk_mul 21 (r + 1)) ?_
                                  refine lv_iload_n hx hb dX4_ownSum_217 rfl (lv_at hl 6 rfl) ?_
                                  refine lv_iadd hx hb dX4_ownSum_218 ?_
                                  refine m_top (nI_add (21 * (r + 1)) (k + 1)) ?_
                                  refine lv_iload hx hb dX4_ownSum_219 (lv_at hl 0 rfl) ?_
                                  refine m_top (y := nI (tB (wM co sg e) (r + 1) (k + 1))) (congrArg nI (show tB (wM co sg e) r k + wM co sg e r k = tB (wM co sg e) (r + 1) (k + 1) from (by simp only [tB]; first | done | omega))) ?_
                                  refine m_iast F hK hM hS 0 rfl (j := (21 * (r + 1) + (k + 1))) (x := (nI (tB (wM co sg e) (r + 1) (k + 1)))) ctM_atb (by omega) (by decide) dX4_ownSum_221 (fun H locs hM hS => ?_)
                                  have hM : mw D vwCl lo ad (ctM aC ad n th sz sg me gr lk P co (un tb (21 * (r + 1) + (k + 1)) (tB (wM co sg e) (r + 1) (k + 1))) fd wd sm rc X) H := by rw [upd_nI, ctM_tb] at hM; exact hM
                                  refine lv_iinc (v := (nI (k + 1 + 1))) (lv' := [(3, .int (nI (k + 1 + 1))), (4, .int (nI (tB (wM co sg e) r k + wM co sg e r k))), (6, .int (nI (tB (wM co sg e) r k + wM co sg e r k))), (5, .int (nI cx)), (0, .ref (ad 1000)), (1, .int (nI e)), (2, .int (nI (r + 1)))]) hx hb dX4_ownSum_222 hl (k := 6) rfl (nI_1 (k + 1)) (by decide) rfl (fun ls hl => ?_)
                                  refine lv_goto (tgt := 12) hx hb dX4_ownSum_225 (by decide) ?_
                                  exact ih_12 (k + 1 + 1) (un tb (21 * (r + 1) + (k + 1)) (tB (wM co sg e) (r + 1) (k + 1))) (by omega) (by omega) (fun p' s' hp hs' => by rw [show un tb (21 * (r + 1) + (k + 1)) (tB (wM co sg e) (r + 1) (k + 1)) (21 * p' + s') = tb (21 * p' + s') from va_up_ne _ _ (by omega)]; exact htb p' s' hp hs') (fun s' hs' => (Nat.lt_or_ge s' (k + 1)).elim (fun q => by rw [show un tb (21 * (r + 1) + (k + 1)) (tB (wM co sg e) (r + 1) (k + 1)) (21 * (r + 1) + s') = tb (21 * (r + 1) + s') from va_up_ne _ _ (by omega)]; exact htc s' q) (fun q => by rw [show s' = k + 1 by omega]; exact va_up_self _ _ _)) (by omega) _ _ _ hM hS (lv_sub hl [4, 5, 6, 0] rfl)
                              · skip
                                exact absurd (nI_pos' (by omega)) c_180
                      · skip
                        refine lv_aload_n hx hb dX4_ownSum_107 rfl (lv_at hl 1 rfl) ?_
                        refine m_get F (ci := 4) (v := .ref (ad 1007)) (fun w h => tb_O (inX4 w h)) hK hM ctM_o rfl 9 (by decide) (tb_O lkX4_33) rfl dX4_ownSum_108 ?_
                        refine lv_bipush (v := (nI 21)) hx hb dX4_ownSum_111 (by decide) ?_
                        refine lv_iload_n hx hb dX4_ownSum_113 rfl (lv_at hl 3 rfl) ?_
                        refine lv_imul hx hb dX4_ownSum_114 ?_
                        refine m_top (pk_mul 21 (r + 1)) ?_
                        refine lv_bipush (v := (nI 21)) hx hb dX4_ownSum_115 (by decide) ?_
                        refine lv_isub hx hb dX4_ownSum_117 ?_
                        refine m_top (y := (nI (21 * r))) ((pk_sub (by omega)).trans (congrArg nI (by omega))) ?_
                        refine lv_iload_n hx hb dX4_ownSum_118 rfl (lv_at hl 4 rfl) ?_
                        refine lv_iadd hx hb dX4_ownSum_119 ?_
                        refine m_top (nI_add (21 * r) (k + 1)) ?_
                        refine m_iald F hK hM 0 rfl (j := (21 * r + (k + 1))) ctM_atb (by omega) (by decide) dX4_ownSum_120 ?_
                        refine m_top (y := (nI (tB (wM co sg e) r (k + 1)))) (congrArg nI (htb r (k + 1) (by omega) (by omega))) ?_
                        refine lv_bipush (v := (nI 25)) hx hb dX4_ownSum_121 (by decide) ?_
                        refine lv_iadd hx hb dX4_ownSum_123 ?_
                        refine m_top (nI_add (tB (wM co sg e) r (k + 1)) 25) ?_
                        refine lv_istore (lv' := [(4, .int (nI (tB (wM co sg e) r (k + 1) + 25))), (0, .ref (ad 1000)), (1, .int (nI e)), (2, .int (nI (r + 1))), (3, .int (nI (k + 1)))]) hx hb dX4_ownSum_124 hl (by decide) rfl (fun ls hl => ?_)
                        refine lv_iload_n hx hb dX4_ownSum_126 rfl (lv_at hl 3 rfl) ?_
                        refine lv_if_le (tgt := 209) hx hb dX4_ownSum_127 (by decide) (fun c_127 => ?_) (fun c_127 => ?_)
                        · skip
                          exact absurd c_127 (nI_nle (by omega) (by omega))
                        · skip
                          refine lv_iload_n hx hb dX4_ownSum_130 rfl (lv_at hl 4 rfl) ?_
                          refine lv_if_le (tgt := 209) hx hb dX4_ownSum_131 (by decide) (fun c_131 => ?_) (fun c_131 => ?_)
                          · skip
                            exact absurd c_131 (nI_nle (by omega) (by omega))
                          · skip
                            refine lv_aload_n hx hb dX4_ownSum_134 rfl (lv_at hl 1 rfl) ?_
                            refine m_get F (ci := 4) (v := .ref (ad 1006)) (fun w h => tb_O (inX4 w h)) hK hM ctM_o rfl 8 (by decide) (tb_O lkX4_30) rfl dX4_ownSum_135 ?_
                            refine lv_sipush (v := (nI 128)) hx hb dX4_ownSum_138 (by decide) ?_
                            refine lv_iload_n hx hb dX4_ownSum_141 rfl (lv_at hl 3 rfl) ?_
                            refine lv_iconst (v := (nI 1)) hx hb dX4_ownSum_142 (by decide) ?_
                            refine lv_isub hx hb dX4_ownSum_143 ?_
                            refine m_top (y := (nI r)) (nI_pred r) ?_
                            refine lv_imul hx hb dX4_ownSum_144 ?_
                            refine m_top (pk_mul 128 r) ?_
                            refine lv_aload_n hx hb dX4_ownSum_145 rfl (lv_at hl 1 rfl) ?_
                            refine m_get F (ci := 4) (v := .ref (ad 1003)) (fun w h => tb_O (inX4 w h)) hK hM ctM_o rfl 3 (by decide) (tb_O lkX4_17) rfl dX4_ownSum_146 ?_
                            refine lv_bipush (v := (nI 20)) hx hb dX4_ownSum_149 (by decide) ?_
                            refine lv_iload_n hx hb dX4_ownSum_151 rfl (lv_at hl 2 rfl) ?_
                            refine lv_imul hx hb dX4_ownSum_152 ?_
                            refine m_top (pk_mul 20 e) ?_
                            refine lv_iload_n hx hb dX4_ownSum_153 rfl (lv_at hl 4 rfl) ?_
                            refine lv_iadd hx hb dX4_ownSum_154 ?_
                            refine m_top (nI_add (20 * e) (k + 1)) ?_
                            refine lv_iconst (v := (nI 1)) hx hb dX4_ownSum_155 (by decide) ?_
                            refine lv_isub hx hb dX4_ownSum_156 ?_
                            refine m_top (y := (nI (20 * e + k))) ((pk_sub (by omega)).trans (congrArg nI (by omega))) ?_
                            have hsk := hsg e k (by omega)
                            refine m_iald F hK hM 0 rfl (j := (20 * e + k)) ctM_asg (by omega) (by decide) dX4_ownSum_157 ?_
                            refine m_top (y := (nI (sg (20 * e + k)))) rfl ?_
                            refine lv_iadd hx hb dX4_ownSum_158 ?_
                            refine m_top (nI_add (128 * r) (sg (20 * e + k))) ?_
                            refine m_iald F hK hM 0 rfl (j := (128 * r + (sg (20 * e + k)))) ctM_aco (by omega) (by decide) dX4_ownSum_159 ?_
                            refine m_top (y := (cV (co (128 * r + (sg (20 * e + k)))))) rfl ?_
                            rcases hcx : co (128 * r + sg (20 * e + k)) with _ | cx
                            · skip
                              refine m_top (y := (-1)) rfl ?_
                              refine lv_istore (lv' := [(5, .int (-1)), (4, .int (nI (tB (wM co sg e) r (k + 1) + 25))), (0, .ref (ad 1000)), (1, .int (nI e)), (2, .int (nI (r + 1))), (3, .int (nI (k + 1)))]) hx hb dX4_ownSum_160 hl (by decide) rfl (fun ls hl => ?_)
                              refine lv_aload_n hx hb dX4_ownSum_162 rfl (lv_at hl 2 rfl) ?_
                              refine m_get F (ci := 4) (v := .ref (ad 1007)) (fun w h => tb_O (inX4 w h)) hK hM ctM_o rfl 9 (by decide) (tb_O lkX4_33) rfl dX4_ownSum_163 ?_
                              refine lv_bipush (v := (nI 21)) hx hb dX4_ownSum_166 (by decide) ?_
                              refine lv_iload_n hx hb dX4_ownSum_168 rfl (lv_at hl 4 rfl) ?_
                              refine lv_imul hx hb dX4_ownSum_169 ?_
                              refine m_top (pk_mul 21 (r + 1)) ?_
                              refine lv_bipush (v := (nI 21)) hx hb dX4_ownSum_170 (by decide) ?_
                              refine lv_isub hx hb dX4_ownSum_172 ?_
                              refine m_top (y := (nI (21 * r))) ((pk_sub (by omega)).trans (congrArg nI (by omega))) ?_
                              refine lv_iload_n hx hb dX4_ownSum_173 rfl (lv_at hl 5 rfl) ?_
                              refine lv_iadd hx hb dX4_ownSum_174 ?_
                              refine m_top (nI_add (21 * r) (k + 1)) ?_
                              refine lv_iconst (v := (nI 1)) hx hb dX4_ownSum_175 (by decide) ?_
                              refine lv_isub hx hb dX4_ownSum_176 ?_
                              refine m_top (y := (nI (21 * r + k))) ((pk_sub (by omega)).trans (congrArg nI (by omega))) ?_
                              refine m_iald F hK hM 0 rfl (j := (21 * r + k)) ctM_atb (by omega) (by decide) dX4_ownSum_177 ?_
                              refine m_top (y := (nI (tB (wM co sg e) r k))) (congrArg nI (htb r k (by omega) (by omega))) ?_
                              refine lv_iload hx hb dX4_ownSum_178 (lv_at hl 0 rfl) ?_
                              refine lv_if_ge (tgt := 188) hx hb dX4_ownSum_180 (by decide) (fun c_180 => ?_) (fun c_180 => ?_)
                              · skip
                                exact absurd c_180 (by decide)
                              · skip
                                refine lv_bipush (v := (nI 60)) hx hb dX4_ownSum_183 (by decide) ?_
                                refine lv_goto (tgt := 190) hx hb dX4_ownSum_185 (by decide) ?_
                                refine lv_iadd hx hb dX4_ownSum_190 ?_
                                refine m_top (y := (nI (tB (wM co sg e) r k + wM co sg e r k))) ((nI_add _ _).trans (congrArg nI (by simp [wM, hcx]))) ?_
                                refine lv_istore (lv' := [(6, .int (nI (tB (wM co sg e) r k + wM co sg e r k))), (5, .int (-1)), (4, .int (nI (tB (wM co sg e) r (k + 1) + 25))), (0, .ref (ad 1000)), (1, .int (nI e)), (2, .int (nI (r + 1))), (3, .int (nI (k + 1)))]) hx hb dX4_ownSum_191 hl (by decide) rfl (fun ls hl => ?_)
                                refine lv_iload hx hb dX4_ownSum_193 (lv_at hl 0 rfl) ?_
                                refine lv_iload hx hb dX4_ownSum_195 (lv_at hl 2 rfl) ?_
                                have hb3 := tB_le (w := (wM co sg e)) r k
                                have hw3 : wM co sg e r k ≤ 1000 := by unfold wM; rw [hcx]; first | decide | exact hcx2
                                refine m_icmp_ge F (a := (tB (wM co sg e) r k + wM co sg e r k)) (b := (tB (wM co sg e) r (k + 1) + 25)) (by omega) (by omega) (tgt := 205) dX4_ownSum_197 (by decide) (fun c_197 => ?_) (fun c_197 => ?_)
                                · skip
                                  refine lv_iload hx hb dX4_ownSum_205 (lv_at hl 2 rfl) ?_
                                  refine lv_istore (lv' := [(4, .int (nI (tB (wM co sg e) r (k + 1) + 25))), (6, .int (nI (tB (wM co sg e) r k + wM co sg e r k))), (5, .int (-1)), (0, .ref (ad 1000)), (1, .int (nI e)), (2, .int (nI (r + 1))), (3, .int (nI (k + 1)))]) hx hb dX4_ownSum_207 hl (by decide) rfl (fun ls hl => ?_)
                                  refine lv_aload_n hx hb dX4_ownSum_209 rfl (lv_at hl 3 rfl) ?_
                                  refine m_get F (ci := 4) (v := .ref (ad 1007)) (fun w h => tb_O (inX4 w h)) hK hM ctM_o rfl 9 (by decide) (tb_O lkX4_33) rfl dX4_ownSum_210 ?_
                                  refine lv_bipush (v := (nI 21)) hx hb dX4_ownSum_213 (by decide) ?_
                                  refine lv_iload_n hx hb dX4_ownSum_215 rfl (lv_at hl 5 rfl) ?_
                                  refine lv_imul hx hb dX4_ownSum_216 ?_
                                  refine m_top (pk_mul 21 (r + 1)) ?_
                                  refine lv_iload_n hx hb dX4_ownSum_217 rfl (lv_at hl 6 rfl) ?_
                                  refine lv_iadd hx hb dX4_ownSum_218 ?_
                                  refine m_top (nI_add (21 * (r + 1)) (k + 1)) ?_
                                  refine lv_iload hx hb dX4_ownSum_219 (lv_at hl 0 rfl) ?_
                                  refine m_top (y := nI (tB (wM co sg e) (r + 1) (k + 1))) (congrArg nI (show tB (wM co sg e) r (k + 1) + 25 = tB (wM co sg e) (r + 1) (k + 1) from (by simp only [tB]; first | done | omega))) ?_
                                  refine m_iast F hK hM hS 0 rfl (j := (21 * (r + 1) + (k + 1))) (x := (nI (tB (wM co sg e) (r + 1) (k + 1)))) ctM_atb (by omega) (by decide) dX4_ownSum_221 (fun H locs hM hS => ?_)
                                  have hM : mw D vwCl lo ad (ctM aC ad n th sz sg me gr lk P co (un tb (21 * (r + 1) + (k + 1)) (tB (wM co sg e) (r + 1) (k + 1))) fd wd sm rc X) H := by rw [upd_nI, ctM_tb] at hM; exact hM
                                  refine lv_iinc (v := (nI (k + 1 + 1))) (lv' := [(3, .int (nI (k + 1 + 1))), (4, .int (nI (tB (wM co sg e) r (k + 1) + 25))), (6, .int (nI (tB (wM co sg e) r k + wM co sg e r k))), (5, .int (-1)), (0, .ref (ad 1000)), (1, .int (nI e)), (2, .int (nI (r + 1)))]) hx hb dX4_ownSum_222 hl (k := 6) rfl (nI_1 (k + 1)) (by decide) rfl (fun ls hl => ?_)
                                  refine lv_goto (tgt := 12) hx hb dX4_ownSum_225 (by decide) ?_
                                  exact ih_12 (k + 1 + 1) (un tb (21 * (r + 1) + (k + 1)) (tB (wM co sg e) (r + 1) (k + 1))) (by omega) (by omega) (fun p' s' hp hs' => by rw [show un tb (21 * (r + 1) + (k + 1)) (tB (wM co sg e) (r + 1) (k + 1)) (21 * p' + s') = tb (21 * p' + s') from va_up_ne _ _ (by omega)]; exact htb p' s' hp hs') (fun s' hs' => (Nat.lt_or_ge s' (k + 1)).elim (fun q => by rw [show un tb (21 * (r + 1) + (k + 1)) (tB (wM co sg e) (r + 1) (k + 1)) (21 * (r + 1) + s') = tb (21 * (r + 1) + s') from va_up_ne _ _ (by omega)]; exact htc s' q) (fun q => by rw [show s' = k + 1 by omega]; exact va_up_self _ _ _)) (by omega) _ _ _ hM hS (lv_sub hl [4, 5, 6, 0] rfl)
                                · skip
                                  refine lv_iload hx hb dX4_ownSum_200 (lv_at hl 0 rfl) ?_
                                  refine lv_goto (tgt := 207) hx hb dX4_ownSum_202 (by decide) ?_
                                  refine lv_istore (lv' := [(4, .int (nI (tB (wM co sg e) r k + wM co sg e r k))), (6, .int (nI (tB (wM co sg e) r k + wM co sg e r k))), (5, .int (-1)), (0, .ref (ad 1000)), (1, .int (nI e)), (2, .int (nI (r + 1))), (3, .int (nI (k + 1)))]) hx hb dX4_ownSum_207 hl (by decide) rfl (fun ls hl => ?_)
                                  refine lv_aload_n hx hb dX4_ownSum_209 rfl (lv_at hl 3 rfl) ?_
                                  refine m_get F (ci := 4) (v := .ref (ad 1007)) (fun w h => tb_O (inX4 w h)) hK hM ctM_o rfl 9 (by decide) (tb_O lkX4_33) rfl dX4_ownSum_210 ?_
                                  refine lv_bipush (v := (nI 21)) hx hb dX4_ownSum_213 (by decide) ?_
                                  refine lv_iload_n hx hb dX4_ownSum_215 rfl (lv_at hl 5 rfl) ?_
                                  refine lv_imul hx hb dX4_ownSum_216 ?_
                                  refine m_top (pk_mul 21 (r + 1)) ?_
                                  refine lv_iload_n hx hb dX4_ownSum_217 rfl (lv_at hl 6 rfl) ?_
                                  refine lv_iadd hx hb dX4_ownSum_218 ?_
                                  refine m_top (nI_add (21 * (r + 1)) (k + 1)) ?_
                                  refine lv_iload hx hb dX4_ownSum_219 (lv_at hl 0 rfl) ?_
                                  refine m_top (y := nI (tB (wM co sg e) (r + 1) (k + 1))) (congrArg nI (show tB (wM co sg e) r k + wM co sg e r k = tB (wM co sg e) (r + 1) (k + 1) from (by simp only [tB]; first | done | omega))) ?_
                                  refine m_iast F hK hM hS 0 rfl (j := (21 * (r + 1) + (k + 1))) (x := (nI (tB (wM co sg e) (r + 1) (k + 1)))) ctM_atb (by omega) (by decide) dX4_ownSum_221 (fun H locs hM hS => ?_)
                                  have hM : mw D vwCl lo ad (ctM aC ad n th sz sg me gr lk P co (un tb (21 * (r + 1) + (k + 1)) (tB (wM co sg e) (r + 1) (k + 1))) fd wd sm rc X) H := by rw [upd_nI, ctM_tb] at hM; exact hM
                                  refine lv_iinc (v := (nI (k + 1 + 1))) (lv' := [(3, .int (nI (k + 1 + 1))), (4, .int (nI (tB (wM co sg e) r k + wM co sg e r k))), (6, .int (nI (tB (wM co sg e) r k + wM co sg e r k))), (5, .int (-1)), (0, .ref (ad 1000)), (1, .int (nI e)), (2, .int (nI (r + 1)))]) hx hb dX4_ownSum_222 hl (k := 6) rfl (nI_1 (k + 1)) (by decide) rfl (fun ls hl => ?_)
                                  refine lv_goto (tgt := 12) hx hb dX4_ownSum_225 (by decide) ?_
                                  exact ih_12 (k + 1 + 1) (un tb (21 * (r + 1) + (k + 1)) (tB (wM co sg e) (r + 1) (k + 1))) (by omega) (by omega) (fun p' s' hp hs' => by rw [show un tb (21 * (r + 1) + (k + 1)) (tB (wM co sg e) (r + 1) (k + 1)) (21 * p' + s') = tb (21 * p' + s') from va_up_ne _ _ (by omega)]; exact htb p' s' hp hs') (fun s' hs' => (Nat.lt_or_ge s' (k + 1)).elim (fun q => by rw [show un tb (21 * (r + 1) + (k + 1)) (tB (wM co sg e) (r + 1) (k + 1)) (21 * (r + 1) + s') = tb (21 * (r + 1) + s') from va_up_ne _ _ (by omega)]; exact htc s' q) (fun q => by rw [show s' = k + 1 by omega]; exact va_up_self _ _ _)) (by omega) _ _ _ hM hS (lv_sub hl [4, 5, 6, 0] rfl)
                            · skip
                              refine m_top (y := nI cx) rfl ?_
                              have hcx2 := hco _ _ hcx
                              refine lv_istore (lv' := [(5, .int (nI cx)), (4, .int (nI (tB (wM co sg e) r (k + 1) + 25))), (0, .ref (ad 1000)), (1, .int (nI e)), (2, .int (nI (r + 1))), (3, .int (nI (k + 1)))]) hx hb dX4_ownSum_160 hl (by decide) rfl (fun ls hl => ?_)
                              refine lv_aload_n hx hb dX4_ownSum_162 rfl (lv_at hl 2 rfl) ?_
                              refine m_get F (ci := 4) (v := .ref (ad 1007)) (fun w h => tb_O (inX4 w h)) hK hM ctM_o rfl 9 (by decide) (tb_O lkX4_33) rfl dX4_ownSum_163 ?_
                              refine lv_bipush (v := (nI 21)) hx hb dX4_ownSum_166 (by decide) ?_
                              refine lv_iload_n hx hb dX4_ownSum_168 rfl (lv_at hl 4 rfl) ?_
                              refine lv_imul hx hb dX4_ownSum_169 ?_
                              refine m_top (pk_mul 21 (r + 1)) ?_
                              refine lv_bipush (v := (nI 21)) hx hb dX4_ownSum_170 (by decide) ?_
                              refine lv_isub hx hb dX4_ownSum_172 ?_
                              refine m_top (y := (nI (21 * r))) ((pk_sub (by omega)).trans (congrArg nI (by omega))) ?_
                              refine lv_iload_n hx hb dX4_ownSum_173 rfl (lv_at hl 5 rfl) ?_
                              refine lv_iadd hx hb dX4_ownSum_174 ?_
                              refine m_top (nI_add (21 * r) (k + 1)) ?_
                              refine lv_iconst (v := (nI 1)) hx hb dX4_ownSum_175 (by decide) ?_
                              refine lv_isub hx hb dX4_ownSum_176 ?_
                              refine m_top (y := (nI (21 * r + k))) ((pk_sub (by omega)).trans (congrArg nI (by omega))) ?_
                              refine m_iald F hK hM 0 rfl (j := (21 * r + k)) ctM_atb (by omega) (by decide) dX4_ownSum_177 ?_
                              refine m_top (y := (nI (tB (wM co sg e) r k))) (congrArg nI (htb r k (by omega) (by omega))) ?_
                              refine lv_iload hx hb dX4_ownSum_178 (lv_at hl 0 rfl) ?_
                              refine lv_if_ge (tgt := 188) hx hb dX4_ownSum_180 (by decide) (fun c_180 => ?_) (fun c_180 => ?_)
                              · skip
                                refine lv_iload hx hb dX4_ownSum_188 (lv_at hl 0 rfl) ?_
                                refine lv_iadd hx hb dX4_ownSum_190 ?_
                                refine m_top (y := (nI (tB (wM co sg e) r k + wM co sg e r k))) ((nI_add _ _).trans (congrArg nI (by simp [wM, hcx]))) ?_
                                refine lv_istore (lv' := [(6, .int (nI (tB (wM co sg e) r k + wM co sg e r k))), (5, .int (nI cx)), (4, .int (nI (tB (wM co sg e) r (k + 1) + 25))), (0, .ref (ad 1000)), (1, .int (nI e)), (2, .int (nI (r + 1))), (3, .int (nI (k + 1)))]) hx hb dX4_ownSum_191 hl (by decide) rfl (fun ls hl => ?_)
                                refine lv_iload hx hb dX4_ownSum_193 (lv_at hl 0 rfl) ?_
                                refine lv_iload hx hb dX4_ownSum_195 (lv_at hl 2 rfl) ?_
                                have hb3 := tB_le (w := (wM co sg e)) r k
                                have hw3 : wM co sg e r k ≤ 1000 := by unfold wM; rw [hcx]; first | decide | exact hcx2
                                refine m_icmp_ge F (a := (tB (wM co sg e) r k + wM co sg e r k)) (b := (tB (wM co sg e) r (k + 1) + 25)) (by omega) (by omega) (tgt := 205) dX4_ownSum_197 (by decide) (fun c_197 => ?_) (fun c_197 => ?_)
                                · skip
                                  refine lv_iload hx hb dX4_ownSum_205 (lv_at hl 2 rfl) ?_
                                  refine lv_istore (lv' := [(4, .int (nI (tB (wM co sg e) r (k + 1) + 25))), (6, .int (nI (tB (wM co sg e) r k + wM co sg e r k))), (5, .int (nI cx)), (0, .ref (ad 1000)), (1, .int (nI e)), (2, .int (nI (r + 1))), (3, .int (nI (k + 1)))]) hx hb dX4_ownSum_207 hl (by decide) rfl (fun ls hl => ?_)
                                  refine lv_aload_n hx hb dX4_ownSum_209 rfl (lv_at hl 3 rfl) ?_
                                  refine m_get F (ci := 4) (v := .ref (ad 1007)) (fun w h => tb_O (inX4 w h)) hK hM ctM_o rfl 9 (by decide) (tb_O lkX4_33) rfl dX4_ownSum_210 ?_
                                  refine lv_bipush (v := (nI 21)) hx hb dX4_ownSum_213 (by decide) ?_
                                  refine lv_iload_n hx hb dX4_ownSum_215 rfl (lv_at hl 5 rfl) ?_
                                  refine lv_imul hx hb dX4_ownSum_216 ?_
                                  refine m_top (pk_mul 21 (r + 1)) ?_
                                  refine lv_iload_n hx hb dX4_ownSum_217 rfl (lv_at hl 6 rfl) ?_
                                  refine lv_iadd hx hb dX4_ownSum_218 ?_
                                  refine m_top (nI_add (21 * (r + 1)) (k + 1)) ?_
                                  refine lv_iload hx hb dX4_ownSum_219 (lv_at hl 0 rfl) ?_
                                  refine m_top (y := nI (tB (wM co sg e) (r + 1) (k + 1))) (congrArg nI (show tB (wM co sg e) r (k + 1) + 25 = tB (wM co sg e) (r + 1) (k + 1) from (by simp only [tB]; first | done | omega))) ?_
                                  refine m_iast F hK hM hS 0 rfl (j := (21 * (r + 1) + (k + 1))) (x := (nI (tB (wM co sg e) (r + 1) (k + 1)))) ctM_atb (by omega) (by decide) dX4_ownSum_221 (fun H locs hM hS => ?_)
                                  have hM : mw D vwCl lo ad (ctM aC ad n th sz sg me gr lk P co (un tb (21 * (r + 1) + (k + 1)) (tB (wM co sg e) (r + 1) (k + 1))) fd wd sm rc X) H := by rw [upd_nI, ctM_tb] at hM; exact hM
                                  refine lv_iinc (v := (nI (k + 1 + 1))) (lv' := [(3, .int (nI (k + 1 + 1))), (4, .int (nI (tB (wM co sg e) r (k + 1) + 25))), (6, .int (nI (tB (wM co sg e) r k + wM co sg e r k))), (5, .int (nI cx)), (0, .ref (ad 1000)), (1, .int (nI e)), (2, .int (nI (r + 1)))]) hx hb dX4_ownSum_222 hl (k := 6) rfl (nI_1 (k + 1)) (by decide) rfl (fun ls hl => ?_)
                                  refine lv_goto (tgt := 12) hx hb dX4_ownSum_225 (by decide) ?_
                                  exact ih_12 (k + 1 + 1) (un tb (21 * (r + 1) + (k + 1)) (tB (wM co sg e) (r + 1) (k + 1))) (by omega) (by omega) (fun p' s' hp hs' => by rw [show un tb (21 * (r + 1) + (k + 1)) (tB (wM co sg e) (r + 1) (k + 1)) (21 * p' + s') = tb (21 * p' + s') from va_up_ne _ _ (by omega)]; exact htb p' s' hp hs') (fun s' hs' => (Nat.lt_or_ge s' (k + 1)).elim (fun q => by rw [show un tb (21 * (r + 1) + (k + 1)) (tB (wM co sg e) (r + 1) (k + 1)) (21 * (r + 1) + s') = tb (21 * (r + 1) + s') from va_up_ne _ _ (by omega)]; exact htc s' q) (fun q => by rw [show s' = k + 1 by omega]; exact va_up_self _ _ _)) (by omega) _ _ _ hM hS (lv_sub hl [4, 5, 6, 0] rfl)
                                · skip
                                  refine lv_iload hx hb dX4_ownSum_200 (lv_at hl 0 rfl) ?_
                                  refine lv_goto (tgt := 207) hx hb dX4_ownSum_202 (by decide) ?_
                                  refine lv_istore (lv' := [(4, .int (nI (tB (wM co sg e) r k + wM co sg e r k))), (6, .int (nI (tB (wM co sg e) r k + wM co sg e r k))), (5, .int (nI cx)), (0, .ref (ad 1000)), (1, .int (nI e)), (2, .int (nI (r + 1))), (3, .int (nI (k + 1)))]) hx hb dX4_ownSum_207 hl (by decide) rfl (fun ls hl => ?_)
                                  refine lv_aload_n hx hb dX4_ownSum_209 rfl (lv_at hl 3 rfl) ?_
                                  refine m_get F (ci := 4) (v := .ref (ad 1007)) (fun w h => tb_O (inX4 w h)) hK hM ctM_o rfl 9 (by decide) (tb_O lkX4_33) rfl dX4_ownSum_210 ?_
                                  refine lv_bipush (v := (nI 21)) hx hb dX4_ownSum_213 (by decide) ?_
                                  refine lv_iload_n hx hb dX4_ownSum_215 rfl (lv_at hl 5 rfl) ?_
                                  refine lv_imul hx hb dX4_ownSum_216 ?_
                                  refine m_top (pk_mul 21 (r + 1)) ?_
                                  refine lv_iload_n hx hb dX4_ownSum_217 rfl (lv_at hl 6 rfl) ?_
                                  refine lv_iadd hx hb dX4_ownSum_218 ?_
                                  refine m_top (nI_add (21 * (r + 1)) (k + 1)) ?_
                                  refine lv_iload hx hb dX4_ownSum_219 (lv_at hl 0 rfl) ?_
                                  refine m_top (y := nI (tB (wM co sg e) (r + 1) (k + 1))) (congrArg nI (show tB (wM co sg e) r k + wM co sg e r k = tB (wM co sg e) (r + 1) (k + 1) from (by simp only [tB]; first | done | omega))) ?_
                                  refine m_iast F hK hM hS 0 rfl (j := (21 * (r + 1) + (k + 1))) (x := (nI (tB (wM co sg e) (r + 1) (k + 1)))) ctM_atb (by omega) (by decide) dX4_ownSum_221 (fun H locs hM hS => ?_)
                                  have hM : mw D vwCl lo ad (ctM aC ad n th sz sg me gr lk P co (un tb (21 * (r + 1) + (k + 1)) (tB (wM co sg e) (r + 1) (k + 1))) fd wd sm rc X) H := by rw [upd_nI, ctM_tb] at hM; exact hM
                                  refine lv_iinc (v := (nI (k + 1 + 1))) (lv' := [(3, .int (nI (k + 1 + 1))), (4, .int (nI (tB (wM co sg e) r k + wM co sg e r k))), (6, .int (nI (tB (wM co sg e) r k + wM co sg e r k))), (5, .int (nI cx)), (0, .ref (ad 1000)), (1, .int (nI e)), (2, .int (nI (r + 1)))]) hx hb dX4_ownSum_222 hl (k := 6) rfl (nI_1 (k + 1)) (by decide) rfl (fun ls hl => ?_)
                                  refine lv_goto (tgt := 12) hx hb dX4_ownSum_225 (by decide) ?_
                                  exact ih_12 (k + 1 + 1) (un tb (21 * (r + 1) + (k + 1)) (tB (wM co sg e) (r + 1) (k + 1))) (by omega) (by omega) (fun p' s' hp hs' => by rw [show un tb (21 * (r + 1) + (k + 1)) (tB (wM co sg e) (r + 1) (k + 1)) (21 * p' + s') = tb (21 * p' + s') from va_up_ne _ _ (by omega)]; exact htb p' s' hp hs') (fun s' hs' => (Nat.lt_or_ge s' (k + 1)).elim (fun q => by rw [show un tb (21 * (r + 1) + (k + 1)) (tB (wM co sg e) (r + 1) (k + 1)) (21 * (r + 1) + s') = tb (21 * (r + 1) + s') from va_up_ne _ _ (by omega)]; exact htc s' q) (fun q => by rw [show s' = k + 1 by omega]; exact va_up_self _ _ _)) (by omega) _ _ _ hM hS (lv_sub hl [4, 5, 6, 0] rfl)
                              · skip
                                exact absurd (nI_pos' (by omega)) c_180
              · skip
                exact absurd c_23 (nI_ne0 (by omega) (by omega))
      refine lv_iload_n hx hb dX4_ownSum_2 rfl (lv_at hl 2 rfl) ?_
      refine lv_aload_n hx hb dX4_ownSum_3 rfl (lv_at hl 0 rfl) ?_
      refine m_get F (ci := 4) (v := .int (nI P)) (fun w h => tb_O (inX4 w h)) hK hM ctM_o rfl 7 (by decide) (tb_O lkX4_48) rfl dX4_ownSum_4 ?_
      refine m_icmp_gt F (a := p) (b := P) (by omega) (by omega) (tgt := 234) dX4_ownSum_7 (by decide) (fun c_7 => ?_) (fun c_7 => ?_)
      · skip
        have hin9 : p = P + 1 := by omega
        subst hin9
        refine lv_aload_n hx hb dX4_ownSum_234 rfl (lv_at hl 0 rfl) ?_
        refine m_get F (ci := 4) (v := .ref (ad 1007)) (fun w h => tb_O (inX4 w h)) hK hM ctM_o rfl 9 (by decide) (tb_O lkX4_33) rfl dX4_ownSum_235 ?_
        refine lv_bipush (v := (nI 21)) hx hb dX4_ownSum_238 (by decide) ?_
        refine lv_aload_n hx hb dX4_ownSum_240 rfl (lv_at hl 0 rfl) ?_
        refine m_get F (ci := 4) (v := .int (nI P)) (fun w h => tb_O (inX4 w h)) hK hM ctM_o rfl 7 (by decide) (tb_O lkX4_48) rfl dX4_ownSum_241 ?_
        refine lv_imul hx hb dX4_ownSum_244 ?_
        refine m_top (pk_mul 21 P) ?_
        refine lv_aload_n hx hb dX4_ownSum_245 rfl (lv_at hl 0 rfl) ?_
        refine m_get F (ci := 4) (v := .ref (ad 1002)) (fun w h => tb_O (inX4 w h)) hK hM ctM_o rfl 2 (by decide) (tb_O lkX4_13) rfl dX4_ownSum_246 ?_
        refine lv_iload_n hx hb dX4_ownSum_249 rfl (lv_at hl 1 rfl) ?_
        refine m_iald F hK hM 0 rfl (j := e) ctM_asz (by omega) (by decide) dX4_ownSum_250 ?_
        refine m_top (y := (nI (sz e))) rfl ?_
        refine lv_iadd hx hb dX4_ownSum_251 ?_
        refine m_top (nI_add (21 * P) (sz e)) ?_
        refine m_iald F hK hM 0 rfl (j := (21 * P + (sz e))) ctM_atb (by omega) (by decide) dX4_ownSum_252 ?_
        refine m_top (y := (nI (owM P co sz sg e))) (congrArg nI (htb P (sz e) (by omega) (Nat.le_refl _))) ?_
        exact W.iret hx hb hr (fun t ht hW => ⟨⟨_, _, _, rfl, ⟨rfl, rfl, _, rfl⟩, by rw [ht]; exact hM⟩, hS.F ht⟩) hS.2.2 dX4_ownSum_253
      · skip
        refine lv_iconst (v := (nI 0)) hx hb dX4_ownSum_10 (by decide) ?_
        refine lv_istore_n (lv' := [(3, .int (nI 0)), (0, .ref (ad 1000)), (1, .int (nI e)), (2, .int (nI p))]) hx hb dX4_ownSum_11 rfl hl (by decide) rfl (fun ls hl => ?_)
        exact loop_12 (sz e + 2) 0 tb (by omega) (Nat.zero_le _) htb (fun s' h => absurd h (Nat.not_lt_zero _)) (by omega) _ _ _ hM hS (lv_sub hl [1, 2, 3, 0] rfl)
  refine lv_iconst (v := (nI 0)) hx hb dX4_ownSum_0 (by decide) ?_
  refine lv_istore_n (lv' := [(2, .int (nI 0)), (0, .ref (ad 1000)), (1, .int (nI e))]) hx hb dX4_ownSum_1 rfl hl (by decide) rfl (fun ls hl => ?_)
  exact loop_2 (P + 2) 0 tb (Nat.zero_le _) (fun p' s' h => absurd h (Nat.not_lt_zero _)) (by omega) _ _ _ hM hS (lv_sub hl [1, 2, 0] rfl)
