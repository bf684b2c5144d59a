set_option maxHeartbeats 4000000 in
set_option maxRecDepth 100000 in
theorem c_spells (l : Launch) {D : va_G} {aC : Nat → ClassId} {lo : Nat} {ad : Nat → Nat} {ct : Nat → Option va_E} {P : Nat} {co : Nat → Option Nat} {ke ks len : Nat} {gb db lv : Int32} {sv : Value} {g : Nat → Nat} (h2 : ct 2 = some (.inr (2, [.ref (ad 3), .ref (ad 4), .int (nI P)]))) (h3 : ct 3 = some (iA aC 1880 (fun j => cV (co j)))) (he : ct ke = some (.inr (0, [.ref (ad ks), .int (nI len), .int gb, .int db, sv, .int lv]))) (hg : ct ks = some (iA aC 20 (fun j => nI (g j)))) (hsg : ∀ j, j < len → 33 ≤ g j ∧ g j ≤ 126) (hlen : len ≤ 20) (hP : P ≤ 20) (hco : ∀ k c, co k = some c → c ≤ 1000) : Met l yX2_spells (wsO yX2_spells cX2_spells 3 (some .boolean)) ({ frames := 3, cells := 0, slots := 0, locals := 64 } : Room) (mPc D vwCl (tyA aC) lo ad ct [.ref (ad 2), .ref (ad ke)]) (mD1 D vwCl lo (.int (bI (decide (len = P) && spl co g P))) ad ct) 0 0 (fun q => lo ≤ q) := by
  refine Met.ofW (cc := cX2_spells) (maxL := 3) (ret := (some .boolean)) (by decide) rfl ?_
  intro pr en s0 mm args below meth cc0 s₁ B hml hv
  obtain ⟨rfl, hlo, hM, hKK⟩ := hv
  have hK := hKK.1
  have hr := B.returns
  have hts := atoms_spec (ws := (wsO yX2_spells cX2_spells 3 (some .boolean))) B.pre
  have F : CallFix pr mm cc0 cX2_spells 3 s0 (([.ref (ad 2), .ref (ad ke)] : List Value).toArray) (wsO yX2_spells cX2_spells 3 (some .boolean)) RX2 := ⟨B.exec, B.bytes, hml, findClass_of_methodNamed B.named, hts⟩
  have hx := F.1
  have hb := F.2.1
  have hlocks := B.notSynchronized
  have hS : va_S (fun q => lo ≤ q) s0.heap s0.heap [] := va_S.rf
  have hl := lv_entry ([.ref (ad 2), .ref (ad ke)]) (n := 3) (Nat.le_of_ble_eq_true rfl)
  rw [lg_entry_eq]
  generalize (lg_sl ([.ref (ad 2), .ref (ad ke)]) ++ List.replicate (3 - (lg_sl ([.ref (ad 2), .ref (ad ke)])).length) Slot.unset).toArray = ls at hl ⊢
  have hl : lv_has ls 3 [(0, .ref (ad 2)), (1, .ref (ad ke))] := hl
  have loop_15 : ∀ (fu : Nat) (i : Nat), (i ≤ P) → (len = P) → (spl co g i = true) → P + 1 - i ≤ fu → ∀ (H : Heap) (locs : List Loc) (ls : Array Slot), mw D vwCl lo ad ct H → va_S (fun q => lo ≤ q) s0.heap H locs → lv_has ls 3 [(0, .ref (ad 2)), (1, .ref (ad ke)), (2, .int (nI i))] → W pr l en (headSpec (wsO yX2_spells cX2_spells 3 (some .boolean)) ({ frames := 3, cells := 0, slots := 0, locals := 64 } : Room)).room s0 mm (([.ref (ad 2), .ref (ad ke)] : List Value).toArray) below meth cc0 H locs 0 0 (MQ below (mD1 D vwCl lo (.int (bI (decide (len = P) && spl co g P))) ad ct) (([.ref (ad 2), .ref (ad ke)] : List Value).toArray) s0 0 0 (fun q => lo ≤ q)) (F0 mm 15 ls []) := by
    intro fu
    induction fu with
    | zero =>
      intro i hi hle hsp hfu H locs ls hM hS hl
      exact absurd hfu (by omega)
    | succ fu ih_15 =>
      intro i hi hle hsp hfu H locs ls hM hS hl
      refine lv_iload_n hx hb dX2_spells_15 rfl (lv_at hl 2 rfl) ?_
      refine lv_aload_n hx hb dX2_spells_16 rfl (lv_at hl 0 rfl) ?_
      refine m_get F (ci := 2) (v := .int (nI P)) (fun w h => tb_O (inX2 w h)) hK hM h2 rfl 2 (by decide) (tb_O lkX2_24) rfl dX2_spells_17 ?_
      refine m_icmp_ge F (a := i) (b := P) (by omega) (by omega) (tgt := 46) dX2_spells_20 (by decide) (fun c_20 => ?_) (fun c_20 => ?_)
      · skip
        have hiP : P = i := by omega
        subst hiP
        refine lv_iconst (v := (nI 1)) hx hb dX2_spells_46 (by decide) ?_
        exact W.zret hx hb hr rfl (fun t ht hW => ⟨⟨_, _, _, rfl, ⟨by rw [hsp, decide_eq_true hle]; rfl, rfl, rfl⟩, by rw [ht]; exact hM⟩, hS.F ht⟩) hS.2.2 dX2_spells_47
      · skip
        refine lv_aload_n hx hb dX2_spells_23 rfl (lv_at hl 0 rfl) ?_
        refine lv_iload_n hx hb dX2_spells_24 rfl (lv_at hl 2 rfl) ?_
        refine lv_aload_n hx hb dX2_spells_25 rfl (lv_at hl 1 rfl) ?_
        refine m_get F (ci := 0) (v := .ref (ad ks)) (fun w h => tb_O (inX0 w h)) hK hM he rfl 0 (by decide) (tb_O lkX2_42) rfl dX2_spells_26 ?_
        refine lv_iload_n hx hb dX2_spells_29 rfl (lv_at hl 2 rfl) ?_
        refine m_iald F hK hM 0 rfl (j := i) hg (by omega) (by decide) dX2_spells_30 ?_
        refine m_top (y := (nI (g i))) rfl ?_
        refine m_d1 (v := .int (cV (co (i * 94 + g i - 33)))) (ct1 := ct) (va_runV (As := [.int (nI i), .int (nI (g i))]) (rest := []) F (c_told l i (g i) (by omega) (hsg i (by omega)).1 (hsg i (by omega)).2 h2 h3) (cwV 2 F.2.2.2.2 (go_V (fun _ h => tb_O h) mlX2_45 imX2_told seX2_told iniX2 cdX2_told) rfl rfl rfl (by decide +kernel) ⟨Nat.le_of_ble_eq_true rfl, Nat.le_of_ble_eq_true rfl⟩) (mPreV hKK hM (Nat.le_trans hlo hS.1) h2 rfl) rfl rfl hl.1 rfl (lv_room (Nat.le_of_ble_eq_true rfl)) dX2_spells_31 ⟨Nat.le_of_ble_eq_true rfl, Nat.le_of_ble_eq_true rfl⟩) hS (fun H locs hM hS => ?_)
        rcases hcx : co (i * 94 + g i - 33) with _ | cx
        · skip
          refine m_top (y := (-1)) rfl ?_
          refine lv_iconst (v := (-1)) hx hb dX2_spells_34 (by decide) ?_
          refine lv_icmp_ne (tgt := 40) hx hb dX2_spells_35 (by decide) (fun c_35 => ?_) (fun c_35 => ?_)
          · skip
            exact absurd rfl c_35
          · skip
            refine lv_iconst (v := (nI 0)) hx hb dX2_spells_38 (by decide) ?_
            exact W.zret hx hb hr rfl (fun t ht hW => ⟨⟨_, _, _, rfl, ⟨by rw [spl_no hcx c_20, Bool.and_false]; rfl, rfl, rfl⟩, by rw [ht]; exact hM⟩, hS.F ht⟩) hS.2.2 dX2_spells_39
        · skip
          refine m_top (y := nI cx) rfl ?_
          refine lv_iconst (v := (-1)) hx hb dX2_spells_34 (by decide) ?_
          refine lv_icmp_ne (tgt := 40) hx hb dX2_spells_35 (by decide) (fun c_35 => ?_) (fun c_35 => ?_)
          · skip
            refine lv_iinc (v := (nI (i + 1))) (lv' := [(2, .int (nI (i + 1))), (0, .ref (ad 2)), (1, .ref (ad ke))]) hx hb dX2_spells_40 hl (k := 2) rfl (nI_1 i) (by decide) rfl (fun ls hl => ?_)
            refine lv_goto (tgt := 15) hx hb dX2_spells_43 (by decide) ?_
            exact ih_15 (i + 1) (by omega) hle (by show (spl co g i && _) = true; rw [hsp, hcx]; rfl) (by omega) _ _ _ hM hS (lv_sub hl [1, 2, 0] rfl)
          · skip
            exact absurd c_35 (nI_nm1 (by have := hco _ _ hcx; omega))
  refine lv_aload_n hx hb dX2_spells_0 rfl (lv_at hl 1 rfl) ?_
  refine m_get F (ci := 0) (v := .int (nI len)) (fun w h => tb_O (inX0 w h)) hK hM he rfl 1 (by decide) (tb_O lkX2_37) rfl dX2_spells_1 ?_
  refine lv_aload_n hx hb dX2_spells_4 rfl (lv_at hl 0 rfl) ?_
  refine m_get F (ci := 2) (v := .int (nI P)) (fun w h => tb_O (inX2 w h)) hK hM h2 rfl 2 (by decide) (tb_O lkX2_24) rfl dX2_spells_5 ?_
  refine m_icmp_eq F (a := len) (b := P) (by omega) (by omega) (tgt := 13) dX2_spells_8 (by decide) (fun c_8 => ?_) (fun c_8 => ?_)
  · skip
    refine lv_iconst (v := (nI 0)) hx hb dX2_spells_13 (by decide) ?_
    refine lv_istore_n (lv' := [(2, .int (nI 0)), (0, .ref (ad 2)), (1, .ref (ad ke))]) hx hb dX2_spells_14 rfl hl (by decide) rfl (fun ls hl => ?_)
    exact loop_15 (P + 1) 0 (Nat.zero_le _) c_8 rfl (by omega) _ _ _ hM hS (lv_sub hl [1, 2, 0] rfl)
  · skip
    refine lv_iconst (v := (nI 0)) hx hb dX2_spells_11 (by decide) ?_
    exact W.zret hx hb hr rfl (fun t ht hW => ⟨⟨_, _, _, rfl, ⟨by rw [show decide (len = P) = false from decide_eq_false c_8]; rfl, rfl, rfl⟩, by rw [ht]; exact hM⟩, hS.F ht⟩) hS.2.2 dX2_spells_12

set_option maxHeartbeats 4000000 in
set_option maxRecDepth 100000 in
theorem c_addSign (l : Launch) {D : va_G} {aC : Nat → ClassId} {lo : Nat} {ad : Nat → Nat} {ct : Nat → Option va_E} {P : Nat} {co : Nat → Option Nat} {lc : Nat → Nat} (q : Nat) (hq1 : 33 ≤ q) (hq2 : q ≤ 126) (h2 : ct 2 = some (.inr (2, [.ref (ad 3), .ref (ad 4), .int (nI P)]))) (h3 : ct 3 = some (iA aC 1880 (fun j => cV (co j)))) (h4 : ct 4 = some (iA aC 21 (fun j => nI (lc j)))) (hP : P ≤ 20) (hco : ∀ k c, co k = some c → c ≤ 1000) (hlc : ∀ j, j ≤ P → lc j ≤ 100000) : Met l yX2_addSign (wsO yX2_addSign cX2_addSign 7 none) ({ frames := 4, cells := 0, slots := 0, locals := 87 } : Room) (mPc D vwCl (tyA aC) lo ad ct [.ref (ad 2), .int (nI q)]) (mD0 D vwCl lo ad (va_up ct 4 (some (iA aC 21 (fun j => nI ((adS lc (fun pl => wC co pl q) P) j)))))) 0 0 (fun q => lo ≤ q) := by
  refine Met.ofW (cc := cX2_addSign) (maxL := 7) (ret := none) (by decide) rfl ?_
  intro pr en s0 mm args below meth cc0 s₁ B hml hv
  obtain ⟨rfl, hlo, hM, hKK⟩ := hv
  have hK := hKK.1
  have hr := B.returns
  have hts := atoms_spec (ws := (wsO yX2_addSign cX2_addSign 7 none)) B.pre
  have F : CallFix pr mm cc0 cX2_addSign 7 s0 (([.ref (ad 2), .int (nI q)] : List Value).toArray) (wsO yX2_addSign cX2_addSign 7 none) RX2 := ⟨B.exec, B.bytes, hml, findClass_of_methodNamed B.named, hts⟩
  have hx := F.1
  have hb := F.2.1
  have hlocks := B.notSynchronized
  have hS : va_S (fun q => lo ≤ q) s0.heap s0.heap [] := va_S.rf
  have hl := lv_entry ([.ref (ad 2), .int (nI q)]) (n := 7) (Nat.le_of_ble_eq_true rfl)
  rw [lg_entry_eq]
  generalize (lg_sl ([.ref (ad 2), .int (nI q)]) ++ List.replicate (7 - (lg_sl ([.ref (ad 2), .int (nI q)])).length) Slot.unset).toArray = ls at hl ⊢
  have hl : lv_has ls 7 [(0, .ref (ad 2)), (1, .int (nI q))] := hl
  have loop_19 : ∀ (fu : Nat) (i : Nat), (i ≤ P) → P + 1 - i ≤ fu → ∀ (H : Heap) (locs : List Loc) (ls : Array Slot), mw D vwCl lo ad (va_up ct 4 (some (iA aC 21 (fun j => nI ((adS lc (fun pl => wC co pl q) i) j))))) H → va_S (fun q => lo ≤ q) s0.heap H locs → lv_has ls 7 [(0, .ref (ad 2)), (1, .int (nI q)), (2, .int (nI (lc i))), (3, .int (nI i))] → W pr l en (headSpec (wsO yX2_addSign cX2_addSign 7 none) ({ frames := 4, cells := 0, slots := 0, locals := 87 } : Room)).room s0 mm (([.ref (ad 2), .int (nI q)] : List Value).toArray) below meth cc0 H locs 0 0 (MQ below (mD0 D vwCl lo ad (va_up ct 4 (some (iA aC 21 (fun j => nI ((adS lc (fun pl => wC co pl q) P) j)))))) (([.ref (ad 2), .int (nI q)] : List Value).toArray) s0 0 0 (fun q => lo ≤ q)) (F0 mm 19 ls []) := by
    intro fu
    induction fu with
    | zero =>
      intro i hi hfu H locs ls hM hS hl
      exact absurd hfu (by omega)
    | succ fu ih_19 =>
      intro i hi hfu H locs ls hM hS hl
      have hdi : dpS lc (fun pl => wC co pl q) i ≤ lc i + 30 := dpS_le lc (fun pl => wC co pl q) i
      have hli := hlc i hi
      have hw : wC co i q ≤ 1000 := wC_le hco i q
      refine lv_iload_n hx hb dX2_addSign_19 rfl (lv_at hl 3 rfl) ?_
      refine lv_aload_n hx hb dX2_addSign_20 rfl (lv_at hl 0 rfl) ?_
      refine m_get F (ci := 2) (v := .int (nI P)) (fun w h => tb_O (inX2 w h)) hK hM ((va_up_ne _ _ (by decide)).trans h2) rfl 2 (by decide) (tb_O lkX2_24) rfl dX2_addSign_21 ?_
      refine m_icmp_ge F (a := i) (b := P) (by omega) (by omega) (tgt := 96) dX2_addSign_24 (by decide) (fun c_24 => ?_) (fun c_24 => ?_)
      · skip
        have hiP : P = i := by omega
        subst hiP
        exact W.vret hx hb hr (fun t ht hW => ⟨⟨_, _, rfl, ⟨rfl, rfl⟩, by rw [ht]; exact hM⟩, hS.F ht⟩) hS.2.2 dX2_addSign_96
      · skip
        have hli1 := hlc (i + 1) (by omega)
        have hdx : adS lc (fun pl => wC co pl q) i (i + 1) = lc (i + 1) := adS_nx
        have hdy : adS lc (fun pl => wC co pl q) i i = dpS lc (fun pl => wC co pl q) i := adS_at
        refine lv_iload_n hx hb dX2_addSign_27 rfl (lv_at hl 2 rfl) ?_
        refine lv_aload_n hx hb dX2_addSign_28 rfl (lv_at hl 0 rfl) ?_
        refine lv_iload_n hx hb dX2_addSign_29 rfl (lv_at hl 3 rfl) ?_
        refine lv_iload_n hx hb dX2_addSign_30 rfl (lv_at hl 1 rfl) ?_
        refine m_d1 (v := .int (nI (wC co i q))) (ct1 := va_up ct 4 (some (iA aC 21 (fun j => nI ((adS lc (fun pl => wC co pl q) i) j))))) (va_runV (As := [.int (nI i), .int (nI q)]) (rest := [.int (nI (lc i))]) F (c_costAs l i q (by omega) hq1 hq2 ((va_up_ne _ _ (by decide)).trans h2) ((va_up_ne _ _ (by decide)).trans h3) hco) (cwV 2 F.2.2.2.2 (go_V (fun _ h => tb_O h) mlX2_52 imX2_costAs seX2_costAs iniX2 cdX2_costAs) rfl rfl rfl (by decide +kernel) ⟨Nat.le_of_ble_eq_true rfl, Nat.le_of_ble_eq_true rfl⟩) (mPreV hKK hM (Nat.le_trans hlo hS.1) ((va_up_ne _ _ (by decide)).trans h2) rfl) rfl rfl hl.1 rfl (lv_room (Nat.le_of_ble_eq_true rfl)) dX2_addSign_31 ⟨Nat.le_of_ble_eq_true rfl, Nat.le_of_ble_eq_true rfl⟩) hS (fun H locs hM hS => ?_)
        refine lv_iadd hx hb dX2_addSign_34 ?_
        refine m_top (nI_add (lc i) (wC co i q)) ?_
        refine lv_istore (lv' := [(4, .int (nI (lc i + (wC co i q)))), (0, .ref (ad 2)), (1, .int (nI q)), (2, .int (nI (lc i))), (3, .int (nI i))]) hx hb dX2_addSign_35 hl (by decide) rfl (fun ls hl => ?_)
        refine lv_aload_n hx hb dX2_addSign_37 rfl (lv_at hl 1 rfl) ?_
        refine m_get F (ci := 2) (v := .ref (ad 4)) (fun w h => tb_O (inX2 w h)) hK hM ((va_up_ne _ _ (by decide)).trans h2) rfl 1 (by decide) (tb_O lkX2_21) rfl dX2_addSign_38 ?_
        refine lv_iload_n hx hb dX2_addSign_41 rfl (lv_at hl 4 rfl) ?_
        refine lv_iconst (v := (nI 1)) hx hb dX2_addSign_42 (by decide) ?_
        refine lv_iadd hx hb dX2_addSign_43 ?_
        refine m_top (nI_add i 1) ?_
        refine m_iald F hK hM 0 rfl (j := (i + 1)) (va_up_self _ _ _) (by omega) (by decide) dX2_addSign_44 ?_
        refine m_top (y := (nI (lc (i + 1)))) (congrArg nI hdx) ?_
        refine lv_bipush (v := (nI 30)) hx hb dX2_addSign_45 (by decide) ?_
        refine lv_iadd hx hb dX2_addSign_47 ?_
        refine m_top (nI_add (lc (i + 1)) 30) ?_
        refine lv_istore (lv' := [(5, .int (nI (lc (i + 1) + 30))), (4, .int (nI (lc i + (wC co i q)))), (0, .ref (ad 2)), (1, .int (nI q)), (2, .int (nI (lc i))), (3, .int (nI i))]) hx hb dX2_addSign_48 hl (by decide) rfl (fun ls hl => ?_)
        refine lv_aload_n hx hb dX2_addSign_50 rfl (lv_at hl 2 rfl) ?_
        refine m_get F (ci := 2) (v := .ref (ad 4)) (fun w h => tb_O (inX2 w h)) hK hM ((va_up_ne _ _ (by decide)).trans h2) rfl 1 (by decide) (tb_O lkX2_21) rfl dX2_addSign_51 ?_
        refine lv_iload_n hx hb dX2_addSign_54 rfl (lv_at hl 5 rfl) ?_
        refine m_iald F hK hM 0 rfl (j := i) (va_up_self _ _ _) (by omega) (by decide) dX2_addSign_55 ?_
        refine m_top (y := (nI (dpS lc (fun pl => wC co pl q) i))) (congrArg nI hdy) ?_
        refine lv_bipush (v := (nI 25)) hx hb dX2_addSign_56 (by decide) ?_
        refine lv_iadd hx hb dX2_addSign_58 ?_
        refine m_top (nI_add (dpS lc (fun pl => wC co pl q) i) 25) ?_
        refine lv_istore (lv' := [(6, .int (nI (dpS lc (fun pl => wC co pl q) i + 25))), (5, .int (nI (lc (i + 1) + 30))), (4, .int (nI (lc i + (wC co i q)))), (0, .ref (ad 2)), (1, .int (nI q)), (2, .int (nI (lc i))), (3, .int (nI i))]) hx hb dX2_addSign_59 hl (by decide) rfl (fun ls hl => ?_)
        refine lv_aload_n hx hb dX2_addSign_61 rfl (lv_at hl 3 rfl) ?_
        refine m_get F (ci := 2) (v := .ref (ad 4)) (fun w h => tb_O (inX2 w h)) hK hM ((va_up_ne _ _ (by decide)).trans h2) rfl 1 (by decide) (tb_O lkX2_21) rfl dX2_addSign_62 ?_
        refine lv_iload_n hx hb dX2_addSign_65 rfl (lv_at hl 6 rfl) ?_
        refine lv_iconst (v := (nI 1)) hx hb dX2_addSign_66 (by decide) ?_
        refine lv_iadd hx hb dX2_addSign_67 ?_
        refine m_top (nI_add i 1) ?_
        refine m_iald F hK hM 0 rfl (j := (i + 1)) (va_up_self _ _ _) (by omega) (by decide) dX2_addSign_68 ?_
        refine m_top (y := (nI (lc (i + 1)))) (congrArg nI hdx) ?_
        refine lv_istore_n (lv' := [(2, .int (nI (lc (i + 1)))), (6, .int (nI (dpS lc (fun pl => wC co pl q) i + 25))), (5, .int (nI (lc (i + 1) + 30))), (4, .int (nI (lc i + (wC co i q)))), (0, .ref (ad 2)), (1, .int (nI q)), (3, .int (nI i))]) hx hb dX2_addSign_69 rfl hl (by decide) rfl (fun ls hl => ?_)
        refine lv_aload_n hx hb dX2_addSign_70 rfl (lv_at hl 4 rfl) ?_
        refine m_get F (ci := 2) (v := .ref (ad 4)) (fun w h => tb_O (inX2 w h)) hK hM ((va_up_ne _ _ (by decide)).trans h2) rfl 1 (by decide) (tb_O lkX2_21) rfl dX2_addSign_71 ?_
        refine lv_iload_n hx hb dX2_addSign_74 rfl (lv_at hl 6 rfl) ?_
        refine lv_iconst (v := (nI 1)) hx hb dX2_addSign_75 (by decide) ?_
        refine lv_iadd hx hb dX2_addSign_76 ?_
        refine m_top (nI_add i 1) ?_
        refine lv_iload hx hb dX2_addSign_77 (lv_at hl 3 rfl) ?_
        refine lv_iload hx hb dX2_addSign_79 (lv_at hl 2 rfl) ?_
        refine lv_iload hx hb dX2_addSign_81 (lv_at hl 1 rfl) ?_
        refine va_mmin hx hb (F.2.2.1.trans hl.1.symm) F.2.2.2.1 (F.2.2.2.2 _ (tb_O mlX2_55)) (F.2.2.2.2 _ (tb_O st_min)) (F.2.2.2.2 _ (tb_O iniMath)) (F.2.2.2.2 _ (tb_O cd_min)) (Nat.le_of_ble_eq_true rfl) (Nat.le_of_ble_eq_true rfl) (Nat.le_of_ble_eq_true rfl) (Nat.le_of_ble_eq_true rfl) dX2_addSign_83 ?_
        refine m_top (y := (nI (min (lc (i + 1) + 30) (dpS lc (fun pl => wC co pl q) i + 25)))) (mn_nI (by omega) (by omega)) ?_
        refine va_mmin hx hb (F.2.2.1.trans hl.1.symm) F.2.2.2.1 (F.2.2.2.2 _ (tb_O mlX2_55)) (F.2.2.2.2 _ (tb_O st_min)) (F.2.2.2.2 _ (tb_O iniMath)) (F.2.2.2.2 _ (tb_O cd_min)) (Nat.le_of_ble_eq_true rfl) (Nat.le_of_ble_eq_true rfl) (Nat.le_of_ble_eq_true rfl) (Nat.le_of_ble_eq_true rfl) dX2_addSign_86 ?_
        refine m_top (y := (nI (min (lc i + wC co i q) (min (lc (i + 1) + 30) (dpS lc (fun pl => wC co pl q) i + 25))))) (mn_nI (by omega) (by omega)) ?_
        refine m_iast F hK hM hS 0 rfl (j := (i + 1)) (x := (nI (min (lc i + wC co i q) (min (lc (i + 1) + 30) (dpS lc (fun pl => wC co pl q) i + 25))))) (va_up_self _ _ _) (by omega) (by decide) dX2_addSign_89 (fun H locs hM hS => ?_)
        have hM : mw D vwCl lo ad (va_up (va_up ct 4 (some (iA aC 21 (fun j => nI ((adS lc (fun pl => wC co pl q) i) j))))) 4 (some (.inl (aC 0, 21, .inl (upd (fun j => nI ((adS lc (fun pl => wC co pl q) i) j)) (i + 1) (nI (min (lc i + wC co i q) (min (lc (i + 1) + 30) (dpS lc (fun pl => wC co pl q) i + 25))))))))) H := hM
        have hM : mw D vwCl lo ad (va_up ct 4 (some (iA aC 21 (fun j => nI ((adS lc (fun pl => wC co pl q) (i + 1)) j))))) H := by rw [upd_nI, bx_uu, adS_s rfl] at hM; exact hM
        refine lv_iinc (v := (nI (i + 1))) (lv' := [(3, .int (nI (i + 1))), (2, .int (nI (lc (i + 1)))), (6, .int (nI (dpS lc (fun pl => wC co pl q) i + 25))), (5, .int (nI (lc (i + 1) + 30))), (4, .int (nI (lc i + (wC co i q)))), (0, .ref (ad 2)), (1, .int (nI q))]) hx hb dX2_addSign_90 hl (k := 6) rfl (nI_1 i) (by decide) rfl (fun ls hl => ?_)
        refine lv_goto (tgt := 19) hx hb dX2_addSign_93 (by decide) ?_
        exact ih_19 (i + 1) (by omega) (by omega) _ _ _ hM hS (lv_sub hl [5, 6, 1, 0] rfl)
  refine lv_aload_n hx hb dX2_addSign_0 rfl (lv_at hl 0 rfl) ?_
  refine m_get F (ci := 2) (v := .ref (ad 4)) (fun w h => tb_O (inX2 w h)) hK hM h2 rfl 1 (by decide) (tb_O lkX2_21) rfl dX2_addSign_1 ?_
  refine lv_iconst (v := (nI 0)) hx hb dX2_addSign_4 (by decide) ?_
  refine m_iald F hK hM 0 rfl (j := 0) h4 (by omega) (by decide) dX2_addSign_5 ?_
  refine m_top (y := (nI (lc 0))) rfl ?_
  refine lv_istore_n (lv' := [(2, .int (nI (lc 0))), (0, .ref (ad 2)), (1, .int (nI q))]) hx hb dX2_addSign_6 rfl hl (by decide) rfl (fun ls hl => ?_)
  refine lv_aload_n hx hb dX2_addSign_7 rfl (lv_at hl 1 rfl) ?_
  refine m_get F (ci := 2) (v := .ref (ad 4)) (fun w h => tb_O (inX2 w h)) hK hM h2 rfl 1 (by decide) (tb_O lkX2_21) rfl dX2_addSign_8 ?_
  refine lv_iconst (v := (nI 0)) hx hb dX2_addSign_11 (by decide) ?_
  refine lv_iload_n hx hb dX2_addSign_12 rfl (lv_at hl 0 rfl) ?_
  refine lv_bipush (v := (nI 30)) hx hb dX2_addSign_13 (by decide) ?_
  refine lv_iadd hx hb dX2_addSign_15 ?_
  refine m_top (nI_add (lc 0) 30) ?_
  refine m_iast F hK hM hS 0 rfl (j := 0) (x := (nI (lc 0 + 30))) h4 (by omega) (by decide) dX2_addSign_16 (fun H locs hM hS => ?_)
  have hM : mw D vwCl lo ad (va_up ct 4 (some (.inl (aC 0, 21, .inl (upd (fun j => nI (lc j)) 0 (nI (lc 0 + 30))))))) H := hM
  have hM : mw D vwCl lo ad (va_up ct 4 (some (iA aC 21 (fun j => nI ((adS lc (fun pl => wC co pl q) 0) j))))) H := by rw [upd_nI, adS_0 (w := (fun pl => wC co pl q))] at hM; exact hM
  refine lv_iconst (v := (nI 0)) hx hb dX2_addSign_17 (by decide) ?_
  refine lv_istore_n (lv' := [(3, .int (nI 0)), (2, .int (nI (lc 0))), (0, .ref (ad 2)), (1, .int (nI q))]) hx hb dX2_addSign_18 rfl hl (by decide) rfl (fun ls hl => ?_)
  exact loop_19 (P + 1) 0 (Nat.zero_le _) (by omega) _ _ _ hM hS (lv_sub hl [2, 3, 1, 0] rfl)

set_option maxHeartbeats 4000000 in
set_option maxRecDepth 100000 in
theorem c_leastCostOf (l : Launch) {D : va_G} {aC : Nat → ClassId} {lo : Nat} {ad : Nat → Nat} {ct : Nat → Option va_E} {P : Nat} {co : Nat → Option Nat} {lc : Nat → Nat} {ke ks len : Nat} {gb db lv : Int32} {sv : Value} {g : Nat → Nat} (h2 : ct 2 = some (.inr (2, [.ref (ad 3), .ref (ad 4), .int (nI P)]))) (h3 : ct 3 = some (iA aC 1880 (fun j => cV (co j)))) (h4 : ct 4 = some (iA aC 21 (fun j => nI (lc j)))) (he : ct ke = some (.inr (0, [.ref (ad ks), .int (nI len), .int gb, .int db, sv, .int lv]))) (hg : ct ks = some (iA aC 20 (fun j => nI (g j)))) (hke : ke ≠ 4) (hks : ks ≠ 4) (hsg : ∀ j, j < len → 33 ≤ g j ∧ g j ≤ 126) (hlen : len ≤ 20) (hP : P ≤ 20) (hco : ∀ k c, co k = some c → c ≤ 1000) : Met l yX2_leastCostOf (wsO yX2_leastCostOf cX2_leastCostOf 3 (some .int)) ({ frames := 5, cells := 0, slots := 0, locals := 113 } : Room) (mPc D vwCl (tyA aC) lo ad ct [.ref (ad 2), .ref (ad ke)]) (mD1 D vwCl lo (.int (nI (lcR P co g lc len P))) ad (va_up ct 4 (some (iA aC 21 (fun j => nI ((lcR P co g lc len) j)))))) 0 0 (fun q => lo ≤ q) := by
  refine Met.ofW (cc := cX2_leastCostOf) (maxL := 3) (ret := (some .int)) (by decide) rfl ?_
  intro pr en s0 mm args below meth cc0 s₁ B hml hv
  obtain ⟨rfl, hlo, hM, hKK⟩ := hv
  have hK := hKK.1
  have hr := B.returns
  have hts := atoms_spec (ws := (wsO yX2_leastCostOf cX2_leastCostOf 3 (some .int))) B.pre
  have F : CallFix pr mm cc0 cX2_leastCostOf 3 s0 (([.ref (ad 2), .ref (ad ke)] : List Value).toArray) (wsO yX2_leastCostOf cX2_leastCostOf 3 (some .int)) RX2 := ⟨B.exec, B.bytes, hml, findClass_of_methodNamed B.named, hts⟩
  have hx := F.1
  have hb := F.2.1
  have hlocks := B.notSynchronized
  have hS : va_S (fun q => lo ≤ q) s0.heap s0.heap [] := va_S.rf
  have hl := lv_entry ([.ref (ad 2), .ref (ad ke)]) (n := 3) (Nat.le_of_ble_eq_true rfl)
  rw [lg_entry_eq]
  generalize (lg_sl ([.ref (ad 2), .ref (ad ke)]) ++ List.replicate (3 - (lg_sl ([.ref (ad 2), .ref (ad ke)])).length) Slot.unset).toArray = ls at hl ⊢
  have hl : lv_has ls 3 [(0, .ref (ad 2)), (1, .ref (ad ke))] := hl
  have loop_28 : ∀ (fu : Nat) (i : Nat), (i ≤ len) → len + 1 - i ≤ fu → ∀ (H : Heap) (locs : List Loc) (ls : Array Slot), mw D vwCl lo ad (va_up ct 4 (some (iA aC 21 (fun j => nI ((lcR P co g lc i) j))))) H → va_S (fun q => lo ≤ q) s0.heap H locs → lv_has ls 3 [(0, .ref (ad 2)), (1, .ref (ad ke)), (2, .int (nI i))] → W pr l en (headSpec (wsO yX2_leastCostOf cX2_leastCostOf 3 (some .int)) ({ frames := 5, cells := 0, slots := 0, locals := 113 } : Room)).room s0 mm (([.ref (ad 2), .ref (ad ke)] : List Value).toArray) below meth cc0 H locs 0 0 (MQ below (mD1 D vwCl lo (.int (nI (lcR P co g lc len P))) ad (va_up ct 4 (some (iA aC 21 (fun j => nI ((lcR P co g lc len) j)))))) (([.ref (ad 2), .ref (ad ke)] : List Value).toArray) s0 0 0 (fun q => lo ≤ q)) (F0 mm 28 ls []) := by
    intro fu
    induction fu with
    | zero =>
      intro i hi hfu H locs ls hM hS hl
      exact absurd hfu (by omega)
    | succ fu ih_28 =>
      intro i hi hfu H locs ls hM hS hl
      refine lv_iload_n hx hb dX2_leastCostOf_28 rfl (lv_at hl 2 rfl) ?_
      refine lv_aload_n hx hb dX2_leastCostOf_29 rfl (lv_at hl 1 rfl) ?_
      refine m_get F (ci := 0) (v := .int (nI len)) (fun w h => tb_O (inX0 w h)) hK hM ((va_up_ne _ _ hke).trans he) rfl 1 (by decide) (tb_O lkX2_37) rfl dX2_leastCostOf_30 ?_
      refine m_icmp_ge F (a := i) (b := len) (by omega) (by omega) (tgt := 52) dX2_leastCostOf_33 (by decide) (fun c_33 => ?_) (fun c_33 => ?_)
      · skip
        have hiP : len = i := by omega
        subst hiP
        refine lv_aload_n hx hb dX2_leastCostOf_52 rfl (lv_at hl 0 rfl) ?_
        refine m_get F (ci := 2) (v := .ref (ad 4)) (fun w h => tb_O (inX2 w h)) hK hM ((va_up_ne _ _ (by decide)).trans h2) rfl 1 (by decide) (tb_O lkX2_21) rfl dX2_leastCostOf_53 ?_
        refine lv_aload_n hx hb dX2_leastCostOf_56 rfl (lv_at hl 0 rfl) ?_
        refine m_get F (ci := 2) (v := .int (nI P)) (fun w h => tb_O (inX2 w h)) hK hM ((va_up_ne _ _ (by decide)).trans h2) rfl 2 (by decide) (tb_O lkX2_24) rfl dX2_leastCostOf_57 ?_
        refine m_iald F hK hM 0 rfl (j := P) (va_up_self _ _ _) (by omega) (by decide) dX2_leastCostOf_60 ?_
        refine m_top (y := (nI (lcR P co g lc len P))) rfl ?_
        exact W.iret hx hb hr (fun t ht hW => ⟨⟨_, _, _, rfl, ⟨rfl, rfl, rfl⟩, by rw [ht]; exact hM⟩, hS.F ht⟩) hS.2.2 dX2_leastCostOf_61
      · skip
        refine lv_aload_n hx hb dX2_leastCostOf_36 rfl (lv_at hl 0 rfl) ?_
        refine lv_aload_n hx hb dX2_leastCostOf_37 rfl (lv_at hl 1 rfl) ?_
        refine m_get F (ci := 0) (v := .ref (ad ks)) (fun w h => tb_O (inX0 w h)) hK hM ((va_up_ne _ _ hke).trans he) rfl 0 (by decide) (tb_O lkX2_42) rfl dX2_leastCostOf_38 ?_
        refine lv_iload_n hx hb dX2_leastCostOf_41 rfl (lv_at hl 2 rfl) ?_
        refine m_iald F hK hM 0 rfl (j := i) ((va_up_ne _ _ hks).trans hg) (by omega) (by decide) dX2_leastCostOf_42 ?_
        refine m_top (y := (nI (g i))) rfl ?_
        refine m_d0 (ct1 := va_up (va_up ct 4 (some (iA aC 21 (fun j => nI ((lcR P co g lc i) j))))) 4 (some (iA aC 21 (fun j => nI (adS (lcR P co g lc i) (fun pl => wC co pl (g i)) P j))))) (va_runV (As := [.int (nI (g i))]) (rest := []) F (c_addSign l (g i) (hsg i (by omega)).1 (hsg i (by omega)).2 ((va_up_ne _ _ (by decide)).trans h2) ((va_up_ne _ _ (by decide)).trans h3) (va_up_self _ _ _) hP hco (fun j hj => by have := lcR_le (P := P) (co := co) (g := g) (c := lc) i j hj; omega)) (cwV 1 F.2.2.2.2 (go_V (fun _ h => tb_O h) mlX2_48 imX2_addSign seX2_addSign iniX2 cdX2_addSign) rfl rfl rfl (by decide +kernel) ⟨Nat.le_of_ble_eq_true rfl, Nat.le_of_ble_eq_true rfl⟩) (mPreV hKK hM (Nat.le_trans hlo hS.1) ((va_up_ne _ _ (by decide)).trans h2) rfl) rfl rfl hl.1 rfl (lv_room (Nat.le_of_ble_eq_true rfl)) dX2_leastCostOf_43 ⟨Nat.le_of_ble_eq_true rfl, Nat.le_of_ble_eq_true rfl⟩) hS (fun H locs hM hS => ?_)
        have hM : mw D vwCl lo ad (va_up ct 4 (some (iA aC 21 (fun j => nI ((lcR P co g lc (i + 1)) j))))) H := by rw [bx_uu] at hM; exact hM
        refine lv_iinc (v := (nI (i + 1))) (lv' := [(2, .int (nI (i + 1))), (0, .ref (ad 2)), (1, .ref (ad ke))]) hx hb dX2_leastCostOf_46 hl (k := 2) rfl (nI_1 i) (by decide) rfl (fun ls hl => ?_)
        refine lv_goto (tgt := 28) hx hb dX2_leastCostOf_49 (by decide) ?_
        exact ih_28 (i + 1) (by omega) (by omega) _ _ _ hM hS (lv_sub hl [1, 2, 0] rfl)
  have loop_2 : ∀ (fu : Nat) (i : Nat), (i ≤ P + 1) → P + 2 - i ≤ fu → ∀ (H : Heap) (locs : List Loc) (ls : Array Slot), mw D vwCl lo ad (va_up ct 4 (some (iA aC 21 (fun j => nI ((lc0 lc i) j))))) H → va_S (fun q => lo ≤ q) s0.heap H locs → lv_has ls 3 [(0, .ref (ad 2)), (1, .ref (ad ke)), (2, .int (nI i))] → W pr l en (headSpec (wsO yX2_leastCostOf cX2_leastCostOf 3 (some .int)) ({ frames := 5, cells := 0, slots := 0, locals := 113 } : Room)).room s0 mm (([.ref (ad 2), .ref (ad ke)] : List Value).toArray) below meth cc0 H locs 0 0 (MQ below (mD1 D vwCl lo (.int (nI (lcR P co g lc len P))) ad (va_up ct 4 (some (iA aC 21 (fun j => nI ((lcR P co g lc len) j)))))) (([.ref (ad 2), .ref (ad ke)] : List Value).toArray) s0 0 0 (fun q => lo ≤ q)) (F0 mm 2 ls []) := by
    intro fu
    induction fu with
    | zero =>
      intro i hi hfu H locs ls hM hS hl
      exact absurd hfu (by omega)
    | succ fu ih_2 =>
      intro i hi hfu H locs ls hM hS hl
      refine lv_iload_n hx hb dX2_leastCostOf_2 rfl (lv_at hl 2 rfl) ?_
      refine lv_aload_n hx hb dX2_leastCostOf_3 rfl (lv_at hl 0 rfl) ?_
      refine m_get F (ci := 2) (v := .int (nI P)) (fun w h => tb_O (inX2 w h)) hK hM ((va_up_ne _ _ (by decide)).trans h2) rfl 2 (by decide) (tb_O lkX2_24) rfl dX2_leastCostOf_4 ?_
      refine m_icmp_gt F (a := i) (b := P) (by omega) (by omega) (tgt := 26) dX2_leastCostOf_7 (by decide) (fun c_7 => ?_) (fun c_7 => ?_)
      · skip
        have hiP : i = P + 1 := by omega
        subst hiP
        refine lv_iconst (v := (nI 0)) hx hb dX2_leastCostOf_26 (by decide) ?_
        refine lv_istore_n (lv' := [(2, .int (nI 0)), (0, .ref (ad 2)), (1, .ref (ad ke))]) hx hb dX2_leastCostOf_27 rfl hl (by decide) rfl (fun ls hl => ?_)
        exact loop_28 (len + 1) 0 (Nat.zero_le _) (by omega) _ _ _ hM hS (lv_sub hl [1, 2, 0] rfl)
      · skip
        refine lv_aload_n hx hb dX2_leastCostOf_10 rfl (lv_at hl 0 rfl) ?_
        refine m_get F (ci := 2) (v := .ref (ad 4)) (fun w h => tb_O (inX2 w h)) hK hM ((va_up_ne _ _ (by decide)).trans h2) rfl 1 (by decide) (tb_O lkX2_21) rfl dX2_leastCostOf_11 ?_
        refine lv_iload_n hx hb dX2_leastCostOf_14 rfl (lv_at hl 2 rfl) ?_
        refine lv_iload_n hx hb dX2_leastCostOf_15 rfl (lv_at hl 2 rfl) ?_
        refine lv_bipush (v := (nI 25)) hx hb dX2_leastCostOf_16 (by decide) ?_
        refine lv_imul hx hb dX2_leastCostOf_18 ?_
        refine m_top (pk_mul i 25) ?_
        refine m_iast F hK hM hS 0 rfl (j := i) (x := (nI (i * 25))) (va_up_self _ _ _) (by omega) (by decide) dX2_leastCostOf_19 (fun H locs hM hS => ?_)
        have hM : mw D vwCl lo ad (va_up (va_up ct 4 (some (iA aC 21 (fun j => nI ((lc0 lc i) j))))) 4 (some (.inl (aC 0, 21, .inl (upd (fun j => nI ((lc0 lc i) j)) i (nI (i * 25))))))) H := hM
        have hM : mw D vwCl lo ad (va_up ct 4 (some (iA aC 21 (fun j => nI ((lc0 lc (i + 1)) j))))) H := by rw [upd_nI, bx_uu, lc0_s] at hM; exact hM
        refine lv_iinc (v := (nI (i + 1))) (lv' := [(2, .int (nI (i + 1))), (0, .ref (ad 2)), (1, .ref (ad ke))]) hx hb dX2_leastCostOf_20 hl (k := 2) rfl (nI_1 i) (by decide) rfl (fun ls hl => ?_)
        refine lv_goto (tgt := 2) hx hb dX2_leastCostOf_23 (by decide) ?_
        exact ih_2 (i + 1) (by omega) (by omega) _ _ _ hM hS (lv_sub hl [1, 2, 0] rfl)
  have hM : mw D vwCl lo ad (va_up ct 4 (some (iA aC 21 (fun j => nI (lc0 lc 0 j))))) s0.heap := hM.eq (fun k => by
    rw [lc0_0]
    by_cases hk : k = 4
    · subst hk; rw [va_up_self]; exact h4
    · rw [va_up_ne _ _ hk])
  refine lv_iconst (v := (nI 0)) hx hb dX2_leastCostOf_0 (by decide) ?_
  refine lv_istore_n (lv' := [(2, .int (nI 0)), (0, .ref (ad 2)), (1, .ref (ad ke))]) hx hb dX2_leastCostOf_1 rfl hl (by decide) rfl (fun ls hl => ?_)
  exact loop_2 (P + 2) 0 (Nat.zero_le _) (by omega) _ _ _ hM hS (lv_sub hl [1, 2, 0] rfl)
