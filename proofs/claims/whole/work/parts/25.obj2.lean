set_option maxHeartbeats 4000000 in
set_option maxRecDepth 100000 in
theorem c_reckon (l : Launch) {D : va_G} {aC : Nat → ClassId} {lo : Nat} {ad : Nat → Nat} {n : Nat} {gl : Int32} {E : Nat → Ent} {G : Nat → Nat → Nat} {P : Nat} {co : Nat → Option Nat} {lc : Nat → Nat} {hc : Nat} {hn hs : Nat → Nat} {X : Nat → Option va_E} (h200 : n ≤ 200) (hP : P ≤ 20) (hco : ∀ k c, co k = some c → c ≤ 1000) (hlen : ∀ j, (E j).1 ≤ 20) (hsg : ∀ j k, 1 ≤ j → j ≤ n → k < (E j).1 → 33 ≤ G j k ∧ G j k ≤ 126) (hls : ∀ j, (E j).2.2.2.2 ≤ 100000) (hsfo : sfOk n E) : Met l yX3_reckonSums (wsO yX3_reckonSums cX3_reckonSums 3 none) ({ frames := 6, cells := 0, slots := 0, locals := 135 } : Room) (mPc D vwCl (tyA aC) lo ad (ctC aC ad n gl E G P co lc hc hn hs X) [.ref (ad 0)]) (mQ0 D vwCl lo (fun ad1 ct1 => ad1 = ad ∧ ∃ lc1, ct1 = ctC aC ad n gl (rkE P co G E n) G P co lc1 hc hn hs X)) 0 0 (fun q => lo ≤ q) := by
  refine Met.ofW (cc := cX3_reckonSums) (maxL := 3) (ret := none) (by decide) rfl ?_
  intro pr en s0 mm args below meth cc0 s₁ B hml hv
  obtain ⟨rfl, hlo, hM, hKK⟩ := hv
  have hK := hKK.1
  have hr := B.returns
  have hts := atoms_spec (ws := (wsO yX3_reckonSums cX3_reckonSums 3 none)) B.pre
  have F : CallFix pr mm cc0 cX3_reckonSums 3 s0 (([.ref (ad 0)] : List Value).toArray) (wsO yX3_reckonSums cX3_reckonSums 3 none) RX3 := ⟨B.exec, B.bytes, hml, findClass_of_methodNamed B.named, hts⟩
  have hx := F.1
  have hb := F.2.1
  have hlocks := B.notSynchronized
  have hS : va_S (fun q => lo ≤ q) s0.heap s0.heap [] := va_S.rf
  have hl := lv_entry ([.ref (ad 0)]) (n := 3) (Nat.le_of_ble_eq_true rfl)
  rw [lg_entry_eq]
  generalize (lg_sl ([.ref (ad 0)]) ++ List.replicate (3 - (lg_sl ([.ref (ad 0)])).length) Slot.unset).toArray = ls at hl ⊢
  have hl : lv_has ls 3 [(0, .ref (ad 0))] := hl
  have loop_40 : ∀ (fu : Nat) (i : Nat) (lc : Nat → Nat), (i ≤ n) → n + 1 - i ≤ fu → ∀ (H : Heap) (locs : List Loc) (ls : Array Slot), mw D vwCl lo ad (ctC aC ad n gl (rk2 (rk1 P co G E n) i) G P co lc hc hn hs X) H → va_S (fun q => lo ≤ q) s0.heap H locs → lv_has ls 3 [(0, .ref (ad 0)), (1, .int (nI (i + 1)))] → W pr l en (headSpec (wsO yX3_reckonSums cX3_reckonSums 3 none) ({ frames := 6, cells := 0, slots := 0, locals := 135 } : Room)).room s0 mm (([.ref (ad 0)] : List Value).toArray) below meth cc0 H locs 0 0 (MQ below (mQ0 D vwCl lo (fun ad1 ct1 => ad1 = ad ∧ ∃ lc1, ct1 = ctC aC ad n gl (rkE P co G E n) G P co lc1 hc hn hs X)) (([.ref (ad 0)] : List Value).toArray) s0 0 0 (fun q => lo ≤ q)) (F0 mm 40 ls []) := by
    intro fu
    induction fu with
    | zero =>
      intro i lc hi hfu H locs ls hM hS hl
      exact absurd hfu (by omega)
    | succ fu ih_40 =>
      intro i lc hi hfu H locs ls hM hS hl
      refine lv_iload_n hx hb dX3_reckonSums_40 rfl (lv_at hl 1 rfl) ?_
      refine lv_aload_n hx hb dX3_reckonSums_41 rfl (lv_at hl 0 rfl) ?_
      refine m_get F (ci := 3) (v := .int (nI n)) (fun w h => tb_O (inX3 w h)) hK hM ctC_0 rfl 1 (by decide) (tb_O lkX3_15) rfl dX3_reckonSums_42 ?_
      refine m_icmp_gt F (a := (i + 1)) (b := n) (by omega) (by omega) (tgt := 92) dX3_reckonSums_45 (by decide) (fun c_45 => ?_) (fun c_45 => ?_)
      · skip
        have hin : n = i := by omega
        subst hin
        exact W.vret hx hb hr (fun t ht hW => ⟨⟨_, _, rfl, ⟨rfl, _, rfl⟩, by rw [ht]; exact hM⟩, hS.F ht⟩) hS.2.2 dX3_reckonSums_92
      · skip
        have hk3 := rk2_keep (rk1 P co G E n) i (i + 1)
        have hdq : (rk1 P co G E n (i + 1)).2.2.1 = (E (i + 1)).2.2.1 := rk1_dr
        have hsq : (rk1 P co G E n (i + 1)).2.2.2.1 = (E (i + 1)).2.2.2.1 := rk1_sf
        refine lv_aload_n hx hb dX3_reckonSums_48 rfl (lv_at hl 0 rfl) ?_
        refine lv_iload_n hx hb dX3_reckonSums_49 rfl (lv_at hl 1 rfl) ?_
        rcases hdr : (E (i + 1)).2.2.1 with _ | _
        · skip
          refine m_d1 (v := .ref (ad (2 * (i + 1) + 8))) (ct1 := ctC aC ad n gl (rk2 (rk1 P co G E n) i) G P co lc hc hn hs X) (va_runV (As := [.int (nI (i + 1))]) (rest := []) F (c_livT l (i + 1) (by omega) (by omega) h200 (by rw [hk3.2.2.1, hdq]; exact hdr)) (cwV 1 F.2.2.2.2 (go_V (fun _ h => tb_O h) mlX3_37 imX3_living seX3_living iniX3 cdX3_living) rfl rfl rfl (by decide +kernel) ⟨Nat.le_of_ble_eq_true rfl, Nat.le_of_ble_eq_true rfl⟩) (mPreV hKK hM (Nat.le_trans hlo hS.1) ctC_0 rfl) rfl rfl hl.1 rfl (lv_room (Nat.le_of_ble_eq_true rfl)) dX3_reckonSums_50 ⟨Nat.le_of_ble_eq_true rfl, Nat.le_of_ble_eq_true rfl⟩) hS (fun H locs hM hS => ?_)
          refine lv_astore_n (lv' := [(2, .ref (ad (2 * (i + 1) + 8))), (0, .ref (ad 0)), (1, .int (nI (i + 1)))]) hx hb dX3_reckonSums_53 rfl hl (by decide) rfl (fun ls hl => ?_)
          refine lv_aload_n hx hb dX3_reckonSums_54 rfl (lv_at hl 0 rfl) ?_
          refine lv_ifnull hx hb dX3_reckonSums_55 ?_
          refine lv_aload_n hx hb dX3_reckonSums_58 rfl (lv_at hl 0 rfl) ?_
          refine m_get F (ci := 0) (v := va_rf (oE ad ((rk2 (rk1 P co G E n) i) (i + 1)).2.2.2.1)) (fun w h => tb_O (inX0 w h)) hK hM (ctC_e (by omega) (by omega) h200) rfl 4 (by decide) (tb_O lkX3_55) rfl dX3_reckonSums_59 ?_
          rcases hsf : ((rk2 (rk1 P co G E n) i) (i + 1)).2.2.2.1 with _ | k
          · skip
            refine m_val (v' := .null) rfl ?_
            have hsn : (E (i + 1)).2.2.2.1 = none := by rw [← hsq, ← hk3.2.2.2]; exact hsf
            refine lv_ifnullN (tgt := 86) hx hb dX3_reckonSums_62 (by decide) ?_
            refine lv_iinc (v := (nI (i + 1 + 1))) (lv' := [(1, .int (nI (i + 1 + 1))), (2, .ref (ad (2 * (i + 1) + 8))), (0, .ref (ad 0))]) hx hb dX3_reckonSums_86 hl (k := 2) rfl (nI_1 (i + 1)) (by decide) rfl (fun ls hl => ?_)
            refine lv_goto (tgt := 40) hx hb dX3_reckonSums_89 (by decide) ?_
            exact ih_40 (i + 1) lc (by omega) (by omega) _ _ _ (by rw [rk2_no (by rw [hdq]; exact hdr) (by rw [hsq]; exact hsn)]; exact hM) hS (lv_sub hl [2, 0] rfl)
          · skip
            refine m_val (v' := .ref (ad (2 * k + 8))) rfl ?_
            have hsn : (E (i + 1)).2.2.2.1 = some k := by rw [← hsq, ← hk3.2.2.2]; exact hsf
            have hkk := hsfo (i + 1) (by omega) (by omega) k hsn
            have hk1 := hkk.1
            have hk2 := hkk.2
            have hlk := rk2_ls (rk1_ls (P := P) (co := co) (G := G) (i := n) hP hlen hls) i k
            have hli := rk2_ls (rk1_ls (P := P) (co := co) (G := G) (i := n) hP hlen hls) i (i + 1)
            refine lv_ifnull hx hb dX3_reckonSums_62 ?_
            refine lv_aload_n hx hb dX3_reckonSums_65 rfl (lv_at hl 0 rfl) ?_
            refine m_get F (ci := 0) (v := va_rf (oE ad ((rk2 (rk1 P co G E n) i) (i + 1)).2.2.2.1)) (fun w h => tb_O (inX0 w h)) hK hM (ctC_e (by omega) (by omega) h200) rfl 4 (by decide) (tb_O lkX3_55) rfl dX3_reckonSums_66 ?_
            refine m_val (v' := .ref (ad (2 * k + 8))) (by rw [hsf]; rfl) ?_
            refine lv_aload_n hx hb dX3_reckonSums_69 rfl (lv_at hl 0 rfl) ?_
            refine m_get F (ci := 0) (v := va_rf (oE ad ((rk2 (rk1 P co G E n) i) (i + 1)).2.2.2.1)) (fun w h => tb_O (inX0 w h)) hK hM (ctC_e (by omega) (by omega) h200) rfl 4 (by decide) (tb_O lkX3_55) rfl dX3_reckonSums_70 ?_
            refine m_val (v' := .ref (ad (2 * k + 8))) (by rw [hsf]; rfl) ?_
            refine m_get F (ci := 0) (v := .int (nI (((rk2 (rk1 P co G E n) i) k).2.2.2.2))) (fun w h => tb_O (inX0 w h)) hK hM (ctC_e hk1 hk2 h200) rfl 5 (by decide) (tb_O lkX3_84) rfl dX3_reckonSums_73 ?_
            refine lv_aload_n hx hb dX3_reckonSums_76 rfl (lv_at hl 0 rfl) ?_
            refine m_get F (ci := 0) (v := .int (nI (((rk2 (rk1 P co G E n) i) (i + 1)).2.2.2.2))) (fun w h => tb_O (inX0 w h)) hK hM (ctC_e (by omega) (by omega) h200) rfl 5 (by decide) (tb_O lkX3_84) rfl dX3_reckonSums_77 ?_
            refine va_mmin hx hb (F.2.2.1.trans hl.1.symm) F.2.2.2.1 (F.2.2.2.2 _ (tb_O mlX3_135)) (F.2.2.2.2 _ (tb_O st_min)) (F.2.2.2.2 _ (tb_O iniMath)) (F.2.2.2.2 _ (tb_O cd_min)) (Nat.le_of_ble_eq_true rfl) (Nat.le_of_ble_eq_true rfl) (Nat.le_of_ble_eq_true rfl) (Nat.le_of_ble_eq_true rfl) dX3_reckonSums_80 ?_
            refine m_top (y := (nI (min ((rk2 (rk1 P co G E n) i) k).2.2.2.2 ((rk2 (rk1 P co G E n) i) (i + 1)).2.2.2.2))) (mn_nI (by omega) (by omega)) ?_
            refine m_put F (ci := 0) (v := .int (nI (min ((rk2 (rk1 P co G E n) i) k).2.2.2.2 ((rk2 (rk1 P co G E n) i) (i + 1)).2.2.2.2))) (fun w h => tb_O (inX0 w h)) mc_X0 hK hM hS (ctC_e hk1 hk2 h200) 5 (by decide) (tb_O lkX3_84) rfl rfl rfl (Nat.le_of_ble_eq_true rfl) dX3_reckonSums_83 (fun H locs hM hS => ?_)
            have hM : mw D vwCl lo ad (va_up (ctC aC ad n gl (rk2 (rk1 P co G E n) i) G P co lc hc hn hs X) (2 * k + 8) (some (.inr (0, [.ref (ad (2 * k + 9)), .int (nI (((rk2 (rk1 P co G E n) i) k).1)), .int (((rk2 (rk1 P co G E n) i) k).2.1), .int (bI ((rk2 (rk1 P co G E n) i) k).2.2.1), va_rf (oE ad ((rk2 (rk1 P co G E n) i) k).2.2.2.1), .int (nI (min ((rk2 (rk1 P co G E n) i) k).2.2.2.2 ((rk2 (rk1 P co G E n) i) (i + 1)).2.2.2.2))])))) H := hM
            have hM : mw D vwCl lo ad (ctC aC ad n gl (rk2 (rk1 P co G E n) (i + 1)) G P co lc hc hn hs X) H := by
                have h9 : mw D vwCl lo ad (va_up (ctC aC ad n gl (rk2 (rk1 P co G E n) i) G P co lc hc hn hs X) (2 * k + 8) (some (entO ad k (seL ((rk2 (rk1 P co G E n) i) k) (min ((rk2 (rk1 P co G E n) i) k).2.2.2.2 ((rk2 (rk1 P co G E n) i) (i + 1)).2.2.2.2))))) H := hM
                rw [ctC_E hk1 hk2 h200, ← rk2_so (by rw [hdq]; exact hdr) (by rw [hsq]; exact hsn)] at h9
                exact h9
            refine lv_iinc (v := (nI (i + 1 + 1))) (lv' := [(1, .int (nI (i + 1 + 1))), (2, .ref (ad (2 * (i + 1) + 8))), (0, .ref (ad 0))]) hx hb dX3_reckonSums_86 hl (k := 2) rfl (nI_1 (i + 1)) (by decide) rfl (fun ls hl => ?_)
            refine lv_goto (tgt := 40) hx hb dX3_reckonSums_89 (by decide) ?_
            exact ih_40 (i + 1) lc (by omega) (by omega) _ _ _ hM hS (lv_sub hl [2, 0] rfl)
        · skip
          refine m_d1 (v := .null) (ct1 := ctC aC ad n gl (rk2 (rk1 P co G E n) i) G P co lc hc hn hs X) (va_runV (As := [.int (nI (i + 1))]) (rest := []) F (c_livF l (i + 1) (by omega) (by omega) h200 (by rw [hk3.2.2.1, hdq]; exact hdr)) (cwV 1 F.2.2.2.2 (go_V (fun _ h => tb_O h) mlX3_37 imX3_living seX3_living iniX3 cdX3_living) rfl rfl rfl (by decide +kernel) ⟨Nat.le_of_ble_eq_true rfl, Nat.le_of_ble_eq_true rfl⟩) (mPreV hKK hM (Nat.le_trans hlo hS.1) ctC_0 rfl) rfl rfl hl.1 rfl (lv_room (Nat.le_of_ble_eq_true rfl)) dX3_reckonSums_50 ⟨Nat.le_of_ble_eq_true rfl, Nat.le_of_ble_eq_true rfl⟩) hS (fun H locs hM hS => ?_)
          refine lv_astore_nN (lv' := [(2, .null), (0, .ref (ad 0)), (1, .int (nI (i + 1)))]) hx hb dX3_reckonSums_53 rfl hl (by decide) rfl (fun ls hl => ?_)
          refine lv_aload_nN hx hb dX3_reckonSums_54 rfl (lv_at hl 0 rfl) ?_
          refine lv_ifnullN (tgt := 86) hx hb dX3_reckonSums_55 (by decide) ?_
          refine lv_iinc (v := (nI (i + 1 + 1))) (lv' := [(1, .int (nI (i + 1 + 1))), (2, .null), (0, .ref (ad 0))]) hx hb dX3_reckonSums_86 hl (k := 2) rfl (nI_1 (i + 1)) (by decide) rfl (fun ls hl => ?_)
          refine lv_goto (tgt := 40) hx hb dX3_reckonSums_89 (by decide) ?_
          exact ih_40 (i + 1) lc (by omega) (by omega) _ _ _ (by rw [rk2_dr (by rw [hdq]; exact hdr)]; exact hM) hS (lv_sub hl [2, 0] rfl)
  have loop_2 : ∀ (fu : Nat) (i : Nat) (lc : Nat → Nat), (i ≤ n) → n + 1 - i ≤ fu → ∀ (H : Heap) (locs : List Loc) (ls : Array Slot), mw D vwCl lo ad (ctC aC ad n gl (rk1 P co G E i) G P co lc hc hn hs X) H → va_S (fun q => lo ≤ q) s0.heap H locs → lv_has ls 3 [(0, .ref (ad 0)), (1, .int (nI (i + 1)))] → W pr l en (headSpec (wsO yX3_reckonSums cX3_reckonSums 3 none) ({ frames := 6, cells := 0, slots := 0, locals := 135 } : Room)).room s0 mm (([.ref (ad 0)] : List Value).toArray) below meth cc0 H locs 0 0 (MQ below (mQ0 D vwCl lo (fun ad1 ct1 => ad1 = ad ∧ ∃ lc1, ct1 = ctC aC ad n gl (rkE P co G E n) G P co lc1 hc hn hs X)) (([.ref (ad 0)] : List Value).toArray) s0 0 0 (fun q => lo ≤ q)) (F0 mm 2 ls []) := by
    intro fu
    induction fu with
    | zero =>
      intro i lc hi hfu H locs ls hM hS hl
      exact absurd hfu (by omega)
    | succ fu ih_2 =>
      intro i lc hi hfu H locs ls hM hS hl
      refine lv_iload_n hx hb dX3_reckonSums_2 rfl (lv_at hl 1 rfl) ?_
      refine lv_aload_n hx hb dX3_reckonSums_3 rfl (lv_at hl 0 rfl) ?_
      refine m_get F (ci := 3) (v := .int (nI n)) (fun w h => tb_O (inX3 w h)) hK hM ctC_0 rfl 1 (by decide) (tb_O lkX3_15) rfl dX3_reckonSums_4 ?_
      refine m_icmp_gt F (a := (i + 1)) (b := n) (by omega) (by omega) (tgt := 38) dX3_reckonSums_7 (by decide) (fun c_7 => ?_) (fun c_7 => ?_)
      · skip
        have hin : n = i := by omega
        subst hin
        refine lv_iconst (v := (nI 1)) hx hb dX3_reckonSums_38 (by decide) ?_
        refine lv_istore_n (lv' := [(1, .int (nI 1)), (0, .ref (ad 0))]) hx hb dX3_reckonSums_39 rfl hl (by decide) rfl (fun ls hl => ?_)
        exact loop_40 (n + 1) 0 lc (Nat.zero_le _) (by omega) _ _ _ hM hS (lv_sub hl [1, 0] rfl)
      · skip
        have hrk : rk1 P co G E i (i + 1) = E (i + 1) := rk1_at (by omega)
        refine lv_aload_n hx hb dX3_reckonSums_10 rfl (lv_at hl 0 rfl) ?_
        refine lv_iload_n hx hb dX3_reckonSums_11 rfl (lv_at hl 1 rfl) ?_
        rcases hdr : (E (i + 1)).2.2.1 with _ | _
        · skip
          refine m_d1 (v := .ref (ad (2 * (i + 1) + 8))) (ct1 := ctC aC ad n gl (rk1 P co G E i) G P co lc hc hn hs X) (va_runV (As := [.int (nI (i + 1))]) (rest := []) F (c_livT l (i + 1) (by omega) (by omega) h200 (by rw [rk1_dr]; exact hdr)) (cwV 1 F.2.2.2.2 (go_V (fun _ h => tb_O h) mlX3_37 imX3_living seX3_living iniX3 cdX3_living) rfl rfl rfl (by decide +kernel) ⟨Nat.le_of_ble_eq_true rfl, Nat.le_of_ble_eq_true rfl⟩) (mPreV hKK hM (Nat.le_trans hlo hS.1) ctC_0 rfl) rfl rfl hl.1 rfl (lv_room (Nat.le_of_ble_eq_true rfl)) dX3_reckonSums_12 ⟨Nat.le_of_ble_eq_true rfl, Nat.le_of_ble_eq_true rfl⟩) hS (fun H locs hM hS => ?_)
          refine lv_astore_n (lv' := [(2, .ref (ad (2 * (i + 1) + 8))), (0, .ref (ad 0)), (1, .int (nI (i + 1)))]) hx hb dX3_reckonSums_15 rfl hl (by decide) rfl (fun ls hl => ?_)
          refine lv_aload_n hx hb dX3_reckonSums_16 rfl (lv_at hl 0 rfl) ?_
          refine lv_ifnull hx hb dX3_reckonSums_17 ?_
          refine lv_aload_n hx hb dX3_reckonSums_20 rfl (lv_at hl 0 rfl) ?_
          refine lv_aload_n hx hb dX3_reckonSums_21 rfl (lv_at hl 1 rfl) ?_
          refine m_get F (ci := 3) (v := .ref (ad 2)) (fun w h => tb_O (inX3 w h)) hK hM ctC_0 rfl 2 (by decide) (tb_O lkX3_22) rfl dX3_reckonSums_22 ?_
          refine lv_aload_n hx hb dX3_reckonSums_25 rfl (lv_at hl 0 rfl) ?_
          refine m_d1 (v := .int (nI (lcR P co (G (i + 1)) lc (E (i + 1)).1 P))) (ct1 := va_up (ctC aC ad n gl (rk1 P co G E i) G P co lc hc hn hs X) 4 (some (iA aC 21 (fun j => nI ((lcR P co (G (i + 1)) lc (E (i + 1)).1) j))))) (va_runV (As := [.ref (ad (2 * (i + 1) + 8))]) (rest := [.ref (ad (2 * (i + 1) + 8))]) F (c_leastCostOf l (ke := 2 * (i + 1) + 8) (ks := 2 * (i + 1) + 9) (len := (E (i + 1)).1) (gb := (E (i + 1)).2.1) (db := bI (E (i + 1)).2.2.1) (lv := nI (E (i + 1)).2.2.2.2) (sv := va_rf (oE ad (E (i + 1)).2.2.2.1)) (g := G (i + 1)) ctC_2 ctC_3 ctC_4 (by rw [ctC_e (by omega) (by omega) h200, hrk]; rfl) (ctC_s (by omega) (by omega) h200) (by omega) (by omega) (fun j hj => hsg (i + 1) j (by omega) (by omega) hj) (hlen (i + 1)) hP hco) (cwV 1 F.2.2.2.2 (go_V (fun _ h => tb_O h) mlX3_132 imX2_leastCostOf seX2_leastCostOf iniX2 cdX2_leastCostOf) rfl rfl rfl (by decide +kernel) ⟨Nat.le_of_ble_eq_true rfl, Nat.le_of_ble_eq_true rfl⟩) (mPreV hKK hM (Nat.le_trans hlo hS.1) ctC_2 rfl) rfl rfl hl.1 rfl (lv_room (Nat.le_of_ble_eq_true rfl)) dX3_reckonSums_26 ⟨Nat.le_of_ble_eq_true rfl, Nat.le_of_ble_eq_true rfl⟩) hS (fun H locs hM hS => ?_)
          have hM : mw D vwCl lo ad (ctC aC ad n gl (rk1 P co G E i) G P co (lcR P co (G (i + 1)) lc (E (i + 1)).1) hc hn hs X) H := by rw [ctC_lc] at hM; exact hM
          refine m_top (y := nI (own P co (G (i + 1)) (E (i + 1)).1)) (congrArg nI (lcR_any (c' := fun _ => 0) (E (i + 1)).1 P (Nat.le_refl P))) ?_
          refine m_put F (ci := 0) (v := .int (nI (own P co (G (i + 1)) (E (i + 1)).1))) (fun w h => tb_O (inX0 w h)) mc_X0 hK hM hS (ctC_e (by omega) (by omega) h200) 5 (by decide) (tb_O lkX3_84) rfl rfl rfl (Nat.le_of_ble_eq_true rfl) dX3_reckonSums_29 (fun H locs hM hS => ?_)
          have hM : mw D vwCl lo ad (va_up (ctC aC ad n gl (rk1 P co G E i) G P co (lcR P co (G (i + 1)) lc (E (i + 1)).1) hc hn hs X) (2 * (i + 1) + 8) (some (.inr (0, [.ref (ad (2 * (i + 1) + 9)), .int (nI (((rk1 P co G E i) (i + 1)).1)), .int (((rk1 P co G E i) (i + 1)).2.1), .int (bI ((rk1 P co G E i) (i + 1)).2.2.1), va_rf (oE ad ((rk1 P co G E i) (i + 1)).2.2.2.1), .int (nI (own P co (G (i + 1)) (E (i + 1)).1))])))) H := hM
          have hM : mw D vwCl lo ad (ctC aC ad n gl (rk1 P co G E (i + 1)) G P co (lcR P co (G (i + 1)) lc (E (i + 1)).1) hc hn hs X) H := by
              have h9 : mw D vwCl lo ad (va_up (ctC aC ad n gl (rk1 P co G E i) G P co (lcR P co (G (i + 1)) lc (E (i + 1)).1) hc hn hs X) (2 * (i + 1) + 8) (some (entO ad (i + 1) (seL (rk1 P co G E i (i + 1)) (own P co (G (i + 1)) (E (i + 1)).1))))) H := hM
              rw [ctC_E (by omega) (by omega) h200, hrk, rk1_s hdr] at h9
              exact h9
          refine lv_iinc (v := (nI (i + 1 + 1))) (lv' := [(1, .int (nI (i + 1 + 1))), (2, .ref (ad (2 * (i + 1) + 8))), (0, .ref (ad 0))]) hx hb dX3_reckonSums_32 hl (k := 2) rfl (nI_1 (i + 1)) (by decide) rfl (fun ls hl => ?_)
          refine lv_goto (tgt := 2) hx hb dX3_reckonSums_35 (by decide) ?_
          exact ih_2 (i + 1) (lcR P co (G (i + 1)) lc (E (i + 1)).1) (by omega) (by omega) _ _ _ hM hS (lv_sub hl [2, 0] rfl)
        · skip
          refine m_d1 (v := .null) (ct1 := ctC aC ad n gl (rk1 P co G E i) G P co lc hc hn hs X) (va_runV (As := [.int (nI (i + 1))]) (rest := []) F (c_livF l (i + 1) (by omega) (by omega) h200 (by rw [rk1_dr]; exact hdr)) (cwV 1 F.2.2.2.2 (go_V (fun _ h => tb_O h) mlX3_37 imX3_living seX3_living iniX3 cdX3_living) rfl rfl rfl (by decide +kernel) ⟨Nat.le_of_ble_eq_true rfl, Nat.le_of_ble_eq_true rfl⟩) (mPreV hKK hM (Nat.le_trans hlo hS.1) ctC_0 rfl) rfl rfl hl.1 rfl (lv_room (Nat.le_of_ble_eq_true rfl)) dX3_reckonSums_12 ⟨Nat.le_of_ble_eq_true rfl, Nat.le_of_ble_eq_true rfl⟩) hS (fun H locs hM hS => ?_)
          refine lv_astore_nN (lv' := [(2, .null), (0, .ref (ad 0)), (1, .int (nI (i + 1)))]) hx hb dX3_reckonSums_15 rfl hl (by decide) rfl (fun ls hl => ?_)
          refine lv_aload_nN hx hb dX3_reckonSums_16 rfl (lv_at hl 0 rfl) ?_
          refine lv_ifnullN (tgt := 32) hx hb dX3_reckonSums_17 (by decide) ?_
          refine lv_iinc (v := (nI (i + 1 + 1))) (lv' := [(1, .int (nI (i + 1 + 1))), (2, .null), (0, .ref (ad 0))]) hx hb dX3_reckonSums_32 hl (k := 2) rfl (nI_1 (i + 1)) (by decide) rfl (fun ls hl => ?_)
          refine lv_goto (tgt := 2) hx hb dX3_reckonSums_35 (by decide) ?_
          exact ih_2 (i + 1) lc (by omega) (by omega) _ _ _ (by rw [rk1_n hdr]; exact hM) hS (lv_sub hl [2, 0] rfl)
  refine lv_iconst (v := (nI 1)) hx hb dX3_reckonSums_0 (by decide) ?_
  refine lv_istore_n (lv' := [(1, .int (nI 1)), (0, .ref (ad 0))]) hx hb dX3_reckonSums_1 rfl hl (by decide) rfl (fun ls hl => ?_)
  have hM : mw D vwCl lo ad (ctC aC ad n gl (rk1 P co G E 0) G P co lc hc hn hs X) s0.heap := by rw [rk1_0]; exact hM
  exact loop_2 (n + 1) 0 lc (Nat.zero_le _) (by omega) _ _ _ hM hS (lv_sub hl [1, 0] rfl)

set_option maxHeartbeats 4000000 in
set_option maxRecDepth 100000 in
theorem c_findN (l : Launch) {D : va_G} {aC : Nat → ClassId} {lo : Nat} {ad : Nat → Nat} {n : Nat} {gl : Int32} {E : Nat → Ent} {G : Nat → Nat → Nat} {P : Nat} {co : Nat → Option Nat} {lc : Nat → Nat} {hc : Nat} {hn hs : Nat → Nat} {X : Nat → Option va_E} (x : Int32) (hk : isK x = false) : Met l yX3_find (wsO yX3_find cX3_find 4 (some .int)) ({ frames := 1, cells := 0, slots := 0, locals := 20 } : Room) (mPc D vwCl (tyA aC) lo ad (ctC aC ad n gl E G P co lc hc hn hs X) [.ref (ad 0), .int x]) (mD1 D vwCl lo (.int (-2)) ad (ctC aC ad n gl E G P co lc hc hn hs X)) 0 0 (fun q => lo ≤ q) := by
  refine Met.ofW (cc := cX3_find) (maxL := 4) (ret := (some .int)) (by decide) rfl ?_
  intro pr en s0 mm args below meth cc0 s₁ B hml hv
  obtain ⟨rfl, hlo, hM, hKK⟩ := hv
  have hK := hKK.1
  have hr := B.returns
  have hts := atoms_spec (ws := (wsO yX3_find cX3_find 4 (some .int))) B.pre
  have F : CallFix pr mm cc0 cX3_find 4 s0 (([.ref (ad 0), .int x] : List Value).toArray) (wsO yX3_find cX3_find 4 (some .int)) RX3 := ⟨B.exec, B.bytes, hml, findClass_of_methodNamed B.named, hts⟩
  have hx := F.1
  have hb := F.2.1
  have hlocks := B.notSynchronized
  have hS : va_S (fun q => lo ≤ q) s0.heap s0.heap [] := va_S.rf
  have hl := lv_entry ([.ref (ad 0), .int x]) (n := 4) (Nat.le_of_ble_eq_true rfl)
  rw [lg_entry_eq]
  generalize (lg_sl ([.ref (ad 0), .int x]) ++ List.replicate (4 - (lg_sl ([.ref (ad 0), .int x])).length) Slot.unset).toArray = ls at hl ⊢
  have hl : lv_has ls 4 [(0, .ref (ad 0)), (1, .int x)] := hl
  refine lv_iload_n hx hb dX3_find_0 rfl (lv_at hl 1 rfl) ?_
  refine m_d1 (v := .int (bI (isK x))) (ct1 := ctC aC ad n gl E G P co lc hc hn hs X) (va_runS (As := [.int x]) (rest := []) F (c_mayBeAsked l x) (va_cwS 1 F.2.2.2.2 (go_S (fun _ h => tb_O h) mlX3_73 stX3_mayBeAsked iniX3 cdX3_mayBeAsked) rfl rfl rfl (by decide +kernel) ⟨Nat.le_of_ble_eq_true rfl, Nat.le_of_ble_eq_true rfl⟩) (mPreS hKK hM (Nat.le_trans hlo hS.1)) rfl rfl hl.1 rfl (lv_room (Nat.le_of_ble_eq_true rfl)) dX3_find_1 ⟨Nat.le_of_ble_eq_true rfl, Nat.le_of_ble_eq_true rfl⟩) hS (fun H locs hM hS => ?_)
  refine lv_if_ne (tgt := 10) hx hb dX3_find_4 (by decide) (fun c_4 => ?_) (fun c_4 => ?_)
  · skip
    exact absurd (by rw [hk]; rfl) c_4
  · skip
    refine lv_bipush (v := (-2)) hx hb dX3_find_7 (by decide) ?_
    exact W.iret hx hb hr (fun t ht hW => ⟨⟨_, _, _, rfl, ⟨rfl, rfl, rfl⟩, by rw [ht]; exact hM⟩, hS.F ht⟩) hS.2.2 dX3_find_9

set_option maxHeartbeats 4000000 in
set_option maxRecDepth 100000 in
theorem c_plainN (l : Launch) {D : va_G} {aC : Nat → ClassId} {lo : Nat} {ad : Nat → Nat} {n : Nat} {gl : Int32} {E : Nat → Ent} {G : Nat → Nat → Nat} {P : Nat} {co : Nat → Option Nat} {lc : Nat → Nat} {hc : Nat} {hn hs : Nat → Nat} {X : Nat → Option va_E} (x : Int32) (hk : isK x = false) : Met l yX3_plain (wsO yX3_plain cX3_plain 4 (some .int)) ({ frames := 1, cells := 0, slots := 0, locals := 20 } : Room) (mPc D vwCl (tyA aC) lo ad (ctC aC ad n gl E G P co lc hc hn hs X) [.ref (ad 0), .int x]) (mD1 D vwCl lo (.int (-2)) ad (ctC aC ad n gl E G P co lc hc hn hs X)) 0 0 (fun q => lo ≤ q) := by
  refine Met.ofW (cc := cX3_plain) (maxL := 4) (ret := (some .int)) (by decide) rfl ?_
  intro pr en s0 mm args below meth cc0 s₁ B hml hv
  obtain ⟨rfl, hlo, hM, hKK⟩ := hv
  have hK := hKK.1
  have hr := B.returns
  have hts := atoms_spec (ws := (wsO yX3_plain cX3_plain 4 (some .int))) B.pre
  have F : CallFix pr mm cc0 cX3_plain 4 s0 (([.ref (ad 0), .int x] : List Value).toArray) (wsO yX3_plain cX3_plain 4 (some .int)) RX3 := ⟨B.exec, B.bytes, hml, findClass_of_methodNamed B.named, hts⟩
  have hx := F.1
  have hb := F.2.1
  have hlocks := B.notSynchronized
  have hS : va_S (fun q => lo ≤ q) s0.heap s0.heap [] := va_S.rf
  have hl := lv_entry ([.ref (ad 0), .int x]) (n := 4) (Nat.le_of_ble_eq_true rfl)
  rw [lg_entry_eq]
  generalize (lg_sl ([.ref (ad 0), .int x]) ++ List.replicate (4 - (lg_sl ([.ref (ad 0), .int x])).length) Slot.unset).toArray = ls at hl ⊢
  have hl : lv_has ls 4 [(0, .ref (ad 0)), (1, .int x)] := hl
  refine lv_iload_n hx hb dX3_plain_0 rfl (lv_at hl 1 rfl) ?_
  refine m_d1 (v := .int (bI (isK x))) (ct1 := ctC aC ad n gl E G P co lc hc hn hs X) (va_runS (As := [.int x]) (rest := []) F (c_mayBeAsked l x) (va_cwS 1 F.2.2.2.2 (go_S (fun _ h => tb_O h) mlX3_73 stX3_mayBeAsked iniX3 cdX3_mayBeAsked) rfl rfl rfl (by decide +kernel) ⟨Nat.le_of_ble_eq_true rfl, Nat.le_of_ble_eq_true rfl⟩) (mPreS hKK hM (Nat.le_trans hlo hS.1)) rfl rfl hl.1 rfl (lv_room (Nat.le_of_ble_eq_true rfl)) dX3_plain_1 ⟨Nat.le_of_ble_eq_true rfl, Nat.le_of_ble_eq_true rfl⟩) hS (fun H locs hM hS => ?_)
  refine lv_if_ne (tgt := 10) hx hb dX3_plain_4 (by decide) (fun c_4 => ?_) (fun c_4 => ?_)
  · skip
    exact absurd (by rw [hk]; rfl) c_4
  · skip
    refine lv_bipush (v := (-2)) hx hb dX3_plain_7 (by decide) ?_
    exact W.iret hx hb hr (fun t ht hW => ⟨⟨_, _, _, rfl, ⟨rfl, rfl, rfl⟩, by rw [ht]; exact hM⟩, hS.F ht⟩) hS.2.2 dX3_plain_9

set_option maxHeartbeats 4000000 in
set_option maxRecDepth 100000 in
theorem c_find (l : Launch) {D : va_G} {aC : Nat → ClassId} {lo : Nat} {ad : Nat → Nat} {n : Nat} {gl : Int32} {E : Nat → Ent} {G : Nat → Nat → Nat} {P : Nat} {co : Nat → Option Nat} {lc : Nat → Nat} {hc : Nat} {hn hs : Nat → Nat} {X : Nat → Option va_E} (k : Nat) (hk1 : 1 ≤ k) (hk2 : k ≤ 1000) (hhs : ∀ j, hs j ≤ 100000) (h200 : n ≤ 200) (hP : P ≤ 20) (hco : ∀ k c, co k = some c → c ≤ 1000) (hlen : ∀ j, (E j).1 ≤ 20) (hsg : ∀ j k, 1 ≤ j → j ≤ n → k < (E j).1 → 33 ≤ G j k ∧ G j k ≤ 126) (hls : ∀ j, (E j).2.2.2.2 ≤ 100000) (hsfo : sfOk n E) : Met l yX3_find (wsO yX3_find cX3_find 4 (some .int)) ({ frames := 7, cells := 0, slots := 0, locals := 157 } : Room) (mPc D vwCl (tyA aC) lo ad (ctC aC ad n gl E G P co lc hc hn hs X) [.ref (ad 0), .int (nI k)]) (mQ1 D vwCl lo (fun v ad1 ct1 => v = .int (nI (min (fH (okF gl (rkE P co G E n)) (rkE P co G E n) hn hs n).1 k)) ∧ ad1 = ad ∧ ∃ lc1, ct1 = ctC aC ad n gl (rkE P co G E n) G P co lc1 (min (fH (okF gl (rkE P co G E n)) (rkE P co G E n) hn hs n).1 k) ((fH (okF gl (rkE P co G E n)) (rkE P co G E n) hn hs n).2.1) ((fH (okF gl (rkE P co G E n)) (rkE P co G E n) hn hs n).2.2) X)) 0 0 (fun q => lo ≤ q) := by
  refine Met.ofW (cc := cX3_find) (maxL := 4) (ret := (some .int)) (by decide) rfl ?_
  intro pr en s0 mm args below meth cc0 s₁ B hml hv
  obtain ⟨rfl, hlo, hM, hKK⟩ := hv
  have hK := hKK.1
  have hr := B.returns
  have hts := atoms_spec (ws := (wsO yX3_find cX3_find 4 (some .int))) B.pre
  have F : CallFix pr mm cc0 cX3_find 4 s0 (([.ref (ad 0), .int (nI k)] : List Value).toArray) (wsO yX3_find cX3_find 4 (some .int)) RX3 := ⟨B.exec, B.bytes, hml, findClass_of_methodNamed B.named, hts⟩
  have hx := F.1
  have hb := F.2.1
  have hlocks := B.notSynchronized
  have hS : va_S (fun q => lo ≤ q) s0.heap s0.heap [] := va_S.rf
  have hl := lv_entry ([.ref (ad 0), .int (nI k)]) (n := 4) (Nat.le_of_ble_eq_true rfl)
  rw [lg_entry_eq]
  generalize (lg_sl ([.ref (ad 0), .int (nI k)]) ++ List.replicate (4 - (lg_sl ([.ref (ad 0), .int (nI k)])).length) Slot.unset).toArray = ls at hl ⊢
  have hl : lv_has ls 4 [(0, .ref (ad 0)), (1, .int (nI k))] := hl
  have loop_23 : ∀ (fu : Nat) (i : Nat) (lc1 : Nat → Nat), (i ≤ n) → n + 1 - i ≤ fu → ∀ (H : Heap) (locs : List Loc) (ls : Array Slot), mw D vwCl lo ad (ctC aC ad n gl (rkE P co G E n) G P co lc1 ((fH (okF gl (rkE P co G E n)) (rkE P co G E n) hn hs i).1) ((fH (okF gl (rkE P co G E n)) (rkE P co G E n) hn hs i).2.1) ((fH (okF gl (rkE P co G E n)) (rkE P co G E n) hn hs i).2.2) X) H → va_S (fun q => lo ≤ q) s0.heap H locs → lv_has ls 4 [(0, .ref (ad 0)), (1, .int (nI k)), (2, .int (nI (i + 1)))] → W pr l en (headSpec (wsO yX3_find cX3_find 4 (some .int)) ({ frames := 7, cells := 0, slots := 0, locals := 157 } : Room)).room s0 mm (([.ref (ad 0), .int (nI k)] : List Value).toArray) below meth cc0 H locs 0 0 (MQ below (mQ1 D vwCl lo (fun v ad1 ct1 => v = .int (nI (min (fH (okF gl (rkE P co G E n)) (rkE P co G E n) hn hs n).1 k)) ∧ ad1 = ad ∧ ∃ lc1, ct1 = ctC aC ad n gl (rkE P co G E n) G P co lc1 (min (fH (okF gl (rkE P co G E n)) (rkE P co G E n) hn hs n).1 k) ((fH (okF gl (rkE P co G E n)) (rkE P co G E n) hn hs n).2.1) ((fH (okF gl (rkE P co G E n)) (rkE P co G E n) hn hs n).2.2) X)) (([.ref (ad 0), .int (nI k)] : List Value).toArray) s0 0 0 (fun q => lo ≤ q)) (F0 mm 23 ls []) := by
    intro fu
    induction fu with
    | zero =>
      intro i lc1 hi hfu H locs ls hM hS hl
      exact absurd hfu (by omega)
    | succ fu ih_23 =>
      intro i lc1 hi hfu H locs ls hM hS hl
      have hfl : (fH (okF gl (rkE P co G E n)) (rkE P co G E n) hn hs i).1 ≤ i := fH_le i
      have hE2 : ∀ j, (rkE P co G E n j).2.2.2.2 ≤ 100000 := rk2_ls (rk1_ls (P := P) (co := co) (G := G) (i := n) hP hlen hls) n
      refine lv_iload_n hx hb dX3_find_23 rfl (lv_at hl 2 rfl) ?_
      refine lv_aload_n hx hb dX3_find_24 rfl (lv_at hl 0 rfl) ?_
      refine m_get F (ci := 3) (v := .int (nI n)) (fun w h => tb_O (inX3 w h)) hK hM ctC_0 rfl 1 (by decide) (tb_O lkX3_15) rfl dX3_find_25 ?_
      refine m_icmp_gt F (a := (i + 1)) (b := n) (by omega) (by omega) (tgt := 77) dX3_find_28 (by decide) (fun c_28 => ?_) (fun c_28 => ?_)
      · skip
        have hin : n = i := by omega
        subst hin
        refine lv_aload_n hx hb dX3_find_77 rfl (lv_at hl 0 rfl) ?_
        refine m_get F (ci := 3) (v := .ref (ad 5)) (fun w h => tb_O (inX3 w h)) hK hM ctC_0 rfl 3 (by decide) (tb_O lkX3_29) rfl dX3_find_78 ?_
        refine lv_iload_n hx hb dX3_find_81 rfl (lv_at hl 1 rfl) ?_
        refine m_d0 (ct1 := va_up (ctC aC ad n gl (rkE P co G E n) G P co lc1 ((fH (okF gl (rkE P co G E n)) (rkE P co G E n) hn hs n).1) ((fH (okF gl (rkE P co G E n)) (rkE P co G E n) hn hs n).2.1) ((fH (okF gl (rkE P co G E n)) (rkE P co G E n) hn hs n).2.2) X) 5 (some (.inr (1, [.ref (ad 6), .ref (ad 7), .int (nI (min (fH (okF gl (rkE P co G E n)) (rkE P co G E n) hn hs n).1 k))])))) (va_runV (As := [.int (nI k)]) (rest := []) F (c_keepFirst l k (by omega) hk2 ctC_5) (cwV 1 F.2.2.2.2 (go_V (fun _ h => tb_O h) mlX3_91 imX1_keepFirst seX1_keepFirst iniX1 cdX1_keepFirst) rfl rfl rfl (by decide +kernel) ⟨Nat.le_of_ble_eq_true rfl, Nat.le_of_ble_eq_true rfl⟩) (mPreV hKK hM (Nat.le_trans hlo hS.1) ctC_5 rfl) rfl rfl hl.1 rfl (lv_room (Nat.le_of_ble_eq_true rfl)) dX3_find_82 ⟨Nat.le_of_ble_eq_true rfl, Nat.le_of_ble_eq_true rfl⟩) hS (fun H locs hM hS => ?_)
        have hM : mw D vwCl lo ad (ctC aC ad n gl (rkE P co G E n) G P co lc1 (min (fH (okF gl (rkE P co G E n)) (rkE P co G E n) hn hs n).1 k) ((fH (okF gl (rkE P co G E n)) (rkE P co G E n) hn hs n).2.1) ((fH (okF gl (rkE P co G E n)) (rkE P co G E n) hn hs n).2.2) X) H := by rw [ctC_hc] at hM; exact hM
        refine lv_aload_n hx hb dX3_find_85 rfl (lv_at hl 0 rfl) ?_
        refine m_get F (ci := 3) (v := .ref (ad 5)) (fun w h => tb_O (inX3 w h)) hK hM ctC_0 rfl 3 (by decide) (tb_O lkX3_29) rfl dX3_find_86 ?_
        refine m_get F (ci := 1) (v := .int (nI (min (fH (okF gl (rkE P co G E n)) (rkE P co G E n) hn hs n).1 k))) (fun w h => tb_O (inX1 w h)) hK hM ctC_5 rfl 2 (by decide) (tb_O lkX3_95) rfl dX3_find_89 ?_
        exact W.iret hx hb hr (fun t ht hW => ⟨⟨_, _, _, rfl, ⟨rfl, rfl, _, rfl⟩, by rw [ht]; exact hM⟩, hS.F ht⟩) hS.2.2 dX3_find_92
      · skip
        have hdq : (rkE P co G E n (i + 1)).2.2.1 = (E (i + 1)).2.2.1 := ((rk2_keep (rk1 P co G E n) n (i + 1)).2.2.1).trans rk1_dr
        refine lv_aload_n hx hb dX3_find_31 rfl (lv_at hl 0 rfl) ?_
        refine lv_iload_n hx hb dX3_find_32 rfl (lv_at hl 2 rfl) ?_
        rcases hdr : (E (i + 1)).2.2.1 with _ | _
        · skip
          refine m_d1 (v := .ref (ad (2 * (i + 1) + 8))) (ct1 := ctC aC ad n gl (rkE P co G E n) G P co lc1 ((fH (okF gl (rkE P co G E n)) (rkE P co G E n) hn hs i).1) ((fH (okF gl (rkE P co G E n)) (rkE P co G E n) hn hs i).2.1) ((fH (okF gl (rkE P co G E n)) (rkE P co G E n) hn hs i).2.2) X) (va_runV (As := [.int (nI (i + 1))]) (rest := []) F (c_livT l (i + 1) (by omega) (by omega) h200 (by rw [hdq]; exact hdr)) (cwV 1 F.2.2.2.2 (go_V (fun _ h => tb_O h) mlX3_37 imX3_living seX3_living iniX3 cdX3_living) rfl rfl rfl (by decide +kernel) ⟨Nat.le_of_ble_eq_true rfl, Nat.le_of_ble_eq_true rfl⟩) (mPreV hKK hM (Nat.le_trans hlo hS.1) ctC_0 rfl) rfl rfl hl.1 rfl (lv_room (Nat.le_of_ble_eq_true rfl)) dX3_find_33 ⟨Nat.le_of_ble_eq_true rfl, Nat.le_of_ble_eq_true rfl⟩) hS (fun H locs hM hS => ?_)
          refine lv_astore_n (lv' := [(3, .ref (ad (2 * (i + 1) + 8))), (0, .ref (ad 0)), (1, .int (nI k)), (2, .int (nI (i + 1)))]) hx hb dX3_find_36 rfl hl (by decide) rfl (fun ls hl => ?_)
          refine lv_aload_n hx hb dX3_find_37 rfl (lv_at hl 0 rfl) ?_
          refine lv_ifnull hx hb dX3_find_38 ?_
          refine lv_aload_n hx hb dX3_find_41 rfl (lv_at hl 1 rfl) ?_
          refine lv_aload_n hx hb dX3_find_42 rfl (lv_at hl 0 rfl) ?_
          refine m_d1 (v := .int (bI (mbf gl ((rkE P co G E n) (i + 1))))) (ct1 := ctC aC ad n gl (rkE P co G E n) G P co lc1 ((fH (okF gl (rkE P co G E n)) (rkE P co G E n) hn hs i).1) ((fH (okF gl (rkE P co G E n)) (rkE P co G E n) hn hs i).2.1) ((fH (okF gl (rkE P co G E n)) (rkE P co G E n) hn hs i).2.2) X) (va_runV (As := [.ref (ad (2 * (i + 1) + 8))]) (rest := []) F (c_mayBeFound l (i + 1) (by omega) (by omega) h200) (cwV 1 F.2.2.2.2 (go_V (fun _ h => tb_O h) mlX3_80 imX3_mayBeFound seX3_mayBeFound iniX3 cdX3_mayBeFound) rfl rfl rfl (by decide +kernel) ⟨Nat.le_of_ble_eq_true rfl, Nat.le_of_ble_eq_true rfl⟩) (mPreV hKK hM (Nat.le_trans hlo hS.1) ctC_0 rfl) rfl rfl hl.1 rfl (lv_room (Nat.le_of_ble_eq_true rfl)) dX3_find_43 ⟨Nat.le_of_ble_eq_true rfl, Nat.le_of_ble_eq_true rfl⟩) hS (fun H locs hM hS => ?_)
          refine lv_if_eq (tgt := 71) hx hb dX3_find_46 (by decide) (fun c_46 => ?_) (fun c_46 => ?_)
          · skip
            have hnq : ¬ okF gl (rkE P co G E n) (i + 1) = true := by simp [okF, bI_eq c_46]
            refine lv_iinc (v := (nI (i + 1 + 1))) (lv' := [(2, .int (nI (i + 1 + 1))), (3, .ref (ad (2 * (i + 1) + 8))), (0, .ref (ad 0)), (1, .int (nI k))]) hx hb dX3_find_71 hl (k := 3) rfl (nI_1 (i + 1)) (by decide) rfl (fun ls hl => ?_)
            refine lv_goto (tgt := 23) hx hb dX3_find_74 (by decide) ?_
            have hnq : ¬ okF gl (rkE P co G E n) (i + 1) = true := by first | exact hnq | simp [okF, hdq, hdr]
            exact ih_23 (i + 1) lc1 (by omega) (by omega) _ _ _ (by rw [fH_n hnq]; exact hM) hS (lv_sub hl [2, 3, 0] rfl)
          · skip
            refine lv_aload_n hx hb dX3_find_49 rfl (lv_at hl 0 rfl) ?_
            refine m_get F (ci := 0) (v := .int (nI (((rkE P co G E n) (i + 1)).2.2.2.2))) (fun w h => tb_O (inX0 w h)) hK hM (ctC_e (by omega) (by omega) h200) rfl 5 (by decide) (tb_O lkX3_84) rfl dX3_find_50 ?_
            refine lv_sipush (v := (nI 400)) hx hb dX3_find_53 (by decide) ?_
            refine m_icmp_gt F (a := (((rkE P co G E n) (i + 1)).2.2.2.2)) (b := 400) (by have := hE2 (i + 1); omega) (by omega) (tgt := 71) dX3_find_56 (by decide) (fun c_56 => ?_) (fun c_56 => ?_)
            · skip
              have hnq : ¬ okF gl (rkE P co G E n) (i + 1) = true := by simp [okF, show ¬ ((rkE P co G E n) (i + 1)).2.2.2.2 ≤ 400 by omega]
              refine lv_iinc (v := (nI (i + 1 + 1))) (lv' := [(2, .int (nI (i + 1 + 1))), (3, .ref (ad (2 * (i + 1) + 8))), (0, .ref (ad 0)), (1, .int (nI k))]) hx hb dX3_find_71 hl (k := 3) rfl (nI_1 (i + 1)) (by decide) rfl (fun ls hl => ?_)
              refine lv_goto (tgt := 23) hx hb dX3_find_74 (by decide) ?_
              have hnq : ¬ okF gl (rkE P co G E n) (i + 1) = true := by first | exact hnq | simp [okF, hdq, hdr]
              exact ih_23 (i + 1) lc1 (by omega) (by omega) _ _ _ (by rw [fH_n hnq]; exact hM) hS (lv_sub hl [2, 3, 0] rfl)
            · skip
              have hyq : okF gl (rkE P co G E n) (i + 1) = true := by simp [okF, hdq, hdr, bI_ne c_46, c_56]
              refine lv_aload_n hx hb dX3_find_59 rfl (lv_at hl 1 rfl) ?_
              refine m_get F (ci := 3) (v := .ref (ad 5)) (fun w h => tb_O (inX3 w h)) hK hM ctC_0 rfl 3 (by decide) (tb_O lkX3_29) rfl dX3_find_60 ?_
              refine lv_iload_n hx hb dX3_find_63 rfl (lv_at hl 3 rfl) ?_
              refine lv_aload_n hx hb dX3_find_64 rfl (lv_at hl 0 rfl) ?_
              refine m_get F (ci := 0) (v := .int (nI (((rkE P co G E n) (i + 1)).2.2.2.2))) (fun w h => tb_O (inX0 w h)) hK hM (ctC_e (by omega) (by omega) h200) rfl 5 (by decide) (tb_O lkX3_84) rfl dX3_find_65 ?_
              refine m_d0 (ct1 := va_up (va_up (va_up (ctC aC ad n gl (rkE P co G E n) G P co lc1 ((fH (okF gl (rkE P co G E n)) (rkE P co G E n) hn hs i).1) ((fH (okF gl (rkE P co G E n)) (rkE P co G E n) hn hs i).2.1) ((fH (okF gl (rkE P co G E n)) (rkE P co G E n) hn hs i).2.2) X) 6 (some (iA aC 200 (fun j => nI ((insR (fH (okF gl (rkE P co G E n)) (rkE P co G E n) hn hs i).2.1 (inP (fH (okF gl (rkE P co G E n)) (rkE P co G E n) hn hs i).2.2 ((rkE P co G E n) (i + 1)).2.2.2.2 (fH (okF gl (rkE P co G E n)) (rkE P co G E n) hn hs i).1) (fH (okF gl (rkE P co G E n)) (rkE P co G E n) hn hs i).1 (i + 1)) j))))) 7 (some (iA aC 200 (fun j => nI ((insR (fH (okF gl (rkE P co G E n)) (rkE P co G E n) hn hs i).2.2 (inP (fH (okF gl (rkE P co G E n)) (rkE P co G E n) hn hs i).2.2 ((rkE P co G E n) (i + 1)).2.2.2.2 (fH (okF gl (rkE P co G E n)) (rkE P co G E n) hn hs i).1) (fH (okF gl (rkE P co G E n)) (rkE P co G E n) hn hs i).1 ((rkE P co G E n) (i + 1)).2.2.2.2) j))))) 5 (some (.inr (1, [.ref (ad 6), .ref (ad 7), .int (nI ((fH (okF gl (rkE P co G E n)) (rkE P co G E n) hn hs i).1 + 1))])))) (va_runV (As := [.int (nI (i + 1)), .int (nI (((rkE P co G E n) (i + 1)).2.2.2.2))]) (rest := []) F (c_addBySum l (i + 1) (((rkE P co G E n) (i + 1)).2.2.2.2) (by omega) (by have := hE2 (i + 1); omega) (fun j => by have := fH_hs (q := okF gl (rkE P co G E n)) (hn := hn) hhs hE2 i j; omega) ctC_5 ctC_6 ctC_7) (cwV 2 F.2.2.2.2 (go_V (fun _ h => tb_O h) mlX3_87 imX1_addBySum seX1_addBySum iniX1 cdX1_addBySum) rfl rfl rfl (by decide +kernel) ⟨Nat.le_of_ble_eq_true rfl, Nat.le_of_ble_eq_true rfl⟩) (mPreV hKK hM (Nat.le_trans hlo hS.1) ctC_5 rfl) rfl rfl hl.1 rfl (lv_room (Nat.le_of_ble_eq_true rfl)) dX3_find_68 ⟨Nat.le_of_ble_eq_true rfl, Nat.le_of_ble_eq_true rfl⟩) hS (fun H locs hM hS => ?_)
              have hM : mw D vwCl lo ad (ctC aC ad n gl (rkE P co G E n) G P co lc1 ((fH (okF gl (rkE P co G E n)) (rkE P co G E n) hn hs (i + 1)).1) ((fH (okF gl (rkE P co G E n)) (rkE P co G E n) hn hs (i + 1)).2.1) ((fH (okF gl (rkE P co G E n)) (rkE P co G E n) hn hs (i + 1)).2.2) X) H := by rw [ctC_hn, ctC_hs, ctC_hc] at hM; rw [fH_y hyq]; exact hM
              refine lv_iinc (v := (nI (i + 1 + 1))) (lv' := [(2, .int (nI (i + 1 + 1))), (3, .ref (ad (2 * (i + 1) + 8))), (0, .ref (ad 0)), (1, .int (nI k))]) hx hb dX3_find_71 hl (k := 3) rfl (nI_1 (i + 1)) (by decide) rfl (fun ls hl => ?_)
              refine lv_goto (tgt := 23) hx hb dX3_find_74 (by decide) ?_
              exact ih_23 (i + 1) lc1 (by omega) (by omega) _ _ _ hM hS (lv_sub hl [2, 3, 0] rfl)
        · skip
          refine m_d1 (v := .null) (ct1 := ctC aC ad n gl (rkE P co G E n) G P co lc1 ((fH (okF gl (rkE P co G E n)) (rkE P co G E n) hn hs i).1) ((fH (okF gl (rkE P co G E n)) (rkE P co G E n) hn hs i).2.1) ((fH (okF gl (rkE P co G E n)) (rkE P co G E n) hn hs i).2.2) X) (va_runV (As := [.int (nI (i + 1))]) (rest := []) F (c_livF l (i + 1) (by omega) (by omega) h200 (by rw [hdq]; exact hdr)) (cwV 1 F.2.2.2.2 (go_V (fun _ h => tb_O h) mlX3_37 imX3_living seX3_living iniX3 cdX3_living) rfl rfl rfl (by decide +kernel) ⟨Nat.le_of_ble_eq_true rfl, Nat.le_of_ble_eq_true rfl⟩) (mPreV hKK hM (Nat.le_trans hlo hS.1) ctC_0 rfl) rfl rfl hl.1 rfl (lv_room (Nat.le_of_ble_eq_true rfl)) dX3_find_33 ⟨Nat.le_of_ble_eq_true rfl, Nat.le_of_ble_eq_true rfl⟩) hS (fun H locs hM hS => ?_)
          refine lv_astore_nN (lv' := [(3, .null), (0, .ref (ad 0)), (1, .int (nI k)), (2, .int (nI (i + 1)))]) hx hb dX3_find_36 rfl hl (by decide) rfl (fun ls hl => ?_)
          refine lv_aload_nN hx hb dX3_find_37 rfl (lv_at hl 0 rfl) ?_
          refine lv_ifnullN (tgt := 71) hx hb dX3_find_38 (by decide) ?_
          refine lv_iinc (v := (nI (i + 1 + 1))) (lv' := [(2, .int (nI (i + 1 + 1))), (3, .null), (0, .ref (ad 0)), (1, .int (nI k))]) hx hb dX3_find_71 hl (k := 3) rfl (nI_1 (i + 1)) (by decide) rfl (fun ls hl => ?_)
          refine lv_goto (tgt := 23) hx hb dX3_find_74 (by decide) ?_
          have hnq : ¬ okF gl (rkE P co G E n) (i + 1) = true := by first | exact hnq | simp [okF, hdq, hdr]
          exact ih_23 (i + 1) lc1 (by omega) (by omega) _ _ _ (by rw [fH_n hnq]; exact hM) hS (lv_sub hl [2, 3, 0] rfl)
  refine lv_iload_n hx hb dX3_find_0 rfl (lv_at hl 1 rfl) ?_
  refine m_d1 (v := .int (bI (isK (nI k)))) (ct1 := ctC aC ad n gl E G P co lc hc hn hs X) (va_runS (As := [.int (nI k)]) (rest := []) F (c_mayBeAsked l (nI k)) (va_cwS 1 F.2.2.2.2 (go_S (fun _ h => tb_O h) mlX3_73 stX3_mayBeAsked iniX3 cdX3_mayBeAsked) rfl rfl rfl (by decide +kernel) ⟨Nat.le_of_ble_eq_true rfl, Nat.le_of_ble_eq_true rfl⟩) (mPreS hKK hM (Nat.le_trans hlo hS.1)) rfl rfl hl.1 rfl (lv_room (Nat.le_of_ble_eq_true rfl)) dX3_find_1 ⟨Nat.le_of_ble_eq_true rfl, Nat.le_of_ble_eq_true rfl⟩) hS (fun H locs hM hS => ?_)
  refine lv_if_ne (tgt := 10) hx hb dX3_find_4 (by decide) (fun c_4 => ?_) (fun c_4 => ?_)
  · skip
    refine lv_aload_n hx hb dX3_find_10 rfl (lv_at hl 0 rfl) ?_
    refine m_ret0 (va_runV (As := []) (rest := []) F (c_reckon l h200 hP hco hlen hsg hls hsfo) (cwV 0 F.2.2.2.2 (go_V (fun _ h => tb_O h) mlX3_76 imX3_reckonSums seX3_reckonSums iniX3 cdX3_reckonSums) rfl rfl rfl (by decide +kernel) ⟨Nat.le_of_ble_eq_true rfl, Nat.le_of_ble_eq_true rfl⟩) (mPreV hKK hM (Nat.le_trans hlo hS.1) ctC_0 rfl) rfl rfl hl.1 rfl (lv_room (Nat.le_of_ble_eq_true rfl)) dX3_find_11 ⟨Nat.le_of_ble_eq_true rfl, Nat.le_of_ble_eq_true rfl⟩) hS (fun ad1 ct1 H locs hp hM hS => ?_)
    obtain ⟨h9, lc1, rfl⟩ := hp
    replace h9 := h9.symm
    subst h9
    refine lv_aload_n hx hb dX3_find_14 rfl (lv_at hl 0 rfl) ?_
    refine m_get F (ci := 3) (v := .ref (ad 5)) (fun w h => tb_O (inX3 w h)) hK hM ctC_0 rfl 3 (by decide) (tb_O lkX3_29) rfl dX3_find_15 ?_
    refine m_d0 (ct1 := va_up (ctC aC ad n gl (rkE P co G E n) G P co lc1 hc hn hs X) 5 (some (.inr (1, [.ref (ad 6), .ref (ad 7), .int (nI 0)])))) (va_runV (As := []) (rest := []) F (c_hforget l ctC_5) (cwV 0 F.2.2.2.2 (go_V (fun _ h => tb_O h) mlX3_79 imX1_forget seX1_forget iniX1 cdX1_forget) rfl rfl rfl (by decide +kernel) ⟨Nat.le_of_ble_eq_true rfl, Nat.le_of_ble_eq_true rfl⟩) (mPreV hKK hM (Nat.le_trans hlo hS.1) ctC_5 rfl) rfl rfl hl.1 rfl (lv_room (Nat.le_of_ble_eq_true rfl)) dX3_find_18 ⟨Nat.le_of_ble_eq_true rfl, Nat.le_of_ble_eq_true rfl⟩) hS (fun H locs hM hS => ?_)
    have hM : mw D vwCl lo ad (ctC aC ad n gl (rkE P co G E n) G P co lc1 0 hn hs X) H := by rw [ctC_hc] at hM; exact hM
    refine lv_iconst (v := (nI 1)) hx hb dX3_find_21 (by decide) ?_
    refine lv_istore_n (lv' := [(2, .int (nI 1)), (0, .ref (ad 0)), (1, .int (nI k))]) hx hb dX3_find_22 rfl hl (by decide) rfl (fun ls hl => ?_)
    exact loop_23 (n + 1) 0 lc1 (Nat.zero_le _) (by omega) _ _ _ hM hS (lv_sub hl [1, 2, 0] rfl)
  · skip
    exact absurd (by rw [isK_nI hk1 hk2]; decide) (fun h : ¬ bI (isK (nI k)) = 0 => h c_4)

set_option maxHeartbeats 4000000 in
set_option maxRecDepth 100000 in
theorem c_plain (l : Launch) {D : va_G} {aC : Nat → ClassId} {lo : Nat} {ad : Nat → Nat} {n : Nat} {gl : Int32} {E : Nat → Ent} {G : Nat → Nat → Nat} {P : Nat} {co : Nat → Option Nat} {lc : Nat → Nat} {hc : Nat} {hn hs : Nat → Nat} {X : Nat → Option va_E} (k : Nat) (hk1 : 1 ≤ k) (hk2 : k ≤ 1000) (hhs : ∀ j, hs j ≤ 100000) (h200 : n ≤ 200) (hP : P ≤ 20) (hco : ∀ k c, co k = some c → c ≤ 1000) (hlen : ∀ j, (E j).1 ≤ 20) (hsg : ∀ j k, 1 ≤ j → j ≤ n → k < (E j).1 → 33 ≤ G j k ∧ G j k ≤ 126) (hls : ∀ j, (E j).2.2.2.2 ≤ 100000) (hsfo : sfOk n E) : Met l yX3_plain (wsO yX3_plain cX3_plain 4 (some .int)) ({ frames := 7, cells := 0, slots := 0, locals := 157 } : Room) (mPc D vwCl (tyA aC) lo ad (ctC aC ad n gl E G P co lc hc hn hs X) [.ref (ad 0), .int (nI k)]) (mQ1 D vwCl lo (fun v ad1 ct1 => v = .int (nI ((pH (okP gl P co G (rkE P co G E n)) (rkE P co G E n) hn hs n).1)) ∧ ad1 = ad ∧ ∃ lc1, ct1 = ctC aC ad n gl (rkE P co G E n) G P co lc1 (min (pH (okP gl P co G (rkE P co G E n)) (rkE P co G E n) hn hs n).1 k) ((pH (okP gl P co G (rkE P co G E n)) (rkE P co G E n) hn hs n).2.1) ((pH (okP gl P co G (rkE P co G E n)) (rkE P co G E n) hn hs n).2.2) X)) 0 0 (fun q => lo ≤ q) := by
  refine Met.ofW (cc := cX3_plain) (maxL := 4) (ret := (some .int)) (by decide) rfl ?_
  intro pr en s0 mm args below meth cc0 s₁ B hml hv
  obtain ⟨rfl, hlo, hM, hKK⟩ := hv
  have hK := hKK.1
  have hr := B.returns
  have hts := atoms_spec (ws := (wsO yX3_plain cX3_plain 4 (some .int))) B.pre
  have F : CallFix pr mm cc0 cX3_plain 4 s0 (([.ref (ad 0), .int (nI k)] : List Value).toArray) (wsO yX3_plain cX3_plain 4 (some .int)) RX3 := ⟨B.exec, B.bytes, hml, findClass_of_methodNamed B.named, hts⟩
  have hx := F.1
  have hb := F.2.1
  have hlocks := B.notSynchronized
  have hS : va_S (fun q => lo ≤ q) s0.heap s0.heap [] := va_S.rf
  have hl := lv_entry ([.ref (ad 0), .int (nI k)]) (n := 4) (Nat.le_of_ble_eq_true rfl)
  rw [lg_entry_eq]
  generalize (lg_sl ([.ref (ad 0), .int (nI k)]) ++ List.replicate (4 - (lg_sl ([.ref (ad 0), .int (nI k)])).length) Slot.unset).toArray = ls at hl ⊢
  have hl : lv_has ls 4 [(0, .ref (ad 0)), (1, .int (nI k))] := hl
  have loop_23 : ∀ (fu : Nat) (i : Nat) (lc1 : Nat → Nat), (i ≤ n) → n + 1 - i ≤ fu → ∀ (H : Heap) (locs : List Loc) (ls : Array Slot), mw D vwCl lo ad (ctC aC ad n gl (rkE P co G E n) G P co lc1 ((pH (okP gl P co G (rkE P co G E n)) (rkE P co G E n) hn hs i).1) ((pH (okP gl P co G (rkE P co G E n)) (rkE P co G E n) hn hs i).2.1) ((pH (okP gl P co G (rkE P co G E n)) (rkE P co G E n) hn hs i).2.2) X) H → va_S (fun q => lo ≤ q) s0.heap H locs → lv_has ls 4 [(0, .ref (ad 0)), (1, .int (nI k)), (2, .int (nI (i + 1)))] → W pr l en (headSpec (wsO yX3_plain cX3_plain 4 (some .int)) ({ frames := 7, cells := 0, slots := 0, locals := 157 } : Room)).room s0 mm (([.ref (ad 0), .int (nI k)] : List Value).toArray) below meth cc0 H locs 0 0 (MQ below (mQ1 D vwCl lo (fun v ad1 ct1 => v = .int (nI ((pH (okP gl P co G (rkE P co G E n)) (rkE P co G E n) hn hs n).1)) ∧ ad1 = ad ∧ ∃ lc1, ct1 = ctC aC ad n gl (rkE P co G E n) G P co lc1 (min (pH (okP gl P co G (rkE P co G E n)) (rkE P co G E n) hn hs n).1 k) ((pH (okP gl P co G (rkE P co G E n)) (rkE P co G E n) hn hs n).2.1) ((pH (okP gl P co G (rkE P co G E n)) (rkE P co G E n) hn hs n).2.2) X)) (([.ref (ad 0), .int (nI k)] : List Value).toArray) s0 0 0 (fun q => lo ≤ q)) (F0 mm 23 ls []) := by
    intro fu
    induction fu with
    | zero =>
      intro i lc1 hi hfu H locs ls hM hS hl
      exact absurd hfu (by omega)
    | succ fu ih_23 =>
      intro i lc1 hi hfu H locs ls hM hS hl
      have hfl : (pH (okP gl P co G (rkE P co G E n)) (rkE P co G E n) hn hs i).1 ≤ i := pH_le i
      have hE2 : ∀ j, (rkE P co G E n j).2.2.2.2 ≤ 100000 := rk2_ls (rk1_ls (P := P) (co := co) (G := G) (i := n) hP hlen hls) n
      refine lv_iload_n hx hb dX3_plain_23 rfl (lv_at hl 2 rfl) ?_
      refine lv_aload_n hx hb dX3_plain_24 rfl (lv_at hl 0 rfl) ?_
      refine m_get F (ci := 3) (v := .int (nI n)) (fun w h => tb_O (inX3 w h)) hK hM ctC_0 rfl 1 (by decide) (tb_O lkX3_15) rfl dX3_plain_25 ?_
      refine m_icmp_gt F (a := (i + 1)) (b := n) (by omega) (by omega) (tgt := 78) dX3_plain_28 (by decide) (fun c_28 => ?_) (fun c_28 => ?_)
      · skip
        have hin : n = i := by omega
        subst hin
        refine lv_aload_n hx hb dX3_plain_78 rfl (lv_at hl 0 rfl) ?_
        refine m_get F (ci := 3) (v := .ref (ad 5)) (fun w h => tb_O (inX3 w h)) hK hM ctC_0 rfl 3 (by decide) (tb_O lkX3_29) rfl dX3_plain_79 ?_
        refine m_get F (ci := 1) (v := .int (nI ((pH (okP gl P co G (rkE P co G E n)) (rkE P co G E n) hn hs n).1))) (fun w h => tb_O (inX1 w h)) hK hM ctC_5 rfl 2 (by decide) (tb_O lkX3_95) rfl dX3_plain_82 ?_
        refine lv_istore_n (lv' := [(2, .int (nI ((pH (okP gl P co G (rkE P co G E n)) (rkE P co G E n) hn hs n).1))), (0, .ref (ad 0)), (1, .int (nI k))]) hx hb dX3_plain_85 rfl hl (by decide) rfl (fun ls hl => ?_)
        refine lv_aload_n hx hb dX3_plain_86 rfl (lv_at hl 1 rfl) ?_
        refine m_get F (ci := 3) (v := .ref (ad 5)) (fun w h => tb_O (inX3 w h)) hK hM ctC_0 rfl 3 (by decide) (tb_O lkX3_29) rfl dX3_plain_87 ?_
        refine lv_iload_n hx hb dX3_plain_90 rfl (lv_at hl 2 rfl) ?_
        refine m_d0 (ct1 := va_up (ctC aC ad n gl (rkE P co G E n) G P co lc1 ((pH (okP gl P co G (rkE P co G E n)) (rkE P co G E n) hn hs n).1) ((pH (okP gl P co G (rkE P co G E n)) (rkE P co G E n) hn hs n).2.1) ((pH (okP gl P co G (rkE P co G E n)) (rkE P co G E n) hn hs n).2.2) X) 5 (some (.inr (1, [.ref (ad 6), .ref (ad 7), .int (nI (min (pH (okP gl P co G (rkE P co G E n)) (rkE P co G E n) hn hs n).1 k))])))) (va_runV (As := [.int (nI k)]) (rest := []) F (c_keepFirst l k (by omega) hk2 ctC_5) (cwV 1 F.2.2.2.2 (go_V (fun _ h => tb_O h) mlX3_91 imX1_keepFirst seX1_keepFirst iniX1 cdX1_keepFirst) rfl rfl rfl (by decide +kernel) ⟨Nat.le_of_ble_eq_true rfl, Nat.le_of_ble_eq_true rfl⟩) (mPreV hKK hM (Nat.le_trans hlo hS.1) ctC_5 rfl) rfl rfl hl.1 rfl (lv_room (Nat.le_of_ble_eq_true rfl)) dX3_plain_91 ⟨Nat.le_of_ble_eq_true rfl, Nat.le_of_ble_eq_true rfl⟩) hS (fun H locs hM hS => ?_)
        have hM : mw D vwCl lo ad (ctC aC ad n gl (rkE P co G E n) G P co lc1 (min (pH (okP gl P co G (rkE P co G E n)) (rkE P co G E n) hn hs n).1 k) ((pH (okP gl P co G (rkE P co G E n)) (rkE P co G E n) hn hs n).2.1) ((pH (okP gl P co G (rkE P co G E n)) (rkE P co G E n) hn hs n).2.2) X) H := by rw [ctC_hc] at hM; exact hM
        refine lv_iload_n hx hb dX3_plain_94 rfl (lv_at hl 0 rfl) ?_
        exact W.iret hx hb hr (fun t ht hW => ⟨⟨_, _, _, rfl, ⟨rfl, rfl, _, rfl⟩, by rw [ht]; exact hM⟩, hS.F ht⟩) hS.2.2 dX3_plain_95
      · skip
        have hdq : (rkE P co G E n (i + 1)).2.2.1 = (E (i + 1)).2.2.1 := ((rk2_keep (rk1 P co G E n) n (i + 1)).2.2.1).trans rk1_dr
        refine lv_aload_n hx hb dX3_plain_31 rfl (lv_at hl 0 rfl) ?_
        refine lv_iload_n hx hb dX3_plain_32 rfl (lv_at hl 2 rfl) ?_
        rcases hdr : (E (i + 1)).2.2.1 with _ | _
        · skip
          refine m_d1 (v := .ref (ad (2 * (i + 1) + 8))) (ct1 := ctC aC ad n gl (rkE P co G E n) G P co lc1 ((pH (okP gl P co G (rkE P co G E n)) (rkE P co G E n) hn hs i).1) ((pH (okP gl P co G (rkE P co G E n)) (rkE P co G E n) hn hs i).2.1) ((pH (okP gl P co G (rkE P co G E n)) (rkE P co G E n) hn hs i).2.2) X) (va_runV (As := [.int (nI (i + 1))]) (rest := []) F (c_livT l (i + 1) (by omega) (by omega) h200 (by rw [hdq]; exact hdr)) (cwV 1 F.2.2.2.2 (go_V (fun _ h => tb_O h) mlX3_37 imX3_living seX3_living iniX3 cdX3_living) rfl rfl rfl (by decide +kernel) ⟨Nat.le_of_ble_eq_true rfl, Nat.le_of_ble_eq_true rfl⟩) (mPreV hKK hM (Nat.le_trans hlo hS.1) ctC_0 rfl) rfl rfl hl.1 rfl (lv_room (Nat.le_of_ble_eq_true rfl)) dX3_plain_33 ⟨Nat.le_of_ble_eq_true rfl, Nat.le_of_ble_eq_true rfl⟩) hS (fun H locs hM hS => ?_)
          refine lv_astore_n (lv' := [(3, .ref (ad (2 * (i + 1) + 8))), (0, .ref (ad 0)), (1, .int (nI k)), (2, .int (nI (i + 1)))]) hx hb dX3_plain_36 rfl hl (by decide) rfl (fun ls hl => ?_)
          refine lv_aload_n hx hb dX3_plain_37 rfl (lv_at hl 0 rfl) ?_
          refine lv_ifnull hx hb dX3_plain_38 ?_
          refine lv_aload_n hx hb dX3_plain_41 rfl (lv_at hl 1 rfl) ?_
          refine lv_aload_n hx hb dX3_plain_42 rfl (lv_at hl 0 rfl) ?_
          refine m_d1 (v := .int (bI (mbf gl ((rkE P co G E n) (i + 1))))) (ct1 := ctC aC ad n gl (rkE P co G E n) G P co lc1 ((pH (okP gl P co G (rkE P co G E n)) (rkE P co G E n) hn hs i).1) ((pH (okP gl P co G (rkE P co G E n)) (rkE P co G E n) hn hs i).2.1) ((pH (okP gl P co G (rkE P co G E n)) (rkE P co G E n) hn hs i).2.2) X) (va_runV (As := [.ref (ad (2 * (i + 1) + 8))]) (rest := []) F (c_mayBeFound l (i + 1) (by omega) (by omega) h200) (cwV 1 F.2.2.2.2 (go_V (fun _ h => tb_O h) mlX3_80 imX3_mayBeFound seX3_mayBeFound iniX3 cdX3_mayBeFound) rfl rfl rfl (by decide +kernel) ⟨Nat.le_of_ble_eq_true rfl, Nat.le_of_ble_eq_true rfl⟩) (mPreV hKK hM (Nat.le_trans hlo hS.1) ctC_0 rfl) rfl rfl hl.1 rfl (lv_room (Nat.le_of_ble_eq_true rfl)) dX3_plain_43 ⟨Nat.le_of_ble_eq_true rfl, Nat.le_of_ble_eq_true rfl⟩) hS (fun H locs hM hS => ?_)
          refine lv_if_eq (tgt := 72) hx hb dX3_plain_46 (by decide) (fun c_46 => ?_) (fun c_46 => ?_)
          · skip
            have hnq : ¬ okP gl P co G (rkE P co G E n) (i + 1) = true := by simp [okP, bI_eq c_46]
            refine lv_iinc (v := (nI (i + 1 + 1))) (lv' := [(2, .int (nI (i + 1 + 1))), (3, .ref (ad (2 * (i + 1) + 8))), (0, .ref (ad 0)), (1, .int (nI k))]) hx hb dX3_plain_72 hl (k := 3) rfl (nI_1 (i + 1)) (by decide) rfl (fun ls hl => ?_)
            refine lv_goto (tgt := 23) hx hb dX3_plain_75 (by decide) ?_
            have hnq : ¬ okP gl P co G (rkE P co G E n) (i + 1) = true := by first | exact hnq | simp [okP, hdq, hdr]
            exact ih_23 (i + 1) lc1 (by omega) (by omega) _ _ _ (by rw [pH_n hnq]; exact hM) hS (lv_sub hl [2, 3, 0] rfl)
          · skip
            refine lv_aload_n hx hb dX3_plain_49 rfl (lv_at hl 1 rfl) ?_
            refine m_get F (ci := 3) (v := .ref (ad 2)) (fun w h => tb_O (inX3 w h)) hK hM ctC_0 rfl 2 (by decide) (tb_O lkX3_22) rfl dX3_plain_50 ?_
            refine lv_aload_n hx hb dX3_plain_53 rfl (lv_at hl 0 rfl) ?_
            refine m_d1 (v := .int (bI (decide (((rkE P co G E n) (i + 1)).1 = P) && spl co (G (i + 1)) P))) (ct1 := ctC aC ad n gl (rkE P co G E n) G P co lc1 ((pH (okP gl P co G (rkE P co G E n)) (rkE P co G E n) hn hs i).1) ((pH (okP gl P co G (rkE P co G E n)) (rkE P co G E n) hn hs i).2.1) ((pH (okP gl P co G (rkE P co G E n)) (rkE P co G E n) hn hs i).2.2) X) (va_runV (As := [.ref (ad (2 * (i + 1) + 8))]) (rest := []) F (c_spells l (ke := 2 * (i + 1) + 8) (ks := 2 * (i + 1) + 9) (len := ((rkE P co G E n) (i + 1)).1) (gb := ((rkE P co G E n) (i + 1)).2.1) (db := bI ((rkE P co G E n) (i + 1)).2.2.1) (lv := nI ((rkE P co G E n) (i + 1)).2.2.2.2) (sv := va_rf (oE ad ((rkE P co G E n) (i + 1)).2.2.2.1)) (g := G (i + 1)) ctC_2 ctC_3 (ctC_e (by omega) (by omega) h200) (ctC_s (by omega) (by omega) h200) (fun j hj => hsg (i + 1) j (by omega) (by omega) (by rw [← rkE_k.1]; exact hj)) (by rw [rkE_k.1]; exact hlen (i + 1)) hP hco) (cwV 1 F.2.2.2.2 (go_V (fun _ h => tb_O h) mlX3_123 imX2_spells seX2_spells iniX2 cdX2_spells) rfl rfl rfl (by decide +kernel) ⟨Nat.le_of_ble_eq_true rfl, Nat.le_of_ble_eq_true rfl⟩) (mPreV hKK hM (Nat.le_trans hlo hS.1) ctC_2 rfl) rfl rfl hl.1 rfl (lv_room (Nat.le_of_ble_eq_true rfl)) dX3_plain_54 ⟨Nat.le_of_ble_eq_true rfl, Nat.le_of_ble_eq_true rfl⟩) hS (fun H locs hM hS => ?_)
            refine lv_if_eq (tgt := 72) hx hb dX3_plain_57 (by decide) (fun c_57 => ?_) (fun c_57 => ?_)
            · skip
              have hnq : ¬ okP gl P co G (rkE P co G E n) (i + 1) = true := by simp only [okP]; rw [bI_eq c_57]; simp
              refine lv_iinc (v := (nI (i + 1 + 1))) (lv' := [(2, .int (nI (i + 1 + 1))), (3, .ref (ad (2 * (i + 1) + 8))), (0, .ref (ad 0)), (1, .int (nI k))]) hx hb dX3_plain_72 hl (k := 3) rfl (nI_1 (i + 1)) (by decide) rfl (fun ls hl => ?_)
              refine lv_goto (tgt := 23) hx hb dX3_plain_75 (by decide) ?_
              have hnq : ¬ okP gl P co G (rkE P co G E n) (i + 1) = true := by first | exact hnq | simp [okP, hdq, hdr]
              exact ih_23 (i + 1) lc1 (by omega) (by omega) _ _ _ (by rw [pH_n hnq]; exact hM) hS (lv_sub hl [2, 3, 0] rfl)
            · skip
              have hyq : okP gl P co G (rkE P co G E n) (i + 1) = true := by simp only [okP]; rw [bI_ne c_57, bI_ne c_46, hdq, hdr]; rfl
              refine lv_aload_n hx hb dX3_plain_60 rfl (lv_at hl 1 rfl) ?_
              refine m_get F (ci := 3) (v := .ref (ad 5)) (fun w h => tb_O (inX3 w h)) hK hM ctC_0 rfl 3 (by decide) (tb_O lkX3_29) rfl dX3_plain_61 ?_
              refine lv_iload_n hx hb dX3_plain_64 rfl (lv_at hl 3 rfl) ?_
              refine lv_aload_n hx hb dX3_plain_65 rfl (lv_at hl 0 rfl) ?_
              refine m_get F (ci := 0) (v := .int (nI (((rkE P co G E n) (i + 1)).2.2.2.2))) (fun w h => tb_O (inX0 w h)) hK hM (ctC_e (by omega) (by omega) h200) rfl 5 (by decide) (tb_O lkX3_84) rfl dX3_plain_66 ?_
              refine m_d0 (ct1 := va_up (va_up (va_up (ctC aC ad n gl (rkE P co G E n) G P co lc1 ((pH (okP gl P co G (rkE P co G E n)) (rkE P co G E n) hn hs i).1) ((pH (okP gl P co G (rkE P co G E n)) (rkE P co G E n) hn hs i).2.1) ((pH (okP gl P co G (rkE P co G E n)) (rkE P co G E n) hn hs i).2.2) X) 6 (some (iA aC 200 (fun j => nI ((un (pH (okP gl P co G (rkE P co G E n)) (rkE P co G E n) hn hs i).2.1 (pH (okP gl P co G (rkE P co G E n)) (rkE P co G E n) hn hs i).1 (i + 1)) j))))) 7 (some (iA aC 200 (fun j => nI ((un (pH (okP gl P co G (rkE P co G E n)) (rkE P co G E n) hn hs i).2.2 (pH (okP gl P co G (rkE P co G E n)) (rkE P co G E n) hn hs i).1 ((rkE P co G E n) (i + 1)).2.2.2.2) j))))) 5 (some (.inr (1, [.ref (ad 6), .ref (ad 7), .int (nI ((pH (okP gl P co G (rkE P co G E n)) (rkE P co G E n) hn hs i).1 + 1))])))) (va_runV (As := [.int (nI (i + 1)), .int (nI (((rkE P co G E n) (i + 1)).2.2.2.2))]) (rest := []) F (c_addLast l (i + 1) (((rkE P co G E n) (i + 1)).2.2.2.2) (by omega) ctC_5 ctC_6 ctC_7) (cwV 2 F.2.2.2.2 (go_V (fun _ h => tb_O h) mlX3_126 imX1_addLast seX1_addLast iniX1 cdX1_addLast) rfl rfl rfl (by decide +kernel) ⟨Nat.le_of_ble_eq_true rfl, Nat.le_of_ble_eq_true rfl⟩) (mPreV hKK hM (Nat.le_trans hlo hS.1) ctC_5 rfl) rfl rfl hl.1 rfl (lv_room (Nat.le_of_ble_eq_true rfl)) dX3_plain_69 ⟨Nat.le_of_ble_eq_true rfl, Nat.le_of_ble_eq_true rfl⟩) hS (fun H locs hM hS => ?_)
              have hM : mw D vwCl lo ad (ctC aC ad n gl (rkE P co G E n) G P co lc1 ((pH (okP gl P co G (rkE P co G E n)) (rkE P co G E n) hn hs (i + 1)).1) ((pH (okP gl P co G (rkE P co G E n)) (rkE P co G E n) hn hs (i + 1)).2.1) ((pH (okP gl P co G (rkE P co G E n)) (rkE P co G E n) hn hs (i + 1)).2.2) X) H := by rw [ctC_hn, ctC_hs, ctC_hc] at hM; rw [pH_y hyq]; exact hM
              refine lv_iinc (v := (nI (i + 1 + 1))) (lv' := [(2, .int (nI (i + 1 + 1))), (3, .ref (ad (2 * (i + 1) + 8))), (0, .ref (ad 0)), (1, .int (nI k))]) hx hb dX3_plain_72 hl (k := 3) rfl (nI_1 (i + 1)) (by decide) rfl (fun ls hl => ?_)
              refine lv_goto (tgt := 23) hx hb dX3_plain_75 (by decide) ?_
              exact ih_23 (i + 1) lc1 (by omega) (by omega) _ _ _ hM hS (lv_sub hl [2, 3, 0] rfl)
        · skip
          refine m_d1 (v := .null) (ct1 := ctC aC ad n gl (rkE P co G E n) G P co lc1 ((pH (okP gl P co G (rkE P co G E n)) (rkE P co G E n) hn hs i).1) ((pH (okP gl P co G (rkE P co G E n)) (rkE P co G E n) hn hs i).2.1) ((pH (okP gl P co G (rkE P co G E n)) (rkE P co G E n) hn hs i).2.2) X) (va_runV (As := [.int (nI (i + 1))]) (rest := []) F (c_livF l (i + 1) (by omega) (by omega) h200 (by rw [hdq]; exact hdr)) (cwV 1 F.2.2.2.2 (go_V (fun _ h => tb_O h) mlX3_37 imX3_living seX3_living iniX3 cdX3_living) rfl rfl rfl (by decide +kernel) ⟨Nat.le_of_ble_eq_true rfl, Nat.le_of_ble_eq_true rfl⟩) (mPreV hKK hM (Nat.le_trans hlo hS.1) ctC_0 rfl) rfl rfl hl.1 rfl (lv_room (Nat.le_of_ble_eq_true rfl)) dX3_plain_33 ⟨Nat.le_of_ble_eq_true rfl, Nat.le_of_ble_eq_true rfl⟩) hS (fun H locs hM hS => ?_)
          refine lv_astore_nN (lv' := [(3, .null), (0, .ref (ad 0)), (1, .int (nI k)), (2, .int (nI (i + 1)))]) hx hb dX3_plain_36 rfl hl (by decide) rfl (fun ls hl => ?_)
          refine lv_aload_nN hx hb dX3_plain_37 rfl (lv_at hl 0 rfl) ?_
          refine lv_ifnullN (tgt := 72) hx hb dX3_plain_38 (by decide) ?_
          refine lv_iinc (v := (nI (i + 1 + 1))) (lv' := [(2, .int (nI (i + 1 + 1))), (3, .null), (0, .ref (ad 0)), (1, .int (nI k))]) hx hb dX3_plain_72 hl (k := 3) rfl (nI_1 (i + 1)) (by decide) rfl (fun ls hl => ?_)
          refine lv_goto (tgt := 23) hx hb dX3_plain_75 (by decide) ?_
          have hnq : ¬ okP gl P co G (rkE P co G E n) (i + 1) = true := by first | exact hnq | simp [okP, hdq, hdr]
          exact ih_23 (i + 1) lc1 (by omega) (by omega) _ _ _ (by rw [pH_n hnq]; exact hM) hS (lv_sub hl [2, 3, 0] rfl)
  refine lv_iload_n hx hb dX3_plain_0 rfl (lv_at hl 1 rfl) ?_
  refine m_d1 (v := .int (bI (isK (nI k)))) (ct1 := ctC aC ad n gl E G P co lc hc hn hs X) (va_runS (As := [.int (nI k)]) (rest := []) F (c_mayBeAsked l (nI k)) (va_cwS 1 F.2.2.2.2 (go_S (fun _ h => tb_O h) mlX3_73 stX3_mayBeAsked iniX3 cdX3_mayBeAsked) rfl rfl rfl (by decide +kernel) ⟨Nat.le_of_ble_eq_true rfl, Nat.le_of_ble_eq_true rfl⟩) (mPreS hKK hM (Nat.le_trans hlo hS.1)) rfl rfl hl.1 rfl (lv_room (Nat.le_of_ble_eq_true rfl)) dX3_plain_1 ⟨Nat.le_of_ble_eq_true rfl, Nat.le_of_ble_eq_true rfl⟩) hS (fun H locs hM hS => ?_)
  refine lv_if_ne (tgt := 10) hx hb dX3_plain_4 (by decide) (fun c_4 => ?_) (fun c_4 => ?_)
  · skip
    refine lv_aload_n hx hb dX3_plain_10 rfl (lv_at hl 0 rfl) ?_
    refine m_ret0 (va_runV (As := []) (rest := []) F (c_reckon l h200 hP hco hlen hsg hls hsfo) (cwV 0 F.2.2.2.2 (go_V (fun _ h => tb_O h) mlX3_76 imX3_reckonSums seX3_reckonSums iniX3 cdX3_reckonSums) rfl rfl rfl (by decide +kernel) ⟨Nat.le_of_ble_eq_true rfl, Nat.le_of_ble_eq_true rfl⟩) (mPreV hKK hM (Nat.le_trans hlo hS.1) ctC_0 rfl) rfl rfl hl.1 rfl (lv_room (Nat.le_of_ble_eq_true rfl)) dX3_plain_11 ⟨Nat.le_of_ble_eq_true rfl, Nat.le_of_ble_eq_true rfl⟩) hS (fun ad1 ct1 H locs hp hM hS => ?_)
    obtain ⟨h9, lc1, rfl⟩ := hp
    replace h9 := h9.symm
    subst h9
    refine lv_aload_n hx hb dX3_plain_14 rfl (lv_at hl 0 rfl) ?_
    refine m_get F (ci := 3) (v := .ref (ad 5)) (fun w h => tb_O (inX3 w h)) hK hM ctC_0 rfl 3 (by decide) (tb_O lkX3_29) rfl dX3_plain_15 ?_
    refine m_d0 (ct1 := va_up (ctC aC ad n gl (rkE P co G E n) G P co lc1 hc hn hs X) 5 (some (.inr (1, [.ref (ad 6), .ref (ad 7), .int (nI 0)])))) (va_runV (As := []) (rest := []) F (c_hforget l ctC_5) (cwV 0 F.2.2.2.2 (go_V (fun _ h => tb_O h) mlX3_79 imX1_forget seX1_forget iniX1 cdX1_forget) rfl rfl rfl (by decide +kernel) ⟨Nat.le_of_ble_eq_true rfl, Nat.le_of_ble_eq_true rfl⟩) (mPreV hKK hM (Nat.le_trans hlo hS.1) ctC_5 rfl) rfl rfl hl.1 rfl (lv_room (Nat.le_of_ble_eq_true rfl)) dX3_plain_18 ⟨Nat.le_of_ble_eq_true rfl, Nat.le_of_ble_eq_true rfl⟩) hS (fun H locs hM hS => ?_)
    have hM : mw D vwCl lo ad (ctC aC ad n gl (rkE P co G E n) G P co lc1 0 hn hs X) H := by rw [ctC_hc] at hM; exact hM
    refine lv_iconst (v := (nI 1)) hx hb dX3_plain_21 (by decide) ?_
    refine lv_istore_n (lv' := [(2, .int (nI 1)), (0, .ref (ad 0)), (1, .int (nI k))]) hx hb dX3_plain_22 rfl hl (by decide) rfl (fun ls hl => ?_)
    exact loop_23 (n + 1) 0 lc1 (Nat.zero_le _) (by omega) _ _ _ hM hS (lv_sub hl [1, 2, 0] rfl)
  · skip
    exact absurd (by rw [isK_nI hk1 hk2]; decide) (fun h : ¬ bI (isK (nI k)) = 0 => h c_4)
