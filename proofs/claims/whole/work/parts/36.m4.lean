set_option maxHeartbeats 4000000 in
set_option maxRecDepth 100000 in
theorem c_mPlain (l : Launch) {D : va_G} {aC : Nat → ClassId} {lo : Nat} {ad : Nat → Nat} {n : Nat} {th : Nat → Bool} {sz : Nat → Nat} {sg : Nat → Nat} {me : Nat → Nat} {gr : Nat → Int32} {lk : Int32} {P : Nat} {co : Nat → Option Nat} {tb : Nat → Nat} {fd : Nat} {wd : Nat → Nat} {sm : Nat → Nat} {rc : Nat → Nat} {X : Nat → Option va_E} (k : Nat) (hk1 : 1 ≤ k) (hk2 : k ≤ 1000) (h200 : n ≤ 200) (hme : ∀ k, me k ≤ 200) (hP : P ≤ 20) (hsz : ∀ k, sz k ≤ 20) (hco : ∀ k c, co k = some c → c ≤ 1000) (hsg : ∀ a k, k < sz a → sg (20 * a + k) ≤ 127) : Met l yX4_plain (wsO yX4_plain cX4_plain 6 (some .int)) ({ frames := 2, cells := 0, slots := 0, locals := 50 } : Room) (mPc D vwCl (tyA aC) lo ad (ctM aC ad n th sz sg me gr lk P co tb fd wd sm rc X) [.ref (ad 1000), .int (nI k)]) (mQ1 D vwCl lo (fun v ad1 ct1 => v = .int (nI (cnt (okN th me gr lk P sz co sg) n)) ∧ ad1 = ad ∧ ∃ tb1, ct1 = ctM aC ad n th sz sg me gr lk P co tb1 (min (cnt (okN th me gr lk P sz co sg) n) k) ((plW (okN th me gr lk P sz co sg) (fun a => sOm th me (owM P co sz sg) a n) k wd sm n).1) ((plW (okN th me gr lk P sz co sg) (fun a => sOm th me (owM P co sz sg) a n) k wd sm n).2) rc X)) 0 0 (fun q => lo ≤ q) := by
  refine Met.ofW (cc := cX4_plain) (maxL := 6) (ret := (some .int)) (by decide) rfl ?_
  intro pr en s0 mm args below meth cc0 s₁ B hml hv
  obtain ⟨rfl, hlo, hM, hKK⟩ := hv
  have hK := hKK.1
  have hr := B.returns
  have hts := atoms_spec (ws := (wsO yX4_plain cX4_plain 6 (some .int))) B.pre
  have F : CallFix pr mm cc0 cX4_plain 6 s0 (([.ref (ad 1000), .int (nI k)] : List Value).toArray) (wsO yX4_plain cX4_plain 6 (some .int)) RX4 := ⟨B.exec, B.bytes, hml, findClass_of_methodNamed B.named, hts⟩
  have hx := F.1
  have hb := F.2.1
  have hlocks := B.notSynchronized
  have hS : va_S (fun q => lo ≤ q) s0.heap s0.heap [] := va_S.rf
  have hl := lv_entry ([.ref (ad 1000), .int (nI k)]) (n := 6) (Nat.le_of_ble_eq_true rfl)
  rw [lg_entry_eq]
  generalize (lg_sl ([.ref (ad 1000), .int (nI k)]) ++ List.replicate (6 - (lg_sl ([.ref (ad 1000), .int (nI k)])).length) Slot.unset).toArray = ls at hl ⊢
  have hl : lv_has ls 6 [(0, .ref (ad 1000)), (1, .int (nI k))] := hl
  have loop_23 : ∀ (fu : Nat) (i : Nat) (tb : Nat → Nat), (i ≤ n) → n + 1 - i ≤ fu → ∀ (H : Heap) (locs : List Loc) (ls : Array Slot), mw D vwCl lo ad (ctM aC ad n th sz sg me gr lk P co tb (min (cnt (okN th me gr lk P sz co sg) i) k) ((plW (okN th me gr lk P sz co sg) (fun a => sOm th me (owM P co sz sg) a n) k wd sm i).1) ((plW (okN th me gr lk P sz co sg) (fun a => sOm th me (owM P co sz sg) a n) k wd sm i).2) rc X) H → va_S (fun q => lo ≤ q) s0.heap H locs → lv_has ls 6 [(0, .ref (ad 1000)), (1, .int (nI k)), (2, .int (nI (cnt (okN th me gr lk P sz co sg) i))), (3, .int (nI (i + 1)))] → W pr l en (headSpec (wsO yX4_plain cX4_plain 6 (some .int)) ({ frames := 2, cells := 0, slots := 0, locals := 50 } : Room)).room s0 mm (([.ref (ad 1000), .int (nI k)] : List Value).toArray) below meth cc0 H locs 0 0 (MQ below (mQ1 D vwCl lo (fun v ad1 ct1 => v = .int (nI (cnt (okN th me gr lk P sz co sg) n)) ∧ ad1 = ad ∧ ∃ tb1, ct1 = ctM aC ad n th sz sg me gr lk P co tb1 (min (cnt (okN th me gr lk P sz co sg) n) k) ((plW (okN th me gr lk P sz co sg) (fun a => sOm th me (owM P co sz sg) a n) k wd sm n).1) ((plW (okN th me gr lk P sz co sg) (fun a => sOm th me (owM P co sz sg) a n) k wd sm n).2) rc X)) (([.ref (ad 1000), .int (nI k)] : List Value).toArray) s0 0 0 (fun q => lo ≤ q)) (F0 mm 23 ls []) := by
    intro fu
    induction fu with
    | zero =>
      intro i tb hi hfu H locs ls hM hS hl
      exact absurd hfu (by omega)
    | succ fu ih_23 =>
      intro i tb hi hfu H locs ls hM hS hl
      have hcl := cnt_le (okN th me gr lk P sz co sg) i
      have hzi := hsz (i + 1)
      have loop_62 : ∀ (fu : Nat) (s : Nat), (s ≤ sz (i + 1)) → (i < n) → sz (i + 1) + 1 - s ≤ fu → ∀ (H : Heap) (locs : List Loc) (ls : Array Slot), mw D vwCl lo ad (ctM aC ad n th sz sg me gr lk P co tb (min (cnt (okN th me gr lk P sz co sg) i) k) ((plW (okN th me gr lk P sz co sg) (fun a => sOm th me (owM P co sz sg) a n) k wd sm i).1) ((plW (okN th me gr lk P sz co sg) (fun a => sOm th me (owM P co sz sg) a n) k wd sm i).2) rc X) H → va_S (fun q => lo ≤ q) s0.heap H locs → lv_has ls 6 [(0, .ref (ad 1000)), (1, .int (nI k)), (2, .int (nI (cnt (okN th me gr lk P sz co sg) i))), (3, .int (nI (i + 1))), (4, .int (bI (plB th me gr lk P sz (i + 1) && splM co sg (i + 1) s))), (5, .int (nI s))] → W pr l en (headSpec (wsO yX4_plain cX4_plain 6 (some .int)) ({ frames := 2, cells := 0, slots := 0, locals := 50 } : Room)).room s0 mm (([.ref (ad 1000), .int (nI k)] : List Value).toArray) below meth cc0 H locs 0 0 (MQ below (mQ1 D vwCl lo (fun v ad1 ct1 => v = .int (nI (cnt (okN th me gr lk P sz co sg) n)) ∧ ad1 = ad ∧ ∃ tb1, ct1 = ctM aC ad n th sz sg me gr lk P co tb1 (min (cnt (okN th me gr lk P sz co sg) n) k) ((plW (okN th me gr lk P sz co sg) (fun a => sOm th me (owM P co sz sg) a n) k wd sm n).1) ((plW (okN th me gr lk P sz co sg) (fun a => sOm th me (owM P co sz sg) a n) k wd sm n).2) rc X)) (([.ref (ad 1000), .int (nI k)] : List Value).toArray) s0 0 0 (fun q => lo ≤ q)) (F0 mm 62 ls []) := by
        intro fu
        induction fu with
        | zero =>
          intro s hs hin hfu H locs ls hM hS hl
          exact absurd hfu (by omega)
        | succ fu ih_62 =>
          intro s hs hin hfu H locs ls hM hS hl
          refine lv_iload hx hb dX4_plain_62 (lv_at hl 5 rfl) ?_
          refine lv_aload_n hx hb dX4_plain_64 rfl (lv_at hl 0 rfl) ?_
          refine m_get F (ci := 4) (v := .ref (ad 1002)) (fun w h => tb_O (inX4 w h)) hK hM ctM_o rfl 2 (by decide) (tb_O lkX4_13) rfl dX4_plain_65 ?_
          refine lv_iload_n hx hb dX4_plain_68 rfl (lv_at hl 3 rfl) ?_
          refine m_iald F hK hM 0 rfl (j := (i + 1)) ctM_asz (by omega) (by decide) dX4_plain_69 ?_
          refine m_top (y := (nI (sz (i + 1)))) rfl ?_
          refine m_icmp_ge F (a := s) (b := (sz (i + 1))) (by omega) (by omega) (tgt := 118) dX4_plain_70 (by decide) (fun c_70 => ?_) (fun c_70 => ?_)
          · skip
            have hse : s = sz (i + 1) := by omega
            have hq9 : okN th me gr lk P sz co sg (i + 1) = (plB th me gr lk P sz (i + 1) && splM co sg (i + 1) s) := by rw [hse]; rfl
            have hl : lv_has ls 6 [(0, .ref (ad 1000)), (1, .int (nI k)), (2, .int (nI (cnt (okN th me gr lk P sz co sg) i))), (3, .int (nI (i + 1))), (4, .int (bI (okN th me gr lk P sz co sg (i + 1)))), (5, .int (nI s))] := by rw [hq9]; exact hl
            refine lv_iload hx hb dX4_plain_118 (lv_at hl 4 rfl) ?_
            refine lv_if_eq (tgt := 165) hx hb dX4_plain_120 (by decide) (fun c_120 => ?_) (fun c_120 => ?_)
            · skip
              refine lv_iload hx hb dX4_plain_165 (lv_at hl 4 rfl) ?_
              refine lv_if_eq (tgt := 176) hx hb dX4_plain_167 (by decide) (fun c_167 => ?_) (fun c_167 => ?_)
              · skip
                refine lv_iload_n hx hb dX4_plain_176 rfl (lv_at hl 2 rfl) ?_
                refine lv_istore_n (lv' := [(2, .int (nI (cnt (okN th me gr lk P sz co sg) i))), (0, .ref (ad 1000)), (1, .int (nI k)), (3, .int (nI (i + 1))), (4, .int (bI (okN th me gr lk P sz co sg (i + 1)))), (5, .int (nI s))]) hx hb dX4_plain_177 rfl hl (by decide) rfl (fun ls hl => ?_)
                refine lv_iinc (v := (nI (i + 1 + 1))) (lv' := [(3, .int (nI (i + 1 + 1))), (2, .int (nI (cnt (okN th me gr lk P sz co sg) i))), (0, .ref (ad 1000)), (1, .int (nI k)), (4, .int (bI (okN th me gr lk P sz co sg (i + 1)))), (5, .int (nI s))]) hx hb dX4_plain_178 hl (k := 3) rfl (nI_1 (i + 1)) (by decide) rfl (fun ls hl => ?_)
                refine lv_goto (tgt := 23) hx hb dX4_plain_181 (by decide) ?_
                have hcn : cnt (okN th me gr lk P sz co sg) (i + 1) = cnt (okN th me gr lk P sz co sg) i := cnt_n (bI_eq c_120)
                have hpl : (plW (okN th me gr lk P sz co sg) (fun a => sOm th me (owM P co sz sg) a n) k wd sm (i + 1)) = (plW (okN th me gr lk P sz co sg) (fun a => sOm th me (owM P co sz sg) a n) k wd sm i) := plW_n (by first | exact Or.inl (bI_eq c_120) | exact Or.inr (by omega))
                have hfd : min (cnt (okN th me gr lk P sz co sg) (i + 1)) k = min (cnt (okN th me gr lk P sz co sg) i) k := by omega
                rw [← hcn] at hl
                exact ih_23 (i + 1) tb (by omega) (by omega) _ _ _ (by rw [hfd, hpl]; exact hM) hS (lv_sub hl [2, 3, 1, 0] rfl)
              · skip
                exact absurd c_120 c_167
            · skip
              refine lv_aload_n hx hb dX4_plain_123 rfl (lv_at hl 0 rfl) ?_
              refine m_get F (ci := 4) (v := .int (nI (min (cnt (okN th me gr lk P sz co sg) i) k))) (fun w h => tb_O (inX4 w h)) hK hM ctM_o rfl 10 (by decide) (tb_O lkX4_71) rfl dX4_plain_124 ?_
              refine lv_iload_n hx hb dX4_plain_127 rfl (lv_at hl 1 rfl) ?_
              refine m_icmp_ge F (a := (min (cnt (okN th me gr lk P sz co sg) i) k)) (b := k) (by omega) (by omega) (tgt := 165) dX4_plain_128 (by decide) (fun c_128 => ?_) (fun c_128 => ?_)
              · skip
                refine lv_iload hx hb dX4_plain_165 (lv_at hl 4 rfl) ?_
                refine lv_if_eq (tgt := 176) hx hb dX4_plain_167 (by decide) (fun c_167 => ?_) (fun c_167 => ?_)
                · skip
                  exact absurd c_167 c_120
                · skip
                  refine lv_iload_n hx hb dX4_plain_170 rfl (lv_at hl 2 rfl) ?_
                  refine lv_iconst (v := (nI 1)) hx hb dX4_plain_171 (by decide) ?_
                  refine lv_iadd hx hb dX4_plain_172 ?_
                  refine m_top (nI_add (cnt (okN th me gr lk P sz co sg) i) 1) ?_
                  refine lv_goto (tgt := 177) hx hb dX4_plain_173 (by decide) ?_
                  refine lv_istore_n (lv' := [(2, .int (nI (cnt (okN th me gr lk P sz co sg) i + 1))), (0, .ref (ad 1000)), (1, .int (nI k)), (3, .int (nI (i + 1))), (4, .int (bI (okN th me gr lk P sz co sg (i + 1)))), (5, .int (nI s))]) hx hb dX4_plain_177 rfl hl (by decide) rfl (fun ls hl => ?_)
                  refine lv_iinc (v := (nI (i + 1 + 1))) (lv' := [(3, .int (nI (i + 1 + 1))), (2, .int (nI (cnt (okN th me gr lk P sz co sg) i + 1))), (0, .ref (ad 1000)), (1, .int (nI k)), (4, .int (bI (okN th me gr lk P sz co sg (i + 1)))), (5, .int (nI s))]) hx hb dX4_plain_178 hl (k := 3) rfl (nI_1 (i + 1)) (by decide) rfl (fun ls hl => ?_)
                  refine lv_goto (tgt := 23) hx hb dX4_plain_181 (by decide) ?_
                  have hcn : cnt (okN th me gr lk P sz co sg) (i + 1) = cnt (okN th me gr lk P sz co sg) i + 1 := cnt_y (bI_ne c_120)
                  have hpl : (plW (okN th me gr lk P sz co sg) (fun a => sOm th me (owM P co sz sg) a n) k wd sm (i + 1)) = (plW (okN th me gr lk P sz co sg) (fun a => sOm th me (owM P co sz sg) a n) k wd sm i) := plW_n (by first | exact Or.inl (bI_eq c_120) | exact Or.inr (by omega))
                  have hfd : min (cnt (okN th me gr lk P sz co sg) (i + 1)) k = min (cnt (okN th me gr lk P sz co sg) i) k := by omega
                  rw [← hcn] at hl
                  exact ih_23 (i + 1) tb (by omega) (by omega) _ _ _ (by rw [hfd, hpl]; exact hM) hS (lv_sub hl [2, 3, 1, 0] rfl)
              · skip
                refine lv_aload_n hx hb dX4_plain_131 rfl (lv_at hl 0 rfl) ?_
                refine m_get F (ci := 4) (v := .ref (ad 1008)) (fun w h => tb_O (inX4 w h)) hK hM ctM_o rfl 11 (by decide) (tb_O lkX4_36) rfl dX4_plain_132 ?_
                refine lv_aload_n hx hb dX4_plain_135 rfl (lv_at hl 0 rfl) ?_
                refine m_get F (ci := 4) (v := .int (nI (min (cnt (okN th me gr lk P sz co sg) i) k))) (fun w h => tb_O (inX4 w h)) hK hM ctM_o rfl 10 (by decide) (tb_O lkX4_71) rfl dX4_plain_136 ?_
                refine lv_iload_n hx hb dX4_plain_139 rfl (lv_at hl 3 rfl) ?_
                refine m_iast F hK hM hS 0 rfl (j := (min (cnt (okN th me gr lk P sz co sg) i) k)) (x := (nI (i + 1))) ctM_awd (by omega) (by decide) dX4_plain_140 (fun H locs hM hS => ?_)
                have hM : mw D vwCl lo ad (ctM aC ad n th sz sg me gr lk P co tb (min (cnt (okN th me gr lk P sz co sg) i) k) (un ((plW (okN th me gr lk P sz co sg) (fun a => sOm th me (owM P co sz sg) a n) k wd sm i).1) (min (cnt (okN th me gr lk P sz co sg) i) k) (i + 1)) ((plW (okN th me gr lk P sz co sg) (fun a => sOm th me (owM P co sz sg) a n) k wd sm i).2) rc X) H := by rw [upd_nI, ctM_wd] at hM; exact hM
                refine lv_aload_n hx hb dX4_plain_141 rfl (lv_at hl 0 rfl) ?_
                refine m_get F (ci := 4) (v := .ref (ad 1009)) (fun w h => tb_O (inX4 w h)) hK hM ctM_o rfl 12 (by decide) (tb_O lkX4_39) rfl dX4_plain_142 ?_
                refine lv_aload_n hx hb dX4_plain_145 rfl (lv_at hl 0 rfl) ?_
                refine m_get F (ci := 4) (v := .int (nI (min (cnt (okN th me gr lk P sz co sg) i) k))) (fun w h => tb_O (inX4 w h)) hK hM ctM_o rfl 10 (by decide) (tb_O lkX4_71) rfl dX4_plain_146 ?_
                refine lv_aload_n hx hb dX4_plain_149 rfl (lv_at hl 0 rfl) ?_
                refine lv_iload_n hx hb dX4_plain_150 rfl (lv_at hl 3 rfl) ?_
                refine m_ret1 (va_runV (As := [.int (nI (i + 1))]) (rest := [.int (nI (min (cnt (okN th me gr lk P sz co sg) i) k)), .ref (ad 1009)]) F (c_mSumOf l (i + 1) (by omega) h200 hme hP hsz hco hsg) (cwV 1 F.2.2.2.2 (go_V (fun _ h => tb_O h) mlX4_77 imX4_sumOf seX4_sumOf iniX4 cdX4_sumOf) rfl rfl rfl (by decide +kernel) ⟨Nat.le_of_ble_eq_true rfl, Nat.le_of_ble_eq_true rfl⟩) (mPreV hKK hM (Nat.le_trans hlo hS.1) ctM_o rfl) rfl rfl hl.1 rfl (lv_room (Nat.le_of_ble_eq_true rfl)) dX4_plain_151 ⟨Nat.le_of_ble_eq_true rfl, Nat.le_of_ble_eq_true rfl⟩) hS (fun v9 ad1 ct1 H locs hp9 hM hS => ?_)
                obtain ⟨rfl, h9, tbs1, rfl⟩ := hp9
                replace h9 := h9.symm
                subst h9
                refine m_iast F hK hM hS 0 rfl (j := (min (cnt (okN th me gr lk P sz co sg) i) k)) (x := (nI (sOm th me (owM P co sz sg) (i + 1) n))) ctM_asm (by omega) (by decide) dX4_plain_154 (fun H locs hM hS => ?_)
                have hM : mw D vwCl lo ad (ctM aC ad n th sz sg me gr lk P co tbs1 (min (cnt (okN th me gr lk P sz co sg) i) k) (un ((plW (okN th me gr lk P sz co sg) (fun a => sOm th me (owM P co sz sg) a n) k wd sm i).1) (min (cnt (okN th me gr lk P sz co sg) i) k) (i + 1)) (un ((plW (okN th me gr lk P sz co sg) (fun a => sOm th me (owM P co sz sg) a n) k wd sm i).2) (min (cnt (okN th me gr lk P sz co sg) i) k) (sOm th me (owM P co sz sg) (i + 1) n)) rc X) H := by rw [upd_nI, ctM_sm] at hM; exact hM
                refine lv_aload_n hx hb dX4_plain_155 rfl (lv_at hl 0 rfl) ?_
                refine lv_dup hx hb dX4_plain_156 rfl ?_
                refine m_get F (ci := 4) (v := .int (nI (min (cnt (okN th me gr lk P sz co sg) i) k))) (fun w h => tb_O (inX4 w h)) hK hM ctM_o rfl 10 (by decide) (tb_O lkX4_71) rfl dX4_plain_157 ?_
                refine lv_iconst (v := (nI 1)) hx hb dX4_plain_160 (by decide) ?_
                refine lv_iadd hx hb dX4_plain_161 ?_
                refine m_top (nI_add (min (cnt (okN th me gr lk P sz co sg) i) k) 1) ?_
                refine m_put F (ci := 4) (v := .int (nI (min (cnt (okN th me gr lk P sz co sg) i) k + 1))) (fun w h => tb_O (inX4 w h)) mc_X4 hK hM hS ctM_o 10 (by decide) (tb_O lkX4_71) rfl rfl rfl (Nat.le_of_ble_eq_true rfl) dX4_plain_162 (fun H locs hM hS => ?_)
                have hM : mw D vwCl lo ad (va_up (ctM aC ad n th sz sg me gr lk P co tbs1 (min (cnt (okN th me gr lk P sz co sg) i) k) (un ((plW (okN th me gr lk P sz co sg) (fun a => sOm th me (owM P co sz sg) a n) k wd sm i).1) (min (cnt (okN th me gr lk P sz co sg) i) k) (i + 1)) (un ((plW (okN th me gr lk P sz co sg) (fun a => sOm th me (owM P co sz sg) a n) k wd sm i).2) (min (cnt (okN th me gr lk P sz co sg) i) k) (sOm th me (owM P co sz sg) (i + 1) n)) rc X) 1000 (some (.inr (4, [.int (nI n), .ref (ad 1001), .ref (ad 1002), .ref (ad 1003), .ref (ad 1004), .ref (ad 1005), .int lk, .int (nI P), .ref (ad 1006), .ref (ad 1007), .int (nI (min (cnt (okN th me gr lk P sz co sg) i) k + 1)), .ref (ad 1008), .ref (ad 1009), .ref (ad 1010)])))) H := hM
                have hM : mw D vwCl lo ad (ctM aC ad n th sz sg me gr lk P co tbs1 (min (cnt (okN th me gr lk P sz co sg) i) k + 1) (un ((plW (okN th me gr lk P sz co sg) (fun a => sOm th me (owM P co sz sg) a n) k wd sm i).1) (min (cnt (okN th me gr lk P sz co sg) i) k) (i + 1)) (un ((plW (okN th me gr lk P sz co sg) (fun a => sOm th me (owM P co sz sg) a n) k wd sm i).2) (min (cnt (okN th me gr lk P sz co sg) i) k) (sOm th me (owM P co sz sg) (i + 1) n)) rc X) H := by rw [ctM_fd] at hM; exact hM
                refine lv_iload hx hb dX4_plain_165 (lv_at hl 4 rfl) ?_
                refine lv_if_eq (tgt := 176) hx hb dX4_plain_167 (by decide) (fun c_167 => ?_) (fun c_167 => ?_)
                · skip
                  exact absurd c_167 c_120
                · skip
                  refine lv_iload_n hx hb dX4_plain_170 rfl (lv_at hl 2 rfl) ?_
                  refine lv_iconst (v := (nI 1)) hx hb dX4_plain_171 (by decide) ?_
                  refine lv_iadd hx hb dX4_plain_172 ?_
                  refine m_top (nI_add (cnt (okN th me gr lk P sz co sg) i) 1) ?_
                  refine lv_goto (tgt := 177) hx hb dX4_plain_173 (by decide) ?_
                  refine lv_istore_n (lv' := [(2, .int (nI (cnt (okN th me gr lk P sz co sg) i + 1))), (0, .ref (ad 1000)), (1, .int (nI k)), (3, .int (nI (i + 1))), (4, .int (bI (okN th me gr lk P sz co sg (i + 1)))), (5, .int (nI s))]) hx hb dX4_plain_177 rfl hl (by decide) rfl (fun ls hl => ?_)
                  refine lv_iinc (v := (nI (i + 1 + 1))) (lv' := [(3, .int (nI (i + 1 + 1))), (2, .int (nI (cnt (okN th me gr lk P sz co sg) i + 1))), (0, .ref (ad 1000)), (1, .int (nI k)), (4, .int (bI (okN th me gr lk P sz co sg (i + 1)))), (5, .int (nI s))]) hx hb dX4_plain_178 hl (k := 3) rfl (nI_1 (i + 1)) (by decide) rfl (fun ls hl => ?_)
                  refine lv_goto (tgt := 23) hx hb dX4_plain_181 (by decide) ?_
                  have hcn : cnt (okN th me gr lk P sz co sg) (i + 1) = cnt (okN th me gr lk P sz co sg) i + 1 := cnt_y (bI_ne c_120)
                  have hpl : (plW (okN th me gr lk P sz co sg) (fun a => sOm th me (owM P co sz sg) a n) k wd sm (i + 1)) = (un ((plW (okN th me gr lk P sz co sg) (fun a => sOm th me (owM P co sz sg) a n) k wd sm i).1) (min (cnt (okN th me gr lk P sz co sg) i) k) (i + 1), un ((plW (okN th me gr lk P sz co sg) (fun a => sOm th me (owM P co sz sg) a n) k wd sm i).2) (min (cnt (okN th me gr lk P sz co sg) i) k) (sOm th me (owM P co sz sg) (i + 1) n)) := by rw [plW_y (bI_ne c_120) (by omega), show min (cnt (okN th me gr lk P sz co sg) i) k = cnt (okN th me gr lk P sz co sg) i by omega]
                  have hfd : min (cnt (okN th me gr lk P sz co sg) (i + 1)) k = min (cnt (okN th me gr lk P sz co sg) i) k + 1 := by omega
                  rw [← hcn] at hl
                  exact ih_23 (i + 1) tbs1 (by omega) (by omega) _ _ _ (by rw [hfd, hpl]; exact hM) hS (lv_sub hl [2, 3, 1, 0] rfl)
          · skip
            refine lv_iload hx hb dX4_plain_73 (lv_at hl 4 rfl) ?_
            refine lv_if_eq (tgt := 118) hx hb dX4_plain_75 (by decide) (fun c_75 => ?_) (fun c_75 => ?_)
            · skip
              have hq9 : okN th me gr lk P sz co sg (i + 1) = (plB th me gr lk P sz (i + 1) && splM co sg (i + 1) s) := by
                rw [bI_eq c_75]
                show (plB th me gr lk P sz (i + 1) && splM co sg (i + 1) (sz (i + 1))) = false
                cases hb9 : plB th me gr lk P sz (i + 1) with
                | false => rfl
                | true =>
                  have h8 := bI_eq c_75
                  rw [hb9] at h8
                  rw [splM_no (show splM co sg (i + 1) s = false from h8) hs]; rfl
              have hl : lv_has ls 6 [(0, .ref (ad 1000)), (1, .int (nI k)), (2, .int (nI (cnt (okN th me gr lk P sz co sg) i))), (3, .int (nI (i + 1))), (4, .int (bI (okN th me gr lk P sz co sg (i + 1)))), (5, .int (nI s))] := by rw [hq9]; exact hl
              refine lv_iload hx hb dX4_plain_118 (lv_at hl 4 rfl) ?_
              refine lv_if_eq (tgt := 165) hx hb dX4_plain_120 (by decide) (fun c_120 => ?_) (fun c_120 => ?_)
              · skip
                refine lv_iload hx hb dX4_plain_165 (lv_at hl 4 rfl) ?_
                refine lv_if_eq (tgt := 176) hx hb dX4_plain_167 (by decide) (fun c_167 => ?_) (fun c_167 => ?_)
                · skip
                  refine lv_iload_n hx hb dX4_plain_176 rfl (lv_at hl 2 rfl) ?_
                  refine lv_istore_n (lv' := [(2, .int (nI (cnt (okN th me gr lk P sz co sg) i))), (0, .ref (ad 1000)), (1, .int (nI k)), (3, .int (nI (i + 1))), (4, .int (bI (okN th me gr lk P sz co sg (i + 1)))), (5, .int (nI s))]) hx hb dX4_plain_177 rfl hl (by decide) rfl (fun ls hl => ?_)
                  refine lv_iinc (v := (nI (i + 1 + 1))) (lv' := [(3, .int (nI (i + 1 + 1))), (2, .int (nI (cnt (okN th me gr lk P sz co sg) i))), (0, .ref (ad 1000)), (1, .int (nI k)), (4, .int (bI (okN th me gr lk P sz co sg (i + 1)))), (5, .int (nI s))]) hx hb dX4_plain_178 hl (k := 3) rfl (nI_1 (i + 1)) (by decide) rfl (fun ls hl => ?_)
                  refine lv_goto (tgt := 23) hx hb dX4_plain_181 (by decide) ?_
                  have hcn : cnt (okN th me gr lk P sz co sg) (i + 1) = cnt (okN th me gr lk P sz co sg) i := cnt_n (bI_eq c_120)
                  have hpl : (plW (okN th me gr lk P sz co sg) (fun a => sOm th me (owM P co sz sg) a n) k wd sm (i + 1)) = (plW (okN th me gr lk P sz co sg) (fun a => sOm th me (owM P co sz sg) a n) k wd sm i) := plW_n (by first | exact Or.inl (bI_eq c_120) | exact Or.inr (by omega))
                  have hfd : min (cnt (okN th me gr lk P sz co sg) (i + 1)) k = min (cnt (okN th me gr lk P sz co sg) i) k := by omega
                  rw [← hcn] at hl
                  exact ih_23 (i + 1) tb (by omega) (by omega) _ _ _ (by rw [hfd, hpl]; exact hM) hS (lv_sub hl [2, 3, 1, 0] rfl)
                · skip
                  exact absurd c_120 c_167
              · skip
                refine lv_aload_n hx hb dX4_plain_123 rfl (lv_at hl 0 rfl) ?_
                refine m_get F (ci := 4) (v := .int (nI (min (cnt (okN th me gr lk P sz co sg) i) k))) (fun w h => tb_O (inX4 w h)) hK hM ctM_o rfl 10 (by decide) (tb_O lkX4_71) rfl dX4_plain_124 ?_
                refine lv_iload_n hx hb dX4_plain_127 rfl (lv_at hl 1 rfl) ?_
                refine m_icmp_ge F (a := (min (cnt (okN th me gr lk P sz co sg) i) k)) (b := k) (by omega) (by omega) (tgt := 165) dX4_plain_128 (by decide) (fun c_128 => ?_) (fun c_128 => ?_)
                · skip
                  refine lv_iload hx hb dX4_plain_165 (lv_at hl 4 rfl) ?_
                  refine lv_if_eq (tgt := 176) hx hb dX4_plain_167 (by decide) (fun c_167 => ?_) (fun c_167 => ?_)
                  · skip
                    exact absurd c_167 c_120
                  · skip
                    refine lv_iload_n hx hb dX4_plain_170 rfl (lv_at hl 2 rfl) ?_
                    refine lv_iconst (v := (nI 1)) hx hb dX4_plain_171 (by decide) ?_
                    refine lv_iadd hx hb dX4_plain_172 ?_
                    refine m_top (nI_add (cnt (okN th me gr lk P sz co sg) i) 1) ?_
                    refine lv_goto (tgt := 177) hx hb dX4_plain_173 (by decide) ?_
                    refine lv_istore_n (lv' := [(2, .int (nI (cnt (okN th me gr lk P sz co sg) i + 1))), (0, .ref (ad 1000)), (1, .int (nI k)), (3, .int (nI (i + 1))), (4, .int (bI (okN th me gr lk P sz co sg (i + 1)))), (5, .int (nI s))]) hx hb dX4_plain_177 rfl hl (by decide) rfl (fun ls hl => ?_)
                    refine lv_iinc (v := (nI (i + 1 + 1))) (lv' := [(3, .int (nI (i + 1 + 1))), (2, .int (nI (cnt (okN th me gr lk P sz co sg) i + 1))), (0, .ref (ad 1000)), (1, .int (nI k)), (4, .int (bI (okN th me gr lk P sz co sg (i + 1)))), (5, .int (nI s))]) hx hb dX4_plain_178 hl (k := 3) rfl (nI_1 (i + 1)) (by decide) rfl (fun ls hl => ?_)
                    refine lv_goto (tgt := 23) hx hb dX4_plain_181 (by decide) ?_
                    have hcn : cnt (okN th me gr lk P sz co sg) (i + 1) = cnt (okN th me gr lk P sz co sg) i + 1 := cnt_y (bI_ne c_120)
                    have hpl : (plW (okN th me gr lk P sz co sg) (fun a => sOm th me (owM P co sz sg) a n) k wd sm (i + 1)) = (plW (okN th me gr lk P sz co sg) (fun a => sOm th me (owM P co sz sg) a n) k wd sm i) := plW_n (by first | exact Or.inl (bI_eq c_120) | exact Or.inr (by omega))
                    have hfd : min (cnt (okN th me gr lk P sz co sg) (i + 1)) k = min (cnt (okN th me gr lk P sz co sg) i) k := by omega
                    rw [← hcn] at hl
                    exact ih_23 (i + 1) tb (by omega) (by omega) _ _ _ (by rw [hfd, hpl]; exact hM) hS (lv_sub hl [2, 3, 1, 0] rfl)
                · skip
                  refine lv_aload_n hx hb dX4_plain_131 rfl (lv_at hl 0 rfl) ?_
                  refine m_get F (ci := 4) (v := .ref (ad 1008)) (fun w h => tb_O (inX4 w h)) hK hM ctM_o rfl 11 (by decide) (tb_O lkX4_36) rfl dX4_plain_132 ?_
                  refine lv_aload_n hx hb dX4_plain_135 rfl (lv_at hl 0 rfl) ?_
                  refine m_get F (ci := 4) (v := .int (nI (min (cnt (okN th me gr lk P sz co sg) i) k))) (fun w h => tb_O (inX4 w h)) hK hM ctM_o rfl 10 (by decide) (tb_O lkX4_71) rfl dX4_plain_136 ?_
                  refine lv_iload_n hx hb dX4_plain_139 rfl (lv_at hl 3 rfl) ?_
                  refine m_iast F hK hM hS 0 rfl (j := (min (cnt (okN th me gr lk P sz co sg) i) k)) (x := (nI (i + 1))) ctM_awd (by omega) (by decide) dX4_plain_140 (fun H locs hM hS => ?_)
                  have hM : mw D vwCl lo ad (ctM aC ad n th sz sg me gr lk P co tb (min (cnt (okN th me gr lk P sz co sg) i) k) (un ((plW (okN th me gr lk P sz co sg) (fun a => sOm th me (owM P co sz sg) a n) k wd sm i).1) (min (cnt (okN th me gr lk P sz co sg) i) k) (i + 1)) ((plW (okN th me gr lk P sz co sg) (fun a => sOm th me (owM P co sz sg) a n) k wd sm i).2) rc X) H := by rw [upd_nI, ctM_wd] at hM; exact hM
                  refine lv_aload_n hx hb dX4_plain_141 rfl (lv_at hl 0 rfl) ?_
                  refine m_get F (ci := 4) (v := .ref (ad 1009)) (fun w h => tb_O (inX4 w h)) hK hM ctM_o rfl 12 (by decide) (tb_O lkX4_39) rfl dX4_plain_142 ?_
                  refine lv_aload_n hx hb dX4_plain_145 rfl (lv_at hl 0 rfl) ?_
                  refine m_get F (ci := 4) (v := .int (nI (min (cnt (okN th me gr lk P sz co sg) i) k))) (fun w h => tb_O (inX4 w h)) hK hM ctM_o rfl 10 (by decide) (tb_O lkX4_71) rfl dX4_plain_146 ?_
                  refine lv_aload_n hx hb dX4_plain_149 rfl (lv_at hl 0 rfl) ?_
                  refine lv_iload_n hx hb dX4_plain_150 rfl (lv_at hl 3 rfl) ?_
                  refine m_ret1 (va_runV (As := [.int (nI (i + 1))]) (rest := [.int (nI (min (cnt (okN th me gr lk P sz co sg) i) k)), .ref (ad 1009)]) F (c_mSumOf l (i + 1) (by omega) h200 hme hP hsz hco hsg) (cwV 1 F.2.2.2.2 (go_V (fun _ h => tb_O h) mlX4_77 imX4_sumOf seX4_sumOf iniX4 cdX4_sumOf) rfl rfl rfl (by decide +kernel) ⟨Nat.le_of_ble_eq_true rfl, Nat.le_of_ble_eq_true rfl⟩) (mPreV hKK hM (Nat.le_trans hlo hS.1) ctM_o rfl) rfl rfl hl.1 rfl (lv_room (Nat.le_of_ble_eq_true rfl)) dX4_plain_151 ⟨Nat.le_of_ble_eq_true rfl, Nat.le_of_ble_eq_true rfl⟩) hS (fun v9 ad1 ct1 H locs hp9 hM hS => ?_)
                  obtain ⟨rfl, h9, tbs2, rfl⟩ := hp9
                  replace h9 := h9.symm
                  subst h9
                  refine m_iast F hK hM hS 0 rfl (j := (min (cnt (okN th me gr lk P sz co sg) i) k)) (x := (nI (sOm th me (owM P co sz sg) (i + 1) n))) ctM_asm (by omega) (by decide) dX4_plain_154 (fun H locs hM hS => ?_)
                  have hM : mw D vwCl lo ad (ctM aC ad n th sz sg me gr lk P co tbs2 (min (cnt (okN th me gr lk P sz co sg) i) k) (un ((plW (okN th me gr lk P sz co sg) (fun a => sOm th me (owM P co sz sg) a n) k wd sm i).1) (min (cnt (okN th me gr lk P sz co sg) i) k) (i + 1)) (un ((plW (okN th me gr lk P sz co sg) (fun a => sOm th me (owM P co sz sg) a n) k wd sm i).2) (min (cnt (okN th me gr lk P sz co sg) i) k) (sOm th me (owM P co sz sg) (i + 1) n)) rc X) H := by rw [upd_nI, ctM_sm] at hM; exact hM
                  refine lv_aload_n hx hb dX4_plain_155 rfl (lv_at hl 0 rfl) ?_
                  refine lv_dup hx hb dX4_plain_156 rfl ?_
                  refine m_get F (ci := 4) (v := .int (nI (min (cnt (okN th me gr lk P sz co sg) i) k))) (fun w h => tb_O (inX4 w h)) hK hM ctM_o rfl 10 (by decide) (tb_O lkX4_71) rfl dX4_plain_157 ?_
                  refine lv_iconst (v := (nI 1)) hx hb dX4_plain_160 (by decide) ?_
                  refine lv_iadd hx hb dX4_plain_161 ?_
                  refine m_top (nI_add (min (cnt (okN th me gr lk P sz co sg) i) k) 1) ?_
                  refine m_put F (ci := 4) (v := .int (nI (min (cnt (okN th me gr lk P sz co sg) i) k + 1))) (fun w h => tb_O (inX4 w h)) mc_X4 hK hM hS ctM_o 10 (by decide) (tb_O lkX4_71) rfl rfl rfl (Nat.le_of_ble_eq_true rfl) dX4_plain_162 (fun H locs hM hS => ?_)
                  have hM : mw D vwCl lo ad (va_up (ctM aC ad n th sz sg me gr lk P co tbs2 (min (cnt (okN th me gr lk P sz co sg) i) k) (un ((plW (okN th me gr lk P sz co sg) (fun a => sOm th me (owM P co sz sg) a n) k wd sm i).1) (min (cnt (okN th me gr lk P sz co sg) i) k) (i + 1)) (un ((plW (okN th me gr lk P sz co sg) (fun a => sOm th me (owM P co sz sg) a n) k wd sm i).2) (min (cnt (okN th me gr lk P sz co sg) i) k) (sOm th me (owM P co sz sg) (i + 1) n)) rc X) 1000 (some (.inr (4, [.int (nI n), .ref (ad 1001), .ref (ad 1002), .ref (ad 1003), .ref (ad 1004), .ref (ad 1005), .int lk, .int (nI P), .ref (ad 1006), .ref (ad 1007), .int (nI (min (cnt (okN th me gr lk P sz co sg) i) k + 1)), .ref (ad 1008), .ref (ad 1009), .ref (ad 1010)])))) H := hM
                  have hM : mw D vwCl lo ad (ctM aC ad n th sz sg me gr lk P co tbs2 (min (cnt (okN th me gr lk P sz co sg) i) k + 1) (un ((plW (okN th me gr lk P sz co sg) (fun a => sOm th me (owM P co sz sg) a n) k wd sm i).1) (min (cnt (okN th me gr lk P sz co sg) i) k) (i + 1)) (un ((plW (okN th me gr lk P sz co sg) (fun a => sOm th me (owM P co sz sg) a n) k wd sm i).2) (min (cnt (okN th me gr lk P sz co sg) i) k) (sOm th me (owM P co sz sg) (i + 1) n)) rc X) H := by rw [ctM_fd] at hM; exact hM
                  refine lv_iload hx hb dX4_plain_165 (lv_at hl 4 rfl) ?_
                  refine lv_if_eq (tgt := 176) hx hb dX4_plain_167 (by decide) (fun c_167 => ?_) (fun c_167 => ?_)
                  · skip
                    exact absurd c_167 c_120
                  · skip
                    refine lv_iload_n hx hb dX4_plain_170 rfl (lv_at hl 2 rfl) ?_
                    refine lv_iconst (v := (nI 1)) hx hb dX4_plain_171 (by decide) ?_
                    refine lv_iadd hx hb dX4_plain_172 ?_
                    refine m_top (nI_add (cnt (okN th me gr lk P sz co sg) i) 1) ?_
                    refine lv_goto (tgt := 177) hx hb dX4_plain_173 (by decide) ?_
                    refine lv_istore_n (lv' := [(2, .int (nI (cnt (okN th me gr lk P sz co sg) i + 1))), (0, .ref (ad 1000)), (1, .int (nI k)), (3, .int (nI (i + 1))), (4, .int (bI (okN th me gr lk P sz co sg (i + 1)))), (5, .int (nI s))]) hx hb dX4_plain_177 rfl hl (by decide) rfl (fun ls hl => ?_)
                    refine lv_iinc (v := (nI (i + 1 + 1))) (lv' := [(3, .int (nI (i + 1 + 1))), (2, .int (nI (cnt (okN th me gr lk P sz co sg) i + 1))), (0, .ref (ad 1000)), (1, .int (nI k)), (4, .int (bI (okN th me gr lk P sz co sg (i + 1)))), (5, .int (nI s))]) hx hb dX4_plain_178 hl (k := 3) rfl (nI_1 (i + 1)) (by decide) rfl (fun ls hl => ?_)
                    refine lv_goto (tgt := 23) hx hb dX4_plain_181 (by decide) ?_
                    have hcn : cnt (okN th me gr lk P sz co sg) (i + 1) = cnt (okN th me gr lk P sz co sg) i + 1 := cnt_y (bI_ne c_120)
                    have hpl : (plW (okN th me gr lk P sz co sg) (fun a => sOm th me (owM P co sz sg) a n) k wd sm (i + 1)) = (un ((plW (okN th me gr lk P sz co sg) (fun a => sOm th me (owM P co sz sg) a n) k wd sm i).1) (min (cnt (okN th me gr lk P sz co sg) i) k) (i + 1), un ((plW (okN th me gr lk P sz co sg) (fun a => sOm th me (owM P co sz sg) a n) k wd sm i).2) (min (cnt (okN th me gr lk P sz co sg) i) k) (sOm th me (owM P co sz sg) (i + 1) n)) := by rw [plW_y (bI_ne c_120) (by omega), show min (cnt (okN th me gr lk P sz co sg) i) k = cnt (okN th me gr lk P sz co sg) i by omega]
                    have hfd : min (cnt (okN th me gr lk P sz co sg) (i + 1)) k = min (cnt (okN th me gr lk P sz co sg) i) k + 1 := by omega
                    rw [← hcn] at hl
                    exact ih_23 (i + 1) tbs2 (by omega) (by omega) _ _ _ (by rw [hfd, hpl]; exact hM) hS (lv_sub hl [2, 3, 1, 0] rfl)
            · skip
              refine lv_aload_n hx hb dX4_plain_78 rfl (lv_at hl 0 rfl) ?_
              refine m_get F (ci := 4) (v := .ref (ad 1006)) (fun w h => tb_O (inX4 w h)) hK hM ctM_o rfl 8 (by decide) (tb_O lkX4_30) rfl dX4_plain_79 ?_
              refine lv_sipush (v := (nI 128)) hx hb dX4_plain_82 (by decide) ?_
              refine lv_iload hx hb dX4_plain_85 (lv_at hl 5 rfl) ?_
              refine lv_imul hx hb dX4_plain_87 ?_
              refine m_top (pk_mul 128 s) ?_
              refine lv_aload_n hx hb dX4_plain_88 rfl (lv_at hl 0 rfl) ?_
              refine m_get F (ci := 4) (v := .ref (ad 1003)) (fun w h => tb_O (inX4 w h)) hK hM ctM_o rfl 3 (by decide) (tb_O lkX4_17) rfl dX4_plain_89 ?_
              refine lv_bipush (v := (nI 20)) hx hb dX4_plain_92 (by decide) ?_
              refine lv_iload_n hx hb dX4_plain_94 rfl (lv_at hl 3 rfl) ?_
              refine lv_imul hx hb dX4_plain_95 ?_
              refine m_top (pk_mul 20 (i + 1)) ?_
              refine lv_iload hx hb dX4_plain_96 (lv_at hl 5 rfl) ?_
              refine lv_iadd hx hb dX4_plain_98 ?_
              refine m_top (nI_add (20 * (i + 1)) s) ?_
              have hsk := hsg (i + 1) s (by omega)
              refine m_iald F hK hM 0 rfl (j := (20 * (i + 1) + s)) ctM_asg (by omega) (by decide) dX4_plain_99 ?_
              refine m_top (y := (nI (sg (20 * (i + 1) + s)))) rfl ?_
              refine lv_iadd hx hb dX4_plain_100 ?_
              refine m_top (nI_add (128 * s) (sg (20 * (i + 1) + s))) ?_
              refine m_iald F hK hM 0 rfl (j := (128 * s + (sg (20 * (i + 1) + s)))) ctM_aco (by omega) (by decide) dX4_plain_101 ?_
              refine m_top (y := (cV (co (128 * s + (sg (20 * (i + 1) + s)))))) rfl ?_
              have hcx9 : ∀ c, co (128 * s + sg (20 * (i + 1) + s)) = some c → c < 2 ^ 31 := fun c hc9 => by have := hco _ _ hc9; omega
              refine lv_if_lt (tgt := 109) hx hb dX4_plain_102 (by decide) (fun c_102 => ?_) (fun c_102 => ?_)
              · skip
                refine lv_iconst (v := (nI 0)) hx hb dX4_plain_109 (by decide) ?_
                refine lv_istore (lv' := [(4, .int (nI 0)), (0, .ref (ad 1000)), (1, .int (nI k)), (2, .int (nI (cnt (okN th me gr lk P sz co sg) i))), (3, .int (nI (i + 1))), (5, .int (nI s))]) hx hb dX4_plain_110 hl (by decide) rfl (fun ls hl => ?_)
                refine lv_iinc (v := (nI (s + 1))) (lv' := [(5, .int (nI (s + 1))), (4, .int (nI 0)), (0, .ref (ad 1000)), (1, .int (nI k)), (2, .int (nI (cnt (okN th me gr lk P sz co sg) i))), (3, .int (nI (i + 1)))]) hx hb dX4_plain_112 hl (k := 5) rfl (nI_1 s) (by decide) rfl (fun ls hl => ?_)
                refine lv_goto (tgt := 62) hx hb dX4_plain_115 (by decide) ?_
                have hq9 : (plB th me gr lk P sz (i + 1) && splM co sg (i + 1) (s + 1)) = false := by show (plB th me gr lk P sz (i + 1) && (splM co sg (i + 1) s && (co (128 * s + sg (20 * (i + 1) + s))).isSome)) = false; rw [(cV_neg hcx9).mp c_102]; simp
                have hl : lv_has ls 6 [(5, .int (nI (s + 1))), (4, .int (bI (plB th me gr lk P sz (i + 1) && splM co sg (i + 1) (s + 1)))), (0, .ref (ad 1000)), (1, .int (nI k)), (2, .int (nI (cnt (okN th me gr lk P sz co sg) i))), (3, .int (nI (i + 1)))] := by rw [hq9]; exact hl
                exact ih_62 (s + 1) (by omega) hin (by omega) _ _ _ hM hS (lv_sub hl [2, 3, 4, 5, 1, 0] rfl)
              · skip
                refine lv_iconst (v := (nI 1)) hx hb dX4_plain_105 (by decide) ?_
                refine lv_goto (tgt := 110) hx hb dX4_plain_106 (by decide) ?_
                refine lv_istore (lv' := [(4, .int (nI 1)), (0, .ref (ad 1000)), (1, .int (nI k)), (2, .int (nI (cnt (okN th me gr lk P sz co sg) i))), (3, .int (nI (i + 1))), (5, .int (nI s))]) hx hb dX4_plain_110 hl (by decide) rfl (fun ls hl => ?_)
                refine lv_iinc (v := (nI (s + 1))) (lv' := [(5, .int (nI (s + 1))), (4, .int (nI 1)), (0, .ref (ad 1000)), (1, .int (nI k)), (2, .int (nI (cnt (okN th me gr lk P sz co sg) i))), (3, .int (nI (i + 1)))]) hx hb dX4_plain_112 hl (k := 5) rfl (nI_1 s) (by decide) rfl (fun ls hl => ?_)
                refine lv_goto (tgt := 62) hx hb dX4_plain_115 (by decide) ?_
                have hq9 : (plB th me gr lk P sz (i + 1) && splM co sg (i + 1) (s + 1)) = true := by show (plB th me gr lk P sz (i + 1) && (splM co sg (i + 1) s && (co (128 * s + sg (20 * (i + 1) + s))).isSome)) = true; rw [Option.isSome_iff_ne_none.mpr (fun q => c_102 ((cV_neg hcx9).mpr q)), Bool.and_true]; exact bI_ne c_75
                have hl : lv_has ls 6 [(5, .int (nI (s + 1))), (4, .int (bI (plB th me gr lk P sz (i + 1) && splM co sg (i + 1) (s + 1)))), (0, .ref (ad 1000)), (1, .int (nI k)), (2, .int (nI (cnt (okN th me gr lk P sz co sg) i))), (3, .int (nI (i + 1)))] := by rw [hq9]; exact hl
                exact ih_62 (s + 1) (by omega) hin (by omega) _ _ _ hM hS (lv_sub hl [2, 3, 4, 5, 1, 0] rfl)
      refine lv_iload_n hx hb dX4_plain_23 rfl (lv_at hl 3 rfl) ?_
      refine lv_aload_n hx hb dX4_plain_24 rfl (lv_at hl 0 rfl) ?_
      refine m_get F (ci := 4) (v := .int (nI n)) (fun w h => tb_O (inX4 w h)) hK hM ctM_o rfl 0 (by decide) (tb_O lkX4_51) rfl dX4_plain_25 ?_
      refine m_icmp_gt F (a := (i + 1)) (b := n) (by omega) (by omega) (tgt := 184) dX4_plain_28 (by decide) (fun c_28 => ?_) (fun c_28 => ?_)
      · skip
        have hin9 : n = i := by omega
        subst hin9
        refine lv_iload_n hx hb dX4_plain_184 rfl (lv_at hl 2 rfl) ?_
        exact W.iret hx hb hr (fun t ht hW => ⟨⟨_, _, _, rfl, ⟨rfl, rfl, _, rfl⟩, by rw [ht]; exact hM⟩, hS.F ht⟩) hS.2.2 dX4_plain_185
      · skip
        refine lv_aload_n hx hb dX4_plain_31 rfl (lv_at hl 0 rfl) ?_
        refine lv_iload_n hx hb dX4_plain_32 rfl (lv_at hl 3 rfl) ?_
        refine m_d1 (v := .int (bI (mfM th me gr lk (i + 1)))) (ct1 := ctM aC ad n th sz sg me gr lk P co tb (min (cnt (okN th me gr lk P sz co sg) i) k) ((plW (okN th me gr lk P sz co sg) (fun a => sOm th me (owM P co sz sg) a n) k wd sm i).1) ((plW (okN th me gr lk P sz co sg) (fun a => sOm th me (owM P co sz sg) a n) k wd sm i).2) rc X) (va_runV (As := [.int (nI (i + 1))]) (rest := []) F (c_mMbf l (i + 1) (by omega) (by omega) h200 hme) (cwV 1 F.2.2.2.2 (go_V (fun _ h => tb_O h) mlX4_74 imX4_mayBeFound seX4_mayBeFound iniX4 cdX4_mayBeFound) rfl rfl rfl (by decide +kernel) ⟨Nat.le_of_ble_eq_true rfl, Nat.le_of_ble_eq_true rfl⟩) (mPreV hKK hM (Nat.le_trans hlo hS.1) ctM_o rfl) rfl rfl hl.1 rfl (lv_room (Nat.le_of_ble_eq_true rfl)) dX4_plain_33 ⟨Nat.le_of_ble_eq_true rfl, Nat.le_of_ble_eq_true rfl⟩) hS (fun H locs hM hS => ?_)
        refine lv_if_eq (tgt := 56) hx hb dX4_plain_36 (by decide) (fun c_36 => ?_) (fun c_36 => ?_)
        · skip
          refine lv_iconst (v := (nI 0)) hx hb dX4_plain_56 (by decide) ?_
          refine lv_istore (lv' := [(4, .int (nI 0)), (0, .ref (ad 1000)), (1, .int (nI k)), (2, .int (nI (cnt (okN th me gr lk P sz co sg) i))), (3, .int (nI (i + 1)))]) hx hb dX4_plain_57 hl (by decide) rfl (fun ls hl => ?_)
          refine lv_iconst (v := (nI 0)) hx hb dX4_plain_59 (by decide) ?_
          refine lv_istore (lv' := [(5, .int (nI 0)), (4, .int (nI 0)), (0, .ref (ad 1000)), (1, .int (nI k)), (2, .int (nI (cnt (okN th me gr lk P sz co sg) i))), (3, .int (nI (i + 1)))]) hx hb dX4_plain_60 hl (by decide) rfl (fun ls hl => ?_)
          have hq9 : (plB th me gr lk P sz (i + 1) && splM co sg (i + 1) 0) = false := by first | simp [plB, splM, bI_ne c_36, c_49] | simp [plB, splM, bI_eq c_36]
          have hl : lv_has ls 6 [(5, .int (nI 0)), (4, .int (bI (plB th me gr lk P sz (i + 1) && splM co sg (i + 1) 0))), (0, .ref (ad 1000)), (1, .int (nI k)), (2, .int (nI (cnt (okN th me gr lk P sz co sg) i))), (3, .int (nI (i + 1)))] := by rw [hq9]; exact hl
          exact loop_62 (sz (i + 1) + 1) 0 (Nat.zero_le _) (by omega) (by omega) _ _ _ hM hS (lv_sub hl [2, 3, 4, 5, 1, 0] rfl)
        · skip
          refine lv_aload_n hx hb dX4_plain_39 rfl (lv_at hl 0 rfl) ?_
          refine m_get F (ci := 4) (v := .ref (ad 1002)) (fun w h => tb_O (inX4 w h)) hK hM ctM_o rfl 2 (by decide) (tb_O lkX4_13) rfl dX4_plain_40 ?_
          refine lv_iload_n hx hb dX4_plain_43 rfl (lv_at hl 3 rfl) ?_
          refine m_iald F hK hM 0 rfl (j := (i + 1)) ctM_asz (by omega) (by decide) dX4_plain_44 ?_
          refine m_top (y := (nI (sz (i + 1)))) rfl ?_
          refine lv_aload_n hx hb dX4_plain_45 rfl (lv_at hl 0 rfl) ?_
          refine m_get F (ci := 4) (v := .int (nI P)) (fun w h => tb_O (inX4 w h)) hK hM ctM_o rfl 7 (by decide) (tb_O lkX4_48) rfl dX4_plain_46 ?_
          refine m_icmp_ne F (a := (sz (i + 1))) (b := P) (by omega) (by omega) (tgt := 56) dX4_plain_49 (by decide) (fun c_49 => ?_) (fun c_49 => ?_)
          · skip
            refine lv_iconst (v := (nI 0)) hx hb dX4_plain_56 (by decide) ?_
            refine lv_istore (lv' := [(4, .int (nI 0)), (0, .ref (ad 1000)), (1, .int (nI k)), (2, .int (nI (cnt (okN th me gr lk P sz co sg) i))), (3, .int (nI (i + 1)))]) hx hb dX4_plain_57 hl (by decide) rfl (fun ls hl => ?_)
            refine lv_iconst (v := (nI 0)) hx hb dX4_plain_59 (by decide) ?_
            refine lv_istore (lv' := [(5, .int (nI 0)), (4, .int (nI 0)), (0, .ref (ad 1000)), (1, .int (nI k)), (2, .int (nI (cnt (okN th me gr lk P sz co sg) i))), (3, .int (nI (i + 1)))]) hx hb dX4_plain_60 hl (by decide) rfl (fun ls hl => ?_)
            have hq9 : (plB th me gr lk P sz (i + 1) && splM co sg (i + 1) 0) = false := by first | simp [plB, splM, bI_ne c_36, c_49] | simp [plB, splM, bI_eq c_36]
            have hl : lv_has ls 6 [(5, .int (nI 0)), (4, .int (bI (plB th me gr lk P sz (i + 1) && splM co sg (i + 1) 0))), (0, .ref (ad 1000)), (1, .int (nI k)), (2, .int (nI (cnt (okN th me gr lk P sz co sg) i))), (3, .int (nI (i + 1)))] := by rw [hq9]; exact hl
            exact loop_62 (sz (i + 1) + 1) 0 (Nat.zero_le _) (by omega) (by omega) _ _ _ hM hS (lv_sub hl [2, 3, 4, 5, 1, 0] rfl)
          · skip
            refine lv_iconst (v := (nI 1)) hx hb dX4_plain_52 (by decide) ?_
            refine lv_goto (tgt := 57) hx hb dX4_plain_53 (by decide) ?_
            refine lv_istore (lv' := [(4, .int (nI 1)), (0, .ref (ad 1000)), (1, .int (nI k)), (2, .int (nI (cnt (okN th me gr lk P sz co sg) i))), (3, .int (nI (i + 1)))]) hx hb dX4_plain_57 hl (by decide) rfl (fun ls hl => ?_)
            refine lv_iconst (v := (nI 0)) hx hb dX4_plain_59 (by decide) ?_
            refine lv_istore (lv' := [(5, .int (nI 0)), (4, .int (nI 1)), (0, .ref (ad 1000)), (1, .int (nI k)), (2, .int (nI (cnt (okN th me gr lk P sz co sg) i))), (3, .int (nI (i + 1)))]) hx hb dX4_plain_60 hl (by decide) rfl (fun ls hl => ?_)
            have hq9 : (plB th me gr lk P sz (i + 1) && splM co sg (i + 1) 0) = true := by simp [plB, splM, bI_ne c_36, c_49]
            have hl : lv_has ls 6 [(5, .int (nI 0)), (4, .int (bI (plB th me gr lk P sz (i + 1) && splM co sg (i + 1) 0))), (0, .ref (ad 1000)), (1, .int (nI k)), (2, .int (nI (cnt (okN th me gr lk P sz co sg) i))), (3, .int (nI (i + 1)))] := by rw [hq9]; exact hl
            exact loop_62 (sz (i + 1) + 1) 0 (Nat.zero_le _) (by omega) (by omega) _ _ _ hM hS (lv_sub hl [2, 3, 4, 5, 1, 0] rfl)
  refine lv_iload_n hx hb dX4_plain_0 rfl (lv_at hl 1 rfl) ?_
  refine lv_iconst (v := (nI 1)) hx hb dX4_plain_1 (by decide) ?_
  refine lv_sipush (v := (nI 1000)) hx hb dX4_plain_2 (by decide) ?_
  refine m_d1 (v := .int (bI (btw (nI k) (nI 1) (nI 1000)))) (ct1 := ctM aC ad n th sz sg me gr lk P co tb fd wd sm rc X) (va_runS (As := [.int (nI k), .int (nI 1), .int (nI 1000)]) (rest := []) F (c_between l (nI k) (nI 1) (nI 1000)) (va_cwS 3 F.2.2.2.2 (go_S (fun _ h => tb_O h) mlX4_54 stX4_between iniX4 cdX4_between) rfl rfl rfl (by decide +kernel) ⟨Nat.le_of_ble_eq_true rfl, Nat.le_of_ble_eq_true rfl⟩) (mPreS hKK hM (Nat.le_trans hlo hS.1)) rfl rfl hl.1 rfl (lv_room (Nat.le_of_ble_eq_true rfl)) dX4_plain_5 ⟨Nat.le_of_ble_eq_true rfl, Nat.le_of_ble_eq_true rfl⟩) hS (fun H locs hM hS => ?_)
  refine lv_if_ne (tgt := 14) hx hb dX4_plain_8 (by decide) (fun c_8 => ?_) (fun c_8 => ?_)
  · skip
    refine lv_aload_n hx hb dX4_plain_14 rfl (lv_at hl 0 rfl) ?_
    refine lv_iconst (v := (nI 0)) hx hb dX4_plain_15 (by decide) ?_
    refine m_put F (ci := 4) (v := .int (nI 0)) (fun w h => tb_O (inX4 w h)) mc_X4 hK hM hS ctM_o 10 (by decide) (tb_O lkX4_71) rfl rfl rfl (Nat.le_of_ble_eq_true rfl) dX4_plain_16 (fun H locs hM hS => ?_)
    have hM : mw D vwCl lo ad (va_up (ctM aC ad n th sz sg me gr lk P co tb fd wd sm rc X) 1000 (some (.inr (4, [.int (nI n), .ref (ad 1001), .ref (ad 1002), .ref (ad 1003), .ref (ad 1004), .ref (ad 1005), .int lk, .int (nI P), .ref (ad 1006), .ref (ad 1007), .int (nI 0), .ref (ad 1008), .ref (ad 1009), .ref (ad 1010)])))) H := hM
    have hM : mw D vwCl lo ad (ctM aC ad n th sz sg me gr lk P co tb 0 wd sm rc X) H := by rw [ctM_fd] at hM; exact hM
    refine lv_iconst (v := (nI 0)) hx hb dX4_plain_19 (by decide) ?_
    refine lv_istore_n (lv' := [(2, .int (nI 0)), (0, .ref (ad 1000)), (1, .int (nI k))]) hx hb dX4_plain_20 rfl hl (by decide) rfl (fun ls hl => ?_)
    refine lv_iconst (v := (nI 1)) hx hb dX4_plain_21 (by decide) ?_
    refine lv_istore_n (lv' := [(3, .int (nI 1)), (2, .int (nI 0)), (0, .ref (ad 1000)), (1, .int (nI k))]) hx hb dX4_plain_22 rfl hl (by decide) rfl (fun ls hl => ?_)
    exact loop_23 (n + 1) 0 tb (Nat.zero_le _) (by omega) _ _ _ (by rw [show min (cnt (okN th me gr lk P sz co sg) 0) k = 0 from Nat.zero_min k]; exact hM) hS (lv_sub hl [2, 3, 1, 0] rfl)
  · skip
    exact absurd (by rw [btw_nI hk1 hk2 (by omega)]; decide) (fun h : ¬ bI (btw (nI k) (nI 1) (nI 1000)) = 0 => h c_8)
