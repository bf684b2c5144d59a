set_option maxHeartbeats 4000000 in
set_option maxRecDepth 100000 in
theorem c_Hinit (l : Launch) {D : va_G} {aC : Nat → ClassId} {lo : Nat} {ad : Nat → Nat} {ct : Nat → Option va_E} {o : Nat} (ho : o = ad 5) (hob : ct 5 = some (.inr (1, [.null, .null, .int 0]))) (h6 : ct 6 = none) (h7 : ct 7 = none) : Met l yX1_init (wsO yX1_init cX1_init 1 none) ({ frames := 1, cells := 2, slots := 400, locals := 12 } : Room) (mPc D vwCl (tyA aC) lo ad ct [.ref o]) (mQ0 D vwCl lo (fun ad1 ct1 => (∀ k, k ≠ 6 → k ≠ 7 → ad1 k = ad k) ∧ ct1 = va_up (va_up (va_up ct 6 (some (iA aC 200 (fun _ => 0)))) 7 (some (iA aC 200 (fun _ => 0)))) 5 (some (.inr (1, [.ref (ad1 6), .ref (ad1 7), .int 0]))))) 2 400 (fun q => lo ≤ q) := by
  refine Met.ofW (cc := cX1_init) (maxL := 1) (ret := none) (by decide) rfl ?_
  intro pr en s0 mm args below meth cc0 s₁ B hml hv
  obtain ⟨rfl, hlo, hM, hKK⟩ := hv
  have hK := hKK.1
  have hr := B.returns
  have hts := atoms_spec (ws := (wsO yX1_init cX1_init 1 none)) B.pre
  have F : CallFix pr mm cc0 cX1_init 1 s0 (([.ref o] : List Value).toArray) (wsO yX1_init cX1_init 1 none) RX1 := ⟨B.exec, B.bytes, hml, findClass_of_methodNamed B.named, hts⟩
  have hx := F.1
  have hb := F.2.1
  have hlocks := B.notSynchronized
  have hin : meth.name = "<init>" := (name_of_methodNamed B.named B.method).1
  have hS : va_S (fun q => lo ≤ q) s0.heap s0.heap [] := va_S.rf
  have hl := lv_entry ([.ref o]) (n := 1) (Nat.le_of_ble_eq_true rfl)
  rw [lg_entry_eq]
  generalize (lg_sl ([.ref o]) ++ List.replicate (1 - (lg_sl ([.ref o])).length) Slot.unset).toArray = ls at hl ⊢
  have hl : lv_has ls 1 [(0, .ref o)] := hl
  refine lv_aload_n hx hb dX1_init_0 rfl (lv_at hl 0 rfl) ?_
  refine W.objInit hx hb F.2.2.2.1 (F.2.2.2.2 _ (tb_O mlX1_3)) (F.2.2.2.2 _ (tb_O objI)) (F.2.2.2.2 _ (tb_O objC)) rfl (by rw [F.2.2.1]; exact hl.1) rfl dX1_init_1 (Nat.le_of_ble_eq_true rfl) (Nat.le_of_ble_eq_true rfl) ?_
  refine W.eq (g2 := F0 mm 4 ls []) rfl ?_
  refine lv_aload_n hx hb dX1_init_4 rfl (lv_at hl 0 rfl) ?_
  refine lv_sipush (v := (nI 200)) hx hb dX1_init_5 (by decide) ?_
  refine m_newi F (tb_O arrI) hK hM hS hlo 0 rfl 6 h6 (n := 200) (by decide) (Nat.le_of_ble_eq_true rfl) (Nat.le_of_ble_eq_true rfl) dX1_init_8 (fun qa H hM hS => ?_)
  obtain ⟨ad1, had1⟩ : ∃ a, a = va_up ad 6 qa := ⟨_, rfl⟩
  rw [← had1] at hM
  have hqa : qa = ad1 6 := by rw [had1, va_up_self]
  have ho : o = ad1 5 := by rw [had1, va_up_ne _ _ (by decide)]; exact ho
  have hM : mw D vwCl lo ad1 (va_up ct 6 (some (iA aC 200 (fun _ => 0)))) H := hM
  refine W.widen (k := 1) (n := 200) (by omega) (by omega) ?_
  refine m_sv (ho) ?_
  refine m_putF F (ci := 1) (v := .ref qa) (fun w h => tb_O (inX1 w h)) mc_X1 hK hM hS ((va_up_ne _ _ (by decide)).trans hob) 0 (by decide) (tb_O lkX1_9) rfl hin rfl rfl rfl (Nat.le_of_ble_eq_true rfl) dX1_init_10 (fun H locs hM hS => ?_)
  have hM : mw D vwCl lo ad1 (va_up (va_up ct 6 (some (iA aC 200 (fun _ => 0)))) 5 (some (.inr (1, [.ref qa, .null, .int 0])))) H := hM
  refine lv_aload_n hx hb dX1_init_13 rfl (lv_at hl 0 rfl) ?_
  refine lv_sipush (v := (nI 200)) hx hb dX1_init_14 (by decide) ?_
  refine m_newi F (tb_O arrI) hK hM hS hlo 0 rfl 7 (by rw [va_up_ne _ _ (by decide), va_up_ne _ _ (by decide)]; exact h7) (n := 200) (by decide) (Nat.le_of_ble_eq_true rfl) (Nat.le_of_ble_eq_true rfl) dX1_init_17 (fun qb H hM hS => ?_)
  obtain ⟨ad2, had2⟩ : ∃ a, a = va_up ad1 7 qb := ⟨_, rfl⟩
  rw [← had2] at hM
  have hqb : qb = ad2 7 := by rw [had2, va_up_self]
  have ho : o = ad2 5 := by rw [had2, va_up_ne _ _ (by decide)]; exact ho
  have hqa : qa = ad2 6 := by rw [had2, va_up_ne _ _ (by decide)]; exact hqa
  have hM : mw D vwCl lo ad2 (va_up (va_up (va_up ct 6 (some (iA aC 200 (fun _ => 0)))) 5 (some (.inr (1, [.ref qa, .null, .int 0])))) 7 (some (iA aC 200 (fun _ => 0)))) H := hM
  refine W.widen (k := 2) (n := 400) (by omega) (by omega) ?_
  refine m_sv (ho) ?_
  refine m_putF F (ci := 1) (v := .ref qb) (fun w h => tb_O (inX1 w h)) mc_X1 hK hM hS ((va_up_ne _ _ (by decide)).trans (va_up_self _ _ _)) 1 (by decide) (tb_O lkX1_15) rfl hin rfl rfl rfl (Nat.le_of_ble_eq_true rfl) dX1_init_19 (fun H locs hM hS => ?_)
  have hM : mw D vwCl lo ad2 (va_up (va_up (va_up (va_up ct 6 (some (iA aC 200 (fun _ => 0)))) 5 (some (.inr (1, [.ref qa, .null, .int 0])))) 7 (some (iA aC 200 (fun _ => 0)))) 5 (some (.inr (1, [.ref qa, .ref qb, .int 0])))) H := hM
  refine lv_aload_n hx hb dX1_init_22 rfl (lv_at hl 0 rfl) ?_
  refine lv_iconst (v := (nI 0)) hx hb dX1_init_23 (by decide) ?_
  refine m_sv (ho) ?_
  refine m_put F (ci := 1) (v := .int 0) (fun w h => tb_O (inX1 w h)) mc_X1 hK hM hS (va_up_self _ _ _) 2 (by decide) (tb_O lkX1_18) rfl rfl rfl (Nat.le_of_ble_eq_true rfl) dX1_init_24 (fun H locs hM hS => ?_)
  have hM : mw D vwCl lo ad2 (va_up (va_up (va_up (va_up (va_up ct 6 (some (iA aC 200 (fun _ => 0)))) 5 (some (.inr (1, [.ref qa, .null, .int 0])))) 7 (some (iA aC 200 (fun _ => 0)))) 5 (some (.inr (1, [.ref qa, .ref qb, .int 0])))) 5 (some (.inr (1, [.ref qa, .ref qb, .int 0])))) H := hM
  have hfin : ∀ k, k ≠ 6 → k ≠ 7 → ad2 k = ad k := fun k a b => by rw [had2, va_up_ne _ _ b, had1, va_up_ne _ _ a]
  rw [bx_uu, vu_comm (a := 5) (b := 7) (by decide), bx_uu, hqa, hqb] at hM
  exact W.vret hx hb hr (fun t ht hW => ⟨⟨_, _, rfl, ⟨hfin, rfl⟩, by rw [ht]; exact hM⟩, hS.F ht⟩) hS.2.2 dX1_init_27

set_option maxHeartbeats 4000000 in
set_option maxRecDepth 100000 in
theorem c_Einit (l : Launch) {D : va_G} {aC : Nat → ClassId} {lo : Nat} {ad : Nat → Nat} {ct : Nat → Option va_E} {o : Nat} {ke ks : Nat} (ho : o = ad ke) (hob : ct ke = some (.inr (0, [.null, .int 0, .int 0, .int 0, .null, .int 0]))) (hks : ct ks = none) (hne : ke ≠ ks) : Met l yX0_init (wsO yX0_init cX0_init 1 none) ({ frames := 1, cells := 1, slots := 20, locals := 12 } : Room) (mPc D vwCl (tyA aC) lo ad ct [.ref o]) (mQ0 D vwCl lo (fun ad1 ct1 => (∀ k, k ≠ ks → ad1 k = ad k) ∧ ct1 = va_up (va_up ct ks (some (iA aC 20 (fun _ => 0)))) ke (some (.inr (0, [.ref (ad1 ks), .int 0, .int 0, .int 0, .null, .int 0]))))) 1 20 (fun q => lo ≤ q) := by
  refine Met.ofW (cc := cX0_init) (maxL := 1) (ret := none) (by decide) rfl ?_
  intro pr en s0 mm args below meth cc0 s₁ B hml hv
  obtain ⟨rfl, hlo, hM, hKK⟩ := hv
  have hK := hKK.1
  have hr := B.returns
  have hts := atoms_spec (ws := (wsO yX0_init cX0_init 1 none)) B.pre
  have F : CallFix pr mm cc0 cX0_init 1 s0 (([.ref o] : List Value).toArray) (wsO yX0_init cX0_init 1 none) RX0 := ⟨B.exec, B.bytes, hml, findClass_of_methodNamed B.named, hts⟩
  have hx := F.1
  have hb := F.2.1
  have hlocks := B.notSynchronized
  have hin : meth.name = "<init>" := (name_of_methodNamed B.named B.method).1
  have hS : va_S (fun q => lo ≤ q) s0.heap s0.heap [] := va_S.rf
  have hl := lv_entry ([.ref o]) (n := 1) (Nat.le_of_ble_eq_true rfl)
  rw [lg_entry_eq]
  generalize (lg_sl ([.ref o]) ++ List.replicate (1 - (lg_sl ([.ref o])).length) Slot.unset).toArray = ls at hl ⊢
  have hl : lv_has ls 1 [(0, .ref o)] := hl
  refine lv_aload_n hx hb dX0_init_0 rfl (lv_at hl 0 rfl) ?_
  refine W.objInit hx hb F.2.2.2.1 (F.2.2.2.2 _ (tb_O mlX0_3)) (F.2.2.2.2 _ (tb_O objI)) (F.2.2.2.2 _ (tb_O objC)) rfl (by rw [F.2.2.1]; exact hl.1) rfl dX0_init_1 (Nat.le_of_ble_eq_true rfl) (Nat.le_of_ble_eq_true rfl) ?_
  refine W.eq (g2 := F0 mm 4 ls []) rfl ?_
  refine lv_aload_n hx hb dX0_init_4 rfl (lv_at hl 0 rfl) ?_
  refine lv_bipush (v := (nI 20)) hx hb dX0_init_5 (by decide) ?_
  refine m_newi F (tb_O arrI) hK hM hS hlo 0 rfl ks hks (n := 20) (by decide) (Nat.le_of_ble_eq_true rfl) (Nat.le_of_ble_eq_true rfl) dX0_init_7 (fun qa H hM hS => ?_)
  obtain ⟨ad1, had1⟩ : ∃ a, a = va_up ad ks qa := ⟨_, rfl⟩
  rw [← had1] at hM
  have hqa : qa = ad1 ks := by rw [had1, va_up_self]
  have ho : o = ad1 ke := by rw [had1, va_up_ne _ _ hne]; exact ho
  have hM : mw D vwCl lo ad1 (va_up ct ks (some (iA aC 20 (fun _ => 0)))) H := hM
  refine W.widen (k := 1) (n := 20) (by omega) (by omega) ?_
  refine m_sv (ho) ?_
  refine m_putF F (ci := 0) (v := .ref qa) (fun w h => tb_O (inX0 w h)) mc_X0 hK hM hS ((va_up_ne _ _ hne).trans hob) 0 (by decide) (tb_O lkX0_9) rfl hin rfl rfl rfl (Nat.le_of_ble_eq_true rfl) dX0_init_9 (fun H locs hM hS => ?_)
  have hM : mw D vwCl lo ad1 (va_up (va_up ct ks (some (iA aC 20 (fun _ => 0)))) ke (some (.inr (0, [.ref qa, .int 0, .int 0, .int 0, .null, .int 0])))) H := hM
  refine lv_aload_n hx hb dX0_init_12 rfl (lv_at hl 0 rfl) ?_
  refine lv_iconst (v := (nI 0)) hx hb dX0_init_13 (by decide) ?_
  refine m_sv (ho) ?_
  refine m_put F (ci := 0) (v := .int 0) (fun w h => tb_O (inX0 w h)) mc_X0 hK hM hS (va_up_self _ _ _) 1 (by decide) (tb_O lkX0_15) rfl rfl rfl (Nat.le_of_ble_eq_true rfl) dX0_init_14 (fun H locs hM hS => ?_)
  have hM : mw D vwCl lo ad1 (va_up (va_up (va_up ct ks (some (iA aC 20 (fun _ => 0)))) ke (some (.inr (0, [.ref qa, .int 0, .int 0, .int 0, .null, .int 0])))) ke (some (.inr (0, [.ref qa, .int 0, .int 0, .int 0, .null, .int 0])))) H := hM
  refine lv_aload_n hx hb dX0_init_17 rfl (lv_at hl 0 rfl) ?_
  refine lv_iconst (v := (nI 0)) hx hb dX0_init_18 (by decide) ?_
  refine m_sv (ho) ?_
  refine m_put F (ci := 0) (v := .int 0) (fun w h => tb_O (inX0 w h)) mc_X0 hK hM hS (va_up_self _ _ _) 2 (by decide) (tb_O lkX0_19) rfl rfl rfl (Nat.le_of_ble_eq_true rfl) dX0_init_19 (fun H locs hM hS => ?_)
  have hM : mw D vwCl lo ad1 (va_up (va_up (va_up (va_up ct ks (some (iA aC 20 (fun _ => 0)))) ke (some (.inr (0, [.ref qa, .int 0, .int 0, .int 0, .null, .int 0])))) ke (some (.inr (0, [.ref qa, .int 0, .int 0, .int 0, .null, .int 0])))) ke (some (.inr (0, [.ref qa, .int 0, .int 0, .int 0, .null, .int 0])))) H := hM
  refine lv_aload_n hx hb dX0_init_22 rfl (lv_at hl 0 rfl) ?_
  refine lv_iconst (v := (nI 0)) hx hb dX0_init_23 (by decide) ?_
  refine m_sv (ho) ?_
  refine m_put F (ci := 0) (v := .int 0) (fun w h => tb_O (inX0 w h)) mc_X0 hK hM hS (va_up_self _ _ _) 3 (by decide) (tb_O lkX0_22) rfl rfl rfl (Nat.le_of_ble_eq_true rfl) dX0_init_24 (fun H locs hM hS => ?_)
  have hM : mw D vwCl lo ad1 (va_up (va_up (va_up (va_up (va_up ct ks (some (iA aC 20 (fun _ => 0)))) ke (some (.inr (0, [.ref qa, .int 0, .int 0, .int 0, .null, .int 0])))) ke (some (.inr (0, [.ref qa, .int 0, .int 0, .int 0, .null, .int 0])))) ke (some (.inr (0, [.ref qa, .int 0, .int 0, .int 0, .null, .int 0])))) ke (some (.inr (0, [.ref qa, .int 0, .int 0, .int 0, .null, .int 0])))) H := hM
  refine lv_aload_n hx hb dX0_init_27 rfl (lv_at hl 0 rfl) ?_
  refine lv_null hx hb dX0_init_28 ?_
  refine m_sv (ho) ?_
  refine m_put F (ci := 0) (v := .null) (fun w h => tb_O (inX0 w h)) mc_X0 hK hM hS (va_up_self _ _ _) 4 (by decide) (tb_O lkX0_26) rfl rfl rfl (Nat.le_of_ble_eq_true rfl) dX0_init_29 (fun H locs hM hS => ?_)
  have hM : mw D vwCl lo ad1 (va_up (va_up (va_up (va_up (va_up (va_up ct ks (some (iA aC 20 (fun _ => 0)))) ke (some (.inr (0, [.ref qa, .int 0, .int 0, .int 0, .null, .int 0])))) ke (some (.inr (0, [.ref qa, .int 0, .int 0, .int 0, .null, .int 0])))) ke (some (.inr (0, [.ref qa, .int 0, .int 0, .int 0, .null, .int 0])))) ke (some (.inr (0, [.ref qa, .int 0, .int 0, .int 0, .null, .int 0])))) ke (some (.inr (0, [.ref qa, .int 0, .int 0, .int 0, .null, .int 0])))) H := hM
  refine lv_aload_n hx hb dX0_init_32 rfl (lv_at hl 0 rfl) ?_
  refine lv_iconst (v := (nI 0)) hx hb dX0_init_33 (by decide) ?_
  refine m_sv (ho) ?_
  refine m_put F (ci := 0) (v := .int 0) (fun w h => tb_O (inX0 w h)) mc_X0 hK hM hS (va_up_self _ _ _) 5 (by decide) (tb_O lkX0_30) rfl rfl rfl (Nat.le_of_ble_eq_true rfl) dX0_init_34 (fun H locs hM hS => ?_)
  have hM : mw D vwCl lo ad1 (va_up (va_up (va_up (va_up (va_up (va_up (va_up ct ks (some (iA aC 20 (fun _ => 0)))) ke (some (.inr (0, [.ref qa, .int 0, .int 0, .int 0, .null, .int 0])))) ke (some (.inr (0, [.ref qa, .int 0, .int 0, .int 0, .null, .int 0])))) ke (some (.inr (0, [.ref qa, .int 0, .int 0, .int 0, .null, .int 0])))) ke (some (.inr (0, [.ref qa, .int 0, .int 0, .int 0, .null, .int 0])))) ke (some (.inr (0, [.ref qa, .int 0, .int 0, .int 0, .null, .int 0])))) ke (some (.inr (0, [.ref qa, .int 0, .int 0, .int 0, .null, .int 0])))) H := hM
  have hfin : ∀ k, k ≠ ks → ad1 k = ad k := fun k a => by rw [had1, va_up_ne _ _ a]
  rw [bx_uu, bx_uu, bx_uu, bx_uu, bx_uu, hqa] at hM
  exact W.vret hx hb hr (fun t ht hW => ⟨⟨_, _, rfl, ⟨hfin, rfl⟩, by rw [ht]; exact hM⟩, hS.F ht⟩) hS.2.2 dX0_init_37

set_option maxHeartbeats 4000000 in
set_option maxRecDepth 100000 in
theorem c_Rinit (l : Launch) {D : va_G} {aC : Nat → ClassId} {lo : Nat} {ad : Nat → Nat} {ct : Nat → Option va_E} {o : Nat} (ho : o = ad 2) (hob : ct 2 = some (.inr (2, [.null, .null, .int 0]))) (h3 : ct 3 = none) (h4 : ct 4 = none) : Met l yX2_init (wsO yX2_init cX2_init 1 none) ({ frames := 1, cells := 2, slots := 1901, locals := 23 } : Room) (mPc D vwCl (tyA aC) lo ad ct [.ref o]) (mQ0 D vwCl lo (fun ad1 ct1 => (∀ k, k ≠ 3 → k ≠ 4 → ad1 k = ad k) ∧ ct1 = va_up (va_up (va_up ct 3 (some (iA aC 1880 (flI (fun _ => 0) (-1) 1880)))) 4 (some (iA aC 21 (fun _ => 0)))) 2 (some (.inr (2, [.ref (ad1 3), .ref (ad1 4), .int 0]))))) 2 1901 (fun q => lo ≤ q) := by
  refine Met.ofW (cc := cX2_init) (maxL := 1) (ret := none) (by decide) rfl ?_
  intro pr en s0 mm args below meth cc0 s₁ B hml hv
  obtain ⟨rfl, hlo, hM, hKK⟩ := hv
  have hK := hKK.1
  have hr := B.returns
  have hts := atoms_spec (ws := (wsO yX2_init cX2_init 1 none)) B.pre
  have F : CallFix pr mm cc0 cX2_init 1 s0 (([.ref o] : List Value).toArray) (wsO yX2_init cX2_init 1 none) RX2 := ⟨B.exec, B.bytes, hml, findClass_of_methodNamed B.named, hts⟩
  have hx := F.1
  have hb := F.2.1
  have hlocks := B.notSynchronized
  have hin : meth.name = "<init>" := (name_of_methodNamed B.named B.method).1
  have hS : va_S (fun q => lo ≤ q) s0.heap s0.heap [] := va_S.rf
  have hl := lv_entry ([.ref o]) (n := 1) (Nat.le_of_ble_eq_true rfl)
  rw [lg_entry_eq]
  generalize (lg_sl ([.ref o]) ++ List.replicate (1 - (lg_sl ([.ref o])).length) Slot.unset).toArray = ls at hl ⊢
  have hl : lv_has ls 1 [(0, .ref o)] := hl
  refine lv_aload_n hx hb dX2_init_0 rfl (lv_at hl 0 rfl) ?_
  refine W.objInit hx hb F.2.2.2.1 (F.2.2.2.2 _ (tb_O mlX2_3)) (F.2.2.2.2 _ (tb_O objI)) (F.2.2.2.2 _ (tb_O objC)) rfl (by rw [F.2.2.1]; exact hl.1) rfl dX2_init_1 (Nat.le_of_ble_eq_true rfl) (Nat.le_of_ble_eq_true rfl) ?_
  refine W.eq (g2 := F0 mm 4 ls []) rfl ?_
  refine lv_aload_n hx hb dX2_init_4 rfl (lv_at hl 0 rfl) ?_
  refine lv_sipush (v := (nI 1880)) hx hb dX2_init_5 (by decide) ?_
  refine m_newi F (tb_O arrI) hK hM hS hlo 0 rfl 3 h3 (n := 1880) (by decide) (Nat.le_of_ble_eq_true rfl) (Nat.le_of_ble_eq_true rfl) dX2_init_8 (fun qa H hM hS => ?_)
  obtain ⟨ad1, had1⟩ : ∃ a, a = va_up ad 3 qa := ⟨_, rfl⟩
  rw [← had1] at hM
  have hqa : qa = ad1 3 := by rw [had1, va_up_self]
  have ho : o = ad1 2 := by rw [had1, va_up_ne _ _ (by decide)]; exact ho
  have hM : mw D vwCl lo ad1 (va_up ct 3 (some (iA aC 1880 (fun _ => 0)))) H := hM
  refine W.widen (k := 1) (n := 1880) (by omega) (by omega) ?_
  refine m_sv (ho) ?_
  refine m_putF F (ci := 2) (v := .ref qa) (fun w h => tb_O (inX2 w h)) mc_X2 hK hM hS ((va_up_ne _ _ (by decide)).trans hob) 0 (by decide) (tb_O lkX2_11) rfl hin rfl rfl rfl (Nat.le_of_ble_eq_true rfl) dX2_init_10 (fun H locs hM hS => ?_)
  have hM : mw D vwCl lo ad1 (va_up (va_up ct 3 (some (iA aC 1880 (fun _ => 0)))) 2 (some (.inr (2, [.ref qa, .null, .int 0])))) H := hM
  refine lv_aload_n hx hb dX2_init_13 rfl (lv_at hl 0 rfl) ?_
  refine m_tv (ho) ?_
  refine m_get F (ci := 2) (v := .ref qa) (fun w h => tb_O (inX2 w h)) hK hM (va_up_self _ _ _) rfl 0 (by decide) (tb_O lkX2_11) rfl dX2_init_14 ?_
  refine lv_iconst (v := (-1)) hx hb dX2_init_17 (by decide) ?_
  refine m_d0 (ct1 := va_up (va_up (va_up ct 3 (some (iA aC 1880 (fun _ => 0)))) 2 (some (.inr (2, [.ref qa, .null, .int 0])))) 3 (some (iA aC 1880 (flI (fun _ => 0) (-1) 1880)))) (va_runS (As := [.ref qa, .int (-1)]) (rest := []) F (c_fill l (k := 3) hqa ((va_up_ne _ _ (by decide)).trans (va_up_self _ _ _)) (by decide)) (va_cwS 2 F.2.2.2.2 (go_S (fun _ h => tb_O h) mlX2_15 stJ7_fill iniJ7 cdJ7_fill) rfl rfl rfl (by decide +kernel) ⟨Nat.le_of_ble_eq_true rfl, Nat.le_of_ble_eq_true rfl⟩) (mPreS hKK hM (Nat.le_trans hlo hS.1)) rfl rfl hl.1 rfl (lv_room (Nat.le_of_ble_eq_true rfl)) dX2_init_18 ⟨Nat.le_of_ble_eq_true rfl, Nat.le_of_ble_eq_true rfl⟩) hS (fun H locs hM hS => ?_)
  refine lv_aload_n hx hb dX2_init_21 rfl (lv_at hl 0 rfl) ?_
  refine lv_bipush (v := (nI 21)) hx hb dX2_init_22 (by decide) ?_
  refine m_newi F (tb_O arrI) hK hM hS hlo 0 rfl 4 (by rw [va_up_ne _ _ (by decide), va_up_ne _ _ (by decide), va_up_ne _ _ (by decide)]; exact h4) (n := 21) (by decide) (Nat.le_of_ble_eq_true rfl) (Nat.le_of_ble_eq_true rfl) dX2_init_24 (fun qb H hM hS => ?_)
  obtain ⟨ad2, had2⟩ : ∃ a, a = va_up ad1 4 qb := ⟨_, rfl⟩
  rw [← had2] at hM
  have hqb : qb = ad2 4 := by rw [had2, va_up_self]
  have ho : o = ad2 2 := by rw [had2, va_up_ne _ _ (by decide)]; exact ho
  have hqa : qa = ad2 3 := by rw [had2, va_up_ne _ _ (by decide)]; exact hqa
  have hM : mw D vwCl lo ad2 (va_up (va_up (va_up (va_up ct 3 (some (iA aC 1880 (fun _ => 0)))) 2 (some (.inr (2, [.ref qa, .null, .int 0])))) 3 (some (iA aC 1880 (flI (fun _ => 0) (-1) 1880)))) 4 (some (iA aC 21 (fun _ => 0)))) H := hM
  refine W.widen (k := 2) (n := 1901) (by omega) (by omega) ?_
  refine m_sv (ho) ?_
  refine m_putF F (ci := 2) (v := .ref qb) (fun w h => tb_O (inX2 w h)) mc_X2 hK hM hS ((va_up_ne _ _ (by decide)).trans ((va_up_ne _ _ (by decide)).trans (va_up_self _ _ _))) 1 (by decide) (tb_O lkX2_21) rfl hin rfl rfl rfl (Nat.le_of_ble_eq_true rfl) dX2_init_26 (fun H locs hM hS => ?_)
  have hM : mw D vwCl lo ad2 (va_up (va_up (va_up (va_up (va_up ct 3 (some (iA aC 1880 (fun _ => 0)))) 2 (some (.inr (2, [.ref qa, .null, .int 0])))) 3 (some (iA aC 1880 (flI (fun _ => 0) (-1) 1880)))) 4 (some (iA aC 21 (fun _ => 0)))) 2 (some (.inr (2, [.ref qa, .ref qb, .int 0])))) H := hM
  refine lv_aload_n hx hb dX2_init_29 rfl (lv_at hl 0 rfl) ?_
  refine lv_iconst (v := (nI 0)) hx hb dX2_init_30 (by decide) ?_
  refine m_sv (ho) ?_
  refine m_put F (ci := 2) (v := .int 0) (fun w h => tb_O (inX2 w h)) mc_X2 hK hM hS (va_up_self _ _ _) 2 (by decide) (tb_O lkX2_24) rfl rfl rfl (Nat.le_of_ble_eq_true rfl) dX2_init_31 (fun H locs hM hS => ?_)
  have hM : mw D vwCl lo ad2 (va_up (va_up (va_up (va_up (va_up (va_up ct 3 (some (iA aC 1880 (fun _ => 0)))) 2 (some (.inr (2, [.ref qa, .null, .int 0])))) 3 (some (iA aC 1880 (flI (fun _ => 0) (-1) 1880)))) 4 (some (iA aC 21 (fun _ => 0)))) 2 (some (.inr (2, [.ref qa, .ref qb, .int 0])))) 2 (some (.inr (2, [.ref qa, .ref qb, .int 0])))) H := hM
  have hfin : ∀ k, k ≠ 3 → k ≠ 4 → ad2 k = ad k := fun k a b => by rw [had2, va_up_ne _ _ b, had1, va_up_ne _ _ a]
  rw [bx_uu, vu_comm (a := 2) (b := 3) (by decide), vu_comm (a := 2) (b := 4) (by decide), bx_uu, bx_uu, hqa, hqb] at hM
  exact W.vret hx hb hr (fun t ht hW => ⟨⟨_, _, rfl, ⟨hfin, rfl⟩, by rw [ht]; exact hM⟩, hS.F ht⟩) hS.2.2 dX2_init_34
