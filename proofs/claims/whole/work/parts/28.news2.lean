set_option maxHeartbeats 4000000 in
set_option maxRecDepth 100000 in
theorem c_Winit (l : Launch) {D : va_G} {aC : Nat → ClassId} {lo : Nat} {ad : Nat → Nat} {o : Nat} {X : Nat → Option va_E} (ho : o = ad 0) : Met l yX3_init (wsO yX3_init cX3_init 1 none) ({ frames := 2, cells := 7, slots := 2508, locals := 43 } : Room) (mPc D vwCl (tyA aC) lo ad (ctB X) [.ref o]) (mQ0 D vwCl lo (fun ad1 ct1 => (∀ k, 8 ≤ k → ad1 k = ad k) ∧ ad1 0 = ad 0 ∧ ct1 = ctC aC ad1 0 (-1) (fun _ => (0, 0, false, none, 0)) (fun _ _ => 0) 0 (clC (fun _ => some 0)) (fun _ => 0) 0 (fun _ => 0) (fun _ => 0) X)) 7 2508 (fun q => lo ≤ q) := by
  refine Met.ofW (cc := cX3_init) (maxL := 1) (ret := none) (by decide) rfl ?_
  intro pr en s0 mm args below meth cc0 s₁ B hml hv
  obtain ⟨rfl, hlo, hM, hKK⟩ := hv
  have hK := hKK.1
  have hr := B.returns
  have hts := atoms_spec (ws := (wsO yX3_init cX3_init 1 none)) B.pre
  have F : CallFix pr mm cc0 cX3_init 1 s0 (([.ref o] : List Value).toArray) (wsO yX3_init cX3_init 1 none) RX3 := ⟨B.exec, B.bytes, hml, findClass_of_methodNamed B.named, hts⟩
  have hx := F.1
  have hb := F.2.1
  have hlocks := B.notSynchronized
  have hin : meth.name = "<init>" := (name_of_methodNamed B.named B.method).1
  have hS : va_S (fun q => lo ≤ q) s0.heap s0.heap [] := va_S.rf
  have hl := lv_entry ([.ref o]) (n := 1) (Nat.le_of_ble_eq_true rfl)
  rw [lg_entry_eq]
  generalize (lg_sl ([.ref o]) ++ List.replicate (1 - (lg_sl ([.ref o])).length) Slot.unset).toArray = ls at hl ⊢
  have hl : lv_has ls 1 [(0, .ref o)] := hl
  have ho0 := ho
  refine lv_aload_n hx hb dX3_init_0 rfl (lv_at hl 0 rfl) ?_
  refine W.objInit hx hb F.2.2.2.1 (F.2.2.2.2 _ (tb_O mlX3_1)) (F.2.2.2.2 _ (tb_O objI)) (F.2.2.2.2 _ (tb_O objC)) rfl (by rw [F.2.2.1]; exact hl.1) rfl dX3_init_1 (Nat.le_of_ble_eq_true rfl) (Nat.le_of_ble_eq_true rfl) ?_
  refine W.eq (g2 := F0 mm 4 ls []) rfl ?_
  refine lv_aload_n hx hb dX3_init_4 rfl (lv_at hl 0 rfl) ?_
  refine lv_sipush (v := (nI 201)) hx hb dX3_init_5 (by decide) ?_
  refine m_newq F (C := RX0) (tb_O clX3_9) hKK.2.2 hK hM hS hlo 1 rfl 1 rfl (n := 201) (by decide) (Nat.le_of_ble_eq_true rfl) (Nat.le_of_ble_eq_true rfl) dX3_init_8 (fun qe H hM hS => ?_)
  obtain ⟨ad1, had1⟩ : ∃ a, a = va_up ad 1 qe := ⟨_, rfl⟩
  rw [← had1] at hM
  have hqe : qe = ad1 1 := by rw [had1, va_up_self]
  have ho : o = ad1 0 := by rw [had1, va_up_ne _ _ (by decide)]; exact ho
  have hM : mw D vwCl lo ad1 (va_up (ctB X) 1 (some (qA (aC 1) 201 (fun _ => none)))) H := hM
  refine W.widen (k := 1) (n := 201) (by omega) (by omega) ?_
  refine m_sv (ho) ?_
  refine m_putF F (ci := 3) (v := .ref qe) (fun w h => tb_O (inX3 w h)) mc_X3 hK hM hS ((va_up_ne _ _ (by decide)).trans ctB_0) 0 (by decide) (tb_O lkX3_11) rfl hin rfl rfl rfl (Nat.le_of_ble_eq_true rfl) dX3_init_11 (fun H locs hM hS => ?_)
  have hM : mw D vwCl lo ad1 (va_up (va_up (ctB X) 1 (some (qA (aC 1) 201 (fun _ => none)))) 0 (some (.inr (3, [.ref qe, .int 0, .null, .null, .int 0])))) H := hM
  refine lv_aload_n hx hb dX3_init_14 rfl (lv_at hl 0 rfl) ?_
  refine lv_iconst (v := (nI 0)) hx hb dX3_init_15 (by decide) ?_
  refine m_sv (ho) ?_
  refine m_put F (ci := 3) (v := .int 0) (fun w h => tb_O (inX3 w h)) mc_X3 hK hM hS (va_up_self _ _ _) 1 (by decide) (tb_O lkX3_15) rfl rfl rfl (Nat.le_of_ble_eq_true rfl) dX3_init_16 (fun H locs hM hS => ?_)
  have hM : mw D vwCl lo ad1 (va_up (va_up (va_up (ctB X) 1 (some (qA (aC 1) 201 (fun _ => none)))) 0 (some (.inr (3, [.ref qe, .int 0, .null, .null, .int 0])))) 0 (some (.inr (3, [.ref qe, .int 0, .null, .null, .int 0])))) H := hM
  refine lv_aload_n hx hb dX3_init_19 rfl (lv_at hl 0 rfl) ?_
  refine m_new F (ci := 2) (fs := [.null, .null, .int 0]) (fun w h => tb_O (inX2 w h)) mc_X2 (tb_O clX3_19) (tb_O instX2) (tb_O iniX2) hK hM hS hlo 2 rfl (fun j hj => by rcases (show j = 0 ∨ j = 1 ∨ j = 2 by omega) with rfl | rfl | rfl <;> rfl) (Nat.le_of_ble_eq_true rfl) (Nat.le_of_ble_eq_true rfl) dX3_init_20 (fun qr H hM hS => ?_)
  obtain ⟨ad2, had2⟩ : ∃ a, a = va_up ad1 2 qr := ⟨_, rfl⟩
  rw [← had2] at hM
  have hqr : qr = ad2 2 := by rw [had2, va_up_self]
  have ho : o = ad2 0 := by rw [had2, va_up_ne _ _ (by decide)]; exact ho
  have hqe : qe = ad2 1 := by rw [had2, va_up_ne _ _ (by decide)]; exact hqe
  have hM : mw D vwCl lo ad2 (va_up (va_up (va_up (va_up (ctB X) 1 (some (qA (aC 1) 201 (fun _ => none)))) 0 (some (.inr (3, [.ref qe, .int 0, .null, .null, .int 0])))) 0 (some (.inr (3, [.ref qe, .int 0, .null, .null, .int 0])))) 2 (some (.inr (2, [.null, .null, .int 0])))) H := hM
  refine W.widen (k := 2) (n := 204) (by omega) (by omega) ?_
  refine lv_dup hx hb dX3_init_23 rfl ?_
  refine m_ret0 (va_runI (As := []) (rest := [.ref qr, .ref o]) F (c_Rinit l hqr (va_up_self _ _ _) rfl rfl) (cwI 0 F.2.2.2.2 (go_O (fun _ h => tb_O h) cdX2_init) rfl rfl rfl (F.2.2.2.2 _ (tb_O iniX2)) (F.2.2.2.2 _ (tb_O mlX3_21)) (F.2.2.2.2 _ (tb_O imX2_init)) rfl (by decide +kernel) ⟨Nat.le_of_ble_eq_true rfl, Nat.le_of_ble_eq_true rfl⟩) (mPreS hKK hM (Nat.le_trans hlo hS.1)) rfl rfl hl.1 rfl (lv_room (Nat.le_of_ble_eq_true rfl)) dX3_init_24 ⟨Nat.le_of_ble_eq_true rfl, Nat.le_of_ble_eq_true rfl⟩) hS (fun ad3 ctx H locs hp hM hS => ?_)
  obtain ⟨had3, rfl⟩ := hp
  have ho : o = ad3 0 := by rw [had3 0 (by decide) (by decide)]; exact ho
  have hqe : qe = ad3 1 := by rw [had3 1 (by decide) (by decide)]; exact hqe
  have hqr : qr = ad3 2 := by rw [had3 2 (by decide) (by decide)]; exact hqr
  have hM : mw D vwCl lo ad3 (va_up (va_up (va_up (va_up (va_up (va_up (va_up (ctB X) 1 (some (qA (aC 1) 201 (fun _ => none)))) 0 (some (.inr (3, [.ref qe, .int 0, .null, .null, .int 0])))) 0 (some (.inr (3, [.ref qe, .int 0, .null, .null, .int 0])))) 2 (some (.inr (2, [.null, .null, .int 0])))) 3 (some (iA aC 1880 (flI (fun _ => 0) (-1) 1880)))) 4 (some (iA aC 21 (fun _ => 0)))) 2 (some (.inr (2, [.ref (ad3 3), .ref (ad3 4), .int 0])))) H := hM
  refine W.widen (k := 4) (n := 2105) (by omega) (by omega) ?_
  refine m_sv (ho) ?_
  refine m_putF F (ci := 3) (v := .ref qr) (fun w h => tb_O (inX3 w h)) mc_X3 hK hM hS ((va_up_ne _ _ (by decide)).trans ((va_up_ne _ _ (by decide)).trans ((va_up_ne _ _ (by decide)).trans ((va_up_ne _ _ (by decide)).trans (va_up_self _ _ _))))) 2 (by decide) (tb_O lkX3_22) rfl hin rfl rfl rfl (Nat.le_of_ble_eq_true rfl) dX3_init_27 (fun H locs hM hS => ?_)
  have hM : mw D vwCl lo ad3 (va_up (va_up (va_up (va_up (va_up (va_up (va_up (va_up (ctB X) 1 (some (qA (aC 1) 201 (fun _ => none)))) 0 (some (.inr (3, [.ref qe, .int 0, .null, .null, .int 0])))) 0 (some (.inr (3, [.ref qe, .int 0, .null, .null, .int 0])))) 2 (some (.inr (2, [.null, .null, .int 0])))) 3 (some (iA aC 1880 (flI (fun _ => 0) (-1) 1880)))) 4 (some (iA aC 21 (fun _ => 0)))) 2 (some (.inr (2, [.ref (ad3 3), .ref (ad3 4), .int 0])))) 0 (some (.inr (3, [.ref qe, .int 0, .ref qr, .null, .int 0])))) H := hM
  refine lv_aload_n hx hb dX3_init_30 rfl (lv_at hl 0 rfl) ?_
  refine m_new F (ci := 1) (fs := [.null, .null, .int 0]) (fun w h => tb_O (inX1 w h)) mc_X1 (tb_O clX3_26) (tb_O instX1) (tb_O iniX1) hK hM hS hlo 5 rfl (fun j hj => by rcases (show j = 0 ∨ j = 1 ∨ j = 2 by omega) with rfl | rfl | rfl <;> rfl) (Nat.le_of_ble_eq_true rfl) (Nat.le_of_ble_eq_true rfl) dX3_init_31 (fun qh H hM hS => ?_)
  obtain ⟨ad4, had4⟩ : ∃ a, a = va_up ad3 5 qh := ⟨_, rfl⟩
  rw [← had4] at hM
  have hqh : qh = ad4 5 := by rw [had4, va_up_self]
  have ho : o = ad4 0 := by rw [had4, va_up_ne _ _ (by decide)]; exact ho
  have hqe : qe = ad4 1 := by rw [had4, va_up_ne _ _ (by decide)]; exact hqe
  have hqr : qr = ad4 2 := by rw [had4, va_up_ne _ _ (by decide)]; exact hqr
  have hM : mw D vwCl lo ad4 (va_up (va_up (va_up (va_up (va_up (va_up (va_up (va_up (va_up (ctB X) 1 (some (qA (aC 1) 201 (fun _ => none)))) 0 (some (.inr (3, [.ref qe, .int 0, .null, .null, .int 0])))) 0 (some (.inr (3, [.ref qe, .int 0, .null, .null, .int 0])))) 2 (some (.inr (2, [.null, .null, .int 0])))) 3 (some (iA aC 1880 (flI (fun _ => 0) (-1) 1880)))) 4 (some (iA aC 21 (fun _ => 0)))) 2 (some (.inr (2, [.ref (ad3 3), .ref (ad3 4), .int 0])))) 0 (some (.inr (3, [.ref qe, .int 0, .ref qr, .null, .int 0])))) 5 (some (.inr (1, [.null, .null, .int 0])))) H := hM
  refine W.widen (k := 5) (n := 2108) (by omega) (by omega) ?_
  refine lv_dup hx hb dX3_init_34 rfl ?_
  refine m_ret0 (va_runI (As := []) (rest := [.ref qh, .ref o]) F (c_Hinit l hqh (va_up_self _ _ _) rfl rfl) (cwI 0 F.2.2.2.2 (go_O (fun _ h => tb_O h) cdX1_init) rfl rfl rfl (F.2.2.2.2 _ (tb_O iniX1)) (F.2.2.2.2 _ (tb_O mlX3_28)) (F.2.2.2.2 _ (tb_O imX1_init)) rfl (by decide +kernel) ⟨Nat.le_of_ble_eq_true rfl, Nat.le_of_ble_eq_true rfl⟩) (mPreS hKK hM (Nat.le_trans hlo hS.1)) rfl rfl hl.1 rfl (lv_room (Nat.le_of_ble_eq_true rfl)) dX3_init_35 ⟨Nat.le_of_ble_eq_true rfl, Nat.le_of_ble_eq_true rfl⟩) hS (fun ad5 ctx H locs hp hM hS => ?_)
  obtain ⟨had5, rfl⟩ := hp
  have ho : o = ad5 0 := by rw [had5 0 (by decide) (by decide)]; exact ho
  have hqe : qe = ad5 1 := by rw [had5 1 (by decide) (by decide)]; exact hqe
  have hqr : qr = ad5 2 := by rw [had5 2 (by decide) (by decide)]; exact hqr
  have hqh : qh = ad5 5 := by rw [had5 5 (by decide) (by decide)]; exact hqh
  have hM : mw D vwCl lo ad5 (va_up (va_up (va_up (va_up (va_up (va_up (va_up (va_up (va_up (va_up (va_up (va_up (ctB X) 1 (some (qA (aC 1) 201 (fun _ => none)))) 0 (some (.inr (3, [.ref qe, .int 0, .null, .null, .int 0])))) 0 (some (.inr (3, [.ref qe, .int 0, .null, .null, .int 0])))) 2 (some (.inr (2, [.null, .null, .int 0])))) 3 (some (iA aC 1880 (flI (fun _ => 0) (-1) 1880)))) 4 (some (iA aC 21 (fun _ => 0)))) 2 (some (.inr (2, [.ref (ad3 3), .ref (ad3 4), .int 0])))) 0 (some (.inr (3, [.ref qe, .int 0, .ref qr, .null, .int 0])))) 5 (some (.inr (1, [.null, .null, .int 0])))) 6 (some (iA aC 200 (fun _ => 0)))) 7 (some (iA aC 200 (fun _ => 0)))) 5 (some (.inr (1, [.ref (ad5 6), .ref (ad5 7), .int 0])))) H := hM
  refine W.widen (k := 7) (n := 2508) (by omega) (by omega) ?_
  refine m_sv (ho) ?_
  refine m_putF F (ci := 3) (v := .ref qh) (fun w h => tb_O (inX3 w h)) mc_X3 hK hM hS ((va_up_ne _ _ (by decide)).trans ((va_up_ne _ _ (by decide)).trans ((va_up_ne _ _ (by decide)).trans ((va_up_ne _ _ (by decide)).trans (va_up_self _ _ _))))) 3 (by decide) (tb_O lkX3_29) rfl hin rfl rfl rfl (Nat.le_of_ble_eq_true rfl) dX3_init_38 (fun H locs hM hS => ?_)
  have hM : mw D vwCl lo ad5 (va_up (va_up (va_up (va_up (va_up (va_up (va_up (va_up (va_up (va_up (va_up (va_up (va_up (ctB X) 1 (some (qA (aC 1) 201 (fun _ => none)))) 0 (some (.inr (3, [.ref qe, .int 0, .null, .null, .int 0])))) 0 (some (.inr (3, [.ref qe, .int 0, .null, .null, .int 0])))) 2 (some (.inr (2, [.null, .null, .int 0])))) 3 (some (iA aC 1880 (flI (fun _ => 0) (-1) 1880)))) 4 (some (iA aC 21 (fun _ => 0)))) 2 (some (.inr (2, [.ref (ad3 3), .ref (ad3 4), .int 0])))) 0 (some (.inr (3, [.ref qe, .int 0, .ref qr, .null, .int 0])))) 5 (some (.inr (1, [.null, .null, .int 0])))) 6 (some (iA aC 200 (fun _ => 0)))) 7 (some (iA aC 200 (fun _ => 0)))) 5 (some (.inr (1, [.ref (ad5 6), .ref (ad5 7), .int 0])))) 0 (some (.inr (3, [.ref qe, .int 0, .ref qr, .ref qh, .int 0])))) H := hM
  refine lv_aload_n hx hb dX3_init_41 rfl (lv_at hl 0 rfl) ?_
  refine lv_iconst (v := (-1)) hx hb dX3_init_42 (by decide) ?_
  refine m_sv (ho) ?_
  refine m_put F (ci := 3) (v := .int (-1)) (fun w h => tb_O (inX3 w h)) mc_X3 hK hM hS (va_up_self _ _ _) 4 (by decide) (tb_O lkX3_33) rfl rfl rfl (Nat.le_of_ble_eq_true rfl) dX3_init_43 (fun H locs hM hS => ?_)
  have hM : mw D vwCl lo ad5 (va_up (va_up (va_up (va_up (va_up (va_up (va_up (va_up (va_up (va_up (va_up (va_up (va_up (va_up (ctB X) 1 (some (qA (aC 1) 201 (fun _ => none)))) 0 (some (.inr (3, [.ref qe, .int 0, .null, .null, .int 0])))) 0 (some (.inr (3, [.ref qe, .int 0, .null, .null, .int 0])))) 2 (some (.inr (2, [.null, .null, .int 0])))) 3 (some (iA aC 1880 (flI (fun _ => 0) (-1) 1880)))) 4 (some (iA aC 21 (fun _ => 0)))) 2 (some (.inr (2, [.ref (ad3 3), .ref (ad3 4), .int 0])))) 0 (some (.inr (3, [.ref qe, .int 0, .ref qr, .null, .int 0])))) 5 (some (.inr (1, [.null, .null, .int 0])))) 6 (some (iA aC 200 (fun _ => 0)))) 7 (some (iA aC 200 (fun _ => 0)))) 5 (some (.inr (1, [.ref (ad5 6), .ref (ad5 7), .int 0])))) 0 (some (.inr (3, [.ref qe, .int 0, .ref qr, .ref qh, .int 0])))) 0 (some (.inr (3, [.ref qe, .int 0, .ref qr, .ref qh, .int (-1)])))) H := hM
  have hadN : ∀ k, 8 ≤ k → ad5 k = ad k := fun k hk => by rw [had5 k (by omega) (by omega), had4, va_up_ne _ _ (by omega), had3 k (by omega) (by omega), had2, va_up_ne _ _ (by omega), had1, va_up_ne _ _ (by omega)]
  have hr3 : ad5 3 = ad3 3 := by rw [had5 3 (by decide) (by decide), had4, va_up_ne _ _ (by decide)]
  have hr4 : ad5 4 = ad3 4 := by rw [had5 4 (by decide) (by decide), had4, va_up_ne _ _ (by decide)]
  have ho9 : ad5 0 = ad 0 := by rw [← ho, ho0]
  have hct := ctB_new (aC := aC) (ad := ad5) (X := X) (f := va_up (va_up (va_up (va_up (va_up (va_up (va_up (va_up (va_up (va_up (va_up (va_up (va_up (va_up (ctB X) 1 (some (qA (aC 1) 201 (fun _ => none)))) 0 (some (.inr (3, [.ref qe, .int 0, .null, .null, .int 0])))) 0 (some (.inr (3, [.ref qe, .int 0, .null, .null, .int 0])))) 2 (some (.inr (2, [.null, .null, .int 0])))) 3 (some (iA aC 1880 (flI (fun _ => 0) (-1) 1880)))) 4 (some (iA aC 21 (fun _ => 0)))) 2 (some (.inr (2, [.ref (ad3 3), .ref (ad3 4), .int 0])))) 0 (some (.inr (3, [.ref qe, .int 0, .ref qr, .null, .int 0])))) 5 (some (.inr (1, [.null, .null, .int 0])))) 6 (some (iA aC 200 (fun _ => 0)))) 7 (some (iA aC 200 (fun _ => 0)))) 5 (some (.inr (1, [.ref (ad5 6), .ref (ad5 7), .int 0])))) 0 (some (.inr (3, [.ref qe, .int 0, .ref qr, .ref qh, .int 0])))) 0 (some (.inr (3, [.ref qe, .int 0, .ref qr, .ref qh, .int (-1)])))) (fun k hk => by rw [va_up_ne _ _ (show k ≠ 0 by omega), va_up_ne _ _ (show k ≠ 0 by omega), va_up_ne _ _ (show k ≠ 5 by omega), va_up_ne _ _ (show k ≠ 7 by omega), va_up_ne _ _ (show k ≠ 6 by omega), va_up_ne _ _ (show k ≠ 5 by omega), va_up_ne _ _ (show k ≠ 0 by omega), va_up_ne _ _ (show k ≠ 2 by omega), va_up_ne _ _ (show k ≠ 4 by omega), va_up_ne _ _ (show k ≠ 3 by omega), va_up_ne _ _ (show k ≠ 2 by omega), va_up_ne _ _ (show k ≠ 0 by omega), va_up_ne _ _ (show k ≠ 0 by omega), va_up_ne _ _ (show k ≠ 1 by omega)]) (by rw [va_up_self, hqe, hqr, hqh]) rfl (by rw [hr3, hr4]; rfl) rfl rfl rfl rfl rfl
  rw [hct] at hM
  exact W.vret hx hb hr (fun t ht hW => ⟨⟨_, _, rfl, ⟨hadN, ho9, rfl⟩, by rw [ht]; exact hM⟩, hS.F ht⟩) hS.2.2 dX3_init_46

set_option maxHeartbeats 4000000 in
set_option maxRecDepth 100000 in
theorem c_entryR (l : Launch) {D : va_G} {aC : Nat → ClassId} {lo : Nat} {ad : Nat → Nat} {n : Nat} {gl : Int32} {E : Nat → Ent} {G : Nat → Nat → Nat} {P : Nat} {co : Nat → Option Nat} {lc : Nat → Nat} {hc : Nat} {hn hs : Nat → Nat} {X : Nat → Option va_E} (hnn : n = 200) : Met l yX3_entry (wsO yX3_entry cX3_entry 1 (some .int)) ({ frames := 0, cells := 0, slots := 0, locals := 0 } : Room) (mPc D vwCl (tyA aC) lo ad (ctC aC ad n gl E G P co lc hc hn hs X) [.ref (ad 0)]) (mD1 D vwCl lo (.int (-4)) ad (ctC aC ad n gl E G P co lc hc hn hs X)) 0 0 (fun q => lo ≤ q) := by
  refine Met.ofW (cc := cX3_entry) (maxL := 1) (ret := (some .int)) (by decide) rfl ?_
  intro pr en s0 mm args below meth cc0 s₁ B hml hv
  obtain ⟨rfl, hlo, hM, hKK⟩ := hv
  have hK := hKK.1
  have hr := B.returns
  have hts := atoms_spec (ws := (wsO yX3_entry cX3_entry 1 (some .int))) B.pre
  have F : CallFix pr mm cc0 cX3_entry 1 s0 (([.ref (ad 0)] : List Value).toArray) (wsO yX3_entry cX3_entry 1 (some .int)) RX3 := ⟨B.exec, B.bytes, hml, findClass_of_methodNamed B.named, hts⟩
  have hx := F.1
  have hb := F.2.1
  have hlocks := B.notSynchronized
  have hS : va_S (fun q => lo ≤ q) s0.heap s0.heap [] := va_S.rf
  have hl := lv_entry ([.ref (ad 0)]) (n := 1) (Nat.le_of_ble_eq_true rfl)
  rw [lg_entry_eq]
  generalize (lg_sl ([.ref (ad 0)]) ++ List.replicate (1 - (lg_sl ([.ref (ad 0)])).length) Slot.unset).toArray = ls at hl ⊢
  have hl : lv_has ls 1 [(0, .ref (ad 0))] := hl
  refine lv_aload_n hx hb dX3_entry_0 rfl (lv_at hl 0 rfl) ?_
  refine m_get F (ci := 3) (v := .int (nI n)) (fun w h => tb_O (inX3 w h)) hK hM ctC_0 rfl 1 (by decide) (tb_O lkX3_15) rfl dX3_entry_1 ?_
  refine lv_sipush (v := (nI 200)) hx hb dX3_entry_4 (by decide) ?_
  refine m_icmp_lt F (a := n) (b := 200) (by omega) (by omega) (tgt := 13) dX3_entry_7 (by decide) (fun c_7 => ?_) (fun c_7 => ?_)
  · skip
    exact absurd c_7 (by omega)
  · skip
    refine lv_bipush (v := (-4)) hx hb dX3_entry_10 (by decide) ?_
    exact W.iret hx hb hr (fun t ht hW => ⟨⟨_, _, _, rfl, ⟨rfl, rfl, rfl⟩, by rw [ht]; exact hM⟩, hS.F ht⟩) hS.2.2 dX3_entry_12

set_option maxHeartbeats 4000000 in
set_option maxRecDepth 100000 in
theorem c_entry (l : Launch) {D : va_G} {aC : Nat → ClassId} {lo : Nat} {ad : Nat → Nat} {o : Nat} {n : Nat} {gl : Int32} {E : Nat → Ent} {G : Nat → Nat → Nat} {P : Nat} {co : Nat → Option Nat} {lc : Nat → Nat} {hc : Nat} {hn hs : Nat → Nat} {X : Nat → Option va_E} (ho : o = ad 0) (hnn : n < 200) (hsf : sfOk n E) : Met l yX3_entry (wsO yX3_entry cX3_entry 1 (some .int)) ({ frames := 2, cells := 2, slots := 26, locals := 32 } : Room) (mPc D vwCl (tyA aC) lo ad (ctC aC ad n gl E G P co lc hc hn hs X) [.ref o]) (mQ1 D vwCl lo (fun v ad1 ct1 => v = .int (nI (n + 1)) ∧ (∀ k, k ≠ 2 * (n + 1) + 8 → k ≠ 2 * (n + 1) + 9 → ad1 k = ad k) ∧ ct1 = ctC aC ad1 (n + 1) gl (va_up E (n + 1) (0, 0, false, none, 0)) (va_up G (n + 1) (fun _ => 0)) P co lc hc hn hs X)) 2 26 (fun q => lo ≤ q) := by
  refine Met.ofW (cc := cX3_entry) (maxL := 1) (ret := (some .int)) (by decide) rfl ?_
  intro pr en s0 mm args below meth cc0 s₁ B hml hv
  obtain ⟨rfl, hlo, hM, hKK⟩ := hv
  have hK := hKK.1
  have hr := B.returns
  have hts := atoms_spec (ws := (wsO yX3_entry cX3_entry 1 (some .int))) B.pre
  have F : CallFix pr mm cc0 cX3_entry 1 s0 (([.ref o] : List Value).toArray) (wsO yX3_entry cX3_entry 1 (some .int)) RX3 := ⟨B.exec, B.bytes, hml, findClass_of_methodNamed B.named, hts⟩
  have hx := F.1
  have hb := F.2.1
  have hlocks := B.notSynchronized
  have hS : va_S (fun q => lo ≤ q) s0.heap s0.heap [] := va_S.rf
  have hl := lv_entry ([.ref o]) (n := 1) (Nat.le_of_ble_eq_true rfl)
  rw [lg_entry_eq]
  generalize (lg_sl ([.ref o]) ++ List.replicate (1 - (lg_sl ([.ref o])).length) Slot.unset).toArray = ls at hl ⊢
  have hl : lv_has ls 1 [(0, .ref o)] := hl
  refine lv_aload_n hx hb dX3_entry_0 rfl (lv_at hl 0 rfl) ?_
  refine m_tv (ho) ?_
  refine m_get F (ci := 3) (v := .int (nI n)) (fun w h => tb_O (inX3 w h)) hK hM ctC_0 rfl 1 (by decide) (tb_O lkX3_15) rfl dX3_entry_1 ?_
  refine lv_sipush (v := (nI 200)) hx hb dX3_entry_4 (by decide) ?_
  refine m_icmp_lt F (a := n) (b := 200) (by omega) (by omega) (tgt := 13) dX3_entry_7 (by decide) (fun c_7 => ?_) (fun c_7 => ?_)
  · skip
    refine lv_aload_n hx hb dX3_entry_13 rfl (lv_at hl 0 rfl) ?_
    refine lv_dup hx hb dX3_entry_14 rfl ?_
    refine m_tv (ho) ?_
    refine m_get F (ci := 3) (v := .int (nI n)) (fun w h => tb_O (inX3 w h)) hK hM ctC_0 rfl 1 (by decide) (tb_O lkX3_15) rfl dX3_entry_15 ?_
    refine lv_iconst (v := (nI 1)) hx hb dX3_entry_18 (by decide) ?_
    refine lv_iadd hx hb dX3_entry_19 ?_
    refine m_top (nI_add n 1) ?_
    refine m_sv (ho) ?_
    refine m_put F (ci := 3) (v := .int (nI (n + 1))) (fun w h => tb_O (inX3 w h)) mc_X3 hK hM hS ctC_0 1 (by decide) (tb_O lkX3_15) rfl rfl rfl (Nat.le_of_ble_eq_true rfl) dX3_entry_20 (fun H locs hM hS => ?_)
    have hM : mw D vwCl lo ad (va_up (ctC aC ad n gl E G P co lc hc hn hs X) 0 (some (.inr (3, [.ref (ad 1), .int (nI (n + 1)), .ref (ad 2), .ref (ad 5), .int gl])))) H := hM
    refine lv_aload_n hx hb dX3_entry_23 rfl (lv_at hl 0 rfl) ?_
    refine m_tv (ho) ?_
    refine m_get F (ci := 3) (v := .ref (ad 1)) (fun w h => tb_O (inX3 w h)) hK hM (va_up_self _ _ _) rfl 0 (by decide) (tb_O lkX3_11) rfl dX3_entry_24 ?_
    refine lv_aload_n hx hb dX3_entry_27 rfl (lv_at hl 0 rfl) ?_
    refine m_tv (ho) ?_
    refine m_get F (ci := 3) (v := .int (nI (n + 1))) (fun w h => tb_O (inX3 w h)) hK hM (va_up_self _ _ _) rfl 1 (by decide) (tb_O lkX3_15) rfl dX3_entry_28 ?_
    refine m_new F (ci := 0) (fs := [.null, .int 0, .int 0, .int 0, .null, .int 0]) (fun w h => tb_O (inX0 w h)) mc_X0 (tb_O clX3_9) (tb_O instX0) (tb_O iniX0) hK hM hS hlo (2 * (n + 1) + 8) (by rw [va_up_ne _ _ (by omega)]; exact ctC_free (by omega) (by omega) (by omega)) (fun j hj => by rcases (show j = 0 ∨ j = 1 ∨ j = 2 ∨ j = 3 ∨ j = 4 ∨ j = 5 by omega) with rfl | rfl | rfl | rfl | rfl | rfl <;> rfl) (Nat.le_of_ble_eq_true rfl) (Nat.le_of_ble_eq_true rfl) dX3_entry_31 (fun qe H hM hS => ?_)
    obtain ⟨ad1, had1⟩ : ∃ a, a = va_up ad (2 * (n + 1) + 8) qe := ⟨_, rfl⟩
    rw [← had1] at hM
    have hqe : qe = ad1 (2 * (n + 1) + 8) := by rw [had1, va_up_self]
    have ho : o = ad1 0 := by rw [had1, va_up_ne _ _ (by omega)]; exact ho
    have hM : mw D vwCl lo ad1 (va_up (va_up (ctC aC ad n gl E G P co lc hc hn hs X) 0 (some (.inr (3, [.ref (ad 1), .int (nI (n + 1)), .ref (ad 2), .ref (ad 5), .int gl])))) (2 * (n + 1) + 8) (some (.inr (0, [.null, .int 0, .int 0, .int 0, .null, .int 0])))) H := hM
    refine W.widen (k := 1) (n := 6) (by omega) (by omega) ?_
    refine lv_dup hx hb dX3_entry_34 rfl ?_
    refine m_ret0 (va_runI (As := []) (rest := [.ref qe, .int (nI (n + 1)), .ref (ad 1)]) F (c_Einit l (ks := 2 * (n + 1) + 9) hqe (va_up_self _ _ _) (by rw [va_up_ne _ _ (by omega), va_up_ne _ _ (by omega)]; exact ctC_free (by omega) (by omega) (by omega)) (by omega)) (cwI 0 F.2.2.2.2 (go_O (fun _ h => tb_O h) cdX0_init) rfl rfl rfl (F.2.2.2.2 _ (tb_O iniX0)) (F.2.2.2.2 _ (tb_O mlX3_36)) (F.2.2.2.2 _ (tb_O imX0_init)) rfl (by decide +kernel) ⟨Nat.le_of_ble_eq_true rfl, Nat.le_of_ble_eq_true rfl⟩) (mPreS hKK hM (Nat.le_trans hlo hS.1)) rfl rfl hl.1 rfl (lv_room (Nat.le_of_ble_eq_true rfl)) dX3_entry_35 ⟨Nat.le_of_ble_eq_true rfl, Nat.le_of_ble_eq_true rfl⟩) hS (fun ad2 ctx H locs hp hM hS => ?_)
    obtain ⟨had2, rfl⟩ := hp
    have ho : o = ad2 0 := by rw [had2 0 (by omega)]; exact ho
    have hqe : qe = ad2 (2 * (n + 1) + 8) := by rw [had2 (2 * (n + 1) + 8) (by omega)]; exact hqe
    have hM : mw D vwCl lo ad2 (va_up (va_up (va_up (va_up (ctC aC ad n gl E G P co lc hc hn hs X) 0 (some (.inr (3, [.ref (ad 1), .int (nI (n + 1)), .ref (ad 2), .ref (ad 5), .int gl])))) (2 * (n + 1) + 8) (some (.inr (0, [.null, .int 0, .int 0, .int 0, .null, .int 0])))) (2 * (n + 1) + 9) (some (iA aC 20 (fun _ => 0)))) (2 * (n + 1) + 8) (some (.inr (0, [.ref (ad2 (2 * (n + 1) + 9)), .int 0, .int 0, .int 0, .null, .int 0])))) H := hM
    refine W.widen (k := 2) (n := 26) (by omega) (by omega) ?_
    refine m_val (v' := .ref (ad2 (2 * (n + 1) + 8))) (by rw [hqe]) ?_
    refine m_uv (show ad 1 = ad2 1 by rw [had2 1 (by omega), had1, va_up_ne _ _ (by omega)]) ?_
    refine m_aast F hK hM hS 1 (ci := 0) (r := (RX0, TX0, 6)) rfl rfl (j := n + 1) ((va_up_ne _ _ (by omega)).trans ((va_up_ne _ _ (by omega)).trans ((va_up_ne _ _ (by omega)).trans ((va_up_ne _ _ (by decide)).trans ctC_1)))) (va_up_self _ _ _) (by omega) (by decide) dX3_entry_38 (fun H locs hM hS => ?_)
    have hM : mw D vwCl lo ad2 (va_up (va_up (va_up (va_up (va_up (ctC aC ad n gl E G P co lc hc hn hs X) 0 (some (.inr (3, [.ref (ad 1), .int (nI (n + 1)), .ref (ad 2), .ref (ad 5), .int gl])))) (2 * (n + 1) + 8) (some (.inr (0, [.null, .int 0, .int 0, .int 0, .null, .int 0])))) (2 * (n + 1) + 9) (some (iA aC 20 (fun _ => 0)))) (2 * (n + 1) + 8) (some (.inr (0, [.ref (ad2 (2 * (n + 1) + 9)), .int 0, .int 0, .int 0, .null, .int 0])))) 1 (some (qA (aC 1) 201 (va_up (rowE ad n) (n + 1) (some (ad2 (2 * (n + 1) + 8))))))) H := hM
    refine lv_aload_n hx hb dX3_entry_39 rfl (lv_at hl 0 rfl) ?_
    refine m_tv (ho) ?_
    refine m_get F (ci := 3) (v := .int (nI (n + 1))) (fun w h => tb_O (inX3 w h)) hK hM ((va_up_ne _ _ (by decide)).trans ((va_up_ne _ _ (by omega)).trans ((va_up_ne _ _ (by omega)).trans ((va_up_ne _ _ (by omega)).trans (va_up_self _ _ _))))) rfl 1 (by decide) (tb_O lkX3_15) rfl dX3_entry_40 ?_
    have hadN : ∀ k, k ≠ 2 * (n + 1) + 8 → k ≠ 2 * (n + 1) + 9 → ad2 k = ad k := fun k a b => by rw [had2 k b, had1, va_up_ne _ _ a]
    have hct := ctC_grow (aC := aC) (ad := ad) (ad1 := ad2) (n := n) (gl := gl) (E := E) (G := G) (P := P) (co := co) (lc := lc) (hc := hc) (hn := hn) (hs := hs) (X := X) (f := va_up (va_up (va_up (va_up (va_up (ctC aC ad n gl E G P co lc hc hn hs X) 0 (some (.inr (3, [.ref (ad 1), .int (nI (n + 1)), .ref (ad 2), .ref (ad 5), .int gl])))) (2 * (n + 1) + 8) (some (.inr (0, [.null, .int 0, .int 0, .int 0, .null, .int 0])))) (2 * (n + 1) + 9) (some (iA aC 20 (fun _ => 0)))) (2 * (n + 1) + 8) (some (.inr (0, [.ref (ad2 (2 * (n + 1) + 9)), .int 0, .int 0, .int 0, .null, .int 0])))) 1 (some (qA (aC 1) 201 (va_up (rowE ad n) (n + 1) (some (ad2 (2 * (n + 1) + 8))))))) hadN hnn hsf (by rw [va_up_ne _ _ (by decide), va_up_ne _ _ (by omega), va_up_ne _ _ (by omega), va_up_ne _ _ (by omega), va_up_self]) (va_up_self _ _ _) (by rw [va_up_ne _ _ (by omega), va_up_self]) (by rw [va_up_ne _ _ (by omega), va_up_ne _ _ (by omega), va_up_self]) (fun k a b c e => by rw [va_up_ne _ _ b, va_up_ne _ _ c, va_up_ne _ _ e, va_up_ne _ _ c, va_up_ne _ _ a])
    rw [hct] at hM
    exact W.iret hx hb hr (fun t ht hW => ⟨⟨_, _, _, rfl, ⟨rfl, hadN, rfl⟩, by rw [ht]; exact hM⟩, hS.F ht⟩) hS.2.2 dX3_entry_43
  · skip
    exact absurd c_7 (by omega)

set_option maxHeartbeats 4000000 in
set_option maxRecDepth 100000 in
theorem c_rforget (l : Launch) {D : va_G} {aC : Nat → ClassId} {lo : Nat} {ad : Nat → Nat} {ct : Nat → Option va_E} {P : Nat} {co : Nat → Option Nat} (h2 : ct 2 = some (.inr (2, [.ref (ad 3), .ref (ad 4), .int (nI P)]))) (h3 : ct 3 = some (iA aC 1880 (fun j => cV (co j)))) : Met l yX2_forget (wsO yX2_forget cX2_forget 1 none) ({ frames := 1, cells := 0, slots := 0, locals := 23 } : Room) (mPc D vwCl (tyA aC) lo ad ct [.ref (ad 2)]) (mD0 D vwCl lo ad (va_up (va_up ct 3 (some (iA aC 1880 (fun j => cV (clC co j))))) 2 (some (.inr (2, [.ref (ad 3), .ref (ad 4), .int (nI 0)]))))) 0 0 (fun q => lo ≤ q) := by
  refine Met.ofW (cc := cX2_forget) (maxL := 1) (ret := none) (by decide) rfl ?_
  intro pr en s0 mm args below meth cc0 s₁ B hml hv
  obtain ⟨rfl, hlo, hM, hKK⟩ := hv
  have hK := hKK.1
  have hr := B.returns
  have hts := atoms_spec (ws := (wsO yX2_forget cX2_forget 1 none)) B.pre
  have F : CallFix pr mm cc0 cX2_forget 1 s0 (([.ref (ad 2)] : List Value).toArray) (wsO yX2_forget cX2_forget 1 none) RX2 := ⟨B.exec, B.bytes, hml, findClass_of_methodNamed B.named, hts⟩
  have hx := F.1
  have hb := F.2.1
  have hlocks := B.notSynchronized
  have hS : va_S (fun q => lo ≤ q) s0.heap s0.heap [] := va_S.rf
  have hl := lv_entry ([.ref (ad 2)]) (n := 1) (Nat.le_of_ble_eq_true rfl)
  rw [lg_entry_eq]
  generalize (lg_sl ([.ref (ad 2)]) ++ List.replicate (1 - (lg_sl ([.ref (ad 2)])).length) Slot.unset).toArray = ls at hl ⊢
  have hl : lv_has ls 1 [(0, .ref (ad 2))] := hl
  refine lv_aload_n hx hb dX2_forget_0 rfl (lv_at hl 0 rfl) ?_
  refine m_get F (ci := 2) (v := .ref (ad 3)) (fun w h => tb_O (inX2 w h)) hK hM h2 rfl 0 (by decide) (tb_O lkX2_11) rfl dX2_forget_1 ?_
  refine lv_iconst (v := (-1)) hx hb dX2_forget_4 (by decide) ?_
  refine m_d0 (ct1 := va_up ct 3 (some (iA aC 1880 (flI (fun j => cV (co j)) (-1) 1880)))) (va_runS (As := [.ref (ad 3), .int (-1)]) (rest := []) F (c_fill l (k := 3) rfl h3 (by decide)) (va_cwS 2 F.2.2.2.2 (go_S (fun _ h => tb_O h) mlX2_15 stJ7_fill iniJ7 cdJ7_fill) rfl rfl rfl (by decide +kernel) ⟨Nat.le_of_ble_eq_true rfl, Nat.le_of_ble_eq_true rfl⟩) (mPreS hKK hM (Nat.le_trans hlo hS.1)) rfl rfl hl.1 rfl (lv_room (Nat.le_of_ble_eq_true rfl)) dX2_forget_5 ⟨Nat.le_of_ble_eq_true rfl, Nat.le_of_ble_eq_true rfl⟩) hS (fun H locs hM hS => ?_)
  have hM : mw D vwCl lo ad (va_up ct 3 (some (iA aC 1880 (fun j => cV (clC co j))))) H := by rw [flI_cV] at hM; exact hM
  refine lv_aload_n hx hb dX2_forget_8 rfl (lv_at hl 0 rfl) ?_
  refine lv_iconst (v := (nI 0)) hx hb dX2_forget_9 (by decide) ?_
  refine m_put F (ci := 2) (v := .int (nI 0)) (fun w h => tb_O (inX2 w h)) mc_X2 hK hM hS ((va_up_ne _ _ (by decide)).trans h2) 2 (by decide) (tb_O lkX2_24) rfl rfl rfl (Nat.le_of_ble_eq_true rfl) dX2_forget_10 (fun H locs hM hS => ?_)
  have hM : mw D vwCl lo ad (va_up (va_up ct 3 (some (iA aC 1880 (fun j => cV (clC co j))))) 2 (some (.inr (2, [.ref (ad 3), .ref (ad 4), .int (nI 0)])))) H := hM
  exact W.vret hx hb hr (fun t ht hW => ⟨⟨_, _, rfl, ⟨rfl, rfl⟩, by rw [ht]; exact hM⟩, hS.F ht⟩) hS.2.2 dX2_forget_13

set_option maxHeartbeats 4000000 in
set_option maxRecDepth 100000 in
theorem c_clear (l : Launch) {D : va_G} {aC : Nat → ClassId} {lo : Nat} {ad : Nat → Nat} {n : Nat} {gl : Int32} {E : Nat → Ent} {G : Nat → Nat → Nat} {P : Nat} {co : Nat → Option Nat} {lc : Nat → Nat} {hc : Nat} {hn hs : Nat → Nat} {X : Nat → Option va_E}  : Met l yX3_clear (wsO yX3_clear cX3_clear 2 (some .int)) ({ frames := 2, cells := 0, slots := 0, locals := 43 } : Room) (mPc D vwCl (tyA aC) lo ad (ctC aC ad n gl E G P co lc hc hn hs X) [.ref (ad 0)]) (mD1 D vwCl lo (.int (nI P)) ad (ctC aC ad n gl E G 0 (clC co) lc hc hn hs X)) 0 0 (fun q => lo ≤ q) := by
  refine Met.ofW (cc := cX3_clear) (maxL := 2) (ret := (some .int)) (by decide) rfl ?_
  intro pr en s0 mm args below meth cc0 s₁ B hml hv
  obtain ⟨rfl, hlo, hM, hKK⟩ := hv
  have hK := hKK.1
  have hr := B.returns
  have hts := atoms_spec (ws := (wsO yX3_clear cX3_clear 2 (some .int))) B.pre
  have F : CallFix pr mm cc0 cX3_clear 2 s0 (([.ref (ad 0)] : List Value).toArray) (wsO yX3_clear cX3_clear 2 (some .int)) RX3 := ⟨B.exec, B.bytes, hml, findClass_of_methodNamed B.named, hts⟩
  have hx := F.1
  have hb := F.2.1
  have hlocks := B.notSynchronized
  have hS : va_S (fun q => lo ≤ q) s0.heap s0.heap [] := va_S.rf
  have hl := lv_entry ([.ref (ad 0)]) (n := 2) (Nat.le_of_ble_eq_true rfl)
  rw [lg_entry_eq]
  generalize (lg_sl ([.ref (ad 0)]) ++ List.replicate (2 - (lg_sl ([.ref (ad 0)])).length) Slot.unset).toArray = ls at hl ⊢
  have hl : lv_has ls 2 [(0, .ref (ad 0))] := hl
  refine lv_aload_n hx hb dX3_clear_0 rfl (lv_at hl 0 rfl) ?_
  refine m_get F (ci := 3) (v := .ref (ad 2)) (fun w h => tb_O (inX3 w h)) hK hM ctC_0 rfl 2 (by decide) (tb_O lkX3_22) rfl dX3_clear_1 ?_
  refine m_get F (ci := 2) (v := .int (nI P)) (fun w h => tb_O (inX2 w h)) hK hM ctC_2 rfl 2 (by decide) (tb_O lkX3_67) rfl dX3_clear_4 ?_
  refine lv_istore_n (lv' := [(1, .int (nI P)), (0, .ref (ad 0))]) hx hb dX3_clear_7 rfl hl (by decide) rfl (fun ls hl => ?_)
  refine lv_aload_n hx hb dX3_clear_8 rfl (lv_at hl 1 rfl) ?_
  refine m_get F (ci := 3) (v := .ref (ad 2)) (fun w h => tb_O (inX3 w h)) hK hM ctC_0 rfl 2 (by decide) (tb_O lkX3_22) rfl dX3_clear_9 ?_
  refine m_d0 (ct1 := va_up (va_up (ctC aC ad n gl E G P co lc hc hn hs X) 3 (some (iA aC 1880 (fun j => cV (clC co j))))) 2 (some (.inr (2, [.ref (ad 3), .ref (ad 4), .int (nI 0)])))) (va_runV (As := []) (rest := []) F (c_rforget l ctC_2 ctC_3) (cwV 0 F.2.2.2.2 (go_V (fun _ h => tb_O h) mlX3_70 imX2_forget seX2_forget iniX2 cdX2_forget) rfl rfl rfl (by decide +kernel) ⟨Nat.le_of_ble_eq_true rfl, Nat.le_of_ble_eq_true rfl⟩) (mPreV hKK hM (Nat.le_trans hlo hS.1) ctC_2 rfl) rfl rfl hl.1 rfl (lv_room (Nat.le_of_ble_eq_true rfl)) dX3_clear_12 ⟨Nat.le_of_ble_eq_true rfl, Nat.le_of_ble_eq_true rfl⟩) hS (fun H locs hM hS => ?_)
  have hM : mw D vwCl lo ad (ctC aC ad n gl E G 0 (clC co) lc hc hn hs X) H := by rw [ctC_co, ctC_P] at hM; exact hM
  refine lv_iload_n hx hb dX3_clear_15 rfl (lv_at hl 0 rfl) ?_
  exact W.iret hx hb hr (fun t ht hW => ⟨⟨_, _, _, rfl, ⟨rfl, rfl, rfl⟩, by rw [ht]; exact hM⟩, hS.F ht⟩) hS.2.2 dX3_clear_16
