set_option maxHeartbeats 4000000 in
set_option maxRecDepth 100000 in
theorem c_fill (l : Launch) {D : va_G} {aC : Nat → ClassId} {lo : Nat} {ad : Nat → Nat} {ct : Nat → Option va_E} {a k n : Nat} {f : Nat → Int32} {x : Int32} (ha : a = ad k) (hk : ct k = some (iA aC n f)) (hn : n < 2 ^ 31) : Met l yJ7_fill (wsO yJ7_fill cJ7_fill 4 none) ({ frames := 0, cells := 0, slots := 0, locals := 0 } : Room) (mPc D vwCl (tyA aC) lo ad ct [.ref a, .int x]) (mD0 D vwCl lo ad (va_up ct k (some (iA aC n (flI f x n))))) 0 0 (fun q => lo ≤ q) := by
  refine Met.ofW (cc := cJ7_fill) (maxL := 4) (ret := none) (by decide) rfl ?_
  intro pr en s0 mm args below meth cc0 s₁ B hml hv
  obtain ⟨rfl, hlo, hM, hKK⟩ := hv
  have hK := hKK.1
  have hr := B.returns
  have hts := atoms_spec (ws := (wsO yJ7_fill cJ7_fill 4 none)) B.pre
  have F : CallFix pr mm cc0 cJ7_fill 4 s0 (([.ref a, .int x] : List Value).toArray) (wsO yJ7_fill cJ7_fill 4 none) RJ7 := ⟨B.exec, B.bytes, hml, findClass_of_methodNamed B.named, hts⟩
  have hx := F.1
  have hb := F.2.1
  have hlocks := B.notSynchronized
  have hS : va_S (fun q => lo ≤ q) s0.heap s0.heap [] := va_S.rf
  have hl := lv_entry ([.ref a, .int x]) (n := 4) (Nat.le_of_ble_eq_true rfl)
  rw [lg_entry_eq]
  generalize (lg_sl ([.ref a, .int x]) ++ List.replicate (4 - (lg_sl ([.ref a, .int x])).length) Slot.unset).toArray = ls at hl ⊢
  have hl : lv_has ls 4 [(0, .ref a), (1, .int x)] := hl
  have loop_5 : ∀ (fu : Nat) (i : Nat), (i ≤ n) → n + 1 - i ≤ fu → ∀ (H : Heap) (locs : List Loc) (ls : Array Slot), mw D vwCl lo ad (va_up ct k (some (iA aC n (flI f x i)))) H → va_S (fun q => lo ≤ q) s0.heap H locs → lv_has ls 4 [(0, .ref a), (1, .int x), (2, .int (nI i)), (3, .int (nI n))] → W pr l en (headSpec (wsO yJ7_fill cJ7_fill 4 none) ({ frames := 0, cells := 0, slots := 0, locals := 0 } : Room)).room s0 mm (([.ref a, .int x] : List Value).toArray) below meth cc0 H locs 0 0 (MQ below (mD0 D vwCl lo ad (va_up ct k (some (iA aC n (flI f x n))))) (([.ref a, .int x] : List Value).toArray) s0 0 0 (fun q => lo ≤ q)) (F0 mm 5 ls []) := by
    intro fu
    induction fu with
    | zero =>
      intro i hi hfu H locs ls hM hS hl
      exact absurd hfu (by omega)
    | succ fu ih_5 =>
      intro i hi hfu H locs ls hM hS hl
      refine lv_iload_n hx hb dJ7_fill_5 rfl (lv_at hl 2 rfl) ?_
      refine lv_iload_n hx hb dJ7_fill_6 rfl (lv_at hl 3 rfl) ?_
      refine m_icmp_ge F (a := i) (b := n) (by omega) (by omega) (tgt := 20) dJ7_fill_7 (by decide) (fun c_7 => ?_) (fun c_7 => ?_)
      · skip
        have hin : n = i := by omega
        subst hin
        exact W.vret hx hb hr (fun t ht hW => ⟨⟨_, _, rfl, ⟨rfl, rfl⟩, by rw [ht]; exact hM⟩, hS.F ht⟩) hS.2.2 dJ7_fill_20
      · skip
        refine lv_aload_n hx hb dJ7_fill_10 rfl (lv_at hl 0 rfl) ?_
        refine lv_iload_n hx hb dJ7_fill_11 rfl (lv_at hl 2 rfl) ?_
        refine lv_iload_n hx hb dJ7_fill_12 rfl (lv_at hl 1 rfl) ?_
        refine m_uv (ha) ?_
        refine m_iast F hK hM hS 0 rfl (j := i) (x := x) (va_up_self _ _ _) (by omega) hn dJ7_fill_13 (fun H locs hM hS => ?_)
        have hM : mw D vwCl lo ad (va_up (va_up ct k (some (iA aC n (flI f x i)))) k (some (.inl (aC 0, n, .inl (upd (flI f x i) i x))))) H := hM
        have hM : mw D vwCl lo ad (va_up ct k (some (iA aC n (flI f x (i + 1))))) H := by rw [bx_uu, flI_s] at hM; exact hM
        refine lv_iinc (v := (nI (i + 1))) (lv' := [(2, .int (nI (i + 1))), (0, .ref a), (1, .int x), (3, .int (nI n))]) hx hb dJ7_fill_14 hl (k := 2) rfl (nI_1 i) (by decide) rfl (fun ls hl => ?_)
        refine lv_goto (tgt := 5) hx hb dJ7_fill_17 (by decide) ?_
        exact ih_5 (i + 1) (by omega) (by omega) _ _ _ hM hS (lv_sub hl [1, 2, 0, 3] rfl)
  refine lv_iconst (v := (nI 0)) hx hb dJ7_fill_0 (by decide) ?_
  refine lv_istore_n (lv' := [(2, .int (nI 0)), (0, .ref a), (1, .int x)]) hx hb dJ7_fill_1 rfl hl (by decide) rfl (fun ls hl => ?_)
  refine lv_aload_n hx hb dJ7_fill_2 rfl (lv_at hl 1 rfl) ?_
  refine m_tv (ha) ?_
  refine m_alen F hK hM 0 rfl hk dJ7_fill_3 ?_
  refine lv_istore_n (lv' := [(3, .int (nI n)), (2, .int (nI 0)), (0, .ref a), (1, .int x)]) hx hb dJ7_fill_4 rfl hl (by decide) rfl (fun ls hl => ?_)
  have hM : mw D vwCl lo ad (va_up ct k (some (iA aC n (flI f x 0)))) s0.heap := hM.eq (fun z => by
    rw [flI_0]
    by_cases hz : z = k
    · subst hz; rw [va_up_self]; exact hk
    · rw [va_up_ne _ _ hz])
  exact loop_5 (n + 1) 0 (Nat.zero_le _) (by omega) _ _ _ hM hS (lv_sub hl [2, 3, 1, 0] rfl)
