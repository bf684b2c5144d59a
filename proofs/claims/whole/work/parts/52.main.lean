theorem law_c {L i : Nat} (hL : L ≤ 2048) (hi : i ≤ 2048) (h : ¬ Int32.ofNat L - nI 4 < nI i) : i + 4 ≤ L := by
  have h1 : (nI L - nI 4).toInt = (L : Int) - 4 := pk_sub_toInt (by omega) (by decide)
  have h2 : (nI i).toInt = (i : Int) := nI_toInt (by omega)
  have h3 : ¬ (nI L - nI 4).toInt < (nI i).toInt := fun q => h (Int32.lt_iff_toInt_lt.mpr q)
  rw [h1, h2] at h3
  omega
set_option maxHeartbeats 4000000 in
set_option maxRecDepth 100000 in
/-- THE LAW'S LOOP -/
theorem law_loop {pr : Program} {l : Launch} {en : Env} {s0 : State} {mm : MethodId} {below : List Frame} {meth : Method} {cc0 : Code} {D : va_G} {aC : Nat → ClassId} {lo b L : Nat} {xs : Nat → Int32} (F : CallFix pr mm cc0 code 4 s0 #[Value.ref b] lw_tbl RL) (hr : meth.sig.returnType = ret) (hlocks : meth.locks = false) (hKK : mK D vwCl (tyA aC) s0) (hX : va_X b L xs s0 s0.heap) (hbl : b < s0.heap.size) (hlo9 : s0.heap.size = lo) (hL : L ≤ 2048) :
    ∀ (fu t : Nat), 4 * t ≤ L → L + 1 - 4 * t ≤ fu → ∀ (ad : Nat → Nat) (H : Heap) (locs : List Loc) (ls : Array Slot), lawI D aC lo b t ad H ls → va_S (fun q => lo ≤ q) s0.heap H locs → W pr l en room_1 s0 mm #[Value.ref b] below meth cc0 H locs (19 + 2 * t) (10953 + 26 * t) (lw_Z below #[Value.ref b] s0) (F0 mm 18 ls []) := by
  have hx := F.1
  have hb := F.2.1
  have hlo : lo ≤ s0.heap.size := by omega
  have hlb : ¬ lo ≤ b := by omega
  intro fu
  induction fu with
  | zero =>
    intro t h1 h2
    exact absurd h2 (by omega)
  | succ fu ih =>
    intro t ht hfu ad H locs ls hI hS
    obtain ⟨n, gl, E, G, P, co, lc, hc, hn, hs, th, sz, sg, me, gr, coM, tb, wd, sm, rc, hM, hRE, hRX, hl⟩ := hI
    have h200 := hRE.1
    refine lv_iload_n hx hb dL_law_18 rfl (lv_at hl 3 rfl) ?_
    refine lv_aload_n hx hb dL_law_19 rfl (lv_at hl 0 rfl) ?_
    refine va_slen hx hb hX hbl hlb hS dL_law_20 ?_
    refine lv_iconst (v := nI 4) hx hb dL_law_21 (by decide) ?_
    refine lv_isub hx hb dL_law_22 ?_
    refine lv_icmp_gt (tgt := 382) hx hb dL_law_23 (by decide) (fun c_23 => ?_) (fun c_23 => ?_)
    · refine lv_iconst (v := 1) hx hb dL_law_382 (by decide) ?_
      refine va_forget (fun q hq => by rw [hlo9]; exact hS.2.2 q hq) ?_
      refine W.widen (k := 600000) (n := 7302250) (by omega) (by omega) ?_
      exact lw_ret hx hb hr hlocks dL_law_383
    have htL : 4 * t + 4 ≤ L := law_c hL (by omega) c_23
    have kk : ∀ (ad1 : Nat → Nat) (H1 : Heap) (locs1 : List Loc) (ls1 : Array Slot), lawI D aC lo b t ad1 H1 ls1 → va_S (fun q => lo ≤ q) s0.heap H1 locs1 → W pr l en room_1 s0 mm #[Value.ref b] below meth cc0 H1 locs1 (19 + 2 * t + 2) (10953 + 26 * t + 26) (lw_Z below #[Value.ref b] s0) (F0 mm 376 ls1 []) := by
      intro ad1 H1 locs1 ls1 hI1 hS1
      obtain ⟨n, gl, E, G, P, co, lc, hc, hn, hs, th, sz, sg, me, gr, coM, tb, wd, sm, rc, hM1, hRE1, hRX1, hl1⟩ := hI1
      refine lv_iinc (v := nI (4 * (t + 1))) (lv' := [(3, .int (nI (4 * (t + 1)))), (0, .ref b), (1, .ref (ad1 0)), (2, .ref (ad1 1000))]) hx hb dL_law_376 hl1 (k := 3) rfl ((nI_add (4 * t) 4).trans (congrArg nI (by omega))) (by decide) rfl (fun ls2 hl2 => ?_)
      refine lv_goto (tgt := 18) hx hb dL_law_379 (by decide) ?_
      refine W.widen (k := 19 + 2 * (t + 1)) (n := 10953 + 26 * (t + 1)) (by omega) (by omega) ?_
      exact ih (t + 1) (by omega) (by omega) ad1 _ _ _ ⟨n, gl, E, G, P, co, lc, hc, hn, hs, th, sz, sg, me, gr, coM, tb, wd, sm, rc, hM1, hRE1, hRX1, lv_sub hl2 [1, 2, 3, 0] rfl⟩ hS1
    refine lv_aload_n hx hb dL_law_26 rfl (lv_at hl 0 rfl) ?_
    refine lv_iload_n hx hb dL_law_27 rfl (lv_at hl 3 rfl) ?_
    refine va_sld hx hb hX hbl hlb hS (vp_in_nI (show 4 * t < L by omega) (by omega)) dL_law_28 ?_
    refine lv_bipush (v := nI 15) hx hb dL_law_29 (by decide) ?_
    refine lv_iand hx hb dL_law_31 ?_
    obtain ⟨j, hj, hje⟩ := pk_andE (xs (nI (4 * t)).toNatClampNeg) (m := nI 15) 4 (by decide +kernel)
    refine m_top hje ?_
    rcases (show j = 0 ∨ j = 1 ∨ j = 2 ∨ j = 3 ∨ j = 4 ∨ j = 5 ∨ j = 6 ∨ j = 7 ∨ j = 8 ∨ j = 9 ∨ j = 10 ∨ j = 11 ∨ j = 12 ∨ j = 13 ∨ j = 14 ∨ j = 15 by have : j < 16 := hj; omega) with rfl | rfl | rfl | rfl | rfl | rfl | rfl | rfl | rfl | rfl | rfl | rfl | rfl | rfl | rfl | rfl
    · skip
      refine lv_tableIn (x := nI 0) (off := 60) (tgt := 92) hx hb dL_law_32 (by decide +kernel) (by decide +kernel) (by decide +kernel) (by decide) ?_
      rcases Nat.lt_or_ge n 200 with q | q
      · exact lwv_entry F hKK hX hbl hlo hlb htL hL kk hM hRE hRX hl hS q
      · exact lwv_entryR F hKK hX hbl hlo hlb htL hL kk hM hRE hRX hl hS (by omega)
    · skip
      refine lv_tableIn (x := nI 1) (off := 73) (tgt := 105) hx hb dL_law_32 (by decide +kernel) (by decide +kernel) (by decide +kernel) (by decide) ?_
      rcases hc9 : cLiv n E (xs (4 * t + 1)) with _ | j
      · exact lwv_letterU F hKK hX hbl hlo hlb htL hL kk hM hRE hRX hl hS rfl rfl hc9
      · obtain ⟨hj1, hj2, hd, hxj⟩ := cLiv_some h200 hc9
        cases hy : isSg (xs (4 * t + 2)) with
        | false => exact lwv_letterO F hKK hX hbl hlo hlb htL hL kk hM hRE hRX hl hS hxj rfl hj1 hj2 hd hy
        | true =>
          obtain ⟨q, hq1, hq2, hyq⟩ := isSg_of hy
          rcases Nat.lt_or_ge (E j).1 20 with z | z
          · exact lwv_letter F hKK hX hbl hlo hlb htL hL kk hM hRE hRX hl hS hxj hyq hj1 hj2 hd hq1 hq2 z
          · exact lwv_letterR F hKK hX hbl hlo hlb htL hL kk hM hRE hRX hl hS hxj hyq hj1 hj2 hd hq1 hq2 (by have := hRE.2.1 j; omega)
    · skip
      refine lv_tableIn (x := nI 2) (off := 106) (tgt := 138) hx hb dL_law_32 (by decide +kernel) (by decide +kernel) (by decide +kernel) (by decide) ?_
      rcases hc9 : cLiv n E (xs (4 * t + 1)) with _ | j
      · exact lwv_dropU F hKK hX hbl hlo hlb htL hL kk hM hRE hRX hl hS rfl hc9
      · obtain ⟨hj1, hj2, hd, hxj⟩ := cLiv_some h200 hc9
        exact lwv_drop F hKK hX hbl hlo hlb htL hL kk hM hRE hRX hl hS hxj hj1 hj2 hd
    · skip
      refine lv_tableIn (x := nI 3) (off := 129) (tgt := 161) hx hb dL_law_32 (by decide +kernel) (by decide +kernel) (by decide +kernel) (by decide) ?_
      cases hk : okC (xs (4 * t + 1)) (xs (4 * t + 2)) (xs (4 * t + 3)) with
      | false => exact lwv_costO F hKK hX hbl hlo hlb htL hL kk hM hRE hRX hl hS rfl rfl rfl hk
      | true =>
        obtain ⟨pl, q, cs, a1, a2, a3, a4, a5, a6, a7⟩ := okC_of hk
        exact lwv_cost F hKK hX hbl hlo hlb htL hL kk hM hRE hRX hl hS a5 a6 a7 a1 a2 a3 a4
    · skip
      refine lv_tableIn (x := nI 4) (off := 172) (tgt := 204) hx hb dL_law_32 (by decide +kernel) (by decide +kernel) (by decide +kernel) (by decide) ?_
      exact lwv_clear F hKK hX hbl hlo hlb htL hL kk hM hRE hRX hl hS
    · skip
      refine lv_tableIn (x := nI 5) (off := 185) (tgt := 217) hx hb dL_law_32 (by decide +kernel) (by decide +kernel) (by decide +kernel) (by decide) ?_
      cases hk : isK (xs (4 * t + 1)) with
      | false => exact lwv_findN F hKK hX hbl hlo hlb htL hL kk hM hRE hRX hl hS rfl hk
      | true =>
        obtain ⟨k, a1, a2, a3⟩ := isK_of hk
        exact lwv_find F hKK hX hbl hlo hlb htL hL kk hM hRE hRX hl hS a3 a1 a2
    · skip
      refine lv_tableIn (x := nI 6) (off := 208) (tgt := 240) hx hb dL_law_32 (by decide +kernel) (by decide +kernel) (by decide +kernel) (by decide) ?_
      cases hk : hasB hc (xs (4 * t + 1)) with
      | false => exact lwv_wordU F hKK hX hbl hlo hlb htL hL kk hM hRE hRX hl hS rfl hk
      | true =>
        obtain ⟨j, a1, a2⟩ := hasB_of hk
        exact lwv_word F hKK hX hbl hlo hlb htL hL kk hM hRE hRX hl hS a2 a1
    · skip
      refine lv_tableIn (x := nI 7) (off := 231) (tgt := 263) hx hb dL_law_32 (by decide +kernel) (by decide +kernel) (by decide +kernel) (by decide) ?_
      cases hk : hasB hc (xs (4 * t + 1)) with
      | false => exact lwv_sumU F hKK hX hbl hlo hlb htL hL kk hM hRE hRX hl hS rfl hk
      | true =>
        obtain ⟨j, a1, a2⟩ := hasB_of hk
        exact lwv_sum F hKK hX hbl hlo hlb htL hL kk hM hRE hRX hl hS a2 a1
    · skip
      refine lv_tableIn (x := nI 8) (off := 255) (tgt := 287) hx hb dL_law_32 (by decide +kernel) (by decide +kernel) (by decide +kernel) (by decide) ?_
      by_cases hy0 : xs (4 * t + 2) = 0
      · by_cases hx9 : xs (4 * t + 1) = -1 ∨ isGr (xs (4 * t + 1)) = true
        · exact lwv_withinL F hKK hX hbl hlo hlb htL hL kk hM hRE hRX hl hS rfl (hy0.trans nI_0.symm) hx9
        · exact lwv_withinLO F hKK hX hbl hlo hlb htL hL kk hM hRE hRX hl hS rfl (hy0.trans nI_0.symm) hx9
      · rcases hc9 : cLiv n E (xs (4 * t + 2)) with _ | j
        · exact lwv_withinU F hKK hX hbl hlo hlb htL hL kk hM hRE hRX hl hS rfl rfl hy0 hc9
        · obtain ⟨hj1, hj2, hd, hxj⟩ := cLiv_some h200 hc9
          cases hg : isGr (xs (4 * t + 1)) with
          | false => exact lwv_withinO F hKK hX hbl hlo hlb htL hL kk hM hRE hRX hl hS rfl hxj hj1 hj2 hd hg
          | true => exact lwv_within F hKK hX hbl hlo hlb htL hL kk hM hRE hRX hl hS rfl hxj hj1 hj2 hd hg
    · skip
      refine lv_tableIn (x := nI 9) (off := 288) (tgt := 320) hx hb dL_law_32 (by decide +kernel) (by decide +kernel) (by decide +kernel) (by decide) ?_
      rcases hc9 : cLiv n E (xs (4 * t + 1)) with _ | j
      · exact lwv_abU1 F hKK hX hbl hlo hlb htL hL kk hM hRE hRX hl hS rfl rfl hc9
      · rcases hc8 : cLiv n E (xs (4 * t + 2)) with _ | k
        · exact lwv_abU2 F hKK hX hbl hlo hlb htL hL kk hM hRE hRX hl hS rfl rfl hc8
        · obtain ⟨hj1, hj2, hd, hxj⟩ := cLiv_some h200 hc9
          obtain ⟨hk1, hk2, hdk, hxk⟩ := cLiv_some h200 hc8
          by_cases hst : j = k ∨ (E k).2.2.2.1 ≠ none ∨ 0 < cnt (abO E j) n
          · exact lwv_abS F hKK hX hbl hlo hlb htL hL kk hM hRE hRX hl hS hxj hxk hj1 hj2 hd hk1 hk2 hdk hst
          · exact lwv_ab F hKK hX hbl hlo hlb htL hL kk hM hRE hRX hl hS hxj hxk hj1 hj2 hd hk1 hk2 hdk (fun z => hst (Or.inl z)) (by cases hs9 : (E k).2.2.2.1 with | none => rfl | some z => exact absurd (Or.inr (Or.inl (by rw [hs9]; intro w; cases w))) hst) (by rcases Nat.eq_zero_or_pos (cnt (abO E j) n) with z | z; exact z; exact absurd (Or.inr (Or.inr z)) hst)
    · skip
      refine lv_tableIn (x := nI 10) (off := 321) (tgt := 353) hx hb dL_law_32 (by decide +kernel) (by decide +kernel) (by decide +kernel) (by decide) ?_
      cases hk : isK (xs (4 * t + 1)) with
      | false => exact lwv_plainN F hKK hX hbl hlo hlb htL hL kk hM hRE hRX hl hS rfl hk
      | true =>
        obtain ⟨k, a1, a2, a3⟩ := isK_of hk
        exact lwv_plain F hKK hX hbl hlo hlb htL hL kk hM hRE hRX hl hS a3 a1 a2
    · skip
      refine lv_tableOut (x := nI 11) (tgt := 376) hx hb dL_law_32 (Or.inr (by decide +kernel)) (by decide) ?_
      refine W.widen (k := 19 + 2 * t + 2) (n := 10953 + 26 * t + 26) (by omega) (by omega) ?_
      exact kk ad _ _ _ ⟨n, gl, E, G, P, co, lc, hc, hn, hs, th, sz, sg, me, gr, coM, tb, wd, sm, rc, hM, hRE, hRX, hl⟩ hS
    · skip
      refine lv_tableOut (x := nI 12) (tgt := 376) hx hb dL_law_32 (Or.inr (by decide +kernel)) (by decide) ?_
      refine W.widen (k := 19 + 2 * t + 2) (n := 10953 + 26 * t + 26) (by omega) (by omega) ?_
      exact kk ad _ _ _ ⟨n, gl, E, G, P, co, lc, hc, hn, hs, th, sz, sg, me, gr, coM, tb, wd, sm, rc, hM, hRE, hRX, hl⟩ hS
    · skip
      refine lv_tableOut (x := nI 13) (tgt := 376) hx hb dL_law_32 (Or.inr (by decide +kernel)) (by decide) ?_
      refine W.widen (k := 19 + 2 * t + 2) (n := 10953 + 26 * t + 26) (by omega) (by omega) ?_
      exact kk ad _ _ _ ⟨n, gl, E, G, P, co, lc, hc, hn, hs, th, sz, sg, me, gr, coM, tb, wd, sm, rc, hM, hRE, hRX, hl⟩ hS
    · skip
      refine lv_tableOut (x := nI 14) (tgt := 376) hx hb dL_law_32 (Or.inr (by decide +kernel)) (by decide) ?_
      refine W.widen (k := 19 + 2 * t + 2) (n := 10953 + 26 * t + 26) (by omega) (by omega) ?_
      exact kk ad _ _ _ ⟨n, gl, E, G, P, co, lc, hc, hn, hs, th, sz, sg, me, gr, coM, tb, wd, sm, rc, hM, hRE, hRX, hl⟩ hS
    · skip
      refine lv_tableOut (x := nI 15) (tgt := 376) hx hb dL_law_32 (Or.inr (by decide +kernel)) (by decide) ?_
      refine W.widen (k := 19 + 2 * t + 2) (n := 10953 + 26 * t + 26) (by omega) (by omega) ?_
      exact kk ad _ _ _ ⟨n, gl, E, G, P, co, lc, hc, hn, hs, th, sz, sg, me, gr, coM, tb, wd, sm, rc, hM, hRE, hRX, hl⟩ hS
theorem ctB_first : va_up (fun _ => none) 0 (some (.inr (3, [.null, .int 0, .null, .null, .int 0]))) = ctB (fun _ => none) := by
  funext k
  by_cases hk : k = 0
  · subst hk; rw [va_up_self]; rfl
  · rw [va_up_ne _ _ hk]
    unfold ctB
    rw [if_neg hk]
    split <;> rfl
theorem ctN_first {S : Nat → Option va_E} (h : ∀ k, 1000 < k → S k = none) : va_up S 1000 (some (.inr (4, [.int 0, .null, .null, .null, .null, .null, .int 0, .int 0, .null, .null, .int 0, .null, .null, .null]))) = ctN S := by
  funext k
  by_cases hk : k = 1000
  · subst hk; rw [va_up_self]; rfl
  · rw [va_up_ne _ _ hk]
    unfold ctN
    by_cases h1 : k < 1000
    · rw [if_pos h1]
    · rw [if_neg h1, if_neg hk, h k (by omega)]
theorem ctC_move {aC : Nat → ClassId} {ad ad1 : Nat → Nat} (h : ∀ k, k < 1000 → ad1 k = ad k) : ctC aC ad 0 (-1) (fun _ => (0, 0, false, none, 0)) (fun _ _ => 0) 0 (clC (fun _ => some 0)) (fun _ => 0) 0 (fun _ => 0) (fun _ => 0) (fun _ => none) = ctC aC ad1 0 (-1) (fun _ => (0, 0, false, none, 0)) (fun _ _ => 0) 0 (clC (fun _ => some 0)) (fun _ => 0) 0 (fun _ => 0) (fun _ => 0) (fun _ => none) := by
  refine ctB_new (ad := ad1) (fun k hk => ?_) (by rw [h 1 (by omega), h 2 (by omega), h 5 (by omega)]; rfl) ?_ (by rw [h 3 (by omega), h 4 (by omega)]; rfl) ?_ rfl (by rw [h 6 (by omega), h 7 (by omega)]; rfl) rfl rfl
  · by_cases h1 : 1000 ≤ k
    · rw [ctC_x h1]
      unfold ctB
      rw [if_pos h1]
    · rw [ctB_n (by omega) (by omega)]
      by_cases h10 : k < 10
      · rcases (show k = 8 ∨ k = 9 by omega) with rfl | rfl <;> rfl
      · exact ctC_free (by omega) (by omega) (by omega)
  · rw [ctC_1]
    congr 1
    have hr : rowE ad 0 = fun _ => none := by
      funext j
      unfold rowE
      rw [if_neg (by omega)]
    rw [hr]
  · rw [ctC_3]
    congr 1
    rw [← flI_cV (co := fun _ => some 0)]
    rfl
set_option maxHeartbeats 4000000 in
set_option maxRecDepth 100000 in
/-- THE LAW, from its entry -/
theorem whole_start {p : Program} {e : Env} {s : State} {m : MethodId} {below : List Frame} {meth : Method} {c : Code} (l : Launch) {b L : Nat} {xs : Nat → Int32} (hL : L ≤ 2048) (C0 : lw_At p s m meth c b L xs) : W p l e room_1 s m #[Value.ref b] below meth c s.heap [] 0 0 (lw_Z below #[Value.ref b] s) (entryFrame m ([Value.ref b] : List Value).toArray 4) := by
  obtain ⟨hx, hb, hr, hml, hown, hts, hX, hbl, hlocks, hgv⟩ := id C0
  have F : CallFix p m c code 4 s #[Value.ref b] lw_tbl RL := ⟨hx, hb, hml, hown, hts⟩
  obtain ⟨c0, iS0, hKn0⟩ := u_known (C := RX0) (T := TX0) (N := 6) (n := 6) hts (fun w h => tb_L (inX0 w h)) (hts _ (tb_L instX0))
  obtain ⟨c1, iS1, hKn1⟩ := u_known (C := RX1) (T := TX1) (N := 3) (n := 3) hts (fun w h => tb_L (inX1 w h)) (hts _ (tb_L instX1))
  obtain ⟨c2, iS2, hKn2⟩ := u_known (C := RX2) (T := TX2) (N := 3) (n := 3) hts (fun w h => tb_L (inX2 w h)) (hts _ (tb_L instX2))
  obtain ⟨c3, iS3, hKn3⟩ := u_known (C := RX3) (T := TX3) (N := 5) (n := 5) hts (fun w h => tb_L (inX3 w h)) (hts _ (tb_L instX3))
  obtain ⟨c4, iS4, hKn4⟩ := u_known (C := RX4) (T := TX4) (N := 14) (n := 14) hts (fun w h => tb_L (inX4 w h)) (hts _ (tb_L instX4))
  obtain ⟨aI, kI, compI, hI1, hI2, hI3⟩ := Cond.arrayClass_spec (hts _ (tb_L arrI))
  obtain ⟨aZ, kZ, compZ, hZ1, hZ2, hZ3⟩ := Cond.arrayClass_spec (hts _ (tb_L arrZ))
  have hover : (Cond.arrayOver (.object RX0)).before #[Value.ref b] s = true := hts _ (List.mem_of_getElem? (i := 33) (by decide +kernel))
  have hnest : (Cond.methodLinkNest RX2 58 yX3_isSign "WordTrees").before #[Value.ref b] s = true := hts _ (List.mem_of_getElem? (i := 162) (by decide +kernel))
  obtain ⟨compE, aE, kE, hE1, hE2, hE3, hE4, hE5⟩ := Cond.arrayOver_spec hover
  obtain ⟨dC, dI, hKc⟩ : ∃ (dC : Nat → ClassId) (dI : Nat → Nat → Nat), ∀ (k : Nat) (q : vw_C), vwCl[k]? = some q → u_Kn s q.1 q.2.1 q.2.2 (dC k) (dI k) := by
    refine ⟨fun k => if k = 0 then c0 else if k = 1 then c1 else if k = 2 then c2 else if k = 3 then c3 else c4, fun k => if k = 0 then iS0 else if k = 1 then iS1 else if k = 2 then iS2 else if k = 3 then iS3 else iS4, ?_⟩
    intro k q hq
    match k, hq with
    | 0, hq => cases hq; exact hKn0
    | 1, hq => cases hq; exact hKn1
    | 2, hq => cases hq; exact hKn2
    | 3, hq => cases hq; exact hKn3
    | 4, hq => cases hq; exact hKn4
    | k + 5, hq => simp [vwCl] at hq
  obtain ⟨aC, haC0, haC1, haC2⟩ : ∃ aC : Nat → ClassId, aC 0 = aI ∧ aC 1 = aE ∧ aC 2 = aZ := ⟨fun k => if k = 0 then aI else if k = 1 then aE else aZ, rfl, rfl, rfl⟩
  have hK : va_K (dC, dI) vwCl (tyA aC) s := by
    refine ⟨hKc, fun k q hq => ?_⟩
    match k, hq with
    | 0, hq =>
      cases hq
      rw [haC0]
      exact ⟨fun n z => ⟨fun k h => (by cases h), kI, hI2, compI, hI3⟩, hI1⟩
    | 1, hq =>
      cases hq
      rw [haC1]
      exact ⟨fun n z => ⟨fun k h => (by cases h), kE, hE3, compE, hE4⟩, kE, compE, hE3, hE4, hE1, hE5⟩
    | 2, hq =>
      cases hq
      rw [haC2]
      exact ⟨fun n z => ⟨fun k h => (by cases h), kZ, hZ2, compZ, hZ3⟩, hZ1⟩
    | k + 3, hq => simp [tyA] at hq
  have hKK : mK (dC, dI) vwCl (tyA aC) s := ⟨hK, va_Nw.of rfl hnest, va_AO.of hover⟩
  obtain ⟨lo, hlo9⟩ : ∃ lo, s.heap.size = lo := ⟨_, rfl⟩
  have hlo : lo ≤ s.heap.size := by omega
  have hS : va_S (fun q => lo ≤ q) s.heap s.heap [] := va_S.rf
  have hM : mw (dC, dI) vwCl lo (fun _ => 0) (fun _ => none) s.heap := ⟨(fun k e h => by cases h), (fun j k e f h => by cases h)⟩
  have hl := lv_entry ([.ref b]) (n := 4) (Nat.le_of_ble_eq_true rfl)
  rw [lg_entry_eq]
  generalize (lg_sl ([.ref b]) ++ List.replicate (4 - (lg_sl ([.ref b])).length) Slot.unset).toArray = ls at hl ⊢
  have hl : lv_has ls 4 [(0, .ref b)] := hl
  refine m_new F (ci := 3) (fs := [.null, .int 0, .null, .null, .int 0]) (fun w h => tb_L (inX3 w h)) mc_X3 (tb_L clL_7) (tb_L instX3) (tb_L iniX3) hK hM hS hlo 0 rfl (fun j hj => by rcases (show j = 0 ∨ j = 1 ∨ j = 2 ∨ j = 3 ∨ j = 4 by omega) with rfl | rfl | rfl | rfl | rfl <;> rfl) (Nat.le_of_ble_eq_true rfl) (Nat.le_of_ble_eq_true rfl) dL_law_0 (fun q0 H hM hS => ?_)
  rw [ctB_first] at hM
  refine lv_dup hx hb dL_law_3 rfl ?_
  refine m_ret0 (va_runI (As := []) (rest := [.ref q0]) F (c_Winit l (X := fun _ => none) (o := q0) (va_up_self _ _ _).symm) (cwI 0 F.2.2.2.2 (go_O (fun _ h => tb_L h) cdX3_init) rfl rfl rfl (F.2.2.2.2 _ (tb_L iniX3)) (F.2.2.2.2 _ (tb_L mlL_9)) (F.2.2.2.2 _ (tb_L imX3_init)) rfl (by decide +kernel) ⟨Nat.le_of_ble_eq_true rfl, Nat.le_of_ble_eq_true rfl⟩) (mPreS hKK hM (Nat.le_trans hlo hS.1)) rfl rfl hl.1 rfl (lv_room (Nat.le_of_ble_eq_true rfl)) dL_law_4 ⟨Nat.le_of_ble_eq_true rfl, Nat.le_of_ble_eq_true rfl⟩) hS (fun ad1 ct1 H locs hp9 hM hS => ?_)
  obtain ⟨had1, h10, rfl⟩ := hp9
  have e0 : q0 = ad1 0 := by rw [h10, va_up_self]
  refine lv_astore_n (lv' := [(1, .ref q0), (0, .ref b)]) hx hb dL_law_7 rfl hl (by decide) rfl (fun ls hl => ?_)
  refine m_new F (ci := 4) (fs := [.int 0, .null, .null, .null, .null, .null, .int 0, .int 0, .null, .null, .int 0, .null, .null, .null]) (fun w h => tb_L (inX4 w h)) mc_X4 (tb_L clL_10) (tb_L instX4) (tb_L iniX4) hK hM hS hlo 1000 rfl (fun j hj => by rcases (show j = 0 ∨ j = 1 ∨ j = 2 ∨ j = 3 ∨ j = 4 ∨ j = 5 ∨ j = 6 ∨ j = 7 ∨ j = 8 ∨ j = 9 ∨ j = 10 ∨ j = 11 ∨ j = 12 ∨ j = 13 by omega) with rfl | rfl | rfl | rfl | rfl | rfl | rfl | rfl | rfl | rfl | rfl | rfl | rfl | rfl <;> rfl) (Nat.le_of_ble_eq_true rfl) (Nat.le_of_ble_eq_true rfl) dL_law_8 (fun q1 H hM hS => ?_)
  rw [ctN_first (fun k hk => ctC_x (by omega))] at hM
  refine lv_dup hx hb dL_law_11 rfl ?_
  refine m_ret0 (va_runI (As := []) (rest := [.ref q1]) F (c_Minit l (X := ctC aC ad1 0 (-1) (fun _ => (0, 0, false, none, 0)) (fun _ _ => 0) 0 (clC (fun _ => some 0)) (fun _ => 0) 0 (fun _ => 0) (fun _ => 0) (fun _ => none)) (o := q1) (va_up_self _ _ _).symm) (cwI 0 F.2.2.2.2 (go_O (fun _ h => tb_L h) cdX4_init) rfl rfl rfl (F.2.2.2.2 _ (tb_L iniX4)) (F.2.2.2.2 _ (tb_L mlL_12)) (F.2.2.2.2 _ (tb_L imX4_init)) rfl (by decide +kernel) ⟨Nat.le_of_ble_eq_true rfl, Nat.le_of_ble_eq_true rfl⟩) (mPreS hKK hM (Nat.le_trans hlo hS.1)) rfl rfl hl.1 rfl (lv_room (Nat.le_of_ble_eq_true rfl)) dL_law_12 ⟨Nat.le_of_ble_eq_true rfl, Nat.le_of_ble_eq_true rfl⟩) hS (fun ad2 ct2 H locs hp9 hM hS => ?_)
  obtain ⟨had2, h20, rfl⟩ := hp9
  have hmv : ∀ k, k < 1000 → ad2 k = ad1 k := fun k hk => by rw [had2 k hk, va_up_ne _ _ (by omega)]
  have f0 : q0 = ad2 0 := by rw [hmv 0 (by omega)]; exact e0
  have f1 : q1 = ad2 1000 := by rw [h20, va_up_self]
  rw [ctC_move hmv, ← ctCM] at hM
  refine lv_astore_n (lv' := [(2, .ref q1), (1, .ref q0), (0, .ref b)]) hx hb dL_law_15 rfl hl (by decide) rfl (fun ls hl => ?_)
  refine lv_iconst (v := nI 0) hx hb dL_law_16 (by decide) ?_
  refine lv_istore_n (lv' := [(3, .int (nI 0)), (2, .ref q1), (1, .ref q0), (0, .ref b)]) hx hb dL_law_17 rfl hl (by decide) rfl (fun ls hl => ?_)
  rw [f0, f1] at hl
  refine W.widen (k := 19 + 2 * 0) (n := 10953 + 26 * 0) (by decide) (by decide) ?_
  refine law_loop F hr hlocks hKK hX hbl hlo9 hL (L + 1) 0 (by omega) (by omega) ad2 _ _ _ ⟨_, _, _, _, _, _, _, _, _, _, _, _, _, _, _, _, _, _, _, _, hM, ?_, ?_, lv_sub hl [3, 2, 1, 0] rfl⟩ hS
  · refine ⟨by omega, fun _ => Nat.zero_le _, fun _ => Nat.zero_le _, fun _ => Nat.zero_le _, fun _ _ => ⟨rfl, rfl, rfl⟩, fun j a b => ?_⟩
    omega
  · refine ⟨by omega, by omega, Or.inl rfl, fun k c h => ?_, fun k c h => ?_, fun p c a b d => ?_, fun _ => Nat.zero_le _, fun j hj => absurd hj (Nat.not_lt_zero _)⟩
    · unfold clC at h
      split at h
      · cases h
      · cases h; omega
    · unfold clI at h
      split at h
      · cases h
      · cases h; omega
    · unfold clC clI
      rw [if_pos (by omega), if_pos (by omega)]
