set_option maxHeartbeats 4000000 in
set_option maxRecDepth 100000 in
theorem lwv_sum {pr : Program} {l : Launch} {en : Env} {s0 : State} {mm : MethodId} {below : List Frame} {meth : Method} {cc0 : Code} {D : va_G} {aC : Nat → ClassId} {lo b L t : Nat} {xs : Nat → Int32} {ad : Nat → Nat} {H : Heap} {locs : List Loc} {ls : Array Slot} {n : Nat} {gl : Int32} {E : Nat → Ent} {G : Nat → Nat → Nat} {P : Nat} {co : Nat → Option Nat} {lc : Nat → Nat} {hc : Nat} {hn : Nat → Nat} {hs : Nat → Nat} {th : Nat → Bool} {sz : Nat → Nat} {sg : Nat → Nat} {me : Nat → Nat} {gr : Nat → Int32} {coM : Nat → Option Nat} {tb : Nat → Nat} {wd : Nat → Nat} {sm : Nat → Nat} {rc : Nat → Nat} (F : CallFix pr mm cc0 code 4 s0 #[Value.ref b] lw_tbl RL) (hKK : mK D vwCl (tyA aC) s0) (hX : va_X b L xs s0 s0.heap) (hbl : b < s0.heap.size) (hlo : lo ≤ s0.heap.size) (hlb : ¬ lo ≤ b) (htL : 4 * t + 4 ≤ L) (hL : L ≤ 2048) (kk : ∀ (ad1 : Nat → Nat) (H1 : Heap) (locs1 : List Loc) (ls1 : Array Slot), lawI D aC lo b t ad1 H1 ls1 → va_S (fun q => lo ≤ q) s0.heap H1 locs1 → W pr l en room_1 s0 mm #[Value.ref b] below meth cc0 H1 locs1 (19 + 2 * t + 2) (10953 + 26 * t + 26) (lw_Z below #[Value.ref b] s0) (F0 mm 376 ls1 [])) (hM : mw D vwCl lo ad (ctC aC ad n gl E G P co lc hc hn hs (ctM aC ad n th sz sg me gr gl P coM tb hc wd sm rc (fun _ => none))) H) (hRE : RE n E G th sz sg me gr) (hRX : RX P hc gl co coM hn hs wd sm) (hl : lv_has ls 4 [(0, .ref b), (1, .ref (ad 0)), (2, .ref (ad 1000)), (3, .int (nI (4 * t)))]) (hS : va_S (fun q => lo ≤ q) s0.heap H locs) {j : Nat} (hx1 : xs (4 * t + 1) = (nI j)) (hj : j < hc) : W pr l en room_1 s0 mm #[Value.ref b] below meth cc0 H locs (19 + 2 * t) (10953 + 26 * t) (lw_Z below #[Value.ref b] s0) (F0 mm 263 ls []) := by
  have hK := hKK.1
  have hx := F.1
  have hb := F.2.1
  have h200 := hRE.1
  have hP := hRX.1
  have hcz := hRX.2.1
  refine lv_aload_n hx hb dL_law_263 rfl (lv_at hl 1 rfl) ?_
  refine lv_aload_n hx hb dL_law_264 rfl (lv_at hl 0 rfl) ?_
  refine lv_iload_n hx hb dL_law_265 rfl (lv_at hl 3 rfl) ?_
  refine lv_iconst (v := (nI 1)) hx hb dL_law_266 (by decide) ?_
  refine lv_iadd hx hb dL_law_267 ?_
  refine m_top (nI_add (4 * t) 1) ?_
  refine va_sld hx hb hX hbl hlb hS (vp_in_nI (show 4 * t + 1 < L by omega) (by omega)) dL_law_268 ?_
  refine m_top (y := (nI j)) (by rw [nI_clamp (show 4 * t + 1 < 2 ^ 31 by omega)]; exact hx1) ?_
  refine m_d1 (v := .long ((nI (hs j)).toInt64)) (ct1 := ctC aC ad n gl E G P co lc hc hn hs (ctM aC ad n th sz sg me gr gl P coM tb hc wd sm rc (fun _ => none))) (va_runV (As := [.int (nI j)]) (rest := []) F (c_sum l j hcz hj) (cwV 1 F.2.2.2.2 (go_V (fun _ h => tb_L h) mlL_45 imX3_sum seX3_sum iniX3 cdX3_sum) rfl rfl rfl (by decide +kernel) ⟨Nat.le_of_ble_eq_true rfl, Nat.le_of_ble_eq_true rfl⟩) (mPreV hKK hM (Nat.le_trans hlo hS.1) ctC_0 rfl) rfl rfl hl.1 rfl (lv_room (Nat.le_of_ble_eq_true rfl)) dL_law_269 ⟨Nat.le_trans (show 19 + 2 * t + 0 ≤ 600000 by omega) (Nat.le_of_ble_eq_true rfl), Nat.le_trans (show 10953 + 26 * t + 0 ≤ 7302250 by omega) (Nat.le_of_ble_eq_true rfl)⟩) hS (fun H locs hM hS => ?_)
  refine lv_aload_n hx hb dL_law_272 rfl (lv_at hl 2 rfl) ?_
  refine lv_aload_n hx hb dL_law_273 rfl (lv_at hl 0 rfl) ?_
  refine lv_iload_n hx hb dL_law_274 rfl (lv_at hl 3 rfl) ?_
  refine lv_iconst (v := (nI 1)) hx hb dL_law_275 (by decide) ?_
  refine lv_iadd hx hb dL_law_276 ?_
  refine m_top (nI_add (4 * t) 1) ?_
  refine va_sld hx hb hX hbl hlb hS (vp_in_nI (show 4 * t + 1 < L by omega) (by omega)) dL_law_277 ?_
  refine m_top (y := (nI j)) (by rw [nI_clamp (show 4 * t + 1 < 2 ^ 31 by omega)]; exact hx1) ?_
  rw [ctCM] at hM
  refine m_d1 (v := .long ((nI (sm j)).toInt64)) (ct1 := ctM aC ad n th sz sg me gr gl P coM tb hc wd sm rc (ctC aC ad n gl E G P co lc hc hn hs (fun _ => none))) (va_runV (As := [.int (nI j)]) (rest := [.long ((nI (hs j)).toInt64)]) F (c_mSum l j hcz hj) (cwV 1 F.2.2.2.2 (go_V (fun _ h => tb_L h) mlL_49 imX4_sum seX4_sum iniX4 cdX4_sum) rfl rfl rfl (by decide +kernel) ⟨Nat.le_of_ble_eq_true rfl, Nat.le_of_ble_eq_true rfl⟩) (mPreV hKK hM (Nat.le_trans hlo hS.1) ctM_o rfl) rfl rfl hl.1 rfl (lv_room (Nat.le_of_ble_eq_true rfl)) dL_law_278 ⟨Nat.le_trans (show 19 + 2 * t + 0 ≤ 600000 by omega) (Nat.le_of_ble_eq_true rfl), Nat.le_trans (show 10953 + 26 * t + 0 ≤ 7302250 by omega) (Nat.le_of_ble_eq_true rfl)⟩) hS (fun H locs hM hS => ?_)
  rw [← ctCM] at hM
  refine W.lcmp hx hb dL_law_281 ?_
  refine m_top (y := nI 0) (by rw [(hRX.2.2.2.2.2.2.2 j hj).2]; exact lg_cmp_self) ?_
  refine lv_if_eq (tgt := 376) hx hb dL_law_282 (by decide) (fun c_282 => ?_) (fun c_282 => ?_)
  · skip
    refine W.widen (k := 19 + 2 * t + 2) (n := 10953 + 26 * t + 26) (by omega) (by omega) ?_
    exact kk ad _ _ _ ⟨n, gl, E, G, P, co, lc, hc, hn, hs, th, sz, sg, me, gr, coM, tb, wd, sm, rc, hM, hRE, hRX, lv_sub hl [0, 1, 2, 3] rfl⟩ hS
  · skip
    exact absurd nI_0 c_282

set_option maxHeartbeats 4000000 in
set_option maxRecDepth 100000 in
theorem lwv_withinLO {pr : Program} {l : Launch} {en : Env} {s0 : State} {mm : MethodId} {below : List Frame} {meth : Method} {cc0 : Code} {D : va_G} {aC : Nat → ClassId} {lo b L t : Nat} {xs : Nat → Int32} {ad : Nat → Nat} {H : Heap} {locs : List Loc} {ls : Array Slot} {n : Nat} {gl : Int32} {E : Nat → Ent} {G : Nat → Nat → Nat} {P : Nat} {co : Nat → Option Nat} {lc : Nat → Nat} {hc : Nat} {hn : Nat → Nat} {hs : Nat → Nat} {th : Nat → Bool} {sz : Nat → Nat} {sg : Nat → Nat} {me : Nat → Nat} {gr : Nat → Int32} {coM : Nat → Option Nat} {tb : Nat → Nat} {wd : Nat → Nat} {sm : Nat → Nat} {rc : Nat → Nat} (F : CallFix pr mm cc0 code 4 s0 #[Value.ref b] lw_tbl RL) (hKK : mK D vwCl (tyA aC) s0) (hX : va_X b L xs s0 s0.heap) (hbl : b < s0.heap.size) (hlo : lo ≤ s0.heap.size) (hlb : ¬ lo ≤ b) (htL : 4 * t + 4 ≤ L) (hL : L ≤ 2048) (kk : ∀ (ad1 : Nat → Nat) (H1 : Heap) (locs1 : List Loc) (ls1 : Array Slot), lawI D aC lo b t ad1 H1 ls1 → va_S (fun q => lo ≤ q) s0.heap H1 locs1 → W pr l en room_1 s0 mm #[Value.ref b] below meth cc0 H1 locs1 (19 + 2 * t + 2) (10953 + 26 * t + 26) (lw_Z below #[Value.ref b] s0) (F0 mm 376 ls1 [])) (hM : mw D vwCl lo ad (ctC aC ad n gl E G P co lc hc hn hs (ctM aC ad n th sz sg me gr gl P coM tb hc wd sm rc (fun _ => none))) H) (hRE : RE n E G th sz sg me gr) (hRX : RX P hc gl co coM hn hs wd sm) (hl : lv_has ls 4 [(0, .ref b), (1, .ref (ad 0)), (2, .ref (ad 1000)), (3, .int (nI (4 * t)))]) (hS : va_S (fun q => lo ≤ q) s0.heap H locs) {x : Int32} (hx1 : xs (4 * t + 1) = x) (hx2 : xs (4 * t + 2) = (nI 0)) (hx9 : ¬ (x = -1 ∨ isGr x = true)) : W pr l en room_1 s0 mm #[Value.ref b] below meth cc0 H locs (19 + 2 * t) (10953 + 26 * t) (lw_Z below #[Value.ref b] s0) (F0 mm 287 ls []) := by
  have hK := hKK.1
  have hx := F.1
  have hb := F.2.1
  have h200 := hRE.1
  have hP := hRX.1
  have hcz := hRX.2.1
  refine lv_aload_n hx hb dL_law_287 rfl (lv_at hl 1 rfl) ?_
  refine lv_aload_n hx hb dL_law_288 rfl (lv_at hl 0 rfl) ?_
  refine lv_iload_n hx hb dL_law_289 rfl (lv_at hl 3 rfl) ?_
  refine lv_iconst (v := (nI 1)) hx hb dL_law_290 (by decide) ?_
  refine lv_iadd hx hb dL_law_291 ?_
  refine m_top (nI_add (4 * t) 1) ?_
  refine va_sld hx hb hX hbl hlb hS (vp_in_nI (show 4 * t + 1 < L by omega) (by omega)) dL_law_292 ?_
  refine m_top (y := x) (by rw [nI_clamp (show 4 * t + 1 < 2 ^ 31 by omega)]; exact hx1) ?_
  refine lv_aload_n hx hb dL_law_293 rfl (lv_at hl 0 rfl) ?_
  refine lv_iload_n hx hb dL_law_294 rfl (lv_at hl 3 rfl) ?_
  refine lv_iconst (v := (nI 2)) hx hb dL_law_295 (by decide) ?_
  refine lv_iadd hx hb dL_law_296 ?_
  refine m_top (nI_add (4 * t) 2) ?_
  refine va_sld hx hb hX hbl hlb hS (vp_in_nI (show 4 * t + 2 < L by omega) (by omega)) dL_law_297 ?_
  refine m_top (y := (nI 0)) (by rw [nI_clamp (show 4 * t + 2 < 2 ^ 31 by omega)]; exact hx2) ?_
  refine m_d1 (v := .int (-2)) (ct1 := ctC aC ad n gl E G P co lc hc hn hs (ctM aC ad n th sz sg me gr gl P coM tb hc wd sm rc (fun _ => none))) (va_runV (As := [.int x, .int (nI 0)]) (rest := []) F (c_withinLO l x (fun q => hx9 (Or.inl q)) (by cases h9 : isGr x with | false => rfl | true => exact absurd (Or.inr h9) hx9) h200) (cwV 2 F.2.2.2.2 (go_V (fun _ h => tb_L h) mlL_50 imX3_within seX3_within iniX3 cdX3_within) rfl rfl rfl (by decide +kernel) ⟨Nat.le_of_ble_eq_true rfl, Nat.le_of_ble_eq_true rfl⟩) (mPreV hKK hM (Nat.le_trans hlo hS.1) ctC_0 rfl) rfl rfl hl.1 rfl (lv_room (Nat.le_of_ble_eq_true rfl)) dL_law_298 ⟨Nat.le_trans (show 19 + 2 * t + 0 ≤ 600000 by omega) (Nat.le_of_ble_eq_true rfl), Nat.le_trans (show 10953 + 26 * t + 0 ≤ 7302250 by omega) (Nat.le_of_ble_eq_true rfl)⟩) hS (fun H locs hM hS => ?_)
  refine lv_aload_n hx hb dL_law_301 rfl (lv_at hl 2 rfl) ?_
  refine lv_aload_n hx hb dL_law_302 rfl (lv_at hl 0 rfl) ?_
  refine lv_iload_n hx hb dL_law_303 rfl (lv_at hl 3 rfl) ?_
  refine lv_iconst (v := (nI 1)) hx hb dL_law_304 (by decide) ?_
  refine lv_iadd hx hb dL_law_305 ?_
  refine m_top (nI_add (4 * t) 1) ?_
  refine va_sld hx hb hX hbl hlb hS (vp_in_nI (show 4 * t + 1 < L by omega) (by omega)) dL_law_306 ?_
  refine m_top (y := x) (by rw [nI_clamp (show 4 * t + 1 < 2 ^ 31 by omega)]; exact hx1) ?_
  refine lv_aload_n hx hb dL_law_307 rfl (lv_at hl 0 rfl) ?_
  refine lv_iload_n hx hb dL_law_308 rfl (lv_at hl 3 rfl) ?_
  refine lv_iconst (v := (nI 2)) hx hb dL_law_309 (by decide) ?_
  refine lv_iadd hx hb dL_law_310 ?_
  refine m_top (nI_add (4 * t) 2) ?_
  refine va_sld hx hb hX hbl hlb hS (vp_in_nI (show 4 * t + 2 < L by omega) (by omega)) dL_law_311 ?_
  refine m_top (y := (nI 0)) (by rw [nI_clamp (show 4 * t + 2 < 2 ^ 31 by omega)]; exact hx2) ?_
  rw [ctCM] at hM
  refine m_d1 (v := .int (-2)) (ct1 := ctM aC ad n th sz sg me gr gl P coM tb hc wd sm rc (ctC aC ad n gl E G P co lc hc hn hs (fun _ => none))) (va_runV (As := [.int x, .int (nI 0)]) (rest := [.int (-2)]) F (c_mWithinLO l x (by cases h9 : btw x (-1) (nI 7) with | false => rfl | true => exact absurd (btw_m7.mp h9) hx9)) (cwV 2 F.2.2.2.2 (go_V (fun _ h => tb_L h) mlL_53 imX4_within seX4_within iniX4 cdX4_within) rfl rfl rfl (by decide +kernel) ⟨Nat.le_of_ble_eq_true rfl, Nat.le_of_ble_eq_true rfl⟩) (mPreV hKK hM (Nat.le_trans hlo hS.1) ctM_o rfl) rfl rfl hl.1 rfl (lv_room (Nat.le_of_ble_eq_true rfl)) dL_law_312 ⟨Nat.le_trans (show 19 + 2 * t + 0 ≤ 600000 by omega) (Nat.le_of_ble_eq_true rfl), Nat.le_trans (show 10953 + 26 * t + 0 ≤ 7302250 by omega) (Nat.le_of_ble_eq_true rfl)⟩) hS (fun H locs hM hS => ?_)
  rw [← ctCM] at hM
  refine lv_icmp_eq (tgt := 376) hx hb dL_law_315 (by decide) (fun c_315 => ?_) (fun c_315 => ?_)
  · skip
    refine W.widen (k := 19 + 2 * t + 2) (n := 10953 + 26 * t + 26) (by omega) (by omega) ?_
    exact kk ad _ _ _ ⟨n, gl, E, G, P, co, lc, hc, hn, hs, th, sz, sg, me, gr, coM, tb, wd, sm, rc, hM, hRE, hRX, lv_sub hl [0, 1, 2, 3] rfl⟩ hS
  · skip
    exact absurd (rfl) c_315

set_option maxHeartbeats 4000000 in
set_option maxRecDepth 100000 in
theorem lwv_withinL {pr : Program} {l : Launch} {en : Env} {s0 : State} {mm : MethodId} {below : List Frame} {meth : Method} {cc0 : Code} {D : va_G} {aC : Nat → ClassId} {lo b L t : Nat} {xs : Nat → Int32} {ad : Nat → Nat} {H : Heap} {locs : List Loc} {ls : Array Slot} {n : Nat} {gl : Int32} {E : Nat → Ent} {G : Nat → Nat → Nat} {P : Nat} {co : Nat → Option Nat} {lc : Nat → Nat} {hc : Nat} {hn : Nat → Nat} {hs : Nat → Nat} {th : Nat → Bool} {sz : Nat → Nat} {sg : Nat → Nat} {me : Nat → Nat} {gr : Nat → Int32} {coM : Nat → Option Nat} {tb : Nat → Nat} {wd : Nat → Nat} {sm : Nat → Nat} {rc : Nat → Nat} (F : CallFix pr mm cc0 code 4 s0 #[Value.ref b] lw_tbl RL) (hKK : mK D vwCl (tyA aC) s0) (hX : va_X b L xs s0 s0.heap) (hbl : b < s0.heap.size) (hlo : lo ≤ s0.heap.size) (hlb : ¬ lo ≤ b) (htL : 4 * t + 4 ≤ L) (hL : L ≤ 2048) (kk : ∀ (ad1 : Nat → Nat) (H1 : Heap) (locs1 : List Loc) (ls1 : Array Slot), lawI D aC lo b t ad1 H1 ls1 → va_S (fun q => lo ≤ q) s0.heap H1 locs1 → W pr l en room_1 s0 mm #[Value.ref b] below meth cc0 H1 locs1 (19 + 2 * t + 2) (10953 + 26 * t + 26) (lw_Z below #[Value.ref b] s0) (F0 mm 376 ls1 [])) (hM : mw D vwCl lo ad (ctC aC ad n gl E G P co lc hc hn hs (ctM aC ad n th sz sg me gr gl P coM tb hc wd sm rc (fun _ => none))) H) (hRE : RE n E G th sz sg me gr) (hRX : RX P hc gl co coM hn hs wd sm) (hl : lv_has ls 4 [(0, .ref b), (1, .ref (ad 0)), (2, .ref (ad 1000)), (3, .int (nI (4 * t)))]) (hS : va_S (fun q => lo ≤ q) s0.heap H locs) {x : Int32} (hx1 : xs (4 * t + 1) = x) (hx2 : xs (4 * t + 2) = (nI 0)) (hx9 : x = -1 ∨ isGr x = true) : W pr l en room_1 s0 mm #[Value.ref b] below meth cc0 H locs (19 + 2 * t) (10953 + 26 * t) (lw_Z below #[Value.ref b] s0) (F0 mm 287 ls []) := by
  have hK := hKK.1
  have hx := F.1
  have hb := F.2.1
  have h200 := hRE.1
  have hP := hRX.1
  have hcz := hRX.2.1
  refine lv_aload_n hx hb dL_law_287 rfl (lv_at hl 1 rfl) ?_
  refine lv_aload_n hx hb dL_law_288 rfl (lv_at hl 0 rfl) ?_
  refine lv_iload_n hx hb dL_law_289 rfl (lv_at hl 3 rfl) ?_
  refine lv_iconst (v := (nI 1)) hx hb dL_law_290 (by decide) ?_
  refine lv_iadd hx hb dL_law_291 ?_
  refine m_top (nI_add (4 * t) 1) ?_
  refine va_sld hx hb hX hbl hlb hS (vp_in_nI (show 4 * t + 1 < L by omega) (by omega)) dL_law_292 ?_
  refine m_top (y := x) (by rw [nI_clamp (show 4 * t + 1 < 2 ^ 31 by omega)]; exact hx1) ?_
  refine lv_aload_n hx hb dL_law_293 rfl (lv_at hl 0 rfl) ?_
  refine lv_iload_n hx hb dL_law_294 rfl (lv_at hl 3 rfl) ?_
  refine lv_iconst (v := (nI 2)) hx hb dL_law_295 (by decide) ?_
  refine lv_iadd hx hb dL_law_296 ?_
  refine m_top (nI_add (4 * t) 2) ?_
  refine va_sld hx hb hX hbl hlb hS (vp_in_nI (show 4 * t + 2 < L by omega) (by omega)) dL_law_297 ?_
  refine m_top (y := (nI 0)) (by rw [nI_clamp (show 4 * t + 2 < 2 ^ 31 by omega)]; exact hx2) ?_
  refine m_d1 (v := .int (nI (cnt (inW E x) n))) (ct1 := ctC aC ad n x E G P co lc hc hn hs (ctM aC ad n th sz sg me gr gl P coM tb hc wd sm rc (fun _ => none))) (va_runV (As := [.int x, .int (nI 0)]) (rest := []) F (c_withinL l x hx9 h200) (cwV 2 F.2.2.2.2 (go_V (fun _ h => tb_L h) mlL_50 imX3_within seX3_within iniX3 cdX3_within) rfl rfl rfl (by decide +kernel) ⟨Nat.le_of_ble_eq_true rfl, Nat.le_of_ble_eq_true rfl⟩) (mPreV hKK hM (Nat.le_trans hlo hS.1) ctC_0 rfl) rfl rfl hl.1 rfl (lv_room (Nat.le_of_ble_eq_true rfl)) dL_law_298 ⟨Nat.le_trans (show 19 + 2 * t + 0 ≤ 600000 by omega) (Nat.le_of_ble_eq_true rfl), Nat.le_trans (show 10953 + 26 * t + 0 ≤ 7302250 by omega) (Nat.le_of_ble_eq_true rfl)⟩) hS (fun H locs hM hS => ?_)
  refine lv_aload_n hx hb dL_law_301 rfl (lv_at hl 2 rfl) ?_
  refine lv_aload_n hx hb dL_law_302 rfl (lv_at hl 0 rfl) ?_
  refine lv_iload_n hx hb dL_law_303 rfl (lv_at hl 3 rfl) ?_
  refine lv_iconst (v := (nI 1)) hx hb dL_law_304 (by decide) ?_
  refine lv_iadd hx hb dL_law_305 ?_
  refine m_top (nI_add (4 * t) 1) ?_
  refine va_sld hx hb hX hbl hlb hS (vp_in_nI (show 4 * t + 1 < L by omega) (by omega)) dL_law_306 ?_
  refine m_top (y := x) (by rw [nI_clamp (show 4 * t + 1 < 2 ^ 31 by omega)]; exact hx1) ?_
  refine lv_aload_n hx hb dL_law_307 rfl (lv_at hl 0 rfl) ?_
  refine lv_iload_n hx hb dL_law_308 rfl (lv_at hl 3 rfl) ?_
  refine lv_iconst (v := (nI 2)) hx hb dL_law_309 (by decide) ?_
  refine lv_iadd hx hb dL_law_310 ?_
  refine m_top (nI_add (4 * t) 2) ?_
  refine va_sld hx hb hX hbl hlb hS (vp_in_nI (show 4 * t + 2 < L by omega) (by omega)) dL_law_311 ?_
  refine m_top (y := (nI 0)) (by rw [nI_clamp (show 4 * t + 2 < 2 ^ 31 by omega)]; exact hx2) ?_
  rw [ctCM] at hM
  refine m_d1 (v := .int (nI (cnt (inM th gr x) n))) (ct1 := ctM aC ad n th sz sg me gr x P coM tb hc wd sm rc (ctC aC ad n x E G P co lc hc hn hs (fun _ => none))) (va_runV (As := [.int x, .int (nI 0)]) (rest := [.int (nI (cnt (inW E x) n))]) F (c_mWithinL l x (btw_m7.mpr hx9) h200) (cwV 2 F.2.2.2.2 (go_V (fun _ h => tb_L h) mlL_53 imX4_within seX4_within iniX4 cdX4_within) rfl rfl rfl (by decide +kernel) ⟨Nat.le_of_ble_eq_true rfl, Nat.le_of_ble_eq_true rfl⟩) (mPreV hKK hM (Nat.le_trans hlo hS.1) ctM_o rfl) rfl rfl hl.1 rfl (lv_room (Nat.le_of_ble_eq_true rfl)) dL_law_312 ⟨Nat.le_trans (show 19 + 2 * t + 0 ≤ 600000 by omega) (Nat.le_of_ble_eq_true rfl), Nat.le_trans (show 10953 + 26 * t + 0 ≤ 7302250 by omega) (Nat.le_of_ble_eq_true rfl)⟩) hS (fun H locs hM hS => ?_)
  rw [← ctCM] at hM
  refine lv_icmp_eq (tgt := 376) hx hb dL_law_315 (by decide) (fun c_315 => ?_) (fun c_315 => ?_)
  · skip
    refine W.widen (k := 19 + 2 * t + 2) (n := 10953 + 26 * t + 26) (by omega) (by omega) ?_
    exact kk ad _ _ _ ⟨n, x, E, G, P, co, lc, hc, hn, hs, th, sz, sg, me, gr, coM, tb, wd, sm, rc, hM, hRE, (hRX.look hx9), lv_sub hl [0, 1, 2, 3] rfl⟩ hS
  · skip
    exact absurd (congrArg nI (hRE.cntW hx9)) c_315

set_option maxHeartbeats 4000000 in
set_option maxRecDepth 100000 in
theorem lwv_withinU {pr : Program} {l : Launch} {en : Env} {s0 : State} {mm : MethodId} {below : List Frame} {meth : Method} {cc0 : Code} {D : va_G} {aC : Nat → ClassId} {lo b L t : Nat} {xs : Nat → Int32} {ad : Nat → Nat} {H : Heap} {locs : List Loc} {ls : Array Slot} {n : Nat} {gl : Int32} {E : Nat → Ent} {G : Nat → Nat → Nat} {P : Nat} {co : Nat → Option Nat} {lc : Nat → Nat} {hc : Nat} {hn : Nat → Nat} {hs : Nat → Nat} {th : Nat → Bool} {sz : Nat → Nat} {sg : Nat → Nat} {me : Nat → Nat} {gr : Nat → Int32} {coM : Nat → Option Nat} {tb : Nat → Nat} {wd : Nat → Nat} {sm : Nat → Nat} {rc : Nat → Nat} (F : CallFix pr mm cc0 code 4 s0 #[Value.ref b] lw_tbl RL) (hKK : mK D vwCl (tyA aC) s0) (hX : va_X b L xs s0 s0.heap) (hbl : b < s0.heap.size) (hlo : lo ≤ s0.heap.size) (hlb : ¬ lo ≤ b) (htL : 4 * t + 4 ≤ L) (hL : L ≤ 2048) (kk : ∀ (ad1 : Nat → Nat) (H1 : Heap) (locs1 : List Loc) (ls1 : Array Slot), lawI D aC lo b t ad1 H1 ls1 → va_S (fun q => lo ≤ q) s0.heap H1 locs1 → W pr l en room_1 s0 mm #[Value.ref b] below meth cc0 H1 locs1 (19 + 2 * t + 2) (10953 + 26 * t + 26) (lw_Z below #[Value.ref b] s0) (F0 mm 376 ls1 [])) (hM : mw D vwCl lo ad (ctC aC ad n gl E G P co lc hc hn hs (ctM aC ad n th sz sg me gr gl P coM tb hc wd sm rc (fun _ => none))) H) (hRE : RE n E G th sz sg me gr) (hRX : RX P hc gl co coM hn hs wd sm) (hl : lv_has ls 4 [(0, .ref b), (1, .ref (ad 0)), (2, .ref (ad 1000)), (3, .int (nI (4 * t)))]) (hS : va_S (fun q => lo ≤ q) s0.heap H locs) {x y : Int32} (hx1 : xs (4 * t + 1) = x) (hx2 : xs (4 * t + 2) = y) (hy0 : ¬ y = 0) (hn0 : cLiv n E y = none) : W pr l en room_1 s0 mm #[Value.ref b] below meth cc0 H locs (19 + 2 * t) (10953 + 26 * t) (lw_Z below #[Value.ref b] s0) (F0 mm 287 ls []) := by
  have hK := hKK.1
  have hx := F.1
  have hb := F.2.1
  have h200 := hRE.1
  have hP := hRX.1
  have hcz := hRX.2.1
  refine lv_aload_n hx hb dL_law_287 rfl (lv_at hl 1 rfl) ?_
  refine lv_aload_n hx hb dL_law_288 rfl (lv_at hl 0 rfl) ?_
  refine lv_iload_n hx hb dL_law_289 rfl (lv_at hl 3 rfl) ?_
  refine lv_iconst (v := (nI 1)) hx hb dL_law_290 (by decide) ?_
  refine lv_iadd hx hb dL_law_291 ?_
  refine m_top (nI_add (4 * t) 1) ?_
  refine va_sld hx hb hX hbl hlb hS (vp_in_nI (show 4 * t + 1 < L by omega) (by omega)) dL_law_292 ?_
  refine m_top (y := x) (by rw [nI_clamp (show 4 * t + 1 < 2 ^ 31 by omega)]; exact hx1) ?_
  refine lv_aload_n hx hb dL_law_293 rfl (lv_at hl 0 rfl) ?_
  refine lv_iload_n hx hb dL_law_294 rfl (lv_at hl 3 rfl) ?_
  refine lv_iconst (v := (nI 2)) hx hb dL_law_295 (by decide) ?_
  refine lv_iadd hx hb dL_law_296 ?_
  refine m_top (nI_add (4 * t) 2) ?_
  refine va_sld hx hb hX hbl hlb hS (vp_in_nI (show 4 * t + 2 < L by omega) (by omega)) dL_law_297 ?_
  refine m_top (y := y) (by rw [nI_clamp (show 4 * t + 2 < 2 ^ 31 by omega)]; exact hx2) ?_
  refine m_d1 (v := .int (-1)) (ct1 := ctC aC ad n gl E G P co lc hc hn hs (ctM aC ad n th sz sg me gr gl P coM tb hc wd sm rc (fun _ => none))) (va_runV (As := [.int x, .int y]) (rest := []) F (c_withinU l x y hy0 hn0 h200) (cwV 2 F.2.2.2.2 (go_V (fun _ h => tb_L h) mlL_50 imX3_within seX3_within iniX3 cdX3_within) rfl rfl rfl (by decide +kernel) ⟨Nat.le_of_ble_eq_true rfl, Nat.le_of_ble_eq_true rfl⟩) (mPreV hKK hM (Nat.le_trans hlo hS.1) ctC_0 rfl) rfl rfl hl.1 rfl (lv_room (Nat.le_of_ble_eq_true rfl)) dL_law_298 ⟨Nat.le_trans (show 19 + 2 * t + 0 ≤ 600000 by omega) (Nat.le_of_ble_eq_true rfl), Nat.le_trans (show 10953 + 26 * t + 0 ≤ 7302250 by omega) (Nat.le_of_ble_eq_true rfl)⟩) hS (fun H locs hM hS => ?_)
  refine lv_aload_n hx hb dL_law_301 rfl (lv_at hl 2 rfl) ?_
  refine lv_aload_n hx hb dL_law_302 rfl (lv_at hl 0 rfl) ?_
  refine lv_iload_n hx hb dL_law_303 rfl (lv_at hl 3 rfl) ?_
  refine lv_iconst (v := (nI 1)) hx hb dL_law_304 (by decide) ?_
  refine lv_iadd hx hb dL_law_305 ?_
  refine m_top (nI_add (4 * t) 1) ?_
  refine va_sld hx hb hX hbl hlb hS (vp_in_nI (show 4 * t + 1 < L by omega) (by omega)) dL_law_306 ?_
  refine m_top (y := x) (by rw [nI_clamp (show 4 * t + 1 < 2 ^ 31 by omega)]; exact hx1) ?_
  refine lv_aload_n hx hb dL_law_307 rfl (lv_at hl 0 rfl) ?_
  refine lv_iload_n hx hb dL_law_308 rfl (lv_at hl 3 rfl) ?_
  refine lv_iconst (v := (nI 2)) hx hb dL_law_309 (by decide) ?_
  refine lv_iadd hx hb dL_law_310 ?_
  refine m_top (nI_add (4 * t) 2) ?_
  refine va_sld hx hb hX hbl hlb hS (vp_in_nI (show 4 * t + 2 < L by omega) (by omega)) dL_law_311 ?_
  refine m_top (y := y) (by rw [nI_clamp (show 4 * t + 2 < 2 ^ 31 by omega)]; exact hx2) ?_
  rw [ctCM] at hM
  refine m_d1 (v := .int (-1)) (ct1 := ctM aC ad n th sz sg me gr gl P coM tb hc wd sm rc (ctC aC ad n gl E G P co lc hc hn hs (fun _ => none))) (va_runV (As := [.int x, .int y]) (rest := [.int (-1)]) F (c_mWithinU l x y hy0 (hRE.no hn0) h200) (cwV 2 F.2.2.2.2 (go_V (fun _ h => tb_L h) mlL_53 imX4_within seX4_within iniX4 cdX4_within) rfl rfl rfl (by decide +kernel) ⟨Nat.le_of_ble_eq_true rfl, Nat.le_of_ble_eq_true rfl⟩) (mPreV hKK hM (Nat.le_trans hlo hS.1) ctM_o rfl) rfl rfl hl.1 rfl (lv_room (Nat.le_of_ble_eq_true rfl)) dL_law_312 ⟨Nat.le_trans (show 19 + 2 * t + 0 ≤ 600000 by omega) (Nat.le_of_ble_eq_true rfl), Nat.le_trans (show 10953 + 26 * t + 0 ≤ 7302250 by omega) (Nat.le_of_ble_eq_true rfl)⟩) hS (fun H locs hM hS => ?_)
  rw [← ctCM] at hM
  refine lv_icmp_eq (tgt := 376) hx hb dL_law_315 (by decide) (fun c_315 => ?_) (fun c_315 => ?_)
  · skip
    refine W.widen (k := 19 + 2 * t + 2) (n := 10953 + 26 * t + 26) (by omega) (by omega) ?_
    exact kk ad _ _ _ ⟨n, gl, E, G, P, co, lc, hc, hn, hs, th, sz, sg, me, gr, coM, tb, wd, sm, rc, hM, hRE, hRX, lv_sub hl [0, 1, 2, 3] rfl⟩ hS
  · skip
    exact absurd (rfl) c_315

set_option maxHeartbeats 4000000 in
set_option maxRecDepth 100000 in
theorem lwv_withinO {pr : Program} {l : Launch} {en : Env} {s0 : State} {mm : MethodId} {below : List Frame} {meth : Method} {cc0 : Code} {D : va_G} {aC : Nat → ClassId} {lo b L t : Nat} {xs : Nat → Int32} {ad : Nat → Nat} {H : Heap} {locs : List Loc} {ls : Array Slot} {n : Nat} {gl : Int32} {E : Nat → Ent} {G : Nat → Nat → Nat} {P : Nat} {co : Nat → Option Nat} {lc : Nat → Nat} {hc : Nat} {hn : Nat → Nat} {hs : Nat → Nat} {th : Nat → Bool} {sz : Nat → Nat} {sg : Nat → Nat} {me : Nat → Nat} {gr : Nat → Int32} {coM : Nat → Option Nat} {tb : Nat → Nat} {wd : Nat → Nat} {sm : Nat → Nat} {rc : Nat → Nat} (F : CallFix pr mm cc0 code 4 s0 #[Value.ref b] lw_tbl RL) (hKK : mK D vwCl (tyA aC) s0) (hX : va_X b L xs s0 s0.heap) (hbl : b < s0.heap.size) (hlo : lo ≤ s0.heap.size) (hlb : ¬ lo ≤ b) (htL : 4 * t + 4 ≤ L) (hL : L ≤ 2048) (kk : ∀ (ad1 : Nat → Nat) (H1 : Heap) (locs1 : List Loc) (ls1 : Array Slot), lawI D aC lo b t ad1 H1 ls1 → va_S (fun q => lo ≤ q) s0.heap H1 locs1 → W pr l en room_1 s0 mm #[Value.ref b] below meth cc0 H1 locs1 (19 + 2 * t + 2) (10953 + 26 * t + 26) (lw_Z below #[Value.ref b] s0) (F0 mm 376 ls1 [])) (hM : mw D vwCl lo ad (ctC aC ad n gl E G P co lc hc hn hs (ctM aC ad n th sz sg me gr gl P coM tb hc wd sm rc (fun _ => none))) H) (hRE : RE n E G th sz sg me gr) (hRX : RX P hc gl co coM hn hs wd sm) (hl : lv_has ls 4 [(0, .ref b), (1, .ref (ad 0)), (2, .ref (ad 1000)), (3, .int (nI (4 * t)))]) (hS : va_S (fun q => lo ≤ q) s0.heap H locs) {x : Int32} {j : Nat} (hx1 : xs (4 * t + 1) = x) (hx2 : xs (4 * t + 2) = (nI j)) (hj1 : 1 ≤ j) (hj2 : j ≤ n) (hd : (E j).2.2.1 = false) (hg : isGr x = false) : W pr l en room_1 s0 mm #[Value.ref b] below meth cc0 H locs (19 + 2 * t) (10953 + 26 * t) (lw_Z below #[Value.ref b] s0) (F0 mm 287 ls []) := by
  have hK := hKK.1
  have hx := F.1
  have hb := F.2.1
  have h200 := hRE.1
  have hP := hRX.1
  have hcz := hRX.2.1
  refine lv_aload_n hx hb dL_law_287 rfl (lv_at hl 1 rfl) ?_
  refine lv_aload_n hx hb dL_law_288 rfl (lv_at hl 0 rfl) ?_
  refine lv_iload_n hx hb dL_law_289 rfl (lv_at hl 3 rfl) ?_
  refine lv_iconst (v := (nI 1)) hx hb dL_law_290 (by decide) ?_
  refine lv_iadd hx hb dL_law_291 ?_
  refine m_top (nI_add (4 * t) 1) ?_
  refine va_sld hx hb hX hbl hlb hS (vp_in_nI (show 4 * t + 1 < L by omega) (by omega)) dL_law_292 ?_
  refine m_top (y := x) (by rw [nI_clamp (show 4 * t + 1 < 2 ^ 31 by omega)]; exact hx1) ?_
  refine lv_aload_n hx hb dL_law_293 rfl (lv_at hl 0 rfl) ?_
  refine lv_iload_n hx hb dL_law_294 rfl (lv_at hl 3 rfl) ?_
  refine lv_iconst (v := (nI 2)) hx hb dL_law_295 (by decide) ?_
  refine lv_iadd hx hb dL_law_296 ?_
  refine m_top (nI_add (4 * t) 2) ?_
  refine va_sld hx hb hX hbl hlb hS (vp_in_nI (show 4 * t + 2 < L by omega) (by omega)) dL_law_297 ?_
  refine m_top (y := (nI j)) (by rw [nI_clamp (show 4 * t + 2 < 2 ^ 31 by omega)]; exact hx2) ?_
  refine m_d1 (v := .int (-2)) (ct1 := ctC aC ad n gl E G P co lc hc hn hs (ctM aC ad n th sz sg me gr gl P coM tb hc wd sm rc (fun _ => none))) (va_runV (As := [.int x, .int (nI j)]) (rest := []) F (c_withinO l x j hj1 hj2 h200 hd hg) (cwV 2 F.2.2.2.2 (go_V (fun _ h => tb_L h) mlL_50 imX3_within seX3_within iniX3 cdX3_within) rfl rfl rfl (by decide +kernel) ⟨Nat.le_of_ble_eq_true rfl, Nat.le_of_ble_eq_true rfl⟩) (mPreV hKK hM (Nat.le_trans hlo hS.1) ctC_0 rfl) rfl rfl hl.1 rfl (lv_room (Nat.le_of_ble_eq_true rfl)) dL_law_298 ⟨Nat.le_trans (show 19 + 2 * t + 0 ≤ 600000 by omega) (Nat.le_of_ble_eq_true rfl), Nat.le_trans (show 10953 + 26 * t + 0 ≤ 7302250 by omega) (Nat.le_of_ble_eq_true rfl)⟩) hS (fun H locs hM hS => ?_)
  refine lv_aload_n hx hb dL_law_301 rfl (lv_at hl 2 rfl) ?_
  refine lv_aload_n hx hb dL_law_302 rfl (lv_at hl 0 rfl) ?_
  refine lv_iload_n hx hb dL_law_303 rfl (lv_at hl 3 rfl) ?_
  refine lv_iconst (v := (nI 1)) hx hb dL_law_304 (by decide) ?_
  refine lv_iadd hx hb dL_law_305 ?_
  refine m_top (nI_add (4 * t) 1) ?_
  refine va_sld hx hb hX hbl hlb hS (vp_in_nI (show 4 * t + 1 < L by omega) (by omega)) dL_law_306 ?_
  refine m_top (y := x) (by rw [nI_clamp (show 4 * t + 1 < 2 ^ 31 by omega)]; exact hx1) ?_
  refine lv_aload_n hx hb dL_law_307 rfl (lv_at hl 0 rfl) ?_
  refine lv_iload_n hx hb dL_law_308 rfl (lv_at hl 3 rfl) ?_
  refine lv_iconst (v := (nI 2)) hx hb dL_law_309 (by decide) ?_
  refine lv_iadd hx hb dL_law_310 ?_
  refine m_top (nI_add (4 * t) 2) ?_
  refine va_sld hx hb hX hbl hlb hS (vp_in_nI (show 4 * t + 2 < L by omega) (by omega)) dL_law_311 ?_
  refine m_top (y := (nI j)) (by rw [nI_clamp (show 4 * t + 2 < 2 ^ 31 by omega)]; exact hx2) ?_
  rw [ctCM] at hM
  refine m_d1 (v := .int (-2)) (ct1 := ctM aC ad n th sz sg me gr gl P coM tb hc wd sm rc (ctC aC ad n gl E G P co lc hc hn hs (fun _ => none))) (va_runV (As := [.int x, .int (nI j)]) (rest := [.int (-2)]) F (c_mWithinO l x j hj1 hj2 h200 (hRE.yes hj1 hj2 hd) (by rw [btw_7]; exact hg)) (cwV 2 F.2.2.2.2 (go_V (fun _ h => tb_L h) mlL_53 imX4_within seX4_within iniX4 cdX4_within) rfl rfl rfl (by decide +kernel) ⟨Nat.le_of_ble_eq_true rfl, Nat.le_of_ble_eq_true rfl⟩) (mPreV hKK hM (Nat.le_trans hlo hS.1) ctM_o rfl) rfl rfl hl.1 rfl (lv_room (Nat.le_of_ble_eq_true rfl)) dL_law_312 ⟨Nat.le_trans (show 19 + 2 * t + 0 ≤ 600000 by omega) (Nat.le_of_ble_eq_true rfl), Nat.le_trans (show 10953 + 26 * t + 0 ≤ 7302250 by omega) (Nat.le_of_ble_eq_true rfl)⟩) hS (fun H locs hM hS => ?_)
  rw [← ctCM] at hM
  refine lv_icmp_eq (tgt := 376) hx hb dL_law_315 (by decide) (fun c_315 => ?_) (fun c_315 => ?_)
  · skip
    refine W.widen (k := 19 + 2 * t + 2) (n := 10953 + 26 * t + 26) (by omega) (by omega) ?_
    exact kk ad _ _ _ ⟨n, gl, E, G, P, co, lc, hc, hn, hs, th, sz, sg, me, gr, coM, tb, wd, sm, rc, hM, hRE, hRX, lv_sub hl [0, 1, 2, 3] rfl⟩ hS
  · skip
    exact absurd (rfl) c_315

set_option maxHeartbeats 4000000 in
set_option maxRecDepth 100000 in
theorem lwv_within {pr : Program} {l : Launch} {en : Env} {s0 : State} {mm : MethodId} {below : List Frame} {meth : Method} {cc0 : Code} {D : va_G} {aC : Nat → ClassId} {lo b L t : Nat} {xs : Nat → Int32} {ad : Nat → Nat} {H : Heap} {locs : List Loc} {ls : Array Slot} {n : Nat} {gl : Int32} {E : Nat → Ent} {G : Nat → Nat → Nat} {P : Nat} {co : Nat → Option Nat} {lc : Nat → Nat} {hc : Nat} {hn : Nat → Nat} {hs : Nat → Nat} {th : Nat → Bool} {sz : Nat → Nat} {sg : Nat → Nat} {me : Nat → Nat} {gr : Nat → Int32} {coM : Nat → Option Nat} {tb : Nat → Nat} {wd : Nat → Nat} {sm : Nat → Nat} {rc : Nat → Nat} (F : CallFix pr mm cc0 code 4 s0 #[Value.ref b] lw_tbl RL) (hKK : mK D vwCl (tyA aC) s0) (hX : va_X b L xs s0 s0.heap) (hbl : b < s0.heap.size) (hlo : lo ≤ s0.heap.size) (hlb : ¬ lo ≤ b) (htL : 4 * t + 4 ≤ L) (hL : L ≤ 2048) (kk : ∀ (ad1 : Nat → Nat) (H1 : Heap) (locs1 : List Loc) (ls1 : Array Slot), lawI D aC lo b t ad1 H1 ls1 → va_S (fun q => lo ≤ q) s0.heap H1 locs1 → W pr l en room_1 s0 mm #[Value.ref b] below meth cc0 H1 locs1 (19 + 2 * t + 2) (10953 + 26 * t + 26) (lw_Z below #[Value.ref b] s0) (F0 mm 376 ls1 [])) (hM : mw D vwCl lo ad (ctC aC ad n gl E G P co lc hc hn hs (ctM aC ad n th sz sg me gr gl P coM tb hc wd sm rc (fun _ => none))) H) (hRE : RE n E G th sz sg me gr) (hRX : RX P hc gl co coM hn hs wd sm) (hl : lv_has ls 4 [(0, .ref b), (1, .ref (ad 0)), (2, .ref (ad 1000)), (3, .int (nI (4 * t)))]) (hS : va_S (fun q => lo ≤ q) s0.heap H locs) {x : Int32} {j : Nat} (hx1 : xs (4 * t + 1) = x) (hx2 : xs (4 * t + 2) = (nI j)) (hj1 : 1 ≤ j) (hj2 : j ≤ n) (hd : (E j).2.2.1 = false) (hg : isGr x = true) : W pr l en room_1 s0 mm #[Value.ref b] below meth cc0 H locs (19 + 2 * t) (10953 + 26 * t) (lw_Z below #[Value.ref b] s0) (F0 mm 287 ls []) := by
  have hK := hKK.1
  have hx := F.1
  have hb := F.2.1
  have h200 := hRE.1
  have hP := hRX.1
  have hcz := hRX.2.1
  have hR2 := hRE.within (b := nI 1 <<< (x &&& 31)) hj1 hj2
  refine lv_aload_n hx hb dL_law_287 rfl (lv_at hl 1 rfl) ?_
  refine lv_aload_n hx hb dL_law_288 rfl (lv_at hl 0 rfl) ?_
  refine lv_iload_n hx hb dL_law_289 rfl (lv_at hl 3 rfl) ?_
  refine lv_iconst (v := (nI 1)) hx hb dL_law_290 (by decide) ?_
  refine lv_iadd hx hb dL_law_291 ?_
  refine m_top (nI_add (4 * t) 1) ?_
  refine va_sld hx hb hX hbl hlb hS (vp_in_nI (show 4 * t + 1 < L by omega) (by omega)) dL_law_292 ?_
  refine m_top (y := x) (by rw [nI_clamp (show 4 * t + 1 < 2 ^ 31 by omega)]; exact hx1) ?_
  refine lv_aload_n hx hb dL_law_293 rfl (lv_at hl 0 rfl) ?_
  refine lv_iload_n hx hb dL_law_294 rfl (lv_at hl 3 rfl) ?_
  refine lv_iconst (v := (nI 2)) hx hb dL_law_295 (by decide) ?_
  refine lv_iadd hx hb dL_law_296 ?_
  refine m_top (nI_add (4 * t) 2) ?_
  refine va_sld hx hb hX hbl hlb hS (vp_in_nI (show 4 * t + 2 < L by omega) (by omega)) dL_law_297 ?_
  refine m_top (y := (nI j)) (by rw [nI_clamp (show 4 * t + 2 < 2 ^ 31 by omega)]; exact hx2) ?_
  refine m_d1 (v := .int (nI (cnt (inW (va_up E j (seB (E j) ((E j).2.1 ||| nI 1 <<< (x &&& 31)))) x) n))) (ct1 := ctC aC ad n gl (va_up E j (seB (E j) ((E j).2.1 ||| nI 1 <<< (x &&& 31)))) G P co lc hc hn hs (ctM aC ad n th sz sg me gr gl P coM tb hc wd sm rc (fun _ => none))) (va_runV (As := [.int x, .int (nI j)]) (rest := []) F (c_within l x j hj1 hj2 h200 hd hg) (cwV 2 F.2.2.2.2 (go_V (fun _ h => tb_L h) mlL_50 imX3_within seX3_within iniX3 cdX3_within) rfl rfl rfl (by decide +kernel) ⟨Nat.le_of_ble_eq_true rfl, Nat.le_of_ble_eq_true rfl⟩) (mPreV hKK hM (Nat.le_trans hlo hS.1) ctC_0 rfl) rfl rfl hl.1 rfl (lv_room (Nat.le_of_ble_eq_true rfl)) dL_law_298 ⟨Nat.le_trans (show 19 + 2 * t + 0 ≤ 600000 by omega) (Nat.le_of_ble_eq_true rfl), Nat.le_trans (show 10953 + 26 * t + 0 ≤ 7302250 by omega) (Nat.le_of_ble_eq_true rfl)⟩) hS (fun H locs hM hS => ?_)
  refine lv_aload_n hx hb dL_law_301 rfl (lv_at hl 2 rfl) ?_
  refine lv_aload_n hx hb dL_law_302 rfl (lv_at hl 0 rfl) ?_
  refine lv_iload_n hx hb dL_law_303 rfl (lv_at hl 3 rfl) ?_
  refine lv_iconst (v := (nI 1)) hx hb dL_law_304 (by decide) ?_
  refine lv_iadd hx hb dL_law_305 ?_
  refine m_top (nI_add (4 * t) 1) ?_
  refine va_sld hx hb hX hbl hlb hS (vp_in_nI (show 4 * t + 1 < L by omega) (by omega)) dL_law_306 ?_
  refine m_top (y := x) (by rw [nI_clamp (show 4 * t + 1 < 2 ^ 31 by omega)]; exact hx1) ?_
  refine lv_aload_n hx hb dL_law_307 rfl (lv_at hl 0 rfl) ?_
  refine lv_iload_n hx hb dL_law_308 rfl (lv_at hl 3 rfl) ?_
  refine lv_iconst (v := (nI 2)) hx hb dL_law_309 (by decide) ?_
  refine lv_iadd hx hb dL_law_310 ?_
  refine m_top (nI_add (4 * t) 2) ?_
  refine va_sld hx hb hX hbl hlb hS (vp_in_nI (show 4 * t + 2 < L by omega) (by omega)) dL_law_311 ?_
  refine m_top (y := (nI j)) (by rw [nI_clamp (show 4 * t + 2 < 2 ^ 31 by omega)]; exact hx2) ?_
  rw [ctCM] at hM
  refine m_d1 (v := .int (nI (cnt (inM th (upd gr j (gr j ||| (nI 1) <<< (x &&& 31))) x) n))) (ct1 := ctM aC ad n th sz sg me (upd gr j (gr j ||| (nI 1) <<< (x &&& 31))) gl P coM tb hc wd sm rc (ctC aC ad n gl (va_up E j (seB (E j) ((E j).2.1 ||| nI 1 <<< (x &&& 31)))) G P co lc hc hn hs (fun _ => none))) (va_runV (As := [.int x, .int (nI j)]) (rest := [.int (nI (cnt (inW (va_up E j (seB (E j) ((E j).2.1 ||| nI 1 <<< (x &&& 31)))) x) n))]) F (c_mWithin l x j hj1 hj2 h200 (hRE.yes hj1 hj2 hd) (by rw [btw_7]; exact hg)) (cwV 2 F.2.2.2.2 (go_V (fun _ h => tb_L h) mlL_53 imX4_within seX4_within iniX4 cdX4_within) rfl rfl rfl (by decide +kernel) ⟨Nat.le_of_ble_eq_true rfl, Nat.le_of_ble_eq_true rfl⟩) (mPreV hKK hM (Nat.le_trans hlo hS.1) ctM_o rfl) rfl rfl hl.1 rfl (lv_room (Nat.le_of_ble_eq_true rfl)) dL_law_312 ⟨Nat.le_trans (show 19 + 2 * t + 0 ≤ 600000 by omega) (Nat.le_of_ble_eq_true rfl), Nat.le_trans (show 10953 + 26 * t + 0 ≤ 7302250 by omega) (Nat.le_of_ble_eq_true rfl)⟩) hS (fun H locs hM hS => ?_)
  rw [← ctCM] at hM
  refine lv_icmp_eq (tgt := 376) hx hb dL_law_315 (by decide) (fun c_315 => ?_) (fun c_315 => ?_)
  · skip
    refine W.widen (k := 19 + 2 * t + 2) (n := 10953 + 26 * t + 26) (by omega) (by omega) ?_
    exact kk ad _ _ _ ⟨n, gl, (va_up E j (seB (E j) ((E j).2.1 ||| nI 1 <<< (x &&& 31)))), G, P, co, lc, hc, hn, hs, th, sz, sg, me, (upd gr j (gr j ||| (nI 1) <<< (x &&& 31))), coM, tb, wd, sm, rc, hM, hR2, hRX, lv_sub hl [0, 1, 2, 3] rfl⟩ hS
  · skip
    exact absurd (congrArg nI (hR2.cntW (Or.inr hg))) c_315

set_option maxHeartbeats 4000000 in
set_option maxRecDepth 100000 in
theorem lwv_abU1 {pr : Program} {l : Launch} {en : Env} {s0 : State} {mm : MethodId} {below : List Frame} {meth : Method} {cc0 : Code} {D : va_G} {aC : Nat → ClassId} {lo b L t : Nat} {xs : Nat → Int32} {ad : Nat → Nat} {H : Heap} {locs : List Loc} {ls : Array Slot} {n : Nat} {gl : Int32} {E : Nat → Ent} {G : Nat → Nat → Nat} {P : Nat} {co : Nat → Option Nat} {lc : Nat → Nat} {hc : Nat} {hn : Nat → Nat} {hs : Nat → Nat} {th : Nat → Bool} {sz : Nat → Nat} {sg : Nat → Nat} {me : Nat → Nat} {gr : Nat → Int32} {coM : Nat → Option Nat} {tb : Nat → Nat} {wd : Nat → Nat} {sm : Nat → Nat} {rc : Nat → Nat} (F : CallFix pr mm cc0 code 4 s0 #[Value.ref b] lw_tbl RL) (hKK : mK D vwCl (tyA aC) s0) (hX : va_X b L xs s0 s0.heap) (hbl : b < s0.heap.size) (hlo : lo ≤ s0.heap.size) (hlb : ¬ lo ≤ b) (htL : 4 * t + 4 ≤ L) (hL : L ≤ 2048) (kk : ∀ (ad1 : Nat → Nat) (H1 : Heap) (locs1 : List Loc) (ls1 : Array Slot), lawI D aC lo b t ad1 H1 ls1 → va_S (fun q => lo ≤ q) s0.heap H1 locs1 → W pr l en room_1 s0 mm #[Value.ref b] below meth cc0 H1 locs1 (19 + 2 * t + 2) (10953 + 26 * t + 26) (lw_Z below #[Value.ref b] s0) (F0 mm 376 ls1 [])) (hM : mw D vwCl lo ad (ctC aC ad n gl E G P co lc hc hn hs (ctM aC ad n th sz sg me gr gl P coM tb hc wd sm rc (fun _ => none))) H) (hRE : RE n E G th sz sg me gr) (hRX : RX P hc gl co coM hn hs wd sm) (hl : lv_has ls 4 [(0, .ref b), (1, .ref (ad 0)), (2, .ref (ad 1000)), (3, .int (nI (4 * t)))]) (hS : va_S (fun q => lo ≤ q) s0.heap H locs) {x y : Int32} (hx1 : xs (4 * t + 1) = x) (hx2 : xs (4 * t + 2) = y) (hn0 : cLiv n E x = none) : W pr l en room_1 s0 mm #[Value.ref b] below meth cc0 H locs (19 + 2 * t) (10953 + 26 * t) (lw_Z below #[Value.ref b] s0) (F0 mm 320 ls []) := by
  have hK := hKK.1
  have hx := F.1
  have hb := F.2.1
  have h200 := hRE.1
  have hP := hRX.1
  have hcz := hRX.2.1
  refine lv_aload_n hx hb dL_law_320 rfl (lv_at hl 1 rfl) ?_
  refine lv_aload_n hx hb dL_law_321 rfl (lv_at hl 0 rfl) ?_
  refine lv_iload_n hx hb dL_law_322 rfl (lv_at hl 3 rfl) ?_
  refine lv_iconst (v := (nI 1)) hx hb dL_law_323 (by decide) ?_
  refine lv_iadd hx hb dL_law_324 ?_
  refine m_top (nI_add (4 * t) 1) ?_
  refine va_sld hx hb hX hbl hlb hS (vp_in_nI (show 4 * t + 1 < L by omega) (by omega)) dL_law_325 ?_
  refine m_top (y := x) (by rw [nI_clamp (show 4 * t + 1 < 2 ^ 31 by omega)]; exact hx1) ?_
  refine lv_aload_n hx hb dL_law_326 rfl (lv_at hl 0 rfl) ?_
  refine lv_iload_n hx hb dL_law_327 rfl (lv_at hl 3 rfl) ?_
  refine lv_iconst (v := (nI 2)) hx hb dL_law_328 (by decide) ?_
  refine lv_iadd hx hb dL_law_329 ?_
  refine m_top (nI_add (4 * t) 2) ?_
  refine va_sld hx hb hX hbl hlb hS (vp_in_nI (show 4 * t + 2 < L by omega) (by omega)) dL_law_330 ?_
  refine m_top (y := y) (by rw [nI_clamp (show 4 * t + 2 < 2 ^ 31 by omega)]; exact hx2) ?_
  refine m_d1 (v := .int (-1)) (ct1 := ctC aC ad n gl E G P co lc hc hn hs (ctM aC ad n th sz sg me gr gl P coM tb hc wd sm rc (fun _ => none))) (va_runV (As := [.int x, .int y]) (rest := []) F (c_abU1 l x y hn0 h200) (cwV 2 F.2.2.2.2 (go_V (fun _ h => tb_L h) mlL_54 imX3_abbreviation seX3_abbreviation iniX3 cdX3_abbreviation) rfl rfl rfl (by decide +kernel) ⟨Nat.le_of_ble_eq_true rfl, Nat.le_of_ble_eq_true rfl⟩) (mPreV hKK hM (Nat.le_trans hlo hS.1) ctC_0 rfl) rfl rfl hl.1 rfl (lv_room (Nat.le_of_ble_eq_true rfl)) dL_law_331 ⟨Nat.le_trans (show 19 + 2 * t + 0 ≤ 600000 by omega) (Nat.le_of_ble_eq_true rfl), Nat.le_trans (show 10953 + 26 * t + 0 ≤ 7302250 by omega) (Nat.le_of_ble_eq_true rfl)⟩) hS (fun H locs hM hS => ?_)
  refine lv_aload_n hx hb dL_law_334 rfl (lv_at hl 2 rfl) ?_
  refine lv_aload_n hx hb dL_law_335 rfl (lv_at hl 0 rfl) ?_
  refine lv_iload_n hx hb dL_law_336 rfl (lv_at hl 3 rfl) ?_
  refine lv_iconst (v := (nI 1)) hx hb dL_law_337 (by decide) ?_
  refine lv_iadd hx hb dL_law_338 ?_
  refine m_top (nI_add (4 * t) 1) ?_
  refine va_sld hx hb hX hbl hlb hS (vp_in_nI (show 4 * t + 1 < L by omega) (by omega)) dL_law_339 ?_
  refine m_top (y := x) (by rw [nI_clamp (show 4 * t + 1 < 2 ^ 31 by omega)]; exact hx1) ?_
  refine lv_aload_n hx hb dL_law_340 rfl (lv_at hl 0 rfl) ?_
  refine lv_iload_n hx hb dL_law_341 rfl (lv_at hl 3 rfl) ?_
  refine lv_iconst (v := (nI 2)) hx hb dL_law_342 (by decide) ?_
  refine lv_iadd hx hb dL_law_343 ?_
  refine m_top (nI_add (4 * t) 2) ?_
  refine va_sld hx hb hX hbl hlb hS (vp_in_nI (show 4 * t + 2 < L by omega) (by omega)) dL_law_344 ?_
  refine m_top (y := y) (by rw [nI_clamp (show 4 * t + 2 < 2 ^ 31 by omega)]; exact hx2) ?_
  rw [ctCM] at hM
  refine m_d1 (v := .int (-1)) (ct1 := ctM aC ad n th sz sg me gr gl P coM tb hc wd sm rc (ctC aC ad n gl E G P co lc hc hn hs (fun _ => none))) (va_runV (As := [.int x, .int y]) (rest := [.int (-1)]) F (c_mAbU1 l x y (hRE.no hn0) h200) (cwV 2 F.2.2.2.2 (go_V (fun _ h => tb_L h) mlL_57 imX4_abbreviation seX4_abbreviation iniX4 cdX4_abbreviation) rfl rfl rfl (by decide +kernel) ⟨Nat.le_of_ble_eq_true rfl, Nat.le_of_ble_eq_true rfl⟩) (mPreV hKK hM (Nat.le_trans hlo hS.1) ctM_o rfl) rfl rfl hl.1 rfl (lv_room (Nat.le_of_ble_eq_true rfl)) dL_law_345 ⟨Nat.le_trans (show 19 + 2 * t + 0 ≤ 600000 by omega) (Nat.le_of_ble_eq_true rfl), Nat.le_trans (show 10953 + 26 * t + 0 ≤ 7302250 by omega) (Nat.le_of_ble_eq_true rfl)⟩) hS (fun H locs hM hS => ?_)
  rw [← ctCM] at hM
  refine lv_icmp_eq (tgt := 376) hx hb dL_law_348 (by decide) (fun c_348 => ?_) (fun c_348 => ?_)
  · skip
    refine W.widen (k := 19 + 2 * t + 2) (n := 10953 + 26 * t + 26) (by omega) (by omega) ?_
    exact kk ad _ _ _ ⟨n, gl, E, G, P, co, lc, hc, hn, hs, th, sz, sg, me, gr, coM, tb, wd, sm, rc, hM, hRE, hRX, lv_sub hl [0, 1, 2, 3] rfl⟩ hS
  · skip
    exact absurd (rfl) c_348

set_option maxHeartbeats 4000000 in
set_option maxRecDepth 100000 in
theorem lwv_abU2 {pr : Program} {l : Launch} {en : Env} {s0 : State} {mm : MethodId} {below : List Frame} {meth : Method} {cc0 : Code} {D : va_G} {aC : Nat → ClassId} {lo b L t : Nat} {xs : Nat → Int32} {ad : Nat → Nat} {H : Heap} {locs : List Loc} {ls : Array Slot} {n : Nat} {gl : Int32} {E : Nat → Ent} {G : Nat → Nat → Nat} {P : Nat} {co : Nat → Option Nat} {lc : Nat → Nat} {hc : Nat} {hn : Nat → Nat} {hs : Nat → Nat} {th : Nat → Bool} {sz : Nat → Nat} {sg : Nat → Nat} {me : Nat → Nat} {gr : Nat → Int32} {coM : Nat → Option Nat} {tb : Nat → Nat} {wd : Nat → Nat} {sm : Nat → Nat} {rc : Nat → Nat} (F : CallFix pr mm cc0 code 4 s0 #[Value.ref b] lw_tbl RL) (hKK : mK D vwCl (tyA aC) s0) (hX : va_X b L xs s0 s0.heap) (hbl : b < s0.heap.size) (hlo : lo ≤ s0.heap.size) (hlb : ¬ lo ≤ b) (htL : 4 * t + 4 ≤ L) (hL : L ≤ 2048) (kk : ∀ (ad1 : Nat → Nat) (H1 : Heap) (locs1 : List Loc) (ls1 : Array Slot), lawI D aC lo b t ad1 H1 ls1 → va_S (fun q => lo ≤ q) s0.heap H1 locs1 → W pr l en room_1 s0 mm #[Value.ref b] below meth cc0 H1 locs1 (19 + 2 * t + 2) (10953 + 26 * t + 26) (lw_Z below #[Value.ref b] s0) (F0 mm 376 ls1 [])) (hM : mw D vwCl lo ad (ctC aC ad n gl E G P co lc hc hn hs (ctM aC ad n th sz sg me gr gl P coM tb hc wd sm rc (fun _ => none))) H) (hRE : RE n E G th sz sg me gr) (hRX : RX P hc gl co coM hn hs wd sm) (hl : lv_has ls 4 [(0, .ref b), (1, .ref (ad 0)), (2, .ref (ad 1000)), (3, .int (nI (4 * t)))]) (hS : va_S (fun q => lo ≤ q) s0.heap H locs) {x y : Int32} (hx1 : xs (4 * t + 1) = x) (hx2 : xs (4 * t + 2) = y) (hn0 : cLiv n E y = none) : W pr l en room_1 s0 mm #[Value.ref b] below meth cc0 H locs (19 + 2 * t) (10953 + 26 * t) (lw_Z below #[Value.ref b] s0) (F0 mm 320 ls []) := by
  have hK := hKK.1
  have hx := F.1
  have hb := F.2.1
  have h200 := hRE.1
  have hP := hRX.1
  have hcz := hRX.2.1
  refine lv_aload_n hx hb dL_law_320 rfl (lv_at hl 1 rfl) ?_
  refine lv_aload_n hx hb dL_law_321 rfl (lv_at hl 0 rfl) ?_
  refine lv_iload_n hx hb dL_law_322 rfl (lv_at hl 3 rfl) ?_
  refine lv_iconst (v := (nI 1)) hx hb dL_law_323 (by decide) ?_
  refine lv_iadd hx hb dL_law_324 ?_
  refine m_top (nI_add (4 * t) 1) ?_
  refine va_sld hx hb hX hbl hlb hS (vp_in_nI (show 4 * t + 1 < L by omega) (by omega)) dL_law_325 ?_
  refine m_top (y := x) (by rw [nI_clamp (show 4 * t + 1 < 2 ^ 31 by omega)]; exact hx1) ?_
  refine lv_aload_n hx hb dL_law_326 rfl (lv_at hl 0 rfl) ?_
  refine lv_iload_n hx hb dL_law_327 rfl (lv_at hl 3 rfl) ?_
  refine lv_iconst (v := (nI 2)) hx hb dL_law_328 (by decide) ?_
  refine lv_iadd hx hb dL_law_329 ?_
  refine m_top (nI_add (4 * t) 2) ?_
  refine va_sld hx hb hX hbl hlb hS (vp_in_nI (show 4 * t + 2 < L by omega) (by omega)) dL_law_330 ?_
  refine m_top (y := y) (by rw [nI_clamp (show 4 * t + 2 < 2 ^ 31 by omega)]; exact hx2) ?_
  refine m_d1 (v := .int (-1)) (ct1 := ctC aC ad n gl E G P co lc hc hn hs (ctM aC ad n th sz sg me gr gl P coM tb hc wd sm rc (fun _ => none))) (va_runV (As := [.int x, .int y]) (rest := []) F (c_abU2 l x y hn0 h200) (cwV 2 F.2.2.2.2 (go_V (fun _ h => tb_L h) mlL_54 imX3_abbreviation seX3_abbreviation iniX3 cdX3_abbreviation) rfl rfl rfl (by decide +kernel) ⟨Nat.le_of_ble_eq_true rfl, Nat.le_of_ble_eq_true rfl⟩) (mPreV hKK hM (Nat.le_trans hlo hS.1) ctC_0 rfl) rfl rfl hl.1 rfl (lv_room (Nat.le_of_ble_eq_true rfl)) dL_law_331 ⟨Nat.le_trans (show 19 + 2 * t + 0 ≤ 600000 by omega) (Nat.le_of_ble_eq_true rfl), Nat.le_trans (show 10953 + 26 * t + 0 ≤ 7302250 by omega) (Nat.le_of_ble_eq_true rfl)⟩) hS (fun H locs hM hS => ?_)
  refine lv_aload_n hx hb dL_law_334 rfl (lv_at hl 2 rfl) ?_
  refine lv_aload_n hx hb dL_law_335 rfl (lv_at hl 0 rfl) ?_
  refine lv_iload_n hx hb dL_law_336 rfl (lv_at hl 3 rfl) ?_
  refine lv_iconst (v := (nI 1)) hx hb dL_law_337 (by decide) ?_
  refine lv_iadd hx hb dL_law_338 ?_
  refine m_top (nI_add (4 * t) 1) ?_
  refine va_sld hx hb hX hbl hlb hS (vp_in_nI (show 4 * t + 1 < L by omega) (by omega)) dL_law_339 ?_
  refine m_top (y := x) (by rw [nI_clamp (show 4 * t + 1 < 2 ^ 31 by omega)]; exact hx1) ?_
  refine lv_aload_n hx hb dL_law_340 rfl (lv_at hl 0 rfl) ?_
  refine lv_iload_n hx hb dL_law_341 rfl (lv_at hl 3 rfl) ?_
  refine lv_iconst (v := (nI 2)) hx hb dL_law_342 (by decide) ?_
  refine lv_iadd hx hb dL_law_343 ?_
  refine m_top (nI_add (4 * t) 2) ?_
  refine va_sld hx hb hX hbl hlb hS (vp_in_nI (show 4 * t + 2 < L by omega) (by omega)) dL_law_344 ?_
  refine m_top (y := y) (by rw [nI_clamp (show 4 * t + 2 < 2 ^ 31 by omega)]; exact hx2) ?_
  rw [ctCM] at hM
  refine m_d1 (v := .int (-1)) (ct1 := ctM aC ad n th sz sg me gr gl P coM tb hc wd sm rc (ctC aC ad n gl E G P co lc hc hn hs (fun _ => none))) (va_runV (As := [.int x, .int y]) (rest := [.int (-1)]) F (c_mAbU2 l x y (hRE.no hn0) h200) (cwV 2 F.2.2.2.2 (go_V (fun _ h => tb_L h) mlL_57 imX4_abbreviation seX4_abbreviation iniX4 cdX4_abbreviation) rfl rfl rfl (by decide +kernel) ⟨Nat.le_of_ble_eq_true rfl, Nat.le_of_ble_eq_true rfl⟩) (mPreV hKK hM (Nat.le_trans hlo hS.1) ctM_o rfl) rfl rfl hl.1 rfl (lv_room (Nat.le_of_ble_eq_true rfl)) dL_law_345 ⟨Nat.le_trans (show 19 + 2 * t + 0 ≤ 600000 by omega) (Nat.le_of_ble_eq_true rfl), Nat.le_trans (show 10953 + 26 * t + 0 ≤ 7302250 by omega) (Nat.le_of_ble_eq_true rfl)⟩) hS (fun H locs hM hS => ?_)
  rw [← ctCM] at hM
  refine lv_icmp_eq (tgt := 376) hx hb dL_law_348 (by decide) (fun c_348 => ?_) (fun c_348 => ?_)
  · skip
    refine W.widen (k := 19 + 2 * t + 2) (n := 10953 + 26 * t + 26) (by omega) (by omega) ?_
    exact kk ad _ _ _ ⟨n, gl, E, G, P, co, lc, hc, hn, hs, th, sz, sg, me, gr, coM, tb, wd, sm, rc, hM, hRE, hRX, lv_sub hl [0, 1, 2, 3] rfl⟩ hS
  · skip
    exact absurd (rfl) c_348

set_option maxHeartbeats 4000000 in
set_option maxRecDepth 100000 in
theorem lwv_abS {pr : Program} {l : Launch} {en : Env} {s0 : State} {mm : MethodId} {below : List Frame} {meth : Method} {cc0 : Code} {D : va_G} {aC : Nat → ClassId} {lo b L t : Nat} {xs : Nat → Int32} {ad : Nat → Nat} {H : Heap} {locs : List Loc} {ls : Array Slot} {n : Nat} {gl : Int32} {E : Nat → Ent} {G : Nat → Nat → Nat} {P : Nat} {co : Nat → Option Nat} {lc : Nat → Nat} {hc : Nat} {hn : Nat → Nat} {hs : Nat → Nat} {th : Nat → Bool} {sz : Nat → Nat} {sg : Nat → Nat} {me : Nat → Nat} {gr : Nat → Int32} {coM : Nat → Option Nat} {tb : Nat → Nat} {wd : Nat → Nat} {sm : Nat → Nat} {rc : Nat → Nat} (F : CallFix pr mm cc0 code 4 s0 #[Value.ref b] lw_tbl RL) (hKK : mK D vwCl (tyA aC) s0) (hX : va_X b L xs s0 s0.heap) (hbl : b < s0.heap.size) (hlo : lo ≤ s0.heap.size) (hlb : ¬ lo ≤ b) (htL : 4 * t + 4 ≤ L) (hL : L ≤ 2048) (kk : ∀ (ad1 : Nat → Nat) (H1 : Heap) (locs1 : List Loc) (ls1 : Array Slot), lawI D aC lo b t ad1 H1 ls1 → va_S (fun q => lo ≤ q) s0.heap H1 locs1 → W pr l en room_1 s0 mm #[Value.ref b] below meth cc0 H1 locs1 (19 + 2 * t + 2) (10953 + 26 * t + 26) (lw_Z below #[Value.ref b] s0) (F0 mm 376 ls1 [])) (hM : mw D vwCl lo ad (ctC aC ad n gl E G P co lc hc hn hs (ctM aC ad n th sz sg me gr gl P coM tb hc wd sm rc (fun _ => none))) H) (hRE : RE n E G th sz sg me gr) (hRX : RX P hc gl co coM hn hs wd sm) (hl : lv_has ls 4 [(0, .ref b), (1, .ref (ad 0)), (2, .ref (ad 1000)), (3, .int (nI (4 * t)))]) (hS : va_S (fun q => lo ≤ q) s0.heap H locs) {j k : Nat} (hx1 : xs (4 * t + 1) = (nI j)) (hx2 : xs (4 * t + 2) = (nI k)) (hj1 : 1 ≤ j) (hj2 : j ≤ n) (hd : (E j).2.2.1 = false) (hk1 : 1 ≤ k) (hk2 : k ≤ n) (hdk : (E k).2.2.1 = false) (hst : j = k ∨ (E k).2.2.2.1 ≠ none ∨ 0 < cnt (abO E j) n) : W pr l en room_1 s0 mm #[Value.ref b] below meth cc0 H locs (19 + 2 * t) (10953 + 26 * t) (lw_Z below #[Value.ref b] s0) (F0 mm 320 ls []) := by
  have hK := hKK.1
  have hx := F.1
  have hb := F.2.1
  have h200 := hRE.1
  have hP := hRX.1
  have hcz := hRX.2.1
  refine lv_aload_n hx hb dL_law_320 rfl (lv_at hl 1 rfl) ?_
  refine lv_aload_n hx hb dL_law_321 rfl (lv_at hl 0 rfl) ?_
  refine lv_iload_n hx hb dL_law_322 rfl (lv_at hl 3 rfl) ?_
  refine lv_iconst (v := (nI 1)) hx hb dL_law_323 (by decide) ?_
  refine lv_iadd hx hb dL_law_324 ?_
  refine m_top (nI_add (4 * t) 1) ?_
  refine va_sld hx hb hX hbl hlb hS (vp_in_nI (show 4 * t + 1 < L by omega) (by omega)) dL_law_325 ?_
  refine m_top (y := (nI j)) (by rw [nI_clamp (show 4 * t + 1 < 2 ^ 31 by omega)]; exact hx1) ?_
  refine lv_aload_n hx hb dL_law_326 rfl (lv_at hl 0 rfl) ?_
  refine lv_iload_n hx hb dL_law_327 rfl (lv_at hl 3 rfl) ?_
  refine lv_iconst (v := (nI 2)) hx hb dL_law_328 (by decide) ?_
  refine lv_iadd hx hb dL_law_329 ?_
  refine m_top (nI_add (4 * t) 2) ?_
  refine va_sld hx hb hX hbl hlb hS (vp_in_nI (show 4 * t + 2 < L by omega) (by omega)) dL_law_330 ?_
  refine m_top (y := (nI k)) (by rw [nI_clamp (show 4 * t + 2 < 2 ^ 31 by omega)]; exact hx2) ?_
  refine m_d1 (v := .int (-3)) (ct1 := ctC aC ad n gl E G P co lc hc hn hs (ctM aC ad n th sz sg me gr gl P coM tb hc wd sm rc (fun _ => none))) (va_runV (As := [.int (nI j), .int (nI k)]) (rest := []) F (c_abS l j k hj1 hj2 h200 hd hk1 hk2 hdk hRE.sf hst) (cwV 2 F.2.2.2.2 (go_V (fun _ h => tb_L h) mlL_54 imX3_abbreviation seX3_abbreviation iniX3 cdX3_abbreviation) rfl rfl rfl (by decide +kernel) ⟨Nat.le_of_ble_eq_true rfl, Nat.le_of_ble_eq_true rfl⟩) (mPreV hKK hM (Nat.le_trans hlo hS.1) ctC_0 rfl) rfl rfl hl.1 rfl (lv_room (Nat.le_of_ble_eq_true rfl)) dL_law_331 ⟨Nat.le_trans (show 19 + 2 * t + 0 ≤ 600000 by omega) (Nat.le_of_ble_eq_true rfl), Nat.le_trans (show 10953 + 26 * t + 0 ≤ 7302250 by omega) (Nat.le_of_ble_eq_true rfl)⟩) hS (fun H locs hM hS => ?_)
  refine lv_aload_n hx hb dL_law_334 rfl (lv_at hl 2 rfl) ?_
  refine lv_aload_n hx hb dL_law_335 rfl (lv_at hl 0 rfl) ?_
  refine lv_iload_n hx hb dL_law_336 rfl (lv_at hl 3 rfl) ?_
  refine lv_iconst (v := (nI 1)) hx hb dL_law_337 (by decide) ?_
  refine lv_iadd hx hb dL_law_338 ?_
  refine m_top (nI_add (4 * t) 1) ?_
  refine va_sld hx hb hX hbl hlb hS (vp_in_nI (show 4 * t + 1 < L by omega) (by omega)) dL_law_339 ?_
  refine m_top (y := (nI j)) (by rw [nI_clamp (show 4 * t + 1 < 2 ^ 31 by omega)]; exact hx1) ?_
  refine lv_aload_n hx hb dL_law_340 rfl (lv_at hl 0 rfl) ?_
  refine lv_iload_n hx hb dL_law_341 rfl (lv_at hl 3 rfl) ?_
  refine lv_iconst (v := (nI 2)) hx hb dL_law_342 (by decide) ?_
  refine lv_iadd hx hb dL_law_343 ?_
  refine m_top (nI_add (4 * t) 2) ?_
  refine va_sld hx hb hX hbl hlb hS (vp_in_nI (show 4 * t + 2 < L by omega) (by omega)) dL_law_344 ?_
  refine m_top (y := (nI k)) (by rw [nI_clamp (show 4 * t + 2 < 2 ^ 31 by omega)]; exact hx2) ?_
  rw [ctCM] at hM
  refine m_d1 (v := .int (-3)) (ct1 := ctM aC ad n th sz sg me gr gl P coM tb hc wd sm rc (ctC aC ad n gl E G P co lc hc hn hs (fun _ => none))) (va_runV (As := [.int (nI j), .int (nI k)]) (rest := [.int (-3)]) F (c_mAbS l j k hj1 hj2 h200 (hRE.yes hj1 hj2 hd) hk1 hk2 (hRE.yes hk1 hk2 hdk) hRE.2.2.2.1 (by rcases hst with q | q | q; exact Or.inl q; exact Or.inr (Or.inl (fun z => q ((hRE.me_0 hk1 hk2 hdk).mp z))); exact Or.inr (Or.inr (by rw [← hRE.cntA hj1]; exact q)))) (cwV 2 F.2.2.2.2 (go_V (fun _ h => tb_L h) mlL_57 imX4_abbreviation seX4_abbreviation iniX4 cdX4_abbreviation) rfl rfl rfl (by decide +kernel) ⟨Nat.le_of_ble_eq_true rfl, Nat.le_of_ble_eq_true rfl⟩) (mPreV hKK hM (Nat.le_trans hlo hS.1) ctM_o rfl) rfl rfl hl.1 rfl (lv_room (Nat.le_of_ble_eq_true rfl)) dL_law_345 ⟨Nat.le_trans (show 19 + 2 * t + 0 ≤ 600000 by omega) (Nat.le_of_ble_eq_true rfl), Nat.le_trans (show 10953 + 26 * t + 0 ≤ 7302250 by omega) (Nat.le_of_ble_eq_true rfl)⟩) hS (fun H locs hM hS => ?_)
  rw [← ctCM] at hM
  refine lv_icmp_eq (tgt := 376) hx hb dL_law_348 (by decide) (fun c_348 => ?_) (fun c_348 => ?_)
  · skip
    refine W.widen (k := 19 + 2 * t + 2) (n := 10953 + 26 * t + 26) (by omega) (by omega) ?_
    exact kk ad _ _ _ ⟨n, gl, E, G, P, co, lc, hc, hn, hs, th, sz, sg, me, gr, coM, tb, wd, sm, rc, hM, hRE, hRX, lv_sub hl [0, 1, 2, 3] rfl⟩ hS
  · skip
    exact absurd (rfl) c_348

set_option maxHeartbeats 4000000 in
set_option maxRecDepth 100000 in
theorem lwv_ab {pr : Program} {l : Launch} {en : Env} {s0 : State} {mm : MethodId} {below : List Frame} {meth : Method} {cc0 : Code} {D : va_G} {aC : Nat → ClassId} {lo b L t : Nat} {xs : Nat → Int32} {ad : Nat → Nat} {H : Heap} {locs : List Loc} {ls : Array Slot} {n : Nat} {gl : Int32} {E : Nat → Ent} {G : Nat → Nat → Nat} {P : Nat} {co : Nat → Option Nat} {lc : Nat → Nat} {hc : Nat} {hn : Nat → Nat} {hs : Nat → Nat} {th : Nat → Bool} {sz : Nat → Nat} {sg : Nat → Nat} {me : Nat → Nat} {gr : Nat → Int32} {coM : Nat → Option Nat} {tb : Nat → Nat} {wd : Nat → Nat} {sm : Nat → Nat} {rc : Nat → Nat} (F : CallFix pr mm cc0 code 4 s0 #[Value.ref b] lw_tbl RL) (hKK : mK D vwCl (tyA aC) s0) (hX : va_X b L xs s0 s0.heap) (hbl : b < s0.heap.size) (hlo : lo ≤ s0.heap.size) (hlb : ¬ lo ≤ b) (htL : 4 * t + 4 ≤ L) (hL : L ≤ 2048) (kk : ∀ (ad1 : Nat → Nat) (H1 : Heap) (locs1 : List Loc) (ls1 : Array Slot), lawI D aC lo b t ad1 H1 ls1 → va_S (fun q => lo ≤ q) s0.heap H1 locs1 → W pr l en room_1 s0 mm #[Value.ref b] below meth cc0 H1 locs1 (19 + 2 * t + 2) (10953 + 26 * t + 26) (lw_Z below #[Value.ref b] s0) (F0 mm 376 ls1 [])) (hM : mw D vwCl lo ad (ctC aC ad n gl E G P co lc hc hn hs (ctM aC ad n th sz sg me gr gl P coM tb hc wd sm rc (fun _ => none))) H) (hRE : RE n E G th sz sg me gr) (hRX : RX P hc gl co coM hn hs wd sm) (hl : lv_has ls 4 [(0, .ref b), (1, .ref (ad 0)), (2, .ref (ad 1000)), (3, .int (nI (4 * t)))]) (hS : va_S (fun q => lo ≤ q) s0.heap H locs) {j k : Nat} (hx1 : xs (4 * t + 1) = (nI j)) (hx2 : xs (4 * t + 2) = (nI k)) (hj1 : 1 ≤ j) (hj2 : j ≤ n) (hd : (E j).2.2.1 = false) (hk1 : 1 ≤ k) (hk2 : k ≤ n) (hdk : (E k).2.2.1 = false) (hjk : ¬ j = k) (hsk : (E k).2.2.2.1 = none) (hc0 : cnt (abO E j) n = 0) : W pr l en room_1 s0 mm #[Value.ref b] below meth cc0 H locs (19 + 2 * t) (10953 + 26 * t) (lw_Z below #[Value.ref b] s0) (F0 mm 320 ls []) := by
  have hK := hKK.1
  have hx := F.1
  have hb := F.2.1
  have h200 := hRE.1
  have hP := hRX.1
  have hcz := hRX.2.1
  have hR2 := hRE.ab hj1 hj2 hd hk1 hk2 hdk hjk hsk (fun i a b q => by have h9 := cnt_0 hc0 i a b; unfold abO at h9; rw [q, ((hRE.2.2.2.2.2 i a b).2.2.2.2.2 j q).2.2.1] at h9; simp at h9)
  refine lv_aload_n hx hb dL_law_320 rfl (lv_at hl 1 rfl) ?_
  refine lv_aload_n hx hb dL_law_321 rfl (lv_at hl 0 rfl) ?_
  refine lv_iload_n hx hb dL_law_322 rfl (lv_at hl 3 rfl) ?_
  refine lv_iconst (v := (nI 1)) hx hb dL_law_323 (by decide) ?_
  refine lv_iadd hx hb dL_law_324 ?_
  refine m_top (nI_add (4 * t) 1) ?_
  refine va_sld hx hb hX hbl hlb hS (vp_in_nI (show 4 * t + 1 < L by omega) (by omega)) dL_law_325 ?_
  refine m_top (y := (nI j)) (by rw [nI_clamp (show 4 * t + 1 < 2 ^ 31 by omega)]; exact hx1) ?_
  refine lv_aload_n hx hb dL_law_326 rfl (lv_at hl 0 rfl) ?_
  refine lv_iload_n hx hb dL_law_327 rfl (lv_at hl 3 rfl) ?_
  refine lv_iconst (v := (nI 2)) hx hb dL_law_328 (by decide) ?_
  refine lv_iadd hx hb dL_law_329 ?_
  refine m_top (nI_add (4 * t) 2) ?_
  refine va_sld hx hb hX hbl hlb hS (vp_in_nI (show 4 * t + 2 < L by omega) (by omega)) dL_law_330 ?_
  refine m_top (y := (nI k)) (by rw [nI_clamp (show 4 * t + 2 < 2 ^ 31 by omega)]; exact hx2) ?_
  refine m_d1 (v := .int (nI (cnt (abO (va_up E j (seS (E j) (some k))) k) n))) (ct1 := ctC aC ad n gl (va_up E j (seS (E j) (some k))) G P co lc hc hn hs (ctM aC ad n th sz sg me gr gl P coM tb hc wd sm rc (fun _ => none))) (va_runV (As := [.int (nI j), .int (nI k)]) (rest := []) F (c_ab l j k hj1 hj2 h200 hd hk1 hk2 hdk hRE.sf hjk hsk hc0) (cwV 2 F.2.2.2.2 (go_V (fun _ h => tb_L h) mlL_54 imX3_abbreviation seX3_abbreviation iniX3 cdX3_abbreviation) rfl rfl rfl (by decide +kernel) ⟨Nat.le_of_ble_eq_true rfl, Nat.le_of_ble_eq_true rfl⟩) (mPreV hKK hM (Nat.le_trans hlo hS.1) ctC_0 rfl) rfl rfl hl.1 rfl (lv_room (Nat.le_of_ble_eq_true rfl)) dL_law_331 ⟨Nat.le_trans (show 19 + 2 * t + 0 ≤ 600000 by omega) (Nat.le_of_ble_eq_true rfl), Nat.le_trans (show 10953 + 26 * t + 0 ≤ 7302250 by omega) (Nat.le_of_ble_eq_true rfl)⟩) hS (fun H locs hM hS => ?_)
  refine lv_aload_n hx hb dL_law_334 rfl (lv_at hl 2 rfl) ?_
  refine lv_aload_n hx hb dL_law_335 rfl (lv_at hl 0 rfl) ?_
  refine lv_iload_n hx hb dL_law_336 rfl (lv_at hl 3 rfl) ?_
  refine lv_iconst (v := (nI 1)) hx hb dL_law_337 (by decide) ?_
  refine lv_iadd hx hb dL_law_338 ?_
  refine m_top (nI_add (4 * t) 1) ?_
  refine va_sld hx hb hX hbl hlb hS (vp_in_nI (show 4 * t + 1 < L by omega) (by omega)) dL_law_339 ?_
  refine m_top (y := (nI j)) (by rw [nI_clamp (show 4 * t + 1 < 2 ^ 31 by omega)]; exact hx1) ?_
  refine lv_aload_n hx hb dL_law_340 rfl (lv_at hl 0 rfl) ?_
  refine lv_iload_n hx hb dL_law_341 rfl (lv_at hl 3 rfl) ?_
  refine lv_iconst (v := (nI 2)) hx hb dL_law_342 (by decide) ?_
  refine lv_iadd hx hb dL_law_343 ?_
  refine m_top (nI_add (4 * t) 2) ?_
  refine va_sld hx hb hX hbl hlb hS (vp_in_nI (show 4 * t + 2 < L by omega) (by omega)) dL_law_344 ?_
  refine m_top (y := (nI k)) (by rw [nI_clamp (show 4 * t + 2 < 2 ^ 31 by omega)]; exact hx2) ?_
  rw [ctCM] at hM
  refine m_d1 (v := .int (nI (cnt (abM th (un me j k) k) n))) (ct1 := ctM aC ad n th sz sg (un me j k) gr gl P coM tb hc wd sm rc (ctC aC ad n gl (va_up E j (seS (E j) (some k))) G P co lc hc hn hs (fun _ => none))) (va_runV (As := [.int (nI j), .int (nI k)]) (rest := [.int (nI (cnt (abO (va_up E j (seS (E j) (some k))) k) n))]) F (c_mAb l j k hj1 hj2 h200 (hRE.yes hj1 hj2 hd) hk1 hk2 (hRE.yes hk1 hk2 hdk) hRE.2.2.2.1 hjk ((hRE.me_0 hk1 hk2 hdk).mpr hsk) (by rw [← hRE.cntA hj1]; exact hc0)) (cwV 2 F.2.2.2.2 (go_V (fun _ h => tb_L h) mlL_57 imX4_abbreviation seX4_abbreviation iniX4 cdX4_abbreviation) rfl rfl rfl (by decide +kernel) ⟨Nat.le_of_ble_eq_true rfl, Nat.le_of_ble_eq_true rfl⟩) (mPreV hKK hM (Nat.le_trans hlo hS.1) ctM_o rfl) rfl rfl hl.1 rfl (lv_room (Nat.le_of_ble_eq_true rfl)) dL_law_345 ⟨Nat.le_trans (show 19 + 2 * t + 0 ≤ 600000 by omega) (Nat.le_of_ble_eq_true rfl), Nat.le_trans (show 10953 + 26 * t + 0 ≤ 7302250 by omega) (Nat.le_of_ble_eq_true rfl)⟩) hS (fun H locs hM hS => ?_)
  rw [← ctCM] at hM
  refine lv_icmp_eq (tgt := 376) hx hb dL_law_348 (by decide) (fun c_348 => ?_) (fun c_348 => ?_)
  · skip
    refine W.widen (k := 19 + 2 * t + 2) (n := 10953 + 26 * t + 26) (by omega) (by omega) ?_
    exact kk ad _ _ _ ⟨n, gl, (va_up E j (seS (E j) (some k))), G, P, co, lc, hc, hn, hs, th, sz, sg, (un me j k), gr, coM, tb, wd, sm, rc, hM, hR2, hRX, lv_sub hl [0, 1, 2, 3] rfl⟩ hS
  · skip
    exact absurd (congrArg nI (hR2.cntA hk1)) c_348

set_option maxHeartbeats 4000000 in
set_option maxRecDepth 100000 in
theorem lwv_findN {pr : Program} {l : Launch} {en : Env} {s0 : State} {mm : MethodId} {below : List Frame} {meth : Method} {cc0 : Code} {D : va_G} {aC : Nat → ClassId} {lo b L t : Nat} {xs : Nat → Int32} {ad : Nat → Nat} {H : Heap} {locs : List Loc} {ls : Array Slot} {n : Nat} {gl : Int32} {E : Nat → Ent} {G : Nat → Nat → Nat} {P : Nat} {co : Nat → Option Nat} {lc : Nat → Nat} {hc : Nat} {hn : Nat → Nat} {hs : Nat → Nat} {th : Nat → Bool} {sz : Nat → Nat} {sg : Nat → Nat} {me : Nat → Nat} {gr : Nat → Int32} {coM : Nat → Option Nat} {tb : Nat → Nat} {wd : Nat → Nat} {sm : Nat → Nat} {rc : Nat → Nat} (F : CallFix pr mm cc0 code 4 s0 #[Value.ref b] lw_tbl RL) (hKK : mK D vwCl (tyA aC) s0) (hX : va_X b L xs s0 s0.heap) (hbl : b < s0.heap.size) (hlo : lo ≤ s0.heap.size) (hlb : ¬ lo ≤ b) (htL : 4 * t + 4 ≤ L) (hL : L ≤ 2048) (kk : ∀ (ad1 : Nat → Nat) (H1 : Heap) (locs1 : List Loc) (ls1 : Array Slot), lawI D aC lo b t ad1 H1 ls1 → va_S (fun q => lo ≤ q) s0.heap H1 locs1 → W pr l en room_1 s0 mm #[Value.ref b] below meth cc0 H1 locs1 (19 + 2 * t + 2) (10953 + 26 * t + 26) (lw_Z below #[Value.ref b] s0) (F0 mm 376 ls1 [])) (hM : mw D vwCl lo ad (ctC aC ad n gl E G P co lc hc hn hs (ctM aC ad n th sz sg me gr gl P coM tb hc wd sm rc (fun _ => none))) H) (hRE : RE n E G th sz sg me gr) (hRX : RX P hc gl co coM hn hs wd sm) (hl : lv_has ls 4 [(0, .ref b), (1, .ref (ad 0)), (2, .ref (ad 1000)), (3, .int (nI (4 * t)))]) (hS : va_S (fun q => lo ≤ q) s0.heap H locs) {x : Int32} (hx1 : xs (4 * t + 1) = x) (hk : isK x = false) : W pr l en room_1 s0 mm #[Value.ref b] below meth cc0 H locs (19 + 2 * t) (10953 + 26 * t) (lw_Z below #[Value.ref b] s0) (F0 mm 217 ls []) := by
  have hK := hKK.1
  have hx := F.1
  have hb := F.2.1
  have h200 := hRE.1
  have hP := hRX.1
  have hcz := hRX.2.1
  refine lv_aload_n hx hb dL_law_217 rfl (lv_at hl 1 rfl) ?_
  refine lv_aload_n hx hb dL_law_218 rfl (lv_at hl 0 rfl) ?_
  refine lv_iload_n hx hb dL_law_219 rfl (lv_at hl 3 rfl) ?_
  refine lv_iconst (v := (nI 1)) hx hb dL_law_220 (by decide) ?_
  refine lv_iadd hx hb dL_law_221 ?_
  refine m_top (nI_add (4 * t) 1) ?_
  refine va_sld hx hb hX hbl hlb hS (vp_in_nI (show 4 * t + 1 < L by omega) (by omega)) dL_law_222 ?_
  refine m_top (y := x) (by rw [nI_clamp (show 4 * t + 1 < 2 ^ 31 by omega)]; exact hx1) ?_
  refine m_d1 (v := .int (-2)) (ct1 := ctC aC ad n gl E G P co lc hc hn hs (ctM aC ad n th sz sg me gr gl P coM tb hc wd sm rc (fun _ => none))) (va_runV (As := [.int x]) (rest := []) F (c_findN l x hk) (cwV 1 F.2.2.2.2 (go_V (fun _ h => tb_L h) mlL_37 imX3_find seX3_find iniX3 cdX3_find) rfl rfl rfl (by decide +kernel) ⟨Nat.le_of_ble_eq_true rfl, Nat.le_of_ble_eq_true rfl⟩) (mPreV hKK hM (Nat.le_trans hlo hS.1) ctC_0 rfl) rfl rfl hl.1 rfl (lv_room (Nat.le_of_ble_eq_true rfl)) dL_law_223 ⟨Nat.le_trans (show 19 + 2 * t + 0 ≤ 600000 by omega) (Nat.le_of_ble_eq_true rfl), Nat.le_trans (show 10953 + 26 * t + 0 ≤ 7302250 by omega) (Nat.le_of_ble_eq_true rfl)⟩) hS (fun H locs hM hS => ?_)
  refine lv_aload_n hx hb dL_law_226 rfl (lv_at hl 2 rfl) ?_
  refine lv_aload_n hx hb dL_law_227 rfl (lv_at hl 0 rfl) ?_
  refine lv_iload_n hx hb dL_law_228 rfl (lv_at hl 3 rfl) ?_
  refine lv_iconst (v := (nI 1)) hx hb dL_law_229 (by decide) ?_
  refine lv_iadd hx hb dL_law_230 ?_
  refine m_top (nI_add (4 * t) 1) ?_
  refine va_sld hx hb hX hbl hlb hS (vp_in_nI (show 4 * t + 1 < L by omega) (by omega)) dL_law_231 ?_
  refine m_top (y := x) (by rw [nI_clamp (show 4 * t + 1 < 2 ^ 31 by omega)]; exact hx1) ?_
  rw [ctCM] at hM
  refine m_d1 (v := .int (-2)) (ct1 := ctM aC ad n th sz sg me gr gl P coM tb hc wd sm rc (ctC aC ad n gl E G P co lc hc hn hs (fun _ => none))) (va_runV (As := [.int x]) (rest := [.int (-2)]) F (c_mFindO l x hk) (cwV 1 F.2.2.2.2 (go_V (fun _ h => tb_L h) mlL_40 imX4_find seX4_find iniX4 cdX4_find) rfl rfl rfl (by decide +kernel) ⟨Nat.le_of_ble_eq_true rfl, Nat.le_of_ble_eq_true rfl⟩) (mPreV hKK hM (Nat.le_trans hlo hS.1) ctM_o rfl) rfl rfl hl.1 rfl (lv_room (Nat.le_of_ble_eq_true rfl)) dL_law_232 ⟨Nat.le_trans (show 19 + 2 * t + 0 ≤ 600000 by omega) (Nat.le_of_ble_eq_true rfl), Nat.le_trans (show 10953 + 26 * t + 0 ≤ 7302250 by omega) (Nat.le_of_ble_eq_true rfl)⟩) hS (fun H locs hM hS => ?_)
  rw [← ctCM] at hM
  refine lv_icmp_eq (tgt := 376) hx hb dL_law_235 (by decide) (fun c_235 => ?_) (fun c_235 => ?_)
  · skip
    refine W.widen (k := 19 + 2 * t + 2) (n := 10953 + 26 * t + 26) (by omega) (by omega) ?_
    exact kk ad _ _ _ ⟨n, gl, E, G, P, co, lc, hc, hn, hs, th, sz, sg, me, gr, coM, tb, wd, sm, rc, hM, hRE, hRX, lv_sub hl [0, 1, 2, 3] rfl⟩ hS
  · skip
    exact absurd (rfl) c_235

set_option maxHeartbeats 4000000 in
set_option maxRecDepth 100000 in
theorem lwv_plainN {pr : Program} {l : Launch} {en : Env} {s0 : State} {mm : MethodId} {below : List Frame} {meth : Method} {cc0 : Code} {D : va_G} {aC : Nat → ClassId} {lo b L t : Nat} {xs : Nat → Int32} {ad : Nat → Nat} {H : Heap} {locs : List Loc} {ls : Array Slot} {n : Nat} {gl : Int32} {E : Nat → Ent} {G : Nat → Nat → Nat} {P : Nat} {co : Nat → Option Nat} {lc : Nat → Nat} {hc : Nat} {hn : Nat → Nat} {hs : Nat → Nat} {th : Nat → Bool} {sz : Nat → Nat} {sg : Nat → Nat} {me : Nat → Nat} {gr : Nat → Int32} {coM : Nat → Option Nat} {tb : Nat → Nat} {wd : Nat → Nat} {sm : Nat → Nat} {rc : Nat → Nat} (F : CallFix pr mm cc0 code 4 s0 #[Value.ref b] lw_tbl RL) (hKK : mK D vwCl (tyA aC) s0) (hX : va_X b L xs s0 s0.heap) (hbl : b < s0.heap.size) (hlo : lo ≤ s0.heap.size) (hlb : ¬ lo ≤ b) (htL : 4 * t + 4 ≤ L) (hL : L ≤ 2048) (kk : ∀ (ad1 : Nat → Nat) (H1 : Heap) (locs1 : List Loc) (ls1 : Array Slot), lawI D aC lo b t ad1 H1 ls1 → va_S (fun q => lo ≤ q) s0.heap H1 locs1 → W pr l en room_1 s0 mm #[Value.ref b] below meth cc0 H1 locs1 (19 + 2 * t + 2) (10953 + 26 * t + 26) (lw_Z below #[Value.ref b] s0) (F0 mm 376 ls1 [])) (hM : mw D vwCl lo ad (ctC aC ad n gl E G P co lc hc hn hs (ctM aC ad n th sz sg me gr gl P coM tb hc wd sm rc (fun _ => none))) H) (hRE : RE n E G th sz sg me gr) (hRX : RX P hc gl co coM hn hs wd sm) (hl : lv_has ls 4 [(0, .ref b), (1, .ref (ad 0)), (2, .ref (ad 1000)), (3, .int (nI (4 * t)))]) (hS : va_S (fun q => lo ≤ q) s0.heap H locs) {x : Int32} (hx1 : xs (4 * t + 1) = x) (hk : isK x = false) : W pr l en room_1 s0 mm #[Value.ref b] below meth cc0 H locs (19 + 2 * t) (10953 + 26 * t) (lw_Z below #[Value.ref b] s0) (F0 mm 353 ls []) := by
  have hK := hKK.1
  have hx := F.1
  have hb := F.2.1
  have h200 := hRE.1
  have hP := hRX.1
  have hcz := hRX.2.1
  refine lv_aload_n hx hb dL_law_353 rfl (lv_at hl 1 rfl) ?_
  refine lv_aload_n hx hb dL_law_354 rfl (lv_at hl 0 rfl) ?_
  refine lv_iload_n hx hb dL_law_355 rfl (lv_at hl 3 rfl) ?_
  refine lv_iconst (v := (nI 1)) hx hb dL_law_356 (by decide) ?_
  refine lv_iadd hx hb dL_law_357 ?_
  refine m_top (nI_add (4 * t) 1) ?_
  refine va_sld hx hb hX hbl hlb hS (vp_in_nI (show 4 * t + 1 < L by omega) (by omega)) dL_law_358 ?_
  refine m_top (y := x) (by rw [nI_clamp (show 4 * t + 1 < 2 ^ 31 by omega)]; exact hx1) ?_
  refine m_d1 (v := .int (-2)) (ct1 := ctC aC ad n gl E G P co lc hc hn hs (ctM aC ad n th sz sg me gr gl P coM tb hc wd sm rc (fun _ => none))) (va_runV (As := [.int x]) (rest := []) F (c_plainN l x hk) (cwV 1 F.2.2.2.2 (go_V (fun _ h => tb_L h) mlL_58 imX3_plain seX3_plain iniX3 cdX3_plain) rfl rfl rfl (by decide +kernel) ⟨Nat.le_of_ble_eq_true rfl, Nat.le_of_ble_eq_true rfl⟩) (mPreV hKK hM (Nat.le_trans hlo hS.1) ctC_0 rfl) rfl rfl hl.1 rfl (lv_room (Nat.le_of_ble_eq_true rfl)) dL_law_359 ⟨Nat.le_trans (show 19 + 2 * t + 0 ≤ 600000 by omega) (Nat.le_of_ble_eq_true rfl), Nat.le_trans (show 10953 + 26 * t + 0 ≤ 7302250 by omega) (Nat.le_of_ble_eq_true rfl)⟩) hS (fun H locs hM hS => ?_)
  refine lv_aload_n hx hb dL_law_362 rfl (lv_at hl 2 rfl) ?_
  refine lv_aload_n hx hb dL_law_363 rfl (lv_at hl 0 rfl) ?_
  refine lv_iload_n hx hb dL_law_364 rfl (lv_at hl 3 rfl) ?_
  refine lv_iconst (v := (nI 1)) hx hb dL_law_365 (by decide) ?_
  refine lv_iadd hx hb dL_law_366 ?_
  refine m_top (nI_add (4 * t) 1) ?_
  refine va_sld hx hb hX hbl hlb hS (vp_in_nI (show 4 * t + 1 < L by omega) (by omega)) dL_law_367 ?_
  refine m_top (y := x) (by rw [nI_clamp (show 4 * t + 1 < 2 ^ 31 by omega)]; exact hx1) ?_
  rw [ctCM] at hM
  refine m_d1 (v := .int (-2)) (ct1 := ctM aC ad n th sz sg me gr gl P coM tb hc wd sm rc (ctC aC ad n gl E G P co lc hc hn hs (fun _ => none))) (va_runV (As := [.int x]) (rest := [.int (-2)]) F (c_mPlainO l x hk) (cwV 1 F.2.2.2.2 (go_V (fun _ h => tb_L h) mlL_61 imX4_plain seX4_plain iniX4 cdX4_plain) rfl rfl rfl (by decide +kernel) ⟨Nat.le_of_ble_eq_true rfl, Nat.le_of_ble_eq_true rfl⟩) (mPreV hKK hM (Nat.le_trans hlo hS.1) ctM_o rfl) rfl rfl hl.1 rfl (lv_room (Nat.le_of_ble_eq_true rfl)) dL_law_368 ⟨Nat.le_trans (show 19 + 2 * t + 0 ≤ 600000 by omega) (Nat.le_of_ble_eq_true rfl), Nat.le_trans (show 10953 + 26 * t + 0 ≤ 7302250 by omega) (Nat.le_of_ble_eq_true rfl)⟩) hS (fun H locs hM hS => ?_)
  rw [← ctCM] at hM
  refine lv_icmp_eq (tgt := 376) hx hb dL_law_371 (by decide) (fun c_371 => ?_) (fun c_371 => ?_)
  · skip
    refine W.widen (k := 19 + 2 * t + 2) (n := 10953 + 26 * t + 26) (by omega) (by omega) ?_
    exact kk ad _ _ _ ⟨n, gl, E, G, P, co, lc, hc, hn, hs, th, sz, sg, me, gr, coM, tb, wd, sm, rc, hM, hRE, hRX, lv_sub hl [0, 1, 2, 3] rfl⟩ hS
  · skip
    exact absurd (rfl) c_371

set_option maxHeartbeats 4000000 in
set_option maxRecDepth 100000 in
theorem lwv_find {pr : Program} {l : Launch} {en : Env} {s0 : State} {mm : MethodId} {below : List Frame} {meth : Method} {cc0 : Code} {D : va_G} {aC : Nat → ClassId} {lo b L t : Nat} {xs : Nat → Int32} {ad : Nat → Nat} {H : Heap} {locs : List Loc} {ls : Array Slot} {n : Nat} {gl : Int32} {E : Nat → Ent} {G : Nat → Nat → Nat} {P : Nat} {co : Nat → Option Nat} {lc : Nat → Nat} {hc : Nat} {hn : Nat → Nat} {hs : Nat → Nat} {th : Nat → Bool} {sz : Nat → Nat} {sg : Nat → Nat} {me : Nat → Nat} {gr : Nat → Int32} {coM : Nat → Option Nat} {tb : Nat → Nat} {wd : Nat → Nat} {sm : Nat → Nat} {rc : Nat → Nat} (F : CallFix pr mm cc0 code 4 s0 #[Value.ref b] lw_tbl RL) (hKK : mK D vwCl (tyA aC) s0) (hX : va_X b L xs s0 s0.heap) (hbl : b < s0.heap.size) (hlo : lo ≤ s0.heap.size) (hlb : ¬ lo ≤ b) (htL : 4 * t + 4 ≤ L) (hL : L ≤ 2048) (kk : ∀ (ad1 : Nat → Nat) (H1 : Heap) (locs1 : List Loc) (ls1 : Array Slot), lawI D aC lo b t ad1 H1 ls1 → va_S (fun q => lo ≤ q) s0.heap H1 locs1 → W pr l en room_1 s0 mm #[Value.ref b] below meth cc0 H1 locs1 (19 + 2 * t + 2) (10953 + 26 * t + 26) (lw_Z below #[Value.ref b] s0) (F0 mm 376 ls1 [])) (hM : mw D vwCl lo ad (ctC aC ad n gl E G P co lc hc hn hs (ctM aC ad n th sz sg me gr gl P coM tb hc wd sm rc (fun _ => none))) H) (hRE : RE n E G th sz sg me gr) (hRX : RX P hc gl co coM hn hs wd sm) (hl : lv_has ls 4 [(0, .ref b), (1, .ref (ad 0)), (2, .ref (ad 1000)), (3, .int (nI (4 * t)))]) (hS : va_S (fun q => lo ≤ q) s0.heap H locs) {k : Nat} (hx1 : xs (4 * t + 1) = (nI k)) (hk1 : 1 ≤ k) (hk2 : k ≤ 1000) : W pr l en room_1 s0 mm #[Value.ref b] below meth cc0 H locs (19 + 2 * t) (10953 + 26 * t) (lw_Z below #[Value.ref b] s0) (F0 mm 217 ls []) := by
  have hK := hKK.1
  have hx := F.1
  have hb := F.2.1
  have h200 := hRE.1
  have hP := hRX.1
  have hcz := hRX.2.1
  have hOrd := ordR_fH (q := okF gl (rkE P co G E n)) (E := rkE P co G E n) (hn := hn) (hs := hs) n
  have hE9 : ∀ j, ((rkE P co G E n) j).2.2.2.2 ≤ 100000 := (hRE.reck (co := co) hP).2.2.1
  refine lv_aload_n hx hb dL_law_217 rfl (lv_at hl 1 rfl) ?_
  refine lv_aload_n hx hb dL_law_218 rfl (lv_at hl 0 rfl) ?_
  refine lv_iload_n hx hb dL_law_219 rfl (lv_at hl 3 rfl) ?_
  refine lv_iconst (v := (nI 1)) hx hb dL_law_220 (by decide) ?_
  refine lv_iadd hx hb dL_law_221 ?_
  refine m_top (nI_add (4 * t) 1) ?_
  refine va_sld hx hb hX hbl hlb hS (vp_in_nI (show 4 * t + 1 < L by omega) (by omega)) dL_law_222 ?_
  refine m_top (y := (nI k)) (by rw [nI_clamp (show 4 * t + 1 < 2 ^ 31 by omega)]; exact hx1) ?_
  refine m_ret1 (va_runV (As := [.int (nI k)]) (rest := []) F (c_find l k hk1 hk2 hRX.2.2.2.2.2.2.1 h200 hP hRX.2.2.2.1 hRE.2.1 hRE.sgn hRE.2.2.1 hRE.sf) (cwV 1 F.2.2.2.2 (go_V (fun _ h => tb_L h) mlL_37 imX3_find seX3_find iniX3 cdX3_find) rfl rfl rfl (by decide +kernel) ⟨Nat.le_of_ble_eq_true rfl, Nat.le_of_ble_eq_true rfl⟩) (mPreV hKK hM (Nat.le_trans hlo hS.1) ctC_0 rfl) rfl rfl hl.1 rfl (lv_room (Nat.le_of_ble_eq_true rfl)) dL_law_223 ⟨Nat.le_trans (show 19 + 2 * t + 0 ≤ 600000 by omega) (Nat.le_of_ble_eq_true rfl), Nat.le_trans (show 10953 + 26 * t + 0 ≤ 7302250 by omega) (Nat.le_of_ble_eq_true rfl)⟩) hS (fun v9 ad1 ct1 H locs hp9 hM hS => ?_)
  obtain ⟨rfl, h9, lc1, rfl⟩ := hp9
  replace h9 := h9.symm
  subst h9
  have hM : mw D vwCl lo ad (ctC aC ad n gl (rkE P co G E n) G P co lc1 (min (fH (okF gl (rkE P co G E n)) (rkE P co G E n) hn hs n).1 k) ((fH (okF gl (rkE P co G E n)) (rkE P co G E n) hn hs n).2.1) ((fH (okF gl (rkE P co G E n)) (rkE P co G E n) hn hs n).2.2) (ctM aC ad n th sz sg me gr gl P coM tb hc wd sm rc (fun _ => none))) H := hM
  refine lv_aload_n hx hb dL_law_226 rfl (lv_at hl 2 rfl) ?_
  refine lv_aload_n hx hb dL_law_227 rfl (lv_at hl 0 rfl) ?_
  refine lv_iload_n hx hb dL_law_228 rfl (lv_at hl 3 rfl) ?_
  refine lv_iconst (v := (nI 1)) hx hb dL_law_229 (by decide) ?_
  refine lv_iadd hx hb dL_law_230 ?_
  refine m_top (nI_add (4 * t) 1) ?_
  refine va_sld hx hb hX hbl hlb hS (vp_in_nI (show 4 * t + 1 < L by omega) (by omega)) dL_law_231 ?_
  refine m_top (y := (nI k)) (by rw [nI_clamp (show 4 * t + 1 < 2 ^ 31 by omega)]; exact hx1) ?_
  rw [ctCM] at hM
  refine m_ret1 (va_runV (As := [.int (nI k)]) (rest := [.int (nI (min (fH (okF gl (rkE P co G E n)) (rkE P co G E n) hn hs n).1 k))]) F (c_mFind l k (hc := (fH (okF gl (rkE P co G E n)) (rkE P co G E n) hn hs n).1) (hn := (fH (okF gl (rkE P co G E n)) (rkE P co G E n) hn hs n).2.1) (hs := (fH (okF gl (rkE P co G E n)) (rkE P co G E n) hn hs n).2.2) hk1 hk2 (by have := fH_le (q := okF gl (rkE P co G E n)) (E := rkE P co G E n) (hn := hn) (hs := hs) n; omega) (fun f hf => by have h9 := hOrd.2.1 f hf; exact ⟨h9.1, by have := h9.2.1; omega⟩) (fun f hf => by have h9 := hOrd.2.1 f hf; have h8 := h9.2.2.1; simp only [okF, Bool.and_eq_true, decide_eq_true_eq] at h8; rw [h9.2.2.2]; exact h8.2) (hRE.sel hP hRX.2.2.2.2.2.1 hRX.2.2.1) h200 hRE.2.2.2.1 hP hRE.sz20 hRX.2.2.2.2.1 hRE.sg127) (cwV 1 F.2.2.2.2 (go_V (fun _ h => tb_L h) mlL_40 imX4_find seX4_find iniX4 cdX4_find) rfl rfl rfl (by decide +kernel) ⟨Nat.le_of_ble_eq_true rfl, Nat.le_of_ble_eq_true rfl⟩) (mPreV hKK hM (Nat.le_trans hlo hS.1) ctM_o rfl) rfl rfl hl.1 rfl (lv_room (Nat.le_of_ble_eq_true rfl)) dL_law_232 ⟨Nat.le_trans (show 19 + 2 * t + 0 ≤ 600000 by omega) (Nat.le_of_ble_eq_true rfl), Nat.le_trans (show 10953 + 26 * t + 0 ≤ 7302250 by omega) (Nat.le_of_ble_eq_true rfl)⟩) hS (fun v9 ad1 ct1 H locs hp9 hM hS => ?_)
  obtain ⟨rfl, h9, tb1, rfl⟩ := hp9
  replace h9 := h9.symm
  subst h9
  have hM : mw D vwCl lo ad (ctM aC ad n th sz sg me gr gl P coM tb1 (min (fH (okF gl (rkE P co G E n)) (rkE P co G E n) hn hs n).1 k) (wdI (fH (okF gl (rkE P co G E n)) (rkE P co G E n) hn hs n).2.1 wd (min (fH (okF gl (rkE P co G E n)) (rkE P co G E n) hn hs n).1 k)) (wdI (fH (okF gl (rkE P co G E n)) (rkE P co G E n) hn hs n).2.2 sm (min (fH (okF gl (rkE P co G E n)) (rkE P co G E n) hn hs n).1 k)) (rcI (mfM th me gr gl) (fun a => sOm th me (owM P coM sz sg) a n) rc n) (ctC aC ad n gl (rkE P co G E n) G P co lc1 (min (fH (okF gl (rkE P co G E n)) (rkE P co G E n) hn hs n).1 k) ((fH (okF gl (rkE P co G E n)) (rkE P co G E n) hn hs n).2.1) ((fH (okF gl (rkE P co G E n)) (rkE P co G E n) hn hs n).2.2) (fun _ => none))) H := hM
  rw [← ctCM] at hM
  refine lv_icmp_eq (tgt := 376) hx hb dL_law_235 (by decide) (fun c_235 => ?_) (fun c_235 => ?_)
  · skip
    refine W.widen (k := 19 + 2 * t + 2) (n := 10953 + 26 * t + 26) (by omega) (by omega) ?_
    exact kk ad _ _ _ ⟨n, gl, (rkE P co G E n), G, P, co, lc1, (min (fH (okF gl (rkE P co G E n)) (rkE P co G E n) hn hs n).1 k), ((fH (okF gl (rkE P co G E n)) (rkE P co G E n) hn hs n).2.1), ((fH (okF gl (rkE P co G E n)) (rkE P co G E n) hn hs n).2.2), th, sz, sg, me, gr, coM, tb1, (wdI (fH (okF gl (rkE P co G E n)) (rkE P co G E n) hn hs n).2.1 wd (min (fH (okF gl (rkE P co G E n)) (rkE P co G E n) hn hs n).1 k)), (wdI (fH (okF gl (rkE P co G E n)) (rkE P co G E n) hn hs n).2.2 sm (min (fH (okF gl (rkE P co G E n)) (rkE P co G E n) hn hs n).1 k)), (rcI (mfM th me gr gl) (fun a => sOm th me (owM P coM sz sg) a n) rc n), hM, (hRE.reck hP), (hRX.hits (by have := fH_le (q := okF gl (rkE P co G E n)) (E := rkE P co G E n) (hn := hn) (hs := hs) n; omega) (fun j => fH_hs hRX.2.2.2.2.2.2.1 hE9 n j) (fun j hj => ⟨if_pos hj, if_pos hj⟩)), lv_sub hl [0, 1, 2, 3] rfl⟩ hS
  · skip
    exact absurd (rfl) c_235

set_option maxHeartbeats 4000000 in
set_option maxRecDepth 100000 in
theorem lwv_plain {pr : Program} {l : Launch} {en : Env} {s0 : State} {mm : MethodId} {below : List Frame} {meth : Method} {cc0 : Code} {D : va_G} {aC : Nat → ClassId} {lo b L t : Nat} {xs : Nat → Int32} {ad : Nat → Nat} {H : Heap} {locs : List Loc} {ls : Array Slot} {n : Nat} {gl : Int32} {E : Nat → Ent} {G : Nat → Nat → Nat} {P : Nat} {co : Nat → Option Nat} {lc : Nat → Nat} {hc : Nat} {hn : Nat → Nat} {hs : Nat → Nat} {th : Nat → Bool} {sz : Nat → Nat} {sg : Nat → Nat} {me : Nat → Nat} {gr : Nat → Int32} {coM : Nat → Option Nat} {tb : Nat → Nat} {wd : Nat → Nat} {sm : Nat → Nat} {rc : Nat → Nat} (F : CallFix pr mm cc0 code 4 s0 #[Value.ref b] lw_tbl RL) (hKK : mK D vwCl (tyA aC) s0) (hX : va_X b L xs s0 s0.heap) (hbl : b < s0.heap.size) (hlo : lo ≤ s0.heap.size) (hlb : ¬ lo ≤ b) (htL : 4 * t + 4 ≤ L) (hL : L ≤ 2048) (kk : ∀ (ad1 : Nat → Nat) (H1 : Heap) (locs1 : List Loc) (ls1 : Array Slot), lawI D aC lo b t ad1 H1 ls1 → va_S (fun q => lo ≤ q) s0.heap H1 locs1 → W pr l en room_1 s0 mm #[Value.ref b] below meth cc0 H1 locs1 (19 + 2 * t + 2) (10953 + 26 * t + 26) (lw_Z below #[Value.ref b] s0) (F0 mm 376 ls1 [])) (hM : mw D vwCl lo ad (ctC aC ad n gl E G P co lc hc hn hs (ctM aC ad n th sz sg me gr gl P coM tb hc wd sm rc (fun _ => none))) H) (hRE : RE n E G th sz sg me gr) (hRX : RX P hc gl co coM hn hs wd sm) (hl : lv_has ls 4 [(0, .ref b), (1, .ref (ad 0)), (2, .ref (ad 1000)), (3, .int (nI (4 * t)))]) (hS : va_S (fun q => lo ≤ q) s0.heap H locs) {k : Nat} (hx1 : xs (4 * t + 1) = (nI k)) (hk1 : 1 ≤ k) (hk2 : k ≤ 1000) : W pr l en room_1 s0 mm #[Value.ref b] below meth cc0 H locs (19 + 2 * t) (10953 + 26 * t) (lw_Z below #[Value.ref b] s0) (F0 mm 353 ls []) := by
  have hK := hKK.1
  have hx := F.1
  have hb := F.2.1
  have h200 := hRE.1
  have hP := hRX.1
  have hcz := hRX.2.1
  have hE9 : ∀ j, ((rkE P co G E n) j).2.2.2.2 ≤ 100000 := (hRE.reck (co := co) hP).2.2.1
  have hpq : ∀ i, 1 ≤ i → i ≤ n → okN th me gr gl P sz coM sg i = okP gl P co G (rkE P co G E n) i := fun i a b => hRE.okp hP hRX.2.2.2.2.2.1 hRX.2.2.1 a b
  have hcq : cnt (okN th me gr gl P sz coM sg) n = (pH (okP gl P co G (rkE P co G E n)) (rkE P co G E n) hn hs n).1 := (cnt_congr n hpq).trans (pH_cnt n).symm
  have hpl := pl_eq (k := k) (hn := hn) (hs := hs) (wd := wd) (sm := sm) (S := (fun a => sOm th me (owM P coM sz sg) a n)) (E := rkE P co G E n) hpq (fun i a b hq => by have h8 := hq; simp only [okP, Bool.and_eq_true] at h8; exact (hRE.mfs hP hRX.2.2.2.2.2.1 hRX.2.2.1 a b (by rw [(hRE.reck (co := co) hP).mf hRX.2.2.1 a b, h8.1.1, h8.1.2]; rfl)).symm) n (Nat.le_refl _)
  refine lv_aload_n hx hb dL_law_353 rfl (lv_at hl 1 rfl) ?_
  refine lv_aload_n hx hb dL_law_354 rfl (lv_at hl 0 rfl) ?_
  refine lv_iload_n hx hb dL_law_355 rfl (lv_at hl 3 rfl) ?_
  refine lv_iconst (v := (nI 1)) hx hb dL_law_356 (by decide) ?_
  refine lv_iadd hx hb dL_law_357 ?_
  refine m_top (nI_add (4 * t) 1) ?_
  refine va_sld hx hb hX hbl hlb hS (vp_in_nI (show 4 * t + 1 < L by omega) (by omega)) dL_law_358 ?_
  refine m_top (y := (nI k)) (by rw [nI_clamp (show 4 * t + 1 < 2 ^ 31 by omega)]; exact hx1) ?_
  refine m_ret1 (va_runV (As := [.int (nI k)]) (rest := []) F (c_plain l k hk1 hk2 hRX.2.2.2.2.2.2.1 h200 hP hRX.2.2.2.1 hRE.2.1 hRE.sgn hRE.2.2.1 hRE.sf) (cwV 1 F.2.2.2.2 (go_V (fun _ h => tb_L h) mlL_58 imX3_plain seX3_plain iniX3 cdX3_plain) rfl rfl rfl (by decide +kernel) ⟨Nat.le_of_ble_eq_true rfl, Nat.le_of_ble_eq_true rfl⟩) (mPreV hKK hM (Nat.le_trans hlo hS.1) ctC_0 rfl) rfl rfl hl.1 rfl (lv_room (Nat.le_of_ble_eq_true rfl)) dL_law_359 ⟨Nat.le_trans (show 19 + 2 * t + 0 ≤ 600000 by omega) (Nat.le_of_ble_eq_true rfl), Nat.le_trans (show 10953 + 26 * t + 0 ≤ 7302250 by omega) (Nat.le_of_ble_eq_true rfl)⟩) hS (fun v9 ad1 ct1 H locs hp9 hM hS => ?_)
  obtain ⟨rfl, h9, lc1, rfl⟩ := hp9
  replace h9 := h9.symm
  subst h9
  have hM : mw D vwCl lo ad (ctC aC ad n gl (rkE P co G E n) G P co lc1 (min (pH (okP gl P co G (rkE P co G E n)) (rkE P co G E n) hn hs n).1 k) ((pH (okP gl P co G (rkE P co G E n)) (rkE P co G E n) hn hs n).2.1) ((pH (okP gl P co G (rkE P co G E n)) (rkE P co G E n) hn hs n).2.2) (ctM aC ad n th sz sg me gr gl P coM tb hc wd sm rc (fun _ => none))) H := hM
  refine lv_aload_n hx hb dL_law_362 rfl (lv_at hl 2 rfl) ?_
  refine lv_aload_n hx hb dL_law_363 rfl (lv_at hl 0 rfl) ?_
  refine lv_iload_n hx hb dL_law_364 rfl (lv_at hl 3 rfl) ?_
  refine lv_iconst (v := (nI 1)) hx hb dL_law_365 (by decide) ?_
  refine lv_iadd hx hb dL_law_366 ?_
  refine m_top (nI_add (4 * t) 1) ?_
  refine va_sld hx hb hX hbl hlb hS (vp_in_nI (show 4 * t + 1 < L by omega) (by omega)) dL_law_367 ?_
  refine m_top (y := (nI k)) (by rw [nI_clamp (show 4 * t + 1 < 2 ^ 31 by omega)]; exact hx1) ?_
  rw [ctCM] at hM
  refine m_ret1 (va_runV (As := [.int (nI k)]) (rest := [.int (nI ((pH (okP gl P co G (rkE P co G E n)) (rkE P co G E n) hn hs n).1))]) F (c_mPlain l k hk1 hk2 h200 hRE.2.2.2.1 hP hRE.sz20 hRX.2.2.2.2.1 hRE.sg127) (cwV 1 F.2.2.2.2 (go_V (fun _ h => tb_L h) mlL_61 imX4_plain seX4_plain iniX4 cdX4_plain) rfl rfl rfl (by decide +kernel) ⟨Nat.le_of_ble_eq_true rfl, Nat.le_of_ble_eq_true rfl⟩) (mPreV hKK hM (Nat.le_trans hlo hS.1) ctM_o rfl) rfl rfl hl.1 rfl (lv_room (Nat.le_of_ble_eq_true rfl)) dL_law_368 ⟨Nat.le_trans (show 19 + 2 * t + 0 ≤ 600000 by omega) (Nat.le_of_ble_eq_true rfl), Nat.le_trans (show 10953 + 26 * t + 0 ≤ 7302250 by omega) (Nat.le_of_ble_eq_true rfl)⟩) hS (fun v9 ad1 ct1 H locs hp9 hM hS => ?_)
  obtain ⟨rfl, h9, tb1, rfl⟩ := hp9
  replace h9 := h9.symm
  subst h9
  have hM : mw D vwCl lo ad (ctM aC ad n th sz sg me gr gl P coM tb1 (min (cnt (okN th me gr gl P sz coM sg) n) k) ((plW (okN th me gr gl P sz coM sg) (fun a => sOm th me (owM P coM sz sg) a n) k wd sm n).1) ((plW (okN th me gr gl P sz coM sg) (fun a => sOm th me (owM P coM sz sg) a n) k wd sm n).2) rc (ctC aC ad n gl (rkE P co G E n) G P co lc1 (min (pH (okP gl P co G (rkE P co G E n)) (rkE P co G E n) hn hs n).1 k) ((pH (okP gl P co G (rkE P co G E n)) (rkE P co G E n) hn hs n).2.1) ((pH (okP gl P co G (rkE P co G E n)) (rkE P co G E n) hn hs n).2.2) (fun _ => none))) H := hM
  rw [hcq] at hM
  rw [← ctCM] at hM
  refine lv_icmp_eq (tgt := 376) hx hb dL_law_371 (by decide) (fun c_371 => ?_) (fun c_371 => ?_)
  · skip
    refine W.widen (k := 19 + 2 * t + 2) (n := 10953 + 26 * t + 26) (by omega) (by omega) ?_
    exact kk ad _ _ _ ⟨n, gl, (rkE P co G E n), G, P, co, lc1, (min (pH (okP gl P co G (rkE P co G E n)) (rkE P co G E n) hn hs n).1 k), ((pH (okP gl P co G (rkE P co G E n)) (rkE P co G E n) hn hs n).2.1), ((pH (okP gl P co G (rkE P co G E n)) (rkE P co G E n) hn hs n).2.2), th, sz, sg, me, gr, coM, tb1, ((plW (okN th me gr gl P sz coM sg) (fun a => sOm th me (owM P coM sz sg) a n) k wd sm n).1), ((plW (okN th me gr gl P sz coM sg) (fun a => sOm th me (owM P coM sz sg) a n) k wd sm n).2), rc, hM, (hRE.reck hP), (hRX.hits (by have := pH_le (q := okP gl P co G (rkE P co G E n)) (E := rkE P co G E n) (hn := hn) (hs := hs) n; omega) (fun j => pH_hs hRX.2.2.2.2.2.2.1 hE9 n j) (fun j hj => hpl j (by rw [← pH_cnt n (E := rkE P co G E n) (hn := hn) (hs := hs)]; exact hj))), lv_sub hl [0, 1, 2, 3] rfl⟩ hS
  · skip
    exact absurd (by rw [hcq]) c_371
