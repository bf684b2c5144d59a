/-! THE CLAIM OUT OF ONE WALK OF THE LAW'S BODY. Your part is whole_start (and what it stands on); all else here is the same for every law, but numbers. -/
def R_law : String := "WordTreesLaw"
def lw_P (b : Addr) (xs : List Int32) (args : Array Value) (s : State) : Prop := args = #[.ref b] ∧ s.IntsAt b xs ∧ xs.length ≤ 2048 ∧ (Jvm.Cond.and given_1 narrow_1).before args s = true
def lw_Q (_ : Array Value) (s : State) (o : Outcome) (t : State) : Prop := o = .returned (some (.int 1)) ∧ Framed s o t [] 600000 7302250
def lw_Z (below : List Frame) (a : Array Value) (s : State) : State → Prop := fun t => ∃ o, t.status = .running ∧ Ended t below o ∧ lw_Q a s o t
/-- the law's own end, with 1 on the stack, nothing written that was there before, its room as the claim has it -/
theorem lw_ret {p : Program} {l : Launch} {e : Env} {s : State} {m : MethodId} {below : List Frame} {meth : Method} {c : Code} {b : Nat} (hx : p.tables.exec = Jvm.exec) (hb : c.code = code) (hr : meth.sig.returnType = ret) (hlocks : meth.locks = false) {pc : Nat} {H : Heap} {ls : Array Slot} (hdg : decode code pc = .ok (.ireturn, 1)) : W p l e room_1 s m #[Value.ref b] below meth c H [] 600000 7302250 (lw_Z below #[Value.ref b] s) (F0 m pc ls [.int 1]) := by
  intro T hT X
  obtain ⟨fs, hret, hrun, hended, hW, hframe⟩ := X.leave (v := some (.int 1)) (hlocks := hlocks) (fun h => by rw [hr] at h; cases h)
  have hmeth' : T.vm.method? m = some meth := X.method'
  refine ⟨T.setFrames fs, ?_, .returned (some (.int 1)), hrun, hended, rfl, ⟨_, rfl⟩, hW, hframe⟩
  jvm_step X.here [X.here.top, hx, hb, hdg, hmeth', hr, ret, narrow_b1]
  (try refine ⟨rfl, ?_⟩); (try refine ⟨rfl, ?_⟩)
  first | (intro acts; rw [hret _ acts rfl rfl rfl]) | rw [hret _ _ rfl rfl rfl]
  exact Steps.refl _
/-- what holds at the law's entry: the machine, the code, the tables' words (any of lw_tbl by 'hts w (by decide +kernel)'), the script of L ints xs at the cell b, what the Statement gives of the start (any of its parts by flat_of_before) -/
def lw_At (p : Program) (s : State) (m : MethodId) (meth : Method) (c : Code) (b L : Nat) (xs : Nat → Int32) : Prop :=
  p.tables.exec = Jvm.exec ∧ c.code = code ∧ meth.sig.returnType = ret ∧ c.maxLocals = 4 ∧ s.vm.findClass R_law = some m.cls ∧ (∀ w ∈ lw_tbl, w.before #[Value.ref b] s = true) ∧ va_X b L xs s s.heap ∧ b < s.heap.size ∧ meth.locks = false ∧ (Jvm.Cond.and given_1 narrow_1).before #[Value.ref b] s = true
theorem lg_cmp_self {x : Int64} : lg_cmp x x = nI 0 := by
  unfold lg_cmp
  simp [nI_0]
set_option maxHeartbeats 4000000 in
set_option maxRecDepth 100000 in
theorem lwv_entry {pr : Program} {l : Launch} {en : Env} {s0 : State} {mm : MethodId} {below : List Frame} {meth : Method} {cc0 : Code} {D : va_G} {aC : Nat → ClassId} {lo b L t : Nat} {xs : Nat → Int32} {ad : Nat → Nat} {H : Heap} {locs : List Loc} {ls : Array Slot} {n : Nat} {gl : Int32} {E : Nat → Ent} {G : Nat → Nat → Nat} {P : Nat} {co : Nat → Option Nat} {lc : Nat → Nat} {hc : Nat} {hn : Nat → Nat} {hs : Nat → Nat} {th : Nat → Bool} {sz : Nat → Nat} {sg : Nat → Nat} {me : Nat → Nat} {gr : Nat → Int32} {coM : Nat → Option Nat} {tb : Nat → Nat} {wd : Nat → Nat} {sm : Nat → Nat} {rc : Nat → Nat} (F : CallFix pr mm cc0 code 4 s0 #[Value.ref b] lw_tbl RL) (hKK : mK D vwCl (tyA aC) s0) (hX : va_X b L xs s0 s0.heap) (hbl : b < s0.heap.size) (hlo : lo ≤ s0.heap.size) (hlb : ¬ lo ≤ b) (htL : 4 * t + 4 ≤ L) (hL : L ≤ 2048) (kk : ∀ (ad1 : Nat → Nat) (H1 : Heap) (locs1 : List Loc) (ls1 : Array Slot), lawI D aC lo b t ad1 H1 ls1 → va_S (fun q => lo ≤ q) s0.heap H1 locs1 → W pr l en room_1 s0 mm #[Value.ref b] below meth cc0 H1 locs1 (19 + 2 * t + 2) (10953 + 26 * t + 26) (lw_Z below #[Value.ref b] s0) (F0 mm 376 ls1 [])) (hM : mw D vwCl lo ad (ctC aC ad n gl E G P co lc hc hn hs (ctM aC ad n th sz sg me gr gl P coM tb hc wd sm rc (fun _ => none))) H) (hRE : RE n E G th sz sg me gr) (hRX : RX P hc gl co coM hn hs wd sm) (hl : lv_has ls 4 [(0, .ref b), (1, .ref (ad 0)), (2, .ref (ad 1000)), (3, .int (nI (4 * t)))]) (hS : va_S (fun q => lo ≤ q) s0.heap H locs)  (hnn : n < 200) : W pr l en room_1 s0 mm #[Value.ref b] below meth cc0 H locs (19 + 2 * t) (10953 + 26 * t) (lw_Z below #[Value.ref b] s0) (F0 mm 92 ls []) := by
  have hK := hKK.1
  have hx := F.1
  have hb := F.2.1
  have h200 := hRE.1
  have hP := hRX.1
  have hcz := hRX.2.1
  refine lv_aload_n hx hb dL_law_92 rfl (lv_at hl 1 rfl) ?_
  refine m_ret1 (va_runV (As := []) (rest := []) F (c_entry l rfl hnn hRE.sf) (cwV 0 F.2.2.2.2 (go_V (fun _ h => tb_L h) mlL_13 imX3_entry seX3_entry iniX3 cdX3_entry) rfl rfl rfl (by decide +kernel) ⟨Nat.le_of_ble_eq_true rfl, Nat.le_of_ble_eq_true rfl⟩) (mPreV hKK hM (Nat.le_trans hlo hS.1) ctC_0 rfl) rfl rfl hl.1 rfl (lv_room (Nat.le_of_ble_eq_true rfl)) dL_law_93 ⟨Nat.le_trans (show 19 + 2 * t + 2 ≤ 600000 by omega) (Nat.le_of_ble_eq_true rfl), Nat.le_trans (show 10953 + 26 * t + 26 ≤ 7302250 by omega) (Nat.le_of_ble_eq_true rfl)⟩) hS (fun v9 ad1 ct1 H locs hp9 hM hS => ?_)
  obtain ⟨rfl, had, rfl⟩ := hp9
  have e0 : ad 0 = ad1 0 := (had 0 (by omega) (by omega)).symm
  have e1 : ad 1000 = ad1 1000 := (had 1000 (by omega) (by omega)).symm
  have hM : mw D vwCl lo ad1 (ctC aC ad1 (n + 1) gl (va_up E (n + 1) (0, 0, false, none, 0)) (va_up G (n + 1) (fun _ => 0)) P co lc hc hn hs (ctM aC ad1 n th sz sg me gr gl P coM tb hc wd sm rc (fun _ => none))) H := by rw [← ctM_ad (fun k hk => had k (by omega) (by omega))]; exact hM
  rw [e0, e1] at hl
  refine lv_aload_n hx hb dL_law_96 rfl (lv_at hl 2 rfl) ?_
  rw [ctCM] at hM
  refine m_d1 (v := .int (nI (n + 1))) (ct1 := ctM aC ad1 (n + 1) (va_up th (n + 1) true) sz sg me gr gl P coM tb hc wd sm rc (ctC aC ad1 (n + 1) gl (va_up E (n + 1) (0, 0, false, none, 0)) (va_up G (n + 1) (fun _ => 0)) P co lc hc hn hs (fun _ => none))) (va_runV (As := []) (rest := [.int (nI (n + 1))]) F (c_mEntry l hnn) (cwV 0 F.2.2.2.2 (go_V (fun _ h => tb_L h) mlL_17 imX4_entry seX4_entry iniX4 cdX4_entry) rfl rfl rfl (by decide +kernel) ⟨Nat.le_of_ble_eq_true rfl, Nat.le_of_ble_eq_true rfl⟩) (mPreV hKK hM (Nat.le_trans hlo hS.1) ctM_o rfl) rfl rfl hl.1 rfl (lv_room (Nat.le_of_ble_eq_true rfl)) dL_law_97 ⟨Nat.le_trans (show 19 + 2 * t + 2 + 0 ≤ 600000 by omega) (Nat.le_of_ble_eq_true rfl), Nat.le_trans (show 10953 + 26 * t + 26 + 0 ≤ 7302250 by omega) (Nat.le_of_ble_eq_true rfl)⟩) hS (fun H locs hM hS => ?_)
  rw [← ctCM] at hM
  refine lv_icmp_eq (tgt := 376) hx hb dL_law_100 (by decide) (fun c_100 => ?_) (fun c_100 => ?_)
  · skip
    refine W.widen (k := 19 + 2 * t + 2) (n := 10953 + 26 * t + 26) (by omega) (by omega) ?_
    exact kk ad1 _ _ _ ⟨(n + 1), gl, (va_up E (n + 1) (0, 0, false, none, 0)), (va_up G (n + 1) (fun _ => 0)), P, co, lc, hc, hn, hs, (va_up th (n + 1) true), sz, sg, me, gr, coM, tb, wd, sm, rc, hM, (hRE.entry hnn), hRX, lv_sub hl [0, 1, 2, 3] rfl⟩ hS
  · skip
    exact absurd (rfl) c_100

set_option maxHeartbeats 4000000 in
set_option maxRecDepth 100000 in
theorem lwv_entryR {pr : Program} {l : Launch} {en : Env} {s0 : State} {mm : MethodId} {below : List Frame} {meth : Method} {cc0 : Code} {D : va_G} {aC : Nat → ClassId} {lo b L t : Nat} {xs : Nat → Int32} {ad : Nat → Nat} {H : Heap} {locs : List Loc} {ls : Array Slot} {n : Nat} {gl : Int32} {E : Nat → Ent} {G : Nat → Nat → Nat} {P : Nat} {co : Nat → Option Nat} {lc : Nat → Nat} {hc : Nat} {hn : Nat → Nat} {hs : Nat → Nat} {th : Nat → Bool} {sz : Nat → Nat} {sg : Nat → Nat} {me : Nat → Nat} {gr : Nat → Int32} {coM : Nat → Option Nat} {tb : Nat → Nat} {wd : Nat → Nat} {sm : Nat → Nat} {rc : Nat → Nat} (F : CallFix pr mm cc0 code 4 s0 #[Value.ref b] lw_tbl RL) (hKK : mK D vwCl (tyA aC) s0) (hX : va_X b L xs s0 s0.heap) (hbl : b < s0.heap.size) (hlo : lo ≤ s0.heap.size) (hlb : ¬ lo ≤ b) (htL : 4 * t + 4 ≤ L) (hL : L ≤ 2048) (kk : ∀ (ad1 : Nat → Nat) (H1 : Heap) (locs1 : List Loc) (ls1 : Array Slot), lawI D aC lo b t ad1 H1 ls1 → va_S (fun q => lo ≤ q) s0.heap H1 locs1 → W pr l en room_1 s0 mm #[Value.ref b] below meth cc0 H1 locs1 (19 + 2 * t + 2) (10953 + 26 * t + 26) (lw_Z below #[Value.ref b] s0) (F0 mm 376 ls1 [])) (hM : mw D vwCl lo ad (ctC aC ad n gl E G P co lc hc hn hs (ctM aC ad n th sz sg me gr gl P coM tb hc wd sm rc (fun _ => none))) H) (hRE : RE n E G th sz sg me gr) (hRX : RX P hc gl co coM hn hs wd sm) (hl : lv_has ls 4 [(0, .ref b), (1, .ref (ad 0)), (2, .ref (ad 1000)), (3, .int (nI (4 * t)))]) (hS : va_S (fun q => lo ≤ q) s0.heap H locs)  (hnn : n = 200) : W pr l en room_1 s0 mm #[Value.ref b] below meth cc0 H locs (19 + 2 * t) (10953 + 26 * t) (lw_Z below #[Value.ref b] s0) (F0 mm 92 ls []) := by
  have hK := hKK.1
  have hx := F.1
  have hb := F.2.1
  have h200 := hRE.1
  have hP := hRX.1
  have hcz := hRX.2.1
  refine lv_aload_n hx hb dL_law_92 rfl (lv_at hl 1 rfl) ?_
  refine m_d1 (v := .int (-4)) (ct1 := ctC aC ad n gl E G P co lc hc hn hs (ctM aC ad n th sz sg me gr gl P coM tb hc wd sm rc (fun _ => none))) (va_runV (As := []) (rest := []) F (c_entryR l hnn) (cwV 0 F.2.2.2.2 (go_V (fun _ h => tb_L h) mlL_13 imX3_entry seX3_entry iniX3 cdX3_entry) rfl rfl rfl (by decide +kernel) ⟨Nat.le_of_ble_eq_true rfl, Nat.le_of_ble_eq_true rfl⟩) (mPreV hKK hM (Nat.le_trans hlo hS.1) ctC_0 rfl) rfl rfl hl.1 rfl (lv_room (Nat.le_of_ble_eq_true rfl)) dL_law_93 ⟨Nat.le_trans (show 19 + 2 * t + 0 ≤ 600000 by omega) (Nat.le_of_ble_eq_true rfl), Nat.le_trans (show 10953 + 26 * t + 0 ≤ 7302250 by omega) (Nat.le_of_ble_eq_true rfl)⟩) hS (fun H locs hM hS => ?_)
  refine lv_aload_n hx hb dL_law_96 rfl (lv_at hl 2 rfl) ?_
  rw [ctCM] at hM
  refine m_d1 (v := .int (-4)) (ct1 := ctM aC ad n th sz sg me gr gl P coM tb hc wd sm rc (ctC aC ad n gl E G P co lc hc hn hs (fun _ => none))) (va_runV (As := []) (rest := [.int (-4)]) F (c_mEntryR l hnn) (cwV 0 F.2.2.2.2 (go_V (fun _ h => tb_L h) mlL_17 imX4_entry seX4_entry iniX4 cdX4_entry) rfl rfl rfl (by decide +kernel) ⟨Nat.le_of_ble_eq_true rfl, Nat.le_of_ble_eq_true rfl⟩) (mPreV hKK hM (Nat.le_trans hlo hS.1) ctM_o rfl) rfl rfl hl.1 rfl (lv_room (Nat.le_of_ble_eq_true rfl)) dL_law_97 ⟨Nat.le_trans (show 19 + 2 * t + 0 ≤ 600000 by omega) (Nat.le_of_ble_eq_true rfl), Nat.le_trans (show 10953 + 26 * t + 0 ≤ 7302250 by omega) (Nat.le_of_ble_eq_true rfl)⟩) hS (fun H locs hM hS => ?_)
  rw [← ctCM] at hM
  refine lv_icmp_eq (tgt := 376) hx hb dL_law_100 (by decide) (fun c_100 => ?_) (fun c_100 => ?_)
  · skip
    refine W.widen (k := 19 + 2 * t + 2) (n := 10953 + 26 * t + 26) (by omega) (by omega) ?_
    exact kk ad _ _ _ ⟨n, gl, E, G, P, co, lc, hc, hn, hs, th, sz, sg, me, gr, coM, tb, wd, sm, rc, hM, hRE, hRX, lv_sub hl [0, 1, 2, 3] rfl⟩ hS
  · skip
    exact absurd (rfl) c_100

set_option maxHeartbeats 4000000 in
set_option maxRecDepth 100000 in
theorem lwv_letterU {pr : Program} {l : Launch} {en : Env} {s0 : State} {mm : MethodId} {below : List Frame} {meth : Method} {cc0 : Code} {D : va_G} {aC : Nat → ClassId} {lo b L t : Nat} {xs : Nat → Int32} {ad : Nat → Nat} {H : Heap} {locs : List Loc} {ls : Array Slot} {n : Nat} {gl : Int32} {E : Nat → Ent} {G : Nat → Nat → Nat} {P : Nat} {co : Nat → Option Nat} {lc : Nat → Nat} {hc : Nat} {hn : Nat → Nat} {hs : Nat → Nat} {th : Nat → Bool} {sz : Nat → Nat} {sg : Nat → Nat} {me : Nat → Nat} {gr : Nat → Int32} {coM : Nat → Option Nat} {tb : Nat → Nat} {wd : Nat → Nat} {sm : Nat → Nat} {rc : Nat → Nat} (F : CallFix pr mm cc0 code 4 s0 #[Value.ref b] lw_tbl RL) (hKK : mK D vwCl (tyA aC) s0) (hX : va_X b L xs s0 s0.heap) (hbl : b < s0.heap.size) (hlo : lo ≤ s0.heap.size) (hlb : ¬ lo ≤ b) (htL : 4 * t + 4 ≤ L) (hL : L ≤ 2048) (kk : ∀ (ad1 : Nat → Nat) (H1 : Heap) (locs1 : List Loc) (ls1 : Array Slot), lawI D aC lo b t ad1 H1 ls1 → va_S (fun q => lo ≤ q) s0.heap H1 locs1 → W pr l en room_1 s0 mm #[Value.ref b] below meth cc0 H1 locs1 (19 + 2 * t + 2) (10953 + 26 * t + 26) (lw_Z below #[Value.ref b] s0) (F0 mm 376 ls1 [])) (hM : mw D vwCl lo ad (ctC aC ad n gl E G P co lc hc hn hs (ctM aC ad n th sz sg me gr gl P coM tb hc wd sm rc (fun _ => none))) H) (hRE : RE n E G th sz sg me gr) (hRX : RX P hc gl co coM hn hs wd sm) (hl : lv_has ls 4 [(0, .ref b), (1, .ref (ad 0)), (2, .ref (ad 1000)), (3, .int (nI (4 * t)))]) (hS : va_S (fun q => lo ≤ q) s0.heap H locs) {x y : Int32} (hx1 : xs (4 * t + 1) = x) (hx2 : xs (4 * t + 2) = y) (hn0 : cLiv n E x = none) : W pr l en room_1 s0 mm #[Value.ref b] below meth cc0 H locs (19 + 2 * t) (10953 + 26 * t) (lw_Z below #[Value.ref b] s0) (F0 mm 105 ls []) := by
  have hK := hKK.1
  have hx := F.1
  have hb := F.2.1
  have h200 := hRE.1
  have hP := hRX.1
  have hcz := hRX.2.1
  refine lv_aload_n hx hb dL_law_105 rfl (lv_at hl 1 rfl) ?_
  refine lv_aload_n hx hb dL_law_106 rfl (lv_at hl 0 rfl) ?_
  refine lv_iload_n hx hb dL_law_107 rfl (lv_at hl 3 rfl) ?_
  refine lv_iconst (v := (nI 1)) hx hb dL_law_108 (by decide) ?_
  refine lv_iadd hx hb dL_law_109 ?_
  refine m_top (nI_add (4 * t) 1) ?_
  refine va_sld hx hb hX hbl hlb hS (vp_in_nI (show 4 * t + 1 < L by omega) (by omega)) dL_law_110 ?_
  refine m_top (y := x) (by rw [nI_clamp (show 4 * t + 1 < 2 ^ 31 by omega)]; exact hx1) ?_
  refine lv_aload_n hx hb dL_law_111 rfl (lv_at hl 0 rfl) ?_
  refine lv_iload_n hx hb dL_law_112 rfl (lv_at hl 3 rfl) ?_
  refine lv_iconst (v := (nI 2)) hx hb dL_law_113 (by decide) ?_
  refine lv_iadd hx hb dL_law_114 ?_
  refine m_top (nI_add (4 * t) 2) ?_
  refine va_sld hx hb hX hbl hlb hS (vp_in_nI (show 4 * t + 2 < L by omega) (by omega)) dL_law_115 ?_
  refine m_top (y := y) (by rw [nI_clamp (show 4 * t + 2 < 2 ^ 31 by omega)]; exact hx2) ?_
  refine m_d1 (v := .int (-1)) (ct1 := ctC aC ad n gl E G P co lc hc hn hs (ctM aC ad n th sz sg me gr gl P coM tb hc wd sm rc (fun _ => none))) (va_runV (As := [.int x, .int y]) (rest := []) F (c_letterU l x y hn0 h200) (cwV 2 F.2.2.2.2 (go_V (fun _ h => tb_L h) mlL_18 imX3_letter seX3_letter iniX3 cdX3_letter) rfl rfl rfl (by decide +kernel) ⟨Nat.le_of_ble_eq_true rfl, Nat.le_of_ble_eq_true rfl⟩) (mPreV hKK hM (Nat.le_trans hlo hS.1) ctC_0 rfl) rfl rfl hl.1 rfl (lv_room (Nat.le_of_ble_eq_true rfl)) dL_law_116 ⟨Nat.le_trans (show 19 + 2 * t + 0 ≤ 600000 by omega) (Nat.le_of_ble_eq_true rfl), Nat.le_trans (show 10953 + 26 * t + 0 ≤ 7302250 by omega) (Nat.le_of_ble_eq_true rfl)⟩) hS (fun H locs hM hS => ?_)
  refine lv_aload_n hx hb dL_law_119 rfl (lv_at hl 2 rfl) ?_
  refine lv_aload_n hx hb dL_law_120 rfl (lv_at hl 0 rfl) ?_
  refine lv_iload_n hx hb dL_law_121 rfl (lv_at hl 3 rfl) ?_
  refine lv_iconst (v := (nI 1)) hx hb dL_law_122 (by decide) ?_
  refine lv_iadd hx hb dL_law_123 ?_
  refine m_top (nI_add (4 * t) 1) ?_
  refine va_sld hx hb hX hbl hlb hS (vp_in_nI (show 4 * t + 1 < L by omega) (by omega)) dL_law_124 ?_
  refine m_top (y := x) (by rw [nI_clamp (show 4 * t + 1 < 2 ^ 31 by omega)]; exact hx1) ?_
  refine lv_aload_n hx hb dL_law_125 rfl (lv_at hl 0 rfl) ?_
  refine lv_iload_n hx hb dL_law_126 rfl (lv_at hl 3 rfl) ?_
  refine lv_iconst (v := (nI 2)) hx hb dL_law_127 (by decide) ?_
  refine lv_iadd hx hb dL_law_128 ?_
  refine m_top (nI_add (4 * t) 2) ?_
  refine va_sld hx hb hX hbl hlb hS (vp_in_nI (show 4 * t + 2 < L by omega) (by omega)) dL_law_129 ?_
  refine m_top (y := y) (by rw [nI_clamp (show 4 * t + 2 < 2 ^ 31 by omega)]; exact hx2) ?_
  rw [ctCM] at hM
  refine m_d1 (v := .int (-1)) (ct1 := ctM aC ad n th sz sg me gr gl P coM tb hc wd sm rc (ctC aC ad n gl E G P co lc hc hn hs (fun _ => none))) (va_runV (As := [.int x, .int y]) (rest := [.int (-1)]) F (c_mLetterU l x y (hRE.no hn0) h200) (cwV 2 F.2.2.2.2 (go_V (fun _ h => tb_L h) mlL_22 imX4_letter seX4_letter iniX4 cdX4_letter) rfl rfl rfl (by decide +kernel) ⟨Nat.le_of_ble_eq_true rfl, Nat.le_of_ble_eq_true rfl⟩) (mPreV hKK hM (Nat.le_trans hlo hS.1) ctM_o rfl) rfl rfl hl.1 rfl (lv_room (Nat.le_of_ble_eq_true rfl)) dL_law_130 ⟨Nat.le_trans (show 19 + 2 * t + 0 ≤ 600000 by omega) (Nat.le_of_ble_eq_true rfl), Nat.le_trans (show 10953 + 26 * t + 0 ≤ 7302250 by omega) (Nat.le_of_ble_eq_true rfl)⟩) hS (fun H locs hM hS => ?_)
  rw [← ctCM] at hM
  refine lv_icmp_eq (tgt := 376) hx hb dL_law_133 (by decide) (fun c_133 => ?_) (fun c_133 => ?_)
  · skip
    refine W.widen (k := 19 + 2 * t + 2) (n := 10953 + 26 * t + 26) (by omega) (by omega) ?_
    exact kk ad _ _ _ ⟨n, gl, E, G, P, co, lc, hc, hn, hs, th, sz, sg, me, gr, coM, tb, wd, sm, rc, hM, hRE, hRX, lv_sub hl [0, 1, 2, 3] rfl⟩ hS
  · skip
    exact absurd (rfl) c_133

set_option maxHeartbeats 4000000 in
set_option maxRecDepth 100000 in
theorem lwv_letterO {pr : Program} {l : Launch} {en : Env} {s0 : State} {mm : MethodId} {below : List Frame} {meth : Method} {cc0 : Code} {D : va_G} {aC : Nat → ClassId} {lo b L t : Nat} {xs : Nat → Int32} {ad : Nat → Nat} {H : Heap} {locs : List Loc} {ls : Array Slot} {n : Nat} {gl : Int32} {E : Nat → Ent} {G : Nat → Nat → Nat} {P : Nat} {co : Nat → Option Nat} {lc : Nat → Nat} {hc : Nat} {hn : Nat → Nat} {hs : Nat → Nat} {th : Nat → Bool} {sz : Nat → Nat} {sg : Nat → Nat} {me : Nat → Nat} {gr : Nat → Int32} {coM : Nat → Option Nat} {tb : Nat → Nat} {wd : Nat → Nat} {sm : Nat → Nat} {rc : Nat → Nat} (F : CallFix pr mm cc0 code 4 s0 #[Value.ref b] lw_tbl RL) (hKK : mK D vwCl (tyA aC) s0) (hX : va_X b L xs s0 s0.heap) (hbl : b < s0.heap.size) (hlo : lo ≤ s0.heap.size) (hlb : ¬ lo ≤ b) (htL : 4 * t + 4 ≤ L) (hL : L ≤ 2048) (kk : ∀ (ad1 : Nat → Nat) (H1 : Heap) (locs1 : List Loc) (ls1 : Array Slot), lawI D aC lo b t ad1 H1 ls1 → va_S (fun q => lo ≤ q) s0.heap H1 locs1 → W pr l en room_1 s0 mm #[Value.ref b] below meth cc0 H1 locs1 (19 + 2 * t + 2) (10953 + 26 * t + 26) (lw_Z below #[Value.ref b] s0) (F0 mm 376 ls1 [])) (hM : mw D vwCl lo ad (ctC aC ad n gl E G P co lc hc hn hs (ctM aC ad n th sz sg me gr gl P coM tb hc wd sm rc (fun _ => none))) H) (hRE : RE n E G th sz sg me gr) (hRX : RX P hc gl co coM hn hs wd sm) (hl : lv_has ls 4 [(0, .ref b), (1, .ref (ad 0)), (2, .ref (ad 1000)), (3, .int (nI (4 * t)))]) (hS : va_S (fun q => lo ≤ q) s0.heap H locs) {j : Nat} {y : Int32} (hx1 : xs (4 * t + 1) = (nI j)) (hx2 : xs (4 * t + 2) = y) (hj1 : 1 ≤ j) (hj2 : j ≤ n) (hd : (E j).2.2.1 = false) (hy : isSg y = false) : W pr l en room_1 s0 mm #[Value.ref b] below meth cc0 H locs (19 + 2 * t) (10953 + 26 * t) (lw_Z below #[Value.ref b] s0) (F0 mm 105 ls []) := by
  have hK := hKK.1
  have hx := F.1
  have hb := F.2.1
  have h200 := hRE.1
  have hP := hRX.1
  have hcz := hRX.2.1
  refine lv_aload_n hx hb dL_law_105 rfl (lv_at hl 1 rfl) ?_
  refine lv_aload_n hx hb dL_law_106 rfl (lv_at hl 0 rfl) ?_
  refine lv_iload_n hx hb dL_law_107 rfl (lv_at hl 3 rfl) ?_
  refine lv_iconst (v := (nI 1)) hx hb dL_law_108 (by decide) ?_
  refine lv_iadd hx hb dL_law_109 ?_
  refine m_top (nI_add (4 * t) 1) ?_
  refine va_sld hx hb hX hbl hlb hS (vp_in_nI (show 4 * t + 1 < L by omega) (by omega)) dL_law_110 ?_
  refine m_top (y := (nI j)) (by rw [nI_clamp (show 4 * t + 1 < 2 ^ 31 by omega)]; exact hx1) ?_
  refine lv_aload_n hx hb dL_law_111 rfl (lv_at hl 0 rfl) ?_
  refine lv_iload_n hx hb dL_law_112 rfl (lv_at hl 3 rfl) ?_
  refine lv_iconst (v := (nI 2)) hx hb dL_law_113 (by decide) ?_
  refine lv_iadd hx hb dL_law_114 ?_
  refine m_top (nI_add (4 * t) 2) ?_
  refine va_sld hx hb hX hbl hlb hS (vp_in_nI (show 4 * t + 2 < L by omega) (by omega)) dL_law_115 ?_
  refine m_top (y := y) (by rw [nI_clamp (show 4 * t + 2 < 2 ^ 31 by omega)]; exact hx2) ?_
  refine m_d1 (v := .int (-2)) (ct1 := ctC aC ad n gl E G P co lc hc hn hs (ctM aC ad n th sz sg me gr gl P coM tb hc wd sm rc (fun _ => none))) (va_runV (As := [.int (nI j), .int y]) (rest := []) F (c_letterO l j y hj1 hj2 h200 hd hy) (cwV 2 F.2.2.2.2 (go_V (fun _ h => tb_L h) mlL_18 imX3_letter seX3_letter iniX3 cdX3_letter) rfl rfl rfl (by decide +kernel) ⟨Nat.le_of_ble_eq_true rfl, Nat.le_of_ble_eq_true rfl⟩) (mPreV hKK hM (Nat.le_trans hlo hS.1) ctC_0 rfl) rfl rfl hl.1 rfl (lv_room (Nat.le_of_ble_eq_true rfl)) dL_law_116 ⟨Nat.le_trans (show 19 + 2 * t + 0 ≤ 600000 by omega) (Nat.le_of_ble_eq_true rfl), Nat.le_trans (show 10953 + 26 * t + 0 ≤ 7302250 by omega) (Nat.le_of_ble_eq_true rfl)⟩) hS (fun H locs hM hS => ?_)
  refine lv_aload_n hx hb dL_law_119 rfl (lv_at hl 2 rfl) ?_
  refine lv_aload_n hx hb dL_law_120 rfl (lv_at hl 0 rfl) ?_
  refine lv_iload_n hx hb dL_law_121 rfl (lv_at hl 3 rfl) ?_
  refine lv_iconst (v := (nI 1)) hx hb dL_law_122 (by decide) ?_
  refine lv_iadd hx hb dL_law_123 ?_
  refine m_top (nI_add (4 * t) 1) ?_
  refine va_sld hx hb hX hbl hlb hS (vp_in_nI (show 4 * t + 1 < L by omega) (by omega)) dL_law_124 ?_
  refine m_top (y := (nI j)) (by rw [nI_clamp (show 4 * t + 1 < 2 ^ 31 by omega)]; exact hx1) ?_
  refine lv_aload_n hx hb dL_law_125 rfl (lv_at hl 0 rfl) ?_
  refine lv_iload_n hx hb dL_law_126 rfl (lv_at hl 3 rfl) ?_
  refine lv_iconst (v := (nI 2)) hx hb dL_law_127 (by decide) ?_
  refine lv_iadd hx hb dL_law_128 ?_
  refine m_top (nI_add (4 * t) 2) ?_
  refine va_sld hx hb hX hbl hlb hS (vp_in_nI (show 4 * t + 2 < L by omega) (by omega)) dL_law_129 ?_
  refine m_top (y := y) (by rw [nI_clamp (show 4 * t + 2 < 2 ^ 31 by omega)]; exact hx2) ?_
  rw [ctCM] at hM
  refine m_d1 (v := .int (-2)) (ct1 := ctM aC ad n th sz sg me gr gl P coM tb hc wd sm rc (ctC aC ad n gl E G P co lc hc hn hs (fun _ => none))) (va_runV (As := [.int (nI j), .int y]) (rest := [.int (-2)]) F (c_mLetterO l j y hj1 hj2 h200 (hRE.yes hj1 hj2 hd) hy) (cwV 2 F.2.2.2.2 (go_V (fun _ h => tb_L h) mlL_22 imX4_letter seX4_letter iniX4 cdX4_letter) rfl rfl rfl (by decide +kernel) ⟨Nat.le_of_ble_eq_true rfl, Nat.le_of_ble_eq_true rfl⟩) (mPreV hKK hM (Nat.le_trans hlo hS.1) ctM_o rfl) rfl rfl hl.1 rfl (lv_room (Nat.le_of_ble_eq_true rfl)) dL_law_130 ⟨Nat.le_trans (show 19 + 2 * t + 0 ≤ 600000 by omega) (Nat.le_of_ble_eq_true rfl), Nat.le_trans (show 10953 + 26 * t + 0 ≤ 7302250 by omega) (Nat.le_of_ble_eq_true rfl)⟩) hS (fun H locs hM hS => ?_)
  rw [← ctCM] at hM
  refine lv_icmp_eq (tgt := 376) hx hb dL_law_133 (by decide) (fun c_133 => ?_) (fun c_133 => ?_)
  · skip
    refine W.widen (k := 19 + 2 * t + 2) (n := 10953 + 26 * t + 26) (by omega) (by omega) ?_
    exact kk ad _ _ _ ⟨n, gl, E, G, P, co, lc, hc, hn, hs, th, sz, sg, me, gr, coM, tb, wd, sm, rc, hM, hRE, hRX, lv_sub hl [0, 1, 2, 3] rfl⟩ hS
  · skip
    exact absurd (rfl) c_133

set_option maxHeartbeats 4000000 in
set_option maxRecDepth 100000 in
theorem lwv_letterR {pr : Program} {l : Launch} {en : Env} {s0 : State} {mm : MethodId} {below : List Frame} {meth : Method} {cc0 : Code} {D : va_G} {aC : Nat → ClassId} {lo b L t : Nat} {xs : Nat → Int32} {ad : Nat → Nat} {H : Heap} {locs : List Loc} {ls : Array Slot} {n : Nat} {gl : Int32} {E : Nat → Ent} {G : Nat → Nat → Nat} {P : Nat} {co : Nat → Option Nat} {lc : Nat → Nat} {hc : Nat} {hn : Nat → Nat} {hs : Nat → Nat} {th : Nat → Bool} {sz : Nat → Nat} {sg : Nat → Nat} {me : Nat → Nat} {gr : Nat → Int32} {coM : Nat → Option Nat} {tb : Nat → Nat} {wd : Nat → Nat} {sm : Nat → Nat} {rc : Nat → Nat} (F : CallFix pr mm cc0 code 4 s0 #[Value.ref b] lw_tbl RL) (hKK : mK D vwCl (tyA aC) s0) (hX : va_X b L xs s0 s0.heap) (hbl : b < s0.heap.size) (hlo : lo ≤ s0.heap.size) (hlb : ¬ lo ≤ b) (htL : 4 * t + 4 ≤ L) (hL : L ≤ 2048) (kk : ∀ (ad1 : Nat → Nat) (H1 : Heap) (locs1 : List Loc) (ls1 : Array Slot), lawI D aC lo b t ad1 H1 ls1 → va_S (fun q => lo ≤ q) s0.heap H1 locs1 → W pr l en room_1 s0 mm #[Value.ref b] below meth cc0 H1 locs1 (19 + 2 * t + 2) (10953 + 26 * t + 26) (lw_Z below #[Value.ref b] s0) (F0 mm 376 ls1 [])) (hM : mw D vwCl lo ad (ctC aC ad n gl E G P co lc hc hn hs (ctM aC ad n th sz sg me gr gl P coM tb hc wd sm rc (fun _ => none))) H) (hRE : RE n E G th sz sg me gr) (hRX : RX P hc gl co coM hn hs wd sm) (hl : lv_has ls 4 [(0, .ref b), (1, .ref (ad 0)), (2, .ref (ad 1000)), (3, .int (nI (4 * t)))]) (hS : va_S (fun q => lo ≤ q) s0.heap H locs) {j q : Nat} (hx1 : xs (4 * t + 1) = (nI j)) (hx2 : xs (4 * t + 2) = (nI q)) (hj1 : 1 ≤ j) (hj2 : j ≤ n) (hd : (E j).2.2.1 = false) (hq1 : 33 ≤ q) (hq2 : q ≤ 126) (hl20 : (E j).1 = 20) : W pr l en room_1 s0 mm #[Value.ref b] below meth cc0 H locs (19 + 2 * t) (10953 + 26 * t) (lw_Z below #[Value.ref b] s0) (F0 mm 105 ls []) := by
  have hK := hKK.1
  have hx := F.1
  have hb := F.2.1
  have h200 := hRE.1
  have hP := hRX.1
  have hcz := hRX.2.1
  have hzj : sz j = (E j).1 := (hRE.2.2.2.2.2 j hj1 hj2).2.2.1
  refine lv_aload_n hx hb dL_law_105 rfl (lv_at hl 1 rfl) ?_
  refine lv_aload_n hx hb dL_law_106 rfl (lv_at hl 0 rfl) ?_
  refine lv_iload_n hx hb dL_law_107 rfl (lv_at hl 3 rfl) ?_
  refine lv_iconst (v := (nI 1)) hx hb dL_law_108 (by decide) ?_
  refine lv_iadd hx hb dL_law_109 ?_
  refine m_top (nI_add (4 * t) 1) ?_
  refine va_sld hx hb hX hbl hlb hS (vp_in_nI (show 4 * t + 1 < L by omega) (by omega)) dL_law_110 ?_
  refine m_top (y := (nI j)) (by rw [nI_clamp (show 4 * t + 1 < 2 ^ 31 by omega)]; exact hx1) ?_
  refine lv_aload_n hx hb dL_law_111 rfl (lv_at hl 0 rfl) ?_
  refine lv_iload_n hx hb dL_law_112 rfl (lv_at hl 3 rfl) ?_
  refine lv_iconst (v := (nI 2)) hx hb dL_law_113 (by decide) ?_
  refine lv_iadd hx hb dL_law_114 ?_
  refine m_top (nI_add (4 * t) 2) ?_
  refine va_sld hx hb hX hbl hlb hS (vp_in_nI (show 4 * t + 2 < L by omega) (by omega)) dL_law_115 ?_
  refine m_top (y := (nI q)) (by rw [nI_clamp (show 4 * t + 2 < 2 ^ 31 by omega)]; exact hx2) ?_
  refine m_d1 (v := .int (-4)) (ct1 := ctC aC ad n gl E G P co lc hc hn hs (ctM aC ad n th sz sg me gr gl P coM tb hc wd sm rc (fun _ => none))) (va_runV (As := [.int (nI j), .int (nI q)]) (rest := []) F (c_letterR l j q hj1 hj2 h200 hd hq1 hq2 hl20) (cwV 2 F.2.2.2.2 (go_V (fun _ h => tb_L h) mlL_18 imX3_letter seX3_letter iniX3 cdX3_letter) rfl rfl rfl (by decide +kernel) ⟨Nat.le_of_ble_eq_true rfl, Nat.le_of_ble_eq_true rfl⟩) (mPreV hKK hM (Nat.le_trans hlo hS.1) ctC_0 rfl) rfl rfl hl.1 rfl (lv_room (Nat.le_of_ble_eq_true rfl)) dL_law_116 ⟨Nat.le_trans (show 19 + 2 * t + 0 ≤ 600000 by omega) (Nat.le_of_ble_eq_true rfl), Nat.le_trans (show 10953 + 26 * t + 0 ≤ 7302250 by omega) (Nat.le_of_ble_eq_true rfl)⟩) hS (fun H locs hM hS => ?_)
  refine lv_aload_n hx hb dL_law_119 rfl (lv_at hl 2 rfl) ?_
  refine lv_aload_n hx hb dL_law_120 rfl (lv_at hl 0 rfl) ?_
  refine lv_iload_n hx hb dL_law_121 rfl (lv_at hl 3 rfl) ?_
  refine lv_iconst (v := (nI 1)) hx hb dL_law_122 (by decide) ?_
  refine lv_iadd hx hb dL_law_123 ?_
  refine m_top (nI_add (4 * t) 1) ?_
  refine va_sld hx hb hX hbl hlb hS (vp_in_nI (show 4 * t + 1 < L by omega) (by omega)) dL_law_124 ?_
  refine m_top (y := (nI j)) (by rw [nI_clamp (show 4 * t + 1 < 2 ^ 31 by omega)]; exact hx1) ?_
  refine lv_aload_n hx hb dL_law_125 rfl (lv_at hl 0 rfl) ?_
  refine lv_iload_n hx hb dL_law_126 rfl (lv_at hl 3 rfl) ?_
  refine lv_iconst (v := (nI 2)) hx hb dL_law_127 (by decide) ?_
  refine lv_iadd hx hb dL_law_128 ?_
  refine m_top (nI_add (4 * t) 2) ?_
  refine va_sld hx hb hX hbl hlb hS (vp_in_nI (show 4 * t + 2 < L by omega) (by omega)) dL_law_129 ?_
  refine m_top (y := (nI q)) (by rw [nI_clamp (show 4 * t + 2 < 2 ^ 31 by omega)]; exact hx2) ?_
  rw [ctCM] at hM
  refine m_d1 (v := .int (-4)) (ct1 := ctM aC ad n th sz sg me gr gl P coM tb hc wd sm rc (ctC aC ad n gl E G P co lc hc hn hs (fun _ => none))) (va_runV (As := [.int (nI j), .int (nI q)]) (rest := [.int (-4)]) F (c_mLetterR l j q hj1 hj2 h200 (hRE.yes hj1 hj2 hd) hq1 hq2 hRE.sz20 (by rw [hzj]; exact hl20)) (cwV 2 F.2.2.2.2 (go_V (fun _ h => tb_L h) mlL_22 imX4_letter seX4_letter iniX4 cdX4_letter) rfl rfl rfl (by decide +kernel) ⟨Nat.le_of_ble_eq_true rfl, Nat.le_of_ble_eq_true rfl⟩) (mPreV hKK hM (Nat.le_trans hlo hS.1) ctM_o rfl) rfl rfl hl.1 rfl (lv_room (Nat.le_of_ble_eq_true rfl)) dL_law_130 ⟨Nat.le_trans (show 19 + 2 * t + 0 ≤ 600000 by omega) (Nat.le_of_ble_eq_true rfl), Nat.le_trans (show 10953 + 26 * t + 0 ≤ 7302250 by omega) (Nat.le_of_ble_eq_true rfl)⟩) hS (fun H locs hM hS => ?_)
  rw [← ctCM] at hM
  refine lv_icmp_eq (tgt := 376) hx hb dL_law_133 (by decide) (fun c_133 => ?_) (fun c_133 => ?_)
  · skip
    refine W.widen (k := 19 + 2 * t + 2) (n := 10953 + 26 * t + 26) (by omega) (by omega) ?_
    exact kk ad _ _ _ ⟨n, gl, E, G, P, co, lc, hc, hn, hs, th, sz, sg, me, gr, coM, tb, wd, sm, rc, hM, hRE, hRX, lv_sub hl [0, 1, 2, 3] rfl⟩ hS
  · skip
    exact absurd (rfl) c_133

set_option maxHeartbeats 4000000 in
set_option maxRecDepth 100000 in
theorem lwv_letter {pr : Program} {l : Launch} {en : Env} {s0 : State} {mm : MethodId} {below : List Frame} {meth : Method} {cc0 : Code} {D : va_G} {aC : Nat → ClassId} {lo b L t : Nat} {xs : Nat → Int32} {ad : Nat → Nat} {H : Heap} {locs : List Loc} {ls : Array Slot} {n : Nat} {gl : Int32} {E : Nat → Ent} {G : Nat → Nat → Nat} {P : Nat} {co : Nat → Option Nat} {lc : Nat → Nat} {hc : Nat} {hn : Nat → Nat} {hs : Nat → Nat} {th : Nat → Bool} {sz : Nat → Nat} {sg : Nat → Nat} {me : Nat → Nat} {gr : Nat → Int32} {coM : Nat → Option Nat} {tb : Nat → Nat} {wd : Nat → Nat} {sm : Nat → Nat} {rc : Nat → Nat} (F : CallFix pr mm cc0 code 4 s0 #[Value.ref b] lw_tbl RL) (hKK : mK D vwCl (tyA aC) s0) (hX : va_X b L xs s0 s0.heap) (hbl : b < s0.heap.size) (hlo : lo ≤ s0.heap.size) (hlb : ¬ lo ≤ b) (htL : 4 * t + 4 ≤ L) (hL : L ≤ 2048) (kk : ∀ (ad1 : Nat → Nat) (H1 : Heap) (locs1 : List Loc) (ls1 : Array Slot), lawI D aC lo b t ad1 H1 ls1 → va_S (fun q => lo ≤ q) s0.heap H1 locs1 → W pr l en room_1 s0 mm #[Value.ref b] below meth cc0 H1 locs1 (19 + 2 * t + 2) (10953 + 26 * t + 26) (lw_Z below #[Value.ref b] s0) (F0 mm 376 ls1 [])) (hM : mw D vwCl lo ad (ctC aC ad n gl E G P co lc hc hn hs (ctM aC ad n th sz sg me gr gl P coM tb hc wd sm rc (fun _ => none))) H) (hRE : RE n E G th sz sg me gr) (hRX : RX P hc gl co coM hn hs wd sm) (hl : lv_has ls 4 [(0, .ref b), (1, .ref (ad 0)), (2, .ref (ad 1000)), (3, .int (nI (4 * t)))]) (hS : va_S (fun q => lo ≤ q) s0.heap H locs) {j q : Nat} (hx1 : xs (4 * t + 1) = (nI j)) (hx2 : xs (4 * t + 2) = (nI q)) (hj1 : 1 ≤ j) (hj2 : j ≤ n) (hd : (E j).2.2.1 = false) (hq1 : 33 ≤ q) (hq2 : q ≤ 126) (hl20 : (E j).1 < 20) : W pr l en room_1 s0 mm #[Value.ref b] below meth cc0 H locs (19 + 2 * t) (10953 + 26 * t) (lw_Z below #[Value.ref b] s0) (F0 mm 105 ls []) := by
  have hK := hKK.1
  have hx := F.1
  have hb := F.2.1
  have h200 := hRE.1
  have hP := hRX.1
  have hcz := hRX.2.1
  have hzj : sz j = (E j).1 := (hRE.2.2.2.2.2 j hj1 hj2).2.2.1
  refine lv_aload_n hx hb dL_law_105 rfl (lv_at hl 1 rfl) ?_
  refine lv_aload_n hx hb dL_law_106 rfl (lv_at hl 0 rfl) ?_
  refine lv_iload_n hx hb dL_law_107 rfl (lv_at hl 3 rfl) ?_
  refine lv_iconst (v := (nI 1)) hx hb dL_law_108 (by decide) ?_
  refine lv_iadd hx hb dL_law_109 ?_
  refine m_top (nI_add (4 * t) 1) ?_
  refine va_sld hx hb hX hbl hlb hS (vp_in_nI (show 4 * t + 1 < L by omega) (by omega)) dL_law_110 ?_
  refine m_top (y := (nI j)) (by rw [nI_clamp (show 4 * t + 1 < 2 ^ 31 by omega)]; exact hx1) ?_
  refine lv_aload_n hx hb dL_law_111 rfl (lv_at hl 0 rfl) ?_
  refine lv_iload_n hx hb dL_law_112 rfl (lv_at hl 3 rfl) ?_
  refine lv_iconst (v := (nI 2)) hx hb dL_law_113 (by decide) ?_
  refine lv_iadd hx hb dL_law_114 ?_
  refine m_top (nI_add (4 * t) 2) ?_
  refine va_sld hx hb hX hbl hlb hS (vp_in_nI (show 4 * t + 2 < L by omega) (by omega)) dL_law_115 ?_
  refine m_top (y := (nI q)) (by rw [nI_clamp (show 4 * t + 2 < 2 ^ 31 by omega)]; exact hx2) ?_
  refine m_d1 (v := .int (nI ((E j).1 + 1))) (ct1 := ctC aC ad n gl (va_up E j (seN (E j) ((E j).1 + 1))) (va_up G j (un (G j) (E j).1 q)) P co lc hc hn hs (ctM aC ad n th sz sg me gr gl P coM tb hc wd sm rc (fun _ => none))) (va_runV (As := [.int (nI j), .int (nI q)]) (rest := []) F (c_letter l j q hj1 hj2 h200 hd hq1 hq2 hl20) (cwV 2 F.2.2.2.2 (go_V (fun _ h => tb_L h) mlL_18 imX3_letter seX3_letter iniX3 cdX3_letter) rfl rfl rfl (by decide +kernel) ⟨Nat.le_of_ble_eq_true rfl, Nat.le_of_ble_eq_true rfl⟩) (mPreV hKK hM (Nat.le_trans hlo hS.1) ctC_0 rfl) rfl rfl hl.1 rfl (lv_room (Nat.le_of_ble_eq_true rfl)) dL_law_116 ⟨Nat.le_trans (show 19 + 2 * t + 0 ≤ 600000 by omega) (Nat.le_of_ble_eq_true rfl), Nat.le_trans (show 10953 + 26 * t + 0 ≤ 7302250 by omega) (Nat.le_of_ble_eq_true rfl)⟩) hS (fun H locs hM hS => ?_)
  refine lv_aload_n hx hb dL_law_119 rfl (lv_at hl 2 rfl) ?_
  refine lv_aload_n hx hb dL_law_120 rfl (lv_at hl 0 rfl) ?_
  refine lv_iload_n hx hb dL_law_121 rfl (lv_at hl 3 rfl) ?_
  refine lv_iconst (v := (nI 1)) hx hb dL_law_122 (by decide) ?_
  refine lv_iadd hx hb dL_law_123 ?_
  refine m_top (nI_add (4 * t) 1) ?_
  refine va_sld hx hb hX hbl hlb hS (vp_in_nI (show 4 * t + 1 < L by omega) (by omega)) dL_law_124 ?_
  refine m_top (y := (nI j)) (by rw [nI_clamp (show 4 * t + 1 < 2 ^ 31 by omega)]; exact hx1) ?_
  refine lv_aload_n hx hb dL_law_125 rfl (lv_at hl 0 rfl) ?_
  refine lv_iload_n hx hb dL_law_126 rfl (lv_at hl 3 rfl) ?_
  refine lv_iconst (v := (nI 2)) hx hb dL_law_127 (by decide) ?_
  refine lv_iadd hx hb dL_law_128 ?_
  refine m_top (nI_add (4 * t) 2) ?_
  refine va_sld hx hb hX hbl hlb hS (vp_in_nI (show 4 * t + 2 < L by omega) (by omega)) dL_law_129 ?_
  refine m_top (y := (nI q)) (by rw [nI_clamp (show 4 * t + 2 < 2 ^ 31 by omega)]; exact hx2) ?_
  rw [ctCM] at hM
  refine m_d1 (v := .int (nI (sz j + 1))) (ct1 := ctM aC ad n th (un sz j (sz j + 1)) (un sg (20 * j + sz j) q) me gr gl P coM tb hc wd sm rc (ctC aC ad n gl (va_up E j (seN (E j) ((E j).1 + 1))) (va_up G j (un (G j) (E j).1 q)) P co lc hc hn hs (fun _ => none))) (va_runV (As := [.int (nI j), .int (nI q)]) (rest := [.int (nI ((E j).1 + 1))]) F (c_mLetter l j q hj1 hj2 h200 (hRE.yes hj1 hj2 hd) hq1 hq2 hRE.sz20 (by rw [hzj]; exact hl20)) (cwV 2 F.2.2.2.2 (go_V (fun _ h => tb_L h) mlL_22 imX4_letter seX4_letter iniX4 cdX4_letter) rfl rfl rfl (by decide +kernel) ⟨Nat.le_of_ble_eq_true rfl, Nat.le_of_ble_eq_true rfl⟩) (mPreV hKK hM (Nat.le_trans hlo hS.1) ctM_o rfl) rfl rfl hl.1 rfl (lv_room (Nat.le_of_ble_eq_true rfl)) dL_law_130 ⟨Nat.le_trans (show 19 + 2 * t + 0 ≤ 600000 by omega) (Nat.le_of_ble_eq_true rfl), Nat.le_trans (show 10953 + 26 * t + 0 ≤ 7302250 by omega) (Nat.le_of_ble_eq_true rfl)⟩) hS (fun H locs hM hS => ?_)
  rw [← ctCM] at hM
  refine lv_icmp_eq (tgt := 376) hx hb dL_law_133 (by decide) (fun c_133 => ?_) (fun c_133 => ?_)
  · skip
    refine W.widen (k := 19 + 2 * t + 2) (n := 10953 + 26 * t + 26) (by omega) (by omega) ?_
    exact kk ad _ _ _ ⟨n, gl, (va_up E j (seN (E j) ((E j).1 + 1))), (va_up G j (un (G j) (E j).1 q)), P, co, lc, hc, hn, hs, th, (un sz j (sz j + 1)), (un sg (20 * j + sz j) q), me, gr, coM, tb, wd, sm, rc, hM, (hRE.letter hj1 hj2 hl20 hq1 hq2), hRX, lv_sub hl [0, 1, 2, 3] rfl⟩ hS
  · skip
    exact absurd (by rw [hzj]) c_133

set_option maxHeartbeats 4000000 in
set_option maxRecDepth 100000 in
theorem lwv_dropU {pr : Program} {l : Launch} {en : Env} {s0 : State} {mm : MethodId} {below : List Frame} {meth : Method} {cc0 : Code} {D : va_G} {aC : Nat → ClassId} {lo b L t : Nat} {xs : Nat → Int32} {ad : Nat → Nat} {H : Heap} {locs : List Loc} {ls : Array Slot} {n : Nat} {gl : Int32} {E : Nat → Ent} {G : Nat → Nat → Nat} {P : Nat} {co : Nat → Option Nat} {lc : Nat → Nat} {hc : Nat} {hn : Nat → Nat} {hs : Nat → Nat} {th : Nat → Bool} {sz : Nat → Nat} {sg : Nat → Nat} {me : Nat → Nat} {gr : Nat → Int32} {coM : Nat → Option Nat} {tb : Nat → Nat} {wd : Nat → Nat} {sm : Nat → Nat} {rc : Nat → Nat} (F : CallFix pr mm cc0 code 4 s0 #[Value.ref b] lw_tbl RL) (hKK : mK D vwCl (tyA aC) s0) (hX : va_X b L xs s0 s0.heap) (hbl : b < s0.heap.size) (hlo : lo ≤ s0.heap.size) (hlb : ¬ lo ≤ b) (htL : 4 * t + 4 ≤ L) (hL : L ≤ 2048) (kk : ∀ (ad1 : Nat → Nat) (H1 : Heap) (locs1 : List Loc) (ls1 : Array Slot), lawI D aC lo b t ad1 H1 ls1 → va_S (fun q => lo ≤ q) s0.heap H1 locs1 → W pr l en room_1 s0 mm #[Value.ref b] below meth cc0 H1 locs1 (19 + 2 * t + 2) (10953 + 26 * t + 26) (lw_Z below #[Value.ref b] s0) (F0 mm 376 ls1 [])) (hM : mw D vwCl lo ad (ctC aC ad n gl E G P co lc hc hn hs (ctM aC ad n th sz sg me gr gl P coM tb hc wd sm rc (fun _ => none))) H) (hRE : RE n E G th sz sg me gr) (hRX : RX P hc gl co coM hn hs wd sm) (hl : lv_has ls 4 [(0, .ref b), (1, .ref (ad 0)), (2, .ref (ad 1000)), (3, .int (nI (4 * t)))]) (hS : va_S (fun q => lo ≤ q) s0.heap H locs) {x : Int32} (hx1 : xs (4 * t + 1) = x) (hn0 : cLiv n E x = none) : W pr l en room_1 s0 mm #[Value.ref b] below meth cc0 H locs (19 + 2 * t) (10953 + 26 * t) (lw_Z below #[Value.ref b] s0) (F0 mm 138 ls []) := by
  have hK := hKK.1
  have hx := F.1
  have hb := F.2.1
  have h200 := hRE.1
  have hP := hRX.1
  have hcz := hRX.2.1
  refine lv_aload_n hx hb dL_law_138 rfl (lv_at hl 1 rfl) ?_
  refine lv_aload_n hx hb dL_law_139 rfl (lv_at hl 0 rfl) ?_
  refine lv_iload_n hx hb dL_law_140 rfl (lv_at hl 3 rfl) ?_
  refine lv_iconst (v := (nI 1)) hx hb dL_law_141 (by decide) ?_
  refine lv_iadd hx hb dL_law_142 ?_
  refine m_top (nI_add (4 * t) 1) ?_
  refine va_sld hx hb hX hbl hlb hS (vp_in_nI (show 4 * t + 1 < L by omega) (by omega)) dL_law_143 ?_
  refine m_top (y := x) (by rw [nI_clamp (show 4 * t + 1 < 2 ^ 31 by omega)]; exact hx1) ?_
  refine m_d1 (v := .int (-1)) (ct1 := ctC aC ad n gl E G P co lc hc hn hs (ctM aC ad n th sz sg me gr gl P coM tb hc wd sm rc (fun _ => none))) (va_runV (As := [.int x]) (rest := []) F (c_dropU l x hn0 h200) (cwV 1 F.2.2.2.2 (go_V (fun _ h => tb_L h) mlL_23 imX3_drop seX3_drop iniX3 cdX3_drop) rfl rfl rfl (by decide +kernel) ⟨Nat.le_of_ble_eq_true rfl, Nat.le_of_ble_eq_true rfl⟩) (mPreV hKK hM (Nat.le_trans hlo hS.1) ctC_0 rfl) rfl rfl hl.1 rfl (lv_room (Nat.le_of_ble_eq_true rfl)) dL_law_144 ⟨Nat.le_trans (show 19 + 2 * t + 0 ≤ 600000 by omega) (Nat.le_of_ble_eq_true rfl), Nat.le_trans (show 10953 + 26 * t + 0 ≤ 7302250 by omega) (Nat.le_of_ble_eq_true rfl)⟩) hS (fun H locs hM hS => ?_)
  refine lv_aload_n hx hb dL_law_147 rfl (lv_at hl 2 rfl) ?_
  refine lv_aload_n hx hb dL_law_148 rfl (lv_at hl 0 rfl) ?_
  refine lv_iload_n hx hb dL_law_149 rfl (lv_at hl 3 rfl) ?_
  refine lv_iconst (v := (nI 1)) hx hb dL_law_150 (by decide) ?_
  refine lv_iadd hx hb dL_law_151 ?_
  refine m_top (nI_add (4 * t) 1) ?_
  refine va_sld hx hb hX hbl hlb hS (vp_in_nI (show 4 * t + 1 < L by omega) (by omega)) dL_law_152 ?_
  refine m_top (y := x) (by rw [nI_clamp (show 4 * t + 1 < 2 ^ 31 by omega)]; exact hx1) ?_
  rw [ctCM] at hM
  refine m_d1 (v := .int (-1)) (ct1 := ctM aC ad n th sz sg me gr gl P coM tb hc wd sm rc (ctC aC ad n gl E G P co lc hc hn hs (fun _ => none))) (va_runV (As := [.int x]) (rest := [.int (-1)]) F (c_mDropU l x (hRE.no hn0) h200) (cwV 1 F.2.2.2.2 (go_V (fun _ h => tb_L h) mlL_27 imX4_drop seX4_drop iniX4 cdX4_drop) rfl rfl rfl (by decide +kernel) ⟨Nat.le_of_ble_eq_true rfl, Nat.le_of_ble_eq_true rfl⟩) (mPreV hKK hM (Nat.le_trans hlo hS.1) ctM_o rfl) rfl rfl hl.1 rfl (lv_room (Nat.le_of_ble_eq_true rfl)) dL_law_153 ⟨Nat.le_trans (show 19 + 2 * t + 0 ≤ 600000 by omega) (Nat.le_of_ble_eq_true rfl), Nat.le_trans (show 10953 + 26 * t + 0 ≤ 7302250 by omega) (Nat.le_of_ble_eq_true rfl)⟩) hS (fun H locs hM hS => ?_)
  rw [← ctCM] at hM
  refine lv_icmp_eq (tgt := 376) hx hb dL_law_156 (by decide) (fun c_156 => ?_) (fun c_156 => ?_)
  · skip
    refine W.widen (k := 19 + 2 * t + 2) (n := 10953 + 26 * t + 26) (by omega) (by omega) ?_
    exact kk ad _ _ _ ⟨n, gl, E, G, P, co, lc, hc, hn, hs, th, sz, sg, me, gr, coM, tb, wd, sm, rc, hM, hRE, hRX, lv_sub hl [0, 1, 2, 3] rfl⟩ hS
  · skip
    exact absurd (rfl) c_156

set_option maxHeartbeats 4000000 in
set_option maxRecDepth 100000 in
theorem lwv_drop {pr : Program} {l : Launch} {en : Env} {s0 : State} {mm : MethodId} {below : List Frame} {meth : Method} {cc0 : Code} {D : va_G} {aC : Nat → ClassId} {lo b L t : Nat} {xs : Nat → Int32} {ad : Nat → Nat} {H : Heap} {locs : List Loc} {ls : Array Slot} {n : Nat} {gl : Int32} {E : Nat → Ent} {G : Nat → Nat → Nat} {P : Nat} {co : Nat → Option Nat} {lc : Nat → Nat} {hc : Nat} {hn : Nat → Nat} {hs : Nat → Nat} {th : Nat → Bool} {sz : Nat → Nat} {sg : Nat → Nat} {me : Nat → Nat} {gr : Nat → Int32} {coM : Nat → Option Nat} {tb : Nat → Nat} {wd : Nat → Nat} {sm : Nat → Nat} {rc : Nat → Nat} (F : CallFix pr mm cc0 code 4 s0 #[Value.ref b] lw_tbl RL) (hKK : mK D vwCl (tyA aC) s0) (hX : va_X b L xs s0 s0.heap) (hbl : b < s0.heap.size) (hlo : lo ≤ s0.heap.size) (hlb : ¬ lo ≤ b) (htL : 4 * t + 4 ≤ L) (hL : L ≤ 2048) (kk : ∀ (ad1 : Nat → Nat) (H1 : Heap) (locs1 : List Loc) (ls1 : Array Slot), lawI D aC lo b t ad1 H1 ls1 → va_S (fun q => lo ≤ q) s0.heap H1 locs1 → W pr l en room_1 s0 mm #[Value.ref b] below meth cc0 H1 locs1 (19 + 2 * t + 2) (10953 + 26 * t + 26) (lw_Z below #[Value.ref b] s0) (F0 mm 376 ls1 [])) (hM : mw D vwCl lo ad (ctC aC ad n gl E G P co lc hc hn hs (ctM aC ad n th sz sg me gr gl P coM tb hc wd sm rc (fun _ => none))) H) (hRE : RE n E G th sz sg me gr) (hRX : RX P hc gl co coM hn hs wd sm) (hl : lv_has ls 4 [(0, .ref b), (1, .ref (ad 0)), (2, .ref (ad 1000)), (3, .int (nI (4 * t)))]) (hS : va_S (fun q => lo ≤ q) s0.heap H locs) {j : Nat} (hx1 : xs (4 * t + 1) = (nI j)) (hj1 : 1 ≤ j) (hj2 : j ≤ n) (hd : (E j).2.2.1 = false) : W pr l en room_1 s0 mm #[Value.ref b] below meth cc0 H locs (19 + 2 * t) (10953 + 26 * t) (lw_Z below #[Value.ref b] s0) (F0 mm 138 ls []) := by
  have hK := hKK.1
  have hx := F.1
  have hb := F.2.1
  have h200 := hRE.1
  have hP := hRX.1
  have hcz := hRX.2.1
  have hR2 := hRE.drop hj1 hj2
  refine lv_aload_n hx hb dL_law_138 rfl (lv_at hl 1 rfl) ?_
  refine lv_aload_n hx hb dL_law_139 rfl (lv_at hl 0 rfl) ?_
  refine lv_iload_n hx hb dL_law_140 rfl (lv_at hl 3 rfl) ?_
  refine lv_iconst (v := (nI 1)) hx hb dL_law_141 (by decide) ?_
  refine lv_iadd hx hb dL_law_142 ?_
  refine m_top (nI_add (4 * t) 1) ?_
  refine va_sld hx hb hX hbl hlb hS (vp_in_nI (show 4 * t + 1 < L by omega) (by omega)) dL_law_143 ?_
  refine m_top (y := (nI j)) (by rw [nI_clamp (show 4 * t + 1 < 2 ^ 31 by omega)]; exact hx1) ?_
  refine m_d1 (v := .int (nI (cnt (inW (drE E j n) (-1)) n))) (ct1 := ctC aC ad n gl (drE E j n) G P co lc hc hn hs (ctM aC ad n th sz sg me gr gl P coM tb hc wd sm rc (fun _ => none))) (va_runV (As := [.int (nI j)]) (rest := []) F (c_drop l j hj1 hj2 h200 hd hRE.sf) (cwV 1 F.2.2.2.2 (go_V (fun _ h => tb_L h) mlL_23 imX3_drop seX3_drop iniX3 cdX3_drop) rfl rfl rfl (by decide +kernel) ⟨Nat.le_of_ble_eq_true rfl, Nat.le_of_ble_eq_true rfl⟩) (mPreV hKK hM (Nat.le_trans hlo hS.1) ctC_0 rfl) rfl rfl hl.1 rfl (lv_room (Nat.le_of_ble_eq_true rfl)) dL_law_144 ⟨Nat.le_trans (show 19 + 2 * t + 0 ≤ 600000 by omega) (Nat.le_of_ble_eq_true rfl), Nat.le_trans (show 10953 + 26 * t + 0 ≤ 7302250 by omega) (Nat.le_of_ble_eq_true rfl)⟩) hS (fun H locs hM hS => ?_)
  refine lv_aload_n hx hb dL_law_147 rfl (lv_at hl 2 rfl) ?_
  refine lv_aload_n hx hb dL_law_148 rfl (lv_at hl 0 rfl) ?_
  refine lv_iload_n hx hb dL_law_149 rfl (lv_at hl 3 rfl) ?_
  refine lv_iconst (v := (nI 1)) hx hb dL_law_150 (by decide) ?_
  refine lv_iadd hx hb dL_law_151 ?_
  refine m_top (nI_add (4 * t) 1) ?_
  refine va_sld hx hb hX hbl hlb hS (vp_in_nI (show 4 * t + 1 < L by omega) (by omega)) dL_law_152 ?_
  refine m_top (y := (nI j)) (by rw [nI_clamp (show 4 * t + 1 < 2 ^ 31 by omega)]; exact hx1) ?_
  rw [ctCM] at hM
  refine m_d1 (v := .int (nI (cnt (va_up th j false) n))) (ct1 := ctM aC ad n (va_up th j false) sz sg (drM me j n) gr gl P coM tb hc wd sm rc (ctC aC ad n gl (drE E j n) G P co lc hc hn hs (fun _ => none))) (va_runV (As := [.int (nI j)]) (rest := [.int (nI (cnt (inW (drE E j n) (-1)) n))]) F (c_mDrop l j hj1 hj2 h200 (hRE.yes hj1 hj2 hd) hRE.2.2.2.1) (cwV 1 F.2.2.2.2 (go_V (fun _ h => tb_L h) mlL_27 imX4_drop seX4_drop iniX4 cdX4_drop) rfl rfl rfl (by decide +kernel) ⟨Nat.le_of_ble_eq_true rfl, Nat.le_of_ble_eq_true rfl⟩) (mPreV hKK hM (Nat.le_trans hlo hS.1) ctM_o rfl) rfl rfl hl.1 rfl (lv_room (Nat.le_of_ble_eq_true rfl)) dL_law_153 ⟨Nat.le_trans (show 19 + 2 * t + 0 ≤ 600000 by omega) (Nat.le_of_ble_eq_true rfl), Nat.le_trans (show 10953 + 26 * t + 0 ≤ 7302250 by omega) (Nat.le_of_ble_eq_true rfl)⟩) hS (fun H locs hM hS => ?_)
  rw [← ctCM] at hM
  refine lv_icmp_eq (tgt := 376) hx hb dL_law_156 (by decide) (fun c_156 => ?_) (fun c_156 => ?_)
  · skip
    refine W.widen (k := 19 + 2 * t + 2) (n := 10953 + 26 * t + 26) (by omega) (by omega) ?_
    exact kk ad _ _ _ ⟨n, gl, (drE E j n), G, P, co, lc, hc, hn, hs, (va_up th j false), sz, sg, (drM me j n), gr, coM, tb, wd, sm, rc, hM, hR2, hRX, lv_sub hl [0, 1, 2, 3] rfl⟩ hS
  · skip
    exact absurd (congrArg nI hR2.cntD) c_156

set_option maxHeartbeats 4000000 in
set_option maxRecDepth 100000 in
theorem lwv_costO {pr : Program} {l : Launch} {en : Env} {s0 : State} {mm : MethodId} {below : List Frame} {meth : Method} {cc0 : Code} {D : va_G} {aC : Nat → ClassId} {lo b L t : Nat} {xs : Nat → Int32} {ad : Nat → Nat} {H : Heap} {locs : List Loc} {ls : Array Slot} {n : Nat} {gl : Int32} {E : Nat → Ent} {G : Nat → Nat → Nat} {P : Nat} {co : Nat → Option Nat} {lc : Nat → Nat} {hc : Nat} {hn : Nat → Nat} {hs : Nat → Nat} {th : Nat → Bool} {sz : Nat → Nat} {sg : Nat → Nat} {me : Nat → Nat} {gr : Nat → Int32} {coM : Nat → Option Nat} {tb : Nat → Nat} {wd : Nat → Nat} {sm : Nat → Nat} {rc : Nat → Nat} (F : CallFix pr mm cc0 code 4 s0 #[Value.ref b] lw_tbl RL) (hKK : mK D vwCl (tyA aC) s0) (hX : va_X b L xs s0 s0.heap) (hbl : b < s0.heap.size) (hlo : lo ≤ s0.heap.size) (hlb : ¬ lo ≤ b) (htL : 4 * t + 4 ≤ L) (hL : L ≤ 2048) (kk : ∀ (ad1 : Nat → Nat) (H1 : Heap) (locs1 : List Loc) (ls1 : Array Slot), lawI D aC lo b t ad1 H1 ls1 → va_S (fun q => lo ≤ q) s0.heap H1 locs1 → W pr l en room_1 s0 mm #[Value.ref b] below meth cc0 H1 locs1 (19 + 2 * t + 2) (10953 + 26 * t + 26) (lw_Z below #[Value.ref b] s0) (F0 mm 376 ls1 [])) (hM : mw D vwCl lo ad (ctC aC ad n gl E G P co lc hc hn hs (ctM aC ad n th sz sg me gr gl P coM tb hc wd sm rc (fun _ => none))) H) (hRE : RE n E G th sz sg me gr) (hRX : RX P hc gl co coM hn hs wd sm) (hl : lv_has ls 4 [(0, .ref b), (1, .ref (ad 0)), (2, .ref (ad 1000)), (3, .int (nI (4 * t)))]) (hS : va_S (fun q => lo ≤ q) s0.heap H locs) {x y z : Int32} (hx1 : xs (4 * t + 1) = x) (hx2 : xs (4 * t + 2) = y) (hx3 : xs (4 * t + 3) = z) (hk : okC x y z = false) : W pr l en room_1 s0 mm #[Value.ref b] below meth cc0 H locs (19 + 2 * t) (10953 + 26 * t) (lw_Z below #[Value.ref b] s0) (F0 mm 161 ls []) := by
  have hK := hKK.1
  have hx := F.1
  have hb := F.2.1
  have h200 := hRE.1
  have hP := hRX.1
  have hcz := hRX.2.1
  refine lv_aload_n hx hb dL_law_161 rfl (lv_at hl 1 rfl) ?_
  refine lv_aload_n hx hb dL_law_162 rfl (lv_at hl 0 rfl) ?_
  refine lv_iload_n hx hb dL_law_163 rfl (lv_at hl 3 rfl) ?_
  refine lv_iconst (v := (nI 1)) hx hb dL_law_164 (by decide) ?_
  refine lv_iadd hx hb dL_law_165 ?_
  refine m_top (nI_add (4 * t) 1) ?_
  refine va_sld hx hb hX hbl hlb hS (vp_in_nI (show 4 * t + 1 < L by omega) (by omega)) dL_law_166 ?_
  refine m_top (y := x) (by rw [nI_clamp (show 4 * t + 1 < 2 ^ 31 by omega)]; exact hx1) ?_
  refine lv_aload_n hx hb dL_law_167 rfl (lv_at hl 0 rfl) ?_
  refine lv_iload_n hx hb dL_law_168 rfl (lv_at hl 3 rfl) ?_
  refine lv_iconst (v := (nI 2)) hx hb dL_law_169 (by decide) ?_
  refine lv_iadd hx hb dL_law_170 ?_
  refine m_top (nI_add (4 * t) 2) ?_
  refine va_sld hx hb hX hbl hlb hS (vp_in_nI (show 4 * t + 2 < L by omega) (by omega)) dL_law_171 ?_
  refine m_top (y := y) (by rw [nI_clamp (show 4 * t + 2 < 2 ^ 31 by omega)]; exact hx2) ?_
  refine lv_aload_n hx hb dL_law_172 rfl (lv_at hl 0 rfl) ?_
  refine lv_iload_n hx hb dL_law_173 rfl (lv_at hl 3 rfl) ?_
  refine lv_iconst (v := (nI 3)) hx hb dL_law_174 (by decide) ?_
  refine lv_iadd hx hb dL_law_175 ?_
  refine m_top (nI_add (4 * t) 3) ?_
  refine va_sld hx hb hX hbl hlb hS (vp_in_nI (show 4 * t + 3 < L by omega) (by omega)) dL_law_176 ?_
  refine m_top (y := z) (by rw [nI_clamp (show 4 * t + 3 < 2 ^ 31 by omega)]; exact hx3) ?_
  refine m_d1 (v := .int (-2)) (ct1 := ctC aC ad n gl E G P co lc hc hn hs (ctM aC ad n th sz sg me gr gl P coM tb hc wd sm rc (fun _ => none))) (va_runV (As := [.int x, .int y, .int z]) (rest := []) F (c_costO l x y z hk) (cwV 3 F.2.2.2.2 (go_V (fun _ h => tb_L h) mlL_28 imX3_cost seX3_cost iniX3 cdX3_cost) rfl rfl rfl (by decide +kernel) ⟨Nat.le_of_ble_eq_true rfl, Nat.le_of_ble_eq_true rfl⟩) (mPreV hKK hM (Nat.le_trans hlo hS.1) ctC_0 rfl) rfl rfl hl.1 rfl (lv_room (Nat.le_of_ble_eq_true rfl)) dL_law_177 ⟨Nat.le_trans (show 19 + 2 * t + 0 ≤ 600000 by omega) (Nat.le_of_ble_eq_true rfl), Nat.le_trans (show 10953 + 26 * t + 0 ≤ 7302250 by omega) (Nat.le_of_ble_eq_true rfl)⟩) hS (fun H locs hM hS => ?_)
  refine lv_aload_n hx hb dL_law_180 rfl (lv_at hl 2 rfl) ?_
  refine lv_aload_n hx hb dL_law_181 rfl (lv_at hl 0 rfl) ?_
  refine lv_iload_n hx hb dL_law_182 rfl (lv_at hl 3 rfl) ?_
  refine lv_iconst (v := (nI 1)) hx hb dL_law_183 (by decide) ?_
  refine lv_iadd hx hb dL_law_184 ?_
  refine m_top (nI_add (4 * t) 1) ?_
  refine va_sld hx hb hX hbl hlb hS (vp_in_nI (show 4 * t + 1 < L by omega) (by omega)) dL_law_185 ?_
  refine m_top (y := x) (by rw [nI_clamp (show 4 * t + 1 < 2 ^ 31 by omega)]; exact hx1) ?_
  refine lv_aload_n hx hb dL_law_186 rfl (lv_at hl 0 rfl) ?_
  refine lv_iload_n hx hb dL_law_187 rfl (lv_at hl 3 rfl) ?_
  refine lv_iconst (v := (nI 2)) hx hb dL_law_188 (by decide) ?_
  refine lv_iadd hx hb dL_law_189 ?_
  refine m_top (nI_add (4 * t) 2) ?_
  refine va_sld hx hb hX hbl hlb hS (vp_in_nI (show 4 * t + 2 < L by omega) (by omega)) dL_law_190 ?_
  refine m_top (y := y) (by rw [nI_clamp (show 4 * t + 2 < 2 ^ 31 by omega)]; exact hx2) ?_
  refine lv_aload_n hx hb dL_law_191 rfl (lv_at hl 0 rfl) ?_
  refine lv_iload_n hx hb dL_law_192 rfl (lv_at hl 3 rfl) ?_
  refine lv_iconst (v := (nI 3)) hx hb dL_law_193 (by decide) ?_
  refine lv_iadd hx hb dL_law_194 ?_
  refine m_top (nI_add (4 * t) 3) ?_
  refine va_sld hx hb hX hbl hlb hS (vp_in_nI (show 4 * t + 3 < L by omega) (by omega)) dL_law_195 ?_
  refine m_top (y := z) (by rw [nI_clamp (show 4 * t + 3 < 2 ^ 31 by omega)]; exact hx3) ?_
  rw [ctCM] at hM
  refine m_d1 (v := .int (-2)) (ct1 := ctM aC ad n th sz sg me gr gl P coM tb hc wd sm rc (ctC aC ad n gl E G P co lc hc hn hs (fun _ => none))) (va_runV (As := [.int x, .int y, .int z]) (rest := [.int (-2)]) F (c_mCostO l x y z (by rw [okM_eq]; exact hk)) (cwV 3 F.2.2.2.2 (go_V (fun _ h => tb_L h) mlL_32 imX4_cost seX4_cost iniX4 cdX4_cost) rfl rfl rfl (by decide +kernel) ⟨Nat.le_of_ble_eq_true rfl, Nat.le_of_ble_eq_true rfl⟩) (mPreV hKK hM (Nat.le_trans hlo hS.1) ctM_o rfl) rfl rfl hl.1 rfl (lv_room (Nat.le_of_ble_eq_true rfl)) dL_law_196 ⟨Nat.le_trans (show 19 + 2 * t + 0 ≤ 600000 by omega) (Nat.le_of_ble_eq_true rfl), Nat.le_trans (show 10953 + 26 * t + 0 ≤ 7302250 by omega) (Nat.le_of_ble_eq_true rfl)⟩) hS (fun H locs hM hS => ?_)
  rw [← ctCM] at hM
  refine lv_icmp_eq (tgt := 376) hx hb dL_law_199 (by decide) (fun c_199 => ?_) (fun c_199 => ?_)
  · skip
    refine W.widen (k := 19 + 2 * t + 2) (n := 10953 + 26 * t + 26) (by omega) (by omega) ?_
    exact kk ad _ _ _ ⟨n, gl, E, G, P, co, lc, hc, hn, hs, th, sz, sg, me, gr, coM, tb, wd, sm, rc, hM, hRE, hRX, lv_sub hl [0, 1, 2, 3] rfl⟩ hS
  · skip
    exact absurd (rfl) c_199

set_option maxHeartbeats 4000000 in
set_option maxRecDepth 100000 in
theorem lwv_cost {pr : Program} {l : Launch} {en : Env} {s0 : State} {mm : MethodId} {below : List Frame} {meth : Method} {cc0 : Code} {D : va_G} {aC : Nat → ClassId} {lo b L t : Nat} {xs : Nat → Int32} {ad : Nat → Nat} {H : Heap} {locs : List Loc} {ls : Array Slot} {n : Nat} {gl : Int32} {E : Nat → Ent} {G : Nat → Nat → Nat} {P : Nat} {co : Nat → Option Nat} {lc : Nat → Nat} {hc : Nat} {hn : Nat → Nat} {hs : Nat → Nat} {th : Nat → Bool} {sz : Nat → Nat} {sg : Nat → Nat} {me : Nat → Nat} {gr : Nat → Int32} {coM : Nat → Option Nat} {tb : Nat → Nat} {wd : Nat → Nat} {sm : Nat → Nat} {rc : Nat → Nat} (F : CallFix pr mm cc0 code 4 s0 #[Value.ref b] lw_tbl RL) (hKK : mK D vwCl (tyA aC) s0) (hX : va_X b L xs s0 s0.heap) (hbl : b < s0.heap.size) (hlo : lo ≤ s0.heap.size) (hlb : ¬ lo ≤ b) (htL : 4 * t + 4 ≤ L) (hL : L ≤ 2048) (kk : ∀ (ad1 : Nat → Nat) (H1 : Heap) (locs1 : List Loc) (ls1 : Array Slot), lawI D aC lo b t ad1 H1 ls1 → va_S (fun q => lo ≤ q) s0.heap H1 locs1 → W pr l en room_1 s0 mm #[Value.ref b] below meth cc0 H1 locs1 (19 + 2 * t + 2) (10953 + 26 * t + 26) (lw_Z below #[Value.ref b] s0) (F0 mm 376 ls1 [])) (hM : mw D vwCl lo ad (ctC aC ad n gl E G P co lc hc hn hs (ctM aC ad n th sz sg me gr gl P coM tb hc wd sm rc (fun _ => none))) H) (hRE : RE n E G th sz sg me gr) (hRX : RX P hc gl co coM hn hs wd sm) (hl : lv_has ls 4 [(0, .ref b), (1, .ref (ad 0)), (2, .ref (ad 1000)), (3, .int (nI (4 * t)))]) (hS : va_S (fun q => lo ≤ q) s0.heap H locs) {pl q cs : Nat} (hx1 : xs (4 * t + 1) = (nI pl)) (hx2 : xs (4 * t + 2) = (nI q)) (hx3 : xs (4 * t + 3) = (nI cs)) (hp : pl < 20) (hq1 : 33 ≤ q) (hq2 : q ≤ 126) (hcs : cs ≤ 1000) : W pr l en room_1 s0 mm #[Value.ref b] below meth cc0 H locs (19 + 2 * t) (10953 + 26 * t) (lw_Z below #[Value.ref b] s0) (F0 mm 161 ls []) := by
  have hK := hKK.1
  have hx := F.1
  have hb := F.2.1
  have h200 := hRE.1
  have hP := hRX.1
  have hcz := hRX.2.1
  refine lv_aload_n hx hb dL_law_161 rfl (lv_at hl 1 rfl) ?_
  refine lv_aload_n hx hb dL_law_162 rfl (lv_at hl 0 rfl) ?_
  refine lv_iload_n hx hb dL_law_163 rfl (lv_at hl 3 rfl) ?_
  refine lv_iconst (v := (nI 1)) hx hb dL_law_164 (by decide) ?_
  refine lv_iadd hx hb dL_law_165 ?_
  refine m_top (nI_add (4 * t) 1) ?_
  refine va_sld hx hb hX hbl hlb hS (vp_in_nI (show 4 * t + 1 < L by omega) (by omega)) dL_law_166 ?_
  refine m_top (y := (nI pl)) (by rw [nI_clamp (show 4 * t + 1 < 2 ^ 31 by omega)]; exact hx1) ?_
  refine lv_aload_n hx hb dL_law_167 rfl (lv_at hl 0 rfl) ?_
  refine lv_iload_n hx hb dL_law_168 rfl (lv_at hl 3 rfl) ?_
  refine lv_iconst (v := (nI 2)) hx hb dL_law_169 (by decide) ?_
  refine lv_iadd hx hb dL_law_170 ?_
  refine m_top (nI_add (4 * t) 2) ?_
  refine va_sld hx hb hX hbl hlb hS (vp_in_nI (show 4 * t + 2 < L by omega) (by omega)) dL_law_171 ?_
  refine m_top (y := (nI q)) (by rw [nI_clamp (show 4 * t + 2 < 2 ^ 31 by omega)]; exact hx2) ?_
  refine lv_aload_n hx hb dL_law_172 rfl (lv_at hl 0 rfl) ?_
  refine lv_iload_n hx hb dL_law_173 rfl (lv_at hl 3 rfl) ?_
  refine lv_iconst (v := (nI 3)) hx hb dL_law_174 (by decide) ?_
  refine lv_iadd hx hb dL_law_175 ?_
  refine m_top (nI_add (4 * t) 3) ?_
  refine va_sld hx hb hX hbl hlb hS (vp_in_nI (show 4 * t + 3 < L by omega) (by omega)) dL_law_176 ?_
  refine m_top (y := (nI cs)) (by rw [nI_clamp (show 4 * t + 3 < 2 ^ 31 by omega)]; exact hx3) ?_
  refine m_d1 (v := .int (nI (max P (pl + 1)))) (ct1 := ctC aC ad n gl E G (max P (pl + 1)) (va_up co (pl * 94 + q - 33) (some cs)) lc hc hn hs (ctM aC ad n th sz sg me gr gl P coM tb hc wd sm rc (fun _ => none))) (va_runV (As := [.int (nI pl), .int (nI q), .int (nI cs)]) (rest := []) F (c_cost l pl q cs hp hq1 hq2 hcs hP) (cwV 3 F.2.2.2.2 (go_V (fun _ h => tb_L h) mlL_28 imX3_cost seX3_cost iniX3 cdX3_cost) rfl rfl rfl (by decide +kernel) ⟨Nat.le_of_ble_eq_true rfl, Nat.le_of_ble_eq_true rfl⟩) (mPreV hKK hM (Nat.le_trans hlo hS.1) ctC_0 rfl) rfl rfl hl.1 rfl (lv_room (Nat.le_of_ble_eq_true rfl)) dL_law_177 ⟨Nat.le_trans (show 19 + 2 * t + 0 ≤ 600000 by omega) (Nat.le_of_ble_eq_true rfl), Nat.le_trans (show 10953 + 26 * t + 0 ≤ 7302250 by omega) (Nat.le_of_ble_eq_true rfl)⟩) hS (fun H locs hM hS => ?_)
  refine lv_aload_n hx hb dL_law_180 rfl (lv_at hl 2 rfl) ?_
  refine lv_aload_n hx hb dL_law_181 rfl (lv_at hl 0 rfl) ?_
  refine lv_iload_n hx hb dL_law_182 rfl (lv_at hl 3 rfl) ?_
  refine lv_iconst (v := (nI 1)) hx hb dL_law_183 (by decide) ?_
  refine lv_iadd hx hb dL_law_184 ?_
  refine m_top (nI_add (4 * t) 1) ?_
  refine va_sld hx hb hX hbl hlb hS (vp_in_nI (show 4 * t + 1 < L by omega) (by omega)) dL_law_185 ?_
  refine m_top (y := (nI pl)) (by rw [nI_clamp (show 4 * t + 1 < 2 ^ 31 by omega)]; exact hx1) ?_
  refine lv_aload_n hx hb dL_law_186 rfl (lv_at hl 0 rfl) ?_
  refine lv_iload_n hx hb dL_law_187 rfl (lv_at hl 3 rfl) ?_
  refine lv_iconst (v := (nI 2)) hx hb dL_law_188 (by decide) ?_
  refine lv_iadd hx hb dL_law_189 ?_
  refine m_top (nI_add (4 * t) 2) ?_
  refine va_sld hx hb hX hbl hlb hS (vp_in_nI (show 4 * t + 2 < L by omega) (by omega)) dL_law_190 ?_
  refine m_top (y := (nI q)) (by rw [nI_clamp (show 4 * t + 2 < 2 ^ 31 by omega)]; exact hx2) ?_
  refine lv_aload_n hx hb dL_law_191 rfl (lv_at hl 0 rfl) ?_
  refine lv_iload_n hx hb dL_law_192 rfl (lv_at hl 3 rfl) ?_
  refine lv_iconst (v := (nI 3)) hx hb dL_law_193 (by decide) ?_
  refine lv_iadd hx hb dL_law_194 ?_
  refine m_top (nI_add (4 * t) 3) ?_
  refine va_sld hx hb hX hbl hlb hS (vp_in_nI (show 4 * t + 3 < L by omega) (by omega)) dL_law_195 ?_
  refine m_top (y := (nI cs)) (by rw [nI_clamp (show 4 * t + 3 < 2 ^ 31 by omega)]; exact hx3) ?_
  rw [ctCM] at hM
  refine m_d1 (v := .int (nI (max P (pl + 1)))) (ct1 := ctM aC ad n th sz sg me gr gl (max P (pl + 1)) (va_up coM (128 * pl + q) (some cs)) tb hc wd sm rc (ctC aC ad n gl E G (max P (pl + 1)) (va_up co (pl * 94 + q - 33) (some cs)) lc hc hn hs (fun _ => none))) (va_runV (As := [.int (nI pl), .int (nI q), .int (nI cs)]) (rest := [.int (nI (max P (pl + 1)))]) F (c_mCost l pl q cs hp hq1 hq2 hcs hP) (cwV 3 F.2.2.2.2 (go_V (fun _ h => tb_L h) mlL_32 imX4_cost seX4_cost iniX4 cdX4_cost) rfl rfl rfl (by decide +kernel) ⟨Nat.le_of_ble_eq_true rfl, Nat.le_of_ble_eq_true rfl⟩) (mPreV hKK hM (Nat.le_trans hlo hS.1) ctM_o rfl) rfl rfl hl.1 rfl (lv_room (Nat.le_of_ble_eq_true rfl)) dL_law_196 ⟨Nat.le_trans (show 19 + 2 * t + 0 ≤ 600000 by omega) (Nat.le_of_ble_eq_true rfl), Nat.le_trans (show 10953 + 26 * t + 0 ≤ 7302250 by omega) (Nat.le_of_ble_eq_true rfl)⟩) hS (fun H locs hM hS => ?_)
  rw [← ctCM] at hM
  refine lv_icmp_eq (tgt := 376) hx hb dL_law_199 (by decide) (fun c_199 => ?_) (fun c_199 => ?_)
  · skip
    refine W.widen (k := 19 + 2 * t + 2) (n := 10953 + 26 * t + 26) (by omega) (by omega) ?_
    exact kk ad _ _ _ ⟨n, gl, E, G, (max P (pl + 1)), (va_up co (pl * 94 + q - 33) (some cs)), lc, hc, hn, hs, th, sz, sg, me, gr, (va_up coM (128 * pl + q) (some cs)), tb, wd, sm, rc, hM, hRE, (hRX.tell hp hq1 hq2 hcs), lv_sub hl [0, 1, 2, 3] rfl⟩ hS
  · skip
    exact absurd (rfl) c_199

set_option maxHeartbeats 4000000 in
set_option maxRecDepth 100000 in
theorem lwv_clear {pr : Program} {l : Launch} {en : Env} {s0 : State} {mm : MethodId} {below : List Frame} {meth : Method} {cc0 : Code} {D : va_G} {aC : Nat → ClassId} {lo b L t : Nat} {xs : Nat → Int32} {ad : Nat → Nat} {H : Heap} {locs : List Loc} {ls : Array Slot} {n : Nat} {gl : Int32} {E : Nat → Ent} {G : Nat → Nat → Nat} {P : Nat} {co : Nat → Option Nat} {lc : Nat → Nat} {hc : Nat} {hn : Nat → Nat} {hs : Nat → Nat} {th : Nat → Bool} {sz : Nat → Nat} {sg : Nat → Nat} {me : Nat → Nat} {gr : Nat → Int32} {coM : Nat → Option Nat} {tb : Nat → Nat} {wd : Nat → Nat} {sm : Nat → Nat} {rc : Nat → Nat} (F : CallFix pr mm cc0 code 4 s0 #[Value.ref b] lw_tbl RL) (hKK : mK D vwCl (tyA aC) s0) (hX : va_X b L xs s0 s0.heap) (hbl : b < s0.heap.size) (hlo : lo ≤ s0.heap.size) (hlb : ¬ lo ≤ b) (htL : 4 * t + 4 ≤ L) (hL : L ≤ 2048) (kk : ∀ (ad1 : Nat → Nat) (H1 : Heap) (locs1 : List Loc) (ls1 : Array Slot), lawI D aC lo b t ad1 H1 ls1 → va_S (fun q => lo ≤ q) s0.heap H1 locs1 → W pr l en room_1 s0 mm #[Value.ref b] below meth cc0 H1 locs1 (19 + 2 * t + 2) (10953 + 26 * t + 26) (lw_Z below #[Value.ref b] s0) (F0 mm 376 ls1 [])) (hM : mw D vwCl lo ad (ctC aC ad n gl E G P co lc hc hn hs (ctM aC ad n th sz sg me gr gl P coM tb hc wd sm rc (fun _ => none))) H) (hRE : RE n E G th sz sg me gr) (hRX : RX P hc gl co coM hn hs wd sm) (hl : lv_has ls 4 [(0, .ref b), (1, .ref (ad 0)), (2, .ref (ad 1000)), (3, .int (nI (4 * t)))]) (hS : va_S (fun q => lo ≤ q) s0.heap H locs)   : W pr l en room_1 s0 mm #[Value.ref b] below meth cc0 H locs (19 + 2 * t) (10953 + 26 * t) (lw_Z below #[Value.ref b] s0) (F0 mm 204 ls []) := by
  have hK := hKK.1
  have hx := F.1
  have hb := F.2.1
  have h200 := hRE.1
  have hP := hRX.1
  have hcz := hRX.2.1
  refine lv_aload_n hx hb dL_law_204 rfl (lv_at hl 1 rfl) ?_
  refine m_d1 (v := .int (nI P)) (ct1 := ctC aC ad n gl E G 0 (clC co) lc hc hn hs (ctM aC ad n th sz sg me gr gl P coM tb hc wd sm rc (fun _ => none))) (va_runV (As := []) (rest := []) F (c_clear l) (cwV 0 F.2.2.2.2 (go_V (fun _ h => tb_L h) mlL_33 imX3_clear seX3_clear iniX3 cdX3_clear) rfl rfl rfl (by decide +kernel) ⟨Nat.le_of_ble_eq_true rfl, Nat.le_of_ble_eq_true rfl⟩) (mPreV hKK hM (Nat.le_trans hlo hS.1) ctC_0 rfl) rfl rfl hl.1 rfl (lv_room (Nat.le_of_ble_eq_true rfl)) dL_law_205 ⟨Nat.le_trans (show 19 + 2 * t + 0 ≤ 600000 by omega) (Nat.le_of_ble_eq_true rfl), Nat.le_trans (show 10953 + 26 * t + 0 ≤ 7302250 by omega) (Nat.le_of_ble_eq_true rfl)⟩) hS (fun H locs hM hS => ?_)
  refine lv_aload_n hx hb dL_law_208 rfl (lv_at hl 2 rfl) ?_
  rw [ctCM] at hM
  refine m_d1 (v := .int (nI P)) (ct1 := ctM aC ad n th sz sg me gr gl 0 (clI coM 2560) tb hc wd sm rc (ctC aC ad n gl E G 0 (clC co) lc hc hn hs (fun _ => none))) (va_runV (As := []) (rest := [.int (nI P)]) F (c_mClear l) (cwV 0 F.2.2.2.2 (go_V (fun _ h => tb_L h) mlL_36 imX4_clear seX4_clear iniX4 cdX4_clear) rfl rfl rfl (by decide +kernel) ⟨Nat.le_of_ble_eq_true rfl, Nat.le_of_ble_eq_true rfl⟩) (mPreV hKK hM (Nat.le_trans hlo hS.1) ctM_o rfl) rfl rfl hl.1 rfl (lv_room (Nat.le_of_ble_eq_true rfl)) dL_law_209 ⟨Nat.le_trans (show 19 + 2 * t + 0 ≤ 600000 by omega) (Nat.le_of_ble_eq_true rfl), Nat.le_trans (show 10953 + 26 * t + 0 ≤ 7302250 by omega) (Nat.le_of_ble_eq_true rfl)⟩) hS (fun H locs hM hS => ?_)
  rw [← ctCM] at hM
  refine lv_icmp_eq (tgt := 376) hx hb dL_law_212 (by decide) (fun c_212 => ?_) (fun c_212 => ?_)
  · skip
    refine W.widen (k := 19 + 2 * t + 2) (n := 10953 + 26 * t + 26) (by omega) (by omega) ?_
    exact kk ad _ _ _ ⟨n, gl, E, G, 0, (clC co), lc, hc, hn, hs, th, sz, sg, me, gr, (clI coM 2560), tb, wd, sm, rc, hM, hRE, hRX.clr, lv_sub hl [0, 1, 2, 3] rfl⟩ hS
  · skip
    exact absurd (rfl) c_212

set_option maxHeartbeats 4000000 in
set_option maxRecDepth 100000 in
theorem lwv_wordU {pr : Program} {l : Launch} {en : Env} {s0 : State} {mm : MethodId} {below : List Frame} {meth : Method} {cc0 : Code} {D : va_G} {aC : Nat → ClassId} {lo b L t : Nat} {xs : Nat → Int32} {ad : Nat → Nat} {H : Heap} {locs : List Loc} {ls : Array Slot} {n : Nat} {gl : Int32} {E : Nat → Ent} {G : Nat → Nat → Nat} {P : Nat} {co : Nat → Option Nat} {lc : Nat → Nat} {hc : Nat} {hn : Nat → Nat} {hs : Nat → Nat} {th : Nat → Bool} {sz : Nat → Nat} {sg : Nat → Nat} {me : Nat → Nat} {gr : Nat → Int32} {coM : Nat → Option Nat} {tb : Nat → Nat} {wd : Nat → Nat} {sm : Nat → Nat} {rc : Nat → Nat} (F : CallFix pr mm cc0 code 4 s0 #[Value.ref b] lw_tbl RL) (hKK : mK D vwCl (tyA aC) s0) (hX : va_X b L xs s0 s0.heap) (hbl : b < s0.heap.size) (hlo : lo ≤ s0.heap.size) (hlb : ¬ lo ≤ b) (htL : 4 * t + 4 ≤ L) (hL : L ≤ 2048) (kk : ∀ (ad1 : Nat → Nat) (H1 : Heap) (locs1 : List Loc) (ls1 : Array Slot), lawI D aC lo b t ad1 H1 ls1 → va_S (fun q => lo ≤ q) s0.heap H1 locs1 → W pr l en room_1 s0 mm #[Value.ref b] below meth cc0 H1 locs1 (19 + 2 * t + 2) (10953 + 26 * t + 26) (lw_Z below #[Value.ref b] s0) (F0 mm 376 ls1 [])) (hM : mw D vwCl lo ad (ctC aC ad n gl E G P co lc hc hn hs (ctM aC ad n th sz sg me gr gl P coM tb hc wd sm rc (fun _ => none))) H) (hRE : RE n E G th sz sg me gr) (hRX : RX P hc gl co coM hn hs wd sm) (hl : lv_has ls 4 [(0, .ref b), (1, .ref (ad 0)), (2, .ref (ad 1000)), (3, .int (nI (4 * t)))]) (hS : va_S (fun q => lo ≤ q) s0.heap H locs) {x : Int32} (hx1 : xs (4 * t + 1) = x) (hk : hasB hc x = false) : W pr l en room_1 s0 mm #[Value.ref b] below meth cc0 H locs (19 + 2 * t) (10953 + 26 * t) (lw_Z below #[Value.ref b] s0) (F0 mm 240 ls []) := by
  have hK := hKK.1
  have hx := F.1
  have hb := F.2.1
  have h200 := hRE.1
  have hP := hRX.1
  have hcz := hRX.2.1
  refine lv_aload_n hx hb dL_law_240 rfl (lv_at hl 1 rfl) ?_
  refine lv_aload_n hx hb dL_law_241 rfl (lv_at hl 0 rfl) ?_
  refine lv_iload_n hx hb dL_law_242 rfl (lv_at hl 3 rfl) ?_
  refine lv_iconst (v := (nI 1)) hx hb dL_law_243 (by decide) ?_
  refine lv_iadd hx hb dL_law_244 ?_
  refine m_top (nI_add (4 * t) 1) ?_
  refine va_sld hx hb hX hbl hlb hS (vp_in_nI (show 4 * t + 1 < L by omega) (by omega)) dL_law_245 ?_
  refine m_top (y := x) (by rw [nI_clamp (show 4 * t + 1 < 2 ^ 31 by omega)]; exact hx1) ?_
  refine m_d1 (v := .int (-1)) (ct1 := ctC aC ad n gl E G P co lc hc hn hs (ctM aC ad n th sz sg me gr gl P coM tb hc wd sm rc (fun _ => none))) (va_runV (As := [.int x]) (rest := []) F (c_wordU l x hcz hk) (cwV 1 F.2.2.2.2 (go_V (fun _ h => tb_L h) mlL_41 imX3_word seX3_word iniX3 cdX3_word) rfl rfl rfl (by decide +kernel) ⟨Nat.le_of_ble_eq_true rfl, Nat.le_of_ble_eq_true rfl⟩) (mPreV hKK hM (Nat.le_trans hlo hS.1) ctC_0 rfl) rfl rfl hl.1 rfl (lv_room (Nat.le_of_ble_eq_true rfl)) dL_law_246 ⟨Nat.le_trans (show 19 + 2 * t + 0 ≤ 600000 by omega) (Nat.le_of_ble_eq_true rfl), Nat.le_trans (show 10953 + 26 * t + 0 ≤ 7302250 by omega) (Nat.le_of_ble_eq_true rfl)⟩) hS (fun H locs hM hS => ?_)
  refine lv_aload_n hx hb dL_law_249 rfl (lv_at hl 2 rfl) ?_
  refine lv_aload_n hx hb dL_law_250 rfl (lv_at hl 0 rfl) ?_
  refine lv_iload_n hx hb dL_law_251 rfl (lv_at hl 3 rfl) ?_
  refine lv_iconst (v := (nI 1)) hx hb dL_law_252 (by decide) ?_
  refine lv_iadd hx hb dL_law_253 ?_
  refine m_top (nI_add (4 * t) 1) ?_
  refine va_sld hx hb hX hbl hlb hS (vp_in_nI (show 4 * t + 1 < L by omega) (by omega)) dL_law_254 ?_
  refine m_top (y := x) (by rw [nI_clamp (show 4 * t + 1 < 2 ^ 31 by omega)]; exact hx1) ?_
  rw [ctCM] at hM
  refine m_d1 (v := .int (-1)) (ct1 := ctM aC ad n th sz sg me gr gl P coM tb hc wd sm rc (ctC aC ad n gl E G P co lc hc hn hs (fun _ => none))) (va_runV (As := [.int x]) (rest := [.int (-1)]) F (c_mWordU l x (by rw [hasM_eq hcz]; exact hk)) (cwV 1 F.2.2.2.2 (go_V (fun _ h => tb_L h) mlL_44 imX4_word seX4_word iniX4 cdX4_word) rfl rfl rfl (by decide +kernel) ⟨Nat.le_of_ble_eq_true rfl, Nat.le_of_ble_eq_true rfl⟩) (mPreV hKK hM (Nat.le_trans hlo hS.1) ctM_o rfl) rfl rfl hl.1 rfl (lv_room (Nat.le_of_ble_eq_true rfl)) dL_law_255 ⟨Nat.le_trans (show 19 + 2 * t + 0 ≤ 600000 by omega) (Nat.le_of_ble_eq_true rfl), Nat.le_trans (show 10953 + 26 * t + 0 ≤ 7302250 by omega) (Nat.le_of_ble_eq_true rfl)⟩) hS (fun H locs hM hS => ?_)
  rw [← ctCM] at hM
  refine lv_icmp_eq (tgt := 376) hx hb dL_law_258 (by decide) (fun c_258 => ?_) (fun c_258 => ?_)
  · skip
    refine W.widen (k := 19 + 2 * t + 2) (n := 10953 + 26 * t + 26) (by omega) (by omega) ?_
    exact kk ad _ _ _ ⟨n, gl, E, G, P, co, lc, hc, hn, hs, th, sz, sg, me, gr, coM, tb, wd, sm, rc, hM, hRE, hRX, lv_sub hl [0, 1, 2, 3] rfl⟩ hS
  · skip
    exact absurd (rfl) c_258

set_option maxHeartbeats 4000000 in
set_option maxRecDepth 100000 in
theorem lwv_word {pr : Program} {l : Launch} {en : Env} {s0 : State} {mm : MethodId} {below : List Frame} {meth : Method} {cc0 : Code} {D : va_G} {aC : Nat → ClassId} {lo b L t : Nat} {xs : Nat → Int32} {ad : Nat → Nat} {H : Heap} {locs : List Loc} {ls : Array Slot} {n : Nat} {gl : Int32} {E : Nat → Ent} {G : Nat → Nat → Nat} {P : Nat} {co : Nat → Option Nat} {lc : Nat → Nat} {hc : Nat} {hn : Nat → Nat} {hs : Nat → Nat} {th : Nat → Bool} {sz : Nat → Nat} {sg : Nat → Nat} {me : Nat → Nat} {gr : Nat → Int32} {coM : Nat → Option Nat} {tb : Nat → Nat} {wd : Nat → Nat} {sm : Nat → Nat} {rc : Nat → Nat} (F : CallFix pr mm cc0 code 4 s0 #[Value.ref b] lw_tbl RL) (hKK : mK D vwCl (tyA aC) s0) (hX : va_X b L xs s0 s0.heap) (hbl : b < s0.heap.size) (hlo : lo ≤ s0.heap.size) (hlb : ¬ lo ≤ b) (htL : 4 * t + 4 ≤ L) (hL : L ≤ 2048) (kk : ∀ (ad1 : Nat → Nat) (H1 : Heap) (locs1 : List Loc) (ls1 : Array Slot), lawI D aC lo b t ad1 H1 ls1 → va_S (fun q => lo ≤ q) s0.heap H1 locs1 → W pr l en room_1 s0 mm #[Value.ref b] below meth cc0 H1 locs1 (19 + 2 * t + 2) (10953 + 26 * t + 26) (lw_Z below #[Value.ref b] s0) (F0 mm 376 ls1 [])) (hM : mw D vwCl lo ad (ctC aC ad n gl E G P co lc hc hn hs (ctM aC ad n th sz sg me gr gl P coM tb hc wd sm rc (fun _ => none))) H) (hRE : RE n E G th sz sg me gr) (hRX : RX P hc gl co coM hn hs wd sm) (hl : lv_has ls 4 [(0, .ref b), (1, .ref (ad 0)), (2, .ref (ad 1000)), (3, .int (nI (4 * t)))]) (hS : va_S (fun q => lo ≤ q) s0.heap H locs) {j : Nat} (hx1 : xs (4 * t + 1) = (nI j)) (hj : j < hc) : W pr l en room_1 s0 mm #[Value.ref b] below meth cc0 H locs (19 + 2 * t) (10953 + 26 * t) (lw_Z below #[Value.ref b] s0) (F0 mm 240 ls []) := by
  have hK := hKK.1
  have hx := F.1
  have hb := F.2.1
  have h200 := hRE.1
  have hP := hRX.1
  have hcz := hRX.2.1
  refine lv_aload_n hx hb dL_law_240 rfl (lv_at hl 1 rfl) ?_
  refine lv_aload_n hx hb dL_law_241 rfl (lv_at hl 0 rfl) ?_
  refine lv_iload_n hx hb dL_law_242 rfl (lv_at hl 3 rfl) ?_
  refine lv_iconst (v := (nI 1)) hx hb dL_law_243 (by decide) ?_
  refine lv_iadd hx hb dL_law_244 ?_
  refine m_top (nI_add (4 * t) 1) ?_
  refine va_sld hx hb hX hbl hlb hS (vp_in_nI (show 4 * t + 1 < L by omega) (by omega)) dL_law_245 ?_
  refine m_top (y := (nI j)) (by rw [nI_clamp (show 4 * t + 1 < 2 ^ 31 by omega)]; exact hx1) ?_
  refine m_d1 (v := .int (nI (hn j))) (ct1 := ctC aC ad n gl E G P co lc hc hn hs (ctM aC ad n th sz sg me gr gl P coM tb hc wd sm rc (fun _ => none))) (va_runV (As := [.int (nI j)]) (rest := []) F (c_word l j hcz hj) (cwV 1 F.2.2.2.2 (go_V (fun _ h => tb_L h) mlL_41 imX3_word seX3_word iniX3 cdX3_word) rfl rfl rfl (by decide +kernel) ⟨Nat.le_of_ble_eq_true rfl, Nat.le_of_ble_eq_true rfl⟩) (mPreV hKK hM (Nat.le_trans hlo hS.1) ctC_0 rfl) rfl rfl hl.1 rfl (lv_room (Nat.le_of_ble_eq_true rfl)) dL_law_246 ⟨Nat.le_trans (show 19 + 2 * t + 0 ≤ 600000 by omega) (Nat.le_of_ble_eq_true rfl), Nat.le_trans (show 10953 + 26 * t + 0 ≤ 7302250 by omega) (Nat.le_of_ble_eq_true rfl)⟩) hS (fun H locs hM hS => ?_)
  refine lv_aload_n hx hb dL_law_249 rfl (lv_at hl 2 rfl) ?_
  refine lv_aload_n hx hb dL_law_250 rfl (lv_at hl 0 rfl) ?_
  refine lv_iload_n hx hb dL_law_251 rfl (lv_at hl 3 rfl) ?_
  refine lv_iconst (v := (nI 1)) hx hb dL_law_252 (by decide) ?_
  refine lv_iadd hx hb dL_law_253 ?_
  refine m_top (nI_add (4 * t) 1) ?_
  refine va_sld hx hb hX hbl hlb hS (vp_in_nI (show 4 * t + 1 < L by omega) (by omega)) dL_law_254 ?_
  refine m_top (y := (nI j)) (by rw [nI_clamp (show 4 * t + 1 < 2 ^ 31 by omega)]; exact hx1) ?_
  rw [ctCM] at hM
  refine m_d1 (v := .int (nI (wd j))) (ct1 := ctM aC ad n th sz sg me gr gl P coM tb hc wd sm rc (ctC aC ad n gl E G P co lc hc hn hs (fun _ => none))) (va_runV (As := [.int (nI j)]) (rest := [.int (nI (hn j))]) F (c_mWord l j hcz hj) (cwV 1 F.2.2.2.2 (go_V (fun _ h => tb_L h) mlL_44 imX4_word seX4_word iniX4 cdX4_word) rfl rfl rfl (by decide +kernel) ⟨Nat.le_of_ble_eq_true rfl, Nat.le_of_ble_eq_true rfl⟩) (mPreV hKK hM (Nat.le_trans hlo hS.1) ctM_o rfl) rfl rfl hl.1 rfl (lv_room (Nat.le_of_ble_eq_true rfl)) dL_law_255 ⟨Nat.le_trans (show 19 + 2 * t + 0 ≤ 600000 by omega) (Nat.le_of_ble_eq_true rfl), Nat.le_trans (show 10953 + 26 * t + 0 ≤ 7302250 by omega) (Nat.le_of_ble_eq_true rfl)⟩) hS (fun H locs hM hS => ?_)
  rw [← ctCM] at hM
  refine lv_icmp_eq (tgt := 376) hx hb dL_law_258 (by decide) (fun c_258 => ?_) (fun c_258 => ?_)
  · skip
    refine W.widen (k := 19 + 2 * t + 2) (n := 10953 + 26 * t + 26) (by omega) (by omega) ?_
    exact kk ad _ _ _ ⟨n, gl, E, G, P, co, lc, hc, hn, hs, th, sz, sg, me, gr, coM, tb, wd, sm, rc, hM, hRE, hRX, lv_sub hl [0, 1, 2, 3] rfl⟩ hS
  · skip
    exact absurd (by rw [(hRX.2.2.2.2.2.2.2 j hj).1]) c_258

set_option maxHeartbeats 4000000 in
set_option maxRecDepth 100000 in
theorem lwv_sumU {pr : Program} {l : Launch} {en : Env} {s0 : State} {mm : MethodId} {below : List Frame} {meth : Method} {cc0 : Code} {D : va_G} {aC : Nat → ClassId} {lo b L t : Nat} {xs : Nat → Int32} {ad : Nat → Nat} {H : Heap} {locs : List Loc} {ls : Array Slot} {n : Nat} {gl : Int32} {E : Nat → Ent} {G : Nat → Nat → Nat} {P : Nat} {co : Nat → Option Nat} {lc : Nat → Nat} {hc : Nat} {hn : Nat → Nat} {hs : Nat → Nat} {th : Nat → Bool} {sz : Nat → Nat} {sg : Nat → Nat} {me : Nat → Nat} {gr : Nat → Int32} {coM : Nat → Option Nat} {tb : Nat → Nat} {wd : Nat → Nat} {sm : Nat → Nat} {rc : Nat → Nat} (F : CallFix pr mm cc0 code 4 s0 #[Value.ref b] lw_tbl RL) (hKK : mK D vwCl (tyA aC) s0) (hX : va_X b L xs s0 s0.heap) (hbl : b < s0.heap.size) (hlo : lo ≤ s0.heap.size) (hlb : ¬ lo ≤ b) (htL : 4 * t + 4 ≤ L) (hL : L ≤ 2048) (kk : ∀ (ad1 : Nat → Nat) (H1 : Heap) (locs1 : List Loc) (ls1 : Array Slot), lawI D aC lo b t ad1 H1 ls1 → va_S (fun q => lo ≤ q) s0.heap H1 locs1 → W pr l en room_1 s0 mm #[Value.ref b] below meth cc0 H1 locs1 (19 + 2 * t + 2) (10953 + 26 * t + 26) (lw_Z below #[Value.ref b] s0) (F0 mm 376 ls1 [])) (hM : mw D vwCl lo ad (ctC aC ad n gl E G P co lc hc hn hs (ctM aC ad n th sz sg me gr gl P coM tb hc wd sm rc (fun _ => none))) H) (hRE : RE n E G th sz sg me gr) (hRX : RX P hc gl co coM hn hs wd sm) (hl : lv_has ls 4 [(0, .ref b), (1, .ref (ad 0)), (2, .ref (ad 1000)), (3, .int (nI (4 * t)))]) (hS : va_S (fun q => lo ≤ q) s0.heap H locs) {x : Int32} (hx1 : xs (4 * t + 1) = x) (hk : hasB hc x = false) : W pr l en room_1 s0 mm #[Value.ref b] below meth cc0 H locs (19 + 2 * t) (10953 + 26 * t) (lw_Z below #[Value.ref b] s0) (F0 mm 263 ls []) := by
  have hK := hKK.1
  have hx := F.1
  have hb := F.2.1
  have h200 := hRE.1
  have hP := hRX.1
  have hcz := hRX.2.1
  refine lv_aload_n hx hb dL_law_263 rfl (lv_at hl 1 rfl) ?_
  refine lv_aload_n hx hb dL_law_264 rfl (lv_at hl 0 rfl) ?_
  refine lv_iload_n hx hb dL_law_265 rfl (lv_at hl 3 rfl) ?_
  refine lv_iconst (v := (nI 1)) hx hb dL_law_266 (by decide) ?_
  refine lv_iadd hx hb dL_law_267 ?_
  refine m_top (nI_add (4 * t) 1) ?_
  refine va_sld hx hb hX hbl hlb hS (vp_in_nI (show 4 * t + 1 < L by omega) (by omega)) dL_law_268 ?_
  refine m_top (y := x) (by rw [nI_clamp (show 4 * t + 1 < 2 ^ 31 by omega)]; exact hx1) ?_
  refine m_d1 (v := .long (-1)) (ct1 := ctC aC ad n gl E G P co lc hc hn hs (ctM aC ad n th sz sg me gr gl P coM tb hc wd sm rc (fun _ => none))) (va_runV (As := [.int x]) (rest := []) F (c_sumU l x hcz hk) (cwV 1 F.2.2.2.2 (go_V (fun _ h => tb_L h) mlL_45 imX3_sum seX3_sum iniX3 cdX3_sum) rfl rfl rfl (by decide +kernel) ⟨Nat.le_of_ble_eq_true rfl, Nat.le_of_ble_eq_true rfl⟩) (mPreV hKK hM (Nat.le_trans hlo hS.1) ctC_0 rfl) rfl rfl hl.1 rfl (lv_room (Nat.le_of_ble_eq_true rfl)) dL_law_269 ⟨Nat.le_trans (show 19 + 2 * t + 0 ≤ 600000 by omega) (Nat.le_of_ble_eq_true rfl), Nat.le_trans (show 10953 + 26 * t + 0 ≤ 7302250 by omega) (Nat.le_of_ble_eq_true rfl)⟩) hS (fun H locs hM hS => ?_)
  refine lv_aload_n hx hb dL_law_272 rfl (lv_at hl 2 rfl) ?_
  refine lv_aload_n hx hb dL_law_273 rfl (lv_at hl 0 rfl) ?_
  refine lv_iload_n hx hb dL_law_274 rfl (lv_at hl 3 rfl) ?_
  refine lv_iconst (v := (nI 1)) hx hb dL_law_275 (by decide) ?_
  refine lv_iadd hx hb dL_law_276 ?_
  refine m_top (nI_add (4 * t) 1) ?_
  refine va_sld hx hb hX hbl hlb hS (vp_in_nI (show 4 * t + 1 < L by omega) (by omega)) dL_law_277 ?_
  refine m_top (y := x) (by rw [nI_clamp (show 4 * t + 1 < 2 ^ 31 by omega)]; exact hx1) ?_
  rw [ctCM] at hM
  refine m_d1 (v := .long (-1)) (ct1 := ctM aC ad n th sz sg me gr gl P coM tb hc wd sm rc (ctC aC ad n gl E G P co lc hc hn hs (fun _ => none))) (va_runV (As := [.int x]) (rest := [.long (-1)]) F (c_mSumU l x (by rw [hasM_eq hcz]; exact hk)) (cwV 1 F.2.2.2.2 (go_V (fun _ h => tb_L h) mlL_49 imX4_sum seX4_sum iniX4 cdX4_sum) rfl rfl rfl (by decide +kernel) ⟨Nat.le_of_ble_eq_true rfl, Nat.le_of_ble_eq_true rfl⟩) (mPreV hKK hM (Nat.le_trans hlo hS.1) ctM_o rfl) rfl rfl hl.1 rfl (lv_room (Nat.le_of_ble_eq_true rfl)) dL_law_278 ⟨Nat.le_trans (show 19 + 2 * t + 0 ≤ 600000 by omega) (Nat.le_of_ble_eq_true rfl), Nat.le_trans (show 10953 + 26 * t + 0 ≤ 7302250 by omega) (Nat.le_of_ble_eq_true rfl)⟩) hS (fun H locs hM hS => ?_)
  rw [← ctCM] at hM
  refine W.lcmp hx hb dL_law_281 ?_
  refine m_top (y := nI 0) (by decide) ?_
  refine lv_if_eq (tgt := 376) hx hb dL_law_282 (by decide) (fun c_282 => ?_) (fun c_282 => ?_)
  · skip
    refine W.widen (k := 19 + 2 * t + 2) (n := 10953 + 26 * t + 26) (by omega) (by omega) ?_
    exact kk ad _ _ _ ⟨n, gl, E, G, P, co, lc, hc, hn, hs, th, sz, sg, me, gr, coM, tb, wd, sm, rc, hM, hRE, hRX, lv_sub hl [0, 1, 2, 3] rfl⟩ hS
  · skip
    exact absurd nI_0 c_282
