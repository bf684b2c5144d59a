/-! THE MEMORY BY INDEX: what lies at index k is 'ct k', its address 'ad k'; all addresses are apart and from lo on. A method's contract speaks of the whole memory: no cut, no join. -/
section MW
variable {D : va_G} {cl : List vw_C} {lo : Nat} {ad : Nat → Nat} {ct : Nat → Option va_E} {H H1 : Heap} {tys : List (ClassId × FieldType)}
def mw (D : va_G) (cl : List vw_C) (lo : Nat) (ad : Nat → Nat) (ct : Nat → Option va_E) (H : Heap) : Prop :=
  (∀ (k : Nat) (e : va_E), ct k = some e → va_at D cl (ad k, e) H ∧ lo ≤ ad k) ∧ ∀ (j k : Nat) (e f : va_E), ct j = some e → ct k = some f → ad j = ad k → j = k
theorem mw.P (h : mw D cl lo ad ct H) {k : Nat} {e : va_E} (hk : ct k = some e) : va_P D cl [(ad k, e)] H := by
  intro i q hq
  match i, hq with
  | 0, hq => cases hq; exact (h.1 k e hk).1
  | i + 1, hq => simp at hq
theorem mw.lt (h : mw D cl lo ad ct H) {k : Nat} {e : va_E} (hk : ct k = some e) : ad k < H.size := va_at.lt (h.1 k e hk).1
theorem mw.set (h : mw D cl lo ad ct H) {k : Nat} {e0 e : va_E} (hk : ct k = some e0) (he : va_at D cl (ad k, e) H1) (ho : ∀ q : Nat, q ≠ ad k → H1[q]? = H[q]?) : mw D cl lo ad (va_up ct k (some e)) H1 := by
  have key : ∀ (j : Nat) (f : va_E), va_up ct k (some e) j = some f → ∃ f0, ct j = some f0 := by
    intro j f hj
    by_cases hjk : j = k
    · exact ⟨e0, by rw [hjk]; exact hk⟩
    · rw [va_up_ne _ _ hjk] at hj
      exact ⟨f, hj⟩
  refine ⟨fun j f hj => ?_, fun i j f g hi hj hij => ?_⟩
  · by_cases hjk : j = k
    · subst hjk
      rw [va_up_self] at hj
      cases hj
      exact ⟨he, (h.1 j e0 hk).2⟩
    · rw [va_up_ne _ _ hjk] at hj
      have h1 := h.1 j f hj
      exact ⟨va_at.kept h1.1 (ho _ (fun e1 => hjk (h.2 j k f e0 hj hk e1))), h1.2⟩
  · obtain ⟨f0, h0⟩ := key i f hi
    obtain ⟨g0, h1⟩ := key j g hj
    exact h.2 i j f0 g0 h0 h1 hij
theorem mw.push (h : mw D cl lo ad ct H) {k : Nat} {e : va_E} (hk : ct k = none) (hlo : lo ≤ H.size) (he : va_at D cl (H.size, e) H1) (ho : ∀ q : Nat, q < H.size → H1[q]? = H[q]?) : mw D cl lo (va_up ad k H.size) (va_up ct k (some e)) H1 := by
  refine ⟨fun j f hj => ?_, fun i j f g hi hj hij => ?_⟩
  · by_cases hjk : j = k
    · subst hjk
      rw [va_up_self] at hj ⊢
      cases hj
      exact ⟨he, hlo⟩
    · rw [va_up_ne _ _ hjk] at hj ⊢
      have h1 := h.1 j f hj
      exact ⟨va_at.kept h1.1 (ho _ (va_at.lt h1.1)), h1.2⟩
  · by_cases hik : i = k
    · by_cases hjk : j = k
      · rw [hik, hjk]
      · rw [va_up_ne _ _ hjk] at hj hij
        rw [hik, va_up_self] at hij
        exact absurd (h.lt hj) (by omega)
    · by_cases hjk : j = k
      · rw [va_up_ne _ _ hik] at hi hij
        rw [hjk, va_up_self] at hij
        exact absurd (h.lt hi) (by omega)
      · rw [va_up_ne _ _ hik] at hi hij
        rw [va_up_ne _ _ hjk] at hj hij
        exact h.2 i j f g hi hj hij
theorem mw.eq {ct' : Nat → Option va_E} (h : mw D cl lo ad ct H) (e : ∀ k, ct k = ct' k) : mw D cl lo ad ct' H := by
  rw [← funext e]; exact h
end MW
/-- what is fixed of a kind of object: its number in the list, its fields' types, their names apart -/
def m_cls (cl : List vw_C) (ci : Nat) (C : String) (T : u_T) (N : Nat) (ty : Nat → FieldType) : Prop :=
  cl[ci]? = some (C, T, N) ∧ (∀ k, k < N → parseFieldDescriptor (T k).2.2.1 = some (ty k)) ∧ ∀ a, a < N → ∀ b, b < N → a ≠ b → (T a).2.1 ≠ (T b).2.1
/-- what the tables say beside the words: kinds, rows; a call between nest mates; rows of references -/
def mK (D : va_G) (cl : List vw_C) (tys : List (ClassId × FieldType)) (U : State) : Prop := va_K D cl tys U ∧ va_Nw (.methodLinkNest RX2 58 yX3_isSign "WordTrees") U ∧ va_AO RX0 U
theorem mK.warm {D : va_G} {cl : List vw_C} {tys : List (ClassId × FieldType)} {s U : State} (hW : s.WarmedH U.vm) (h : mK D cl tys s) : mK D cl tys U := ⟨va_K.moved hW.alike h.1, va_Nw.warmM hW h.2.1, va_AO.moved hW.alike h.2.2⟩
theorem mK.same {D : va_G} {cl : List vw_C} {tys : List (ClassId × FieldType)} {s U : State} (hv : s.vm = U.vm) (h : mK D cl tys s) : mK D cl tys U := ⟨va_K.moved (by rw [hv]; exact Vm.Alike.refl U.vm) h.1, va_Nw.same rfl hv h.2.1, va_AO.moved (by rw [hv]; exact Vm.Alike.refl U.vm) h.2.2⟩
/-- a contract's start and ends over the memory -/
def mPc (D : va_G) (cl : List vw_C) (tys : List (ClassId × FieldType)) (lo : Nat) (ad : Nat → Nat) (ct : Nat → Option va_E) (av : List Value) : Array Value → State → Prop :=
  va_Pc av (fun U => lo ≤ U.heap.size ∧ mw D cl lo ad ct U.heap ∧ mK D cl tys U)
def mQ1 (D : va_G) (cl : List vw_C) (lo : Nat) (post : Value → (Nat → Nat) → (Nat → Option va_E) → Prop) : Array Value → State → Outcome → State → Prop := fun _ st oc t =>
  (∃ (v : Value) (ad : Nat → Nat) (ct : Nat → Option va_E), oc = .returned (some v) ∧ post v ad ct ∧ mw D cl lo ad ct t.heap) ∧ va_F (fun q => lo ≤ q) st t
def mQ0 (D : va_G) (cl : List vw_C) (lo : Nat) (post : (Nat → Nat) → (Nat → Option va_E) → Prop) : Array Value → State → Outcome → State → Prop := fun _ st oc t =>
  (∃ (ad : Nat → Nat) (ct : Nat → Option va_E), oc = .returned none ∧ post ad ct ∧ mw D cl lo ad ct t.heap) ∧ va_F (fun q => lo ≤ q) st t
abbrev mD1 (D : va_G) (cl : List vw_C) (lo : Nat) (v : Value) (ad : Nat → Nat) (ct : Nat → Option va_E) := mQ1 D cl lo (fun v' ad' ct' => v' = v ∧ ad' = ad ∧ ct' = ct)
abbrev mD0 (D : va_G) (cl : List vw_C) (lo : Nat) (ad : Nat → Nat) (ct : Nat → Option va_E) := mQ0 D cl lo (fun ad' ct' => ad' = ad ∧ ct' = ct)
theorem mPc.blind {D : va_G} {cl : List vw_C} {tys : List (ClassId × FieldType)} {lo : Nat} {ad : Nat → Nat} {ct : Nat → Option va_E} {av : List Value} : FrameBlind (mPc D cl tys lo ad ct av) := fun a U g mk q => by
  obtain ⟨q0, q1, q2, q3⟩ := q
  exact ⟨q0, q1, q2, mK.same (s := U) (U := U.calling g mk a) rfl q3⟩
section MR
variable {p : Program} {l : Launch} {e : Env} {R : Room} {s : State} {m : MethodId} {args : Array Value} {below : List Frame} {meth : Method} {c : Code} {H : Heap} {locs : List Loc} {cells slots : Nat} {Q : State → Prop}
variable {cc : ByteArray} {pc nL : Nat} {ls : Array Slot} {rest : List Value} {D : va_G} {cl : List vw_C} {tys : List (ClassId × FieldType)} {H0 : Heap} {lo : Nat} {ad : Nat → Nat} {ct : Nat → Option va_E} {Ts : List Cond} {own : String}
theorem mPreV {As : List Value} (hK : mK D cl tys s) (hM : mw D cl lo ad ct H) (hlo : lo ≤ H.size) {k ci : Nat} {fs : List Value} {C : String} {T : u_T} {N : Nat} (he : ct k = some (.inr (ci, fs))) (hc : cl[ci]? = some (C, T, N)) : PreV s H C (ad k) (mPc D cl tys lo ad ct (.ref (ad k) :: As)) As :=
  ⟨mPc.blind, va_recv hK.1 (hM.P he) (q := (C, T, N)) (q0 := 0) (ci := ci) (fs := fs) hc rfl, fun U hU hW => ⟨rfl, by rw [hU]; exact hlo, by rw [hU]; exact hM, mK.warm hW hK⟩⟩
theorem mPreS {As : List Value} (hK : mK D cl tys s) (hM : mw D cl lo ad ct H) (hlo : lo ≤ H.size) : PreS s H (mPc D cl tys lo ad ct As) As :=
  ⟨mPc.blind, fun U hU hW => ⟨rfl, by rw [hU]; exact hlo, by rw [hU]; exact hM, mK.warm hW hK⟩⟩
/-- behind a call -/
theorem m_ret1 {st0 : List Value} {a : Array Value} {mc ms : Nat} {post : Value → (Nat → Nat) → (Nat → Option va_E) → Prop} (hr : va_Run p l e R s m args below meth c H locs cells slots mc ms (F0 m pc ls st0) rest (mQ1 D cl lo post a) (fun q => lo ≤ q)) (hS : va_S (fun q => lo ≤ q) H0 H locs)
    (kk : ∀ (v : Value) (ad1 : Nat → Nat) (ct1 : Nat → Option va_E) (H1 : Heap) (locs1 : List Loc), post v ad1 ct1 → mw D cl lo ad1 ct1 H1 → va_S (fun q => lo ≤ q) H0 H1 locs1 → W p l e R s m args below meth c H1 locs1 (cells + mc) (slots + ms) Q (F0 m (pc + 3) ls (v :: rest))) : W p l e R s m args below meth c H locs cells slots Q (F0 m pc ls st0) := by
  intro T hT X
  obtain ⟨v, st₀, t, T', L, h0, X', hL, e1, e2, ⟨⟨r, ad1, ct1, hv, hp, hb⟩, hz, hk⟩, st⟩ := hr T hT X
  cases hv
  rw [h0] at hz hk
  obtain ⟨t2, a1, b1⟩ := kk r ad1 ct1 T'.heap (locs ++ L) hp (by rw [e1]; exact hb)
    ⟨Nat.le_trans hS.1 (by rw [e1]; exact hz), fun q h1 h2 => by rw [e1, hk q (Nat.lt_of_lt_of_le h1 hS.1) h2]; exact hS.2.1 q h1 h2, fun q hq => by
      rcases List.mem_append.mp hq with h | h
      · exact hS.2.2 q h
      · exact hL q h⟩ T' rfl X'
  exact ⟨t2, st t2 a1, b1⟩
theorem m_ret0 {st0 : List Value} {a : Array Value} {mc ms : Nat} {post : (Nat → Nat) → (Nat → Option va_E) → Prop} (hr : va_Run p l e R s m args below meth c H locs cells slots mc ms (F0 m pc ls st0) rest (mQ0 D cl lo post a) (fun q => lo ≤ q)) (hS : va_S (fun q => lo ≤ q) H0 H locs)
    (kk : ∀ (ad1 : Nat → Nat) (ct1 : Nat → Option va_E) (H1 : Heap) (locs1 : List Loc), post ad1 ct1 → mw D cl lo ad1 ct1 H1 → va_S (fun q => lo ≤ q) H0 H1 locs1 → W p l e R s m args below meth c H1 locs1 (cells + mc) (slots + ms) Q (F0 m (pc + 3) ls rest)) : W p l e R s m args below meth c H locs cells slots Q (F0 m pc ls st0) := by
  intro T hT X
  obtain ⟨v, st₀, t, T', L, h0, X', hL, e1, e2, ⟨⟨ad1, ct1, hv, hp, hb⟩, hz, hk⟩, st⟩ := hr T hT X
  cases hv
  rw [h0] at hz hk
  obtain ⟨t2, a1, b1⟩ := kk ad1 ct1 T'.heap (locs ++ L) hp (by rw [e1]; exact hb)
    ⟨Nat.le_trans hS.1 (by rw [e1]; exact hz), fun q h1 h2 => by rw [e1, hk q (Nat.lt_of_lt_of_le h1 hS.1) h2]; exact hS.2.1 q h1 h2, fun q hq => by
      rcases List.mem_append.mp hq with h | h
      · exact hS.2.2 q h
      · exact hL q h⟩ T' rfl X'
  exact ⟨t2, st t2 a1, b1⟩
/-- behind a call that makes nothing and answers v -/
theorem m_d1 {st0 : List Value} {a : Array Value} {v : Value} {ct1 : Nat → Option va_E} (hr : va_Run p l e R s m args below meth c H locs cells slots 0 0 (F0 m pc ls st0) rest (mD1 D cl lo v ad ct1 a) (fun q => lo ≤ q)) (hS : va_S (fun q => lo ≤ q) H0 H locs)
    (kk : ∀ (H1 : Heap) (locs1 : List Loc), mw D cl lo ad ct1 H1 → va_S (fun q => lo ≤ q) H0 H1 locs1 → W p l e R s m args below meth c H1 locs1 cells slots Q (F0 m (pc + 3) ls (v :: rest))) : W p l e R s m args below meth c H locs cells slots Q (F0 m pc ls st0) :=
  m_ret1 hr hS (fun v' ad' ct' H1 locs1 hp hM hS1 => by obtain ⟨rfl, rfl, rfl⟩ := hp; exact kk H1 locs1 hM hS1)
theorem m_d0 {st0 : List Value} {a : Array Value} {ct1 : Nat → Option va_E} (hr : va_Run p l e R s m args below meth c H locs cells slots 0 0 (F0 m pc ls st0) rest (mD0 D cl lo ad ct1 a) (fun q => lo ≤ q)) (hS : va_S (fun q => lo ≤ q) H0 H locs)
    (kk : ∀ (H1 : Heap) (locs1 : List Loc), mw D cl lo ad ct1 H1 → va_S (fun q => lo ≤ q) H0 H1 locs1 → W p l e R s m args below meth c H1 locs1 cells slots Q (F0 m (pc + 3) ls rest)) : W p l e R s m args below meth c H locs cells slots Q (F0 m pc ls st0) :=
  m_ret0 hr hS (fun ad' ct' H1 locs1 hp hM hS1 => by obtain ⟨rfl, rfl⟩ := hp; exact kk H1 locs1 hM hS1)
theorem m_top {x y : Int32} (h : x = y) (kk : W p l e R s m args below meth c H locs cells slots Q (F0 m pc ls (.int y :: rest))) : W p l e R s m args below meth c H locs cells slots Q (F0 m pc ls (.int x :: rest)) := by rw [h]; exact kk
/-- fields -/
theorem m_get (F : CallFix p m c cc nL s args Ts own) {C : String} {T : u_T} {N ci index : Nat} (hin : ∀ w ∈ u_ws C T N, w ∈ Ts) (hK : va_K D cl tys s) (hM : mw D cl lo ad ct H) {k : Nat} {fs : List Value} (he : ct k = some (.inr (ci, fs))) (hc : cl[ci]? = some (C, T, N)) (i : Nat) (hi : i < N) (hlink : Cond.fieldLink own index (T i).1 (T i).2.1 (T i).2.2.1 ∈ Ts) {v : Value} (hv : fs[i]? = some v) (hdg : decode cc pc = .ok (.getfield index, 3))
    (kk : W p l e R s m args below meth c H locs cells slots Q (F0 m (pc + 3) ls (v :: rest))) : W p l e R s m args below meth c H locs cells slots Q (F0 m pc ls (.ref (ad k) :: rest)) :=
  va_get F.1 F.2.1 F.2.2.2.2 hin F.2.2.2.1 hK (hM.P he) 0 rfl hc i hi (F.2.2.2.2 _ hlink) (fun _ h => h) hv hdg kk
theorem m_put (F : CallFix p m c cc nL s args Ts own) {C : String} {T : u_T} {N ci index : Nat} {ty0 : Nat → FieldType} (hin : ∀ w ∈ u_ws C T N, w ∈ Ts) (hC : m_cls cl ci C T N ty0) (hK : va_K D cl tys s) (hM : mw D cl lo ad ct H) (hS0 : va_S (fun q => lo ≤ q) H0 H locs) {k : Nat} {fs : List Value} (he : ct k = some (.inr (ci, fs))) (i : Nat) (hk : i < N) (hlink0 : Cond.fieldLink own index (T i).1 (T i).2.1 (T i).2.2.1 ∈ Ts) (hfin : (T i).2.2.2 = false) {v : Value} (hn : narrow (ty0 i) v = v) (hfit : fits (ty0 i) v = true) (hl : i < fs.length)
    (hdg : decode cc pc = .ok (.putfield index, 3)) (kk : ∀ (H1 : Heap) (locs1 : List Loc), mw D cl lo ad (va_up ct k (some (.inr (ci, fs.set i v)))) H1 → va_S (fun q => lo ≤ q) H0 H1 locs1 → W p l e R s m args below meth c H1 locs1 cells slots Q (F0 m (pc + 3) ls rest)) : W p l e R s m args below meth c H locs cells slots Q (F0 m pc ls (v :: .ref (ad k) :: rest)) := by
  obtain ⟨hexec, hb, -, hown, hts⟩ := F
  obtain ⟨hc, hty, hnm⟩ := hC
  have hlink := hts _ hlink0
  have hap := va_apart (own := own) hts hin ty0 hty hnm hK hc
  have hM0 := hM.1 k _ he
  obtain ⟨⟨r, h1, cell, q1, q2, q3, q4⟩, hlo⟩ := hM0
  have hr : r = (C, T, N) := Option.some.inj (h1.symm.trans hc)
  subst hr
  obtain ⟨hS, hfc, kC, hkC, hkind⟩ := hK.1 ci _ hc
  obtain ⟨cf, kf, fi, f, hi, hsl⟩ := hS i hk
  have hlay := hts _ (hin _ (u_in_lay hk))
  unfold u_lay at hlay
  rw [if_neg (by rw [hfin]; decide)] at hlay
  have hst := (u_facts hfc hkC (u_lays hts hin hk) hi).1
  have h6 := u_store hfc hkC hkind hlay hi (hty i hk) hn hfit
  refine W.putK hexec hb (f := f) ⟨hown, hlink, ⟨_, _, _, hi⟩, hst⟩ (by rw [q2]; exact h6) q1 q3 (by rw [hsl]; exact k2_hasslot (q4 i hk)) rfl rfl hdg fun H' e1 e2 e3 => ?_
  rw [hsl] at e1 ⊢
  exact kk H' _ (hM.set he ⟨_, hc, t_OB.to (V := updV (vp_V fs) i v) ⟨_, e1, q2, q3, t_set q4 hap hk v⟩ (fun j _ => vp_updV_set hl v j)⟩ e3) (hS0.put e2 e3 hlo)
theorem m_putF (F : CallFix p m c cc nL s args Ts own) {C : String} {T : u_T} {N ci index : Nat} {ty0 : Nat → FieldType} (hin : ∀ w ∈ u_ws C T N, w ∈ Ts) (hC : m_cls cl ci C T N ty0) (hK : va_K D cl tys s) (hM : mw D cl lo ad ct H) (hS0 : va_S (fun q => lo ≤ q) H0 H locs) {k : Nat} {fs : List Value} (he : ct k = some (.inr (ci, fs))) (i : Nat) (hk : i < N) (hlink0 : Cond.fieldLink own index (T i).1 (T i).2.1 (T i).2.2.1 ∈ Ts) (hfin : (T i).2.2.2 = true) (hin2 : meth.name = "<init>") (hdecl : (T i).1 = own) {v : Value} (hn : narrow (ty0 i) v = v) (hfit : fits (ty0 i) v = true) (hl : i < fs.length)
    (hdg : decode cc pc = .ok (.putfield index, 3)) (kk : ∀ (H1 : Heap) (locs1 : List Loc), mw D cl lo ad (va_up ct k (some (.inr (ci, fs.set i v)))) H1 → va_S (fun q => lo ≤ q) H0 H1 locs1 → W p l e R s m args below meth c H1 locs1 cells slots Q (F0 m (pc + 3) ls rest)) : W p l e R s m args below meth c H locs cells slots Q (F0 m pc ls (v :: .ref (ad k) :: rest)) := by
  obtain ⟨hexec, hb, -, hown, hts⟩ := F
  obtain ⟨hc, hty, hnm⟩ := hC
  have hlink := hts _ hlink0
  have hap := va_apart (own := own) hts hin ty0 hty hnm hK hc
  have hM0 := hM.1 k _ he
  obtain ⟨⟨r, h1, cell, q1, q2, q3, q4⟩, hlo⟩ := hM0
  have hr : r = (C, T, N) := Option.some.inj (h1.symm.trans hc)
  subst hr
  obtain ⟨hS, hfc, kC, hkC, hkind⟩ := hK.1 ci _ hc
  obtain ⟨cf, kf, fi, f, hi, hsl⟩ := hS i hk
  have hlay := hts _ (hin _ (u_in_lay hk))
  unfold u_lay at hlay
  rw [if_pos hfin] at hlay
  have hst := (u_facts hfc hkC (u_lays hts hin hk) hi).1
  have hcf : m.cls = cf := by
    obtain ⟨_, _, c', _, _, _, -, -, hf', -, -, -, hown2, -⟩ := Cond.laysFinal_spec hlay
    have e1 : c' = cf := by have := hi.symm.trans hf'; simp at this; exact this.1.symm
    rw [hdecl] at hown2
    rw [← e1]; exact Option.some.inj (hown.symm.trans hown2)
  have h6 := u_fits hfc hkC hkind (Or.inr hlay) hi (hty i hk) hn hfit
  refine W.putFinK hexec hb hown hlink hi hst hcf hin2 (by rw [q2]; exact h6) q1 q3 (by rw [hsl]; exact k2_hasslot (q4 i hk)) rfl rfl hdg fun H' e1 e2 e3 => ?_
  rw [hsl] at e1 ⊢
  exact kk H' _ (hM.set he ⟨_, hc, t_OB.to (V := updV (vp_V fs) i v) ⟨_, e1, q2, q3, t_set q4 hap hk v⟩ (fun j _ => vp_updV_set hl v j)⟩ e3) (hS0.put e2 e3 hlo)
/-- arrays of ints, an index that is a number j in range -/
theorem m_iald (F : CallFix p m c cc nL s args Ts own) (hK : va_K D cl tys s) (hM : mw D cl lo ad ct H) (t0 : Nat) {cA : ClassId} (ht : tys[t0]? = some (cA, .int)) {k n j : Nat} {f : Nat → Int32} (he : ct k = some (.inl (cA, n, .inl f))) (hj : j < n) (hn : n < 2 ^ 31) (hdg : decode cc pc = .ok (.iaload, 1))
    (kk : W p l e R s m args below meth c H locs cells slots Q (F0 m (pc + 1) ls (.int (f j) :: rest))) : W p l e R s m args below meth c H locs cells slots Q (F0 m pc ls (.int (nI j) :: .ref (ad k) :: rest)) :=
  va_iald F.1 F.2.1 hK (hM.P he) 0 t0 rfl ht (vp_in_nI hj hn) hdg (by rw [nI_clamp (Nat.lt_trans hj hn)]; exact kk)
theorem m_iast (F : CallFix p m c cc nL s args Ts own) (hK : va_K D cl tys s) (hM : mw D cl lo ad ct H) (hS : va_S (fun q => lo ≤ q) H0 H locs) (t0 : Nat) {cA : ClassId} (ht : tys[t0]? = some (cA, .int)) {k n j : Nat} {f : Nat → Int32} {x : Int32} (he : ct k = some (.inl (cA, n, .inl f))) (hj : j < n) (hn : n < 2 ^ 31) (hdg : decode cc pc = .ok (.iastore, 1))
    (kk : ∀ (H1 : Heap) (locs1 : List Loc), mw D cl lo ad (va_up ct k (some (.inl (cA, n, .inl (upd f j x))))) H1 → va_S (fun q => lo ≤ q) H0 H1 locs1 → W p l e R s m args below meth c H1 locs1 cells slots Q (F0 m (pc + 1) ls rest)) : W p l e R s m args below meth c H locs cells slots Q (F0 m pc ls (.int x :: .int (nI j) :: .ref (ad k) :: rest)) := by
  have hcl : (nI j).toNatClampNeg = j := nI_clamp (Nat.lt_trans hj hn)
  have hin : vp_in (nI j) n := vp_in_nI hj hn
  refine W.iast F.1 F.2.1 (hM.1 k _ he).1 ((hK.2 t0 _ ht).1 n (fun j => .int (f j))) (fun q => by cases q) (by show ¬ (nI j < 0 ∨ (arrV _ _ _).slots.size ≤ _); rw [arrV_size]; exact hin) rfl rfl hdg fun H1 e z oq => ?_
  refine kk H1 _ (hM.set he ?_ oq) (hS.put z oq (hM.1 k _ he).2)
  show H1[ad k]? = some (vp_cell _ _)
  rw [e]
  rw [vp_cell_i, vp_cell_i, arrV_store]
  congr 2
  funext q
  rw [hcl]
  by_cases hq : q = j
  · subst hq
    simp [updV, upd]
  · simp [updV, upd, hq]
theorem m_alen (F : CallFix p m c cc nL s args Ts own) (hK : va_K D cl tys s) (hM : mw D cl lo ad ct H) (t0 : Nat) {cA : ClassId} {ty : FieldType} (ht : tys[t0]? = some (cA, ty)) {k n : Nat} {x : (Nat → Int32) ⊕ (Nat → Int64) ⊕ (Nat → UInt32) ⊕ (Nat → UInt64) ⊕ (Nat → Option Nat)} (he : ct k = some (.inl (cA, n, x))) (hdg : decode cc pc = .ok (.arraylength, 1))
    (kk : W p l e R s m args below meth c H locs cells slots Q (F0 m (pc + 1) ls (.int (nI n) :: rest))) : W p l e R s m args below meth c H locs cells slots Q (F0 m pc ls (.ref (ad k) :: rest)) :=
  va_alen F.1 F.2.1 hK (hM.P he) 0 t0 rfl ht rfl hdg kk
/-- arrays of references -/
theorem m_aald (F : CallFix p m c cc nL s args Ts own) (hK : va_K D cl tys s) (hM : mw D cl lo ad ct H) (t0 : Nat) {cA : ClassId} {C : String} (ht : tys[t0]? = some (cA, .object C)) {k n j : Nat} {f : Nat → Option Nat} (he : ct k = some (.inl (cA, n, .inr (.inr (.inr (.inr f)))))) (hj : j < n) (hn : n < 2 ^ 31) (hdg : decode cc pc = .ok (.aaload, 1))
    (kk : W p l e R s m args below meth c H locs cells slots Q (F0 m (pc + 1) ls (va_rf (f j) :: rest))) : W p l e R s m args below meth c H locs cells slots Q (F0 m pc ls (.int (nI j) :: .ref (ad k) :: rest)) :=
  va_aldq F.1 F.2.1 hK (hM.P he) 0 t0 rfl ht (vp_in_nI hj hn) hdg (by rw [nI_clamp (Nat.lt_trans hj hn)]; exact kk)
theorem m_aast (F : CallFix p m c cc nL s args Ts own) (hK : va_K D cl tys s) (hM : mw D cl lo ad ct H) (hS : va_S (fun q => lo ≤ q) H0 H locs) (t0 : Nat) {cA : ClassId} {ci : Nat} {r : vw_C} (ht : tys[t0]? = some (cA, .object r.1)) (hc : cl[ci]? = some r) {k kv n j : Nat} {f : Nat → Option Nat} {vs : List Value} (he : ct k = some (.inl (cA, n, .inr (.inr (.inr (.inr f)))))) (hv : ct kv = some (.inr (ci, vs))) (hj : j < n) (hn : n < 2 ^ 31) (hdg : decode cc pc = .ok (.aastore, 1))
    (kk : ∀ (H1 : Heap) (locs1 : List Loc), mw D cl lo ad (va_up ct k (some (.inl (cA, n, .inr (.inr (.inr (.inr (va_up f j (some (ad kv)))))))))) H1 → va_S (fun q => lo ≤ q) H0 H1 locs1 → W p l e R s m args below meth c H1 locs1 cells slots Q (F0 m (pc + 1) ls rest)) : W p l e R s m args below meth c H locs cells slots Q (F0 m pc ls (.ref (ad kv) :: .int (nI j) :: .ref (ad k) :: rest)) := by
  have hcl' : (nI j).toNatClampNeg = j := nI_clamp (Nat.lt_trans hj hn)
  have h0 : ¬ nI j < 0 := nI_pos (Nat.lt_trans hj hn)
  obtain ⟨r', hr', cellV, g1, g2, g3, -⟩ := (hM.1 kv _ hv).1
  have hcls := (hK.1 ci r hc).2
  obtain ⟨kA, comp, k1, k2, k3, -⟩ := (hK.2 t0 _ ht).2
  have hcomp : comp = D.1 ci := Option.some.inj (k3.symm.trans hcls.1)
  subst hcomp
  obtain ⟨kC, hkC, -⟩ := hcls.2
  refine W.aast F.1 F.2.1 (hM.1 k _ he).1 (fun q h => by cases h) (fun h => by cases h) k1 k2 rfl hkC ⟨h0, by show _ < (arrV _ _ _).slots.size; rw [arrV_size, hcl']; exact hj⟩ g1 (fun q h => by rw [g3] at h; cases h) (by rw [g2]; exact hkC) (by rw [g2]; exact va_assign hcls) rfl rfl hdg fun H1 e z oq => ?_
  refine kk H1 _ (hM.set he ?_ oq) (hS.put z oq (hM.1 k _ he).2)
  show H1[ad k]? = some (vp_cell _ _)
  rw [e]
  rw [vp_cell_q, vp_cell_q, arrV_store]
  congr 2
  funext q
  rw [hcl']
  by_cases hq : q = j
  · subst hq
    simp [updV, va_up, va_rf]
  · simp [updV, va_up, hq]
/-- new cells come at an index k that is free -/
theorem m_new (F : CallFix p m c cc nL s args Ts own) {C : String} {T : u_T} {N ci index : Nat} {ty0 : Nat → FieldType} (hin : ∀ w ∈ u_ws C T N, w ∈ Ts) (hC : m_cls cl ci C T N ty0) (hcl : Cond.classLink own index C ∈ Ts) (hinst : Cond.instantiable C N ∈ Ts) (hini : Cond.initialized C ∈ Ts) (hK : va_K D cl tys s) (hM : mw D cl lo ad ct H) (hS : va_S (fun q => lo ≤ q) H0 H locs) (hlo : lo ≤ H0.size) (k : Nat) (hk : ct k = none) {fs : List Value} (hfs : ∀ j, j < N → defaultValue (ty0 j) = vp_V fs j) (hcells : cells + 1 ≤ R.cells) (hslots : slots + N ≤ R.slots) (hdg : decode cc pc = .ok (.new index, 3))
    (kk : ∀ (q : Nat) (H1 : Heap), mw D cl lo (va_up ad k q) (va_up ct k (some (.inr (ci, fs)))) H1 → va_S (fun q => lo ≤ q) H0 H1 locs → W p l e R s m args below meth c H1 locs (cells + 1) (slots + N) Q (F0 m (pc + 3) ls (.ref q :: rest))) : W p l e R s m args below meth c H locs cells slots Q (F0 m pc ls rest) := by
  obtain ⟨hexec, hb, -, hown, hts⟩ := F
  obtain ⟨hc, hty, hnm⟩ := hC
  have hKn := hK.1 ci _ hc
  refine W.newcK hexec hb hown (hts _ hcl) (hts _ hinst) (hts _ hini) rfl hdg hcells hslots hKn.2.1 rfl fun H1 kC hkC e1 z1 o1 => ?_
  exact kk H.size H1 (hM.push hk (Nat.le_trans hlo hS.1) ⟨_, hc, (u_born ty0 hts hin hKn hkC e1 hty).to hfs⟩ o1) ⟨Nat.le_trans hS.1 (by omega), fun x h1 h2 => (o1 x (Nat.lt_of_lt_of_le h1 hS.1)).trans (hS.2.1 x h1 h2), hS.2.2⟩
theorem m_newi (F : CallFix p m c cc nL s args Ts own) (harr : Cond.arrayClass .int ∈ Ts) (hK : va_K D cl tys s) (hM : mw D cl lo ad ct H) (hS : va_S (fun q => lo ≤ q) H0 H locs) (hlo : lo ≤ H0.size) (t0 : Nat) {cA : ClassId} (ht : tys[t0]? = some (cA, .int)) (k : Nat) (hk : ct k = none) {n : Nat} (hn : n ≤ 100000) (hcells : cells + 1 ≤ R.cells) (hslots : slots + n ≤ R.slots) (hdg : decode cc pc = .ok (.newarray .int, 2))
    (kk : ∀ (q : Nat) (H1 : Heap), mw D cl lo (va_up ad k q) (va_up ct k (some (.inl (cA, n, .inl (fun _ => 0))))) H1 → va_S (fun q => lo ≤ q) H0 H1 locs → W p l e R s m args below meth c H1 locs (cells + 1) (slots + n) Q (F0 m (pc + 2) ls (.ref q :: rest))) : W p l e R s m args below meth c H locs cells slots Q (F0 m pc ls (.int (nI n) :: rest)) := by
  refine va_newaK (atype := .int) F.1 F.2.1 (F.2.2.2.2 _ harr) rfl hdg rfl (nI_pos (by omega)) (nI_clamp (by omega)) (by show n * 4 ≤ 536870912; omega) hcells hslots rfl fun H1 cB e1 z1 o1 hAr hNm => ?_
  have hR : s.vm.findClass ("[" ++ FieldType.int.toString) = some cA := (hK.2 t0 _ ht).2
  have hcc : cB = cA := Option.some.inj (hNm.symm.trans hR)
  subst hcc
  refine kk H.size H1 (hM.push hk (Nat.le_trans hlo hS.1) ?_ o1) ⟨Nat.le_trans hS.1 (by omega), fun x h1 h2 => (o1 x (Nat.lt_of_lt_of_le h1 hS.1)).trans (hS.2.1 x h1 h2), hS.2.2⟩
  show H1[H.size]? = some (vp_cell _ _)
  rw [e1]
  rfl
/-- branches over numbers -/
theorem m_icmp_lt (F : CallFix p m c cc nL s args Ts own) {a b : Nat} (ha : a < 2 ^ 31) (hb : b < 2 ^ 31) {off : Int} {tgt : Nat} (hdg : decode cc pc = .ok (.if_icmp .lt off, 3)) (ht : (pc : Int) + off = (tgt : Int)) (kt : a < b → W p l e R s m args below meth c H locs cells slots Q (F0 m tgt ls rest)) (kf : b ≤ a → W p l e R s m args below meth c H locs cells slots Q (F0 m (pc + 3) ls rest)) : W p l e R s m args below meth c H locs cells slots Q (F0 m pc ls (.int (nI b) :: .int (nI a) :: rest)) :=
  lv_icmp_lt F.1 F.2.1 hdg ht (fun h => kt ((nI_ltI ha hb).mp h)) (fun h => kf (Nat.not_lt.mp fun q => h ((nI_ltI ha hb).mpr q)))
theorem m_icmp_ge (F : CallFix p m c cc nL s args Ts own) {a b : Nat} (ha : a < 2 ^ 31) (hb : b < 2 ^ 31) {off : Int} {tgt : Nat} (hdg : decode cc pc = .ok (.if_icmp .ge off, 3)) (ht : (pc : Int) + off = (tgt : Int)) (kt : b ≤ a → W p l e R s m args below meth c H locs cells slots Q (F0 m tgt ls rest)) (kf : a < b → W p l e R s m args below meth c H locs cells slots Q (F0 m (pc + 3) ls rest)) : W p l e R s m args below meth c H locs cells slots Q (F0 m pc ls (.int (nI b) :: .int (nI a) :: rest)) :=
  lv_icmp_ge F.1 F.2.1 hdg ht (fun h => kt ((nI_leI hb ha).mp h)) (fun h => kf (Nat.not_le.mp fun q => h ((nI_leI hb ha).mpr q)))
theorem m_icmp_gt (F : CallFix p m c cc nL s args Ts own) {a b : Nat} (ha : a < 2 ^ 31) (hb : b < 2 ^ 31) {off : Int} {tgt : Nat} (hdg : decode cc pc = .ok (.if_icmp .gt off, 3)) (ht : (pc : Int) + off = (tgt : Int)) (kt : b < a → W p l e R s m args below meth c H locs cells slots Q (F0 m tgt ls rest)) (kf : a ≤ b → W p l e R s m args below meth c H locs cells slots Q (F0 m (pc + 3) ls rest)) : W p l e R s m args below meth c H locs cells slots Q (F0 m pc ls (.int (nI b) :: .int (nI a) :: rest)) :=
  lv_icmp_gt F.1 F.2.1 hdg ht (fun h => kt ((nI_ltI hb ha).mp h)) (fun h => kf (Nat.not_lt.mp fun q => h ((nI_ltI hb ha).mpr q)))
theorem m_icmp_le (F : CallFix p m c cc nL s args Ts own) {a b : Nat} (ha : a < 2 ^ 31) (hb : b < 2 ^ 31) {off : Int} {tgt : Nat} (hdg : decode cc pc = .ok (.if_icmp .le off, 3)) (ht : (pc : Int) + off = (tgt : Int)) (kt : a ≤ b → W p l e R s m args below meth c H locs cells slots Q (F0 m tgt ls rest)) (kf : b < a → W p l e R s m args below meth c H locs cells slots Q (F0 m (pc + 3) ls rest)) : W p l e R s m args below meth c H locs cells slots Q (F0 m pc ls (.int (nI b) :: .int (nI a) :: rest)) :=
  lv_icmp_le F.1 F.2.1 hdg ht (fun h => kt ((nI_leI ha hb).mp h)) (fun h => kf (Nat.not_le.mp fun q => h ((nI_leI ha hb).mpr q)))
theorem m_icmp_eq (F : CallFix p m c cc nL s args Ts own) {a b : Nat} (ha : a < 2 ^ 31) (hb : b < 2 ^ 31) {off : Int} {tgt : Nat} (hdg : decode cc pc = .ok (.if_icmp .eq off, 3)) (ht : (pc : Int) + off = (tgt : Int)) (kt : a = b → W p l e R s m args below meth c H locs cells slots Q (F0 m tgt ls rest)) (kf : a ≠ b → W p l e R s m args below meth c H locs cells slots Q (F0 m (pc + 3) ls rest)) : W p l e R s m args below meth c H locs cells slots Q (F0 m pc ls (.int (nI b) :: .int (nI a) :: rest)) :=
  lv_icmp_eq F.1 F.2.1 hdg ht (fun h => kt ((nI_eq ha hb).mp h)) (fun h => kf (fun q => h ((nI_eq ha hb).mpr q)))
theorem m_icmp_ne (F : CallFix p m c cc nL s args Ts own) {a b : Nat} (ha : a < 2 ^ 31) (hb : b < 2 ^ 31) {off : Int} {tgt : Nat} (hdg : decode cc pc = .ok (.if_icmp .ne off, 3)) (ht : (pc : Int) + off = (tgt : Int)) (kt : a ≠ b → W p l e R s m args below meth c H locs cells slots Q (F0 m tgt ls rest)) (kf : a = b → W p l e R s m args below meth c H locs cells slots Q (F0 m (pc + 3) ls rest)) : W p l e R s m args below meth c H locs cells slots Q (F0 m pc ls (.int (nI b) :: .int (nI a) :: rest)) :=
  lv_icmp_ne F.1 F.2.1 hdg ht (fun h => kt (fun q => h ((nI_eq ha hb).mpr q))) (fun h => kf ((nI_eq ha hb).mp (by first | exact h | exact Decidable.not_not.mp h)))
end MR
section MR2
variable {p : Program} {l : Launch} {e : Env} {R : Room} {s : State} {m : MethodId} {args : Array Value} {below : List Frame} {meth : Method} {c : Code} {H : Heap} {locs : List Loc} {cells slots : Nat} {Q : State → Prop}
variable {cc : ByteArray} {pc nL : Nat} {ls : Array Slot} {rest : List Value} {D : va_G} {cl : List vw_C} {tys : List (ClassId × FieldType)} {H0 : Heap} {lo : Nat} {ad : Nat → Nat} {ct : Nat → Option va_E} {Ts : List Cond} {own : String}
theorem m_val {v v' : Value} (h : v = v') (kk : W p l e R s m args below meth c H locs cells slots Q (F0 m pc ls (v' :: rest))) : W p l e R s m args below meth c H locs cells slots Q (F0 m pc ls (v :: rest)) := by rw [h]; exact kk
theorem m_tv {a b : Nat} (h : a = b) (kk : W p l e R s m args below meth c H locs cells slots Q (F0 m pc ls (.ref b :: rest))) : W p l e R s m args below meth c H locs cells slots Q (F0 m pc ls (.ref a :: rest)) := by rw [h]; exact kk
theorem m_sv {a b : Nat} {v : Value} (h : a = b) (kk : W p l e R s m args below meth c H locs cells slots Q (F0 m pc ls (v :: .ref b :: rest))) : W p l e R s m args below meth c H locs cells slots Q (F0 m pc ls (v :: .ref a :: rest)) := by rw [h]; exact kk
theorem m_uv {a b : Nat} {v w : Value} (h : a = b) (kk : W p l e R s m args below meth c H locs cells slots Q (F0 m pc ls (v :: w :: .ref b :: rest))) : W p l e R s m args below meth c H locs cells slots Q (F0 m pc ls (v :: w :: .ref a :: rest)) := by rw [h]; exact kk
/-- an array of references, all null -/
theorem m_newq (F : CallFix p m c cc nL s args Ts own) {C : String} {index : Nat} (hcl : Cond.classLink own index C ∈ Ts) (hov : va_AO C s) (hK : va_K D cl tys s) (hM : mw D cl lo ad ct H) (hS : va_S (fun q => lo ≤ q) H0 H locs) (hlo : lo ≤ H0.size) (t0 : Nat) {cA : ClassId} (ht : tys[t0]? = some (cA, .object C)) (k : Nat) (hk : ct k = none) {n : Nat} (hn : n ≤ 100000) (hcells : cells + 1 ≤ R.cells) (hslots : slots + n ≤ R.slots) (hdg : decode cc pc = .ok (.anewarray index, 3))
    (kk : ∀ (q : Nat) (H1 : Heap), mw D cl lo (va_up ad k q) (va_up ct k (some (.inl (cA, n, .inr (.inr (.inr (.inr (fun _ => none)))))))) H1 → va_S (fun q => lo ≤ q) H0 H1 locs → W p l e R s m args below meth c H1 locs (cells + 1) (slots + n) Q (F0 m (pc + 3) ls (.ref q :: rest))) : W p l e R s m args below meth c H locs cells slots Q (F0 m pc ls (.int (nI n) :: rest)) := by
  have hcn : (nI n).toNatClampNeg = n := nI_clamp (by omega)
  refine W.anew F.1 F.2.1 F.2.2.2.1 (F.2.2.2.2 _ hcl) (va_AO.use hov) rfl hdg rfl (nI_pos (by omega)) (by rw [hcn]; omega) hcells (by rw [hcn]; exact hslots) fun cB kA comp f1 f2 f3 f4 => ?_
  obtain ⟨kA', comp', -, -, -, hR⟩ := (hK.2 t0 _ ht).2
  have hcc : cB = cA := Option.some.inj (f1.symm.trans hR)
  subst hcc
  rw [hcn]
  generalize hH1 : H.push ({ cls := cB, slots := Array.replicate n .null, vm := .none } : Cell) = H1
  have e1 : H1[H.size]? = some (arrV cB n (fun _ => .null)) := by rw [← hH1, Array.getElem?_push_size, ← arrV_new]
  have z1 : H1.size = H.size + 1 := by rw [← hH1, Array.size_push]
  have o1 : ∀ q : Nat, q < H.size → H1[q]? = H[q]? := fun q hq => by rw [← hH1, Array.getElem?_push, if_neg (Nat.ne_of_lt hq)]
  refine kk H.size H1 (hM.push hk (Nat.le_trans hlo hS.1) ?_ o1) ⟨Nat.le_trans hS.1 (by omega), fun x h1 h2 => (o1 x (Nat.lt_of_lt_of_le h1 hS.1)).trans (hS.2.1 x h1 h2), hS.2.2⟩
  show H1[H.size]? = some (vp_cell _ _)
  rw [vp_cell_q]
  exact e1
theorem m_acmp_ne (F : CallFix p m c cc nL s args Ts own) {rx : Option Nat} {a : Nat} {off : Int} {tgt : Nat} (hdg : decode cc pc = .ok (.if_acmp .ne off, 3)) (ht : (pc : Int) + off = (tgt : Int))
    (kt : ¬ rx = some a → W p l e R s m args below meth c H locs cells slots Q (F0 m tgt ls rest)) (kf : rx = some a → W p l e R s m args below meth c H locs cells slots Q (F0 m (pc + 3) ls rest)) : W p l e R s m args below meth c H locs cells slots Q (F0 m pc ls (.ref a :: va_rf rx :: rest)) :=
  lv_acmp_ne (rx := rx) (ry := some a) F.1 F.2.1 hdg ht kt kf
theorem m_acmp_eq2 (F : CallFix p m c cc nL s args Ts own) {a b : Nat} {off : Int} {tgt : Nat} (hdg : decode cc pc = .ok (.if_acmp .eq off, 3)) (ht : (pc : Int) + off = (tgt : Int))
    (kt : a = b → W p l e R s m args below meth c H locs cells slots Q (F0 m tgt ls rest)) (kf : ¬ a = b → W p l e R s m args below meth c H locs cells slots Q (F0 m (pc + 3) ls rest)) : W p l e R s m args below meth c H locs cells slots Q (F0 m pc ls (.ref b :: .ref a :: rest)) :=
  lv_acmp_eq (rx := some a) (ry := some b) F.1 F.2.1 hdg ht (fun h => kt (Option.some.inj h)) (fun h => kf (fun q => h (by rw [q])))
end MR2
theorem mc_X0 : m_cls vwCl 0 RX0 TX0 6 tyX0 := ⟨rfl, okX0, nmX0⟩
theorem mc_X1 : m_cls vwCl 1 RX1 TX1 3 tyX1 := ⟨rfl, okX1, nmX1⟩
theorem mc_X2 : m_cls vwCl 2 RX2 TX2 3 tyX2 := ⟨rfl, okX2, nmX2⟩
theorem mc_X3 : m_cls vwCl 3 RX3 TX3 5 tyX3 := ⟨rfl, okX3, nmX3⟩
theorem mc_X4 : m_cls vwCl 4 RX4 TX4 14 tyX4 := ⟨rfl, okX4, nmX4⟩
abbrev tyA (aC : Nat → ClassId) : List (ClassId × FieldType) := [(aC 0, .int), (aC 1, .object "WordTrees$Entry"), (aC 2, .boolean)]
