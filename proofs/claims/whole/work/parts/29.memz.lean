/-! rows of truths -/
theorem upd_bI {f : Nat → Bool} {k : Nat} {b : Bool} : upd (fun j => bI (f j)) k (bI b) = fun j => bI (va_up f k b j) := by
  funext j
  by_cases h : j = k
  · subst h; simp [upd, va_up]
  · simp [upd, va_up, h]
theorem upd_cN {f : Nat → Option Nat} {k : Nat} : upd (fun j => cV (f j)) k (-1) = fun j => cV (va_up f k none j) := by
  funext j
  by_cases h : j = k
  · subst h; simp [upd, va_up, cV]
  · simp [upd, va_up, h]
theorem nar_bI (b : Bool) : vp_nar .boolean (bI b) = bI b := by cases b <;> decide +kernel
section MZ
variable {p : Program} {l : Launch} {e : Env} {R : Room} {s : State} {m : MethodId} {args : Array Value} {below : List Frame} {meth : Method} {c : Code} {H : Heap} {locs : List Loc} {cells slots : Nat} {Q : State → Prop}
variable {cc : ByteArray} {pc nL : Nat} {ls : Array Slot} {rest : List Value} {D : va_G} {cl : List vw_C} {tys : List (ClassId × FieldType)} {H0 : Heap} {lo : Nat} {ad : Nat → Nat} {ct : Nat → Option va_E} {Ts : List Cond} {own : String}
theorem m_zald (F : CallFix p m c cc nL s args Ts own) (hK : va_K D cl tys s) (hM : mw D cl lo ad ct H) (t0 : Nat) {cA : ClassId} (ht : tys[t0]? = some (cA, .boolean)) {k n j : Nat} {f : Nat → Int32} (he : ct k = some (.inl (cA, n, .inl f))) (hj : j < n) (hn : n < 2 ^ 31) (hdg : decode cc pc = .ok (.baload, 1))
    (kk : W p l e R s m args below meth c H locs cells slots Q (F0 m (pc + 1) ls (.int (f j) :: rest))) : W p l e R s m args below meth c H locs cells slots Q (F0 m pc ls (.int (nI j) :: .ref (ad k) :: rest)) :=
  va_zald F.1 F.2.1 hK (hM.P he) 0 t0 rfl ht (vp_in_nI hj hn) hdg (by rw [nI_clamp (Nat.lt_trans hj hn)]; exact kk)
theorem m_zast (F : CallFix p m c cc nL s args Ts own) (hK : va_K D cl tys s) (hM : mw D cl lo ad ct H) (hS : va_S (fun q => lo ≤ q) H0 H locs) (t0 : Nat) {cA : ClassId} (ht : tys[t0]? = some (cA, .boolean)) {k n j : Nat} {f : Nat → Int32} {b : Bool} {x : Int32} (he : ct k = some (.inl (cA, n, .inl f))) (hj : j < n) (hn : n < 2 ^ 31) (hdg : decode cc pc = .ok (.bastore, 1)) 
    (kk : ∀ (H1 : Heap) (locs1 : List Loc), mw D cl lo ad (va_up ct k (some (.inl (cA, n, .inl (upd f j (bI b)))))) H1 → va_S (fun q => lo ≤ q) H0 H1 locs1 → W p l e R s m args below meth c H1 locs1 cells slots Q (F0 m (pc + 1) ls rest)) (hb : x = bI b := by rfl) : W p l e R s m args below meth c H locs cells slots Q (F0 m pc ls (.int x :: .int (nI j) :: .ref (ad k) :: rest)) := by
  subst hb
  have hcl : (nI j).toNatClampNeg = j := nI_clamp (Nat.lt_trans hj hn)
  have hin : vp_in (nI j) n := vp_in_nI hj hn
  refine W.zast F.1 F.2.1 (hM.1 k _ he).1 ((hK.2 t0 _ ht).1 n (fun j => .int (f j))) (fun q => by cases q) (by show ¬ (nI j < 0 ∨ (arrV _ _ _).slots.size ≤ _); rw [arrV_size]; exact hin) rfl rfl hdg fun H1 e z oq => ?_
  refine kk H1 _ (hM.set he ?_ oq) (hS.put z oq (hM.1 k _ he).2)
  show H1[ad k]? = some (vp_cell _ _)
  rw [e]
  rw [vp_cell_i, vp_cell_i, arrV_store]
  congr 2
  funext q
  rw [hcl]
  have hna := nar_bI b
  by_cases hq : q = j
  · subst hq
    simp only [updV, upd, if_true]
    unfold vp_nar at hna
    cases b <;> rfl
  · simp [updV, upd, hq]
theorem m_newz (F : CallFix p m c cc nL s args Ts own) (harr : Cond.arrayClass .boolean ∈ Ts) (hK : va_K D cl tys s) (hM : mw D cl lo ad ct H) (hS : va_S (fun q => lo ≤ q) H0 H locs) (hlo : lo ≤ H0.size) (t0 : Nat) {cA : ClassId} (ht : tys[t0]? = some (cA, .boolean)) (k : Nat) (hk : ct k = none) {n : Nat} (hn : n ≤ 100000) (hcells : cells + 1 ≤ R.cells) (hslots : slots + n ≤ R.slots) (hdg : decode cc pc = .ok (.newarray .boolean, 2))
    (kk : ∀ (q : Nat) (H1 : Heap), mw D cl lo (va_up ad k q) (va_up ct k (some (.inl (cA, n, .inl (fun _ => bI false))))) H1 → va_S (fun q => lo ≤ q) H0 H1 locs → W p l e R s m args below meth c H1 locs (cells + 1) (slots + n) Q (F0 m (pc + 2) ls (.ref q :: rest))) : W p l e R s m args below meth c H locs cells slots Q (F0 m pc ls (.int (nI n) :: rest)) := by
  refine va_newaK (atype := .boolean) F.1 F.2.1 (F.2.2.2.2 _ harr) rfl hdg rfl (nI_pos (by omega)) (nI_clamp (by omega)) (by show n * 1 ≤ 536870912; omega) hcells hslots rfl fun H1 cB e1 z1 o1 hAr hNm => ?_
  have hR : s.vm.findClass ("[" ++ FieldType.boolean.toString) = some cA := (hK.2 t0 _ ht).2
  have hcc : cB = cA := Option.some.inj (hNm.symm.trans hR)
  subst hcc
  refine kk H.size H1 (hM.push hk (Nat.le_trans hlo hS.1) ?_ o1) ⟨Nat.le_trans hS.1 (by omega), fun x h1 h2 => (o1 x (Nat.lt_of_lt_of_le h1 hS.1)).trans (hS.2.1 x h1 h2), hS.2.2⟩
  show H1[H.size]? = some (vp_cell _ _)
  rw [e1]
  rfl
end MZ
/-! THE REFERENCE'S STATE in the memory: its object at index 1000, its rows from 1001 on; below 1000: the others' cells. -/
def ctM (aC : Nat → ClassId) (ad : Nat → Nat) (n : Nat) (th : Nat → Bool) (sz : Nat → Nat) (sg : Nat → Nat) (me : Nat → Nat) (gr : Nat → Int32) (lk : Int32) (P : Nat) (co : Nat → Option Nat) (tb : Nat → Nat) (fd : Nat) (wd : Nat → Nat) (sm : Nat → Nat) (rc : Nat → Nat) (X : Nat → Option va_E) : Nat → Option va_E := fun k =>
  if k < 1000 then X k
  else if k = 1000 then some (.inr (4, [.int (nI n), .ref (ad 1001), .ref (ad 1002), .ref (ad 1003), .ref (ad 1004), .ref (ad 1005), .int lk, .int (nI P), .ref (ad 1006), .ref (ad 1007), .int (nI fd), .ref (ad 1008), .ref (ad 1009), .ref (ad 1010)]))
  else if k = 1001 then some (.inl (aC 2, 201, .inl (fun j => bI (th j))))
  else if k = 1002 then some (.inl (aC 0, 201, .inl (fun j => nI (sz j))))
  else if k = 1003 then some (.inl (aC 0, 4020, .inl (fun j => nI (sg j))))
  else if k = 1004 then some (.inl (aC 0, 201, .inl (fun j => nI (me j))))
  else if k = 1005 then some (.inl (aC 0, 201, .inl (gr)))
  else if k = 1006 then some (.inl (aC 0, 2560, .inl (fun j => cV (co j))))
  else if k = 1007 then some (.inl (aC 0, 441, .inl (fun j => nI (tb j))))
  else if k = 1008 then some (.inl (aC 0, 200, .inl (fun j => nI (wd j))))
  else if k = 1009 then some (.inl (aC 0, 200, .inl (fun j => nI (sm j))))
  else if k = 1010 then some (.inl (aC 0, 201, .inl (fun j => nI (rc j))))
  else none
section CTM
variable {aC : Nat → ClassId} {ad : Nat → Nat} {n : Nat} {th : Nat → Bool} {sz : Nat → Nat} {sg : Nat → Nat} {me : Nat → Nat} {gr : Nat → Int32} {lk : Int32} {P : Nat} {co : Nat → Option Nat} {tb : Nat → Nat} {fd : Nat} {wd : Nat → Nat} {sm : Nat → Nat} {rc : Nat → Nat} {X : Nat → Option va_E}
theorem ctM_o : ctM aC ad n th sz sg me gr lk P co tb fd wd sm rc X 1000 = some (.inr (4, [.int (nI n), .ref (ad 1001), .ref (ad 1002), .ref (ad 1003), .ref (ad 1004), .ref (ad 1005), .int lk, .int (nI P), .ref (ad 1006), .ref (ad 1007), .int (nI fd), .ref (ad 1008), .ref (ad 1009), .ref (ad 1010)])) := rfl
theorem ctM_ath : ctM aC ad n th sz sg me gr lk P co tb fd wd sm rc X 1001 = some (.inl (aC 2, 201, .inl (fun j => bI (th j)))) := rfl
theorem ctM_asz : ctM aC ad n th sz sg me gr lk P co tb fd wd sm rc X 1002 = some (.inl (aC 0, 201, .inl (fun j => nI (sz j)))) := rfl
theorem ctM_asg : ctM aC ad n th sz sg me gr lk P co tb fd wd sm rc X 1003 = some (.inl (aC 0, 4020, .inl (fun j => nI (sg j)))) := rfl
theorem ctM_ame : ctM aC ad n th sz sg me gr lk P co tb fd wd sm rc X 1004 = some (.inl (aC 0, 201, .inl (fun j => nI (me j)))) := rfl
theorem ctM_agr : ctM aC ad n th sz sg me gr lk P co tb fd wd sm rc X 1005 = some (.inl (aC 0, 201, .inl (gr))) := rfl
theorem ctM_aco : ctM aC ad n th sz sg me gr lk P co tb fd wd sm rc X 1006 = some (.inl (aC 0, 2560, .inl (fun j => cV (co j)))) := rfl
theorem ctM_atb : ctM aC ad n th sz sg me gr lk P co tb fd wd sm rc X 1007 = some (.inl (aC 0, 441, .inl (fun j => nI (tb j)))) := rfl
theorem ctM_awd : ctM aC ad n th sz sg me gr lk P co tb fd wd sm rc X 1008 = some (.inl (aC 0, 200, .inl (fun j => nI (wd j)))) := rfl
theorem ctM_asm : ctM aC ad n th sz sg me gr lk P co tb fd wd sm rc X 1009 = some (.inl (aC 0, 200, .inl (fun j => nI (sm j)))) := rfl
theorem ctM_arc : ctM aC ad n th sz sg me gr lk P co tb fd wd sm rc X 1010 = some (.inl (aC 0, 201, .inl (fun j => nI (rc j)))) := rfl
theorem ctM_x {k : Nat} (h : k < 1000) : ctM aC ad n th sz sg me gr lk P co tb fd wd sm rc X k = X k := if_pos h
theorem ctM_n {z : Nat} : va_up (ctM aC ad n th sz sg me gr lk P co tb fd wd sm rc X) 1000 (some (.inr (4, [.int (nI z), .ref (ad 1001), .ref (ad 1002), .ref (ad 1003), .ref (ad 1004), .ref (ad 1005), .int lk, .int (nI P), .ref (ad 1006), .ref (ad 1007), .int (nI fd), .ref (ad 1008), .ref (ad 1009), .ref (ad 1010)]))) = ctM aC ad z th sz sg me gr lk P co tb fd wd sm rc X := by
  funext k
  by_cases hk : k = 1000
  · subst hk; rw [va_up_self]; rfl
  · rw [va_up_ne _ _ hk]; unfold ctM; rw [if_neg hk, if_neg hk]
theorem ctM_th {z : Nat → Bool} : va_up (ctM aC ad n th sz sg me gr lk P co tb fd wd sm rc X) 1001 (some (.inl (aC 2, 201, .inl (fun j => bI (z j))))) = ctM aC ad n z sz sg me gr lk P co tb fd wd sm rc X := by
  funext k
  by_cases hk : k = 1001
  · subst hk; rw [va_up_self]; rfl
  · rw [va_up_ne _ _ hk]; unfold ctM; rw [if_neg hk, if_neg hk]
theorem ctM_sz {z : Nat → Nat} : va_up (ctM aC ad n th sz sg me gr lk P co tb fd wd sm rc X) 1002 (some (.inl (aC 0, 201, .inl (fun j => nI (z j))))) = ctM aC ad n th z sg me gr lk P co tb fd wd sm rc X := by
  funext k
  by_cases hk : k = 1002
  · subst hk; rw [va_up_self]; rfl
  · rw [va_up_ne _ _ hk]; unfold ctM; rw [if_neg hk, if_neg hk]
theorem ctM_sg {z : Nat → Nat} : va_up (ctM aC ad n th sz sg me gr lk P co tb fd wd sm rc X) 1003 (some (.inl (aC 0, 4020, .inl (fun j => nI (z j))))) = ctM aC ad n th sz z me gr lk P co tb fd wd sm rc X := by
  funext k
  by_cases hk : k = 1003
  · subst hk; rw [va_up_self]; rfl
  · rw [va_up_ne _ _ hk]; unfold ctM; rw [if_neg hk, if_neg hk]
theorem ctM_me {z : Nat → Nat} : va_up (ctM aC ad n th sz sg me gr lk P co tb fd wd sm rc X) 1004 (some (.inl (aC 0, 201, .inl (fun j => nI (z j))))) = ctM aC ad n th sz sg z gr lk P co tb fd wd sm rc X := by
  funext k
  by_cases hk : k = 1004
  · subst hk; rw [va_up_self]; rfl
  · rw [va_up_ne _ _ hk]; unfold ctM; rw [if_neg hk, if_neg hk]
theorem ctM_gr {z : Nat → Int32} : va_up (ctM aC ad n th sz sg me gr lk P co tb fd wd sm rc X) 1005 (some (.inl (aC 0, 201, .inl (z)))) = ctM aC ad n th sz sg me z lk P co tb fd wd sm rc X := by
  funext k
  by_cases hk : k = 1005
  · subst hk; rw [va_up_self]; rfl
  · rw [va_up_ne _ _ hk]; unfold ctM; rw [if_neg hk, if_neg hk]
theorem ctM_lk {z : Int32} : va_up (ctM aC ad n th sz sg me gr lk P co tb fd wd sm rc X) 1000 (some (.inr (4, [.int (nI n), .ref (ad 1001), .ref (ad 1002), .ref (ad 1003), .ref (ad 1004), .ref (ad 1005), .int z, .int (nI P), .ref (ad 1006), .ref (ad 1007), .int (nI fd), .ref (ad 1008), .ref (ad 1009), .ref (ad 1010)]))) = ctM aC ad n th sz sg me gr z P co tb fd wd sm rc X := by
  funext k
  by_cases hk : k = 1000
  · subst hk; rw [va_up_self]; rfl
  · rw [va_up_ne _ _ hk]; unfold ctM; rw [if_neg hk, if_neg hk]
theorem ctM_P {z : Nat} : va_up (ctM aC ad n th sz sg me gr lk P co tb fd wd sm rc X) 1000 (some (.inr (4, [.int (nI n), .ref (ad 1001), .ref (ad 1002), .ref (ad 1003), .ref (ad 1004), .ref (ad 1005), .int lk, .int (nI z), .ref (ad 1006), .ref (ad 1007), .int (nI fd), .ref (ad 1008), .ref (ad 1009), .ref (ad 1010)]))) = ctM aC ad n th sz sg me gr lk z co tb fd wd sm rc X := by
  funext k
  by_cases hk : k = 1000
  · subst hk; rw [va_up_self]; rfl
  · rw [va_up_ne _ _ hk]; unfold ctM; rw [if_neg hk, if_neg hk]
theorem ctM_co {z : Nat → Option Nat} : va_up (ctM aC ad n th sz sg me gr lk P co tb fd wd sm rc X) 1006 (some (.inl (aC 0, 2560, .inl (fun j => cV (z j))))) = ctM aC ad n th sz sg me gr lk P z tb fd wd sm rc X := by
  funext k
  by_cases hk : k = 1006
  · subst hk; rw [va_up_self]; rfl
  · rw [va_up_ne _ _ hk]; unfold ctM; rw [if_neg hk, if_neg hk]
theorem ctM_tb {z : Nat → Nat} : va_up (ctM aC ad n th sz sg me gr lk P co tb fd wd sm rc X) 1007 (some (.inl (aC 0, 441, .inl (fun j => nI (z j))))) = ctM aC ad n th sz sg me gr lk P co z fd wd sm rc X := by
  funext k
  by_cases hk : k = 1007
  · subst hk; rw [va_up_self]; rfl
  · rw [va_up_ne _ _ hk]; unfold ctM; rw [if_neg hk, if_neg hk]
theorem ctM_fd {z : Nat} : va_up (ctM aC ad n th sz sg me gr lk P co tb fd wd sm rc X) 1000 (some (.inr (4, [.int (nI n), .ref (ad 1001), .ref (ad 1002), .ref (ad 1003), .ref (ad 1004), .ref (ad 1005), .int lk, .int (nI P), .ref (ad 1006), .ref (ad 1007), .int (nI z), .ref (ad 1008), .ref (ad 1009), .ref (ad 1010)]))) = ctM aC ad n th sz sg me gr lk P co tb z wd sm rc X := by
  funext k
  by_cases hk : k = 1000
  · subst hk; rw [va_up_self]; rfl
  · rw [va_up_ne _ _ hk]; unfold ctM; rw [if_neg hk, if_neg hk]
theorem ctM_wd {z : Nat → Nat} : va_up (ctM aC ad n th sz sg me gr lk P co tb fd wd sm rc X) 1008 (some (.inl (aC 0, 200, .inl (fun j => nI (z j))))) = ctM aC ad n th sz sg me gr lk P co tb fd z sm rc X := by
  funext k
  by_cases hk : k = 1008
  · subst hk; rw [va_up_self]; rfl
  · rw [va_up_ne _ _ hk]; unfold ctM; rw [if_neg hk, if_neg hk]
theorem ctM_sm {z : Nat → Nat} : va_up (ctM aC ad n th sz sg me gr lk P co tb fd wd sm rc X) 1009 (some (.inl (aC 0, 200, .inl (fun j => nI (z j))))) = ctM aC ad n th sz sg me gr lk P co tb fd wd z rc X := by
  funext k
  by_cases hk : k = 1009
  · subst hk; rw [va_up_self]; rfl
  · rw [va_up_ne _ _ hk]; unfold ctM; rw [if_neg hk, if_neg hk]
theorem ctM_rc {z : Nat → Nat} : va_up (ctM aC ad n th sz sg me gr lk P co tb fd wd sm rc X) 1010 (some (.inl (aC 0, 201, .inl (fun j => nI (z j))))) = ctM aC ad n th sz sg me gr lk P co tb fd wd sm z X := by
  funext k
  by_cases hk : k = 1010
  · subst hk; rw [va_up_self]; rfl
  · rw [va_up_ne _ _ hk]; unfold ctM; rw [if_neg hk, if_neg hk]
end CTM
