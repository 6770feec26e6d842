/-! ===== the memory of a side: numbers and rows, by their places ===== -/
abbrev sc_M : Type := (Nat → Int32) × (Nat → Int64) × (Nat → Nat → Int32) × (Nat → Nat → Int64)
def sc_gi (S : sc_M) (k : Nat) : Int32 := S.1 k
def sc_gj (S : sc_M) (k : Nat) : Int64 := S.2.1 k
def sc_ga (S : sc_M) (k : Nat) : Nat → Int32 := S.2.2.1 k
def sc_gb (S : sc_M) (k : Nat) : Nat → Int64 := S.2.2.2 k
def sc_mi (S : sc_M) (k : Nat) (v : Int32) : sc_M := (va_up S.1 k v, S.2)
def sc_mj (S : sc_M) (k : Nat) (v : Int64) : sc_M := (S.1, va_up S.2.1 k v, S.2.2)
def sc_mA (S : sc_M) (k : Nat) (f : Nat → Int32) : sc_M := (S.1, S.2.1, va_up S.2.2.1 k f, S.2.2.2)
def sc_mB (S : sc_M) (k : Nat) (f : Nat → Int64) : sc_M := (S.1, S.2.1, S.2.2.1, va_up S.2.2.2 k f)
/-! ===== what a walk says: none, where the machine would throw or the fuel ends ===== -/
def sc_FU : Nat := 100
def sc_ck {α : Type} (i : Int32) (n : Nat) (k : Option α) : Option α := if i < 0 ∨ n ≤ i.toNatClampNeg then none else k
def sc_nz {α : Type} (y : Int32) (k : Option α) : Option α := if y = 0 then none else k
def sc_nl {α : Type} (y : Int64) (k : Option α) : Option α := if y = 0 then none else k
def sc_cp {α : Type} (sp dp n : Int32) (n0 n1 : Nat) (k : Option α) : Option α := if sp < 0 ∨ dp < 0 ∨ n < 0 ∨ n0 < sp.toNatClampNeg + n.toNatClampNeg ∨ n1 < dp.toNatClampNeg + n.toNatClampNeg then none else k
def sc_sq {α β : Type} (a : α) (k : α → Option β) : Option β := k a
def sc_cl {α β : Type} (a : Option (α × sc_M)) (k : α → sc_M → Option β) : Option β := match a with
  | none => none
  | some q => k q.1 q.2
def sc_cv {β : Type} (a : Option sc_M) (k : sc_M → Option β) : Option β := match a with
  | none => none
  | some q => k q
def sc_bz (a : Option (Int32 × sc_M)) : Option (Int32 × sc_M) := match a with
  | none => none
  | some q => if q.1 = 0 ∨ q.1 = 1 then some q else none
theorem sc_ck_s {α : Type} {i : Int32} {n : Nat} {k : Option α} {x : α} (h : sc_ck i n k = some x) : vp_in i n ∧ k = some x := by
  unfold sc_ck at h
  by_cases c : i < 0 ∨ n ≤ i.toNatClampNeg
  · rw [if_pos c] at h; cases h
  · rw [if_neg c] at h; exact ⟨c, h⟩
theorem sc_nz_s {α : Type} {y : Int32} {k : Option α} {x : α} (h : sc_nz y k = some x) : ¬ y = 0 ∧ k = some x := by
  unfold sc_nz at h
  by_cases c : y = 0
  · rw [if_pos c] at h; cases h
  · rw [if_neg c] at h; exact ⟨c, h⟩
theorem sc_nl_s {α : Type} {y : Int64} {k : Option α} {x : α} (h : sc_nl y k = some x) : ¬ y = 0 ∧ k = some x := by
  unfold sc_nl at h
  by_cases c : y = 0
  · rw [if_pos c] at h; cases h
  · rw [if_neg c] at h; exact ⟨c, h⟩
theorem sc_cp_s {α : Type} {sp dp n : Int32} {n0 n1 : Nat} {k : Option α} {x : α} (h : sc_cp sp dp n n0 n1 k = some x) : (¬ sp < 0 ∧ ¬ dp < 0 ∧ ¬ n < 0 ∧ sp.toNatClampNeg + n.toNatClampNeg ≤ n0 ∧ dp.toNatClampNeg + n.toNatClampNeg ≤ n1) ∧ k = some x := by
  unfold sc_cp at h
  by_cases c : sp < 0 ∨ dp < 0 ∨ n < 0 ∨ n0 < sp.toNatClampNeg + n.toNatClampNeg ∨ n1 < dp.toNatClampNeg + n.toNatClampNeg
  · rw [if_pos c] at h; cases h
  · rw [if_neg c] at h
    exact ⟨⟨fun q => c (Or.inl q), fun q => c (Or.inr (Or.inl q)), fun q => c (Or.inr (Or.inr (Or.inl q))), Nat.not_lt.mp fun q => c (Or.inr (Or.inr (Or.inr (Or.inl q)))), Nat.not_lt.mp fun q => c (Or.inr (Or.inr (Or.inr (Or.inr q))))⟩, h⟩
theorem sc_sq_s {α β : Type} {a : α} {k : α → Option β} {x : β} (h : sc_sq a k = some x) : ∃ y, y = a ∧ k y = some x := ⟨a, rfl, h⟩
theorem sc_cl_s {α β : Type} {a : Option (α × sc_M)} {k : α → sc_M → Option β} {x : β} (h : sc_cl a k = some x) : ∃ r S, a = some (r, S) ∧ k r S = some x := by
  cases a with
  | none => cases h
  | some q => exact ⟨q.1, q.2, rfl, h⟩
theorem sc_cv_s {β : Type} {a : Option sc_M} {k : sc_M → Option β} {x : β} (h : sc_cv a k = some x) : ∃ S, a = some S ∧ k S = some x := by
  cases a with
  | none => cases h
  | some q => exact ⟨q, rfl, h⟩
theorem sc_bz_s {a : Option (Int32 × sc_M)} {r : Int32} {S : sc_M} (h : sc_bz a = some (r, S)) : a = some (r, S) ∧ (r = 0 ∨ r = 1) := by
  cases a with
  | none => cases h
  | some q =>
    simp only [sc_bz] at h
    by_cases c : q.1 = 0 ∨ q.1 = 1
    · rw [if_pos c] at h; cases h; exact ⟨rfl, c⟩
    · rw [if_neg c] at h; cases h
theorem sc_ip {α : Type} {c : Prop} [Decidable c] {a b x : α} (hc : c) (h : (if c then a else b) = x) : a = x := by rw [if_pos hc] at h; exact h
theorem sc_in {α : Type} {c : Prop} [Decidable c] {a b x : α} (hc : ¬ c) (h : (if c then a else b) = x) : b = x := by rw [if_neg hc] at h; exact h
theorem sc_nar01 {r : Int32} (h : r = 0 ∨ r = 1) : narrow .boolean (.int r) = .int r := by
  rcases h with rfl | rfl <;> decide
theorem sc_tbo {x : Int32} (n : Nat) (hn : n < 2 ^ 31) (h : ∀ k : Nat, k ≤ n → x ≠ nI k) : x.toInt < ((0 : Nat) : Int) ∨ (n : Int) < x.toInt := by
  by_cases h0 : x.toInt < 0
  · exact Or.inl h0
  · by_cases h1 : (n : Int) < x.toInt
    · exact Or.inr h1
    · exfalso
      have hk : x.toInt.toNat ≤ n := by omega
      refine h _ hk ?_
      apply Int32.toInt_inj.mp
      rw [nI_toInt (by omega)]
      omega
/-! ===== a side of the system: its classes' places, its cells by its memory, the kinds of its rows, what else its tables say, what it may change ===== -/
abbrev sc_E : Type := va_G × (sc_M → va_W) × List (ClassId × FieldType) × (State → Prop) × (Nat → Nat → Prop)
def sc_ok (E : sc_E) : Prop := (∀ sz q, sz ≤ q → E.2.2.2.2 sz q) ∧ (∀ sz sz' q, sz ≤ sz' → E.2.2.2.2 sz' q → E.2.2.2.2 sz q) ∧ (∀ (S : sc_M) (k : Nat) (q : Nat × va_E), (E.2.1 S)[k]? = some q → ∀ sz, E.2.2.2.2 sz q.1) ∧ (∀ s U : State, s.WarmedH U.vm → E.2.2.2.1 s → E.2.2.2.1 U) ∧ (∀ s U : State, s.vm = U.vm → E.2.2.2.1 s → E.2.2.2.1 U)
def sc_W (E : sc_E) (s : State) (H : Heap) (locs : List Loc) (S : sc_M) : Prop := va_K E.1 vwCl E.2.2.1 s ∧ va_P E.1 vwCl (E.2.1 S) H ∧ va_D (E.2.2.2.2 s.heap.size) (E.2.1 S) ∧ va_S (E.2.2.2.2 s.heap.size) s.heap H locs ∧ E.2.2.2.1 s
def sc_pre (E : sc_E) (S : sc_M) (sz : Nat) (U : State) : Prop := U.heap.size = sz ∧ va_P E.1 vwCl (E.2.1 S) U.heap ∧ va_K E.1 vwCl E.2.2.1 U ∧ va_D (E.2.2.2.2 sz) (E.2.1 S) ∧ E.2.2.2.1 U
def sc_post (E : sc_E) (S : sc_M) (sz : Nat) (t : State) : Prop := va_P E.1 vwCl (E.2.1 S) t.heap ∧ va_K E.1 vwCl E.2.2.1 t ∧ va_D (E.2.2.2.2 sz) (E.2.1 S)
/-- a method's contract: from memory S to memory S' -/
def sc_Ci (l : Launch) (y : MethodName) (ws : List Cond) (rm : Room) (E : sc_E) (av : List Value) (S S' : sc_M) (r : Int32) : Prop := ∀ sz, Met l y ws rm (va_Pc av (sc_pre E S sz)) (va_Qi (fun (x : Int32) (_ : Unit) => x = r) (fun _ => sc_post E S' sz) (E.2.2.2.2 sz)) 0 0 (E.2.2.2.2 sz)
def sc_Cl (l : Launch) (y : MethodName) (ws : List Cond) (rm : Room) (E : sc_E) (av : List Value) (S S' : sc_M) (r : Int64) : Prop := ∀ sz, Met l y ws rm (va_Pc av (sc_pre E S sz)) (va_Ql (fun (x : Int64) (_ : Unit) => x = r) (fun _ => sc_post E S' sz) (E.2.2.2.2 sz)) 0 0 (E.2.2.2.2 sz)
def sc_Cv (l : Launch) (y : MethodName) (ws : List Cond) (rm : Room) (E : sc_E) (av : List Value) (S S' : sc_M) : Prop := ∀ sz, Met l y ws rm (va_Pc av (sc_pre E S sz)) (va_Qv (fun _ : Unit => True) (fun _ => sc_post E S' sz) (E.2.2.2.2 sz)) 0 0 (E.2.2.2.2 sz)
section SCB
variable {p : Program} {l : Launch} {e : Env} {R : Room} {s : State} {m : MethodId} {args : Array Value} {below : List Frame} {meth : Method} {c : Code} {H : Heap} {locs : List Loc} {Q : State → Prop} {cc : ByteArray} {nL pc : Nat} {Ts : List Cond} {own : String} {E : sc_E} {S S1 : sc_M} {ls : Array Slot} {rest : List Value}
theorem sc_topi {x v : Int32} (h : x = v) (k : W p l e R s m args below meth c H locs 0 0 Q (F0 m pc ls (.int x :: rest))) : W p l e R s m args below meth c H locs 0 0 Q (F0 m pc ls (.int v :: rest)) := h ▸ k
theorem sc_topl {x v : Int64} (h : x = v) (k : W p l e R s m args below meth c H locs 0 0 Q (F0 m pc ls (.long x :: rest))) : W p l e R s m args below meth c H locs 0 0 Q (F0 m pc ls (.long v :: rest)) := h ▸ k
/-- the frame rule for a call on the whole side -/
theorem sc_blind (hE : sc_ok E) (av : List Value) (S : sc_M) (sz : Nat) : FrameBlind (va_Pc av (sc_pre E S sz)) := fun a U g mk q => by
  obtain ⟨q0, q1, qP, qK, qD, qE⟩ := q
  exact ⟨q0, q1, qP, va_K.moved (u := U) (U := U.calling g mk a) (Vm.Alike.refl U.vm) qK, qD, hE.2.2.2.2 U _ rfl qE⟩
theorem sc_start (hE : sc_ok E) (hW : sc_W E s H locs S) (av : List Value) : ∀ U : State, U.heap = H → s.WarmedH U.vm → va_Pc av (sc_pre E S H.size) av.toArray U := fun U hU hw => by
  obtain ⟨hK, hP, hD, hS, hX⟩ := hW
  exact ⟨rfl, by rw [hU], by rw [hU]; exact hP, va_K.moved hw.alike hK, ⟨hD.1, fun k q hk => hE.2.2.1 S k q hk _⟩, hE.2.2.2.1 s U hw hX⟩
theorem sc_back (hE : sc_ok E) (hW : sc_W E s H locs S) {t : State} {H1 : Heap} {locs1 : List Loc} (ht : t.heap = H1) (hvm : s.vm.Alike t.vm) (hB : sc_post E S1 H.size t) (hS : va_S (E.2.2.2.2 s.heap.size) s.heap H1 locs1) : sc_W E s H1 locs1 S1 := by
  obtain ⟨hP1, hK1, hD1⟩ := hB
  rw [ht] at hP1
  exact ⟨va_K.moved hvm.symm hK1, hP1, ⟨hD1.1, fun k q hk => hE.2.2.1 S1 k q hk _⟩, hS, hW.2.2.2.2⟩
theorem sc_freeA (hE : sc_ok E) (hW : sc_W E s H locs S) : ∀ q, E.2.2.2.2 H.size q → E.2.2.2.2 s.heap.size q := fun q h => hE.2.1 _ _ q hW.2.2.2.1.1 h
section CALL
variable {y : MethodName} {bytes : ByteArray} {maxL n index : Nat} {ret : Option FieldType} {ws : List Cond} {rm : Room} {C host : String} {b : Addr} {As : List Value} {st0 : List Value} {q0 ci : Nat} {fs : List Value} {vc : vw_C}
theorem sc_callVi {r : Int32} (hE : sc_ok E) (C0 : CallFix p m c cc nL s args Ts own) (hW : sc_W E s H locs S) (hM : sc_Ci l y ws rm E (.ref b :: As) S S1 r) (cw : CallW R s args own C index y bytes maxL ret ws rm 0 0 n) (hc : vwCl[ci]? = some vc) (hC : vc.1 = C) (he : (E.2.1 S)[q0]? = some (b, .inr (ci, fs))) (hn : As.length = n) (hsize : ls.size = nL) (hst : st0 = As.reverse ++ .ref b :: rest) (hw : (rest.map fun v => v.category).sum ≤ 8) (hdg : decode cc pc = .ok (.invokevirtual index, 3))
    (kk : ∀ (H : Heap) (locs : List Loc), sc_W E s H locs S1 → W p l e R s m args below meth c H locs 0 0 Q (F0 m (pc + 3) ls (.int r :: rest))) : W p l e R s m args below meth c H locs 0 0 Q (F0 m pc ls st0) := by
  refine va_calli (va_runV (As := As) (rest := rest) C0 (hM H.size) cw ⟨sc_blind hE _ _ _, hC ▸ va_recv hW.1 hW.2.1 hc he, sc_start hE hW _⟩ rfl hn hsize hst (lv_room hw) hdg ⟨Nat.zero_le _, Nat.zero_le _⟩) hW.2.2.2.1 (fun q _ h => sc_freeA hE hW q h) (sc_freeA hE hW) (fun r1 u t H1 locs1 ht hvm hp hB hz1 hk1 hS => ?_)
  subst hp
  exact kk H1 locs1 (sc_back hE hW ht hvm hB hS)
theorem sc_callVl {r : Int64} (hE : sc_ok E) (C0 : CallFix p m c cc nL s args Ts own) (hW : sc_W E s H locs S) (hM : sc_Cl l y ws rm E (.ref b :: As) S S1 r) (cw : CallW R s args own C index y bytes maxL ret ws rm 0 0 n) (hc : vwCl[ci]? = some vc) (hC : vc.1 = C) (he : (E.2.1 S)[q0]? = some (b, .inr (ci, fs))) (hn : As.length = n) (hsize : ls.size = nL) (hst : st0 = As.reverse ++ .ref b :: rest) (hw : (rest.map fun v => v.category).sum ≤ 8) (hdg : decode cc pc = .ok (.invokevirtual index, 3))
    (kk : ∀ (H : Heap) (locs : List Loc), sc_W E s H locs S1 → W p l e R s m args below meth c H locs 0 0 Q (F0 m (pc + 3) ls (.long r :: rest))) : W p l e R s m args below meth c H locs 0 0 Q (F0 m pc ls st0) := by
  refine va_calll (va_runV (As := As) (rest := rest) C0 (hM H.size) cw ⟨sc_blind hE _ _ _, hC ▸ va_recv hW.1 hW.2.1 hc he, sc_start hE hW _⟩ rfl hn hsize hst (lv_room hw) hdg ⟨Nat.zero_le _, Nat.zero_le _⟩) hW.2.2.2.1 (fun q _ h => sc_freeA hE hW q h) (sc_freeA hE hW) (fun r1 u t H1 locs1 ht hvm hp hB hz1 hk1 hS => ?_)
  subst hp
  exact kk H1 locs1 (sc_back hE hW ht hvm hB hS)
theorem sc_callVv (hE : sc_ok E) (C0 : CallFix p m c cc nL s args Ts own) (hW : sc_W E s H locs S) (hM : sc_Cv l y ws rm E (.ref b :: As) S S1) (cw : CallW R s args own C index y bytes maxL ret ws rm 0 0 n) (hc : vwCl[ci]? = some vc) (hC : vc.1 = C) (he : (E.2.1 S)[q0]? = some (b, .inr (ci, fs))) (hn : As.length = n) (hsize : ls.size = nL) (hst : st0 = As.reverse ++ .ref b :: rest) (hw : (rest.map fun v => v.category).sum ≤ 8) (hdg : decode cc pc = .ok (.invokevirtual index, 3))
    (kk : ∀ (H : Heap) (locs : List Loc), sc_W E s H locs S1 → W p l e R s m args below meth c H locs 0 0 Q (F0 m (pc + 3) ls rest)) : W p l e R s m args below meth c H locs 0 0 Q (F0 m pc ls st0) := by
  refine va_callv (va_runV (As := As) (rest := rest) C0 (hM H.size) cw ⟨sc_blind hE _ _ _, hC ▸ va_recv hW.1 hW.2.1 hc he, sc_start hE hW _⟩ rfl hn hsize hst (lv_room hw) hdg ⟨Nat.zero_le _, Nat.zero_le _⟩) hW.2.2.2.1 (fun q _ h => sc_freeA hE hW q h) (sc_freeA hE hW) (fun u t H1 locs1 ht hvm hp hB hz1 hk1 hS => ?_)
  exact kk H1 locs1 (sc_back hE hW ht hvm hB hS)
theorem sc_callSi {r : Int32} (hE : sc_ok E) (C0 : CallFix p m c cc nL s args Ts own) (hW : sc_W E s H locs S) (hM : sc_Ci l y ws rm E As S S1 r) (cw : CallB R s args own index y bytes maxL ret ws rm 0 0 n ∧ (Cond.static y).before args s = true) (hn : As.length = n) (hsize : ls.size = nL) (hst : st0 = As.reverse ++ rest) (hw : (rest.map fun v => v.category).sum ≤ 8) (hdg : decode cc pc = .ok (.invokestatic index, 3))
    (kk : ∀ (H : Heap) (locs : List Loc), sc_W E s H locs S1 → W p l e R s m args below meth c H locs 0 0 Q (F0 m (pc + 3) ls (.int r :: rest))) : W p l e R s m args below meth c H locs 0 0 Q (F0 m pc ls st0) := by
  refine va_calli (va_runS (As := As) (rest := rest) C0 (hM H.size) cw ⟨sc_blind hE _ _ _, sc_start hE hW _⟩ rfl hn hsize hst (lv_room hw) hdg ⟨Nat.zero_le _, Nat.zero_le _⟩) hW.2.2.2.1 (fun q _ h => sc_freeA hE hW q h) (sc_freeA hE hW) (fun r1 u t H1 locs1 ht hvm hp hB hz1 hk1 hS => ?_)
  subst hp
  exact kk H1 locs1 (sc_back hE hW ht hvm hB hS)
theorem sc_callSl {r : Int64} (hE : sc_ok E) (C0 : CallFix p m c cc nL s args Ts own) (hW : sc_W E s H locs S) (hM : sc_Cl l y ws rm E As S S1 r) (cw : CallB R s args own index y bytes maxL ret ws rm 0 0 n ∧ (Cond.static y).before args s = true) (hn : As.length = n) (hsize : ls.size = nL) (hst : st0 = As.reverse ++ rest) (hw : (rest.map fun v => v.category).sum ≤ 8) (hdg : decode cc pc = .ok (.invokestatic index, 3))
    (kk : ∀ (H : Heap) (locs : List Loc), sc_W E s H locs S1 → W p l e R s m args below meth c H locs 0 0 Q (F0 m (pc + 3) ls (.long r :: rest))) : W p l e R s m args below meth c H locs 0 0 Q (F0 m pc ls st0) := by
  refine va_calll (va_runS (As := As) (rest := rest) C0 (hM H.size) cw ⟨sc_blind hE _ _ _, sc_start hE hW _⟩ rfl hn hsize hst (lv_room hw) hdg ⟨Nat.zero_le _, Nat.zero_le _⟩) hW.2.2.2.1 (fun q _ h => sc_freeA hE hW q h) (sc_freeA hE hW) (fun r1 u t H1 locs1 ht hvm hp hB hz1 hk1 hS => ?_)
  subst hp
  exact kk H1 locs1 (sc_back hE hW ht hvm hB hS)
theorem sc_callSv (hE : sc_ok E) (C0 : CallFix p m c cc nL s args Ts own) (hW : sc_W E s H locs S) (hM : sc_Cv l y ws rm E As S S1) (cw : CallB R s args own index y bytes maxL ret ws rm 0 0 n ∧ (Cond.static y).before args s = true) (hn : As.length = n) (hsize : ls.size = nL) (hst : st0 = As.reverse ++ rest) (hw : (rest.map fun v => v.category).sum ≤ 8) (hdg : decode cc pc = .ok (.invokestatic index, 3))
    (kk : ∀ (H : Heap) (locs : List Loc), sc_W E s H locs S1 → W p l e R s m args below meth c H locs 0 0 Q (F0 m (pc + 3) ls rest)) : W p l e R s m args below meth c H locs 0 0 Q (F0 m pc ls st0) := by
  refine va_callv (va_runS (As := As) (rest := rest) C0 (hM H.size) cw ⟨sc_blind hE _ _ _, sc_start hE hW _⟩ rfl hn hsize hst (lv_room hw) hdg ⟨Nat.zero_le _, Nat.zero_le _⟩) hW.2.2.2.1 (fun q _ h => sc_freeA hE hW q h) (sc_freeA hE hW) (fun u t H1 locs1 ht hvm hp hB hz1 hk1 hS => ?_)
  exact kk H1 locs1 (sc_back hE hW ht hvm hB hS)
/-- a private static method of a nest mate -/
theorem sc_callNi {r : Int32} (hE : sc_ok E) (C0 : CallFix p m c cc nL s args Ts own) (hW : sc_W E s H locs S) (hM : sc_Ci l y ws rm E As S S1 r) (cw : va_CN R s args own index y host bytes maxL ret ws rm 0 0 n ∧ (Cond.static y).before args s = true ∧ True) (hn : As.length = n) (hsize : ls.size = nL) (hst : st0 = As.reverse ++ rest) (hw : (rest.map fun v => v.category).sum ≤ 8) (hdg : decode cc pc = .ok (.invokestatic index, 3))
    (kk : ∀ (H : Heap) (locs : List Loc), sc_W E s H locs S1 → W p l e R s m args below meth c H locs 0 0 Q (F0 m (pc + 3) ls (.int r :: rest))) : W p l e R s m args below meth c H locs 0 0 Q (F0 m pc ls st0) := by
  refine va_calli (va_runSN (As := As) (rest := rest) C0 (hM H.size) cw ⟨sc_blind hE _ _ _, sc_start hE hW _⟩ rfl hn hsize hst (lv_room hw) hdg ⟨Nat.zero_le _, Nat.zero_le _⟩) hW.2.2.2.1 (fun q _ h => sc_freeA hE hW q h) (sc_freeA hE hW) (fun r1 u t H1 locs1 ht hvm hp hB hz1 hk1 hS => ?_)
  subst hp
  exact kk H1 locs1 (sc_back hE hW ht hvm hB hS)
end CALL
/-! fields and rows -/
theorem sc_get {C : String} {T : u_T} {N ci idx q0 : Nat} {a : Nat} {fs : List Value} {v : Value} (C0 : CallFix p m c cc nL s args Ts own) (hW : sc_W E s H locs S) (hin : ∀ w ∈ u_ws C T N, w ∈ Ts) (he : (E.2.1 S)[q0]? = some (a, .inr (ci, fs))) (hc : vwCl[ci]? = some (C, T, N)) (k : Nat) (hk : k < N) (hlink : Cond.fieldLink own idx (T k).1 (T k).2.1 (T k).2.2.1 ∈ Ts) (hv : fs[k]? = some v) (hdg : decode cc pc = .ok (.getfield idx, 3))
    (kk : W p l e R s m args below meth c H locs 0 0 Q (F0 m (pc + 3) ls (v :: rest))) : W p l e R s m args below meth c H locs 0 0 Q (F0 m pc ls (.ref a :: rest)) :=
  va_get C0.1 C0.2.1 C0.2.2.2.2 hin C0.2.2.2.1 hW.1 hW.2.1 q0 he hc k hk (C0.2.2.2.2 _ hlink) (fun _ h9 => h9) hv hdg kk
theorem sc_put {C : String} {T : u_T} {N ci idx q0 : Nat} {a : Nat} {fs : List Value} {v : Value} {ty : FieldType} (C0 : CallFix p m c cc nL s args Ts own) (hW : sc_W E s H locs S) (hin : ∀ w ∈ u_ws C T N, w ∈ Ts) (ty0 : Nat → FieldType) (hty : ∀ k, k < N → parseFieldDescriptor (T k).2.2.1 = some (ty0 k)) (hnm : ∀ a, a < N → ∀ b, b < N → a ≠ b → (T a).2.1 ≠ (T b).2.1) (he : (E.2.1 S)[q0]? = some (a, .inr (ci, fs))) (hc : vwCl[ci]? = some (C, T, N)) (k : Nat) (hk : k < N) (hlink : Cond.fieldLink own idx (T k).1 (T k).2.1 (T k).2.2.1 ∈ Ts) (hfin : (T k).2.2.2 = false) (hd : parseFieldDescriptor (T k).2.2.1 = some ty) (hn : narrow ty v = v) (hfit : fits ty v = true) (hl : k < fs.length) (hS1 : (E.2.1 S).set q0 (a, .inr (ci, fs.set k v)) = E.2.1 S1) (hdg : decode cc pc = .ok (.putfield idx, 3))
    (kk : ∀ (H : Heap) (locs : List Loc), sc_W E s H locs S1 → W p l e R s m args below meth c H locs 0 0 Q (F0 m (pc + 3) ls rest)) : W p l e R s m args below meth c H locs 0 0 Q (F0 m pc ls (v :: .ref a :: rest)) := by
  refine va_put C0.1 C0.2.1 C0.2.2.2.2 hin ty0 hty hnm C0.2.2.2.1 hW.1 hW.2.1 hW.2.2.1 hW.2.2.2.1 q0 he hc k hk (C0.2.2.2.2 _ hlink) (fun _ h9 => h9) hfin hd hn hfit hl hdg (fun H1 locs1 hP hD hS => ?_)
  rw [hS1] at hP hD
  exact kk H1 locs1 ⟨hW.1, hP, hD, hS, hW.2.2.2.2⟩
theorem sc_iald {q0 t0 a : Nat} {cA : ClassId} {n : Nat} {f : Nat → Int32} {i : Int32} (C0 : CallFix p m c cc nL s args Ts own) (hW : sc_W E s H locs S) (ha : (E.2.1 S)[q0]? = some (a, .inl (cA, n, .inl f))) (ht : E.2.2.1[t0]? = some (cA, .int)) (hin : vp_in i n) (hdg : decode cc pc = .ok (.iaload, 1))
    (kk : W p l e R s m args below meth c H locs 0 0 Q (F0 m (pc + 1) ls (.int (f i.toNatClampNeg) :: rest))) : W p l e R s m args below meth c H locs 0 0 Q (F0 m pc ls (.int i :: .ref a :: rest)) :=
  va_iald C0.1 C0.2.1 hW.1 hW.2.1 q0 t0 ha ht hin hdg kk
theorem sc_zald {q0 t0 a : Nat} {cA : ClassId} {n : Nat} {f : Nat → Int32} {i : Int32} (C0 : CallFix p m c cc nL s args Ts own) (hW : sc_W E s H locs S) (ha : (E.2.1 S)[q0]? = some (a, .inl (cA, n, .inl f))) (ht : E.2.2.1[t0]? = some (cA, .boolean)) (hin : vp_in i n) (hdg : decode cc pc = .ok (.baload, 1))
    (kk : W p l e R s m args below meth c H locs 0 0 Q (F0 m (pc + 1) ls (.int (f i.toNatClampNeg) :: rest))) : W p l e R s m args below meth c H locs 0 0 Q (F0 m pc ls (.int i :: .ref a :: rest)) :=
  va_zald C0.1 C0.2.1 hW.1 hW.2.1 q0 t0 ha ht hin hdg kk
theorem sc_lald {q0 t0 a : Nat} {cA : ClassId} {n : Nat} {f : Nat → Int64} {i : Int32} (C0 : CallFix p m c cc nL s args Ts own) (hW : sc_W E s H locs S) (ha : (E.2.1 S)[q0]? = some (a, .inl (cA, n, .inr (.inl f)))) (ht : E.2.2.1[t0]? = some (cA, .long)) (hin : vp_in i n) (hdg : decode cc pc = .ok (.laload, 1))
    (kk : W p l e R s m args below meth c H locs 0 0 Q (F0 m (pc + 1) ls (.long (f i.toNatClampNeg) :: rest))) : W p l e R s m args below meth c H locs 0 0 Q (F0 m pc ls (.int i :: .ref a :: rest)) :=
  va_lald C0.1 C0.2.1 hW.1 hW.2.1 q0 t0 ha ht hin hdg kk
theorem sc_iast {q0 t0 a : Nat} {cA : ClassId} {n : Nat} {f : Nat → Int32} {i x : Int32} (C0 : CallFix p m c cc nL s args Ts own) (hW : sc_W E s H locs S) (ha : (E.2.1 S)[q0]? = some (a, .inl (cA, n, .inl f))) (ht : E.2.2.1[t0]? = some (cA, .int)) (hin : vp_in i n) (hS1 : (E.2.1 S).set q0 (a, .inl (cA, n, .inl (upd f i.toNatClampNeg x))) = E.2.1 S1) (hdg : decode cc pc = .ok (.iastore, 1))
    (kk : ∀ (H : Heap) (locs : List Loc), sc_W E s H locs S1 → W p l e R s m args below meth c H locs 0 0 Q (F0 m (pc + 1) ls rest)) : W p l e R s m args below meth c H locs 0 0 Q (F0 m pc ls (.int x :: .int i :: .ref a :: rest)) := by
  refine va_iast C0.1 C0.2.1 hW.1 hW.2.1 hW.2.2.1 hW.2.2.2.1 q0 t0 ha ht hin hdg (fun H1 locs1 hP hD hS => ?_)
  rw [hS1] at hP hD
  exact kk H1 locs1 ⟨hW.1, hP, hD, hS, hW.2.2.2.2⟩
theorem sc_zast {q0 t0 a : Nat} {cA : ClassId} {n : Nat} {f : Nat → Int32} {i x : Int32} (C0 : CallFix p m c cc nL s args Ts own) (hW : sc_W E s H locs S) (ha : (E.2.1 S)[q0]? = some (a, .inl (cA, n, .inl f))) (ht : E.2.2.1[t0]? = some (cA, .boolean)) (hin : vp_in i n) (hS1 : (E.2.1 S).set q0 (a, .inl (cA, n, .inl (upd f i.toNatClampNeg (vp_nar .boolean x)))) = E.2.1 S1) (hdg : decode cc pc = .ok (.bastore, 1))
    (kk : ∀ (H : Heap) (locs : List Loc), sc_W E s H locs S1 → W p l e R s m args below meth c H locs 0 0 Q (F0 m (pc + 1) ls rest)) : W p l e R s m args below meth c H locs 0 0 Q (F0 m pc ls (.int x :: .int i :: .ref a :: rest)) := by
  refine va_zast C0.1 C0.2.1 hW.1 hW.2.1 hW.2.2.1 hW.2.2.2.1 q0 t0 ha ht hin hdg (fun H1 locs1 hP hD hS => ?_)
  rw [hS1] at hP hD
  exact kk H1 locs1 ⟨hW.1, hP, hD, hS, hW.2.2.2.2⟩
theorem sc_last {q0 t0 a : Nat} {cA : ClassId} {n : Nat} {f : Nat → Int64} {i : Int32} {x : Int64} (C0 : CallFix p m c cc nL s args Ts own) (hW : sc_W E s H locs S) (ha : (E.2.1 S)[q0]? = some (a, .inl (cA, n, .inr (.inl f)))) (ht : E.2.2.1[t0]? = some (cA, .long)) (hin : vp_in i n) (hS1 : (E.2.1 S).set q0 (a, .inl (cA, n, .inr (.inl (vp_updL f i.toNatClampNeg x)))) = E.2.1 S1) (hdg : decode cc pc = .ok (.lastore, 1))
    (kk : ∀ (H : Heap) (locs : List Loc), sc_W E s H locs S1 → W p l e R s m args below meth c H locs 0 0 Q (F0 m (pc + 1) ls rest)) : W p l e R s m args below meth c H locs 0 0 Q (F0 m pc ls (.long x :: .int i :: .ref a :: rest)) := by
  refine va_last C0.1 C0.2.1 hW.1 hW.2.1 hW.2.2.1 hW.2.2.2.1 q0 t0 ha ht hin hdg (fun H1 locs1 hP hD hS => ?_)
  rw [hS1] at hP hD
  exact kk H1 locs1 ⟨hW.1, hP, hD, hS, hW.2.2.2.2⟩
theorem sc_alen {q0 t0 a : Nat} {cA : ClassId} {x : vp_A} {ty : FieldType} {v : Int32} (C0 : CallFix p m c cc nL s args Ts own) (hW : sc_W E s H locs S) (ha : (E.2.1 S)[q0]? = some (a, .inl (cA, x))) (ht : E.2.2.1[t0]? = some (cA, ty)) (hv : Int32.ofNat x.1 = v) (hdg : decode cc pc = .ok (.arraylength, 1))
    (kk : W p l e R s m args below meth c H locs 0 0 Q (F0 m (pc + 1) ls (.int v :: rest))) : W p l e R s m args below meth c H locs 0 0 Q (F0 m pc ls (.ref a :: rest)) :=
  va_alen C0.1 C0.2.1 hW.1 hW.2.1 q0 t0 ha ht hv hdg kk
theorem sc_copyi {q0 q1 t0 t1 a a0 : Nat} {c0 c1 : ClassId} {n0 n1 : Nat} {f g : Nat → Int32} {ty : FieldType} {sp dp n : Int32} {idx : Nat} (C0 : CallFix p m c cc nL s args Ts own) (hlink : (Cond.methodLink own idx arraycopyName).before args s = true) (hnat : (Cond.native arraycopyName).before args s = true) (hstat : (Cond.static arraycopyName).before args s = true) (hini : (Cond.initialized "java/lang/System").before args s = true) (hW : sc_W E s H locs S) (ha0 : (E.2.1 S)[q0]? = some (a0, .inl (c0, n0, .inl f))) (ha1 : (E.2.1 S)[q1]? = some (a, .inl (c1, n1, .inl g))) (ht0 : E.2.2.1[t0]? = some (c0, ty)) (ht1 : E.2.2.1[t1]? = some (c1, ty)) (hprim : refKind ty = false) (hv : ¬ sp < 0 ∧ ¬ dp < 0 ∧ ¬ n < 0 ∧ sp.toNatClampNeg + n.toNatClampNeg ≤ n0 ∧ dp.toNatClampNeg + n.toNatClampNeg ≤ n1) (hfit : ∀ i, i < n.toNatClampNeg → fits ty (.int (f (sp.toNatClampNeg + i))) = true) (hls : ls.size = nL) (hframes : 1 ≤ R.frames) (hlocals : (rest.map fun v => v.category).sum + (nativeFrameWords "java/lang/System" "arraycopy" 5 + 11) ≤ R.locals) (hS1 : (E.2.1 S).set q1 (a, .inl (c1, n1, .inl (va_cpy f g sp.toNatClampNeg dp.toNatClampNeg n.toNatClampNeg))) = E.2.1 S1) (hdg : decode cc pc = .ok (.invokestatic idx, 3))
    (kk : ∀ (H : Heap) (locs : List Loc), sc_W E s H locs S1 → W p l e R s m args below meth c H locs 0 0 Q (F0 m (pc + 3) ls rest)) : W p l e R s m args below meth c H locs 0 0 Q (F0 m pc ls (.int n :: .int dp :: .ref a :: .int sp :: .ref a0 :: rest)) := by
  refine va_copyi C0.1 C0.2.1 (C0.2.2.1.trans hls.symm) C0.2.2.2.1 hlink hnat hstat hini hW.1 hW.2.1 hW.2.2.1 hW.2.2.2.1 q0 q1 t0 t1 ha0 ha1 ht0 ht1 hprim hv.1 hv.2.1 hv.2.2.1 hv.2.2.2.1 hv.2.2.2.2 hfit hframes hlocals hdg (fun H1 locs1 hP hD hS => ?_)
  rw [hS1] at hP hD
  exact kk H1 locs1 ⟨hW.1, hP, hD, hS, hW.2.2.2.2⟩
theorem sc_copyl {q0 q1 t0 t1 a a0 : Nat} {c0 c1 : ClassId} {n0 n1 : Nat} {f g : Nat → Int64} {ty : FieldType} {sp dp n : Int32} {idx : Nat} (C0 : CallFix p m c cc nL s args Ts own) (hlink : (Cond.methodLink own idx arraycopyName).before args s = true) (hnat : (Cond.native arraycopyName).before args s = true) (hstat : (Cond.static arraycopyName).before args s = true) (hini : (Cond.initialized "java/lang/System").before args s = true) (hW : sc_W E s H locs S) (ha0 : (E.2.1 S)[q0]? = some (a0, .inl (c0, n0, .inr (.inl f)))) (ha1 : (E.2.1 S)[q1]? = some (a, .inl (c1, n1, .inr (.inl g)))) (ht0 : E.2.2.1[t0]? = some (c0, ty)) (ht1 : E.2.2.1[t1]? = some (c1, ty)) (hprim : refKind ty = false) (hv : ¬ sp < 0 ∧ ¬ dp < 0 ∧ ¬ n < 0 ∧ sp.toNatClampNeg + n.toNatClampNeg ≤ n0 ∧ dp.toNatClampNeg + n.toNatClampNeg ≤ n1) (hfit : ∀ i, i < n.toNatClampNeg → fits ty (.long (f (sp.toNatClampNeg + i))) = true) (hls : ls.size = nL) (hframes : 1 ≤ R.frames) (hlocals : (rest.map fun v => v.category).sum + (nativeFrameWords "java/lang/System" "arraycopy" 5 + 11) ≤ R.locals) (hS1 : (E.2.1 S).set q1 (a, .inl (c1, n1, .inr (.inl (va_cpy f g sp.toNatClampNeg dp.toNatClampNeg n.toNatClampNeg)))) = E.2.1 S1) (hdg : decode cc pc = .ok (.invokestatic idx, 3))
    (kk : ∀ (H : Heap) (locs : List Loc), sc_W E s H locs S1 → W p l e R s m args below meth c H locs 0 0 Q (F0 m (pc + 3) ls rest)) : W p l e R s m args below meth c H locs 0 0 Q (F0 m pc ls (.int n :: .int dp :: .ref a :: .int sp :: .ref a0 :: rest)) := by
  refine va_copyl C0.1 C0.2.1 (C0.2.2.1.trans hls.symm) C0.2.2.2.1 hlink hnat hstat hini hW.1 hW.2.1 hW.2.2.1 hW.2.2.2.1 q0 q1 t0 t1 ha0 ha1 ht0 ht1 hprim hv.1 hv.2.1 hv.2.2.1 hv.2.2.2.1 hv.2.2.2.2 hfit hframes hlocals hdg (fun H1 locs1 hP hD hS => ?_)
  rw [hS1] at hP hD
  exact kk H1 locs1 ⟨hW.1, hP, hD, hS, hW.2.2.2.2⟩
/-! comparing longs -/
theorem sc_l_le {x y : Int64} {off : Int} {tgt : Nat} (C0 : CallFix p m c cc nL s args Ts own) (h1 : decode cc pc = .ok (.lcmp, 1)) (h2 : decode cc (pc + 1) = .ok (.ifCond .le off, 3)) (ht : ((pc + 1 : Nat) : Int) + off = (tgt : Int)) (kt : x ≤ y → W p l e R s m args below meth c H locs 0 0 Q (F0 m tgt ls rest)) (kf : ¬ x ≤ y → W p l e R s m args below meth c H locs 0 0 Q (F0 m (pc + 4) ls rest)) : W p l e R s m args below meth c H locs 0 0 Q (F0 m pc ls (.long y :: .long x :: rest)) :=
  W.lcmp C0.1 C0.2.1 h1 (lv_if_le C0.1 C0.2.1 h2 ht (fun h => kt ((lg_cmp_le x y).mp h)) (fun h => kf (fun q => h ((lg_cmp_le x y).mpr q))))
theorem sc_l_ge {x y : Int64} {off : Int} {tgt : Nat} (C0 : CallFix p m c cc nL s args Ts own) (h1 : decode cc pc = .ok (.lcmp, 1)) (h2 : decode cc (pc + 1) = .ok (.ifCond .ge off, 3)) (ht : ((pc + 1 : Nat) : Int) + off = (tgt : Int)) (kt : y ≤ x → W p l e R s m args below meth c H locs 0 0 Q (F0 m tgt ls rest)) (kf : ¬ y ≤ x → W p l e R s m args below meth c H locs 0 0 Q (F0 m (pc + 4) ls rest)) : W p l e R s m args below meth c H locs 0 0 Q (F0 m pc ls (.long y :: .long x :: rest)) :=
  W.lcmp C0.1 C0.2.1 h1 (lv_if_ge C0.1 C0.2.1 h2 ht (fun h => kt ((lg_cmp_ge x y).mp h)) (fun h => kf (fun q => h ((lg_cmp_ge x y).mpr q))))
theorem sc_l_gt {x y : Int64} {off : Int} {tgt : Nat} (C0 : CallFix p m c cc nL s args Ts own) (h1 : decode cc pc = .ok (.lcmp, 1)) (h2 : decode cc (pc + 1) = .ok (.ifCond .gt off, 3)) (ht : ((pc + 1 : Nat) : Int) + off = (tgt : Int)) (kt : y < x → W p l e R s m args below meth c H locs 0 0 Q (F0 m tgt ls rest)) (kf : ¬ y < x → W p l e R s m args below meth c H locs 0 0 Q (F0 m (pc + 4) ls rest)) : W p l e R s m args below meth c H locs 0 0 Q (F0 m pc ls (.long y :: .long x :: rest)) :=
  W.lcmp C0.1 C0.2.1 h1 (lv_if_gt C0.1 C0.2.1 h2 ht (fun h => kt ((lg_cmp_gt x y).mp h)) (fun h => kf (fun q => h ((lg_cmp_gt x y).mpr q))))
theorem sc_l_lt {x y : Int64} {off : Int} {tgt : Nat} (C0 : CallFix p m c cc nL s args Ts own) (h1 : decode cc pc = .ok (.lcmp, 1)) (h2 : decode cc (pc + 1) = .ok (.ifCond .lt off, 3)) (ht : ((pc + 1 : Nat) : Int) + off = (tgt : Int)) (kt : x < y → W p l e R s m args below meth c H locs 0 0 Q (F0 m tgt ls rest)) (kf : ¬ x < y → W p l e R s m args below meth c H locs 0 0 Q (F0 m (pc + 4) ls rest)) : W p l e R s m args below meth c H locs 0 0 Q (F0 m pc ls (.long y :: .long x :: rest)) :=
  W.lcmp C0.1 C0.2.1 h1 (lv_if_lt C0.1 C0.2.1 h2 ht (fun h => kt ((lg_cmp_lt x y).mp h)) (fun h => kf (fun q => h ((lg_cmp_lt x y).mpr q))))
theorem sc_l_eq {x y : Int64} {off : Int} {tgt : Nat} (C0 : CallFix p m c cc nL s args Ts own) (h1 : decode cc pc = .ok (.lcmp, 1)) (h2 : decode cc (pc + 1) = .ok (.ifCond .eq off, 3)) (ht : ((pc + 1 : Nat) : Int) + off = (tgt : Int)) (kt : x = y → W p l e R s m args below meth c H locs 0 0 Q (F0 m tgt ls rest)) (kf : ¬ x = y → W p l e R s m args below meth c H locs 0 0 Q (F0 m (pc + 4) ls rest)) : W p l e R s m args below meth c H locs 0 0 Q (F0 m pc ls (.long y :: .long x :: rest)) :=
  W.lcmp C0.1 C0.2.1 h1 (lv_if_eq C0.1 C0.2.1 h2 ht (fun h => kt ((lg_cmp_eq x y).mp h)) (fun h => kf (fun q => h ((lg_cmp_eq x y).mpr q))))
theorem sc_l_ne {x y : Int64} {off : Int} {tgt : Nat} (C0 : CallFix p m c cc nL s args Ts own) (h1 : decode cc pc = .ok (.lcmp, 1)) (h2 : decode cc (pc + 1) = .ok (.ifCond .ne off, 3)) (ht : ((pc + 1 : Nat) : Int) + off = (tgt : Int)) (kt : ¬ x = y → W p l e R s m args below meth c H locs 0 0 Q (F0 m tgt ls rest)) (kf : x = y → W p l e R s m args below meth c H locs 0 0 Q (F0 m (pc + 4) ls rest)) : W p l e R s m args below meth c H locs 0 0 Q (F0 m pc ls (.long y :: .long x :: rest)) :=
  W.lcmp C0.1 C0.2.1 h1 (lv_if_ne C0.1 C0.2.1 h2 ht (fun h => kt (fun q => h ((lg_cmp_eq x y).mpr q))) (fun h => kf ((lg_cmp_eq x y).mp h)))
/-! ends -/
def sc_Ri (p : Program) (l : Launch) (e : Env) (R : Room) (s : State) (m : MethodId) (args : Array Value) (below : List Frame) (meth : Method) (c : Code) (Q : State → Prop) (cc : ByteArray) (E : sc_E) (S : sc_M) (r : Int32) : Prop := ∀ (pc : Nat) (ls : Array Slot) (H : Heap) (locs : List Loc), decode cc pc = .ok (.ireturn, 1) → sc_W E s H locs S → W p l e R s m args below meth c H locs 0 0 Q (F0 m pc ls [.int r])
def sc_Rl (p : Program) (l : Launch) (e : Env) (R : Room) (s : State) (m : MethodId) (args : Array Value) (below : List Frame) (meth : Method) (c : Code) (Q : State → Prop) (cc : ByteArray) (E : sc_E) (S : sc_M) (r : Int64) : Prop := ∀ (pc : Nat) (ls : Array Slot) (H : Heap) (locs : List Loc), decode cc pc = .ok (.lreturn, 1) → sc_W E s H locs S → W p l e R s m args below meth c H locs 0 0 Q (F0 m pc ls [.long r])
def sc_Rv (p : Program) (l : Launch) (e : Env) (R : Room) (s : State) (m : MethodId) (args : Array Value) (below : List Frame) (meth : Method) (c : Code) (Q : State → Prop) (cc : ByteArray) (E : sc_E) (S : sc_M) : Prop := ∀ (pc : Nat) (ls : Array Slot) (H : Heap) (locs : List Loc), decode cc pc = .ok (.return_, 1) → sc_W E s H locs S → W p l e R s m args below meth c H locs 0 0 Q (F0 m pc ls [])
theorem sc_reti {r v : Int32} (hR : sc_Ri p l e R s m args below meth c Q cc E S1 r) (hf : some (v, S) = some (r, S1)) (hW : sc_W E s H locs S) (hdg : decode cc pc = .ok (.ireturn, 1)) : W p l e R s m args below meth c H locs 0 0 Q (F0 m pc ls [.int v]) := by
  cases hf
  exact hR pc ls H locs hdg hW
theorem sc_retl {r v : Int64} (hR : sc_Rl p l e R s m args below meth c Q cc E S1 r) (hf : some (v, S) = some (r, S1)) (hW : sc_W E s H locs S) (hdg : decode cc pc = .ok (.lreturn, 1)) : W p l e R s m args below meth c H locs 0 0 Q (F0 m pc ls [.long v]) := by
  cases hf
  exact hR pc ls H locs hdg hW
theorem sc_retv (hR : sc_Rv p l e R s m args below meth c Q cc E S1) (hf : some S = some S1) (hW : sc_W E s H locs S) (hdg : decode cc pc = .ok (.return_, 1)) : W p l e R s m args below meth c H locs 0 0 Q (F0 m pc ls []) := by
  cases hf
  exact hR pc ls H locs hdg hW
end SCB
/-! a contract out of a walk -/
theorem sc_ofi {l : Launch} {y : MethodName} {ws ws' : List Cond} {rm : Room} {cc : ByteArray} {maxL : Nat} {E : sc_E} {av : List Value} {S S' : sc_M} {r : Int32} (ty : FieldType) (hn : narrow ty (.int r) = .int r) (hE : sc_ok E) (hy : plainName y.cls = true) (hw : ws = Cond.code y cc maxL (some ty) :: ws') (hl : (lg_sl av).length ≤ maxL)
    (body : ∀ p e s m below meth c Q, CallFix p m c cc maxL s av.toArray ws y.cls → sc_Ri p l e rm s m av.toArray below meth c Q cc E S' r → sc_W E s s.heap [] S → ∀ ls, lv_has ls maxL (lv_args 0 av) → W p l e rm s m av.toArray below meth c s.heap [] 0 0 Q (F0 m 0 ls [])) : sc_Ci l y ws rm E av S S' r := by
  intro sz
  refine Met.ofW (cc := cc) (maxL := maxL) (ret := some ty) hy hw ?_
  intro p e s m args below meth c s₁ B hml hv
  obtain ⟨rfl, hsz, hP, hK, hD, hX⟩ := hv
  subst hsz
  have hts := atoms_spec (ws := ws) B.pre
  have hown : s.vm.findClass y.cls = some m.cls := findClass_of_methodNamed B.named
  have hlocks := B.notSynchronized
  have hr := B.returns
  have hx := B.exec
  have hb := B.bytes
  have hl2 := lv_entry av (n := maxL) hl
  rw [lg_entry_eq]
  refine body p e s m below meth c _ ⟨hx, hb, hml, hown, hts⟩ ?_ ⟨hK, hP, hD, va_S.rf, hX⟩ _ hl2
  intro pc ls H locs hdg hW
  exact W.zret hx hb hr hn (fun t ht hw => ⟨⟨r, (), rfl, rfl, by rw [ht]; exact hW.2.1, va_K.moved hw.alike hW.1, hW.2.2.1⟩, hW.2.2.2.1.F ht⟩) hW.2.2.2.1.2.2 hdg
theorem sc_ofl {l : Launch} {y : MethodName} {ws ws' : List Cond} {rm : Room} {cc : ByteArray} {maxL : Nat} {E : sc_E} {av : List Value} {S S' : sc_M} {r : Int64} (hE : sc_ok E) (hy : plainName y.cls = true) (hw : ws = Cond.code y cc maxL (some .long) :: ws') (hl : (lg_sl av).length ≤ maxL)
    (body : ∀ p e s m below meth c Q, CallFix p m c cc maxL s av.toArray ws y.cls → sc_Rl p l e rm s m av.toArray below meth c Q cc E S' r → sc_W E s s.heap [] S → ∀ ls, lv_has ls maxL (lv_args 0 av) → W p l e rm s m av.toArray below meth c s.heap [] 0 0 Q (F0 m 0 ls [])) : sc_Cl l y ws rm E av S S' r := by
  intro sz
  refine Met.ofW (cc := cc) (maxL := maxL) (ret := some .long) hy hw ?_
  intro p e s m args below meth c s₁ B hml hv
  obtain ⟨rfl, hsz, hP, hK, hD, hX⟩ := hv
  subst hsz
  have hts := atoms_spec (ws := ws) B.pre
  have hown : s.vm.findClass y.cls = some m.cls := findClass_of_methodNamed B.named
  have hlocks := B.notSynchronized
  have hr := B.returns
  have hx := B.exec
  have hb := B.bytes
  have hl2 := lv_entry av (n := maxL) hl
  rw [lg_entry_eq]
  refine body p e s m below meth c _ ⟨hx, hb, hml, hown, hts⟩ ?_ ⟨hK, hP, hD, va_S.rf, hX⟩ _ hl2
  intro pc ls H locs hdg hW
  exact W.lret hx hb hr (fun t ht hw => ⟨⟨r, (), rfl, rfl, by rw [ht]; exact hW.2.1, va_K.moved hw.alike hW.1, hW.2.2.1⟩, hW.2.2.2.1.F ht⟩) hW.2.2.2.1.2.2 hdg
theorem sc_ofv {l : Launch} {y : MethodName} {ws ws' : List Cond} {rm : Room} {cc : ByteArray} {maxL : Nat} {E : sc_E} {av : List Value} {S S' : sc_M} (hE : sc_ok E) (hy : plainName y.cls = true) (hw : ws = Cond.code y cc maxL none :: ws') (hl : (lg_sl av).length ≤ maxL)
    (body : ∀ p e s m below meth c Q, CallFix p m c cc maxL s av.toArray ws y.cls → sc_Rv p l e rm s m av.toArray below meth c Q cc E S' → sc_W E s s.heap [] S → ∀ ls, lv_has ls maxL (lv_args 0 av) → W p l e rm s m av.toArray below meth c s.heap [] 0 0 Q (F0 m 0 ls [])) : sc_Cv l y ws rm E av S S' := by
  intro sz
  refine Met.ofW (cc := cc) (maxL := maxL) (ret := none) hy hw ?_
  intro p e s m args below meth c s₁ B hml hv
  obtain ⟨rfl, hsz, hP, hK, hD, hX⟩ := hv
  subst hsz
  have hts := atoms_spec (ws := ws) B.pre
  have hown : s.vm.findClass y.cls = some m.cls := findClass_of_methodNamed B.named
  have hlocks := B.notSynchronized
  have hr := B.returns
  have hx := B.exec
  have hb := B.bytes
  have hl2 := lv_entry av (n := maxL) hl
  rw [lg_entry_eq]
  refine body p e s m below meth c _ ⟨hx, hb, hml, hown, hts⟩ ?_ ⟨hK, hP, hD, va_S.rf, hX⟩ _ hl2
  intro pc ls H locs hdg hW
  exact W.vret hx hb hr (fun t ht hw => ⟨⟨(), rfl, trivial, by rw [ht]; exact hW.2.1, va_K.moved hw.alike hW.1, hW.2.2.1⟩, hW.2.2.2.1.F ht⟩) hW.2.2.2.1.2.2 hdg
