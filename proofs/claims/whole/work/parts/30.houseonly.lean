def sc_wH (h : Nat → Nat) (cy : Nat → ClassId) (S : sc_M) : va_W := [(h 1, .inr (0, sc_fX0 h S)), (h 4, .inl (cy 4, 12, .inl (sc_ga S 4))), (h 5, .inl (cy 5, 12, .inl (sc_ga S 5))), (h 6, .inl (cy 6, 80, .inl (sc_ga S 6))), (h 7, .inl (cy 7, 80, .inl (sc_ga S 7))), (h 8, .inl (cy 8, 960, .inl (sc_ga S 8))), (h 9, .inl (cy 9, 960, .inl (sc_ga S 9)))]
def sc_tyH (cy : Nat → ClassId) : List (ClassId × FieldType) := [(cy 4, .boolean), (cy 5, .int), (cy 6, .int), (cy 7, .int), (cy 8, .int), (cy 9, .int)]
def sc_KH (_ : State) : Prop := True
def sc_AH (h : Nat → Nat) (sz q : Nat) : Prop := (∃ k, k ∈ [1, 4, 5, 6, 7, 8, 9] ∧ q = h k) ∨ sz ≤ q
abbrev sc_EH (dC : Nat → ClassId) (dI : Nat → Nat → Nat) (h : Nat → Nat) (cy : Nat → ClassId) : sc_E := ((dC, dI), sc_wH h cy, sc_tyH cy, sc_KH, sc_AH h)
theorem sc_wH_at (h : Nat → Nat) (cy : Nat → ClassId) (S : sc_M) (k : Nat) (q : Nat × va_E) (hq : (sc_wH h cy S)[k]? = some q) : ∃ j, j ∈ [1, 4, 5, 6, 7, 8, 9] ∧ q.1 = h j := by
  have hm : q.1 ∈ (sc_wH h cy S).map Prod.fst := List.mem_map.mpr ⟨q, List.mem_of_getElem? hq, rfl⟩
  have he : (sc_wH h cy S).map Prod.fst = ([1, 4, 5, 6, 7, 8, 9] : List Nat).map h := rfl
  rw [he] at hm
  obtain ⟨j, hj, e⟩ := List.mem_map.mp hm
  exact ⟨j, hj, e.symm⟩
theorem sc_okH {dC : Nat → ClassId} {dI : Nat → Nat → Nat} {h : Nat → Nat} {cy : Nat → ClassId} : sc_ok (sc_EH dC dI h cy) := ⟨fun _ _ q => Or.inr q, fun _ _ _ a b => b.elim Or.inl (fun q => Or.inr (Nat.le_trans a q)), fun S k q hq _ => Or.inl (sc_wH_at h cy S k q hq), fun _ _ _ _ => trivial, fun _ _ _ _ => trivial⟩
section SCH
variable {p : Program} {l : Launch} {e : Env} {R : Room} {s : State} {m : MethodId} {args : Array Value} {below : List Frame} {meth : Method} {c : Code} {H : Heap} {locs : List Loc} {Q : State → Prop} {cc : ByteArray} {nL pc : Nat} {Ts : List Cond} {own : String} {S S1 : sc_M} {ls : Array Slot} {rest : List Value} {dC : Nat → ClassId} {dI : Nat → Nat → Nat} {h : Nat → Nat} {cy : Nat → ClassId}
theorem sc_getH_X0 {idx : Nat} {v : Value} (C0 : CallFix p m c cc nL s args Ts own) (hW : sc_W (sc_EH dC dI h cy) s H locs S) (hin : ∀ w ∈ wsX00, w ∈ Ts) (k : Nat) (hk : k < 8) (hlink : Cond.fieldLink own idx (TX0 k).1 (TX0 k).2.1 (TX0 k).2.2.1 ∈ Ts) (hv : (sc_fX0 h S)[k]? = some v) (hdg : decode cc pc = .ok (.getfield idx, 3)) (kk : W p l e R s m args below meth c H locs 0 0 Q (F0 m (pc + 3) ls (v :: rest))) : W p l e R s m args below meth c H locs 0 0 Q (F0 m pc ls (.ref (h 1) :: rest)) := sc_get (q0 := 0) (ci := 0) C0 hW hin rfl rfl k hk hlink hv hdg kk
theorem sc_putH_X0_candidates {idx : Nat} {v : Int32} (C0 : CallFix p m c cc nL s args Ts own) (hW : sc_W (sc_EH dC dI h cy) s H locs S) (hin : ∀ w ∈ wsX00, w ∈ Ts) (hlink : Cond.fieldLink own idx (TX0 0).1 (TX0 0).2.1 (TX0 0).2.2.1 ∈ Ts) (hS1 : S1 = sc_mi S 0 v) (hdg : decode cc pc = .ok (.putfield idx, 3)) (kk : ∀ (H : Heap) (locs : List Loc), sc_W (sc_EH dC dI h cy) s H locs S1 → W p l e R s m args below meth c H locs 0 0 Q (F0 m (pc + 3) ls rest)) : W p l e R s m args below meth c H locs 0 0 Q (F0 m pc ls (.int v :: .ref (h 1) :: rest)) := sc_put (q0 := 0) (ci := 0) (ty := .int) (v := .int v) C0 hW hin tyX0 tyX0_ok nmX0 rfl rfl 0 (Nat.le_of_ble_eq_true rfl) hlink rfl (by decide +kernel) rfl rfl (Nat.le_of_ble_eq_true rfl) (by subst hS1; rfl) hdg kk
theorem sc_putH_X0_piles {idx : Nat} {v : Int32} (C0 : CallFix p m c cc nL s args Ts own) (hW : sc_W (sc_EH dC dI h cy) s H locs S) (hin : ∀ w ∈ wsX00, w ∈ Ts) (hlink : Cond.fieldLink own idx (TX0 1).1 (TX0 1).2.1 (TX0 1).2.2.1 ∈ Ts) (hS1 : S1 = sc_mi S 1 v) (hdg : decode cc pc = .ok (.putfield idx, 3)) (kk : ∀ (H : Heap) (locs : List Loc), sc_W (sc_EH dC dI h cy) s H locs S1 → W p l e R s m args below meth c H locs 0 0 Q (F0 m (pc + 3) ls rest)) : W p l e R s m args below meth c H locs 0 0 Q (F0 m pc ls (.int v :: .ref (h 1) :: rest)) := sc_put (q0 := 0) (ci := 0) (ty := .int) (v := .int v) C0 hW hin tyX0 tyX0_ok nmX0 rfl rfl 1 (Nat.le_of_ble_eq_true rfl) hlink rfl (by decide +kernel) rfl rfl (Nat.le_of_ble_eq_true rfl) (by subst hS1; rfl) hdg kk
theorem sc_ldH_4 {i : Int32} (C0 : CallFix p m c cc nL s args Ts own) (hW : sc_W (sc_EH dC dI h cy) s H locs S) (hin : vp_in i 12) (hdg : decode cc pc = .ok (.baload, 1)) (kk : W p l e R s m args below meth c H locs 0 0 Q (F0 m (pc + 1) ls (.int (sc_ga S 4 i.toNatClampNeg) :: rest))) : W p l e R s m args below meth c H locs 0 0 Q (F0 m pc ls (.int i :: .ref (h 4) :: rest)) := sc_zald (q0 := 1) (t0 := 0) C0 hW rfl rfl hin hdg kk
theorem sc_stH_4 {i : Int32} {x : Int32} (C0 : CallFix p m c cc nL s args Ts own) (hW : sc_W (sc_EH dC dI h cy) s H locs S) (hin : vp_in i 12) (hS1 : S1 = sc_mA S 4 (upd (sc_ga S 4) i.toNatClampNeg (vp_nar .boolean x))) (hdg : decode cc pc = .ok (.bastore, 1)) (kk : ∀ (H : Heap) (locs : List Loc), sc_W (sc_EH dC dI h cy) s H locs S1 → W p l e R s m args below meth c H locs 0 0 Q (F0 m (pc + 1) ls rest)) : W p l e R s m args below meth c H locs 0 0 Q (F0 m pc ls (.int x :: .int i :: .ref (h 4) :: rest)) := sc_zast (q0 := 1) (t0 := 0) C0 hW rfl rfl hin (by subst hS1; rfl) hdg kk
theorem sc_ldH_5 {i : Int32} (C0 : CallFix p m c cc nL s args Ts own) (hW : sc_W (sc_EH dC dI h cy) s H locs S) (hin : vp_in i 12) (hdg : decode cc pc = .ok (.iaload, 1)) (kk : W p l e R s m args below meth c H locs 0 0 Q (F0 m (pc + 1) ls (.int (sc_ga S 5 i.toNatClampNeg) :: rest))) : W p l e R s m args below meth c H locs 0 0 Q (F0 m pc ls (.int i :: .ref (h 5) :: rest)) := sc_iald (q0 := 2) (t0 := 1) C0 hW rfl rfl hin hdg kk
theorem sc_stH_5 {i : Int32} {x : Int32} (C0 : CallFix p m c cc nL s args Ts own) (hW : sc_W (sc_EH dC dI h cy) s H locs S) (hin : vp_in i 12) (hS1 : S1 = sc_mA S 5 (upd (sc_ga S 5) i.toNatClampNeg x)) (hdg : decode cc pc = .ok (.iastore, 1)) (kk : ∀ (H : Heap) (locs : List Loc), sc_W (sc_EH dC dI h cy) s H locs S1 → W p l e R s m args below meth c H locs 0 0 Q (F0 m (pc + 1) ls rest)) : W p l e R s m args below meth c H locs 0 0 Q (F0 m pc ls (.int x :: .int i :: .ref (h 5) :: rest)) := sc_iast (q0 := 2) (t0 := 1) C0 hW rfl rfl hin (by subst hS1; rfl) hdg kk
end SCH
/-! ===== SeatCounts$House.open(I)V ===== -/
abbrev rm_H_X0_open : Room := { frames := 0, cells := 0, slots := 0, locals := 0 }
theorem lk_H_X0_open_15 : Cond.fieldLink RX0 15 "SeatCounts$House" "lots" "[I" ∈ wsX0_open := by decide +kernel
theorem lk_H_X0_open_35 : Cond.fieldLink RX0 35 "SeatCounts$House" "candidates" "I" ∈ wsX0_open := by decide +kernel
theorem lk_H_X0_open_39 : Cond.fieldLink RX0 39 "SeatCounts$House" "piles" "I" ∈ wsX0_open := by decide +kernel
theorem lk_H_X0_open_9 : Cond.fieldLink RX0 9 "SeatCounts$House" "withdrawn" "[Z" ∈ wsX0_open := by decide +kernel
theorem ni_H_X0_open_X0 : ∀ w ∈ wsX00, w ∈ wsX0_open := by decide +kernel
section
variable {p : Program} {l : Launch} {e : Env} {s : State} {m : MethodId} {args : Array Value} {below : List Frame} {meth : Method} {c : Code} {Q : State → Prop} {dC : Nat → ClassId} {dI : Nat → Nat → Nat} {h : Nat → Nat} {cy : Nat → ClassId}
set_option maxHeartbeats 4000000 in
set_option maxRecDepth 100000 in
theorem wk_H_X0_open_12 (C0 : CallFix p m c cX0_open 3 s args wsX0_open RX0) {S' : sc_M} (hR : sc_Rv p l e rm_H_X0_open s m args below meth c Q cX0_open (sc_EH dC dI h cy) S') : ∀ n : Nat, ∀ (S : sc_M) (x2 : Int32) (H : Heap) (locs : List Loc) (ls : Array Slot), fn_X0_open_12 n S x2 = some S' → sc_W (sc_EH dC dI h cy) s H locs S → lv_has ls 3 [(0, .ref (h 1)), (2, .int x2)] → W p l e rm_H_X0_open s m args below meth c H locs 0 0 Q (F0 m 12 ls []) := by
  obtain ⟨hx, hb, hml, hown, hts⟩ := id C0
  intro n
  induction n with
  | zero => intro S x2 H locs ls; intro hf; cases hf
  | succ n ih =>
    intro S x2 H locs ls hf hW hl
    rw [fn_X0_open_12] at hf
    refine lv_iload_n hx hb dX0_open_12 rfl (lv_at hl 1 rfl) ?_
    refine lv_bipush (v := (12 : Int32)) hx hb dX0_open_13 (by decide) ?_
    refine lv_icmp_ge (tgt := 38) hx hb dX0_open_15 (by decide) (fun hc => ?_) (fun hc => ?_)
    · replace hf := sc_ip hc hf
      exact sc_retv hR hf hW dX0_open_38
    · replace hf := sc_in hc hf
      refine lv_aload_n hx hb dX0_open_18 rfl (lv_at hl 0 rfl) ?_
      refine sc_getH_X0 C0 hW ni_H_X0_open_X0 2 (Nat.le_of_ble_eq_true rfl) lk_H_X0_open_9 (v := .ref (h 4)) rfl dX0_open_19 ?_
      refine lv_iload_n hx hb dX0_open_22 rfl (lv_at hl 1 rfl) ?_
      refine lv_iconst (v := (0 : Int32)) hx hb dX0_open_23 (by decide) ?_
      obtain ⟨hv, hf⟩ := sc_ck_s hf
      obtain ⟨S24, eS24, hf⟩ := sc_sq_s hf
      refine sc_stH_4 C0 hW hv eS24 dX0_open_24 (fun H locs hW => ?_)
      refine lv_aload_n hx hb dX0_open_25 rfl (lv_at hl 0 rfl) ?_
      refine sc_getH_X0 C0 hW ni_H_X0_open_X0 3 (Nat.le_of_ble_eq_true rfl) lk_H_X0_open_15 (v := .ref (h 5)) rfl dX0_open_26 ?_
      refine lv_iload_n hx hb dX0_open_29 rfl (lv_at hl 1 rfl) ?_
      refine lv_iload_n hx hb dX0_open_30 rfl (lv_at hl 1 rfl) ?_
      obtain ⟨hv, hf⟩ := sc_ck_s hf
      obtain ⟨S31, eS31, hf⟩ := sc_sq_s hf
      refine sc_stH_5 C0 hW hv eS31 dX0_open_31 (fun H locs hW => ?_)
      refine lv_iinc (v := (x2 + 1)) (lv' := [(2, .int (x2 + 1)), (0, .ref (h 1))]) hx hb dX0_open_32 hl (k := 1) rfl rfl (by decide) rfl (fun ls hl => ?_)
      refine lv_goto (tgt := 12) hx hb dX0_open_35 (by decide) ?_
      exact ih _ _ _ _ _ hf hW (lv_sub hl [1, 0] rfl)
set_option maxHeartbeats 4000000 in
set_option maxRecDepth 100000 in
theorem wk_H_X0_open_0 (C0 : CallFix p m c cX0_open 3 s args wsX0_open RX0) {S' : sc_M} (hR : sc_Rv p l e rm_H_X0_open s m args below meth c Q cX0_open (sc_EH dC dI h cy) S') : ∀ (S : sc_M) (x1 : Int32) (H : Heap) (locs : List Loc) (ls : Array Slot), fn_X0_open S x1 = some S' → sc_W (sc_EH dC dI h cy) s H locs S → lv_has ls 3 [(0, .ref (h 1)), (1, .int x1)] → W p l e rm_H_X0_open s m args below meth c H locs 0 0 Q (F0 m 0 ls []) := by
  obtain ⟨hx, hb, hml, hown, hts⟩ := id C0
  intro S x1 H locs ls hf hW hl
  rw [fn_X0_open] at hf
  refine lv_aload_n hx hb dX0_open_0 rfl (lv_at hl 0 rfl) ?_
  refine lv_iload_n hx hb dX0_open_1 rfl (lv_at hl 1 rfl) ?_
  obtain ⟨S2, eS2, hf⟩ := sc_sq_s hf
  refine sc_putH_X0_candidates C0 hW ni_H_X0_open_X0 lk_H_X0_open_35 eS2 dX0_open_2 (fun H locs hW => ?_)
  refine lv_aload_n hx hb dX0_open_5 rfl (lv_at hl 0 rfl) ?_
  refine lv_iconst (v := (0 : Int32)) hx hb dX0_open_6 (by decide) ?_
  obtain ⟨S7, eS7, hf⟩ := sc_sq_s hf
  refine sc_putH_X0_piles C0 hW ni_H_X0_open_X0 lk_H_X0_open_39 eS7 dX0_open_7 (fun H locs hW => ?_)
  refine lv_iconst (v := (0 : Int32)) hx hb dX0_open_10 (by decide) ?_
  refine lv_istore_n (lv' := [(2, .int (0 : Int32)), (0, .ref (h 1)), (1, .int x1)]) hx hb dX0_open_11 rfl hl (by decide) rfl (fun ls hl => ?_)
  exact wk_H_X0_open_12 C0 hR  sc_FU _ _ _ _ _ hf hW (lv_sub hl [1, 0] rfl)
set_option maxRecDepth 100000 in
theorem ct_H_X0_open {S S' : sc_M} {x1 : Int32} (hf : fn_X0_open S x1 = some S') : sc_Cv l yX0_open wsX0_open rm_H_X0_open (sc_EH dC dI h cy) [.ref (h 1), .int x1] S S' := by
  refine sc_ofv (cc := cX0_open) (maxL := 3) sc_okH (by decide) rfl (Nat.le_of_ble_eq_true rfl) ?_
  intro p e s m below meth c Q C0 hR hW ls hl
  exact wk_H_X0_open_0 C0 hR _ _ _ _ _ hf hW hl
end
