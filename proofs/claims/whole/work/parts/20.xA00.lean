/-! ===== SeatCounts$House.open(I)V ===== -/
abbrev rm_X0_open : Room := { frames := 0, cells := 0, slots := 0, locals := 0 }
theorem lk_X0_open_15 : Cond.fieldLink RX0 15 "SeatCounts$House" "lots" "[I" ∈ wsX0_open := by decide +kernel
theorem lk_X0_open_35 : Cond.fieldLink RX0 35 "SeatCounts$House" "candidates" "I" ∈ wsX0_open := by decide +kernel
theorem lk_X0_open_39 : Cond.fieldLink RX0 39 "SeatCounts$House" "piles" "I" ∈ wsX0_open := by decide +kernel
theorem lk_X0_open_9 : Cond.fieldLink RX0 9 "SeatCounts$House" "withdrawn" "[Z" ∈ wsX0_open := by decide +kernel
theorem ni_X0_open_X0 : ∀ w ∈ wsX00, w ∈ wsX0_open := by decide +kernel
noncomputable def fn_X0_open_12 : Nat → sc_M → Int32 → Option (sc_M)
  | 0, _, _ => none
  | n + 1, S, x2 =>
    if (12 : Int32) ≤ x2 then
      some S
    else
      sc_ck x2 12 (sc_sq (sc_mA S 4 (upd (sc_ga S 4) x2.toNatClampNeg (vp_nar .boolean (0 : Int32)))) (fun S24 => sc_ck x2 12 (sc_sq (sc_mA S24 5 (upd (sc_ga S24 5) x2.toNatClampNeg x2)) (fun S31 => fn_X0_open_12 n S31 (x2 + 1)))))
noncomputable def fn_X0_open (S : sc_M) (x1 : Int32) : Option (sc_M) :=
  sc_sq (sc_mi S 0 x1) (fun S2 => sc_sq (sc_mi S2 1 (0 : Int32)) (fun S7 => fn_X0_open_12 sc_FU S7 (0 : Int32)))
section
variable {p : Program} {l : Launch} {e : Env} {s : State} {m : MethodId} {args : Array Value} {below : List Frame} {meth : Method} {c : Code} {Q : State → Prop} {dC : Nat → ClassId} {dI : Nat → Nat → Nat} {h : Nat → Nat} {cy : Nat → ClassId}
set_option maxHeartbeats 4000000 in
set_option maxRecDepth 100000 in
theorem wk_X0_open_12 (C0 : CallFix p m c cX0_open 3 s args wsX0_open RX0) {S' : sc_M} (hR : sc_Rv p l e rm_X0_open s m args below meth c Q cX0_open (sc_EX dC dI h cy) S') : ∀ n : Nat, ∀ (S : sc_M) (x2 : Int32) (H : Heap) (locs : List Loc) (ls : Array Slot), fn_X0_open_12 n S x2 = some S' → sc_W (sc_EX dC dI h cy) s H locs S → lv_has ls 3 [(0, .ref (h 1)), (2, .int x2)] → W p l e rm_X0_open s m args below meth c H locs 0 0 Q (F0 m 12 ls []) := by
  obtain ⟨hx, hb, hml, hown, hts⟩ := id C0
  intro n
  induction n with
  | zero => intro S x2 H locs ls; intro hf; cases hf
  | succ n ih =>
    intro S x2 H locs ls hf hW hl
    rw [fn_X0_open_12] at hf
    refine lv_iload_n hx hb dX0_open_12 rfl (lv_at hl 1 rfl) ?_
    refine lv_bipush (v := (12 : Int32)) hx hb dX0_open_13 (by decide) ?_
    refine lv_icmp_ge (tgt := 38) hx hb dX0_open_15 (by decide) (fun hc => ?_) (fun hc => ?_)
    · replace hf := sc_ip hc hf
      exact sc_retv hR hf hW dX0_open_38
    · replace hf := sc_in hc hf
      refine lv_aload_n hx hb dX0_open_18 rfl (lv_at hl 0 rfl) ?_
      refine sc_getX0 C0 hW ni_X0_open_X0 2 (Nat.le_of_ble_eq_true rfl) lk_X0_open_9 (v := .ref (h 4)) rfl dX0_open_19 ?_
      refine lv_iload_n hx hb dX0_open_22 rfl (lv_at hl 1 rfl) ?_
      refine lv_iconst (v := (0 : Int32)) hx hb dX0_open_23 (by decide) ?_
      obtain ⟨hv, hf⟩ := sc_ck_s hf
      obtain ⟨S24, eS24, hf⟩ := sc_sq_s hf
      refine sc_stX_4 C0 hW hv eS24 dX0_open_24 (fun H locs hW => ?_)
      refine lv_aload_n hx hb dX0_open_25 rfl (lv_at hl 0 rfl) ?_
      refine sc_getX0 C0 hW ni_X0_open_X0 3 (Nat.le_of_ble_eq_true rfl) lk_X0_open_15 (v := .ref (h 5)) rfl dX0_open_26 ?_
      refine lv_iload_n hx hb dX0_open_29 rfl (lv_at hl 1 rfl) ?_
      refine lv_iload_n hx hb dX0_open_30 rfl (lv_at hl 1 rfl) ?_
      obtain ⟨hv, hf⟩ := sc_ck_s hf
      obtain ⟨S31, eS31, hf⟩ := sc_sq_s hf
      refine sc_stX_5 C0 hW hv eS31 dX0_open_31 (fun H locs hW => ?_)
      refine lv_iinc (v := (x2 + 1)) (lv' := [(2, .int (x2 + 1)), (0, .ref (h 1))]) hx hb dX0_open_32 hl (k := 1) rfl rfl (by decide) rfl (fun ls hl => ?_)
      refine lv_goto (tgt := 12) hx hb dX0_open_35 (by decide) ?_
      exact ih _ _ _ _ _ hf hW (lv_sub hl [1, 0] rfl)
set_option maxHeartbeats 4000000 in
set_option maxRecDepth 100000 in
theorem wk_X0_open_0 (C0 : CallFix p m c cX0_open 3 s args wsX0_open RX0) {S' : sc_M} (hR : sc_Rv p l e rm_X0_open s m args below meth c Q cX0_open (sc_EX dC dI h cy) S') : ∀ (S : sc_M) (x1 : Int32) (H : Heap) (locs : List Loc) (ls : Array Slot), fn_X0_open S x1 = some S' → sc_W (sc_EX dC dI h cy) s H locs S → lv_has ls 3 [(0, .ref (h 1)), (1, .int x1)] → W p l e rm_X0_open s m args below meth c H locs 0 0 Q (F0 m 0 ls []) := by
  obtain ⟨hx, hb, hml, hown, hts⟩ := id C0
  intro S x1 H locs ls hf hW hl
  rw [fn_X0_open] at hf
  refine lv_aload_n hx hb dX0_open_0 rfl (lv_at hl 0 rfl) ?_
  refine lv_iload_n hx hb dX0_open_1 rfl (lv_at hl 1 rfl) ?_
  obtain ⟨S2, eS2, hf⟩ := sc_sq_s hf
  refine sc_putX0_candidates C0 hW ni_X0_open_X0 lk_X0_open_35 eS2 dX0_open_2 (fun H locs hW => ?_)
  refine lv_aload_n hx hb dX0_open_5 rfl (lv_at hl 0 rfl) ?_
  refine lv_iconst (v := (0 : Int32)) hx hb dX0_open_6 (by decide) ?_
  obtain ⟨S7, eS7, hf⟩ := sc_sq_s hf
  refine sc_putX0_piles C0 hW ni_X0_open_X0 lk_X0_open_39 eS7 dX0_open_7 (fun H locs hW => ?_)
  refine lv_iconst (v := (0 : Int32)) hx hb dX0_open_10 (by decide) ?_
  refine lv_istore_n (lv' := [(2, .int (0 : Int32)), (0, .ref (h 1)), (1, .int x1)]) hx hb dX0_open_11 rfl hl (by decide) rfl (fun ls hl => ?_)
  exact wk_X0_open_12 C0 hR  sc_FU _ _ _ _ _ hf hW (lv_sub hl [1, 0] rfl)
set_option maxRecDepth 100000 in
theorem ct_X0_open {S S' : sc_M} {x1 : Int32} (hf : fn_X0_open S x1 = some S') : sc_Cv l yX0_open wsX0_open rm_X0_open (sc_EX dC dI h cy) [.ref (h 1), .int x1] S S' := by
  refine sc_ofv (cc := cX0_open) (maxL := 3) sc_okX (by decide) rfl (Nat.le_of_ble_eq_true rfl) ?_
  intro p e s m below meth c Q C0 hR hW ls hl
  exact wk_X0_open_0 C0 hR _ _ _ _ _ hf hW hl
end

/-! ===== SeatCounts$House.hasCandidate(I)Z ===== -/
abbrev rm_X0_hasCandidate : Room := { frames := 0, cells := 0, slots := 0, locals := 0 }
theorem lk_X0_hasCandidate_35 : Cond.fieldLink RX0 35 "SeatCounts$House" "candidates" "I" ∈ wsX0_hasCandidate := by decide +kernel
theorem ni_X0_hasCandidate_X0 : ∀ w ∈ wsX00, w ∈ wsX0_hasCandidate := by decide +kernel
noncomputable def fn_X0_hasCandidate_e (S : sc_M) (x1 : Int32) : Option (Int32 × sc_M) :=
  if x1 < 0 then
    some ((0 : Int32), S)
  else
    if (sc_gi S 0) ≤ x1 then
      some ((0 : Int32), S)
    else
      some ((1 : Int32), S)
noncomputable def fn_X0_hasCandidate (S : sc_M) (x1 : Int32) : Option (Int32 × sc_M) := sc_bz (fn_X0_hasCandidate_e S x1)
section
variable {p : Program} {l : Launch} {e : Env} {s : State} {m : MethodId} {args : Array Value} {below : List Frame} {meth : Method} {c : Code} {Q : State → Prop} {dC : Nat → ClassId} {dI : Nat → Nat → Nat} {h : Nat → Nat} {cy : Nat → ClassId}
set_option maxHeartbeats 4000000 in
set_option maxRecDepth 100000 in
theorem wk_X0_hasCandidate_0 (C0 : CallFix p m c cX0_hasCandidate 2 s args wsX0_hasCandidate RX0) {S' : sc_M} {r : Int32} (hR : sc_Ri p l e rm_X0_hasCandidate s m args below meth c Q cX0_hasCandidate (sc_EX dC dI h cy) S' r) : ∀ (S : sc_M) (x1 : Int32) (H : Heap) (locs : List Loc) (ls : Array Slot), fn_X0_hasCandidate_e S x1 = some (r, S') → sc_W (sc_EX dC dI h cy) s H locs S → lv_has ls 2 [(0, .ref (h 1)), (1, .int x1)] → W p l e rm_X0_hasCandidate s m args below meth c H locs 0 0 Q (F0 m 0 ls []) := by
  obtain ⟨hx, hb, hml, hown, hts⟩ := id C0
  intro S x1 H locs ls hf hW hl
  rw [fn_X0_hasCandidate_e] at hf
  refine lv_iload_n hx hb dX0_hasCandidate_0 rfl (lv_at hl 1 rfl) ?_
  refine lv_if_lt (tgt := 16) hx hb dX0_hasCandidate_1 (by decide) (fun hc => ?_) (fun hc => ?_)
  · replace hf := sc_ip hc hf
    refine lv_iconst (v := (0 : Int32)) hx hb dX0_hasCandidate_16 (by decide) ?_
    exact sc_reti hR hf hW dX0_hasCandidate_17
  · replace hf := sc_in hc hf
    refine lv_iload_n hx hb dX0_hasCandidate_4 rfl (lv_at hl 1 rfl) ?_
    refine lv_aload_n hx hb dX0_hasCandidate_5 rfl (lv_at hl 0 rfl) ?_
    refine sc_getX0 C0 hW ni_X0_hasCandidate_X0 0 (Nat.le_of_ble_eq_true rfl) lk_X0_hasCandidate_35 (v := .int (sc_gi S 0)) rfl dX0_hasCandidate_6 ?_
    refine lv_icmp_ge (tgt := 16) hx hb dX0_hasCandidate_9 (by decide) (fun hc => ?_) (fun hc => ?_)
    · replace hf := sc_ip hc hf
      refine lv_iconst (v := (0 : Int32)) hx hb dX0_hasCandidate_16 (by decide) ?_
      exact sc_reti hR hf hW dX0_hasCandidate_17
    · replace hf := sc_in hc hf
      refine lv_iconst (v := (1 : Int32)) hx hb dX0_hasCandidate_12 (by decide) ?_
      refine lv_goto (tgt := 17) hx hb dX0_hasCandidate_13 (by decide) ?_
      exact sc_reti hR hf hW dX0_hasCandidate_17
set_option maxRecDepth 100000 in
theorem ct_X0_hasCandidate {S S' : sc_M} {r : Int32} {x1 : Int32} (hf : fn_X0_hasCandidate S x1 = some (r, S')) : sc_Ci l yX0_hasCandidate wsX0_hasCandidate rm_X0_hasCandidate (sc_EX dC dI h cy) [.ref (h 1), .int x1] S S' r := by
  obtain ⟨hf, h01⟩ := sc_bz_s hf
  refine sc_ofi (cc := cX0_hasCandidate) (maxL := 2) .boolean (sc_nar01 h01) sc_okX (by decide) rfl (Nat.le_of_ble_eq_true rfl) ?_
  intro p e s m below meth c Q C0 hR hW ls hl
  exact wk_X0_hasCandidate_0 C0 hR _ _ _ _ _ hf hW hl
end

/-! ===== SeatCounts$House.hasPile(I)Z ===== -/
abbrev rm_X0_hasPile : Room := { frames := 0, cells := 0, slots := 0, locals := 0 }
theorem lk_X0_hasPile_39 : Cond.fieldLink RX0 39 "SeatCounts$House" "piles" "I" ∈ wsX0_hasPile := by decide +kernel
theorem ni_X0_hasPile_X0 : ∀ w ∈ wsX00, w ∈ wsX0_hasPile := by decide +kernel
noncomputable def fn_X0_hasPile_e (S : sc_M) (x1 : Int32) : Option (Int32 × sc_M) :=
  if x1 < 0 then
    some ((0 : Int32), S)
  else
    if (sc_gi S 1) ≤ x1 then
      some ((0 : Int32), S)
    else
      some ((1 : Int32), S)
noncomputable def fn_X0_hasPile (S : sc_M) (x1 : Int32) : Option (Int32 × sc_M) := sc_bz (fn_X0_hasPile_e S x1)
section
variable {p : Program} {l : Launch} {e : Env} {s : State} {m : MethodId} {args : Array Value} {below : List Frame} {meth : Method} {c : Code} {Q : State → Prop} {dC : Nat → ClassId} {dI : Nat → Nat → Nat} {h : Nat → Nat} {cy : Nat → ClassId}
set_option maxHeartbeats 4000000 in
set_option maxRecDepth 100000 in
theorem wk_X0_hasPile_0 (C0 : CallFix p m c cX0_hasPile 2 s args wsX0_hasPile RX0) {S' : sc_M} {r : Int32} (hR : sc_Ri p l e rm_X0_hasPile s m args below meth c Q cX0_hasPile (sc_EX dC dI h cy) S' r) : ∀ (S : sc_M) (x1 : Int32) (H : Heap) (locs : List Loc) (ls : Array Slot), fn_X0_hasPile_e S x1 = some (r, S') → sc_W (sc_EX dC dI h cy) s H locs S → lv_has ls 2 [(0, .ref (h 1)), (1, .int x1)] → W p l e rm_X0_hasPile s m args below meth c H locs 0 0 Q (F0 m 0 ls []) := by
  obtain ⟨hx, hb, hml, hown, hts⟩ := id C0
  intro S x1 H locs ls hf hW hl
  rw [fn_X0_hasPile_e] at hf
  refine lv_iload_n hx hb dX0_hasPile_0 rfl (lv_at hl 1 rfl) ?_
  refine lv_if_lt (tgt := 16) hx hb dX0_hasPile_1 (by decide) (fun hc => ?_) (fun hc => ?_)
  · replace hf := sc_ip hc hf
    refine lv_iconst (v := (0 : Int32)) hx hb dX0_hasPile_16 (by decide) ?_
    exact sc_reti hR hf hW dX0_hasPile_17
  · replace hf := sc_in hc hf
    refine lv_iload_n hx hb dX0_hasPile_4 rfl (lv_at hl 1 rfl) ?_
    refine lv_aload_n hx hb dX0_hasPile_5 rfl (lv_at hl 0 rfl) ?_
    refine sc_getX0 C0 hW ni_X0_hasPile_X0 1 (Nat.le_of_ble_eq_true rfl) lk_X0_hasPile_39 (v := .int (sc_gi S 1)) rfl dX0_hasPile_6 ?_
    refine lv_icmp_ge (tgt := 16) hx hb dX0_hasPile_9 (by decide) (fun hc => ?_) (fun hc => ?_)
    · replace hf := sc_ip hc hf
      refine lv_iconst (v := (0 : Int32)) hx hb dX0_hasPile_16 (by decide) ?_
      exact sc_reti hR hf hW dX0_hasPile_17
    · replace hf := sc_in hc hf
      refine lv_iconst (v := (1 : Int32)) hx hb dX0_hasPile_12 (by decide) ?_
      refine lv_goto (tgt := 17) hx hb dX0_hasPile_13 (by decide) ?_
      exact sc_reti hR hf hW dX0_hasPile_17
set_option maxRecDepth 100000 in
theorem ct_X0_hasPile {S S' : sc_M} {r : Int32} {x1 : Int32} (hf : fn_X0_hasPile S x1 = some (r, S')) : sc_Ci l yX0_hasPile wsX0_hasPile rm_X0_hasPile (sc_EX dC dI h cy) [.ref (h 1), .int x1] S S' r := by
  obtain ⟨hf, h01⟩ := sc_bz_s hf
  refine sc_ofi (cc := cX0_hasPile) (maxL := 2) .boolean (sc_nar01 h01) sc_okX (by decide) rfl (Nat.le_of_ble_eq_true rfl) ?_
  intro p e s m below meth c Q C0 hR hW ls hl
  exact wk_X0_hasPile_0 C0 hR _ _ _ _ _ hf hW hl
end

/-! ===== SeatCounts$House.withdrawnOnes()I ===== -/
abbrev rm_X0_withdrawnOnes : Room := { frames := 0, cells := 0, slots := 0, locals := 0 }
theorem lk_X0_withdrawnOnes_35 : Cond.fieldLink RX0 35 "SeatCounts$House" "candidates" "I" ∈ wsX0_withdrawnOnes := by decide +kernel
theorem lk_X0_withdrawnOnes_9 : Cond.fieldLink RX0 9 "SeatCounts$House" "withdrawn" "[Z" ∈ wsX0_withdrawnOnes := by decide +kernel
theorem ni_X0_withdrawnOnes_X0 : ∀ w ∈ wsX00, w ∈ wsX0_withdrawnOnes := by decide +kernel
noncomputable def fn_X0_withdrawnOnes_4 : Nat → sc_M → Int32 → Int32 → Option (Int32 × sc_M)
  | 0, _, _, _ => none
  | n + 1, S, x1, x2 =>
    if (sc_gi S 0) ≤ x2 then
      some (x1, S)
    else
      sc_ck x2 12 (if (sc_ga S 4 x2.toNatClampNeg) = 0 then
        fn_X0_withdrawnOnes_4 n S x1 (x2 + 1)
      else
        fn_X0_withdrawnOnes_4 n S (x1 + 1) (x2 + 1))
noncomputable def fn_X0_withdrawnOnes (S : sc_M) : Option (Int32 × sc_M) :=
  fn_X0_withdrawnOnes_4 sc_FU S (0 : Int32) (0 : Int32)
section
variable {p : Program} {l : Launch} {e : Env} {s : State} {m : MethodId} {args : Array Value} {below : List Frame} {meth : Method} {c : Code} {Q : State → Prop} {dC : Nat → ClassId} {dI : Nat → Nat → Nat} {h : Nat → Nat} {cy : Nat → ClassId}
set_option maxHeartbeats 4000000 in
set_option maxRecDepth 100000 in
theorem wk_X0_withdrawnOnes_4 (C0 : CallFix p m c cX0_withdrawnOnes 3 s args wsX0_withdrawnOnes RX0) {S' : sc_M} {r : Int32} (hR : sc_Ri p l e rm_X0_withdrawnOnes s m args below meth c Q cX0_withdrawnOnes (sc_EX dC dI h cy) S' r) : ∀ n : Nat, ∀ (S : sc_M) (x1 : Int32) (x2 : Int32) (H : Heap) (locs : List Loc) (ls : Array Slot), fn_X0_withdrawnOnes_4 n S x1 x2 = some (r, S') → sc_W (sc_EX dC dI h cy) s H locs S → lv_has ls 3 [(0, .ref (h 1)), (1, .int x1), (2, .int x2)] → W p l e rm_X0_withdrawnOnes s m args below meth c H locs 0 0 Q (F0 m 4 ls []) := by
  obtain ⟨hx, hb, hml, hown, hts⟩ := id C0
  intro n
  induction n with
  | zero => intro S x1 x2 H locs ls; intro hf; cases hf
  | succ n ih =>
    intro S x1 x2 H locs ls hf hW hl
    rw [fn_X0_withdrawnOnes_4] at hf
    refine lv_iload_n hx hb dX0_withdrawnOnes_4 rfl (lv_at hl 2 rfl) ?_
    refine lv_aload_n hx hb dX0_withdrawnOnes_5 rfl (lv_at hl 0 rfl) ?_
    refine sc_getX0 C0 hW ni_X0_withdrawnOnes_X0 0 (Nat.le_of_ble_eq_true rfl) lk_X0_withdrawnOnes_35 (v := .int (sc_gi S 0)) rfl dX0_withdrawnOnes_6 ?_
    refine lv_icmp_ge (tgt := 30) hx hb dX0_withdrawnOnes_9 (by decide) (fun hc => ?_) (fun hc => ?_)
    · replace hf := sc_ip hc hf
      refine lv_iload_n hx hb dX0_withdrawnOnes_30 rfl (lv_at hl 1 rfl) ?_
      exact sc_reti hR hf hW dX0_withdrawnOnes_31
    · replace hf := sc_in hc hf
      refine lv_aload_n hx hb dX0_withdrawnOnes_12 rfl (lv_at hl 0 rfl) ?_
      refine sc_getX0 C0 hW ni_X0_withdrawnOnes_X0 2 (Nat.le_of_ble_eq_true rfl) lk_X0_withdrawnOnes_9 (v := .ref (h 4)) rfl dX0_withdrawnOnes_13 ?_
      refine lv_iload_n hx hb dX0_withdrawnOnes_16 rfl (lv_at hl 2 rfl) ?_
      obtain ⟨hv, hf⟩ := sc_ck_s hf
      refine sc_ldX_4 C0 hW hv dX0_withdrawnOnes_17 ?_
      refine lv_if_eq (tgt := 24) hx hb dX0_withdrawnOnes_18 (by decide) (fun hc => ?_) (fun hc => ?_)
      · replace hf := sc_ip hc hf
        refine lv_iinc (v := (x2 + 1)) (lv' := [(2, .int (x2 + 1)), (0, .ref (h 1)), (1, .int x1)]) hx hb dX0_withdrawnOnes_24 hl (k := 2) rfl rfl (by decide) rfl (fun ls hl => ?_)
        refine lv_goto (tgt := 4) hx hb dX0_withdrawnOnes_27 (by decide) ?_
        exact ih _ _ _ _ _ _ hf hW (lv_sub hl [1, 2, 0] rfl)
      · replace hf := sc_in hc hf
        refine lv_iinc (v := (x1 + 1)) (lv' := [(1, .int (x1 + 1)), (0, .ref (h 1)), (2, .int x2)]) hx hb dX0_withdrawnOnes_21 hl (k := 1) rfl rfl (by decide) rfl (fun ls hl => ?_)
        refine lv_iinc (v := (x2 + 1)) (lv' := [(2, .int (x2 + 1)), (1, .int (x1 + 1)), (0, .ref (h 1))]) hx hb dX0_withdrawnOnes_24 hl (k := 2) rfl rfl (by decide) rfl (fun ls hl => ?_)
        refine lv_goto (tgt := 4) hx hb dX0_withdrawnOnes_27 (by decide) ?_
        exact ih _ _ _ _ _ _ hf hW (lv_sub hl [2, 1, 0] rfl)
set_option maxHeartbeats 4000000 in
set_option maxRecDepth 100000 in
theorem wk_X0_withdrawnOnes_0 (C0 : CallFix p m c cX0_withdrawnOnes 3 s args wsX0_withdrawnOnes RX0) {S' : sc_M} {r : Int32} (hR : sc_Ri p l e rm_X0_withdrawnOnes s m args below meth c Q cX0_withdrawnOnes (sc_EX dC dI h cy) S' r) : ∀ (S : sc_M) (H : Heap) (locs : List Loc) (ls : Array Slot), fn_X0_withdrawnOnes S = some (r, S') → sc_W (sc_EX dC dI h cy) s H locs S → lv_has ls 3 [(0, .ref (h 1))] → W p l e rm_X0_withdrawnOnes s m args below meth c H locs 0 0 Q (F0 m 0 ls []) := by
  obtain ⟨hx, hb, hml, hown, hts⟩ := id C0
  intro S H locs ls hf hW hl
  rw [fn_X0_withdrawnOnes] at hf
  refine lv_iconst (v := (0 : Int32)) hx hb dX0_withdrawnOnes_0 (by decide) ?_
  refine lv_istore_n (lv' := [(1, .int (0 : Int32)), (0, .ref (h 1))]) hx hb dX0_withdrawnOnes_1 rfl hl (by decide) rfl (fun ls hl => ?_)
  refine lv_iconst (v := (0 : Int32)) hx hb dX0_withdrawnOnes_2 (by decide) ?_
  refine lv_istore_n (lv' := [(2, .int (0 : Int32)), (1, .int (0 : Int32)), (0, .ref (h 1))]) hx hb dX0_withdrawnOnes_3 rfl hl (by decide) rfl (fun ls hl => ?_)
  exact wk_X0_withdrawnOnes_4 C0 hR  sc_FU _ _ _ _ _ _ hf hW (lv_sub hl [2, 1, 0] rfl)
set_option maxRecDepth 100000 in
theorem ct_X0_withdrawnOnes {S S' : sc_M} {r : Int32} (hf : fn_X0_withdrawnOnes S = some (r, S')) : sc_Ci l yX0_withdrawnOnes wsX0_withdrawnOnes rm_X0_withdrawnOnes (sc_EX dC dI h cy) [.ref (h 1)] S S' r := by
  refine sc_ofi (cc := cX0_withdrawnOnes) (maxL := 3) .int rfl sc_okX (by decide) rfl (Nat.le_of_ble_eq_true rfl) ?_
  intro p e s m below meth c Q C0 hR hW ls hl
  exact wk_X0_withdrawnOnes_0 C0 hR _ _ _ _ hf hW hl
end

/-! ===== SeatCounts$House.swapLots(II)I ===== -/
abbrev rm_X0_swapLots : Room := { frames := 0, cells := 0, slots := 0, locals := 0 }
theorem lk_X0_swapLots_15 : Cond.fieldLink RX0 15 "SeatCounts$House" "lots" "[I" ∈ wsX0_swapLots := by decide +kernel
theorem lk_X0_swapLots_35 : Cond.fieldLink RX0 35 "SeatCounts$House" "candidates" "I" ∈ wsX0_swapLots := by decide +kernel
theorem ni_X0_swapLots_X0 : ∀ w ∈ wsX00, w ∈ wsX0_swapLots := by decide +kernel
noncomputable def fn_X0_swapLots_10 : Nat → sc_M → Int32 → Int32 → Int32 → Int32 → Option (Int32 × sc_M)
  | 0, _, _, _, _, _ => none
  | n + 1, S, x1, x2, x3, x4 =>
    if (sc_gi S 0) ≤ x4 then
      sc_ck x1 12 (sc_sq (sc_mA S 5 (upd (sc_ga S 5) x1.toNatClampNeg x2)) (fun S50 => some (x3, S50)))
    else
      sc_ck x4 12 (if (sc_ga S 5 x4.toNatClampNeg) = x2 then
        sc_ck x4 12 (sc_sq (sc_mA S 5 (upd (sc_ga S 5) x4.toNatClampNeg x3)) (fun S37 => fn_X0_swapLots_10 n S37 x1 x2 x3 (x4 + 1)))
      else
        fn_X0_swapLots_10 n S x1 x2 x3 (x4 + 1))
noncomputable def fn_X0_swapLots (S : sc_M) (x1 : Int32) (x2 : Int32) : Option (Int32 × sc_M) :=
  sc_ck x1 12 (sc_sq ((sc_ga S 5 x1.toNatClampNeg)) (fun y6 => fn_X0_swapLots_10 sc_FU S x1 x2 y6 (0 : Int32)))
section
variable {p : Program} {l : Launch} {e : Env} {s : State} {m : MethodId} {args : Array Value} {below : List Frame} {meth : Method} {c : Code} {Q : State → Prop} {dC : Nat → ClassId} {dI : Nat → Nat → Nat} {h : Nat → Nat} {cy : Nat → ClassId}
set_option maxHeartbeats 4000000 in
set_option maxRecDepth 100000 in
theorem wk_X0_swapLots_10 (C0 : CallFix p m c cX0_swapLots 5 s args wsX0_swapLots RX0) {S' : sc_M} {r : Int32} (hR : sc_Ri p l e rm_X0_swapLots s m args below meth c Q cX0_swapLots (sc_EX dC dI h cy) S' r) : ∀ n : Nat, ∀ (S : sc_M) (x1 : Int32) (x2 : Int32) (x3 : Int32) (x4 : Int32) (H : Heap) (locs : List Loc) (ls : Array Slot), fn_X0_swapLots_10 n S x1 x2 x3 x4 = some (r, S') → sc_W (sc_EX dC dI h cy) s H locs S → lv_has ls 5 [(0, .ref (h 1)), (1, .int x1), (2, .int x2), (3, .int x3), (4, .int x4)] → W p l e rm_X0_swapLots s m args below meth c H locs 0 0 Q (F0 m 10 ls []) := by
  obtain ⟨hx, hb, hml, hown, hts⟩ := id C0
  intro n
  induction n with
  | zero => intro S x1 x2 x3 x4 H locs ls; intro hf; cases hf
  | succ n ih =>
    intro S x1 x2 x3 x4 H locs ls hf hW hl
    rw [fn_X0_swapLots_10] at hf
    refine lv_iload hx hb dX0_swapLots_10 (lv_at hl 4 rfl) ?_
    refine lv_aload_n hx hb dX0_swapLots_12 rfl (lv_at hl 0 rfl) ?_
    refine sc_getX0 C0 hW ni_X0_swapLots_X0 0 (Nat.le_of_ble_eq_true rfl) lk_X0_swapLots_35 (v := .int (sc_gi S 0)) rfl dX0_swapLots_13 ?_
    refine lv_icmp_ge (tgt := 44) hx hb dX0_swapLots_16 (by decide) (fun hc => ?_) (fun hc => ?_)
    · replace hf := sc_ip hc hf
      refine lv_aload_n hx hb dX0_swapLots_44 rfl (lv_at hl 0 rfl) ?_
      refine sc_getX0 C0 hW ni_X0_swapLots_X0 3 (Nat.le_of_ble_eq_true rfl) lk_X0_swapLots_15 (v := .ref (h 5)) rfl dX0_swapLots_45 ?_
      refine lv_iload_n hx hb dX0_swapLots_48 rfl (lv_at hl 1 rfl) ?_
      refine lv_iload_n hx hb dX0_swapLots_49 rfl (lv_at hl 2 rfl) ?_
      obtain ⟨hv, hf⟩ := sc_ck_s hf
      obtain ⟨S50, eS50, hf⟩ := sc_sq_s hf
      refine sc_stX_5 C0 hW hv eS50 dX0_swapLots_50 (fun H locs hW => ?_)
      refine lv_iload_n hx hb dX0_swapLots_51 rfl (lv_at hl 3 rfl) ?_
      exact sc_reti hR hf hW dX0_swapLots_52
    · replace hf := sc_in hc hf
      refine lv_aload_n hx hb dX0_swapLots_19 rfl (lv_at hl 0 rfl) ?_
      refine sc_getX0 C0 hW ni_X0_swapLots_X0 3 (Nat.le_of_ble_eq_true rfl) lk_X0_swapLots_15 (v := .ref (h 5)) rfl dX0_swapLots_20 ?_
      refine lv_iload hx hb dX0_swapLots_23 (lv_at hl 4 rfl) ?_
      obtain ⟨hv, hf⟩ := sc_ck_s hf
      refine sc_ldX_5 C0 hW hv dX0_swapLots_25 ?_
      refine lv_iload_n hx hb dX0_swapLots_26 rfl (lv_at hl 2 rfl) ?_
      refine lv_icmp_ne (tgt := 38) hx hb dX0_swapLots_27 (by decide) (fun hc => ?_) (fun hc => ?_)
      · replace hf := sc_in hc hf
        refine lv_iinc (v := (x4 + 1)) (lv' := [(4, .int (x4 + 1)), (0, .ref (h 1)), (1, .int x1), (2, .int x2), (3, .int x3)]) hx hb dX0_swapLots_38 hl (k := 4) rfl rfl (by decide) rfl (fun ls hl => ?_)
        refine lv_goto (tgt := 10) hx hb dX0_swapLots_41 (by decide) ?_
        exact ih _ _ _ _ _ _ _ _ hf hW (lv_sub hl [1, 2, 3, 4, 0] rfl)
      · replace hf := sc_ip hc hf
        refine lv_aload_n hx hb dX0_swapLots_30 rfl (lv_at hl 0 rfl) ?_
        refine sc_getX0 C0 hW ni_X0_swapLots_X0 3 (Nat.le_of_ble_eq_true rfl) lk_X0_swapLots_15 (v := .ref (h 5)) rfl dX0_swapLots_31 ?_
        refine lv_iload hx hb dX0_swapLots_34 (lv_at hl 4 rfl) ?_
        refine lv_iload_n hx hb dX0_swapLots_36 rfl (lv_at hl 3 rfl) ?_
        obtain ⟨hv, hf⟩ := sc_ck_s hf
        obtain ⟨S37, eS37, hf⟩ := sc_sq_s hf
        refine sc_stX_5 C0 hW hv eS37 dX0_swapLots_37 (fun H locs hW => ?_)
        refine lv_iinc (v := (x4 + 1)) (lv' := [(4, .int (x4 + 1)), (0, .ref (h 1)), (1, .int x1), (2, .int x2), (3, .int x3)]) hx hb dX0_swapLots_38 hl (k := 4) rfl rfl (by decide) rfl (fun ls hl => ?_)
        refine lv_goto (tgt := 10) hx hb dX0_swapLots_41 (by decide) ?_
        exact ih _ _ _ _ _ _ _ _ hf hW (lv_sub hl [1, 2, 3, 4, 0] rfl)
set_option maxHeartbeats 4000000 in
set_option maxRecDepth 100000 in
theorem wk_X0_swapLots_0 (C0 : CallFix p m c cX0_swapLots 5 s args wsX0_swapLots RX0) {S' : sc_M} {r : Int32} (hR : sc_Ri p l e rm_X0_swapLots s m args below meth c Q cX0_swapLots (sc_EX dC dI h cy) S' r) : ∀ (S : sc_M) (x1 : Int32) (x2 : Int32) (H : Heap) (locs : List Loc) (ls : Array Slot), fn_X0_swapLots S x1 x2 = some (r, S') → sc_W (sc_EX dC dI h cy) s H locs S → lv_has ls 5 [(0, .ref (h 1)), (1, .int x1), (2, .int x2)] → W p l e rm_X0_swapLots s m args below meth c H locs 0 0 Q (F0 m 0 ls []) := by
  obtain ⟨hx, hb, hml, hown, hts⟩ := id C0
  intro S x1 x2 H locs ls hf hW hl
  rw [fn_X0_swapLots] at hf
  refine lv_aload_n hx hb dX0_swapLots_0 rfl (lv_at hl 0 rfl) ?_
  refine sc_getX0 C0 hW ni_X0_swapLots_X0 3 (Nat.le_of_ble_eq_true rfl) lk_X0_swapLots_15 (v := .ref (h 5)) rfl dX0_swapLots_1 ?_
  refine lv_iload_n hx hb dX0_swapLots_4 rfl (lv_at hl 1 rfl) ?_
  obtain ⟨hv, hf⟩ := sc_ck_s hf
  refine sc_ldX_5 C0 hW hv dX0_swapLots_5 ?_
  obtain ⟨y6, ey6, hf⟩ := sc_sq_s hf
  refine sc_topi ey6 ?_
  refine lv_istore_n (lv' := [(3, .int y6), (0, .ref (h 1)), (1, .int x1), (2, .int x2)]) hx hb dX0_swapLots_6 rfl hl (by decide) rfl (fun ls hl => ?_)
  refine lv_iconst (v := (0 : Int32)) hx hb dX0_swapLots_7 (by decide) ?_
  refine lv_istore (lv' := [(4, .int (0 : Int32)), (3, .int y6), (0, .ref (h 1)), (1, .int x1), (2, .int x2)]) hx hb dX0_swapLots_8 hl (by decide) rfl (fun ls hl => ?_)
  exact wk_X0_swapLots_10 C0 hR  sc_FU _ _ _ _ _ _ _ _ hf hW (lv_sub hl [2, 3, 4, 1, 0] rfl)
set_option maxRecDepth 100000 in
theorem ct_X0_swapLots {S S' : sc_M} {r : Int32} {x1 : Int32} {x2 : Int32} (hf : fn_X0_swapLots S x1 x2 = some (r, S')) : sc_Ci l yX0_swapLots wsX0_swapLots rm_X0_swapLots (sc_EX dC dI h cy) [.ref (h 1), .int x1, .int x2] S S' r := by
  refine sc_ofi (cc := cX0_swapLots) (maxL := 5) .int rfl sc_okX (by decide) rfl (Nat.le_of_ble_eq_true rfl) ?_
  intro p e s m below meth c Q C0 hR hW ls hl
  exact wk_X0_swapLots_0 C0 hR _ _ _ _ _ _ hf hW hl
end

/-! ===== SeatCounts$House.digitOf(JI)I ===== -/
abbrev rm_X0_digitOf : Room := { frames := 0, cells := 0, slots := 0, locals := 0 }
theorem lk_X0_digitOf_61 : Cond.constantLong RX0 61 (15) ∈ wsX0_digitOf := by decide +kernel
noncomputable def fn_X0_digitOf (S : sc_M) (x0 : Int64) (x2 : Int32) : Option (Int32 × sc_M) :=
  some (((x0.toUInt64 >>> (((4 : Int32) * x2).toInt64.toUInt64 &&& Int64.toUInt64 63)).toInt64 &&& (15 : Int64)).toInt32, S)
section
variable {p : Program} {l : Launch} {e : Env} {s : State} {m : MethodId} {args : Array Value} {below : List Frame} {meth : Method} {c : Code} {Q : State → Prop} {dC : Nat → ClassId} {dI : Nat → Nat → Nat} {h : Nat → Nat} {cy : Nat → ClassId}
set_option maxHeartbeats 4000000 in
set_option maxRecDepth 100000 in
theorem wk_X0_digitOf_0 (C0 : CallFix p m c cX0_digitOf 3 s args wsX0_digitOf RX0) {S' : sc_M} {r : Int32} (hR : sc_Ri p l e rm_X0_digitOf s m args below meth c Q cX0_digitOf (sc_EX dC dI h cy) S' r) : ∀ (S : sc_M) (x0 : Int64) (x2 : Int32) (H : Heap) (locs : List Loc) (ls : Array Slot), fn_X0_digitOf S x0 x2 = some (r, S') → sc_W (sc_EX dC dI h cy) s H locs S → lv_has ls 3 [(0, .long x0), (2, .int x2)] → W p l e rm_X0_digitOf s m args below meth c H locs 0 0 Q (F0 m 0 ls []) := by
  obtain ⟨hx, hb, hml, hown, hts⟩ := id C0
  intro S x0 x2 H locs ls hf hW hl
  rw [fn_X0_digitOf] at hf
  refine lv_lload_n hx hb dX0_digitOf_0 rfl (lv_at hl 0 rfl) ?_
  refine lv_iconst (v := (4 : Int32)) hx hb dX0_digitOf_1 (by decide) ?_
  refine lv_iload_n hx hb dX0_digitOf_2 rfl (lv_at hl 1 rfl) ?_
  refine lv_imul hx hb dX0_digitOf_3 ?_
  refine lv_lushr hx hb dX0_digitOf_4 rfl ?_
  refine lv_ldc2 (v := (15 : Int64)) hx hb hown (hts _ lk_X0_digitOf_61) dX0_digitOf_5 ?_
  refine lv_land hx hb dX0_digitOf_8 ?_
  refine lv_l2i hx hb dX0_digitOf_9 rfl ?_
  exact sc_reti hR hf hW dX0_digitOf_10
set_option maxRecDepth 100000 in
theorem ct_X0_digitOf {S S' : sc_M} {r : Int32} {x0 : Int64} {x2 : Int32} (hf : fn_X0_digitOf S x0 x2 = some (r, S')) : sc_Ci l yX0_digitOf wsX0_digitOf rm_X0_digitOf (sc_EX dC dI h cy) [.long x0, .int x2] S S' r := by
  refine sc_ofi (cc := cX0_digitOf) (maxL := 3) .int rfl sc_okX (by decide) rfl (Nat.le_of_ble_eq_true rfl) ?_
  intro p e s m below meth c Q C0 hR hW ls hl
  exact wk_X0_digitOf_0 C0 hR _ _ _ _ _ _ hf hW hl
end

/-! ===== SeatCounts$House.preferencesTold(J)I ===== -/
abbrev rm_X0_preferencesTold : Room := { frames := 1, cells := 0, slots := 0, locals := 22 }
theorem lk_X0_preferencesTold_35 : Cond.fieldLink RX0 35 "SeatCounts$House" "candidates" "I" ∈ wsX0_preferencesTold := by decide +kernel
theorem ni_X0_preferencesTold_X0 : ∀ w ∈ wsX00, w ∈ wsX0_preferencesTold := by decide +kernel
noncomputable def fn_X0_preferencesTold_42 (k8 : sc_M → Int64 → Int32 → Int32 → Int32 → Option (Int32 × sc_M)) (S : sc_M) (x1 : Int64) (x3 : Int32) (x4 : Int32) (x5 : Int32) (x6 : Int32) (z0 : Int32) : Option (Int32 × sc_M) :=
  if z0 = 0 then
    if (sc_gi S 0) < x6 then
      some ((0 : Int32), S)
    else
      if (x4 &&& ((1 : Int32) <<< (x6 &&& 31))) = 0 then
        sc_sq ((x4 ||| ((1 : Int32) <<< (x6 &&& 31)))) (fun y77 => k8 S x1 (x3 + 1) y77 (x5 + 1))
      else
        some ((0 : Int32), S)
  else
    some ((0 : Int32), S)
noncomputable def fn_X0_preferencesTold_8 : Nat → sc_M → Int64 → Int32 → Int32 → Int32 → Option (Int32 × sc_M)
  | 0, _, _, _, _, _ => none
  | n + 1, S, x1, x3, x4, x5 =>
    if (16 : Int32) ≤ x5 then
      some (x3, S)
    else
      sc_cl (fn_X0_digitOf S x1 x5) (fun r18 S18 => if r18 = 0 then
        fn_X0_preferencesTold_8 n S18 x1 x3 x4 (x5 + 1)
      else
        if x5 ≤ x3 then
          fn_X0_preferencesTold_42 (fn_X0_preferencesTold_8 n) S18 x1 x3 x4 x5 r18 (0 : Int32)
        else
          fn_X0_preferencesTold_42 (fn_X0_preferencesTold_8 n) S18 x1 x3 x4 x5 r18 (1 : Int32))
noncomputable def fn_X0_preferencesTold (S : sc_M) (x1 : Int64) : Option (Int32 × sc_M) :=
  fn_X0_preferencesTold_8 sc_FU S x1 (0 : Int32) (0 : Int32) (0 : Int32)
section
variable {p : Program} {l : Launch} {e : Env} {s : State} {m : MethodId} {args : Array Value} {below : List Frame} {meth : Method} {c : Code} {Q : State → Prop} {dC : Nat → ClassId} {dI : Nat → Nat → Nat} {h : Nat → Nat} {cy : Nat → ClassId}
set_option maxHeartbeats 4000000 in
set_option maxRecDepth 100000 in
theorem wk_X0_preferencesTold_42 (C0 : CallFix p m c cX0_preferencesTold 8 s args wsX0_preferencesTold RX0) {S' : sc_M} {r : Int32} (hR : sc_Ri p l e rm_X0_preferencesTold s m args below meth c Q cX0_preferencesTold (sc_EX dC dI h cy) S' r) {k8 : sc_M → Int64 → Int32 → Int32 → Int32 → Option (Int32 × sc_M)} (hk8 : ∀ (S : sc_M) (x1 : Int64) (x3 : Int32) (x4 : Int32) (x5 : Int32) (H : Heap) (locs : List Loc) (ls : Array Slot), k8 S x1 x3 x4 x5 = some (r, S') → sc_W (sc_EX dC dI h cy) s H locs S → lv_has ls 8 [(0, .ref (h 1)), (1, .long x1), (3, .int x3), (4, .int x4), (5, .int x5)] → W p l e rm_X0_preferencesTold s m args below meth c H locs 0 0 Q (F0 m 8 ls [])) : ∀ (S : sc_M) (x1 : Int64) (x3 : Int32) (x4 : Int32) (x5 : Int32) (x6 : Int32) (z0 : Int32) (H : Heap) (locs : List Loc) (ls : Array Slot), fn_X0_preferencesTold_42 k8 S x1 x3 x4 x5 x6 z0 = some (r, S') → sc_W (sc_EX dC dI h cy) s H locs S → lv_has ls 8 [(0, .ref (h 1)), (1, .long x1), (3, .int x3), (4, .int x4), (5, .int x5), (6, .int x6)] → W p l e rm_X0_preferencesTold s m args below meth c H locs 0 0 Q (F0 m 42 ls [.int z0]) := by
  obtain ⟨hx, hb, hml, hown, hts⟩ := id C0
  intro S x1 x3 x4 x5 x6 z0 H locs ls hf hW hl
  rw [fn_X0_preferencesTold_42] at hf
  refine lv_istore (lv' := [(7, .int z0), (0, .ref (h 1)), (1, .long x1), (3, .int x3), (4, .int x4), (5, .int x5), (6, .int x6)]) hx hb dX0_preferencesTold_42 hl (by decide) rfl (fun ls hl => ?_)
  refine lv_iload hx hb dX0_preferencesTold_44 (lv_at hl 0 rfl) ?_
  refine lv_if_ne (tgt := 68) hx hb dX0_preferencesTold_46 (by decide) (fun hc => ?_) (fun hc => ?_)
  · replace hf := sc_in hc hf
    refine lv_iconst (v := (0 : Int32)) hx hb dX0_preferencesTold_68 (by decide) ?_
    exact sc_reti hR hf hW dX0_preferencesTold_69
  · replace hf := sc_ip hc hf
    refine lv_iload hx hb dX0_preferencesTold_49 (lv_at hl 6 rfl) ?_
    refine lv_aload_n hx hb dX0_preferencesTold_51 rfl (lv_at hl 1 rfl) ?_
    refine sc_getX0 C0 hW ni_X0_preferencesTold_X0 0 (Nat.le_of_ble_eq_true rfl) lk_X0_preferencesTold_35 (v := .int (sc_gi S 0)) rfl dX0_preferencesTold_52 ?_
    refine lv_icmp_gt (tgt := 68) hx hb dX0_preferencesTold_55 (by decide) (fun hc => ?_) (fun hc => ?_)
    · replace hf := sc_ip hc hf
      refine lv_iconst (v := (0 : Int32)) hx hb dX0_preferencesTold_68 (by decide) ?_
      exact sc_reti hR hf hW dX0_preferencesTold_69
    · replace hf := sc_in hc hf
      refine lv_iload hx hb dX0_preferencesTold_58 (lv_at hl 4 rfl) ?_
      refine lv_iconst (v := (1 : Int32)) hx hb dX0_preferencesTold_60 (by decide) ?_
      refine lv_iload hx hb dX0_preferencesTold_61 (lv_at hl 6 rfl) ?_
      refine lv_ishl hx hb dX0_preferencesTold_63 ?_
      refine lv_iand hx hb dX0_preferencesTold_64 ?_
      refine lv_if_eq (tgt := 70) hx hb dX0_preferencesTold_65 (by decide) (fun hc => ?_) (fun hc => ?_)
      · replace hf := sc_ip hc hf
        refine lv_iload hx hb dX0_preferencesTold_70 (lv_at hl 4 rfl) ?_
        refine lv_iconst (v := (1 : Int32)) hx hb dX0_preferencesTold_72 (by decide) ?_
        refine lv_iload hx hb dX0_preferencesTold_73 (lv_at hl 6 rfl) ?_
        refine lv_ishl hx hb dX0_preferencesTold_75 ?_
        refine lv_ior hx hb dX0_preferencesTold_76 ?_
        obtain ⟨y77, ey77, hf⟩ := sc_sq_s hf
        refine sc_topi ey77 ?_
        refine lv_istore (lv' := [(4, .int y77), (7, .int z0), (0, .ref (h 1)), (1, .long x1), (3, .int x3), (5, .int x5), (6, .int x6)]) hx hb dX0_preferencesTold_77 hl (by decide) rfl (fun ls hl => ?_)
        refine lv_iinc (v := (x3 + 1)) (lv' := [(3, .int (x3 + 1)), (4, .int y77), (7, .int z0), (0, .ref (h 1)), (1, .long x1), (5, .int x5), (6, .int x6)]) hx hb dX0_preferencesTold_79 hl (k := 4) rfl rfl (by decide) rfl (fun ls hl => ?_)
        refine lv_iinc (v := (x5 + 1)) (lv' := [(5, .int (x5 + 1)), (3, .int (x3 + 1)), (4, .int y77), (7, .int z0), (0, .ref (h 1)), (1, .long x1), (6, .int x6)]) hx hb dX0_preferencesTold_82 hl (k := 5) rfl rfl (by decide) rfl (fun ls hl => ?_)
        refine lv_goto (tgt := 8) hx hb dX0_preferencesTold_85 (by decide) ?_
        exact hk8 _ _ _ _ _ _ _ _ hf hW (lv_sub hl [4, 5, 1, 2, 0] rfl)
      · replace hf := sc_in hc hf
        refine lv_iconst (v := (0 : Int32)) hx hb dX0_preferencesTold_68 (by decide) ?_
        exact sc_reti hR hf hW dX0_preferencesTold_69
set_option maxHeartbeats 4000000 in
set_option maxRecDepth 100000 in
theorem wk_X0_preferencesTold_8 (C0 : CallFix p m c cX0_preferencesTold 8 s args wsX0_preferencesTold RX0) {S' : sc_M} {r : Int32} (hR : sc_Ri p l e rm_X0_preferencesTold s m args below meth c Q cX0_preferencesTold (sc_EX dC dI h cy) S' r) : ∀ n : Nat, ∀ (S : sc_M) (x1 : Int64) (x3 : Int32) (x4 : Int32) (x5 : Int32) (H : Heap) (locs : List Loc) (ls : Array Slot), fn_X0_preferencesTold_8 n S x1 x3 x4 x5 = some (r, S') → sc_W (sc_EX dC dI h cy) s H locs S → lv_has ls 8 [(0, .ref (h 1)), (1, .long x1), (3, .int x3), (4, .int x4), (5, .int x5)] → W p l e rm_X0_preferencesTold s m args below meth c H locs 0 0 Q (F0 m 8 ls []) := by
  obtain ⟨hx, hb, hml, hown, hts⟩ := id C0
  intro n
  induction n with
  | zero => intro S x1 x3 x4 x5 H locs ls; intro hf; cases hf
  | succ n ih =>
    intro S x1 x3 x4 x5 H locs ls hf hW hl
    rw [fn_X0_preferencesTold_8] at hf
    refine lv_iload hx hb dX0_preferencesTold_8 (lv_at hl 4 rfl) ?_
    refine lv_bipush (v := (16 : Int32)) hx hb dX0_preferencesTold_10 (by decide) ?_
    refine lv_icmp_ge (tgt := 88) hx hb dX0_preferencesTold_12 (by decide) (fun hc => ?_) (fun hc => ?_)
    · replace hf := sc_ip hc hf
      refine lv_iload_n hx hb dX0_preferencesTold_88 rfl (lv_at hl 2 rfl) ?_
      exact sc_reti hR hf hW dX0_preferencesTold_89
    · replace hf := sc_in hc hf
      refine lv_lload_n hx hb dX0_preferencesTold_15 rfl (lv_at hl 1 rfl) ?_
      refine lv_iload hx hb dX0_preferencesTold_16 (lv_at hl 4 rfl) ?_
      obtain ⟨r18, S18, hc, hf⟩ := sc_cl_s hf
      refine sc_callSi (As := [.long x1, .int x5]) (rest := []) sc_okX C0 hW (ct_X0_digitOf hc) (va_cwS 2 hts gX0_preferencesTold_X0_digitOf rfl rfl rfl (by decide +kernel) ⟨Nat.le_of_ble_eq_true rfl, Nat.le_of_ble_eq_true rfl⟩) rfl hl.1 rfl (Nat.le_of_ble_eq_true rfl) dX0_preferencesTold_18 (fun H locs hW => ?_)
      refine lv_istore (lv' := [(6, .int r18), (0, .ref (h 1)), (1, .long x1), (3, .int x3), (4, .int x4), (5, .int x5)]) hx hb dX0_preferencesTold_21 hl (by decide) rfl (fun ls hl => ?_)
      refine lv_iload hx hb dX0_preferencesTold_23 (lv_at hl 0 rfl) ?_
      refine lv_if_ne (tgt := 31) hx hb dX0_preferencesTold_25 (by decide) (fun hc => ?_) (fun hc => ?_)
      · replace hf := sc_in hc hf
        refine lv_iload_n hx hb dX0_preferencesTold_31 rfl (lv_at hl 3 rfl) ?_
        refine lv_iload hx hb dX0_preferencesTold_32 (lv_at hl 5 rfl) ?_
        refine lv_icmp_ge (tgt := 41) hx hb dX0_preferencesTold_34 (by decide) (fun hc => ?_) (fun hc => ?_)
        · replace hf := sc_ip hc hf
          refine lv_iconst (v := (0 : Int32)) hx hb dX0_preferencesTold_41 (by decide) ?_
          exact wk_X0_preferencesTold_42 C0 hR ih _ _ _ _ _ _ _ _ _ _ hf hW (lv_sub hl [1, 2, 3, 4, 5, 0] rfl)
        · replace hf := sc_in hc hf
          refine lv_iconst (v := (1 : Int32)) hx hb dX0_preferencesTold_37 (by decide) ?_
          refine lv_goto (tgt := 42) hx hb dX0_preferencesTold_38 (by decide) ?_
          exact wk_X0_preferencesTold_42 C0 hR ih _ _ _ _ _ _ _ _ _ _ hf hW (lv_sub hl [1, 2, 3, 4, 5, 0] rfl)
      · replace hf := sc_ip hc hf
        refine lv_goto (tgt := 82) hx hb dX0_preferencesTold_28 (by decide) ?_
        refine lv_iinc (v := (x5 + 1)) (lv' := [(5, .int (x5 + 1)), (6, .int r18), (0, .ref (h 1)), (1, .long x1), (3, .int x3), (4, .int x4)]) hx hb dX0_preferencesTold_82 hl (k := 5) rfl rfl (by decide) rfl (fun ls hl => ?_)
        refine lv_goto (tgt := 8) hx hb dX0_preferencesTold_85 (by decide) ?_
        exact ih _ _ _ _ _ _ _ _ hf hW (lv_sub hl [2, 3, 4, 5, 0] rfl)
set_option maxHeartbeats 4000000 in
set_option maxRecDepth 100000 in
theorem wk_X0_preferencesTold_0 (C0 : CallFix p m c cX0_preferencesTold 8 s args wsX0_preferencesTold RX0) {S' : sc_M} {r : Int32} (hR : sc_Ri p l e rm_X0_preferencesTold s m args below meth c Q cX0_preferencesTold (sc_EX dC dI h cy) S' r) : ∀ (S : sc_M) (x1 : Int64) (H : Heap) (locs : List Loc) (ls : Array Slot), fn_X0_preferencesTold S x1 = some (r, S') → sc_W (sc_EX dC dI h cy) s H locs S → lv_has ls 8 [(0, .ref (h 1)), (1, .long x1)] → W p l e rm_X0_preferencesTold s m args below meth c H locs 0 0 Q (F0 m 0 ls []) := by
  obtain ⟨hx, hb, hml, hown, hts⟩ := id C0
  intro S x1 H locs ls hf hW hl
  rw [fn_X0_preferencesTold] at hf
  refine lv_iconst (v := (0 : Int32)) hx hb dX0_preferencesTold_0 (by decide) ?_
  refine lv_istore_n (lv' := [(3, .int (0 : Int32)), (0, .ref (h 1)), (1, .long x1)]) hx hb dX0_preferencesTold_1 rfl hl (by decide) rfl (fun ls hl => ?_)
  refine lv_iconst (v := (0 : Int32)) hx hb dX0_preferencesTold_2 (by decide) ?_
  refine lv_istore (lv' := [(4, .int (0 : Int32)), (3, .int (0 : Int32)), (0, .ref (h 1)), (1, .long x1)]) hx hb dX0_preferencesTold_3 hl (by decide) rfl (fun ls hl => ?_)
  refine lv_iconst (v := (0 : Int32)) hx hb dX0_preferencesTold_5 (by decide) ?_
  refine lv_istore (lv' := [(5, .int (0 : Int32)), (4, .int (0 : Int32)), (3, .int (0 : Int32)), (0, .ref (h 1)), (1, .long x1)]) hx hb dX0_preferencesTold_6 hl (by decide) rfl (fun ls hl => ?_)
  exact wk_X0_preferencesTold_8 C0 hR  sc_FU _ _ _ _ _ _ _ _ hf hW (lv_sub hl [3, 4, 2, 1, 0] rfl)
set_option maxRecDepth 100000 in
theorem ct_X0_preferencesTold {S S' : sc_M} {r : Int32} {x1 : Int64} (hf : fn_X0_preferencesTold S x1 = some (r, S')) : sc_Ci l yX0_preferencesTold wsX0_preferencesTold rm_X0_preferencesTold (sc_EX dC dI h cy) [.ref (h 1), .long x1] S S' r := by
  refine sc_ofi (cc := cX0_preferencesTold) (maxL := 8) .int rfl sc_okX (by decide) rfl (Nat.le_of_ble_eq_true rfl) ?_
  intro p e s m below meth c Q C0 hR hW ls hl
  exact wk_X0_preferencesTold_0 C0 hR _ _ _ _ _ hf hW hl
end

/-! ===== SeatCounts$House.addPile(JII)I ===== -/
abbrev rm_X0_addPile : Room := { frames := 1, cells := 0, slots := 0, locals := 22 }
theorem lk_X0_addPile_19 : Cond.fieldLink RX0 19 "SeatCounts$House" "papers" "[I" ∈ wsX0_addPile := by decide +kernel
theorem lk_X0_addPile_22 : Cond.fieldLink RX0 22 "SeatCounts$House" "lengths" "[I" ∈ wsX0_addPile := by decide +kernel
theorem lk_X0_addPile_25 : Cond.fieldLink RX0 25 "SeatCounts$House" "preferences" "[I" ∈ wsX0_addPile := by decide +kernel
theorem lk_X0_addPile_28 : Cond.fieldLink RX0 28 "SeatCounts$House" "ranks" "[I" ∈ wsX0_addPile := by decide +kernel
theorem lk_X0_addPile_39 : Cond.fieldLink RX0 39 "SeatCounts$House" "piles" "I" ∈ wsX0_addPile := by decide +kernel
theorem ni_X0_addPile_X0 : ∀ w ∈ wsX00, w ∈ wsX0_addPile := by decide +kernel
noncomputable def fn_X0_addPile_44 : Nat → sc_M → Int64 → Int32 → Int32 → Int32 → Int32 → Int32 → Option (Int32 × sc_M)
  | 0, _, _, _, _, _, _, _ => none
  | n + 1, S, x1, x3, x4, x5, x6, x7 =>
    if x3 ≤ x7 then
      sc_ck x5 80 (sc_sq (sc_mA S 7 (upd (sc_ga S 7) x5.toNatClampNeg x3)) (fun S97 => sc_ck x5 80 (sc_sq (sc_mA S97 6 (upd (sc_ga S97 6) x5.toNatClampNeg x4)) (fun S106 => sc_sq (sc_mi S106 1 ((sc_gi S106 1) + (1 : Int32))) (fun S114 => some (x5, S114))))))
    else
      sc_cl (fn_X0_digitOf S x1 x7) (fun r53 S53 => sc_sq ((r53 - (1 : Int32))) (fun y58 => sc_ck (x6 + x7) 960 (sc_sq (sc_mA S53 8 (upd (sc_ga S53 8) (x6 + x7).toNatClampNeg y58)) (fun S71 => sc_ck (x6 + y58) 960 (sc_sq (sc_mA S71 9 (upd (sc_ga S71 9) (x6 + y58).toNatClampNeg x7)) (fun S83 => fn_X0_addPile_44 n S83 x1 x3 x4 x5 x6 (x7 + 1)))))))
noncomputable def fn_X0_addPile_16 : Nat → sc_M → Int64 → Int32 → Int32 → Int32 → Int32 → Int32 → Option (Int32 × sc_M)
  | 0, _, _, _, _, _, _, _ => none
  | n + 1, S, x1, x3, x4, x5, x6, x7 =>
    if (12 : Int32) ≤ x7 then
      fn_X0_addPile_44 sc_FU S x1 x3 x4 x5 x6 (0 : Int32)
    else
      sc_ck (x6 + x7) 960 (sc_sq (sc_mA S 9 (upd (sc_ga S 9) (x6 + x7).toNatClampNeg (12 : Int32))) (fun S34 => fn_X0_addPile_16 n S34 x1 x3 x4 x5 x6 (x7 + 1)))
noncomputable def fn_X0_addPile (S : sc_M) (x1 : Int64) (x3 : Int32) (x4 : Int32) : Option (Int32 × sc_M) :=
  sc_sq ((sc_gi S 1)) (fun y4 => sc_sq ((y4 * (12 : Int32))) (fun y11 => fn_X0_addPile_16 sc_FU S x1 x3 x4 y4 y11 (0 : Int32)))
section
variable {p : Program} {l : Launch} {e : Env} {s : State} {m : MethodId} {args : Array Value} {below : List Frame} {meth : Method} {c : Code} {Q : State → Prop} {dC : Nat → ClassId} {dI : Nat → Nat → Nat} {h : Nat → Nat} {cy : Nat → ClassId}
set_option maxHeartbeats 4000000 in
set_option maxRecDepth 100000 in
theorem wk_X0_addPile_44 (C0 : CallFix p m c cX0_addPile 9 s args wsX0_addPile RX0) {S' : sc_M} {r : Int32} (hR : sc_Ri p l e rm_X0_addPile s m args below meth c Q cX0_addPile (sc_EX dC dI h cy) S' r) : ∀ n : Nat, ∀ (S : sc_M) (x1 : Int64) (x3 : Int32) (x4 : Int32) (x5 : Int32) (x6 : Int32) (x7 : Int32) (H : Heap) (locs : List Loc) (ls : Array Slot), fn_X0_addPile_44 n S x1 x3 x4 x5 x6 x7 = some (r, S') → sc_W (sc_EX dC dI h cy) s H locs S → lv_has ls 9 [(0, .ref (h 1)), (1, .long x1), (3, .int x3), (4, .int x4), (5, .int x5), (6, .int x6), (7, .int x7)] → W p l e rm_X0_addPile s m args below meth c H locs 0 0 Q (F0 m 44 ls []) := by
  obtain ⟨hx, hb, hml, hown, hts⟩ := id C0
  intro n
  induction n with
  | zero => intro S x1 x3 x4 x5 x6 x7 H locs ls; intro hf; cases hf
  | succ n ih =>
    intro S x1 x3 x4 x5 x6 x7 H locs ls hf hW hl
    rw [fn_X0_addPile_44] at hf
    refine lv_iload hx hb dX0_addPile_44 (lv_at hl 6 rfl) ?_
    refine lv_iload_n hx hb dX0_addPile_46 rfl (lv_at hl 2 rfl) ?_
    refine lv_icmp_ge (tgt := 90) hx hb dX0_addPile_47 (by decide) (fun hc => ?_) (fun hc => ?_)
    · replace hf := sc_ip hc hf
      refine lv_aload_n hx hb dX0_addPile_90 rfl (lv_at hl 0 rfl) ?_
      refine sc_getX0 C0 hW ni_X0_addPile_X0 5 (Nat.le_of_ble_eq_true rfl) lk_X0_addPile_22 (v := .ref (h 7)) rfl dX0_addPile_91 ?_
      refine lv_iload hx hb dX0_addPile_94 (lv_at hl 4 rfl) ?_
      refine lv_iload_n hx hb dX0_addPile_96 rfl (lv_at hl 2 rfl) ?_
      obtain ⟨hv, hf⟩ := sc_ck_s hf
      obtain ⟨S97, eS97, hf⟩ := sc_sq_s hf
      refine sc_stX_7 C0 hW hv eS97 dX0_addPile_97 (fun H locs hW => ?_)
      refine lv_aload_n hx hb dX0_addPile_98 rfl (lv_at hl 0 rfl) ?_
      refine sc_getX0 C0 hW ni_X0_addPile_X0 4 (Nat.le_of_ble_eq_true rfl) lk_X0_addPile_19 (v := .ref (h 6)) rfl dX0_addPile_99 ?_
      refine lv_iload hx hb dX0_addPile_102 (lv_at hl 4 rfl) ?_
      refine lv_iload hx hb dX0_addPile_104 (lv_at hl 3 rfl) ?_
      obtain ⟨hv, hf⟩ := sc_ck_s hf
      obtain ⟨S106, eS106, hf⟩ := sc_sq_s hf
      refine sc_stX_6 C0 hW hv eS106 dX0_addPile_106 (fun H locs hW => ?_)
      refine lv_aload_n hx hb dX0_addPile_107 rfl (lv_at hl 0 rfl) ?_
      refine lv_dup hx hb dX0_addPile_108 rfl ?_
      refine sc_getX0 C0 hW ni_X0_addPile_X0 1 (Nat.le_of_ble_eq_true rfl) lk_X0_addPile_39 (v := .int (sc_gi S106 1)) rfl dX0_addPile_109 ?_
      refine lv_iconst (v := (1 : Int32)) hx hb dX0_addPile_112 (by decide) ?_
      refine lv_iadd hx hb dX0_addPile_113 ?_
      obtain ⟨S114, eS114, hf⟩ := sc_sq_s hf
      refine sc_putX0_piles C0 hW ni_X0_addPile_X0 lk_X0_addPile_39 eS114 dX0_addPile_114 (fun H locs hW => ?_)
      refine lv_iload hx hb dX0_addPile_117 (lv_at hl 4 rfl) ?_
      exact sc_reti hR hf hW dX0_addPile_119
    · replace hf := sc_in hc hf
      refine lv_lload_n hx hb dX0_addPile_50 rfl (lv_at hl 1 rfl) ?_
      refine lv_iload hx hb dX0_addPile_51 (lv_at hl 6 rfl) ?_
      obtain ⟨r53, S53, hc, hf⟩ := sc_cl_s hf
      refine sc_callSi (As := [.long x1, .int x7]) (rest := []) sc_okX C0 hW (ct_X0_digitOf hc) (va_cwS 2 hts gX0_addPile_X0_digitOf rfl rfl rfl (by decide +kernel) ⟨Nat.le_of_ble_eq_true rfl, Nat.le_of_ble_eq_true rfl⟩) rfl hl.1 rfl (Nat.le_of_ble_eq_true rfl) dX0_addPile_53 (fun H locs hW => ?_)
      refine lv_iconst (v := (1 : Int32)) hx hb dX0_addPile_56 (by decide) ?_
      refine lv_isub hx hb dX0_addPile_57 ?_
      obtain ⟨y58, ey58, hf⟩ := sc_sq_s hf
      refine sc_topi ey58 ?_
      refine lv_istore (lv' := [(8, .int y58), (0, .ref (h 1)), (1, .long x1), (3, .int x3), (4, .int x4), (5, .int x5), (6, .int x6), (7, .int x7)]) hx hb dX0_addPile_58 hl (by decide) rfl (fun ls hl => ?_)
      refine lv_aload_n hx hb dX0_addPile_60 rfl (lv_at hl 1 rfl) ?_
      refine sc_getX0 C0 hW ni_X0_addPile_X0 6 (Nat.le_of_ble_eq_true rfl) lk_X0_addPile_25 (v := .ref (h 8)) rfl dX0_addPile_61 ?_
      refine lv_iload hx hb dX0_addPile_64 (lv_at hl 6 rfl) ?_
      refine lv_iload hx hb dX0_addPile_66 (lv_at hl 7 rfl) ?_
      refine lv_iadd hx hb dX0_addPile_68 ?_
      refine lv_iload hx hb dX0_addPile_69 (lv_at hl 0 rfl) ?_
      obtain ⟨hv, hf⟩ := sc_ck_s hf
      obtain ⟨S71, eS71, hf⟩ := sc_sq_s hf
      refine sc_stX_8 C0 hW hv eS71 dX0_addPile_71 (fun H locs hW => ?_)
      refine lv_aload_n hx hb dX0_addPile_72 rfl (lv_at hl 1 rfl) ?_
      refine sc_getX0 C0 hW ni_X0_addPile_X0 7 (Nat.le_of_ble_eq_true rfl) lk_X0_addPile_28 (v := .ref (h 9)) rfl dX0_addPile_73 ?_
      refine lv_iload hx hb dX0_addPile_76 (lv_at hl 6 rfl) ?_
      refine lv_iload hx hb dX0_addPile_78 (lv_at hl 0 rfl) ?_
      refine lv_iadd hx hb dX0_addPile_80 ?_
      refine lv_iload hx hb dX0_addPile_81 (lv_at hl 7 rfl) ?_
      obtain ⟨hv, hf⟩ := sc_ck_s hf
      obtain ⟨S83, eS83, hf⟩ := sc_sq_s hf
      refine sc_stX_9 C0 hW hv eS83 dX0_addPile_83 (fun H locs hW => ?_)
      refine lv_iinc (v := (x7 + 1)) (lv' := [(7, .int (x7 + 1)), (8, .int y58), (0, .ref (h 1)), (1, .long x1), (3, .int x3), (4, .int x4), (5, .int x5), (6, .int x6)]) hx hb dX0_addPile_84 hl (k := 7) rfl rfl (by decide) rfl (fun ls hl => ?_)
      refine lv_goto (tgt := 44) hx hb dX0_addPile_87 (by decide) ?_
      exact ih _ _ _ _ _ _ _ _ _ _ hf hW (lv_sub hl [2, 3, 4, 5, 6, 7, 0] rfl)
set_option maxHeartbeats 4000000 in
set_option maxRecDepth 100000 in
theorem wk_X0_addPile_16 (C0 : CallFix p m c cX0_addPile 9 s args wsX0_addPile RX0) {S' : sc_M} {r : Int32} (hR : sc_Ri p l e rm_X0_addPile s m args below meth c Q cX0_addPile (sc_EX dC dI h cy) S' r) : ∀ n : Nat, ∀ (S : sc_M) (x1 : Int64) (x3 : Int32) (x4 : Int32) (x5 : Int32) (x6 : Int32) (x7 : Int32) (H : Heap) (locs : List Loc) (ls : Array Slot), fn_X0_addPile_16 n S x1 x3 x4 x5 x6 x7 = some (r, S') → sc_W (sc_EX dC dI h cy) s H locs S → lv_has ls 9 [(0, .ref (h 1)), (1, .long x1), (3, .int x3), (4, .int x4), (5, .int x5), (6, .int x6), (7, .int x7)] → W p l e rm_X0_addPile s m args below meth c H locs 0 0 Q (F0 m 16 ls []) := by
  obtain ⟨hx, hb, hml, hown, hts⟩ := id C0
  intro n
  induction n with
  | zero => intro S x1 x3 x4 x5 x6 x7 H locs ls; intro hf; cases hf
  | succ n ih =>
    intro S x1 x3 x4 x5 x6 x7 H locs ls hf hW hl
    rw [fn_X0_addPile_16] at hf
    refine lv_iload hx hb dX0_addPile_16 (lv_at hl 6 rfl) ?_
    refine lv_bipush (v := (12 : Int32)) hx hb dX0_addPile_18 (by decide) ?_
    refine lv_icmp_ge (tgt := 41) hx hb dX0_addPile_20 (by decide) (fun hc => ?_) (fun hc => ?_)
    · replace hf := sc_ip hc hf
      refine lv_iconst (v := (0 : Int32)) hx hb dX0_addPile_41 (by decide) ?_
      refine lv_istore (lv' := [(7, .int (0 : Int32)), (0, .ref (h 1)), (1, .long x1), (3, .int x3), (4, .int x4), (5, .int x5), (6, .int x6)]) hx hb dX0_addPile_42 hl (by decide) rfl (fun ls hl => ?_)
      exact wk_X0_addPile_44 C0 hR  sc_FU _ _ _ _ _ _ _ _ _ _ hf hW (lv_sub hl [1, 2, 3, 4, 5, 6, 0] rfl)
    · replace hf := sc_in hc hf
      refine lv_aload_n hx hb dX0_addPile_23 rfl (lv_at hl 0 rfl) ?_
      refine sc_getX0 C0 hW ni_X0_addPile_X0 7 (Nat.le_of_ble_eq_true rfl) lk_X0_addPile_28 (v := .ref (h 9)) rfl dX0_addPile_24 ?_
      refine lv_iload hx hb dX0_addPile_27 (lv_at hl 5 rfl) ?_
      refine lv_iload hx hb dX0_addPile_29 (lv_at hl 6 rfl) ?_
      refine lv_iadd hx hb dX0_addPile_31 ?_
      refine lv_bipush (v := (12 : Int32)) hx hb dX0_addPile_32 (by decide) ?_
      obtain ⟨hv, hf⟩ := sc_ck_s hf
      obtain ⟨S34, eS34, hf⟩ := sc_sq_s hf
      refine sc_stX_9 C0 hW hv eS34 dX0_addPile_34 (fun H locs hW => ?_)
      refine lv_iinc (v := (x7 + 1)) (lv' := [(7, .int (x7 + 1)), (0, .ref (h 1)), (1, .long x1), (3, .int x3), (4, .int x4), (5, .int x5), (6, .int x6)]) hx hb dX0_addPile_35 hl (k := 6) rfl rfl (by decide) rfl (fun ls hl => ?_)
      refine lv_goto (tgt := 16) hx hb dX0_addPile_38 (by decide) ?_
      exact ih _ _ _ _ _ _ _ _ _ _ hf hW (lv_sub hl [1, 2, 3, 4, 5, 6, 0] rfl)
set_option maxHeartbeats 4000000 in
set_option maxRecDepth 100000 in
theorem wk_X0_addPile_0 (C0 : CallFix p m c cX0_addPile 9 s args wsX0_addPile RX0) {S' : sc_M} {r : Int32} (hR : sc_Ri p l e rm_X0_addPile s m args below meth c Q cX0_addPile (sc_EX dC dI h cy) S' r) : ∀ (S : sc_M) (x1 : Int64) (x3 : Int32) (x4 : Int32) (H : Heap) (locs : List Loc) (ls : Array Slot), fn_X0_addPile S x1 x3 x4 = some (r, S') → sc_W (sc_EX dC dI h cy) s H locs S → lv_has ls 9 [(0, .ref (h 1)), (1, .long x1), (3, .int x3), (4, .int x4)] → W p l e rm_X0_addPile s m args below meth c H locs 0 0 Q (F0 m 0 ls []) := by
  obtain ⟨hx, hb, hml, hown, hts⟩ := id C0
  intro S x1 x3 x4 H locs ls hf hW hl
  rw [fn_X0_addPile] at hf
  refine lv_aload_n hx hb dX0_addPile_0 rfl (lv_at hl 0 rfl) ?_
  refine sc_getX0 C0 hW ni_X0_addPile_X0 1 (Nat.le_of_ble_eq_true rfl) lk_X0_addPile_39 (v := .int (sc_gi S 1)) rfl dX0_addPile_1 ?_
  obtain ⟨y4, ey4, hf⟩ := sc_sq_s hf
  refine sc_topi ey4 ?_
  refine lv_istore (lv' := [(5, .int y4), (0, .ref (h 1)), (1, .long x1), (3, .int x3), (4, .int x4)]) hx hb dX0_addPile_4 hl (by decide) rfl (fun ls hl => ?_)
  refine lv_iload hx hb dX0_addPile_6 (lv_at hl 0 rfl) ?_
  refine lv_bipush (v := (12 : Int32)) hx hb dX0_addPile_8 (by decide) ?_
  refine lv_imul hx hb dX0_addPile_10 ?_
  obtain ⟨y11, ey11, hf⟩ := sc_sq_s hf
  refine sc_topi ey11 ?_
  refine lv_istore (lv' := [(6, .int y11), (5, .int y4), (0, .ref (h 1)), (1, .long x1), (3, .int x3), (4, .int x4)]) hx hb dX0_addPile_11 hl (by decide) rfl (fun ls hl => ?_)
  refine lv_iconst (v := (0 : Int32)) hx hb dX0_addPile_13 (by decide) ?_
  refine lv_istore (lv' := [(7, .int (0 : Int32)), (6, .int y11), (5, .int y4), (0, .ref (h 1)), (1, .long x1), (3, .int x3), (4, .int x4)]) hx hb dX0_addPile_14 hl (by decide) rfl (fun ls hl => ?_)
  exact wk_X0_addPile_16 C0 hR  sc_FU _ _ _ _ _ _ _ _ _ _ hf hW (lv_sub hl [3, 4, 5, 6, 2, 1, 0] rfl)
set_option maxRecDepth 100000 in
theorem ct_X0_addPile {S S' : sc_M} {r : Int32} {x1 : Int64} {x3 : Int32} {x4 : Int32} (hf : fn_X0_addPile S x1 x3 x4 = some (r, S')) : sc_Ci l yX0_addPile wsX0_addPile rm_X0_addPile (sc_EX dC dI h cy) [.ref (h 1), .long x1, .int x3, .int x4] S S' r := by
  refine sc_ofi (cc := cX0_addPile) (maxL := 9) .int rfl sc_okX (by decide) rfl (Nat.le_of_ble_eq_true rfl) ?_
  intro p e s m below meth c Q C0 hR hW ls hl
  exact wk_X0_addPile_0 C0 hR _ _ _ _ _ _ _ hf hW hl
end

/-! ===== SeatCounts$House.preferenceAt(II)I ===== -/
abbrev rm_X0_preferenceAt : Room := { frames := 0, cells := 0, slots := 0, locals := 0 }
theorem lk_X0_preferenceAt_22 : Cond.fieldLink RX0 22 "SeatCounts$House" "lengths" "[I" ∈ wsX0_preferenceAt := by decide +kernel
theorem lk_X0_preferenceAt_25 : Cond.fieldLink RX0 25 "SeatCounts$House" "preferences" "[I" ∈ wsX0_preferenceAt := by decide +kernel
theorem ni_X0_preferenceAt_X0 : ∀ w ∈ wsX00, w ∈ wsX0_preferenceAt := by decide +kernel
noncomputable def fn_X0_preferenceAt (S : sc_M) (x1 : Int32) (x2 : Int32) : Option (Int32 × sc_M) :=
  sc_ck x1 80 (if (sc_ga S 7 x1.toNatClampNeg) ≤ x2 then
    some ((-9 : Int32), S)
  else
    sc_ck ((x1 * (12 : Int32)) + x2) 960 (some ((sc_ga S 8 ((x1 * (12 : Int32)) + x2).toNatClampNeg), S)))
section
variable {p : Program} {l : Launch} {e : Env} {s : State} {m : MethodId} {args : Array Value} {below : List Frame} {meth : Method} {c : Code} {Q : State → Prop} {dC : Nat → ClassId} {dI : Nat → Nat → Nat} {h : Nat → Nat} {cy : Nat → ClassId}
set_option maxHeartbeats 4000000 in
set_option maxRecDepth 100000 in
theorem wk_X0_preferenceAt_0 (C0 : CallFix p m c cX0_preferenceAt 3 s args wsX0_preferenceAt RX0) {S' : sc_M} {r : Int32} (hR : sc_Ri p l e rm_X0_preferenceAt s m args below meth c Q cX0_preferenceAt (sc_EX dC dI h cy) S' r) : ∀ (S : sc_M) (x1 : Int32) (x2 : Int32) (H : Heap) (locs : List Loc) (ls : Array Slot), fn_X0_preferenceAt S x1 x2 = some (r, S') → sc_W (sc_EX dC dI h cy) s H locs S → lv_has ls 3 [(0, .ref (h 1)), (1, .int x1), (2, .int x2)] → W p l e rm_X0_preferenceAt s m args below meth c H locs 0 0 Q (F0 m 0 ls []) := by
  obtain ⟨hx, hb, hml, hown, hts⟩ := id C0
  intro S x1 x2 H locs ls hf hW hl
  rw [fn_X0_preferenceAt] at hf
  refine lv_iload_n hx hb dX0_preferenceAt_0 rfl (lv_at hl 2 rfl) ?_
  refine lv_aload_n hx hb dX0_preferenceAt_1 rfl (lv_at hl 0 rfl) ?_
  refine sc_getX0 C0 hW ni_X0_preferenceAt_X0 5 (Nat.le_of_ble_eq_true rfl) lk_X0_preferenceAt_22 (v := .ref (h 7)) rfl dX0_preferenceAt_2 ?_
  refine lv_iload_n hx hb dX0_preferenceAt_5 rfl (lv_at hl 1 rfl) ?_
  obtain ⟨hv, hf⟩ := sc_ck_s hf
  refine sc_ldX_7 C0 hW hv dX0_preferenceAt_6 ?_
  refine lv_icmp_ge (tgt := 24) hx hb dX0_preferenceAt_7 (by decide) (fun hc => ?_) (fun hc => ?_)
  · replace hf := sc_ip hc hf
    refine lv_bipush (v := (-9 : Int32)) hx hb dX0_preferenceAt_24 (by decide) ?_
    exact sc_reti hR hf hW dX0_preferenceAt_26
  · replace hf := sc_in hc hf
    refine lv_aload_n hx hb dX0_preferenceAt_10 rfl (lv_at hl 0 rfl) ?_
    refine sc_getX0 C0 hW ni_X0_preferenceAt_X0 6 (Nat.le_of_ble_eq_true rfl) lk_X0_preferenceAt_25 (v := .ref (h 8)) rfl dX0_preferenceAt_11 ?_
    refine lv_iload_n hx hb dX0_preferenceAt_14 rfl (lv_at hl 1 rfl) ?_
    refine lv_bipush (v := (12 : Int32)) hx hb dX0_preferenceAt_15 (by decide) ?_
    refine lv_imul hx hb dX0_preferenceAt_17 ?_
    refine lv_iload_n hx hb dX0_preferenceAt_18 rfl (lv_at hl 2 rfl) ?_
    refine lv_iadd hx hb dX0_preferenceAt_19 ?_
    obtain ⟨hv, hf⟩ := sc_ck_s hf
    refine sc_ldX_8 C0 hW hv dX0_preferenceAt_20 ?_
    refine lv_goto (tgt := 26) hx hb dX0_preferenceAt_21 (by decide) ?_
    exact sc_reti hR hf hW dX0_preferenceAt_26
set_option maxRecDepth 100000 in
theorem ct_X0_preferenceAt {S S' : sc_M} {r : Int32} {x1 : Int32} {x2 : Int32} (hf : fn_X0_preferenceAt S x1 x2 = some (r, S')) : sc_Ci l yX0_preferenceAt wsX0_preferenceAt rm_X0_preferenceAt (sc_EX dC dI h cy) [.ref (h 1), .int x1, .int x2] S S' r := by
  refine sc_ofi (cc := cX0_preferenceAt) (maxL := 3) .int rfl sc_okX (by decide) rfl (Nat.le_of_ble_eq_true rfl) ?_
  intro p e s m below meth c Q C0 hR hW ls hl
  exact wk_X0_preferenceAt_0 C0 hR _ _ _ _ _ _ hf hW hl
end

/-! ===== SeatCounts$House.isValid(I)Z ===== -/
abbrev rm_X0_isValid : Room := { frames := 0, cells := 0, slots := 0, locals := 0 }
theorem lk_X0_isValid_22 : Cond.fieldLink RX0 22 "SeatCounts$House" "lengths" "[I" ∈ wsX0_isValid := by decide +kernel
theorem lk_X0_isValid_25 : Cond.fieldLink RX0 25 "SeatCounts$House" "preferences" "[I" ∈ wsX0_isValid := by decide +kernel
theorem lk_X0_isValid_9 : Cond.fieldLink RX0 9 "SeatCounts$House" "withdrawn" "[Z" ∈ wsX0_isValid := by decide +kernel
theorem ni_X0_isValid_X0 : ∀ w ∈ wsX00, w ∈ wsX0_isValid := by decide +kernel
noncomputable def fn_X0_isValid_2 : Nat → sc_M → Int32 → Int32 → Option (Int32 × sc_M)
  | 0, _, _, _ => none
  | n + 1, S, x1, x2 =>
    sc_ck x1 80 (if (sc_ga S 7 x1.toNatClampNeg) ≤ x2 then
      some ((0 : Int32), S)
    else
      sc_ck ((x1 * (12 : Int32)) + x2) 960 (sc_ck (sc_ga S 8 ((x1 * (12 : Int32)) + x2).toNatClampNeg) 12 (if (sc_ga S 4 (sc_ga S 8 ((x1 * (12 : Int32)) + x2).toNatClampNeg).toNatClampNeg) = 0 then
        some ((1 : Int32), S)
      else
        fn_X0_isValid_2 n S x1 (x2 + 1))))
noncomputable def fn_X0_isValid_e (S : sc_M) (x1 : Int32) : Option (Int32 × sc_M) :=
  fn_X0_isValid_2 sc_FU S x1 (0 : Int32)
noncomputable def fn_X0_isValid (S : sc_M) (x1 : Int32) : Option (Int32 × sc_M) := sc_bz (fn_X0_isValid_e S x1)
section
variable {p : Program} {l : Launch} {e : Env} {s : State} {m : MethodId} {args : Array Value} {below : List Frame} {meth : Method} {c : Code} {Q : State → Prop} {dC : Nat → ClassId} {dI : Nat → Nat → Nat} {h : Nat → Nat} {cy : Nat → ClassId}
set_option maxHeartbeats 4000000 in
set_option maxRecDepth 100000 in
theorem wk_X0_isValid_2 (C0 : CallFix p m c cX0_isValid 3 s args wsX0_isValid RX0) {S' : sc_M} {r : Int32} (hR : sc_Ri p l e rm_X0_isValid s m args below meth c Q cX0_isValid (sc_EX dC dI h cy) S' r) : ∀ n : Nat, ∀ (S : sc_M) (x1 : Int32) (x2 : Int32) (H : Heap) (locs : List Loc) (ls : Array Slot), fn_X0_isValid_2 n S x1 x2 = some (r, S') → sc_W (sc_EX dC dI h cy) s H locs S → lv_has ls 3 [(0, .ref (h 1)), (1, .int x1), (2, .int x2)] → W p l e rm_X0_isValid s m args below meth c H locs 0 0 Q (F0 m 2 ls []) := by
  obtain ⟨hx, hb, hml, hown, hts⟩ := id C0
  intro n
  induction n with
  | zero => intro S x1 x2 H locs ls; intro hf; cases hf
  | succ n ih =>
    intro S x1 x2 H locs ls hf hW hl
    rw [fn_X0_isValid_2] at hf
    refine lv_iload_n hx hb dX0_isValid_2 rfl (lv_at hl 2 rfl) ?_
    refine lv_aload_n hx hb dX0_isValid_3 rfl (lv_at hl 0 rfl) ?_
    refine sc_getX0 C0 hW ni_X0_isValid_X0 5 (Nat.le_of_ble_eq_true rfl) lk_X0_isValid_22 (v := .ref (h 7)) rfl dX0_isValid_4 ?_
    refine lv_iload_n hx hb dX0_isValid_7 rfl (lv_at hl 1 rfl) ?_
    obtain ⟨hv, hf⟩ := sc_ck_s hf
    refine sc_ldX_7 C0 hW hv dX0_isValid_8 ?_
    refine lv_icmp_ge (tgt := 39) hx hb dX0_isValid_9 (by decide) (fun hc => ?_) (fun hc => ?_)
    · replace hf := sc_ip hc hf
      refine lv_iconst (v := (0 : Int32)) hx hb dX0_isValid_39 (by decide) ?_
      exact sc_reti hR hf hW dX0_isValid_40
    · replace hf := sc_in hc hf
      refine lv_aload_n hx hb dX0_isValid_12 rfl (lv_at hl 0 rfl) ?_
      refine sc_getX0 C0 hW ni_X0_isValid_X0 2 (Nat.le_of_ble_eq_true rfl) lk_X0_isValid_9 (v := .ref (h 4)) rfl dX0_isValid_13 ?_
      refine lv_aload_n hx hb dX0_isValid_16 rfl (lv_at hl 0 rfl) ?_
      refine sc_getX0 C0 hW ni_X0_isValid_X0 6 (Nat.le_of_ble_eq_true rfl) lk_X0_isValid_25 (v := .ref (h 8)) rfl dX0_isValid_17 ?_
      refine lv_iload_n hx hb dX0_isValid_20 rfl (lv_at hl 1 rfl) ?_
      refine lv_bipush (v := (12 : Int32)) hx hb dX0_isValid_21 (by decide) ?_
      refine lv_imul hx hb dX0_isValid_23 ?_
      refine lv_iload_n hx hb dX0_isValid_24 rfl (lv_at hl 2 rfl) ?_
      refine lv_iadd hx hb dX0_isValid_25 ?_
      obtain ⟨hv, hf⟩ := sc_ck_s hf
      refine sc_ldX_8 C0 hW hv dX0_isValid_26 ?_
      obtain ⟨hv, hf⟩ := sc_ck_s hf
      refine sc_ldX_4 C0 hW hv dX0_isValid_27 ?_
      refine lv_if_ne (tgt := 33) hx hb dX0_isValid_28 (by decide) (fun hc => ?_) (fun hc => ?_)
      · replace hf := sc_in hc hf
        refine lv_iinc (v := (x2 + 1)) (lv' := [(2, .int (x2 + 1)), (0, .ref (h 1)), (1, .int x1)]) hx hb dX0_isValid_33 hl (k := 2) rfl rfl (by decide) rfl (fun ls hl => ?_)
        refine lv_goto (tgt := 2) hx hb dX0_isValid_36 (by decide) ?_
        exact ih _ _ _ _ _ _ hf hW (lv_sub hl [1, 2, 0] rfl)
      · replace hf := sc_ip hc hf
        refine lv_iconst (v := (1 : Int32)) hx hb dX0_isValid_31 (by decide) ?_
        exact sc_reti hR hf hW dX0_isValid_32
set_option maxHeartbeats 4000000 in
set_option maxRecDepth 100000 in
theorem wk_X0_isValid_0 (C0 : CallFix p m c cX0_isValid 3 s args wsX0_isValid RX0) {S' : sc_M} {r : Int32} (hR : sc_Ri p l e rm_X0_isValid s m args below meth c Q cX0_isValid (sc_EX dC dI h cy) S' r) : ∀ (S : sc_M) (x1 : Int32) (H : Heap) (locs : List Loc) (ls : Array Slot), fn_X0_isValid_e S x1 = some (r, S') → sc_W (sc_EX dC dI h cy) s H locs S → lv_has ls 3 [(0, .ref (h 1)), (1, .int x1)] → W p l e rm_X0_isValid s m args below meth c H locs 0 0 Q (F0 m 0 ls []) := by
  obtain ⟨hx, hb, hml, hown, hts⟩ := id C0
  intro S x1 H locs ls hf hW hl
  rw [fn_X0_isValid_e] at hf
  refine lv_iconst (v := (0 : Int32)) hx hb dX0_isValid_0 (by decide) ?_
  refine lv_istore_n (lv' := [(2, .int (0 : Int32)), (0, .ref (h 1)), (1, .int x1)]) hx hb dX0_isValid_1 rfl hl (by decide) rfl (fun ls hl => ?_)
  exact wk_X0_isValid_2 C0 hR  sc_FU _ _ _ _ _ _ hf hW (lv_sub hl [1, 2, 0] rfl)
set_option maxRecDepth 100000 in
theorem ct_X0_isValid {S S' : sc_M} {r : Int32} {x1 : Int32} (hf : fn_X0_isValid S x1 = some (r, S')) : sc_Ci l yX0_isValid wsX0_isValid rm_X0_isValid (sc_EX dC dI h cy) [.ref (h 1), .int x1] S S' r := by
  obtain ⟨hf, h01⟩ := sc_bz_s hf
  refine sc_ofi (cc := cX0_isValid) (maxL := 3) .boolean (sc_nar01 h01) sc_okX (by decide) rfl (Nat.le_of_ble_eq_true rfl) ?_
  intro p e s m below meth c Q C0 hR hW ls hl
  exact wk_X0_isValid_0 C0 hR _ _ _ _ _ hf hW hl
end

/-! ===== SeatCounts$House.validPapers()I ===== -/
abbrev rm_X0_validPapers : Room := { frames := 1, cells := 0, slots := 0, locals := 22 }
theorem lk_X0_validPapers_19 : Cond.fieldLink RX0 19 "SeatCounts$House" "papers" "[I" ∈ wsX0_validPapers := by decide +kernel
theorem lk_X0_validPapers_39 : Cond.fieldLink RX0 39 "SeatCounts$House" "piles" "I" ∈ wsX0_validPapers := by decide +kernel
theorem ni_X0_validPapers_X0 : ∀ w ∈ wsX00, w ∈ wsX0_validPapers := by decide +kernel
noncomputable def fn_X0_validPapers_4 : Nat → sc_M → Int32 → Int32 → Option (Int32 × sc_M)
  | 0, _, _, _ => none
  | n + 1, S, x1, x2 =>
    if (sc_gi S 1) ≤ x2 then
      some (x1, S)
    else
      sc_cl (fn_X0_isValid S x2) (fun r14 S14 => if r14 = 0 then
        fn_X0_validPapers_4 n S14 x1 (x2 + 1)
      else
        sc_ck x2 80 (sc_sq ((x1 + (sc_ga S14 6 x2.toNatClampNeg))) (fun y28 => fn_X0_validPapers_4 n S14 y28 (x2 + 1))))
noncomputable def fn_X0_validPapers (S : sc_M) : Option (Int32 × sc_M) :=
  fn_X0_validPapers_4 sc_FU S (0 : Int32) (0 : Int32)
section
variable {p : Program} {l : Launch} {e : Env} {s : State} {m : MethodId} {args : Array Value} {below : List Frame} {meth : Method} {c : Code} {Q : State → Prop} {dC : Nat → ClassId} {dI : Nat → Nat → Nat} {h : Nat → Nat} {cy : Nat → ClassId}
set_option maxHeartbeats 4000000 in
set_option maxRecDepth 100000 in
theorem wk_X0_validPapers_4 (C0 : CallFix p m c cX0_validPapers 3 s args wsX0_validPapers RX0) {S' : sc_M} {r : Int32} (hR : sc_Ri p l e rm_X0_validPapers s m args below meth c Q cX0_validPapers (sc_EX dC dI h cy) S' r) : ∀ n : Nat, ∀ (S : sc_M) (x1 : Int32) (x2 : Int32) (H : Heap) (locs : List Loc) (ls : Array Slot), fn_X0_validPapers_4 n S x1 x2 = some (r, S') → sc_W (sc_EX dC dI h cy) s H locs S → lv_has ls 3 [(0, .ref (h 1)), (1, .int x1), (2, .int x2)] → W p l e rm_X0_validPapers s m args below meth c H locs 0 0 Q (F0 m 4 ls []) := by
  obtain ⟨hx, hb, hml, hown, hts⟩ := id C0
  intro n
  induction n with
  | zero => intro S x1 x2 H locs ls; intro hf; cases hf
  | succ n ih =>
    intro S x1 x2 H locs ls hf hW hl
    rw [fn_X0_validPapers_4] at hf
    refine lv_iload_n hx hb dX0_validPapers_4 rfl (lv_at hl 2 rfl) ?_
    refine lv_aload_n hx hb dX0_validPapers_5 rfl (lv_at hl 0 rfl) ?_
    refine sc_getX0 C0 hW ni_X0_validPapers_X0 1 (Nat.le_of_ble_eq_true rfl) lk_X0_validPapers_39 (v := .int (sc_gi S 1)) rfl dX0_validPapers_6 ?_
    refine lv_icmp_ge (tgt := 35) hx hb dX0_validPapers_9 (by decide) (fun hc => ?_) (fun hc => ?_)
    · replace hf := sc_ip hc hf
      refine lv_iload_n hx hb dX0_validPapers_35 rfl (lv_at hl 1 rfl) ?_
      exact sc_reti hR hf hW dX0_validPapers_36
    · replace hf := sc_in hc hf
      refine lv_aload_n hx hb dX0_validPapers_12 rfl (lv_at hl 0 rfl) ?_
      refine lv_iload_n hx hb dX0_validPapers_13 rfl (lv_at hl 2 rfl) ?_
      obtain ⟨r14, S14, hc, hf⟩ := sc_cl_s hf
      refine sc_callVi (As := [.int x2]) (rest := []) (q0 := 1) (ci := 0) sc_okX C0 hW (ct_X0_isValid hc) (cwV 1 hts gX0_validPapers_X0_isValid rfl rfl rfl (by decide +kernel) ⟨Nat.le_of_ble_eq_true rfl, Nat.le_of_ble_eq_true rfl⟩) rfl rfl rfl rfl hl.1 rfl (Nat.le_of_ble_eq_true rfl) dX0_validPapers_14 (fun H locs hW => ?_)
      refine lv_if_eq (tgt := 29) hx hb dX0_validPapers_17 (by decide) (fun hc => ?_) (fun hc => ?_)
      · replace hf := sc_ip hc hf
        refine lv_iinc (v := (x2 + 1)) (lv' := [(2, .int (x2 + 1)), (0, .ref (h 1)), (1, .int x1)]) hx hb dX0_validPapers_29 hl (k := 2) rfl rfl (by decide) rfl (fun ls hl => ?_)
        refine lv_goto (tgt := 4) hx hb dX0_validPapers_32 (by decide) ?_
        exact ih _ _ _ _ _ _ hf hW (lv_sub hl [1, 2, 0] rfl)
      · replace hf := sc_in hc hf
        refine lv_iload_n hx hb dX0_validPapers_20 rfl (lv_at hl 1 rfl) ?_
        refine lv_aload_n hx hb dX0_validPapers_21 rfl (lv_at hl 0 rfl) ?_
        refine sc_getX0 C0 hW ni_X0_validPapers_X0 4 (Nat.le_of_ble_eq_true rfl) lk_X0_validPapers_19 (v := .ref (h 6)) rfl dX0_validPapers_22 ?_
        refine lv_iload_n hx hb dX0_validPapers_25 rfl (lv_at hl 2 rfl) ?_
        obtain ⟨hv, hf⟩ := sc_ck_s hf
        refine sc_ldX_6 C0 hW hv dX0_validPapers_26 ?_
        refine lv_iadd hx hb dX0_validPapers_27 ?_
        obtain ⟨y28, ey28, hf⟩ := sc_sq_s hf
        refine sc_topi ey28 ?_
        refine lv_istore_n (lv' := [(1, .int y28), (0, .ref (h 1)), (2, .int x2)]) hx hb dX0_validPapers_28 rfl hl (by decide) rfl (fun ls hl => ?_)
        refine lv_iinc (v := (x2 + 1)) (lv' := [(2, .int (x2 + 1)), (1, .int y28), (0, .ref (h 1))]) hx hb dX0_validPapers_29 hl (k := 2) rfl rfl (by decide) rfl (fun ls hl => ?_)
        refine lv_goto (tgt := 4) hx hb dX0_validPapers_32 (by decide) ?_
        exact ih _ _ _ _ _ _ hf hW (lv_sub hl [2, 1, 0] rfl)
set_option maxHeartbeats 4000000 in
set_option maxRecDepth 100000 in
theorem wk_X0_validPapers_0 (C0 : CallFix p m c cX0_validPapers 3 s args wsX0_validPapers RX0) {S' : sc_M} {r : Int32} (hR : sc_Ri p l e rm_X0_validPapers s m args below meth c Q cX0_validPapers (sc_EX dC dI h cy) S' r) : ∀ (S : sc_M) (H : Heap) (locs : List Loc) (ls : Array Slot), fn_X0_validPapers S = some (r, S') → sc_W (sc_EX dC dI h cy) s H locs S → lv_has ls 3 [(0, .ref (h 1))] → W p l e rm_X0_validPapers s m args below meth c H locs 0 0 Q (F0 m 0 ls []) := by
  obtain ⟨hx, hb, hml, hown, hts⟩ := id C0
  intro S H locs ls hf hW hl
  rw [fn_X0_validPapers] at hf
  refine lv_iconst (v := (0 : Int32)) hx hb dX0_validPapers_0 (by decide) ?_
  refine lv_istore_n (lv' := [(1, .int (0 : Int32)), (0, .ref (h 1))]) hx hb dX0_validPapers_1 rfl hl (by decide) rfl (fun ls hl => ?_)
  refine lv_iconst (v := (0 : Int32)) hx hb dX0_validPapers_2 (by decide) ?_
  refine lv_istore_n (lv' := [(2, .int (0 : Int32)), (1, .int (0 : Int32)), (0, .ref (h 1))]) hx hb dX0_validPapers_3 rfl hl (by decide) rfl (fun ls hl => ?_)
  exact wk_X0_validPapers_4 C0 hR  sc_FU _ _ _ _ _ _ hf hW (lv_sub hl [2, 1, 0] rfl)
set_option maxRecDepth 100000 in
theorem ct_X0_validPapers {S S' : sc_M} {r : Int32} (hf : fn_X0_validPapers S = some (r, S')) : sc_Ci l yX0_validPapers wsX0_validPapers rm_X0_validPapers (sc_EX dC dI h cy) [.ref (h 1)] S S' r := by
  refine sc_ofi (cc := cX0_validPapers) (maxL := 3) .int rfl sc_okX (by decide) rfl (Nat.le_of_ble_eq_true rfl) ?_
  intro p e s m below meth c Q C0 hR hW ls hl
  exact wk_X0_validPapers_0 C0 hR _ _ _ _ hf hW hl
end

/-! ===== SeatCounts$House.papersFor(II)I ===== -/
abbrev rm_X0_papersFor : Room := { frames := 0, cells := 0, slots := 0, locals := 0 }
theorem lk_X0_papersFor_19 : Cond.fieldLink RX0 19 "SeatCounts$House" "papers" "[I" ∈ wsX0_papersFor := by decide +kernel
theorem lk_X0_papersFor_28 : Cond.fieldLink RX0 28 "SeatCounts$House" "ranks" "[I" ∈ wsX0_papersFor := by decide +kernel
theorem lk_X0_papersFor_39 : Cond.fieldLink RX0 39 "SeatCounts$House" "piles" "I" ∈ wsX0_papersFor := by decide +kernel
theorem ni_X0_papersFor_X0 : ∀ w ∈ wsX00, w ∈ wsX0_papersFor := by decide +kernel
noncomputable def fn_X0_papersFor_5 : Nat → sc_M → Int32 → Int32 → Int32 → Int32 → Option (Int32 × sc_M)
  | 0, _, _, _, _, _ => none
  | n + 1, S, x1, x2, x3, x4 =>
    if (sc_gi S 1) ≤ x4 then
      some (x3, S)
    else
      sc_sq ((x4 * (12 : Int32))) (fun y19 => sc_ck (y19 + x1) 960 (sc_ck (y19 + x2) 960 (if (sc_ga S 9 (y19 + x2).toNatClampNeg) ≤ (sc_ga S 9 (y19 + x1).toNatClampNeg) then
        fn_X0_papersFor_5 n S x1 x2 x3 (x4 + 1)
      else
        sc_ck x4 80 (sc_sq ((x3 + (sc_ga S 6 x4.toNatClampNeg))) (fun y51 => fn_X0_papersFor_5 n S x1 x2 y51 (x4 + 1))))))
noncomputable def fn_X0_papersFor (S : sc_M) (x1 : Int32) (x2 : Int32) : Option (Int32 × sc_M) :=
  fn_X0_papersFor_5 sc_FU S x1 x2 (0 : Int32) (0 : Int32)
section
variable {p : Program} {l : Launch} {e : Env} {s : State} {m : MethodId} {args : Array Value} {below : List Frame} {meth : Method} {c : Code} {Q : State → Prop} {dC : Nat → ClassId} {dI : Nat → Nat → Nat} {h : Nat → Nat} {cy : Nat → ClassId}
set_option maxHeartbeats 4000000 in
set_option maxRecDepth 100000 in
theorem wk_X0_papersFor_5 (C0 : CallFix p m c cX0_papersFor 6 s args wsX0_papersFor RX0) {S' : sc_M} {r : Int32} (hR : sc_Ri p l e rm_X0_papersFor s m args below meth c Q cX0_papersFor (sc_EX dC dI h cy) S' r) : ∀ n : Nat, ∀ (S : sc_M) (x1 : Int32) (x2 : Int32) (x3 : Int32) (x4 : Int32) (H : Heap) (locs : List Loc) (ls : Array Slot), fn_X0_papersFor_5 n S x1 x2 x3 x4 = some (r, S') → sc_W (sc_EX dC dI h cy) s H locs S → lv_has ls 6 [(0, .ref (h 1)), (1, .int x1), (2, .int x2), (3, .int x3), (4, .int x4)] → W p l e rm_X0_papersFor s m args below meth c H locs 0 0 Q (F0 m 5 ls []) := by
  obtain ⟨hx, hb, hml, hown, hts⟩ := id C0
  intro n
  induction n with
  | zero => intro S x1 x2 x3 x4 H locs ls; intro hf; cases hf
  | succ n ih =>
    intro S x1 x2 x3 x4 H locs ls hf hW hl
    rw [fn_X0_papersFor_5] at hf
    refine lv_iload hx hb dX0_papersFor_5 (lv_at hl 4 rfl) ?_
    refine lv_aload_n hx hb dX0_papersFor_7 rfl (lv_at hl 0 rfl) ?_
    refine sc_getX0 C0 hW ni_X0_papersFor_X0 1 (Nat.le_of_ble_eq_true rfl) lk_X0_papersFor_39 (v := .int (sc_gi S 1)) rfl dX0_papersFor_8 ?_
    refine lv_icmp_ge (tgt := 58) hx hb dX0_papersFor_11 (by decide) (fun hc => ?_) (fun hc => ?_)
    · replace hf := sc_ip hc hf
      refine lv_iload_n hx hb dX0_papersFor_58 rfl (lv_at hl 3 rfl) ?_
      exact sc_reti hR hf hW dX0_papersFor_59
    · replace hf := sc_in hc hf
      refine lv_iload hx hb dX0_papersFor_14 (lv_at hl 4 rfl) ?_
      refine lv_bipush (v := (12 : Int32)) hx hb dX0_papersFor_16 (by decide) ?_
      refine lv_imul hx hb dX0_papersFor_18 ?_
      obtain ⟨y19, ey19, hf⟩ := sc_sq_s hf
      refine sc_topi ey19 ?_
      refine lv_istore (lv' := [(5, .int y19), (0, .ref (h 1)), (1, .int x1), (2, .int x2), (3, .int x3), (4, .int x4)]) hx hb dX0_papersFor_19 hl (by decide) rfl (fun ls hl => ?_)
      refine lv_aload_n hx hb dX0_papersFor_21 rfl (lv_at hl 1 rfl) ?_
      refine sc_getX0 C0 hW ni_X0_papersFor_X0 7 (Nat.le_of_ble_eq_true rfl) lk_X0_papersFor_28 (v := .ref (h 9)) rfl dX0_papersFor_22 ?_
      refine lv_iload hx hb dX0_papersFor_25 (lv_at hl 0 rfl) ?_
      refine lv_iload_n hx hb dX0_papersFor_27 rfl (lv_at hl 2 rfl) ?_
      refine lv_iadd hx hb dX0_papersFor_28 ?_
      obtain ⟨hv, hf⟩ := sc_ck_s hf
      refine sc_ldX_9 C0 hW hv dX0_papersFor_29 ?_
      refine lv_aload_n hx hb dX0_papersFor_30 rfl (lv_at hl 1 rfl) ?_
      refine sc_getX0 C0 hW ni_X0_papersFor_X0 7 (Nat.le_of_ble_eq_true rfl) lk_X0_papersFor_28 (v := .ref (h 9)) rfl dX0_papersFor_31 ?_
      refine lv_iload hx hb dX0_papersFor_34 (lv_at hl 0 rfl) ?_
      refine lv_iload_n hx hb dX0_papersFor_36 rfl (lv_at hl 3 rfl) ?_
      refine lv_iadd hx hb dX0_papersFor_37 ?_
      obtain ⟨hv, hf⟩ := sc_ck_s hf
      refine sc_ldX_9 C0 hW hv dX0_papersFor_38 ?_
      refine lv_icmp_ge (tgt := 52) hx hb dX0_papersFor_39 (by decide) (fun hc => ?_) (fun hc => ?_)
      · replace hf := sc_ip hc hf
        refine lv_iinc (v := (x4 + 1)) (lv' := [(4, .int (x4 + 1)), (5, .int y19), (0, .ref (h 1)), (1, .int x1), (2, .int x2), (3, .int x3)]) hx hb dX0_papersFor_52 hl (k := 5) rfl rfl (by decide) rfl (fun ls hl => ?_)
        refine lv_goto (tgt := 5) hx hb dX0_papersFor_55 (by decide) ?_
        exact ih _ _ _ _ _ _ _ _ hf hW (lv_sub hl [2, 3, 4, 5, 0] rfl)
      · replace hf := sc_in hc hf
        refine lv_iload_n hx hb dX0_papersFor_42 rfl (lv_at hl 4 rfl) ?_
        refine lv_aload_n hx hb dX0_papersFor_43 rfl (lv_at hl 1 rfl) ?_
        refine sc_getX0 C0 hW ni_X0_papersFor_X0 4 (Nat.le_of_ble_eq_true rfl) lk_X0_papersFor_19 (v := .ref (h 6)) rfl dX0_papersFor_44 ?_
        refine lv_iload hx hb dX0_papersFor_47 (lv_at hl 5 rfl) ?_
        obtain ⟨hv, hf⟩ := sc_ck_s hf
        refine sc_ldX_6 C0 hW hv dX0_papersFor_49 ?_
        refine lv_iadd hx hb dX0_papersFor_50 ?_
        obtain ⟨y51, ey51, hf⟩ := sc_sq_s hf
        refine sc_topi ey51 ?_
        refine lv_istore_n (lv' := [(3, .int y51), (5, .int y19), (0, .ref (h 1)), (1, .int x1), (2, .int x2), (4, .int x4)]) hx hb dX0_papersFor_51 rfl hl (by decide) rfl (fun ls hl => ?_)
        refine lv_iinc (v := (x4 + 1)) (lv' := [(4, .int (x4 + 1)), (3, .int y51), (5, .int y19), (0, .ref (h 1)), (1, .int x1), (2, .int x2)]) hx hb dX0_papersFor_52 hl (k := 5) rfl rfl (by decide) rfl (fun ls hl => ?_)
        refine lv_goto (tgt := 5) hx hb dX0_papersFor_55 (by decide) ?_
        exact ih _ _ _ _ _ _ _ _ hf hW (lv_sub hl [3, 4, 5, 1, 0] rfl)
set_option maxHeartbeats 4000000 in
set_option maxRecDepth 100000 in
theorem wk_X0_papersFor_0 (C0 : CallFix p m c cX0_papersFor 6 s args wsX0_papersFor RX0) {S' : sc_M} {r : Int32} (hR : sc_Ri p l e rm_X0_papersFor s m args below meth c Q cX0_papersFor (sc_EX dC dI h cy) S' r) : ∀ (S : sc_M) (x1 : Int32) (x2 : Int32) (H : Heap) (locs : List Loc) (ls : Array Slot), fn_X0_papersFor S x1 x2 = some (r, S') → sc_W (sc_EX dC dI h cy) s H locs S → lv_has ls 6 [(0, .ref (h 1)), (1, .int x1), (2, .int x2)] → W p l e rm_X0_papersFor s m args below meth c H locs 0 0 Q (F0 m 0 ls []) := by
  obtain ⟨hx, hb, hml, hown, hts⟩ := id C0
  intro S x1 x2 H locs ls hf hW hl
  rw [fn_X0_papersFor] at hf
  refine lv_iconst (v := (0 : Int32)) hx hb dX0_papersFor_0 (by decide) ?_
  refine lv_istore_n (lv' := [(3, .int (0 : Int32)), (0, .ref (h 1)), (1, .int x1), (2, .int x2)]) hx hb dX0_papersFor_1 rfl hl (by decide) rfl (fun ls hl => ?_)
  refine lv_iconst (v := (0 : Int32)) hx hb dX0_papersFor_2 (by decide) ?_
  refine lv_istore (lv' := [(4, .int (0 : Int32)), (3, .int (0 : Int32)), (0, .ref (h 1)), (1, .int x1), (2, .int x2)]) hx hb dX0_papersFor_3 hl (by decide) rfl (fun ls hl => ?_)
  exact wk_X0_papersFor_5 C0 hR  sc_FU _ _ _ _ _ _ _ _ hf hW (lv_sub hl [2, 3, 4, 1, 0] rfl)
set_option maxRecDepth 100000 in
theorem ct_X0_papersFor {S S' : sc_M} {r : Int32} {x1 : Int32} {x2 : Int32} (hf : fn_X0_papersFor S x1 x2 = some (r, S')) : sc_Ci l yX0_papersFor wsX0_papersFor rm_X0_papersFor (sc_EX dC dI h cy) [.ref (h 1), .int x1, .int x2] S S' r := by
  refine sc_ofi (cc := cX0_papersFor) (maxL := 6) .int rfl sc_okX (by decide) rfl (Nat.le_of_ble_eq_true rfl) ?_
  intro p e s m below meth c Q C0 hR hW ls hl
  exact wk_X0_papersFor_0 C0 hR _ _ _ _ _ _ hf hW hl
end
