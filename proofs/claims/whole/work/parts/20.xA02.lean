/-! ===== SeatCounts$Journal.quota()J ===== -/
abbrev rm_X1_quota : Room := { frames := 1, cells := 0, slots := 0, locals := 20 }
theorem lk_X1_quota_38 : Cond.fieldLink RX1 38 "SeatCounts$Journal" "quotas" "[J" ∈ wsX1_quota := by decide +kernel
theorem ni_X1_quota_X1 : ∀ w ∈ wsX10, w ∈ wsX1_quota := by decide +kernel
noncomputable def fn_X1_quota (S : sc_M) : Option (Int64 × sc_M) :=
  sc_cl (fn_X1_now S) (fun r5 S5 => sc_ck r5 72 (some ((sc_gb S5 17 r5.toNatClampNeg), S5)))
section
variable {p : Program} {l : Launch} {e : Env} {s : State} {m : MethodId} {args : Array Value} {below : List Frame} {meth : Method} {c : Code} {Q : State → Prop} {dC : Nat → ClassId} {dI : Nat → Nat → Nat} {h : Nat → Nat} {cy : Nat → ClassId}
set_option maxHeartbeats 4000000 in
set_option maxRecDepth 100000 in
theorem wk_X1_quota_0 (C0 : CallFix p m c cX1_quota 1 s args wsX1_quota RX1) {S' : sc_M} {r : Int64} (hR : sc_Rl p l e rm_X1_quota s m args below meth c Q cX1_quota (sc_EX dC dI h cy) S' r) : ∀ (S : sc_M) (H : Heap) (locs : List Loc) (ls : Array Slot), fn_X1_quota S = some (r, S') → sc_W (sc_EX dC dI h cy) s H locs S → lv_has ls 1 [(0, .ref (h 2))] → W p l e rm_X1_quota s m args below meth c H locs 0 0 Q (F0 m 0 ls []) := by
  obtain ⟨hx, hb, hml, hown, hts⟩ := id C0
  intro S H locs ls hf hW hl
  rw [fn_X1_quota] at hf
  refine lv_aload_n hx hb dX1_quota_0 rfl (lv_at hl 0 rfl) ?_
  refine sc_getX1 C0 hW ni_X1_quota_X1 13 (Nat.le_of_ble_eq_true rfl) lk_X1_quota_38 (v := .ref (h 17)) rfl dX1_quota_1 ?_
  refine lv_aload_n hx hb dX1_quota_4 rfl (lv_at hl 0 rfl) ?_
  obtain ⟨r5, S5, hc, hf⟩ := sc_cl_s hf
  refine sc_callVi (As := []) (rest := [.ref (h 17)]) (q0 := 2) (ci := 1) sc_okX C0 hW (ct_X1_now hc) (cwV 0 hts gX1_quota_X1_now rfl rfl rfl (by decide +kernel) ⟨Nat.le_of_ble_eq_true rfl, Nat.le_of_ble_eq_true rfl⟩) rfl rfl rfl rfl hl.1 rfl (Nat.le_of_ble_eq_true rfl) dX1_quota_5 (fun H locs hW => ?_)
  obtain ⟨hv, hf⟩ := sc_ck_s hf
  refine sc_ldX_17 C0 hW hv dX1_quota_8 ?_
  exact sc_retl hR hf hW dX1_quota_9
set_option maxRecDepth 100000 in
theorem ct_X1_quota {S S' : sc_M} {r : Int64} (hf : fn_X1_quota S = some (r, S')) : sc_Cl l yX1_quota wsX1_quota rm_X1_quota (sc_EX dC dI h cy) [.ref (h 2)] S S' r := by
  refine sc_ofl (cc := cX1_quota) (maxL := 1) sc_okX (by decide) rfl (Nat.le_of_ble_eq_true rfl) ?_
  intro p e s m below meth c Q C0 hR hW ls hl
  exact wk_X1_quota_0 C0 hR _ _ _ _ hf hW hl
end

/-! ===== SeatCounts$Journal.isHopeful(I)Z ===== -/
abbrev rm_X1_isHopeful : Room := { frames := 0, cells := 0, slots := 0, locals := 0 }
theorem lk_X1_isHopeful_47 : Cond.fieldLink RX1 47 "SeatCounts$Journal" "states" "[I" ∈ wsX1_isHopeful := by decide +kernel
theorem lk_X1_isHopeful_72 : Cond.fieldLink RX1 72 "SeatCounts$Journal" "row" "I" ∈ wsX1_isHopeful := by decide +kernel
theorem ni_X1_isHopeful_X1 : ∀ w ∈ wsX10, w ∈ wsX1_isHopeful := by decide +kernel
noncomputable def fn_X1_isHopeful_e (S : sc_M) (x1 : Int32) : Option (Int32 × sc_M) :=
  sc_ck ((sc_gi S 6) + x1) 864 (if (sc_ga S 20 ((sc_gi S 6) + x1).toNatClampNeg) = 0 then
    some ((1 : Int32), S)
  else
    some ((0 : Int32), S))
noncomputable def fn_X1_isHopeful (S : sc_M) (x1 : Int32) : Option (Int32 × sc_M) := sc_bz (fn_X1_isHopeful_e S x1)
section
variable {p : Program} {l : Launch} {e : Env} {s : State} {m : MethodId} {args : Array Value} {below : List Frame} {meth : Method} {c : Code} {Q : State → Prop} {dC : Nat → ClassId} {dI : Nat → Nat → Nat} {h : Nat → Nat} {cy : Nat → ClassId}
set_option maxHeartbeats 4000000 in
set_option maxRecDepth 100000 in
theorem wk_X1_isHopeful_0 (C0 : CallFix p m c cX1_isHopeful 2 s args wsX1_isHopeful RX1) {S' : sc_M} {r : Int32} (hR : sc_Ri p l e rm_X1_isHopeful s m args below meth c Q cX1_isHopeful (sc_EX dC dI h cy) S' r) : ∀ (S : sc_M) (x1 : Int32) (H : Heap) (locs : List Loc) (ls : Array Slot), fn_X1_isHopeful_e S x1 = some (r, S') → sc_W (sc_EX dC dI h cy) s H locs S → lv_has ls 2 [(0, .ref (h 2)), (1, .int x1)] → W p l e rm_X1_isHopeful s m args below meth c H locs 0 0 Q (F0 m 0 ls []) := by
  obtain ⟨hx, hb, hml, hown, hts⟩ := id C0
  intro S x1 H locs ls hf hW hl
  rw [fn_X1_isHopeful_e] at hf
  refine lv_aload_n hx hb dX1_isHopeful_0 rfl (lv_at hl 0 rfl) ?_
  refine sc_getX1 C0 hW ni_X1_isHopeful_X1 16 (Nat.le_of_ble_eq_true rfl) lk_X1_isHopeful_47 (v := .ref (h 20)) rfl dX1_isHopeful_1 ?_
  refine lv_aload_n hx hb dX1_isHopeful_4 rfl (lv_at hl 0 rfl) ?_
  refine sc_getX1 C0 hW ni_X1_isHopeful_X1 4 (Nat.le_of_ble_eq_true rfl) lk_X1_isHopeful_72 (v := .int (sc_gi S 6)) rfl dX1_isHopeful_5 ?_
  refine lv_iload_n hx hb dX1_isHopeful_8 rfl (lv_at hl 1 rfl) ?_
  refine lv_iadd hx hb dX1_isHopeful_9 ?_
  obtain ⟨hv, hf⟩ := sc_ck_s hf
  refine sc_ldX_20 C0 hW hv dX1_isHopeful_10 ?_
  refine lv_if_ne (tgt := 18) hx hb dX1_isHopeful_11 (by decide) (fun hc => ?_) (fun hc => ?_)
  · replace hf := sc_in hc hf
    refine lv_iconst (v := (0 : Int32)) hx hb dX1_isHopeful_18 (by decide) ?_
    exact sc_reti hR hf hW dX1_isHopeful_19
  · replace hf := sc_ip hc hf
    refine lv_iconst (v := (1 : Int32)) hx hb dX1_isHopeful_14 (by decide) ?_
    refine lv_goto (tgt := 19) hx hb dX1_isHopeful_15 (by decide) ?_
    exact sc_reti hR hf hW dX1_isHopeful_19
set_option maxRecDepth 100000 in
theorem ct_X1_isHopeful {S S' : sc_M} {r : Int32} {x1 : Int32} (hf : fn_X1_isHopeful S x1 = some (r, S')) : sc_Ci l yX1_isHopeful wsX1_isHopeful rm_X1_isHopeful (sc_EX dC dI h cy) [.ref (h 2), .int x1] S S' r := by
  obtain ⟨hf, h01⟩ := sc_bz_s hf
  refine sc_ofi (cc := cX1_isHopeful) (maxL := 2) .boolean (sc_nar01 h01) sc_okX (by decide) rfl (Nat.le_of_ble_eq_true rfl) ?_
  intro p e s m below meth c Q C0 hR hW ls hl
  exact wk_X1_isHopeful_0 C0 hR _ _ _ _ _ hf hW hl
end

/-! ===== SeatCounts$Journal.isElected(I)Z ===== -/
abbrev rm_X1_isElected : Room := { frames := 0, cells := 0, slots := 0, locals := 0 }
theorem lk_X1_isElected_47 : Cond.fieldLink RX1 47 "SeatCounts$Journal" "states" "[I" ∈ wsX1_isElected := by decide +kernel
theorem lk_X1_isElected_72 : Cond.fieldLink RX1 72 "SeatCounts$Journal" "row" "I" ∈ wsX1_isElected := by decide +kernel
theorem ni_X1_isElected_X1 : ∀ w ∈ wsX10, w ∈ wsX1_isElected := by decide +kernel
noncomputable def fn_X1_isElected_e (S : sc_M) (x1 : Int32) : Option (Int32 × sc_M) :=
  sc_ck ((sc_gi S 6) + x1) 864 (if (sc_ga S 20 ((sc_gi S 6) + x1).toNatClampNeg) = (1 : Int32) then
    some ((1 : Int32), S)
  else
    some ((0 : Int32), S))
noncomputable def fn_X1_isElected (S : sc_M) (x1 : Int32) : Option (Int32 × sc_M) := sc_bz (fn_X1_isElected_e S x1)
section
variable {p : Program} {l : Launch} {e : Env} {s : State} {m : MethodId} {args : Array Value} {below : List Frame} {meth : Method} {c : Code} {Q : State → Prop} {dC : Nat → ClassId} {dI : Nat → Nat → Nat} {h : Nat → Nat} {cy : Nat → ClassId}
set_option maxHeartbeats 4000000 in
set_option maxRecDepth 100000 in
theorem wk_X1_isElected_0 (C0 : CallFix p m c cX1_isElected 2 s args wsX1_isElected RX1) {S' : sc_M} {r : Int32} (hR : sc_Ri p l e rm_X1_isElected s m args below meth c Q cX1_isElected (sc_EX dC dI h cy) S' r) : ∀ (S : sc_M) (x1 : Int32) (H : Heap) (locs : List Loc) (ls : Array Slot), fn_X1_isElected_e S x1 = some (r, S') → sc_W (sc_EX dC dI h cy) s H locs S → lv_has ls 2 [(0, .ref (h 2)), (1, .int x1)] → W p l e rm_X1_isElected s m args below meth c H locs 0 0 Q (F0 m 0 ls []) := by
  obtain ⟨hx, hb, hml, hown, hts⟩ := id C0
  intro S x1 H locs ls hf hW hl
  rw [fn_X1_isElected_e] at hf
  refine lv_aload_n hx hb dX1_isElected_0 rfl (lv_at hl 0 rfl) ?_
  refine sc_getX1 C0 hW ni_X1_isElected_X1 16 (Nat.le_of_ble_eq_true rfl) lk_X1_isElected_47 (v := .ref (h 20)) rfl dX1_isElected_1 ?_
  refine lv_aload_n hx hb dX1_isElected_4 rfl (lv_at hl 0 rfl) ?_
  refine sc_getX1 C0 hW ni_X1_isElected_X1 4 (Nat.le_of_ble_eq_true rfl) lk_X1_isElected_72 (v := .int (sc_gi S 6)) rfl dX1_isElected_5 ?_
  refine lv_iload_n hx hb dX1_isElected_8 rfl (lv_at hl 1 rfl) ?_
  refine lv_iadd hx hb dX1_isElected_9 ?_
  obtain ⟨hv, hf⟩ := sc_ck_s hf
  refine sc_ldX_20 C0 hW hv dX1_isElected_10 ?_
  refine lv_iconst (v := (1 : Int32)) hx hb dX1_isElected_11 (by decide) ?_
  refine lv_icmp_ne (tgt := 19) hx hb dX1_isElected_12 (by decide) (fun hc => ?_) (fun hc => ?_)
  · replace hf := sc_in hc hf
    refine lv_iconst (v := (0 : Int32)) hx hb dX1_isElected_19 (by decide) ?_
    exact sc_reti hR hf hW dX1_isElected_20
  · replace hf := sc_ip hc hf
    refine lv_iconst (v := (1 : Int32)) hx hb dX1_isElected_15 (by decide) ?_
    refine lv_goto (tgt := 20) hx hb dX1_isElected_16 (by decide) ?_
    exact sc_reti hR hf hW dX1_isElected_20
set_option maxRecDepth 100000 in
theorem ct_X1_isElected {S S' : sc_M} {r : Int32} {x1 : Int32} (hf : fn_X1_isElected S x1 = some (r, S')) : sc_Ci l yX1_isElected wsX1_isElected rm_X1_isElected (sc_EX dC dI h cy) [.ref (h 2), .int x1] S S' r := by
  obtain ⟨hf, h01⟩ := sc_bz_s hf
  refine sc_ofi (cc := cX1_isElected) (maxL := 2) .boolean (sc_nar01 h01) sc_okX (by decide) rfl (Nat.le_of_ble_eq_true rfl) ?_
  intro p e s m below meth c Q C0 hR hW ls hl
  exact wk_X1_isElected_0 C0 hR _ _ _ _ _ hf hW hl
end

/-! ===== SeatCounts$Journal.hasMore(II)Z ===== -/
abbrev rm_X1_hasMore : Room := { frames := 1, cells := 0, slots := 0, locals := 21 }
theorem lk_X1_hasMore_19 : Cond.fieldLink RX1 19 "SeatCounts$Journal" "lots" "[I" ∈ wsX1_hasMore := by decide +kernel
theorem lk_X1_hasMore_44 : Cond.fieldLink RX1 44 "SeatCounts$Journal" "votes" "[J" ∈ wsX1_hasMore := by decide +kernel
theorem lk_X1_hasMore_9 : Cond.fieldLink RX1 9 "SeatCounts$Journal" "rule" "I" ∈ wsX1_hasMore := by decide +kernel
theorem lk_X1_hasMore_iniX4 : Cond.initialized RX4 ∈ wsX1_hasMore := by decide +kernel
theorem lk_X1_hasMore_stX4_cell : Cond.static yX4_cell ∈ wsX1_hasMore := by decide +kernel
theorem ni_X1_hasMore_X1 : ∀ w ∈ wsX10, w ∈ wsX1_hasMore := by decide +kernel
noncomputable def fn_X1_hasMore_23 : Nat → sc_M → Int32 → Int32 → Int32 → Int32 → Option (Int32 × sc_M)
  | 0, _, _, _, _, _ => none
  | n + 1, S, x1, x2, x3, x4 =>
    if x4 < x3 then
      sc_ck x1 12 (sc_ck x2 12 (if (sc_ga S 11 x2.toNatClampNeg) ≤ (sc_ga S 11 x1.toNatClampNeg) then
        some ((0 : Int32), S)
      else
        some ((1 : Int32), S)))
    else
      sc_cl (fn_X4_cell S x4 x1) (fun r36 S36 => sc_ck r36 864 (sc_cl (fn_X4_cell S36 x4 x2) (fun r47 S47 => sc_ck r47 864 (sc_sq (((sc_gb S36 19 r36.toNatClampNeg) - (sc_gb S47 19 r47.toNatClampNeg))) (fun y52 => if y52 = (0 : Int64) then
        fn_X1_hasMore_23 n S47 x1 x2 x3 (x4 + (-1))
      else
        if y52 ≤ (0 : Int64) then
          some ((0 : Int32), S47)
        else
          some ((1 : Int32), S47))))))
noncomputable def fn_X1_hasMore_16 (S : sc_M) (x1 : Int32) (x2 : Int32) (z0 : Int32) : Option (Int32 × sc_M) :=
  sc_cl (fn_X1_now S) (fun r18 S18 => fn_X1_hasMore_23 sc_FU S18 x1 x2 z0 r18)
noncomputable def fn_X1_hasMore_e (S : sc_M) (x1 : Int32) (x2 : Int32) : Option (Int32 × sc_M) :=
  if (sc_gi S 2) = (3 : Int32) then
    sc_cl (fn_X1_now S) (fun r9 S9 => fn_X1_hasMore_16 S9 x1 x2 r9)
  else
    fn_X1_hasMore_16 S x1 x2 (0 : Int32)
noncomputable def fn_X1_hasMore (S : sc_M) (x1 : Int32) (x2 : Int32) : Option (Int32 × sc_M) := sc_bz (fn_X1_hasMore_e S x1 x2)
section
variable {p : Program} {l : Launch} {e : Env} {s : State} {m : MethodId} {args : Array Value} {below : List Frame} {meth : Method} {c : Code} {Q : State → Prop} {dC : Nat → ClassId} {dI : Nat → Nat → Nat} {h : Nat → Nat} {cy : Nat → ClassId}
set_option maxHeartbeats 4000000 in
set_option maxRecDepth 100000 in
theorem wk_X1_hasMore_23 (C0 : CallFix p m c cX1_hasMore 7 s args wsX1_hasMore RX1) {S' : sc_M} {r : Int32} (hR : sc_Ri p l e rm_X1_hasMore s m args below meth c Q cX1_hasMore (sc_EX dC dI h cy) S' r) : ∀ n : Nat, ∀ (S : sc_M) (x1 : Int32) (x2 : Int32) (x3 : Int32) (x4 : Int32) (H : Heap) (locs : List Loc) (ls : Array Slot), fn_X1_hasMore_23 n S x1 x2 x3 x4 = some (r, S') → sc_W (sc_EX dC dI h cy) s H locs S → lv_has ls 7 [(0, .ref (h 2)), (1, .int x1), (2, .int x2), (3, .int x3), (4, .int x4)] → W p l e rm_X1_hasMore s m args below meth c H locs 0 0 Q (F0 m 23 ls []) := by
  obtain ⟨hx, hb, hml, hown, hts⟩ := id C0
  intro n
  induction n with
  | zero => intro S x1 x2 x3 x4 H locs ls; intro hf; cases hf
  | succ n ih =>
    intro S x1 x2 x3 x4 H locs ls hf hW hl
    rw [fn_X1_hasMore_23] at hf
    refine lv_iload hx hb dX1_hasMore_23 (lv_at hl 4 rfl) ?_
    refine lv_iload_n hx hb dX1_hasMore_25 rfl (lv_at hl 3 rfl) ?_
    refine lv_icmp_lt (tgt := 80) hx hb dX1_hasMore_26 (by decide) (fun hc => ?_) (fun hc => ?_)
    · replace hf := sc_ip hc hf
      refine lv_aload_n hx hb dX1_hasMore_80 rfl (lv_at hl 0 rfl) ?_
      refine sc_getX1 C0 hW ni_X1_hasMore_X1 7 (Nat.le_of_ble_eq_true rfl) lk_X1_hasMore_19 (v := .ref (h 11)) rfl dX1_hasMore_81 ?_
      refine lv_iload_n hx hb dX1_hasMore_84 rfl (lv_at hl 1 rfl) ?_
      obtain ⟨hv, hf⟩ := sc_ck_s hf
      refine sc_ldX_11 C0 hW hv dX1_hasMore_85 ?_
      refine lv_aload_n hx hb dX1_hasMore_86 rfl (lv_at hl 0 rfl) ?_
      refine sc_getX1 C0 hW ni_X1_hasMore_X1 7 (Nat.le_of_ble_eq_true rfl) lk_X1_hasMore_19 (v := .ref (h 11)) rfl dX1_hasMore_87 ?_
      refine lv_iload_n hx hb dX1_hasMore_90 rfl (lv_at hl 2 rfl) ?_
      obtain ⟨hv, hf⟩ := sc_ck_s hf
      refine sc_ldX_11 C0 hW hv dX1_hasMore_91 ?_
      refine lv_icmp_ge (tgt := 99) hx hb dX1_hasMore_92 (by decide) (fun hc => ?_) (fun hc => ?_)
      · replace hf := sc_ip hc hf
        refine lv_iconst (v := (0 : Int32)) hx hb dX1_hasMore_99 (by decide) ?_
        exact sc_reti hR hf hW dX1_hasMore_100
      · replace hf := sc_in hc hf
        refine lv_iconst (v := (1 : Int32)) hx hb dX1_hasMore_95 (by decide) ?_
        refine lv_goto (tgt := 100) hx hb dX1_hasMore_96 (by decide) ?_
        exact sc_reti hR hf hW dX1_hasMore_100
    · replace hf := sc_in hc hf
      refine lv_aload_n hx hb dX1_hasMore_29 rfl (lv_at hl 0 rfl) ?_
      refine sc_getX1 C0 hW ni_X1_hasMore_X1 15 (Nat.le_of_ble_eq_true rfl) lk_X1_hasMore_44 (v := .ref (h 19)) rfl dX1_hasMore_30 ?_
      refine lv_iload hx hb dX1_hasMore_33 (lv_at hl 4 rfl) ?_
      refine lv_iload_n hx hb dX1_hasMore_35 rfl (lv_at hl 1 rfl) ?_
      obtain ⟨r36, S36, hc, hf⟩ := sc_cl_s hf
      refine sc_callNi (As := [.int x4, .int x1]) (rest := [.ref (h 19)]) sc_okX C0 hW (ct_X4_cell hc) ⟨va_cnB 2 hts gX1_hasMore_X4_cell_n85 rfl rfl rfl hW.2.2.2.2.1 (hts _ lk_X1_hasMore_iniX4) (by decide +kernel) ⟨Nat.le_of_ble_eq_true rfl, Nat.le_of_ble_eq_true rfl⟩, hts _ lk_X1_hasMore_stX4_cell, trivial⟩ rfl hl.1 rfl (Nat.le_of_ble_eq_true rfl) dX1_hasMore_36 (fun H locs hW => ?_)
      obtain ⟨hv, hf⟩ := sc_ck_s hf
      refine sc_ldX_19 C0 hW hv dX1_hasMore_39 ?_
      refine lv_aload_n hx hb dX1_hasMore_40 rfl (lv_at hl 0 rfl) ?_
      refine sc_getX1 C0 hW ni_X1_hasMore_X1 15 (Nat.le_of_ble_eq_true rfl) lk_X1_hasMore_44 (v := .ref (h 19)) rfl dX1_hasMore_41 ?_
      refine lv_iload hx hb dX1_hasMore_44 (lv_at hl 4 rfl) ?_
      refine lv_iload_n hx hb dX1_hasMore_46 rfl (lv_at hl 2 rfl) ?_
      obtain ⟨r47, S47, hc, hf⟩ := sc_cl_s hf
      refine sc_callNi (As := [.int x4, .int x2]) (rest := [.ref (h 19), .long (sc_gb S36 19 r36.toNatClampNeg)]) sc_okX C0 hW (ct_X4_cell hc) ⟨va_cnB 2 hts gX1_hasMore_X4_cell_n85 rfl rfl rfl hW.2.2.2.2.1 (hts _ lk_X1_hasMore_iniX4) (by decide +kernel) ⟨Nat.le_of_ble_eq_true rfl, Nat.le_of_ble_eq_true rfl⟩, hts _ lk_X1_hasMore_stX4_cell, trivial⟩ rfl hl.1 rfl (Nat.le_of_ble_eq_true rfl) dX1_hasMore_47 (fun H locs hW => ?_)
      obtain ⟨hv, hf⟩ := sc_ck_s hf
      refine sc_ldX_19 C0 hW hv dX1_hasMore_50 ?_
      refine lv_lsub hx hb dX1_hasMore_51 ?_
      obtain ⟨y52, ey52, hf⟩ := sc_sq_s hf
      refine sc_topl ey52 ?_
      refine lv_lstore (lv' := [(5, .long y52), (0, .ref (h 2)), (1, .int x1), (2, .int x2), (3, .int x3), (4, .int x4)]) hx hb dX1_hasMore_52 hl (by decide) rfl (fun ls hl => ?_)
      refine lv_lload hx hb dX1_hasMore_54 (lv_at hl 0 rfl) ?_
      refine lv_lconst (v := (0 : Int64)) hx hb dX1_hasMore_56 (by decide) ?_
      refine sc_l_eq (tgt := 74) C0 dX1_hasMore_57 dX1_hasMore_58 (by decide) (fun hc => ?_) (fun hc => ?_)
      · replace hf := sc_ip hc hf
        refine lv_iinc (v := (x4 + (-1))) (lv' := [(4, .int (x4 + (-1))), (5, .long y52), (0, .ref (h 2)), (1, .int x1), (2, .int x2), (3, .int x3)]) hx hb dX1_hasMore_74 hl (k := 5) rfl rfl (by decide) rfl (fun ls hl => ?_)
        refine lv_goto (tgt := 23) hx hb dX1_hasMore_77 (by decide) ?_
        exact ih _ _ _ _ _ _ _ _ hf hW (lv_sub hl [2, 3, 4, 5, 0] rfl)
      · replace hf := sc_in hc hf
        refine lv_lload hx hb dX1_hasMore_61 (lv_at hl 0 rfl) ?_
        refine lv_lconst (v := (0 : Int64)) hx hb dX1_hasMore_63 (by decide) ?_
        refine sc_l_le (tgt := 72) C0 dX1_hasMore_64 dX1_hasMore_65 (by decide) (fun hc => ?_) (fun hc => ?_)
        · replace hf := sc_ip hc hf
          refine lv_iconst (v := (0 : Int32)) hx hb dX1_hasMore_72 (by decide) ?_
          exact sc_reti hR hf hW dX1_hasMore_73
        · replace hf := sc_in hc hf
          refine lv_iconst (v := (1 : Int32)) hx hb dX1_hasMore_68 (by decide) ?_
          refine lv_goto (tgt := 73) hx hb dX1_hasMore_69 (by decide) ?_
          exact sc_reti hR hf hW dX1_hasMore_73
set_option maxHeartbeats 4000000 in
set_option maxRecDepth 100000 in
theorem wk_X1_hasMore_16 (C0 : CallFix p m c cX1_hasMore 7 s args wsX1_hasMore RX1) {S' : sc_M} {r : Int32} (hR : sc_Ri p l e rm_X1_hasMore s m args below meth c Q cX1_hasMore (sc_EX dC dI h cy) S' r) : ∀ (S : sc_M) (x1 : Int32) (x2 : Int32) (z0 : Int32) (H : Heap) (locs : List Loc) (ls : Array Slot), fn_X1_hasMore_16 S x1 x2 z0 = some (r, S') → sc_W (sc_EX dC dI h cy) s H locs S → lv_has ls 7 [(0, .ref (h 2)), (1, .int x1), (2, .int x2)] → W p l e rm_X1_hasMore s m args below meth c H locs 0 0 Q (F0 m 16 ls [.int z0]) := by
  obtain ⟨hx, hb, hml, hown, hts⟩ := id C0
  intro S x1 x2 z0 H locs ls hf hW hl
  rw [fn_X1_hasMore_16] at hf
  refine lv_istore_n (lv' := [(3, .int z0), (0, .ref (h 2)), (1, .int x1), (2, .int x2)]) hx hb dX1_hasMore_16 rfl hl (by decide) rfl (fun ls hl => ?_)
  refine lv_aload_n hx hb dX1_hasMore_17 rfl (lv_at hl 1 rfl) ?_
  obtain ⟨r18, S18, hc, hf⟩ := sc_cl_s hf
  refine sc_callVi (As := []) (rest := []) (q0 := 2) (ci := 1) sc_okX C0 hW (ct_X1_now hc) (cwV 0 hts gX1_hasMore_X1_now rfl rfl rfl (by decide +kernel) ⟨Nat.le_of_ble_eq_true rfl, Nat.le_of_ble_eq_true rfl⟩) rfl rfl rfl rfl hl.1 rfl (Nat.le_of_ble_eq_true rfl) dX1_hasMore_18 (fun H locs hW => ?_)
  refine lv_istore (lv' := [(4, .int r18), (3, .int z0), (0, .ref (h 2)), (1, .int x1), (2, .int x2)]) hx hb dX1_hasMore_21 hl (by decide) rfl (fun ls hl => ?_)
  exact wk_X1_hasMore_23 C0 hR  sc_FU _ _ _ _ _ _ _ _ hf hW (lv_sub hl [2, 3, 4, 1, 0] rfl)
set_option maxHeartbeats 4000000 in
set_option maxRecDepth 100000 in
theorem wk_X1_hasMore_0 (C0 : CallFix p m c cX1_hasMore 7 s args wsX1_hasMore RX1) {S' : sc_M} {r : Int32} (hR : sc_Ri p l e rm_X1_hasMore s m args below meth c Q cX1_hasMore (sc_EX dC dI h cy) S' r) : ∀ (S : sc_M) (x1 : Int32) (x2 : Int32) (H : Heap) (locs : List Loc) (ls : Array Slot), fn_X1_hasMore_e S x1 x2 = some (r, S') → sc_W (sc_EX dC dI h cy) s H locs S → lv_has ls 7 [(0, .ref (h 2)), (1, .int x1), (2, .int x2)] → W p l e rm_X1_hasMore s m args below meth c H locs 0 0 Q (F0 m 0 ls []) := by
  obtain ⟨hx, hb, hml, hown, hts⟩ := id C0
  intro S x1 x2 H locs ls hf hW hl
  rw [fn_X1_hasMore_e] at hf
  refine lv_aload_n hx hb dX1_hasMore_0 rfl (lv_at hl 0 rfl) ?_
  refine sc_getX1 C0 hW ni_X1_hasMore_X1 0 (Nat.le_of_ble_eq_true rfl) lk_X1_hasMore_9 (v := .int (sc_gi S 2)) rfl dX1_hasMore_1 ?_
  refine lv_iconst (v := (3 : Int32)) hx hb dX1_hasMore_4 (by decide) ?_
  refine lv_icmp_ne (tgt := 15) hx hb dX1_hasMore_5 (by decide) (fun hc => ?_) (fun hc => ?_)
  · replace hf := sc_in hc hf
    refine lv_iconst (v := (0 : Int32)) hx hb dX1_hasMore_15 (by decide) ?_
    exact wk_X1_hasMore_16 C0 hR  _ _ _ _ _ _ _ hf hW (lv_sub hl [0, 1, 2] rfl)
  · replace hf := sc_ip hc hf
    refine lv_aload_n hx hb dX1_hasMore_8 rfl (lv_at hl 0 rfl) ?_
    obtain ⟨r9, S9, hc, hf⟩ := sc_cl_s hf
    refine sc_callVi (As := []) (rest := []) (q0 := 2) (ci := 1) sc_okX C0 hW (ct_X1_now hc) (cwV 0 hts gX1_hasMore_X1_now rfl rfl rfl (by decide +kernel) ⟨Nat.le_of_ble_eq_true rfl, Nat.le_of_ble_eq_true rfl⟩) rfl rfl rfl rfl hl.1 rfl (Nat.le_of_ble_eq_true rfl) dX1_hasMore_9 (fun H locs hW => ?_)
    refine lv_goto (tgt := 16) hx hb dX1_hasMore_12 (by decide) ?_
    exact wk_X1_hasMore_16 C0 hR  _ _ _ _ _ _ _ hf hW (lv_sub hl [0, 1, 2] rfl)
set_option maxRecDepth 100000 in
theorem ct_X1_hasMore {S S' : sc_M} {r : Int32} {x1 : Int32} {x2 : Int32} (hf : fn_X1_hasMore S x1 x2 = some (r, S')) : sc_Ci l yX1_hasMore wsX1_hasMore rm_X1_hasMore (sc_EX dC dI h cy) [.ref (h 2), .int x1, .int x2] S S' r := by
  obtain ⟨hf, h01⟩ := sc_bz_s hf
  refine sc_ofi (cc := cX1_hasMore) (maxL := 7) .boolean (sc_nar01 h01) sc_okX (by decide) rfl (Nat.le_of_ble_eq_true rfl) ?_
  intro p e s m below meth c Q C0 hR hW ls hl
  exact wk_X1_hasMore_0 C0 hR _ _ _ _ _ _ hf hW hl
end

/-! ===== SeatCounts$Journal.most(IJ)I ===== -/
abbrev rm_X1_most : Room := { frames := 2, cells := 0, slots := 0, locals := 47 }
theorem lk_X1_most_44 : Cond.fieldLink RX1 44 "SeatCounts$Journal" "votes" "[J" ∈ wsX1_most := by decide +kernel
theorem lk_X1_most_47 : Cond.fieldLink RX1 47 "SeatCounts$Journal" "states" "[I" ∈ wsX1_most := by decide +kernel
theorem lk_X1_most_60 : Cond.fieldLink RX1 60 "SeatCounts$Journal" "candidates" "I" ∈ wsX1_most := by decide +kernel
theorem lk_X1_most_72 : Cond.fieldLink RX1 72 "SeatCounts$Journal" "row" "I" ∈ wsX1_most := by decide +kernel
theorem ni_X1_most_X1 : ∀ w ∈ wsX10, w ∈ wsX1_most := by decide +kernel
noncomputable def fn_X1_most_54 (k7 : sc_M → Int32 → Int64 → Int32 → Int32 → Option (Int32 × sc_M)) (S : sc_M) (x1 : Int32) (x2 : Int64) (x4 : Int32) (x5 : Int32) (z0 : Int32) : Option (Int32 × sc_M) :=
  if z0 = 0 then
    k7 S x1 x2 x4 (x5 + 1)
  else
    if x4 = (-9 : Int32) then
      k7 S x1 x2 x5 (x5 + 1)
    else
      sc_cl (fn_X1_hasMore S x5 x4) (fun r73 S73 => if r73 = 0 then
        k7 S73 x1 x2 x4 (x5 + 1)
      else
        k7 S73 x1 x2 x5 (x5 + 1))
noncomputable def fn_X1_most_53 (k7 : sc_M → Int32 → Int64 → Int32 → Int32 → Option (Int32 × sc_M)) (S : sc_M) (x1 : Int32) (x2 : Int64) (x4 : Int32) (x5 : Int32) : Option (Int32 × sc_M) :=
  fn_X1_most_54 k7 S x1 x2 x4 x5 (0 : Int32)
noncomputable def fn_X1_most_7 : Nat → sc_M → Int32 → Int64 → Int32 → Int32 → Option (Int32 × sc_M)
  | 0, _, _, _, _, _ => none
  | n + 1, S, x1, x2, x4, x5 =>
    if (sc_gi S 4) ≤ x5 then
      some (x4, S)
    else
      sc_ck ((sc_gi S 6) + x5) 864 (if (sc_ga S 20 ((sc_gi S 6) + x5).toNatClampNeg) = x1 then
        sc_ck ((sc_gi S 6) + x5) 864 (if (sc_gb S 19 ((sc_gi S 6) + x5).toNatClampNeg) < x2 then
          fn_X1_most_53 (fn_X1_most_7 n) S x1 x2 x4 x5
        else
          fn_X1_most_54 (fn_X1_most_7 n) S x1 x2 x4 x5 (1 : Int32))
      else
        fn_X1_most_53 (fn_X1_most_7 n) S x1 x2 x4 x5)
noncomputable def fn_X1_most (S : sc_M) (x1 : Int32) (x2 : Int64) : Option (Int32 × sc_M) :=
  fn_X1_most_7 sc_FU S x1 x2 (-9 : Int32) (0 : Int32)
section
variable {p : Program} {l : Launch} {e : Env} {s : State} {m : MethodId} {args : Array Value} {below : List Frame} {meth : Method} {c : Code} {Q : State → Prop} {dC : Nat → ClassId} {dI : Nat → Nat → Nat} {h : Nat → Nat} {cy : Nat → ClassId}
set_option maxHeartbeats 4000000 in
set_option maxRecDepth 100000 in
theorem wk_X1_most_54 (C0 : CallFix p m c cX1_most 7 s args wsX1_most RX1) {S' : sc_M} {r : Int32} (hR : sc_Ri p l e rm_X1_most s m args below meth c Q cX1_most (sc_EX dC dI h cy) S' r) {k7 : sc_M → Int32 → Int64 → Int32 → Int32 → Option (Int32 × sc_M)} (hk7 : ∀ (S : sc_M) (x1 : Int32) (x2 : Int64) (x4 : Int32) (x5 : Int32) (H : Heap) (locs : List Loc) (ls : Array Slot), k7 S x1 x2 x4 x5 = some (r, S') → sc_W (sc_EX dC dI h cy) s H locs S → lv_has ls 7 [(0, .ref (h 2)), (1, .int x1), (2, .long x2), (4, .int x4), (5, .int x5)] → W p l e rm_X1_most s m args below meth c H locs 0 0 Q (F0 m 7 ls [])) : ∀ (S : sc_M) (x1 : Int32) (x2 : Int64) (x4 : Int32) (x5 : Int32) (z0 : Int32) (H : Heap) (locs : List Loc) (ls : Array Slot), fn_X1_most_54 k7 S x1 x2 x4 x5 z0 = some (r, S') → sc_W (sc_EX dC dI h cy) s H locs S → lv_has ls 7 [(0, .ref (h 2)), (1, .int x1), (2, .long x2), (4, .int x4), (5, .int x5)] → W p l e rm_X1_most s m args below meth c H locs 0 0 Q (F0 m 54 ls [.int z0]) := by
  obtain ⟨hx, hb, hml, hown, hts⟩ := id C0
  intro S x1 x2 x4 x5 z0 H locs ls hf hW hl
  rw [fn_X1_most_54] at hf
  refine lv_istore (lv' := [(6, .int z0), (0, .ref (h 2)), (1, .int x1), (2, .long x2), (4, .int x4), (5, .int x5)]) hx hb dX1_most_54 hl (by decide) rfl (fun ls hl => ?_)
  refine lv_iload hx hb dX1_most_56 (lv_at hl 0 rfl) ?_
  refine lv_if_eq (tgt := 83) hx hb dX1_most_58 (by decide) (fun hc => ?_) (fun hc => ?_)
  · replace hf := sc_ip hc hf
    refine lv_iinc (v := (x5 + 1)) (lv' := [(5, .int (x5 + 1)), (6, .int z0), (0, .ref (h 2)), (1, .int x1), (2, .long x2), (4, .int x4)]) hx hb dX1_most_83 hl (k := 5) rfl rfl (by decide) rfl (fun ls hl => ?_)
    refine lv_goto (tgt := 7) hx hb dX1_most_86 (by decide) ?_
    exact hk7 _ _ _ _ _ _ _ _ hf hW (lv_sub hl [2, 3, 4, 5, 0] rfl)
  · replace hf := sc_in hc hf
    refine lv_iload hx hb dX1_most_61 (lv_at hl 4 rfl) ?_
    refine lv_bipush (v := (-9 : Int32)) hx hb dX1_most_63 (by decide) ?_
    refine lv_icmp_eq (tgt := 79) hx hb dX1_most_65 (by decide) (fun hc => ?_) (fun hc => ?_)
    · replace hf := sc_ip hc hf
      refine lv_iload hx hb dX1_most_79 (lv_at hl 5 rfl) ?_
      refine lv_istore (lv' := [(4, .int x5), (6, .int z0), (0, .ref (h 2)), (1, .int x1), (2, .long x2), (5, .int x5)]) hx hb dX1_most_81 hl (by decide) rfl (fun ls hl => ?_)
      refine lv_iinc (v := (x5 + 1)) (lv' := [(5, .int (x5 + 1)), (4, .int x5), (6, .int z0), (0, .ref (h 2)), (1, .int x1), (2, .long x2)]) hx hb dX1_most_83 hl (k := 5) rfl rfl (by decide) rfl (fun ls hl => ?_)
      refine lv_goto (tgt := 7) hx hb dX1_most_86 (by decide) ?_
      exact hk7 _ _ _ _ _ _ _ _ hf hW (lv_sub hl [3, 4, 5, 1, 0] rfl)
    · replace hf := sc_in hc hf
      refine lv_aload_n hx hb dX1_most_68 rfl (lv_at hl 1 rfl) ?_
      refine lv_iload hx hb dX1_most_69 (lv_at hl 5 rfl) ?_
      refine lv_iload hx hb dX1_most_71 (lv_at hl 4 rfl) ?_
      obtain ⟨r73, S73, hc, hf⟩ := sc_cl_s hf
      refine sc_callVi (As := [.int x5, .int x4]) (rest := []) (q0 := 2) (ci := 1) sc_okX C0 hW (ct_X1_hasMore hc) (cwV 2 hts gX1_most_X1_hasMore rfl rfl rfl (by decide +kernel) ⟨Nat.le_of_ble_eq_true rfl, Nat.le_of_ble_eq_true rfl⟩) rfl rfl rfl rfl hl.1 rfl (Nat.le_of_ble_eq_true rfl) dX1_most_73 (fun H locs hW => ?_)
      refine lv_if_eq (tgt := 83) hx hb dX1_most_76 (by decide) (fun hc => ?_) (fun hc => ?_)
      · replace hf := sc_ip hc hf
        refine lv_iinc (v := (x5 + 1)) (lv' := [(5, .int (x5 + 1)), (6, .int z0), (0, .ref (h 2)), (1, .int x1), (2, .long x2), (4, .int x4)]) hx hb dX1_most_83 hl (k := 5) rfl rfl (by decide) rfl (fun ls hl => ?_)
        refine lv_goto (tgt := 7) hx hb dX1_most_86 (by decide) ?_
        exact hk7 _ _ _ _ _ _ _ _ hf hW (lv_sub hl [2, 3, 4, 5, 0] rfl)
      · replace hf := sc_in hc hf
        refine lv_iload hx hb dX1_most_79 (lv_at hl 5 rfl) ?_
        refine lv_istore (lv' := [(4, .int x5), (6, .int z0), (0, .ref (h 2)), (1, .int x1), (2, .long x2), (5, .int x5)]) hx hb dX1_most_81 hl (by decide) rfl (fun ls hl => ?_)
        refine lv_iinc (v := (x5 + 1)) (lv' := [(5, .int (x5 + 1)), (4, .int x5), (6, .int z0), (0, .ref (h 2)), (1, .int x1), (2, .long x2)]) hx hb dX1_most_83 hl (k := 5) rfl rfl (by decide) rfl (fun ls hl => ?_)
        refine lv_goto (tgt := 7) hx hb dX1_most_86 (by decide) ?_
        exact hk7 _ _ _ _ _ _ _ _ hf hW (lv_sub hl [3, 4, 5, 1, 0] rfl)
set_option maxHeartbeats 4000000 in
set_option maxRecDepth 100000 in
theorem wk_X1_most_53 (C0 : CallFix p m c cX1_most 7 s args wsX1_most RX1) {S' : sc_M} {r : Int32} (hR : sc_Ri p l e rm_X1_most s m args below meth c Q cX1_most (sc_EX dC dI h cy) S' r) {k7 : sc_M → Int32 → Int64 → Int32 → Int32 → Option (Int32 × sc_M)} (hk7 : ∀ (S : sc_M) (x1 : Int32) (x2 : Int64) (x4 : Int32) (x5 : Int32) (H : Heap) (locs : List Loc) (ls : Array Slot), k7 S x1 x2 x4 x5 = some (r, S') → sc_W (sc_EX dC dI h cy) s H locs S → lv_has ls 7 [(0, .ref (h 2)), (1, .int x1), (2, .long x2), (4, .int x4), (5, .int x5)] → W p l e rm_X1_most s m args below meth c H locs 0 0 Q (F0 m 7 ls [])) : ∀ (S : sc_M) (x1 : Int32) (x2 : Int64) (x4 : Int32) (x5 : Int32) (H : Heap) (locs : List Loc) (ls : Array Slot), fn_X1_most_53 k7 S x1 x2 x4 x5 = some (r, S') → sc_W (sc_EX dC dI h cy) s H locs S → lv_has ls 7 [(0, .ref (h 2)), (1, .int x1), (2, .long x2), (4, .int x4), (5, .int x5)] → W p l e rm_X1_most s m args below meth c H locs 0 0 Q (F0 m 53 ls []) := by
  obtain ⟨hx, hb, hml, hown, hts⟩ := id C0
  intro S x1 x2 x4 x5 H locs ls hf hW hl
  rw [fn_X1_most_53] at hf
  refine lv_iconst (v := (0 : Int32)) hx hb dX1_most_53 (by decide) ?_
  exact wk_X1_most_54 C0 hR hk7 _ _ _ _ _ _ _ _ _ hf hW (lv_sub hl [0, 1, 2, 3, 4] rfl)
set_option maxHeartbeats 4000000 in
set_option maxRecDepth 100000 in
theorem wk_X1_most_7 (C0 : CallFix p m c cX1_most 7 s args wsX1_most RX1) {S' : sc_M} {r : Int32} (hR : sc_Ri p l e rm_X1_most s m args below meth c Q cX1_most (sc_EX dC dI h cy) S' r) : ∀ n : Nat, ∀ (S : sc_M) (x1 : Int32) (x2 : Int64) (x4 : Int32) (x5 : Int32) (H : Heap) (locs : List Loc) (ls : Array Slot), fn_X1_most_7 n S x1 x2 x4 x5 = some (r, S') → sc_W (sc_EX dC dI h cy) s H locs S → lv_has ls 7 [(0, .ref (h 2)), (1, .int x1), (2, .long x2), (4, .int x4), (5, .int x5)] → W p l e rm_X1_most s m args below meth c H locs 0 0 Q (F0 m 7 ls []) := by
  obtain ⟨hx, hb, hml, hown, hts⟩ := id C0
  intro n
  induction n with
  | zero => intro S x1 x2 x4 x5 H locs ls; intro hf; cases hf
  | succ n ih =>
    intro S x1 x2 x4 x5 H locs ls hf hW hl
    rw [fn_X1_most_7] at hf
    refine lv_iload hx hb dX1_most_7 (lv_at hl 4 rfl) ?_
    refine lv_aload_n hx hb dX1_most_9 rfl (lv_at hl 0 rfl) ?_
    refine sc_getX1 C0 hW ni_X1_most_X1 2 (Nat.le_of_ble_eq_true rfl) lk_X1_most_60 (v := .int (sc_gi S 4)) rfl dX1_most_10 ?_
    refine lv_icmp_ge (tgt := 89) hx hb dX1_most_13 (by decide) (fun hc => ?_) (fun hc => ?_)
    · replace hf := sc_ip hc hf
      refine lv_iload hx hb dX1_most_89 (lv_at hl 3 rfl) ?_
      exact sc_reti hR hf hW dX1_most_91
    · replace hf := sc_in hc hf
      refine lv_aload_n hx hb dX1_most_16 rfl (lv_at hl 0 rfl) ?_
      refine sc_getX1 C0 hW ni_X1_most_X1 16 (Nat.le_of_ble_eq_true rfl) lk_X1_most_47 (v := .ref (h 20)) rfl dX1_most_17 ?_
      refine lv_aload_n hx hb dX1_most_20 rfl (lv_at hl 0 rfl) ?_
      refine sc_getX1 C0 hW ni_X1_most_X1 4 (Nat.le_of_ble_eq_true rfl) lk_X1_most_72 (v := .int (sc_gi S 6)) rfl dX1_most_21 ?_
      refine lv_iload hx hb dX1_most_24 (lv_at hl 4 rfl) ?_
      refine lv_iadd hx hb dX1_most_26 ?_
      obtain ⟨hv, hf⟩ := sc_ck_s hf
      refine sc_ldX_20 C0 hW hv dX1_most_27 ?_
      refine lv_iload_n hx hb dX1_most_28 rfl (lv_at hl 1 rfl) ?_
      refine lv_icmp_ne (tgt := 53) hx hb dX1_most_29 (by decide) (fun hc => ?_) (fun hc => ?_)
      · replace hf := sc_in hc hf
        exact wk_X1_most_53 C0 hR ih _ _ _ _ _ _ _ _ hf hW (lv_sub hl [0, 1, 2, 3, 4] rfl)
      · replace hf := sc_ip hc hf
        refine lv_aload_n hx hb dX1_most_32 rfl (lv_at hl 0 rfl) ?_
        refine sc_getX1 C0 hW ni_X1_most_X1 15 (Nat.le_of_ble_eq_true rfl) lk_X1_most_44 (v := .ref (h 19)) rfl dX1_most_33 ?_
        refine lv_aload_n hx hb dX1_most_36 rfl (lv_at hl 0 rfl) ?_
        refine sc_getX1 C0 hW ni_X1_most_X1 4 (Nat.le_of_ble_eq_true rfl) lk_X1_most_72 (v := .int (sc_gi S 6)) rfl dX1_most_37 ?_
        refine lv_iload hx hb dX1_most_40 (lv_at hl 4 rfl) ?_
        refine lv_iadd hx hb dX1_most_42 ?_
        obtain ⟨hv, hf⟩ := sc_ck_s hf
        refine sc_ldX_19 C0 hW hv dX1_most_43 ?_
        refine lv_lload_n hx hb dX1_most_44 rfl (lv_at hl 2 rfl) ?_
        refine sc_l_lt (tgt := 53) C0 dX1_most_45 dX1_most_46 (by decide) (fun hc => ?_) (fun hc => ?_)
        · replace hf := sc_ip hc hf
          exact wk_X1_most_53 C0 hR ih _ _ _ _ _ _ _ _ hf hW (lv_sub hl [0, 1, 2, 3, 4] rfl)
        · replace hf := sc_in hc hf
          refine lv_iconst (v := (1 : Int32)) hx hb dX1_most_49 (by decide) ?_
          refine lv_goto (tgt := 54) hx hb dX1_most_50 (by decide) ?_
          exact wk_X1_most_54 C0 hR ih _ _ _ _ _ _ _ _ _ hf hW (lv_sub hl [0, 1, 2, 3, 4] rfl)
set_option maxHeartbeats 4000000 in
set_option maxRecDepth 100000 in
theorem wk_X1_most_0 (C0 : CallFix p m c cX1_most 7 s args wsX1_most RX1) {S' : sc_M} {r : Int32} (hR : sc_Ri p l e rm_X1_most s m args below meth c Q cX1_most (sc_EX dC dI h cy) S' r) : ∀ (S : sc_M) (x1 : Int32) (x2 : Int64) (H : Heap) (locs : List Loc) (ls : Array Slot), fn_X1_most S x1 x2 = some (r, S') → sc_W (sc_EX dC dI h cy) s H locs S → lv_has ls 7 [(0, .ref (h 2)), (1, .int x1), (2, .long x2)] → W p l e rm_X1_most s m args below meth c H locs 0 0 Q (F0 m 0 ls []) := by
  obtain ⟨hx, hb, hml, hown, hts⟩ := id C0
  intro S x1 x2 H locs ls hf hW hl
  rw [fn_X1_most] at hf
  refine lv_bipush (v := (-9 : Int32)) hx hb dX1_most_0 (by decide) ?_
  refine lv_istore (lv' := [(4, .int (-9 : Int32)), (0, .ref (h 2)), (1, .int x1), (2, .long x2)]) hx hb dX1_most_2 hl (by decide) rfl (fun ls hl => ?_)
  refine lv_iconst (v := (0 : Int32)) hx hb dX1_most_4 (by decide) ?_
  refine lv_istore (lv' := [(5, .int (0 : Int32)), (4, .int (-9 : Int32)), (0, .ref (h 2)), (1, .int x1), (2, .long x2)]) hx hb dX1_most_5 hl (by decide) rfl (fun ls hl => ?_)
  exact wk_X1_most_7 C0 hR  sc_FU _ _ _ _ _ _ _ _ hf hW (lv_sub hl [2, 3, 4, 1, 0] rfl)
set_option maxRecDepth 100000 in
theorem ct_X1_most {S S' : sc_M} {r : Int32} {x1 : Int32} {x2 : Int64} (hf : fn_X1_most S x1 x2 = some (r, S')) : sc_Ci l yX1_most wsX1_most rm_X1_most (sc_EX dC dI h cy) [.ref (h 2), .int x1, .long x2] S S' r := by
  refine sc_ofi (cc := cX1_most) (maxL := 7) .int rfl sc_okX (by decide) rfl (Nat.le_of_ble_eq_true rfl) ?_
  intro p e s m below meth c Q C0 hR hW ls hl
  exact wk_X1_most_0 C0 hR _ _ _ _ _ _ hf hW hl
end

/-! ===== SeatCounts$Journal.electFrom(J)V ===== -/
abbrev rm_X1_electFrom : Room := { frames := 3, cells := 0, slots := 0, locals := 73 }
theorem lk_X1_electFrom_15 : Cond.fieldLink RX1 15 "SeatCounts$Journal" "order" "[I" ∈ wsX1_electFrom := by decide +kernel
theorem lk_X1_electFrom_47 : Cond.fieldLink RX1 47 "SeatCounts$Journal" "states" "[I" ∈ wsX1_electFrom := by decide +kernel
theorem lk_X1_electFrom_60 : Cond.fieldLink RX1 60 "SeatCounts$Journal" "candidates" "I" ∈ wsX1_electFrom := by decide +kernel
theorem lk_X1_electFrom_69 : Cond.fieldLink RX1 69 "SeatCounts$Journal" "electedOnes" "I" ∈ wsX1_electFrom := by decide +kernel
theorem lk_X1_electFrom_72 : Cond.fieldLink RX1 72 "SeatCounts$Journal" "row" "I" ∈ wsX1_electFrom := by decide +kernel
theorem ni_X1_electFrom_X1 : ∀ w ∈ wsX10, w ∈ wsX1_electFrom := by decide +kernel
noncomputable def fn_X1_electFrom_5 : Nat → sc_M → Int64 → Int32 → Option (sc_M)
  | 0, _, _, _ => none
  | n + 1, S, x1, x3 =>
    if (sc_gi S 4) ≤ x3 then
      some S
    else
      sc_cl (fn_X1_most S (0 : Int32) x1) (fun r16 S16 => if r16 = (-9 : Int32) then
        some S16
      else
        sc_ck ((sc_gi S16 6) + r16) 864 (sc_sq (sc_mA S16 20 (upd (sc_ga S16 20) ((sc_gi S16 6) + r16).toNatClampNeg (1 : Int32))) (fun S41 => sc_ck x3 12 (sc_sq (sc_mA S41 10 (upd (sc_ga S41 10) x3.toNatClampNeg r16)) (fun S49 => sc_sq (sc_mi S49 7 (x3 + (1 : Int32))) (fun S54 => fn_X1_electFrom_5 n S54 x1 (x3 + 1)))))))
noncomputable def fn_X1_electFrom (S : sc_M) (x1 : Int64) : Option (sc_M) :=
  sc_sq ((sc_gi S 7)) (fun y4 => fn_X1_electFrom_5 sc_FU S x1 y4)
section
variable {p : Program} {l : Launch} {e : Env} {s : State} {m : MethodId} {args : Array Value} {below : List Frame} {meth : Method} {c : Code} {Q : State → Prop} {dC : Nat → ClassId} {dI : Nat → Nat → Nat} {h : Nat → Nat} {cy : Nat → ClassId}
set_option maxHeartbeats 4000000 in
set_option maxRecDepth 100000 in
theorem wk_X1_electFrom_5 (C0 : CallFix p m c cX1_electFrom 5 s args wsX1_electFrom RX1) {S' : sc_M} (hR : sc_Rv p l e rm_X1_electFrom s m args below meth c Q cX1_electFrom (sc_EX dC dI h cy) S') : ∀ n : Nat, ∀ (S : sc_M) (x1 : Int64) (x3 : Int32) (H : Heap) (locs : List Loc) (ls : Array Slot), fn_X1_electFrom_5 n S x1 x3 = some S' → sc_W (sc_EX dC dI h cy) s H locs S → lv_has ls 5 [(0, .ref (h 2)), (1, .long x1), (3, .int x3)] → W p l e rm_X1_electFrom s m args below meth c H locs 0 0 Q (F0 m 5 ls []) := by
  obtain ⟨hx, hb, hml, hown, hts⟩ := id C0
  intro n
  induction n with
  | zero => intro S x1 x3 H locs ls; intro hf; cases hf
  | succ n ih =>
    intro S x1 x3 H locs ls hf hW hl
    rw [fn_X1_electFrom_5] at hf
    refine lv_iload_n hx hb dX1_electFrom_5 rfl (lv_at hl 2 rfl) ?_
    refine lv_aload_n hx hb dX1_electFrom_6 rfl (lv_at hl 0 rfl) ?_
    refine sc_getX1 C0 hW ni_X1_electFrom_X1 2 (Nat.le_of_ble_eq_true rfl) lk_X1_electFrom_60 (v := .int (sc_gi S 4)) rfl dX1_electFrom_7 ?_
    refine lv_icmp_ge (tgt := 63) hx hb dX1_electFrom_10 (by decide) (fun hc => ?_) (fun hc => ?_)
    · replace hf := sc_ip hc hf
      exact sc_retv hR hf hW dX1_electFrom_63
    · replace hf := sc_in hc hf
      refine lv_aload_n hx hb dX1_electFrom_13 rfl (lv_at hl 0 rfl) ?_
      refine lv_iconst (v := (0 : Int32)) hx hb dX1_electFrom_14 (by decide) ?_
      refine lv_lload_n hx hb dX1_electFrom_15 rfl (lv_at hl 1 rfl) ?_
      obtain ⟨r16, S16, hc, hf⟩ := sc_cl_s hf
      refine sc_callVi (As := [.int (0 : Int32), .long x1]) (rest := []) (q0 := 2) (ci := 1) sc_okX C0 hW (ct_X1_most hc) (cwV 2 hts gX1_electFrom_X1_most rfl rfl rfl (by decide +kernel) ⟨Nat.le_of_ble_eq_true rfl, Nat.le_of_ble_eq_true rfl⟩) rfl rfl rfl rfl hl.1 rfl (Nat.le_of_ble_eq_true rfl) dX1_electFrom_16 (fun H locs hW => ?_)
      refine lv_istore (lv' := [(4, .int r16), (0, .ref (h 2)), (1, .long x1), (3, .int x3)]) hx hb dX1_electFrom_19 hl (by decide) rfl (fun ls hl => ?_)
      refine lv_iload hx hb dX1_electFrom_21 (lv_at hl 0 rfl) ?_
      refine lv_bipush (v := (-9 : Int32)) hx hb dX1_electFrom_23 (by decide) ?_
      refine lv_icmp_ne (tgt := 29) hx hb dX1_electFrom_25 (by decide) (fun hc => ?_) (fun hc => ?_)
      · replace hf := sc_in hc hf
        refine lv_aload_n hx hb dX1_electFrom_29 rfl (lv_at hl 1 rfl) ?_
        refine sc_getX1 C0 hW ni_X1_electFrom_X1 16 (Nat.le_of_ble_eq_true rfl) lk_X1_electFrom_47 (v := .ref (h 20)) rfl dX1_electFrom_30 ?_
        refine lv_aload_n hx hb dX1_electFrom_33 rfl (lv_at hl 1 rfl) ?_
        refine sc_getX1 C0 hW ni_X1_electFrom_X1 4 (Nat.le_of_ble_eq_true rfl) lk_X1_electFrom_72 (v := .int (sc_gi S16 6)) rfl dX1_electFrom_34 ?_
        refine lv_iload hx hb dX1_electFrom_37 (lv_at hl 0 rfl) ?_
        refine lv_iadd hx hb dX1_electFrom_39 ?_
        refine lv_iconst (v := (1 : Int32)) hx hb dX1_electFrom_40 (by decide) ?_
        obtain ⟨hv, hf⟩ := sc_ck_s hf
        obtain ⟨S41, eS41, hf⟩ := sc_sq_s hf
        refine sc_stX_20 C0 hW hv eS41 dX1_electFrom_41 (fun H locs hW => ?_)
        refine lv_aload_n hx hb dX1_electFrom_42 rfl (lv_at hl 1 rfl) ?_
        refine sc_getX1 C0 hW ni_X1_electFrom_X1 6 (Nat.le_of_ble_eq_true rfl) lk_X1_electFrom_15 (v := .ref (h 10)) rfl dX1_electFrom_43 ?_
        refine lv_iload_n hx hb dX1_electFrom_46 rfl (lv_at hl 3 rfl) ?_
        refine lv_iload hx hb dX1_electFrom_47 (lv_at hl 0 rfl) ?_
        obtain ⟨hv, hf⟩ := sc_ck_s hf
        obtain ⟨S49, eS49, hf⟩ := sc_sq_s hf
        refine sc_stX_10 C0 hW hv eS49 dX1_electFrom_49 (fun H locs hW => ?_)
        refine lv_aload_n hx hb dX1_electFrom_50 rfl (lv_at hl 1 rfl) ?_
        refine lv_iload_n hx hb dX1_electFrom_51 rfl (lv_at hl 3 rfl) ?_
        refine lv_iconst (v := (1 : Int32)) hx hb dX1_electFrom_52 (by decide) ?_
        refine lv_iadd hx hb dX1_electFrom_53 ?_
        obtain ⟨S54, eS54, hf⟩ := sc_sq_s hf
        refine sc_putX1_electedOnes C0 hW ni_X1_electFrom_X1 lk_X1_electFrom_69 eS54 dX1_electFrom_54 (fun H locs hW => ?_)
        refine lv_iinc (v := (x3 + 1)) (lv' := [(3, .int (x3 + 1)), (4, .int r16), (0, .ref (h 2)), (1, .long x1)]) hx hb dX1_electFrom_57 hl (k := 3) rfl rfl (by decide) rfl (fun ls hl => ?_)
        refine lv_goto (tgt := 5) hx hb dX1_electFrom_60 (by decide) ?_
        exact ih _ _ _ _ _ _ hf hW (lv_sub hl [2, 3, 0] rfl)
      · replace hf := sc_ip hc hf
        exact sc_retv hR hf hW dX1_electFrom_28
set_option maxHeartbeats 4000000 in
set_option maxRecDepth 100000 in
theorem wk_X1_electFrom_0 (C0 : CallFix p m c cX1_electFrom 5 s args wsX1_electFrom RX1) {S' : sc_M} (hR : sc_Rv p l e rm_X1_electFrom s m args below meth c Q cX1_electFrom (sc_EX dC dI h cy) S') : ∀ (S : sc_M) (x1 : Int64) (H : Heap) (locs : List Loc) (ls : Array Slot), fn_X1_electFrom S x1 = some S' → sc_W (sc_EX dC dI h cy) s H locs S → lv_has ls 5 [(0, .ref (h 2)), (1, .long x1)] → W p l e rm_X1_electFrom s m args below meth c H locs 0 0 Q (F0 m 0 ls []) := by
  obtain ⟨hx, hb, hml, hown, hts⟩ := id C0
  intro S x1 H locs ls hf hW hl
  rw [fn_X1_electFrom] at hf
  refine lv_aload_n hx hb dX1_electFrom_0 rfl (lv_at hl 0 rfl) ?_
  refine sc_getX1 C0 hW ni_X1_electFrom_X1 5 (Nat.le_of_ble_eq_true rfl) lk_X1_electFrom_69 (v := .int (sc_gi S 7)) rfl dX1_electFrom_1 ?_
  obtain ⟨y4, ey4, hf⟩ := sc_sq_s hf
  refine sc_topi ey4 ?_
  refine lv_istore_n (lv' := [(3, .int y4), (0, .ref (h 2)), (1, .long x1)]) hx hb dX1_electFrom_4 rfl hl (by decide) rfl (fun ls hl => ?_)
  exact wk_X1_electFrom_5 C0 hR  sc_FU _ _ _ _ _ _ hf hW (lv_sub hl [1, 2, 0] rfl)
set_option maxRecDepth 100000 in
theorem ct_X1_electFrom {S S' : sc_M} {x1 : Int64} (hf : fn_X1_electFrom S x1 = some S') : sc_Cv l yX1_electFrom wsX1_electFrom rm_X1_electFrom (sc_EX dC dI h cy) [.ref (h 2), .long x1] S S' := by
  refine sc_ofv (cc := cX1_electFrom) (maxL := 5) sc_okX (by decide) rfl (Nat.le_of_ble_eq_true rfl) ?_
  intro p e s m below meth c Q C0 hR hW ls hl
  exact wk_X1_electFrom_0 C0 hR _ _ _ _ _ hf hW hl
end

/-! ===== SeatCounts$Journal.hopefulOnes()I ===== -/
abbrev rm_X1_hopefulOnes : Room := { frames := 1, cells := 0, slots := 0, locals := 21 }
theorem lk_X1_hopefulOnes_60 : Cond.fieldLink RX1 60 "SeatCounts$Journal" "candidates" "I" ∈ wsX1_hopefulOnes := by decide +kernel
theorem ni_X1_hopefulOnes_X1 : ∀ w ∈ wsX10, w ∈ wsX1_hopefulOnes := by decide +kernel
noncomputable def fn_X1_hopefulOnes_4 : Nat → sc_M → Int32 → Int32 → Option (Int32 × sc_M)
  | 0, _, _, _ => none
  | n + 1, S, x1, x2 =>
    if (sc_gi S 4) ≤ x2 then
      some (x1, S)
    else
      sc_cl (fn_X1_isHopeful S x2) (fun r14 S14 => if r14 = 0 then
        fn_X1_hopefulOnes_4 n S14 x1 (x2 + 1)
      else
        fn_X1_hopefulOnes_4 n S14 (x1 + 1) (x2 + 1))
noncomputable def fn_X1_hopefulOnes (S : sc_M) : Option (Int32 × sc_M) :=
  fn_X1_hopefulOnes_4 sc_FU S (0 : Int32) (0 : Int32)
section
variable {p : Program} {l : Launch} {e : Env} {s : State} {m : MethodId} {args : Array Value} {below : List Frame} {meth : Method} {c : Code} {Q : State → Prop} {dC : Nat → ClassId} {dI : Nat → Nat → Nat} {h : Nat → Nat} {cy : Nat → ClassId}
set_option maxHeartbeats 4000000 in
set_option maxRecDepth 100000 in
theorem wk_X1_hopefulOnes_4 (C0 : CallFix p m c cX1_hopefulOnes 3 s args wsX1_hopefulOnes RX1) {S' : sc_M} {r : Int32} (hR : sc_Ri p l e rm_X1_hopefulOnes s m args below meth c Q cX1_hopefulOnes (sc_EX dC dI h cy) S' r) : ∀ n : Nat, ∀ (S : sc_M) (x1 : Int32) (x2 : Int32) (H : Heap) (locs : List Loc) (ls : Array Slot), fn_X1_hopefulOnes_4 n S x1 x2 = some (r, S') → sc_W (sc_EX dC dI h cy) s H locs S → lv_has ls 3 [(0, .ref (h 2)), (1, .int x1), (2, .int x2)] → W p l e rm_X1_hopefulOnes s m args below meth c H locs 0 0 Q (F0 m 4 ls []) := by
  obtain ⟨hx, hb, hml, hown, hts⟩ := id C0
  intro n
  induction n with
  | zero => intro S x1 x2 H locs ls; intro hf; cases hf
  | succ n ih =>
    intro S x1 x2 H locs ls hf hW hl
    rw [fn_X1_hopefulOnes_4] at hf
    refine lv_iload_n hx hb dX1_hopefulOnes_4 rfl (lv_at hl 2 rfl) ?_
    refine lv_aload_n hx hb dX1_hopefulOnes_5 rfl (lv_at hl 0 rfl) ?_
    refine sc_getX1 C0 hW ni_X1_hopefulOnes_X1 2 (Nat.le_of_ble_eq_true rfl) lk_X1_hopefulOnes_60 (v := .int (sc_gi S 4)) rfl dX1_hopefulOnes_6 ?_
    refine lv_icmp_ge (tgt := 29) hx hb dX1_hopefulOnes_9 (by decide) (fun hc => ?_) (fun hc => ?_)
    · replace hf := sc_ip hc hf
      refine lv_iload_n hx hb dX1_hopefulOnes_29 rfl (lv_at hl 1 rfl) ?_
      exact sc_reti hR hf hW dX1_hopefulOnes_30
    · replace hf := sc_in hc hf
      refine lv_aload_n hx hb dX1_hopefulOnes_12 rfl (lv_at hl 0 rfl) ?_
      refine lv_iload_n hx hb dX1_hopefulOnes_13 rfl (lv_at hl 2 rfl) ?_
      obtain ⟨r14, S14, hc, hf⟩ := sc_cl_s hf
      refine sc_callVi (As := [.int x2]) (rest := []) (q0 := 2) (ci := 1) sc_okX C0 hW (ct_X1_isHopeful hc) (cwV 1 hts gX1_hopefulOnes_X1_isHopeful rfl rfl rfl (by decide +kernel) ⟨Nat.le_of_ble_eq_true rfl, Nat.le_of_ble_eq_true rfl⟩) rfl rfl rfl rfl hl.1 rfl (Nat.le_of_ble_eq_true rfl) dX1_hopefulOnes_14 (fun H locs hW => ?_)
      refine lv_if_eq (tgt := 23) hx hb dX1_hopefulOnes_17 (by decide) (fun hc => ?_) (fun hc => ?_)
      · replace hf := sc_ip hc hf
        refine lv_iinc (v := (x2 + 1)) (lv' := [(2, .int (x2 + 1)), (0, .ref (h 2)), (1, .int x1)]) hx hb dX1_hopefulOnes_23 hl (k := 2) rfl rfl (by decide) rfl (fun ls hl => ?_)
        refine lv_goto (tgt := 4) hx hb dX1_hopefulOnes_26 (by decide) ?_
        exact ih _ _ _ _ _ _ hf hW (lv_sub hl [1, 2, 0] rfl)
      · replace hf := sc_in hc hf
        refine lv_iinc (v := (x1 + 1)) (lv' := [(1, .int (x1 + 1)), (0, .ref (h 2)), (2, .int x2)]) hx hb dX1_hopefulOnes_20 hl (k := 1) rfl rfl (by decide) rfl (fun ls hl => ?_)
        refine lv_iinc (v := (x2 + 1)) (lv' := [(2, .int (x2 + 1)), (1, .int (x1 + 1)), (0, .ref (h 2))]) hx hb dX1_hopefulOnes_23 hl (k := 2) rfl rfl (by decide) rfl (fun ls hl => ?_)
        refine lv_goto (tgt := 4) hx hb dX1_hopefulOnes_26 (by decide) ?_
        exact ih _ _ _ _ _ _ hf hW (lv_sub hl [2, 1, 0] rfl)
set_option maxHeartbeats 4000000 in
set_option maxRecDepth 100000 in
theorem wk_X1_hopefulOnes_0 (C0 : CallFix p m c cX1_hopefulOnes 3 s args wsX1_hopefulOnes RX1) {S' : sc_M} {r : Int32} (hR : sc_Ri p l e rm_X1_hopefulOnes s m args below meth c Q cX1_hopefulOnes (sc_EX dC dI h cy) S' r) : ∀ (S : sc_M) (H : Heap) (locs : List Loc) (ls : Array Slot), fn_X1_hopefulOnes S = some (r, S') → sc_W (sc_EX dC dI h cy) s H locs S → lv_has ls 3 [(0, .ref (h 2))] → W p l e rm_X1_hopefulOnes s m args below meth c H locs 0 0 Q (F0 m 0 ls []) := by
  obtain ⟨hx, hb, hml, hown, hts⟩ := id C0
  intro S H locs ls hf hW hl
  rw [fn_X1_hopefulOnes] at hf
  refine lv_iconst (v := (0 : Int32)) hx hb dX1_hopefulOnes_0 (by decide) ?_
  refine lv_istore_n (lv' := [(1, .int (0 : Int32)), (0, .ref (h 2))]) hx hb dX1_hopefulOnes_1 rfl hl (by decide) rfl (fun ls hl => ?_)
  refine lv_iconst (v := (0 : Int32)) hx hb dX1_hopefulOnes_2 (by decide) ?_
  refine lv_istore_n (lv' := [(2, .int (0 : Int32)), (1, .int (0 : Int32)), (0, .ref (h 2))]) hx hb dX1_hopefulOnes_3 rfl hl (by decide) rfl (fun ls hl => ?_)
  exact wk_X1_hopefulOnes_4 C0 hR  sc_FU _ _ _ _ _ _ hf hW (lv_sub hl [2, 1, 0] rfl)
set_option maxRecDepth 100000 in
theorem ct_X1_hopefulOnes {S S' : sc_M} {r : Int32} (hf : fn_X1_hopefulOnes S = some (r, S')) : sc_Ci l yX1_hopefulOnes wsX1_hopefulOnes rm_X1_hopefulOnes (sc_EX dC dI h cy) [.ref (h 2)] S S' r := by
  refine sc_ofi (cc := cX1_hopefulOnes) (maxL := 3) .int rfl sc_okX (by decide) rfl (Nat.le_of_ble_eq_true rfl) ?_
  intro p e s m below meth c Q C0 hR hW ls hl
  exact wk_X1_hopefulOnes_0 C0 hR _ _ _ _ hf hW hl
end

/-! ===== SeatCounts$Journal.settle()Z ===== -/
abbrev rm_X1_settle : Room := { frames := 4, cells := 0, slots := 0, locals := 97 }
theorem lk_X1_settle_28 : Cond.fieldLink RX1 28 "SeatCounts$Journal" "electedBehind" "[I" ∈ wsX1_settle := by decide +kernel
theorem lk_X1_settle_63 : Cond.fieldLink RX1 63 "SeatCounts$Journal" "seats" "I" ∈ wsX1_settle := by decide +kernel
theorem lk_X1_settle_69 : Cond.fieldLink RX1 69 "SeatCounts$Journal" "electedOnes" "I" ∈ wsX1_settle := by decide +kernel
theorem ni_X1_settle_X1 : ∀ w ∈ wsX10, w ∈ wsX1_settle := by decide +kernel
noncomputable def fn_X1_settle_29 (S : sc_M) : Option (Int32 × sc_M) :=
  sc_cl (fn_X1_now S) (fun r34 S34 => sc_ck r34 72 (sc_sq (sc_mA S34 14 (upd (sc_ga S34 14) r34.toNatClampNeg (sc_gi S34 7))) (fun S41 => sc_cl (fn_X1_hopefulOnes S41) (fun r43 S43 => if r43 = 0 then
    some ((1 : Int32), S43)
  else
    if (sc_gi S43 7) < (sc_gi S43 3) then
      some ((0 : Int32), S43)
    else
      some ((1 : Int32), S43)))))
noncomputable def fn_X1_settle_e (S : sc_M) : Option (Int32 × sc_M) :=
  sc_cl (fn_X1_quota S) (fun r2 S2 => sc_cv (fn_X1_electFrom S2 r2) (fun S5 => sc_cl (fn_X1_hopefulOnes S5) (fun r9 S9 => if (sc_gi S9 3) < (r9 + (sc_gi S9 7)) then
    fn_X1_settle_29 S9
  else
    sc_cv (fn_X1_electFrom S9 (0 : Int64)) (fun S26 => fn_X1_settle_29 S26))))
noncomputable def fn_X1_settle (S : sc_M) : Option (Int32 × sc_M) := sc_bz (fn_X1_settle_e S)
section
variable {p : Program} {l : Launch} {e : Env} {s : State} {m : MethodId} {args : Array Value} {below : List Frame} {meth : Method} {c : Code} {Q : State → Prop} {dC : Nat → ClassId} {dI : Nat → Nat → Nat} {h : Nat → Nat} {cy : Nat → ClassId}
set_option maxHeartbeats 4000000 in
set_option maxRecDepth 100000 in
theorem wk_X1_settle_29 (C0 : CallFix p m c cX1_settle 1 s args wsX1_settle RX1) {S' : sc_M} {r : Int32} (hR : sc_Ri p l e rm_X1_settle s m args below meth c Q cX1_settle (sc_EX dC dI h cy) S' r) : ∀ (S : sc_M) (H : Heap) (locs : List Loc) (ls : Array Slot), fn_X1_settle_29 S = some (r, S') → sc_W (sc_EX dC dI h cy) s H locs S → lv_has ls 1 [(0, .ref (h 2))] → W p l e rm_X1_settle s m args below meth c H locs 0 0 Q (F0 m 29 ls []) := by
  obtain ⟨hx, hb, hml, hown, hts⟩ := id C0
  intro S H locs ls hf hW hl
  rw [fn_X1_settle_29] at hf
  refine lv_aload_n hx hb dX1_settle_29 rfl (lv_at hl 0 rfl) ?_
  refine sc_getX1 C0 hW ni_X1_settle_X1 10 (Nat.le_of_ble_eq_true rfl) lk_X1_settle_28 (v := .ref (h 14)) rfl dX1_settle_30 ?_
  refine lv_aload_n hx hb dX1_settle_33 rfl (lv_at hl 0 rfl) ?_
  obtain ⟨r34, S34, hc, hf⟩ := sc_cl_s hf
  refine sc_callVi (As := []) (rest := [.ref (h 14)]) (q0 := 2) (ci := 1) sc_okX C0 hW (ct_X1_now hc) (cwV 0 hts gX1_settle_X1_now rfl rfl rfl (by decide +kernel) ⟨Nat.le_of_ble_eq_true rfl, Nat.le_of_ble_eq_true rfl⟩) rfl rfl rfl rfl hl.1 rfl (Nat.le_of_ble_eq_true rfl) dX1_settle_34 (fun H locs hW => ?_)
  refine lv_aload_n hx hb dX1_settle_37 rfl (lv_at hl 0 rfl) ?_
  refine sc_getX1 C0 hW ni_X1_settle_X1 5 (Nat.le_of_ble_eq_true rfl) lk_X1_settle_69 (v := .int (sc_gi S34 7)) rfl dX1_settle_38 ?_
  obtain ⟨hv, hf⟩ := sc_ck_s hf
  obtain ⟨S41, eS41, hf⟩ := sc_sq_s hf
  refine sc_stX_14 C0 hW hv eS41 dX1_settle_41 (fun H locs hW => ?_)
  refine lv_aload_n hx hb dX1_settle_42 rfl (lv_at hl 0 rfl) ?_
  obtain ⟨r43, S43, hc, hf⟩ := sc_cl_s hf
  refine sc_callVi (As := []) (rest := []) (q0 := 2) (ci := 1) sc_okX C0 hW (ct_X1_hopefulOnes hc) (cwV 0 hts gX1_settle_X1_hopefulOnes rfl rfl rfl (by decide +kernel) ⟨Nat.le_of_ble_eq_true rfl, Nat.le_of_ble_eq_true rfl⟩) rfl rfl rfl rfl hl.1 rfl (Nat.le_of_ble_eq_true rfl) dX1_settle_43 (fun H locs hW => ?_)
  refine lv_if_eq (tgt := 60) hx hb dX1_settle_46 (by decide) (fun hc => ?_) (fun hc => ?_)
  · replace hf := sc_ip hc hf
    refine lv_iconst (v := (1 : Int32)) hx hb dX1_settle_60 (by decide) ?_
    refine lv_goto (tgt := 65) hx hb dX1_settle_61 (by decide) ?_
    exact sc_reti hR hf hW dX1_settle_65
  · replace hf := sc_in hc hf
    refine lv_aload_n hx hb dX1_settle_49 rfl (lv_at hl 0 rfl) ?_
    refine sc_getX1 C0 hW ni_X1_settle_X1 5 (Nat.le_of_ble_eq_true rfl) lk_X1_settle_69 (v := .int (sc_gi S43 7)) rfl dX1_settle_50 ?_
    refine lv_aload_n hx hb dX1_settle_53 rfl (lv_at hl 0 rfl) ?_
    refine sc_getX1 C0 hW ni_X1_settle_X1 1 (Nat.le_of_ble_eq_true rfl) lk_X1_settle_63 (v := .int (sc_gi S43 3)) rfl dX1_settle_54 ?_
    refine lv_icmp_lt (tgt := 64) hx hb dX1_settle_57 (by decide) (fun hc => ?_) (fun hc => ?_)
    · replace hf := sc_ip hc hf
      refine lv_iconst (v := (0 : Int32)) hx hb dX1_settle_64 (by decide) ?_
      exact sc_reti hR hf hW dX1_settle_65
    · replace hf := sc_in hc hf
      refine lv_iconst (v := (1 : Int32)) hx hb dX1_settle_60 (by decide) ?_
      refine lv_goto (tgt := 65) hx hb dX1_settle_61 (by decide) ?_
      exact sc_reti hR hf hW dX1_settle_65
set_option maxHeartbeats 4000000 in
set_option maxRecDepth 100000 in
theorem wk_X1_settle_0 (C0 : CallFix p m c cX1_settle 1 s args wsX1_settle RX1) {S' : sc_M} {r : Int32} (hR : sc_Ri p l e rm_X1_settle s m args below meth c Q cX1_settle (sc_EX dC dI h cy) S' r) : ∀ (S : sc_M) (H : Heap) (locs : List Loc) (ls : Array Slot), fn_X1_settle_e S = some (r, S') → sc_W (sc_EX dC dI h cy) s H locs S → lv_has ls 1 [(0, .ref (h 2))] → W p l e rm_X1_settle s m args below meth c H locs 0 0 Q (F0 m 0 ls []) := by
  obtain ⟨hx, hb, hml, hown, hts⟩ := id C0
  intro S H locs ls hf hW hl
  rw [fn_X1_settle_e] at hf
  refine lv_aload_n hx hb dX1_settle_0 rfl (lv_at hl 0 rfl) ?_
  refine lv_aload_n hx hb dX1_settle_1 rfl (lv_at hl 0 rfl) ?_
  obtain ⟨r2, S2, hc, hf⟩ := sc_cl_s hf
  refine sc_callVl (As := []) (rest := [.ref (h 2)]) (q0 := 2) (ci := 1) sc_okX C0 hW (ct_X1_quota hc) (cwV 0 hts gX1_settle_X1_quota rfl rfl rfl (by decide +kernel) ⟨Nat.le_of_ble_eq_true rfl, Nat.le_of_ble_eq_true rfl⟩) rfl rfl rfl rfl hl.1 rfl (Nat.le_of_ble_eq_true rfl) dX1_settle_2 (fun H locs hW => ?_)
  obtain ⟨S5, hc, hf⟩ := sc_cv_s hf
  refine sc_callVv (As := [.long r2]) (rest := []) (q0 := 2) (ci := 1) sc_okX C0 hW (ct_X1_electFrom hc) (cwV 1 hts gX1_settle_X1_electFrom rfl rfl rfl (by decide +kernel) ⟨Nat.le_of_ble_eq_true rfl, Nat.le_of_ble_eq_true rfl⟩) rfl rfl rfl rfl hl.1 rfl (Nat.le_of_ble_eq_true rfl) dX1_settle_5 (fun H locs hW => ?_)
  refine lv_aload_n hx hb dX1_settle_8 rfl (lv_at hl 0 rfl) ?_
  obtain ⟨r9, S9, hc, hf⟩ := sc_cl_s hf
  refine sc_callVi (As := []) (rest := []) (q0 := 2) (ci := 1) sc_okX C0 hW (ct_X1_hopefulOnes hc) (cwV 0 hts gX1_settle_X1_hopefulOnes rfl rfl rfl (by decide +kernel) ⟨Nat.le_of_ble_eq_true rfl, Nat.le_of_ble_eq_true rfl⟩) rfl rfl rfl rfl hl.1 rfl (Nat.le_of_ble_eq_true rfl) dX1_settle_9 (fun H locs hW => ?_)
  refine lv_aload_n hx hb dX1_settle_12 rfl (lv_at hl 0 rfl) ?_
  refine sc_getX1 C0 hW ni_X1_settle_X1 5 (Nat.le_of_ble_eq_true rfl) lk_X1_settle_69 (v := .int (sc_gi S9 7)) rfl dX1_settle_13 ?_
  refine lv_iadd hx hb dX1_settle_16 ?_
  refine lv_aload_n hx hb dX1_settle_17 rfl (lv_at hl 0 rfl) ?_
  refine sc_getX1 C0 hW ni_X1_settle_X1 1 (Nat.le_of_ble_eq_true rfl) lk_X1_settle_63 (v := .int (sc_gi S9 3)) rfl dX1_settle_18 ?_
  refine lv_icmp_gt (tgt := 29) hx hb dX1_settle_21 (by decide) (fun hc => ?_) (fun hc => ?_)
  · replace hf := sc_ip hc hf
    exact wk_X1_settle_29 C0 hR  _ _ _ _ hf hW (lv_sub hl [0] rfl)
  · replace hf := sc_in hc hf
    refine lv_aload_n hx hb dX1_settle_24 rfl (lv_at hl 0 rfl) ?_
    refine lv_lconst (v := (0 : Int64)) hx hb dX1_settle_25 (by decide) ?_
    obtain ⟨S26, hc, hf⟩ := sc_cv_s hf
    refine sc_callVv (As := [.long (0 : Int64)]) (rest := []) (q0 := 2) (ci := 1) sc_okX C0 hW (ct_X1_electFrom hc) (cwV 1 hts gX1_settle_X1_electFrom rfl rfl rfl (by decide +kernel) ⟨Nat.le_of_ble_eq_true rfl, Nat.le_of_ble_eq_true rfl⟩) rfl rfl rfl rfl hl.1 rfl (Nat.le_of_ble_eq_true rfl) dX1_settle_26 (fun H locs hW => ?_)
    exact wk_X1_settle_29 C0 hR  _ _ _ _ hf hW (lv_sub hl [0] rfl)
set_option maxRecDepth 100000 in
theorem ct_X1_settle {S S' : sc_M} {r : Int32} (hf : fn_X1_settle S = some (r, S')) : sc_Ci l yX1_settle wsX1_settle rm_X1_settle (sc_EX dC dI h cy) [.ref (h 2)] S S' r := by
  obtain ⟨hf, h01⟩ := sc_bz_s hf
  refine sc_ofi (cc := cX1_settle) (maxL := 1) .boolean (sc_nar01 h01) sc_okX (by decide) rfl (Nat.le_of_ble_eq_true rfl) ?_
  intro p e s m below meth c Q C0 hR hW ls hl
  exact wk_X1_settle_0 C0 hR _ _ _ _ hf hW hl
end

/-! ===== SeatCounts$Journal.richest()I ===== -/
abbrev rm_X1_richest : Room := { frames := 3, cells := 0, slots := 0, locals := 73 }
noncomputable def fn_X1_richest (S : sc_M) : Option (Int32 × sc_M) :=
  sc_cl (fn_X1_quota S) (fun r3 S3 => sc_cl (fn_X1_most S3 (1 : Int32) (r3 + (1 : Int64))) (fun r8 S8 => some (r8, S8)))
section
variable {p : Program} {l : Launch} {e : Env} {s : State} {m : MethodId} {args : Array Value} {below : List Frame} {meth : Method} {c : Code} {Q : State → Prop} {dC : Nat → ClassId} {dI : Nat → Nat → Nat} {h : Nat → Nat} {cy : Nat → ClassId}
set_option maxHeartbeats 4000000 in
set_option maxRecDepth 100000 in
theorem wk_X1_richest_0 (C0 : CallFix p m c cX1_richest 1 s args wsX1_richest RX1) {S' : sc_M} {r : Int32} (hR : sc_Ri p l e rm_X1_richest s m args below meth c Q cX1_richest (sc_EX dC dI h cy) S' r) : ∀ (S : sc_M) (H : Heap) (locs : List Loc) (ls : Array Slot), fn_X1_richest S = some (r, S') → sc_W (sc_EX dC dI h cy) s H locs S → lv_has ls 1 [(0, .ref (h 2))] → W p l e rm_X1_richest s m args below meth c H locs 0 0 Q (F0 m 0 ls []) := by
  obtain ⟨hx, hb, hml, hown, hts⟩ := id C0
  intro S H locs ls hf hW hl
  rw [fn_X1_richest] at hf
  refine lv_aload_n hx hb dX1_richest_0 rfl (lv_at hl 0 rfl) ?_
  refine lv_iconst (v := (1 : Int32)) hx hb dX1_richest_1 (by decide) ?_
  refine lv_aload_n hx hb dX1_richest_2 rfl (lv_at hl 0 rfl) ?_
  obtain ⟨r3, S3, hc, hf⟩ := sc_cl_s hf
  refine sc_callVl (As := []) (rest := [.int (1 : Int32), .ref (h 2)]) (q0 := 2) (ci := 1) sc_okX C0 hW (ct_X1_quota hc) (cwV 0 hts gX1_richest_X1_quota rfl rfl rfl (by decide +kernel) ⟨Nat.le_of_ble_eq_true rfl, Nat.le_of_ble_eq_true rfl⟩) rfl rfl rfl rfl hl.1 rfl (Nat.le_of_ble_eq_true rfl) dX1_richest_3 (fun H locs hW => ?_)
  refine lv_lconst (v := (1 : Int64)) hx hb dX1_richest_6 (by decide) ?_
  refine lv_ladd hx hb dX1_richest_7 ?_
  obtain ⟨r8, S8, hc, hf⟩ := sc_cl_s hf
  refine sc_callVi (As := [.int (1 : Int32), .long (r3 + (1 : Int64))]) (rest := []) (q0 := 2) (ci := 1) sc_okX C0 hW (ct_X1_most hc) (cwV 2 hts gX1_richest_X1_most rfl rfl rfl (by decide +kernel) ⟨Nat.le_of_ble_eq_true rfl, Nat.le_of_ble_eq_true rfl⟩) rfl rfl rfl rfl hl.1 rfl (Nat.le_of_ble_eq_true rfl) dX1_richest_8 (fun H locs hW => ?_)
  exact sc_reti hR hf hW dX1_richest_11
set_option maxRecDepth 100000 in
theorem ct_X1_richest {S S' : sc_M} {r : Int32} (hf : fn_X1_richest S = some (r, S')) : sc_Ci l yX1_richest wsX1_richest rm_X1_richest (sc_EX dC dI h cy) [.ref (h 2)] S S' r := by
  refine sc_ofi (cc := cX1_richest) (maxL := 1) .int rfl sc_okX (by decide) rfl (Nat.le_of_ble_eq_true rfl) ?_
  intro p e s m below meth c Q C0 hR hW ls hl
  exact wk_X1_richest_0 C0 hR _ _ _ _ hf hW hl
end

/-! ===== SeatCounts$Journal.poorest()I ===== -/
abbrev rm_X1_poorest : Room := { frames := 2, cells := 0, slots := 0, locals := 47 }
theorem lk_X1_poorest_60 : Cond.fieldLink RX1 60 "SeatCounts$Journal" "candidates" "I" ∈ wsX1_poorest := by decide +kernel
theorem ni_X1_poorest_X1 : ∀ w ∈ wsX10, w ∈ wsX1_poorest := by decide +kernel
noncomputable def fn_X1_poorest_5 : Nat → sc_M → Int32 → Int32 → Option (Int32 × sc_M)
  | 0, _, _, _ => none
  | n + 1, S, x1, x2 =>
    if (sc_gi S 4) ≤ x2 then
      some (x1, S)
    else
      sc_cl (fn_X1_isHopeful S x2) (fun r15 S15 => if r15 = 0 then
        fn_X1_poorest_5 n S15 x1 (x2 + 1)
      else
        if x1 = (-9 : Int32) then
          fn_X1_poorest_5 n S15 x2 (x2 + 1)
        else
          sc_cl (fn_X1_hasMore S15 x1 x2) (fun r30 S30 => if r30 = 0 then
            fn_X1_poorest_5 n S30 x1 (x2 + 1)
          else
            fn_X1_poorest_5 n S30 x2 (x2 + 1)))
noncomputable def fn_X1_poorest (S : sc_M) : Option (Int32 × sc_M) :=
  fn_X1_poorest_5 sc_FU S (-9 : Int32) (0 : Int32)
section
variable {p : Program} {l : Launch} {e : Env} {s : State} {m : MethodId} {args : Array Value} {below : List Frame} {meth : Method} {c : Code} {Q : State → Prop} {dC : Nat → ClassId} {dI : Nat → Nat → Nat} {h : Nat → Nat} {cy : Nat → ClassId}
set_option maxHeartbeats 4000000 in
set_option maxRecDepth 100000 in
theorem wk_X1_poorest_5 (C0 : CallFix p m c cX1_poorest 3 s args wsX1_poorest RX1) {S' : sc_M} {r : Int32} (hR : sc_Ri p l e rm_X1_poorest s m args below meth c Q cX1_poorest (sc_EX dC dI h cy) S' r) : ∀ n : Nat, ∀ (S : sc_M) (x1 : Int32) (x2 : Int32) (H : Heap) (locs : List Loc) (ls : Array Slot), fn_X1_poorest_5 n S x1 x2 = some (r, S') → sc_W (sc_EX dC dI h cy) s H locs S → lv_has ls 3 [(0, .ref (h 2)), (1, .int x1), (2, .int x2)] → W p l e rm_X1_poorest s m args below meth c H locs 0 0 Q (F0 m 5 ls []) := by
  obtain ⟨hx, hb, hml, hown, hts⟩ := id C0
  intro n
  induction n with
  | zero => intro S x1 x2 H locs ls; intro hf; cases hf
  | succ n ih =>
    intro S x1 x2 H locs ls hf hW hl
    rw [fn_X1_poorest_5] at hf
    refine lv_iload_n hx hb dX1_poorest_5 rfl (lv_at hl 2 rfl) ?_
    refine lv_aload_n hx hb dX1_poorest_6 rfl (lv_at hl 0 rfl) ?_
    refine sc_getX1 C0 hW ni_X1_poorest_X1 2 (Nat.le_of_ble_eq_true rfl) lk_X1_poorest_60 (v := .int (sc_gi S 4)) rfl dX1_poorest_7 ?_
    refine lv_icmp_ge (tgt := 44) hx hb dX1_poorest_10 (by decide) (fun hc => ?_) (fun hc => ?_)
    · replace hf := sc_ip hc hf
      refine lv_iload_n hx hb dX1_poorest_44 rfl (lv_at hl 1 rfl) ?_
      exact sc_reti hR hf hW dX1_poorest_45
    · replace hf := sc_in hc hf
      refine lv_aload_n hx hb dX1_poorest_13 rfl (lv_at hl 0 rfl) ?_
      refine lv_iload_n hx hb dX1_poorest_14 rfl (lv_at hl 2 rfl) ?_
      obtain ⟨r15, S15, hc, hf⟩ := sc_cl_s hf
      refine sc_callVi (As := [.int x2]) (rest := []) (q0 := 2) (ci := 1) sc_okX C0 hW (ct_X1_isHopeful hc) (cwV 1 hts gX1_poorest_X1_isHopeful rfl rfl rfl (by decide +kernel) ⟨Nat.le_of_ble_eq_true rfl, Nat.le_of_ble_eq_true rfl⟩) rfl rfl rfl rfl hl.1 rfl (Nat.le_of_ble_eq_true rfl) dX1_poorest_15 (fun H locs hW => ?_)
      refine lv_if_eq (tgt := 38) hx hb dX1_poorest_18 (by decide) (fun hc => ?_) (fun hc => ?_)
      · replace hf := sc_ip hc hf
        refine lv_iinc (v := (x2 + 1)) (lv' := [(2, .int (x2 + 1)), (0, .ref (h 2)), (1, .int x1)]) hx hb dX1_poorest_38 hl (k := 2) rfl rfl (by decide) rfl (fun ls hl => ?_)
        refine lv_goto (tgt := 5) hx hb dX1_poorest_41 (by decide) ?_
        exact ih _ _ _ _ _ _ hf hW (lv_sub hl [1, 2, 0] rfl)
      · replace hf := sc_in hc hf
        refine lv_iload_n hx hb dX1_poorest_21 rfl (lv_at hl 1 rfl) ?_
        refine lv_bipush (v := (-9 : Int32)) hx hb dX1_poorest_22 (by decide) ?_
        refine lv_icmp_eq (tgt := 36) hx hb dX1_poorest_24 (by decide) (fun hc => ?_) (fun hc => ?_)
        · replace hf := sc_ip hc hf
          refine lv_iload_n hx hb dX1_poorest_36 rfl (lv_at hl 2 rfl) ?_
          refine lv_istore_n (lv' := [(1, .int x2), (0, .ref (h 2)), (2, .int x2)]) hx hb dX1_poorest_37 rfl hl (by decide) rfl (fun ls hl => ?_)
          refine lv_iinc (v := (x2 + 1)) (lv' := [(2, .int (x2 + 1)), (1, .int x2), (0, .ref (h 2))]) hx hb dX1_poorest_38 hl (k := 2) rfl rfl (by decide) rfl (fun ls hl => ?_)
          refine lv_goto (tgt := 5) hx hb dX1_poorest_41 (by decide) ?_
          exact ih _ _ _ _ _ _ hf hW (lv_sub hl [2, 1, 0] rfl)
        · replace hf := sc_in hc hf
          refine lv_aload_n hx hb dX1_poorest_27 rfl (lv_at hl 0 rfl) ?_
          refine lv_iload_n hx hb dX1_poorest_28 rfl (lv_at hl 1 rfl) ?_
          refine lv_iload_n hx hb dX1_poorest_29 rfl (lv_at hl 2 rfl) ?_
          obtain ⟨r30, S30, hc, hf⟩ := sc_cl_s hf
          refine sc_callVi (As := [.int x1, .int x2]) (rest := []) (q0 := 2) (ci := 1) sc_okX C0 hW (ct_X1_hasMore hc) (cwV 2 hts gX1_poorest_X1_hasMore rfl rfl rfl (by decide +kernel) ⟨Nat.le_of_ble_eq_true rfl, Nat.le_of_ble_eq_true rfl⟩) rfl rfl rfl rfl hl.1 rfl (Nat.le_of_ble_eq_true rfl) dX1_poorest_30 (fun H locs hW => ?_)
          refine lv_if_eq (tgt := 38) hx hb dX1_poorest_33 (by decide) (fun hc => ?_) (fun hc => ?_)
          · replace hf := sc_ip hc hf
            refine lv_iinc (v := (x2 + 1)) (lv' := [(2, .int (x2 + 1)), (0, .ref (h 2)), (1, .int x1)]) hx hb dX1_poorest_38 hl (k := 2) rfl rfl (by decide) rfl (fun ls hl => ?_)
            refine lv_goto (tgt := 5) hx hb dX1_poorest_41 (by decide) ?_
            exact ih _ _ _ _ _ _ hf hW (lv_sub hl [1, 2, 0] rfl)
          · replace hf := sc_in hc hf
            refine lv_iload_n hx hb dX1_poorest_36 rfl (lv_at hl 2 rfl) ?_
            refine lv_istore_n (lv' := [(1, .int x2), (0, .ref (h 2)), (2, .int x2)]) hx hb dX1_poorest_37 rfl hl (by decide) rfl (fun ls hl => ?_)
            refine lv_iinc (v := (x2 + 1)) (lv' := [(2, .int (x2 + 1)), (1, .int x2), (0, .ref (h 2))]) hx hb dX1_poorest_38 hl (k := 2) rfl rfl (by decide) rfl (fun ls hl => ?_)
            refine lv_goto (tgt := 5) hx hb dX1_poorest_41 (by decide) ?_
            exact ih _ _ _ _ _ _ hf hW (lv_sub hl [2, 1, 0] rfl)
set_option maxHeartbeats 4000000 in
set_option maxRecDepth 100000 in
theorem wk_X1_poorest_0 (C0 : CallFix p m c cX1_poorest 3 s args wsX1_poorest RX1) {S' : sc_M} {r : Int32} (hR : sc_Ri p l e rm_X1_poorest s m args below meth c Q cX1_poorest (sc_EX dC dI h cy) S' r) : ∀ (S : sc_M) (H : Heap) (locs : List Loc) (ls : Array Slot), fn_X1_poorest S = some (r, S') → sc_W (sc_EX dC dI h cy) s H locs S → lv_has ls 3 [(0, .ref (h 2))] → W p l e rm_X1_poorest s m args below meth c H locs 0 0 Q (F0 m 0 ls []) := by
  obtain ⟨hx, hb, hml, hown, hts⟩ := id C0
  intro S H locs ls hf hW hl
  rw [fn_X1_poorest] at hf
  refine lv_bipush (v := (-9 : Int32)) hx hb dX1_poorest_0 (by decide) ?_
  refine lv_istore_n (lv' := [(1, .int (-9 : Int32)), (0, .ref (h 2))]) hx hb dX1_poorest_2 rfl hl (by decide) rfl (fun ls hl => ?_)
  refine lv_iconst (v := (0 : Int32)) hx hb dX1_poorest_3 (by decide) ?_
  refine lv_istore_n (lv' := [(2, .int (0 : Int32)), (1, .int (-9 : Int32)), (0, .ref (h 2))]) hx hb dX1_poorest_4 rfl hl (by decide) rfl (fun ls hl => ?_)
  exact wk_X1_poorest_5 C0 hR  sc_FU _ _ _ _ _ _ hf hW (lv_sub hl [2, 1, 0] rfl)
set_option maxRecDepth 100000 in
theorem ct_X1_poorest {S S' : sc_M} {r : Int32} (hf : fn_X1_poorest S = some (r, S')) : sc_Ci l yX1_poorest wsX1_poorest rm_X1_poorest (sc_EX dC dI h cy) [.ref (h 2)] S S' r := by
  refine sc_ofi (cc := cX1_poorest) (maxL := 3) .int rfl sc_okX (by decide) rfl (Nat.le_of_ble_eq_true rfl) ?_
  intro p e s m below meth c Q C0 hR hW ls hl
  exact wk_X1_poorest_0 C0 hR _ _ _ _ hf hW hl
end

/-! ===== SeatCounts$KeepRule.sharePapers(LSeatCounts$House;LSeatCounts$Journal;I)J ===== -/
abbrev rm_X2_sharePapers : Room := { frames := 0, cells := 0, slots := 0, locals := 0 }
theorem lk_X2_sharePapers_101 : Cond.fieldLink RX2 101 "SeatCounts$House" "preferences" "[I" ∈ wsX2_sharePapers := by decide +kernel
theorem lk_X2_sharePapers_104 : Cond.fieldLink RX2 104 "SeatCounts$Journal" "keeps" "[I" ∈ wsX2_sharePapers := by decide +kernel
theorem lk_X2_sharePapers_51 : Cond.fieldLink RX2 51 "SeatCounts$Journal" "row" "I" ∈ wsX2_sharePapers := by decide +kernel
theorem lk_X2_sharePapers_65 : Cond.fieldLink RX2 65 "SeatCounts$Journal" "votes" "[J" ∈ wsX2_sharePapers := by decide +kernel
theorem lk_X2_sharePapers_77 : Cond.fieldLink RX2 77 "SeatCounts$House" "papers" "[I" ∈ wsX2_sharePapers := by decide +kernel
theorem lk_X2_sharePapers_96 : Cond.constantLong RX2 96 (1000000) ∈ wsX2_sharePapers := by decide +kernel
theorem lk_X2_sharePapers_98 : Cond.fieldLink RX2 98 "SeatCounts$House" "lengths" "[I" ∈ wsX2_sharePapers := by decide +kernel
theorem ni_X2_sharePapers_X0 : ∀ w ∈ wsX00, w ∈ wsX2_sharePapers := by decide +kernel
theorem ni_X2_sharePapers_X1 : ∀ w ∈ wsX10, w ∈ wsX2_sharePapers := by decide +kernel
noncomputable def fn_X2_sharePapers_7 : Nat → sc_M → Int32 → Int64 → Int32 → Option (Int64 × sc_M)
  | 0, _, _, _, _ => none
  | n + 1, S, x2, x3, x5 =>
    sc_ck x2 80 (if (sc_ga S 7 x2.toNatClampNeg) ≤ x5 then
      some (x3, S)
    else
      sc_ck ((x2 * (12 : Int32)) + x5) 960 (sc_sq (((sc_gi S 6) + (sc_ga S 8 ((x2 * (12 : Int32)) + x5).toNatClampNeg))) (fun y35 => sc_ck y35 864 (sc_nl (1000000 : Int64) (sc_sq (((x3 * (sc_ga S 21 y35.toNatClampNeg).toInt64) / (1000000 : Int64))) (fun y51 => sc_ck y35 864 (sc_ck x2 80 (sc_ck y35 864 (sc_sq (sc_mB S 19 (vp_updL (sc_gb S 19) y35.toNatClampNeg ((sc_gb S 19 y35.toNatClampNeg) + ((sc_ga S 6 x2.toNatClampNeg).toInt64 * y51)))) (fun S72 => sc_sq ((x3 - y51)) (fun y77 => fn_X2_sharePapers_7 n S72 x2 y77 (x5 + 1))))))))))))
noncomputable def fn_X2_sharePapers (S : sc_M) (x2 : Int32) : Option (Int64 × sc_M) :=
  fn_X2_sharePapers_7 sc_FU S x2 (1000000 : Int64) (0 : Int32)
section
variable {p : Program} {l : Launch} {e : Env} {s : State} {m : MethodId} {args : Array Value} {below : List Frame} {meth : Method} {c : Code} {Q : State → Prop} {dC : Nat → ClassId} {dI : Nat → Nat → Nat} {h : Nat → Nat} {cy : Nat → ClassId}
set_option maxHeartbeats 4000000 in
set_option maxRecDepth 100000 in
theorem wk_X2_sharePapers_7 (C0 : CallFix p m c cX2_sharePapers 9 s args wsX2_sharePapers RX2) {S' : sc_M} {r : Int64} (hR : sc_Rl p l e rm_X2_sharePapers s m args below meth c Q cX2_sharePapers (sc_EX dC dI h cy) S' r) : ∀ n : Nat, ∀ (S : sc_M) (x2 : Int32) (x3 : Int64) (x5 : Int32) (H : Heap) (locs : List Loc) (ls : Array Slot), fn_X2_sharePapers_7 n S x2 x3 x5 = some (r, S') → sc_W (sc_EX dC dI h cy) s H locs S → lv_has ls 9 [(0, .ref (h 1)), (1, .ref (h 2)), (2, .int x2), (3, .long x3), (5, .int x5)] → W p l e rm_X2_sharePapers s m args below meth c H locs 0 0 Q (F0 m 7 ls []) := by
  obtain ⟨hx, hb, hml, hown, hts⟩ := id C0
  intro n
  induction n with
  | zero => intro S x2 x3 x5 H locs ls; intro hf; cases hf
  | succ n ih =>
    intro S x2 x3 x5 H locs ls hf hW hl
    rw [fn_X2_sharePapers_7] at hf
    refine lv_iload hx hb dX2_sharePapers_7 (lv_at hl 4 rfl) ?_
    refine lv_aload_n hx hb dX2_sharePapers_9 rfl (lv_at hl 0 rfl) ?_
    refine sc_getX0 C0 hW ni_X2_sharePapers_X0 5 (Nat.le_of_ble_eq_true rfl) lk_X2_sharePapers_98 (v := .ref (h 7)) rfl dX2_sharePapers_10 ?_
    refine lv_iload_n hx hb dX2_sharePapers_13 rfl (lv_at hl 2 rfl) ?_
    obtain ⟨hv, hf⟩ := sc_ck_s hf
    refine sc_ldX_7 C0 hW hv dX2_sharePapers_14 ?_
    refine lv_icmp_ge (tgt := 84) hx hb dX2_sharePapers_15 (by decide) (fun hc => ?_) (fun hc => ?_)
    · replace hf := sc_ip hc hf
      refine lv_lload_n hx hb dX2_sharePapers_84 rfl (lv_at hl 3 rfl) ?_
      exact sc_retl hR hf hW dX2_sharePapers_85
    · replace hf := sc_in hc hf
      refine lv_aload_n hx hb dX2_sharePapers_18 rfl (lv_at hl 1 rfl) ?_
      refine sc_getX1 C0 hW ni_X2_sharePapers_X1 4 (Nat.le_of_ble_eq_true rfl) lk_X2_sharePapers_51 (v := .int (sc_gi S 6)) rfl dX2_sharePapers_19 ?_
      refine lv_aload_n hx hb dX2_sharePapers_22 rfl (lv_at hl 0 rfl) ?_
      refine sc_getX0 C0 hW ni_X2_sharePapers_X0 6 (Nat.le_of_ble_eq_true rfl) lk_X2_sharePapers_101 (v := .ref (h 8)) rfl dX2_sharePapers_23 ?_
      refine lv_iload_n hx hb dX2_sharePapers_26 rfl (lv_at hl 2 rfl) ?_
      refine lv_bipush (v := (12 : Int32)) hx hb dX2_sharePapers_27 (by decide) ?_
      refine lv_imul hx hb dX2_sharePapers_29 ?_
      refine lv_iload hx hb dX2_sharePapers_30 (lv_at hl 4 rfl) ?_
      refine lv_iadd hx hb dX2_sharePapers_32 ?_
      obtain ⟨hv, hf⟩ := sc_ck_s hf
      refine sc_ldX_8 C0 hW hv dX2_sharePapers_33 ?_
      refine lv_iadd hx hb dX2_sharePapers_34 ?_
      obtain ⟨y35, ey35, hf⟩ := sc_sq_s hf
      refine sc_topi ey35 ?_
      refine lv_istore (lv' := [(6, .int y35), (0, .ref (h 1)), (1, .ref (h 2)), (2, .int x2), (3, .long x3), (5, .int x5)]) hx hb dX2_sharePapers_35 hl (by decide) rfl (fun ls hl => ?_)
      refine lv_lload_n hx hb dX2_sharePapers_37 rfl (lv_at hl 4 rfl) ?_
      refine lv_aload_n hx hb dX2_sharePapers_38 rfl (lv_at hl 2 rfl) ?_
      refine sc_getX1 C0 hW ni_X2_sharePapers_X1 17 (Nat.le_of_ble_eq_true rfl) lk_X2_sharePapers_104 (v := .ref (h 21)) rfl dX2_sharePapers_39 ?_
      refine lv_iload hx hb dX2_sharePapers_42 (lv_at hl 0 rfl) ?_
      obtain ⟨hv, hf⟩ := sc_ck_s hf
      refine sc_ldX_21 C0 hW hv dX2_sharePapers_44 ?_
      refine lv_i2l hx hb dX2_sharePapers_45 rfl ?_
      refine lv_lmul hx hb dX2_sharePapers_46 ?_
      refine lv_ldc2 (v := (1000000 : Int64)) hx hb hown (hts _ lk_X2_sharePapers_96) dX2_sharePapers_47 ?_
      obtain ⟨hz, hf⟩ := sc_nl_s hf
      refine lv_ldiv hx hb dX2_sharePapers_50 hz ?_
      obtain ⟨y51, ey51, hf⟩ := sc_sq_s hf
      refine sc_topl ey51 ?_
      refine lv_lstore (lv' := [(7, .long y51), (6, .int y35), (0, .ref (h 1)), (1, .ref (h 2)), (2, .int x2), (3, .long x3), (5, .int x5)]) hx hb dX2_sharePapers_51 hl (by decide) rfl (fun ls hl => ?_)
      refine lv_aload_n hx hb dX2_sharePapers_53 rfl (lv_at hl 3 rfl) ?_
      refine sc_getX1 C0 hW ni_X2_sharePapers_X1 15 (Nat.le_of_ble_eq_true rfl) lk_X2_sharePapers_65 (v := .ref (h 19)) rfl dX2_sharePapers_54 ?_
      refine lv_iload hx hb dX2_sharePapers_57 (lv_at hl 1 rfl) ?_
      refine lv_dup2_11 hx hb dX2_sharePapers_59 rfl rfl ?_
      obtain ⟨hv, hf⟩ := sc_ck_s hf
      refine sc_ldX_19 C0 hW hv dX2_sharePapers_60 ?_
      refine lv_aload_n hx hb dX2_sharePapers_61 rfl (lv_at hl 2 rfl) ?_
      refine sc_getX0 C0 hW ni_X2_sharePapers_X0 4 (Nat.le_of_ble_eq_true rfl) lk_X2_sharePapers_77 (v := .ref (h 6)) rfl dX2_sharePapers_62 ?_
      refine lv_iload_n hx hb dX2_sharePapers_65 rfl (lv_at hl 4 rfl) ?_
      obtain ⟨hv, hf⟩ := sc_ck_s hf
      refine sc_ldX_6 C0 hW hv dX2_sharePapers_66 ?_
      refine lv_i2l hx hb dX2_sharePapers_67 rfl ?_
      refine lv_lload hx hb dX2_sharePapers_68 (lv_at hl 0 rfl) ?_
      refine lv_lmul hx hb dX2_sharePapers_70 ?_
      refine lv_ladd hx hb dX2_sharePapers_71 ?_
      obtain ⟨hv, hf⟩ := sc_ck_s hf
      obtain ⟨S72, eS72, hf⟩ := sc_sq_s hf
      refine sc_stX_19 C0 hW hv eS72 dX2_sharePapers_72 (fun H locs hW => ?_)
      refine lv_lload_n hx hb dX2_sharePapers_73 rfl (lv_at hl 5 rfl) ?_
      refine lv_lload hx hb dX2_sharePapers_74 (lv_at hl 0 rfl) ?_
      refine lv_lsub hx hb dX2_sharePapers_76 ?_
      obtain ⟨y77, ey77, hf⟩ := sc_sq_s hf
      refine sc_topl ey77 ?_
      refine lv_lstore_n (lv' := [(3, .long y77), (7, .long y51), (6, .int y35), (0, .ref (h 1)), (1, .ref (h 2)), (2, .int x2), (5, .int x5)]) hx hb dX2_sharePapers_77 rfl hl (by decide) rfl (fun ls hl => ?_)
      refine lv_iinc (v := (x5 + 1)) (lv' := [(5, .int (x5 + 1)), (3, .long y77), (7, .long y51), (6, .int y35), (0, .ref (h 1)), (1, .ref (h 2)), (2, .int x2)]) hx hb dX2_sharePapers_78 hl (k := 6) rfl rfl (by decide) rfl (fun ls hl => ?_)
      refine lv_goto (tgt := 7) hx hb dX2_sharePapers_81 (by decide) ?_
      exact ih _ _ _ _ _ _ _ hf hW (lv_sub hl [4, 5, 6, 1, 0] rfl)
set_option maxHeartbeats 4000000 in
set_option maxRecDepth 100000 in
theorem wk_X2_sharePapers_0 (C0 : CallFix p m c cX2_sharePapers 9 s args wsX2_sharePapers RX2) {S' : sc_M} {r : Int64} (hR : sc_Rl p l e rm_X2_sharePapers s m args below meth c Q cX2_sharePapers (sc_EX dC dI h cy) S' r) : ∀ (S : sc_M) (x2 : Int32) (H : Heap) (locs : List Loc) (ls : Array Slot), fn_X2_sharePapers S x2 = some (r, S') → sc_W (sc_EX dC dI h cy) s H locs S → lv_has ls 9 [(0, .ref (h 1)), (1, .ref (h 2)), (2, .int x2)] → W p l e rm_X2_sharePapers s m args below meth c H locs 0 0 Q (F0 m 0 ls []) := by
  obtain ⟨hx, hb, hml, hown, hts⟩ := id C0
  intro S x2 H locs ls hf hW hl
  rw [fn_X2_sharePapers] at hf
  refine lv_ldc2 (v := (1000000 : Int64)) hx hb hown (hts _ lk_X2_sharePapers_96) dX2_sharePapers_0 ?_
  refine lv_lstore_n (lv' := [(3, .long (1000000 : Int64)), (0, .ref (h 1)), (1, .ref (h 2)), (2, .int x2)]) hx hb dX2_sharePapers_3 rfl hl (by decide) rfl (fun ls hl => ?_)
  refine lv_iconst (v := (0 : Int32)) hx hb dX2_sharePapers_4 (by decide) ?_
  refine lv_istore (lv' := [(5, .int (0 : Int32)), (3, .long (1000000 : Int64)), (0, .ref (h 1)), (1, .ref (h 2)), (2, .int x2)]) hx hb dX2_sharePapers_5 hl (by decide) rfl (fun ls hl => ?_)
  exact wk_X2_sharePapers_7 C0 hR  sc_FU _ _ _ _ _ _ _ hf hW (lv_sub hl [2, 3, 4, 1, 0] rfl)
set_option maxRecDepth 100000 in
theorem ct_X2_sharePapers {S S' : sc_M} {r : Int64} {x2 : Int32} (hf : fn_X2_sharePapers S x2 = some (r, S')) : sc_Cl l yX2_sharePapers wsX2_sharePapers rm_X2_sharePapers (sc_EX dC dI h cy) [.ref (h 1), .ref (h 2), .int x2] S S' r := by
  refine sc_ofl (cc := cX2_sharePapers) (maxL := 9) sc_okX (by decide) rfl (Nat.le_of_ble_eq_true rfl) ?_
  intro p e s m below meth c Q C0 hR hW ls hl
  exact wk_X2_sharePapers_0 C0 hR _ _ _ _ _ hf hW hl
end
