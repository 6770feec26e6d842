/-! ===== SeatCountsModel.in(III)Z ===== -/
abbrev rm_X5_in : Room := { frames := 0, cells := 0, slots := 0, locals := 0 }
noncomputable def fn_X5_in_e (S : sc_M) (x0 : Int32) (x1 : Int32) (x2 : Int32) : Option (Int32 × sc_M) :=
  if x0 < x1 then
    some ((0 : Int32), S)
  else
    if x2 < x0 then
      some ((0 : Int32), S)
    else
      some ((1 : Int32), S)
noncomputable def fn_X5_in (S : sc_M) (x0 : Int32) (x1 : Int32) (x2 : Int32) : Option (Int32 × sc_M) := sc_bz (fn_X5_in_e S x0 x1 x2)
section
variable {p : Program} {l : Launch} {e : Env} {s : State} {m : MethodId} {args : Array Value} {below : List Frame} {meth : Method} {c : Code} {Q : State → Prop} {dC : Nat → ClassId} {dI : Nat → Nat → Nat} {h : Nat → Nat} {cy : Nat → ClassId}
set_option maxHeartbeats 4000000 in
set_option maxRecDepth 100000 in
theorem wk_X5_in_0 (C0 : CallFix p m c cX5_in 3 s args wsX5_in RX5) {S' : sc_M} {r : Int32} (hR : sc_Ri p l e rm_X5_in s m args below meth c Q cX5_in (sc_EM dC dI h cy) S' r) : ∀ (S : sc_M) (x0 : Int32) (x1 : Int32) (x2 : Int32) (H : Heap) (locs : List Loc) (ls : Array Slot), fn_X5_in_e S x0 x1 x2 = some (r, S') → sc_W (sc_EM dC dI h cy) s H locs S → lv_has ls 3 [(0, .int x0), (1, .int x1), (2, .int x2)] → W p l e rm_X5_in s m args below meth c H locs 0 0 Q (F0 m 0 ls []) := by
  obtain ⟨hx, hb, hml, hown, hts⟩ := id C0
  intro S x0 x1 x2 H locs ls hf hW hl
  rw [fn_X5_in_e] at hf
  refine lv_iload_n hx hb dX5_in_0 rfl (lv_at hl 0 rfl) ?_
  refine lv_iload_n hx hb dX5_in_1 rfl (lv_at hl 1 rfl) ?_
  refine lv_icmp_lt (tgt := 14) hx hb dX5_in_2 (by decide) (fun hc => ?_) (fun hc => ?_)
  · replace hf := sc_ip hc hf
    refine lv_iconst (v := (0 : Int32)) hx hb dX5_in_14 (by decide) ?_
    exact sc_reti hR hf hW dX5_in_15
  · replace hf := sc_in hc hf
    refine lv_iload_n hx hb dX5_in_5 rfl (lv_at hl 0 rfl) ?_
    refine lv_iload_n hx hb dX5_in_6 rfl (lv_at hl 2 rfl) ?_
    refine lv_icmp_gt (tgt := 14) hx hb dX5_in_7 (by decide) (fun hc => ?_) (fun hc => ?_)
    · replace hf := sc_ip hc hf
      refine lv_iconst (v := (0 : Int32)) hx hb dX5_in_14 (by decide) ?_
      exact sc_reti hR hf hW dX5_in_15
    · replace hf := sc_in hc hf
      refine lv_iconst (v := (1 : Int32)) hx hb dX5_in_10 (by decide) ?_
      refine lv_goto (tgt := 15) hx hb dX5_in_11 (by decide) ?_
      exact sc_reti hR hf hW dX5_in_15
set_option maxRecDepth 100000 in
theorem ct_X5_in {S S' : sc_M} {r : Int32} {x0 : Int32} {x1 : Int32} {x2 : Int32} (hf : fn_X5_in S x0 x1 x2 = some (r, S')) : sc_Ci l yX5_in wsX5_in rm_X5_in (sc_EM dC dI h cy) [.int x0, .int x1, .int x2] S S' r := by
  obtain ⟨hf, h01⟩ := sc_bz_s hf
  refine sc_ofi (cc := cX5_in) (maxL := 3) .boolean (sc_nar01 h01) sc_okM (by decide) rfl (Nat.le_of_ble_eq_true rfl) ?_
  intro p e s m below meth c Q C0 hR hW ls hl
  exact wk_X5_in_0 C0 hR _ _ _ _ _ _ _ hf hW hl
end

/-! ===== SeatCountsModel.begin(I)V ===== -/
abbrev rm_X5_begin : Room := { frames := 0, cells := 0, slots := 0, locals := 0 }
theorem lk_X5_begin_101 : Cond.fieldLink RX5 101 "SeatCountsModel" "many" "I" ∈ wsX5_begin := by decide +kernel
theorem lk_X5_begin_104 : Cond.fieldLink RX5 104 "SeatCountsModel" "piles" "I" ∈ wsX5_begin := by decide +kernel
theorem lk_X5_begin_13 : Cond.fieldLink RX5 13 "SeatCountsModel" "lot" "[I" ∈ wsX5_begin := by decide +kernel
theorem lk_X5_begin_7 : Cond.fieldLink RX5 7 "SeatCountsModel" "isWithdrawn" "[Z" ∈ wsX5_begin := by decide +kernel
theorem ni_X5_begin_X5 : ∀ w ∈ wsX50, w ∈ wsX5_begin := by decide +kernel
noncomputable def fn_X5_begin_12 : Nat → sc_M → Int32 → Option (sc_M)
  | 0, _, _ => none
  | n + 1, S, x2 =>
    if (12 : Int32) ≤ x2 then
      some S
    else
      sc_ck x2 12 (sc_sq (sc_mA S 1 (upd (sc_ga S 1) x2.toNatClampNeg (vp_nar .boolean (0 : Int32)))) (fun S24 => sc_ck x2 12 (sc_sq (sc_mA S24 2 (upd (sc_ga S24 2) x2.toNatClampNeg x2)) (fun S31 => fn_X5_begin_12 n S31 (x2 + 1)))))
noncomputable def fn_X5_begin (S : sc_M) (x1 : Int32) : Option (sc_M) :=
  sc_sq (sc_mi S 0 x1) (fun S2 => sc_sq (sc_mi S2 1 (0 : Int32)) (fun S7 => fn_X5_begin_12 sc_FU S7 (0 : Int32)))
section
variable {p : Program} {l : Launch} {e : Env} {s : State} {m : MethodId} {args : Array Value} {below : List Frame} {meth : Method} {c : Code} {Q : State → Prop} {dC : Nat → ClassId} {dI : Nat → Nat → Nat} {h : Nat → Nat} {cy : Nat → ClassId}
set_option maxHeartbeats 4000000 in
set_option maxRecDepth 100000 in
theorem wk_X5_begin_12 (C0 : CallFix p m c cX5_begin 3 s args wsX5_begin RX5) {S' : sc_M} (hR : sc_Rv p l e rm_X5_begin s m args below meth c Q cX5_begin (sc_EM dC dI h cy) S') : ∀ n : Nat, ∀ (S : sc_M) (x2 : Int32) (H : Heap) (locs : List Loc) (ls : Array Slot), fn_X5_begin_12 n S x2 = some S' → sc_W (sc_EM dC dI h cy) s H locs S → lv_has ls 3 [(0, .ref (h 0)), (2, .int x2)] → W p l e rm_X5_begin s m args below meth c H locs 0 0 Q (F0 m 12 ls []) := by
  obtain ⟨hx, hb, hml, hown, hts⟩ := id C0
  intro n
  induction n with
  | zero => intro S x2 H locs ls; intro hf; cases hf
  | succ n ih =>
    intro S x2 H locs ls hf hW hl
    rw [fn_X5_begin_12] at hf
    refine lv_iload_n hx hb dX5_begin_12 rfl (lv_at hl 1 rfl) ?_
    refine lv_bipush (v := (12 : Int32)) hx hb dX5_begin_13 (by decide) ?_
    refine lv_icmp_ge (tgt := 38) hx hb dX5_begin_15 (by decide) (fun hc => ?_) (fun hc => ?_)
    · replace hf := sc_ip hc hf
      exact sc_retv hR hf hW dX5_begin_38
    · replace hf := sc_in hc hf
      refine lv_aload_n hx hb dX5_begin_18 rfl (lv_at hl 0 rfl) ?_
      refine sc_getX5 C0 hW ni_X5_begin_X5 1 (Nat.le_of_ble_eq_true rfl) lk_X5_begin_7 (v := .ref (h 1)) rfl dX5_begin_19 ?_
      refine lv_iload_n hx hb dX5_begin_22 rfl (lv_at hl 1 rfl) ?_
      refine lv_iconst (v := (0 : Int32)) hx hb dX5_begin_23 (by decide) ?_
      obtain ⟨hv, hf⟩ := sc_ck_s hf
      obtain ⟨S24, eS24, hf⟩ := sc_sq_s hf
      refine sc_stM_1 C0 hW hv eS24 dX5_begin_24 (fun H locs hW => ?_)
      refine lv_aload_n hx hb dX5_begin_25 rfl (lv_at hl 0 rfl) ?_
      refine sc_getX5 C0 hW ni_X5_begin_X5 2 (Nat.le_of_ble_eq_true rfl) lk_X5_begin_13 (v := .ref (h 2)) rfl dX5_begin_26 ?_
      refine lv_iload_n hx hb dX5_begin_29 rfl (lv_at hl 1 rfl) ?_
      refine lv_iload_n hx hb dX5_begin_30 rfl (lv_at hl 1 rfl) ?_
      obtain ⟨hv, hf⟩ := sc_ck_s hf
      obtain ⟨S31, eS31, hf⟩ := sc_sq_s hf
      refine sc_stM_2 C0 hW hv eS31 dX5_begin_31 (fun H locs hW => ?_)
      refine lv_iinc (v := (x2 + 1)) (lv' := [(2, .int (x2 + 1)), (0, .ref (h 0))]) hx hb dX5_begin_32 hl (k := 1) rfl rfl (by decide) rfl (fun ls hl => ?_)
      refine lv_goto (tgt := 12) hx hb dX5_begin_35 (by decide) ?_
      exact ih _ _ _ _ _ hf hW (lv_sub hl [1, 0] rfl)
set_option maxHeartbeats 4000000 in
set_option maxRecDepth 100000 in
theorem wk_X5_begin_0 (C0 : CallFix p m c cX5_begin 3 s args wsX5_begin RX5) {S' : sc_M} (hR : sc_Rv p l e rm_X5_begin s m args below meth c Q cX5_begin (sc_EM dC dI h cy) S') : ∀ (S : sc_M) (x1 : Int32) (H : Heap) (locs : List Loc) (ls : Array Slot), fn_X5_begin S x1 = some S' → sc_W (sc_EM dC dI h cy) s H locs S → lv_has ls 3 [(0, .ref (h 0)), (1, .int x1)] → W p l e rm_X5_begin s m args below meth c H locs 0 0 Q (F0 m 0 ls []) := by
  obtain ⟨hx, hb, hml, hown, hts⟩ := id C0
  intro S x1 H locs ls hf hW hl
  rw [fn_X5_begin] at hf
  refine lv_aload_n hx hb dX5_begin_0 rfl (lv_at hl 0 rfl) ?_
  refine lv_iload_n hx hb dX5_begin_1 rfl (lv_at hl 1 rfl) ?_
  obtain ⟨S2, eS2, hf⟩ := sc_sq_s hf
  refine sc_putX5_many C0 hW ni_X5_begin_X5 lk_X5_begin_101 eS2 dX5_begin_2 (fun H locs hW => ?_)
  refine lv_aload_n hx hb dX5_begin_5 rfl (lv_at hl 0 rfl) ?_
  refine lv_iconst (v := (0 : Int32)) hx hb dX5_begin_6 (by decide) ?_
  obtain ⟨S7, eS7, hf⟩ := sc_sq_s hf
  refine sc_putX5_piles C0 hW ni_X5_begin_X5 lk_X5_begin_104 eS7 dX5_begin_7 (fun H locs hW => ?_)
  refine lv_iconst (v := (0 : Int32)) hx hb dX5_begin_10 (by decide) ?_
  refine lv_istore_n (lv' := [(2, .int (0 : Int32)), (0, .ref (h 0)), (1, .int x1)]) hx hb dX5_begin_11 rfl hl (by decide) rfl (fun ls hl => ?_)
  exact wk_X5_begin_12 C0 hR  sc_FU _ _ _ _ _ hf hW (lv_sub hl [1, 0] rfl)
set_option maxRecDepth 100000 in
theorem ct_X5_begin {S S' : sc_M} {x1 : Int32} (hf : fn_X5_begin S x1 = some S') : sc_Cv l yX5_begin wsX5_begin rm_X5_begin (sc_EM dC dI h cy) [.ref (h 0), .int x1] S S' := by
  refine sc_ofv (cc := cX5_begin) (maxL := 3) sc_okM (by decide) rfl (Nat.le_of_ble_eq_true rfl) ?_
  intro p e s m below meth c Q C0 hR hW ls hl
  exact wk_X5_begin_0 C0 hR _ _ _ _ _ hf hW hl
end

/-! ===== SeatCountsModel.noOne(I)Z ===== -/
abbrev rm_X5_noOne : Room := { frames := 1, cells := 0, slots := 0, locals := 22 }
theorem lk_X5_noOne_101 : Cond.fieldLink RX5 101 "SeatCountsModel" "many" "I" ∈ wsX5_noOne := by decide +kernel
theorem ni_X5_noOne_X5 : ∀ w ∈ wsX50, w ∈ wsX5_noOne := by decide +kernel
noncomputable def fn_X5_noOne_e (S : sc_M) (x1 : Int32) : Option (Int32 × sc_M) :=
  sc_cl (fn_X5_in S x1 (0 : Int32) ((sc_gi S 0) - (1 : Int32))) (fun r8 S8 => if r8 = 0 then
    some ((1 : Int32), S8)
  else
    some ((0 : Int32), S8))
noncomputable def fn_X5_noOne (S : sc_M) (x1 : Int32) : Option (Int32 × sc_M) := sc_bz (fn_X5_noOne_e S x1)
section
variable {p : Program} {l : Launch} {e : Env} {s : State} {m : MethodId} {args : Array Value} {below : List Frame} {meth : Method} {c : Code} {Q : State → Prop} {dC : Nat → ClassId} {dI : Nat → Nat → Nat} {h : Nat → Nat} {cy : Nat → ClassId}
set_option maxHeartbeats 4000000 in
set_option maxRecDepth 100000 in
theorem wk_X5_noOne_0 (C0 : CallFix p m c cX5_noOne 2 s args wsX5_noOne RX5) {S' : sc_M} {r : Int32} (hR : sc_Ri p l e rm_X5_noOne s m args below meth c Q cX5_noOne (sc_EM dC dI h cy) S' r) : ∀ (S : sc_M) (x1 : Int32) (H : Heap) (locs : List Loc) (ls : Array Slot), fn_X5_noOne_e S x1 = some (r, S') → sc_W (sc_EM dC dI h cy) s H locs S → lv_has ls 2 [(0, .ref (h 0)), (1, .int x1)] → W p l e rm_X5_noOne s m args below meth c H locs 0 0 Q (F0 m 0 ls []) := by
  obtain ⟨hx, hb, hml, hown, hts⟩ := id C0
  intro S x1 H locs ls hf hW hl
  rw [fn_X5_noOne_e] at hf
  refine lv_iload_n hx hb dX5_noOne_0 rfl (lv_at hl 1 rfl) ?_
  refine lv_iconst (v := (0 : Int32)) hx hb dX5_noOne_1 (by decide) ?_
  refine lv_aload_n hx hb dX5_noOne_2 rfl (lv_at hl 0 rfl) ?_
  refine sc_getX5 C0 hW ni_X5_noOne_X5 0 (Nat.le_of_ble_eq_true rfl) lk_X5_noOne_101 (v := .int (sc_gi S 0)) rfl dX5_noOne_3 ?_
  refine lv_iconst (v := (1 : Int32)) hx hb dX5_noOne_6 (by decide) ?_
  refine lv_isub hx hb dX5_noOne_7 ?_
  obtain ⟨r8, S8, hc, hf⟩ := sc_cl_s hf
  refine sc_callSi (As := [.int x1, .int (0 : Int32), .int ((sc_gi S 0) - (1 : Int32))]) (rest := []) sc_okM C0 hW (ct_X5_in hc) (va_cwS 3 hts gX5_noOne_X5_in rfl rfl rfl (by decide +kernel) ⟨Nat.le_of_ble_eq_true rfl, Nat.le_of_ble_eq_true rfl⟩) rfl hl.1 rfl (Nat.le_of_ble_eq_true rfl) dX5_noOne_8 (fun H locs hW => ?_)
  refine lv_if_ne (tgt := 18) hx hb dX5_noOne_11 (by decide) (fun hc => ?_) (fun hc => ?_)
  · replace hf := sc_in hc hf
    refine lv_iconst (v := (0 : Int32)) hx hb dX5_noOne_18 (by decide) ?_
    exact sc_reti hR hf hW dX5_noOne_19
  · replace hf := sc_ip hc hf
    refine lv_iconst (v := (1 : Int32)) hx hb dX5_noOne_14 (by decide) ?_
    refine lv_goto (tgt := 19) hx hb dX5_noOne_15 (by decide) ?_
    exact sc_reti hR hf hW dX5_noOne_19
set_option maxRecDepth 100000 in
theorem ct_X5_noOne {S S' : sc_M} {r : Int32} {x1 : Int32} (hf : fn_X5_noOne S x1 = some (r, S')) : sc_Ci l yX5_noOne wsX5_noOne rm_X5_noOne (sc_EM dC dI h cy) [.ref (h 0), .int x1] S S' r := by
  obtain ⟨hf, h01⟩ := sc_bz_s hf
  refine sc_ofi (cc := cX5_noOne) (maxL := 2) .boolean (sc_nar01 h01) sc_okM (by decide) rfl (Nat.le_of_ble_eq_true rfl) ?_
  intro p e s m below meth c Q C0 hR hW ls hl
  exact wk_X5_noOne_0 C0 hR _ _ _ _ _ hf hW hl
end

/-! ===== SeatCountsModel.candidates(I)I ===== -/
abbrev rm_X5_candidates : Room := { frames := 1, cells := 0, slots := 0, locals := 22 }
theorem lk_X5_candidates_101 : Cond.fieldLink RX5 101 "SeatCountsModel" "many" "I" ∈ wsX5_candidates := by decide +kernel
theorem ni_X5_candidates_X5 : ∀ w ∈ wsX50, w ∈ wsX5_candidates := by decide +kernel
noncomputable def fn_X5_candidates (S : sc_M) (x1 : Int32) : Option (Int32 × sc_M) :=
  sc_cl (fn_X5_in S x1 (1 : Int32) (12 : Int32)) (fun r4 S4 => if r4 = 0 then
    some ((-2 : Int32), S4)
  else
    sc_sq ((sc_gi S4 0)) (fun y17 => sc_cv (fn_X5_begin S4 x1) (fun S20 => some (y17, S20))))
section
variable {p : Program} {l : Launch} {e : Env} {s : State} {m : MethodId} {args : Array Value} {below : List Frame} {meth : Method} {c : Code} {Q : State → Prop} {dC : Nat → ClassId} {dI : Nat → Nat → Nat} {h : Nat → Nat} {cy : Nat → ClassId}
set_option maxHeartbeats 4000000 in
set_option maxRecDepth 100000 in
theorem wk_X5_candidates_0 (C0 : CallFix p m c cX5_candidates 3 s args wsX5_candidates RX5) {S' : sc_M} {r : Int32} (hR : sc_Ri p l e rm_X5_candidates s m args below meth c Q cX5_candidates (sc_EM dC dI h cy) S' r) : ∀ (S : sc_M) (x1 : Int32) (H : Heap) (locs : List Loc) (ls : Array Slot), fn_X5_candidates S x1 = some (r, S') → sc_W (sc_EM dC dI h cy) s H locs S → lv_has ls 3 [(0, .ref (h 0)), (1, .int x1)] → W p l e rm_X5_candidates s m args below meth c H locs 0 0 Q (F0 m 0 ls []) := by
  obtain ⟨hx, hb, hml, hown, hts⟩ := id C0
  intro S x1 H locs ls hf hW hl
  rw [fn_X5_candidates] at hf
  refine lv_iload_n hx hb dX5_candidates_0 rfl (lv_at hl 1 rfl) ?_
  refine lv_iconst (v := (1 : Int32)) hx hb dX5_candidates_1 (by decide) ?_
  refine lv_bipush (v := (12 : Int32)) hx hb dX5_candidates_2 (by decide) ?_
  obtain ⟨r4, S4, hc, hf⟩ := sc_cl_s hf
  refine sc_callSi (As := [.int x1, .int (1 : Int32), .int (12 : Int32)]) (rest := []) sc_okM C0 hW (ct_X5_in hc) (va_cwS 3 hts gX5_candidates_X5_in rfl rfl rfl (by decide +kernel) ⟨Nat.le_of_ble_eq_true rfl, Nat.le_of_ble_eq_true rfl⟩) rfl hl.1 rfl (Nat.le_of_ble_eq_true rfl) dX5_candidates_4 (fun H locs hW => ?_)
  refine lv_if_ne (tgt := 13) hx hb dX5_candidates_7 (by decide) (fun hc => ?_) (fun hc => ?_)
  · replace hf := sc_in hc hf
    refine lv_aload_n hx hb dX5_candidates_13 rfl (lv_at hl 0 rfl) ?_
    refine sc_getX5 C0 hW ni_X5_candidates_X5 0 (Nat.le_of_ble_eq_true rfl) lk_X5_candidates_101 (v := .int (sc_gi S4 0)) rfl dX5_candidates_14 ?_
    obtain ⟨y17, ey17, hf⟩ := sc_sq_s hf
    refine sc_topi ey17 ?_
    refine lv_istore_n (lv' := [(2, .int y17), (0, .ref (h 0)), (1, .int x1)]) hx hb dX5_candidates_17 rfl hl (by decide) rfl (fun ls hl => ?_)
    refine lv_aload_n hx hb dX5_candidates_18 rfl (lv_at hl 1 rfl) ?_
    refine lv_iload_n hx hb dX5_candidates_19 rfl (lv_at hl 2 rfl) ?_
    obtain ⟨S20, hc, hf⟩ := sc_cv_s hf
    refine sc_callVv (As := [.int x1]) (rest := []) (q0 := 0) (ci := 4) sc_okM C0 hW (ct_X5_begin hc) (cwV 1 hts gX5_candidates_X5_begin rfl rfl rfl (by decide +kernel) ⟨Nat.le_of_ble_eq_true rfl, Nat.le_of_ble_eq_true rfl⟩) rfl rfl rfl rfl hl.1 rfl (Nat.le_of_ble_eq_true rfl) dX5_candidates_20 (fun H locs hW => ?_)
    refine lv_iload_n hx hb dX5_candidates_23 rfl (lv_at hl 0 rfl) ?_
    exact sc_reti hR hf hW dX5_candidates_24
  · replace hf := sc_ip hc hf
    refine lv_bipush (v := (-2 : Int32)) hx hb dX5_candidates_10 (by decide) ?_
    exact sc_reti hR hf hW dX5_candidates_12
set_option maxRecDepth 100000 in
theorem ct_X5_candidates {S S' : sc_M} {r : Int32} {x1 : Int32} (hf : fn_X5_candidates S x1 = some (r, S')) : sc_Ci l yX5_candidates wsX5_candidates rm_X5_candidates (sc_EM dC dI h cy) [.ref (h 0), .int x1] S S' r := by
  refine sc_ofi (cc := cX5_candidates) (maxL := 3) .int rfl sc_okM (by decide) rfl (Nat.le_of_ble_eq_true rfl) ?_
  intro p e s m below meth c Q C0 hR hW ls hl
  exact wk_X5_candidates_0 C0 hR _ _ _ _ _ hf hW hl
end

/-! ===== SeatCountsModel.withdraw(IZ)I ===== -/
abbrev rm_X5_withdraw : Room := { frames := 2, cells := 0, slots := 0, locals := 43 }
theorem lk_X5_withdraw_7 : Cond.fieldLink RX5 7 "SeatCountsModel" "isWithdrawn" "[Z" ∈ wsX5_withdraw := by decide +kernel
theorem ni_X5_withdraw_X5 : ∀ w ∈ wsX50, w ∈ wsX5_withdraw := by decide +kernel
noncomputable def fn_X5_withdraw (S : sc_M) (x1 : Int32) (x2 : Int32) : Option (Int32 × sc_M) :=
  sc_cl (fn_X5_noOne S x1) (fun r2 S2 => if r2 = 0 then
    sc_ck x1 12 (if (sc_ga S2 1 x1.toNatClampNeg) = x2 then
      sc_ck x1 12 (sc_sq (sc_mA S2 1 (upd (sc_ga S2 1) x1.toNatClampNeg (vp_nar .boolean x2))) (fun S32 => some ((0 : Int32), S32)))
    else
      sc_ck x1 12 (sc_sq (sc_mA S2 1 (upd (sc_ga S2 1) x1.toNatClampNeg (vp_nar .boolean x2))) (fun S32 => some ((1 : Int32), S32))))
  else
    some ((-1 : Int32), S2))
section
variable {p : Program} {l : Launch} {e : Env} {s : State} {m : MethodId} {args : Array Value} {below : List Frame} {meth : Method} {c : Code} {Q : State → Prop} {dC : Nat → ClassId} {dI : Nat → Nat → Nat} {h : Nat → Nat} {cy : Nat → ClassId}
set_option maxHeartbeats 4000000 in
set_option maxRecDepth 100000 in
theorem wk_X5_withdraw_0 (C0 : CallFix p m c cX5_withdraw 4 s args wsX5_withdraw RX5) {S' : sc_M} {r : Int32} (hR : sc_Ri p l e rm_X5_withdraw s m args below meth c Q cX5_withdraw (sc_EM dC dI h cy) S' r) : ∀ (S : sc_M) (x1 : Int32) (x2 : Int32) (H : Heap) (locs : List Loc) (ls : Array Slot), fn_X5_withdraw S x1 x2 = some (r, S') → sc_W (sc_EM dC dI h cy) s H locs S → lv_has ls 4 [(0, .ref (h 0)), (1, .int x1), (2, .int x2)] → W p l e rm_X5_withdraw s m args below meth c H locs 0 0 Q (F0 m 0 ls []) := by
  obtain ⟨hx, hb, hml, hown, hts⟩ := id C0
  intro S x1 x2 H locs ls hf hW hl
  rw [fn_X5_withdraw] at hf
  refine lv_aload_n hx hb dX5_withdraw_0 rfl (lv_at hl 0 rfl) ?_
  refine lv_iload_n hx hb dX5_withdraw_1 rfl (lv_at hl 1 rfl) ?_
  obtain ⟨r2, S2, hc, hf⟩ := sc_cl_s hf
  refine sc_callVi (As := [.int x1]) (rest := []) (q0 := 0) (ci := 4) sc_okM C0 hW (ct_X5_noOne hc) (cwV 1 hts gX5_withdraw_X5_noOne rfl rfl rfl (by decide +kernel) ⟨Nat.le_of_ble_eq_true rfl, Nat.le_of_ble_eq_true rfl⟩) rfl rfl rfl rfl hl.1 rfl (Nat.le_of_ble_eq_true rfl) dX5_withdraw_2 (fun H locs hW => ?_)
  refine lv_if_eq (tgt := 10) hx hb dX5_withdraw_5 (by decide) (fun hc => ?_) (fun hc => ?_)
  · replace hf := sc_ip hc hf
    refine lv_aload_n hx hb dX5_withdraw_10 rfl (lv_at hl 0 rfl) ?_
    refine sc_getX5 C0 hW ni_X5_withdraw_X5 1 (Nat.le_of_ble_eq_true rfl) lk_X5_withdraw_7 (v := .ref (h 1)) rfl dX5_withdraw_11 ?_
    refine lv_iload_n hx hb dX5_withdraw_14 rfl (lv_at hl 1 rfl) ?_
    obtain ⟨hv, hf⟩ := sc_ck_s hf
    refine sc_ldM_1 C0 hW hv dX5_withdraw_15 ?_
    refine lv_iload_n hx hb dX5_withdraw_16 rfl (lv_at hl 2 rfl) ?_
    refine lv_icmp_ne (tgt := 24) hx hb dX5_withdraw_17 (by decide) (fun hc => ?_) (fun hc => ?_)
    · replace hf := sc_in hc hf
      refine lv_iconst (v := (1 : Int32)) hx hb dX5_withdraw_24 (by decide) ?_
      refine lv_istore_n (lv' := [(3, .int (1 : Int32)), (0, .ref (h 0)), (1, .int x1), (2, .int x2)]) hx hb dX5_withdraw_25 rfl hl (by decide) rfl (fun ls hl => ?_)
      refine lv_aload_n hx hb dX5_withdraw_26 rfl (lv_at hl 1 rfl) ?_
      refine sc_getX5 C0 hW ni_X5_withdraw_X5 1 (Nat.le_of_ble_eq_true rfl) lk_X5_withdraw_7 (v := .ref (h 1)) rfl dX5_withdraw_27 ?_
      refine lv_iload_n hx hb dX5_withdraw_30 rfl (lv_at hl 2 rfl) ?_
      refine lv_iload_n hx hb dX5_withdraw_31 rfl (lv_at hl 3 rfl) ?_
      obtain ⟨hv, hf⟩ := sc_ck_s hf
      obtain ⟨S32, eS32, hf⟩ := sc_sq_s hf
      refine sc_stM_1 C0 hW hv eS32 dX5_withdraw_32 (fun H locs hW => ?_)
      refine lv_iload_n hx hb dX5_withdraw_33 rfl (lv_at hl 0 rfl) ?_
      exact sc_reti hR hf hW dX5_withdraw_34
    · replace hf := sc_ip hc hf
      refine lv_iconst (v := (0 : Int32)) hx hb dX5_withdraw_20 (by decide) ?_
      refine lv_goto (tgt := 25) hx hb dX5_withdraw_21 (by decide) ?_
      refine lv_istore_n (lv' := [(3, .int (0 : Int32)), (0, .ref (h 0)), (1, .int x1), (2, .int x2)]) hx hb dX5_withdraw_25 rfl hl (by decide) rfl (fun ls hl => ?_)
      refine lv_aload_n hx hb dX5_withdraw_26 rfl (lv_at hl 1 rfl) ?_
      refine sc_getX5 C0 hW ni_X5_withdraw_X5 1 (Nat.le_of_ble_eq_true rfl) lk_X5_withdraw_7 (v := .ref (h 1)) rfl dX5_withdraw_27 ?_
      refine lv_iload_n hx hb dX5_withdraw_30 rfl (lv_at hl 2 rfl) ?_
      refine lv_iload_n hx hb dX5_withdraw_31 rfl (lv_at hl 3 rfl) ?_
      obtain ⟨hv, hf⟩ := sc_ck_s hf
      obtain ⟨S32, eS32, hf⟩ := sc_sq_s hf
      refine sc_stM_1 C0 hW hv eS32 dX5_withdraw_32 (fun H locs hW => ?_)
      refine lv_iload_n hx hb dX5_withdraw_33 rfl (lv_at hl 0 rfl) ?_
      exact sc_reti hR hf hW dX5_withdraw_34
  · replace hf := sc_in hc hf
    refine lv_iconst (v := (-1 : Int32)) hx hb dX5_withdraw_8 (by decide) ?_
    exact sc_reti hR hf hW dX5_withdraw_9
set_option maxRecDepth 100000 in
theorem ct_X5_withdraw {S S' : sc_M} {r : Int32} {x1 : Int32} {x2 : Int32} (hf : fn_X5_withdraw S x1 x2 = some (r, S')) : sc_Ci l yX5_withdraw wsX5_withdraw rm_X5_withdraw (sc_EM dC dI h cy) [.ref (h 0), .int x1, .int x2] S S' r := by
  refine sc_ofi (cc := cX5_withdraw) (maxL := 4) .int rfl sc_okM (by decide) rfl (Nat.le_of_ble_eq_true rfl) ?_
  intro p e s m below meth c Q C0 hR hW ls hl
  exact wk_X5_withdraw_0 C0 hR _ _ _ _ _ _ hf hW hl
end

/-! ===== SeatCountsModel.lot(II)I ===== -/
abbrev rm_X5_lot : Room := { frames := 2, cells := 0, slots := 0, locals := 43 }
theorem lk_X5_lot_101 : Cond.fieldLink RX5 101 "SeatCountsModel" "many" "I" ∈ wsX5_lot := by decide +kernel
theorem lk_X5_lot_13 : Cond.fieldLink RX5 13 "SeatCountsModel" "lot" "[I" ∈ wsX5_lot := by decide +kernel
theorem ni_X5_lot_X5 : ∀ w ∈ wsX50, w ∈ wsX5_lot := by decide +kernel
noncomputable def fn_X5_lot_37 : Nat → sc_M → Int32 → Int32 → Int32 → Int32 → Option (Int32 × sc_M)
  | 0, _, _, _, _, _ => none
  | n + 1, S, x1, x2, x3, x4 =>
    if (sc_gi S 0) ≤ x4 then
      sc_ck x1 12 (sc_sq (sc_mA S 2 (upd (sc_ga S 2) x1.toNatClampNeg x2)) (fun S87 => some (x3, S87)))
    else
      sc_ck x4 12 (if (sc_ga S 2 x4.toNatClampNeg) = x2 then
        sc_ck x4 12 (sc_sq (sc_mA S 2 (upd (sc_ga S 2) x4.toNatClampNeg x3)) (fun S74 => fn_X5_lot_37 n S74 x1 x2 x3 (x4 + 1)))
      else
        sc_ck x4 12 (sc_ck x4 12 (sc_sq (sc_mA S 2 (upd (sc_ga S 2) x4.toNatClampNeg (sc_ga S 2 x4.toNatClampNeg))) (fun S74 => fn_X5_lot_37 n S74 x1 x2 x3 (x4 + 1)))))
noncomputable def fn_X5_lot (S : sc_M) (x1 : Int32) (x2 : Int32) : Option (Int32 × sc_M) :=
  sc_cl (fn_X5_noOne S x1) (fun r2 S2 => if r2 = 0 then
    sc_cl (fn_X5_in S2 x2 (0 : Int32) ((sc_gi S2 0) - (1 : Int32))) (fun r18 S18 => if r18 = 0 then
      some ((-2 : Int32), S18)
    else
      sc_ck x1 12 (sc_sq ((sc_ga S18 2 x1.toNatClampNeg)) (fun y33 => fn_X5_lot_37 sc_FU S18 x1 x2 y33 (0 : Int32))))
  else
    some ((-1 : Int32), S2))
section
variable {p : Program} {l : Launch} {e : Env} {s : State} {m : MethodId} {args : Array Value} {below : List Frame} {meth : Method} {c : Code} {Q : State → Prop} {dC : Nat → ClassId} {dI : Nat → Nat → Nat} {h : Nat → Nat} {cy : Nat → ClassId}
set_option maxHeartbeats 4000000 in
set_option maxRecDepth 100000 in
theorem wk_X5_lot_37 (C0 : CallFix p m c cX5_lot 5 s args wsX5_lot RX5) {S' : sc_M} {r : Int32} (hR : sc_Ri p l e rm_X5_lot s m args below meth c Q cX5_lot (sc_EM dC dI h cy) S' r) : ∀ n : Nat, ∀ (S : sc_M) (x1 : Int32) (x2 : Int32) (x3 : Int32) (x4 : Int32) (H : Heap) (locs : List Loc) (ls : Array Slot), fn_X5_lot_37 n S x1 x2 x3 x4 = some (r, S') → sc_W (sc_EM dC dI h cy) s H locs S → lv_has ls 5 [(0, .ref (h 0)), (1, .int x1), (2, .int x2), (3, .int x3), (4, .int x4)] → W p l e rm_X5_lot s m args below meth c H locs 0 0 Q (F0 m 37 ls []) := by
  obtain ⟨hx, hb, hml, hown, hts⟩ := id C0
  intro n
  induction n with
  | zero => intro S x1 x2 x3 x4 H locs ls; intro hf; cases hf
  | succ n ih =>
    intro S x1 x2 x3 x4 H locs ls hf hW hl
    rw [fn_X5_lot_37] at hf
    refine lv_iload hx hb dX5_lot_37 (lv_at hl 4 rfl) ?_
    refine lv_aload_n hx hb dX5_lot_39 rfl (lv_at hl 0 rfl) ?_
    refine sc_getX5 C0 hW ni_X5_lot_X5 0 (Nat.le_of_ble_eq_true rfl) lk_X5_lot_101 (v := .int (sc_gi S 0)) rfl dX5_lot_40 ?_
    refine lv_icmp_ge (tgt := 81) hx hb dX5_lot_43 (by decide) (fun hc => ?_) (fun hc => ?_)
    · replace hf := sc_ip hc hf
      refine lv_aload_n hx hb dX5_lot_81 rfl (lv_at hl 0 rfl) ?_
      refine sc_getX5 C0 hW ni_X5_lot_X5 2 (Nat.le_of_ble_eq_true rfl) lk_X5_lot_13 (v := .ref (h 2)) rfl dX5_lot_82 ?_
      refine lv_iload_n hx hb dX5_lot_85 rfl (lv_at hl 1 rfl) ?_
      refine lv_iload_n hx hb dX5_lot_86 rfl (lv_at hl 2 rfl) ?_
      obtain ⟨hv, hf⟩ := sc_ck_s hf
      obtain ⟨S87, eS87, hf⟩ := sc_sq_s hf
      refine sc_stM_2 C0 hW hv eS87 dX5_lot_87 (fun H locs hW => ?_)
      refine lv_iload_n hx hb dX5_lot_88 rfl (lv_at hl 3 rfl) ?_
      exact sc_reti hR hf hW dX5_lot_89
    · replace hf := sc_in hc hf
      refine lv_aload_n hx hb dX5_lot_46 rfl (lv_at hl 0 rfl) ?_
      refine sc_getX5 C0 hW ni_X5_lot_X5 2 (Nat.le_of_ble_eq_true rfl) lk_X5_lot_13 (v := .ref (h 2)) rfl dX5_lot_47 ?_
      refine lv_iload hx hb dX5_lot_50 (lv_at hl 4 rfl) ?_
      refine lv_aload_n hx hb dX5_lot_52 rfl (lv_at hl 0 rfl) ?_
      refine sc_getX5 C0 hW ni_X5_lot_X5 2 (Nat.le_of_ble_eq_true rfl) lk_X5_lot_13 (v := .ref (h 2)) rfl dX5_lot_53 ?_
      refine lv_iload hx hb dX5_lot_56 (lv_at hl 4 rfl) ?_
      obtain ⟨hv, hf⟩ := sc_ck_s hf
      refine sc_ldM_2 C0 hW hv dX5_lot_58 ?_
      refine lv_iload_n hx hb dX5_lot_59 rfl (lv_at hl 2 rfl) ?_
      refine lv_icmp_ne (tgt := 67) hx hb dX5_lot_60 (by decide) (fun hc => ?_) (fun hc => ?_)
      · replace hf := sc_in hc hf
        refine lv_aload_n hx hb dX5_lot_67 rfl (lv_at hl 0 rfl) ?_
        refine sc_getX5 C0 hW ni_X5_lot_X5 2 (Nat.le_of_ble_eq_true rfl) lk_X5_lot_13 (v := .ref (h 2)) rfl dX5_lot_68 ?_
        refine lv_iload hx hb dX5_lot_71 (lv_at hl 4 rfl) ?_
        obtain ⟨hv, hf⟩ := sc_ck_s hf
        refine sc_ldM_2 C0 hW hv dX5_lot_73 ?_
        obtain ⟨hv, hf⟩ := sc_ck_s hf
        obtain ⟨S74, eS74, hf⟩ := sc_sq_s hf
        refine sc_stM_2 C0 hW hv eS74 dX5_lot_74 (fun H locs hW => ?_)
        refine lv_iinc (v := (x4 + 1)) (lv' := [(4, .int (x4 + 1)), (0, .ref (h 0)), (1, .int x1), (2, .int x2), (3, .int x3)]) hx hb dX5_lot_75 hl (k := 4) rfl rfl (by decide) rfl (fun ls hl => ?_)
        refine lv_goto (tgt := 37) hx hb dX5_lot_78 (by decide) ?_
        exact ih _ _ _ _ _ _ _ _ hf hW (lv_sub hl [1, 2, 3, 4, 0] rfl)
      · replace hf := sc_ip hc hf
        refine lv_iload_n hx hb dX5_lot_63 rfl (lv_at hl 3 rfl) ?_
        refine lv_goto (tgt := 74) hx hb dX5_lot_64 (by decide) ?_
        obtain ⟨hv, hf⟩ := sc_ck_s hf
        obtain ⟨S74, eS74, hf⟩ := sc_sq_s hf
        refine sc_stM_2 C0 hW hv eS74 dX5_lot_74 (fun H locs hW => ?_)
        refine lv_iinc (v := (x4 + 1)) (lv' := [(4, .int (x4 + 1)), (0, .ref (h 0)), (1, .int x1), (2, .int x2), (3, .int x3)]) hx hb dX5_lot_75 hl (k := 4) rfl rfl (by decide) rfl (fun ls hl => ?_)
        refine lv_goto (tgt := 37) hx hb dX5_lot_78 (by decide) ?_
        exact ih _ _ _ _ _ _ _ _ hf hW (lv_sub hl [1, 2, 3, 4, 0] rfl)
set_option maxHeartbeats 4000000 in
set_option maxRecDepth 100000 in
theorem wk_X5_lot_0 (C0 : CallFix p m c cX5_lot 5 s args wsX5_lot RX5) {S' : sc_M} {r : Int32} (hR : sc_Ri p l e rm_X5_lot s m args below meth c Q cX5_lot (sc_EM dC dI h cy) S' r) : ∀ (S : sc_M) (x1 : Int32) (x2 : Int32) (H : Heap) (locs : List Loc) (ls : Array Slot), fn_X5_lot S x1 x2 = some (r, S') → sc_W (sc_EM dC dI h cy) s H locs S → lv_has ls 5 [(0, .ref (h 0)), (1, .int x1), (2, .int x2)] → W p l e rm_X5_lot s m args below meth c H locs 0 0 Q (F0 m 0 ls []) := by
  obtain ⟨hx, hb, hml, hown, hts⟩ := id C0
  intro S x1 x2 H locs ls hf hW hl
  rw [fn_X5_lot] at hf
  refine lv_aload_n hx hb dX5_lot_0 rfl (lv_at hl 0 rfl) ?_
  refine lv_iload_n hx hb dX5_lot_1 rfl (lv_at hl 1 rfl) ?_
  obtain ⟨r2, S2, hc, hf⟩ := sc_cl_s hf
  refine sc_callVi (As := [.int x1]) (rest := []) (q0 := 0) (ci := 4) sc_okM C0 hW (ct_X5_noOne hc) (cwV 1 hts gX5_lot_X5_noOne rfl rfl rfl (by decide +kernel) ⟨Nat.le_of_ble_eq_true rfl, Nat.le_of_ble_eq_true rfl⟩) rfl rfl rfl rfl hl.1 rfl (Nat.le_of_ble_eq_true rfl) dX5_lot_2 (fun H locs hW => ?_)
  refine lv_if_eq (tgt := 10) hx hb dX5_lot_5 (by decide) (fun hc => ?_) (fun hc => ?_)
  · replace hf := sc_ip hc hf
    refine lv_iload_n hx hb dX5_lot_10 rfl (lv_at hl 2 rfl) ?_
    refine lv_iconst (v := (0 : Int32)) hx hb dX5_lot_11 (by decide) ?_
    refine lv_aload_n hx hb dX5_lot_12 rfl (lv_at hl 0 rfl) ?_
    refine sc_getX5 C0 hW ni_X5_lot_X5 0 (Nat.le_of_ble_eq_true rfl) lk_X5_lot_101 (v := .int (sc_gi S2 0)) rfl dX5_lot_13 ?_
    refine lv_iconst (v := (1 : Int32)) hx hb dX5_lot_16 (by decide) ?_
    refine lv_isub hx hb dX5_lot_17 ?_
    obtain ⟨r18, S18, hc, hf⟩ := sc_cl_s hf
    refine sc_callSi (As := [.int x2, .int (0 : Int32), .int ((sc_gi S2 0) - (1 : Int32))]) (rest := []) sc_okM C0 hW (ct_X5_in hc) (va_cwS 3 hts gX5_lot_X5_in rfl rfl rfl (by decide +kernel) ⟨Nat.le_of_ble_eq_true rfl, Nat.le_of_ble_eq_true rfl⟩) rfl hl.1 rfl (Nat.le_of_ble_eq_true rfl) dX5_lot_18 (fun H locs hW => ?_)
    refine lv_if_ne (tgt := 27) hx hb dX5_lot_21 (by decide) (fun hc => ?_) (fun hc => ?_)
    · replace hf := sc_in hc hf
      refine lv_aload_n hx hb dX5_lot_27 rfl (lv_at hl 0 rfl) ?_
      refine sc_getX5 C0 hW ni_X5_lot_X5 2 (Nat.le_of_ble_eq_true rfl) lk_X5_lot_13 (v := .ref (h 2)) rfl dX5_lot_28 ?_
      refine lv_iload_n hx hb dX5_lot_31 rfl (lv_at hl 1 rfl) ?_
      obtain ⟨hv, hf⟩ := sc_ck_s hf
      refine sc_ldM_2 C0 hW hv dX5_lot_32 ?_
      obtain ⟨y33, ey33, hf⟩ := sc_sq_s hf
      refine sc_topi ey33 ?_
      refine lv_istore_n (lv' := [(3, .int y33), (0, .ref (h 0)), (1, .int x1), (2, .int x2)]) hx hb dX5_lot_33 rfl hl (by decide) rfl (fun ls hl => ?_)
      refine lv_iconst (v := (0 : Int32)) hx hb dX5_lot_34 (by decide) ?_
      refine lv_istore (lv' := [(4, .int (0 : Int32)), (3, .int y33), (0, .ref (h 0)), (1, .int x1), (2, .int x2)]) hx hb dX5_lot_35 hl (by decide) rfl (fun ls hl => ?_)
      exact wk_X5_lot_37 C0 hR  sc_FU _ _ _ _ _ _ _ _ hf hW (lv_sub hl [2, 3, 4, 1, 0] rfl)
    · replace hf := sc_ip hc hf
      refine lv_bipush (v := (-2 : Int32)) hx hb dX5_lot_24 (by decide) ?_
      exact sc_reti hR hf hW dX5_lot_26
  · replace hf := sc_in hc hf
    refine lv_iconst (v := (-1 : Int32)) hx hb dX5_lot_8 (by decide) ?_
    exact sc_reti hR hf hW dX5_lot_9
set_option maxRecDepth 100000 in
theorem ct_X5_lot {S S' : sc_M} {r : Int32} {x1 : Int32} {x2 : Int32} (hf : fn_X5_lot S x1 x2 = some (r, S')) : sc_Ci l yX5_lot wsX5_lot rm_X5_lot (sc_EM dC dI h cy) [.ref (h 0), .int x1, .int x2] S S' r := by
  refine sc_ofi (cc := cX5_lot) (maxL := 5) .int rfl sc_okM (by decide) rfl (Nat.le_of_ble_eq_true rfl) ?_
  intro p e s m below meth c Q C0 hR hW ls hl
  exact wk_X5_lot_0 C0 hR _ _ _ _ _ _ hf hW hl
end

/-! ===== SeatCountsModel.read(J)I ===== -/
abbrev rm_X5_read : Room := { frames := 0, cells := 0, slots := 0, locals := 0 }
theorem lk_X5_read_101 : Cond.fieldLink RX5 101 "SeatCountsModel" "many" "I" ∈ wsX5_read := by decide +kernel
theorem lk_X5_read_115 : Cond.constantLong RX5 115 (15) ∈ wsX5_read := by decide +kernel
theorem lk_X5_read_26 : Cond.fieldLink RX5 26 "SeatCountsModel" "digits" "[I" ∈ wsX5_read := by decide +kernel
theorem ni_X5_read_X5 : ∀ w ∈ wsX50, w ∈ wsX5_read := by decide +kernel
noncomputable def fn_X5_read_71 (k11 : sc_M → Int64 → Int32 → Int32 → Int32 → Int32 → Option (Int32 × sc_M)) : Nat → sc_M → Int64 → Int32 → Int32 → Int32 → Int32 → Int32 → Int32 → Option (Int32 × sc_M)
  | 0, _, _, _, _, _, _, _, _ => none
  | n + 1, S, x1, x3, x4, x5, x6, x7, x8 =>
    if x3 ≤ x8 then
      sc_ck x3 16 (sc_sq (sc_mA S 6 (upd (sc_ga S 6) x3.toNatClampNeg (x7 - (1 : Int32)))) (fun S118 => k11 S118 x1 (x3 + 1) x4 x5 (x6 + 1)))
    else
      if x4 = 0 then
        fn_X5_read_71 k11 n S x1 x3 (0 : Int32) x5 x6 x7 (x8 + 1)
      else
        sc_ck x8 16 (if (sc_ga S 6 x8.toNatClampNeg) = (x7 - (1 : Int32)) then
          fn_X5_read_71 k11 n S x1 x3 (0 : Int32) x5 x6 x7 (x8 + 1)
        else
          fn_X5_read_71 k11 n S x1 x3 (1 : Int32) x5 x6 x7 (x8 + 1))
noncomputable def fn_X5_read_11 : Nat → sc_M → Int64 → Int32 → Int32 → Int32 → Int32 → Option (Int32 × sc_M)
  | 0, _, _, _, _, _, _ => none
  | n + 1, S, x1, x3, x4, x5, x6 =>
    if (16 : Int32) ≤ x6 then
      if x4 = 0 then
        some ((0 : Int32), S)
      else
        some (x3, S)
    else
      sc_sq (((x1.toUInt64 >>> (((4 : Int32) * x6).toInt64.toUInt64 &&& Int64.toUInt64 63)).toInt64 &&& (15 : Int64)).toInt32) (fun y29 => if y29 = 0 then
        fn_X5_read_11 n S x1 x3 x4 (1 : Int32) (x6 + 1)
      else
        if x4 = 0 then
          fn_X5_read_71 (fn_X5_read_11 n) sc_FU S x1 x3 (0 : Int32) x5 x6 y29 (0 : Int32)
        else
          if x5 = 0 then
            if (sc_gi S 0) < y29 then
              fn_X5_read_71 (fn_X5_read_11 n) sc_FU S x1 x3 (0 : Int32) x5 x6 y29 (0 : Int32)
            else
              fn_X5_read_71 (fn_X5_read_11 n) sc_FU S x1 x3 (1 : Int32) x5 x6 y29 (0 : Int32)
          else
            fn_X5_read_71 (fn_X5_read_11 n) sc_FU S x1 x3 (0 : Int32) x5 x6 y29 (0 : Int32))
noncomputable def fn_X5_read (S : sc_M) (x1 : Int64) : Option (Int32 × sc_M) :=
  fn_X5_read_11 sc_FU S x1 (0 : Int32) (1 : Int32) (0 : Int32) (0 : Int32)
section
variable {p : Program} {l : Launch} {e : Env} {s : State} {m : MethodId} {args : Array Value} {below : List Frame} {meth : Method} {c : Code} {Q : State → Prop} {dC : Nat → ClassId} {dI : Nat → Nat → Nat} {h : Nat → Nat} {cy : Nat → ClassId}
set_option maxHeartbeats 4000000 in
set_option maxRecDepth 100000 in
theorem wk_X5_read_71 (C0 : CallFix p m c cX5_read 9 s args wsX5_read RX5) {S' : sc_M} {r : Int32} (hR : sc_Ri p l e rm_X5_read s m args below meth c Q cX5_read (sc_EM dC dI h cy) S' r) {k11 : sc_M → Int64 → Int32 → Int32 → Int32 → Int32 → Option (Int32 × sc_M)} (hk11 : ∀ (S : sc_M) (x1 : Int64) (x3 : Int32) (x4 : Int32) (x5 : Int32) (x6 : Int32) (H : Heap) (locs : List Loc) (ls : Array Slot), k11 S x1 x3 x4 x5 x6 = some (r, S') → sc_W (sc_EM dC dI h cy) s H locs S → lv_has ls 9 [(0, .ref (h 0)), (1, .long x1), (3, .int x3), (4, .int x4), (5, .int x5), (6, .int x6)] → W p l e rm_X5_read s m args below meth c H locs 0 0 Q (F0 m 11 ls [])) : ∀ n : Nat, ∀ (S : sc_M) (x1 : Int64) (x3 : Int32) (x4 : Int32) (x5 : Int32) (x6 : Int32) (x7 : Int32) (x8 : Int32) (H : Heap) (locs : List Loc) (ls : Array Slot), fn_X5_read_71 k11 n S x1 x3 x4 x5 x6 x7 x8 = some (r, S') → sc_W (sc_EM dC dI h cy) s H locs S → lv_has ls 9 [(0, .ref (h 0)), (1, .long x1), (3, .int x3), (4, .int x4), (5, .int x5), (6, .int x6), (7, .int x7), (8, .int x8)] → W p l e rm_X5_read s m args below meth c H locs 0 0 Q (F0 m 71 ls []) := by
  obtain ⟨hx, hb, hml, hown, hts⟩ := id C0
  intro n
  induction n with
  | zero => intro S x1 x3 x4 x5 x6 x7 x8 H locs ls; intro hf; cases hf
  | succ n ih =>
    intro S x1 x3 x4 x5 x6 x7 x8 H locs ls hf hW hl
    rw [fn_X5_read_71] at hf
    refine lv_iload hx hb dX5_read_71 (lv_at hl 7 rfl) ?_
    refine lv_iload_n hx hb dX5_read_73 rfl (lv_at hl 2 rfl) ?_
    refine lv_icmp_ge (tgt := 109) hx hb dX5_read_74 (by decide) (fun hc => ?_) (fun hc => ?_)
    · replace hf := sc_ip hc hf
      refine lv_aload_n hx hb dX5_read_109 rfl (lv_at hl 0 rfl) ?_
      refine sc_getX5 C0 hW ni_X5_read_X5 7 (Nat.le_of_ble_eq_true rfl) lk_X5_read_26 (v := .ref (h 6)) rfl dX5_read_110 ?_
      refine lv_iload_n hx hb dX5_read_113 rfl (lv_at hl 2 rfl) ?_
      refine lv_iload hx hb dX5_read_114 (lv_at hl 6 rfl) ?_
      refine lv_iconst (v := (1 : Int32)) hx hb dX5_read_116 (by decide) ?_
      refine lv_isub hx hb dX5_read_117 ?_
      obtain ⟨hv, hf⟩ := sc_ck_s hf
      obtain ⟨S118, eS118, hf⟩ := sc_sq_s hf
      refine sc_stM_6 C0 hW hv eS118 dX5_read_118 (fun H locs hW => ?_)
      refine lv_iinc (v := (x3 + 1)) (lv' := [(3, .int (x3 + 1)), (0, .ref (h 0)), (1, .long x1), (4, .int x4), (5, .int x5), (6, .int x6), (7, .int x7), (8, .int x8)]) hx hb dX5_read_119 hl (k := 2) rfl rfl (by decide) rfl (fun ls hl => ?_)
      refine lv_iinc (v := (x6 + 1)) (lv' := [(6, .int (x6 + 1)), (3, .int (x3 + 1)), (0, .ref (h 0)), (1, .long x1), (4, .int x4), (5, .int x5), (7, .int x7), (8, .int x8)]) hx hb dX5_read_122 hl (k := 5) rfl rfl (by decide) rfl (fun ls hl => ?_)
      refine lv_goto (tgt := 11) hx hb dX5_read_125 (by decide) ?_
      exact hk11 _ _ _ _ _ _ _ _ _ hf hW (lv_sub hl [2, 3, 1, 4, 5, 0] rfl)
    · replace hf := sc_in hc hf
      refine lv_iload hx hb dX5_read_77 (lv_at hl 3 rfl) ?_
      refine lv_if_eq (tgt := 100) hx hb dX5_read_79 (by decide) (fun hc => ?_) (fun hc => ?_)
      · replace hf := sc_ip hc hf
        refine lv_iconst (v := (0 : Int32)) hx hb dX5_read_100 (by decide) ?_
        refine lv_istore (lv' := [(4, .int (0 : Int32)), (0, .ref (h 0)), (1, .long x1), (3, .int x3), (5, .int x5), (6, .int x6), (7, .int x7), (8, .int x8)]) hx hb dX5_read_101 hl (by decide) rfl (fun ls hl => ?_)
        refine lv_iinc (v := (x8 + 1)) (lv' := [(8, .int (x8 + 1)), (4, .int (0 : Int32)), (0, .ref (h 0)), (1, .long x1), (3, .int x3), (5, .int x5), (6, .int x6), (7, .int x7)]) hx hb dX5_read_103 hl (k := 7) rfl rfl (by decide) rfl (fun ls hl => ?_)
        refine lv_goto (tgt := 71) hx hb dX5_read_106 (by decide) ?_
        exact ih _ _ _ _ _ _ _ _ _ _ _ hf hW (lv_sub hl [2, 3, 4, 1, 5, 6, 7, 0] rfl)
      · replace hf := sc_in hc hf
        refine lv_aload_n hx hb dX5_read_82 rfl (lv_at hl 0 rfl) ?_
        refine sc_getX5 C0 hW ni_X5_read_X5 7 (Nat.le_of_ble_eq_true rfl) lk_X5_read_26 (v := .ref (h 6)) rfl dX5_read_83 ?_
        refine lv_iload hx hb dX5_read_86 (lv_at hl 7 rfl) ?_
        obtain ⟨hv, hf⟩ := sc_ck_s hf
        refine sc_ldM_6 C0 hW hv dX5_read_88 ?_
        refine lv_iload hx hb dX5_read_89 (lv_at hl 6 rfl) ?_
        refine lv_iconst (v := (1 : Int32)) hx hb dX5_read_91 (by decide) ?_
        refine lv_isub hx hb dX5_read_92 ?_
        refine lv_icmp_eq (tgt := 100) hx hb dX5_read_93 (by decide) (fun hc => ?_) (fun hc => ?_)
        · replace hf := sc_ip hc hf
          refine lv_iconst (v := (0 : Int32)) hx hb dX5_read_100 (by decide) ?_
          refine lv_istore (lv' := [(4, .int (0 : Int32)), (0, .ref (h 0)), (1, .long x1), (3, .int x3), (5, .int x5), (6, .int x6), (7, .int x7), (8, .int x8)]) hx hb dX5_read_101 hl (by decide) rfl (fun ls hl => ?_)
          refine lv_iinc (v := (x8 + 1)) (lv' := [(8, .int (x8 + 1)), (4, .int (0 : Int32)), (0, .ref (h 0)), (1, .long x1), (3, .int x3), (5, .int x5), (6, .int x6), (7, .int x7)]) hx hb dX5_read_103 hl (k := 7) rfl rfl (by decide) rfl (fun ls hl => ?_)
          refine lv_goto (tgt := 71) hx hb dX5_read_106 (by decide) ?_
          exact ih _ _ _ _ _ _ _ _ _ _ _ hf hW (lv_sub hl [2, 3, 4, 1, 5, 6, 7, 0] rfl)
        · replace hf := sc_in hc hf
          refine lv_iconst (v := (1 : Int32)) hx hb dX5_read_96 (by decide) ?_
          refine lv_goto (tgt := 101) hx hb dX5_read_97 (by decide) ?_
          refine lv_istore (lv' := [(4, .int (1 : Int32)), (0, .ref (h 0)), (1, .long x1), (3, .int x3), (5, .int x5), (6, .int x6), (7, .int x7), (8, .int x8)]) hx hb dX5_read_101 hl (by decide) rfl (fun ls hl => ?_)
          refine lv_iinc (v := (x8 + 1)) (lv' := [(8, .int (x8 + 1)), (4, .int (1 : Int32)), (0, .ref (h 0)), (1, .long x1), (3, .int x3), (5, .int x5), (6, .int x6), (7, .int x7)]) hx hb dX5_read_103 hl (k := 7) rfl rfl (by decide) rfl (fun ls hl => ?_)
          refine lv_goto (tgt := 71) hx hb dX5_read_106 (by decide) ?_
          exact ih _ _ _ _ _ _ _ _ _ _ _ hf hW (lv_sub hl [2, 3, 4, 1, 5, 6, 7, 0] rfl)
set_option maxHeartbeats 4000000 in
set_option maxRecDepth 100000 in
theorem wk_X5_read_11 (C0 : CallFix p m c cX5_read 9 s args wsX5_read RX5) {S' : sc_M} {r : Int32} (hR : sc_Ri p l e rm_X5_read s m args below meth c Q cX5_read (sc_EM dC dI h cy) S' r) : ∀ n : Nat, ∀ (S : sc_M) (x1 : Int64) (x3 : Int32) (x4 : Int32) (x5 : Int32) (x6 : Int32) (H : Heap) (locs : List Loc) (ls : Array Slot), fn_X5_read_11 n S x1 x3 x4 x5 x6 = some (r, S') → sc_W (sc_EM dC dI h cy) s H locs S → lv_has ls 9 [(0, .ref (h 0)), (1, .long x1), (3, .int x3), (4, .int x4), (5, .int x5), (6, .int x6)] → W p l e rm_X5_read s m args below meth c H locs 0 0 Q (F0 m 11 ls []) := by
  obtain ⟨hx, hb, hml, hown, hts⟩ := id C0
  intro n
  induction n with
  | zero => intro S x1 x3 x4 x5 x6 H locs ls; intro hf; cases hf
  | succ n ih =>
    intro S x1 x3 x4 x5 x6 H locs ls hf hW hl
    rw [fn_X5_read_11] at hf
    refine lv_iload hx hb dX5_read_11 (lv_at hl 5 rfl) ?_
    refine lv_bipush (v := (16 : Int32)) hx hb dX5_read_13 (by decide) ?_
    refine lv_icmp_ge (tgt := 128) hx hb dX5_read_15 (by decide) (fun hc => ?_) (fun hc => ?_)
    · replace hf := sc_ip hc hf
      refine lv_iload hx hb dX5_read_128 (lv_at hl 3 rfl) ?_
      refine lv_if_eq (tgt := 137) hx hb dX5_read_130 (by decide) (fun hc => ?_) (fun hc => ?_)
      · replace hf := sc_ip hc hf
        refine lv_iconst (v := (0 : Int32)) hx hb dX5_read_137 (by decide) ?_
        exact sc_reti hR hf hW dX5_read_138
      · replace hf := sc_in hc hf
        refine lv_iload_n hx hb dX5_read_133 rfl (lv_at hl 2 rfl) ?_
        refine lv_goto (tgt := 138) hx hb dX5_read_134 (by decide) ?_
        exact sc_reti hR hf hW dX5_read_138
    · replace hf := sc_in hc hf
      refine lv_lload_n hx hb dX5_read_18 rfl (lv_at hl 1 rfl) ?_
      refine lv_iconst (v := (4 : Int32)) hx hb dX5_read_19 (by decide) ?_
      refine lv_iload hx hb dX5_read_20 (lv_at hl 5 rfl) ?_
      refine lv_imul hx hb dX5_read_22 ?_
      refine lv_lushr hx hb dX5_read_23 rfl ?_
      refine lv_ldc2 (v := (15 : Int64)) hx hb hown (hts _ lk_X5_read_115) dX5_read_24 ?_
      refine lv_land hx hb dX5_read_27 ?_
      refine lv_l2i hx hb dX5_read_28 rfl ?_
      obtain ⟨y29, ey29, hf⟩ := sc_sq_s hf
      refine sc_topi ey29 ?_
      refine lv_istore (lv' := [(7, .int y29), (0, .ref (h 0)), (1, .long x1), (3, .int x3), (4, .int x4), (5, .int x5), (6, .int x6)]) hx hb dX5_read_29 hl (by decide) rfl (fun ls hl => ?_)
      refine lv_iload hx hb dX5_read_31 (lv_at hl 0 rfl) ?_
      refine lv_if_ne (tgt := 42) hx hb dX5_read_33 (by decide) (fun hc => ?_) (fun hc => ?_)
      · replace hf := sc_in hc hf
        refine lv_iload hx hb dX5_read_42 (lv_at hl 4 rfl) ?_
        refine lv_if_eq (tgt := 65) hx hb dX5_read_44 (by decide) (fun hc => ?_) (fun hc => ?_)
        · replace hf := sc_ip hc hf
          refine lv_iconst (v := (0 : Int32)) hx hb dX5_read_65 (by decide) ?_
          refine lv_istore (lv' := [(4, .int (0 : Int32)), (7, .int y29), (0, .ref (h 0)), (1, .long x1), (3, .int x3), (5, .int x5), (6, .int x6)]) hx hb dX5_read_66 hl (by decide) rfl (fun ls hl => ?_)
          refine lv_iconst (v := (0 : Int32)) hx hb dX5_read_68 (by decide) ?_
          refine lv_istore (lv' := [(8, .int (0 : Int32)), (4, .int (0 : Int32)), (7, .int y29), (0, .ref (h 0)), (1, .long x1), (3, .int x3), (5, .int x5), (6, .int x6)]) hx hb dX5_read_69 hl (by decide) rfl (fun ls hl => ?_)
          exact wk_X5_read_71 C0 hR ih sc_FU _ _ _ _ _ _ _ _ _ _ _ hf hW (lv_sub hl [3, 4, 5, 1, 6, 7, 2, 0] rfl)
        · replace hf := sc_in hc hf
          refine lv_iload hx hb dX5_read_47 (lv_at hl 5 rfl) ?_
          refine lv_if_ne (tgt := 65) hx hb dX5_read_49 (by decide) (fun hc => ?_) (fun hc => ?_)
          · replace hf := sc_in hc hf
            refine lv_iconst (v := (0 : Int32)) hx hb dX5_read_65 (by decide) ?_
            refine lv_istore (lv' := [(4, .int (0 : Int32)), (7, .int y29), (0, .ref (h 0)), (1, .long x1), (3, .int x3), (5, .int x5), (6, .int x6)]) hx hb dX5_read_66 hl (by decide) rfl (fun ls hl => ?_)
            refine lv_iconst (v := (0 : Int32)) hx hb dX5_read_68 (by decide) ?_
            refine lv_istore (lv' := [(8, .int (0 : Int32)), (4, .int (0 : Int32)), (7, .int y29), (0, .ref (h 0)), (1, .long x1), (3, .int x3), (5, .int x5), (6, .int x6)]) hx hb dX5_read_69 hl (by decide) rfl (fun ls hl => ?_)
            exact wk_X5_read_71 C0 hR ih sc_FU _ _ _ _ _ _ _ _ _ _ _ hf hW (lv_sub hl [3, 4, 5, 1, 6, 7, 2, 0] rfl)
          · replace hf := sc_ip hc hf
            refine lv_iload hx hb dX5_read_52 (lv_at hl 0 rfl) ?_
            refine lv_aload_n hx hb dX5_read_54 rfl (lv_at hl 1 rfl) ?_
            refine sc_getX5 C0 hW ni_X5_read_X5 0 (Nat.le_of_ble_eq_true rfl) lk_X5_read_101 (v := .int (sc_gi S 0)) rfl dX5_read_55 ?_
            refine lv_icmp_gt (tgt := 65) hx hb dX5_read_58 (by decide) (fun hc => ?_) (fun hc => ?_)
            · replace hf := sc_ip hc hf
              refine lv_iconst (v := (0 : Int32)) hx hb dX5_read_65 (by decide) ?_
              refine lv_istore (lv' := [(4, .int (0 : Int32)), (7, .int y29), (0, .ref (h 0)), (1, .long x1), (3, .int x3), (5, .int x5), (6, .int x6)]) hx hb dX5_read_66 hl (by decide) rfl (fun ls hl => ?_)
              refine lv_iconst (v := (0 : Int32)) hx hb dX5_read_68 (by decide) ?_
              refine lv_istore (lv' := [(8, .int (0 : Int32)), (4, .int (0 : Int32)), (7, .int y29), (0, .ref (h 0)), (1, .long x1), (3, .int x3), (5, .int x5), (6, .int x6)]) hx hb dX5_read_69 hl (by decide) rfl (fun ls hl => ?_)
              exact wk_X5_read_71 C0 hR ih sc_FU _ _ _ _ _ _ _ _ _ _ _ hf hW (lv_sub hl [3, 4, 5, 1, 6, 7, 2, 0] rfl)
            · replace hf := sc_in hc hf
              refine lv_iconst (v := (1 : Int32)) hx hb dX5_read_61 (by decide) ?_
              refine lv_goto (tgt := 66) hx hb dX5_read_62 (by decide) ?_
              refine lv_istore (lv' := [(4, .int (1 : Int32)), (7, .int y29), (0, .ref (h 0)), (1, .long x1), (3, .int x3), (5, .int x5), (6, .int x6)]) hx hb dX5_read_66 hl (by decide) rfl (fun ls hl => ?_)
              refine lv_iconst (v := (0 : Int32)) hx hb dX5_read_68 (by decide) ?_
              refine lv_istore (lv' := [(8, .int (0 : Int32)), (4, .int (1 : Int32)), (7, .int y29), (0, .ref (h 0)), (1, .long x1), (3, .int x3), (5, .int x5), (6, .int x6)]) hx hb dX5_read_69 hl (by decide) rfl (fun ls hl => ?_)
              exact wk_X5_read_71 C0 hR ih sc_FU _ _ _ _ _ _ _ _ _ _ _ hf hW (lv_sub hl [3, 4, 5, 1, 6, 7, 2, 0] rfl)
      · replace hf := sc_ip hc hf
        refine lv_iconst (v := (1 : Int32)) hx hb dX5_read_36 (by decide) ?_
        refine lv_istore (lv' := [(5, .int (1 : Int32)), (7, .int y29), (0, .ref (h 0)), (1, .long x1), (3, .int x3), (4, .int x4), (6, .int x6)]) hx hb dX5_read_37 hl (by decide) rfl (fun ls hl => ?_)
        refine lv_goto (tgt := 122) hx hb dX5_read_39 (by decide) ?_
        refine lv_iinc (v := (x6 + 1)) (lv' := [(6, .int (x6 + 1)), (5, .int (1 : Int32)), (7, .int y29), (0, .ref (h 0)), (1, .long x1), (3, .int x3), (4, .int x4)]) hx hb dX5_read_122 hl (k := 6) rfl rfl (by decide) rfl (fun ls hl => ?_)
        refine lv_goto (tgt := 11) hx hb dX5_read_125 (by decide) ?_
        exact ih _ _ _ _ _ _ _ _ _ hf hW (lv_sub hl [3, 4, 5, 6, 1, 0] rfl)
set_option maxHeartbeats 4000000 in
set_option maxRecDepth 100000 in
theorem wk_X5_read_0 (C0 : CallFix p m c cX5_read 9 s args wsX5_read RX5) {S' : sc_M} {r : Int32} (hR : sc_Ri p l e rm_X5_read s m args below meth c Q cX5_read (sc_EM dC dI h cy) S' r) : ∀ (S : sc_M) (x1 : Int64) (H : Heap) (locs : List Loc) (ls : Array Slot), fn_X5_read S x1 = some (r, S') → sc_W (sc_EM dC dI h cy) s H locs S → lv_has ls 9 [(0, .ref (h 0)), (1, .long x1)] → W p l e rm_X5_read s m args below meth c H locs 0 0 Q (F0 m 0 ls []) := by
  obtain ⟨hx, hb, hml, hown, hts⟩ := id C0
  intro S x1 H locs ls hf hW hl
  rw [fn_X5_read] at hf
  refine lv_iconst (v := (0 : Int32)) hx hb dX5_read_0 (by decide) ?_
  refine lv_istore_n (lv' := [(3, .int (0 : Int32)), (0, .ref (h 0)), (1, .long x1)]) hx hb dX5_read_1 rfl hl (by decide) rfl (fun ls hl => ?_)
  refine lv_iconst (v := (1 : Int32)) hx hb dX5_read_2 (by decide) ?_
  refine lv_istore (lv' := [(4, .int (1 : Int32)), (3, .int (0 : Int32)), (0, .ref (h 0)), (1, .long x1)]) hx hb dX5_read_3 hl (by decide) rfl (fun ls hl => ?_)
  refine lv_iconst (v := (0 : Int32)) hx hb dX5_read_5 (by decide) ?_
  refine lv_istore (lv' := [(5, .int (0 : Int32)), (4, .int (1 : Int32)), (3, .int (0 : Int32)), (0, .ref (h 0)), (1, .long x1)]) hx hb dX5_read_6 hl (by decide) rfl (fun ls hl => ?_)
  refine lv_iconst (v := (0 : Int32)) hx hb dX5_read_8 (by decide) ?_
  refine lv_istore (lv' := [(6, .int (0 : Int32)), (5, .int (0 : Int32)), (4, .int (1 : Int32)), (3, .int (0 : Int32)), (0, .ref (h 0)), (1, .long x1)]) hx hb dX5_read_9 hl (by decide) rfl (fun ls hl => ?_)
  exact wk_X5_read_11 C0 hR  sc_FU _ _ _ _ _ _ _ _ _ hf hW (lv_sub hl [4, 5, 3, 2, 1, 0] rfl)
set_option maxRecDepth 100000 in
theorem ct_X5_read {S S' : sc_M} {r : Int32} {x1 : Int64} (hf : fn_X5_read S x1 = some (r, S')) : sc_Ci l yX5_read wsX5_read rm_X5_read (sc_EM dC dI h cy) [.ref (h 0), .long x1] S S' r := by
  refine sc_ofi (cc := cX5_read) (maxL := 9) .int rfl sc_okM (by decide) rfl (Nat.le_of_ble_eq_true rfl) ?_
  intro p e s m below meth c Q C0 hR hW ls hl
  exact wk_X5_read_0 C0 hR _ _ _ _ _ hf hW hl
end

/-! ===== SeatCountsModel.pile(JI)I ===== -/
abbrev rm_X5_pile : Room := { frames := 1, cells := 0, slots := 0, locals := 28 }
theorem lk_X5_pile_104 : Cond.fieldLink RX5 104 "SeatCountsModel" "piles" "I" ∈ wsX5_pile := by decide +kernel
theorem lk_X5_pile_17 : Cond.fieldLink RX5 17 "SeatCountsModel" "papers" "[I" ∈ wsX5_pile := by decide +kernel
theorem lk_X5_pile_20 : Cond.fieldLink RX5 20 "SeatCountsModel" "wants" "[I" ∈ wsX5_pile := by decide +kernel
theorem lk_X5_pile_23 : Cond.fieldLink RX5 23 "SeatCountsModel" "want" "[I" ∈ wsX5_pile := by decide +kernel
theorem lk_X5_pile_26 : Cond.fieldLink RX5 26 "SeatCountsModel" "digits" "[I" ∈ wsX5_pile := by decide +kernel
theorem ni_X5_pile_X5 : ∀ w ∈ wsX50, w ∈ wsX5_pile := by decide +kernel
noncomputable def fn_X5_pile_62 : Nat → sc_M → Int32 → Int32 → Option (Int32 × sc_M)
  | 0, _, _, _ => none
  | n + 1, S, x4, x5 =>
    if x4 ≤ x5 then
      sc_sq (sc_mi S 1 ((sc_gi S 1) + (1 : Int32))) (fun S104 => some (((sc_gi S104 1) - (1 : Int32)), S104))
    else
      sc_ck x5 16 (sc_ck (((12 : Int32) * (sc_gi S 1)) + x5) 960 (sc_sq (sc_mA S 5 (upd (sc_ga S 5) (((12 : Int32) * (sc_gi S 1)) + x5).toNatClampNeg (sc_ga S 6 x5.toNatClampNeg))) (fun S90 => fn_X5_pile_62 n S90 x4 (x5 + 1))))
noncomputable def fn_X5_pile (S : sc_M) (x1 : Int64) (x3 : Int32) : Option (Int32 × sc_M) :=
  sc_cl (fn_X5_read S x1) (fun r2 S2 => if r2 = 0 then
    some ((-2 : Int32), S2)
  else
    sc_cl (fn_X5_in S2 x3 (1 : Int32) (500 : Int32)) (fun r17 S17 => if r17 = 0 then
      some ((-2 : Int32), S17)
    else
      if (sc_gi S17 1) = (80 : Int32) then
        some ((-4 : Int32), S17)
      else
        sc_ck (sc_gi S17 1) 80 (sc_sq (sc_mA S17 3 (upd (sc_ga S17 3) (sc_gi S17 1).toNatClampNeg x3)) (fun S47 => sc_ck (sc_gi S47 1) 80 (sc_sq (sc_mA S47 4 (upd (sc_ga S47 4) (sc_gi S47 1).toNatClampNeg r2)) (fun S58 => fn_X5_pile_62 sc_FU S58 r2 (0 : Int32)))))))
section
variable {p : Program} {l : Launch} {e : Env} {s : State} {m : MethodId} {args : Array Value} {below : List Frame} {meth : Method} {c : Code} {Q : State → Prop} {dC : Nat → ClassId} {dI : Nat → Nat → Nat} {h : Nat → Nat} {cy : Nat → ClassId}
set_option maxHeartbeats 4000000 in
set_option maxRecDepth 100000 in
theorem wk_X5_pile_62 (C0 : CallFix p m c cX5_pile 6 s args wsX5_pile RX5) {S' : sc_M} {r : Int32} (hR : sc_Ri p l e rm_X5_pile s m args below meth c Q cX5_pile (sc_EM dC dI h cy) S' r) : ∀ n : Nat, ∀ (S : sc_M) (x4 : Int32) (x5 : Int32) (H : Heap) (locs : List Loc) (ls : Array Slot), fn_X5_pile_62 n S x4 x5 = some (r, S') → sc_W (sc_EM dC dI h cy) s H locs S → lv_has ls 6 [(0, .ref (h 0)), (4, .int x4), (5, .int x5)] → W p l e rm_X5_pile s m args below meth c H locs 0 0 Q (F0 m 62 ls []) := by
  obtain ⟨hx, hb, hml, hown, hts⟩ := id C0
  intro n
  induction n with
  | zero => intro S x4 x5 H locs ls; intro hf; cases hf
  | succ n ih =>
    intro S x4 x5 H locs ls hf hW hl
    rw [fn_X5_pile_62] at hf
    refine lv_iload hx hb dX5_pile_62 (lv_at hl 2 rfl) ?_
    refine lv_iload hx hb dX5_pile_64 (lv_at hl 1 rfl) ?_
    refine lv_icmp_ge (tgt := 97) hx hb dX5_pile_66 (by decide) (fun hc => ?_) (fun hc => ?_)
    · replace hf := sc_ip hc hf
      refine lv_aload_n hx hb dX5_pile_97 rfl (lv_at hl 0 rfl) ?_
      refine lv_dup hx hb dX5_pile_98 rfl ?_
      refine sc_getX5 C0 hW ni_X5_pile_X5 3 (Nat.le_of_ble_eq_true rfl) lk_X5_pile_104 (v := .int (sc_gi S 1)) rfl dX5_pile_99 ?_
      refine lv_iconst (v := (1 : Int32)) hx hb dX5_pile_102 (by decide) ?_
      refine lv_iadd hx hb dX5_pile_103 ?_
      obtain ⟨S104, eS104, hf⟩ := sc_sq_s hf
      refine sc_putX5_piles C0 hW ni_X5_pile_X5 lk_X5_pile_104 eS104 dX5_pile_104 (fun H locs hW => ?_)
      refine lv_aload_n hx hb dX5_pile_107 rfl (lv_at hl 0 rfl) ?_
      refine sc_getX5 C0 hW ni_X5_pile_X5 3 (Nat.le_of_ble_eq_true rfl) lk_X5_pile_104 (v := .int (sc_gi S104 1)) rfl dX5_pile_108 ?_
      refine lv_iconst (v := (1 : Int32)) hx hb dX5_pile_111 (by decide) ?_
      refine lv_isub hx hb dX5_pile_112 ?_
      exact sc_reti hR hf hW dX5_pile_113
    · replace hf := sc_in hc hf
      refine lv_aload_n hx hb dX5_pile_69 rfl (lv_at hl 0 rfl) ?_
      refine sc_getX5 C0 hW ni_X5_pile_X5 6 (Nat.le_of_ble_eq_true rfl) lk_X5_pile_23 (v := .ref (h 5)) rfl dX5_pile_70 ?_
      refine lv_bipush (v := (12 : Int32)) hx hb dX5_pile_73 (by decide) ?_
      refine lv_aload_n hx hb dX5_pile_75 rfl (lv_at hl 0 rfl) ?_
      refine sc_getX5 C0 hW ni_X5_pile_X5 3 (Nat.le_of_ble_eq_true rfl) lk_X5_pile_104 (v := .int (sc_gi S 1)) rfl dX5_pile_76 ?_
      refine lv_imul hx hb dX5_pile_79 ?_
      refine lv_iload hx hb dX5_pile_80 (lv_at hl 2 rfl) ?_
      refine lv_iadd hx hb dX5_pile_82 ?_
      refine lv_aload_n hx hb dX5_pile_83 rfl (lv_at hl 0 rfl) ?_
      refine sc_getX5 C0 hW ni_X5_pile_X5 7 (Nat.le_of_ble_eq_true rfl) lk_X5_pile_26 (v := .ref (h 6)) rfl dX5_pile_84 ?_
      refine lv_iload hx hb dX5_pile_87 (lv_at hl 2 rfl) ?_
      obtain ⟨hv, hf⟩ := sc_ck_s hf
      refine sc_ldM_6 C0 hW hv dX5_pile_89 ?_
      obtain ⟨hv, hf⟩ := sc_ck_s hf
      obtain ⟨S90, eS90, hf⟩ := sc_sq_s hf
      refine sc_stM_5 C0 hW hv eS90 dX5_pile_90 (fun H locs hW => ?_)
      refine lv_iinc (v := (x5 + 1)) (lv' := [(5, .int (x5 + 1)), (0, .ref (h 0)), (4, .int x4)]) hx hb dX5_pile_91 hl (k := 2) rfl rfl (by decide) rfl (fun ls hl => ?_)
      refine lv_goto (tgt := 62) hx hb dX5_pile_94 (by decide) ?_
      exact ih _ _ _ _ _ _ hf hW (lv_sub hl [1, 2, 0] rfl)
set_option maxHeartbeats 4000000 in
set_option maxRecDepth 100000 in
theorem wk_X5_pile_0 (C0 : CallFix p m c cX5_pile 6 s args wsX5_pile RX5) {S' : sc_M} {r : Int32} (hR : sc_Ri p l e rm_X5_pile s m args below meth c Q cX5_pile (sc_EM dC dI h cy) S' r) : ∀ (S : sc_M) (x1 : Int64) (x3 : Int32) (H : Heap) (locs : List Loc) (ls : Array Slot), fn_X5_pile S x1 x3 = some (r, S') → sc_W (sc_EM dC dI h cy) s H locs S → lv_has ls 6 [(0, .ref (h 0)), (1, .long x1), (3, .int x3)] → W p l e rm_X5_pile s m args below meth c H locs 0 0 Q (F0 m 0 ls []) := by
  obtain ⟨hx, hb, hml, hown, hts⟩ := id C0
  intro S x1 x3 H locs ls hf hW hl
  rw [fn_X5_pile] at hf
  refine lv_aload_n hx hb dX5_pile_0 rfl (lv_at hl 0 rfl) ?_
  refine lv_lload_n hx hb dX5_pile_1 rfl (lv_at hl 1 rfl) ?_
  obtain ⟨r2, S2, hc, hf⟩ := sc_cl_s hf
  refine sc_callVi (As := [.long x1]) (rest := []) (q0 := 0) (ci := 4) sc_okM C0 hW (ct_X5_read hc) (cwV 1 hts gX5_pile_X5_read rfl rfl rfl (by decide +kernel) ⟨Nat.le_of_ble_eq_true rfl, Nat.le_of_ble_eq_true rfl⟩) rfl rfl rfl rfl hl.1 rfl (Nat.le_of_ble_eq_true rfl) dX5_pile_2 (fun H locs hW => ?_)
  refine lv_istore (lv' := [(4, .int r2), (0, .ref (h 0)), (1, .long x1), (3, .int x3)]) hx hb dX5_pile_5 hl (by decide) rfl (fun ls hl => ?_)
  refine lv_iload hx hb dX5_pile_7 (lv_at hl 0 rfl) ?_
  refine lv_if_eq (tgt := 23) hx hb dX5_pile_9 (by decide) (fun hc => ?_) (fun hc => ?_)
  · replace hf := sc_ip hc hf
    refine lv_bipush (v := (-2 : Int32)) hx hb dX5_pile_23 (by decide) ?_
    exact sc_reti hR hf hW dX5_pile_25
  · replace hf := sc_in hc hf
    refine lv_iload_n hx hb dX5_pile_12 rfl (lv_at hl 3 rfl) ?_
    refine lv_iconst (v := (1 : Int32)) hx hb dX5_pile_13 (by decide) ?_
    refine lv_sipush (v := (500 : Int32)) hx hb dX5_pile_14 (by decide) ?_
    obtain ⟨r17, S17, hc, hf⟩ := sc_cl_s hf
    refine sc_callSi (As := [.int x3, .int (1 : Int32), .int (500 : Int32)]) (rest := []) sc_okM C0 hW (ct_X5_in hc) (va_cwS 3 hts gX5_pile_X5_in rfl rfl rfl (by decide +kernel) ⟨Nat.le_of_ble_eq_true rfl, Nat.le_of_ble_eq_true rfl⟩) rfl hl.1 rfl (Nat.le_of_ble_eq_true rfl) dX5_pile_17 (fun H locs hW => ?_)
    refine lv_if_ne (tgt := 26) hx hb dX5_pile_20 (by decide) (fun hc => ?_) (fun hc => ?_)
    · replace hf := sc_in hc hf
      refine lv_aload_n hx hb dX5_pile_26 rfl (lv_at hl 1 rfl) ?_
      refine sc_getX5 C0 hW ni_X5_pile_X5 3 (Nat.le_of_ble_eq_true rfl) lk_X5_pile_104 (v := .int (sc_gi S17 1)) rfl dX5_pile_27 ?_
      refine lv_bipush (v := (80 : Int32)) hx hb dX5_pile_30 (by decide) ?_
      refine lv_icmp_ne (tgt := 38) hx hb dX5_pile_32 (by decide) (fun hc => ?_) (fun hc => ?_)
      · replace hf := sc_in hc hf
        refine lv_aload_n hx hb dX5_pile_38 rfl (lv_at hl 1 rfl) ?_
        refine sc_getX5 C0 hW ni_X5_pile_X5 4 (Nat.le_of_ble_eq_true rfl) lk_X5_pile_17 (v := .ref (h 3)) rfl dX5_pile_39 ?_
        refine lv_aload_n hx hb dX5_pile_42 rfl (lv_at hl 1 rfl) ?_
        refine sc_getX5 C0 hW ni_X5_pile_X5 3 (Nat.le_of_ble_eq_true rfl) lk_X5_pile_104 (v := .int (sc_gi S17 1)) rfl dX5_pile_43 ?_
        refine lv_iload_n hx hb dX5_pile_46 rfl (lv_at hl 3 rfl) ?_
        obtain ⟨hv, hf⟩ := sc_ck_s hf
        obtain ⟨S47, eS47, hf⟩ := sc_sq_s hf
        refine sc_stM_3 C0 hW hv eS47 dX5_pile_47 (fun H locs hW => ?_)
        refine lv_aload_n hx hb dX5_pile_48 rfl (lv_at hl 1 rfl) ?_
        refine sc_getX5 C0 hW ni_X5_pile_X5 5 (Nat.le_of_ble_eq_true rfl) lk_X5_pile_20 (v := .ref (h 4)) rfl dX5_pile_49 ?_
        refine lv_aload_n hx hb dX5_pile_52 rfl (lv_at hl 1 rfl) ?_
        refine sc_getX5 C0 hW ni_X5_pile_X5 3 (Nat.le_of_ble_eq_true rfl) lk_X5_pile_104 (v := .int (sc_gi S47 1)) rfl dX5_pile_53 ?_
        refine lv_iload hx hb dX5_pile_56 (lv_at hl 0 rfl) ?_
        obtain ⟨hv, hf⟩ := sc_ck_s hf
        obtain ⟨S58, eS58, hf⟩ := sc_sq_s hf
        refine sc_stM_4 C0 hW hv eS58 dX5_pile_58 (fun H locs hW => ?_)
        refine lv_iconst (v := (0 : Int32)) hx hb dX5_pile_59 (by decide) ?_
        refine lv_istore (lv' := [(5, .int (0 : Int32)), (4, .int r2), (0, .ref (h 0)), (1, .long x1), (3, .int x3)]) hx hb dX5_pile_60 hl (by decide) rfl (fun ls hl => ?_)
        exact wk_X5_pile_62 C0 hR  sc_FU _ _ _ _ _ _ hf hW (lv_sub hl [2, 1, 0] rfl)
      · replace hf := sc_ip hc hf
        refine lv_bipush (v := (-4 : Int32)) hx hb dX5_pile_35 (by decide) ?_
        exact sc_reti hR hf hW dX5_pile_37
    · replace hf := sc_ip hc hf
      refine lv_bipush (v := (-2 : Int32)) hx hb dX5_pile_23 (by decide) ?_
      exact sc_reti hR hf hW dX5_pile_25
set_option maxRecDepth 100000 in
theorem ct_X5_pile {S S' : sc_M} {r : Int32} {x1 : Int64} {x3 : Int32} (hf : fn_X5_pile S x1 x3 = some (r, S')) : sc_Ci l yX5_pile wsX5_pile rm_X5_pile (sc_EM dC dI h cy) [.ref (h 0), .long x1, .int x3] S S' r := by
  refine sc_ofi (cc := cX5_pile) (maxL := 6) .int rfl sc_okM (by decide) rfl (Nat.le_of_ble_eq_true rfl) ?_
  intro p e s m below meth c Q C0 hR hW ls hl
  exact wk_X5_pile_0 C0 hR _ _ _ _ _ _ hf hW hl
end

/-! ===== SeatCountsModel.change(II)I ===== -/
abbrev rm_X5_change : Room := { frames := 1, cells := 0, slots := 0, locals := 22 }
theorem lk_X5_change_104 : Cond.fieldLink RX5 104 "SeatCountsModel" "piles" "I" ∈ wsX5_change := by decide +kernel
theorem lk_X5_change_17 : Cond.fieldLink RX5 17 "SeatCountsModel" "papers" "[I" ∈ wsX5_change := by decide +kernel
theorem ni_X5_change_X5 : ∀ w ∈ wsX50, w ∈ wsX5_change := by decide +kernel
noncomputable def fn_X5_change (S : sc_M) (x1 : Int32) (x2 : Int32) : Option (Int32 × sc_M) :=
  sc_cl (fn_X5_in S x1 (0 : Int32) ((sc_gi S 1) - (1 : Int32))) (fun r8 S8 => if r8 = 0 then
    some ((-1 : Int32), S8)
  else
    sc_cl (fn_X5_in S8 x2 (1 : Int32) (500 : Int32)) (fun r21 S21 => if r21 = 0 then
      some ((-2 : Int32), S21)
    else
      sc_ck x1 80 (sc_sq ((sc_ga S21 3 x1.toNatClampNeg)) (fun y36 => sc_ck x1 80 (sc_sq (sc_mA S21 3 (upd (sc_ga S21 3) x1.toNatClampNeg x2)) (fun S43 => some (y36, S43)))))))
section
variable {p : Program} {l : Launch} {e : Env} {s : State} {m : MethodId} {args : Array Value} {below : List Frame} {meth : Method} {c : Code} {Q : State → Prop} {dC : Nat → ClassId} {dI : Nat → Nat → Nat} {h : Nat → Nat} {cy : Nat → ClassId}
set_option maxHeartbeats 4000000 in
set_option maxRecDepth 100000 in
theorem wk_X5_change_0 (C0 : CallFix p m c cX5_change 4 s args wsX5_change RX5) {S' : sc_M} {r : Int32} (hR : sc_Ri p l e rm_X5_change s m args below meth c Q cX5_change (sc_EM dC dI h cy) S' r) : ∀ (S : sc_M) (x1 : Int32) (x2 : Int32) (H : Heap) (locs : List Loc) (ls : Array Slot), fn_X5_change S x1 x2 = some (r, S') → sc_W (sc_EM dC dI h cy) s H locs S → lv_has ls 4 [(0, .ref (h 0)), (1, .int x1), (2, .int x2)] → W p l e rm_X5_change s m args below meth c H locs 0 0 Q (F0 m 0 ls []) := by
  obtain ⟨hx, hb, hml, hown, hts⟩ := id C0
  intro S x1 x2 H locs ls hf hW hl
  rw [fn_X5_change] at hf
  refine lv_iload_n hx hb dX5_change_0 rfl (lv_at hl 1 rfl) ?_
  refine lv_iconst (v := (0 : Int32)) hx hb dX5_change_1 (by decide) ?_
  refine lv_aload_n hx hb dX5_change_2 rfl (lv_at hl 0 rfl) ?_
  refine sc_getX5 C0 hW ni_X5_change_X5 3 (Nat.le_of_ble_eq_true rfl) lk_X5_change_104 (v := .int (sc_gi S 1)) rfl dX5_change_3 ?_
  refine lv_iconst (v := (1 : Int32)) hx hb dX5_change_6 (by decide) ?_
  refine lv_isub hx hb dX5_change_7 ?_
  obtain ⟨r8, S8, hc, hf⟩ := sc_cl_s hf
  refine sc_callSi (As := [.int x1, .int (0 : Int32), .int ((sc_gi S 1) - (1 : Int32))]) (rest := []) sc_okM C0 hW (ct_X5_in hc) (va_cwS 3 hts gX5_change_X5_in rfl rfl rfl (by decide +kernel) ⟨Nat.le_of_ble_eq_true rfl, Nat.le_of_ble_eq_true rfl⟩) rfl hl.1 rfl (Nat.le_of_ble_eq_true rfl) dX5_change_8 (fun H locs hW => ?_)
  refine lv_if_ne (tgt := 16) hx hb dX5_change_11 (by decide) (fun hc => ?_) (fun hc => ?_)
  · replace hf := sc_in hc hf
    refine lv_iload_n hx hb dX5_change_16 rfl (lv_at hl 2 rfl) ?_
    refine lv_iconst (v := (1 : Int32)) hx hb dX5_change_17 (by decide) ?_
    refine lv_sipush (v := (500 : Int32)) hx hb dX5_change_18 (by decide) ?_
    obtain ⟨r21, S21, hc, hf⟩ := sc_cl_s hf
    refine sc_callSi (As := [.int x2, .int (1 : Int32), .int (500 : Int32)]) (rest := []) sc_okM C0 hW (ct_X5_in hc) (va_cwS 3 hts gX5_change_X5_in rfl rfl rfl (by decide +kernel) ⟨Nat.le_of_ble_eq_true rfl, Nat.le_of_ble_eq_true rfl⟩) rfl hl.1 rfl (Nat.le_of_ble_eq_true rfl) dX5_change_21 (fun H locs hW => ?_)
    refine lv_if_ne (tgt := 30) hx hb dX5_change_24 (by decide) (fun hc => ?_) (fun hc => ?_)
    · replace hf := sc_in hc hf
      refine lv_aload_n hx hb dX5_change_30 rfl (lv_at hl 0 rfl) ?_
      refine sc_getX5 C0 hW ni_X5_change_X5 4 (Nat.le_of_ble_eq_true rfl) lk_X5_change_17 (v := .ref (h 3)) rfl dX5_change_31 ?_
      refine lv_iload_n hx hb dX5_change_34 rfl (lv_at hl 1 rfl) ?_
      obtain ⟨hv, hf⟩ := sc_ck_s hf
      refine sc_ldM_3 C0 hW hv dX5_change_35 ?_
      obtain ⟨y36, ey36, hf⟩ := sc_sq_s hf
      refine sc_topi ey36 ?_
      refine lv_istore_n (lv' := [(3, .int y36), (0, .ref (h 0)), (1, .int x1), (2, .int x2)]) hx hb dX5_change_36 rfl hl (by decide) rfl (fun ls hl => ?_)
      refine lv_aload_n hx hb dX5_change_37 rfl (lv_at hl 1 rfl) ?_
      refine sc_getX5 C0 hW ni_X5_change_X5 4 (Nat.le_of_ble_eq_true rfl) lk_X5_change_17 (v := .ref (h 3)) rfl dX5_change_38 ?_
      refine lv_iload_n hx hb dX5_change_41 rfl (lv_at hl 2 rfl) ?_
      refine lv_iload_n hx hb dX5_change_42 rfl (lv_at hl 3 rfl) ?_
      obtain ⟨hv, hf⟩ := sc_ck_s hf
      obtain ⟨S43, eS43, hf⟩ := sc_sq_s hf
      refine sc_stM_3 C0 hW hv eS43 dX5_change_43 (fun H locs hW => ?_)
      refine lv_iload_n hx hb dX5_change_44 rfl (lv_at hl 0 rfl) ?_
      exact sc_reti hR hf hW dX5_change_45
    · replace hf := sc_ip hc hf
      refine lv_bipush (v := (-2 : Int32)) hx hb dX5_change_27 (by decide) ?_
      exact sc_reti hR hf hW dX5_change_29
  · replace hf := sc_ip hc hf
    refine lv_iconst (v := (-1 : Int32)) hx hb dX5_change_14 (by decide) ?_
    exact sc_reti hR hf hW dX5_change_15
set_option maxRecDepth 100000 in
theorem ct_X5_change {S S' : sc_M} {r : Int32} {x1 : Int32} {x2 : Int32} (hf : fn_X5_change S x1 x2 = some (r, S')) : sc_Ci l yX5_change wsX5_change rm_X5_change (sc_EM dC dI h cy) [.ref (h 0), .int x1, .int x2] S S' r := by
  refine sc_ofi (cc := cX5_change) (maxL := 4) .int rfl sc_okM (by decide) rfl (Nat.le_of_ble_eq_true rfl) ?_
  intro p e s m below meth c Q C0 hR hW ls hl
  exact wk_X5_change_0 C0 hR _ _ _ _ _ _ hf hW hl
end

/-! ===== SeatCountsModel.isValid(I)Z ===== -/
abbrev rm_X5_isValid : Room := { frames := 0, cells := 0, slots := 0, locals := 0 }
theorem lk_X5_isValid_20 : Cond.fieldLink RX5 20 "SeatCountsModel" "wants" "[I" ∈ wsX5_isValid := by decide +kernel
theorem lk_X5_isValid_23 : Cond.fieldLink RX5 23 "SeatCountsModel" "want" "[I" ∈ wsX5_isValid := by decide +kernel
theorem lk_X5_isValid_7 : Cond.fieldLink RX5 7 "SeatCountsModel" "isWithdrawn" "[Z" ∈ wsX5_isValid := by decide +kernel
theorem ni_X5_isValid_X5 : ∀ w ∈ wsX50, w ∈ wsX5_isValid := by decide +kernel
noncomputable def fn_X5_isValid_4 : Nat → sc_M → Int32 → Int32 → Int32 → Option (Int32 × sc_M)
  | 0, _, _, _, _ => none
  | n + 1, S, x1, x2, x3 =>
    sc_ck x1 80 (if (sc_ga S 4 x1.toNatClampNeg) ≤ x3 then
      some (x2, S)
    else
      if x2 = 0 then
        sc_ck (((12 : Int32) * x1) + x3) 960 (sc_ck (sc_ga S 5 (((12 : Int32) * x1) + x3).toNatClampNeg) 12 (if (sc_ga S 1 (sc_ga S 5 (((12 : Int32) * x1) + x3).toNatClampNeg).toNatClampNeg) = 0 then
          fn_X5_isValid_4 n S x1 (1 : Int32) (x3 + 1)
        else
          fn_X5_isValid_4 n S x1 (0 : Int32) (x3 + 1)))
      else
        fn_X5_isValid_4 n S x1 (1 : Int32) (x3 + 1))
noncomputable def fn_X5_isValid_e (S : sc_M) (x1 : Int32) : Option (Int32 × sc_M) :=
  fn_X5_isValid_4 sc_FU S x1 (0 : Int32) (0 : Int32)
noncomputable def fn_X5_isValid (S : sc_M) (x1 : Int32) : Option (Int32 × sc_M) := sc_bz (fn_X5_isValid_e S x1)
section
variable {p : Program} {l : Launch} {e : Env} {s : State} {m : MethodId} {args : Array Value} {below : List Frame} {meth : Method} {c : Code} {Q : State → Prop} {dC : Nat → ClassId} {dI : Nat → Nat → Nat} {h : Nat → Nat} {cy : Nat → ClassId}
set_option maxHeartbeats 4000000 in
set_option maxRecDepth 100000 in
theorem wk_X5_isValid_4 (C0 : CallFix p m c cX5_isValid 4 s args wsX5_isValid RX5) {S' : sc_M} {r : Int32} (hR : sc_Ri p l e rm_X5_isValid s m args below meth c Q cX5_isValid (sc_EM dC dI h cy) S' r) : ∀ n : Nat, ∀ (S : sc_M) (x1 : Int32) (x2 : Int32) (x3 : Int32) (H : Heap) (locs : List Loc) (ls : Array Slot), fn_X5_isValid_4 n S x1 x2 x3 = some (r, S') → sc_W (sc_EM dC dI h cy) s H locs S → lv_has ls 4 [(0, .ref (h 0)), (1, .int x1), (2, .int x2), (3, .int x3)] → W p l e rm_X5_isValid s m args below meth c H locs 0 0 Q (F0 m 4 ls []) := by
  obtain ⟨hx, hb, hml, hown, hts⟩ := id C0
  intro n
  induction n with
  | zero => intro S x1 x2 x3 H locs ls; intro hf; cases hf
  | succ n ih =>
    intro S x1 x2 x3 H locs ls hf hW hl
    rw [fn_X5_isValid_4] at hf
    refine lv_iload_n hx hb dX5_isValid_4 rfl (lv_at hl 3 rfl) ?_
    refine lv_aload_n hx hb dX5_isValid_5 rfl (lv_at hl 0 rfl) ?_
    refine sc_getX5 C0 hW ni_X5_isValid_X5 5 (Nat.le_of_ble_eq_true rfl) lk_X5_isValid_20 (v := .ref (h 4)) rfl dX5_isValid_6 ?_
    refine lv_iload_n hx hb dX5_isValid_9 rfl (lv_at hl 1 rfl) ?_
    obtain ⟨hv, hf⟩ := sc_ck_s hf
    refine sc_ldM_4 C0 hW hv dX5_isValid_10 ?_
    refine lv_icmp_ge (tgt := 49) hx hb dX5_isValid_11 (by decide) (fun hc => ?_) (fun hc => ?_)
    · replace hf := sc_ip hc hf
      refine lv_iload_n hx hb dX5_isValid_49 rfl (lv_at hl 2 rfl) ?_
      exact sc_reti hR hf hW dX5_isValid_50
    · replace hf := sc_in hc hf
      refine lv_iload_n hx hb dX5_isValid_14 rfl (lv_at hl 2 rfl) ?_
      refine lv_if_ne (tgt := 37) hx hb dX5_isValid_15 (by decide) (fun hc => ?_) (fun hc => ?_)
      · replace hf := sc_in hc hf
        refine lv_iconst (v := (1 : Int32)) hx hb dX5_isValid_37 (by decide) ?_
        refine lv_goto (tgt := 42) hx hb dX5_isValid_38 (by decide) ?_
        refine lv_istore_n (lv' := [(2, .int (1 : Int32)), (0, .ref (h 0)), (1, .int x1), (3, .int x3)]) hx hb dX5_isValid_42 rfl hl (by decide) rfl (fun ls hl => ?_)
        refine lv_iinc (v := (x3 + 1)) (lv' := [(3, .int (x3 + 1)), (2, .int (1 : Int32)), (0, .ref (h 0)), (1, .int x1)]) hx hb dX5_isValid_43 hl (k := 3) rfl rfl (by decide) rfl (fun ls hl => ?_)
        refine lv_goto (tgt := 4) hx hb dX5_isValid_46 (by decide) ?_
        exact ih _ _ _ _ _ _ _ hf hW (lv_sub hl [2, 3, 1, 0] rfl)
      · replace hf := sc_ip hc hf
        refine lv_aload_n hx hb dX5_isValid_18 rfl (lv_at hl 0 rfl) ?_
        refine sc_getX5 C0 hW ni_X5_isValid_X5 1 (Nat.le_of_ble_eq_true rfl) lk_X5_isValid_7 (v := .ref (h 1)) rfl dX5_isValid_19 ?_
        refine lv_aload_n hx hb dX5_isValid_22 rfl (lv_at hl 0 rfl) ?_
        refine sc_getX5 C0 hW ni_X5_isValid_X5 6 (Nat.le_of_ble_eq_true rfl) lk_X5_isValid_23 (v := .ref (h 5)) rfl dX5_isValid_23 ?_
        refine lv_bipush (v := (12 : Int32)) hx hb dX5_isValid_26 (by decide) ?_
        refine lv_iload_n hx hb dX5_isValid_28 rfl (lv_at hl 1 rfl) ?_
        refine lv_imul hx hb dX5_isValid_29 ?_
        refine lv_iload_n hx hb dX5_isValid_30 rfl (lv_at hl 3 rfl) ?_
        refine lv_iadd hx hb dX5_isValid_31 ?_
        obtain ⟨hv, hf⟩ := sc_ck_s hf
        refine sc_ldM_5 C0 hW hv dX5_isValid_32 ?_
        obtain ⟨hv, hf⟩ := sc_ck_s hf
        refine sc_ldM_1 C0 hW hv dX5_isValid_33 ?_
        refine lv_if_ne (tgt := 41) hx hb dX5_isValid_34 (by decide) (fun hc => ?_) (fun hc => ?_)
        · replace hf := sc_in hc hf
          refine lv_iconst (v := (0 : Int32)) hx hb dX5_isValid_41 (by decide) ?_
          refine lv_istore_n (lv' := [(2, .int (0 : Int32)), (0, .ref (h 0)), (1, .int x1), (3, .int x3)]) hx hb dX5_isValid_42 rfl hl (by decide) rfl (fun ls hl => ?_)
          refine lv_iinc (v := (x3 + 1)) (lv' := [(3, .int (x3 + 1)), (2, .int (0 : Int32)), (0, .ref (h 0)), (1, .int x1)]) hx hb dX5_isValid_43 hl (k := 3) rfl rfl (by decide) rfl (fun ls hl => ?_)
          refine lv_goto (tgt := 4) hx hb dX5_isValid_46 (by decide) ?_
          exact ih _ _ _ _ _ _ _ hf hW (lv_sub hl [2, 3, 1, 0] rfl)
        · replace hf := sc_ip hc hf
          refine lv_iconst (v := (1 : Int32)) hx hb dX5_isValid_37 (by decide) ?_
          refine lv_goto (tgt := 42) hx hb dX5_isValid_38 (by decide) ?_
          refine lv_istore_n (lv' := [(2, .int (1 : Int32)), (0, .ref (h 0)), (1, .int x1), (3, .int x3)]) hx hb dX5_isValid_42 rfl hl (by decide) rfl (fun ls hl => ?_)
          refine lv_iinc (v := (x3 + 1)) (lv' := [(3, .int (x3 + 1)), (2, .int (1 : Int32)), (0, .ref (h 0)), (1, .int x1)]) hx hb dX5_isValid_43 hl (k := 3) rfl rfl (by decide) rfl (fun ls hl => ?_)
          refine lv_goto (tgt := 4) hx hb dX5_isValid_46 (by decide) ?_
          exact ih _ _ _ _ _ _ _ hf hW (lv_sub hl [2, 3, 1, 0] rfl)
set_option maxHeartbeats 4000000 in
set_option maxRecDepth 100000 in
theorem wk_X5_isValid_0 (C0 : CallFix p m c cX5_isValid 4 s args wsX5_isValid RX5) {S' : sc_M} {r : Int32} (hR : sc_Ri p l e rm_X5_isValid s m args below meth c Q cX5_isValid (sc_EM dC dI h cy) S' r) : ∀ (S : sc_M) (x1 : Int32) (H : Heap) (locs : List Loc) (ls : Array Slot), fn_X5_isValid_e S x1 = some (r, S') → sc_W (sc_EM dC dI h cy) s H locs S → lv_has ls 4 [(0, .ref (h 0)), (1, .int x1)] → W p l e rm_X5_isValid s m args below meth c H locs 0 0 Q (F0 m 0 ls []) := by
  obtain ⟨hx, hb, hml, hown, hts⟩ := id C0
  intro S x1 H locs ls hf hW hl
  rw [fn_X5_isValid_e] at hf
  refine lv_iconst (v := (0 : Int32)) hx hb dX5_isValid_0 (by decide) ?_
  refine lv_istore_n (lv' := [(2, .int (0 : Int32)), (0, .ref (h 0)), (1, .int x1)]) hx hb dX5_isValid_1 rfl hl (by decide) rfl (fun ls hl => ?_)
  refine lv_iconst (v := (0 : Int32)) hx hb dX5_isValid_2 (by decide) ?_
  refine lv_istore_n (lv' := [(3, .int (0 : Int32)), (2, .int (0 : Int32)), (0, .ref (h 0)), (1, .int x1)]) hx hb dX5_isValid_3 rfl hl (by decide) rfl (fun ls hl => ?_)
  exact wk_X5_isValid_4 C0 hR  sc_FU _ _ _ _ _ _ _ hf hW (lv_sub hl [2, 3, 1, 0] rfl)
set_option maxRecDepth 100000 in
theorem ct_X5_isValid {S S' : sc_M} {r : Int32} {x1 : Int32} (hf : fn_X5_isValid S x1 = some (r, S')) : sc_Ci l yX5_isValid wsX5_isValid rm_X5_isValid (sc_EM dC dI h cy) [.ref (h 0), .int x1] S S' r := by
  obtain ⟨hf, h01⟩ := sc_bz_s hf
  refine sc_ofi (cc := cX5_isValid) (maxL := 4) .boolean (sc_nar01 h01) sc_okM (by decide) rfl (Nat.le_of_ble_eq_true rfl) ?_
  intro p e s m below meth c Q C0 hR hW ls hl
  exact wk_X5_isValid_0 C0 hR _ _ _ _ _ hf hW hl
end
