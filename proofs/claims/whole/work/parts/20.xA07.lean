/-! ===== java/lang/Integer.bitCount(I)I ===== -/
abbrev rm_J6_bitCount_0f7a4 : Room := { frames := 0, cells := 0, slots := 0, locals := 0 }
theorem lk_J6_bitCount_0f7a4_265 : Cond.constant RJ6 265 (1431655765) ∈ wsJ6_bitCount_0f7a4 := by decide +kernel
theorem lk_J6_bitCount_0f7a4_266 : Cond.constant RJ6 266 (858993459) ∈ wsJ6_bitCount_0f7a4 := by decide +kernel
theorem lk_J6_bitCount_0f7a4_267 : Cond.constant RJ6 267 (252645135) ∈ wsJ6_bitCount_0f7a4 := by decide +kernel
noncomputable def fn_J6_bitCount_0f7a4 (S : sc_M) (x0 : Int32) : Option (Int32 × sc_M) :=
  sc_sq ((x0 - ((x0.toUInt32 >>> ((1 : Int32).toUInt32 &&& Int32.toUInt32 31)).toInt32 &&& (1431655765 : Int32)))) (fun y9 => sc_sq (((y9 &&& (858993459 : Int32)) + ((y9.toUInt32 >>> ((2 : Int32).toUInt32 &&& Int32.toUInt32 31)).toInt32 &&& (858993459 : Int32)))) (fun y23 => sc_sq (((y23 + (y23.toUInt32 >>> ((4 : Int32).toUInt32 &&& Int32.toUInt32 31)).toInt32) &&& (252645135 : Int32))) (fun y33 => sc_sq ((y33 + (y33.toUInt32 >>> ((8 : Int32).toUInt32 &&& Int32.toUInt32 31)).toInt32)) (fun y40 => sc_sq ((y40 + (y40.toUInt32 >>> ((16 : Int32).toUInt32 &&& Int32.toUInt32 31)).toInt32)) (fun y47 => some ((y47 &&& (63 : Int32)), S))))))
section
variable {p : Program} {l : Launch} {e : Env} {s : State} {m : MethodId} {args : Array Value} {below : List Frame} {meth : Method} {c : Code} {Q : State → Prop} {dC : Nat → ClassId} {dI : Nat → Nat → Nat} {h : Nat → Nat} {cy : Nat → ClassId}
set_option maxHeartbeats 4000000 in
set_option maxRecDepth 100000 in
theorem wk_J6_bitCount_0f7a4_0 (C0 : CallFix p m c cJ6_bitCount_0f7a4 1 s args wsJ6_bitCount_0f7a4 RJ6) {S' : sc_M} {r : Int32} (hR : sc_Ri p l e rm_J6_bitCount_0f7a4 s m args below meth c Q cJ6_bitCount_0f7a4 (sc_EX dC dI h cy) S' r) : ∀ (S : sc_M) (x0 : Int32) (H : Heap) (locs : List Loc) (ls : Array Slot), fn_J6_bitCount_0f7a4 S x0 = some (r, S') → sc_W (sc_EX dC dI h cy) s H locs S → lv_has ls 1 [(0, .int x0)] → W p l e rm_J6_bitCount_0f7a4 s m args below meth c H locs 0 0 Q (F0 m 0 ls []) := by
  obtain ⟨hx, hb, hml, hown, hts⟩ := id C0
  intro S x0 H locs ls hf hW hl
  rw [fn_J6_bitCount_0f7a4] at hf
  refine lv_iload_n hx hb dJ6_bitCount_0f7a4_0 rfl (lv_at hl 0 rfl) ?_
  refine lv_iload_n hx hb dJ6_bitCount_0f7a4_1 rfl (lv_at hl 0 rfl) ?_
  refine lv_iconst (v := (1 : Int32)) hx hb dJ6_bitCount_0f7a4_2 (by decide) ?_
  refine lv_iushr hx hb dJ6_bitCount_0f7a4_3 rfl ?_
  refine lv_ldcw (v := (1431655765 : Int32)) hx hb hown (hts _ lk_J6_bitCount_0f7a4_265) dJ6_bitCount_0f7a4_4 ?_
  refine lv_iand hx hb dJ6_bitCount_0f7a4_7 ?_
  refine lv_isub hx hb dJ6_bitCount_0f7a4_8 ?_
  obtain ⟨y9, ey9, hf⟩ := sc_sq_s hf
  refine sc_topi ey9 ?_
  refine lv_istore_n (lv' := [(0, .int y9)]) hx hb dJ6_bitCount_0f7a4_9 rfl hl (by decide) rfl (fun ls hl => ?_)
  refine lv_iload_n hx hb dJ6_bitCount_0f7a4_10 rfl (lv_at hl 0 rfl) ?_
  refine lv_ldcw (v := (858993459 : Int32)) hx hb hown (hts _ lk_J6_bitCount_0f7a4_266) dJ6_bitCount_0f7a4_11 ?_
  refine lv_iand hx hb dJ6_bitCount_0f7a4_14 ?_
  refine lv_iload_n hx hb dJ6_bitCount_0f7a4_15 rfl (lv_at hl 0 rfl) ?_
  refine lv_iconst (v := (2 : Int32)) hx hb dJ6_bitCount_0f7a4_16 (by decide) ?_
  refine lv_iushr hx hb dJ6_bitCount_0f7a4_17 rfl ?_
  refine lv_ldcw (v := (858993459 : Int32)) hx hb hown (hts _ lk_J6_bitCount_0f7a4_266) dJ6_bitCount_0f7a4_18 ?_
  refine lv_iand hx hb dJ6_bitCount_0f7a4_21 ?_
  refine lv_iadd hx hb dJ6_bitCount_0f7a4_22 ?_
  obtain ⟨y23, ey23, hf⟩ := sc_sq_s hf
  refine sc_topi ey23 ?_
  refine lv_istore_n (lv' := [(0, .int y23)]) hx hb dJ6_bitCount_0f7a4_23 rfl hl (by decide) rfl (fun ls hl => ?_)
  refine lv_iload_n hx hb dJ6_bitCount_0f7a4_24 rfl (lv_at hl 0 rfl) ?_
  refine lv_iload_n hx hb dJ6_bitCount_0f7a4_25 rfl (lv_at hl 0 rfl) ?_
  refine lv_iconst (v := (4 : Int32)) hx hb dJ6_bitCount_0f7a4_26 (by decide) ?_
  refine lv_iushr hx hb dJ6_bitCount_0f7a4_27 rfl ?_
  refine lv_iadd hx hb dJ6_bitCount_0f7a4_28 ?_
  refine lv_ldcw (v := (252645135 : Int32)) hx hb hown (hts _ lk_J6_bitCount_0f7a4_267) dJ6_bitCount_0f7a4_29 ?_
  refine lv_iand hx hb dJ6_bitCount_0f7a4_32 ?_
  obtain ⟨y33, ey33, hf⟩ := sc_sq_s hf
  refine sc_topi ey33 ?_
  refine lv_istore_n (lv' := [(0, .int y33)]) hx hb dJ6_bitCount_0f7a4_33 rfl hl (by decide) rfl (fun ls hl => ?_)
  refine lv_iload_n hx hb dJ6_bitCount_0f7a4_34 rfl (lv_at hl 0 rfl) ?_
  refine lv_iload_n hx hb dJ6_bitCount_0f7a4_35 rfl (lv_at hl 0 rfl) ?_
  refine lv_bipush (v := (8 : Int32)) hx hb dJ6_bitCount_0f7a4_36 (by decide) ?_
  refine lv_iushr hx hb dJ6_bitCount_0f7a4_38 rfl ?_
  refine lv_iadd hx hb dJ6_bitCount_0f7a4_39 ?_
  obtain ⟨y40, ey40, hf⟩ := sc_sq_s hf
  refine sc_topi ey40 ?_
  refine lv_istore_n (lv' := [(0, .int y40)]) hx hb dJ6_bitCount_0f7a4_40 rfl hl (by decide) rfl (fun ls hl => ?_)
  refine lv_iload_n hx hb dJ6_bitCount_0f7a4_41 rfl (lv_at hl 0 rfl) ?_
  refine lv_iload_n hx hb dJ6_bitCount_0f7a4_42 rfl (lv_at hl 0 rfl) ?_
  refine lv_bipush (v := (16 : Int32)) hx hb dJ6_bitCount_0f7a4_43 (by decide) ?_
  refine lv_iushr hx hb dJ6_bitCount_0f7a4_45 rfl ?_
  refine lv_iadd hx hb dJ6_bitCount_0f7a4_46 ?_
  obtain ⟨y47, ey47, hf⟩ := sc_sq_s hf
  refine sc_topi ey47 ?_
  refine lv_istore_n (lv' := [(0, .int y47)]) hx hb dJ6_bitCount_0f7a4_47 rfl hl (by decide) rfl (fun ls hl => ?_)
  refine lv_iload_n hx hb dJ6_bitCount_0f7a4_48 rfl (lv_at hl 0 rfl) ?_
  refine lv_bipush (v := (63 : Int32)) hx hb dJ6_bitCount_0f7a4_49 (by decide) ?_
  refine lv_iand hx hb dJ6_bitCount_0f7a4_51 ?_
  exact sc_reti hR hf hW dJ6_bitCount_0f7a4_52
set_option maxRecDepth 100000 in
theorem ct_J6_bitCount_0f7a4 {S S' : sc_M} {r : Int32} {x0 : Int32} (hf : fn_J6_bitCount_0f7a4 S x0 = some (r, S')) : sc_Ci l yJ6_bitCount_0f7a4 wsJ6_bitCount_0f7a4 rm_J6_bitCount_0f7a4 (sc_EX dC dI h cy) [.int x0] S S' r := by
  refine sc_ofi (cc := cJ6_bitCount_0f7a4) (maxL := 1) .int rfl sc_okX (by decide) rfl (Nat.le_of_ble_eq_true rfl) ?_
  intro p e s m below meth c Q C0 hR hW ls hl
  exact wk_J6_bitCount_0f7a4_0 C0 hR _ _ _ _ _ hf hW hl
end

/-! ===== SeatCounts.winner()I ===== -/
abbrev rm_X4_winner : Room := { frames := 2, cells := 0, slots := 0, locals := 48 }
theorem lk_X4_winner_12 : Cond.fieldLink RX4 12 "SeatCounts" "house" "LSeatCounts$House;" ∈ wsX4_winner := by decide +kernel
theorem lk_X4_winner_34 : Cond.fieldLink RX4 34 "SeatCounts$House" "candidates" "I" ∈ wsX4_winner := by decide +kernel
theorem lk_X4_winner_46 : Cond.fieldLink RX4 46 "SeatCounts$House" "withdrawn" "[Z" ∈ wsX4_winner := by decide +kernel
theorem ni_X4_winner_X0 : ∀ w ∈ wsX00, w ∈ wsX4_winner := by decide +kernel
theorem ni_X4_winner_X4 : ∀ w ∈ wsX40, w ∈ wsX4_winner := by decide +kernel
noncomputable def fn_X4_winner_18 : Nat → sc_M → Int32 → Int32 → Option (Int32 × sc_M)
  | 0, _, _, _ => none
  | n + 1, S, x1, x2 =>
    if (sc_gi S 0) ≤ x2 then
      some ((-9 : Int32), S)
    else
      sc_ck x2 12 (if (sc_ga S 4 x2.toNatClampNeg) = 0 then
        sc_cl (fn_X0_beatenBy S x2) (fun r46 S46 => sc_cl (fn_J6_bitCount_0f7a4 S46 r46) (fun r49 S49 => if r49 = (x1 - (1 : Int32)) then
          some (x2, S49)
        else
          fn_X4_winner_18 n S49 x1 (x2 + 1)))
      else
        fn_X4_winner_18 n S x1 (x2 + 1))
noncomputable def fn_X4_winner (S : sc_M) : Option (Int32 × sc_M) :=
  sc_cl (fn_X0_withdrawnOnes S) (fun r11 S11 => sc_sq (((sc_gi S 0) - r11)) (fun y15 => fn_X4_winner_18 sc_FU S11 y15 (0 : Int32)))
section
variable {p : Program} {l : Launch} {e : Env} {s : State} {m : MethodId} {args : Array Value} {below : List Frame} {meth : Method} {c : Code} {Q : State → Prop} {dC : Nat → ClassId} {dI : Nat → Nat → Nat} {h : Nat → Nat} {cy : Nat → ClassId}
set_option maxHeartbeats 4000000 in
set_option maxRecDepth 100000 in
theorem wk_X4_winner_18 (C0 : CallFix p m c cX4_winner 3 s args wsX4_winner RX4) {S' : sc_M} {r : Int32} (hR : sc_Ri p l e rm_X4_winner s m args below meth c Q cX4_winner (sc_EX dC dI h cy) S' r) : ∀ n : Nat, ∀ (S : sc_M) (x1 : Int32) (x2 : Int32) (H : Heap) (locs : List Loc) (ls : Array Slot), fn_X4_winner_18 n S x1 x2 = some (r, S') → sc_W (sc_EX dC dI h cy) s H locs S → lv_has ls 3 [(0, .ref (h 0)), (1, .int x1), (2, .int x2)] → W p l e rm_X4_winner s m args below meth c H locs 0 0 Q (F0 m 18 ls []) := by
  obtain ⟨hx, hb, hml, hown, hts⟩ := id C0
  intro n
  induction n with
  | zero => intro S x1 x2 H locs ls; intro hf; cases hf
  | succ n ih =>
    intro S x1 x2 H locs ls hf hW hl
    rw [fn_X4_winner_18] at hf
    refine lv_iload_n hx hb dX4_winner_18 rfl (lv_at hl 2 rfl) ?_
    refine lv_aload_n hx hb dX4_winner_19 rfl (lv_at hl 0 rfl) ?_
    refine sc_getX4 C0 hW ni_X4_winner_X4 0 (Nat.le_of_ble_eq_true rfl) lk_X4_winner_12 (v := .ref (h 1)) rfl dX4_winner_20 ?_
    refine sc_getX0 C0 hW ni_X4_winner_X0 0 (Nat.le_of_ble_eq_true rfl) lk_X4_winner_34 (v := .int (sc_gi S 0)) rfl dX4_winner_23 ?_
    refine lv_icmp_ge (tgt := 66) hx hb dX4_winner_26 (by decide) (fun hc => ?_) (fun hc => ?_)
    · replace hf := sc_ip hc hf
      refine lv_bipush (v := (-9 : Int32)) hx hb dX4_winner_66 (by decide) ?_
      exact sc_reti hR hf hW dX4_winner_68
    · replace hf := sc_in hc hf
      refine lv_aload_n hx hb dX4_winner_29 rfl (lv_at hl 0 rfl) ?_
      refine sc_getX4 C0 hW ni_X4_winner_X4 0 (Nat.le_of_ble_eq_true rfl) lk_X4_winner_12 (v := .ref (h 1)) rfl dX4_winner_30 ?_
      refine sc_getX0 C0 hW ni_X4_winner_X0 2 (Nat.le_of_ble_eq_true rfl) lk_X4_winner_46 (v := .ref (h 4)) rfl dX4_winner_33 ?_
      refine lv_iload_n hx hb dX4_winner_36 rfl (lv_at hl 2 rfl) ?_
      obtain ⟨hv, hf⟩ := sc_ck_s hf
      refine sc_ldX_4 C0 hW hv dX4_winner_37 ?_
      refine lv_if_ne (tgt := 60) hx hb dX4_winner_38 (by decide) (fun hc => ?_) (fun hc => ?_)
      · replace hf := sc_in hc hf
        refine lv_iinc (v := (x2 + 1)) (lv' := [(2, .int (x2 + 1)), (0, .ref (h 0)), (1, .int x1)]) hx hb dX4_winner_60 hl (k := 2) rfl rfl (by decide) rfl (fun ls hl => ?_)
        refine lv_goto (tgt := 18) hx hb dX4_winner_63 (by decide) ?_
        exact ih _ _ _ _ _ _ hf hW (lv_sub hl [1, 2, 0] rfl)
      · replace hf := sc_ip hc hf
        refine lv_aload_n hx hb dX4_winner_41 rfl (lv_at hl 0 rfl) ?_
        refine sc_getX4 C0 hW ni_X4_winner_X4 0 (Nat.le_of_ble_eq_true rfl) lk_X4_winner_12 (v := .ref (h 1)) rfl dX4_winner_42 ?_
        refine lv_iload_n hx hb dX4_winner_45 rfl (lv_at hl 2 rfl) ?_
        obtain ⟨r46, S46, hc, hf⟩ := sc_cl_s hf
        refine sc_callVi (As := [.int x2]) (rest := []) (q0 := 1) (ci := 0) sc_okX C0 hW (ct_X0_beatenBy hc) (cwV 1 hts gX4_winner_X0_beatenBy rfl rfl rfl (by decide +kernel) ⟨Nat.le_of_ble_eq_true rfl, Nat.le_of_ble_eq_true rfl⟩) rfl rfl rfl rfl hl.1 rfl (Nat.le_of_ble_eq_true rfl) dX4_winner_46 (fun H locs hW => ?_)
        obtain ⟨r49, S49, hc, hf⟩ := sc_cl_s hf
        refine sc_callSi (As := [.int r46]) (rest := []) sc_okX C0 hW (ct_J6_bitCount_0f7a4 hc) (va_cwS 1 hts gX4_winner_J6_bitCount_0f7a4 rfl rfl rfl (by decide +kernel) ⟨Nat.le_of_ble_eq_true rfl, Nat.le_of_ble_eq_true rfl⟩) rfl hl.1 rfl (Nat.le_of_ble_eq_true rfl) dX4_winner_49 (fun H locs hW => ?_)
        refine lv_iload_n hx hb dX4_winner_52 rfl (lv_at hl 1 rfl) ?_
        refine lv_iconst (v := (1 : Int32)) hx hb dX4_winner_53 (by decide) ?_
        refine lv_isub hx hb dX4_winner_54 ?_
        refine lv_icmp_ne (tgt := 60) hx hb dX4_winner_55 (by decide) (fun hc => ?_) (fun hc => ?_)
        · replace hf := sc_in hc hf
          refine lv_iinc (v := (x2 + 1)) (lv' := [(2, .int (x2 + 1)), (0, .ref (h 0)), (1, .int x1)]) hx hb dX4_winner_60 hl (k := 2) rfl rfl (by decide) rfl (fun ls hl => ?_)
          refine lv_goto (tgt := 18) hx hb dX4_winner_63 (by decide) ?_
          exact ih _ _ _ _ _ _ hf hW (lv_sub hl [1, 2, 0] rfl)
        · replace hf := sc_ip hc hf
          refine lv_iload_n hx hb dX4_winner_58 rfl (lv_at hl 2 rfl) ?_
          exact sc_reti hR hf hW dX4_winner_59
set_option maxHeartbeats 4000000 in
set_option maxRecDepth 100000 in
theorem wk_X4_winner_0 (C0 : CallFix p m c cX4_winner 3 s args wsX4_winner RX4) {S' : sc_M} {r : Int32} (hR : sc_Ri p l e rm_X4_winner s m args below meth c Q cX4_winner (sc_EX dC dI h cy) S' r) : ∀ (S : sc_M) (H : Heap) (locs : List Loc) (ls : Array Slot), fn_X4_winner S = some (r, S') → sc_W (sc_EX dC dI h cy) s H locs S → lv_has ls 3 [(0, .ref (h 0))] → W p l e rm_X4_winner s m args below meth c H locs 0 0 Q (F0 m 0 ls []) := by
  obtain ⟨hx, hb, hml, hown, hts⟩ := id C0
  intro S H locs ls hf hW hl
  rw [fn_X4_winner] at hf
  refine lv_aload_n hx hb dX4_winner_0 rfl (lv_at hl 0 rfl) ?_
  refine sc_getX4 C0 hW ni_X4_winner_X4 0 (Nat.le_of_ble_eq_true rfl) lk_X4_winner_12 (v := .ref (h 1)) rfl dX4_winner_1 ?_
  refine sc_getX0 C0 hW ni_X4_winner_X0 0 (Nat.le_of_ble_eq_true rfl) lk_X4_winner_34 (v := .int (sc_gi S 0)) rfl dX4_winner_4 ?_
  refine lv_aload_n hx hb dX4_winner_7 rfl (lv_at hl 0 rfl) ?_
  refine sc_getX4 C0 hW ni_X4_winner_X4 0 (Nat.le_of_ble_eq_true rfl) lk_X4_winner_12 (v := .ref (h 1)) rfl dX4_winner_8 ?_
  obtain ⟨r11, S11, hc, hf⟩ := sc_cl_s hf
  refine sc_callVi (As := []) (rest := [.int (sc_gi S 0)]) (q0 := 1) (ci := 0) sc_okX C0 hW (ct_X0_withdrawnOnes hc) (cwV 0 hts gX4_winner_X0_withdrawnOnes rfl rfl rfl (by decide +kernel) ⟨Nat.le_of_ble_eq_true rfl, Nat.le_of_ble_eq_true rfl⟩) rfl rfl rfl rfl hl.1 rfl (Nat.le_of_ble_eq_true rfl) dX4_winner_11 (fun H locs hW => ?_)
  refine lv_isub hx hb dX4_winner_14 ?_
  obtain ⟨y15, ey15, hf⟩ := sc_sq_s hf
  refine sc_topi ey15 ?_
  refine lv_istore_n (lv' := [(1, .int y15), (0, .ref (h 0))]) hx hb dX4_winner_15 rfl hl (by decide) rfl (fun ls hl => ?_)
  refine lv_iconst (v := (0 : Int32)) hx hb dX4_winner_16 (by decide) ?_
  refine lv_istore_n (lv' := [(2, .int (0 : Int32)), (1, .int y15), (0, .ref (h 0))]) hx hb dX4_winner_17 rfl hl (by decide) rfl (fun ls hl => ?_)
  exact wk_X4_winner_18 C0 hR  sc_FU _ _ _ _ _ _ hf hW (lv_sub hl [2, 1, 0] rfl)
set_option maxRecDepth 100000 in
theorem ct_X4_winner {S S' : sc_M} {r : Int32} (hf : fn_X4_winner S = some (r, S')) : sc_Ci l yX4_winner wsX4_winner rm_X4_winner (sc_EX dC dI h cy) [.ref (h 0)] S S' r := by
  refine sc_ofi (cc := cX4_winner) (maxL := 3) .int rfl sc_okX (by decide) rfl (Nat.le_of_ble_eq_true rfl) ?_
  intro p e s m below meth c Q C0 hR hW ls hl
  exact wk_X4_winner_0 C0 hR _ _ _ _ hf hW hl
end

/-! ===== SeatCounts.leads(I)I ===== -/
abbrev rm_X4_leads : Room := { frames := 3, cells := 0, slots := 0, locals := 73 }
theorem lk_X4_leads_12 : Cond.fieldLink RX4 12 "SeatCounts" "house" "LSeatCounts$House;" ∈ wsX4_leads := by decide +kernel
theorem ni_X4_leads_X4 : ∀ w ∈ wsX40, w ∈ wsX4_leads := by decide +kernel
noncomputable def fn_X4_leads (S : sc_M) (x1 : Int32) : Option (Int32 × sc_M) :=
  sc_cl (fn_X0_hasCandidate S x1) (fun r5 S5 => if r5 = 0 then
    some ((-1 : Int32), S5)
  else
    sc_cl (fn_X0_ledBy S5 x1) (fun r16 S16 => sc_cl (fn_J6_bitCount_0f7a4 S16 r16) (fun r19 S19 => some (r19, S19))))
section
variable {p : Program} {l : Launch} {e : Env} {s : State} {m : MethodId} {args : Array Value} {below : List Frame} {meth : Method} {c : Code} {Q : State → Prop} {dC : Nat → ClassId} {dI : Nat → Nat → Nat} {h : Nat → Nat} {cy : Nat → ClassId}
set_option maxHeartbeats 4000000 in
set_option maxRecDepth 100000 in
theorem wk_X4_leads_0 (C0 : CallFix p m c cX4_leads 2 s args wsX4_leads RX4) {S' : sc_M} {r : Int32} (hR : sc_Ri p l e rm_X4_leads s m args below meth c Q cX4_leads (sc_EX dC dI h cy) S' r) : ∀ (S : sc_M) (x1 : Int32) (H : Heap) (locs : List Loc) (ls : Array Slot), fn_X4_leads S x1 = some (r, S') → sc_W (sc_EX dC dI h cy) s H locs S → lv_has ls 2 [(0, .ref (h 0)), (1, .int x1)] → W p l e rm_X4_leads s m args below meth c H locs 0 0 Q (F0 m 0 ls []) := by
  obtain ⟨hx, hb, hml, hown, hts⟩ := id C0
  intro S x1 H locs ls hf hW hl
  rw [fn_X4_leads] at hf
  refine lv_aload_n hx hb dX4_leads_0 rfl (lv_at hl 0 rfl) ?_
  refine sc_getX4 C0 hW ni_X4_leads_X4 0 (Nat.le_of_ble_eq_true rfl) lk_X4_leads_12 (v := .ref (h 1)) rfl dX4_leads_1 ?_
  refine lv_iload_n hx hb dX4_leads_4 rfl (lv_at hl 1 rfl) ?_
  obtain ⟨r5, S5, hc, hf⟩ := sc_cl_s hf
  refine sc_callVi (As := [.int x1]) (rest := []) (q0 := 1) (ci := 0) sc_okX C0 hW (ct_X0_hasCandidate hc) (cwV 1 hts gX4_leads_X0_hasCandidate rfl rfl rfl (by decide +kernel) ⟨Nat.le_of_ble_eq_true rfl, Nat.le_of_ble_eq_true rfl⟩) rfl rfl rfl rfl hl.1 rfl (Nat.le_of_ble_eq_true rfl) dX4_leads_5 (fun H locs hW => ?_)
  refine lv_if_eq (tgt := 25) hx hb dX4_leads_8 (by decide) (fun hc => ?_) (fun hc => ?_)
  · replace hf := sc_ip hc hf
    refine lv_iconst (v := (-1 : Int32)) hx hb dX4_leads_25 (by decide) ?_
    exact sc_reti hR hf hW dX4_leads_26
  · replace hf := sc_in hc hf
    refine lv_aload_n hx hb dX4_leads_11 rfl (lv_at hl 0 rfl) ?_
    refine sc_getX4 C0 hW ni_X4_leads_X4 0 (Nat.le_of_ble_eq_true rfl) lk_X4_leads_12 (v := .ref (h 1)) rfl dX4_leads_12 ?_
    refine lv_iload_n hx hb dX4_leads_15 rfl (lv_at hl 1 rfl) ?_
    obtain ⟨r16, S16, hc, hf⟩ := sc_cl_s hf
    refine sc_callVi (As := [.int x1]) (rest := []) (q0 := 1) (ci := 0) sc_okX C0 hW (ct_X0_ledBy hc) (cwV 1 hts gX4_leads_X0_ledBy rfl rfl rfl (by decide +kernel) ⟨Nat.le_of_ble_eq_true rfl, Nat.le_of_ble_eq_true rfl⟩) rfl rfl rfl rfl hl.1 rfl (Nat.le_of_ble_eq_true rfl) dX4_leads_16 (fun H locs hW => ?_)
    obtain ⟨r19, S19, hc, hf⟩ := sc_cl_s hf
    refine sc_callSi (As := [.int r16]) (rest := []) sc_okX C0 hW (ct_J6_bitCount_0f7a4 hc) (va_cwS 1 hts gX4_leads_J6_bitCount_0f7a4 rfl rfl rfl (by decide +kernel) ⟨Nat.le_of_ble_eq_true rfl, Nat.le_of_ble_eq_true rfl⟩) rfl hl.1 rfl (Nat.le_of_ble_eq_true rfl) dX4_leads_19 (fun H locs hW => ?_)
    refine lv_goto (tgt := 26) hx hb dX4_leads_22 (by decide) ?_
    exact sc_reti hR hf hW dX4_leads_26
set_option maxRecDepth 100000 in
theorem ct_X4_leads {S S' : sc_M} {r : Int32} {x1 : Int32} (hf : fn_X4_leads S x1 = some (r, S')) : sc_Ci l yX4_leads wsX4_leads rm_X4_leads (sc_EX dC dI h cy) [.ref (h 0), .int x1] S S' r := by
  refine sc_ofi (cc := cX4_leads) (maxL := 2) .int rfl sc_okX (by decide) rfl (Nat.le_of_ble_eq_true rfl) ?_
  intro p e s m below meth c Q C0 hR hW ls hl
  exact wk_X4_leads_0 C0 hR _ _ _ _ _ hf hW hl
end

/-! ===== SeatCounts.points(I)I ===== -/
abbrev rm_X4_points : Room := { frames := 2, cells := 0, slots := 0, locals := 48 }
theorem lk_X4_points_12 : Cond.fieldLink RX4 12 "SeatCounts" "house" "LSeatCounts$House;" ∈ wsX4_points := by decide +kernel
theorem ni_X4_points_X4 : ∀ w ∈ wsX40, w ∈ wsX4_points := by decide +kernel
noncomputable def fn_X4_points (S : sc_M) (x1 : Int32) : Option (Int32 × sc_M) :=
  sc_cl (fn_X0_hasCandidate S x1) (fun r5 S5 => if r5 = 0 then
    some ((-1 : Int32), S5)
  else
    sc_cl (fn_X0_pointsOf S5 x1) (fun r16 S16 => some (r16, S16)))
section
variable {p : Program} {l : Launch} {e : Env} {s : State} {m : MethodId} {args : Array Value} {below : List Frame} {meth : Method} {c : Code} {Q : State → Prop} {dC : Nat → ClassId} {dI : Nat → Nat → Nat} {h : Nat → Nat} {cy : Nat → ClassId}
set_option maxHeartbeats 4000000 in
set_option maxRecDepth 100000 in
theorem wk_X4_points_0 (C0 : CallFix p m c cX4_points 2 s args wsX4_points RX4) {S' : sc_M} {r : Int32} (hR : sc_Ri p l e rm_X4_points s m args below meth c Q cX4_points (sc_EX dC dI h cy) S' r) : ∀ (S : sc_M) (x1 : Int32) (H : Heap) (locs : List Loc) (ls : Array Slot), fn_X4_points S x1 = some (r, S') → sc_W (sc_EX dC dI h cy) s H locs S → lv_has ls 2 [(0, .ref (h 0)), (1, .int x1)] → W p l e rm_X4_points s m args below meth c H locs 0 0 Q (F0 m 0 ls []) := by
  obtain ⟨hx, hb, hml, hown, hts⟩ := id C0
  intro S x1 H locs ls hf hW hl
  rw [fn_X4_points] at hf
  refine lv_aload_n hx hb dX4_points_0 rfl (lv_at hl 0 rfl) ?_
  refine sc_getX4 C0 hW ni_X4_points_X4 0 (Nat.le_of_ble_eq_true rfl) lk_X4_points_12 (v := .ref (h 1)) rfl dX4_points_1 ?_
  refine lv_iload_n hx hb dX4_points_4 rfl (lv_at hl 1 rfl) ?_
  obtain ⟨r5, S5, hc, hf⟩ := sc_cl_s hf
  refine sc_callVi (As := [.int x1]) (rest := []) (q0 := 1) (ci := 0) sc_okX C0 hW (ct_X0_hasCandidate hc) (cwV 1 hts gX4_points_X0_hasCandidate rfl rfl rfl (by decide +kernel) ⟨Nat.le_of_ble_eq_true rfl, Nat.le_of_ble_eq_true rfl⟩) rfl rfl rfl rfl hl.1 rfl (Nat.le_of_ble_eq_true rfl) dX4_points_5 (fun H locs hW => ?_)
  refine lv_if_eq (tgt := 22) hx hb dX4_points_8 (by decide) (fun hc => ?_) (fun hc => ?_)
  · replace hf := sc_ip hc hf
    refine lv_iconst (v := (-1 : Int32)) hx hb dX4_points_22 (by decide) ?_
    exact sc_reti hR hf hW dX4_points_23
  · replace hf := sc_in hc hf
    refine lv_aload_n hx hb dX4_points_11 rfl (lv_at hl 0 rfl) ?_
    refine sc_getX4 C0 hW ni_X4_points_X4 0 (Nat.le_of_ble_eq_true rfl) lk_X4_points_12 (v := .ref (h 1)) rfl dX4_points_12 ?_
    refine lv_iload_n hx hb dX4_points_15 rfl (lv_at hl 1 rfl) ?_
    obtain ⟨r16, S16, hc, hf⟩ := sc_cl_s hf
    refine sc_callVi (As := [.int x1]) (rest := []) (q0 := 1) (ci := 0) sc_okX C0 hW (ct_X0_pointsOf hc) (cwV 1 hts gX4_points_X0_pointsOf rfl rfl rfl (by decide +kernel) ⟨Nat.le_of_ble_eq_true rfl, Nat.le_of_ble_eq_true rfl⟩) rfl rfl rfl rfl hl.1 rfl (Nat.le_of_ble_eq_true rfl) dX4_points_16 (fun H locs hW => ?_)
    refine lv_goto (tgt := 23) hx hb dX4_points_19 (by decide) ?_
    exact sc_reti hR hf hW dX4_points_23
set_option maxRecDepth 100000 in
theorem ct_X4_points {S S' : sc_M} {r : Int32} {x1 : Int32} (hf : fn_X4_points S x1 = some (r, S')) : sc_Ci l yX4_points wsX4_points rm_X4_points (sc_EX dC dI h cy) [.ref (h 0), .int x1] S S' r := by
  refine sc_ofi (cc := cX4_points) (maxL := 2) .int rfl sc_okX (by decide) rfl (Nat.le_of_ble_eq_true rfl) ?_
  intro p e s m below meth c Q C0 hR hW ls hl
  exact wk_X4_points_0 C0 hR _ _ _ _ _ hf hW hl
end

/-! ===== SeatCounts.told(I)I ===== -/
abbrev rm_X4_told : Room := { frames := 2, cells := 0, slots := 0, locals := 44 }
theorem lk_X4_told_108 : Cond.fieldLink RX4 108 "SeatCounts$Journal" "stages" "I" ∈ wsX4_told := by decide +kernel
theorem lk_X4_told_12 : Cond.fieldLink RX4 12 "SeatCounts" "house" "LSeatCounts$House;" ∈ wsX4_told := by decide +kernel
theorem lk_X4_told_149 : Cond.fieldLink RX4 149 "SeatCounts$Journal" "electedOnes" "I" ∈ wsX4_told := by decide +kernel
theorem lk_X4_told_155 : Cond.fieldLink RX4 155 "SeatCounts$Journal" "rule" "I" ∈ wsX4_told := by decide +kernel
theorem lk_X4_told_19 : Cond.fieldLink RX4 19 "SeatCounts" "journal" "LSeatCounts$Journal;" ∈ wsX4_told := by decide +kernel
theorem lk_X4_told_34 : Cond.fieldLink RX4 34 "SeatCounts$House" "candidates" "I" ∈ wsX4_told := by decide +kernel
theorem lk_X4_told_61 : Cond.fieldLink RX4 61 "SeatCounts$House" "piles" "I" ∈ wsX4_told := by decide +kernel
theorem ni_X4_told_X0 : ∀ w ∈ wsX00, w ∈ wsX4_told := by decide +kernel
theorem ni_X4_told_X1 : ∀ w ∈ wsX10, w ∈ wsX4_told := by decide +kernel
theorem ni_X4_told_X4 : ∀ w ∈ wsX40, w ∈ wsX4_told := by decide +kernel
noncomputable def fn_X4_told (S : sc_M) (x1 : Int32) : Option (Int32 × sc_M) :=
  if x1 = 0 then
    some ((sc_gi S 0), S)
  else if x1 = 1 then
    some ((sc_gi S 1), S)
  else if x1 = 2 then
    sc_cl (fn_X0_validPapers S) (fun r64 S64 => some (r64, S64))
  else if x1 = 3 then
    some ((sc_gi S 5), S)
  else if x1 = 4 then
    some ((sc_gi S 7), S)
  else if x1 = 5 then
    some ((sc_gi S 2), S)
  else if x1 = 6 then
    sc_cl (fn_X0_withdrawnOnes S) (fun r96 S96 => some (r96, S96))
  else 
    some ((-2 : Int32), S)
section
variable {p : Program} {l : Launch} {e : Env} {s : State} {m : MethodId} {args : Array Value} {below : List Frame} {meth : Method} {c : Code} {Q : State → Prop} {dC : Nat → ClassId} {dI : Nat → Nat → Nat} {h : Nat → Nat} {cy : Nat → ClassId}
set_option maxHeartbeats 4000000 in
set_option maxRecDepth 100000 in
theorem wk_X4_told_0 (C0 : CallFix p m c cX4_told 2 s args wsX4_told RX4) {S' : sc_M} {r : Int32} (hR : sc_Ri p l e rm_X4_told s m args below meth c Q cX4_told (sc_EX dC dI h cy) S' r) : ∀ (S : sc_M) (x1 : Int32) (H : Heap) (locs : List Loc) (ls : Array Slot), fn_X4_told S x1 = some (r, S') → sc_W (sc_EX dC dI h cy) s H locs S → lv_has ls 2 [(0, .ref (h 0)), (1, .int x1)] → W p l e rm_X4_told s m args below meth c H locs 0 0 Q (F0 m 0 ls []) := by
  obtain ⟨hx, hb, hml, hown, hts⟩ := id C0
  intro S x1 H locs ls hf hW hl
  rw [fn_X4_told] at hf
  refine lv_iload_n hx hb dX4_told_0 rfl (lv_at hl 1 rfl) ?_
  rcases Decidable.em (x1 = 0) with hc0 | hc0
  · replace hf := sc_ip hc0 hf
    refine lv_tableIn (tgt := 44) hx hb dX4_told_1 (by rw [hc0]; decide) (by rw [hc0]; decide) (by rw [hc0]; rfl) (by decide) ?_
    refine lv_aload_n hx hb dX4_told_44 rfl (lv_at hl 0 rfl) ?_
    refine sc_getX4 C0 hW ni_X4_told_X4 0 (Nat.le_of_ble_eq_true rfl) lk_X4_told_12 (v := .ref (h 1)) rfl dX4_told_45 ?_
    refine sc_getX0 C0 hW ni_X4_told_X0 0 (Nat.le_of_ble_eq_true rfl) lk_X4_told_34 (v := .int (sc_gi S 0)) rfl dX4_told_48 ?_
    exact sc_reti hR hf hW dX4_told_51
  replace hf := sc_in hc0 hf
  rcases Decidable.em (x1 = 1) with hc1 | hc1
  · replace hf := sc_ip hc1 hf
    refine lv_tableIn (tgt := 52) hx hb dX4_told_1 (by rw [hc1]; decide) (by rw [hc1]; decide) (by rw [hc1]; rfl) (by decide) ?_
    refine lv_aload_n hx hb dX4_told_52 rfl (lv_at hl 0 rfl) ?_
    refine sc_getX4 C0 hW ni_X4_told_X4 0 (Nat.le_of_ble_eq_true rfl) lk_X4_told_12 (v := .ref (h 1)) rfl dX4_told_53 ?_
    refine sc_getX0 C0 hW ni_X4_told_X0 1 (Nat.le_of_ble_eq_true rfl) lk_X4_told_61 (v := .int (sc_gi S 1)) rfl dX4_told_56 ?_
    exact sc_reti hR hf hW dX4_told_59
  replace hf := sc_in hc1 hf
  rcases Decidable.em (x1 = 2) with hc2 | hc2
  · replace hf := sc_ip hc2 hf
    refine lv_tableIn (tgt := 60) hx hb dX4_told_1 (by rw [hc2]; decide) (by rw [hc2]; decide) (by rw [hc2]; rfl) (by decide) ?_
    refine lv_aload_n hx hb dX4_told_60 rfl (lv_at hl 0 rfl) ?_
    refine sc_getX4 C0 hW ni_X4_told_X4 0 (Nat.le_of_ble_eq_true rfl) lk_X4_told_12 (v := .ref (h 1)) rfl dX4_told_61 ?_
    obtain ⟨r64, S64, hc, hf⟩ := sc_cl_s hf
    refine sc_callVi (As := []) (rest := []) (q0 := 1) (ci := 0) sc_okX C0 hW (ct_X0_validPapers hc) (cwV 0 hts gX4_told_X0_validPapers rfl rfl rfl (by decide +kernel) ⟨Nat.le_of_ble_eq_true rfl, Nat.le_of_ble_eq_true rfl⟩) rfl rfl rfl rfl hl.1 rfl (Nat.le_of_ble_eq_true rfl) dX4_told_64 (fun H locs hW => ?_)
    exact sc_reti hR hf hW dX4_told_67
  replace hf := sc_in hc2 hf
  rcases Decidable.em (x1 = 3) with hc3 | hc3
  · replace hf := sc_ip hc3 hf
    refine lv_tableIn (tgt := 68) hx hb dX4_told_1 (by rw [hc3]; decide) (by rw [hc3]; decide) (by rw [hc3]; rfl) (by decide) ?_
    refine lv_aload_n hx hb dX4_told_68 rfl (lv_at hl 0 rfl) ?_
    refine sc_getX4 C0 hW ni_X4_told_X4 1 (Nat.le_of_ble_eq_true rfl) lk_X4_told_19 (v := .ref (h 2)) rfl dX4_told_69 ?_
    refine sc_getX1 C0 hW ni_X4_told_X1 3 (Nat.le_of_ble_eq_true rfl) lk_X4_told_108 (v := .int (sc_gi S 5)) rfl dX4_told_72 ?_
    exact sc_reti hR hf hW dX4_told_75
  replace hf := sc_in hc3 hf
  rcases Decidable.em (x1 = 4) with hc4 | hc4
  · replace hf := sc_ip hc4 hf
    refine lv_tableIn (tgt := 76) hx hb dX4_told_1 (by rw [hc4]; decide) (by rw [hc4]; decide) (by rw [hc4]; rfl) (by decide) ?_
    refine lv_aload_n hx hb dX4_told_76 rfl (lv_at hl 0 rfl) ?_
    refine sc_getX4 C0 hW ni_X4_told_X4 1 (Nat.le_of_ble_eq_true rfl) lk_X4_told_19 (v := .ref (h 2)) rfl dX4_told_77 ?_
    refine sc_getX1 C0 hW ni_X4_told_X1 5 (Nat.le_of_ble_eq_true rfl) lk_X4_told_149 (v := .int (sc_gi S 7)) rfl dX4_told_80 ?_
    exact sc_reti hR hf hW dX4_told_83
  replace hf := sc_in hc4 hf
  rcases Decidable.em (x1 = 5) with hc5 | hc5
  · replace hf := sc_ip hc5 hf
    refine lv_tableIn (tgt := 84) hx hb dX4_told_1 (by rw [hc5]; decide) (by rw [hc5]; decide) (by rw [hc5]; rfl) (by decide) ?_
    refine lv_aload_n hx hb dX4_told_84 rfl (lv_at hl 0 rfl) ?_
    refine sc_getX4 C0 hW ni_X4_told_X4 1 (Nat.le_of_ble_eq_true rfl) lk_X4_told_19 (v := .ref (h 2)) rfl dX4_told_85 ?_
    refine sc_getX1 C0 hW ni_X4_told_X1 0 (Nat.le_of_ble_eq_true rfl) lk_X4_told_155 (v := .int (sc_gi S 2)) rfl dX4_told_88 ?_
    exact sc_reti hR hf hW dX4_told_91
  replace hf := sc_in hc5 hf
  rcases Decidable.em (x1 = 6) with hc6 | hc6
  · replace hf := sc_ip hc6 hf
    refine lv_tableIn (tgt := 92) hx hb dX4_told_1 (by rw [hc6]; decide) (by rw [hc6]; decide) (by rw [hc6]; rfl) (by decide) ?_
    refine lv_aload_n hx hb dX4_told_92 rfl (lv_at hl 0 rfl) ?_
    refine sc_getX4 C0 hW ni_X4_told_X4 0 (Nat.le_of_ble_eq_true rfl) lk_X4_told_12 (v := .ref (h 1)) rfl dX4_told_93 ?_
    obtain ⟨r96, S96, hc, hf⟩ := sc_cl_s hf
    refine sc_callVi (As := []) (rest := []) (q0 := 1) (ci := 0) sc_okX C0 hW (ct_X0_withdrawnOnes hc) (cwV 0 hts gX4_told_X0_withdrawnOnes rfl rfl rfl (by decide +kernel) ⟨Nat.le_of_ble_eq_true rfl, Nat.le_of_ble_eq_true rfl⟩) rfl rfl rfl rfl hl.1 rfl (Nat.le_of_ble_eq_true rfl) dX4_told_96 (fun H locs hW => ?_)
    exact sc_reti hR hf hW dX4_told_99
  replace hf := sc_in hc6 hf
  refine lv_tableOut (tgt := 100) hx hb dX4_told_1 (sc_tbo 6 (by decide) (fun k hk => match k, hk with | 0, _ => hc0 | 1, _ => hc1 | 2, _ => hc2 | 3, _ => hc3 | 4, _ => hc4 | 5, _ => hc5 | 6, _ => hc6 | k + 7, hk => absurd hk (by omega))) (by decide) ?_
  refine lv_bipush (v := (-2 : Int32)) hx hb dX4_told_100 (by decide) ?_
  exact sc_reti hR hf hW dX4_told_102
set_option maxRecDepth 100000 in
theorem ct_X4_told {S S' : sc_M} {r : Int32} {x1 : Int32} (hf : fn_X4_told S x1 = some (r, S')) : sc_Ci l yX4_told wsX4_told rm_X4_told (sc_EX dC dI h cy) [.ref (h 0), .int x1] S S' r := by
  refine sc_ofi (cc := cX4_told) (maxL := 2) .int rfl sc_okX (by decide) rfl (Nat.le_of_ble_eq_true rfl) ?_
  intro p e s m below meth c Q C0 hR hW ls hl
  exact wk_X4_told_0 C0 hR _ _ _ _ _ hf hW hl
end
