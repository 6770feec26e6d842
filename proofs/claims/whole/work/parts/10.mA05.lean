/-! ===== SeatCountsModel.check()I ===== -/
abbrev rm_X5_check : Room := { frames := 0, cells := 0, slots := 0, locals := 0 }
theorem lk_X5_check_124 : Cond.fieldLink RX5 124 "SeatCountsModel" "stages" "I" ∈ wsX5_check := by decide +kernel
theorem lk_X5_check_207 : Cond.fieldLink RX5 207 "SeatCountsModel" "manyThen" "I" ∈ wsX5_check := by decide +kernel
theorem lk_X5_check_51 : Cond.fieldLink RX5 51 "SeatCountsModel" "votesAt" "[J" ∈ wsX5_check := by decide +kernel
theorem lk_X5_check_66 : Cond.fieldLink RX5 66 "SeatCountsModel" "sheet" "[J" ∈ wsX5_check := by decide +kernel
theorem lk_X5_check_97 : Cond.fieldLink RX5 97 "SeatCountsModel" "ruleOf" "I" ∈ wsX5_check := by decide +kernel
theorem ni_X5_check_X5 : ∀ w ∈ wsX50, w ∈ wsX5_check := by decide +kernel
noncomputable def fn_X5_check_22 (k12 : sc_M → Int32 → Option (Int32 × sc_M)) : Nat → sc_M → Int32 → Int32 → Option (Int32 × sc_M)
  | 0, _, _, _ => none
  | n + 1, S, x1, x2 =>
    if (sc_gi S 4) ≤ x2 then
      k12 S (x1 + 1)
    else
      sc_ck (((12 : Int32) * x1) + x2) 1080 (sc_ck (((12 : Int32) * x1) + x2) 1080 (if (sc_gb S 19 (((12 : Int32) * x1) + x2).toNatClampNeg) = (sc_gb S 14 (((12 : Int32) * x1) + x2).toNatClampNeg) then
        fn_X5_check_22 k12 n S x1 (x2 + 1)
      else
        some (((-20 : Int32) - x1), S)))
noncomputable def fn_X5_check_12 : Nat → sc_M → Int32 → Option (Int32 × sc_M)
  | 0, _, _ => none
  | n + 1, S, x1 =>
    if (sc_gi S 6) ≤ x1 then
      some ((1 : Int32), S)
    else
      fn_X5_check_22 (fn_X5_check_12 n) sc_FU S x1 (0 : Int32)
noncomputable def fn_X5_check (S : sc_M) : Option (Int32 × sc_M) :=
  if 0 ≤ (sc_gi S 2) then
    fn_X5_check_12 sc_FU S (0 : Int32)
  else
    some ((-3 : Int32), S)
section
variable {p : Program} {l : Launch} {e : Env} {s : State} {m : MethodId} {args : Array Value} {below : List Frame} {meth : Method} {c : Code} {Q : State → Prop} {dC : Nat → ClassId} {dI : Nat → Nat → Nat} {h : Nat → Nat} {cy : Nat → ClassId}
set_option maxHeartbeats 4000000 in
set_option maxRecDepth 100000 in
theorem wk_X5_check_22 (C0 : CallFix p m c cX5_check 3 s args wsX5_check RX5) {S' : sc_M} {r : Int32} (hR : sc_Ri p l e rm_X5_check s m args below meth c Q cX5_check (sc_EM dC dI h cy) S' r) {k12 : sc_M → Int32 → Option (Int32 × sc_M)} (hk12 : ∀ (S : sc_M) (x1 : Int32) (H : Heap) (locs : List Loc) (ls : Array Slot), k12 S x1 = some (r, S') → sc_W (sc_EM dC dI h cy) s H locs S → lv_has ls 3 [(0, .ref (h 0)), (1, .int x1)] → W p l e rm_X5_check s m args below meth c H locs 0 0 Q (F0 m 12 ls [])) : ∀ n : Nat, ∀ (S : sc_M) (x1 : Int32) (x2 : Int32) (H : Heap) (locs : List Loc) (ls : Array Slot), fn_X5_check_22 k12 n S x1 x2 = some (r, S') → sc_W (sc_EM dC dI h cy) s H locs S → lv_has ls 3 [(0, .ref (h 0)), (1, .int x1), (2, .int x2)] → W p l e rm_X5_check s m args below meth c H locs 0 0 Q (F0 m 22 ls []) := by
  obtain ⟨hx, hb, hml, hown, hts⟩ := id C0
  intro n
  induction n with
  | zero => intro S x1 x2 H locs ls; intro hf; cases hf
  | succ n ih =>
    intro S x1 x2 H locs ls hf hW hl
    rw [fn_X5_check_22] at hf
    refine lv_iload_n hx hb dX5_check_22 rfl (lv_at hl 2 rfl) ?_
    refine lv_aload_n hx hb dX5_check_23 rfl (lv_at hl 0 rfl) ?_
    refine sc_getX5 C0 hW ni_X5_check_X5 10 (Nat.le_of_ble_eq_true rfl) lk_X5_check_207 (v := .int (sc_gi S 4)) rfl dX5_check_24 ?_
    refine lv_icmp_ge (tgt := 67) hx hb dX5_check_27 (by decide) (fun hc => ?_) (fun hc => ?_)
    · replace hf := sc_ip hc hf
      refine lv_iinc (v := (x1 + 1)) (lv' := [(1, .int (x1 + 1)), (0, .ref (h 0)), (2, .int x2)]) hx hb dX5_check_67 hl (k := 1) rfl rfl (by decide) rfl (fun ls hl => ?_)
      refine lv_goto (tgt := 12) hx hb dX5_check_70 (by decide) ?_
      exact hk12 _ _ _ _ _ hf hW (lv_sub hl [1, 0] rfl)
    · replace hf := sc_in hc hf
      refine lv_aload_n hx hb dX5_check_30 rfl (lv_at hl 0 rfl) ?_
      refine sc_getX5 C0 hW ni_X5_check_X5 25 (Nat.le_of_ble_eq_true rfl) lk_X5_check_66 (v := .ref (h 19)) rfl dX5_check_31 ?_
      refine lv_bipush (v := (12 : Int32)) hx hb dX5_check_34 (by decide) ?_
      refine lv_iload_n hx hb dX5_check_36 rfl (lv_at hl 1 rfl) ?_
      refine lv_imul hx hb dX5_check_37 ?_
      refine lv_iload_n hx hb dX5_check_38 rfl (lv_at hl 2 rfl) ?_
      refine lv_iadd hx hb dX5_check_39 ?_
      obtain ⟨hv, hf⟩ := sc_ck_s hf
      refine sc_ldM_19 C0 hW hv dX5_check_40 ?_
      refine lv_aload_n hx hb dX5_check_41 rfl (lv_at hl 0 rfl) ?_
      refine sc_getX5 C0 hW ni_X5_check_X5 20 (Nat.le_of_ble_eq_true rfl) lk_X5_check_51 (v := .ref (h 14)) rfl dX5_check_42 ?_
      refine lv_bipush (v := (12 : Int32)) hx hb dX5_check_45 (by decide) ?_
      refine lv_iload_n hx hb dX5_check_47 rfl (lv_at hl 1 rfl) ?_
      refine lv_imul hx hb dX5_check_48 ?_
      refine lv_iload_n hx hb dX5_check_49 rfl (lv_at hl 2 rfl) ?_
      refine lv_iadd hx hb dX5_check_50 ?_
      obtain ⟨hv, hf⟩ := sc_ck_s hf
      refine sc_ldM_14 C0 hW hv dX5_check_51 ?_
      refine sc_l_eq (tgt := 61) C0 dX5_check_52 dX5_check_53 (by decide) (fun hc => ?_) (fun hc => ?_)
      · replace hf := sc_ip hc hf
        refine lv_iinc (v := (x2 + 1)) (lv' := [(2, .int (x2 + 1)), (0, .ref (h 0)), (1, .int x1)]) hx hb dX5_check_61 hl (k := 2) rfl rfl (by decide) rfl (fun ls hl => ?_)
        refine lv_goto (tgt := 22) hx hb dX5_check_64 (by decide) ?_
        exact ih _ _ _ _ _ _ hf hW (lv_sub hl [1, 2, 0] rfl)
      · replace hf := sc_in hc hf
        refine lv_bipush (v := (-20 : Int32)) hx hb dX5_check_56 (by decide) ?_
        refine lv_iload_n hx hb dX5_check_58 rfl (lv_at hl 1 rfl) ?_
        refine lv_isub hx hb dX5_check_59 ?_
        exact sc_reti hR hf hW dX5_check_60
set_option maxHeartbeats 4000000 in
set_option maxRecDepth 100000 in
theorem wk_X5_check_12 (C0 : CallFix p m c cX5_check 3 s args wsX5_check RX5) {S' : sc_M} {r : Int32} (hR : sc_Ri p l e rm_X5_check s m args below meth c Q cX5_check (sc_EM dC dI h cy) S' r) : ∀ n : Nat, ∀ (S : sc_M) (x1 : Int32) (H : Heap) (locs : List Loc) (ls : Array Slot), fn_X5_check_12 n S x1 = some (r, S') → sc_W (sc_EM dC dI h cy) s H locs S → lv_has ls 3 [(0, .ref (h 0)), (1, .int x1)] → W p l e rm_X5_check s m args below meth c H locs 0 0 Q (F0 m 12 ls []) := by
  obtain ⟨hx, hb, hml, hown, hts⟩ := id C0
  intro n
  induction n with
  | zero => intro S x1 H locs ls; intro hf; cases hf
  | succ n ih =>
    intro S x1 H locs ls hf hW hl
    rw [fn_X5_check_12] at hf
    refine lv_iload_n hx hb dX5_check_12 rfl (lv_at hl 1 rfl) ?_
    refine lv_aload_n hx hb dX5_check_13 rfl (lv_at hl 0 rfl) ?_
    refine sc_getX5 C0 hW ni_X5_check_X5 12 (Nat.le_of_ble_eq_true rfl) lk_X5_check_124 (v := .int (sc_gi S 6)) rfl dX5_check_14 ?_
    refine lv_icmp_ge (tgt := 73) hx hb dX5_check_17 (by decide) (fun hc => ?_) (fun hc => ?_)
    · replace hf := sc_ip hc hf
      refine lv_iconst (v := (1 : Int32)) hx hb dX5_check_73 (by decide) ?_
      exact sc_reti hR hf hW dX5_check_74
    · replace hf := sc_in hc hf
      refine lv_iconst (v := (0 : Int32)) hx hb dX5_check_20 (by decide) ?_
      refine lv_istore_n (lv' := [(2, .int (0 : Int32)), (0, .ref (h 0)), (1, .int x1)]) hx hb dX5_check_21 rfl hl (by decide) rfl (fun ls hl => ?_)
      exact wk_X5_check_22 C0 hR ih sc_FU _ _ _ _ _ _ hf hW (lv_sub hl [1, 2, 0] rfl)
set_option maxHeartbeats 4000000 in
set_option maxRecDepth 100000 in
theorem wk_X5_check_0 (C0 : CallFix p m c cX5_check 3 s args wsX5_check RX5) {S' : sc_M} {r : Int32} (hR : sc_Ri p l e rm_X5_check s m args below meth c Q cX5_check (sc_EM dC dI h cy) S' r) : ∀ (S : sc_M) (H : Heap) (locs : List Loc) (ls : Array Slot), fn_X5_check S = some (r, S') → sc_W (sc_EM dC dI h cy) s H locs S → lv_has ls 3 [(0, .ref (h 0))] → W p l e rm_X5_check s m args below meth c H locs 0 0 Q (F0 m 0 ls []) := by
  obtain ⟨hx, hb, hml, hown, hts⟩ := id C0
  intro S H locs ls hf hW hl
  rw [fn_X5_check] at hf
  refine lv_aload_n hx hb dX5_check_0 rfl (lv_at hl 0 rfl) ?_
  refine sc_getX5 C0 hW ni_X5_check_X5 8 (Nat.le_of_ble_eq_true rfl) lk_X5_check_97 (v := .int (sc_gi S 2)) rfl dX5_check_1 ?_
  refine lv_if_ge (tgt := 10) hx hb dX5_check_4 (by decide) (fun hc => ?_) (fun hc => ?_)
  · replace hf := sc_ip hc hf
    refine lv_iconst (v := (0 : Int32)) hx hb dX5_check_10 (by decide) ?_
    refine lv_istore_n (lv' := [(1, .int (0 : Int32)), (0, .ref (h 0))]) hx hb dX5_check_11 rfl hl (by decide) rfl (fun ls hl => ?_)
    exact wk_X5_check_12 C0 hR  sc_FU _ _ _ _ _ hf hW (lv_sub hl [1, 0] rfl)
  · replace hf := sc_in hc hf
    refine lv_bipush (v := (-3 : Int32)) hx hb dX5_check_7 (by decide) ?_
    exact sc_reti hR hf hW dX5_check_9
set_option maxRecDepth 100000 in
theorem ct_X5_check {S S' : sc_M} {r : Int32} (hf : fn_X5_check S = some (r, S')) : sc_Ci l yX5_check wsX5_check rm_X5_check (sc_EM dC dI h cy) [.ref (h 0)] S S' r := by
  refine sc_ofi (cc := cX5_check) (maxL := 3) .int rfl sc_okM (by decide) rfl (Nat.le_of_ble_eq_true rfl) ?_
  intro p e s m below meth c Q C0 hR hW ls hl
  exact wk_X5_check_0 C0 hR _ _ _ _ hf hW hl
end

/-! ===== SeatCountsModel.rank(II)I ===== -/
abbrev rm_X5_rank : Room := { frames := 0, cells := 0, slots := 0, locals := 0 }
theorem lk_X5_rank_20 : Cond.fieldLink RX5 20 "SeatCountsModel" "wants" "[I" ∈ wsX5_rank := by decide +kernel
theorem lk_X5_rank_23 : Cond.fieldLink RX5 23 "SeatCountsModel" "want" "[I" ∈ wsX5_rank := by decide +kernel
theorem ni_X5_rank_X5 : ∀ w ∈ wsX50, w ∈ wsX5_rank := by decide +kernel
noncomputable def fn_X5_rank_6 : Nat → sc_M → Int32 → Int32 → Int32 → Int32 → Option (Int32 × sc_M)
  | 0, _, _, _, _, _ => none
  | n + 1, S, x1, x2, x3, x4 =>
    sc_ck x1 80 (if (sc_ga S 4 x1.toNatClampNeg) ≤ x4 then
      some (x3, S)
    else
      sc_ck (((12 : Int32) * x1) + x4) 960 (if (sc_ga S 5 (((12 : Int32) * x1) + x4).toNatClampNeg) = x2 then
        fn_X5_rank_6 n S x1 x2 x4 (x4 + 1)
      else
        fn_X5_rank_6 n S x1 x2 x3 (x4 + 1)))
noncomputable def fn_X5_rank (S : sc_M) (x1 : Int32) (x2 : Int32) : Option (Int32 × sc_M) :=
  fn_X5_rank_6 sc_FU S x1 x2 (12 : Int32) (0 : Int32)
section
variable {p : Program} {l : Launch} {e : Env} {s : State} {m : MethodId} {args : Array Value} {below : List Frame} {meth : Method} {c : Code} {Q : State → Prop} {dC : Nat → ClassId} {dI : Nat → Nat → Nat} {h : Nat → Nat} {cy : Nat → ClassId}
set_option maxHeartbeats 4000000 in
set_option maxRecDepth 100000 in
theorem wk_X5_rank_6 (C0 : CallFix p m c cX5_rank 5 s args wsX5_rank RX5) {S' : sc_M} {r : Int32} (hR : sc_Ri p l e rm_X5_rank s m args below meth c Q cX5_rank (sc_EM dC dI h cy) S' r) : ∀ n : Nat, ∀ (S : sc_M) (x1 : Int32) (x2 : Int32) (x3 : Int32) (x4 : Int32) (H : Heap) (locs : List Loc) (ls : Array Slot), fn_X5_rank_6 n S x1 x2 x3 x4 = some (r, S') → sc_W (sc_EM dC dI h cy) s H locs S → lv_has ls 5 [(0, .ref (h 0)), (1, .int x1), (2, .int x2), (3, .int x3), (4, .int x4)] → W p l e rm_X5_rank s m args below meth c H locs 0 0 Q (F0 m 6 ls []) := by
  obtain ⟨hx, hb, hml, hown, hts⟩ := id C0
  intro n
  induction n with
  | zero => intro S x1 x2 x3 x4 H locs ls; intro hf; cases hf
  | succ n ih =>
    intro S x1 x2 x3 x4 H locs ls hf hW hl
    rw [fn_X5_rank_6] at hf
    refine lv_iload hx hb dX5_rank_6 (lv_at hl 4 rfl) ?_
    refine lv_aload_n hx hb dX5_rank_8 rfl (lv_at hl 0 rfl) ?_
    refine sc_getX5 C0 hW ni_X5_rank_X5 5 (Nat.le_of_ble_eq_true rfl) lk_X5_rank_20 (v := .ref (h 4)) rfl dX5_rank_9 ?_
    refine lv_iload_n hx hb dX5_rank_12 rfl (lv_at hl 1 rfl) ?_
    obtain ⟨hv, hf⟩ := sc_ck_s hf
    refine sc_ldM_4 C0 hW hv dX5_rank_13 ?_
    refine lv_icmp_ge (tgt := 46) hx hb dX5_rank_14 (by decide) (fun hc => ?_) (fun hc => ?_)
    · replace hf := sc_ip hc hf
      refine lv_iload_n hx hb dX5_rank_46 rfl (lv_at hl 3 rfl) ?_
      exact sc_reti hR hf hW dX5_rank_47
    · replace hf := sc_in hc hf
      refine lv_aload_n hx hb dX5_rank_17 rfl (lv_at hl 0 rfl) ?_
      refine sc_getX5 C0 hW ni_X5_rank_X5 6 (Nat.le_of_ble_eq_true rfl) lk_X5_rank_23 (v := .ref (h 5)) rfl dX5_rank_18 ?_
      refine lv_bipush (v := (12 : Int32)) hx hb dX5_rank_21 (by decide) ?_
      refine lv_iload_n hx hb dX5_rank_23 rfl (lv_at hl 1 rfl) ?_
      refine lv_imul hx hb dX5_rank_24 ?_
      refine lv_iload hx hb dX5_rank_25 (lv_at hl 4 rfl) ?_
      refine lv_iadd hx hb dX5_rank_27 ?_
      obtain ⟨hv, hf⟩ := sc_ck_s hf
      refine sc_ldM_5 C0 hW hv dX5_rank_28 ?_
      refine lv_iload_n hx hb dX5_rank_29 rfl (lv_at hl 2 rfl) ?_
      refine lv_icmp_ne (tgt := 38) hx hb dX5_rank_30 (by decide) (fun hc => ?_) (fun hc => ?_)
      · replace hf := sc_in hc hf
        refine lv_iload_n hx hb dX5_rank_38 rfl (lv_at hl 3 rfl) ?_
        refine lv_istore_n (lv' := [(3, .int x3), (0, .ref (h 0)), (1, .int x1), (2, .int x2), (4, .int x4)]) hx hb dX5_rank_39 rfl hl (by decide) rfl (fun ls hl => ?_)
        refine lv_iinc (v := (x4 + 1)) (lv' := [(4, .int (x4 + 1)), (3, .int x3), (0, .ref (h 0)), (1, .int x1), (2, .int x2)]) hx hb dX5_rank_40 hl (k := 4) rfl rfl (by decide) rfl (fun ls hl => ?_)
        refine lv_goto (tgt := 6) hx hb dX5_rank_43 (by decide) ?_
        exact ih _ _ _ _ _ _ _ _ hf hW (lv_sub hl [2, 3, 4, 1, 0] rfl)
      · replace hf := sc_ip hc hf
        refine lv_iload hx hb dX5_rank_33 (lv_at hl 4 rfl) ?_
        refine lv_goto (tgt := 39) hx hb dX5_rank_35 (by decide) ?_
        refine lv_istore_n (lv' := [(3, .int x4), (0, .ref (h 0)), (1, .int x1), (2, .int x2), (4, .int x4)]) hx hb dX5_rank_39 rfl hl (by decide) rfl (fun ls hl => ?_)
        refine lv_iinc (v := (x4 + 1)) (lv' := [(4, .int (x4 + 1)), (3, .int x4), (0, .ref (h 0)), (1, .int x1), (2, .int x2)]) hx hb dX5_rank_40 hl (k := 4) rfl rfl (by decide) rfl (fun ls hl => ?_)
        refine lv_goto (tgt := 6) hx hb dX5_rank_43 (by decide) ?_
        exact ih _ _ _ _ _ _ _ _ hf hW (lv_sub hl [2, 3, 4, 1, 0] rfl)
set_option maxHeartbeats 4000000 in
set_option maxRecDepth 100000 in
theorem wk_X5_rank_0 (C0 : CallFix p m c cX5_rank 5 s args wsX5_rank RX5) {S' : sc_M} {r : Int32} (hR : sc_Ri p l e rm_X5_rank s m args below meth c Q cX5_rank (sc_EM dC dI h cy) S' r) : ∀ (S : sc_M) (x1 : Int32) (x2 : Int32) (H : Heap) (locs : List Loc) (ls : Array Slot), fn_X5_rank S x1 x2 = some (r, S') → sc_W (sc_EM dC dI h cy) s H locs S → lv_has ls 5 [(0, .ref (h 0)), (1, .int x1), (2, .int x2)] → W p l e rm_X5_rank s m args below meth c H locs 0 0 Q (F0 m 0 ls []) := by
  obtain ⟨hx, hb, hml, hown, hts⟩ := id C0
  intro S x1 x2 H locs ls hf hW hl
  rw [fn_X5_rank] at hf
  refine lv_bipush (v := (12 : Int32)) hx hb dX5_rank_0 (by decide) ?_
  refine lv_istore_n (lv' := [(3, .int (12 : Int32)), (0, .ref (h 0)), (1, .int x1), (2, .int x2)]) hx hb dX5_rank_2 rfl hl (by decide) rfl (fun ls hl => ?_)
  refine lv_iconst (v := (0 : Int32)) hx hb dX5_rank_3 (by decide) ?_
  refine lv_istore (lv' := [(4, .int (0 : Int32)), (3, .int (12 : Int32)), (0, .ref (h 0)), (1, .int x1), (2, .int x2)]) hx hb dX5_rank_4 hl (by decide) rfl (fun ls hl => ?_)
  exact wk_X5_rank_6 C0 hR  sc_FU _ _ _ _ _ _ _ _ hf hW (lv_sub hl [2, 3, 4, 1, 0] rfl)
set_option maxRecDepth 100000 in
theorem ct_X5_rank {S S' : sc_M} {r : Int32} {x1 : Int32} {x2 : Int32} (hf : fn_X5_rank S x1 x2 = some (r, S')) : sc_Ci l yX5_rank wsX5_rank rm_X5_rank (sc_EM dC dI h cy) [.ref (h 0), .int x1, .int x2] S S' r := by
  refine sc_ofi (cc := cX5_rank) (maxL := 5) .int rfl sc_okM (by decide) rfl (Nat.le_of_ble_eq_true rfl) ?_
  intro p e s m below meth c Q C0 hR hW ls hl
  exact wk_X5_rank_0 C0 hR _ _ _ _ _ _ hf hW hl
end

/-! ===== SeatCountsModel.preferring(II)I ===== -/
abbrev rm_X5_preferring : Room := { frames := 1, cells := 0, slots := 0, locals := 24 }
theorem lk_X5_preferring_104 : Cond.fieldLink RX5 104 "SeatCountsModel" "piles" "I" ∈ wsX5_preferring := by decide +kernel
theorem lk_X5_preferring_17 : Cond.fieldLink RX5 17 "SeatCountsModel" "papers" "[I" ∈ wsX5_preferring := by decide +kernel
theorem ni_X5_preferring_X5 : ∀ w ∈ wsX50, w ∈ wsX5_preferring := by decide +kernel
noncomputable def fn_X5_preferring_5 : Nat → sc_M → Int32 → Int32 → Int32 → Int32 → Option (Int32 × sc_M)
  | 0, _, _, _, _, _ => none
  | n + 1, S, x1, x2, x3, x4 =>
    if (sc_gi S 1) ≤ x4 then
      some (x3, S)
    else
      sc_cl (fn_X5_rank S x4 x1) (fun r19 S19 => sc_cl (fn_X5_rank S19 x4 x2) (fun r26 S26 => if r26 ≤ r19 then
        sc_sq ((x3 + (0 : Int32))) (fun y44 => fn_X5_preferring_5 n S26 x1 x2 y44 (x4 + 1))
      else
        sc_ck x4 80 (sc_sq ((x3 + (sc_ga S26 3 x4.toNatClampNeg))) (fun y44 => fn_X5_preferring_5 n S26 x1 x2 y44 (x4 + 1)))))
noncomputable def fn_X5_preferring (S : sc_M) (x1 : Int32) (x2 : Int32) : Option (Int32 × sc_M) :=
  fn_X5_preferring_5 sc_FU S x1 x2 (0 : Int32) (0 : Int32)
section
variable {p : Program} {l : Launch} {e : Env} {s : State} {m : MethodId} {args : Array Value} {below : List Frame} {meth : Method} {c : Code} {Q : State → Prop} {dC : Nat → ClassId} {dI : Nat → Nat → Nat} {h : Nat → Nat} {cy : Nat → ClassId}
set_option maxHeartbeats 4000000 in
set_option maxRecDepth 100000 in
theorem wk_X5_preferring_5 (C0 : CallFix p m c cX5_preferring 5 s args wsX5_preferring RX5) {S' : sc_M} {r : Int32} (hR : sc_Ri p l e rm_X5_preferring s m args below meth c Q cX5_preferring (sc_EM dC dI h cy) S' r) : ∀ n : Nat, ∀ (S : sc_M) (x1 : Int32) (x2 : Int32) (x3 : Int32) (x4 : Int32) (H : Heap) (locs : List Loc) (ls : Array Slot), fn_X5_preferring_5 n S x1 x2 x3 x4 = some (r, S') → sc_W (sc_EM dC dI h cy) s H locs S → lv_has ls 5 [(0, .ref (h 0)), (1, .int x1), (2, .int x2), (3, .int x3), (4, .int x4)] → W p l e rm_X5_preferring s m args below meth c H locs 0 0 Q (F0 m 5 ls []) := by
  obtain ⟨hx, hb, hml, hown, hts⟩ := id C0
  intro n
  induction n with
  | zero => intro S x1 x2 x3 x4 H locs ls; intro hf; cases hf
  | succ n ih =>
    intro S x1 x2 x3 x4 H locs ls hf hW hl
    rw [fn_X5_preferring_5] at hf
    refine lv_iload hx hb dX5_preferring_5 (lv_at hl 4 rfl) ?_
    refine lv_aload_n hx hb dX5_preferring_7 rfl (lv_at hl 0 rfl) ?_
    refine sc_getX5 C0 hW ni_X5_preferring_X5 3 (Nat.le_of_ble_eq_true rfl) lk_X5_preferring_104 (v := .int (sc_gi S 1)) rfl dX5_preferring_8 ?_
    refine lv_icmp_ge (tgt := 51) hx hb dX5_preferring_11 (by decide) (fun hc => ?_) (fun hc => ?_)
    · replace hf := sc_ip hc hf
      refine lv_iload_n hx hb dX5_preferring_51 rfl (lv_at hl 3 rfl) ?_
      exact sc_reti hR hf hW dX5_preferring_52
    · replace hf := sc_in hc hf
      refine lv_iload_n hx hb dX5_preferring_14 rfl (lv_at hl 3 rfl) ?_
      refine lv_aload_n hx hb dX5_preferring_15 rfl (lv_at hl 0 rfl) ?_
      refine lv_iload hx hb dX5_preferring_16 (lv_at hl 4 rfl) ?_
      refine lv_iload_n hx hb dX5_preferring_18 rfl (lv_at hl 1 rfl) ?_
      obtain ⟨r19, S19, hc, hf⟩ := sc_cl_s hf
      refine sc_callVi (As := [.int x4, .int x1]) (rest := [.int x3]) (q0 := 0) (ci := 4) sc_okM C0 hW (ct_X5_rank hc) (cwV 2 hts gX5_preferring_X5_rank rfl rfl rfl (by decide +kernel) ⟨Nat.le_of_ble_eq_true rfl, Nat.le_of_ble_eq_true rfl⟩) rfl rfl rfl rfl hl.1 rfl (Nat.le_of_ble_eq_true rfl) dX5_preferring_19 (fun H locs hW => ?_)
      refine lv_aload_n hx hb dX5_preferring_22 rfl (lv_at hl 0 rfl) ?_
      refine lv_iload hx hb dX5_preferring_23 (lv_at hl 4 rfl) ?_
      refine lv_iload_n hx hb dX5_preferring_25 rfl (lv_at hl 2 rfl) ?_
      obtain ⟨r26, S26, hc, hf⟩ := sc_cl_s hf
      refine sc_callVi (As := [.int x4, .int x2]) (rest := [.int r19, .int x3]) (q0 := 0) (ci := 4) sc_okM C0 hW (ct_X5_rank hc) (cwV 2 hts gX5_preferring_X5_rank rfl rfl rfl (by decide +kernel) ⟨Nat.le_of_ble_eq_true rfl, Nat.le_of_ble_eq_true rfl⟩) rfl rfl rfl rfl hl.1 rfl (Nat.le_of_ble_eq_true rfl) dX5_preferring_26 (fun H locs hW => ?_)
      refine lv_icmp_ge (tgt := 42) hx hb dX5_preferring_29 (by decide) (fun hc => ?_) (fun hc => ?_)
      · replace hf := sc_ip hc hf
        refine lv_iconst (v := (0 : Int32)) hx hb dX5_preferring_42 (by decide) ?_
        refine lv_iadd hx hb dX5_preferring_43 ?_
        obtain ⟨y44, ey44, hf⟩ := sc_sq_s hf
        refine sc_topi ey44 ?_
        refine lv_istore_n (lv' := [(3, .int y44), (0, .ref (h 0)), (1, .int x1), (2, .int x2), (4, .int x4)]) hx hb dX5_preferring_44 rfl hl (by decide) rfl (fun ls hl => ?_)
        refine lv_iinc (v := (x4 + 1)) (lv' := [(4, .int (x4 + 1)), (3, .int y44), (0, .ref (h 0)), (1, .int x1), (2, .int x2)]) hx hb dX5_preferring_45 hl (k := 4) rfl rfl (by decide) rfl (fun ls hl => ?_)
        refine lv_goto (tgt := 5) hx hb dX5_preferring_48 (by decide) ?_
        exact ih _ _ _ _ _ _ _ _ hf hW (lv_sub hl [2, 3, 4, 1, 0] rfl)
      · replace hf := sc_in hc hf
        refine lv_aload_n hx hb dX5_preferring_32 rfl (lv_at hl 0 rfl) ?_
        refine sc_getX5 C0 hW ni_X5_preferring_X5 4 (Nat.le_of_ble_eq_true rfl) lk_X5_preferring_17 (v := .ref (h 3)) rfl dX5_preferring_33 ?_
        refine lv_iload hx hb dX5_preferring_36 (lv_at hl 4 rfl) ?_
        obtain ⟨hv, hf⟩ := sc_ck_s hf
        refine sc_ldM_3 C0 hW hv dX5_preferring_38 ?_
        refine lv_goto (tgt := 43) hx hb dX5_preferring_39 (by decide) ?_
        refine lv_iadd hx hb dX5_preferring_43 ?_
        obtain ⟨y44, ey44, hf⟩ := sc_sq_s hf
        refine sc_topi ey44 ?_
        refine lv_istore_n (lv' := [(3, .int y44), (0, .ref (h 0)), (1, .int x1), (2, .int x2), (4, .int x4)]) hx hb dX5_preferring_44 rfl hl (by decide) rfl (fun ls hl => ?_)
        refine lv_iinc (v := (x4 + 1)) (lv' := [(4, .int (x4 + 1)), (3, .int y44), (0, .ref (h 0)), (1, .int x1), (2, .int x2)]) hx hb dX5_preferring_45 hl (k := 4) rfl rfl (by decide) rfl (fun ls hl => ?_)
        refine lv_goto (tgt := 5) hx hb dX5_preferring_48 (by decide) ?_
        exact ih _ _ _ _ _ _ _ _ hf hW (lv_sub hl [2, 3, 4, 1, 0] rfl)
set_option maxHeartbeats 4000000 in
set_option maxRecDepth 100000 in
theorem wk_X5_preferring_0 (C0 : CallFix p m c cX5_preferring 5 s args wsX5_preferring RX5) {S' : sc_M} {r : Int32} (hR : sc_Ri p l e rm_X5_preferring s m args below meth c Q cX5_preferring (sc_EM dC dI h cy) S' r) : ∀ (S : sc_M) (x1 : Int32) (x2 : Int32) (H : Heap) (locs : List Loc) (ls : Array Slot), fn_X5_preferring S x1 x2 = some (r, S') → sc_W (sc_EM dC dI h cy) s H locs S → lv_has ls 5 [(0, .ref (h 0)), (1, .int x1), (2, .int x2)] → W p l e rm_X5_preferring s m args below meth c H locs 0 0 Q (F0 m 0 ls []) := by
  obtain ⟨hx, hb, hml, hown, hts⟩ := id C0
  intro S x1 x2 H locs ls hf hW hl
  rw [fn_X5_preferring] at hf
  refine lv_iconst (v := (0 : Int32)) hx hb dX5_preferring_0 (by decide) ?_
  refine lv_istore_n (lv' := [(3, .int (0 : Int32)), (0, .ref (h 0)), (1, .int x1), (2, .int x2)]) hx hb dX5_preferring_1 rfl hl (by decide) rfl (fun ls hl => ?_)
  refine lv_iconst (v := (0 : Int32)) hx hb dX5_preferring_2 (by decide) ?_
  refine lv_istore (lv' := [(4, .int (0 : Int32)), (3, .int (0 : Int32)), (0, .ref (h 0)), (1, .int x1), (2, .int x2)]) hx hb dX5_preferring_3 hl (by decide) rfl (fun ls hl => ?_)
  exact wk_X5_preferring_5 C0 hR  sc_FU _ _ _ _ _ _ _ _ hf hW (lv_sub hl [2, 3, 4, 1, 0] rfl)
set_option maxRecDepth 100000 in
theorem ct_X5_preferring {S S' : sc_M} {r : Int32} {x1 : Int32} {x2 : Int32} (hf : fn_X5_preferring S x1 x2 = some (r, S')) : sc_Ci l yX5_preferring wsX5_preferring rm_X5_preferring (sc_EM dC dI h cy) [.ref (h 0), .int x1, .int x2] S S' r := by
  refine sc_ofi (cc := cX5_preferring) (maxL := 5) .int rfl sc_okM (by decide) rfl (Nat.le_of_ble_eq_true rfl) ?_
  intro p e s m below meth c Q C0 hR hW ls hl
  exact wk_X5_preferring_0 C0 hR _ _ _ _ _ _ hf hW hl
end

/-! ===== SeatCountsModel.beats(II)Z ===== -/
abbrev rm_X5_beats : Room := { frames := 2, cells := 0, slots := 0, locals := 48 }
theorem lk_X5_beats_7 : Cond.fieldLink RX5 7 "SeatCountsModel" "isWithdrawn" "[Z" ∈ wsX5_beats := by decide +kernel
theorem ni_X5_beats_X5 : ∀ w ∈ wsX50, w ∈ wsX5_beats := by decide +kernel
noncomputable def fn_X5_beats_e (S : sc_M) (x1 : Int32) (x2 : Int32) : Option (Int32 × sc_M) :=
  if x1 = x2 then
    some ((0 : Int32), S)
  else
    sc_ck x1 12 (if (sc_ga S 1 x1.toNatClampNeg) = 0 then
      sc_ck x2 12 (if (sc_ga S 1 x2.toNatClampNeg) = 0 then
        sc_cl (fn_X5_preferring S x1 x2) (fun r26 S26 => sc_cl (fn_X5_preferring S26 x2 x1) (fun r32 S32 => if r26 ≤ r32 then
          some ((0 : Int32), S32)
        else
          some ((1 : Int32), S32)))
      else
        some ((0 : Int32), S))
    else
      some ((0 : Int32), S))
noncomputable def fn_X5_beats (S : sc_M) (x1 : Int32) (x2 : Int32) : Option (Int32 × sc_M) := sc_bz (fn_X5_beats_e S x1 x2)
section
variable {p : Program} {l : Launch} {e : Env} {s : State} {m : MethodId} {args : Array Value} {below : List Frame} {meth : Method} {c : Code} {Q : State → Prop} {dC : Nat → ClassId} {dI : Nat → Nat → Nat} {h : Nat → Nat} {cy : Nat → ClassId}
set_option maxHeartbeats 4000000 in
set_option maxRecDepth 100000 in
theorem wk_X5_beats_0 (C0 : CallFix p m c cX5_beats 3 s args wsX5_beats RX5) {S' : sc_M} {r : Int32} (hR : sc_Ri p l e rm_X5_beats s m args below meth c Q cX5_beats (sc_EM dC dI h cy) S' r) : ∀ (S : sc_M) (x1 : Int32) (x2 : Int32) (H : Heap) (locs : List Loc) (ls : Array Slot), fn_X5_beats_e S x1 x2 = some (r, S') → sc_W (sc_EM dC dI h cy) s H locs S → lv_has ls 3 [(0, .ref (h 0)), (1, .int x1), (2, .int x2)] → W p l e rm_X5_beats s m args below meth c H locs 0 0 Q (F0 m 0 ls []) := by
  obtain ⟨hx, hb, hml, hown, hts⟩ := id C0
  intro S x1 x2 H locs ls hf hW hl
  rw [fn_X5_beats_e] at hf
  refine lv_iload_n hx hb dX5_beats_0 rfl (lv_at hl 1 rfl) ?_
  refine lv_iload_n hx hb dX5_beats_1 rfl (lv_at hl 2 rfl) ?_
  refine lv_icmp_eq (tgt := 42) hx hb dX5_beats_2 (by decide) (fun hc => ?_) (fun hc => ?_)
  · replace hf := sc_ip hc hf
    refine lv_iconst (v := (0 : Int32)) hx hb dX5_beats_42 (by decide) ?_
    exact sc_reti hR hf hW dX5_beats_43
  · replace hf := sc_in hc hf
    refine lv_aload_n hx hb dX5_beats_5 rfl (lv_at hl 0 rfl) ?_
    refine sc_getX5 C0 hW ni_X5_beats_X5 1 (Nat.le_of_ble_eq_true rfl) lk_X5_beats_7 (v := .ref (h 1)) rfl dX5_beats_6 ?_
    refine lv_iload_n hx hb dX5_beats_9 rfl (lv_at hl 1 rfl) ?_
    obtain ⟨hv, hf⟩ := sc_ck_s hf
    refine sc_ldM_1 C0 hW hv dX5_beats_10 ?_
    refine lv_if_ne (tgt := 42) hx hb dX5_beats_11 (by decide) (fun hc => ?_) (fun hc => ?_)
    · replace hf := sc_in hc hf
      refine lv_iconst (v := (0 : Int32)) hx hb dX5_beats_42 (by decide) ?_
      exact sc_reti hR hf hW dX5_beats_43
    · replace hf := sc_ip hc hf
      refine lv_aload_n hx hb dX5_beats_14 rfl (lv_at hl 0 rfl) ?_
      refine sc_getX5 C0 hW ni_X5_beats_X5 1 (Nat.le_of_ble_eq_true rfl) lk_X5_beats_7 (v := .ref (h 1)) rfl dX5_beats_15 ?_
      refine lv_iload_n hx hb dX5_beats_18 rfl (lv_at hl 2 rfl) ?_
      obtain ⟨hv, hf⟩ := sc_ck_s hf
      refine sc_ldM_1 C0 hW hv dX5_beats_19 ?_
      refine lv_if_ne (tgt := 42) hx hb dX5_beats_20 (by decide) (fun hc => ?_) (fun hc => ?_)
      · replace hf := sc_in hc hf
        refine lv_iconst (v := (0 : Int32)) hx hb dX5_beats_42 (by decide) ?_
        exact sc_reti hR hf hW dX5_beats_43
      · replace hf := sc_ip hc hf
        refine lv_aload_n hx hb dX5_beats_23 rfl (lv_at hl 0 rfl) ?_
        refine lv_iload_n hx hb dX5_beats_24 rfl (lv_at hl 1 rfl) ?_
        refine lv_iload_n hx hb dX5_beats_25 rfl (lv_at hl 2 rfl) ?_
        obtain ⟨r26, S26, hc, hf⟩ := sc_cl_s hf
        refine sc_callVi (As := [.int x1, .int x2]) (rest := []) (q0 := 0) (ci := 4) sc_okM C0 hW (ct_X5_preferring hc) (cwV 2 hts gX5_beats_X5_preferring rfl rfl rfl (by decide +kernel) ⟨Nat.le_of_ble_eq_true rfl, Nat.le_of_ble_eq_true rfl⟩) rfl rfl rfl rfl hl.1 rfl (Nat.le_of_ble_eq_true rfl) dX5_beats_26 (fun H locs hW => ?_)
        refine lv_aload_n hx hb dX5_beats_29 rfl (lv_at hl 0 rfl) ?_
        refine lv_iload_n hx hb dX5_beats_30 rfl (lv_at hl 2 rfl) ?_
        refine lv_iload_n hx hb dX5_beats_31 rfl (lv_at hl 1 rfl) ?_
        obtain ⟨r32, S32, hc, hf⟩ := sc_cl_s hf
        refine sc_callVi (As := [.int x2, .int x1]) (rest := [.int r26]) (q0 := 0) (ci := 4) sc_okM C0 hW (ct_X5_preferring hc) (cwV 2 hts gX5_beats_X5_preferring rfl rfl rfl (by decide +kernel) ⟨Nat.le_of_ble_eq_true rfl, Nat.le_of_ble_eq_true rfl⟩) rfl rfl rfl rfl hl.1 rfl (Nat.le_of_ble_eq_true rfl) dX5_beats_32 (fun H locs hW => ?_)
        refine lv_icmp_le (tgt := 42) hx hb dX5_beats_35 (by decide) (fun hc => ?_) (fun hc => ?_)
        · replace hf := sc_ip hc hf
          refine lv_iconst (v := (0 : Int32)) hx hb dX5_beats_42 (by decide) ?_
          exact sc_reti hR hf hW dX5_beats_43
        · replace hf := sc_in hc hf
          refine lv_iconst (v := (1 : Int32)) hx hb dX5_beats_38 (by decide) ?_
          refine lv_goto (tgt := 43) hx hb dX5_beats_39 (by decide) ?_
          exact sc_reti hR hf hW dX5_beats_43
set_option maxRecDepth 100000 in
theorem ct_X5_beats {S S' : sc_M} {r : Int32} {x1 : Int32} {x2 : Int32} (hf : fn_X5_beats S x1 x2 = some (r, S')) : sc_Ci l yX5_beats wsX5_beats rm_X5_beats (sc_EM dC dI h cy) [.ref (h 0), .int x1, .int x2] S S' r := by
  obtain ⟨hf, h01⟩ := sc_bz_s hf
  refine sc_ofi (cc := cX5_beats) (maxL := 3) .boolean (sc_nar01 h01) sc_okM (by decide) rfl (Nat.le_of_ble_eq_true rfl) ?_
  intro p e s m below meth c Q C0 hR hW ls hl
  exact wk_X5_beats_0 C0 hR _ _ _ _ _ _ hf hW hl
end

/-! ===== SeatCountsModel.prefer(II)I ===== -/
abbrev rm_X5_prefer : Room := { frames := 2, cells := 0, slots := 0, locals := 48 }
noncomputable def fn_X5_prefer (S : sc_M) (x1 : Int32) (x2 : Int32) : Option (Int32 × sc_M) :=
  sc_cl (fn_X5_noOne S x1) (fun r2 S2 => if r2 = 0 then
    sc_cl (fn_X5_noOne S2 x2) (fun r10 S10 => if r10 = 0 then
      if x1 = x2 then
        some ((-3 : Int32), S10)
      else
        sc_cl (fn_X5_preferring S10 x1 x2) (fun r31 S31 => some (r31, S31))
    else
      some ((-1 : Int32), S10))
  else
    some ((-1 : Int32), S2))
section
variable {p : Program} {l : Launch} {e : Env} {s : State} {m : MethodId} {args : Array Value} {below : List Frame} {meth : Method} {c : Code} {Q : State → Prop} {dC : Nat → ClassId} {dI : Nat → Nat → Nat} {h : Nat → Nat} {cy : Nat → ClassId}
set_option maxHeartbeats 4000000 in
set_option maxRecDepth 100000 in
theorem wk_X5_prefer_0 (C0 : CallFix p m c cX5_prefer 3 s args wsX5_prefer RX5) {S' : sc_M} {r : Int32} (hR : sc_Ri p l e rm_X5_prefer s m args below meth c Q cX5_prefer (sc_EM dC dI h cy) S' r) : ∀ (S : sc_M) (x1 : Int32) (x2 : Int32) (H : Heap) (locs : List Loc) (ls : Array Slot), fn_X5_prefer S x1 x2 = some (r, S') → sc_W (sc_EM dC dI h cy) s H locs S → lv_has ls 3 [(0, .ref (h 0)), (1, .int x1), (2, .int x2)] → W p l e rm_X5_prefer s m args below meth c H locs 0 0 Q (F0 m 0 ls []) := by
  obtain ⟨hx, hb, hml, hown, hts⟩ := id C0
  intro S x1 x2 H locs ls hf hW hl
  rw [fn_X5_prefer] at hf
  refine lv_aload_n hx hb dX5_prefer_0 rfl (lv_at hl 0 rfl) ?_
  refine lv_iload_n hx hb dX5_prefer_1 rfl (lv_at hl 1 rfl) ?_
  obtain ⟨r2, S2, hc, hf⟩ := sc_cl_s hf
  refine sc_callVi (As := [.int x1]) (rest := []) (q0 := 0) (ci := 4) sc_okM C0 hW (ct_X5_noOne hc) (cwV 1 hts gX5_prefer_X5_noOne rfl rfl rfl (by decide +kernel) ⟨Nat.le_of_ble_eq_true rfl, Nat.le_of_ble_eq_true rfl⟩) rfl rfl rfl rfl hl.1 rfl (Nat.le_of_ble_eq_true rfl) dX5_prefer_2 (fun H locs hW => ?_)
  refine lv_if_ne (tgt := 16) hx hb dX5_prefer_5 (by decide) (fun hc => ?_) (fun hc => ?_)
  · replace hf := sc_in hc hf
    refine lv_iconst (v := (-1 : Int32)) hx hb dX5_prefer_16 (by decide) ?_
    exact sc_reti hR hf hW dX5_prefer_17
  · replace hf := sc_ip hc hf
    refine lv_aload_n hx hb dX5_prefer_8 rfl (lv_at hl 0 rfl) ?_
    refine lv_iload_n hx hb dX5_prefer_9 rfl (lv_at hl 2 rfl) ?_
    obtain ⟨r10, S10, hc, hf⟩ := sc_cl_s hf
    refine sc_callVi (As := [.int x2]) (rest := []) (q0 := 0) (ci := 4) sc_okM C0 hW (ct_X5_noOne hc) (cwV 1 hts gX5_prefer_X5_noOne rfl rfl rfl (by decide +kernel) ⟨Nat.le_of_ble_eq_true rfl, Nat.le_of_ble_eq_true rfl⟩) rfl rfl rfl rfl hl.1 rfl (Nat.le_of_ble_eq_true rfl) dX5_prefer_10 (fun H locs hW => ?_)
    refine lv_if_eq (tgt := 18) hx hb dX5_prefer_13 (by decide) (fun hc => ?_) (fun hc => ?_)
    · replace hf := sc_ip hc hf
      refine lv_iload_n hx hb dX5_prefer_18 rfl (lv_at hl 1 rfl) ?_
      refine lv_iload_n hx hb dX5_prefer_19 rfl (lv_at hl 2 rfl) ?_
      refine lv_icmp_ne (tgt := 28) hx hb dX5_prefer_20 (by decide) (fun hc => ?_) (fun hc => ?_)
      · replace hf := sc_in hc hf
        refine lv_aload_n hx hb dX5_prefer_28 rfl (lv_at hl 0 rfl) ?_
        refine lv_iload_n hx hb dX5_prefer_29 rfl (lv_at hl 1 rfl) ?_
        refine lv_iload_n hx hb dX5_prefer_30 rfl (lv_at hl 2 rfl) ?_
        obtain ⟨r31, S31, hc, hf⟩ := sc_cl_s hf
        refine sc_callVi (As := [.int x1, .int x2]) (rest := []) (q0 := 0) (ci := 4) sc_okM C0 hW (ct_X5_preferring hc) (cwV 2 hts gX5_prefer_X5_preferring rfl rfl rfl (by decide +kernel) ⟨Nat.le_of_ble_eq_true rfl, Nat.le_of_ble_eq_true rfl⟩) rfl rfl rfl rfl hl.1 rfl (Nat.le_of_ble_eq_true rfl) dX5_prefer_31 (fun H locs hW => ?_)
        exact sc_reti hR hf hW dX5_prefer_34
      · replace hf := sc_ip hc hf
        refine lv_bipush (v := (-3 : Int32)) hx hb dX5_prefer_23 (by decide) ?_
        refine lv_goto (tgt := 34) hx hb dX5_prefer_25 (by decide) ?_
        exact sc_reti hR hf hW dX5_prefer_34
    · replace hf := sc_in hc hf
      refine lv_iconst (v := (-1 : Int32)) hx hb dX5_prefer_16 (by decide) ?_
      exact sc_reti hR hf hW dX5_prefer_17
set_option maxRecDepth 100000 in
theorem ct_X5_prefer {S S' : sc_M} {r : Int32} {x1 : Int32} {x2 : Int32} (hf : fn_X5_prefer S x1 x2 = some (r, S')) : sc_Ci l yX5_prefer wsX5_prefer rm_X5_prefer (sc_EM dC dI h cy) [.ref (h 0), .int x1, .int x2] S S' r := by
  refine sc_ofi (cc := cX5_prefer) (maxL := 3) .int rfl sc_okM (by decide) rfl (Nat.le_of_ble_eq_true rfl) ?_
  intro p e s m below meth c Q C0 hR hW ls hl
  exact wk_X5_prefer_0 C0 hR _ _ _ _ _ _ hf hW hl
end

/-! ===== SeatCountsModel.winner()I ===== -/
abbrev rm_X5_winner : Room := { frames := 3, cells := 0, slots := 0, locals := 70 }
theorem lk_X5_winner_101 : Cond.fieldLink RX5 101 "SeatCountsModel" "many" "I" ∈ wsX5_winner := by decide +kernel
theorem lk_X5_winner_7 : Cond.fieldLink RX5 7 "SeatCountsModel" "isWithdrawn" "[Z" ∈ wsX5_winner := by decide +kernel
theorem ni_X5_winner_X5 : ∀ w ∈ wsX50, w ∈ wsX5_winner := by decide +kernel
noncomputable def fn_X5_winner_74 (k2 : sc_M → Int32 → Option (Int32 × sc_M)) (S : sc_M) (x1 : Int32) (x2 : Int32) : Option (Int32 × sc_M) :=
  if x2 = 0 then
    k2 S (x1 + 1)
  else
    some (x1, S)
noncomputable def fn_X5_winner_27 (k2 : sc_M → Int32 → Option (Int32 × sc_M)) : Nat → sc_M → Int32 → Int32 → Int32 → Option (Int32 × sc_M)
  | 0, _, _, _, _ => none
  | n + 1, S, x1, x2, x3 =>
    if (sc_gi S 0) ≤ x3 then
      fn_X5_winner_74 k2 S x1 x2
    else
      if x2 = 0 then
        fn_X5_winner_74 k2 S x1 x2
      else
        if x1 = x3 then
          fn_X5_winner_27 k2 n S x1 (1 : Int32) (x3 + 1)
        else
          sc_ck x3 12 (if (sc_ga S 1 x3.toNatClampNeg) = 0 then
            sc_cl (fn_X5_beats S x1 x3) (fun r56 S56 => if r56 = 0 then
              fn_X5_winner_27 k2 n S56 x1 (0 : Int32) (x3 + 1)
            else
              fn_X5_winner_27 k2 n S56 x1 (1 : Int32) (x3 + 1))
          else
            fn_X5_winner_27 k2 n S x1 (1 : Int32) (x3 + 1))
noncomputable def fn_X5_winner_2 : Nat → sc_M → Int32 → Option (Int32 × sc_M)
  | 0, _, _ => none
  | n + 1, S, x1 =>
    if (sc_gi S 0) ≤ x1 then
      some ((-9 : Int32), S)
    else
      sc_ck x1 12 (if (sc_ga S 1 x1.toNatClampNeg) = 0 then
        fn_X5_winner_27 (fn_X5_winner_2 n) sc_FU S x1 (1 : Int32) (0 : Int32)
      else
        fn_X5_winner_27 (fn_X5_winner_2 n) sc_FU S x1 (0 : Int32) (0 : Int32))
noncomputable def fn_X5_winner (S : sc_M) : Option (Int32 × sc_M) :=
  fn_X5_winner_2 sc_FU S (0 : Int32)
section
variable {p : Program} {l : Launch} {e : Env} {s : State} {m : MethodId} {args : Array Value} {below : List Frame} {meth : Method} {c : Code} {Q : State → Prop} {dC : Nat → ClassId} {dI : Nat → Nat → Nat} {h : Nat → Nat} {cy : Nat → ClassId}
set_option maxHeartbeats 4000000 in
set_option maxRecDepth 100000 in
theorem wk_X5_winner_74 (C0 : CallFix p m c cX5_winner 4 s args wsX5_winner RX5) {S' : sc_M} {r : Int32} (hR : sc_Ri p l e rm_X5_winner s m args below meth c Q cX5_winner (sc_EM dC dI h cy) S' r) {k2 : sc_M → Int32 → Option (Int32 × sc_M)} (hk2 : ∀ (S : sc_M) (x1 : Int32) (H : Heap) (locs : List Loc) (ls : Array Slot), k2 S x1 = some (r, S') → sc_W (sc_EM dC dI h cy) s H locs S → lv_has ls 4 [(0, .ref (h 0)), (1, .int x1)] → W p l e rm_X5_winner s m args below meth c H locs 0 0 Q (F0 m 2 ls [])) : ∀ (S : sc_M) (x1 : Int32) (x2 : Int32) (H : Heap) (locs : List Loc) (ls : Array Slot), fn_X5_winner_74 k2 S x1 x2 = some (r, S') → sc_W (sc_EM dC dI h cy) s H locs S → lv_has ls 4 [(0, .ref (h 0)), (1, .int x1), (2, .int x2)] → W p l e rm_X5_winner s m args below meth c H locs 0 0 Q (F0 m 74 ls []) := by
  obtain ⟨hx, hb, hml, hown, hts⟩ := id C0
  intro S x1 x2 H locs ls hf hW hl
  rw [fn_X5_winner_74] at hf
  refine lv_iload_n hx hb dX5_winner_74 rfl (lv_at hl 2 rfl) ?_
  refine lv_if_eq (tgt := 80) hx hb dX5_winner_75 (by decide) (fun hc => ?_) (fun hc => ?_)
  · replace hf := sc_ip hc hf
    refine lv_iinc (v := (x1 + 1)) (lv' := [(1, .int (x1 + 1)), (0, .ref (h 0)), (2, .int x2)]) hx hb dX5_winner_80 hl (k := 1) rfl rfl (by decide) rfl (fun ls hl => ?_)
    refine lv_goto (tgt := 2) hx hb dX5_winner_83 (by decide) ?_
    exact hk2 _ _ _ _ _ hf hW (lv_sub hl [1, 0] rfl)
  · replace hf := sc_in hc hf
    refine lv_iload_n hx hb dX5_winner_78 rfl (lv_at hl 1 rfl) ?_
    exact sc_reti hR hf hW dX5_winner_79
set_option maxHeartbeats 4000000 in
set_option maxRecDepth 100000 in
theorem wk_X5_winner_27 (C0 : CallFix p m c cX5_winner 4 s args wsX5_winner RX5) {S' : sc_M} {r : Int32} (hR : sc_Ri p l e rm_X5_winner s m args below meth c Q cX5_winner (sc_EM dC dI h cy) S' r) {k2 : sc_M → Int32 → Option (Int32 × sc_M)} (hk2 : ∀ (S : sc_M) (x1 : Int32) (H : Heap) (locs : List Loc) (ls : Array Slot), k2 S x1 = some (r, S') → sc_W (sc_EM dC dI h cy) s H locs S → lv_has ls 4 [(0, .ref (h 0)), (1, .int x1)] → W p l e rm_X5_winner s m args below meth c H locs 0 0 Q (F0 m 2 ls [])) : ∀ n : Nat, ∀ (S : sc_M) (x1 : Int32) (x2 : Int32) (x3 : Int32) (H : Heap) (locs : List Loc) (ls : Array Slot), fn_X5_winner_27 k2 n S x1 x2 x3 = some (r, S') → sc_W (sc_EM dC dI h cy) s H locs S → lv_has ls 4 [(0, .ref (h 0)), (1, .int x1), (2, .int x2), (3, .int x3)] → W p l e rm_X5_winner s m args below meth c H locs 0 0 Q (F0 m 27 ls []) := by
  obtain ⟨hx, hb, hml, hown, hts⟩ := id C0
  intro n
  induction n with
  | zero => intro S x1 x2 x3 H locs ls; intro hf; cases hf
  | succ n ih =>
    intro S x1 x2 x3 H locs ls hf hW hl
    rw [fn_X5_winner_27] at hf
    refine lv_iload_n hx hb dX5_winner_27 rfl (lv_at hl 3 rfl) ?_
    refine lv_aload_n hx hb dX5_winner_28 rfl (lv_at hl 0 rfl) ?_
    refine sc_getX5 C0 hW ni_X5_winner_X5 0 (Nat.le_of_ble_eq_true rfl) lk_X5_winner_101 (v := .int (sc_gi S 0)) rfl dX5_winner_29 ?_
    refine lv_icmp_ge (tgt := 74) hx hb dX5_winner_32 (by decide) (fun hc => ?_) (fun hc => ?_)
    · replace hf := sc_ip hc hf
      exact wk_X5_winner_74 C0 hR hk2 _ _ _ _ _ _ hf hW (lv_sub hl [0, 1, 2] rfl)
    · replace hf := sc_in hc hf
      refine lv_iload_n hx hb dX5_winner_35 rfl (lv_at hl 2 rfl) ?_
      refine lv_if_eq (tgt := 74) hx hb dX5_winner_36 (by decide) (fun hc => ?_) (fun hc => ?_)
      · replace hf := sc_ip hc hf
        exact wk_X5_winner_74 C0 hR hk2 _ _ _ _ _ _ hf hW (lv_sub hl [0, 1, 2] rfl)
      · replace hf := sc_in hc hf
        refine lv_iload_n hx hb dX5_winner_39 rfl (lv_at hl 1 rfl) ?_
        refine lv_iload_n hx hb dX5_winner_40 rfl (lv_at hl 3 rfl) ?_
        refine lv_icmp_eq (tgt := 62) hx hb dX5_winner_41 (by decide) (fun hc => ?_) (fun hc => ?_)
        · replace hf := sc_ip hc hf
          refine lv_iconst (v := (1 : Int32)) hx hb dX5_winner_62 (by decide) ?_
          refine lv_goto (tgt := 67) hx hb dX5_winner_63 (by decide) ?_
          refine lv_istore_n (lv' := [(2, .int (1 : Int32)), (0, .ref (h 0)), (1, .int x1), (3, .int x3)]) hx hb dX5_winner_67 rfl hl (by decide) rfl (fun ls hl => ?_)
          refine lv_iinc (v := (x3 + 1)) (lv' := [(3, .int (x3 + 1)), (2, .int (1 : Int32)), (0, .ref (h 0)), (1, .int x1)]) hx hb dX5_winner_68 hl (k := 3) rfl rfl (by decide) rfl (fun ls hl => ?_)
          refine lv_goto (tgt := 27) hx hb dX5_winner_71 (by decide) ?_
          exact ih _ _ _ _ _ _ _ hf hW (lv_sub hl [2, 3, 1, 0] rfl)
        · replace hf := sc_in hc hf
          refine lv_aload_n hx hb dX5_winner_44 rfl (lv_at hl 0 rfl) ?_
          refine sc_getX5 C0 hW ni_X5_winner_X5 1 (Nat.le_of_ble_eq_true rfl) lk_X5_winner_7 (v := .ref (h 1)) rfl dX5_winner_45 ?_
          refine lv_iload_n hx hb dX5_winner_48 rfl (lv_at hl 3 rfl) ?_
          obtain ⟨hv, hf⟩ := sc_ck_s hf
          refine sc_ldM_1 C0 hW hv dX5_winner_49 ?_
          refine lv_if_ne (tgt := 62) hx hb dX5_winner_50 (by decide) (fun hc => ?_) (fun hc => ?_)
          · replace hf := sc_in hc hf
            refine lv_iconst (v := (1 : Int32)) hx hb dX5_winner_62 (by decide) ?_
            refine lv_goto (tgt := 67) hx hb dX5_winner_63 (by decide) ?_
            refine lv_istore_n (lv' := [(2, .int (1 : Int32)), (0, .ref (h 0)), (1, .int x1), (3, .int x3)]) hx hb dX5_winner_67 rfl hl (by decide) rfl (fun ls hl => ?_)
            refine lv_iinc (v := (x3 + 1)) (lv' := [(3, .int (x3 + 1)), (2, .int (1 : Int32)), (0, .ref (h 0)), (1, .int x1)]) hx hb dX5_winner_68 hl (k := 3) rfl rfl (by decide) rfl (fun ls hl => ?_)
            refine lv_goto (tgt := 27) hx hb dX5_winner_71 (by decide) ?_
            exact ih _ _ _ _ _ _ _ hf hW (lv_sub hl [2, 3, 1, 0] rfl)
          · replace hf := sc_ip hc hf
            refine lv_aload_n hx hb dX5_winner_53 rfl (lv_at hl 0 rfl) ?_
            refine lv_iload_n hx hb dX5_winner_54 rfl (lv_at hl 1 rfl) ?_
            refine lv_iload_n hx hb dX5_winner_55 rfl (lv_at hl 3 rfl) ?_
            obtain ⟨r56, S56, hc, hf⟩ := sc_cl_s hf
            refine sc_callVi (As := [.int x1, .int x3]) (rest := []) (q0 := 0) (ci := 4) sc_okM C0 hW (ct_X5_beats hc) (cwV 2 hts gX5_winner_X5_beats rfl rfl rfl (by decide +kernel) ⟨Nat.le_of_ble_eq_true rfl, Nat.le_of_ble_eq_true rfl⟩) rfl rfl rfl rfl hl.1 rfl (Nat.le_of_ble_eq_true rfl) dX5_winner_56 (fun H locs hW => ?_)
            refine lv_if_eq (tgt := 66) hx hb dX5_winner_59 (by decide) (fun hc => ?_) (fun hc => ?_)
            · replace hf := sc_ip hc hf
              refine lv_iconst (v := (0 : Int32)) hx hb dX5_winner_66 (by decide) ?_
              refine lv_istore_n (lv' := [(2, .int (0 : Int32)), (0, .ref (h 0)), (1, .int x1), (3, .int x3)]) hx hb dX5_winner_67 rfl hl (by decide) rfl (fun ls hl => ?_)
              refine lv_iinc (v := (x3 + 1)) (lv' := [(3, .int (x3 + 1)), (2, .int (0 : Int32)), (0, .ref (h 0)), (1, .int x1)]) hx hb dX5_winner_68 hl (k := 3) rfl rfl (by decide) rfl (fun ls hl => ?_)
              refine lv_goto (tgt := 27) hx hb dX5_winner_71 (by decide) ?_
              exact ih _ _ _ _ _ _ _ hf hW (lv_sub hl [2, 3, 1, 0] rfl)
            · replace hf := sc_in hc hf
              refine lv_iconst (v := (1 : Int32)) hx hb dX5_winner_62 (by decide) ?_
              refine lv_goto (tgt := 67) hx hb dX5_winner_63 (by decide) ?_
              refine lv_istore_n (lv' := [(2, .int (1 : Int32)), (0, .ref (h 0)), (1, .int x1), (3, .int x3)]) hx hb dX5_winner_67 rfl hl (by decide) rfl (fun ls hl => ?_)
              refine lv_iinc (v := (x3 + 1)) (lv' := [(3, .int (x3 + 1)), (2, .int (1 : Int32)), (0, .ref (h 0)), (1, .int x1)]) hx hb dX5_winner_68 hl (k := 3) rfl rfl (by decide) rfl (fun ls hl => ?_)
              refine lv_goto (tgt := 27) hx hb dX5_winner_71 (by decide) ?_
              exact ih _ _ _ _ _ _ _ hf hW (lv_sub hl [2, 3, 1, 0] rfl)
set_option maxHeartbeats 4000000 in
set_option maxRecDepth 100000 in
theorem wk_X5_winner_2 (C0 : CallFix p m c cX5_winner 4 s args wsX5_winner RX5) {S' : sc_M} {r : Int32} (hR : sc_Ri p l e rm_X5_winner s m args below meth c Q cX5_winner (sc_EM dC dI h cy) S' r) : ∀ n : Nat, ∀ (S : sc_M) (x1 : Int32) (H : Heap) (locs : List Loc) (ls : Array Slot), fn_X5_winner_2 n S x1 = some (r, S') → sc_W (sc_EM dC dI h cy) s H locs S → lv_has ls 4 [(0, .ref (h 0)), (1, .int x1)] → W p l e rm_X5_winner s m args below meth c H locs 0 0 Q (F0 m 2 ls []) := by
  obtain ⟨hx, hb, hml, hown, hts⟩ := id C0
  intro n
  induction n with
  | zero => intro S x1 H locs ls; intro hf; cases hf
  | succ n ih =>
    intro S x1 H locs ls hf hW hl
    rw [fn_X5_winner_2] at hf
    refine lv_iload_n hx hb dX5_winner_2 rfl (lv_at hl 1 rfl) ?_
    refine lv_aload_n hx hb dX5_winner_3 rfl (lv_at hl 0 rfl) ?_
    refine sc_getX5 C0 hW ni_X5_winner_X5 0 (Nat.le_of_ble_eq_true rfl) lk_X5_winner_101 (v := .int (sc_gi S 0)) rfl dX5_winner_4 ?_
    refine lv_icmp_ge (tgt := 86) hx hb dX5_winner_7 (by decide) (fun hc => ?_) (fun hc => ?_)
    · replace hf := sc_ip hc hf
      refine lv_bipush (v := (-9 : Int32)) hx hb dX5_winner_86 (by decide) ?_
      exact sc_reti hR hf hW dX5_winner_88
    · replace hf := sc_in hc hf
      refine lv_aload_n hx hb dX5_winner_10 rfl (lv_at hl 0 rfl) ?_
      refine sc_getX5 C0 hW ni_X5_winner_X5 1 (Nat.le_of_ble_eq_true rfl) lk_X5_winner_7 (v := .ref (h 1)) rfl dX5_winner_11 ?_
      refine lv_iload_n hx hb dX5_winner_14 rfl (lv_at hl 1 rfl) ?_
      obtain ⟨hv, hf⟩ := sc_ck_s hf
      refine sc_ldM_1 C0 hW hv dX5_winner_15 ?_
      refine lv_if_ne (tgt := 23) hx hb dX5_winner_16 (by decide) (fun hc => ?_) (fun hc => ?_)
      · replace hf := sc_in hc hf
        refine lv_iconst (v := (0 : Int32)) hx hb dX5_winner_23 (by decide) ?_
        refine lv_istore_n (lv' := [(2, .int (0 : Int32)), (0, .ref (h 0)), (1, .int x1)]) hx hb dX5_winner_24 rfl hl (by decide) rfl (fun ls hl => ?_)
        refine lv_iconst (v := (0 : Int32)) hx hb dX5_winner_25 (by decide) ?_
        refine lv_istore_n (lv' := [(3, .int (0 : Int32)), (2, .int (0 : Int32)), (0, .ref (h 0)), (1, .int x1)]) hx hb dX5_winner_26 rfl hl (by decide) rfl (fun ls hl => ?_)
        exact wk_X5_winner_27 C0 hR ih sc_FU _ _ _ _ _ _ _ hf hW (lv_sub hl [2, 3, 1, 0] rfl)
      · replace hf := sc_ip hc hf
        refine lv_iconst (v := (1 : Int32)) hx hb dX5_winner_19 (by decide) ?_
        refine lv_goto (tgt := 24) hx hb dX5_winner_20 (by decide) ?_
        refine lv_istore_n (lv' := [(2, .int (1 : Int32)), (0, .ref (h 0)), (1, .int x1)]) hx hb dX5_winner_24 rfl hl (by decide) rfl (fun ls hl => ?_)
        refine lv_iconst (v := (0 : Int32)) hx hb dX5_winner_25 (by decide) ?_
        refine lv_istore_n (lv' := [(3, .int (0 : Int32)), (2, .int (1 : Int32)), (0, .ref (h 0)), (1, .int x1)]) hx hb dX5_winner_26 rfl hl (by decide) rfl (fun ls hl => ?_)
        exact wk_X5_winner_27 C0 hR ih sc_FU _ _ _ _ _ _ _ hf hW (lv_sub hl [2, 3, 1, 0] rfl)
set_option maxHeartbeats 4000000 in
set_option maxRecDepth 100000 in
theorem wk_X5_winner_0 (C0 : CallFix p m c cX5_winner 4 s args wsX5_winner RX5) {S' : sc_M} {r : Int32} (hR : sc_Ri p l e rm_X5_winner s m args below meth c Q cX5_winner (sc_EM dC dI h cy) S' r) : ∀ (S : sc_M) (H : Heap) (locs : List Loc) (ls : Array Slot), fn_X5_winner S = some (r, S') → sc_W (sc_EM dC dI h cy) s H locs S → lv_has ls 4 [(0, .ref (h 0))] → W p l e rm_X5_winner s m args below meth c H locs 0 0 Q (F0 m 0 ls []) := by
  obtain ⟨hx, hb, hml, hown, hts⟩ := id C0
  intro S H locs ls hf hW hl
  rw [fn_X5_winner] at hf
  refine lv_iconst (v := (0 : Int32)) hx hb dX5_winner_0 (by decide) ?_
  refine lv_istore_n (lv' := [(1, .int (0 : Int32)), (0, .ref (h 0))]) hx hb dX5_winner_1 rfl hl (by decide) rfl (fun ls hl => ?_)
  exact wk_X5_winner_2 C0 hR  sc_FU _ _ _ _ _ hf hW (lv_sub hl [1, 0] rfl)
set_option maxRecDepth 100000 in
theorem ct_X5_winner {S S' : sc_M} {r : Int32} (hf : fn_X5_winner S = some (r, S')) : sc_Ci l yX5_winner wsX5_winner rm_X5_winner (sc_EM dC dI h cy) [.ref (h 0)] S S' r := by
  refine sc_ofi (cc := cX5_winner) (maxL := 4) .int rfl sc_okM (by decide) rfl (Nat.le_of_ble_eq_true rfl) ?_
  intro p e s m below meth c Q C0 hR hW ls hl
  exact wk_X5_winner_0 C0 hR _ _ _ _ hf hW hl
end

/-! ===== SeatCountsModel.leads(I)I ===== -/
abbrev rm_X5_leads : Room := { frames := 3, cells := 0, slots := 0, locals := 70 }
theorem lk_X5_leads_101 : Cond.fieldLink RX5 101 "SeatCountsModel" "many" "I" ∈ wsX5_leads := by decide +kernel
theorem lk_X5_leads_90 : Cond.fieldLink RX5 90 "SeatCountsModel" "leadsTo" "[Z" ∈ wsX5_leads := by decide +kernel
theorem ni_X5_leads_X5 : ∀ w ∈ wsX50, w ∈ wsX5_leads := by decide +kernel
noncomputable def fn_X5_leads_59 (k48 : sc_M → Int32 → Int32 → Option (Int32 × sc_M)) : Nat → sc_M → Int32 → Int32 → Int32 → Option (Int32 × sc_M)
  | 0, _, _, _, _ => none
  | n + 1, S, x2, x3, x4 =>
    if (sc_gi S 0) ≤ x4 then
      k48 S x2 (x3 + 1)
    else
      sc_ck x3 12 (if (sc_ga S 27 x3.toNatClampNeg) = 0 then
        fn_X5_leads_59 k48 n S x2 x3 (x4 + 1)
      else
        sc_ck x4 12 (if (sc_ga S 27 x4.toNatClampNeg) = 0 then
          sc_cl (fn_X5_beats S x3 x4) (fun r91 S91 => if r91 = 0 then
            fn_X5_leads_59 k48 n S91 x2 x3 (x4 + 1)
          else
            sc_ck x4 12 (sc_sq (sc_mA S91 27 (upd (sc_ga S91 27) x4.toNatClampNeg (vp_nar .boolean (1 : Int32)))) (fun S104 => fn_X5_leads_59 k48 n S104 (1 : Int32) x3 (x4 + 1))))
        else
          fn_X5_leads_59 k48 n S x2 x3 (x4 + 1)))
noncomputable def fn_X5_leads_48 (k40 : sc_M → Int32 → Option (Int32 × sc_M)) : Nat → sc_M → Int32 → Int32 → Option (Int32 × sc_M)
  | 0, _, _, _ => none
  | n + 1, S, x2, x3 =>
    if (sc_gi S 0) ≤ x3 then
      k40 S x2
    else
      fn_X5_leads_59 (fn_X5_leads_48 k40 n) sc_FU S x2 x3 (0 : Int32)
noncomputable def fn_X5_leads_127 : Nat → sc_M → Int32 → Int32 → Option (Int32 × sc_M)
  | 0, _, _, _ => none
  | n + 1, S, x3, x4 =>
    if (sc_gi S 0) ≤ x4 then
      some (x3, S)
    else
      sc_ck x4 12 (if (sc_ga S 27 x4.toNatClampNeg) = 0 then
        sc_sq ((x3 + (0 : Int32))) (fun y153 => fn_X5_leads_127 n S y153 (x4 + 1))
      else
        sc_sq ((x3 + (1 : Int32))) (fun y153 => fn_X5_leads_127 n S y153 (x4 + 1)))
noncomputable def fn_X5_leads_40 : Nat → sc_M → Int32 → Option (Int32 × sc_M)
  | 0, _, _ => none
  | n + 1, S, x2 =>
    if x2 = 0 then
      fn_X5_leads_127 sc_FU S (0 : Int32) (0 : Int32)
    else
      fn_X5_leads_48 (fn_X5_leads_40 n) sc_FU S (0 : Int32) (0 : Int32)
noncomputable def fn_X5_leads_12 : Nat → sc_M → Int32 → Int32 → Option (Int32 × sc_M)
  | 0, _, _, _ => none
  | n + 1, S, x1, x2 =>
    if (sc_gi S 0) ≤ x2 then
      fn_X5_leads_40 sc_FU S (1 : Int32)
    else
      sc_cl (fn_X5_beats S x1 x2) (fun r28 S28 => sc_ck x2 12 (sc_sq (sc_mA S28 27 (upd (sc_ga S28 27) x2.toNatClampNeg (vp_nar .boolean r28))) (fun S31 => fn_X5_leads_12 n S31 x1 (x2 + 1))))
noncomputable def fn_X5_leads (S : sc_M) (x1 : Int32) : Option (Int32 × sc_M) :=
  sc_cl (fn_X5_noOne S x1) (fun r2 S2 => if r2 = 0 then
    fn_X5_leads_12 sc_FU S2 x1 (0 : Int32)
  else
    some ((-1 : Int32), S2))
section
variable {p : Program} {l : Launch} {e : Env} {s : State} {m : MethodId} {args : Array Value} {below : List Frame} {meth : Method} {c : Code} {Q : State → Prop} {dC : Nat → ClassId} {dI : Nat → Nat → Nat} {h : Nat → Nat} {cy : Nat → ClassId}
set_option maxHeartbeats 4000000 in
set_option maxRecDepth 100000 in
theorem wk_X5_leads_59 (C0 : CallFix p m c cX5_leads 5 s args wsX5_leads RX5) {S' : sc_M} {r : Int32} (hR : sc_Ri p l e rm_X5_leads s m args below meth c Q cX5_leads (sc_EM dC dI h cy) S' r) {k48 : sc_M → Int32 → Int32 → Option (Int32 × sc_M)} (hk48 : ∀ (S : sc_M) (x2 : Int32) (x3 : Int32) (H : Heap) (locs : List Loc) (ls : Array Slot), k48 S x2 x3 = some (r, S') → sc_W (sc_EM dC dI h cy) s H locs S → lv_has ls 5 [(0, .ref (h 0)), (2, .int x2), (3, .int x3)] → W p l e rm_X5_leads s m args below meth c H locs 0 0 Q (F0 m 48 ls [])) : ∀ n : Nat, ∀ (S : sc_M) (x2 : Int32) (x3 : Int32) (x4 : Int32) (H : Heap) (locs : List Loc) (ls : Array Slot), fn_X5_leads_59 k48 n S x2 x3 x4 = some (r, S') → sc_W (sc_EM dC dI h cy) s H locs S → lv_has ls 5 [(0, .ref (h 0)), (2, .int x2), (3, .int x3), (4, .int x4)] → W p l e rm_X5_leads s m args below meth c H locs 0 0 Q (F0 m 59 ls []) := by
  obtain ⟨hx, hb, hml, hown, hts⟩ := id C0
  intro n
  induction n with
  | zero => intro S x2 x3 x4 H locs ls; intro hf; cases hf
  | succ n ih =>
    intro S x2 x3 x4 H locs ls hf hW hl
    rw [fn_X5_leads_59] at hf
    refine lv_iload hx hb dX5_leads_59 (lv_at hl 3 rfl) ?_
    refine lv_aload_n hx hb dX5_leads_61 rfl (lv_at hl 0 rfl) ?_
    refine sc_getX5 C0 hW ni_X5_leads_X5 0 (Nat.le_of_ble_eq_true rfl) lk_X5_leads_101 (v := .int (sc_gi S 0)) rfl dX5_leads_62 ?_
    refine lv_icmp_ge (tgt := 113) hx hb dX5_leads_65 (by decide) (fun hc => ?_) (fun hc => ?_)
    · replace hf := sc_ip hc hf
      refine lv_iinc (v := (x3 + 1)) (lv' := [(3, .int (x3 + 1)), (0, .ref (h 0)), (2, .int x2), (4, .int x4)]) hx hb dX5_leads_113 hl (k := 2) rfl rfl (by decide) rfl (fun ls hl => ?_)
      refine lv_goto (tgt := 48) hx hb dX5_leads_116 (by decide) ?_
      exact hk48 _ _ _ _ _ _ hf hW (lv_sub hl [1, 2, 0] rfl)
    · replace hf := sc_in hc hf
      refine lv_aload_n hx hb dX5_leads_68 rfl (lv_at hl 0 rfl) ?_
      refine sc_getX5 C0 hW ni_X5_leads_X5 37 (Nat.le_of_ble_eq_true rfl) lk_X5_leads_90 (v := .ref (h 27)) rfl dX5_leads_69 ?_
      refine lv_iload_n hx hb dX5_leads_72 rfl (lv_at hl 2 rfl) ?_
      obtain ⟨hv, hf⟩ := sc_ck_s hf
      refine sc_ldM_27 C0 hW hv dX5_leads_73 ?_
      refine lv_if_eq (tgt := 107) hx hb dX5_leads_74 (by decide) (fun hc => ?_) (fun hc => ?_)
      · replace hf := sc_ip hc hf
        refine lv_iinc (v := (x4 + 1)) (lv' := [(4, .int (x4 + 1)), (0, .ref (h 0)), (2, .int x2), (3, .int x3)]) hx hb dX5_leads_107 hl (k := 3) rfl rfl (by decide) rfl (fun ls hl => ?_)
        refine lv_goto (tgt := 59) hx hb dX5_leads_110 (by decide) ?_
        exact ih _ _ _ _ _ _ _ hf hW (lv_sub hl [1, 2, 3, 0] rfl)
      · replace hf := sc_in hc hf
        refine lv_aload_n hx hb dX5_leads_77 rfl (lv_at hl 0 rfl) ?_
        refine sc_getX5 C0 hW ni_X5_leads_X5 37 (Nat.le_of_ble_eq_true rfl) lk_X5_leads_90 (v := .ref (h 27)) rfl dX5_leads_78 ?_
        refine lv_iload hx hb dX5_leads_81 (lv_at hl 3 rfl) ?_
        obtain ⟨hv, hf⟩ := sc_ck_s hf
        refine sc_ldM_27 C0 hW hv dX5_leads_83 ?_
        refine lv_if_ne (tgt := 107) hx hb dX5_leads_84 (by decide) (fun hc => ?_) (fun hc => ?_)
        · replace hf := sc_in hc hf
          refine lv_iinc (v := (x4 + 1)) (lv' := [(4, .int (x4 + 1)), (0, .ref (h 0)), (2, .int x2), (3, .int x3)]) hx hb dX5_leads_107 hl (k := 3) rfl rfl (by decide) rfl (fun ls hl => ?_)
          refine lv_goto (tgt := 59) hx hb dX5_leads_110 (by decide) ?_
          exact ih _ _ _ _ _ _ _ hf hW (lv_sub hl [1, 2, 3, 0] rfl)
        · replace hf := sc_ip hc hf
          refine lv_aload_n hx hb dX5_leads_87 rfl (lv_at hl 0 rfl) ?_
          refine lv_iload_n hx hb dX5_leads_88 rfl (lv_at hl 2 rfl) ?_
          refine lv_iload hx hb dX5_leads_89 (lv_at hl 3 rfl) ?_
          obtain ⟨r91, S91, hc, hf⟩ := sc_cl_s hf
          refine sc_callVi (As := [.int x3, .int x4]) (rest := []) (q0 := 0) (ci := 4) sc_okM C0 hW (ct_X5_beats hc) (cwV 2 hts gX5_leads_X5_beats rfl rfl rfl (by decide +kernel) ⟨Nat.le_of_ble_eq_true rfl, Nat.le_of_ble_eq_true rfl⟩) rfl rfl rfl rfl hl.1 rfl (Nat.le_of_ble_eq_true rfl) dX5_leads_91 (fun H locs hW => ?_)
          refine lv_if_eq (tgt := 107) hx hb dX5_leads_94 (by decide) (fun hc => ?_) (fun hc => ?_)
          · replace hf := sc_ip hc hf
            refine lv_iinc (v := (x4 + 1)) (lv' := [(4, .int (x4 + 1)), (0, .ref (h 0)), (2, .int x2), (3, .int x3)]) hx hb dX5_leads_107 hl (k := 3) rfl rfl (by decide) rfl (fun ls hl => ?_)
            refine lv_goto (tgt := 59) hx hb dX5_leads_110 (by decide) ?_
            exact ih _ _ _ _ _ _ _ hf hW (lv_sub hl [1, 2, 3, 0] rfl)
          · replace hf := sc_in hc hf
            refine lv_aload_n hx hb dX5_leads_97 rfl (lv_at hl 0 rfl) ?_
            refine sc_getX5 C0 hW ni_X5_leads_X5 37 (Nat.le_of_ble_eq_true rfl) lk_X5_leads_90 (v := .ref (h 27)) rfl dX5_leads_98 ?_
            refine lv_iload hx hb dX5_leads_101 (lv_at hl 3 rfl) ?_
            refine lv_iconst (v := (1 : Int32)) hx hb dX5_leads_103 (by decide) ?_
            obtain ⟨hv, hf⟩ := sc_ck_s hf
            obtain ⟨S104, eS104, hf⟩ := sc_sq_s hf
            refine sc_stM_27 C0 hW hv eS104 dX5_leads_104 (fun H locs hW => ?_)
            refine lv_iconst (v := (1 : Int32)) hx hb dX5_leads_105 (by decide) ?_
            refine lv_istore_n (lv' := [(2, .int (1 : Int32)), (0, .ref (h 0)), (3, .int x3), (4, .int x4)]) hx hb dX5_leads_106 rfl hl (by decide) rfl (fun ls hl => ?_)
            refine lv_iinc (v := (x4 + 1)) (lv' := [(4, .int (x4 + 1)), (2, .int (1 : Int32)), (0, .ref (h 0)), (3, .int x3)]) hx hb dX5_leads_107 hl (k := 3) rfl rfl (by decide) rfl (fun ls hl => ?_)
            refine lv_goto (tgt := 59) hx hb dX5_leads_110 (by decide) ?_
            exact ih _ _ _ _ _ _ _ hf hW (lv_sub hl [2, 1, 3, 0] rfl)
set_option maxHeartbeats 4000000 in
set_option maxRecDepth 100000 in
theorem wk_X5_leads_48 (C0 : CallFix p m c cX5_leads 5 s args wsX5_leads RX5) {S' : sc_M} {r : Int32} (hR : sc_Ri p l e rm_X5_leads s m args below meth c Q cX5_leads (sc_EM dC dI h cy) S' r) {k40 : sc_M → Int32 → Option (Int32 × sc_M)} (hk40 : ∀ (S : sc_M) (x2 : Int32) (H : Heap) (locs : List Loc) (ls : Array Slot), k40 S x2 = some (r, S') → sc_W (sc_EM dC dI h cy) s H locs S → lv_has ls 5 [(0, .ref (h 0)), (2, .int x2)] → W p l e rm_X5_leads s m args below meth c H locs 0 0 Q (F0 m 40 ls [])) : ∀ n : Nat, ∀ (S : sc_M) (x2 : Int32) (x3 : Int32) (H : Heap) (locs : List Loc) (ls : Array Slot), fn_X5_leads_48 k40 n S x2 x3 = some (r, S') → sc_W (sc_EM dC dI h cy) s H locs S → lv_has ls 5 [(0, .ref (h 0)), (2, .int x2), (3, .int x3)] → W p l e rm_X5_leads s m args below meth c H locs 0 0 Q (F0 m 48 ls []) := by
  obtain ⟨hx, hb, hml, hown, hts⟩ := id C0
  intro n
  induction n with
  | zero => intro S x2 x3 H locs ls; intro hf; cases hf
  | succ n ih =>
    intro S x2 x3 H locs ls hf hW hl
    rw [fn_X5_leads_48] at hf
    refine lv_iload_n hx hb dX5_leads_48 rfl (lv_at hl 2 rfl) ?_
    refine lv_aload_n hx hb dX5_leads_49 rfl (lv_at hl 0 rfl) ?_
    refine sc_getX5 C0 hW ni_X5_leads_X5 0 (Nat.le_of_ble_eq_true rfl) lk_X5_leads_101 (v := .int (sc_gi S 0)) rfl dX5_leads_50 ?_
    refine lv_icmp_ge (tgt := 119) hx hb dX5_leads_53 (by decide) (fun hc => ?_) (fun hc => ?_)
    · replace hf := sc_ip hc hf
      refine lv_goto (tgt := 40) hx hb dX5_leads_119 (by decide) ?_
      exact hk40 _ _ _ _ _ hf hW (lv_sub hl [0, 1] rfl)
    · replace hf := sc_in hc hf
      refine lv_iconst (v := (0 : Int32)) hx hb dX5_leads_56 (by decide) ?_
      refine lv_istore (lv' := [(4, .int (0 : Int32)), (0, .ref (h 0)), (2, .int x2), (3, .int x3)]) hx hb dX5_leads_57 hl (by decide) rfl (fun ls hl => ?_)
      exact wk_X5_leads_59 C0 hR ih sc_FU _ _ _ _ _ _ _ hf hW (lv_sub hl [1, 2, 3, 0] rfl)
set_option maxHeartbeats 4000000 in
set_option maxRecDepth 100000 in
theorem wk_X5_leads_127 (C0 : CallFix p m c cX5_leads 5 s args wsX5_leads RX5) {S' : sc_M} {r : Int32} (hR : sc_Ri p l e rm_X5_leads s m args below meth c Q cX5_leads (sc_EM dC dI h cy) S' r) : ∀ n : Nat, ∀ (S : sc_M) (x3 : Int32) (x4 : Int32) (H : Heap) (locs : List Loc) (ls : Array Slot), fn_X5_leads_127 n S x3 x4 = some (r, S') → sc_W (sc_EM dC dI h cy) s H locs S → lv_has ls 5 [(0, .ref (h 0)), (3, .int x3), (4, .int x4)] → W p l e rm_X5_leads s m args below meth c H locs 0 0 Q (F0 m 127 ls []) := by
  obtain ⟨hx, hb, hml, hown, hts⟩ := id C0
  intro n
  induction n with
  | zero => intro S x3 x4 H locs ls; intro hf; cases hf
  | succ n ih =>
    intro S x3 x4 H locs ls hf hW hl
    rw [fn_X5_leads_127] at hf
    refine lv_iload hx hb dX5_leads_127 (lv_at hl 2 rfl) ?_
    refine lv_aload_n hx hb dX5_leads_129 rfl (lv_at hl 0 rfl) ?_
    refine sc_getX5 C0 hW ni_X5_leads_X5 0 (Nat.le_of_ble_eq_true rfl) lk_X5_leads_101 (v := .int (sc_gi S 0)) rfl dX5_leads_130 ?_
    refine lv_icmp_ge (tgt := 160) hx hb dX5_leads_133 (by decide) (fun hc => ?_) (fun hc => ?_)
    · replace hf := sc_ip hc hf
      refine lv_iload_n hx hb dX5_leads_160 rfl (lv_at hl 1 rfl) ?_
      exact sc_reti hR hf hW dX5_leads_161
    · replace hf := sc_in hc hf
      refine lv_iload_n hx hb dX5_leads_136 rfl (lv_at hl 1 rfl) ?_
      refine lv_aload_n hx hb dX5_leads_137 rfl (lv_at hl 0 rfl) ?_
      refine sc_getX5 C0 hW ni_X5_leads_X5 37 (Nat.le_of_ble_eq_true rfl) lk_X5_leads_90 (v := .ref (h 27)) rfl dX5_leads_138 ?_
      refine lv_iload hx hb dX5_leads_141 (lv_at hl 2 rfl) ?_
      obtain ⟨hv, hf⟩ := sc_ck_s hf
      refine sc_ldM_27 C0 hW hv dX5_leads_143 ?_
      refine lv_if_eq (tgt := 151) hx hb dX5_leads_144 (by decide) (fun hc => ?_) (fun hc => ?_)
      · replace hf := sc_ip hc hf
        refine lv_iconst (v := (0 : Int32)) hx hb dX5_leads_151 (by decide) ?_
        refine lv_iadd hx hb dX5_leads_152 ?_
        obtain ⟨y153, ey153, hf⟩ := sc_sq_s hf
        refine sc_topi ey153 ?_
        refine lv_istore_n (lv' := [(3, .int y153), (0, .ref (h 0)), (4, .int x4)]) hx hb dX5_leads_153 rfl hl (by decide) rfl (fun ls hl => ?_)
        refine lv_iinc (v := (x4 + 1)) (lv' := [(4, .int (x4 + 1)), (3, .int y153), (0, .ref (h 0))]) hx hb dX5_leads_154 hl (k := 2) rfl rfl (by decide) rfl (fun ls hl => ?_)
        refine lv_goto (tgt := 127) hx hb dX5_leads_157 (by decide) ?_
        exact ih _ _ _ _ _ _ hf hW (lv_sub hl [2, 1, 0] rfl)
      · replace hf := sc_in hc hf
        refine lv_iconst (v := (1 : Int32)) hx hb dX5_leads_147 (by decide) ?_
        refine lv_goto (tgt := 152) hx hb dX5_leads_148 (by decide) ?_
        refine lv_iadd hx hb dX5_leads_152 ?_
        obtain ⟨y153, ey153, hf⟩ := sc_sq_s hf
        refine sc_topi ey153 ?_
        refine lv_istore_n (lv' := [(3, .int y153), (0, .ref (h 0)), (4, .int x4)]) hx hb dX5_leads_153 rfl hl (by decide) rfl (fun ls hl => ?_)
        refine lv_iinc (v := (x4 + 1)) (lv' := [(4, .int (x4 + 1)), (3, .int y153), (0, .ref (h 0))]) hx hb dX5_leads_154 hl (k := 2) rfl rfl (by decide) rfl (fun ls hl => ?_)
        refine lv_goto (tgt := 127) hx hb dX5_leads_157 (by decide) ?_
        exact ih _ _ _ _ _ _ hf hW (lv_sub hl [2, 1, 0] rfl)
set_option maxHeartbeats 4000000 in
set_option maxRecDepth 100000 in
theorem wk_X5_leads_40 (C0 : CallFix p m c cX5_leads 5 s args wsX5_leads RX5) {S' : sc_M} {r : Int32} (hR : sc_Ri p l e rm_X5_leads s m args below meth c Q cX5_leads (sc_EM dC dI h cy) S' r) : ∀ n : Nat, ∀ (S : sc_M) (x2 : Int32) (H : Heap) (locs : List Loc) (ls : Array Slot), fn_X5_leads_40 n S x2 = some (r, S') → sc_W (sc_EM dC dI h cy) s H locs S → lv_has ls 5 [(0, .ref (h 0)), (2, .int x2)] → W p l e rm_X5_leads s m args below meth c H locs 0 0 Q (F0 m 40 ls []) := by
  obtain ⟨hx, hb, hml, hown, hts⟩ := id C0
  intro n
  induction n with
  | zero => intro S x2 H locs ls; intro hf; cases hf
  | succ n ih =>
    intro S x2 H locs ls hf hW hl
    rw [fn_X5_leads_40] at hf
    refine lv_iload_n hx hb dX5_leads_40 rfl (lv_at hl 1 rfl) ?_
    refine lv_if_eq (tgt := 122) hx hb dX5_leads_41 (by decide) (fun hc => ?_) (fun hc => ?_)
    · replace hf := sc_ip hc hf
      refine lv_iconst (v := (0 : Int32)) hx hb dX5_leads_122 (by decide) ?_
      refine lv_istore_n (lv' := [(3, .int (0 : Int32)), (0, .ref (h 0)), (2, .int x2)]) hx hb dX5_leads_123 rfl hl (by decide) rfl (fun ls hl => ?_)
      refine lv_iconst (v := (0 : Int32)) hx hb dX5_leads_124 (by decide) ?_
      refine lv_istore (lv' := [(4, .int (0 : Int32)), (3, .int (0 : Int32)), (0, .ref (h 0)), (2, .int x2)]) hx hb dX5_leads_125 hl (by decide) rfl (fun ls hl => ?_)
      exact wk_X5_leads_127 C0 hR  sc_FU _ _ _ _ _ _ hf hW (lv_sub hl [2, 1, 0] rfl)
    · replace hf := sc_in hc hf
      refine lv_iconst (v := (0 : Int32)) hx hb dX5_leads_44 (by decide) ?_
      refine lv_istore_n (lv' := [(2, .int (0 : Int32)), (0, .ref (h 0))]) hx hb dX5_leads_45 rfl hl (by decide) rfl (fun ls hl => ?_)
      refine lv_iconst (v := (0 : Int32)) hx hb dX5_leads_46 (by decide) ?_
      refine lv_istore_n (lv' := [(3, .int (0 : Int32)), (2, .int (0 : Int32)), (0, .ref (h 0))]) hx hb dX5_leads_47 rfl hl (by decide) rfl (fun ls hl => ?_)
      exact wk_X5_leads_48 C0 hR ih sc_FU _ _ _ _ _ _ hf hW (lv_sub hl [2, 1, 0] rfl)
set_option maxHeartbeats 4000000 in
set_option maxRecDepth 100000 in
theorem wk_X5_leads_12 (C0 : CallFix p m c cX5_leads 5 s args wsX5_leads RX5) {S' : sc_M} {r : Int32} (hR : sc_Ri p l e rm_X5_leads s m args below meth c Q cX5_leads (sc_EM dC dI h cy) S' r) : ∀ n : Nat, ∀ (S : sc_M) (x1 : Int32) (x2 : Int32) (H : Heap) (locs : List Loc) (ls : Array Slot), fn_X5_leads_12 n S x1 x2 = some (r, S') → sc_W (sc_EM dC dI h cy) s H locs S → lv_has ls 5 [(0, .ref (h 0)), (1, .int x1), (2, .int x2)] → W p l e rm_X5_leads s m args below meth c H locs 0 0 Q (F0 m 12 ls []) := by
  obtain ⟨hx, hb, hml, hown, hts⟩ := id C0
  intro n
  induction n with
  | zero => intro S x1 x2 H locs ls; intro hf; cases hf
  | succ n ih =>
    intro S x1 x2 H locs ls hf hW hl
    rw [fn_X5_leads_12] at hf
    refine lv_iload_n hx hb dX5_leads_12 rfl (lv_at hl 2 rfl) ?_
    refine lv_aload_n hx hb dX5_leads_13 rfl (lv_at hl 0 rfl) ?_
    refine sc_getX5 C0 hW ni_X5_leads_X5 0 (Nat.le_of_ble_eq_true rfl) lk_X5_leads_101 (v := .int (sc_gi S 0)) rfl dX5_leads_14 ?_
    refine lv_icmp_ge (tgt := 38) hx hb dX5_leads_17 (by decide) (fun hc => ?_) (fun hc => ?_)
    · replace hf := sc_ip hc hf
      refine lv_iconst (v := (1 : Int32)) hx hb dX5_leads_38 (by decide) ?_
      refine lv_istore_n (lv' := [(2, .int (1 : Int32)), (0, .ref (h 0)), (1, .int x1)]) hx hb dX5_leads_39 rfl hl (by decide) rfl (fun ls hl => ?_)
      exact wk_X5_leads_40 C0 hR  sc_FU _ _ _ _ _ hf hW (lv_sub hl [1, 0] rfl)
    · replace hf := sc_in hc hf
      refine lv_aload_n hx hb dX5_leads_20 rfl (lv_at hl 0 rfl) ?_
      refine sc_getX5 C0 hW ni_X5_leads_X5 37 (Nat.le_of_ble_eq_true rfl) lk_X5_leads_90 (v := .ref (h 27)) rfl dX5_leads_21 ?_
      refine lv_iload_n hx hb dX5_leads_24 rfl (lv_at hl 2 rfl) ?_
      refine lv_aload_n hx hb dX5_leads_25 rfl (lv_at hl 0 rfl) ?_
      refine lv_iload_n hx hb dX5_leads_26 rfl (lv_at hl 1 rfl) ?_
      refine lv_iload_n hx hb dX5_leads_27 rfl (lv_at hl 2 rfl) ?_
      obtain ⟨r28, S28, hc, hf⟩ := sc_cl_s hf
      refine sc_callVi (As := [.int x1, .int x2]) (rest := [.int x2, .ref (h 27)]) (q0 := 0) (ci := 4) sc_okM C0 hW (ct_X5_beats hc) (cwV 2 hts gX5_leads_X5_beats rfl rfl rfl (by decide +kernel) ⟨Nat.le_of_ble_eq_true rfl, Nat.le_of_ble_eq_true rfl⟩) rfl rfl rfl rfl hl.1 rfl (Nat.le_of_ble_eq_true rfl) dX5_leads_28 (fun H locs hW => ?_)
      obtain ⟨hv, hf⟩ := sc_ck_s hf
      obtain ⟨S31, eS31, hf⟩ := sc_sq_s hf
      refine sc_stM_27 C0 hW hv eS31 dX5_leads_31 (fun H locs hW => ?_)
      refine lv_iinc (v := (x2 + 1)) (lv' := [(2, .int (x2 + 1)), (0, .ref (h 0)), (1, .int x1)]) hx hb dX5_leads_32 hl (k := 2) rfl rfl (by decide) rfl (fun ls hl => ?_)
      refine lv_goto (tgt := 12) hx hb dX5_leads_35 (by decide) ?_
      exact ih _ _ _ _ _ _ hf hW (lv_sub hl [1, 2, 0] rfl)
set_option maxHeartbeats 4000000 in
set_option maxRecDepth 100000 in
theorem wk_X5_leads_0 (C0 : CallFix p m c cX5_leads 5 s args wsX5_leads RX5) {S' : sc_M} {r : Int32} (hR : sc_Ri p l e rm_X5_leads s m args below meth c Q cX5_leads (sc_EM dC dI h cy) S' r) : ∀ (S : sc_M) (x1 : Int32) (H : Heap) (locs : List Loc) (ls : Array Slot), fn_X5_leads S x1 = some (r, S') → sc_W (sc_EM dC dI h cy) s H locs S → lv_has ls 5 [(0, .ref (h 0)), (1, .int x1)] → W p l e rm_X5_leads s m args below meth c H locs 0 0 Q (F0 m 0 ls []) := by
  obtain ⟨hx, hb, hml, hown, hts⟩ := id C0
  intro S x1 H locs ls hf hW hl
  rw [fn_X5_leads] at hf
  refine lv_aload_n hx hb dX5_leads_0 rfl (lv_at hl 0 rfl) ?_
  refine lv_iload_n hx hb dX5_leads_1 rfl (lv_at hl 1 rfl) ?_
  obtain ⟨r2, S2, hc, hf⟩ := sc_cl_s hf
  refine sc_callVi (As := [.int x1]) (rest := []) (q0 := 0) (ci := 4) sc_okM C0 hW (ct_X5_noOne hc) (cwV 1 hts gX5_leads_X5_noOne rfl rfl rfl (by decide +kernel) ⟨Nat.le_of_ble_eq_true rfl, Nat.le_of_ble_eq_true rfl⟩) rfl rfl rfl rfl hl.1 rfl (Nat.le_of_ble_eq_true rfl) dX5_leads_2 (fun H locs hW => ?_)
  refine lv_if_eq (tgt := 10) hx hb dX5_leads_5 (by decide) (fun hc => ?_) (fun hc => ?_)
  · replace hf := sc_ip hc hf
    refine lv_iconst (v := (0 : Int32)) hx hb dX5_leads_10 (by decide) ?_
    refine lv_istore_n (lv' := [(2, .int (0 : Int32)), (0, .ref (h 0)), (1, .int x1)]) hx hb dX5_leads_11 rfl hl (by decide) rfl (fun ls hl => ?_)
    exact wk_X5_leads_12 C0 hR  sc_FU _ _ _ _ _ _ hf hW (lv_sub hl [1, 2, 0] rfl)
  · replace hf := sc_in hc hf
    refine lv_iconst (v := (-1 : Int32)) hx hb dX5_leads_8 (by decide) ?_
    exact sc_reti hR hf hW dX5_leads_9
set_option maxRecDepth 100000 in
theorem ct_X5_leads {S S' : sc_M} {r : Int32} {x1 : Int32} (hf : fn_X5_leads S x1 = some (r, S')) : sc_Ci l yX5_leads wsX5_leads rm_X5_leads (sc_EM dC dI h cy) [.ref (h 0), .int x1] S S' r := by
  refine sc_ofi (cc := cX5_leads) (maxL := 5) .int rfl sc_okM (by decide) rfl (Nat.le_of_ble_eq_true rfl) ?_
  intro p e s m below meth c Q C0 hR hW ls hl
  exact wk_X5_leads_0 C0 hR _ _ _ _ _ hf hW hl
end

/-! ===== SeatCountsModel.points(I)I ===== -/
abbrev rm_X5_points : Room := { frames := 2, cells := 0, slots := 0, locals := 43 }
theorem lk_X5_points_101 : Cond.fieldLink RX5 101 "SeatCountsModel" "many" "I" ∈ wsX5_points := by decide +kernel
theorem lk_X5_points_104 : Cond.fieldLink RX5 104 "SeatCountsModel" "piles" "I" ∈ wsX5_points := by decide +kernel
theorem lk_X5_points_17 : Cond.fieldLink RX5 17 "SeatCountsModel" "papers" "[I" ∈ wsX5_points := by decide +kernel
theorem lk_X5_points_7 : Cond.fieldLink RX5 7 "SeatCountsModel" "isWithdrawn" "[Z" ∈ wsX5_points := by decide +kernel
theorem ni_X5_points_X5 : ∀ w ∈ wsX50, w ∈ wsX5_points := by decide +kernel
noncomputable def fn_X5_points_25 (k14 : sc_M → Int32 → Int32 → Int32 → Option (Int32 × sc_M)) : Nat → sc_M → Int32 → Int32 → Int32 → Int32 → Option (Int32 × sc_M)
  | 0, _, _, _, _, _ => none
  | n + 1, S, x1, x2, x3, x4 =>
    if (sc_gi S 0) ≤ x4 then
      k14 S x1 x2 (x3 + 1)
    else
      sc_ck x4 12 (if (sc_ga S 1 x4.toNatClampNeg) = 0 then
        sc_cl (fn_X5_rank S x3 x1) (fun r48 S48 => sc_cl (fn_X5_rank S48 x3 x4) (fun r55 S55 => if r55 ≤ r48 then
          sc_sq ((x2 + (0 : Int32))) (fun y72 => fn_X5_points_25 k14 n S55 x1 y72 x3 (x4 + 1))
        else
          sc_ck x3 80 (sc_sq ((x2 + (sc_ga S55 3 x3.toNatClampNeg))) (fun y72 => fn_X5_points_25 k14 n S55 x1 y72 x3 (x4 + 1)))))
      else
        sc_sq ((x2 + (0 : Int32))) (fun y72 => fn_X5_points_25 k14 n S x1 y72 x3 (x4 + 1)))
noncomputable def fn_X5_points_14 : Nat → sc_M → Int32 → Int32 → Int32 → Option (Int32 × sc_M)
  | 0, _, _, _, _ => none
  | n + 1, S, x1, x2, x3 =>
    if (sc_gi S 1) ≤ x3 then
      some (x2, S)
    else
      fn_X5_points_25 (fn_X5_points_14 n) sc_FU S x1 x2 x3 (0 : Int32)
noncomputable def fn_X5_points (S : sc_M) (x1 : Int32) : Option (Int32 × sc_M) :=
  sc_cl (fn_X5_noOne S x1) (fun r2 S2 => if r2 = 0 then
    fn_X5_points_14 sc_FU S2 x1 (0 : Int32) (0 : Int32)
  else
    some ((-1 : Int32), S2))
section
variable {p : Program} {l : Launch} {e : Env} {s : State} {m : MethodId} {args : Array Value} {below : List Frame} {meth : Method} {c : Code} {Q : State → Prop} {dC : Nat → ClassId} {dI : Nat → Nat → Nat} {h : Nat → Nat} {cy : Nat → ClassId}
set_option maxHeartbeats 4000000 in
set_option maxRecDepth 100000 in
theorem wk_X5_points_25 (C0 : CallFix p m c cX5_points 5 s args wsX5_points RX5) {S' : sc_M} {r : Int32} (hR : sc_Ri p l e rm_X5_points s m args below meth c Q cX5_points (sc_EM dC dI h cy) S' r) {k14 : sc_M → Int32 → Int32 → Int32 → Option (Int32 × sc_M)} (hk14 : ∀ (S : sc_M) (x1 : Int32) (x2 : Int32) (x3 : Int32) (H : Heap) (locs : List Loc) (ls : Array Slot), k14 S x1 x2 x3 = some (r, S') → sc_W (sc_EM dC dI h cy) s H locs S → lv_has ls 5 [(0, .ref (h 0)), (1, .int x1), (2, .int x2), (3, .int x3)] → W p l e rm_X5_points s m args below meth c H locs 0 0 Q (F0 m 14 ls [])) : ∀ n : Nat, ∀ (S : sc_M) (x1 : Int32) (x2 : Int32) (x3 : Int32) (x4 : Int32) (H : Heap) (locs : List Loc) (ls : Array Slot), fn_X5_points_25 k14 n S x1 x2 x3 x4 = some (r, S') → sc_W (sc_EM dC dI h cy) s H locs S → lv_has ls 5 [(0, .ref (h 0)), (1, .int x1), (2, .int x2), (3, .int x3), (4, .int x4)] → W p l e rm_X5_points s m args below meth c H locs 0 0 Q (F0 m 25 ls []) := by
  obtain ⟨hx, hb, hml, hown, hts⟩ := id C0
  intro n
  induction n with
  | zero => intro S x1 x2 x3 x4 H locs ls; intro hf; cases hf
  | succ n ih =>
    intro S x1 x2 x3 x4 H locs ls hf hW hl
    rw [fn_X5_points_25] at hf
    refine lv_iload hx hb dX5_points_25 (lv_at hl 4 rfl) ?_
    refine lv_aload_n hx hb dX5_points_27 rfl (lv_at hl 0 rfl) ?_
    refine sc_getX5 C0 hW ni_X5_points_X5 0 (Nat.le_of_ble_eq_true rfl) lk_X5_points_101 (v := .int (sc_gi S 0)) rfl dX5_points_28 ?_
    refine lv_icmp_ge (tgt := 79) hx hb dX5_points_31 (by decide) (fun hc => ?_) (fun hc => ?_)
    · replace hf := sc_ip hc hf
      refine lv_iinc (v := (x3 + 1)) (lv' := [(3, .int (x3 + 1)), (0, .ref (h 0)), (1, .int x1), (2, .int x2), (4, .int x4)]) hx hb dX5_points_79 hl (k := 3) rfl rfl (by decide) rfl (fun ls hl => ?_)
      refine lv_goto (tgt := 14) hx hb dX5_points_82 (by decide) ?_
      exact hk14 _ _ _ _ _ _ _ hf hW (lv_sub hl [1, 2, 3, 0] rfl)
    · replace hf := sc_in hc hf
      refine lv_iload_n hx hb dX5_points_34 rfl (lv_at hl 2 rfl) ?_
      refine lv_aload_n hx hb dX5_points_35 rfl (lv_at hl 0 rfl) ?_
      refine sc_getX5 C0 hW ni_X5_points_X5 1 (Nat.le_of_ble_eq_true rfl) lk_X5_points_7 (v := .ref (h 1)) rfl dX5_points_36 ?_
      refine lv_iload hx hb dX5_points_39 (lv_at hl 4 rfl) ?_
      obtain ⟨hv, hf⟩ := sc_ck_s hf
      refine sc_ldM_1 C0 hW hv dX5_points_41 ?_
      refine lv_if_ne (tgt := 70) hx hb dX5_points_42 (by decide) (fun hc => ?_) (fun hc => ?_)
      · replace hf := sc_in hc hf
        refine lv_iconst (v := (0 : Int32)) hx hb dX5_points_70 (by decide) ?_
        refine lv_iadd hx hb dX5_points_71 ?_
        obtain ⟨y72, ey72, hf⟩ := sc_sq_s hf
        refine sc_topi ey72 ?_
        refine lv_istore_n (lv' := [(2, .int y72), (0, .ref (h 0)), (1, .int x1), (3, .int x3), (4, .int x4)]) hx hb dX5_points_72 rfl hl (by decide) rfl (fun ls hl => ?_)
        refine lv_iinc (v := (x4 + 1)) (lv' := [(4, .int (x4 + 1)), (2, .int y72), (0, .ref (h 0)), (1, .int x1), (3, .int x3)]) hx hb dX5_points_73 hl (k := 4) rfl rfl (by decide) rfl (fun ls hl => ?_)
        refine lv_goto (tgt := 25) hx hb dX5_points_76 (by decide) ?_
        exact ih _ _ _ _ _ _ _ _ hf hW (lv_sub hl [2, 3, 1, 4, 0] rfl)
      · replace hf := sc_ip hc hf
        refine lv_aload_n hx hb dX5_points_45 rfl (lv_at hl 0 rfl) ?_
        refine lv_iload_n hx hb dX5_points_46 rfl (lv_at hl 3 rfl) ?_
        refine lv_iload_n hx hb dX5_points_47 rfl (lv_at hl 1 rfl) ?_
        obtain ⟨r48, S48, hc, hf⟩ := sc_cl_s hf
        refine sc_callVi (As := [.int x3, .int x1]) (rest := [.int x2]) (q0 := 0) (ci := 4) sc_okM C0 hW (ct_X5_rank hc) (cwV 2 hts gX5_points_X5_rank rfl rfl rfl (by decide +kernel) ⟨Nat.le_of_ble_eq_true rfl, Nat.le_of_ble_eq_true rfl⟩) rfl rfl rfl rfl hl.1 rfl (Nat.le_of_ble_eq_true rfl) dX5_points_48 (fun H locs hW => ?_)
        refine lv_aload_n hx hb dX5_points_51 rfl (lv_at hl 0 rfl) ?_
        refine lv_iload_n hx hb dX5_points_52 rfl (lv_at hl 3 rfl) ?_
        refine lv_iload hx hb dX5_points_53 (lv_at hl 4 rfl) ?_
        obtain ⟨r55, S55, hc, hf⟩ := sc_cl_s hf
        refine sc_callVi (As := [.int x3, .int x4]) (rest := [.int r48, .int x2]) (q0 := 0) (ci := 4) sc_okM C0 hW (ct_X5_rank hc) (cwV 2 hts gX5_points_X5_rank rfl rfl rfl (by decide +kernel) ⟨Nat.le_of_ble_eq_true rfl, Nat.le_of_ble_eq_true rfl⟩) rfl rfl rfl rfl hl.1 rfl (Nat.le_of_ble_eq_true rfl) dX5_points_55 (fun H locs hW => ?_)
        refine lv_icmp_ge (tgt := 70) hx hb dX5_points_58 (by decide) (fun hc => ?_) (fun hc => ?_)
        · replace hf := sc_ip hc hf
          refine lv_iconst (v := (0 : Int32)) hx hb dX5_points_70 (by decide) ?_
          refine lv_iadd hx hb dX5_points_71 ?_
          obtain ⟨y72, ey72, hf⟩ := sc_sq_s hf
          refine sc_topi ey72 ?_
          refine lv_istore_n (lv' := [(2, .int y72), (0, .ref (h 0)), (1, .int x1), (3, .int x3), (4, .int x4)]) hx hb dX5_points_72 rfl hl (by decide) rfl (fun ls hl => ?_)
          refine lv_iinc (v := (x4 + 1)) (lv' := [(4, .int (x4 + 1)), (2, .int y72), (0, .ref (h 0)), (1, .int x1), (3, .int x3)]) hx hb dX5_points_73 hl (k := 4) rfl rfl (by decide) rfl (fun ls hl => ?_)
          refine lv_goto (tgt := 25) hx hb dX5_points_76 (by decide) ?_
          exact ih _ _ _ _ _ _ _ _ hf hW (lv_sub hl [2, 3, 1, 4, 0] rfl)
        · replace hf := sc_in hc hf
          refine lv_aload_n hx hb dX5_points_61 rfl (lv_at hl 0 rfl) ?_
          refine sc_getX5 C0 hW ni_X5_points_X5 4 (Nat.le_of_ble_eq_true rfl) lk_X5_points_17 (v := .ref (h 3)) rfl dX5_points_62 ?_
          refine lv_iload_n hx hb dX5_points_65 rfl (lv_at hl 3 rfl) ?_
          obtain ⟨hv, hf⟩ := sc_ck_s hf
          refine sc_ldM_3 C0 hW hv dX5_points_66 ?_
          refine lv_goto (tgt := 71) hx hb dX5_points_67 (by decide) ?_
          refine lv_iadd hx hb dX5_points_71 ?_
          obtain ⟨y72, ey72, hf⟩ := sc_sq_s hf
          refine sc_topi ey72 ?_
          refine lv_istore_n (lv' := [(2, .int y72), (0, .ref (h 0)), (1, .int x1), (3, .int x3), (4, .int x4)]) hx hb dX5_points_72 rfl hl (by decide) rfl (fun ls hl => ?_)
          refine lv_iinc (v := (x4 + 1)) (lv' := [(4, .int (x4 + 1)), (2, .int y72), (0, .ref (h 0)), (1, .int x1), (3, .int x3)]) hx hb dX5_points_73 hl (k := 4) rfl rfl (by decide) rfl (fun ls hl => ?_)
          refine lv_goto (tgt := 25) hx hb dX5_points_76 (by decide) ?_
          exact ih _ _ _ _ _ _ _ _ hf hW (lv_sub hl [2, 3, 1, 4, 0] rfl)
set_option maxHeartbeats 4000000 in
set_option maxRecDepth 100000 in
theorem wk_X5_points_14 (C0 : CallFix p m c cX5_points 5 s args wsX5_points RX5) {S' : sc_M} {r : Int32} (hR : sc_Ri p l e rm_X5_points s m args below meth c Q cX5_points (sc_EM dC dI h cy) S' r) : ∀ n : Nat, ∀ (S : sc_M) (x1 : Int32) (x2 : Int32) (x3 : Int32) (H : Heap) (locs : List Loc) (ls : Array Slot), fn_X5_points_14 n S x1 x2 x3 = some (r, S') → sc_W (sc_EM dC dI h cy) s H locs S → lv_has ls 5 [(0, .ref (h 0)), (1, .int x1), (2, .int x2), (3, .int x3)] → W p l e rm_X5_points s m args below meth c H locs 0 0 Q (F0 m 14 ls []) := by
  obtain ⟨hx, hb, hml, hown, hts⟩ := id C0
  intro n
  induction n with
  | zero => intro S x1 x2 x3 H locs ls; intro hf; cases hf
  | succ n ih =>
    intro S x1 x2 x3 H locs ls hf hW hl
    rw [fn_X5_points_14] at hf
    refine lv_iload_n hx hb dX5_points_14 rfl (lv_at hl 3 rfl) ?_
    refine lv_aload_n hx hb dX5_points_15 rfl (lv_at hl 0 rfl) ?_
    refine sc_getX5 C0 hW ni_X5_points_X5 3 (Nat.le_of_ble_eq_true rfl) lk_X5_points_104 (v := .int (sc_gi S 1)) rfl dX5_points_16 ?_
    refine lv_icmp_ge (tgt := 85) hx hb dX5_points_19 (by decide) (fun hc => ?_) (fun hc => ?_)
    · replace hf := sc_ip hc hf
      refine lv_iload_n hx hb dX5_points_85 rfl (lv_at hl 2 rfl) ?_
      exact sc_reti hR hf hW dX5_points_86
    · replace hf := sc_in hc hf
      refine lv_iconst (v := (0 : Int32)) hx hb dX5_points_22 (by decide) ?_
      refine lv_istore (lv' := [(4, .int (0 : Int32)), (0, .ref (h 0)), (1, .int x1), (2, .int x2), (3, .int x3)]) hx hb dX5_points_23 hl (by decide) rfl (fun ls hl => ?_)
      exact wk_X5_points_25 C0 hR ih sc_FU _ _ _ _ _ _ _ _ hf hW (lv_sub hl [1, 2, 3, 4, 0] rfl)
set_option maxHeartbeats 4000000 in
set_option maxRecDepth 100000 in
theorem wk_X5_points_0 (C0 : CallFix p m c cX5_points 5 s args wsX5_points RX5) {S' : sc_M} {r : Int32} (hR : sc_Ri p l e rm_X5_points s m args below meth c Q cX5_points (sc_EM dC dI h cy) S' r) : ∀ (S : sc_M) (x1 : Int32) (H : Heap) (locs : List Loc) (ls : Array Slot), fn_X5_points S x1 = some (r, S') → sc_W (sc_EM dC dI h cy) s H locs S → lv_has ls 5 [(0, .ref (h 0)), (1, .int x1)] → W p l e rm_X5_points s m args below meth c H locs 0 0 Q (F0 m 0 ls []) := by
  obtain ⟨hx, hb, hml, hown, hts⟩ := id C0
  intro S x1 H locs ls hf hW hl
  rw [fn_X5_points] at hf
  refine lv_aload_n hx hb dX5_points_0 rfl (lv_at hl 0 rfl) ?_
  refine lv_iload_n hx hb dX5_points_1 rfl (lv_at hl 1 rfl) ?_
  obtain ⟨r2, S2, hc, hf⟩ := sc_cl_s hf
  refine sc_callVi (As := [.int x1]) (rest := []) (q0 := 0) (ci := 4) sc_okM C0 hW (ct_X5_noOne hc) (cwV 1 hts gX5_points_X5_noOne rfl rfl rfl (by decide +kernel) ⟨Nat.le_of_ble_eq_true rfl, Nat.le_of_ble_eq_true rfl⟩) rfl rfl rfl rfl hl.1 rfl (Nat.le_of_ble_eq_true rfl) dX5_points_2 (fun H locs hW => ?_)
  refine lv_if_eq (tgt := 10) hx hb dX5_points_5 (by decide) (fun hc => ?_) (fun hc => ?_)
  · replace hf := sc_ip hc hf
    refine lv_iconst (v := (0 : Int32)) hx hb dX5_points_10 (by decide) ?_
    refine lv_istore_n (lv' := [(2, .int (0 : Int32)), (0, .ref (h 0)), (1, .int x1)]) hx hb dX5_points_11 rfl hl (by decide) rfl (fun ls hl => ?_)
    refine lv_iconst (v := (0 : Int32)) hx hb dX5_points_12 (by decide) ?_
    refine lv_istore_n (lv' := [(3, .int (0 : Int32)), (2, .int (0 : Int32)), (0, .ref (h 0)), (1, .int x1)]) hx hb dX5_points_13 rfl hl (by decide) rfl (fun ls hl => ?_)
    exact wk_X5_points_14 C0 hR  sc_FU _ _ _ _ _ _ _ hf hW (lv_sub hl [2, 3, 1, 0] rfl)
  · replace hf := sc_in hc hf
    refine lv_iconst (v := (-1 : Int32)) hx hb dX5_points_8 (by decide) ?_
    exact sc_reti hR hf hW dX5_points_9
set_option maxRecDepth 100000 in
theorem ct_X5_points {S S' : sc_M} {r : Int32} {x1 : Int32} (hf : fn_X5_points S x1 = some (r, S')) : sc_Ci l yX5_points wsX5_points rm_X5_points (sc_EM dC dI h cy) [.ref (h 0), .int x1] S S' r := by
  refine sc_ofi (cc := cX5_points) (maxL := 5) .int rfl sc_okM (by decide) rfl (Nat.le_of_ble_eq_true rfl) ?_
  intro p e s m below meth c Q C0 hR hW ls hl
  exact wk_X5_points_0 C0 hR _ _ _ _ _ hf hW hl
end
