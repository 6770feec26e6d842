/-! ===== SeatCounts$House.beatenBy(I)I ===== -/
abbrev rm_X0_beatenBy : Room := { frames := 1, cells := 0, slots := 0, locals := 25 }
theorem lk_X0_beatenBy_35 : Cond.fieldLink RX0 35 "SeatCounts$House" "candidates" "I" ∈ wsX0_beatenBy := by decide +kernel
theorem lk_X0_beatenBy_9 : Cond.fieldLink RX0 9 "SeatCounts$House" "withdrawn" "[Z" ∈ wsX0_beatenBy := by decide +kernel
theorem ni_X0_beatenBy_X0 : ∀ w ∈ wsX00, w ∈ wsX0_beatenBy := by decide +kernel
noncomputable def fn_X0_beatenBy_4 : Nat → sc_M → Int32 → Int32 → Int32 → Option (Int32 × sc_M)
  | 0, _, _, _, _ => none
  | n + 1, S, x1, x2, x3 =>
    if (sc_gi S 0) ≤ x3 then
      some (x2, S)
    else
      if x3 = x1 then
        fn_X0_beatenBy_4 n S x1 x2 (x3 + 1)
      else
        sc_ck x3 12 (if (sc_ga S 4 x3.toNatClampNeg) = 0 then
          sc_cl (fn_X0_papersFor S x1 x3) (fun r29 S29 => sc_cl (fn_X0_papersFor S29 x3 x1) (fun r35 S35 => if r29 ≤ r35 then
            fn_X0_beatenBy_4 n S35 x1 x2 (x3 + 1)
          else
            sc_sq ((x2 ||| ((1 : Int32) <<< (x3 &&& 31)))) (fun y46 => fn_X0_beatenBy_4 n S35 x1 y46 (x3 + 1))))
        else
          fn_X0_beatenBy_4 n S x1 x2 (x3 + 1))
noncomputable def fn_X0_beatenBy (S : sc_M) (x1 : Int32) : Option (Int32 × sc_M) :=
  fn_X0_beatenBy_4 sc_FU S x1 (0 : Int32) (0 : Int32)
section
variable {p : Program} {l : Launch} {e : Env} {s : State} {m : MethodId} {args : Array Value} {below : List Frame} {meth : Method} {c : Code} {Q : State → Prop} {dC : Nat → ClassId} {dI : Nat → Nat → Nat} {h : Nat → Nat} {cy : Nat → ClassId}
set_option maxHeartbeats 4000000 in
set_option maxRecDepth 100000 in
theorem wk_X0_beatenBy_4 (C0 : CallFix p m c cX0_beatenBy 4 s args wsX0_beatenBy RX0) {S' : sc_M} {r : Int32} (hR : sc_Ri p l e rm_X0_beatenBy s m args below meth c Q cX0_beatenBy (sc_EX dC dI h cy) S' r) : ∀ n : Nat, ∀ (S : sc_M) (x1 : Int32) (x2 : Int32) (x3 : Int32) (H : Heap) (locs : List Loc) (ls : Array Slot), fn_X0_beatenBy_4 n S x1 x2 x3 = some (r, S') → sc_W (sc_EX dC dI h cy) s H locs S → lv_has ls 4 [(0, .ref (h 1)), (1, .int x1), (2, .int x2), (3, .int x3)] → W p l e rm_X0_beatenBy s m args below meth c H locs 0 0 Q (F0 m 4 ls []) := by
  obtain ⟨hx, hb, hml, hown, hts⟩ := id C0
  intro n
  induction n with
  | zero => intro S x1 x2 x3 H locs ls; intro hf; cases hf
  | succ n ih =>
    intro S x1 x2 x3 H locs ls hf hW hl
    rw [fn_X0_beatenBy_4] at hf
    refine lv_iload_n hx hb dX0_beatenBy_4 rfl (lv_at hl 3 rfl) ?_
    refine lv_aload_n hx hb dX0_beatenBy_5 rfl (lv_at hl 0 rfl) ?_
    refine sc_getX0 C0 hW ni_X0_beatenBy_X0 0 (Nat.le_of_ble_eq_true rfl) lk_X0_beatenBy_35 (v := .int (sc_gi S 0)) rfl dX0_beatenBy_6 ?_
    refine lv_icmp_ge (tgt := 53) hx hb dX0_beatenBy_9 (by decide) (fun hc => ?_) (fun hc => ?_)
    · replace hf := sc_ip hc hf
      refine lv_iload_n hx hb dX0_beatenBy_53 rfl (lv_at hl 2 rfl) ?_
      exact sc_reti hR hf hW dX0_beatenBy_54
    · replace hf := sc_in hc hf
      refine lv_iload_n hx hb dX0_beatenBy_12 rfl (lv_at hl 3 rfl) ?_
      refine lv_iload_n hx hb dX0_beatenBy_13 rfl (lv_at hl 1 rfl) ?_
      refine lv_icmp_eq (tgt := 47) hx hb dX0_beatenBy_14 (by decide) (fun hc => ?_) (fun hc => ?_)
      · replace hf := sc_ip hc hf
        refine lv_iinc (v := (x3 + 1)) (lv' := [(3, .int (x3 + 1)), (0, .ref (h 1)), (1, .int x1), (2, .int x2)]) hx hb dX0_beatenBy_47 hl (k := 3) rfl rfl (by decide) rfl (fun ls hl => ?_)
        refine lv_goto (tgt := 4) hx hb dX0_beatenBy_50 (by decide) ?_
        exact ih _ _ _ _ _ _ _ hf hW (lv_sub hl [1, 2, 3, 0] rfl)
      · replace hf := sc_in hc hf
        refine lv_aload_n hx hb dX0_beatenBy_17 rfl (lv_at hl 0 rfl) ?_
        refine sc_getX0 C0 hW ni_X0_beatenBy_X0 2 (Nat.le_of_ble_eq_true rfl) lk_X0_beatenBy_9 (v := .ref (h 4)) rfl dX0_beatenBy_18 ?_
        refine lv_iload_n hx hb dX0_beatenBy_21 rfl (lv_at hl 3 rfl) ?_
        obtain ⟨hv, hf⟩ := sc_ck_s hf
        refine sc_ldX_4 C0 hW hv dX0_beatenBy_22 ?_
        refine lv_if_ne (tgt := 47) hx hb dX0_beatenBy_23 (by decide) (fun hc => ?_) (fun hc => ?_)
        · replace hf := sc_in hc hf
          refine lv_iinc (v := (x3 + 1)) (lv' := [(3, .int (x3 + 1)), (0, .ref (h 1)), (1, .int x1), (2, .int x2)]) hx hb dX0_beatenBy_47 hl (k := 3) rfl rfl (by decide) rfl (fun ls hl => ?_)
          refine lv_goto (tgt := 4) hx hb dX0_beatenBy_50 (by decide) ?_
          exact ih _ _ _ _ _ _ _ hf hW (lv_sub hl [1, 2, 3, 0] rfl)
        · replace hf := sc_ip hc hf
          refine lv_aload_n hx hb dX0_beatenBy_26 rfl (lv_at hl 0 rfl) ?_
          refine lv_iload_n hx hb dX0_beatenBy_27 rfl (lv_at hl 1 rfl) ?_
          refine lv_iload_n hx hb dX0_beatenBy_28 rfl (lv_at hl 3 rfl) ?_
          obtain ⟨r29, S29, hc, hf⟩ := sc_cl_s hf
          refine sc_callVi (As := [.int x1, .int x3]) (rest := []) (q0 := 1) (ci := 0) sc_okX C0 hW (ct_X0_papersFor hc) (cwV 2 hts gX0_beatenBy_X0_papersFor rfl rfl rfl (by decide +kernel) ⟨Nat.le_of_ble_eq_true rfl, Nat.le_of_ble_eq_true rfl⟩) rfl rfl rfl rfl hl.1 rfl (Nat.le_of_ble_eq_true rfl) dX0_beatenBy_29 (fun H locs hW => ?_)
          refine lv_aload_n hx hb dX0_beatenBy_32 rfl (lv_at hl 0 rfl) ?_
          refine lv_iload_n hx hb dX0_beatenBy_33 rfl (lv_at hl 3 rfl) ?_
          refine lv_iload_n hx hb dX0_beatenBy_34 rfl (lv_at hl 1 rfl) ?_
          obtain ⟨r35, S35, hc, hf⟩ := sc_cl_s hf
          refine sc_callVi (As := [.int x3, .int x1]) (rest := [.int r29]) (q0 := 1) (ci := 0) sc_okX C0 hW (ct_X0_papersFor hc) (cwV 2 hts gX0_beatenBy_X0_papersFor rfl rfl rfl (by decide +kernel) ⟨Nat.le_of_ble_eq_true rfl, Nat.le_of_ble_eq_true rfl⟩) rfl rfl rfl rfl hl.1 rfl (Nat.le_of_ble_eq_true rfl) dX0_beatenBy_35 (fun H locs hW => ?_)
          refine lv_icmp_le (tgt := 47) hx hb dX0_beatenBy_38 (by decide) (fun hc => ?_) (fun hc => ?_)
          · replace hf := sc_ip hc hf
            refine lv_iinc (v := (x3 + 1)) (lv' := [(3, .int (x3 + 1)), (0, .ref (h 1)), (1, .int x1), (2, .int x2)]) hx hb dX0_beatenBy_47 hl (k := 3) rfl rfl (by decide) rfl (fun ls hl => ?_)
            refine lv_goto (tgt := 4) hx hb dX0_beatenBy_50 (by decide) ?_
            exact ih _ _ _ _ _ _ _ hf hW (lv_sub hl [1, 2, 3, 0] rfl)
          · replace hf := sc_in hc hf
            refine lv_iload_n hx hb dX0_beatenBy_41 rfl (lv_at hl 2 rfl) ?_
            refine lv_iconst (v := (1 : Int32)) hx hb dX0_beatenBy_42 (by decide) ?_
            refine lv_iload_n hx hb dX0_beatenBy_43 rfl (lv_at hl 3 rfl) ?_
            refine lv_ishl hx hb dX0_beatenBy_44 ?_
            refine lv_ior hx hb dX0_beatenBy_45 ?_
            obtain ⟨y46, ey46, hf⟩ := sc_sq_s hf
            refine sc_topi ey46 ?_
            refine lv_istore_n (lv' := [(2, .int y46), (0, .ref (h 1)), (1, .int x1), (3, .int x3)]) hx hb dX0_beatenBy_46 rfl hl (by decide) rfl (fun ls hl => ?_)
            refine lv_iinc (v := (x3 + 1)) (lv' := [(3, .int (x3 + 1)), (2, .int y46), (0, .ref (h 1)), (1, .int x1)]) hx hb dX0_beatenBy_47 hl (k := 3) rfl rfl (by decide) rfl (fun ls hl => ?_)
            refine lv_goto (tgt := 4) hx hb dX0_beatenBy_50 (by decide) ?_
            exact ih _ _ _ _ _ _ _ hf hW (lv_sub hl [2, 3, 1, 0] rfl)
set_option maxHeartbeats 4000000 in
set_option maxRecDepth 100000 in
theorem wk_X0_beatenBy_0 (C0 : CallFix p m c cX0_beatenBy 4 s args wsX0_beatenBy RX0) {S' : sc_M} {r : Int32} (hR : sc_Ri p l e rm_X0_beatenBy s m args below meth c Q cX0_beatenBy (sc_EX dC dI h cy) S' r) : ∀ (S : sc_M) (x1 : Int32) (H : Heap) (locs : List Loc) (ls : Array Slot), fn_X0_beatenBy S x1 = some (r, S') → sc_W (sc_EX dC dI h cy) s H locs S → lv_has ls 4 [(0, .ref (h 1)), (1, .int x1)] → W p l e rm_X0_beatenBy s m args below meth c H locs 0 0 Q (F0 m 0 ls []) := by
  obtain ⟨hx, hb, hml, hown, hts⟩ := id C0
  intro S x1 H locs ls hf hW hl
  rw [fn_X0_beatenBy] at hf
  refine lv_iconst (v := (0 : Int32)) hx hb dX0_beatenBy_0 (by decide) ?_
  refine lv_istore_n (lv' := [(2, .int (0 : Int32)), (0, .ref (h 1)), (1, .int x1)]) hx hb dX0_beatenBy_1 rfl hl (by decide) rfl (fun ls hl => ?_)
  refine lv_iconst (v := (0 : Int32)) hx hb dX0_beatenBy_2 (by decide) ?_
  refine lv_istore_n (lv' := [(3, .int (0 : Int32)), (2, .int (0 : Int32)), (0, .ref (h 1)), (1, .int x1)]) hx hb dX0_beatenBy_3 rfl hl (by decide) rfl (fun ls hl => ?_)
  exact wk_X0_beatenBy_4 C0 hR  sc_FU _ _ _ _ _ _ _ hf hW (lv_sub hl [2, 3, 1, 0] rfl)
set_option maxRecDepth 100000 in
theorem ct_X0_beatenBy {S S' : sc_M} {r : Int32} {x1 : Int32} (hf : fn_X0_beatenBy S x1 = some (r, S')) : sc_Ci l yX0_beatenBy wsX0_beatenBy rm_X0_beatenBy (sc_EX dC dI h cy) [.ref (h 1), .int x1] S S' r := by
  refine sc_ofi (cc := cX0_beatenBy) (maxL := 4) .int rfl sc_okX (by decide) rfl (Nat.le_of_ble_eq_true rfl) ?_
  intro p e s m below meth c Q C0 hR hW ls hl
  exact wk_X0_beatenBy_0 C0 hR _ _ _ _ _ hf hW hl
end

/-! ===== SeatCounts$House.firstIn(I)I ===== -/
abbrev rm_X0_firstIn : Room := { frames := 0, cells := 0, slots := 0, locals := 0 }
theorem lk_X0_firstIn_35 : Cond.fieldLink RX0 35 "SeatCounts$House" "candidates" "I" ∈ wsX0_firstIn := by decide +kernel
theorem ni_X0_firstIn_X0 : ∀ w ∈ wsX00, w ∈ wsX0_firstIn := by decide +kernel
noncomputable def fn_X0_firstIn_2 : Nat → sc_M → Int32 → Int32 → Option (Int32 × sc_M)
  | 0, _, _, _ => none
  | n + 1, S, x1, x2 =>
    if (sc_gi S 0) ≤ x2 then
      some ((-9 : Int32), S)
    else
      if (x1 &&& ((1 : Int32) <<< (x2 &&& 31))) = 0 then
        fn_X0_firstIn_2 n S x1 (x2 + 1)
      else
        some (x2, S)
noncomputable def fn_X0_firstIn (S : sc_M) (x1 : Int32) : Option (Int32 × sc_M) :=
  fn_X0_firstIn_2 sc_FU S x1 (0 : Int32)
section
variable {p : Program} {l : Launch} {e : Env} {s : State} {m : MethodId} {args : Array Value} {below : List Frame} {meth : Method} {c : Code} {Q : State → Prop} {dC : Nat → ClassId} {dI : Nat → Nat → Nat} {h : Nat → Nat} {cy : Nat → ClassId}
set_option maxHeartbeats 4000000 in
set_option maxRecDepth 100000 in
theorem wk_X0_firstIn_2 (C0 : CallFix p m c cX0_firstIn 3 s args wsX0_firstIn RX0) {S' : sc_M} {r : Int32} (hR : sc_Ri p l e rm_X0_firstIn s m args below meth c Q cX0_firstIn (sc_EX dC dI h cy) S' r) : ∀ n : Nat, ∀ (S : sc_M) (x1 : Int32) (x2 : Int32) (H : Heap) (locs : List Loc) (ls : Array Slot), fn_X0_firstIn_2 n S x1 x2 = some (r, S') → sc_W (sc_EX dC dI h cy) s H locs S → lv_has ls 3 [(0, .ref (h 1)), (1, .int x1), (2, .int x2)] → W p l e rm_X0_firstIn s m args below meth c H locs 0 0 Q (F0 m 2 ls []) := by
  obtain ⟨hx, hb, hml, hown, hts⟩ := id C0
  intro n
  induction n with
  | zero => intro S x1 x2 H locs ls; intro hf; cases hf
  | succ n ih =>
    intro S x1 x2 H locs ls hf hW hl
    rw [fn_X0_firstIn_2] at hf
    refine lv_iload_n hx hb dX0_firstIn_2 rfl (lv_at hl 2 rfl) ?_
    refine lv_aload_n hx hb dX0_firstIn_3 rfl (lv_at hl 0 rfl) ?_
    refine sc_getX0 C0 hW ni_X0_firstIn_X0 0 (Nat.le_of_ble_eq_true rfl) lk_X0_firstIn_35 (v := .int (sc_gi S 0)) rfl dX0_firstIn_4 ?_
    refine lv_icmp_ge (tgt := 26) hx hb dX0_firstIn_7 (by decide) (fun hc => ?_) (fun hc => ?_)
    · replace hf := sc_ip hc hf
      refine lv_bipush (v := (-9 : Int32)) hx hb dX0_firstIn_26 (by decide) ?_
      exact sc_reti hR hf hW dX0_firstIn_28
    · replace hf := sc_in hc hf
      refine lv_iload_n hx hb dX0_firstIn_10 rfl (lv_at hl 1 rfl) ?_
      refine lv_iconst (v := (1 : Int32)) hx hb dX0_firstIn_11 (by decide) ?_
      refine lv_iload_n hx hb dX0_firstIn_12 rfl (lv_at hl 2 rfl) ?_
      refine lv_ishl hx hb dX0_firstIn_13 ?_
      refine lv_iand hx hb dX0_firstIn_14 ?_
      refine lv_if_eq (tgt := 20) hx hb dX0_firstIn_15 (by decide) (fun hc => ?_) (fun hc => ?_)
      · replace hf := sc_ip hc hf
        refine lv_iinc (v := (x2 + 1)) (lv' := [(2, .int (x2 + 1)), (0, .ref (h 1)), (1, .int x1)]) hx hb dX0_firstIn_20 hl (k := 2) rfl rfl (by decide) rfl (fun ls hl => ?_)
        refine lv_goto (tgt := 2) hx hb dX0_firstIn_23 (by decide) ?_
        exact ih _ _ _ _ _ _ hf hW (lv_sub hl [1, 2, 0] rfl)
      · replace hf := sc_in hc hf
        refine lv_iload_n hx hb dX0_firstIn_18 rfl (lv_at hl 2 rfl) ?_
        exact sc_reti hR hf hW dX0_firstIn_19
set_option maxHeartbeats 4000000 in
set_option maxRecDepth 100000 in
theorem wk_X0_firstIn_0 (C0 : CallFix p m c cX0_firstIn 3 s args wsX0_firstIn RX0) {S' : sc_M} {r : Int32} (hR : sc_Ri p l e rm_X0_firstIn s m args below meth c Q cX0_firstIn (sc_EX dC dI h cy) S' r) : ∀ (S : sc_M) (x1 : Int32) (H : Heap) (locs : List Loc) (ls : Array Slot), fn_X0_firstIn S x1 = some (r, S') → sc_W (sc_EX dC dI h cy) s H locs S → lv_has ls 3 [(0, .ref (h 1)), (1, .int x1)] → W p l e rm_X0_firstIn s m args below meth c H locs 0 0 Q (F0 m 0 ls []) := by
  obtain ⟨hx, hb, hml, hown, hts⟩ := id C0
  intro S x1 H locs ls hf hW hl
  rw [fn_X0_firstIn] at hf
  refine lv_iconst (v := (0 : Int32)) hx hb dX0_firstIn_0 (by decide) ?_
  refine lv_istore_n (lv' := [(2, .int (0 : Int32)), (0, .ref (h 1)), (1, .int x1)]) hx hb dX0_firstIn_1 rfl hl (by decide) rfl (fun ls hl => ?_)
  exact wk_X0_firstIn_2 C0 hR  sc_FU _ _ _ _ _ _ hf hW (lv_sub hl [1, 2, 0] rfl)
set_option maxRecDepth 100000 in
theorem ct_X0_firstIn {S S' : sc_M} {r : Int32} {x1 : Int32} (hf : fn_X0_firstIn S x1 = some (r, S')) : sc_Ci l yX0_firstIn wsX0_firstIn rm_X0_firstIn (sc_EX dC dI h cy) [.ref (h 1), .int x1] S S' r := by
  refine sc_ofi (cc := cX0_firstIn) (maxL := 3) .int rfl sc_okX (by decide) rfl (Nat.le_of_ble_eq_true rfl) ?_
  intro p e s m below meth c Q C0 hR hW ls hl
  exact wk_X0_firstIn_0 C0 hR _ _ _ _ _ hf hW hl
end

/-! ===== SeatCounts$House.ledBy(I)I ===== -/
abbrev rm_X0_ledBy : Room := { frames := 2, cells := 0, slots := 0, locals := 48 }
theorem lk_X0_ledBy_35 : Cond.fieldLink RX0 35 "SeatCounts$House" "candidates" "I" ∈ wsX0_ledBy := by decide +kernel
theorem lk_X0_ledBy_9 : Cond.fieldLink RX0 9 "SeatCounts$House" "withdrawn" "[Z" ∈ wsX0_ledBy := by decide +kernel
theorem ni_X0_ledBy_X0 : ∀ w ∈ wsX00, w ∈ wsX0_ledBy := by decide +kernel
noncomputable def fn_X0_ledBy_24 : Nat → sc_M → Int32 → Int32 → Int32 → Option (Int32 × sc_M)
  | 0, _, _, _, _ => none
  | n + 1, S, x2, x3, x4 =>
    if (sc_gi S 0) ≤ x4 then
      some (x2, S)
    else
      sc_cl (fn_X0_firstIn S (x2 &&& (x3 ^^^ (-1 : Int32)))) (fun r39 S39 => if r39 = (-9 : Int32) then
        some (x2, S39)
      else
        sc_cl (fn_X0_beatenBy S39 r39) (fun r57 S57 => sc_sq ((x2 ||| r57)) (fun y61 => sc_sq ((x3 ||| ((1 : Int32) <<< (r39 &&& 31)))) (fun y68 => fn_X0_ledBy_24 n S57 y61 y68 (x4 + 1)))))
noncomputable def fn_X0_ledBy (S : sc_M) (x1 : Int32) : Option (Int32 × sc_M) :=
  sc_ck x1 12 (if (sc_ga S 4 x1.toNatClampNeg) = 0 then
    sc_cl (fn_X0_beatenBy S x1) (fun r13 S13 => sc_sq (((1 : Int32) <<< (x1 &&& 31))) (fun y20 => fn_X0_ledBy_24 sc_FU S13 r13 y20 (1 : Int32)))
  else
    some ((0 : Int32), S))
section
variable {p : Program} {l : Launch} {e : Env} {s : State} {m : MethodId} {args : Array Value} {below : List Frame} {meth : Method} {c : Code} {Q : State → Prop} {dC : Nat → ClassId} {dI : Nat → Nat → Nat} {h : Nat → Nat} {cy : Nat → ClassId}
set_option maxHeartbeats 4000000 in
set_option maxRecDepth 100000 in
theorem wk_X0_ledBy_24 (C0 : CallFix p m c cX0_ledBy 6 s args wsX0_ledBy RX0) {S' : sc_M} {r : Int32} (hR : sc_Ri p l e rm_X0_ledBy s m args below meth c Q cX0_ledBy (sc_EX dC dI h cy) S' r) : ∀ n : Nat, ∀ (S : sc_M) (x2 : Int32) (x3 : Int32) (x4 : Int32) (H : Heap) (locs : List Loc) (ls : Array Slot), fn_X0_ledBy_24 n S x2 x3 x4 = some (r, S') → sc_W (sc_EX dC dI h cy) s H locs S → lv_has ls 6 [(0, .ref (h 1)), (2, .int x2), (3, .int x3), (4, .int x4)] → W p l e rm_X0_ledBy s m args below meth c H locs 0 0 Q (F0 m 24 ls []) := by
  obtain ⟨hx, hb, hml, hown, hts⟩ := id C0
  intro n
  induction n with
  | zero => intro S x2 x3 x4 H locs ls; intro hf; cases hf
  | succ n ih =>
    intro S x2 x3 x4 H locs ls hf hW hl
    rw [fn_X0_ledBy_24] at hf
    refine lv_iload hx hb dX0_ledBy_24 (lv_at hl 3 rfl) ?_
    refine lv_aload_n hx hb dX0_ledBy_26 rfl (lv_at hl 0 rfl) ?_
    refine sc_getX0 C0 hW ni_X0_ledBy_X0 0 (Nat.le_of_ble_eq_true rfl) lk_X0_ledBy_35 (v := .int (sc_gi S 0)) rfl dX0_ledBy_27 ?_
    refine lv_icmp_ge (tgt := 75) hx hb dX0_ledBy_30 (by decide) (fun hc => ?_) (fun hc => ?_)
    · replace hf := sc_ip hc hf
      refine lv_iload_n hx hb dX0_ledBy_75 rfl (lv_at hl 1 rfl) ?_
      exact sc_reti hR hf hW dX0_ledBy_76
    · replace hf := sc_in hc hf
      refine lv_aload_n hx hb dX0_ledBy_33 rfl (lv_at hl 0 rfl) ?_
      refine lv_iload_n hx hb dX0_ledBy_34 rfl (lv_at hl 1 rfl) ?_
      refine lv_iload_n hx hb dX0_ledBy_35 rfl (lv_at hl 2 rfl) ?_
      refine lv_iconst (v := (-1 : Int32)) hx hb dX0_ledBy_36 (by decide) ?_
      refine lv_ixor hx hb dX0_ledBy_37 ?_
      refine lv_iand hx hb dX0_ledBy_38 ?_
      obtain ⟨r39, S39, hc, hf⟩ := sc_cl_s hf
      refine sc_callVi (As := [.int (x2 &&& (x3 ^^^ (-1 : Int32)))]) (rest := []) (q0 := 1) (ci := 0) sc_okX C0 hW (ct_X0_firstIn hc) (cwV 1 hts gX0_ledBy_X0_firstIn rfl rfl rfl (by decide +kernel) ⟨Nat.le_of_ble_eq_true rfl, Nat.le_of_ble_eq_true rfl⟩) rfl rfl rfl rfl hl.1 rfl (Nat.le_of_ble_eq_true rfl) dX0_ledBy_39 (fun H locs hW => ?_)
      refine lv_istore (lv' := [(5, .int r39), (0, .ref (h 1)), (2, .int x2), (3, .int x3), (4, .int x4)]) hx hb dX0_ledBy_42 hl (by decide) rfl (fun ls hl => ?_)
      refine lv_iload hx hb dX0_ledBy_44 (lv_at hl 0 rfl) ?_
      refine lv_bipush (v := (-9 : Int32)) hx hb dX0_ledBy_46 (by decide) ?_
      refine lv_icmp_ne (tgt := 53) hx hb dX0_ledBy_48 (by decide) (fun hc => ?_) (fun hc => ?_)
      · replace hf := sc_in hc hf
        refine lv_iload_n hx hb dX0_ledBy_53 rfl (lv_at hl 2 rfl) ?_
        refine lv_aload_n hx hb dX0_ledBy_54 rfl (lv_at hl 1 rfl) ?_
        refine lv_iload hx hb dX0_ledBy_55 (lv_at hl 0 rfl) ?_
        obtain ⟨r57, S57, hc, hf⟩ := sc_cl_s hf
        refine sc_callVi (As := [.int r39]) (rest := [.int x2]) (q0 := 1) (ci := 0) sc_okX C0 hW (ct_X0_beatenBy hc) (cwV 1 hts gX0_ledBy_X0_beatenBy rfl rfl rfl (by decide +kernel) ⟨Nat.le_of_ble_eq_true rfl, Nat.le_of_ble_eq_true rfl⟩) rfl rfl rfl rfl hl.1 rfl (Nat.le_of_ble_eq_true rfl) dX0_ledBy_57 (fun H locs hW => ?_)
        refine lv_ior hx hb dX0_ledBy_60 ?_
        obtain ⟨y61, ey61, hf⟩ := sc_sq_s hf
        refine sc_topi ey61 ?_
        refine lv_istore_n (lv' := [(2, .int y61), (5, .int r39), (0, .ref (h 1)), (3, .int x3), (4, .int x4)]) hx hb dX0_ledBy_61 rfl hl (by decide) rfl (fun ls hl => ?_)
        refine lv_iload_n hx hb dX0_ledBy_62 rfl (lv_at hl 3 rfl) ?_
        refine lv_iconst (v := (1 : Int32)) hx hb dX0_ledBy_63 (by decide) ?_
        refine lv_iload hx hb dX0_ledBy_64 (lv_at hl 1 rfl) ?_
        refine lv_ishl hx hb dX0_ledBy_66 ?_
        refine lv_ior hx hb dX0_ledBy_67 ?_
        obtain ⟨y68, ey68, hf⟩ := sc_sq_s hf
        refine sc_topi ey68 ?_
        refine lv_istore_n (lv' := [(3, .int y68), (2, .int y61), (5, .int r39), (0, .ref (h 1)), (4, .int x4)]) hx hb dX0_ledBy_68 rfl hl (by decide) rfl (fun ls hl => ?_)
        refine lv_iinc (v := (x4 + 1)) (lv' := [(4, .int (x4 + 1)), (3, .int y68), (2, .int y61), (5, .int r39), (0, .ref (h 1))]) hx hb dX0_ledBy_69 hl (k := 4) rfl rfl (by decide) rfl (fun ls hl => ?_)
        refine lv_goto (tgt := 24) hx hb dX0_ledBy_72 (by decide) ?_
        exact ih _ _ _ _ _ _ _ hf hW (lv_sub hl [4, 2, 1, 0] rfl)
      · replace hf := sc_ip hc hf
        refine lv_iload_n hx hb dX0_ledBy_51 rfl (lv_at hl 2 rfl) ?_
        exact sc_reti hR hf hW dX0_ledBy_52
set_option maxHeartbeats 4000000 in
set_option maxRecDepth 100000 in
theorem wk_X0_ledBy_0 (C0 : CallFix p m c cX0_ledBy 6 s args wsX0_ledBy RX0) {S' : sc_M} {r : Int32} (hR : sc_Ri p l e rm_X0_ledBy s m args below meth c Q cX0_ledBy (sc_EX dC dI h cy) S' r) : ∀ (S : sc_M) (x1 : Int32) (H : Heap) (locs : List Loc) (ls : Array Slot), fn_X0_ledBy S x1 = some (r, S') → sc_W (sc_EX dC dI h cy) s H locs S → lv_has ls 6 [(0, .ref (h 1)), (1, .int x1)] → W p l e rm_X0_ledBy s m args below meth c H locs 0 0 Q (F0 m 0 ls []) := by
  obtain ⟨hx, hb, hml, hown, hts⟩ := id C0
  intro S x1 H locs ls hf hW hl
  rw [fn_X0_ledBy] at hf
  refine lv_aload_n hx hb dX0_ledBy_0 rfl (lv_at hl 0 rfl) ?_
  refine sc_getX0 C0 hW ni_X0_ledBy_X0 2 (Nat.le_of_ble_eq_true rfl) lk_X0_ledBy_9 (v := .ref (h 4)) rfl dX0_ledBy_1 ?_
  refine lv_iload_n hx hb dX0_ledBy_4 rfl (lv_at hl 1 rfl) ?_
  obtain ⟨hv, hf⟩ := sc_ck_s hf
  refine sc_ldX_4 C0 hW hv dX0_ledBy_5 ?_
  refine lv_if_eq (tgt := 11) hx hb dX0_ledBy_6 (by decide) (fun hc => ?_) (fun hc => ?_)
  · replace hf := sc_ip hc hf
    refine lv_aload_n hx hb dX0_ledBy_11 rfl (lv_at hl 0 rfl) ?_
    refine lv_iload_n hx hb dX0_ledBy_12 rfl (lv_at hl 1 rfl) ?_
    obtain ⟨r13, S13, hc, hf⟩ := sc_cl_s hf
    refine sc_callVi (As := [.int x1]) (rest := []) (q0 := 1) (ci := 0) sc_okX C0 hW (ct_X0_beatenBy hc) (cwV 1 hts gX0_ledBy_X0_beatenBy rfl rfl rfl (by decide +kernel) ⟨Nat.le_of_ble_eq_true rfl, Nat.le_of_ble_eq_true rfl⟩) rfl rfl rfl rfl hl.1 rfl (Nat.le_of_ble_eq_true rfl) dX0_ledBy_13 (fun H locs hW => ?_)
    refine lv_istore_n (lv' := [(2, .int r13), (0, .ref (h 1)), (1, .int x1)]) hx hb dX0_ledBy_16 rfl hl (by decide) rfl (fun ls hl => ?_)
    refine lv_iconst (v := (1 : Int32)) hx hb dX0_ledBy_17 (by decide) ?_
    refine lv_iload_n hx hb dX0_ledBy_18 rfl (lv_at hl 2 rfl) ?_
    refine lv_ishl hx hb dX0_ledBy_19 ?_
    obtain ⟨y20, ey20, hf⟩ := sc_sq_s hf
    refine sc_topi ey20 ?_
    refine lv_istore_n (lv' := [(3, .int y20), (2, .int r13), (0, .ref (h 1)), (1, .int x1)]) hx hb dX0_ledBy_20 rfl hl (by decide) rfl (fun ls hl => ?_)
    refine lv_iconst (v := (1 : Int32)) hx hb dX0_ledBy_21 (by decide) ?_
    refine lv_istore (lv' := [(4, .int (1 : Int32)), (3, .int y20), (2, .int r13), (0, .ref (h 1)), (1, .int x1)]) hx hb dX0_ledBy_22 hl (by decide) rfl (fun ls hl => ?_)
    exact wk_X0_ledBy_24 C0 hR  sc_FU _ _ _ _ _ _ _ hf hW (lv_sub hl [3, 2, 1, 0] rfl)
  · replace hf := sc_in hc hf
    refine lv_iconst (v := (0 : Int32)) hx hb dX0_ledBy_9 (by decide) ?_
    exact sc_reti hR hf hW dX0_ledBy_10
set_option maxRecDepth 100000 in
theorem ct_X0_ledBy {S S' : sc_M} {r : Int32} {x1 : Int32} (hf : fn_X0_ledBy S x1 = some (r, S')) : sc_Ci l yX0_ledBy wsX0_ledBy rm_X0_ledBy (sc_EX dC dI h cy) [.ref (h 1), .int x1] S S' r := by
  refine sc_ofi (cc := cX0_ledBy) (maxL := 6) .int rfl sc_okX (by decide) rfl (Nat.le_of_ble_eq_true rfl) ?_
  intro p e s m below meth c Q C0 hR hW ls hl
  exact wk_X0_ledBy_0 C0 hR _ _ _ _ _ hf hW hl
end

/-! ===== SeatCounts$House.pointsOf(I)I ===== -/
abbrev rm_X0_pointsOf : Room := { frames := 1, cells := 0, slots := 0, locals := 25 }
theorem lk_X0_pointsOf_35 : Cond.fieldLink RX0 35 "SeatCounts$House" "candidates" "I" ∈ wsX0_pointsOf := by decide +kernel
theorem lk_X0_pointsOf_9 : Cond.fieldLink RX0 9 "SeatCounts$House" "withdrawn" "[Z" ∈ wsX0_pointsOf := by decide +kernel
theorem ni_X0_pointsOf_X0 : ∀ w ∈ wsX00, w ∈ wsX0_pointsOf := by decide +kernel
noncomputable def fn_X0_pointsOf_4 : Nat → sc_M → Int32 → Int32 → Int32 → Option (Int32 × sc_M)
  | 0, _, _, _, _ => none
  | n + 1, S, x1, x2, x3 =>
    if (sc_gi S 0) ≤ x3 then
      some (x2, S)
    else
      if x3 = x1 then
        fn_X0_pointsOf_4 n S x1 x2 (x3 + 1)
      else
        sc_ck x3 12 (if (sc_ga S 4 x3.toNatClampNeg) = 0 then
          sc_cl (fn_X0_papersFor S x1 x3) (fun r30 S30 => sc_sq ((x2 + r30)) (fun y34 => fn_X0_pointsOf_4 n S30 x1 y34 (x3 + 1)))
        else
          fn_X0_pointsOf_4 n S x1 x2 (x3 + 1))
noncomputable def fn_X0_pointsOf (S : sc_M) (x1 : Int32) : Option (Int32 × sc_M) :=
  fn_X0_pointsOf_4 sc_FU S x1 (0 : Int32) (0 : Int32)
section
variable {p : Program} {l : Launch} {e : Env} {s : State} {m : MethodId} {args : Array Value} {below : List Frame} {meth : Method} {c : Code} {Q : State → Prop} {dC : Nat → ClassId} {dI : Nat → Nat → Nat} {h : Nat → Nat} {cy : Nat → ClassId}
set_option maxHeartbeats 4000000 in
set_option maxRecDepth 100000 in
theorem wk_X0_pointsOf_4 (C0 : CallFix p m c cX0_pointsOf 4 s args wsX0_pointsOf RX0) {S' : sc_M} {r : Int32} (hR : sc_Ri p l e rm_X0_pointsOf s m args below meth c Q cX0_pointsOf (sc_EX dC dI h cy) S' r) : ∀ n : Nat, ∀ (S : sc_M) (x1 : Int32) (x2 : Int32) (x3 : Int32) (H : Heap) (locs : List Loc) (ls : Array Slot), fn_X0_pointsOf_4 n S x1 x2 x3 = some (r, S') → sc_W (sc_EX dC dI h cy) s H locs S → lv_has ls 4 [(0, .ref (h 1)), (1, .int x1), (2, .int x2), (3, .int x3)] → W p l e rm_X0_pointsOf s m args below meth c H locs 0 0 Q (F0 m 4 ls []) := by
  obtain ⟨hx, hb, hml, hown, hts⟩ := id C0
  intro n
  induction n with
  | zero => intro S x1 x2 x3 H locs ls; intro hf; cases hf
  | succ n ih =>
    intro S x1 x2 x3 H locs ls hf hW hl
    rw [fn_X0_pointsOf_4] at hf
    refine lv_iload_n hx hb dX0_pointsOf_4 rfl (lv_at hl 3 rfl) ?_
    refine lv_aload_n hx hb dX0_pointsOf_5 rfl (lv_at hl 0 rfl) ?_
    refine sc_getX0 C0 hW ni_X0_pointsOf_X0 0 (Nat.le_of_ble_eq_true rfl) lk_X0_pointsOf_35 (v := .int (sc_gi S 0)) rfl dX0_pointsOf_6 ?_
    refine lv_icmp_ge (tgt := 41) hx hb dX0_pointsOf_9 (by decide) (fun hc => ?_) (fun hc => ?_)
    · replace hf := sc_ip hc hf
      refine lv_iload_n hx hb dX0_pointsOf_41 rfl (lv_at hl 2 rfl) ?_
      exact sc_reti hR hf hW dX0_pointsOf_42
    · replace hf := sc_in hc hf
      refine lv_iload_n hx hb dX0_pointsOf_12 rfl (lv_at hl 3 rfl) ?_
      refine lv_iload_n hx hb dX0_pointsOf_13 rfl (lv_at hl 1 rfl) ?_
      refine lv_icmp_eq (tgt := 35) hx hb dX0_pointsOf_14 (by decide) (fun hc => ?_) (fun hc => ?_)
      · replace hf := sc_ip hc hf
        refine lv_iinc (v := (x3 + 1)) (lv' := [(3, .int (x3 + 1)), (0, .ref (h 1)), (1, .int x1), (2, .int x2)]) hx hb dX0_pointsOf_35 hl (k := 3) rfl rfl (by decide) rfl (fun ls hl => ?_)
        refine lv_goto (tgt := 4) hx hb dX0_pointsOf_38 (by decide) ?_
        exact ih _ _ _ _ _ _ _ hf hW (lv_sub hl [1, 2, 3, 0] rfl)
      · replace hf := sc_in hc hf
        refine lv_aload_n hx hb dX0_pointsOf_17 rfl (lv_at hl 0 rfl) ?_
        refine sc_getX0 C0 hW ni_X0_pointsOf_X0 2 (Nat.le_of_ble_eq_true rfl) lk_X0_pointsOf_9 (v := .ref (h 4)) rfl dX0_pointsOf_18 ?_
        refine lv_iload_n hx hb dX0_pointsOf_21 rfl (lv_at hl 3 rfl) ?_
        obtain ⟨hv, hf⟩ := sc_ck_s hf
        refine sc_ldX_4 C0 hW hv dX0_pointsOf_22 ?_
        refine lv_if_ne (tgt := 35) hx hb dX0_pointsOf_23 (by decide) (fun hc => ?_) (fun hc => ?_)
        · replace hf := sc_in hc hf
          refine lv_iinc (v := (x3 + 1)) (lv' := [(3, .int (x3 + 1)), (0, .ref (h 1)), (1, .int x1), (2, .int x2)]) hx hb dX0_pointsOf_35 hl (k := 3) rfl rfl (by decide) rfl (fun ls hl => ?_)
          refine lv_goto (tgt := 4) hx hb dX0_pointsOf_38 (by decide) ?_
          exact ih _ _ _ _ _ _ _ hf hW (lv_sub hl [1, 2, 3, 0] rfl)
        · replace hf := sc_ip hc hf
          refine lv_iload_n hx hb dX0_pointsOf_26 rfl (lv_at hl 2 rfl) ?_
          refine lv_aload_n hx hb dX0_pointsOf_27 rfl (lv_at hl 0 rfl) ?_
          refine lv_iload_n hx hb dX0_pointsOf_28 rfl (lv_at hl 1 rfl) ?_
          refine lv_iload_n hx hb dX0_pointsOf_29 rfl (lv_at hl 3 rfl) ?_
          obtain ⟨r30, S30, hc, hf⟩ := sc_cl_s hf
          refine sc_callVi (As := [.int x1, .int x3]) (rest := [.int x2]) (q0 := 1) (ci := 0) sc_okX C0 hW (ct_X0_papersFor hc) (cwV 2 hts gX0_pointsOf_X0_papersFor rfl rfl rfl (by decide +kernel) ⟨Nat.le_of_ble_eq_true rfl, Nat.le_of_ble_eq_true rfl⟩) rfl rfl rfl rfl hl.1 rfl (Nat.le_of_ble_eq_true rfl) dX0_pointsOf_30 (fun H locs hW => ?_)
          refine lv_iadd hx hb dX0_pointsOf_33 ?_
          obtain ⟨y34, ey34, hf⟩ := sc_sq_s hf
          refine sc_topi ey34 ?_
          refine lv_istore_n (lv' := [(2, .int y34), (0, .ref (h 1)), (1, .int x1), (3, .int x3)]) hx hb dX0_pointsOf_34 rfl hl (by decide) rfl (fun ls hl => ?_)
          refine lv_iinc (v := (x3 + 1)) (lv' := [(3, .int (x3 + 1)), (2, .int y34), (0, .ref (h 1)), (1, .int x1)]) hx hb dX0_pointsOf_35 hl (k := 3) rfl rfl (by decide) rfl (fun ls hl => ?_)
          refine lv_goto (tgt := 4) hx hb dX0_pointsOf_38 (by decide) ?_
          exact ih _ _ _ _ _ _ _ hf hW (lv_sub hl [2, 3, 1, 0] rfl)
set_option maxHeartbeats 4000000 in
set_option maxRecDepth 100000 in
theorem wk_X0_pointsOf_0 (C0 : CallFix p m c cX0_pointsOf 4 s args wsX0_pointsOf RX0) {S' : sc_M} {r : Int32} (hR : sc_Ri p l e rm_X0_pointsOf s m args below meth c Q cX0_pointsOf (sc_EX dC dI h cy) S' r) : ∀ (S : sc_M) (x1 : Int32) (H : Heap) (locs : List Loc) (ls : Array Slot), fn_X0_pointsOf S x1 = some (r, S') → sc_W (sc_EX dC dI h cy) s H locs S → lv_has ls 4 [(0, .ref (h 1)), (1, .int x1)] → W p l e rm_X0_pointsOf s m args below meth c H locs 0 0 Q (F0 m 0 ls []) := by
  obtain ⟨hx, hb, hml, hown, hts⟩ := id C0
  intro S x1 H locs ls hf hW hl
  rw [fn_X0_pointsOf] at hf
  refine lv_iconst (v := (0 : Int32)) hx hb dX0_pointsOf_0 (by decide) ?_
  refine lv_istore_n (lv' := [(2, .int (0 : Int32)), (0, .ref (h 1)), (1, .int x1)]) hx hb dX0_pointsOf_1 rfl hl (by decide) rfl (fun ls hl => ?_)
  refine lv_iconst (v := (0 : Int32)) hx hb dX0_pointsOf_2 (by decide) ?_
  refine lv_istore_n (lv' := [(3, .int (0 : Int32)), (2, .int (0 : Int32)), (0, .ref (h 1)), (1, .int x1)]) hx hb dX0_pointsOf_3 rfl hl (by decide) rfl (fun ls hl => ?_)
  exact wk_X0_pointsOf_4 C0 hR  sc_FU _ _ _ _ _ _ _ hf hW (lv_sub hl [2, 3, 1, 0] rfl)
set_option maxRecDepth 100000 in
theorem ct_X0_pointsOf {S S' : sc_M} {r : Int32} {x1 : Int32} (hf : fn_X0_pointsOf S x1 = some (r, S')) : sc_Ci l yX0_pointsOf wsX0_pointsOf rm_X0_pointsOf (sc_EX dC dI h cy) [.ref (h 1), .int x1] S S' r := by
  refine sc_ofi (cc := cX0_pointsOf) (maxL := 4) .int rfl sc_okX (by decide) rfl (Nat.le_of_ble_eq_true rfl) ?_
  intro p e s m below meth c Q C0 hR hW ls hl
  exact wk_X0_pointsOf_0 C0 hR _ _ _ _ _ hf hW hl
end

/-! ===== SeatCounts$Journal.hasStage(I)Z ===== -/
abbrev rm_X1_hasStage : Room := { frames := 0, cells := 0, slots := 0, locals := 0 }
theorem lk_X1_hasStage_53 : Cond.fieldLink RX1 53 "SeatCounts$Journal" "stages" "I" ∈ wsX1_hasStage := by decide +kernel
theorem ni_X1_hasStage_X1 : ∀ w ∈ wsX10, w ∈ wsX1_hasStage := by decide +kernel
noncomputable def fn_X1_hasStage_e (S : sc_M) (x1 : Int32) : Option (Int32 × sc_M) :=
  if x1 < 0 then
    some ((0 : Int32), S)
  else
    if (sc_gi S 5) ≤ x1 then
      some ((0 : Int32), S)
    else
      some ((1 : Int32), S)
noncomputable def fn_X1_hasStage (S : sc_M) (x1 : Int32) : Option (Int32 × sc_M) := sc_bz (fn_X1_hasStage_e S x1)
section
variable {p : Program} {l : Launch} {e : Env} {s : State} {m : MethodId} {args : Array Value} {below : List Frame} {meth : Method} {c : Code} {Q : State → Prop} {dC : Nat → ClassId} {dI : Nat → Nat → Nat} {h : Nat → Nat} {cy : Nat → ClassId}
set_option maxHeartbeats 4000000 in
set_option maxRecDepth 100000 in
theorem wk_X1_hasStage_0 (C0 : CallFix p m c cX1_hasStage 2 s args wsX1_hasStage RX1) {S' : sc_M} {r : Int32} (hR : sc_Ri p l e rm_X1_hasStage s m args below meth c Q cX1_hasStage (sc_EX dC dI h cy) S' r) : ∀ (S : sc_M) (x1 : Int32) (H : Heap) (locs : List Loc) (ls : Array Slot), fn_X1_hasStage_e S x1 = some (r, S') → sc_W (sc_EX dC dI h cy) s H locs S → lv_has ls 2 [(0, .ref (h 2)), (1, .int x1)] → W p l e rm_X1_hasStage s m args below meth c H locs 0 0 Q (F0 m 0 ls []) := by
  obtain ⟨hx, hb, hml, hown, hts⟩ := id C0
  intro S x1 H locs ls hf hW hl
  rw [fn_X1_hasStage_e] at hf
  refine lv_iload_n hx hb dX1_hasStage_0 rfl (lv_at hl 1 rfl) ?_
  refine lv_if_lt (tgt := 16) hx hb dX1_hasStage_1 (by decide) (fun hc => ?_) (fun hc => ?_)
  · replace hf := sc_ip hc hf
    refine lv_iconst (v := (0 : Int32)) hx hb dX1_hasStage_16 (by decide) ?_
    exact sc_reti hR hf hW dX1_hasStage_17
  · replace hf := sc_in hc hf
    refine lv_iload_n hx hb dX1_hasStage_4 rfl (lv_at hl 1 rfl) ?_
    refine lv_aload_n hx hb dX1_hasStage_5 rfl (lv_at hl 0 rfl) ?_
    refine sc_getX1 C0 hW ni_X1_hasStage_X1 3 (Nat.le_of_ble_eq_true rfl) lk_X1_hasStage_53 (v := .int (sc_gi S 5)) rfl dX1_hasStage_6 ?_
    refine lv_icmp_ge (tgt := 16) hx hb dX1_hasStage_9 (by decide) (fun hc => ?_) (fun hc => ?_)
    · replace hf := sc_ip hc hf
      refine lv_iconst (v := (0 : Int32)) hx hb dX1_hasStage_16 (by decide) ?_
      exact sc_reti hR hf hW dX1_hasStage_17
    · replace hf := sc_in hc hf
      refine lv_iconst (v := (1 : Int32)) hx hb dX1_hasStage_12 (by decide) ?_
      refine lv_goto (tgt := 17) hx hb dX1_hasStage_13 (by decide) ?_
      exact sc_reti hR hf hW dX1_hasStage_17
set_option maxRecDepth 100000 in
theorem ct_X1_hasStage {S S' : sc_M} {r : Int32} {x1 : Int32} (hf : fn_X1_hasStage S x1 = some (r, S')) : sc_Ci l yX1_hasStage wsX1_hasStage rm_X1_hasStage (sc_EX dC dI h cy) [.ref (h 2), .int x1] S S' r := by
  obtain ⟨hf, h01⟩ := sc_bz_s hf
  refine sc_ofi (cc := cX1_hasStage) (maxL := 2) .boolean (sc_nar01 h01) sc_okX (by decide) rfl (Nat.le_of_ble_eq_true rfl) ?_
  intro p e s m below meth c Q C0 hR hW ls hl
  exact wk_X1_hasStage_0 C0 hR _ _ _ _ _ hf hW hl
end

/-! ===== SeatCounts$Journal.hasCell(II)Z ===== -/
abbrev rm_X1_hasCell : Room := { frames := 1, cells := 0, slots := 0, locals := 21 }
theorem lk_X1_hasCell_60 : Cond.fieldLink RX1 60 "SeatCounts$Journal" "candidates" "I" ∈ wsX1_hasCell := by decide +kernel
theorem ni_X1_hasCell_X1 : ∀ w ∈ wsX10, w ∈ wsX1_hasCell := by decide +kernel
noncomputable def fn_X1_hasCell_e (S : sc_M) (x1 : Int32) (x2 : Int32) : Option (Int32 × sc_M) :=
  sc_cl (fn_X1_hasStage S x1) (fun r2 S2 => if r2 = 0 then
    some ((0 : Int32), S2)
  else
    if x2 < 0 then
      some ((0 : Int32), S2)
    else
      if (sc_gi S2 4) ≤ x2 then
        some ((0 : Int32), S2)
      else
        some ((1 : Int32), S2))
noncomputable def fn_X1_hasCell (S : sc_M) (x1 : Int32) (x2 : Int32) : Option (Int32 × sc_M) := sc_bz (fn_X1_hasCell_e S x1 x2)
section
variable {p : Program} {l : Launch} {e : Env} {s : State} {m : MethodId} {args : Array Value} {below : List Frame} {meth : Method} {c : Code} {Q : State → Prop} {dC : Nat → ClassId} {dI : Nat → Nat → Nat} {h : Nat → Nat} {cy : Nat → ClassId}
set_option maxHeartbeats 4000000 in
set_option maxRecDepth 100000 in
theorem wk_X1_hasCell_0 (C0 : CallFix p m c cX1_hasCell 3 s args wsX1_hasCell RX1) {S' : sc_M} {r : Int32} (hR : sc_Ri p l e rm_X1_hasCell s m args below meth c Q cX1_hasCell (sc_EX dC dI h cy) S' r) : ∀ (S : sc_M) (x1 : Int32) (x2 : Int32) (H : Heap) (locs : List Loc) (ls : Array Slot), fn_X1_hasCell_e S x1 x2 = some (r, S') → sc_W (sc_EX dC dI h cy) s H locs S → lv_has ls 3 [(0, .ref (h 2)), (1, .int x1), (2, .int x2)] → W p l e rm_X1_hasCell s m args below meth c H locs 0 0 Q (F0 m 0 ls []) := by
  obtain ⟨hx, hb, hml, hown, hts⟩ := id C0
  intro S x1 x2 H locs ls hf hW hl
  rw [fn_X1_hasCell_e] at hf
  refine lv_aload_n hx hb dX1_hasCell_0 rfl (lv_at hl 0 rfl) ?_
  refine lv_iload_n hx hb dX1_hasCell_1 rfl (lv_at hl 1 rfl) ?_
  obtain ⟨r2, S2, hc, hf⟩ := sc_cl_s hf
  refine sc_callVi (As := [.int x1]) (rest := []) (q0 := 2) (ci := 1) sc_okX C0 hW (ct_X1_hasStage hc) (cwV 1 hts gX1_hasCell_X1_hasStage rfl rfl rfl (by decide +kernel) ⟨Nat.le_of_ble_eq_true rfl, Nat.le_of_ble_eq_true rfl⟩) rfl rfl rfl rfl hl.1 rfl (Nat.le_of_ble_eq_true rfl) dX1_hasCell_2 (fun H locs hW => ?_)
  refine lv_if_eq (tgt := 24) hx hb dX1_hasCell_5 (by decide) (fun hc => ?_) (fun hc => ?_)
  · replace hf := sc_ip hc hf
    refine lv_iconst (v := (0 : Int32)) hx hb dX1_hasCell_24 (by decide) ?_
    exact sc_reti hR hf hW dX1_hasCell_25
  · replace hf := sc_in hc hf
    refine lv_iload_n hx hb dX1_hasCell_8 rfl (lv_at hl 2 rfl) ?_
    refine lv_if_lt (tgt := 24) hx hb dX1_hasCell_9 (by decide) (fun hc => ?_) (fun hc => ?_)
    · replace hf := sc_ip hc hf
      refine lv_iconst (v := (0 : Int32)) hx hb dX1_hasCell_24 (by decide) ?_
      exact sc_reti hR hf hW dX1_hasCell_25
    · replace hf := sc_in hc hf
      refine lv_iload_n hx hb dX1_hasCell_12 rfl (lv_at hl 2 rfl) ?_
      refine lv_aload_n hx hb dX1_hasCell_13 rfl (lv_at hl 0 rfl) ?_
      refine sc_getX1 C0 hW ni_X1_hasCell_X1 2 (Nat.le_of_ble_eq_true rfl) lk_X1_hasCell_60 (v := .int (sc_gi S2 4)) rfl dX1_hasCell_14 ?_
      refine lv_icmp_ge (tgt := 24) hx hb dX1_hasCell_17 (by decide) (fun hc => ?_) (fun hc => ?_)
      · replace hf := sc_ip hc hf
        refine lv_iconst (v := (0 : Int32)) hx hb dX1_hasCell_24 (by decide) ?_
        exact sc_reti hR hf hW dX1_hasCell_25
      · replace hf := sc_in hc hf
        refine lv_iconst (v := (1 : Int32)) hx hb dX1_hasCell_20 (by decide) ?_
        refine lv_goto (tgt := 25) hx hb dX1_hasCell_21 (by decide) ?_
        exact sc_reti hR hf hW dX1_hasCell_25
set_option maxRecDepth 100000 in
theorem ct_X1_hasCell {S S' : sc_M} {r : Int32} {x1 : Int32} {x2 : Int32} (hf : fn_X1_hasCell S x1 x2 = some (r, S')) : sc_Ci l yX1_hasCell wsX1_hasCell rm_X1_hasCell (sc_EX dC dI h cy) [.ref (h 2), .int x1, .int x2] S S' r := by
  obtain ⟨hf, h01⟩ := sc_bz_s hf
  refine sc_ofi (cc := cX1_hasCell) (maxL := 3) .boolean (sc_nar01 h01) sc_okX (by decide) rfl (Nat.le_of_ble_eq_true rfl) ?_
  intro p e s m below meth c Q C0 hR hW ls hl
  exact wk_X1_hasCell_0 C0 hR _ _ _ _ _ _ hf hW hl
end

/-! ===== SeatCounts$Journal.begin(LSeatCounts$House;II)V ===== -/
abbrev rm_X1_begin : Room := { frames := 0, cells := 0, slots := 0, locals := 0 }
theorem lk_X1_begin_19 : Cond.fieldLink RX1 19 "SeatCounts$Journal" "lots" "[I" ∈ wsX1_begin := by decide +kernel
theorem lk_X1_begin_22 : Cond.fieldLink RX1 22 "SeatCounts$Journal" "kinds" "[I" ∈ wsX1_begin := by decide +kernel
theorem lk_X1_begin_25 : Cond.fieldLink RX1 25 "SeatCounts$Journal" "whose" "[I" ∈ wsX1_begin := by decide +kernel
theorem lk_X1_begin_31 : Cond.fieldLink RX1 31 "SeatCounts$Journal" "untransferable" "[J" ∈ wsX1_begin := by decide +kernel
theorem lk_X1_begin_35 : Cond.fieldLink RX1 35 "SeatCounts$Journal" "lost" "[J" ∈ wsX1_begin := by decide +kernel
theorem lk_X1_begin_41 : Cond.fieldLink RX1 41 "SeatCounts$Journal" "excesses" "[J" ∈ wsX1_begin := by decide +kernel
theorem lk_X1_begin_44 : Cond.fieldLink RX1 44 "SeatCounts$Journal" "votes" "[J" ∈ wsX1_begin := by decide +kernel
theorem lk_X1_begin_47 : Cond.fieldLink RX1 47 "SeatCounts$Journal" "states" "[I" ∈ wsX1_begin := by decide +kernel
theorem lk_X1_begin_50 : Cond.fieldLink RX1 50 "SeatCounts$Journal" "keeps" "[I" ∈ wsX1_begin := by decide +kernel
theorem lk_X1_begin_53 : Cond.fieldLink RX1 53 "SeatCounts$Journal" "stages" "I" ∈ wsX1_begin := by decide +kernel
theorem lk_X1_begin_60 : Cond.fieldLink RX1 60 "SeatCounts$Journal" "candidates" "I" ∈ wsX1_begin := by decide +kernel
theorem lk_X1_begin_63 : Cond.fieldLink RX1 63 "SeatCounts$Journal" "seats" "I" ∈ wsX1_begin := by decide +kernel
theorem lk_X1_begin_66 : Cond.fieldLink RX1 66 "SeatCounts$House" "candidates" "I" ∈ wsX1_begin := by decide +kernel
theorem lk_X1_begin_69 : Cond.fieldLink RX1 69 "SeatCounts$Journal" "electedOnes" "I" ∈ wsX1_begin := by decide +kernel
theorem lk_X1_begin_72 : Cond.fieldLink RX1 72 "SeatCounts$Journal" "row" "I" ∈ wsX1_begin := by decide +kernel
theorem lk_X1_begin_75 : Cond.fieldLink RX1 75 "SeatCounts$House" "withdrawn" "[Z" ∈ wsX1_begin := by decide +kernel
theorem lk_X1_begin_79 : Cond.fieldLink RX1 79 "SeatCounts$House" "lots" "[I" ∈ wsX1_begin := by decide +kernel
theorem lk_X1_begin_80 : Cond.constant RX1 80 (1000000) ∈ wsX1_begin := by decide +kernel
theorem lk_X1_begin_9 : Cond.fieldLink RX1 9 "SeatCounts$Journal" "rule" "I" ∈ wsX1_begin := by decide +kernel
theorem ni_X1_begin_X0 : ∀ w ∈ wsX00, w ∈ wsX1_begin := by decide +kernel
theorem ni_X1_begin_X1 : ∀ w ∈ wsX10, w ∈ wsX1_begin := by decide +kernel
noncomputable def fn_X1_begin_137 (k81 : sc_M → Int32 → Option (sc_M)) (S : sc_M) (x4 : Int32) (x5 : Int32) (z1 : Int32) (z2 : Int32) : Option (sc_M) :=
  sc_ck z1 864 (sc_sq (sc_mA S 20 (upd (sc_ga S 20) z1.toNatClampNeg z2)) (fun S137 => if x5 = 0 then
    sc_ck x4 864 (sc_sq (sc_mA S137 21 (upd (sc_ga S137 21) x4.toNatClampNeg (1000000 : Int32))) (fun S155 => k81 S155 (x4 + 1)))
  else
    sc_ck x4 864 (sc_sq (sc_mA S137 21 (upd (sc_ga S137 21) x4.toNatClampNeg (0 : Int32))) (fun S155 => k81 S155 (x4 + 1)))))
noncomputable def fn_X1_begin_81 : Nat → sc_M → Int32 → Option (sc_M)
  | 0, _, _ => none
  | n + 1, S, x4 =>
    if (sc_gi S 4) ≤ x4 then
      some S
    else
      sc_ck x4 12 (sc_sq ((sc_ga S 4 x4.toNatClampNeg)) (fun y97 => sc_ck x4 12 (sc_ck x4 12 (sc_sq (sc_mA S 11 (upd (sc_ga S 11) x4.toNatClampNeg (sc_ga S 5 x4.toNatClampNeg))) (fun S112 => sc_ck x4 864 (sc_sq (sc_mB S112 19 (vp_updL (sc_gb S112 19) x4.toNatClampNeg (0 : Int64))) (fun S120 => if y97 = 0 then
        fn_X1_begin_137 (fn_X1_begin_81 n) S120 x4 y97 x4 (0 : Int32)
      else
        fn_X1_begin_137 (fn_X1_begin_81 n) S120 x4 y97 x4 (3 : Int32))))))))
noncomputable def fn_X1_begin (S : sc_M) (x2 : Int32) (x3 : Int32) : Option (sc_M) :=
  sc_sq (sc_mi S 2 x2) (fun S2 => sc_sq (sc_mi S2 3 x3) (fun S7 => sc_sq (sc_mi S7 4 (sc_gi S7 0)) (fun S15 => sc_sq (sc_mi S15 7 (0 : Int32)) (fun S20 => sc_sq (sc_mi S20 5 (1 : Int32)) (fun S25 => sc_sq (sc_mi S25 6 (0 : Int32)) (fun S30 => sc_ck (0 : Int32) 72 (sc_sq (sc_mB S30 15 (vp_updL (sc_gb S30 15) (0 : Int32).toNatClampNeg (0 : Int64))) (fun S39 => sc_ck (0 : Int32) 72 (sc_sq (sc_mB S39 16 (vp_updL (sc_gb S39 16) (0 : Int32).toNatClampNeg (0 : Int64))) (fun S46 => sc_ck (0 : Int32) 72 (sc_sq (sc_mB S46 18 (vp_updL (sc_gb S46 18) (0 : Int32).toNatClampNeg (0 : Int64))) (fun S53 => if x2 = (3 : Int32) then
    sc_ck (0 : Int32) 72 (sc_sq (sc_mA S53 12 (upd (sc_ga S53 12) (0 : Int32).toNatClampNeg (3 : Int32))) (fun S69 => sc_ck (0 : Int32) 72 (sc_sq (sc_mA S69 13 (upd (sc_ga S69 13) (0 : Int32).toNatClampNeg (-9 : Int32))) (fun S77 => fn_X1_begin_81 sc_FU S77 (0 : Int32)))))
  else
    sc_ck (0 : Int32) 72 (sc_sq (sc_mA S53 12 (upd (sc_ga S53 12) (0 : Int32).toNatClampNeg (0 : Int32))) (fun S69 => sc_ck (0 : Int32) 72 (sc_sq (sc_mA S69 13 (upd (sc_ga S69 13) (0 : Int32).toNatClampNeg (-9 : Int32))) (fun S77 => fn_X1_begin_81 sc_FU S77 (0 : Int32)))))))))))))))))
section
variable {p : Program} {l : Launch} {e : Env} {s : State} {m : MethodId} {args : Array Value} {below : List Frame} {meth : Method} {c : Code} {Q : State → Prop} {dC : Nat → ClassId} {dI : Nat → Nat → Nat} {h : Nat → Nat} {cy : Nat → ClassId}
set_option maxHeartbeats 4000000 in
set_option maxRecDepth 100000 in
theorem wk_X1_begin_137 (C0 : CallFix p m c cX1_begin 6 s args wsX1_begin RX1) {S' : sc_M} (hR : sc_Rv p l e rm_X1_begin s m args below meth c Q cX1_begin (sc_EX dC dI h cy) S') {k81 : sc_M → Int32 → Option (sc_M)} (hk81 : ∀ (S : sc_M) (x4 : Int32) (H : Heap) (locs : List Loc) (ls : Array Slot), k81 S x4 = some S' → sc_W (sc_EX dC dI h cy) s H locs S → lv_has ls 6 [(0, .ref (h 2)), (1, .ref (h 1)), (4, .int x4)] → W p l e rm_X1_begin s m args below meth c H locs 0 0 Q (F0 m 81 ls [])) : ∀ (S : sc_M) (x4 : Int32) (x5 : Int32) (z1 : Int32) (z2 : Int32) (H : Heap) (locs : List Loc) (ls : Array Slot), fn_X1_begin_137 k81 S x4 x5 z1 z2 = some S' → sc_W (sc_EX dC dI h cy) s H locs S → lv_has ls 6 [(0, .ref (h 2)), (1, .ref (h 1)), (4, .int x4), (5, .int x5)] → W p l e rm_X1_begin s m args below meth c H locs 0 0 Q (F0 m 137 ls [.int z2, .int z1, .ref (h 20)]) := by
  obtain ⟨hx, hb, hml, hown, hts⟩ := id C0
  intro S x4 x5 z1 z2 H locs ls hf hW hl
  rw [fn_X1_begin_137] at hf
  obtain ⟨hv, hf⟩ := sc_ck_s hf
  obtain ⟨S137, eS137, hf⟩ := sc_sq_s hf
  refine sc_stX_20 C0 hW hv eS137 dX1_begin_137 (fun H locs hW => ?_)
  refine lv_aload_n hx hb dX1_begin_138 rfl (lv_at hl 0 rfl) ?_
  refine sc_getX1 C0 hW ni_X1_begin_X1 17 (Nat.le_of_ble_eq_true rfl) lk_X1_begin_50 (v := .ref (h 21)) rfl dX1_begin_139 ?_
  refine lv_iload hx hb dX1_begin_142 (lv_at hl 2 rfl) ?_
  refine lv_iload hx hb dX1_begin_144 (lv_at hl 3 rfl) ?_
  refine lv_if_eq (tgt := 153) hx hb dX1_begin_146 (by decide) (fun hc => ?_) (fun hc => ?_)
  · replace hf := sc_ip hc hf
    refine lv_ldc (v := (1000000 : Int32)) hx hb hown (hts _ lk_X1_begin_80) dX1_begin_153 ?_
    obtain ⟨hv, hf⟩ := sc_ck_s hf
    obtain ⟨S155, eS155, hf⟩ := sc_sq_s hf
    refine sc_stX_21 C0 hW hv eS155 dX1_begin_155 (fun H locs hW => ?_)
    refine lv_iinc (v := (x4 + 1)) (lv' := [(4, .int (x4 + 1)), (0, .ref (h 2)), (1, .ref (h 1)), (5, .int x5)]) hx hb dX1_begin_156 hl (k := 2) rfl rfl (by decide) rfl (fun ls hl => ?_)
    refine lv_goto (tgt := 81) hx hb dX1_begin_159 (by decide) ?_
    exact hk81 _ _ _ _ _ hf hW (lv_sub hl [1, 2, 0] rfl)
  · replace hf := sc_in hc hf
    refine lv_iconst (v := (0 : Int32)) hx hb dX1_begin_149 (by decide) ?_
    refine lv_goto (tgt := 155) hx hb dX1_begin_150 (by decide) ?_
    obtain ⟨hv, hf⟩ := sc_ck_s hf
    obtain ⟨S155, eS155, hf⟩ := sc_sq_s hf
    refine sc_stX_21 C0 hW hv eS155 dX1_begin_155 (fun H locs hW => ?_)
    refine lv_iinc (v := (x4 + 1)) (lv' := [(4, .int (x4 + 1)), (0, .ref (h 2)), (1, .ref (h 1)), (5, .int x5)]) hx hb dX1_begin_156 hl (k := 2) rfl rfl (by decide) rfl (fun ls hl => ?_)
    refine lv_goto (tgt := 81) hx hb dX1_begin_159 (by decide) ?_
    exact hk81 _ _ _ _ _ hf hW (lv_sub hl [1, 2, 0] rfl)
set_option maxHeartbeats 4000000 in
set_option maxRecDepth 100000 in
theorem wk_X1_begin_81 (C0 : CallFix p m c cX1_begin 6 s args wsX1_begin RX1) {S' : sc_M} (hR : sc_Rv p l e rm_X1_begin s m args below meth c Q cX1_begin (sc_EX dC dI h cy) S') : ∀ n : Nat, ∀ (S : sc_M) (x4 : Int32) (H : Heap) (locs : List Loc) (ls : Array Slot), fn_X1_begin_81 n S x4 = some S' → sc_W (sc_EX dC dI h cy) s H locs S → lv_has ls 6 [(0, .ref (h 2)), (1, .ref (h 1)), (4, .int x4)] → W p l e rm_X1_begin s m args below meth c H locs 0 0 Q (F0 m 81 ls []) := by
  obtain ⟨hx, hb, hml, hown, hts⟩ := id C0
  intro n
  induction n with
  | zero => intro S x4 H locs ls; intro hf; cases hf
  | succ n ih =>
    intro S x4 H locs ls hf hW hl
    rw [fn_X1_begin_81] at hf
    refine lv_iload hx hb dX1_begin_81 (lv_at hl 2 rfl) ?_
    refine lv_aload_n hx hb dX1_begin_83 rfl (lv_at hl 0 rfl) ?_
    refine sc_getX1 C0 hW ni_X1_begin_X1 2 (Nat.le_of_ble_eq_true rfl) lk_X1_begin_60 (v := .int (sc_gi S 4)) rfl dX1_begin_84 ?_
    refine lv_icmp_ge (tgt := 162) hx hb dX1_begin_87 (by decide) (fun hc => ?_) (fun hc => ?_)
    · replace hf := sc_ip hc hf
      exact sc_retv hR hf hW dX1_begin_162
    · replace hf := sc_in hc hf
      refine lv_aload_n hx hb dX1_begin_90 rfl (lv_at hl 1 rfl) ?_
      refine sc_getX0 C0 hW ni_X1_begin_X0 2 (Nat.le_of_ble_eq_true rfl) lk_X1_begin_75 (v := .ref (h 4)) rfl dX1_begin_91 ?_
      refine lv_iload hx hb dX1_begin_94 (lv_at hl 2 rfl) ?_
      obtain ⟨hv, hf⟩ := sc_ck_s hf
      refine sc_ldX_4 C0 hW hv dX1_begin_96 ?_
      obtain ⟨y97, ey97, hf⟩ := sc_sq_s hf
      refine sc_topi ey97 ?_
      refine lv_istore (lv' := [(5, .int y97), (0, .ref (h 2)), (1, .ref (h 1)), (4, .int x4)]) hx hb dX1_begin_97 hl (by decide) rfl (fun ls hl => ?_)
      refine lv_aload_n hx hb dX1_begin_99 rfl (lv_at hl 1 rfl) ?_
      refine sc_getX1 C0 hW ni_X1_begin_X1 7 (Nat.le_of_ble_eq_true rfl) lk_X1_begin_19 (v := .ref (h 11)) rfl dX1_begin_100 ?_
      refine lv_iload hx hb dX1_begin_103 (lv_at hl 3 rfl) ?_
      refine lv_aload_n hx hb dX1_begin_105 rfl (lv_at hl 2 rfl) ?_
      refine sc_getX0 C0 hW ni_X1_begin_X0 3 (Nat.le_of_ble_eq_true rfl) lk_X1_begin_79 (v := .ref (h 5)) rfl dX1_begin_106 ?_
      refine lv_iload hx hb dX1_begin_109 (lv_at hl 3 rfl) ?_
      obtain ⟨hv, hf⟩ := sc_ck_s hf
      refine sc_ldX_5 C0 hW hv dX1_begin_111 ?_
      obtain ⟨hv, hf⟩ := sc_ck_s hf
      obtain ⟨S112, eS112, hf⟩ := sc_sq_s hf
      refine sc_stX_11 C0 hW hv eS112 dX1_begin_112 (fun H locs hW => ?_)
      refine lv_aload_n hx hb dX1_begin_113 rfl (lv_at hl 1 rfl) ?_
      refine sc_getX1 C0 hW ni_X1_begin_X1 15 (Nat.le_of_ble_eq_true rfl) lk_X1_begin_44 (v := .ref (h 19)) rfl dX1_begin_114 ?_
      refine lv_iload hx hb dX1_begin_117 (lv_at hl 3 rfl) ?_
      refine lv_lconst (v := (0 : Int64)) hx hb dX1_begin_119 (by decide) ?_
      obtain ⟨hv, hf⟩ := sc_ck_s hf
      obtain ⟨S120, eS120, hf⟩ := sc_sq_s hf
      refine sc_stX_19 C0 hW hv eS120 dX1_begin_120 (fun H locs hW => ?_)
      refine lv_aload_n hx hb dX1_begin_121 rfl (lv_at hl 1 rfl) ?_
      refine sc_getX1 C0 hW ni_X1_begin_X1 16 (Nat.le_of_ble_eq_true rfl) lk_X1_begin_47 (v := .ref (h 20)) rfl dX1_begin_122 ?_
      refine lv_iload hx hb dX1_begin_125 (lv_at hl 3 rfl) ?_
      refine lv_iload hx hb dX1_begin_127 (lv_at hl 0 rfl) ?_
      refine lv_if_eq (tgt := 136) hx hb dX1_begin_129 (by decide) (fun hc => ?_) (fun hc => ?_)
      · replace hf := sc_ip hc hf
        refine lv_iconst (v := (0 : Int32)) hx hb dX1_begin_136 (by decide) ?_
        exact wk_X1_begin_137 C0 hR ih _ _ _ _ _ _ _ _ hf hW (lv_sub hl [1, 2, 3, 0] rfl)
      · replace hf := sc_in hc hf
        refine lv_iconst (v := (3 : Int32)) hx hb dX1_begin_132 (by decide) ?_
        refine lv_goto (tgt := 137) hx hb dX1_begin_133 (by decide) ?_
        exact wk_X1_begin_137 C0 hR ih _ _ _ _ _ _ _ _ hf hW (lv_sub hl [1, 2, 3, 0] rfl)
set_option maxHeartbeats 4000000 in
set_option maxRecDepth 100000 in
theorem wk_X1_begin_0 (C0 : CallFix p m c cX1_begin 6 s args wsX1_begin RX1) {S' : sc_M} (hR : sc_Rv p l e rm_X1_begin s m args below meth c Q cX1_begin (sc_EX dC dI h cy) S') : ∀ (S : sc_M) (x2 : Int32) (x3 : Int32) (H : Heap) (locs : List Loc) (ls : Array Slot), fn_X1_begin S x2 x3 = some S' → sc_W (sc_EX dC dI h cy) s H locs S → lv_has ls 6 [(0, .ref (h 2)), (1, .ref (h 1)), (2, .int x2), (3, .int x3)] → W p l e rm_X1_begin s m args below meth c H locs 0 0 Q (F0 m 0 ls []) := by
  obtain ⟨hx, hb, hml, hown, hts⟩ := id C0
  intro S x2 x3 H locs ls hf hW hl
  rw [fn_X1_begin] at hf
  refine lv_aload_n hx hb dX1_begin_0 rfl (lv_at hl 0 rfl) ?_
  refine lv_iload_n hx hb dX1_begin_1 rfl (lv_at hl 2 rfl) ?_
  obtain ⟨S2, eS2, hf⟩ := sc_sq_s hf
  refine sc_putX1_rule C0 hW ni_X1_begin_X1 lk_X1_begin_9 eS2 dX1_begin_2 (fun H locs hW => ?_)
  refine lv_aload_n hx hb dX1_begin_5 rfl (lv_at hl 0 rfl) ?_
  refine lv_iload_n hx hb dX1_begin_6 rfl (lv_at hl 3 rfl) ?_
  obtain ⟨S7, eS7, hf⟩ := sc_sq_s hf
  refine sc_putX1_seats C0 hW ni_X1_begin_X1 lk_X1_begin_63 eS7 dX1_begin_7 (fun H locs hW => ?_)
  refine lv_aload_n hx hb dX1_begin_10 rfl (lv_at hl 0 rfl) ?_
  refine lv_aload_n hx hb dX1_begin_11 rfl (lv_at hl 1 rfl) ?_
  refine sc_getX0 C0 hW ni_X1_begin_X0 0 (Nat.le_of_ble_eq_true rfl) lk_X1_begin_66 (v := .int (sc_gi S7 0)) rfl dX1_begin_12 ?_
  obtain ⟨S15, eS15, hf⟩ := sc_sq_s hf
  refine sc_putX1_candidates C0 hW ni_X1_begin_X1 lk_X1_begin_60 eS15 dX1_begin_15 (fun H locs hW => ?_)
  refine lv_aload_n hx hb dX1_begin_18 rfl (lv_at hl 0 rfl) ?_
  refine lv_iconst (v := (0 : Int32)) hx hb dX1_begin_19 (by decide) ?_
  obtain ⟨S20, eS20, hf⟩ := sc_sq_s hf
  refine sc_putX1_electedOnes C0 hW ni_X1_begin_X1 lk_X1_begin_69 eS20 dX1_begin_20 (fun H locs hW => ?_)
  refine lv_aload_n hx hb dX1_begin_23 rfl (lv_at hl 0 rfl) ?_
  refine lv_iconst (v := (1 : Int32)) hx hb dX1_begin_24 (by decide) ?_
  obtain ⟨S25, eS25, hf⟩ := sc_sq_s hf
  refine sc_putX1_stages C0 hW ni_X1_begin_X1 lk_X1_begin_53 eS25 dX1_begin_25 (fun H locs hW => ?_)
  refine lv_aload_n hx hb dX1_begin_28 rfl (lv_at hl 0 rfl) ?_
  refine lv_iconst (v := (0 : Int32)) hx hb dX1_begin_29 (by decide) ?_
  obtain ⟨S30, eS30, hf⟩ := sc_sq_s hf
  refine sc_putX1_row C0 hW ni_X1_begin_X1 lk_X1_begin_72 eS30 dX1_begin_30 (fun H locs hW => ?_)
  refine lv_aload_n hx hb dX1_begin_33 rfl (lv_at hl 0 rfl) ?_
  refine sc_getX1 C0 hW ni_X1_begin_X1 11 (Nat.le_of_ble_eq_true rfl) lk_X1_begin_31 (v := .ref (h 15)) rfl dX1_begin_34 ?_
  refine lv_iconst (v := (0 : Int32)) hx hb dX1_begin_37 (by decide) ?_
  refine lv_lconst (v := (0 : Int64)) hx hb dX1_begin_38 (by decide) ?_
  obtain ⟨hv, hf⟩ := sc_ck_s hf
  obtain ⟨S39, eS39, hf⟩ := sc_sq_s hf
  refine sc_stX_15 C0 hW hv eS39 dX1_begin_39 (fun H locs hW => ?_)
  refine lv_aload_n hx hb dX1_begin_40 rfl (lv_at hl 0 rfl) ?_
  refine sc_getX1 C0 hW ni_X1_begin_X1 12 (Nat.le_of_ble_eq_true rfl) lk_X1_begin_35 (v := .ref (h 16)) rfl dX1_begin_41 ?_
  refine lv_iconst (v := (0 : Int32)) hx hb dX1_begin_44 (by decide) ?_
  refine lv_lconst (v := (0 : Int64)) hx hb dX1_begin_45 (by decide) ?_
  obtain ⟨hv, hf⟩ := sc_ck_s hf
  obtain ⟨S46, eS46, hf⟩ := sc_sq_s hf
  refine sc_stX_16 C0 hW hv eS46 dX1_begin_46 (fun H locs hW => ?_)
  refine lv_aload_n hx hb dX1_begin_47 rfl (lv_at hl 0 rfl) ?_
  refine sc_getX1 C0 hW ni_X1_begin_X1 14 (Nat.le_of_ble_eq_true rfl) lk_X1_begin_41 (v := .ref (h 18)) rfl dX1_begin_48 ?_
  refine lv_iconst (v := (0 : Int32)) hx hb dX1_begin_51 (by decide) ?_
  refine lv_lconst (v := (0 : Int64)) hx hb dX1_begin_52 (by decide) ?_
  obtain ⟨hv, hf⟩ := sc_ck_s hf
  obtain ⟨S53, eS53, hf⟩ := sc_sq_s hf
  refine sc_stX_18 C0 hW hv eS53 dX1_begin_53 (fun H locs hW => ?_)
  refine lv_aload_n hx hb dX1_begin_54 rfl (lv_at hl 0 rfl) ?_
  refine sc_getX1 C0 hW ni_X1_begin_X1 8 (Nat.le_of_ble_eq_true rfl) lk_X1_begin_22 (v := .ref (h 12)) rfl dX1_begin_55 ?_
  refine lv_iconst (v := (0 : Int32)) hx hb dX1_begin_58 (by decide) ?_
  refine lv_iload_n hx hb dX1_begin_59 rfl (lv_at hl 2 rfl) ?_
  refine lv_iconst (v := (3 : Int32)) hx hb dX1_begin_60 (by decide) ?_
  refine lv_icmp_ne (tgt := 68) hx hb dX1_begin_61 (by decide) (fun hc => ?_) (fun hc => ?_)
  · replace hf := sc_in hc hf
    refine lv_iconst (v := (0 : Int32)) hx hb dX1_begin_68 (by decide) ?_
    obtain ⟨hv, hf⟩ := sc_ck_s hf
    obtain ⟨S69, eS69, hf⟩ := sc_sq_s hf
    refine sc_stX_12 C0 hW hv eS69 dX1_begin_69 (fun H locs hW => ?_)
    refine lv_aload_n hx hb dX1_begin_70 rfl (lv_at hl 0 rfl) ?_
    refine sc_getX1 C0 hW ni_X1_begin_X1 9 (Nat.le_of_ble_eq_true rfl) lk_X1_begin_25 (v := .ref (h 13)) rfl dX1_begin_71 ?_
    refine lv_iconst (v := (0 : Int32)) hx hb dX1_begin_74 (by decide) ?_
    refine lv_bipush (v := (-9 : Int32)) hx hb dX1_begin_75 (by decide) ?_
    obtain ⟨hv, hf⟩ := sc_ck_s hf
    obtain ⟨S77, eS77, hf⟩ := sc_sq_s hf
    refine sc_stX_13 C0 hW hv eS77 dX1_begin_77 (fun H locs hW => ?_)
    refine lv_iconst (v := (0 : Int32)) hx hb dX1_begin_78 (by decide) ?_
    refine lv_istore (lv' := [(4, .int (0 : Int32)), (0, .ref (h 2)), (1, .ref (h 1)), (2, .int x2), (3, .int x3)]) hx hb dX1_begin_79 hl (by decide) rfl (fun ls hl => ?_)
    exact wk_X1_begin_81 C0 hR  sc_FU _ _ _ _ _ hf hW (lv_sub hl [1, 2, 0] rfl)
  · replace hf := sc_ip hc hf
    refine lv_iconst (v := (3 : Int32)) hx hb dX1_begin_64 (by decide) ?_
    refine lv_goto (tgt := 69) hx hb dX1_begin_65 (by decide) ?_
    obtain ⟨hv, hf⟩ := sc_ck_s hf
    obtain ⟨S69, eS69, hf⟩ := sc_sq_s hf
    refine sc_stX_12 C0 hW hv eS69 dX1_begin_69 (fun H locs hW => ?_)
    refine lv_aload_n hx hb dX1_begin_70 rfl (lv_at hl 0 rfl) ?_
    refine sc_getX1 C0 hW ni_X1_begin_X1 9 (Nat.le_of_ble_eq_true rfl) lk_X1_begin_25 (v := .ref (h 13)) rfl dX1_begin_71 ?_
    refine lv_iconst (v := (0 : Int32)) hx hb dX1_begin_74 (by decide) ?_
    refine lv_bipush (v := (-9 : Int32)) hx hb dX1_begin_75 (by decide) ?_
    obtain ⟨hv, hf⟩ := sc_ck_s hf
    obtain ⟨S77, eS77, hf⟩ := sc_sq_s hf
    refine sc_stX_13 C0 hW hv eS77 dX1_begin_77 (fun H locs hW => ?_)
    refine lv_iconst (v := (0 : Int32)) hx hb dX1_begin_78 (by decide) ?_
    refine lv_istore (lv' := [(4, .int (0 : Int32)), (0, .ref (h 2)), (1, .ref (h 1)), (2, .int x2), (3, .int x3)]) hx hb dX1_begin_79 hl (by decide) rfl (fun ls hl => ?_)
    exact wk_X1_begin_81 C0 hR  sc_FU _ _ _ _ _ hf hW (lv_sub hl [1, 2, 0] rfl)
set_option maxRecDepth 100000 in
theorem ct_X1_begin {S S' : sc_M} {x2 : Int32} {x3 : Int32} (hf : fn_X1_begin S x2 x3 = some S') : sc_Cv l yX1_begin wsX1_begin rm_X1_begin (sc_EX dC dI h cy) [.ref (h 2), .ref (h 1), .int x2, .int x3] S S' := by
  refine sc_ofv (cc := cX1_begin) (maxL := 6) sc_okX (by decide) rfl (Nat.le_of_ble_eq_true rfl) ?_
  intro p e s m below meth c Q C0 hR hW ls hl
  exact wk_X1_begin_0 C0 hR _ _ _ _ _ _ hf hW hl
end

/-! ===== SeatCounts$Journal.now()I ===== -/
abbrev rm_X1_now : Room := { frames := 0, cells := 0, slots := 0, locals := 0 }
theorem lk_X1_now_53 : Cond.fieldLink RX1 53 "SeatCounts$Journal" "stages" "I" ∈ wsX1_now := by decide +kernel
theorem ni_X1_now_X1 : ∀ w ∈ wsX10, w ∈ wsX1_now := by decide +kernel
noncomputable def fn_X1_now (S : sc_M) : Option (Int32 × sc_M) :=
  some (((sc_gi S 5) - (1 : Int32)), S)
section
variable {p : Program} {l : Launch} {e : Env} {s : State} {m : MethodId} {args : Array Value} {below : List Frame} {meth : Method} {c : Code} {Q : State → Prop} {dC : Nat → ClassId} {dI : Nat → Nat → Nat} {h : Nat → Nat} {cy : Nat → ClassId}
set_option maxHeartbeats 4000000 in
set_option maxRecDepth 100000 in
theorem wk_X1_now_0 (C0 : CallFix p m c cX1_now 1 s args wsX1_now RX1) {S' : sc_M} {r : Int32} (hR : sc_Ri p l e rm_X1_now s m args below meth c Q cX1_now (sc_EX dC dI h cy) S' r) : ∀ (S : sc_M) (H : Heap) (locs : List Loc) (ls : Array Slot), fn_X1_now S = some (r, S') → sc_W (sc_EX dC dI h cy) s H locs S → lv_has ls 1 [(0, .ref (h 2))] → W p l e rm_X1_now s m args below meth c H locs 0 0 Q (F0 m 0 ls []) := by
  obtain ⟨hx, hb, hml, hown, hts⟩ := id C0
  intro S H locs ls hf hW hl
  rw [fn_X1_now] at hf
  refine lv_aload_n hx hb dX1_now_0 rfl (lv_at hl 0 rfl) ?_
  refine sc_getX1 C0 hW ni_X1_now_X1 3 (Nat.le_of_ble_eq_true rfl) lk_X1_now_53 (v := .int (sc_gi S 5)) rfl dX1_now_1 ?_
  refine lv_iconst (v := (1 : Int32)) hx hb dX1_now_4 (by decide) ?_
  refine lv_isub hx hb dX1_now_5 ?_
  exact sc_reti hR hf hW dX1_now_6
set_option maxRecDepth 100000 in
theorem ct_X1_now {S S' : sc_M} {r : Int32} (hf : fn_X1_now S = some (r, S')) : sc_Ci l yX1_now wsX1_now rm_X1_now (sc_EX dC dI h cy) [.ref (h 2)] S S' r := by
  refine sc_ofi (cc := cX1_now) (maxL := 1) .int rfl sc_okX (by decide) rfl (Nat.le_of_ble_eq_true rfl) ?_
  intro p e s m below meth c Q C0 hR hW ls hl
  exact wk_X1_now_0 C0 hR _ _ _ _ hf hW hl
end

/-! ===== SeatCounts.cell(II)I ===== -/
abbrev rm_X4_cell : Room := { frames := 0, cells := 0, slots := 0, locals := 0 }
noncomputable def fn_X4_cell (S : sc_M) (x0 : Int32) (x1 : Int32) : Option (Int32 × sc_M) :=
  some (((x0 * (12 : Int32)) + x1), S)
section
variable {p : Program} {l : Launch} {e : Env} {s : State} {m : MethodId} {args : Array Value} {below : List Frame} {meth : Method} {c : Code} {Q : State → Prop} {dC : Nat → ClassId} {dI : Nat → Nat → Nat} {h : Nat → Nat} {cy : Nat → ClassId}
set_option maxHeartbeats 4000000 in
set_option maxRecDepth 100000 in
theorem wk_X4_cell_0 (C0 : CallFix p m c cX4_cell 2 s args wsX4_cell RX4) {S' : sc_M} {r : Int32} (hR : sc_Ri p l e rm_X4_cell s m args below meth c Q cX4_cell (sc_EX dC dI h cy) S' r) : ∀ (S : sc_M) (x0 : Int32) (x1 : Int32) (H : Heap) (locs : List Loc) (ls : Array Slot), fn_X4_cell S x0 x1 = some (r, S') → sc_W (sc_EX dC dI h cy) s H locs S → lv_has ls 2 [(0, .int x0), (1, .int x1)] → W p l e rm_X4_cell s m args below meth c H locs 0 0 Q (F0 m 0 ls []) := by
  obtain ⟨hx, hb, hml, hown, hts⟩ := id C0
  intro S x0 x1 H locs ls hf hW hl
  rw [fn_X4_cell] at hf
  refine lv_iload_n hx hb dX4_cell_0 rfl (lv_at hl 0 rfl) ?_
  refine lv_bipush (v := (12 : Int32)) hx hb dX4_cell_1 (by decide) ?_
  refine lv_imul hx hb dX4_cell_3 ?_
  refine lv_iload_n hx hb dX4_cell_4 rfl (lv_at hl 1 rfl) ?_
  refine lv_iadd hx hb dX4_cell_5 ?_
  exact sc_reti hR hf hW dX4_cell_6
set_option maxRecDepth 100000 in
theorem ct_X4_cell {S S' : sc_M} {r : Int32} {x0 : Int32} {x1 : Int32} (hf : fn_X4_cell S x0 x1 = some (r, S')) : sc_Ci l yX4_cell wsX4_cell rm_X4_cell (sc_EX dC dI h cy) [.int x0, .int x1] S S' r := by
  refine sc_ofi (cc := cX4_cell) (maxL := 2) .int rfl sc_okX (by decide) rfl (Nat.le_of_ble_eq_true rfl) ?_
  intro p e s m below meth c Q C0 hR hW ls hl
  exact wk_X4_cell_0 C0 hR _ _ _ _ _ _ hf hW hl
end

/-! ===== SeatCounts$Journal.turn(II)Z ===== -/
abbrev rm_X1_turn : Room := { frames := 1, cells := 0, slots := 0, locals := 26 }
theorem lk_X1_turn_22 : Cond.fieldLink RX1 22 "SeatCounts$Journal" "kinds" "[I" ∈ wsX1_turn := by decide +kernel
theorem lk_X1_turn_25 : Cond.fieldLink RX1 25 "SeatCounts$Journal" "whose" "[I" ∈ wsX1_turn := by decide +kernel
theorem lk_X1_turn_31 : Cond.fieldLink RX1 31 "SeatCounts$Journal" "untransferable" "[J" ∈ wsX1_turn := by decide +kernel
theorem lk_X1_turn_35 : Cond.fieldLink RX1 35 "SeatCounts$Journal" "lost" "[J" ∈ wsX1_turn := by decide +kernel
theorem lk_X1_turn_38 : Cond.fieldLink RX1 38 "SeatCounts$Journal" "quotas" "[J" ∈ wsX1_turn := by decide +kernel
theorem lk_X1_turn_41 : Cond.fieldLink RX1 41 "SeatCounts$Journal" "excesses" "[J" ∈ wsX1_turn := by decide +kernel
theorem lk_X1_turn_44 : Cond.fieldLink RX1 44 "SeatCounts$Journal" "votes" "[J" ∈ wsX1_turn := by decide +kernel
theorem lk_X1_turn_47 : Cond.fieldLink RX1 47 "SeatCounts$Journal" "states" "[I" ∈ wsX1_turn := by decide +kernel
theorem lk_X1_turn_50 : Cond.fieldLink RX1 50 "SeatCounts$Journal" "keeps" "[I" ∈ wsX1_turn := by decide +kernel
theorem lk_X1_turn_53 : Cond.fieldLink RX1 53 "SeatCounts$Journal" "stages" "I" ∈ wsX1_turn := by decide +kernel
theorem lk_X1_turn_60 : Cond.fieldLink RX1 60 "SeatCounts$Journal" "candidates" "I" ∈ wsX1_turn := by decide +kernel
theorem lk_X1_turn_72 : Cond.fieldLink RX1 72 "SeatCounts$Journal" "row" "I" ∈ wsX1_turn := by decide +kernel
theorem lk_X1_turn_ac89 : Cond.methodLink RX1 89 arraycopyName ∈ wsX1_turn := by decide +kernel
theorem lk_X1_turn_aci : Cond.initialized "java/lang/System" ∈ wsX1_turn := by decide +kernel
theorem lk_X1_turn_acn : Cond.native arraycopyName ∈ wsX1_turn := by decide +kernel
theorem lk_X1_turn_acs : Cond.static arraycopyName ∈ wsX1_turn := by decide +kernel
theorem lk_X1_turn_iniX4 : Cond.initialized RX4 ∈ wsX1_turn := by decide +kernel
theorem lk_X1_turn_stX4_cell : Cond.static yX4_cell ∈ wsX1_turn := by decide +kernel
theorem ni_X1_turn_X1 : ∀ w ∈ wsX10, w ∈ wsX1_turn := by decide +kernel
noncomputable def fn_X1_turn_e (S : sc_M) (x1 : Int32) (x2 : Int32) : Option (Int32 × sc_M) :=
  if (sc_gi S 5) < (72 : Int32) then
    sc_cl (fn_X1_now S) (fun r12 S12 => sc_sq (sc_mi S12 5 ((sc_gi S12 5) + (1 : Int32))) (fun S23 => sc_cl (fn_X1_now S23) (fun r28 S28 => sc_cl (fn_X4_cell S28 r28 (0 : Int32)) (fun r32 S32 => sc_sq (sc_mi S32 6 r32) (fun S35 => sc_cl (fn_X1_now S35) (fun r43 S43 => sc_ck r43 72 (sc_sq (sc_mA S43 12 (upd (sc_ga S43 12) r43.toNatClampNeg x1)) (fun S47 => sc_cl (fn_X1_now S47) (fun r53 S53 => sc_ck r53 72 (sc_sq (sc_mA S53 13 (upd (sc_ga S53 13) r53.toNatClampNeg x2)) (fun S57 => sc_cl (fn_X1_now S57) (fun r63 S63 => sc_ck r12 72 (sc_ck r63 72 (sc_sq (sc_mB S63 15 (vp_updL (sc_gb S63 15) r63.toNatClampNeg (sc_gb S63 15 r12.toNatClampNeg))) (fun S72 => sc_cl (fn_X1_now S72) (fun r78 S78 => sc_ck r12 72 (sc_ck r78 72 (sc_sq (sc_mB S78 16 (vp_updL (sc_gb S78 16) r78.toNatClampNeg (sc_gb S78 16 r12.toNatClampNeg))) (fun S87 => sc_cl (fn_X1_now S87) (fun r93 S93 => sc_ck r12 72 (sc_ck r93 72 (sc_sq (sc_mB S93 17 (vp_updL (sc_gb S93 17) r93.toNatClampNeg (sc_gb S93 17 r12.toNatClampNeg))) (fun S102 => sc_cl (fn_X1_now S102) (fun r108 S108 => sc_ck r108 72 (sc_sq (sc_mB S108 18 (vp_updL (sc_gb S108 18) r108.toNatClampNeg (0 : Int64))) (fun S112 => sc_cl (fn_X4_cell S112 r12 (0 : Int32)) (fun r119 S119 => sc_cp r119 (sc_gi S119 6) (sc_gi S119 4) 864 864 (sc_sq (sc_mB S119 19 (va_cpy (sc_gb S119 19) (sc_gb S119 19) r119.toNatClampNeg (sc_gi S119 6).toNatClampNeg (sc_gi S119 4).toNatClampNeg)) (fun S134 => sc_cl (fn_X4_cell S134 r12 (0 : Int32)) (fun r143 S143 => sc_cp r143 (sc_gi S143 6) (sc_gi S143 4) 864 864 (sc_sq (sc_mA S143 20 (va_cpy (sc_ga S143 20) (sc_ga S143 20) r143.toNatClampNeg (sc_gi S143 6).toNatClampNeg (sc_gi S143 4).toNatClampNeg)) (fun S158 => sc_cl (fn_X4_cell S158 r12 (0 : Int32)) (fun r167 S167 => sc_cp r167 (sc_gi S167 6) (sc_gi S167 4) 864 864 (sc_sq (sc_mA S167 21 (va_cpy (sc_ga S167 21) (sc_ga S167 21) r167.toNatClampNeg (sc_gi S167 6).toNatClampNeg (sc_gi S167 4).toNatClampNeg)) (fun S182 => some ((1 : Int32), S182))))))))))))))))))))))))))))))))))))
  else
    some ((0 : Int32), S)
noncomputable def fn_X1_turn (S : sc_M) (x1 : Int32) (x2 : Int32) : Option (Int32 × sc_M) := sc_bz (fn_X1_turn_e S x1 x2)
section
variable {p : Program} {l : Launch} {e : Env} {s : State} {m : MethodId} {args : Array Value} {below : List Frame} {meth : Method} {c : Code} {Q : State → Prop} {dC : Nat → ClassId} {dI : Nat → Nat → Nat} {h : Nat → Nat} {cy : Nat → ClassId}
set_option maxHeartbeats 4000000 in
set_option maxRecDepth 100000 in
theorem wk_X1_turn_0 (C0 : CallFix p m c cX1_turn 4 s args wsX1_turn RX1) {S' : sc_M} {r : Int32} (hR : sc_Ri p l e rm_X1_turn s m args below meth c Q cX1_turn (sc_EX dC dI h cy) S' r) : ∀ (S : sc_M) (x1 : Int32) (x2 : Int32) (H : Heap) (locs : List Loc) (ls : Array Slot), fn_X1_turn_e S x1 x2 = some (r, S') → sc_W (sc_EX dC dI h cy) s H locs S → lv_has ls 4 [(0, .ref (h 2)), (1, .int x1), (2, .int x2)] → W p l e rm_X1_turn s m args below meth c H locs 0 0 Q (F0 m 0 ls []) := by
  obtain ⟨hx, hb, hml, hown, hts⟩ := id C0
  intro S x1 x2 H locs ls hf hW hl
  rw [fn_X1_turn_e] at hf
  refine lv_aload_n hx hb dX1_turn_0 rfl (lv_at hl 0 rfl) ?_
  refine sc_getX1 C0 hW ni_X1_turn_X1 3 (Nat.le_of_ble_eq_true rfl) lk_X1_turn_53 (v := .int (sc_gi S 5)) rfl dX1_turn_1 ?_
  refine lv_bipush (v := (72 : Int32)) hx hb dX1_turn_4 (by decide) ?_
  refine lv_icmp_lt (tgt := 11) hx hb dX1_turn_6 (by decide) (fun hc => ?_) (fun hc => ?_)
  · replace hf := sc_ip hc hf
    refine lv_aload_n hx hb dX1_turn_11 rfl (lv_at hl 0 rfl) ?_
    obtain ⟨r12, S12, hc, hf⟩ := sc_cl_s hf
    refine sc_callVi (As := []) (rest := []) (q0 := 2) (ci := 1) sc_okX C0 hW (ct_X1_now hc) (cwV 0 hts gX1_turn_X1_now rfl rfl rfl (by decide +kernel) ⟨Nat.le_of_ble_eq_true rfl, Nat.le_of_ble_eq_true rfl⟩) rfl rfl rfl rfl hl.1 rfl (Nat.le_of_ble_eq_true rfl) dX1_turn_12 (fun H locs hW => ?_)
    refine lv_istore_n (lv' := [(3, .int r12), (0, .ref (h 2)), (1, .int x1), (2, .int x2)]) hx hb dX1_turn_15 rfl hl (by decide) rfl (fun ls hl => ?_)
    refine lv_aload_n hx hb dX1_turn_16 rfl (lv_at hl 1 rfl) ?_
    refine lv_dup hx hb dX1_turn_17 rfl ?_
    refine sc_getX1 C0 hW ni_X1_turn_X1 3 (Nat.le_of_ble_eq_true rfl) lk_X1_turn_53 (v := .int (sc_gi S12 5)) rfl dX1_turn_18 ?_
    refine lv_iconst (v := (1 : Int32)) hx hb dX1_turn_21 (by decide) ?_
    refine lv_iadd hx hb dX1_turn_22 ?_
    obtain ⟨S23, eS23, hf⟩ := sc_sq_s hf
    refine sc_putX1_stages C0 hW ni_X1_turn_X1 lk_X1_turn_53 eS23 dX1_turn_23 (fun H locs hW => ?_)
    refine lv_aload_n hx hb dX1_turn_26 rfl (lv_at hl 1 rfl) ?_
    refine lv_aload_n hx hb dX1_turn_27 rfl (lv_at hl 1 rfl) ?_
    obtain ⟨r28, S28, hc, hf⟩ := sc_cl_s hf
    refine sc_callVi (As := []) (rest := [.ref (h 2)]) (q0 := 2) (ci := 1) sc_okX C0 hW (ct_X1_now hc) (cwV 0 hts gX1_turn_X1_now rfl rfl rfl (by decide +kernel) ⟨Nat.le_of_ble_eq_true rfl, Nat.le_of_ble_eq_true rfl⟩) rfl rfl rfl rfl hl.1 rfl (Nat.le_of_ble_eq_true rfl) dX1_turn_28 (fun H locs hW => ?_)
    refine lv_iconst (v := (0 : Int32)) hx hb dX1_turn_31 (by decide) ?_
    obtain ⟨r32, S32, hc, hf⟩ := sc_cl_s hf
    refine sc_callNi (As := [.int r28, .int (0 : Int32)]) (rest := [.ref (h 2)]) sc_okX C0 hW (ct_X4_cell hc) ⟨va_cnB 2 hts gX1_turn_X4_cell_n85 rfl rfl rfl hW.2.2.2.2.1 (hts _ lk_X1_turn_iniX4) (by decide +kernel) ⟨Nat.le_of_ble_eq_true rfl, Nat.le_of_ble_eq_true rfl⟩, hts _ lk_X1_turn_stX4_cell, trivial⟩ rfl hl.1 rfl (Nat.le_of_ble_eq_true rfl) dX1_turn_32 (fun H locs hW => ?_)
    obtain ⟨S35, eS35, hf⟩ := sc_sq_s hf
    refine sc_putX1_row C0 hW ni_X1_turn_X1 lk_X1_turn_72 eS35 dX1_turn_35 (fun H locs hW => ?_)
    refine lv_aload_n hx hb dX1_turn_38 rfl (lv_at hl 1 rfl) ?_
    refine sc_getX1 C0 hW ni_X1_turn_X1 8 (Nat.le_of_ble_eq_true rfl) lk_X1_turn_22 (v := .ref (h 12)) rfl dX1_turn_39 ?_
    refine lv_aload_n hx hb dX1_turn_42 rfl (lv_at hl 1 rfl) ?_
    obtain ⟨r43, S43, hc, hf⟩ := sc_cl_s hf
    refine sc_callVi (As := []) (rest := [.ref (h 12)]) (q0 := 2) (ci := 1) sc_okX C0 hW (ct_X1_now hc) (cwV 0 hts gX1_turn_X1_now rfl rfl rfl (by decide +kernel) ⟨Nat.le_of_ble_eq_true rfl, Nat.le_of_ble_eq_true rfl⟩) rfl rfl rfl rfl hl.1 rfl (Nat.le_of_ble_eq_true rfl) dX1_turn_43 (fun H locs hW => ?_)
    refine lv_iload_n hx hb dX1_turn_46 rfl (lv_at hl 2 rfl) ?_
    obtain ⟨hv, hf⟩ := sc_ck_s hf
    obtain ⟨S47, eS47, hf⟩ := sc_sq_s hf
    refine sc_stX_12 C0 hW hv eS47 dX1_turn_47 (fun H locs hW => ?_)
    refine lv_aload_n hx hb dX1_turn_48 rfl (lv_at hl 1 rfl) ?_
    refine sc_getX1 C0 hW ni_X1_turn_X1 9 (Nat.le_of_ble_eq_true rfl) lk_X1_turn_25 (v := .ref (h 13)) rfl dX1_turn_49 ?_
    refine lv_aload_n hx hb dX1_turn_52 rfl (lv_at hl 1 rfl) ?_
    obtain ⟨r53, S53, hc, hf⟩ := sc_cl_s hf
    refine sc_callVi (As := []) (rest := [.ref (h 13)]) (q0 := 2) (ci := 1) sc_okX C0 hW (ct_X1_now hc) (cwV 0 hts gX1_turn_X1_now rfl rfl rfl (by decide +kernel) ⟨Nat.le_of_ble_eq_true rfl, Nat.le_of_ble_eq_true rfl⟩) rfl rfl rfl rfl hl.1 rfl (Nat.le_of_ble_eq_true rfl) dX1_turn_53 (fun H locs hW => ?_)
    refine lv_iload_n hx hb dX1_turn_56 rfl (lv_at hl 3 rfl) ?_
    obtain ⟨hv, hf⟩ := sc_ck_s hf
    obtain ⟨S57, eS57, hf⟩ := sc_sq_s hf
    refine sc_stX_13 C0 hW hv eS57 dX1_turn_57 (fun H locs hW => ?_)
    refine lv_aload_n hx hb dX1_turn_58 rfl (lv_at hl 1 rfl) ?_
    refine sc_getX1 C0 hW ni_X1_turn_X1 11 (Nat.le_of_ble_eq_true rfl) lk_X1_turn_31 (v := .ref (h 15)) rfl dX1_turn_59 ?_
    refine lv_aload_n hx hb dX1_turn_62 rfl (lv_at hl 1 rfl) ?_
    obtain ⟨r63, S63, hc, hf⟩ := sc_cl_s hf
    refine sc_callVi (As := []) (rest := [.ref (h 15)]) (q0 := 2) (ci := 1) sc_okX C0 hW (ct_X1_now hc) (cwV 0 hts gX1_turn_X1_now rfl rfl rfl (by decide +kernel) ⟨Nat.le_of_ble_eq_true rfl, Nat.le_of_ble_eq_true rfl⟩) rfl rfl rfl rfl hl.1 rfl (Nat.le_of_ble_eq_true rfl) dX1_turn_63 (fun H locs hW => ?_)
    refine lv_aload_n hx hb dX1_turn_66 rfl (lv_at hl 1 rfl) ?_
    refine sc_getX1 C0 hW ni_X1_turn_X1 11 (Nat.le_of_ble_eq_true rfl) lk_X1_turn_31 (v := .ref (h 15)) rfl dX1_turn_67 ?_
    refine lv_iload_n hx hb dX1_turn_70 rfl (lv_at hl 0 rfl) ?_
    obtain ⟨hv, hf⟩ := sc_ck_s hf
    refine sc_ldX_15 C0 hW hv dX1_turn_71 ?_
    obtain ⟨hv, hf⟩ := sc_ck_s hf
    obtain ⟨S72, eS72, hf⟩ := sc_sq_s hf
    refine sc_stX_15 C0 hW hv eS72 dX1_turn_72 (fun H locs hW => ?_)
    refine lv_aload_n hx hb dX1_turn_73 rfl (lv_at hl 1 rfl) ?_
    refine sc_getX1 C0 hW ni_X1_turn_X1 12 (Nat.le_of_ble_eq_true rfl) lk_X1_turn_35 (v := .ref (h 16)) rfl dX1_turn_74 ?_
    refine lv_aload_n hx hb dX1_turn_77 rfl (lv_at hl 1 rfl) ?_
    obtain ⟨r78, S78, hc, hf⟩ := sc_cl_s hf
    refine sc_callVi (As := []) (rest := [.ref (h 16)]) (q0 := 2) (ci := 1) sc_okX C0 hW (ct_X1_now hc) (cwV 0 hts gX1_turn_X1_now rfl rfl rfl (by decide +kernel) ⟨Nat.le_of_ble_eq_true rfl, Nat.le_of_ble_eq_true rfl⟩) rfl rfl rfl rfl hl.1 rfl (Nat.le_of_ble_eq_true rfl) dX1_turn_78 (fun H locs hW => ?_)
    refine lv_aload_n hx hb dX1_turn_81 rfl (lv_at hl 1 rfl) ?_
    refine sc_getX1 C0 hW ni_X1_turn_X1 12 (Nat.le_of_ble_eq_true rfl) lk_X1_turn_35 (v := .ref (h 16)) rfl dX1_turn_82 ?_
    refine lv_iload_n hx hb dX1_turn_85 rfl (lv_at hl 0 rfl) ?_
    obtain ⟨hv, hf⟩ := sc_ck_s hf
    refine sc_ldX_16 C0 hW hv dX1_turn_86 ?_
    obtain ⟨hv, hf⟩ := sc_ck_s hf
    obtain ⟨S87, eS87, hf⟩ := sc_sq_s hf
    refine sc_stX_16 C0 hW hv eS87 dX1_turn_87 (fun H locs hW => ?_)
    refine lv_aload_n hx hb dX1_turn_88 rfl (lv_at hl 1 rfl) ?_
    refine sc_getX1 C0 hW ni_X1_turn_X1 13 (Nat.le_of_ble_eq_true rfl) lk_X1_turn_38 (v := .ref (h 17)) rfl dX1_turn_89 ?_
    refine lv_aload_n hx hb dX1_turn_92 rfl (lv_at hl 1 rfl) ?_
    obtain ⟨r93, S93, hc, hf⟩ := sc_cl_s hf
    refine sc_callVi (As := []) (rest := [.ref (h 17)]) (q0 := 2) (ci := 1) sc_okX C0 hW (ct_X1_now hc) (cwV 0 hts gX1_turn_X1_now rfl rfl rfl (by decide +kernel) ⟨Nat.le_of_ble_eq_true rfl, Nat.le_of_ble_eq_true rfl⟩) rfl rfl rfl rfl hl.1 rfl (Nat.le_of_ble_eq_true rfl) dX1_turn_93 (fun H locs hW => ?_)
    refine lv_aload_n hx hb dX1_turn_96 rfl (lv_at hl 1 rfl) ?_
    refine sc_getX1 C0 hW ni_X1_turn_X1 13 (Nat.le_of_ble_eq_true rfl) lk_X1_turn_38 (v := .ref (h 17)) rfl dX1_turn_97 ?_
    refine lv_iload_n hx hb dX1_turn_100 rfl (lv_at hl 0 rfl) ?_
    obtain ⟨hv, hf⟩ := sc_ck_s hf
    refine sc_ldX_17 C0 hW hv dX1_turn_101 ?_
    obtain ⟨hv, hf⟩ := sc_ck_s hf
    obtain ⟨S102, eS102, hf⟩ := sc_sq_s hf
    refine sc_stX_17 C0 hW hv eS102 dX1_turn_102 (fun H locs hW => ?_)
    refine lv_aload_n hx hb dX1_turn_103 rfl (lv_at hl 1 rfl) ?_
    refine sc_getX1 C0 hW ni_X1_turn_X1 14 (Nat.le_of_ble_eq_true rfl) lk_X1_turn_41 (v := .ref (h 18)) rfl dX1_turn_104 ?_
    refine lv_aload_n hx hb dX1_turn_107 rfl (lv_at hl 1 rfl) ?_
    obtain ⟨r108, S108, hc, hf⟩ := sc_cl_s hf
    refine sc_callVi (As := []) (rest := [.ref (h 18)]) (q0 := 2) (ci := 1) sc_okX C0 hW (ct_X1_now hc) (cwV 0 hts gX1_turn_X1_now rfl rfl rfl (by decide +kernel) ⟨Nat.le_of_ble_eq_true rfl, Nat.le_of_ble_eq_true rfl⟩) rfl rfl rfl rfl hl.1 rfl (Nat.le_of_ble_eq_true rfl) dX1_turn_108 (fun H locs hW => ?_)
    refine lv_lconst (v := (0 : Int64)) hx hb dX1_turn_111 (by decide) ?_
    obtain ⟨hv, hf⟩ := sc_ck_s hf
    obtain ⟨S112, eS112, hf⟩ := sc_sq_s hf
    refine sc_stX_18 C0 hW hv eS112 dX1_turn_112 (fun H locs hW => ?_)
    refine lv_aload_n hx hb dX1_turn_113 rfl (lv_at hl 1 rfl) ?_
    refine sc_getX1 C0 hW ni_X1_turn_X1 15 (Nat.le_of_ble_eq_true rfl) lk_X1_turn_44 (v := .ref (h 19)) rfl dX1_turn_114 ?_
    refine lv_iload_n hx hb dX1_turn_117 rfl (lv_at hl 0 rfl) ?_
    refine lv_iconst (v := (0 : Int32)) hx hb dX1_turn_118 (by decide) ?_
    obtain ⟨r119, S119, hc, hf⟩ := sc_cl_s hf
    refine sc_callNi (As := [.int r12, .int (0 : Int32)]) (rest := [.ref (h 19)]) sc_okX C0 hW (ct_X4_cell hc) ⟨va_cnB 2 hts gX1_turn_X4_cell_n85 rfl rfl rfl hW.2.2.2.2.1 (hts _ lk_X1_turn_iniX4) (by decide +kernel) ⟨Nat.le_of_ble_eq_true rfl, Nat.le_of_ble_eq_true rfl⟩, hts _ lk_X1_turn_stX4_cell, trivial⟩ rfl hl.1 rfl (Nat.le_of_ble_eq_true rfl) dX1_turn_119 (fun H locs hW => ?_)
    refine lv_aload_n hx hb dX1_turn_122 rfl (lv_at hl 1 rfl) ?_
    refine sc_getX1 C0 hW ni_X1_turn_X1 15 (Nat.le_of_ble_eq_true rfl) lk_X1_turn_44 (v := .ref (h 19)) rfl dX1_turn_123 ?_
    refine lv_aload_n hx hb dX1_turn_126 rfl (lv_at hl 1 rfl) ?_
    refine sc_getX1 C0 hW ni_X1_turn_X1 4 (Nat.le_of_ble_eq_true rfl) lk_X1_turn_72 (v := .int (sc_gi S119 6)) rfl dX1_turn_127 ?_
    refine lv_aload_n hx hb dX1_turn_130 rfl (lv_at hl 1 rfl) ?_
    refine sc_getX1 C0 hW ni_X1_turn_X1 2 (Nat.le_of_ble_eq_true rfl) lk_X1_turn_60 (v := .int (sc_gi S119 4)) rfl dX1_turn_131 ?_
    obtain ⟨hv, hf⟩ := sc_cp_s hf
    obtain ⟨S134, eS134, hf⟩ := sc_sq_s hf
    refine sc_copyl (S1 := S134) (q0 := 19) (q1 := 19) (t0 := 15) (t1 := 15) (ty := .long) (rest := []) C0 (hts _ lk_X1_turn_ac89) (hts _ lk_X1_turn_acn) (hts _ lk_X1_turn_acs) (hts _ lk_X1_turn_aci) hW rfl rfl rfl rfl rfl hv (fun _ _ => rfl) hl.1 (Nat.le_of_ble_eq_true rfl) (Nat.le_of_ble_eq_true rfl) (by subst eS134; rfl) dX1_turn_134 (fun H locs hW => ?_)
    refine lv_aload_n hx hb dX1_turn_137 rfl (lv_at hl 1 rfl) ?_
    refine sc_getX1 C0 hW ni_X1_turn_X1 16 (Nat.le_of_ble_eq_true rfl) lk_X1_turn_47 (v := .ref (h 20)) rfl dX1_turn_138 ?_
    refine lv_iload_n hx hb dX1_turn_141 rfl (lv_at hl 0 rfl) ?_
    refine lv_iconst (v := (0 : Int32)) hx hb dX1_turn_142 (by decide) ?_
    obtain ⟨r143, S143, hc, hf⟩ := sc_cl_s hf
    refine sc_callNi (As := [.int r12, .int (0 : Int32)]) (rest := [.ref (h 20)]) sc_okX C0 hW (ct_X4_cell hc) ⟨va_cnB 2 hts gX1_turn_X4_cell_n85 rfl rfl rfl hW.2.2.2.2.1 (hts _ lk_X1_turn_iniX4) (by decide +kernel) ⟨Nat.le_of_ble_eq_true rfl, Nat.le_of_ble_eq_true rfl⟩, hts _ lk_X1_turn_stX4_cell, trivial⟩ rfl hl.1 rfl (Nat.le_of_ble_eq_true rfl) dX1_turn_143 (fun H locs hW => ?_)
    refine lv_aload_n hx hb dX1_turn_146 rfl (lv_at hl 1 rfl) ?_
    refine sc_getX1 C0 hW ni_X1_turn_X1 16 (Nat.le_of_ble_eq_true rfl) lk_X1_turn_47 (v := .ref (h 20)) rfl dX1_turn_147 ?_
    refine lv_aload_n hx hb dX1_turn_150 rfl (lv_at hl 1 rfl) ?_
    refine sc_getX1 C0 hW ni_X1_turn_X1 4 (Nat.le_of_ble_eq_true rfl) lk_X1_turn_72 (v := .int (sc_gi S143 6)) rfl dX1_turn_151 ?_
    refine lv_aload_n hx hb dX1_turn_154 rfl (lv_at hl 1 rfl) ?_
    refine sc_getX1 C0 hW ni_X1_turn_X1 2 (Nat.le_of_ble_eq_true rfl) lk_X1_turn_60 (v := .int (sc_gi S143 4)) rfl dX1_turn_155 ?_
    obtain ⟨hv, hf⟩ := sc_cp_s hf
    obtain ⟨S158, eS158, hf⟩ := sc_sq_s hf
    refine sc_copyi (S1 := S158) (q0 := 20) (q1 := 20) (t0 := 16) (t1 := 16) (ty := .int) (rest := []) C0 (hts _ lk_X1_turn_ac89) (hts _ lk_X1_turn_acn) (hts _ lk_X1_turn_acs) (hts _ lk_X1_turn_aci) hW rfl rfl rfl rfl rfl hv (fun _ _ => rfl) hl.1 (Nat.le_of_ble_eq_true rfl) (Nat.le_of_ble_eq_true rfl) (by subst eS158; rfl) dX1_turn_158 (fun H locs hW => ?_)
    refine lv_aload_n hx hb dX1_turn_161 rfl (lv_at hl 1 rfl) ?_
    refine sc_getX1 C0 hW ni_X1_turn_X1 17 (Nat.le_of_ble_eq_true rfl) lk_X1_turn_50 (v := .ref (h 21)) rfl dX1_turn_162 ?_
    refine lv_iload_n hx hb dX1_turn_165 rfl (lv_at hl 0 rfl) ?_
    refine lv_iconst (v := (0 : Int32)) hx hb dX1_turn_166 (by decide) ?_
    obtain ⟨r167, S167, hc, hf⟩ := sc_cl_s hf
    refine sc_callNi (As := [.int r12, .int (0 : Int32)]) (rest := [.ref (h 21)]) sc_okX C0 hW (ct_X4_cell hc) ⟨va_cnB 2 hts gX1_turn_X4_cell_n85 rfl rfl rfl hW.2.2.2.2.1 (hts _ lk_X1_turn_iniX4) (by decide +kernel) ⟨Nat.le_of_ble_eq_true rfl, Nat.le_of_ble_eq_true rfl⟩, hts _ lk_X1_turn_stX4_cell, trivial⟩ rfl hl.1 rfl (Nat.le_of_ble_eq_true rfl) dX1_turn_167 (fun H locs hW => ?_)
    refine lv_aload_n hx hb dX1_turn_170 rfl (lv_at hl 1 rfl) ?_
    refine sc_getX1 C0 hW ni_X1_turn_X1 17 (Nat.le_of_ble_eq_true rfl) lk_X1_turn_50 (v := .ref (h 21)) rfl dX1_turn_171 ?_
    refine lv_aload_n hx hb dX1_turn_174 rfl (lv_at hl 1 rfl) ?_
    refine sc_getX1 C0 hW ni_X1_turn_X1 4 (Nat.le_of_ble_eq_true rfl) lk_X1_turn_72 (v := .int (sc_gi S167 6)) rfl dX1_turn_175 ?_
    refine lv_aload_n hx hb dX1_turn_178 rfl (lv_at hl 1 rfl) ?_
    refine sc_getX1 C0 hW ni_X1_turn_X1 2 (Nat.le_of_ble_eq_true rfl) lk_X1_turn_60 (v := .int (sc_gi S167 4)) rfl dX1_turn_179 ?_
    obtain ⟨hv, hf⟩ := sc_cp_s hf
    obtain ⟨S182, eS182, hf⟩ := sc_sq_s hf
    refine sc_copyi (S1 := S182) (q0 := 21) (q1 := 21) (t0 := 17) (t1 := 17) (ty := .int) (rest := []) C0 (hts _ lk_X1_turn_ac89) (hts _ lk_X1_turn_acn) (hts _ lk_X1_turn_acs) (hts _ lk_X1_turn_aci) hW rfl rfl rfl rfl rfl hv (fun _ _ => rfl) hl.1 (Nat.le_of_ble_eq_true rfl) (Nat.le_of_ble_eq_true rfl) (by subst eS182; rfl) dX1_turn_182 (fun H locs hW => ?_)
    refine lv_iconst (v := (1 : Int32)) hx hb dX1_turn_185 (by decide) ?_
    exact sc_reti hR hf hW dX1_turn_186
  · replace hf := sc_in hc hf
    refine lv_iconst (v := (0 : Int32)) hx hb dX1_turn_9 (by decide) ?_
    exact sc_reti hR hf hW dX1_turn_10
set_option maxRecDepth 100000 in
theorem ct_X1_turn {S S' : sc_M} {r : Int32} {x1 : Int32} {x2 : Int32} (hf : fn_X1_turn S x1 x2 = some (r, S')) : sc_Ci l yX1_turn wsX1_turn rm_X1_turn (sc_EX dC dI h cy) [.ref (h 2), .int x1, .int x2] S S' r := by
  obtain ⟨hf, h01⟩ := sc_bz_s hf
  refine sc_ofi (cc := cX1_turn) (maxL := 4) .boolean (sc_nar01 h01) sc_okX (by decide) rfl (Nat.le_of_ble_eq_true rfl) ?_
  intro p e s m below meth c Q C0 hR hW ls hl
  exact wk_X1_turn_0 C0 hR _ _ _ _ _ _ hf hW hl
end
