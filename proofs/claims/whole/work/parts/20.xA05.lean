/-! ===== SeatCounts$PaperRules.passAll(LSeatCounts$House;LSeatCounts$Journal;IJ)J ===== -/
abbrev rm_X3_passAll : Room := { frames := 3, cells := 0, slots := 0, locals := 74 }
theorem lk_X3_passAll_104 : Cond.fieldLink RX3 104 "SeatCounts$Journal" "rule" "I" ∈ wsX3_passAll := by decide +kernel
theorem lk_X3_passAll_15 : Cond.fieldLink RX3 15 "SeatCounts$PaperRules" "values" "[I" ∈ wsX3_passAll := by decide +kernel
theorem lk_X3_passAll_21 : Cond.fieldLink RX3 21 "SeatCounts$PaperRules" "piles" "I" ∈ wsX3_passAll := by decide +kernel
theorem lk_X3_passAll_28 : Cond.fieldLink RX3 28 "SeatCounts$PaperRules" "row" "I" ∈ wsX3_passAll := by decide +kernel
theorem lk_X3_passAll_9 : Cond.fieldLink RX3 9 "SeatCounts$PaperRules" "holders" "[I" ∈ wsX3_passAll := by decide +kernel
theorem lk_X3_passAll_96 : Cond.fieldLink RX3 96 "SeatCounts$Journal" "row" "I" ∈ wsX3_passAll := by decide +kernel
theorem lk_X3_passAll_97 : Cond.fieldLink RX3 97 "SeatCounts$Journal" "votes" "[J" ∈ wsX3_passAll := by decide +kernel
theorem ni_X3_passAll_X1 : ∀ w ∈ wsX10, w ∈ wsX3_passAll := by decide +kernel
theorem ni_X3_passAll_X3 : ∀ w ∈ wsX30, w ∈ wsX3_passAll := by decide +kernel
noncomputable def fn_X3_passAll_102 (k43 : sc_M → Int32 → Int64 → Int64 → Int64 → Int64 → Int32 → Option (Int64 × sc_M)) (S : sc_M) (x3 : Int32) (x4 : Int64) (x6 : Int64) (x8 : Int64) (x10 : Int64) (x12 : Int32) (z0 : Int64) : Option (Int64 × sc_M) :=
  sc_cl (fn_X3_send S x12 z0) (fun r113 S113 => sc_sq ((x10 + r113)) (fun y117 => k43 S113 x3 x4 x6 x8 y117 (x12 + 1)))
noncomputable def fn_X3_passAll_43 : Nat → sc_M → Int32 → Int64 → Int64 → Int64 → Int64 → Int32 → Option (Int64 × sc_M)
  | 0, _, _, _, _, _, _, _ => none
  | n + 1, S, x3, x4, x6, x8, x10, x12 =>
    if (sc_gi S 8) ≤ x12 then
      some (x10, S)
    else
      sc_ck ((sc_gi S 9) + x12) 1040 (if (sc_ga S 22 ((sc_gi S 9) + x12).toNatClampNeg) = x3 then
        if (sc_gi S 2) = 0 then
          sc_ck ((sc_gi S 9) + x12) 1040 (sc_nl x6 (fn_X3_passAll_102 (fn_X3_passAll_43 n) S x3 x4 x6 x8 x10 x12 (((sc_ga S 23 ((sc_gi S 9) + x12).toNatClampNeg).toInt64 * x4) / x6)))
        else
          sc_nl x8 (fn_X3_passAll_102 (fn_X3_passAll_43 n) S x3 x4 x6 x8 x10 x12 (x4 / x8))
      else
        fn_X3_passAll_43 n S x3 x4 x6 x8 x10 (x12 + 1))
noncomputable def fn_X3_passAll (S : sc_M) (x3 : Int32) (x4 : Int64) : Option (Int64 × sc_M) :=
  sc_ck ((sc_gi S 6) + x3) 864 (sc_sq ((sc_gb S 19 ((sc_gi S 6) + x3).toNatClampNeg)) (fun y11 => sc_cl (fn_X3_papersOf S x3) (fun r16 S16 => if y11 ≤ (0 : Int64) then
    some ((0 : Int64), S16)
  else
    if (0 : Int64) < r16 then
      fn_X3_passAll_43 sc_FU S16 x3 x4 y11 r16 (0 : Int64) (0 : Int32)
    else
      some ((0 : Int64), S16))))
section
variable {p : Program} {l : Launch} {e : Env} {s : State} {m : MethodId} {args : Array Value} {below : List Frame} {meth : Method} {c : Code} {Q : State → Prop} {dC : Nat → ClassId} {dI : Nat → Nat → Nat} {h : Nat → Nat} {cy : Nat → ClassId}
set_option maxHeartbeats 4000000 in
set_option maxRecDepth 100000 in
theorem wk_X3_passAll_102 (C0 : CallFix p m c cX3_passAll 15 s args wsX3_passAll RX3) {S' : sc_M} {r : Int64} (hR : sc_Rl p l e rm_X3_passAll s m args below meth c Q cX3_passAll (sc_EX dC dI h cy) S' r) {k43 : sc_M → Int32 → Int64 → Int64 → Int64 → Int64 → Int32 → Option (Int64 × sc_M)} (hk43 : ∀ (S : sc_M) (x3 : Int32) (x4 : Int64) (x6 : Int64) (x8 : Int64) (x10 : Int64) (x12 : Int32) (H : Heap) (locs : List Loc) (ls : Array Slot), k43 S x3 x4 x6 x8 x10 x12 = some (r, S') → sc_W (sc_EX dC dI h cy) s H locs S → lv_has ls 15 [(0, .ref (h 3)), (1, .ref (h 1)), (2, .ref (h 2)), (3, .int x3), (4, .long x4), (6, .long x6), (8, .long x8), (10, .long x10), (12, .int x12)] → W p l e rm_X3_passAll s m args below meth c H locs 0 0 Q (F0 m 43 ls [])) : ∀ (S : sc_M) (x3 : Int32) (x4 : Int64) (x6 : Int64) (x8 : Int64) (x10 : Int64) (x12 : Int32) (z0 : Int64) (H : Heap) (locs : List Loc) (ls : Array Slot), fn_X3_passAll_102 k43 S x3 x4 x6 x8 x10 x12 z0 = some (r, S') → sc_W (sc_EX dC dI h cy) s H locs S → lv_has ls 15 [(0, .ref (h 3)), (1, .ref (h 1)), (2, .ref (h 2)), (3, .int x3), (4, .long x4), (6, .long x6), (8, .long x8), (10, .long x10), (12, .int x12)] → W p l e rm_X3_passAll s m args below meth c H locs 0 0 Q (F0 m 102 ls [.long z0]) := by
  obtain ⟨hx, hb, hml, hown, hts⟩ := id C0
  intro S x3 x4 x6 x8 x10 x12 z0 H locs ls hf hW hl
  rw [fn_X3_passAll_102] at hf
  refine lv_lstore (lv' := [(13, .long z0), (0, .ref (h 3)), (1, .ref (h 1)), (2, .ref (h 2)), (3, .int x3), (4, .long x4), (6, .long x6), (8, .long x8), (10, .long x10), (12, .int x12)]) hx hb dX3_passAll_102 hl (by decide) rfl (fun ls hl => ?_)
  refine lv_lload hx hb dX3_passAll_104 (lv_at hl 8 rfl) ?_
  refine lv_aload_n hx hb dX3_passAll_106 rfl (lv_at hl 1 rfl) ?_
  refine lv_aload_n hx hb dX3_passAll_107 rfl (lv_at hl 2 rfl) ?_
  refine lv_aload_n hx hb dX3_passAll_108 rfl (lv_at hl 3 rfl) ?_
  refine lv_iload hx hb dX3_passAll_109 (lv_at hl 9 rfl) ?_
  refine lv_lload hx hb dX3_passAll_111 (lv_at hl 0 rfl) ?_
  obtain ⟨r113, S113, hc, hf⟩ := sc_cl_s hf
  refine sc_callVl (As := [.ref (h 1), .ref (h 2), .int x12, .long z0]) (rest := [.long x10]) (q0 := 3) (ci := 2) sc_okX C0 hW (ct_X3_send hc) (cwV 4 hts gX3_passAll_X3_send rfl rfl rfl (by decide +kernel) ⟨Nat.le_of_ble_eq_true rfl, Nat.le_of_ble_eq_true rfl⟩) rfl rfl rfl rfl hl.1 rfl (Nat.le_of_ble_eq_true rfl) dX3_passAll_113 (fun H locs hW => ?_)
  refine lv_ladd hx hb dX3_passAll_116 ?_
  obtain ⟨y117, ey117, hf⟩ := sc_sq_s hf
  refine sc_topl ey117 ?_
  refine lv_lstore (lv' := [(10, .long y117), (13, .long z0), (0, .ref (h 3)), (1, .ref (h 1)), (2, .ref (h 2)), (3, .int x3), (4, .long x4), (6, .long x6), (8, .long x8), (12, .int x12)]) hx hb dX3_passAll_117 hl (by decide) rfl (fun ls hl => ?_)
  refine lv_iinc (v := (x12 + 1)) (lv' := [(12, .int (x12 + 1)), (10, .long y117), (13, .long z0), (0, .ref (h 3)), (1, .ref (h 1)), (2, .ref (h 2)), (3, .int x3), (4, .long x4), (6, .long x6), (8, .long x8)]) hx hb dX3_passAll_119 hl (k := 9) rfl rfl (by decide) rfl (fun ls hl => ?_)
  refine lv_goto (tgt := 43) hx hb dX3_passAll_122 (by decide) ?_
  exact hk43 _ _ _ _ _ _ _ _ _ _ hf hW (lv_sub hl [3, 4, 5, 6, 7, 8, 9, 1, 0] rfl)
set_option maxHeartbeats 4000000 in
set_option maxRecDepth 100000 in
theorem wk_X3_passAll_43 (C0 : CallFix p m c cX3_passAll 15 s args wsX3_passAll RX3) {S' : sc_M} {r : Int64} (hR : sc_Rl p l e rm_X3_passAll s m args below meth c Q cX3_passAll (sc_EX dC dI h cy) S' r) : ∀ n : Nat, ∀ (S : sc_M) (x3 : Int32) (x4 : Int64) (x6 : Int64) (x8 : Int64) (x10 : Int64) (x12 : Int32) (H : Heap) (locs : List Loc) (ls : Array Slot), fn_X3_passAll_43 n S x3 x4 x6 x8 x10 x12 = some (r, S') → sc_W (sc_EX dC dI h cy) s H locs S → lv_has ls 15 [(0, .ref (h 3)), (1, .ref (h 1)), (2, .ref (h 2)), (3, .int x3), (4, .long x4), (6, .long x6), (8, .long x8), (10, .long x10), (12, .int x12)] → W p l e rm_X3_passAll s m args below meth c H locs 0 0 Q (F0 m 43 ls []) := by
  obtain ⟨hx, hb, hml, hown, hts⟩ := id C0
  intro n
  induction n with
  | zero => intro S x3 x4 x6 x8 x10 x12 H locs ls; intro hf; cases hf
  | succ n ih =>
    intro S x3 x4 x6 x8 x10 x12 H locs ls hf hW hl
    rw [fn_X3_passAll_43] at hf
    refine lv_iload hx hb dX3_passAll_43 (lv_at hl 8 rfl) ?_
    refine lv_aload_n hx hb dX3_passAll_45 rfl (lv_at hl 0 rfl) ?_
    refine sc_getX3 C0 hW ni_X3_passAll_X3 0 (Nat.le_of_ble_eq_true rfl) lk_X3_passAll_21 (v := .int (sc_gi S 8)) rfl dX3_passAll_46 ?_
    refine lv_icmp_ge (tgt := 125) hx hb dX3_passAll_49 (by decide) (fun hc => ?_) (fun hc => ?_)
    · replace hf := sc_ip hc hf
      refine lv_lload hx hb dX3_passAll_125 (lv_at hl 7 rfl) ?_
      exact sc_retl hR hf hW dX3_passAll_127
    · replace hf := sc_in hc hf
      refine lv_aload_n hx hb dX3_passAll_52 rfl (lv_at hl 0 rfl) ?_
      refine sc_getX3 C0 hW ni_X3_passAll_X3 1 (Nat.le_of_ble_eq_true rfl) lk_X3_passAll_9 (v := .ref (h 22)) rfl dX3_passAll_53 ?_
      refine lv_aload_n hx hb dX3_passAll_56 rfl (lv_at hl 0 rfl) ?_
      refine sc_getX3 C0 hW ni_X3_passAll_X3 3 (Nat.le_of_ble_eq_true rfl) lk_X3_passAll_28 (v := .int (sc_gi S 9)) rfl dX3_passAll_57 ?_
      refine lv_iload hx hb dX3_passAll_60 (lv_at hl 8 rfl) ?_
      refine lv_iadd hx hb dX3_passAll_62 ?_
      obtain ⟨hv, hf⟩ := sc_ck_s hf
      refine sc_ldX_22 C0 hW hv dX3_passAll_63 ?_
      refine lv_iload_n hx hb dX3_passAll_64 rfl (lv_at hl 3 rfl) ?_
      refine lv_icmp_ne (tgt := 119) hx hb dX3_passAll_65 (by decide) (fun hc => ?_) (fun hc => ?_)
      · replace hf := sc_in hc hf
        refine lv_iinc (v := (x12 + 1)) (lv' := [(12, .int (x12 + 1)), (0, .ref (h 3)), (1, .ref (h 1)), (2, .ref (h 2)), (3, .int x3), (4, .long x4), (6, .long x6), (8, .long x8), (10, .long x10)]) hx hb dX3_passAll_119 hl (k := 8) rfl rfl (by decide) rfl (fun ls hl => ?_)
        refine lv_goto (tgt := 43) hx hb dX3_passAll_122 (by decide) ?_
        exact ih _ _ _ _ _ _ _ _ _ _ hf hW (lv_sub hl [1, 2, 3, 4, 5, 6, 7, 8, 0] rfl)
      · replace hf := sc_ip hc hf
        refine lv_aload_n hx hb dX3_passAll_68 rfl (lv_at hl 2 rfl) ?_
        refine sc_getX1 C0 hW ni_X3_passAll_X1 0 (Nat.le_of_ble_eq_true rfl) lk_X3_passAll_104 (v := .int (sc_gi S 2)) rfl dX3_passAll_69 ?_
        refine lv_if_ne (tgt := 97) hx hb dX3_passAll_72 (by decide) (fun hc => ?_) (fun hc => ?_)
        · replace hf := sc_in hc hf
          refine lv_lload hx hb dX3_passAll_97 (lv_at hl 4 rfl) ?_
          refine lv_lload hx hb dX3_passAll_99 (lv_at hl 6 rfl) ?_
          obtain ⟨hz, hf⟩ := sc_nl_s hf
          refine lv_ldiv hx hb dX3_passAll_101 hz ?_
          exact wk_X3_passAll_102 C0 hR ih _ _ _ _ _ _ _ _ _ _ _ hf hW (lv_sub hl [0, 1, 2, 3, 4, 5, 6, 7, 8] rfl)
        · replace hf := sc_ip hc hf
          refine lv_aload_n hx hb dX3_passAll_75 rfl (lv_at hl 0 rfl) ?_
          refine sc_getX3 C0 hW ni_X3_passAll_X3 2 (Nat.le_of_ble_eq_true rfl) lk_X3_passAll_15 (v := .ref (h 23)) rfl dX3_passAll_76 ?_
          refine lv_aload_n hx hb dX3_passAll_79 rfl (lv_at hl 0 rfl) ?_
          refine sc_getX3 C0 hW ni_X3_passAll_X3 3 (Nat.le_of_ble_eq_true rfl) lk_X3_passAll_28 (v := .int (sc_gi S 9)) rfl dX3_passAll_80 ?_
          refine lv_iload hx hb dX3_passAll_83 (lv_at hl 8 rfl) ?_
          refine lv_iadd hx hb dX3_passAll_85 ?_
          obtain ⟨hv, hf⟩ := sc_ck_s hf
          refine sc_ldX_23 C0 hW hv dX3_passAll_86 ?_
          refine lv_i2l hx hb dX3_passAll_87 rfl ?_
          refine lv_lload hx hb dX3_passAll_88 (lv_at hl 4 rfl) ?_
          refine lv_lmul hx hb dX3_passAll_90 ?_
          refine lv_lload hx hb dX3_passAll_91 (lv_at hl 5 rfl) ?_
          obtain ⟨hz, hf⟩ := sc_nl_s hf
          refine lv_ldiv hx hb dX3_passAll_93 hz ?_
          refine lv_goto (tgt := 102) hx hb dX3_passAll_94 (by decide) ?_
          exact wk_X3_passAll_102 C0 hR ih _ _ _ _ _ _ _ _ _ _ _ hf hW (lv_sub hl [0, 1, 2, 3, 4, 5, 6, 7, 8] rfl)
set_option maxHeartbeats 4000000 in
set_option maxRecDepth 100000 in
theorem wk_X3_passAll_0 (C0 : CallFix p m c cX3_passAll 15 s args wsX3_passAll RX3) {S' : sc_M} {r : Int64} (hR : sc_Rl p l e rm_X3_passAll s m args below meth c Q cX3_passAll (sc_EX dC dI h cy) S' r) : ∀ (S : sc_M) (x3 : Int32) (x4 : Int64) (H : Heap) (locs : List Loc) (ls : Array Slot), fn_X3_passAll S x3 x4 = some (r, S') → sc_W (sc_EX dC dI h cy) s H locs S → lv_has ls 15 [(0, .ref (h 3)), (1, .ref (h 1)), (2, .ref (h 2)), (3, .int x3), (4, .long x4)] → W p l e rm_X3_passAll s m args below meth c H locs 0 0 Q (F0 m 0 ls []) := by
  obtain ⟨hx, hb, hml, hown, hts⟩ := id C0
  intro S x3 x4 H locs ls hf hW hl
  rw [fn_X3_passAll] at hf
  refine lv_aload_n hx hb dX3_passAll_0 rfl (lv_at hl 2 rfl) ?_
  refine sc_getX1 C0 hW ni_X3_passAll_X1 15 (Nat.le_of_ble_eq_true rfl) lk_X3_passAll_97 (v := .ref (h 19)) rfl dX3_passAll_1 ?_
  refine lv_aload_n hx hb dX3_passAll_4 rfl (lv_at hl 2 rfl) ?_
  refine sc_getX1 C0 hW ni_X3_passAll_X1 4 (Nat.le_of_ble_eq_true rfl) lk_X3_passAll_96 (v := .int (sc_gi S 6)) rfl dX3_passAll_5 ?_
  refine lv_iload_n hx hb dX3_passAll_8 rfl (lv_at hl 3 rfl) ?_
  refine lv_iadd hx hb dX3_passAll_9 ?_
  obtain ⟨hv, hf⟩ := sc_ck_s hf
  refine sc_ldX_19 C0 hW hv dX3_passAll_10 ?_
  obtain ⟨y11, ey11, hf⟩ := sc_sq_s hf
  refine sc_topl ey11 ?_
  refine lv_lstore (lv' := [(6, .long y11), (0, .ref (h 3)), (1, .ref (h 1)), (2, .ref (h 2)), (3, .int x3), (4, .long x4)]) hx hb dX3_passAll_11 hl (by decide) rfl (fun ls hl => ?_)
  refine lv_aload_n hx hb dX3_passAll_13 rfl (lv_at hl 1 rfl) ?_
  refine lv_aload_n hx hb dX3_passAll_14 rfl (lv_at hl 2 rfl) ?_
  refine lv_iload_n hx hb dX3_passAll_15 rfl (lv_at hl 4 rfl) ?_
  obtain ⟨r16, S16, hc, hf⟩ := sc_cl_s hf
  refine sc_callVl (As := [.ref (h 1), .int x3]) (rest := []) (q0 := 3) (ci := 2) sc_okX C0 hW (ct_X3_papersOf hc) (cwV 2 hts gX3_passAll_X3_papersOf rfl rfl rfl (by decide +kernel) ⟨Nat.le_of_ble_eq_true rfl, Nat.le_of_ble_eq_true rfl⟩) rfl rfl rfl rfl hl.1 rfl (Nat.le_of_ble_eq_true rfl) dX3_passAll_16 (fun H locs hW => ?_)
  refine lv_lstore (lv' := [(8, .long r16), (6, .long y11), (0, .ref (h 3)), (1, .ref (h 1)), (2, .ref (h 2)), (3, .int x3), (4, .long x4)]) hx hb dX3_passAll_19 hl (by decide) rfl (fun ls hl => ?_)
  refine lv_lload hx hb dX3_passAll_21 (lv_at hl 1 rfl) ?_
  refine lv_lconst (v := (0 : Int64)) hx hb dX3_passAll_23 (by decide) ?_
  refine sc_l_le (tgt := 35) C0 dX3_passAll_24 dX3_passAll_25 (by decide) (fun hc => ?_) (fun hc => ?_)
  · replace hf := sc_ip hc hf
    refine lv_lconst (v := (0 : Int64)) hx hb dX3_passAll_35 (by decide) ?_
    exact sc_retl hR hf hW dX3_passAll_36
  · replace hf := sc_in hc hf
    refine lv_lload hx hb dX3_passAll_28 (lv_at hl 0 rfl) ?_
    refine lv_lconst (v := (0 : Int64)) hx hb dX3_passAll_30 (by decide) ?_
    refine sc_l_gt (tgt := 37) C0 dX3_passAll_31 dX3_passAll_32 (by decide) (fun hc => ?_) (fun hc => ?_)
    · replace hf := sc_ip hc hf
      refine lv_lconst (v := (0 : Int64)) hx hb dX3_passAll_37 (by decide) ?_
      refine lv_lstore (lv' := [(10, .long (0 : Int64)), (8, .long r16), (6, .long y11), (0, .ref (h 3)), (1, .ref (h 1)), (2, .ref (h 2)), (3, .int x3), (4, .long x4)]) hx hb dX3_passAll_38 hl (by decide) rfl (fun ls hl => ?_)
      refine lv_iconst (v := (0 : Int32)) hx hb dX3_passAll_40 (by decide) ?_
      refine lv_istore (lv' := [(12, .int (0 : Int32)), (10, .long (0 : Int64)), (8, .long r16), (6, .long y11), (0, .ref (h 3)), (1, .ref (h 1)), (2, .ref (h 2)), (3, .int x3), (4, .long x4)]) hx hb dX3_passAll_41 hl (by decide) rfl (fun ls hl => ?_)
      exact wk_X3_passAll_43 C0 hR  sc_FU _ _ _ _ _ _ _ _ _ _ hf hW (lv_sub hl [4, 5, 6, 7, 8, 3, 2, 1, 0] rfl)
    · replace hf := sc_in hc hf
      refine lv_lconst (v := (0 : Int64)) hx hb dX3_passAll_35 (by decide) ?_
      exact sc_retl hR hf hW dX3_passAll_36
set_option maxRecDepth 100000 in
theorem ct_X3_passAll {S S' : sc_M} {r : Int64} {x3 : Int32} {x4 : Int64} (hf : fn_X3_passAll S x3 x4 = some (r, S')) : sc_Cl l yX3_passAll wsX3_passAll rm_X3_passAll (sc_EX dC dI h cy) [.ref (h 3), .ref (h 1), .ref (h 2), .int x3, .long x4] S S' r := by
  refine sc_ofl (cc := cX3_passAll) (maxL := 15) sc_okX (by decide) rfl (Nat.le_of_ble_eq_true rfl) ?_
  intro p e s m below meth c Q C0 hR hW ls hl
  exact wk_X3_passAll_0 C0 hR _ _ _ _ _ _ hf hW hl
end

/-! ===== SeatCounts$PaperRules.passSurplus(LSeatCounts$House;LSeatCounts$Journal;I)V ===== -/
abbrev rm_X3_passSurplus : Room := { frames := 4, cells := 0, slots := 0, locals := 110 }
theorem lk_X3_passSurplus_104 : Cond.fieldLink RX3 104 "SeatCounts$Journal" "rule" "I" ∈ wsX3_passSurplus := by decide +kernel
theorem lk_X3_passSurplus_113 : Cond.fieldLink RX3 113 "SeatCounts$Journal" "lost" "[J" ∈ wsX3_passSurplus := by decide +kernel
theorem lk_X3_passSurplus_96 : Cond.fieldLink RX3 96 "SeatCounts$Journal" "row" "I" ∈ wsX3_passSurplus := by decide +kernel
theorem lk_X3_passSurplus_97 : Cond.fieldLink RX3 97 "SeatCounts$Journal" "votes" "[J" ∈ wsX3_passSurplus := by decide +kernel
theorem ni_X3_passSurplus_X1 : ∀ w ∈ wsX10, w ∈ wsX3_passSurplus := by decide +kernel
noncomputable def fn_X3_passSurplus_47 (S : sc_M) (x3 : Int32) (x4 : Int64) (z0 : Int64) : Option (sc_M) :=
  sc_cl (fn_X1_quota S) (fun r60 S60 => sc_ck ((sc_gi S 6) + x3) 864 (sc_sq (sc_mB S60 19 (vp_updL (sc_gb S60 19) ((sc_gi S 6) + x3).toNatClampNeg r60)) (fun S63 => sc_cl (fn_X1_now S63) (fun r69 S69 => sc_ck r69 72 (sc_ck r69 72 (sc_sq (sc_mB S69 16 (vp_updL (sc_gb S69 16) r69.toNatClampNeg ((sc_gb S69 16 r69.toNatClampNeg) + (x4 - z0)))) (fun S80 => some S80)))))))
noncomputable def fn_X3_passSurplus (S : sc_M) (x3 : Int32) : Option (sc_M) :=
  sc_ck ((sc_gi S 6) + x3) 864 (sc_cl (fn_X1_quota S) (fun r12 S12 => sc_sq (((sc_gb S 19 ((sc_gi S 6) + x3).toNatClampNeg) - r12)) (fun y16 => if (sc_gi S12 2) = (2 : Int32) then
    sc_cl (fn_X3_passLast S12 x3 y16) (fun r32 S32 => fn_X3_passSurplus_47 S32 x3 y16 r32)
  else
    sc_cl (fn_X3_passAll S12 x3 y16) (fun r44 S44 => fn_X3_passSurplus_47 S44 x3 y16 r44))))
section
variable {p : Program} {l : Launch} {e : Env} {s : State} {m : MethodId} {args : Array Value} {below : List Frame} {meth : Method} {c : Code} {Q : State → Prop} {dC : Nat → ClassId} {dI : Nat → Nat → Nat} {h : Nat → Nat} {cy : Nat → ClassId}
set_option maxHeartbeats 4000000 in
set_option maxRecDepth 100000 in
theorem wk_X3_passSurplus_47 (C0 : CallFix p m c cX3_passSurplus 8 s args wsX3_passSurplus RX3) {S' : sc_M} (hR : sc_Rv p l e rm_X3_passSurplus s m args below meth c Q cX3_passSurplus (sc_EX dC dI h cy) S') : ∀ (S : sc_M) (x3 : Int32) (x4 : Int64) (z0 : Int64) (H : Heap) (locs : List Loc) (ls : Array Slot), fn_X3_passSurplus_47 S x3 x4 z0 = some S' → sc_W (sc_EX dC dI h cy) s H locs S → lv_has ls 8 [(2, .ref (h 2)), (3, .int x3), (4, .long x4)] → W p l e rm_X3_passSurplus s m args below meth c H locs 0 0 Q (F0 m 47 ls [.long z0]) := by
  obtain ⟨hx, hb, hml, hown, hts⟩ := id C0
  intro S x3 x4 z0 H locs ls hf hW hl
  rw [fn_X3_passSurplus_47] at hf
  refine lv_lstore (lv' := [(6, .long z0), (2, .ref (h 2)), (3, .int x3), (4, .long x4)]) hx hb dX3_passSurplus_47 hl (by decide) rfl (fun ls hl => ?_)
  refine lv_aload_n hx hb dX3_passSurplus_49 rfl (lv_at hl 1 rfl) ?_
  refine sc_getX1 C0 hW ni_X3_passSurplus_X1 15 (Nat.le_of_ble_eq_true rfl) lk_X3_passSurplus_97 (v := .ref (h 19)) rfl dX3_passSurplus_50 ?_
  refine lv_aload_n hx hb dX3_passSurplus_53 rfl (lv_at hl 1 rfl) ?_
  refine sc_getX1 C0 hW ni_X3_passSurplus_X1 4 (Nat.le_of_ble_eq_true rfl) lk_X3_passSurplus_96 (v := .int (sc_gi S 6)) rfl dX3_passSurplus_54 ?_
  refine lv_iload_n hx hb dX3_passSurplus_57 rfl (lv_at hl 2 rfl) ?_
  refine lv_iadd hx hb dX3_passSurplus_58 ?_
  refine lv_aload_n hx hb dX3_passSurplus_59 rfl (lv_at hl 1 rfl) ?_
  obtain ⟨r60, S60, hc, hf⟩ := sc_cl_s hf
  refine sc_callVl (As := []) (rest := [.int ((sc_gi S 6) + x3), .ref (h 19)]) (q0 := 2) (ci := 1) sc_okX C0 hW (ct_X1_quota hc) (cwV 0 hts gX3_passSurplus_X1_quota rfl rfl rfl (by decide +kernel) ⟨Nat.le_of_ble_eq_true rfl, Nat.le_of_ble_eq_true rfl⟩) rfl rfl rfl rfl hl.1 rfl (Nat.le_of_ble_eq_true rfl) dX3_passSurplus_60 (fun H locs hW => ?_)
  obtain ⟨hv, hf⟩ := sc_ck_s hf
  obtain ⟨S63, eS63, hf⟩ := sc_sq_s hf
  refine sc_stX_19 C0 hW hv eS63 dX3_passSurplus_63 (fun H locs hW => ?_)
  refine lv_aload_n hx hb dX3_passSurplus_64 rfl (lv_at hl 1 rfl) ?_
  refine sc_getX1 C0 hW ni_X3_passSurplus_X1 12 (Nat.le_of_ble_eq_true rfl) lk_X3_passSurplus_113 (v := .ref (h 16)) rfl dX3_passSurplus_65 ?_
  refine lv_aload_n hx hb dX3_passSurplus_68 rfl (lv_at hl 1 rfl) ?_
  obtain ⟨r69, S69, hc, hf⟩ := sc_cl_s hf
  refine sc_callVi (As := []) (rest := [.ref (h 16)]) (q0 := 2) (ci := 1) sc_okX C0 hW (ct_X1_now hc) (cwV 0 hts gX3_passSurplus_X1_now rfl rfl rfl (by decide +kernel) ⟨Nat.le_of_ble_eq_true rfl, Nat.le_of_ble_eq_true rfl⟩) rfl rfl rfl rfl hl.1 rfl (Nat.le_of_ble_eq_true rfl) dX3_passSurplus_69 (fun H locs hW => ?_)
  refine lv_dup2_11 hx hb dX3_passSurplus_72 rfl rfl ?_
  obtain ⟨hv, hf⟩ := sc_ck_s hf
  refine sc_ldX_16 C0 hW hv dX3_passSurplus_73 ?_
  refine lv_lload hx hb dX3_passSurplus_74 (lv_at hl 3 rfl) ?_
  refine lv_lload hx hb dX3_passSurplus_76 (lv_at hl 0 rfl) ?_
  refine lv_lsub hx hb dX3_passSurplus_78 ?_
  refine lv_ladd hx hb dX3_passSurplus_79 ?_
  obtain ⟨hv, hf⟩ := sc_ck_s hf
  obtain ⟨S80, eS80, hf⟩ := sc_sq_s hf
  refine sc_stX_16 C0 hW hv eS80 dX3_passSurplus_80 (fun H locs hW => ?_)
  exact sc_retv hR hf hW dX3_passSurplus_81
set_option maxHeartbeats 4000000 in
set_option maxRecDepth 100000 in
theorem wk_X3_passSurplus_0 (C0 : CallFix p m c cX3_passSurplus 8 s args wsX3_passSurplus RX3) {S' : sc_M} (hR : sc_Rv p l e rm_X3_passSurplus s m args below meth c Q cX3_passSurplus (sc_EX dC dI h cy) S') : ∀ (S : sc_M) (x3 : Int32) (H : Heap) (locs : List Loc) (ls : Array Slot), fn_X3_passSurplus S x3 = some S' → sc_W (sc_EX dC dI h cy) s H locs S → lv_has ls 8 [(0, .ref (h 3)), (1, .ref (h 1)), (2, .ref (h 2)), (3, .int x3)] → W p l e rm_X3_passSurplus s m args below meth c H locs 0 0 Q (F0 m 0 ls []) := by
  obtain ⟨hx, hb, hml, hown, hts⟩ := id C0
  intro S x3 H locs ls hf hW hl
  rw [fn_X3_passSurplus] at hf
  refine lv_aload_n hx hb dX3_passSurplus_0 rfl (lv_at hl 2 rfl) ?_
  refine sc_getX1 C0 hW ni_X3_passSurplus_X1 15 (Nat.le_of_ble_eq_true rfl) lk_X3_passSurplus_97 (v := .ref (h 19)) rfl dX3_passSurplus_1 ?_
  refine lv_aload_n hx hb dX3_passSurplus_4 rfl (lv_at hl 2 rfl) ?_
  refine sc_getX1 C0 hW ni_X3_passSurplus_X1 4 (Nat.le_of_ble_eq_true rfl) lk_X3_passSurplus_96 (v := .int (sc_gi S 6)) rfl dX3_passSurplus_5 ?_
  refine lv_iload_n hx hb dX3_passSurplus_8 rfl (lv_at hl 3 rfl) ?_
  refine lv_iadd hx hb dX3_passSurplus_9 ?_
  obtain ⟨hv, hf⟩ := sc_ck_s hf
  refine sc_ldX_19 C0 hW hv dX3_passSurplus_10 ?_
  refine lv_aload_n hx hb dX3_passSurplus_11 rfl (lv_at hl 2 rfl) ?_
  obtain ⟨r12, S12, hc, hf⟩ := sc_cl_s hf
  refine sc_callVl (As := []) (rest := [.long (sc_gb S 19 ((sc_gi S 6) + x3).toNatClampNeg)]) (q0 := 2) (ci := 1) sc_okX C0 hW (ct_X1_quota hc) (cwV 0 hts gX3_passSurplus_X1_quota rfl rfl rfl (by decide +kernel) ⟨Nat.le_of_ble_eq_true rfl, Nat.le_of_ble_eq_true rfl⟩) rfl rfl rfl rfl hl.1 rfl (Nat.le_of_ble_eq_true rfl) dX3_passSurplus_12 (fun H locs hW => ?_)
  refine lv_lsub hx hb dX3_passSurplus_15 ?_
  obtain ⟨y16, ey16, hf⟩ := sc_sq_s hf
  refine sc_topl ey16 ?_
  refine lv_lstore (lv' := [(4, .long y16), (0, .ref (h 3)), (1, .ref (h 1)), (2, .ref (h 2)), (3, .int x3)]) hx hb dX3_passSurplus_16 hl (by decide) rfl (fun ls hl => ?_)
  refine lv_aload_n hx hb dX3_passSurplus_18 rfl (lv_at hl 3 rfl) ?_
  refine sc_getX1 C0 hW ni_X3_passSurplus_X1 0 (Nat.le_of_ble_eq_true rfl) lk_X3_passSurplus_104 (v := .int (sc_gi S12 2)) rfl dX3_passSurplus_19 ?_
  refine lv_iconst (v := (2 : Int32)) hx hb dX3_passSurplus_22 (by decide) ?_
  refine lv_icmp_ne (tgt := 38) hx hb dX3_passSurplus_23 (by decide) (fun hc => ?_) (fun hc => ?_)
  · replace hf := sc_in hc hf
    refine lv_aload_n hx hb dX3_passSurplus_38 rfl (lv_at hl 1 rfl) ?_
    refine lv_aload_n hx hb dX3_passSurplus_39 rfl (lv_at hl 2 rfl) ?_
    refine lv_aload_n hx hb dX3_passSurplus_40 rfl (lv_at hl 3 rfl) ?_
    refine lv_iload_n hx hb dX3_passSurplus_41 rfl (lv_at hl 4 rfl) ?_
    refine lv_lload hx hb dX3_passSurplus_42 (lv_at hl 0 rfl) ?_
    obtain ⟨r44, S44, hc, hf⟩ := sc_cl_s hf
    refine sc_callVl (As := [.ref (h 1), .ref (h 2), .int x3, .long y16]) (rest := []) (q0 := 3) (ci := 2) sc_okX C0 hW (ct_X3_passAll hc) (cwV 4 hts gX3_passSurplus_X3_passAll rfl rfl rfl (by decide +kernel) ⟨Nat.le_of_ble_eq_true rfl, Nat.le_of_ble_eq_true rfl⟩) rfl rfl rfl rfl hl.1 rfl (Nat.le_of_ble_eq_true rfl) dX3_passSurplus_44 (fun H locs hW => ?_)
    exact wk_X3_passSurplus_47 C0 hR  _ _ _ _ _ _ _ hf hW (lv_sub hl [3, 4, 0] rfl)
  · replace hf := sc_ip hc hf
    refine lv_aload_n hx hb dX3_passSurplus_26 rfl (lv_at hl 1 rfl) ?_
    refine lv_aload_n hx hb dX3_passSurplus_27 rfl (lv_at hl 2 rfl) ?_
    refine lv_aload_n hx hb dX3_passSurplus_28 rfl (lv_at hl 3 rfl) ?_
    refine lv_iload_n hx hb dX3_passSurplus_29 rfl (lv_at hl 4 rfl) ?_
    refine lv_lload hx hb dX3_passSurplus_30 (lv_at hl 0 rfl) ?_
    obtain ⟨r32, S32, hc, hf⟩ := sc_cl_s hf
    refine sc_callVl (As := [.ref (h 1), .ref (h 2), .int x3, .long y16]) (rest := []) (q0 := 3) (ci := 2) sc_okX C0 hW (ct_X3_passLast hc) (cwV 4 hts gX3_passSurplus_X3_passLast rfl rfl rfl (by decide +kernel) ⟨Nat.le_of_ble_eq_true rfl, Nat.le_of_ble_eq_true rfl⟩) rfl rfl rfl rfl hl.1 rfl (Nat.le_of_ble_eq_true rfl) dX3_passSurplus_32 (fun H locs hW => ?_)
    refine lv_goto (tgt := 47) hx hb dX3_passSurplus_35 (by decide) ?_
    exact wk_X3_passSurplus_47 C0 hR  _ _ _ _ _ _ _ hf hW (lv_sub hl [3, 4, 0] rfl)
set_option maxRecDepth 100000 in
theorem ct_X3_passSurplus {S S' : sc_M} {x3 : Int32} (hf : fn_X3_passSurplus S x3 = some S') : sc_Cv l yX3_passSurplus wsX3_passSurplus rm_X3_passSurplus (sc_EX dC dI h cy) [.ref (h 3), .ref (h 1), .ref (h 2), .int x3] S S' := by
  refine sc_ofv (cc := cX3_passSurplus) (maxL := 8) sc_okX (by decide) rfl (Nat.le_of_ble_eq_true rfl) ?_
  intro p e s m below meth c Q C0 hR hW ls hl
  exact wk_X3_passSurplus_0 C0 hR _ _ _ _ _ hf hW hl
end

/-! ===== SeatCounts$PaperRules.run(LSeatCounts$House;LSeatCounts$Journal;)V ===== -/
abbrev rm_X3_run : Room := { frames := 5, cells := 0, slots := 0, locals := 137 }
theorem lk_X3_run_21 : Cond.fieldLink RX3 21 "SeatCounts$PaperRules" "piles" "I" ∈ wsX3_run := by decide +kernel
theorem lk_X3_run_25 : Cond.fieldLink RX3 25 "SeatCounts$House" "piles" "I" ∈ wsX3_run := by decide +kernel
theorem lk_X3_run_28 : Cond.fieldLink RX3 28 "SeatCounts$PaperRules" "row" "I" ∈ wsX3_run := by decide +kernel
theorem lk_X3_run_35 : Cond.fieldLink RX3 35 "SeatCounts$Journal" "seats" "I" ∈ wsX3_run := by decide +kernel
theorem lk_X3_run_40 : Cond.fieldLink RX3 40 "SeatCounts$Journal" "quotas" "[J" ∈ wsX3_run := by decide +kernel
theorem lk_X3_run_44 : Cond.constantLong RX3 44 (100000) ∈ wsX3_run := by decide +kernel
theorem ni_X3_run_X0 : ∀ w ∈ wsX00, w ∈ wsX3_run := by decide +kernel
theorem ni_X3_run_X1 : ∀ w ∈ wsX10, w ∈ wsX3_run := by decide +kernel
theorem ni_X3_run_X3 : ∀ w ∈ wsX30, w ∈ wsX3_run := by decide +kernel
noncomputable def fn_X3_run_98 (k48 : sc_M → Int32 → Option (sc_M)) (S : sc_M) (x5 : Int32) (x6 : Int32) (x7 : Int32) (z0 : Int32) : Option (sc_M) :=
  if x7 = (-9 : Int32) then
    some S
  else
    sc_cl (fn_X1_turn S z0 x7) (fun r112 S112 => if r112 = 0 then
      some S112
    else
      sc_cv (fn_X3_copyRow S112 x5) (fun S122 => if x6 = (-9 : Int32) then
        sc_cv (fn_X3_putOut S122 x7) (fun S137 => k48 S137 (x5 + 1))
      else
        sc_cv (fn_X3_passSurplus S122 x7) (fun S148 => k48 S148 (x5 + 1))))
noncomputable def fn_X3_run_84 (k48 : sc_M → Int32 → Option (sc_M)) (S : sc_M) (x5 : Int32) (x6 : Int32) (z0 : Int32) : Option (sc_M) :=
  if x6 = (-9 : Int32) then
    fn_X3_run_98 k48 S x5 x6 z0 (2 : Int32)
  else
    fn_X3_run_98 k48 S x5 x6 z0 (1 : Int32)
noncomputable def fn_X3_run_48 : Nat → sc_M → Int32 → Option (sc_M)
  | 0, _, _ => none
  | n + 1, S, x5 =>
    sc_cl (fn_X1_settle S) (fun r49 S49 => if r49 = 0 then
      if (13 : Int32) ≤ x5 then
        some S49
      else
        sc_cl (fn_X1_richest S49) (fun r63 S63 => if r63 = (-9 : Int32) then
          sc_cl (fn_X1_poorest S63) (fun r76 S76 => fn_X3_run_84 (fn_X3_run_48 n) S76 x5 r63 r76)
        else
          fn_X3_run_84 (fn_X3_run_48 n) S63 x5 r63 r63)
    else
      some S49)
noncomputable def fn_X3_run (S : sc_M) : Option (sc_M) :=
  sc_sq (sc_mi S 8 (sc_gi S 1)) (fun S5 => sc_sq (sc_mi S5 9 (0 : Int32)) (fun S10 => sc_cl (fn_X0_validPapers S10) (fun r14 S14 => sc_nz ((sc_gi S14 3) + (1 : Int32)) (sc_sq (((r14 / ((sc_gi S14 3) + (1 : Int32))) + (1 : Int32)).toInt64) (fun y27 => sc_ck (0 : Int32) 72 (sc_sq (sc_mB S14 17 (vp_updL (sc_gb S14 17) (0 : Int32).toNatClampNeg (y27 * (100000 : Int64)))) (fun S38 => sc_cv (fn_X3_dealFirst S38) (fun S42 => fn_X3_run_48 sc_FU S42 (1 : Int32)))))))))
section
variable {p : Program} {l : Launch} {e : Env} {s : State} {m : MethodId} {args : Array Value} {below : List Frame} {meth : Method} {c : Code} {Q : State → Prop} {dC : Nat → ClassId} {dI : Nat → Nat → Nat} {h : Nat → Nat} {cy : Nat → ClassId}
set_option maxHeartbeats 4000000 in
set_option maxRecDepth 100000 in
theorem wk_X3_run_98 (C0 : CallFix p m c cX3_run 9 s args wsX3_run RX3) {S' : sc_M} (hR : sc_Rv p l e rm_X3_run s m args below meth c Q cX3_run (sc_EX dC dI h cy) S') {k48 : sc_M → Int32 → Option (sc_M)} (hk48 : ∀ (S : sc_M) (x5 : Int32) (H : Heap) (locs : List Loc) (ls : Array Slot), k48 S x5 = some S' → sc_W (sc_EX dC dI h cy) s H locs S → lv_has ls 9 [(0, .ref (h 3)), (1, .ref (h 1)), (2, .ref (h 2)), (5, .int x5)] → W p l e rm_X3_run s m args below meth c H locs 0 0 Q (F0 m 48 ls [])) : ∀ (S : sc_M) (x5 : Int32) (x6 : Int32) (x7 : Int32) (z0 : Int32) (H : Heap) (locs : List Loc) (ls : Array Slot), fn_X3_run_98 k48 S x5 x6 x7 z0 = some S' → sc_W (sc_EX dC dI h cy) s H locs S → lv_has ls 9 [(0, .ref (h 3)), (1, .ref (h 1)), (2, .ref (h 2)), (5, .int x5), (6, .int x6), (7, .int x7)] → W p l e rm_X3_run s m args below meth c H locs 0 0 Q (F0 m 98 ls [.int z0]) := by
  obtain ⟨hx, hb, hml, hown, hts⟩ := id C0
  intro S x5 x6 x7 z0 H locs ls hf hW hl
  rw [fn_X3_run_98] at hf
  refine lv_istore (lv' := [(8, .int z0), (0, .ref (h 3)), (1, .ref (h 1)), (2, .ref (h 2)), (5, .int x5), (6, .int x6), (7, .int x7)]) hx hb dX3_run_98 hl (by decide) rfl (fun ls hl => ?_)
  refine lv_iload hx hb dX3_run_100 (lv_at hl 6 rfl) ?_
  refine lv_bipush (v := (-9 : Int32)) hx hb dX3_run_102 (by decide) ?_
  refine lv_icmp_eq (tgt := 118) hx hb dX3_run_104 (by decide) (fun hc => ?_) (fun hc => ?_)
  · replace hf := sc_ip hc hf
    exact sc_retv hR hf hW dX3_run_118
  · replace hf := sc_in hc hf
    refine lv_aload_n hx hb dX3_run_107 rfl (lv_at hl 3 rfl) ?_
    refine lv_iload hx hb dX3_run_108 (lv_at hl 0 rfl) ?_
    refine lv_iload hx hb dX3_run_110 (lv_at hl 6 rfl) ?_
    obtain ⟨r112, S112, hc, hf⟩ := sc_cl_s hf
    refine sc_callVi (As := [.int z0, .int x7]) (rest := []) (q0 := 2) (ci := 1) sc_okX C0 hW (ct_X1_turn hc) (cwV 2 hts gX3_run_X1_turn rfl rfl rfl (by decide +kernel) ⟨Nat.le_of_ble_eq_true rfl, Nat.le_of_ble_eq_true rfl⟩) rfl rfl rfl rfl hl.1 rfl (Nat.le_of_ble_eq_true rfl) dX3_run_112 (fun H locs hW => ?_)
    refine lv_if_ne (tgt := 119) hx hb dX3_run_115 (by decide) (fun hc => ?_) (fun hc => ?_)
    · replace hf := sc_in hc hf
      refine lv_aload_n hx hb dX3_run_119 rfl (lv_at hl 1 rfl) ?_
      refine lv_iload hx hb dX3_run_120 (lv_at hl 4 rfl) ?_
      obtain ⟨S122, hc, hf⟩ := sc_cv_s hf
      refine sc_callVv (As := [.int x5]) (rest := []) (q0 := 3) (ci := 2) sc_okX C0 hW (ct_X3_copyRow hc) (cwV 1 hts gX3_run_X3_copyRow rfl rfl rfl (by decide +kernel) ⟨Nat.le_of_ble_eq_true rfl, Nat.le_of_ble_eq_true rfl⟩) rfl rfl rfl rfl hl.1 rfl (Nat.le_of_ble_eq_true rfl) dX3_run_122 (fun H locs hW => ?_)
      refine lv_iload hx hb dX3_run_125 (lv_at hl 5 rfl) ?_
      refine lv_bipush (v := (-9 : Int32)) hx hb dX3_run_127 (by decide) ?_
      refine lv_icmp_ne (tgt := 143) hx hb dX3_run_129 (by decide) (fun hc => ?_) (fun hc => ?_)
      · replace hf := sc_in hc hf
        refine lv_aload_n hx hb dX3_run_143 rfl (lv_at hl 1 rfl) ?_
        refine lv_aload_n hx hb dX3_run_144 rfl (lv_at hl 2 rfl) ?_
        refine lv_aload_n hx hb dX3_run_145 rfl (lv_at hl 3 rfl) ?_
        refine lv_iload hx hb dX3_run_146 (lv_at hl 6 rfl) ?_
        obtain ⟨S148, hc, hf⟩ := sc_cv_s hf
        refine sc_callVv (As := [.ref (h 1), .ref (h 2), .int x7]) (rest := []) (q0 := 3) (ci := 2) sc_okX C0 hW (ct_X3_passSurplus hc) (cwV 3 hts gX3_run_X3_passSurplus rfl rfl rfl (by decide +kernel) ⟨Nat.le_of_ble_eq_true rfl, Nat.le_of_ble_eq_true rfl⟩) rfl rfl rfl rfl hl.1 rfl (Nat.le_of_ble_eq_true rfl) dX3_run_148 (fun H locs hW => ?_)
        refine lv_iinc (v := (x5 + 1)) (lv' := [(5, .int (x5 + 1)), (8, .int z0), (0, .ref (h 3)), (1, .ref (h 1)), (2, .ref (h 2)), (6, .int x6), (7, .int x7)]) hx hb dX3_run_151 hl (k := 4) rfl rfl (by decide) rfl (fun ls hl => ?_)
        refine lv_goto (tgt := 48) hx hb dX3_run_154 (by decide) ?_
        exact hk48 _ _ _ _ _ hf hW (lv_sub hl [2, 3, 4, 0] rfl)
      · replace hf := sc_ip hc hf
        refine lv_aload_n hx hb dX3_run_132 rfl (lv_at hl 1 rfl) ?_
        refine lv_aload_n hx hb dX3_run_133 rfl (lv_at hl 2 rfl) ?_
        refine lv_aload_n hx hb dX3_run_134 rfl (lv_at hl 3 rfl) ?_
        refine lv_iload hx hb dX3_run_135 (lv_at hl 6 rfl) ?_
        obtain ⟨S137, hc, hf⟩ := sc_cv_s hf
        refine sc_callVv (As := [.ref (h 1), .ref (h 2), .int x7]) (rest := []) (q0 := 3) (ci := 2) sc_okX C0 hW (ct_X3_putOut hc) (cwV 3 hts gX3_run_X3_putOut rfl rfl rfl (by decide +kernel) ⟨Nat.le_of_ble_eq_true rfl, Nat.le_of_ble_eq_true rfl⟩) rfl rfl rfl rfl hl.1 rfl (Nat.le_of_ble_eq_true rfl) dX3_run_137 (fun H locs hW => ?_)
        refine lv_goto (tgt := 151) hx hb dX3_run_140 (by decide) ?_
        refine lv_iinc (v := (x5 + 1)) (lv' := [(5, .int (x5 + 1)), (8, .int z0), (0, .ref (h 3)), (1, .ref (h 1)), (2, .ref (h 2)), (6, .int x6), (7, .int x7)]) hx hb dX3_run_151 hl (k := 4) rfl rfl (by decide) rfl (fun ls hl => ?_)
        refine lv_goto (tgt := 48) hx hb dX3_run_154 (by decide) ?_
        exact hk48 _ _ _ _ _ hf hW (lv_sub hl [2, 3, 4, 0] rfl)
    · replace hf := sc_ip hc hf
      exact sc_retv hR hf hW dX3_run_118
set_option maxHeartbeats 4000000 in
set_option maxRecDepth 100000 in
theorem wk_X3_run_84 (C0 : CallFix p m c cX3_run 9 s args wsX3_run RX3) {S' : sc_M} (hR : sc_Rv p l e rm_X3_run s m args below meth c Q cX3_run (sc_EX dC dI h cy) S') {k48 : sc_M → Int32 → Option (sc_M)} (hk48 : ∀ (S : sc_M) (x5 : Int32) (H : Heap) (locs : List Loc) (ls : Array Slot), k48 S x5 = some S' → sc_W (sc_EX dC dI h cy) s H locs S → lv_has ls 9 [(0, .ref (h 3)), (1, .ref (h 1)), (2, .ref (h 2)), (5, .int x5)] → W p l e rm_X3_run s m args below meth c H locs 0 0 Q (F0 m 48 ls [])) : ∀ (S : sc_M) (x5 : Int32) (x6 : Int32) (z0 : Int32) (H : Heap) (locs : List Loc) (ls : Array Slot), fn_X3_run_84 k48 S x5 x6 z0 = some S' → sc_W (sc_EX dC dI h cy) s H locs S → lv_has ls 9 [(0, .ref (h 3)), (1, .ref (h 1)), (2, .ref (h 2)), (5, .int x5), (6, .int x6)] → W p l e rm_X3_run s m args below meth c H locs 0 0 Q (F0 m 84 ls [.int z0]) := by
  obtain ⟨hx, hb, hml, hown, hts⟩ := id C0
  intro S x5 x6 z0 H locs ls hf hW hl
  rw [fn_X3_run_84] at hf
  refine lv_istore (lv' := [(7, .int z0), (0, .ref (h 3)), (1, .ref (h 1)), (2, .ref (h 2)), (5, .int x5), (6, .int x6)]) hx hb dX3_run_84 hl (by decide) rfl (fun ls hl => ?_)
  refine lv_iload hx hb dX3_run_86 (lv_at hl 5 rfl) ?_
  refine lv_bipush (v := (-9 : Int32)) hx hb dX3_run_88 (by decide) ?_
  refine lv_icmp_ne (tgt := 97) hx hb dX3_run_90 (by decide) (fun hc => ?_) (fun hc => ?_)
  · replace hf := sc_in hc hf
    refine lv_iconst (v := (1 : Int32)) hx hb dX3_run_97 (by decide) ?_
    exact wk_X3_run_98 C0 hR hk48 _ _ _ _ _ _ _ _ hf hW (lv_sub hl [1, 2, 3, 4, 5, 0] rfl)
  · replace hf := sc_ip hc hf
    refine lv_iconst (v := (2 : Int32)) hx hb dX3_run_93 (by decide) ?_
    refine lv_goto (tgt := 98) hx hb dX3_run_94 (by decide) ?_
    exact wk_X3_run_98 C0 hR hk48 _ _ _ _ _ _ _ _ hf hW (lv_sub hl [1, 2, 3, 4, 5, 0] rfl)
set_option maxHeartbeats 4000000 in
set_option maxRecDepth 100000 in
theorem wk_X3_run_48 (C0 : CallFix p m c cX3_run 9 s args wsX3_run RX3) {S' : sc_M} (hR : sc_Rv p l e rm_X3_run s m args below meth c Q cX3_run (sc_EX dC dI h cy) S') : ∀ n : Nat, ∀ (S : sc_M) (x5 : Int32) (H : Heap) (locs : List Loc) (ls : Array Slot), fn_X3_run_48 n S x5 = some S' → sc_W (sc_EX dC dI h cy) s H locs S → lv_has ls 9 [(0, .ref (h 3)), (1, .ref (h 1)), (2, .ref (h 2)), (5, .int x5)] → W p l e rm_X3_run s m args below meth c H locs 0 0 Q (F0 m 48 ls []) := by
  obtain ⟨hx, hb, hml, hown, hts⟩ := id C0
  intro n
  induction n with
  | zero => intro S x5 H locs ls; intro hf; cases hf
  | succ n ih =>
    intro S x5 H locs ls hf hW hl
    rw [fn_X3_run_48] at hf
    refine lv_aload_n hx hb dX3_run_48 rfl (lv_at hl 2 rfl) ?_
    obtain ⟨r49, S49, hc, hf⟩ := sc_cl_s hf
    refine sc_callVi (As := []) (rest := []) (q0 := 2) (ci := 1) sc_okX C0 hW (ct_X1_settle hc) (cwV 0 hts gX3_run_X1_settle rfl rfl rfl (by decide +kernel) ⟨Nat.le_of_ble_eq_true rfl, Nat.le_of_ble_eq_true rfl⟩) rfl rfl rfl rfl hl.1 rfl (Nat.le_of_ble_eq_true rfl) dX3_run_49 (fun H locs hW => ?_)
    refine lv_if_ne (tgt := 157) hx hb dX3_run_52 (by decide) (fun hc => ?_) (fun hc => ?_)
    · replace hf := sc_in hc hf
      exact sc_retv hR hf hW dX3_run_157
    · replace hf := sc_ip hc hf
      refine lv_iload hx hb dX3_run_55 (lv_at hl 3 rfl) ?_
      refine lv_bipush (v := (13 : Int32)) hx hb dX3_run_57 (by decide) ?_
      refine lv_icmp_ge (tgt := 157) hx hb dX3_run_59 (by decide) (fun hc => ?_) (fun hc => ?_)
      · replace hf := sc_ip hc hf
        exact sc_retv hR hf hW dX3_run_157
      · replace hf := sc_in hc hf
        refine lv_aload_n hx hb dX3_run_62 rfl (lv_at hl 2 rfl) ?_
        obtain ⟨r63, S63, hc, hf⟩ := sc_cl_s hf
        refine sc_callVi (As := []) (rest := []) (q0 := 2) (ci := 1) sc_okX C0 hW (ct_X1_richest hc) (cwV 0 hts gX3_run_X1_richest rfl rfl rfl (by decide +kernel) ⟨Nat.le_of_ble_eq_true rfl, Nat.le_of_ble_eq_true rfl⟩) rfl rfl rfl rfl hl.1 rfl (Nat.le_of_ble_eq_true rfl) dX3_run_63 (fun H locs hW => ?_)
        refine lv_istore (lv' := [(6, .int r63), (0, .ref (h 3)), (1, .ref (h 1)), (2, .ref (h 2)), (5, .int x5)]) hx hb dX3_run_66 hl (by decide) rfl (fun ls hl => ?_)
        refine lv_iload hx hb dX3_run_68 (lv_at hl 0 rfl) ?_
        refine lv_bipush (v := (-9 : Int32)) hx hb dX3_run_70 (by decide) ?_
        refine lv_icmp_ne (tgt := 82) hx hb dX3_run_72 (by decide) (fun hc => ?_) (fun hc => ?_)
        · replace hf := sc_in hc hf
          refine lv_iload hx hb dX3_run_82 (lv_at hl 0 rfl) ?_
          exact wk_X3_run_84 C0 hR ih _ _ _ _ _ _ _ hf hW (lv_sub hl [1, 2, 3, 4, 0] rfl)
        · replace hf := sc_ip hc hf
          refine lv_aload_n hx hb dX3_run_75 rfl (lv_at hl 3 rfl) ?_
          obtain ⟨r76, S76, hc, hf⟩ := sc_cl_s hf
          refine sc_callVi (As := []) (rest := []) (q0 := 2) (ci := 1) sc_okX C0 hW (ct_X1_poorest hc) (cwV 0 hts gX3_run_X1_poorest rfl rfl rfl (by decide +kernel) ⟨Nat.le_of_ble_eq_true rfl, Nat.le_of_ble_eq_true rfl⟩) rfl rfl rfl rfl hl.1 rfl (Nat.le_of_ble_eq_true rfl) dX3_run_76 (fun H locs hW => ?_)
          refine lv_goto (tgt := 84) hx hb dX3_run_79 (by decide) ?_
          exact wk_X3_run_84 C0 hR ih _ _ _ _ _ _ _ hf hW (lv_sub hl [1, 2, 3, 4, 0] rfl)
set_option maxHeartbeats 4000000 in
set_option maxRecDepth 100000 in
theorem wk_X3_run_0 (C0 : CallFix p m c cX3_run 9 s args wsX3_run RX3) {S' : sc_M} (hR : sc_Rv p l e rm_X3_run s m args below meth c Q cX3_run (sc_EX dC dI h cy) S') : ∀ (S : sc_M) (H : Heap) (locs : List Loc) (ls : Array Slot), fn_X3_run S = some S' → sc_W (sc_EX dC dI h cy) s H locs S → lv_has ls 9 [(0, .ref (h 3)), (1, .ref (h 1)), (2, .ref (h 2))] → W p l e rm_X3_run s m args below meth c H locs 0 0 Q (F0 m 0 ls []) := by
  obtain ⟨hx, hb, hml, hown, hts⟩ := id C0
  intro S H locs ls hf hW hl
  rw [fn_X3_run] at hf
  refine lv_aload_n hx hb dX3_run_0 rfl (lv_at hl 0 rfl) ?_
  refine lv_aload_n hx hb dX3_run_1 rfl (lv_at hl 1 rfl) ?_
  refine sc_getX0 C0 hW ni_X3_run_X0 1 (Nat.le_of_ble_eq_true rfl) lk_X3_run_25 (v := .int (sc_gi S 1)) rfl dX3_run_2 ?_
  obtain ⟨S5, eS5, hf⟩ := sc_sq_s hf
  refine sc_putX3_piles C0 hW ni_X3_run_X3 lk_X3_run_21 eS5 dX3_run_5 (fun H locs hW => ?_)
  refine lv_aload_n hx hb dX3_run_8 rfl (lv_at hl 0 rfl) ?_
  refine lv_iconst (v := (0 : Int32)) hx hb dX3_run_9 (by decide) ?_
  obtain ⟨S10, eS10, hf⟩ := sc_sq_s hf
  refine sc_putX3_row C0 hW ni_X3_run_X3 lk_X3_run_28 eS10 dX3_run_10 (fun H locs hW => ?_)
  refine lv_aload_n hx hb dX3_run_13 rfl (lv_at hl 1 rfl) ?_
  obtain ⟨r14, S14, hc, hf⟩ := sc_cl_s hf
  refine sc_callVi (As := []) (rest := []) (q0 := 1) (ci := 0) sc_okX C0 hW (ct_X0_validPapers hc) (cwV 0 hts gX3_run_X0_validPapers rfl rfl rfl (by decide +kernel) ⟨Nat.le_of_ble_eq_true rfl, Nat.le_of_ble_eq_true rfl⟩) rfl rfl rfl rfl hl.1 rfl (Nat.le_of_ble_eq_true rfl) dX3_run_14 (fun H locs hW => ?_)
  refine lv_aload_n hx hb dX3_run_17 rfl (lv_at hl 2 rfl) ?_
  refine sc_getX1 C0 hW ni_X3_run_X1 1 (Nat.le_of_ble_eq_true rfl) lk_X3_run_35 (v := .int (sc_gi S14 3)) rfl dX3_run_18 ?_
  refine lv_iconst (v := (1 : Int32)) hx hb dX3_run_21 (by decide) ?_
  refine lv_iadd hx hb dX3_run_22 ?_
  obtain ⟨hz, hf⟩ := sc_nz_s hf
  refine lv_idiv hx hb dX3_run_23 hz ?_
  refine lv_iconst (v := (1 : Int32)) hx hb dX3_run_24 (by decide) ?_
  refine lv_iadd hx hb dX3_run_25 ?_
  refine lv_i2l hx hb dX3_run_26 rfl ?_
  obtain ⟨y27, ey27, hf⟩ := sc_sq_s hf
  refine sc_topl ey27 ?_
  refine lv_lstore_n (lv' := [(3, .long y27), (0, .ref (h 3)), (1, .ref (h 1)), (2, .ref (h 2))]) hx hb dX3_run_27 rfl hl (by decide) rfl (fun ls hl => ?_)
  refine lv_aload_n hx hb dX3_run_28 rfl (lv_at hl 3 rfl) ?_
  refine sc_getX1 C0 hW ni_X3_run_X1 13 (Nat.le_of_ble_eq_true rfl) lk_X3_run_40 (v := .ref (h 17)) rfl dX3_run_29 ?_
  refine lv_iconst (v := (0 : Int32)) hx hb dX3_run_32 (by decide) ?_
  refine lv_lload_n hx hb dX3_run_33 rfl (lv_at hl 0 rfl) ?_
  refine lv_ldc2 (v := (100000 : Int64)) hx hb hown (hts _ lk_X3_run_44) dX3_run_34 ?_
  refine lv_lmul hx hb dX3_run_37 ?_
  obtain ⟨hv, hf⟩ := sc_ck_s hf
  obtain ⟨S38, eS38, hf⟩ := sc_sq_s hf
  refine sc_stX_17 C0 hW hv eS38 dX3_run_38 (fun H locs hW => ?_)
  refine lv_aload_n hx hb dX3_run_39 rfl (lv_at hl 1 rfl) ?_
  refine lv_aload_n hx hb dX3_run_40 rfl (lv_at hl 2 rfl) ?_
  refine lv_aload_n hx hb dX3_run_41 rfl (lv_at hl 3 rfl) ?_
  obtain ⟨S42, hc, hf⟩ := sc_cv_s hf
  refine sc_callVv (As := [.ref (h 1), .ref (h 2)]) (rest := []) (q0 := 3) (ci := 2) sc_okX C0 hW (ct_X3_dealFirst hc) (cwV 2 hts gX3_run_X3_dealFirst rfl rfl rfl (by decide +kernel) ⟨Nat.le_of_ble_eq_true rfl, Nat.le_of_ble_eq_true rfl⟩) rfl rfl rfl rfl hl.1 rfl (Nat.le_of_ble_eq_true rfl) dX3_run_42 (fun H locs hW => ?_)
  refine lv_iconst (v := (1 : Int32)) hx hb dX3_run_45 (by decide) ?_
  refine lv_istore (lv' := [(5, .int (1 : Int32)), (3, .long y27), (0, .ref (h 3)), (1, .ref (h 1)), (2, .ref (h 2))]) hx hb dX3_run_46 hl (by decide) rfl (fun ls hl => ?_)
  exact wk_X3_run_48 C0 hR  sc_FU _ _ _ _ _ hf hW (lv_sub hl [2, 3, 4, 0] rfl)
set_option maxRecDepth 100000 in
theorem ct_X3_run {S S' : sc_M} (hf : fn_X3_run S = some S') : sc_Cv l yX3_run wsX3_run rm_X3_run (sc_EX dC dI h cy) [.ref (h 3), .ref (h 1), .ref (h 2)] S S' := by
  refine sc_ofv (cc := cX3_run) (maxL := 9) sc_okX (by decide) rfl (Nat.le_of_ble_eq_true rfl) ?_
  intro p e s m below meth c Q C0 hR hW ls hl
  exact wk_X3_run_0 C0 hR _ _ _ _ hf hW hl
end

/-! ===== SeatCounts.candidates(I)I ===== -/
abbrev rm_X4_candidates : Room := { frames := 1, cells := 0, slots := 0, locals := 22 }
theorem lk_X4_candidates_12 : Cond.fieldLink RX4 12 "SeatCounts" "house" "LSeatCounts$House;" ∈ wsX4_candidates := by decide +kernel
theorem lk_X4_candidates_34 : Cond.fieldLink RX4 34 "SeatCounts$House" "candidates" "I" ∈ wsX4_candidates := by decide +kernel
theorem ni_X4_candidates_X0 : ∀ w ∈ wsX00, w ∈ wsX4_candidates := by decide +kernel
theorem ni_X4_candidates_X4 : ∀ w ∈ wsX40, w ∈ wsX4_candidates := by decide +kernel
noncomputable def fn_X4_candidates (S : sc_M) (x1 : Int32) : Option (Int32 × sc_M) :=
  if x1 < (1 : Int32) then
    some ((-2 : Int32), S)
  else
    if x1 ≤ (12 : Int32) then
      sc_sq ((sc_gi S 0)) (fun y21 => sc_cv (fn_X0_open S x1) (fun S27 => some (y21, S27)))
    else
      some ((-2 : Int32), S)
section
variable {p : Program} {l : Launch} {e : Env} {s : State} {m : MethodId} {args : Array Value} {below : List Frame} {meth : Method} {c : Code} {Q : State → Prop} {dC : Nat → ClassId} {dI : Nat → Nat → Nat} {h : Nat → Nat} {cy : Nat → ClassId}
set_option maxHeartbeats 4000000 in
set_option maxRecDepth 100000 in
theorem wk_X4_candidates_0 (C0 : CallFix p m c cX4_candidates 3 s args wsX4_candidates RX4) {S' : sc_M} {r : Int32} (hR : sc_Ri p l e rm_X4_candidates s m args below meth c Q cX4_candidates (sc_EX dC dI h cy) S' r) : ∀ (S : sc_M) (x1 : Int32) (H : Heap) (locs : List Loc) (ls : Array Slot), fn_X4_candidates S x1 = some (r, S') → sc_W (sc_EX dC dI h cy) s H locs S → lv_has ls 3 [(0, .ref (h 0)), (1, .int x1)] → W p l e rm_X4_candidates s m args below meth c H locs 0 0 Q (F0 m 0 ls []) := by
  obtain ⟨hx, hb, hml, hown, hts⟩ := id C0
  intro S x1 H locs ls hf hW hl
  rw [fn_X4_candidates] at hf
  refine lv_iload_n hx hb dX4_candidates_0 rfl (lv_at hl 1 rfl) ?_
  refine lv_iconst (v := (1 : Int32)) hx hb dX4_candidates_1 (by decide) ?_
  refine lv_icmp_lt (tgt := 11) hx hb dX4_candidates_2 (by decide) (fun hc => ?_) (fun hc => ?_)
  · replace hf := sc_ip hc hf
    refine lv_bipush (v := (-2 : Int32)) hx hb dX4_candidates_11 (by decide) ?_
    exact sc_reti hR hf hW dX4_candidates_13
  · replace hf := sc_in hc hf
    refine lv_iload_n hx hb dX4_candidates_5 rfl (lv_at hl 1 rfl) ?_
    refine lv_bipush (v := (12 : Int32)) hx hb dX4_candidates_6 (by decide) ?_
    refine lv_icmp_le (tgt := 14) hx hb dX4_candidates_8 (by decide) (fun hc => ?_) (fun hc => ?_)
    · replace hf := sc_ip hc hf
      refine lv_aload_n hx hb dX4_candidates_14 rfl (lv_at hl 0 rfl) ?_
      refine sc_getX4 C0 hW ni_X4_candidates_X4 0 (Nat.le_of_ble_eq_true rfl) lk_X4_candidates_12 (v := .ref (h 1)) rfl dX4_candidates_15 ?_
      refine sc_getX0 C0 hW ni_X4_candidates_X0 0 (Nat.le_of_ble_eq_true rfl) lk_X4_candidates_34 (v := .int (sc_gi S 0)) rfl dX4_candidates_18 ?_
      obtain ⟨y21, ey21, hf⟩ := sc_sq_s hf
      refine sc_topi ey21 ?_
      refine lv_istore_n (lv' := [(2, .int y21), (0, .ref (h 0)), (1, .int x1)]) hx hb dX4_candidates_21 rfl hl (by decide) rfl (fun ls hl => ?_)
      refine lv_aload_n hx hb dX4_candidates_22 rfl (lv_at hl 1 rfl) ?_
      refine sc_getX4 C0 hW ni_X4_candidates_X4 0 (Nat.le_of_ble_eq_true rfl) lk_X4_candidates_12 (v := .ref (h 1)) rfl dX4_candidates_23 ?_
      refine lv_iload_n hx hb dX4_candidates_26 rfl (lv_at hl 2 rfl) ?_
      obtain ⟨S27, hc, hf⟩ := sc_cv_s hf
      refine sc_callVv (As := [.int x1]) (rest := []) (q0 := 1) (ci := 0) sc_okX C0 hW (ct_X0_open hc) (cwV 1 hts gX4_candidates_X0_open rfl rfl rfl (by decide +kernel) ⟨Nat.le_of_ble_eq_true rfl, Nat.le_of_ble_eq_true rfl⟩) rfl rfl rfl rfl hl.1 rfl (Nat.le_of_ble_eq_true rfl) dX4_candidates_27 (fun H locs hW => ?_)
      refine lv_iload_n hx hb dX4_candidates_30 rfl (lv_at hl 0 rfl) ?_
      exact sc_reti hR hf hW dX4_candidates_31
    · replace hf := sc_in hc hf
      refine lv_bipush (v := (-2 : Int32)) hx hb dX4_candidates_11 (by decide) ?_
      exact sc_reti hR hf hW dX4_candidates_13
set_option maxRecDepth 100000 in
theorem ct_X4_candidates {S S' : sc_M} {r : Int32} {x1 : Int32} (hf : fn_X4_candidates S x1 = some (r, S')) : sc_Ci l yX4_candidates wsX4_candidates rm_X4_candidates (sc_EX dC dI h cy) [.ref (h 0), .int x1] S S' r := by
  refine sc_ofi (cc := cX4_candidates) (maxL := 3) .int rfl sc_okX (by decide) rfl (Nat.le_of_ble_eq_true rfl) ?_
  intro p e s m below meth c Q C0 hR hW ls hl
  exact wk_X4_candidates_0 C0 hR _ _ _ _ _ hf hW hl
end

/-! ===== SeatCounts.withdraw(IZ)I ===== -/
abbrev rm_X4_withdraw : Room := { frames := 1, cells := 0, slots := 0, locals := 21 }
theorem lk_X4_withdraw_12 : Cond.fieldLink RX4 12 "SeatCounts" "house" "LSeatCounts$House;" ∈ wsX4_withdraw := by decide +kernel
theorem lk_X4_withdraw_46 : Cond.fieldLink RX4 46 "SeatCounts$House" "withdrawn" "[Z" ∈ wsX4_withdraw := by decide +kernel
theorem ni_X4_withdraw_X0 : ∀ w ∈ wsX00, w ∈ wsX4_withdraw := by decide +kernel
theorem ni_X4_withdraw_X4 : ∀ w ∈ wsX40, w ∈ wsX4_withdraw := by decide +kernel
noncomputable def fn_X4_withdraw (S : sc_M) (x1 : Int32) (x2 : Int32) : Option (Int32 × sc_M) :=
  sc_cl (fn_X0_hasCandidate S x1) (fun r5 S5 => if r5 = 0 then
    some ((-1 : Int32), S5)
  else
    sc_ck x1 12 (if (sc_ga S5 4 x1.toNatClampNeg) = x2 then
      some ((0 : Int32), S5)
    else
      sc_ck x1 12 (sc_sq (sc_mA S5 4 (upd (sc_ga S5 4) x1.toNatClampNeg (vp_nar .boolean x2))) (fun S37 => some ((1 : Int32), S37)))))
section
variable {p : Program} {l : Launch} {e : Env} {s : State} {m : MethodId} {args : Array Value} {below : List Frame} {meth : Method} {c : Code} {Q : State → Prop} {dC : Nat → ClassId} {dI : Nat → Nat → Nat} {h : Nat → Nat} {cy : Nat → ClassId}
set_option maxHeartbeats 4000000 in
set_option maxRecDepth 100000 in
theorem wk_X4_withdraw_0 (C0 : CallFix p m c cX4_withdraw 3 s args wsX4_withdraw RX4) {S' : sc_M} {r : Int32} (hR : sc_Ri p l e rm_X4_withdraw s m args below meth c Q cX4_withdraw (sc_EX dC dI h cy) S' r) : ∀ (S : sc_M) (x1 : Int32) (x2 : Int32) (H : Heap) (locs : List Loc) (ls : Array Slot), fn_X4_withdraw S x1 x2 = some (r, S') → sc_W (sc_EX dC dI h cy) s H locs S → lv_has ls 3 [(0, .ref (h 0)), (1, .int x1), (2, .int x2)] → W p l e rm_X4_withdraw s m args below meth c H locs 0 0 Q (F0 m 0 ls []) := by
  obtain ⟨hx, hb, hml, hown, hts⟩ := id C0
  intro S x1 x2 H locs ls hf hW hl
  rw [fn_X4_withdraw] at hf
  refine lv_aload_n hx hb dX4_withdraw_0 rfl (lv_at hl 0 rfl) ?_
  refine sc_getX4 C0 hW ni_X4_withdraw_X4 0 (Nat.le_of_ble_eq_true rfl) lk_X4_withdraw_12 (v := .ref (h 1)) rfl dX4_withdraw_1 ?_
  refine lv_iload_n hx hb dX4_withdraw_4 rfl (lv_at hl 1 rfl) ?_
  obtain ⟨r5, S5, hc, hf⟩ := sc_cl_s hf
  refine sc_callVi (As := [.int x1]) (rest := []) (q0 := 1) (ci := 0) sc_okX C0 hW (ct_X0_hasCandidate hc) (cwV 1 hts gX4_withdraw_X0_hasCandidate rfl rfl rfl (by decide +kernel) ⟨Nat.le_of_ble_eq_true rfl, Nat.le_of_ble_eq_true rfl⟩) rfl rfl rfl rfl hl.1 rfl (Nat.le_of_ble_eq_true rfl) dX4_withdraw_5 (fun H locs hW => ?_)
  refine lv_if_ne (tgt := 13) hx hb dX4_withdraw_8 (by decide) (fun hc => ?_) (fun hc => ?_)
  · replace hf := sc_in hc hf
    refine lv_aload_n hx hb dX4_withdraw_13 rfl (lv_at hl 0 rfl) ?_
    refine sc_getX4 C0 hW ni_X4_withdraw_X4 0 (Nat.le_of_ble_eq_true rfl) lk_X4_withdraw_12 (v := .ref (h 1)) rfl dX4_withdraw_14 ?_
    refine sc_getX0 C0 hW ni_X4_withdraw_X0 2 (Nat.le_of_ble_eq_true rfl) lk_X4_withdraw_46 (v := .ref (h 4)) rfl dX4_withdraw_17 ?_
    refine lv_iload_n hx hb dX4_withdraw_20 rfl (lv_at hl 1 rfl) ?_
    obtain ⟨hv, hf⟩ := sc_ck_s hf
    refine sc_ldX_4 C0 hW hv dX4_withdraw_21 ?_
    refine lv_iload_n hx hb dX4_withdraw_22 rfl (lv_at hl 2 rfl) ?_
    refine lv_icmp_ne (tgt := 28) hx hb dX4_withdraw_23 (by decide) (fun hc => ?_) (fun hc => ?_)
    · replace hf := sc_in hc hf
      refine lv_aload_n hx hb dX4_withdraw_28 rfl (lv_at hl 0 rfl) ?_
      refine sc_getX4 C0 hW ni_X4_withdraw_X4 0 (Nat.le_of_ble_eq_true rfl) lk_X4_withdraw_12 (v := .ref (h 1)) rfl dX4_withdraw_29 ?_
      refine sc_getX0 C0 hW ni_X4_withdraw_X0 2 (Nat.le_of_ble_eq_true rfl) lk_X4_withdraw_46 (v := .ref (h 4)) rfl dX4_withdraw_32 ?_
      refine lv_iload_n hx hb dX4_withdraw_35 rfl (lv_at hl 1 rfl) ?_
      refine lv_iload_n hx hb dX4_withdraw_36 rfl (lv_at hl 2 rfl) ?_
      obtain ⟨hv, hf⟩ := sc_ck_s hf
      obtain ⟨S37, eS37, hf⟩ := sc_sq_s hf
      refine sc_stX_4 C0 hW hv eS37 dX4_withdraw_37 (fun H locs hW => ?_)
      refine lv_iconst (v := (1 : Int32)) hx hb dX4_withdraw_38 (by decide) ?_
      exact sc_reti hR hf hW dX4_withdraw_39
    · replace hf := sc_ip hc hf
      refine lv_iconst (v := (0 : Int32)) hx hb dX4_withdraw_26 (by decide) ?_
      exact sc_reti hR hf hW dX4_withdraw_27
  · replace hf := sc_ip hc hf
    refine lv_iconst (v := (-1 : Int32)) hx hb dX4_withdraw_11 (by decide) ?_
    exact sc_reti hR hf hW dX4_withdraw_12
set_option maxRecDepth 100000 in
theorem ct_X4_withdraw {S S' : sc_M} {r : Int32} {x1 : Int32} {x2 : Int32} (hf : fn_X4_withdraw S x1 x2 = some (r, S')) : sc_Ci l yX4_withdraw wsX4_withdraw rm_X4_withdraw (sc_EX dC dI h cy) [.ref (h 0), .int x1, .int x2] S S' r := by
  refine sc_ofi (cc := cX4_withdraw) (maxL := 3) .int rfl sc_okX (by decide) rfl (Nat.le_of_ble_eq_true rfl) ?_
  intro p e s m below meth c Q C0 hR hW ls hl
  exact wk_X4_withdraw_0 C0 hR _ _ _ _ _ _ hf hW hl
end

/-! ===== SeatCounts.lot(II)I ===== -/
abbrev rm_X4_lot : Room := { frames := 1, cells := 0, slots := 0, locals := 24 }
theorem lk_X4_lot_12 : Cond.fieldLink RX4 12 "SeatCounts" "house" "LSeatCounts$House;" ∈ wsX4_lot := by decide +kernel
theorem lk_X4_lot_34 : Cond.fieldLink RX4 34 "SeatCounts$House" "candidates" "I" ∈ wsX4_lot := by decide +kernel
theorem ni_X4_lot_X0 : ∀ w ∈ wsX00, w ∈ wsX4_lot := by decide +kernel
theorem ni_X4_lot_X4 : ∀ w ∈ wsX40, w ∈ wsX4_lot := by decide +kernel
noncomputable def fn_X4_lot (S : sc_M) (x1 : Int32) (x2 : Int32) : Option (Int32 × sc_M) :=
  sc_cl (fn_X0_hasCandidate S x1) (fun r5 S5 => if r5 = 0 then
    some ((-1 : Int32), S5)
  else
    if x2 < 0 then
      some ((-2 : Int32), S5)
    else
      if x2 < (sc_gi S5 0) then
        sc_cl (fn_X0_swapLots S5 x1 x2) (fun r37 S37 => some (r37, S37))
      else
        some ((-2 : Int32), S5))
section
variable {p : Program} {l : Launch} {e : Env} {s : State} {m : MethodId} {args : Array Value} {below : List Frame} {meth : Method} {c : Code} {Q : State → Prop} {dC : Nat → ClassId} {dI : Nat → Nat → Nat} {h : Nat → Nat} {cy : Nat → ClassId}
set_option maxHeartbeats 4000000 in
set_option maxRecDepth 100000 in
theorem wk_X4_lot_0 (C0 : CallFix p m c cX4_lot 3 s args wsX4_lot RX4) {S' : sc_M} {r : Int32} (hR : sc_Ri p l e rm_X4_lot s m args below meth c Q cX4_lot (sc_EX dC dI h cy) S' r) : ∀ (S : sc_M) (x1 : Int32) (x2 : Int32) (H : Heap) (locs : List Loc) (ls : Array Slot), fn_X4_lot S x1 x2 = some (r, S') → sc_W (sc_EX dC dI h cy) s H locs S → lv_has ls 3 [(0, .ref (h 0)), (1, .int x1), (2, .int x2)] → W p l e rm_X4_lot s m args below meth c H locs 0 0 Q (F0 m 0 ls []) := by
  obtain ⟨hx, hb, hml, hown, hts⟩ := id C0
  intro S x1 x2 H locs ls hf hW hl
  rw [fn_X4_lot] at hf
  refine lv_aload_n hx hb dX4_lot_0 rfl (lv_at hl 0 rfl) ?_
  refine sc_getX4 C0 hW ni_X4_lot_X4 0 (Nat.le_of_ble_eq_true rfl) lk_X4_lot_12 (v := .ref (h 1)) rfl dX4_lot_1 ?_
  refine lv_iload_n hx hb dX4_lot_4 rfl (lv_at hl 1 rfl) ?_
  obtain ⟨r5, S5, hc, hf⟩ := sc_cl_s hf
  refine sc_callVi (As := [.int x1]) (rest := []) (q0 := 1) (ci := 0) sc_okX C0 hW (ct_X0_hasCandidate hc) (cwV 1 hts gX4_lot_X0_hasCandidate rfl rfl rfl (by decide +kernel) ⟨Nat.le_of_ble_eq_true rfl, Nat.le_of_ble_eq_true rfl⟩) rfl rfl rfl rfl hl.1 rfl (Nat.le_of_ble_eq_true rfl) dX4_lot_5 (fun H locs hW => ?_)
  refine lv_if_ne (tgt := 13) hx hb dX4_lot_8 (by decide) (fun hc => ?_) (fun hc => ?_)
  · replace hf := sc_in hc hf
    refine lv_iload_n hx hb dX4_lot_13 rfl (lv_at hl 2 rfl) ?_
    refine lv_if_lt (tgt := 28) hx hb dX4_lot_14 (by decide) (fun hc => ?_) (fun hc => ?_)
    · replace hf := sc_ip hc hf
      refine lv_bipush (v := (-2 : Int32)) hx hb dX4_lot_28 (by decide) ?_
      exact sc_reti hR hf hW dX4_lot_30
    · replace hf := sc_in hc hf
      refine lv_iload_n hx hb dX4_lot_17 rfl (lv_at hl 2 rfl) ?_
      refine lv_aload_n hx hb dX4_lot_18 rfl (lv_at hl 0 rfl) ?_
      refine sc_getX4 C0 hW ni_X4_lot_X4 0 (Nat.le_of_ble_eq_true rfl) lk_X4_lot_12 (v := .ref (h 1)) rfl dX4_lot_19 ?_
      refine sc_getX0 C0 hW ni_X4_lot_X0 0 (Nat.le_of_ble_eq_true rfl) lk_X4_lot_34 (v := .int (sc_gi S5 0)) rfl dX4_lot_22 ?_
      refine lv_icmp_lt (tgt := 31) hx hb dX4_lot_25 (by decide) (fun hc => ?_) (fun hc => ?_)
      · replace hf := sc_ip hc hf
        refine lv_aload_n hx hb dX4_lot_31 rfl (lv_at hl 0 rfl) ?_
        refine sc_getX4 C0 hW ni_X4_lot_X4 0 (Nat.le_of_ble_eq_true rfl) lk_X4_lot_12 (v := .ref (h 1)) rfl dX4_lot_32 ?_
        refine lv_iload_n hx hb dX4_lot_35 rfl (lv_at hl 1 rfl) ?_
        refine lv_iload_n hx hb dX4_lot_36 rfl (lv_at hl 2 rfl) ?_
        obtain ⟨r37, S37, hc, hf⟩ := sc_cl_s hf
        refine sc_callVi (As := [.int x1, .int x2]) (rest := []) (q0 := 1) (ci := 0) sc_okX C0 hW (ct_X0_swapLots hc) (cwV 2 hts gX4_lot_X0_swapLots rfl rfl rfl (by decide +kernel) ⟨Nat.le_of_ble_eq_true rfl, Nat.le_of_ble_eq_true rfl⟩) rfl rfl rfl rfl hl.1 rfl (Nat.le_of_ble_eq_true rfl) dX4_lot_37 (fun H locs hW => ?_)
        exact sc_reti hR hf hW dX4_lot_40
      · replace hf := sc_in hc hf
        refine lv_bipush (v := (-2 : Int32)) hx hb dX4_lot_28 (by decide) ?_
        exact sc_reti hR hf hW dX4_lot_30
  · replace hf := sc_ip hc hf
    refine lv_iconst (v := (-1 : Int32)) hx hb dX4_lot_11 (by decide) ?_
    exact sc_reti hR hf hW dX4_lot_12
set_option maxRecDepth 100000 in
theorem ct_X4_lot {S S' : sc_M} {r : Int32} {x1 : Int32} {x2 : Int32} (hf : fn_X4_lot S x1 x2 = some (r, S')) : sc_Ci l yX4_lot wsX4_lot rm_X4_lot (sc_EX dC dI h cy) [.ref (h 0), .int x1, .int x2] S S' r := by
  refine sc_ofi (cc := cX4_lot) (maxL := 3) .int rfl sc_okX (by decide) rfl (Nat.le_of_ble_eq_true rfl) ?_
  intro p e s m below meth c Q C0 hR hW ls hl
  exact wk_X4_lot_0 C0 hR _ _ _ _ _ _ hf hW hl
end

/-! ===== SeatCounts.isPapers(I)Z ===== -/
abbrev rm_X4_isPapers : Room := { frames := 0, cells := 0, slots := 0, locals := 0 }
noncomputable def fn_X4_isPapers_e (S : sc_M) (x0 : Int32) : Option (Int32 × sc_M) :=
  if x0 < (1 : Int32) then
    some ((0 : Int32), S)
  else
    if (500 : Int32) < x0 then
      some ((0 : Int32), S)
    else
      some ((1 : Int32), S)
noncomputable def fn_X4_isPapers (S : sc_M) (x0 : Int32) : Option (Int32 × sc_M) := sc_bz (fn_X4_isPapers_e S x0)
section
variable {p : Program} {l : Launch} {e : Env} {s : State} {m : MethodId} {args : Array Value} {below : List Frame} {meth : Method} {c : Code} {Q : State → Prop} {dC : Nat → ClassId} {dI : Nat → Nat → Nat} {h : Nat → Nat} {cy : Nat → ClassId}
set_option maxHeartbeats 4000000 in
set_option maxRecDepth 100000 in
theorem wk_X4_isPapers_0 (C0 : CallFix p m c cX4_isPapers 1 s args wsX4_isPapers RX4) {S' : sc_M} {r : Int32} (hR : sc_Ri p l e rm_X4_isPapers s m args below meth c Q cX4_isPapers (sc_EX dC dI h cy) S' r) : ∀ (S : sc_M) (x0 : Int32) (H : Heap) (locs : List Loc) (ls : Array Slot), fn_X4_isPapers_e S x0 = some (r, S') → sc_W (sc_EX dC dI h cy) s H locs S → lv_has ls 1 [(0, .int x0)] → W p l e rm_X4_isPapers s m args below meth c H locs 0 0 Q (F0 m 0 ls []) := by
  obtain ⟨hx, hb, hml, hown, hts⟩ := id C0
  intro S x0 H locs ls hf hW hl
  rw [fn_X4_isPapers_e] at hf
  refine lv_iload_n hx hb dX4_isPapers_0 rfl (lv_at hl 0 rfl) ?_
  refine lv_iconst (v := (1 : Int32)) hx hb dX4_isPapers_1 (by decide) ?_
  refine lv_icmp_lt (tgt := 16) hx hb dX4_isPapers_2 (by decide) (fun hc => ?_) (fun hc => ?_)
  · replace hf := sc_ip hc hf
    refine lv_iconst (v := (0 : Int32)) hx hb dX4_isPapers_16 (by decide) ?_
    exact sc_reti hR hf hW dX4_isPapers_17
  · replace hf := sc_in hc hf
    refine lv_iload_n hx hb dX4_isPapers_5 rfl (lv_at hl 0 rfl) ?_
    refine lv_sipush (v := (500 : Int32)) hx hb dX4_isPapers_6 (by decide) ?_
    refine lv_icmp_gt (tgt := 16) hx hb dX4_isPapers_9 (by decide) (fun hc => ?_) (fun hc => ?_)
    · replace hf := sc_ip hc hf
      refine lv_iconst (v := (0 : Int32)) hx hb dX4_isPapers_16 (by decide) ?_
      exact sc_reti hR hf hW dX4_isPapers_17
    · replace hf := sc_in hc hf
      refine lv_iconst (v := (1 : Int32)) hx hb dX4_isPapers_12 (by decide) ?_
      refine lv_goto (tgt := 17) hx hb dX4_isPapers_13 (by decide) ?_
      exact sc_reti hR hf hW dX4_isPapers_17
set_option maxRecDepth 100000 in
theorem ct_X4_isPapers {S S' : sc_M} {r : Int32} {x0 : Int32} (hf : fn_X4_isPapers S x0 = some (r, S')) : sc_Ci l yX4_isPapers wsX4_isPapers rm_X4_isPapers (sc_EX dC dI h cy) [.int x0] S S' r := by
  obtain ⟨hf, h01⟩ := sc_bz_s hf
  refine sc_ofi (cc := cX4_isPapers) (maxL := 1) .boolean (sc_nar01 h01) sc_okX (by decide) rfl (Nat.le_of_ble_eq_true rfl) ?_
  intro p e s m below meth c Q C0 hR hW ls hl
  exact wk_X4_isPapers_0 C0 hR _ _ _ _ _ hf hW hl
end

/-! ===== SeatCounts.pile(JI)I ===== -/
abbrev rm_X4_pile : Room := { frames := 2, cells := 0, slots := 0, locals := 50 }
theorem lk_X4_pile_12 : Cond.fieldLink RX4 12 "SeatCounts" "house" "LSeatCounts$House;" ∈ wsX4_pile := by decide +kernel
theorem lk_X4_pile_61 : Cond.fieldLink RX4 61 "SeatCounts$House" "piles" "I" ∈ wsX4_pile := by decide +kernel
theorem ni_X4_pile_X0 : ∀ w ∈ wsX00, w ∈ wsX4_pile := by decide +kernel
theorem ni_X4_pile_X4 : ∀ w ∈ wsX40, w ∈ wsX4_pile := by decide +kernel
noncomputable def fn_X4_pile (S : sc_M) (x1 : Int64) (x3 : Int32) : Option (Int32 × sc_M) :=
  sc_cl (fn_X0_preferencesTold S x1) (fun r5 S5 => if r5 = 0 then
    some ((-2 : Int32), S5)
  else
    sc_cl (fn_X4_isPapers S5 x3) (fun r16 S16 => if r16 = 0 then
      some ((-2 : Int32), S16)
    else
      if (sc_gi S16 1) < (80 : Int32) then
        sc_cl (fn_X0_addPile S16 x1 r5 x3) (fun r48 S48 => some (r48, S48))
      else
        some ((-4 : Int32), S16)))
section
variable {p : Program} {l : Launch} {e : Env} {s : State} {m : MethodId} {args : Array Value} {below : List Frame} {meth : Method} {c : Code} {Q : State → Prop} {dC : Nat → ClassId} {dI : Nat → Nat → Nat} {h : Nat → Nat} {cy : Nat → ClassId}
set_option maxHeartbeats 4000000 in
set_option maxRecDepth 100000 in
theorem wk_X4_pile_0 (C0 : CallFix p m c cX4_pile 5 s args wsX4_pile RX4) {S' : sc_M} {r : Int32} (hR : sc_Ri p l e rm_X4_pile s m args below meth c Q cX4_pile (sc_EX dC dI h cy) S' r) : ∀ (S : sc_M) (x1 : Int64) (x3 : Int32) (H : Heap) (locs : List Loc) (ls : Array Slot), fn_X4_pile S x1 x3 = some (r, S') → sc_W (sc_EX dC dI h cy) s H locs S → lv_has ls 5 [(0, .ref (h 0)), (1, .long x1), (3, .int x3)] → W p l e rm_X4_pile s m args below meth c H locs 0 0 Q (F0 m 0 ls []) := by
  obtain ⟨hx, hb, hml, hown, hts⟩ := id C0
  intro S x1 x3 H locs ls hf hW hl
  rw [fn_X4_pile] at hf
  refine lv_aload_n hx hb dX4_pile_0 rfl (lv_at hl 0 rfl) ?_
  refine sc_getX4 C0 hW ni_X4_pile_X4 0 (Nat.le_of_ble_eq_true rfl) lk_X4_pile_12 (v := .ref (h 1)) rfl dX4_pile_1 ?_
  refine lv_lload_n hx hb dX4_pile_4 rfl (lv_at hl 1 rfl) ?_
  obtain ⟨r5, S5, hc, hf⟩ := sc_cl_s hf
  refine sc_callVi (As := [.long x1]) (rest := []) (q0 := 1) (ci := 0) sc_okX C0 hW (ct_X0_preferencesTold hc) (cwV 1 hts gX4_pile_X0_preferencesTold rfl rfl rfl (by decide +kernel) ⟨Nat.le_of_ble_eq_true rfl, Nat.le_of_ble_eq_true rfl⟩) rfl rfl rfl rfl hl.1 rfl (Nat.le_of_ble_eq_true rfl) dX4_pile_5 (fun H locs hW => ?_)
  refine lv_istore (lv' := [(4, .int r5), (0, .ref (h 0)), (1, .long x1), (3, .int x3)]) hx hb dX4_pile_8 hl (by decide) rfl (fun ls hl => ?_)
  refine lv_iload hx hb dX4_pile_10 (lv_at hl 0 rfl) ?_
  refine lv_if_eq (tgt := 22) hx hb dX4_pile_12 (by decide) (fun hc => ?_) (fun hc => ?_)
  · replace hf := sc_ip hc hf
    refine lv_bipush (v := (-2 : Int32)) hx hb dX4_pile_22 (by decide) ?_
    exact sc_reti hR hf hW dX4_pile_24
  · replace hf := sc_in hc hf
    refine lv_iload_n hx hb dX4_pile_15 rfl (lv_at hl 3 rfl) ?_
    obtain ⟨r16, S16, hc, hf⟩ := sc_cl_s hf
    refine sc_callSi (As := [.int x3]) (rest := []) sc_okX C0 hW (ct_X4_isPapers hc) (va_cwS 1 hts gX4_pile_X4_isPapers rfl rfl rfl (by decide +kernel) ⟨Nat.le_of_ble_eq_true rfl, Nat.le_of_ble_eq_true rfl⟩) rfl hl.1 rfl (Nat.le_of_ble_eq_true rfl) dX4_pile_16 (fun H locs hW => ?_)
    refine lv_if_ne (tgt := 25) hx hb dX4_pile_19 (by decide) (fun hc => ?_) (fun hc => ?_)
    · replace hf := sc_in hc hf
      refine lv_aload_n hx hb dX4_pile_25 rfl (lv_at hl 1 rfl) ?_
      refine sc_getX4 C0 hW ni_X4_pile_X4 0 (Nat.le_of_ble_eq_true rfl) lk_X4_pile_12 (v := .ref (h 1)) rfl dX4_pile_26 ?_
      refine sc_getX0 C0 hW ni_X4_pile_X0 1 (Nat.le_of_ble_eq_true rfl) lk_X4_pile_61 (v := .int (sc_gi S16 1)) rfl dX4_pile_29 ?_
      refine lv_bipush (v := (80 : Int32)) hx hb dX4_pile_32 (by decide) ?_
      refine lv_icmp_lt (tgt := 40) hx hb dX4_pile_34 (by decide) (fun hc => ?_) (fun hc => ?_)
      · replace hf := sc_ip hc hf
        refine lv_aload_n hx hb dX4_pile_40 rfl (lv_at hl 1 rfl) ?_
        refine sc_getX4 C0 hW ni_X4_pile_X4 0 (Nat.le_of_ble_eq_true rfl) lk_X4_pile_12 (v := .ref (h 1)) rfl dX4_pile_41 ?_
        refine lv_lload_n hx hb dX4_pile_44 rfl (lv_at hl 2 rfl) ?_
        refine lv_iload hx hb dX4_pile_45 (lv_at hl 0 rfl) ?_
        refine lv_iload_n hx hb dX4_pile_47 rfl (lv_at hl 3 rfl) ?_
        obtain ⟨r48, S48, hc, hf⟩ := sc_cl_s hf
        refine sc_callVi (As := [.long x1, .int r5, .int x3]) (rest := []) (q0 := 1) (ci := 0) sc_okX C0 hW (ct_X0_addPile hc) (cwV 3 hts gX4_pile_X0_addPile rfl rfl rfl (by decide +kernel) ⟨Nat.le_of_ble_eq_true rfl, Nat.le_of_ble_eq_true rfl⟩) rfl rfl rfl rfl hl.1 rfl (Nat.le_of_ble_eq_true rfl) dX4_pile_48 (fun H locs hW => ?_)
        exact sc_reti hR hf hW dX4_pile_51
      · replace hf := sc_in hc hf
        refine lv_bipush (v := (-4 : Int32)) hx hb dX4_pile_37 (by decide) ?_
        exact sc_reti hR hf hW dX4_pile_39
    · replace hf := sc_ip hc hf
      refine lv_bipush (v := (-2 : Int32)) hx hb dX4_pile_22 (by decide) ?_
      exact sc_reti hR hf hW dX4_pile_24
set_option maxRecDepth 100000 in
theorem ct_X4_pile {S S' : sc_M} {r : Int32} {x1 : Int64} {x3 : Int32} (hf : fn_X4_pile S x1 x3 = some (r, S')) : sc_Ci l yX4_pile wsX4_pile rm_X4_pile (sc_EX dC dI h cy) [.ref (h 0), .long x1, .int x3] S S' r := by
  refine sc_ofi (cc := cX4_pile) (maxL := 5) .int rfl sc_okX (by decide) rfl (Nat.le_of_ble_eq_true rfl) ?_
  intro p e s m below meth c Q C0 hR hW ls hl
  exact wk_X4_pile_0 C0 hR _ _ _ _ _ _ hf hW hl
end

/-! ===== SeatCounts.change(II)I ===== -/
abbrev rm_X4_change : Room := { frames := 1, cells := 0, slots := 0, locals := 21 }
theorem lk_X4_change_12 : Cond.fieldLink RX4 12 "SeatCounts" "house" "LSeatCounts$House;" ∈ wsX4_change := by decide +kernel
theorem lk_X4_change_71 : Cond.fieldLink RX4 71 "SeatCounts$House" "papers" "[I" ∈ wsX4_change := by decide +kernel
theorem ni_X4_change_X0 : ∀ w ∈ wsX00, w ∈ wsX4_change := by decide +kernel
theorem ni_X4_change_X4 : ∀ w ∈ wsX40, w ∈ wsX4_change := by decide +kernel
noncomputable def fn_X4_change (S : sc_M) (x1 : Int32) (x2 : Int32) : Option (Int32 × sc_M) :=
  sc_cl (fn_X0_hasPile S x1) (fun r5 S5 => if r5 = 0 then
    some ((-1 : Int32), S5)
  else
    sc_cl (fn_X4_isPapers S5 x2) (fun r14 S14 => if r14 = 0 then
      some ((-2 : Int32), S14)
    else
      sc_ck x1 80 (sc_sq ((sc_ga S14 6 x1.toNatClampNeg)) (fun y32 => sc_ck x1 80 (sc_sq (sc_mA S14 6 (upd (sc_ga S14 6) x1.toNatClampNeg x2)) (fun S42 => some (y32, S42)))))))
section
variable {p : Program} {l : Launch} {e : Env} {s : State} {m : MethodId} {args : Array Value} {below : List Frame} {meth : Method} {c : Code} {Q : State → Prop} {dC : Nat → ClassId} {dI : Nat → Nat → Nat} {h : Nat → Nat} {cy : Nat → ClassId}
set_option maxHeartbeats 4000000 in
set_option maxRecDepth 100000 in
theorem wk_X4_change_0 (C0 : CallFix p m c cX4_change 4 s args wsX4_change RX4) {S' : sc_M} {r : Int32} (hR : sc_Ri p l e rm_X4_change s m args below meth c Q cX4_change (sc_EX dC dI h cy) S' r) : ∀ (S : sc_M) (x1 : Int32) (x2 : Int32) (H : Heap) (locs : List Loc) (ls : Array Slot), fn_X4_change S x1 x2 = some (r, S') → sc_W (sc_EX dC dI h cy) s H locs S → lv_has ls 4 [(0, .ref (h 0)), (1, .int x1), (2, .int x2)] → W p l e rm_X4_change s m args below meth c H locs 0 0 Q (F0 m 0 ls []) := by
  obtain ⟨hx, hb, hml, hown, hts⟩ := id C0
  intro S x1 x2 H locs ls hf hW hl
  rw [fn_X4_change] at hf
  refine lv_aload_n hx hb dX4_change_0 rfl (lv_at hl 0 rfl) ?_
  refine sc_getX4 C0 hW ni_X4_change_X4 0 (Nat.le_of_ble_eq_true rfl) lk_X4_change_12 (v := .ref (h 1)) rfl dX4_change_1 ?_
  refine lv_iload_n hx hb dX4_change_4 rfl (lv_at hl 1 rfl) ?_
  obtain ⟨r5, S5, hc, hf⟩ := sc_cl_s hf
  refine sc_callVi (As := [.int x1]) (rest := []) (q0 := 1) (ci := 0) sc_okX C0 hW (ct_X0_hasPile hc) (cwV 1 hts gX4_change_X0_hasPile rfl rfl rfl (by decide +kernel) ⟨Nat.le_of_ble_eq_true rfl, Nat.le_of_ble_eq_true rfl⟩) rfl rfl rfl rfl hl.1 rfl (Nat.le_of_ble_eq_true rfl) dX4_change_5 (fun H locs hW => ?_)
  refine lv_if_ne (tgt := 13) hx hb dX4_change_8 (by decide) (fun hc => ?_) (fun hc => ?_)
  · replace hf := sc_in hc hf
    refine lv_iload_n hx hb dX4_change_13 rfl (lv_at hl 2 rfl) ?_
    obtain ⟨r14, S14, hc, hf⟩ := sc_cl_s hf
    refine sc_callSi (As := [.int x2]) (rest := []) sc_okX C0 hW (ct_X4_isPapers hc) (va_cwS 1 hts gX4_change_X4_isPapers rfl rfl rfl (by decide +kernel) ⟨Nat.le_of_ble_eq_true rfl, Nat.le_of_ble_eq_true rfl⟩) rfl hl.1 rfl (Nat.le_of_ble_eq_true rfl) dX4_change_14 (fun H locs hW => ?_)
    refine lv_if_ne (tgt := 23) hx hb dX4_change_17 (by decide) (fun hc => ?_) (fun hc => ?_)
    · replace hf := sc_in hc hf
      refine lv_aload_n hx hb dX4_change_23 rfl (lv_at hl 0 rfl) ?_
      refine sc_getX4 C0 hW ni_X4_change_X4 0 (Nat.le_of_ble_eq_true rfl) lk_X4_change_12 (v := .ref (h 1)) rfl dX4_change_24 ?_
      refine sc_getX0 C0 hW ni_X4_change_X0 4 (Nat.le_of_ble_eq_true rfl) lk_X4_change_71 (v := .ref (h 6)) rfl dX4_change_27 ?_
      refine lv_iload_n hx hb dX4_change_30 rfl (lv_at hl 1 rfl) ?_
      obtain ⟨hv, hf⟩ := sc_ck_s hf
      refine sc_ldX_6 C0 hW hv dX4_change_31 ?_
      obtain ⟨y32, ey32, hf⟩ := sc_sq_s hf
      refine sc_topi ey32 ?_
      refine lv_istore_n (lv' := [(3, .int y32), (0, .ref (h 0)), (1, .int x1), (2, .int x2)]) hx hb dX4_change_32 rfl hl (by decide) rfl (fun ls hl => ?_)
      refine lv_aload_n hx hb dX4_change_33 rfl (lv_at hl 1 rfl) ?_
      refine sc_getX4 C0 hW ni_X4_change_X4 0 (Nat.le_of_ble_eq_true rfl) lk_X4_change_12 (v := .ref (h 1)) rfl dX4_change_34 ?_
      refine sc_getX0 C0 hW ni_X4_change_X0 4 (Nat.le_of_ble_eq_true rfl) lk_X4_change_71 (v := .ref (h 6)) rfl dX4_change_37 ?_
      refine lv_iload_n hx hb dX4_change_40 rfl (lv_at hl 2 rfl) ?_
      refine lv_iload_n hx hb dX4_change_41 rfl (lv_at hl 3 rfl) ?_
      obtain ⟨hv, hf⟩ := sc_ck_s hf
      obtain ⟨S42, eS42, hf⟩ := sc_sq_s hf
      refine sc_stX_6 C0 hW hv eS42 dX4_change_42 (fun H locs hW => ?_)
      refine lv_iload_n hx hb dX4_change_43 rfl (lv_at hl 0 rfl) ?_
      exact sc_reti hR hf hW dX4_change_44
    · replace hf := sc_ip hc hf
      refine lv_bipush (v := (-2 : Int32)) hx hb dX4_change_20 (by decide) ?_
      exact sc_reti hR hf hW dX4_change_22
  · replace hf := sc_ip hc hf
    refine lv_iconst (v := (-1 : Int32)) hx hb dX4_change_11 (by decide) ?_
    exact sc_reti hR hf hW dX4_change_12
set_option maxRecDepth 100000 in
theorem ct_X4_change {S S' : sc_M} {r : Int32} {x1 : Int32} {x2 : Int32} (hf : fn_X4_change S x1 x2 = some (r, S')) : sc_Ci l yX4_change wsX4_change rm_X4_change (sc_EX dC dI h cy) [.ref (h 0), .int x1, .int x2] S S' r := by
  refine sc_ofi (cc := cX4_change) (maxL := 4) .int rfl sc_okX (by decide) rfl (Nat.le_of_ble_eq_true rfl) ?_
  intro p e s m below meth c Q C0 hR hW ls hl
  exact wk_X4_change_0 C0 hR _ _ _ _ _ _ hf hW hl
end

/-! ===== SeatCounts.about(II)I ===== -/
abbrev rm_X4_about : Room := { frames := 1, cells := 0, slots := 0, locals := 22 }
theorem lk_X4_about_12 : Cond.fieldLink RX4 12 "SeatCounts" "house" "LSeatCounts$House;" ∈ wsX4_about := by decide +kernel
theorem lk_X4_about_71 : Cond.fieldLink RX4 71 "SeatCounts$House" "papers" "[I" ∈ wsX4_about := by decide +kernel
theorem lk_X4_about_78 : Cond.fieldLink RX4 78 "SeatCounts$House" "lengths" "[I" ∈ wsX4_about := by decide +kernel
theorem ni_X4_about_X0 : ∀ w ∈ wsX00, w ∈ wsX4_about := by decide +kernel
theorem ni_X4_about_X4 : ∀ w ∈ wsX40, w ∈ wsX4_about := by decide +kernel
noncomputable def fn_X4_about_38 (S : sc_M) (x1 : Int32) (x2 : Int32) : Option (Int32 × sc_M) :=
  if x2 = 0 then
    sc_ck x1 80 (some ((sc_ga S 6 x1.toNatClampNeg), S))
  else if x2 = 1 then
    sc_ck x1 80 (some ((sc_ga S 7 x1.toNatClampNeg), S))
  else if x2 = 2 then
    sc_cl (fn_X0_isValid S x1) (fun r89 S89 => if r89 = 0 then
      some ((0 : Int32), S89)
    else
      some ((1 : Int32), S89))
  else 
    some ((-2 : Int32), S)
noncomputable def fn_X4_about (S : sc_M) (x1 : Int32) (x2 : Int32) : Option (Int32 × sc_M) :=
  sc_cl (fn_X0_hasPile S x1) (fun r5 S5 => if r5 = 0 then
    some ((-1 : Int32), S5)
  else
    if x2 < (10 : Int32) then
      fn_X4_about_38 S5 x1 x2
    else
      if (22 : Int32) ≤ x2 then
        fn_X4_about_38 S5 x1 x2
      else
        sc_cl (fn_X0_preferenceAt S5 x1 (x2 - (10 : Int32))) (fun r34 S34 => some (r34, S34)))
section
variable {p : Program} {l : Launch} {e : Env} {s : State} {m : MethodId} {args : Array Value} {below : List Frame} {meth : Method} {c : Code} {Q : State → Prop} {dC : Nat → ClassId} {dI : Nat → Nat → Nat} {h : Nat → Nat} {cy : Nat → ClassId}
set_option maxHeartbeats 4000000 in
set_option maxRecDepth 100000 in
theorem wk_X4_about_38 (C0 : CallFix p m c cX4_about 3 s args wsX4_about RX4) {S' : sc_M} {r : Int32} (hR : sc_Ri p l e rm_X4_about s m args below meth c Q cX4_about (sc_EX dC dI h cy) S' r) : ∀ (S : sc_M) (x1 : Int32) (x2 : Int32) (H : Heap) (locs : List Loc) (ls : Array Slot), fn_X4_about_38 S x1 x2 = some (r, S') → sc_W (sc_EX dC dI h cy) s H locs S → lv_has ls 3 [(0, .ref (h 0)), (1, .int x1), (2, .int x2)] → W p l e rm_X4_about s m args below meth c H locs 0 0 Q (F0 m 38 ls []) := by
  obtain ⟨hx, hb, hml, hown, hts⟩ := id C0
  intro S x1 x2 H locs ls hf hW hl
  rw [fn_X4_about_38] at hf
  refine lv_iload_n hx hb dX4_about_38 rfl (lv_at hl 2 rfl) ?_
  rcases Decidable.em (x2 = 0) with hc0 | hc0
  · replace hf := sc_ip hc0 hf
    refine lv_tableIn (tgt := 64) hx hb dX4_about_39 (by rw [hc0]; decide) (by rw [hc0]; decide) (by rw [hc0]; rfl) (by decide) ?_
    refine lv_aload_n hx hb dX4_about_64 rfl (lv_at hl 0 rfl) ?_
    refine sc_getX4 C0 hW ni_X4_about_X4 0 (Nat.le_of_ble_eq_true rfl) lk_X4_about_12 (v := .ref (h 1)) rfl dX4_about_65 ?_
    refine sc_getX0 C0 hW ni_X4_about_X0 4 (Nat.le_of_ble_eq_true rfl) lk_X4_about_71 (v := .ref (h 6)) rfl dX4_about_68 ?_
    refine lv_iload_n hx hb dX4_about_71 rfl (lv_at hl 1 rfl) ?_
    obtain ⟨hv, hf⟩ := sc_ck_s hf
    refine sc_ldX_6 C0 hW hv dX4_about_72 ?_
    exact sc_reti hR hf hW dX4_about_73
  replace hf := sc_in hc0 hf
  rcases Decidable.em (x2 = 1) with hc1 | hc1
  · replace hf := sc_ip hc1 hf
    refine lv_tableIn (tgt := 74) hx hb dX4_about_39 (by rw [hc1]; decide) (by rw [hc1]; decide) (by rw [hc1]; rfl) (by decide) ?_
    refine lv_aload_n hx hb dX4_about_74 rfl (lv_at hl 0 rfl) ?_
    refine sc_getX4 C0 hW ni_X4_about_X4 0 (Nat.le_of_ble_eq_true rfl) lk_X4_about_12 (v := .ref (h 1)) rfl dX4_about_75 ?_
    refine sc_getX0 C0 hW ni_X4_about_X0 5 (Nat.le_of_ble_eq_true rfl) lk_X4_about_78 (v := .ref (h 7)) rfl dX4_about_78 ?_
    refine lv_iload_n hx hb dX4_about_81 rfl (lv_at hl 1 rfl) ?_
    obtain ⟨hv, hf⟩ := sc_ck_s hf
    refine sc_ldX_7 C0 hW hv dX4_about_82 ?_
    exact sc_reti hR hf hW dX4_about_83
  replace hf := sc_in hc1 hf
  rcases Decidable.em (x2 = 2) with hc2 | hc2
  · replace hf := sc_ip hc2 hf
    refine lv_tableIn (tgt := 84) hx hb dX4_about_39 (by rw [hc2]; decide) (by rw [hc2]; decide) (by rw [hc2]; rfl) (by decide) ?_
    refine lv_aload_n hx hb dX4_about_84 rfl (lv_at hl 0 rfl) ?_
    refine sc_getX4 C0 hW ni_X4_about_X4 0 (Nat.le_of_ble_eq_true rfl) lk_X4_about_12 (v := .ref (h 1)) rfl dX4_about_85 ?_
    refine lv_iload_n hx hb dX4_about_88 rfl (lv_at hl 1 rfl) ?_
    obtain ⟨r89, S89, hc, hf⟩ := sc_cl_s hf
    refine sc_callVi (As := [.int x1]) (rest := []) (q0 := 1) (ci := 0) sc_okX C0 hW (ct_X0_isValid hc) (cwV 1 hts gX4_about_X0_isValid rfl rfl rfl (by decide +kernel) ⟨Nat.le_of_ble_eq_true rfl, Nat.le_of_ble_eq_true rfl⟩) rfl rfl rfl rfl hl.1 rfl (Nat.le_of_ble_eq_true rfl) dX4_about_89 (fun H locs hW => ?_)
    refine lv_if_eq (tgt := 99) hx hb dX4_about_92 (by decide) (fun hc => ?_) (fun hc => ?_)
    · replace hf := sc_ip hc hf
      refine lv_iconst (v := (0 : Int32)) hx hb dX4_about_99 (by decide) ?_
      exact sc_reti hR hf hW dX4_about_100
    · replace hf := sc_in hc hf
      refine lv_iconst (v := (1 : Int32)) hx hb dX4_about_95 (by decide) ?_
      refine lv_goto (tgt := 100) hx hb dX4_about_96 (by decide) ?_
      exact sc_reti hR hf hW dX4_about_100
  replace hf := sc_in hc2 hf
  refine lv_tableOut (tgt := 101) hx hb dX4_about_39 (sc_tbo 2 (by decide) (fun k hk => match k, hk with | 0, _ => hc0 | 1, _ => hc1 | 2, _ => hc2 | k + 3, hk => absurd hk (by omega))) (by decide) ?_
  refine lv_bipush (v := (-2 : Int32)) hx hb dX4_about_101 (by decide) ?_
  exact sc_reti hR hf hW dX4_about_103
set_option maxHeartbeats 4000000 in
set_option maxRecDepth 100000 in
theorem wk_X4_about_0 (C0 : CallFix p m c cX4_about 3 s args wsX4_about RX4) {S' : sc_M} {r : Int32} (hR : sc_Ri p l e rm_X4_about s m args below meth c Q cX4_about (sc_EX dC dI h cy) S' r) : ∀ (S : sc_M) (x1 : Int32) (x2 : Int32) (H : Heap) (locs : List Loc) (ls : Array Slot), fn_X4_about S x1 x2 = some (r, S') → sc_W (sc_EX dC dI h cy) s H locs S → lv_has ls 3 [(0, .ref (h 0)), (1, .int x1), (2, .int x2)] → W p l e rm_X4_about s m args below meth c H locs 0 0 Q (F0 m 0 ls []) := by
  obtain ⟨hx, hb, hml, hown, hts⟩ := id C0
  intro S x1 x2 H locs ls hf hW hl
  rw [fn_X4_about] at hf
  refine lv_aload_n hx hb dX4_about_0 rfl (lv_at hl 0 rfl) ?_
  refine sc_getX4 C0 hW ni_X4_about_X4 0 (Nat.le_of_ble_eq_true rfl) lk_X4_about_12 (v := .ref (h 1)) rfl dX4_about_1 ?_
  refine lv_iload_n hx hb dX4_about_4 rfl (lv_at hl 1 rfl) ?_
  obtain ⟨r5, S5, hc, hf⟩ := sc_cl_s hf
  refine sc_callVi (As := [.int x1]) (rest := []) (q0 := 1) (ci := 0) sc_okX C0 hW (ct_X0_hasPile hc) (cwV 1 hts gX4_about_X0_hasPile rfl rfl rfl (by decide +kernel) ⟨Nat.le_of_ble_eq_true rfl, Nat.le_of_ble_eq_true rfl⟩) rfl rfl rfl rfl hl.1 rfl (Nat.le_of_ble_eq_true rfl) dX4_about_5 (fun H locs hW => ?_)
  refine lv_if_ne (tgt := 13) hx hb dX4_about_8 (by decide) (fun hc => ?_) (fun hc => ?_)
  · replace hf := sc_in hc hf
    refine lv_iload_n hx hb dX4_about_13 rfl (lv_at hl 2 rfl) ?_
    refine lv_bipush (v := (10 : Int32)) hx hb dX4_about_14 (by decide) ?_
    refine lv_icmp_lt (tgt := 38) hx hb dX4_about_16 (by decide) (fun hc => ?_) (fun hc => ?_)
    · replace hf := sc_ip hc hf
      exact wk_X4_about_38 C0 hR  _ _ _ _ _ _ hf hW (lv_sub hl [0, 1, 2] rfl)
    · replace hf := sc_in hc hf
      refine lv_iload_n hx hb dX4_about_19 rfl (lv_at hl 2 rfl) ?_
      refine lv_bipush (v := (22 : Int32)) hx hb dX4_about_20 (by decide) ?_
      refine lv_icmp_ge (tgt := 38) hx hb dX4_about_22 (by decide) (fun hc => ?_) (fun hc => ?_)
      · replace hf := sc_ip hc hf
        exact wk_X4_about_38 C0 hR  _ _ _ _ _ _ hf hW (lv_sub hl [0, 1, 2] rfl)
      · replace hf := sc_in hc hf
        refine lv_aload_n hx hb dX4_about_25 rfl (lv_at hl 0 rfl) ?_
        refine sc_getX4 C0 hW ni_X4_about_X4 0 (Nat.le_of_ble_eq_true rfl) lk_X4_about_12 (v := .ref (h 1)) rfl dX4_about_26 ?_
        refine lv_iload_n hx hb dX4_about_29 rfl (lv_at hl 1 rfl) ?_
        refine lv_iload_n hx hb dX4_about_30 rfl (lv_at hl 2 rfl) ?_
        refine lv_bipush (v := (10 : Int32)) hx hb dX4_about_31 (by decide) ?_
        refine lv_isub hx hb dX4_about_33 ?_
        obtain ⟨r34, S34, hc, hf⟩ := sc_cl_s hf
        refine sc_callVi (As := [.int x1, .int (x2 - (10 : Int32))]) (rest := []) (q0 := 1) (ci := 0) sc_okX C0 hW (ct_X0_preferenceAt hc) (cwV 2 hts gX4_about_X0_preferenceAt rfl rfl rfl (by decide +kernel) ⟨Nat.le_of_ble_eq_true rfl, Nat.le_of_ble_eq_true rfl⟩) rfl rfl rfl rfl hl.1 rfl (Nat.le_of_ble_eq_true rfl) dX4_about_34 (fun H locs hW => ?_)
        exact sc_reti hR hf hW dX4_about_37
  · replace hf := sc_ip hc hf
    refine lv_iconst (v := (-1 : Int32)) hx hb dX4_about_11 (by decide) ?_
    exact sc_reti hR hf hW dX4_about_12
set_option maxRecDepth 100000 in
theorem ct_X4_about {S S' : sc_M} {r : Int32} {x1 : Int32} {x2 : Int32} (hf : fn_X4_about S x1 x2 = some (r, S')) : sc_Ci l yX4_about wsX4_about rm_X4_about (sc_EX dC dI h cy) [.ref (h 0), .int x1, .int x2] S S' r := by
  refine sc_ofi (cc := cX4_about) (maxL := 3) .int rfl sc_okX (by decide) rfl (Nat.le_of_ble_eq_true rfl) ?_
  intro p e s m below meth c Q C0 hR hW ls hl
  exact wk_X4_about_0 C0 hR _ _ _ _ _ _ hf hW hl
end
