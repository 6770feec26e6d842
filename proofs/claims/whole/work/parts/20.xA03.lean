/-! ===== SeatCounts$KeepRule.share(LSeatCounts$House;LSeatCounts$Journal;)V ===== -/
abbrev rm_X2_share : Room := { frames := 1, cells := 0, slots := 0, locals := 28 }
theorem lk_X2_share_51 : Cond.fieldLink RX2 51 "SeatCounts$Journal" "row" "I" ∈ wsX2_share := by decide +kernel
theorem lk_X2_share_62 : Cond.fieldLink RX2 62 "SeatCounts$Journal" "candidates" "I" ∈ wsX2_share := by decide +kernel
theorem lk_X2_share_65 : Cond.fieldLink RX2 65 "SeatCounts$Journal" "votes" "[J" ∈ wsX2_share := by decide +kernel
theorem lk_X2_share_68 : Cond.fieldLink RX2 68 "SeatCounts$House" "piles" "I" ∈ wsX2_share := by decide +kernel
theorem lk_X2_share_77 : Cond.fieldLink RX2 77 "SeatCounts$House" "papers" "[I" ∈ wsX2_share := by decide +kernel
theorem lk_X2_share_84 : Cond.fieldLink RX2 84 "SeatCounts$Journal" "untransferable" "[J" ∈ wsX2_share := by decide +kernel
theorem lk_X2_share_90 : Cond.fieldLink RX2 90 "SeatCounts$Journal" "quotas" "[J" ∈ wsX2_share := by decide +kernel
theorem lk_X2_share_93 : Cond.fieldLink RX2 93 "SeatCounts$Journal" "seats" "I" ∈ wsX2_share := by decide +kernel
theorem ni_X2_share_X0 : ∀ w ∈ wsX00, w ∈ wsX2_share := by decide +kernel
theorem ni_X2_share_X1 : ∀ w ∈ wsX10, w ∈ wsX2_share := by decide +kernel
noncomputable def fn_X2_share_92 : Nat → sc_M → Int64 → Int32 → Option (sc_M)
  | 0, _, _, _ => none
  | n + 1, S, x4, x6 =>
    if (sc_gi S 4) ≤ x6 then
      sc_cl (fn_X1_now S) (fun r129 S129 => sc_nl (((sc_gi S129 3) + (1 : Int32)).toInt64) (sc_ck r129 72 (sc_sq (sc_mB S129 17 (vp_updL (sc_gb S129 17) r129.toNatClampNeg ((x4 / ((sc_gi S129 3) + (1 : Int32)).toInt64) + (1 : Int64)))) (fun S144 => some S144))))
    else
      sc_ck ((sc_gi S 6) + x6) 864 (sc_sq ((x4 + (sc_gb S 19 ((sc_gi S 6) + x6).toNatClampNeg))) (fun y116 => fn_X2_share_92 n S y116 (x6 + 1)))
noncomputable def fn_X2_share_33 : Nat → sc_M → Int64 → Int32 → Option (sc_M)
  | 0, _, _, _ => none
  | n + 1, S, x2, x4 =>
    if (sc_gi S 1) ≤ x4 then
      sc_cl (fn_X1_now S) (fun r81 S81 => sc_ck r81 72 (sc_sq (sc_mB S81 15 (vp_updL (sc_gb S81 15) r81.toNatClampNeg x2)) (fun S85 => fn_X2_share_92 sc_FU S85 (0 : Int64) (0 : Int32))))
    else
      sc_cl (fn_X0_isValid S x4) (fun r45 S45 => if r45 = 0 then
        fn_X2_share_33 n S45 x2 (x4 + 1)
      else
        sc_ck x4 80 (sc_cl (fn_X2_sharePapers S45 x4) (fun r64 S64 => sc_sq ((x2 + ((sc_ga S45 6 x4.toNatClampNeg).toInt64 * r64))) (fun y69 => fn_X2_share_33 n S64 y69 (x4 + 1)))))
noncomputable def fn_X2_share_2 : Nat → sc_M → Int32 → Option (sc_M)
  | 0, _, _ => none
  | n + 1, S, x2 =>
    if (sc_gi S 4) ≤ x2 then
      fn_X2_share_33 sc_FU S (0 : Int64) (0 : Int32)
    else
      sc_ck ((sc_gi S 6) + x2) 864 (sc_sq (sc_mB S 19 (vp_updL (sc_gb S 19) ((sc_gi S 6) + x2).toNatClampNeg (0 : Int64))) (fun S21 => fn_X2_share_2 n S21 (x2 + 1)))
noncomputable def fn_X2_share (S : sc_M) : Option (sc_M) :=
  fn_X2_share_2 sc_FU S (0 : Int32)
section
variable {p : Program} {l : Launch} {e : Env} {s : State} {m : MethodId} {args : Array Value} {below : List Frame} {meth : Method} {c : Code} {Q : State → Prop} {dC : Nat → ClassId} {dI : Nat → Nat → Nat} {h : Nat → Nat} {cy : Nat → ClassId}
set_option maxHeartbeats 4000000 in
set_option maxRecDepth 100000 in
theorem wk_X2_share_92 (C0 : CallFix p m c cX2_share 7 s args wsX2_share RX2) {S' : sc_M} (hR : sc_Rv p l e rm_X2_share s m args below meth c Q cX2_share (sc_EX dC dI h cy) S') : ∀ n : Nat, ∀ (S : sc_M) (x4 : Int64) (x6 : Int32) (H : Heap) (locs : List Loc) (ls : Array Slot), fn_X2_share_92 n S x4 x6 = some S' → sc_W (sc_EX dC dI h cy) s H locs S → lv_has ls 7 [(1, .ref (h 2)), (4, .long x4), (6, .int x6)] → W p l e rm_X2_share s m args below meth c H locs 0 0 Q (F0 m 92 ls []) := by
  obtain ⟨hx, hb, hml, hown, hts⟩ := id C0
  intro n
  induction n with
  | zero => intro S x4 x6 H locs ls; intro hf; cases hf
  | succ n ih =>
    intro S x4 x6 H locs ls hf hW hl
    rw [fn_X2_share_92] at hf
    refine lv_iload hx hb dX2_share_92 (lv_at hl 2 rfl) ?_
    refine lv_aload_n hx hb dX2_share_94 rfl (lv_at hl 0 rfl) ?_
    refine sc_getX1 C0 hW ni_X2_share_X1 2 (Nat.le_of_ble_eq_true rfl) lk_X2_share_62 (v := .int (sc_gi S 4)) rfl dX2_share_95 ?_
    refine lv_icmp_ge (tgt := 124) hx hb dX2_share_98 (by decide) (fun hc => ?_) (fun hc => ?_)
    · replace hf := sc_ip hc hf
      refine lv_aload_n hx hb dX2_share_124 rfl (lv_at hl 0 rfl) ?_
      refine sc_getX1 C0 hW ni_X2_share_X1 13 (Nat.le_of_ble_eq_true rfl) lk_X2_share_90 (v := .ref (h 17)) rfl dX2_share_125 ?_
      refine lv_aload_n hx hb dX2_share_128 rfl (lv_at hl 0 rfl) ?_
      obtain ⟨r129, S129, hc, hf⟩ := sc_cl_s hf
      refine sc_callVi (As := []) (rest := [.ref (h 17)]) (q0 := 2) (ci := 1) sc_okX C0 hW (ct_X1_now hc) (cwV 0 hts gX2_share_X1_now rfl rfl rfl (by decide +kernel) ⟨Nat.le_of_ble_eq_true rfl, Nat.le_of_ble_eq_true rfl⟩) rfl rfl rfl rfl hl.1 rfl (Nat.le_of_ble_eq_true rfl) dX2_share_129 (fun H locs hW => ?_)
      refine lv_lload hx hb dX2_share_132 (lv_at hl 1 rfl) ?_
      refine lv_aload_n hx hb dX2_share_134 rfl (lv_at hl 0 rfl) ?_
      refine sc_getX1 C0 hW ni_X2_share_X1 1 (Nat.le_of_ble_eq_true rfl) lk_X2_share_93 (v := .int (sc_gi S129 3)) rfl dX2_share_135 ?_
      refine lv_iconst (v := (1 : Int32)) hx hb dX2_share_138 (by decide) ?_
      refine lv_iadd hx hb dX2_share_139 ?_
      refine lv_i2l hx hb dX2_share_140 rfl ?_
      obtain ⟨hz, hf⟩ := sc_nl_s hf
      refine lv_ldiv hx hb dX2_share_141 hz ?_
      refine lv_lconst (v := (1 : Int64)) hx hb dX2_share_142 (by decide) ?_
      refine lv_ladd hx hb dX2_share_143 ?_
      obtain ⟨hv, hf⟩ := sc_ck_s hf
      obtain ⟨S144, eS144, hf⟩ := sc_sq_s hf
      refine sc_stX_17 C0 hW hv eS144 dX2_share_144 (fun H locs hW => ?_)
      exact sc_retv hR hf hW dX2_share_145
    · replace hf := sc_in hc hf
      refine lv_lload hx hb dX2_share_101 (lv_at hl 1 rfl) ?_
      refine lv_aload_n hx hb dX2_share_103 rfl (lv_at hl 0 rfl) ?_
      refine sc_getX1 C0 hW ni_X2_share_X1 15 (Nat.le_of_ble_eq_true rfl) lk_X2_share_65 (v := .ref (h 19)) rfl dX2_share_104 ?_
      refine lv_aload_n hx hb dX2_share_107 rfl (lv_at hl 0 rfl) ?_
      refine sc_getX1 C0 hW ni_X2_share_X1 4 (Nat.le_of_ble_eq_true rfl) lk_X2_share_51 (v := .int (sc_gi S 6)) rfl dX2_share_108 ?_
      refine lv_iload hx hb dX2_share_111 (lv_at hl 2 rfl) ?_
      refine lv_iadd hx hb dX2_share_113 ?_
      obtain ⟨hv, hf⟩ := sc_ck_s hf
      refine sc_ldX_19 C0 hW hv dX2_share_114 ?_
      refine lv_ladd hx hb dX2_share_115 ?_
      obtain ⟨y116, ey116, hf⟩ := sc_sq_s hf
      refine sc_topl ey116 ?_
      refine lv_lstore (lv' := [(4, .long y116), (1, .ref (h 2)), (6, .int x6)]) hx hb dX2_share_116 hl (by decide) rfl (fun ls hl => ?_)
      refine lv_iinc (v := (x6 + 1)) (lv' := [(6, .int (x6 + 1)), (4, .long y116), (1, .ref (h 2))]) hx hb dX2_share_118 hl (k := 2) rfl rfl (by decide) rfl (fun ls hl => ?_)
      refine lv_goto (tgt := 92) hx hb dX2_share_121 (by decide) ?_
      exact ih _ _ _ _ _ _ hf hW (lv_sub hl [2, 1, 0] rfl)
set_option maxHeartbeats 4000000 in
set_option maxRecDepth 100000 in
theorem wk_X2_share_33 (C0 : CallFix p m c cX2_share 7 s args wsX2_share RX2) {S' : sc_M} (hR : sc_Rv p l e rm_X2_share s m args below meth c Q cX2_share (sc_EX dC dI h cy) S') : ∀ n : Nat, ∀ (S : sc_M) (x2 : Int64) (x4 : Int32) (H : Heap) (locs : List Loc) (ls : Array Slot), fn_X2_share_33 n S x2 x4 = some S' → sc_W (sc_EX dC dI h cy) s H locs S → lv_has ls 7 [(0, .ref (h 1)), (1, .ref (h 2)), (2, .long x2), (4, .int x4)] → W p l e rm_X2_share s m args below meth c H locs 0 0 Q (F0 m 33 ls []) := by
  obtain ⟨hx, hb, hml, hown, hts⟩ := id C0
  intro n
  induction n with
  | zero => intro S x2 x4 H locs ls; intro hf; cases hf
  | succ n ih =>
    intro S x2 x4 H locs ls hf hW hl
    rw [fn_X2_share_33] at hf
    refine lv_iload hx hb dX2_share_33 (lv_at hl 3 rfl) ?_
    refine lv_aload_n hx hb dX2_share_35 rfl (lv_at hl 0 rfl) ?_
    refine sc_getX0 C0 hW ni_X2_share_X0 1 (Nat.le_of_ble_eq_true rfl) lk_X2_share_68 (v := .int (sc_gi S 1)) rfl dX2_share_36 ?_
    refine lv_icmp_ge (tgt := 76) hx hb dX2_share_39 (by decide) (fun hc => ?_) (fun hc => ?_)
    · replace hf := sc_ip hc hf
      refine lv_aload_n hx hb dX2_share_76 rfl (lv_at hl 1 rfl) ?_
      refine sc_getX1 C0 hW ni_X2_share_X1 11 (Nat.le_of_ble_eq_true rfl) lk_X2_share_84 (v := .ref (h 15)) rfl dX2_share_77 ?_
      refine lv_aload_n hx hb dX2_share_80 rfl (lv_at hl 1 rfl) ?_
      obtain ⟨r81, S81, hc, hf⟩ := sc_cl_s hf
      refine sc_callVi (As := []) (rest := [.ref (h 15)]) (q0 := 2) (ci := 1) sc_okX C0 hW (ct_X1_now hc) (cwV 0 hts gX2_share_X1_now rfl rfl rfl (by decide +kernel) ⟨Nat.le_of_ble_eq_true rfl, Nat.le_of_ble_eq_true rfl⟩) rfl rfl rfl rfl hl.1 rfl (Nat.le_of_ble_eq_true rfl) dX2_share_81 (fun H locs hW => ?_)
      refine lv_lload_n hx hb dX2_share_84 rfl (lv_at hl 2 rfl) ?_
      obtain ⟨hv, hf⟩ := sc_ck_s hf
      obtain ⟨S85, eS85, hf⟩ := sc_sq_s hf
      refine sc_stX_15 C0 hW hv eS85 dX2_share_85 (fun H locs hW => ?_)
      refine lv_lconst (v := (0 : Int64)) hx hb dX2_share_86 (by decide) ?_
      refine lv_lstore (lv' := [(4, .long (0 : Int64)), (0, .ref (h 1)), (1, .ref (h 2)), (2, .long x2)]) hx hb dX2_share_87 hl (by decide) rfl (fun ls hl => ?_)
      refine lv_iconst (v := (0 : Int32)) hx hb dX2_share_89 (by decide) ?_
      refine lv_istore (lv' := [(6, .int (0 : Int32)), (4, .long (0 : Int64)), (0, .ref (h 1)), (1, .ref (h 2)), (2, .long x2)]) hx hb dX2_share_90 hl (by decide) rfl (fun ls hl => ?_)
      exact wk_X2_share_92 C0 hR  sc_FU _ _ _ _ _ _ hf hW (lv_sub hl [3, 1, 0] rfl)
    · replace hf := sc_in hc hf
      refine lv_aload_n hx hb dX2_share_42 rfl (lv_at hl 0 rfl) ?_
      refine lv_iload hx hb dX2_share_43 (lv_at hl 3 rfl) ?_
      obtain ⟨r45, S45, hc, hf⟩ := sc_cl_s hf
      refine sc_callVi (As := [.int x4]) (rest := []) (q0 := 1) (ci := 0) sc_okX C0 hW (ct_X0_isValid hc) (cwV 1 hts gX2_share_X0_isValid rfl rfl rfl (by decide +kernel) ⟨Nat.le_of_ble_eq_true rfl, Nat.le_of_ble_eq_true rfl⟩) rfl rfl rfl rfl hl.1 rfl (Nat.le_of_ble_eq_true rfl) dX2_share_45 (fun H locs hW => ?_)
      refine lv_if_eq (tgt := 70) hx hb dX2_share_48 (by decide) (fun hc => ?_) (fun hc => ?_)
      · replace hf := sc_ip hc hf
        refine lv_iinc (v := (x4 + 1)) (lv' := [(4, .int (x4 + 1)), (0, .ref (h 1)), (1, .ref (h 2)), (2, .long x2)]) hx hb dX2_share_70 hl (k := 3) rfl rfl (by decide) rfl (fun ls hl => ?_)
        refine lv_goto (tgt := 33) hx hb dX2_share_73 (by decide) ?_
        exact ih _ _ _ _ _ _ hf hW (lv_sub hl [1, 2, 3, 0] rfl)
      · replace hf := sc_in hc hf
        refine lv_lload_n hx hb dX2_share_51 rfl (lv_at hl 2 rfl) ?_
        refine lv_aload_n hx hb dX2_share_52 rfl (lv_at hl 0 rfl) ?_
        refine sc_getX0 C0 hW ni_X2_share_X0 4 (Nat.le_of_ble_eq_true rfl) lk_X2_share_77 (v := .ref (h 6)) rfl dX2_share_53 ?_
        refine lv_iload hx hb dX2_share_56 (lv_at hl 3 rfl) ?_
        obtain ⟨hv, hf⟩ := sc_ck_s hf
        refine sc_ldX_6 C0 hW hv dX2_share_58 ?_
        refine lv_i2l hx hb dX2_share_59 rfl ?_
        refine lv_aload_n hx hb dX2_share_60 rfl (lv_at hl 0 rfl) ?_
        refine lv_aload_n hx hb dX2_share_61 rfl (lv_at hl 1 rfl) ?_
        refine lv_iload hx hb dX2_share_62 (lv_at hl 3 rfl) ?_
        obtain ⟨r64, S64, hc, hf⟩ := sc_cl_s hf
        refine sc_callSl (As := [.ref (h 1), .ref (h 2), .int x4]) (rest := [.long (sc_ga S45 6 x4.toNatClampNeg).toInt64, .long x2]) sc_okX C0 hW (ct_X2_sharePapers hc) (va_cwS 3 hts gX2_share_X2_sharePapers rfl rfl rfl (by decide +kernel) ⟨Nat.le_of_ble_eq_true rfl, Nat.le_of_ble_eq_true rfl⟩) rfl hl.1 rfl (Nat.le_of_ble_eq_true rfl) dX2_share_64 (fun H locs hW => ?_)
        refine lv_lmul hx hb dX2_share_67 ?_
        refine lv_ladd hx hb dX2_share_68 ?_
        obtain ⟨y69, ey69, hf⟩ := sc_sq_s hf
        refine sc_topl ey69 ?_
        refine lv_lstore_n (lv' := [(2, .long y69), (0, .ref (h 1)), (1, .ref (h 2)), (4, .int x4)]) hx hb dX2_share_69 rfl hl (by decide) rfl (fun ls hl => ?_)
        refine lv_iinc (v := (x4 + 1)) (lv' := [(4, .int (x4 + 1)), (2, .long y69), (0, .ref (h 1)), (1, .ref (h 2))]) hx hb dX2_share_70 hl (k := 3) rfl rfl (by decide) rfl (fun ls hl => ?_)
        refine lv_goto (tgt := 33) hx hb dX2_share_73 (by decide) ?_
        exact ih _ _ _ _ _ _ hf hW (lv_sub hl [2, 3, 1, 0] rfl)
set_option maxHeartbeats 4000000 in
set_option maxRecDepth 100000 in
theorem wk_X2_share_2 (C0 : CallFix p m c cX2_share 7 s args wsX2_share RX2) {S' : sc_M} (hR : sc_Rv p l e rm_X2_share s m args below meth c Q cX2_share (sc_EX dC dI h cy) S') : ∀ n : Nat, ∀ (S : sc_M) (x2 : Int32) (H : Heap) (locs : List Loc) (ls : Array Slot), fn_X2_share_2 n S x2 = some S' → sc_W (sc_EX dC dI h cy) s H locs S → lv_has ls 7 [(0, .ref (h 1)), (1, .ref (h 2)), (2, .int x2)] → W p l e rm_X2_share s m args below meth c H locs 0 0 Q (F0 m 2 ls []) := by
  obtain ⟨hx, hb, hml, hown, hts⟩ := id C0
  intro n
  induction n with
  | zero => intro S x2 H locs ls; intro hf; cases hf
  | succ n ih =>
    intro S x2 H locs ls hf hW hl
    rw [fn_X2_share_2] at hf
    refine lv_iload_n hx hb dX2_share_2 rfl (lv_at hl 2 rfl) ?_
    refine lv_aload_n hx hb dX2_share_3 rfl (lv_at hl 1 rfl) ?_
    refine sc_getX1 C0 hW ni_X2_share_X1 2 (Nat.le_of_ble_eq_true rfl) lk_X2_share_62 (v := .int (sc_gi S 4)) rfl dX2_share_4 ?_
    refine lv_icmp_ge (tgt := 28) hx hb dX2_share_7 (by decide) (fun hc => ?_) (fun hc => ?_)
    · replace hf := sc_ip hc hf
      refine lv_lconst (v := (0 : Int64)) hx hb dX2_share_28 (by decide) ?_
      refine lv_lstore_n (lv' := [(2, .long (0 : Int64)), (0, .ref (h 1)), (1, .ref (h 2))]) hx hb dX2_share_29 rfl hl (by decide) rfl (fun ls hl => ?_)
      refine lv_iconst (v := (0 : Int32)) hx hb dX2_share_30 (by decide) ?_
      refine lv_istore (lv' := [(4, .int (0 : Int32)), (2, .long (0 : Int64)), (0, .ref (h 1)), (1, .ref (h 2))]) hx hb dX2_share_31 hl (by decide) rfl (fun ls hl => ?_)
      exact wk_X2_share_33 C0 hR  sc_FU _ _ _ _ _ _ hf hW (lv_sub hl [2, 3, 1, 0] rfl)
    · replace hf := sc_in hc hf
      refine lv_aload_n hx hb dX2_share_10 rfl (lv_at hl 1 rfl) ?_
      refine sc_getX1 C0 hW ni_X2_share_X1 15 (Nat.le_of_ble_eq_true rfl) lk_X2_share_65 (v := .ref (h 19)) rfl dX2_share_11 ?_
      refine lv_aload_n hx hb dX2_share_14 rfl (lv_at hl 1 rfl) ?_
      refine sc_getX1 C0 hW ni_X2_share_X1 4 (Nat.le_of_ble_eq_true rfl) lk_X2_share_51 (v := .int (sc_gi S 6)) rfl dX2_share_15 ?_
      refine lv_iload_n hx hb dX2_share_18 rfl (lv_at hl 2 rfl) ?_
      refine lv_iadd hx hb dX2_share_19 ?_
      refine lv_lconst (v := (0 : Int64)) hx hb dX2_share_20 (by decide) ?_
      obtain ⟨hv, hf⟩ := sc_ck_s hf
      obtain ⟨S21, eS21, hf⟩ := sc_sq_s hf
      refine sc_stX_19 C0 hW hv eS21 dX2_share_21 (fun H locs hW => ?_)
      refine lv_iinc (v := (x2 + 1)) (lv' := [(2, .int (x2 + 1)), (0, .ref (h 1)), (1, .ref (h 2))]) hx hb dX2_share_22 hl (k := 2) rfl rfl (by decide) rfl (fun ls hl => ?_)
      refine lv_goto (tgt := 2) hx hb dX2_share_25 (by decide) ?_
      exact ih _ _ _ _ _ hf hW (lv_sub hl [1, 2, 0] rfl)
set_option maxHeartbeats 4000000 in
set_option maxRecDepth 100000 in
theorem wk_X2_share_0 (C0 : CallFix p m c cX2_share 7 s args wsX2_share RX2) {S' : sc_M} (hR : sc_Rv p l e rm_X2_share s m args below meth c Q cX2_share (sc_EX dC dI h cy) S') : ∀ (S : sc_M) (H : Heap) (locs : List Loc) (ls : Array Slot), fn_X2_share S = some S' → sc_W (sc_EX dC dI h cy) s H locs S → lv_has ls 7 [(0, .ref (h 1)), (1, .ref (h 2))] → W p l e rm_X2_share s m args below meth c H locs 0 0 Q (F0 m 0 ls []) := by
  obtain ⟨hx, hb, hml, hown, hts⟩ := id C0
  intro S H locs ls hf hW hl
  rw [fn_X2_share] at hf
  refine lv_iconst (v := (0 : Int32)) hx hb dX2_share_0 (by decide) ?_
  refine lv_istore_n (lv' := [(2, .int (0 : Int32)), (0, .ref (h 1)), (1, .ref (h 2))]) hx hb dX2_share_1 rfl hl (by decide) rfl (fun ls hl => ?_)
  exact wk_X2_share_2 C0 hR  sc_FU _ _ _ _ _ hf hW (lv_sub hl [1, 2, 0] rfl)
set_option maxRecDepth 100000 in
theorem ct_X2_share {S S' : sc_M} (hf : fn_X2_share S = some S') : sc_Cv l yX2_share wsX2_share rm_X2_share (sc_EX dC dI h cy) [.ref (h 1), .ref (h 2)] S S' := by
  refine sc_ofv (cc := cX2_share) (maxL := 7) sc_okX (by decide) rfl (Nat.le_of_ble_eq_true rfl) ?_
  intro p e s m below meth c Q C0 hR hW ls hl
  exact wk_X2_share_0 C0 hR _ _ _ _ hf hW hl
end

/-! ===== SeatCounts$KeepRule.excessOf(LSeatCounts$Journal;)J ===== -/
abbrev rm_X2_excessOf : Room := { frames := 2, cells := 0, slots := 0, locals := 40 }
theorem lk_X2_excessOf_51 : Cond.fieldLink RX2 51 "SeatCounts$Journal" "row" "I" ∈ wsX2_excessOf := by decide +kernel
theorem lk_X2_excessOf_62 : Cond.fieldLink RX2 62 "SeatCounts$Journal" "candidates" "I" ∈ wsX2_excessOf := by decide +kernel
theorem lk_X2_excessOf_65 : Cond.fieldLink RX2 65 "SeatCounts$Journal" "votes" "[J" ∈ wsX2_excessOf := by decide +kernel
theorem lk_X2_excessOf_mc114 : Cond.code Lib.MathLoose.max_long.x Lib.MathLoose.max_long.code 4 (some .long) ∈ wsX2_excessOf := by decide +kernel
theorem lk_X2_excessOf_mi114 : Cond.initialized "java/lang/Math" ∈ wsX2_excessOf := by decide +kernel
theorem lk_X2_excessOf_ml114 : Cond.methodLink RX2 114 Lib.MathLoose.max_long.x ∈ wsX2_excessOf := by decide +kernel
theorem lk_X2_excessOf_ms114 : Cond.static Lib.MathLoose.max_long.x ∈ wsX2_excessOf := by decide +kernel
theorem ni_X2_excessOf_X1 : ∀ w ∈ wsX10, w ∈ wsX2_excessOf := by decide +kernel
noncomputable def fn_X2_excessOf_4 : Nat → sc_M → Int64 → Int32 → Option (Int64 × sc_M)
  | 0, _, _, _ => none
  | n + 1, S, x1, x3 =>
    if (sc_gi S 4) ≤ x3 then
      some (x1, S)
    else
      sc_cl (fn_X1_isElected S x3) (fun r14 S14 => if r14 = 0 then
        fn_X2_excessOf_4 n S14 x1 (x3 + 1)
      else
        sc_ck ((sc_gi S14 6) + x3) 864 (sc_cl (fn_X1_quota S14) (fun r34 S34 => sc_sq ((x1 + (if ((sc_gb S14 19 ((sc_gi S14 6) + x3).toNatClampNeg) - r34) < (0 : Int64) then (0 : Int64) else ((sc_gb S14 19 ((sc_gi S14 6) + x3).toNatClampNeg) - r34)))) (fun y42 => fn_X2_excessOf_4 n S34 y42 (x3 + 1)))))
noncomputable def fn_X2_excessOf (S : sc_M) : Option (Int64 × sc_M) :=
  fn_X2_excessOf_4 sc_FU S (0 : Int64) (0 : Int32)
section
variable {p : Program} {l : Launch} {e : Env} {s : State} {m : MethodId} {args : Array Value} {below : List Frame} {meth : Method} {c : Code} {Q : State → Prop} {dC : Nat → ClassId} {dI : Nat → Nat → Nat} {h : Nat → Nat} {cy : Nat → ClassId}
set_option maxHeartbeats 4000000 in
set_option maxRecDepth 100000 in
theorem wk_X2_excessOf_4 (C0 : CallFix p m c cX2_excessOf 4 s args wsX2_excessOf RX2) {S' : sc_M} {r : Int64} (hR : sc_Rl p l e rm_X2_excessOf s m args below meth c Q cX2_excessOf (sc_EX dC dI h cy) S' r) : ∀ n : Nat, ∀ (S : sc_M) (x1 : Int64) (x3 : Int32) (H : Heap) (locs : List Loc) (ls : Array Slot), fn_X2_excessOf_4 n S x1 x3 = some (r, S') → sc_W (sc_EX dC dI h cy) s H locs S → lv_has ls 4 [(0, .ref (h 2)), (1, .long x1), (3, .int x3)] → W p l e rm_X2_excessOf s m args below meth c H locs 0 0 Q (F0 m 4 ls []) := by
  obtain ⟨hx, hb, hml, hown, hts⟩ := id C0
  intro n
  induction n with
  | zero => intro S x1 x3 H locs ls; intro hf; cases hf
  | succ n ih =>
    intro S x1 x3 H locs ls hf hW hl
    rw [fn_X2_excessOf_4] at hf
    refine lv_iload_n hx hb dX2_excessOf_4 rfl (lv_at hl 2 rfl) ?_
    refine lv_aload_n hx hb dX2_excessOf_5 rfl (lv_at hl 0 rfl) ?_
    refine sc_getX1 C0 hW ni_X2_excessOf_X1 2 (Nat.le_of_ble_eq_true rfl) lk_X2_excessOf_62 (v := .int (sc_gi S 4)) rfl dX2_excessOf_6 ?_
    refine lv_icmp_ge (tgt := 49) hx hb dX2_excessOf_9 (by decide) (fun hc => ?_) (fun hc => ?_)
    · replace hf := sc_ip hc hf
      refine lv_lload_n hx hb dX2_excessOf_49 rfl (lv_at hl 1 rfl) ?_
      exact sc_retl hR hf hW dX2_excessOf_50
    · replace hf := sc_in hc hf
      refine lv_aload_n hx hb dX2_excessOf_12 rfl (lv_at hl 0 rfl) ?_
      refine lv_iload_n hx hb dX2_excessOf_13 rfl (lv_at hl 2 rfl) ?_
      obtain ⟨r14, S14, hc, hf⟩ := sc_cl_s hf
      refine sc_callVi (As := [.int x3]) (rest := []) (q0 := 2) (ci := 1) sc_okX C0 hW (ct_X1_isElected hc) (cwV 1 hts gX2_excessOf_X1_isElected rfl rfl rfl (by decide +kernel) ⟨Nat.le_of_ble_eq_true rfl, Nat.le_of_ble_eq_true rfl⟩) rfl rfl rfl rfl hl.1 rfl (Nat.le_of_ble_eq_true rfl) dX2_excessOf_14 (fun H locs hW => ?_)
      refine lv_if_eq (tgt := 43) hx hb dX2_excessOf_17 (by decide) (fun hc => ?_) (fun hc => ?_)
      · replace hf := sc_ip hc hf
        refine lv_iinc (v := (x3 + 1)) (lv' := [(3, .int (x3 + 1)), (0, .ref (h 2)), (1, .long x1)]) hx hb dX2_excessOf_43 hl (k := 2) rfl rfl (by decide) rfl (fun ls hl => ?_)
        refine lv_goto (tgt := 4) hx hb dX2_excessOf_46 (by decide) ?_
        exact ih _ _ _ _ _ _ hf hW (lv_sub hl [1, 2, 0] rfl)
      · replace hf := sc_in hc hf
        refine lv_lload_n hx hb dX2_excessOf_20 rfl (lv_at hl 1 rfl) ?_
        refine lv_lconst (v := (0 : Int64)) hx hb dX2_excessOf_21 (by decide) ?_
        refine lv_aload_n hx hb dX2_excessOf_22 rfl (lv_at hl 0 rfl) ?_
        refine sc_getX1 C0 hW ni_X2_excessOf_X1 15 (Nat.le_of_ble_eq_true rfl) lk_X2_excessOf_65 (v := .ref (h 19)) rfl dX2_excessOf_23 ?_
        refine lv_aload_n hx hb dX2_excessOf_26 rfl (lv_at hl 0 rfl) ?_
        refine sc_getX1 C0 hW ni_X2_excessOf_X1 4 (Nat.le_of_ble_eq_true rfl) lk_X2_excessOf_51 (v := .int (sc_gi S14 6)) rfl dX2_excessOf_27 ?_
        refine lv_iload_n hx hb dX2_excessOf_30 rfl (lv_at hl 2 rfl) ?_
        refine lv_iadd hx hb dX2_excessOf_31 ?_
        obtain ⟨hv, hf⟩ := sc_ck_s hf
        refine sc_ldX_19 C0 hW hv dX2_excessOf_32 ?_
        refine lv_aload_n hx hb dX2_excessOf_33 rfl (lv_at hl 0 rfl) ?_
        obtain ⟨r34, S34, hc, hf⟩ := sc_cl_s hf
        refine sc_callVl (As := []) (rest := [.long (sc_gb S14 19 ((sc_gi S14 6) + x3).toNatClampNeg), .long (0 : Int64), .long x1]) (q0 := 2) (ci := 1) sc_okX C0 hW (ct_X1_quota hc) (cwV 0 hts gX2_excessOf_X1_quota rfl rfl rfl (by decide +kernel) ⟨Nat.le_of_ble_eq_true rfl, Nat.le_of_ble_eq_true rfl⟩) rfl rfl rfl rfl hl.1 rfl (Nat.le_of_ble_eq_true rfl) dX2_excessOf_34 (fun H locs hW => ?_)
        refine lv_lsub hx hb dX2_excessOf_37 ?_
        refine va_mmax_long (rest := [.long x1]) hx hb (hml.trans hl.1.symm) hown (hts _ lk_X2_excessOf_ml114) (hts _ lk_X2_excessOf_ms114) (hts _ lk_X2_excessOf_mi114) (hts _ lk_X2_excessOf_mc114) (Nat.le_of_ble_eq_true rfl) (Nat.le_of_ble_eq_true rfl) (Nat.zero_le _) (Nat.zero_le _) dX2_excessOf_38 ?_
        refine lv_ladd hx hb dX2_excessOf_41 ?_
        obtain ⟨y42, ey42, hf⟩ := sc_sq_s hf
        refine sc_topl ey42 ?_
        refine lv_lstore_n (lv' := [(1, .long y42), (0, .ref (h 2)), (3, .int x3)]) hx hb dX2_excessOf_42 rfl hl (by decide) rfl (fun ls hl => ?_)
        refine lv_iinc (v := (x3 + 1)) (lv' := [(3, .int (x3 + 1)), (1, .long y42), (0, .ref (h 2))]) hx hb dX2_excessOf_43 hl (k := 2) rfl rfl (by decide) rfl (fun ls hl => ?_)
        refine lv_goto (tgt := 4) hx hb dX2_excessOf_46 (by decide) ?_
        exact ih _ _ _ _ _ _ hf hW (lv_sub hl [2, 1, 0] rfl)
set_option maxHeartbeats 4000000 in
set_option maxRecDepth 100000 in
theorem wk_X2_excessOf_0 (C0 : CallFix p m c cX2_excessOf 4 s args wsX2_excessOf RX2) {S' : sc_M} {r : Int64} (hR : sc_Rl p l e rm_X2_excessOf s m args below meth c Q cX2_excessOf (sc_EX dC dI h cy) S' r) : ∀ (S : sc_M) (H : Heap) (locs : List Loc) (ls : Array Slot), fn_X2_excessOf S = some (r, S') → sc_W (sc_EX dC dI h cy) s H locs S → lv_has ls 4 [(0, .ref (h 2))] → W p l e rm_X2_excessOf s m args below meth c H locs 0 0 Q (F0 m 0 ls []) := by
  obtain ⟨hx, hb, hml, hown, hts⟩ := id C0
  intro S H locs ls hf hW hl
  rw [fn_X2_excessOf] at hf
  refine lv_lconst (v := (0 : Int64)) hx hb dX2_excessOf_0 (by decide) ?_
  refine lv_lstore_n (lv' := [(1, .long (0 : Int64)), (0, .ref (h 2))]) hx hb dX2_excessOf_1 rfl hl (by decide) rfl (fun ls hl => ?_)
  refine lv_iconst (v := (0 : Int32)) hx hb dX2_excessOf_2 (by decide) ?_
  refine lv_istore_n (lv' := [(3, .int (0 : Int32)), (1, .long (0 : Int64)), (0, .ref (h 2))]) hx hb dX2_excessOf_3 rfl hl (by decide) rfl (fun ls hl => ?_)
  exact wk_X2_excessOf_4 C0 hR  sc_FU _ _ _ _ _ _ hf hW (lv_sub hl [2, 1, 0] rfl)
set_option maxRecDepth 100000 in
theorem ct_X2_excessOf {S S' : sc_M} {r : Int64} (hf : fn_X2_excessOf S = some (r, S')) : sc_Cl l yX2_excessOf wsX2_excessOf rm_X2_excessOf (sc_EX dC dI h cy) [.ref (h 2)] S S' r := by
  refine sc_ofl (cc := cX2_excessOf) (maxL := 4) sc_okX (by decide) rfl (Nat.le_of_ble_eq_true rfl) ?_
  intro p e s m below meth c Q C0 hR hW ls hl
  exact wk_X2_excessOf_0 C0 hR _ _ _ _ hf hW hl
end

/-! ===== SeatCounts$KeepRule.mustPutOut(LSeatCounts$Journal;Z)Z ===== -/
abbrev rm_X2_mustPutOut : Room := { frames := 1, cells := 0, slots := 0, locals := 20 }
theorem lk_X2_mustPutOut_120 : Cond.constantLong RX2 120 (1000) ∈ wsX2_mustPutOut := by decide +kernel
theorem lk_X2_mustPutOut_25 : Cond.fieldLink RX2 25 "SeatCounts$Journal" "excesses" "[J" ∈ wsX2_mustPutOut := by decide +kernel
theorem lk_X2_mustPutOut_41 : Cond.fieldLink RX2 41 "SeatCounts$Journal" "kinds" "[I" ∈ wsX2_mustPutOut := by decide +kernel
theorem ni_X2_mustPutOut_X1 : ∀ w ∈ wsX10, w ∈ wsX2_mustPutOut := by decide +kernel
noncomputable def fn_X2_mustPutOut_60 (S : sc_M) (x3 : Int64) (z0 : Int32) : Option (Int32 × sc_M) :=
  if x3 < (1000 : Int64) then
    some ((1 : Int32), S)
  else
    if z0 = 0 then
      some ((0 : Int32), S)
    else
      some ((1 : Int32), S)
noncomputable def fn_X2_mustPutOut_59 (S : sc_M) (x3 : Int64) : Option (Int32 × sc_M) :=
  fn_X2_mustPutOut_60 S x3 (0 : Int32)
noncomputable def fn_X2_mustPutOut_e (S : sc_M) (x1 : Int32) : Option (Int32 × sc_M) :=
  sc_cl (fn_X1_now S) (fun r1 S1 => if r1 < (60 : Int32) then
    if x1 = 0 then
      sc_ck r1 72 (sc_sq ((sc_gb S1 18 r1.toNatClampNeg)) (fun y25 => if r1 ≤ 0 then
        fn_X2_mustPutOut_59 S1 y25
      else
        sc_ck (r1 - (1 : Int32)) 72 (if (sc_ga S1 12 (r1 - (1 : Int32)).toNatClampNeg) = (3 : Int32) then
          sc_ck (r1 - (1 : Int32)) 72 (if y25 < (sc_gb S1 18 (r1 - (1 : Int32)).toNatClampNeg) then
            fn_X2_mustPutOut_59 S1 y25
          else
            fn_X2_mustPutOut_60 S1 y25 (1 : Int32))
        else
          fn_X2_mustPutOut_59 S1 y25)))
    else
      some ((0 : Int32), S1)
  else
    some ((1 : Int32), S1))
noncomputable def fn_X2_mustPutOut (S : sc_M) (x1 : Int32) : Option (Int32 × sc_M) := sc_bz (fn_X2_mustPutOut_e S x1)
section
variable {p : Program} {l : Launch} {e : Env} {s : State} {m : MethodId} {args : Array Value} {below : List Frame} {meth : Method} {c : Code} {Q : State → Prop} {dC : Nat → ClassId} {dI : Nat → Nat → Nat} {h : Nat → Nat} {cy : Nat → ClassId}
set_option maxHeartbeats 4000000 in
set_option maxRecDepth 100000 in
theorem wk_X2_mustPutOut_60 (C0 : CallFix p m c cX2_mustPutOut 6 s args wsX2_mustPutOut RX2) {S' : sc_M} {r : Int32} (hR : sc_Ri p l e rm_X2_mustPutOut s m args below meth c Q cX2_mustPutOut (sc_EX dC dI h cy) S' r) : ∀ (S : sc_M) (x3 : Int64) (z0 : Int32) (H : Heap) (locs : List Loc) (ls : Array Slot), fn_X2_mustPutOut_60 S x3 z0 = some (r, S') → sc_W (sc_EX dC dI h cy) s H locs S → lv_has ls 6 [(3, .long x3)] → W p l e rm_X2_mustPutOut s m args below meth c H locs 0 0 Q (F0 m 60 ls [.int z0]) := by
  obtain ⟨hx, hb, hml, hown, hts⟩ := id C0
  intro S x3 z0 H locs ls hf hW hl
  rw [fn_X2_mustPutOut_60] at hf
  refine lv_istore (lv' := [(5, .int z0), (3, .long x3)]) hx hb dX2_mustPutOut_60 hl (by decide) rfl (fun ls hl => ?_)
  refine lv_lload_n hx hb dX2_mustPutOut_62 rfl (lv_at hl 1 rfl) ?_
  refine lv_ldc2 (v := (1000 : Int64)) hx hb hown (hts _ lk_X2_mustPutOut_120) dX2_mustPutOut_63 ?_
  refine sc_l_lt (tgt := 75) C0 dX2_mustPutOut_66 dX2_mustPutOut_67 (by decide) (fun hc => ?_) (fun hc => ?_)
  · replace hf := sc_ip hc hf
    refine lv_iconst (v := (1 : Int32)) hx hb dX2_mustPutOut_75 (by decide) ?_
    refine lv_goto (tgt := 80) hx hb dX2_mustPutOut_76 (by decide) ?_
    exact sc_reti hR hf hW dX2_mustPutOut_80
  · replace hf := sc_in hc hf
    refine lv_iload hx hb dX2_mustPutOut_70 (lv_at hl 0 rfl) ?_
    refine lv_if_eq (tgt := 79) hx hb dX2_mustPutOut_72 (by decide) (fun hc => ?_) (fun hc => ?_)
    · replace hf := sc_ip hc hf
      refine lv_iconst (v := (0 : Int32)) hx hb dX2_mustPutOut_79 (by decide) ?_
      exact sc_reti hR hf hW dX2_mustPutOut_80
    · replace hf := sc_in hc hf
      refine lv_iconst (v := (1 : Int32)) hx hb dX2_mustPutOut_75 (by decide) ?_
      refine lv_goto (tgt := 80) hx hb dX2_mustPutOut_76 (by decide) ?_
      exact sc_reti hR hf hW dX2_mustPutOut_80
set_option maxHeartbeats 4000000 in
set_option maxRecDepth 100000 in
theorem wk_X2_mustPutOut_59 (C0 : CallFix p m c cX2_mustPutOut 6 s args wsX2_mustPutOut RX2) {S' : sc_M} {r : Int32} (hR : sc_Ri p l e rm_X2_mustPutOut s m args below meth c Q cX2_mustPutOut (sc_EX dC dI h cy) S' r) : ∀ (S : sc_M) (x3 : Int64) (H : Heap) (locs : List Loc) (ls : Array Slot), fn_X2_mustPutOut_59 S x3 = some (r, S') → sc_W (sc_EX dC dI h cy) s H locs S → lv_has ls 6 [(3, .long x3)] → W p l e rm_X2_mustPutOut s m args below meth c H locs 0 0 Q (F0 m 59 ls []) := by
  obtain ⟨hx, hb, hml, hown, hts⟩ := id C0
  intro S x3 H locs ls hf hW hl
  rw [fn_X2_mustPutOut_59] at hf
  refine lv_iconst (v := (0 : Int32)) hx hb dX2_mustPutOut_59 (by decide) ?_
  exact wk_X2_mustPutOut_60 C0 hR  _ _ _ _ _ _ hf hW (lv_sub hl [0] rfl)
set_option maxHeartbeats 4000000 in
set_option maxRecDepth 100000 in
theorem wk_X2_mustPutOut_0 (C0 : CallFix p m c cX2_mustPutOut 6 s args wsX2_mustPutOut RX2) {S' : sc_M} {r : Int32} (hR : sc_Ri p l e rm_X2_mustPutOut s m args below meth c Q cX2_mustPutOut (sc_EX dC dI h cy) S' r) : ∀ (S : sc_M) (x1 : Int32) (H : Heap) (locs : List Loc) (ls : Array Slot), fn_X2_mustPutOut_e S x1 = some (r, S') → sc_W (sc_EX dC dI h cy) s H locs S → lv_has ls 6 [(0, .ref (h 2)), (1, .int x1)] → W p l e rm_X2_mustPutOut s m args below meth c H locs 0 0 Q (F0 m 0 ls []) := by
  obtain ⟨hx, hb, hml, hown, hts⟩ := id C0
  intro S x1 H locs ls hf hW hl
  rw [fn_X2_mustPutOut_e] at hf
  refine lv_aload_n hx hb dX2_mustPutOut_0 rfl (lv_at hl 0 rfl) ?_
  obtain ⟨r1, S1, hc, hf⟩ := sc_cl_s hf
  refine sc_callVi (As := []) (rest := []) (q0 := 2) (ci := 1) sc_okX C0 hW (ct_X1_now hc) (cwV 0 hts gX2_mustPutOut_X1_now rfl rfl rfl (by decide +kernel) ⟨Nat.le_of_ble_eq_true rfl, Nat.le_of_ble_eq_true rfl⟩) rfl rfl rfl rfl hl.1 rfl (Nat.le_of_ble_eq_true rfl) dX2_mustPutOut_1 (fun H locs hW => ?_)
  refine lv_istore_n (lv' := [(2, .int r1), (0, .ref (h 2)), (1, .int x1)]) hx hb dX2_mustPutOut_4 rfl hl (by decide) rfl (fun ls hl => ?_)
  refine lv_iload_n hx hb dX2_mustPutOut_5 rfl (lv_at hl 0 rfl) ?_
  refine lv_bipush (v := (60 : Int32)) hx hb dX2_mustPutOut_6 (by decide) ?_
  refine lv_icmp_lt (tgt := 13) hx hb dX2_mustPutOut_8 (by decide) (fun hc => ?_) (fun hc => ?_)
  · replace hf := sc_ip hc hf
    refine lv_iload_n hx hb dX2_mustPutOut_13 rfl (lv_at hl 2 rfl) ?_
    refine lv_if_eq (tgt := 19) hx hb dX2_mustPutOut_14 (by decide) (fun hc => ?_) (fun hc => ?_)
    · replace hf := sc_ip hc hf
      refine lv_aload_n hx hb dX2_mustPutOut_19 rfl (lv_at hl 1 rfl) ?_
      refine sc_getX1 C0 hW ni_X2_mustPutOut_X1 14 (Nat.le_of_ble_eq_true rfl) lk_X2_mustPutOut_25 (v := .ref (h 18)) rfl dX2_mustPutOut_20 ?_
      refine lv_iload_n hx hb dX2_mustPutOut_23 rfl (lv_at hl 0 rfl) ?_
      obtain ⟨hv, hf⟩ := sc_ck_s hf
      refine sc_ldX_18 C0 hW hv dX2_mustPutOut_24 ?_
      obtain ⟨y25, ey25, hf⟩ := sc_sq_s hf
      refine sc_topl ey25 ?_
      refine lv_lstore_n (lv' := [(3, .long y25), (2, .int r1), (0, .ref (h 2)), (1, .int x1)]) hx hb dX2_mustPutOut_25 rfl hl (by decide) rfl (fun ls hl => ?_)
      refine lv_iload_n hx hb dX2_mustPutOut_26 rfl (lv_at hl 1 rfl) ?_
      refine lv_if_le (tgt := 59) hx hb dX2_mustPutOut_27 (by decide) (fun hc => ?_) (fun hc => ?_)
      · replace hf := sc_ip hc hf
        exact wk_X2_mustPutOut_59 C0 hR  _ _ _ _ _ hf hW (lv_sub hl [0] rfl)
      · replace hf := sc_in hc hf
        refine lv_aload_n hx hb dX2_mustPutOut_30 rfl (lv_at hl 2 rfl) ?_
        refine sc_getX1 C0 hW ni_X2_mustPutOut_X1 8 (Nat.le_of_ble_eq_true rfl) lk_X2_mustPutOut_41 (v := .ref (h 12)) rfl dX2_mustPutOut_31 ?_
        refine lv_iload_n hx hb dX2_mustPutOut_34 rfl (lv_at hl 1 rfl) ?_
        refine lv_iconst (v := (1 : Int32)) hx hb dX2_mustPutOut_35 (by decide) ?_
        refine lv_isub hx hb dX2_mustPutOut_36 ?_
        obtain ⟨hv, hf⟩ := sc_ck_s hf
        refine sc_ldX_12 C0 hW hv dX2_mustPutOut_37 ?_
        refine lv_iconst (v := (3 : Int32)) hx hb dX2_mustPutOut_38 (by decide) ?_
        refine lv_icmp_ne (tgt := 59) hx hb dX2_mustPutOut_39 (by decide) (fun hc => ?_) (fun hc => ?_)
        · replace hf := sc_in hc hf
          exact wk_X2_mustPutOut_59 C0 hR  _ _ _ _ _ hf hW (lv_sub hl [0] rfl)
        · replace hf := sc_ip hc hf
          refine lv_lload_n hx hb dX2_mustPutOut_42 rfl (lv_at hl 0 rfl) ?_
          refine lv_aload_n hx hb dX2_mustPutOut_43 rfl (lv_at hl 2 rfl) ?_
          refine sc_getX1 C0 hW ni_X2_mustPutOut_X1 14 (Nat.le_of_ble_eq_true rfl) lk_X2_mustPutOut_25 (v := .ref (h 18)) rfl dX2_mustPutOut_44 ?_
          refine lv_iload_n hx hb dX2_mustPutOut_47 rfl (lv_at hl 1 rfl) ?_
          refine lv_iconst (v := (1 : Int32)) hx hb dX2_mustPutOut_48 (by decide) ?_
          refine lv_isub hx hb dX2_mustPutOut_49 ?_
          obtain ⟨hv, hf⟩ := sc_ck_s hf
          refine sc_ldX_18 C0 hW hv dX2_mustPutOut_50 ?_
          refine sc_l_lt (tgt := 59) C0 dX2_mustPutOut_51 dX2_mustPutOut_52 (by decide) (fun hc => ?_) (fun hc => ?_)
          · replace hf := sc_ip hc hf
            exact wk_X2_mustPutOut_59 C0 hR  _ _ _ _ _ hf hW (lv_sub hl [0] rfl)
          · replace hf := sc_in hc hf
            refine lv_iconst (v := (1 : Int32)) hx hb dX2_mustPutOut_55 (by decide) ?_
            refine lv_goto (tgt := 60) hx hb dX2_mustPutOut_56 (by decide) ?_
            exact wk_X2_mustPutOut_60 C0 hR  _ _ _ _ _ _ hf hW (lv_sub hl [0] rfl)
    · replace hf := sc_in hc hf
      refine lv_iconst (v := (0 : Int32)) hx hb dX2_mustPutOut_17 (by decide) ?_
      exact sc_reti hR hf hW dX2_mustPutOut_18
  · replace hf := sc_in hc hf
    refine lv_iconst (v := (1 : Int32)) hx hb dX2_mustPutOut_11 (by decide) ?_
    exact sc_reti hR hf hW dX2_mustPutOut_12
set_option maxRecDepth 100000 in
theorem ct_X2_mustPutOut {S S' : sc_M} {r : Int32} {x1 : Int32} (hf : fn_X2_mustPutOut S x1 = some (r, S')) : sc_Ci l yX2_mustPutOut wsX2_mustPutOut rm_X2_mustPutOut (sc_EX dC dI h cy) [.ref (h 2), .int x1] S S' r := by
  obtain ⟨hf, h01⟩ := sc_bz_s hf
  refine sc_ofi (cc := cX2_mustPutOut) (maxL := 6) .boolean (sc_nar01 h01) sc_okX (by decide) rfl (Nat.le_of_ble_eq_true rfl) ?_
  intro p e s m below meth c Q C0 hR hW ls hl
  exact wk_X2_mustPutOut_0 C0 hR _ _ _ _ _ hf hW hl
end

/-! ===== SeatCounts$KeepRule.keepFor(JJJ)I ===== -/
abbrev rm_X2_keepFor : Room := { frames := 1, cells := 0, slots := 0, locals := 23 }
theorem lk_X2_keepFor_126 : Cond.constant RX2 126 (1000000) ∈ wsX2_keepFor := by decide +kernel
theorem lk_X2_keepFor_96 : Cond.constantLong RX2 96 (1000000) ∈ wsX2_keepFor := by decide +kernel
theorem lk_X2_keepFor_mc127 : Cond.code Lib.MathLoose.min_long.x Lib.MathLoose.min_long.code 4 (some .long) ∈ wsX2_keepFor := by decide +kernel
theorem lk_X2_keepFor_mi127 : Cond.initialized "java/lang/Math" ∈ wsX2_keepFor := by decide +kernel
theorem lk_X2_keepFor_ml127 : Cond.methodLink RX2 127 Lib.MathLoose.min_long.x ∈ wsX2_keepFor := by decide +kernel
theorem lk_X2_keepFor_ms127 : Cond.static Lib.MathLoose.min_long.x ∈ wsX2_keepFor := by decide +kernel
noncomputable def fn_X2_keepFor (S : sc_M) (x0 : Int64) (x2 : Int64) (x4 : Int64) : Option (Int32 × sc_M) :=
  if (0 : Int64) < x4 then
    sc_nl x4 (some ((if (((x0 * x2) / x4) + (1 : Int64)) < (1000000 : Int64) then (((x0 * x2) / x4) + (1 : Int64)) else (1000000 : Int64)).toInt32, S))
  else
    some ((1000000 : Int32), S)
section
variable {p : Program} {l : Launch} {e : Env} {s : State} {m : MethodId} {args : Array Value} {below : List Frame} {meth : Method} {c : Code} {Q : State → Prop} {dC : Nat → ClassId} {dI : Nat → Nat → Nat} {h : Nat → Nat} {cy : Nat → ClassId}
set_option maxHeartbeats 4000000 in
set_option maxRecDepth 100000 in
theorem wk_X2_keepFor_0 (C0 : CallFix p m c cX2_keepFor 6 s args wsX2_keepFor RX2) {S' : sc_M} {r : Int32} (hR : sc_Ri p l e rm_X2_keepFor s m args below meth c Q cX2_keepFor (sc_EX dC dI h cy) S' r) : ∀ (S : sc_M) (x0 : Int64) (x2 : Int64) (x4 : Int64) (H : Heap) (locs : List Loc) (ls : Array Slot), fn_X2_keepFor S x0 x2 x4 = some (r, S') → sc_W (sc_EX dC dI h cy) s H locs S → lv_has ls 6 [(0, .long x0), (2, .long x2), (4, .long x4)] → W p l e rm_X2_keepFor s m args below meth c H locs 0 0 Q (F0 m 0 ls []) := by
  obtain ⟨hx, hb, hml, hown, hts⟩ := id C0
  intro S x0 x2 x4 H locs ls hf hW hl
  rw [fn_X2_keepFor] at hf
  refine lv_lload hx hb dX2_keepFor_0 (lv_at hl 2 rfl) ?_
  refine lv_lconst (v := (0 : Int64)) hx hb dX2_keepFor_2 (by decide) ?_
  refine sc_l_gt (tgt := 10) C0 dX2_keepFor_3 dX2_keepFor_4 (by decide) (fun hc => ?_) (fun hc => ?_)
  · replace hf := sc_ip hc hf
    refine lv_ldc2 (v := (1000000 : Int64)) hx hb hown (hts _ lk_X2_keepFor_96) dX2_keepFor_10 ?_
    refine lv_lload_n hx hb dX2_keepFor_13 rfl (lv_at hl 0 rfl) ?_
    refine lv_lload_n hx hb dX2_keepFor_14 rfl (lv_at hl 1 rfl) ?_
    refine lv_lmul hx hb dX2_keepFor_15 ?_
    refine lv_lload hx hb dX2_keepFor_16 (lv_at hl 2 rfl) ?_
    obtain ⟨hz, hf⟩ := sc_nl_s hf
    refine lv_ldiv hx hb dX2_keepFor_18 hz ?_
    refine lv_lconst (v := (1 : Int64)) hx hb dX2_keepFor_19 (by decide) ?_
    refine lv_ladd hx hb dX2_keepFor_20 ?_
    refine va_mmin_long (rest := []) hx hb (hml.trans hl.1.symm) hown (hts _ lk_X2_keepFor_ml127) (hts _ lk_X2_keepFor_ms127) (hts _ lk_X2_keepFor_mi127) (hts _ lk_X2_keepFor_mc127) (Nat.le_of_ble_eq_true rfl) (Nat.le_of_ble_eq_true rfl) (Nat.zero_le _) (Nat.zero_le _) dX2_keepFor_21 ?_
    refine lv_l2i hx hb dX2_keepFor_24 rfl ?_
    exact sc_reti hR hf hW dX2_keepFor_25
  · replace hf := sc_in hc hf
    refine lv_ldc (v := (1000000 : Int32)) hx hb hown (hts _ lk_X2_keepFor_126) dX2_keepFor_7 ?_
    exact sc_reti hR hf hW dX2_keepFor_9
set_option maxRecDepth 100000 in
theorem ct_X2_keepFor {S S' : sc_M} {r : Int32} {x0 : Int64} {x2 : Int64} {x4 : Int64} (hf : fn_X2_keepFor S x0 x2 x4 = some (r, S')) : sc_Ci l yX2_keepFor wsX2_keepFor rm_X2_keepFor (sc_EX dC dI h cy) [.long x0, .long x2, .long x4] S S' r := by
  refine sc_ofi (cc := cX2_keepFor) (maxL := 6) .int rfl sc_okX (by decide) rfl (Nat.le_of_ble_eq_true rfl) ?_
  intro p e s m below meth c Q C0 hR hW ls hl
  exact wk_X2_keepFor_0 C0 hR _ _ _ _ _ _ _ hf hW hl
end

/-! ===== SeatCounts$KeepRule.changeKeeps(LSeatCounts$Journal;I)V ===== -/
abbrev rm_X2_changeKeeps : Room := { frames := 2, cells := 0, slots := 0, locals := 48 }
theorem lk_X2_changeKeeps_104 : Cond.fieldLink RX2 104 "SeatCounts$Journal" "keeps" "[I" ∈ wsX2_changeKeeps := by decide +kernel
theorem lk_X2_changeKeeps_51 : Cond.fieldLink RX2 51 "SeatCounts$Journal" "row" "I" ∈ wsX2_changeKeeps := by decide +kernel
theorem lk_X2_changeKeeps_62 : Cond.fieldLink RX2 62 "SeatCounts$Journal" "candidates" "I" ∈ wsX2_changeKeeps := by decide +kernel
theorem lk_X2_changeKeeps_65 : Cond.fieldLink RX2 65 "SeatCounts$Journal" "votes" "[J" ∈ wsX2_changeKeeps := by decide +kernel
theorem ni_X2_changeKeeps_X1 : ∀ w ∈ wsX10, w ∈ wsX2_changeKeeps := by decide +kernel
noncomputable def fn_X2_changeKeeps_21 : Nat → sc_M → Int32 → Option (sc_M)
  | 0, _, _ => none
  | n + 1, S, x2 =>
    if (sc_gi S 4) ≤ x2 then
      some S
    else
      sc_cl (fn_X1_isElected S x2) (fun r31 S31 => if r31 = 0 then
        fn_X2_changeKeeps_21 n S31 (x2 + 1)
      else
        sc_sq (((sc_gi S31 6) + x2)) (fun y43 => sc_ck y43 864 (sc_cl (fn_X1_quota S31) (fun r57 S57 => sc_ck y43 864 (sc_cl (fn_X2_keepFor S57 ((sc_ga S31 21 y43.toNatClampNeg).toInt64) r57 (sc_gb S57 19 y43.toNatClampNeg)) (fun r66 S66 => sc_ck y43 864 (sc_sq (sc_mA S66 21 (upd (sc_ga S66 21) y43.toNatClampNeg r66)) (fun S69 => fn_X2_changeKeeps_21 n S69 (x2 + 1)))))))))
noncomputable def fn_X2_changeKeeps (S : sc_M) (x1 : Int32) : Option (sc_M) :=
  if x1 = (-9 : Int32) then
    fn_X2_changeKeeps_21 sc_FU S (0 : Int32)
  else
    sc_ck ((sc_gi S 6) + x1) 864 (sc_sq (sc_mA S 21 (upd (sc_ga S 21) ((sc_gi S 6) + x1).toNatClampNeg (0 : Int32))) (fun S17 => some S17))
section
variable {p : Program} {l : Launch} {e : Env} {s : State} {m : MethodId} {args : Array Value} {below : List Frame} {meth : Method} {c : Code} {Q : State → Prop} {dC : Nat → ClassId} {dI : Nat → Nat → Nat} {h : Nat → Nat} {cy : Nat → ClassId}
set_option maxHeartbeats 4000000 in
set_option maxRecDepth 100000 in
theorem wk_X2_changeKeeps_21 (C0 : CallFix p m c cX2_changeKeeps 4 s args wsX2_changeKeeps RX2) {S' : sc_M} (hR : sc_Rv p l e rm_X2_changeKeeps s m args below meth c Q cX2_changeKeeps (sc_EX dC dI h cy) S') : ∀ n : Nat, ∀ (S : sc_M) (x2 : Int32) (H : Heap) (locs : List Loc) (ls : Array Slot), fn_X2_changeKeeps_21 n S x2 = some S' → sc_W (sc_EX dC dI h cy) s H locs S → lv_has ls 4 [(0, .ref (h 2)), (2, .int x2)] → W p l e rm_X2_changeKeeps s m args below meth c H locs 0 0 Q (F0 m 21 ls []) := by
  obtain ⟨hx, hb, hml, hown, hts⟩ := id C0
  intro n
  induction n with
  | zero => intro S x2 H locs ls; intro hf; cases hf
  | succ n ih =>
    intro S x2 H locs ls hf hW hl
    rw [fn_X2_changeKeeps_21] at hf
    refine lv_iload_n hx hb dX2_changeKeeps_21 rfl (lv_at hl 1 rfl) ?_
    refine lv_aload_n hx hb dX2_changeKeeps_22 rfl (lv_at hl 0 rfl) ?_
    refine sc_getX1 C0 hW ni_X2_changeKeeps_X1 2 (Nat.le_of_ble_eq_true rfl) lk_X2_changeKeeps_62 (v := .int (sc_gi S 4)) rfl dX2_changeKeeps_23 ?_
    refine lv_icmp_ge (tgt := 76) hx hb dX2_changeKeeps_26 (by decide) (fun hc => ?_) (fun hc => ?_)
    · replace hf := sc_ip hc hf
      exact sc_retv hR hf hW dX2_changeKeeps_76
    · replace hf := sc_in hc hf
      refine lv_aload_n hx hb dX2_changeKeeps_29 rfl (lv_at hl 0 rfl) ?_
      refine lv_iload_n hx hb dX2_changeKeeps_30 rfl (lv_at hl 1 rfl) ?_
      obtain ⟨r31, S31, hc, hf⟩ := sc_cl_s hf
      refine sc_callVi (As := [.int x2]) (rest := []) (q0 := 2) (ci := 1) sc_okX C0 hW (ct_X1_isElected hc) (cwV 1 hts gX2_changeKeeps_X1_isElected rfl rfl rfl (by decide +kernel) ⟨Nat.le_of_ble_eq_true rfl, Nat.le_of_ble_eq_true rfl⟩) rfl rfl rfl rfl hl.1 rfl (Nat.le_of_ble_eq_true rfl) dX2_changeKeeps_31 (fun H locs hW => ?_)
      refine lv_if_eq (tgt := 70) hx hb dX2_changeKeeps_34 (by decide) (fun hc => ?_) (fun hc => ?_)
      · replace hf := sc_ip hc hf
        refine lv_iinc (v := (x2 + 1)) (lv' := [(2, .int (x2 + 1)), (0, .ref (h 2))]) hx hb dX2_changeKeeps_70 hl (k := 1) rfl rfl (by decide) rfl (fun ls hl => ?_)
        refine lv_goto (tgt := 21) hx hb dX2_changeKeeps_73 (by decide) ?_
        exact ih _ _ _ _ _ hf hW (lv_sub hl [1, 0] rfl)
      · replace hf := sc_in hc hf
        refine lv_aload_n hx hb dX2_changeKeeps_37 rfl (lv_at hl 0 rfl) ?_
        refine sc_getX1 C0 hW ni_X2_changeKeeps_X1 4 (Nat.le_of_ble_eq_true rfl) lk_X2_changeKeeps_51 (v := .int (sc_gi S31 6)) rfl dX2_changeKeeps_38 ?_
        refine lv_iload_n hx hb dX2_changeKeeps_41 rfl (lv_at hl 1 rfl) ?_
        refine lv_iadd hx hb dX2_changeKeeps_42 ?_
        obtain ⟨y43, ey43, hf⟩ := sc_sq_s hf
        refine sc_topi ey43 ?_
        refine lv_istore_n (lv' := [(3, .int y43), (0, .ref (h 2)), (2, .int x2)]) hx hb dX2_changeKeeps_43 rfl hl (by decide) rfl (fun ls hl => ?_)
        refine lv_aload_n hx hb dX2_changeKeeps_44 rfl (lv_at hl 1 rfl) ?_
        refine sc_getX1 C0 hW ni_X2_changeKeeps_X1 17 (Nat.le_of_ble_eq_true rfl) lk_X2_changeKeeps_104 (v := .ref (h 21)) rfl dX2_changeKeeps_45 ?_
        refine lv_iload_n hx hb dX2_changeKeeps_48 rfl (lv_at hl 0 rfl) ?_
        refine lv_aload_n hx hb dX2_changeKeeps_49 rfl (lv_at hl 1 rfl) ?_
        refine sc_getX1 C0 hW ni_X2_changeKeeps_X1 17 (Nat.le_of_ble_eq_true rfl) lk_X2_changeKeeps_104 (v := .ref (h 21)) rfl dX2_changeKeeps_50 ?_
        refine lv_iload_n hx hb dX2_changeKeeps_53 rfl (lv_at hl 0 rfl) ?_
        obtain ⟨hv, hf⟩ := sc_ck_s hf
        refine sc_ldX_21 C0 hW hv dX2_changeKeeps_54 ?_
        refine lv_i2l hx hb dX2_changeKeeps_55 rfl ?_
        refine lv_aload_n hx hb dX2_changeKeeps_56 rfl (lv_at hl 1 rfl) ?_
        obtain ⟨r57, S57, hc, hf⟩ := sc_cl_s hf
        refine sc_callVl (As := []) (rest := [.long (sc_ga S31 21 y43.toNatClampNeg).toInt64, .int y43, .ref (h 21)]) (q0 := 2) (ci := 1) sc_okX C0 hW (ct_X1_quota hc) (cwV 0 hts gX2_changeKeeps_X1_quota rfl rfl rfl (by decide +kernel) ⟨Nat.le_of_ble_eq_true rfl, Nat.le_of_ble_eq_true rfl⟩) rfl rfl rfl rfl hl.1 rfl (Nat.le_of_ble_eq_true rfl) dX2_changeKeeps_57 (fun H locs hW => ?_)
        refine lv_aload_n hx hb dX2_changeKeeps_60 rfl (lv_at hl 1 rfl) ?_
        refine sc_getX1 C0 hW ni_X2_changeKeeps_X1 15 (Nat.le_of_ble_eq_true rfl) lk_X2_changeKeeps_65 (v := .ref (h 19)) rfl dX2_changeKeeps_61 ?_
        refine lv_iload_n hx hb dX2_changeKeeps_64 rfl (lv_at hl 0 rfl) ?_
        obtain ⟨hv, hf⟩ := sc_ck_s hf
        refine sc_ldX_19 C0 hW hv dX2_changeKeeps_65 ?_
        obtain ⟨r66, S66, hc, hf⟩ := sc_cl_s hf
        refine sc_callSi (As := [.long (sc_ga S31 21 y43.toNatClampNeg).toInt64, .long r57, .long (sc_gb S57 19 y43.toNatClampNeg)]) (rest := [.int y43, .ref (h 21)]) sc_okX C0 hW (ct_X2_keepFor hc) (va_cwS 3 hts gX2_changeKeeps_X2_keepFor rfl rfl rfl (by decide +kernel) ⟨Nat.le_of_ble_eq_true rfl, Nat.le_of_ble_eq_true rfl⟩) rfl hl.1 rfl (Nat.le_of_ble_eq_true rfl) dX2_changeKeeps_66 (fun H locs hW => ?_)
        obtain ⟨hv, hf⟩ := sc_ck_s hf
        obtain ⟨S69, eS69, hf⟩ := sc_sq_s hf
        refine sc_stX_21 C0 hW hv eS69 dX2_changeKeeps_69 (fun H locs hW => ?_)
        refine lv_iinc (v := (x2 + 1)) (lv' := [(2, .int (x2 + 1)), (3, .int y43), (0, .ref (h 2))]) hx hb dX2_changeKeeps_70 hl (k := 2) rfl rfl (by decide) rfl (fun ls hl => ?_)
        refine lv_goto (tgt := 21) hx hb dX2_changeKeeps_73 (by decide) ?_
        exact ih _ _ _ _ _ hf hW (lv_sub hl [2, 0] rfl)
set_option maxHeartbeats 4000000 in
set_option maxRecDepth 100000 in
theorem wk_X2_changeKeeps_0 (C0 : CallFix p m c cX2_changeKeeps 4 s args wsX2_changeKeeps RX2) {S' : sc_M} (hR : sc_Rv p l e rm_X2_changeKeeps s m args below meth c Q cX2_changeKeeps (sc_EX dC dI h cy) S') : ∀ (S : sc_M) (x1 : Int32) (H : Heap) (locs : List Loc) (ls : Array Slot), fn_X2_changeKeeps S x1 = some S' → sc_W (sc_EX dC dI h cy) s H locs S → lv_has ls 4 [(0, .ref (h 2)), (1, .int x1)] → W p l e rm_X2_changeKeeps s m args below meth c H locs 0 0 Q (F0 m 0 ls []) := by
  obtain ⟨hx, hb, hml, hown, hts⟩ := id C0
  intro S x1 H locs ls hf hW hl
  rw [fn_X2_changeKeeps] at hf
  refine lv_iload_n hx hb dX2_changeKeeps_0 rfl (lv_at hl 1 rfl) ?_
  refine lv_bipush (v := (-9 : Int32)) hx hb dX2_changeKeeps_1 (by decide) ?_
  refine lv_icmp_eq (tgt := 19) hx hb dX2_changeKeeps_3 (by decide) (fun hc => ?_) (fun hc => ?_)
  · replace hf := sc_ip hc hf
    refine lv_iconst (v := (0 : Int32)) hx hb dX2_changeKeeps_19 (by decide) ?_
    refine lv_istore_n (lv' := [(2, .int (0 : Int32)), (0, .ref (h 2)), (1, .int x1)]) hx hb dX2_changeKeeps_20 rfl hl (by decide) rfl (fun ls hl => ?_)
    exact wk_X2_changeKeeps_21 C0 hR  sc_FU _ _ _ _ _ hf hW (lv_sub hl [1, 0] rfl)
  · replace hf := sc_in hc hf
    refine lv_aload_n hx hb dX2_changeKeeps_6 rfl (lv_at hl 0 rfl) ?_
    refine sc_getX1 C0 hW ni_X2_changeKeeps_X1 17 (Nat.le_of_ble_eq_true rfl) lk_X2_changeKeeps_104 (v := .ref (h 21)) rfl dX2_changeKeeps_7 ?_
    refine lv_aload_n hx hb dX2_changeKeeps_10 rfl (lv_at hl 0 rfl) ?_
    refine sc_getX1 C0 hW ni_X2_changeKeeps_X1 4 (Nat.le_of_ble_eq_true rfl) lk_X2_changeKeeps_51 (v := .int (sc_gi S 6)) rfl dX2_changeKeeps_11 ?_
    refine lv_iload_n hx hb dX2_changeKeeps_14 rfl (lv_at hl 1 rfl) ?_
    refine lv_iadd hx hb dX2_changeKeeps_15 ?_
    refine lv_iconst (v := (0 : Int32)) hx hb dX2_changeKeeps_16 (by decide) ?_
    obtain ⟨hv, hf⟩ := sc_ck_s hf
    obtain ⟨S17, eS17, hf⟩ := sc_sq_s hf
    refine sc_stX_21 C0 hW hv eS17 dX2_changeKeeps_17 (fun H locs hW => ?_)
    exact sc_retv hR hf hW dX2_changeKeeps_18
set_option maxRecDepth 100000 in
theorem ct_X2_changeKeeps {S S' : sc_M} {x1 : Int32} (hf : fn_X2_changeKeeps S x1 = some S') : sc_Cv l yX2_changeKeeps wsX2_changeKeeps rm_X2_changeKeeps (sc_EX dC dI h cy) [.ref (h 2), .int x1] S S' := by
  refine sc_ofv (cc := cX2_changeKeeps) (maxL := 4) sc_okX (by decide) rfl (Nat.le_of_ble_eq_true rfl) ?_
  intro p e s m below meth c Q C0 hR hW ls hl
  exact wk_X2_changeKeeps_0 C0 hR _ _ _ _ _ hf hW hl
end

/-! ===== SeatCounts$KeepRule.run(LSeatCounts$House;LSeatCounts$Journal;)V ===== -/
abbrev rm_X2_run : Room := { frames := 5, cells := 0, slots := 0, locals := 117 }
theorem lk_X2_run_15 : Cond.fieldLink RX2 15 "SeatCounts$Journal" "electedOnes" "I" ∈ wsX2_run := by decide +kernel
theorem lk_X2_run_25 : Cond.fieldLink RX2 25 "SeatCounts$Journal" "excesses" "[J" ∈ wsX2_run := by decide +kernel
theorem lk_X2_run_41 : Cond.fieldLink RX2 41 "SeatCounts$Journal" "kinds" "[I" ∈ wsX2_run := by decide +kernel
theorem lk_X2_run_45 : Cond.fieldLink RX2 45 "SeatCounts$Journal" "whose" "[I" ∈ wsX2_run := by decide +kernel
theorem lk_X2_run_48 : Cond.fieldLink RX2 48 "SeatCounts$Journal" "states" "[I" ∈ wsX2_run := by decide +kernel
theorem lk_X2_run_51 : Cond.fieldLink RX2 51 "SeatCounts$Journal" "row" "I" ∈ wsX2_run := by decide +kernel
theorem ni_X2_run_X1 : ∀ w ∈ wsX10, w ∈ wsX2_run := by decide +kernel
noncomputable def fn_X2_run_106 (k2 : sc_M → Int32 → Option (sc_M)) (S : sc_M) (x2 : Int32) (x5 : Int32) : Option (sc_M) :=
  sc_cl (fn_X1_turn S (3 : Int32) (-9 : Int32)) (fun r110 S110 => if r110 = 0 then
    some S110
  else
    sc_cv (fn_X2_changeKeeps S110 x5) (fun S120 => k2 S120 (x2 + 1)))
noncomputable def fn_X2_run_69 (k2 : sc_M → Int32 → Option (sc_M)) (S : sc_M) (x2 : Int32) (z0 : Int32) : Option (sc_M) :=
  if z0 = (-9 : Int32) then
    fn_X2_run_106 k2 S x2 z0
  else
    sc_ck x2 72 (sc_sq (sc_mA S 12 (upd (sc_ga S 12) x2.toNatClampNeg (4 : Int32))) (fun S84 => sc_ck x2 72 (sc_sq (sc_mA S84 13 (upd (sc_ga S84 13) x2.toNatClampNeg z0)) (fun S92 => sc_ck ((sc_gi S92 6) + z0) 864 (sc_sq (sc_mA S92 20 (upd (sc_ga S92 20) ((sc_gi S92 6) + z0).toNatClampNeg (2 : Int32))) (fun S105 => fn_X2_run_106 k2 S105 x2 z0))))))
noncomputable def fn_X2_run_49 (k2 : sc_M → Int32 → Option (sc_M)) (S : sc_M) (x2 : Int32) (z0 : Int32) : Option (sc_M) :=
  sc_cl (fn_X2_mustPutOut S z0) (fun r54 S54 => if r54 = 0 then
    fn_X2_run_69 k2 S54 x2 (-9 : Int32)
  else
    sc_cl (fn_X1_poorest S54) (fun r61 S61 => fn_X2_run_69 k2 S61 x2 r61))
noncomputable def fn_X2_run_2 : Nat → sc_M → Int32 → Option (sc_M)
  | 0, _, _ => none
  | n + 1, S, x2 =>
    if (72 : Int32) ≤ x2 then
      some S
    else
      sc_cv (fn_X2_share S) (fun S10 => sc_sq ((sc_gi S10 7)) (fun y17 => sc_cl (fn_X1_settle S10) (fun r19 S19 => if r19 = 0 then
        sc_cl (fn_X2_excessOf S19) (fun r32 S32 => sc_ck x2 72 (sc_sq (sc_mB S32 18 (vp_updL (sc_gb S32 18) x2.toNatClampNeg r32)) (fun S35 => if (sc_gi S35 7) ≤ y17 then
          fn_X2_run_49 (fn_X2_run_2 n) S35 x2 (0 : Int32)
        else
          fn_X2_run_49 (fn_X2_run_2 n) S35 x2 (1 : Int32))))
      else
        some S19)))
noncomputable def fn_X2_run (S : sc_M) : Option (sc_M) :=
  fn_X2_run_2 sc_FU S (0 : Int32)
section
variable {p : Program} {l : Launch} {e : Env} {s : State} {m : MethodId} {args : Array Value} {below : List Frame} {meth : Method} {c : Code} {Q : State → Prop} {dC : Nat → ClassId} {dI : Nat → Nat → Nat} {h : Nat → Nat} {cy : Nat → ClassId}
set_option maxHeartbeats 4000000 in
set_option maxRecDepth 100000 in
theorem wk_X2_run_106 (C0 : CallFix p m c cX2_run 6 s args wsX2_run RX2) {S' : sc_M} (hR : sc_Rv p l e rm_X2_run s m args below meth c Q cX2_run (sc_EX dC dI h cy) S') {k2 : sc_M → Int32 → Option (sc_M)} (hk2 : ∀ (S : sc_M) (x2 : Int32) (H : Heap) (locs : List Loc) (ls : Array Slot), k2 S x2 = some S' → sc_W (sc_EX dC dI h cy) s H locs S → lv_has ls 6 [(0, .ref (h 1)), (1, .ref (h 2)), (2, .int x2)] → W p l e rm_X2_run s m args below meth c H locs 0 0 Q (F0 m 2 ls [])) : ∀ (S : sc_M) (x2 : Int32) (x5 : Int32) (H : Heap) (locs : List Loc) (ls : Array Slot), fn_X2_run_106 k2 S x2 x5 = some S' → sc_W (sc_EX dC dI h cy) s H locs S → lv_has ls 6 [(0, .ref (h 1)), (1, .ref (h 2)), (2, .int x2), (5, .int x5)] → W p l e rm_X2_run s m args below meth c H locs 0 0 Q (F0 m 106 ls []) := by
  obtain ⟨hx, hb, hml, hown, hts⟩ := id C0
  intro S x2 x5 H locs ls hf hW hl
  rw [fn_X2_run_106] at hf
  refine lv_aload_n hx hb dX2_run_106 rfl (lv_at hl 1 rfl) ?_
  refine lv_iconst (v := (3 : Int32)) hx hb dX2_run_107 (by decide) ?_
  refine lv_bipush (v := (-9 : Int32)) hx hb dX2_run_108 (by decide) ?_
  obtain ⟨r110, S110, hc, hf⟩ := sc_cl_s hf
  refine sc_callVi (As := [.int (3 : Int32), .int (-9 : Int32)]) (rest := []) (q0 := 2) (ci := 1) sc_okX C0 hW (ct_X1_turn hc) (cwV 2 hts gX2_run_X1_turn rfl rfl rfl (by decide +kernel) ⟨Nat.le_of_ble_eq_true rfl, Nat.le_of_ble_eq_true rfl⟩) rfl rfl rfl rfl hl.1 rfl (Nat.le_of_ble_eq_true rfl) dX2_run_110 (fun H locs hW => ?_)
  refine lv_if_ne (tgt := 117) hx hb dX2_run_113 (by decide) (fun hc => ?_) (fun hc => ?_)
  · replace hf := sc_in hc hf
    refine lv_aload_n hx hb dX2_run_117 rfl (lv_at hl 1 rfl) ?_
    refine lv_iload hx hb dX2_run_118 (lv_at hl 3 rfl) ?_
    obtain ⟨S120, hc, hf⟩ := sc_cv_s hf
    refine sc_callSv (As := [.ref (h 2), .int x5]) (rest := []) sc_okX C0 hW (ct_X2_changeKeeps hc) (va_cwS 2 hts gX2_run_X2_changeKeeps rfl rfl rfl (by decide +kernel) ⟨Nat.le_of_ble_eq_true rfl, Nat.le_of_ble_eq_true rfl⟩) rfl hl.1 rfl (Nat.le_of_ble_eq_true rfl) dX2_run_120 (fun H locs hW => ?_)
    refine lv_iinc (v := (x2 + 1)) (lv' := [(2, .int (x2 + 1)), (0, .ref (h 1)), (1, .ref (h 2)), (5, .int x5)]) hx hb dX2_run_123 hl (k := 2) rfl rfl (by decide) rfl (fun ls hl => ?_)
    refine lv_goto (tgt := 2) hx hb dX2_run_126 (by decide) ?_
    exact hk2 _ _ _ _ _ hf hW (lv_sub hl [1, 2, 0] rfl)
  · replace hf := sc_ip hc hf
    exact sc_retv hR hf hW dX2_run_116
set_option maxHeartbeats 4000000 in
set_option maxRecDepth 100000 in
theorem wk_X2_run_69 (C0 : CallFix p m c cX2_run 6 s args wsX2_run RX2) {S' : sc_M} (hR : sc_Rv p l e rm_X2_run s m args below meth c Q cX2_run (sc_EX dC dI h cy) S') {k2 : sc_M → Int32 → Option (sc_M)} (hk2 : ∀ (S : sc_M) (x2 : Int32) (H : Heap) (locs : List Loc) (ls : Array Slot), k2 S x2 = some S' → sc_W (sc_EX dC dI h cy) s H locs S → lv_has ls 6 [(0, .ref (h 1)), (1, .ref (h 2)), (2, .int x2)] → W p l e rm_X2_run s m args below meth c H locs 0 0 Q (F0 m 2 ls [])) : ∀ (S : sc_M) (x2 : Int32) (z0 : Int32) (H : Heap) (locs : List Loc) (ls : Array Slot), fn_X2_run_69 k2 S x2 z0 = some S' → sc_W (sc_EX dC dI h cy) s H locs S → lv_has ls 6 [(0, .ref (h 1)), (1, .ref (h 2)), (2, .int x2)] → W p l e rm_X2_run s m args below meth c H locs 0 0 Q (F0 m 69 ls [.int z0]) := by
  obtain ⟨hx, hb, hml, hown, hts⟩ := id C0
  intro S x2 z0 H locs ls hf hW hl
  rw [fn_X2_run_69] at hf
  refine lv_istore (lv' := [(5, .int z0), (0, .ref (h 1)), (1, .ref (h 2)), (2, .int x2)]) hx hb dX2_run_69 hl (by decide) rfl (fun ls hl => ?_)
  refine lv_iload hx hb dX2_run_71 (lv_at hl 0 rfl) ?_
  refine lv_bipush (v := (-9 : Int32)) hx hb dX2_run_73 (by decide) ?_
  refine lv_icmp_eq (tgt := 106) hx hb dX2_run_75 (by decide) (fun hc => ?_) (fun hc => ?_)
  · replace hf := sc_ip hc hf
    exact wk_X2_run_106 C0 hR hk2 _ _ _ _ _ _ hf hW (lv_sub hl [1, 2, 3, 0] rfl)
  · replace hf := sc_in hc hf
    refine lv_aload_n hx hb dX2_run_78 rfl (lv_at hl 2 rfl) ?_
    refine sc_getX1 C0 hW ni_X2_run_X1 8 (Nat.le_of_ble_eq_true rfl) lk_X2_run_41 (v := .ref (h 12)) rfl dX2_run_79 ?_
    refine lv_iload_n hx hb dX2_run_82 rfl (lv_at hl 3 rfl) ?_
    refine lv_iconst (v := (4 : Int32)) hx hb dX2_run_83 (by decide) ?_
    obtain ⟨hv, hf⟩ := sc_ck_s hf
    obtain ⟨S84, eS84, hf⟩ := sc_sq_s hf
    refine sc_stX_12 C0 hW hv eS84 dX2_run_84 (fun H locs hW => ?_)
    refine lv_aload_n hx hb dX2_run_85 rfl (lv_at hl 2 rfl) ?_
    refine sc_getX1 C0 hW ni_X2_run_X1 9 (Nat.le_of_ble_eq_true rfl) lk_X2_run_45 (v := .ref (h 13)) rfl dX2_run_86 ?_
    refine lv_iload_n hx hb dX2_run_89 rfl (lv_at hl 3 rfl) ?_
    refine lv_iload hx hb dX2_run_90 (lv_at hl 0 rfl) ?_
    obtain ⟨hv, hf⟩ := sc_ck_s hf
    obtain ⟨S92, eS92, hf⟩ := sc_sq_s hf
    refine sc_stX_13 C0 hW hv eS92 dX2_run_92 (fun H locs hW => ?_)
    refine lv_aload_n hx hb dX2_run_93 rfl (lv_at hl 2 rfl) ?_
    refine sc_getX1 C0 hW ni_X2_run_X1 16 (Nat.le_of_ble_eq_true rfl) lk_X2_run_48 (v := .ref (h 20)) rfl dX2_run_94 ?_
    refine lv_aload_n hx hb dX2_run_97 rfl (lv_at hl 2 rfl) ?_
    refine sc_getX1 C0 hW ni_X2_run_X1 4 (Nat.le_of_ble_eq_true rfl) lk_X2_run_51 (v := .int (sc_gi S92 6)) rfl dX2_run_98 ?_
    refine lv_iload hx hb dX2_run_101 (lv_at hl 0 rfl) ?_
    refine lv_iadd hx hb dX2_run_103 ?_
    refine lv_iconst (v := (2 : Int32)) hx hb dX2_run_104 (by decide) ?_
    obtain ⟨hv, hf⟩ := sc_ck_s hf
    obtain ⟨S105, eS105, hf⟩ := sc_sq_s hf
    refine sc_stX_20 C0 hW hv eS105 dX2_run_105 (fun H locs hW => ?_)
    exact wk_X2_run_106 C0 hR hk2 _ _ _ _ _ _ hf hW (lv_sub hl [1, 2, 3, 0] rfl)
set_option maxHeartbeats 4000000 in
set_option maxRecDepth 100000 in
theorem wk_X2_run_49 (C0 : CallFix p m c cX2_run 6 s args wsX2_run RX2) {S' : sc_M} (hR : sc_Rv p l e rm_X2_run s m args below meth c Q cX2_run (sc_EX dC dI h cy) S') {k2 : sc_M → Int32 → Option (sc_M)} (hk2 : ∀ (S : sc_M) (x2 : Int32) (H : Heap) (locs : List Loc) (ls : Array Slot), k2 S x2 = some S' → sc_W (sc_EX dC dI h cy) s H locs S → lv_has ls 6 [(0, .ref (h 1)), (1, .ref (h 2)), (2, .int x2)] → W p l e rm_X2_run s m args below meth c H locs 0 0 Q (F0 m 2 ls [])) : ∀ (S : sc_M) (x2 : Int32) (z0 : Int32) (H : Heap) (locs : List Loc) (ls : Array Slot), fn_X2_run_49 k2 S x2 z0 = some S' → sc_W (sc_EX dC dI h cy) s H locs S → lv_has ls 6 [(0, .ref (h 1)), (1, .ref (h 2)), (2, .int x2)] → W p l e rm_X2_run s m args below meth c H locs 0 0 Q (F0 m 49 ls [.int z0]) := by
  obtain ⟨hx, hb, hml, hown, hts⟩ := id C0
  intro S x2 z0 H locs ls hf hW hl
  rw [fn_X2_run_49] at hf
  refine lv_istore (lv' := [(4, .int z0), (0, .ref (h 1)), (1, .ref (h 2)), (2, .int x2)]) hx hb dX2_run_49 hl (by decide) rfl (fun ls hl => ?_)
  refine lv_aload_n hx hb dX2_run_51 rfl (lv_at hl 2 rfl) ?_
  refine lv_iload hx hb dX2_run_52 (lv_at hl 0 rfl) ?_
  obtain ⟨r54, S54, hc, hf⟩ := sc_cl_s hf
  refine sc_callSi (As := [.ref (h 2), .int z0]) (rest := []) sc_okX C0 hW (ct_X2_mustPutOut hc) (va_cwS 2 hts gX2_run_X2_mustPutOut rfl rfl rfl (by decide +kernel) ⟨Nat.le_of_ble_eq_true rfl, Nat.le_of_ble_eq_true rfl⟩) rfl hl.1 rfl (Nat.le_of_ble_eq_true rfl) dX2_run_54 (fun H locs hW => ?_)
  refine lv_if_eq (tgt := 67) hx hb dX2_run_57 (by decide) (fun hc => ?_) (fun hc => ?_)
  · replace hf := sc_ip hc hf
    refine lv_bipush (v := (-9 : Int32)) hx hb dX2_run_67 (by decide) ?_
    exact wk_X2_run_69 C0 hR hk2 _ _ _ _ _ _ hf hW (lv_sub hl [1, 2, 3] rfl)
  · replace hf := sc_in hc hf
    refine lv_aload_n hx hb dX2_run_60 rfl (lv_at hl 2 rfl) ?_
    obtain ⟨r61, S61, hc, hf⟩ := sc_cl_s hf
    refine sc_callVi (As := []) (rest := []) (q0 := 2) (ci := 1) sc_okX C0 hW (ct_X1_poorest hc) (cwV 0 hts gX2_run_X1_poorest rfl rfl rfl (by decide +kernel) ⟨Nat.le_of_ble_eq_true rfl, Nat.le_of_ble_eq_true rfl⟩) rfl rfl rfl rfl hl.1 rfl (Nat.le_of_ble_eq_true rfl) dX2_run_61 (fun H locs hW => ?_)
    refine lv_goto (tgt := 69) hx hb dX2_run_64 (by decide) ?_
    exact wk_X2_run_69 C0 hR hk2 _ _ _ _ _ _ hf hW (lv_sub hl [1, 2, 3] rfl)
set_option maxHeartbeats 4000000 in
set_option maxRecDepth 100000 in
theorem wk_X2_run_2 (C0 : CallFix p m c cX2_run 6 s args wsX2_run RX2) {S' : sc_M} (hR : sc_Rv p l e rm_X2_run s m args below meth c Q cX2_run (sc_EX dC dI h cy) S') : ∀ n : Nat, ∀ (S : sc_M) (x2 : Int32) (H : Heap) (locs : List Loc) (ls : Array Slot), fn_X2_run_2 n S x2 = some S' → sc_W (sc_EX dC dI h cy) s H locs S → lv_has ls 6 [(0, .ref (h 1)), (1, .ref (h 2)), (2, .int x2)] → W p l e rm_X2_run s m args below meth c H locs 0 0 Q (F0 m 2 ls []) := by
  obtain ⟨hx, hb, hml, hown, hts⟩ := id C0
  intro n
  induction n with
  | zero => intro S x2 H locs ls; intro hf; cases hf
  | succ n ih =>
    intro S x2 H locs ls hf hW hl
    rw [fn_X2_run_2] at hf
    refine lv_iload_n hx hb dX2_run_2 rfl (lv_at hl 2 rfl) ?_
    refine lv_bipush (v := (72 : Int32)) hx hb dX2_run_3 (by decide) ?_
    refine lv_icmp_ge (tgt := 129) hx hb dX2_run_5 (by decide) (fun hc => ?_) (fun hc => ?_)
    · replace hf := sc_ip hc hf
      exact sc_retv hR hf hW dX2_run_129
    · replace hf := sc_in hc hf
      refine lv_aload_n hx hb dX2_run_8 rfl (lv_at hl 0 rfl) ?_
      refine lv_aload_n hx hb dX2_run_9 rfl (lv_at hl 1 rfl) ?_
      obtain ⟨S10, hc, hf⟩ := sc_cv_s hf
      refine sc_callSv (As := [.ref (h 1), .ref (h 2)]) (rest := []) sc_okX C0 hW (ct_X2_share hc) (va_cwS 2 hts gX2_run_X2_share rfl rfl rfl (by decide +kernel) ⟨Nat.le_of_ble_eq_true rfl, Nat.le_of_ble_eq_true rfl⟩) rfl hl.1 rfl (Nat.le_of_ble_eq_true rfl) dX2_run_10 (fun H locs hW => ?_)
      refine lv_aload_n hx hb dX2_run_13 rfl (lv_at hl 1 rfl) ?_
      refine sc_getX1 C0 hW ni_X2_run_X1 5 (Nat.le_of_ble_eq_true rfl) lk_X2_run_15 (v := .int (sc_gi S10 7)) rfl dX2_run_14 ?_
      obtain ⟨y17, ey17, hf⟩ := sc_sq_s hf
      refine sc_topi ey17 ?_
      refine lv_istore_n (lv' := [(3, .int y17), (0, .ref (h 1)), (1, .ref (h 2)), (2, .int x2)]) hx hb dX2_run_17 rfl hl (by decide) rfl (fun ls hl => ?_)
      refine lv_aload_n hx hb dX2_run_18 rfl (lv_at hl 2 rfl) ?_
      obtain ⟨r19, S19, hc, hf⟩ := sc_cl_s hf
      refine sc_callVi (As := []) (rest := []) (q0 := 2) (ci := 1) sc_okX C0 hW (ct_X1_settle hc) (cwV 0 hts gX2_run_X1_settle rfl rfl rfl (by decide +kernel) ⟨Nat.le_of_ble_eq_true rfl, Nat.le_of_ble_eq_true rfl⟩) rfl rfl rfl rfl hl.1 rfl (Nat.le_of_ble_eq_true rfl) dX2_run_19 (fun H locs hW => ?_)
      refine lv_if_eq (tgt := 26) hx hb dX2_run_22 (by decide) (fun hc => ?_) (fun hc => ?_)
      · replace hf := sc_ip hc hf
        refine lv_aload_n hx hb dX2_run_26 rfl (lv_at hl 2 rfl) ?_
        refine sc_getX1 C0 hW ni_X2_run_X1 14 (Nat.le_of_ble_eq_true rfl) lk_X2_run_25 (v := .ref (h 18)) rfl dX2_run_27 ?_
        refine lv_iload_n hx hb dX2_run_30 rfl (lv_at hl 3 rfl) ?_
        refine lv_aload_n hx hb dX2_run_31 rfl (lv_at hl 2 rfl) ?_
        obtain ⟨r32, S32, hc, hf⟩ := sc_cl_s hf
        refine sc_callSl (As := [.ref (h 2)]) (rest := [.int x2, .ref (h 18)]) sc_okX C0 hW (ct_X2_excessOf hc) (va_cwS 1 hts gX2_run_X2_excessOf rfl rfl rfl (by decide +kernel) ⟨Nat.le_of_ble_eq_true rfl, Nat.le_of_ble_eq_true rfl⟩) rfl hl.1 rfl (Nat.le_of_ble_eq_true rfl) dX2_run_32 (fun H locs hW => ?_)
        obtain ⟨hv, hf⟩ := sc_ck_s hf
        obtain ⟨S35, eS35, hf⟩ := sc_sq_s hf
        refine sc_stX_18 C0 hW hv eS35 dX2_run_35 (fun H locs hW => ?_)
        refine lv_aload_n hx hb dX2_run_36 rfl (lv_at hl 2 rfl) ?_
        refine sc_getX1 C0 hW ni_X2_run_X1 5 (Nat.le_of_ble_eq_true rfl) lk_X2_run_15 (v := .int (sc_gi S35 7)) rfl dX2_run_37 ?_
        refine lv_iload_n hx hb dX2_run_40 rfl (lv_at hl 0 rfl) ?_
        refine lv_icmp_le (tgt := 48) hx hb dX2_run_41 (by decide) (fun hc => ?_) (fun hc => ?_)
        · replace hf := sc_ip hc hf
          refine lv_iconst (v := (0 : Int32)) hx hb dX2_run_48 (by decide) ?_
          exact wk_X2_run_49 C0 hR ih _ _ _ _ _ _ hf hW (lv_sub hl [1, 2, 3] rfl)
        · replace hf := sc_in hc hf
          refine lv_iconst (v := (1 : Int32)) hx hb dX2_run_44 (by decide) ?_
          refine lv_goto (tgt := 49) hx hb dX2_run_45 (by decide) ?_
          exact wk_X2_run_49 C0 hR ih _ _ _ _ _ _ hf hW (lv_sub hl [1, 2, 3] rfl)
      · replace hf := sc_in hc hf
        exact sc_retv hR hf hW dX2_run_25
set_option maxHeartbeats 4000000 in
set_option maxRecDepth 100000 in
theorem wk_X2_run_0 (C0 : CallFix p m c cX2_run 6 s args wsX2_run RX2) {S' : sc_M} (hR : sc_Rv p l e rm_X2_run s m args below meth c Q cX2_run (sc_EX dC dI h cy) S') : ∀ (S : sc_M) (H : Heap) (locs : List Loc) (ls : Array Slot), fn_X2_run S = some S' → sc_W (sc_EX dC dI h cy) s H locs S → lv_has ls 6 [(0, .ref (h 1)), (1, .ref (h 2))] → W p l e rm_X2_run s m args below meth c H locs 0 0 Q (F0 m 0 ls []) := by
  obtain ⟨hx, hb, hml, hown, hts⟩ := id C0
  intro S H locs ls hf hW hl
  rw [fn_X2_run] at hf
  refine lv_iconst (v := (0 : Int32)) hx hb dX2_run_0 (by decide) ?_
  refine lv_istore_n (lv' := [(2, .int (0 : Int32)), (0, .ref (h 1)), (1, .ref (h 2))]) hx hb dX2_run_1 rfl hl (by decide) rfl (fun ls hl => ?_)
  exact wk_X2_run_2 C0 hR  sc_FU _ _ _ _ _ hf hW (lv_sub hl [1, 2, 0] rfl)
set_option maxRecDepth 100000 in
theorem ct_X2_run {S S' : sc_M} (hf : fn_X2_run S = some S') : sc_Cv l yX2_run wsX2_run rm_X2_run (sc_EX dC dI h cy) [.ref (h 1), .ref (h 2)] S S' := by
  refine sc_ofv (cc := cX2_run) (maxL := 6) sc_okX (by decide) rfl (Nat.le_of_ble_eq_true rfl) ?_
  intro p e s m below meth c Q C0 hR hW ls hl
  exact wk_X2_run_0 C0 hR _ _ _ _ hf hW hl
end

/-! ===== SeatCounts$PaperRules.hasPlace(II)Z ===== -/
abbrev rm_X3_hasPlace : Room := { frames := 0, cells := 0, slots := 0, locals := 0 }
theorem lk_X3_hasPlace_21 : Cond.fieldLink RX3 21 "SeatCounts$PaperRules" "piles" "I" ∈ wsX3_hasPlace := by decide +kernel
theorem ni_X3_hasPlace_X3 : ∀ w ∈ wsX30, w ∈ wsX3_hasPlace := by decide +kernel
noncomputable def fn_X3_hasPlace_e (S : sc_M) (x1 : Int32) (x2 : Int32) : Option (Int32 × sc_M) :=
  if x1 < 0 then
    some ((0 : Int32), S)
  else
    if (13 : Int32) ≤ x1 then
      some ((0 : Int32), S)
    else
      if x2 < 0 then
        some ((0 : Int32), S)
      else
        if (sc_gi S 8) ≤ x2 then
          some ((0 : Int32), S)
        else
          some ((1 : Int32), S)
noncomputable def fn_X3_hasPlace (S : sc_M) (x1 : Int32) (x2 : Int32) : Option (Int32 × sc_M) := sc_bz (fn_X3_hasPlace_e S x1 x2)
section
variable {p : Program} {l : Launch} {e : Env} {s : State} {m : MethodId} {args : Array Value} {below : List Frame} {meth : Method} {c : Code} {Q : State → Prop} {dC : Nat → ClassId} {dI : Nat → Nat → Nat} {h : Nat → Nat} {cy : Nat → ClassId}
set_option maxHeartbeats 4000000 in
set_option maxRecDepth 100000 in
theorem wk_X3_hasPlace_0 (C0 : CallFix p m c cX3_hasPlace 3 s args wsX3_hasPlace RX3) {S' : sc_M} {r : Int32} (hR : sc_Ri p l e rm_X3_hasPlace s m args below meth c Q cX3_hasPlace (sc_EX dC dI h cy) S' r) : ∀ (S : sc_M) (x1 : Int32) (x2 : Int32) (H : Heap) (locs : List Loc) (ls : Array Slot), fn_X3_hasPlace_e S x1 x2 = some (r, S') → sc_W (sc_EX dC dI h cy) s H locs S → lv_has ls 3 [(0, .ref (h 3)), (1, .int x1), (2, .int x2)] → W p l e rm_X3_hasPlace s m args below meth c H locs 0 0 Q (F0 m 0 ls []) := by
  obtain ⟨hx, hb, hml, hown, hts⟩ := id C0
  intro S x1 x2 H locs ls hf hW hl
  rw [fn_X3_hasPlace_e] at hf
  refine lv_iload_n hx hb dX3_hasPlace_0 rfl (lv_at hl 1 rfl) ?_
  refine lv_if_lt (tgt := 26) hx hb dX3_hasPlace_1 (by decide) (fun hc => ?_) (fun hc => ?_)
  · replace hf := sc_ip hc hf
    refine lv_iconst (v := (0 : Int32)) hx hb dX3_hasPlace_26 (by decide) ?_
    exact sc_reti hR hf hW dX3_hasPlace_27
  · replace hf := sc_in hc hf
    refine lv_iload_n hx hb dX3_hasPlace_4 rfl (lv_at hl 1 rfl) ?_
    refine lv_bipush (v := (13 : Int32)) hx hb dX3_hasPlace_5 (by decide) ?_
    refine lv_icmp_ge (tgt := 26) hx hb dX3_hasPlace_7 (by decide) (fun hc => ?_) (fun hc => ?_)
    · replace hf := sc_ip hc hf
      refine lv_iconst (v := (0 : Int32)) hx hb dX3_hasPlace_26 (by decide) ?_
      exact sc_reti hR hf hW dX3_hasPlace_27
    · replace hf := sc_in hc hf
      refine lv_iload_n hx hb dX3_hasPlace_10 rfl (lv_at hl 2 rfl) ?_
      refine lv_if_lt (tgt := 26) hx hb dX3_hasPlace_11 (by decide) (fun hc => ?_) (fun hc => ?_)
      · replace hf := sc_ip hc hf
        refine lv_iconst (v := (0 : Int32)) hx hb dX3_hasPlace_26 (by decide) ?_
        exact sc_reti hR hf hW dX3_hasPlace_27
      · replace hf := sc_in hc hf
        refine lv_iload_n hx hb dX3_hasPlace_14 rfl (lv_at hl 2 rfl) ?_
        refine lv_aload_n hx hb dX3_hasPlace_15 rfl (lv_at hl 0 rfl) ?_
        refine sc_getX3 C0 hW ni_X3_hasPlace_X3 0 (Nat.le_of_ble_eq_true rfl) lk_X3_hasPlace_21 (v := .int (sc_gi S 8)) rfl dX3_hasPlace_16 ?_
        refine lv_icmp_ge (tgt := 26) hx hb dX3_hasPlace_19 (by decide) (fun hc => ?_) (fun hc => ?_)
        · replace hf := sc_ip hc hf
          refine lv_iconst (v := (0 : Int32)) hx hb dX3_hasPlace_26 (by decide) ?_
          exact sc_reti hR hf hW dX3_hasPlace_27
        · replace hf := sc_in hc hf
          refine lv_iconst (v := (1 : Int32)) hx hb dX3_hasPlace_22 (by decide) ?_
          refine lv_goto (tgt := 27) hx hb dX3_hasPlace_23 (by decide) ?_
          exact sc_reti hR hf hW dX3_hasPlace_27
set_option maxRecDepth 100000 in
theorem ct_X3_hasPlace {S S' : sc_M} {r : Int32} {x1 : Int32} {x2 : Int32} (hf : fn_X3_hasPlace S x1 x2 = some (r, S')) : sc_Ci l yX3_hasPlace wsX3_hasPlace rm_X3_hasPlace (sc_EX dC dI h cy) [.ref (h 3), .int x1, .int x2] S S' r := by
  obtain ⟨hf, h01⟩ := sc_bz_s hf
  refine sc_ofi (cc := cX3_hasPlace) (maxL := 3) .boolean (sc_nar01 h01) sc_okX (by decide) rfl (Nat.le_of_ble_eq_true rfl) ?_
  intro p e s m below meth c Q C0 hR hW ls hl
  exact wk_X3_hasPlace_0 C0 hR _ _ _ _ _ _ hf hW hl
end

/-! ===== SeatCounts$PaperRules.nextOf(LSeatCounts$House;LSeatCounts$Journal;I)I ===== -/
abbrev rm_X3_nextOf : Room := { frames := 1, cells := 0, slots := 0, locals := 21 }
theorem lk_X3_nextOf_146 : Cond.fieldLink RX3 146 "SeatCounts$House" "lengths" "[I" ∈ wsX3_nextOf := by decide +kernel
theorem lk_X3_nextOf_149 : Cond.fieldLink RX3 149 "SeatCounts$House" "preferences" "[I" ∈ wsX3_nextOf := by decide +kernel
theorem ni_X3_nextOf_X0 : ∀ w ∈ wsX00, w ∈ wsX3_nextOf := by decide +kernel
noncomputable def fn_X3_nextOf_3 : Nat → sc_M → Int32 → Int32 → Option (Int32 × sc_M)
  | 0, _, _, _ => none
  | n + 1, S, x3, x4 =>
    sc_ck x3 80 (if (sc_ga S 7 x3.toNatClampNeg) ≤ x4 then
      some ((-9 : Int32), S)
    else
      sc_ck ((x3 * (12 : Int32)) + x4) 960 (sc_sq ((sc_ga S 8 ((x3 * (12 : Int32)) + x4).toNatClampNeg)) (fun y26 => sc_cl (fn_X1_isHopeful S y26) (fun r31 S31 => if r31 = 0 then
        fn_X3_nextOf_3 n S31 x3 (x4 + 1)
      else
        some (y26, S31)))))
noncomputable def fn_X3_nextOf (S : sc_M) (x3 : Int32) : Option (Int32 × sc_M) :=
  fn_X3_nextOf_3 sc_FU S x3 (0 : Int32)
section
variable {p : Program} {l : Launch} {e : Env} {s : State} {m : MethodId} {args : Array Value} {below : List Frame} {meth : Method} {c : Code} {Q : State → Prop} {dC : Nat → ClassId} {dI : Nat → Nat → Nat} {h : Nat → Nat} {cy : Nat → ClassId}
set_option maxHeartbeats 4000000 in
set_option maxRecDepth 100000 in
theorem wk_X3_nextOf_3 (C0 : CallFix p m c cX3_nextOf 6 s args wsX3_nextOf RX3) {S' : sc_M} {r : Int32} (hR : sc_Ri p l e rm_X3_nextOf s m args below meth c Q cX3_nextOf (sc_EX dC dI h cy) S' r) : ∀ n : Nat, ∀ (S : sc_M) (x3 : Int32) (x4 : Int32) (H : Heap) (locs : List Loc) (ls : Array Slot), fn_X3_nextOf_3 n S x3 x4 = some (r, S') → sc_W (sc_EX dC dI h cy) s H locs S → lv_has ls 6 [(1, .ref (h 1)), (2, .ref (h 2)), (3, .int x3), (4, .int x4)] → W p l e rm_X3_nextOf s m args below meth c H locs 0 0 Q (F0 m 3 ls []) := by
  obtain ⟨hx, hb, hml, hown, hts⟩ := id C0
  intro n
  induction n with
  | zero => intro S x3 x4 H locs ls; intro hf; cases hf
  | succ n ih =>
    intro S x3 x4 H locs ls hf hW hl
    rw [fn_X3_nextOf_3] at hf
    refine lv_iload hx hb dX3_nextOf_3 (lv_at hl 3 rfl) ?_
    refine lv_aload_n hx hb dX3_nextOf_5 rfl (lv_at hl 0 rfl) ?_
    refine sc_getX0 C0 hW ni_X3_nextOf_X0 5 (Nat.le_of_ble_eq_true rfl) lk_X3_nextOf_146 (v := .ref (h 7)) rfl dX3_nextOf_6 ?_
    refine lv_iload_n hx hb dX3_nextOf_9 rfl (lv_at hl 2 rfl) ?_
    obtain ⟨hv, hf⟩ := sc_ck_s hf
    refine sc_ldX_7 C0 hW hv dX3_nextOf_10 ?_
    refine lv_icmp_ge (tgt := 46) hx hb dX3_nextOf_11 (by decide) (fun hc => ?_) (fun hc => ?_)
    · replace hf := sc_ip hc hf
      refine lv_bipush (v := (-9 : Int32)) hx hb dX3_nextOf_46 (by decide) ?_
      exact sc_reti hR hf hW dX3_nextOf_48
    · replace hf := sc_in hc hf
      refine lv_aload_n hx hb dX3_nextOf_14 rfl (lv_at hl 0 rfl) ?_
      refine sc_getX0 C0 hW ni_X3_nextOf_X0 6 (Nat.le_of_ble_eq_true rfl) lk_X3_nextOf_149 (v := .ref (h 8)) rfl dX3_nextOf_15 ?_
      refine lv_iload_n hx hb dX3_nextOf_18 rfl (lv_at hl 2 rfl) ?_
      refine lv_bipush (v := (12 : Int32)) hx hb dX3_nextOf_19 (by decide) ?_
      refine lv_imul hx hb dX3_nextOf_21 ?_
      refine lv_iload hx hb dX3_nextOf_22 (lv_at hl 3 rfl) ?_
      refine lv_iadd hx hb dX3_nextOf_24 ?_
      obtain ⟨hv, hf⟩ := sc_ck_s hf
      refine sc_ldX_8 C0 hW hv dX3_nextOf_25 ?_
      obtain ⟨y26, ey26, hf⟩ := sc_sq_s hf
      refine sc_topi ey26 ?_
      refine lv_istore (lv' := [(5, .int y26), (1, .ref (h 1)), (2, .ref (h 2)), (3, .int x3), (4, .int x4)]) hx hb dX3_nextOf_26 hl (by decide) rfl (fun ls hl => ?_)
      refine lv_aload_n hx hb dX3_nextOf_28 rfl (lv_at hl 2 rfl) ?_
      refine lv_iload hx hb dX3_nextOf_29 (lv_at hl 0 rfl) ?_
      obtain ⟨r31, S31, hc, hf⟩ := sc_cl_s hf
      refine sc_callVi (As := [.int y26]) (rest := []) (q0 := 2) (ci := 1) sc_okX C0 hW (ct_X1_isHopeful hc) (cwV 1 hts gX3_nextOf_X1_isHopeful rfl rfl rfl (by decide +kernel) ⟨Nat.le_of_ble_eq_true rfl, Nat.le_of_ble_eq_true rfl⟩) rfl rfl rfl rfl hl.1 rfl (Nat.le_of_ble_eq_true rfl) dX3_nextOf_31 (fun H locs hW => ?_)
      refine lv_if_eq (tgt := 40) hx hb dX3_nextOf_34 (by decide) (fun hc => ?_) (fun hc => ?_)
      · replace hf := sc_ip hc hf
        refine lv_iinc (v := (x4 + 1)) (lv' := [(4, .int (x4 + 1)), (5, .int y26), (1, .ref (h 1)), (2, .ref (h 2)), (3, .int x3)]) hx hb dX3_nextOf_40 hl (k := 4) rfl rfl (by decide) rfl (fun ls hl => ?_)
        refine lv_goto (tgt := 3) hx hb dX3_nextOf_43 (by decide) ?_
        exact ih _ _ _ _ _ _ hf hW (lv_sub hl [2, 3, 4, 0] rfl)
      · replace hf := sc_in hc hf
        refine lv_iload hx hb dX3_nextOf_37 (lv_at hl 0 rfl) ?_
        exact sc_reti hR hf hW dX3_nextOf_39
set_option maxHeartbeats 4000000 in
set_option maxRecDepth 100000 in
theorem wk_X3_nextOf_0 (C0 : CallFix p m c cX3_nextOf 6 s args wsX3_nextOf RX3) {S' : sc_M} {r : Int32} (hR : sc_Ri p l e rm_X3_nextOf s m args below meth c Q cX3_nextOf (sc_EX dC dI h cy) S' r) : ∀ (S : sc_M) (x3 : Int32) (H : Heap) (locs : List Loc) (ls : Array Slot), fn_X3_nextOf S x3 = some (r, S') → sc_W (sc_EX dC dI h cy) s H locs S → lv_has ls 6 [(0, .ref (h 3)), (1, .ref (h 1)), (2, .ref (h 2)), (3, .int x3)] → W p l e rm_X3_nextOf s m args below meth c H locs 0 0 Q (F0 m 0 ls []) := by
  obtain ⟨hx, hb, hml, hown, hts⟩ := id C0
  intro S x3 H locs ls hf hW hl
  rw [fn_X3_nextOf] at hf
  refine lv_iconst (v := (0 : Int32)) hx hb dX3_nextOf_0 (by decide) ?_
  refine lv_istore (lv' := [(4, .int (0 : Int32)), (0, .ref (h 3)), (1, .ref (h 1)), (2, .ref (h 2)), (3, .int x3)]) hx hb dX3_nextOf_1 hl (by decide) rfl (fun ls hl => ?_)
  exact wk_X3_nextOf_3 C0 hR  sc_FU _ _ _ _ _ _ hf hW (lv_sub hl [2, 3, 4, 0] rfl)
set_option maxRecDepth 100000 in
theorem ct_X3_nextOf {S S' : sc_M} {r : Int32} {x3 : Int32} (hf : fn_X3_nextOf S x3 = some (r, S')) : sc_Ci l yX3_nextOf wsX3_nextOf rm_X3_nextOf (sc_EX dC dI h cy) [.ref (h 3), .ref (h 1), .ref (h 2), .int x3] S S' r := by
  refine sc_ofi (cc := cX3_nextOf) (maxL := 6) .int rfl sc_okX (by decide) rfl (Nat.le_of_ble_eq_true rfl) ?_
  intro p e s m below meth c Q C0 hR hW ls hl
  exact wk_X3_nextOf_0 C0 hR _ _ _ _ _ hf hW hl
end
