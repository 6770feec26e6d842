/-! ===== SeatCountsModel.validPapers()I ===== -/
abbrev rm_X5_validPapers : Room := { frames := 1, cells := 0, slots := 0, locals := 23 }
theorem lk_X5_validPapers_104 : Cond.fieldLink RX5 104 "SeatCountsModel" "piles" "I" ∈ wsX5_validPapers := by decide +kernel
theorem lk_X5_validPapers_17 : Cond.fieldLink RX5 17 "SeatCountsModel" "papers" "[I" ∈ wsX5_validPapers := by decide +kernel
theorem ni_X5_validPapers_X5 : ∀ w ∈ wsX50, w ∈ wsX5_validPapers := by decide +kernel
noncomputable def fn_X5_validPapers_4 : Nat → sc_M → Int32 → Int32 → Option (Int32 × sc_M)
  | 0, _, _, _ => none
  | n + 1, S, x1, x2 =>
    if (sc_gi S 1) ≤ x2 then
      some (x1, S)
    else
      sc_cl (fn_X5_isValid S x2) (fun r15 S15 => if r15 = 0 then
        sc_sq ((x1 + (0 : Int32))) (fun y32 => fn_X5_validPapers_4 n S15 y32 (x2 + 1))
      else
        sc_ck x2 80 (sc_sq ((x1 + (sc_ga S15 3 x2.toNatClampNeg))) (fun y32 => fn_X5_validPapers_4 n S15 y32 (x2 + 1))))
noncomputable def fn_X5_validPapers (S : sc_M) : Option (Int32 × sc_M) :=
  fn_X5_validPapers_4 sc_FU S (0 : Int32) (0 : Int32)
section
variable {p : Program} {l : Launch} {e : Env} {s : State} {m : MethodId} {args : Array Value} {below : List Frame} {meth : Method} {c : Code} {Q : State → Prop} {dC : Nat → ClassId} {dI : Nat → Nat → Nat} {h : Nat → Nat} {cy : Nat → ClassId}
set_option maxHeartbeats 4000000 in
set_option maxRecDepth 100000 in
theorem wk_X5_validPapers_4 (C0 : CallFix p m c cX5_validPapers 3 s args wsX5_validPapers RX5) {S' : sc_M} {r : Int32} (hR : sc_Ri p l e rm_X5_validPapers s m args below meth c Q cX5_validPapers (sc_EM dC dI h cy) S' r) : ∀ n : Nat, ∀ (S : sc_M) (x1 : Int32) (x2 : Int32) (H : Heap) (locs : List Loc) (ls : Array Slot), fn_X5_validPapers_4 n S x1 x2 = some (r, S') → sc_W (sc_EM dC dI h cy) s H locs S → lv_has ls 3 [(0, .ref (h 0)), (1, .int x1), (2, .int x2)] → W p l e rm_X5_validPapers s m args below meth c H locs 0 0 Q (F0 m 4 ls []) := by
  obtain ⟨hx, hb, hml, hown, hts⟩ := id C0
  intro n
  induction n with
  | zero => intro S x1 x2 H locs ls; intro hf; cases hf
  | succ n ih =>
    intro S x1 x2 H locs ls hf hW hl
    rw [fn_X5_validPapers_4] at hf
    refine lv_iload_n hx hb dX5_validPapers_4 rfl (lv_at hl 2 rfl) ?_
    refine lv_aload_n hx hb dX5_validPapers_5 rfl (lv_at hl 0 rfl) ?_
    refine sc_getX5 C0 hW ni_X5_validPapers_X5 3 (Nat.le_of_ble_eq_true rfl) lk_X5_validPapers_104 (v := .int (sc_gi S 1)) rfl dX5_validPapers_6 ?_
    refine lv_icmp_ge (tgt := 39) hx hb dX5_validPapers_9 (by decide) (fun hc => ?_) (fun hc => ?_)
    · replace hf := sc_ip hc hf
      refine lv_iload_n hx hb dX5_validPapers_39 rfl (lv_at hl 1 rfl) ?_
      exact sc_reti hR hf hW dX5_validPapers_40
    · replace hf := sc_in hc hf
      refine lv_iload_n hx hb dX5_validPapers_12 rfl (lv_at hl 1 rfl) ?_
      refine lv_aload_n hx hb dX5_validPapers_13 rfl (lv_at hl 0 rfl) ?_
      refine lv_iload_n hx hb dX5_validPapers_14 rfl (lv_at hl 2 rfl) ?_
      obtain ⟨r15, S15, hc, hf⟩ := sc_cl_s hf
      refine sc_callVi (As := [.int x2]) (rest := [.int x1]) (q0 := 0) (ci := 4) sc_okM C0 hW (ct_X5_isValid hc) (cwV 1 hts gX5_validPapers_X5_isValid rfl rfl rfl (by decide +kernel) ⟨Nat.le_of_ble_eq_true rfl, Nat.le_of_ble_eq_true rfl⟩) rfl rfl rfl rfl hl.1 rfl (Nat.le_of_ble_eq_true rfl) dX5_validPapers_15 (fun H locs hW => ?_)
      refine lv_if_eq (tgt := 30) hx hb dX5_validPapers_18 (by decide) (fun hc => ?_) (fun hc => ?_)
      · replace hf := sc_ip hc hf
        refine lv_iconst (v := (0 : Int32)) hx hb dX5_validPapers_30 (by decide) ?_
        refine lv_iadd hx hb dX5_validPapers_31 ?_
        obtain ⟨y32, ey32, hf⟩ := sc_sq_s hf
        refine sc_topi ey32 ?_
        refine lv_istore_n (lv' := [(1, .int y32), (0, .ref (h 0)), (2, .int x2)]) hx hb dX5_validPapers_32 rfl hl (by decide) rfl (fun ls hl => ?_)
        refine lv_iinc (v := (x2 + 1)) (lv' := [(2, .int (x2 + 1)), (1, .int y32), (0, .ref (h 0))]) hx hb dX5_validPapers_33 hl (k := 2) rfl rfl (by decide) rfl (fun ls hl => ?_)
        refine lv_goto (tgt := 4) hx hb dX5_validPapers_36 (by decide) ?_
        exact ih _ _ _ _ _ _ hf hW (lv_sub hl [2, 1, 0] rfl)
      · replace hf := sc_in hc hf
        refine lv_aload_n hx hb dX5_validPapers_21 rfl (lv_at hl 0 rfl) ?_
        refine sc_getX5 C0 hW ni_X5_validPapers_X5 4 (Nat.le_of_ble_eq_true rfl) lk_X5_validPapers_17 (v := .ref (h 3)) rfl dX5_validPapers_22 ?_
        refine lv_iload_n hx hb dX5_validPapers_25 rfl (lv_at hl 2 rfl) ?_
        obtain ⟨hv, hf⟩ := sc_ck_s hf
        refine sc_ldM_3 C0 hW hv dX5_validPapers_26 ?_
        refine lv_goto (tgt := 31) hx hb dX5_validPapers_27 (by decide) ?_
        refine lv_iadd hx hb dX5_validPapers_31 ?_
        obtain ⟨y32, ey32, hf⟩ := sc_sq_s hf
        refine sc_topi ey32 ?_
        refine lv_istore_n (lv' := [(1, .int y32), (0, .ref (h 0)), (2, .int x2)]) hx hb dX5_validPapers_32 rfl hl (by decide) rfl (fun ls hl => ?_)
        refine lv_iinc (v := (x2 + 1)) (lv' := [(2, .int (x2 + 1)), (1, .int y32), (0, .ref (h 0))]) hx hb dX5_validPapers_33 hl (k := 2) rfl rfl (by decide) rfl (fun ls hl => ?_)
        refine lv_goto (tgt := 4) hx hb dX5_validPapers_36 (by decide) ?_
        exact ih _ _ _ _ _ _ hf hW (lv_sub hl [2, 1, 0] rfl)
set_option maxHeartbeats 4000000 in
set_option maxRecDepth 100000 in
theorem wk_X5_validPapers_0 (C0 : CallFix p m c cX5_validPapers 3 s args wsX5_validPapers RX5) {S' : sc_M} {r : Int32} (hR : sc_Ri p l e rm_X5_validPapers s m args below meth c Q cX5_validPapers (sc_EM dC dI h cy) S' r) : ∀ (S : sc_M) (H : Heap) (locs : List Loc) (ls : Array Slot), fn_X5_validPapers S = some (r, S') → sc_W (sc_EM dC dI h cy) s H locs S → lv_has ls 3 [(0, .ref (h 0))] → W p l e rm_X5_validPapers s m args below meth c H locs 0 0 Q (F0 m 0 ls []) := by
  obtain ⟨hx, hb, hml, hown, hts⟩ := id C0
  intro S H locs ls hf hW hl
  rw [fn_X5_validPapers] at hf
  refine lv_iconst (v := (0 : Int32)) hx hb dX5_validPapers_0 (by decide) ?_
  refine lv_istore_n (lv' := [(1, .int (0 : Int32)), (0, .ref (h 0))]) hx hb dX5_validPapers_1 rfl hl (by decide) rfl (fun ls hl => ?_)
  refine lv_iconst (v := (0 : Int32)) hx hb dX5_validPapers_2 (by decide) ?_
  refine lv_istore_n (lv' := [(2, .int (0 : Int32)), (1, .int (0 : Int32)), (0, .ref (h 0))]) hx hb dX5_validPapers_3 rfl hl (by decide) rfl (fun ls hl => ?_)
  exact wk_X5_validPapers_4 C0 hR  sc_FU _ _ _ _ _ _ hf hW (lv_sub hl [2, 1, 0] rfl)
set_option maxRecDepth 100000 in
theorem ct_X5_validPapers {S S' : sc_M} {r : Int32} (hf : fn_X5_validPapers S = some (r, S')) : sc_Ci l yX5_validPapers wsX5_validPapers rm_X5_validPapers (sc_EM dC dI h cy) [.ref (h 0)] S S' r := by
  refine sc_ofi (cc := cX5_validPapers) (maxL := 3) .int rfl sc_okM (by decide) rfl (Nat.le_of_ble_eq_true rfl) ?_
  intro p e s m below meth c Q C0 hR hW ls hl
  exact wk_X5_validPapers_0 C0 hR _ _ _ _ hf hW hl
end

/-! ===== SeatCountsModel.countByPiles()V ===== -/
abbrev rm_X5_countByPiles : Room := { frames := 4, cells := 0, slots := 0, locals := 102 }
theorem lk_X5_countByPiles_104 : Cond.fieldLink RX5 104 "SeatCountsModel" "piles" "I" ∈ wsX5_countByPiles := by decide +kernel
theorem lk_X5_countByPiles_138 : Cond.fieldLink RX5 138 "SeatCountsModel" "quota" "J" ∈ wsX5_countByPiles := by decide +kernel
theorem lk_X5_countByPiles_150 : Cond.fieldLink RX5 150 "SeatCountsModel" "seats" "I" ∈ wsX5_countByPiles := by decide +kernel
theorem lk_X5_countByPiles_177 : Cond.constantLong RX5 177 (100000) ∈ wsX5_countByPiles := by decide +kernel
theorem lk_X5_countByPiles_81 : Cond.fieldLink RX5 81 "SeatCountsModel" "place" "[I" ∈ wsX5_countByPiles := by decide +kernel
theorem lk_X5_countByPiles_84 : Cond.fieldLink RX5 84 "SeatCountsModel" "value" "[J" ∈ wsX5_countByPiles := by decide +kernel
theorem ni_X5_countByPiles_X5 : ∀ w ∈ wsX50, w ∈ wsX5_countByPiles := by decide +kernel
noncomputable def fn_X5_countByPiles_133 (k86 : sc_M → Int32 → Option (sc_M)) (S : sc_M) (x1 : Int32) (x4 : Int32) : Option (sc_M) :=
  sc_cl (fn_X5_ends S) (fun r134 S134 => sc_cv (fn_X5_record S134 x1 x4 (0 : Int64)) (fun S143 => k86 S143 r134))
noncomputable def fn_X5_countByPiles_86 : Nat → sc_M → Int32 → Option (sc_M)
  | 0, _, _ => none
  | n + 1, S, x3 =>
    if x3 = 0 then
      sc_cl (fn_X5_most S (1 : Int32) ((sc_gj S 0) + (1 : Int64))) (fun r98 S98 => if r98 < 0 then
        sc_cl (fn_X5_fewest S98) (fun r122 S122 => sc_cv (fn_X5_goesOut S122 r122) (fun S130 => fn_X5_countByPiles_133 (fn_X5_countByPiles_86 n) S130 (2 : Int32) r122))
      else
        sc_cv (fn_X5_transfer S98 r98) (fun S113 => fn_X5_countByPiles_133 (fn_X5_countByPiles_86 n) S113 (1 : Int32) r98))
    else
      some S
noncomputable def fn_X5_countByPiles_24 : Nat → sc_M → Int32 → Option (sc_M)
  | 0, _, _ => none
  | n + 1, S, x1 =>
    if (sc_gi S 1) ≤ x1 then
      sc_cl (fn_X5_ends S) (fun r75 S75 => sc_cv (fn_X5_record S75 (0 : Int32) (-9 : Int32) (0 : Int64)) (fun S83 => fn_X5_countByPiles_86 sc_FU S83 r75))
    else
      sc_ck x1 80 (sc_sq (sc_mA S 24 (upd (sc_ga S 24) x1.toNatClampNeg (-1 : Int32))) (fun S38 => sc_ck x1 80 (sc_sq (sc_mB S38 25 (vp_updL (sc_gb S38 25) x1.toNatClampNeg (0 : Int64))) (fun S45 => sc_cl (fn_X5_isValid S45 x1) (fun r48 S48 => if r48 = 0 then
        fn_X5_countByPiles_24 n S48 (x1 + 1)
      else
        sc_cl (fn_X5_goes S48 x1 (100000 : Int64)) (fun r59 S59 => fn_X5_countByPiles_24 n S59 (x1 + 1)))))))
noncomputable def fn_X5_countByPiles (S : sc_M) : Option (sc_M) :=
  sc_cl (fn_X5_validPapers S) (fun r2 S2 => sc_nz ((sc_gi S2 3) + (1 : Int32)) (sc_sq (sc_mj S2 0 (((r2 / ((sc_gi S2 3) + (1 : Int32))) + (1 : Int32)).toInt64 * (100000 : Int64))) (fun S19 => fn_X5_countByPiles_24 sc_FU S19 (0 : Int32))))
section
variable {p : Program} {l : Launch} {e : Env} {s : State} {m : MethodId} {args : Array Value} {below : List Frame} {meth : Method} {c : Code} {Q : State → Prop} {dC : Nat → ClassId} {dI : Nat → Nat → Nat} {h : Nat → Nat} {cy : Nat → ClassId}
set_option maxHeartbeats 4000000 in
set_option maxRecDepth 100000 in
theorem wk_X5_countByPiles_133 (C0 : CallFix p m c cX5_countByPiles 5 s args wsX5_countByPiles RX5) {S' : sc_M} (hR : sc_Rv p l e rm_X5_countByPiles s m args below meth c Q cX5_countByPiles (sc_EM dC dI h cy) S') {k86 : sc_M → Int32 → Option (sc_M)} (hk86 : ∀ (S : sc_M) (x3 : Int32) (H : Heap) (locs : List Loc) (ls : Array Slot), k86 S x3 = some S' → sc_W (sc_EM dC dI h cy) s H locs S → lv_has ls 5 [(0, .ref (h 0)), (3, .int x3)] → W p l e rm_X5_countByPiles s m args below meth c H locs 0 0 Q (F0 m 86 ls [])) : ∀ (S : sc_M) (x1 : Int32) (x4 : Int32) (H : Heap) (locs : List Loc) (ls : Array Slot), fn_X5_countByPiles_133 k86 S x1 x4 = some S' → sc_W (sc_EM dC dI h cy) s H locs S → lv_has ls 5 [(0, .ref (h 0)), (1, .int x1), (4, .int x4)] → W p l e rm_X5_countByPiles s m args below meth c H locs 0 0 Q (F0 m 133 ls []) := by
  obtain ⟨hx, hb, hml, hown, hts⟩ := id C0
  intro S x1 x4 H locs ls hf hW hl
  rw [fn_X5_countByPiles_133] at hf
  refine lv_aload_n hx hb dX5_countByPiles_133 rfl (lv_at hl 0 rfl) ?_
  obtain ⟨r134, S134, hc, hf⟩ := sc_cl_s hf
  refine sc_callVi (As := []) (rest := []) (q0 := 0) (ci := 4) sc_okM C0 hW (ct_X5_ends hc) (cwV 0 hts gX5_countByPiles_X5_ends rfl rfl rfl (by decide +kernel) ⟨Nat.le_of_ble_eq_true rfl, Nat.le_of_ble_eq_true rfl⟩) rfl rfl rfl rfl hl.1 rfl (Nat.le_of_ble_eq_true rfl) dX5_countByPiles_134 (fun H locs hW => ?_)
  refine lv_istore_n (lv' := [(3, .int r134), (0, .ref (h 0)), (1, .int x1), (4, .int x4)]) hx hb dX5_countByPiles_137 rfl hl (by decide) rfl (fun ls hl => ?_)
  refine lv_aload_n hx hb dX5_countByPiles_138 rfl (lv_at hl 1 rfl) ?_
  refine lv_iload_n hx hb dX5_countByPiles_139 rfl (lv_at hl 2 rfl) ?_
  refine lv_iload hx hb dX5_countByPiles_140 (lv_at hl 3 rfl) ?_
  refine lv_lconst (v := (0 : Int64)) hx hb dX5_countByPiles_142 (by decide) ?_
  obtain ⟨S143, hc, hf⟩ := sc_cv_s hf
  refine sc_callVv (As := [.int x1, .int x4, .long (0 : Int64)]) (rest := []) (q0 := 0) (ci := 4) sc_okM C0 hW (ct_X5_record hc) (cwV 3 hts gX5_countByPiles_X5_record rfl rfl rfl (by decide +kernel) ⟨Nat.le_of_ble_eq_true rfl, Nat.le_of_ble_eq_true rfl⟩) rfl rfl rfl rfl hl.1 rfl (Nat.le_of_ble_eq_true rfl) dX5_countByPiles_143 (fun H locs hW => ?_)
  refine lv_goto (tgt := 86) hx hb dX5_countByPiles_146 (by decide) ?_
  exact hk86 _ _ _ _ _ hf hW (lv_sub hl [1, 0] rfl)
set_option maxHeartbeats 4000000 in
set_option maxRecDepth 100000 in
theorem wk_X5_countByPiles_86 (C0 : CallFix p m c cX5_countByPiles 5 s args wsX5_countByPiles RX5) {S' : sc_M} (hR : sc_Rv p l e rm_X5_countByPiles s m args below meth c Q cX5_countByPiles (sc_EM dC dI h cy) S') : ∀ n : Nat, ∀ (S : sc_M) (x3 : Int32) (H : Heap) (locs : List Loc) (ls : Array Slot), fn_X5_countByPiles_86 n S x3 = some S' → sc_W (sc_EM dC dI h cy) s H locs S → lv_has ls 5 [(0, .ref (h 0)), (3, .int x3)] → W p l e rm_X5_countByPiles s m args below meth c H locs 0 0 Q (F0 m 86 ls []) := by
  obtain ⟨hx, hb, hml, hown, hts⟩ := id C0
  intro n
  induction n with
  | zero => intro S x3 H locs ls; intro hf; cases hf
  | succ n ih =>
    intro S x3 H locs ls hf hW hl
    rw [fn_X5_countByPiles_86] at hf
    refine lv_iload_n hx hb dX5_countByPiles_86 rfl (lv_at hl 1 rfl) ?_
    refine lv_if_ne (tgt := 149) hx hb dX5_countByPiles_87 (by decide) (fun hc => ?_) (fun hc => ?_)
    · replace hf := sc_in hc hf
      exact sc_retv hR hf hW dX5_countByPiles_149
    · replace hf := sc_ip hc hf
      refine lv_aload_n hx hb dX5_countByPiles_90 rfl (lv_at hl 0 rfl) ?_
      refine lv_iconst (v := (1 : Int32)) hx hb dX5_countByPiles_91 (by decide) ?_
      refine lv_aload_n hx hb dX5_countByPiles_92 rfl (lv_at hl 0 rfl) ?_
      refine sc_getX5 C0 hW ni_X5_countByPiles_X5 34 (Nat.le_of_ble_eq_true rfl) lk_X5_countByPiles_138 (v := .long (sc_gj S 0)) rfl dX5_countByPiles_93 ?_
      refine lv_lconst (v := (1 : Int64)) hx hb dX5_countByPiles_96 (by decide) ?_
      refine lv_ladd hx hb dX5_countByPiles_97 ?_
      obtain ⟨r98, S98, hc, hf⟩ := sc_cl_s hf
      refine sc_callVi (As := [.int (1 : Int32), .long ((sc_gj S 0) + (1 : Int64))]) (rest := []) (q0 := 0) (ci := 4) sc_okM C0 hW (ct_X5_most hc) (cwV 2 hts gX5_countByPiles_X5_most rfl rfl rfl (by decide +kernel) ⟨Nat.le_of_ble_eq_true rfl, Nat.le_of_ble_eq_true rfl⟩) rfl rfl rfl rfl hl.1 rfl (Nat.le_of_ble_eq_true rfl) dX5_countByPiles_98 (fun H locs hW => ?_)
      refine lv_istore (lv' := [(4, .int r98), (0, .ref (h 0)), (3, .int x3)]) hx hb dX5_countByPiles_101 hl (by decide) rfl (fun ls hl => ?_)
      refine lv_iload hx hb dX5_countByPiles_103 (lv_at hl 0 rfl) ?_
      refine lv_if_lt (tgt := 119) hx hb dX5_countByPiles_105 (by decide) (fun hc => ?_) (fun hc => ?_)
      · replace hf := sc_ip hc hf
        refine lv_iconst (v := (2 : Int32)) hx hb dX5_countByPiles_119 (by decide) ?_
        refine lv_istore_n (lv' := [(1, .int (2 : Int32)), (4, .int r98), (0, .ref (h 0)), (3, .int x3)]) hx hb dX5_countByPiles_120 rfl hl (by decide) rfl (fun ls hl => ?_)
        refine lv_aload_n hx hb dX5_countByPiles_121 rfl (lv_at hl 2 rfl) ?_
        obtain ⟨r122, S122, hc, hf⟩ := sc_cl_s hf
        refine sc_callVi (As := []) (rest := []) (q0 := 0) (ci := 4) sc_okM C0 hW (ct_X5_fewest hc) (cwV 0 hts gX5_countByPiles_X5_fewest rfl rfl rfl (by decide +kernel) ⟨Nat.le_of_ble_eq_true rfl, Nat.le_of_ble_eq_true rfl⟩) rfl rfl rfl rfl hl.1 rfl (Nat.le_of_ble_eq_true rfl) dX5_countByPiles_122 (fun H locs hW => ?_)
        refine lv_istore (lv' := [(4, .int r122), (1, .int (2 : Int32)), (0, .ref (h 0)), (3, .int x3)]) hx hb dX5_countByPiles_125 hl (by decide) rfl (fun ls hl => ?_)
        refine lv_aload_n hx hb dX5_countByPiles_127 rfl (lv_at hl 2 rfl) ?_
        refine lv_iload hx hb dX5_countByPiles_128 (lv_at hl 0 rfl) ?_
        obtain ⟨S130, hc, hf⟩ := sc_cv_s hf
        refine sc_callVv (As := [.int r122]) (rest := []) (q0 := 0) (ci := 4) sc_okM C0 hW (ct_X5_goesOut hc) (cwV 1 hts gX5_countByPiles_X5_goesOut rfl rfl rfl (by decide +kernel) ⟨Nat.le_of_ble_eq_true rfl, Nat.le_of_ble_eq_true rfl⟩) rfl rfl rfl rfl hl.1 rfl (Nat.le_of_ble_eq_true rfl) dX5_countByPiles_130 (fun H locs hW => ?_)
        exact wk_X5_countByPiles_133 C0 hR ih _ _ _ _ _ _ hf hW (lv_sub hl [2, 1, 0] rfl)
      · replace hf := sc_in hc hf
        refine lv_iconst (v := (1 : Int32)) hx hb dX5_countByPiles_108 (by decide) ?_
        refine lv_istore_n (lv' := [(1, .int (1 : Int32)), (4, .int r98), (0, .ref (h 0)), (3, .int x3)]) hx hb dX5_countByPiles_109 rfl hl (by decide) rfl (fun ls hl => ?_)
        refine lv_aload_n hx hb dX5_countByPiles_110 rfl (lv_at hl 2 rfl) ?_
        refine lv_iload hx hb dX5_countByPiles_111 (lv_at hl 1 rfl) ?_
        obtain ⟨S113, hc, hf⟩ := sc_cv_s hf
        refine sc_callVv (As := [.int r98]) (rest := []) (q0 := 0) (ci := 4) sc_okM C0 hW (ct_X5_transfer hc) (cwV 1 hts gX5_countByPiles_X5_transfer rfl rfl rfl (by decide +kernel) ⟨Nat.le_of_ble_eq_true rfl, Nat.le_of_ble_eq_true rfl⟩) rfl rfl rfl rfl hl.1 rfl (Nat.le_of_ble_eq_true rfl) dX5_countByPiles_113 (fun H locs hW => ?_)
        refine lv_goto (tgt := 133) hx hb dX5_countByPiles_116 (by decide) ?_
        exact wk_X5_countByPiles_133 C0 hR ih _ _ _ _ _ _ hf hW (lv_sub hl [2, 0, 1] rfl)
set_option maxHeartbeats 4000000 in
set_option maxRecDepth 100000 in
theorem wk_X5_countByPiles_24 (C0 : CallFix p m c cX5_countByPiles 5 s args wsX5_countByPiles RX5) {S' : sc_M} (hR : sc_Rv p l e rm_X5_countByPiles s m args below meth c Q cX5_countByPiles (sc_EM dC dI h cy) S') : ∀ n : Nat, ∀ (S : sc_M) (x1 : Int32) (H : Heap) (locs : List Loc) (ls : Array Slot), fn_X5_countByPiles_24 n S x1 = some S' → sc_W (sc_EM dC dI h cy) s H locs S → lv_has ls 5 [(0, .ref (h 0)), (1, .int x1)] → W p l e rm_X5_countByPiles s m args below meth c H locs 0 0 Q (F0 m 24 ls []) := by
  obtain ⟨hx, hb, hml, hown, hts⟩ := id C0
  intro n
  induction n with
  | zero => intro S x1 H locs ls; intro hf; cases hf
  | succ n ih =>
    intro S x1 H locs ls hf hW hl
    rw [fn_X5_countByPiles_24] at hf
    refine lv_iload_n hx hb dX5_countByPiles_24 rfl (lv_at hl 1 rfl) ?_
    refine lv_aload_n hx hb dX5_countByPiles_25 rfl (lv_at hl 0 rfl) ?_
    refine sc_getX5 C0 hW ni_X5_countByPiles_X5 3 (Nat.le_of_ble_eq_true rfl) lk_X5_countByPiles_104 (v := .int (sc_gi S 1)) rfl dX5_countByPiles_26 ?_
    refine lv_icmp_ge (tgt := 69) hx hb dX5_countByPiles_29 (by decide) (fun hc => ?_) (fun hc => ?_)
    · replace hf := sc_ip hc hf
      refine lv_iconst (v := (0 : Int32)) hx hb dX5_countByPiles_69 (by decide) ?_
      refine lv_istore_n (lv' := [(1, .int (0 : Int32)), (0, .ref (h 0))]) hx hb dX5_countByPiles_70 rfl hl (by decide) rfl (fun ls hl => ?_)
      refine lv_bipush (v := (-9 : Int32)) hx hb dX5_countByPiles_71 (by decide) ?_
      refine lv_istore_n (lv' := [(2, .int (-9 : Int32)), (1, .int (0 : Int32)), (0, .ref (h 0))]) hx hb dX5_countByPiles_73 rfl hl (by decide) rfl (fun ls hl => ?_)
      refine lv_aload_n hx hb dX5_countByPiles_74 rfl (lv_at hl 2 rfl) ?_
      obtain ⟨r75, S75, hc, hf⟩ := sc_cl_s hf
      refine sc_callVi (As := []) (rest := []) (q0 := 0) (ci := 4) sc_okM C0 hW (ct_X5_ends hc) (cwV 0 hts gX5_countByPiles_X5_ends rfl rfl rfl (by decide +kernel) ⟨Nat.le_of_ble_eq_true rfl, Nat.le_of_ble_eq_true rfl⟩) rfl rfl rfl rfl hl.1 rfl (Nat.le_of_ble_eq_true rfl) dX5_countByPiles_75 (fun H locs hW => ?_)
      refine lv_istore_n (lv' := [(3, .int r75), (2, .int (-9 : Int32)), (1, .int (0 : Int32)), (0, .ref (h 0))]) hx hb dX5_countByPiles_78 rfl hl (by decide) rfl (fun ls hl => ?_)
      refine lv_aload_n hx hb dX5_countByPiles_79 rfl (lv_at hl 3 rfl) ?_
      refine lv_iload_n hx hb dX5_countByPiles_80 rfl (lv_at hl 2 rfl) ?_
      refine lv_iload_n hx hb dX5_countByPiles_81 rfl (lv_at hl 1 rfl) ?_
      refine lv_lconst (v := (0 : Int64)) hx hb dX5_countByPiles_82 (by decide) ?_
      obtain ⟨S83, hc, hf⟩ := sc_cv_s hf
      refine sc_callVv (As := [.int (0 : Int32), .int (-9 : Int32), .long (0 : Int64)]) (rest := []) (q0 := 0) (ci := 4) sc_okM C0 hW (ct_X5_record hc) (cwV 3 hts gX5_countByPiles_X5_record rfl rfl rfl (by decide +kernel) ⟨Nat.le_of_ble_eq_true rfl, Nat.le_of_ble_eq_true rfl⟩) rfl rfl rfl rfl hl.1 rfl (Nat.le_of_ble_eq_true rfl) dX5_countByPiles_83 (fun H locs hW => ?_)
      exact wk_X5_countByPiles_86 C0 hR  sc_FU _ _ _ _ _ hf hW (lv_sub hl [3, 0] rfl)
    · replace hf := sc_in hc hf
      refine lv_aload_n hx hb dX5_countByPiles_32 rfl (lv_at hl 0 rfl) ?_
      refine sc_getX5 C0 hW ni_X5_countByPiles_X5 31 (Nat.le_of_ble_eq_true rfl) lk_X5_countByPiles_81 (v := .ref (h 24)) rfl dX5_countByPiles_33 ?_
      refine lv_iload_n hx hb dX5_countByPiles_36 rfl (lv_at hl 1 rfl) ?_
      refine lv_iconst (v := (-1 : Int32)) hx hb dX5_countByPiles_37 (by decide) ?_
      obtain ⟨hv, hf⟩ := sc_ck_s hf
      obtain ⟨S38, eS38, hf⟩ := sc_sq_s hf
      refine sc_stM_24 C0 hW hv eS38 dX5_countByPiles_38 (fun H locs hW => ?_)
      refine lv_aload_n hx hb dX5_countByPiles_39 rfl (lv_at hl 0 rfl) ?_
      refine sc_getX5 C0 hW ni_X5_countByPiles_X5 32 (Nat.le_of_ble_eq_true rfl) lk_X5_countByPiles_84 (v := .ref (h 25)) rfl dX5_countByPiles_40 ?_
      refine lv_iload_n hx hb dX5_countByPiles_43 rfl (lv_at hl 1 rfl) ?_
      refine lv_lconst (v := (0 : Int64)) hx hb dX5_countByPiles_44 (by decide) ?_
      obtain ⟨hv, hf⟩ := sc_ck_s hf
      obtain ⟨S45, eS45, hf⟩ := sc_sq_s hf
      refine sc_stM_25 C0 hW hv eS45 dX5_countByPiles_45 (fun H locs hW => ?_)
      refine lv_aload_n hx hb dX5_countByPiles_46 rfl (lv_at hl 0 rfl) ?_
      refine lv_iload_n hx hb dX5_countByPiles_47 rfl (lv_at hl 1 rfl) ?_
      obtain ⟨r48, S48, hc, hf⟩ := sc_cl_s hf
      refine sc_callVi (As := [.int x1]) (rest := []) (q0 := 0) (ci := 4) sc_okM C0 hW (ct_X5_isValid hc) (cwV 1 hts gX5_countByPiles_X5_isValid rfl rfl rfl (by decide +kernel) ⟨Nat.le_of_ble_eq_true rfl, Nat.le_of_ble_eq_true rfl⟩) rfl rfl rfl rfl hl.1 rfl (Nat.le_of_ble_eq_true rfl) dX5_countByPiles_48 (fun H locs hW => ?_)
      refine lv_if_eq (tgt := 63) hx hb dX5_countByPiles_51 (by decide) (fun hc => ?_) (fun hc => ?_)
      · replace hf := sc_ip hc hf
        refine lv_iinc (v := (x1 + 1)) (lv' := [(1, .int (x1 + 1)), (0, .ref (h 0))]) hx hb dX5_countByPiles_63 hl (k := 1) rfl rfl (by decide) rfl (fun ls hl => ?_)
        refine lv_goto (tgt := 24) hx hb dX5_countByPiles_66 (by decide) ?_
        exact ih _ _ _ _ _ hf hW (lv_sub hl [1, 0] rfl)
      · replace hf := sc_in hc hf
        refine lv_aload_n hx hb dX5_countByPiles_54 rfl (lv_at hl 0 rfl) ?_
        refine lv_iload_n hx hb dX5_countByPiles_55 rfl (lv_at hl 1 rfl) ?_
        refine lv_ldc2 (v := (100000 : Int64)) hx hb hown (hts _ lk_X5_countByPiles_177) dX5_countByPiles_56 ?_
        obtain ⟨r59, S59, hc, hf⟩ := sc_cl_s hf
        refine sc_callVi (As := [.int x1, .long (100000 : Int64)]) (rest := []) (q0 := 0) (ci := 4) sc_okM C0 hW (ct_X5_goes hc) (cwV 2 hts gX5_countByPiles_X5_goes rfl rfl rfl (by decide +kernel) ⟨Nat.le_of_ble_eq_true rfl, Nat.le_of_ble_eq_true rfl⟩) rfl rfl rfl rfl hl.1 rfl (Nat.le_of_ble_eq_true rfl) dX5_countByPiles_59 (fun H locs hW => ?_)
        refine lv_pop hx hb dX5_countByPiles_62 rfl ?_
        refine lv_iinc (v := (x1 + 1)) (lv' := [(1, .int (x1 + 1)), (0, .ref (h 0))]) hx hb dX5_countByPiles_63 hl (k := 1) rfl rfl (by decide) rfl (fun ls hl => ?_)
        refine lv_goto (tgt := 24) hx hb dX5_countByPiles_66 (by decide) ?_
        exact ih _ _ _ _ _ hf hW (lv_sub hl [1, 0] rfl)
set_option maxHeartbeats 4000000 in
set_option maxRecDepth 100000 in
theorem wk_X5_countByPiles_0 (C0 : CallFix p m c cX5_countByPiles 5 s args wsX5_countByPiles RX5) {S' : sc_M} (hR : sc_Rv p l e rm_X5_countByPiles s m args below meth c Q cX5_countByPiles (sc_EM dC dI h cy) S') : ∀ (S : sc_M) (H : Heap) (locs : List Loc) (ls : Array Slot), fn_X5_countByPiles S = some S' → sc_W (sc_EM dC dI h cy) s H locs S → lv_has ls 5 [(0, .ref (h 0))] → W p l e rm_X5_countByPiles s m args below meth c H locs 0 0 Q (F0 m 0 ls []) := by
  obtain ⟨hx, hb, hml, hown, hts⟩ := id C0
  intro S H locs ls hf hW hl
  rw [fn_X5_countByPiles] at hf
  refine lv_aload_n hx hb dX5_countByPiles_0 rfl (lv_at hl 0 rfl) ?_
  refine lv_aload_n hx hb dX5_countByPiles_1 rfl (lv_at hl 0 rfl) ?_
  obtain ⟨r2, S2, hc, hf⟩ := sc_cl_s hf
  refine sc_callVi (As := []) (rest := [.ref (h 0)]) (q0 := 0) (ci := 4) sc_okM C0 hW (ct_X5_validPapers hc) (cwV 0 hts gX5_countByPiles_X5_validPapers rfl rfl rfl (by decide +kernel) ⟨Nat.le_of_ble_eq_true rfl, Nat.le_of_ble_eq_true rfl⟩) rfl rfl rfl rfl hl.1 rfl (Nat.le_of_ble_eq_true rfl) dX5_countByPiles_2 (fun H locs hW => ?_)
  refine lv_aload_n hx hb dX5_countByPiles_5 rfl (lv_at hl 0 rfl) ?_
  refine sc_getX5 C0 hW ni_X5_countByPiles_X5 9 (Nat.le_of_ble_eq_true rfl) lk_X5_countByPiles_150 (v := .int (sc_gi S2 3)) rfl dX5_countByPiles_6 ?_
  refine lv_iconst (v := (1 : Int32)) hx hb dX5_countByPiles_9 (by decide) ?_
  refine lv_iadd hx hb dX5_countByPiles_10 ?_
  obtain ⟨hz, hf⟩ := sc_nz_s hf
  refine lv_idiv hx hb dX5_countByPiles_11 hz ?_
  refine lv_iconst (v := (1 : Int32)) hx hb dX5_countByPiles_12 (by decide) ?_
  refine lv_iadd hx hb dX5_countByPiles_13 ?_
  refine lv_i2l hx hb dX5_countByPiles_14 rfl ?_
  refine lv_ldc2 (v := (100000 : Int64)) hx hb hown (hts _ lk_X5_countByPiles_177) dX5_countByPiles_15 ?_
  refine lv_lmul hx hb dX5_countByPiles_18 ?_
  obtain ⟨S19, eS19, hf⟩ := sc_sq_s hf
  refine sc_putX5_quota C0 hW ni_X5_countByPiles_X5 lk_X5_countByPiles_138 eS19 dX5_countByPiles_19 (fun H locs hW => ?_)
  refine lv_iconst (v := (0 : Int32)) hx hb dX5_countByPiles_22 (by decide) ?_
  refine lv_istore_n (lv' := [(1, .int (0 : Int32)), (0, .ref (h 0))]) hx hb dX5_countByPiles_23 rfl hl (by decide) rfl (fun ls hl => ?_)
  exact wk_X5_countByPiles_24 C0 hR  sc_FU _ _ _ _ _ hf hW (lv_sub hl [1, 0] rfl)
set_option maxRecDepth 100000 in
theorem ct_X5_countByPiles {S S' : sc_M} (hf : fn_X5_countByPiles S = some S') : sc_Cv l yX5_countByPiles wsX5_countByPiles rm_X5_countByPiles (sc_EM dC dI h cy) [.ref (h 0)] S S' := by
  refine sc_ofv (cc := cX5_countByPiles) (maxL := 5) sc_okM (by decide) rfl (Nat.le_of_ble_eq_true rfl) ?_
  intro p e s m below meth c Q C0 hR hW ls hl
  exact wk_X5_countByPiles_0 C0 hR _ _ _ _ hf hW hl
end

/-! ===== SeatCountsModel.spread()V ===== -/
abbrev rm_X5_spread : Room := { frames := 1, cells := 0, slots := 0, locals := 23 }
theorem lk_X5_spread_101 : Cond.fieldLink RX5 101 "SeatCountsModel" "many" "I" ∈ wsX5_spread := by decide +kernel
theorem lk_X5_spread_104 : Cond.fieldLink RX5 104 "SeatCountsModel" "piles" "I" ∈ wsX5_spread := by decide +kernel
theorem lk_X5_spread_138 : Cond.fieldLink RX5 138 "SeatCountsModel" "quota" "J" ∈ wsX5_spread := by decide +kernel
theorem lk_X5_spread_150 : Cond.fieldLink RX5 150 "SeatCountsModel" "seats" "I" ∈ wsX5_spread := by decide +kernel
theorem lk_X5_spread_153 : Cond.fieldLink RX5 153 "SeatCountsModel" "idleNow" "J" ∈ wsX5_spread := by decide +kernel
theorem lk_X5_spread_17 : Cond.fieldLink RX5 17 "SeatCountsModel" "papers" "[I" ∈ wsX5_spread := by decide +kernel
theorem lk_X5_spread_196 : Cond.constantLong RX5 196 (1000000) ∈ wsX5_spread := by decide +kernel
theorem lk_X5_spread_20 : Cond.fieldLink RX5 20 "SeatCountsModel" "wants" "[I" ∈ wsX5_spread := by decide +kernel
theorem lk_X5_spread_23 : Cond.fieldLink RX5 23 "SeatCountsModel" "want" "[I" ∈ wsX5_spread := by decide +kernel
theorem lk_X5_spread_7 : Cond.fieldLink RX5 7 "SeatCountsModel" "isWithdrawn" "[Z" ∈ wsX5_spread := by decide +kernel
theorem lk_X5_spread_72 : Cond.fieldLink RX5 72 "SeatCountsModel" "votes" "[J" ∈ wsX5_spread := by decide +kernel
theorem lk_X5_spread_78 : Cond.fieldLink RX5 78 "SeatCountsModel" "keep" "[J" ∈ wsX5_spread := by decide +kernel
theorem ni_X5_spread_X5 : ∀ w ∈ wsX50, w ∈ wsX5_spread := by decide +kernel
noncomputable def fn_X5_spread_53 (k30 : sc_M → Int32 → Option (sc_M)) : Nat → sc_M → Int32 → Int64 → Int32 → Option (sc_M)
  | 0, _, _, _, _ => none
  | n + 1, S, x1, x2, x4 =>
    sc_ck x1 80 (if (sc_ga S 4 x1.toNatClampNeg) ≤ x4 then
      sc_ck x1 80 (sc_sq (sc_mj S 1 ((sc_gj S 1) + (x2 * (sc_ga S 3 x1.toNatClampNeg).toInt64))) (fun S149 => k30 S149 (x1 + 1)))
    else
      sc_ck (((12 : Int32) * x1) + x4) 960 (sc_sq ((sc_ga S 5 (((12 : Int32) * x1) + x4).toNatClampNeg)) (fun y76 => sc_ck y76 12 (if (sc_ga S 1 y76.toNatClampNeg) = 0 then
        sc_ck y76 12 (sc_nl (1000000 : Int64) (sc_sq (((x2 * (sc_gb S 23 y76.toNatClampNeg)) / (1000000 : Int64))) (fun y101 => sc_ck y76 12 (sc_ck x1 80 (sc_ck y76 12 (sc_sq (sc_mB S 21 (vp_updL (sc_gb S 21) y76.toNatClampNeg ((sc_gb S 21 y76.toNatClampNeg) + (y101 * (sc_ga S 3 x1.toNatClampNeg).toInt64)))) (fun S122 => sc_sq ((x2 - y101)) (fun y127 => fn_X5_spread_53 k30 n S122 x1 y127 (x4 + 1)))))))))
      else
        fn_X5_spread_53 k30 n S x1 x2 (x4 + 1)))))
noncomputable def fn_X5_spread_162 : Nat → sc_M → Int64 → Int32 → Option (sc_M)
  | 0, _, _, _ => none
  | n + 1, S, x1, x3 =>
    if (sc_gi S 0) ≤ x3 then
      sc_nl (((sc_gi S 3) + (1 : Int32)).toInt64) (sc_sq (sc_mj S 0 ((x1 / ((sc_gi S 3) + (1 : Int32)).toInt64) + (1 : Int64))) (fun S197 => some S197))
    else
      sc_ck x3 12 (sc_sq ((x1 + (sc_gb S 21 x3.toNatClampNeg))) (fun y178 => fn_X5_spread_162 n S y178 (x3 + 1)))
noncomputable def fn_X5_spread_30 : Nat → sc_M → Int32 → Option (sc_M)
  | 0, _, _ => none
  | n + 1, S, x1 =>
    if (sc_gi S 1) ≤ x1 then
      fn_X5_spread_162 sc_FU S (0 : Int64) (0 : Int32)
    else
      sc_cl (fn_X5_isValid S x1) (fun r40 S40 => if r40 = 0 then
        fn_X5_spread_30 n S40 (x1 + 1)
      else
        fn_X5_spread_53 (fn_X5_spread_30 n) sc_FU S40 x1 (1000000 : Int64) (0 : Int32))
noncomputable def fn_X5_spread_2 : Nat → sc_M → Int32 → Option (sc_M)
  | 0, _, _ => none
  | n + 1, S, x1 =>
    if (sc_gi S 0) ≤ x1 then
      sc_sq (sc_mj S 1 (0 : Int64)) (fun S25 => fn_X5_spread_30 sc_FU S25 (0 : Int32))
    else
      sc_ck x1 12 (sc_sq (sc_mB S 21 (vp_updL (sc_gb S 21) x1.toNatClampNeg (0 : Int64))) (fun S16 => fn_X5_spread_2 n S16 (x1 + 1)))
noncomputable def fn_X5_spread (S : sc_M) : Option (sc_M) :=
  fn_X5_spread_2 sc_FU S (0 : Int32)
section
variable {p : Program} {l : Launch} {e : Env} {s : State} {m : MethodId} {args : Array Value} {below : List Frame} {meth : Method} {c : Code} {Q : State → Prop} {dC : Nat → ClassId} {dI : Nat → Nat → Nat} {h : Nat → Nat} {cy : Nat → ClassId}
set_option maxHeartbeats 4000000 in
set_option maxRecDepth 100000 in
theorem wk_X5_spread_53 (C0 : CallFix p m c cX5_spread 8 s args wsX5_spread RX5) {S' : sc_M} (hR : sc_Rv p l e rm_X5_spread s m args below meth c Q cX5_spread (sc_EM dC dI h cy) S') {k30 : sc_M → Int32 → Option (sc_M)} (hk30 : ∀ (S : sc_M) (x1 : Int32) (H : Heap) (locs : List Loc) (ls : Array Slot), k30 S x1 = some S' → sc_W (sc_EM dC dI h cy) s H locs S → lv_has ls 8 [(0, .ref (h 0)), (1, .int x1)] → W p l e rm_X5_spread s m args below meth c H locs 0 0 Q (F0 m 30 ls [])) : ∀ n : Nat, ∀ (S : sc_M) (x1 : Int32) (x2 : Int64) (x4 : Int32) (H : Heap) (locs : List Loc) (ls : Array Slot), fn_X5_spread_53 k30 n S x1 x2 x4 = some S' → sc_W (sc_EM dC dI h cy) s H locs S → lv_has ls 8 [(0, .ref (h 0)), (1, .int x1), (2, .long x2), (4, .int x4)] → W p l e rm_X5_spread s m args below meth c H locs 0 0 Q (F0 m 53 ls []) := by
  obtain ⟨hx, hb, hml, hown, hts⟩ := id C0
  intro n
  induction n with
  | zero => intro S x1 x2 x4 H locs ls; intro hf; cases hf
  | succ n ih =>
    intro S x1 x2 x4 H locs ls hf hW hl
    rw [fn_X5_spread_53] at hf
    refine lv_iload hx hb dX5_spread_53 (lv_at hl 3 rfl) ?_
    refine lv_aload_n hx hb dX5_spread_55 rfl (lv_at hl 0 rfl) ?_
    refine sc_getX5 C0 hW ni_X5_spread_X5 5 (Nat.le_of_ble_eq_true rfl) lk_X5_spread_20 (v := .ref (h 4)) rfl dX5_spread_56 ?_
    refine lv_iload_n hx hb dX5_spread_59 rfl (lv_at hl 1 rfl) ?_
    obtain ⟨hv, hf⟩ := sc_ck_s hf
    refine sc_ldM_4 C0 hW hv dX5_spread_60 ?_
    refine lv_icmp_ge (tgt := 134) hx hb dX5_spread_61 (by decide) (fun hc => ?_) (fun hc => ?_)
    · replace hf := sc_ip hc hf
      refine lv_aload_n hx hb dX5_spread_134 rfl (lv_at hl 0 rfl) ?_
      refine lv_dup hx hb dX5_spread_135 rfl ?_
      refine sc_getX5 C0 hW ni_X5_spread_X5 35 (Nat.le_of_ble_eq_true rfl) lk_X5_spread_153 (v := .long (sc_gj S 1)) rfl dX5_spread_136 ?_
      refine lv_lload_n hx hb dX5_spread_139 rfl (lv_at hl 2 rfl) ?_
      refine lv_aload_n hx hb dX5_spread_140 rfl (lv_at hl 0 rfl) ?_
      refine sc_getX5 C0 hW ni_X5_spread_X5 4 (Nat.le_of_ble_eq_true rfl) lk_X5_spread_17 (v := .ref (h 3)) rfl dX5_spread_141 ?_
      refine lv_iload_n hx hb dX5_spread_144 rfl (lv_at hl 1 rfl) ?_
      obtain ⟨hv, hf⟩ := sc_ck_s hf
      refine sc_ldM_3 C0 hW hv dX5_spread_145 ?_
      refine lv_i2l hx hb dX5_spread_146 rfl ?_
      refine lv_lmul hx hb dX5_spread_147 ?_
      refine lv_ladd hx hb dX5_spread_148 ?_
      obtain ⟨S149, eS149, hf⟩ := sc_sq_s hf
      refine sc_putX5_idleNow C0 hW ni_X5_spread_X5 lk_X5_spread_153 eS149 dX5_spread_149 (fun H locs hW => ?_)
      refine lv_iinc (v := (x1 + 1)) (lv' := [(1, .int (x1 + 1)), (0, .ref (h 0)), (2, .long x2), (4, .int x4)]) hx hb dX5_spread_152 hl (k := 1) rfl rfl (by decide) rfl (fun ls hl => ?_)
      refine lv_goto (tgt := 30) hx hb dX5_spread_155 (by decide) ?_
      exact hk30 _ _ _ _ _ hf hW (lv_sub hl [1, 0] rfl)
    · replace hf := sc_in hc hf
      refine lv_aload_n hx hb dX5_spread_64 rfl (lv_at hl 0 rfl) ?_
      refine sc_getX5 C0 hW ni_X5_spread_X5 6 (Nat.le_of_ble_eq_true rfl) lk_X5_spread_23 (v := .ref (h 5)) rfl dX5_spread_65 ?_
      refine lv_bipush (v := (12 : Int32)) hx hb dX5_spread_68 (by decide) ?_
      refine lv_iload_n hx hb dX5_spread_70 rfl (lv_at hl 1 rfl) ?_
      refine lv_imul hx hb dX5_spread_71 ?_
      refine lv_iload hx hb dX5_spread_72 (lv_at hl 3 rfl) ?_
      refine lv_iadd hx hb dX5_spread_74 ?_
      obtain ⟨hv, hf⟩ := sc_ck_s hf
      refine sc_ldM_5 C0 hW hv dX5_spread_75 ?_
      obtain ⟨y76, ey76, hf⟩ := sc_sq_s hf
      refine sc_topi ey76 ?_
      refine lv_istore (lv' := [(5, .int y76), (0, .ref (h 0)), (1, .int x1), (2, .long x2), (4, .int x4)]) hx hb dX5_spread_76 hl (by decide) rfl (fun ls hl => ?_)
      refine lv_aload_n hx hb dX5_spread_78 rfl (lv_at hl 1 rfl) ?_
      refine sc_getX5 C0 hW ni_X5_spread_X5 1 (Nat.le_of_ble_eq_true rfl) lk_X5_spread_7 (v := .ref (h 1)) rfl dX5_spread_79 ?_
      refine lv_iload hx hb dX5_spread_82 (lv_at hl 0 rfl) ?_
      obtain ⟨hv, hf⟩ := sc_ck_s hf
      refine sc_ldM_1 C0 hW hv dX5_spread_84 ?_
      refine lv_if_ne (tgt := 128) hx hb dX5_spread_85 (by decide) (fun hc => ?_) (fun hc => ?_)
      · replace hf := sc_in hc hf
        refine lv_iinc (v := (x4 + 1)) (lv' := [(4, .int (x4 + 1)), (5, .int y76), (0, .ref (h 0)), (1, .int x1), (2, .long x2)]) hx hb dX5_spread_128 hl (k := 4) rfl rfl (by decide) rfl (fun ls hl => ?_)
        refine lv_goto (tgt := 53) hx hb dX5_spread_131 (by decide) ?_
        exact ih _ _ _ _ _ _ _ hf hW (lv_sub hl [2, 3, 4, 0] rfl)
      · replace hf := sc_ip hc hf
        refine lv_lload_n hx hb dX5_spread_88 rfl (lv_at hl 3 rfl) ?_
        refine lv_aload_n hx hb dX5_spread_89 rfl (lv_at hl 1 rfl) ?_
        refine sc_getX5 C0 hW ni_X5_spread_X5 30 (Nat.le_of_ble_eq_true rfl) lk_X5_spread_78 (v := .ref (h 23)) rfl dX5_spread_90 ?_
        refine lv_iload hx hb dX5_spread_93 (lv_at hl 0 rfl) ?_
        obtain ⟨hv, hf⟩ := sc_ck_s hf
        refine sc_ldM_23 C0 hW hv dX5_spread_95 ?_
        refine lv_lmul hx hb dX5_spread_96 ?_
        refine lv_ldc2 (v := (1000000 : Int64)) hx hb hown (hts _ lk_X5_spread_196) dX5_spread_97 ?_
        obtain ⟨hz, hf⟩ := sc_nl_s hf
        refine lv_ldiv hx hb dX5_spread_100 hz ?_
        obtain ⟨y101, ey101, hf⟩ := sc_sq_s hf
        refine sc_topl ey101 ?_
        refine lv_lstore (lv' := [(6, .long y101), (5, .int y76), (0, .ref (h 0)), (1, .int x1), (2, .long x2), (4, .int x4)]) hx hb dX5_spread_101 hl (by decide) rfl (fun ls hl => ?_)
        refine lv_aload_n hx hb dX5_spread_103 rfl (lv_at hl 2 rfl) ?_
        refine sc_getX5 C0 hW ni_X5_spread_X5 28 (Nat.le_of_ble_eq_true rfl) lk_X5_spread_72 (v := .ref (h 21)) rfl dX5_spread_104 ?_
        refine lv_iload hx hb dX5_spread_107 (lv_at hl 1 rfl) ?_
        refine lv_dup2_11 hx hb dX5_spread_109 rfl rfl ?_
        obtain ⟨hv, hf⟩ := sc_ck_s hf
        refine sc_ldM_21 C0 hW hv dX5_spread_110 ?_
        refine lv_lload hx hb dX5_spread_111 (lv_at hl 0 rfl) ?_
        refine lv_aload_n hx hb dX5_spread_113 rfl (lv_at hl 2 rfl) ?_
        refine sc_getX5 C0 hW ni_X5_spread_X5 4 (Nat.le_of_ble_eq_true rfl) lk_X5_spread_17 (v := .ref (h 3)) rfl dX5_spread_114 ?_
        refine lv_iload_n hx hb dX5_spread_117 rfl (lv_at hl 3 rfl) ?_
        obtain ⟨hv, hf⟩ := sc_ck_s hf
        refine sc_ldM_3 C0 hW hv dX5_spread_118 ?_
        refine lv_i2l hx hb dX5_spread_119 rfl ?_
        refine lv_lmul hx hb dX5_spread_120 ?_
        refine lv_ladd hx hb dX5_spread_121 ?_
        obtain ⟨hv, hf⟩ := sc_ck_s hf
        obtain ⟨S122, eS122, hf⟩ := sc_sq_s hf
        refine sc_stM_21 C0 hW hv eS122 dX5_spread_122 (fun H locs hW => ?_)
        refine lv_lload_n hx hb dX5_spread_123 rfl (lv_at hl 4 rfl) ?_
        refine lv_lload hx hb dX5_spread_124 (lv_at hl 0 rfl) ?_
        refine lv_lsub hx hb dX5_spread_126 ?_
        obtain ⟨y127, ey127, hf⟩ := sc_sq_s hf
        refine sc_topl ey127 ?_
        refine lv_lstore_n (lv' := [(2, .long y127), (6, .long y101), (5, .int y76), (0, .ref (h 0)), (1, .int x1), (4, .int x4)]) hx hb dX5_spread_127 rfl hl (by decide) rfl (fun ls hl => ?_)
        refine lv_iinc (v := (x4 + 1)) (lv' := [(4, .int (x4 + 1)), (2, .long y127), (6, .long y101), (5, .int y76), (0, .ref (h 0)), (1, .int x1)]) hx hb dX5_spread_128 hl (k := 5) rfl rfl (by decide) rfl (fun ls hl => ?_)
        refine lv_goto (tgt := 53) hx hb dX5_spread_131 (by decide) ?_
        exact ih _ _ _ _ _ _ _ hf hW (lv_sub hl [4, 5, 1, 0] rfl)
set_option maxHeartbeats 4000000 in
set_option maxRecDepth 100000 in
theorem wk_X5_spread_162 (C0 : CallFix p m c cX5_spread 8 s args wsX5_spread RX5) {S' : sc_M} (hR : sc_Rv p l e rm_X5_spread s m args below meth c Q cX5_spread (sc_EM dC dI h cy) S') : ∀ n : Nat, ∀ (S : sc_M) (x1 : Int64) (x3 : Int32) (H : Heap) (locs : List Loc) (ls : Array Slot), fn_X5_spread_162 n S x1 x3 = some S' → sc_W (sc_EM dC dI h cy) s H locs S → lv_has ls 8 [(0, .ref (h 0)), (1, .long x1), (3, .int x3)] → W p l e rm_X5_spread s m args below meth c H locs 0 0 Q (F0 m 162 ls []) := by
  obtain ⟨hx, hb, hml, hown, hts⟩ := id C0
  intro n
  induction n with
  | zero => intro S x1 x3 H locs ls; intro hf; cases hf
  | succ n ih =>
    intro S x1 x3 H locs ls hf hW hl
    rw [fn_X5_spread_162] at hf
    refine lv_iload_n hx hb dX5_spread_162 rfl (lv_at hl 2 rfl) ?_
    refine lv_aload_n hx hb dX5_spread_163 rfl (lv_at hl 0 rfl) ?_
    refine sc_getX5 C0 hW ni_X5_spread_X5 0 (Nat.le_of_ble_eq_true rfl) lk_X5_spread_101 (v := .int (sc_gi S 0)) rfl dX5_spread_164 ?_
    refine lv_icmp_ge (tgt := 185) hx hb dX5_spread_167 (by decide) (fun hc => ?_) (fun hc => ?_)
    · replace hf := sc_ip hc hf
      refine lv_aload_n hx hb dX5_spread_185 rfl (lv_at hl 0 rfl) ?_
      refine lv_lload_n hx hb dX5_spread_186 rfl (lv_at hl 1 rfl) ?_
      refine lv_aload_n hx hb dX5_spread_187 rfl (lv_at hl 0 rfl) ?_
      refine sc_getX5 C0 hW ni_X5_spread_X5 9 (Nat.le_of_ble_eq_true rfl) lk_X5_spread_150 (v := .int (sc_gi S 3)) rfl dX5_spread_188 ?_
      refine lv_iconst (v := (1 : Int32)) hx hb dX5_spread_191 (by decide) ?_
      refine lv_iadd hx hb dX5_spread_192 ?_
      refine lv_i2l hx hb dX5_spread_193 rfl ?_
      obtain ⟨hz, hf⟩ := sc_nl_s hf
      refine lv_ldiv hx hb dX5_spread_194 hz ?_
      refine lv_lconst (v := (1 : Int64)) hx hb dX5_spread_195 (by decide) ?_
      refine lv_ladd hx hb dX5_spread_196 ?_
      obtain ⟨S197, eS197, hf⟩ := sc_sq_s hf
      refine sc_putX5_quota C0 hW ni_X5_spread_X5 lk_X5_spread_138 eS197 dX5_spread_197 (fun H locs hW => ?_)
      exact sc_retv hR hf hW dX5_spread_200
    · replace hf := sc_in hc hf
      refine lv_lload_n hx hb dX5_spread_170 rfl (lv_at hl 1 rfl) ?_
      refine lv_aload_n hx hb dX5_spread_171 rfl (lv_at hl 0 rfl) ?_
      refine sc_getX5 C0 hW ni_X5_spread_X5 28 (Nat.le_of_ble_eq_true rfl) lk_X5_spread_72 (v := .ref (h 21)) rfl dX5_spread_172 ?_
      refine lv_iload_n hx hb dX5_spread_175 rfl (lv_at hl 2 rfl) ?_
      obtain ⟨hv, hf⟩ := sc_ck_s hf
      refine sc_ldM_21 C0 hW hv dX5_spread_176 ?_
      refine lv_ladd hx hb dX5_spread_177 ?_
      obtain ⟨y178, ey178, hf⟩ := sc_sq_s hf
      refine sc_topl ey178 ?_
      refine lv_lstore_n (lv' := [(1, .long y178), (0, .ref (h 0)), (3, .int x3)]) hx hb dX5_spread_178 rfl hl (by decide) rfl (fun ls hl => ?_)
      refine lv_iinc (v := (x3 + 1)) (lv' := [(3, .int (x3 + 1)), (1, .long y178), (0, .ref (h 0))]) hx hb dX5_spread_179 hl (k := 2) rfl rfl (by decide) rfl (fun ls hl => ?_)
      refine lv_goto (tgt := 162) hx hb dX5_spread_182 (by decide) ?_
      exact ih _ _ _ _ _ _ hf hW (lv_sub hl [2, 1, 0] rfl)
set_option maxHeartbeats 4000000 in
set_option maxRecDepth 100000 in
theorem wk_X5_spread_30 (C0 : CallFix p m c cX5_spread 8 s args wsX5_spread RX5) {S' : sc_M} (hR : sc_Rv p l e rm_X5_spread s m args below meth c Q cX5_spread (sc_EM dC dI h cy) S') : ∀ n : Nat, ∀ (S : sc_M) (x1 : Int32) (H : Heap) (locs : List Loc) (ls : Array Slot), fn_X5_spread_30 n S x1 = some S' → sc_W (sc_EM dC dI h cy) s H locs S → lv_has ls 8 [(0, .ref (h 0)), (1, .int x1)] → W p l e rm_X5_spread s m args below meth c H locs 0 0 Q (F0 m 30 ls []) := by
  obtain ⟨hx, hb, hml, hown, hts⟩ := id C0
  intro n
  induction n with
  | zero => intro S x1 H locs ls; intro hf; cases hf
  | succ n ih =>
    intro S x1 H locs ls hf hW hl
    rw [fn_X5_spread_30] at hf
    refine lv_iload_n hx hb dX5_spread_30 rfl (lv_at hl 1 rfl) ?_
    refine lv_aload_n hx hb dX5_spread_31 rfl (lv_at hl 0 rfl) ?_
    refine sc_getX5 C0 hW ni_X5_spread_X5 3 (Nat.le_of_ble_eq_true rfl) lk_X5_spread_104 (v := .int (sc_gi S 1)) rfl dX5_spread_32 ?_
    refine lv_icmp_ge (tgt := 158) hx hb dX5_spread_35 (by decide) (fun hc => ?_) (fun hc => ?_)
    · replace hf := sc_ip hc hf
      refine lv_lconst (v := (0 : Int64)) hx hb dX5_spread_158 (by decide) ?_
      refine lv_lstore_n (lv' := [(1, .long (0 : Int64)), (0, .ref (h 0))]) hx hb dX5_spread_159 rfl hl (by decide) rfl (fun ls hl => ?_)
      refine lv_iconst (v := (0 : Int32)) hx hb dX5_spread_160 (by decide) ?_
      refine lv_istore_n (lv' := [(3, .int (0 : Int32)), (1, .long (0 : Int64)), (0, .ref (h 0))]) hx hb dX5_spread_161 rfl hl (by decide) rfl (fun ls hl => ?_)
      exact wk_X5_spread_162 C0 hR  sc_FU _ _ _ _ _ _ hf hW (lv_sub hl [2, 1, 0] rfl)
    · replace hf := sc_in hc hf
      refine lv_aload_n hx hb dX5_spread_38 rfl (lv_at hl 0 rfl) ?_
      refine lv_iload_n hx hb dX5_spread_39 rfl (lv_at hl 1 rfl) ?_
      obtain ⟨r40, S40, hc, hf⟩ := sc_cl_s hf
      refine sc_callVi (As := [.int x1]) (rest := []) (q0 := 0) (ci := 4) sc_okM C0 hW (ct_X5_isValid hc) (cwV 1 hts gX5_spread_X5_isValid rfl rfl rfl (by decide +kernel) ⟨Nat.le_of_ble_eq_true rfl, Nat.le_of_ble_eq_true rfl⟩) rfl rfl rfl rfl hl.1 rfl (Nat.le_of_ble_eq_true rfl) dX5_spread_40 (fun H locs hW => ?_)
      refine lv_if_eq (tgt := 152) hx hb dX5_spread_43 (by decide) (fun hc => ?_) (fun hc => ?_)
      · replace hf := sc_ip hc hf
        refine lv_iinc (v := (x1 + 1)) (lv' := [(1, .int (x1 + 1)), (0, .ref (h 0))]) hx hb dX5_spread_152 hl (k := 1) rfl rfl (by decide) rfl (fun ls hl => ?_)
        refine lv_goto (tgt := 30) hx hb dX5_spread_155 (by decide) ?_
        exact ih _ _ _ _ _ hf hW (lv_sub hl [1, 0] rfl)
      · replace hf := sc_in hc hf
        refine lv_ldc2 (v := (1000000 : Int64)) hx hb hown (hts _ lk_X5_spread_196) dX5_spread_46 ?_
        refine lv_lstore_n (lv' := [(2, .long (1000000 : Int64)), (0, .ref (h 0)), (1, .int x1)]) hx hb dX5_spread_49 rfl hl (by decide) rfl (fun ls hl => ?_)
        refine lv_iconst (v := (0 : Int32)) hx hb dX5_spread_50 (by decide) ?_
        refine lv_istore (lv' := [(4, .int (0 : Int32)), (2, .long (1000000 : Int64)), (0, .ref (h 0)), (1, .int x1)]) hx hb dX5_spread_51 hl (by decide) rfl (fun ls hl => ?_)
        exact wk_X5_spread_53 C0 hR ih sc_FU _ _ _ _ _ _ _ hf hW (lv_sub hl [2, 3, 1, 0] rfl)
set_option maxHeartbeats 4000000 in
set_option maxRecDepth 100000 in
theorem wk_X5_spread_2 (C0 : CallFix p m c cX5_spread 8 s args wsX5_spread RX5) {S' : sc_M} (hR : sc_Rv p l e rm_X5_spread s m args below meth c Q cX5_spread (sc_EM dC dI h cy) S') : ∀ n : Nat, ∀ (S : sc_M) (x1 : Int32) (H : Heap) (locs : List Loc) (ls : Array Slot), fn_X5_spread_2 n S x1 = some S' → sc_W (sc_EM dC dI h cy) s H locs S → lv_has ls 8 [(0, .ref (h 0)), (1, .int x1)] → W p l e rm_X5_spread s m args below meth c H locs 0 0 Q (F0 m 2 ls []) := by
  obtain ⟨hx, hb, hml, hown, hts⟩ := id C0
  intro n
  induction n with
  | zero => intro S x1 H locs ls; intro hf; cases hf
  | succ n ih =>
    intro S x1 H locs ls hf hW hl
    rw [fn_X5_spread_2] at hf
    refine lv_iload_n hx hb dX5_spread_2 rfl (lv_at hl 1 rfl) ?_
    refine lv_aload_n hx hb dX5_spread_3 rfl (lv_at hl 0 rfl) ?_
    refine sc_getX5 C0 hW ni_X5_spread_X5 0 (Nat.le_of_ble_eq_true rfl) lk_X5_spread_101 (v := .int (sc_gi S 0)) rfl dX5_spread_4 ?_
    refine lv_icmp_ge (tgt := 23) hx hb dX5_spread_7 (by decide) (fun hc => ?_) (fun hc => ?_)
    · replace hf := sc_ip hc hf
      refine lv_aload_n hx hb dX5_spread_23 rfl (lv_at hl 0 rfl) ?_
      refine lv_lconst (v := (0 : Int64)) hx hb dX5_spread_24 (by decide) ?_
      obtain ⟨S25, eS25, hf⟩ := sc_sq_s hf
      refine sc_putX5_idleNow C0 hW ni_X5_spread_X5 lk_X5_spread_153 eS25 dX5_spread_25 (fun H locs hW => ?_)
      refine lv_iconst (v := (0 : Int32)) hx hb dX5_spread_28 (by decide) ?_
      refine lv_istore_n (lv' := [(1, .int (0 : Int32)), (0, .ref (h 0))]) hx hb dX5_spread_29 rfl hl (by decide) rfl (fun ls hl => ?_)
      exact wk_X5_spread_30 C0 hR  sc_FU _ _ _ _ _ hf hW (lv_sub hl [1, 0] rfl)
    · replace hf := sc_in hc hf
      refine lv_aload_n hx hb dX5_spread_10 rfl (lv_at hl 0 rfl) ?_
      refine sc_getX5 C0 hW ni_X5_spread_X5 28 (Nat.le_of_ble_eq_true rfl) lk_X5_spread_72 (v := .ref (h 21)) rfl dX5_spread_11 ?_
      refine lv_iload_n hx hb dX5_spread_14 rfl (lv_at hl 1 rfl) ?_
      refine lv_lconst (v := (0 : Int64)) hx hb dX5_spread_15 (by decide) ?_
      obtain ⟨hv, hf⟩ := sc_ck_s hf
      obtain ⟨S16, eS16, hf⟩ := sc_sq_s hf
      refine sc_stM_21 C0 hW hv eS16 dX5_spread_16 (fun H locs hW => ?_)
      refine lv_iinc (v := (x1 + 1)) (lv' := [(1, .int (x1 + 1)), (0, .ref (h 0))]) hx hb dX5_spread_17 hl (k := 1) rfl rfl (by decide) rfl (fun ls hl => ?_)
      refine lv_goto (tgt := 2) hx hb dX5_spread_20 (by decide) ?_
      exact ih _ _ _ _ _ hf hW (lv_sub hl [1, 0] rfl)
set_option maxHeartbeats 4000000 in
set_option maxRecDepth 100000 in
theorem wk_X5_spread_0 (C0 : CallFix p m c cX5_spread 8 s args wsX5_spread RX5) {S' : sc_M} (hR : sc_Rv p l e rm_X5_spread s m args below meth c Q cX5_spread (sc_EM dC dI h cy) S') : ∀ (S : sc_M) (H : Heap) (locs : List Loc) (ls : Array Slot), fn_X5_spread S = some S' → sc_W (sc_EM dC dI h cy) s H locs S → lv_has ls 8 [(0, .ref (h 0))] → W p l e rm_X5_spread s m args below meth c H locs 0 0 Q (F0 m 0 ls []) := by
  obtain ⟨hx, hb, hml, hown, hts⟩ := id C0
  intro S H locs ls hf hW hl
  rw [fn_X5_spread] at hf
  refine lv_iconst (v := (0 : Int32)) hx hb dX5_spread_0 (by decide) ?_
  refine lv_istore_n (lv' := [(1, .int (0 : Int32)), (0, .ref (h 0))]) hx hb dX5_spread_1 rfl hl (by decide) rfl (fun ls hl => ?_)
  exact wk_X5_spread_2 C0 hR  sc_FU _ _ _ _ _ hf hW (lv_sub hl [1, 0] rfl)
set_option maxRecDepth 100000 in
theorem ct_X5_spread {S S' : sc_M} (hf : fn_X5_spread S = some S') : sc_Cv l yX5_spread wsX5_spread rm_X5_spread (sc_EM dC dI h cy) [.ref (h 0)] S S' := by
  refine sc_ofv (cc := cX5_spread) (maxL := 8) sc_okM (by decide) rfl (Nat.le_of_ble_eq_true rfl) ?_
  intro p e s m below meth c Q C0 hR hW ls hl
  exact wk_X5_spread_0 C0 hR _ _ _ _ hf hW hl
end

/-! ===== SeatCountsModel.excess()J ===== -/
abbrev rm_X5_excess : Room := { frames := 0, cells := 0, slots := 0, locals := 0 }
theorem lk_X5_excess_101 : Cond.fieldLink RX5 101 "SeatCountsModel" "many" "I" ∈ wsX5_excess := by decide +kernel
theorem lk_X5_excess_138 : Cond.fieldLink RX5 138 "SeatCountsModel" "quota" "J" ∈ wsX5_excess := by decide +kernel
theorem lk_X5_excess_72 : Cond.fieldLink RX5 72 "SeatCountsModel" "votes" "[J" ∈ wsX5_excess := by decide +kernel
theorem lk_X5_excess_75 : Cond.fieldLink RX5 75 "SeatCountsModel" "status" "[I" ∈ wsX5_excess := by decide +kernel
theorem ni_X5_excess_X5 : ∀ w ∈ wsX50, w ∈ wsX5_excess := by decide +kernel
noncomputable def fn_X5_excess_4 : Nat → sc_M → Int64 → Int32 → Option (Int64 × sc_M)
  | 0, _, _, _ => none
  | n + 1, S, x1, x3 =>
    if (sc_gi S 0) ≤ x3 then
      some (x1, S)
    else
      sc_ck x3 12 (if (sc_ga S 22 x3.toNatClampNeg) = (1 : Int32) then
        sc_ck x3 12 (if (sc_gb S 21 x3.toNatClampNeg) ≤ (sc_gj S 0) then
          sc_sq ((x1 + (0 : Int64))) (fun y53 => fn_X5_excess_4 n S y53 (x3 + 1))
        else
          sc_ck x3 12 (sc_sq ((x1 + ((sc_gb S 21 x3.toNatClampNeg) - (sc_gj S 0)))) (fun y53 => fn_X5_excess_4 n S y53 (x3 + 1))))
      else
        sc_sq ((x1 + (0 : Int64))) (fun y53 => fn_X5_excess_4 n S y53 (x3 + 1)))
noncomputable def fn_X5_excess (S : sc_M) : Option (Int64 × sc_M) :=
  fn_X5_excess_4 sc_FU S (0 : Int64) (0 : Int32)
section
variable {p : Program} {l : Launch} {e : Env} {s : State} {m : MethodId} {args : Array Value} {below : List Frame} {meth : Method} {c : Code} {Q : State → Prop} {dC : Nat → ClassId} {dI : Nat → Nat → Nat} {h : Nat → Nat} {cy : Nat → ClassId}
set_option maxHeartbeats 4000000 in
set_option maxRecDepth 100000 in
theorem wk_X5_excess_4 (C0 : CallFix p m c cX5_excess 4 s args wsX5_excess RX5) {S' : sc_M} {r : Int64} (hR : sc_Rl p l e rm_X5_excess s m args below meth c Q cX5_excess (sc_EM dC dI h cy) S' r) : ∀ n : Nat, ∀ (S : sc_M) (x1 : Int64) (x3 : Int32) (H : Heap) (locs : List Loc) (ls : Array Slot), fn_X5_excess_4 n S x1 x3 = some (r, S') → sc_W (sc_EM dC dI h cy) s H locs S → lv_has ls 4 [(0, .ref (h 0)), (1, .long x1), (3, .int x3)] → W p l e rm_X5_excess s m args below meth c H locs 0 0 Q (F0 m 4 ls []) := by
  obtain ⟨hx, hb, hml, hown, hts⟩ := id C0
  intro n
  induction n with
  | zero => intro S x1 x3 H locs ls; intro hf; cases hf
  | succ n ih =>
    intro S x1 x3 H locs ls hf hW hl
    rw [fn_X5_excess_4] at hf
    refine lv_iload_n hx hb dX5_excess_4 rfl (lv_at hl 2 rfl) ?_
    refine lv_aload_n hx hb dX5_excess_5 rfl (lv_at hl 0 rfl) ?_
    refine sc_getX5 C0 hW ni_X5_excess_X5 0 (Nat.le_of_ble_eq_true rfl) lk_X5_excess_101 (v := .int (sc_gi S 0)) rfl dX5_excess_6 ?_
    refine lv_icmp_ge (tgt := 60) hx hb dX5_excess_9 (by decide) (fun hc => ?_) (fun hc => ?_)
    · replace hf := sc_ip hc hf
      refine lv_lload_n hx hb dX5_excess_60 rfl (lv_at hl 1 rfl) ?_
      exact sc_retl hR hf hW dX5_excess_61
    · replace hf := sc_in hc hf
      refine lv_lload_n hx hb dX5_excess_12 rfl (lv_at hl 1 rfl) ?_
      refine lv_aload_n hx hb dX5_excess_13 rfl (lv_at hl 0 rfl) ?_
      refine sc_getX5 C0 hW ni_X5_excess_X5 29 (Nat.le_of_ble_eq_true rfl) lk_X5_excess_75 (v := .ref (h 22)) rfl dX5_excess_14 ?_
      refine lv_iload_n hx hb dX5_excess_17 rfl (lv_at hl 2 rfl) ?_
      obtain ⟨hv, hf⟩ := sc_ck_s hf
      refine sc_ldM_22 C0 hW hv dX5_excess_18 ?_
      refine lv_iconst (v := (1 : Int32)) hx hb dX5_excess_19 (by decide) ?_
      refine lv_icmp_ne (tgt := 51) hx hb dX5_excess_20 (by decide) (fun hc => ?_) (fun hc => ?_)
      · replace hf := sc_in hc hf
        refine lv_lconst (v := (0 : Int64)) hx hb dX5_excess_51 (by decide) ?_
        refine lv_ladd hx hb dX5_excess_52 ?_
        obtain ⟨y53, ey53, hf⟩ := sc_sq_s hf
        refine sc_topl ey53 ?_
        refine lv_lstore_n (lv' := [(1, .long y53), (0, .ref (h 0)), (3, .int x3)]) hx hb dX5_excess_53 rfl hl (by decide) rfl (fun ls hl => ?_)
        refine lv_iinc (v := (x3 + 1)) (lv' := [(3, .int (x3 + 1)), (1, .long y53), (0, .ref (h 0))]) hx hb dX5_excess_54 hl (k := 2) rfl rfl (by decide) rfl (fun ls hl => ?_)
        refine lv_goto (tgt := 4) hx hb dX5_excess_57 (by decide) ?_
        exact ih _ _ _ _ _ _ hf hW (lv_sub hl [2, 1, 0] rfl)
      · replace hf := sc_ip hc hf
        refine lv_aload_n hx hb dX5_excess_23 rfl (lv_at hl 0 rfl) ?_
        refine sc_getX5 C0 hW ni_X5_excess_X5 28 (Nat.le_of_ble_eq_true rfl) lk_X5_excess_72 (v := .ref (h 21)) rfl dX5_excess_24 ?_
        refine lv_iload_n hx hb dX5_excess_27 rfl (lv_at hl 2 rfl) ?_
        obtain ⟨hv, hf⟩ := sc_ck_s hf
        refine sc_ldM_21 C0 hW hv dX5_excess_28 ?_
        refine lv_aload_n hx hb dX5_excess_29 rfl (lv_at hl 0 rfl) ?_
        refine sc_getX5 C0 hW ni_X5_excess_X5 34 (Nat.le_of_ble_eq_true rfl) lk_X5_excess_138 (v := .long (sc_gj S 0)) rfl dX5_excess_30 ?_
        refine sc_l_le (tgt := 51) C0 dX5_excess_33 dX5_excess_34 (by decide) (fun hc => ?_) (fun hc => ?_)
        · replace hf := sc_ip hc hf
          refine lv_lconst (v := (0 : Int64)) hx hb dX5_excess_51 (by decide) ?_
          refine lv_ladd hx hb dX5_excess_52 ?_
          obtain ⟨y53, ey53, hf⟩ := sc_sq_s hf
          refine sc_topl ey53 ?_
          refine lv_lstore_n (lv' := [(1, .long y53), (0, .ref (h 0)), (3, .int x3)]) hx hb dX5_excess_53 rfl hl (by decide) rfl (fun ls hl => ?_)
          refine lv_iinc (v := (x3 + 1)) (lv' := [(3, .int (x3 + 1)), (1, .long y53), (0, .ref (h 0))]) hx hb dX5_excess_54 hl (k := 2) rfl rfl (by decide) rfl (fun ls hl => ?_)
          refine lv_goto (tgt := 4) hx hb dX5_excess_57 (by decide) ?_
          exact ih _ _ _ _ _ _ hf hW (lv_sub hl [2, 1, 0] rfl)
        · replace hf := sc_in hc hf
          refine lv_aload_n hx hb dX5_excess_37 rfl (lv_at hl 0 rfl) ?_
          refine sc_getX5 C0 hW ni_X5_excess_X5 28 (Nat.le_of_ble_eq_true rfl) lk_X5_excess_72 (v := .ref (h 21)) rfl dX5_excess_38 ?_
          refine lv_iload_n hx hb dX5_excess_41 rfl (lv_at hl 2 rfl) ?_
          obtain ⟨hv, hf⟩ := sc_ck_s hf
          refine sc_ldM_21 C0 hW hv dX5_excess_42 ?_
          refine lv_aload_n hx hb dX5_excess_43 rfl (lv_at hl 0 rfl) ?_
          refine sc_getX5 C0 hW ni_X5_excess_X5 34 (Nat.le_of_ble_eq_true rfl) lk_X5_excess_138 (v := .long (sc_gj S 0)) rfl dX5_excess_44 ?_
          refine lv_lsub hx hb dX5_excess_47 ?_
          refine lv_goto (tgt := 52) hx hb dX5_excess_48 (by decide) ?_
          refine lv_ladd hx hb dX5_excess_52 ?_
          obtain ⟨y53, ey53, hf⟩ := sc_sq_s hf
          refine sc_topl ey53 ?_
          refine lv_lstore_n (lv' := [(1, .long y53), (0, .ref (h 0)), (3, .int x3)]) hx hb dX5_excess_53 rfl hl (by decide) rfl (fun ls hl => ?_)
          refine lv_iinc (v := (x3 + 1)) (lv' := [(3, .int (x3 + 1)), (1, .long y53), (0, .ref (h 0))]) hx hb dX5_excess_54 hl (k := 2) rfl rfl (by decide) rfl (fun ls hl => ?_)
          refine lv_goto (tgt := 4) hx hb dX5_excess_57 (by decide) ?_
          exact ih _ _ _ _ _ _ hf hW (lv_sub hl [2, 1, 0] rfl)
set_option maxHeartbeats 4000000 in
set_option maxRecDepth 100000 in
theorem wk_X5_excess_0 (C0 : CallFix p m c cX5_excess 4 s args wsX5_excess RX5) {S' : sc_M} {r : Int64} (hR : sc_Rl p l e rm_X5_excess s m args below meth c Q cX5_excess (sc_EM dC dI h cy) S' r) : ∀ (S : sc_M) (H : Heap) (locs : List Loc) (ls : Array Slot), fn_X5_excess S = some (r, S') → sc_W (sc_EM dC dI h cy) s H locs S → lv_has ls 4 [(0, .ref (h 0))] → W p l e rm_X5_excess s m args below meth c H locs 0 0 Q (F0 m 0 ls []) := by
  obtain ⟨hx, hb, hml, hown, hts⟩ := id C0
  intro S H locs ls hf hW hl
  rw [fn_X5_excess] at hf
  refine lv_lconst (v := (0 : Int64)) hx hb dX5_excess_0 (by decide) ?_
  refine lv_lstore_n (lv' := [(1, .long (0 : Int64)), (0, .ref (h 0))]) hx hb dX5_excess_1 rfl hl (by decide) rfl (fun ls hl => ?_)
  refine lv_iconst (v := (0 : Int32)) hx hb dX5_excess_2 (by decide) ?_
  refine lv_istore_n (lv' := [(3, .int (0 : Int32)), (1, .long (0 : Int64)), (0, .ref (h 0))]) hx hb dX5_excess_3 rfl hl (by decide) rfl (fun ls hl => ?_)
  exact wk_X5_excess_4 C0 hR  sc_FU _ _ _ _ _ _ hf hW (lv_sub hl [2, 1, 0] rfl)
set_option maxRecDepth 100000 in
theorem ct_X5_excess {S S' : sc_M} {r : Int64} (hf : fn_X5_excess S = some (r, S')) : sc_Cl l yX5_excess wsX5_excess rm_X5_excess (sc_EM dC dI h cy) [.ref (h 0)] S S' r := by
  refine sc_ofl (cc := cX5_excess) (maxL := 4) sc_okM (by decide) rfl (Nat.le_of_ble_eq_true rfl) ?_
  intro p e s m below meth c Q C0 hR hW ls hl
  exact wk_X5_excess_0 C0 hR _ _ _ _ hf hW hl
end

/-! ===== SeatCountsModel.countByKeeps()V ===== -/
abbrev rm_X5_countByKeeps : Room := { frames := 4, cells := 0, slots := 0, locals := 91 }
theorem lk_X5_countByKeeps_101 : Cond.fieldLink RX5 101 "SeatCountsModel" "many" "I" ∈ wsX5_countByKeeps := by decide +kernel
theorem lk_X5_countByKeeps_124 : Cond.fieldLink RX5 124 "SeatCountsModel" "stages" "I" ∈ wsX5_countByKeeps := by decide +kernel
theorem lk_X5_countByKeeps_135 : Cond.fieldLink RX5 135 "SeatCountsModel" "electedMany" "I" ∈ wsX5_countByKeeps := by decide +kernel
theorem lk_X5_countByKeeps_138 : Cond.fieldLink RX5 138 "SeatCountsModel" "quota" "J" ∈ wsX5_countByKeeps := by decide +kernel
theorem lk_X5_countByKeeps_196 : Cond.constantLong RX5 196 (1000000) ∈ wsX5_countByKeeps := by decide +kernel
theorem lk_X5_countByKeeps_205 : Cond.constantLong RX5 205 (1000) ∈ wsX5_countByKeeps := by decide +kernel
theorem lk_X5_countByKeeps_29 : Cond.fieldLink RX5 29 "SeatCountsModel" "kindOf" "[I" ∈ wsX5_countByKeeps := by decide +kernel
theorem lk_X5_countByKeeps_48 : Cond.fieldLink RX5 48 "SeatCountsModel" "excessOf" "[J" ∈ wsX5_countByKeeps := by decide +kernel
theorem lk_X5_countByKeeps_57 : Cond.fieldLink RX5 57 "SeatCountsModel" "keepAt" "[J" ∈ wsX5_countByKeeps := by decide +kernel
theorem lk_X5_countByKeeps_72 : Cond.fieldLink RX5 72 "SeatCountsModel" "votes" "[J" ∈ wsX5_countByKeeps := by decide +kernel
theorem lk_X5_countByKeeps_75 : Cond.fieldLink RX5 75 "SeatCountsModel" "status" "[I" ∈ wsX5_countByKeeps := by decide +kernel
theorem lk_X5_countByKeeps_78 : Cond.fieldLink RX5 78 "SeatCountsModel" "keep" "[J" ∈ wsX5_countByKeeps := by decide +kernel
theorem ni_X5_countByKeeps_X5 : ∀ w ∈ wsX50, w ∈ wsX5_countByKeeps := by decide +kernel
noncomputable def fn_X5_countByKeeps_147 (k2 : sc_M → Int32 → Option (sc_M)) (S : sc_M) (x1 : Int32) (x3 : Int64) : Option (sc_M) :=
  sc_cl (fn_X5_fewest S) (fun r148 S148 => sc_ck r148 12 (sc_sq (sc_mA S148 22 (upd (sc_ga S148 22) r148.toNatClampNeg (2 : Int32))) (fun S160 => sc_cv (fn_X5_record S160 (4 : Int32) r148 x3) (fun S166 => sc_ck r148 12 (sc_sq (sc_mB S166 23 (vp_updL (sc_gb S166 23) r148.toNatClampNeg (0 : Int64))) (fun S176 => k2 S176 x1))))))
noncomputable def fn_X5_countByKeeps_251 (k191 : sc_M → Int32 → Int32 → Option (sc_M)) (S : sc_M) (x1 : Int32) (x7 : Int32) (z0 : Int64) : Option (sc_M) :=
  if z0 ≤ (1000000 : Int64) then
    sc_ck x7 12 (sc_sq (sc_mB S 23 (vp_updL (sc_gb S 23) x7.toNatClampNeg z0)) (fun S276 => k191 S276 x1 (x7 + 1)))
  else
    sc_ck x7 12 (sc_sq (sc_mB S 23 (vp_updL (sc_gb S 23) x7.toNatClampNeg (1000000 : Int64))) (fun S276 => k191 S276 x1 (x7 + 1)))
noncomputable def fn_X5_countByKeeps_191 (k2 : sc_M → Int32 → Option (sc_M)) : Nat → sc_M → Int32 → Int32 → Option (sc_M)
  | 0, _, _, _ => none
  | n + 1, S, x1, x7 =>
    if (sc_gi S 0) ≤ x7 then
      k2 S x1
    else
      sc_ck x7 12 (if (sc_ga S 22 x7.toNatClampNeg) = (1 : Int32) then
        sc_ck x7 12 (if (sc_gb S 21 x7.toNatClampNeg) = (0 : Int64) then
          fn_X5_countByKeeps_251 (fn_X5_countByKeeps_191 k2 n) S x1 x7 (1000000 : Int64)
        else
          sc_ck x7 12 (sc_ck x7 12 (sc_nl (sc_gb S 21 x7.toNatClampNeg) (fn_X5_countByKeeps_251 (fn_X5_countByKeeps_191 k2 n) S x1 x7 ((((sc_gb S 23 x7.toNatClampNeg) * (sc_gj S 0)) / (sc_gb S 21 x7.toNatClampNeg)) + (1 : Int64))))))
      else
        fn_X5_countByKeeps_191 k2 n S x1 (x7 + 1))
noncomputable def fn_X5_countByKeeps_180 (k2 : sc_M → Int32 → Option (sc_M)) (S : sc_M) (x1 : Int32) (x3 : Int64) : Option (sc_M) :=
  sc_cv (fn_X5_record S (3 : Int32) (-9 : Int32) x3) (fun S185 => fn_X5_countByKeeps_191 k2 sc_FU S185 x1 (0 : Int32))
noncomputable def fn_X5_countByKeeps_117 (k2 : sc_M → Int32 → Option (sc_M)) (S : sc_M) (x1 : Int32) (x2 : Int32) (x3 : Int64) (x5 : Int32) (z0 : Int32) : Option (sc_M) :=
  if (60 : Int32) ≤ x5 then
    fn_X5_countByKeeps_147 k2 S x1 x3
  else
    if (sc_gi S 7) = x2 then
      if x3 < (1000 : Int64) then
        fn_X5_countByKeeps_147 k2 S x1 x3
      else
        if z0 = 0 then
          fn_X5_countByKeeps_180 k2 S x1 x3
        else
          fn_X5_countByKeeps_147 k2 S x1 x3
    else
      fn_X5_countByKeeps_180 k2 S x1 x3
noncomputable def fn_X5_countByKeeps_116 (k2 : sc_M → Int32 → Option (sc_M)) (S : sc_M) (x1 : Int32) (x2 : Int32) (x3 : Int64) (x5 : Int32) : Option (sc_M) :=
  fn_X5_countByKeeps_117 k2 S x1 x2 x3 x5 (0 : Int32)
noncomputable def fn_X5_countByKeeps_12 (k2 : sc_M → Int32 → Option (sc_M)) : Nat → sc_M → Int32 → Option (sc_M)
  | 0, _, _ => none
  | n + 1, S, x2 =>
    if (sc_gi S 0) ≤ x2 then
      sc_sq ((sc_gi S 7)) (fun y50 => sc_cl (fn_X5_ends S) (fun r52 S52 => if r52 = 0 then
        sc_cl (fn_X5_excess S52) (fun r70 S70 => sc_sq ((sc_gi S70 6)) (fun y78 => if y78 ≤ 0 then
          fn_X5_countByKeeps_116 k2 S70 r52 y50 r70 y78
        else
          sc_ck (y78 - (1 : Int32)) 90 (if (sc_ga S70 7 (y78 - (1 : Int32)).toNatClampNeg) = (3 : Int32) then
            sc_ck (y78 - (1 : Int32)) 90 (if r70 < (sc_gb S70 13 (y78 - (1 : Int32)).toNatClampNeg) then
              fn_X5_countByKeeps_116 k2 S70 r52 y50 r70 y78
            else
              fn_X5_countByKeeps_117 k2 S70 r52 y50 r70 y78 (1 : Int32))
          else
            fn_X5_countByKeeps_116 k2 S70 r52 y50 r70 y78)))
      else
        sc_cv (fn_X5_record S52 (3 : Int32) (-9 : Int32) (0 : Int64)) (fun S65 => some S65)))
    else
      sc_ck x2 12 (sc_ck (((12 : Int32) * (sc_gi S 6)) + x2) 1080 (sc_sq (sc_mB S 16 (vp_updL (sc_gb S 16) (((12 : Int32) * (sc_gi S 6)) + x2).toNatClampNeg (sc_gb S 23 x2.toNatClampNeg))) (fun S39 => fn_X5_countByKeeps_12 k2 n S39 (x2 + 1))))
noncomputable def fn_X5_countByKeeps_2 : Nat → sc_M → Int32 → Option (sc_M)
  | 0, _, _ => none
  | n + 1, S, x1 =>
    if x1 = 0 then
      sc_cv (fn_X5_spread S) (fun S7 => fn_X5_countByKeeps_12 (fn_X5_countByKeeps_2 n) sc_FU S7 (0 : Int32))
    else
      some S
noncomputable def fn_X5_countByKeeps (S : sc_M) : Option (sc_M) :=
  fn_X5_countByKeeps_2 sc_FU S (0 : Int32)
section
variable {p : Program} {l : Launch} {e : Env} {s : State} {m : MethodId} {args : Array Value} {below : List Frame} {meth : Method} {c : Code} {Q : State → Prop} {dC : Nat → ClassId} {dI : Nat → Nat → Nat} {h : Nat → Nat} {cy : Nat → ClassId}
set_option maxHeartbeats 4000000 in
set_option maxRecDepth 100000 in
theorem wk_X5_countByKeeps_147 (C0 : CallFix p m c cX5_countByKeeps 10 s args wsX5_countByKeeps RX5) {S' : sc_M} (hR : sc_Rv p l e rm_X5_countByKeeps s m args below meth c Q cX5_countByKeeps (sc_EM dC dI h cy) S') {k2 : sc_M → Int32 → Option (sc_M)} (hk2 : ∀ (S : sc_M) (x1 : Int32) (H : Heap) (locs : List Loc) (ls : Array Slot), k2 S x1 = some S' → sc_W (sc_EM dC dI h cy) s H locs S → lv_has ls 10 [(0, .ref (h 0)), (1, .int x1)] → W p l e rm_X5_countByKeeps s m args below meth c H locs 0 0 Q (F0 m 2 ls [])) : ∀ (S : sc_M) (x1 : Int32) (x3 : Int64) (H : Heap) (locs : List Loc) (ls : Array Slot), fn_X5_countByKeeps_147 k2 S x1 x3 = some S' → sc_W (sc_EM dC dI h cy) s H locs S → lv_has ls 10 [(0, .ref (h 0)), (1, .int x1), (3, .long x3)] → W p l e rm_X5_countByKeeps s m args below meth c H locs 0 0 Q (F0 m 147 ls []) := by
  obtain ⟨hx, hb, hml, hown, hts⟩ := id C0
  intro S x1 x3 H locs ls hf hW hl
  rw [fn_X5_countByKeeps_147] at hf
  refine lv_aload_n hx hb dX5_countByKeeps_147 rfl (lv_at hl 0 rfl) ?_
  obtain ⟨r148, S148, hc, hf⟩ := sc_cl_s hf
  refine sc_callVi (As := []) (rest := []) (q0 := 0) (ci := 4) sc_okM C0 hW (ct_X5_fewest hc) (cwV 0 hts gX5_countByKeeps_X5_fewest rfl rfl rfl (by decide +kernel) ⟨Nat.le_of_ble_eq_true rfl, Nat.le_of_ble_eq_true rfl⟩) rfl rfl rfl rfl hl.1 rfl (Nat.le_of_ble_eq_true rfl) dX5_countByKeeps_148 (fun H locs hW => ?_)
  refine lv_istore (lv' := [(7, .int r148), (0, .ref (h 0)), (1, .int x1), (3, .long x3)]) hx hb dX5_countByKeeps_151 hl (by decide) rfl (fun ls hl => ?_)
  refine lv_aload_n hx hb dX5_countByKeeps_153 rfl (lv_at hl 1 rfl) ?_
  refine sc_getX5 C0 hW ni_X5_countByKeeps_X5 29 (Nat.le_of_ble_eq_true rfl) lk_X5_countByKeeps_75 (v := .ref (h 22)) rfl dX5_countByKeeps_154 ?_
  refine lv_iload hx hb dX5_countByKeeps_157 (lv_at hl 0 rfl) ?_
  refine lv_iconst (v := (2 : Int32)) hx hb dX5_countByKeeps_159 (by decide) ?_
  obtain ⟨hv, hf⟩ := sc_ck_s hf
  obtain ⟨S160, eS160, hf⟩ := sc_sq_s hf
  refine sc_stM_22 C0 hW hv eS160 dX5_countByKeeps_160 (fun H locs hW => ?_)
  refine lv_aload_n hx hb dX5_countByKeeps_161 rfl (lv_at hl 1 rfl) ?_
  refine lv_iconst (v := (4 : Int32)) hx hb dX5_countByKeeps_162 (by decide) ?_
  refine lv_iload hx hb dX5_countByKeeps_163 (lv_at hl 0 rfl) ?_
  refine lv_lload_n hx hb dX5_countByKeeps_165 rfl (lv_at hl 3 rfl) ?_
  obtain ⟨S166, hc, hf⟩ := sc_cv_s hf
  refine sc_callVv (As := [.int (4 : Int32), .int r148, .long x3]) (rest := []) (q0 := 0) (ci := 4) sc_okM C0 hW (ct_X5_record hc) (cwV 3 hts gX5_countByKeeps_X5_record rfl rfl rfl (by decide +kernel) ⟨Nat.le_of_ble_eq_true rfl, Nat.le_of_ble_eq_true rfl⟩) rfl rfl rfl rfl hl.1 rfl (Nat.le_of_ble_eq_true rfl) dX5_countByKeeps_166 (fun H locs hW => ?_)
  refine lv_aload_n hx hb dX5_countByKeeps_169 rfl (lv_at hl 1 rfl) ?_
  refine sc_getX5 C0 hW ni_X5_countByKeeps_X5 30 (Nat.le_of_ble_eq_true rfl) lk_X5_countByKeeps_78 (v := .ref (h 23)) rfl dX5_countByKeeps_170 ?_
  refine lv_iload hx hb dX5_countByKeeps_173 (lv_at hl 0 rfl) ?_
  refine lv_lconst (v := (0 : Int64)) hx hb dX5_countByKeeps_175 (by decide) ?_
  obtain ⟨hv, hf⟩ := sc_ck_s hf
  obtain ⟨S176, eS176, hf⟩ := sc_sq_s hf
  refine sc_stM_23 C0 hW hv eS176 dX5_countByKeeps_176 (fun H locs hW => ?_)
  refine lv_goto (tgt := 283) hx hb dX5_countByKeeps_177 (by decide) ?_
  refine lv_goto (tgt := 2) hx hb dX5_countByKeeps_283 (by decide) ?_
  exact hk2 _ _ _ _ _ hf hW (lv_sub hl [1, 2] rfl)
set_option maxHeartbeats 4000000 in
set_option maxRecDepth 100000 in
theorem wk_X5_countByKeeps_251 (C0 : CallFix p m c cX5_countByKeeps 10 s args wsX5_countByKeeps RX5) {S' : sc_M} (hR : sc_Rv p l e rm_X5_countByKeeps s m args below meth c Q cX5_countByKeeps (sc_EM dC dI h cy) S') {k191 : sc_M → Int32 → Int32 → Option (sc_M)} (hk191 : ∀ (S : sc_M) (x1 : Int32) (x7 : Int32) (H : Heap) (locs : List Loc) (ls : Array Slot), k191 S x1 x7 = some S' → sc_W (sc_EM dC dI h cy) s H locs S → lv_has ls 10 [(0, .ref (h 0)), (1, .int x1), (7, .int x7)] → W p l e rm_X5_countByKeeps s m args below meth c H locs 0 0 Q (F0 m 191 ls [])) : ∀ (S : sc_M) (x1 : Int32) (x7 : Int32) (z0 : Int64) (H : Heap) (locs : List Loc) (ls : Array Slot), fn_X5_countByKeeps_251 k191 S x1 x7 z0 = some S' → sc_W (sc_EM dC dI h cy) s H locs S → lv_has ls 10 [(0, .ref (h 0)), (1, .int x1), (7, .int x7)] → W p l e rm_X5_countByKeeps s m args below meth c H locs 0 0 Q (F0 m 251 ls [.long z0]) := by
  obtain ⟨hx, hb, hml, hown, hts⟩ := id C0
  intro S x1 x7 z0 H locs ls hf hW hl
  rw [fn_X5_countByKeeps_251] at hf
  refine lv_lstore (lv' := [(8, .long z0), (0, .ref (h 0)), (1, .int x1), (7, .int x7)]) hx hb dX5_countByKeeps_251 hl (by decide) rfl (fun ls hl => ?_)
  refine lv_aload_n hx hb dX5_countByKeeps_253 rfl (lv_at hl 1 rfl) ?_
  refine sc_getX5 C0 hW ni_X5_countByKeeps_X5 30 (Nat.le_of_ble_eq_true rfl) lk_X5_countByKeeps_78 (v := .ref (h 23)) rfl dX5_countByKeeps_254 ?_
  refine lv_iload hx hb dX5_countByKeeps_257 (lv_at hl 3 rfl) ?_
  refine lv_lload hx hb dX5_countByKeeps_259 (lv_at hl 0 rfl) ?_
  refine lv_ldc2 (v := (1000000 : Int64)) hx hb hown (hts _ lk_X5_countByKeeps_196) dX5_countByKeeps_261 ?_
  refine sc_l_le (tgt := 274) C0 dX5_countByKeeps_264 dX5_countByKeeps_265 (by decide) (fun hc => ?_) (fun hc => ?_)
  · replace hf := sc_ip hc hf
    refine lv_lload hx hb dX5_countByKeeps_274 (lv_at hl 0 rfl) ?_
    obtain ⟨hv, hf⟩ := sc_ck_s hf
    obtain ⟨S276, eS276, hf⟩ := sc_sq_s hf
    refine sc_stM_23 C0 hW hv eS276 dX5_countByKeeps_276 (fun H locs hW => ?_)
    refine lv_iinc (v := (x7 + 1)) (lv' := [(7, .int (x7 + 1)), (8, .long z0), (0, .ref (h 0)), (1, .int x1)]) hx hb dX5_countByKeeps_277 hl (k := 3) rfl rfl (by decide) rfl (fun ls hl => ?_)
    refine lv_goto (tgt := 191) hx hb dX5_countByKeeps_280 (by decide) ?_
    exact hk191 _ _ _ _ _ _ hf hW (lv_sub hl [2, 3, 0] rfl)
  · replace hf := sc_in hc hf
    refine lv_ldc2 (v := (1000000 : Int64)) hx hb hown (hts _ lk_X5_countByKeeps_196) dX5_countByKeeps_268 ?_
    refine lv_goto (tgt := 276) hx hb dX5_countByKeeps_271 (by decide) ?_
    obtain ⟨hv, hf⟩ := sc_ck_s hf
    obtain ⟨S276, eS276, hf⟩ := sc_sq_s hf
    refine sc_stM_23 C0 hW hv eS276 dX5_countByKeeps_276 (fun H locs hW => ?_)
    refine lv_iinc (v := (x7 + 1)) (lv' := [(7, .int (x7 + 1)), (8, .long z0), (0, .ref (h 0)), (1, .int x1)]) hx hb dX5_countByKeeps_277 hl (k := 3) rfl rfl (by decide) rfl (fun ls hl => ?_)
    refine lv_goto (tgt := 191) hx hb dX5_countByKeeps_280 (by decide) ?_
    exact hk191 _ _ _ _ _ _ hf hW (lv_sub hl [2, 3, 0] rfl)
set_option maxHeartbeats 4000000 in
set_option maxRecDepth 100000 in
theorem wk_X5_countByKeeps_191 (C0 : CallFix p m c cX5_countByKeeps 10 s args wsX5_countByKeeps RX5) {S' : sc_M} (hR : sc_Rv p l e rm_X5_countByKeeps s m args below meth c Q cX5_countByKeeps (sc_EM dC dI h cy) S') {k2 : sc_M → Int32 → Option (sc_M)} (hk2 : ∀ (S : sc_M) (x1 : Int32) (H : Heap) (locs : List Loc) (ls : Array Slot), k2 S x1 = some S' → sc_W (sc_EM dC dI h cy) s H locs S → lv_has ls 10 [(0, .ref (h 0)), (1, .int x1)] → W p l e rm_X5_countByKeeps s m args below meth c H locs 0 0 Q (F0 m 2 ls [])) : ∀ n : Nat, ∀ (S : sc_M) (x1 : Int32) (x7 : Int32) (H : Heap) (locs : List Loc) (ls : Array Slot), fn_X5_countByKeeps_191 k2 n S x1 x7 = some S' → sc_W (sc_EM dC dI h cy) s H locs S → lv_has ls 10 [(0, .ref (h 0)), (1, .int x1), (7, .int x7)] → W p l e rm_X5_countByKeeps s m args below meth c H locs 0 0 Q (F0 m 191 ls []) := by
  obtain ⟨hx, hb, hml, hown, hts⟩ := id C0
  intro n
  induction n with
  | zero => intro S x1 x7 H locs ls; intro hf; cases hf
  | succ n ih =>
    intro S x1 x7 H locs ls hf hW hl
    rw [fn_X5_countByKeeps_191] at hf
    refine lv_iload hx hb dX5_countByKeeps_191 (lv_at hl 2 rfl) ?_
    refine lv_aload_n hx hb dX5_countByKeeps_193 rfl (lv_at hl 0 rfl) ?_
    refine sc_getX5 C0 hW ni_X5_countByKeeps_X5 0 (Nat.le_of_ble_eq_true rfl) lk_X5_countByKeeps_101 (v := .int (sc_gi S 0)) rfl dX5_countByKeeps_194 ?_
    refine lv_icmp_ge (tgt := 283) hx hb dX5_countByKeeps_197 (by decide) (fun hc => ?_) (fun hc => ?_)
    · replace hf := sc_ip hc hf
      refine lv_goto (tgt := 2) hx hb dX5_countByKeeps_283 (by decide) ?_
      exact hk2 _ _ _ _ _ hf hW (lv_sub hl [0, 1] rfl)
    · replace hf := sc_in hc hf
      refine lv_aload_n hx hb dX5_countByKeeps_200 rfl (lv_at hl 0 rfl) ?_
      refine sc_getX5 C0 hW ni_X5_countByKeeps_X5 29 (Nat.le_of_ble_eq_true rfl) lk_X5_countByKeeps_75 (v := .ref (h 22)) rfl dX5_countByKeeps_201 ?_
      refine lv_iload hx hb dX5_countByKeeps_204 (lv_at hl 2 rfl) ?_
      obtain ⟨hv, hf⟩ := sc_ck_s hf
      refine sc_ldM_22 C0 hW hv dX5_countByKeeps_206 ?_
      refine lv_iconst (v := (1 : Int32)) hx hb dX5_countByKeeps_207 (by decide) ?_
      refine lv_icmp_ne (tgt := 277) hx hb dX5_countByKeeps_208 (by decide) (fun hc => ?_) (fun hc => ?_)
      · replace hf := sc_in hc hf
        refine lv_iinc (v := (x7 + 1)) (lv' := [(7, .int (x7 + 1)), (0, .ref (h 0)), (1, .int x1)]) hx hb dX5_countByKeeps_277 hl (k := 2) rfl rfl (by decide) rfl (fun ls hl => ?_)
        refine lv_goto (tgt := 191) hx hb dX5_countByKeeps_280 (by decide) ?_
        exact ih _ _ _ _ _ _ hf hW (lv_sub hl [1, 2, 0] rfl)
      · replace hf := sc_ip hc hf
        refine lv_aload_n hx hb dX5_countByKeeps_211 rfl (lv_at hl 0 rfl) ?_
        refine sc_getX5 C0 hW ni_X5_countByKeeps_X5 28 (Nat.le_of_ble_eq_true rfl) lk_X5_countByKeeps_72 (v := .ref (h 21)) rfl dX5_countByKeeps_212 ?_
        refine lv_iload hx hb dX5_countByKeeps_215 (lv_at hl 2 rfl) ?_
        obtain ⟨hv, hf⟩ := sc_ck_s hf
        refine sc_ldM_21 C0 hW hv dX5_countByKeeps_217 ?_
        refine lv_lconst (v := (0 : Int64)) hx hb dX5_countByKeeps_218 (by decide) ?_
        refine sc_l_ne (tgt := 229) C0 dX5_countByKeeps_219 dX5_countByKeeps_220 (by decide) (fun hc => ?_) (fun hc => ?_)
        · replace hf := sc_in hc hf
          refine lv_aload_n hx hb dX5_countByKeeps_229 rfl (lv_at hl 0 rfl) ?_
          refine sc_getX5 C0 hW ni_X5_countByKeeps_X5 30 (Nat.le_of_ble_eq_true rfl) lk_X5_countByKeeps_78 (v := .ref (h 23)) rfl dX5_countByKeeps_230 ?_
          refine lv_iload hx hb dX5_countByKeeps_233 (lv_at hl 2 rfl) ?_
          obtain ⟨hv, hf⟩ := sc_ck_s hf
          refine sc_ldM_23 C0 hW hv dX5_countByKeeps_235 ?_
          refine lv_aload_n hx hb dX5_countByKeeps_236 rfl (lv_at hl 0 rfl) ?_
          refine sc_getX5 C0 hW ni_X5_countByKeeps_X5 34 (Nat.le_of_ble_eq_true rfl) lk_X5_countByKeeps_138 (v := .long (sc_gj S 0)) rfl dX5_countByKeeps_237 ?_
          refine lv_lmul hx hb dX5_countByKeeps_240 ?_
          refine lv_aload_n hx hb dX5_countByKeeps_241 rfl (lv_at hl 0 rfl) ?_
          refine sc_getX5 C0 hW ni_X5_countByKeeps_X5 28 (Nat.le_of_ble_eq_true rfl) lk_X5_countByKeeps_72 (v := .ref (h 21)) rfl dX5_countByKeeps_242 ?_
          refine lv_iload hx hb dX5_countByKeeps_245 (lv_at hl 2 rfl) ?_
          obtain ⟨hv, hf⟩ := sc_ck_s hf
          refine sc_ldM_21 C0 hW hv dX5_countByKeeps_247 ?_
          obtain ⟨hz, hf⟩ := sc_nl_s hf
          refine lv_ldiv hx hb dX5_countByKeeps_248 hz ?_
          refine lv_lconst (v := (1 : Int64)) hx hb dX5_countByKeeps_249 (by decide) ?_
          refine lv_ladd hx hb dX5_countByKeeps_250 ?_
          exact wk_X5_countByKeeps_251 C0 hR ih _ _ _ _ _ _ _ hf hW (lv_sub hl [0, 1, 2] rfl)
        · replace hf := sc_ip hc hf
          refine lv_ldc2 (v := (1000000 : Int64)) hx hb hown (hts _ lk_X5_countByKeeps_196) dX5_countByKeeps_223 ?_
          refine lv_goto (tgt := 251) hx hb dX5_countByKeeps_226 (by decide) ?_
          exact wk_X5_countByKeeps_251 C0 hR ih _ _ _ _ _ _ _ hf hW (lv_sub hl [0, 1, 2] rfl)
set_option maxHeartbeats 4000000 in
set_option maxRecDepth 100000 in
theorem wk_X5_countByKeeps_180 (C0 : CallFix p m c cX5_countByKeeps 10 s args wsX5_countByKeeps RX5) {S' : sc_M} (hR : sc_Rv p l e rm_X5_countByKeeps s m args below meth c Q cX5_countByKeeps (sc_EM dC dI h cy) S') {k2 : sc_M → Int32 → Option (sc_M)} (hk2 : ∀ (S : sc_M) (x1 : Int32) (H : Heap) (locs : List Loc) (ls : Array Slot), k2 S x1 = some S' → sc_W (sc_EM dC dI h cy) s H locs S → lv_has ls 10 [(0, .ref (h 0)), (1, .int x1)] → W p l e rm_X5_countByKeeps s m args below meth c H locs 0 0 Q (F0 m 2 ls [])) : ∀ (S : sc_M) (x1 : Int32) (x3 : Int64) (H : Heap) (locs : List Loc) (ls : Array Slot), fn_X5_countByKeeps_180 k2 S x1 x3 = some S' → sc_W (sc_EM dC dI h cy) s H locs S → lv_has ls 10 [(0, .ref (h 0)), (1, .int x1), (3, .long x3)] → W p l e rm_X5_countByKeeps s m args below meth c H locs 0 0 Q (F0 m 180 ls []) := by
  obtain ⟨hx, hb, hml, hown, hts⟩ := id C0
  intro S x1 x3 H locs ls hf hW hl
  rw [fn_X5_countByKeeps_180] at hf
  refine lv_aload_n hx hb dX5_countByKeeps_180 rfl (lv_at hl 0 rfl) ?_
  refine lv_iconst (v := (3 : Int32)) hx hb dX5_countByKeeps_181 (by decide) ?_
  refine lv_bipush (v := (-9 : Int32)) hx hb dX5_countByKeeps_182 (by decide) ?_
  refine lv_lload_n hx hb dX5_countByKeeps_184 rfl (lv_at hl 2 rfl) ?_
  obtain ⟨S185, hc, hf⟩ := sc_cv_s hf
  refine sc_callVv (As := [.int (3 : Int32), .int (-9 : Int32), .long x3]) (rest := []) (q0 := 0) (ci := 4) sc_okM C0 hW (ct_X5_record hc) (cwV 3 hts gX5_countByKeeps_X5_record rfl rfl rfl (by decide +kernel) ⟨Nat.le_of_ble_eq_true rfl, Nat.le_of_ble_eq_true rfl⟩) rfl rfl rfl rfl hl.1 rfl (Nat.le_of_ble_eq_true rfl) dX5_countByKeeps_185 (fun H locs hW => ?_)
  refine lv_iconst (v := (0 : Int32)) hx hb dX5_countByKeeps_188 (by decide) ?_
  refine lv_istore (lv' := [(7, .int (0 : Int32)), (0, .ref (h 0)), (1, .int x1), (3, .long x3)]) hx hb dX5_countByKeeps_189 hl (by decide) rfl (fun ls hl => ?_)
  exact wk_X5_countByKeeps_191 C0 hR hk2 sc_FU _ _ _ _ _ _ hf hW (lv_sub hl [1, 2, 0] rfl)
set_option maxHeartbeats 4000000 in
set_option maxRecDepth 100000 in
theorem wk_X5_countByKeeps_117 (C0 : CallFix p m c cX5_countByKeeps 10 s args wsX5_countByKeeps RX5) {S' : sc_M} (hR : sc_Rv p l e rm_X5_countByKeeps s m args below meth c Q cX5_countByKeeps (sc_EM dC dI h cy) S') {k2 : sc_M → Int32 → Option (sc_M)} (hk2 : ∀ (S : sc_M) (x1 : Int32) (H : Heap) (locs : List Loc) (ls : Array Slot), k2 S x1 = some S' → sc_W (sc_EM dC dI h cy) s H locs S → lv_has ls 10 [(0, .ref (h 0)), (1, .int x1)] → W p l e rm_X5_countByKeeps s m args below meth c H locs 0 0 Q (F0 m 2 ls [])) : ∀ (S : sc_M) (x1 : Int32) (x2 : Int32) (x3 : Int64) (x5 : Int32) (z0 : Int32) (H : Heap) (locs : List Loc) (ls : Array Slot), fn_X5_countByKeeps_117 k2 S x1 x2 x3 x5 z0 = some S' → sc_W (sc_EM dC dI h cy) s H locs S → lv_has ls 10 [(0, .ref (h 0)), (1, .int x1), (2, .int x2), (3, .long x3), (5, .int x5)] → W p l e rm_X5_countByKeeps s m args below meth c H locs 0 0 Q (F0 m 117 ls [.int z0]) := by
  obtain ⟨hx, hb, hml, hown, hts⟩ := id C0
  intro S x1 x2 x3 x5 z0 H locs ls hf hW hl
  rw [fn_X5_countByKeeps_117] at hf
  refine lv_istore (lv' := [(6, .int z0), (0, .ref (h 0)), (1, .int x1), (2, .int x2), (3, .long x3), (5, .int x5)]) hx hb dX5_countByKeeps_117 hl (by decide) rfl (fun ls hl => ?_)
  refine lv_iload hx hb dX5_countByKeeps_119 (lv_at hl 5 rfl) ?_
  refine lv_bipush (v := (60 : Int32)) hx hb dX5_countByKeeps_121 (by decide) ?_
  refine lv_icmp_ge (tgt := 147) hx hb dX5_countByKeeps_123 (by decide) (fun hc => ?_) (fun hc => ?_)
  · replace hf := sc_ip hc hf
    exact wk_X5_countByKeeps_147 C0 hR hk2 _ _ _ _ _ _ hf hW (lv_sub hl [1, 2, 4] rfl)
  · replace hf := sc_in hc hf
    refine lv_aload_n hx hb dX5_countByKeeps_126 rfl (lv_at hl 1 rfl) ?_
    refine sc_getX5 C0 hW ni_X5_countByKeeps_X5 27 (Nat.le_of_ble_eq_true rfl) lk_X5_countByKeeps_135 (v := .int (sc_gi S 7)) rfl dX5_countByKeeps_127 ?_
    refine lv_iload_n hx hb dX5_countByKeeps_130 rfl (lv_at hl 3 rfl) ?_
    refine lv_icmp_ne (tgt := 180) hx hb dX5_countByKeeps_131 (by decide) (fun hc => ?_) (fun hc => ?_)
    · replace hf := sc_in hc hf
      exact wk_X5_countByKeeps_180 C0 hR hk2 _ _ _ _ _ _ hf hW (lv_sub hl [1, 2, 4] rfl)
    · replace hf := sc_ip hc hf
      refine lv_lload_n hx hb dX5_countByKeeps_134 rfl (lv_at hl 4 rfl) ?_
      refine lv_ldc2 (v := (1000 : Int64)) hx hb hown (hts _ lk_X5_countByKeeps_205) dX5_countByKeeps_135 ?_
      refine sc_l_lt (tgt := 147) C0 dX5_countByKeeps_138 dX5_countByKeeps_139 (by decide) (fun hc => ?_) (fun hc => ?_)
      · replace hf := sc_ip hc hf
        exact wk_X5_countByKeeps_147 C0 hR hk2 _ _ _ _ _ _ hf hW (lv_sub hl [1, 2, 4] rfl)
      · replace hf := sc_in hc hf
        refine lv_iload hx hb dX5_countByKeeps_142 (lv_at hl 0 rfl) ?_
        refine lv_if_eq (tgt := 180) hx hb dX5_countByKeeps_144 (by decide) (fun hc => ?_) (fun hc => ?_)
        · replace hf := sc_ip hc hf
          exact wk_X5_countByKeeps_180 C0 hR hk2 _ _ _ _ _ _ hf hW (lv_sub hl [1, 2, 4] rfl)
        · replace hf := sc_in hc hf
          exact wk_X5_countByKeeps_147 C0 hR hk2 _ _ _ _ _ _ hf hW (lv_sub hl [1, 2, 4] rfl)
set_option maxHeartbeats 4000000 in
set_option maxRecDepth 100000 in
theorem wk_X5_countByKeeps_116 (C0 : CallFix p m c cX5_countByKeeps 10 s args wsX5_countByKeeps RX5) {S' : sc_M} (hR : sc_Rv p l e rm_X5_countByKeeps s m args below meth c Q cX5_countByKeeps (sc_EM dC dI h cy) S') {k2 : sc_M → Int32 → Option (sc_M)} (hk2 : ∀ (S : sc_M) (x1 : Int32) (H : Heap) (locs : List Loc) (ls : Array Slot), k2 S x1 = some S' → sc_W (sc_EM dC dI h cy) s H locs S → lv_has ls 10 [(0, .ref (h 0)), (1, .int x1)] → W p l e rm_X5_countByKeeps s m args below meth c H locs 0 0 Q (F0 m 2 ls [])) : ∀ (S : sc_M) (x1 : Int32) (x2 : Int32) (x3 : Int64) (x5 : Int32) (H : Heap) (locs : List Loc) (ls : Array Slot), fn_X5_countByKeeps_116 k2 S x1 x2 x3 x5 = some S' → sc_W (sc_EM dC dI h cy) s H locs S → lv_has ls 10 [(0, .ref (h 0)), (1, .int x1), (2, .int x2), (3, .long x3), (5, .int x5)] → W p l e rm_X5_countByKeeps s m args below meth c H locs 0 0 Q (F0 m 116 ls []) := by
  obtain ⟨hx, hb, hml, hown, hts⟩ := id C0
  intro S x1 x2 x3 x5 H locs ls hf hW hl
  rw [fn_X5_countByKeeps_116] at hf
  refine lv_iconst (v := (0 : Int32)) hx hb dX5_countByKeeps_116 (by decide) ?_
  exact wk_X5_countByKeeps_117 C0 hR hk2 _ _ _ _ _ _ _ _ _ hf hW (lv_sub hl [0, 1, 2, 3, 4] rfl)
set_option maxHeartbeats 4000000 in
set_option maxRecDepth 100000 in
theorem wk_X5_countByKeeps_12 (C0 : CallFix p m c cX5_countByKeeps 10 s args wsX5_countByKeeps RX5) {S' : sc_M} (hR : sc_Rv p l e rm_X5_countByKeeps s m args below meth c Q cX5_countByKeeps (sc_EM dC dI h cy) S') {k2 : sc_M → Int32 → Option (sc_M)} (hk2 : ∀ (S : sc_M) (x1 : Int32) (H : Heap) (locs : List Loc) (ls : Array Slot), k2 S x1 = some S' → sc_W (sc_EM dC dI h cy) s H locs S → lv_has ls 10 [(0, .ref (h 0)), (1, .int x1)] → W p l e rm_X5_countByKeeps s m args below meth c H locs 0 0 Q (F0 m 2 ls [])) : ∀ n : Nat, ∀ (S : sc_M) (x2 : Int32) (H : Heap) (locs : List Loc) (ls : Array Slot), fn_X5_countByKeeps_12 k2 n S x2 = some S' → sc_W (sc_EM dC dI h cy) s H locs S → lv_has ls 10 [(0, .ref (h 0)), (2, .int x2)] → W p l e rm_X5_countByKeeps s m args below meth c H locs 0 0 Q (F0 m 12 ls []) := by
  obtain ⟨hx, hb, hml, hown, hts⟩ := id C0
  intro n
  induction n with
  | zero => intro S x2 H locs ls; intro hf; cases hf
  | succ n ih =>
    intro S x2 H locs ls hf hW hl
    rw [fn_X5_countByKeeps_12] at hf
    refine lv_iload_n hx hb dX5_countByKeeps_12 rfl (lv_at hl 1 rfl) ?_
    refine lv_aload_n hx hb dX5_countByKeeps_13 rfl (lv_at hl 0 rfl) ?_
    refine sc_getX5 C0 hW ni_X5_countByKeeps_X5 0 (Nat.le_of_ble_eq_true rfl) lk_X5_countByKeeps_101 (v := .int (sc_gi S 0)) rfl dX5_countByKeeps_14 ?_
    refine lv_icmp_ge (tgt := 46) hx hb dX5_countByKeeps_17 (by decide) (fun hc => ?_) (fun hc => ?_)
    · replace hf := sc_ip hc hf
      refine lv_aload_n hx hb dX5_countByKeeps_46 rfl (lv_at hl 0 rfl) ?_
      refine sc_getX5 C0 hW ni_X5_countByKeeps_X5 27 (Nat.le_of_ble_eq_true rfl) lk_X5_countByKeeps_135 (v := .int (sc_gi S 7)) rfl dX5_countByKeeps_47 ?_
      obtain ⟨y50, ey50, hf⟩ := sc_sq_s hf
      refine sc_topi ey50 ?_
      refine lv_istore_n (lv' := [(2, .int y50), (0, .ref (h 0))]) hx hb dX5_countByKeeps_50 rfl hl (by decide) rfl (fun ls hl => ?_)
      refine lv_aload_n hx hb dX5_countByKeeps_51 rfl (lv_at hl 1 rfl) ?_
      obtain ⟨r52, S52, hc, hf⟩ := sc_cl_s hf
      refine sc_callVi (As := []) (rest := []) (q0 := 0) (ci := 4) sc_okM C0 hW (ct_X5_ends hc) (cwV 0 hts gX5_countByKeeps_X5_ends rfl rfl rfl (by decide +kernel) ⟨Nat.le_of_ble_eq_true rfl, Nat.le_of_ble_eq_true rfl⟩) rfl rfl rfl rfl hl.1 rfl (Nat.le_of_ble_eq_true rfl) dX5_countByKeeps_52 (fun H locs hW => ?_)
      refine lv_istore_n (lv' := [(1, .int r52), (2, .int y50), (0, .ref (h 0))]) hx hb dX5_countByKeeps_55 rfl hl (by decide) rfl (fun ls hl => ?_)
      refine lv_iload_n hx hb dX5_countByKeeps_56 rfl (lv_at hl 0 rfl) ?_
      refine lv_if_eq (tgt := 69) hx hb dX5_countByKeeps_57 (by decide) (fun hc => ?_) (fun hc => ?_)
      · replace hf := sc_ip hc hf
        refine lv_aload_n hx hb dX5_countByKeeps_69 rfl (lv_at hl 2 rfl) ?_
        obtain ⟨r70, S70, hc, hf⟩ := sc_cl_s hf
        refine sc_callVl (As := []) (rest := []) (q0 := 0) (ci := 4) sc_okM C0 hW (ct_X5_excess hc) (cwV 0 hts gX5_countByKeeps_X5_excess rfl rfl rfl (by decide +kernel) ⟨Nat.le_of_ble_eq_true rfl, Nat.le_of_ble_eq_true rfl⟩) rfl rfl rfl rfl hl.1 rfl (Nat.le_of_ble_eq_true rfl) dX5_countByKeeps_70 (fun H locs hW => ?_)
        refine lv_lstore_n (lv' := [(3, .long r70), (1, .int r52), (2, .int y50), (0, .ref (h 0))]) hx hb dX5_countByKeeps_73 rfl hl (by decide) rfl (fun ls hl => ?_)
        refine lv_aload_n hx hb dX5_countByKeeps_74 rfl (lv_at hl 3 rfl) ?_
        refine sc_getX5 C0 hW ni_X5_countByKeeps_X5 12 (Nat.le_of_ble_eq_true rfl) lk_X5_countByKeeps_124 (v := .int (sc_gi S70 6)) rfl dX5_countByKeeps_75 ?_
        obtain ⟨y78, ey78, hf⟩ := sc_sq_s hf
        refine sc_topi ey78 ?_
        refine lv_istore (lv' := [(5, .int y78), (3, .long r70), (1, .int r52), (2, .int y50), (0, .ref (h 0))]) hx hb dX5_countByKeeps_78 hl (by decide) rfl (fun ls hl => ?_)
        refine lv_iload hx hb dX5_countByKeeps_80 (lv_at hl 0 rfl) ?_
        refine lv_if_le (tgt := 116) hx hb dX5_countByKeeps_82 (by decide) (fun hc => ?_) (fun hc => ?_)
        · replace hf := sc_ip hc hf
          exact wk_X5_countByKeeps_116 C0 hR hk2 _ _ _ _ _ _ _ _ hf hW (lv_sub hl [4, 2, 3, 1, 0] rfl)
        · replace hf := sc_in hc hf
          refine lv_aload_n hx hb dX5_countByKeeps_85 rfl (lv_at hl 4 rfl) ?_
          refine sc_getX5 C0 hW ni_X5_countByKeeps_X5 13 (Nat.le_of_ble_eq_true rfl) lk_X5_countByKeeps_29 (v := .ref (h 7)) rfl dX5_countByKeeps_86 ?_
          refine lv_iload hx hb dX5_countByKeeps_89 (lv_at hl 0 rfl) ?_
          refine lv_iconst (v := (1 : Int32)) hx hb dX5_countByKeeps_91 (by decide) ?_
          refine lv_isub hx hb dX5_countByKeeps_92 ?_
          obtain ⟨hv, hf⟩ := sc_ck_s hf
          refine sc_ldM_7 C0 hW hv dX5_countByKeeps_93 ?_
          refine lv_iconst (v := (3 : Int32)) hx hb dX5_countByKeeps_94 (by decide) ?_
          refine lv_icmp_ne (tgt := 116) hx hb dX5_countByKeeps_95 (by decide) (fun hc => ?_) (fun hc => ?_)
          · replace hf := sc_in hc hf
            exact wk_X5_countByKeeps_116 C0 hR hk2 _ _ _ _ _ _ _ _ hf hW (lv_sub hl [4, 2, 3, 1, 0] rfl)
          · replace hf := sc_ip hc hf
            refine lv_lload_n hx hb dX5_countByKeeps_98 rfl (lv_at hl 1 rfl) ?_
            refine lv_aload_n hx hb dX5_countByKeeps_99 rfl (lv_at hl 4 rfl) ?_
            refine sc_getX5 C0 hW ni_X5_countByKeeps_X5 19 (Nat.le_of_ble_eq_true rfl) lk_X5_countByKeeps_48 (v := .ref (h 13)) rfl dX5_countByKeeps_100 ?_
            refine lv_iload hx hb dX5_countByKeeps_103 (lv_at hl 0 rfl) ?_
            refine lv_iconst (v := (1 : Int32)) hx hb dX5_countByKeeps_105 (by decide) ?_
            refine lv_isub hx hb dX5_countByKeeps_106 ?_
            obtain ⟨hv, hf⟩ := sc_ck_s hf
            refine sc_ldM_13 C0 hW hv dX5_countByKeeps_107 ?_
            refine sc_l_lt (tgt := 116) C0 dX5_countByKeeps_108 dX5_countByKeeps_109 (by decide) (fun hc => ?_) (fun hc => ?_)
            · replace hf := sc_ip hc hf
              exact wk_X5_countByKeeps_116 C0 hR hk2 _ _ _ _ _ _ _ _ hf hW (lv_sub hl [4, 2, 3, 1, 0] rfl)
            · replace hf := sc_in hc hf
              refine lv_iconst (v := (1 : Int32)) hx hb dX5_countByKeeps_112 (by decide) ?_
              refine lv_goto (tgt := 117) hx hb dX5_countByKeeps_113 (by decide) ?_
              exact wk_X5_countByKeeps_117 C0 hR hk2 _ _ _ _ _ _ _ _ _ hf hW (lv_sub hl [4, 2, 3, 1, 0] rfl)
      · replace hf := sc_in hc hf
        refine lv_aload_n hx hb dX5_countByKeeps_60 rfl (lv_at hl 2 rfl) ?_
        refine lv_iconst (v := (3 : Int32)) hx hb dX5_countByKeeps_61 (by decide) ?_
        refine lv_bipush (v := (-9 : Int32)) hx hb dX5_countByKeeps_62 (by decide) ?_
        refine lv_lconst (v := (0 : Int64)) hx hb dX5_countByKeeps_64 (by decide) ?_
        obtain ⟨S65, hc, hf⟩ := sc_cv_s hf
        refine sc_callVv (As := [.int (3 : Int32), .int (-9 : Int32), .long (0 : Int64)]) (rest := []) (q0 := 0) (ci := 4) sc_okM C0 hW (ct_X5_record hc) (cwV 3 hts gX5_countByKeeps_X5_record rfl rfl rfl (by decide +kernel) ⟨Nat.le_of_ble_eq_true rfl, Nat.le_of_ble_eq_true rfl⟩) rfl rfl rfl rfl hl.1 rfl (Nat.le_of_ble_eq_true rfl) dX5_countByKeeps_65 (fun H locs hW => ?_)
        exact sc_retv hR hf hW dX5_countByKeeps_68
    · replace hf := sc_in hc hf
      refine lv_aload_n hx hb dX5_countByKeeps_20 rfl (lv_at hl 0 rfl) ?_
      refine sc_getX5 C0 hW ni_X5_countByKeeps_X5 22 (Nat.le_of_ble_eq_true rfl) lk_X5_countByKeeps_57 (v := .ref (h 16)) rfl dX5_countByKeeps_21 ?_
      refine lv_bipush (v := (12 : Int32)) hx hb dX5_countByKeeps_24 (by decide) ?_
      refine lv_aload_n hx hb dX5_countByKeeps_26 rfl (lv_at hl 0 rfl) ?_
      refine sc_getX5 C0 hW ni_X5_countByKeeps_X5 12 (Nat.le_of_ble_eq_true rfl) lk_X5_countByKeeps_124 (v := .int (sc_gi S 6)) rfl dX5_countByKeeps_27 ?_
      refine lv_imul hx hb dX5_countByKeeps_30 ?_
      refine lv_iload_n hx hb dX5_countByKeeps_31 rfl (lv_at hl 1 rfl) ?_
      refine lv_iadd hx hb dX5_countByKeeps_32 ?_
      refine lv_aload_n hx hb dX5_countByKeeps_33 rfl (lv_at hl 0 rfl) ?_
      refine sc_getX5 C0 hW ni_X5_countByKeeps_X5 30 (Nat.le_of_ble_eq_true rfl) lk_X5_countByKeeps_78 (v := .ref (h 23)) rfl dX5_countByKeeps_34 ?_
      refine lv_iload_n hx hb dX5_countByKeeps_37 rfl (lv_at hl 1 rfl) ?_
      obtain ⟨hv, hf⟩ := sc_ck_s hf
      refine sc_ldM_23 C0 hW hv dX5_countByKeeps_38 ?_
      obtain ⟨hv, hf⟩ := sc_ck_s hf
      obtain ⟨S39, eS39, hf⟩ := sc_sq_s hf
      refine sc_stM_16 C0 hW hv eS39 dX5_countByKeeps_39 (fun H locs hW => ?_)
      refine lv_iinc (v := (x2 + 1)) (lv' := [(2, .int (x2 + 1)), (0, .ref (h 0))]) hx hb dX5_countByKeeps_40 hl (k := 1) rfl rfl (by decide) rfl (fun ls hl => ?_)
      refine lv_goto (tgt := 12) hx hb dX5_countByKeeps_43 (by decide) ?_
      exact ih _ _ _ _ _ hf hW (lv_sub hl [1, 0] rfl)
set_option maxHeartbeats 4000000 in
set_option maxRecDepth 100000 in
theorem wk_X5_countByKeeps_2 (C0 : CallFix p m c cX5_countByKeeps 10 s args wsX5_countByKeeps RX5) {S' : sc_M} (hR : sc_Rv p l e rm_X5_countByKeeps s m args below meth c Q cX5_countByKeeps (sc_EM dC dI h cy) S') : ∀ n : Nat, ∀ (S : sc_M) (x1 : Int32) (H : Heap) (locs : List Loc) (ls : Array Slot), fn_X5_countByKeeps_2 n S x1 = some S' → sc_W (sc_EM dC dI h cy) s H locs S → lv_has ls 10 [(0, .ref (h 0)), (1, .int x1)] → W p l e rm_X5_countByKeeps s m args below meth c H locs 0 0 Q (F0 m 2 ls []) := by
  obtain ⟨hx, hb, hml, hown, hts⟩ := id C0
  intro n
  induction n with
  | zero => intro S x1 H locs ls; intro hf; cases hf
  | succ n ih =>
    intro S x1 H locs ls hf hW hl
    rw [fn_X5_countByKeeps_2] at hf
    refine lv_iload_n hx hb dX5_countByKeeps_2 rfl (lv_at hl 1 rfl) ?_
    refine lv_if_ne (tgt := 286) hx hb dX5_countByKeeps_3 (by decide) (fun hc => ?_) (fun hc => ?_)
    · replace hf := sc_in hc hf
      exact sc_retv hR hf hW dX5_countByKeeps_286
    · replace hf := sc_ip hc hf
      refine lv_aload_n hx hb dX5_countByKeeps_6 rfl (lv_at hl 0 rfl) ?_
      obtain ⟨S7, hc, hf⟩ := sc_cv_s hf
      refine sc_callVv (As := []) (rest := []) (q0 := 0) (ci := 4) sc_okM C0 hW (ct_X5_spread hc) (cwV 0 hts gX5_countByKeeps_X5_spread rfl rfl rfl (by decide +kernel) ⟨Nat.le_of_ble_eq_true rfl, Nat.le_of_ble_eq_true rfl⟩) rfl rfl rfl rfl hl.1 rfl (Nat.le_of_ble_eq_true rfl) dX5_countByKeeps_7 (fun H locs hW => ?_)
      refine lv_iconst (v := (0 : Int32)) hx hb dX5_countByKeeps_10 (by decide) ?_
      refine lv_istore_n (lv' := [(2, .int (0 : Int32)), (0, .ref (h 0)), (1, .int x1)]) hx hb dX5_countByKeeps_11 rfl hl (by decide) rfl (fun ls hl => ?_)
      exact wk_X5_countByKeeps_12 C0 hR ih sc_FU _ _ _ _ _ hf hW (lv_sub hl [1, 0] rfl)
set_option maxHeartbeats 4000000 in
set_option maxRecDepth 100000 in
theorem wk_X5_countByKeeps_0 (C0 : CallFix p m c cX5_countByKeeps 10 s args wsX5_countByKeeps RX5) {S' : sc_M} (hR : sc_Rv p l e rm_X5_countByKeeps s m args below meth c Q cX5_countByKeeps (sc_EM dC dI h cy) S') : ∀ (S : sc_M) (H : Heap) (locs : List Loc) (ls : Array Slot), fn_X5_countByKeeps S = some S' → sc_W (sc_EM dC dI h cy) s H locs S → lv_has ls 10 [(0, .ref (h 0))] → W p l e rm_X5_countByKeeps s m args below meth c H locs 0 0 Q (F0 m 0 ls []) := by
  obtain ⟨hx, hb, hml, hown, hts⟩ := id C0
  intro S H locs ls hf hW hl
  rw [fn_X5_countByKeeps] at hf
  refine lv_iconst (v := (0 : Int32)) hx hb dX5_countByKeeps_0 (by decide) ?_
  refine lv_istore_n (lv' := [(1, .int (0 : Int32)), (0, .ref (h 0))]) hx hb dX5_countByKeeps_1 rfl hl (by decide) rfl (fun ls hl => ?_)
  exact wk_X5_countByKeeps_2 C0 hR  sc_FU _ _ _ _ _ hf hW (lv_sub hl [1, 0] rfl)
set_option maxRecDepth 100000 in
theorem ct_X5_countByKeeps {S S' : sc_M} (hf : fn_X5_countByKeeps S = some S') : sc_Cv l yX5_countByKeeps wsX5_countByKeeps rm_X5_countByKeeps (sc_EM dC dI h cy) [.ref (h 0)] S S' := by
  refine sc_ofv (cc := cX5_countByKeeps) (maxL := 10) sc_okM (by decide) rfl (Nat.le_of_ble_eq_true rfl) ?_
  intro p e s m below meth c Q C0 hR hW ls hl
  exact wk_X5_countByKeeps_0 C0 hR _ _ _ _ hf hW hl
end
