/-! ===== SeatCounts.count(II)I ===== -/
abbrev rm_X4_count : Room := { frames := 6, cells := 0, slots := 0, locals := 165 }
theorem lk_X4_count_108 : Cond.fieldLink RX4 108 "SeatCounts$Journal" "stages" "I" ∈ wsX4_count := by decide +kernel
theorem lk_X4_count_12 : Cond.fieldLink RX4 12 "SeatCounts" "house" "LSeatCounts$House;" ∈ wsX4_count := by decide +kernel
theorem lk_X4_count_19 : Cond.fieldLink RX4 19 "SeatCounts" "journal" "LSeatCounts$Journal;" ∈ wsX4_count := by decide +kernel
theorem lk_X4_count_26 : Cond.fieldLink RX4 26 "SeatCounts" "paperRules" "LSeatCounts$PaperRules;" ∈ wsX4_count := by decide +kernel
theorem lk_X4_count_30 : Cond.fieldLink RX4 30 "SeatCounts" "numbers" "[J" ∈ wsX4_count := by decide +kernel
theorem lk_X4_count_34 : Cond.fieldLink RX4 34 "SeatCounts$House" "candidates" "I" ∈ wsX4_count := by decide +kernel
theorem lk_X4_count_99 : Cond.fieldLink RX4 99 "SeatCounts$Journal" "votes" "[J" ∈ wsX4_count := by decide +kernel
theorem lk_X4_count_ac102 : Cond.methodLink RX4 102 arraycopyName ∈ wsX4_count := by decide +kernel
theorem lk_X4_count_aci : Cond.initialized "java/lang/System" ∈ wsX4_count := by decide +kernel
theorem lk_X4_count_acn : Cond.native arraycopyName ∈ wsX4_count := by decide +kernel
theorem lk_X4_count_acs : Cond.static arraycopyName ∈ wsX4_count := by decide +kernel
theorem ni_X4_count_X0 : ∀ w ∈ wsX00, w ∈ wsX4_count := by decide +kernel
theorem ni_X4_count_X1 : ∀ w ∈ wsX10, w ∈ wsX4_count := by decide +kernel
theorem ni_X4_count_X4 : ∀ w ∈ wsX40, w ∈ wsX4_count := by decide +kernel
noncomputable def fn_X4_count_90 (S : sc_M) : Option (Int32 × sc_M) :=
  sc_cp (0 : Int32) (0 : Int32) (864 : Int32) 864 864 (sc_sq (sc_mB S 25 (va_cpy (sc_gb S 19) (sc_gb S 25) (0 : Int32).toNatClampNeg (0 : Int32).toNatClampNeg (864 : Int32).toNatClampNeg)) (fun S108 => some ((sc_gi S108 5), S108)))
noncomputable def fn_X4_count (S : sc_M) (x1 : Int32) (x2 : Int32) : Option (Int32 × sc_M) :=
  if x1 < 0 then
    some ((-2 : Int32), S)
  else
    if (3 : Int32) < x1 then
      some ((-2 : Int32), S)
    else
      if x2 < (1 : Int32) then
        some ((-2 : Int32), S)
      else
        if x2 ≤ (12 : Int32) then
          sc_cl (fn_X0_withdrawnOnes S) (fun r27 S27 => if r27 = (sc_gi S27 0) then
            some ((-3 : Int32), S27)
          else
            sc_cv (fn_X1_begin S27 x1 x2) (fun S53 => if x1 = (3 : Int32) then
              sc_cv (fn_X2_run S53) (fun S69 => fn_X4_count_90 S69)
            else
              sc_cv (fn_X3_run S53) (fun S87 => fn_X4_count_90 S87)))
        else
          some ((-2 : Int32), S)
section
variable {p : Program} {l : Launch} {e : Env} {s : State} {m : MethodId} {args : Array Value} {below : List Frame} {meth : Method} {c : Code} {Q : State → Prop} {dC : Nat → ClassId} {dI : Nat → Nat → Nat} {h : Nat → Nat} {cy : Nat → ClassId}
set_option maxHeartbeats 4000000 in
set_option maxRecDepth 100000 in
theorem wk_X4_count_90 (C0 : CallFix p m c cX4_count 3 s args wsX4_count RX4) {S' : sc_M} {r : Int32} (hR : sc_Ri p l e rm_X4_count s m args below meth c Q cX4_count (sc_EX dC dI h cy) S' r) : ∀ (S : sc_M) (H : Heap) (locs : List Loc) (ls : Array Slot), fn_X4_count_90 S = some (r, S') → sc_W (sc_EX dC dI h cy) s H locs S → lv_has ls 3 [(0, .ref (h 0))] → W p l e rm_X4_count s m args below meth c H locs 0 0 Q (F0 m 90 ls []) := by
  obtain ⟨hx, hb, hml, hown, hts⟩ := id C0
  intro S H locs ls hf hW hl
  rw [fn_X4_count_90] at hf
  refine lv_aload_n hx hb dX4_count_90 rfl (lv_at hl 0 rfl) ?_
  refine sc_getX4 C0 hW ni_X4_count_X4 1 (Nat.le_of_ble_eq_true rfl) lk_X4_count_19 (v := .ref (h 2)) rfl dX4_count_91 ?_
  refine sc_getX1 C0 hW ni_X4_count_X1 15 (Nat.le_of_ble_eq_true rfl) lk_X4_count_99 (v := .ref (h 19)) rfl dX4_count_94 ?_
  refine lv_iconst (v := (0 : Int32)) hx hb dX4_count_97 (by decide) ?_
  refine lv_aload_n hx hb dX4_count_98 rfl (lv_at hl 0 rfl) ?_
  refine sc_getX4 C0 hW ni_X4_count_X4 3 (Nat.le_of_ble_eq_true rfl) lk_X4_count_30 (v := .ref (h 25)) rfl dX4_count_99 ?_
  refine lv_iconst (v := (0 : Int32)) hx hb dX4_count_102 (by decide) ?_
  refine lv_aload_n hx hb dX4_count_103 rfl (lv_at hl 0 rfl) ?_
  refine sc_getX4 C0 hW ni_X4_count_X4 3 (Nat.le_of_ble_eq_true rfl) lk_X4_count_30 (v := .ref (h 25)) rfl dX4_count_104 ?_
  refine sc_alen (q0 := 25) (t0 := 21) (v := (864 : Int32)) C0 hW rfl rfl rfl dX4_count_107 ?_
  obtain ⟨hv, hf⟩ := sc_cp_s hf
  obtain ⟨S108, eS108, hf⟩ := sc_sq_s hf
  refine sc_copyl (S1 := S108) (q0 := 19) (q1 := 25) (t0 := 15) (t1 := 21) (ty := .long) (rest := []) C0 (hts _ lk_X4_count_ac102) (hts _ lk_X4_count_acn) (hts _ lk_X4_count_acs) (hts _ lk_X4_count_aci) hW rfl rfl rfl rfl rfl hv (fun _ _ => rfl) hl.1 (Nat.le_of_ble_eq_true rfl) (Nat.le_of_ble_eq_true rfl) (by subst eS108; rfl) dX4_count_108 (fun H locs hW => ?_)
  refine lv_aload_n hx hb dX4_count_111 rfl (lv_at hl 0 rfl) ?_
  refine sc_getX4 C0 hW ni_X4_count_X4 1 (Nat.le_of_ble_eq_true rfl) lk_X4_count_19 (v := .ref (h 2)) rfl dX4_count_112 ?_
  refine sc_getX1 C0 hW ni_X4_count_X1 3 (Nat.le_of_ble_eq_true rfl) lk_X4_count_108 (v := .int (sc_gi S108 5)) rfl dX4_count_115 ?_
  exact sc_reti hR hf hW dX4_count_118
set_option maxHeartbeats 4000000 in
set_option maxRecDepth 100000 in
theorem wk_X4_count_0 (C0 : CallFix p m c cX4_count 3 s args wsX4_count RX4) {S' : sc_M} {r : Int32} (hR : sc_Ri p l e rm_X4_count s m args below meth c Q cX4_count (sc_EX dC dI h cy) S' r) : ∀ (S : sc_M) (x1 : Int32) (x2 : Int32) (H : Heap) (locs : List Loc) (ls : Array Slot), fn_X4_count S x1 x2 = some (r, S') → sc_W (sc_EX dC dI h cy) s H locs S → lv_has ls 3 [(0, .ref (h 0)), (1, .int x1), (2, .int x2)] → W p l e rm_X4_count s m args below meth c H locs 0 0 Q (F0 m 0 ls []) := by
  obtain ⟨hx, hb, hml, hown, hts⟩ := id C0
  intro S x1 x2 H locs ls hf hW hl
  rw [fn_X4_count] at hf
  refine lv_iload_n hx hb dX4_count_0 rfl (lv_at hl 1 rfl) ?_
  refine lv_if_lt (tgt := 20) hx hb dX4_count_1 (by decide) (fun hc => ?_) (fun hc => ?_)
  · replace hf := sc_ip hc hf
    refine lv_bipush (v := (-2 : Int32)) hx hb dX4_count_20 (by decide) ?_
    exact sc_reti hR hf hW dX4_count_22
  · replace hf := sc_in hc hf
    refine lv_iload_n hx hb dX4_count_4 rfl (lv_at hl 1 rfl) ?_
    refine lv_iconst (v := (3 : Int32)) hx hb dX4_count_5 (by decide) ?_
    refine lv_icmp_gt (tgt := 20) hx hb dX4_count_6 (by decide) (fun hc => ?_) (fun hc => ?_)
    · replace hf := sc_ip hc hf
      refine lv_bipush (v := (-2 : Int32)) hx hb dX4_count_20 (by decide) ?_
      exact sc_reti hR hf hW dX4_count_22
    · replace hf := sc_in hc hf
      refine lv_iload_n hx hb dX4_count_9 rfl (lv_at hl 2 rfl) ?_
      refine lv_iconst (v := (1 : Int32)) hx hb dX4_count_10 (by decide) ?_
      refine lv_icmp_lt (tgt := 20) hx hb dX4_count_11 (by decide) (fun hc => ?_) (fun hc => ?_)
      · replace hf := sc_ip hc hf
        refine lv_bipush (v := (-2 : Int32)) hx hb dX4_count_20 (by decide) ?_
        exact sc_reti hR hf hW dX4_count_22
      · replace hf := sc_in hc hf
        refine lv_iload_n hx hb dX4_count_14 rfl (lv_at hl 2 rfl) ?_
        refine lv_bipush (v := (12 : Int32)) hx hb dX4_count_15 (by decide) ?_
        refine lv_icmp_le (tgt := 23) hx hb dX4_count_17 (by decide) (fun hc => ?_) (fun hc => ?_)
        · replace hf := sc_ip hc hf
          refine lv_aload_n hx hb dX4_count_23 rfl (lv_at hl 0 rfl) ?_
          refine sc_getX4 C0 hW ni_X4_count_X4 0 (Nat.le_of_ble_eq_true rfl) lk_X4_count_12 (v := .ref (h 1)) rfl dX4_count_24 ?_
          obtain ⟨r27, S27, hc, hf⟩ := sc_cl_s hf
          refine sc_callVi (As := []) (rest := []) (q0 := 1) (ci := 0) sc_okX C0 hW (ct_X0_withdrawnOnes hc) (cwV 0 hts gX4_count_X0_withdrawnOnes rfl rfl rfl (by decide +kernel) ⟨Nat.le_of_ble_eq_true rfl, Nat.le_of_ble_eq_true rfl⟩) rfl rfl rfl rfl hl.1 rfl (Nat.le_of_ble_eq_true rfl) dX4_count_27 (fun H locs hW => ?_)
          refine lv_aload_n hx hb dX4_count_30 rfl (lv_at hl 0 rfl) ?_
          refine sc_getX4 C0 hW ni_X4_count_X4 0 (Nat.le_of_ble_eq_true rfl) lk_X4_count_12 (v := .ref (h 1)) rfl dX4_count_31 ?_
          refine sc_getX0 C0 hW ni_X4_count_X0 0 (Nat.le_of_ble_eq_true rfl) lk_X4_count_34 (v := .int (sc_gi S27 0)) rfl dX4_count_34 ?_
          refine lv_icmp_ne (tgt := 43) hx hb dX4_count_37 (by decide) (fun hc => ?_) (fun hc => ?_)
          · replace hf := sc_in hc hf
            refine lv_aload_n hx hb dX4_count_43 rfl (lv_at hl 0 rfl) ?_
            refine sc_getX4 C0 hW ni_X4_count_X4 1 (Nat.le_of_ble_eq_true rfl) lk_X4_count_19 (v := .ref (h 2)) rfl dX4_count_44 ?_
            refine lv_aload_n hx hb dX4_count_47 rfl (lv_at hl 0 rfl) ?_
            refine sc_getX4 C0 hW ni_X4_count_X4 0 (Nat.le_of_ble_eq_true rfl) lk_X4_count_12 (v := .ref (h 1)) rfl dX4_count_48 ?_
            refine lv_iload_n hx hb dX4_count_51 rfl (lv_at hl 1 rfl) ?_
            refine lv_iload_n hx hb dX4_count_52 rfl (lv_at hl 2 rfl) ?_
            obtain ⟨S53, hc, hf⟩ := sc_cv_s hf
            refine sc_callVv (As := [.ref (h 1), .int x1, .int x2]) (rest := []) (q0 := 2) (ci := 1) sc_okX C0 hW (ct_X1_begin hc) (cwV 3 hts gX4_count_X1_begin rfl rfl rfl (by decide +kernel) ⟨Nat.le_of_ble_eq_true rfl, Nat.le_of_ble_eq_true rfl⟩) rfl rfl rfl rfl hl.1 rfl (Nat.le_of_ble_eq_true rfl) dX4_count_53 (fun H locs hW => ?_)
            refine lv_iload_n hx hb dX4_count_56 rfl (lv_at hl 1 rfl) ?_
            refine lv_iconst (v := (3 : Int32)) hx hb dX4_count_57 (by decide) ?_
            refine lv_icmp_ne (tgt := 75) hx hb dX4_count_58 (by decide) (fun hc => ?_) (fun hc => ?_)
            · replace hf := sc_in hc hf
              refine lv_aload_n hx hb dX4_count_75 rfl (lv_at hl 0 rfl) ?_
              refine sc_getX4 C0 hW ni_X4_count_X4 2 (Nat.le_of_ble_eq_true rfl) lk_X4_count_26 (v := .ref (h 3)) rfl dX4_count_76 ?_
              refine lv_aload_n hx hb dX4_count_79 rfl (lv_at hl 0 rfl) ?_
              refine sc_getX4 C0 hW ni_X4_count_X4 0 (Nat.le_of_ble_eq_true rfl) lk_X4_count_12 (v := .ref (h 1)) rfl dX4_count_80 ?_
              refine lv_aload_n hx hb dX4_count_83 rfl (lv_at hl 0 rfl) ?_
              refine sc_getX4 C0 hW ni_X4_count_X4 1 (Nat.le_of_ble_eq_true rfl) lk_X4_count_19 (v := .ref (h 2)) rfl dX4_count_84 ?_
              obtain ⟨S87, hc, hf⟩ := sc_cv_s hf
              refine sc_callVv (As := [.ref (h 1), .ref (h 2)]) (rest := []) (q0 := 3) (ci := 2) sc_okX C0 hW (ct_X3_run hc) (cwV 2 hts gX4_count_X3_run rfl rfl rfl (by decide +kernel) ⟨Nat.le_of_ble_eq_true rfl, Nat.le_of_ble_eq_true rfl⟩) rfl rfl rfl rfl hl.1 rfl (Nat.le_of_ble_eq_true rfl) dX4_count_87 (fun H locs hW => ?_)
              exact wk_X4_count_90 C0 hR  _ _ _ _ hf hW (lv_sub hl [0] rfl)
            · replace hf := sc_ip hc hf
              refine lv_aload_n hx hb dX4_count_61 rfl (lv_at hl 0 rfl) ?_
              refine sc_getX4 C0 hW ni_X4_count_X4 0 (Nat.le_of_ble_eq_true rfl) lk_X4_count_12 (v := .ref (h 1)) rfl dX4_count_62 ?_
              refine lv_aload_n hx hb dX4_count_65 rfl (lv_at hl 0 rfl) ?_
              refine sc_getX4 C0 hW ni_X4_count_X4 1 (Nat.le_of_ble_eq_true rfl) lk_X4_count_19 (v := .ref (h 2)) rfl dX4_count_66 ?_
              obtain ⟨S69, hc, hf⟩ := sc_cv_s hf
              refine sc_callSv (As := [.ref (h 1), .ref (h 2)]) (rest := []) sc_okX C0 hW (ct_X2_run hc) (va_cwS 2 hts gX4_count_X2_run rfl rfl rfl (by decide +kernel) ⟨Nat.le_of_ble_eq_true rfl, Nat.le_of_ble_eq_true rfl⟩) rfl hl.1 rfl (Nat.le_of_ble_eq_true rfl) dX4_count_69 (fun H locs hW => ?_)
              refine lv_goto (tgt := 90) hx hb dX4_count_72 (by decide) ?_
              exact wk_X4_count_90 C0 hR  _ _ _ _ hf hW (lv_sub hl [0] rfl)
          · replace hf := sc_ip hc hf
            refine lv_bipush (v := (-3 : Int32)) hx hb dX4_count_40 (by decide) ?_
            exact sc_reti hR hf hW dX4_count_42
        · replace hf := sc_in hc hf
          refine lv_bipush (v := (-2 : Int32)) hx hb dX4_count_20 (by decide) ?_
          exact sc_reti hR hf hW dX4_count_22
set_option maxRecDepth 100000 in
theorem ct_X4_count {S S' : sc_M} {r : Int32} {x1 : Int32} {x2 : Int32} (hf : fn_X4_count S x1 x2 = some (r, S')) : sc_Ci l yX4_count wsX4_count rm_X4_count (sc_EX dC dI h cy) [.ref (h 0), .int x1, .int x2] S S' r := by
  refine sc_ofi (cc := cX4_count) (maxL := 3) .int rfl sc_okX (by decide) rfl (Nat.le_of_ble_eq_true rfl) ?_
  intro p e s m below meth c Q C0 hR hW ls hl
  exact wk_X4_count_0 C0 hR _ _ _ _ _ _ hf hW hl
end

/-! ===== SeatCounts.stage(II)J ===== -/
abbrev rm_X4_stage : Room := { frames := 1, cells := 0, slots := 0, locals := 21 }
theorem lk_X4_stage_114 : Cond.constantLong RX4 114 (-1) ∈ wsX4_stage := by decide +kernel
theorem lk_X4_stage_116 : Cond.fieldLink RX4 116 "SeatCounts$Journal" "kinds" "[I" ∈ wsX4_stage := by decide +kernel
theorem lk_X4_stage_119 : Cond.fieldLink RX4 119 "SeatCounts$Journal" "whose" "[I" ∈ wsX4_stage := by decide +kernel
theorem lk_X4_stage_122 : Cond.fieldLink RX4 122 "SeatCounts$Journal" "untransferable" "[J" ∈ wsX4_stage := by decide +kernel
theorem lk_X4_stage_125 : Cond.fieldLink RX4 125 "SeatCounts$Journal" "lost" "[J" ∈ wsX4_stage := by decide +kernel
theorem lk_X4_stage_128 : Cond.fieldLink RX4 128 "SeatCounts$Journal" "electedBehind" "[I" ∈ wsX4_stage := by decide +kernel
theorem lk_X4_stage_131 : Cond.fieldLink RX4 131 "SeatCounts$Journal" "quotas" "[J" ∈ wsX4_stage := by decide +kernel
theorem lk_X4_stage_134 : Cond.fieldLink RX4 134 "SeatCounts$Journal" "excesses" "[J" ∈ wsX4_stage := by decide +kernel
theorem lk_X4_stage_137 : Cond.constantLong RX4 137 (-2) ∈ wsX4_stage := by decide +kernel
theorem lk_X4_stage_19 : Cond.fieldLink RX4 19 "SeatCounts" "journal" "LSeatCounts$Journal;" ∈ wsX4_stage := by decide +kernel
theorem ni_X4_stage_X1 : ∀ w ∈ wsX10, w ∈ wsX4_stage := by decide +kernel
theorem ni_X4_stage_X4 : ∀ w ∈ wsX40, w ∈ wsX4_stage := by decide +kernel
noncomputable def fn_X4_stage (S : sc_M) (x1 : Int32) (x2 : Int32) : Option (Int64 × sc_M) :=
  sc_cl (fn_X1_hasStage S x1) (fun r5 S5 => if r5 = 0 then
    some ((-1 : Int64), S5)
  else
    if x2 = 0 then
      sc_ck x1 72 (some ((sc_ga S5 12 x1.toNatClampNeg).toInt64, S5))
    else if x2 = 1 then
      sc_ck x1 72 (some ((sc_ga S5 13 x1.toNatClampNeg).toInt64, S5))
    else if x2 = 2 then
      sc_ck x1 72 (some ((sc_gb S5 15 x1.toNatClampNeg), S5))
    else if x2 = 3 then
      sc_ck x1 72 (some ((sc_gb S5 16 x1.toNatClampNeg), S5))
    else if x2 = 4 then
      sc_ck x1 72 (some ((sc_ga S5 14 x1.toNatClampNeg).toInt64, S5))
    else if x2 = 5 then
      sc_ck x1 72 (some ((sc_gb S5 17 x1.toNatClampNeg), S5))
    else if x2 = 6 then
      sc_ck x1 72 (some ((sc_gb S5 18 x1.toNatClampNeg), S5))
    else 
      some ((-2 : Int64), S5))
section
variable {p : Program} {l : Launch} {e : Env} {s : State} {m : MethodId} {args : Array Value} {below : List Frame} {meth : Method} {c : Code} {Q : State → Prop} {dC : Nat → ClassId} {dI : Nat → Nat → Nat} {h : Nat → Nat} {cy : Nat → ClassId}
set_option maxHeartbeats 4000000 in
set_option maxRecDepth 100000 in
theorem wk_X4_stage_0 (C0 : CallFix p m c cX4_stage 3 s args wsX4_stage RX4) {S' : sc_M} {r : Int64} (hR : sc_Rl p l e rm_X4_stage s m args below meth c Q cX4_stage (sc_EX dC dI h cy) S' r) : ∀ (S : sc_M) (x1 : Int32) (x2 : Int32) (H : Heap) (locs : List Loc) (ls : Array Slot), fn_X4_stage S x1 x2 = some (r, S') → sc_W (sc_EX dC dI h cy) s H locs S → lv_has ls 3 [(0, .ref (h 0)), (1, .int x1), (2, .int x2)] → W p l e rm_X4_stage s m args below meth c H locs 0 0 Q (F0 m 0 ls []) := by
  obtain ⟨hx, hb, hml, hown, hts⟩ := id C0
  intro S x1 x2 H locs ls hf hW hl
  rw [fn_X4_stage] at hf
  refine lv_aload_n hx hb dX4_stage_0 rfl (lv_at hl 0 rfl) ?_
  refine sc_getX4 C0 hW ni_X4_stage_X4 1 (Nat.le_of_ble_eq_true rfl) lk_X4_stage_19 (v := .ref (h 2)) rfl dX4_stage_1 ?_
  refine lv_iload_n hx hb dX4_stage_4 rfl (lv_at hl 1 rfl) ?_
  obtain ⟨r5, S5, hc, hf⟩ := sc_cl_s hf
  refine sc_callVi (As := [.int x1]) (rest := []) (q0 := 2) (ci := 1) sc_okX C0 hW (ct_X1_hasStage hc) (cwV 1 hts gX4_stage_X1_hasStage rfl rfl rfl (by decide +kernel) ⟨Nat.le_of_ble_eq_true rfl, Nat.le_of_ble_eq_true rfl⟩) rfl rfl rfl rfl hl.1 rfl (Nat.le_of_ble_eq_true rfl) dX4_stage_5 (fun H locs hW => ?_)
  refine lv_if_ne (tgt := 15) hx hb dX4_stage_8 (by decide) (fun hc => ?_) (fun hc => ?_)
  · replace hf := sc_in hc hf
    refine lv_iload_n hx hb dX4_stage_15 rfl (lv_at hl 2 rfl) ?_
    rcases Decidable.em (x2 = 0) with hc0 | hc0
    · replace hf := sc_ip hc0 hf
      refine lv_tableIn (tgt := 60) hx hb dX4_stage_16 (by rw [hc0]; decide) (by rw [hc0]; decide) (by rw [hc0]; rfl) (by decide) ?_
      refine lv_aload_n hx hb dX4_stage_60 rfl (lv_at hl 0 rfl) ?_
      refine sc_getX4 C0 hW ni_X4_stage_X4 1 (Nat.le_of_ble_eq_true rfl) lk_X4_stage_19 (v := .ref (h 2)) rfl dX4_stage_61 ?_
      refine sc_getX1 C0 hW ni_X4_stage_X1 8 (Nat.le_of_ble_eq_true rfl) lk_X4_stage_116 (v := .ref (h 12)) rfl dX4_stage_64 ?_
      refine lv_iload_n hx hb dX4_stage_67 rfl (lv_at hl 1 rfl) ?_
      obtain ⟨hv, hf⟩ := sc_ck_s hf
      refine sc_ldX_12 C0 hW hv dX4_stage_68 ?_
      refine lv_i2l hx hb dX4_stage_69 rfl ?_
      exact sc_retl hR hf hW dX4_stage_70
    replace hf := sc_in hc0 hf
    rcases Decidable.em (x2 = 1) with hc1 | hc1
    · replace hf := sc_ip hc1 hf
      refine lv_tableIn (tgt := 71) hx hb dX4_stage_16 (by rw [hc1]; decide) (by rw [hc1]; decide) (by rw [hc1]; rfl) (by decide) ?_
      refine lv_aload_n hx hb dX4_stage_71 rfl (lv_at hl 0 rfl) ?_
      refine sc_getX4 C0 hW ni_X4_stage_X4 1 (Nat.le_of_ble_eq_true rfl) lk_X4_stage_19 (v := .ref (h 2)) rfl dX4_stage_72 ?_
      refine sc_getX1 C0 hW ni_X4_stage_X1 9 (Nat.le_of_ble_eq_true rfl) lk_X4_stage_119 (v := .ref (h 13)) rfl dX4_stage_75 ?_
      refine lv_iload_n hx hb dX4_stage_78 rfl (lv_at hl 1 rfl) ?_
      obtain ⟨hv, hf⟩ := sc_ck_s hf
      refine sc_ldX_13 C0 hW hv dX4_stage_79 ?_
      refine lv_i2l hx hb dX4_stage_80 rfl ?_
      exact sc_retl hR hf hW dX4_stage_81
    replace hf := sc_in hc1 hf
    rcases Decidable.em (x2 = 2) with hc2 | hc2
    · replace hf := sc_ip hc2 hf
      refine lv_tableIn (tgt := 82) hx hb dX4_stage_16 (by rw [hc2]; decide) (by rw [hc2]; decide) (by rw [hc2]; rfl) (by decide) ?_
      refine lv_aload_n hx hb dX4_stage_82 rfl (lv_at hl 0 rfl) ?_
      refine sc_getX4 C0 hW ni_X4_stage_X4 1 (Nat.le_of_ble_eq_true rfl) lk_X4_stage_19 (v := .ref (h 2)) rfl dX4_stage_83 ?_
      refine sc_getX1 C0 hW ni_X4_stage_X1 11 (Nat.le_of_ble_eq_true rfl) lk_X4_stage_122 (v := .ref (h 15)) rfl dX4_stage_86 ?_
      refine lv_iload_n hx hb dX4_stage_89 rfl (lv_at hl 1 rfl) ?_
      obtain ⟨hv, hf⟩ := sc_ck_s hf
      refine sc_ldX_15 C0 hW hv dX4_stage_90 ?_
      exact sc_retl hR hf hW dX4_stage_91
    replace hf := sc_in hc2 hf
    rcases Decidable.em (x2 = 3) with hc3 | hc3
    · replace hf := sc_ip hc3 hf
      refine lv_tableIn (tgt := 92) hx hb dX4_stage_16 (by rw [hc3]; decide) (by rw [hc3]; decide) (by rw [hc3]; rfl) (by decide) ?_
      refine lv_aload_n hx hb dX4_stage_92 rfl (lv_at hl 0 rfl) ?_
      refine sc_getX4 C0 hW ni_X4_stage_X4 1 (Nat.le_of_ble_eq_true rfl) lk_X4_stage_19 (v := .ref (h 2)) rfl dX4_stage_93 ?_
      refine sc_getX1 C0 hW ni_X4_stage_X1 12 (Nat.le_of_ble_eq_true rfl) lk_X4_stage_125 (v := .ref (h 16)) rfl dX4_stage_96 ?_
      refine lv_iload_n hx hb dX4_stage_99 rfl (lv_at hl 1 rfl) ?_
      obtain ⟨hv, hf⟩ := sc_ck_s hf
      refine sc_ldX_16 C0 hW hv dX4_stage_100 ?_
      exact sc_retl hR hf hW dX4_stage_101
    replace hf := sc_in hc3 hf
    rcases Decidable.em (x2 = 4) with hc4 | hc4
    · replace hf := sc_ip hc4 hf
      refine lv_tableIn (tgt := 102) hx hb dX4_stage_16 (by rw [hc4]; decide) (by rw [hc4]; decide) (by rw [hc4]; rfl) (by decide) ?_
      refine lv_aload_n hx hb dX4_stage_102 rfl (lv_at hl 0 rfl) ?_
      refine sc_getX4 C0 hW ni_X4_stage_X4 1 (Nat.le_of_ble_eq_true rfl) lk_X4_stage_19 (v := .ref (h 2)) rfl dX4_stage_103 ?_
      refine sc_getX1 C0 hW ni_X4_stage_X1 10 (Nat.le_of_ble_eq_true rfl) lk_X4_stage_128 (v := .ref (h 14)) rfl dX4_stage_106 ?_
      refine lv_iload_n hx hb dX4_stage_109 rfl (lv_at hl 1 rfl) ?_
      obtain ⟨hv, hf⟩ := sc_ck_s hf
      refine sc_ldX_14 C0 hW hv dX4_stage_110 ?_
      refine lv_i2l hx hb dX4_stage_111 rfl ?_
      exact sc_retl hR hf hW dX4_stage_112
    replace hf := sc_in hc4 hf
    rcases Decidable.em (x2 = 5) with hc5 | hc5
    · replace hf := sc_ip hc5 hf
      refine lv_tableIn (tgt := 113) hx hb dX4_stage_16 (by rw [hc5]; decide) (by rw [hc5]; decide) (by rw [hc5]; rfl) (by decide) ?_
      refine lv_aload_n hx hb dX4_stage_113 rfl (lv_at hl 0 rfl) ?_
      refine sc_getX4 C0 hW ni_X4_stage_X4 1 (Nat.le_of_ble_eq_true rfl) lk_X4_stage_19 (v := .ref (h 2)) rfl dX4_stage_114 ?_
      refine sc_getX1 C0 hW ni_X4_stage_X1 13 (Nat.le_of_ble_eq_true rfl) lk_X4_stage_131 (v := .ref (h 17)) rfl dX4_stage_117 ?_
      refine lv_iload_n hx hb dX4_stage_120 rfl (lv_at hl 1 rfl) ?_
      obtain ⟨hv, hf⟩ := sc_ck_s hf
      refine sc_ldX_17 C0 hW hv dX4_stage_121 ?_
      exact sc_retl hR hf hW dX4_stage_122
    replace hf := sc_in hc5 hf
    rcases Decidable.em (x2 = 6) with hc6 | hc6
    · replace hf := sc_ip hc6 hf
      refine lv_tableIn (tgt := 123) hx hb dX4_stage_16 (by rw [hc6]; decide) (by rw [hc6]; decide) (by rw [hc6]; rfl) (by decide) ?_
      refine lv_aload_n hx hb dX4_stage_123 rfl (lv_at hl 0 rfl) ?_
      refine sc_getX4 C0 hW ni_X4_stage_X4 1 (Nat.le_of_ble_eq_true rfl) lk_X4_stage_19 (v := .ref (h 2)) rfl dX4_stage_124 ?_
      refine sc_getX1 C0 hW ni_X4_stage_X1 14 (Nat.le_of_ble_eq_true rfl) lk_X4_stage_134 (v := .ref (h 18)) rfl dX4_stage_127 ?_
      refine lv_iload_n hx hb dX4_stage_130 rfl (lv_at hl 1 rfl) ?_
      obtain ⟨hv, hf⟩ := sc_ck_s hf
      refine sc_ldX_18 C0 hW hv dX4_stage_131 ?_
      exact sc_retl hR hf hW dX4_stage_132
    replace hf := sc_in hc6 hf
    refine lv_tableOut (tgt := 133) hx hb dX4_stage_16 (sc_tbo 6 (by decide) (fun k hk => match k, hk with | 0, _ => hc0 | 1, _ => hc1 | 2, _ => hc2 | 3, _ => hc3 | 4, _ => hc4 | 5, _ => hc5 | 6, _ => hc6 | k + 7, hk => absurd hk (by omega))) (by decide) ?_
    refine lv_ldc2 (v := (-2 : Int64)) hx hb hown (hts _ lk_X4_stage_137) dX4_stage_133 ?_
    exact sc_retl hR hf hW dX4_stage_136
  · replace hf := sc_ip hc hf
    refine lv_ldc2 (v := (-1 : Int64)) hx hb hown (hts _ lk_X4_stage_114) dX4_stage_11 ?_
    exact sc_retl hR hf hW dX4_stage_14
set_option maxRecDepth 100000 in
theorem ct_X4_stage {S S' : sc_M} {r : Int64} {x1 : Int32} {x2 : Int32} (hf : fn_X4_stage S x1 x2 = some (r, S')) : sc_Cl l yX4_stage wsX4_stage rm_X4_stage (sc_EX dC dI h cy) [.ref (h 0), .int x1, .int x2] S S' r := by
  refine sc_ofl (cc := cX4_stage) (maxL := 3) sc_okX (by decide) rfl (Nat.le_of_ble_eq_true rfl) ?_
  intro p e s m below meth c Q C0 hR hW ls hl
  exact wk_X4_stage_0 C0 hR _ _ _ _ _ _ hf hW hl
end

/-! ===== SeatCounts.votes(II)J ===== -/
abbrev rm_X4_votes : Room := { frames := 2, cells := 0, slots := 0, locals := 43 }
theorem lk_X4_votes_114 : Cond.constantLong RX4 114 (-1) ∈ wsX4_votes := by decide +kernel
theorem lk_X4_votes_19 : Cond.fieldLink RX4 19 "SeatCounts" "journal" "LSeatCounts$Journal;" ∈ wsX4_votes := by decide +kernel
theorem lk_X4_votes_99 : Cond.fieldLink RX4 99 "SeatCounts$Journal" "votes" "[J" ∈ wsX4_votes := by decide +kernel
theorem ni_X4_votes_X1 : ∀ w ∈ wsX10, w ∈ wsX4_votes := by decide +kernel
theorem ni_X4_votes_X4 : ∀ w ∈ wsX40, w ∈ wsX4_votes := by decide +kernel
noncomputable def fn_X4_votes (S : sc_M) (x1 : Int32) (x2 : Int32) : Option (Int64 × sc_M) :=
  sc_cl (fn_X1_hasCell S x1 x2) (fun r6 S6 => if r6 = 0 then
    some ((-1 : Int64), S6)
  else
    sc_cl (fn_X4_cell S6 x1 x2) (fun r21 S21 => sc_ck r21 864 (some ((sc_gb S21 19 r21.toNatClampNeg), S21))))
section
variable {p : Program} {l : Launch} {e : Env} {s : State} {m : MethodId} {args : Array Value} {below : List Frame} {meth : Method} {c : Code} {Q : State → Prop} {dC : Nat → ClassId} {dI : Nat → Nat → Nat} {h : Nat → Nat} {cy : Nat → ClassId}
set_option maxHeartbeats 4000000 in
set_option maxRecDepth 100000 in
theorem wk_X4_votes_0 (C0 : CallFix p m c cX4_votes 3 s args wsX4_votes RX4) {S' : sc_M} {r : Int64} (hR : sc_Rl p l e rm_X4_votes s m args below meth c Q cX4_votes (sc_EX dC dI h cy) S' r) : ∀ (S : sc_M) (x1 : Int32) (x2 : Int32) (H : Heap) (locs : List Loc) (ls : Array Slot), fn_X4_votes S x1 x2 = some (r, S') → sc_W (sc_EX dC dI h cy) s H locs S → lv_has ls 3 [(0, .ref (h 0)), (1, .int x1), (2, .int x2)] → W p l e rm_X4_votes s m args below meth c H locs 0 0 Q (F0 m 0 ls []) := by
  obtain ⟨hx, hb, hml, hown, hts⟩ := id C0
  intro S x1 x2 H locs ls hf hW hl
  rw [fn_X4_votes] at hf
  refine lv_aload_n hx hb dX4_votes_0 rfl (lv_at hl 0 rfl) ?_
  refine sc_getX4 C0 hW ni_X4_votes_X4 1 (Nat.le_of_ble_eq_true rfl) lk_X4_votes_19 (v := .ref (h 2)) rfl dX4_votes_1 ?_
  refine lv_iload_n hx hb dX4_votes_4 rfl (lv_at hl 1 rfl) ?_
  refine lv_iload_n hx hb dX4_votes_5 rfl (lv_at hl 2 rfl) ?_
  obtain ⟨r6, S6, hc, hf⟩ := sc_cl_s hf
  refine sc_callVi (As := [.int x1, .int x2]) (rest := []) (q0 := 2) (ci := 1) sc_okX C0 hW (ct_X1_hasCell hc) (cwV 2 hts gX4_votes_X1_hasCell rfl rfl rfl (by decide +kernel) ⟨Nat.le_of_ble_eq_true rfl, Nat.le_of_ble_eq_true rfl⟩) rfl rfl rfl rfl hl.1 rfl (Nat.le_of_ble_eq_true rfl) dX4_votes_6 (fun H locs hW => ?_)
  refine lv_if_eq (tgt := 28) hx hb dX4_votes_9 (by decide) (fun hc => ?_) (fun hc => ?_)
  · replace hf := sc_ip hc hf
    refine lv_ldc2 (v := (-1 : Int64)) hx hb hown (hts _ lk_X4_votes_114) dX4_votes_28 ?_
    exact sc_retl hR hf hW dX4_votes_31
  · replace hf := sc_in hc hf
    refine lv_aload_n hx hb dX4_votes_12 rfl (lv_at hl 0 rfl) ?_
    refine sc_getX4 C0 hW ni_X4_votes_X4 1 (Nat.le_of_ble_eq_true rfl) lk_X4_votes_19 (v := .ref (h 2)) rfl dX4_votes_13 ?_
    refine sc_getX1 C0 hW ni_X4_votes_X1 15 (Nat.le_of_ble_eq_true rfl) lk_X4_votes_99 (v := .ref (h 19)) rfl dX4_votes_16 ?_
    refine lv_iload_n hx hb dX4_votes_19 rfl (lv_at hl 1 rfl) ?_
    refine lv_iload_n hx hb dX4_votes_20 rfl (lv_at hl 2 rfl) ?_
    obtain ⟨r21, S21, hc, hf⟩ := sc_cl_s hf
    refine sc_callSi (As := [.int x1, .int x2]) (rest := [.ref (h 19)]) sc_okX C0 hW (ct_X4_cell hc) (va_cwS 2 hts gX4_votes_X4_cell rfl rfl rfl (by decide +kernel) ⟨Nat.le_of_ble_eq_true rfl, Nat.le_of_ble_eq_true rfl⟩) rfl hl.1 rfl (Nat.le_of_ble_eq_true rfl) dX4_votes_21 (fun H locs hW => ?_)
    obtain ⟨hv, hf⟩ := sc_ck_s hf
    refine sc_ldX_19 C0 hW hv dX4_votes_24 ?_
    refine lv_goto (tgt := 31) hx hb dX4_votes_25 (by decide) ?_
    exact sc_retl hR hf hW dX4_votes_31
set_option maxRecDepth 100000 in
theorem ct_X4_votes {S S' : sc_M} {r : Int64} {x1 : Int32} {x2 : Int32} (hf : fn_X4_votes S x1 x2 = some (r, S')) : sc_Cl l yX4_votes wsX4_votes rm_X4_votes (sc_EX dC dI h cy) [.ref (h 0), .int x1, .int x2] S S' r := by
  refine sc_ofl (cc := cX4_votes) (maxL := 3) sc_okX (by decide) rfl (Nat.le_of_ble_eq_true rfl) ?_
  intro p e s m below meth c Q C0 hR hW ls hl
  exact wk_X4_votes_0 C0 hR _ _ _ _ _ _ hf hW hl
end

/-! ===== SeatCounts.status(II)I ===== -/
abbrev rm_X4_status : Room := { frames := 2, cells := 0, slots := 0, locals := 43 }
theorem lk_X4_status_146 : Cond.fieldLink RX4 146 "SeatCounts$Journal" "states" "[I" ∈ wsX4_status := by decide +kernel
theorem lk_X4_status_19 : Cond.fieldLink RX4 19 "SeatCounts" "journal" "LSeatCounts$Journal;" ∈ wsX4_status := by decide +kernel
theorem ni_X4_status_X1 : ∀ w ∈ wsX10, w ∈ wsX4_status := by decide +kernel
theorem ni_X4_status_X4 : ∀ w ∈ wsX40, w ∈ wsX4_status := by decide +kernel
noncomputable def fn_X4_status (S : sc_M) (x1 : Int32) (x2 : Int32) : Option (Int32 × sc_M) :=
  sc_cl (fn_X1_hasCell S x1 x2) (fun r6 S6 => if r6 = 0 then
    some ((-1 : Int32), S6)
  else
    sc_cl (fn_X4_cell S6 x1 x2) (fun r21 S21 => sc_ck r21 864 (some ((sc_ga S21 20 r21.toNatClampNeg), S21))))
section
variable {p : Program} {l : Launch} {e : Env} {s : State} {m : MethodId} {args : Array Value} {below : List Frame} {meth : Method} {c : Code} {Q : State → Prop} {dC : Nat → ClassId} {dI : Nat → Nat → Nat} {h : Nat → Nat} {cy : Nat → ClassId}
set_option maxHeartbeats 4000000 in
set_option maxRecDepth 100000 in
theorem wk_X4_status_0 (C0 : CallFix p m c cX4_status 3 s args wsX4_status RX4) {S' : sc_M} {r : Int32} (hR : sc_Ri p l e rm_X4_status s m args below meth c Q cX4_status (sc_EX dC dI h cy) S' r) : ∀ (S : sc_M) (x1 : Int32) (x2 : Int32) (H : Heap) (locs : List Loc) (ls : Array Slot), fn_X4_status S x1 x2 = some (r, S') → sc_W (sc_EX dC dI h cy) s H locs S → lv_has ls 3 [(0, .ref (h 0)), (1, .int x1), (2, .int x2)] → W p l e rm_X4_status s m args below meth c H locs 0 0 Q (F0 m 0 ls []) := by
  obtain ⟨hx, hb, hml, hown, hts⟩ := id C0
  intro S x1 x2 H locs ls hf hW hl
  rw [fn_X4_status] at hf
  refine lv_aload_n hx hb dX4_status_0 rfl (lv_at hl 0 rfl) ?_
  refine sc_getX4 C0 hW ni_X4_status_X4 1 (Nat.le_of_ble_eq_true rfl) lk_X4_status_19 (v := .ref (h 2)) rfl dX4_status_1 ?_
  refine lv_iload_n hx hb dX4_status_4 rfl (lv_at hl 1 rfl) ?_
  refine lv_iload_n hx hb dX4_status_5 rfl (lv_at hl 2 rfl) ?_
  obtain ⟨r6, S6, hc, hf⟩ := sc_cl_s hf
  refine sc_callVi (As := [.int x1, .int x2]) (rest := []) (q0 := 2) (ci := 1) sc_okX C0 hW (ct_X1_hasCell hc) (cwV 2 hts gX4_status_X1_hasCell rfl rfl rfl (by decide +kernel) ⟨Nat.le_of_ble_eq_true rfl, Nat.le_of_ble_eq_true rfl⟩) rfl rfl rfl rfl hl.1 rfl (Nat.le_of_ble_eq_true rfl) dX4_status_6 (fun H locs hW => ?_)
  refine lv_if_eq (tgt := 28) hx hb dX4_status_9 (by decide) (fun hc => ?_) (fun hc => ?_)
  · replace hf := sc_ip hc hf
    refine lv_iconst (v := (-1 : Int32)) hx hb dX4_status_28 (by decide) ?_
    exact sc_reti hR hf hW dX4_status_29
  · replace hf := sc_in hc hf
    refine lv_aload_n hx hb dX4_status_12 rfl (lv_at hl 0 rfl) ?_
    refine sc_getX4 C0 hW ni_X4_status_X4 1 (Nat.le_of_ble_eq_true rfl) lk_X4_status_19 (v := .ref (h 2)) rfl dX4_status_13 ?_
    refine sc_getX1 C0 hW ni_X4_status_X1 16 (Nat.le_of_ble_eq_true rfl) lk_X4_status_146 (v := .ref (h 20)) rfl dX4_status_16 ?_
    refine lv_iload_n hx hb dX4_status_19 rfl (lv_at hl 1 rfl) ?_
    refine lv_iload_n hx hb dX4_status_20 rfl (lv_at hl 2 rfl) ?_
    obtain ⟨r21, S21, hc, hf⟩ := sc_cl_s hf
    refine sc_callSi (As := [.int x1, .int x2]) (rest := [.ref (h 20)]) sc_okX C0 hW (ct_X4_cell hc) (va_cwS 2 hts gX4_status_X4_cell rfl rfl rfl (by decide +kernel) ⟨Nat.le_of_ble_eq_true rfl, Nat.le_of_ble_eq_true rfl⟩) rfl hl.1 rfl (Nat.le_of_ble_eq_true rfl) dX4_status_21 (fun H locs hW => ?_)
    obtain ⟨hv, hf⟩ := sc_ck_s hf
    refine sc_ldX_20 C0 hW hv dX4_status_24 ?_
    refine lv_goto (tgt := 29) hx hb dX4_status_25 (by decide) ?_
    exact sc_reti hR hf hW dX4_status_29
set_option maxRecDepth 100000 in
theorem ct_X4_status {S S' : sc_M} {r : Int32} {x1 : Int32} {x2 : Int32} (hf : fn_X4_status S x1 x2 = some (r, S')) : sc_Ci l yX4_status wsX4_status rm_X4_status (sc_EX dC dI h cy) [.ref (h 0), .int x1, .int x2] S S' r := by
  refine sc_ofi (cc := cX4_status) (maxL := 3) .int rfl sc_okX (by decide) rfl (Nat.le_of_ble_eq_true rfl) ?_
  intro p e s m below meth c Q C0 hR hW ls hl
  exact wk_X4_status_0 C0 hR _ _ _ _ _ _ hf hW hl
end

/-! ===== SeatCounts.elected(I)I ===== -/
abbrev rm_X4_elected : Room := { frames := 0, cells := 0, slots := 0, locals := 0 }
theorem lk_X4_elected_149 : Cond.fieldLink RX4 149 "SeatCounts$Journal" "electedOnes" "I" ∈ wsX4_elected := by decide +kernel
theorem lk_X4_elected_152 : Cond.fieldLink RX4 152 "SeatCounts$Journal" "order" "[I" ∈ wsX4_elected := by decide +kernel
theorem lk_X4_elected_19 : Cond.fieldLink RX4 19 "SeatCounts" "journal" "LSeatCounts$Journal;" ∈ wsX4_elected := by decide +kernel
theorem ni_X4_elected_X1 : ∀ w ∈ wsX10, w ∈ wsX4_elected := by decide +kernel
theorem ni_X4_elected_X4 : ∀ w ∈ wsX40, w ∈ wsX4_elected := by decide +kernel
noncomputable def fn_X4_elected (S : sc_M) (x1 : Int32) : Option (Int32 × sc_M) :=
  if x1 < 0 then
    some ((-9 : Int32), S)
  else
    if (sc_gi S 7) ≤ x1 then
      some ((-9 : Int32), S)
    else
      sc_ck x1 12 (some ((sc_ga S 10 x1.toNatClampNeg), S))
section
variable {p : Program} {l : Launch} {e : Env} {s : State} {m : MethodId} {args : Array Value} {below : List Frame} {meth : Method} {c : Code} {Q : State → Prop} {dC : Nat → ClassId} {dI : Nat → Nat → Nat} {h : Nat → Nat} {cy : Nat → ClassId}
set_option maxHeartbeats 4000000 in
set_option maxRecDepth 100000 in
theorem wk_X4_elected_0 (C0 : CallFix p m c cX4_elected 2 s args wsX4_elected RX4) {S' : sc_M} {r : Int32} (hR : sc_Ri p l e rm_X4_elected s m args below meth c Q cX4_elected (sc_EX dC dI h cy) S' r) : ∀ (S : sc_M) (x1 : Int32) (H : Heap) (locs : List Loc) (ls : Array Slot), fn_X4_elected S x1 = some (r, S') → sc_W (sc_EX dC dI h cy) s H locs S → lv_has ls 2 [(0, .ref (h 0)), (1, .int x1)] → W p l e rm_X4_elected s m args below meth c H locs 0 0 Q (F0 m 0 ls []) := by
  obtain ⟨hx, hb, hml, hown, hts⟩ := id C0
  intro S x1 H locs ls hf hW hl
  rw [fn_X4_elected] at hf
  refine lv_iload_n hx hb dX4_elected_0 rfl (lv_at hl 1 rfl) ?_
  refine lv_if_lt (tgt := 27) hx hb dX4_elected_1 (by decide) (fun hc => ?_) (fun hc => ?_)
  · replace hf := sc_ip hc hf
    refine lv_bipush (v := (-9 : Int32)) hx hb dX4_elected_27 (by decide) ?_
    exact sc_reti hR hf hW dX4_elected_29
  · replace hf := sc_in hc hf
    refine lv_iload_n hx hb dX4_elected_4 rfl (lv_at hl 1 rfl) ?_
    refine lv_aload_n hx hb dX4_elected_5 rfl (lv_at hl 0 rfl) ?_
    refine sc_getX4 C0 hW ni_X4_elected_X4 1 (Nat.le_of_ble_eq_true rfl) lk_X4_elected_19 (v := .ref (h 2)) rfl dX4_elected_6 ?_
    refine sc_getX1 C0 hW ni_X4_elected_X1 5 (Nat.le_of_ble_eq_true rfl) lk_X4_elected_149 (v := .int (sc_gi S 7)) rfl dX4_elected_9 ?_
    refine lv_icmp_ge (tgt := 27) hx hb dX4_elected_12 (by decide) (fun hc => ?_) (fun hc => ?_)
    · replace hf := sc_ip hc hf
      refine lv_bipush (v := (-9 : Int32)) hx hb dX4_elected_27 (by decide) ?_
      exact sc_reti hR hf hW dX4_elected_29
    · replace hf := sc_in hc hf
      refine lv_aload_n hx hb dX4_elected_15 rfl (lv_at hl 0 rfl) ?_
      refine sc_getX4 C0 hW ni_X4_elected_X4 1 (Nat.le_of_ble_eq_true rfl) lk_X4_elected_19 (v := .ref (h 2)) rfl dX4_elected_16 ?_
      refine sc_getX1 C0 hW ni_X4_elected_X1 6 (Nat.le_of_ble_eq_true rfl) lk_X4_elected_152 (v := .ref (h 10)) rfl dX4_elected_19 ?_
      refine lv_iload_n hx hb dX4_elected_22 rfl (lv_at hl 1 rfl) ?_
      obtain ⟨hv, hf⟩ := sc_ck_s hf
      refine sc_ldX_10 C0 hW hv dX4_elected_23 ?_
      refine lv_goto (tgt := 29) hx hb dX4_elected_24 (by decide) ?_
      exact sc_reti hR hf hW dX4_elected_29
set_option maxRecDepth 100000 in
theorem ct_X4_elected {S S' : sc_M} {r : Int32} {x1 : Int32} (hf : fn_X4_elected S x1 = some (r, S')) : sc_Ci l yX4_elected wsX4_elected rm_X4_elected (sc_EX dC dI h cy) [.ref (h 0), .int x1] S S' r := by
  refine sc_ofi (cc := cX4_elected) (maxL := 2) .int rfl sc_okX (by decide) rfl (Nat.le_of_ble_eq_true rfl) ?_
  intro p e s m below meth c Q C0 hR hW ls hl
  exact wk_X4_elected_0 C0 hR _ _ _ _ _ hf hW hl
end

/-! ===== SeatCounts.keep(II)I ===== -/
abbrev rm_X4_keep : Room := { frames := 2, cells := 0, slots := 0, locals := 43 }
theorem lk_X4_keep_146 : Cond.fieldLink RX4 146 "SeatCounts$Journal" "states" "[I" ∈ wsX4_keep := by decide +kernel
theorem lk_X4_keep_155 : Cond.fieldLink RX4 155 "SeatCounts$Journal" "rule" "I" ∈ wsX4_keep := by decide +kernel
theorem lk_X4_keep_158 : Cond.fieldLink RX4 158 "SeatCounts$Journal" "keeps" "[I" ∈ wsX4_keep := by decide +kernel
theorem lk_X4_keep_19 : Cond.fieldLink RX4 19 "SeatCounts" "journal" "LSeatCounts$Journal;" ∈ wsX4_keep := by decide +kernel
theorem ni_X4_keep_X1 : ∀ w ∈ wsX10, w ∈ wsX4_keep := by decide +kernel
theorem ni_X4_keep_X4 : ∀ w ∈ wsX40, w ∈ wsX4_keep := by decide +kernel
noncomputable def fn_X4_keep (S : sc_M) (x1 : Int32) (x2 : Int32) : Option (Int32 × sc_M) :=
  sc_cl (fn_X1_hasCell S x1 x2) (fun r6 S6 => if r6 = 0 then
    some ((-1 : Int32), S6)
  else
    if (sc_gi S6 2) = (3 : Int32) then
      sc_cl (fn_X4_cell S6 x1 x2) (fun r34 S34 => sc_ck r34 864 (if (sc_ga S34 20 r34.toNatClampNeg) = (3 : Int32) then
        some ((-3 : Int32), S34)
      else
        sc_cl (fn_X4_cell S34 x1 x2) (fun r54 S54 => sc_ck r54 864 (some ((sc_ga S54 21 r54.toNatClampNeg), S54)))))
    else
      some ((-3 : Int32), S6))
section
variable {p : Program} {l : Launch} {e : Env} {s : State} {m : MethodId} {args : Array Value} {below : List Frame} {meth : Method} {c : Code} {Q : State → Prop} {dC : Nat → ClassId} {dI : Nat → Nat → Nat} {h : Nat → Nat} {cy : Nat → ClassId}
set_option maxHeartbeats 4000000 in
set_option maxRecDepth 100000 in
theorem wk_X4_keep_0 (C0 : CallFix p m c cX4_keep 3 s args wsX4_keep RX4) {S' : sc_M} {r : Int32} (hR : sc_Ri p l e rm_X4_keep s m args below meth c Q cX4_keep (sc_EX dC dI h cy) S' r) : ∀ (S : sc_M) (x1 : Int32) (x2 : Int32) (H : Heap) (locs : List Loc) (ls : Array Slot), fn_X4_keep S x1 x2 = some (r, S') → sc_W (sc_EX dC dI h cy) s H locs S → lv_has ls 3 [(0, .ref (h 0)), (1, .int x1), (2, .int x2)] → W p l e rm_X4_keep s m args below meth c H locs 0 0 Q (F0 m 0 ls []) := by
  obtain ⟨hx, hb, hml, hown, hts⟩ := id C0
  intro S x1 x2 H locs ls hf hW hl
  rw [fn_X4_keep] at hf
  refine lv_aload_n hx hb dX4_keep_0 rfl (lv_at hl 0 rfl) ?_
  refine sc_getX4 C0 hW ni_X4_keep_X4 1 (Nat.le_of_ble_eq_true rfl) lk_X4_keep_19 (v := .ref (h 2)) rfl dX4_keep_1 ?_
  refine lv_iload_n hx hb dX4_keep_4 rfl (lv_at hl 1 rfl) ?_
  refine lv_iload_n hx hb dX4_keep_5 rfl (lv_at hl 2 rfl) ?_
  obtain ⟨r6, S6, hc, hf⟩ := sc_cl_s hf
  refine sc_callVi (As := [.int x1, .int x2]) (rest := []) (q0 := 2) (ci := 1) sc_okX C0 hW (ct_X1_hasCell hc) (cwV 2 hts gX4_keep_X1_hasCell rfl rfl rfl (by decide +kernel) ⟨Nat.le_of_ble_eq_true rfl, Nat.le_of_ble_eq_true rfl⟩) rfl rfl rfl rfl hl.1 rfl (Nat.le_of_ble_eq_true rfl) dX4_keep_6 (fun H locs hW => ?_)
  refine lv_if_ne (tgt := 14) hx hb dX4_keep_9 (by decide) (fun hc => ?_) (fun hc => ?_)
  · replace hf := sc_in hc hf
    refine lv_aload_n hx hb dX4_keep_14 rfl (lv_at hl 0 rfl) ?_
    refine sc_getX4 C0 hW ni_X4_keep_X4 1 (Nat.le_of_ble_eq_true rfl) lk_X4_keep_19 (v := .ref (h 2)) rfl dX4_keep_15 ?_
    refine sc_getX1 C0 hW ni_X4_keep_X1 0 (Nat.le_of_ble_eq_true rfl) lk_X4_keep_155 (v := .int (sc_gi S6 2)) rfl dX4_keep_18 ?_
    refine lv_iconst (v := (3 : Int32)) hx hb dX4_keep_21 (by decide) ?_
    refine lv_icmp_ne (tgt := 42) hx hb dX4_keep_22 (by decide) (fun hc => ?_) (fun hc => ?_)
    · replace hf := sc_in hc hf
      refine lv_bipush (v := (-3 : Int32)) hx hb dX4_keep_42 (by decide) ?_
      exact sc_reti hR hf hW dX4_keep_44
    · replace hf := sc_ip hc hf
      refine lv_aload_n hx hb dX4_keep_25 rfl (lv_at hl 0 rfl) ?_
      refine sc_getX4 C0 hW ni_X4_keep_X4 1 (Nat.le_of_ble_eq_true rfl) lk_X4_keep_19 (v := .ref (h 2)) rfl dX4_keep_26 ?_
      refine sc_getX1 C0 hW ni_X4_keep_X1 16 (Nat.le_of_ble_eq_true rfl) lk_X4_keep_146 (v := .ref (h 20)) rfl dX4_keep_29 ?_
      refine lv_iload_n hx hb dX4_keep_32 rfl (lv_at hl 1 rfl) ?_
      refine lv_iload_n hx hb dX4_keep_33 rfl (lv_at hl 2 rfl) ?_
      obtain ⟨r34, S34, hc, hf⟩ := sc_cl_s hf
      refine sc_callSi (As := [.int x1, .int x2]) (rest := [.ref (h 20)]) sc_okX C0 hW (ct_X4_cell hc) (va_cwS 2 hts gX4_keep_X4_cell rfl rfl rfl (by decide +kernel) ⟨Nat.le_of_ble_eq_true rfl, Nat.le_of_ble_eq_true rfl⟩) rfl hl.1 rfl (Nat.le_of_ble_eq_true rfl) dX4_keep_34 (fun H locs hW => ?_)
      obtain ⟨hv, hf⟩ := sc_ck_s hf
      refine sc_ldX_20 C0 hW hv dX4_keep_37 ?_
      refine lv_iconst (v := (3 : Int32)) hx hb dX4_keep_38 (by decide) ?_
      refine lv_icmp_ne (tgt := 45) hx hb dX4_keep_39 (by decide) (fun hc => ?_) (fun hc => ?_)
      · replace hf := sc_in hc hf
        refine lv_aload_n hx hb dX4_keep_45 rfl (lv_at hl 0 rfl) ?_
        refine sc_getX4 C0 hW ni_X4_keep_X4 1 (Nat.le_of_ble_eq_true rfl) lk_X4_keep_19 (v := .ref (h 2)) rfl dX4_keep_46 ?_
        refine sc_getX1 C0 hW ni_X4_keep_X1 17 (Nat.le_of_ble_eq_true rfl) lk_X4_keep_158 (v := .ref (h 21)) rfl dX4_keep_49 ?_
        refine lv_iload_n hx hb dX4_keep_52 rfl (lv_at hl 1 rfl) ?_
        refine lv_iload_n hx hb dX4_keep_53 rfl (lv_at hl 2 rfl) ?_
        obtain ⟨r54, S54, hc, hf⟩ := sc_cl_s hf
        refine sc_callSi (As := [.int x1, .int x2]) (rest := [.ref (h 21)]) sc_okX C0 hW (ct_X4_cell hc) (va_cwS 2 hts gX4_keep_X4_cell rfl rfl rfl (by decide +kernel) ⟨Nat.le_of_ble_eq_true rfl, Nat.le_of_ble_eq_true rfl⟩) rfl hl.1 rfl (Nat.le_of_ble_eq_true rfl) dX4_keep_54 (fun H locs hW => ?_)
        obtain ⟨hv, hf⟩ := sc_ck_s hf
        refine sc_ldX_21 C0 hW hv dX4_keep_57 ?_
        exact sc_reti hR hf hW dX4_keep_58
      · replace hf := sc_ip hc hf
        refine lv_bipush (v := (-3 : Int32)) hx hb dX4_keep_42 (by decide) ?_
        exact sc_reti hR hf hW dX4_keep_44
  · replace hf := sc_ip hc hf
    refine lv_iconst (v := (-1 : Int32)) hx hb dX4_keep_12 (by decide) ?_
    exact sc_reti hR hf hW dX4_keep_13
set_option maxRecDepth 100000 in
theorem ct_X4_keep {S S' : sc_M} {r : Int32} {x1 : Int32} {x2 : Int32} (hf : fn_X4_keep S x1 x2 = some (r, S')) : sc_Ci l yX4_keep wsX4_keep rm_X4_keep (sc_EX dC dI h cy) [.ref (h 0), .int x1, .int x2] S S' r := by
  refine sc_ofi (cc := cX4_keep) (maxL := 3) .int rfl sc_okX (by decide) rfl (Nat.le_of_ble_eq_true rfl) ?_
  intro p e s m below meth c Q C0 hR hW ls hl
  exact wk_X4_keep_0 C0 hR _ _ _ _ _ _ hf hW hl
end

/-! ===== SeatCounts.lies(III)I ===== -/
abbrev rm_X4_lies : Room := { frames := 1, cells := 0, slots := 0, locals := 22 }
theorem lk_X4_lies_155 : Cond.fieldLink RX4 155 "SeatCounts$Journal" "rule" "I" ∈ wsX4_lies := by decide +kernel
theorem lk_X4_lies_164 : Cond.fieldLink RX4 164 "SeatCounts$PaperRules" "holders" "[I" ∈ wsX4_lies := by decide +kernel
theorem lk_X4_lies_170 : Cond.fieldLink RX4 170 "SeatCounts$PaperRules" "values" "[I" ∈ wsX4_lies := by decide +kernel
theorem lk_X4_lies_19 : Cond.fieldLink RX4 19 "SeatCounts" "journal" "LSeatCounts$Journal;" ∈ wsX4_lies := by decide +kernel
theorem lk_X4_lies_26 : Cond.fieldLink RX4 26 "SeatCounts" "paperRules" "LSeatCounts$PaperRules;" ∈ wsX4_lies := by decide +kernel
theorem ni_X4_lies_X1 : ∀ w ∈ wsX10, w ∈ wsX4_lies := by decide +kernel
theorem ni_X4_lies_X3 : ∀ w ∈ wsX30, w ∈ wsX4_lies := by decide +kernel
theorem ni_X4_lies_X4 : ∀ w ∈ wsX40, w ∈ wsX4_lies := by decide +kernel
noncomputable def fn_X4_lies_62 (S : sc_M) (x1 : Int32) (x2 : Int32) (x3 : Int32) (x4 : Int32) : Option (Int32 × sc_M) :=
  if x4 = 0 then
    if x3 = 0 then
      sc_cl (fn_X4_place S x1 x2) (fun r83 S83 => sc_ck r83 1040 (some ((sc_ga S83 22 r83.toNatClampNeg), S83)))
    else
      sc_cl (fn_X4_place S x1 x2) (fun r99 S99 => sc_ck r99 1040 (some ((sc_ga S99 23 r99.toNatClampNeg), S99)))
  else
    some ((-3 : Int32), S)
noncomputable def fn_X4_lies_50 (S : sc_M) (x1 : Int32) (x2 : Int32) (x3 : Int32) (x4 : Int32) : Option (Int32 × sc_M) :=
  if x3 = 0 then
    fn_X4_lies_62 S x1 x2 x3 x4
  else
    if x3 = (1 : Int32) then
      fn_X4_lies_62 S x1 x2 x3 x4
    else
      some ((-2 : Int32), S)
noncomputable def fn_X4_lies_29 (S : sc_M) (x1 : Int32) (x2 : Int32) (x3 : Int32) (z0 : Int32) : Option (Int32 × sc_M) :=
  if z0 = 0 then
    sc_cl (fn_X3_hasPlace S x1 x2) (fun r42 S42 => if r42 = 0 then
      some ((-1 : Int32), S42)
    else
      fn_X4_lies_50 S42 x1 x2 x3 z0)
  else
    fn_X4_lies_50 S x1 x2 x3 z0
noncomputable def fn_X4_lies (S : sc_M) (x1 : Int32) (x2 : Int32) (x3 : Int32) : Option (Int32 × sc_M) :=
  sc_cl (fn_X1_hasStage S x1) (fun r5 S5 => if r5 = 0 then
    some ((-1 : Int32), S5)
  else
    if (sc_gi S5 2) = (3 : Int32) then
      fn_X4_lies_29 S5 x1 x2 x3 (1 : Int32)
    else
      fn_X4_lies_29 S5 x1 x2 x3 (0 : Int32))
section
variable {p : Program} {l : Launch} {e : Env} {s : State} {m : MethodId} {args : Array Value} {below : List Frame} {meth : Method} {c : Code} {Q : State → Prop} {dC : Nat → ClassId} {dI : Nat → Nat → Nat} {h : Nat → Nat} {cy : Nat → ClassId}
set_option maxHeartbeats 4000000 in
set_option maxRecDepth 100000 in
theorem wk_X4_lies_62 (C0 : CallFix p m c cX4_lies 5 s args wsX4_lies RX4) {S' : sc_M} {r : Int32} (hR : sc_Ri p l e rm_X4_lies s m args below meth c Q cX4_lies (sc_EX dC dI h cy) S' r) : ∀ (S : sc_M) (x1 : Int32) (x2 : Int32) (x3 : Int32) (x4 : Int32) (H : Heap) (locs : List Loc) (ls : Array Slot), fn_X4_lies_62 S x1 x2 x3 x4 = some (r, S') → sc_W (sc_EX dC dI h cy) s H locs S → lv_has ls 5 [(0, .ref (h 0)), (1, .int x1), (2, .int x2), (3, .int x3), (4, .int x4)] → W p l e rm_X4_lies s m args below meth c H locs 0 0 Q (F0 m 62 ls []) := by
  obtain ⟨hx, hb, hml, hown, hts⟩ := id C0
  intro S x1 x2 x3 x4 H locs ls hf hW hl
  rw [fn_X4_lies_62] at hf
  refine lv_iload hx hb dX4_lies_62 (lv_at hl 4 rfl) ?_
  refine lv_if_eq (tgt := 70) hx hb dX4_lies_64 (by decide) (fun hc => ?_) (fun hc => ?_)
  · replace hf := sc_ip hc hf
    refine lv_iload_n hx hb dX4_lies_70 rfl (lv_at hl 3 rfl) ?_
    refine lv_if_ne (tgt := 90) hx hb dX4_lies_71 (by decide) (fun hc => ?_) (fun hc => ?_)
    · replace hf := sc_in hc hf
      refine lv_aload_n hx hb dX4_lies_90 rfl (lv_at hl 0 rfl) ?_
      refine sc_getX4 C0 hW ni_X4_lies_X4 2 (Nat.le_of_ble_eq_true rfl) lk_X4_lies_26 (v := .ref (h 3)) rfl dX4_lies_91 ?_
      refine sc_getX3 C0 hW ni_X4_lies_X3 2 (Nat.le_of_ble_eq_true rfl) lk_X4_lies_170 (v := .ref (h 23)) rfl dX4_lies_94 ?_
      refine lv_iload_n hx hb dX4_lies_97 rfl (lv_at hl 1 rfl) ?_
      refine lv_iload_n hx hb dX4_lies_98 rfl (lv_at hl 2 rfl) ?_
      obtain ⟨r99, S99, hc, hf⟩ := sc_cl_s hf
      refine sc_callSi (As := [.int x1, .int x2]) (rest := [.ref (h 23)]) sc_okX C0 hW (ct_X4_place hc) (va_cwS 2 hts gX4_lies_X4_place rfl rfl rfl (by decide +kernel) ⟨Nat.le_of_ble_eq_true rfl, Nat.le_of_ble_eq_true rfl⟩) rfl hl.1 rfl (Nat.le_of_ble_eq_true rfl) dX4_lies_99 (fun H locs hW => ?_)
      obtain ⟨hv, hf⟩ := sc_ck_s hf
      refine sc_ldX_23 C0 hW hv dX4_lies_102 ?_
      exact sc_reti hR hf hW dX4_lies_103
    · replace hf := sc_ip hc hf
      refine lv_aload_n hx hb dX4_lies_74 rfl (lv_at hl 0 rfl) ?_
      refine sc_getX4 C0 hW ni_X4_lies_X4 2 (Nat.le_of_ble_eq_true rfl) lk_X4_lies_26 (v := .ref (h 3)) rfl dX4_lies_75 ?_
      refine sc_getX3 C0 hW ni_X4_lies_X3 1 (Nat.le_of_ble_eq_true rfl) lk_X4_lies_164 (v := .ref (h 22)) rfl dX4_lies_78 ?_
      refine lv_iload_n hx hb dX4_lies_81 rfl (lv_at hl 1 rfl) ?_
      refine lv_iload_n hx hb dX4_lies_82 rfl (lv_at hl 2 rfl) ?_
      obtain ⟨r83, S83, hc, hf⟩ := sc_cl_s hf
      refine sc_callSi (As := [.int x1, .int x2]) (rest := [.ref (h 22)]) sc_okX C0 hW (ct_X4_place hc) (va_cwS 2 hts gX4_lies_X4_place rfl rfl rfl (by decide +kernel) ⟨Nat.le_of_ble_eq_true rfl, Nat.le_of_ble_eq_true rfl⟩) rfl hl.1 rfl (Nat.le_of_ble_eq_true rfl) dX4_lies_83 (fun H locs hW => ?_)
      obtain ⟨hv, hf⟩ := sc_ck_s hf
      refine sc_ldX_22 C0 hW hv dX4_lies_86 ?_
      refine lv_goto (tgt := 103) hx hb dX4_lies_87 (by decide) ?_
      exact sc_reti hR hf hW dX4_lies_103
  · replace hf := sc_in hc hf
    refine lv_bipush (v := (-3 : Int32)) hx hb dX4_lies_67 (by decide) ?_
    exact sc_reti hR hf hW dX4_lies_69
set_option maxHeartbeats 4000000 in
set_option maxRecDepth 100000 in
theorem wk_X4_lies_50 (C0 : CallFix p m c cX4_lies 5 s args wsX4_lies RX4) {S' : sc_M} {r : Int32} (hR : sc_Ri p l e rm_X4_lies s m args below meth c Q cX4_lies (sc_EX dC dI h cy) S' r) : ∀ (S : sc_M) (x1 : Int32) (x2 : Int32) (x3 : Int32) (x4 : Int32) (H : Heap) (locs : List Loc) (ls : Array Slot), fn_X4_lies_50 S x1 x2 x3 x4 = some (r, S') → sc_W (sc_EX dC dI h cy) s H locs S → lv_has ls 5 [(0, .ref (h 0)), (1, .int x1), (2, .int x2), (3, .int x3), (4, .int x4)] → W p l e rm_X4_lies s m args below meth c H locs 0 0 Q (F0 m 50 ls []) := by
  obtain ⟨hx, hb, hml, hown, hts⟩ := id C0
  intro S x1 x2 x3 x4 H locs ls hf hW hl
  rw [fn_X4_lies_50] at hf
  refine lv_iload_n hx hb dX4_lies_50 rfl (lv_at hl 3 rfl) ?_
  refine lv_if_eq (tgt := 62) hx hb dX4_lies_51 (by decide) (fun hc => ?_) (fun hc => ?_)
  · replace hf := sc_ip hc hf
    exact wk_X4_lies_62 C0 hR  _ _ _ _ _ _ _ _ hf hW (lv_sub hl [0, 1, 2, 3, 4] rfl)
  · replace hf := sc_in hc hf
    refine lv_iload_n hx hb dX4_lies_54 rfl (lv_at hl 3 rfl) ?_
    refine lv_iconst (v := (1 : Int32)) hx hb dX4_lies_55 (by decide) ?_
    refine lv_icmp_eq (tgt := 62) hx hb dX4_lies_56 (by decide) (fun hc => ?_) (fun hc => ?_)
    · replace hf := sc_ip hc hf
      exact wk_X4_lies_62 C0 hR  _ _ _ _ _ _ _ _ hf hW (lv_sub hl [0, 1, 2, 3, 4] rfl)
    · replace hf := sc_in hc hf
      refine lv_bipush (v := (-2 : Int32)) hx hb dX4_lies_59 (by decide) ?_
      exact sc_reti hR hf hW dX4_lies_61
set_option maxHeartbeats 4000000 in
set_option maxRecDepth 100000 in
theorem wk_X4_lies_29 (C0 : CallFix p m c cX4_lies 5 s args wsX4_lies RX4) {S' : sc_M} {r : Int32} (hR : sc_Ri p l e rm_X4_lies s m args below meth c Q cX4_lies (sc_EX dC dI h cy) S' r) : ∀ (S : sc_M) (x1 : Int32) (x2 : Int32) (x3 : Int32) (z0 : Int32) (H : Heap) (locs : List Loc) (ls : Array Slot), fn_X4_lies_29 S x1 x2 x3 z0 = some (r, S') → sc_W (sc_EX dC dI h cy) s H locs S → lv_has ls 5 [(0, .ref (h 0)), (1, .int x1), (2, .int x2), (3, .int x3)] → W p l e rm_X4_lies s m args below meth c H locs 0 0 Q (F0 m 29 ls [.int z0]) := by
  obtain ⟨hx, hb, hml, hown, hts⟩ := id C0
  intro S x1 x2 x3 z0 H locs ls hf hW hl
  rw [fn_X4_lies_29] at hf
  refine lv_istore (lv' := [(4, .int z0), (0, .ref (h 0)), (1, .int x1), (2, .int x2), (3, .int x3)]) hx hb dX4_lies_29 hl (by decide) rfl (fun ls hl => ?_)
  refine lv_iload hx hb dX4_lies_31 (lv_at hl 0 rfl) ?_
  refine lv_if_ne (tgt := 50) hx hb dX4_lies_33 (by decide) (fun hc => ?_) (fun hc => ?_)
  · replace hf := sc_in hc hf
    exact wk_X4_lies_50 C0 hR  _ _ _ _ _ _ _ _ hf hW (lv_sub hl [1, 2, 3, 4, 0] rfl)
  · replace hf := sc_ip hc hf
    refine lv_aload_n hx hb dX4_lies_36 rfl (lv_at hl 1 rfl) ?_
    refine sc_getX4 C0 hW ni_X4_lies_X4 2 (Nat.le_of_ble_eq_true rfl) lk_X4_lies_26 (v := .ref (h 3)) rfl dX4_lies_37 ?_
    refine lv_iload_n hx hb dX4_lies_40 rfl (lv_at hl 2 rfl) ?_
    refine lv_iload_n hx hb dX4_lies_41 rfl (lv_at hl 3 rfl) ?_
    obtain ⟨r42, S42, hc, hf⟩ := sc_cl_s hf
    refine sc_callVi (As := [.int x1, .int x2]) (rest := []) (q0 := 3) (ci := 2) sc_okX C0 hW (ct_X3_hasPlace hc) (cwV 2 hts gX4_lies_X3_hasPlace rfl rfl rfl (by decide +kernel) ⟨Nat.le_of_ble_eq_true rfl, Nat.le_of_ble_eq_true rfl⟩) rfl rfl rfl rfl hl.1 rfl (Nat.le_of_ble_eq_true rfl) dX4_lies_42 (fun H locs hW => ?_)
    refine lv_if_ne (tgt := 50) hx hb dX4_lies_45 (by decide) (fun hc => ?_) (fun hc => ?_)
    · replace hf := sc_in hc hf
      exact wk_X4_lies_50 C0 hR  _ _ _ _ _ _ _ _ hf hW (lv_sub hl [1, 2, 3, 4, 0] rfl)
    · replace hf := sc_ip hc hf
      refine lv_iconst (v := (-1 : Int32)) hx hb dX4_lies_48 (by decide) ?_
      exact sc_reti hR hf hW dX4_lies_49
set_option maxHeartbeats 4000000 in
set_option maxRecDepth 100000 in
theorem wk_X4_lies_0 (C0 : CallFix p m c cX4_lies 5 s args wsX4_lies RX4) {S' : sc_M} {r : Int32} (hR : sc_Ri p l e rm_X4_lies s m args below meth c Q cX4_lies (sc_EX dC dI h cy) S' r) : ∀ (S : sc_M) (x1 : Int32) (x2 : Int32) (x3 : Int32) (H : Heap) (locs : List Loc) (ls : Array Slot), fn_X4_lies S x1 x2 x3 = some (r, S') → sc_W (sc_EX dC dI h cy) s H locs S → lv_has ls 5 [(0, .ref (h 0)), (1, .int x1), (2, .int x2), (3, .int x3)] → W p l e rm_X4_lies s m args below meth c H locs 0 0 Q (F0 m 0 ls []) := by
  obtain ⟨hx, hb, hml, hown, hts⟩ := id C0
  intro S x1 x2 x3 H locs ls hf hW hl
  rw [fn_X4_lies] at hf
  refine lv_aload_n hx hb dX4_lies_0 rfl (lv_at hl 0 rfl) ?_
  refine sc_getX4 C0 hW ni_X4_lies_X4 1 (Nat.le_of_ble_eq_true rfl) lk_X4_lies_19 (v := .ref (h 2)) rfl dX4_lies_1 ?_
  refine lv_iload_n hx hb dX4_lies_4 rfl (lv_at hl 1 rfl) ?_
  obtain ⟨r5, S5, hc, hf⟩ := sc_cl_s hf
  refine sc_callVi (As := [.int x1]) (rest := []) (q0 := 2) (ci := 1) sc_okX C0 hW (ct_X1_hasStage hc) (cwV 1 hts gX4_lies_X1_hasStage rfl rfl rfl (by decide +kernel) ⟨Nat.le_of_ble_eq_true rfl, Nat.le_of_ble_eq_true rfl⟩) rfl rfl rfl rfl hl.1 rfl (Nat.le_of_ble_eq_true rfl) dX4_lies_5 (fun H locs hW => ?_)
  refine lv_if_ne (tgt := 13) hx hb dX4_lies_8 (by decide) (fun hc => ?_) (fun hc => ?_)
  · replace hf := sc_in hc hf
    refine lv_aload_n hx hb dX4_lies_13 rfl (lv_at hl 0 rfl) ?_
    refine sc_getX4 C0 hW ni_X4_lies_X4 1 (Nat.le_of_ble_eq_true rfl) lk_X4_lies_19 (v := .ref (h 2)) rfl dX4_lies_14 ?_
    refine sc_getX1 C0 hW ni_X4_lies_X1 0 (Nat.le_of_ble_eq_true rfl) lk_X4_lies_155 (v := .int (sc_gi S5 2)) rfl dX4_lies_17 ?_
    refine lv_iconst (v := (3 : Int32)) hx hb dX4_lies_20 (by decide) ?_
    refine lv_icmp_ne (tgt := 28) hx hb dX4_lies_21 (by decide) (fun hc => ?_) (fun hc => ?_)
    · replace hf := sc_in hc hf
      refine lv_iconst (v := (0 : Int32)) hx hb dX4_lies_28 (by decide) ?_
      exact wk_X4_lies_29 C0 hR  _ _ _ _ _ _ _ _ hf hW (lv_sub hl [0, 1, 2, 3] rfl)
    · replace hf := sc_ip hc hf
      refine lv_iconst (v := (1 : Int32)) hx hb dX4_lies_24 (by decide) ?_
      refine lv_goto (tgt := 29) hx hb dX4_lies_25 (by decide) ?_
      exact wk_X4_lies_29 C0 hR  _ _ _ _ _ _ _ _ hf hW (lv_sub hl [0, 1, 2, 3] rfl)
  · replace hf := sc_ip hc hf
    refine lv_iconst (v := (-1 : Int32)) hx hb dX4_lies_11 (by decide) ?_
    exact sc_reti hR hf hW dX4_lies_12
set_option maxRecDepth 100000 in
theorem ct_X4_lies {S S' : sc_M} {r : Int32} {x1 : Int32} {x2 : Int32} {x3 : Int32} (hf : fn_X4_lies S x1 x2 x3 = some (r, S')) : sc_Ci l yX4_lies wsX4_lies rm_X4_lies (sc_EX dC dI h cy) [.ref (h 0), .int x1, .int x2, .int x3] S S' r := by
  refine sc_ofi (cc := cX4_lies) (maxL := 5) .int rfl sc_okX (by decide) rfl (Nat.le_of_ble_eq_true rfl) ?_
  intro p e s m below meth c Q C0 hR hW ls hl
  exact wk_X4_lies_0 C0 hR _ _ _ _ _ _ _ hf hW hl
end

/-! ===== SeatCounts.sheet(II)J ===== -/
abbrev rm_X4_sheet : Room := { frames := 2, cells := 0, slots := 0, locals := 43 }
theorem lk_X4_sheet_114 : Cond.constantLong RX4 114 (-1) ∈ wsX4_sheet := by decide +kernel
theorem lk_X4_sheet_19 : Cond.fieldLink RX4 19 "SeatCounts" "journal" "LSeatCounts$Journal;" ∈ wsX4_sheet := by decide +kernel
theorem lk_X4_sheet_30 : Cond.fieldLink RX4 30 "SeatCounts" "numbers" "[J" ∈ wsX4_sheet := by decide +kernel
theorem ni_X4_sheet_X4 : ∀ w ∈ wsX40, w ∈ wsX4_sheet := by decide +kernel
noncomputable def fn_X4_sheet (S : sc_M) (x1 : Int32) (x2 : Int32) : Option (Int64 × sc_M) :=
  sc_cl (fn_X1_hasCell S x1 x2) (fun r6 S6 => if r6 = 0 then
    some ((-1 : Int64), S6)
  else
    sc_cl (fn_X4_cell S6 x1 x2) (fun r18 S18 => sc_ck r18 864 (some ((sc_gb S18 25 r18.toNatClampNeg), S18))))
section
variable {p : Program} {l : Launch} {e : Env} {s : State} {m : MethodId} {args : Array Value} {below : List Frame} {meth : Method} {c : Code} {Q : State → Prop} {dC : Nat → ClassId} {dI : Nat → Nat → Nat} {h : Nat → Nat} {cy : Nat → ClassId}
set_option maxHeartbeats 4000000 in
set_option maxRecDepth 100000 in
theorem wk_X4_sheet_0 (C0 : CallFix p m c cX4_sheet 3 s args wsX4_sheet RX4) {S' : sc_M} {r : Int64} (hR : sc_Rl p l e rm_X4_sheet s m args below meth c Q cX4_sheet (sc_EX dC dI h cy) S' r) : ∀ (S : sc_M) (x1 : Int32) (x2 : Int32) (H : Heap) (locs : List Loc) (ls : Array Slot), fn_X4_sheet S x1 x2 = some (r, S') → sc_W (sc_EX dC dI h cy) s H locs S → lv_has ls 3 [(0, .ref (h 0)), (1, .int x1), (2, .int x2)] → W p l e rm_X4_sheet s m args below meth c H locs 0 0 Q (F0 m 0 ls []) := by
  obtain ⟨hx, hb, hml, hown, hts⟩ := id C0
  intro S x1 x2 H locs ls hf hW hl
  rw [fn_X4_sheet] at hf
  refine lv_aload_n hx hb dX4_sheet_0 rfl (lv_at hl 0 rfl) ?_
  refine sc_getX4 C0 hW ni_X4_sheet_X4 1 (Nat.le_of_ble_eq_true rfl) lk_X4_sheet_19 (v := .ref (h 2)) rfl dX4_sheet_1 ?_
  refine lv_iload_n hx hb dX4_sheet_4 rfl (lv_at hl 1 rfl) ?_
  refine lv_iload_n hx hb dX4_sheet_5 rfl (lv_at hl 2 rfl) ?_
  obtain ⟨r6, S6, hc, hf⟩ := sc_cl_s hf
  refine sc_callVi (As := [.int x1, .int x2]) (rest := []) (q0 := 2) (ci := 1) sc_okX C0 hW (ct_X1_hasCell hc) (cwV 2 hts gX4_sheet_X1_hasCell rfl rfl rfl (by decide +kernel) ⟨Nat.le_of_ble_eq_true rfl, Nat.le_of_ble_eq_true rfl⟩) rfl rfl rfl rfl hl.1 rfl (Nat.le_of_ble_eq_true rfl) dX4_sheet_6 (fun H locs hW => ?_)
  refine lv_if_eq (tgt := 25) hx hb dX4_sheet_9 (by decide) (fun hc => ?_) (fun hc => ?_)
  · replace hf := sc_ip hc hf
    refine lv_ldc2 (v := (-1 : Int64)) hx hb hown (hts _ lk_X4_sheet_114) dX4_sheet_25 ?_
    exact sc_retl hR hf hW dX4_sheet_28
  · replace hf := sc_in hc hf
    refine lv_aload_n hx hb dX4_sheet_12 rfl (lv_at hl 0 rfl) ?_
    refine sc_getX4 C0 hW ni_X4_sheet_X4 3 (Nat.le_of_ble_eq_true rfl) lk_X4_sheet_30 (v := .ref (h 25)) rfl dX4_sheet_13 ?_
    refine lv_iload_n hx hb dX4_sheet_16 rfl (lv_at hl 1 rfl) ?_
    refine lv_iload_n hx hb dX4_sheet_17 rfl (lv_at hl 2 rfl) ?_
    obtain ⟨r18, S18, hc, hf⟩ := sc_cl_s hf
    refine sc_callSi (As := [.int x1, .int x2]) (rest := [.ref (h 25)]) sc_okX C0 hW (ct_X4_cell hc) (va_cwS 2 hts gX4_sheet_X4_cell rfl rfl rfl (by decide +kernel) ⟨Nat.le_of_ble_eq_true rfl, Nat.le_of_ble_eq_true rfl⟩) rfl hl.1 rfl (Nat.le_of_ble_eq_true rfl) dX4_sheet_18 (fun H locs hW => ?_)
    obtain ⟨hv, hf⟩ := sc_ck_s hf
    refine sc_ldX_25 C0 hW hv dX4_sheet_21 ?_
    refine lv_goto (tgt := 28) hx hb dX4_sheet_22 (by decide) ?_
    exact sc_retl hR hf hW dX4_sheet_28
set_option maxRecDepth 100000 in
theorem ct_X4_sheet {S S' : sc_M} {r : Int64} {x1 : Int32} {x2 : Int32} (hf : fn_X4_sheet S x1 x2 = some (r, S')) : sc_Cl l yX4_sheet wsX4_sheet rm_X4_sheet (sc_EX dC dI h cy) [.ref (h 0), .int x1, .int x2] S S' r := by
  refine sc_ofl (cc := cX4_sheet) (maxL := 3) sc_okX (by decide) rfl (Nat.le_of_ble_eq_true rfl) ?_
  intro p e s m below meth c Q C0 hR hW ls hl
  exact wk_X4_sheet_0 C0 hR _ _ _ _ _ _ hf hW hl
end

/-! ===== SeatCounts.forge(IIJ)J ===== -/
abbrev rm_X4_forge : Room := { frames := 2, cells := 0, slots := 0, locals := 43 }
theorem lk_X4_forge_114 : Cond.constantLong RX4 114 (-1) ∈ wsX4_forge := by decide +kernel
theorem lk_X4_forge_19 : Cond.fieldLink RX4 19 "SeatCounts" "journal" "LSeatCounts$Journal;" ∈ wsX4_forge := by decide +kernel
theorem lk_X4_forge_30 : Cond.fieldLink RX4 30 "SeatCounts" "numbers" "[J" ∈ wsX4_forge := by decide +kernel
theorem ni_X4_forge_X4 : ∀ w ∈ wsX40, w ∈ wsX4_forge := by decide +kernel
noncomputable def fn_X4_forge (S : sc_M) (x1 : Int32) (x2 : Int32) (x3 : Int64) : Option (Int64 × sc_M) :=
  sc_cl (fn_X1_hasCell S x1 x2) (fun r6 S6 => if r6 = 0 then
    some ((-1 : Int64), S6)
  else
    sc_cl (fn_X4_cell S6 x1 x2) (fun r22 S22 => sc_ck r22 864 (sc_sq ((sc_gb S22 25 r22.toNatClampNeg)) (fun y26 => sc_cl (fn_X4_cell S22 x1 x2) (fun r34 S34 => sc_ck r34 864 (sc_sq (sc_mB S34 25 (vp_updL (sc_gb S34 25) r34.toNatClampNeg x3)) (fun S38 => some (y26, S38))))))))
section
variable {p : Program} {l : Launch} {e : Env} {s : State} {m : MethodId} {args : Array Value} {below : List Frame} {meth : Method} {c : Code} {Q : State → Prop} {dC : Nat → ClassId} {dI : Nat → Nat → Nat} {h : Nat → Nat} {cy : Nat → ClassId}
set_option maxHeartbeats 4000000 in
set_option maxRecDepth 100000 in
theorem wk_X4_forge_0 (C0 : CallFix p m c cX4_forge 7 s args wsX4_forge RX4) {S' : sc_M} {r : Int64} (hR : sc_Rl p l e rm_X4_forge s m args below meth c Q cX4_forge (sc_EX dC dI h cy) S' r) : ∀ (S : sc_M) (x1 : Int32) (x2 : Int32) (x3 : Int64) (H : Heap) (locs : List Loc) (ls : Array Slot), fn_X4_forge S x1 x2 x3 = some (r, S') → sc_W (sc_EX dC dI h cy) s H locs S → lv_has ls 7 [(0, .ref (h 0)), (1, .int x1), (2, .int x2), (3, .long x3)] → W p l e rm_X4_forge s m args below meth c H locs 0 0 Q (F0 m 0 ls []) := by
  obtain ⟨hx, hb, hml, hown, hts⟩ := id C0
  intro S x1 x2 x3 H locs ls hf hW hl
  rw [fn_X4_forge] at hf
  refine lv_aload_n hx hb dX4_forge_0 rfl (lv_at hl 0 rfl) ?_
  refine sc_getX4 C0 hW ni_X4_forge_X4 1 (Nat.le_of_ble_eq_true rfl) lk_X4_forge_19 (v := .ref (h 2)) rfl dX4_forge_1 ?_
  refine lv_iload_n hx hb dX4_forge_4 rfl (lv_at hl 1 rfl) ?_
  refine lv_iload_n hx hb dX4_forge_5 rfl (lv_at hl 2 rfl) ?_
  obtain ⟨r6, S6, hc, hf⟩ := sc_cl_s hf
  refine sc_callVi (As := [.int x1, .int x2]) (rest := []) (q0 := 2) (ci := 1) sc_okX C0 hW (ct_X1_hasCell hc) (cwV 2 hts gX4_forge_X1_hasCell rfl rfl rfl (by decide +kernel) ⟨Nat.le_of_ble_eq_true rfl, Nat.le_of_ble_eq_true rfl⟩) rfl rfl rfl rfl hl.1 rfl (Nat.le_of_ble_eq_true rfl) dX4_forge_6 (fun H locs hW => ?_)
  refine lv_if_ne (tgt := 16) hx hb dX4_forge_9 (by decide) (fun hc => ?_) (fun hc => ?_)
  · replace hf := sc_in hc hf
    refine lv_aload_n hx hb dX4_forge_16 rfl (lv_at hl 0 rfl) ?_
    refine sc_getX4 C0 hW ni_X4_forge_X4 3 (Nat.le_of_ble_eq_true rfl) lk_X4_forge_30 (v := .ref (h 25)) rfl dX4_forge_17 ?_
    refine lv_iload_n hx hb dX4_forge_20 rfl (lv_at hl 1 rfl) ?_
    refine lv_iload_n hx hb dX4_forge_21 rfl (lv_at hl 2 rfl) ?_
    obtain ⟨r22, S22, hc, hf⟩ := sc_cl_s hf
    refine sc_callSi (As := [.int x1, .int x2]) (rest := [.ref (h 25)]) sc_okX C0 hW (ct_X4_cell hc) (va_cwS 2 hts gX4_forge_X4_cell rfl rfl rfl (by decide +kernel) ⟨Nat.le_of_ble_eq_true rfl, Nat.le_of_ble_eq_true rfl⟩) rfl hl.1 rfl (Nat.le_of_ble_eq_true rfl) dX4_forge_22 (fun H locs hW => ?_)
    obtain ⟨hv, hf⟩ := sc_ck_s hf
    refine sc_ldX_25 C0 hW hv dX4_forge_25 ?_
    obtain ⟨y26, ey26, hf⟩ := sc_sq_s hf
    refine sc_topl ey26 ?_
    refine lv_lstore (lv' := [(5, .long y26), (0, .ref (h 0)), (1, .int x1), (2, .int x2), (3, .long x3)]) hx hb dX4_forge_26 hl (by decide) rfl (fun ls hl => ?_)
    refine lv_aload_n hx hb dX4_forge_28 rfl (lv_at hl 1 rfl) ?_
    refine sc_getX4 C0 hW ni_X4_forge_X4 3 (Nat.le_of_ble_eq_true rfl) lk_X4_forge_30 (v := .ref (h 25)) rfl dX4_forge_29 ?_
    refine lv_iload_n hx hb dX4_forge_32 rfl (lv_at hl 2 rfl) ?_
    refine lv_iload_n hx hb dX4_forge_33 rfl (lv_at hl 3 rfl) ?_
    obtain ⟨r34, S34, hc, hf⟩ := sc_cl_s hf
    refine sc_callSi (As := [.int x1, .int x2]) (rest := [.ref (h 25)]) sc_okX C0 hW (ct_X4_cell hc) (va_cwS 2 hts gX4_forge_X4_cell rfl rfl rfl (by decide +kernel) ⟨Nat.le_of_ble_eq_true rfl, Nat.le_of_ble_eq_true rfl⟩) rfl hl.1 rfl (Nat.le_of_ble_eq_true rfl) dX4_forge_34 (fun H locs hW => ?_)
    refine lv_lload_n hx hb dX4_forge_37 rfl (lv_at hl 4 rfl) ?_
    obtain ⟨hv, hf⟩ := sc_ck_s hf
    obtain ⟨S38, eS38, hf⟩ := sc_sq_s hf
    refine sc_stX_25 C0 hW hv eS38 dX4_forge_38 (fun H locs hW => ?_)
    refine lv_lload hx hb dX4_forge_39 (lv_at hl 0 rfl) ?_
    exact sc_retl hR hf hW dX4_forge_41
  · replace hf := sc_ip hc hf
    refine lv_ldc2 (v := (-1 : Int64)) hx hb hown (hts _ lk_X4_forge_114) dX4_forge_12 ?_
    exact sc_retl hR hf hW dX4_forge_15
set_option maxRecDepth 100000 in
theorem ct_X4_forge {S S' : sc_M} {r : Int64} {x1 : Int32} {x2 : Int32} {x3 : Int64} (hf : fn_X4_forge S x1 x2 x3 = some (r, S')) : sc_Cl l yX4_forge wsX4_forge rm_X4_forge (sc_EX dC dI h cy) [.ref (h 0), .int x1, .int x2, .long x3] S S' r := by
  refine sc_ofl (cc := cX4_forge) (maxL := 7) sc_okX (by decide) rfl (Nat.le_of_ble_eq_true rfl) ?_
  intro p e s m below meth c Q C0 hR hW ls hl
  exact wk_X4_forge_0 C0 hR _ _ _ _ _ _ _ hf hW hl
end

/-! ===== SeatCounts.check()I ===== -/
abbrev rm_X4_check : Room := { frames := 1, cells := 0, slots := 0, locals := 21 }
theorem lk_X4_check_108 : Cond.fieldLink RX4 108 "SeatCounts$Journal" "stages" "I" ∈ wsX4_check := by decide +kernel
theorem lk_X4_check_173 : Cond.fieldLink RX4 173 "SeatCounts$Journal" "candidates" "I" ∈ wsX4_check := by decide +kernel
theorem lk_X4_check_19 : Cond.fieldLink RX4 19 "SeatCounts" "journal" "LSeatCounts$Journal;" ∈ wsX4_check := by decide +kernel
theorem lk_X4_check_30 : Cond.fieldLink RX4 30 "SeatCounts" "numbers" "[J" ∈ wsX4_check := by decide +kernel
theorem lk_X4_check_99 : Cond.fieldLink RX4 99 "SeatCounts$Journal" "votes" "[J" ∈ wsX4_check := by decide +kernel
theorem ni_X4_check_X1 : ∀ w ∈ wsX10, w ∈ wsX4_check := by decide +kernel
theorem ni_X4_check_X4 : ∀ w ∈ wsX40, w ∈ wsX4_check := by decide +kernel
noncomputable def fn_X4_check_28 (k15 : sc_M → Int32 → Option (Int32 × sc_M)) : Nat → sc_M → Int32 → Int32 → Option (Int32 × sc_M)
  | 0, _, _, _ => none
  | n + 1, S, x1, x2 =>
    if (sc_gi S 4) ≤ x2 then
      k15 S (x1 + 1)
    else
      sc_cl (fn_X4_cell S x1 x2) (fun r45 S45 => sc_ck r45 864 (sc_cl (fn_X4_cell S45 x1 x2) (fun r58 S58 => sc_ck r58 864 (if (sc_gb S45 25 r45.toNatClampNeg) = (sc_gb S58 19 r58.toNatClampNeg) then
        fn_X4_check_28 k15 n S58 x1 (x2 + 1)
      else
        some (((-20 : Int32) - x1), S58)))))
noncomputable def fn_X4_check_15 : Nat → sc_M → Int32 → Option (Int32 × sc_M)
  | 0, _, _ => none
  | n + 1, S, x1 =>
    if (sc_gi S 5) ≤ x1 then
      some ((1 : Int32), S)
    else
      fn_X4_check_28 (fn_X4_check_15 n) sc_FU S x1 (0 : Int32)
noncomputable def fn_X4_check (S : sc_M) : Option (Int32 × sc_M) :=
  if (sc_gi S 5) = 0 then
    some ((-3 : Int32), S)
  else
    fn_X4_check_15 sc_FU S (0 : Int32)
section
variable {p : Program} {l : Launch} {e : Env} {s : State} {m : MethodId} {args : Array Value} {below : List Frame} {meth : Method} {c : Code} {Q : State → Prop} {dC : Nat → ClassId} {dI : Nat → Nat → Nat} {h : Nat → Nat} {cy : Nat → ClassId}
set_option maxHeartbeats 4000000 in
set_option maxRecDepth 100000 in
theorem wk_X4_check_28 (C0 : CallFix p m c cX4_check 3 s args wsX4_check RX4) {S' : sc_M} {r : Int32} (hR : sc_Ri p l e rm_X4_check s m args below meth c Q cX4_check (sc_EX dC dI h cy) S' r) {k15 : sc_M → Int32 → Option (Int32 × sc_M)} (hk15 : ∀ (S : sc_M) (x1 : Int32) (H : Heap) (locs : List Loc) (ls : Array Slot), k15 S x1 = some (r, S') → sc_W (sc_EX dC dI h cy) s H locs S → lv_has ls 3 [(0, .ref (h 0)), (1, .int x1)] → W p l e rm_X4_check s m args below meth c H locs 0 0 Q (F0 m 15 ls [])) : ∀ n : Nat, ∀ (S : sc_M) (x1 : Int32) (x2 : Int32) (H : Heap) (locs : List Loc) (ls : Array Slot), fn_X4_check_28 k15 n S x1 x2 = some (r, S') → sc_W (sc_EX dC dI h cy) s H locs S → lv_has ls 3 [(0, .ref (h 0)), (1, .int x1), (2, .int x2)] → W p l e rm_X4_check s m args below meth c H locs 0 0 Q (F0 m 28 ls []) := by
  obtain ⟨hx, hb, hml, hown, hts⟩ := id C0
  intro n
  induction n with
  | zero => intro S x1 x2 H locs ls; intro hf; cases hf
  | succ n ih =>
    intro S x1 x2 H locs ls hf hW hl
    rw [fn_X4_check_28] at hf
    refine lv_iload_n hx hb dX4_check_28 rfl (lv_at hl 2 rfl) ?_
    refine lv_aload_n hx hb dX4_check_29 rfl (lv_at hl 0 rfl) ?_
    refine sc_getX4 C0 hW ni_X4_check_X4 1 (Nat.le_of_ble_eq_true rfl) lk_X4_check_19 (v := .ref (h 2)) rfl dX4_check_30 ?_
    refine sc_getX1 C0 hW ni_X4_check_X1 2 (Nat.le_of_ble_eq_true rfl) lk_X4_check_173 (v := .int (sc_gi S 4)) rfl dX4_check_33 ?_
    refine lv_icmp_ge (tgt := 77) hx hb dX4_check_36 (by decide) (fun hc => ?_) (fun hc => ?_)
    · replace hf := sc_ip hc hf
      refine lv_iinc (v := (x1 + 1)) (lv' := [(1, .int (x1 + 1)), (0, .ref (h 0)), (2, .int x2)]) hx hb dX4_check_77 hl (k := 1) rfl rfl (by decide) rfl (fun ls hl => ?_)
      refine lv_goto (tgt := 15) hx hb dX4_check_80 (by decide) ?_
      exact hk15 _ _ _ _ _ hf hW (lv_sub hl [1, 0] rfl)
    · replace hf := sc_in hc hf
      refine lv_aload_n hx hb dX4_check_39 rfl (lv_at hl 0 rfl) ?_
      refine sc_getX4 C0 hW ni_X4_check_X4 3 (Nat.le_of_ble_eq_true rfl) lk_X4_check_30 (v := .ref (h 25)) rfl dX4_check_40 ?_
      refine lv_iload_n hx hb dX4_check_43 rfl (lv_at hl 1 rfl) ?_
      refine lv_iload_n hx hb dX4_check_44 rfl (lv_at hl 2 rfl) ?_
      obtain ⟨r45, S45, hc, hf⟩ := sc_cl_s hf
      refine sc_callSi (As := [.int x1, .int x2]) (rest := [.ref (h 25)]) sc_okX C0 hW (ct_X4_cell hc) (va_cwS 2 hts gX4_check_X4_cell rfl rfl rfl (by decide +kernel) ⟨Nat.le_of_ble_eq_true rfl, Nat.le_of_ble_eq_true rfl⟩) rfl hl.1 rfl (Nat.le_of_ble_eq_true rfl) dX4_check_45 (fun H locs hW => ?_)
      obtain ⟨hv, hf⟩ := sc_ck_s hf
      refine sc_ldX_25 C0 hW hv dX4_check_48 ?_
      refine lv_aload_n hx hb dX4_check_49 rfl (lv_at hl 0 rfl) ?_
      refine sc_getX4 C0 hW ni_X4_check_X4 1 (Nat.le_of_ble_eq_true rfl) lk_X4_check_19 (v := .ref (h 2)) rfl dX4_check_50 ?_
      refine sc_getX1 C0 hW ni_X4_check_X1 15 (Nat.le_of_ble_eq_true rfl) lk_X4_check_99 (v := .ref (h 19)) rfl dX4_check_53 ?_
      refine lv_iload_n hx hb dX4_check_56 rfl (lv_at hl 1 rfl) ?_
      refine lv_iload_n hx hb dX4_check_57 rfl (lv_at hl 2 rfl) ?_
      obtain ⟨r58, S58, hc, hf⟩ := sc_cl_s hf
      refine sc_callSi (As := [.int x1, .int x2]) (rest := [.ref (h 19), .long (sc_gb S45 25 r45.toNatClampNeg)]) sc_okX C0 hW (ct_X4_cell hc) (va_cwS 2 hts gX4_check_X4_cell rfl rfl rfl (by decide +kernel) ⟨Nat.le_of_ble_eq_true rfl, Nat.le_of_ble_eq_true rfl⟩) rfl hl.1 rfl (Nat.le_of_ble_eq_true rfl) dX4_check_58 (fun H locs hW => ?_)
      obtain ⟨hv, hf⟩ := sc_ck_s hf
      refine sc_ldX_19 C0 hW hv dX4_check_61 ?_
      refine sc_l_eq (tgt := 71) C0 dX4_check_62 dX4_check_63 (by decide) (fun hc => ?_) (fun hc => ?_)
      · replace hf := sc_ip hc hf
        refine lv_iinc (v := (x2 + 1)) (lv' := [(2, .int (x2 + 1)), (0, .ref (h 0)), (1, .int x1)]) hx hb dX4_check_71 hl (k := 2) rfl rfl (by decide) rfl (fun ls hl => ?_)
        refine lv_goto (tgt := 28) hx hb dX4_check_74 (by decide) ?_
        exact ih _ _ _ _ _ _ hf hW (lv_sub hl [1, 2, 0] rfl)
      · replace hf := sc_in hc hf
        refine lv_bipush (v := (-20 : Int32)) hx hb dX4_check_66 (by decide) ?_
        refine lv_iload_n hx hb dX4_check_68 rfl (lv_at hl 1 rfl) ?_
        refine lv_isub hx hb dX4_check_69 ?_
        exact sc_reti hR hf hW dX4_check_70
set_option maxHeartbeats 4000000 in
set_option maxRecDepth 100000 in
theorem wk_X4_check_15 (C0 : CallFix p m c cX4_check 3 s args wsX4_check RX4) {S' : sc_M} {r : Int32} (hR : sc_Ri p l e rm_X4_check s m args below meth c Q cX4_check (sc_EX dC dI h cy) S' r) : ∀ n : Nat, ∀ (S : sc_M) (x1 : Int32) (H : Heap) (locs : List Loc) (ls : Array Slot), fn_X4_check_15 n S x1 = some (r, S') → sc_W (sc_EX dC dI h cy) s H locs S → lv_has ls 3 [(0, .ref (h 0)), (1, .int x1)] → W p l e rm_X4_check s m args below meth c H locs 0 0 Q (F0 m 15 ls []) := by
  obtain ⟨hx, hb, hml, hown, hts⟩ := id C0
  intro n
  induction n with
  | zero => intro S x1 H locs ls; intro hf; cases hf
  | succ n ih =>
    intro S x1 H locs ls hf hW hl
    rw [fn_X4_check_15] at hf
    refine lv_iload_n hx hb dX4_check_15 rfl (lv_at hl 1 rfl) ?_
    refine lv_aload_n hx hb dX4_check_16 rfl (lv_at hl 0 rfl) ?_
    refine sc_getX4 C0 hW ni_X4_check_X4 1 (Nat.le_of_ble_eq_true rfl) lk_X4_check_19 (v := .ref (h 2)) rfl dX4_check_17 ?_
    refine sc_getX1 C0 hW ni_X4_check_X1 3 (Nat.le_of_ble_eq_true rfl) lk_X4_check_108 (v := .int (sc_gi S 5)) rfl dX4_check_20 ?_
    refine lv_icmp_ge (tgt := 83) hx hb dX4_check_23 (by decide) (fun hc => ?_) (fun hc => ?_)
    · replace hf := sc_ip hc hf
      refine lv_iconst (v := (1 : Int32)) hx hb dX4_check_83 (by decide) ?_
      exact sc_reti hR hf hW dX4_check_84
    · replace hf := sc_in hc hf
      refine lv_iconst (v := (0 : Int32)) hx hb dX4_check_26 (by decide) ?_
      refine lv_istore_n (lv' := [(2, .int (0 : Int32)), (0, .ref (h 0)), (1, .int x1)]) hx hb dX4_check_27 rfl hl (by decide) rfl (fun ls hl => ?_)
      exact wk_X4_check_28 C0 hR ih sc_FU _ _ _ _ _ _ hf hW (lv_sub hl [1, 2, 0] rfl)
set_option maxHeartbeats 4000000 in
set_option maxRecDepth 100000 in
theorem wk_X4_check_0 (C0 : CallFix p m c cX4_check 3 s args wsX4_check RX4) {S' : sc_M} {r : Int32} (hR : sc_Ri p l e rm_X4_check s m args below meth c Q cX4_check (sc_EX dC dI h cy) S' r) : ∀ (S : sc_M) (H : Heap) (locs : List Loc) (ls : Array Slot), fn_X4_check S = some (r, S') → sc_W (sc_EX dC dI h cy) s H locs S → lv_has ls 3 [(0, .ref (h 0))] → W p l e rm_X4_check s m args below meth c H locs 0 0 Q (F0 m 0 ls []) := by
  obtain ⟨hx, hb, hml, hown, hts⟩ := id C0
  intro S H locs ls hf hW hl
  rw [fn_X4_check] at hf
  refine lv_aload_n hx hb dX4_check_0 rfl (lv_at hl 0 rfl) ?_
  refine sc_getX4 C0 hW ni_X4_check_X4 1 (Nat.le_of_ble_eq_true rfl) lk_X4_check_19 (v := .ref (h 2)) rfl dX4_check_1 ?_
  refine sc_getX1 C0 hW ni_X4_check_X1 3 (Nat.le_of_ble_eq_true rfl) lk_X4_check_108 (v := .int (sc_gi S 5)) rfl dX4_check_4 ?_
  refine lv_if_ne (tgt := 13) hx hb dX4_check_7 (by decide) (fun hc => ?_) (fun hc => ?_)
  · replace hf := sc_in hc hf
    refine lv_iconst (v := (0 : Int32)) hx hb dX4_check_13 (by decide) ?_
    refine lv_istore_n (lv' := [(1, .int (0 : Int32)), (0, .ref (h 0))]) hx hb dX4_check_14 rfl hl (by decide) rfl (fun ls hl => ?_)
    exact wk_X4_check_15 C0 hR  sc_FU _ _ _ _ _ hf hW (lv_sub hl [1, 0] rfl)
  · replace hf := sc_ip hc hf
    refine lv_bipush (v := (-3 : Int32)) hx hb dX4_check_10 (by decide) ?_
    exact sc_reti hR hf hW dX4_check_12
set_option maxRecDepth 100000 in
theorem ct_X4_check {S S' : sc_M} {r : Int32} (hf : fn_X4_check S = some (r, S')) : sc_Ci l yX4_check wsX4_check rm_X4_check (sc_EX dC dI h cy) [.ref (h 0)] S S' r := by
  refine sc_ofi (cc := cX4_check) (maxL := 3) .int rfl sc_okX (by decide) rfl (Nat.le_of_ble_eq_true rfl) ?_
  intro p e s m below meth c Q C0 hR hW ls hl
  exact wk_X4_check_0 C0 hR _ _ _ _ hf hW hl
end

/-! ===== SeatCounts.prefer(II)I ===== -/
abbrev rm_X4_prefer : Room := { frames := 1, cells := 0, slots := 0, locals := 25 }
theorem lk_X4_prefer_12 : Cond.fieldLink RX4 12 "SeatCounts" "house" "LSeatCounts$House;" ∈ wsX4_prefer := by decide +kernel
theorem ni_X4_prefer_X4 : ∀ w ∈ wsX40, w ∈ wsX4_prefer := by decide +kernel
noncomputable def fn_X4_prefer (S : sc_M) (x1 : Int32) (x2 : Int32) : Option (Int32 × sc_M) :=
  sc_cl (fn_X0_hasCandidate S x1) (fun r5 S5 => if r5 = 0 then
    some ((-1 : Int32), S5)
  else
    sc_cl (fn_X0_hasCandidate S5 x2) (fun r16 S16 => if r16 = 0 then
      some ((-1 : Int32), S16)
    else
      if x1 = x2 then
        some ((-3 : Int32), S16)
      else
        sc_cl (fn_X0_papersFor S16 x1 x2) (fun r40 S40 => some (r40, S40))))
section
variable {p : Program} {l : Launch} {e : Env} {s : State} {m : MethodId} {args : Array Value} {below : List Frame} {meth : Method} {c : Code} {Q : State → Prop} {dC : Nat → ClassId} {dI : Nat → Nat → Nat} {h : Nat → Nat} {cy : Nat → ClassId}
set_option maxHeartbeats 4000000 in
set_option maxRecDepth 100000 in
theorem wk_X4_prefer_0 (C0 : CallFix p m c cX4_prefer 3 s args wsX4_prefer RX4) {S' : sc_M} {r : Int32} (hR : sc_Ri p l e rm_X4_prefer s m args below meth c Q cX4_prefer (sc_EX dC dI h cy) S' r) : ∀ (S : sc_M) (x1 : Int32) (x2 : Int32) (H : Heap) (locs : List Loc) (ls : Array Slot), fn_X4_prefer S x1 x2 = some (r, S') → sc_W (sc_EX dC dI h cy) s H locs S → lv_has ls 3 [(0, .ref (h 0)), (1, .int x1), (2, .int x2)] → W p l e rm_X4_prefer s m args below meth c H locs 0 0 Q (F0 m 0 ls []) := by
  obtain ⟨hx, hb, hml, hown, hts⟩ := id C0
  intro S x1 x2 H locs ls hf hW hl
  rw [fn_X4_prefer] at hf
  refine lv_aload_n hx hb dX4_prefer_0 rfl (lv_at hl 0 rfl) ?_
  refine sc_getX4 C0 hW ni_X4_prefer_X4 0 (Nat.le_of_ble_eq_true rfl) lk_X4_prefer_12 (v := .ref (h 1)) rfl dX4_prefer_1 ?_
  refine lv_iload_n hx hb dX4_prefer_4 rfl (lv_at hl 1 rfl) ?_
  obtain ⟨r5, S5, hc, hf⟩ := sc_cl_s hf
  refine sc_callVi (As := [.int x1]) (rest := []) (q0 := 1) (ci := 0) sc_okX C0 hW (ct_X0_hasCandidate hc) (cwV 1 hts gX4_prefer_X0_hasCandidate rfl rfl rfl (by decide +kernel) ⟨Nat.le_of_ble_eq_true rfl, Nat.le_of_ble_eq_true rfl⟩) rfl rfl rfl rfl hl.1 rfl (Nat.le_of_ble_eq_true rfl) dX4_prefer_5 (fun H locs hW => ?_)
  refine lv_if_eq (tgt := 22) hx hb dX4_prefer_8 (by decide) (fun hc => ?_) (fun hc => ?_)
  · replace hf := sc_ip hc hf
    refine lv_iconst (v := (-1 : Int32)) hx hb dX4_prefer_22 (by decide) ?_
    exact sc_reti hR hf hW dX4_prefer_23
  · replace hf := sc_in hc hf
    refine lv_aload_n hx hb dX4_prefer_11 rfl (lv_at hl 0 rfl) ?_
    refine sc_getX4 C0 hW ni_X4_prefer_X4 0 (Nat.le_of_ble_eq_true rfl) lk_X4_prefer_12 (v := .ref (h 1)) rfl dX4_prefer_12 ?_
    refine lv_iload_n hx hb dX4_prefer_15 rfl (lv_at hl 2 rfl) ?_
    obtain ⟨r16, S16, hc, hf⟩ := sc_cl_s hf
    refine sc_callVi (As := [.int x2]) (rest := []) (q0 := 1) (ci := 0) sc_okX C0 hW (ct_X0_hasCandidate hc) (cwV 1 hts gX4_prefer_X0_hasCandidate rfl rfl rfl (by decide +kernel) ⟨Nat.le_of_ble_eq_true rfl, Nat.le_of_ble_eq_true rfl⟩) rfl rfl rfl rfl hl.1 rfl (Nat.le_of_ble_eq_true rfl) dX4_prefer_16 (fun H locs hW => ?_)
    refine lv_if_ne (tgt := 24) hx hb dX4_prefer_19 (by decide) (fun hc => ?_) (fun hc => ?_)
    · replace hf := sc_in hc hf
      refine lv_iload_n hx hb dX4_prefer_24 rfl (lv_at hl 1 rfl) ?_
      refine lv_iload_n hx hb dX4_prefer_25 rfl (lv_at hl 2 rfl) ?_
      refine lv_icmp_ne (tgt := 34) hx hb dX4_prefer_26 (by decide) (fun hc => ?_) (fun hc => ?_)
      · replace hf := sc_in hc hf
        refine lv_aload_n hx hb dX4_prefer_34 rfl (lv_at hl 0 rfl) ?_
        refine sc_getX4 C0 hW ni_X4_prefer_X4 0 (Nat.le_of_ble_eq_true rfl) lk_X4_prefer_12 (v := .ref (h 1)) rfl dX4_prefer_35 ?_
        refine lv_iload_n hx hb dX4_prefer_38 rfl (lv_at hl 1 rfl) ?_
        refine lv_iload_n hx hb dX4_prefer_39 rfl (lv_at hl 2 rfl) ?_
        obtain ⟨r40, S40, hc, hf⟩ := sc_cl_s hf
        refine sc_callVi (As := [.int x1, .int x2]) (rest := []) (q0 := 1) (ci := 0) sc_okX C0 hW (ct_X0_papersFor hc) (cwV 2 hts gX4_prefer_X0_papersFor rfl rfl rfl (by decide +kernel) ⟨Nat.le_of_ble_eq_true rfl, Nat.le_of_ble_eq_true rfl⟩) rfl rfl rfl rfl hl.1 rfl (Nat.le_of_ble_eq_true rfl) dX4_prefer_40 (fun H locs hW => ?_)
        exact sc_reti hR hf hW dX4_prefer_43
      · replace hf := sc_ip hc hf
        refine lv_bipush (v := (-3 : Int32)) hx hb dX4_prefer_29 (by decide) ?_
        refine lv_goto (tgt := 43) hx hb dX4_prefer_31 (by decide) ?_
        exact sc_reti hR hf hW dX4_prefer_43
    · replace hf := sc_ip hc hf
      refine lv_iconst (v := (-1 : Int32)) hx hb dX4_prefer_22 (by decide) ?_
      exact sc_reti hR hf hW dX4_prefer_23
set_option maxRecDepth 100000 in
theorem ct_X4_prefer {S S' : sc_M} {r : Int32} {x1 : Int32} {x2 : Int32} (hf : fn_X4_prefer S x1 x2 = some (r, S')) : sc_Ci l yX4_prefer wsX4_prefer rm_X4_prefer (sc_EX dC dI h cy) [.ref (h 0), .int x1, .int x2] S S' r := by
  refine sc_ofi (cc := cX4_prefer) (maxL := 3) .int rfl sc_okX (by decide) rfl (Nat.le_of_ble_eq_true rfl) ?_
  intro p e s m below meth c Q C0 hR hW ls hl
  exact wk_X4_prefer_0 C0 hR _ _ _ _ _ _ hf hW hl
end
