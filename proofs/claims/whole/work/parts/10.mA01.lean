/-! ===== SeatCountsModel.about(II)I ===== -/
abbrev rm_X5_about : Room := { frames := 1, cells := 0, slots := 0, locals := 23 }
theorem lk_X5_about_104 : Cond.fieldLink RX5 104 "SeatCountsModel" "piles" "I" ∈ wsX5_about := by decide +kernel
theorem lk_X5_about_17 : Cond.fieldLink RX5 17 "SeatCountsModel" "papers" "[I" ∈ wsX5_about := by decide +kernel
theorem lk_X5_about_20 : Cond.fieldLink RX5 20 "SeatCountsModel" "wants" "[I" ∈ wsX5_about := by decide +kernel
theorem lk_X5_about_23 : Cond.fieldLink RX5 23 "SeatCountsModel" "want" "[I" ∈ wsX5_about := by decide +kernel
theorem ni_X5_about_X5 : ∀ w ∈ wsX50, w ∈ wsX5_about := by decide +kernel
noncomputable def fn_X5_about (S : sc_M) (x1 : Int32) (x2 : Int32) : Option (Int32 × sc_M) :=
  sc_cl (fn_X5_in S x1 (0 : Int32) ((sc_gi S 1) - (1 : Int32))) (fun r8 S8 => if r8 = 0 then
    some ((-1 : Int32), S8)
  else
    if x2 = (2 : Int32) then
      sc_cl (fn_X5_isValid S8 x1) (fun r23 S23 => if r23 = 0 then
        some ((0 : Int32), S23)
      else
        some ((1 : Int32), S23))
    else
      sc_cl (fn_X5_in S8 x2 (10 : Int32) (21 : Int32)) (fun r40 S40 => if r40 = 0 then
        if x2 = 0 then
          sc_ck x1 80 (some ((sc_ga S40 3 x1.toNatClampNeg), S40))
        else
          if x2 = (1 : Int32) then
            sc_ck x1 80 (some ((sc_ga S40 4 x1.toNatClampNeg), S40))
          else
            some ((-2 : Int32), S40)
      else
        sc_ck x1 80 (if (sc_ga S40 4 x1.toNatClampNeg) ≤ (x2 - (10 : Int32)) then
          some ((-9 : Int32), S40)
        else
          sc_ck ((((12 : Int32) * x1) + x2) - (10 : Int32)) 960 (some ((sc_ga S40 5 ((((12 : Int32) * x1) + x2) - (10 : Int32)).toNatClampNeg), S40)))))
section
variable {p : Program} {l : Launch} {e : Env} {s : State} {m : MethodId} {args : Array Value} {below : List Frame} {meth : Method} {c : Code} {Q : State → Prop} {dC : Nat → ClassId} {dI : Nat → Nat → Nat} {h : Nat → Nat} {cy : Nat → ClassId}
set_option maxHeartbeats 4000000 in
set_option maxRecDepth 100000 in
theorem wk_X5_about_0 (C0 : CallFix p m c cX5_about 3 s args wsX5_about RX5) {S' : sc_M} {r : Int32} (hR : sc_Ri p l e rm_X5_about s m args below meth c Q cX5_about (sc_EM dC dI h cy) S' r) : ∀ (S : sc_M) (x1 : Int32) (x2 : Int32) (H : Heap) (locs : List Loc) (ls : Array Slot), fn_X5_about S x1 x2 = some (r, S') → sc_W (sc_EM dC dI h cy) s H locs S → lv_has ls 3 [(0, .ref (h 0)), (1, .int x1), (2, .int x2)] → W p l e rm_X5_about s m args below meth c H locs 0 0 Q (F0 m 0 ls []) := by
  obtain ⟨hx, hb, hml, hown, hts⟩ := id C0
  intro S x1 x2 H locs ls hf hW hl
  rw [fn_X5_about] at hf
  refine lv_iload_n hx hb dX5_about_0 rfl (lv_at hl 1 rfl) ?_
  refine lv_iconst (v := (0 : Int32)) hx hb dX5_about_1 (by decide) ?_
  refine lv_aload_n hx hb dX5_about_2 rfl (lv_at hl 0 rfl) ?_
  refine sc_getX5 C0 hW ni_X5_about_X5 3 (Nat.le_of_ble_eq_true rfl) lk_X5_about_104 (v := .int (sc_gi S 1)) rfl dX5_about_3 ?_
  refine lv_iconst (v := (1 : Int32)) hx hb dX5_about_6 (by decide) ?_
  refine lv_isub hx hb dX5_about_7 ?_
  obtain ⟨r8, S8, hc, hf⟩ := sc_cl_s hf
  refine sc_callSi (As := [.int x1, .int (0 : Int32), .int ((sc_gi S 1) - (1 : Int32))]) (rest := []) sc_okM C0 hW (ct_X5_in hc) (va_cwS 3 hts gX5_about_X5_in rfl rfl rfl (by decide +kernel) ⟨Nat.le_of_ble_eq_true rfl, Nat.le_of_ble_eq_true rfl⟩) rfl hl.1 rfl (Nat.le_of_ble_eq_true rfl) dX5_about_8 (fun H locs hW => ?_)
  refine lv_if_ne (tgt := 16) hx hb dX5_about_11 (by decide) (fun hc => ?_) (fun hc => ?_)
  · replace hf := sc_in hc hf
    refine lv_iload_n hx hb dX5_about_16 rfl (lv_at hl 2 rfl) ?_
    refine lv_iconst (v := (2 : Int32)) hx hb dX5_about_17 (by decide) ?_
    refine lv_icmp_ne (tgt := 35) hx hb dX5_about_18 (by decide) (fun hc => ?_) (fun hc => ?_)
    · replace hf := sc_in hc hf
      refine lv_iload_n hx hb dX5_about_35 rfl (lv_at hl 2 rfl) ?_
      refine lv_bipush (v := (10 : Int32)) hx hb dX5_about_36 (by decide) ?_
      refine lv_bipush (v := (21 : Int32)) hx hb dX5_about_38 (by decide) ?_
      obtain ⟨r40, S40, hc, hf⟩ := sc_cl_s hf
      refine sc_callSi (As := [.int x2, .int (10 : Int32), .int (21 : Int32)]) (rest := []) sc_okM C0 hW (ct_X5_in hc) (va_cwS 3 hts gX5_about_X5_in rfl rfl rfl (by decide +kernel) ⟨Nat.le_of_ble_eq_true rfl, Nat.le_of_ble_eq_true rfl⟩) rfl hl.1 rfl (Nat.le_of_ble_eq_true rfl) dX5_about_40 (fun H locs hW => ?_)
      refine lv_if_eq (tgt := 79) hx hb dX5_about_43 (by decide) (fun hc => ?_) (fun hc => ?_)
      · replace hf := sc_ip hc hf
        refine lv_iload_n hx hb dX5_about_79 rfl (lv_at hl 2 rfl) ?_
        refine lv_if_ne (tgt := 92) hx hb dX5_about_80 (by decide) (fun hc => ?_) (fun hc => ?_)
        · replace hf := sc_in hc hf
          refine lv_iload_n hx hb dX5_about_92 rfl (lv_at hl 2 rfl) ?_
          refine lv_iconst (v := (1 : Int32)) hx hb dX5_about_93 (by decide) ?_
          refine lv_icmp_ne (tgt := 106) hx hb dX5_about_94 (by decide) (fun hc => ?_) (fun hc => ?_)
          · replace hf := sc_in hc hf
            refine lv_bipush (v := (-2 : Int32)) hx hb dX5_about_106 (by decide) ?_
            exact sc_reti hR hf hW dX5_about_108
          · replace hf := sc_ip hc hf
            refine lv_aload_n hx hb dX5_about_97 rfl (lv_at hl 0 rfl) ?_
            refine sc_getX5 C0 hW ni_X5_about_X5 5 (Nat.le_of_ble_eq_true rfl) lk_X5_about_20 (v := .ref (h 4)) rfl dX5_about_98 ?_
            refine lv_iload_n hx hb dX5_about_101 rfl (lv_at hl 1 rfl) ?_
            obtain ⟨hv, hf⟩ := sc_ck_s hf
            refine sc_ldM_4 C0 hW hv dX5_about_102 ?_
            refine lv_goto (tgt := 108) hx hb dX5_about_103 (by decide) ?_
            exact sc_reti hR hf hW dX5_about_108
        · replace hf := sc_ip hc hf
          refine lv_aload_n hx hb dX5_about_83 rfl (lv_at hl 0 rfl) ?_
          refine sc_getX5 C0 hW ni_X5_about_X5 4 (Nat.le_of_ble_eq_true rfl) lk_X5_about_17 (v := .ref (h 3)) rfl dX5_about_84 ?_
          refine lv_iload_n hx hb dX5_about_87 rfl (lv_at hl 1 rfl) ?_
          obtain ⟨hv, hf⟩ := sc_ck_s hf
          refine sc_ldM_3 C0 hW hv dX5_about_88 ?_
          refine lv_goto (tgt := 108) hx hb dX5_about_89 (by decide) ?_
          exact sc_reti hR hf hW dX5_about_108
      · replace hf := sc_in hc hf
        refine lv_iload_n hx hb dX5_about_46 rfl (lv_at hl 2 rfl) ?_
        refine lv_bipush (v := (10 : Int32)) hx hb dX5_about_47 (by decide) ?_
        refine lv_isub hx hb dX5_about_49 ?_
        refine lv_aload_n hx hb dX5_about_50 rfl (lv_at hl 0 rfl) ?_
        refine sc_getX5 C0 hW ni_X5_about_X5 5 (Nat.le_of_ble_eq_true rfl) lk_X5_about_20 (v := .ref (h 4)) rfl dX5_about_51 ?_
        refine lv_iload_n hx hb dX5_about_54 rfl (lv_at hl 1 rfl) ?_
        obtain ⟨hv, hf⟩ := sc_ck_s hf
        refine sc_ldM_4 C0 hW hv dX5_about_55 ?_
        refine lv_icmp_ge (tgt := 76) hx hb dX5_about_56 (by decide) (fun hc => ?_) (fun hc => ?_)
        · replace hf := sc_ip hc hf
          refine lv_bipush (v := (-9 : Int32)) hx hb dX5_about_76 (by decide) ?_
          exact sc_reti hR hf hW dX5_about_78
        · replace hf := sc_in hc hf
          refine lv_aload_n hx hb dX5_about_59 rfl (lv_at hl 0 rfl) ?_
          refine sc_getX5 C0 hW ni_X5_about_X5 6 (Nat.le_of_ble_eq_true rfl) lk_X5_about_23 (v := .ref (h 5)) rfl dX5_about_60 ?_
          refine lv_bipush (v := (12 : Int32)) hx hb dX5_about_63 (by decide) ?_
          refine lv_iload_n hx hb dX5_about_65 rfl (lv_at hl 1 rfl) ?_
          refine lv_imul hx hb dX5_about_66 ?_
          refine lv_iload_n hx hb dX5_about_67 rfl (lv_at hl 2 rfl) ?_
          refine lv_iadd hx hb dX5_about_68 ?_
          refine lv_bipush (v := (10 : Int32)) hx hb dX5_about_69 (by decide) ?_
          refine lv_isub hx hb dX5_about_71 ?_
          obtain ⟨hv, hf⟩ := sc_ck_s hf
          refine sc_ldM_5 C0 hW hv dX5_about_72 ?_
          refine lv_goto (tgt := 78) hx hb dX5_about_73 (by decide) ?_
          exact sc_reti hR hf hW dX5_about_78
    · replace hf := sc_ip hc hf
      refine lv_aload_n hx hb dX5_about_21 rfl (lv_at hl 0 rfl) ?_
      refine lv_iload_n hx hb dX5_about_22 rfl (lv_at hl 1 rfl) ?_
      obtain ⟨r23, S23, hc, hf⟩ := sc_cl_s hf
      refine sc_callVi (As := [.int x1]) (rest := []) (q0 := 0) (ci := 4) sc_okM C0 hW (ct_X5_isValid hc) (cwV 1 hts gX5_about_X5_isValid rfl rfl rfl (by decide +kernel) ⟨Nat.le_of_ble_eq_true rfl, Nat.le_of_ble_eq_true rfl⟩) rfl rfl rfl rfl hl.1 rfl (Nat.le_of_ble_eq_true rfl) dX5_about_23 (fun H locs hW => ?_)
      refine lv_if_eq (tgt := 33) hx hb dX5_about_26 (by decide) (fun hc => ?_) (fun hc => ?_)
      · replace hf := sc_ip hc hf
        refine lv_iconst (v := (0 : Int32)) hx hb dX5_about_33 (by decide) ?_
        exact sc_reti hR hf hW dX5_about_34
      · replace hf := sc_in hc hf
        refine lv_iconst (v := (1 : Int32)) hx hb dX5_about_29 (by decide) ?_
        refine lv_goto (tgt := 34) hx hb dX5_about_30 (by decide) ?_
        exact sc_reti hR hf hW dX5_about_34
  · replace hf := sc_ip hc hf
    refine lv_iconst (v := (-1 : Int32)) hx hb dX5_about_14 (by decide) ?_
    exact sc_reti hR hf hW dX5_about_15
set_option maxRecDepth 100000 in
theorem ct_X5_about {S S' : sc_M} {r : Int32} {x1 : Int32} {x2 : Int32} (hf : fn_X5_about S x1 x2 = some (r, S')) : sc_Ci l yX5_about wsX5_about rm_X5_about (sc_EM dC dI h cy) [.ref (h 0), .int x1, .int x2] S S' r := by
  refine sc_ofi (cc := cX5_about) (maxL := 3) .int rfl sc_okM (by decide) rfl (Nat.le_of_ble_eq_true rfl) ?_
  intro p e s m below meth c Q C0 hR hW ls hl
  exact wk_X5_about_0 C0 hR _ _ _ _ _ _ hf hW hl
end

/-! ===== SeatCountsModel.hasMore(II)Z ===== -/
abbrev rm_X5_hasMore : Room := { frames := 0, cells := 0, slots := 0, locals := 0 }
theorem lk_X5_hasMore_124 : Cond.fieldLink RX5 124 "SeatCountsModel" "stages" "I" ∈ wsX5_hasMore := by decide +kernel
theorem lk_X5_hasMore_13 : Cond.fieldLink RX5 13 "SeatCountsModel" "lot" "[I" ∈ wsX5_hasMore := by decide +kernel
theorem lk_X5_hasMore_51 : Cond.fieldLink RX5 51 "SeatCountsModel" "votesAt" "[J" ∈ wsX5_hasMore := by decide +kernel
theorem lk_X5_hasMore_72 : Cond.fieldLink RX5 72 "SeatCountsModel" "votes" "[J" ∈ wsX5_hasMore := by decide +kernel
theorem lk_X5_hasMore_97 : Cond.fieldLink RX5 97 "SeatCountsModel" "ruleOf" "I" ∈ wsX5_hasMore := by decide +kernel
theorem ni_X5_hasMore_X5 : ∀ w ∈ wsX50, w ∈ wsX5_hasMore := by decide +kernel
noncomputable def fn_X5_hasMore_121 (S : sc_M) (x1 : Int32) (x2 : Int32) : Option (Int32 × sc_M) :=
  sc_ck x1 12 (sc_ck x2 12 (if (sc_ga S 2 x2.toNatClampNeg) ≤ (sc_ga S 2 x1.toNatClampNeg) then
    some ((0 : Int32), S)
  else
    some ((1 : Int32), S)))
noncomputable def fn_X5_hasMore_45 : Nat → sc_M → Int32 → Int32 → Int32 → Option (Int32 × sc_M)
  | 0, _, _, _, _ => none
  | n + 1, S, x1, x2, x3 =>
    if x3 < 0 then
      fn_X5_hasMore_121 S x1 x2
    else
      if (3 : Int32) ≤ (sc_gi S 2) then
        fn_X5_hasMore_121 S x1 x2
      else
        sc_ck (((12 : Int32) * x3) + x1) 1080 (sc_ck (((12 : Int32) * x3) + x2) 1080 (if (sc_gb S 14 (((12 : Int32) * x3) + x1).toNatClampNeg) = (sc_gb S 14 (((12 : Int32) * x3) + x2).toNatClampNeg) then
          fn_X5_hasMore_45 n S x1 x2 (x3 + (-1))
        else
          sc_ck (((12 : Int32) * x3) + x1) 1080 (sc_ck (((12 : Int32) * x3) + x2) 1080 (if (sc_gb S 14 (((12 : Int32) * x3) + x1).toNatClampNeg) ≤ (sc_gb S 14 (((12 : Int32) * x3) + x2).toNatClampNeg) then
            some ((0 : Int32), S)
          else
            some ((1 : Int32), S)))))
noncomputable def fn_X5_hasMore_e (S : sc_M) (x1 : Int32) (x2 : Int32) : Option (Int32 × sc_M) :=
  sc_ck x1 12 (sc_ck x2 12 (if (sc_gb S 21 x1.toNatClampNeg) = (sc_gb S 21 x2.toNatClampNeg) then
    sc_sq (((sc_gi S 6) - (1 : Int32))) (fun y44 => fn_X5_hasMore_45 sc_FU S x1 x2 y44)
  else
    sc_ck x1 12 (sc_ck x2 12 (if (sc_gb S 21 x1.toNatClampNeg) ≤ (sc_gb S 21 x2.toNatClampNeg) then
      some ((0 : Int32), S)
    else
      some ((1 : Int32), S)))))
noncomputable def fn_X5_hasMore (S : sc_M) (x1 : Int32) (x2 : Int32) : Option (Int32 × sc_M) := sc_bz (fn_X5_hasMore_e S x1 x2)
section
variable {p : Program} {l : Launch} {e : Env} {s : State} {m : MethodId} {args : Array Value} {below : List Frame} {meth : Method} {c : Code} {Q : State → Prop} {dC : Nat → ClassId} {dI : Nat → Nat → Nat} {h : Nat → Nat} {cy : Nat → ClassId}
set_option maxHeartbeats 4000000 in
set_option maxRecDepth 100000 in
theorem wk_X5_hasMore_121 (C0 : CallFix p m c cX5_hasMore 4 s args wsX5_hasMore RX5) {S' : sc_M} {r : Int32} (hR : sc_Ri p l e rm_X5_hasMore s m args below meth c Q cX5_hasMore (sc_EM dC dI h cy) S' r) : ∀ (S : sc_M) (x1 : Int32) (x2 : Int32) (H : Heap) (locs : List Loc) (ls : Array Slot), fn_X5_hasMore_121 S x1 x2 = some (r, S') → sc_W (sc_EM dC dI h cy) s H locs S → lv_has ls 4 [(0, .ref (h 0)), (1, .int x1), (2, .int x2)] → W p l e rm_X5_hasMore s m args below meth c H locs 0 0 Q (F0 m 121 ls []) := by
  obtain ⟨hx, hb, hml, hown, hts⟩ := id C0
  intro S x1 x2 H locs ls hf hW hl
  rw [fn_X5_hasMore_121] at hf
  refine lv_aload_n hx hb dX5_hasMore_121 rfl (lv_at hl 0 rfl) ?_
  refine sc_getX5 C0 hW ni_X5_hasMore_X5 2 (Nat.le_of_ble_eq_true rfl) lk_X5_hasMore_13 (v := .ref (h 2)) rfl dX5_hasMore_122 ?_
  refine lv_iload_n hx hb dX5_hasMore_125 rfl (lv_at hl 1 rfl) ?_
  obtain ⟨hv, hf⟩ := sc_ck_s hf
  refine sc_ldM_2 C0 hW hv dX5_hasMore_126 ?_
  refine lv_aload_n hx hb dX5_hasMore_127 rfl (lv_at hl 0 rfl) ?_
  refine sc_getX5 C0 hW ni_X5_hasMore_X5 2 (Nat.le_of_ble_eq_true rfl) lk_X5_hasMore_13 (v := .ref (h 2)) rfl dX5_hasMore_128 ?_
  refine lv_iload_n hx hb dX5_hasMore_131 rfl (lv_at hl 2 rfl) ?_
  obtain ⟨hv, hf⟩ := sc_ck_s hf
  refine sc_ldM_2 C0 hW hv dX5_hasMore_132 ?_
  refine lv_icmp_ge (tgt := 140) hx hb dX5_hasMore_133 (by decide) (fun hc => ?_) (fun hc => ?_)
  · replace hf := sc_ip hc hf
    refine lv_iconst (v := (0 : Int32)) hx hb dX5_hasMore_140 (by decide) ?_
    exact sc_reti hR hf hW dX5_hasMore_141
  · replace hf := sc_in hc hf
    refine lv_iconst (v := (1 : Int32)) hx hb dX5_hasMore_136 (by decide) ?_
    refine lv_goto (tgt := 141) hx hb dX5_hasMore_137 (by decide) ?_
    exact sc_reti hR hf hW dX5_hasMore_141
set_option maxHeartbeats 4000000 in
set_option maxRecDepth 100000 in
theorem wk_X5_hasMore_45 (C0 : CallFix p m c cX5_hasMore 4 s args wsX5_hasMore RX5) {S' : sc_M} {r : Int32} (hR : sc_Ri p l e rm_X5_hasMore s m args below meth c Q cX5_hasMore (sc_EM dC dI h cy) S' r) : ∀ n : Nat, ∀ (S : sc_M) (x1 : Int32) (x2 : Int32) (x3 : Int32) (H : Heap) (locs : List Loc) (ls : Array Slot), fn_X5_hasMore_45 n S x1 x2 x3 = some (r, S') → sc_W (sc_EM dC dI h cy) s H locs S → lv_has ls 4 [(0, .ref (h 0)), (1, .int x1), (2, .int x2), (3, .int x3)] → W p l e rm_X5_hasMore s m args below meth c H locs 0 0 Q (F0 m 45 ls []) := by
  obtain ⟨hx, hb, hml, hown, hts⟩ := id C0
  intro n
  induction n with
  | zero => intro S x1 x2 x3 H locs ls; intro hf; cases hf
  | succ n ih =>
    intro S x1 x2 x3 H locs ls hf hW hl
    rw [fn_X5_hasMore_45] at hf
    refine lv_iload_n hx hb dX5_hasMore_45 rfl (lv_at hl 3 rfl) ?_
    refine lv_if_lt (tgt := 121) hx hb dX5_hasMore_46 (by decide) (fun hc => ?_) (fun hc => ?_)
    · replace hf := sc_ip hc hf
      exact wk_X5_hasMore_121 C0 hR  _ _ _ _ _ _ hf hW (lv_sub hl [0, 1, 2] rfl)
    · replace hf := sc_in hc hf
      refine lv_aload_n hx hb dX5_hasMore_49 rfl (lv_at hl 0 rfl) ?_
      refine sc_getX5 C0 hW ni_X5_hasMore_X5 8 (Nat.le_of_ble_eq_true rfl) lk_X5_hasMore_97 (v := .int (sc_gi S 2)) rfl dX5_hasMore_50 ?_
      refine lv_iconst (v := (3 : Int32)) hx hb dX5_hasMore_53 (by decide) ?_
      refine lv_icmp_ge (tgt := 121) hx hb dX5_hasMore_54 (by decide) (fun hc => ?_) (fun hc => ?_)
      · replace hf := sc_ip hc hf
        exact wk_X5_hasMore_121 C0 hR  _ _ _ _ _ _ hf hW (lv_sub hl [0, 1, 2] rfl)
      · replace hf := sc_in hc hf
        refine lv_aload_n hx hb dX5_hasMore_57 rfl (lv_at hl 0 rfl) ?_
        refine sc_getX5 C0 hW ni_X5_hasMore_X5 20 (Nat.le_of_ble_eq_true rfl) lk_X5_hasMore_51 (v := .ref (h 14)) rfl dX5_hasMore_58 ?_
        refine lv_bipush (v := (12 : Int32)) hx hb dX5_hasMore_61 (by decide) ?_
        refine lv_iload_n hx hb dX5_hasMore_63 rfl (lv_at hl 3 rfl) ?_
        refine lv_imul hx hb dX5_hasMore_64 ?_
        refine lv_iload_n hx hb dX5_hasMore_65 rfl (lv_at hl 1 rfl) ?_
        refine lv_iadd hx hb dX5_hasMore_66 ?_
        obtain ⟨hv, hf⟩ := sc_ck_s hf
        refine sc_ldM_14 C0 hW hv dX5_hasMore_67 ?_
        refine lv_aload_n hx hb dX5_hasMore_68 rfl (lv_at hl 0 rfl) ?_
        refine sc_getX5 C0 hW ni_X5_hasMore_X5 20 (Nat.le_of_ble_eq_true rfl) lk_X5_hasMore_51 (v := .ref (h 14)) rfl dX5_hasMore_69 ?_
        refine lv_bipush (v := (12 : Int32)) hx hb dX5_hasMore_72 (by decide) ?_
        refine lv_iload_n hx hb dX5_hasMore_74 rfl (lv_at hl 3 rfl) ?_
        refine lv_imul hx hb dX5_hasMore_75 ?_
        refine lv_iload_n hx hb dX5_hasMore_76 rfl (lv_at hl 2 rfl) ?_
        refine lv_iadd hx hb dX5_hasMore_77 ?_
        obtain ⟨hv, hf⟩ := sc_ck_s hf
        refine sc_ldM_14 C0 hW hv dX5_hasMore_78 ?_
        refine sc_l_eq (tgt := 115) C0 dX5_hasMore_79 dX5_hasMore_80 (by decide) (fun hc => ?_) (fun hc => ?_)
        · replace hf := sc_ip hc hf
          refine lv_iinc (v := (x3 + (-1))) (lv' := [(3, .int (x3 + (-1))), (0, .ref (h 0)), (1, .int x1), (2, .int x2)]) hx hb dX5_hasMore_115 hl (k := 3) rfl rfl (by decide) rfl (fun ls hl => ?_)
          refine lv_goto (tgt := 45) hx hb dX5_hasMore_118 (by decide) ?_
          exact ih _ _ _ _ _ _ _ hf hW (lv_sub hl [1, 2, 3, 0] rfl)
        · replace hf := sc_in hc hf
          refine lv_aload_n hx hb dX5_hasMore_83 rfl (lv_at hl 0 rfl) ?_
          refine sc_getX5 C0 hW ni_X5_hasMore_X5 20 (Nat.le_of_ble_eq_true rfl) lk_X5_hasMore_51 (v := .ref (h 14)) rfl dX5_hasMore_84 ?_
          refine lv_bipush (v := (12 : Int32)) hx hb dX5_hasMore_87 (by decide) ?_
          refine lv_iload_n hx hb dX5_hasMore_89 rfl (lv_at hl 3 rfl) ?_
          refine lv_imul hx hb dX5_hasMore_90 ?_
          refine lv_iload_n hx hb dX5_hasMore_91 rfl (lv_at hl 1 rfl) ?_
          refine lv_iadd hx hb dX5_hasMore_92 ?_
          obtain ⟨hv, hf⟩ := sc_ck_s hf
          refine sc_ldM_14 C0 hW hv dX5_hasMore_93 ?_
          refine lv_aload_n hx hb dX5_hasMore_94 rfl (lv_at hl 0 rfl) ?_
          refine sc_getX5 C0 hW ni_X5_hasMore_X5 20 (Nat.le_of_ble_eq_true rfl) lk_X5_hasMore_51 (v := .ref (h 14)) rfl dX5_hasMore_95 ?_
          refine lv_bipush (v := (12 : Int32)) hx hb dX5_hasMore_98 (by decide) ?_
          refine lv_iload_n hx hb dX5_hasMore_100 rfl (lv_at hl 3 rfl) ?_
          refine lv_imul hx hb dX5_hasMore_101 ?_
          refine lv_iload_n hx hb dX5_hasMore_102 rfl (lv_at hl 2 rfl) ?_
          refine lv_iadd hx hb dX5_hasMore_103 ?_
          obtain ⟨hv, hf⟩ := sc_ck_s hf
          refine sc_ldM_14 C0 hW hv dX5_hasMore_104 ?_
          refine sc_l_le (tgt := 113) C0 dX5_hasMore_105 dX5_hasMore_106 (by decide) (fun hc => ?_) (fun hc => ?_)
          · replace hf := sc_ip hc hf
            refine lv_iconst (v := (0 : Int32)) hx hb dX5_hasMore_113 (by decide) ?_
            exact sc_reti hR hf hW dX5_hasMore_114
          · replace hf := sc_in hc hf
            refine lv_iconst (v := (1 : Int32)) hx hb dX5_hasMore_109 (by decide) ?_
            refine lv_goto (tgt := 114) hx hb dX5_hasMore_110 (by decide) ?_
            exact sc_reti hR hf hW dX5_hasMore_114
set_option maxHeartbeats 4000000 in
set_option maxRecDepth 100000 in
theorem wk_X5_hasMore_0 (C0 : CallFix p m c cX5_hasMore 4 s args wsX5_hasMore RX5) {S' : sc_M} {r : Int32} (hR : sc_Ri p l e rm_X5_hasMore s m args below meth c Q cX5_hasMore (sc_EM dC dI h cy) S' r) : ∀ (S : sc_M) (x1 : Int32) (x2 : Int32) (H : Heap) (locs : List Loc) (ls : Array Slot), fn_X5_hasMore_e S x1 x2 = some (r, S') → sc_W (sc_EM dC dI h cy) s H locs S → lv_has ls 4 [(0, .ref (h 0)), (1, .int x1), (2, .int x2)] → W p l e rm_X5_hasMore s m args below meth c H locs 0 0 Q (F0 m 0 ls []) := by
  obtain ⟨hx, hb, hml, hown, hts⟩ := id C0
  intro S x1 x2 H locs ls hf hW hl
  rw [fn_X5_hasMore_e] at hf
  refine lv_aload_n hx hb dX5_hasMore_0 rfl (lv_at hl 0 rfl) ?_
  refine sc_getX5 C0 hW ni_X5_hasMore_X5 28 (Nat.le_of_ble_eq_true rfl) lk_X5_hasMore_72 (v := .ref (h 21)) rfl dX5_hasMore_1 ?_
  refine lv_iload_n hx hb dX5_hasMore_4 rfl (lv_at hl 1 rfl) ?_
  obtain ⟨hv, hf⟩ := sc_ck_s hf
  refine sc_ldM_21 C0 hW hv dX5_hasMore_5 ?_
  refine lv_aload_n hx hb dX5_hasMore_6 rfl (lv_at hl 0 rfl) ?_
  refine sc_getX5 C0 hW ni_X5_hasMore_X5 28 (Nat.le_of_ble_eq_true rfl) lk_X5_hasMore_72 (v := .ref (h 21)) rfl dX5_hasMore_7 ?_
  refine lv_iload_n hx hb dX5_hasMore_10 rfl (lv_at hl 2 rfl) ?_
  obtain ⟨hv, hf⟩ := sc_ck_s hf
  refine sc_ldM_21 C0 hW hv dX5_hasMore_11 ?_
  refine sc_l_eq (tgt := 38) C0 dX5_hasMore_12 dX5_hasMore_13 (by decide) (fun hc => ?_) (fun hc => ?_)
  · replace hf := sc_ip hc hf
    refine lv_aload_n hx hb dX5_hasMore_38 rfl (lv_at hl 0 rfl) ?_
    refine sc_getX5 C0 hW ni_X5_hasMore_X5 12 (Nat.le_of_ble_eq_true rfl) lk_X5_hasMore_124 (v := .int (sc_gi S 6)) rfl dX5_hasMore_39 ?_
    refine lv_iconst (v := (1 : Int32)) hx hb dX5_hasMore_42 (by decide) ?_
    refine lv_isub hx hb dX5_hasMore_43 ?_
    obtain ⟨y44, ey44, hf⟩ := sc_sq_s hf
    refine sc_topi ey44 ?_
    refine lv_istore_n (lv' := [(3, .int y44), (0, .ref (h 0)), (1, .int x1), (2, .int x2)]) hx hb dX5_hasMore_44 rfl hl (by decide) rfl (fun ls hl => ?_)
    exact wk_X5_hasMore_45 C0 hR  sc_FU _ _ _ _ _ _ _ hf hW (lv_sub hl [1, 2, 3, 0] rfl)
  · replace hf := sc_in hc hf
    refine lv_aload_n hx hb dX5_hasMore_16 rfl (lv_at hl 0 rfl) ?_
    refine sc_getX5 C0 hW ni_X5_hasMore_X5 28 (Nat.le_of_ble_eq_true rfl) lk_X5_hasMore_72 (v := .ref (h 21)) rfl dX5_hasMore_17 ?_
    refine lv_iload_n hx hb dX5_hasMore_20 rfl (lv_at hl 1 rfl) ?_
    obtain ⟨hv, hf⟩ := sc_ck_s hf
    refine sc_ldM_21 C0 hW hv dX5_hasMore_21 ?_
    refine lv_aload_n hx hb dX5_hasMore_22 rfl (lv_at hl 0 rfl) ?_
    refine sc_getX5 C0 hW ni_X5_hasMore_X5 28 (Nat.le_of_ble_eq_true rfl) lk_X5_hasMore_72 (v := .ref (h 21)) rfl dX5_hasMore_23 ?_
    refine lv_iload_n hx hb dX5_hasMore_26 rfl (lv_at hl 2 rfl) ?_
    obtain ⟨hv, hf⟩ := sc_ck_s hf
    refine sc_ldM_21 C0 hW hv dX5_hasMore_27 ?_
    refine sc_l_le (tgt := 36) C0 dX5_hasMore_28 dX5_hasMore_29 (by decide) (fun hc => ?_) (fun hc => ?_)
    · replace hf := sc_ip hc hf
      refine lv_iconst (v := (0 : Int32)) hx hb dX5_hasMore_36 (by decide) ?_
      exact sc_reti hR hf hW dX5_hasMore_37
    · replace hf := sc_in hc hf
      refine lv_iconst (v := (1 : Int32)) hx hb dX5_hasMore_32 (by decide) ?_
      refine lv_goto (tgt := 37) hx hb dX5_hasMore_33 (by decide) ?_
      exact sc_reti hR hf hW dX5_hasMore_37
set_option maxRecDepth 100000 in
theorem ct_X5_hasMore {S S' : sc_M} {r : Int32} {x1 : Int32} {x2 : Int32} (hf : fn_X5_hasMore S x1 x2 = some (r, S')) : sc_Ci l yX5_hasMore wsX5_hasMore rm_X5_hasMore (sc_EM dC dI h cy) [.ref (h 0), .int x1, .int x2] S S' r := by
  obtain ⟨hf, h01⟩ := sc_bz_s hf
  refine sc_ofi (cc := cX5_hasMore) (maxL := 4) .boolean (sc_nar01 h01) sc_okM (by decide) rfl (Nat.le_of_ble_eq_true rfl) ?_
  intro p e s m below meth c Q C0 hR hW ls hl
  exact wk_X5_hasMore_0 C0 hR _ _ _ _ _ _ hf hW hl
end

/-! ===== SeatCountsModel.most(IJ)I ===== -/
abbrev rm_X5_most : Room := { frames := 1, cells := 0, slots := 0, locals := 23 }
theorem lk_X5_most_101 : Cond.fieldLink RX5 101 "SeatCountsModel" "many" "I" ∈ wsX5_most := by decide +kernel
theorem lk_X5_most_72 : Cond.fieldLink RX5 72 "SeatCountsModel" "votes" "[J" ∈ wsX5_most := by decide +kernel
theorem lk_X5_most_75 : Cond.fieldLink RX5 75 "SeatCountsModel" "status" "[I" ∈ wsX5_most := by decide +kernel
theorem ni_X5_most_X5 : ∀ w ∈ wsX50, w ∈ wsX5_most := by decide +kernel
noncomputable def fn_X5_most_6 : Nat → sc_M → Int32 → Int64 → Int32 → Int32 → Option (Int32 × sc_M)
  | 0, _, _, _, _, _ => none
  | n + 1, S, x1, x2, x4, x5 =>
    if (sc_gi S 0) ≤ x5 then
      some (x4, S)
    else
      sc_ck x5 12 (if (sc_ga S 22 x5.toNatClampNeg) = x1 then
        sc_ck x5 12 (if (sc_gb S 21 x5.toNatClampNeg) < x2 then
          fn_X5_most_6 n S x1 x2 x4 (x5 + 1)
        else
          if x4 < 0 then
            fn_X5_most_6 n S x1 x2 x5 (x5 + 1)
          else
            sc_cl (fn_X5_hasMore S x5 x4) (fun r48 S48 => if r48 = 0 then
              fn_X5_most_6 n S48 x1 x2 x4 (x5 + 1)
            else
              fn_X5_most_6 n S48 x1 x2 x5 (x5 + 1)))
      else
        fn_X5_most_6 n S x1 x2 x4 (x5 + 1))
noncomputable def fn_X5_most (S : sc_M) (x1 : Int32) (x2 : Int64) : Option (Int32 × sc_M) :=
  fn_X5_most_6 sc_FU S x1 x2 (-1 : Int32) (0 : Int32)
section
variable {p : Program} {l : Launch} {e : Env} {s : State} {m : MethodId} {args : Array Value} {below : List Frame} {meth : Method} {c : Code} {Q : State → Prop} {dC : Nat → ClassId} {dI : Nat → Nat → Nat} {h : Nat → Nat} {cy : Nat → ClassId}
set_option maxHeartbeats 4000000 in
set_option maxRecDepth 100000 in
theorem wk_X5_most_6 (C0 : CallFix p m c cX5_most 6 s args wsX5_most RX5) {S' : sc_M} {r : Int32} (hR : sc_Ri p l e rm_X5_most s m args below meth c Q cX5_most (sc_EM dC dI h cy) S' r) : ∀ n : Nat, ∀ (S : sc_M) (x1 : Int32) (x2 : Int64) (x4 : Int32) (x5 : Int32) (H : Heap) (locs : List Loc) (ls : Array Slot), fn_X5_most_6 n S x1 x2 x4 x5 = some (r, S') → sc_W (sc_EM dC dI h cy) s H locs S → lv_has ls 6 [(0, .ref (h 0)), (1, .int x1), (2, .long x2), (4, .int x4), (5, .int x5)] → W p l e rm_X5_most s m args below meth c H locs 0 0 Q (F0 m 6 ls []) := by
  obtain ⟨hx, hb, hml, hown, hts⟩ := id C0
  intro n
  induction n with
  | zero => intro S x1 x2 x4 x5 H locs ls; intro hf; cases hf
  | succ n ih =>
    intro S x1 x2 x4 x5 H locs ls hf hW hl
    rw [fn_X5_most_6] at hf
    refine lv_iload hx hb dX5_most_6 (lv_at hl 4 rfl) ?_
    refine lv_aload_n hx hb dX5_most_8 rfl (lv_at hl 0 rfl) ?_
    refine sc_getX5 C0 hW ni_X5_most_X5 0 (Nat.le_of_ble_eq_true rfl) lk_X5_most_101 (v := .int (sc_gi S 0)) rfl dX5_most_9 ?_
    refine lv_icmp_ge (tgt := 64) hx hb dX5_most_12 (by decide) (fun hc => ?_) (fun hc => ?_)
    · replace hf := sc_ip hc hf
      refine lv_iload hx hb dX5_most_64 (lv_at hl 3 rfl) ?_
      exact sc_reti hR hf hW dX5_most_66
    · replace hf := sc_in hc hf
      refine lv_aload_n hx hb dX5_most_15 rfl (lv_at hl 0 rfl) ?_
      refine sc_getX5 C0 hW ni_X5_most_X5 29 (Nat.le_of_ble_eq_true rfl) lk_X5_most_75 (v := .ref (h 22)) rfl dX5_most_16 ?_
      refine lv_iload hx hb dX5_most_19 (lv_at hl 4 rfl) ?_
      obtain ⟨hv, hf⟩ := sc_ck_s hf
      refine sc_ldM_22 C0 hW hv dX5_most_21 ?_
      refine lv_iload_n hx hb dX5_most_22 rfl (lv_at hl 1 rfl) ?_
      refine lv_icmp_ne (tgt := 58) hx hb dX5_most_23 (by decide) (fun hc => ?_) (fun hc => ?_)
      · replace hf := sc_in hc hf
        refine lv_iinc (v := (x5 + 1)) (lv' := [(5, .int (x5 + 1)), (0, .ref (h 0)), (1, .int x1), (2, .long x2), (4, .int x4)]) hx hb dX5_most_58 hl (k := 4) rfl rfl (by decide) rfl (fun ls hl => ?_)
        refine lv_goto (tgt := 6) hx hb dX5_most_61 (by decide) ?_
        exact ih _ _ _ _ _ _ _ _ hf hW (lv_sub hl [1, 2, 3, 4, 0] rfl)
      · replace hf := sc_ip hc hf
        refine lv_aload_n hx hb dX5_most_26 rfl (lv_at hl 0 rfl) ?_
        refine sc_getX5 C0 hW ni_X5_most_X5 28 (Nat.le_of_ble_eq_true rfl) lk_X5_most_72 (v := .ref (h 21)) rfl dX5_most_27 ?_
        refine lv_iload hx hb dX5_most_30 (lv_at hl 4 rfl) ?_
        obtain ⟨hv, hf⟩ := sc_ck_s hf
        refine sc_ldM_21 C0 hW hv dX5_most_32 ?_
        refine lv_lload_n hx hb dX5_most_33 rfl (lv_at hl 2 rfl) ?_
        refine sc_l_lt (tgt := 58) C0 dX5_most_34 dX5_most_35 (by decide) (fun hc => ?_) (fun hc => ?_)
        · replace hf := sc_ip hc hf
          refine lv_iinc (v := (x5 + 1)) (lv' := [(5, .int (x5 + 1)), (0, .ref (h 0)), (1, .int x1), (2, .long x2), (4, .int x4)]) hx hb dX5_most_58 hl (k := 4) rfl rfl (by decide) rfl (fun ls hl => ?_)
          refine lv_goto (tgt := 6) hx hb dX5_most_61 (by decide) ?_
          exact ih _ _ _ _ _ _ _ _ hf hW (lv_sub hl [1, 2, 3, 4, 0] rfl)
        · replace hf := sc_in hc hf
          refine lv_iload hx hb dX5_most_38 (lv_at hl 3 rfl) ?_
          refine lv_if_lt (tgt := 54) hx hb dX5_most_40 (by decide) (fun hc => ?_) (fun hc => ?_)
          · replace hf := sc_ip hc hf
            refine lv_iload hx hb dX5_most_54 (lv_at hl 4 rfl) ?_
            refine lv_istore (lv' := [(4, .int x5), (0, .ref (h 0)), (1, .int x1), (2, .long x2), (5, .int x5)]) hx hb dX5_most_56 hl (by decide) rfl (fun ls hl => ?_)
            refine lv_iinc (v := (x5 + 1)) (lv' := [(5, .int (x5 + 1)), (4, .int x5), (0, .ref (h 0)), (1, .int x1), (2, .long x2)]) hx hb dX5_most_58 hl (k := 4) rfl rfl (by decide) rfl (fun ls hl => ?_)
            refine lv_goto (tgt := 6) hx hb dX5_most_61 (by decide) ?_
            exact ih _ _ _ _ _ _ _ _ hf hW (lv_sub hl [2, 3, 4, 1, 0] rfl)
          · replace hf := sc_in hc hf
            refine lv_aload_n hx hb dX5_most_43 rfl (lv_at hl 0 rfl) ?_
            refine lv_iload hx hb dX5_most_44 (lv_at hl 4 rfl) ?_
            refine lv_iload hx hb dX5_most_46 (lv_at hl 3 rfl) ?_
            obtain ⟨r48, S48, hc, hf⟩ := sc_cl_s hf
            refine sc_callVi (As := [.int x5, .int x4]) (rest := []) (q0 := 0) (ci := 4) sc_okM C0 hW (ct_X5_hasMore hc) (cwV 2 hts gX5_most_X5_hasMore rfl rfl rfl (by decide +kernel) ⟨Nat.le_of_ble_eq_true rfl, Nat.le_of_ble_eq_true rfl⟩) rfl rfl rfl rfl hl.1 rfl (Nat.le_of_ble_eq_true rfl) dX5_most_48 (fun H locs hW => ?_)
            refine lv_if_eq (tgt := 58) hx hb dX5_most_51 (by decide) (fun hc => ?_) (fun hc => ?_)
            · replace hf := sc_ip hc hf
              refine lv_iinc (v := (x5 + 1)) (lv' := [(5, .int (x5 + 1)), (0, .ref (h 0)), (1, .int x1), (2, .long x2), (4, .int x4)]) hx hb dX5_most_58 hl (k := 4) rfl rfl (by decide) rfl (fun ls hl => ?_)
              refine lv_goto (tgt := 6) hx hb dX5_most_61 (by decide) ?_
              exact ih _ _ _ _ _ _ _ _ hf hW (lv_sub hl [1, 2, 3, 4, 0] rfl)
            · replace hf := sc_in hc hf
              refine lv_iload hx hb dX5_most_54 (lv_at hl 4 rfl) ?_
              refine lv_istore (lv' := [(4, .int x5), (0, .ref (h 0)), (1, .int x1), (2, .long x2), (5, .int x5)]) hx hb dX5_most_56 hl (by decide) rfl (fun ls hl => ?_)
              refine lv_iinc (v := (x5 + 1)) (lv' := [(5, .int (x5 + 1)), (4, .int x5), (0, .ref (h 0)), (1, .int x1), (2, .long x2)]) hx hb dX5_most_58 hl (k := 4) rfl rfl (by decide) rfl (fun ls hl => ?_)
              refine lv_goto (tgt := 6) hx hb dX5_most_61 (by decide) ?_
              exact ih _ _ _ _ _ _ _ _ hf hW (lv_sub hl [2, 3, 4, 1, 0] rfl)
set_option maxHeartbeats 4000000 in
set_option maxRecDepth 100000 in
theorem wk_X5_most_0 (C0 : CallFix p m c cX5_most 6 s args wsX5_most RX5) {S' : sc_M} {r : Int32} (hR : sc_Ri p l e rm_X5_most s m args below meth c Q cX5_most (sc_EM dC dI h cy) S' r) : ∀ (S : sc_M) (x1 : Int32) (x2 : Int64) (H : Heap) (locs : List Loc) (ls : Array Slot), fn_X5_most S x1 x2 = some (r, S') → sc_W (sc_EM dC dI h cy) s H locs S → lv_has ls 6 [(0, .ref (h 0)), (1, .int x1), (2, .long x2)] → W p l e rm_X5_most s m args below meth c H locs 0 0 Q (F0 m 0 ls []) := by
  obtain ⟨hx, hb, hml, hown, hts⟩ := id C0
  intro S x1 x2 H locs ls hf hW hl
  rw [fn_X5_most] at hf
  refine lv_iconst (v := (-1 : Int32)) hx hb dX5_most_0 (by decide) ?_
  refine lv_istore (lv' := [(4, .int (-1 : Int32)), (0, .ref (h 0)), (1, .int x1), (2, .long x2)]) hx hb dX5_most_1 hl (by decide) rfl (fun ls hl => ?_)
  refine lv_iconst (v := (0 : Int32)) hx hb dX5_most_3 (by decide) ?_
  refine lv_istore (lv' := [(5, .int (0 : Int32)), (4, .int (-1 : Int32)), (0, .ref (h 0)), (1, .int x1), (2, .long x2)]) hx hb dX5_most_4 hl (by decide) rfl (fun ls hl => ?_)
  exact wk_X5_most_6 C0 hR  sc_FU _ _ _ _ _ _ _ _ hf hW (lv_sub hl [2, 3, 4, 1, 0] rfl)
set_option maxRecDepth 100000 in
theorem ct_X5_most {S S' : sc_M} {r : Int32} {x1 : Int32} {x2 : Int64} (hf : fn_X5_most S x1 x2 = some (r, S')) : sc_Ci l yX5_most wsX5_most rm_X5_most (sc_EM dC dI h cy) [.ref (h 0), .int x1, .long x2] S S' r := by
  refine sc_ofi (cc := cX5_most) (maxL := 6) .int rfl sc_okM (by decide) rfl (Nat.le_of_ble_eq_true rfl) ?_
  intro p e s m below meth c Q C0 hR hW ls hl
  exact wk_X5_most_0 C0 hR _ _ _ _ _ _ hf hW hl
end

/-! ===== SeatCountsModel.fewest()I ===== -/
abbrev rm_X5_fewest : Room := { frames := 1, cells := 0, slots := 0, locals := 23 }
theorem lk_X5_fewest_101 : Cond.fieldLink RX5 101 "SeatCountsModel" "many" "I" ∈ wsX5_fewest := by decide +kernel
theorem lk_X5_fewest_75 : Cond.fieldLink RX5 75 "SeatCountsModel" "status" "[I" ∈ wsX5_fewest := by decide +kernel
theorem ni_X5_fewest_X5 : ∀ w ∈ wsX50, w ∈ wsX5_fewest := by decide +kernel
noncomputable def fn_X5_fewest_4 : Nat → sc_M → Int32 → Int32 → Option (Int32 × sc_M)
  | 0, _, _, _ => none
  | n + 1, S, x1, x2 =>
    if (sc_gi S 0) ≤ x2 then
      some (x1, S)
    else
      sc_ck x2 12 (if (sc_ga S 22 x2.toNatClampNeg) = 0 then
        if x1 < 0 then
          fn_X5_fewest_4 n S x2 (x2 + 1)
        else
          sc_cl (fn_X5_hasMore S x1 x2) (fun r28 S28 => if r28 = 0 then
            fn_X5_fewest_4 n S28 x1 (x2 + 1)
          else
            fn_X5_fewest_4 n S28 x2 (x2 + 1))
      else
        fn_X5_fewest_4 n S x1 (x2 + 1))
noncomputable def fn_X5_fewest (S : sc_M) : Option (Int32 × sc_M) :=
  fn_X5_fewest_4 sc_FU S (-1 : Int32) (0 : Int32)
section
variable {p : Program} {l : Launch} {e : Env} {s : State} {m : MethodId} {args : Array Value} {below : List Frame} {meth : Method} {c : Code} {Q : State → Prop} {dC : Nat → ClassId} {dI : Nat → Nat → Nat} {h : Nat → Nat} {cy : Nat → ClassId}
set_option maxHeartbeats 4000000 in
set_option maxRecDepth 100000 in
theorem wk_X5_fewest_4 (C0 : CallFix p m c cX5_fewest 3 s args wsX5_fewest RX5) {S' : sc_M} {r : Int32} (hR : sc_Ri p l e rm_X5_fewest s m args below meth c Q cX5_fewest (sc_EM dC dI h cy) S' r) : ∀ n : Nat, ∀ (S : sc_M) (x1 : Int32) (x2 : Int32) (H : Heap) (locs : List Loc) (ls : Array Slot), fn_X5_fewest_4 n S x1 x2 = some (r, S') → sc_W (sc_EM dC dI h cy) s H locs S → lv_has ls 3 [(0, .ref (h 0)), (1, .int x1), (2, .int x2)] → W p l e rm_X5_fewest s m args below meth c H locs 0 0 Q (F0 m 4 ls []) := by
  obtain ⟨hx, hb, hml, hown, hts⟩ := id C0
  intro n
  induction n with
  | zero => intro S x1 x2 H locs ls; intro hf; cases hf
  | succ n ih =>
    intro S x1 x2 H locs ls hf hW hl
    rw [fn_X5_fewest_4] at hf
    refine lv_iload_n hx hb dX5_fewest_4 rfl (lv_at hl 2 rfl) ?_
    refine lv_aload_n hx hb dX5_fewest_5 rfl (lv_at hl 0 rfl) ?_
    refine sc_getX5 C0 hW ni_X5_fewest_X5 0 (Nat.le_of_ble_eq_true rfl) lk_X5_fewest_101 (v := .int (sc_gi S 0)) rfl dX5_fewest_6 ?_
    refine lv_icmp_ge (tgt := 42) hx hb dX5_fewest_9 (by decide) (fun hc => ?_) (fun hc => ?_)
    · replace hf := sc_ip hc hf
      refine lv_iload_n hx hb dX5_fewest_42 rfl (lv_at hl 1 rfl) ?_
      exact sc_reti hR hf hW dX5_fewest_43
    · replace hf := sc_in hc hf
      refine lv_aload_n hx hb dX5_fewest_12 rfl (lv_at hl 0 rfl) ?_
      refine sc_getX5 C0 hW ni_X5_fewest_X5 29 (Nat.le_of_ble_eq_true rfl) lk_X5_fewest_75 (v := .ref (h 22)) rfl dX5_fewest_13 ?_
      refine lv_iload_n hx hb dX5_fewest_16 rfl (lv_at hl 2 rfl) ?_
      obtain ⟨hv, hf⟩ := sc_ck_s hf
      refine sc_ldM_22 C0 hW hv dX5_fewest_17 ?_
      refine lv_if_ne (tgt := 36) hx hb dX5_fewest_18 (by decide) (fun hc => ?_) (fun hc => ?_)
      · replace hf := sc_in hc hf
        refine lv_iinc (v := (x2 + 1)) (lv' := [(2, .int (x2 + 1)), (0, .ref (h 0)), (1, .int x1)]) hx hb dX5_fewest_36 hl (k := 2) rfl rfl (by decide) rfl (fun ls hl => ?_)
        refine lv_goto (tgt := 4) hx hb dX5_fewest_39 (by decide) ?_
        exact ih _ _ _ _ _ _ hf hW (lv_sub hl [1, 2, 0] rfl)
      · replace hf := sc_ip hc hf
        refine lv_iload_n hx hb dX5_fewest_21 rfl (lv_at hl 1 rfl) ?_
        refine lv_if_lt (tgt := 34) hx hb dX5_fewest_22 (by decide) (fun hc => ?_) (fun hc => ?_)
        · replace hf := sc_ip hc hf
          refine lv_iload_n hx hb dX5_fewest_34 rfl (lv_at hl 2 rfl) ?_
          refine lv_istore_n (lv' := [(1, .int x2), (0, .ref (h 0)), (2, .int x2)]) hx hb dX5_fewest_35 rfl hl (by decide) rfl (fun ls hl => ?_)
          refine lv_iinc (v := (x2 + 1)) (lv' := [(2, .int (x2 + 1)), (1, .int x2), (0, .ref (h 0))]) hx hb dX5_fewest_36 hl (k := 2) rfl rfl (by decide) rfl (fun ls hl => ?_)
          refine lv_goto (tgt := 4) hx hb dX5_fewest_39 (by decide) ?_
          exact ih _ _ _ _ _ _ hf hW (lv_sub hl [2, 1, 0] rfl)
        · replace hf := sc_in hc hf
          refine lv_aload_n hx hb dX5_fewest_25 rfl (lv_at hl 0 rfl) ?_
          refine lv_iload_n hx hb dX5_fewest_26 rfl (lv_at hl 1 rfl) ?_
          refine lv_iload_n hx hb dX5_fewest_27 rfl (lv_at hl 2 rfl) ?_
          obtain ⟨r28, S28, hc, hf⟩ := sc_cl_s hf
          refine sc_callVi (As := [.int x1, .int x2]) (rest := []) (q0 := 0) (ci := 4) sc_okM C0 hW (ct_X5_hasMore hc) (cwV 2 hts gX5_fewest_X5_hasMore rfl rfl rfl (by decide +kernel) ⟨Nat.le_of_ble_eq_true rfl, Nat.le_of_ble_eq_true rfl⟩) rfl rfl rfl rfl hl.1 rfl (Nat.le_of_ble_eq_true rfl) dX5_fewest_28 (fun H locs hW => ?_)
          refine lv_if_eq (tgt := 36) hx hb dX5_fewest_31 (by decide) (fun hc => ?_) (fun hc => ?_)
          · replace hf := sc_ip hc hf
            refine lv_iinc (v := (x2 + 1)) (lv' := [(2, .int (x2 + 1)), (0, .ref (h 0)), (1, .int x1)]) hx hb dX5_fewest_36 hl (k := 2) rfl rfl (by decide) rfl (fun ls hl => ?_)
            refine lv_goto (tgt := 4) hx hb dX5_fewest_39 (by decide) ?_
            exact ih _ _ _ _ _ _ hf hW (lv_sub hl [1, 2, 0] rfl)
          · replace hf := sc_in hc hf
            refine lv_iload_n hx hb dX5_fewest_34 rfl (lv_at hl 2 rfl) ?_
            refine lv_istore_n (lv' := [(1, .int x2), (0, .ref (h 0)), (2, .int x2)]) hx hb dX5_fewest_35 rfl hl (by decide) rfl (fun ls hl => ?_)
            refine lv_iinc (v := (x2 + 1)) (lv' := [(2, .int (x2 + 1)), (1, .int x2), (0, .ref (h 0))]) hx hb dX5_fewest_36 hl (k := 2) rfl rfl (by decide) rfl (fun ls hl => ?_)
            refine lv_goto (tgt := 4) hx hb dX5_fewest_39 (by decide) ?_
            exact ih _ _ _ _ _ _ hf hW (lv_sub hl [2, 1, 0] rfl)
set_option maxHeartbeats 4000000 in
set_option maxRecDepth 100000 in
theorem wk_X5_fewest_0 (C0 : CallFix p m c cX5_fewest 3 s args wsX5_fewest RX5) {S' : sc_M} {r : Int32} (hR : sc_Ri p l e rm_X5_fewest s m args below meth c Q cX5_fewest (sc_EM dC dI h cy) S' r) : ∀ (S : sc_M) (H : Heap) (locs : List Loc) (ls : Array Slot), fn_X5_fewest S = some (r, S') → sc_W (sc_EM dC dI h cy) s H locs S → lv_has ls 3 [(0, .ref (h 0))] → W p l e rm_X5_fewest s m args below meth c H locs 0 0 Q (F0 m 0 ls []) := by
  obtain ⟨hx, hb, hml, hown, hts⟩ := id C0
  intro S H locs ls hf hW hl
  rw [fn_X5_fewest] at hf
  refine lv_iconst (v := (-1 : Int32)) hx hb dX5_fewest_0 (by decide) ?_
  refine lv_istore_n (lv' := [(1, .int (-1 : Int32)), (0, .ref (h 0))]) hx hb dX5_fewest_1 rfl hl (by decide) rfl (fun ls hl => ?_)
  refine lv_iconst (v := (0 : Int32)) hx hb dX5_fewest_2 (by decide) ?_
  refine lv_istore_n (lv' := [(2, .int (0 : Int32)), (1, .int (-1 : Int32)), (0, .ref (h 0))]) hx hb dX5_fewest_3 rfl hl (by decide) rfl (fun ls hl => ?_)
  exact wk_X5_fewest_4 C0 hR  sc_FU _ _ _ _ _ _ hf hW (lv_sub hl [2, 1, 0] rfl)
set_option maxRecDepth 100000 in
theorem ct_X5_fewest {S S' : sc_M} {r : Int32} (hf : fn_X5_fewest S = some (r, S')) : sc_Ci l yX5_fewest wsX5_fewest rm_X5_fewest (sc_EM dC dI h cy) [.ref (h 0)] S S' r := by
  refine sc_ofi (cc := cX5_fewest) (maxL := 3) .int rfl sc_okM (by decide) rfl (Nat.le_of_ble_eq_true rfl) ?_
  intro p e s m below meth c Q C0 hR hW ls hl
  exact wk_X5_fewest_0 C0 hR _ _ _ _ hf hW hl
end

/-! ===== SeatCountsModel.statusMany(I)I ===== -/
abbrev rm_X5_statusMany : Room := { frames := 0, cells := 0, slots := 0, locals := 0 }
theorem lk_X5_statusMany_101 : Cond.fieldLink RX5 101 "SeatCountsModel" "many" "I" ∈ wsX5_statusMany := by decide +kernel
theorem lk_X5_statusMany_75 : Cond.fieldLink RX5 75 "SeatCountsModel" "status" "[I" ∈ wsX5_statusMany := by decide +kernel
theorem ni_X5_statusMany_X5 : ∀ w ∈ wsX50, w ∈ wsX5_statusMany := by decide +kernel
noncomputable def fn_X5_statusMany_4 : Nat → sc_M → Int32 → Int32 → Int32 → Option (Int32 × sc_M)
  | 0, _, _, _, _ => none
  | n + 1, S, x1, x2, x3 =>
    if (sc_gi S 0) ≤ x3 then
      some (x2, S)
    else
      sc_ck x3 12 (if (sc_ga S 22 x3.toNatClampNeg) = x1 then
        sc_sq ((x2 + (1 : Int32))) (fun y29 => fn_X5_statusMany_4 n S x1 y29 (x3 + 1))
      else
        sc_sq ((x2 + (0 : Int32))) (fun y29 => fn_X5_statusMany_4 n S x1 y29 (x3 + 1)))
noncomputable def fn_X5_statusMany (S : sc_M) (x1 : Int32) : Option (Int32 × sc_M) :=
  fn_X5_statusMany_4 sc_FU S x1 (0 : Int32) (0 : Int32)
section
variable {p : Program} {l : Launch} {e : Env} {s : State} {m : MethodId} {args : Array Value} {below : List Frame} {meth : Method} {c : Code} {Q : State → Prop} {dC : Nat → ClassId} {dI : Nat → Nat → Nat} {h : Nat → Nat} {cy : Nat → ClassId}
set_option maxHeartbeats 4000000 in
set_option maxRecDepth 100000 in
theorem wk_X5_statusMany_4 (C0 : CallFix p m c cX5_statusMany 4 s args wsX5_statusMany RX5) {S' : sc_M} {r : Int32} (hR : sc_Ri p l e rm_X5_statusMany s m args below meth c Q cX5_statusMany (sc_EM dC dI h cy) S' r) : ∀ n : Nat, ∀ (S : sc_M) (x1 : Int32) (x2 : Int32) (x3 : Int32) (H : Heap) (locs : List Loc) (ls : Array Slot), fn_X5_statusMany_4 n S x1 x2 x3 = some (r, S') → sc_W (sc_EM dC dI h cy) s H locs S → lv_has ls 4 [(0, .ref (h 0)), (1, .int x1), (2, .int x2), (3, .int x3)] → W p l e rm_X5_statusMany s m args below meth c H locs 0 0 Q (F0 m 4 ls []) := by
  obtain ⟨hx, hb, hml, hown, hts⟩ := id C0
  intro n
  induction n with
  | zero => intro S x1 x2 x3 H locs ls; intro hf; cases hf
  | succ n ih =>
    intro S x1 x2 x3 H locs ls hf hW hl
    rw [fn_X5_statusMany_4] at hf
    refine lv_iload_n hx hb dX5_statusMany_4 rfl (lv_at hl 3 rfl) ?_
    refine lv_aload_n hx hb dX5_statusMany_5 rfl (lv_at hl 0 rfl) ?_
    refine sc_getX5 C0 hW ni_X5_statusMany_X5 0 (Nat.le_of_ble_eq_true rfl) lk_X5_statusMany_101 (v := .int (sc_gi S 0)) rfl dX5_statusMany_6 ?_
    refine lv_icmp_ge (tgt := 36) hx hb dX5_statusMany_9 (by decide) (fun hc => ?_) (fun hc => ?_)
    · replace hf := sc_ip hc hf
      refine lv_iload_n hx hb dX5_statusMany_36 rfl (lv_at hl 2 rfl) ?_
      exact sc_reti hR hf hW dX5_statusMany_37
    · replace hf := sc_in hc hf
      refine lv_iload_n hx hb dX5_statusMany_12 rfl (lv_at hl 2 rfl) ?_
      refine lv_aload_n hx hb dX5_statusMany_13 rfl (lv_at hl 0 rfl) ?_
      refine sc_getX5 C0 hW ni_X5_statusMany_X5 29 (Nat.le_of_ble_eq_true rfl) lk_X5_statusMany_75 (v := .ref (h 22)) rfl dX5_statusMany_14 ?_
      refine lv_iload_n hx hb dX5_statusMany_17 rfl (lv_at hl 3 rfl) ?_
      obtain ⟨hv, hf⟩ := sc_ck_s hf
      refine sc_ldM_22 C0 hW hv dX5_statusMany_18 ?_
      refine lv_iload_n hx hb dX5_statusMany_19 rfl (lv_at hl 1 rfl) ?_
      refine lv_icmp_ne (tgt := 27) hx hb dX5_statusMany_20 (by decide) (fun hc => ?_) (fun hc => ?_)
      · replace hf := sc_in hc hf
        refine lv_iconst (v := (0 : Int32)) hx hb dX5_statusMany_27 (by decide) ?_
        refine lv_iadd hx hb dX5_statusMany_28 ?_
        obtain ⟨y29, ey29, hf⟩ := sc_sq_s hf
        refine sc_topi ey29 ?_
        refine lv_istore_n (lv' := [(2, .int y29), (0, .ref (h 0)), (1, .int x1), (3, .int x3)]) hx hb dX5_statusMany_29 rfl hl (by decide) rfl (fun ls hl => ?_)
        refine lv_iinc (v := (x3 + 1)) (lv' := [(3, .int (x3 + 1)), (2, .int y29), (0, .ref (h 0)), (1, .int x1)]) hx hb dX5_statusMany_30 hl (k := 3) rfl rfl (by decide) rfl (fun ls hl => ?_)
        refine lv_goto (tgt := 4) hx hb dX5_statusMany_33 (by decide) ?_
        exact ih _ _ _ _ _ _ _ hf hW (lv_sub hl [2, 3, 1, 0] rfl)
      · replace hf := sc_ip hc hf
        refine lv_iconst (v := (1 : Int32)) hx hb dX5_statusMany_23 (by decide) ?_
        refine lv_goto (tgt := 28) hx hb dX5_statusMany_24 (by decide) ?_
        refine lv_iadd hx hb dX5_statusMany_28 ?_
        obtain ⟨y29, ey29, hf⟩ := sc_sq_s hf
        refine sc_topi ey29 ?_
        refine lv_istore_n (lv' := [(2, .int y29), (0, .ref (h 0)), (1, .int x1), (3, .int x3)]) hx hb dX5_statusMany_29 rfl hl (by decide) rfl (fun ls hl => ?_)
        refine lv_iinc (v := (x3 + 1)) (lv' := [(3, .int (x3 + 1)), (2, .int y29), (0, .ref (h 0)), (1, .int x1)]) hx hb dX5_statusMany_30 hl (k := 3) rfl rfl (by decide) rfl (fun ls hl => ?_)
        refine lv_goto (tgt := 4) hx hb dX5_statusMany_33 (by decide) ?_
        exact ih _ _ _ _ _ _ _ hf hW (lv_sub hl [2, 3, 1, 0] rfl)
set_option maxHeartbeats 4000000 in
set_option maxRecDepth 100000 in
theorem wk_X5_statusMany_0 (C0 : CallFix p m c cX5_statusMany 4 s args wsX5_statusMany RX5) {S' : sc_M} {r : Int32} (hR : sc_Ri p l e rm_X5_statusMany s m args below meth c Q cX5_statusMany (sc_EM dC dI h cy) S' r) : ∀ (S : sc_M) (x1 : Int32) (H : Heap) (locs : List Loc) (ls : Array Slot), fn_X5_statusMany S x1 = some (r, S') → sc_W (sc_EM dC dI h cy) s H locs S → lv_has ls 4 [(0, .ref (h 0)), (1, .int x1)] → W p l e rm_X5_statusMany s m args below meth c H locs 0 0 Q (F0 m 0 ls []) := by
  obtain ⟨hx, hb, hml, hown, hts⟩ := id C0
  intro S x1 H locs ls hf hW hl
  rw [fn_X5_statusMany] at hf
  refine lv_iconst (v := (0 : Int32)) hx hb dX5_statusMany_0 (by decide) ?_
  refine lv_istore_n (lv' := [(2, .int (0 : Int32)), (0, .ref (h 0)), (1, .int x1)]) hx hb dX5_statusMany_1 rfl hl (by decide) rfl (fun ls hl => ?_)
  refine lv_iconst (v := (0 : Int32)) hx hb dX5_statusMany_2 (by decide) ?_
  refine lv_istore_n (lv' := [(3, .int (0 : Int32)), (2, .int (0 : Int32)), (0, .ref (h 0)), (1, .int x1)]) hx hb dX5_statusMany_3 rfl hl (by decide) rfl (fun ls hl => ?_)
  exact wk_X5_statusMany_4 C0 hR  sc_FU _ _ _ _ _ _ _ hf hW (lv_sub hl [2, 3, 1, 0] rfl)
set_option maxRecDepth 100000 in
theorem ct_X5_statusMany {S S' : sc_M} {r : Int32} {x1 : Int32} (hf : fn_X5_statusMany S x1 = some (r, S')) : sc_Ci l yX5_statusMany wsX5_statusMany rm_X5_statusMany (sc_EM dC dI h cy) [.ref (h 0), .int x1] S S' r := by
  refine sc_ofi (cc := cX5_statusMany) (maxL := 4) .int rfl sc_okM (by decide) rfl (Nat.le_of_ble_eq_true rfl) ?_
  intro p e s m below meth c Q C0 hR hW ls hl
  exact wk_X5_statusMany_0 C0 hR _ _ _ _ _ hf hW hl
end

/-! ===== SeatCountsModel.electAll(J)V ===== -/
abbrev rm_X5_electAll : Room := { frames := 2, cells := 0, slots := 0, locals := 48 }
theorem lk_X5_electAll_135 : Cond.fieldLink RX5 135 "SeatCountsModel" "electedMany" "I" ∈ wsX5_electAll := by decide +kernel
theorem lk_X5_electAll_69 : Cond.fieldLink RX5 69 "SeatCountsModel" "order" "[I" ∈ wsX5_electAll := by decide +kernel
theorem lk_X5_electAll_75 : Cond.fieldLink RX5 75 "SeatCountsModel" "status" "[I" ∈ wsX5_electAll := by decide +kernel
theorem ni_X5_electAll_X5 : ∀ w ∈ wsX50, w ∈ wsX5_electAll := by decide +kernel
noncomputable def fn_X5_electAll_7 : Nat → sc_M → Int64 → Int32 → Option (sc_M)
  | 0, _, _, _ => none
  | n + 1, S, x1, x3 =>
    if x3 < 0 then
      some S
    else
      sc_ck x3 12 (sc_sq (sc_mA S 22 (upd (sc_ga S 22) x3.toNatClampNeg (1 : Int32))) (fun S17 => sc_ck (sc_gi S17 7) 12 (sc_sq (sc_mA S17 20 (upd (sc_ga S17 20) (sc_gi S17 7).toNatClampNeg x3)) (fun S27 => sc_sq (sc_mi S27 7 ((sc_gi S27 7) + (1 : Int32))) (fun S35 => sc_cl (fn_X5_most S35 (0 : Int32) x1) (fun r41 S41 => fn_X5_electAll_7 n S41 x1 r41))))))
noncomputable def fn_X5_electAll (S : sc_M) (x1 : Int64) : Option (sc_M) :=
  sc_cl (fn_X5_most S (0 : Int32) x1) (fun r3 S3 => fn_X5_electAll_7 sc_FU S3 x1 r3)
section
variable {p : Program} {l : Launch} {e : Env} {s : State} {m : MethodId} {args : Array Value} {below : List Frame} {meth : Method} {c : Code} {Q : State → Prop} {dC : Nat → ClassId} {dI : Nat → Nat → Nat} {h : Nat → Nat} {cy : Nat → ClassId}
set_option maxHeartbeats 4000000 in
set_option maxRecDepth 100000 in
theorem wk_X5_electAll_7 (C0 : CallFix p m c cX5_electAll 4 s args wsX5_electAll RX5) {S' : sc_M} (hR : sc_Rv p l e rm_X5_electAll s m args below meth c Q cX5_electAll (sc_EM dC dI h cy) S') : ∀ n : Nat, ∀ (S : sc_M) (x1 : Int64) (x3 : Int32) (H : Heap) (locs : List Loc) (ls : Array Slot), fn_X5_electAll_7 n S x1 x3 = some S' → sc_W (sc_EM dC dI h cy) s H locs S → lv_has ls 4 [(0, .ref (h 0)), (1, .long x1), (3, .int x3)] → W p l e rm_X5_electAll s m args below meth c H locs 0 0 Q (F0 m 7 ls []) := by
  obtain ⟨hx, hb, hml, hown, hts⟩ := id C0
  intro n
  induction n with
  | zero => intro S x1 x3 H locs ls; intro hf; cases hf
  | succ n ih =>
    intro S x1 x3 H locs ls hf hW hl
    rw [fn_X5_electAll_7] at hf
    refine lv_iload_n hx hb dX5_electAll_7 rfl (lv_at hl 2 rfl) ?_
    refine lv_if_lt (tgt := 48) hx hb dX5_electAll_8 (by decide) (fun hc => ?_) (fun hc => ?_)
    · replace hf := sc_ip hc hf
      exact sc_retv hR hf hW dX5_electAll_48
    · replace hf := sc_in hc hf
      refine lv_aload_n hx hb dX5_electAll_11 rfl (lv_at hl 0 rfl) ?_
      refine sc_getX5 C0 hW ni_X5_electAll_X5 29 (Nat.le_of_ble_eq_true rfl) lk_X5_electAll_75 (v := .ref (h 22)) rfl dX5_electAll_12 ?_
      refine lv_iload_n hx hb dX5_electAll_15 rfl (lv_at hl 2 rfl) ?_
      refine lv_iconst (v := (1 : Int32)) hx hb dX5_electAll_16 (by decide) ?_
      obtain ⟨hv, hf⟩ := sc_ck_s hf
      obtain ⟨S17, eS17, hf⟩ := sc_sq_s hf
      refine sc_stM_22 C0 hW hv eS17 dX5_electAll_17 (fun H locs hW => ?_)
      refine lv_aload_n hx hb dX5_electAll_18 rfl (lv_at hl 0 rfl) ?_
      refine sc_getX5 C0 hW ni_X5_electAll_X5 26 (Nat.le_of_ble_eq_true rfl) lk_X5_electAll_69 (v := .ref (h 20)) rfl dX5_electAll_19 ?_
      refine lv_aload_n hx hb dX5_electAll_22 rfl (lv_at hl 0 rfl) ?_
      refine sc_getX5 C0 hW ni_X5_electAll_X5 27 (Nat.le_of_ble_eq_true rfl) lk_X5_electAll_135 (v := .int (sc_gi S17 7)) rfl dX5_electAll_23 ?_
      refine lv_iload_n hx hb dX5_electAll_26 rfl (lv_at hl 2 rfl) ?_
      obtain ⟨hv, hf⟩ := sc_ck_s hf
      obtain ⟨S27, eS27, hf⟩ := sc_sq_s hf
      refine sc_stM_20 C0 hW hv eS27 dX5_electAll_27 (fun H locs hW => ?_)
      refine lv_aload_n hx hb dX5_electAll_28 rfl (lv_at hl 0 rfl) ?_
      refine lv_dup hx hb dX5_electAll_29 rfl ?_
      refine sc_getX5 C0 hW ni_X5_electAll_X5 27 (Nat.le_of_ble_eq_true rfl) lk_X5_electAll_135 (v := .int (sc_gi S27 7)) rfl dX5_electAll_30 ?_
      refine lv_iconst (v := (1 : Int32)) hx hb dX5_electAll_33 (by decide) ?_
      refine lv_iadd hx hb dX5_electAll_34 ?_
      obtain ⟨S35, eS35, hf⟩ := sc_sq_s hf
      refine sc_putX5_electedMany C0 hW ni_X5_electAll_X5 lk_X5_electAll_135 eS35 dX5_electAll_35 (fun H locs hW => ?_)
      refine lv_aload_n hx hb dX5_electAll_38 rfl (lv_at hl 0 rfl) ?_
      refine lv_iconst (v := (0 : Int32)) hx hb dX5_electAll_39 (by decide) ?_
      refine lv_lload_n hx hb dX5_electAll_40 rfl (lv_at hl 1 rfl) ?_
      obtain ⟨r41, S41, hc, hf⟩ := sc_cl_s hf
      refine sc_callVi (As := [.int (0 : Int32), .long x1]) (rest := []) (q0 := 0) (ci := 4) sc_okM C0 hW (ct_X5_most hc) (cwV 2 hts gX5_electAll_X5_most rfl rfl rfl (by decide +kernel) ⟨Nat.le_of_ble_eq_true rfl, Nat.le_of_ble_eq_true rfl⟩) rfl rfl rfl rfl hl.1 rfl (Nat.le_of_ble_eq_true rfl) dX5_electAll_41 (fun H locs hW => ?_)
      refine lv_istore_n (lv' := [(3, .int r41), (0, .ref (h 0)), (1, .long x1)]) hx hb dX5_electAll_44 rfl hl (by decide) rfl (fun ls hl => ?_)
      refine lv_goto (tgt := 7) hx hb dX5_electAll_45 (by decide) ?_
      exact ih _ _ _ _ _ _ hf hW (lv_sub hl [1, 2, 0] rfl)
set_option maxHeartbeats 4000000 in
set_option maxRecDepth 100000 in
theorem wk_X5_electAll_0 (C0 : CallFix p m c cX5_electAll 4 s args wsX5_electAll RX5) {S' : sc_M} (hR : sc_Rv p l e rm_X5_electAll s m args below meth c Q cX5_electAll (sc_EM dC dI h cy) S') : ∀ (S : sc_M) (x1 : Int64) (H : Heap) (locs : List Loc) (ls : Array Slot), fn_X5_electAll S x1 = some S' → sc_W (sc_EM dC dI h cy) s H locs S → lv_has ls 4 [(0, .ref (h 0)), (1, .long x1)] → W p l e rm_X5_electAll s m args below meth c H locs 0 0 Q (F0 m 0 ls []) := by
  obtain ⟨hx, hb, hml, hown, hts⟩ := id C0
  intro S x1 H locs ls hf hW hl
  rw [fn_X5_electAll] at hf
  refine lv_aload_n hx hb dX5_electAll_0 rfl (lv_at hl 0 rfl) ?_
  refine lv_iconst (v := (0 : Int32)) hx hb dX5_electAll_1 (by decide) ?_
  refine lv_lload_n hx hb dX5_electAll_2 rfl (lv_at hl 1 rfl) ?_
  obtain ⟨r3, S3, hc, hf⟩ := sc_cl_s hf
  refine sc_callVi (As := [.int (0 : Int32), .long x1]) (rest := []) (q0 := 0) (ci := 4) sc_okM C0 hW (ct_X5_most hc) (cwV 2 hts gX5_electAll_X5_most rfl rfl rfl (by decide +kernel) ⟨Nat.le_of_ble_eq_true rfl, Nat.le_of_ble_eq_true rfl⟩) rfl rfl rfl rfl hl.1 rfl (Nat.le_of_ble_eq_true rfl) dX5_electAll_3 (fun H locs hW => ?_)
  refine lv_istore_n (lv' := [(3, .int r3), (0, .ref (h 0)), (1, .long x1)]) hx hb dX5_electAll_6 rfl hl (by decide) rfl (fun ls hl => ?_)
  exact wk_X5_electAll_7 C0 hR  sc_FU _ _ _ _ _ _ hf hW (lv_sub hl [1, 2, 0] rfl)
set_option maxRecDepth 100000 in
theorem ct_X5_electAll {S S' : sc_M} {x1 : Int64} (hf : fn_X5_electAll S x1 = some S') : sc_Cv l yX5_electAll wsX5_electAll rm_X5_electAll (sc_EM dC dI h cy) [.ref (h 0), .long x1] S S' := by
  refine sc_ofv (cc := cX5_electAll) (maxL := 4) sc_okM (by decide) rfl (Nat.le_of_ble_eq_true rfl) ?_
  intro p e s m below meth c Q C0 hR hW ls hl
  exact wk_X5_electAll_0 C0 hR _ _ _ _ _ hf hW hl
end

/-! ===== SeatCountsModel.ends()Z ===== -/
abbrev rm_X5_ends : Room := { frames := 3, cells := 0, slots := 0, locals := 71 }
theorem lk_X5_ends_135 : Cond.fieldLink RX5 135 "SeatCountsModel" "electedMany" "I" ∈ wsX5_ends := by decide +kernel
theorem lk_X5_ends_138 : Cond.fieldLink RX5 138 "SeatCountsModel" "quota" "J" ∈ wsX5_ends := by decide +kernel
theorem lk_X5_ends_150 : Cond.fieldLink RX5 150 "SeatCountsModel" "seats" "I" ∈ wsX5_ends := by decide +kernel
theorem ni_X5_ends_X5 : ∀ w ∈ wsX50, w ∈ wsX5_ends := by decide +kernel
noncomputable def fn_X5_ends_30 (S : sc_M) : Option (Int32 × sc_M) :=
  sc_cl (fn_X5_statusMany S (0 : Int32)) (fun r32 S32 => if r32 = 0 then
    some ((1 : Int32), S32)
  else
    if (sc_gi S32 7) < (sc_gi S32 3) then
      some ((0 : Int32), S32)
    else
      some ((1 : Int32), S32))
noncomputable def fn_X5_ends_e (S : sc_M) : Option (Int32 × sc_M) :=
  sc_cv (fn_X5_electAll S (sc_gj S 0)) (fun S5 => sc_cl (fn_X5_statusMany S5 (0 : Int32)) (fun r10 S10 => if (sc_gi S10 3) < (r10 + (sc_gi S10 7)) then
    fn_X5_ends_30 S10
  else
    sc_cv (fn_X5_electAll S10 (0 : Int64)) (fun S27 => fn_X5_ends_30 S27)))
noncomputable def fn_X5_ends (S : sc_M) : Option (Int32 × sc_M) := sc_bz (fn_X5_ends_e S)
section
variable {p : Program} {l : Launch} {e : Env} {s : State} {m : MethodId} {args : Array Value} {below : List Frame} {meth : Method} {c : Code} {Q : State → Prop} {dC : Nat → ClassId} {dI : Nat → Nat → Nat} {h : Nat → Nat} {cy : Nat → ClassId}
set_option maxHeartbeats 4000000 in
set_option maxRecDepth 100000 in
theorem wk_X5_ends_30 (C0 : CallFix p m c cX5_ends 1 s args wsX5_ends RX5) {S' : sc_M} {r : Int32} (hR : sc_Ri p l e rm_X5_ends s m args below meth c Q cX5_ends (sc_EM dC dI h cy) S' r) : ∀ (S : sc_M) (H : Heap) (locs : List Loc) (ls : Array Slot), fn_X5_ends_30 S = some (r, S') → sc_W (sc_EM dC dI h cy) s H locs S → lv_has ls 1 [(0, .ref (h 0))] → W p l e rm_X5_ends s m args below meth c H locs 0 0 Q (F0 m 30 ls []) := by
  obtain ⟨hx, hb, hml, hown, hts⟩ := id C0
  intro S H locs ls hf hW hl
  rw [fn_X5_ends_30] at hf
  refine lv_aload_n hx hb dX5_ends_30 rfl (lv_at hl 0 rfl) ?_
  refine lv_iconst (v := (0 : Int32)) hx hb dX5_ends_31 (by decide) ?_
  obtain ⟨r32, S32, hc, hf⟩ := sc_cl_s hf
  refine sc_callVi (As := [.int (0 : Int32)]) (rest := []) (q0 := 0) (ci := 4) sc_okM C0 hW (ct_X5_statusMany hc) (cwV 1 hts gX5_ends_X5_statusMany rfl rfl rfl (by decide +kernel) ⟨Nat.le_of_ble_eq_true rfl, Nat.le_of_ble_eq_true rfl⟩) rfl rfl rfl rfl hl.1 rfl (Nat.le_of_ble_eq_true rfl) dX5_ends_32 (fun H locs hW => ?_)
  refine lv_if_eq (tgt := 49) hx hb dX5_ends_35 (by decide) (fun hc => ?_) (fun hc => ?_)
  · replace hf := sc_ip hc hf
    refine lv_iconst (v := (1 : Int32)) hx hb dX5_ends_49 (by decide) ?_
    refine lv_goto (tgt := 54) hx hb dX5_ends_50 (by decide) ?_
    exact sc_reti hR hf hW dX5_ends_54
  · replace hf := sc_in hc hf
    refine lv_aload_n hx hb dX5_ends_38 rfl (lv_at hl 0 rfl) ?_
    refine sc_getX5 C0 hW ni_X5_ends_X5 27 (Nat.le_of_ble_eq_true rfl) lk_X5_ends_135 (v := .int (sc_gi S32 7)) rfl dX5_ends_39 ?_
    refine lv_aload_n hx hb dX5_ends_42 rfl (lv_at hl 0 rfl) ?_
    refine sc_getX5 C0 hW ni_X5_ends_X5 9 (Nat.le_of_ble_eq_true rfl) lk_X5_ends_150 (v := .int (sc_gi S32 3)) rfl dX5_ends_43 ?_
    refine lv_icmp_lt (tgt := 53) hx hb dX5_ends_46 (by decide) (fun hc => ?_) (fun hc => ?_)
    · replace hf := sc_ip hc hf
      refine lv_iconst (v := (0 : Int32)) hx hb dX5_ends_53 (by decide) ?_
      exact sc_reti hR hf hW dX5_ends_54
    · replace hf := sc_in hc hf
      refine lv_iconst (v := (1 : Int32)) hx hb dX5_ends_49 (by decide) ?_
      refine lv_goto (tgt := 54) hx hb dX5_ends_50 (by decide) ?_
      exact sc_reti hR hf hW dX5_ends_54
set_option maxHeartbeats 4000000 in
set_option maxRecDepth 100000 in
theorem wk_X5_ends_0 (C0 : CallFix p m c cX5_ends 1 s args wsX5_ends RX5) {S' : sc_M} {r : Int32} (hR : sc_Ri p l e rm_X5_ends s m args below meth c Q cX5_ends (sc_EM dC dI h cy) S' r) : ∀ (S : sc_M) (H : Heap) (locs : List Loc) (ls : Array Slot), fn_X5_ends_e S = some (r, S') → sc_W (sc_EM dC dI h cy) s H locs S → lv_has ls 1 [(0, .ref (h 0))] → W p l e rm_X5_ends s m args below meth c H locs 0 0 Q (F0 m 0 ls []) := by
  obtain ⟨hx, hb, hml, hown, hts⟩ := id C0
  intro S H locs ls hf hW hl
  rw [fn_X5_ends_e] at hf
  refine lv_aload_n hx hb dX5_ends_0 rfl (lv_at hl 0 rfl) ?_
  refine lv_aload_n hx hb dX5_ends_1 rfl (lv_at hl 0 rfl) ?_
  refine sc_getX5 C0 hW ni_X5_ends_X5 34 (Nat.le_of_ble_eq_true rfl) lk_X5_ends_138 (v := .long (sc_gj S 0)) rfl dX5_ends_2 ?_
  obtain ⟨S5, hc, hf⟩ := sc_cv_s hf
  refine sc_callVv (As := [.long (sc_gj S 0)]) (rest := []) (q0 := 0) (ci := 4) sc_okM C0 hW (ct_X5_electAll hc) (cwV 1 hts gX5_ends_X5_electAll rfl rfl rfl (by decide +kernel) ⟨Nat.le_of_ble_eq_true rfl, Nat.le_of_ble_eq_true rfl⟩) rfl rfl rfl rfl hl.1 rfl (Nat.le_of_ble_eq_true rfl) dX5_ends_5 (fun H locs hW => ?_)
  refine lv_aload_n hx hb dX5_ends_8 rfl (lv_at hl 0 rfl) ?_
  refine lv_iconst (v := (0 : Int32)) hx hb dX5_ends_9 (by decide) ?_
  obtain ⟨r10, S10, hc, hf⟩ := sc_cl_s hf
  refine sc_callVi (As := [.int (0 : Int32)]) (rest := []) (q0 := 0) (ci := 4) sc_okM C0 hW (ct_X5_statusMany hc) (cwV 1 hts gX5_ends_X5_statusMany rfl rfl rfl (by decide +kernel) ⟨Nat.le_of_ble_eq_true rfl, Nat.le_of_ble_eq_true rfl⟩) rfl rfl rfl rfl hl.1 rfl (Nat.le_of_ble_eq_true rfl) dX5_ends_10 (fun H locs hW => ?_)
  refine lv_aload_n hx hb dX5_ends_13 rfl (lv_at hl 0 rfl) ?_
  refine sc_getX5 C0 hW ni_X5_ends_X5 27 (Nat.le_of_ble_eq_true rfl) lk_X5_ends_135 (v := .int (sc_gi S10 7)) rfl dX5_ends_14 ?_
  refine lv_iadd hx hb dX5_ends_17 ?_
  refine lv_aload_n hx hb dX5_ends_18 rfl (lv_at hl 0 rfl) ?_
  refine sc_getX5 C0 hW ni_X5_ends_X5 9 (Nat.le_of_ble_eq_true rfl) lk_X5_ends_150 (v := .int (sc_gi S10 3)) rfl dX5_ends_19 ?_
  refine lv_icmp_gt (tgt := 30) hx hb dX5_ends_22 (by decide) (fun hc => ?_) (fun hc => ?_)
  · replace hf := sc_ip hc hf
    exact wk_X5_ends_30 C0 hR  _ _ _ _ hf hW (lv_sub hl [0] rfl)
  · replace hf := sc_in hc hf
    refine lv_aload_n hx hb dX5_ends_25 rfl (lv_at hl 0 rfl) ?_
    refine lv_lconst (v := (0 : Int64)) hx hb dX5_ends_26 (by decide) ?_
    obtain ⟨S27, hc, hf⟩ := sc_cv_s hf
    refine sc_callVv (As := [.long (0 : Int64)]) (rest := []) (q0 := 0) (ci := 4) sc_okM C0 hW (ct_X5_electAll hc) (cwV 1 hts gX5_ends_X5_electAll rfl rfl rfl (by decide +kernel) ⟨Nat.le_of_ble_eq_true rfl, Nat.le_of_ble_eq_true rfl⟩) rfl rfl rfl rfl hl.1 rfl (Nat.le_of_ble_eq_true rfl) dX5_ends_27 (fun H locs hW => ?_)
    exact wk_X5_ends_30 C0 hR  _ _ _ _ hf hW (lv_sub hl [0] rfl)
set_option maxRecDepth 100000 in
theorem ct_X5_ends {S S' : sc_M} {r : Int32} (hf : fn_X5_ends S = some (r, S')) : sc_Ci l yX5_ends wsX5_ends rm_X5_ends (sc_EM dC dI h cy) [.ref (h 0)] S S' r := by
  obtain ⟨hf, h01⟩ := sc_bz_s hf
  refine sc_ofi (cc := cX5_ends) (maxL := 1) .boolean (sc_nar01 h01) sc_okM (by decide) rfl (Nat.le_of_ble_eq_true rfl) ?_
  intro p e s m below meth c Q C0 hR hW ls hl
  exact wk_X5_ends_0 C0 hR _ _ _ _ hf hW hl
end

/-! ===== SeatCountsModel.record(IIJ)V ===== -/
abbrev rm_X5_record : Room := { frames := 0, cells := 0, slots := 0, locals := 0 }
theorem lk_X5_record_101 : Cond.fieldLink RX5 101 "SeatCountsModel" "many" "I" ∈ wsX5_record := by decide +kernel
theorem lk_X5_record_104 : Cond.fieldLink RX5 104 "SeatCountsModel" "piles" "I" ∈ wsX5_record := by decide +kernel
theorem lk_X5_record_124 : Cond.fieldLink RX5 124 "SeatCountsModel" "stages" "I" ∈ wsX5_record := by decide +kernel
theorem lk_X5_record_135 : Cond.fieldLink RX5 135 "SeatCountsModel" "electedMany" "I" ∈ wsX5_record := by decide +kernel
theorem lk_X5_record_138 : Cond.fieldLink RX5 138 "SeatCountsModel" "quota" "J" ∈ wsX5_record := by decide +kernel
theorem lk_X5_record_153 : Cond.fieldLink RX5 153 "SeatCountsModel" "idleNow" "J" ∈ wsX5_record := by decide +kernel
theorem lk_X5_record_156 : Cond.fieldLink RX5 156 "SeatCountsModel" "lostNow" "J" ∈ wsX5_record := by decide +kernel
theorem lk_X5_record_29 : Cond.fieldLink RX5 29 "SeatCountsModel" "kindOf" "[I" ∈ wsX5_record := by decide +kernel
theorem lk_X5_record_32 : Cond.fieldLink RX5 32 "SeatCountsModel" "whose" "[I" ∈ wsX5_record := by decide +kernel
theorem lk_X5_record_35 : Cond.fieldLink RX5 35 "SeatCountsModel" "idle" "[J" ∈ wsX5_record := by decide +kernel
theorem lk_X5_record_39 : Cond.fieldLink RX5 39 "SeatCountsModel" "lost" "[J" ∈ wsX5_record := by decide +kernel
theorem lk_X5_record_42 : Cond.fieldLink RX5 42 "SeatCountsModel" "electedBy" "[I" ∈ wsX5_record := by decide +kernel
theorem lk_X5_record_45 : Cond.fieldLink RX5 45 "SeatCountsModel" "quotaOf" "[J" ∈ wsX5_record := by decide +kernel
theorem lk_X5_record_48 : Cond.fieldLink RX5 48 "SeatCountsModel" "excessOf" "[J" ∈ wsX5_record := by decide +kernel
theorem lk_X5_record_51 : Cond.fieldLink RX5 51 "SeatCountsModel" "votesAt" "[J" ∈ wsX5_record := by decide +kernel
theorem lk_X5_record_54 : Cond.fieldLink RX5 54 "SeatCountsModel" "statusAt" "[I" ∈ wsX5_record := by decide +kernel
theorem lk_X5_record_60 : Cond.fieldLink RX5 60 "SeatCountsModel" "liesAt" "[I" ∈ wsX5_record := by decide +kernel
theorem lk_X5_record_63 : Cond.fieldLink RX5 63 "SeatCountsModel" "valueAt" "[J" ∈ wsX5_record := by decide +kernel
theorem lk_X5_record_66 : Cond.fieldLink RX5 66 "SeatCountsModel" "sheet" "[J" ∈ wsX5_record := by decide +kernel
theorem lk_X5_record_72 : Cond.fieldLink RX5 72 "SeatCountsModel" "votes" "[J" ∈ wsX5_record := by decide +kernel
theorem lk_X5_record_75 : Cond.fieldLink RX5 75 "SeatCountsModel" "status" "[I" ∈ wsX5_record := by decide +kernel
theorem lk_X5_record_81 : Cond.fieldLink RX5 81 "SeatCountsModel" "place" "[I" ∈ wsX5_record := by decide +kernel
theorem lk_X5_record_84 : Cond.fieldLink RX5 84 "SeatCountsModel" "value" "[J" ∈ wsX5_record := by decide +kernel
theorem ni_X5_record_X5 : ∀ w ∈ wsX50, w ∈ wsX5_record := by decide +kernel
noncomputable def fn_X5_record_155 : Nat → sc_M → Int32 → Int32 → Int32 → Option (sc_M)
  | 0, _, _, _, _ => none
  | n + 1, S, x1, x5, x6 =>
    if (sc_gi S 1) ≤ x6 then
      sc_sq (sc_mi S 6 ((sc_gi S 6) + (1 : Int32))) (fun S236 => some S236)
    else
      if (3 : Int32) ≤ x1 then
        sc_sq (sc_mi S 6 ((sc_gi S 6) + (1 : Int32))) (fun S236 => some S236)
      else
        sc_ck x6 80 (sc_ck (((80 : Int32) * x5) + x6) 7200 (sc_sq (sc_mA S 17 (upd (sc_ga S 17) (((80 : Int32) * x5) + x6).toNatClampNeg (sc_ga S 24 x6.toNatClampNeg))) (fun S188 => sc_ck x6 80 (if 0 ≤ (sc_ga S188 24 x6.toNatClampNeg) then
          sc_ck x6 80 (sc_ck (((80 : Int32) * x5) + x6) 7200 (sc_sq (sc_mB S188 18 (vp_updL (sc_gb S188 18) (((80 : Int32) * x5) + x6).toNatClampNeg (sc_gb S188 25 x6.toNatClampNeg))) (fun S222 => fn_X5_record_155 n S222 x1 x5 (x6 + 1))))
        else
          sc_ck (((80 : Int32) * x5) + x6) 7200 (sc_sq (sc_mB S188 18 (vp_updL (sc_gb S188 18) (((80 : Int32) * x5) + x6).toNatClampNeg (0 : Int64))) (fun S222 => fn_X5_record_155 n S222 x1 x5 (x6 + 1)))))))
noncomputable def fn_X5_record_77 : Nat → sc_M → Int32 → Int32 → Int32 → Option (sc_M)
  | 0, _, _, _, _ => none
  | n + 1, S, x1, x5, x6 =>
    if (sc_gi S 0) ≤ x6 then
      fn_X5_record_155 sc_FU S x1 x5 (0 : Int32)
    else
      sc_ck x6 12 (sc_ck (((12 : Int32) * x5) + x6) 1080 (sc_sq (sc_mB S 14 (vp_updL (sc_gb S 14) (((12 : Int32) * x5) + x6).toNatClampNeg (sc_gb S 21 x6.toNatClampNeg))) (fun S105 => sc_ck x6 12 (sc_ck (((12 : Int32) * x5) + x6) 1080 (sc_sq (sc_mA S105 15 (upd (sc_ga S105 15) (((12 : Int32) * x5) + x6).toNatClampNeg (sc_ga S105 22 x6.toNatClampNeg))) (fun S125 => sc_ck x6 12 (sc_ck (((12 : Int32) * x5) + x6) 1080 (sc_sq (sc_mB S125 19 (vp_updL (sc_gb S125 19) (((12 : Int32) * x5) + x6).toNatClampNeg (sc_gb S125 21 x6.toNatClampNeg))) (fun S145 => fn_X5_record_77 n S145 x1 x5 (x6 + 1))))))))))
noncomputable def fn_X5_record (S : sc_M) (x1 : Int32) (x2 : Int32) (x3 : Int64) : Option (sc_M) :=
  sc_sq ((sc_gi S 6)) (fun y4 => sc_ck y4 90 (sc_sq (sc_mA S 7 (upd (sc_ga S 7) y4.toNatClampNeg x1)) (fun S13 => sc_ck y4 90 (sc_sq (sc_mA S13 8 (upd (sc_ga S13 8) y4.toNatClampNeg x2)) (fun S21 => sc_ck y4 90 (sc_sq (sc_mB S21 9 (vp_updL (sc_gb S21 9) y4.toNatClampNeg (sc_gj S21 1))) (fun S32 => sc_ck y4 90 (sc_sq (sc_mB S32 10 (vp_updL (sc_gb S32 10) y4.toNatClampNeg (sc_gj S32 2))) (fun S43 => sc_ck y4 90 (sc_sq (sc_mA S43 11 (upd (sc_ga S43 11) y4.toNatClampNeg (sc_gi S43 7))) (fun S54 => sc_ck y4 90 (sc_sq (sc_mB S54 12 (vp_updL (sc_gb S54 12) y4.toNatClampNeg (sc_gj S54 0))) (fun S65 => sc_ck y4 90 (sc_sq (sc_mB S65 13 (vp_updL (sc_gb S65 13) y4.toNatClampNeg x3)) (fun S73 => fn_X5_record_77 sc_FU S73 x1 y4 (0 : Int32))))))))))))))))
section
variable {p : Program} {l : Launch} {e : Env} {s : State} {m : MethodId} {args : Array Value} {below : List Frame} {meth : Method} {c : Code} {Q : State → Prop} {dC : Nat → ClassId} {dI : Nat → Nat → Nat} {h : Nat → Nat} {cy : Nat → ClassId}
set_option maxHeartbeats 4000000 in
set_option maxRecDepth 100000 in
theorem wk_X5_record_155 (C0 : CallFix p m c cX5_record 7 s args wsX5_record RX5) {S' : sc_M} (hR : sc_Rv p l e rm_X5_record s m args below meth c Q cX5_record (sc_EM dC dI h cy) S') : ∀ n : Nat, ∀ (S : sc_M) (x1 : Int32) (x5 : Int32) (x6 : Int32) (H : Heap) (locs : List Loc) (ls : Array Slot), fn_X5_record_155 n S x1 x5 x6 = some S' → sc_W (sc_EM dC dI h cy) s H locs S → lv_has ls 7 [(0, .ref (h 0)), (1, .int x1), (5, .int x5), (6, .int x6)] → W p l e rm_X5_record s m args below meth c H locs 0 0 Q (F0 m 155 ls []) := by
  obtain ⟨hx, hb, hml, hown, hts⟩ := id C0
  intro n
  induction n with
  | zero => intro S x1 x5 x6 H locs ls; intro hf; cases hf
  | succ n ih =>
    intro S x1 x5 x6 H locs ls hf hW hl
    rw [fn_X5_record_155] at hf
    refine lv_iload hx hb dX5_record_155 (lv_at hl 3 rfl) ?_
    refine lv_aload_n hx hb dX5_record_157 rfl (lv_at hl 0 rfl) ?_
    refine sc_getX5 C0 hW ni_X5_record_X5 3 (Nat.le_of_ble_eq_true rfl) lk_X5_record_104 (v := .int (sc_gi S 1)) rfl dX5_record_158 ?_
    refine lv_icmp_ge (tgt := 229) hx hb dX5_record_161 (by decide) (fun hc => ?_) (fun hc => ?_)
    · replace hf := sc_ip hc hf
      refine lv_aload_n hx hb dX5_record_229 rfl (lv_at hl 0 rfl) ?_
      refine lv_dup hx hb dX5_record_230 rfl ?_
      refine sc_getX5 C0 hW ni_X5_record_X5 12 (Nat.le_of_ble_eq_true rfl) lk_X5_record_124 (v := .int (sc_gi S 6)) rfl dX5_record_231 ?_
      refine lv_iconst (v := (1 : Int32)) hx hb dX5_record_234 (by decide) ?_
      refine lv_iadd hx hb dX5_record_235 ?_
      obtain ⟨S236, eS236, hf⟩ := sc_sq_s hf
      refine sc_putX5_stages C0 hW ni_X5_record_X5 lk_X5_record_124 eS236 dX5_record_236 (fun H locs hW => ?_)
      exact sc_retv hR hf hW dX5_record_239
    · replace hf := sc_in hc hf
      refine lv_iload_n hx hb dX5_record_164 rfl (lv_at hl 1 rfl) ?_
      refine lv_iconst (v := (3 : Int32)) hx hb dX5_record_165 (by decide) ?_
      refine lv_icmp_ge (tgt := 229) hx hb dX5_record_166 (by decide) (fun hc => ?_) (fun hc => ?_)
      · replace hf := sc_ip hc hf
        refine lv_aload_n hx hb dX5_record_229 rfl (lv_at hl 0 rfl) ?_
        refine lv_dup hx hb dX5_record_230 rfl ?_
        refine sc_getX5 C0 hW ni_X5_record_X5 12 (Nat.le_of_ble_eq_true rfl) lk_X5_record_124 (v := .int (sc_gi S 6)) rfl dX5_record_231 ?_
        refine lv_iconst (v := (1 : Int32)) hx hb dX5_record_234 (by decide) ?_
        refine lv_iadd hx hb dX5_record_235 ?_
        obtain ⟨S236, eS236, hf⟩ := sc_sq_s hf
        refine sc_putX5_stages C0 hW ni_X5_record_X5 lk_X5_record_124 eS236 dX5_record_236 (fun H locs hW => ?_)
        exact sc_retv hR hf hW dX5_record_239
      · replace hf := sc_in hc hf
        refine lv_aload_n hx hb dX5_record_169 rfl (lv_at hl 0 rfl) ?_
        refine sc_getX5 C0 hW ni_X5_record_X5 23 (Nat.le_of_ble_eq_true rfl) lk_X5_record_60 (v := .ref (h 17)) rfl dX5_record_170 ?_
        refine lv_bipush (v := (80 : Int32)) hx hb dX5_record_173 (by decide) ?_
        refine lv_iload hx hb dX5_record_175 (lv_at hl 2 rfl) ?_
        refine lv_imul hx hb dX5_record_177 ?_
        refine lv_iload hx hb dX5_record_178 (lv_at hl 3 rfl) ?_
        refine lv_iadd hx hb dX5_record_180 ?_
        refine lv_aload_n hx hb dX5_record_181 rfl (lv_at hl 0 rfl) ?_
        refine sc_getX5 C0 hW ni_X5_record_X5 31 (Nat.le_of_ble_eq_true rfl) lk_X5_record_81 (v := .ref (h 24)) rfl dX5_record_182 ?_
        refine lv_iload hx hb dX5_record_185 (lv_at hl 3 rfl) ?_
        obtain ⟨hv, hf⟩ := sc_ck_s hf
        refine sc_ldM_24 C0 hW hv dX5_record_187 ?_
        obtain ⟨hv, hf⟩ := sc_ck_s hf
        obtain ⟨S188, eS188, hf⟩ := sc_sq_s hf
        refine sc_stM_17 C0 hW hv eS188 dX5_record_188 (fun H locs hW => ?_)
        refine lv_aload_n hx hb dX5_record_189 rfl (lv_at hl 0 rfl) ?_
        refine sc_getX5 C0 hW ni_X5_record_X5 24 (Nat.le_of_ble_eq_true rfl) lk_X5_record_63 (v := .ref (h 18)) rfl dX5_record_190 ?_
        refine lv_bipush (v := (80 : Int32)) hx hb dX5_record_193 (by decide) ?_
        refine lv_iload hx hb dX5_record_195 (lv_at hl 2 rfl) ?_
        refine lv_imul hx hb dX5_record_197 ?_
        refine lv_iload hx hb dX5_record_198 (lv_at hl 3 rfl) ?_
        refine lv_iadd hx hb dX5_record_200 ?_
        refine lv_aload_n hx hb dX5_record_201 rfl (lv_at hl 0 rfl) ?_
        refine sc_getX5 C0 hW ni_X5_record_X5 31 (Nat.le_of_ble_eq_true rfl) lk_X5_record_81 (v := .ref (h 24)) rfl dX5_record_202 ?_
        refine lv_iload hx hb dX5_record_205 (lv_at hl 3 rfl) ?_
        obtain ⟨hv, hf⟩ := sc_ck_s hf
        refine sc_ldM_24 C0 hW hv dX5_record_207 ?_
        refine lv_if_ge (tgt := 215) hx hb dX5_record_208 (by decide) (fun hc => ?_) (fun hc => ?_)
        · replace hf := sc_ip hc hf
          refine lv_aload_n hx hb dX5_record_215 rfl (lv_at hl 0 rfl) ?_
          refine sc_getX5 C0 hW ni_X5_record_X5 32 (Nat.le_of_ble_eq_true rfl) lk_X5_record_84 (v := .ref (h 25)) rfl dX5_record_216 ?_
          refine lv_iload hx hb dX5_record_219 (lv_at hl 3 rfl) ?_
          obtain ⟨hv, hf⟩ := sc_ck_s hf
          refine sc_ldM_25 C0 hW hv dX5_record_221 ?_
          obtain ⟨hv, hf⟩ := sc_ck_s hf
          obtain ⟨S222, eS222, hf⟩ := sc_sq_s hf
          refine sc_stM_18 C0 hW hv eS222 dX5_record_222 (fun H locs hW => ?_)
          refine lv_iinc (v := (x6 + 1)) (lv' := [(6, .int (x6 + 1)), (0, .ref (h 0)), (1, .int x1), (5, .int x5)]) hx hb dX5_record_223 hl (k := 3) rfl rfl (by decide) rfl (fun ls hl => ?_)
          refine lv_goto (tgt := 155) hx hb dX5_record_226 (by decide) ?_
          exact ih _ _ _ _ _ _ _ hf hW (lv_sub hl [1, 2, 3, 0] rfl)
        · replace hf := sc_in hc hf
          refine lv_lconst (v := (0 : Int64)) hx hb dX5_record_211 (by decide) ?_
          refine lv_goto (tgt := 222) hx hb dX5_record_212 (by decide) ?_
          obtain ⟨hv, hf⟩ := sc_ck_s hf
          obtain ⟨S222, eS222, hf⟩ := sc_sq_s hf
          refine sc_stM_18 C0 hW hv eS222 dX5_record_222 (fun H locs hW => ?_)
          refine lv_iinc (v := (x6 + 1)) (lv' := [(6, .int (x6 + 1)), (0, .ref (h 0)), (1, .int x1), (5, .int x5)]) hx hb dX5_record_223 hl (k := 3) rfl rfl (by decide) rfl (fun ls hl => ?_)
          refine lv_goto (tgt := 155) hx hb dX5_record_226 (by decide) ?_
          exact ih _ _ _ _ _ _ _ hf hW (lv_sub hl [1, 2, 3, 0] rfl)
set_option maxHeartbeats 4000000 in
set_option maxRecDepth 100000 in
theorem wk_X5_record_77 (C0 : CallFix p m c cX5_record 7 s args wsX5_record RX5) {S' : sc_M} (hR : sc_Rv p l e rm_X5_record s m args below meth c Q cX5_record (sc_EM dC dI h cy) S') : ∀ n : Nat, ∀ (S : sc_M) (x1 : Int32) (x5 : Int32) (x6 : Int32) (H : Heap) (locs : List Loc) (ls : Array Slot), fn_X5_record_77 n S x1 x5 x6 = some S' → sc_W (sc_EM dC dI h cy) s H locs S → lv_has ls 7 [(0, .ref (h 0)), (1, .int x1), (5, .int x5), (6, .int x6)] → W p l e rm_X5_record s m args below meth c H locs 0 0 Q (F0 m 77 ls []) := by
  obtain ⟨hx, hb, hml, hown, hts⟩ := id C0
  intro n
  induction n with
  | zero => intro S x1 x5 x6 H locs ls; intro hf; cases hf
  | succ n ih =>
    intro S x1 x5 x6 H locs ls hf hW hl
    rw [fn_X5_record_77] at hf
    refine lv_iload hx hb dX5_record_77 (lv_at hl 3 rfl) ?_
    refine lv_aload_n hx hb dX5_record_79 rfl (lv_at hl 0 rfl) ?_
    refine sc_getX5 C0 hW ni_X5_record_X5 0 (Nat.le_of_ble_eq_true rfl) lk_X5_record_101 (v := .int (sc_gi S 0)) rfl dX5_record_80 ?_
    refine lv_icmp_ge (tgt := 152) hx hb dX5_record_83 (by decide) (fun hc => ?_) (fun hc => ?_)
    · replace hf := sc_ip hc hf
      refine lv_iconst (v := (0 : Int32)) hx hb dX5_record_152 (by decide) ?_
      refine lv_istore (lv' := [(6, .int (0 : Int32)), (0, .ref (h 0)), (1, .int x1), (5, .int x5)]) hx hb dX5_record_153 hl (by decide) rfl (fun ls hl => ?_)
      exact wk_X5_record_155 C0 hR  sc_FU _ _ _ _ _ _ _ hf hW (lv_sub hl [1, 2, 3, 0] rfl)
    · replace hf := sc_in hc hf
      refine lv_aload_n hx hb dX5_record_86 rfl (lv_at hl 0 rfl) ?_
      refine sc_getX5 C0 hW ni_X5_record_X5 20 (Nat.le_of_ble_eq_true rfl) lk_X5_record_51 (v := .ref (h 14)) rfl dX5_record_87 ?_
      refine lv_bipush (v := (12 : Int32)) hx hb dX5_record_90 (by decide) ?_
      refine lv_iload hx hb dX5_record_92 (lv_at hl 2 rfl) ?_
      refine lv_imul hx hb dX5_record_94 ?_
      refine lv_iload hx hb dX5_record_95 (lv_at hl 3 rfl) ?_
      refine lv_iadd hx hb dX5_record_97 ?_
      refine lv_aload_n hx hb dX5_record_98 rfl (lv_at hl 0 rfl) ?_
      refine sc_getX5 C0 hW ni_X5_record_X5 28 (Nat.le_of_ble_eq_true rfl) lk_X5_record_72 (v := .ref (h 21)) rfl dX5_record_99 ?_
      refine lv_iload hx hb dX5_record_102 (lv_at hl 3 rfl) ?_
      obtain ⟨hv, hf⟩ := sc_ck_s hf
      refine sc_ldM_21 C0 hW hv dX5_record_104 ?_
      obtain ⟨hv, hf⟩ := sc_ck_s hf
      obtain ⟨S105, eS105, hf⟩ := sc_sq_s hf
      refine sc_stM_14 C0 hW hv eS105 dX5_record_105 (fun H locs hW => ?_)
      refine lv_aload_n hx hb dX5_record_106 rfl (lv_at hl 0 rfl) ?_
      refine sc_getX5 C0 hW ni_X5_record_X5 21 (Nat.le_of_ble_eq_true rfl) lk_X5_record_54 (v := .ref (h 15)) rfl dX5_record_107 ?_
      refine lv_bipush (v := (12 : Int32)) hx hb dX5_record_110 (by decide) ?_
      refine lv_iload hx hb dX5_record_112 (lv_at hl 2 rfl) ?_
      refine lv_imul hx hb dX5_record_114 ?_
      refine lv_iload hx hb dX5_record_115 (lv_at hl 3 rfl) ?_
      refine lv_iadd hx hb dX5_record_117 ?_
      refine lv_aload_n hx hb dX5_record_118 rfl (lv_at hl 0 rfl) ?_
      refine sc_getX5 C0 hW ni_X5_record_X5 29 (Nat.le_of_ble_eq_true rfl) lk_X5_record_75 (v := .ref (h 22)) rfl dX5_record_119 ?_
      refine lv_iload hx hb dX5_record_122 (lv_at hl 3 rfl) ?_
      obtain ⟨hv, hf⟩ := sc_ck_s hf
      refine sc_ldM_22 C0 hW hv dX5_record_124 ?_
      obtain ⟨hv, hf⟩ := sc_ck_s hf
      obtain ⟨S125, eS125, hf⟩ := sc_sq_s hf
      refine sc_stM_15 C0 hW hv eS125 dX5_record_125 (fun H locs hW => ?_)
      refine lv_aload_n hx hb dX5_record_126 rfl (lv_at hl 0 rfl) ?_
      refine sc_getX5 C0 hW ni_X5_record_X5 25 (Nat.le_of_ble_eq_true rfl) lk_X5_record_66 (v := .ref (h 19)) rfl dX5_record_127 ?_
      refine lv_bipush (v := (12 : Int32)) hx hb dX5_record_130 (by decide) ?_
      refine lv_iload hx hb dX5_record_132 (lv_at hl 2 rfl) ?_
      refine lv_imul hx hb dX5_record_134 ?_
      refine lv_iload hx hb dX5_record_135 (lv_at hl 3 rfl) ?_
      refine lv_iadd hx hb dX5_record_137 ?_
      refine lv_aload_n hx hb dX5_record_138 rfl (lv_at hl 0 rfl) ?_
      refine sc_getX5 C0 hW ni_X5_record_X5 28 (Nat.le_of_ble_eq_true rfl) lk_X5_record_72 (v := .ref (h 21)) rfl dX5_record_139 ?_
      refine lv_iload hx hb dX5_record_142 (lv_at hl 3 rfl) ?_
      obtain ⟨hv, hf⟩ := sc_ck_s hf
      refine sc_ldM_21 C0 hW hv dX5_record_144 ?_
      obtain ⟨hv, hf⟩ := sc_ck_s hf
      obtain ⟨S145, eS145, hf⟩ := sc_sq_s hf
      refine sc_stM_19 C0 hW hv eS145 dX5_record_145 (fun H locs hW => ?_)
      refine lv_iinc (v := (x6 + 1)) (lv' := [(6, .int (x6 + 1)), (0, .ref (h 0)), (1, .int x1), (5, .int x5)]) hx hb dX5_record_146 hl (k := 3) rfl rfl (by decide) rfl (fun ls hl => ?_)
      refine lv_goto (tgt := 77) hx hb dX5_record_149 (by decide) ?_
      exact ih _ _ _ _ _ _ _ hf hW (lv_sub hl [1, 2, 3, 0] rfl)
set_option maxHeartbeats 4000000 in
set_option maxRecDepth 100000 in
theorem wk_X5_record_0 (C0 : CallFix p m c cX5_record 7 s args wsX5_record RX5) {S' : sc_M} (hR : sc_Rv p l e rm_X5_record s m args below meth c Q cX5_record (sc_EM dC dI h cy) S') : ∀ (S : sc_M) (x1 : Int32) (x2 : Int32) (x3 : Int64) (H : Heap) (locs : List Loc) (ls : Array Slot), fn_X5_record S x1 x2 x3 = some S' → sc_W (sc_EM dC dI h cy) s H locs S → lv_has ls 7 [(0, .ref (h 0)), (1, .int x1), (2, .int x2), (3, .long x3)] → W p l e rm_X5_record s m args below meth c H locs 0 0 Q (F0 m 0 ls []) := by
  obtain ⟨hx, hb, hml, hown, hts⟩ := id C0
  intro S x1 x2 x3 H locs ls hf hW hl
  rw [fn_X5_record] at hf
  refine lv_aload_n hx hb dX5_record_0 rfl (lv_at hl 0 rfl) ?_
  refine sc_getX5 C0 hW ni_X5_record_X5 12 (Nat.le_of_ble_eq_true rfl) lk_X5_record_124 (v := .int (sc_gi S 6)) rfl dX5_record_1 ?_
  obtain ⟨y4, ey4, hf⟩ := sc_sq_s hf
  refine sc_topi ey4 ?_
  refine lv_istore (lv' := [(5, .int y4), (0, .ref (h 0)), (1, .int x1), (2, .int x2), (3, .long x3)]) hx hb dX5_record_4 hl (by decide) rfl (fun ls hl => ?_)
  refine lv_aload_n hx hb dX5_record_6 rfl (lv_at hl 1 rfl) ?_
  refine sc_getX5 C0 hW ni_X5_record_X5 13 (Nat.le_of_ble_eq_true rfl) lk_X5_record_29 (v := .ref (h 7)) rfl dX5_record_7 ?_
  refine lv_iload hx hb dX5_record_10 (lv_at hl 0 rfl) ?_
  refine lv_iload_n hx hb dX5_record_12 rfl (lv_at hl 2 rfl) ?_
  obtain ⟨hv, hf⟩ := sc_ck_s hf
  obtain ⟨S13, eS13, hf⟩ := sc_sq_s hf
  refine sc_stM_7 C0 hW hv eS13 dX5_record_13 (fun H locs hW => ?_)
  refine lv_aload_n hx hb dX5_record_14 rfl (lv_at hl 1 rfl) ?_
  refine sc_getX5 C0 hW ni_X5_record_X5 14 (Nat.le_of_ble_eq_true rfl) lk_X5_record_32 (v := .ref (h 8)) rfl dX5_record_15 ?_
  refine lv_iload hx hb dX5_record_18 (lv_at hl 0 rfl) ?_
  refine lv_iload_n hx hb dX5_record_20 rfl (lv_at hl 3 rfl) ?_
  obtain ⟨hv, hf⟩ := sc_ck_s hf
  obtain ⟨S21, eS21, hf⟩ := sc_sq_s hf
  refine sc_stM_8 C0 hW hv eS21 dX5_record_21 (fun H locs hW => ?_)
  refine lv_aload_n hx hb dX5_record_22 rfl (lv_at hl 1 rfl) ?_
  refine sc_getX5 C0 hW ni_X5_record_X5 15 (Nat.le_of_ble_eq_true rfl) lk_X5_record_35 (v := .ref (h 9)) rfl dX5_record_23 ?_
  refine lv_iload hx hb dX5_record_26 (lv_at hl 0 rfl) ?_
  refine lv_aload_n hx hb dX5_record_28 rfl (lv_at hl 1 rfl) ?_
  refine sc_getX5 C0 hW ni_X5_record_X5 35 (Nat.le_of_ble_eq_true rfl) lk_X5_record_153 (v := .long (sc_gj S21 1)) rfl dX5_record_29 ?_
  obtain ⟨hv, hf⟩ := sc_ck_s hf
  obtain ⟨S32, eS32, hf⟩ := sc_sq_s hf
  refine sc_stM_9 C0 hW hv eS32 dX5_record_32 (fun H locs hW => ?_)
  refine lv_aload_n hx hb dX5_record_33 rfl (lv_at hl 1 rfl) ?_
  refine sc_getX5 C0 hW ni_X5_record_X5 16 (Nat.le_of_ble_eq_true rfl) lk_X5_record_39 (v := .ref (h 10)) rfl dX5_record_34 ?_
  refine lv_iload hx hb dX5_record_37 (lv_at hl 0 rfl) ?_
  refine lv_aload_n hx hb dX5_record_39 rfl (lv_at hl 1 rfl) ?_
  refine sc_getX5 C0 hW ni_X5_record_X5 36 (Nat.le_of_ble_eq_true rfl) lk_X5_record_156 (v := .long (sc_gj S32 2)) rfl dX5_record_40 ?_
  obtain ⟨hv, hf⟩ := sc_ck_s hf
  obtain ⟨S43, eS43, hf⟩ := sc_sq_s hf
  refine sc_stM_10 C0 hW hv eS43 dX5_record_43 (fun H locs hW => ?_)
  refine lv_aload_n hx hb dX5_record_44 rfl (lv_at hl 1 rfl) ?_
  refine sc_getX5 C0 hW ni_X5_record_X5 17 (Nat.le_of_ble_eq_true rfl) lk_X5_record_42 (v := .ref (h 11)) rfl dX5_record_45 ?_
  refine lv_iload hx hb dX5_record_48 (lv_at hl 0 rfl) ?_
  refine lv_aload_n hx hb dX5_record_50 rfl (lv_at hl 1 rfl) ?_
  refine sc_getX5 C0 hW ni_X5_record_X5 27 (Nat.le_of_ble_eq_true rfl) lk_X5_record_135 (v := .int (sc_gi S43 7)) rfl dX5_record_51 ?_
  obtain ⟨hv, hf⟩ := sc_ck_s hf
  obtain ⟨S54, eS54, hf⟩ := sc_sq_s hf
  refine sc_stM_11 C0 hW hv eS54 dX5_record_54 (fun H locs hW => ?_)
  refine lv_aload_n hx hb dX5_record_55 rfl (lv_at hl 1 rfl) ?_
  refine sc_getX5 C0 hW ni_X5_record_X5 18 (Nat.le_of_ble_eq_true rfl) lk_X5_record_45 (v := .ref (h 12)) rfl dX5_record_56 ?_
  refine lv_iload hx hb dX5_record_59 (lv_at hl 0 rfl) ?_
  refine lv_aload_n hx hb dX5_record_61 rfl (lv_at hl 1 rfl) ?_
  refine sc_getX5 C0 hW ni_X5_record_X5 34 (Nat.le_of_ble_eq_true rfl) lk_X5_record_138 (v := .long (sc_gj S54 0)) rfl dX5_record_62 ?_
  obtain ⟨hv, hf⟩ := sc_ck_s hf
  obtain ⟨S65, eS65, hf⟩ := sc_sq_s hf
  refine sc_stM_12 C0 hW hv eS65 dX5_record_65 (fun H locs hW => ?_)
  refine lv_aload_n hx hb dX5_record_66 rfl (lv_at hl 1 rfl) ?_
  refine sc_getX5 C0 hW ni_X5_record_X5 19 (Nat.le_of_ble_eq_true rfl) lk_X5_record_48 (v := .ref (h 13)) rfl dX5_record_67 ?_
  refine lv_iload hx hb dX5_record_70 (lv_at hl 0 rfl) ?_
  refine lv_lload_n hx hb dX5_record_72 rfl (lv_at hl 4 rfl) ?_
  obtain ⟨hv, hf⟩ := sc_ck_s hf
  obtain ⟨S73, eS73, hf⟩ := sc_sq_s hf
  refine sc_stM_13 C0 hW hv eS73 dX5_record_73 (fun H locs hW => ?_)
  refine lv_iconst (v := (0 : Int32)) hx hb dX5_record_74 (by decide) ?_
  refine lv_istore (lv' := [(6, .int (0 : Int32)), (5, .int y4), (0, .ref (h 0)), (1, .int x1), (2, .int x2), (3, .long x3)]) hx hb dX5_record_75 hl (by decide) rfl (fun ls hl => ?_)
  exact wk_X5_record_77 C0 hR  sc_FU _ _ _ _ _ _ _ hf hW (lv_sub hl [2, 3, 1, 0] rfl)
set_option maxRecDepth 100000 in
theorem ct_X5_record {S S' : sc_M} {x1 : Int32} {x2 : Int32} {x3 : Int64} (hf : fn_X5_record S x1 x2 x3 = some S') : sc_Cv l yX5_record wsX5_record rm_X5_record (sc_EM dC dI h cy) [.ref (h 0), .int x1, .int x2, .long x3] S S' := by
  refine sc_ofv (cc := cX5_record) (maxL := 7) sc_okM (by decide) rfl (Nat.le_of_ble_eq_true rfl) ?_
  intro p e s m below meth c Q C0 hR hW ls hl
  exact wk_X5_record_0 C0 hR _ _ _ _ _ _ _ hf hW hl
end
