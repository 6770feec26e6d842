/-! ===== SeatCountsModel.count(II)I ===== -/
abbrev rm_X5_count : Room := { frames := 5, cells := 0, slots := 0, locals := 126 }
theorem lk_X5_count_101 : Cond.fieldLink RX5 101 "SeatCountsModel" "many" "I" ∈ wsX5_count := by decide +kernel
theorem lk_X5_count_104 : Cond.fieldLink RX5 104 "SeatCountsModel" "piles" "I" ∈ wsX5_count := by decide +kernel
theorem lk_X5_count_124 : Cond.fieldLink RX5 124 "SeatCountsModel" "stages" "I" ∈ wsX5_count := by decide +kernel
theorem lk_X5_count_135 : Cond.fieldLink RX5 135 "SeatCountsModel" "electedMany" "I" ∈ wsX5_count := by decide +kernel
theorem lk_X5_count_150 : Cond.fieldLink RX5 150 "SeatCountsModel" "seats" "I" ∈ wsX5_count := by decide +kernel
theorem lk_X5_count_153 : Cond.fieldLink RX5 153 "SeatCountsModel" "idleNow" "J" ∈ wsX5_count := by decide +kernel
theorem lk_X5_count_156 : Cond.fieldLink RX5 156 "SeatCountsModel" "lostNow" "J" ∈ wsX5_count := by decide +kernel
theorem lk_X5_count_196 : Cond.constantLong RX5 196 (1000000) ∈ wsX5_count := by decide +kernel
theorem lk_X5_count_207 : Cond.fieldLink RX5 207 "SeatCountsModel" "manyThen" "I" ∈ wsX5_count := by decide +kernel
theorem lk_X5_count_210 : Cond.fieldLink RX5 210 "SeatCountsModel" "pilesThen" "I" ∈ wsX5_count := by decide +kernel
theorem lk_X5_count_7 : Cond.fieldLink RX5 7 "SeatCountsModel" "isWithdrawn" "[Z" ∈ wsX5_count := by decide +kernel
theorem lk_X5_count_72 : Cond.fieldLink RX5 72 "SeatCountsModel" "votes" "[J" ∈ wsX5_count := by decide +kernel
theorem lk_X5_count_75 : Cond.fieldLink RX5 75 "SeatCountsModel" "status" "[I" ∈ wsX5_count := by decide +kernel
theorem lk_X5_count_78 : Cond.fieldLink RX5 78 "SeatCountsModel" "keep" "[J" ∈ wsX5_count := by decide +kernel
theorem lk_X5_count_97 : Cond.fieldLink RX5 97 "SeatCountsModel" "ruleOf" "I" ∈ wsX5_count := by decide +kernel
theorem ni_X5_count_X5 : ∀ w ∈ wsX50, w ∈ wsX5_count := by decide +kernel
noncomputable def fn_X5_count_158 (k118 : sc_M → Int32 → Int32 → Option (Int32 × sc_M)) (S : sc_M) (x1 : Int32) (x4 : Int32) (z1 : Int32) : Option (Int32 × sc_M) :=
  sc_ck z1 12 (sc_sq (sc_mA S 22 (upd (sc_ga S 22) z1.toNatClampNeg (3 : Int32))) (fun S163 => sc_ck x4 12 (sc_sq (sc_mB S163 23 (vp_updL (sc_gb S163 23) x4.toNatClampNeg (1000000 : Int64))) (fun S173 => k118 S173 x1 (x4 + 1)))))
noncomputable def fn_X5_count_118 : Nat → sc_M → Int32 → Int32 → Option (Int32 × sc_M)
  | 0, _, _, _ => none
  | n + 1, S, x1, x4 =>
    if (12 : Int32) ≤ x4 then
      if (3 : Int32) ≤ x1 then
        sc_cv (fn_X5_countByKeeps S) (fun S193 => some ((sc_gi S193 6), S193))
      else
        sc_cv (fn_X5_countByPiles S) (fun S186 => some ((sc_gi S186 6), S186))
    else
      sc_ck x4 12 (sc_sq (sc_mB S 21 (vp_updL (sc_gb S 21) x4.toNatClampNeg (0 : Int64))) (fun S132 => if (sc_gi S132 0) ≤ x4 then
        fn_X5_count_158 (fn_X5_count_118 n) S132 x1 x4 x4
      else
        sc_ck x4 12 (if (sc_ga S132 1 x4.toNatClampNeg) = 0 then
          sc_ck x4 12 (sc_sq (sc_mA S132 22 (upd (sc_ga S132 22) x4.toNatClampNeg (0 : Int32))) (fun S163 => sc_ck x4 12 (sc_sq (sc_mB S163 23 (vp_updL (sc_gb S163 23) x4.toNatClampNeg (1000000 : Int64))) (fun S173 => fn_X5_count_118 n S173 x1 (x4 + 1)))))
        else
          fn_X5_count_158 (fn_X5_count_118 n) S132 x1 x4 x4)))
noncomputable def fn_X5_count_27 : Nat → sc_M → Int32 → Int32 → Int32 → Int32 → Option (Int32 × sc_M)
  | 0, _, _, _, _, _ => none
  | n + 1, S, x1, x2, x3, x4 =>
    if (sc_gi S 0) ≤ x4 then
      if x3 = 0 then
        some ((-3 : Int32), S)
      else
        sc_sq (sc_mi S 2 x1) (fun S71 => sc_sq (sc_mi S71 3 x2) (fun S76 => sc_sq (sc_mi S76 4 (sc_gi S76 0)) (fun S84 => sc_sq (sc_mi S84 5 (sc_gi S84 1)) (fun S92 => sc_sq (sc_mi S92 6 (0 : Int32)) (fun S97 => sc_sq (sc_mi S97 7 (0 : Int32)) (fun S102 => sc_sq (sc_mj S102 1 (0 : Int64)) (fun S107 => sc_sq (sc_mj S107 2 (0 : Int64)) (fun S112 => fn_X5_count_118 sc_FU S112 x1 (0 : Int32)))))))))
    else
      if x3 = 0 then
        sc_ck x4 12 (if (sc_ga S 1 x4.toNatClampNeg) = 0 then
          fn_X5_count_27 n S x1 x2 (1 : Int32) (x4 + 1)
        else
          fn_X5_count_27 n S x1 x2 (0 : Int32) (x4 + 1))
      else
        fn_X5_count_27 n S x1 x2 (1 : Int32) (x4 + 1)
noncomputable def fn_X5_count (S : sc_M) (x1 : Int32) (x2 : Int32) : Option (Int32 × sc_M) :=
  sc_cl (fn_X5_in S x1 (0 : Int32) (3 : Int32)) (fun r3 S3 => if r3 = 0 then
    some ((-2 : Int32), S3)
  else
    sc_cl (fn_X5_in S3 x2 (1 : Int32) (12 : Int32)) (fun r13 S13 => if r13 = 0 then
      some ((-2 : Int32), S13)
    else
      fn_X5_count_27 sc_FU S13 x1 x2 (0 : Int32) (0 : Int32)))
section
variable {p : Program} {l : Launch} {e : Env} {s : State} {m : MethodId} {args : Array Value} {below : List Frame} {meth : Method} {c : Code} {Q : State → Prop} {dC : Nat → ClassId} {dI : Nat → Nat → Nat} {h : Nat → Nat} {cy : Nat → ClassId}
set_option maxHeartbeats 4000000 in
set_option maxRecDepth 100000 in
theorem wk_X5_count_158 (C0 : CallFix p m c cX5_count 5 s args wsX5_count RX5) {S' : sc_M} {r : Int32} (hR : sc_Ri p l e rm_X5_count s m args below meth c Q cX5_count (sc_EM dC dI h cy) S' r) {k118 : sc_M → Int32 → Int32 → Option (Int32 × sc_M)} (hk118 : ∀ (S : sc_M) (x1 : Int32) (x4 : Int32) (H : Heap) (locs : List Loc) (ls : Array Slot), k118 S x1 x4 = some (r, S') → sc_W (sc_EM dC dI h cy) s H locs S → lv_has ls 5 [(0, .ref (h 0)), (1, .int x1), (4, .int x4)] → W p l e rm_X5_count s m args below meth c H locs 0 0 Q (F0 m 118 ls [])) : ∀ (S : sc_M) (x1 : Int32) (x4 : Int32) (z1 : Int32) (H : Heap) (locs : List Loc) (ls : Array Slot), fn_X5_count_158 k118 S x1 x4 z1 = some (r, S') → sc_W (sc_EM dC dI h cy) s H locs S → lv_has ls 5 [(0, .ref (h 0)), (1, .int x1), (4, .int x4)] → W p l e rm_X5_count s m args below meth c H locs 0 0 Q (F0 m 158 ls [.int z1, .ref (h 22)]) := by
  obtain ⟨hx, hb, hml, hown, hts⟩ := id C0
  intro S x1 x4 z1 H locs ls hf hW hl
  rw [fn_X5_count_158] at hf
  refine lv_iconst (v := (3 : Int32)) hx hb dX5_count_158 (by decide) ?_
  refine lv_goto (tgt := 163) hx hb dX5_count_159 (by decide) ?_
  obtain ⟨hv, hf⟩ := sc_ck_s hf
  obtain ⟨S163, eS163, hf⟩ := sc_sq_s hf
  refine sc_stM_22 C0 hW hv eS163 dX5_count_163 (fun H locs hW => ?_)
  refine lv_aload_n hx hb dX5_count_164 rfl (lv_at hl 0 rfl) ?_
  refine sc_getX5 C0 hW ni_X5_count_X5 30 (Nat.le_of_ble_eq_true rfl) lk_X5_count_78 (v := .ref (h 23)) rfl dX5_count_165 ?_
  refine lv_iload hx hb dX5_count_168 (lv_at hl 2 rfl) ?_
  refine lv_ldc2 (v := (1000000 : Int64)) hx hb hown (hts _ lk_X5_count_196) dX5_count_170 ?_
  obtain ⟨hv, hf⟩ := sc_ck_s hf
  obtain ⟨S173, eS173, hf⟩ := sc_sq_s hf
  refine sc_stM_23 C0 hW hv eS173 dX5_count_173 (fun H locs hW => ?_)
  refine lv_iinc (v := (x4 + 1)) (lv' := [(4, .int (x4 + 1)), (0, .ref (h 0)), (1, .int x1)]) hx hb dX5_count_174 hl (k := 2) rfl rfl (by decide) rfl (fun ls hl => ?_)
  refine lv_goto (tgt := 118) hx hb dX5_count_177 (by decide) ?_
  exact hk118 _ _ _ _ _ _ hf hW (lv_sub hl [1, 2, 0] rfl)
set_option maxHeartbeats 4000000 in
set_option maxRecDepth 100000 in
theorem wk_X5_count_118 (C0 : CallFix p m c cX5_count 5 s args wsX5_count RX5) {S' : sc_M} {r : Int32} (hR : sc_Ri p l e rm_X5_count s m args below meth c Q cX5_count (sc_EM dC dI h cy) S' r) : ∀ n : Nat, ∀ (S : sc_M) (x1 : Int32) (x4 : Int32) (H : Heap) (locs : List Loc) (ls : Array Slot), fn_X5_count_118 n S x1 x4 = some (r, S') → sc_W (sc_EM dC dI h cy) s H locs S → lv_has ls 5 [(0, .ref (h 0)), (1, .int x1), (4, .int x4)] → W p l e rm_X5_count s m args below meth c H locs 0 0 Q (F0 m 118 ls []) := by
  obtain ⟨hx, hb, hml, hown, hts⟩ := id C0
  intro n
  induction n with
  | zero => intro S x1 x4 H locs ls; intro hf; cases hf
  | succ n ih =>
    intro S x1 x4 H locs ls hf hW hl
    rw [fn_X5_count_118] at hf
    refine lv_iload hx hb dX5_count_118 (lv_at hl 2 rfl) ?_
    refine lv_bipush (v := (12 : Int32)) hx hb dX5_count_120 (by decide) ?_
    refine lv_icmp_ge (tgt := 180) hx hb dX5_count_122 (by decide) (fun hc => ?_) (fun hc => ?_)
    · replace hf := sc_ip hc hf
      refine lv_iload_n hx hb dX5_count_180 rfl (lv_at hl 1 rfl) ?_
      refine lv_iconst (v := (3 : Int32)) hx hb dX5_count_181 (by decide) ?_
      refine lv_icmp_ge (tgt := 192) hx hb dX5_count_182 (by decide) (fun hc => ?_) (fun hc => ?_)
      · replace hf := sc_ip hc hf
        refine lv_aload_n hx hb dX5_count_192 rfl (lv_at hl 0 rfl) ?_
        obtain ⟨S193, hc, hf⟩ := sc_cv_s hf
        refine sc_callVv (As := []) (rest := []) (q0 := 0) (ci := 4) sc_okM C0 hW (ct_X5_countByKeeps hc) (cwV 0 hts gX5_count_X5_countByKeeps rfl rfl rfl (by decide +kernel) ⟨Nat.le_of_ble_eq_true rfl, Nat.le_of_ble_eq_true rfl⟩) rfl rfl rfl rfl hl.1 rfl (Nat.le_of_ble_eq_true rfl) dX5_count_193 (fun H locs hW => ?_)
        refine lv_aload_n hx hb dX5_count_196 rfl (lv_at hl 0 rfl) ?_
        refine sc_getX5 C0 hW ni_X5_count_X5 12 (Nat.le_of_ble_eq_true rfl) lk_X5_count_124 (v := .int (sc_gi S193 6)) rfl dX5_count_197 ?_
        exact sc_reti hR hf hW dX5_count_200
      · replace hf := sc_in hc hf
        refine lv_aload_n hx hb dX5_count_185 rfl (lv_at hl 0 rfl) ?_
        obtain ⟨S186, hc, hf⟩ := sc_cv_s hf
        refine sc_callVv (As := []) (rest := []) (q0 := 0) (ci := 4) sc_okM C0 hW (ct_X5_countByPiles hc) (cwV 0 hts gX5_count_X5_countByPiles rfl rfl rfl (by decide +kernel) ⟨Nat.le_of_ble_eq_true rfl, Nat.le_of_ble_eq_true rfl⟩) rfl rfl rfl rfl hl.1 rfl (Nat.le_of_ble_eq_true rfl) dX5_count_186 (fun H locs hW => ?_)
        refine lv_goto (tgt := 196) hx hb dX5_count_189 (by decide) ?_
        refine lv_aload_n hx hb dX5_count_196 rfl (lv_at hl 0 rfl) ?_
        refine sc_getX5 C0 hW ni_X5_count_X5 12 (Nat.le_of_ble_eq_true rfl) lk_X5_count_124 (v := .int (sc_gi S186 6)) rfl dX5_count_197 ?_
        exact sc_reti hR hf hW dX5_count_200
    · replace hf := sc_in hc hf
      refine lv_aload_n hx hb dX5_count_125 rfl (lv_at hl 0 rfl) ?_
      refine sc_getX5 C0 hW ni_X5_count_X5 28 (Nat.le_of_ble_eq_true rfl) lk_X5_count_72 (v := .ref (h 21)) rfl dX5_count_126 ?_
      refine lv_iload hx hb dX5_count_129 (lv_at hl 2 rfl) ?_
      refine lv_lconst (v := (0 : Int64)) hx hb dX5_count_131 (by decide) ?_
      obtain ⟨hv, hf⟩ := sc_ck_s hf
      obtain ⟨S132, eS132, hf⟩ := sc_sq_s hf
      refine sc_stM_21 C0 hW hv eS132 dX5_count_132 (fun H locs hW => ?_)
      refine lv_aload_n hx hb dX5_count_133 rfl (lv_at hl 0 rfl) ?_
      refine sc_getX5 C0 hW ni_X5_count_X5 29 (Nat.le_of_ble_eq_true rfl) lk_X5_count_75 (v := .ref (h 22)) rfl dX5_count_134 ?_
      refine lv_iload hx hb dX5_count_137 (lv_at hl 2 rfl) ?_
      refine lv_iload hx hb dX5_count_139 (lv_at hl 2 rfl) ?_
      refine lv_aload_n hx hb dX5_count_141 rfl (lv_at hl 0 rfl) ?_
      refine sc_getX5 C0 hW ni_X5_count_X5 0 (Nat.le_of_ble_eq_true rfl) lk_X5_count_101 (v := .int (sc_gi S132 0)) rfl dX5_count_142 ?_
      refine lv_icmp_ge (tgt := 158) hx hb dX5_count_145 (by decide) (fun hc => ?_) (fun hc => ?_)
      · replace hf := sc_ip hc hf
        exact wk_X5_count_158 C0 hR ih _ _ _ _ _ _ _ hf hW (lv_sub hl [0, 1, 2] rfl)
      · replace hf := sc_in hc hf
        refine lv_aload_n hx hb dX5_count_148 rfl (lv_at hl 0 rfl) ?_
        refine sc_getX5 C0 hW ni_X5_count_X5 1 (Nat.le_of_ble_eq_true rfl) lk_X5_count_7 (v := .ref (h 1)) rfl dX5_count_149 ?_
        refine lv_iload hx hb dX5_count_152 (lv_at hl 2 rfl) ?_
        obtain ⟨hv, hf⟩ := sc_ck_s hf
        refine sc_ldM_1 C0 hW hv dX5_count_154 ?_
        refine lv_if_eq (tgt := 162) hx hb dX5_count_155 (by decide) (fun hc => ?_) (fun hc => ?_)
        · replace hf := sc_ip hc hf
          refine lv_iconst (v := (0 : Int32)) hx hb dX5_count_162 (by decide) ?_
          obtain ⟨hv, hf⟩ := sc_ck_s hf
          obtain ⟨S163, eS163, hf⟩ := sc_sq_s hf
          refine sc_stM_22 C0 hW hv eS163 dX5_count_163 (fun H locs hW => ?_)
          refine lv_aload_n hx hb dX5_count_164 rfl (lv_at hl 0 rfl) ?_
          refine sc_getX5 C0 hW ni_X5_count_X5 30 (Nat.le_of_ble_eq_true rfl) lk_X5_count_78 (v := .ref (h 23)) rfl dX5_count_165 ?_
          refine lv_iload hx hb dX5_count_168 (lv_at hl 2 rfl) ?_
          refine lv_ldc2 (v := (1000000 : Int64)) hx hb hown (hts _ lk_X5_count_196) dX5_count_170 ?_
          obtain ⟨hv, hf⟩ := sc_ck_s hf
          obtain ⟨S173, eS173, hf⟩ := sc_sq_s hf
          refine sc_stM_23 C0 hW hv eS173 dX5_count_173 (fun H locs hW => ?_)
          refine lv_iinc (v := (x4 + 1)) (lv' := [(4, .int (x4 + 1)), (0, .ref (h 0)), (1, .int x1)]) hx hb dX5_count_174 hl (k := 2) rfl rfl (by decide) rfl (fun ls hl => ?_)
          refine lv_goto (tgt := 118) hx hb dX5_count_177 (by decide) ?_
          exact ih _ _ _ _ _ _ hf hW (lv_sub hl [1, 2, 0] rfl)
        · replace hf := sc_in hc hf
          exact wk_X5_count_158 C0 hR ih _ _ _ _ _ _ _ hf hW (lv_sub hl [0, 1, 2] rfl)
set_option maxHeartbeats 4000000 in
set_option maxRecDepth 100000 in
theorem wk_X5_count_27 (C0 : CallFix p m c cX5_count 5 s args wsX5_count RX5) {S' : sc_M} {r : Int32} (hR : sc_Ri p l e rm_X5_count s m args below meth c Q cX5_count (sc_EM dC dI h cy) S' r) : ∀ n : Nat, ∀ (S : sc_M) (x1 : Int32) (x2 : Int32) (x3 : Int32) (x4 : Int32) (H : Heap) (locs : List Loc) (ls : Array Slot), fn_X5_count_27 n S x1 x2 x3 x4 = some (r, S') → sc_W (sc_EM dC dI h cy) s H locs S → lv_has ls 5 [(0, .ref (h 0)), (1, .int x1), (2, .int x2), (3, .int x3), (4, .int x4)] → W p l e rm_X5_count s m args below meth c H locs 0 0 Q (F0 m 27 ls []) := by
  obtain ⟨hx, hb, hml, hown, hts⟩ := id C0
  intro n
  induction n with
  | zero => intro S x1 x2 x3 x4 H locs ls; intro hf; cases hf
  | succ n ih =>
    intro S x1 x2 x3 x4 H locs ls hf hW hl
    rw [fn_X5_count_27] at hf
    refine lv_iload hx hb dX5_count_27 (lv_at hl 4 rfl) ?_
    refine lv_aload_n hx hb dX5_count_29 rfl (lv_at hl 0 rfl) ?_
    refine sc_getX5 C0 hW ni_X5_count_X5 0 (Nat.le_of_ble_eq_true rfl) lk_X5_count_101 (v := .int (sc_gi S 0)) rfl dX5_count_30 ?_
    refine lv_icmp_ge (tgt := 62) hx hb dX5_count_33 (by decide) (fun hc => ?_) (fun hc => ?_)
    · replace hf := sc_ip hc hf
      refine lv_iload_n hx hb dX5_count_62 rfl (lv_at hl 3 rfl) ?_
      refine lv_if_ne (tgt := 69) hx hb dX5_count_63 (by decide) (fun hc => ?_) (fun hc => ?_)
      · replace hf := sc_in hc hf
        refine lv_aload_n hx hb dX5_count_69 rfl (lv_at hl 0 rfl) ?_
        refine lv_iload_n hx hb dX5_count_70 rfl (lv_at hl 1 rfl) ?_
        obtain ⟨S71, eS71, hf⟩ := sc_sq_s hf
        refine sc_putX5_ruleOf C0 hW ni_X5_count_X5 lk_X5_count_97 eS71 dX5_count_71 (fun H locs hW => ?_)
        refine lv_aload_n hx hb dX5_count_74 rfl (lv_at hl 0 rfl) ?_
        refine lv_iload_n hx hb dX5_count_75 rfl (lv_at hl 2 rfl) ?_
        obtain ⟨S76, eS76, hf⟩ := sc_sq_s hf
        refine sc_putX5_seats C0 hW ni_X5_count_X5 lk_X5_count_150 eS76 dX5_count_76 (fun H locs hW => ?_)
        refine lv_aload_n hx hb dX5_count_79 rfl (lv_at hl 0 rfl) ?_
        refine lv_aload_n hx hb dX5_count_80 rfl (lv_at hl 0 rfl) ?_
        refine sc_getX5 C0 hW ni_X5_count_X5 0 (Nat.le_of_ble_eq_true rfl) lk_X5_count_101 (v := .int (sc_gi S76 0)) rfl dX5_count_81 ?_
        obtain ⟨S84, eS84, hf⟩ := sc_sq_s hf
        refine sc_putX5_manyThen C0 hW ni_X5_count_X5 lk_X5_count_207 eS84 dX5_count_84 (fun H locs hW => ?_)
        refine lv_aload_n hx hb dX5_count_87 rfl (lv_at hl 0 rfl) ?_
        refine lv_aload_n hx hb dX5_count_88 rfl (lv_at hl 0 rfl) ?_
        refine sc_getX5 C0 hW ni_X5_count_X5 3 (Nat.le_of_ble_eq_true rfl) lk_X5_count_104 (v := .int (sc_gi S84 1)) rfl dX5_count_89 ?_
        obtain ⟨S92, eS92, hf⟩ := sc_sq_s hf
        refine sc_putX5_pilesThen C0 hW ni_X5_count_X5 lk_X5_count_210 eS92 dX5_count_92 (fun H locs hW => ?_)
        refine lv_aload_n hx hb dX5_count_95 rfl (lv_at hl 0 rfl) ?_
        refine lv_iconst (v := (0 : Int32)) hx hb dX5_count_96 (by decide) ?_
        obtain ⟨S97, eS97, hf⟩ := sc_sq_s hf
        refine sc_putX5_stages C0 hW ni_X5_count_X5 lk_X5_count_124 eS97 dX5_count_97 (fun H locs hW => ?_)
        refine lv_aload_n hx hb dX5_count_100 rfl (lv_at hl 0 rfl) ?_
        refine lv_iconst (v := (0 : Int32)) hx hb dX5_count_101 (by decide) ?_
        obtain ⟨S102, eS102, hf⟩ := sc_sq_s hf
        refine sc_putX5_electedMany C0 hW ni_X5_count_X5 lk_X5_count_135 eS102 dX5_count_102 (fun H locs hW => ?_)
        refine lv_aload_n hx hb dX5_count_105 rfl (lv_at hl 0 rfl) ?_
        refine lv_lconst (v := (0 : Int64)) hx hb dX5_count_106 (by decide) ?_
        obtain ⟨S107, eS107, hf⟩ := sc_sq_s hf
        refine sc_putX5_idleNow C0 hW ni_X5_count_X5 lk_X5_count_153 eS107 dX5_count_107 (fun H locs hW => ?_)
        refine lv_aload_n hx hb dX5_count_110 rfl (lv_at hl 0 rfl) ?_
        refine lv_lconst (v := (0 : Int64)) hx hb dX5_count_111 (by decide) ?_
        obtain ⟨S112, eS112, hf⟩ := sc_sq_s hf
        refine sc_putX5_lostNow C0 hW ni_X5_count_X5 lk_X5_count_156 eS112 dX5_count_112 (fun H locs hW => ?_)
        refine lv_iconst (v := (0 : Int32)) hx hb dX5_count_115 (by decide) ?_
        refine lv_istore (lv' := [(4, .int (0 : Int32)), (0, .ref (h 0)), (1, .int x1), (2, .int x2), (3, .int x3)]) hx hb dX5_count_116 hl (by decide) rfl (fun ls hl => ?_)
        exact wk_X5_count_118 C0 hR  sc_FU _ _ _ _ _ _ hf hW (lv_sub hl [1, 2, 0] rfl)
      · replace hf := sc_ip hc hf
        refine lv_bipush (v := (-3 : Int32)) hx hb dX5_count_66 (by decide) ?_
        exact sc_reti hR hf hW dX5_count_68
    · replace hf := sc_in hc hf
      refine lv_iload_n hx hb dX5_count_36 rfl (lv_at hl 3 rfl) ?_
      refine lv_if_ne (tgt := 50) hx hb dX5_count_37 (by decide) (fun hc => ?_) (fun hc => ?_)
      · replace hf := sc_in hc hf
        refine lv_iconst (v := (1 : Int32)) hx hb dX5_count_50 (by decide) ?_
        refine lv_goto (tgt := 55) hx hb dX5_count_51 (by decide) ?_
        refine lv_istore_n (lv' := [(3, .int (1 : Int32)), (0, .ref (h 0)), (1, .int x1), (2, .int x2), (4, .int x4)]) hx hb dX5_count_55 rfl hl (by decide) rfl (fun ls hl => ?_)
        refine lv_iinc (v := (x4 + 1)) (lv' := [(4, .int (x4 + 1)), (3, .int (1 : Int32)), (0, .ref (h 0)), (1, .int x1), (2, .int x2)]) hx hb dX5_count_56 hl (k := 4) rfl rfl (by decide) rfl (fun ls hl => ?_)
        refine lv_goto (tgt := 27) hx hb dX5_count_59 (by decide) ?_
        exact ih _ _ _ _ _ _ _ _ hf hW (lv_sub hl [2, 3, 4, 1, 0] rfl)
      · replace hf := sc_ip hc hf
        refine lv_aload_n hx hb dX5_count_40 rfl (lv_at hl 0 rfl) ?_
        refine sc_getX5 C0 hW ni_X5_count_X5 1 (Nat.le_of_ble_eq_true rfl) lk_X5_count_7 (v := .ref (h 1)) rfl dX5_count_41 ?_
        refine lv_iload hx hb dX5_count_44 (lv_at hl 4 rfl) ?_
        obtain ⟨hv, hf⟩ := sc_ck_s hf
        refine sc_ldM_1 C0 hW hv dX5_count_46 ?_
        refine lv_if_ne (tgt := 54) hx hb dX5_count_47 (by decide) (fun hc => ?_) (fun hc => ?_)
        · replace hf := sc_in hc hf
          refine lv_iconst (v := (0 : Int32)) hx hb dX5_count_54 (by decide) ?_
          refine lv_istore_n (lv' := [(3, .int (0 : Int32)), (0, .ref (h 0)), (1, .int x1), (2, .int x2), (4, .int x4)]) hx hb dX5_count_55 rfl hl (by decide) rfl (fun ls hl => ?_)
          refine lv_iinc (v := (x4 + 1)) (lv' := [(4, .int (x4 + 1)), (3, .int (0 : Int32)), (0, .ref (h 0)), (1, .int x1), (2, .int x2)]) hx hb dX5_count_56 hl (k := 4) rfl rfl (by decide) rfl (fun ls hl => ?_)
          refine lv_goto (tgt := 27) hx hb dX5_count_59 (by decide) ?_
          exact ih _ _ _ _ _ _ _ _ hf hW (lv_sub hl [2, 3, 4, 1, 0] rfl)
        · replace hf := sc_ip hc hf
          refine lv_iconst (v := (1 : Int32)) hx hb dX5_count_50 (by decide) ?_
          refine lv_goto (tgt := 55) hx hb dX5_count_51 (by decide) ?_
          refine lv_istore_n (lv' := [(3, .int (1 : Int32)), (0, .ref (h 0)), (1, .int x1), (2, .int x2), (4, .int x4)]) hx hb dX5_count_55 rfl hl (by decide) rfl (fun ls hl => ?_)
          refine lv_iinc (v := (x4 + 1)) (lv' := [(4, .int (x4 + 1)), (3, .int (1 : Int32)), (0, .ref (h 0)), (1, .int x1), (2, .int x2)]) hx hb dX5_count_56 hl (k := 4) rfl rfl (by decide) rfl (fun ls hl => ?_)
          refine lv_goto (tgt := 27) hx hb dX5_count_59 (by decide) ?_
          exact ih _ _ _ _ _ _ _ _ hf hW (lv_sub hl [2, 3, 4, 1, 0] rfl)
set_option maxHeartbeats 4000000 in
set_option maxRecDepth 100000 in
theorem wk_X5_count_0 (C0 : CallFix p m c cX5_count 5 s args wsX5_count RX5) {S' : sc_M} {r : Int32} (hR : sc_Ri p l e rm_X5_count s m args below meth c Q cX5_count (sc_EM dC dI h cy) S' r) : ∀ (S : sc_M) (x1 : Int32) (x2 : Int32) (H : Heap) (locs : List Loc) (ls : Array Slot), fn_X5_count S x1 x2 = some (r, S') → sc_W (sc_EM dC dI h cy) s H locs S → lv_has ls 5 [(0, .ref (h 0)), (1, .int x1), (2, .int x2)] → W p l e rm_X5_count s m args below meth c H locs 0 0 Q (F0 m 0 ls []) := by
  obtain ⟨hx, hb, hml, hown, hts⟩ := id C0
  intro S x1 x2 H locs ls hf hW hl
  rw [fn_X5_count] at hf
  refine lv_iload_n hx hb dX5_count_0 rfl (lv_at hl 1 rfl) ?_
  refine lv_iconst (v := (0 : Int32)) hx hb dX5_count_1 (by decide) ?_
  refine lv_iconst (v := (3 : Int32)) hx hb dX5_count_2 (by decide) ?_
  obtain ⟨r3, S3, hc, hf⟩ := sc_cl_s hf
  refine sc_callSi (As := [.int x1, .int (0 : Int32), .int (3 : Int32)]) (rest := []) sc_okM C0 hW (ct_X5_in hc) (va_cwS 3 hts gX5_count_X5_in rfl rfl rfl (by decide +kernel) ⟨Nat.le_of_ble_eq_true rfl, Nat.le_of_ble_eq_true rfl⟩) rfl hl.1 rfl (Nat.le_of_ble_eq_true rfl) dX5_count_3 (fun H locs hW => ?_)
  refine lv_if_eq (tgt := 19) hx hb dX5_count_6 (by decide) (fun hc => ?_) (fun hc => ?_)
  · replace hf := sc_ip hc hf
    refine lv_bipush (v := (-2 : Int32)) hx hb dX5_count_19 (by decide) ?_
    exact sc_reti hR hf hW dX5_count_21
  · replace hf := sc_in hc hf
    refine lv_iload_n hx hb dX5_count_9 rfl (lv_at hl 2 rfl) ?_
    refine lv_iconst (v := (1 : Int32)) hx hb dX5_count_10 (by decide) ?_
    refine lv_bipush (v := (12 : Int32)) hx hb dX5_count_11 (by decide) ?_
    obtain ⟨r13, S13, hc, hf⟩ := sc_cl_s hf
    refine sc_callSi (As := [.int x2, .int (1 : Int32), .int (12 : Int32)]) (rest := []) sc_okM C0 hW (ct_X5_in hc) (va_cwS 3 hts gX5_count_X5_in rfl rfl rfl (by decide +kernel) ⟨Nat.le_of_ble_eq_true rfl, Nat.le_of_ble_eq_true rfl⟩) rfl hl.1 rfl (Nat.le_of_ble_eq_true rfl) dX5_count_13 (fun H locs hW => ?_)
    refine lv_if_ne (tgt := 22) hx hb dX5_count_16 (by decide) (fun hc => ?_) (fun hc => ?_)
    · replace hf := sc_in hc hf
      refine lv_iconst (v := (0 : Int32)) hx hb dX5_count_22 (by decide) ?_
      refine lv_istore_n (lv' := [(3, .int (0 : Int32)), (0, .ref (h 0)), (1, .int x1), (2, .int x2)]) hx hb dX5_count_23 rfl hl (by decide) rfl (fun ls hl => ?_)
      refine lv_iconst (v := (0 : Int32)) hx hb dX5_count_24 (by decide) ?_
      refine lv_istore (lv' := [(4, .int (0 : Int32)), (3, .int (0 : Int32)), (0, .ref (h 0)), (1, .int x1), (2, .int x2)]) hx hb dX5_count_25 hl (by decide) rfl (fun ls hl => ?_)
      exact wk_X5_count_27 C0 hR  sc_FU _ _ _ _ _ _ _ _ hf hW (lv_sub hl [2, 3, 4, 1, 0] rfl)
    · replace hf := sc_ip hc hf
      refine lv_bipush (v := (-2 : Int32)) hx hb dX5_count_19 (by decide) ?_
      exact sc_reti hR hf hW dX5_count_21
set_option maxRecDepth 100000 in
theorem ct_X5_count {S S' : sc_M} {r : Int32} {x1 : Int32} {x2 : Int32} (hf : fn_X5_count S x1 x2 = some (r, S')) : sc_Ci l yX5_count wsX5_count rm_X5_count (sc_EM dC dI h cy) [.ref (h 0), .int x1, .int x2] S S' r := by
  refine sc_ofi (cc := cX5_count) (maxL := 5) .int rfl sc_okM (by decide) rfl (Nat.le_of_ble_eq_true rfl) ?_
  intro p e s m below meth c Q C0 hR hW ls hl
  exact wk_X5_count_0 C0 hR _ _ _ _ _ _ hf hW hl
end

/-! ===== SeatCountsModel.noStage(I)Z ===== -/
abbrev rm_X5_noStage : Room := { frames := 1, cells := 0, slots := 0, locals := 22 }
theorem lk_X5_noStage_124 : Cond.fieldLink RX5 124 "SeatCountsModel" "stages" "I" ∈ wsX5_noStage := by decide +kernel
theorem ni_X5_noStage_X5 : ∀ w ∈ wsX50, w ∈ wsX5_noStage := by decide +kernel
noncomputable def fn_X5_noStage_e (S : sc_M) (x1 : Int32) : Option (Int32 × sc_M) :=
  sc_cl (fn_X5_in S x1 (0 : Int32) ((sc_gi S 6) - (1 : Int32))) (fun r8 S8 => if r8 = 0 then
    some ((1 : Int32), S8)
  else
    some ((0 : Int32), S8))
noncomputable def fn_X5_noStage (S : sc_M) (x1 : Int32) : Option (Int32 × sc_M) := sc_bz (fn_X5_noStage_e S x1)
section
variable {p : Program} {l : Launch} {e : Env} {s : State} {m : MethodId} {args : Array Value} {below : List Frame} {meth : Method} {c : Code} {Q : State → Prop} {dC : Nat → ClassId} {dI : Nat → Nat → Nat} {h : Nat → Nat} {cy : Nat → ClassId}
set_option maxHeartbeats 4000000 in
set_option maxRecDepth 100000 in
theorem wk_X5_noStage_0 (C0 : CallFix p m c cX5_noStage 2 s args wsX5_noStage RX5) {S' : sc_M} {r : Int32} (hR : sc_Ri p l e rm_X5_noStage s m args below meth c Q cX5_noStage (sc_EM dC dI h cy) S' r) : ∀ (S : sc_M) (x1 : Int32) (H : Heap) (locs : List Loc) (ls : Array Slot), fn_X5_noStage_e S x1 = some (r, S') → sc_W (sc_EM dC dI h cy) s H locs S → lv_has ls 2 [(0, .ref (h 0)), (1, .int x1)] → W p l e rm_X5_noStage s m args below meth c H locs 0 0 Q (F0 m 0 ls []) := by
  obtain ⟨hx, hb, hml, hown, hts⟩ := id C0
  intro S x1 H locs ls hf hW hl
  rw [fn_X5_noStage_e] at hf
  refine lv_iload_n hx hb dX5_noStage_0 rfl (lv_at hl 1 rfl) ?_
  refine lv_iconst (v := (0 : Int32)) hx hb dX5_noStage_1 (by decide) ?_
  refine lv_aload_n hx hb dX5_noStage_2 rfl (lv_at hl 0 rfl) ?_
  refine sc_getX5 C0 hW ni_X5_noStage_X5 12 (Nat.le_of_ble_eq_true rfl) lk_X5_noStage_124 (v := .int (sc_gi S 6)) rfl dX5_noStage_3 ?_
  refine lv_iconst (v := (1 : Int32)) hx hb dX5_noStage_6 (by decide) ?_
  refine lv_isub hx hb dX5_noStage_7 ?_
  obtain ⟨r8, S8, hc, hf⟩ := sc_cl_s hf
  refine sc_callSi (As := [.int x1, .int (0 : Int32), .int ((sc_gi S 6) - (1 : Int32))]) (rest := []) sc_okM C0 hW (ct_X5_in hc) (va_cwS 3 hts gX5_noStage_X5_in rfl rfl rfl (by decide +kernel) ⟨Nat.le_of_ble_eq_true rfl, Nat.le_of_ble_eq_true rfl⟩) rfl hl.1 rfl (Nat.le_of_ble_eq_true rfl) dX5_noStage_8 (fun H locs hW => ?_)
  refine lv_if_ne (tgt := 18) hx hb dX5_noStage_11 (by decide) (fun hc => ?_) (fun hc => ?_)
  · replace hf := sc_in hc hf
    refine lv_iconst (v := (0 : Int32)) hx hb dX5_noStage_18 (by decide) ?_
    exact sc_reti hR hf hW dX5_noStage_19
  · replace hf := sc_ip hc hf
    refine lv_iconst (v := (1 : Int32)) hx hb dX5_noStage_14 (by decide) ?_
    refine lv_goto (tgt := 19) hx hb dX5_noStage_15 (by decide) ?_
    exact sc_reti hR hf hW dX5_noStage_19
set_option maxRecDepth 100000 in
theorem ct_X5_noStage {S S' : sc_M} {r : Int32} {x1 : Int32} (hf : fn_X5_noStage S x1 = some (r, S')) : sc_Ci l yX5_noStage wsX5_noStage rm_X5_noStage (sc_EM dC dI h cy) [.ref (h 0), .int x1] S S' r := by
  obtain ⟨hf, h01⟩ := sc_bz_s hf
  refine sc_ofi (cc := cX5_noStage) (maxL := 2) .boolean (sc_nar01 h01) sc_okM (by decide) rfl (Nat.le_of_ble_eq_true rfl) ?_
  intro p e s m below meth c Q C0 hR hW ls hl
  exact wk_X5_noStage_0 C0 hR _ _ _ _ _ hf hW hl
end

/-! ===== SeatCountsModel.noVotes(II)Z ===== -/
abbrev rm_X5_noVotes : Room := { frames := 2, cells := 0, slots := 0, locals := 43 }
theorem lk_X5_noVotes_207 : Cond.fieldLink RX5 207 "SeatCountsModel" "manyThen" "I" ∈ wsX5_noVotes := by decide +kernel
theorem ni_X5_noVotes_X5 : ∀ w ∈ wsX50, w ∈ wsX5_noVotes := by decide +kernel
noncomputable def fn_X5_noVotes_e (S : sc_M) (x1 : Int32) (x2 : Int32) : Option (Int32 × sc_M) :=
  sc_cl (fn_X5_noStage S x1) (fun r2 S2 => if r2 = 0 then
    sc_cl (fn_X5_in S2 x2 (0 : Int32) ((sc_gi S2 4) - (1 : Int32))) (fun r16 S16 => if r16 = 0 then
      some ((1 : Int32), S16)
    else
      some ((0 : Int32), S16))
  else
    some ((1 : Int32), S2))
noncomputable def fn_X5_noVotes (S : sc_M) (x1 : Int32) (x2 : Int32) : Option (Int32 × sc_M) := sc_bz (fn_X5_noVotes_e S x1 x2)
section
variable {p : Program} {l : Launch} {e : Env} {s : State} {m : MethodId} {args : Array Value} {below : List Frame} {meth : Method} {c : Code} {Q : State → Prop} {dC : Nat → ClassId} {dI : Nat → Nat → Nat} {h : Nat → Nat} {cy : Nat → ClassId}
set_option maxHeartbeats 4000000 in
set_option maxRecDepth 100000 in
theorem wk_X5_noVotes_0 (C0 : CallFix p m c cX5_noVotes 3 s args wsX5_noVotes RX5) {S' : sc_M} {r : Int32} (hR : sc_Ri p l e rm_X5_noVotes s m args below meth c Q cX5_noVotes (sc_EM dC dI h cy) S' r) : ∀ (S : sc_M) (x1 : Int32) (x2 : Int32) (H : Heap) (locs : List Loc) (ls : Array Slot), fn_X5_noVotes_e S x1 x2 = some (r, S') → sc_W (sc_EM dC dI h cy) s H locs S → lv_has ls 3 [(0, .ref (h 0)), (1, .int x1), (2, .int x2)] → W p l e rm_X5_noVotes s m args below meth c H locs 0 0 Q (F0 m 0 ls []) := by
  obtain ⟨hx, hb, hml, hown, hts⟩ := id C0
  intro S x1 x2 H locs ls hf hW hl
  rw [fn_X5_noVotes_e] at hf
  refine lv_aload_n hx hb dX5_noVotes_0 rfl (lv_at hl 0 rfl) ?_
  refine lv_iload_n hx hb dX5_noVotes_1 rfl (lv_at hl 1 rfl) ?_
  obtain ⟨r2, S2, hc, hf⟩ := sc_cl_s hf
  refine sc_callVi (As := [.int x1]) (rest := []) (q0 := 0) (ci := 4) sc_okM C0 hW (ct_X5_noStage hc) (cwV 1 hts gX5_noVotes_X5_noStage rfl rfl rfl (by decide +kernel) ⟨Nat.le_of_ble_eq_true rfl, Nat.le_of_ble_eq_true rfl⟩) rfl rfl rfl rfl hl.1 rfl (Nat.le_of_ble_eq_true rfl) dX5_noVotes_2 (fun H locs hW => ?_)
  refine lv_if_ne (tgt := 22) hx hb dX5_noVotes_5 (by decide) (fun hc => ?_) (fun hc => ?_)
  · replace hf := sc_in hc hf
    refine lv_iconst (v := (1 : Int32)) hx hb dX5_noVotes_22 (by decide) ?_
    refine lv_goto (tgt := 27) hx hb dX5_noVotes_23 (by decide) ?_
    exact sc_reti hR hf hW dX5_noVotes_27
  · replace hf := sc_ip hc hf
    refine lv_iload_n hx hb dX5_noVotes_8 rfl (lv_at hl 2 rfl) ?_
    refine lv_iconst (v := (0 : Int32)) hx hb dX5_noVotes_9 (by decide) ?_
    refine lv_aload_n hx hb dX5_noVotes_10 rfl (lv_at hl 0 rfl) ?_
    refine sc_getX5 C0 hW ni_X5_noVotes_X5 10 (Nat.le_of_ble_eq_true rfl) lk_X5_noVotes_207 (v := .int (sc_gi S2 4)) rfl dX5_noVotes_11 ?_
    refine lv_iconst (v := (1 : Int32)) hx hb dX5_noVotes_14 (by decide) ?_
    refine lv_isub hx hb dX5_noVotes_15 ?_
    obtain ⟨r16, S16, hc, hf⟩ := sc_cl_s hf
    refine sc_callSi (As := [.int x2, .int (0 : Int32), .int ((sc_gi S2 4) - (1 : Int32))]) (rest := []) sc_okM C0 hW (ct_X5_in hc) (va_cwS 3 hts gX5_noVotes_X5_in rfl rfl rfl (by decide +kernel) ⟨Nat.le_of_ble_eq_true rfl, Nat.le_of_ble_eq_true rfl⟩) rfl hl.1 rfl (Nat.le_of_ble_eq_true rfl) dX5_noVotes_16 (fun H locs hW => ?_)
    refine lv_if_ne (tgt := 26) hx hb dX5_noVotes_19 (by decide) (fun hc => ?_) (fun hc => ?_)
    · replace hf := sc_in hc hf
      refine lv_iconst (v := (0 : Int32)) hx hb dX5_noVotes_26 (by decide) ?_
      exact sc_reti hR hf hW dX5_noVotes_27
    · replace hf := sc_ip hc hf
      refine lv_iconst (v := (1 : Int32)) hx hb dX5_noVotes_22 (by decide) ?_
      refine lv_goto (tgt := 27) hx hb dX5_noVotes_23 (by decide) ?_
      exact sc_reti hR hf hW dX5_noVotes_27
set_option maxRecDepth 100000 in
theorem ct_X5_noVotes {S S' : sc_M} {r : Int32} {x1 : Int32} {x2 : Int32} (hf : fn_X5_noVotes S x1 x2 = some (r, S')) : sc_Ci l yX5_noVotes wsX5_noVotes rm_X5_noVotes (sc_EM dC dI h cy) [.ref (h 0), .int x1, .int x2] S S' r := by
  obtain ⟨hf, h01⟩ := sc_bz_s hf
  refine sc_ofi (cc := cX5_noVotes) (maxL := 3) .boolean (sc_nar01 h01) sc_okM (by decide) rfl (Nat.le_of_ble_eq_true rfl) ?_
  intro p e s m below meth c Q C0 hR hW ls hl
  exact wk_X5_noVotes_0 C0 hR _ _ _ _ _ _ hf hW hl
end

/-! ===== SeatCountsModel.stage(II)J ===== -/
abbrev rm_X5_stage : Room := { frames := 2, cells := 0, slots := 0, locals := 43 }
theorem lk_X5_stage_222 : Cond.constantLong RX5 222 (-1) ∈ wsX5_stage := by decide +kernel
theorem lk_X5_stage_224 : Cond.constantLong RX5 224 (-2) ∈ wsX5_stage := by decide +kernel
theorem lk_X5_stage_29 : Cond.fieldLink RX5 29 "SeatCountsModel" "kindOf" "[I" ∈ wsX5_stage := by decide +kernel
theorem lk_X5_stage_32 : Cond.fieldLink RX5 32 "SeatCountsModel" "whose" "[I" ∈ wsX5_stage := by decide +kernel
theorem lk_X5_stage_35 : Cond.fieldLink RX5 35 "SeatCountsModel" "idle" "[J" ∈ wsX5_stage := by decide +kernel
theorem lk_X5_stage_39 : Cond.fieldLink RX5 39 "SeatCountsModel" "lost" "[J" ∈ wsX5_stage := by decide +kernel
theorem lk_X5_stage_42 : Cond.fieldLink RX5 42 "SeatCountsModel" "electedBy" "[I" ∈ wsX5_stage := by decide +kernel
theorem lk_X5_stage_45 : Cond.fieldLink RX5 45 "SeatCountsModel" "quotaOf" "[J" ∈ wsX5_stage := by decide +kernel
theorem lk_X5_stage_48 : Cond.fieldLink RX5 48 "SeatCountsModel" "excessOf" "[J" ∈ wsX5_stage := by decide +kernel
theorem ni_X5_stage_X5 : ∀ w ∈ wsX50, w ∈ wsX5_stage := by decide +kernel
noncomputable def fn_X5_stage (S : sc_M) (x1 : Int32) (x2 : Int32) : Option (Int64 × sc_M) :=
  sc_cl (fn_X5_noStage S x1) (fun r2 S2 => if r2 = 0 then
    if x2 = 0 then
      sc_ck x1 90 (some ((sc_ga S2 7 x1.toNatClampNeg).toInt64, S2))
    else if x2 = 1 then
      sc_ck x1 90 (some ((sc_ga S2 8 x1.toNatClampNeg).toInt64, S2))
    else if x2 = 2 then
      sc_ck x1 90 (some ((sc_gb S2 9 x1.toNatClampNeg), S2))
    else if x2 = 3 then
      sc_ck x1 90 (some ((sc_gb S2 10 x1.toNatClampNeg), S2))
    else if x2 = 4 then
      sc_ck x1 90 (some ((sc_ga S2 11 x1.toNatClampNeg).toInt64, S2))
    else if x2 = 5 then
      sc_ck x1 90 (some ((sc_gb S2 12 x1.toNatClampNeg), S2))
    else if x2 = 6 then
      sc_ck x1 90 (some ((sc_gb S2 13 x1.toNatClampNeg), S2))
    else 
      some ((-2 : Int64), S2)
  else
    some ((-1 : Int64), S2))
section
variable {p : Program} {l : Launch} {e : Env} {s : State} {m : MethodId} {args : Array Value} {below : List Frame} {meth : Method} {c : Code} {Q : State → Prop} {dC : Nat → ClassId} {dI : Nat → Nat → Nat} {h : Nat → Nat} {cy : Nat → ClassId}
set_option maxHeartbeats 4000000 in
set_option maxRecDepth 100000 in
theorem wk_X5_stage_0 (C0 : CallFix p m c cX5_stage 3 s args wsX5_stage RX5) {S' : sc_M} {r : Int64} (hR : sc_Rl p l e rm_X5_stage s m args below meth c Q cX5_stage (sc_EM dC dI h cy) S' r) : ∀ (S : sc_M) (x1 : Int32) (x2 : Int32) (H : Heap) (locs : List Loc) (ls : Array Slot), fn_X5_stage S x1 x2 = some (r, S') → sc_W (sc_EM dC dI h cy) s H locs S → lv_has ls 3 [(0, .ref (h 0)), (1, .int x1), (2, .int x2)] → W p l e rm_X5_stage s m args below meth c H locs 0 0 Q (F0 m 0 ls []) := by
  obtain ⟨hx, hb, hml, hown, hts⟩ := id C0
  intro S x1 x2 H locs ls hf hW hl
  rw [fn_X5_stage] at hf
  refine lv_aload_n hx hb dX5_stage_0 rfl (lv_at hl 0 rfl) ?_
  refine lv_iload_n hx hb dX5_stage_1 rfl (lv_at hl 1 rfl) ?_
  obtain ⟨r2, S2, hc, hf⟩ := sc_cl_s hf
  refine sc_callVi (As := [.int x1]) (rest := []) (q0 := 0) (ci := 4) sc_okM C0 hW (ct_X5_noStage hc) (cwV 1 hts gX5_stage_X5_noStage rfl rfl rfl (by decide +kernel) ⟨Nat.le_of_ble_eq_true rfl, Nat.le_of_ble_eq_true rfl⟩) rfl rfl rfl rfl hl.1 rfl (Nat.le_of_ble_eq_true rfl) dX5_stage_2 (fun H locs hW => ?_)
  refine lv_if_eq (tgt := 12) hx hb dX5_stage_5 (by decide) (fun hc => ?_) (fun hc => ?_)
  · replace hf := sc_ip hc hf
    refine lv_iload_n hx hb dX5_stage_12 rfl (lv_at hl 2 rfl) ?_
    rcases Decidable.em (x2 = 0) with hc0 | hc0
    · replace hf := sc_ip hc0 hf
      refine lv_tableIn (tgt := 56) hx hb dX5_stage_13 (by rw [hc0]; decide) (by rw [hc0]; decide) (by rw [hc0]; rfl) (by decide) ?_
      refine lv_aload_n hx hb dX5_stage_56 rfl (lv_at hl 0 rfl) ?_
      refine sc_getX5 C0 hW ni_X5_stage_X5 13 (Nat.le_of_ble_eq_true rfl) lk_X5_stage_29 (v := .ref (h 7)) rfl dX5_stage_57 ?_
      refine lv_iload_n hx hb dX5_stage_60 rfl (lv_at hl 1 rfl) ?_
      obtain ⟨hv, hf⟩ := sc_ck_s hf
      refine sc_ldM_7 C0 hW hv dX5_stage_61 ?_
      refine lv_i2l hx hb dX5_stage_62 rfl ?_
      exact sc_retl hR hf hW dX5_stage_63
    replace hf := sc_in hc0 hf
    rcases Decidable.em (x2 = 1) with hc1 | hc1
    · replace hf := sc_ip hc1 hf
      refine lv_tableIn (tgt := 64) hx hb dX5_stage_13 (by rw [hc1]; decide) (by rw [hc1]; decide) (by rw [hc1]; rfl) (by decide) ?_
      refine lv_aload_n hx hb dX5_stage_64 rfl (lv_at hl 0 rfl) ?_
      refine sc_getX5 C0 hW ni_X5_stage_X5 14 (Nat.le_of_ble_eq_true rfl) lk_X5_stage_32 (v := .ref (h 8)) rfl dX5_stage_65 ?_
      refine lv_iload_n hx hb dX5_stage_68 rfl (lv_at hl 1 rfl) ?_
      obtain ⟨hv, hf⟩ := sc_ck_s hf
      refine sc_ldM_8 C0 hW hv dX5_stage_69 ?_
      refine lv_i2l hx hb dX5_stage_70 rfl ?_
      exact sc_retl hR hf hW dX5_stage_71
    replace hf := sc_in hc1 hf
    rcases Decidable.em (x2 = 2) with hc2 | hc2
    · replace hf := sc_ip hc2 hf
      refine lv_tableIn (tgt := 72) hx hb dX5_stage_13 (by rw [hc2]; decide) (by rw [hc2]; decide) (by rw [hc2]; rfl) (by decide) ?_
      refine lv_aload_n hx hb dX5_stage_72 rfl (lv_at hl 0 rfl) ?_
      refine sc_getX5 C0 hW ni_X5_stage_X5 15 (Nat.le_of_ble_eq_true rfl) lk_X5_stage_35 (v := .ref (h 9)) rfl dX5_stage_73 ?_
      refine lv_iload_n hx hb dX5_stage_76 rfl (lv_at hl 1 rfl) ?_
      obtain ⟨hv, hf⟩ := sc_ck_s hf
      refine sc_ldM_9 C0 hW hv dX5_stage_77 ?_
      exact sc_retl hR hf hW dX5_stage_78
    replace hf := sc_in hc2 hf
    rcases Decidable.em (x2 = 3) with hc3 | hc3
    · replace hf := sc_ip hc3 hf
      refine lv_tableIn (tgt := 79) hx hb dX5_stage_13 (by rw [hc3]; decide) (by rw [hc3]; decide) (by rw [hc3]; rfl) (by decide) ?_
      refine lv_aload_n hx hb dX5_stage_79 rfl (lv_at hl 0 rfl) ?_
      refine sc_getX5 C0 hW ni_X5_stage_X5 16 (Nat.le_of_ble_eq_true rfl) lk_X5_stage_39 (v := .ref (h 10)) rfl dX5_stage_80 ?_
      refine lv_iload_n hx hb dX5_stage_83 rfl (lv_at hl 1 rfl) ?_
      obtain ⟨hv, hf⟩ := sc_ck_s hf
      refine sc_ldM_10 C0 hW hv dX5_stage_84 ?_
      exact sc_retl hR hf hW dX5_stage_85
    replace hf := sc_in hc3 hf
    rcases Decidable.em (x2 = 4) with hc4 | hc4
    · replace hf := sc_ip hc4 hf
      refine lv_tableIn (tgt := 86) hx hb dX5_stage_13 (by rw [hc4]; decide) (by rw [hc4]; decide) (by rw [hc4]; rfl) (by decide) ?_
      refine lv_aload_n hx hb dX5_stage_86 rfl (lv_at hl 0 rfl) ?_
      refine sc_getX5 C0 hW ni_X5_stage_X5 17 (Nat.le_of_ble_eq_true rfl) lk_X5_stage_42 (v := .ref (h 11)) rfl dX5_stage_87 ?_
      refine lv_iload_n hx hb dX5_stage_90 rfl (lv_at hl 1 rfl) ?_
      obtain ⟨hv, hf⟩ := sc_ck_s hf
      refine sc_ldM_11 C0 hW hv dX5_stage_91 ?_
      refine lv_i2l hx hb dX5_stage_92 rfl ?_
      exact sc_retl hR hf hW dX5_stage_93
    replace hf := sc_in hc4 hf
    rcases Decidable.em (x2 = 5) with hc5 | hc5
    · replace hf := sc_ip hc5 hf
      refine lv_tableIn (tgt := 94) hx hb dX5_stage_13 (by rw [hc5]; decide) (by rw [hc5]; decide) (by rw [hc5]; rfl) (by decide) ?_
      refine lv_aload_n hx hb dX5_stage_94 rfl (lv_at hl 0 rfl) ?_
      refine sc_getX5 C0 hW ni_X5_stage_X5 18 (Nat.le_of_ble_eq_true rfl) lk_X5_stage_45 (v := .ref (h 12)) rfl dX5_stage_95 ?_
      refine lv_iload_n hx hb dX5_stage_98 rfl (lv_at hl 1 rfl) ?_
      obtain ⟨hv, hf⟩ := sc_ck_s hf
      refine sc_ldM_12 C0 hW hv dX5_stage_99 ?_
      exact sc_retl hR hf hW dX5_stage_100
    replace hf := sc_in hc5 hf
    rcases Decidable.em (x2 = 6) with hc6 | hc6
    · replace hf := sc_ip hc6 hf
      refine lv_tableIn (tgt := 101) hx hb dX5_stage_13 (by rw [hc6]; decide) (by rw [hc6]; decide) (by rw [hc6]; rfl) (by decide) ?_
      refine lv_aload_n hx hb dX5_stage_101 rfl (lv_at hl 0 rfl) ?_
      refine sc_getX5 C0 hW ni_X5_stage_X5 19 (Nat.le_of_ble_eq_true rfl) lk_X5_stage_48 (v := .ref (h 13)) rfl dX5_stage_102 ?_
      refine lv_iload_n hx hb dX5_stage_105 rfl (lv_at hl 1 rfl) ?_
      obtain ⟨hv, hf⟩ := sc_ck_s hf
      refine sc_ldM_13 C0 hW hv dX5_stage_106 ?_
      exact sc_retl hR hf hW dX5_stage_107
    replace hf := sc_in hc6 hf
    refine lv_tableOut (tgt := 108) hx hb dX5_stage_13 (sc_tbo 6 (by decide) (fun k hk => match k, hk with | 0, _ => hc0 | 1, _ => hc1 | 2, _ => hc2 | 3, _ => hc3 | 4, _ => hc4 | 5, _ => hc5 | 6, _ => hc6 | k + 7, hk => absurd hk (by omega))) (by decide) ?_
    refine lv_ldc2 (v := (-2 : Int64)) hx hb hown (hts _ lk_X5_stage_224) dX5_stage_108 ?_
    exact sc_retl hR hf hW dX5_stage_111
  · replace hf := sc_in hc hf
    refine lv_ldc2 (v := (-1 : Int64)) hx hb hown (hts _ lk_X5_stage_222) dX5_stage_8 ?_
    exact sc_retl hR hf hW dX5_stage_11
set_option maxRecDepth 100000 in
theorem ct_X5_stage {S S' : sc_M} {r : Int64} {x1 : Int32} {x2 : Int32} (hf : fn_X5_stage S x1 x2 = some (r, S')) : sc_Cl l yX5_stage wsX5_stage rm_X5_stage (sc_EM dC dI h cy) [.ref (h 0), .int x1, .int x2] S S' r := by
  refine sc_ofl (cc := cX5_stage) (maxL := 3) sc_okM (by decide) rfl (Nat.le_of_ble_eq_true rfl) ?_
  intro p e s m below meth c Q C0 hR hW ls hl
  exact wk_X5_stage_0 C0 hR _ _ _ _ _ _ hf hW hl
end

/-! ===== SeatCountsModel.votes(II)J ===== -/
abbrev rm_X5_votes : Room := { frames := 3, cells := 0, slots := 0, locals := 65 }
theorem lk_X5_votes_222 : Cond.constantLong RX5 222 (-1) ∈ wsX5_votes := by decide +kernel
theorem lk_X5_votes_51 : Cond.fieldLink RX5 51 "SeatCountsModel" "votesAt" "[J" ∈ wsX5_votes := by decide +kernel
theorem ni_X5_votes_X5 : ∀ w ∈ wsX50, w ∈ wsX5_votes := by decide +kernel
noncomputable def fn_X5_votes (S : sc_M) (x1 : Int32) (x2 : Int32) : Option (Int64 × sc_M) :=
  sc_cl (fn_X5_noVotes S x1 x2) (fun r3 S3 => if r3 = 0 then
    sc_ck (((12 : Int32) * x1) + x2) 1080 (some ((sc_gb S3 14 (((12 : Int32) * x1) + x2).toNatClampNeg), S3))
  else
    some ((-1 : Int64), S3))
section
variable {p : Program} {l : Launch} {e : Env} {s : State} {m : MethodId} {args : Array Value} {below : List Frame} {meth : Method} {c : Code} {Q : State → Prop} {dC : Nat → ClassId} {dI : Nat → Nat → Nat} {h : Nat → Nat} {cy : Nat → ClassId}
set_option maxHeartbeats 4000000 in
set_option maxRecDepth 100000 in
theorem wk_X5_votes_0 (C0 : CallFix p m c cX5_votes 3 s args wsX5_votes RX5) {S' : sc_M} {r : Int64} (hR : sc_Rl p l e rm_X5_votes s m args below meth c Q cX5_votes (sc_EM dC dI h cy) S' r) : ∀ (S : sc_M) (x1 : Int32) (x2 : Int32) (H : Heap) (locs : List Loc) (ls : Array Slot), fn_X5_votes S x1 x2 = some (r, S') → sc_W (sc_EM dC dI h cy) s H locs S → lv_has ls 3 [(0, .ref (h 0)), (1, .int x1), (2, .int x2)] → W p l e rm_X5_votes s m args below meth c H locs 0 0 Q (F0 m 0 ls []) := by
  obtain ⟨hx, hb, hml, hown, hts⟩ := id C0
  intro S x1 x2 H locs ls hf hW hl
  rw [fn_X5_votes] at hf
  refine lv_aload_n hx hb dX5_votes_0 rfl (lv_at hl 0 rfl) ?_
  refine lv_iload_n hx hb dX5_votes_1 rfl (lv_at hl 1 rfl) ?_
  refine lv_iload_n hx hb dX5_votes_2 rfl (lv_at hl 2 rfl) ?_
  obtain ⟨r3, S3, hc, hf⟩ := sc_cl_s hf
  refine sc_callVi (As := [.int x1, .int x2]) (rest := []) (q0 := 0) (ci := 4) sc_okM C0 hW (ct_X5_noVotes hc) (cwV 2 hts gX5_votes_X5_noVotes rfl rfl rfl (by decide +kernel) ⟨Nat.le_of_ble_eq_true rfl, Nat.le_of_ble_eq_true rfl⟩) rfl rfl rfl rfl hl.1 rfl (Nat.le_of_ble_eq_true rfl) dX5_votes_3 (fun H locs hW => ?_)
  refine lv_if_eq (tgt := 15) hx hb dX5_votes_6 (by decide) (fun hc => ?_) (fun hc => ?_)
  · replace hf := sc_ip hc hf
    refine lv_aload_n hx hb dX5_votes_15 rfl (lv_at hl 0 rfl) ?_
    refine sc_getX5 C0 hW ni_X5_votes_X5 20 (Nat.le_of_ble_eq_true rfl) lk_X5_votes_51 (v := .ref (h 14)) rfl dX5_votes_16 ?_
    refine lv_bipush (v := (12 : Int32)) hx hb dX5_votes_19 (by decide) ?_
    refine lv_iload_n hx hb dX5_votes_21 rfl (lv_at hl 1 rfl) ?_
    refine lv_imul hx hb dX5_votes_22 ?_
    refine lv_iload_n hx hb dX5_votes_23 rfl (lv_at hl 2 rfl) ?_
    refine lv_iadd hx hb dX5_votes_24 ?_
    obtain ⟨hv, hf⟩ := sc_ck_s hf
    refine sc_ldM_14 C0 hW hv dX5_votes_25 ?_
    exact sc_retl hR hf hW dX5_votes_26
  · replace hf := sc_in hc hf
    refine lv_ldc2 (v := (-1 : Int64)) hx hb hown (hts _ lk_X5_votes_222) dX5_votes_9 ?_
    refine lv_goto (tgt := 26) hx hb dX5_votes_12 (by decide) ?_
    exact sc_retl hR hf hW dX5_votes_26
set_option maxRecDepth 100000 in
theorem ct_X5_votes {S S' : sc_M} {r : Int64} {x1 : Int32} {x2 : Int32} (hf : fn_X5_votes S x1 x2 = some (r, S')) : sc_Cl l yX5_votes wsX5_votes rm_X5_votes (sc_EM dC dI h cy) [.ref (h 0), .int x1, .int x2] S S' r := by
  refine sc_ofl (cc := cX5_votes) (maxL := 3) sc_okM (by decide) rfl (Nat.le_of_ble_eq_true rfl) ?_
  intro p e s m below meth c Q C0 hR hW ls hl
  exact wk_X5_votes_0 C0 hR _ _ _ _ _ _ hf hW hl
end

/-! ===== SeatCountsModel.status(II)I ===== -/
abbrev rm_X5_status : Room := { frames := 3, cells := 0, slots := 0, locals := 65 }
theorem lk_X5_status_54 : Cond.fieldLink RX5 54 "SeatCountsModel" "statusAt" "[I" ∈ wsX5_status := by decide +kernel
theorem ni_X5_status_X5 : ∀ w ∈ wsX50, w ∈ wsX5_status := by decide +kernel
noncomputable def fn_X5_status (S : sc_M) (x1 : Int32) (x2 : Int32) : Option (Int32 × sc_M) :=
  sc_cl (fn_X5_noVotes S x1 x2) (fun r3 S3 => if r3 = 0 then
    sc_ck (((12 : Int32) * x1) + x2) 1080 (some ((sc_ga S3 15 (((12 : Int32) * x1) + x2).toNatClampNeg), S3))
  else
    some ((-1 : Int32), S3))
section
variable {p : Program} {l : Launch} {e : Env} {s : State} {m : MethodId} {args : Array Value} {below : List Frame} {meth : Method} {c : Code} {Q : State → Prop} {dC : Nat → ClassId} {dI : Nat → Nat → Nat} {h : Nat → Nat} {cy : Nat → ClassId}
set_option maxHeartbeats 4000000 in
set_option maxRecDepth 100000 in
theorem wk_X5_status_0 (C0 : CallFix p m c cX5_status 3 s args wsX5_status RX5) {S' : sc_M} {r : Int32} (hR : sc_Ri p l e rm_X5_status s m args below meth c Q cX5_status (sc_EM dC dI h cy) S' r) : ∀ (S : sc_M) (x1 : Int32) (x2 : Int32) (H : Heap) (locs : List Loc) (ls : Array Slot), fn_X5_status S x1 x2 = some (r, S') → sc_W (sc_EM dC dI h cy) s H locs S → lv_has ls 3 [(0, .ref (h 0)), (1, .int x1), (2, .int x2)] → W p l e rm_X5_status s m args below meth c H locs 0 0 Q (F0 m 0 ls []) := by
  obtain ⟨hx, hb, hml, hown, hts⟩ := id C0
  intro S x1 x2 H locs ls hf hW hl
  rw [fn_X5_status] at hf
  refine lv_aload_n hx hb dX5_status_0 rfl (lv_at hl 0 rfl) ?_
  refine lv_iload_n hx hb dX5_status_1 rfl (lv_at hl 1 rfl) ?_
  refine lv_iload_n hx hb dX5_status_2 rfl (lv_at hl 2 rfl) ?_
  obtain ⟨r3, S3, hc, hf⟩ := sc_cl_s hf
  refine sc_callVi (As := [.int x1, .int x2]) (rest := []) (q0 := 0) (ci := 4) sc_okM C0 hW (ct_X5_noVotes hc) (cwV 2 hts gX5_status_X5_noVotes rfl rfl rfl (by decide +kernel) ⟨Nat.le_of_ble_eq_true rfl, Nat.le_of_ble_eq_true rfl⟩) rfl rfl rfl rfl hl.1 rfl (Nat.le_of_ble_eq_true rfl) dX5_status_3 (fun H locs hW => ?_)
  refine lv_if_eq (tgt := 13) hx hb dX5_status_6 (by decide) (fun hc => ?_) (fun hc => ?_)
  · replace hf := sc_ip hc hf
    refine lv_aload_n hx hb dX5_status_13 rfl (lv_at hl 0 rfl) ?_
    refine sc_getX5 C0 hW ni_X5_status_X5 21 (Nat.le_of_ble_eq_true rfl) lk_X5_status_54 (v := .ref (h 15)) rfl dX5_status_14 ?_
    refine lv_bipush (v := (12 : Int32)) hx hb dX5_status_17 (by decide) ?_
    refine lv_iload_n hx hb dX5_status_19 rfl (lv_at hl 1 rfl) ?_
    refine lv_imul hx hb dX5_status_20 ?_
    refine lv_iload_n hx hb dX5_status_21 rfl (lv_at hl 2 rfl) ?_
    refine lv_iadd hx hb dX5_status_22 ?_
    obtain ⟨hv, hf⟩ := sc_ck_s hf
    refine sc_ldM_15 C0 hW hv dX5_status_23 ?_
    exact sc_reti hR hf hW dX5_status_24
  · replace hf := sc_in hc hf
    refine lv_iconst (v := (-1 : Int32)) hx hb dX5_status_9 (by decide) ?_
    refine lv_goto (tgt := 24) hx hb dX5_status_10 (by decide) ?_
    exact sc_reti hR hf hW dX5_status_24
set_option maxRecDepth 100000 in
theorem ct_X5_status {S S' : sc_M} {r : Int32} {x1 : Int32} {x2 : Int32} (hf : fn_X5_status S x1 x2 = some (r, S')) : sc_Ci l yX5_status wsX5_status rm_X5_status (sc_EM dC dI h cy) [.ref (h 0), .int x1, .int x2] S S' r := by
  refine sc_ofi (cc := cX5_status) (maxL := 3) .int rfl sc_okM (by decide) rfl (Nat.le_of_ble_eq_true rfl) ?_
  intro p e s m below meth c Q C0 hR hW ls hl
  exact wk_X5_status_0 C0 hR _ _ _ _ _ _ hf hW hl
end

/-! ===== SeatCountsModel.elected(I)I ===== -/
abbrev rm_X5_elected : Room := { frames := 1, cells := 0, slots := 0, locals := 22 }
theorem lk_X5_elected_135 : Cond.fieldLink RX5 135 "SeatCountsModel" "electedMany" "I" ∈ wsX5_elected := by decide +kernel
theorem lk_X5_elected_69 : Cond.fieldLink RX5 69 "SeatCountsModel" "order" "[I" ∈ wsX5_elected := by decide +kernel
theorem ni_X5_elected_X5 : ∀ w ∈ wsX50, w ∈ wsX5_elected := by decide +kernel
noncomputable def fn_X5_elected (S : sc_M) (x1 : Int32) : Option (Int32 × sc_M) :=
  sc_cl (fn_X5_in S x1 (0 : Int32) ((sc_gi S 7) - (1 : Int32))) (fun r8 S8 => if r8 = 0 then
    some ((-9 : Int32), S8)
  else
    sc_ck x1 12 (some ((sc_ga S8 20 x1.toNatClampNeg), S8)))
section
variable {p : Program} {l : Launch} {e : Env} {s : State} {m : MethodId} {args : Array Value} {below : List Frame} {meth : Method} {c : Code} {Q : State → Prop} {dC : Nat → ClassId} {dI : Nat → Nat → Nat} {h : Nat → Nat} {cy : Nat → ClassId}
set_option maxHeartbeats 4000000 in
set_option maxRecDepth 100000 in
theorem wk_X5_elected_0 (C0 : CallFix p m c cX5_elected 2 s args wsX5_elected RX5) {S' : sc_M} {r : Int32} (hR : sc_Ri p l e rm_X5_elected s m args below meth c Q cX5_elected (sc_EM dC dI h cy) S' r) : ∀ (S : sc_M) (x1 : Int32) (H : Heap) (locs : List Loc) (ls : Array Slot), fn_X5_elected S x1 = some (r, S') → sc_W (sc_EM dC dI h cy) s H locs S → lv_has ls 2 [(0, .ref (h 0)), (1, .int x1)] → W p l e rm_X5_elected s m args below meth c H locs 0 0 Q (F0 m 0 ls []) := by
  obtain ⟨hx, hb, hml, hown, hts⟩ := id C0
  intro S x1 H locs ls hf hW hl
  rw [fn_X5_elected] at hf
  refine lv_iload_n hx hb dX5_elected_0 rfl (lv_at hl 1 rfl) ?_
  refine lv_iconst (v := (0 : Int32)) hx hb dX5_elected_1 (by decide) ?_
  refine lv_aload_n hx hb dX5_elected_2 rfl (lv_at hl 0 rfl) ?_
  refine sc_getX5 C0 hW ni_X5_elected_X5 27 (Nat.le_of_ble_eq_true rfl) lk_X5_elected_135 (v := .int (sc_gi S 7)) rfl dX5_elected_3 ?_
  refine lv_iconst (v := (1 : Int32)) hx hb dX5_elected_6 (by decide) ?_
  refine lv_isub hx hb dX5_elected_7 ?_
  obtain ⟨r8, S8, hc, hf⟩ := sc_cl_s hf
  refine sc_callSi (As := [.int x1, .int (0 : Int32), .int ((sc_gi S 7) - (1 : Int32))]) (rest := []) sc_okM C0 hW (ct_X5_in hc) (va_cwS 3 hts gX5_elected_X5_in rfl rfl rfl (by decide +kernel) ⟨Nat.le_of_ble_eq_true rfl, Nat.le_of_ble_eq_true rfl⟩) rfl hl.1 rfl (Nat.le_of_ble_eq_true rfl) dX5_elected_8 (fun H locs hW => ?_)
  refine lv_if_eq (tgt := 23) hx hb dX5_elected_11 (by decide) (fun hc => ?_) (fun hc => ?_)
  · replace hf := sc_ip hc hf
    refine lv_bipush (v := (-9 : Int32)) hx hb dX5_elected_23 (by decide) ?_
    exact sc_reti hR hf hW dX5_elected_25
  · replace hf := sc_in hc hf
    refine lv_aload_n hx hb dX5_elected_14 rfl (lv_at hl 0 rfl) ?_
    refine sc_getX5 C0 hW ni_X5_elected_X5 26 (Nat.le_of_ble_eq_true rfl) lk_X5_elected_69 (v := .ref (h 20)) rfl dX5_elected_15 ?_
    refine lv_iload_n hx hb dX5_elected_18 rfl (lv_at hl 1 rfl) ?_
    obtain ⟨hv, hf⟩ := sc_ck_s hf
    refine sc_ldM_20 C0 hW hv dX5_elected_19 ?_
    refine lv_goto (tgt := 25) hx hb dX5_elected_20 (by decide) ?_
    exact sc_reti hR hf hW dX5_elected_25
set_option maxRecDepth 100000 in
theorem ct_X5_elected {S S' : sc_M} {r : Int32} {x1 : Int32} (hf : fn_X5_elected S x1 = some (r, S')) : sc_Ci l yX5_elected wsX5_elected rm_X5_elected (sc_EM dC dI h cy) [.ref (h 0), .int x1] S S' r := by
  refine sc_ofi (cc := cX5_elected) (maxL := 2) .int rfl sc_okM (by decide) rfl (Nat.le_of_ble_eq_true rfl) ?_
  intro p e s m below meth c Q C0 hR hW ls hl
  exact wk_X5_elected_0 C0 hR _ _ _ _ _ hf hW hl
end

/-! ===== SeatCountsModel.keep(II)I ===== -/
abbrev rm_X5_keep : Room := { frames := 3, cells := 0, slots := 0, locals := 65 }
theorem lk_X5_keep_54 : Cond.fieldLink RX5 54 "SeatCountsModel" "statusAt" "[I" ∈ wsX5_keep := by decide +kernel
theorem lk_X5_keep_57 : Cond.fieldLink RX5 57 "SeatCountsModel" "keepAt" "[J" ∈ wsX5_keep := by decide +kernel
theorem lk_X5_keep_97 : Cond.fieldLink RX5 97 "SeatCountsModel" "ruleOf" "I" ∈ wsX5_keep := by decide +kernel
theorem ni_X5_keep_X5 : ∀ w ∈ wsX50, w ∈ wsX5_keep := by decide +kernel
noncomputable def fn_X5_keep (S : sc_M) (x1 : Int32) (x2 : Int32) : Option (Int32 × sc_M) :=
  sc_cl (fn_X5_noVotes S x1 x2) (fun r3 S3 => if r3 = 0 then
    if (sc_gi S3 2) = (3 : Int32) then
      sc_ck (((12 : Int32) * x1) + x2) 1080 (if (sc_ga S3 15 (((12 : Int32) * x1) + x2).toNatClampNeg) = (3 : Int32) then
        some ((-3 : Int32), S3)
      else
        sc_ck (((12 : Int32) * x1) + x2) 1080 (some ((sc_gb S3 16 (((12 : Int32) * x1) + x2).toNatClampNeg).toInt32, S3)))
    else
      some ((-3 : Int32), S3)
  else
    some ((-1 : Int32), S3))
section
variable {p : Program} {l : Launch} {e : Env} {s : State} {m : MethodId} {args : Array Value} {below : List Frame} {meth : Method} {c : Code} {Q : State → Prop} {dC : Nat → ClassId} {dI : Nat → Nat → Nat} {h : Nat → Nat} {cy : Nat → ClassId}
set_option maxHeartbeats 4000000 in
set_option maxRecDepth 100000 in
theorem wk_X5_keep_0 (C0 : CallFix p m c cX5_keep 3 s args wsX5_keep RX5) {S' : sc_M} {r : Int32} (hR : sc_Ri p l e rm_X5_keep s m args below meth c Q cX5_keep (sc_EM dC dI h cy) S' r) : ∀ (S : sc_M) (x1 : Int32) (x2 : Int32) (H : Heap) (locs : List Loc) (ls : Array Slot), fn_X5_keep S x1 x2 = some (r, S') → sc_W (sc_EM dC dI h cy) s H locs S → lv_has ls 3 [(0, .ref (h 0)), (1, .int x1), (2, .int x2)] → W p l e rm_X5_keep s m args below meth c H locs 0 0 Q (F0 m 0 ls []) := by
  obtain ⟨hx, hb, hml, hown, hts⟩ := id C0
  intro S x1 x2 H locs ls hf hW hl
  rw [fn_X5_keep] at hf
  refine lv_aload_n hx hb dX5_keep_0 rfl (lv_at hl 0 rfl) ?_
  refine lv_iload_n hx hb dX5_keep_1 rfl (lv_at hl 1 rfl) ?_
  refine lv_iload_n hx hb dX5_keep_2 rfl (lv_at hl 2 rfl) ?_
  obtain ⟨r3, S3, hc, hf⟩ := sc_cl_s hf
  refine sc_callVi (As := [.int x1, .int x2]) (rest := []) (q0 := 0) (ci := 4) sc_okM C0 hW (ct_X5_noVotes hc) (cwV 2 hts gX5_keep_X5_noVotes rfl rfl rfl (by decide +kernel) ⟨Nat.le_of_ble_eq_true rfl, Nat.le_of_ble_eq_true rfl⟩) rfl rfl rfl rfl hl.1 rfl (Nat.le_of_ble_eq_true rfl) dX5_keep_3 (fun H locs hW => ?_)
  refine lv_if_eq (tgt := 11) hx hb dX5_keep_6 (by decide) (fun hc => ?_) (fun hc => ?_)
  · replace hf := sc_ip hc hf
    refine lv_aload_n hx hb dX5_keep_11 rfl (lv_at hl 0 rfl) ?_
    refine sc_getX5 C0 hW ni_X5_keep_X5 8 (Nat.le_of_ble_eq_true rfl) lk_X5_keep_97 (v := .int (sc_gi S3 2)) rfl dX5_keep_12 ?_
    refine lv_iconst (v := (3 : Int32)) hx hb dX5_keep_15 (by decide) ?_
    refine lv_icmp_ne (tgt := 34) hx hb dX5_keep_16 (by decide) (fun hc => ?_) (fun hc => ?_)
    · replace hf := sc_in hc hf
      refine lv_bipush (v := (-3 : Int32)) hx hb dX5_keep_34 (by decide) ?_
      refine lv_goto (tgt := 51) hx hb dX5_keep_36 (by decide) ?_
      exact sc_reti hR hf hW dX5_keep_51
    · replace hf := sc_ip hc hf
      refine lv_aload_n hx hb dX5_keep_19 rfl (lv_at hl 0 rfl) ?_
      refine sc_getX5 C0 hW ni_X5_keep_X5 21 (Nat.le_of_ble_eq_true rfl) lk_X5_keep_54 (v := .ref (h 15)) rfl dX5_keep_20 ?_
      refine lv_bipush (v := (12 : Int32)) hx hb dX5_keep_23 (by decide) ?_
      refine lv_iload_n hx hb dX5_keep_25 rfl (lv_at hl 1 rfl) ?_
      refine lv_imul hx hb dX5_keep_26 ?_
      refine lv_iload_n hx hb dX5_keep_27 rfl (lv_at hl 2 rfl) ?_
      refine lv_iadd hx hb dX5_keep_28 ?_
      obtain ⟨hv, hf⟩ := sc_ck_s hf
      refine sc_ldM_15 C0 hW hv dX5_keep_29 ?_
      refine lv_iconst (v := (3 : Int32)) hx hb dX5_keep_30 (by decide) ?_
      refine lv_icmp_ne (tgt := 39) hx hb dX5_keep_31 (by decide) (fun hc => ?_) (fun hc => ?_)
      · replace hf := sc_in hc hf
        refine lv_aload_n hx hb dX5_keep_39 rfl (lv_at hl 0 rfl) ?_
        refine sc_getX5 C0 hW ni_X5_keep_X5 22 (Nat.le_of_ble_eq_true rfl) lk_X5_keep_57 (v := .ref (h 16)) rfl dX5_keep_40 ?_
        refine lv_bipush (v := (12 : Int32)) hx hb dX5_keep_43 (by decide) ?_
        refine lv_iload_n hx hb dX5_keep_45 rfl (lv_at hl 1 rfl) ?_
        refine lv_imul hx hb dX5_keep_46 ?_
        refine lv_iload_n hx hb dX5_keep_47 rfl (lv_at hl 2 rfl) ?_
        refine lv_iadd hx hb dX5_keep_48 ?_
        obtain ⟨hv, hf⟩ := sc_ck_s hf
        refine sc_ldM_16 C0 hW hv dX5_keep_49 ?_
        refine lv_l2i hx hb dX5_keep_50 rfl ?_
        exact sc_reti hR hf hW dX5_keep_51
      · replace hf := sc_ip hc hf
        refine lv_bipush (v := (-3 : Int32)) hx hb dX5_keep_34 (by decide) ?_
        refine lv_goto (tgt := 51) hx hb dX5_keep_36 (by decide) ?_
        exact sc_reti hR hf hW dX5_keep_51
  · replace hf := sc_in hc hf
    refine lv_iconst (v := (-1 : Int32)) hx hb dX5_keep_9 (by decide) ?_
    exact sc_reti hR hf hW dX5_keep_10
set_option maxRecDepth 100000 in
theorem ct_X5_keep {S S' : sc_M} {r : Int32} {x1 : Int32} {x2 : Int32} (hf : fn_X5_keep S x1 x2 = some (r, S')) : sc_Ci l yX5_keep wsX5_keep rm_X5_keep (sc_EM dC dI h cy) [.ref (h 0), .int x1, .int x2] S S' r := by
  refine sc_ofi (cc := cX5_keep) (maxL := 3) .int rfl sc_okM (by decide) rfl (Nat.le_of_ble_eq_true rfl) ?_
  intro p e s m below meth c Q C0 hR hW ls hl
  exact wk_X5_keep_0 C0 hR _ _ _ _ _ _ hf hW hl
end

/-! ===== SeatCountsModel.lies(III)I ===== -/
abbrev rm_X5_lies : Room := { frames := 2, cells := 0, slots := 0, locals := 43 }
theorem lk_X5_lies_210 : Cond.fieldLink RX5 210 "SeatCountsModel" "pilesThen" "I" ∈ wsX5_lies := by decide +kernel
theorem lk_X5_lies_60 : Cond.fieldLink RX5 60 "SeatCountsModel" "liesAt" "[I" ∈ wsX5_lies := by decide +kernel
theorem lk_X5_lies_63 : Cond.fieldLink RX5 63 "SeatCountsModel" "valueAt" "[J" ∈ wsX5_lies := by decide +kernel
theorem lk_X5_lies_97 : Cond.fieldLink RX5 97 "SeatCountsModel" "ruleOf" "I" ∈ wsX5_lies := by decide +kernel
theorem ni_X5_lies_X5 : ∀ w ∈ wsX50, w ∈ wsX5_lies := by decide +kernel
noncomputable def fn_X5_lies_32 (S : sc_M) (x1 : Int32) (x2 : Int32) (x3 : Int32) : Option (Int32 × sc_M) :=
  sc_cl (fn_X5_in S x3 (0 : Int32) (1 : Int32)) (fun r35 S35 => if r35 = 0 then
    some ((-2 : Int32), S35)
  else
    if (sc_gi S35 2) = (3 : Int32) then
      some ((-3 : Int32), S35)
    else
      sc_ck (((80 : Int32) * x1) + x2) 7200 (sc_sq ((sc_ga S35 17 (((80 : Int32) * x1) + x2).toNatClampNeg)) (fun y66 => if x3 = 0 then
        if 0 ≤ y66 then
          some (y66, S35)
        else
          some ((-9 : Int32), S35)
      else
        sc_ck (((80 : Int32) * x1) + x2) 7200 (some ((sc_gb S35 18 (((80 : Int32) * x1) + x2).toNatClampNeg).toInt32, S35)))))
noncomputable def fn_X5_lies (S : sc_M) (x1 : Int32) (x2 : Int32) (x3 : Int32) : Option (Int32 × sc_M) :=
  sc_cl (fn_X5_noStage S x1) (fun r2 S2 => if r2 = 0 then
    if (3 : Int32) ≤ (sc_gi S2 2) then
      fn_X5_lies_32 S2 x1 x2 x3
    else
      sc_cl (fn_X5_in S2 x2 (0 : Int32) ((sc_gi S2 5) - (1 : Int32))) (fun r24 S24 => if r24 = 0 then
        some ((-1 : Int32), S24)
      else
        fn_X5_lies_32 S24 x1 x2 x3)
  else
    some ((-1 : Int32), S2))
section
variable {p : Program} {l : Launch} {e : Env} {s : State} {m : MethodId} {args : Array Value} {below : List Frame} {meth : Method} {c : Code} {Q : State → Prop} {dC : Nat → ClassId} {dI : Nat → Nat → Nat} {h : Nat → Nat} {cy : Nat → ClassId}
set_option maxHeartbeats 4000000 in
set_option maxRecDepth 100000 in
theorem wk_X5_lies_32 (C0 : CallFix p m c cX5_lies 5 s args wsX5_lies RX5) {S' : sc_M} {r : Int32} (hR : sc_Ri p l e rm_X5_lies s m args below meth c Q cX5_lies (sc_EM dC dI h cy) S' r) : ∀ (S : sc_M) (x1 : Int32) (x2 : Int32) (x3 : Int32) (H : Heap) (locs : List Loc) (ls : Array Slot), fn_X5_lies_32 S x1 x2 x3 = some (r, S') → sc_W (sc_EM dC dI h cy) s H locs S → lv_has ls 5 [(0, .ref (h 0)), (1, .int x1), (2, .int x2), (3, .int x3)] → W p l e rm_X5_lies s m args below meth c H locs 0 0 Q (F0 m 32 ls []) := by
  obtain ⟨hx, hb, hml, hown, hts⟩ := id C0
  intro S x1 x2 x3 H locs ls hf hW hl
  rw [fn_X5_lies_32] at hf
  refine lv_iload_n hx hb dX5_lies_32 rfl (lv_at hl 3 rfl) ?_
  refine lv_iconst (v := (0 : Int32)) hx hb dX5_lies_33 (by decide) ?_
  refine lv_iconst (v := (1 : Int32)) hx hb dX5_lies_34 (by decide) ?_
  obtain ⟨r35, S35, hc, hf⟩ := sc_cl_s hf
  refine sc_callSi (As := [.int x3, .int (0 : Int32), .int (1 : Int32)]) (rest := []) sc_okM C0 hW (ct_X5_in hc) (va_cwS 3 hts gX5_lies_X5_in rfl rfl rfl (by decide +kernel) ⟨Nat.le_of_ble_eq_true rfl, Nat.le_of_ble_eq_true rfl⟩) rfl hl.1 rfl (Nat.le_of_ble_eq_true rfl) dX5_lies_35 (fun H locs hW => ?_)
  refine lv_if_ne (tgt := 44) hx hb dX5_lies_38 (by decide) (fun hc => ?_) (fun hc => ?_)
  · replace hf := sc_in hc hf
    refine lv_aload_n hx hb dX5_lies_44 rfl (lv_at hl 0 rfl) ?_
    refine sc_getX5 C0 hW ni_X5_lies_X5 8 (Nat.le_of_ble_eq_true rfl) lk_X5_lies_97 (v := .int (sc_gi S35 2)) rfl dX5_lies_45 ?_
    refine lv_iconst (v := (3 : Int32)) hx hb dX5_lies_48 (by decide) ?_
    refine lv_icmp_ne (tgt := 55) hx hb dX5_lies_49 (by decide) (fun hc => ?_) (fun hc => ?_)
    · replace hf := sc_in hc hf
      refine lv_aload_n hx hb dX5_lies_55 rfl (lv_at hl 0 rfl) ?_
      refine sc_getX5 C0 hW ni_X5_lies_X5 23 (Nat.le_of_ble_eq_true rfl) lk_X5_lies_60 (v := .ref (h 17)) rfl dX5_lies_56 ?_
      refine lv_bipush (v := (80 : Int32)) hx hb dX5_lies_59 (by decide) ?_
      refine lv_iload_n hx hb dX5_lies_61 rfl (lv_at hl 1 rfl) ?_
      refine lv_imul hx hb dX5_lies_62 ?_
      refine lv_iload_n hx hb dX5_lies_63 rfl (lv_at hl 2 rfl) ?_
      refine lv_iadd hx hb dX5_lies_64 ?_
      obtain ⟨hv, hf⟩ := sc_ck_s hf
      refine sc_ldM_17 C0 hW hv dX5_lies_65 ?_
      obtain ⟨y66, ey66, hf⟩ := sc_sq_s hf
      refine sc_topi ey66 ?_
      refine lv_istore (lv' := [(4, .int y66), (0, .ref (h 0)), (1, .int x1), (2, .int x2), (3, .int x3)]) hx hb dX5_lies_66 hl (by decide) rfl (fun ls hl => ?_)
      refine lv_iload_n hx hb dX5_lies_68 rfl (lv_at hl 4 rfl) ?_
      refine lv_if_ne (tgt := 87) hx hb dX5_lies_69 (by decide) (fun hc => ?_) (fun hc => ?_)
      · replace hf := sc_in hc hf
        refine lv_aload_n hx hb dX5_lies_87 rfl (lv_at hl 1 rfl) ?_
        refine sc_getX5 C0 hW ni_X5_lies_X5 24 (Nat.le_of_ble_eq_true rfl) lk_X5_lies_63 (v := .ref (h 18)) rfl dX5_lies_88 ?_
        refine lv_bipush (v := (80 : Int32)) hx hb dX5_lies_91 (by decide) ?_
        refine lv_iload_n hx hb dX5_lies_93 rfl (lv_at hl 2 rfl) ?_
        refine lv_imul hx hb dX5_lies_94 ?_
        refine lv_iload_n hx hb dX5_lies_95 rfl (lv_at hl 3 rfl) ?_
        refine lv_iadd hx hb dX5_lies_96 ?_
        obtain ⟨hv, hf⟩ := sc_ck_s hf
        refine sc_ldM_18 C0 hW hv dX5_lies_97 ?_
        refine lv_l2i hx hb dX5_lies_98 rfl ?_
        exact sc_reti hR hf hW dX5_lies_99
      · replace hf := sc_ip hc hf
        refine lv_iload hx hb dX5_lies_72 (lv_at hl 0 rfl) ?_
        refine lv_if_ge (tgt := 82) hx hb dX5_lies_74 (by decide) (fun hc => ?_) (fun hc => ?_)
        · replace hf := sc_ip hc hf
          refine lv_iload hx hb dX5_lies_82 (lv_at hl 0 rfl) ?_
          refine lv_goto (tgt := 99) hx hb dX5_lies_84 (by decide) ?_
          exact sc_reti hR hf hW dX5_lies_99
        · replace hf := sc_in hc hf
          refine lv_bipush (v := (-9 : Int32)) hx hb dX5_lies_77 (by decide) ?_
          refine lv_goto (tgt := 99) hx hb dX5_lies_79 (by decide) ?_
          exact sc_reti hR hf hW dX5_lies_99
    · replace hf := sc_ip hc hf
      refine lv_bipush (v := (-3 : Int32)) hx hb dX5_lies_52 (by decide) ?_
      exact sc_reti hR hf hW dX5_lies_54
  · replace hf := sc_ip hc hf
    refine lv_bipush (v := (-2 : Int32)) hx hb dX5_lies_41 (by decide) ?_
    exact sc_reti hR hf hW dX5_lies_43
set_option maxHeartbeats 4000000 in
set_option maxRecDepth 100000 in
theorem wk_X5_lies_0 (C0 : CallFix p m c cX5_lies 5 s args wsX5_lies RX5) {S' : sc_M} {r : Int32} (hR : sc_Ri p l e rm_X5_lies s m args below meth c Q cX5_lies (sc_EM dC dI h cy) S' r) : ∀ (S : sc_M) (x1 : Int32) (x2 : Int32) (x3 : Int32) (H : Heap) (locs : List Loc) (ls : Array Slot), fn_X5_lies S x1 x2 x3 = some (r, S') → sc_W (sc_EM dC dI h cy) s H locs S → lv_has ls 5 [(0, .ref (h 0)), (1, .int x1), (2, .int x2), (3, .int x3)] → W p l e rm_X5_lies s m args below meth c H locs 0 0 Q (F0 m 0 ls []) := by
  obtain ⟨hx, hb, hml, hown, hts⟩ := id C0
  intro S x1 x2 x3 H locs ls hf hW hl
  rw [fn_X5_lies] at hf
  refine lv_aload_n hx hb dX5_lies_0 rfl (lv_at hl 0 rfl) ?_
  refine lv_iload_n hx hb dX5_lies_1 rfl (lv_at hl 1 rfl) ?_
  obtain ⟨r2, S2, hc, hf⟩ := sc_cl_s hf
  refine sc_callVi (As := [.int x1]) (rest := []) (q0 := 0) (ci := 4) sc_okM C0 hW (ct_X5_noStage hc) (cwV 1 hts gX5_lies_X5_noStage rfl rfl rfl (by decide +kernel) ⟨Nat.le_of_ble_eq_true rfl, Nat.le_of_ble_eq_true rfl⟩) rfl rfl rfl rfl hl.1 rfl (Nat.le_of_ble_eq_true rfl) dX5_lies_2 (fun H locs hW => ?_)
  refine lv_if_ne (tgt := 30) hx hb dX5_lies_5 (by decide) (fun hc => ?_) (fun hc => ?_)
  · replace hf := sc_in hc hf
    refine lv_iconst (v := (-1 : Int32)) hx hb dX5_lies_30 (by decide) ?_
    exact sc_reti hR hf hW dX5_lies_31
  · replace hf := sc_ip hc hf
    refine lv_aload_n hx hb dX5_lies_8 rfl (lv_at hl 0 rfl) ?_
    refine sc_getX5 C0 hW ni_X5_lies_X5 8 (Nat.le_of_ble_eq_true rfl) lk_X5_lies_97 (v := .int (sc_gi S2 2)) rfl dX5_lies_9 ?_
    refine lv_iconst (v := (3 : Int32)) hx hb dX5_lies_12 (by decide) ?_
    refine lv_icmp_ge (tgt := 32) hx hb dX5_lies_13 (by decide) (fun hc => ?_) (fun hc => ?_)
    · replace hf := sc_ip hc hf
      exact wk_X5_lies_32 C0 hR  _ _ _ _ _ _ _ hf hW (lv_sub hl [0, 1, 2, 3] rfl)
    · replace hf := sc_in hc hf
      refine lv_iload_n hx hb dX5_lies_16 rfl (lv_at hl 2 rfl) ?_
      refine lv_iconst (v := (0 : Int32)) hx hb dX5_lies_17 (by decide) ?_
      refine lv_aload_n hx hb dX5_lies_18 rfl (lv_at hl 0 rfl) ?_
      refine sc_getX5 C0 hW ni_X5_lies_X5 11 (Nat.le_of_ble_eq_true rfl) lk_X5_lies_210 (v := .int (sc_gi S2 5)) rfl dX5_lies_19 ?_
      refine lv_iconst (v := (1 : Int32)) hx hb dX5_lies_22 (by decide) ?_
      refine lv_isub hx hb dX5_lies_23 ?_
      obtain ⟨r24, S24, hc, hf⟩ := sc_cl_s hf
      refine sc_callSi (As := [.int x2, .int (0 : Int32), .int ((sc_gi S2 5) - (1 : Int32))]) (rest := []) sc_okM C0 hW (ct_X5_in hc) (va_cwS 3 hts gX5_lies_X5_in rfl rfl rfl (by decide +kernel) ⟨Nat.le_of_ble_eq_true rfl, Nat.le_of_ble_eq_true rfl⟩) rfl hl.1 rfl (Nat.le_of_ble_eq_true rfl) dX5_lies_24 (fun H locs hW => ?_)
      refine lv_if_ne (tgt := 32) hx hb dX5_lies_27 (by decide) (fun hc => ?_) (fun hc => ?_)
      · replace hf := sc_in hc hf
        exact wk_X5_lies_32 C0 hR  _ _ _ _ _ _ _ hf hW (lv_sub hl [0, 1, 2, 3] rfl)
      · replace hf := sc_ip hc hf
        refine lv_iconst (v := (-1 : Int32)) hx hb dX5_lies_30 (by decide) ?_
        exact sc_reti hR hf hW dX5_lies_31
set_option maxRecDepth 100000 in
theorem ct_X5_lies {S S' : sc_M} {r : Int32} {x1 : Int32} {x2 : Int32} {x3 : Int32} (hf : fn_X5_lies S x1 x2 x3 = some (r, S')) : sc_Ci l yX5_lies wsX5_lies rm_X5_lies (sc_EM dC dI h cy) [.ref (h 0), .int x1, .int x2, .int x3] S S' r := by
  refine sc_ofi (cc := cX5_lies) (maxL := 5) .int rfl sc_okM (by decide) rfl (Nat.le_of_ble_eq_true rfl) ?_
  intro p e s m below meth c Q C0 hR hW ls hl
  exact wk_X5_lies_0 C0 hR _ _ _ _ _ _ _ hf hW hl
end

/-! ===== SeatCountsModel.sheet(II)J ===== -/
abbrev rm_X5_sheet : Room := { frames := 3, cells := 0, slots := 0, locals := 65 }
theorem lk_X5_sheet_222 : Cond.constantLong RX5 222 (-1) ∈ wsX5_sheet := by decide +kernel
theorem lk_X5_sheet_66 : Cond.fieldLink RX5 66 "SeatCountsModel" "sheet" "[J" ∈ wsX5_sheet := by decide +kernel
theorem ni_X5_sheet_X5 : ∀ w ∈ wsX50, w ∈ wsX5_sheet := by decide +kernel
noncomputable def fn_X5_sheet (S : sc_M) (x1 : Int32) (x2 : Int32) : Option (Int64 × sc_M) :=
  sc_cl (fn_X5_noVotes S x1 x2) (fun r3 S3 => if r3 = 0 then
    sc_ck (((12 : Int32) * x1) + x2) 1080 (some ((sc_gb S3 19 (((12 : Int32) * x1) + x2).toNatClampNeg), S3))
  else
    some ((-1 : Int64), S3))
section
variable {p : Program} {l : Launch} {e : Env} {s : State} {m : MethodId} {args : Array Value} {below : List Frame} {meth : Method} {c : Code} {Q : State → Prop} {dC : Nat → ClassId} {dI : Nat → Nat → Nat} {h : Nat → Nat} {cy : Nat → ClassId}
set_option maxHeartbeats 4000000 in
set_option maxRecDepth 100000 in
theorem wk_X5_sheet_0 (C0 : CallFix p m c cX5_sheet 3 s args wsX5_sheet RX5) {S' : sc_M} {r : Int64} (hR : sc_Rl p l e rm_X5_sheet s m args below meth c Q cX5_sheet (sc_EM dC dI h cy) S' r) : ∀ (S : sc_M) (x1 : Int32) (x2 : Int32) (H : Heap) (locs : List Loc) (ls : Array Slot), fn_X5_sheet S x1 x2 = some (r, S') → sc_W (sc_EM dC dI h cy) s H locs S → lv_has ls 3 [(0, .ref (h 0)), (1, .int x1), (2, .int x2)] → W p l e rm_X5_sheet s m args below meth c H locs 0 0 Q (F0 m 0 ls []) := by
  obtain ⟨hx, hb, hml, hown, hts⟩ := id C0
  intro S x1 x2 H locs ls hf hW hl
  rw [fn_X5_sheet] at hf
  refine lv_aload_n hx hb dX5_sheet_0 rfl (lv_at hl 0 rfl) ?_
  refine lv_iload_n hx hb dX5_sheet_1 rfl (lv_at hl 1 rfl) ?_
  refine lv_iload_n hx hb dX5_sheet_2 rfl (lv_at hl 2 rfl) ?_
  obtain ⟨r3, S3, hc, hf⟩ := sc_cl_s hf
  refine sc_callVi (As := [.int x1, .int x2]) (rest := []) (q0 := 0) (ci := 4) sc_okM C0 hW (ct_X5_noVotes hc) (cwV 2 hts gX5_sheet_X5_noVotes rfl rfl rfl (by decide +kernel) ⟨Nat.le_of_ble_eq_true rfl, Nat.le_of_ble_eq_true rfl⟩) rfl rfl rfl rfl hl.1 rfl (Nat.le_of_ble_eq_true rfl) dX5_sheet_3 (fun H locs hW => ?_)
  refine lv_if_eq (tgt := 15) hx hb dX5_sheet_6 (by decide) (fun hc => ?_) (fun hc => ?_)
  · replace hf := sc_ip hc hf
    refine lv_aload_n hx hb dX5_sheet_15 rfl (lv_at hl 0 rfl) ?_
    refine sc_getX5 C0 hW ni_X5_sheet_X5 25 (Nat.le_of_ble_eq_true rfl) lk_X5_sheet_66 (v := .ref (h 19)) rfl dX5_sheet_16 ?_
    refine lv_bipush (v := (12 : Int32)) hx hb dX5_sheet_19 (by decide) ?_
    refine lv_iload_n hx hb dX5_sheet_21 rfl (lv_at hl 1 rfl) ?_
    refine lv_imul hx hb dX5_sheet_22 ?_
    refine lv_iload_n hx hb dX5_sheet_23 rfl (lv_at hl 2 rfl) ?_
    refine lv_iadd hx hb dX5_sheet_24 ?_
    obtain ⟨hv, hf⟩ := sc_ck_s hf
    refine sc_ldM_19 C0 hW hv dX5_sheet_25 ?_
    exact sc_retl hR hf hW dX5_sheet_26
  · replace hf := sc_in hc hf
    refine lv_ldc2 (v := (-1 : Int64)) hx hb hown (hts _ lk_X5_sheet_222) dX5_sheet_9 ?_
    refine lv_goto (tgt := 26) hx hb dX5_sheet_12 (by decide) ?_
    exact sc_retl hR hf hW dX5_sheet_26
set_option maxRecDepth 100000 in
theorem ct_X5_sheet {S S' : sc_M} {r : Int64} {x1 : Int32} {x2 : Int32} (hf : fn_X5_sheet S x1 x2 = some (r, S')) : sc_Cl l yX5_sheet wsX5_sheet rm_X5_sheet (sc_EM dC dI h cy) [.ref (h 0), .int x1, .int x2] S S' r := by
  refine sc_ofl (cc := cX5_sheet) (maxL := 3) sc_okM (by decide) rfl (Nat.le_of_ble_eq_true rfl) ?_
  intro p e s m below meth c Q C0 hR hW ls hl
  exact wk_X5_sheet_0 C0 hR _ _ _ _ _ _ hf hW hl
end

/-! ===== SeatCountsModel.forge(IIJ)J ===== -/
abbrev rm_X5_forge : Room := { frames := 3, cells := 0, slots := 0, locals := 65 }
theorem lk_X5_forge_222 : Cond.constantLong RX5 222 (-1) ∈ wsX5_forge := by decide +kernel
theorem lk_X5_forge_66 : Cond.fieldLink RX5 66 "SeatCountsModel" "sheet" "[J" ∈ wsX5_forge := by decide +kernel
theorem ni_X5_forge_X5 : ∀ w ∈ wsX50, w ∈ wsX5_forge := by decide +kernel
noncomputable def fn_X5_forge (S : sc_M) (x1 : Int32) (x2 : Int32) (x3 : Int64) : Option (Int64 × sc_M) :=
  sc_cl (fn_X5_noVotes S x1 x2) (fun r3 S3 => if r3 = 0 then
    sc_ck (((12 : Int32) * x1) + x2) 1080 (sc_sq ((sc_gb S3 19 (((12 : Int32) * x1) + x2).toNatClampNeg)) (fun y24 => sc_ck (((12 : Int32) * x1) + x2) 1080 (sc_sq (sc_mB S3 19 (vp_updL (sc_gb S3 19) (((12 : Int32) * x1) + x2).toNatClampNeg x3)) (fun S37 => some (y24, S37)))))
  else
    some ((-1 : Int64), S3))
section
variable {p : Program} {l : Launch} {e : Env} {s : State} {m : MethodId} {args : Array Value} {below : List Frame} {meth : Method} {c : Code} {Q : State → Prop} {dC : Nat → ClassId} {dI : Nat → Nat → Nat} {h : Nat → Nat} {cy : Nat → ClassId}
set_option maxHeartbeats 4000000 in
set_option maxRecDepth 100000 in
theorem wk_X5_forge_0 (C0 : CallFix p m c cX5_forge 7 s args wsX5_forge RX5) {S' : sc_M} {r : Int64} (hR : sc_Rl p l e rm_X5_forge s m args below meth c Q cX5_forge (sc_EM dC dI h cy) S' r) : ∀ (S : sc_M) (x1 : Int32) (x2 : Int32) (x3 : Int64) (H : Heap) (locs : List Loc) (ls : Array Slot), fn_X5_forge S x1 x2 x3 = some (r, S') → sc_W (sc_EM dC dI h cy) s H locs S → lv_has ls 7 [(0, .ref (h 0)), (1, .int x1), (2, .int x2), (3, .long x3)] → W p l e rm_X5_forge s m args below meth c H locs 0 0 Q (F0 m 0 ls []) := by
  obtain ⟨hx, hb, hml, hown, hts⟩ := id C0
  intro S x1 x2 x3 H locs ls hf hW hl
  rw [fn_X5_forge] at hf
  refine lv_aload_n hx hb dX5_forge_0 rfl (lv_at hl 0 rfl) ?_
  refine lv_iload_n hx hb dX5_forge_1 rfl (lv_at hl 1 rfl) ?_
  refine lv_iload_n hx hb dX5_forge_2 rfl (lv_at hl 2 rfl) ?_
  obtain ⟨r3, S3, hc, hf⟩ := sc_cl_s hf
  refine sc_callVi (As := [.int x1, .int x2]) (rest := []) (q0 := 0) (ci := 4) sc_okM C0 hW (ct_X5_noVotes hc) (cwV 2 hts gX5_forge_X5_noVotes rfl rfl rfl (by decide +kernel) ⟨Nat.le_of_ble_eq_true rfl, Nat.le_of_ble_eq_true rfl⟩) rfl rfl rfl rfl hl.1 rfl (Nat.le_of_ble_eq_true rfl) dX5_forge_3 (fun H locs hW => ?_)
  refine lv_if_eq (tgt := 13) hx hb dX5_forge_6 (by decide) (fun hc => ?_) (fun hc => ?_)
  · replace hf := sc_ip hc hf
    refine lv_aload_n hx hb dX5_forge_13 rfl (lv_at hl 0 rfl) ?_
    refine sc_getX5 C0 hW ni_X5_forge_X5 25 (Nat.le_of_ble_eq_true rfl) lk_X5_forge_66 (v := .ref (h 19)) rfl dX5_forge_14 ?_
    refine lv_bipush (v := (12 : Int32)) hx hb dX5_forge_17 (by decide) ?_
    refine lv_iload_n hx hb dX5_forge_19 rfl (lv_at hl 1 rfl) ?_
    refine lv_imul hx hb dX5_forge_20 ?_
    refine lv_iload_n hx hb dX5_forge_21 rfl (lv_at hl 2 rfl) ?_
    refine lv_iadd hx hb dX5_forge_22 ?_
    obtain ⟨hv, hf⟩ := sc_ck_s hf
    refine sc_ldM_19 C0 hW hv dX5_forge_23 ?_
    obtain ⟨y24, ey24, hf⟩ := sc_sq_s hf
    refine sc_topl ey24 ?_
    refine lv_lstore (lv' := [(5, .long y24), (0, .ref (h 0)), (1, .int x1), (2, .int x2), (3, .long x3)]) hx hb dX5_forge_24 hl (by decide) rfl (fun ls hl => ?_)
    refine lv_aload_n hx hb dX5_forge_26 rfl (lv_at hl 1 rfl) ?_
    refine sc_getX5 C0 hW ni_X5_forge_X5 25 (Nat.le_of_ble_eq_true rfl) lk_X5_forge_66 (v := .ref (h 19)) rfl dX5_forge_27 ?_
    refine lv_bipush (v := (12 : Int32)) hx hb dX5_forge_30 (by decide) ?_
    refine lv_iload_n hx hb dX5_forge_32 rfl (lv_at hl 2 rfl) ?_
    refine lv_imul hx hb dX5_forge_33 ?_
    refine lv_iload_n hx hb dX5_forge_34 rfl (lv_at hl 3 rfl) ?_
    refine lv_iadd hx hb dX5_forge_35 ?_
    refine lv_lload_n hx hb dX5_forge_36 rfl (lv_at hl 4 rfl) ?_
    obtain ⟨hv, hf⟩ := sc_ck_s hf
    obtain ⟨S37, eS37, hf⟩ := sc_sq_s hf
    refine sc_stM_19 C0 hW hv eS37 dX5_forge_37 (fun H locs hW => ?_)
    refine lv_lload hx hb dX5_forge_38 (lv_at hl 0 rfl) ?_
    exact sc_retl hR hf hW dX5_forge_40
  · replace hf := sc_in hc hf
    refine lv_ldc2 (v := (-1 : Int64)) hx hb hown (hts _ lk_X5_forge_222) dX5_forge_9 ?_
    exact sc_retl hR hf hW dX5_forge_12
set_option maxRecDepth 100000 in
theorem ct_X5_forge {S S' : sc_M} {r : Int64} {x1 : Int32} {x2 : Int32} {x3 : Int64} (hf : fn_X5_forge S x1 x2 x3 = some (r, S')) : sc_Cl l yX5_forge wsX5_forge rm_X5_forge (sc_EM dC dI h cy) [.ref (h 0), .int x1, .int x2, .long x3] S S' r := by
  refine sc_ofl (cc := cX5_forge) (maxL := 7) sc_okM (by decide) rfl (Nat.le_of_ble_eq_true rfl) ?_
  intro p e s m below meth c Q C0 hR hW ls hl
  exact wk_X5_forge_0 C0 hR _ _ _ _ _ _ _ hf hW hl
end
