/-! ===== SeatCountsModel.next(I)I ===== -/
abbrev rm_X5_next : Room := { frames := 0, cells := 0, slots := 0, locals := 0 }
theorem lk_X5_next_20 : Cond.fieldLink RX5 20 "SeatCountsModel" "wants" "[I" ∈ wsX5_next := by decide +kernel
theorem lk_X5_next_23 : Cond.fieldLink RX5 23 "SeatCountsModel" "want" "[I" ∈ wsX5_next := by decide +kernel
theorem lk_X5_next_75 : Cond.fieldLink RX5 75 "SeatCountsModel" "status" "[I" ∈ wsX5_next := by decide +kernel
theorem ni_X5_next_X5 : ∀ w ∈ wsX50, w ∈ wsX5_next := by decide +kernel
noncomputable def fn_X5_next_2 : Nat → sc_M → Int32 → Int32 → Option (Int32 × sc_M)
  | 0, _, _, _ => none
  | n + 1, S, x1, x2 =>
    sc_ck x1 80 (if (sc_ga S 4 x1.toNatClampNeg) ≤ x2 then
      some ((-1 : Int32), S)
    else
      sc_ck (((12 : Int32) * x1) + x2) 960 (sc_ck (sc_ga S 5 (((12 : Int32) * x1) + x2).toNatClampNeg) 12 (if (sc_ga S 22 (sc_ga S 5 (((12 : Int32) * x1) + x2).toNatClampNeg).toNatClampNeg) = 0 then
        sc_ck (((12 : Int32) * x1) + x2) 960 (some ((sc_ga S 5 (((12 : Int32) * x1) + x2).toNatClampNeg), S))
      else
        fn_X5_next_2 n S x1 (x2 + 1))))
noncomputable def fn_X5_next (S : sc_M) (x1 : Int32) : Option (Int32 × sc_M) :=
  fn_X5_next_2 sc_FU S x1 (0 : Int32)
section
variable {p : Program} {l : Launch} {e : Env} {s : State} {m : MethodId} {args : Array Value} {below : List Frame} {meth : Method} {c : Code} {Q : State → Prop} {dC : Nat → ClassId} {dI : Nat → Nat → Nat} {h : Nat → Nat} {cy : Nat → ClassId}
set_option maxHeartbeats 4000000 in
set_option maxRecDepth 100000 in
theorem wk_X5_next_2 (C0 : CallFix p m c cX5_next 3 s args wsX5_next RX5) {S' : sc_M} {r : Int32} (hR : sc_Ri p l e rm_X5_next s m args below meth c Q cX5_next (sc_EM dC dI h cy) S' r) : ∀ n : Nat, ∀ (S : sc_M) (x1 : Int32) (x2 : Int32) (H : Heap) (locs : List Loc) (ls : Array Slot), fn_X5_next_2 n S x1 x2 = some (r, S') → sc_W (sc_EM dC dI h cy) s H locs S → lv_has ls 3 [(0, .ref (h 0)), (1, .int x1), (2, .int x2)] → W p l e rm_X5_next s m args below meth c H locs 0 0 Q (F0 m 2 ls []) := by
  obtain ⟨hx, hb, hml, hown, hts⟩ := id C0
  intro n
  induction n with
  | zero => intro S x1 x2 H locs ls; intro hf; cases hf
  | succ n ih =>
    intro S x1 x2 H locs ls hf hW hl
    rw [fn_X5_next_2] at hf
    refine lv_iload_n hx hb dX5_next_2 rfl (lv_at hl 2 rfl) ?_
    refine lv_aload_n hx hb dX5_next_3 rfl (lv_at hl 0 rfl) ?_
    refine sc_getX5 C0 hW ni_X5_next_X5 5 (Nat.le_of_ble_eq_true rfl) lk_X5_next_20 (v := .ref (h 4)) rfl dX5_next_4 ?_
    refine lv_iload_n hx hb dX5_next_7 rfl (lv_at hl 1 rfl) ?_
    obtain ⟨hv, hf⟩ := sc_ck_s hf
    refine sc_ldM_4 C0 hW hv dX5_next_8 ?_
    refine lv_icmp_ge (tgt := 49) hx hb dX5_next_9 (by decide) (fun hc => ?_) (fun hc => ?_)
    · replace hf := sc_ip hc hf
      refine lv_iconst (v := (-1 : Int32)) hx hb dX5_next_49 (by decide) ?_
      exact sc_reti hR hf hW dX5_next_50
    · replace hf := sc_in hc hf
      refine lv_aload_n hx hb dX5_next_12 rfl (lv_at hl 0 rfl) ?_
      refine sc_getX5 C0 hW ni_X5_next_X5 29 (Nat.le_of_ble_eq_true rfl) lk_X5_next_75 (v := .ref (h 22)) rfl dX5_next_13 ?_
      refine lv_aload_n hx hb dX5_next_16 rfl (lv_at hl 0 rfl) ?_
      refine sc_getX5 C0 hW ni_X5_next_X5 6 (Nat.le_of_ble_eq_true rfl) lk_X5_next_23 (v := .ref (h 5)) rfl dX5_next_17 ?_
      refine lv_bipush (v := (12 : Int32)) hx hb dX5_next_20 (by decide) ?_
      refine lv_iload_n hx hb dX5_next_22 rfl (lv_at hl 1 rfl) ?_
      refine lv_imul hx hb dX5_next_23 ?_
      refine lv_iload_n hx hb dX5_next_24 rfl (lv_at hl 2 rfl) ?_
      refine lv_iadd hx hb dX5_next_25 ?_
      obtain ⟨hv, hf⟩ := sc_ck_s hf
      refine sc_ldM_5 C0 hW hv dX5_next_26 ?_
      obtain ⟨hv, hf⟩ := sc_ck_s hf
      refine sc_ldM_22 C0 hW hv dX5_next_27 ?_
      refine lv_if_ne (tgt := 43) hx hb dX5_next_28 (by decide) (fun hc => ?_) (fun hc => ?_)
      · replace hf := sc_in hc hf
        refine lv_iinc (v := (x2 + 1)) (lv' := [(2, .int (x2 + 1)), (0, .ref (h 0)), (1, .int x1)]) hx hb dX5_next_43 hl (k := 2) rfl rfl (by decide) rfl (fun ls hl => ?_)
        refine lv_goto (tgt := 2) hx hb dX5_next_46 (by decide) ?_
        exact ih _ _ _ _ _ _ hf hW (lv_sub hl [1, 2, 0] rfl)
      · replace hf := sc_ip hc hf
        refine lv_aload_n hx hb dX5_next_31 rfl (lv_at hl 0 rfl) ?_
        refine sc_getX5 C0 hW ni_X5_next_X5 6 (Nat.le_of_ble_eq_true rfl) lk_X5_next_23 (v := .ref (h 5)) rfl dX5_next_32 ?_
        refine lv_bipush (v := (12 : Int32)) hx hb dX5_next_35 (by decide) ?_
        refine lv_iload_n hx hb dX5_next_37 rfl (lv_at hl 1 rfl) ?_
        refine lv_imul hx hb dX5_next_38 ?_
        refine lv_iload_n hx hb dX5_next_39 rfl (lv_at hl 2 rfl) ?_
        refine lv_iadd hx hb dX5_next_40 ?_
        obtain ⟨hv, hf⟩ := sc_ck_s hf
        refine sc_ldM_5 C0 hW hv dX5_next_41 ?_
        exact sc_reti hR hf hW dX5_next_42
set_option maxHeartbeats 4000000 in
set_option maxRecDepth 100000 in
theorem wk_X5_next_0 (C0 : CallFix p m c cX5_next 3 s args wsX5_next RX5) {S' : sc_M} {r : Int32} (hR : sc_Ri p l e rm_X5_next s m args below meth c Q cX5_next (sc_EM dC dI h cy) S' r) : ∀ (S : sc_M) (x1 : Int32) (H : Heap) (locs : List Loc) (ls : Array Slot), fn_X5_next S x1 = some (r, S') → sc_W (sc_EM dC dI h cy) s H locs S → lv_has ls 3 [(0, .ref (h 0)), (1, .int x1)] → W p l e rm_X5_next s m args below meth c H locs 0 0 Q (F0 m 0 ls []) := by
  obtain ⟨hx, hb, hml, hown, hts⟩ := id C0
  intro S x1 H locs ls hf hW hl
  rw [fn_X5_next] at hf
  refine lv_iconst (v := (0 : Int32)) hx hb dX5_next_0 (by decide) ?_
  refine lv_istore_n (lv' := [(2, .int (0 : Int32)), (0, .ref (h 0)), (1, .int x1)]) hx hb dX5_next_1 rfl hl (by decide) rfl (fun ls hl => ?_)
  exact wk_X5_next_2 C0 hR  sc_FU _ _ _ _ _ _ hf hW (lv_sub hl [1, 2, 0] rfl)
set_option maxRecDepth 100000 in
theorem ct_X5_next {S S' : sc_M} {r : Int32} {x1 : Int32} (hf : fn_X5_next S x1 = some (r, S')) : sc_Ci l yX5_next wsX5_next rm_X5_next (sc_EM dC dI h cy) [.ref (h 0), .int x1] S S' r := by
  refine sc_ofi (cc := cX5_next) (maxL := 3) .int rfl sc_okM (by decide) rfl (Nat.le_of_ble_eq_true rfl) ?_
  intro p e s m below meth c Q C0 hR hW ls hl
  exact wk_X5_next_0 C0 hR _ _ _ _ _ hf hW hl
end

/-! ===== SeatCountsModel.goes(IJ)Z ===== -/
abbrev rm_X5_goes : Room := { frames := 1, cells := 0, slots := 0, locals := 22 }
theorem lk_X5_goes_124 : Cond.fieldLink RX5 124 "SeatCountsModel" "stages" "I" ∈ wsX5_goes := by decide +kernel
theorem lk_X5_goes_153 : Cond.fieldLink RX5 153 "SeatCountsModel" "idleNow" "J" ∈ wsX5_goes := by decide +kernel
theorem lk_X5_goes_17 : Cond.fieldLink RX5 17 "SeatCountsModel" "papers" "[I" ∈ wsX5_goes := by decide +kernel
theorem lk_X5_goes_72 : Cond.fieldLink RX5 72 "SeatCountsModel" "votes" "[J" ∈ wsX5_goes := by decide +kernel
theorem lk_X5_goes_81 : Cond.fieldLink RX5 81 "SeatCountsModel" "place" "[I" ∈ wsX5_goes := by decide +kernel
theorem lk_X5_goes_84 : Cond.fieldLink RX5 84 "SeatCountsModel" "value" "[J" ∈ wsX5_goes := by decide +kernel
theorem lk_X5_goes_87 : Cond.fieldLink RX5 87 "SeatCountsModel" "came" "[I" ∈ wsX5_goes := by decide +kernel
theorem ni_X5_goes_X5 : ∀ w ∈ wsX50, w ∈ wsX5_goes := by decide +kernel
noncomputable def fn_X5_goes_e (S : sc_M) (x1 : Int32) (x2 : Int64) : Option (Int32 × sc_M) :=
  sc_cl (fn_X5_next S x1) (fun r2 S2 => sc_ck x1 80 (sc_sq (sc_mA S2 24 (upd (sc_ga S2 24) x1.toNatClampNeg r2)) (fun S14 => sc_ck x1 80 (sc_sq (sc_mB S14 25 (vp_updL (sc_gb S14 25) x1.toNatClampNeg x2)) (fun S21 => sc_ck x1 80 (sc_sq (sc_mA S21 26 (upd (sc_ga S21 26) x1.toNatClampNeg (sc_gi S21 6))) (fun S31 => if 0 ≤ r2 then
    sc_ck r2 12 (sc_ck x1 80 (sc_ck r2 12 (sc_sq (sc_mB S31 21 (vp_updL (sc_gb S31 21) r2.toNatClampNeg ((sc_gb S31 21 r2.toNatClampNeg) + ((sc_ga S31 3 x1.toNatClampNeg).toInt64 * x2)))) (fun S75 => some ((1 : Int32), S75)))))
  else
    sc_ck x1 80 (sc_sq (sc_mj S31 1 ((sc_gj S31 1) + ((sc_ga S31 3 x1.toNatClampNeg).toInt64 * x2))) (fun S52 => some ((0 : Int32), S52))))))))))
noncomputable def fn_X5_goes (S : sc_M) (x1 : Int32) (x2 : Int64) : Option (Int32 × sc_M) := sc_bz (fn_X5_goes_e S x1 x2)
section
variable {p : Program} {l : Launch} {e : Env} {s : State} {m : MethodId} {args : Array Value} {below : List Frame} {meth : Method} {c : Code} {Q : State → Prop} {dC : Nat → ClassId} {dI : Nat → Nat → Nat} {h : Nat → Nat} {cy : Nat → ClassId}
set_option maxHeartbeats 4000000 in
set_option maxRecDepth 100000 in
theorem wk_X5_goes_0 (C0 : CallFix p m c cX5_goes 5 s args wsX5_goes RX5) {S' : sc_M} {r : Int32} (hR : sc_Ri p l e rm_X5_goes s m args below meth c Q cX5_goes (sc_EM dC dI h cy) S' r) : ∀ (S : sc_M) (x1 : Int32) (x2 : Int64) (H : Heap) (locs : List Loc) (ls : Array Slot), fn_X5_goes_e S x1 x2 = some (r, S') → sc_W (sc_EM dC dI h cy) s H locs S → lv_has ls 5 [(0, .ref (h 0)), (1, .int x1), (2, .long x2)] → W p l e rm_X5_goes s m args below meth c H locs 0 0 Q (F0 m 0 ls []) := by
  obtain ⟨hx, hb, hml, hown, hts⟩ := id C0
  intro S x1 x2 H locs ls hf hW hl
  rw [fn_X5_goes_e] at hf
  refine lv_aload_n hx hb dX5_goes_0 rfl (lv_at hl 0 rfl) ?_
  refine lv_iload_n hx hb dX5_goes_1 rfl (lv_at hl 1 rfl) ?_
  obtain ⟨r2, S2, hc, hf⟩ := sc_cl_s hf
  refine sc_callVi (As := [.int x1]) (rest := []) (q0 := 0) (ci := 4) sc_okM C0 hW (ct_X5_next hc) (cwV 1 hts gX5_goes_X5_next rfl rfl rfl (by decide +kernel) ⟨Nat.le_of_ble_eq_true rfl, Nat.le_of_ble_eq_true rfl⟩) rfl rfl rfl rfl hl.1 rfl (Nat.le_of_ble_eq_true rfl) dX5_goes_2 (fun H locs hW => ?_)
  refine lv_istore (lv' := [(4, .int r2), (0, .ref (h 0)), (1, .int x1), (2, .long x2)]) hx hb dX5_goes_5 hl (by decide) rfl (fun ls hl => ?_)
  refine lv_aload_n hx hb dX5_goes_7 rfl (lv_at hl 1 rfl) ?_
  refine sc_getX5 C0 hW ni_X5_goes_X5 31 (Nat.le_of_ble_eq_true rfl) lk_X5_goes_81 (v := .ref (h 24)) rfl dX5_goes_8 ?_
  refine lv_iload_n hx hb dX5_goes_11 rfl (lv_at hl 2 rfl) ?_
  refine lv_iload hx hb dX5_goes_12 (lv_at hl 0 rfl) ?_
  obtain ⟨hv, hf⟩ := sc_ck_s hf
  obtain ⟨S14, eS14, hf⟩ := sc_sq_s hf
  refine sc_stM_24 C0 hW hv eS14 dX5_goes_14 (fun H locs hW => ?_)
  refine lv_aload_n hx hb dX5_goes_15 rfl (lv_at hl 1 rfl) ?_
  refine sc_getX5 C0 hW ni_X5_goes_X5 32 (Nat.le_of_ble_eq_true rfl) lk_X5_goes_84 (v := .ref (h 25)) rfl dX5_goes_16 ?_
  refine lv_iload_n hx hb dX5_goes_19 rfl (lv_at hl 2 rfl) ?_
  refine lv_lload_n hx hb dX5_goes_20 rfl (lv_at hl 3 rfl) ?_
  obtain ⟨hv, hf⟩ := sc_ck_s hf
  obtain ⟨S21, eS21, hf⟩ := sc_sq_s hf
  refine sc_stM_25 C0 hW hv eS21 dX5_goes_21 (fun H locs hW => ?_)
  refine lv_aload_n hx hb dX5_goes_22 rfl (lv_at hl 1 rfl) ?_
  refine sc_getX5 C0 hW ni_X5_goes_X5 33 (Nat.le_of_ble_eq_true rfl) lk_X5_goes_87 (v := .ref (h 26)) rfl dX5_goes_23 ?_
  refine lv_iload_n hx hb dX5_goes_26 rfl (lv_at hl 2 rfl) ?_
  refine lv_aload_n hx hb dX5_goes_27 rfl (lv_at hl 1 rfl) ?_
  refine sc_getX5 C0 hW ni_X5_goes_X5 12 (Nat.le_of_ble_eq_true rfl) lk_X5_goes_124 (v := .int (sc_gi S21 6)) rfl dX5_goes_28 ?_
  obtain ⟨hv, hf⟩ := sc_ck_s hf
  obtain ⟨S31, eS31, hf⟩ := sc_sq_s hf
  refine sc_stM_26 C0 hW hv eS31 dX5_goes_31 (fun H locs hW => ?_)
  refine lv_iload hx hb dX5_goes_32 (lv_at hl 0 rfl) ?_
  refine lv_if_ge (tgt := 57) hx hb dX5_goes_34 (by decide) (fun hc => ?_) (fun hc => ?_)
  · replace hf := sc_ip hc hf
    refine lv_aload_n hx hb dX5_goes_57 rfl (lv_at hl 1 rfl) ?_
    refine sc_getX5 C0 hW ni_X5_goes_X5 28 (Nat.le_of_ble_eq_true rfl) lk_X5_goes_72 (v := .ref (h 21)) rfl dX5_goes_58 ?_
    refine lv_iload hx hb dX5_goes_61 (lv_at hl 0 rfl) ?_
    refine lv_dup2_11 hx hb dX5_goes_63 rfl rfl ?_
    obtain ⟨hv, hf⟩ := sc_ck_s hf
    refine sc_ldM_21 C0 hW hv dX5_goes_64 ?_
    refine lv_aload_n hx hb dX5_goes_65 rfl (lv_at hl 1 rfl) ?_
    refine sc_getX5 C0 hW ni_X5_goes_X5 4 (Nat.le_of_ble_eq_true rfl) lk_X5_goes_17 (v := .ref (h 3)) rfl dX5_goes_66 ?_
    refine lv_iload_n hx hb dX5_goes_69 rfl (lv_at hl 2 rfl) ?_
    obtain ⟨hv, hf⟩ := sc_ck_s hf
    refine sc_ldM_3 C0 hW hv dX5_goes_70 ?_
    refine lv_i2l hx hb dX5_goes_71 rfl ?_
    refine lv_lload_n hx hb dX5_goes_72 rfl (lv_at hl 3 rfl) ?_
    refine lv_lmul hx hb dX5_goes_73 ?_
    refine lv_ladd hx hb dX5_goes_74 ?_
    obtain ⟨hv, hf⟩ := sc_ck_s hf
    obtain ⟨S75, eS75, hf⟩ := sc_sq_s hf
    refine sc_stM_21 C0 hW hv eS75 dX5_goes_75 (fun H locs hW => ?_)
    refine lv_iconst (v := (1 : Int32)) hx hb dX5_goes_76 (by decide) ?_
    exact sc_reti hR hf hW dX5_goes_77
  · replace hf := sc_in hc hf
    refine lv_aload_n hx hb dX5_goes_37 rfl (lv_at hl 1 rfl) ?_
    refine lv_dup hx hb dX5_goes_38 rfl ?_
    refine sc_getX5 C0 hW ni_X5_goes_X5 35 (Nat.le_of_ble_eq_true rfl) lk_X5_goes_153 (v := .long (sc_gj S31 1)) rfl dX5_goes_39 ?_
    refine lv_aload_n hx hb dX5_goes_42 rfl (lv_at hl 1 rfl) ?_
    refine sc_getX5 C0 hW ni_X5_goes_X5 4 (Nat.le_of_ble_eq_true rfl) lk_X5_goes_17 (v := .ref (h 3)) rfl dX5_goes_43 ?_
    refine lv_iload_n hx hb dX5_goes_46 rfl (lv_at hl 2 rfl) ?_
    obtain ⟨hv, hf⟩ := sc_ck_s hf
    refine sc_ldM_3 C0 hW hv dX5_goes_47 ?_
    refine lv_i2l hx hb dX5_goes_48 rfl ?_
    refine lv_lload_n hx hb dX5_goes_49 rfl (lv_at hl 3 rfl) ?_
    refine lv_lmul hx hb dX5_goes_50 ?_
    refine lv_ladd hx hb dX5_goes_51 ?_
    obtain ⟨S52, eS52, hf⟩ := sc_sq_s hf
    refine sc_putX5_idleNow C0 hW ni_X5_goes_X5 lk_X5_goes_153 eS52 dX5_goes_52 (fun H locs hW => ?_)
    refine lv_iconst (v := (0 : Int32)) hx hb dX5_goes_55 (by decide) ?_
    exact sc_reti hR hf hW dX5_goes_56
set_option maxRecDepth 100000 in
theorem ct_X5_goes {S S' : sc_M} {r : Int32} {x1 : Int32} {x2 : Int64} (hf : fn_X5_goes S x1 x2 = some (r, S')) : sc_Ci l yX5_goes wsX5_goes rm_X5_goes (sc_EM dC dI h cy) [.ref (h 0), .int x1, .long x2] S S' r := by
  obtain ⟨hf, h01⟩ := sc_bz_s hf
  refine sc_ofi (cc := cX5_goes) (maxL := 5) .boolean (sc_nar01 h01) sc_okM (by decide) rfl (Nat.le_of_ble_eq_true rfl) ?_
  intro p e s m below meth c Q C0 hR hW ls hl
  exact wk_X5_goes_0 C0 hR _ _ _ _ _ _ hf hW hl
end

/-! ===== SeatCountsModel.surplusOfAll(IJ)V ===== -/
abbrev rm_X5_surplusOfAll : Room := { frames := 2, cells := 0, slots := 0, locals := 46 }
theorem lk_X5_surplusOfAll_104 : Cond.fieldLink RX5 104 "SeatCountsModel" "piles" "I" ∈ wsX5_surplusOfAll := by decide +kernel
theorem lk_X5_surplusOfAll_156 : Cond.fieldLink RX5 156 "SeatCountsModel" "lostNow" "J" ∈ wsX5_surplusOfAll := by decide +kernel
theorem lk_X5_surplusOfAll_17 : Cond.fieldLink RX5 17 "SeatCountsModel" "papers" "[I" ∈ wsX5_surplusOfAll := by decide +kernel
theorem lk_X5_surplusOfAll_72 : Cond.fieldLink RX5 72 "SeatCountsModel" "votes" "[J" ∈ wsX5_surplusOfAll := by decide +kernel
theorem lk_X5_surplusOfAll_81 : Cond.fieldLink RX5 81 "SeatCountsModel" "place" "[I" ∈ wsX5_surplusOfAll := by decide +kernel
theorem lk_X5_surplusOfAll_84 : Cond.fieldLink RX5 84 "SeatCountsModel" "value" "[J" ∈ wsX5_surplusOfAll := by decide +kernel
theorem lk_X5_surplusOfAll_97 : Cond.fieldLink RX5 97 "SeatCountsModel" "ruleOf" "I" ∈ wsX5_surplusOfAll := by decide +kernel
theorem ni_X5_surplusOfAll_X5 : ∀ w ∈ wsX50, w ∈ wsX5_surplusOfAll := by decide +kernel
noncomputable def fn_X5_surplusOfAll_109 (k63 : sc_M → Int32 → Int64 → Int64 → Int64 → Int64 → Int32 → Option (sc_M)) (S : sc_M) (x1 : Int32) (x2 : Int64) (x4 : Int64) (x6 : Int64) (x8 : Int64) (x10 : Int32) (z0 : Int64) : Option (sc_M) :=
  sc_ck x10 80 (sc_sq ((x8 + ((sc_ga S 3 x10.toNatClampNeg).toInt64 * z0))) (fun y125 => sc_cl (fn_X5_goes S x10 z0) (fun r132 S132 => k63 S132 x1 x2 x4 x6 y125 (x10 + 1))))
noncomputable def fn_X5_surplusOfAll_63 : Nat → sc_M → Int32 → Int64 → Int64 → Int64 → Int64 → Int32 → Option (sc_M)
  | 0, _, _, _, _, _, _, _ => none
  | n + 1, S, x1, x2, x4, x6, x8, x10 =>
    if (sc_gi S 1) ≤ x10 then
      sc_sq (sc_mj S 2 ((sc_gj S 2) + (x2 - x8))) (fun S152 => some S152)
    else
      sc_ck x10 80 (if (sc_ga S 24 x10.toNatClampNeg) = x1 then
        if (sc_gi S 2) = 0 then
          sc_ck x10 80 (sc_nl x4 (fn_X5_surplusOfAll_109 (fn_X5_surplusOfAll_63 n) S x1 x2 x4 x6 x8 x10 (((sc_gb S 25 x10.toNatClampNeg) * x2) / x4)))
        else
          sc_nl x6 (fn_X5_surplusOfAll_109 (fn_X5_surplusOfAll_63 n) S x1 x2 x4 x6 x8 x10 (x2 / x6))
      else
        fn_X5_surplusOfAll_63 n S x1 x2 x4 x6 x8 (x10 + 1))
noncomputable def fn_X5_surplusOfAll_14 : Nat → sc_M → Int32 → Int64 → Int64 → Int64 → Int32 → Option (sc_M)
  | 0, _, _, _, _, _, _ => none
  | n + 1, S, x1, x2, x4, x6, x8 =>
    if (sc_gi S 1) ≤ x8 then
      fn_X5_surplusOfAll_63 sc_FU S x1 x2 x4 x6 (0 : Int64) (0 : Int32)
    else
      sc_ck x8 80 (if (sc_ga S 24 x8.toNatClampNeg) = x1 then
        sc_ck x8 80 (sc_sq ((x6 + (sc_ga S 3 x8.toNatClampNeg).toInt64)) (fun y49 => fn_X5_surplusOfAll_14 n S x1 x2 x4 y49 (x8 + 1)))
      else
        sc_sq ((x6 + (0 : Int64))) (fun y49 => fn_X5_surplusOfAll_14 n S x1 x2 x4 y49 (x8 + 1)))
noncomputable def fn_X5_surplusOfAll (S : sc_M) (x1 : Int32) (x2 : Int64) : Option (sc_M) :=
  sc_ck x1 12 (sc_sq ((sc_gb S 21 x1.toNatClampNeg)) (fun y6 => fn_X5_surplusOfAll_14 sc_FU S x1 x2 y6 (0 : Int64) (0 : Int32)))
section
variable {p : Program} {l : Launch} {e : Env} {s : State} {m : MethodId} {args : Array Value} {below : List Frame} {meth : Method} {c : Code} {Q : State → Prop} {dC : Nat → ClassId} {dI : Nat → Nat → Nat} {h : Nat → Nat} {cy : Nat → ClassId}
set_option maxHeartbeats 4000000 in
set_option maxRecDepth 100000 in
theorem wk_X5_surplusOfAll_109 (C0 : CallFix p m c cX5_surplusOfAll 13 s args wsX5_surplusOfAll RX5) {S' : sc_M} (hR : sc_Rv p l e rm_X5_surplusOfAll s m args below meth c Q cX5_surplusOfAll (sc_EM dC dI h cy) S') {k63 : sc_M → Int32 → Int64 → Int64 → Int64 → Int64 → Int32 → Option (sc_M)} (hk63 : ∀ (S : sc_M) (x1 : Int32) (x2 : Int64) (x4 : Int64) (x6 : Int64) (x8 : Int64) (x10 : Int32) (H : Heap) (locs : List Loc) (ls : Array Slot), k63 S x1 x2 x4 x6 x8 x10 = some S' → sc_W (sc_EM dC dI h cy) s H locs S → lv_has ls 13 [(0, .ref (h 0)), (1, .int x1), (2, .long x2), (4, .long x4), (6, .long x6), (8, .long x8), (10, .int x10)] → W p l e rm_X5_surplusOfAll s m args below meth c H locs 0 0 Q (F0 m 63 ls [])) : ∀ (S : sc_M) (x1 : Int32) (x2 : Int64) (x4 : Int64) (x6 : Int64) (x8 : Int64) (x10 : Int32) (z0 : Int64) (H : Heap) (locs : List Loc) (ls : Array Slot), fn_X5_surplusOfAll_109 k63 S x1 x2 x4 x6 x8 x10 z0 = some S' → sc_W (sc_EM dC dI h cy) s H locs S → lv_has ls 13 [(0, .ref (h 0)), (1, .int x1), (2, .long x2), (4, .long x4), (6, .long x6), (8, .long x8), (10, .int x10)] → W p l e rm_X5_surplusOfAll s m args below meth c H locs 0 0 Q (F0 m 109 ls [.long z0]) := by
  obtain ⟨hx, hb, hml, hown, hts⟩ := id C0
  intro S x1 x2 x4 x6 x8 x10 z0 H locs ls hf hW hl
  rw [fn_X5_surplusOfAll_109] at hf
  refine lv_lstore (lv' := [(11, .long z0), (0, .ref (h 0)), (1, .int x1), (2, .long x2), (4, .long x4), (6, .long x6), (8, .long x8), (10, .int x10)]) hx hb dX5_surplusOfAll_109 hl (by decide) rfl (fun ls hl => ?_)
  refine lv_lload hx hb dX5_surplusOfAll_111 (lv_at hl 6 rfl) ?_
  refine lv_aload_n hx hb dX5_surplusOfAll_113 rfl (lv_at hl 1 rfl) ?_
  refine sc_getX5 C0 hW ni_X5_surplusOfAll_X5 4 (Nat.le_of_ble_eq_true rfl) lk_X5_surplusOfAll_17 (v := .ref (h 3)) rfl dX5_surplusOfAll_114 ?_
  refine lv_iload hx hb dX5_surplusOfAll_117 (lv_at hl 7 rfl) ?_
  obtain ⟨hv, hf⟩ := sc_ck_s hf
  refine sc_ldM_3 C0 hW hv dX5_surplusOfAll_119 ?_
  refine lv_i2l hx hb dX5_surplusOfAll_120 rfl ?_
  refine lv_lload hx hb dX5_surplusOfAll_121 (lv_at hl 0 rfl) ?_
  refine lv_lmul hx hb dX5_surplusOfAll_123 ?_
  refine lv_ladd hx hb dX5_surplusOfAll_124 ?_
  obtain ⟨y125, ey125, hf⟩ := sc_sq_s hf
  refine sc_topl ey125 ?_
  refine lv_lstore (lv' := [(8, .long y125), (11, .long z0), (0, .ref (h 0)), (1, .int x1), (2, .long x2), (4, .long x4), (6, .long x6), (10, .int x10)]) hx hb dX5_surplusOfAll_125 hl (by decide) rfl (fun ls hl => ?_)
  refine lv_aload_n hx hb dX5_surplusOfAll_127 rfl (lv_at hl 2 rfl) ?_
  refine lv_iload hx hb dX5_surplusOfAll_128 (lv_at hl 7 rfl) ?_
  refine lv_lload hx hb dX5_surplusOfAll_130 (lv_at hl 1 rfl) ?_
  obtain ⟨r132, S132, hc, hf⟩ := sc_cl_s hf
  refine sc_callVi (As := [.int x10, .long z0]) (rest := []) (q0 := 0) (ci := 4) sc_okM C0 hW (ct_X5_goes hc) (cwV 2 hts gX5_surplusOfAll_X5_goes rfl rfl rfl (by decide +kernel) ⟨Nat.le_of_ble_eq_true rfl, Nat.le_of_ble_eq_true rfl⟩) rfl rfl rfl rfl hl.1 rfl (Nat.le_of_ble_eq_true rfl) dX5_surplusOfAll_132 (fun H locs hW => ?_)
  refine lv_pop hx hb dX5_surplusOfAll_135 rfl ?_
  refine lv_iinc (v := (x10 + 1)) (lv' := [(10, .int (x10 + 1)), (8, .long y125), (11, .long z0), (0, .ref (h 0)), (1, .int x1), (2, .long x2), (4, .long x4), (6, .long x6)]) hx hb dX5_surplusOfAll_136 hl (k := 7) rfl rfl (by decide) rfl (fun ls hl => ?_)
  refine lv_goto (tgt := 63) hx hb dX5_surplusOfAll_139 (by decide) ?_
  exact hk63 _ _ _ _ _ _ _ _ _ _ hf hW (lv_sub hl [3, 4, 5, 6, 7, 1, 0] rfl)
set_option maxHeartbeats 4000000 in
set_option maxRecDepth 100000 in
theorem wk_X5_surplusOfAll_63 (C0 : CallFix p m c cX5_surplusOfAll 13 s args wsX5_surplusOfAll RX5) {S' : sc_M} (hR : sc_Rv p l e rm_X5_surplusOfAll s m args below meth c Q cX5_surplusOfAll (sc_EM dC dI h cy) S') : ∀ n : Nat, ∀ (S : sc_M) (x1 : Int32) (x2 : Int64) (x4 : Int64) (x6 : Int64) (x8 : Int64) (x10 : Int32) (H : Heap) (locs : List Loc) (ls : Array Slot), fn_X5_surplusOfAll_63 n S x1 x2 x4 x6 x8 x10 = some S' → sc_W (sc_EM dC dI h cy) s H locs S → lv_has ls 13 [(0, .ref (h 0)), (1, .int x1), (2, .long x2), (4, .long x4), (6, .long x6), (8, .long x8), (10, .int x10)] → W p l e rm_X5_surplusOfAll s m args below meth c H locs 0 0 Q (F0 m 63 ls []) := by
  obtain ⟨hx, hb, hml, hown, hts⟩ := id C0
  intro n
  induction n with
  | zero => intro S x1 x2 x4 x6 x8 x10 H locs ls; intro hf; cases hf
  | succ n ih =>
    intro S x1 x2 x4 x6 x8 x10 H locs ls hf hW hl
    rw [fn_X5_surplusOfAll_63] at hf
    refine lv_iload hx hb dX5_surplusOfAll_63 (lv_at hl 6 rfl) ?_
    refine lv_aload_n hx hb dX5_surplusOfAll_65 rfl (lv_at hl 0 rfl) ?_
    refine sc_getX5 C0 hW ni_X5_surplusOfAll_X5 3 (Nat.le_of_ble_eq_true rfl) lk_X5_surplusOfAll_104 (v := .int (sc_gi S 1)) rfl dX5_surplusOfAll_66 ?_
    refine lv_icmp_ge (tgt := 142) hx hb dX5_surplusOfAll_69 (by decide) (fun hc => ?_) (fun hc => ?_)
    · replace hf := sc_ip hc hf
      refine lv_aload_n hx hb dX5_surplusOfAll_142 rfl (lv_at hl 0 rfl) ?_
      refine lv_dup hx hb dX5_surplusOfAll_143 rfl ?_
      refine sc_getX5 C0 hW ni_X5_surplusOfAll_X5 36 (Nat.le_of_ble_eq_true rfl) lk_X5_surplusOfAll_156 (v := .long (sc_gj S 2)) rfl dX5_surplusOfAll_144 ?_
      refine lv_lload_n hx hb dX5_surplusOfAll_147 rfl (lv_at hl 2 rfl) ?_
      refine lv_lload hx hb dX5_surplusOfAll_148 (lv_at hl 5 rfl) ?_
      refine lv_lsub hx hb dX5_surplusOfAll_150 ?_
      refine lv_ladd hx hb dX5_surplusOfAll_151 ?_
      obtain ⟨S152, eS152, hf⟩ := sc_sq_s hf
      refine sc_putX5_lostNow C0 hW ni_X5_surplusOfAll_X5 lk_X5_surplusOfAll_156 eS152 dX5_surplusOfAll_152 (fun H locs hW => ?_)
      exact sc_retv hR hf hW dX5_surplusOfAll_155
    · replace hf := sc_in hc hf
      refine lv_aload_n hx hb dX5_surplusOfAll_72 rfl (lv_at hl 0 rfl) ?_
      refine sc_getX5 C0 hW ni_X5_surplusOfAll_X5 31 (Nat.le_of_ble_eq_true rfl) lk_X5_surplusOfAll_81 (v := .ref (h 24)) rfl dX5_surplusOfAll_73 ?_
      refine lv_iload hx hb dX5_surplusOfAll_76 (lv_at hl 6 rfl) ?_
      obtain ⟨hv, hf⟩ := sc_ck_s hf
      refine sc_ldM_24 C0 hW hv dX5_surplusOfAll_78 ?_
      refine lv_iload_n hx hb dX5_surplusOfAll_79 rfl (lv_at hl 1 rfl) ?_
      refine lv_icmp_ne (tgt := 136) hx hb dX5_surplusOfAll_80 (by decide) (fun hc => ?_) (fun hc => ?_)
      · replace hf := sc_in hc hf
        refine lv_iinc (v := (x10 + 1)) (lv' := [(10, .int (x10 + 1)), (0, .ref (h 0)), (1, .int x1), (2, .long x2), (4, .long x4), (6, .long x6), (8, .long x8)]) hx hb dX5_surplusOfAll_136 hl (k := 6) rfl rfl (by decide) rfl (fun ls hl => ?_)
        refine lv_goto (tgt := 63) hx hb dX5_surplusOfAll_139 (by decide) ?_
        exact ih _ _ _ _ _ _ _ _ _ _ hf hW (lv_sub hl [1, 2, 3, 4, 5, 6, 0] rfl)
      · replace hf := sc_ip hc hf
        refine lv_aload_n hx hb dX5_surplusOfAll_83 rfl (lv_at hl 0 rfl) ?_
        refine sc_getX5 C0 hW ni_X5_surplusOfAll_X5 8 (Nat.le_of_ble_eq_true rfl) lk_X5_surplusOfAll_97 (v := .int (sc_gi S 2)) rfl dX5_surplusOfAll_84 ?_
        refine lv_if_ne (tgt := 105) hx hb dX5_surplusOfAll_87 (by decide) (fun hc => ?_) (fun hc => ?_)
        · replace hf := sc_in hc hf
          refine lv_lload_n hx hb dX5_surplusOfAll_105 rfl (lv_at hl 2 rfl) ?_
          refine lv_lload hx hb dX5_surplusOfAll_106 (lv_at hl 4 rfl) ?_
          obtain ⟨hz, hf⟩ := sc_nl_s hf
          refine lv_ldiv hx hb dX5_surplusOfAll_108 hz ?_
          exact wk_X5_surplusOfAll_109 C0 hR ih _ _ _ _ _ _ _ _ _ _ _ hf hW (lv_sub hl [0, 1, 2, 3, 4, 5, 6] rfl)
        · replace hf := sc_ip hc hf
          refine lv_aload_n hx hb dX5_surplusOfAll_90 rfl (lv_at hl 0 rfl) ?_
          refine sc_getX5 C0 hW ni_X5_surplusOfAll_X5 32 (Nat.le_of_ble_eq_true rfl) lk_X5_surplusOfAll_84 (v := .ref (h 25)) rfl dX5_surplusOfAll_91 ?_
          refine lv_iload hx hb dX5_surplusOfAll_94 (lv_at hl 6 rfl) ?_
          obtain ⟨hv, hf⟩ := sc_ck_s hf
          refine sc_ldM_25 C0 hW hv dX5_surplusOfAll_96 ?_
          refine lv_lload_n hx hb dX5_surplusOfAll_97 rfl (lv_at hl 2 rfl) ?_
          refine lv_lmul hx hb dX5_surplusOfAll_98 ?_
          refine lv_lload hx hb dX5_surplusOfAll_99 (lv_at hl 3 rfl) ?_
          obtain ⟨hz, hf⟩ := sc_nl_s hf
          refine lv_ldiv hx hb dX5_surplusOfAll_101 hz ?_
          refine lv_goto (tgt := 109) hx hb dX5_surplusOfAll_102 (by decide) ?_
          exact wk_X5_surplusOfAll_109 C0 hR ih _ _ _ _ _ _ _ _ _ _ _ hf hW (lv_sub hl [0, 1, 2, 3, 4, 5, 6] rfl)
set_option maxHeartbeats 4000000 in
set_option maxRecDepth 100000 in
theorem wk_X5_surplusOfAll_14 (C0 : CallFix p m c cX5_surplusOfAll 13 s args wsX5_surplusOfAll RX5) {S' : sc_M} (hR : sc_Rv p l e rm_X5_surplusOfAll s m args below meth c Q cX5_surplusOfAll (sc_EM dC dI h cy) S') : ∀ n : Nat, ∀ (S : sc_M) (x1 : Int32) (x2 : Int64) (x4 : Int64) (x6 : Int64) (x8 : Int32) (H : Heap) (locs : List Loc) (ls : Array Slot), fn_X5_surplusOfAll_14 n S x1 x2 x4 x6 x8 = some S' → sc_W (sc_EM dC dI h cy) s H locs S → lv_has ls 13 [(0, .ref (h 0)), (1, .int x1), (2, .long x2), (4, .long x4), (6, .long x6), (8, .int x8)] → W p l e rm_X5_surplusOfAll s m args below meth c H locs 0 0 Q (F0 m 14 ls []) := by
  obtain ⟨hx, hb, hml, hown, hts⟩ := id C0
  intro n
  induction n with
  | zero => intro S x1 x2 x4 x6 x8 H locs ls; intro hf; cases hf
  | succ n ih =>
    intro S x1 x2 x4 x6 x8 H locs ls hf hW hl
    rw [fn_X5_surplusOfAll_14] at hf
    refine lv_iload hx hb dX5_surplusOfAll_14 (lv_at hl 5 rfl) ?_
    refine lv_aload_n hx hb dX5_surplusOfAll_16 rfl (lv_at hl 0 rfl) ?_
    refine sc_getX5 C0 hW ni_X5_surplusOfAll_X5 3 (Nat.le_of_ble_eq_true rfl) lk_X5_surplusOfAll_104 (v := .int (sc_gi S 1)) rfl dX5_surplusOfAll_17 ?_
    refine lv_icmp_ge (tgt := 57) hx hb dX5_surplusOfAll_20 (by decide) (fun hc => ?_) (fun hc => ?_)
    · replace hf := sc_ip hc hf
      refine lv_lconst (v := (0 : Int64)) hx hb dX5_surplusOfAll_57 (by decide) ?_
      refine lv_lstore (lv' := [(8, .long (0 : Int64)), (0, .ref (h 0)), (1, .int x1), (2, .long x2), (4, .long x4), (6, .long x6)]) hx hb dX5_surplusOfAll_58 hl (by decide) rfl (fun ls hl => ?_)
      refine lv_iconst (v := (0 : Int32)) hx hb dX5_surplusOfAll_60 (by decide) ?_
      refine lv_istore (lv' := [(10, .int (0 : Int32)), (8, .long (0 : Int64)), (0, .ref (h 0)), (1, .int x1), (2, .long x2), (4, .long x4), (6, .long x6)]) hx hb dX5_surplusOfAll_61 hl (by decide) rfl (fun ls hl => ?_)
      exact wk_X5_surplusOfAll_63 C0 hR  sc_FU _ _ _ _ _ _ _ _ _ _ hf hW (lv_sub hl [2, 3, 4, 5, 6, 1, 0] rfl)
    · replace hf := sc_in hc hf
      refine lv_lload hx hb dX5_surplusOfAll_23 (lv_at hl 4 rfl) ?_
      refine lv_aload_n hx hb dX5_surplusOfAll_25 rfl (lv_at hl 0 rfl) ?_
      refine sc_getX5 C0 hW ni_X5_surplusOfAll_X5 31 (Nat.le_of_ble_eq_true rfl) lk_X5_surplusOfAll_81 (v := .ref (h 24)) rfl dX5_surplusOfAll_26 ?_
      refine lv_iload hx hb dX5_surplusOfAll_29 (lv_at hl 5 rfl) ?_
      obtain ⟨hv, hf⟩ := sc_ck_s hf
      refine sc_ldM_24 C0 hW hv dX5_surplusOfAll_31 ?_
      refine lv_iload_n hx hb dX5_surplusOfAll_32 rfl (lv_at hl 1 rfl) ?_
      refine lv_icmp_ne (tgt := 47) hx hb dX5_surplusOfAll_33 (by decide) (fun hc => ?_) (fun hc => ?_)
      · replace hf := sc_in hc hf
        refine lv_lconst (v := (0 : Int64)) hx hb dX5_surplusOfAll_47 (by decide) ?_
        refine lv_ladd hx hb dX5_surplusOfAll_48 ?_
        obtain ⟨y49, ey49, hf⟩ := sc_sq_s hf
        refine sc_topl ey49 ?_
        refine lv_lstore (lv' := [(6, .long y49), (0, .ref (h 0)), (1, .int x1), (2, .long x2), (4, .long x4), (8, .int x8)]) hx hb dX5_surplusOfAll_49 hl (by decide) rfl (fun ls hl => ?_)
        refine lv_iinc (v := (x8 + 1)) (lv' := [(8, .int (x8 + 1)), (6, .long y49), (0, .ref (h 0)), (1, .int x1), (2, .long x2), (4, .long x4)]) hx hb dX5_surplusOfAll_51 hl (k := 5) rfl rfl (by decide) rfl (fun ls hl => ?_)
        refine lv_goto (tgt := 14) hx hb dX5_surplusOfAll_54 (by decide) ?_
        exact ih _ _ _ _ _ _ _ _ _ hf hW (lv_sub hl [2, 3, 4, 5, 1, 0] rfl)
      · replace hf := sc_ip hc hf
        refine lv_aload_n hx hb dX5_surplusOfAll_36 rfl (lv_at hl 0 rfl) ?_
        refine sc_getX5 C0 hW ni_X5_surplusOfAll_X5 4 (Nat.le_of_ble_eq_true rfl) lk_X5_surplusOfAll_17 (v := .ref (h 3)) rfl dX5_surplusOfAll_37 ?_
        refine lv_iload hx hb dX5_surplusOfAll_40 (lv_at hl 5 rfl) ?_
        obtain ⟨hv, hf⟩ := sc_ck_s hf
        refine sc_ldM_3 C0 hW hv dX5_surplusOfAll_42 ?_
        refine lv_i2l hx hb dX5_surplusOfAll_43 rfl ?_
        refine lv_goto (tgt := 48) hx hb dX5_surplusOfAll_44 (by decide) ?_
        refine lv_ladd hx hb dX5_surplusOfAll_48 ?_
        obtain ⟨y49, ey49, hf⟩ := sc_sq_s hf
        refine sc_topl ey49 ?_
        refine lv_lstore (lv' := [(6, .long y49), (0, .ref (h 0)), (1, .int x1), (2, .long x2), (4, .long x4), (8, .int x8)]) hx hb dX5_surplusOfAll_49 hl (by decide) rfl (fun ls hl => ?_)
        refine lv_iinc (v := (x8 + 1)) (lv' := [(8, .int (x8 + 1)), (6, .long y49), (0, .ref (h 0)), (1, .int x1), (2, .long x2), (4, .long x4)]) hx hb dX5_surplusOfAll_51 hl (k := 5) rfl rfl (by decide) rfl (fun ls hl => ?_)
        refine lv_goto (tgt := 14) hx hb dX5_surplusOfAll_54 (by decide) ?_
        exact ih _ _ _ _ _ _ _ _ _ hf hW (lv_sub hl [2, 3, 4, 5, 1, 0] rfl)
set_option maxHeartbeats 4000000 in
set_option maxRecDepth 100000 in
theorem wk_X5_surplusOfAll_0 (C0 : CallFix p m c cX5_surplusOfAll 13 s args wsX5_surplusOfAll RX5) {S' : sc_M} (hR : sc_Rv p l e rm_X5_surplusOfAll s m args below meth c Q cX5_surplusOfAll (sc_EM dC dI h cy) S') : ∀ (S : sc_M) (x1 : Int32) (x2 : Int64) (H : Heap) (locs : List Loc) (ls : Array Slot), fn_X5_surplusOfAll S x1 x2 = some S' → sc_W (sc_EM dC dI h cy) s H locs S → lv_has ls 13 [(0, .ref (h 0)), (1, .int x1), (2, .long x2)] → W p l e rm_X5_surplusOfAll s m args below meth c H locs 0 0 Q (F0 m 0 ls []) := by
  obtain ⟨hx, hb, hml, hown, hts⟩ := id C0
  intro S x1 x2 H locs ls hf hW hl
  rw [fn_X5_surplusOfAll] at hf
  refine lv_aload_n hx hb dX5_surplusOfAll_0 rfl (lv_at hl 0 rfl) ?_
  refine sc_getX5 C0 hW ni_X5_surplusOfAll_X5 28 (Nat.le_of_ble_eq_true rfl) lk_X5_surplusOfAll_72 (v := .ref (h 21)) rfl dX5_surplusOfAll_1 ?_
  refine lv_iload_n hx hb dX5_surplusOfAll_4 rfl (lv_at hl 1 rfl) ?_
  obtain ⟨hv, hf⟩ := sc_ck_s hf
  refine sc_ldM_21 C0 hW hv dX5_surplusOfAll_5 ?_
  obtain ⟨y6, ey6, hf⟩ := sc_sq_s hf
  refine sc_topl ey6 ?_
  refine lv_lstore (lv' := [(4, .long y6), (0, .ref (h 0)), (1, .int x1), (2, .long x2)]) hx hb dX5_surplusOfAll_6 hl (by decide) rfl (fun ls hl => ?_)
  refine lv_lconst (v := (0 : Int64)) hx hb dX5_surplusOfAll_8 (by decide) ?_
  refine lv_lstore (lv' := [(6, .long (0 : Int64)), (4, .long y6), (0, .ref (h 0)), (1, .int x1), (2, .long x2)]) hx hb dX5_surplusOfAll_9 hl (by decide) rfl (fun ls hl => ?_)
  refine lv_iconst (v := (0 : Int32)) hx hb dX5_surplusOfAll_11 (by decide) ?_
  refine lv_istore (lv' := [(8, .int (0 : Int32)), (6, .long (0 : Int64)), (4, .long y6), (0, .ref (h 0)), (1, .int x1), (2, .long x2)]) hx hb dX5_surplusOfAll_12 hl (by decide) rfl (fun ls hl => ?_)
  exact wk_X5_surplusOfAll_14 C0 hR  sc_FU _ _ _ _ _ _ _ _ _ hf hW (lv_sub hl [3, 4, 5, 2, 1, 0] rfl)
set_option maxRecDepth 100000 in
theorem ct_X5_surplusOfAll {S S' : sc_M} {x1 : Int32} {x2 : Int64} (hf : fn_X5_surplusOfAll S x1 x2 = some S') : sc_Cv l yX5_surplusOfAll wsX5_surplusOfAll rm_X5_surplusOfAll (sc_EM dC dI h cy) [.ref (h 0), .int x1, .long x2] S S' := by
  refine sc_ofv (cc := cX5_surplusOfAll) (maxL := 13) sc_okM (by decide) rfl (Nat.le_of_ble_eq_true rfl) ?_
  intro p e s m below meth c Q C0 hR hW ls hl
  exact wk_X5_surplusOfAll_0 C0 hR _ _ _ _ _ _ hf hW hl
end

/-! ===== SeatCountsModel.surplusOfLast(IJ)V ===== -/
abbrev rm_X5_surplusOfLast : Room := { frames := 2, cells := 0, slots := 0, locals := 46 }
theorem lk_X5_surplusOfLast_104 : Cond.fieldLink RX5 104 "SeatCountsModel" "piles" "I" ∈ wsX5_surplusOfLast := by decide +kernel
theorem lk_X5_surplusOfLast_153 : Cond.fieldLink RX5 153 "SeatCountsModel" "idleNow" "J" ∈ wsX5_surplusOfLast := by decide +kernel
theorem lk_X5_surplusOfLast_156 : Cond.fieldLink RX5 156 "SeatCountsModel" "lostNow" "J" ∈ wsX5_surplusOfLast := by decide +kernel
theorem lk_X5_surplusOfLast_17 : Cond.fieldLink RX5 17 "SeatCountsModel" "papers" "[I" ∈ wsX5_surplusOfLast := by decide +kernel
theorem lk_X5_surplusOfLast_81 : Cond.fieldLink RX5 81 "SeatCountsModel" "place" "[I" ∈ wsX5_surplusOfLast := by decide +kernel
theorem lk_X5_surplusOfLast_84 : Cond.fieldLink RX5 84 "SeatCountsModel" "value" "[J" ∈ wsX5_surplusOfLast := by decide +kernel
theorem lk_X5_surplusOfLast_87 : Cond.fieldLink RX5 87 "SeatCountsModel" "came" "[I" ∈ wsX5_surplusOfLast := by decide +kernel
theorem ni_X5_surplusOfLast_X5 : ∀ w ∈ wsX50, w ∈ wsX5_surplusOfLast := by decide +kernel
noncomputable def fn_X5_surplusOfLast_216 (k154 : sc_M → Int32 → Int64 → Int32 → Int64 → Int64 → Int64 → Int32 → Option (sc_M)) (S : sc_M) (x1 : Int32) (x2 : Int64) (x4 : Int32) (x5 : Int64) (x7 : Int64) (x9 : Int64) (x11 : Int32) (z0 : Int64) : Option (sc_M) :=
  sc_ck x11 80 (sc_sq ((x9 + ((sc_ga S 3 x11.toNatClampNeg).toInt64 * z0))) (fun y232 => sc_cl (fn_X5_goes S x11 z0) (fun r239 S239 => k154 S239 x1 x2 x4 x5 x7 y232 (x11 + 1))))
noncomputable def fn_X5_surplusOfLast_154 : Nat → sc_M → Int32 → Int64 → Int32 → Int64 → Int64 → Int64 → Int32 → Option (sc_M)
  | 0, _, _, _, _, _, _, _, _ => none
  | n + 1, S, x1, x2, x4, x5, x7, x9, x11 =>
    if (sc_gi S 1) ≤ x11 then
      if x7 ≤ x2 then
        sc_sq (sc_mj S 1 ((sc_gj S 1) + (x2 - x7))) (fun S282 => some S282)
      else
        sc_sq (sc_mj S 2 ((sc_gj S 2) + (x2 - x9))) (fun S266 => some S266)
    else
      sc_ck x11 80 (if (sc_ga S 24 x11.toNatClampNeg) = x1 then
        sc_ck x11 80 (if (sc_ga S 26 x11.toNatClampNeg) = x4 then
          sc_cl (fn_X5_next S x11) (fun r189 S189 => if r189 < 0 then
            fn_X5_surplusOfLast_154 n S189 x1 x2 x4 x5 x7 x9 (x11 + 1)
          else
            if x7 ≤ x2 then
              sc_ck x11 80 (fn_X5_surplusOfLast_216 (fn_X5_surplusOfLast_154 n) S189 x1 x2 x4 x5 x7 x9 x11 (sc_gb S189 25 x11.toNatClampNeg))
            else
              sc_nl x5 (fn_X5_surplusOfLast_216 (fn_X5_surplusOfLast_154 n) S189 x1 x2 x4 x5 x7 x9 x11 (x2 / x5)))
        else
          fn_X5_surplusOfLast_154 n S x1 x2 x4 x5 x7 x9 (x11 + 1))
      else
        fn_X5_surplusOfLast_154 n S x1 x2 x4 x5 x7 x9 (x11 + 1))
noncomputable def fn_X5_surplusOfLast_67 : Nat → sc_M → Int32 → Int64 → Int32 → Int64 → Int64 → Int32 → Option (sc_M)
  | 0, _, _, _, _, _, _, _ => none
  | n + 1, S, x1, x2, x4, x5, x7, x9 =>
    if (sc_gi S 1) ≤ x9 then
      fn_X5_surplusOfLast_154 sc_FU S x1 x2 x4 x5 x7 (0 : Int64) (0 : Int32)
    else
      sc_ck x9 80 (if (sc_ga S 24 x9.toNatClampNeg) = x1 then
        sc_ck x9 80 (if (sc_ga S 26 x9.toNatClampNeg) = x4 then
          sc_cl (fn_X5_next S x9) (fun r102 S102 => if r102 < 0 then
            fn_X5_surplusOfLast_67 n S102 x1 x2 x4 x5 x7 (x9 + 1)
          else
            sc_ck x9 80 (sc_sq ((x5 + (sc_ga S102 3 x9.toNatClampNeg).toInt64)) (fun y119 => sc_ck x9 80 (sc_ck x9 80 (sc_sq ((x7 + ((sc_ga S102 3 x9.toNatClampNeg).toInt64 * (sc_gb S102 25 x9.toNatClampNeg)))) (fun y140 => fn_X5_surplusOfLast_67 n S102 x1 x2 x4 y119 y140 (x9 + 1)))))))
        else
          fn_X5_surplusOfLast_67 n S x1 x2 x4 x5 x7 (x9 + 1))
      else
        fn_X5_surplusOfLast_67 n S x1 x2 x4 x5 x7 (x9 + 1))
noncomputable def fn_X5_surplusOfLast_6 : Nat → sc_M → Int32 → Int64 → Int32 → Int32 → Option (sc_M)
  | 0, _, _, _, _, _ => none
  | n + 1, S, x1, x2, x4, x5 =>
    if (sc_gi S 1) ≤ x5 then
      fn_X5_surplusOfLast_67 sc_FU S x1 x2 x4 (0 : Int64) (0 : Int64) (0 : Int32)
    else
      sc_ck x5 80 (if (sc_ga S 24 x5.toNatClampNeg) = x1 then
        sc_ck x5 80 (if (sc_ga S 26 x5.toNatClampNeg) ≤ x4 then
          fn_X5_surplusOfLast_6 n S x1 x2 x4 (x5 + 1)
        else
          sc_ck x5 80 (sc_sq ((sc_ga S 26 x5.toNatClampNeg)) (fun y50 => fn_X5_surplusOfLast_6 n S x1 x2 y50 (x5 + 1))))
      else
        fn_X5_surplusOfLast_6 n S x1 x2 x4 (x5 + 1))
noncomputable def fn_X5_surplusOfLast (S : sc_M) (x1 : Int32) (x2 : Int64) : Option (sc_M) :=
  fn_X5_surplusOfLast_6 sc_FU S x1 x2 (-1 : Int32) (0 : Int32)
section
variable {p : Program} {l : Launch} {e : Env} {s : State} {m : MethodId} {args : Array Value} {below : List Frame} {meth : Method} {c : Code} {Q : State → Prop} {dC : Nat → ClassId} {dI : Nat → Nat → Nat} {h : Nat → Nat} {cy : Nat → ClassId}
set_option maxHeartbeats 4000000 in
set_option maxRecDepth 100000 in
theorem wk_X5_surplusOfLast_216 (C0 : CallFix p m c cX5_surplusOfLast 14 s args wsX5_surplusOfLast RX5) {S' : sc_M} (hR : sc_Rv p l e rm_X5_surplusOfLast s m args below meth c Q cX5_surplusOfLast (sc_EM dC dI h cy) S') {k154 : sc_M → Int32 → Int64 → Int32 → Int64 → Int64 → Int64 → Int32 → Option (sc_M)} (hk154 : ∀ (S : sc_M) (x1 : Int32) (x2 : Int64) (x4 : Int32) (x5 : Int64) (x7 : Int64) (x9 : Int64) (x11 : Int32) (H : Heap) (locs : List Loc) (ls : Array Slot), k154 S x1 x2 x4 x5 x7 x9 x11 = some S' → sc_W (sc_EM dC dI h cy) s H locs S → lv_has ls 14 [(0, .ref (h 0)), (1, .int x1), (2, .long x2), (4, .int x4), (5, .long x5), (7, .long x7), (9, .long x9), (11, .int x11)] → W p l e rm_X5_surplusOfLast s m args below meth c H locs 0 0 Q (F0 m 154 ls [])) : ∀ (S : sc_M) (x1 : Int32) (x2 : Int64) (x4 : Int32) (x5 : Int64) (x7 : Int64) (x9 : Int64) (x11 : Int32) (z0 : Int64) (H : Heap) (locs : List Loc) (ls : Array Slot), fn_X5_surplusOfLast_216 k154 S x1 x2 x4 x5 x7 x9 x11 z0 = some S' → sc_W (sc_EM dC dI h cy) s H locs S → lv_has ls 14 [(0, .ref (h 0)), (1, .int x1), (2, .long x2), (4, .int x4), (5, .long x5), (7, .long x7), (9, .long x9), (11, .int x11)] → W p l e rm_X5_surplusOfLast s m args below meth c H locs 0 0 Q (F0 m 216 ls [.long z0]) := by
  obtain ⟨hx, hb, hml, hown, hts⟩ := id C0
  intro S x1 x2 x4 x5 x7 x9 x11 z0 H locs ls hf hW hl
  rw [fn_X5_surplusOfLast_216] at hf
  refine lv_lstore (lv' := [(12, .long z0), (0, .ref (h 0)), (1, .int x1), (2, .long x2), (4, .int x4), (5, .long x5), (7, .long x7), (9, .long x9), (11, .int x11)]) hx hb dX5_surplusOfLast_216 hl (by decide) rfl (fun ls hl => ?_)
  refine lv_lload hx hb dX5_surplusOfLast_218 (lv_at hl 7 rfl) ?_
  refine lv_aload_n hx hb dX5_surplusOfLast_220 rfl (lv_at hl 1 rfl) ?_
  refine sc_getX5 C0 hW ni_X5_surplusOfLast_X5 4 (Nat.le_of_ble_eq_true rfl) lk_X5_surplusOfLast_17 (v := .ref (h 3)) rfl dX5_surplusOfLast_221 ?_
  refine lv_iload hx hb dX5_surplusOfLast_224 (lv_at hl 8 rfl) ?_
  obtain ⟨hv, hf⟩ := sc_ck_s hf
  refine sc_ldM_3 C0 hW hv dX5_surplusOfLast_226 ?_
  refine lv_i2l hx hb dX5_surplusOfLast_227 rfl ?_
  refine lv_lload hx hb dX5_surplusOfLast_228 (lv_at hl 0 rfl) ?_
  refine lv_lmul hx hb dX5_surplusOfLast_230 ?_
  refine lv_ladd hx hb dX5_surplusOfLast_231 ?_
  obtain ⟨y232, ey232, hf⟩ := sc_sq_s hf
  refine sc_topl ey232 ?_
  refine lv_lstore (lv' := [(9, .long y232), (12, .long z0), (0, .ref (h 0)), (1, .int x1), (2, .long x2), (4, .int x4), (5, .long x5), (7, .long x7), (11, .int x11)]) hx hb dX5_surplusOfLast_232 hl (by decide) rfl (fun ls hl => ?_)
  refine lv_aload_n hx hb dX5_surplusOfLast_234 rfl (lv_at hl 2 rfl) ?_
  refine lv_iload hx hb dX5_surplusOfLast_235 (lv_at hl 8 rfl) ?_
  refine lv_lload hx hb dX5_surplusOfLast_237 (lv_at hl 1 rfl) ?_
  obtain ⟨r239, S239, hc, hf⟩ := sc_cl_s hf
  refine sc_callVi (As := [.int x11, .long z0]) (rest := []) (q0 := 0) (ci := 4) sc_okM C0 hW (ct_X5_goes hc) (cwV 2 hts gX5_surplusOfLast_X5_goes rfl rfl rfl (by decide +kernel) ⟨Nat.le_of_ble_eq_true rfl, Nat.le_of_ble_eq_true rfl⟩) rfl rfl rfl rfl hl.1 rfl (Nat.le_of_ble_eq_true rfl) dX5_surplusOfLast_239 (fun H locs hW => ?_)
  refine lv_pop hx hb dX5_surplusOfLast_242 rfl ?_
  refine lv_iinc (v := (x11 + 1)) (lv' := [(11, .int (x11 + 1)), (9, .long y232), (12, .long z0), (0, .ref (h 0)), (1, .int x1), (2, .long x2), (4, .int x4), (5, .long x5), (7, .long x7)]) hx hb dX5_surplusOfLast_243 hl (k := 8) rfl rfl (by decide) rfl (fun ls hl => ?_)
  refine lv_goto (tgt := 154) hx hb dX5_surplusOfLast_246 (by decide) ?_
  exact hk154 _ _ _ _ _ _ _ _ _ _ _ hf hW (lv_sub hl [3, 4, 5, 6, 7, 8, 1, 0] rfl)
set_option maxHeartbeats 4000000 in
set_option maxRecDepth 100000 in
theorem wk_X5_surplusOfLast_154 (C0 : CallFix p m c cX5_surplusOfLast 14 s args wsX5_surplusOfLast RX5) {S' : sc_M} (hR : sc_Rv p l e rm_X5_surplusOfLast s m args below meth c Q cX5_surplusOfLast (sc_EM dC dI h cy) S') : ∀ n : Nat, ∀ (S : sc_M) (x1 : Int32) (x2 : Int64) (x4 : Int32) (x5 : Int64) (x7 : Int64) (x9 : Int64) (x11 : Int32) (H : Heap) (locs : List Loc) (ls : Array Slot), fn_X5_surplusOfLast_154 n S x1 x2 x4 x5 x7 x9 x11 = some S' → sc_W (sc_EM dC dI h cy) s H locs S → lv_has ls 14 [(0, .ref (h 0)), (1, .int x1), (2, .long x2), (4, .int x4), (5, .long x5), (7, .long x7), (9, .long x9), (11, .int x11)] → W p l e rm_X5_surplusOfLast s m args below meth c H locs 0 0 Q (F0 m 154 ls []) := by
  obtain ⟨hx, hb, hml, hown, hts⟩ := id C0
  intro n
  induction n with
  | zero => intro S x1 x2 x4 x5 x7 x9 x11 H locs ls; intro hf; cases hf
  | succ n ih =>
    intro S x1 x2 x4 x5 x7 x9 x11 H locs ls hf hW hl
    rw [fn_X5_surplusOfLast_154] at hf
    refine lv_iload hx hb dX5_surplusOfLast_154 (lv_at hl 7 rfl) ?_
    refine lv_aload_n hx hb dX5_surplusOfLast_156 rfl (lv_at hl 0 rfl) ?_
    refine sc_getX5 C0 hW ni_X5_surplusOfLast_X5 3 (Nat.le_of_ble_eq_true rfl) lk_X5_surplusOfLast_104 (v := .int (sc_gi S 1)) rfl dX5_surplusOfLast_157 ?_
    refine lv_icmp_ge (tgt := 249) hx hb dX5_surplusOfLast_160 (by decide) (fun hc => ?_) (fun hc => ?_)
    · replace hf := sc_ip hc hf
      refine lv_lload hx hb dX5_surplusOfLast_249 (lv_at hl 5 rfl) ?_
      refine lv_lload_n hx hb dX5_surplusOfLast_251 rfl (lv_at hl 2 rfl) ?_
      refine sc_l_le (tgt := 272) C0 dX5_surplusOfLast_252 dX5_surplusOfLast_253 (by decide) (fun hc => ?_) (fun hc => ?_)
      · replace hf := sc_ip hc hf
        refine lv_aload_n hx hb dX5_surplusOfLast_272 rfl (lv_at hl 0 rfl) ?_
        refine lv_dup hx hb dX5_surplusOfLast_273 rfl ?_
        refine sc_getX5 C0 hW ni_X5_surplusOfLast_X5 35 (Nat.le_of_ble_eq_true rfl) lk_X5_surplusOfLast_153 (v := .long (sc_gj S 1)) rfl dX5_surplusOfLast_274 ?_
        refine lv_lload_n hx hb dX5_surplusOfLast_277 rfl (lv_at hl 2 rfl) ?_
        refine lv_lload hx hb dX5_surplusOfLast_278 (lv_at hl 5 rfl) ?_
        refine lv_lsub hx hb dX5_surplusOfLast_280 ?_
        refine lv_ladd hx hb dX5_surplusOfLast_281 ?_
        obtain ⟨S282, eS282, hf⟩ := sc_sq_s hf
        refine sc_putX5_idleNow C0 hW ni_X5_surplusOfLast_X5 lk_X5_surplusOfLast_153 eS282 dX5_surplusOfLast_282 (fun H locs hW => ?_)
        exact sc_retv hR hf hW dX5_surplusOfLast_285
      · replace hf := sc_in hc hf
        refine lv_aload_n hx hb dX5_surplusOfLast_256 rfl (lv_at hl 0 rfl) ?_
        refine lv_dup hx hb dX5_surplusOfLast_257 rfl ?_
        refine sc_getX5 C0 hW ni_X5_surplusOfLast_X5 36 (Nat.le_of_ble_eq_true rfl) lk_X5_surplusOfLast_156 (v := .long (sc_gj S 2)) rfl dX5_surplusOfLast_258 ?_
        refine lv_lload_n hx hb dX5_surplusOfLast_261 rfl (lv_at hl 2 rfl) ?_
        refine lv_lload hx hb dX5_surplusOfLast_262 (lv_at hl 6 rfl) ?_
        refine lv_lsub hx hb dX5_surplusOfLast_264 ?_
        refine lv_ladd hx hb dX5_surplusOfLast_265 ?_
        obtain ⟨S266, eS266, hf⟩ := sc_sq_s hf
        refine sc_putX5_lostNow C0 hW ni_X5_surplusOfLast_X5 lk_X5_surplusOfLast_156 eS266 dX5_surplusOfLast_266 (fun H locs hW => ?_)
        refine lv_goto (tgt := 285) hx hb dX5_surplusOfLast_269 (by decide) ?_
        exact sc_retv hR hf hW dX5_surplusOfLast_285
    · replace hf := sc_in hc hf
      refine lv_aload_n hx hb dX5_surplusOfLast_163 rfl (lv_at hl 0 rfl) ?_
      refine sc_getX5 C0 hW ni_X5_surplusOfLast_X5 31 (Nat.le_of_ble_eq_true rfl) lk_X5_surplusOfLast_81 (v := .ref (h 24)) rfl dX5_surplusOfLast_164 ?_
      refine lv_iload hx hb dX5_surplusOfLast_167 (lv_at hl 7 rfl) ?_
      obtain ⟨hv, hf⟩ := sc_ck_s hf
      refine sc_ldM_24 C0 hW hv dX5_surplusOfLast_169 ?_
      refine lv_iload_n hx hb dX5_surplusOfLast_170 rfl (lv_at hl 1 rfl) ?_
      refine lv_icmp_ne (tgt := 243) hx hb dX5_surplusOfLast_171 (by decide) (fun hc => ?_) (fun hc => ?_)
      · replace hf := sc_in hc hf
        refine lv_iinc (v := (x11 + 1)) (lv' := [(11, .int (x11 + 1)), (0, .ref (h 0)), (1, .int x1), (2, .long x2), (4, .int x4), (5, .long x5), (7, .long x7), (9, .long x9)]) hx hb dX5_surplusOfLast_243 hl (k := 7) rfl rfl (by decide) rfl (fun ls hl => ?_)
        refine lv_goto (tgt := 154) hx hb dX5_surplusOfLast_246 (by decide) ?_
        exact ih _ _ _ _ _ _ _ _ _ _ _ hf hW (lv_sub hl [1, 2, 3, 4, 5, 6, 7, 0] rfl)
      · replace hf := sc_ip hc hf
        refine lv_aload_n hx hb dX5_surplusOfLast_174 rfl (lv_at hl 0 rfl) ?_
        refine sc_getX5 C0 hW ni_X5_surplusOfLast_X5 33 (Nat.le_of_ble_eq_true rfl) lk_X5_surplusOfLast_87 (v := .ref (h 26)) rfl dX5_surplusOfLast_175 ?_
        refine lv_iload hx hb dX5_surplusOfLast_178 (lv_at hl 7 rfl) ?_
        obtain ⟨hv, hf⟩ := sc_ck_s hf
        refine sc_ldM_26 C0 hW hv dX5_surplusOfLast_180 ?_
        refine lv_iload hx hb dX5_surplusOfLast_181 (lv_at hl 3 rfl) ?_
        refine lv_icmp_ne (tgt := 243) hx hb dX5_surplusOfLast_183 (by decide) (fun hc => ?_) (fun hc => ?_)
        · replace hf := sc_in hc hf
          refine lv_iinc (v := (x11 + 1)) (lv' := [(11, .int (x11 + 1)), (0, .ref (h 0)), (1, .int x1), (2, .long x2), (4, .int x4), (5, .long x5), (7, .long x7), (9, .long x9)]) hx hb dX5_surplusOfLast_243 hl (k := 7) rfl rfl (by decide) rfl (fun ls hl => ?_)
          refine lv_goto (tgt := 154) hx hb dX5_surplusOfLast_246 (by decide) ?_
          exact ih _ _ _ _ _ _ _ _ _ _ _ hf hW (lv_sub hl [1, 2, 3, 4, 5, 6, 7, 0] rfl)
        · replace hf := sc_ip hc hf
          refine lv_aload_n hx hb dX5_surplusOfLast_186 rfl (lv_at hl 0 rfl) ?_
          refine lv_iload hx hb dX5_surplusOfLast_187 (lv_at hl 7 rfl) ?_
          obtain ⟨r189, S189, hc, hf⟩ := sc_cl_s hf
          refine sc_callVi (As := [.int x11]) (rest := []) (q0 := 0) (ci := 4) sc_okM C0 hW (ct_X5_next hc) (cwV 1 hts gX5_surplusOfLast_X5_next rfl rfl rfl (by decide +kernel) ⟨Nat.le_of_ble_eq_true rfl, Nat.le_of_ble_eq_true rfl⟩) rfl rfl rfl rfl hl.1 rfl (Nat.le_of_ble_eq_true rfl) dX5_surplusOfLast_189 (fun H locs hW => ?_)
          refine lv_if_lt (tgt := 243) hx hb dX5_surplusOfLast_192 (by decide) (fun hc => ?_) (fun hc => ?_)
          · replace hf := sc_ip hc hf
            refine lv_iinc (v := (x11 + 1)) (lv' := [(11, .int (x11 + 1)), (0, .ref (h 0)), (1, .int x1), (2, .long x2), (4, .int x4), (5, .long x5), (7, .long x7), (9, .long x9)]) hx hb dX5_surplusOfLast_243 hl (k := 7) rfl rfl (by decide) rfl (fun ls hl => ?_)
            refine lv_goto (tgt := 154) hx hb dX5_surplusOfLast_246 (by decide) ?_
            exact ih _ _ _ _ _ _ _ _ _ _ _ hf hW (lv_sub hl [1, 2, 3, 4, 5, 6, 7, 0] rfl)
          · replace hf := sc_in hc hf
            refine lv_lload hx hb dX5_surplusOfLast_195 (lv_at hl 5 rfl) ?_
            refine lv_lload_n hx hb dX5_surplusOfLast_197 rfl (lv_at hl 2 rfl) ?_
            refine sc_l_le (tgt := 209) C0 dX5_surplusOfLast_198 dX5_surplusOfLast_199 (by decide) (fun hc => ?_) (fun hc => ?_)
            · replace hf := sc_ip hc hf
              refine lv_aload_n hx hb dX5_surplusOfLast_209 rfl (lv_at hl 0 rfl) ?_
              refine sc_getX5 C0 hW ni_X5_surplusOfLast_X5 32 (Nat.le_of_ble_eq_true rfl) lk_X5_surplusOfLast_84 (v := .ref (h 25)) rfl dX5_surplusOfLast_210 ?_
              refine lv_iload hx hb dX5_surplusOfLast_213 (lv_at hl 7 rfl) ?_
              obtain ⟨hv, hf⟩ := sc_ck_s hf
              refine sc_ldM_25 C0 hW hv dX5_surplusOfLast_215 ?_
              exact wk_X5_surplusOfLast_216 C0 hR ih _ _ _ _ _ _ _ _ _ _ _ _ hf hW (lv_sub hl [0, 1, 2, 3, 4, 5, 6, 7] rfl)
            · replace hf := sc_in hc hf
              refine lv_lload_n hx hb dX5_surplusOfLast_202 rfl (lv_at hl 2 rfl) ?_
              refine lv_lload hx hb dX5_surplusOfLast_203 (lv_at hl 4 rfl) ?_
              obtain ⟨hz, hf⟩ := sc_nl_s hf
              refine lv_ldiv hx hb dX5_surplusOfLast_205 hz ?_
              refine lv_goto (tgt := 216) hx hb dX5_surplusOfLast_206 (by decide) ?_
              exact wk_X5_surplusOfLast_216 C0 hR ih _ _ _ _ _ _ _ _ _ _ _ _ hf hW (lv_sub hl [0, 1, 2, 3, 4, 5, 6, 7] rfl)
set_option maxHeartbeats 4000000 in
set_option maxRecDepth 100000 in
theorem wk_X5_surplusOfLast_67 (C0 : CallFix p m c cX5_surplusOfLast 14 s args wsX5_surplusOfLast RX5) {S' : sc_M} (hR : sc_Rv p l e rm_X5_surplusOfLast s m args below meth c Q cX5_surplusOfLast (sc_EM dC dI h cy) S') : ∀ n : Nat, ∀ (S : sc_M) (x1 : Int32) (x2 : Int64) (x4 : Int32) (x5 : Int64) (x7 : Int64) (x9 : Int32) (H : Heap) (locs : List Loc) (ls : Array Slot), fn_X5_surplusOfLast_67 n S x1 x2 x4 x5 x7 x9 = some S' → sc_W (sc_EM dC dI h cy) s H locs S → lv_has ls 14 [(0, .ref (h 0)), (1, .int x1), (2, .long x2), (4, .int x4), (5, .long x5), (7, .long x7), (9, .int x9)] → W p l e rm_X5_surplusOfLast s m args below meth c H locs 0 0 Q (F0 m 67 ls []) := by
  obtain ⟨hx, hb, hml, hown, hts⟩ := id C0
  intro n
  induction n with
  | zero => intro S x1 x2 x4 x5 x7 x9 H locs ls; intro hf; cases hf
  | succ n ih =>
    intro S x1 x2 x4 x5 x7 x9 H locs ls hf hW hl
    rw [fn_X5_surplusOfLast_67] at hf
    refine lv_iload hx hb dX5_surplusOfLast_67 (lv_at hl 6 rfl) ?_
    refine lv_aload_n hx hb dX5_surplusOfLast_69 rfl (lv_at hl 0 rfl) ?_
    refine sc_getX5 C0 hW ni_X5_surplusOfLast_X5 3 (Nat.le_of_ble_eq_true rfl) lk_X5_surplusOfLast_104 (v := .int (sc_gi S 1)) rfl dX5_surplusOfLast_70 ?_
    refine lv_icmp_ge (tgt := 148) hx hb dX5_surplusOfLast_73 (by decide) (fun hc => ?_) (fun hc => ?_)
    · replace hf := sc_ip hc hf
      refine lv_lconst (v := (0 : Int64)) hx hb dX5_surplusOfLast_148 (by decide) ?_
      refine lv_lstore (lv' := [(9, .long (0 : Int64)), (0, .ref (h 0)), (1, .int x1), (2, .long x2), (4, .int x4), (5, .long x5), (7, .long x7)]) hx hb dX5_surplusOfLast_149 hl (by decide) rfl (fun ls hl => ?_)
      refine lv_iconst (v := (0 : Int32)) hx hb dX5_surplusOfLast_151 (by decide) ?_
      refine lv_istore (lv' := [(11, .int (0 : Int32)), (9, .long (0 : Int64)), (0, .ref (h 0)), (1, .int x1), (2, .long x2), (4, .int x4), (5, .long x5), (7, .long x7)]) hx hb dX5_surplusOfLast_152 hl (by decide) rfl (fun ls hl => ?_)
      exact wk_X5_surplusOfLast_154 C0 hR  sc_FU _ _ _ _ _ _ _ _ _ _ _ hf hW (lv_sub hl [2, 3, 4, 5, 6, 7, 1, 0] rfl)
    · replace hf := sc_in hc hf
      refine lv_aload_n hx hb dX5_surplusOfLast_76 rfl (lv_at hl 0 rfl) ?_
      refine sc_getX5 C0 hW ni_X5_surplusOfLast_X5 31 (Nat.le_of_ble_eq_true rfl) lk_X5_surplusOfLast_81 (v := .ref (h 24)) rfl dX5_surplusOfLast_77 ?_
      refine lv_iload hx hb dX5_surplusOfLast_80 (lv_at hl 6 rfl) ?_
      obtain ⟨hv, hf⟩ := sc_ck_s hf
      refine sc_ldM_24 C0 hW hv dX5_surplusOfLast_82 ?_
      refine lv_iload_n hx hb dX5_surplusOfLast_83 rfl (lv_at hl 1 rfl) ?_
      refine lv_icmp_ne (tgt := 142) hx hb dX5_surplusOfLast_84 (by decide) (fun hc => ?_) (fun hc => ?_)
      · replace hf := sc_in hc hf
        refine lv_iinc (v := (x9 + 1)) (lv' := [(9, .int (x9 + 1)), (0, .ref (h 0)), (1, .int x1), (2, .long x2), (4, .int x4), (5, .long x5), (7, .long x7)]) hx hb dX5_surplusOfLast_142 hl (k := 6) rfl rfl (by decide) rfl (fun ls hl => ?_)
        refine lv_goto (tgt := 67) hx hb dX5_surplusOfLast_145 (by decide) ?_
        exact ih _ _ _ _ _ _ _ _ _ _ hf hW (lv_sub hl [1, 2, 3, 4, 5, 6, 0] rfl)
      · replace hf := sc_ip hc hf
        refine lv_aload_n hx hb dX5_surplusOfLast_87 rfl (lv_at hl 0 rfl) ?_
        refine sc_getX5 C0 hW ni_X5_surplusOfLast_X5 33 (Nat.le_of_ble_eq_true rfl) lk_X5_surplusOfLast_87 (v := .ref (h 26)) rfl dX5_surplusOfLast_88 ?_
        refine lv_iload hx hb dX5_surplusOfLast_91 (lv_at hl 6 rfl) ?_
        obtain ⟨hv, hf⟩ := sc_ck_s hf
        refine sc_ldM_26 C0 hW hv dX5_surplusOfLast_93 ?_
        refine lv_iload hx hb dX5_surplusOfLast_94 (lv_at hl 3 rfl) ?_
        refine lv_icmp_ne (tgt := 142) hx hb dX5_surplusOfLast_96 (by decide) (fun hc => ?_) (fun hc => ?_)
        · replace hf := sc_in hc hf
          refine lv_iinc (v := (x9 + 1)) (lv' := [(9, .int (x9 + 1)), (0, .ref (h 0)), (1, .int x1), (2, .long x2), (4, .int x4), (5, .long x5), (7, .long x7)]) hx hb dX5_surplusOfLast_142 hl (k := 6) rfl rfl (by decide) rfl (fun ls hl => ?_)
          refine lv_goto (tgt := 67) hx hb dX5_surplusOfLast_145 (by decide) ?_
          exact ih _ _ _ _ _ _ _ _ _ _ hf hW (lv_sub hl [1, 2, 3, 4, 5, 6, 0] rfl)
        · replace hf := sc_ip hc hf
          refine lv_aload_n hx hb dX5_surplusOfLast_99 rfl (lv_at hl 0 rfl) ?_
          refine lv_iload hx hb dX5_surplusOfLast_100 (lv_at hl 6 rfl) ?_
          obtain ⟨r102, S102, hc, hf⟩ := sc_cl_s hf
          refine sc_callVi (As := [.int x9]) (rest := []) (q0 := 0) (ci := 4) sc_okM C0 hW (ct_X5_next hc) (cwV 1 hts gX5_surplusOfLast_X5_next rfl rfl rfl (by decide +kernel) ⟨Nat.le_of_ble_eq_true rfl, Nat.le_of_ble_eq_true rfl⟩) rfl rfl rfl rfl hl.1 rfl (Nat.le_of_ble_eq_true rfl) dX5_surplusOfLast_102 (fun H locs hW => ?_)
          refine lv_if_lt (tgt := 142) hx hb dX5_surplusOfLast_105 (by decide) (fun hc => ?_) (fun hc => ?_)
          · replace hf := sc_ip hc hf
            refine lv_iinc (v := (x9 + 1)) (lv' := [(9, .int (x9 + 1)), (0, .ref (h 0)), (1, .int x1), (2, .long x2), (4, .int x4), (5, .long x5), (7, .long x7)]) hx hb dX5_surplusOfLast_142 hl (k := 6) rfl rfl (by decide) rfl (fun ls hl => ?_)
            refine lv_goto (tgt := 67) hx hb dX5_surplusOfLast_145 (by decide) ?_
            exact ih _ _ _ _ _ _ _ _ _ _ hf hW (lv_sub hl [1, 2, 3, 4, 5, 6, 0] rfl)
          · replace hf := sc_in hc hf
            refine lv_lload hx hb dX5_surplusOfLast_108 (lv_at hl 4 rfl) ?_
            refine lv_aload_n hx hb dX5_surplusOfLast_110 rfl (lv_at hl 0 rfl) ?_
            refine sc_getX5 C0 hW ni_X5_surplusOfLast_X5 4 (Nat.le_of_ble_eq_true rfl) lk_X5_surplusOfLast_17 (v := .ref (h 3)) rfl dX5_surplusOfLast_111 ?_
            refine lv_iload hx hb dX5_surplusOfLast_114 (lv_at hl 6 rfl) ?_
            obtain ⟨hv, hf⟩ := sc_ck_s hf
            refine sc_ldM_3 C0 hW hv dX5_surplusOfLast_116 ?_
            refine lv_i2l hx hb dX5_surplusOfLast_117 rfl ?_
            refine lv_ladd hx hb dX5_surplusOfLast_118 ?_
            obtain ⟨y119, ey119, hf⟩ := sc_sq_s hf
            refine sc_topl ey119 ?_
            refine lv_lstore (lv' := [(5, .long y119), (0, .ref (h 0)), (1, .int x1), (2, .long x2), (4, .int x4), (7, .long x7), (9, .int x9)]) hx hb dX5_surplusOfLast_119 hl (by decide) rfl (fun ls hl => ?_)
            refine lv_lload hx hb dX5_surplusOfLast_121 (lv_at hl 5 rfl) ?_
            refine lv_aload_n hx hb dX5_surplusOfLast_123 rfl (lv_at hl 1 rfl) ?_
            refine sc_getX5 C0 hW ni_X5_surplusOfLast_X5 4 (Nat.le_of_ble_eq_true rfl) lk_X5_surplusOfLast_17 (v := .ref (h 3)) rfl dX5_surplusOfLast_124 ?_
            refine lv_iload hx hb dX5_surplusOfLast_127 (lv_at hl 6 rfl) ?_
            obtain ⟨hv, hf⟩ := sc_ck_s hf
            refine sc_ldM_3 C0 hW hv dX5_surplusOfLast_129 ?_
            refine lv_i2l hx hb dX5_surplusOfLast_130 rfl ?_
            refine lv_aload_n hx hb dX5_surplusOfLast_131 rfl (lv_at hl 1 rfl) ?_
            refine sc_getX5 C0 hW ni_X5_surplusOfLast_X5 32 (Nat.le_of_ble_eq_true rfl) lk_X5_surplusOfLast_84 (v := .ref (h 25)) rfl dX5_surplusOfLast_132 ?_
            refine lv_iload hx hb dX5_surplusOfLast_135 (lv_at hl 6 rfl) ?_
            obtain ⟨hv, hf⟩ := sc_ck_s hf
            refine sc_ldM_25 C0 hW hv dX5_surplusOfLast_137 ?_
            refine lv_lmul hx hb dX5_surplusOfLast_138 ?_
            refine lv_ladd hx hb dX5_surplusOfLast_139 ?_
            obtain ⟨y140, ey140, hf⟩ := sc_sq_s hf
            refine sc_topl ey140 ?_
            refine lv_lstore (lv' := [(7, .long y140), (5, .long y119), (0, .ref (h 0)), (1, .int x1), (2, .long x2), (4, .int x4), (9, .int x9)]) hx hb dX5_surplusOfLast_140 hl (by decide) rfl (fun ls hl => ?_)
            refine lv_iinc (v := (x9 + 1)) (lv' := [(9, .int (x9 + 1)), (7, .long y140), (5, .long y119), (0, .ref (h 0)), (1, .int x1), (2, .long x2), (4, .int x4)]) hx hb dX5_surplusOfLast_142 hl (k := 6) rfl rfl (by decide) rfl (fun ls hl => ?_)
            refine lv_goto (tgt := 67) hx hb dX5_surplusOfLast_145 (by decide) ?_
            exact ih _ _ _ _ _ _ _ _ _ _ hf hW (lv_sub hl [3, 4, 5, 6, 2, 1, 0] rfl)
set_option maxHeartbeats 4000000 in
set_option maxRecDepth 100000 in
theorem wk_X5_surplusOfLast_6 (C0 : CallFix p m c cX5_surplusOfLast 14 s args wsX5_surplusOfLast RX5) {S' : sc_M} (hR : sc_Rv p l e rm_X5_surplusOfLast s m args below meth c Q cX5_surplusOfLast (sc_EM dC dI h cy) S') : ∀ n : Nat, ∀ (S : sc_M) (x1 : Int32) (x2 : Int64) (x4 : Int32) (x5 : Int32) (H : Heap) (locs : List Loc) (ls : Array Slot), fn_X5_surplusOfLast_6 n S x1 x2 x4 x5 = some S' → sc_W (sc_EM dC dI h cy) s H locs S → lv_has ls 14 [(0, .ref (h 0)), (1, .int x1), (2, .long x2), (4, .int x4), (5, .int x5)] → W p l e rm_X5_surplusOfLast s m args below meth c H locs 0 0 Q (F0 m 6 ls []) := by
  obtain ⟨hx, hb, hml, hown, hts⟩ := id C0
  intro n
  induction n with
  | zero => intro S x1 x2 x4 x5 H locs ls; intro hf; cases hf
  | succ n ih =>
    intro S x1 x2 x4 x5 H locs ls hf hW hl
    rw [fn_X5_surplusOfLast_6] at hf
    refine lv_iload hx hb dX5_surplusOfLast_6 (lv_at hl 4 rfl) ?_
    refine lv_aload_n hx hb dX5_surplusOfLast_8 rfl (lv_at hl 0 rfl) ?_
    refine sc_getX5 C0 hW ni_X5_surplusOfLast_X5 3 (Nat.le_of_ble_eq_true rfl) lk_X5_surplusOfLast_104 (v := .int (sc_gi S 1)) rfl dX5_surplusOfLast_9 ?_
    refine lv_icmp_ge (tgt := 58) hx hb dX5_surplusOfLast_12 (by decide) (fun hc => ?_) (fun hc => ?_)
    · replace hf := sc_ip hc hf
      refine lv_lconst (v := (0 : Int64)) hx hb dX5_surplusOfLast_58 (by decide) ?_
      refine lv_lstore (lv' := [(5, .long (0 : Int64)), (0, .ref (h 0)), (1, .int x1), (2, .long x2), (4, .int x4)]) hx hb dX5_surplusOfLast_59 hl (by decide) rfl (fun ls hl => ?_)
      refine lv_lconst (v := (0 : Int64)) hx hb dX5_surplusOfLast_61 (by decide) ?_
      refine lv_lstore (lv' := [(7, .long (0 : Int64)), (5, .long (0 : Int64)), (0, .ref (h 0)), (1, .int x1), (2, .long x2), (4, .int x4)]) hx hb dX5_surplusOfLast_62 hl (by decide) rfl (fun ls hl => ?_)
      refine lv_iconst (v := (0 : Int32)) hx hb dX5_surplusOfLast_64 (by decide) ?_
      refine lv_istore (lv' := [(9, .int (0 : Int32)), (7, .long (0 : Int64)), (5, .long (0 : Int64)), (0, .ref (h 0)), (1, .int x1), (2, .long x2), (4, .int x4)]) hx hb dX5_surplusOfLast_65 hl (by decide) rfl (fun ls hl => ?_)
      exact wk_X5_surplusOfLast_67 C0 hR  sc_FU _ _ _ _ _ _ _ _ _ _ hf hW (lv_sub hl [3, 4, 5, 6, 2, 1, 0] rfl)
    · replace hf := sc_in hc hf
      refine lv_aload_n hx hb dX5_surplusOfLast_15 rfl (lv_at hl 0 rfl) ?_
      refine sc_getX5 C0 hW ni_X5_surplusOfLast_X5 31 (Nat.le_of_ble_eq_true rfl) lk_X5_surplusOfLast_81 (v := .ref (h 24)) rfl dX5_surplusOfLast_16 ?_
      refine lv_iload hx hb dX5_surplusOfLast_19 (lv_at hl 4 rfl) ?_
      obtain ⟨hv, hf⟩ := sc_ck_s hf
      refine sc_ldM_24 C0 hW hv dX5_surplusOfLast_21 ?_
      refine lv_iload_n hx hb dX5_surplusOfLast_22 rfl (lv_at hl 1 rfl) ?_
      refine lv_icmp_ne (tgt := 48) hx hb dX5_surplusOfLast_23 (by decide) (fun hc => ?_) (fun hc => ?_)
      · replace hf := sc_in hc hf
        refine lv_iload hx hb dX5_surplusOfLast_48 (lv_at hl 3 rfl) ?_
        refine lv_istore (lv' := [(4, .int x4), (0, .ref (h 0)), (1, .int x1), (2, .long x2), (5, .int x5)]) hx hb dX5_surplusOfLast_50 hl (by decide) rfl (fun ls hl => ?_)
        refine lv_iinc (v := (x5 + 1)) (lv' := [(5, .int (x5 + 1)), (4, .int x4), (0, .ref (h 0)), (1, .int x1), (2, .long x2)]) hx hb dX5_surplusOfLast_52 hl (k := 4) rfl rfl (by decide) rfl (fun ls hl => ?_)
        refine lv_goto (tgt := 6) hx hb dX5_surplusOfLast_55 (by decide) ?_
        exact ih _ _ _ _ _ _ _ _ hf hW (lv_sub hl [2, 3, 4, 1, 0] rfl)
      · replace hf := sc_ip hc hf
        refine lv_aload_n hx hb dX5_surplusOfLast_26 rfl (lv_at hl 0 rfl) ?_
        refine sc_getX5 C0 hW ni_X5_surplusOfLast_X5 33 (Nat.le_of_ble_eq_true rfl) lk_X5_surplusOfLast_87 (v := .ref (h 26)) rfl dX5_surplusOfLast_27 ?_
        refine lv_iload hx hb dX5_surplusOfLast_30 (lv_at hl 4 rfl) ?_
        obtain ⟨hv, hf⟩ := sc_ck_s hf
        refine sc_ldM_26 C0 hW hv dX5_surplusOfLast_32 ?_
        refine lv_iload hx hb dX5_surplusOfLast_33 (lv_at hl 3 rfl) ?_
        refine lv_icmp_le (tgt := 48) hx hb dX5_surplusOfLast_35 (by decide) (fun hc => ?_) (fun hc => ?_)
        · replace hf := sc_ip hc hf
          refine lv_iload hx hb dX5_surplusOfLast_48 (lv_at hl 3 rfl) ?_
          refine lv_istore (lv' := [(4, .int x4), (0, .ref (h 0)), (1, .int x1), (2, .long x2), (5, .int x5)]) hx hb dX5_surplusOfLast_50 hl (by decide) rfl (fun ls hl => ?_)
          refine lv_iinc (v := (x5 + 1)) (lv' := [(5, .int (x5 + 1)), (4, .int x4), (0, .ref (h 0)), (1, .int x1), (2, .long x2)]) hx hb dX5_surplusOfLast_52 hl (k := 4) rfl rfl (by decide) rfl (fun ls hl => ?_)
          refine lv_goto (tgt := 6) hx hb dX5_surplusOfLast_55 (by decide) ?_
          exact ih _ _ _ _ _ _ _ _ hf hW (lv_sub hl [2, 3, 4, 1, 0] rfl)
        · replace hf := sc_in hc hf
          refine lv_aload_n hx hb dX5_surplusOfLast_38 rfl (lv_at hl 0 rfl) ?_
          refine sc_getX5 C0 hW ni_X5_surplusOfLast_X5 33 (Nat.le_of_ble_eq_true rfl) lk_X5_surplusOfLast_87 (v := .ref (h 26)) rfl dX5_surplusOfLast_39 ?_
          refine lv_iload hx hb dX5_surplusOfLast_42 (lv_at hl 4 rfl) ?_
          obtain ⟨hv, hf⟩ := sc_ck_s hf
          refine sc_ldM_26 C0 hW hv dX5_surplusOfLast_44 ?_
          refine lv_goto (tgt := 50) hx hb dX5_surplusOfLast_45 (by decide) ?_
          obtain ⟨y50, ey50, hf⟩ := sc_sq_s hf
          refine sc_topi ey50 ?_
          refine lv_istore (lv' := [(4, .int y50), (0, .ref (h 0)), (1, .int x1), (2, .long x2), (5, .int x5)]) hx hb dX5_surplusOfLast_50 hl (by decide) rfl (fun ls hl => ?_)
          refine lv_iinc (v := (x5 + 1)) (lv' := [(5, .int (x5 + 1)), (4, .int y50), (0, .ref (h 0)), (1, .int x1), (2, .long x2)]) hx hb dX5_surplusOfLast_52 hl (k := 4) rfl rfl (by decide) rfl (fun ls hl => ?_)
          refine lv_goto (tgt := 6) hx hb dX5_surplusOfLast_55 (by decide) ?_
          exact ih _ _ _ _ _ _ _ _ hf hW (lv_sub hl [2, 3, 4, 1, 0] rfl)
set_option maxHeartbeats 4000000 in
set_option maxRecDepth 100000 in
theorem wk_X5_surplusOfLast_0 (C0 : CallFix p m c cX5_surplusOfLast 14 s args wsX5_surplusOfLast RX5) {S' : sc_M} (hR : sc_Rv p l e rm_X5_surplusOfLast s m args below meth c Q cX5_surplusOfLast (sc_EM dC dI h cy) S') : ∀ (S : sc_M) (x1 : Int32) (x2 : Int64) (H : Heap) (locs : List Loc) (ls : Array Slot), fn_X5_surplusOfLast S x1 x2 = some S' → sc_W (sc_EM dC dI h cy) s H locs S → lv_has ls 14 [(0, .ref (h 0)), (1, .int x1), (2, .long x2)] → W p l e rm_X5_surplusOfLast s m args below meth c H locs 0 0 Q (F0 m 0 ls []) := by
  obtain ⟨hx, hb, hml, hown, hts⟩ := id C0
  intro S x1 x2 H locs ls hf hW hl
  rw [fn_X5_surplusOfLast] at hf
  refine lv_iconst (v := (-1 : Int32)) hx hb dX5_surplusOfLast_0 (by decide) ?_
  refine lv_istore (lv' := [(4, .int (-1 : Int32)), (0, .ref (h 0)), (1, .int x1), (2, .long x2)]) hx hb dX5_surplusOfLast_1 hl (by decide) rfl (fun ls hl => ?_)
  refine lv_iconst (v := (0 : Int32)) hx hb dX5_surplusOfLast_3 (by decide) ?_
  refine lv_istore (lv' := [(5, .int (0 : Int32)), (4, .int (-1 : Int32)), (0, .ref (h 0)), (1, .int x1), (2, .long x2)]) hx hb dX5_surplusOfLast_4 hl (by decide) rfl (fun ls hl => ?_)
  exact wk_X5_surplusOfLast_6 C0 hR  sc_FU _ _ _ _ _ _ _ _ hf hW (lv_sub hl [2, 3, 4, 1, 0] rfl)
set_option maxRecDepth 100000 in
theorem ct_X5_surplusOfLast {S S' : sc_M} {x1 : Int32} {x2 : Int64} (hf : fn_X5_surplusOfLast S x1 x2 = some S') : sc_Cv l yX5_surplusOfLast wsX5_surplusOfLast rm_X5_surplusOfLast (sc_EM dC dI h cy) [.ref (h 0), .int x1, .long x2] S S' := by
  refine sc_ofv (cc := cX5_surplusOfLast) (maxL := 14) sc_okM (by decide) rfl (Nat.le_of_ble_eq_true rfl) ?_
  intro p e s m below meth c Q C0 hR hW ls hl
  exact wk_X5_surplusOfLast_0 C0 hR _ _ _ _ _ _ hf hW hl
end

/-! ===== SeatCountsModel.transfer(I)V ===== -/
abbrev rm_X5_transfer : Room := { frames := 3, cells := 0, slots := 0, locals := 79 }
theorem lk_X5_transfer_138 : Cond.fieldLink RX5 138 "SeatCountsModel" "quota" "J" ∈ wsX5_transfer := by decide +kernel
theorem lk_X5_transfer_72 : Cond.fieldLink RX5 72 "SeatCountsModel" "votes" "[J" ∈ wsX5_transfer := by decide +kernel
theorem lk_X5_transfer_97 : Cond.fieldLink RX5 97 "SeatCountsModel" "ruleOf" "I" ∈ wsX5_transfer := by decide +kernel
theorem ni_X5_transfer_X5 : ∀ w ∈ wsX50, w ∈ wsX5_transfer := by decide +kernel
noncomputable def fn_X5_transfer (S : sc_M) (x1 : Int32) : Option (sc_M) :=
  sc_ck x1 12 (sc_sq (((sc_gb S 21 x1.toNatClampNeg) - (sc_gj S 0))) (fun y11 => if (2 : Int32) ≤ (sc_gi S 2) then
    sc_cv (fn_X5_surplusOfLast S x1 y11) (fun S32 => sc_ck x1 12 (sc_sq (sc_mB S32 21 (vp_updL (sc_gb S32 21) x1.toNatClampNeg (sc_gj S32 0))) (fun S44 => some S44)))
  else
    sc_cv (fn_X5_surplusOfAll S x1 y11) (fun S23 => sc_ck x1 12 (sc_sq (sc_mB S23 21 (vp_updL (sc_gb S23 21) x1.toNatClampNeg (sc_gj S23 0))) (fun S44 => some S44)))))
section
variable {p : Program} {l : Launch} {e : Env} {s : State} {m : MethodId} {args : Array Value} {below : List Frame} {meth : Method} {c : Code} {Q : State → Prop} {dC : Nat → ClassId} {dI : Nat → Nat → Nat} {h : Nat → Nat} {cy : Nat → ClassId}
set_option maxHeartbeats 4000000 in
set_option maxRecDepth 100000 in
theorem wk_X5_transfer_0 (C0 : CallFix p m c cX5_transfer 4 s args wsX5_transfer RX5) {S' : sc_M} (hR : sc_Rv p l e rm_X5_transfer s m args below meth c Q cX5_transfer (sc_EM dC dI h cy) S') : ∀ (S : sc_M) (x1 : Int32) (H : Heap) (locs : List Loc) (ls : Array Slot), fn_X5_transfer S x1 = some S' → sc_W (sc_EM dC dI h cy) s H locs S → lv_has ls 4 [(0, .ref (h 0)), (1, .int x1)] → W p l e rm_X5_transfer s m args below meth c H locs 0 0 Q (F0 m 0 ls []) := by
  obtain ⟨hx, hb, hml, hown, hts⟩ := id C0
  intro S x1 H locs ls hf hW hl
  rw [fn_X5_transfer] at hf
  refine lv_aload_n hx hb dX5_transfer_0 rfl (lv_at hl 0 rfl) ?_
  refine sc_getX5 C0 hW ni_X5_transfer_X5 28 (Nat.le_of_ble_eq_true rfl) lk_X5_transfer_72 (v := .ref (h 21)) rfl dX5_transfer_1 ?_
  refine lv_iload_n hx hb dX5_transfer_4 rfl (lv_at hl 1 rfl) ?_
  obtain ⟨hv, hf⟩ := sc_ck_s hf
  refine sc_ldM_21 C0 hW hv dX5_transfer_5 ?_
  refine lv_aload_n hx hb dX5_transfer_6 rfl (lv_at hl 0 rfl) ?_
  refine sc_getX5 C0 hW ni_X5_transfer_X5 34 (Nat.le_of_ble_eq_true rfl) lk_X5_transfer_138 (v := .long (sc_gj S 0)) rfl dX5_transfer_7 ?_
  refine lv_lsub hx hb dX5_transfer_10 ?_
  obtain ⟨y11, ey11, hf⟩ := sc_sq_s hf
  refine sc_topl ey11 ?_
  refine lv_lstore_n (lv' := [(2, .long y11), (0, .ref (h 0)), (1, .int x1)]) hx hb dX5_transfer_11 rfl hl (by decide) rfl (fun ls hl => ?_)
  refine lv_aload_n hx hb dX5_transfer_12 rfl (lv_at hl 1 rfl) ?_
  refine sc_getX5 C0 hW ni_X5_transfer_X5 8 (Nat.le_of_ble_eq_true rfl) lk_X5_transfer_97 (v := .int (sc_gi S 2)) rfl dX5_transfer_13 ?_
  refine lv_iconst (v := (2 : Int32)) hx hb dX5_transfer_16 (by decide) ?_
  refine lv_icmp_ge (tgt := 29) hx hb dX5_transfer_17 (by decide) (fun hc => ?_) (fun hc => ?_)
  · replace hf := sc_ip hc hf
    refine lv_aload_n hx hb dX5_transfer_29 rfl (lv_at hl 1 rfl) ?_
    refine lv_iload_n hx hb dX5_transfer_30 rfl (lv_at hl 2 rfl) ?_
    refine lv_lload_n hx hb dX5_transfer_31 rfl (lv_at hl 0 rfl) ?_
    obtain ⟨S32, hc, hf⟩ := sc_cv_s hf
    refine sc_callVv (As := [.int x1, .long y11]) (rest := []) (q0 := 0) (ci := 4) sc_okM C0 hW (ct_X5_surplusOfLast hc) (cwV 2 hts gX5_transfer_X5_surplusOfLast rfl rfl rfl (by decide +kernel) ⟨Nat.le_of_ble_eq_true rfl, Nat.le_of_ble_eq_true rfl⟩) rfl rfl rfl rfl hl.1 rfl (Nat.le_of_ble_eq_true rfl) dX5_transfer_32 (fun H locs hW => ?_)
    refine lv_aload_n hx hb dX5_transfer_35 rfl (lv_at hl 1 rfl) ?_
    refine sc_getX5 C0 hW ni_X5_transfer_X5 28 (Nat.le_of_ble_eq_true rfl) lk_X5_transfer_72 (v := .ref (h 21)) rfl dX5_transfer_36 ?_
    refine lv_iload_n hx hb dX5_transfer_39 rfl (lv_at hl 2 rfl) ?_
    refine lv_aload_n hx hb dX5_transfer_40 rfl (lv_at hl 1 rfl) ?_
    refine sc_getX5 C0 hW ni_X5_transfer_X5 34 (Nat.le_of_ble_eq_true rfl) lk_X5_transfer_138 (v := .long (sc_gj S32 0)) rfl dX5_transfer_41 ?_
    obtain ⟨hv, hf⟩ := sc_ck_s hf
    obtain ⟨S44, eS44, hf⟩ := sc_sq_s hf
    refine sc_stM_21 C0 hW hv eS44 dX5_transfer_44 (fun H locs hW => ?_)
    exact sc_retv hR hf hW dX5_transfer_45
  · replace hf := sc_in hc hf
    refine lv_aload_n hx hb dX5_transfer_20 rfl (lv_at hl 1 rfl) ?_
    refine lv_iload_n hx hb dX5_transfer_21 rfl (lv_at hl 2 rfl) ?_
    refine lv_lload_n hx hb dX5_transfer_22 rfl (lv_at hl 0 rfl) ?_
    obtain ⟨S23, hc, hf⟩ := sc_cv_s hf
    refine sc_callVv (As := [.int x1, .long y11]) (rest := []) (q0 := 0) (ci := 4) sc_okM C0 hW (ct_X5_surplusOfAll hc) (cwV 2 hts gX5_transfer_X5_surplusOfAll rfl rfl rfl (by decide +kernel) ⟨Nat.le_of_ble_eq_true rfl, Nat.le_of_ble_eq_true rfl⟩) rfl rfl rfl rfl hl.1 rfl (Nat.le_of_ble_eq_true rfl) dX5_transfer_23 (fun H locs hW => ?_)
    refine lv_goto (tgt := 35) hx hb dX5_transfer_26 (by decide) ?_
    refine lv_aload_n hx hb dX5_transfer_35 rfl (lv_at hl 1 rfl) ?_
    refine sc_getX5 C0 hW ni_X5_transfer_X5 28 (Nat.le_of_ble_eq_true rfl) lk_X5_transfer_72 (v := .ref (h 21)) rfl dX5_transfer_36 ?_
    refine lv_iload_n hx hb dX5_transfer_39 rfl (lv_at hl 2 rfl) ?_
    refine lv_aload_n hx hb dX5_transfer_40 rfl (lv_at hl 1 rfl) ?_
    refine sc_getX5 C0 hW ni_X5_transfer_X5 34 (Nat.le_of_ble_eq_true rfl) lk_X5_transfer_138 (v := .long (sc_gj S23 0)) rfl dX5_transfer_41 ?_
    obtain ⟨hv, hf⟩ := sc_ck_s hf
    obtain ⟨S44, eS44, hf⟩ := sc_sq_s hf
    refine sc_stM_21 C0 hW hv eS44 dX5_transfer_44 (fun H locs hW => ?_)
    exact sc_retv hR hf hW dX5_transfer_45
set_option maxRecDepth 100000 in
theorem ct_X5_transfer {S S' : sc_M} {x1 : Int32} (hf : fn_X5_transfer S x1 = some S') : sc_Cv l yX5_transfer wsX5_transfer rm_X5_transfer (sc_EM dC dI h cy) [.ref (h 0), .int x1] S S' := by
  refine sc_ofv (cc := cX5_transfer) (maxL := 4) sc_okM (by decide) rfl (Nat.le_of_ble_eq_true rfl) ?_
  intro p e s m below meth c Q C0 hR hW ls hl
  exact wk_X5_transfer_0 C0 hR _ _ _ _ _ hf hW hl
end

/-! ===== SeatCountsModel.goesOut(I)V ===== -/
abbrev rm_X5_goesOut : Room := { frames := 2, cells := 0, slots := 0, locals := 46 }
theorem lk_X5_goesOut_104 : Cond.fieldLink RX5 104 "SeatCountsModel" "piles" "I" ∈ wsX5_goesOut := by decide +kernel
theorem lk_X5_goesOut_72 : Cond.fieldLink RX5 72 "SeatCountsModel" "votes" "[J" ∈ wsX5_goesOut := by decide +kernel
theorem lk_X5_goesOut_75 : Cond.fieldLink RX5 75 "SeatCountsModel" "status" "[I" ∈ wsX5_goesOut := by decide +kernel
theorem lk_X5_goesOut_81 : Cond.fieldLink RX5 81 "SeatCountsModel" "place" "[I" ∈ wsX5_goesOut := by decide +kernel
theorem lk_X5_goesOut_84 : Cond.fieldLink RX5 84 "SeatCountsModel" "value" "[J" ∈ wsX5_goesOut := by decide +kernel
theorem ni_X5_goesOut_X5 : ∀ w ∈ wsX50, w ∈ wsX5_goesOut := by decide +kernel
noncomputable def fn_X5_goesOut_9 : Nat → sc_M → Int32 → Int32 → Option (sc_M)
  | 0, _, _, _ => none
  | n + 1, S, x1, x2 =>
    if (sc_gi S 1) ≤ x2 then
      sc_ck x1 12 (sc_sq (sc_mB S 21 (vp_updL (sc_gb S 21) x1.toNatClampNeg (0 : Int64))) (fun S51 => some S51))
    else
      sc_ck x2 80 (if (sc_ga S 24 x2.toNatClampNeg) = x1 then
        sc_ck x2 80 (sc_cl (fn_X5_goes S x2 (sc_gb S 25 x2.toNatClampNeg)) (fun r35 S35 => fn_X5_goesOut_9 n S35 x1 (x2 + 1)))
      else
        fn_X5_goesOut_9 n S x1 (x2 + 1))
noncomputable def fn_X5_goesOut (S : sc_M) (x1 : Int32) : Option (sc_M) :=
  sc_ck x1 12 (sc_sq (sc_mA S 22 (upd (sc_ga S 22) x1.toNatClampNeg (2 : Int32))) (fun S6 => fn_X5_goesOut_9 sc_FU S6 x1 (0 : Int32)))
section
variable {p : Program} {l : Launch} {e : Env} {s : State} {m : MethodId} {args : Array Value} {below : List Frame} {meth : Method} {c : Code} {Q : State → Prop} {dC : Nat → ClassId} {dI : Nat → Nat → Nat} {h : Nat → Nat} {cy : Nat → ClassId}
set_option maxHeartbeats 4000000 in
set_option maxRecDepth 100000 in
theorem wk_X5_goesOut_9 (C0 : CallFix p m c cX5_goesOut 3 s args wsX5_goesOut RX5) {S' : sc_M} (hR : sc_Rv p l e rm_X5_goesOut s m args below meth c Q cX5_goesOut (sc_EM dC dI h cy) S') : ∀ n : Nat, ∀ (S : sc_M) (x1 : Int32) (x2 : Int32) (H : Heap) (locs : List Loc) (ls : Array Slot), fn_X5_goesOut_9 n S x1 x2 = some S' → sc_W (sc_EM dC dI h cy) s H locs S → lv_has ls 3 [(0, .ref (h 0)), (1, .int x1), (2, .int x2)] → W p l e rm_X5_goesOut s m args below meth c H locs 0 0 Q (F0 m 9 ls []) := by
  obtain ⟨hx, hb, hml, hown, hts⟩ := id C0
  intro n
  induction n with
  | zero => intro S x1 x2 H locs ls; intro hf; cases hf
  | succ n ih =>
    intro S x1 x2 H locs ls hf hW hl
    rw [fn_X5_goesOut_9] at hf
    refine lv_iload_n hx hb dX5_goesOut_9 rfl (lv_at hl 2 rfl) ?_
    refine lv_aload_n hx hb dX5_goesOut_10 rfl (lv_at hl 0 rfl) ?_
    refine sc_getX5 C0 hW ni_X5_goesOut_X5 3 (Nat.le_of_ble_eq_true rfl) lk_X5_goesOut_104 (v := .int (sc_gi S 1)) rfl dX5_goesOut_11 ?_
    refine lv_icmp_ge (tgt := 45) hx hb dX5_goesOut_14 (by decide) (fun hc => ?_) (fun hc => ?_)
    · replace hf := sc_ip hc hf
      refine lv_aload_n hx hb dX5_goesOut_45 rfl (lv_at hl 0 rfl) ?_
      refine sc_getX5 C0 hW ni_X5_goesOut_X5 28 (Nat.le_of_ble_eq_true rfl) lk_X5_goesOut_72 (v := .ref (h 21)) rfl dX5_goesOut_46 ?_
      refine lv_iload_n hx hb dX5_goesOut_49 rfl (lv_at hl 1 rfl) ?_
      refine lv_lconst (v := (0 : Int64)) hx hb dX5_goesOut_50 (by decide) ?_
      obtain ⟨hv, hf⟩ := sc_ck_s hf
      obtain ⟨S51, eS51, hf⟩ := sc_sq_s hf
      refine sc_stM_21 C0 hW hv eS51 dX5_goesOut_51 (fun H locs hW => ?_)
      exact sc_retv hR hf hW dX5_goesOut_52
    · replace hf := sc_in hc hf
      refine lv_aload_n hx hb dX5_goesOut_17 rfl (lv_at hl 0 rfl) ?_
      refine sc_getX5 C0 hW ni_X5_goesOut_X5 31 (Nat.le_of_ble_eq_true rfl) lk_X5_goesOut_81 (v := .ref (h 24)) rfl dX5_goesOut_18 ?_
      refine lv_iload_n hx hb dX5_goesOut_21 rfl (lv_at hl 2 rfl) ?_
      obtain ⟨hv, hf⟩ := sc_ck_s hf
      refine sc_ldM_24 C0 hW hv dX5_goesOut_22 ?_
      refine lv_iload_n hx hb dX5_goesOut_23 rfl (lv_at hl 1 rfl) ?_
      refine lv_icmp_ne (tgt := 39) hx hb dX5_goesOut_24 (by decide) (fun hc => ?_) (fun hc => ?_)
      · replace hf := sc_in hc hf
        refine lv_iinc (v := (x2 + 1)) (lv' := [(2, .int (x2 + 1)), (0, .ref (h 0)), (1, .int x1)]) hx hb dX5_goesOut_39 hl (k := 2) rfl rfl (by decide) rfl (fun ls hl => ?_)
        refine lv_goto (tgt := 9) hx hb dX5_goesOut_42 (by decide) ?_
        exact ih _ _ _ _ _ _ hf hW (lv_sub hl [1, 2, 0] rfl)
      · replace hf := sc_ip hc hf
        refine lv_aload_n hx hb dX5_goesOut_27 rfl (lv_at hl 0 rfl) ?_
        refine lv_iload_n hx hb dX5_goesOut_28 rfl (lv_at hl 2 rfl) ?_
        refine lv_aload_n hx hb dX5_goesOut_29 rfl (lv_at hl 0 rfl) ?_
        refine sc_getX5 C0 hW ni_X5_goesOut_X5 32 (Nat.le_of_ble_eq_true rfl) lk_X5_goesOut_84 (v := .ref (h 25)) rfl dX5_goesOut_30 ?_
        refine lv_iload_n hx hb dX5_goesOut_33 rfl (lv_at hl 2 rfl) ?_
        obtain ⟨hv, hf⟩ := sc_ck_s hf
        refine sc_ldM_25 C0 hW hv dX5_goesOut_34 ?_
        obtain ⟨r35, S35, hc, hf⟩ := sc_cl_s hf
        refine sc_callVi (As := [.int x2, .long (sc_gb S 25 x2.toNatClampNeg)]) (rest := []) (q0 := 0) (ci := 4) sc_okM C0 hW (ct_X5_goes hc) (cwV 2 hts gX5_goesOut_X5_goes rfl rfl rfl (by decide +kernel) ⟨Nat.le_of_ble_eq_true rfl, Nat.le_of_ble_eq_true rfl⟩) rfl rfl rfl rfl hl.1 rfl (Nat.le_of_ble_eq_true rfl) dX5_goesOut_35 (fun H locs hW => ?_)
        refine lv_pop hx hb dX5_goesOut_38 rfl ?_
        refine lv_iinc (v := (x2 + 1)) (lv' := [(2, .int (x2 + 1)), (0, .ref (h 0)), (1, .int x1)]) hx hb dX5_goesOut_39 hl (k := 2) rfl rfl (by decide) rfl (fun ls hl => ?_)
        refine lv_goto (tgt := 9) hx hb dX5_goesOut_42 (by decide) ?_
        exact ih _ _ _ _ _ _ hf hW (lv_sub hl [1, 2, 0] rfl)
set_option maxHeartbeats 4000000 in
set_option maxRecDepth 100000 in
theorem wk_X5_goesOut_0 (C0 : CallFix p m c cX5_goesOut 3 s args wsX5_goesOut RX5) {S' : sc_M} (hR : sc_Rv p l e rm_X5_goesOut s m args below meth c Q cX5_goesOut (sc_EM dC dI h cy) S') : ∀ (S : sc_M) (x1 : Int32) (H : Heap) (locs : List Loc) (ls : Array Slot), fn_X5_goesOut S x1 = some S' → sc_W (sc_EM dC dI h cy) s H locs S → lv_has ls 3 [(0, .ref (h 0)), (1, .int x1)] → W p l e rm_X5_goesOut s m args below meth c H locs 0 0 Q (F0 m 0 ls []) := by
  obtain ⟨hx, hb, hml, hown, hts⟩ := id C0
  intro S x1 H locs ls hf hW hl
  rw [fn_X5_goesOut] at hf
  refine lv_aload_n hx hb dX5_goesOut_0 rfl (lv_at hl 0 rfl) ?_
  refine sc_getX5 C0 hW ni_X5_goesOut_X5 29 (Nat.le_of_ble_eq_true rfl) lk_X5_goesOut_75 (v := .ref (h 22)) rfl dX5_goesOut_1 ?_
  refine lv_iload_n hx hb dX5_goesOut_4 rfl (lv_at hl 1 rfl) ?_
  refine lv_iconst (v := (2 : Int32)) hx hb dX5_goesOut_5 (by decide) ?_
  obtain ⟨hv, hf⟩ := sc_ck_s hf
  obtain ⟨S6, eS6, hf⟩ := sc_sq_s hf
  refine sc_stM_22 C0 hW hv eS6 dX5_goesOut_6 (fun H locs hW => ?_)
  refine lv_iconst (v := (0 : Int32)) hx hb dX5_goesOut_7 (by decide) ?_
  refine lv_istore_n (lv' := [(2, .int (0 : Int32)), (0, .ref (h 0)), (1, .int x1)]) hx hb dX5_goesOut_8 rfl hl (by decide) rfl (fun ls hl => ?_)
  exact wk_X5_goesOut_9 C0 hR  sc_FU _ _ _ _ _ _ hf hW (lv_sub hl [1, 2, 0] rfl)
set_option maxRecDepth 100000 in
theorem ct_X5_goesOut {S S' : sc_M} {x1 : Int32} (hf : fn_X5_goesOut S x1 = some S') : sc_Cv l yX5_goesOut wsX5_goesOut rm_X5_goesOut (sc_EM dC dI h cy) [.ref (h 0), .int x1] S S' := by
  refine sc_ofv (cc := cX5_goesOut) (maxL := 3) sc_okM (by decide) rfl (Nat.le_of_ble_eq_true rfl) ?_
  intro p e s m below meth c Q C0 hR hW ls hl
  exact wk_X5_goesOut_0 C0 hR _ _ _ _ _ hf hW hl
end
