/-! ===== SeatCounts$PaperRules.send(LSeatCounts$House;LSeatCounts$Journal;IJ)J ===== -/
abbrev rm_X3_send : Room := { frames := 2, cells := 0, slots := 0, locals := 46 }
theorem lk_X3_send_123 : Cond.fieldLink RX3 123 "SeatCounts$House" "papers" "[I" ∈ wsX3_send := by decide +kernel
theorem lk_X3_send_134 : Cond.fieldLink RX3 134 "SeatCounts$Journal" "untransferable" "[J" ∈ wsX3_send := by decide +kernel
theorem lk_X3_send_15 : Cond.fieldLink RX3 15 "SeatCounts$PaperRules" "values" "[I" ∈ wsX3_send := by decide +kernel
theorem lk_X3_send_18 : Cond.fieldLink RX3 18 "SeatCounts$PaperRules" "came" "[I" ∈ wsX3_send := by decide +kernel
theorem lk_X3_send_28 : Cond.fieldLink RX3 28 "SeatCounts$PaperRules" "row" "I" ∈ wsX3_send := by decide +kernel
theorem lk_X3_send_9 : Cond.fieldLink RX3 9 "SeatCounts$PaperRules" "holders" "[I" ∈ wsX3_send := by decide +kernel
theorem lk_X3_send_96 : Cond.fieldLink RX3 96 "SeatCounts$Journal" "row" "I" ∈ wsX3_send := by decide +kernel
theorem lk_X3_send_97 : Cond.fieldLink RX3 97 "SeatCounts$Journal" "votes" "[J" ∈ wsX3_send := by decide +kernel
theorem ni_X3_send_X0 : ∀ w ∈ wsX00, w ∈ wsX3_send := by decide +kernel
theorem ni_X3_send_X1 : ∀ w ∈ wsX10, w ∈ wsX3_send := by decide +kernel
theorem ni_X3_send_X3 : ∀ w ∈ wsX30, w ∈ wsX3_send := by decide +kernel
noncomputable def fn_X3_send (S : sc_M) (x3 : Int32) (x4 : Int64) : Option (Int64 × sc_M) :=
  sc_cl (fn_X3_nextOf S x3) (fun r4 S4 => sc_ck x3 80 (sc_sq (((sc_ga S4 6 x3.toNatClampNeg).toInt64 * x4)) (fun y19 => sc_ck ((sc_gi S4 9) + x3) 1040 (sc_sq (sc_mA S4 22 (upd (sc_ga S4 22) ((sc_gi S4 9) + x3).toNatClampNeg r4)) (fun S33 => if r4 = (-9 : Int32) then
    sc_ck ((sc_gi S33 9) + x3) 1040 (sc_sq (sc_mA S33 23 (upd (sc_ga S33 23) ((sc_gi S33 9) + x3).toNatClampNeg (0 : Int32))) (fun S52 => sc_cl (fn_X1_now S52) (fun r58 S58 => sc_ck r58 72 (sc_ck r58 72 (sc_sq (sc_mB S58 15 (vp_updL (sc_gb S58 15) r58.toNatClampNeg ((sc_gb S58 15 r58.toNatClampNeg) + y19))) (fun S66 => some (y19, S66)))))))
  else
    sc_ck ((sc_gi S33 9) + x3) 1040 (sc_sq (sc_mA S33 23 (upd (sc_ga S33 23) ((sc_gi S33 9) + x3).toNatClampNeg (x4.toInt32))) (fun S83 => sc_ck ((sc_gi S83 6) + r4) 864 (sc_ck ((sc_gi S83 6) + r4) 864 (sc_sq (sc_mB S83 19 (vp_updL (sc_gb S83 19) ((sc_gi S83 6) + r4).toNatClampNeg ((sc_gb S83 19 ((sc_gi S83 6) + r4).toNatClampNeg) + y19))) (fun S100 => sc_cl (fn_X1_now S100) (fun r107 S107 => sc_ck x3 80 (sc_sq (sc_mA S107 24 (upd (sc_ga S107 24) x3.toNatClampNeg r107)) (fun S110 => some (y19, S110))))))))))))))
section
variable {p : Program} {l : Launch} {e : Env} {s : State} {m : MethodId} {args : Array Value} {below : List Frame} {meth : Method} {c : Code} {Q : State → Prop} {dC : Nat → ClassId} {dI : Nat → Nat → Nat} {h : Nat → Nat} {cy : Nat → ClassId}
set_option maxHeartbeats 4000000 in
set_option maxRecDepth 100000 in
theorem wk_X3_send_0 (C0 : CallFix p m c cX3_send 9 s args wsX3_send RX3) {S' : sc_M} {r : Int64} (hR : sc_Rl p l e rm_X3_send s m args below meth c Q cX3_send (sc_EX dC dI h cy) S' r) : ∀ (S : sc_M) (x3 : Int32) (x4 : Int64) (H : Heap) (locs : List Loc) (ls : Array Slot), fn_X3_send S x3 x4 = some (r, S') → sc_W (sc_EX dC dI h cy) s H locs S → lv_has ls 9 [(0, .ref (h 3)), (1, .ref (h 1)), (2, .ref (h 2)), (3, .int x3), (4, .long x4)] → W p l e rm_X3_send s m args below meth c H locs 0 0 Q (F0 m 0 ls []) := by
  obtain ⟨hx, hb, hml, hown, hts⟩ := id C0
  intro S x3 x4 H locs ls hf hW hl
  rw [fn_X3_send] at hf
  refine lv_aload_n hx hb dX3_send_0 rfl (lv_at hl 0 rfl) ?_
  refine lv_aload_n hx hb dX3_send_1 rfl (lv_at hl 1 rfl) ?_
  refine lv_aload_n hx hb dX3_send_2 rfl (lv_at hl 2 rfl) ?_
  refine lv_iload_n hx hb dX3_send_3 rfl (lv_at hl 3 rfl) ?_
  obtain ⟨r4, S4, hc, hf⟩ := sc_cl_s hf
  refine sc_callVi (As := [.ref (h 1), .ref (h 2), .int x3]) (rest := []) (q0 := 3) (ci := 2) sc_okX C0 hW (ct_X3_nextOf hc) (cwV 3 hts gX3_send_X3_nextOf rfl rfl rfl (by decide +kernel) ⟨Nat.le_of_ble_eq_true rfl, Nat.le_of_ble_eq_true rfl⟩) rfl rfl rfl rfl hl.1 rfl (Nat.le_of_ble_eq_true rfl) dX3_send_4 (fun H locs hW => ?_)
  refine lv_istore (lv' := [(6, .int r4), (0, .ref (h 3)), (1, .ref (h 1)), (2, .ref (h 2)), (3, .int x3), (4, .long x4)]) hx hb dX3_send_7 hl (by decide) rfl (fun ls hl => ?_)
  refine lv_aload_n hx hb dX3_send_9 rfl (lv_at hl 2 rfl) ?_
  refine sc_getX0 C0 hW ni_X3_send_X0 4 (Nat.le_of_ble_eq_true rfl) lk_X3_send_123 (v := .ref (h 6)) rfl dX3_send_10 ?_
  refine lv_iload_n hx hb dX3_send_13 rfl (lv_at hl 4 rfl) ?_
  obtain ⟨hv, hf⟩ := sc_ck_s hf
  refine sc_ldX_6 C0 hW hv dX3_send_14 ?_
  refine lv_i2l hx hb dX3_send_15 rfl ?_
  refine lv_lload hx hb dX3_send_16 (lv_at hl 5 rfl) ?_
  refine lv_lmul hx hb dX3_send_18 ?_
  obtain ⟨y19, ey19, hf⟩ := sc_sq_s hf
  refine sc_topl ey19 ?_
  refine lv_lstore (lv' := [(7, .long y19), (6, .int r4), (0, .ref (h 3)), (1, .ref (h 1)), (2, .ref (h 2)), (3, .int x3), (4, .long x4)]) hx hb dX3_send_19 hl (by decide) rfl (fun ls hl => ?_)
  refine lv_aload_n hx hb dX3_send_21 rfl (lv_at hl 2 rfl) ?_
  refine sc_getX3 C0 hW ni_X3_send_X3 1 (Nat.le_of_ble_eq_true rfl) lk_X3_send_9 (v := .ref (h 22)) rfl dX3_send_22 ?_
  refine lv_aload_n hx hb dX3_send_25 rfl (lv_at hl 2 rfl) ?_
  refine sc_getX3 C0 hW ni_X3_send_X3 3 (Nat.le_of_ble_eq_true rfl) lk_X3_send_28 (v := .int (sc_gi S4 9)) rfl dX3_send_26 ?_
  refine lv_iload_n hx hb dX3_send_29 rfl (lv_at hl 5 rfl) ?_
  refine lv_iadd hx hb dX3_send_30 ?_
  refine lv_iload hx hb dX3_send_31 (lv_at hl 1 rfl) ?_
  obtain ⟨hv, hf⟩ := sc_ck_s hf
  obtain ⟨S33, eS33, hf⟩ := sc_sq_s hf
  refine sc_stX_22 C0 hW hv eS33 dX3_send_33 (fun H locs hW => ?_)
  refine lv_iload hx hb dX3_send_34 (lv_at hl 1 rfl) ?_
  refine lv_bipush (v := (-9 : Int32)) hx hb dX3_send_36 (by decide) ?_
  refine lv_icmp_ne (tgt := 70) hx hb dX3_send_38 (by decide) (fun hc => ?_) (fun hc => ?_)
  · replace hf := sc_in hc hf
    refine lv_aload_n hx hb dX3_send_70 rfl (lv_at hl 2 rfl) ?_
    refine sc_getX3 C0 hW ni_X3_send_X3 2 (Nat.le_of_ble_eq_true rfl) lk_X3_send_15 (v := .ref (h 23)) rfl dX3_send_71 ?_
    refine lv_aload_n hx hb dX3_send_74 rfl (lv_at hl 2 rfl) ?_
    refine sc_getX3 C0 hW ni_X3_send_X3 3 (Nat.le_of_ble_eq_true rfl) lk_X3_send_28 (v := .int (sc_gi S33 9)) rfl dX3_send_75 ?_
    refine lv_iload_n hx hb dX3_send_78 rfl (lv_at hl 5 rfl) ?_
    refine lv_iadd hx hb dX3_send_79 ?_
    refine lv_lload hx hb dX3_send_80 (lv_at hl 6 rfl) ?_
    refine lv_l2i hx hb dX3_send_82 rfl ?_
    obtain ⟨hv, hf⟩ := sc_ck_s hf
    obtain ⟨S83, eS83, hf⟩ := sc_sq_s hf
    refine sc_stX_23 C0 hW hv eS83 dX3_send_83 (fun H locs hW => ?_)
    refine lv_aload_n hx hb dX3_send_84 rfl (lv_at hl 4 rfl) ?_
    refine sc_getX1 C0 hW ni_X3_send_X1 15 (Nat.le_of_ble_eq_true rfl) lk_X3_send_97 (v := .ref (h 19)) rfl dX3_send_85 ?_
    refine lv_aload_n hx hb dX3_send_88 rfl (lv_at hl 4 rfl) ?_
    refine sc_getX1 C0 hW ni_X3_send_X1 4 (Nat.le_of_ble_eq_true rfl) lk_X3_send_96 (v := .int (sc_gi S83 6)) rfl dX3_send_89 ?_
    refine lv_iload hx hb dX3_send_92 (lv_at hl 1 rfl) ?_
    refine lv_iadd hx hb dX3_send_94 ?_
    refine lv_dup2_11 hx hb dX3_send_95 rfl rfl ?_
    obtain ⟨hv, hf⟩ := sc_ck_s hf
    refine sc_ldX_19 C0 hW hv dX3_send_96 ?_
    refine lv_lload hx hb dX3_send_97 (lv_at hl 0 rfl) ?_
    refine lv_ladd hx hb dX3_send_99 ?_
    obtain ⟨hv, hf⟩ := sc_ck_s hf
    obtain ⟨S100, eS100, hf⟩ := sc_sq_s hf
    refine sc_stX_19 C0 hW hv eS100 dX3_send_100 (fun H locs hW => ?_)
    refine lv_aload_n hx hb dX3_send_101 rfl (lv_at hl 2 rfl) ?_
    refine sc_getX3 C0 hW ni_X3_send_X3 4 (Nat.le_of_ble_eq_true rfl) lk_X3_send_18 (v := .ref (h 24)) rfl dX3_send_102 ?_
    refine lv_iload_n hx hb dX3_send_105 rfl (lv_at hl 5 rfl) ?_
    refine lv_aload_n hx hb dX3_send_106 rfl (lv_at hl 4 rfl) ?_
    obtain ⟨r107, S107, hc, hf⟩ := sc_cl_s hf
    refine sc_callVi (As := []) (rest := [.int x3, .ref (h 24)]) (q0 := 2) (ci := 1) sc_okX C0 hW (ct_X1_now hc) (cwV 0 hts gX3_send_X1_now rfl rfl rfl (by decide +kernel) ⟨Nat.le_of_ble_eq_true rfl, Nat.le_of_ble_eq_true rfl⟩) rfl rfl rfl rfl hl.1 rfl (Nat.le_of_ble_eq_true rfl) dX3_send_107 (fun H locs hW => ?_)
    obtain ⟨hv, hf⟩ := sc_ck_s hf
    obtain ⟨S110, eS110, hf⟩ := sc_sq_s hf
    refine sc_stX_24 C0 hW hv eS110 dX3_send_110 (fun H locs hW => ?_)
    refine lv_lload hx hb dX3_send_111 (lv_at hl 0 rfl) ?_
    exact sc_retl hR hf hW dX3_send_113
  · replace hf := sc_ip hc hf
    refine lv_aload_n hx hb dX3_send_41 rfl (lv_at hl 2 rfl) ?_
    refine sc_getX3 C0 hW ni_X3_send_X3 2 (Nat.le_of_ble_eq_true rfl) lk_X3_send_15 (v := .ref (h 23)) rfl dX3_send_42 ?_
    refine lv_aload_n hx hb dX3_send_45 rfl (lv_at hl 2 rfl) ?_
    refine sc_getX3 C0 hW ni_X3_send_X3 3 (Nat.le_of_ble_eq_true rfl) lk_X3_send_28 (v := .int (sc_gi S33 9)) rfl dX3_send_46 ?_
    refine lv_iload_n hx hb dX3_send_49 rfl (lv_at hl 5 rfl) ?_
    refine lv_iadd hx hb dX3_send_50 ?_
    refine lv_iconst (v := (0 : Int32)) hx hb dX3_send_51 (by decide) ?_
    obtain ⟨hv, hf⟩ := sc_ck_s hf
    obtain ⟨S52, eS52, hf⟩ := sc_sq_s hf
    refine sc_stX_23 C0 hW hv eS52 dX3_send_52 (fun H locs hW => ?_)
    refine lv_aload_n hx hb dX3_send_53 rfl (lv_at hl 4 rfl) ?_
    refine sc_getX1 C0 hW ni_X3_send_X1 11 (Nat.le_of_ble_eq_true rfl) lk_X3_send_134 (v := .ref (h 15)) rfl dX3_send_54 ?_
    refine lv_aload_n hx hb dX3_send_57 rfl (lv_at hl 4 rfl) ?_
    obtain ⟨r58, S58, hc, hf⟩ := sc_cl_s hf
    refine sc_callVi (As := []) (rest := [.ref (h 15)]) (q0 := 2) (ci := 1) sc_okX C0 hW (ct_X1_now hc) (cwV 0 hts gX3_send_X1_now rfl rfl rfl (by decide +kernel) ⟨Nat.le_of_ble_eq_true rfl, Nat.le_of_ble_eq_true rfl⟩) rfl rfl rfl rfl hl.1 rfl (Nat.le_of_ble_eq_true rfl) dX3_send_58 (fun H locs hW => ?_)
    refine lv_dup2_11 hx hb dX3_send_61 rfl rfl ?_
    obtain ⟨hv, hf⟩ := sc_ck_s hf
    refine sc_ldX_15 C0 hW hv dX3_send_62 ?_
    refine lv_lload hx hb dX3_send_63 (lv_at hl 0 rfl) ?_
    refine lv_ladd hx hb dX3_send_65 ?_
    obtain ⟨hv, hf⟩ := sc_ck_s hf
    obtain ⟨S66, eS66, hf⟩ := sc_sq_s hf
    refine sc_stX_15 C0 hW hv eS66 dX3_send_66 (fun H locs hW => ?_)
    refine lv_goto (tgt := 111) hx hb dX3_send_67 (by decide) ?_
    refine lv_lload hx hb dX3_send_111 (lv_at hl 0 rfl) ?_
    exact sc_retl hR hf hW dX3_send_113
set_option maxRecDepth 100000 in
theorem ct_X3_send {S S' : sc_M} {r : Int64} {x3 : Int32} {x4 : Int64} (hf : fn_X3_send S x3 x4 = some (r, S')) : sc_Cl l yX3_send wsX3_send rm_X3_send (sc_EX dC dI h cy) [.ref (h 3), .ref (h 1), .ref (h 2), .int x3, .long x4] S S' r := by
  refine sc_ofl (cc := cX3_send) (maxL := 9) sc_okX (by decide) rfl (Nat.le_of_ble_eq_true rfl) ?_
  intro p e s m below meth c Q C0 hR hW ls hl
  exact wk_X3_send_0 C0 hR _ _ _ _ _ _ hf hW hl
end

/-! ===== SeatCounts$PaperRules.dealFirst(LSeatCounts$House;LSeatCounts$Journal;)V ===== -/
abbrev rm_X3_dealFirst : Room := { frames := 3, cells := 0, slots := 0, locals := 74 }
theorem lk_X3_dealFirst_15 : Cond.fieldLink RX3 15 "SeatCounts$PaperRules" "values" "[I" ∈ wsX3_dealFirst := by decide +kernel
theorem lk_X3_dealFirst_21 : Cond.fieldLink RX3 21 "SeatCounts$PaperRules" "piles" "I" ∈ wsX3_dealFirst := by decide +kernel
theorem lk_X3_dealFirst_44 : Cond.constantLong RX3 44 (100000) ∈ wsX3_dealFirst := by decide +kernel
theorem lk_X3_dealFirst_9 : Cond.fieldLink RX3 9 "SeatCounts$PaperRules" "holders" "[I" ∈ wsX3_dealFirst := by decide +kernel
theorem ni_X3_dealFirst_X3 : ∀ w ∈ wsX30, w ∈ wsX3_dealFirst := by decide +kernel
noncomputable def fn_X3_dealFirst_2 : Nat → sc_M → Int32 → Option (sc_M)
  | 0, _, _ => none
  | n + 1, S, x3 =>
    if (sc_gi S 8) ≤ x3 then
      some S
    else
      sc_ck x3 1040 (sc_sq (sc_mA S 22 (upd (sc_ga S 22) x3.toNatClampNeg (-9 : Int32))) (fun S17 => sc_ck x3 1040 (sc_sq (sc_mA S17 23 (upd (sc_ga S17 23) x3.toNatClampNeg (0 : Int32))) (fun S24 => sc_cl (fn_X0_isValid S24 x3) (fun r27 S27 => if r27 = 0 then
        fn_X3_dealFirst_2 n S27 (x3 + 1)
      else
        sc_cl (fn_X3_send S27 x3 (100000 : Int64)) (fun r40 S40 => fn_X3_dealFirst_2 n S40 (x3 + 1)))))))
noncomputable def fn_X3_dealFirst (S : sc_M) : Option (sc_M) :=
  fn_X3_dealFirst_2 sc_FU S (0 : Int32)
section
variable {p : Program} {l : Launch} {e : Env} {s : State} {m : MethodId} {args : Array Value} {below : List Frame} {meth : Method} {c : Code} {Q : State → Prop} {dC : Nat → ClassId} {dI : Nat → Nat → Nat} {h : Nat → Nat} {cy : Nat → ClassId}
set_option maxHeartbeats 4000000 in
set_option maxRecDepth 100000 in
theorem wk_X3_dealFirst_2 (C0 : CallFix p m c cX3_dealFirst 4 s args wsX3_dealFirst RX3) {S' : sc_M} (hR : sc_Rv p l e rm_X3_dealFirst s m args below meth c Q cX3_dealFirst (sc_EX dC dI h cy) S') : ∀ n : Nat, ∀ (S : sc_M) (x3 : Int32) (H : Heap) (locs : List Loc) (ls : Array Slot), fn_X3_dealFirst_2 n S x3 = some S' → sc_W (sc_EX dC dI h cy) s H locs S → lv_has ls 4 [(0, .ref (h 3)), (1, .ref (h 1)), (2, .ref (h 2)), (3, .int x3)] → W p l e rm_X3_dealFirst s m args below meth c H locs 0 0 Q (F0 m 2 ls []) := by
  obtain ⟨hx, hb, hml, hown, hts⟩ := id C0
  intro n
  induction n with
  | zero => intro S x3 H locs ls; intro hf; cases hf
  | succ n ih =>
    intro S x3 H locs ls hf hW hl
    rw [fn_X3_dealFirst_2] at hf
    refine lv_iload_n hx hb dX3_dealFirst_2 rfl (lv_at hl 3 rfl) ?_
    refine lv_aload_n hx hb dX3_dealFirst_3 rfl (lv_at hl 0 rfl) ?_
    refine sc_getX3 C0 hW ni_X3_dealFirst_X3 0 (Nat.le_of_ble_eq_true rfl) lk_X3_dealFirst_21 (v := .int (sc_gi S 8)) rfl dX3_dealFirst_4 ?_
    refine lv_icmp_ge (tgt := 50) hx hb dX3_dealFirst_7 (by decide) (fun hc => ?_) (fun hc => ?_)
    · replace hf := sc_ip hc hf
      exact sc_retv hR hf hW dX3_dealFirst_50
    · replace hf := sc_in hc hf
      refine lv_aload_n hx hb dX3_dealFirst_10 rfl (lv_at hl 0 rfl) ?_
      refine sc_getX3 C0 hW ni_X3_dealFirst_X3 1 (Nat.le_of_ble_eq_true rfl) lk_X3_dealFirst_9 (v := .ref (h 22)) rfl dX3_dealFirst_11 ?_
      refine lv_iload_n hx hb dX3_dealFirst_14 rfl (lv_at hl 3 rfl) ?_
      refine lv_bipush (v := (-9 : Int32)) hx hb dX3_dealFirst_15 (by decide) ?_
      obtain ⟨hv, hf⟩ := sc_ck_s hf
      obtain ⟨S17, eS17, hf⟩ := sc_sq_s hf
      refine sc_stX_22 C0 hW hv eS17 dX3_dealFirst_17 (fun H locs hW => ?_)
      refine lv_aload_n hx hb dX3_dealFirst_18 rfl (lv_at hl 0 rfl) ?_
      refine sc_getX3 C0 hW ni_X3_dealFirst_X3 2 (Nat.le_of_ble_eq_true rfl) lk_X3_dealFirst_15 (v := .ref (h 23)) rfl dX3_dealFirst_19 ?_
      refine lv_iload_n hx hb dX3_dealFirst_22 rfl (lv_at hl 3 rfl) ?_
      refine lv_iconst (v := (0 : Int32)) hx hb dX3_dealFirst_23 (by decide) ?_
      obtain ⟨hv, hf⟩ := sc_ck_s hf
      obtain ⟨S24, eS24, hf⟩ := sc_sq_s hf
      refine sc_stX_23 C0 hW hv eS24 dX3_dealFirst_24 (fun H locs hW => ?_)
      refine lv_aload_n hx hb dX3_dealFirst_25 rfl (lv_at hl 1 rfl) ?_
      refine lv_iload_n hx hb dX3_dealFirst_26 rfl (lv_at hl 3 rfl) ?_
      obtain ⟨r27, S27, hc, hf⟩ := sc_cl_s hf
      refine sc_callVi (As := [.int x3]) (rest := []) (q0 := 1) (ci := 0) sc_okX C0 hW (ct_X0_isValid hc) (cwV 1 hts gX3_dealFirst_X0_isValid rfl rfl rfl (by decide +kernel) ⟨Nat.le_of_ble_eq_true rfl, Nat.le_of_ble_eq_true rfl⟩) rfl rfl rfl rfl hl.1 rfl (Nat.le_of_ble_eq_true rfl) dX3_dealFirst_27 (fun H locs hW => ?_)
      refine lv_if_eq (tgt := 44) hx hb dX3_dealFirst_30 (by decide) (fun hc => ?_) (fun hc => ?_)
      · replace hf := sc_ip hc hf
        refine lv_iinc (v := (x3 + 1)) (lv' := [(3, .int (x3 + 1)), (0, .ref (h 3)), (1, .ref (h 1)), (2, .ref (h 2))]) hx hb dX3_dealFirst_44 hl (k := 3) rfl rfl (by decide) rfl (fun ls hl => ?_)
        refine lv_goto (tgt := 2) hx hb dX3_dealFirst_47 (by decide) ?_
        exact ih _ _ _ _ _ hf hW (lv_sub hl [1, 2, 3, 0] rfl)
      · replace hf := sc_in hc hf
        refine lv_aload_n hx hb dX3_dealFirst_33 rfl (lv_at hl 0 rfl) ?_
        refine lv_aload_n hx hb dX3_dealFirst_34 rfl (lv_at hl 1 rfl) ?_
        refine lv_aload_n hx hb dX3_dealFirst_35 rfl (lv_at hl 2 rfl) ?_
        refine lv_iload_n hx hb dX3_dealFirst_36 rfl (lv_at hl 3 rfl) ?_
        refine lv_ldc2 (v := (100000 : Int64)) hx hb hown (hts _ lk_X3_dealFirst_44) dX3_dealFirst_37 ?_
        obtain ⟨r40, S40, hc, hf⟩ := sc_cl_s hf
        refine sc_callVl (As := [.ref (h 1), .ref (h 2), .int x3, .long (100000 : Int64)]) (rest := []) (q0 := 3) (ci := 2) sc_okX C0 hW (ct_X3_send hc) (cwV 4 hts gX3_dealFirst_X3_send rfl rfl rfl (by decide +kernel) ⟨Nat.le_of_ble_eq_true rfl, Nat.le_of_ble_eq_true rfl⟩) rfl rfl rfl rfl hl.1 rfl (Nat.le_of_ble_eq_true rfl) dX3_dealFirst_40 (fun H locs hW => ?_)
        refine lv_pop2_2 hx hb dX3_dealFirst_43 rfl ?_
        refine lv_iinc (v := (x3 + 1)) (lv' := [(3, .int (x3 + 1)), (0, .ref (h 3)), (1, .ref (h 1)), (2, .ref (h 2))]) hx hb dX3_dealFirst_44 hl (k := 3) rfl rfl (by decide) rfl (fun ls hl => ?_)
        refine lv_goto (tgt := 2) hx hb dX3_dealFirst_47 (by decide) ?_
        exact ih _ _ _ _ _ hf hW (lv_sub hl [1, 2, 3, 0] rfl)
set_option maxHeartbeats 4000000 in
set_option maxRecDepth 100000 in
theorem wk_X3_dealFirst_0 (C0 : CallFix p m c cX3_dealFirst 4 s args wsX3_dealFirst RX3) {S' : sc_M} (hR : sc_Rv p l e rm_X3_dealFirst s m args below meth c Q cX3_dealFirst (sc_EX dC dI h cy) S') : ∀ (S : sc_M) (H : Heap) (locs : List Loc) (ls : Array Slot), fn_X3_dealFirst S = some S' → sc_W (sc_EX dC dI h cy) s H locs S → lv_has ls 4 [(0, .ref (h 3)), (1, .ref (h 1)), (2, .ref (h 2))] → W p l e rm_X3_dealFirst s m args below meth c H locs 0 0 Q (F0 m 0 ls []) := by
  obtain ⟨hx, hb, hml, hown, hts⟩ := id C0
  intro S H locs ls hf hW hl
  rw [fn_X3_dealFirst] at hf
  refine lv_iconst (v := (0 : Int32)) hx hb dX3_dealFirst_0 (by decide) ?_
  refine lv_istore_n (lv' := [(3, .int (0 : Int32)), (0, .ref (h 3)), (1, .ref (h 1)), (2, .ref (h 2))]) hx hb dX3_dealFirst_1 rfl hl (by decide) rfl (fun ls hl => ?_)
  exact wk_X3_dealFirst_2 C0 hR  sc_FU _ _ _ _ _ hf hW (lv_sub hl [1, 2, 3, 0] rfl)
set_option maxRecDepth 100000 in
theorem ct_X3_dealFirst {S S' : sc_M} (hf : fn_X3_dealFirst S = some S') : sc_Cv l yX3_dealFirst wsX3_dealFirst rm_X3_dealFirst (sc_EX dC dI h cy) [.ref (h 3), .ref (h 1), .ref (h 2)] S S' := by
  refine sc_ofv (cc := cX3_dealFirst) (maxL := 4) sc_okX (by decide) rfl (Nat.le_of_ble_eq_true rfl) ?_
  intro p e s m below meth c Q C0 hR hW ls hl
  exact wk_X3_dealFirst_0 C0 hR _ _ _ _ hf hW hl
end

/-! ===== SeatCounts.place(II)I ===== -/
abbrev rm_X4_place : Room := { frames := 0, cells := 0, slots := 0, locals := 0 }
noncomputable def fn_X4_place (S : sc_M) (x0 : Int32) (x1 : Int32) : Option (Int32 × sc_M) :=
  some (((x0 * (80 : Int32)) + x1), S)
section
variable {p : Program} {l : Launch} {e : Env} {s : State} {m : MethodId} {args : Array Value} {below : List Frame} {meth : Method} {c : Code} {Q : State → Prop} {dC : Nat → ClassId} {dI : Nat → Nat → Nat} {h : Nat → Nat} {cy : Nat → ClassId}
set_option maxHeartbeats 4000000 in
set_option maxRecDepth 100000 in
theorem wk_X4_place_0 (C0 : CallFix p m c cX4_place 2 s args wsX4_place RX4) {S' : sc_M} {r : Int32} (hR : sc_Ri p l e rm_X4_place s m args below meth c Q cX4_place (sc_EX dC dI h cy) S' r) : ∀ (S : sc_M) (x0 : Int32) (x1 : Int32) (H : Heap) (locs : List Loc) (ls : Array Slot), fn_X4_place S x0 x1 = some (r, S') → sc_W (sc_EX dC dI h cy) s H locs S → lv_has ls 2 [(0, .int x0), (1, .int x1)] → W p l e rm_X4_place s m args below meth c H locs 0 0 Q (F0 m 0 ls []) := by
  obtain ⟨hx, hb, hml, hown, hts⟩ := id C0
  intro S x0 x1 H locs ls hf hW hl
  rw [fn_X4_place] at hf
  refine lv_iload_n hx hb dX4_place_0 rfl (lv_at hl 0 rfl) ?_
  refine lv_bipush (v := (80 : Int32)) hx hb dX4_place_1 (by decide) ?_
  refine lv_imul hx hb dX4_place_3 ?_
  refine lv_iload_n hx hb dX4_place_4 rfl (lv_at hl 1 rfl) ?_
  refine lv_iadd hx hb dX4_place_5 ?_
  exact sc_reti hR hf hW dX4_place_6
set_option maxRecDepth 100000 in
theorem ct_X4_place {S S' : sc_M} {r : Int32} {x0 : Int32} {x1 : Int32} (hf : fn_X4_place S x0 x1 = some (r, S')) : sc_Ci l yX4_place wsX4_place rm_X4_place (sc_EX dC dI h cy) [.int x0, .int x1] S S' r := by
  refine sc_ofi (cc := cX4_place) (maxL := 2) .int rfl sc_okX (by decide) rfl (Nat.le_of_ble_eq_true rfl) ?_
  intro p e s m below meth c Q C0 hR hW ls hl
  exact wk_X4_place_0 C0 hR _ _ _ _ _ _ hf hW hl
end

/-! ===== SeatCounts$PaperRules.copyRow(I)V ===== -/
abbrev rm_X3_copyRow : Room := { frames := 1, cells := 0, slots := 0, locals := 26 }
theorem lk_X3_copyRow_15 : Cond.fieldLink RX3 15 "SeatCounts$PaperRules" "values" "[I" ∈ wsX3_copyRow := by decide +kernel
theorem lk_X3_copyRow_21 : Cond.fieldLink RX3 21 "SeatCounts$PaperRules" "piles" "I" ∈ wsX3_copyRow := by decide +kernel
theorem lk_X3_copyRow_28 : Cond.fieldLink RX3 28 "SeatCounts$PaperRules" "row" "I" ∈ wsX3_copyRow := by decide +kernel
theorem lk_X3_copyRow_9 : Cond.fieldLink RX3 9 "SeatCounts$PaperRules" "holders" "[I" ∈ wsX3_copyRow := by decide +kernel
theorem lk_X3_copyRow_ac79 : Cond.methodLink RX3 79 arraycopyName ∈ wsX3_copyRow := by decide +kernel
theorem lk_X3_copyRow_aci : Cond.initialized "java/lang/System" ∈ wsX3_copyRow := by decide +kernel
theorem lk_X3_copyRow_acn : Cond.native arraycopyName ∈ wsX3_copyRow := by decide +kernel
theorem lk_X3_copyRow_acs : Cond.static arraycopyName ∈ wsX3_copyRow := by decide +kernel
theorem lk_X3_copyRow_iniX4 : Cond.initialized RX4 ∈ wsX3_copyRow := by decide +kernel
theorem lk_X3_copyRow_stX4_place : Cond.static yX4_place ∈ wsX3_copyRow := by decide +kernel
theorem ni_X3_copyRow_X3 : ∀ w ∈ wsX30, w ∈ wsX3_copyRow := by decide +kernel
noncomputable def fn_X3_copyRow (S : sc_M) (x1 : Int32) : Option (sc_M) :=
  sc_sq ((sc_gi S 9)) (fun y4 => sc_cl (fn_X4_place S x1 (0 : Int32)) (fun r8 S8 => sc_sq (sc_mi S8 9 r8) (fun S11 => sc_cp y4 (sc_gi S11 9) (sc_gi S11 8) 1040 1040 (sc_sq (sc_mA S11 22 (va_cpy (sc_ga S11 22) (sc_ga S11 22) y4.toNatClampNeg (sc_gi S11 9).toNatClampNeg (sc_gi S11 8).toNatClampNeg)) (fun S31 => sc_cp y4 (sc_gi S31 9) (sc_gi S31 8) 1040 1040 (sc_sq (sc_mA S31 23 (va_cpy (sc_ga S31 23) (sc_ga S31 23) y4.toNatClampNeg (sc_gi S31 9).toNatClampNeg (sc_gi S31 8).toNatClampNeg)) (fun S51 => some S51)))))))
section
variable {p : Program} {l : Launch} {e : Env} {s : State} {m : MethodId} {args : Array Value} {below : List Frame} {meth : Method} {c : Code} {Q : State → Prop} {dC : Nat → ClassId} {dI : Nat → Nat → Nat} {h : Nat → Nat} {cy : Nat → ClassId}
set_option maxHeartbeats 4000000 in
set_option maxRecDepth 100000 in
theorem wk_X3_copyRow_0 (C0 : CallFix p m c cX3_copyRow 3 s args wsX3_copyRow RX3) {S' : sc_M} (hR : sc_Rv p l e rm_X3_copyRow s m args below meth c Q cX3_copyRow (sc_EX dC dI h cy) S') : ∀ (S : sc_M) (x1 : Int32) (H : Heap) (locs : List Loc) (ls : Array Slot), fn_X3_copyRow S x1 = some S' → sc_W (sc_EX dC dI h cy) s H locs S → lv_has ls 3 [(0, .ref (h 3)), (1, .int x1)] → W p l e rm_X3_copyRow s m args below meth c H locs 0 0 Q (F0 m 0 ls []) := by
  obtain ⟨hx, hb, hml, hown, hts⟩ := id C0
  intro S x1 H locs ls hf hW hl
  rw [fn_X3_copyRow] at hf
  refine lv_aload_n hx hb dX3_copyRow_0 rfl (lv_at hl 0 rfl) ?_
  refine sc_getX3 C0 hW ni_X3_copyRow_X3 3 (Nat.le_of_ble_eq_true rfl) lk_X3_copyRow_28 (v := .int (sc_gi S 9)) rfl dX3_copyRow_1 ?_
  obtain ⟨y4, ey4, hf⟩ := sc_sq_s hf
  refine sc_topi ey4 ?_
  refine lv_istore_n (lv' := [(2, .int y4), (0, .ref (h 3)), (1, .int x1)]) hx hb dX3_copyRow_4 rfl hl (by decide) rfl (fun ls hl => ?_)
  refine lv_aload_n hx hb dX3_copyRow_5 rfl (lv_at hl 1 rfl) ?_
  refine lv_iload_n hx hb dX3_copyRow_6 rfl (lv_at hl 2 rfl) ?_
  refine lv_iconst (v := (0 : Int32)) hx hb dX3_copyRow_7 (by decide) ?_
  obtain ⟨r8, S8, hc, hf⟩ := sc_cl_s hf
  refine sc_callNi (As := [.int x1, .int (0 : Int32)]) (rest := [.ref (h 3)]) sc_okX C0 hW (ct_X4_place hc) ⟨va_cnB 2 hts gX3_copyRow_X4_place_n75 rfl rfl rfl hW.2.2.2.2.2 (hts _ lk_X3_copyRow_iniX4) (by decide +kernel) ⟨Nat.le_of_ble_eq_true rfl, Nat.le_of_ble_eq_true rfl⟩, hts _ lk_X3_copyRow_stX4_place, trivial⟩ rfl hl.1 rfl (Nat.le_of_ble_eq_true rfl) dX3_copyRow_8 (fun H locs hW => ?_)
  obtain ⟨S11, eS11, hf⟩ := sc_sq_s hf
  refine sc_putX3_row C0 hW ni_X3_copyRow_X3 lk_X3_copyRow_28 eS11 dX3_copyRow_11 (fun H locs hW => ?_)
  refine lv_aload_n hx hb dX3_copyRow_14 rfl (lv_at hl 1 rfl) ?_
  refine sc_getX3 C0 hW ni_X3_copyRow_X3 1 (Nat.le_of_ble_eq_true rfl) lk_X3_copyRow_9 (v := .ref (h 22)) rfl dX3_copyRow_15 ?_
  refine lv_iload_n hx hb dX3_copyRow_18 rfl (lv_at hl 0 rfl) ?_
  refine lv_aload_n hx hb dX3_copyRow_19 rfl (lv_at hl 1 rfl) ?_
  refine sc_getX3 C0 hW ni_X3_copyRow_X3 1 (Nat.le_of_ble_eq_true rfl) lk_X3_copyRow_9 (v := .ref (h 22)) rfl dX3_copyRow_20 ?_
  refine lv_aload_n hx hb dX3_copyRow_23 rfl (lv_at hl 1 rfl) ?_
  refine sc_getX3 C0 hW ni_X3_copyRow_X3 3 (Nat.le_of_ble_eq_true rfl) lk_X3_copyRow_28 (v := .int (sc_gi S11 9)) rfl dX3_copyRow_24 ?_
  refine lv_aload_n hx hb dX3_copyRow_27 rfl (lv_at hl 1 rfl) ?_
  refine sc_getX3 C0 hW ni_X3_copyRow_X3 0 (Nat.le_of_ble_eq_true rfl) lk_X3_copyRow_21 (v := .int (sc_gi S11 8)) rfl dX3_copyRow_28 ?_
  obtain ⟨hv, hf⟩ := sc_cp_s hf
  obtain ⟨S31, eS31, hf⟩ := sc_sq_s hf
  refine sc_copyi (S1 := S31) (q0 := 22) (q1 := 22) (t0 := 18) (t1 := 18) (ty := .int) (rest := []) C0 (hts _ lk_X3_copyRow_ac79) (hts _ lk_X3_copyRow_acn) (hts _ lk_X3_copyRow_acs) (hts _ lk_X3_copyRow_aci) hW rfl rfl rfl rfl rfl hv (fun _ _ => rfl) hl.1 (Nat.le_of_ble_eq_true rfl) (Nat.le_of_ble_eq_true rfl) (by subst eS31; rfl) dX3_copyRow_31 (fun H locs hW => ?_)
  refine lv_aload_n hx hb dX3_copyRow_34 rfl (lv_at hl 1 rfl) ?_
  refine sc_getX3 C0 hW ni_X3_copyRow_X3 2 (Nat.le_of_ble_eq_true rfl) lk_X3_copyRow_15 (v := .ref (h 23)) rfl dX3_copyRow_35 ?_
  refine lv_iload_n hx hb dX3_copyRow_38 rfl (lv_at hl 0 rfl) ?_
  refine lv_aload_n hx hb dX3_copyRow_39 rfl (lv_at hl 1 rfl) ?_
  refine sc_getX3 C0 hW ni_X3_copyRow_X3 2 (Nat.le_of_ble_eq_true rfl) lk_X3_copyRow_15 (v := .ref (h 23)) rfl dX3_copyRow_40 ?_
  refine lv_aload_n hx hb dX3_copyRow_43 rfl (lv_at hl 1 rfl) ?_
  refine sc_getX3 C0 hW ni_X3_copyRow_X3 3 (Nat.le_of_ble_eq_true rfl) lk_X3_copyRow_28 (v := .int (sc_gi S31 9)) rfl dX3_copyRow_44 ?_
  refine lv_aload_n hx hb dX3_copyRow_47 rfl (lv_at hl 1 rfl) ?_
  refine sc_getX3 C0 hW ni_X3_copyRow_X3 0 (Nat.le_of_ble_eq_true rfl) lk_X3_copyRow_21 (v := .int (sc_gi S31 8)) rfl dX3_copyRow_48 ?_
  obtain ⟨hv, hf⟩ := sc_cp_s hf
  obtain ⟨S51, eS51, hf⟩ := sc_sq_s hf
  refine sc_copyi (S1 := S51) (q0 := 23) (q1 := 23) (t0 := 19) (t1 := 19) (ty := .int) (rest := []) C0 (hts _ lk_X3_copyRow_ac79) (hts _ lk_X3_copyRow_acn) (hts _ lk_X3_copyRow_acs) (hts _ lk_X3_copyRow_aci) hW rfl rfl rfl rfl rfl hv (fun _ _ => rfl) hl.1 (Nat.le_of_ble_eq_true rfl) (Nat.le_of_ble_eq_true rfl) (by subst eS51; rfl) dX3_copyRow_51 (fun H locs hW => ?_)
  exact sc_retv hR hf hW dX3_copyRow_54
set_option maxRecDepth 100000 in
theorem ct_X3_copyRow {S S' : sc_M} {x1 : Int32} (hf : fn_X3_copyRow S x1 = some S') : sc_Cv l yX3_copyRow wsX3_copyRow rm_X3_copyRow (sc_EX dC dI h cy) [.ref (h 3), .int x1] S S' := by
  refine sc_ofv (cc := cX3_copyRow) (maxL := 3) sc_okX (by decide) rfl (Nat.le_of_ble_eq_true rfl) ?_
  intro p e s m below meth c Q C0 hR hW ls hl
  exact wk_X3_copyRow_0 C0 hR _ _ _ _ _ hf hW hl
end

/-! ===== SeatCounts$PaperRules.putOut(LSeatCounts$House;LSeatCounts$Journal;I)V ===== -/
abbrev rm_X3_putOut : Room := { frames := 3, cells := 0, slots := 0, locals := 74 }
theorem lk_X3_putOut_15 : Cond.fieldLink RX3 15 "SeatCounts$PaperRules" "values" "[I" ∈ wsX3_putOut := by decide +kernel
theorem lk_X3_putOut_21 : Cond.fieldLink RX3 21 "SeatCounts$PaperRules" "piles" "I" ∈ wsX3_putOut := by decide +kernel
theorem lk_X3_putOut_28 : Cond.fieldLink RX3 28 "SeatCounts$PaperRules" "row" "I" ∈ wsX3_putOut := by decide +kernel
theorem lk_X3_putOut_9 : Cond.fieldLink RX3 9 "SeatCounts$PaperRules" "holders" "[I" ∈ wsX3_putOut := by decide +kernel
theorem lk_X3_putOut_93 : Cond.fieldLink RX3 93 "SeatCounts$Journal" "states" "[I" ∈ wsX3_putOut := by decide +kernel
theorem lk_X3_putOut_96 : Cond.fieldLink RX3 96 "SeatCounts$Journal" "row" "I" ∈ wsX3_putOut := by decide +kernel
theorem lk_X3_putOut_97 : Cond.fieldLink RX3 97 "SeatCounts$Journal" "votes" "[J" ∈ wsX3_putOut := by decide +kernel
theorem ni_X3_putOut_X1 : ∀ w ∈ wsX10, w ∈ wsX3_putOut := by decide +kernel
theorem ni_X3_putOut_X3 : ∀ w ∈ wsX30, w ∈ wsX3_putOut := by decide +kernel
noncomputable def fn_X3_putOut_15 : Nat → sc_M → Int32 → Int32 → Option (sc_M)
  | 0, _, _, _ => none
  | n + 1, S, x3, x4 =>
    if (sc_gi S 8) ≤ x4 then
      sc_ck ((sc_gi S 6) + x3) 864 (sc_sq (sc_mB S 19 (vp_updL (sc_gb S 19) ((sc_gi S 6) + x3).toNatClampNeg (0 : Int64))) (fun S79 => some S79))
    else
      sc_ck ((sc_gi S 9) + x4) 1040 (if (sc_ga S 22 ((sc_gi S 9) + x4).toNatClampNeg) = x3 then
        sc_ck ((sc_gi S 9) + x4) 1040 (sc_cl (fn_X3_send S x4 ((sc_ga S 23 ((sc_gi S 9) + x4).toNatClampNeg).toInt64)) (fun r58 S58 => fn_X3_putOut_15 n S58 x3 (x4 + 1)))
      else
        fn_X3_putOut_15 n S x3 (x4 + 1))
noncomputable def fn_X3_putOut (S : sc_M) (x3 : Int32) : Option (sc_M) :=
  sc_ck ((sc_gi S 6) + x3) 864 (sc_sq (sc_mA S 20 (upd (sc_ga S 20) ((sc_gi S 6) + x3).toNatClampNeg (2 : Int32))) (fun S11 => fn_X3_putOut_15 sc_FU S11 x3 (0 : Int32)))
section
variable {p : Program} {l : Launch} {e : Env} {s : State} {m : MethodId} {args : Array Value} {below : List Frame} {meth : Method} {c : Code} {Q : State → Prop} {dC : Nat → ClassId} {dI : Nat → Nat → Nat} {h : Nat → Nat} {cy : Nat → ClassId}
set_option maxHeartbeats 4000000 in
set_option maxRecDepth 100000 in
theorem wk_X3_putOut_15 (C0 : CallFix p m c cX3_putOut 5 s args wsX3_putOut RX3) {S' : sc_M} (hR : sc_Rv p l e rm_X3_putOut s m args below meth c Q cX3_putOut (sc_EX dC dI h cy) S') : ∀ n : Nat, ∀ (S : sc_M) (x3 : Int32) (x4 : Int32) (H : Heap) (locs : List Loc) (ls : Array Slot), fn_X3_putOut_15 n S x3 x4 = some S' → sc_W (sc_EX dC dI h cy) s H locs S → lv_has ls 5 [(0, .ref (h 3)), (1, .ref (h 1)), (2, .ref (h 2)), (3, .int x3), (4, .int x4)] → W p l e rm_X3_putOut s m args below meth c H locs 0 0 Q (F0 m 15 ls []) := by
  obtain ⟨hx, hb, hml, hown, hts⟩ := id C0
  intro n
  induction n with
  | zero => intro S x3 x4 H locs ls; intro hf; cases hf
  | succ n ih =>
    intro S x3 x4 H locs ls hf hW hl
    rw [fn_X3_putOut_15] at hf
    refine lv_iload hx hb dX3_putOut_15 (lv_at hl 4 rfl) ?_
    refine lv_aload_n hx hb dX3_putOut_17 rfl (lv_at hl 0 rfl) ?_
    refine sc_getX3 C0 hW ni_X3_putOut_X3 0 (Nat.le_of_ble_eq_true rfl) lk_X3_putOut_21 (v := .int (sc_gi S 8)) rfl dX3_putOut_18 ?_
    refine lv_icmp_ge (tgt := 68) hx hb dX3_putOut_21 (by decide) (fun hc => ?_) (fun hc => ?_)
    · replace hf := sc_ip hc hf
      refine lv_aload_n hx hb dX3_putOut_68 rfl (lv_at hl 2 rfl) ?_
      refine sc_getX1 C0 hW ni_X3_putOut_X1 15 (Nat.le_of_ble_eq_true rfl) lk_X3_putOut_97 (v := .ref (h 19)) rfl dX3_putOut_69 ?_
      refine lv_aload_n hx hb dX3_putOut_72 rfl (lv_at hl 2 rfl) ?_
      refine sc_getX1 C0 hW ni_X3_putOut_X1 4 (Nat.le_of_ble_eq_true rfl) lk_X3_putOut_96 (v := .int (sc_gi S 6)) rfl dX3_putOut_73 ?_
      refine lv_iload_n hx hb dX3_putOut_76 rfl (lv_at hl 3 rfl) ?_
      refine lv_iadd hx hb dX3_putOut_77 ?_
      refine lv_lconst (v := (0 : Int64)) hx hb dX3_putOut_78 (by decide) ?_
      obtain ⟨hv, hf⟩ := sc_ck_s hf
      obtain ⟨S79, eS79, hf⟩ := sc_sq_s hf
      refine sc_stX_19 C0 hW hv eS79 dX3_putOut_79 (fun H locs hW => ?_)
      exact sc_retv hR hf hW dX3_putOut_80
    · replace hf := sc_in hc hf
      refine lv_aload_n hx hb dX3_putOut_24 rfl (lv_at hl 0 rfl) ?_
      refine sc_getX3 C0 hW ni_X3_putOut_X3 1 (Nat.le_of_ble_eq_true rfl) lk_X3_putOut_9 (v := .ref (h 22)) rfl dX3_putOut_25 ?_
      refine lv_aload_n hx hb dX3_putOut_28 rfl (lv_at hl 0 rfl) ?_
      refine sc_getX3 C0 hW ni_X3_putOut_X3 3 (Nat.le_of_ble_eq_true rfl) lk_X3_putOut_28 (v := .int (sc_gi S 9)) rfl dX3_putOut_29 ?_
      refine lv_iload hx hb dX3_putOut_32 (lv_at hl 4 rfl) ?_
      refine lv_iadd hx hb dX3_putOut_34 ?_
      obtain ⟨hv, hf⟩ := sc_ck_s hf
      refine sc_ldX_22 C0 hW hv dX3_putOut_35 ?_
      refine lv_iload_n hx hb dX3_putOut_36 rfl (lv_at hl 3 rfl) ?_
      refine lv_icmp_ne (tgt := 62) hx hb dX3_putOut_37 (by decide) (fun hc => ?_) (fun hc => ?_)
      · replace hf := sc_in hc hf
        refine lv_iinc (v := (x4 + 1)) (lv' := [(4, .int (x4 + 1)), (0, .ref (h 3)), (1, .ref (h 1)), (2, .ref (h 2)), (3, .int x3)]) hx hb dX3_putOut_62 hl (k := 4) rfl rfl (by decide) rfl (fun ls hl => ?_)
        refine lv_goto (tgt := 15) hx hb dX3_putOut_65 (by decide) ?_
        exact ih _ _ _ _ _ _ hf hW (lv_sub hl [1, 2, 3, 4, 0] rfl)
      · replace hf := sc_ip hc hf
        refine lv_aload_n hx hb dX3_putOut_40 rfl (lv_at hl 0 rfl) ?_
        refine lv_aload_n hx hb dX3_putOut_41 rfl (lv_at hl 1 rfl) ?_
        refine lv_aload_n hx hb dX3_putOut_42 rfl (lv_at hl 2 rfl) ?_
        refine lv_iload hx hb dX3_putOut_43 (lv_at hl 4 rfl) ?_
        refine lv_aload_n hx hb dX3_putOut_45 rfl (lv_at hl 0 rfl) ?_
        refine sc_getX3 C0 hW ni_X3_putOut_X3 2 (Nat.le_of_ble_eq_true rfl) lk_X3_putOut_15 (v := .ref (h 23)) rfl dX3_putOut_46 ?_
        refine lv_aload_n hx hb dX3_putOut_49 rfl (lv_at hl 0 rfl) ?_
        refine sc_getX3 C0 hW ni_X3_putOut_X3 3 (Nat.le_of_ble_eq_true rfl) lk_X3_putOut_28 (v := .int (sc_gi S 9)) rfl dX3_putOut_50 ?_
        refine lv_iload hx hb dX3_putOut_53 (lv_at hl 4 rfl) ?_
        refine lv_iadd hx hb dX3_putOut_55 ?_
        obtain ⟨hv, hf⟩ := sc_ck_s hf
        refine sc_ldX_23 C0 hW hv dX3_putOut_56 ?_
        refine lv_i2l hx hb dX3_putOut_57 rfl ?_
        obtain ⟨r58, S58, hc, hf⟩ := sc_cl_s hf
        refine sc_callVl (As := [.ref (h 1), .ref (h 2), .int x4, .long (sc_ga S 23 ((sc_gi S 9) + x4).toNatClampNeg).toInt64]) (rest := []) (q0 := 3) (ci := 2) sc_okX C0 hW (ct_X3_send hc) (cwV 4 hts gX3_putOut_X3_send rfl rfl rfl (by decide +kernel) ⟨Nat.le_of_ble_eq_true rfl, Nat.le_of_ble_eq_true rfl⟩) rfl rfl rfl rfl hl.1 rfl (Nat.le_of_ble_eq_true rfl) dX3_putOut_58 (fun H locs hW => ?_)
        refine lv_pop2_2 hx hb dX3_putOut_61 rfl ?_
        refine lv_iinc (v := (x4 + 1)) (lv' := [(4, .int (x4 + 1)), (0, .ref (h 3)), (1, .ref (h 1)), (2, .ref (h 2)), (3, .int x3)]) hx hb dX3_putOut_62 hl (k := 4) rfl rfl (by decide) rfl (fun ls hl => ?_)
        refine lv_goto (tgt := 15) hx hb dX3_putOut_65 (by decide) ?_
        exact ih _ _ _ _ _ _ hf hW (lv_sub hl [1, 2, 3, 4, 0] rfl)
set_option maxHeartbeats 4000000 in
set_option maxRecDepth 100000 in
theorem wk_X3_putOut_0 (C0 : CallFix p m c cX3_putOut 5 s args wsX3_putOut RX3) {S' : sc_M} (hR : sc_Rv p l e rm_X3_putOut s m args below meth c Q cX3_putOut (sc_EX dC dI h cy) S') : ∀ (S : sc_M) (x3 : Int32) (H : Heap) (locs : List Loc) (ls : Array Slot), fn_X3_putOut S x3 = some S' → sc_W (sc_EX dC dI h cy) s H locs S → lv_has ls 5 [(0, .ref (h 3)), (1, .ref (h 1)), (2, .ref (h 2)), (3, .int x3)] → W p l e rm_X3_putOut s m args below meth c H locs 0 0 Q (F0 m 0 ls []) := by
  obtain ⟨hx, hb, hml, hown, hts⟩ := id C0
  intro S x3 H locs ls hf hW hl
  rw [fn_X3_putOut] at hf
  refine lv_aload_n hx hb dX3_putOut_0 rfl (lv_at hl 2 rfl) ?_
  refine sc_getX1 C0 hW ni_X3_putOut_X1 16 (Nat.le_of_ble_eq_true rfl) lk_X3_putOut_93 (v := .ref (h 20)) rfl dX3_putOut_1 ?_
  refine lv_aload_n hx hb dX3_putOut_4 rfl (lv_at hl 2 rfl) ?_
  refine sc_getX1 C0 hW ni_X3_putOut_X1 4 (Nat.le_of_ble_eq_true rfl) lk_X3_putOut_96 (v := .int (sc_gi S 6)) rfl dX3_putOut_5 ?_
  refine lv_iload_n hx hb dX3_putOut_8 rfl (lv_at hl 3 rfl) ?_
  refine lv_iadd hx hb dX3_putOut_9 ?_
  refine lv_iconst (v := (2 : Int32)) hx hb dX3_putOut_10 (by decide) ?_
  obtain ⟨hv, hf⟩ := sc_ck_s hf
  obtain ⟨S11, eS11, hf⟩ := sc_sq_s hf
  refine sc_stX_20 C0 hW hv eS11 dX3_putOut_11 (fun H locs hW => ?_)
  refine lv_iconst (v := (0 : Int32)) hx hb dX3_putOut_12 (by decide) ?_
  refine lv_istore (lv' := [(4, .int (0 : Int32)), (0, .ref (h 3)), (1, .ref (h 1)), (2, .ref (h 2)), (3, .int x3)]) hx hb dX3_putOut_13 hl (by decide) rfl (fun ls hl => ?_)
  exact wk_X3_putOut_15 C0 hR  sc_FU _ _ _ _ _ _ hf hW (lv_sub hl [1, 2, 3, 4, 0] rfl)
set_option maxRecDepth 100000 in
theorem ct_X3_putOut {S S' : sc_M} {x3 : Int32} (hf : fn_X3_putOut S x3 = some S') : sc_Cv l yX3_putOut wsX3_putOut rm_X3_putOut (sc_EX dC dI h cy) [.ref (h 3), .ref (h 1), .ref (h 2), .int x3] S S' := by
  refine sc_ofv (cc := cX3_putOut) (maxL := 5) sc_okX (by decide) rfl (Nat.le_of_ble_eq_true rfl) ?_
  intro p e s m below meth c Q C0 hR hW ls hl
  exact wk_X3_putOut_0 C0 hR _ _ _ _ _ hf hW hl
end

/-! ===== SeatCounts$PaperRules.latestParcel(I)I ===== -/
abbrev rm_X3_latestParcel : Room := { frames := 1, cells := 0, slots := 0, locals := 21 }
theorem lk_X3_latestParcel_18 : Cond.fieldLink RX3 18 "SeatCounts$PaperRules" "came" "[I" ∈ wsX3_latestParcel := by decide +kernel
theorem lk_X3_latestParcel_21 : Cond.fieldLink RX3 21 "SeatCounts$PaperRules" "piles" "I" ∈ wsX3_latestParcel := by decide +kernel
theorem lk_X3_latestParcel_28 : Cond.fieldLink RX3 28 "SeatCounts$PaperRules" "row" "I" ∈ wsX3_latestParcel := by decide +kernel
theorem lk_X3_latestParcel_9 : Cond.fieldLink RX3 9 "SeatCounts$PaperRules" "holders" "[I" ∈ wsX3_latestParcel := by decide +kernel
theorem lk_X3_latestParcel_mc137 : Cond.code Lib.Math.max.name Lib.Math.max.code 2 (some .int) ∈ wsX3_latestParcel := by decide +kernel
theorem lk_X3_latestParcel_mi137 : Cond.initialized "java/lang/Math" ∈ wsX3_latestParcel := by decide +kernel
theorem lk_X3_latestParcel_ml137 : Cond.methodLink RX3 137 Lib.Math.max.name ∈ wsX3_latestParcel := by decide +kernel
theorem lk_X3_latestParcel_ms137 : Cond.static Lib.Math.max.name ∈ wsX3_latestParcel := by decide +kernel
theorem ni_X3_latestParcel_X3 : ∀ w ∈ wsX30, w ∈ wsX3_latestParcel := by decide +kernel
noncomputable def fn_X3_latestParcel_4 : Nat → sc_M → Int32 → Int32 → Int32 → Option (Int32 × sc_M)
  | 0, _, _, _, _ => none
  | n + 1, S, x1, x2, x3 =>
    if (sc_gi S 8) ≤ x3 then
      some (x2, S)
    else
      sc_ck ((sc_gi S 9) + x3) 1040 (if (sc_ga S 22 ((sc_gi S 9) + x3).toNatClampNeg) = x1 then
        sc_ck x3 80 (sc_sq ((if x2 < (sc_ga S 24 x3.toNatClampNeg) then (sc_ga S 24 x3.toNatClampNeg) else x2)) (fun y37 => fn_X3_latestParcel_4 n S x1 y37 (x3 + 1)))
      else
        fn_X3_latestParcel_4 n S x1 x2 (x3 + 1))
noncomputable def fn_X3_latestParcel (S : sc_M) (x1 : Int32) : Option (Int32 × sc_M) :=
  fn_X3_latestParcel_4 sc_FU S x1 (0 : Int32) (0 : Int32)
section
variable {p : Program} {l : Launch} {e : Env} {s : State} {m : MethodId} {args : Array Value} {below : List Frame} {meth : Method} {c : Code} {Q : State → Prop} {dC : Nat → ClassId} {dI : Nat → Nat → Nat} {h : Nat → Nat} {cy : Nat → ClassId}
set_option maxHeartbeats 4000000 in
set_option maxRecDepth 100000 in
theorem wk_X3_latestParcel_4 (C0 : CallFix p m c cX3_latestParcel 4 s args wsX3_latestParcel RX3) {S' : sc_M} {r : Int32} (hR : sc_Ri p l e rm_X3_latestParcel s m args below meth c Q cX3_latestParcel (sc_EX dC dI h cy) S' r) : ∀ n : Nat, ∀ (S : sc_M) (x1 : Int32) (x2 : Int32) (x3 : Int32) (H : Heap) (locs : List Loc) (ls : Array Slot), fn_X3_latestParcel_4 n S x1 x2 x3 = some (r, S') → sc_W (sc_EX dC dI h cy) s H locs S → lv_has ls 4 [(0, .ref (h 3)), (1, .int x1), (2, .int x2), (3, .int x3)] → W p l e rm_X3_latestParcel s m args below meth c H locs 0 0 Q (F0 m 4 ls []) := by
  obtain ⟨hx, hb, hml, hown, hts⟩ := id C0
  intro n
  induction n with
  | zero => intro S x1 x2 x3 H locs ls; intro hf; cases hf
  | succ n ih =>
    intro S x1 x2 x3 H locs ls hf hW hl
    rw [fn_X3_latestParcel_4] at hf
    refine lv_iload_n hx hb dX3_latestParcel_4 rfl (lv_at hl 3 rfl) ?_
    refine lv_aload_n hx hb dX3_latestParcel_5 rfl (lv_at hl 0 rfl) ?_
    refine sc_getX3 C0 hW ni_X3_latestParcel_X3 0 (Nat.le_of_ble_eq_true rfl) lk_X3_latestParcel_21 (v := .int (sc_gi S 8)) rfl dX3_latestParcel_6 ?_
    refine lv_icmp_ge (tgt := 44) hx hb dX3_latestParcel_9 (by decide) (fun hc => ?_) (fun hc => ?_)
    · replace hf := sc_ip hc hf
      refine lv_iload_n hx hb dX3_latestParcel_44 rfl (lv_at hl 2 rfl) ?_
      exact sc_reti hR hf hW dX3_latestParcel_45
    · replace hf := sc_in hc hf
      refine lv_aload_n hx hb dX3_latestParcel_12 rfl (lv_at hl 0 rfl) ?_
      refine sc_getX3 C0 hW ni_X3_latestParcel_X3 1 (Nat.le_of_ble_eq_true rfl) lk_X3_latestParcel_9 (v := .ref (h 22)) rfl dX3_latestParcel_13 ?_
      refine lv_aload_n hx hb dX3_latestParcel_16 rfl (lv_at hl 0 rfl) ?_
      refine sc_getX3 C0 hW ni_X3_latestParcel_X3 3 (Nat.le_of_ble_eq_true rfl) lk_X3_latestParcel_28 (v := .int (sc_gi S 9)) rfl dX3_latestParcel_17 ?_
      refine lv_iload_n hx hb dX3_latestParcel_20 rfl (lv_at hl 3 rfl) ?_
      refine lv_iadd hx hb dX3_latestParcel_21 ?_
      obtain ⟨hv, hf⟩ := sc_ck_s hf
      refine sc_ldX_22 C0 hW hv dX3_latestParcel_22 ?_
      refine lv_iload_n hx hb dX3_latestParcel_23 rfl (lv_at hl 1 rfl) ?_
      refine lv_icmp_ne (tgt := 38) hx hb dX3_latestParcel_24 (by decide) (fun hc => ?_) (fun hc => ?_)
      · replace hf := sc_in hc hf
        refine lv_iinc (v := (x3 + 1)) (lv' := [(3, .int (x3 + 1)), (0, .ref (h 3)), (1, .int x1), (2, .int x2)]) hx hb dX3_latestParcel_38 hl (k := 3) rfl rfl (by decide) rfl (fun ls hl => ?_)
        refine lv_goto (tgt := 4) hx hb dX3_latestParcel_41 (by decide) ?_
        exact ih _ _ _ _ _ _ _ hf hW (lv_sub hl [1, 2, 3, 0] rfl)
      · replace hf := sc_ip hc hf
        refine lv_iload_n hx hb dX3_latestParcel_27 rfl (lv_at hl 2 rfl) ?_
        refine lv_aload_n hx hb dX3_latestParcel_28 rfl (lv_at hl 0 rfl) ?_
        refine sc_getX3 C0 hW ni_X3_latestParcel_X3 4 (Nat.le_of_ble_eq_true rfl) lk_X3_latestParcel_18 (v := .ref (h 24)) rfl dX3_latestParcel_29 ?_
        refine lv_iload_n hx hb dX3_latestParcel_32 rfl (lv_at hl 3 rfl) ?_
        obtain ⟨hv, hf⟩ := sc_ck_s hf
        refine sc_ldX_24 C0 hW hv dX3_latestParcel_33 ?_
        refine va_mmax (rest := []) hx hb (hml.trans hl.1.symm) hown (hts _ lk_X3_latestParcel_ml137) (hts _ lk_X3_latestParcel_ms137) (hts _ lk_X3_latestParcel_mi137) (hts _ lk_X3_latestParcel_mc137) (Nat.le_of_ble_eq_true rfl) (Nat.le_of_ble_eq_true rfl) (Nat.zero_le _) (Nat.zero_le _) dX3_latestParcel_34 ?_
        obtain ⟨y37, ey37, hf⟩ := sc_sq_s hf
        refine sc_topi ey37 ?_
        refine lv_istore_n (lv' := [(2, .int y37), (0, .ref (h 3)), (1, .int x1), (3, .int x3)]) hx hb dX3_latestParcel_37 rfl hl (by decide) rfl (fun ls hl => ?_)
        refine lv_iinc (v := (x3 + 1)) (lv' := [(3, .int (x3 + 1)), (2, .int y37), (0, .ref (h 3)), (1, .int x1)]) hx hb dX3_latestParcel_38 hl (k := 3) rfl rfl (by decide) rfl (fun ls hl => ?_)
        refine lv_goto (tgt := 4) hx hb dX3_latestParcel_41 (by decide) ?_
        exact ih _ _ _ _ _ _ _ hf hW (lv_sub hl [2, 3, 1, 0] rfl)
set_option maxHeartbeats 4000000 in
set_option maxRecDepth 100000 in
theorem wk_X3_latestParcel_0 (C0 : CallFix p m c cX3_latestParcel 4 s args wsX3_latestParcel RX3) {S' : sc_M} {r : Int32} (hR : sc_Ri p l e rm_X3_latestParcel s m args below meth c Q cX3_latestParcel (sc_EX dC dI h cy) S' r) : ∀ (S : sc_M) (x1 : Int32) (H : Heap) (locs : List Loc) (ls : Array Slot), fn_X3_latestParcel S x1 = some (r, S') → sc_W (sc_EX dC dI h cy) s H locs S → lv_has ls 4 [(0, .ref (h 3)), (1, .int x1)] → W p l e rm_X3_latestParcel s m args below meth c H locs 0 0 Q (F0 m 0 ls []) := by
  obtain ⟨hx, hb, hml, hown, hts⟩ := id C0
  intro S x1 H locs ls hf hW hl
  rw [fn_X3_latestParcel] at hf
  refine lv_iconst (v := (0 : Int32)) hx hb dX3_latestParcel_0 (by decide) ?_
  refine lv_istore_n (lv' := [(2, .int (0 : Int32)), (0, .ref (h 3)), (1, .int x1)]) hx hb dX3_latestParcel_1 rfl hl (by decide) rfl (fun ls hl => ?_)
  refine lv_iconst (v := (0 : Int32)) hx hb dX3_latestParcel_2 (by decide) ?_
  refine lv_istore_n (lv' := [(3, .int (0 : Int32)), (2, .int (0 : Int32)), (0, .ref (h 3)), (1, .int x1)]) hx hb dX3_latestParcel_3 rfl hl (by decide) rfl (fun ls hl => ?_)
  exact wk_X3_latestParcel_4 C0 hR  sc_FU _ _ _ _ _ _ _ hf hW (lv_sub hl [2, 3, 1, 0] rfl)
set_option maxRecDepth 100000 in
theorem ct_X3_latestParcel {S S' : sc_M} {r : Int32} {x1 : Int32} (hf : fn_X3_latestParcel S x1 = some (r, S')) : sc_Ci l yX3_latestParcel wsX3_latestParcel rm_X3_latestParcel (sc_EX dC dI h cy) [.ref (h 3), .int x1] S S' r := by
  refine sc_ofi (cc := cX3_latestParcel) (maxL := 4) .int rfl sc_okX (by decide) rfl (Nat.le_of_ble_eq_true rfl) ?_
  intro p e s m below meth c Q C0 hR hW ls hl
  exact wk_X3_latestParcel_0 C0 hR _ _ _ _ _ hf hW hl
end

/-! ===== SeatCounts$PaperRules.passes(LSeatCounts$House;LSeatCounts$Journal;III)Z ===== -/
abbrev rm_X3_passes : Room := { frames := 2, cells := 0, slots := 0, locals := 46 }
theorem lk_X3_passes_18 : Cond.fieldLink RX3 18 "SeatCounts$PaperRules" "came" "[I" ∈ wsX3_passes := by decide +kernel
theorem lk_X3_passes_28 : Cond.fieldLink RX3 28 "SeatCounts$PaperRules" "row" "I" ∈ wsX3_passes := by decide +kernel
theorem lk_X3_passes_9 : Cond.fieldLink RX3 9 "SeatCounts$PaperRules" "holders" "[I" ∈ wsX3_passes := by decide +kernel
theorem ni_X3_passes_X3 : ∀ w ∈ wsX30, w ∈ wsX3_passes := by decide +kernel
noncomputable def fn_X3_passes_e (S : sc_M) (x3 : Int32) (x4 : Int32) (x5 : Int32) : Option (Int32 × sc_M) :=
  sc_ck ((sc_gi S 9) + x3) 1040 (if (sc_ga S 22 ((sc_gi S 9) + x3).toNatClampNeg) = x4 then
    sc_ck x3 80 (if (sc_ga S 24 x3.toNatClampNeg) = x5 then
      sc_cl (fn_X3_nextOf S x3) (fun r31 S31 => if r31 = (-9 : Int32) then
        some ((0 : Int32), S31)
      else
        some ((1 : Int32), S31))
    else
      some ((0 : Int32), S))
  else
    some ((0 : Int32), S))
noncomputable def fn_X3_passes (S : sc_M) (x3 : Int32) (x4 : Int32) (x5 : Int32) : Option (Int32 × sc_M) := sc_bz (fn_X3_passes_e S x3 x4 x5)
section
variable {p : Program} {l : Launch} {e : Env} {s : State} {m : MethodId} {args : Array Value} {below : List Frame} {meth : Method} {c : Code} {Q : State → Prop} {dC : Nat → ClassId} {dI : Nat → Nat → Nat} {h : Nat → Nat} {cy : Nat → ClassId}
set_option maxHeartbeats 4000000 in
set_option maxRecDepth 100000 in
theorem wk_X3_passes_0 (C0 : CallFix p m c cX3_passes 6 s args wsX3_passes RX3) {S' : sc_M} {r : Int32} (hR : sc_Ri p l e rm_X3_passes s m args below meth c Q cX3_passes (sc_EX dC dI h cy) S' r) : ∀ (S : sc_M) (x3 : Int32) (x4 : Int32) (x5 : Int32) (H : Heap) (locs : List Loc) (ls : Array Slot), fn_X3_passes_e S x3 x4 x5 = some (r, S') → sc_W (sc_EX dC dI h cy) s H locs S → lv_has ls 6 [(0, .ref (h 3)), (1, .ref (h 1)), (2, .ref (h 2)), (3, .int x3), (4, .int x4), (5, .int x5)] → W p l e rm_X3_passes s m args below meth c H locs 0 0 Q (F0 m 0 ls []) := by
  obtain ⟨hx, hb, hml, hown, hts⟩ := id C0
  intro S x3 x4 x5 H locs ls hf hW hl
  rw [fn_X3_passes_e] at hf
  refine lv_aload_n hx hb dX3_passes_0 rfl (lv_at hl 0 rfl) ?_
  refine sc_getX3 C0 hW ni_X3_passes_X3 1 (Nat.le_of_ble_eq_true rfl) lk_X3_passes_9 (v := .ref (h 22)) rfl dX3_passes_1 ?_
  refine lv_aload_n hx hb dX3_passes_4 rfl (lv_at hl 0 rfl) ?_
  refine sc_getX3 C0 hW ni_X3_passes_X3 3 (Nat.le_of_ble_eq_true rfl) lk_X3_passes_28 (v := .int (sc_gi S 9)) rfl dX3_passes_5 ?_
  refine lv_iload_n hx hb dX3_passes_8 rfl (lv_at hl 3 rfl) ?_
  refine lv_iadd hx hb dX3_passes_9 ?_
  obtain ⟨hv, hf⟩ := sc_ck_s hf
  refine sc_ldX_22 C0 hW hv dX3_passes_10 ?_
  refine lv_iload hx hb dX3_passes_11 (lv_at hl 4 rfl) ?_
  refine lv_icmp_ne (tgt := 43) hx hb dX3_passes_13 (by decide) (fun hc => ?_) (fun hc => ?_)
  · replace hf := sc_in hc hf
    refine lv_iconst (v := (0 : Int32)) hx hb dX3_passes_43 (by decide) ?_
    exact sc_reti hR hf hW dX3_passes_44
  · replace hf := sc_ip hc hf
    refine lv_aload_n hx hb dX3_passes_16 rfl (lv_at hl 0 rfl) ?_
    refine sc_getX3 C0 hW ni_X3_passes_X3 4 (Nat.le_of_ble_eq_true rfl) lk_X3_passes_18 (v := .ref (h 24)) rfl dX3_passes_17 ?_
    refine lv_iload_n hx hb dX3_passes_20 rfl (lv_at hl 3 rfl) ?_
    obtain ⟨hv, hf⟩ := sc_ck_s hf
    refine sc_ldX_24 C0 hW hv dX3_passes_21 ?_
    refine lv_iload hx hb dX3_passes_22 (lv_at hl 5 rfl) ?_
    refine lv_icmp_ne (tgt := 43) hx hb dX3_passes_24 (by decide) (fun hc => ?_) (fun hc => ?_)
    · replace hf := sc_in hc hf
      refine lv_iconst (v := (0 : Int32)) hx hb dX3_passes_43 (by decide) ?_
      exact sc_reti hR hf hW dX3_passes_44
    · replace hf := sc_ip hc hf
      refine lv_aload_n hx hb dX3_passes_27 rfl (lv_at hl 0 rfl) ?_
      refine lv_aload_n hx hb dX3_passes_28 rfl (lv_at hl 1 rfl) ?_
      refine lv_aload_n hx hb dX3_passes_29 rfl (lv_at hl 2 rfl) ?_
      refine lv_iload_n hx hb dX3_passes_30 rfl (lv_at hl 3 rfl) ?_
      obtain ⟨r31, S31, hc, hf⟩ := sc_cl_s hf
      refine sc_callVi (As := [.ref (h 1), .ref (h 2), .int x3]) (rest := []) (q0 := 3) (ci := 2) sc_okX C0 hW (ct_X3_nextOf hc) (cwV 3 hts gX3_passes_X3_nextOf rfl rfl rfl (by decide +kernel) ⟨Nat.le_of_ble_eq_true rfl, Nat.le_of_ble_eq_true rfl⟩) rfl rfl rfl rfl hl.1 rfl (Nat.le_of_ble_eq_true rfl) dX3_passes_31 (fun H locs hW => ?_)
      refine lv_bipush (v := (-9 : Int32)) hx hb dX3_passes_34 (by decide) ?_
      refine lv_icmp_eq (tgt := 43) hx hb dX3_passes_36 (by decide) (fun hc => ?_) (fun hc => ?_)
      · replace hf := sc_ip hc hf
        refine lv_iconst (v := (0 : Int32)) hx hb dX3_passes_43 (by decide) ?_
        exact sc_reti hR hf hW dX3_passes_44
      · replace hf := sc_in hc hf
        refine lv_iconst (v := (1 : Int32)) hx hb dX3_passes_39 (by decide) ?_
        refine lv_goto (tgt := 44) hx hb dX3_passes_40 (by decide) ?_
        exact sc_reti hR hf hW dX3_passes_44
set_option maxRecDepth 100000 in
theorem ct_X3_passes {S S' : sc_M} {r : Int32} {x3 : Int32} {x4 : Int32} {x5 : Int32} (hf : fn_X3_passes S x3 x4 x5 = some (r, S')) : sc_Ci l yX3_passes wsX3_passes rm_X3_passes (sc_EX dC dI h cy) [.ref (h 3), .ref (h 1), .ref (h 2), .int x3, .int x4, .int x5] S S' r := by
  obtain ⟨hf, h01⟩ := sc_bz_s hf
  refine sc_ofi (cc := cX3_passes) (maxL := 6) .boolean (sc_nar01 h01) sc_okX (by decide) rfl (Nat.le_of_ble_eq_true rfl) ?_
  intro p e s m below meth c Q C0 hR hW ls hl
  exact wk_X3_passes_0 C0 hR _ _ _ _ _ _ _ hf hW hl
end

/-! ===== SeatCounts$PaperRules.passLast(LSeatCounts$House;LSeatCounts$Journal;IJ)J ===== -/
abbrev rm_X3_passLast : Room := { frames := 3, cells := 0, slots := 0, locals := 74 }
theorem lk_X3_passLast_123 : Cond.fieldLink RX3 123 "SeatCounts$House" "papers" "[I" ∈ wsX3_passLast := by decide +kernel
theorem lk_X3_passLast_134 : Cond.fieldLink RX3 134 "SeatCounts$Journal" "untransferable" "[J" ∈ wsX3_passLast := by decide +kernel
theorem lk_X3_passLast_15 : Cond.fieldLink RX3 15 "SeatCounts$PaperRules" "values" "[I" ∈ wsX3_passLast := by decide +kernel
theorem lk_X3_passLast_21 : Cond.fieldLink RX3 21 "SeatCounts$PaperRules" "piles" "I" ∈ wsX3_passLast := by decide +kernel
theorem lk_X3_passLast_28 : Cond.fieldLink RX3 28 "SeatCounts$PaperRules" "row" "I" ∈ wsX3_passLast := by decide +kernel
theorem ni_X3_passLast_X0 : ∀ w ∈ wsX00, w ∈ wsX3_passLast := by decide +kernel
theorem ni_X3_passLast_X1 : ∀ w ∈ wsX10, w ∈ wsX3_passLast := by decide +kernel
theorem ni_X3_passLast_X3 : ∀ w ∈ wsX30, w ∈ wsX3_passLast := by decide +kernel
noncomputable def fn_X3_passLast_182 (k129 : sc_M → Int32 → Int64 → Int32 → Int64 → Int32 → Int64 → Int64 → Int32 → Option (Int64 × sc_M)) (S : sc_M) (x3 : Int32) (x4 : Int64) (x6 : Int32) (x9 : Int64) (x11 : Int32) (x12 : Int64) (x16 : Int32) (z0 : Int64) (z4 : Int32) (z5 : Int64) : Option (Int64 × sc_M) :=
  sc_cl (fn_X3_send S z4 z5) (fun r182 S182 => sc_sq ((z0 + r182)) (fun y186 => k129 S182 x3 x4 x6 x9 x11 x12 y186 (x16 + 1)))
noncomputable def fn_X3_passLast_129 : Nat → sc_M → Int32 → Int64 → Int32 → Int64 → Int32 → Int64 → Int64 → Int32 → Option (Int64 × sc_M)
  | 0, _, _, _, _, _, _, _, _, _ => none
  | n + 1, S, x3, x4, x6, x9, x11, x12, x14, x16 =>
    if (sc_gi S 8) ≤ x16 then
      if x11 = 0 then
        sc_cl (fn_X1_now S) (fun r207 S207 => sc_ck r207 72 (sc_ck r207 72 (sc_sq (sc_mB S207 15 (vp_updL (sc_gb S207 15) r207.toNatClampNeg ((sc_gb S207 15 r207.toNatClampNeg) + (x4 - x9)))) (fun S218 => some (x4, S218)))))
      else
        some (x14, S)
    else
      sc_cl (fn_X3_passes S x16 x3 x6) (fun r146 S146 => if r146 = 0 then
        fn_X3_passLast_129 n S146 x3 x4 x6 x9 x11 x12 x14 (x16 + 1)
      else
        if x11 = 0 then
          sc_ck ((sc_gi S146 9) + x16) 1040 (fn_X3_passLast_182 (fn_X3_passLast_129 n) S146 x3 x4 x6 x9 x11 x12 x16 x14 x16 ((sc_ga S146 23 ((sc_gi S146 9) + x16).toNatClampNeg).toInt64))
        else
          fn_X3_passLast_182 (fn_X3_passLast_129 n) S146 x3 x4 x6 x9 x11 x12 x16 x14 x16 x12)
noncomputable def fn_X3_passLast_105 (S : sc_M) (x3 : Int32) (x4 : Int64) (x6 : Int32) (x7 : Int64) (x9 : Int64) (z0 : Int32) : Option (Int64 × sc_M) :=
  if z0 = 0 then
    fn_X3_passLast_129 sc_FU S x3 x4 x6 x9 z0 (0 : Int64) (0 : Int64) (0 : Int32)
  else
    sc_nl x7 (sc_sq ((x4 / x7)) (fun y121 => fn_X3_passLast_129 sc_FU S x3 x4 x6 x9 z0 y121 (0 : Int64) (0 : Int32)))
noncomputable def fn_X3_passLast_104 (S : sc_M) (x3 : Int32) (x4 : Int64) (x6 : Int32) (x7 : Int64) (x9 : Int64) : Option (Int64 × sc_M) :=
  fn_X3_passLast_105 S x3 x4 x6 x7 x9 (0 : Int32)
noncomputable def fn_X3_passLast_16 : Nat → sc_M → Int32 → Int64 → Int32 → Int64 → Int64 → Int32 → Option (Int64 × sc_M)
  | 0, _, _, _, _, _, _, _ => none
  | n + 1, S, x3, x4, x6, x7, x9, x11 =>
    if (sc_gi S 8) ≤ x11 then
      if x9 ≤ x4 then
        fn_X3_passLast_104 S x3 x4 x6 x7 x9
      else
        if x7 ≤ (0 : Int64) then
          fn_X3_passLast_104 S x3 x4 x6 x7 x9
        else
          fn_X3_passLast_105 S x3 x4 x6 x7 x9 (1 : Int32)
    else
      sc_cl (fn_X3_passes S x11 x3 x6) (fun r33 S33 => if r33 = 0 then
        fn_X3_passLast_16 n S33 x3 x4 x6 x7 x9 (x11 + 1)
      else
        sc_ck x11 80 (sc_sq ((x7 + (sc_ga S33 6 x11.toNatClampNeg).toInt64)) (fun y50 => sc_ck x11 80 (sc_ck ((sc_gi S33 9) + x11) 1040 (sc_sq ((x9 + ((sc_ga S33 6 x11.toNatClampNeg).toInt64 * (sc_ga S33 23 ((sc_gi S33 9) + x11).toNatClampNeg).toInt64))) (fun y77 => fn_X3_passLast_16 n S33 x3 x4 x6 y50 y77 (x11 + 1)))))))
noncomputable def fn_X3_passLast (S : sc_M) (x3 : Int32) (x4 : Int64) : Option (Int64 × sc_M) :=
  sc_cl (fn_X3_latestParcel S x3) (fun r2 S2 => fn_X3_passLast_16 sc_FU S2 x3 x4 r2 (0 : Int64) (0 : Int64) (0 : Int32))
section
variable {p : Program} {l : Launch} {e : Env} {s : State} {m : MethodId} {args : Array Value} {below : List Frame} {meth : Method} {c : Code} {Q : State → Prop} {dC : Nat → ClassId} {dI : Nat → Nat → Nat} {h : Nat → Nat} {cy : Nat → ClassId}
set_option maxHeartbeats 4000000 in
set_option maxRecDepth 100000 in
theorem wk_X3_passLast_182 (C0 : CallFix p m c cX3_passLast 17 s args wsX3_passLast RX3) {S' : sc_M} {r : Int64} (hR : sc_Rl p l e rm_X3_passLast s m args below meth c Q cX3_passLast (sc_EX dC dI h cy) S' r) {k129 : sc_M → Int32 → Int64 → Int32 → Int64 → Int32 → Int64 → Int64 → Int32 → Option (Int64 × sc_M)} (hk129 : ∀ (S : sc_M) (x3 : Int32) (x4 : Int64) (x6 : Int32) (x9 : Int64) (x11 : Int32) (x12 : Int64) (x14 : Int64) (x16 : Int32) (H : Heap) (locs : List Loc) (ls : Array Slot), k129 S x3 x4 x6 x9 x11 x12 x14 x16 = some (r, S') → sc_W (sc_EX dC dI h cy) s H locs S → lv_has ls 17 [(0, .ref (h 3)), (1, .ref (h 1)), (2, .ref (h 2)), (3, .int x3), (4, .long x4), (6, .int x6), (9, .long x9), (11, .int x11), (12, .long x12), (14, .long x14), (16, .int x16)] → W p l e rm_X3_passLast s m args below meth c H locs 0 0 Q (F0 m 129 ls [])) : ∀ (S : sc_M) (x3 : Int32) (x4 : Int64) (x6 : Int32) (x9 : Int64) (x11 : Int32) (x12 : Int64) (x16 : Int32) (z0 : Int64) (z4 : Int32) (z5 : Int64) (H : Heap) (locs : List Loc) (ls : Array Slot), fn_X3_passLast_182 k129 S x3 x4 x6 x9 x11 x12 x16 z0 z4 z5 = some (r, S') → sc_W (sc_EX dC dI h cy) s H locs S → lv_has ls 17 [(0, .ref (h 3)), (1, .ref (h 1)), (2, .ref (h 2)), (3, .int x3), (4, .long x4), (6, .int x6), (9, .long x9), (11, .int x11), (12, .long x12), (16, .int x16)] → W p l e rm_X3_passLast s m args below meth c H locs 0 0 Q (F0 m 182 ls [.long z5, .int z4, .ref (h 2), .ref (h 1), .ref (h 3), .long z0]) := by
  obtain ⟨hx, hb, hml, hown, hts⟩ := id C0
  intro S x3 x4 x6 x9 x11 x12 x16 z0 z4 z5 H locs ls hf hW hl
  rw [fn_X3_passLast_182] at hf
  obtain ⟨r182, S182, hc, hf⟩ := sc_cl_s hf
  refine sc_callVl (As := [.ref (h 1), .ref (h 2), .int z4, .long z5]) (rest := [.long z0]) (q0 := 3) (ci := 2) sc_okX C0 hW (ct_X3_send hc) (cwV 4 hts gX3_passLast_X3_send rfl rfl rfl (by decide +kernel) ⟨Nat.le_of_ble_eq_true rfl, Nat.le_of_ble_eq_true rfl⟩) rfl rfl rfl rfl hl.1 rfl (Nat.le_of_ble_eq_true rfl) dX3_passLast_182 (fun H locs hW => ?_)
  refine lv_ladd hx hb dX3_passLast_185 ?_
  obtain ⟨y186, ey186, hf⟩ := sc_sq_s hf
  refine sc_topl ey186 ?_
  refine lv_lstore (lv' := [(14, .long y186), (0, .ref (h 3)), (1, .ref (h 1)), (2, .ref (h 2)), (3, .int x3), (4, .long x4), (6, .int x6), (9, .long x9), (11, .int x11), (12, .long x12), (16, .int x16)]) hx hb dX3_passLast_186 hl (by decide) rfl (fun ls hl => ?_)
  refine lv_iinc (v := (x16 + 1)) (lv' := [(16, .int (x16 + 1)), (14, .long y186), (0, .ref (h 3)), (1, .ref (h 1)), (2, .ref (h 2)), (3, .int x3), (4, .long x4), (6, .int x6), (9, .long x9), (11, .int x11), (12, .long x12)]) hx hb dX3_passLast_188 hl (k := 10) rfl rfl (by decide) rfl (fun ls hl => ?_)
  refine lv_goto (tgt := 129) hx hb dX3_passLast_191 (by decide) ?_
  exact hk129 _ _ _ _ _ _ _ _ _ _ _ _ hf hW (lv_sub hl [2, 3, 4, 5, 6, 7, 8, 9, 10, 1, 0] rfl)
set_option maxHeartbeats 4000000 in
set_option maxRecDepth 100000 in
theorem wk_X3_passLast_129 (C0 : CallFix p m c cX3_passLast 17 s args wsX3_passLast RX3) {S' : sc_M} {r : Int64} (hR : sc_Rl p l e rm_X3_passLast s m args below meth c Q cX3_passLast (sc_EX dC dI h cy) S' r) : ∀ n : Nat, ∀ (S : sc_M) (x3 : Int32) (x4 : Int64) (x6 : Int32) (x9 : Int64) (x11 : Int32) (x12 : Int64) (x14 : Int64) (x16 : Int32) (H : Heap) (locs : List Loc) (ls : Array Slot), fn_X3_passLast_129 n S x3 x4 x6 x9 x11 x12 x14 x16 = some (r, S') → sc_W (sc_EX dC dI h cy) s H locs S → lv_has ls 17 [(0, .ref (h 3)), (1, .ref (h 1)), (2, .ref (h 2)), (3, .int x3), (4, .long x4), (6, .int x6), (9, .long x9), (11, .int x11), (12, .long x12), (14, .long x14), (16, .int x16)] → W p l e rm_X3_passLast s m args below meth c H locs 0 0 Q (F0 m 129 ls []) := by
  obtain ⟨hx, hb, hml, hown, hts⟩ := id C0
  intro n
  induction n with
  | zero => intro S x3 x4 x6 x9 x11 x12 x14 x16 H locs ls; intro hf; cases hf
  | succ n ih =>
    intro S x3 x4 x6 x9 x11 x12 x14 x16 H locs ls hf hW hl
    rw [fn_X3_passLast_129] at hf
    refine lv_iload hx hb dX3_passLast_129 (lv_at hl 10 rfl) ?_
    refine lv_aload_n hx hb dX3_passLast_131 rfl (lv_at hl 0 rfl) ?_
    refine sc_getX3 C0 hW ni_X3_passLast_X3 0 (Nat.le_of_ble_eq_true rfl) lk_X3_passLast_21 (v := .int (sc_gi S 8)) rfl dX3_passLast_132 ?_
    refine lv_icmp_ge (tgt := 194) hx hb dX3_passLast_135 (by decide) (fun hc => ?_) (fun hc => ?_)
    · replace hf := sc_ip hc hf
      refine lv_iload hx hb dX3_passLast_194 (lv_at hl 7 rfl) ?_
      refine lv_if_eq (tgt := 202) hx hb dX3_passLast_196 (by decide) (fun hc => ?_) (fun hc => ?_)
      · replace hf := sc_ip hc hf
        refine lv_aload_n hx hb dX3_passLast_202 rfl (lv_at hl 2 rfl) ?_
        refine sc_getX1 C0 hW ni_X3_passLast_X1 11 (Nat.le_of_ble_eq_true rfl) lk_X3_passLast_134 (v := .ref (h 15)) rfl dX3_passLast_203 ?_
        refine lv_aload_n hx hb dX3_passLast_206 rfl (lv_at hl 2 rfl) ?_
        obtain ⟨r207, S207, hc, hf⟩ := sc_cl_s hf
        refine sc_callVi (As := []) (rest := [.ref (h 15)]) (q0 := 2) (ci := 1) sc_okX C0 hW (ct_X1_now hc) (cwV 0 hts gX3_passLast_X1_now rfl rfl rfl (by decide +kernel) ⟨Nat.le_of_ble_eq_true rfl, Nat.le_of_ble_eq_true rfl⟩) rfl rfl rfl rfl hl.1 rfl (Nat.le_of_ble_eq_true rfl) dX3_passLast_207 (fun H locs hW => ?_)
        refine lv_dup2_11 hx hb dX3_passLast_210 rfl rfl ?_
        obtain ⟨hv, hf⟩ := sc_ck_s hf
        refine sc_ldX_15 C0 hW hv dX3_passLast_211 ?_
        refine lv_lload hx hb dX3_passLast_212 (lv_at hl 4 rfl) ?_
        refine lv_lload hx hb dX3_passLast_214 (lv_at hl 6 rfl) ?_
        refine lv_lsub hx hb dX3_passLast_216 ?_
        refine lv_ladd hx hb dX3_passLast_217 ?_
        obtain ⟨hv, hf⟩ := sc_ck_s hf
        obtain ⟨S218, eS218, hf⟩ := sc_sq_s hf
        refine sc_stX_15 C0 hW hv eS218 dX3_passLast_218 (fun H locs hW => ?_)
        refine lv_lload hx hb dX3_passLast_219 (lv_at hl 4 rfl) ?_
        exact sc_retl hR hf hW dX3_passLast_221
      · replace hf := sc_in hc hf
        refine lv_lload hx hb dX3_passLast_199 (lv_at hl 9 rfl) ?_
        exact sc_retl hR hf hW dX3_passLast_201
    · replace hf := sc_in hc hf
      refine lv_aload_n hx hb dX3_passLast_138 rfl (lv_at hl 0 rfl) ?_
      refine lv_aload_n hx hb dX3_passLast_139 rfl (lv_at hl 1 rfl) ?_
      refine lv_aload_n hx hb dX3_passLast_140 rfl (lv_at hl 2 rfl) ?_
      refine lv_iload hx hb dX3_passLast_141 (lv_at hl 10 rfl) ?_
      refine lv_iload_n hx hb dX3_passLast_143 rfl (lv_at hl 3 rfl) ?_
      refine lv_iload hx hb dX3_passLast_144 (lv_at hl 5 rfl) ?_
      obtain ⟨r146, S146, hc, hf⟩ := sc_cl_s hf
      refine sc_callVi (As := [.ref (h 1), .ref (h 2), .int x16, .int x3, .int x6]) (rest := []) (q0 := 3) (ci := 2) sc_okX C0 hW (ct_X3_passes hc) (cwV 5 hts gX3_passLast_X3_passes rfl rfl rfl (by decide +kernel) ⟨Nat.le_of_ble_eq_true rfl, Nat.le_of_ble_eq_true rfl⟩) rfl rfl rfl rfl hl.1 rfl (Nat.le_of_ble_eq_true rfl) dX3_passLast_146 (fun H locs hW => ?_)
      refine lv_if_eq (tgt := 188) hx hb dX3_passLast_149 (by decide) (fun hc => ?_) (fun hc => ?_)
      · replace hf := sc_ip hc hf
        refine lv_iinc (v := (x16 + 1)) (lv' := [(16, .int (x16 + 1)), (0, .ref (h 3)), (1, .ref (h 1)), (2, .ref (h 2)), (3, .int x3), (4, .long x4), (6, .int x6), (9, .long x9), (11, .int x11), (12, .long x12), (14, .long x14)]) hx hb dX3_passLast_188 hl (k := 10) rfl rfl (by decide) rfl (fun ls hl => ?_)
        refine lv_goto (tgt := 129) hx hb dX3_passLast_191 (by decide) ?_
        exact ih _ _ _ _ _ _ _ _ _ _ _ _ hf hW (lv_sub hl [1, 2, 3, 4, 5, 6, 7, 8, 9, 10, 0] rfl)
      · replace hf := sc_in hc hf
        refine lv_lload hx hb dX3_passLast_152 (lv_at hl 9 rfl) ?_
        refine lv_aload_n hx hb dX3_passLast_154 rfl (lv_at hl 0 rfl) ?_
        refine lv_aload_n hx hb dX3_passLast_155 rfl (lv_at hl 1 rfl) ?_
        refine lv_aload_n hx hb dX3_passLast_156 rfl (lv_at hl 2 rfl) ?_
        refine lv_iload hx hb dX3_passLast_157 (lv_at hl 10 rfl) ?_
        refine lv_iload hx hb dX3_passLast_159 (lv_at hl 7 rfl) ?_
        refine lv_if_eq (tgt := 169) hx hb dX3_passLast_161 (by decide) (fun hc => ?_) (fun hc => ?_)
        · replace hf := sc_ip hc hf
          refine lv_aload_n hx hb dX3_passLast_169 rfl (lv_at hl 0 rfl) ?_
          refine sc_getX3 C0 hW ni_X3_passLast_X3 2 (Nat.le_of_ble_eq_true rfl) lk_X3_passLast_15 (v := .ref (h 23)) rfl dX3_passLast_170 ?_
          refine lv_aload_n hx hb dX3_passLast_173 rfl (lv_at hl 0 rfl) ?_
          refine sc_getX3 C0 hW ni_X3_passLast_X3 3 (Nat.le_of_ble_eq_true rfl) lk_X3_passLast_28 (v := .int (sc_gi S146 9)) rfl dX3_passLast_174 ?_
          refine lv_iload hx hb dX3_passLast_177 (lv_at hl 10 rfl) ?_
          refine lv_iadd hx hb dX3_passLast_179 ?_
          obtain ⟨hv, hf⟩ := sc_ck_s hf
          refine sc_ldX_23 C0 hW hv dX3_passLast_180 ?_
          refine lv_i2l hx hb dX3_passLast_181 rfl ?_
          exact wk_X3_passLast_182 C0 hR ih _ _ _ _ _ _ _ _ _ _ _ _ _ _ hf hW (lv_sub hl [0, 1, 2, 3, 4, 5, 6, 7, 8, 10] rfl)
        · replace hf := sc_in hc hf
          refine lv_lload hx hb dX3_passLast_164 (lv_at hl 8 rfl) ?_
          refine lv_goto (tgt := 182) hx hb dX3_passLast_166 (by decide) ?_
          exact wk_X3_passLast_182 C0 hR ih _ _ _ _ _ _ _ _ _ _ _ _ _ _ hf hW (lv_sub hl [0, 1, 2, 3, 4, 5, 6, 7, 8, 10] rfl)
set_option maxHeartbeats 4000000 in
set_option maxRecDepth 100000 in
theorem wk_X3_passLast_105 (C0 : CallFix p m c cX3_passLast 17 s args wsX3_passLast RX3) {S' : sc_M} {r : Int64} (hR : sc_Rl p l e rm_X3_passLast s m args below meth c Q cX3_passLast (sc_EX dC dI h cy) S' r) : ∀ (S : sc_M) (x3 : Int32) (x4 : Int64) (x6 : Int32) (x7 : Int64) (x9 : Int64) (z0 : Int32) (H : Heap) (locs : List Loc) (ls : Array Slot), fn_X3_passLast_105 S x3 x4 x6 x7 x9 z0 = some (r, S') → sc_W (sc_EX dC dI h cy) s H locs S → lv_has ls 17 [(0, .ref (h 3)), (1, .ref (h 1)), (2, .ref (h 2)), (3, .int x3), (4, .long x4), (6, .int x6), (7, .long x7), (9, .long x9)] → W p l e rm_X3_passLast s m args below meth c H locs 0 0 Q (F0 m 105 ls [.int z0]) := by
  obtain ⟨hx, hb, hml, hown, hts⟩ := id C0
  intro S x3 x4 x6 x7 x9 z0 H locs ls hf hW hl
  rw [fn_X3_passLast_105] at hf
  refine lv_istore (lv' := [(11, .int z0), (0, .ref (h 3)), (1, .ref (h 1)), (2, .ref (h 2)), (3, .int x3), (4, .long x4), (6, .int x6), (7, .long x7), (9, .long x9)]) hx hb dX3_passLast_105 hl (by decide) rfl (fun ls hl => ?_)
  refine lv_iload hx hb dX3_passLast_107 (lv_at hl 0 rfl) ?_
  refine lv_if_eq (tgt := 120) hx hb dX3_passLast_109 (by decide) (fun hc => ?_) (fun hc => ?_)
  · replace hf := sc_ip hc hf
    refine lv_lconst (v := (0 : Int64)) hx hb dX3_passLast_120 (by decide) ?_
    refine lv_lstore (lv' := [(12, .long (0 : Int64)), (11, .int z0), (0, .ref (h 3)), (1, .ref (h 1)), (2, .ref (h 2)), (3, .int x3), (4, .long x4), (6, .int x6), (7, .long x7), (9, .long x9)]) hx hb dX3_passLast_121 hl (by decide) rfl (fun ls hl => ?_)
    refine lv_lconst (v := (0 : Int64)) hx hb dX3_passLast_123 (by decide) ?_
    refine lv_lstore (lv' := [(14, .long (0 : Int64)), (12, .long (0 : Int64)), (11, .int z0), (0, .ref (h 3)), (1, .ref (h 1)), (2, .ref (h 2)), (3, .int x3), (4, .long x4), (6, .int x6), (7, .long x7), (9, .long x9)]) hx hb dX3_passLast_124 hl (by decide) rfl (fun ls hl => ?_)
    refine lv_iconst (v := (0 : Int32)) hx hb dX3_passLast_126 (by decide) ?_
    refine lv_istore (lv' := [(16, .int (0 : Int32)), (14, .long (0 : Int64)), (12, .long (0 : Int64)), (11, .int z0), (0, .ref (h 3)), (1, .ref (h 1)), (2, .ref (h 2)), (3, .int x3), (4, .long x4), (6, .int x6), (7, .long x7), (9, .long x9)]) hx hb dX3_passLast_127 hl (by decide) rfl (fun ls hl => ?_)
    exact wk_X3_passLast_129 C0 hR  sc_FU _ _ _ _ _ _ _ _ _ _ _ _ hf hW (lv_sub hl [4, 5, 6, 7, 8, 9, 11, 3, 2, 1, 0] rfl)
  · replace hf := sc_in hc hf
    refine lv_lload hx hb dX3_passLast_112 (lv_at hl 5 rfl) ?_
    refine lv_lload hx hb dX3_passLast_114 (lv_at hl 7 rfl) ?_
    obtain ⟨hz, hf⟩ := sc_nl_s hf
    refine lv_ldiv hx hb dX3_passLast_116 hz ?_
    refine lv_goto (tgt := 121) hx hb dX3_passLast_117 (by decide) ?_
    obtain ⟨y121, ey121, hf⟩ := sc_sq_s hf
    refine sc_topl ey121 ?_
    refine lv_lstore (lv' := [(12, .long y121), (11, .int z0), (0, .ref (h 3)), (1, .ref (h 1)), (2, .ref (h 2)), (3, .int x3), (4, .long x4), (6, .int x6), (7, .long x7), (9, .long x9)]) hx hb dX3_passLast_121 hl (by decide) rfl (fun ls hl => ?_)
    refine lv_lconst (v := (0 : Int64)) hx hb dX3_passLast_123 (by decide) ?_
    refine lv_lstore (lv' := [(14, .long (0 : Int64)), (12, .long y121), (11, .int z0), (0, .ref (h 3)), (1, .ref (h 1)), (2, .ref (h 2)), (3, .int x3), (4, .long x4), (6, .int x6), (7, .long x7), (9, .long x9)]) hx hb dX3_passLast_124 hl (by decide) rfl (fun ls hl => ?_)
    refine lv_iconst (v := (0 : Int32)) hx hb dX3_passLast_126 (by decide) ?_
    refine lv_istore (lv' := [(16, .int (0 : Int32)), (14, .long (0 : Int64)), (12, .long y121), (11, .int z0), (0, .ref (h 3)), (1, .ref (h 1)), (2, .ref (h 2)), (3, .int x3), (4, .long x4), (6, .int x6), (7, .long x7), (9, .long x9)]) hx hb dX3_passLast_127 hl (by decide) rfl (fun ls hl => ?_)
    exact wk_X3_passLast_129 C0 hR  sc_FU _ _ _ _ _ _ _ _ _ _ _ _ hf hW (lv_sub hl [4, 5, 6, 7, 8, 9, 11, 3, 2, 1, 0] rfl)
set_option maxHeartbeats 4000000 in
set_option maxRecDepth 100000 in
theorem wk_X3_passLast_104 (C0 : CallFix p m c cX3_passLast 17 s args wsX3_passLast RX3) {S' : sc_M} {r : Int64} (hR : sc_Rl p l e rm_X3_passLast s m args below meth c Q cX3_passLast (sc_EX dC dI h cy) S' r) : ∀ (S : sc_M) (x3 : Int32) (x4 : Int64) (x6 : Int32) (x7 : Int64) (x9 : Int64) (H : Heap) (locs : List Loc) (ls : Array Slot), fn_X3_passLast_104 S x3 x4 x6 x7 x9 = some (r, S') → sc_W (sc_EX dC dI h cy) s H locs S → lv_has ls 17 [(0, .ref (h 3)), (1, .ref (h 1)), (2, .ref (h 2)), (3, .int x3), (4, .long x4), (6, .int x6), (7, .long x7), (9, .long x9)] → W p l e rm_X3_passLast s m args below meth c H locs 0 0 Q (F0 m 104 ls []) := by
  obtain ⟨hx, hb, hml, hown, hts⟩ := id C0
  intro S x3 x4 x6 x7 x9 H locs ls hf hW hl
  rw [fn_X3_passLast_104] at hf
  refine lv_iconst (v := (0 : Int32)) hx hb dX3_passLast_104 (by decide) ?_
  exact wk_X3_passLast_105 C0 hR  _ _ _ _ _ _ _ _ _ _ hf hW (lv_sub hl [0, 1, 2, 3, 4, 5, 6, 7] rfl)
set_option maxHeartbeats 4000000 in
set_option maxRecDepth 100000 in
theorem wk_X3_passLast_16 (C0 : CallFix p m c cX3_passLast 17 s args wsX3_passLast RX3) {S' : sc_M} {r : Int64} (hR : sc_Rl p l e rm_X3_passLast s m args below meth c Q cX3_passLast (sc_EX dC dI h cy) S' r) : ∀ n : Nat, ∀ (S : sc_M) (x3 : Int32) (x4 : Int64) (x6 : Int32) (x7 : Int64) (x9 : Int64) (x11 : Int32) (H : Heap) (locs : List Loc) (ls : Array Slot), fn_X3_passLast_16 n S x3 x4 x6 x7 x9 x11 = some (r, S') → sc_W (sc_EX dC dI h cy) s H locs S → lv_has ls 17 [(0, .ref (h 3)), (1, .ref (h 1)), (2, .ref (h 2)), (3, .int x3), (4, .long x4), (6, .int x6), (7, .long x7), (9, .long x9), (11, .int x11)] → W p l e rm_X3_passLast s m args below meth c H locs 0 0 Q (F0 m 16 ls []) := by
  obtain ⟨hx, hb, hml, hown, hts⟩ := id C0
  intro n
  induction n with
  | zero => intro S x3 x4 x6 x7 x9 x11 H locs ls; intro hf; cases hf
  | succ n ih =>
    intro S x3 x4 x6 x7 x9 x11 H locs ls hf hW hl
    rw [fn_X3_passLast_16] at hf
    refine lv_iload hx hb dX3_passLast_16 (lv_at hl 8 rfl) ?_
    refine lv_aload_n hx hb dX3_passLast_18 rfl (lv_at hl 0 rfl) ?_
    refine sc_getX3 C0 hW ni_X3_passLast_X3 0 (Nat.le_of_ble_eq_true rfl) lk_X3_passLast_21 (v := .int (sc_gi S 8)) rfl dX3_passLast_19 ?_
    refine lv_icmp_ge (tgt := 85) hx hb dX3_passLast_22 (by decide) (fun hc => ?_) (fun hc => ?_)
    · replace hf := sc_ip hc hf
      refine lv_lload hx hb dX3_passLast_85 (lv_at hl 7 rfl) ?_
      refine lv_lload hx hb dX3_passLast_87 (lv_at hl 4 rfl) ?_
      refine sc_l_le (tgt := 104) C0 dX3_passLast_89 dX3_passLast_90 (by decide) (fun hc => ?_) (fun hc => ?_)
      · replace hf := sc_ip hc hf
        exact wk_X3_passLast_104 C0 hR  _ _ _ _ _ _ _ _ _ hf hW (lv_sub hl [0, 1, 2, 3, 4, 5, 6, 7] rfl)
      · replace hf := sc_in hc hf
        refine lv_lload hx hb dX3_passLast_93 (lv_at hl 6 rfl) ?_
        refine lv_lconst (v := (0 : Int64)) hx hb dX3_passLast_95 (by decide) ?_
        refine sc_l_le (tgt := 104) C0 dX3_passLast_96 dX3_passLast_97 (by decide) (fun hc => ?_) (fun hc => ?_)
        · replace hf := sc_ip hc hf
          exact wk_X3_passLast_104 C0 hR  _ _ _ _ _ _ _ _ _ hf hW (lv_sub hl [0, 1, 2, 3, 4, 5, 6, 7] rfl)
        · replace hf := sc_in hc hf
          refine lv_iconst (v := (1 : Int32)) hx hb dX3_passLast_100 (by decide) ?_
          refine lv_goto (tgt := 105) hx hb dX3_passLast_101 (by decide) ?_
          exact wk_X3_passLast_105 C0 hR  _ _ _ _ _ _ _ _ _ _ hf hW (lv_sub hl [0, 1, 2, 3, 4, 5, 6, 7] rfl)
    · replace hf := sc_in hc hf
      refine lv_aload_n hx hb dX3_passLast_25 rfl (lv_at hl 0 rfl) ?_
      refine lv_aload_n hx hb dX3_passLast_26 rfl (lv_at hl 1 rfl) ?_
      refine lv_aload_n hx hb dX3_passLast_27 rfl (lv_at hl 2 rfl) ?_
      refine lv_iload hx hb dX3_passLast_28 (lv_at hl 8 rfl) ?_
      refine lv_iload_n hx hb dX3_passLast_30 rfl (lv_at hl 3 rfl) ?_
      refine lv_iload hx hb dX3_passLast_31 (lv_at hl 5 rfl) ?_
      obtain ⟨r33, S33, hc, hf⟩ := sc_cl_s hf
      refine sc_callVi (As := [.ref (h 1), .ref (h 2), .int x11, .int x3, .int x6]) (rest := []) (q0 := 3) (ci := 2) sc_okX C0 hW (ct_X3_passes hc) (cwV 5 hts gX3_passLast_X3_passes rfl rfl rfl (by decide +kernel) ⟨Nat.le_of_ble_eq_true rfl, Nat.le_of_ble_eq_true rfl⟩) rfl rfl rfl rfl hl.1 rfl (Nat.le_of_ble_eq_true rfl) dX3_passLast_33 (fun H locs hW => ?_)
      refine lv_if_eq (tgt := 79) hx hb dX3_passLast_36 (by decide) (fun hc => ?_) (fun hc => ?_)
      · replace hf := sc_ip hc hf
        refine lv_iinc (v := (x11 + 1)) (lv' := [(11, .int (x11 + 1)), (0, .ref (h 3)), (1, .ref (h 1)), (2, .ref (h 2)), (3, .int x3), (4, .long x4), (6, .int x6), (7, .long x7), (9, .long x9)]) hx hb dX3_passLast_79 hl (k := 8) rfl rfl (by decide) rfl (fun ls hl => ?_)
        refine lv_goto (tgt := 16) hx hb dX3_passLast_82 (by decide) ?_
        exact ih _ _ _ _ _ _ _ _ _ _ hf hW (lv_sub hl [1, 2, 3, 4, 5, 6, 7, 8, 0] rfl)
      · replace hf := sc_in hc hf
        refine lv_lload hx hb dX3_passLast_39 (lv_at hl 6 rfl) ?_
        refine lv_aload_n hx hb dX3_passLast_41 rfl (lv_at hl 1 rfl) ?_
        refine sc_getX0 C0 hW ni_X3_passLast_X0 4 (Nat.le_of_ble_eq_true rfl) lk_X3_passLast_123 (v := .ref (h 6)) rfl dX3_passLast_42 ?_
        refine lv_iload hx hb dX3_passLast_45 (lv_at hl 8 rfl) ?_
        obtain ⟨hv, hf⟩ := sc_ck_s hf
        refine sc_ldX_6 C0 hW hv dX3_passLast_47 ?_
        refine lv_i2l hx hb dX3_passLast_48 rfl ?_
        refine lv_ladd hx hb dX3_passLast_49 ?_
        obtain ⟨y50, ey50, hf⟩ := sc_sq_s hf
        refine sc_topl ey50 ?_
        refine lv_lstore (lv' := [(7, .long y50), (0, .ref (h 3)), (1, .ref (h 1)), (2, .ref (h 2)), (3, .int x3), (4, .long x4), (6, .int x6), (9, .long x9), (11, .int x11)]) hx hb dX3_passLast_50 hl (by decide) rfl (fun ls hl => ?_)
        refine lv_lload hx hb dX3_passLast_52 (lv_at hl 7 rfl) ?_
        refine lv_aload_n hx hb dX3_passLast_54 rfl (lv_at hl 2 rfl) ?_
        refine sc_getX0 C0 hW ni_X3_passLast_X0 4 (Nat.le_of_ble_eq_true rfl) lk_X3_passLast_123 (v := .ref (h 6)) rfl dX3_passLast_55 ?_
        refine lv_iload hx hb dX3_passLast_58 (lv_at hl 8 rfl) ?_
        obtain ⟨hv, hf⟩ := sc_ck_s hf
        refine sc_ldX_6 C0 hW hv dX3_passLast_60 ?_
        refine lv_i2l hx hb dX3_passLast_61 rfl ?_
        refine lv_aload_n hx hb dX3_passLast_62 rfl (lv_at hl 1 rfl) ?_
        refine sc_getX3 C0 hW ni_X3_passLast_X3 2 (Nat.le_of_ble_eq_true rfl) lk_X3_passLast_15 (v := .ref (h 23)) rfl dX3_passLast_63 ?_
        refine lv_aload_n hx hb dX3_passLast_66 rfl (lv_at hl 1 rfl) ?_
        refine sc_getX3 C0 hW ni_X3_passLast_X3 3 (Nat.le_of_ble_eq_true rfl) lk_X3_passLast_28 (v := .int (sc_gi S33 9)) rfl dX3_passLast_67 ?_
        refine lv_iload hx hb dX3_passLast_70 (lv_at hl 8 rfl) ?_
        refine lv_iadd hx hb dX3_passLast_72 ?_
        obtain ⟨hv, hf⟩ := sc_ck_s hf
        refine sc_ldX_23 C0 hW hv dX3_passLast_73 ?_
        refine lv_i2l hx hb dX3_passLast_74 rfl ?_
        refine lv_lmul hx hb dX3_passLast_75 ?_
        refine lv_ladd hx hb dX3_passLast_76 ?_
        obtain ⟨y77, ey77, hf⟩ := sc_sq_s hf
        refine sc_topl ey77 ?_
        refine lv_lstore (lv' := [(9, .long y77), (7, .long y50), (0, .ref (h 3)), (1, .ref (h 1)), (2, .ref (h 2)), (3, .int x3), (4, .long x4), (6, .int x6), (11, .int x11)]) hx hb dX3_passLast_77 hl (by decide) rfl (fun ls hl => ?_)
        refine lv_iinc (v := (x11 + 1)) (lv' := [(11, .int (x11 + 1)), (9, .long y77), (7, .long y50), (0, .ref (h 3)), (1, .ref (h 1)), (2, .ref (h 2)), (3, .int x3), (4, .long x4), (6, .int x6)]) hx hb dX3_passLast_79 hl (k := 8) rfl rfl (by decide) rfl (fun ls hl => ?_)
        refine lv_goto (tgt := 16) hx hb dX3_passLast_82 (by decide) ?_
        exact ih _ _ _ _ _ _ _ _ _ _ hf hW (lv_sub hl [3, 4, 5, 6, 7, 8, 2, 1, 0] rfl)
set_option maxHeartbeats 4000000 in
set_option maxRecDepth 100000 in
theorem wk_X3_passLast_0 (C0 : CallFix p m c cX3_passLast 17 s args wsX3_passLast RX3) {S' : sc_M} {r : Int64} (hR : sc_Rl p l e rm_X3_passLast s m args below meth c Q cX3_passLast (sc_EX dC dI h cy) S' r) : ∀ (S : sc_M) (x3 : Int32) (x4 : Int64) (H : Heap) (locs : List Loc) (ls : Array Slot), fn_X3_passLast S x3 x4 = some (r, S') → sc_W (sc_EX dC dI h cy) s H locs S → lv_has ls 17 [(0, .ref (h 3)), (1, .ref (h 1)), (2, .ref (h 2)), (3, .int x3), (4, .long x4)] → W p l e rm_X3_passLast s m args below meth c H locs 0 0 Q (F0 m 0 ls []) := by
  obtain ⟨hx, hb, hml, hown, hts⟩ := id C0
  intro S x3 x4 H locs ls hf hW hl
  rw [fn_X3_passLast] at hf
  refine lv_aload_n hx hb dX3_passLast_0 rfl (lv_at hl 0 rfl) ?_
  refine lv_iload_n hx hb dX3_passLast_1 rfl (lv_at hl 3 rfl) ?_
  obtain ⟨r2, S2, hc, hf⟩ := sc_cl_s hf
  refine sc_callVi (As := [.int x3]) (rest := []) (q0 := 3) (ci := 2) sc_okX C0 hW (ct_X3_latestParcel hc) (cwV 1 hts gX3_passLast_X3_latestParcel rfl rfl rfl (by decide +kernel) ⟨Nat.le_of_ble_eq_true rfl, Nat.le_of_ble_eq_true rfl⟩) rfl rfl rfl rfl hl.1 rfl (Nat.le_of_ble_eq_true rfl) dX3_passLast_2 (fun H locs hW => ?_)
  refine lv_istore (lv' := [(6, .int r2), (0, .ref (h 3)), (1, .ref (h 1)), (2, .ref (h 2)), (3, .int x3), (4, .long x4)]) hx hb dX3_passLast_5 hl (by decide) rfl (fun ls hl => ?_)
  refine lv_lconst (v := (0 : Int64)) hx hb dX3_passLast_7 (by decide) ?_
  refine lv_lstore (lv' := [(7, .long (0 : Int64)), (6, .int r2), (0, .ref (h 3)), (1, .ref (h 1)), (2, .ref (h 2)), (3, .int x3), (4, .long x4)]) hx hb dX3_passLast_8 hl (by decide) rfl (fun ls hl => ?_)
  refine lv_lconst (v := (0 : Int64)) hx hb dX3_passLast_10 (by decide) ?_
  refine lv_lstore (lv' := [(9, .long (0 : Int64)), (7, .long (0 : Int64)), (6, .int r2), (0, .ref (h 3)), (1, .ref (h 1)), (2, .ref (h 2)), (3, .int x3), (4, .long x4)]) hx hb dX3_passLast_11 hl (by decide) rfl (fun ls hl => ?_)
  refine lv_iconst (v := (0 : Int32)) hx hb dX3_passLast_13 (by decide) ?_
  refine lv_istore (lv' := [(11, .int (0 : Int32)), (9, .long (0 : Int64)), (7, .long (0 : Int64)), (6, .int r2), (0, .ref (h 3)), (1, .ref (h 1)), (2, .ref (h 2)), (3, .int x3), (4, .long x4)]) hx hb dX3_passLast_14 hl (by decide) rfl (fun ls hl => ?_)
  exact wk_X3_passLast_16 C0 hR  sc_FU _ _ _ _ _ _ _ _ _ _ hf hW (lv_sub hl [4, 5, 6, 7, 8, 3, 2, 1, 0] rfl)
set_option maxRecDepth 100000 in
theorem ct_X3_passLast {S S' : sc_M} {r : Int64} {x3 : Int32} {x4 : Int64} (hf : fn_X3_passLast S x3 x4 = some (r, S')) : sc_Cl l yX3_passLast wsX3_passLast rm_X3_passLast (sc_EX dC dI h cy) [.ref (h 3), .ref (h 1), .ref (h 2), .int x3, .long x4] S S' r := by
  refine sc_ofl (cc := cX3_passLast) (maxL := 17) sc_okX (by decide) rfl (Nat.le_of_ble_eq_true rfl) ?_
  intro p e s m below meth c Q C0 hR hW ls hl
  exact wk_X3_passLast_0 C0 hR _ _ _ _ _ _ hf hW hl
end

/-! ===== SeatCounts$PaperRules.papersOf(LSeatCounts$House;I)J ===== -/
abbrev rm_X3_papersOf : Room := { frames := 0, cells := 0, slots := 0, locals := 0 }
theorem lk_X3_papersOf_123 : Cond.fieldLink RX3 123 "SeatCounts$House" "papers" "[I" ∈ wsX3_papersOf := by decide +kernel
theorem lk_X3_papersOf_21 : Cond.fieldLink RX3 21 "SeatCounts$PaperRules" "piles" "I" ∈ wsX3_papersOf := by decide +kernel
theorem lk_X3_papersOf_28 : Cond.fieldLink RX3 28 "SeatCounts$PaperRules" "row" "I" ∈ wsX3_papersOf := by decide +kernel
theorem lk_X3_papersOf_9 : Cond.fieldLink RX3 9 "SeatCounts$PaperRules" "holders" "[I" ∈ wsX3_papersOf := by decide +kernel
theorem ni_X3_papersOf_X0 : ∀ w ∈ wsX00, w ∈ wsX3_papersOf := by decide +kernel
theorem ni_X3_papersOf_X3 : ∀ w ∈ wsX30, w ∈ wsX3_papersOf := by decide +kernel
noncomputable def fn_X3_papersOf_5 : Nat → sc_M → Int32 → Int64 → Int32 → Option (Int64 × sc_M)
  | 0, _, _, _, _ => none
  | n + 1, S, x2, x3, x5 =>
    if (sc_gi S 8) ≤ x5 then
      some (x3, S)
    else
      sc_ck ((sc_gi S 9) + x5) 1040 (if (sc_ga S 22 ((sc_gi S 9) + x5).toNatClampNeg) = x2 then
        sc_ck x5 80 (sc_sq ((x3 + (sc_ga S 6 x5.toNatClampNeg).toInt64)) (fun y40 => fn_X3_papersOf_5 n S x2 y40 (x5 + 1)))
      else
        fn_X3_papersOf_5 n S x2 x3 (x5 + 1))
noncomputable def fn_X3_papersOf (S : sc_M) (x2 : Int32) : Option (Int64 × sc_M) :=
  fn_X3_papersOf_5 sc_FU S x2 (0 : Int64) (0 : Int32)
section
variable {p : Program} {l : Launch} {e : Env} {s : State} {m : MethodId} {args : Array Value} {below : List Frame} {meth : Method} {c : Code} {Q : State → Prop} {dC : Nat → ClassId} {dI : Nat → Nat → Nat} {h : Nat → Nat} {cy : Nat → ClassId}
set_option maxHeartbeats 4000000 in
set_option maxRecDepth 100000 in
theorem wk_X3_papersOf_5 (C0 : CallFix p m c cX3_papersOf 6 s args wsX3_papersOf RX3) {S' : sc_M} {r : Int64} (hR : sc_Rl p l e rm_X3_papersOf s m args below meth c Q cX3_papersOf (sc_EX dC dI h cy) S' r) : ∀ n : Nat, ∀ (S : sc_M) (x2 : Int32) (x3 : Int64) (x5 : Int32) (H : Heap) (locs : List Loc) (ls : Array Slot), fn_X3_papersOf_5 n S x2 x3 x5 = some (r, S') → sc_W (sc_EX dC dI h cy) s H locs S → lv_has ls 6 [(0, .ref (h 3)), (1, .ref (h 1)), (2, .int x2), (3, .long x3), (5, .int x5)] → W p l e rm_X3_papersOf s m args below meth c H locs 0 0 Q (F0 m 5 ls []) := by
  obtain ⟨hx, hb, hml, hown, hts⟩ := id C0
  intro n
  induction n with
  | zero => intro S x2 x3 x5 H locs ls; intro hf; cases hf
  | succ n ih =>
    intro S x2 x3 x5 H locs ls hf hW hl
    rw [fn_X3_papersOf_5] at hf
    refine lv_iload hx hb dX3_papersOf_5 (lv_at hl 4 rfl) ?_
    refine lv_aload_n hx hb dX3_papersOf_7 rfl (lv_at hl 0 rfl) ?_
    refine sc_getX3 C0 hW ni_X3_papersOf_X3 0 (Nat.le_of_ble_eq_true rfl) lk_X3_papersOf_21 (v := .int (sc_gi S 8)) rfl dX3_papersOf_8 ?_
    refine lv_icmp_ge (tgt := 47) hx hb dX3_papersOf_11 (by decide) (fun hc => ?_) (fun hc => ?_)
    · replace hf := sc_ip hc hf
      refine lv_lload_n hx hb dX3_papersOf_47 rfl (lv_at hl 3 rfl) ?_
      exact sc_retl hR hf hW dX3_papersOf_48
    · replace hf := sc_in hc hf
      refine lv_aload_n hx hb dX3_papersOf_14 rfl (lv_at hl 0 rfl) ?_
      refine sc_getX3 C0 hW ni_X3_papersOf_X3 1 (Nat.le_of_ble_eq_true rfl) lk_X3_papersOf_9 (v := .ref (h 22)) rfl dX3_papersOf_15 ?_
      refine lv_aload_n hx hb dX3_papersOf_18 rfl (lv_at hl 0 rfl) ?_
      refine sc_getX3 C0 hW ni_X3_papersOf_X3 3 (Nat.le_of_ble_eq_true rfl) lk_X3_papersOf_28 (v := .int (sc_gi S 9)) rfl dX3_papersOf_19 ?_
      refine lv_iload hx hb dX3_papersOf_22 (lv_at hl 4 rfl) ?_
      refine lv_iadd hx hb dX3_papersOf_24 ?_
      obtain ⟨hv, hf⟩ := sc_ck_s hf
      refine sc_ldX_22 C0 hW hv dX3_papersOf_25 ?_
      refine lv_iload_n hx hb dX3_papersOf_26 rfl (lv_at hl 2 rfl) ?_
      refine lv_icmp_ne (tgt := 41) hx hb dX3_papersOf_27 (by decide) (fun hc => ?_) (fun hc => ?_)
      · replace hf := sc_in hc hf
        refine lv_iinc (v := (x5 + 1)) (lv' := [(5, .int (x5 + 1)), (0, .ref (h 3)), (1, .ref (h 1)), (2, .int x2), (3, .long x3)]) hx hb dX3_papersOf_41 hl (k := 4) rfl rfl (by decide) rfl (fun ls hl => ?_)
        refine lv_goto (tgt := 5) hx hb dX3_papersOf_44 (by decide) ?_
        exact ih _ _ _ _ _ _ _ hf hW (lv_sub hl [1, 2, 3, 4, 0] rfl)
      · replace hf := sc_ip hc hf
        refine lv_lload_n hx hb dX3_papersOf_30 rfl (lv_at hl 3 rfl) ?_
        refine lv_aload_n hx hb dX3_papersOf_31 rfl (lv_at hl 1 rfl) ?_
        refine sc_getX0 C0 hW ni_X3_papersOf_X0 4 (Nat.le_of_ble_eq_true rfl) lk_X3_papersOf_123 (v := .ref (h 6)) rfl dX3_papersOf_32 ?_
        refine lv_iload hx hb dX3_papersOf_35 (lv_at hl 4 rfl) ?_
        obtain ⟨hv, hf⟩ := sc_ck_s hf
        refine sc_ldX_6 C0 hW hv dX3_papersOf_37 ?_
        refine lv_i2l hx hb dX3_papersOf_38 rfl ?_
        refine lv_ladd hx hb dX3_papersOf_39 ?_
        obtain ⟨y40, ey40, hf⟩ := sc_sq_s hf
        refine sc_topl ey40 ?_
        refine lv_lstore_n (lv' := [(3, .long y40), (0, .ref (h 3)), (1, .ref (h 1)), (2, .int x2), (5, .int x5)]) hx hb dX3_papersOf_40 rfl hl (by decide) rfl (fun ls hl => ?_)
        refine lv_iinc (v := (x5 + 1)) (lv' := [(5, .int (x5 + 1)), (3, .long y40), (0, .ref (h 3)), (1, .ref (h 1)), (2, .int x2)]) hx hb dX3_papersOf_41 hl (k := 4) rfl rfl (by decide) rfl (fun ls hl => ?_)
        refine lv_goto (tgt := 5) hx hb dX3_papersOf_44 (by decide) ?_
        exact ih _ _ _ _ _ _ _ hf hW (lv_sub hl [2, 3, 4, 1, 0] rfl)
set_option maxHeartbeats 4000000 in
set_option maxRecDepth 100000 in
theorem wk_X3_papersOf_0 (C0 : CallFix p m c cX3_papersOf 6 s args wsX3_papersOf RX3) {S' : sc_M} {r : Int64} (hR : sc_Rl p l e rm_X3_papersOf s m args below meth c Q cX3_papersOf (sc_EX dC dI h cy) S' r) : ∀ (S : sc_M) (x2 : Int32) (H : Heap) (locs : List Loc) (ls : Array Slot), fn_X3_papersOf S x2 = some (r, S') → sc_W (sc_EX dC dI h cy) s H locs S → lv_has ls 6 [(0, .ref (h 3)), (1, .ref (h 1)), (2, .int x2)] → W p l e rm_X3_papersOf s m args below meth c H locs 0 0 Q (F0 m 0 ls []) := by
  obtain ⟨hx, hb, hml, hown, hts⟩ := id C0
  intro S x2 H locs ls hf hW hl
  rw [fn_X3_papersOf] at hf
  refine lv_lconst (v := (0 : Int64)) hx hb dX3_papersOf_0 (by decide) ?_
  refine lv_lstore_n (lv' := [(3, .long (0 : Int64)), (0, .ref (h 3)), (1, .ref (h 1)), (2, .int x2)]) hx hb dX3_papersOf_1 rfl hl (by decide) rfl (fun ls hl => ?_)
  refine lv_iconst (v := (0 : Int32)) hx hb dX3_papersOf_2 (by decide) ?_
  refine lv_istore (lv' := [(5, .int (0 : Int32)), (3, .long (0 : Int64)), (0, .ref (h 3)), (1, .ref (h 1)), (2, .int x2)]) hx hb dX3_papersOf_3 hl (by decide) rfl (fun ls hl => ?_)
  exact wk_X3_papersOf_5 C0 hR  sc_FU _ _ _ _ _ _ _ hf hW (lv_sub hl [2, 3, 4, 1, 0] rfl)
set_option maxRecDepth 100000 in
theorem ct_X3_papersOf {S S' : sc_M} {r : Int64} {x2 : Int32} (hf : fn_X3_papersOf S x2 = some (r, S')) : sc_Cl l yX3_papersOf wsX3_papersOf rm_X3_papersOf (sc_EX dC dI h cy) [.ref (h 3), .ref (h 1), .int x2] S S' r := by
  refine sc_ofl (cc := cX3_papersOf) (maxL := 6) sc_okX (by decide) rfl (Nat.le_of_ble_eq_true rfl) ?_
  intro p e s m below meth c Q C0 hR hW ls hl
  exact wk_X3_papersOf_0 C0 hR _ _ _ _ _ hf hW hl
end
