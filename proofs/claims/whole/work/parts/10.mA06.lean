/-! ===== SeatCountsModel.told(I)I ===== -/
abbrev rm_X5_told : Room := { frames := 2, cells := 0, slots := 0, locals := 45 }
theorem lk_X5_told_101 : Cond.fieldLink RX5 101 "SeatCountsModel" "many" "I" ∈ wsX5_told := by decide +kernel
theorem lk_X5_told_104 : Cond.fieldLink RX5 104 "SeatCountsModel" "piles" "I" ∈ wsX5_told := by decide +kernel
theorem lk_X5_told_124 : Cond.fieldLink RX5 124 "SeatCountsModel" "stages" "I" ∈ wsX5_told := by decide +kernel
theorem lk_X5_told_135 : Cond.fieldLink RX5 135 "SeatCountsModel" "electedMany" "I" ∈ wsX5_told := by decide +kernel
theorem lk_X5_told_7 : Cond.fieldLink RX5 7 "SeatCountsModel" "isWithdrawn" "[Z" ∈ wsX5_told := by decide +kernel
theorem lk_X5_told_97 : Cond.fieldLink RX5 97 "SeatCountsModel" "ruleOf" "I" ∈ wsX5_told := by decide +kernel
theorem ni_X5_told_X5 : ∀ w ∈ wsX50, w ∈ wsX5_told := by decide +kernel
noncomputable def fn_X5_told_78 : Nat → sc_M → Int32 → Int32 → Option (Int32 × sc_M)
  | 0, _, _, _ => none
  | n + 1, S, x2, x3 =>
    if (sc_gi S 0) ≤ x3 then
      some (x2, S)
    else
      sc_ck x3 12 (if (sc_ga S 1 x3.toNatClampNeg) = 0 then
        sc_sq ((x2 + (0 : Int32))) (fun y102 => fn_X5_told_78 n S y102 (x3 + 1))
      else
        sc_sq ((x2 + (1 : Int32))) (fun y102 => fn_X5_told_78 n S y102 (x3 + 1)))
noncomputable def fn_X5_told (S : sc_M) (x1 : Int32) : Option (Int32 × sc_M) :=
  if x1 = 0 then
    some ((sc_gi S 0), S)
  else if x1 = 1 then
    some ((sc_gi S 1), S)
  else if x1 = 2 then
    sc_cl (fn_X5_validPapers S) (fun r55 S55 => some (r55, S55))
  else if x1 = 3 then
    some ((sc_gi S 6), S)
  else if x1 = 4 then
    some ((sc_gi S 7), S)
  else if x1 = 5 then
    some ((sc_gi S 2), S)
  else if x1 = 6 then
    fn_X5_told_78 sc_FU S (0 : Int32) (0 : Int32)
  else 
    some ((-2 : Int32), S)
section
variable {p : Program} {l : Launch} {e : Env} {s : State} {m : MethodId} {args : Array Value} {below : List Frame} {meth : Method} {c : Code} {Q : State → Prop} {dC : Nat → ClassId} {dI : Nat → Nat → Nat} {h : Nat → Nat} {cy : Nat → ClassId}
set_option maxHeartbeats 4000000 in
set_option maxRecDepth 100000 in
theorem wk_X5_told_78 (C0 : CallFix p m c cX5_told 4 s args wsX5_told RX5) {S' : sc_M} {r : Int32} (hR : sc_Ri p l e rm_X5_told s m args below meth c Q cX5_told (sc_EM dC dI h cy) S' r) : ∀ n : Nat, ∀ (S : sc_M) (x2 : Int32) (x3 : Int32) (H : Heap) (locs : List Loc) (ls : Array Slot), fn_X5_told_78 n S x2 x3 = some (r, S') → sc_W (sc_EM dC dI h cy) s H locs S → lv_has ls 4 [(0, .ref (h 0)), (2, .int x2), (3, .int x3)] → W p l e rm_X5_told s m args below meth c H locs 0 0 Q (F0 m 78 ls []) := by
  obtain ⟨hx, hb, hml, hown, hts⟩ := id C0
  intro n
  induction n with
  | zero => intro S x2 x3 H locs ls; intro hf; cases hf
  | succ n ih =>
    intro S x2 x3 H locs ls hf hW hl
    rw [fn_X5_told_78] at hf
    refine lv_iload_n hx hb dX5_told_78 rfl (lv_at hl 2 rfl) ?_
    refine lv_aload_n hx hb dX5_told_79 rfl (lv_at hl 0 rfl) ?_
    refine sc_getX5 C0 hW ni_X5_told_X5 0 (Nat.le_of_ble_eq_true rfl) lk_X5_told_101 (v := .int (sc_gi S 0)) rfl dX5_told_80 ?_
    refine lv_icmp_ge (tgt := 109) hx hb dX5_told_83 (by decide) (fun hc => ?_) (fun hc => ?_)
    · replace hf := sc_ip hc hf
      refine lv_iload_n hx hb dX5_told_109 rfl (lv_at hl 1 rfl) ?_
      exact sc_reti hR hf hW dX5_told_110
    · replace hf := sc_in hc hf
      refine lv_iload_n hx hb dX5_told_86 rfl (lv_at hl 1 rfl) ?_
      refine lv_aload_n hx hb dX5_told_87 rfl (lv_at hl 0 rfl) ?_
      refine sc_getX5 C0 hW ni_X5_told_X5 1 (Nat.le_of_ble_eq_true rfl) lk_X5_told_7 (v := .ref (h 1)) rfl dX5_told_88 ?_
      refine lv_iload_n hx hb dX5_told_91 rfl (lv_at hl 2 rfl) ?_
      obtain ⟨hv, hf⟩ := sc_ck_s hf
      refine sc_ldM_1 C0 hW hv dX5_told_92 ?_
      refine lv_if_eq (tgt := 100) hx hb dX5_told_93 (by decide) (fun hc => ?_) (fun hc => ?_)
      · replace hf := sc_ip hc hf
        refine lv_iconst (v := (0 : Int32)) hx hb dX5_told_100 (by decide) ?_
        refine lv_iadd hx hb dX5_told_101 ?_
        obtain ⟨y102, ey102, hf⟩ := sc_sq_s hf
        refine sc_topi ey102 ?_
        refine lv_istore_n (lv' := [(2, .int y102), (0, .ref (h 0)), (3, .int x3)]) hx hb dX5_told_102 rfl hl (by decide) rfl (fun ls hl => ?_)
        refine lv_iinc (v := (x3 + 1)) (lv' := [(3, .int (x3 + 1)), (2, .int y102), (0, .ref (h 0))]) hx hb dX5_told_103 hl (k := 2) rfl rfl (by decide) rfl (fun ls hl => ?_)
        refine lv_goto (tgt := 78) hx hb dX5_told_106 (by decide) ?_
        exact ih _ _ _ _ _ _ hf hW (lv_sub hl [2, 1, 0] rfl)
      · replace hf := sc_in hc hf
        refine lv_iconst (v := (1 : Int32)) hx hb dX5_told_96 (by decide) ?_
        refine lv_goto (tgt := 101) hx hb dX5_told_97 (by decide) ?_
        refine lv_iadd hx hb dX5_told_101 ?_
        obtain ⟨y102, ey102, hf⟩ := sc_sq_s hf
        refine sc_topi ey102 ?_
        refine lv_istore_n (lv' := [(2, .int y102), (0, .ref (h 0)), (3, .int x3)]) hx hb dX5_told_102 rfl hl (by decide) rfl (fun ls hl => ?_)
        refine lv_iinc (v := (x3 + 1)) (lv' := [(3, .int (x3 + 1)), (2, .int y102), (0, .ref (h 0))]) hx hb dX5_told_103 hl (k := 2) rfl rfl (by decide) rfl (fun ls hl => ?_)
        refine lv_goto (tgt := 78) hx hb dX5_told_106 (by decide) ?_
        exact ih _ _ _ _ _ _ hf hW (lv_sub hl [2, 1, 0] rfl)
set_option maxHeartbeats 4000000 in
set_option maxRecDepth 100000 in
theorem wk_X5_told_0 (C0 : CallFix p m c cX5_told 4 s args wsX5_told RX5) {S' : sc_M} {r : Int32} (hR : sc_Ri p l e rm_X5_told s m args below meth c Q cX5_told (sc_EM dC dI h cy) S' r) : ∀ (S : sc_M) (x1 : Int32) (H : Heap) (locs : List Loc) (ls : Array Slot), fn_X5_told S x1 = some (r, S') → sc_W (sc_EM dC dI h cy) s H locs S → lv_has ls 4 [(0, .ref (h 0)), (1, .int x1)] → W p l e rm_X5_told s m args below meth c H locs 0 0 Q (F0 m 0 ls []) := by
  obtain ⟨hx, hb, hml, hown, hts⟩ := id C0
  intro S x1 H locs ls hf hW hl
  rw [fn_X5_told] at hf
  refine lv_iload_n hx hb dX5_told_0 rfl (lv_at hl 1 rfl) ?_
  rcases Decidable.em (x1 = 0) with hc0 | hc0
  · replace hf := sc_ip hc0 hf
    refine lv_tableIn (tgt := 44) hx hb dX5_told_1 (by rw [hc0]; decide) (by rw [hc0]; decide) (by rw [hc0]; rfl) (by decide) ?_
    refine lv_aload_n hx hb dX5_told_44 rfl (lv_at hl 0 rfl) ?_
    refine sc_getX5 C0 hW ni_X5_told_X5 0 (Nat.le_of_ble_eq_true rfl) lk_X5_told_101 (v := .int (sc_gi S 0)) rfl dX5_told_45 ?_
    exact sc_reti hR hf hW dX5_told_48
  replace hf := sc_in hc0 hf
  rcases Decidable.em (x1 = 1) with hc1 | hc1
  · replace hf := sc_ip hc1 hf
    refine lv_tableIn (tgt := 49) hx hb dX5_told_1 (by rw [hc1]; decide) (by rw [hc1]; decide) (by rw [hc1]; rfl) (by decide) ?_
    refine lv_aload_n hx hb dX5_told_49 rfl (lv_at hl 0 rfl) ?_
    refine sc_getX5 C0 hW ni_X5_told_X5 3 (Nat.le_of_ble_eq_true rfl) lk_X5_told_104 (v := .int (sc_gi S 1)) rfl dX5_told_50 ?_
    exact sc_reti hR hf hW dX5_told_53
  replace hf := sc_in hc1 hf
  rcases Decidable.em (x1 = 2) with hc2 | hc2
  · replace hf := sc_ip hc2 hf
    refine lv_tableIn (tgt := 54) hx hb dX5_told_1 (by rw [hc2]; decide) (by rw [hc2]; decide) (by rw [hc2]; rfl) (by decide) ?_
    refine lv_aload_n hx hb dX5_told_54 rfl (lv_at hl 0 rfl) ?_
    obtain ⟨r55, S55, hc, hf⟩ := sc_cl_s hf
    refine sc_callVi (As := []) (rest := []) (q0 := 0) (ci := 4) sc_okM C0 hW (ct_X5_validPapers hc) (cwV 0 hts gX5_told_X5_validPapers rfl rfl rfl (by decide +kernel) ⟨Nat.le_of_ble_eq_true rfl, Nat.le_of_ble_eq_true rfl⟩) rfl rfl rfl rfl hl.1 rfl (Nat.le_of_ble_eq_true rfl) dX5_told_55 (fun H locs hW => ?_)
    exact sc_reti hR hf hW dX5_told_58
  replace hf := sc_in hc2 hf
  rcases Decidable.em (x1 = 3) with hc3 | hc3
  · replace hf := sc_ip hc3 hf
    refine lv_tableIn (tgt := 59) hx hb dX5_told_1 (by rw [hc3]; decide) (by rw [hc3]; decide) (by rw [hc3]; rfl) (by decide) ?_
    refine lv_aload_n hx hb dX5_told_59 rfl (lv_at hl 0 rfl) ?_
    refine sc_getX5 C0 hW ni_X5_told_X5 12 (Nat.le_of_ble_eq_true rfl) lk_X5_told_124 (v := .int (sc_gi S 6)) rfl dX5_told_60 ?_
    exact sc_reti hR hf hW dX5_told_63
  replace hf := sc_in hc3 hf
  rcases Decidable.em (x1 = 4) with hc4 | hc4
  · replace hf := sc_ip hc4 hf
    refine lv_tableIn (tgt := 64) hx hb dX5_told_1 (by rw [hc4]; decide) (by rw [hc4]; decide) (by rw [hc4]; rfl) (by decide) ?_
    refine lv_aload_n hx hb dX5_told_64 rfl (lv_at hl 0 rfl) ?_
    refine sc_getX5 C0 hW ni_X5_told_X5 27 (Nat.le_of_ble_eq_true rfl) lk_X5_told_135 (v := .int (sc_gi S 7)) rfl dX5_told_65 ?_
    exact sc_reti hR hf hW dX5_told_68
  replace hf := sc_in hc4 hf
  rcases Decidable.em (x1 = 5) with hc5 | hc5
  · replace hf := sc_ip hc5 hf
    refine lv_tableIn (tgt := 69) hx hb dX5_told_1 (by rw [hc5]; decide) (by rw [hc5]; decide) (by rw [hc5]; rfl) (by decide) ?_
    refine lv_aload_n hx hb dX5_told_69 rfl (lv_at hl 0 rfl) ?_
    refine sc_getX5 C0 hW ni_X5_told_X5 8 (Nat.le_of_ble_eq_true rfl) lk_X5_told_97 (v := .int (sc_gi S 2)) rfl dX5_told_70 ?_
    exact sc_reti hR hf hW dX5_told_73
  replace hf := sc_in hc5 hf
  rcases Decidable.em (x1 = 6) with hc6 | hc6
  · replace hf := sc_ip hc6 hf
    refine lv_tableIn (tgt := 74) hx hb dX5_told_1 (by rw [hc6]; decide) (by rw [hc6]; decide) (by rw [hc6]; rfl) (by decide) ?_
    refine lv_iconst (v := (0 : Int32)) hx hb dX5_told_74 (by decide) ?_
    refine lv_istore_n (lv' := [(2, .int (0 : Int32)), (0, .ref (h 0)), (1, .int x1)]) hx hb dX5_told_75 rfl hl (by decide) rfl (fun ls hl => ?_)
    refine lv_iconst (v := (0 : Int32)) hx hb dX5_told_76 (by decide) ?_
    refine lv_istore_n (lv' := [(3, .int (0 : Int32)), (2, .int (0 : Int32)), (0, .ref (h 0)), (1, .int x1)]) hx hb dX5_told_77 rfl hl (by decide) rfl (fun ls hl => ?_)
    exact wk_X5_told_78 C0 hR  sc_FU _ _ _ _ _ _ hf hW (lv_sub hl [2, 1, 0] rfl)
  replace hf := sc_in hc6 hf
  refine lv_tableOut (tgt := 111) hx hb dX5_told_1 (sc_tbo 6 (by decide) (fun k hk => match k, hk with | 0, _ => hc0 | 1, _ => hc1 | 2, _ => hc2 | 3, _ => hc3 | 4, _ => hc4 | 5, _ => hc5 | 6, _ => hc6 | k + 7, hk => absurd hk (by omega))) (by decide) ?_
  refine lv_bipush (v := (-2 : Int32)) hx hb dX5_told_111 (by decide) ?_
  exact sc_reti hR hf hW dX5_told_113
set_option maxRecDepth 100000 in
theorem ct_X5_told {S S' : sc_M} {r : Int32} {x1 : Int32} (hf : fn_X5_told S x1 = some (r, S')) : sc_Ci l yX5_told wsX5_told rm_X5_told (sc_EM dC dI h cy) [.ref (h 0), .int x1] S S' r := by
  refine sc_ofi (cc := cX5_told) (maxL := 4) .int rfl sc_okM (by decide) rfl (Nat.le_of_ble_eq_true rfl) ?_
  intro p e s m below meth c Q C0 hR hW ls hl
  exact wk_X5_told_0 C0 hR _ _ _ _ _ hf hW hl
end
