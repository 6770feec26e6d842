set_option maxHeartbeats 8000000 in
set_option maxRecDepth 100000 in
theorem ci_X0 (l : Launch) (dC : Nat → ClassId) (dI : Nat → Nat → Nat) (h0 sz : Nat) {S' : sc_M} (hf : fn_X0_open sc_Z (3 : Int32) = some S') : Met l yX0_init wsX0_init ({ frames := 1, cells := 6, slots := 2104, locals := 22 }) (va_Pc [.ref h0] (fun U => U.heap.size = sz ∧ va_P (dC, dI) vwCl [(h0, .inr (0, [.int 0, .int 0, .null, .null, .null, .null, .null, .null]))] U.heap ∧ va_K (dC, dI) vwCl [] U ∧ va_D (fun _ => True) [(h0, .inr (0, [.int 0, .int 0, .null, .null, .null, .null, .null, .null]))])) (va_Qv (fun _ : Unit => True) (fun _ t => ∃ (h : Nat → Nat) (cy : Nat → ClassId), h 1 = h0 ∧ va_P (dC, dI) vwCl (sc_wH h cy S') t.heap ∧ va_K (dC, dI) vwCl (sc_tyH cy) t ∧ va_D (va_A [(h0, .inr (0, [.int 0, .int 0, .null, .null, .null, .null, .null, .null]))] sz) (sc_wH h cy S')) (va_A [(h0, .inr (0, [.int 0, .int 0, .null, .null, .null, .null, .null, .null]))] sz)) 6 2104 (va_A [(h0, .inr (0, [.int 0, .int 0, .null, .null, .null, .null, .null, .null]))] sz) := by
  refine Met.ofW (cc := cX0_init) (maxL := 1) (ret := none) (by decide) rfl ?_
  intro p e s m args below meth c s₁ B hml hv
  obtain ⟨rfl, hsz, hP, hK, hD0⟩ := hv
  have hx := B.exec
  have hb := B.bytes
  have hr := B.returns
  have hts := atoms_spec (ws := wsX0_init) B.pre
  have hown : s.vm.findClass RX0 = some m.cls := findClass_of_methodNamed B.named
  have hlocks := B.notSynchronized
  have hin : meth.name = "<init>" := (name_of_methodNamed B.named B.method).1
  subst hsz
  have hD := hD0.self (sz := s.heap.size)
  generalize hAe : va_A [(h0, .inr (0, [.int 0, .int 0, .null, .null, .null, .null, .null, .null]))] s.heap.size = A at hD ⊢
  have hA : ∀ q : Nat, s.heap.size ≤ q → A q := fun q h => by rw [← hAe]; exact Or.inr h
  have hS : va_S A s.heap s.heap [] := va_S.rf
  have hl := lv_entry ([.ref h0]) (n := 1) (Nat.le_of_ble_eq_true rfl)
  rw [lg_entry_eq]
  generalize (lg_sl ([.ref h0]) ++ List.replicate (1 - (lg_sl ([.ref h0])).length) Slot.unset).toArray = ls at hl ⊢
  have hl : lv_has ls 1 [(0, .ref h0)] := hl
  refine lv_aload_n hx hb dX0_init_0 rfl (lv_at hl 0 rfl) ?_
  refine W.objInit hx hb hown (hts (.methodLink RX0 3 objectInit) (by decide +kernel)) (hts (.instanceMethod objectInit) (by decide +kernel)) (hts (.code objectInit ⟨#[0xb1]⟩ 1 none) (by decide +kernel)) rfl (by rw [hml]; exact hl.1) rfl dX0_init_1 (Nat.le_of_ble_eq_true rfl) (Nat.le_of_ble_eq_true rfl) ?_
  refine W.eq (g2 := F0 m 4 ls []) rfl ?_
  refine lv_aload_n hx hb dX0_init_4 rfl (lv_at hl 0 rfl) ?_
  refine lv_bipush (v := (12 : Int32)) hx hb dX0_init_5 (by decide) ?_
  refine va_newa (D := (dC, dI)) (cl := vwCl) (atype := .boolean) (ty := .boolean) (N' := 12) (a0 := (12, .inl (fun _ => 0))) hx hb (hts (.arrayClass .boolean) (by decide +kernel)) rfl hK hP hD hS hA (fun _ => rfl) (by decide) (by decide) (by decide) (Nat.le_of_ble_eq_true rfl) (Nat.le_of_ble_eq_true rfl) dX0_init_7 (fun q7 c7 H hK hP hD hS => ?_)
  refine W.widen (k := 1) (n := 12) (Nat.le_refl _) (Nat.le_refl _) ?_
  have hP : va_P (dC, dI) vwCl [(h0, .inr (0, [.int 0, .int 0, .null, .null, .null, .null, .null, .null])), (q7, .inl (c7, 12, .inl (fun _ => 0)))] H := hP
  have hD : va_D A [(h0, .inr (0, [.int 0, .int 0, .null, .null, .null, .null, .null, .null])), (q7, .inl (c7, 12, .inl (fun _ => 0)))] := hD
  have hK : va_K (dC, dI) vwCl [(c7, .boolean)] s := hK
  refine va_putF (D := (dC, dI)) (ci := 0) (v := .ref q7) (ty := .array .boolean) (C := RX0) (T := TX0) (N := 8) hx hb hts ni_X0_init tyX0 tyX0_ok nmX0 hown hK hP hD hS 0 rfl rfl 2 (by decide) (hts (.fieldLink RX0 9 "SeatCounts$House" "withdrawn" "[Z") (by decide +kernel)) (fun _ h9 => h9) rfl hin rfl (by decide +kernel) rfl rfl (Nat.le_of_ble_eq_true rfl) dX0_init_9 (fun H locs hP hD hS => ?_)
  have hP : va_P (dC, dI) vwCl [(h0, .inr (0, [.int 0, .int 0, .ref q7, .null, .null, .null, .null, .null])), (q7, .inl (c7, 12, .inl (fun _ => 0)))] H := hP
  have hD : va_D A [(h0, .inr (0, [.int 0, .int 0, .ref q7, .null, .null, .null, .null, .null])), (q7, .inl (c7, 12, .inl (fun _ => 0)))] := hD
  refine lv_aload_n hx hb dX0_init_12 rfl (lv_at hl 0 rfl) ?_
  refine lv_bipush (v := (12 : Int32)) hx hb dX0_init_13 (by decide) ?_
  refine va_newa (D := (dC, dI)) (cl := vwCl) (atype := .int) (ty := .int) (N' := 12) (a0 := (12, .inl (fun _ => 0))) hx hb (hts (.arrayClass .int) (by decide +kernel)) rfl hK hP hD hS hA (fun _ => rfl) (by decide) (by decide) (by decide) (Nat.le_of_ble_eq_true rfl) (Nat.le_of_ble_eq_true rfl) dX0_init_15 (fun q15 c15 H hK hP hD hS => ?_)
  refine W.widen (k := 2) (n := 24) (Nat.le_refl _) (Nat.le_refl _) ?_
  have hP : va_P (dC, dI) vwCl [(h0, .inr (0, [.int 0, .int 0, .ref q7, .null, .null, .null, .null, .null])), (q7, .inl (c7, 12, .inl (fun _ => 0))), (q15, .inl (c15, 12, .inl (fun _ => 0)))] H := hP
  have hD : va_D A [(h0, .inr (0, [.int 0, .int 0, .ref q7, .null, .null, .null, .null, .null])), (q7, .inl (c7, 12, .inl (fun _ => 0))), (q15, .inl (c15, 12, .inl (fun _ => 0)))] := hD
  have hK : va_K (dC, dI) vwCl [(c7, .boolean), (c15, .int)] s := hK
  refine va_putF (D := (dC, dI)) (ci := 0) (v := .ref q15) (ty := .array .int) (C := RX0) (T := TX0) (N := 8) hx hb hts ni_X0_init tyX0 tyX0_ok nmX0 hown hK hP hD hS 0 rfl rfl 3 (by decide) (hts (.fieldLink RX0 15 "SeatCounts$House" "lots" "[I") (by decide +kernel)) (fun _ h9 => h9) rfl hin rfl (by decide +kernel) rfl rfl (Nat.le_of_ble_eq_true rfl) dX0_init_17 (fun H locs hP hD hS => ?_)
  have hP : va_P (dC, dI) vwCl [(h0, .inr (0, [.int 0, .int 0, .ref q7, .ref q15, .null, .null, .null, .null])), (q7, .inl (c7, 12, .inl (fun _ => 0))), (q15, .inl (c15, 12, .inl (fun _ => 0)))] H := hP
  have hD : va_D A [(h0, .inr (0, [.int 0, .int 0, .ref q7, .ref q15, .null, .null, .null, .null])), (q7, .inl (c7, 12, .inl (fun _ => 0))), (q15, .inl (c15, 12, .inl (fun _ => 0)))] := hD
  refine lv_aload_n hx hb dX0_init_20 rfl (lv_at hl 0 rfl) ?_
  refine lv_bipush (v := (80 : Int32)) hx hb dX0_init_21 (by decide) ?_
  refine va_newa (D := (dC, dI)) (cl := vwCl) (atype := .int) (ty := .int) (N' := 80) (a0 := (80, .inl (fun _ => 0))) hx hb (hts (.arrayClass .int) (by decide +kernel)) rfl hK hP hD hS hA (fun _ => rfl) (by decide) (by decide) (by decide) (Nat.le_of_ble_eq_true rfl) (Nat.le_of_ble_eq_true rfl) dX0_init_23 (fun q23 c23 H hK hP hD hS => ?_)
  refine W.widen (k := 3) (n := 104) (Nat.le_refl _) (Nat.le_refl _) ?_
  have hP : va_P (dC, dI) vwCl [(h0, .inr (0, [.int 0, .int 0, .ref q7, .ref q15, .null, .null, .null, .null])), (q7, .inl (c7, 12, .inl (fun _ => 0))), (q15, .inl (c15, 12, .inl (fun _ => 0))), (q23, .inl (c23, 80, .inl (fun _ => 0)))] H := hP
  have hD : va_D A [(h0, .inr (0, [.int 0, .int 0, .ref q7, .ref q15, .null, .null, .null, .null])), (q7, .inl (c7, 12, .inl (fun _ => 0))), (q15, .inl (c15, 12, .inl (fun _ => 0))), (q23, .inl (c23, 80, .inl (fun _ => 0)))] := hD
  have hK : va_K (dC, dI) vwCl [(c7, .boolean), (c15, .int), (c23, .int)] s := hK
  refine va_putF (D := (dC, dI)) (ci := 0) (v := .ref q23) (ty := .array .int) (C := RX0) (T := TX0) (N := 8) hx hb hts ni_X0_init tyX0 tyX0_ok nmX0 hown hK hP hD hS 0 rfl rfl 4 (by decide) (hts (.fieldLink RX0 19 "SeatCounts$House" "papers" "[I") (by decide +kernel)) (fun _ h9 => h9) rfl hin rfl (by decide +kernel) rfl rfl (Nat.le_of_ble_eq_true rfl) dX0_init_25 (fun H locs hP hD hS => ?_)
  have hP : va_P (dC, dI) vwCl [(h0, .inr (0, [.int 0, .int 0, .ref q7, .ref q15, .ref q23, .null, .null, .null])), (q7, .inl (c7, 12, .inl (fun _ => 0))), (q15, .inl (c15, 12, .inl (fun _ => 0))), (q23, .inl (c23, 80, .inl (fun _ => 0)))] H := hP
  have hD : va_D A [(h0, .inr (0, [.int 0, .int 0, .ref q7, .ref q15, .ref q23, .null, .null, .null])), (q7, .inl (c7, 12, .inl (fun _ => 0))), (q15, .inl (c15, 12, .inl (fun _ => 0))), (q23, .inl (c23, 80, .inl (fun _ => 0)))] := hD
  refine lv_aload_n hx hb dX0_init_28 rfl (lv_at hl 0 rfl) ?_
  refine lv_bipush (v := (80 : Int32)) hx hb dX0_init_29 (by decide) ?_
  refine va_newa (D := (dC, dI)) (cl := vwCl) (atype := .int) (ty := .int) (N' := 80) (a0 := (80, .inl (fun _ => 0))) hx hb (hts (.arrayClass .int) (by decide +kernel)) rfl hK hP hD hS hA (fun _ => rfl) (by decide) (by decide) (by decide) (Nat.le_of_ble_eq_true rfl) (Nat.le_of_ble_eq_true rfl) dX0_init_31 (fun q31 c31 H hK hP hD hS => ?_)
  refine W.widen (k := 4) (n := 184) (Nat.le_refl _) (Nat.le_refl _) ?_
  have hP : va_P (dC, dI) vwCl [(h0, .inr (0, [.int 0, .int 0, .ref q7, .ref q15, .ref q23, .null, .null, .null])), (q7, .inl (c7, 12, .inl (fun _ => 0))), (q15, .inl (c15, 12, .inl (fun _ => 0))), (q23, .inl (c23, 80, .inl (fun _ => 0))), (q31, .inl (c31, 80, .inl (fun _ => 0)))] H := hP
  have hD : va_D A [(h0, .inr (0, [.int 0, .int 0, .ref q7, .ref q15, .ref q23, .null, .null, .null])), (q7, .inl (c7, 12, .inl (fun _ => 0))), (q15, .inl (c15, 12, .inl (fun _ => 0))), (q23, .inl (c23, 80, .inl (fun _ => 0))), (q31, .inl (c31, 80, .inl (fun _ => 0)))] := hD
  have hK : va_K (dC, dI) vwCl [(c7, .boolean), (c15, .int), (c23, .int), (c31, .int)] s := hK
  refine va_putF (D := (dC, dI)) (ci := 0) (v := .ref q31) (ty := .array .int) (C := RX0) (T := TX0) (N := 8) hx hb hts ni_X0_init tyX0 tyX0_ok nmX0 hown hK hP hD hS 0 rfl rfl 5 (by decide) (hts (.fieldLink RX0 22 "SeatCounts$House" "lengths" "[I") (by decide +kernel)) (fun _ h9 => h9) rfl hin rfl (by decide +kernel) rfl rfl (Nat.le_of_ble_eq_true rfl) dX0_init_33 (fun H locs hP hD hS => ?_)
  have hP : va_P (dC, dI) vwCl [(h0, .inr (0, [.int 0, .int 0, .ref q7, .ref q15, .ref q23, .ref q31, .null, .null])), (q7, .inl (c7, 12, .inl (fun _ => 0))), (q15, .inl (c15, 12, .inl (fun _ => 0))), (q23, .inl (c23, 80, .inl (fun _ => 0))), (q31, .inl (c31, 80, .inl (fun _ => 0)))] H := hP
  have hD : va_D A [(h0, .inr (0, [.int 0, .int 0, .ref q7, .ref q15, .ref q23, .ref q31, .null, .null])), (q7, .inl (c7, 12, .inl (fun _ => 0))), (q15, .inl (c15, 12, .inl (fun _ => 0))), (q23, .inl (c23, 80, .inl (fun _ => 0))), (q31, .inl (c31, 80, .inl (fun _ => 0)))] := hD
  refine lv_aload_n hx hb dX0_init_36 rfl (lv_at hl 0 rfl) ?_
  refine lv_sipush (v := (960 : Int32)) hx hb dX0_init_37 (by decide) ?_
  refine va_newa (D := (dC, dI)) (cl := vwCl) (atype := .int) (ty := .int) (N' := 960) (a0 := (960, .inl (fun _ => 0))) hx hb (hts (.arrayClass .int) (by decide +kernel)) rfl hK hP hD hS hA (fun _ => rfl) (by decide) (by decide) (by decide) (Nat.le_of_ble_eq_true rfl) (Nat.le_of_ble_eq_true rfl) dX0_init_40 (fun q40 c40 H hK hP hD hS => ?_)
  refine W.widen (k := 5) (n := 1144) (Nat.le_refl _) (Nat.le_refl _) ?_
  have hP : va_P (dC, dI) vwCl [(h0, .inr (0, [.int 0, .int 0, .ref q7, .ref q15, .ref q23, .ref q31, .null, .null])), (q7, .inl (c7, 12, .inl (fun _ => 0))), (q15, .inl (c15, 12, .inl (fun _ => 0))), (q23, .inl (c23, 80, .inl (fun _ => 0))), (q31, .inl (c31, 80, .inl (fun _ => 0))), (q40, .inl (c40, 960, .inl (fun _ => 0)))] H := hP
  have hD : va_D A [(h0, .inr (0, [.int 0, .int 0, .ref q7, .ref q15, .ref q23, .ref q31, .null, .null])), (q7, .inl (c7, 12, .inl (fun _ => 0))), (q15, .inl (c15, 12, .inl (fun _ => 0))), (q23, .inl (c23, 80, .inl (fun _ => 0))), (q31, .inl (c31, 80, .inl (fun _ => 0))), (q40, .inl (c40, 960, .inl (fun _ => 0)))] := hD
  have hK : va_K (dC, dI) vwCl [(c7, .boolean), (c15, .int), (c23, .int), (c31, .int), (c40, .int)] s := hK
  refine va_putF (D := (dC, dI)) (ci := 0) (v := .ref q40) (ty := .array .int) (C := RX0) (T := TX0) (N := 8) hx hb hts ni_X0_init tyX0 tyX0_ok nmX0 hown hK hP hD hS 0 rfl rfl 6 (by decide) (hts (.fieldLink RX0 25 "SeatCounts$House" "preferences" "[I") (by decide +kernel)) (fun _ h9 => h9) rfl hin rfl (by decide +kernel) rfl rfl (Nat.le_of_ble_eq_true rfl) dX0_init_42 (fun H locs hP hD hS => ?_)
  have hP : va_P (dC, dI) vwCl [(h0, .inr (0, [.int 0, .int 0, .ref q7, .ref q15, .ref q23, .ref q31, .ref q40, .null])), (q7, .inl (c7, 12, .inl (fun _ => 0))), (q15, .inl (c15, 12, .inl (fun _ => 0))), (q23, .inl (c23, 80, .inl (fun _ => 0))), (q31, .inl (c31, 80, .inl (fun _ => 0))), (q40, .inl (c40, 960, .inl (fun _ => 0)))] H := hP
  have hD : va_D A [(h0, .inr (0, [.int 0, .int 0, .ref q7, .ref q15, .ref q23, .ref q31, .ref q40, .null])), (q7, .inl (c7, 12, .inl (fun _ => 0))), (q15, .inl (c15, 12, .inl (fun _ => 0))), (q23, .inl (c23, 80, .inl (fun _ => 0))), (q31, .inl (c31, 80, .inl (fun _ => 0))), (q40, .inl (c40, 960, .inl (fun _ => 0)))] := hD
  refine lv_aload_n hx hb dX0_init_45 rfl (lv_at hl 0 rfl) ?_
  refine lv_sipush (v := (960 : Int32)) hx hb dX0_init_46 (by decide) ?_
  refine va_newa (D := (dC, dI)) (cl := vwCl) (atype := .int) (ty := .int) (N' := 960) (a0 := (960, .inl (fun _ => 0))) hx hb (hts (.arrayClass .int) (by decide +kernel)) rfl hK hP hD hS hA (fun _ => rfl) (by decide) (by decide) (by decide) (Nat.le_of_ble_eq_true rfl) (Nat.le_of_ble_eq_true rfl) dX0_init_49 (fun q49 c49 H hK hP hD hS => ?_)
  refine W.widen (k := 6) (n := 2104) (Nat.le_refl _) (Nat.le_refl _) ?_
  have hP : va_P (dC, dI) vwCl [(h0, .inr (0, [.int 0, .int 0, .ref q7, .ref q15, .ref q23, .ref q31, .ref q40, .null])), (q7, .inl (c7, 12, .inl (fun _ => 0))), (q15, .inl (c15, 12, .inl (fun _ => 0))), (q23, .inl (c23, 80, .inl (fun _ => 0))), (q31, .inl (c31, 80, .inl (fun _ => 0))), (q40, .inl (c40, 960, .inl (fun _ => 0))), (q49, .inl (c49, 960, .inl (fun _ => 0)))] H := hP
  have hD : va_D A [(h0, .inr (0, [.int 0, .int 0, .ref q7, .ref q15, .ref q23, .ref q31, .ref q40, .null])), (q7, .inl (c7, 12, .inl (fun _ => 0))), (q15, .inl (c15, 12, .inl (fun _ => 0))), (q23, .inl (c23, 80, .inl (fun _ => 0))), (q31, .inl (c31, 80, .inl (fun _ => 0))), (q40, .inl (c40, 960, .inl (fun _ => 0))), (q49, .inl (c49, 960, .inl (fun _ => 0)))] := hD
  have hK : va_K (dC, dI) vwCl [(c7, .boolean), (c15, .int), (c23, .int), (c31, .int), (c40, .int), (c49, .int)] s := hK
  refine va_putF (D := (dC, dI)) (ci := 0) (v := .ref q49) (ty := .array .int) (C := RX0) (T := TX0) (N := 8) hx hb hts ni_X0_init tyX0 tyX0_ok nmX0 hown hK hP hD hS 0 rfl rfl 7 (by decide) (hts (.fieldLink RX0 28 "SeatCounts$House" "ranks" "[I") (by decide +kernel)) (fun _ h9 => h9) rfl hin rfl (by decide +kernel) rfl rfl (Nat.le_of_ble_eq_true rfl) dX0_init_51 (fun H locs hP hD hS => ?_)
  have hP : va_P (dC, dI) vwCl [(h0, .inr (0, [.int 0, .int 0, .ref q7, .ref q15, .ref q23, .ref q31, .ref q40, .ref q49])), (q7, .inl (c7, 12, .inl (fun _ => 0))), (q15, .inl (c15, 12, .inl (fun _ => 0))), (q23, .inl (c23, 80, .inl (fun _ => 0))), (q31, .inl (c31, 80, .inl (fun _ => 0))), (q40, .inl (c40, 960, .inl (fun _ => 0))), (q49, .inl (c49, 960, .inl (fun _ => 0)))] H := hP
  have hD : va_D A [(h0, .inr (0, [.int 0, .int 0, .ref q7, .ref q15, .ref q23, .ref q31, .ref q40, .ref q49])), (q7, .inl (c7, 12, .inl (fun _ => 0))), (q15, .inl (c15, 12, .inl (fun _ => 0))), (q23, .inl (c23, 80, .inl (fun _ => 0))), (q31, .inl (c31, 80, .inl (fun _ => 0))), (q40, .inl (c40, 960, .inl (fun _ => 0))), (q49, .inl (c49, 960, .inl (fun _ => 0)))] := hD
  refine lv_aload_n hx hb dX0_init_54 rfl (lv_at hl 0 rfl) ?_
  refine lv_iconst (v := (3 : Int32)) hx hb dX0_init_55 (by decide) ?_
  obtain ⟨hh, ehh⟩ : ∃ h : Nat → Nat, h = (fun k => ([q49, h0, q49, q49, q7, q15, q23, q31, q40, q49] : List _).getD k q49) := ⟨_, rfl⟩
  obtain ⟨cy, ecy⟩ : ∃ cy : Nat → ClassId, cy = (fun k => ([c49, c49, c49, c49, c7, c15, c23, c31, c40, c49] : List _).getD k c49) := ⟨_, rfl⟩
  have hPw : va_P (dC, dI) vwCl (sc_wH hh cy sc_Z) H := by rw [ehh, ecy]; exact hP
  have hDw : va_D A (sc_wH hh cy sc_Z) := by rw [ehh, ecy]; exact hD
  have hKw : va_K (dC, dI) vwCl (sc_tyH cy) s := by rw [ecy]; exact hK
  have hh0 : hh 1 = h0 := by rw [ehh]; rfl
  have hAE : ∀ q, sc_AH hh H.size q → A q := sc_AEH hDw (fun q h => hA q (Nat.le_trans hS.1 h))
  have hct := ct_H_X0_open (l := l) (dC := dC) (dI := dI) (h := hh) (cy := cy) hf
  rw [hh0] at hct
  refine sc_inVv (E := sc_EH dC dI hh cy) (A := A) (As := [.int (3 : Int32)]) (rest := []) (q0 := 0) (ci := 0) sc_okH ⟨hx, hb, hml, hown, hts⟩ hKw hPw hDw hS trivial hAE hct (cwV 1 hts gX0_init_X0_open rfl rfl rfl (by decide +kernel) ⟨Nat.le_of_ble_eq_true rfl, Nat.le_of_ble_eq_true rfl⟩) rfl rfl (by rw [← hh0]; rfl) rfl hl.1 rfl (Nat.le_of_ble_eq_true rfl) dX0_init_56 (Nat.le_of_ble_eq_true rfl) (Nat.le_of_ble_eq_true rfl) (fun H locs _ _ hP hD hS => ?_)
  exact W.vret hx hb hr (fun t ht hW => ⟨⟨(), rfl, trivial, hh, cy, hh0, by rw [ht]; exact hP, va_K.moved hW.alike hKw, hD⟩, hS.F ht⟩) hS.2.2 dX0_init_59
