def sc_wP (h : Nat → Nat) (cy : Nat → ClassId) (S : sc_M) : va_W := [(h 3, .inr (2, sc_fX3 h S)), (h 22, .inl (cy 22, 1040, .inl (sc_ga S 22))), (h 23, .inl (cy 23, 1040, .inl (sc_ga S 23))), (h 24, .inl (cy 24, 80, .inl (sc_ga S 24)))]
def sc_tyP (cy : Nat → ClassId) : List (ClassId × FieldType) := [(cy 22, .int), (cy 23, .int), (cy 24, .int)]
set_option maxHeartbeats 8000000 in
set_option maxRecDepth 100000 in
theorem ci_X3 (l : Launch) (dC : Nat → ClassId) (dI : Nat → Nat → Nat) (h0 sz : Nat) : Met l yX3_init wsX3_init ({ frames := 1, cells := 3, slots := 2160, locals := 12 }) (va_Pc [.ref h0] (fun U => U.heap.size = sz ∧ va_P (dC, dI) vwCl [(h0, .inr (2, [.int 0, .null, .null, .int 0, .null]))] U.heap ∧ va_K (dC, dI) vwCl [] U ∧ va_D (fun _ => True) [(h0, .inr (2, [.int 0, .null, .null, .int 0, .null]))])) (va_Qv (fun _ : Unit => True) (fun _ t => ∃ (h : Nat → Nat) (cy : Nat → ClassId), h 3 = h0 ∧ va_P (dC, dI) vwCl (sc_wP h cy sc_Z) t.heap ∧ va_K (dC, dI) vwCl (sc_tyP cy) t ∧ va_D (va_A [(h0, .inr (2, [.int 0, .null, .null, .int 0, .null]))] sz) (sc_wP h cy sc_Z)) (va_A [(h0, .inr (2, [.int 0, .null, .null, .int 0, .null]))] sz)) 3 2160 (va_A [(h0, .inr (2, [.int 0, .null, .null, .int 0, .null]))] sz) := by
  refine Met.ofW (cc := cX3_init) (maxL := 1) (ret := none) (by decide) rfl ?_
  intro p e s m args below meth c s₁ B hml hv
  obtain ⟨rfl, hsz, hP, hK, hD0⟩ := hv
  have hx := B.exec
  have hb := B.bytes
  have hr := B.returns
  have hts := atoms_spec (ws := wsX3_init) B.pre
  have hown : s.vm.findClass RX3 = some m.cls := findClass_of_methodNamed B.named
  have hlocks := B.notSynchronized
  have hin : meth.name = "<init>" := (name_of_methodNamed B.named B.method).1
  subst hsz
  have hD := hD0.self (sz := s.heap.size)
  generalize hAe : va_A [(h0, .inr (2, [.int 0, .null, .null, .int 0, .null]))] s.heap.size = A at hD ⊢
  have hA : ∀ q : Nat, s.heap.size ≤ q → A q := fun q h => by rw [← hAe]; exact Or.inr h
  have hS : va_S A s.heap s.heap [] := va_S.rf
  have hl := lv_entry ([.ref h0]) (n := 1) (Nat.le_of_ble_eq_true rfl)
  rw [lg_entry_eq]
  generalize (lg_sl ([.ref h0]) ++ List.replicate (1 - (lg_sl ([.ref h0])).length) Slot.unset).toArray = ls at hl ⊢
  have hl : lv_has ls 1 [(0, .ref h0)] := hl
  refine lv_aload_n hx hb dX3_init_0 rfl (lv_at hl 0 rfl) ?_
  refine W.objInit hx hb hown (hts (.methodLink RX3 3 objectInit) (by decide +kernel)) (hts (.instanceMethod objectInit) (by decide +kernel)) (hts (.code objectInit ⟨#[0xb1]⟩ 1 none) (by decide +kernel)) rfl (by rw [hml]; exact hl.1) rfl dX3_init_1 (Nat.le_of_ble_eq_true rfl) (Nat.le_of_ble_eq_true rfl) ?_
  refine W.eq (g2 := F0 m 4 ls []) rfl ?_
  refine lv_aload_n hx hb dX3_init_4 rfl (lv_at hl 0 rfl) ?_
  refine lv_sipush (v := (1040 : Int32)) hx hb dX3_init_5 (by decide) ?_
  refine va_newa (D := (dC, dI)) (cl := vwCl) (atype := .int) (ty := .int) (N' := 1040) (a0 := (1040, .inl (fun _ => 0))) hx hb (hts (.arrayClass .int) (by decide +kernel)) rfl hK hP hD hS hA (fun _ => rfl) (by decide) (by decide) (by decide) (Nat.le_of_ble_eq_true rfl) (Nat.le_of_ble_eq_true rfl) dX3_init_8 (fun q8 c8 H hK hP hD hS => ?_)
  refine W.widen (k := 1) (n := 1040) (Nat.le_refl _) (Nat.le_refl _) ?_
  have hP : va_P (dC, dI) vwCl [(h0, .inr (2, [.int 0, .null, .null, .int 0, .null])), (q8, .inl (c8, 1040, .inl (fun _ => 0)))] H := hP
  have hD : va_D A [(h0, .inr (2, [.int 0, .null, .null, .int 0, .null])), (q8, .inl (c8, 1040, .inl (fun _ => 0)))] := hD
  have hK : va_K (dC, dI) vwCl [(c8, .int)] s := hK
  refine va_putF (D := (dC, dI)) (ci := 2) (v := .ref q8) (ty := .array .int) (C := RX3) (T := TX3) (N := 5) hx hb hts ni_X3_init tyX3 tyX3_ok nmX3 hown hK hP hD hS 0 rfl rfl 1 (by decide) (hts (.fieldLink RX3 9 "SeatCounts$PaperRules" "holders" "[I") (by decide +kernel)) (fun _ h9 => h9) rfl hin rfl (by decide +kernel) rfl rfl (Nat.le_of_ble_eq_true rfl) dX3_init_10 (fun H locs hP hD hS => ?_)
  have hP : va_P (dC, dI) vwCl [(h0, .inr (2, [.int 0, .ref q8, .null, .int 0, .null])), (q8, .inl (c8, 1040, .inl (fun _ => 0)))] H := hP
  have hD : va_D A [(h0, .inr (2, [.int 0, .ref q8, .null, .int 0, .null])), (q8, .inl (c8, 1040, .inl (fun _ => 0)))] := hD
  refine lv_aload_n hx hb dX3_init_13 rfl (lv_at hl 0 rfl) ?_
  refine lv_sipush (v := (1040 : Int32)) hx hb dX3_init_14 (by decide) ?_
  refine va_newa (D := (dC, dI)) (cl := vwCl) (atype := .int) (ty := .int) (N' := 1040) (a0 := (1040, .inl (fun _ => 0))) hx hb (hts (.arrayClass .int) (by decide +kernel)) rfl hK hP hD hS hA (fun _ => rfl) (by decide) (by decide) (by decide) (Nat.le_of_ble_eq_true rfl) (Nat.le_of_ble_eq_true rfl) dX3_init_17 (fun q17 c17 H hK hP hD hS => ?_)
  refine W.widen (k := 2) (n := 2080) (Nat.le_refl _) (Nat.le_refl _) ?_
  have hP : va_P (dC, dI) vwCl [(h0, .inr (2, [.int 0, .ref q8, .null, .int 0, .null])), (q8, .inl (c8, 1040, .inl (fun _ => 0))), (q17, .inl (c17, 1040, .inl (fun _ => 0)))] H := hP
  have hD : va_D A [(h0, .inr (2, [.int 0, .ref q8, .null, .int 0, .null])), (q8, .inl (c8, 1040, .inl (fun _ => 0))), (q17, .inl (c17, 1040, .inl (fun _ => 0)))] := hD
  have hK : va_K (dC, dI) vwCl [(c8, .int), (c17, .int)] s := hK
  refine va_putF (D := (dC, dI)) (ci := 2) (v := .ref q17) (ty := .array .int) (C := RX3) (T := TX3) (N := 5) hx hb hts ni_X3_init tyX3 tyX3_ok nmX3 hown hK hP hD hS 0 rfl rfl 2 (by decide) (hts (.fieldLink RX3 15 "SeatCounts$PaperRules" "values" "[I") (by decide +kernel)) (fun _ h9 => h9) rfl hin rfl (by decide +kernel) rfl rfl (Nat.le_of_ble_eq_true rfl) dX3_init_19 (fun H locs hP hD hS => ?_)
  have hP : va_P (dC, dI) vwCl [(h0, .inr (2, [.int 0, .ref q8, .ref q17, .int 0, .null])), (q8, .inl (c8, 1040, .inl (fun _ => 0))), (q17, .inl (c17, 1040, .inl (fun _ => 0)))] H := hP
  have hD : va_D A [(h0, .inr (2, [.int 0, .ref q8, .ref q17, .int 0, .null])), (q8, .inl (c8, 1040, .inl (fun _ => 0))), (q17, .inl (c17, 1040, .inl (fun _ => 0)))] := hD
  refine lv_aload_n hx hb dX3_init_22 rfl (lv_at hl 0 rfl) ?_
  refine lv_bipush (v := (80 : Int32)) hx hb dX3_init_23 (by decide) ?_
  refine va_newa (D := (dC, dI)) (cl := vwCl) (atype := .int) (ty := .int) (N' := 80) (a0 := (80, .inl (fun _ => 0))) hx hb (hts (.arrayClass .int) (by decide +kernel)) rfl hK hP hD hS hA (fun _ => rfl) (by decide) (by decide) (by decide) (Nat.le_of_ble_eq_true rfl) (Nat.le_of_ble_eq_true rfl) dX3_init_25 (fun q25 c25 H hK hP hD hS => ?_)
  refine W.widen (k := 3) (n := 2160) (Nat.le_refl _) (Nat.le_refl _) ?_
  have hP : va_P (dC, dI) vwCl [(h0, .inr (2, [.int 0, .ref q8, .ref q17, .int 0, .null])), (q8, .inl (c8, 1040, .inl (fun _ => 0))), (q17, .inl (c17, 1040, .inl (fun _ => 0))), (q25, .inl (c25, 80, .inl (fun _ => 0)))] H := hP
  have hD : va_D A [(h0, .inr (2, [.int 0, .ref q8, .ref q17, .int 0, .null])), (q8, .inl (c8, 1040, .inl (fun _ => 0))), (q17, .inl (c17, 1040, .inl (fun _ => 0))), (q25, .inl (c25, 80, .inl (fun _ => 0)))] := hD
  have hK : va_K (dC, dI) vwCl [(c8, .int), (c17, .int), (c25, .int)] s := hK
  refine va_putF (D := (dC, dI)) (ci := 2) (v := .ref q25) (ty := .array .int) (C := RX3) (T := TX3) (N := 5) hx hb hts ni_X3_init tyX3 tyX3_ok nmX3 hown hK hP hD hS 0 rfl rfl 4 (by decide) (hts (.fieldLink RX3 18 "SeatCounts$PaperRules" "came" "[I") (by decide +kernel)) (fun _ h9 => h9) rfl hin rfl (by decide +kernel) rfl rfl (Nat.le_of_ble_eq_true rfl) dX3_init_27 (fun H locs hP hD hS => ?_)
  have hP : va_P (dC, dI) vwCl [(h0, .inr (2, [.int 0, .ref q8, .ref q17, .int 0, .ref q25])), (q8, .inl (c8, 1040, .inl (fun _ => 0))), (q17, .inl (c17, 1040, .inl (fun _ => 0))), (q25, .inl (c25, 80, .inl (fun _ => 0)))] H := hP
  have hD : va_D A [(h0, .inr (2, [.int 0, .ref q8, .ref q17, .int 0, .ref q25])), (q8, .inl (c8, 1040, .inl (fun _ => 0))), (q17, .inl (c17, 1040, .inl (fun _ => 0))), (q25, .inl (c25, 80, .inl (fun _ => 0)))] := hD
  exact W.vret hx hb hr (fun t ht hW => ⟨⟨(), rfl, trivial, (fun k => if k = 3 then h0 else if k = 22 then q8 else if k = 23 then q17 else if k = 24 then q25 else q25), (fun k => if k = 22 then c8 else if k = 23 then c17 else if k = 24 then c25 else c25), rfl, by rw [ht]; exact hP, va_K.moved hW.alike hK, hD⟩, hS.F ht⟩) hS.2.2 dX3_init_30
