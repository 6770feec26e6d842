def sc_X0 (S : sc_M) : sc_M := (fun k => if k = 0 then sc_gi S 0 else if k = 1 then sc_gi S 1 else if k = 2 then -9 else 0, fun _ => 0, fun k => if k < 10 then sc_ga S k else fun _ => 0, fun _ _ => 0)
theorem in_X4_init_X0 : ∀ w ∈ wsX00, w ∈ wsX4_init := by decide +kernel
theorem df_X0 : ∀ j, j < 8 → defaultValue (tyX0 j) = vp_V [.int 0, .int 0, .null, .null, .null, .null, .null, .null] j := by
  intro j hj
  rcases (show j = 0 ∨ j = 1 ∨ j = 2 ∨ j = 3 ∨ j = 4 ∨ j = 5 ∨ j = 6 ∨ j = 7 by omega) with rfl | rfl | rfl | rfl | rfl | rfl | rfl | rfl <;> rfl
theorem in_X4_init_X1 : ∀ w ∈ wsX10, w ∈ wsX4_init := by decide +kernel
theorem df_X1 : ∀ j, j < 18 → defaultValue (tyX1 j) = vp_V [.int 0, .int 0, .int 0, .int 0, .int 0, .int 0, .null, .null, .null, .null, .null, .null, .null, .null, .null, .null, .null, .null] j := by
  intro j hj
  rcases (show j = 0 ∨ j = 1 ∨ j = 2 ∨ j = 3 ∨ j = 4 ∨ j = 5 ∨ j = 6 ∨ j = 7 ∨ j = 8 ∨ j = 9 ∨ j = 10 ∨ j = 11 ∨ j = 12 ∨ j = 13 ∨ j = 14 ∨ j = 15 ∨ j = 16 ∨ j = 17 by omega) with rfl | rfl | rfl | rfl | rfl | rfl | rfl | rfl | rfl | rfl | rfl | rfl | rfl | rfl | rfl | rfl | rfl | rfl <;> rfl
theorem in_X4_init_X3 : ∀ w ∈ wsX30, w ∈ wsX4_init := by decide +kernel
theorem df_X3 : ∀ j, j < 5 → defaultValue (tyX3 j) = vp_V [.int 0, .null, .null, .int 0, .null] j := by
  intro j hj
  rcases (show j = 0 ∨ j = 1 ∨ j = 2 ∨ j = 3 ∨ j = 4 by omega) with rfl | rfl | rfl | rfl | rfl <;> rfl
set_option maxHeartbeats 8000000 in
set_option maxRecDepth 100000 in
theorem ci_X4 (l : Launch) (dC : Nat → ClassId) (dI : Nat → Nat → Nat) (h0 sz : Nat) {S' : sc_M} (hf : fn_X0_open sc_Z (3 : Int32) = some S') : Met l yX4_init wsX4_init ({ frames := 2, cells := 25, slots := 8279, locals := 42 }) (va_Pc [.ref h0] (fun U => U.heap.size = sz ∧ va_P (dC, dI) vwCl [(h0, .inr (3, [.null, .null, .null, .null]))] U.heap ∧ va_K (dC, dI) vwCl [] U ∧ va_D (fun _ => True) [(h0, .inr (3, [.null, .null, .null, .null]))] ∧ va_Nw (.methodLinkNest RX4 18 yX1_init RX4) U ∧ va_Nw (.methodLinkNest RX4 25 yX3_init RX4) U)) (va_Qv (fun _ : Unit => True) (fun _ t => ∃ (h : Nat → Nat) (cy : Nat → ClassId), h 0 = h0 ∧ va_P (dC, dI) vwCl (sc_wX h cy (sc_X0 S')) t.heap ∧ va_K (dC, dI) vwCl (sc_tyX cy) t ∧ va_D (va_A [(h0, .inr (3, [.null, .null, .null, .null]))] sz) (sc_wX h cy (sc_X0 S'))) (va_A [(h0, .inr (3, [.null, .null, .null, .null]))] sz)) 25 8279 (va_A [(h0, .inr (3, [.null, .null, .null, .null]))] sz) := by
  refine Met.ofW (cc := cX4_init) (maxL := 1) (ret := none) (by decide) rfl ?_
  intro p e s m args below meth c s₁ B hml hv
  obtain ⟨rfl, hsz, hP, hK, hD0, hN1, hN2⟩ := hv
  have hx := B.exec
  have hb := B.bytes
  have hr := B.returns
  have hts := atoms_spec (ws := wsX4_init) B.pre
  have hown : s.vm.findClass RX4 = some m.cls := findClass_of_methodNamed B.named
  have hlocks := B.notSynchronized
  have hin : meth.name = "<init>" := (name_of_methodNamed B.named B.method).1
  subst hsz
  have hD := hD0.self (sz := s.heap.size)
  generalize hAe : va_A [(h0, .inr (3, [.null, .null, .null, .null]))] s.heap.size = A at hD ⊢
  have hA : ∀ q : Nat, s.heap.size ≤ q → A q := fun q h => by rw [← hAe]; exact Or.inr h
  have hS : va_S A s.heap s.heap [] := va_S.rf
  have hl := lv_entry ([.ref h0]) (n := 1) (Nat.le_of_ble_eq_true rfl)
  rw [lg_entry_eq]
  generalize (lg_sl ([.ref h0]) ++ List.replicate (1 - (lg_sl ([.ref h0])).length) Slot.unset).toArray = ls at hl ⊢
  have hl : lv_has ls 1 [(0, .ref h0)] := hl
  refine lv_aload_n hx hb dX4_init_0 rfl (lv_at hl 0 rfl) ?_
  refine W.objInit hx hb hown (hts (.methodLink RX4 3 objectInit) (by decide +kernel)) (hts (.instanceMethod objectInit) (by decide +kernel)) (hts (.code objectInit ⟨#[0xb1]⟩ 1 none) (by decide +kernel)) rfl (by rw [hml]; exact hl.1) rfl dX4_init_1 (Nat.le_of_ble_eq_true rfl) (Nat.le_of_ble_eq_true rfl) ?_
  refine W.eq (g2 := F0 m 4 ls []) rfl ?_
  refine lv_aload_n hx hb dX4_init_4 rfl (lv_at hl 0 rfl) ?_
  refine va_new (ci := 0) (fs := [.int 0, .int 0, .null, .null, .null, .null, .null, .null]) (C := RX0) (T := TX0) (N := 8) hx hb hts in_X4_init_X0 tyX0 tyX0_ok hown (hts (.classLink RX4 9 RX0) (by decide +kernel)) (hts (.instantiable RX0 8) (by decide +kernel)) (hts (.initialized RX0) (by decide +kernel)) hK hP hD hS hA rfl df_X0 (Nat.le_of_ble_eq_true rfl) (Nat.le_of_ble_eq_true rfl) dX4_init_5 (fun q5 H hP hD hS => ?_)
  refine W.widen (k := 1) (n := 8) (Nat.le_refl _) (Nat.le_refl _) ?_
  have hP : va_P (dC, dI) vwCl ([(h0, .inr (3, [.null, .null, .null, .null]))] ++ [(q5, .inr (0, [.int 0, .int 0, .null, .null, .null, .null, .null, .null]))]) H := hP
  have hD : va_D A ([(h0, .inr (3, [.null, .null, .null, .null]))] ++ [(q5, .inr (0, [.int 0, .int 0, .null, .null, .null, .null, .null, .null]))]) := hD
  refine lv_dup hx hb dX4_init_8 rfl ?_
  have hPc := hP.sub (ws' := [(q5, .inr (0, [.int 0, .int 0, .null, .null, .null, .null, .null, .null]))]) [1] rfl
  have hDc := hD.sub (ws' := [(q5, .inr (0, [.int 0, .int 0, .null, .null, .null, .null, .null, .null]))]) [1] (by decide) rfl
  have hKc := hK.sub (tys' := []) [] rfl
  have hFc := va_free (wc := [(q5, .inr (0, [.int 0, .int 0, .null, .null, .null, .null, .null, .null]))]) hD hS hA [1] rfl
  refine va_callv (va_runI (As := []) (rest := [.ref q5, .ref h0]) ⟨hx, hb, hml, hown, hts⟩ (ci_X0 l dC dI q5 H.size hf) (cwI 0 hts gX4_init_X0_init rfl rfl rfl (hts (.initialized RX0) (by decide +kernel)) (hts (.methodLink RX4 11 yX0_init) (by decide +kernel)) (hts (.instanceMethod yX0_init) (by decide +kernel)) rfl (by decide +kernel) ⟨Nat.le_of_ble_eq_true rfl, Nat.le_of_ble_eq_true rfl⟩) ⟨fun a U g mk q => by obtain ⟨q0, q1, qP, qK, qD⟩ := q; exact ⟨q0, q1, qP, va_K.moved (u := U) (U := U.calling g mk a) (Vm.Alike.refl U.vm) qK, qD⟩, fun U hU hW => ⟨rfl, by rw [hU], by rw [hU]; exact hPc, va_K.moved hW.alike hKc, hDc.weaken (fun _ _ _ _ => trivial)⟩⟩ rfl rfl hl.1 rfl (lv_room (Nat.le_of_ble_eq_true rfl)) dX4_init_9 ⟨Nat.le_of_ble_eq_true rfl, Nat.le_of_ble_eq_true rfl⟩) hS (fun q _ h => hFc q h) hFc (fun u t H1 locs ht hvm hw hB hz1 hk1 hS => ?_)
  obtain ⟨hH, cH, eq5, hP1, hK1, hD1⟩ := hB
  rw [ht] at hP1
  have hK1 := va_K.moved hvm.symm hK1
  obtain ⟨hP, hD⟩ := va_join (wr := [(h0, .inr (3, [.null, .null, .null, .null]))]) (w1 := sc_wH hH cH S') hP hD [1] [0] rfl rfl (by decide) (by decide) hk1 hFc hP1 hD1
  have hK := (hK.sub (tys' := []) [] rfl).app hK1
  refine W.widen (k := 7) (n := 2112) (Nat.le_refl _) (Nat.le_refl _) ?_
  generalize H1 = H at hP hS ⊢
  have hP : va_P (dC, dI) vwCl ([(h0, .inr (3, [.null, .null, .null, .null]))] ++ (sc_wH hH cH S')) H := hP
  have hD : va_D A ([(h0, .inr (3, [.null, .null, .null, .null]))] ++ (sc_wH hH cH S')) := hD
  have hK : va_K (dC, dI) vwCl (sc_tyH cH) s := hK
  rw [← eq5]
  refine va_putF (D := (dC, dI)) (ci := 3) (v := .ref (hH 1)) (ty := .object "SeatCounts$House") (C := RX4) (T := TX4) (N := 4) hx hb hts ni_X4_init tyX4 tyX4_ok nmX4 hown hK hP hD hS 0 rfl rfl 0 (by decide) (hts (.fieldLink RX4 12 "SeatCounts" "house" "LSeatCounts$House;") (by decide +kernel)) (fun _ h9 => h9) rfl hin rfl (by decide +kernel) rfl rfl (Nat.le_of_ble_eq_true rfl) dX4_init_12 (fun H locs hP hD hS => ?_)
  have hP : va_P (dC, dI) vwCl ([(h0, .inr (3, [.ref (hH 1), .null, .null, .null]))] ++ (sc_wH hH cH S')) H := hP
  have hD : va_D A ([(h0, .inr (3, [.ref (hH 1), .null, .null, .null]))] ++ (sc_wH hH cH S')) := hD
  refine lv_aload_n hx hb dX4_init_15 rfl (lv_at hl 0 rfl) ?_
  refine va_new (ci := 1) (fs := [.int 0, .int 0, .int 0, .int 0, .int 0, .int 0, .null, .null, .null, .null, .null, .null, .null, .null, .null, .null, .null, .null]) (C := RX1) (T := TX1) (N := 18) hx hb hts in_X4_init_X1 tyX1 tyX1_ok hown (hts (.classLink RX4 16 RX1) (by decide +kernel)) (hts (.instantiable RX1 18) (by decide +kernel)) (hts (.initialized RX1) (by decide +kernel)) hK hP hD hS hA rfl df_X1 (Nat.le_of_ble_eq_true rfl) (Nat.le_of_ble_eq_true rfl) dX4_init_16 (fun q16 H hP hD hS => ?_)
  refine W.widen (k := 8) (n := 2130) (Nat.le_refl _) (Nat.le_refl _) ?_
  have hP : va_P (dC, dI) vwCl ([(h0, .inr (3, [.ref (hH 1), .null, .null, .null]))] ++ (sc_wH hH cH S') ++ [(q16, .inr (1, [.int 0, .int 0, .int 0, .int 0, .int 0, .int 0, .null, .null, .null, .null, .null, .null, .null, .null, .null, .null, .null, .null]))]) H := hP
  have hD : va_D A ([(h0, .inr (3, [.ref (hH 1), .null, .null, .null]))] ++ (sc_wH hH cH S') ++ [(q16, .inr (1, [.int 0, .int 0, .int 0, .int 0, .int 0, .int 0, .null, .null, .null, .null, .null, .null, .null, .null, .null, .null, .null, .null]))]) := hD
  refine lv_dup hx hb dX4_init_19 rfl ?_
  have hPc := hP.sub (ws' := [(q16, .inr (1, [.int 0, .int 0, .int 0, .int 0, .int 0, .int 0, .null, .null, .null, .null, .null, .null, .null, .null, .null, .null, .null, .null]))]) [8] rfl
  have hDc := hD.sub (ws' := [(q16, .inr (1, [.int 0, .int 0, .int 0, .int 0, .int 0, .int 0, .null, .null, .null, .null, .null, .null, .null, .null, .null, .null, .null, .null]))]) [8] (by decide) rfl
  have hKc := hK.sub (tys' := []) [] rfl
  have hFc := va_free (wc := [(q16, .inr (1, [.int 0, .int 0, .int 0, .int 0, .int 0, .int 0, .null, .null, .null, .null, .null, .null, .null, .null, .null, .null, .null, .null]))]) hD hS hA [8] rfl
  refine va_callv (va_runIN (As := []) (rest := [.ref q16, .ref h0]) ⟨hx, hb, hml, hown, hts⟩ (ci_X1 l dC dI q16 H.size) ⟨va_cnB 0 hts gX4_init_X1_init_n18 rfl rfl rfl hN1 (hts (.initialized RX1) (by decide +kernel)) (by decide +kernel) ⟨Nat.le_of_ble_eq_true rfl, Nat.le_of_ble_eq_true rfl⟩, rfl, hts (.instanceMethod yX1_init) (by decide +kernel)⟩ ⟨fun a U g mk q => by obtain ⟨q0, q1, qP, qK, qD⟩ := q; exact ⟨q0, q1, qP, va_K.moved (u := U) (U := U.calling g mk a) (Vm.Alike.refl U.vm) qK, qD⟩, fun U hU hW => ⟨rfl, by rw [hU], by rw [hU]; exact hPc, va_K.moved hW.alike hKc, hDc.weaken (fun _ _ _ _ => trivial)⟩⟩ rfl rfl hl.1 rfl (lv_room (Nat.le_of_ble_eq_true rfl)) dX4_init_20 ⟨Nat.le_of_ble_eq_true rfl, Nat.le_of_ble_eq_true rfl⟩) hS (fun q _ h => hFc q h) hFc (fun u t H1 locs ht hvm hw hB hz1 hk1 hS => ?_)
  obtain ⟨hJ, cJ, eq16, hP1, hK1, hD1⟩ := hB
  rw [ht] at hP1
  have hK1 := va_K.moved hvm.symm hK1
  obtain ⟨hP, hD⟩ := va_join (wr := [(h0, .inr (3, [.ref (hH 1), .null, .null, .null]))] ++ (sc_wH hH cH S')) (w1 := sc_wJ hJ cJ (sc_mi sc_Z 2 (-9))) hP hD [8] [0, 1, 2, 3, 4, 5, 6, 7] rfl rfl (by decide) (by decide) hk1 hFc hP1 hD1
  have hK := (hK.sub (tys' := sc_tyH cH) [0, 1, 2, 3, 4, 5] rfl).app hK1
  refine W.widen (k := 20) (n := 5250) (Nat.le_refl _) (Nat.le_refl _) ?_
  generalize H1 = H at hP hS ⊢
  have hP : va_P (dC, dI) vwCl ([(h0, .inr (3, [.ref (hH 1), .null, .null, .null]))] ++ (sc_wH hH cH S') ++ (sc_wJ hJ cJ (sc_mi sc_Z 2 (-9)))) H := hP
  have hD : va_D A ([(h0, .inr (3, [.ref (hH 1), .null, .null, .null]))] ++ (sc_wH hH cH S') ++ (sc_wJ hJ cJ (sc_mi sc_Z 2 (-9)))) := hD
  have hK : va_K (dC, dI) vwCl (sc_tyH cH ++ sc_tyJ cJ) s := hK
  rw [← eq16]
  refine va_putF (D := (dC, dI)) (ci := 3) (v := .ref (hJ 2)) (ty := .object "SeatCounts$Journal") (C := RX4) (T := TX4) (N := 4) hx hb hts ni_X4_init tyX4 tyX4_ok nmX4 hown hK hP hD hS 0 rfl rfl 1 (by decide) (hts (.fieldLink RX4 19 "SeatCounts" "journal" "LSeatCounts$Journal;") (by decide +kernel)) (fun _ h9 => h9) rfl hin rfl (by decide +kernel) rfl rfl (Nat.le_of_ble_eq_true rfl) dX4_init_23 (fun H locs hP hD hS => ?_)
  have hP : va_P (dC, dI) vwCl ([(h0, .inr (3, [.ref (hH 1), .ref (hJ 2), .null, .null]))] ++ (sc_wH hH cH S') ++ (sc_wJ hJ cJ (sc_mi sc_Z 2 (-9)))) H := hP
  have hD : va_D A ([(h0, .inr (3, [.ref (hH 1), .ref (hJ 2), .null, .null]))] ++ (sc_wH hH cH S') ++ (sc_wJ hJ cJ (sc_mi sc_Z 2 (-9)))) := hD
  refine lv_aload_n hx hb dX4_init_26 rfl (lv_at hl 0 rfl) ?_
  refine va_new (ci := 2) (fs := [.int 0, .null, .null, .int 0, .null]) (C := RX3) (T := TX3) (N := 5) hx hb hts in_X4_init_X3 tyX3 tyX3_ok hown (hts (.classLink RX4 23 RX3) (by decide +kernel)) (hts (.instantiable RX3 5) (by decide +kernel)) (hts (.initialized RX3) (by decide +kernel)) hK hP hD hS hA rfl df_X3 (Nat.le_of_ble_eq_true rfl) (Nat.le_of_ble_eq_true rfl) dX4_init_27 (fun q27 H hP hD hS => ?_)
  refine W.widen (k := 21) (n := 5255) (Nat.le_refl _) (Nat.le_refl _) ?_
  have hP : va_P (dC, dI) vwCl ([(h0, .inr (3, [.ref (hH 1), .ref (hJ 2), .null, .null]))] ++ (sc_wH hH cH S') ++ (sc_wJ hJ cJ (sc_mi sc_Z 2 (-9))) ++ [(q27, .inr (2, [.int 0, .null, .null, .int 0, .null]))]) H := hP
  have hD : va_D A ([(h0, .inr (3, [.ref (hH 1), .ref (hJ 2), .null, .null]))] ++ (sc_wH hH cH S') ++ (sc_wJ hJ cJ (sc_mi sc_Z 2 (-9))) ++ [(q27, .inr (2, [.int 0, .null, .null, .int 0, .null]))]) := hD
  refine lv_dup hx hb dX4_init_30 rfl ?_
  have hPc := hP.sub (ws' := [(q27, .inr (2, [.int 0, .null, .null, .int 0, .null]))]) [21] rfl
  have hDc := hD.sub (ws' := [(q27, .inr (2, [.int 0, .null, .null, .int 0, .null]))]) [21] (by decide) rfl
  have hKc := hK.sub (tys' := []) [] rfl
  have hFc := va_free (wc := [(q27, .inr (2, [.int 0, .null, .null, .int 0, .null]))]) hD hS hA [21] rfl
  refine va_callv (va_runIN (As := []) (rest := [.ref q27, .ref h0]) ⟨hx, hb, hml, hown, hts⟩ (ci_X3 l dC dI q27 H.size) ⟨va_cnB 0 hts gX4_init_X3_init_n25 rfl rfl rfl hN2 (hts (.initialized RX3) (by decide +kernel)) (by decide +kernel) ⟨Nat.le_of_ble_eq_true rfl, Nat.le_of_ble_eq_true rfl⟩, rfl, hts (.instanceMethod yX3_init) (by decide +kernel)⟩ ⟨fun a U g mk q => by obtain ⟨q0, q1, qP, qK, qD⟩ := q; exact ⟨q0, q1, qP, va_K.moved (u := U) (U := U.calling g mk a) (Vm.Alike.refl U.vm) qK, qD⟩, fun U hU hW => ⟨rfl, by rw [hU], by rw [hU]; exact hPc, va_K.moved hW.alike hKc, hDc.weaken (fun _ _ _ _ => trivial)⟩⟩ rfl rfl hl.1 rfl (lv_room (Nat.le_of_ble_eq_true rfl)) dX4_init_31 ⟨Nat.le_of_ble_eq_true rfl, Nat.le_of_ble_eq_true rfl⟩) hS (fun q _ h => hFc q h) hFc (fun u t H1 locs ht hvm hw hB hz1 hk1 hS => ?_)
  obtain ⟨hP', cP, eq27, hP1, hK1, hD1⟩ := hB
  rw [ht] at hP1
  have hK1 := va_K.moved hvm.symm hK1
  obtain ⟨hP, hD⟩ := va_join (wr := [(h0, .inr (3, [.ref (hH 1), .ref (hJ 2), .null, .null]))] ++ (sc_wH hH cH S') ++ (sc_wJ hJ cJ (sc_mi sc_Z 2 (-9)))) (w1 := sc_wP hP' cP sc_Z) hP hD [21] [0, 1, 2, 3, 4, 5, 6, 7, 8, 9, 10, 11, 12, 13, 14, 15, 16, 17, 18, 19, 20] rfl rfl (by decide) (by decide) hk1 hFc hP1 hD1
  have hK := (hK.sub (tys' := sc_tyH cH ++ sc_tyJ cJ) [0, 1, 2, 3, 4, 5, 6, 7, 8, 9, 10, 11, 12, 13, 14, 15, 16, 17] rfl).app hK1
  refine W.widen (k := 24) (n := 7415) (Nat.le_refl _) (Nat.le_refl _) ?_
  generalize H1 = H at hP hS ⊢
  have hP : va_P (dC, dI) vwCl ([(h0, .inr (3, [.ref (hH 1), .ref (hJ 2), .null, .null]))] ++ (sc_wH hH cH S') ++ (sc_wJ hJ cJ (sc_mi sc_Z 2 (-9))) ++ (sc_wP hP' cP sc_Z)) H := hP
  have hD : va_D A ([(h0, .inr (3, [.ref (hH 1), .ref (hJ 2), .null, .null]))] ++ (sc_wH hH cH S') ++ (sc_wJ hJ cJ (sc_mi sc_Z 2 (-9))) ++ (sc_wP hP' cP sc_Z)) := hD
  have hK : va_K (dC, dI) vwCl (sc_tyH cH ++ sc_tyJ cJ ++ sc_tyP cP) s := hK
  rw [← eq27]
  refine va_putF (D := (dC, dI)) (ci := 3) (v := .ref (hP' 3)) (ty := .object "SeatCounts$PaperRules") (C := RX4) (T := TX4) (N := 4) hx hb hts ni_X4_init tyX4 tyX4_ok nmX4 hown hK hP hD hS 0 rfl rfl 2 (by decide) (hts (.fieldLink RX4 26 "SeatCounts" "paperRules" "LSeatCounts$PaperRules;") (by decide +kernel)) (fun _ h9 => h9) rfl hin rfl (by decide +kernel) rfl rfl (Nat.le_of_ble_eq_true rfl) dX4_init_34 (fun H locs hP hD hS => ?_)
  have hP : va_P (dC, dI) vwCl ([(h0, .inr (3, [.ref (hH 1), .ref (hJ 2), .ref (hP' 3), .null]))] ++ (sc_wH hH cH S') ++ (sc_wJ hJ cJ (sc_mi sc_Z 2 (-9))) ++ (sc_wP hP' cP sc_Z)) H := hP
  have hD : va_D A ([(h0, .inr (3, [.ref (hH 1), .ref (hJ 2), .ref (hP' 3), .null]))] ++ (sc_wH hH cH S') ++ (sc_wJ hJ cJ (sc_mi sc_Z 2 (-9))) ++ (sc_wP hP' cP sc_Z)) := hD
  refine lv_aload_n hx hb dX4_init_37 rfl (lv_at hl 0 rfl) ?_
  refine lv_sipush (v := (864 : Int32)) hx hb dX4_init_38 (by decide) ?_
  refine va_newa (D := (dC, dI)) (cl := vwCl) (atype := .long) (ty := .long) (N' := 864) (a0 := (864, .inr (.inl (fun _ => 0)))) hx hb (hts (.arrayClass .long) (by decide +kernel)) rfl hK hP hD hS hA (fun _ => rfl) (by decide) (by decide) (by decide) (Nat.le_of_ble_eq_true rfl) (Nat.le_of_ble_eq_true rfl) dX4_init_41 (fun q41 c41 H hK hP hD hS => ?_)
  refine W.widen (k := 25) (n := 8279) (Nat.le_refl _) (Nat.le_refl _) ?_
  refine va_putF (D := (dC, dI)) (ci := 3) (v := .ref q41) (ty := .array .long) (C := RX4) (T := TX4) (N := 4) hx hb hts ni_X4_init tyX4 tyX4_ok nmX4 hown hK hP hD hS 0 rfl rfl 3 (by decide) (hts (.fieldLink RX4 30 "SeatCounts" "numbers" "[J") (by decide +kernel)) (fun _ h9 => h9) rfl hin rfl (by decide +kernel) rfl rfl (Nat.le_of_ble_eq_true rfl) dX4_init_43 (fun H locs hP hD hS => ?_)
  have hP : va_P (dC, dI) vwCl ([(h0, .inr (3, [.ref (hH 1), .ref (hJ 2), .ref (hP' 3), .ref q41]))] ++ (sc_wH hH cH S') ++ (sc_wJ hJ cJ (sc_mi sc_Z 2 (-9))) ++ (sc_wP hP' cP sc_Z) ++ [(q41, .inl (c41, 864, .inr (.inl (fun _ => 0))))]) H := hP
  have hD : va_D A ([(h0, .inr (3, [.ref (hH 1), .ref (hJ 2), .ref (hP' 3), .ref q41]))] ++ (sc_wH hH cH S') ++ (sc_wJ hJ cJ (sc_mi sc_Z 2 (-9))) ++ (sc_wP hP' cP sc_Z) ++ [(q41, .inl (c41, 864, .inr (.inl (fun _ => 0))))]) := hD
  obtain ⟨hh, ehh⟩ : ∃ h : Nat → Nat, h = (fun k => ([h0, hH 1, hJ 2, hP' 3, hH 4, hH 5, hH 6, hH 7, hH 8, hH 9, hJ 10, hJ 11, hJ 12, hJ 13, hJ 14, hJ 15, hJ 16, hJ 17, hJ 18, hJ 19, hJ 20, hJ 21, hP' 22, hP' 23, hP' 24, q41] : List _).getD k h0) := ⟨_, rfl⟩
  obtain ⟨cy, ecy⟩ : ∃ cy : Nat → ClassId, cy = (fun k => ([cH 4, cH 4, cH 4, cH 4, cH 4, cH 5, cH 6, cH 7, cH 8, cH 9, cJ 10, cJ 11, cJ 12, cJ 13, cJ 14, cJ 15, cJ 16, cJ 17, cJ 18, cJ 19, cJ 20, cJ 21, cP 22, cP 23, cP 24, c41] : List _).getD k c41) := ⟨_, rfl⟩
  have hPw : va_P (dC, dI) vwCl (sc_wX hh cy (sc_X0 S')) H := by rw [ehh, ecy]; exact hP.sub [0, 1, 8, 21, 2, 3, 4, 5, 6, 7, 9, 10, 11, 12, 13, 14, 15, 16, 17, 18, 19, 20, 22, 23, 24, 25] rfl
  have hDw : va_D A (sc_wX hh cy (sc_X0 S')) := by rw [ehh, ecy]; exact hD.sub [0, 1, 8, 21, 2, 3, 4, 5, 6, 7, 9, 10, 11, 12, 13, 14, 15, 16, 17, 18, 19, 20, 22, 23, 24, 25] (by decide) rfl
  have hKw : va_K (dC, dI) vwCl (sc_tyX cy) s := by rw [ecy]; exact hK
  have hh0 : hh 0 = h0 := by rw [ehh]; rfl
  exact W.vret hx hb hr (fun t ht hW => ⟨⟨(), rfl, trivial, hh, cy, hh0, by rw [ht]; exact hPw, va_K.moved hW.alike hKw, hDw⟩, hS.F ht⟩) hS.2.2 dX4_init_46
