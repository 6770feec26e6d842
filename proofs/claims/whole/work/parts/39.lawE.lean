theorem df_X4 : ∀ j, j < 4 → defaultValue (tyX4 j) = vp_V [.null, .null, .null, .null] j := by
  intro j hj
  rcases (show j = 0 ∨ j = 1 ∨ j = 2 ∨ j = 3 by omega) with rfl | rfl | rfl | rfl <;> rfl
theorem df_X5 : ∀ j, j < 38 → defaultValue (tyX5 j) = vp_V [.int 0, .null, .null, .int 0, .null, .null, .null, .null, .int 0, .int 0, .int 0, .int 0, .int 0, .null, .null, .null, .null, .null, .null, .null, .null, .null, .null, .null, .null, .null, .null, .int 0, .null, .null, .null, .null, .null, .null, .long 0, .long 0, .long 0, .null] j := by
  intro j hj
  rcases (show j = 0 ∨ j = 1 ∨ j = 2 ∨ j = 3 ∨ j = 4 ∨ j = 5 ∨ j = 6 ∨ j = 7 ∨ j = 8 ∨ j = 9 ∨ j = 10 ∨ j = 11 ∨ j = 12 ∨ j = 13 ∨ j = 14 ∨ j = 15 ∨ j = 16 ∨ j = 17 ∨ j = 18 ∨ j = 19 ∨ j = 20 ∨ j = 21 ∨ j = 22 ∨ j = 23 ∨ j = 24 ∨ j = 25 ∨ j = 26 ∨ j = 27 ∨ j = 28 ∨ j = 29 ∨ j = 30 ∨ j = 31 ∨ j = 32 ∨ j = 33 ∨ j = 34 ∨ j = 35 ∨ j = 36 ∨ j = 37 by omega) with rfl | rfl | rfl | rfl | rfl | rfl | rfl | rfl | rfl | rfl | rfl | rfl | rfl | rfl | rfl | rfl | rfl | rfl | rfl | rfl | rfl | rfl | rfl | rfl | rfl | rfl | rfl | rfl | rfl | rfl | rfl | rfl | rfl | rfl | rfl | rfl | rfl | rfl <;> rfl
theorem lw_disj {A : Nat → Prop} {h h' : Nat → Nat} {cy cy' : Nat → ClassId} {S S' : sc_M} (hD : va_D A (sc_wX h cy S ++ sc_wM h' cy' S')) : ∀ i j, i < 26 → j < 28 → h i ≠ h' j := by
  intro i j hi hj e
  have l1 : (sc_wX h cy S).length = 26 := rfl
  have l2 : (sc_wM h' cy' S').length = 28 := rfl
  have g1 : (sc_wX h cy S)[i]? = some ((sc_wX h cy S)[i]'(by omega)) := List.getElem?_eq_getElem (by omega)
  have g2 : (sc_wM h' cy' S')[j]? = some ((sc_wM h' cy' S')[j]'(by omega)) := List.getElem?_eq_getElem (by omega)
  have e1 := (sc_wX_at h cy S i _ g1).2
  have e2 := (sc_wM_at h' cy' S' j _ g2).2
  have a1 : (sc_wX h cy S ++ sc_wM h' cy' S')[i]? = some ((sc_wX h cy S)[i]'(by omega)) := by rw [List.getElem?_append_left (by omega)]; exact g1
  have a2 : (sc_wX h cy S ++ sc_wM h' cy' S')[26 + j]? = some ((sc_wM h' cy' S')[j]'(by omega)) := by rw [List.getElem?_append_right (by omega), l1, Nat.add_sub_cancel_left]; exact g2
  have := hD.1 i (26 + j) _ _ a1 a2 (by rw [e1, e2, e])
  omega
set_option maxHeartbeats 4000000 in
set_option maxRecDepth 100000 in
theorem whole_open {p : Program} {e : Env} {s : State} {m : MethodId} {below : List Frame} {meth : Method} {c : Code} (l : Launch) {b L : Nat} {xs : Nat → Int32} {Rel : sc_M → sc_M → Prop} (hsim : sm_all Rel) (hinit : ∃ SX SM, fn_X0_open sc_Z (3 : Int32) = some SX ∧ fn_X5_begin sc_Z (3 : Int32) = some SM ∧ Rel (sc_X0 SX) (sc_mi SM 2 (-9))) (hL : L ≤ 2560) (C0 : lw_At p s m meth c b L xs) : W p l e room_1 s m #[Value.ref b] below meth c s.heap [] 0 0 (lw_Z below #[Value.ref b] s) (entryFrame m ([Value.ref b] : List Value).toArray 4) := by
  obtain ⟨hx, hb, hr, hml, hown, hts0, hXs, hbl, hlocks, hgv⟩ := id C0
  have hts : ∀ w ∈ wsL_law, w.before #[Value.ref b] s = true := fun w h => hts0 w (wsL_law_in w h)
  have hA : ∀ q : Nat, s.heap.size ≤ q → lw_A s q := fun _ h => h
  obtain ⟨SX, SM, hfX, hfM, hrel⟩ := hinit
  obtain ⟨c0, i0, hKn0⟩ := u_known (C := RX0) (T := TX0) (N := 8) (n := 8) hts0 inX0 (hts0 (.instantiable RX0 8) mt_0)
  obtain ⟨c1, i1, hKn1⟩ := u_known (C := RX1) (T := TX1) (N := 18) (n := 18) hts0 inX1 (hts0 (.instantiable RX1 18) mt_1)
  obtain ⟨c2, i2, hKn2⟩ := u_known (C := RX3) (T := TX3) (N := 5) (n := 5) hts0 inX3 (hts0 (.instantiable RX3 5) mt_2)
  obtain ⟨c3, i3, hKn3⟩ := u_known (C := RX4) (T := TX4) (N := 4) (n := 4) hts0 inX4 (hts0 (.instantiable RX4 4) mt_3)
  obtain ⟨c4, i4, hKn4⟩ := u_known (C := RX5) (T := TX5) (N := 38) (n := 38) hts0 inX5 (hts0 (.instantiable RX5 38) mt_4)
  obtain ⟨dC, dI, hKc⟩ : ∃ (dC : Nat → ClassId) (dI : Nat → Nat → Nat), ∀ (k : Nat) (q : vw_C), vwCl[k]? = some q → u_Kn s q.1 q.2.1 q.2.2 (dC k) (dI k) := by
    refine ⟨fun k => if k = 0 then c0 else if k = 1 then c1 else if k = 2 then c2 else if k = 3 then c3 else c4, fun k => if k = 0 then i0 else if k = 1 then i1 else if k = 2 then i2 else if k = 3 then i3 else i4, ?_⟩
    intro k q hq
    match k, hq with
    | 0, hq => cases hq; exact hKn0
    | 1, hq => cases hq; exact hKn1
    | 2, hq => cases hq; exact hKn2
    | 3, hq => cases hq; exact hKn3
    | 4, hq => cases hq; exact hKn4
    | k + 5, hq => simp [vwCl] at hq
  have hS : va_S (lw_A s) s.heap s.heap [] := va_S.rf
  have hK : va_K (dC, dI) vwCl [] s := ⟨hKc, fun k q h => by simp at h⟩
  have hP : va_P (dC, dI) vwCl [] s.heap := fun k q h => by simp at h
  have hD : va_D (lw_A s) [] := ⟨fun i j p q h => by simp at h, fun k q h => by simp at h⟩
  have hl := lv_entry ([.ref b]) (n := 4) (Nat.le_of_ble_eq_true rfl)
  rw [lg_entry_eq]
  generalize (lg_sl ([.ref b]) ++ List.replicate (4 - (lg_sl ([.ref b])).length) Slot.unset).toArray = ls at hl ⊢
  have hl : lv_has ls 4 [(0, .ref b)] := hl
  refine va_new (ci := 3) (fs := [.null, .null, .null, .null]) (C := RX4) (T := TX4) (N := 4) hx hb hts0 inX4 tyX4 tyX4_ok hown (hts0 (.classLink RL 7 RX4) mt_5) (hts0 (.instantiable RX4 4) mt_3) (hts0 (.initialized RX4) mt_6) hK hP hD hS hA rfl df_X4 (Nat.le_of_ble_eq_true rfl) (Nat.le_of_ble_eq_true rfl) dL_law_0 (fun q0 H hP hD hS => ?_)
  refine W.widen (k := 1) (n := 4) (Nat.le_refl _) (Nat.le_refl _) ?_
  have hP : va_P (dC, dI) vwCl ([(q0, .inr (3, [.null, .null, .null, .null]))]) H := hP
  have hD : va_D (lw_A s) ([(q0, .inr (3, [.null, .null, .null, .null]))]) := hD
  refine lv_dup hx hb dL_law_3 rfl ?_
  have hPc := hP.sub (ws' := [(q0, .inr (3, [.null, .null, .null, .null]))]) [0] rfl
  have hDc := hD.sub (ws' := [(q0, .inr (3, [.null, .null, .null, .null]))]) [0] (by decide) rfl
  have hKc := hK.sub (tys' := []) [] rfl
  have hFc := va_free (wc := [(q0, .inr (3, [.null, .null, .null, .null]))]) hD hS hA [0] rfl
  have hN1 : va_Nw (.methodLinkNest RX4 18 yX1_init RX4) s := va_Nw.of rfl (hts0 _ mt_13)
  have hN2 : va_Nw (.methodLinkNest RX4 25 yX3_init RX4) s := va_Nw.of rfl (hts0 _ mt_14)
  refine va_callv (va_runI (As := []) (rest := [.ref q0]) ⟨hx, hb, hml, hown, hts⟩ (ci_X4 l dC dI q0 H.size hfX) (cwI 0 hts gL_law_X4_init rfl rfl rfl (hts0 (.initialized RX4) mt_6) (hts0 (.methodLink RL 9 yX4_init) mt_7) (hts0 (.instanceMethod yX4_init) mt_8) rfl (by decide +kernel) ⟨Nat.le_of_ble_eq_true rfl, Nat.le_of_ble_eq_true rfl⟩) ⟨fun a U g mk q => by obtain ⟨q0, q1, qP, qK, qD, n1, n2⟩ := q; exact ⟨q0, q1, qP, va_K.moved (u := U) (U := U.calling g mk a) (Vm.Alike.refl U.vm) qK, qD, va_Nw.same rfl rfl n1, va_Nw.same rfl rfl n2⟩, fun U hU hW => ⟨rfl, by rw [hU], by rw [hU]; exact hPc, va_K.moved hW.alike hKc, hDc.weaken (fun _ _ _ _ => trivial), va_Nw.warmM hW hN1, va_Nw.warmM hW hN2⟩⟩ rfl rfl hl.1 rfl (lv_room (Nat.le_of_ble_eq_true rfl)) dL_law_4 ⟨Nat.le_of_ble_eq_true rfl, Nat.le_of_ble_eq_true rfl⟩) hS (fun q _ h => hFc q h) hFc (fun u t H1 locs ht hvm hw hB hz1 hk1 hS => ?_)
  obtain ⟨hX, cX, eq0, hP1, hK1, hD1⟩ := hB
  rw [ht] at hP1
  have hK1X4 := va_K.moved hvm.symm hK1
  obtain ⟨hP, hD⟩ := va_join (wr := []) (w1 := sc_wX hX cX (sc_X0 SX)) hP hD [0] [] rfl rfl (by decide) (by decide) hk1 hFc hP1 hD1
  refine W.widen (k := 26) (n := 8283) (Nat.le_refl _) (Nat.le_refl _) ?_
  generalize H1 = H at hP hS ⊢
  have hP : va_P (dC, dI) vwCl (sc_wX hX cX (sc_X0 SX)) H := hP
  have hD : va_D (lw_A s) (sc_wX hX cX (sc_X0 SX)) := hD
  refine lv_astore_n (lv' := [(1, .ref q0), (0, .ref b)]) hx hb dL_law_7 rfl hl (by decide) rfl (fun ls hl => ?_)
  refine va_new (ci := 4) (fs := [.int 0, .null, .null, .int 0, .null, .null, .null, .null, .int 0, .int 0, .int 0, .int 0, .int 0, .null, .null, .null, .null, .null, .null, .null, .null, .null, .null, .null, .null, .null, .null, .int 0, .null, .null, .null, .null, .null, .null, .long 0, .long 0, .long 0, .null]) (C := RX5) (T := TX5) (N := 38) hx hb hts0 inX5 tyX5 tyX5_ok hown (hts0 (.classLink RL 10 RX5) mt_9) (hts0 (.instantiable RX5 38) mt_4) (hts0 (.initialized RX5) mt_10) hK hP hD hS hA rfl df_X5 (Nat.le_of_ble_eq_true rfl) (Nat.le_of_ble_eq_true rfl) dL_law_8 (fun q8 H hP hD hS => ?_)
  refine W.widen (k := 27) (n := 8321) (Nat.le_refl _) (Nat.le_refl _) ?_
  have hP : va_P (dC, dI) vwCl (sc_wX hX cX (sc_X0 SX) ++ [(q8, .inr (4, [.int 0, .null, .null, .int 0, .null, .null, .null, .null, .int 0, .int 0, .int 0, .int 0, .int 0, .null, .null, .null, .null, .null, .null, .null, .null, .null, .null, .null, .null, .null, .null, .int 0, .null, .null, .null, .null, .null, .null, .long 0, .long 0, .long 0, .null]))]) H := hP
  have hD : va_D (lw_A s) (sc_wX hX cX (sc_X0 SX) ++ [(q8, .inr (4, [.int 0, .null, .null, .int 0, .null, .null, .null, .null, .int 0, .int 0, .int 0, .int 0, .int 0, .null, .null, .null, .null, .null, .null, .null, .null, .null, .null, .null, .null, .null, .null, .int 0, .null, .null, .null, .null, .null, .null, .long 0, .long 0, .long 0, .null]))]) := hD
  refine lv_dup hx hb dL_law_11 rfl ?_
  have hPc := hP.sub (ws' := [(q8, .inr (4, [.int 0, .null, .null, .int 0, .null, .null, .null, .null, .int 0, .int 0, .int 0, .int 0, .int 0, .null, .null, .null, .null, .null, .null, .null, .null, .null, .null, .null, .null, .null, .null, .int 0, .null, .null, .null, .null, .null, .null, .long 0, .long 0, .long 0, .null]))]) [26] rfl
  have hDc := hD.sub (ws' := [(q8, .inr (4, [.int 0, .null, .null, .int 0, .null, .null, .null, .null, .int 0, .int 0, .int 0, .int 0, .int 0, .null, .null, .null, .null, .null, .null, .null, .null, .null, .null, .null, .null, .null, .null, .int 0, .null, .null, .null, .null, .null, .null, .long 0, .long 0, .long 0, .null]))]) [26] (by decide) rfl
  have hKc := hK.sub (tys' := []) [] rfl
  have hFc := va_free (wc := [(q8, .inr (4, [.int 0, .null, .null, .int 0, .null, .null, .null, .null, .int 0, .int 0, .int 0, .int 0, .int 0, .null, .null, .null, .null, .null, .null, .null, .null, .null, .null, .null, .null, .null, .null, .int 0, .null, .null, .null, .null, .null, .null, .long 0, .long 0, .long 0, .null]))]) hD hS hA [26] rfl
  refine va_callv (va_runI (As := []) (rest := [.ref q8]) ⟨hx, hb, hml, hown, hts⟩ (ci_X5 l dC dI q8 H.size hfM) (cwI 0 hts gL_law_X5_init rfl rfl rfl (hts0 (.initialized RX5) mt_10) (hts0 (.methodLink RL 12 yX5_init) mt_11) (hts0 (.instanceMethod yX5_init) mt_12) rfl (by decide +kernel) ⟨Nat.le_of_ble_eq_true rfl, Nat.le_of_ble_eq_true rfl⟩) ⟨fun a U g mk q => by obtain ⟨q0, q1, qP, qK, qD⟩ := q; exact ⟨q0, q1, qP, va_K.moved (u := U) (U := U.calling g mk a) (Vm.Alike.refl U.vm) qK, qD⟩, fun U hU hW => ⟨rfl, by rw [hU], by rw [hU]; exact hPc, va_K.moved hW.alike hKc, hDc.weaken (fun _ _ _ _ => trivial)⟩⟩ rfl rfl hl.1 rfl (lv_room (Nat.le_of_ble_eq_true rfl)) dL_law_12 ⟨Nat.le_of_ble_eq_true rfl, Nat.le_of_ble_eq_true rfl⟩) hS (fun q _ h => hFc q h) hFc (fun u t H1 locs ht hvm hw hB hz1 hk1 hS => ?_)
  obtain ⟨hM, cM, eq8, hP1, hK1, hD1⟩ := hB
  rw [ht] at hP1
  have hK1X5 := va_K.moved hvm.symm hK1
  obtain ⟨hP, hD⟩ := va_join (wr := sc_wX hX cX (sc_X0 SX)) (w1 := sc_wM hM cM (sc_mi SM 2 (-9))) hP hD [26] [0, 1, 2, 3, 4, 5, 6, 7, 8, 9, 10, 11, 12, 13, 14, 15, 16, 17, 18, 19, 20, 21, 22, 23, 24, 25] rfl rfl (by decide) (by decide) hk1 hFc hP1 hD1
  refine W.widen (k := 54) (n := 29131) (Nat.le_refl _) (Nat.le_refl _) ?_
  generalize H1 = H at hP hS ⊢
  refine lv_astore_n (lv' := [(2, .ref q8), (1, .ref q0), (0, .ref b)]) hx hb dL_law_15 rfl hl (by decide) rfl (fun ls hl => ?_)
  refine lv_iconst (v := (0 : Int32)) hx hb dL_law_16 (by decide) ?_
  refine lv_istore_n (lv' := [(3, .int (nI 0)), (2, .ref q8), (1, .ref q0), (0, .ref b)]) hx hb dL_law_17 rfl hl (by decide) rfl (fun ls hl => ?_)
  have hPX := hP.sub (ws' := sc_wX hX cX (sc_X0 SX)) [0, 1, 2, 3, 4, 5, 6, 7, 8, 9, 10, 11, 12, 13, 14, 15, 16, 17, 18, 19, 20, 21, 22, 23, 24, 25] rfl
  have hDX := hD.sub (ws' := sc_wX hX cX (sc_X0 SX)) [0, 1, 2, 3, 4, 5, 6, 7, 8, 9, 10, 11, 12, 13, 14, 15, 16, 17, 18, 19, 20, 21, 22, 23, 24, 25] (by decide) rfl
  have hPM := hP.sub (ws' := sc_wM hM cM (sc_mi SM 2 (-9))) [26, 27, 28, 29, 30, 31, 32, 33, 34, 35, 36, 37, 38, 39, 40, 41, 42, 43, 44, 45, 46, 47, 48, 49, 50, 51, 52, 53] rfl
  have hDM := hD.sub (ws' := sc_wM hM cM (sc_mi SM 2 (-9))) [26, 27, 28, 29, 30, 31, 32, 33, 34, 35, 36, 37, 38, 39, 40, 41, 42, 43, 44, 45, 46, 47, 48, 49, 50, 51, 52, 53] (by decide) rfl
  have hdis := lw_disj hD
  have hKX : sc_KX s := ⟨va_Nw.of rfl (hts0 _ mt_15), va_Nw.of rfl (hts0 _ mt_16)⟩
  rw [← eq0, ← eq8] at hl
  exact law_loop hsim hL ⟨hx, hb, hml, hown, hts⟩ hr hlocks hXs hbl ⟨hK1X4, hK1X5, hKX, fun i j hi hj e => hdis j i hj hi e.symm, hdis⟩ (L + 1) 0 (Nat.zero_le L) (by omega) _ _ _ _ _ hrel ⟨hPX, hDX, hPM, hDM, hS⟩ (lv_sub hl [3, 2, 1, 0] rfl)
