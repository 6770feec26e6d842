def sc_Z : sc_M := (fun _ => 0, fun _ => 0, fun _ _ => 0, fun _ _ => 0)
section SCI
variable {p : Program} {l : Launch} {e : Env} {R : Room} {s : State} {m : MethodId} {args : Array Value} {below : List Frame} {meth : Method} {c : Code} {H : Heap} {locs : List Loc} {cells slots : Nat} {Q : State → Prop} {cc : ByteArray} {nL pc : Nat} {Ts : List Cond} {own : String} {E : sc_E} {S S1 : sc_M} {ls : Array Slot} {rest : List Value}
variable {y : MethodName} {bytes : ByteArray} {maxL n index : Nat} {ret : Option FieldType} {ws : List Cond} {rm : Room} {C : String} {b : Addr} {As : List Value} {st0 : List Value} {q0 ci : Nat} {fs : List Value} {vc : vw_C} {A : Nat → Prop}
theorem sc_start2 (hE : sc_ok E) (hK : va_K E.1 vwCl E.2.2.1 s) (hP : va_P E.1 vwCl (E.2.1 S) H) (hD : va_D A (E.2.1 S)) (hX : E.2.2.2.1 s) (av : List Value) : ∀ U : State, U.heap = H → s.WarmedH U.vm → va_Pc av (sc_pre E S H.size) av.toArray U := fun U hU hw =>
  ⟨rfl, by rw [hU], by rw [hU]; exact hP, va_K.moved hw.alike hK, ⟨hD.1, fun k q hk => hE.2.2.1 S k q hk _⟩, hE.2.2.2.1 s U hw hX⟩
theorem sc_inVv (hE : sc_ok E) (C0 : CallFix p m c cc nL s args Ts own) (hK : va_K E.1 vwCl E.2.2.1 s) (hP : va_P E.1 vwCl (E.2.1 S) H) (hD : va_D A (E.2.1 S)) (hS : va_S A s.heap H locs) (hX : E.2.2.2.1 s) (hAE : ∀ q, E.2.2.2.2 H.size q → A q) (hM : sc_Cv l y ws rm E (.ref b :: As) S S1) (cw : CallW R s args own C index y bytes maxL ret ws rm 0 0 n) (hc : vwCl[ci]? = some vc) (hC : vc.1 = C) (he : (E.2.1 S)[q0]? = some (b, .inr (ci, fs))) (hn : As.length = n) (hsize : ls.size = nL) (hst : st0 = As.reverse ++ .ref b :: rest) (hw : (rest.map fun v => v.category).sum ≤ 8) (hdg : decode cc pc = .ok (.invokevirtual index, 3)) (hcl : cells ≤ R.cells) (hsl : slots ≤ R.slots)
    (kk : ∀ (H1 : Heap) (locs1 : List Loc), H.size ≤ H1.size → (∀ q, q < H.size → ¬ E.2.2.2.2 H.size q → H1[q]? = H[q]?) → va_P E.1 vwCl (E.2.1 S1) H1 → va_D A (E.2.1 S1) → va_S A s.heap H1 locs1 → W p l e R s m args below meth c H1 locs1 cells slots Q (F0 m (pc + 3) ls rest)) : W p l e R s m args below meth c H locs cells slots Q (F0 m pc ls st0) := by
  refine va_callv (va_runV (As := As) (rest := rest) C0 (hM H.size) cw ⟨sc_blind hE _ _ _, hC ▸ va_recv hK hP hc he, sc_start2 hE hK hP hD hX _⟩ rfl hn hsize hst (lv_room hw) hdg ⟨hcl, hsl⟩) hS (fun q _ h => hAE q h) hAE (fun u t H1 locs1 ht hvm hp hB hz1 hk1 hS => ?_)
  skip
  obtain ⟨hP1, hK1, hD1⟩ := hB
  rw [ht] at hP1
  exact kk H1 locs1 hz1 hk1 hP1 ⟨hD1.1, fun k q hk => hAE _ (hE.2.2.1 S1 k q hk _)⟩ hS
theorem sc_inVi {r : Int32} (hE : sc_ok E) (C0 : CallFix p m c cc nL s args Ts own) (hK : va_K E.1 vwCl E.2.2.1 s) (hP : va_P E.1 vwCl (E.2.1 S) H) (hD : va_D A (E.2.1 S)) (hS : va_S A s.heap H locs) (hX : E.2.2.2.1 s) (hAE : ∀ q, E.2.2.2.2 H.size q → A q) (hM : sc_Ci l y ws rm E (.ref b :: As) S S1 r) (cw : CallW R s args own C index y bytes maxL ret ws rm 0 0 n) (hc : vwCl[ci]? = some vc) (hC : vc.1 = C) (he : (E.2.1 S)[q0]? = some (b, .inr (ci, fs))) (hn : As.length = n) (hsize : ls.size = nL) (hst : st0 = As.reverse ++ .ref b :: rest) (hw : (rest.map fun v => v.category).sum ≤ 8) (hdg : decode cc pc = .ok (.invokevirtual index, 3)) (hcl : cells ≤ R.cells) (hsl : slots ≤ R.slots)
    (kk : ∀ (H1 : Heap) (locs1 : List Loc), H.size ≤ H1.size → (∀ q, q < H.size → ¬ E.2.2.2.2 H.size q → H1[q]? = H[q]?) → va_P E.1 vwCl (E.2.1 S1) H1 → va_D A (E.2.1 S1) → va_S A s.heap H1 locs1 → W p l e R s m args below meth c H1 locs1 cells slots Q (F0 m (pc + 3) ls (.int r :: rest))) : W p l e R s m args below meth c H locs cells slots Q (F0 m pc ls st0) := by
  refine va_calli (va_runV (As := As) (rest := rest) C0 (hM H.size) cw ⟨sc_blind hE _ _ _, hC ▸ va_recv hK hP hc he, sc_start2 hE hK hP hD hX _⟩ rfl hn hsize hst (lv_room hw) hdg ⟨hcl, hsl⟩) hS (fun q _ h => hAE q h) hAE (fun r1 u t H1 locs1 ht hvm hp hB hz1 hk1 hS => ?_)
  subst hp
  obtain ⟨hP1, hK1, hD1⟩ := hB
  rw [ht] at hP1
  exact kk H1 locs1 hz1 hk1 hP1 ⟨hD1.1, fun k q hk => hAE _ (hE.2.2.1 S1 k q hk _)⟩ hS
theorem sc_inVl {r : Int64} (hE : sc_ok E) (C0 : CallFix p m c cc nL s args Ts own) (hK : va_K E.1 vwCl E.2.2.1 s) (hP : va_P E.1 vwCl (E.2.1 S) H) (hD : va_D A (E.2.1 S)) (hS : va_S A s.heap H locs) (hX : E.2.2.2.1 s) (hAE : ∀ q, E.2.2.2.2 H.size q → A q) (hM : sc_Cl l y ws rm E (.ref b :: As) S S1 r) (cw : CallW R s args own C index y bytes maxL ret ws rm 0 0 n) (hc : vwCl[ci]? = some vc) (hC : vc.1 = C) (he : (E.2.1 S)[q0]? = some (b, .inr (ci, fs))) (hn : As.length = n) (hsize : ls.size = nL) (hst : st0 = As.reverse ++ .ref b :: rest) (hw : (rest.map fun v => v.category).sum ≤ 8) (hdg : decode cc pc = .ok (.invokevirtual index, 3)) (hcl : cells ≤ R.cells) (hsl : slots ≤ R.slots)
    (kk : ∀ (H1 : Heap) (locs1 : List Loc), H.size ≤ H1.size → (∀ q, q < H.size → ¬ E.2.2.2.2 H.size q → H1[q]? = H[q]?) → va_P E.1 vwCl (E.2.1 S1) H1 → va_D A (E.2.1 S1) → va_S A s.heap H1 locs1 → W p l e R s m args below meth c H1 locs1 cells slots Q (F0 m (pc + 3) ls (.long r :: rest))) : W p l e R s m args below meth c H locs cells slots Q (F0 m pc ls st0) := by
  refine va_calll (va_runV (As := As) (rest := rest) C0 (hM H.size) cw ⟨sc_blind hE _ _ _, hC ▸ va_recv hK hP hc he, sc_start2 hE hK hP hD hX _⟩ rfl hn hsize hst (lv_room hw) hdg ⟨hcl, hsl⟩) hS (fun q _ h => hAE q h) hAE (fun r1 u t H1 locs1 ht hvm hp hB hz1 hk1 hS => ?_)
  subst hp
  obtain ⟨hP1, hK1, hD1⟩ := hB
  rw [ht] at hP1
  exact kk H1 locs1 hz1 hk1 hP1 ⟨hD1.1, fun k q hk => hAE _ (hE.2.2.1 S1 k q hk _)⟩ hS
end SCI

theorem ni_X0_init : ∀ w ∈ wsX00, w ∈ wsX0_init := by decide +kernel
theorem ni_X1_init : ∀ w ∈ wsX10, w ∈ wsX1_init := by decide +kernel
theorem ni_X3_init : ∀ w ∈ wsX30, w ∈ wsX3_init := by decide +kernel
theorem ni_X4_init : ∀ w ∈ wsX40, w ∈ wsX4_init := by decide +kernel
theorem ni_X5_init : ∀ w ∈ wsX50, w ∈ wsX5_init := by decide +kernel
theorem sc_AEH {h : Nat → Nat} {cy : Nat → ClassId} {S : sc_M} {A : Nat → Prop} {sz : Nat} (hD : va_D A (sc_wH h cy S)) (hA : ∀ q, sz ≤ q → A q) : ∀ q, sc_AH h sz q → A q := by
  intro q hq
  rcases hq with ⟨k, hk, rfl⟩ | hq
  · have hm : h k ∈ (sc_wH h cy S).map Prod.fst := by
      have he : (sc_wH h cy S).map Prod.fst = ([1, 4, 5, 6, 7, 8, 9] : List Nat).map h := rfl
      rw [he]; exact List.mem_map_of_mem hk
    obtain ⟨q, hq, e⟩ := List.mem_map.mp hm
    obtain ⟨i, hi⟩ := List.getElem?_of_mem hq
    rw [← e]; exact hD.2 i q hi
  · exact hA q hq
theorem sc_AEM {h : Nat → Nat} {cy : Nat → ClassId} {S : sc_M} {A : Nat → Prop} {sz : Nat} (hD : va_D A (sc_wM h cy S)) (hA : ∀ q, sz ≤ q → A q) : ∀ q, sc_AM h sz q → A q := by
  intro q hq
  rcases hq with ⟨k, hk, rfl⟩ | hq
  · have hm : h k ∈ (sc_wM h cy S).map Prod.fst := by
      have he : (sc_wM h cy S).map Prod.fst = (List.range 28).map h := rfl
      rw [he]; exact List.mem_map_of_mem (List.mem_range.mpr hk)
    obtain ⟨q, hq, e⟩ := List.mem_map.mp hm
    obtain ⟨i, hi⟩ := List.getElem?_of_mem hq
    rw [← e]; exact hD.2 i q hi
  · exact hA q hq
theorem sc_AEX {h : Nat → Nat} {cy : Nat → ClassId} {S : sc_M} {A : Nat → Prop} {sz : Nat} (hD : va_D A (sc_wX h cy S)) (hA : ∀ q, sz ≤ q → A q) : ∀ q, sc_AX h sz q → A q := by
  intro q hq
  rcases hq with ⟨k, hk, rfl⟩ | hq
  · have hm : h k ∈ (sc_wX h cy S).map Prod.fst := by
      have he : (sc_wX h cy S).map Prod.fst = (List.range 26).map h := rfl
      rw [he]; exact List.mem_map_of_mem (List.mem_range.mpr hk)
    obtain ⟨q, hq, e⟩ := List.mem_map.mp hm
    obtain ⟨i, hi⟩ := List.getElem?_of_mem hq
    rw [← e]; exact hD.2 i q hi
  · exact hA q hq
