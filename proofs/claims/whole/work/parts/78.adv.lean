/-! ===== the next stage begins ===== -/
noncomputable def cpX (np t : Nat) (S : sc_M) : sc_M := sc_mA (sc_mA (sc_mi S 9 (nI (80 * (t + 1)))) 22 (va_cpy (sc_ga S 22) (sc_ga S 22) (80 * t) (80 * (t + 1)) np)) 23 (va_cpy (sc_ga S 23) (sc_ga S 23) (80 * t) (80 * (t + 1)) np)
theorem sa_place0 (S : sc_M) (i : Nat) : fn_X4_place S (nI i) 0 = some (nI (80 * i), S) := by rw [fn_X4_place, sa_l0, sa_80x]; rfl
theorem copy_X {np t : Nat} {S : sc_M} (hnp : np ≤ 80) (ht : t + 1 < 13) (e8 : sc_gi S 8 = nI np) (e9 : sc_gi S 9 = nI (80 * t)) : fn_X3_copyRow S (nI (t + 1)) = some (cpX np t S) := by
  rw [fn_X3_copyRow, e9]
  simp -implicitDefEqProofs (disch := omega) only [sa_place0, sa_cl, sa_sq, e8, sa_gi_s, sa_gi_n, sa_gi_j, sa_gi_A, sa_gi_B, sa_gj_s, sa_gj_n, sa_gj_i, sa_gj_A, sa_gj_B, sa_ga_s, sa_ga_n, sa_ga_i, sa_ga_j, sa_ga_B, sa_gb_s, sa_gb_n, sa_gb_i, sa_gb_j, sa_gb_A, sa_us, sa_un, sa_vs, sa_vn, sa_cl9, sa_cp]
  rfl
/-- the class's rows of the next stage are those of the one ahead -/
theorem adv_X {B : bT} {t : Nat} {kd wh : Int32} {u : Nat → Int32} {v : Nat → Nat} {pl : Nat → Option Nat} {vl cm : Nat → Nat} {SX SM SM' : sc_M} (hB : bOK B) (h : wR B t (bP B) u v pl vl cm SX SM) (hr : rMf t SM SM') (m6 : sc_gi SM' 6 = nI (t + 1)) : wR B (t + 1) (bP B) u v pl vl cm (cpX (bP B) t (tnX (bN B) t kd wh SX)) SM' := by
  obtain ⟨⟨hX, hM⟩, ⟨e5, e6, e8, e9, _⟩, hu, hv, hid, hpp⟩ := h
  obtain ⟨a1, a2, a3, a4, a5, a6, a7⟩ := hr
  obtain ⟨⟨t1, t2, t3, t4, t5, t6, t7, t8⟩, t9⟩ := tn_at (n := bN B) (t := t) (kd := kd) (wh := wh) (S := SX)
  obtain ⟨f1, f2, f3, f4, f5⟩ := tn_fr (n := bN B) (t := t) (kd := kd) (wh := wh) (S := SX)
  have hn := hB.1.2.1
  have hnp := hB.1.2.2
  unfold cpX
  refine ⟨⟨?_, ?_⟩, ⟨?_, ?_, ?_, ?_, m6⟩, fun c hc => ⟨?_, ?_⟩, fun c hc => ⟨?_, ?_⟩, ?_, fun p hp => ?_⟩
  · refine bX_f (S := SX) (fun k hk => ?_) (fun k hk => ?_) hX
    · simp -implicitDefEqProofs (disch := omega) only [sa_gi_s, sa_gi_n, sa_gi_j, sa_gi_A, sa_gi_B, sa_gj_s, sa_gj_n, sa_gj_i, sa_gj_A, sa_gj_B, sa_ga_s, sa_ga_n, sa_ga_i, sa_ga_j, sa_ga_B, sa_gb_s, sa_gb_n, sa_gb_i, sa_gb_j, sa_gb_A, sa_us, sa_un, sa_vs, sa_vn]; exact f1 k (by omega) (by omega)
    · simp -implicitDefEqProofs (disch := omega) only [sa_gi_s, sa_gi_n, sa_gi_j, sa_gi_A, sa_gi_B, sa_gj_s, sa_gj_n, sa_gj_i, sa_gj_A, sa_gj_B, sa_ga_s, sa_ga_n, sa_ga_i, sa_ga_j, sa_ga_B, sa_gb_s, sa_gb_n, sa_gb_i, sa_gb_j, sa_gb_A, sa_us, sa_un, sa_vs, sa_vn]; exact f2 k (by omega) (by omega) (by omega) (by omega)
  · exact bM_f (S := SM) (fun k hk => a1 k (by omega)) (fun k hk => a3 k (by omega) (by omega) (by omega) (by omega) (by omega)) hM
  · simp -implicitDefEqProofs (disch := omega) only [sa_gi_s, sa_gi_n, sa_gi_j, sa_gi_A, sa_gi_B, sa_gj_s, sa_gj_n, sa_gj_i, sa_gj_A, sa_gj_B, sa_ga_s, sa_ga_n, sa_ga_i, sa_ga_j, sa_ga_B, sa_gb_s, sa_gb_n, sa_gb_i, sa_gb_j, sa_gb_A, sa_us, sa_un, sa_vs, sa_vn]; exact t1
  · simp -implicitDefEqProofs (disch := omega) only [sa_gi_s, sa_gi_n, sa_gi_j, sa_gi_A, sa_gi_B, sa_gj_s, sa_gj_n, sa_gj_i, sa_gj_A, sa_gj_B, sa_ga_s, sa_ga_n, sa_ga_i, sa_ga_j, sa_ga_B, sa_gb_s, sa_gb_n, sa_gb_i, sa_gb_j, sa_gb_A, sa_us, sa_un, sa_vs, sa_vn]; exact t2
  · simp -implicitDefEqProofs (disch := omega) only [sa_gi_s, sa_gi_n, sa_gi_j, sa_gi_A, sa_gi_B, sa_gj_s, sa_gj_n, sa_gj_i, sa_gj_A, sa_gj_B, sa_ga_s, sa_ga_n, sa_ga_i, sa_ga_j, sa_ga_B, sa_gb_s, sa_gb_n, sa_gb_i, sa_gb_j, sa_gb_A, sa_us, sa_un, sa_vs, sa_vn]; rw [f1 8 (by decide) (by decide)]; exact e8
  · simp -implicitDefEqProofs (disch := omega) only [sa_gi_s, sa_gi_n, sa_gi_j, sa_gi_A, sa_gi_B, sa_gj_s, sa_gj_n, sa_gj_i, sa_gj_A, sa_gj_B, sa_ga_s, sa_ga_n, sa_ga_i, sa_ga_j, sa_ga_B, sa_gb_s, sa_gb_n, sa_gb_i, sa_gb_j, sa_gb_A, sa_us, sa_un, sa_vs, sa_vn]
  · simp -implicitDefEqProofs (disch := omega) only [sa_gi_s, sa_gi_n, sa_gi_j, sa_gi_A, sa_gi_B, sa_gj_s, sa_gj_n, sa_gj_i, sa_gj_A, sa_gj_B, sa_ga_s, sa_ga_n, sa_ga_i, sa_ga_j, sa_ga_B, sa_gb_s, sa_gb_n, sa_gb_i, sa_gb_j, sa_gb_A, sa_us, sa_un, sa_vs, sa_vn]; rw [(t9 c hc).2.1]; exact (hu c hc).1
  · rw [a3 22 (by decide) (by decide) (by decide) (by decide) (by decide)]; exact (hu c hc).2
  · simp -implicitDefEqProofs (disch := omega) only [sa_gi_s, sa_gi_n, sa_gi_j, sa_gi_A, sa_gi_B, sa_gj_s, sa_gj_n, sa_gj_i, sa_gj_A, sa_gj_B, sa_ga_s, sa_ga_n, sa_ga_i, sa_ga_j, sa_ga_B, sa_gb_s, sa_gb_n, sa_gb_i, sa_gb_j, sa_gb_A, sa_us, sa_un, sa_vs, sa_vn]; rw [(t9 c hc).1]; exact (hv c hc).1
  · rw [a4 21 (by decide) (by decide) (by decide) (by decide) (by decide) (by decide) (by decide)]; exact (hv c hc).2
  · simp -implicitDefEqProofs (disch := omega) only [sa_gi_s, sa_gi_n, sa_gi_j, sa_gi_A, sa_gi_B, sa_gj_s, sa_gj_n, sa_gj_i, sa_gj_A, sa_gj_B, sa_ga_s, sa_ga_n, sa_ga_i, sa_ga_j, sa_ga_B, sa_gb_s, sa_gb_n, sa_gb_i, sa_gb_j, sa_gb_A, sa_us, sa_un, sa_vs, sa_vn]; rw [t5, a2]; exact hid
  · have hq := hpp p hp
    unfold pR at hq ⊢
    rw [a3 24 (by decide) (by decide) (by decide) (by decide) (by decide), a3 26 (by decide) (by decide) (by decide) (by decide) (by decide), a4 25 (by decide) (by decide) (by decide) (by decide) (by decide) (by decide) (by decide)]
    simp -implicitDefEqProofs (disch := omega) only [sa_gi_s, sa_gi_n, sa_gi_j, sa_gi_A, sa_gi_B, sa_gj_s, sa_gj_n, sa_gj_i, sa_gj_A, sa_gj_B, sa_ga_s, sa_ga_n, sa_ga_i, sa_ga_j, sa_ga_B, sa_gb_s, sa_gb_n, sa_gb_i, sa_gb_j, sa_gb_A, sa_us, sa_un, sa_vs, sa_vn, pk_cpy_in]
    rw [f2 22 (by decide) (by decide) (by decide) (by decide), f2 23 (by decide) (by decide) (by decide) (by decide), f2 24 (by decide) (by decide) (by decide) (by decide), show 80 * t + (80 * (t + 1) + p - 80 * (t + 1)) = 80 * t + p by omega]
    obtain ⟨q1, q2, q3, q4⟩ := hq
    refine ⟨q1, q2, q3, fun d hd => ?_⟩
    obtain ⟨z1, z2, z3, z4⟩ := q4 d hd
    exact ⟨z1, z2, by omega, z4⟩
def aXf (t : Nat) (S S' : sc_M) : Prop := (∀ k, k ≠ 5 → k ≠ 6 → k ≠ 9 → sc_gi S' k = sc_gi S k) ∧ (∀ k, k < 12 ∨ k = 14 → sc_ga S' k = sc_ga S k) ∧ sc_gb S' 16 (t + 1) = sc_gb S 16 t ∧ sc_gb S' 17 (t + 1) = sc_gb S 17 t ∧ sc_gb S' 18 (t + 1) = 0 ∧ hKX (t + 1) S S'
theorem adv_fr {n np t : Nat} {kd wh : Int32} {SX : sc_M} : aXf t SX (cpX np t (tnX n t kd wh SX)) ∧ sc_ga (cpX np t (tnX n t kd wh SX)) 12 (t + 1) = kd ∧ sc_ga (cpX np t (tnX n t kd wh SX)) 13 (t + 1) = wh := by
  obtain ⟨⟨t1, t2, t3, t4, t5, t6, t7, t8⟩, t9⟩ := tn_at (n := n) (t := t) (kd := kd) (wh := wh) (S := SX)
  obtain ⟨f1, f2, f3, f4, f5⟩ := tn_fr (n := n) (t := t) (kd := kd) (wh := wh) (S := SX)
  unfold cpX
  refine ⟨⟨fun k k1 k2 k3 => ?_, fun k hk => ?_, ?_, ?_, ?_, ⟨fun j hj => ?_, fun j hj => ?_, fun j hj => ?_⟩⟩, ?_, ?_⟩
  · simp -implicitDefEqProofs (disch := omega) only [sa_gi_s, sa_gi_n, sa_gi_j, sa_gi_A, sa_gi_B, sa_gj_s, sa_gj_n, sa_gj_i, sa_gj_A, sa_gj_B, sa_ga_s, sa_ga_n, sa_ga_i, sa_ga_j, sa_ga_B, sa_gb_s, sa_gb_n, sa_gb_i, sa_gb_j, sa_gb_A, sa_us, sa_un, sa_vs, sa_vn]; exact f1 k k1 k2
  · simp -implicitDefEqProofs (disch := omega) only [sa_gi_s, sa_gi_n, sa_gi_j, sa_gi_A, sa_gi_B, sa_gj_s, sa_gj_n, sa_gj_i, sa_gj_A, sa_gj_B, sa_ga_s, sa_ga_n, sa_ga_i, sa_ga_j, sa_ga_B, sa_gb_s, sa_gb_n, sa_gb_i, sa_gb_j, sa_gb_A, sa_us, sa_un, sa_vs, sa_vn]; exact f2 k (by omega) (by omega) (by omega) (by omega)
  · simp -implicitDefEqProofs (disch := omega) only [sa_gi_s, sa_gi_n, sa_gi_j, sa_gi_A, sa_gi_B, sa_gj_s, sa_gj_n, sa_gj_i, sa_gj_A, sa_gj_B, sa_ga_s, sa_ga_n, sa_ga_i, sa_ga_j, sa_ga_B, sa_gb_s, sa_gb_n, sa_gb_i, sa_gb_j, sa_gb_A, sa_us, sa_un, sa_vs, sa_vn]; exact t6
  · simp -implicitDefEqProofs (disch := omega) only [sa_gi_s, sa_gi_n, sa_gi_j, sa_gi_A, sa_gi_B, sa_gj_s, sa_gj_n, sa_gj_i, sa_gj_A, sa_gj_B, sa_ga_s, sa_ga_n, sa_ga_i, sa_ga_j, sa_ga_B, sa_gb_s, sa_gb_n, sa_gb_i, sa_gb_j, sa_gb_A, sa_us, sa_un, sa_vs, sa_vn]; exact t7
  · simp -implicitDefEqProofs (disch := omega) only [sa_gi_s, sa_gi_n, sa_gi_j, sa_gi_A, sa_gi_B, sa_gj_s, sa_gj_n, sa_gj_i, sa_gj_A, sa_gj_B, sa_ga_s, sa_ga_n, sa_ga_i, sa_ga_j, sa_ga_B, sa_gb_s, sa_gb_n, sa_gb_i, sa_gb_j, sa_gb_A, sa_us, sa_un, sa_vs, sa_vn]; exact t8
  · obtain ⟨q1, q2, q3, q4, q5, q6⟩ := f4 j hj
    simp -implicitDefEqProofs (disch := omega) only [sa_gi_s, sa_gi_n, sa_gi_j, sa_gi_A, sa_gi_B, sa_gj_s, sa_gj_n, sa_gj_i, sa_gj_A, sa_gj_B, sa_ga_s, sa_ga_n, sa_ga_i, sa_ga_j, sa_ga_B, sa_gb_s, sa_gb_n, sa_gb_i, sa_gb_j, sa_gb_A, sa_us, sa_un, sa_vs, sa_vn]
    exact ⟨q1, q2, by rw [f2 14 (by decide) (by decide) (by decide) (by decide)], q3, q4, q5, q6⟩
  · simp -implicitDefEqProofs (disch := omega) only [sa_gi_s, sa_gi_n, sa_gi_j, sa_gi_A, sa_gi_B, sa_gj_s, sa_gj_n, sa_gj_i, sa_gj_A, sa_gj_B, sa_ga_s, sa_ga_n, sa_ga_i, sa_ga_j, sa_ga_B, sa_gb_s, sa_gb_n, sa_gb_i, sa_gb_j, sa_gb_A, sa_us, sa_un, sa_vs, sa_vn]; exact f5 j hj
  · simp -implicitDefEqProofs (disch := omega) only [sa_gi_s, sa_gi_n, sa_gi_j, sa_gi_A, sa_gi_B, sa_gj_s, sa_gj_n, sa_gj_i, sa_gj_A, sa_gj_B, sa_ga_s, sa_ga_n, sa_ga_i, sa_ga_j, sa_ga_B, sa_gb_s, sa_gb_n, sa_gb_i, sa_gb_j, sa_gb_A, sa_us, sa_un, sa_vs, sa_vn, pk_cpy_out]
    rw [f2 22 (by decide) (by decide) (by decide) (by decide), f2 23 (by decide) (by decide) (by decide) (by decide)]
    exact ⟨rfl, rfl⟩
  · simp -implicitDefEqProofs (disch := omega) only [sa_gi_s, sa_gi_n, sa_gi_j, sa_gi_A, sa_gi_B, sa_gj_s, sa_gj_n, sa_gj_i, sa_gj_A, sa_gj_B, sa_ga_s, sa_ga_n, sa_ga_i, sa_ga_j, sa_ga_B, sa_gb_s, sa_gb_n, sa_gb_i, sa_gb_j, sa_gb_A, sa_us, sa_un, sa_vs, sa_vn]; exact t3
  · simp -implicitDefEqProofs (disch := omega) only [sa_gi_s, sa_gi_n, sa_gi_j, sa_gi_A, sa_gi_B, sa_gj_s, sa_gj_n, sa_gj_i, sa_gj_A, sa_gj_B, sa_ga_s, sa_ga_n, sa_ga_i, sa_ga_j, sa_ga_B, sa_gb_s, sa_gb_n, sa_gb_i, sa_gb_j, sa_gb_A, sa_us, sa_un, sa_vs, sa_vn]; exact t4
