/-! ===== a count by rule 3, whole; the call count ===== -/
theorem keep_all {B : bT} {s : Nat} {SX SM : sc_M} (hB : bOK B) (hs1 : 1 ≤ s) (hs : s ≤ 12) (h : iR B 3 s SX SM) : ∃ (SX' SM' : sc_M), fn_X2_run SX = some SX' ∧ fn_X5_countByKeeps SM = some SM' ∧ fin B 3 SX' SM' := by
  have hn := hB.1.2.1
  obtain ⟨⟨hX, hM⟩, ⟨g1, g2, g3, g4, g5, g6, g7, g8, g9⟩, ⟨e5, e6, m6⟩, ⟨k1, k2, k3, k4, k5, k6, k7⟩, hl, hu, hv, hk⟩ := h
  have hy : yR B s 0 0 (uI B) (fun _ => 1000000) SX SM := by
    refine ⟨⟨hX, hM⟩, ⟨g1, g2, g3, g4, g5, g6, g8, g9, e5, e6, m6⟩, ⟨by rw [k2, k7], by rw [k4, if_pos rfl], k5, k3⟩, fun c hc => ?_, fun c hc => ?_, fun c hc hw => ?_, hl, fun k hk => by omega, ⟨fun i hi => by omega, fun i hi => by omega, fun _ i hi => by omega, fun _ i hi => by omega⟩, ?_, ?_⟩
    · rw [Nat.mul_zero, Nat.zero_add]; exact hu c hc
    · rw [Nat.mul_zero, Nat.zero_add, (hk c hc).1, (hk c hc).2, kI]
      refine ⟨fun h0 => ⟨Nat.le_refl _, ?_, rfl⟩, fun h0 => ?_⟩
      · rw [if_pos h0]; rfl
      · rw [if_neg h0]; rfl
    · rw [uI, if_neg hw]
    · have : hpN (uI B) (bN B) ≤ bN B := cnP_le _ _
      omega
    · have : hpN (uI B) (bN B) ≤ bN B := cnP_le _ _
      omega
  obtain ⟨X1, M1, a1, a2, a3⟩ := run_3 hB hs1 hs 72 0 sc_FU sc_FU 0 (uI B) (fun _ => 1000000) SX SM rfl (by omega) (by decide) (by decide) hy
  exact ⟨X1, M1, a1, a2, a3⟩
theorem fin_rel {B : bT} {r : Nat} {SX SM : sc_M} (hB : bOK B) (hr : r < 4) (h : fin B r SX SM) : ∃ st, fn_X4_count_90 SX = some (nI st, sc_mB SX 25 (va_cpy (sc_gb SX 19) (sc_gb SX 25) 0 0 864)) ∧ sc_gi SM 6 = nI st ∧ sRel (sc_mB SX 25 (va_cpy (sc_gb SX 19) (sc_gb SX 25) 0 0 864)) SM := by
  have hn := hB.1.2.1
  have hnp := hB.1.2.2
  obtain ⟨st, el, ⟨s1, s2, s3⟩, hel, ⟨hX, hM⟩, ⟨g1, g2, g3, g4, g5, g6, g7, g8⟩, hp, ho, ⟨h1, h2, h3, h4⟩⟩ := h
  refine ⟨st, ?_, g2, B, hB, ?_, hM, ?_⟩
  · rw [fn_X4_count_90, sa_l0, show (864 : Int32) = nI 864 from rfl, sa_cp _ (by omega) (by omega) (by omega), sa_sq, sa_cl9 (by omega), sa_cl9 (by omega), sa_gi_B, g1]
  · exact bX_f (fun k hk => by simp -implicitDefEqProofs (disch := omega) only [sa_gi_s, sa_gi_n, sa_gi_j, sa_gi_A, sa_gi_B, sa_gj_s, sa_gj_n, sa_gj_i, sa_gj_A, sa_gj_B, sa_ga_s, sa_ga_n, sa_ga_i, sa_ga_j, sa_ga_B, sa_gb_s, sa_gb_n, sa_gb_i, sa_gb_j, sa_gb_A, sa_us, sa_un, sa_vs, sa_vn]) (fun k hk => by simp -implicitDefEqProofs (disch := omega) only [sa_gi_s, sa_gi_n, sa_gi_j, sa_gi_A, sa_gi_B, sa_gj_s, sa_gj_n, sa_gj_i, sa_gj_A, sa_gj_B, sa_ga_s, sa_ga_n, sa_ga_i, sa_ga_j, sa_ga_B, sa_gb_s, sa_gb_n, sa_gb_i, sa_gb_j, sa_gb_A, sa_us, sa_un, sa_vs, sa_vn]) hX
  · refine ⟨st, bN B, el, bP B, ⟨s2, hn, hel, hnp⟩, ⟨g1, g2, g3, g4, g5, g6, by simp -implicitDefEqProofs (disch := omega) only [sa_gi_s, sa_gi_n, sa_gi_j, sa_gi_A, sa_gi_B, sa_gj_s, sa_gj_n, sa_gj_i, sa_gj_A, sa_gj_B, sa_ga_s, sa_ga_n, sa_ga_i, sa_ga_j, sa_ga_B, sa_gb_s, sa_gb_n, sa_gb_i, sa_gb_j, sa_gb_A, sa_us, sa_un, sa_vs, sa_vn]; rw [g7, g8]⟩, Or.inr ⟨r, hr, g8, s1, fun hr3 => ⟨s3 hr3, (hp hr3).1, (hp hr3).2, fun i hi p hpp => ?_⟩, fun hr3 i hi c hc hne => ?_⟩, fun k hk => ?_, fun i hi => ?_, fun i hi c hc => ?_⟩
    · simp -implicitDefEqProofs (disch := omega) only [sa_gi_s, sa_gi_n, sa_gi_j, sa_gi_A, sa_gi_B, sa_gj_s, sa_gj_n, sa_gj_i, sa_gj_A, sa_gj_B, sa_ga_s, sa_ga_n, sa_ga_i, sa_ga_j, sa_ga_B, sa_gb_s, sa_gb_n, sa_gb_i, sa_gb_j, sa_gb_A, sa_us, sa_un, sa_vs, sa_vn]; exact h3 hr3 i hi p hpp
    · simp -implicitDefEqProofs (disch := omega) only [sa_gi_s, sa_gi_n, sa_gi_j, sa_gi_A, sa_gi_B, sa_gj_s, sa_gj_n, sa_gj_i, sa_gj_A, sa_gj_B, sa_ga_s, sa_ga_n, sa_ga_i, sa_ga_j, sa_ga_B, sa_gb_s, sa_gb_n, sa_gb_i, sa_gb_j, sa_gb_A, sa_us, sa_un, sa_vs, sa_vn]; exact h4 hr3 i hi c hc hne
    · simp -implicitDefEqProofs (disch := omega) only [sa_gi_s, sa_gi_n, sa_gi_j, sa_gi_A, sa_gi_B, sa_gj_s, sa_gj_n, sa_gj_i, sa_gj_A, sa_gj_B, sa_ga_s, sa_ga_n, sa_ga_i, sa_ga_j, sa_ga_B, sa_gb_s, sa_gb_n, sa_gb_i, sa_gb_j, sa_gb_A, sa_us, sa_un, sa_vs, sa_vn]; exact ho k hk
    · simp -implicitDefEqProofs (disch := omega) only [sa_gi_s, sa_gi_n, sa_gi_j, sa_gi_A, sa_gi_B, sa_gj_s, sa_gj_n, sa_gj_i, sa_gj_A, sa_gj_B, sa_ga_s, sa_ga_n, sa_ga_i, sa_ga_j, sa_ga_B, sa_gb_s, sa_gb_n, sa_gb_i, sa_gb_j, sa_gb_A, sa_us, sa_un, sa_vs, sa_vn]; exact h1 i hi
    · obtain ⟨q1, q2, q3, _⟩ := h2 i hi c hc
      simp -implicitDefEqProofs (disch := omega) only [sa_gi_s, sa_gi_n, sa_gi_j, sa_gi_A, sa_gi_B, sa_gj_s, sa_gj_n, sa_gj_i, sa_gj_A, sa_gj_B, sa_ga_s, sa_ga_n, sa_ga_i, sa_ga_j, sa_ga_B, sa_gb_s, sa_gb_n, sa_gb_i, sa_gb_j, sa_gb_A, sa_us, sa_un, sa_vs, sa_vn, pk_cpy_in, Nat.zero_add, Nat.sub_zero]
      exact ⟨q1, q2, by rw [q1, q3]⟩
theorem so_count : sm_count sRel := by
  intro SX SM a b hrel
  obtain ⟨B, hB, hX, hM, hj⟩ := id hrel
  have hn := hB.1.2.1
  have hnp := hB.1.2.2
  by_cases ha1 : a < 0
  · refine ⟨-2, SX, SM, ?_, ?_, hrel⟩
    · rw [fn_X4_count, if_pos ha1]
    · rw [fn_X5_count, pi_out (Or.inl ha1)]; rfl
  by_cases ha2 : 3 < a
  · refine ⟨-2, SX, SM, ?_, ?_, hrel⟩
    · rw [fn_X4_count, if_neg ha1, if_pos ha2]
    · rw [fn_X5_count, pi_out (Or.inr ha2)]; rfl
  by_cases hb1 : b < 1
  · refine ⟨-2, SX, SM, ?_, ?_, hrel⟩
    · rw [fn_X4_count, if_neg ha1, if_neg ha2, if_pos hb1]
    · rw [fn_X5_count, pi_in (Int32.not_lt.mp ha1) (Int32.not_lt.mp ha2), sa_cl, if_neg (by decide), pi_out (Or.inl hb1)]; rfl
  by_cases hb2 : b ≤ 12
  · obtain ⟨r, hr, rfl⟩ := nI_of2 (n := 3) (M := 3) rfl ha1 (Int32.not_lt.mp ha2)
    obtain ⟨s, hs, rfl⟩ := nI_of2 (n := 12) (M := 12) rfl (fun h => hb1 (Int32.lt_of_lt_of_le h (by decide))) hb2
    have hs1 : 1 ≤ s := by
      rcases Nat.eq_zero_or_pos s with rfl | h
      · exact absurd (by decide) hb1
      · exact h
    have eX : fn_X4_count SX (nI r) (nI s) = if nI (cW (bW B) (bN B)) = nI (bN B) then some (-3, SX) else sc_cv (fn_X1_begin SX (nI r) (nI s)) (fun S53 => if nI r = (3 : Int32) then sc_cv (fn_X2_run S53) (fun S69 => fn_X4_count_90 S69) else sc_cv (fn_X3_run S53) (fun S87 => fn_X4_count_90 S87)) := by
      rw [fn_X4_count, if_neg ha1, if_neg ha2, if_neg hb1, if_pos hb2, wo_Xr hB hX, sa_cl, hX.1]
    have eM : fn_X5_count SM (nI r) (nI s) = fn_X5_count_27 1 SM (nI r) (nI s) (b2i (decide (cW (bW B) (bN B) < bN B))) (nI (bN B)) := by
      rw [fn_X5_count, pi_in (Int32.not_lt.mp ha1) (Int32.not_lt.mp ha2), sa_cl, if_neg (by decide), pi_in (Int32.not_lt.mp hb1) hb2, sa_cl, if_neg (by decide)]
      exact any_M hB hM (bN B) 0 sc_FU (Nat.zero_add _) (by rw [sa_FU]; omega)
    have hle := cW_le (bW B) (bN B)
    rw [eX, eM, fn_X5_count_27, hM.1, if_pos (nI_le (by omega) (by omega))]
    by_cases hall : cW (bW B) (bN B) = bN B
    · refine ⟨-3, SX, SM, ?_, ?_, hrel⟩
      · rw [hall, if_pos rfl]
      · rw [decide_eq_false (by omega), if_pos (show b2i false = 0 from rfl)]
    · obtain ⟨X1, b1, b2, ⟨b3, b4, b5, b6, b7, b8⟩, ⟨b9, b10, b11, b12, b13⟩, b14⟩ := begin_X (r := r) (s := s) hB (by omega) hX
      have hMa : bM B (sc_mj (sc_mj (sc_mi (sc_mi (sc_mi (sc_mi (sc_mi (sc_mi SM 2 (nI r)) 3 (nI s)) 4 (nI (bN B))) 5 (nI (bP B))) 6 0) 7 0) 1 0) 2 0) := bM_f (fun k hk => by simp -implicitDefEqProofs (disch := omega) only [sa_gi_s, sa_gi_n, sa_gi_j, sa_gi_A, sa_gi_B, sa_gj_s, sa_gj_n, sa_gj_i, sa_gj_A, sa_gj_B, sa_ga_s, sa_ga_n, sa_ga_i, sa_ga_j, sa_ga_B, sa_gb_s, sa_gb_n, sa_gb_i, sa_gb_j, sa_gb_A, sa_us, sa_un, sa_vs, sa_vn]) (fun k hk => by simp -implicitDefEqProofs (disch := omega) only [sa_gi_s, sa_gi_n, sa_gi_j, sa_gi_A, sa_gi_B, sa_gj_s, sa_gj_n, sa_gj_i, sa_gj_A, sa_gj_B, sa_ga_s, sa_ga_n, sa_ga_i, sa_ga_j, sa_ga_B, sa_gb_s, sa_gb_n, sa_gb_i, sa_gb_j, sa_gb_A, sa_us, sa_un, sa_vs, sa_vn]) hM
      obtain ⟨M1, c1, c2, c3, c4, c5, _, c7⟩ := ini_M (x1 := nI r) hB 12 0 sc_FU _ rfl (by decide) hMa
      have hM1 : bM B M1 := bM_f (fun k _ => c2 k) (fun k hk => c4 k (by omega)) hMa
      have hi : iR B r s X1 M1 := by
        refine ⟨⟨b2, hM1⟩, ⟨b3, ?_, b4, ?_, b5, ?_, ?_, b6, ?_⟩, ⟨b7, b8, ?_⟩, ⟨b9, b10, b11, b12, b13, ?_, ?_⟩, fun c hc => (b14 c hc).1, fun c hc => ⟨(b14 c hc).2.2.1, (c7 c (Nat.zero_le _) (by omega)).2.1 hc⟩, fun c hc => ⟨(b14 c hc).2.1, (c7 c (Nat.zero_le _) (by omega)).1⟩, fun c hc => ⟨(b14 c hc).2.2.2, (c7 c (Nat.zero_le _) (by omega)).2.2⟩⟩
        · rw [c2]; simp -implicitDefEqProofs (disch := omega) only [sa_gi_s, sa_gi_n, sa_gi_j, sa_gi_A, sa_gi_B, sa_gj_s, sa_gj_n, sa_gj_i, sa_gj_A, sa_gj_B, sa_ga_s, sa_ga_n, sa_ga_i, sa_ga_j, sa_ga_B, sa_gb_s, sa_gb_n, sa_gb_i, sa_gb_j, sa_gb_A, sa_us, sa_un, sa_vs, sa_vn]
        · rw [c2]; simp -implicitDefEqProofs (disch := omega) only [sa_gi_s, sa_gi_n, sa_gi_j, sa_gi_A, sa_gi_B, sa_gj_s, sa_gj_n, sa_gj_i, sa_gj_A, sa_gj_B, sa_ga_s, sa_ga_n, sa_ga_i, sa_ga_j, sa_ga_B, sa_gb_s, sa_gb_n, sa_gb_i, sa_gb_j, sa_gb_A, sa_us, sa_un, sa_vs, sa_vn]
        · rw [c2]; simp -implicitDefEqProofs (disch := omega) only [sa_gi_s, sa_gi_n, sa_gi_j, sa_gi_A, sa_gi_B, sa_gj_s, sa_gj_n, sa_gj_i, sa_gj_A, sa_gj_B, sa_ga_s, sa_ga_n, sa_ga_i, sa_ga_j, sa_ga_B, sa_gb_s, sa_gb_n, sa_gb_i, sa_gb_j, sa_gb_A, sa_us, sa_un, sa_vs, sa_vn]
        · rw [c2]; simp -implicitDefEqProofs (disch := omega) only [sa_gi_s, sa_gi_n, sa_gi_j, sa_gi_A, sa_gi_B, sa_gj_s, sa_gj_n, sa_gj_i, sa_gj_A, sa_gj_B, sa_ga_s, sa_ga_n, sa_ga_i, sa_ga_j, sa_ga_B, sa_gb_s, sa_gb_n, sa_gb_i, sa_gb_j, sa_gb_A, sa_us, sa_un, sa_vs, sa_vn]
        · rw [c2]; simp -implicitDefEqProofs (disch := omega) only [sa_gi_s, sa_gi_n, sa_gi_j, sa_gi_A, sa_gi_B, sa_gj_s, sa_gj_n, sa_gj_i, sa_gj_A, sa_gj_B, sa_ga_s, sa_ga_n, sa_ga_i, sa_ga_j, sa_ga_B, sa_gb_s, sa_gb_n, sa_gb_i, sa_gb_j, sa_gb_A, sa_us, sa_un, sa_vs, sa_vn]; rfl
        · rw [c2]; simp -implicitDefEqProofs (disch := omega) only [sa_gi_s, sa_gi_n, sa_gi_j, sa_gi_A, sa_gi_B, sa_gj_s, sa_gj_n, sa_gj_i, sa_gj_A, sa_gj_B, sa_ga_s, sa_ga_n, sa_ga_i, sa_ga_j, sa_ga_B, sa_gb_s, sa_gb_n, sa_gb_i, sa_gb_j, sa_gb_A, sa_us, sa_un, sa_vs, sa_vn]; rfl
        · rw [c3]; simp -implicitDefEqProofs (disch := omega) only [sa_gi_s, sa_gi_n, sa_gi_j, sa_gi_A, sa_gi_B, sa_gj_s, sa_gj_n, sa_gj_i, sa_gj_A, sa_gj_B, sa_ga_s, sa_ga_n, sa_ga_i, sa_ga_j, sa_ga_B, sa_gb_s, sa_gb_n, sa_gb_i, sa_gb_j, sa_gb_A, sa_us, sa_un, sa_vs, sa_vn]
        · rw [c3]; simp -implicitDefEqProofs (disch := omega) only [sa_gi_s, sa_gi_n, sa_gi_j, sa_gi_A, sa_gi_B, sa_gj_s, sa_gj_n, sa_gj_i, sa_gj_A, sa_gj_B, sa_ga_s, sa_ga_n, sa_ga_i, sa_ga_j, sa_ga_B, sa_gb_s, sa_gb_n, sa_gb_i, sa_gb_j, sa_gb_A, sa_us, sa_un, sa_vs, sa_vn]
      have hMe : fn_X5_count_27 1 SM (nI r) (nI s) (b2i (decide (cW (bW B) (bN B) < bN B))) (nI (bN B)) = (if (3 : Int32) ≤ nI r then sc_cv (fn_X5_countByKeeps M1) (fun S193 => some (sc_gi S193 6, S193)) else sc_cv (fn_X5_countByPiles M1) (fun S186 => some (sc_gi S186 6, S186))) := by
        rw [fn_X5_count_27, hM.1, if_pos (nI_le (by omega) (by omega)), decide_eq_true (by omega), if_neg (show ¬ b2i true = 0 by decide)]
        simp -implicitDefEqProofs (disch := omega) only [sa_sq, sa_gi_s, sa_gi_n, sa_gi_j, sa_gi_A, sa_gi_B, sa_gj_s, sa_gj_n, sa_gj_i, sa_gj_A, sa_gj_B, sa_ga_s, sa_ga_n, sa_ga_i, sa_ga_j, sa_ga_B, sa_gb_s, sa_gb_n, sa_gb_i, sa_gb_j, sa_gb_A, sa_us, sa_un, sa_vs, sa_vn, hM.1, hM.2.1]
        exact c1
      rw [fn_X5_count_27, hM.1, if_pos (nI_le (by omega) (by omega))] at hMe
      rw [hMe, if_neg (by rw [nI_eq (by omega) (by omega)]; exact hall), b1, sa_cv]
      by_cases hr3 : r = 3
      · obtain ⟨X2, M2, d1, d2, d3⟩ := keep_all hB hs1 hs (by rw [hr3] at hi; exact hi)
        obtain ⟨st, f1, f2, f3⟩ := fin_rel hB (by omega) d3
        refine ⟨nI st, _, M2, ?_, ?_, f3⟩
        · rw [if_pos (by rw [hr3]; rfl), d1, sa_cv, f1]
        · rw [if_pos (by rw [hr3]; decide), d2, sa_cv, f2]
      · obtain ⟨X2, M2, d1, d2, d3⟩ := paper_all hB (by omega) hs1 hs hi
        obtain ⟨st, f1, f2, f3⟩ := fin_rel hB (by omega) d3
        refine ⟨nI st, _, M2, ?_, ?_, f3⟩
        · rw [if_neg (by rw [sa_l3, nI_eq (by omega) (by omega)]; exact hr3), d1, sa_cv, f1]
        · rw [if_neg (by rw [sa_l3, nI_leI (by omega) (by omega)]; omega), d2, sa_cv, f2]
  · refine ⟨-2, SX, SM, ?_, ?_, hrel⟩
    · rw [fn_X4_count, if_neg ha1, if_neg ha2, if_neg hb1, if_neg hb2]
    · rw [fn_X5_count, pi_in (Int32.not_lt.mp ha1) (Int32.not_lt.mp ha2), sa_cl, if_neg (by decide), pi_out (Or.inr (Int32.not_le.mp hb2))]; rfl
