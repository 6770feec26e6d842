/-! ===== rule 3: share and spread in step ===== -/
def kR (B : bT) (t : Nat) (kp : Nat → Nat) (SX SM : sc_M) : Prop := ∀ c, c < bN B → (bW B c = 0 → kp c ≤ 1000000 ∧ sc_ga SX 21 (12 * t + c) = nI (kp c) ∧ sc_gb SM 23 c = lN (kp c)) ∧ (bW B c ≠ 0 → sc_ga SX 21 (12 * t + c) = nI 0)
def qR (B : bT) (t : Nat) (kp v : Nat → Nat) (SX SM : sc_M) : Prop := (bX B SX ∧ bM B SM) ∧ sc_gi SX 6 = nI (12 * t) ∧ (∀ c, c < bN B → sc_gb SX 19 (12 * t + c) = lN (v c) ∧ sc_gb SM 21 c = lN (v c)) ∧ kR B t kp SX SM
def qFr (t : Nat) (SX SM SX' SM' : sc_M) : Prop := ((∀ k, sc_gi SX' k = sc_gi SX k) ∧ (∀ k, sc_ga SX' k = sc_ga SX k) ∧ (∀ k, k ≠ 19 → sc_gb SX' k = sc_gb SX k) ∧ (∀ j, j < 12 * t → sc_gb SX' 19 j = sc_gb SX 19 j)) ∧ ((∀ k, sc_gi SM' k = sc_gi SM k) ∧ (∀ k, k ≠ 1 → sc_gj SM' k = sc_gj SM k) ∧ (∀ k, sc_ga SM' k = sc_ga SM k) ∧ (∀ k, k ≠ 21 → sc_gb SM' k = sc_gb SM k))
theorem qFr_rfl (t : Nat) (SX SM : sc_M) : qFr t SX SM SX SM := ⟨⟨fun _ => rfl, fun _ => rfl, fun _ _ => rfl, fun _ _ => rfl⟩, fun _ => rfl, fun _ _ => rfl, fun _ => rfl, fun _ _ => rfl⟩
theorem qFr_trans {t : Nat} {X M X1 M1 X2 M2 : sc_M} (a : qFr t X M X1 M1) (b : qFr t X1 M1 X2 M2) : qFr t X M X2 M2 := by
  obtain ⟨⟨a1, a2, a3, a4⟩, a5, a6, a7, a8⟩ := a
  obtain ⟨⟨b1, b2, b3, b4⟩, b5, b6, b7, b8⟩ := b
  exact ⟨⟨fun k => (b1 k).trans (a1 k), fun k => (b2 k).trans (a2 k), fun k h => (b3 k h).trans (a3 k h), fun j h => (b4 j h).trans (a4 j h)⟩, fun k => (b5 k).trans (a5 k), fun k h => (b6 k h).trans (a6 k h), fun k => (b7 k).trans (a7 k), fun k h => (b8 k h).trans (a8 k h)⟩
/-- one gets y more, on both sides -/
theorem qR_v {B : bT} {t c0 y : Nat} {kp v : Nat → Nat} {SX SM : sc_M} (h : qR B t kp v SX SM) : qR B t kp (uN v c0 y) (sc_mB SX 19 (vp_updL (sc_gb SX 19) (12 * t + c0) (lN y))) (sc_mB SM 21 (vp_updL (sc_gb SM 21) c0 (lN y))) ∧ qFr t SX SM (sc_mB SX 19 (vp_updL (sc_gb SX 19) (12 * t + c0) (lN y))) (sc_mB SM 21 (vp_updL (sc_gb SM 21) c0 (lN y))) := by
  obtain ⟨⟨hX, hM⟩, e6, hv, hk⟩ := h
  refine ⟨⟨⟨?_, ?_⟩, e6, fun c hc => ?_, fun c hc => ?_⟩, ⟨fun k => ?_, fun k => ?_, fun k k1 => ?_, fun j hj => ?_⟩, fun k => ?_, fun k k1 => ?_, fun k => ?_, fun k k1 => ?_⟩
  · exact bX_f (fun k hk => by simp -implicitDefEqProofs (disch := omega) only [sa_gi_s, sa_gi_n, sa_gi_j, sa_gi_A, sa_gi_B, sa_gj_s, sa_gj_n, sa_gj_i, sa_gj_A, sa_gj_B, sa_ga_s, sa_ga_n, sa_ga_i, sa_ga_j, sa_ga_B, sa_gb_s, sa_gb_n, sa_gb_i, sa_gb_j, sa_gb_A, sa_us, sa_un, sa_vs, sa_vn]) (fun k hk => by simp -implicitDefEqProofs (disch := omega) only [sa_gi_s, sa_gi_n, sa_gi_j, sa_gi_A, sa_gi_B, sa_gj_s, sa_gj_n, sa_gj_i, sa_gj_A, sa_gj_B, sa_ga_s, sa_ga_n, sa_ga_i, sa_ga_j, sa_ga_B, sa_gb_s, sa_gb_n, sa_gb_i, sa_gb_j, sa_gb_A, sa_us, sa_un, sa_vs, sa_vn]) hX
  · exact bM_f (fun k hk => by simp -implicitDefEqProofs (disch := omega) only [sa_gi_s, sa_gi_n, sa_gi_j, sa_gi_A, sa_gi_B, sa_gj_s, sa_gj_n, sa_gj_i, sa_gj_A, sa_gj_B, sa_ga_s, sa_ga_n, sa_ga_i, sa_ga_j, sa_ga_B, sa_gb_s, sa_gb_n, sa_gb_i, sa_gb_j, sa_gb_A, sa_us, sa_un, sa_vs, sa_vn]) (fun k hk => by simp -implicitDefEqProofs (disch := omega) only [sa_gi_s, sa_gi_n, sa_gi_j, sa_gi_A, sa_gi_B, sa_gj_s, sa_gj_n, sa_gj_i, sa_gj_A, sa_gj_B, sa_ga_s, sa_ga_n, sa_ga_i, sa_ga_j, sa_ga_B, sa_gb_s, sa_gb_n, sa_gb_i, sa_gb_j, sa_gb_A, sa_us, sa_un, sa_vs, sa_vn]) hM
  · by_cases hcc : c = c0
    · rw [hcc, uN_s]; simp -implicitDefEqProofs (disch := omega) only [sa_gi_s, sa_gi_n, sa_gi_j, sa_gi_A, sa_gi_B, sa_gj_s, sa_gj_n, sa_gj_i, sa_gj_A, sa_gj_B, sa_ga_s, sa_ga_n, sa_ga_i, sa_ga_j, sa_ga_B, sa_gb_s, sa_gb_n, sa_gb_i, sa_gb_j, sa_gb_A, sa_us, sa_un, sa_vs, sa_vn]; exact ⟨trivial, trivial⟩
    · rw [uN_n _ _ _ _ hcc]; simp -implicitDefEqProofs (disch := omega) only [sa_gi_s, sa_gi_n, sa_gi_j, sa_gi_A, sa_gi_B, sa_gj_s, sa_gj_n, sa_gj_i, sa_gj_A, sa_gj_B, sa_ga_s, sa_ga_n, sa_ga_i, sa_ga_j, sa_ga_B, sa_gb_s, sa_gb_n, sa_gb_i, sa_gb_j, sa_gb_A, sa_us, sa_un, sa_vs, sa_vn]; exact hv c hc
  · simp -implicitDefEqProofs (disch := omega) only [sa_gi_s, sa_gi_n, sa_gi_j, sa_gi_A, sa_gi_B, sa_gj_s, sa_gj_n, sa_gj_i, sa_gj_A, sa_gj_B, sa_ga_s, sa_ga_n, sa_ga_i, sa_ga_j, sa_ga_B, sa_gb_s, sa_gb_n, sa_gb_i, sa_gb_j, sa_gb_A, sa_us, sa_un, sa_vs, sa_vn]; exact hk c hc
  all_goals simp -implicitDefEqProofs (disch := omega) only [sa_gi_s, sa_gi_n, sa_gi_j, sa_gi_A, sa_gi_B, sa_gj_s, sa_gj_n, sa_gj_i, sa_gj_A, sa_gj_B, sa_ga_s, sa_ga_n, sa_ga_i, sa_ga_j, sa_ga_B, sa_gb_s, sa_gb_n, sa_gb_i, sa_gb_j, sa_gb_A, sa_us, sa_un, sa_vs, sa_vn]
/-- the class writes what was there -/
theorem qR_s {B : bT} {t c0 : Nat} {kp v : Nat → Nat} {SX SM : sc_M} (hc0 : c0 < bN B) (h : qR B t kp v SX SM) : qR B t kp v (sc_mB SX 19 (vp_updL (sc_gb SX 19) (12 * t + c0) (lN (v c0)))) SM ∧ qFr t SX SM (sc_mB SX 19 (vp_updL (sc_gb SX 19) (12 * t + c0) (lN (v c0)))) SM := by
  obtain ⟨⟨hX, hM⟩, e6, hv, hk⟩ := h
  refine ⟨⟨⟨?_, hM⟩, e6, fun c hc => ?_, fun c hc => ?_⟩, ⟨fun k => ?_, fun k => ?_, fun k k1 => ?_, fun j hj => ?_⟩, fun k => rfl, fun k k1 => rfl, fun k => rfl, fun k k1 => rfl⟩
  · exact bX_f (fun k hk => by simp -implicitDefEqProofs (disch := omega) only [sa_gi_s, sa_gi_n, sa_gi_j, sa_gi_A, sa_gi_B, sa_gj_s, sa_gj_n, sa_gj_i, sa_gj_A, sa_gj_B, sa_ga_s, sa_ga_n, sa_ga_i, sa_ga_j, sa_ga_B, sa_gb_s, sa_gb_n, sa_gb_i, sa_gb_j, sa_gb_A, sa_us, sa_un, sa_vs, sa_vn]) (fun k hk => by simp -implicitDefEqProofs (disch := omega) only [sa_gi_s, sa_gi_n, sa_gi_j, sa_gi_A, sa_gi_B, sa_gj_s, sa_gj_n, sa_gj_i, sa_gj_A, sa_gj_B, sa_ga_s, sa_ga_n, sa_ga_i, sa_ga_j, sa_ga_B, sa_gb_s, sa_gb_n, sa_gb_i, sa_gb_j, sa_gb_A, sa_us, sa_un, sa_vs, sa_vn]) hX
  · by_cases hcc : c = c0
    · rw [hcc]; simp -implicitDefEqProofs (disch := omega) only [sa_gi_s, sa_gi_n, sa_gi_j, sa_gi_A, sa_gi_B, sa_gj_s, sa_gj_n, sa_gj_i, sa_gj_A, sa_gj_B, sa_ga_s, sa_ga_n, sa_ga_i, sa_ga_j, sa_ga_B, sa_gb_s, sa_gb_n, sa_gb_i, sa_gb_j, sa_gb_A, sa_us, sa_un, sa_vs, sa_vn]; exact ⟨trivial, (hv c0 hc0).2⟩
    · simp -implicitDefEqProofs (disch := omega) only [sa_gi_s, sa_gi_n, sa_gi_j, sa_gi_A, sa_gi_B, sa_gj_s, sa_gj_n, sa_gj_i, sa_gj_A, sa_gj_B, sa_ga_s, sa_ga_n, sa_ga_i, sa_ga_j, sa_ga_B, sa_gb_s, sa_gb_n, sa_gb_i, sa_gb_j, sa_gb_A, sa_us, sa_un, sa_vs, sa_vn]; exact hv c hc
  · simp -implicitDefEqProofs (disch := omega) only [sa_gi_s, sa_gi_n, sa_gi_j, sa_gi_A, sa_gi_B, sa_gj_s, sa_gj_n, sa_gj_i, sa_gj_A, sa_gj_B, sa_ga_s, sa_ga_n, sa_ga_i, sa_ga_j, sa_ga_B, sa_gb_s, sa_gb_n, sa_gb_i, sa_gb_j, sa_gb_A, sa_us, sa_un, sa_vs, sa_vn]; exact hk c hc
  all_goals simp -implicitDefEqProofs (disch := omega) only [sa_gi_s, sa_gi_n, sa_gi_j, sa_gi_A, sa_gi_B, sa_gj_s, sa_gj_n, sa_gj_i, sa_gj_A, sa_gj_B, sa_ga_s, sa_ga_n, sa_ga_i, sa_ga_j, sa_ga_B, sa_gb_s, sa_gb_n, sa_gb_i, sa_gb_j, sa_gb_A, sa_us, sa_un, sa_vs, sa_vn]
theorem sh_in {B : bT} {t p : Nat} {kp : Nat → Nat} {k30 : sc_M → Int32 → Option sc_M} (hB : bOK B) (ht : t < 72) (hp : p < bP B) : ∀ (d k fX fM rest m : Nat) (v : Nat → Nat) (SX SM : sc_M), k + d = bE B p → d < fX → d < fM → rest ≤ 1000000 → (∀ c, c < bN B → v c ≤ 500000000 * m) → qR B t kp v SX SM →
    ∃ (rest' : Nat) (v' : Nat → Nat) (SX' SM' : sc_M), fn_X2_sharePapers_7 fX SX (nI p) (lN rest) (nI k) = some (lN rest', SX') ∧ fn_X5_spread_53 k30 fM SM (nI p) (lN rest) (nI k) = k30 (sc_mj SM' 1 (sc_gj SM' 1 + lN (bQ B p * rest'))) (nI (p + 1)) ∧ (∀ c, c < bN B → v' c ≤ 500000000 * (m + d)) ∧ qR B t kp v' SX' SM' ∧ qFr t SX SM SX' SM' ∧ sc_gj SM' 1 = sc_gj SM 1 := by
  have hn := hB.1.2.1
  have hnp := hB.1.2.2
  obtain ⟨⟨_, hQ⟩, ⟨hE1, hE2⟩, hF, _⟩ := hB.2.2 p hp
  intro d
  induction d with
  | zero =>
    intro k fX fM rest m v SX SM hk hfX hfM hrest hv h
    obtain ⟨fX, rfl⟩ : ∃ f', fX = f' + 1 := ⟨fX - 1, by omega⟩
    obtain ⟨fM, rfl⟩ : ∃ f', fM = f' + 1 := ⟨fM - 1, by omega⟩
    obtain ⟨x6, x7, x8, -⟩ := h.1.1.2.2.2.2 p hp
    obtain ⟨y3, y4, y5⟩ := h.1.2.2.2.2.2 p hp
    refine ⟨rest, v, SX, SM, ?_, ?_, hv, h, qFr_rfl _ _ _, rfl⟩
    · rw [fn_X2_sharePapers_7, sa_ck _ (by omega) (by omega), sa_cl9 (by omega), x7, if_pos (nI_le (by omega) (by omega))]
    · rw [fn_X5_spread_53, sa_ck _ (by omega) (by omega), sa_cl9 (by omega), y4, if_pos (nI_le (by omega) (by omega)), sa_ck _ (by omega) (by omega), sa_sq, y3, nI_l (by omega), lN_mul, nI_1, Nat.mul_comm]
  | succ d ih =>
    intro k fX fM rest m v SX SM hk hfX hfM hrest hv h
    obtain ⟨fX, rfl⟩ : ∃ f', fX = f' + 1 := ⟨fX - 1, by omega⟩
    obtain ⟨fM, rfl⟩ : ∃ f', fM = f' + 1 := ⟨fM - 1, by omega⟩
    obtain ⟨x6, x7, x8, -⟩ := h.1.1.2.2.2.2 p hp
    obtain ⟨y3, y4, y5⟩ := h.1.2.2.2.2.2 p hp
    have hFk := hF k (by omega)
    have hc := h.2.2.1 (bF B p k) hFk
    have hkk := h.2.2.2 (bF B p k) hFk
    have hW := h.1.2.2.2.1 (bF B p k) (by omega)
    have hvF := hv (bF B p k) hFk
    have eX : fn_X2_sharePapers_7 (fX + 1) SX (nI p) (lN rest) (nI k) = sc_nl (1000000 : Int64) (fn_X2_sharePapers_7 fX (sc_mB SX 19 (vp_updL (sc_gb SX 19) (12 * t + bF B p k) (lN (v (bF B p k)) + lN (bQ B p) * (lN rest * (sc_ga SX 21 (12 * t + bF B p k)).toInt64 / (1000000 : Int64))))) (nI p) (lN rest - lN rest * (sc_ga SX 21 (12 * t + bF B p k)).toInt64 / (1000000 : Int64)) (nI (k + 1))) := by
      rw [fn_X2_sharePapers_7, sa_ck _ (by omega) (by omega), sa_cl9 (by omega), x7, if_neg (nI_ge (by omega) (by omega)), sa_12x, sa_ck _ (by omega) (by omega), sa_cl9 (by omega), x8 k (by omega), h.2.1, nI_add, sa_sq]
      simp -implicitDefEqProofs (disch := omega) only [sa_ck, sa_sq, sa_cl9, hc.1, x6, nI_l, nI_1]
    have eM : fn_X5_spread_53 k30 (fM + 1) SM (nI p) (lN rest) (nI k) = if bW B (bF B p k) = 0 then sc_nl (1000000 : Int64) (fn_X5_spread_53 k30 fM (sc_mB SM 21 (vp_updL (sc_gb SM 21) (bF B p k) (lN (v (bF B p k)) + (lN rest * sc_gb SM 23 (bF B p k) / (1000000 : Int64)) * lN (bQ B p)))) (nI p) (lN rest - lN rest * sc_gb SM 23 (bF B p k) / (1000000 : Int64)) (nI (k + 1))) else fn_X5_spread_53 k30 fM SM (nI p) (lN rest) (nI (k + 1)) := by
      rw [fn_X5_spread_53, sa_ck _ (by omega) (by omega), sa_cl9 (by omega), y4, if_neg (nI_ge (by omega) (by omega)), sa_12m, sa_ck _ (by omega) (by omega), sa_cl9 (by omega), y5 k (by omega), sa_sq]
      simp -implicitDefEqProofs (disch := omega) only [sa_ck, sa_sq, sa_cl9, hW, hc.2, y3, nI_l, nI_1]
    rw [eX, eM]
    by_cases h0 : bW B (bF B p k) = 0
    · obtain ⟨q1, q2, q3⟩ := hkk.1 h0
      have hpart : rest * kp (bF B p k) / 1000000 ≤ rest := by
        refine Nat.div_le_of_le_mul ?_
        rw [Nat.mul_comm]
        exact Nat.mul_le_mul q1 (Nat.le_refl _)
      have hmul : rest * kp (bF B p k) ≤ 1000000 * 1000000 := Nat.mul_le_mul hrest q1
      have hadd : bQ B p * (rest * kp (bF B p k) / 1000000) ≤ 500 * 1000000 := Nat.mul_le_mul hQ (by omega)
      obtain ⟨w1, w2⟩ := qR_v (c0 := bF B p k) (y := v (bF B p k) + bQ B p * (rest * kp (bF B p k) / 1000000)) h
      obtain ⟨rest', v', SX', SM', r1, r2, r3, r4, r5, r6⟩ := ih (k + 1) fX fM (rest - rest * kp (bF B p k) / 1000000) (m + 1) _ _ _ (by omega) (by omega) (by omega) (by omega) (fun c hcc => by
        by_cases e : c = bF B p k
        · rw [e, uN_s]; omega
        · rw [uN_n _ _ _ _ e]; have := hv c hcc; omega) w1
      refine ⟨rest', v', SX', SM', ?_, ?_, fun c hcc => by have := r3 c hcc; omega, r4, qFr_trans w2 r5, r6⟩
      · rw [q2, nI_l (by omega), lN_mul, show (1000000 : Int64) = lN 1000000 from rfl, pk_lDiv (by omega) (by omega) (by omega), sa_nlN _ (by omega) (by omega), lN_mul, lN_add, lN_sub hpart]
        exact r1
      · rw [if_pos h0, q3, lN_mul, show (1000000 : Int64) = lN 1000000 from rfl, pk_lDiv (by omega) (by omega) (by omega), sa_nlN _ (by omega) (by omega), lN_mul, Nat.mul_comm (rest * kp (bF B p k) / 1000000), lN_add, lN_sub hpart]
        exact r2
    · have q2 := hkk.2 h0
      obtain ⟨w1, w2⟩ := qR_s hFk h
      obtain ⟨rest', v', SX', SM', r1, r2, r3, r4, r5, r6⟩ := ih (k + 1) fX fM rest (m + 1) v _ SM (by omega) (by omega) (by omega) hrest (fun c hcc => by have := hv c hcc; omega) w1
      refine ⟨rest', v', SX', SM', ?_, ?_, fun c hcc => by have := r3 c hcc; omega, r4, qFr_trans w2 r5, r6⟩
      · rw [q2, nI_l (by omega), lN_mul, show (1000000 : Int64) = lN 1000000 from rfl, Nat.mul_zero, pk_lDiv (by omega) (by omega) (by omega), sa_nlN _ (by omega) (by omega), Nat.zero_div, lN_mul, Nat.mul_zero, lN_add, Nat.add_zero, lN_sub (Nat.zero_le _), Nat.sub_zero]
        exact r1
      · rw [if_neg h0]
        exact r2
theorem qR_i {B : bT} {t : Nat} {y : Int64} {kp v : Nat → Nat} {SX SM : sc_M} (h : qR B t kp v SX SM) : qR B t kp v SX (sc_mj SM 1 y) ∧ qFr t SX SM SX (sc_mj SM 1 y) := by
  obtain ⟨⟨hX, hM⟩, e6, hv, hk⟩ := h
  refine ⟨⟨⟨hX, ?_⟩, e6, hv, hk⟩, ⟨fun k => rfl, fun k => rfl, fun k k1 => rfl, fun j hj => rfl⟩, fun k => rfl, fun k k1 => ?_, fun k => rfl, fun k k1 => rfl⟩
  · exact bM_f (fun k hk => by simp -implicitDefEqProofs (disch := omega) only [sa_gi_s, sa_gi_n, sa_gi_j, sa_gi_A, sa_gi_B, sa_gj_s, sa_gj_n, sa_gj_i, sa_gj_A, sa_gj_B, sa_ga_s, sa_ga_n, sa_ga_i, sa_ga_j, sa_ga_B, sa_gb_s, sa_gb_n, sa_gb_i, sa_gb_j, sa_gb_A, sa_us, sa_un, sa_vs, sa_vn]) (fun k hk => by simp -implicitDefEqProofs (disch := omega) only [sa_gi_s, sa_gi_n, sa_gi_j, sa_gi_A, sa_gi_B, sa_gj_s, sa_gj_n, sa_gj_i, sa_gj_A, sa_gj_B, sa_ga_s, sa_ga_n, sa_ga_i, sa_ga_j, sa_ga_B, sa_gb_s, sa_gb_n, sa_gb_i, sa_gb_j, sa_gb_A, sa_us, sa_un, sa_vs, sa_vn]) hM
  · simp -implicitDefEqProofs (disch := omega) only [sa_gi_s, sa_gi_n, sa_gi_j, sa_gi_A, sa_gi_B, sa_gj_s, sa_gj_n, sa_gj_i, sa_gj_A, sa_gj_B, sa_ga_s, sa_ga_n, sa_ga_i, sa_ga_j, sa_ga_B, sa_gb_s, sa_gb_n, sa_gb_i, sa_gb_j, sa_gb_A, sa_us, sa_un, sa_vs, sa_vn]
theorem sh_out {B : bT} {t : Nat} {kp : Nat → Nat} (hB : bOK B) (ht : t < 72) : ∀ (d x fX fM : Nat) (R : Int64) (v : Nat → Nat) (SX SM : sc_M), x + d = bP B → d < fX → d < fM → (∀ c, c < bN B → v c ≤ 500000000 * (12 * x)) → qR B t kp v SX SM → sc_gj SM 1 = R →
    ∃ (v' : Nat → Nat) (SX' SM' : sc_M), fn_X2_share_33 fX SX R (nI x) = sc_cl (fn_X1_now SX') (fun r81 S81 => sc_ck r81 72 (sc_sq (sc_mB S81 15 (vp_updL (sc_gb S81 15) r81.toNatClampNeg (sc_gj SM' 1))) (fun S85 => fn_X2_share_92 sc_FU S85 (0 : Int64) (0 : Int32)))) ∧ fn_X5_spread_30 fM SM (nI x) = fn_X5_spread_162 sc_FU SM' (0 : Int64) (0 : Int32) ∧ (∀ c, c < bN B → v' c ≤ 480000000000) ∧ qR B t kp v' SX' SM' ∧ qFr t SX SM SX' SM' := by
  have hn := hB.1.2.1
  have hnp := hB.1.2.2
  intro d
  induction d with
  | zero =>
    intro x fX fM R v SX SM hx hfX hfM hv h hR
    obtain ⟨fX, rfl⟩ : ∃ f', fX = f' + 1 := ⟨fX - 1, by omega⟩
    obtain ⟨fM, rfl⟩ : ∃ f', fM = f' + 1 := ⟨fM - 1, by omega⟩
    refine ⟨v, SX, SM, ?_, ?_, fun c hc => by have := hv c hc; omega, h, qFr_rfl _ _ _⟩
    · rw [fn_X2_share_33, h.1.1.2.1, if_pos (nI_le (by omega) (by omega)), hR]
    · rw [fn_X5_spread_30, h.1.2.2.1, if_pos (nI_le (by omega) (by omega))]
  | succ d ih =>
    intro x fX fM R v SX SM hx hfX hfM hv h hR
    obtain ⟨fX, rfl⟩ : ∃ f', fX = f' + 1 := ⟨fX - 1, by omega⟩
    obtain ⟨fM, rfl⟩ : ∃ f', fM = f' + 1 := ⟨fM - 1, by omega⟩
    have hxp : x < bP B := by omega
    have hQ := (hB.2.2 x hxp).1.2
    have hE := (hB.2.2 x hxp).2.1.2
    rw [fn_X2_share_33, h.1.1.2.1, if_neg (nI_ge (by omega) (by omega)), iv_Xr hB h.1.1 hxp, sa_cl, fn_X5_spread_30, h.1.2.2.1, if_neg (nI_ge (by omega) (by omega)), iv_Mr hB h.1.2 hxp, sa_cl, nI_1]
    by_cases hval : vB B x = true
    · rw [hval, if_neg (show ¬ b2i true = 0 by decide), if_neg (show ¬ b2i true = 0 by decide)]
      obtain ⟨rest', v1, X1, M1, r1, r2, r3, r4, r5, r6⟩ := sh_in (k30 := fn_X5_spread_30 fM) hB ht hxp (bE B x) 0 sc_FU sc_FU 1000000 (12 * x) v SX SM (Nat.zero_add _) (by rw [sa_FU]; omega) (by rw [sa_FU]; omega) (Nat.le_refl _) hv h
      obtain ⟨w1, w2⟩ := qR_i (y := sc_gj M1 1 + lN (bQ B x * rest')) r4
      obtain ⟨v', SX', SM', z1, z2, z3, z4, z5⟩ := ih (x + 1) fX fM (R + lN (bQ B x * rest')) v1 X1 _ (by omega) (by omega) (by omega) (fun c hc => by have := r3 c hc; omega) w1 (by rw [sa_gj_s, r6, hR])
      refine ⟨v', SX', SM', ?_, ?_, z3, z4, qFr_trans (qFr_trans r5 w2) z5⟩
      · rw [sa_ck _ (by omega) (by omega), fn_X2_sharePapers, show (1000000 : Int64) = lN 1000000 from rfl, sa_l0, r1, sa_cl, sa_sq, sa_cl9 (by omega), (h.1.1.2.2.2.2 x hxp).1, nI_l (by omega), lN_mul]
        exact z1
      · refine Eq.trans ?_ (r2.trans z2)
        rfl
    · have hval' : vB B x = false := by simpa using hval
      rw [hval', if_pos (show b2i false = 0 from rfl), if_pos (show b2i false = 0 from rfl)]
      exact ih (x + 1) fX fM R v SX SM (by omega) (by omega) (by omega) (fun c hc => by have := hv c hc; omega) h hR
