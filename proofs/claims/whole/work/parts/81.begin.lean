/-! ===== a count begins ===== -/
def uI (B : bT) (c : Nat) : Int32 := if bW B c = 0 then 0 else 3
def kI (B : bT) (c : Nat) : Int32 := if bW B c = 0 then 1000000 else 0
theorem beg_X {B : bT} (hB : bOK B) : ∀ (d x f : Nat) (S : sc_M), x + d = bN B → d < f → bX B S → sc_gi S 4 = nI (bN B) →
    ∃ S', fn_X1_begin_81 f S (nI x) = some S' ∧ (∀ k, sc_gi S' k = sc_gi S k) ∧ (∀ k, k ≠ 11 → k ≠ 20 → k ≠ 21 → sc_ga S' k = sc_ga S k) ∧ (∀ k, k ≠ 19 → sc_gb S' k = sc_gb S k) ∧ (∀ c, c < x → sc_ga S' 11 c = sc_ga S 11 c ∧ sc_gb S' 19 c = sc_gb S 19 c ∧ sc_ga S' 20 c = sc_ga S 20 c ∧ sc_ga S' 21 c = sc_ga S 21 c) ∧ (∀ c, x ≤ c → c < bN B → sc_ga S' 11 c = bL B c ∧ sc_gb S' 19 c = 0 ∧ sc_ga S' 20 c = uI B c ∧ sc_ga S' 21 c = kI B c) := by
  have hn := hB.1.2.1
  intro d
  induction d with
  | zero =>
    intro x f S hx hf hX e4
    obtain ⟨f, rfl⟩ : ∃ f', f = f' + 1 := ⟨f - 1, by omega⟩
    refine ⟨S, ?_, fun _ => rfl, fun _ _ _ _ => rfl, fun _ _ => rfl, fun _ _ => ⟨rfl, rfl, rfl, rfl⟩, fun c h1 h2 => by omega⟩
    rw [fn_X1_begin_81, e4, if_pos (nI_le (by omega) (by omega))]
  | succ d ih =>
    intro x f S hx hf hX e4
    obtain ⟨f, rfl⟩ : ∃ f', f = f' + 1 := ⟨f - 1, by omega⟩
    have hW := hX.2.2.1 x (by omega)
    have hL := hX.2.2.2.1 x (by omega)
    obtain ⟨S', h1, h2, h3, h4, h5, h6⟩ := ih (x + 1) f (sc_mA (sc_mA (sc_mB (sc_mA S 11 (upd (sc_ga S 11) x (bL B x))) 19 (vp_updL (sc_gb S 19) x 0)) 20 (upd (sc_ga S 20) x (uI B x))) 21 (upd (sc_ga S 21) x (kI B x))) (by omega) (by omega) (bX_f (fun k hk => by simp -implicitDefEqProofs (disch := omega) only [sa_gi_s, sa_gi_n, sa_gi_j, sa_gi_A, sa_gi_B, sa_gj_s, sa_gj_n, sa_gj_i, sa_gj_A, sa_gj_B, sa_ga_s, sa_ga_n, sa_ga_i, sa_ga_j, sa_ga_B, sa_gb_s, sa_gb_n, sa_gb_i, sa_gb_j, sa_gb_A, sa_us, sa_un, sa_vs, sa_vn]) (fun k hk => by simp -implicitDefEqProofs (disch := omega) only [sa_gi_s, sa_gi_n, sa_gi_j, sa_gi_A, sa_gi_B, sa_gj_s, sa_gj_n, sa_gj_i, sa_gj_A, sa_gj_B, sa_ga_s, sa_ga_n, sa_ga_i, sa_ga_j, sa_ga_B, sa_gb_s, sa_gb_n, sa_gb_i, sa_gb_j, sa_gb_A, sa_us, sa_un, sa_vs, sa_vn]) hX) e4
    refine ⟨S', ?_, h2, fun k k1 k2 k3 => ?_, fun k k1 => ?_, fun c hc => ?_, fun c c1 c2 => ?_⟩
    · rw [fn_X1_begin_81, e4, if_neg (nI_ge (by omega) (by omega))]
      simp -implicitDefEqProofs (disch := omega) only [sa_ck, sa_sq, sa_cl9, hW, hL, fn_X1_begin_137, sa_gi_s, sa_gi_n, sa_gi_j, sa_gi_A, sa_gi_B, sa_gj_s, sa_gj_n, sa_gj_i, sa_gj_A, sa_gj_B, sa_ga_s, sa_ga_n, sa_ga_i, sa_ga_j, sa_ga_B, sa_gb_s, sa_gb_n, sa_gb_i, sa_gb_j, sa_gb_A, sa_us, sa_un, sa_vs, sa_vn, nI_1]
      rw [← h1, uI, kI]
      by_cases h0 : bW B x = 0
      · rw [if_pos h0, if_pos h0, if_pos h0, if_pos h0]
      · rw [if_neg h0, if_neg h0, if_neg h0, if_neg h0]
    · rw [h3 k k1 k2 k3]; simp -implicitDefEqProofs (disch := omega) only [sa_gi_s, sa_gi_n, sa_gi_j, sa_gi_A, sa_gi_B, sa_gj_s, sa_gj_n, sa_gj_i, sa_gj_A, sa_gj_B, sa_ga_s, sa_ga_n, sa_ga_i, sa_ga_j, sa_ga_B, sa_gb_s, sa_gb_n, sa_gb_i, sa_gb_j, sa_gb_A, sa_us, sa_un, sa_vs, sa_vn]
    · rw [h4 k k1]; simp -implicitDefEqProofs (disch := omega) only [sa_gi_s, sa_gi_n, sa_gi_j, sa_gi_A, sa_gi_B, sa_gj_s, sa_gj_n, sa_gj_i, sa_gj_A, sa_gj_B, sa_ga_s, sa_ga_n, sa_ga_i, sa_ga_j, sa_ga_B, sa_gb_s, sa_gb_n, sa_gb_i, sa_gb_j, sa_gb_A, sa_us, sa_un, sa_vs, sa_vn]
    · obtain ⟨q1, q2, q3, q4⟩ := h5 c (by omega)
      rw [q1, q2, q3, q4]; simp -implicitDefEqProofs (disch := omega) only [sa_gi_s, sa_gi_n, sa_gi_j, sa_gi_A, sa_gi_B, sa_gj_s, sa_gj_n, sa_gj_i, sa_gj_A, sa_gj_B, sa_ga_s, sa_ga_n, sa_ga_i, sa_ga_j, sa_ga_B, sa_gb_s, sa_gb_n, sa_gb_i, sa_gb_j, sa_gb_A, sa_us, sa_un, sa_vs, sa_vn]; exact ⟨trivial, trivial, trivial, trivial⟩
    · by_cases hcx : c = x
      · obtain ⟨q1, q2, q3, q4⟩ := h5 c (by omega)
        rw [q1, q2, q3, q4, hcx]; simp -implicitDefEqProofs (disch := omega) only [sa_gi_s, sa_gi_n, sa_gi_j, sa_gi_A, sa_gi_B, sa_gj_s, sa_gj_n, sa_gj_i, sa_gj_A, sa_gj_B, sa_ga_s, sa_ga_n, sa_ga_i, sa_ga_j, sa_ga_B, sa_gb_s, sa_gb_n, sa_gb_i, sa_gb_j, sa_gb_A, sa_us, sa_un, sa_vs, sa_vn]; exact ⟨trivial, trivial, trivial, trivial⟩
      · exact h6 c (by omega) c2
theorem ini_M {B : bT} {x1 : Int32} (hB : bOK B) : ∀ (d x f : Nat) (S : sc_M), x + d = 12 → d < f → bM B S →
    ∃ S', fn_X5_count_118 f S x1 (nI x) = (if (3 : Int32) ≤ x1 then sc_cv (fn_X5_countByKeeps S') (fun S193 => some (sc_gi S193 6, S193)) else sc_cv (fn_X5_countByPiles S') (fun S186 => some (sc_gi S186 6, S186))) ∧ (∀ k, sc_gi S' k = sc_gi S k) ∧ (∀ k, sc_gj S' k = sc_gj S k) ∧ (∀ k, k ≠ 22 → sc_ga S' k = sc_ga S k) ∧ (∀ k, k ≠ 21 → k ≠ 23 → sc_gb S' k = sc_gb S k) ∧ (∀ c, c < x → sc_gb S' 21 c = sc_gb S 21 c ∧ sc_ga S' 22 c = sc_ga S 22 c ∧ sc_gb S' 23 c = sc_gb S 23 c) ∧ (∀ c, x ≤ c → c < 12 → sc_gb S' 21 c = 0 ∧ (c < bN B → sc_ga S' 22 c = uI B c) ∧ sc_gb S' 23 c = 1000000) := by
  have hn := hB.1.2.1
  intro d
  induction d with
  | zero =>
    intro x f S hx hf hM
    obtain ⟨f, rfl⟩ : ∃ f', f = f' + 1 := ⟨f - 1, by omega⟩
    refine ⟨S, ?_, fun _ => rfl, fun _ => rfl, fun _ _ => rfl, fun _ _ _ => rfl, fun _ _ => ⟨rfl, rfl, rfl⟩, fun c h1 h2 => by omega⟩
    rw [fn_X5_count_118, sa_l12, if_pos (nI_le (by omega) (by omega))]
  | succ d ih =>
    intro x f S hx hf hM
    obtain ⟨f, rfl⟩ : ∃ f', f = f' + 1 := ⟨f - 1, by omega⟩
    have hW := hM.2.2.1 x (by omega)
    obtain ⟨S', h1, h2, h3, h4, h5, h6, h7⟩ := ih (x + 1) f (sc_mB (sc_mA (sc_mB S 21 (vp_updL (sc_gb S 21) x 0)) 22 (upd (sc_ga S 22) x (if x < bN B then uI B x else 3))) 23 (vp_updL (sc_gb S 23) x 1000000)) (by omega) (by omega) (bM_f (fun k hk => by simp -implicitDefEqProofs (disch := omega) only [sa_gi_s, sa_gi_n, sa_gi_j, sa_gi_A, sa_gi_B, sa_gj_s, sa_gj_n, sa_gj_i, sa_gj_A, sa_gj_B, sa_ga_s, sa_ga_n, sa_ga_i, sa_ga_j, sa_ga_B, sa_gb_s, sa_gb_n, sa_gb_i, sa_gb_j, sa_gb_A, sa_us, sa_un, sa_vs, sa_vn]) (fun k hk => by simp -implicitDefEqProofs (disch := omega) only [sa_gi_s, sa_gi_n, sa_gi_j, sa_gi_A, sa_gi_B, sa_gj_s, sa_gj_n, sa_gj_i, sa_gj_A, sa_gj_B, sa_ga_s, sa_ga_n, sa_ga_i, sa_ga_j, sa_ga_B, sa_gb_s, sa_gb_n, sa_gb_i, sa_gb_j, sa_gb_A, sa_us, sa_un, sa_vs, sa_vn]) hM)
    refine ⟨S', ?_, h2, h3, fun k k1 => ?_, fun k k1 k2 => ?_, fun c hc => ?_, fun c c1 c2 => ?_⟩
    · rw [fn_X5_count_118, sa_l12, if_neg (nI_ge (by omega) (by omega))]
      simp -implicitDefEqProofs (disch := omega) only [sa_ck, sa_sq, sa_cl9, hW, hM.1, fn_X5_count_158, sa_gi_s, sa_gi_n, sa_gi_j, sa_gi_A, sa_gi_B, sa_gj_s, sa_gj_n, sa_gj_i, sa_gj_A, sa_gj_B, sa_ga_s, sa_ga_n, sa_ga_i, sa_ga_j, sa_ga_B, sa_gb_s, sa_gb_n, sa_gb_i, sa_gb_j, sa_gb_A, sa_us, sa_un, sa_vs, sa_vn, nI_1]
      rw [← h1]
      by_cases hxn : x < bN B
      · rw [if_neg (nI_ge hxn (by omega)), if_pos hxn, uI]
        by_cases h0 : bW B x = 0
        · rw [if_pos h0, if_pos h0]
        · rw [if_neg h0, if_neg h0]
      · rw [if_pos (nI_le (by omega) (by omega)), if_neg hxn]
    · rw [h4 k k1]; simp -implicitDefEqProofs (disch := omega) only [sa_gi_s, sa_gi_n, sa_gi_j, sa_gi_A, sa_gi_B, sa_gj_s, sa_gj_n, sa_gj_i, sa_gj_A, sa_gj_B, sa_ga_s, sa_ga_n, sa_ga_i, sa_ga_j, sa_ga_B, sa_gb_s, sa_gb_n, sa_gb_i, sa_gb_j, sa_gb_A, sa_us, sa_un, sa_vs, sa_vn]
    · rw [h5 k k1 k2]; simp -implicitDefEqProofs (disch := omega) only [sa_gi_s, sa_gi_n, sa_gi_j, sa_gi_A, sa_gi_B, sa_gj_s, sa_gj_n, sa_gj_i, sa_gj_A, sa_gj_B, sa_ga_s, sa_ga_n, sa_ga_i, sa_ga_j, sa_ga_B, sa_gb_s, sa_gb_n, sa_gb_i, sa_gb_j, sa_gb_A, sa_us, sa_un, sa_vs, sa_vn]
    · obtain ⟨q1, q2, q3⟩ := h6 c (by omega)
      rw [q1, q2, q3]; simp -implicitDefEqProofs (disch := omega) only [sa_gi_s, sa_gi_n, sa_gi_j, sa_gi_A, sa_gi_B, sa_gj_s, sa_gj_n, sa_gj_i, sa_gj_A, sa_gj_B, sa_ga_s, sa_ga_n, sa_ga_i, sa_ga_j, sa_ga_B, sa_gb_s, sa_gb_n, sa_gb_i, sa_gb_j, sa_gb_A, sa_us, sa_un, sa_vs, sa_vn]; exact ⟨trivial, trivial, trivial⟩
    · by_cases hcx : c = x
      · obtain ⟨q1, q2, q3⟩ := h6 c (by omega)
        rw [q1, q2, q3, hcx]; simp -implicitDefEqProofs (disch := omega) only [sa_gi_s, sa_gi_n, sa_gi_j, sa_gi_A, sa_gi_B, sa_gj_s, sa_gj_n, sa_gj_i, sa_gj_A, sa_gj_B, sa_ga_s, sa_ga_n, sa_ga_i, sa_ga_j, sa_ga_B, sa_gb_s, sa_gb_n, sa_gb_i, sa_gb_j, sa_gb_A, sa_us, sa_un, sa_vs, sa_vn]
        exact ⟨trivial, fun hc => by rw [if_pos hc], trivial⟩
      · exact h7 c (by omega) c2
/-- both sides, a count begun -/
def iR (B : bT) (r s : Nat) (SX SM : sc_M) : Prop :=
  (bX B SX ∧ bM B SM) ∧ (sc_gi SX 2 = nI r ∧ sc_gi SM 2 = nI r ∧ sc_gi SX 3 = nI s ∧ sc_gi SM 3 = nI s ∧ sc_gi SX 4 = nI (bN B) ∧ sc_gi SM 4 = nI (bN B) ∧ sc_gi SM 5 = nI (bP B) ∧ sc_gi SX 7 = nI 0 ∧ sc_gi SM 7 = nI 0) ∧ (sc_gi SX 5 = nI 1 ∧ sc_gi SX 6 = nI 0 ∧ sc_gi SM 6 = nI 0) ∧
  (sc_gb SX 15 0 = 0 ∧ sc_gb SX 16 0 = 0 ∧ sc_gb SX 18 0 = 0 ∧ sc_ga SX 12 0 = (if r = 3 then 3 else 0) ∧ sc_ga SX 13 0 = -9 ∧ sc_gj SM 1 = 0 ∧ sc_gj SM 2 = 0) ∧
  (∀ c, c < bN B → sc_ga SX 11 c = bL B c) ∧ (∀ c, c < bN B → sc_ga SX 20 c = uI B c ∧ sc_ga SM 22 c = uI B c) ∧ (∀ c, c < bN B → sc_gb SX 19 c = 0 ∧ sc_gb SM 21 c = 0) ∧ (∀ c, c < bN B → sc_ga SX 21 c = kI B c ∧ sc_gb SM 23 c = 1000000)
theorem begin_X {B : bT} {r s : Nat} {SX : sc_M} (hB : bOK B) (hr : r < 4) (hX : bX B SX) : ∃ SX', fn_X1_begin SX (nI r) (nI s) = some SX' ∧ bX B SX' ∧ (sc_gi SX' 2 = nI r ∧ sc_gi SX' 3 = nI s ∧ sc_gi SX' 4 = nI (bN B) ∧ sc_gi SX' 7 = nI 0 ∧ sc_gi SX' 5 = nI 1 ∧ sc_gi SX' 6 = nI 0) ∧ (sc_gb SX' 15 0 = 0 ∧ sc_gb SX' 16 0 = 0 ∧ sc_gb SX' 18 0 = 0 ∧ sc_ga SX' 12 0 = (if r = 3 then 3 else 0) ∧ sc_ga SX' 13 0 = -9) ∧ (∀ c, c < bN B → sc_ga SX' 11 c = bL B c ∧ sc_gb SX' 19 c = 0 ∧ sc_ga SX' 20 c = uI B c ∧ sc_ga SX' 21 c = kI B c) := by
  have hn := hB.1.2.1
  have e0 := hX.1
  have hXa : bX B (sc_mA (sc_mA (sc_mB (sc_mB (sc_mB (sc_mi (sc_mi (sc_mi (sc_mi (sc_mi (sc_mi SX 2 (nI r)) 3 (nI s)) 4 (nI (bN B))) 7 (nI 0)) 5 (nI 1)) 6 (nI 0)) 15 (vp_updL (sc_gb SX 15) 0 0)) 16 (vp_updL (sc_gb SX 16) 0 0)) 18 (vp_updL (sc_gb SX 18) 0 0)) 12 (upd (sc_ga SX 12) 0 (if r = 3 then 3 else 0))) 13 (upd (sc_ga SX 13) 0 (-9))) := bX_f (fun k hk => by simp -implicitDefEqProofs (disch := omega) only [sa_gi_s, sa_gi_n, sa_gi_j, sa_gi_A, sa_gi_B, sa_gj_s, sa_gj_n, sa_gj_i, sa_gj_A, sa_gj_B, sa_ga_s, sa_ga_n, sa_ga_i, sa_ga_j, sa_ga_B, sa_gb_s, sa_gb_n, sa_gb_i, sa_gb_j, sa_gb_A, sa_us, sa_un, sa_vs, sa_vn]) (fun k hk => by simp -implicitDefEqProofs (disch := omega) only [sa_gi_s, sa_gi_n, sa_gi_j, sa_gi_A, sa_gi_B, sa_gj_s, sa_gj_n, sa_gj_i, sa_gj_A, sa_gj_B, sa_ga_s, sa_ga_n, sa_ga_i, sa_ga_j, sa_ga_B, sa_gb_s, sa_gb_n, sa_gb_i, sa_gb_j, sa_gb_A, sa_us, sa_un, sa_vs, sa_vn]) hX
  obtain ⟨S', h1, h2, h3, h4, _, h6⟩ := beg_X hB (bN B) 0 sc_FU _ (Nat.zero_add _) (by rw [sa_FU]; omega) hXa (by simp -implicitDefEqProofs (disch := omega) only [sa_gi_s, sa_gi_n, sa_gi_j, sa_gi_A, sa_gi_B, sa_gj_s, sa_gj_n, sa_gj_i, sa_gj_A, sa_gj_B, sa_ga_s, sa_ga_n, sa_ga_i, sa_ga_j, sa_ga_B, sa_gb_s, sa_gb_n, sa_gb_i, sa_gb_j, sa_gb_A, sa_us, sa_un, sa_vs, sa_vn])
  refine ⟨S', ?_, ?_, ⟨?_, ?_, ?_, ?_, ?_, ?_⟩, ⟨?_, ?_, ?_, ?_, ?_⟩, fun c hc => h6 c (Nat.zero_le c) hc⟩
  · rw [fn_X1_begin]
    simp -implicitDefEqProofs (disch := omega) only [sa_l0, sa_ck, sa_sq, sa_cl9, e0, sa_gi_s, sa_gi_n, sa_gi_j, sa_gi_A, sa_gi_B, sa_gj_s, sa_gj_n, sa_gj_i, sa_gj_A, sa_gj_B, sa_ga_s, sa_ga_n, sa_ga_i, sa_ga_j, sa_ga_B, sa_gb_s, sa_gb_n, sa_gb_i, sa_gb_j, sa_gb_A, sa_us, sa_un, sa_vs, sa_vn]
    rw [← h1]
    by_cases h3 : r = 3
    · rw [if_pos (by rw [h3]; rfl), if_pos h3]; rfl
    · rw [if_neg (by rw [sa_l3, nI_eq (by omega) (by omega)]; exact h3), if_neg h3]; rfl
  · exact bX_f (fun k hk => h2 k) (fun k hk => h3 k (by omega) (by omega) (by omega)) hXa
  · rw [h2]; simp -implicitDefEqProofs (disch := omega) only [sa_gi_s, sa_gi_n, sa_gi_j, sa_gi_A, sa_gi_B, sa_gj_s, sa_gj_n, sa_gj_i, sa_gj_A, sa_gj_B, sa_ga_s, sa_ga_n, sa_ga_i, sa_ga_j, sa_ga_B, sa_gb_s, sa_gb_n, sa_gb_i, sa_gb_j, sa_gb_A, sa_us, sa_un, sa_vs, sa_vn]
  · rw [h2]; simp -implicitDefEqProofs (disch := omega) only [sa_gi_s, sa_gi_n, sa_gi_j, sa_gi_A, sa_gi_B, sa_gj_s, sa_gj_n, sa_gj_i, sa_gj_A, sa_gj_B, sa_ga_s, sa_ga_n, sa_ga_i, sa_ga_j, sa_ga_B, sa_gb_s, sa_gb_n, sa_gb_i, sa_gb_j, sa_gb_A, sa_us, sa_un, sa_vs, sa_vn]
  · rw [h2]; simp -implicitDefEqProofs (disch := omega) only [sa_gi_s, sa_gi_n, sa_gi_j, sa_gi_A, sa_gi_B, sa_gj_s, sa_gj_n, sa_gj_i, sa_gj_A, sa_gj_B, sa_ga_s, sa_ga_n, sa_ga_i, sa_ga_j, sa_ga_B, sa_gb_s, sa_gb_n, sa_gb_i, sa_gb_j, sa_gb_A, sa_us, sa_un, sa_vs, sa_vn]
  · rw [h2]; simp -implicitDefEqProofs (disch := omega) only [sa_gi_s, sa_gi_n, sa_gi_j, sa_gi_A, sa_gi_B, sa_gj_s, sa_gj_n, sa_gj_i, sa_gj_A, sa_gj_B, sa_ga_s, sa_ga_n, sa_ga_i, sa_ga_j, sa_ga_B, sa_gb_s, sa_gb_n, sa_gb_i, sa_gb_j, sa_gb_A, sa_us, sa_un, sa_vs, sa_vn]
  · rw [h2]; simp -implicitDefEqProofs (disch := omega) only [sa_gi_s, sa_gi_n, sa_gi_j, sa_gi_A, sa_gi_B, sa_gj_s, sa_gj_n, sa_gj_i, sa_gj_A, sa_gj_B, sa_ga_s, sa_ga_n, sa_ga_i, sa_ga_j, sa_ga_B, sa_gb_s, sa_gb_n, sa_gb_i, sa_gb_j, sa_gb_A, sa_us, sa_un, sa_vs, sa_vn]
  · rw [h2]; simp -implicitDefEqProofs (disch := omega) only [sa_gi_s, sa_gi_n, sa_gi_j, sa_gi_A, sa_gi_B, sa_gj_s, sa_gj_n, sa_gj_i, sa_gj_A, sa_gj_B, sa_ga_s, sa_ga_n, sa_ga_i, sa_ga_j, sa_ga_B, sa_gb_s, sa_gb_n, sa_gb_i, sa_gb_j, sa_gb_A, sa_us, sa_un, sa_vs, sa_vn]
  · rw [h4 15 (by decide)]; simp -implicitDefEqProofs (disch := omega) only [sa_gi_s, sa_gi_n, sa_gi_j, sa_gi_A, sa_gi_B, sa_gj_s, sa_gj_n, sa_gj_i, sa_gj_A, sa_gj_B, sa_ga_s, sa_ga_n, sa_ga_i, sa_ga_j, sa_ga_B, sa_gb_s, sa_gb_n, sa_gb_i, sa_gb_j, sa_gb_A, sa_us, sa_un, sa_vs, sa_vn]
  · rw [h4 16 (by decide)]; simp -implicitDefEqProofs (disch := omega) only [sa_gi_s, sa_gi_n, sa_gi_j, sa_gi_A, sa_gi_B, sa_gj_s, sa_gj_n, sa_gj_i, sa_gj_A, sa_gj_B, sa_ga_s, sa_ga_n, sa_ga_i, sa_ga_j, sa_ga_B, sa_gb_s, sa_gb_n, sa_gb_i, sa_gb_j, sa_gb_A, sa_us, sa_un, sa_vs, sa_vn]
  · rw [h4 18 (by decide)]; simp -implicitDefEqProofs (disch := omega) only [sa_gi_s, sa_gi_n, sa_gi_j, sa_gi_A, sa_gi_B, sa_gj_s, sa_gj_n, sa_gj_i, sa_gj_A, sa_gj_B, sa_ga_s, sa_ga_n, sa_ga_i, sa_ga_j, sa_ga_B, sa_gb_s, sa_gb_n, sa_gb_i, sa_gb_j, sa_gb_A, sa_us, sa_un, sa_vs, sa_vn]
  · rw [h3 12 (by decide) (by decide) (by decide)]; simp -implicitDefEqProofs (disch := omega) only [sa_gi_s, sa_gi_n, sa_gi_j, sa_gi_A, sa_gi_B, sa_gj_s, sa_gj_n, sa_gj_i, sa_gj_A, sa_gj_B, sa_ga_s, sa_ga_n, sa_ga_i, sa_ga_j, sa_ga_B, sa_gb_s, sa_gb_n, sa_gb_i, sa_gb_j, sa_gb_A, sa_us, sa_un, sa_vs, sa_vn]
  · rw [h3 13 (by decide) (by decide) (by decide)]; simp -implicitDefEqProofs (disch := omega) only [sa_gi_s, sa_gi_n, sa_gi_j, sa_gi_A, sa_gi_B, sa_gj_s, sa_gj_n, sa_gj_i, sa_gj_A, sa_gj_B, sa_ga_s, sa_ga_n, sa_ga_i, sa_ga_j, sa_ga_B, sa_gb_s, sa_gb_n, sa_gb_i, sa_gb_j, sa_gb_A, sa_us, sa_un, sa_vs, sa_vn]
/-- any that is not withdrawn? -/
theorem any_M {B : bT} {S : sc_M} {x1 x2 : Int32} (hB : bOK B) (hM : bM B S) : ∀ (d x f : Nat), x + d = bN B → d < f → fn_X5_count_27 f S x1 x2 (b2i (decide (cW (bW B) x < x))) (nI x) = fn_X5_count_27 1 S x1 x2 (b2i (decide (cW (bW B) (bN B) < bN B))) (nI (bN B)) := by
  have hn := hB.1.2.1
  intro d
  induction d with
  | zero =>
    intro x f hx hf
    obtain ⟨f, rfl⟩ : ∃ f', f = f' + 1 := ⟨f - 1, by omega⟩
    obtain rfl : x = bN B := by omega
    rw [fn_X5_count_27, fn_X5_count_27, hM.1, if_pos (nI_le (by omega) (by omega)), if_pos (nI_le (by omega) (by omega))]
  | succ d ih =>
    intro x f hx hf
    obtain ⟨f, rfl⟩ : ∃ f', f = f' + 1 := ⟨f - 1, by omega⟩
    have ihk := ih (x + 1) f (by omega) (by omega)
    have hle := cW_le (bW B) x
    rw [fn_X5_count_27, hM.1, if_neg (nI_ge (by omega) (by omega)), sa_ck _ (by omega) (by omega), sa_cl9 (by omega), hM.2.2.1 x (by omega), nI_1]
    rw [cW] at ihk
    by_cases hx1 : cW (bW B) x < x
    · rw [decide_eq_true hx1, if_neg (show ¬ b2i true = 0 by decide)]
      rw [decide_eq_true (by split <;> omega)] at ihk
      exact ihk
    · rw [decide_eq_false hx1, if_pos (show b2i false = 0 from rfl)]
      by_cases h0 : bW B x = 0
      · rw [if_pos h0]
        rw [if_pos h0, decide_eq_true (by omega)] at ihk
        exact ihk
      · rw [if_neg h0]
        rw [if_neg h0, decide_eq_false (by omega)] at ihk
        exact ihk
