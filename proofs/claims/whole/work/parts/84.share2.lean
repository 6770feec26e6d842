/-! ===== rule 3: a round's votes and its quota ===== -/
theorem cl_X {n t : Nat} (hn : n ≤ 12) (ht : t < 72) : ∀ (d x f : Nat) (S : sc_M), x + d = n → d < f → sc_gi S 4 = nI n → sc_gi S 6 = nI (12 * t) →
    ∃ S', fn_X2_share_2 f S (nI x) = fn_X2_share_33 sc_FU S' (0 : Int64) (nI 0) ∧ (∀ k, sc_gi S' k = sc_gi S k) ∧ (∀ k, sc_ga S' k = sc_ga S k) ∧ (∀ k, k ≠ 19 → sc_gb S' k = sc_gb S k) ∧ (∀ j, j < 12 * t + x → sc_gb S' 19 j = sc_gb S 19 j) ∧ (∀ c, x ≤ c → c < n → sc_gb S' 19 (12 * t + c) = lN 0) := by
  intro d
  induction d with
  | zero =>
    intro x f S hx hf e4 e6
    obtain ⟨f, rfl⟩ : ∃ f', f = f' + 1 := ⟨f - 1, by omega⟩
    refine ⟨S, ?_, fun _ => rfl, fun _ => rfl, fun _ _ => rfl, fun _ _ => rfl, fun c h1 h2 => by omega⟩
    rw [fn_X2_share_2, e4, if_pos (nI_le (by omega) (by omega))]; rfl
  | succ d ih =>
    intro x f S hx hf e4 e6
    obtain ⟨f, rfl⟩ : ∃ f', f = f' + 1 := ⟨f - 1, by omega⟩
    obtain ⟨S', h1, h2, h3, h4, h5, h6⟩ := ih (x + 1) f (sc_mB S 19 (vp_updL (sc_gb S 19) (12 * t + x) (lN 0))) (by omega) (by omega) e4 e6
    refine ⟨S', ?_, h2, h3, fun k k1 => ?_, fun j hj => ?_, fun c c1 c2 => ?_⟩
    · rw [fn_X2_share_2, e4, if_neg (nI_ge (by omega) (by omega)), e6, nI_add, sa_ck _ (by omega) (by omega), sa_sq, sa_cl9 (by omega), nI_1]; exact h1
    · rw [h4 k k1]; simp -implicitDefEqProofs (disch := omega) only [sa_gi_s, sa_gi_n, sa_gi_j, sa_gi_A, sa_gi_B, sa_gj_s, sa_gj_n, sa_gj_i, sa_gj_A, sa_gj_B, sa_ga_s, sa_ga_n, sa_ga_i, sa_ga_j, sa_ga_B, sa_gb_s, sa_gb_n, sa_gb_i, sa_gb_j, sa_gb_A, sa_us, sa_un, sa_vs, sa_vn]
    · rw [h5 j (by omega)]; simp -implicitDefEqProofs (disch := omega) only [sa_gi_s, sa_gi_n, sa_gi_j, sa_gi_A, sa_gi_B, sa_gj_s, sa_gj_n, sa_gj_i, sa_gj_A, sa_gj_B, sa_ga_s, sa_ga_n, sa_ga_i, sa_ga_j, sa_ga_B, sa_gb_s, sa_gb_n, sa_gb_i, sa_gb_j, sa_gb_A, sa_us, sa_un, sa_vs, sa_vn]
    · by_cases hcx : c = x
      · rw [h5 _ (by omega), hcx]; simp -implicitDefEqProofs (disch := omega) only [sa_gi_s, sa_gi_n, sa_gi_j, sa_gi_A, sa_gi_B, sa_gj_s, sa_gj_n, sa_gj_i, sa_gj_A, sa_gj_B, sa_ga_s, sa_ga_n, sa_ga_i, sa_ga_j, sa_ga_B, sa_gb_s, sa_gb_n, sa_gb_i, sa_gb_j, sa_gb_A, sa_us, sa_un, sa_vs, sa_vn]
      · exact h6 c (by omega) c2
theorem cl_M {n : Nat} (hn : n ≤ 12) : ∀ (d x f : Nat) (S : sc_M), x + d = n → d < f → sc_gi S 0 = nI n →
    ∃ S', fn_X5_spread_2 f S (nI x) = fn_X5_spread_30 sc_FU (sc_mj S' 1 0) (nI 0) ∧ (∀ k, sc_gi S' k = sc_gi S k) ∧ (∀ k, sc_gj S' k = sc_gj S k) ∧ (∀ k, sc_ga S' k = sc_ga S k) ∧ (∀ k, k ≠ 21 → sc_gb S' k = sc_gb S k) ∧ (∀ j, j < x → sc_gb S' 21 j = sc_gb S 21 j) ∧ (∀ c, x ≤ c → c < n → sc_gb S' 21 c = lN 0) := by
  intro d
  induction d with
  | zero =>
    intro x f S hx hf e4
    obtain ⟨f, rfl⟩ : ∃ f', f = f' + 1 := ⟨f - 1, by omega⟩
    refine ⟨S, ?_, fun _ => rfl, fun _ => rfl, fun _ => rfl, fun _ _ => rfl, fun _ _ => rfl, fun c h1 h2 => by omega⟩
    rw [fn_X5_spread_2, e4, if_pos (nI_le (by omega) (by omega)), sa_sq]; rfl
  | succ d ih =>
    intro x f S hx hf e4
    obtain ⟨f, rfl⟩ : ∃ f', f = f' + 1 := ⟨f - 1, by omega⟩
    obtain ⟨S', h1, h2, h3, h4, h5, h6, h7⟩ := ih (x + 1) f (sc_mB S 21 (vp_updL (sc_gb S 21) x (lN 0))) (by omega) (by omega) e4
    refine ⟨S', ?_, h2, h3, h4, fun k k1 => ?_, fun j hj => ?_, fun c c1 c2 => ?_⟩
    · rw [fn_X5_spread_2, e4, if_neg (nI_ge (by omega) (by omega)), sa_ck _ (by omega) (by omega), sa_sq, sa_cl9 (by omega), nI_1]; exact h1
    · rw [h5 k k1]; simp -implicitDefEqProofs (disch := omega) only [sa_gi_s, sa_gi_n, sa_gi_j, sa_gi_A, sa_gi_B, sa_gj_s, sa_gj_n, sa_gj_i, sa_gj_A, sa_gj_B, sa_ga_s, sa_ga_n, sa_ga_i, sa_ga_j, sa_ga_B, sa_gb_s, sa_gb_n, sa_gb_i, sa_gb_j, sa_gb_A, sa_us, sa_un, sa_vs, sa_vn]
    · rw [h6 j (by omega)]; simp -implicitDefEqProofs (disch := omega) only [sa_gi_s, sa_gi_n, sa_gi_j, sa_gi_A, sa_gi_B, sa_gj_s, sa_gj_n, sa_gj_i, sa_gj_A, sa_gj_B, sa_ga_s, sa_ga_n, sa_ga_i, sa_ga_j, sa_ga_B, sa_gb_s, sa_gb_n, sa_gb_i, sa_gb_j, sa_gb_A, sa_us, sa_un, sa_vs, sa_vn]
    · by_cases hcx : c = x
      · rw [h6 _ (by omega), hcx]; simp -implicitDefEqProofs (disch := omega) only [sa_gi_s, sa_gi_n, sa_gi_j, sa_gi_A, sa_gi_B, sa_gj_s, sa_gj_n, sa_gj_i, sa_gj_A, sa_gj_B, sa_ga_s, sa_ga_n, sa_ga_i, sa_ga_j, sa_ga_B, sa_gb_s, sa_gb_n, sa_gb_i, sa_gb_j, sa_gb_A, sa_us, sa_un, sa_vs, sa_vn]
      · exact h7 c (by omega) c2
def sV (v : Nat → Nat) : Nat → Nat
  | 0 => 0
  | x + 1 => sV v x + v x
theorem sV_le {v : Nat → Nat} {m : Nat} : ∀ n, (∀ c, c < n → v c ≤ m) → sV v n ≤ m * n := by
  intro n
  induction n with
  | zero => intro _; exact Nat.zero_le _
  | succ n ih =>
    intro h
    have h1 := ih (fun c hc => h c (by omega))
    have h2 := h n (by omega)
    rw [sV, Nat.mul_succ]
    omega
theorem su_X {n t s : Nat} {v : Nat → Nat} {S : sc_M} (hn : n ≤ 12) (ht : t < 72) (hs : s ≤ 12) (hb : sV v n < 2 ^ 60) (e3 : sc_gi S 3 = nI s) (e4 : sc_gi S 4 = nI n) (e5 : sc_gi S 5 = nI (t + 1)) (e6 : sc_gi S 6 = nI (12 * t)) (hv : ∀ c, c < n → sc_gb S 19 (12 * t + c) = lN (v c)) : ∀ (d x f : Nat), x + d = n → d < f → fn_X2_share_92 f S (lN (sV v x)) (nI x) = some (sc_mB S 17 (vp_updL (sc_gb S 17) t (lN (sV v n / (s + 1) + 1)))) := by
  intro d
  induction d with
  | zero =>
    intro x f hx hf
    obtain ⟨f, rfl⟩ : ∃ f', f = f' + 1 := ⟨f - 1, by omega⟩
    obtain rfl : x = n := by omega
    rw [fn_X2_share_92, e4, if_pos (nI_le (by omega) (by omega)), sa_now e5, sa_cl, e3, nI_1, nI_l (by omega), sa_nlN _ (by omega) (by omega), sa_ck _ (by omega) (by omega), sa_sq, sa_cl9 (by omega), pk_lDiv (by omega) (by omega) (by omega), lN_1]
  | succ d ih =>
    intro x f hx hf
    obtain ⟨f, rfl⟩ : ∃ f', f = f' + 1 := ⟨f - 1, by omega⟩
    rw [fn_X2_share_92, e4, if_neg (nI_ge (by omega) (by omega)), e6, nI_add, sa_ck _ (by omega) (by omega), sa_sq, sa_cl9 (by omega), hv x (by omega), lN_add, nI_1]
    exact ih (x + 1) f (by omega) (by omega)
theorem su_M {n s : Nat} {v : Nat → Nat} {S : sc_M} (hn : n ≤ 12) (hs : s ≤ 12) (hb : sV v n < 2 ^ 60) (e3 : sc_gi S 3 = nI s) (e0 : sc_gi S 0 = nI n) (hv : ∀ c, c < n → sc_gb S 21 c = lN (v c)) : ∀ (d x f : Nat), x + d = n → d < f → fn_X5_spread_162 f S (lN (sV v x)) (nI x) = some (sc_mj S 0 (lN (sV v n / (s + 1) + 1))) := by
  intro d
  induction d with
  | zero =>
    intro x f hx hf
    obtain ⟨f, rfl⟩ : ∃ f', f = f' + 1 := ⟨f - 1, by omega⟩
    obtain rfl : x = n := by omega
    rw [fn_X5_spread_162, e0, if_pos (nI_le (by omega) (by omega)), e3, nI_1, nI_l (by omega), sa_nlN _ (by omega) (by omega), sa_sq, pk_lDiv (by omega) (by omega) (by omega), lN_1]
  | succ d ih =>
    intro x f hx hf
    obtain ⟨f, rfl⟩ : ∃ f', f = f' + 1 := ⟨f - 1, by omega⟩
    rw [fn_X5_spread_162, e0, if_neg (nI_ge (by omega) (by omega)), sa_ck _ (by omega) (by omega), sa_sq, sa_cl9 (by omega), hv x (by omega), lN_add, nI_1]
    exact ih (x + 1) f (by omega) (by omega)
def hFr (t : Nat) (SX SM SX' SM' : sc_M) : Prop := ((∀ k, sc_gi SX' k = sc_gi SX k) ∧ (∀ k, sc_ga SX' k = sc_ga SX k) ∧ (∀ k, k ≠ 15 → k ≠ 17 → k ≠ 19 → sc_gb SX' k = sc_gb SX k) ∧ (∀ j, j < t → sc_gb SX' 15 j = sc_gb SX 15 j ∧ sc_gb SX' 17 j = sc_gb SX 17 j) ∧ (∀ j, j < 12 * t → sc_gb SX' 19 j = sc_gb SX 19 j)) ∧ ((∀ k, sc_gi SM' k = sc_gi SM k) ∧ (∀ k, k ≠ 0 → k ≠ 1 → sc_gj SM' k = sc_gj SM k) ∧ (∀ k, sc_ga SM' k = sc_ga SM k) ∧ (∀ k, k ≠ 21 → sc_gb SM' k = sc_gb SM k))
theorem share_both {B : bT} {t s : Nat} {kp : Nat → Nat} {SX SM : sc_M} (hB : bOK B) (ht : t < 72) (hs1 : 1 ≤ s) (hs : s ≤ 12) (hX : bX B SX) (hM : bM B SM) (g3 : sc_gi SX 3 = nI s) (g4 : sc_gi SM 3 = nI s) (g5 : sc_gi SX 4 = nI (bN B)) (e5 : sc_gi SX 5 = nI (t + 1)) (e6 : sc_gi SX 6 = nI (12 * t)) (hk : kR B t kp SX SM) :
    ∃ (v : Nat → Nat) (q : Nat) (SX' SM' : sc_M), fn_X2_share SX = some SX' ∧ fn_X5_spread SM = some SM' ∧ (∀ c, c < bN B → sc_gb SX' 19 (12 * t + c) = lN (v c) ∧ sc_gb SM' 21 c = lN (v c)) ∧ (∀ c, c < bN B → v c ≤ 480000000000) ∧ q ≤ 2900000000000 ∧ sc_gb SX' 17 t = lN q ∧ sc_gj SM' 0 = lN q ∧ sc_gb SX' 15 t = sc_gj SM' 1 ∧ hFr t SX SM SX' SM' := by
  have hn := hB.1.2.1
  have hnp := hB.1.2.2
  obtain ⟨X1, a1, a2, a3, a4, a5, a6⟩ := cl_X hn ht (bN B) 0 sc_FU SX (Nat.zero_add _) (by rw [sa_FU]; omega) g5 e6
  obtain ⟨M1, b1, b2, b3, b4, b5, b6, b7⟩ := cl_M hn (bN B) 0 sc_FU SM (Nat.zero_add _) (by rw [sa_FU]; omega) hM.1
  have hq : qR B t kp (fun _ => 0) X1 (sc_mj M1 1 0) := by
    refine ⟨⟨bX_f (fun k _ => a2 k) (fun k _ => a3 k) hX, bM_f (S := SM) (fun k _ => b2 k) (fun k _ => b4 k) hM⟩, by rw [a2]; exact e6, fun c hc => ⟨a6 c (Nat.zero_le _) hc, b7 c (Nat.zero_le _) hc⟩, fun c hc => ?_⟩
    have h1 := hk c hc
    rw [a3 21, sa_gb_j, b5 23 (by decide)]
    exact h1
  obtain ⟨v, X2, M2, c1, c2, c3, c4, c5⟩ := sh_out hB ht (bP B) 0 sc_FU sc_FU 0 (fun _ => 0) X1 (sc_mj M1 1 0) (Nat.zero_add _) (by rw [sa_FU]; omega) (by rw [sa_FU]; omega) (fun c _ => Nat.zero_le _) hq (sa_gj_s _ _ _)
  obtain ⟨⟨f1, f2, f3, f4⟩, f5, f6, f7, f8⟩ := c5
  have hsV : sV v (bN B) ≤ 480000000000 * bN B := sV_le (bN B) c3
  have hmul : 480000000000 * bN B ≤ 480000000000 * 12 := Nat.mul_le_mul (Nat.le_refl _) hn
  have hdiv : sV v (bN B) / (s + 1) ≤ sV v (bN B) / 2 := Nat.div_le_div_left (by omega) (by omega)
  have e5' : sc_gi X2 5 = nI (t + 1) := by rw [f1, a2]; exact e5
  have sX := su_X (v := v) (S := sc_mB X2 15 (vp_updL (sc_gb X2 15) t (sc_gj M2 1))) (s := s) hn ht hs (by omega) (by simp -implicitDefEqProofs (disch := omega) only [sa_gi_s, sa_gi_n, sa_gi_j, sa_gi_A, sa_gi_B, sa_gj_s, sa_gj_n, sa_gj_i, sa_gj_A, sa_gj_B, sa_ga_s, sa_ga_n, sa_ga_i, sa_ga_j, sa_ga_B, sa_gb_s, sa_gb_n, sa_gb_i, sa_gb_j, sa_gb_A, sa_us, sa_un, sa_vs, sa_vn]; rw [f1, a2]; exact g3) (by simp -implicitDefEqProofs (disch := omega) only [sa_gi_s, sa_gi_n, sa_gi_j, sa_gi_A, sa_gi_B, sa_gj_s, sa_gj_n, sa_gj_i, sa_gj_A, sa_gj_B, sa_ga_s, sa_ga_n, sa_ga_i, sa_ga_j, sa_ga_B, sa_gb_s, sa_gb_n, sa_gb_i, sa_gb_j, sa_gb_A, sa_us, sa_un, sa_vs, sa_vn]; rw [f1, a2]; exact g5) (by simp -implicitDefEqProofs (disch := omega) only [sa_gi_s, sa_gi_n, sa_gi_j, sa_gi_A, sa_gi_B, sa_gj_s, sa_gj_n, sa_gj_i, sa_gj_A, sa_gj_B, sa_ga_s, sa_ga_n, sa_ga_i, sa_ga_j, sa_ga_B, sa_gb_s, sa_gb_n, sa_gb_i, sa_gb_j, sa_gb_A, sa_us, sa_un, sa_vs, sa_vn]; exact e5') c4.2.1 (fun c hc => by simp -implicitDefEqProofs (disch := omega) only [sa_gi_s, sa_gi_n, sa_gi_j, sa_gi_A, sa_gi_B, sa_gj_s, sa_gj_n, sa_gj_i, sa_gj_A, sa_gj_B, sa_ga_s, sa_ga_n, sa_ga_i, sa_ga_j, sa_ga_B, sa_gb_s, sa_gb_n, sa_gb_i, sa_gb_j, sa_gb_A, sa_us, sa_un, sa_vs, sa_vn]; exact (c4.2.2.1 c hc).1) (bN B) 0 sc_FU (Nat.zero_add _) (by rw [sa_FU]; omega)
  have sM := su_M (v := v) (S := M2) (s := s) hn hs (by omega) (by rw [f5, sa_gi_j, b2]; exact g4) c4.1.2.1 (fun c hc => (c4.2.2.1 c hc).2) (bN B) 0 sc_FU (Nat.zero_add _) (by rw [sa_FU]; omega)
  refine ⟨v, sV v (bN B) / (s + 1) + 1, sc_mB (sc_mB X2 15 (vp_updL (sc_gb X2 15) t (sc_gj M2 1))) 17 (vp_updL (sc_gb (sc_mB X2 15 (vp_updL (sc_gb X2 15) t (sc_gj M2 1))) 17) t (lN (sV v (bN B) / (s + 1) + 1))), sc_mj M2 0 (lN (sV v (bN B) / (s + 1) + 1)), ?_, ?_, fun c hc => ?_, c3, by omega, ?_, ?_, ?_, ⟨⟨fun k => ?_, fun k => ?_, fun k k1 k2 k3 => ?_, fun j hj => ⟨?_, ?_⟩, fun j hj => ?_⟩, fun k => ?_, fun k k1 k2 => ?_, fun k => ?_, fun k k1 => ?_⟩⟩
  · rw [fn_X2_share, sa_l0, a1, c1, sa_now e5', sa_cl, sa_ck _ (by omega) (by omega), sa_sq, sa_cl9 (by omega)]; exact sX
  · rw [fn_X5_spread, sa_l0, b1, c2]; exact sM
  · simp -implicitDefEqProofs (disch := omega) only [sa_gi_s, sa_gi_n, sa_gi_j, sa_gi_A, sa_gi_B, sa_gj_s, sa_gj_n, sa_gj_i, sa_gj_A, sa_gj_B, sa_ga_s, sa_ga_n, sa_ga_i, sa_ga_j, sa_ga_B, sa_gb_s, sa_gb_n, sa_gb_i, sa_gb_j, sa_gb_A, sa_us, sa_un, sa_vs, sa_vn]; exact c4.2.2.1 c hc
  · simp -implicitDefEqProofs (disch := omega) only [sa_gi_s, sa_gi_n, sa_gi_j, sa_gi_A, sa_gi_B, sa_gj_s, sa_gj_n, sa_gj_i, sa_gj_A, sa_gj_B, sa_ga_s, sa_ga_n, sa_ga_i, sa_ga_j, sa_ga_B, sa_gb_s, sa_gb_n, sa_gb_i, sa_gb_j, sa_gb_A, sa_us, sa_un, sa_vs, sa_vn]
  · simp -implicitDefEqProofs (disch := omega) only [sa_gi_s, sa_gi_n, sa_gi_j, sa_gi_A, sa_gi_B, sa_gj_s, sa_gj_n, sa_gj_i, sa_gj_A, sa_gj_B, sa_ga_s, sa_ga_n, sa_ga_i, sa_ga_j, sa_ga_B, sa_gb_s, sa_gb_n, sa_gb_i, sa_gb_j, sa_gb_A, sa_us, sa_un, sa_vs, sa_vn]
  · simp -implicitDefEqProofs (disch := omega) only [sa_gi_s, sa_gi_n, sa_gi_j, sa_gi_A, sa_gi_B, sa_gj_s, sa_gj_n, sa_gj_i, sa_gj_A, sa_gj_B, sa_ga_s, sa_ga_n, sa_ga_i, sa_ga_j, sa_ga_B, sa_gb_s, sa_gb_n, sa_gb_i, sa_gb_j, sa_gb_A, sa_us, sa_un, sa_vs, sa_vn]
  · simp -implicitDefEqProofs (disch := omega) only [sa_gi_s, sa_gi_n, sa_gi_j, sa_gi_A, sa_gi_B, sa_gj_s, sa_gj_n, sa_gj_i, sa_gj_A, sa_gj_B, sa_ga_s, sa_ga_n, sa_ga_i, sa_ga_j, sa_ga_B, sa_gb_s, sa_gb_n, sa_gb_i, sa_gb_j, sa_gb_A, sa_us, sa_un, sa_vs, sa_vn]; rw [f1, a2]
  · simp -implicitDefEqProofs (disch := omega) only [sa_gi_s, sa_gi_n, sa_gi_j, sa_gi_A, sa_gi_B, sa_gj_s, sa_gj_n, sa_gj_i, sa_gj_A, sa_gj_B, sa_ga_s, sa_ga_n, sa_ga_i, sa_ga_j, sa_ga_B, sa_gb_s, sa_gb_n, sa_gb_i, sa_gb_j, sa_gb_A, sa_us, sa_un, sa_vs, sa_vn]; rw [f2, a3]
  · simp -implicitDefEqProofs (disch := omega) only [sa_gi_s, sa_gi_n, sa_gi_j, sa_gi_A, sa_gi_B, sa_gj_s, sa_gj_n, sa_gj_i, sa_gj_A, sa_gj_B, sa_ga_s, sa_ga_n, sa_ga_i, sa_ga_j, sa_ga_B, sa_gb_s, sa_gb_n, sa_gb_i, sa_gb_j, sa_gb_A, sa_us, sa_un, sa_vs, sa_vn]; rw [f3 k k3, a4 k k3]
  · simp -implicitDefEqProofs (disch := omega) only [sa_gi_s, sa_gi_n, sa_gi_j, sa_gi_A, sa_gi_B, sa_gj_s, sa_gj_n, sa_gj_i, sa_gj_A, sa_gj_B, sa_ga_s, sa_ga_n, sa_ga_i, sa_ga_j, sa_ga_B, sa_gb_s, sa_gb_n, sa_gb_i, sa_gb_j, sa_gb_A, sa_us, sa_un, sa_vs, sa_vn]; rw [f3 15 (by decide), a4 15 (by decide)]
  · simp -implicitDefEqProofs (disch := omega) only [sa_gi_s, sa_gi_n, sa_gi_j, sa_gi_A, sa_gi_B, sa_gj_s, sa_gj_n, sa_gj_i, sa_gj_A, sa_gj_B, sa_ga_s, sa_ga_n, sa_ga_i, sa_ga_j, sa_ga_B, sa_gb_s, sa_gb_n, sa_gb_i, sa_gb_j, sa_gb_A, sa_us, sa_un, sa_vs, sa_vn]; rw [f3 17 (by decide), a4 17 (by decide)]
  · simp -implicitDefEqProofs (disch := omega) only [sa_gi_s, sa_gi_n, sa_gi_j, sa_gi_A, sa_gi_B, sa_gj_s, sa_gj_n, sa_gj_i, sa_gj_A, sa_gj_B, sa_ga_s, sa_ga_n, sa_ga_i, sa_ga_j, sa_ga_B, sa_gb_s, sa_gb_n, sa_gb_i, sa_gb_j, sa_gb_A, sa_us, sa_un, sa_vs, sa_vn]; rw [f4 j hj, a5 j (by omega)]
  · simp -implicitDefEqProofs (disch := omega) only [sa_gi_s, sa_gi_n, sa_gi_j, sa_gi_A, sa_gi_B, sa_gj_s, sa_gj_n, sa_gj_i, sa_gj_A, sa_gj_B, sa_ga_s, sa_ga_n, sa_ga_i, sa_ga_j, sa_ga_B, sa_gb_s, sa_gb_n, sa_gb_i, sa_gb_j, sa_gb_A, sa_us, sa_un, sa_vs, sa_vn]; rw [f5]; simp -implicitDefEqProofs (disch := omega) only [sa_gi_s, sa_gi_n, sa_gi_j, sa_gi_A, sa_gi_B, sa_gj_s, sa_gj_n, sa_gj_i, sa_gj_A, sa_gj_B, sa_ga_s, sa_ga_n, sa_ga_i, sa_ga_j, sa_ga_B, sa_gb_s, sa_gb_n, sa_gb_i, sa_gb_j, sa_gb_A, sa_us, sa_un, sa_vs, sa_vn]; rw [b2]
  · simp -implicitDefEqProofs (disch := omega) only [sa_gi_s, sa_gi_n, sa_gi_j, sa_gi_A, sa_gi_B, sa_gj_s, sa_gj_n, sa_gj_i, sa_gj_A, sa_gj_B, sa_ga_s, sa_ga_n, sa_ga_i, sa_ga_j, sa_ga_B, sa_gb_s, sa_gb_n, sa_gb_i, sa_gb_j, sa_gb_A, sa_us, sa_un, sa_vs, sa_vn]; rw [f6 k k2]; simp -implicitDefEqProofs (disch := omega) only [sa_gi_s, sa_gi_n, sa_gi_j, sa_gi_A, sa_gi_B, sa_gj_s, sa_gj_n, sa_gj_i, sa_gj_A, sa_gj_B, sa_ga_s, sa_ga_n, sa_ga_i, sa_ga_j, sa_ga_B, sa_gb_s, sa_gb_n, sa_gb_i, sa_gb_j, sa_gb_A, sa_us, sa_un, sa_vs, sa_vn]; rw [b3]
  · simp -implicitDefEqProofs (disch := omega) only [sa_gi_s, sa_gi_n, sa_gi_j, sa_gi_A, sa_gi_B, sa_gj_s, sa_gj_n, sa_gj_i, sa_gj_A, sa_gj_B, sa_ga_s, sa_ga_n, sa_ga_i, sa_ga_j, sa_ga_B, sa_gb_s, sa_gb_n, sa_gb_i, sa_gb_j, sa_gb_A, sa_us, sa_un, sa_vs, sa_vn]; rw [f7]; simp -implicitDefEqProofs (disch := omega) only [sa_gi_s, sa_gi_n, sa_gi_j, sa_gi_A, sa_gi_B, sa_gj_s, sa_gj_n, sa_gj_i, sa_gj_A, sa_gj_B, sa_ga_s, sa_ga_n, sa_ga_i, sa_ga_j, sa_ga_B, sa_gb_s, sa_gb_n, sa_gb_i, sa_gb_j, sa_gb_A, sa_us, sa_un, sa_vs, sa_vn]; rw [b4]
  · simp -implicitDefEqProofs (disch := omega) only [sa_gi_s, sa_gi_n, sa_gi_j, sa_gi_A, sa_gi_B, sa_gj_s, sa_gj_n, sa_gj_i, sa_gj_A, sa_gj_B, sa_ga_s, sa_ga_n, sa_ga_i, sa_ga_j, sa_ga_B, sa_gb_s, sa_gb_n, sa_gb_i, sa_gb_j, sa_gb_A, sa_us, sa_un, sa_vs, sa_vn]; rw [f8 k k1]; simp -implicitDefEqProofs (disch := omega) only [sa_gi_s, sa_gi_n, sa_gi_j, sa_gi_A, sa_gi_B, sa_gj_s, sa_gj_n, sa_gj_i, sa_gj_A, sa_gj_B, sa_ga_s, sa_ga_n, sa_ga_i, sa_ga_j, sa_ga_B, sa_gb_s, sa_gb_n, sa_gb_i, sa_gb_j, sa_gb_A, sa_us, sa_un, sa_vs, sa_vn]; rw [b5 k k1]
