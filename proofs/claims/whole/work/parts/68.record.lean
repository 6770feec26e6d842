/-! ===== record, of the reference ===== -/
theorem rec_77 {n t : Nat} {kd : Int32} (hn : n ≤ 12) (ht : t < 72) : ∀ (d x f : Nat) (S : sc_M), x + d = n → d < f → sc_gi S 0 = nI n →
    ∃ S', fn_X5_record_77 f S kd (nI t) (nI x) = fn_X5_record_155 sc_FU S' kd (nI t) 0 ∧ (∀ k, sc_gi S' k = sc_gi S k) ∧ (∀ k, sc_gj S' k = sc_gj S k) ∧ (∀ k, k ≠ 15 → sc_ga S' k = sc_ga S k) ∧ (∀ k, k ≠ 14 → k ≠ 19 → sc_gb S' k = sc_gb S k) ∧ (∀ j, j < 12 * t + x → sc_gb S' 14 j = sc_gb S 14 j ∧ sc_ga S' 15 j = sc_ga S 15 j ∧ sc_gb S' 19 j = sc_gb S 19 j) ∧ (∀ c, x ≤ c → c < n → sc_gb S' 14 (12 * t + c) = sc_gb S 21 c ∧ sc_ga S' 15 (12 * t + c) = sc_ga S 22 c ∧ sc_gb S' 19 (12 * t + c) = sc_gb S 21 c) := by
  intro d
  induction d with
  | zero =>
    intro x f S hx hf e0
    obtain ⟨f, rfl⟩ : ∃ f', f = f' + 1 := ⟨f - 1, by omega⟩
    refine ⟨S, ?_, fun _ => rfl, fun _ => rfl, fun _ _ => rfl, fun _ _ _ => rfl, fun _ _ => ⟨rfl, rfl, rfl⟩, fun c h1 h2 => by omega⟩
    rw [fn_X5_record_77, e0, if_pos (nI_le (by omega) (by omega))]
  | succ d ih =>
    intro x f S hx hf e0
    obtain ⟨f, rfl⟩ : ∃ f', f = f' + 1 := ⟨f - 1, by omega⟩
    obtain ⟨S', h1, h2, h3, h4, h5, h6, h7⟩ := ih (x + 1) f (sc_mB (sc_mA (sc_mB S 14 (vp_updL (sc_gb S 14) (12 * t + x) (sc_gb S 21 x))) 15 (upd (sc_ga S 15) (12 * t + x) (sc_ga S 22 x))) 19 (vp_updL (sc_gb S 19) (12 * t + x) (sc_gb S 21 x))) (by omega) (by omega) e0
    refine ⟨S', ?_, h2, h3, fun k k1 => ?_, fun k k1 k2 => ?_, fun j hj => ?_, fun c c1 c2 => ?_⟩
    · rw [fn_X5_record_77, e0, if_neg (nI_ge (by omega) (by omega))]
      simp (disch := omega) only [sa_12m, sa_ck, sa_sq, sa_cl9, sa_gi_s, sa_gi_n, sa_gi_j, sa_gi_A, sa_gi_B, sa_gj_s, sa_gj_n, sa_gj_i, sa_gj_A, sa_gj_B, sa_ga_s, sa_ga_n, sa_ga_i, sa_ga_j, sa_ga_B, sa_gb_s, sa_gb_n, sa_gb_i, sa_gb_j, sa_gb_A, sa_us, sa_un, sa_vs, sa_vn, nI_1]
      exact h1
    · rw [h4 k k1]; simp (disch := omega) only [sa_gi_s, sa_gi_n, sa_gi_j, sa_gi_A, sa_gi_B, sa_gj_s, sa_gj_n, sa_gj_i, sa_gj_A, sa_gj_B, sa_ga_s, sa_ga_n, sa_ga_i, sa_ga_j, sa_ga_B, sa_gb_s, sa_gb_n, sa_gb_i, sa_gb_j, sa_gb_A, sa_us, sa_un, sa_vs, sa_vn]
    · rw [h5 k k1 k2]; simp (disch := omega) only [sa_gi_s, sa_gi_n, sa_gi_j, sa_gi_A, sa_gi_B, sa_gj_s, sa_gj_n, sa_gj_i, sa_gj_A, sa_gj_B, sa_ga_s, sa_ga_n, sa_ga_i, sa_ga_j, sa_ga_B, sa_gb_s, sa_gb_n, sa_gb_i, sa_gb_j, sa_gb_A, sa_us, sa_un, sa_vs, sa_vn]
    · obtain ⟨q1, q2, q3⟩ := h6 j (by omega)
      rw [q1, q2, q3]; simp (disch := omega) only [sa_gi_s, sa_gi_n, sa_gi_j, sa_gi_A, sa_gi_B, sa_gj_s, sa_gj_n, sa_gj_i, sa_gj_A, sa_gj_B, sa_ga_s, sa_ga_n, sa_ga_i, sa_ga_j, sa_ga_B, sa_gb_s, sa_gb_n, sa_gb_i, sa_gb_j, sa_gb_A, sa_us, sa_un, sa_vs, sa_vn]; exact ⟨trivial, trivial, trivial⟩
    · by_cases hcx : c = x
      · subst hcx
        obtain ⟨q1, q2, q3⟩ := h6 (12 * t + c) (by omega)
        rw [q1, q2, q3]; simp (disch := omega) only [sa_gi_s, sa_gi_n, sa_gi_j, sa_gi_A, sa_gi_B, sa_gj_s, sa_gj_n, sa_gj_i, sa_gj_A, sa_gj_B, sa_ga_s, sa_ga_n, sa_ga_i, sa_ga_j, sa_ga_B, sa_gb_s, sa_gb_n, sa_gb_i, sa_gb_j, sa_gb_A, sa_us, sa_un, sa_vs, sa_vn]; exact ⟨trivial, trivial, trivial⟩
      · obtain ⟨q1, q2, q3⟩ := h7 c (by omega) c2
        rw [q1, q2, q3]; simp (disch := omega) only [sa_gi_s, sa_gi_n, sa_gi_j, sa_gi_A, sa_gi_B, sa_gj_s, sa_gj_n, sa_gj_i, sa_gj_A, sa_gj_B, sa_ga_s, sa_ga_n, sa_ga_i, sa_ga_j, sa_ga_B, sa_gb_s, sa_gb_n, sa_gb_i, sa_gb_j, sa_gb_A, sa_us, sa_un, sa_vs, sa_vn]; exact ⟨trivial, trivial, trivial⟩
theorem rec_155 {np t : Nat} {kd : Int32} (hn : np ≤ 80) (ht : t < 72) : ∀ (d x f : Nat) (S : sc_M), x + d = np → d < f → sc_gi S 1 = nI np → sc_gi S 6 = nI t →
    ∃ S', fn_X5_record_155 f S kd (nI t) (nI x) = some S' ∧ sc_gi S' 6 = nI (t + 1) ∧ (∀ k, k ≠ 6 → sc_gi S' k = sc_gi S k) ∧ (∀ k, sc_gj S' k = sc_gj S k) ∧ (∀ k, k ≠ 17 → sc_ga S' k = sc_ga S k) ∧ (∀ k, k ≠ 18 → sc_gb S' k = sc_gb S k) ∧ (∀ j, j < 80 * t + x → sc_ga S' 17 j = sc_ga S 17 j ∧ sc_gb S' 18 j = sc_gb S 18 j) ∧ (kd < 3 → ∀ p, x ≤ p → p < np → sc_ga S' 17 (80 * t + p) = sc_ga S 24 p ∧ (0 ≤ sc_ga S 24 p → sc_gb S' 18 (80 * t + p) = sc_gb S 25 p) ∧ (¬ 0 ≤ sc_ga S 24 p → sc_gb S' 18 (80 * t + p) = 0)) := by
  intro d
  induction d with
  | zero =>
    intro x f S hx hf e0 e6
    obtain ⟨f, rfl⟩ : ∃ f', f = f' + 1 := ⟨f - 1, by omega⟩
    refine ⟨sc_mi S 6 (nI (t + 1)), ?_, sa_gi_s _ _ _, fun k hk => sa_gi_n _ _ _ _ hk, fun _ => rfl, fun _ _ => rfl, fun _ _ => rfl, fun _ _ => ⟨rfl, rfl⟩, fun _ c h1 h2 => by omega⟩
    rw [fn_X5_record_155, e0, if_pos (nI_le (by omega) (by omega)), sa_sq, e6, nI_1]
  | succ d ih =>
    intro x f S hx hf e0 e6
    obtain ⟨f, rfl⟩ : ∃ f', f = f' + 1 := ⟨f - 1, by omega⟩
    rw [fn_X5_record_155, e0, if_neg (nI_ge (by omega) (by omega))]
    by_cases hk : (3 : Int32) ≤ kd
    · rw [if_pos hk]
      refine ⟨sc_mi S 6 (nI (t + 1)), ?_, sa_gi_s _ _ _, fun k hk => sa_gi_n _ _ _ _ hk, fun _ => rfl, fun _ _ => rfl, fun _ _ => rfl, fun _ _ => ⟨rfl, rfl⟩, fun h => absurd h (Int32.not_lt.mpr hk)⟩
      rw [sa_sq, e6, nI_1]
    · rw [if_neg hk]
      by_cases hp : 0 ≤ sc_ga S 24 x
      · obtain ⟨S', h1, h2, h3, h4, h5, h6, h7, h8⟩ := ih (x + 1) f (sc_mB (sc_mA S 17 (upd (sc_ga S 17) (80 * t + x) (sc_ga S 24 x))) 18 (vp_updL (sc_gb S 18) (80 * t + x) (sc_gb S 25 x))) (by omega) (by omega) e0 e6
        refine ⟨S', ?_, h2, h3, h4, fun k k1 => ?_, fun k k1 => ?_, fun j hj => ?_, fun hkd p p1 p2 => ?_⟩
        · simp (disch := omega) only [sa_80m, sa_ck, sa_sq, sa_cl9, sa_gi_s, sa_gi_n, sa_gi_j, sa_gi_A, sa_gi_B, sa_gj_s, sa_gj_n, sa_gj_i, sa_gj_A, sa_gj_B, sa_ga_s, sa_ga_n, sa_ga_i, sa_ga_j, sa_ga_B, sa_gb_s, sa_gb_n, sa_gb_i, sa_gb_j, sa_gb_A, sa_us, sa_un, sa_vs, sa_vn, nI_1]
          rw [if_pos hp]
          exact h1
        · rw [h5 k k1]; simp (disch := omega) only [sa_gi_s, sa_gi_n, sa_gi_j, sa_gi_A, sa_gi_B, sa_gj_s, sa_gj_n, sa_gj_i, sa_gj_A, sa_gj_B, sa_ga_s, sa_ga_n, sa_ga_i, sa_ga_j, sa_ga_B, sa_gb_s, sa_gb_n, sa_gb_i, sa_gb_j, sa_gb_A, sa_us, sa_un, sa_vs, sa_vn]
        · rw [h6 k k1]; simp (disch := omega) only [sa_gi_s, sa_gi_n, sa_gi_j, sa_gi_A, sa_gi_B, sa_gj_s, sa_gj_n, sa_gj_i, sa_gj_A, sa_gj_B, sa_ga_s, sa_ga_n, sa_ga_i, sa_ga_j, sa_ga_B, sa_gb_s, sa_gb_n, sa_gb_i, sa_gb_j, sa_gb_A, sa_us, sa_un, sa_vs, sa_vn]
        · obtain ⟨q1, q2⟩ := h7 j (by omega)
          rw [q1, q2]; simp (disch := omega) only [sa_gi_s, sa_gi_n, sa_gi_j, sa_gi_A, sa_gi_B, sa_gj_s, sa_gj_n, sa_gj_i, sa_gj_A, sa_gj_B, sa_ga_s, sa_ga_n, sa_ga_i, sa_ga_j, sa_ga_B, sa_gb_s, sa_gb_n, sa_gb_i, sa_gb_j, sa_gb_A, sa_us, sa_un, sa_vs, sa_vn]; exact ⟨trivial, trivial⟩
        · by_cases hpx : p = x
          · subst hpx
            obtain ⟨q1, q2⟩ := h7 (80 * t + p) (by omega)
            rw [q1, q2]; simp (disch := omega) only [sa_gi_s, sa_gi_n, sa_gi_j, sa_gi_A, sa_gi_B, sa_gj_s, sa_gj_n, sa_gj_i, sa_gj_A, sa_gj_B, sa_ga_s, sa_ga_n, sa_ga_i, sa_ga_j, sa_ga_B, sa_gb_s, sa_gb_n, sa_gb_i, sa_gb_j, sa_gb_A, sa_us, sa_un, sa_vs, sa_vn]
            exact ⟨trivial, fun _ => trivial, fun q => absurd hp q⟩
          · have := h8 hkd p (by omega) p2
            simp (disch := omega) only [sa_gi_s, sa_gi_n, sa_gi_j, sa_gi_A, sa_gi_B, sa_gj_s, sa_gj_n, sa_gj_i, sa_gj_A, sa_gj_B, sa_ga_s, sa_ga_n, sa_ga_i, sa_ga_j, sa_ga_B, sa_gb_s, sa_gb_n, sa_gb_i, sa_gb_j, sa_gb_A, sa_us, sa_un, sa_vs, sa_vn] at this
            exact this
      · obtain ⟨S', h1, h2, h3, h4, h5, h6, h7, h8⟩ := ih (x + 1) f (sc_mB (sc_mA S 17 (upd (sc_ga S 17) (80 * t + x) (sc_ga S 24 x))) 18 (vp_updL (sc_gb S 18) (80 * t + x) 0)) (by omega) (by omega) e0 e6
        refine ⟨S', ?_, h2, h3, h4, fun k k1 => ?_, fun k k1 => ?_, fun j hj => ?_, fun hkd p p1 p2 => ?_⟩
        · simp (disch := omega) only [sa_80m, sa_ck, sa_sq, sa_cl9, sa_gi_s, sa_gi_n, sa_gi_j, sa_gi_A, sa_gi_B, sa_gj_s, sa_gj_n, sa_gj_i, sa_gj_A, sa_gj_B, sa_ga_s, sa_ga_n, sa_ga_i, sa_ga_j, sa_ga_B, sa_gb_s, sa_gb_n, sa_gb_i, sa_gb_j, sa_gb_A, sa_us, sa_un, sa_vs, sa_vn, nI_1]
          rw [if_neg hp]
          exact h1
        · rw [h5 k k1]; simp (disch := omega) only [sa_gi_s, sa_gi_n, sa_gi_j, sa_gi_A, sa_gi_B, sa_gj_s, sa_gj_n, sa_gj_i, sa_gj_A, sa_gj_B, sa_ga_s, sa_ga_n, sa_ga_i, sa_ga_j, sa_ga_B, sa_gb_s, sa_gb_n, sa_gb_i, sa_gb_j, sa_gb_A, sa_us, sa_un, sa_vs, sa_vn]
        · rw [h6 k k1]; simp (disch := omega) only [sa_gi_s, sa_gi_n, sa_gi_j, sa_gi_A, sa_gi_B, sa_gj_s, sa_gj_n, sa_gj_i, sa_gj_A, sa_gj_B, sa_ga_s, sa_ga_n, sa_ga_i, sa_ga_j, sa_ga_B, sa_gb_s, sa_gb_n, sa_gb_i, sa_gb_j, sa_gb_A, sa_us, sa_un, sa_vs, sa_vn]
        · obtain ⟨q1, q2⟩ := h7 j (by omega)
          rw [q1, q2]; simp (disch := omega) only [sa_gi_s, sa_gi_n, sa_gi_j, sa_gi_A, sa_gi_B, sa_gj_s, sa_gj_n, sa_gj_i, sa_gj_A, sa_gj_B, sa_ga_s, sa_ga_n, sa_ga_i, sa_ga_j, sa_ga_B, sa_gb_s, sa_gb_n, sa_gb_i, sa_gb_j, sa_gb_A, sa_us, sa_un, sa_vs, sa_vn]; exact ⟨trivial, trivial⟩
        · by_cases hpx : p = x
          · subst hpx
            obtain ⟨q1, q2⟩ := h7 (80 * t + p) (by omega)
            rw [q1, q2]; simp (disch := omega) only [sa_gi_s, sa_gi_n, sa_gi_j, sa_gi_A, sa_gi_B, sa_gj_s, sa_gj_n, sa_gj_i, sa_gj_A, sa_gj_B, sa_ga_s, sa_ga_n, sa_ga_i, sa_ga_j, sa_ga_B, sa_gb_s, sa_gb_n, sa_gb_i, sa_gb_j, sa_gb_A, sa_us, sa_un, sa_vs, sa_vn]
            exact ⟨trivial, fun q => absurd q hp, fun _ => trivial⟩
          · have := h8 hkd p (by omega) p2
            simp (disch := omega) only [sa_gi_s, sa_gi_n, sa_gi_j, sa_gi_A, sa_gi_B, sa_gj_s, sa_gj_n, sa_gj_i, sa_gj_A, sa_gj_B, sa_ga_s, sa_ga_n, sa_ga_i, sa_ga_j, sa_ga_B, sa_gb_s, sa_gb_n, sa_gb_i, sa_gb_j, sa_gb_A, sa_us, sa_un, sa_vs, sa_vn] at this
            exact this
/-- what record leaves as it was -/
def rMf (t : Nat) (S S' : sc_M) : Prop := (∀ k, k ≠ 6 → sc_gi S' k = sc_gi S k) ∧ (∀ k, sc_gj S' k = sc_gj S k) ∧ (∀ k, k ≠ 7 → k ≠ 8 → k ≠ 11 → k ≠ 15 → k ≠ 17 → sc_ga S' k = sc_ga S k) ∧ (∀ k, k ≠ 9 → k ≠ 10 → k ≠ 12 → k ≠ 13 → k ≠ 14 → k ≠ 18 → k ≠ 19 → sc_gb S' k = sc_gb S k) ∧
  (∀ j, j < t → sc_ga S' 7 j = sc_ga S 7 j ∧ sc_ga S' 8 j = sc_ga S 8 j ∧ sc_ga S' 11 j = sc_ga S 11 j ∧ sc_gb S' 9 j = sc_gb S 9 j ∧ sc_gb S' 10 j = sc_gb S 10 j ∧ sc_gb S' 12 j = sc_gb S 12 j ∧ sc_gb S' 13 j = sc_gb S 13 j) ∧ (∀ j, j < 12 * t → sc_gb S' 14 j = sc_gb S 14 j ∧ sc_ga S' 15 j = sc_ga S 15 j ∧ sc_gb S' 19 j = sc_gb S 19 j) ∧ (∀ j, j < 80 * t → sc_ga S' 17 j = sc_ga S 17 j ∧ sc_gb S' 18 j = sc_gb S 18 j)
theorem rec_M {n np t : Nat} {kd wh : Int32} {ex : Int64} {S : sc_M} (hn : n ≤ 12) (hnp : np ≤ 80) (ht : t < 72) (e0 : sc_gi S 0 = nI n) (e1 : sc_gi S 1 = nI np) (e6 : sc_gi S 6 = nI t) :
    ∃ S', fn_X5_record S kd wh ex = some S' ∧ rMf t S S' ∧ sc_gi S' 6 = nI (t + 1) ∧ (sc_ga S' 7 t = kd ∧ sc_ga S' 8 t = wh ∧ sc_gb S' 9 t = sc_gj S 1 ∧ sc_gb S' 10 t = sc_gj S 2 ∧ sc_ga S' 11 t = sc_gi S 7 ∧ sc_gb S' 12 t = sc_gj S 0 ∧ sc_gb S' 13 t = ex) ∧ (∀ c, c < n → sc_gb S' 14 (12 * t + c) = sc_gb S 21 c ∧ sc_ga S' 15 (12 * t + c) = sc_ga S 22 c ∧ sc_gb S' 19 (12 * t + c) = sc_gb S 21 c) ∧ (kd < 3 → ∀ p, p < np → sc_ga S' 17 (80 * t + p) = sc_ga S 24 p ∧ (0 ≤ sc_ga S 24 p → sc_gb S' 18 (80 * t + p) = sc_gb S 25 p) ∧ (¬ 0 ≤ sc_ga S 24 p → sc_gb S' 18 (80 * t + p) = 0)) := by
  obtain ⟨S1, a1, a2, a3, a4, a5, a6, a7⟩ := rec_77 (kd := kd) hn ht n 0 sc_FU (sc_mB (sc_mB (sc_mA (sc_mB (sc_mB (sc_mA (sc_mA S 7 (upd (sc_ga S 7) t kd)) 8 (upd (sc_ga S 8) t wh)) 9 (vp_updL (sc_gb S 9) t (sc_gj S 1))) 10 (vp_updL (sc_gb S 10) t (sc_gj S 2))) 11 (upd (sc_ga S 11) t (sc_gi S 7))) 12 (vp_updL (sc_gb S 12) t (sc_gj S 0))) 13 (vp_updL (sc_gb S 13) t ex)) (Nat.zero_add n) (by rw [sa_FU]; omega) e0
  obtain ⟨S2, b1, b2, b3, b4, b5, b6, b7, b8⟩ := rec_155 (kd := kd) hnp ht np 0 sc_FU S1 (Nat.zero_add np) (by rw [sa_FU]; omega) (by rw [a2]; exact e1) (by rw [a2]; exact e6)
  refine ⟨S2, ?_, ⟨fun k hk => ?_, fun k => ?_, fun k k1 k2 k3 k4 k5 => ?_, fun k k1 k2 k3 k4 k5 k6 k7 => ?_, fun j hj => ⟨?_, ?_, ?_, ?_, ?_, ?_, ?_⟩, fun j hj => ⟨?_, ?_, ?_⟩, fun j hj => ⟨?_, ?_⟩⟩, b2, ⟨?_, ?_, ?_, ?_, ?_, ?_, ?_⟩, fun c hc => ?_, fun hkd p hp => ?_⟩
  · rw [fn_X5_record, sa_sq, e6]
    simp (disch := omega) only [sa_ck, sa_sq, sa_cl9, sa_gi_s, sa_gi_n, sa_gi_j, sa_gi_A, sa_gi_B, sa_gj_s, sa_gj_n, sa_gj_i, sa_gj_A, sa_gj_B, sa_ga_s, sa_ga_n, sa_ga_i, sa_ga_j, sa_ga_B, sa_gb_s, sa_gb_n, sa_gb_i, sa_gb_j, sa_gb_A, sa_us, sa_un, sa_vs, sa_vn]
    exact a1.trans b1
  · rw [b3 k hk, a2]; rfl
  · rw [b4, a3]; rfl
  · rw [b5 k k5, a4 k k4]; simp (disch := omega) only [sa_gi_s, sa_gi_n, sa_gi_j, sa_gi_A, sa_gi_B, sa_gj_s, sa_gj_n, sa_gj_i, sa_gj_A, sa_gj_B, sa_ga_s, sa_ga_n, sa_ga_i, sa_ga_j, sa_ga_B, sa_gb_s, sa_gb_n, sa_gb_i, sa_gb_j, sa_gb_A, sa_us, sa_un, sa_vs, sa_vn]
  · rw [b6 k k6, a5 k k5 k7]; simp (disch := omega) only [sa_gi_s, sa_gi_n, sa_gi_j, sa_gi_A, sa_gi_B, sa_gj_s, sa_gj_n, sa_gj_i, sa_gj_A, sa_gj_B, sa_ga_s, sa_ga_n, sa_ga_i, sa_ga_j, sa_ga_B, sa_gb_s, sa_gb_n, sa_gb_i, sa_gb_j, sa_gb_A, sa_us, sa_un, sa_vs, sa_vn]
  · rw [b5 7 (by decide), a4 7 (by decide)]; simp (disch := omega) only [sa_gi_s, sa_gi_n, sa_gi_j, sa_gi_A, sa_gi_B, sa_gj_s, sa_gj_n, sa_gj_i, sa_gj_A, sa_gj_B, sa_ga_s, sa_ga_n, sa_ga_i, sa_ga_j, sa_ga_B, sa_gb_s, sa_gb_n, sa_gb_i, sa_gb_j, sa_gb_A, sa_us, sa_un, sa_vs, sa_vn]
  · rw [b5 8 (by decide), a4 8 (by decide)]; simp (disch := omega) only [sa_gi_s, sa_gi_n, sa_gi_j, sa_gi_A, sa_gi_B, sa_gj_s, sa_gj_n, sa_gj_i, sa_gj_A, sa_gj_B, sa_ga_s, sa_ga_n, sa_ga_i, sa_ga_j, sa_ga_B, sa_gb_s, sa_gb_n, sa_gb_i, sa_gb_j, sa_gb_A, sa_us, sa_un, sa_vs, sa_vn]
  · rw [b5 11 (by decide), a4 11 (by decide)]; simp (disch := omega) only [sa_gi_s, sa_gi_n, sa_gi_j, sa_gi_A, sa_gi_B, sa_gj_s, sa_gj_n, sa_gj_i, sa_gj_A, sa_gj_B, sa_ga_s, sa_ga_n, sa_ga_i, sa_ga_j, sa_ga_B, sa_gb_s, sa_gb_n, sa_gb_i, sa_gb_j, sa_gb_A, sa_us, sa_un, sa_vs, sa_vn]
  · rw [b6 9 (by decide), a5 9 (by decide) (by decide)]; simp (disch := omega) only [sa_gi_s, sa_gi_n, sa_gi_j, sa_gi_A, sa_gi_B, sa_gj_s, sa_gj_n, sa_gj_i, sa_gj_A, sa_gj_B, sa_ga_s, sa_ga_n, sa_ga_i, sa_ga_j, sa_ga_B, sa_gb_s, sa_gb_n, sa_gb_i, sa_gb_j, sa_gb_A, sa_us, sa_un, sa_vs, sa_vn]
  · rw [b6 10 (by decide), a5 10 (by decide) (by decide)]; simp (disch := omega) only [sa_gi_s, sa_gi_n, sa_gi_j, sa_gi_A, sa_gi_B, sa_gj_s, sa_gj_n, sa_gj_i, sa_gj_A, sa_gj_B, sa_ga_s, sa_ga_n, sa_ga_i, sa_ga_j, sa_ga_B, sa_gb_s, sa_gb_n, sa_gb_i, sa_gb_j, sa_gb_A, sa_us, sa_un, sa_vs, sa_vn]
  · rw [b6 12 (by decide), a5 12 (by decide) (by decide)]; simp (disch := omega) only [sa_gi_s, sa_gi_n, sa_gi_j, sa_gi_A, sa_gi_B, sa_gj_s, sa_gj_n, sa_gj_i, sa_gj_A, sa_gj_B, sa_ga_s, sa_ga_n, sa_ga_i, sa_ga_j, sa_ga_B, sa_gb_s, sa_gb_n, sa_gb_i, sa_gb_j, sa_gb_A, sa_us, sa_un, sa_vs, sa_vn]
  · rw [b6 13 (by decide), a5 13 (by decide) (by decide)]; simp (disch := omega) only [sa_gi_s, sa_gi_n, sa_gi_j, sa_gi_A, sa_gi_B, sa_gj_s, sa_gj_n, sa_gj_i, sa_gj_A, sa_gj_B, sa_ga_s, sa_ga_n, sa_ga_i, sa_ga_j, sa_ga_B, sa_gb_s, sa_gb_n, sa_gb_i, sa_gb_j, sa_gb_A, sa_us, sa_un, sa_vs, sa_vn]
  · rw [b6 14 (by decide), (a6 j (by omega)).1]; simp (disch := omega) only [sa_gi_s, sa_gi_n, sa_gi_j, sa_gi_A, sa_gi_B, sa_gj_s, sa_gj_n, sa_gj_i, sa_gj_A, sa_gj_B, sa_ga_s, sa_ga_n, sa_ga_i, sa_ga_j, sa_ga_B, sa_gb_s, sa_gb_n, sa_gb_i, sa_gb_j, sa_gb_A, sa_us, sa_un, sa_vs, sa_vn]
  · rw [b5 15 (by decide), (a6 j (by omega)).2.1]; simp (disch := omega) only [sa_gi_s, sa_gi_n, sa_gi_j, sa_gi_A, sa_gi_B, sa_gj_s, sa_gj_n, sa_gj_i, sa_gj_A, sa_gj_B, sa_ga_s, sa_ga_n, sa_ga_i, sa_ga_j, sa_ga_B, sa_gb_s, sa_gb_n, sa_gb_i, sa_gb_j, sa_gb_A, sa_us, sa_un, sa_vs, sa_vn]
  · rw [b6 19 (by decide), (a6 j (by omega)).2.2]; simp (disch := omega) only [sa_gi_s, sa_gi_n, sa_gi_j, sa_gi_A, sa_gi_B, sa_gj_s, sa_gj_n, sa_gj_i, sa_gj_A, sa_gj_B, sa_ga_s, sa_ga_n, sa_ga_i, sa_ga_j, sa_ga_B, sa_gb_s, sa_gb_n, sa_gb_i, sa_gb_j, sa_gb_A, sa_us, sa_un, sa_vs, sa_vn]
  · rw [(b7 j (by omega)).1, a4 17 (by decide)]; simp (disch := omega) only [sa_gi_s, sa_gi_n, sa_gi_j, sa_gi_A, sa_gi_B, sa_gj_s, sa_gj_n, sa_gj_i, sa_gj_A, sa_gj_B, sa_ga_s, sa_ga_n, sa_ga_i, sa_ga_j, sa_ga_B, sa_gb_s, sa_gb_n, sa_gb_i, sa_gb_j, sa_gb_A, sa_us, sa_un, sa_vs, sa_vn]
  · rw [(b7 j (by omega)).2, a5 18 (by decide) (by decide)]; simp (disch := omega) only [sa_gi_s, sa_gi_n, sa_gi_j, sa_gi_A, sa_gi_B, sa_gj_s, sa_gj_n, sa_gj_i, sa_gj_A, sa_gj_B, sa_ga_s, sa_ga_n, sa_ga_i, sa_ga_j, sa_ga_B, sa_gb_s, sa_gb_n, sa_gb_i, sa_gb_j, sa_gb_A, sa_us, sa_un, sa_vs, sa_vn]
  · rw [b5 7 (by decide), a4 7 (by decide)]; simp (disch := omega) only [sa_gi_s, sa_gi_n, sa_gi_j, sa_gi_A, sa_gi_B, sa_gj_s, sa_gj_n, sa_gj_i, sa_gj_A, sa_gj_B, sa_ga_s, sa_ga_n, sa_ga_i, sa_ga_j, sa_ga_B, sa_gb_s, sa_gb_n, sa_gb_i, sa_gb_j, sa_gb_A, sa_us, sa_un, sa_vs, sa_vn]
  · rw [b5 8 (by decide), a4 8 (by decide)]; simp (disch := omega) only [sa_gi_s, sa_gi_n, sa_gi_j, sa_gi_A, sa_gi_B, sa_gj_s, sa_gj_n, sa_gj_i, sa_gj_A, sa_gj_B, sa_ga_s, sa_ga_n, sa_ga_i, sa_ga_j, sa_ga_B, sa_gb_s, sa_gb_n, sa_gb_i, sa_gb_j, sa_gb_A, sa_us, sa_un, sa_vs, sa_vn]
  · rw [b6 9 (by decide), a5 9 (by decide) (by decide)]; simp (disch := omega) only [sa_gi_s, sa_gi_n, sa_gi_j, sa_gi_A, sa_gi_B, sa_gj_s, sa_gj_n, sa_gj_i, sa_gj_A, sa_gj_B, sa_ga_s, sa_ga_n, sa_ga_i, sa_ga_j, sa_ga_B, sa_gb_s, sa_gb_n, sa_gb_i, sa_gb_j, sa_gb_A, sa_us, sa_un, sa_vs, sa_vn]
  · rw [b6 10 (by decide), a5 10 (by decide) (by decide)]; simp (disch := omega) only [sa_gi_s, sa_gi_n, sa_gi_j, sa_gi_A, sa_gi_B, sa_gj_s, sa_gj_n, sa_gj_i, sa_gj_A, sa_gj_B, sa_ga_s, sa_ga_n, sa_ga_i, sa_ga_j, sa_ga_B, sa_gb_s, sa_gb_n, sa_gb_i, sa_gb_j, sa_gb_A, sa_us, sa_un, sa_vs, sa_vn]
  · rw [b5 11 (by decide), a4 11 (by decide)]; simp (disch := omega) only [sa_gi_s, sa_gi_n, sa_gi_j, sa_gi_A, sa_gi_B, sa_gj_s, sa_gj_n, sa_gj_i, sa_gj_A, sa_gj_B, sa_ga_s, sa_ga_n, sa_ga_i, sa_ga_j, sa_ga_B, sa_gb_s, sa_gb_n, sa_gb_i, sa_gb_j, sa_gb_A, sa_us, sa_un, sa_vs, sa_vn]
  · rw [b6 12 (by decide), a5 12 (by decide) (by decide)]; simp (disch := omega) only [sa_gi_s, sa_gi_n, sa_gi_j, sa_gi_A, sa_gi_B, sa_gj_s, sa_gj_n, sa_gj_i, sa_gj_A, sa_gj_B, sa_ga_s, sa_ga_n, sa_ga_i, sa_ga_j, sa_ga_B, sa_gb_s, sa_gb_n, sa_gb_i, sa_gb_j, sa_gb_A, sa_us, sa_un, sa_vs, sa_vn]
  · rw [b6 13 (by decide), a5 13 (by decide) (by decide)]; simp (disch := omega) only [sa_gi_s, sa_gi_n, sa_gi_j, sa_gi_A, sa_gi_B, sa_gj_s, sa_gj_n, sa_gj_i, sa_gj_A, sa_gj_B, sa_ga_s, sa_ga_n, sa_ga_i, sa_ga_j, sa_ga_B, sa_gb_s, sa_gb_n, sa_gb_i, sa_gb_j, sa_gb_A, sa_us, sa_un, sa_vs, sa_vn]
  · have := a7 c (Nat.zero_le c) hc
    rw [b6 14 (by decide), b5 15 (by decide), b6 19 (by decide), this.1, this.2.1, this.2.2]
    simp (disch := omega) only [sa_gi_s, sa_gi_n, sa_gi_j, sa_gi_A, sa_gi_B, sa_gj_s, sa_gj_n, sa_gj_i, sa_gj_A, sa_gj_B, sa_ga_s, sa_ga_n, sa_ga_i, sa_ga_j, sa_ga_B, sa_gb_s, sa_gb_n, sa_gb_i, sa_gb_j, sa_gb_A, sa_us, sa_un, sa_vs, sa_vn]; exact ⟨trivial, trivial, trivial⟩
  · have := b8 hkd p (Nat.zero_le p) hp
    rw [a4 24 (by decide), a5 25 (by decide) (by decide)] at this
    simp (disch := omega) only [sa_gi_s, sa_gi_n, sa_gi_j, sa_gi_A, sa_gi_B, sa_gj_s, sa_gj_n, sa_gj_i, sa_gj_A, sa_gj_B, sa_ga_s, sa_ga_n, sa_ga_i, sa_ga_j, sa_ga_B, sa_gb_s, sa_gb_n, sa_gb_i, sa_gb_j, sa_gb_A, sa_us, sa_un, sa_vs, sa_vn] at this
    exact this
