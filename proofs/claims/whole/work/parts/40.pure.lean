/-! ===== the walks' meanings: how the memory is read behind a write ===== -/
theorem sa_gi_s (S : sc_M) (k : Nat) (v : Int32) : sc_gi (sc_mi S k v) k = v := if_pos rfl
theorem sa_gi_n (S : sc_M) (k : Nat) (v : Int32) (j : Nat) (h : j ≠ k) : sc_gi (sc_mi S k v) j = sc_gi S j := if_neg h
theorem sa_gi_j (S : sc_M) (k : Nat) (v : Int64) (j : Nat) : sc_gi (sc_mj S k v) j = sc_gi S j := rfl
theorem sa_gi_A (S : sc_M) (k : Nat) (f : Nat → Int32) (j : Nat) : sc_gi (sc_mA S k f) j = sc_gi S j := rfl
theorem sa_gi_B (S : sc_M) (k : Nat) (f : Nat → Int64) (j : Nat) : sc_gi (sc_mB S k f) j = sc_gi S j := rfl
theorem sa_gj_s (S : sc_M) (k : Nat) (v : Int64) : sc_gj (sc_mj S k v) k = v := if_pos rfl
theorem sa_gj_n (S : sc_M) (k : Nat) (v : Int64) (j : Nat) (h : j ≠ k) : sc_gj (sc_mj S k v) j = sc_gj S j := if_neg h
theorem sa_gj_i (S : sc_M) (k : Nat) (v : Int32) (j : Nat) : sc_gj (sc_mi S k v) j = sc_gj S j := rfl
theorem sa_gj_A (S : sc_M) (k : Nat) (f : Nat → Int32) (j : Nat) : sc_gj (sc_mA S k f) j = sc_gj S j := rfl
theorem sa_gj_B (S : sc_M) (k : Nat) (f : Nat → Int64) (j : Nat) : sc_gj (sc_mB S k f) j = sc_gj S j := rfl
theorem sa_ga_s (S : sc_M) (k : Nat) (f : Nat → Int32) : sc_ga (sc_mA S k f) k = f := if_pos rfl
theorem sa_ga_n (S : sc_M) (k : Nat) (f : Nat → Int32) (j : Nat) (h : j ≠ k) : sc_ga (sc_mA S k f) j = sc_ga S j := if_neg h
theorem sa_ga_i (S : sc_M) (k : Nat) (v : Int32) (j : Nat) : sc_ga (sc_mi S k v) j = sc_ga S j := rfl
theorem sa_ga_j (S : sc_M) (k : Nat) (v : Int64) (j : Nat) : sc_ga (sc_mj S k v) j = sc_ga S j := rfl
theorem sa_ga_B (S : sc_M) (k : Nat) (f : Nat → Int64) (j : Nat) : sc_ga (sc_mB S k f) j = sc_ga S j := rfl
theorem sa_gb_s (S : sc_M) (k : Nat) (f : Nat → Int64) : sc_gb (sc_mB S k f) k = f := if_pos rfl
theorem sa_gb_n (S : sc_M) (k : Nat) (f : Nat → Int64) (j : Nat) (h : j ≠ k) : sc_gb (sc_mB S k f) j = sc_gb S j := if_neg h
theorem sa_gb_i (S : sc_M) (k : Nat) (v : Int32) (j : Nat) : sc_gb (sc_mi S k v) j = sc_gb S j := rfl
theorem sa_gb_j (S : sc_M) (k : Nat) (v : Int64) (j : Nat) : sc_gb (sc_mj S k v) j = sc_gb S j := rfl
theorem sa_gb_A (S : sc_M) (k : Nat) (f : Nat → Int32) (j : Nat) : sc_gb (sc_mA S k f) j = sc_gb S j := rfl
theorem sa_us (f : Nat → Int32) (k : Nat) (x : Int32) : upd f k x k = x := if_pos rfl
theorem sa_un (f : Nat → Int32) (k : Nat) (x : Int32) (j : Nat) (h : j ≠ k) : upd f k x j = f j := if_neg h
theorem sa_vs (f : Nat → Int64) (k : Nat) (x : Int64) : vp_updL f k x k = x := if_pos rfl
theorem sa_vn (f : Nat → Int64) (k : Nat) (x : Int64) (j : Nat) (h : j ≠ k) : vp_updL f k x j = f j := if_neg h
/-! ===== how a meaning goes on ===== -/
theorem sa_ck {α : Type} {k n : Nat} (K : Option α) (h : k < n) (hn : n < 100000) : sc_ck (nI k) n K = K := by
  unfold sc_ck
  rw [if_neg]
  exact nI_in h (by omega)
theorem sa_sq {α β : Type} (a : α) (k : α → Option β) : sc_sq a k = k a := rfl
theorem sa_cl {α β : Type} (r : α) (S : sc_M) (k : α → sc_M → Option β) : sc_cl (some (r, S)) k = k r S := rfl
theorem sa_cv {β : Type} (S : sc_M) (k : sc_M → Option β) : sc_cv (some S) k = k S := rfl
theorem sa_bz0 (S : sc_M) : sc_bz (some ((0 : Int32), S)) = some (0, S) := rfl
theorem sa_bz1 (S : sc_M) : sc_bz (some ((1 : Int32), S)) = some (1, S) := rfl
theorem sa_bz {r : Int32} (S : sc_M) (h : r = 0 ∨ r = 1) : sc_bz (some (r, S)) = some (r, S) := by
  rcases h with rfl | rfl <;> rfl
theorem sa_nz {α : Type} {y : Int32} (K : Option α) (h : y ≠ 0) : sc_nz y K = K := by unfold sc_nz; rw [if_neg h]
theorem sa_nl {α : Type} {y : Int64} (K : Option α) (h : y ≠ 0) : sc_nl y K = K := by unfold sc_nl; rw [if_neg h]
theorem sa_l0 : (0 : Int32) = nI 0 := rfl
theorem sa_l1 : (1 : Int32) = nI 1 := rfl
theorem sa_l3 : (3 : Int32) = nI 3 := rfl
theorem sa_l10 : (10 : Int32) = nI 10 := rfl
theorem sa_l12 : (12 : Int32) = nI 12 := rfl
theorem sa_l13 : (13 : Int32) = nI 13 := rfl
theorem sa_l16 : (16 : Int32) = nI 16 := rfl
theorem sa_l80 : (80 : Int32) = nI 80 := rfl
theorem sa_l500 : (500 : Int32) = nI 500 := rfl
theorem sa_12m (p k : Nat) : (12 : Int32) * nI p + nI k = nI (12 * p + k) := by rw [sa_l12, pk_mul, nI_add]
theorem sa_12x (p k : Nat) : nI p * (12 : Int32) + nI k = nI (12 * p + k) := by rw [sa_l12, pk_mul, nI_add, Nat.mul_comm]
theorem sa_80m (p k : Nat) : (80 : Int32) * nI p + nI k = nI (80 * p + k) := by rw [sa_l80, pk_mul, nI_add]
theorem sa_80x (p k : Nat) : nI p * (80 : Int32) + nI k = nI (80 * p + k) := by rw [sa_l80, pk_mul, nI_add, Nat.mul_comm]
theorem sa_cl9 {k : Nat} (h : k < 100000) : (nI k).toNatClampNeg = k := nI_clamp (by omega)
theorem sa_le {a b : Nat} (ha : a < 100000) (hb : b < 100000) : (nI a ≤ nI b) = (a ≤ b) := propext (nI_leI (by omega) (by omega))
theorem sa_lt {a b : Nat} (ha : a < 100000) (hb : b < 100000) : (nI a < nI b) = (a < b) := propext (nI_ltI (by omega) (by omega))
theorem sa_eq {a b : Nat} (ha : a < 100000) (hb : b < 100000) : (nI a = nI b) = (a = b) := propext (nI_eq (by omega) (by omega))
theorem sa_m1 {a : Nat} (h : 0 < a) : nI a - 1 = nI (a - 1) := by rw [sa_l1, pk_sub h]
theorem sa_FU : sc_FU = 99 + 1 := rfl
/-- a number is a place or none -/
theorem sa_rg (x : Int32) {n : Nat} (hn : n < 100000) : (x < 0 ∨ nI n ≤ x) ∨ ∃ j : Nat, j < n ∧ x = nI j := by
  rcases pk_ix x (show n < 2 ^ 31 by omega) with h | h | h
  · exact Or.inl (Or.inl h)
  · exact Or.inl (Or.inr h)
  · exact Or.inr h
/-! the reference's range test -/
theorem pi_in {S : sc_M} {x a b : Int32} (h1 : a ≤ x) (h2 : x ≤ b) : fn_X5_in S x a b = some (1, S) := by
  rw [fn_X5_in, fn_X5_in_e, if_neg (Int32.not_lt.mpr h1), if_neg (Int32.not_lt.mpr h2)]; rfl
theorem pi_out {S : sc_M} {x a b : Int32} (h : x < a ∨ b < x) : fn_X5_in S x a b = some (0, S) := by
  rw [fn_X5_in, fn_X5_in_e]
  by_cases h1 : x < a
  · rw [if_pos h1]; rfl
  · rw [if_neg h1, if_pos (h.resolve_left h1)]; rfl
theorem pi_low {n : Nat} (hn : n < 100000) : nI n - 1 < nI n := by
  rw [Int32.lt_iff_toInt_lt, sa_l1, pk_sub_toInt (by omega) (by omega), nI_toInt (by omega)]; omega
theorem pi_lt {n : Nat} (hn : n < 100000) {x : Int32} (h : nI n ≤ x) : nI n - 1 < x := by
  have := pi_low hn
  rw [Int32.lt_iff_toInt_lt] at *
  rw [Int32.le_iff_toInt_le] at h
  omega
theorem pi_le {n j : Nat} (hn : n < 100000) (h : j < n) : nI j ≤ nI n - 1 := by
  rw [sa_m1 (by omega)]; exact nI_le (by omega) (by omega)
/-- 0 to n - 1 -/
theorem pr_in {S : sc_M} {n j : Nat} (hn : n < 100000) (h : j < n) : fn_X5_in S (nI j) 0 (nI n - 1) = some (1, S) := pi_in (nI_pos' (by omega)) (pi_le hn h)
theorem pr_out {S : sc_M} {n : Nat} {x : Int32} (hn : n < 100000) (h : x < 0 ∨ nI n ≤ x) : fn_X5_in S x 0 (nI n - 1) = some (0, S) := pi_out (h.imp id (pi_lt hn))
theorem pn_in {S : sc_M} {n c : Nat} (hn : n < 100000) (h0 : sc_gi S 0 = nI n) (h : c < n) : fn_X5_noOne S (nI c) = some (0, S) := by
  rw [fn_X5_noOne, fn_X5_noOne_e, h0, pr_in hn h]; rfl
theorem pn_out {S : sc_M} {n : Nat} {x : Int32} (hn : n < 100000) (h0 : sc_gi S 0 = nI n) (h : x < 0 ∨ nI n ≤ x) : fn_X5_noOne S x = some (1, S) := by
  rw [fn_X5_noOne, fn_X5_noOne_e, h0, pr_out hn h]; rfl
theorem ps_in {S : sc_M} {n c : Nat} (hn : n < 100000) (h0 : sc_gi S 6 = nI n) (h : c < n) : fn_X5_noStage S (nI c) = some (0, S) := by
  rw [fn_X5_noStage, fn_X5_noStage_e, h0, pr_in hn h]; rfl
theorem ps_out {S : sc_M} {n : Nat} {x : Int32} (hn : n < 100000) (h0 : sc_gi S 6 = nI n) (h : x < 0 ∨ nI n ≤ x) : fn_X5_noStage S x = some (1, S) := by
  rw [fn_X5_noStage, fn_X5_noStage_e, h0, pr_out hn h]; rfl
theorem pv_in {S : sc_M} {n m i c : Nat} (hn : n < 100000) (hm : m < 100000) (h0 : sc_gi S 6 = nI n) (h1 : sc_gi S 4 = nI m) (h : i < n) (h2 : c < m) : fn_X5_noVotes S (nI i) (nI c) = some (0, S) := by
  rw [fn_X5_noVotes, fn_X5_noVotes_e, ps_in hn h0 h, sa_cl, if_pos rfl, h1, pr_in hm h2]; rfl
theorem pv_out {S : sc_M} {n m : Nat} {x y : Int32} (hn : n < 100000) (hm : m < 100000) (h0 : sc_gi S 6 = nI n) (h1 : sc_gi S 4 = nI m) (h : (x < 0 ∨ nI n ≤ x) ∨ (y < 0 ∨ nI m ≤ y)) : fn_X5_noVotes S x y = some (1, S) := by
  rw [fn_X5_noVotes, fn_X5_noVotes_e]
  rcases sa_rg x hn with hx | ⟨i, hi, rfl⟩
  · rw [ps_out hn h0 hx]; rfl
  · rw [ps_in hn h0 hi, sa_cl, if_pos rfl, h1]
    rcases h with h | h
    · exfalso
      rcases h with h | h
      · exact nI_pos (by omega) h
      · exact nI_ge hi (by omega) h
    · rw [pr_out hm h]; rfl
/-! the class's range tests -/
theorem xc_in {S : sc_M} {n c : Nat} (hn : n < 100000) (h0 : sc_gi S 0 = nI n) (h : c < n) : fn_X0_hasCandidate S (nI c) = some (1, S) := by
  rw [fn_X0_hasCandidate, fn_X0_hasCandidate_e, h0, if_neg (nI_pos (by omega)), if_neg (nI_ge h (by omega))]; rfl
theorem xc_out {S : sc_M} {n : Nat} {x : Int32} (h0 : sc_gi S 0 = nI n) (h : x < 0 ∨ nI n ≤ x) : fn_X0_hasCandidate S x = some (0, S) := by
  rw [fn_X0_hasCandidate, fn_X0_hasCandidate_e, h0]
  by_cases h1 : x < 0
  · rw [if_pos h1]; rfl
  · rw [if_neg h1, if_pos (h.resolve_left h1)]; rfl
theorem xp_in {S : sc_M} {n c : Nat} (hn : n < 100000) (h0 : sc_gi S 1 = nI n) (h : c < n) : fn_X0_hasPile S (nI c) = some (1, S) := by
  rw [fn_X0_hasPile, fn_X0_hasPile_e, h0, if_neg (nI_pos (by omega)), if_neg (nI_ge h (by omega))]; rfl
theorem xp_out {S : sc_M} {n : Nat} {x : Int32} (h0 : sc_gi S 1 = nI n) (h : x < 0 ∨ nI n ≤ x) : fn_X0_hasPile S x = some (0, S) := by
  rw [fn_X0_hasPile, fn_X0_hasPile_e, h0]
  by_cases h1 : x < 0
  · rw [if_pos h1]; rfl
  · rw [if_neg h1, if_pos (h.resolve_left h1)]; rfl
theorem xs_in {S : sc_M} {n c : Nat} (hn : n < 100000) (h0 : sc_gi S 5 = nI n) (h : c < n) : fn_X1_hasStage S (nI c) = some (1, S) := by
  rw [fn_X1_hasStage, fn_X1_hasStage_e, h0, if_neg (nI_pos (by omega)), if_neg (nI_ge h (by omega))]; rfl
theorem xs_out {S : sc_M} {n : Nat} {x : Int32} (h0 : sc_gi S 5 = nI n) (h : x < 0 ∨ nI n ≤ x) : fn_X1_hasStage S x = some (0, S) := by
  rw [fn_X1_hasStage, fn_X1_hasStage_e, h0]
  by_cases h1 : x < 0
  · rw [if_pos h1]; rfl
  · rw [if_neg h1, if_pos (h.resolve_left h1)]; rfl
theorem xv_in {S : sc_M} {n m i c : Nat} (hn : n < 100000) (hm : m < 100000) (h0 : sc_gi S 5 = nI n) (h1 : sc_gi S 4 = nI m) (h : i < n) (h2 : c < m) : fn_X1_hasCell S (nI i) (nI c) = some (1, S) := by
  rw [fn_X1_hasCell, fn_X1_hasCell_e, xs_in hn h0 h, sa_cl, if_neg (by decide), h1, if_neg (nI_pos (by omega)), if_neg (nI_ge h2 (by omega))]; rfl
theorem xv_out {S : sc_M} {n m : Nat} {x y : Int32} (hn : n < 100000) (h0 : sc_gi S 5 = nI n) (h1 : sc_gi S 4 = nI m) (h : (x < 0 ∨ nI n ≤ x) ∨ (y < 0 ∨ nI m ≤ y)) : fn_X1_hasCell S x y = some (0, S) := by
  rw [fn_X1_hasCell, fn_X1_hasCell_e]
  rcases sa_rg x hn with hx | ⟨i, hi, rfl⟩
  · rw [xs_out h0 hx]; rfl
  · rw [xs_in hn h0 hi, sa_cl, if_neg (by decide), h1]
    rcases h with h | h
    · exfalso
      rcases h with h | h
      · exact nI_pos (by omega) h
      · exact nI_ge hi (by omega) h
    · by_cases h3 : y < 0
      · rw [if_pos h3]; rfl
      · rw [if_neg h3, if_pos (h.resolve_left h3)]; rfl
