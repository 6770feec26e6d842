/-! ===== hasMore of both sides ===== -/
theorem hmX_p {S : sc_M} {n a b r st : Nat} {H : Nat → Nat → Int64} {lo : Nat → Int32} (hn : n ≤ 12) (ha : a < n) (hb : b < n) (hr : r < 3) (er : sc_gi S 2 = nI r) (es : sc_gi S 5 = nI st) (hst : st ≤ 72) (hl : ∀ c, c < n → sc_ga S 11 c = lo c) (hH : ∀ i, i < st → ∀ c, c < n → sc_gb S 19 (12 * i + c) = H i c ∧ vOK (H i c)) : fn_X1_hasMore S (nI a) (nI b) = some (b2i (hm H lo a b st), S) := by
  have h1 := hm_X hn ha hb hl st sc_FU hst (by rw [sa_FU]; omega) hH
  rw [fn_X1_hasMore, fn_X1_hasMore_e, er, if_neg (by rw [sa_l3, nI_eq (by omega) (by omega)]; omega), fn_X1_hasMore_16, fn_X1_now, sa_cl, es, h1, sa_bz _ (b2i_01 _)]
theorem hmX_3 {S : sc_M} {n a b st : Nat} {v : Nat → Int64} {lo : Nat → Int32} (hn : n ≤ 12) (ha : a < n) (hb : b < n) (er : sc_gi S 2 = 3) (es : sc_gi S 5 = nI st) (hst : st ≤ 72) (hs1 : 1 ≤ st) (hl : ∀ c, c < n → sc_ga S 11 c = lo c) (hH : ∀ c, c < n → sc_gb S 19 (12 * (st - 1) + c) = v c ∧ vOK (v c)) : fn_X1_hasMore S (nI a) (nI b) = some (b2i (hm (fun _ => v) lo a b 1), S) := by
  obtain ⟨q1, q2⟩ := hH a ha
  obtain ⟨q3, q4⟩ := hH b hb
  have hlast : ∀ f, fn_X1_hasMore_23 (f + 1) S (nI a) (nI b) (nI (st - 1)) (nI (st - 1) - 1) = some (b2i (decide (lo a < lo b)), S) := fun f => by
    rw [fn_X1_hasMore_23, if_pos (pi_low (by omega)), sa_ck _ (by omega) (by omega), sa_ck _ (by omega) (by omega), sa_cl9 (by omega), sa_cl9 (by omega), hl a ha, hl b hb]
    by_cases h : lo a < lo b
    · rw [if_neg (Int32.not_le.mpr h), decide_eq_true h]; rfl
    · rw [if_pos (Int32.not_lt.mp h), decide_eq_false h]; rfl
  have key : fn_X1_hasMore_23 sc_FU S (nI a) (nI b) (nI (st - 1)) (nI (st - 1)) = some (b2i (hm (fun _ => v) lo a b 1), S) := by
    obtain ⟨f, eh⟩ : ∃ f, sc_FU = f + 1 + 1 := ⟨98, rfl⟩
    rw [eh, fn_X1_hasMore_23, if_neg (nI_nlt (Nat.le_refl _) (by omega)), sa_cell, sa_cl, sa_ck _ (by omega) (by omega), sa_cell, sa_cl, sa_ck _ (by omega) (by omega), sa_sq, sa_cl9 (by omega), sa_cl9 (by omega), q1, q3, n_m1, hlast f, hm, hm]
    by_cases h : v a = v b
    · rw [if_pos ((v_eq q2 q4).mpr h), if_pos h]
    · rw [if_neg (fun q => h ((v_eq q2 q4).mp q)), if_neg h]
      by_cases h2 : v b < v a
      · rw [if_neg (fun q => absurd h2 (Int64.not_lt.mpr ((v_le q2 q4).mp q))), decide_eq_true h2]; rfl
      · rw [if_pos ((v_le q2 q4).mpr (Int64.not_lt.mp h2)), decide_eq_false h2]; rfl
  rw [fn_X1_hasMore, fn_X1_hasMore_e, er, if_pos rfl, fn_X1_now, sa_cl, fn_X1_hasMore_16, fn_X1_now, sa_cl, es, sa_m1 (by omega), key, sa_bz _ (b2i_01 _)]
/-- the reference compares what there is now first -/
def hv (v : Nat → Int64) (H : Nat → Nat → Int64) (lo : Nat → Int32) (a b t : Nat) : Bool := if v a = v b then hm H lo a b t else decide (v b < v a)
theorem hmM_p {S : sc_M} {n a b r t : Nat} {v : Nat → Int64} {H : Nat → Nat → Int64} {lo : Nat → Int32} (hn : n ≤ 12) (ha : a < n) (hb : b < n) (hr : r < 3) (er : sc_gi S 2 = nI r) (es : sc_gi S 6 = nI t) (ht : t ≤ 72) (hl : ∀ c, c < n → sc_ga S 2 c = lo c) (hvv : ∀ c, c < n → sc_gb S 21 c = v c) (hH : ∀ i, i < t → ∀ c, c < n → sc_gb S 14 (12 * i + c) = H i c) : fn_X5_hasMore S (nI a) (nI b) = some (b2i (hv v H lo a b t), S) := by
  have h1 := hm_M hn ha hb hr er hl t sc_FU ht (by rw [sa_FU]; omega) hH
  rw [fn_X5_hasMore, fn_X5_hasMore_e, sa_ck _ (by omega) (by omega), sa_ck _ (by omega) (by omega), sa_cl9 (by omega), sa_cl9 (by omega), hvv a ha, hvv b hb, sa_sq, es, h1, sa_ck _ (by omega) (by omega), sa_ck _ (by omega) (by omega), hv]
  by_cases h : v a = v b
  · rw [if_pos h, if_pos h, sa_bz _ (b2i_01 _)]
  · rw [if_neg h, if_neg h]
    by_cases h2 : v b < v a
    · rw [if_neg (Int64.not_le.mpr h2), decide_eq_true h2]; rfl
    · rw [if_pos (Int64.not_lt.mp h2), decide_eq_false h2]; rfl
theorem hmM_3 {S : sc_M} {n a b t : Nat} {v : Nat → Int64} {lo : Nat → Int32} (hn : n ≤ 12) (ha : a < n) (hb : b < n) (er : sc_gi S 2 = 3) (es : sc_gi S 6 = nI t) (ht : t ≤ 72) (hl : ∀ c, c < n → sc_ga S 2 c = lo c) (hvv : ∀ c, c < n → sc_gb S 21 c = v c) : fn_X5_hasMore S (nI a) (nI b) = some (b2i (hm (fun _ => v) lo a b 1), S) := by
  have hlast : fn_X5_hasMore_121 S (nI a) (nI b) = some (b2i (decide (lo a < lo b)), S) := by
    rw [fn_X5_hasMore_121, sa_ck _ (by omega) (by omega), sa_ck _ (by omega) (by omega), sa_cl9 (by omega), sa_cl9 (by omega), hl a ha, hl b hb]
    by_cases h : lo a < lo b
    · rw [if_neg (Int32.not_le.mpr h), decide_eq_true h]; rfl
    · rw [if_pos (Int32.not_lt.mp h), decide_eq_false h]; rfl
  have h45 : ∀ x, fn_X5_hasMore_45 sc_FU S (nI a) (nI b) x = some (b2i (decide (lo a < lo b)), S) := fun x => by
    obtain ⟨f, eh⟩ : ∃ f, sc_FU = f + 1 := ⟨99, rfl⟩
    rw [eh, fn_X5_hasMore_45, hlast, er]
    by_cases hx : x < 0
    · rw [if_pos hx]
    · rw [if_neg hx, if_pos (by decide)]
  rw [fn_X5_hasMore, fn_X5_hasMore_e, sa_ck _ (by omega) (by omega), sa_ck _ (by omega) (by omega), sa_cl9 (by omega), sa_cl9 (by omega), hvv a ha, hvv b hb, sa_sq, h45, sa_ck _ (by omega) (by omega), sa_ck _ (by omega) (by omega), hm, hm]
  by_cases h : v a = v b
  · rw [if_pos h, if_pos h, sa_bz _ (b2i_01 _)]
  · rw [if_neg h, if_neg h]
    by_cases h2 : v b < v a
    · rw [if_neg (Int64.not_le.mpr h2), decide_eq_true h2]; rfl
    · rw [if_pos (Int64.not_lt.mp h2), decide_eq_false h2]; rfl
/-- the current row as one more row; a row that is told twice counts once -/
theorem hv_new (v : Nat → Int64) (H : Nat → Nat → Int64) (lo : Nat → Int32) (a b t : Nat) (h : ∀ c, H t c = v c) : hm H lo a b (t + 1) = hv v H lo a b t := by rw [hm, hv, h a, h b]
theorem hv_twice (v : Nat → Int64) (H : Nat → Nat → Int64) (lo : Nat → Int32) (a b t : Nat) (h : ∀ c, H t c = v c) : hv v H lo a b (t + 1) = hm H lo a b (t + 1) := by
  rw [hv, hm, h a, h b]
  by_cases e : v a = v b
  · rw [if_pos e, if_pos e]
  · rw [if_neg e, if_neg e]
