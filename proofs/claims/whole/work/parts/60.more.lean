/-! ===== who has more: rows t - 1 down to 0, then the lots ===== -/
def hm (H : Nat → Nat → Int64) (lo : Nat → Int32) (a b : Nat) : Nat → Bool
  | 0 => decide (lo a < lo b)
  | t + 1 => if H t a = H t b then hm H lo a b t else decide (H t b < H t a)
/-- a number of votes that may be taken off another -/
def vOK (x : Int64) : Prop := 0 ≤ x.toInt ∧ x.toInt < 2 ^ 60
theorem v_sub {x y : Int64} (hx : vOK x) (hy : vOK y) : (x - y).toInt = x.toInt - y.toInt := by
  unfold vOK at hx hy
  rw [Int64.toInt_sub, Int.bmod_def]
  split <;> omega
theorem v_eq {x y : Int64} (hx : vOK x) (hy : vOK y) : x - y = 0 ↔ x = y := by
  have := v_sub hx hy
  constructor
  · intro h
    rw [h] at this
    apply Int64.toInt_inj.mp
    have e0 : (0 : Int64).toInt = 0 := rfl
    omega
  · intro h
    rw [h]
    exact Int64.sub_self _
theorem v_le {x y : Int64} (hx : vOK x) (hy : vOK y) : x - y ≤ 0 ↔ x ≤ y := by
  have := v_sub hx hy
  rw [Int64.le_iff_toInt_le, Int64.le_iff_toInt_le, this]
  have e0 : (0 : Int64).toInt = 0 := rfl
  omega
theorem n_m1 (t : Nat) : nI t + (-1) = nI t - 1 := by rw [Int32.sub_eq_add_neg]
theorem hm_X {S : sc_M} {n a b : Nat} {H : Nat → Nat → Int64} {lo : Nat → Int32} (hn : n ≤ 12) (ha : a < n) (hb : b < n) (hl : ∀ c, c < n → sc_ga S 11 c = lo c) : ∀ (t f : Nat), t ≤ 72 → t < f → (∀ i, i < t → ∀ c, c < n → sc_gb S 19 (12 * i + c) = H i c ∧ vOK (H i c)) → fn_X1_hasMore_23 f S (nI a) (nI b) 0 (nI t - 1) = some (b2i (hm H lo a b t), S) := by
  intro t
  induction t with
  | zero =>
    intro f _ hf _
    obtain ⟨f, rfl⟩ : ∃ f', f = f' + 1 := ⟨f - 1, by omega⟩
    rw [fn_X1_hasMore_23, if_pos (by decide), sa_ck _ (by omega) (by omega), sa_ck _ (by omega) (by omega), sa_cl9 (by omega), sa_cl9 (by omega), hl a ha, hl b hb, hm]
    by_cases h : lo a < lo b
    · rw [if_neg (Int32.not_le.mpr h), decide_eq_true h]; rfl
    · rw [if_pos (Int32.not_lt.mp h), decide_eq_false h]; rfl
  | succ t ih =>
    intro f ht hf hH
    obtain ⟨f, rfl⟩ : ∃ f', f = f' + 1 := ⟨f - 1, by omega⟩
    obtain ⟨q1, q2⟩ := hH t (by omega) a ha
    obtain ⟨q3, q4⟩ := hH t (by omega) b hb
    rw [fn_X1_hasMore_23, nI_pred, if_neg (nI_pos (by omega)), sa_cell, sa_cl, sa_ck _ (by omega) (by omega), sa_cell, sa_cl, sa_ck _ (by omega) (by omega), sa_sq, sa_cl9 (by omega), sa_cl9 (by omega), q1, q3, hm]
    by_cases h : H t a = H t b
    · rw [if_pos ((v_eq q2 q4).mpr h), if_pos h, n_m1]
      exact ih f (by omega) (by omega) (fun i hi => hH i (by omega))
    · rw [if_neg (fun q => h ((v_eq q2 q4).mp q)), if_neg h]
      by_cases h2 : H t b < H t a
      · rw [if_neg (fun q => absurd h2 (Int64.not_lt.mpr ((v_le q2 q4).mp q))), decide_eq_true h2]; rfl
      · rw [if_pos ((v_le q2 q4).mpr (Int64.not_lt.mp h2)), decide_eq_false h2]; rfl
theorem hm_M {S : sc_M} {n a b r : Nat} {H : Nat → Nat → Int64} {lo : Nat → Int32} (hn : n ≤ 12) (ha : a < n) (hb : b < n) (hr : r < 3) (er : sc_gi S 2 = nI r) (hl : ∀ c, c < n → sc_ga S 2 c = lo c) : ∀ (t f : Nat), t ≤ 72 → t < f → (∀ i, i < t → ∀ c, c < n → sc_gb S 14 (12 * i + c) = H i c) → fn_X5_hasMore_45 f S (nI a) (nI b) (nI t - 1) = some (b2i (hm H lo a b t), S) := by
  intro t
  induction t with
  | zero =>
    intro f _ hf _
    obtain ⟨f, rfl⟩ : ∃ f', f = f' + 1 := ⟨f - 1, by omega⟩
    rw [fn_X5_hasMore_45, if_pos (by decide), fn_X5_hasMore_121, sa_ck _ (by omega) (by omega), sa_ck _ (by omega) (by omega), sa_cl9 (by omega), sa_cl9 (by omega), hl a ha, hl b hb, hm]
    by_cases h : lo a < lo b
    · rw [if_neg (Int32.not_le.mpr h), decide_eq_true h]; rfl
    · rw [if_pos (Int32.not_lt.mp h), decide_eq_false h]; rfl
  | succ t ih =>
    intro f ht hf hH
    obtain ⟨f, rfl⟩ : ∃ f', f = f' + 1 := ⟨f - 1, by omega⟩
    have q1 := hH t (by omega) a ha
    have q3 := hH t (by omega) b hb
    rw [fn_X5_hasMore_45, nI_pred, if_neg (nI_pos (by omega)), er, if_neg (by rw [sa_l3, nI_leI (by omega) (by omega)]; omega), sa_12m, sa_12m, sa_ck _ (by omega) (by omega), sa_ck _ (by omega) (by omega), sa_cl9 (by omega), sa_cl9 (by omega), q1, q3, sa_ck _ (by omega) (by omega), sa_ck _ (by omega) (by omega), hm]
    by_cases h : H t a = H t b
    · rw [if_pos h, if_pos h, n_m1]
      exact ih f (by omega) (by omega) (fun i hi => hH i (by omega))
    · rw [if_neg h, if_neg h]
      by_cases h2 : H t b < H t a
      · rw [if_neg (Int64.not_le.mpr h2), decide_eq_true h2]; rfl
      · rw [if_pos (Int64.not_lt.mp h2), decide_eq_false h2]; rfl
