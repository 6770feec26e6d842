theorem hop_X {S : sc_M} {n R : Nat} {u : Nat → Int32} (hn : n ≤ 12) (e4 : sc_gi S 4 = nI n) (e6 : sc_gi S 6 = nI R) (hR : R + 12 ≤ 864) (hu : ∀ c, c < n → sc_ga S 20 (R + c) = u c) : ∀ (d c f : Nat), c + d = n → d < f → fn_X1_hopefulOnes_4 f S (nI (cnP (fun c => decide (u c = 0)) c)) (nI c) = some (nI (cnP (fun c => decide (u c = 0)) n), S) := by
  intro d
  induction d with
  | zero =>
    intro c f hc hf
    obtain ⟨f, rfl⟩ : ∃ f', f = f' + 1 := ⟨f - 1, by omega⟩
    obtain rfl : c = n := by omega
    rw [fn_X1_hopefulOnes_4, e4, if_pos (nI_le (by omega) (by omega))]
  | succ d ih =>
    intro c f hc hf
    obtain ⟨f, rfl⟩ : ∃ f', f = f' + 1 := ⟨f - 1, by omega⟩
    have ihk := ih (c + 1) f (by omega) (by omega)
    rw [fn_X1_hopefulOnes_4, e4, if_neg (nI_ge (by omega) (by omega)), isH_X e6 hR hn (by omega) hu, sa_cl, nI_1, nI_1]
    rw [cnP] at ihk
    by_cases h1 : u c = 0
    · rw [decide_eq_true h1, if_neg (show ¬ b2i true = 0 by decide)]
      rw [if_pos (by simp [h1])] at ihk
      exact ihk
    · rw [decide_eq_false h1, if_pos (show b2i false = 0 from rfl)]
      rw [if_neg (by simp [h1]), Nat.add_zero] at ihk
      exact ihk
theorem sta_M {S : sc_M} {n : Nat} {u : Nat → Int32} {s : Int32} (hn : n ≤ 12) (e0 : sc_gi S 0 = nI n) (hu : ∀ c, c < n → sc_ga S 22 c = u c) : ∀ (d c f : Nat), c + d = n → d < f → fn_X5_statusMany_4 f S s (nI (cnP (fun c => decide (u c = s)) c)) (nI c) = some (nI (cnP (fun c => decide (u c = s)) n), S) := by
  intro d
  induction d with
  | zero =>
    intro c f hc hf
    obtain ⟨f, rfl⟩ : ∃ f', f = f' + 1 := ⟨f - 1, by omega⟩
    obtain rfl : c = n := by omega
    rw [fn_X5_statusMany_4, e0, if_pos (nI_le (by omega) (by omega))]
  | succ d ih =>
    intro c f hc hf
    obtain ⟨f, rfl⟩ : ∃ f', f = f' + 1 := ⟨f - 1, by omega⟩
    have ihk := ih (c + 1) f (by omega) (by omega)
    rw [fn_X5_statusMany_4, e0, if_neg (nI_ge (by omega) (by omega)), sa_ck _ (by omega) (by omega), sa_cl9 (by omega), hu c (by omega), sa_sq, sa_sq, nI_1]
    rw [cnP] at ihk
    by_cases h1 : u c = s
    · rw [if_pos h1, nI_1]
      rw [if_pos (by simp [h1])] at ihk
      exact ihk
    · rw [if_neg h1, sa_l0, nI_add, nI_1]
      rw [if_neg (by simp [h1])] at ihk
      exact ihk
