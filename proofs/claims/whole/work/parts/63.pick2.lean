theorem n_nlt0 {b : Nat} (h : b < 100000) : ¬ nI b < 0 := nI_pos (by omega)
theorem most_M {S : sc_M} {n : Nat} {u : Nat → Int32} {v : Nat → Int64} {mr : Nat → Nat → Bool} {s : Int32} {ls : Int64} (hn : n ≤ 12) (e0 : sc_gi S 0 = nI n) (hu : ∀ c, c < n → sc_ga S 22 c = u c) (hv : ∀ c, c < n → sc_gb S 21 c = v c) (hmr : ∀ a b, a < n → b < n → fn_X5_hasMore S (nI a) (nI b) = some (b2i (mr a b), S)) : ∀ (d c f : Nat), c + d = n → d < f → fn_X5_most_6 f S s ls (oM (pick (fun c => decide (u c = s) && !decide (v c < ls)) mr c)) (nI c) = some (oM (pick (fun c => decide (u c = s) && !decide (v c < ls)) mr n), S) := by
  intro d
  induction d with
  | zero =>
    intro c f hc hf
    obtain ⟨f, rfl⟩ : ∃ f', f = f' + 1 := ⟨f - 1, by omega⟩
    obtain rfl : c = n := by omega
    rw [fn_X5_most_6, e0, if_pos (nI_le (by omega) (by omega))]
  | succ d ih =>
    intro c f hc hf
    obtain ⟨f, rfl⟩ : ∃ f', f = f' + 1 := ⟨f - 1, by omega⟩
    have ihk := ih (c + 1) f (by omega) (by omega)
    rw [fn_X5_most_6, e0, if_neg (nI_ge (by omega) (by omega)), sa_ck _ (by omega) (by omega), sa_ck _ (by omega) (by omega), sa_cl9 (by omega), hu c (by omega), hv c (by omega), nI_1]
    rw [pick] at ihk
    by_cases h1 : u c = s
    · rw [if_pos h1]
      by_cases h2 : v c < ls
      · rw [if_pos h2]
        rw [if_neg (by simp [h2])] at ihk
        exact ihk
      · rw [if_neg h2]
        rw [if_pos (by simp [h1, h2])] at ihk
        cases hp : pick (fun c => decide (u c = s) && !decide (v c < ls)) mr c with
        | none =>
          rw [hp] at ihk
          rw [if_pos (show oM none < 0 by decide)]
          exact ihk
        | some b =>
          have hb := (pick_lt _ _ _ _ hp).1
          rw [hp] at ihk
          rw [if_neg (show ¬ oM (some b) < 0 from n_nlt0 (by omega)), show oM (some b) = nI b from rfl, hmr c b (by omega) (by omega), sa_cl]
          cases hm : mr c b with
          | true =>
            simp only [hm, if_true] at ihk
            rw [if_neg (show ¬ b2i true = 0 by decide)]
            exact ihk
          | false =>
            simp only [hm, Bool.false_eq_true, if_false] at ihk
            rw [if_pos (show b2i false = 0 from rfl)]
            exact ihk
    · rw [if_neg h1]
      rw [if_neg (by simp [h1])] at ihk
      exact ihk
theorem isH_X {S : sc_M} {R c n : Nat} {u : Nat → Int32} (e6 : sc_gi S 6 = nI R) (hR : R + 12 ≤ 864) (hn : n ≤ 12) (hc : c < n) (hu : ∀ c, c < n → sc_ga S 20 (R + c) = u c) : fn_X1_isHopeful S (nI c) = some (b2i (decide (u c = 0)), S) := by
  rw [fn_X1_isHopeful, fn_X1_isHopeful_e, e6, nI_add, sa_ck _ (by omega) (by omega), sa_cl9 (by omega), hu c hc]
  by_cases h : u c = 0
  · rw [if_pos h, decide_eq_true h]; rfl
  · rw [if_neg h, decide_eq_false h]; rfl
theorem isE_X {S : sc_M} {R c n : Nat} {u : Nat → Int32} (e6 : sc_gi S 6 = nI R) (hR : R + 12 ≤ 864) (hn : n ≤ 12) (hc : c < n) (hu : ∀ c, c < n → sc_ga S 20 (R + c) = u c) : fn_X1_isElected S (nI c) = some (b2i (decide (u c = 1)), S) := by
  rw [fn_X1_isElected, fn_X1_isElected_e, e6, nI_add, sa_ck _ (by omega) (by omega), sa_cl9 (by omega), hu c hc]
  by_cases h : u c = 1
  · rw [if_pos h, decide_eq_true h]; rfl
  · rw [if_neg h, decide_eq_false h]; rfl
theorem poor_X {S : sc_M} {n R : Nat} {u : Nat → Int32} {mr : Nat → Nat → Bool} (hn : n ≤ 12) (e4 : sc_gi S 4 = nI n) (e6 : sc_gi S 6 = nI R) (hR : R + 12 ≤ 864) (hu : ∀ c, c < n → sc_ga S 20 (R + c) = u c) (hmr : ∀ a b, a < n → b < n → fn_X1_hasMore S (nI a) (nI b) = some (b2i (mr a b), S)) : ∀ (d c f : Nat), c + d = n → d < f → fn_X1_poorest_5 f S (oX (pick (fun c => decide (u c = 0)) (fun a b => mr b a) c)) (nI c) = some (oX (pick (fun c => decide (u c = 0)) (fun a b => mr b a) n), S) := by
  intro d
  induction d with
  | zero =>
    intro c f hc hf
    obtain ⟨f, rfl⟩ : ∃ f', f = f' + 1 := ⟨f - 1, by omega⟩
    obtain rfl : c = n := by omega
    rw [fn_X1_poorest_5, e4, if_pos (nI_le (by omega) (by omega))]
  | succ d ih =>
    intro c f hc hf
    obtain ⟨f, rfl⟩ : ∃ f', f = f' + 1 := ⟨f - 1, by omega⟩
    have ihk := ih (c + 1) f (by omega) (by omega)
    rw [fn_X1_poorest_5, e4, if_neg (nI_ge (by omega) (by omega)), isH_X e6 hR hn (by omega) hu, sa_cl, nI_1]
    rw [pick] at ihk
    by_cases h1 : u c = 0
    · rw [decide_eq_true h1, if_neg (show ¬ b2i true = 0 by decide)]
      rw [if_pos (by simp [h1])] at ihk
      cases hp : pick (fun c => decide (u c = 0)) (fun a b => mr b a) c with
      | none =>
        rw [hp] at ihk
        rw [if_pos (show oX none = -9 from rfl)]
        exact ihk
      | some b =>
        have hb := (pick_lt _ _ _ _ hp).1
        rw [hp] at ihk
        rw [if_neg (show ¬ oX (some b) = -9 from n_ne9 (by omega)), show oX (some b) = nI b from rfl, hmr b c (by omega) (by omega), sa_cl]
        cases hm : mr b c with
        | true =>
          simp only [hm, if_true] at ihk
          rw [if_neg (show ¬ b2i true = 0 by decide)]
          exact ihk
        | false =>
          simp only [hm, Bool.false_eq_true, if_false] at ihk
          rw [if_pos (show b2i false = 0 from rfl)]
          exact ihk
    · rw [decide_eq_false h1, if_pos (show b2i false = 0 from rfl)]
      rw [if_neg (by simp [h1])] at ihk
      exact ihk
theorem few_M {S : sc_M} {n : Nat} {u : Nat → Int32} {mr : Nat → Nat → Bool} (hn : n ≤ 12) (e0 : sc_gi S 0 = nI n) (hu : ∀ c, c < n → sc_ga S 22 c = u c) (hmr : ∀ a b, a < n → b < n → fn_X5_hasMore S (nI a) (nI b) = some (b2i (mr a b), S)) : ∀ (d c f : Nat), c + d = n → d < f → fn_X5_fewest_4 f S (oM (pick (fun c => decide (u c = 0)) (fun a b => mr b a) c)) (nI c) = some (oM (pick (fun c => decide (u c = 0)) (fun a b => mr b a) n), S) := by
  intro d
  induction d with
  | zero =>
    intro c f hc hf
    obtain ⟨f, rfl⟩ : ∃ f', f = f' + 1 := ⟨f - 1, by omega⟩
    obtain rfl : c = n := by omega
    rw [fn_X5_fewest_4, e0, if_pos (nI_le (by omega) (by omega))]
  | succ d ih =>
    intro c f hc hf
    obtain ⟨f, rfl⟩ : ∃ f', f = f' + 1 := ⟨f - 1, by omega⟩
    have ihk := ih (c + 1) f (by omega) (by omega)
    rw [fn_X5_fewest_4, e0, if_neg (nI_ge (by omega) (by omega)), sa_ck _ (by omega) (by omega), sa_cl9 (by omega), hu c (by omega), nI_1]
    rw [pick] at ihk
    by_cases h1 : u c = 0
    · rw [if_pos h1]
      rw [if_pos (by simp [h1])] at ihk
      cases hp : pick (fun c => decide (u c = 0)) (fun a b => mr b a) c with
      | none =>
        rw [hp] at ihk
        rw [if_pos (show oM none < 0 by decide)]
        exact ihk
      | some b =>
        have hb := (pick_lt _ _ _ _ hp).1
        rw [hp] at ihk
        rw [if_neg (show ¬ oM (some b) < 0 from n_nlt0 (by omega)), show oM (some b) = nI b from rfl, hmr b c (by omega) (by omega), sa_cl]
        cases hm : mr b c with
        | true =>
          simp only [hm, if_true] at ihk
          rw [if_neg (show ¬ b2i true = 0 by decide)]
          exact ihk
        | false =>
          simp only [hm, Bool.false_eq_true, if_false] at ihk
          rw [if_pos (show b2i false = 0 from rfl)]
          exact ihk
    · rw [if_neg h1]
      rw [if_neg (by simp [h1])] at ihk
      exact ihk
