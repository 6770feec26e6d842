/-! ===== picking the one with most, the one with fewest ===== -/
def pick (fit : Nat → Bool) (mr : Nat → Nat → Bool) : Nat → Option Nat
  | 0 => none
  | c + 1 => if fit c then (match pick fit mr c with | none => some c | some b => if mr c b then some c else some b) else pick fit mr c
def oX : Option Nat → Int32
  | none => -9
  | some b => nI b
def oM : Option Nat → Int32
  | none => -1
  | some b => nI b
theorem pick_lt (fit : Nat → Bool) (mr : Nat → Nat → Bool) : ∀ n b, pick fit mr n = some b → b < n ∧ fit b = true := by
  intro n
  induction n with
  | zero => intro b h; cases h
  | succ n ih =>
    intro b h
    simp only [pick] at h
    cases hf : fit n with
    | false =>
      rw [hf, if_neg (by decide)] at h
      obtain ⟨h1, h2⟩ := ih b h
      exact ⟨by omega, h2⟩
    | true =>
      rw [hf, if_pos rfl] at h
      cases hp : pick fit mr n with
      | none =>
        rw [hp] at h
        simp only [Option.some.injEq] at h
        subst h
        exact ⟨by omega, hf⟩
      | some q =>
        rw [hp] at h
        simp only at h
        obtain ⟨h1, h2⟩ := ih q hp
        split at h
        · simp only [Option.some.injEq] at h
          subst h
          exact ⟨by omega, hf⟩
        · simp only [Option.some.injEq] at h
          subst h
          exact ⟨by omega, h2⟩
theorem n_ne9 {b : Nat} (h : b < 100000) : ¬ nI b = -9 := by
  intro q
  have := congrArg Int32.toInt q
  rw [nI_toInt (by omega)] at this
  have e9 : (-9 : Int32).toInt = -9 := rfl
  omega
theorem most_X {S : sc_M} {n R : Nat} {u : Nat → Int32} {v : Nat → Int64} {mr : Nat → Nat → Bool} {s : Int32} {ls : Int64} (hn : n ≤ 12) (e4 : sc_gi S 4 = nI n) (e6 : sc_gi S 6 = nI R) (hR : R + 12 ≤ 864) (hu : ∀ c, c < n → sc_ga S 20 (R + c) = u c) (hv : ∀ c, c < n → sc_gb S 19 (R + c) = v c) (hmr : ∀ a b, a < n → b < n → fn_X1_hasMore S (nI a) (nI b) = some (b2i (mr a b), S)) : ∀ (d c f : Nat), c + d = n → d < f → fn_X1_most_7 f S s ls (oX (pick (fun c => decide (u c = s) && !decide (v c < ls)) mr c)) (nI c) = some (oX (pick (fun c => decide (u c = s) && !decide (v c < ls)) mr n), S) := by
  intro d
  induction d with
  | zero =>
    intro c f hc hf
    obtain ⟨f, rfl⟩ : ∃ f', f = f' + 1 := ⟨f - 1, by omega⟩
    obtain rfl : c = n := by omega
    rw [fn_X1_most_7, e4, if_pos (nI_le (by omega) (by omega))]
  | succ d ih =>
    intro c f hc hf
    obtain ⟨f, rfl⟩ : ∃ f', f = f' + 1 := ⟨f - 1, by omega⟩
    have ihk := ih (c + 1) f (by omega) (by omega)
    rw [fn_X1_most_7, e4, if_neg (nI_ge (by omega) (by omega)), e6, nI_add, sa_ck _ (by omega) (by omega), sa_ck _ (by omega) (by omega), sa_cl9 (by omega), hu c (by omega), hv c (by omega), fn_X1_most_53, fn_X1_most_54, fn_X1_most_54, if_pos rfl, if_neg (show ¬ (1 : Int32) = 0 by decide), nI_1]
    rw [pick] at ihk
    by_cases h1 : u c = s
    · rw [if_pos h1]
      by_cases h2 : v c < ls
      · rw [if_pos h2]
        rw [if_neg (by simp [h2])] at ihk
        exact ihk
      · rw [if_neg h2]
        rw [if_pos (by simp [h1, h2])] at ihk
        cases hp : pick (fun c => decide (u c = s) && !decide (v c < ls)) mr c with
        | none =>
          rw [hp] at ihk
          rw [if_pos (show oX none = -9 from rfl)]
          exact ihk
        | some b =>
          have hb := (pick_lt _ _ _ _ hp).1
          rw [hp] at ihk
          rw [if_neg (show ¬ oX (some b) = -9 from n_ne9 (by omega)), show oX (some b) = nI b from rfl, hmr c b (by omega) (by omega), sa_cl]
          cases hm : mr c b with
          | true =>
            simp only [hm, if_true] at ihk
            rw [if_neg (show ¬ b2i true = 0 by decide)]
            exact ihk
          | false =>
            simp only [hm, Bool.false_eq_true, if_false] at ihk
            rw [if_pos (show b2i false = 0 from rfl)]
            exact ihk
    · rw [if_neg h1]
      rw [if_neg (by simp [h1])] at ihk
      exact ihk
