/-! ===== a mask's bits ===== -/
def bq (x : Int32) (k : Nat) : Bool := x.toBitVec.getLsbD k
theorem bq_or (x y : Int32) (k : Nat) : bq (x ||| y) k = (bq x k || bq y k) := by
  show (x.toBitVec ||| y.toBitVec).getLsbD k = _
  rw [BitVec.getLsbD_or]; rfl
theorem bq_and (x y : Int32) (k : Nat) : bq (x &&& y) k = (bq x k && bq y k) := by
  show (x.toBitVec &&& y.toBitVec).getLsbD k = _
  rw [BitVec.getLsbD_and]; rfl
theorem bq_0 (k : Nat) : bq 0 k = false := by
  show (0#32).getLsbD k = false
  simp
theorem bq_m1 : ∀ k, k < 32 → bq (-1) k = true := by decide
theorem bq_not (x : Int32) {k : Nat} (h : k < 32) : bq (x ^^^ (-1)) k = !bq x k := by
  show (x.toBitVec ^^^ (-1 : Int32).toBitVec).getLsbD k = _
  rw [BitVec.getLsbD_xor]
  have : (-1 : Int32).toBitVec.getLsbD k = true := bq_m1 k h
  rw [this, Bool.xor_true]; rfl
theorem bq_oB : ∀ d, d < 16 → ∀ k, k < 32 → bq (oB d) k = decide (d = k) := by decide
theorem bq_ext {x y : Int32} (h : ∀ k, k < 32 → bq x k = bq y k) : x = y := by
  apply Int32.toBitVec_inj.mp
  exact BitVec.eq_of_getLsbD_eq (fun k hk => h k hk)
theorem bq_test (x : Int32) {d : Nat} (hd : d < 16) : (x &&& oB d) = 0 ↔ bq x d = false := by
  constructor
  · intro h
    have h1 : bq (x &&& oB d) d = false := by rw [h, bq_0]
    rw [bq_and, bq_oB d hd d (by omega), decide_eq_true rfl, Bool.and_true] at h1
    exact h1
  · intro h
    apply bq_ext
    intro k hk
    rw [bq_and, bq_oB d hd k hk, bq_0]
    by_cases e : d = k
    · rw [← e, h]; rfl
    · rw [decide_eq_false e, Bool.and_false]
theorem bq_mk (P : Nat → Bool) : ∀ n, n ≤ 12 → ∀ k, k < 32 → bq (mkF P n) k = (decide (k < n) && P k) := by
  intro n
  induction n with
  | zero => intro _ k _; rw [mkF, bq_0]; simp
  | succ n ih =>
    intro h k hk
    have i1 := ih (by omega) k hk
    rw [mkF]
    by_cases e : k = n
    · subst e
      cases hp : P k with
      | true =>
        rw [if_pos rfl, bq_or, bq_oB k (by omega) k hk]
        simp
      | false =>
        rw [if_neg (by decide), i1, hp]
        simp
    · have e2 : decide (k < n + 1) = decide (k < n) := by
        by_cases q : k < n
        · rw [decide_eq_true q, decide_eq_true (by omega)]
        · rw [decide_eq_false q, decide_eq_false (by omega)]
      rw [e2, ← i1]
      split
      · rw [bq_or, bq_oB n (by omega) k hk, decide_eq_false (fun q => e q.symm), Bool.or_false]
      · rfl
theorem bq_all {x : Int32} {n : Nat} (hn : n ≤ 12) (h : ∀ k, n ≤ k → k < 32 → bq x k = false) : x = mkF (bq x) n := by
  apply bq_ext
  intro k hk
  rw [bq_mk _ n hn k hk]
  by_cases e : k < n
  · rw [decide_eq_true e, Bool.true_and]
  · rw [decide_eq_false e, Bool.false_and, h k (by omega) hk]
theorem bc_x {x : Int32} {n : Nat} (hn : n ≤ 12) (h : ∀ k, n ≤ k → k < 32 → bq x k = false) : bcE x = nI (cnP (bq x) n) := by
  have := bc_mk (bq x) hn
  rw [← bq_all hn h] at this
  exact this
theorem cnP_congr {P Q : Nat → Bool} : ∀ n, (∀ k, k < n → P k = Q k) → cnP P n = cnP Q n := by
  intro n
  induction n with
  | zero => intro _; rfl
  | succ n ih => intro h; simp only [cnP]; rw [ih (fun k hk => h k (by omega)), h n (by omega)]
theorem cnP_le (P : Nat → Bool) : ∀ n, cnP P n ≤ n := by
  intro n
  induction n with
  | zero => exact Nat.le_refl _
  | succ n ih => simp only [cnP]; split <;> omega
theorem cnP_full (P : Nat → Bool) : ∀ n, cnP P n = n → ∀ k, k < n → P k = true := by
  intro n
  induction n with
  | zero => intro _ k hk; omega
  | succ n ih =>
    intro h k hk
    have hl := cnP_le P n
    simp only [cnP] at h
    cases hp : P n with
    | true =>
      rw [hp, if_pos rfl] at h
      by_cases e : k = n
      · rw [e]; exact hp
      · exact ih (by omega) k (by omega)
    | false => rw [hp, if_neg (by decide)] at h; omega
theorem cnP_add (P : Nat → Bool) (d : Nat) (hd : P d = false) : ∀ n, cnP (fun k => P k || decide (d = k)) n = cnP P n + if d < n then 1 else 0 := by
  intro n
  induction n with
  | zero => rfl
  | succ n ih =>
    simp only [cnP]
    rw [ih]
    by_cases e : d = n
    · subst e
      simp [hd]
    · have e2 : (if d < n + 1 then 1 else 0) = (if d < n then 1 else 0) := by
        by_cases q : d < n
        · rw [if_pos q, if_pos (by omega)]
        · rw [if_neg q, if_neg (by omega)]
      have e3 : (P n || decide (d = n)) = P n := by rw [decide_eq_false e, Bool.or_false]
      rw [e2]
      simp only [e3]
      omega
/-- firstIn: the first place of a bit, or none -/
theorem fi_X {S : sc_M} {n : Nat} (hn : n ≤ 12) (e : sc_gi S 0 = nI n) (x : Int32) : ∀ (d k f : Nat), k + d = n → d < f → (∃ j, k ≤ j ∧ j < n ∧ bq x j = true ∧ fn_X0_firstIn_2 f S x (nI k) = some (nI j, S)) ∨ ((∀ j, k ≤ j → j < n → bq x j = false) ∧ fn_X0_firstIn_2 f S x (nI k) = some (-9, S)) := by
  intro d
  induction d with
  | zero =>
    intro k f hk hf
    obtain ⟨f, rfl⟩ : ∃ f', f = f' + 1 := ⟨f - 1, by omega⟩
    refine Or.inr ⟨fun j h1 h2 => by omega, ?_⟩
    rw [fn_X0_firstIn_2, e, if_pos (nI_le (by omega) (by omega))]
  | succ d ih =>
    intro k f hk hf
    obtain ⟨f, rfl⟩ : ∃ f', f = f' + 1 := ⟨f - 1, by omega⟩
    have ht : (x &&& ((1 : Int32) <<< (nI k &&& 31))) = 0 ↔ bq x k = false := bq_test x (by omega)
    cases hb : bq x k with
    | true =>
      refine Or.inl ⟨k, Nat.le_refl _, by omega, hb, ?_⟩
      rw [fn_X0_firstIn_2, e, if_neg (nI_ge (by omega) (by omega)), if_neg (fun q => by rw [ht.mp q] at hb; cases hb)]
    | false =>
      rw [fn_X0_firstIn_2, e, if_neg (nI_ge (by omega) (by omega)), if_pos (ht.mpr hb), nI_1]
      rcases ih (k + 1) f (by omega) (by omega) with ⟨j, j1, j2, j3, j4⟩ | ⟨j1, j2⟩
      · exact Or.inl ⟨j, by omega, j2, j3, j4⟩
      · refine Or.inr ⟨fun j h1 h2 => ?_, j2⟩
        by_cases q : j = k
        · rw [q]; exact hb
        · exact j1 j (by omega) h2
