/-! ===== a surplus by rule 2 ===== -/
def ltF (pl : Nat → Option Nat) (cm : Nat → Nat) (c0 : Nat) : Nat → Option Nat
  | 0 => none
  | x + 1 => if pl x = some c0 then (match ltF pl cm c0 x with | none => some (cm x) | some l => if l < cm x then some (cm x) else some l) else ltF pl cm c0 x
def oZ : Option Nat → Int32
  | none => 0
  | some l => nI l
theorem ltF_ex {pl : Nat → Option Nat} {cm : Nat → Nat} {c0 p : Nat} : ∀ n, p < n → pl p = some c0 → ltF pl cm c0 n ≠ none := by
  intro n
  induction n with
  | zero => intro h; omega
  | succ n ih =>
    intro hp he
    rw [ltF]
    by_cases hn : pl n = some c0
    · rw [if_pos hn]
      cases ltF pl cm c0 n with
      | none => simp
      | some l => simp only; split <;> simp
    · rw [if_neg hn]
      refine ih ?_ he
      by_cases hpn : p = n
      · rw [hpn] at he; exact absurd he hn
      · omega
theorem ltF_le {pl : Nat → Option Nat} {cm : Nat → Nat} {c0 t : Nat} : ∀ n, (∀ p, p < n → pl p = some c0 → cm p ≤ t) → ∀ l, ltF pl cm c0 n = some l → l ≤ t := by
  intro n
  induction n with
  | zero => intro _ l h; cases h
  | succ n ih =>
    intro h l hl
    have ihk := ih (fun p hp => h p (by omega))
    rw [ltF] at hl
    by_cases hn : pl n = some c0
    · rw [if_pos hn] at hl
      have hcn := h n (by omega) hn
      cases hq : ltF pl cm c0 n with
      | none => rw [hq] at hl; simp only [Option.some.injEq] at hl; omega
      | some k =>
        rw [hq] at hl
        simp only at hl
        have := ihk k hq
        split at hl
        · simp only [Option.some.injEq] at hl; omega
        · simp only [Option.some.injEq] at hl; omega
    · rw [if_neg hn] at hl
      exact ihk l hl
theorem wR_cm {B : bT} {t m : Nat} {u : Nat → Int32} {v : Nat → Nat} {pl : Nat → Option Nat} {vl cm : Nat → Nat} {SX SM : sc_M} (h : wR B t m u v pl vl cm SX SM) (c0 : Nat) : ∀ p, p < m → pl p = some c0 → cm p ≤ t := fun p hp he => ((h.2.2.2.2.2 p hp).2.2.2 c0 he).2.2.1
theorem lp_X {B : bT} {t c0 : Nat} {u : Nat → Int32} {v : Nat → Nat} {pl : Nat → Option Nat} {vl cm : Nat → Nat} {SX SM : sc_M} (hB : bOK B) (ht : t < 13) (hc0 : c0 < bN B) (h : wR B t (bP B) u v pl vl cm SX SM) : ∀ (d x f : Nat), x + d = bP B → d < f → fn_X3_latestParcel_4 f SX (nI c0) (oZ (ltF pl cm c0 x)) (nI x) = some (oZ (ltF pl cm c0 (bP B)), SX) := by
  intro d
  have hn := hB.1.2.1
  have hnp := hB.1.2.2
  induction d with
  | zero =>
    intro x f hx hf
    obtain ⟨f, rfl⟩ : ∃ f', f = f' + 1 := ⟨f - 1, by omega⟩
    obtain rfl : x = bP B := by omega
    rw [fn_X3_latestParcel_4, h.2.1.2.2.1, if_pos (nI_le (by omega) (by omega))]
  | succ d ih =>
    intro x f hx hf
    obtain ⟨f, rfl⟩ : ∃ f', f = f' + 1 := ⟨f - 1, by omega⟩
    have hxp : x < bP B := by omega
    have hpx := h.2.2.2.2.2 x hxp
    have hlt := pR_lt hB hpx
    have ihk := ih (x + 1) f (by omega) (by omega)
    rw [fn_X3_latestParcel_4, h.2.1.2.2.1, if_neg (nI_ge (by omega) (by omega)), h.2.1.2.2.2.1, nI_add, sa_ck _ (by omega) (by omega), sa_cl9 (by omega), hpx.2.1, ite_pq (oX_eq (by omega) hlt), nI_1, sa_ck _ (by omega) (by omega), sa_sq, sa_cl9 (by omega)]
    rw [ltF] at ihk
    by_cases hpl : pl x = some c0
    · obtain ⟨_, _, q3, _, _, q6, _⟩ := hpx.2.2.2 c0 hpl
      rw [if_pos hpl, q6]
      rw [if_pos hpl] at ihk
      cases hq : ltF pl cm c0 x with
      | none =>
        rw [hq] at ihk
        rw [show oZ none = nI 0 from rfl, ite_pq (sa_lt (by omega) (by omega))]
        by_cases hz : 0 < cm x
        · rw [if_pos hz]; exact ihk
        · rw [if_neg hz]
          have : cm x = 0 := by omega
          rw [this] at ihk
          exact ihk
      | some l =>
        have hl := ltF_le (t := t) x (fun p hp => wR_cm h c0 p (by omega)) l hq
        rw [hq] at ihk
        rw [show oZ (some l) = nI l from rfl, ite_pq (sa_lt (by omega) (by omega))]
        by_cases hz : l < cm x
        · rw [if_pos hz]
          simp only [if_pos hz] at ihk
          exact ihk
        · rw [if_neg hz]
          simp only [if_neg hz] at ihk
          exact ihk
    · rw [if_neg hpl]
      rw [if_neg hpl] at ihk
      exact ihk
theorem lp_M {B : bT} {t c0 : Nat} {u : Nat → Int32} {v : Nat → Nat} {pl : Nat → Option Nat} {vl cm : Nat → Nat} {SX SM : sc_M} {a : Int64} (hB : bOK B) (ht : t < 13) (hc0 : c0 < bN B) (h : wR B t (bP B) u v pl vl cm SX SM) : ∀ (d x f : Nat), x + d = bP B → d < f → fn_X5_surplusOfLast_6 f SM (nI c0) a (oM (ltF pl cm c0 x)) (nI x) = fn_X5_surplusOfLast_67 sc_FU SM (nI c0) a (oM (ltF pl cm c0 (bP B))) (lN 0) (lN 0) (nI 0) := by
  intro d
  have hn := hB.1.2.1
  have hnp := hB.1.2.2
  induction d with
  | zero =>
    intro x f hx hf
    obtain ⟨f, rfl⟩ : ∃ f', f = f' + 1 := ⟨f - 1, by omega⟩
    obtain rfl : x = bP B := by omega
    rw [fn_X5_surplusOfLast_6, h.1.2.2.1, if_pos (nI_le (by omega) (by omega))]; rfl
  | succ d ih =>
    intro x f hx hf
    obtain ⟨f, rfl⟩ : ∃ f', f = f' + 1 := ⟨f - 1, by omega⟩
    have hxp : x < bP B := by omega
    have hpx := h.2.2.2.2.2 x hxp
    have hlt := pR_lt hB hpx
    have ihk := ih (x + 1) f (by omega) (by omega)
    rw [fn_X5_surplusOfLast_6, h.1.2.2.1, if_neg (nI_ge (by omega) (by omega)), sa_ck _ (by omega) (by omega), sa_cl9 (by omega), hpx.1, ite_pq (oM_eq (by omega) hlt), nI_1, sa_ck _ (by omega) (by omega), sa_ck _ (by omega) (by omega), sa_sq]
    rw [ltF] at ihk
    by_cases hpl : pl x = some c0
    · obtain ⟨_, _, q3, _, _, _, q7⟩ := hpx.2.2.2 c0 hpl
      rw [if_pos hpl, q7]
      rw [if_pos hpl] at ihk
      cases hq : ltF pl cm c0 x with
      | none =>
        rw [hq] at ihk
        rw [if_neg]
        · exact ihk
        · intro hle
          have := nI_pos' (n := cm x) (by omega)
          exact absurd (Int32.le_trans this hle) (by decide)
      | some l =>
        have hl := ltF_le (t := t) x (fun p hp => wR_cm h c0 p (by omega)) l hq
        rw [hq] at ihk
        rw [show oM (some l) = nI l from rfl, ite_pq (sa_le (by omega) (by omega))]
        by_cases hz : l < cm x
        · rw [if_neg (by omega)]
          simp only [if_pos hz] at ihk
          exact ihk
        · rw [if_pos (by omega)]
          simp only [if_neg hz] at ihk
          exact ihk
    · rw [if_neg hpl]
      rw [if_neg hpl] at ihk
      exact ihk
/-- does a pile pass? -/
def psB (B : bT) (u : Nat → Int32) (pl : Nat → Option Nat) (cm : Nat → Nat) (c0 : Nat) (L : Option Nat) : Nat → Bool := fun p => decide (pl p = some c0) && (decide (some (cm p) = L) && (nB B u p).isSome)
theorem oX9 {o : Option Nat} (ho : ∀ d, o = some d → d < 100000) : (oX o = -9) = (o.isSome = false) := by
  cases o with
  | none => simp [oX]
  | some d => simp only [Option.isSome_some, Bool.true_eq_false, eq_iff_iff, iff_false]; exact n_ne9 (ho d rfl)
theorem oM9 {o : Option Nat} (ho : ∀ d, o = some d → d < 100000) : (oM o < 0) = (o.isSome = false) := by
  cases o with
  | none => simp only [Option.isSome_none, eq_iff_iff, iff_true]; decide
  | some d => simp only [Option.isSome_some, Bool.true_eq_false, eq_iff_iff, iff_false]; exact n_nlt0 (ho d rfl)
theorem pa_X {B : bT} {t c0 x : Nat} {u : Nat → Int32} {v : Nat → Nat} {pl : Nat → Option Nat} {vl cm : Nat → Nat} {L : Option Nat} {SX SM : sc_M} (hB : bOK B) (ht : t < 13) (hc0 : c0 < bN B) (hx : x < bP B) (hL : pl x = some c0 → L ≠ none) (hLb : ∀ l, L = some l → l < 100000) (h : wR B t (bP B) u v pl vl cm SX SM) : fn_X3_passes SX (nI x) (nI c0) (oZ L) = some (b2i (psB B u pl cm c0 L x), SX) := by
  have hn := hB.1.2.1
  have hnp := hB.1.2.2
  have hpx := h.2.2.2.2.2 x hx
  have hlt := pR_lt hB hpx
  have nX := nxX_r hB h.1.1 hx h.2.1.2.1 (by omega) (fun c hc => (h.2.2.1 c hc).1)
  have hnb : ∀ d, nB B u x = some d → d < 100000 := fun d hd => by have := (nB_lt hB hx hd).1; omega
  rw [fn_X3_passes, fn_X3_passes_e, h.2.1.2.2.2.1, nI_add, sa_ck _ (by omega) (by omega), sa_cl9 (by omega), hpx.2.1, ite_pq (oX_eq (by omega) hlt), sa_ck _ (by omega) (by omega), sa_cl9 (by omega), nX, sa_cl, ite_pq (oX9 hnb), psB]
  by_cases hpl : pl x = some c0
  · obtain ⟨_, _, q3, _, _, q6, _⟩ := hpx.2.2.2 c0 hpl
    rw [if_pos hpl, q6, decide_eq_true hpl]
    cases L with
    | none => exact absurd rfl (hL hpl)
    | some l =>
      rw [show oZ (some l) = nI l from rfl, ite_pq (sa_eq (by omega) (hLb l rfl))]
      by_cases hcl : cm x = l
      · rw [if_pos hcl, hcl]
        cases (nB B u x).isSome with
        | false => simp [b2i, sa_bz0]
        | true => simp [b2i, sa_bz1]
      · rw [if_neg hcl, decide_eq_false (by simp only [Option.some.injEq]; exact hcl)]; rfl
  · rw [if_neg hpl, decide_eq_false hpl]; rfl
abbrev qv (B : bT) (vl : Nat → Nat) : Nat → Nat := fun p => bQ B p * vl p
theorem tw_X {B : bT} {t c0 sur : Nat} {u : Nat → Int32} {v : Nat → Nat} {pl : Nat → Option Nat} {vl cm : Nat → Nat} {L : Option Nat} {SX SM : sc_M} (hB : bOK B) (ht : t < 13) (hc0 : c0 < bN B) (hL : ∀ x, x < bP B → pl x = some c0 → L ≠ none) (hLb : ∀ l, L = some l → l < 100000) (h : wR B t (bP B) u v pl vl cm SX SM) : ∀ (d x f : Nat), x + d = bP B → d < f → fn_X3_passLast_16 f SX (nI c0) (lN sur) (oZ L) (lN (sB (psB B u pl cm c0 L) (bQ B) x)) (lN (sB (psB B u pl cm c0 L) (qv B vl) x)) (nI x) = (if lN (sB (psB B u pl cm c0 L) (qv B vl) (bP B)) ≤ lN sur then fn_X3_passLast_104 SX (nI c0) (lN sur) (oZ L) (lN (sB (psB B u pl cm c0 L) (bQ B) (bP B))) (lN (sB (psB B u pl cm c0 L) (qv B vl) (bP B))) else if lN (sB (psB B u pl cm c0 L) (bQ B) (bP B)) ≤ (0 : Int64) then fn_X3_passLast_104 SX (nI c0) (lN sur) (oZ L) (lN (sB (psB B u pl cm c0 L) (bQ B) (bP B))) (lN (sB (psB B u pl cm c0 L) (qv B vl) (bP B))) else fn_X3_passLast_105 SX (nI c0) (lN sur) (oZ L) (lN (sB (psB B u pl cm c0 L) (bQ B) (bP B))) (lN (sB (psB B u pl cm c0 L) (qv B vl) (bP B))) 1) := by
  intro d
  have hn := hB.1.2.1
  have hnp := hB.1.2.2
  induction d with
  | zero =>
    intro x f hx hf
    obtain ⟨f, rfl⟩ : ∃ f', f = f' + 1 := ⟨f - 1, by omega⟩
    obtain rfl : x = bP B := by omega
    rw [fn_X3_passLast_16, h.2.1.2.2.1, if_pos (nI_le (by omega) (by omega))]
  | succ d ih =>
    intro x f hx hf
    obtain ⟨f, rfl⟩ : ∃ f', f = f' + 1 := ⟨f - 1, by omega⟩
    have hxp : x < bP B := by omega
    have hpx := h.2.2.2.2.2 x hxp
    have hQ := (hB.2.2 x hxp).1.2
    have ihk := ih (x + 1) f (by omega) (by omega)
    rw [fn_X3_passLast_16, h.2.1.2.2.1, if_neg (nI_ge (by omega) (by omega)), pa_X hB ht hc0 hxp (hL x hxp) hLb h, sa_cl, nI_1]
    rw [sB, sB] at ihk
    by_cases hps : psB B u pl cm c0 L x = true
    · have hpl : pl x = some c0 := by
        unfold psB at hps
        simp only [Bool.and_eq_true, decide_eq_true_eq] at hps
        exact hps.1
      obtain ⟨_, q2, _, q4, _, _, _⟩ := hpx.2.2.2 c0 hpl
      rw [hps, if_neg (show ¬ b2i true = 0 by decide), h.2.1.2.2.2.1, nI_add]
      rw [hps, if_pos rfl, if_pos rfl] at ihk
      simp -implicitDefEqProofs (disch := omega) only [sa_ck, sa_sq, sa_cl9, q4, (h.1.1.2.2.2.2 x hxp).1, nI_l, lN_mul, lN_add]
      exact ihk
    · have hps' : psB B u pl cm c0 L x = false := by simpa using hps
      rw [hps', if_pos (show b2i false = 0 from rfl)]
      rw [hps', if_neg (by decide), if_neg (by decide), Nat.add_zero, Nat.add_zero] at ihk
      exact ihk
/-- the reference's test of a pile -/
theorem pa_M {α : Type} {B : bT} {t c0 x : Nat} {u : Nat → Int32} {v : Nat → Nat} {pl : Nat → Option Nat} {vl cm : Nat → Nat} {L : Option Nat} {SX SM : sc_M} (K1 K2 : sc_M → Option α) (hB : bOK B) (ht : t < 13) (hc0 : c0 < bN B) (hx : x < bP B) (hL : pl x = some c0 → L ≠ none) (hLb : ∀ l, L = some l → l < 100000) (h : wR B t (bP B) u v pl vl cm SX SM) : sc_ck (nI x) 80 (if sc_ga SM 24 (nI x).toNatClampNeg = nI c0 then sc_ck (nI x) 80 (if sc_ga SM 26 (nI x).toNatClampNeg = oM L then sc_cl (fn_X5_next SM (nI x)) (fun r S => if r < 0 then K1 S else K2 S) else K1 SM) else K1 SM) = if psB B u pl cm c0 L x = true then K2 SM else K1 SM := by
  have hn := hB.1.2.1
  have hnp := hB.1.2.2
  have hpx := h.2.2.2.2.2 x hx
  have hlt := pR_lt hB hpx
  have nM := nxM_r hB h.1.2 hx (fun c hc => (h.2.2.1 c hc).2)
  have hnb : ∀ d, nB B u x = some d → d < 100000 := fun d hd => by have := (nB_lt hB hx hd).1; omega
  rw [sa_ck _ (by omega) (by omega), sa_cl9 (by omega), hpx.1, ite_pq (oM_eq (by omega) hlt), sa_ck _ (by omega) (by omega), nM, sa_cl, ite_pq (oM9 hnb), psB]
  by_cases hpl : pl x = some c0
  · obtain ⟨_, _, q3, _, _, _, q7⟩ := hpx.2.2.2 c0 hpl
    rw [if_pos hpl, q7, decide_eq_true hpl]
    cases L with
    | none => exact absurd rfl (hL hpl)
    | some l =>
      rw [show oM (some l) = nI l from rfl, ite_pq (sa_eq (by omega) (hLb l rfl))]
      by_cases hcl : cm x = l
      · rw [if_pos hcl, hcl]
        cases (nB B u x).isSome with
        | false => simp
        | true => simp
      · rw [if_neg hcl, decide_eq_false (by simp only [Option.some.injEq]; exact hcl)]; simp
  · rw [if_neg hpl, decide_eq_false hpl]; simp
