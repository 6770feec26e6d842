/-! ===== the ballots: n candidates, np piles, who is withdrawn, lots, papers, how many preferences, which ===== -/
abbrev bT : Type := Nat × Nat × (Nat → Int32) × (Nat → Int32) × (Nat → Nat) × (Nat → Nat) × (Nat → Nat → Nat)
def bN (B : bT) : Nat := B.1
def bP (B : bT) : Nat := B.2.1
def bW (B : bT) : Nat → Int32 := B.2.2.1
def bL (B : bT) : Nat → Int32 := B.2.2.2.1
def bQ (B : bT) : Nat → Nat := B.2.2.2.2.1
def bE (B : bT) : Nat → Nat := B.2.2.2.2.2.1
def bF (B : bT) : Nat → Nat → Nat := B.2.2.2.2.2.2
def rkF (f : Nat → Nat) (c : Nat) : Nat → Nat
  | 0 => 12
  | k + 1 => if f k = c then k else rkF f c k
def bOK (B : bT) : Prop := (1 ≤ bN B ∧ bN B ≤ 12 ∧ bP B ≤ 80) ∧ (∀ c, c < 12 → bW B c = 0 ∨ bW B c = 1) ∧ ∀ p, p < bP B → (1 ≤ bQ B p ∧ bQ B p ≤ 500) ∧ (1 ≤ bE B p ∧ bE B p ≤ 12) ∧ (∀ k, k < bE B p → bF B p k < bN B) ∧ (∀ j k, j < bE B p → k < bE B p → bF B p j = bF B p k → j = k)
def bX (B : bT) (S : sc_M) : Prop := sc_gi S 0 = nI (bN B) ∧ sc_gi S 1 = nI (bP B) ∧ (∀ c, c < 12 → sc_ga S 4 c = bW B c) ∧ (∀ c, c < 12 → sc_ga S 5 c = bL B c) ∧ ∀ p, p < bP B → sc_ga S 6 p = nI (bQ B p) ∧ sc_ga S 7 p = nI (bE B p) ∧ (∀ k, k < bE B p → sc_ga S 8 (12 * p + k) = nI (bF B p k)) ∧ (∀ c, c < 12 → sc_ga S 9 (12 * p + c) = nI (rkF (bF B p) c (bE B p)))
def bM (B : bT) (S : sc_M) : Prop := sc_gi S 0 = nI (bN B) ∧ sc_gi S 1 = nI (bP B) ∧ (∀ c, c < 12 → sc_ga S 1 c = bW B c) ∧ (∀ c, c < 12 → sc_ga S 2 c = bL B c) ∧ ∀ p, p < bP B → sc_ga S 3 p = nI (bQ B p) ∧ sc_ga S 4 p = nI (bE B p) ∧ (∀ k, k < bE B p → sc_ga S 5 (12 * p + k) = nI (bF B p k))
/-- the latest count, as both sides hold it: st stages, nc candidates, el elected ones, np piles then -/
def jR (SX SM : sc_M) : Prop := ∃ st nc el np : Nat, (st ≤ 72 ∧ nc ≤ 12 ∧ el ≤ 12 ∧ np ≤ 80) ∧ (sc_gi SX 5 = nI st ∧ sc_gi SM 6 = nI st ∧ sc_gi SX 4 = nI nc ∧ sc_gi SM 4 = nI nc ∧ sc_gi SX 7 = nI el ∧ sc_gi SM 7 = nI el ∧ sc_gi SX 2 = sc_gi SM 2) ∧
  ((sc_gi SM 2 = -9 ∧ st = 0) ∨ ∃ r, r < 4 ∧ sc_gi SM 2 = nI r ∧ 1 ≤ st ∧ (r < 3 → st ≤ 13 ∧ sc_gi SX 8 = nI np ∧ sc_gi SM 5 = nI np ∧ ∀ i, i < st → ∀ p, p < np → (0 ≤ sc_ga SM 17 (80 * i + p) → sc_ga SX 22 (80 * i + p) = sc_ga SM 17 (80 * i + p)) ∧ (sc_ga SM 17 (80 * i + p) < 0 → sc_ga SX 22 (80 * i + p) = -9) ∧ sc_ga SX 23 (80 * i + p) = (sc_gb SM 18 (80 * i + p)).toInt32) ∧ (r = 3 → ∀ i, i < st → ∀ c, c < nc → sc_ga SM 15 (12 * i + c) ≠ 3 → sc_ga SX 21 (12 * i + c) = (sc_gb SM 16 (12 * i + c)).toInt32)) ∧
  (∀ k, k < el → sc_ga SX 10 k = sc_ga SM 20 k) ∧
  (∀ i, i < st → sc_ga SX 12 i = sc_ga SM 7 i ∧ sc_ga SX 13 i = sc_ga SM 8 i ∧ sc_gb SX 15 i = sc_gb SM 9 i ∧ sc_gb SX 16 i = sc_gb SM 10 i ∧ sc_ga SX 14 i = sc_ga SM 11 i ∧ sc_gb SX 17 i = sc_gb SM 12 i ∧ sc_gb SX 18 i = sc_gb SM 13 i) ∧
  ∀ i, i < st → ∀ c, c < nc → sc_gb SX 19 (12 * i + c) = sc_gb SM 14 (12 * i + c) ∧ sc_ga SX 20 (12 * i + c) = sc_ga SM 15 (12 * i + c) ∧ sc_gb SX 25 (12 * i + c) = sc_gb SM 19 (12 * i + c)
def sRel (SX SM : sc_M) : Prop := ∃ B : bT, bOK B ∧ bX B SX ∧ bM B SM ∧ jR SX SM
theorem jR_frame {SX SX' SM SM' : sc_M} (h1 : ∀ k, 2 ≤ k → sc_gi SX' k = sc_gi SX k) (h2 : ∀ k, 10 ≤ k → sc_ga SX' k = sc_ga SX k) (h3 : ∀ k, sc_gb SX' k = sc_gb SX k) (m1 : ∀ k, 2 ≤ k → sc_gi SM' k = sc_gi SM k) (m2 : ∀ k, 7 ≤ k → k ≤ 20 → sc_ga SM' k = sc_ga SM k) (m3 : ∀ k, sc_gb SM' k = sc_gb SM k) (h : jR SX SM) : jR SX' SM' := by
  unfold jR at *
  simp only [h1 2 (by omega), h1 4 (by omega), h1 5 (by omega), h1 7 (by omega), h1 8 (by omega), h2 10 (by omega), h2 12 (by omega), h2 13 (by omega), h2 14 (by omega), h2 20 (by omega), h2 21 (by omega), h2 22 (by omega), h2 23 (by omega), h3, m1 2 (by omega), m1 4 (by omega), m1 5 (by omega), m1 6 (by omega), m1 7 (by omega), m2 7 (by omega) (by omega), m2 8 (by omega) (by omega), m2 11 (by omega) (by omega), m2 15 (by omega) (by omega), m2 17 (by omega) (by omega), m2 20 (by omega) (by omega), m3]
  exact h
theorem sa_nar0 : vp_nar .boolean 0 = 0 := rfl
theorem sa_nar1 : vp_nar .boolean 1 = 1 := rfl
theorem sa_nar {x : Int32} (h : x = 0 ∨ x = 1) : vp_nar .boolean x = x := by rcases h with rfl | rfl <;> rfl
theorem xo_loop : ∀ (d x fuel : Nat) (S : sc_M), x + d = 12 → d < fuel → ∃ S', fn_X0_open_12 fuel S (nI x) = some S' ∧ (∀ k, sc_gi S' k = sc_gi S k) ∧ (∀ k, k ≠ 4 → k ≠ 5 → sc_ga S' k = sc_ga S k) ∧ (∀ k, sc_gb S' k = sc_gb S k) ∧ (∀ c, c < x → sc_ga S' 4 c = sc_ga S 4 c ∧ sc_ga S' 5 c = sc_ga S 5 c) ∧ (∀ c, x ≤ c → c < 12 → sc_ga S' 4 c = 0 ∧ sc_ga S' 5 c = nI c) := by
  intro d
  induction d with
  | zero =>
    intro x fuel S hx hf
    obtain ⟨f, rfl⟩ : ∃ f, fuel = f + 1 := ⟨fuel - 1, by omega⟩
    refine ⟨S, ?_, fun _ => rfl, fun _ _ _ => rfl, fun _ => rfl, fun _ _ => ⟨rfl, rfl⟩, fun c h1 h2 => by omega⟩
    rw [fn_X0_open_12, sa_l12, if_pos (nI_le (by omega) (by omega))]
  | succ d ih =>
    intro x fuel S hx hf
    obtain ⟨f, rfl⟩ : ∃ f, fuel = f + 1 := ⟨fuel - 1, by omega⟩
    obtain ⟨S', h1, h2, h3, h4, h5, h6⟩ := ih (x + 1) f (sc_mA (sc_mA S 4 (upd (sc_ga S 4) x (vp_nar .boolean 0))) 5 (upd (sc_ga (sc_mA S 4 (upd (sc_ga S 4) x (vp_nar .boolean 0))) 5) x (nI x))) (by omega) (by omega)
    refine ⟨S', ?_, fun k => ?_, fun k k1 k2 => ?_, fun k => ?_, fun c hc => ?_, fun c hc1 hc2 => ?_⟩
    · rw [fn_X0_open_12, sa_l12, if_neg (nI_ge (by omega) (by omega)), sa_ck _ (by omega) (by omega), sa_sq, sa_ck _ (by omega) (by omega), sa_sq, sa_cl9 (by omega), nI_1]
      exact h1
    · rw [h2]; rfl
    · rw [h3 k k1 k2, sa_ga_n _ _ _ _ k2, sa_ga_n _ _ _ _ k1]
    · rw [h4]; rfl
    · obtain ⟨e1, e2⟩ := h5 c (by omega)
      rw [e1, e2, sa_ga_n _ _ _ _ (by decide), sa_ga_s, sa_un _ _ _ _ (by omega), sa_ga_s, sa_un _ _ _ _ (by omega), sa_ga_n _ _ _ _ (by decide)]
      exact ⟨rfl, rfl⟩
    · by_cases hcx : c = x
      · subst hcx
        obtain ⟨e1, e2⟩ := h5 c (by omega)
        rw [e1, e2, sa_ga_n _ _ _ _ (by decide), sa_ga_s, sa_us, sa_ga_s, sa_us]
        exact ⟨rfl, rfl⟩
      · exact h6 c (by omega) hc2
theorem xo_run (S : sc_M) (x : Int32) : ∃ S', fn_X0_open S x = some S' ∧ sc_gi S' 0 = x ∧ sc_gi S' 1 = nI 0 ∧ (∀ k, 2 ≤ k → sc_gi S' k = sc_gi S k) ∧ (∀ k, k ≠ 4 → k ≠ 5 → sc_ga S' k = sc_ga S k) ∧ (∀ k, sc_gb S' k = sc_gb S k) ∧ (∀ c, c < 12 → sc_ga S' 4 c = 0 ∧ sc_ga S' 5 c = nI c) := by
  obtain ⟨S', h1, h2, h3, h4, _, h6⟩ := xo_loop 12 0 sc_FU (sc_mi (sc_mi S 0 x) 1 0) rfl (by decide)
  refine ⟨S', ?_, ?_, ?_, fun k hk => ?_, h3, h4, fun c hc => h6 c (Nat.zero_le c) hc⟩
  · rw [fn_X0_open, sa_sq, sa_sq]; exact h1
  · rw [h2, sa_gi_n _ _ _ _ (by decide), sa_gi_s]
  · rw [h2, sa_gi_s]; rfl
  · rw [h2, sa_gi_n _ _ _ _ (by omega), sa_gi_n _ _ _ _ (by omega)]
theorem mo_loop : ∀ (d x fuel : Nat) (S : sc_M), x + d = 12 → d < fuel → ∃ S', fn_X5_begin_12 fuel S (nI x) = some S' ∧ (∀ k, sc_gi S' k = sc_gi S k) ∧ (∀ k, k ≠ 1 → k ≠ 2 → sc_ga S' k = sc_ga S k) ∧ (∀ k, sc_gb S' k = sc_gb S k) ∧ (∀ c, c < x → sc_ga S' 1 c = sc_ga S 1 c ∧ sc_ga S' 2 c = sc_ga S 2 c) ∧ (∀ c, x ≤ c → c < 12 → sc_ga S' 1 c = 0 ∧ sc_ga S' 2 c = nI c) := by
  intro d
  induction d with
  | zero =>
    intro x fuel S hx hf
    obtain ⟨f, rfl⟩ : ∃ f, fuel = f + 1 := ⟨fuel - 1, by omega⟩
    refine ⟨S, ?_, fun _ => rfl, fun _ _ _ => rfl, fun _ => rfl, fun _ _ => ⟨rfl, rfl⟩, fun c h1 h2 => by omega⟩
    rw [fn_X5_begin_12, sa_l12, if_pos (nI_le (by omega) (by omega))]
  | succ d ih =>
    intro x fuel S hx hf
    obtain ⟨f, rfl⟩ : ∃ f, fuel = f + 1 := ⟨fuel - 1, by omega⟩
    obtain ⟨S', h1, h2, h3, h4, h5, h6⟩ := ih (x + 1) f (sc_mA (sc_mA S 1 (upd (sc_ga S 1) x (vp_nar .boolean 0))) 2 (upd (sc_ga (sc_mA S 1 (upd (sc_ga S 1) x (vp_nar .boolean 0))) 2) x (nI x))) (by omega) (by omega)
    refine ⟨S', ?_, fun k => ?_, fun k k1 k2 => ?_, fun k => ?_, fun c hc => ?_, fun c hc1 hc2 => ?_⟩
    · rw [fn_X5_begin_12, sa_l12, if_neg (nI_ge (by omega) (by omega)), sa_ck _ (by omega) (by omega), sa_sq, sa_ck _ (by omega) (by omega), sa_sq, sa_cl9 (by omega), nI_1]
      exact h1
    · rw [h2]; rfl
    · rw [h3 k k1 k2, sa_ga_n _ _ _ _ k2, sa_ga_n _ _ _ _ k1]
    · rw [h4]; rfl
    · obtain ⟨e1, e2⟩ := h5 c (by omega)
      rw [e1, e2, sa_ga_n _ _ _ _ (by decide), sa_ga_s, sa_un _ _ _ _ (by omega), sa_ga_s, sa_un _ _ _ _ (by omega), sa_ga_n _ _ _ _ (by decide)]
      exact ⟨rfl, rfl⟩
    · by_cases hcx : c = x
      · subst hcx
        obtain ⟨e1, e2⟩ := h5 c (by omega)
        rw [e1, e2, sa_ga_n _ _ _ _ (by decide), sa_ga_s, sa_us, sa_ga_s, sa_us]
        exact ⟨rfl, rfl⟩
      · exact h6 c (by omega) hc2
theorem mo_run (S : sc_M) (x : Int32) : ∃ S', fn_X5_begin S x = some S' ∧ sc_gi S' 0 = x ∧ sc_gi S' 1 = nI 0 ∧ (∀ k, 2 ≤ k → sc_gi S' k = sc_gi S k) ∧ (∀ k, k ≠ 1 → k ≠ 2 → sc_ga S' k = sc_ga S k) ∧ (∀ k, sc_gb S' k = sc_gb S k) ∧ (∀ c, c < 12 → sc_ga S' 1 c = 0 ∧ sc_ga S' 2 c = nI c) := by
  obtain ⟨S', h1, h2, h3, h4, _, h6⟩ := mo_loop 12 0 sc_FU (sc_mi (sc_mi S 0 x) 1 0) rfl (by decide)
  refine ⟨S', ?_, ?_, ?_, fun k hk => ?_, h3, h4, fun c hc => h6 c (Nat.zero_le c) hc⟩
  · rw [fn_X5_begin, sa_sq, sa_sq]; exact h1
  · rw [h2, sa_gi_n _ _ _ _ (by decide), sa_gi_s]
  · rw [h2, sa_gi_s]; rfl
  · rw [h2, sa_gi_n _ _ _ _ (by omega), sa_gi_n _ _ _ _ (by omega)]
def bEmpty (n : Nat) : bT := (n, 0, fun _ => 0, fun c => nI c, fun _ => 0, fun _ => 0, fun _ _ => 0)
theorem bEmpty_ok {n : Nat} (h1 : 1 ≤ n) (h2 : n ≤ 12) : bOK (bEmpty n) := ⟨⟨h1, h2, Nat.zero_le _⟩, fun _ _ => Or.inl rfl, fun p hp => absurd hp (Nat.not_lt_zero p)⟩
/-- both sides opened with n candidates -/
theorem bo_both (SX SM : sc_M) {n : Nat} (h1 : 1 ≤ n) (h2 : n ≤ 12) (hj : jR SX SM) : ∃ SX' SM', fn_X0_open SX (nI n) = some SX' ∧ fn_X5_begin SM (nI n) = some SM' ∧ bX (bEmpty n) SX' ∧ bM (bEmpty n) SM' ∧ jR SX' SM' := by
  obtain ⟨SX', x1, x2, x3, x4, x5, x6, x7⟩ := xo_run SX (nI n)
  obtain ⟨SM', m1, m2, m3, m4, m5, m6, m7⟩ := mo_run SM (nI n)
  refine ⟨SX', SM', x1, m1, ⟨x2, x3, fun c hc => (x7 c hc).1, fun c hc => (x7 c hc).2, fun p hp => absurd hp (Nat.not_lt_zero p)⟩, ⟨m2, m3, fun c hc => (m7 c hc).1, fun c hc => (m7 c hc).2, fun p hp => absurd hp (Nat.not_lt_zero p)⟩, ?_⟩
  exact jR_frame x4 (fun k hk => x5 k (by omega) (by omega)) x6 m4 (fun k hk _ => m5 k (by omega) (by omega)) m6 hj
theorem so_candidates : sm_candidates sRel := by
  intro SX SM a ⟨B, hB, hX, hM, hj⟩
  by_cases h1 : a < 1
  · refine ⟨-2, SX, SM, ?_, ?_, B, hB, hX, hM, hj⟩
    · rw [fn_X4_candidates, if_pos h1]
    · rw [fn_X5_candidates, pi_out (Or.inl h1)]; rfl
  · by_cases h2 : a ≤ 12
    · obtain ⟨n, hn, rfl⟩ := nI_of2 (n := 12) (M := 12) rfl (fun h => h1 (Int32.lt_of_lt_of_le h (by decide))) h2
      have hn1 : 1 ≤ n := by
        rcases Nat.eq_zero_or_pos n with rfl | h
        · exact absurd (by decide) h1
        · exact h
      obtain ⟨SX', SM', x1, m1, hx, hm, hj'⟩ := bo_both SX SM hn1 hn hj
      refine ⟨nI (bN B), SX', SM', ?_, ?_, bEmpty n, bEmpty_ok hn1 hn, hx, hm, hj'⟩
      · rw [fn_X4_candidates, if_neg h1, if_pos h2, sa_sq, x1, sa_cv, hX.1]
      · rw [fn_X5_candidates, pi_in (Int32.not_lt.mp h1) h2, sa_cl, if_neg (by decide), sa_sq, m1, sa_cv, hM.1]
    · refine ⟨-2, SX, SM, ?_, ?_, B, hB, hX, hM, hj⟩
      · rw [fn_X4_candidates, if_neg h1, if_neg h2]
      · rw [fn_X5_candidates, pi_out (Or.inr (Int32.not_le.mp h2))]; rfl
theorem so_withdraw : sm_withdraw sRel := by
  intro SX SM a b ⟨B, hB, hX, hM, hj⟩ hb
  have hn : bN B < 100000 := by have := hB.1.2.1; omega
  rcases sa_rg a hn with ha | ⟨c, hc, rfl⟩
  · refine ⟨-1, SX, SM, ?_, ?_, B, hB, hX, hM, hj⟩
    · rw [fn_X4_withdraw, xc_out hX.1 ha]; rfl
    · rw [fn_X5_withdraw, pn_out hn hM.1 ha]; rfl
  · have hc12 : c < 12 := by have := hB.1.2.1; omega
    have eX := hX.2.2.1 c hc12
    have eM := hM.2.2.1 c hc12
    have hj' : jR (sc_mA SX 4 (upd (sc_ga SX 4) c b)) (sc_mA SM 1 (upd (sc_ga SM 1) c b)) := jR_frame (SX := SX) (SM := SM) (fun _ _ => rfl) (fun k hk => sa_ga_n SX 4 _ k (by omega)) (fun _ => rfl) (fun _ _ => rfl) (fun k h1 h2 => sa_ga_n SM 1 _ k (by omega)) (fun _ => rfl) hj
    have hB' : bOK (bN B, bP B, upd (bW B) c b, bL B, bQ B, bE B, bF B) := by
      refine ⟨hB.1, fun k hk => ?_, hB.2.2⟩
      show upd (bW B) c b k = 0 ∨ upd (bW B) c b k = 1
      by_cases hkc : k = c
      · rw [hkc, sa_us]; exact hb
      · rw [sa_un _ _ _ _ hkc]; exact hB.2.1 k hk
    have hX' : bX (bN B, bP B, upd (bW B) c b, bL B, bQ B, bE B, bF B) (sc_mA SX 4 (upd (sc_ga SX 4) c b)) := by
      refine ⟨hX.1, hX.2.1, fun k hk => ?_, fun k hk => ?_, fun p hp => ?_⟩
      · rw [sa_ga_s]
        show upd (sc_ga SX 4) c b k = upd (bW B) c b k
        by_cases hkc : k = c
        · rw [hkc, sa_us, sa_us]
        · rw [sa_un _ _ _ _ hkc, sa_un _ _ _ _ hkc]; exact hX.2.2.1 k hk
      · rw [sa_ga_n _ _ _ _ (by decide)]; exact hX.2.2.2.1 k hk
      · rw [sa_ga_n _ _ _ _ (by decide), sa_ga_n _ _ _ _ (by decide), sa_ga_n _ _ _ _ (by decide), sa_ga_n _ _ _ _ (by decide)]; exact hX.2.2.2.2 p hp
    have hM' : bM (bN B, bP B, upd (bW B) c b, bL B, bQ B, bE B, bF B) (sc_mA SM 1 (upd (sc_ga SM 1) c b)) := by
      refine ⟨hM.1, hM.2.1, fun k hk => ?_, fun k hk => ?_, fun p hp => ?_⟩
      · rw [sa_ga_s]
        show upd (sc_ga SM 1) c b k = upd (bW B) c b k
        by_cases hkc : k = c
        · rw [hkc, sa_us, sa_us]
        · rw [sa_un _ _ _ _ hkc, sa_un _ _ _ _ hkc]; exact hM.2.2.1 k hk
      · rw [sa_ga_n _ _ _ _ (by decide)]; exact hM.2.2.2.1 k hk
      · rw [sa_ga_n _ _ _ _ (by decide), sa_ga_n _ _ _ _ (by decide), sa_ga_n _ _ _ _ (by decide)]; exact hM.2.2.2.2 p hp
    by_cases hw : bW B c = b
    · refine ⟨0, SX, sc_mA SM 1 (upd (sc_ga SM 1) c b), ?_, ?_, B, hB, hX, ?_, ?_⟩
      · rw [fn_X4_withdraw, xc_in hn hX.1 hc, sa_cl, if_neg (by decide), sa_ck _ hc12 (by decide), sa_cl9 (by omega), eX, if_pos hw]
      · rw [fn_X5_withdraw, pn_in hn hM.1 hc, sa_cl, if_pos rfl, sa_ck _ hc12 (by decide), sa_cl9 (by omega), eM, if_pos hw, sa_ck _ hc12 (by decide), sa_sq, sa_nar hb]
      · refine ⟨hM.1, hM.2.1, fun k hk => ?_, fun k hk => ?_, fun p hp => ?_⟩
        · rw [sa_ga_s]
          by_cases hkc : k = c
          · rw [hkc, sa_us, hw]
          · rw [sa_un _ _ _ _ hkc]; exact hM.2.2.1 k hk
        · rw [sa_ga_n _ _ _ _ (by decide)]; exact hM.2.2.2.1 k hk
        · rw [sa_ga_n _ _ _ _ (by decide), sa_ga_n _ _ _ _ (by decide), sa_ga_n _ _ _ _ (by decide)]; exact hM.2.2.2.2 p hp
      · exact jR_frame (SX := SX) (SM := SM) (fun _ _ => rfl) (fun k hk => rfl) (fun _ => rfl) (fun _ _ => rfl) (fun k h1 h2 => sa_ga_n _ _ _ _ (by omega)) (fun _ => rfl) hj
    · refine ⟨1, sc_mA SX 4 (upd (sc_ga SX 4) c b), sc_mA SM 1 (upd (sc_ga SM 1) c b), ?_, ?_, _, hB', hX', hM', hj'⟩
      · rw [fn_X4_withdraw, xc_in hn hX.1 hc, sa_cl, if_neg (by decide), sa_ck _ hc12 (by decide), sa_cl9 (by omega), eX, if_neg hw, sa_ck _ hc12 (by decide), sa_sq, sa_nar hb]
      · rw [fn_X5_withdraw, pn_in hn hM.1 hc, sa_cl, if_pos rfl, sa_ck _ hc12 (by decide), sa_cl9 (by omega), eM, if_neg hw, sa_ck _ hc12 (by decide), sa_sq, sa_nar hb]
