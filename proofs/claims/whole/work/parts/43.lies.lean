theorem sa_01 {w : Int32} (h0 : w ≠ 0) (h1 : w ≠ 1) : w < 0 ∨ 1 < w := by
  have a0 : w.toInt ≠ 0 := fun q => h0 (Int32.toInt_inj.mp q)
  have a1 : w.toInt ≠ 1 := fun q => h1 (Int32.toInt_inj.mp q)
  rw [Int32.lt_iff_toInt_lt, Int32.lt_iff_toInt_lt]
  show w.toInt < 0 ∨ 1 < w.toInt
  omega
theorem sa_place (S : sc_M) (i c : Nat) : fn_X4_place S (nI i) (nI c) = some (nI (80 * i + c), S) := by rw [fn_X4_place, sa_80x]
theorem xh_in {S : sc_M} {n i p : Nat} (hn : n < 100000) (h0 : sc_gi S 8 = nI n) (hi : i < 13) (h : p < n) : fn_X3_hasPlace S (nI i) (nI p) = some (1, S) := by
  rw [fn_X3_hasPlace, fn_X3_hasPlace_e, h0, if_neg (nI_pos (by omega)), sa_l13, if_neg (nI_ge hi (by omega)), if_neg (nI_pos (by omega)), if_neg (nI_ge h (by omega))]; rfl
theorem xh_out {S : sc_M} {n i : Nat} {x : Int32} (h0 : sc_gi S 8 = nI n) (hi : i < 13) (h : x < 0 ∨ nI n ≤ x) : fn_X3_hasPlace S (nI i) x = some (0, S) := by
  rw [fn_X3_hasPlace, fn_X3_hasPlace_e, h0, if_neg (nI_pos (by omega)), sa_l13, if_neg (nI_ge hi (by omega))]
  by_cases h1 : x < 0
  · rw [if_pos h1]; rfl
  · rw [if_neg h1, if_pos (h.resolve_left h1)]; rfl
theorem so_lies : sm_lies sRel := by
  intro SX SM a b w hr
  obtain ⟨B, hB, hX, hM, hj⟩ := id hr
  obtain ⟨st, nc, el, np, ⟨h1, h2, h3, h4⟩, ⟨e1, e2, e3, e4, e5, e6, e7⟩, hm, ho, hs, hv⟩ := id hj
  rcases sa_rg a (show st < 100000 by omega) with ha | ⟨i, hi, rfl⟩
  · refine ⟨-1, SX, SM, ?_, ?_, hr⟩
    · rw [fn_X4_lies, xs_out e1 ha]; rfl
    · rw [fn_X5_lies, ps_out (by omega) e2 ha]; rfl
  · rcases hm with ⟨_, rfl⟩ | ⟨r, hr4, er, _, hp, _⟩
    · omega
    · have eX : sc_gi SX 2 = nI r := e7.trans er
      by_cases hr3 : r = 3
      · subst hr3
        by_cases w0 : w = 0
        · subst w0
          refine ⟨-3, SX, SM, ?_, ?_, hr⟩
          · rw [fn_X4_lies, xs_in (by omega) e1 hi, sa_cl, if_neg (by decide), eX, if_pos (by decide), fn_X4_lies_29, if_neg (by decide), fn_X4_lies_50, if_pos rfl, fn_X4_lies_62, if_neg (by decide)]
          · rw [fn_X5_lies, ps_in (by omega) e2 hi, sa_cl, if_pos rfl, er, if_pos (by decide), fn_X5_lies_32, pi_in (by decide) (by decide), sa_cl, if_neg (by decide), er, if_pos (by decide)]
        · by_cases w1 : w = 1
          · subst w1
            refine ⟨-3, SX, SM, ?_, ?_, hr⟩
            · rw [fn_X4_lies, xs_in (by omega) e1 hi, sa_cl, if_neg (by decide), eX, if_pos (by decide), fn_X4_lies_29, if_neg (by decide), fn_X4_lies_50, if_neg (by decide), if_pos rfl, fn_X4_lies_62, if_neg (by decide)]
            · rw [fn_X5_lies, ps_in (by omega) e2 hi, sa_cl, if_pos rfl, er, if_pos (by decide), fn_X5_lies_32, pi_in (by decide) (by decide), sa_cl, if_neg (by decide), er, if_pos (by decide)]
          · refine ⟨-2, SX, SM, ?_, ?_, hr⟩
            · rw [fn_X4_lies, xs_in (by omega) e1 hi, sa_cl, if_neg (by decide), eX, if_pos (by decide), fn_X4_lies_29, if_neg (by decide), fn_X4_lies_50, if_neg w0, if_neg w1]
            · rw [fn_X5_lies, ps_in (by omega) e2 hi, sa_cl, if_pos rfl, er, if_pos (by decide), fn_X5_lies_32, pi_out (sa_01 w0 w1), sa_cl, if_pos rfl]
      · obtain ⟨p1, p2, p3, p4⟩ := hp (by omega)
        have n3 : ¬ nI r = 3 := by rw [sa_l3, nI_eq (by omega) (by omega)]; exact hr3
        have l3 : ¬ (3 : Int32) ≤ nI r := by rw [sa_l3, nI_leI (by omega) (by omega)]; omega
        rcases sa_rg b (show np < 100000 by omega) with hb | ⟨q, hq, rfl⟩
        · refine ⟨-1, SX, SM, ?_, ?_, hr⟩
          · rw [fn_X4_lies, xs_in (by omega) e1 hi, sa_cl, if_neg (by decide), eX, if_neg n3, fn_X4_lies_29, if_pos rfl, xh_out p2 (by omega) hb, sa_cl, if_pos rfl]
          · rw [fn_X5_lies, ps_in (by omega) e2 hi, sa_cl, if_pos rfl, er, if_neg l3, p3, pr_out (by omega) hb, sa_cl, if_pos rfl]
        · obtain ⟨g1, g2, g3⟩ := p4 i hi q hq
          by_cases w0 : w = 0
          · subst w0
            by_cases hat : 0 ≤ sc_ga SM 17 (80 * i + q)
            · refine ⟨sc_ga SM 17 (80 * i + q), SX, SM, ?_, ?_, hr⟩
              · rw [fn_X4_lies, xs_in (by omega) e1 hi, sa_cl, if_neg (by decide), eX, if_neg n3, fn_X4_lies_29, if_pos rfl, xh_in (by omega) p2 (by omega) hq, sa_cl, if_neg (by decide), fn_X4_lies_50, if_pos rfl, fn_X4_lies_62, if_pos rfl, if_pos rfl, sa_place, sa_cl, sa_ck _ (by omega) (by omega), sa_cl9 (by omega), g1 hat]
              · rw [fn_X5_lies, ps_in (by omega) e2 hi, sa_cl, if_pos rfl, er, if_neg l3, p3, pr_in (by omega) hq, sa_cl, if_neg (by decide), fn_X5_lies_32, pi_in (by decide) (by decide), sa_cl, if_neg (by decide), er, if_neg n3, sa_80m, sa_ck _ (by omega) (by omega), sa_sq, if_pos rfl, sa_cl9 (by omega), if_pos hat]
            · refine ⟨-9, SX, SM, ?_, ?_, hr⟩
              · rw [fn_X4_lies, xs_in (by omega) e1 hi, sa_cl, if_neg (by decide), eX, if_neg n3, fn_X4_lies_29, if_pos rfl, xh_in (by omega) p2 (by omega) hq, sa_cl, if_neg (by decide), fn_X4_lies_50, if_pos rfl, fn_X4_lies_62, if_pos rfl, if_pos rfl, sa_place, sa_cl, sa_ck _ (by omega) (by omega), sa_cl9 (by omega), g2 (Int32.not_le.mp hat)]
              · rw [fn_X5_lies, ps_in (by omega) e2 hi, sa_cl, if_pos rfl, er, if_neg l3, p3, pr_in (by omega) hq, sa_cl, if_neg (by decide), fn_X5_lies_32, pi_in (by decide) (by decide), sa_cl, if_neg (by decide), er, if_neg n3, sa_80m, sa_ck _ (by omega) (by omega), sa_sq, if_pos rfl, sa_cl9 (by omega), if_neg hat]
          · by_cases w1 : w = 1
            · subst w1
              refine ⟨(sc_gb SM 18 (80 * i + q)).toInt32, SX, SM, ?_, ?_, hr⟩
              · rw [fn_X4_lies, xs_in (by omega) e1 hi, sa_cl, if_neg (by decide), eX, if_neg n3, fn_X4_lies_29, if_pos rfl, xh_in (by omega) p2 (by omega) hq, sa_cl, if_neg (by decide), fn_X4_lies_50, if_neg (by decide), if_pos rfl, fn_X4_lies_62, if_pos rfl, if_neg (by decide), sa_place, sa_cl, sa_ck _ (by omega) (by omega), sa_cl9 (by omega), g3]
              · rw [fn_X5_lies, ps_in (by omega) e2 hi, sa_cl, if_pos rfl, er, if_neg l3, p3, pr_in (by omega) hq, sa_cl, if_neg (by decide), fn_X5_lies_32, pi_in (by decide) (by decide), sa_cl, if_neg (by decide), er, if_neg n3, sa_80m, sa_ck _ (by omega) (by omega), sa_sq, if_neg (by decide), sa_ck _ (by omega) (by omega), sa_cl9 (by omega)]
            · refine ⟨-2, SX, SM, ?_, ?_, hr⟩
              · rw [fn_X4_lies, xs_in (by omega) e1 hi, sa_cl, if_neg (by decide), eX, if_neg n3, fn_X4_lies_29, if_pos rfl, xh_in (by omega) p2 (by omega) hq, sa_cl, if_neg (by decide), fn_X4_lies_50, if_neg w0, if_neg w1]
              · rw [fn_X5_lies, ps_in (by omega) e2 hi, sa_cl, if_pos rfl, er, if_neg l3, p3, pr_in (by omega) hq, sa_cl, if_neg (by decide), fn_X5_lies_32, pi_out (sa_01 w0 w1), sa_cl, if_pos rfl]
theorem lt_loop {n c : Nat} (hn : n ≤ 12) (hc : c < n) (l b : Int32) : ∀ (d x fX fM : Nat) (SX SM : sc_M) (L : Nat → Int32), x + d = n → d < fX → d < fM → sc_gi SX 0 = nI n → sc_gi SM 0 = nI n → (∀ k, k < 12 → sc_ga SX 5 k = L k) → (∀ k, k < 12 → sc_ga SM 2 k = L k) → ∃ (SX' SM' : sc_M) (L' : Nat → Int32), fn_X0_swapLots_10 fX SX (nI c) l b (nI x) = some (b, SX') ∧ fn_X5_lot_37 fM SM (nI c) l b (nI x) = some (b, SM') ∧ (∀ k, k < 12 → sc_ga SX' 5 k = L' k) ∧ (∀ k, k < 12 → sc_ga SM' 2 k = L' k) ∧ (∀ k, sc_gi SX' k = sc_gi SX k) ∧ (∀ k, k ≠ 5 → sc_ga SX' k = sc_ga SX k) ∧ (∀ k, sc_gb SX' k = sc_gb SX k) ∧ (∀ k, sc_gi SM' k = sc_gi SM k) ∧ (∀ k, k ≠ 2 → sc_ga SM' k = sc_ga SM k) ∧ (∀ k, sc_gb SM' k = sc_gb SM k) := by
  intro d
  induction d with
  | zero =>
    intro x fX fM SX SM L hx hf1 hf2 e1 e2 hX hM
    obtain ⟨f, rfl⟩ : ∃ f, fX = f + 1 := ⟨fX - 1, by omega⟩
    obtain ⟨g, rfl⟩ : ∃ g, fM = g + 1 := ⟨fM - 1, by omega⟩
    refine ⟨sc_mA SX 5 (upd (sc_ga SX 5) c l), sc_mA SM 2 (upd (sc_ga SM 2) c l), upd L c l, ?_, ?_, fun k hk => ?_, fun k hk => ?_, fun _ => rfl, fun k hk => sa_ga_n _ _ _ _ hk, fun _ => rfl, fun _ => rfl, fun k hk => sa_ga_n _ _ _ _ hk, fun _ => rfl⟩
    · rw [fn_X0_swapLots_10, e1, if_pos (nI_le (by omega) (by omega)), sa_ck _ (by omega) (by omega), sa_sq, sa_cl9 (by omega)]
    · rw [fn_X5_lot_37, e2, if_pos (nI_le (by omega) (by omega)), sa_ck _ (by omega) (by omega), sa_sq, sa_cl9 (by omega)]
    · rw [sa_ga_s]
      by_cases h : k = c
      · rw [h, sa_us, sa_us]
      · rw [sa_un _ _ _ _ h, sa_un _ _ _ _ h]; exact hX k hk
    · rw [sa_ga_s]
      by_cases h : k = c
      · rw [h, sa_us, sa_us]
      · rw [sa_un _ _ _ _ h, sa_un _ _ _ _ h]; exact hM k hk
  | succ d ih =>
    intro x fX fM SX SM L hx hf1 hf2 e1 e2 hX hM
    obtain ⟨f, rfl⟩ : ∃ f, fX = f + 1 := ⟨fX - 1, by omega⟩
    obtain ⟨g, rfl⟩ : ∃ g, fM = g + 1 := ⟨fM - 1, by omega⟩
    rw [fn_X0_swapLots_10, e1, if_neg (nI_ge (by omega) (by omega)), fn_X5_lot_37, e2, if_neg (nI_ge (by omega) (by omega))]
    simp only [sa_ck _ (show x < 12 by omega) (show 12 < 100000 by omega), sa_cl9 (show x < 100000 by omega), sa_sq, nI_1]
    rw [hX x (by omega), hM x (by omega)]
    have key : ∀ (v : Int32) (k : Nat), k < 12 → (∀ f : Nat → Int32, (∀ k, k < 12 → f k = L k) → upd f x v k = upd L x v k) := fun v k hk f hf => by
      by_cases h : k = x
      · rw [h, sa_us, sa_us]
      · rw [sa_un _ _ _ _ h, sa_un _ _ _ _ h]; exact hf k hk
    by_cases he : L x = l
    · rw [if_pos he, if_pos he]
      obtain ⟨SX', SM', L', r1, r2, r3, r4, r5, r6, r7, r8, r9, r10⟩ := ih (x + 1) f g (sc_mA SX 5 (upd (sc_ga SX 5) x b)) (sc_mA SM 2 (upd (sc_ga SM 2) x b)) (upd L x b) (by omega) (by omega) (by omega) e1 e2 (fun k hk => by rw [sa_ga_s]; exact key b k hk _ hX) (fun k hk => by rw [sa_ga_s]; exact key b k hk _ hM)
      exact ⟨SX', SM', L', r1, r2, r3, r4, r5, fun k hk => by rw [r6 k hk, sa_ga_n _ _ _ _ hk], r7, r8, fun k hk => by rw [r9 k hk, sa_ga_n _ _ _ _ hk], r10⟩
    · rw [if_neg he, if_neg he]
      obtain ⟨SX', SM', L', r1, r2, r3, r4, r5, r6, r7, r8, r9, r10⟩ := ih (x + 1) f g SX (sc_mA SM 2 (upd (sc_ga SM 2) x (L x))) L (by omega) (by omega) (by omega) e1 e2 hX (fun k hk => by
        rw [sa_ga_s]
        by_cases h : k = x
        · rw [h, sa_us]
        · rw [sa_un _ _ _ _ h]; exact hM k hk)
      exact ⟨SX', SM', L', r1, r2, r3, r4, r5, r6, r7, r8, fun k hk => by rw [r9 k hk, sa_ga_n _ _ _ _ hk], r10⟩
theorem so_lot : sm_lot sRel := by
  intro SX SM a b hr
  obtain ⟨B, hB, hX, hM, hj⟩ := id hr
  have hn12 := hB.1.2.1
  have hn : bN B < 100000 := by omega
  rcases sa_rg a hn with ha | ⟨c, hc, rfl⟩
  · refine ⟨-1, SX, SM, ?_, ?_, hr⟩
    · rw [fn_X4_lot, xc_out hX.1 ha]; rfl
    · rw [fn_X5_lot, pn_out hn hM.1 ha]; rfl
  · rcases sa_rg b hn with hb | ⟨l, hl, rfl⟩
    · refine ⟨-2, SX, SM, ?_, ?_, hr⟩
      · rw [fn_X4_lot, xc_in hn hX.1 hc, sa_cl, if_neg (by decide)]
        by_cases h0 : b < 0
        · rw [if_pos h0]
        · rw [if_neg h0, hX.1, if_neg (Int32.not_lt.mpr (hb.resolve_left h0))]
      · rw [fn_X5_lot, pn_in hn hM.1 hc, sa_cl, if_pos rfl, hM.1, pr_out hn hb]; rfl
    · have hc12 : c < 12 := by omega
      obtain ⟨SX', SM', L', r1, r2, r3, r4, r5, r6, r7, r8, r9, r10⟩ := lt_loop hn12 hc (nI l) (bL B c) (bN B) 0 sc_FU sc_FU SX SM (bL B) (by omega) (by rw [sa_FU]; omega) (by rw [sa_FU]; omega) hX.1 hM.1 hX.2.2.2.1 hM.2.2.2.1
      refine ⟨bL B c, SX', SM', ?_, ?_, (bN B, bP B, bW B, L', bQ B, bE B, bF B), hB, ⟨?_, ?_, ?_, r3, ?_⟩, ⟨?_, ?_, ?_, r4, ?_⟩, ?_⟩
      · rw [fn_X4_lot, xc_in hn hX.1 hc, sa_cl, if_neg (by decide), if_neg (nI_pos (by omega)), hX.1, if_pos (nI_lt hl (by omega)), fn_X0_swapLots, sa_ck _ hc12 (by decide), sa_sq, sa_cl9 (by omega), hX.2.2.2.1 c hc12]
        exact (congrArg (fun z => sc_cl z _) r1).trans rfl
      · rw [fn_X5_lot, pn_in hn hM.1 hc, sa_cl, if_pos rfl, hM.1, pr_in hn hl, sa_cl, if_neg (by decide), sa_ck _ hc12 (by decide), sa_sq, sa_cl9 (by omega), hM.2.2.2.1 c hc12]
        exact r2
      · rw [r5]; exact hX.1
      · rw [r5]; exact hX.2.1
      · rw [r6 4 (by decide)]; exact hX.2.2.1
      · rw [r6 6 (by decide), r6 7 (by decide), r6 8 (by decide), r6 9 (by decide)]; exact hX.2.2.2.2
      · rw [r8]; exact hM.1
      · rw [r8]; exact hM.2.1
      · rw [r9 1 (by decide)]; exact hM.2.2.1
      · rw [r9 3 (by decide), r9 4 (by decide), r9 5 (by decide)]; exact hM.2.2.2.2
      · exact jR_frame (fun k _ => r5 k) (fun k hk => r6 k (by omega)) r7 (fun k _ => r8 k) (fun k h _ => r9 k (by omega)) r10 hj
