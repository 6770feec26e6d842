/-! ===== a new pile ===== -/
theorem pig : ∀ (n m : Nat) (f : Nat → Nat), (∀ j, j < m → 1 ≤ f j ∧ f j ≤ n) → (∀ i j, i < m → j < m → f i = f j → i = j) → m ≤ n := by
  intro n
  induction n with
  | zero =>
    intro m f h1 h2
    rcases Nat.eq_zero_or_pos m with h | h
    · omega
    · have := h1 0 h; omega
  | succ n ih =>
    intro m f h1 h2
    by_cases hex : ∃ j, j < m ∧ f j = n + 1
    · obtain ⟨j, hj, hfj⟩ := hex
      have := ih (m - 1) (fun i => if i = j then f (m - 1) else f i) (fun i hi => by
          show 1 ≤ (if i = j then f (m - 1) else f i) ∧ (if i = j then f (m - 1) else f i) ≤ n
          by_cases hij : i = j
          · rw [if_pos hij]
            have a := h1 (m - 1) (by omega)
            have b : f (m - 1) ≠ n + 1 := fun q => by have := h2 (m - 1) j (by omega) hj (q.trans hfj.symm); omega
            omega
          · rw [if_neg hij]
            have a := h1 i (by omega)
            have b : f i ≠ n + 1 := fun q => hij (h2 i j (by omega) hj (q.trans hfj.symm))
            omega) (fun i k hi hk he => by
          have he : (if i = j then f (m - 1) else f i) = (if k = j then f (m - 1) else f k) := he
          by_cases hij : i = j
          · by_cases hkj : k = j
            · omega
            · rw [if_pos hij, if_neg hkj] at he
              have := h2 (m - 1) k (by omega) (by omega) he; omega
          · by_cases hkj : k = j
            · rw [if_neg hij, if_pos hkj] at he
              have := h2 i (m - 1) (by omega) (by omega) he; omega
            · rw [if_neg hij, if_neg hkj] at he
              exact h2 i k (by omega) (by omega) he)
      omega
    · have := ih m f (fun j hj => by
        have a := h1 j hj
        have b : f j ≠ n + 1 := fun q => hex ⟨j, hj, q⟩
        omega) h2
      omega
theorem ap16 {x : Int64} {ln pp : Int32} {np : Nat} (hnp : np < 80) : ∀ (d c f : Nat) (S : sc_M), c + d = 12 → d < f → ∃ S', fn_X0_addPile_16 f S x ln pp (nI np) (nI (12 * np)) (nI c) = fn_X0_addPile_44 sc_FU S' x ln pp (nI np) (nI (12 * np)) 0 ∧ (∀ k, sc_gi S' k = sc_gi S k) ∧ (∀ k, k ≠ 9 → sc_ga S' k = sc_ga S k) ∧ (∀ k, sc_gb S' k = sc_gb S k) ∧ (∀ j, j < 12 * np + c → sc_ga S' 9 j = sc_ga S 9 j) ∧ (∀ e, c ≤ e → e < 12 → sc_ga S' 9 (12 * np + e) = nI 12) := by
  intro d
  induction d with
  | zero =>
    intro c f S hc hf
    obtain ⟨f, rfl⟩ : ∃ f', f = f' + 1 := ⟨f - 1, by omega⟩
    refine ⟨S, ?_, fun _ => rfl, fun _ _ => rfl, fun _ => rfl, fun _ _ => rfl, fun e h1 h2 => by omega⟩
    rw [fn_X0_addPile_16, sa_l12, if_pos (nI_le (by omega) (by omega))]
  | succ d ih =>
    intro c f S hc hf
    obtain ⟨f, rfl⟩ : ∃ f', f = f' + 1 := ⟨f - 1, by omega⟩
    obtain ⟨S', h1, h2, h3, h4, h5, h6⟩ := ih (c + 1) f (sc_mA S 9 (upd (sc_ga S 9) (12 * np + c) (nI 12))) (by omega) (by omega)
    refine ⟨S', ?_, fun k => (h2 k).trans rfl, fun k hk => (h3 k hk).trans (sa_ga_n _ _ _ _ hk), fun k => (h4 k).trans rfl, fun j hj => ?_, fun e he1 he2 => ?_⟩
    · rw [fn_X0_addPile_16, sa_l12, if_neg (nI_ge (by omega) (by omega)), nI_add, sa_ck _ (by omega) (by omega), sa_sq, sa_cl9 (by omega), nI_1]
      exact h1
    · rw [h5 j (by omega), sa_ga_s, sa_un _ _ _ _ (by omega)]
    · by_cases h : e = c
      · rw [h, h5 _ (by omega), sa_ga_s, sa_us]
      · exact h6 e (by omega) he2
theorem ap44 {x : Int64} {pp : Int32} {np r n : Nat} (hnp : np < 80) (hr : r ≤ 12) (hn : n ≤ 12) (hd : ∀ j, j < r → 1 ≤ dg x j ∧ dg x j ≤ n) : ∀ (d k f : Nat) (S : sc_M), k + d = r → d < f → sc_gi S 1 = nI np → (∀ c, c < 12 → sc_ga S 9 (12 * np + c) = nI (rkF (fun k => dg x k - 1) c k)) → (∀ j, j < k → sc_ga S 8 (12 * np + j) = nI (dg x j - 1)) → ∃ S', fn_X0_addPile_44 f S x (nI r) pp (nI np) (nI (12 * np)) (nI k) = some (nI np, S') ∧ sc_gi S' 1 = nI (np + 1) ∧ (∀ k, k ≠ 1 → sc_gi S' k = sc_gi S k) ∧ (∀ k, k < 6 ∨ 10 ≤ k → sc_ga S' k = sc_ga S k) ∧ (∀ k, sc_gb S' k = sc_gb S k) ∧ (∀ j, j ≠ np → sc_ga S' 6 j = sc_ga S 6 j ∧ sc_ga S' 7 j = sc_ga S 7 j) ∧ sc_ga S' 6 np = pp ∧ sc_ga S' 7 np = nI r ∧ (∀ j, j < 12 * np → sc_ga S' 8 j = sc_ga S 8 j ∧ sc_ga S' 9 j = sc_ga S 9 j) ∧ (∀ c, c < 12 → sc_ga S' 9 (12 * np + c) = nI (rkF (fun k => dg x k - 1) c r)) ∧ (∀ j, j < r → sc_ga S' 8 (12 * np + j) = nI (dg x j - 1)) := by
  intro d
  induction d with
  | zero =>
    intro k f S hk hf e1 h9 h8
    obtain ⟨f, rfl⟩ : ∃ f', f = f' + 1 := ⟨f - 1, by omega⟩
    obtain rfl : k = r := by omega
    refine ⟨sc_mi (sc_mA (sc_mA S 7 (upd (sc_ga S 7) np (nI k))) 6 (upd (sc_ga S 6) np pp)) 1 (nI (np + 1)), ?_, sa_gi_s _ _ _, fun q hq => sa_gi_n _ _ _ _ hq, fun q hq => ?_, fun _ => rfl, fun j hj => ⟨?_, ?_⟩, ?_, ?_, fun j hj => ⟨?_, ?_⟩, fun c hc => ?_, fun j hj => ?_⟩
    · rw [fn_X0_addPile_44, if_pos (nI_le (by omega) (by omega)), sa_ck _ (by omega) (by omega), sa_sq, sa_ck _ (by omega) (by omega), sa_sq, sa_sq, sa_cl9 (by omega), sa_gi_A, sa_gi_A, e1, nI_1, sa_ga_n _ _ _ _ (by decide)]
    · rw [sa_ga_i, sa_ga_n _ _ _ _ (by omega), sa_ga_n _ _ _ _ (by omega)]
    · rw [sa_ga_i, sa_ga_s, sa_un _ _ _ _ hj]
    · rw [sa_ga_i, sa_ga_n _ _ _ _ (by decide), sa_ga_s, sa_un _ _ _ _ hj]
    · rw [sa_ga_i, sa_ga_s, sa_us]
    · rw [sa_ga_i, sa_ga_n _ _ _ _ (by decide), sa_ga_s, sa_us]
    · rw [sa_ga_i, sa_ga_n _ _ _ _ (by decide), sa_ga_n _ _ _ _ (by decide)]
    · rw [sa_ga_i, sa_ga_n _ _ _ _ (by decide), sa_ga_n _ _ _ _ (by decide)]
    · rw [sa_ga_i, sa_ga_n _ _ _ _ (by decide), sa_ga_n _ _ _ _ (by decide)]; exact h9 c hc
    · rw [sa_ga_i, sa_ga_n _ _ _ _ (by decide), sa_ga_n _ _ _ _ (by decide)]; exact h8 j hj
  | succ d ih =>
    intro k f S hk hf e1 h9 h8
    obtain ⟨f, rfl⟩ : ∃ f', f = f' + 1 := ⟨f - 1, by omega⟩
    obtain ⟨d1, d2⟩ := hd k (by omega)
    have hS : ∃ S2, S2 = sc_mA (sc_mA S 8 (upd (sc_ga S 8) (12 * np + k) (nI (dg x k - 1)))) 9 (upd (sc_ga S 9) (12 * np + (dg x k - 1)) (nI k)) := ⟨_, rfl⟩
    obtain ⟨S2, eS2⟩ := hS
    have g8 : sc_ga S2 8 = upd (sc_ga S 8) (12 * np + k) (nI (dg x k - 1)) := by rw [eS2, sa_ga_n _ _ _ _ (by decide), sa_ga_s]
    have g9 : sc_ga S2 9 = upd (sc_ga S 9) (12 * np + (dg x k - 1)) (nI k) := by rw [eS2, sa_ga_s]
    have go : ∀ q, q ≠ 8 → q ≠ 9 → sc_ga S2 q = sc_ga S q := fun q h1 h2 => by rw [eS2, sa_ga_n _ _ _ _ h2, sa_ga_n _ _ _ _ h1]
    have gi2 : ∀ q, sc_gi S2 q = sc_gi S q := fun q => by rw [eS2]; rfl
    have gb2 : ∀ q, sc_gb S2 q = sc_gb S q := fun q => by rw [eS2]; rfl
    obtain ⟨S', r1, r2, r3, r4, r5, r6, r7, r8, r9, r10, r11⟩ := ih (k + 1) f S2 (by omega) (by omega) (by rw [gi2]; exact e1) (fun c hc => by
        rw [g9, rkF]
        by_cases h : dg x k - 1 = c
        · rw [if_pos h, h, sa_us]
        · rw [if_neg h, sa_un _ _ _ _ (by omega)]; exact h9 c hc) (fun j hj => by
        rw [g8]
        by_cases h : j = k
        · rw [h, sa_us]
        · rw [sa_un _ _ _ _ (by omega)]; exact h8 j (by omega))
    refine ⟨S', ?_, r2, fun q hq => (r3 q hq).trans (gi2 q), fun q hq => (r4 q hq).trans (go q (by omega) (by omega)), fun q => (r5 q).trans (gb2 q), fun j hj => ⟨((r6 j hj).1).trans (by rw [go 6 (by decide) (by decide)]), ((r6 j hj).2).trans (by rw [go 7 (by decide) (by decide)])⟩, r7, r8, fun j hj => ⟨((r9 j hj).1).trans (by rw [g8, sa_un _ _ _ _ (by omega)]), ((r9 j hj).2).trans (by rw [g9, sa_un _ _ _ _ (by omega)])⟩, r10, r11⟩
    rw [fn_X0_addPile_44, if_neg (nI_ge (by omega) (by omega)), dg_X, sa_cl, sa_sq, sa_m1 (by omega), nI_add, sa_ck _ (by omega) (by omega), sa_sq, nI_add, sa_ck _ (by omega) (by omega), sa_sq, sa_cl9 (by omega), sa_cl9 (by omega), sa_ga_n _ _ _ _ (by decide), ← eS2, nI_1]
    exact r1
theorem mp62 {r np : Nat} {g : Nat → Nat} (hnp : np < 80) (hr : r ≤ 12) : ∀ (d k f : Nat) (S : sc_M), k + d = r → d < f → sc_gi S 1 = nI np → (∀ j, j < r → sc_ga S 6 j = nI (g j)) → (∀ j, j < k → sc_ga S 5 (12 * np + j) = nI (g j)) → ∃ S', fn_X5_pile_62 f S (nI r) (nI k) = some (nI np, S') ∧ sc_gi S' 1 = nI (np + 1) ∧ (∀ k, k ≠ 1 → sc_gi S' k = sc_gi S k) ∧ (∀ k, k ≠ 5 → sc_ga S' k = sc_ga S k) ∧ (∀ k, sc_gb S' k = sc_gb S k) ∧ (∀ j, j < 12 * np → sc_ga S' 5 j = sc_ga S 5 j) ∧ (∀ j, j < r → sc_ga S' 5 (12 * np + j) = nI (g j)) := by
  intro d
  induction d with
  | zero =>
    intro k f S hk hf e1 h6 h5
    obtain ⟨f, rfl⟩ : ∃ f', f = f' + 1 := ⟨f - 1, by omega⟩
    obtain rfl : k = r := by omega
    refine ⟨sc_mi S 1 (nI (np + 1)), ?_, sa_gi_s _ _ _, fun q hq => sa_gi_n _ _ _ _ hq, fun _ _ => rfl, fun _ => rfl, fun _ _ => rfl, h5⟩
    rw [fn_X5_pile_62, if_pos (nI_le (by omega) (by omega)), sa_sq, e1, nI_1, sa_gi_s, nI_pred]
  | succ d ih =>
    intro k f S hk hf e1 h6 h5
    obtain ⟨f, rfl⟩ : ∃ f', f = f' + 1 := ⟨f - 1, by omega⟩
    obtain ⟨S', r1, r2, r3, r4, r5, r6, r7⟩ := ih (k + 1) f (sc_mA S 5 (upd (sc_ga S 5) (12 * np + k) (nI (g k)))) (by omega) (by omega) e1 (fun j hj => by rw [sa_ga_n _ _ _ _ (by decide)]; exact h6 j hj) (fun j hj => by
        rw [sa_ga_s]
        by_cases h : j = k
        · rw [h, sa_us]
        · rw [sa_un _ _ _ _ (by omega)]; exact h5 j (by omega))
    refine ⟨S', ?_, r2, fun q hq => (r3 q hq).trans rfl, fun q hq => (r4 q hq).trans (sa_ga_n _ _ _ _ hq), fun q => (r5 q).trans rfl, fun j hj => (r6 j hj).trans (by rw [sa_ga_s, sa_un _ _ _ _ (by omega)]), r7⟩
    rw [fn_X5_pile_62, if_neg (nI_ge (by omega) (by omega)), sa_ck _ (by omega) (by omega), e1, sa_12m, sa_ck _ (by omega) (by omega), sa_sq, sa_cl9 (by omega), sa_cl9 (by omega), h6 k (by omega), nI_1]
    exact r1
theorem so_pile : sm_pile sRel := by
  intro SX SM x b hr
  obtain ⟨B, hB, hX, hM, hj⟩ := id hr
  obtain ⟨hn1, hn12, hp80⟩ := hB.1
  obtain ⟨r, S1, r0, t1, t2, t3, t4, t5, t6⟩ := rd_both x hn12 SX SM hX.1 hM.1
  have hM1 : bM B S1 := by
    refine ⟨(t3.1 0).trans hM.1, (t3.1 1).trans hM.2.1, ?_, ?_, ?_⟩
    · rw [t3.2.1 1 (by decide)]; exact hM.2.2.1
    · rw [t3.2.1 2 (by decide)]; exact hM.2.2.2.1
    · rw [t3.2.1 3 (by decide), t3.2.1 4 (by decide), t3.2.1 5 (by decide)]; exact hM.2.2.2.2
  have hj1 : jR SX S1 := jR_frame (fun _ _ => rfl) (fun _ _ => rfl) (fun _ => rfl) (fun k _ => t3.1 k) (fun k h1 _ => t3.2.1 k (by omega)) t3.2.2 hj
  have hr1 : sRel SX S1 := ⟨B, hB, hX, hM1, hj1⟩
  by_cases hz : r = 0
  · refine ⟨-2, SX, S1, ?_, ?_, hr1⟩
    · rw [fn_X4_pile, t1, sa_cl, hz, if_pos (show nI 0 = 0 from rfl)]
    · rw [fn_X5_pile, t2, sa_cl, hz, if_pos (show nI 0 = 0 from rfl)]
  · have hr12 : r ≤ 12 := Nat.le_trans (pig (bN B) r (dg x) t4 t5) hn12
    have nz : ¬ nI r = 0 := nI_ne0 (by omega) (by omega)
    by_cases h : b < 1 ∨ 500 < b
    · refine ⟨-2, SX, S1, ?_, ?_, hr1⟩
      · rw [fn_X4_pile, t1, sa_cl, if_neg nz, ip_X, pi_out h, sa_cl, if_pos rfl]
      · rw [fn_X5_pile, t2, sa_cl, if_neg nz, pi_out h, sa_cl, if_pos rfl]
    · have hb1 : 1 ≤ b := Int32.not_lt.mp (fun q => h (Or.inl q))
      have hb2 : b ≤ 500 := Int32.not_lt.mp (fun q => h (Or.inr q))
      obtain ⟨v, hv, rfl⟩ := nI_of2 (n := 500) (M := 500) rfl (fun q => h (Or.inl (Int32.lt_of_lt_of_le q (by decide)))) hb2
      have hv1 : 1 ≤ v := by
        rcases Nat.eq_zero_or_pos v with rfl | q
        · exact absurd hb1 (by decide)
        · exact q
      by_cases hfull : bP B = 80
      · refine ⟨-4, SX, S1, ?_, ?_, hr1⟩
        · rw [fn_X4_pile, t1, sa_cl, if_neg nz, ip_X, pi_in hb1 hb2, sa_cl, if_neg (by decide), hX.2.1, hfull, if_neg (by decide)]
        · rw [fn_X5_pile, t2, sa_cl, if_neg nz, pi_in hb1 hb2, sa_cl, if_neg (by decide), hM1.2.1, hfull, if_pos (by decide)]
      · have hnp : bP B < 80 := by omega
        obtain ⟨S2, a1, a2, a3, a4, a5, a6⟩ := ap16 (x := x) (ln := nI r) (pp := nI v) hnp 12 0 sc_FU SX rfl (by rw [sa_FU]; omega)
        obtain ⟨SX', q1, q2, q3, q4, q5, q6, q7, q8, q9, q10, q11⟩ := ap44 (x := x) (pp := nI v) hnp hr12 hn12 t4 r 0 sc_FU S2 (by omega) (by rw [sa_FU]; omega) ((a2 1).trans hX.2.1) (fun c hc => a6 c (by omega) hc) (fun j hj => absurd hj (Nat.not_lt_zero j))
        obtain ⟨S3, eS3⟩ : ∃ S3, S3 = sc_mA (sc_mA S1 3 (upd (sc_ga S1 3) (bP B) (nI v))) 4 (upd (sc_ga S1 4) (bP B) (nI r)) := ⟨_, rfl⟩
        have g3 : sc_ga S3 3 = upd (sc_ga S1 3) (bP B) (nI v) := by rw [eS3, sa_ga_n _ _ _ _ (by decide), sa_ga_s]
        have g4 : sc_ga S3 4 = upd (sc_ga S1 4) (bP B) (nI r) := by rw [eS3, sa_ga_s]
        have go : ∀ q, q ≠ 3 → q ≠ 4 → sc_ga S3 q = sc_ga S1 q := fun q h1 h2 => by rw [eS3, sa_ga_n _ _ _ _ h2, sa_ga_n _ _ _ _ h1]
        have gi3 : ∀ q, sc_gi S3 q = sc_gi S1 q := fun q => by rw [eS3]; rfl
        have gb3 : ∀ q, sc_gb S3 q = sc_gb S1 q := fun q => by rw [eS3]; rfl
        obtain ⟨SM', p1, p2, p3, p4, p5, p6, p7⟩ := mp62 (g := fun j => dg x j - 1) hnp hr12 r 0 sc_FU S3 (by omega) (by rw [sa_FU]; omega) ((gi3 1).trans hM1.2.1) (fun j hj => by rw [go 6 (by decide) (by decide)]; exact t6 j hj) (fun j hj => absurd hj (Nat.not_lt_zero j))
        refine ⟨nI (bP B), SX', SM', ?_, ?_, (bN B, bP B + 1, bW B, bL B, fun p => if p = bP B then v else bQ B p, fun p => if p = bP B then r else bE B p, fun p => if p = bP B then (fun k => dg x k - 1) else bF B p), ?_, ?_, ?_, ?_⟩
        · rw [fn_X4_pile, t1, sa_cl, if_neg nz, ip_X, pi_in hb1 hb2, sa_cl, if_neg (by decide), hX.2.1, if_pos (by rw [sa_l80]; exact nI_lt hnp (by omega)), fn_X0_addPile, sa_sq, hX.2.1, sa_sq, show nI (bP B) * (12 : Int32) = nI (12 * bP B) by rw [sa_l12, pk_mul, Nat.mul_comm]]
          have := a1.trans q1
          exact (congrArg (fun z => sc_cl z _) this).trans rfl
        · rw [fn_X5_pile, t2, sa_cl, if_neg nz, pi_in hb1 hb2, sa_cl, if_neg (by decide), hM1.2.1, if_neg (by rw [sa_l80, nI_eq (by omega) (by omega)]; omega), sa_ck _ (by omega) (by omega), sa_sq, sa_gi_A, hM1.2.1, sa_ck _ (by omega) (by omega), sa_sq, sa_cl9 (by omega), sa_ga_n _ _ _ _ (by decide), ← eS3]
          exact p1
        · refine ⟨⟨hn1, hn12, hnp⟩, hB.2.1, fun p hp => ?_⟩
          have hp : p < bP B + 1 := hp
          show (1 ≤ (if p = bP B then v else bQ B p) ∧ (if p = bP B then v else bQ B p) ≤ 500) ∧ (1 ≤ (if p = bP B then r else bE B p) ∧ (if p = bP B then r else bE B p) ≤ 12) ∧ (∀ k, k < (if p = bP B then r else bE B p) → (if p = bP B then (fun k => dg x k - 1) else bF B p) k < bN B) ∧ (∀ j k, j < (if p = bP B then r else bE B p) → k < (if p = bP B then r else bE B p) → (if p = bP B then (fun k => dg x k - 1) else bF B p) j = (if p = bP B then (fun k => dg x k - 1) else bF B p) k → j = k)
          by_cases he : p = bP B
          · simp only [if_pos he]
            refine ⟨⟨hv1, hv⟩, ⟨by omega, hr12⟩, fun k hk => ?_, fun j k hj hk he => ?_⟩
            · have := t4 k hk; omega
            · have u1 := t4 j hj
              have u2 := t4 k hk
              exact t5 j k hj hk (by omega)
          · simp only [if_neg he]
            exact hB.2.2 p (by omega)
        · refine ⟨?_, q2, ?_, ?_, fun p hp => ?_⟩
          · rw [q3 0 (by decide), a2]; exact hX.1
          · rw [q4 4 (by omega), a3 4 (by decide)]; exact hX.2.2.1
          · rw [q4 5 (by omega), a3 5 (by decide)]; exact hX.2.2.2.1
          · have hp : p < bP B + 1 := hp
            show sc_ga SX' 6 p = nI (if p = bP B then v else bQ B p) ∧ sc_ga SX' 7 p = nI (if p = bP B then r else bE B p) ∧ (∀ k, k < (if p = bP B then r else bE B p) → sc_ga SX' 8 (12 * p + k) = nI ((if p = bP B then (fun k => dg x k - 1) else bF B p) k)) ∧ (∀ c, c < 12 → sc_ga SX' 9 (12 * p + c) = nI (rkF (if p = bP B then (fun k => dg x k - 1) else bF B p) c (if p = bP B then r else bE B p)))
            by_cases he : p = bP B
            · simp only [if_pos he]
              rw [he]
              exact ⟨q7, q8, q11, q10⟩
            · simp only [if_neg he]
              obtain ⟨y1, y2, y3, y4⟩ := hX.2.2.2.2 p (by omega)
              have hE := (hB.2.2 p (by omega)).2.1.2
              refine ⟨?_, ?_, fun k hk => ?_, fun c hc => ?_⟩
              · rw [(q6 p he).1, a3 6 (by decide)]; exact y1
              · rw [(q6 p he).2, a3 7 (by decide)]; exact y2
              · rw [(q9 _ (by omega)).1, a3 8 (by decide)]; exact y3 k hk
              · rw [(q9 _ (by omega)).2, a5 _ (by omega)]; exact y4 c hc
        · refine ⟨?_, p2, ?_, ?_, fun p hp => ?_⟩
          · rw [p3 0 (by decide), gi3]; exact hM1.1
          · rw [p4 1 (by decide), go 1 (by decide) (by decide)]; exact hM1.2.2.1
          · rw [p4 2 (by decide), go 2 (by decide) (by decide)]; exact hM1.2.2.2.1
          · have hp : p < bP B + 1 := hp
            show sc_ga SM' 3 p = nI (if p = bP B then v else bQ B p) ∧ sc_ga SM' 4 p = nI (if p = bP B then r else bE B p) ∧ (∀ k, k < (if p = bP B then r else bE B p) → sc_ga SM' 5 (12 * p + k) = nI ((if p = bP B then (fun k => dg x k - 1) else bF B p) k))
            rw [p4 3 (by decide), p4 4 (by decide), g3, g4]
            by_cases he : p = bP B
            · simp only [if_pos he]
              rw [he, sa_us, sa_us]
              exact ⟨rfl, rfl, p7⟩
            · simp only [if_neg he]
              obtain ⟨y1, y2, y3⟩ := hM1.2.2.2.2 p (by omega)
              have hE := (hB.2.2 p (by omega)).2.1.2
              rw [sa_un _ _ _ _ he, sa_un _ _ _ _ he]
              refine ⟨y1, y2, fun k hk => ?_⟩
              rw [p6 _ (by omega), go 5 (by decide) (by decide)]; exact y3 k hk
        · refine jR_frame (SX := SX) (SM := S1) (fun k hk => ?_) (fun k hk => ?_) (fun k => ?_) (fun k hk => ?_) (fun k h1 h2 => ?_) (fun k => ?_) hj1
          · rw [q3 k (by omega), a2]
          · rw [q4 k (by omega), a3 k (by omega)]
          · rw [q5, a4]
          · rw [p3 k (by omega), gi3]
          · rw [p4 k (by omega), go k (by omega) (by omega)]
          · rw [p5, gb3]
