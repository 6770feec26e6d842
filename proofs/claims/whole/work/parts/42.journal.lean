theorem sa_its {α : Type} (c : Prop) [Decidable c] (x y : α) (S : sc_M) : (if c then some (x, S) else some (y, S)) = some (if c then x else y, S) := by split <;> rfl
theorem sa_cell (S : sc_M) (i c : Nat) : fn_X4_cell S (nI i) (nI c) = some (nI (12 * i + c), S) := by rw [fn_X4_cell, sa_12x]
theorem so_stage : sm_stage sRel := by
  intro SX SM a b hr
  obtain ⟨B, hB, hX, hM, hj⟩ := id hr
  obtain ⟨st, nc, el, np, ⟨h1, h2, h3, h4⟩, ⟨e1, e2, e3, e4, e5, e6, e7⟩, hm, ho, hs, hv⟩ := id hj
  rcases sa_rg a (show st < 100000 by omega) with ha | ⟨i, hi, rfl⟩
  · refine ⟨-1, SX, SM, ?_, ?_, hr⟩
    · rw [fn_X4_stage, xs_out e1 ha]; rfl
    · rw [fn_X5_stage, ps_out (by omega) e2 ha]; rfl
  · obtain ⟨q1, q2, q3, q4, q5, q6, q7⟩ := hs i hi
    have i72 : i < 72 := by omega
    have i90 : i < 90 := by omega
    refine ⟨if b = 0 then (sc_ga SM 7 i).toInt64 else if b = 1 then (sc_ga SM 8 i).toInt64 else if b = 2 then sc_gb SM 9 i else if b = 3 then sc_gb SM 10 i else if b = 4 then (sc_ga SM 11 i).toInt64 else if b = 5 then sc_gb SM 12 i else if b = 6 then sc_gb SM 13 i else -2, SX, SM, ?_, ?_, hr⟩
    · rw [fn_X4_stage, xs_in (by omega) e1 hi, sa_cl, if_neg (by decide)]
      simp only [sa_ck _ i72 (show 72 < 100000 by omega), sa_cl9 (show i < 100000 by omega), q1, q2, q3, q4, q5, q6, q7, sa_its]
    · rw [fn_X5_stage, ps_in (by omega) e2 hi, sa_cl, if_pos rfl]
      simp only [sa_ck _ i90 (show 90 < 100000 by omega), sa_cl9 (show i < 100000 by omega), sa_its]
theorem so_votes : sm_votes sRel := by
  intro SX SM a b hr
  obtain ⟨B, hB, hX, hM, hj⟩ := id hr
  obtain ⟨st, nc, el, np, ⟨h1, h2, h3, h4⟩, ⟨e1, e2, e3, e4, e5, e6, e7⟩, hm, ho, hs, hv⟩ := id hj
  have out : ((a < 0 ∨ nI st ≤ a) ∨ (b < 0 ∨ nI nc ≤ b)) → ∃ (r : Int64) (SX' SM' : sc_M), fn_X4_votes SX a b = some (r, SX') ∧ fn_X5_votes SM a b = some (r, SM') ∧ sRel SX' SM' := fun h => by
    refine ⟨-1, SX, SM, ?_, ?_, hr⟩
    · rw [fn_X4_votes, xv_out (by omega) e1 e3 h]; rfl
    · rw [fn_X5_votes, pv_out (by omega) (by omega) e2 e4 h]; rfl
  rcases sa_rg a (show st < 100000 by omega) with ha | ⟨i, hi, rfl⟩
  · exact out (Or.inl ha)
  · rcases sa_rg b (show nc < 100000 by omega) with hb | ⟨c, hc, rfl⟩
    · exact out (Or.inr hb)
    · obtain ⟨q1, q2, q3⟩ := hv i hi c hc
      refine ⟨sc_gb SM 14 (12 * i + c), SX, SM, ?_, ?_, hr⟩
      · rw [fn_X4_votes, xv_in (by omega) (by omega) e1 e3 hi hc, sa_cl, if_neg (by decide), sa_cell, sa_cl, sa_ck _ (by omega) (by omega), sa_cl9 (by omega), q1]
      · rw [fn_X5_votes, pv_in (by omega) (by omega) e2 e4 hi hc, sa_cl, if_pos rfl, sa_12m, sa_ck _ (by omega) (by omega), sa_cl9 (by omega)]
theorem so_status : sm_status sRel := by
  intro SX SM a b hr
  obtain ⟨B, hB, hX, hM, hj⟩ := id hr
  obtain ⟨st, nc, el, np, ⟨h1, h2, h3, h4⟩, ⟨e1, e2, e3, e4, e5, e6, e7⟩, hm, ho, hs, hv⟩ := id hj
  have out : ((a < 0 ∨ nI st ≤ a) ∨ (b < 0 ∨ nI nc ≤ b)) → ∃ (r : Int32) (SX' SM' : sc_M), fn_X4_status SX a b = some (r, SX') ∧ fn_X5_status SM a b = some (r, SM') ∧ sRel SX' SM' := fun h => by
    refine ⟨-1, SX, SM, ?_, ?_, hr⟩
    · rw [fn_X4_status, xv_out (by omega) e1 e3 h]; rfl
    · rw [fn_X5_status, pv_out (by omega) (by omega) e2 e4 h]; rfl
  rcases sa_rg a (show st < 100000 by omega) with ha | ⟨i, hi, rfl⟩
  · exact out (Or.inl ha)
  · rcases sa_rg b (show nc < 100000 by omega) with hb | ⟨c, hc, rfl⟩
    · exact out (Or.inr hb)
    · obtain ⟨q1, q2, q3⟩ := hv i hi c hc
      refine ⟨sc_ga SM 15 (12 * i + c), SX, SM, ?_, ?_, hr⟩
      · rw [fn_X4_status, xv_in (by omega) (by omega) e1 e3 hi hc, sa_cl, if_neg (by decide), sa_cell, sa_cl, sa_ck _ (by omega) (by omega), sa_cl9 (by omega), q2]
      · rw [fn_X5_status, pv_in (by omega) (by omega) e2 e4 hi hc, sa_cl, if_pos rfl, sa_12m, sa_ck _ (by omega) (by omega), sa_cl9 (by omega)]
theorem so_sheet : sm_sheet sRel := by
  intro SX SM a b hr
  obtain ⟨B, hB, hX, hM, hj⟩ := id hr
  obtain ⟨st, nc, el, np, ⟨h1, h2, h3, h4⟩, ⟨e1, e2, e3, e4, e5, e6, e7⟩, hm, ho, hs, hv⟩ := id hj
  have out : ((a < 0 ∨ nI st ≤ a) ∨ (b < 0 ∨ nI nc ≤ b)) → ∃ (r : Int64) (SX' SM' : sc_M), fn_X4_sheet SX a b = some (r, SX') ∧ fn_X5_sheet SM a b = some (r, SM') ∧ sRel SX' SM' := fun h => by
    refine ⟨-1, SX, SM, ?_, ?_, hr⟩
    · rw [fn_X4_sheet, xv_out (by omega) e1 e3 h]; rfl
    · rw [fn_X5_sheet, pv_out (by omega) (by omega) e2 e4 h]; rfl
  rcases sa_rg a (show st < 100000 by omega) with ha | ⟨i, hi, rfl⟩
  · exact out (Or.inl ha)
  · rcases sa_rg b (show nc < 100000 by omega) with hb | ⟨c, hc, rfl⟩
    · exact out (Or.inr hb)
    · obtain ⟨q1, q2, q3⟩ := hv i hi c hc
      refine ⟨sc_gb SM 19 (12 * i + c), SX, SM, ?_, ?_, hr⟩
      · rw [fn_X4_sheet, xv_in (by omega) (by omega) e1 e3 hi hc, sa_cl, if_neg (by decide), sa_cell, sa_cl, sa_ck _ (by omega) (by omega), sa_cl9 (by omega), q3]
      · rw [fn_X5_sheet, pv_in (by omega) (by omega) e2 e4 hi hc, sa_cl, if_pos rfl, sa_12m, sa_ck _ (by omega) (by omega), sa_cl9 (by omega)]
theorem so_elected : sm_elected sRel := by
  intro SX SM a hr
  obtain ⟨B, hB, hX, hM, hj⟩ := id hr
  obtain ⟨st, nc, el, np, ⟨h1, h2, h3, h4⟩, ⟨e1, e2, e3, e4, e5, e6, e7⟩, hm, ho, hs, hv⟩ := id hj
  rcases sa_rg a (show el < 100000 by omega) with ha | ⟨k, hk, rfl⟩
  · refine ⟨-9, SX, SM, ?_, ?_, hr⟩
    · rw [fn_X4_elected, e5]
      by_cases hc : a < 0
      · rw [if_pos hc]
      · rw [if_neg hc, if_pos (ha.resolve_left hc)]
    · rw [fn_X5_elected, e6, pr_out (by omega) ha]; rfl
  · refine ⟨sc_ga SM 20 k, SX, SM, ?_, ?_, hr⟩
    · rw [fn_X4_elected, e5, if_neg (nI_pos (by omega)), if_neg (nI_ge hk (by omega)), sa_ck _ (by omega) (by omega), sa_cl9 (by omega), ho k hk]
    · rw [fn_X5_elected, e6, pr_in (by omega) hk, sa_cl, if_neg (by decide), sa_ck _ (by omega) (by omega), sa_cl9 (by omega)]
theorem so_keep : sm_keep sRel := by
  intro SX SM a b hr
  obtain ⟨B, hB, hX, hM, hj⟩ := id hr
  obtain ⟨st, nc, el, np, ⟨h1, h2, h3, h4⟩, ⟨e1, e2, e3, e4, e5, e6, e7⟩, hm, ho, hs, hv⟩ := id hj
  have out : ((a < 0 ∨ nI st ≤ a) ∨ (b < 0 ∨ nI nc ≤ b)) → ∃ (r : Int32) (SX' SM' : sc_M), fn_X4_keep SX a b = some (r, SX') ∧ fn_X5_keep SM a b = some (r, SM') ∧ sRel SX' SM' := fun h => by
    refine ⟨-1, SX, SM, ?_, ?_, hr⟩
    · rw [fn_X4_keep, xv_out (by omega) e1 e3 h]; rfl
    · rw [fn_X5_keep, pv_out (by omega) (by omega) e2 e4 h]; rfl
  rcases sa_rg a (show st < 100000 by omega) with ha | ⟨i, hi, rfl⟩
  · exact out (Or.inl ha)
  · rcases sa_rg b (show nc < 100000 by omega) with hb | ⟨c, hc, rfl⟩
    · exact out (Or.inr hb)
    · obtain ⟨q1, q2, q3⟩ := hv i hi c hc
      by_cases h3 : sc_gi SM 2 = 3
      · by_cases hs3 : sc_ga SM 15 (12 * i + c) = 3
        · refine ⟨-3, SX, SM, ?_, ?_, hr⟩
          · rw [fn_X4_keep, xv_in (by omega) (by omega) e1 e3 hi hc, sa_cl, if_neg (by decide), e7, if_pos h3, sa_cell, sa_cl, sa_ck _ (by omega) (by omega), sa_cl9 (by omega), q2, if_pos hs3]
          · rw [fn_X5_keep, pv_in (by omega) (by omega) e2 e4 hi hc, sa_cl, if_pos rfl, if_pos h3, sa_12m, sa_ck _ (by omega) (by omega), sa_cl9 (by omega), if_pos hs3]
        · have hk : sc_ga SX 21 (12 * i + c) = (sc_gb SM 16 (12 * i + c)).toInt32 := by
            rcases hm with hm | ⟨r, hr4, er, _, _, hr3⟩
            · rw [hm.1] at h3; exact absurd h3 (by decide)
            · have : r = 3 := by
                rw [er, sa_l3] at h3
                exact (nI_eq (by omega) (by omega)).mp h3
              exact hr3 this i hi c hc hs3
          refine ⟨(sc_gb SM 16 (12 * i + c)).toInt32, SX, SM, ?_, ?_, hr⟩
          · rw [fn_X4_keep, xv_in (by omega) (by omega) e1 e3 hi hc, sa_cl, if_neg (by decide), e7, if_pos h3, sa_cell, sa_cl, sa_ck _ (by omega) (by omega), sa_cl9 (by omega), q2, if_neg hs3, sa_cell, sa_cl, sa_ck _ (by omega) (by omega), sa_cl9 (by omega), hk]
          · rw [fn_X5_keep, pv_in (by omega) (by omega) e2 e4 hi hc, sa_cl, if_pos rfl, if_pos h3, sa_12m, sa_ck _ (by omega) (by omega), sa_cl9 (by omega), if_neg hs3, sa_ck _ (by omega) (by omega)]
      · refine ⟨-3, SX, SM, ?_, ?_, hr⟩
        · rw [fn_X4_keep, xv_in (by omega) (by omega) e1 e3 hi hc, sa_cl, if_neg (by decide), e7, if_neg h3]
        · rw [fn_X5_keep, pv_in (by omega) (by omega) e2 e4 hi hc, sa_cl, if_pos rfl, if_neg h3]
theorem so_forge : sm_forge sRel := by
  intro SX SM a b v hr
  obtain ⟨B, hB, hX, hM, hj⟩ := id hr
  obtain ⟨st, nc, el, np, ⟨h1, h2, h3, h4⟩, ⟨e1, e2, e3, e4, e5, e6, e7⟩, hm, ho, hs, hv⟩ := id hj
  have out : ((a < 0 ∨ nI st ≤ a) ∨ (b < 0 ∨ nI nc ≤ b)) → ∃ (r : Int64) (SX' SM' : sc_M), fn_X4_forge SX a b v = some (r, SX') ∧ fn_X5_forge SM a b v = some (r, SM') ∧ sRel SX' SM' := fun h => by
    refine ⟨-1, SX, SM, ?_, ?_, hr⟩
    · rw [fn_X4_forge, xv_out (by omega) e1 e3 h]; rfl
    · rw [fn_X5_forge, pv_out (by omega) (by omega) e2 e4 h]; rfl
  rcases sa_rg a (show st < 100000 by omega) with ha | ⟨i, hi, rfl⟩
  · exact out (Or.inl ha)
  · rcases sa_rg b (show nc < 100000 by omega) with hb | ⟨c, hc, rfl⟩
    · exact out (Or.inr hb)
    · obtain ⟨q1, q2, q3⟩ := hv i hi c hc
      refine ⟨sc_gb SM 19 (12 * i + c), sc_mB SX 25 (vp_updL (sc_gb SX 25) (12 * i + c) v), sc_mB SM 19 (vp_updL (sc_gb SM 19) (12 * i + c) v), ?_, ?_, B, hB, hX, hM, ?_⟩
      · rw [fn_X4_forge, xv_in (by omega) (by omega) e1 e3 hi hc, sa_cl, if_neg (by decide), sa_cell, sa_cl, sa_ck _ (by omega) (by omega), sa_cl9 (by omega), sa_sq, sa_cell, sa_cl, sa_ck _ (by omega) (by omega), sa_sq, sa_cl9 (by omega), q3]
      · rw [fn_X5_forge, pv_in (by omega) (by omega) e2 e4 hi hc, sa_cl, if_pos rfl, sa_12m, sa_ck _ (by omega) (by omega), sa_cl9 (by omega), sa_sq, sa_ck _ (by omega) (by omega), sa_sq]
      · refine ⟨st, nc, el, np, ⟨h1, h2, ‹el ≤ 12›, h4⟩, ⟨e1, e2, e3, e4, e5, e6, e7⟩, hm, ho, hs, fun i2 hi2 c2 hc2 => ?_⟩
        obtain ⟨p1, p2, p3⟩ := hv i2 hi2 c2 hc2
        refine ⟨p1, p2, ?_⟩
        rw [sa_gb_s, sa_gb_s]
        by_cases he : 12 * i2 + c2 = 12 * i + c
        · rw [he, sa_vs, sa_vs]
        · rw [sa_vn _ _ _ _ he, sa_vn _ _ _ _ he, p3]
theorem ck_in {SX SM : sc_M} {st nc i : Nat} (h1 : st ≤ 72) (h2 : nc ≤ 12) (e3 : sc_gi SX 4 = nI nc) (e4 : sc_gi SM 4 = nI nc) (hi : i < st) (hv : ∀ c, c < nc → sc_gb SX 19 (12 * i + c) = sc_gb SM 14 (12 * i + c) ∧ sc_gb SX 25 (12 * i + c) = sc_gb SM 19 (12 * i + c)) {kX kM : sc_M → Int32 → Option (Int32 × sc_M)} {r : Int32} (hk : ∃ r, kX SX (nI (i + 1)) = some (r, SX) ∧ kM SM (nI (i + 1)) = some (r, SM)) : ∀ (d c fX fM : Nat), c + d = nc → d < fX → d < fM → ∃ r, fn_X4_check_28 kX fX SX (nI i) (nI c) = some (r, SX) ∧ fn_X5_check_22 kM fM SM (nI i) (nI c) = some (r, SM) := by
  intro d
  induction d with
  | zero =>
    intro c fX fM hc hf1 hf2
    obtain ⟨f, rfl⟩ : ∃ f, fX = f + 1 := ⟨fX - 1, by omega⟩
    obtain ⟨g, rfl⟩ : ∃ g, fM = g + 1 := ⟨fM - 1, by omega⟩
    obtain ⟨r, k1, k2⟩ := hk
    refine ⟨r, ?_, ?_⟩
    · rw [fn_X4_check_28, e3, if_pos (nI_le (by omega) (by omega)), nI_1]; exact k1
    · rw [fn_X5_check_22, e4, if_pos (nI_le (by omega) (by omega)), nI_1]; exact k2
  | succ d ih =>
    intro c fX fM hc hf1 hf2
    obtain ⟨f, rfl⟩ : ∃ f, fX = f + 1 := ⟨fX - 1, by omega⟩
    obtain ⟨g, rfl⟩ : ∃ g, fM = g + 1 := ⟨fM - 1, by omega⟩
    obtain ⟨q1, q2⟩ := hv c (by omega)
    rw [fn_X4_check_28, e3, if_neg (nI_ge (by omega) (by omega)), fn_X5_check_22, e4, if_neg (nI_ge (by omega) (by omega)), sa_cell, sa_cl, sa_12m, sa_ck _ (by omega) (by omega), sa_cell, sa_cl, sa_ck _ (by omega) (by omega), sa_ck _ (by omega) (by omega), sa_ck _ (by omega) (by omega), sa_cl9 (by omega), q1, q2, nI_1]
    by_cases he : sc_gb SM 19 (12 * i + c) = sc_gb SM 14 (12 * i + c)
    · rw [if_pos he, if_pos he]
      exact ih (c + 1) f g (by omega) (by omega) (by omega)
    · rw [if_neg he, if_neg he]
      exact ⟨_, rfl, rfl⟩
theorem ck_out {SX SM : sc_M} {st nc : Nat} (h1 : st ≤ 72) (h2 : nc ≤ 12) (e1 : sc_gi SX 5 = nI st) (e2 : sc_gi SM 6 = nI st) (e3 : sc_gi SX 4 = nI nc) (e4 : sc_gi SM 4 = nI nc) (hv : ∀ i, i < st → ∀ c, c < nc → sc_gb SX 19 (12 * i + c) = sc_gb SM 14 (12 * i + c) ∧ sc_gb SX 25 (12 * i + c) = sc_gb SM 19 (12 * i + c)) : ∀ (d i fX fM : Nat), i + d = st → d < fX → d < fM → ∃ r, fn_X4_check_15 fX SX (nI i) = some (r, SX) ∧ fn_X5_check_12 fM SM (nI i) = some (r, SM) := by
  intro d
  induction d with
  | zero =>
    intro i fX fM hc hf1 hf2
    obtain ⟨f, rfl⟩ : ∃ f, fX = f + 1 := ⟨fX - 1, by omega⟩
    obtain ⟨g, rfl⟩ : ∃ g, fM = g + 1 := ⟨fM - 1, by omega⟩
    refine ⟨1, ?_, ?_⟩
    · rw [fn_X4_check_15, e1, if_pos (nI_le (by omega) (by omega))]
    · rw [fn_X5_check_12, e2, if_pos (nI_le (by omega) (by omega))]
  | succ d ih =>
    intro i fX fM hc hf1 hf2
    obtain ⟨f, rfl⟩ : ∃ f, fX = f + 1 := ⟨fX - 1, by omega⟩
    obtain ⟨g, rfl⟩ : ∃ g, fM = g + 1 := ⟨fM - 1, by omega⟩
    rw [fn_X4_check_15, e1, if_neg (nI_ge (by omega) (by omega)), fn_X5_check_12, e2, if_neg (nI_ge (by omega) (by omega))]
    exact ck_in (r := 0) h1 h2 e3 e4 (show i < st by omega) (hv i (by omega)) (ih (i + 1) f g (by omega) (by omega) (by omega)) nc 0 sc_FU sc_FU (by omega) (by rw [sa_FU]; omega) (by rw [sa_FU]; omega)
theorem so_check : sm_check sRel := by
  intro SX SM hr
  obtain ⟨B, hB, hX, hM, hj⟩ := id hr
  obtain ⟨st, nc, el, np, ⟨h1, h2, h3, h4⟩, ⟨e1, e2, e3, e4, e5, e6, e7⟩, hm, ho, hs, hv⟩ := id hj
  rcases hm with ⟨hm, rfl⟩ | ⟨r, hr4, er, hst, _, _⟩
  · refine ⟨-3, SX, SM, ?_, ?_, hr⟩
    · rw [fn_X4_check, e1, if_pos (show nI 0 = 0 from rfl)]
    · rw [fn_X5_check, hm, if_neg (by decide)]
  · obtain ⟨q, k1, k2⟩ := ck_out h1 h2 e1 e2 e3 e4 (fun i hi c hc => ⟨(hv i hi c hc).1, (hv i hi c hc).2.2⟩) st 0 sc_FU sc_FU (by omega) (by rw [sa_FU]; omega) (by rw [sa_FU]; omega)
    refine ⟨q, SX, SM, ?_, ?_, hr⟩
    · rw [fn_X4_check, e1, if_neg (nI_ne0 (by omega) (by omega))]; exact k1
    · rw [fn_X5_check, er, if_pos (nI_pos' (by omega))]; exact k2
