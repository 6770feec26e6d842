/-! ===== settle and ends in step ===== -/
def eXg (t : Nat) (S S' : sc_M) : Prop := (∀ k, k ≠ 7 → sc_gi S' k = sc_gi S k) ∧ (∀ k, k ≠ 10 → k ≠ 14 → k ≠ 20 → sc_ga S' k = sc_ga S k) ∧ (∀ k, sc_gb S' k = sc_gb S k) ∧ (∀ j, j < 12 * t → sc_ga S' 20 j = sc_ga S 20 j) ∧ (∀ j, j < t → sc_ga S' 14 j = sc_ga S 14 j)
theorem hopX_r {S : sc_M} {n R : Nat} {u : Nat → Int32} (hn : n ≤ 12) (e4 : sc_gi S 4 = nI n) (e6 : sc_gi S 6 = nI R) (hR : R + 12 ≤ 864) (hu : ∀ c, c < n → sc_ga S 20 (R + c) = u c) : fn_X1_hopefulOnes S = some (nI (hpN u n), S) :=
  hop_X hn e4 e6 hR hu n 0 sc_FU (Nat.zero_add n) (by rw [sa_FU]; omega)
theorem staM_r {S : sc_M} {n : Nat} {u : Nat → Int32} (hn : n ≤ 12) (e0 : sc_gi S 0 = nI n) (hu : ∀ c, c < n → sc_ga S 22 c = u c) : fn_X5_statusMany S 0 = some (nI (hpN u n), S) :=
  sta_M hn e0 hu n 0 sc_FU (Nat.zero_add n) (by rw [sa_FU]; omega)
/-- the end of settle and of ends: has it ended? -/
theorem se_end {n t s el : Nat} {u : Nat → Int32} {v : Nat → Int64} {SX SM : sc_M} (hn : n ≤ 12) (ht : t < 72) (hs : s ≤ 12) (hel : el + hpN u n ≤ n) (h : eR n t el u v SX SM) (e5 : sc_gi SX 5 = nI (t + 1)) (e3 : sc_gi SX 3 = nI s) (e3M : sc_gi SM 3 = nI s) :
    fn_X1_settle_29 SX = some (b2i (decide (hpN u n = 0) || decide (s ≤ el)), sc_mA SX 14 (upd (sc_ga SX 14) t (nI el))) ∧ fn_X5_ends_30 SM = some (b2i (decide (hpN u n = 0) || decide (s ≤ el)), SM) := by
  obtain ⟨⟨h1, h2, h3, h4, h5⟩, hu, hv, ho⟩ := h
  have qX := hopX_r (u := u) (S := sc_mA SX 14 (upd (sc_ga SX 14) t (nI el))) hn h1 h2 (by omega) (fun c hc => by rw [sa_ga_n _ _ _ _ (by decide)]; exact (hu c hc).1)
  have qM := staM_r hn h4 (fun c hc => (hu c hc).2)
  have hle : hpN u n ≤ n := cnP_le _ n
  constructor
  · rw [fn_X1_settle_29, fn_X1_now, sa_cl, e5, nI_pred, sa_ck _ (by omega) (by omega), sa_sq, sa_cl9 (by omega), h3, qX, sa_cl]
    by_cases hz : hpN u n = 0
    · rw [hz, if_pos nI_0]; rfl
    · rw [if_neg (nI_ne0 (by omega) (by omega)), sa_gi_A, sa_gi_A, h3, e3]
      by_cases hse : el < s
      · rw [if_pos (nI_lt hse (by omega)), decide_eq_false hz, decide_eq_false (by omega)]; rfl
      · rw [if_neg (nI_nlt (by omega) (by omega)), decide_eq_false hz, decide_eq_true (by omega)]; rfl
  · rw [fn_X5_ends_30, qM, sa_cl]
    by_cases hz : hpN u n = 0
    · rw [hz, if_pos nI_0]; rfl
    · rw [if_neg (nI_ne0 (by omega) (by omega)), h5, e3M]
      by_cases hse : el < s
      · rw [if_pos (nI_lt hse (by omega)), decide_eq_false hz, decide_eq_false (by omega)]; rfl
      · rw [if_neg (nI_nlt (by omega) (by omega)), decide_eq_false hz, decide_eq_true (by omega)]; rfl
theorem se_row14 {n t el : Nat} {u : Nat → Int32} {v : Nat → Int64} {SX SX0 SM : sc_M} (h : eR n t el u v SX SM) (hX : eXf t SX0 SX) : eR n t el u v (sc_mA SX 14 (upd (sc_ga SX 14) t (nI el))) SM ∧ eXg t SX0 (sc_mA SX 14 (upd (sc_ga SX 14) t (nI el))) := by
  obtain ⟨⟨h1, h2, h3, h4, h5⟩, hu, hv, ho⟩ := h
  obtain ⟨x1, x2, x3, x4⟩ := hX
  refine ⟨⟨⟨h1, h2, h3, h4, h5⟩, fun c hc => ?_, hv, fun k hk => ?_⟩, x1, fun k k1 k2 k3 => ?_, x3, fun j hj => ?_, fun j hj => ?_⟩
  · simp (disch := omega) only [sa_gi_s, sa_gi_n, sa_gi_j, sa_gi_A, sa_gi_B, sa_gj_s, sa_gj_n, sa_gj_i, sa_gj_A, sa_gj_B, sa_ga_s, sa_ga_n, sa_ga_i, sa_ga_j, sa_ga_B, sa_gb_s, sa_gb_n, sa_gb_i, sa_gb_j, sa_gb_A, sa_us, sa_un, sa_vs, sa_vn]; exact hu c hc
  · simp (disch := omega) only [sa_gi_s, sa_gi_n, sa_gi_j, sa_gi_A, sa_gi_B, sa_gj_s, sa_gj_n, sa_gj_i, sa_gj_A, sa_gj_B, sa_ga_s, sa_ga_n, sa_ga_i, sa_ga_j, sa_ga_B, sa_gb_s, sa_gb_n, sa_gb_i, sa_gb_j, sa_gb_A, sa_us, sa_un, sa_vs, sa_vn]; exact ho k hk
  · simp (disch := omega) only [sa_gi_s, sa_gi_n, sa_gi_j, sa_gi_A, sa_gi_B, sa_gj_s, sa_gj_n, sa_gj_i, sa_gj_A, sa_gj_B, sa_ga_s, sa_ga_n, sa_ga_i, sa_ga_j, sa_ga_B, sa_gb_s, sa_gb_n, sa_gb_i, sa_gb_j, sa_gb_A, sa_us, sa_un, sa_vs, sa_vn]; exact x2 k k1 k3
  · simp (disch := omega) only [sa_gi_s, sa_gi_n, sa_gi_j, sa_gi_A, sa_gi_B, sa_gj_s, sa_gj_n, sa_gj_i, sa_gj_A, sa_gj_B, sa_ga_s, sa_ga_n, sa_ga_i, sa_ga_j, sa_ga_B, sa_gb_s, sa_gb_n, sa_gb_i, sa_gb_j, sa_gb_A, sa_us, sa_un, sa_vs, sa_vn]; exact x4 j hj
  · simp (disch := omega) only [sa_gi_s, sa_gi_n, sa_gi_j, sa_gi_A, sa_gi_B, sa_gj_s, sa_gj_n, sa_gj_i, sa_gj_A, sa_gj_B, sa_ga_s, sa_ga_n, sa_ga_i, sa_ga_j, sa_ga_B, sa_gb_s, sa_gb_n, sa_gb_i, sa_gb_j, sa_gb_A, sa_us, sa_un, sa_vs, sa_vn]; rw [x2 14 (by decide) (by decide)]
theorem se_both {n t s el : Nat} {u : Nat → Int32} {v : Nat → Int64} {mr : Nat → Nat → Bool} {SX SM : sc_M} (hn : n ≤ 12) (ht : t < 72) (hs : s ≤ 12)
    (HX : ∀ S, eXf t SX S → ∀ a b, a < n → b < n → fn_X1_hasMore S (nI a) (nI b) = some (b2i (mr a b), S))
    (HM : ∀ S, eMf SM S → ∀ a b, a < n → b < n → fn_X5_hasMore S (nI a) (nI b) = some (b2i (mr a b), S))
    (hel : el + hpN u n ≤ n) (h : eR n t el u v SX SM) (e5 : sc_gi SX 5 = nI (t + 1)) (e3 : sc_gi SX 3 = nI s) (e3M : sc_gi SM 3 = nI s) (eq : sc_gb SX 17 t = sc_gj SM 0) (hv0 : ∀ c, c < n → ¬ v c < 0) :
    ∃ (over : Bool) (u' : Nat → Int32) (el' : Nat) (SX' SM' : sc_M), fn_X1_settle SX = some (b2i over, SX') ∧ fn_X5_ends SM = some (b2i over, SM') ∧ eR n t el' u' v SX' SM' ∧ eXg t SX SX' ∧ eMf SM SM' ∧ sc_ga SX' 14 t = nI el' ∧ el' + hpN u' n ≤ el + hpN u n ∧ (∀ c, c < n → u' c = u c ∨ (u c = 0 ∧ u' c = 1)) ∧ (over = false → el' < s ∧ ∃ c, c < n ∧ u' c = 0) ∧ (el + hpN u n ≤ s → over = true) ∧ el ≤ el' := by
  have hle : hpN u n ≤ n := cnP_le _ n
  obtain ⟨u1, el1, X1, M1, a1, a2, a3, a4, a5, a6, a7, a8, a9⟩ := el_both (ls := sc_gj SM 0) hn ht HX HM 99 sc_FU sc_FU el u SX SM (by omega) (by decide) (by decide) hel h (eXf_rfl t SX) (eMf_rfl SM)
  have hq : fn_X1_quota SX = some (sc_gj SM 0, SX) := by
    rw [fn_X1_quota, fn_X1_now, sa_cl, e5, nI_pred, sa_ck _ (by omega) (by omega), sa_cl9 (by omega), eq]
  have b1 : fn_X1_electFrom SX (sc_gj SM 0) = some X1 := by
    rw [fn_X1_electFrom, sa_sq, h.1.2.2.1]; exact a1
  have b2 : fn_X5_electAll SM (sc_gj SM 0) = some M1 := a2
  have c1 := hopX_r hn a3.1.1 a3.1.2.1 (by omega) (fun c hc => (a3.2.1 c hc).1)
  have c2 := staM_r hn a3.1.2.2.2.1 (fun c hc => (a3.2.1 c hc).2)
  have hle1 : hpN u1 n ≤ n := cnP_le _ n
  have e3' : sc_gi X1 3 = nI s := by rw [a4.1 3 (by decide)]; exact e3
  have e3M' : sc_gi M1 3 = nI s := by rw [a5.1 3 (by decide)]; exact e3M
  have e5' : sc_gi X1 5 = nI (t + 1) := by rw [a4.1 5 (by decide)]; exact e5
  by_cases hw : s < hpN u1 n + el1
  · obtain ⟨f1, f2⟩ := se_end hn ht hs (by omega) a3 e5' e3' e3M'
    obtain ⟨g1, g2⟩ := se_row14 a3 a4
    refine ⟨(decide (hpN u1 n = 0) || decide (s ≤ el1)), u1, el1, sc_mA X1 14 (upd (sc_ga X1 14) t (nI el1)), M1, ?_, ?_, g1, g2, a5, ?_, a6, a7, fun ho => ?_, fun ho => ?_, a9⟩
    · rw [fn_X1_settle, fn_X1_settle_e, hq, sa_cl, b1, sa_cv, c1, sa_cl, e3', a3.1.2.2.1, nI_add, if_pos (nI_lt hw (by omega)), f1, sa_bz _ (b2i_01 _)]
    · rw [fn_X5_ends, fn_X5_ends_e, b2, sa_cv, c2, sa_cl, e3M', a3.1.2.2.2.2, nI_add, if_pos (nI_lt hw (by omega)), f2, sa_bz _ (b2i_01 _)]
    · simp (disch := omega) only [sa_gi_s, sa_gi_n, sa_gi_j, sa_gi_A, sa_gi_B, sa_gj_s, sa_gj_n, sa_gj_i, sa_gj_A, sa_gj_B, sa_ga_s, sa_ga_n, sa_ga_i, sa_ga_j, sa_ga_B, sa_gb_s, sa_gb_n, sa_gb_i, sa_gb_j, sa_gb_A, sa_us, sa_un, sa_vs, sa_vn]
    · simp only [Bool.or_eq_false_iff, decide_eq_false_iff_not] at ho
      obtain ⟨c, hc, hc2⟩ := cnP_ex ho.1
      exact ⟨by omega, c, hc, by simpa using hc2⟩
    · exfalso; omega
  · obtain ⟨u2, el2, X2, M2, d1, d2, d3, d4, d5, d6, d7, d8, d9⟩ := el_both (ls := 0) hn ht HX HM 99 sc_FU sc_FU el1 u1 X1 M1 (by omega) (by decide) (by decide) (by omega) a3 a4 a5
    have b1' : fn_X1_electFrom X1 0 = some X2 := by
      rw [fn_X1_electFrom, sa_sq, a3.1.2.2.1]; exact d1
    have b2' : fn_X5_electAll M1 0 = some M2 := d2
    have e3' : sc_gi X2 3 = nI s := by rw [d4.1 3 (by decide)]; exact e3
    have e3M' : sc_gi M2 3 = nI s := by rw [d5.1 3 (by decide)]; exact e3M
    have e5' : sc_gi X2 5 = nI (t + 1) := by rw [d4.1 5 (by decide)]; exact e5
    obtain ⟨f1, f2⟩ := se_end hn ht hs (by omega) d3 e5' e3' e3M'
    obtain ⟨g1, g2⟩ := se_row14 d3 d4
    have hz : hpN u2 n = 0 := by
      by_cases hz : hpN u2 n = 0
      · exact hz
      · obtain ⟨c, hc, hc2⟩ := cnP_ex hz
        exact absurd (d8 c hc (by simpa using hc2)) (hv0 c hc)
    refine ⟨(decide (hpN u2 n = 0) || decide (s ≤ el2)), u2, el2, sc_mA X2 14 (upd (sc_ga X2 14) t (nI el2)), M2, ?_, ?_, g1, g2, d5, ?_, by omega, fun c hc => ?_, fun ho => ?_, fun ho => ?_, by omega⟩
    · rw [fn_X1_settle, fn_X1_settle_e, hq, sa_cl, b1, sa_cv, c1, sa_cl]
      rw [show sc_gi X1 3 = nI s by rw [a4.1 3 (by decide)]; exact e3, a3.1.2.2.1, nI_add, if_neg (nI_nlt (by omega) (by omega)), b1', sa_cv, f1, sa_bz _ (b2i_01 _)]
    · rw [fn_X5_ends, fn_X5_ends_e, b2, sa_cv, c2, sa_cl]
      rw [show sc_gi M1 3 = nI s by rw [a5.1 3 (by decide)]; exact e3M, a3.1.2.2.2.2, nI_add, if_neg (nI_nlt (by omega) (by omega)), b2', sa_cv, f2, sa_bz _ (b2i_01 _)]
    · simp (disch := omega) only [sa_gi_s, sa_gi_n, sa_gi_j, sa_gi_A, sa_gi_B, sa_gj_s, sa_gj_n, sa_gj_i, sa_gj_A, sa_gj_B, sa_ga_s, sa_ga_n, sa_ga_i, sa_ga_j, sa_ga_B, sa_gb_s, sa_gb_n, sa_gb_i, sa_gb_j, sa_gb_A, sa_us, sa_un, sa_vs, sa_vn]
    · rcases d7 c hc with e | ⟨e1, e2⟩
      · rw [e]; exact a7 c hc
      · rcases a7 c hc with e | ⟨e3, e4⟩
        · right; rw [e] at e1; exact ⟨e1, e2⟩
        · exact Or.inr ⟨e3, e2⟩
    · simp only [Bool.or_eq_false_iff, decide_eq_false_iff_not] at ho
      exact absurd hz ho.1
    · simp [hz]
