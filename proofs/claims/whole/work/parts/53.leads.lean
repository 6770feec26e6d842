/-! ===== whom c leads to: the reference's side ===== -/
def fr27 (S S' : sc_M) : Prop := (∀ k, sc_gi S' k = sc_gi S k) ∧ (∀ k, k ≠ 27 → sc_ga S' k = sc_ga S k) ∧ ∀ k, sc_gb S' k = sc_gb S k
theorem fr27_rf (S : sc_M) : fr27 S S := ⟨fun _ => rfl, fun _ _ => rfl, fun _ => rfl⟩
theorem fr27_st (S : sc_M) (f : Nat → Int32) : fr27 S (sc_mA S 27 f) := ⟨fun _ => rfl, fun k hk => sa_ga_n _ _ _ _ hk, fun _ => rfl⟩
theorem fr27_tr {S S1 S2 : sc_M} (h : fr27 S S1) (h2 : fr27 S1 S2) : fr27 S S2 := ⟨fun k => (h2.1 k).trans (h.1 k), fun k hk => (h2.2.1 k hk).trans (h.2.1 k hk), fun k => (h2.2.2 k).trans (h.2.2 k)⟩
theorem bM_fr {B : bT} {S S' : sc_M} (hM : bM B S) (h : fr27 S S') : bM B S' := by
  refine ⟨(h.1 0).trans hM.1, (h.1 1).trans hM.2.1, ?_, ?_, ?_⟩
  · rw [h.2.1 1 (by decide)]; exact hM.2.2.1
  · rw [h.2.1 2 (by decide)]; exact hM.2.2.2.1
  · rw [h.2.1 3 (by decide), h.2.1 4 (by decide), h.2.1 5 (by decide)]; exact hM.2.2.2.2
def rep (B : bT) (S : sc_M) (s : Nat → Bool) : Prop := ∀ y, y < bN B → sc_ga S 27 y = b2i (s y)
theorem b2i_0 {b : Bool} : b2i b = 0 ↔ b = false := by cases b <;> simp [b2i]
theorem rE_b {B : bT} {x y : Nat} (hx : x < bN B) (hy : y < bN B) : (decide (bW B x = 0) && btB B x y) = true ↔ rE B x y := by
  simp only [Bool.and_eq_true, decide_eq_true_eq]
  exact ⟨fun h => ⟨hx, hy, h.1, h.2⟩, fun h => ⟨h.2.2.1, h.2.2.2⟩⟩
theorem l59 {B : bT} (hB : bOK B) {c x : Nat} (hx : x < bN B) (k48 : sc_M → Int32 → Int32 → Option (Int32 × sc_M)) : ∀ (d y f : Nat) (S : sc_M) (s : Nat → Bool) (m : Bool), y + d = bN B → d < f → bM B S → rep B S s → ∃ (S' : sc_M) (s' : Nat → Bool) (m' : Bool), fn_X5_leads_59 k48 f S (b2i m) (nI x) (nI y) = k48 S' (b2i m') (nI (x + 1)) ∧ rep B S' s' ∧ fr27 S S' ∧ (∀ z, s z = true → s' z = true) ∧ ((∀ z, z < bN B → s z = true → rC B c z) → ∀ z, z < bN B → s' z = true → rC B c z) ∧ ((m' = m ∧ s' = s ∧ ∀ z, y ≤ z → s x = true → rE B x z → s z = true) ∨ (m' = true ∧ cnP s (bN B) < cnP s' (bN B))) := by
  have hn12 := hB.1.2.1
  intro d
  induction d with
  | zero =>
    intro y f S s m hy hf hM hs
    obtain ⟨f, rfl⟩ : ∃ f', f = f' + 1 := ⟨f - 1, by omega⟩
    refine ⟨S, s, m, ?_, hs, fr27_rf S, fun _ h => h, fun h => h, Or.inl ⟨rfl, rfl, fun z hz _ hE => ?_⟩⟩
    · rw [fn_X5_leads_59, hM.1, if_pos (nI_le (by omega) (by omega)), nI_1]
    · have := hE.2.1; omega
  | succ d ih =>
    intro y f S s m hy hf hM hs
    obtain ⟨f, rfl⟩ : ∃ f', f = f' + 1 := ⟨f - 1, by omega⟩
    have hy2 : y < bN B := by omega
    rw [fn_X5_leads_59, hM.1, if_neg (nI_ge (by omega) (by omega)), sa_ck _ (by omega) (by omega), sa_ck _ (by omega) (by omega), sa_cl9 (by omega), sa_cl9 (by omega), hs x hx, hs y hy2, bt_M hB hM hx hy2, sa_cl, nI_1, sa_ck _ (by omega) (by omega), sa_sq, sa_nar1]
    have skip : (s x = true → rE B x y → s y = true) → ∃ (S' : sc_M) (s' : Nat → Bool) (m' : Bool), fn_X5_leads_59 k48 f S (b2i m) (nI x) (nI (y + 1)) = k48 S' (b2i m') (nI (x + 1)) ∧ rep B S' s' ∧ fr27 S S' ∧ (∀ z, s z = true → s' z = true) ∧ ((∀ z, z < bN B → s z = true → rC B c z) → ∀ z, z < bN B → s' z = true → rC B c z) ∧ ((m' = m ∧ s' = s ∧ ∀ z, y ≤ z → s x = true → rE B x z → s z = true) ∨ (m' = true ∧ cnP s (bN B) < cnP s' (bN B))) := fun hk => by
      obtain ⟨S', s', m', r1, r2, r3, r4, r5, r6⟩ := ih (y + 1) f S s m (by omega) (by omega) hM hs
      refine ⟨S', s', m', r1, r2, r3, r4, r5, r6.imp (fun q => ⟨q.1, q.2.1, fun z hz hsx hE => ?_⟩) id⟩
      by_cases e : z = y
      · rw [e]; exact hk hsx (e ▸ hE)
      · exact q.2.2 z (by omega) hsx hE
    have nf : ∀ {b : Bool}, b = true → ¬ b2i b = 0 := fun {b} h q => by rw [b2i_0.mp q] at h; cases h
    by_cases hsx : s x = true
    · rw [if_neg (nf hsx)]
      by_cases hsy : s y = true
      · rw [if_neg (nf hsy)]
        exact skip (fun _ _ => hsy)
      · have hsy : s y = false := by simpa using hsy
        rw [if_pos (b2i_0.mpr hsy)]
        by_cases hE : (decide (bW B x = 0) && btB B x y) = true
        · rw [if_neg (nf hE)]
          have hcn := cnP_add s y hsy (bN B)
          rw [if_pos hy2] at hcn
          obtain ⟨S', s', m', r1, r2, r3, r4, r5, r6⟩ := ih (y + 1) f (sc_mA S 27 (upd (sc_ga S 27) y 1)) (fun k => s k || decide (y = k)) true (by omega) (by omega) (bM_fr hM (fr27_st S _)) (fun z hz => by
            show sc_ga (sc_mA S 27 (upd (sc_ga S 27) y 1)) 27 z = b2i (s z || decide (y = z))
            rw [sa_ga_s]
            by_cases e : z = y
            · rw [e, sa_us, decide_eq_true (rfl : y = y), Bool.or_true]; rfl
            · rw [sa_un _ _ _ _ e, decide_eq_false (fun q => e q.symm), Bool.or_false]; exact hs z hz)
          refine ⟨S', s', m', r1, r2, fr27_tr (fr27_st S _) r3, fun z hz => r4 z (by simp [hz]), fun h => r5 (fun z hz hsz => ?_), Or.inr ?_⟩
          · rw [Bool.or_eq_true] at hsz
            rcases hsz with q | q
            · exact h z hz q
            · have : y = z := of_decide_eq_true q
              subst this
              exact rC_s (h x hx hsx) ((rE_b hx hy2).mp hE)
          · rcases r6 with q | q
            · refine ⟨q.1, ?_⟩
              rw [q.2.1, hcn]; omega
            · refine ⟨q.1, ?_⟩
              omega
        · rw [if_pos (b2i_0.mpr (by simpa using hE))]
          exact skip (fun _ q => absurd ((rE_b hx hy2).mpr q) hE)
    · rw [if_pos (b2i_0.mpr (by simpa using hsx))]
      exact skip (fun h => absurd h hsx)
theorem l48 {B : bT} (hB : bOK B) {c : Nat} (k40 : sc_M → Int32 → Option (Int32 × sc_M)) : ∀ (d x f : Nat) (S : sc_M) (s : Nat → Bool) (m : Bool), x + d = bN B → d < f → bM B S → rep B S s → ∃ (S' : sc_M) (s' : Nat → Bool) (m' : Bool), fn_X5_leads_48 k40 f S (b2i m) (nI x) = k40 S' (b2i m') ∧ rep B S' s' ∧ fr27 S S' ∧ (∀ z, s z = true → s' z = true) ∧ ((∀ z, z < bN B → s z = true → rC B c z) → ∀ z, z < bN B → s' z = true → rC B c z) ∧ ((m' = m ∧ s' = s ∧ ∀ w z, x ≤ w → s w = true → rE B w z → s z = true) ∨ (m' = true ∧ cnP s (bN B) < cnP s' (bN B))) := by
  have hn12 := hB.1.2.1
  intro d
  induction d with
  | zero =>
    intro x f S s m hx hf hM hs
    obtain ⟨f, rfl⟩ : ∃ f', f = f' + 1 := ⟨f - 1, by omega⟩
    refine ⟨S, s, m, ?_, hs, fr27_rf S, fun _ h => h, fun h => h, Or.inl ⟨rfl, rfl, fun w z hw _ hE => ?_⟩⟩
    · rw [fn_X5_leads_48, hM.1, if_pos (nI_le (by omega) (by omega))]
    · have := hE.1; omega
  | succ d ih =>
    intro x f S s m hx hf hM hs
    obtain ⟨f, rfl⟩ : ∃ f', f = f' + 1 := ⟨f - 1, by omega⟩
    obtain ⟨S1, s1, m1, a1, a2, a3, a4, a5, a6⟩ := l59 hB (c := c) (show x < bN B by omega) (fn_X5_leads_48 k40 f) (bN B) 0 sc_FU S s m (by omega) (by rw [sa_FU]; omega) hM hs
    obtain ⟨S2, s2, m2, b1, b2, b3, b4, b5, b6⟩ := ih (x + 1) f S1 s1 m1 (by omega) (by omega) (bM_fr hM a3) a2
    refine ⟨S2, s2, m2, ?_, b2, fr27_tr a3 b3, fun z hz => b4 z (a4 z hz), fun h => b5 (a5 h), ?_⟩
    · rw [fn_X5_leads_48, hM.1, if_neg (nI_ge (by omega) (by omega))]
      exact a1.trans b1
    · rcases a6 with q | q
      · obtain ⟨q1, q2, q3⟩ := q
        subst q1 q2
        rcases b6 with w | w
        · refine Or.inl ⟨w.1, w.2.1, fun u z hu hsu hE => ?_⟩
          by_cases e : u = x
          · rw [e] at hsu hE; exact q3 z (Nat.zero_le z) hsu hE
          · exact w.2.2 u z (by omega) hsu hE
        · exact Or.inr w
      · rcases b6 with w | w
        · refine Or.inr ⟨w.1.trans q.1, ?_⟩
          rw [w.2.1]; exact q.2
        · exact Or.inr ⟨w.1, by omega⟩
theorem l40 {B : bT} (hB : bOK B) {c : Nat} : ∀ (d f : Nat) (S : sc_M) (s : Nat → Bool), bN B - cnP s (bN B) ≤ d → d + 1 < f → bM B S → rep B S s → (∀ z, z < bN B → s z = true → rC B c z) → (∀ z, rE B c z → s z = true) → ∃ (S' : sc_M) (s' : Nat → Bool), fn_X5_leads_40 f S 1 = fn_X5_leads_127 sc_FU S' 0 0 ∧ rep B S' s' ∧ fr27 S S' ∧ isL B c s' := by
  have hn12 := hB.1.2.1
  intro d
  induction d with
  | zero =>
    intro f S s hd hf hM hs h1 h2
    obtain ⟨f, rfl⟩ : ∃ f', f = f' + 2 := ⟨f - 2, by omega⟩
    obtain ⟨S1, s1, m1, a1, a2, a3, a4, a5, a6⟩ := l48 hB (c := c) (fn_X5_leads_40 (f + 1)) (bN B) 0 sc_FU S s false (by omega) (by rw [sa_FU]; omega) hM hs
    have hl := cnP_le s1 (bN B)
    rcases a6 with q | q
    · obtain ⟨q1, q2, q3⟩ := q
      subst q1 q2
      refine ⟨S1, s1, ?_, a2, a3, isL_of h1 h2 (fun u z hu hE => q3 u z (Nat.zero_le u) hu hE)⟩
      rw [fn_X5_leads_40, if_neg (by decide)]
      refine a1.trans ?_
      rw [fn_X5_leads_40, if_pos (show b2i false = 0 from rfl)]
    · omega
  | succ d ih =>
    intro f S s hd hf hM hs h1 h2
    obtain ⟨f, rfl⟩ : ∃ f', f = f' + 2 := ⟨f - 2, by omega⟩
    obtain ⟨S1, s1, m1, a1, a2, a3, a4, a5, a6⟩ := l48 hB (c := c) (fn_X5_leads_40 (f + 1)) (bN B) 0 sc_FU S s false (by omega) (by rw [sa_FU]; omega) hM hs
    rcases a6 with q | q
    · obtain ⟨q1, q2, q3⟩ := q
      subst q1 q2
      refine ⟨S1, s1, ?_, a2, a3, isL_of h1 h2 (fun u z hu hE => q3 u z (Nat.zero_le u) hu hE)⟩
      rw [fn_X5_leads_40, if_neg (by decide)]
      refine a1.trans ?_
      rw [fn_X5_leads_40, if_pos (show b2i false = 0 from rfl)]
    · obtain ⟨S2, s2, b1, b2, b3, b4⟩ := ih (f + 1) S1 s1 (by omega) (by omega) (bM_fr hM a3) a2 (a5 h1) (fun z hz => a4 z (h2 z hz))
      refine ⟨S2, s2, ?_, b2, fr27_tr a3 b3, b4⟩
      rw [fn_X5_leads_40, if_neg (by decide)]
      refine a1.trans ?_
      rw [q.1]; exact b1
theorem l12 {B : bT} (hB : bOK B) {c : Nat} (hc : c < bN B) : ∀ (d x f : Nat) (S : sc_M), x + d = bN B → d < f → bM B S → (∀ y, y < x → sc_ga S 27 y = b2i (decide (bW B c = 0) && btB B c y)) → ∃ S', fn_X5_leads_12 f S (nI c) (nI x) = fn_X5_leads_40 sc_FU S' 1 ∧ rep B S' (fun y => decide (bW B c = 0) && btB B c y) ∧ fr27 S S' := by
  have hn12 := hB.1.2.1
  intro d
  induction d with
  | zero =>
    intro x f S hx hf hM hs
    obtain ⟨f, rfl⟩ : ∃ f', f = f' + 1 := ⟨f - 1, by omega⟩
    obtain rfl : x = bN B := by omega
    refine ⟨S, ?_, hs, fr27_rf S⟩
    rw [fn_X5_leads_12, hM.1, if_pos (nI_le (by omega) (by omega))]
  | succ d ih =>
    intro x f S hx hf hM hs
    obtain ⟨f, rfl⟩ : ∃ f', f = f' + 1 := ⟨f - 1, by omega⟩
    obtain ⟨S', r1, r2, r3⟩ := ih (x + 1) f (sc_mA S 27 (upd (sc_ga S 27) x (b2i (decide (bW B c = 0) && btB B c x)))) (by omega) (by omega) (bM_fr hM (fr27_st S _)) (fun y hy => by
      rw [sa_ga_s]
      by_cases e : y = x
      · rw [e, sa_us]
      · rw [sa_un _ _ _ _ e]; exact hs y (by omega))
    refine ⟨S', ?_, r2, fr27_tr (fr27_st S _) r3⟩
    rw [fn_X5_leads_12, hM.1, if_neg (nI_ge (by omega) (by omega)), bt_M hB hM hc (by omega), sa_cl, sa_ck _ (by omega) (by omega), sa_sq, sa_cl9 (by omega), sa_nar (b2i_01 _), nI_1]
    exact r1
theorem l127 {B : bT} (hB : bOK B) {S : sc_M} (hM : bM B S) {s : Nat → Bool} (hs : rep B S s) : ∀ (d x f : Nat), x + d = bN B → d < f → fn_X5_leads_127 f S (nI (cnP s x)) (nI x) = some (nI (cnP s (bN B)), S) := by
  have hn12 := hB.1.2.1
  intro d
  induction d with
  | zero =>
    intro x f hx hf
    obtain ⟨f, rfl⟩ : ∃ f', f = f' + 1 := ⟨f - 1, by omega⟩
    obtain rfl : x = bN B := by omega
    rw [fn_X5_leads_127, hM.1, if_pos (nI_le (by omega) (by omega))]
  | succ d ih =>
    intro x f hx hf
    obtain ⟨f, rfl⟩ : ∃ f', f = f' + 1 := ⟨f - 1, by omega⟩
    have ihk := ih (x + 1) f (by omega) (by omega)
    rw [fn_X5_leads_127, hM.1, if_neg (nI_ge (by omega) (by omega)), sa_ck _ (by omega) (by omega), sa_cl9 (by omega), hs x (by omega), sa_sq, sa_sq, nI_1]
    simp only [cnP] at ihk
    cases hx2 : s x with
    | false => rw [hx2] at ihk; rw [if_pos (show b2i false = 0 from rfl), sa_l0, nI_add]; exact ihk
    | true => rw [hx2] at ihk; rw [if_neg (show ¬ b2i true = 0 by decide), nI_1]; exact ihk
theorem so_leads : sm_leads sRel := by
  intro SX SM a hr
  obtain ⟨B, hB, hX, hM, hj⟩ := id hr
  have hn12 := hB.1.2.1
  have hn : bN B < 100000 := by omega
  rcases sa_rg a hn with ha | ⟨c, hc, rfl⟩
  · refine ⟨-1, SX, SM, ?_, ?_, hr⟩
    · rw [fn_X4_leads, xc_out hX.1 ha]; rfl
    · rw [fn_X5_leads, pn_out hn hM.1 ha]; rfl
  · obtain ⟨led, x1, x2, x3⟩ := lb_Xr hB hX hc
    obtain ⟨S1, m1, m2, m3⟩ := l12 hB hc (bN B) 0 sc_FU SM (by omega) (by rw [sa_FU]; omega) hM (fun y hy => absurd hy (Nat.not_lt_zero y))
    obtain ⟨S2, s2, k1, k2, k3, k4⟩ := l40 hB (c := c) (bN B) sc_FU S1 _ (by omega) (by rw [sa_FU]; omega) (bM_fr hM m3) m2 (fun z hz h => rC_1 ((rE_b hc hz).mp h)) (fun z hz => (rE_b hc hz.2.1).mpr hz)
    have hfr := fr27_tr m3 k3
    have hM2 := bM_fr hM hfr
    have h127 := l127 hB hM2 k2 (bN B) 0 sc_FU (by omega) (by rw [sa_FU]; omega)
    have hcn : cnP (bq led) (bN B) = cnP s2 (bN B) := cnP_congr _ (fun k hk => by
      have e : bq led k = true ↔ s2 k = true := (x3 k hk).trans (k4 k hk).symm
      cases h1 : bq led k <;> cases h2 : s2 k <;> simp_all)
    refine ⟨nI (cnP s2 (bN B)), SX, S2, ?_, ?_, B, hB, hX, hM2, ?_⟩
    · rw [fn_X4_leads, xc_in hn hX.1 hc, sa_cl, if_neg (by decide), x1, sa_cl, bc_fn, sa_cl, bc_x hn12 x2, hcn]
    · rw [fn_X5_leads, pn_in hn hM.1 hc, sa_cl, if_pos rfl]
      exact (m1.trans k1).trans h127
    · exact jR_frame (SX := SX) (SM := SM) (fun _ _ => rfl) (fun _ _ => rfl) (fun _ => rfl) (fun k _ => hfr.1 k) (fun k _ h => hfr.2.1 k (by omega)) hfr.2.2 hj
