/-! ===== a surplus by rule 2: the piles go ===== -/
theorem tw_M {B : bT} {t c0 sur : Nat} {u : Nat → Int32} {v : Nat → Nat} {pl : Nat → Option Nat} {vl cm : Nat → Nat} {L : Option Nat} {SX SM : sc_M} (hB : bOK B) (ht : t < 13) (hc0 : c0 < bN B) (hL : ∀ x, x < bP B → pl x = some c0 → L ≠ none) (hLb : ∀ l, L = some l → l < 100000) (h : wR B t (bP B) u v pl vl cm SX SM) : ∀ (d x f : Nat), x + d = bP B → d < f → fn_X5_surplusOfLast_67 f SM (nI c0) (lN sur) (oM L) (lN (sB (psB B u pl cm c0 L) (bQ B) x)) (lN (sB (psB B u pl cm c0 L) (qv B vl) x)) (nI x) = fn_X5_surplusOfLast_154 sc_FU SM (nI c0) (lN sur) (oM L) (lN (sB (psB B u pl cm c0 L) (bQ B) (bP B))) (lN (sB (psB B u pl cm c0 L) (qv B vl) (bP B))) (lN 0) (nI 0) := by
  intro d
  have hn := hB.1.2.1
  have hnp := hB.1.2.2
  induction d with
  | zero =>
    intro x f hx hf
    obtain ⟨f, rfl⟩ : ∃ f', f = f' + 1 := ⟨f - 1, by omega⟩
    obtain rfl : x = bP B := by omega
    rw [fn_X5_surplusOfLast_67, h.1.2.2.1, if_pos (nI_le (by omega) (by omega))]; rfl
  | succ d ih =>
    intro x f hx hf
    obtain ⟨f, rfl⟩ : ∃ f', f = f' + 1 := ⟨f - 1, by omega⟩
    have hxp : x < bP B := by omega
    have hpx := h.2.2.2.2.2 x hxp
    have hQ := (hB.2.2 x hxp).1.2
    have ihk := ih (x + 1) f (by omega) (by omega)
    rw [fn_X5_surplusOfLast_67, h.1.2.2.1, if_neg (nI_ge (by omega) (by omega))]
    refine (pa_M (K1 := fun S => fn_X5_surplusOfLast_67 f S (nI c0) (lN sur) (oM L) (lN (sB (psB B u pl cm c0 L) (bQ B) x)) (lN (sB (psB B u pl cm c0 L) (qv B vl) x)) (nI x + 1)) (K2 := fun S => sc_ck (nI x) 80 (sc_sq (lN (sB (psB B u pl cm c0 L) (bQ B) x) + (sc_ga S 3 (nI x).toNatClampNeg).toInt64) (fun y119 => sc_ck (nI x) 80 (sc_ck (nI x) 80 (sc_sq (lN (sB (psB B u pl cm c0 L) (qv B vl) x) + ((sc_ga S 3 (nI x).toNatClampNeg).toInt64 * (sc_gb S 25 (nI x).toNatClampNeg))) (fun y140 => fn_X5_surplusOfLast_67 f S (nI c0) (lN sur) (oM L) y119 y140 (nI x + 1))))))) hB ht hc0 hxp (hL x hxp) hLb h).trans ?_
    rw [nI_1]
    rw [sB, sB] at ihk
    by_cases hps : psB B u pl cm c0 L x = true
    · have hpl : pl x = some c0 := by
        unfold psB at hps
        simp only [Bool.and_eq_true, decide_eq_true_eq] at hps
        exact hps.1
      obtain ⟨_, q2, _, _, q5, _, _⟩ := hpx.2.2.2 c0 hpl
      rw [if_pos hps]
      rw [if_pos hps, if_pos hps] at ihk
      simp -implicitDefEqProofs (disch := omega) only [sa_ck, sa_sq, sa_cl9, q5, (h.1.2.2.2.2.2 x hxp).1, nI_l, lN_mul, lN_add]
      exact ihk
    · rw [if_neg hps]
      rw [if_neg hps, if_neg hps, Nat.add_zero, Nat.add_zero] at ihk
      exact ihk
theorem last_both {B : bT} {u : Nat → Int32} {q c0 t sur T W : Nat} {L : Option Nat} (hB : bOK B) (ht : t < 13) (hc0 : c0 < bN B) (hLb : ∀ l, L = some l → l < 100000) (h1 : sur < 2 ^ 40) (h2 : T < 2 ^ 40) (h3 : W < 2 ^ 40) (h4 : sur < W → 0 < T ∧ sur / T ≤ 100000) : ∀ (d x fX fM g : Nat) (v : Nat → Nat) (pl : Nat → Option Nat) (vl cm : Nat → Nat) (SX SM : sc_M), x + d = bP B → d < fX → d < fM → (∀ k, x ≤ k → k < bP B → pl k = some c0 → L ≠ none) → wR B t (bP B) u v pl vl cm SX SM → pI B q c0 u v pl →
    ∃ (g' : Nat) (v' : Nat → Nat) (pl' : Nat → Option Nat) (vl' cm' : Nat → Nat) (SX' SM' : sc_M), fn_X3_passLast_129 fX SX (nI c0) (lN sur) (oZ L) (lN W) (b2i (decide (sur < W))) (lN (if sur < W then sur / T else 0)) (lN g) (nI x) = (if sur < W then some (lN g', SX') else some (lN sur, sc_mB SX' 15 (vp_updL (sc_gb SX' 15) t (sc_gb SX' 15 t + (lN sur - lN W))))) ∧ fn_X5_surplusOfLast_154 fM SM (nI c0) (lN sur) (oM L) (lN T) (lN W) (lN g) (nI x) = (if sur < W then some (sc_mj SM' 2 (sc_gj SM' 2 + (lN sur - lN g'))) else some (sc_mj SM' 1 (sc_gj SM' 1 + (lN sur - lN W)))) ∧ wR B t (bP B) u v' pl' vl' cm' SX' SM' ∧ pI B q c0 u v' pl' ∧ sFr t SX SM SX' SM' ∧ (∀ c, u c ≠ 0 → v' c = v c) := by
  intro d
  have hn := hB.1.2.1
  have hnp := hB.1.2.2
  induction d with
  | zero =>
    intro x fX fM g v pl vl cm SX SM hx hfX hfM hL h hI
    obtain ⟨fX, rfl⟩ : ∃ f', fX = f' + 1 := ⟨fX - 1, by omega⟩
    obtain ⟨fM, rfl⟩ : ∃ f', fM = f' + 1 := ⟨fM - 1, by omega⟩
    obtain rfl : x = bP B := by omega
    refine ⟨g, v, pl, vl, cm, SX, SM, ?_, ?_, h, hI, sFr_rfl _ _ _, fun _ _ => rfl⟩
    · rw [fn_X3_passLast_129, h.2.1.2.2.1, if_pos (nI_le (by omega) (by omega))]
      by_cases hw : sur < W
      · rw [decide_eq_true hw, if_neg (show ¬ b2i true = 0 by decide), if_pos hw]
      · rw [decide_eq_false hw, if_pos (show b2i false = 0 from rfl), if_neg hw, sa_now h.2.1.1, sa_cl, sa_ck _ (by omega) (by omega), sa_ck _ (by omega) (by omega), sa_sq, sa_cl9 (by omega)]
    · rw [fn_X5_surplusOfLast_154, h.1.2.2.1, if_pos (nI_le (by omega) (by omega))]
      by_cases hw : sur < W
      · rw [if_neg (by rw [pk_lLE (by omega) (by omega)]; omega), sa_sq, if_pos hw]
      · rw [if_pos (by rw [pk_lLE (by omega) (by omega)]; omega), sa_sq, if_neg hw]
  | succ d ih =>
    intro x fX fM g v pl vl cm SX SM hx hfX hfM hL h hI
    obtain ⟨fX, rfl⟩ : ∃ f', fX = f' + 1 := ⟨fX - 1, by omega⟩
    obtain ⟨fM, rfl⟩ : ∃ f', fM = f' + 1 := ⟨fM - 1, by omega⟩
    have hxp : x < bP B := by omega
    have hpx := h.2.2.2.2.2 x hxp
    have hQ := (hB.2.2 x hxp).1.2
    have eX : fn_X3_passLast_129 (fX + 1) SX (nI c0) (lN sur) (oZ L) (lN W) (b2i (decide (sur < W))) (lN (if sur < W then sur / T else 0)) (lN g) (nI x) = if psB B u pl cm c0 L x = true then fn_X3_passLast_182 (fn_X3_passLast_129 fX) SX (nI c0) (lN sur) (oZ L) (lN W) (b2i (decide (sur < W))) (lN (if sur < W then sur / T else 0)) (nI x) (lN g) (nI x) (lN (if sur < W then sur / T else vl x)) else fn_X3_passLast_129 fX SX (nI c0) (lN sur) (oZ L) (lN W) (b2i (decide (sur < W))) (lN (if sur < W then sur / T else 0)) (lN g) (nI (x + 1)) := by
      rw [fn_X3_passLast_129, h.2.1.2.2.1, if_neg (nI_ge (by omega) (by omega)), pa_X hB ht hc0 hxp (hL x (Nat.le_refl _) hxp) hLb h, sa_cl, nI_1]
      by_cases hps : psB B u pl cm c0 L x = true
      · have hpl : pl x = some c0 := by
          unfold psB at hps
          simp only [Bool.and_eq_true, decide_eq_true_eq] at hps
          exact hps.1
        obtain ⟨_, q2, _, q4, _, _, _⟩ := hpx.2.2.2 c0 hpl
        rw [if_pos hps, hps, if_neg (show ¬ b2i true = 0 by decide)]
        by_cases hw : sur < W
        · rw [decide_eq_true hw, if_neg (show ¬ b2i true = 0 by decide), if_pos hw, if_pos hw]
        · rw [decide_eq_false hw, if_pos (show b2i false = 0 from rfl), h.2.1.2.2.2.1, nI_add, sa_ck _ (by omega) (by omega), sa_cl9 (by omega), q4, nI_l (by omega), if_neg hw, if_neg hw]
      · have hps' : psB B u pl cm c0 L x = false := by simpa using hps
        rw [if_neg hps, hps', if_pos (show b2i false = 0 from rfl)]
    have eM : fn_X5_surplusOfLast_154 (fM + 1) SM (nI c0) (lN sur) (oM L) (lN T) (lN W) (lN g) (nI x) = if psB B u pl cm c0 L x = true then fn_X5_surplusOfLast_216 (fn_X5_surplusOfLast_154 fM) SM (nI c0) (lN sur) (oM L) (lN T) (lN W) (lN g) (nI x) (lN (if sur < W then sur / T else vl x)) else fn_X5_surplusOfLast_154 fM SM (nI c0) (lN sur) (oM L) (lN T) (lN W) (lN g) (nI (x + 1)) := by
      rw [fn_X5_surplusOfLast_154, h.1.2.2.1, if_neg (nI_ge (by omega) (by omega))]
      refine (pa_M (K1 := fun S => fn_X5_surplusOfLast_154 fM S (nI c0) (lN sur) (oM L) (lN T) (lN W) (lN g) (nI x + 1)) (K2 := fun S => if lN W ≤ lN sur then sc_ck (nI x) 80 (fn_X5_surplusOfLast_216 (fn_X5_surplusOfLast_154 fM) S (nI c0) (lN sur) (oM L) (lN T) (lN W) (lN g) (nI x) (sc_gb S 25 (nI x).toNatClampNeg)) else sc_nl (lN T) (fn_X5_surplusOfLast_216 (fn_X5_surplusOfLast_154 fM) S (nI c0) (lN sur) (oM L) (lN T) (lN W) (lN g) (nI x) (lN sur / lN T))) hB ht hc0 hxp (hL x (Nat.le_refl _) hxp) hLb h).trans ?_
      rw [nI_1]
      by_cases hps : psB B u pl cm c0 L x = true
      · have hpl : pl x = some c0 := by
          unfold psB at hps
          simp only [Bool.and_eq_true, decide_eq_true_eq] at hps
          exact hps.1
        obtain ⟨_, q2, _, _, q5, _, _⟩ := hpx.2.2.2 c0 hpl
        rw [if_pos hps, if_pos hps]
        by_cases hw : sur < W
        · obtain ⟨t1, t2⟩ := h4 hw
          rw [if_neg (by rw [pk_lLE (by omega) (by omega)]; omega), sa_nlN _ t1 (by omega), pk_lDiv (by omega) t1 (by omega), if_pos hw]
        · rw [if_pos (by rw [pk_lLE (by omega) (by omega)]; omega), sa_ck _ (by omega) (by omega), sa_cl9 (by omega), q5, if_neg hw]
      · rw [if_neg hps, if_neg hps]
    rw [eX, eM]
    by_cases hps : psB B u pl cm c0 L x = true
    · have hpl : pl x = some c0 := by
        unfold psB at hps
        simp only [Bool.and_eq_true, decide_eq_true_eq] at hps
        exact hps.1
      obtain ⟨_, q2, _, _, _, _, _⟩ := hpx.2.2.2 c0 hpl
      have hval : (if sur < W then sur / T else vl x) ≤ 100000 := by
        by_cases hw : sur < W
        · rw [if_pos hw]; exact (h4 hw).2
        · rw [if_neg hw]; exact q2
      obtain ⟨rM, SX1, SM1, s1, s2, s3, s4, s5⟩ := send_both (p := x) hB ht (Nat.le_refl _) hxp hval h
      obtain ⟨g', v', pl', vl', cm', SX', SM', r1, r2, r3, r4, r5, r6⟩ := ih (x + 1) fX fM (g + bQ B x * (if sur < W then sur / T else vl x)) _ _ _ _ SX1 SM1 (by omega) (by omega) (by omega) (fun k hk hk2 => by rw [uN_n _ _ _ _ (by omega)]; exact hL k (by omega) hk2) s3 (pI_send hB hxp hval (Or.inr hpl) hI)
      refine ⟨g', v', pl', vl', cm', SX', SM', ?_, ?_, r3, r4, sFr_trans s5 r5, fun c hc => by rw [r6 c hc, vS_same hB hxp hc]⟩
      · rw [if_pos hps, fn_X3_passLast_182, s1, sa_cl, sa_sq, lN_add, nI_1]; exact r1
      · rw [if_pos hps, fn_X5_surplusOfLast_216, sa_ck _ (by omega) (by omega), sa_sq, sa_cl9 (by omega), (h.1.2.2.2.2.2 x hxp).1, nI_l (by omega), lN_mul, lN_add, s2, sa_cl, nI_1]; exact r2
    · rw [if_neg hps, if_neg hps]
      exact ih (x + 1) fX fM g v pl vl cm SX SM (by omega) (by omega) (by omega) (fun k hk => hL k (by omega)) h hI
theorem qv_le {P : Nat → Bool} {q vl : Nat → Nat} : ∀ n, (∀ p, p < n → P p = true → vl p ≤ 100000) → sB P (fun p => q p * vl p) n ≤ 100000 * sB P q n := by
  intro n
  induction n with
  | zero => intro _; exact Nat.le_refl _
  | succ n ih =>
    intro h
    have h1 := ih (fun p hp => h p (by omega))
    rw [sB, sB]
    by_cases hP : P n = true
    · rw [if_pos hP, if_pos hP]
      have h2 : q n * vl n ≤ q n * 100000 := Nat.mul_le_mul (Nat.le_refl _) (h n (by omega) hP)
      omega
    · rw [if_neg hP, if_neg hP]; omega
