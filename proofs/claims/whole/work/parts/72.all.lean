/-! ===== a surplus by rules 0 and 1 ===== -/
theorem sa_nlN {α : Type} {a : Nat} (K : Option α) (h0 : 0 < a) (h1 : a < 2 ^ 63) : sc_nl (lN a) K = K := by
  refine sa_nl K (fun h => ?_)
  have : lN a = lN 0 := h
  rw [pk_lEQ h1 (by omega)] at this
  omega
theorem sa_L0 : (0 : Int64) = lN 0 := rfl
theorem lN_0 (a : Nat) : lN a + 0 = lN a := by rw [sa_L0, lN_add, Nat.add_zero]
abbrev atC (pl : Nat → Option Nat) (c0 : Nat) : Nat → Bool := fun p => decide (pl p = some c0)
theorem pap_X {B : bT} {t c0 : Nat} {u : Nat → Int32} {v : Nat → Nat} {pl : Nat → Option Nat} {vl cm : Nat → Nat} {SX SM : sc_M} (hB : bOK B) (ht : t < 13) (hc0 : c0 < bN B) (h : wR B t (bP B) u v pl vl cm SX SM) : ∀ (d x f : Nat), x + d = bP B → d < f → fn_X3_papersOf_5 f SX (nI c0) (lN (sB (atC pl c0) (bQ B) x)) (nI x) = some (lN (sB (atC pl c0) (bQ B) (bP B)), SX) := by
  intro d
  have hn := hB.1.2.1
  have hnp := hB.1.2.2
  induction d with
  | zero =>
    intro x f hx hf
    obtain ⟨f, rfl⟩ : ∃ f', f = f' + 1 := ⟨f - 1, by omega⟩
    obtain rfl : x = bP B := by omega
    rw [fn_X3_papersOf_5, h.2.1.2.2.1, if_pos (nI_le (by omega) (by omega))]
  | succ d ih =>
    intro x f hx hf
    obtain ⟨f, rfl⟩ : ∃ f', f = f' + 1 := ⟨f - 1, by omega⟩
    have hxp : x < bP B := by omega
    have hpx := h.2.2.2.2.2 x hxp
    have hlt := pR_lt hB hpx
    have ihk := ih (x + 1) f (by omega) (by omega)
    have hQ := (hB.2.2 x hxp).1.2
    rw [fn_X3_papersOf_5, h.2.1.2.2.1, if_neg (nI_ge (by omega) (by omega)), h.2.1.2.2.2.1, nI_add, sa_ck _ (by omega) (by omega), sa_cl9 (by omega), hpx.2.1, ite_pq (oX_eq (by omega) hlt), nI_1, sa_ck _ (by omega) (by omega), sa_sq, sa_cl9 (by omega), (h.1.1.2.2.2.2 x hxp).1, nI_l (by omega), lN_add]
    rw [sB] at ihk
    by_cases hpl : pl x = some c0
    · rw [if_pos hpl]
      rw [if_pos (by simp [hpl])] at ihk
      exact ihk
    · rw [if_neg hpl]
      rw [if_neg (by simp [hpl]), Nat.add_zero] at ihk
      exact ihk
theorem pap_M {B : bT} {t c0 : Nat} {u : Nat → Int32} {v : Nat → Nat} {pl : Nat → Option Nat} {vl cm : Nat → Nat} {SX SM : sc_M} {a b : Int64} (hB : bOK B) (hc0 : c0 < bN B) (h : wR B t (bP B) u v pl vl cm SX SM) : ∀ (d x f : Nat), x + d = bP B → d < f → fn_X5_surplusOfAll_14 f SM (nI c0) a b (lN (sB (atC pl c0) (bQ B) x)) (nI x) = fn_X5_surplusOfAll_63 sc_FU SM (nI c0) a b (lN (sB (atC pl c0) (bQ B) (bP B))) (lN 0) (nI 0) := by
  intro d
  have hn := hB.1.2.1
  have hnp := hB.1.2.2
  induction d with
  | zero =>
    intro x f hx hf
    obtain ⟨f, rfl⟩ : ∃ f', f = f' + 1 := ⟨f - 1, by omega⟩
    obtain rfl : x = bP B := by omega
    rw [fn_X5_surplusOfAll_14, h.1.2.2.1, if_pos (nI_le (by omega) (by omega))]; rfl
  | succ d ih =>
    intro x f hx hf
    obtain ⟨f, rfl⟩ : ∃ f', f = f' + 1 := ⟨f - 1, by omega⟩
    have hxp : x < bP B := by omega
    have hpx := h.2.2.2.2.2 x hxp
    have hlt := pR_lt hB hpx
    have ihk := ih (x + 1) f (by omega) (by omega)
    have hQ := (hB.2.2 x hxp).1.2
    rw [fn_X5_surplusOfAll_14, h.1.2.2.1, if_neg (nI_ge (by omega) (by omega)), sa_ck _ (by omega) (by omega), sa_cl9 (by omega), hpx.1, ite_pq (oM_eq (by omega) hlt), nI_1, sa_ck _ (by omega) (by omega), sa_sq, sa_sq, (h.1.2.2.2.2.2 x hxp).1, nI_l (by omega), lN_add, lN_0]
    rw [sB] at ihk
    by_cases hpl : pl x = some c0
    · rw [if_pos hpl]
      rw [if_pos (by simp [hpl])] at ihk
      exact ihk
    · rw [if_neg hpl]
      rw [if_neg (by simp [hpl]), Nat.add_zero] at ihk
      exact ihk
/-- a pile's new value, by rule 0 or 1 -/
def nv (r sur had all x : Nat) : Nat := if r = 0 then x * sur / had else sur / all
theorem pass_both {B : bT} {u : Nat → Int32} {q c0 t r sur had all : Nat} (hB : bOK B) (ht : t < 13) (hc0 : c0 < bN B) (hr : r < 2) (h1 : 0 < had) (h2 : sur ≤ had) (h3 : had < 2 ^ 40) (h4 : 0 < all) (h5 : all < 2 ^ 40) (h6 : r = 1 → sur / all ≤ 100000) : ∀ (d x fX fM g : Nat) (v : Nat → Nat) (pl : Nat → Option Nat) (vl cm : Nat → Nat) (SX SM : sc_M), x + d = bP B → d < fX → d < fM → wR B t (bP B) u v pl vl cm SX SM → pI B q c0 u v pl → sc_gi SX 2 = nI r → sc_gi SM 2 = nI r →
    ∃ (g' : Nat) (v' : Nat → Nat) (pl' : Nat → Option Nat) (vl' cm' : Nat → Nat) (SX' SM' : sc_M), fn_X3_passAll_43 fX SX (nI c0) (lN sur) (lN had) (lN all) (lN g) (nI x) = some (lN g', SX') ∧ fn_X5_surplusOfAll_63 fM SM (nI c0) (lN sur) (lN had) (lN all) (lN g) (nI x) = some (sc_mj SM' 2 (sc_gj SM' 2 + (lN sur - lN g'))) ∧ wR B t (bP B) u v' pl' vl' cm' SX' SM' ∧ pI B q c0 u v' pl' ∧ sFr t SX SM SX' SM' ∧ (∀ c, u c ≠ 0 → v' c = v c) := by
  intro d
  have hn := hB.1.2.1
  have hnp := hB.1.2.2
  induction d with
  | zero =>
    intro x fX fM g v pl vl cm SX SM hx hfX hfM h hI er em
    obtain ⟨fX, rfl⟩ : ∃ f', fX = f' + 1 := ⟨fX - 1, by omega⟩
    obtain ⟨fM, rfl⟩ : ∃ f', fM = f' + 1 := ⟨fM - 1, by omega⟩
    obtain rfl : x = bP B := by omega
    refine ⟨g, v, pl, vl, cm, SX, SM, ?_, ?_, h, hI, sFr_rfl _ _ _, fun _ _ => rfl⟩
    · rw [fn_X3_passAll_43, h.2.1.2.2.1, if_pos (nI_le (by omega) (by omega))]
    · rw [fn_X5_surplusOfAll_63, h.1.2.2.1, if_pos (nI_le (by omega) (by omega)), sa_sq]
  | succ d ih =>
    intro x fX fM g v pl vl cm SX SM hx hfX hfM h hI er em
    obtain ⟨fX, rfl⟩ : ∃ f', fX = f' + 1 := ⟨fX - 1, by omega⟩
    obtain ⟨fM, rfl⟩ : ∃ f', fM = f' + 1 := ⟨fM - 1, by omega⟩
    have hxp : x < bP B := by omega
    have hpx := h.2.2.2.2.2 x hxp
    have hlt := pR_lt hB hpx
    have hQ := (hB.2.2 x hxp).1.2
    rw [fn_X3_passAll_43, h.2.1.2.2.1, if_neg (nI_ge (by omega) (by omega)), fn_X5_surplusOfAll_63, h.1.2.2.1, if_neg (nI_ge (by omega) (by omega)), h.2.1.2.2.2.1, nI_add, sa_ck _ (by omega) (by omega), sa_ck _ (by omega) (by omega), sa_ck _ (by omega) (by omega), sa_ck _ (by omega) (by omega), sa_cl9 (by omega), sa_cl9 (by omega), hpx.1, hpx.2.1, ite_pq (oX_eq (by omega) hlt), ite_pq (oM_eq (by omega) hlt), nI_1]
    by_cases hpl : pl x = some c0
    · obtain ⟨_, q2, _, q4, q5, _, _⟩ := hpx.2.2.2 c0 hpl
      have hmul : vl x * sur ≤ 100000 * 2 ^ 40 := Nat.mul_le_mul q2 (by omega)
      have hval : nv r sur had all (vl x) ≤ 100000 := by
        unfold nv
        by_cases hr0 : r = 0
        · rw [if_pos hr0]
          refine Nat.le_trans (Nat.div_le_of_le_mul ?_) q2
          rw [Nat.mul_comm had]
          exact Nat.mul_le_mul (Nat.le_refl _) h2
        · rw [if_neg hr0]
          exact h6 (by omega)
      obtain ⟨rM, SX1, SM1, s1, s2, s3, s4, s5⟩ := send_both (p := x) hB ht (Nat.le_refl _) hxp hval h
      obtain ⟨g', v', pl', vl', cm', SX', SM', r1, r2, r3, r4, r5, r6⟩ := ih (x + 1) fX fM (g + bQ B x * nv r sur had all (vl x)) _ _ _ _ SX1 SM1 (by omega) (by omega) (by omega) s3 (pI_send hB hxp hval (Or.inr hpl) hI) (by rw [s5.1.1]; exact er) (by rw [s5.2.1]; exact em)
      refine ⟨g', v', pl', vl', cm', SX', SM', ?_, ?_, r3, r4, sFr_trans s5 r5, fun c hc => by rw [r6 c hc, vS_same hB hxp hc]⟩
      · rw [if_pos hpl, er]
        have key : fn_X3_passAll_102 (fn_X3_passAll_43 fX) SX (nI c0) (lN sur) (lN had) (lN all) (lN g) (nI x) (lN (nv r sur had all (vl x))) = some (lN g', SX') := by
          rw [fn_X3_passAll_102, s1, sa_cl, sa_sq, lN_add, nI_1]; exact r1
        by_cases hr0 : r = 0
        · rw [if_pos (by rw [hr0]; rfl), sa_nlN _ h1 (by omega), q4, nI_l (by omega), lN_mul, pk_lDiv (by omega) h1 (by omega)]
          rw [nv, if_pos hr0] at key
          exact key
        · rw [if_neg (by rw [sa_l0, nI_eq (by omega) (by omega)]; exact hr0), sa_nlN _ h4 (by omega), pk_lDiv (by omega) h4 (by omega)]
          rw [nv, if_neg hr0] at key
          exact key
      · rw [if_pos hpl, em]
        have key : fn_X5_surplusOfAll_109 (fn_X5_surplusOfAll_63 fM) SM (nI c0) (lN sur) (lN had) (lN all) (lN g) (nI x) (lN (nv r sur had all (vl x))) = some (sc_mj SM' 2 (sc_gj SM' 2 + (lN sur - lN g'))) := by
          rw [fn_X5_surplusOfAll_109, sa_ck _ (by omega) (by omega), sa_sq, sa_cl9 (by omega), (h.1.2.2.2.2.2 x hxp).1, nI_l (by omega), lN_mul, lN_add, s2, sa_cl, nI_1]; exact r2
        by_cases hr0 : r = 0
        · rw [if_pos (by rw [hr0]; rfl), sa_nlN _ h1 (by omega), q5, lN_mul, pk_lDiv (by omega) h1 (by omega)]
          rw [nv, if_pos hr0] at key
          exact key
        · rw [if_neg (by rw [sa_l0, nI_eq (by omega) (by omega)]; exact hr0), sa_nlN _ h4 (by omega), pk_lDiv (by omega) h4 (by omega)]
          rw [nv, if_neg hr0] at key
          exact key
    · rw [if_neg hpl, if_neg hpl]
      exact ih (x + 1) fX fM g v pl vl cm SX SM (by omega) (by omega) (by omega) h hI er em
/-- no pile lies there: the reference's loop does nothing -/
theorem pass_no {B : bT} {u : Nat → Int32} {c0 t : Nat} {v : Nat → Nat} {pl : Nat → Option Nat} {vl cm : Nat → Nat} {SX SM : sc_M} {a b e g : Int64} (hB : bOK B) (hc0 : c0 < bN B) (h : wR B t (bP B) u v pl vl cm SX SM) (hno : ∀ p, p < bP B → ¬ pl p = some c0) : ∀ (d x f : Nat), x + d = bP B → d < f → fn_X5_surplusOfAll_63 f SM (nI c0) a b e g (nI x) = some (sc_mj SM 2 (sc_gj SM 2 + (a - g))) := by
  intro d
  have hn := hB.1.2.1
  have hnp := hB.1.2.2
  induction d with
  | zero =>
    intro x f hx hf
    obtain ⟨f, rfl⟩ : ∃ f', f = f' + 1 := ⟨f - 1, by omega⟩
    rw [fn_X5_surplusOfAll_63, h.1.2.2.1, if_pos (nI_le (by omega) (by omega)), sa_sq]
  | succ d ih =>
    intro x f hx hf
    obtain ⟨f, rfl⟩ : ∃ f', f = f' + 1 := ⟨f - 1, by omega⟩
    have hxp : x < bP B := by omega
    have hpx := h.2.2.2.2.2 x hxp
    rw [fn_X5_surplusOfAll_63, h.1.2.2.1, if_neg (nI_ge (by omega) (by omega)), sa_ck _ (by omega) (by omega), sa_cl9 (by omega), hpx.1, ite_pq (oM_eq (by omega) (pR_lt hB hpx)), nI_1, if_neg (hno x hxp)]
    exact ih (x + 1) f (by omega) (by omega)
theorem sB_pos {P : Nat → Bool} {q : Nat → Nat} {x : Nat} : ∀ n, x < n → P x = true → q x ≤ sB P q n := by
  intro n
  induction n with
  | zero => intro h; omega
  | succ n ih =>
    intro hx hP
    rw [sB]
    by_cases hxn : x = n
    · rw [← hxn, hP, if_pos rfl]; omega
    · have := ih (by omega) hP
      omega
