/-! ===== the surplus of one, and one goes out, in step ===== -/
theorem sa_quota {S : sc_M} {t : Nat} {x : Int64} (ht : t < 72) (h : sc_gi S 5 = nI (t + 1)) (hq : sc_gb S 17 t = x) : fn_X1_quota S = some (x, S) := by
  rw [fn_X1_quota, sa_now h, sa_cl, sa_ck _ (by omega) (by omega), sa_cl9 (by omega), hq]
theorem ps47 {S : sc_M} {t c0 : Nat} {q sur g : Int64} (ht : t < 72) (hc0 : c0 < 12) (h5 : sc_gi S 5 = nI (t + 1)) (h6 : sc_gi S 6 = nI (12 * t)) (hq : sc_gb S 17 t = q) : fn_X3_passSurplus_47 S (nI c0) sur g = some (sc_mB (sc_mB S 19 (vp_updL (sc_gb S 19) (12 * t + c0) q)) 16 (vp_updL (sc_gb S 16) t (sc_gb S 16 t + (sur - g)))) := by
  rw [fn_X3_passSurplus_47, sa_quota ht h5 hq, sa_cl]
  simp -implicitDefEqProofs (disch := omega) only [h6, nI_add, sa_ck, sa_sq, sa_cl9, fn_X1_now, sa_cl, sa_gi_s, sa_gi_n, sa_gi_j, sa_gi_A, sa_gi_B, sa_gj_s, sa_gj_n, sa_gj_i, sa_gj_A, sa_gj_B, sa_ga_s, sa_ga_n, sa_ga_i, sa_ga_j, sa_ga_B, sa_gb_s, sa_gb_n, sa_gb_i, sa_gb_j, sa_gb_A, sa_us, sa_un, sa_vs, sa_vn, h5, nI_pred]
theorem sur01 {B : bT} {t r q c0 : Nat} {u : Nat → Int32} {v : Nat → Nat} {pl : Nat → Option Nat} {vl cm : Nat → Nat} {SX SM : sc_M} (hB : bOK B) (ht : t < 13) (hc0 : c0 < bN B) (hr : r < 2) (h : wR B t (bP B) u v pl vl cm SX SM) (hI : pI B q (bN B) u v pl) (er : sc_gi SX 2 = nI r) (em : sc_gi SM 2 = nI r) (eq : sc_gb SX 17 t = lN q) (mq : sc_gj SM 0 = lN q) (hq : q < v c0) :
    ∃ (g' : Nat) (v' : Nat → Nat) (pl' : Nat → Option Nat) (vl' cm' : Nat → Nat) (SX' SM' : sc_M), fn_X3_passAll SX (nI c0) (lN (v c0 - q)) = some (lN g', SX') ∧ fn_X5_surplusOfAll SM (nI c0) (lN (v c0 - q)) = some (sc_mj SM' 2 (sc_gj SM' 2 + (lN (v c0 - q) - lN g'))) ∧ wR B t (bP B) u v' pl' vl' cm' SX' SM' ∧ pI B q c0 u v' pl' ∧ sFr t SX SM SX' SM' ∧ (∀ c, u c ≠ 0 → v' c = v c) := by
  have hn := hB.1.2.1
  have hnp := hB.1.2.2
  have hb := hI c0 hc0 (by omega) (Or.inr hq)
  have hpp := ppB_le hB pl c0
  have pX := pap_X hB ht hc0 h (bP B) 0 sc_FU (Nat.zero_add _) (by rw [sa_FU]; omega)
  have pM := pap_M (a := lN (v c0 - q)) (b := lN (v c0)) hB hc0 h (bP B) 0 sc_FU (Nat.zero_add _) (by rw [sa_FU]; omega)
  have hvX := (h.2.2.2.1 c0 hc0).1
  have hvM := (h.2.2.2.1 c0 hc0).2
  have fX : fn_X3_papersOf SX (nI c0) = some (lN (ppB B pl c0), SX) := pX
  have fM : fn_X5_surplusOfAll SM (nI c0) (lN (v c0 - q)) = fn_X5_surplusOfAll_63 sc_FU SM (nI c0) (lN (v c0 - q)) (lN (v c0)) (lN (ppB B pl c0)) (lN 0) (nI 0) := by
    rw [fn_X5_surplusOfAll, sa_ck _ (by omega) (by omega), sa_sq, sa_cl9 (by omega), hvM]; exact pM
  have uX : fn_X3_passAll SX (nI c0) (lN (v c0 - q)) = if (0 : Int64) < lN (ppB B pl c0) then fn_X3_passAll_43 sc_FU SX (nI c0) (lN (v c0 - q)) (lN (v c0)) (lN (ppB B pl c0)) (lN 0) (nI 0) else some (lN 0, SX) := by
    rw [fn_X3_passAll, h.2.1.2.1, nI_add, sa_ck _ (by omega) (by omega), sa_sq, sa_cl9 (by omega), hvX, fX, sa_cl, if_neg (by rw [sa_L0, pk_lLE (by omega) (by omega)]; omega)]; rfl
  by_cases hall : 0 < ppB B pl c0
  · obtain ⟨g', v', pl', vl', cm', SX', SM', r1, r2, r3, r4, r5, r6⟩ := pass_both (q := q) (r := r) (sur := v c0 - q) (had := v c0) (all := ppB B pl c0) hB ht hc0 hr (by omega) (by omega) (by omega) hall (by omega) (fun _ => Nat.div_le_of_le_mul (by rw [Nat.mul_comm]; omega)) (bP B) 0 sc_FU sc_FU 0 v pl vl cm SX SM (Nat.zero_add _) (by rw [sa_FU]; omega) (by rw [sa_FU]; omega) h (pI_at hI) er em
    refine ⟨g', v', pl', vl', cm', SX', SM', ?_, ?_, r3, r4, r5, r6⟩
    · rw [uX, if_pos (by rw [sa_L0, pk_lLT (by omega) (by omega)]; exact hall)]; exact r1
    · rw [fM]; exact r2
  · refine ⟨0, v, pl, vl, cm, SX, SM, ?_, ?_, h, pI_at hI, sFr_rfl _ _ _, fun _ _ => rfl⟩
    · rw [uX, if_neg (by rw [sa_L0, pk_lLT (by omega) (by omega)]; exact hall)]
    · rw [fM]
      refine pass_no hB hc0 h (fun p hp hpl => ?_) (bP B) 0 sc_FU (Nat.zero_add _) (by rw [sa_FU]; omega)
      have h1 := sB_pos (P := fun p => decide (pl p = some c0)) (q := bQ B) (bP B) hp (by simp [hpl])
      have h2 := (hB.2.2 p hp).1.1
      exact hall (Nat.lt_of_lt_of_le (by omega) h1)
theorem sur2 {B : bT} {t q c0 : Nat} {u : Nat → Int32} {v : Nat → Nat} {pl : Nat → Option Nat} {vl cm : Nat → Nat} {SX SM : sc_M} (hB : bOK B) (ht : t < 13) (hc0 : c0 < bN B) (h : wR B t (bP B) u v pl vl cm SX SM) (hI : pI B q (bN B) u v pl) (hq : q < v c0) :
    ∃ (W g' : Nat) (v' : Nat → Nat) (pl' : Nat → Option Nat) (vl' cm' : Nat → Nat) (SX' SM' : sc_M), fn_X3_passLast SX (nI c0) (lN (v c0 - q)) = (if v c0 - q < W then some (lN g', SX') else some (lN (v c0 - q), sc_mB SX' 15 (vp_updL (sc_gb SX' 15) t (sc_gb SX' 15 t + (lN (v c0 - q) - lN W))))) ∧ fn_X5_surplusOfLast SM (nI c0) (lN (v c0 - q)) = (if v c0 - q < W then some (sc_mj SM' 2 (sc_gj SM' 2 + (lN (v c0 - q) - lN g'))) else some (sc_mj SM' 1 (sc_gj SM' 1 + (lN (v c0 - q) - lN W)))) ∧ wR B t (bP B) u v' pl' vl' cm' SX' SM' ∧ pI B q c0 u v' pl' ∧ sFr t SX SM SX' SM' ∧ (∀ c, u c ≠ 0 → v' c = v c) := by
  have hn := hB.1.2.1
  have hnp := hB.1.2.2
  have hb := hI c0 hc0 (by omega) (Or.inr hq)
  have hpp := ppB_le hB pl c0
  have lX := lp_X hB ht hc0 h (bP B) 0 sc_FU (Nat.zero_add _) (by rw [sa_FU]; omega)
  have lM := lp_M (a := lN (v c0 - q)) hB ht hc0 h (bP B) 0 sc_FU (Nat.zero_add _) (by rw [sa_FU]; omega)
  generalize hL : ltF pl cm c0 (bP B) = L at lX lM
  have hL1 : ∀ x, x < bP B → pl x = some c0 → L ≠ none := fun x hx he => by rw [← hL]; exact ltF_ex (bP B) hx he
  have hLb : ∀ l, L = some l → l < 100000 := fun l hl => by
    have := ltF_le (t := t) (bP B) (fun p hp => wR_cm h c0 p hp) l (by rw [hL]; exact hl)
    omega
  have tX := tw_X (sur := v c0 - q) hB ht hc0 hL1 hLb h (bP B) 0 sc_FU (Nat.zero_add _) (by rw [sa_FU]; omega)
  have tM := tw_M (sur := v c0 - q) hB ht hc0 hL1 hLb h (bP B) 0 sc_FU (Nat.zero_add _) (by rw [sa_FU]; omega)
  have hT : sB (psB B u pl cm c0 L) (bQ B) (bP B) ≤ 40000 := by
    have := sB_le (psB B u pl cm c0 L) (bQ B) 500 (bP B) (fun k hk => (hB.2.2 k hk).1.2)
    omega
  have hW : sB (psB B u pl cm c0 L) (qv B vl) (bP B) ≤ 100000 * sB (psB B u pl cm c0 L) (bQ B) (bP B) := by
    refine qv_le (bP B) (fun p hp hps => ?_)
    unfold psB at hps
    simp only [Bool.and_eq_true, decide_eq_true_eq] at hps
    exact ((h.2.2.2.2.2 p hp).2.2.2 c0 hps.1).2.1
  generalize sB (psB B u pl cm c0 L) (bQ B) (bP B) = T at tX tM hT hW
  generalize sB (psB B u pl cm c0 L) (qv B vl) (bP B) = W at tX tM hW
  obtain ⟨g', v', pl', vl', cm', SX', SM', r1, r2, r3, r4, r5, r6⟩ := last_both (q := q) (u := u) (c0 := c0) (t := t) (sur := v c0 - q) (T := T) (W := W) (L := L) hB ht hc0 hLb (by omega) (by omega) (by omega) (fun hw => ⟨by omega, Nat.div_le_of_le_mul (by rw [Nat.mul_comm]; omega)⟩) (bP B) 0 sc_FU sc_FU 0 v pl vl cm SX SM (Nat.zero_add _) (by rw [sa_FU]; omega) (by rw [sa_FU]; omega) (fun k _ hk => hL1 k hk) h (pI_at hI)
  refine ⟨W, g', v', pl', vl', cm', SX', SM', ?_, ?_, r3, r4, r5, r6⟩
  · have e1 : fn_X3_latestParcel SX (nI c0) = some (oZ L, SX) := lX
    rw [← r1, fn_X3_passLast, e1, sa_cl]
    refine tX.trans ?_
    by_cases hw : v c0 - q < W
    · rw [if_neg (by rw [pk_lLE (by omega) (by omega)]; omega), if_neg (by rw [sa_L0, pk_lLE (by omega) (by omega)]; omega), fn_X3_passLast_105, if_neg (by decide), sa_nlN _ (by omega) (by omega), sa_sq, pk_lDiv (by omega) (by omega) (by omega), decide_eq_true hw, if_pos hw]; rfl
    · rw [if_pos (by rw [pk_lLE (by omega) (by omega)]; omega), fn_X3_passLast_104, fn_X3_passLast_105, if_pos rfl, decide_eq_false hw, if_neg hw]; rfl
  · rw [← r2]
    refine Eq.trans ?_ (lM.trans tM)
    rfl
theorem sur_both {B : bT} {t r q c0 : Nat} {u : Nat → Int32} {v : Nat → Nat} {pl : Nat → Option Nat} {vl cm : Nat → Nat} {SX SM : sc_M} (hB : bOK B) (ht : t < 13) (hc0 : c0 < bN B) (hr : r < 3) (h : wR B t (bP B) u v pl vl cm SX SM) (hI : pI B q (bN B) u v pl) (er : sc_gi SX 2 = nI r) (em : sc_gi SM 2 = nI r) (eq : sc_gb SX 17 t = lN q) (mq : sc_gj SM 0 = lN q) (hl : sc_gb SX 16 t = sc_gj SM 2) (hu0 : u c0 ≠ 0) (hq : q < v c0) :
    ∃ (v' : Nat → Nat) (pl' : Nat → Option Nat) (vl' cm' : Nat → Nat) (SX' SM' : sc_M), fn_X3_passSurplus SX (nI c0) = some SX' ∧ fn_X5_transfer SM (nI c0) = some SM' ∧ wR B t (bP B) u v' pl' vl' cm' SX' SM' ∧ pI B q (bN B) u v' pl' ∧ gFr t SX SM SX' SM' ∧ sc_gb SX' 16 t = sc_gj SM' 2 ∧ v' c0 = q ∧ (∀ c, c ≠ c0 → u c ≠ 0 → v' c = v c) := by
  have hn := hB.1.2.1
  have hvX := (h.2.2.2.1 c0 hc0).1
  have hvM := (h.2.2.2.1 c0 hc0).2
  have key : ∃ (g1 : Int64) (v1 : Nat → Nat) (pl1 : Nat → Option Nat) (vl1 cm1 : Nat → Nat) (X1 M1 : sc_M), (if nI r = 2 then fn_X3_passLast SX (nI c0) (lN (v c0 - q)) else fn_X3_passAll SX (nI c0) (lN (v c0 - q))) = some (g1, X1) ∧ (if (2 : Int32) ≤ nI r then fn_X5_surplusOfLast SM (nI c0) (lN (v c0 - q)) else fn_X5_surplusOfAll SM (nI c0) (lN (v c0 - q))) = some (sc_mj M1 2 (sc_gj M1 2 + (lN (v c0 - q) - g1))) ∧ wR B t (bP B) u v1 pl1 vl1 cm1 X1 M1 ∧ pI B q c0 u v1 pl1 ∧ gFr t SX SM X1 M1 ∧ sc_gb X1 16 t = sc_gj M1 2 ∧ (∀ c, u c ≠ 0 → v1 c = v c) := by
    by_cases hr2 : r = 2
    · obtain ⟨W, g', v', pl', vl', cm', SX', SM', r1, r2, r3, r4, r5, r6⟩ := sur2 hB ht hc0 h hI hq
      rw [if_pos (by rw [hr2]; rfl), if_pos (by rw [hr2]; decide), r1, r2]
      have hl' : sc_gb SX' 16 t = sc_gj SM' 2 := by rw [r5.1.2.2.1 16 (by decide) (by decide), r5.2.2.1 2 (by decide)]; exact hl
      by_cases hw : v c0 - q < W
      · rw [if_pos hw, if_pos hw]
        exact ⟨lN g', v', pl', vl', cm', SX', SM', rfl, rfl, r3, r4, gFr_s r5, hl', r6⟩
      · rw [if_neg hw, if_neg hw]
        obtain ⟨w1, w2⟩ := wR_i (y := lN (v c0 - q) - lN W) r3
        refine ⟨lN (v c0 - q), v', pl', vl', cm', _, sc_mj SM' 1 (sc_gj SM' 1 + (lN (v c0 - q) - lN W)), rfl, ?_, w1, r4, gFr_trans (gFr_s r5) w2, ?_, r6⟩
        · rw [Int64.sub_self, Int64.add_zero]
          congr 1
          show sc_mj SM' 1 _ = sc_mj (sc_mj SM' 1 _) 2 (sc_gj (sc_mj SM' 1 _) 2)
          unfold sc_mj
          congr 1
          congr 1
          funext j
          simp only [sc_gj, va_up]
          by_cases hj : j = 2
          · simp [hj]
          · simp [hj]
        · simp -implicitDefEqProofs (disch := omega) only [sa_gi_s, sa_gi_n, sa_gi_j, sa_gi_A, sa_gi_B, sa_gj_s, sa_gj_n, sa_gj_i, sa_gj_A, sa_gj_B, sa_ga_s, sa_ga_n, sa_ga_i, sa_ga_j, sa_ga_B, sa_gb_s, sa_gb_n, sa_gb_i, sa_gb_j, sa_gb_A, sa_us, sa_un, sa_vs, sa_vn]; exact hl'
    · obtain ⟨g', v', pl', vl', cm', SX', SM', r1, r2, r3, r4, r5, r6⟩ := sur01 hB ht hc0 (by omega) h hI er em eq mq hq
      rw [if_neg (by rw [show (2 : Int32) = nI 2 from rfl, nI_eq (by omega) (by omega)]; exact hr2), if_neg (by rw [show (2 : Int32) = nI 2 from rfl, nI_leI (by omega) (by omega)]; omega), r1, r2]
      exact ⟨lN g', v', pl', vl', cm', SX', SM', rfl, rfl, r3, r4, gFr_s r5, by rw [r5.1.2.2.1 16 (by decide) (by decide), r5.2.2.1 2 (by decide)]; exact hl, r6⟩
  obtain ⟨g1, v1, pl1, vl1, cm1, X1, M1, k1, k2, k3, k4, k5, k6, k7⟩ := key
  obtain ⟨w1, w2, w3⟩ := wR_l (y := lN (v c0 - q) - g1) k3 k6
  obtain ⟨z1, z2⟩ := wR_v (c0 := c0) (y := q) w1
  have hq1 : sc_gb X1 17 t = lN q := by rw [k5.1.2.2.1 17 (by decide) (by decide) (by decide)]; exact eq
  have hmq1 : sc_gj M1 0 = lN q := by rw [k5.2.2.1 0 (by decide) (by decide)]; exact mq
  refine ⟨uN v1 c0 q, pl1, vl1, cm1, _, _, ?_, ?_, z1, pI_of k4 hu0 (Nat.le_refl _), gFr_trans k5 (gFr_trans w2 z2), ?_, uN_s _ _ _, fun c hc hu => by rw [uN_n _ _ _ _ hc]; exact k7 c hu⟩
  · rw [fn_X3_passSurplus, h.2.1.2.1, nI_add, sa_ck _ (by omega) (by omega), sa_quota (by omega) h.2.1.1 eq, sa_cl, sa_sq, sa_cl9 (by omega), hvX, lN_sub (by omega), er]
    have e47 := ps47 (S := X1) (t := t) (c0 := c0) (q := lN q) (sur := lN (v c0 - q)) (g := g1) (by omega) (by omega) k3.2.1.1 k3.2.1.2.1 hq1
    have eS : sc_mB (sc_mB X1 19 (vp_updL (sc_gb X1 19) (12 * t + c0) (lN q))) 16 (vp_updL (sc_gb X1 16) t (sc_gb X1 16 t + (lN (v c0 - q) - g1))) = sc_mB (sc_mB X1 16 (vp_updL (sc_gb X1 16) t (sc_gb X1 16 t + (lN (v c0 - q) - g1)))) 19 (vp_updL (sc_gb (sc_mB X1 16 (vp_updL (sc_gb X1 16) t (sc_gb X1 16 t + (lN (v c0 - q) - g1)))) 19) (12 * t + c0) (lN q)) := by
      rw [sa_gb_n _ _ _ _ (by decide)]
      unfold sc_mB
      congr 3
      funext j
      simp only [va_up]
      by_cases h1 : j = 16
      · simp [h1]
      · simp [h1]
    rw [← eS, ← e47]
    by_cases hr2 : nI r = 2
    · rw [if_pos hr2] at k1 ⊢
      rw [k1, sa_cl]
    · rw [if_neg hr2] at k1 ⊢
      rw [k1, sa_cl]
  · rw [fn_X5_transfer, sa_ck _ (by omega) (by omega), sa_sq, sa_cl9 (by omega), hvM, mq, lN_sub (by omega), em]
    by_cases hr2 : (2 : Int32) ≤ nI r
    · rw [if_pos hr2] at k2 ⊢
      rw [k2, sa_cv, sa_ck _ (by omega) (by omega), sa_sq, sa_gj_n _ _ _ _ (by decide), hmq1]
    · rw [if_neg hr2] at k2 ⊢
      rw [k2, sa_cv, sa_ck _ (by omega) (by omega), sa_sq, sa_gj_n _ _ _ _ (by decide), hmq1]
  · simp -implicitDefEqProofs (disch := omega) only [sa_gi_s, sa_gi_n, sa_gi_j, sa_gi_A, sa_gi_B, sa_gj_s, sa_gj_n, sa_gj_i, sa_gj_A, sa_gj_B, sa_ga_s, sa_ga_n, sa_ga_i, sa_ga_j, sa_ga_B, sa_gb_s, sa_gb_n, sa_gb_i, sa_gb_j, sa_gb_A, sa_us, sa_un, sa_vs, sa_vn]
    rw [k6]
theorem outS_both {B : bT} {t q c0 : Nat} {u : Nat → Int32} {v : Nat → Nat} {pl : Nat → Option Nat} {vl cm : Nat → Nat} {SX SM : sc_M} (hB : bOK B) (ht : t < 13) (hc0 : c0 < bN B) (h : wR B t (bP B) u v pl vl cm SX SM) (hI : pI B q (bN B) u v pl) (hl : sc_gb SX 16 t = sc_gj SM 2) :
    ∃ (v' : Nat → Nat) (pl' : Nat → Option Nat) (vl' cm' : Nat → Nat) (SX' SM' : sc_M), fn_X3_putOut SX (nI c0) = some SX' ∧ fn_X5_goesOut SM (nI c0) = some SM' ∧ wR B t (bP B) (upd u c0 2) v' pl' vl' cm' SX' SM' ∧ pI B q (bN B) (upd u c0 2) v' pl' ∧ gFr t SX SM SX' SM' ∧ sc_gb SX' 16 t = sc_gj SM' 2 ∧ (∀ c, c ≠ c0 → u c ≠ 0 → v' c = v c) := by
  have hn := hB.1.2.1
  have hnp := hB.1.2.2
  obtain ⟨a1, a2⟩ := wR_u (c0 := c0) (y := 2) h
  have hI' : pI B q c0 (upd u c0 2) v pl := fun c hc hcc hor => by
    rw [sa_un _ _ _ _ hcc] at hor
    exact hI c hc (by omega) hor
  obtain ⟨v1, pl1, vl1, cm1, X1, M1, r1, r2, r3, r4, r5, r6⟩ := out_both (q := q) (c0 := c0) hB ht hc0 (bP B) 0 sc_FU sc_FU v pl vl cm _ _ (Nat.zero_add _) (by rw [sa_FU]; omega) (by rw [sa_FU]; omega) a1 hI'
  obtain ⟨z1, z2⟩ := wR_v (c0 := c0) (y := 0) r3
  refine ⟨uN v1 c0 0, pl1, vl1, cm1, _, _, ?_, ?_, z1, pI_of r4 (by rw [sa_us]; decide) (Nat.zero_le _), gFr_trans a2 (gFr_trans (gFr_s r5) z2), ?_, fun c hc hu => by rw [uN_n _ _ _ _ hc]; exact r6 c (by rw [sa_un _ _ _ _ hc]; exact hu)⟩
  · rw [fn_X3_putOut, h.2.1.2.1, nI_add, sa_ck _ (by omega) (by omega), sa_sq, sa_cl9 (by omega)]; exact r1
  · rw [fn_X5_goesOut, sa_ck _ (by omega) (by omega), sa_sq, sa_cl9 (by omega)]; exact r2
  · simp -implicitDefEqProofs (disch := omega) only [sa_gi_s, sa_gi_n, sa_gi_j, sa_gi_A, sa_gi_B, sa_gj_s, sa_gj_n, sa_gj_i, sa_gj_A, sa_gj_B, sa_ga_s, sa_ga_n, sa_ga_i, sa_ga_j, sa_ga_B, sa_gb_s, sa_gb_n, sa_gb_i, sa_gb_j, sa_gb_A, sa_us, sa_un, sa_vs, sa_vn]
    rw [r5.1.2.2.1 16 (by decide) (by decide), r5.2.2.1 2 (by decide)]
    simp -implicitDefEqProofs (disch := omega) only [sa_gi_s, sa_gi_n, sa_gi_j, sa_gi_A, sa_gi_B, sa_gj_s, sa_gj_n, sa_gj_i, sa_gj_A, sa_gj_B, sa_ga_s, sa_ga_n, sa_ga_i, sa_ga_j, sa_ga_B, sa_gb_s, sa_gb_n, sa_gb_i, sa_gb_j, sa_gb_A, sa_us, sa_un, sa_vs, sa_vn]
    exact hl
