/-! ===== the loop of rule 3 ===== -/
theorem run_3 {B : bT} {s : Nat} (hB : bOK B) (hs1 : 1 ≤ s) (hs : s ≤ 12) : ∀ (k t fX fM el : Nat) (u : Nat → Int32) (kp : Nat → Nat) (SX SM : sc_M), t + k = 72 → t < 72 → k ≤ fX → k ≤ fM → yR B s t el u kp SX SM →
    ∃ (SX' SM' : sc_M), fn_X2_run_2 fX SX (nI t) = some SX' ∧ fn_X5_countByKeeps_2 fM SM 0 = some SM' ∧ fin B 3 SX' SM' := by
  have hn := hB.1.2.1
  have hnp := hB.1.2.2
  intro k
  induction k with
  | zero => intro t fX fM el u kp SX SM h1 h2; omega
  | succ k ih =>
    intro t fX fM el u kp SX SM htk ht hfX hfM h
    obtain ⟨fX, rfl⟩ : ∃ f', fX = f' + 1 := ⟨fX - 1, by omega⟩
    obtain ⟨fM, rfl⟩ : ∃ f', fM = f' + 1 := ⟨fM - 1, by omega⟩
    obtain ⟨⟨hX, hM⟩, ⟨g1, g2, g3, g4, g5, g6, g7, g8, g9, g10, g11⟩, ⟨k1, k2, k3, k4⟩, hu, hk, hw, hL, ho, hh, ⟨hle, hle2⟩⟩ := h
    obtain ⟨v, q, X1, M1, a1, a2, hv, hvb, hq, q17, q0, i15, ⟨⟨x1, x2, x3, x4, x5⟩, m1, m2, m3, m4⟩⟩ := share_both hB ht hs1 hs hX hM g3 g4 g5 g9 g10 hk
    obtain ⟨M2, b1, b2, b3, b4, b5, b6, b7⟩ := ka_M (k2 := fn_X5_countByKeeps_2 fM) hn ht (bN B) 0 sc_FU M1 (Nat.zero_add _) (by rw [sa_FU]; omega) (by rw [m1]; exact hM.1) (by rw [m1]; exact g11)
    have hX1 : bX B X1 := bX_f (fun k _ => x1 k) (fun k _ => x2 k) hX
    have hM2 : bM B M2 := bM_f (S := SM) (fun k _ => by rw [b2, m1]) (fun k _ => by rw [b4, m3]) hM
    have e5 : sc_gi X1 5 = nI (t + 1) := by rw [x1]; exact g9
    have HX : ∀ S, eXf t X1 S → ∀ a b, a < bN B → b < bN B → fn_X1_hasMore S (nI a) (nI b) = some (b2i (hm (fun _ c => lN (v c)) (bL B) a b 1), S) := fun S hS => hasX_3 hB ht (by rw [hS.1 2 (by decide), x1]; exact g1) (by rw [hS.1 5 (by decide)]; exact e5) (fun c hc => by rw [hS.2.1 11 (by decide) (by decide), x2]; exact hL c hc) (fun c hc => by rw [hS.2.2.1 19]; exact (hv c hc).1) hvb
    have HM : ∀ S, eMf M2 S → ∀ a b, a < bN B → b < bN B → fn_X5_hasMore S (nI a) (nI b) = some (b2i (hm (fun _ c => lN (v c)) (bL B) a b 1), S) := fun S hS => hasM_3 hB ht (bM_f (fun k hk => hS.1 k (by omega)) (fun k hk => hS.2.1 k (by omega) (by omega)) hM2) (by rw [hS.1 2 (by decide), b2, m1]; exact g2) (by rw [hS.1 6 (by decide), b2, m1]; exact g11) (fun c hc => by rw [hS.2.2.1 21, b5 21 (by decide)]; exact (hv c hc).2)
    have hE : eR (bN B) t el u (fun c => lN (v c)) X1 M2 := ⟨⟨by rw [x1]; exact g5, by rw [x1]; exact g10, by rw [x1]; exact g7, hM2.1, by rw [b2, m1]; exact g8⟩, fun c hc => ⟨by rw [x2]; exact (hu c hc).1, by rw [b4, m3]; exact (hu c hc).2⟩, fun c hc => ⟨(hv c hc).1, by rw [b5 21 (by decide)]; exact (hv c hc).2⟩, fun j hj => by rw [x2, b4, m3]; exact ho j hj⟩
    obtain ⟨over, u1, el1, X3, M3, c1, c2, ⟨⟨d1, d2, d3, d4, d5⟩, du, dv, do'⟩, cX, cM, c14, c7, c8, c9, c10, c11⟩ := se_both (v := fun c => lN (v c)) hn ht hs HX HM hle hE e5 (by rw [x1]; exact g3) (by rw [b2, m1]; exact g4) (by rw [q17, b3, q0]) (fun c hc => by
      have := hvb c hc
      rw [sa_L0, pk_lLT (by omega) (by omega)]
      omega)
    obtain ⟨y1, y2, y3, y4, y5⟩ := id cX
    obtain ⟨z1, z2, z3, z4⟩ := id cM
    have hX3 : bX B X3 := bX_f (fun k hk => y1 k (by omega)) (fun k hk => y2 k (by omega) (by omega) (by omega)) hX1
    have hM3 : bM B M3 := bM_f (fun k hk => z1 k (by omega)) (fun k hk => z2 k (by omega) (by omega)) hM2
    have hh3 : hR B 3 t X3 M3 := by
      refine hR_f hn hnp (hKX_g cX) (hKM_e cM) ?_
      refine hR_f hn hnp ⟨fun j hj => ?_, fun j hj => ?_, fun j hj => ?_⟩ ⟨fun j hj => ?_, fun j hj => ?_, fun j hj => ?_⟩ hh
      · rw [x2, x2, x2, (x4 j hj).1, (x4 j hj).2, x3 16 (by decide) (by decide) (by decide), x3 18 (by decide) (by decide) (by decide)]
        exact ⟨rfl, rfl, rfl, rfl, rfl, rfl, rfl⟩
      · rw [x5 j hj, x2, x2]
        exact ⟨rfl, rfl, rfl⟩
      · rw [x2, x2]
        exact ⟨rfl, rfl⟩
      · rw [b4, b4, b4, m3, m3, m3, b5 9 (by decide), b5 10 (by decide), b5 12 (by decide), b5 13 (by decide), m4 9 (by decide), m4 10 (by decide), m4 12 (by decide), m4 13 (by decide)]
        exact ⟨rfl, rfl, rfl, rfl, rfl, rfl, rfl⟩
      · rw [b5 14 (by decide), m4 14 (by decide), b4, m3, b6 j (by omega), m4 16 (by decide), b5 19 (by decide), m4 19 (by decide)]
        exact ⟨rfl, rfl, rfl, rfl⟩
      · rw [b4, m3, b5 18 (by decide), m4 18 (by decide)]
        exact ⟨rfl, rfl⟩
    have hw1 : ∀ c, c < bN B → bW B c ≠ 0 → u1 c = 3 := fun c hc hwc => by
      have := hw c hc hwc
      rcases c8 c hc with e | ⟨e1, e2⟩
      · rw [e]; exact this
      · rw [this] at e1; exact absurd e1 (by decide)
    have hel1 : el1 ≤ 12 := by omega
    have p2 : sc_gi X3 2 = nI 3 := by rw [y1 2 (by decide), x1]; exact g1
    have p2M : sc_gi M3 2 = nI 3 := by rw [z1 2 (by decide), b2, m1]; exact g2
    have p3 : sc_gi X3 3 = nI s := by rw [y1 3 (by decide), x1]; exact g3
    have p3M : sc_gi M3 3 = nI s := by rw [z1 3 (by decide), b2, m1]; exact g4
    have p4M : sc_gi M3 4 = nI (bN B) := by rw [z1 4 (by decide), b2, m1]; exact g6
    have p5 : sc_gi X3 5 = nI (t + 1) := by rw [y1 5 (by decide)]; exact e5
    have p6M : sc_gi M3 6 = nI t := by rw [z1 6 (by decide), b2, m1]; exact g11
    have p16 : sc_gb X3 16 t = sc_gj M3 2 := by rw [y3, x3 16 (by decide) (by decide) (by decide), z4, b3, m2 2 (by decide) (by decide)]; exact k1
    have p15 : sc_gb X3 15 t = sc_gj M3 1 := by rw [y3, z4, b3]; exact i15
    have p17 : sc_gb X3 17 t = lN q := by rw [y3]; exact q17
    have p0M : sc_gj M3 0 = lN q := by rw [z4, b3]; exact q0
    have p18 : sc_gb X3 18 t = 0 := by rw [y3, x3 18 (by decide) (by decide) (by decide)]; exact k4
    have p12 : sc_ga X3 12 t = 3 := by rw [y2 12 (by decide) (by decide) (by decide), x2]; exact k2
    have p13 : sc_ga X3 13 t = -9 := by rw [y2 13 (by decide) (by decide) (by decide), x2]; exact k3
    have p11 : ∀ c, c < bN B → sc_ga X3 11 c = bL B c := fun c hc => by rw [y2 11 (by decide) (by decide) (by decide), x2]; exact hL c hc
    have pk : kR B t kp X3 M3 := fun c hc => by
      rw [y2 21 (by decide) (by decide) (by decide), x2, z3, b5 23 (by decide), m4 23 (by decide)]
      exact hk c hc
    have pkeep : ∀ c, c < bN B → bW B c = 0 → sc_ga X3 21 (12 * t + c) = (sc_gb M3 16 (12 * t + c)).toInt32 := fun c hc hwc => by
      obtain ⟨_, q2, q3⟩ := (hk c hc).1 hwc
      rw [y2 21 (by decide) (by decide) (by decide), x2, q2, z3, b7 c (Nat.zero_le _) hc, m4 23 (by decide), q3, lN_i]
    have pw : ∀ c, c < bN B → u1 c ≠ 3 → bW B c = 0 := fun c hc h3 => by
      by_cases hwc : bW B c = 0
      · exact hwc
      · exact absurd (hw1 c hc hwc) h3
    have hE12 : fn_X5_countByKeeps_2 (fM + 1) SM 0 = fn_X5_countByKeeps_12 (fn_X5_countByKeeps_2 fM) 1 M2 (nI (bN B)) := by
      rw [fn_X5_countByKeeps_2, if_pos rfl, a2, sa_cv]; exact b1
    rw [hE12, fn_X5_countByKeeps_12, hM2.1, if_pos (nI_le (by omega) (by omega)), sa_sq, c2, sa_cl, fn_X2_run_2, if_neg (show ¬ (72 : Int32) ≤ nI t from nI_ge (b := 72) ht (by omega)), a1, sa_cv, sa_sq, c1, sa_cl]
    cases over with
    | true =>
      obtain ⟨M4, r1, r2, r3, r4⟩ := rec_hR (r := 3) (kd := 3) (wh := -9) (ex := 0) hB ht hM3 p6M hh3 ⟨p12, p13, p15, p16, by rw [c14, d5], by rw [p17, p0M], p18⟩ (fun c hc => ⟨by rw [(dv c hc).1, (dv c hc).2], by rw [(du c hc).1, (du c hc).2], by rw [(dv c hc).1]; exact vOK_N (by have := hvb c hc; omega)⟩) (fun h3 => by omega) (fun _ c hc h3 => pkeep c hc (pw c hc (by rw [← (du c hc).2]; exact h3)))
      rw [if_neg (show ¬ b2i true = 0 by decide), if_neg (show ¬ b2i true = 0 by decide), r1, sa_cv]
      refine ⟨X3, M4, rfl, rfl, t + 1, el1, ⟨by omega, by omega, fun h3 => by omega⟩, hel1, ⟨hX3, ?_⟩, ⟨p5, r4, d1, ?_, d3, ?_, p2, ?_⟩, fun h3 => by omega, fun j hj => ?_, r2⟩
      · exact bM_f (fun k hk => r3.1 k (by omega)) (fun k hk => r3.2.2.1 k (by omega) (by omega) (by omega) (by omega) (by omega)) hM3
      · rw [r3.1 4 (by decide)]; exact p4M
      · rw [r3.1 7 (by decide)]; exact d5
      · rw [r3.1 2 (by decide)]; exact p2M
      · rw [r3.2.2.1 20 (by decide) (by decide) (by decide) (by decide) (by decide)]; exact do' j hj
    | false =>
      obtain ⟨hels, cc, hcc, hccu⟩ := c9 rfl
      have ht1 : t + 1 < 72 := by
        by_cases e : t + 1 < 72
        · exact e
        · have := c10 (by omega)
          cases this
      rw [if_pos (show b2i false = 0 from rfl), if_pos (show b2i false = 0 from rfl)]
      have xX := exc_X (v := v) (u := u1) (q := q) hn ht (by omega) d1 p5 d2 p17 (fun c hc => (du c hc).1) (fun c hc => (dv c hc).1) (fun c hc => by have := hvb c hc; omega) (bN B) 0 sc_FU (Nat.zero_add _) (by rw [sa_FU]; omega)
      have xM := exc_M (v := v) (u := u1) (q := q) hn (by omega) d4 p0M (fun c hc => (du c hc).2) (fun c hc => (dv c hc).2) (fun c hc => by have := hvb c hc; omega) (bN B) 0 sc_FU (Nat.zero_add _) (by rw [sa_FU]; omega)
      have xX' : fn_X2_excessOf X3 = some (lN (exF u1 v q (bN B)), X3) := xX
      have xM' : fn_X5_excess M3 = some (lN (exF u1 v q (bN B)), M3) := xM
      generalize lN (exF u1 v q (bN B)) = e at xX' xM'
      have hel : sc_gi X1 7 = nI el := by rw [x1]; exact g7
      have hel' : sc_gi M2 7 = nI el := by rw [b2, m1]; exact g8
      have mM := mpo_M (S := M3) (t := t) (el := el) (el' := el1) (e := e) (x1 := b2i false) (k2 := fn_X5_countByKeeps_2 fM) ht (by omega) hel1 d5
      have mX := mpo_X (S := sc_mB X3 18 (vp_updL (sc_gb X3 18) t e)) (t := t) (el := el) (el' := el1) (e := e) ht p5 (by simp -implicitDefEqProofs (disch := omega) only [sa_gi_s, sa_gi_n, sa_gi_j, sa_gi_A, sa_gi_B, sa_gj_s, sa_gj_n, sa_gj_i, sa_gj_A, sa_gj_B, sa_ga_s, sa_ga_n, sa_ga_i, sa_ga_j, sa_ga_B, sa_gb_s, sa_gb_n, sa_gb_i, sa_gb_j, sa_gb_A, sa_us, sa_un, sa_vs, sa_vn])
      rw [muB_eq (k' := sc_ga M3 7 (t - 1)) (ep' := sc_gb M3 13 (t - 1)) (fun h0 => by
        obtain ⟨q1, _, _, _, _, _, q7⟩ := hh3.1 (t - 1) (by omega)
        simp -implicitDefEqProofs (disch := omega) only [sa_gi_s, sa_gi_n, sa_gi_j, sa_gi_A, sa_gi_B, sa_gj_s, sa_gj_n, sa_gj_i, sa_gj_A, sa_gj_B, sa_ga_s, sa_ga_n, sa_ga_i, sa_ga_j, sa_ga_B, sa_gb_s, sa_gb_n, sa_gb_i, sa_gb_j, sa_gb_A, sa_us, sa_un, sa_vs, sa_vn]
        exact ⟨q1, q7⟩)] at mX
      rw [xM', sa_cl, sa_sq, p6M, hel', mM, xX', sa_cl, sa_ck _ (by omega) (by omega), sa_sq, sa_cl9 (by omega), hel, sa_gi_B, d3]
      have eX49 : (if nI el1 ≤ nI el then fn_X2_run_49 (fn_X2_run_2 fX) (sc_mB X3 18 (vp_updL (sc_gb X3 18) t e)) (nI t) 0 else fn_X2_run_49 (fn_X2_run_2 fX) (sc_mB X3 18 (vp_updL (sc_gb X3 18) t e)) (nI t) 1) = fn_X2_run_49 (fn_X2_run_2 fX) (sc_mB X3 18 (vp_updL (sc_gb X3 18) t e)) (nI t) (if el1 = el then 0 else 1) := by
        by_cases h0 : el1 = el
        · rw [if_pos (nI_le (by omega) (by omega)), if_pos h0]
        · rw [if_neg (nI_ge (by omega) (by omega)), if_neg h0]
      rw [eX49, fn_X2_run_49, mX, sa_cl]
      have vOKr : ∀ c, c < bN B → vOK (sc_gb X3 19 (12 * t + c)) := fun c hc => by rw [(dv c hc).1]; exact vOK_N (by have := hvb c hc; omega)
      by_cases hmu : muB t el el1 e (sc_ga M3 7 (t - 1)) (sc_gb M3 13 (t - 1)) = true
      · rw [hmu, if_neg (show ¬ b2i true = 0 by decide), if_pos rfl]
        have HX4 := hasX_3 (v := v) (S := sc_mB X3 18 (vp_updL (sc_gb X3 18) t e)) hB ht p2 p5 p11 (fun c hc => by simp -implicitDefEqProofs (disch := omega) only [sa_gi_s, sa_gi_n, sa_gi_j, sa_gi_A, sa_gi_B, sa_gj_s, sa_gj_n, sa_gj_i, sa_gj_A, sa_gj_B, sa_ga_s, sa_ga_n, sa_ga_i, sa_ga_j, sa_ga_B, sa_gb_s, sa_gb_n, sa_gb_i, sa_gb_j, sa_gb_A, sa_us, sa_un, sa_vs, sa_vn]; exact (dv c hc).1) hvb
        have HM4 := hasM_3 (v := v) (S := M3) hB ht hM3 p2M p6M (fun c hc => (dv c hc).2)
        have oX' := poorX_r (S := sc_mB X3 18 (vp_updL (sc_gb X3 18) t e)) (u := u1) hn d1 d2 (by omega) (fun c hc => (du c hc).1) HX4
        have oM' := fewM_r (S := M3) (u := u1) hn d4 (fun c hc => (du c hc).2) HM4
        obtain ⟨b, hpb⟩ := pick_ex (fun c => decide (u1 c = 0)) (fun a b => hm (fun _ c => lN (v c)) (bL B) b a 1) hcc (by simp [hccu])
        obtain ⟨hb, hfit⟩ := pick_lt _ _ _ _ hpb
        simp only [decide_eq_true_eq] at hfit
        rw [hpb] at oX' oM'
        have hwb : bW B b = 0 := pw b hb (by rw [hfit]; decide)
        have hdrop : hpN (upd u1 b 2) (bN B) + 1 ≤ hpN u1 (bN B) := hp_drop hb hfit (by decide)
        have hM4 : bM B (sc_mA M3 22 (upd (sc_ga M3 22) b 2)) := bM_f (fun k hk => by simp -implicitDefEqProofs (disch := omega) only [sa_gi_s, sa_gi_n, sa_gi_j, sa_gi_A, sa_gi_B, sa_gj_s, sa_gj_n, sa_gj_i, sa_gj_A, sa_gj_B, sa_ga_s, sa_ga_n, sa_ga_i, sa_ga_j, sa_ga_B, sa_gb_s, sa_gb_n, sa_gb_i, sa_gb_j, sa_gb_A, sa_us, sa_un, sa_vs, sa_vn]) (fun k hk => by simp -implicitDefEqProofs (disch := omega) only [sa_gi_s, sa_gi_n, sa_gi_j, sa_gi_A, sa_gi_B, sa_gj_s, sa_gj_n, sa_gj_i, sa_gj_A, sa_gj_B, sa_ga_s, sa_ga_n, sa_ga_i, sa_ga_j, sa_ga_B, sa_gb_s, sa_gb_n, sa_gb_i, sa_gb_j, sa_gb_A, sa_us, sa_un, sa_vs, sa_vn]) hM3
        have hX5 : bX B (sc_mA (sc_mA (sc_mA (sc_mB X3 18 (vp_updL (sc_gb X3 18) t e)) 12 (upd (sc_ga X3 12) t 4)) 13 (upd (sc_ga X3 13) t (nI b))) 20 (upd (sc_ga X3 20) (12 * t + b) 2)) := bX_f (fun k hk => by simp -implicitDefEqProofs (disch := omega) only [sa_gi_s, sa_gi_n, sa_gi_j, sa_gi_A, sa_gi_B, sa_gj_s, sa_gj_n, sa_gj_i, sa_gj_A, sa_gj_B, sa_ga_s, sa_ga_n, sa_ga_i, sa_ga_j, sa_ga_B, sa_gb_s, sa_gb_n, sa_gb_i, sa_gb_j, sa_gb_A, sa_us, sa_un, sa_vs, sa_vn]) (fun k hk => by simp -implicitDefEqProofs (disch := omega) only [sa_gi_s, sa_gi_n, sa_gi_j, sa_gi_A, sa_gi_B, sa_gj_s, sa_gj_n, sa_gj_i, sa_gj_A, sa_gj_B, sa_ga_s, sa_ga_n, sa_ga_i, sa_ga_j, sa_ga_B, sa_gb_s, sa_gb_n, sa_gb_i, sa_gb_j, sa_gb_A, sa_us, sa_un, sa_vs, sa_vn]) hX3
        have hh5 : hR B 3 t (sc_mA (sc_mA (sc_mA (sc_mB X3 18 (vp_updL (sc_gb X3 18) t e)) 12 (upd (sc_ga X3 12) t 4)) 13 (upd (sc_ga X3 13) t (nI b))) 20 (upd (sc_ga X3 20) (12 * t + b) 2)) (sc_mA M3 22 (upd (sc_ga M3 22) b 2)) := by
          refine hR_f hn hnp ⟨fun j hj => ?_, fun j hj => ?_, fun j hj => ?_⟩ (hKM_rows (fun k k1 k2 => by simp -implicitDefEqProofs (disch := omega) only [sa_gi_s, sa_gi_n, sa_gi_j, sa_gi_A, sa_gi_B, sa_gj_s, sa_gj_n, sa_gj_i, sa_gj_A, sa_gj_B, sa_ga_s, sa_ga_n, sa_ga_i, sa_ga_j, sa_ga_B, sa_gb_s, sa_gb_n, sa_gb_i, sa_gb_j, sa_gb_A, sa_us, sa_un, sa_vs, sa_vn]) (fun k k1 k2 => by simp -implicitDefEqProofs (disch := omega) only [sa_gi_s, sa_gi_n, sa_gi_j, sa_gi_A, sa_gi_B, sa_gj_s, sa_gj_n, sa_gj_i, sa_gj_A, sa_gj_B, sa_ga_s, sa_ga_n, sa_ga_i, sa_ga_j, sa_ga_B, sa_gb_s, sa_gb_n, sa_gb_i, sa_gb_j, sa_gb_A, sa_us, sa_un, sa_vs, sa_vn])) hh3
          · simp -implicitDefEqProofs (disch := omega) only [sa_gi_s, sa_gi_n, sa_gi_j, sa_gi_A, sa_gi_B, sa_gj_s, sa_gj_n, sa_gj_i, sa_gj_A, sa_gj_B, sa_ga_s, sa_ga_n, sa_ga_i, sa_ga_j, sa_ga_B, sa_gb_s, sa_gb_n, sa_gb_i, sa_gb_j, sa_gb_A, sa_us, sa_un, sa_vs, sa_vn]; exact ⟨trivial, trivial, trivial, trivial, trivial, trivial, trivial⟩
          · simp -implicitDefEqProofs (disch := omega) only [sa_gi_s, sa_gi_n, sa_gi_j, sa_gi_A, sa_gi_B, sa_gj_s, sa_gj_n, sa_gj_i, sa_gj_A, sa_gj_B, sa_ga_s, sa_ga_n, sa_ga_i, sa_ga_j, sa_ga_B, sa_gb_s, sa_gb_n, sa_gb_i, sa_gb_j, sa_gb_A, sa_us, sa_un, sa_vs, sa_vn]; exact ⟨trivial, trivial, trivial⟩
          · simp -implicitDefEqProofs (disch := omega) only [sa_gi_s, sa_gi_n, sa_gi_j, sa_gi_A, sa_gi_B, sa_gj_s, sa_gj_n, sa_gj_i, sa_gj_A, sa_gj_B, sa_ga_s, sa_ga_n, sa_ga_i, sa_ga_j, sa_ga_B, sa_gb_s, sa_gb_n, sa_gb_i, sa_gb_j, sa_gb_A, sa_us, sa_un, sa_vs, sa_vn]; exact ⟨trivial, trivial⟩
        have hu5 : ∀ c, c < bN B → sc_ga (sc_mA (sc_mA (sc_mA (sc_mB X3 18 (vp_updL (sc_gb X3 18) t e)) 12 (upd (sc_ga X3 12) t 4)) 13 (upd (sc_ga X3 13) t (nI b))) 20 (upd (sc_ga X3 20) (12 * t + b) 2)) 20 (12 * t + c) = upd u1 b 2 c ∧ sc_ga (sc_mA M3 22 (upd (sc_ga M3 22) b 2)) 22 c = upd u1 b 2 c := fun c hc => by
          by_cases hcb : c = b
          · rw [hcb, sa_us]; simp -implicitDefEqProofs (disch := omega) only [sa_gi_s, sa_gi_n, sa_gi_j, sa_gi_A, sa_gi_B, sa_gj_s, sa_gj_n, sa_gj_i, sa_gj_A, sa_gj_B, sa_ga_s, sa_ga_n, sa_ga_i, sa_ga_j, sa_ga_B, sa_gb_s, sa_gb_n, sa_gb_i, sa_gb_j, sa_gb_A, sa_us, sa_un, sa_vs, sa_vn]; exact ⟨trivial, trivial⟩
          · rw [sa_un _ _ _ _ hcb]; simp -implicitDefEqProofs (disch := omega) only [sa_gi_s, sa_gi_n, sa_gi_j, sa_gi_A, sa_gi_B, sa_gj_s, sa_gj_n, sa_gj_i, sa_gj_A, sa_gj_B, sa_ga_s, sa_ga_n, sa_ga_i, sa_ga_j, sa_ga_B, sa_gb_s, sa_gb_n, sa_gb_i, sa_gb_j, sa_gb_A, sa_us, sa_un, sa_vs, sa_vn]; exact du c hc
        obtain ⟨M5, r1, r2, r3, r4⟩ := rec_hR (r := 3) (kd := 4) (wh := nI b) (ex := e) hB ht hM4 p6M hh5 ⟨by simp -implicitDefEqProofs (disch := omega) only [sa_gi_s, sa_gi_n, sa_gi_j, sa_gi_A, sa_gi_B, sa_gj_s, sa_gj_n, sa_gj_i, sa_gj_A, sa_gj_B, sa_ga_s, sa_ga_n, sa_ga_i, sa_ga_j, sa_ga_B, sa_gb_s, sa_gb_n, sa_gb_i, sa_gb_j, sa_gb_A, sa_us, sa_un, sa_vs, sa_vn], by simp -implicitDefEqProofs (disch := omega) only [sa_gi_s, sa_gi_n, sa_gi_j, sa_gi_A, sa_gi_B, sa_gj_s, sa_gj_n, sa_gj_i, sa_gj_A, sa_gj_B, sa_ga_s, sa_ga_n, sa_ga_i, sa_ga_j, sa_ga_B, sa_gb_s, sa_gb_n, sa_gb_i, sa_gb_j, sa_gb_A, sa_us, sa_un, sa_vs, sa_vn], by simp -implicitDefEqProofs (disch := omega) only [sa_gi_s, sa_gi_n, sa_gi_j, sa_gi_A, sa_gi_B, sa_gj_s, sa_gj_n, sa_gj_i, sa_gj_A, sa_gj_B, sa_ga_s, sa_ga_n, sa_ga_i, sa_ga_j, sa_ga_B, sa_gb_s, sa_gb_n, sa_gb_i, sa_gb_j, sa_gb_A, sa_us, sa_un, sa_vs, sa_vn]; exact p15, by simp -implicitDefEqProofs (disch := omega) only [sa_gi_s, sa_gi_n, sa_gi_j, sa_gi_A, sa_gi_B, sa_gj_s, sa_gj_n, sa_gj_i, sa_gj_A, sa_gj_B, sa_ga_s, sa_ga_n, sa_ga_i, sa_ga_j, sa_ga_B, sa_gb_s, sa_gb_n, sa_gb_i, sa_gb_j, sa_gb_A, sa_us, sa_un, sa_vs, sa_vn]; exact p16, by simp -implicitDefEqProofs (disch := omega) only [sa_gi_s, sa_gi_n, sa_gi_j, sa_gi_A, sa_gi_B, sa_gj_s, sa_gj_n, sa_gj_i, sa_gj_A, sa_gj_B, sa_ga_s, sa_ga_n, sa_ga_i, sa_ga_j, sa_ga_B, sa_gb_s, sa_gb_n, sa_gb_i, sa_gb_j, sa_gb_A, sa_us, sa_un, sa_vs, sa_vn]; rw [c14, d5], by simp -implicitDefEqProofs (disch := omega) only [sa_gi_s, sa_gi_n, sa_gi_j, sa_gi_A, sa_gi_B, sa_gj_s, sa_gj_n, sa_gj_i, sa_gj_A, sa_gj_B, sa_ga_s, sa_ga_n, sa_ga_i, sa_ga_j, sa_ga_B, sa_gb_s, sa_gb_n, sa_gb_i, sa_gb_j, sa_gb_A, sa_us, sa_un, sa_vs, sa_vn]; rw [p17, p0M], by simp -implicitDefEqProofs (disch := omega) only [sa_gi_s, sa_gi_n, sa_gi_j, sa_gi_A, sa_gi_B, sa_gj_s, sa_gj_n, sa_gj_i, sa_gj_A, sa_gj_B, sa_ga_s, sa_ga_n, sa_ga_i, sa_ga_j, sa_ga_B, sa_gb_s, sa_gb_n, sa_gb_i, sa_gb_j, sa_gb_A, sa_us, sa_un, sa_vs, sa_vn]⟩ (fun c hc => ⟨by simp -implicitDefEqProofs (disch := omega) only [sa_gi_s, sa_gi_n, sa_gi_j, sa_gi_A, sa_gi_B, sa_gj_s, sa_gj_n, sa_gj_i, sa_gj_A, sa_gj_B, sa_ga_s, sa_ga_n, sa_ga_i, sa_ga_j, sa_ga_B, sa_gb_s, sa_gb_n, sa_gb_i, sa_gb_j, sa_gb_A, sa_us, sa_un, sa_vs, sa_vn]; rw [(dv c hc).1, (dv c hc).2], by rw [(hu5 c hc).1, (hu5 c hc).2], by simp -implicitDefEqProofs (disch := omega) only [sa_gi_s, sa_gi_n, sa_gi_j, sa_gi_A, sa_gi_B, sa_gj_s, sa_gj_n, sa_gj_i, sa_gj_A, sa_gj_B, sa_ga_s, sa_ga_n, sa_ga_i, sa_ga_j, sa_ga_B, sa_gb_s, sa_gb_n, sa_gb_i, sa_gb_j, sa_gb_A, sa_us, sa_un, sa_vs, sa_vn]; exact vOKr c hc⟩) (fun h3 => by omega) (fun _ c hc h3 => by
          rw [(hu5 c hc).2] at h3
          simp -implicitDefEqProofs (disch := omega) only [sa_gi_s, sa_gi_n, sa_gi_j, sa_gi_A, sa_gi_B, sa_gj_s, sa_gj_n, sa_gj_i, sa_gj_A, sa_gj_B, sa_ga_s, sa_ga_n, sa_ga_i, sa_ga_j, sa_ga_B, sa_gb_s, sa_gb_n, sa_gb_i, sa_gb_j, sa_gb_A, sa_us, sa_un, sa_vs, sa_vn]
          refine pkeep c hc ?_
          by_cases hcb : c = b
          · rw [hcb]; exact hwb
          · rw [sa_un _ _ _ _ hcb] at h3; exact pw c hc h3)
        have hyT : yR B s (t + 1) el1 (upd u1 b 2) kp (tnX (bN B) t 3 (-9) (sc_mA (sc_mA (sc_mA (sc_mB X3 18 (vp_updL (sc_gb X3 18) t e)) 12 (upd (sc_ga X3 12) t 4)) 13 (upd (sc_ga X3 13) t (nI b))) 20 (upd (sc_ga X3 20) (12 * t + b) 2))) M5 := by
          refine yR_turn hB hX5 (bM_f (fun k hk => r3.1 k (by omega)) (fun k hk => r3.2.2.1 k (by omega) (by omega) (by omega) (by omega) (by omega)) hM4) ⟨?_, ?_, ?_, ?_, ?_, ?_, ?_, ?_, r4⟩ ?_ (fun c hc => ⟨(hu5 c hc).1, ?_⟩) (fun c hc => ?_) (fun c hc hwc => ?_) (fun c hc => ?_) (fun j hj => ?_) r2 ⟨by omega, by omega⟩
          · simp -implicitDefEqProofs (disch := omega) only [sa_gi_s, sa_gi_n, sa_gi_j, sa_gi_A, sa_gi_B, sa_gj_s, sa_gj_n, sa_gj_i, sa_gj_A, sa_gj_B, sa_ga_s, sa_ga_n, sa_ga_i, sa_ga_j, sa_ga_B, sa_gb_s, sa_gb_n, sa_gb_i, sa_gb_j, sa_gb_A, sa_us, sa_un, sa_vs, sa_vn]; exact p2
          · rw [r3.1 2 (by decide)]; simp -implicitDefEqProofs (disch := omega) only [sa_gi_s, sa_gi_n, sa_gi_j, sa_gi_A, sa_gi_B, sa_gj_s, sa_gj_n, sa_gj_i, sa_gj_A, sa_gj_B, sa_ga_s, sa_ga_n, sa_ga_i, sa_ga_j, sa_ga_B, sa_gb_s, sa_gb_n, sa_gb_i, sa_gb_j, sa_gb_A, sa_us, sa_un, sa_vs, sa_vn]; exact p2M
          · simp -implicitDefEqProofs (disch := omega) only [sa_gi_s, sa_gi_n, sa_gi_j, sa_gi_A, sa_gi_B, sa_gj_s, sa_gj_n, sa_gj_i, sa_gj_A, sa_gj_B, sa_ga_s, sa_ga_n, sa_ga_i, sa_ga_j, sa_ga_B, sa_gb_s, sa_gb_n, sa_gb_i, sa_gb_j, sa_gb_A, sa_us, sa_un, sa_vs, sa_vn]; exact p3
          · rw [r3.1 3 (by decide)]; simp -implicitDefEqProofs (disch := omega) only [sa_gi_s, sa_gi_n, sa_gi_j, sa_gi_A, sa_gi_B, sa_gj_s, sa_gj_n, sa_gj_i, sa_gj_A, sa_gj_B, sa_ga_s, sa_ga_n, sa_ga_i, sa_ga_j, sa_ga_B, sa_gb_s, sa_gb_n, sa_gb_i, sa_gb_j, sa_gb_A, sa_us, sa_un, sa_vs, sa_vn]; exact p3M
          · simp -implicitDefEqProofs (disch := omega) only [sa_gi_s, sa_gi_n, sa_gi_j, sa_gi_A, sa_gi_B, sa_gj_s, sa_gj_n, sa_gj_i, sa_gj_A, sa_gj_B, sa_ga_s, sa_ga_n, sa_ga_i, sa_ga_j, sa_ga_B, sa_gb_s, sa_gb_n, sa_gb_i, sa_gb_j, sa_gb_A, sa_us, sa_un, sa_vs, sa_vn]; exact d1
          · rw [r3.1 4 (by decide)]; simp -implicitDefEqProofs (disch := omega) only [sa_gi_s, sa_gi_n, sa_gi_j, sa_gi_A, sa_gi_B, sa_gj_s, sa_gj_n, sa_gj_i, sa_gj_A, sa_gj_B, sa_ga_s, sa_ga_n, sa_ga_i, sa_ga_j, sa_ga_B, sa_gb_s, sa_gb_n, sa_gb_i, sa_gb_j, sa_gb_A, sa_us, sa_un, sa_vs, sa_vn]; exact p4M
          · simp -implicitDefEqProofs (disch := omega) only [sa_gi_s, sa_gi_n, sa_gi_j, sa_gi_A, sa_gi_B, sa_gj_s, sa_gj_n, sa_gj_i, sa_gj_A, sa_gj_B, sa_ga_s, sa_ga_n, sa_ga_i, sa_ga_j, sa_ga_B, sa_gb_s, sa_gb_n, sa_gb_i, sa_gb_j, sa_gb_A, sa_us, sa_un, sa_vs, sa_vn]; exact d3
          · rw [r3.1 7 (by decide)]; simp -implicitDefEqProofs (disch := omega) only [sa_gi_s, sa_gi_n, sa_gi_j, sa_gi_A, sa_gi_B, sa_gj_s, sa_gj_n, sa_gj_i, sa_gj_A, sa_gj_B, sa_ga_s, sa_ga_n, sa_ga_i, sa_ga_j, sa_ga_B, sa_gb_s, sa_gb_n, sa_gb_i, sa_gb_j, sa_gb_A, sa_us, sa_un, sa_vs, sa_vn]; exact d5
          · rw [r3.2.1]; simp -implicitDefEqProofs (disch := omega) only [sa_gi_s, sa_gi_n, sa_gi_j, sa_gi_A, sa_gi_B, sa_gj_s, sa_gj_n, sa_gj_i, sa_gj_A, sa_gj_B, sa_ga_s, sa_ga_n, sa_ga_i, sa_ga_j, sa_ga_B, sa_gb_s, sa_gb_n, sa_gb_i, sa_gb_j, sa_gb_A, sa_us, sa_un, sa_vs, sa_vn]; exact p16
          · rw [r3.2.2.1 22 (by decide) (by decide) (by decide) (by decide) (by decide)]; exact (hu5 c hc).2
          · rw [r3.2.2.2.1 23 (by decide) (by decide) (by decide) (by decide) (by decide) (by decide) (by decide)]; simp -implicitDefEqProofs (disch := omega) only [sa_gi_s, sa_gi_n, sa_gi_j, sa_gi_A, sa_gi_B, sa_gj_s, sa_gj_n, sa_gj_i, sa_gj_A, sa_gj_B, sa_ga_s, sa_ga_n, sa_ga_i, sa_ga_j, sa_ga_B, sa_gb_s, sa_gb_n, sa_gb_i, sa_gb_j, sa_gb_A, sa_us, sa_un, sa_vs, sa_vn]; exact pk c hc
          · have h3 := hw1 c hc hwc
            rw [sa_un _ _ _ _ (fun hcb => by rw [hcb, hfit] at h3; exact absurd h3 (by decide))]; exact h3
          · simp -implicitDefEqProofs (disch := omega) only [sa_gi_s, sa_gi_n, sa_gi_j, sa_gi_A, sa_gi_B, sa_gj_s, sa_gj_n, sa_gj_i, sa_gj_A, sa_gj_B, sa_ga_s, sa_ga_n, sa_ga_i, sa_ga_j, sa_ga_B, sa_gb_s, sa_gb_n, sa_gb_i, sa_gb_j, sa_gb_A, sa_us, sa_un, sa_vs, sa_vn]; exact p11 c hc
          · rw [r3.2.2.1 20 (by decide) (by decide) (by decide) (by decide) (by decide)]; simp -implicitDefEqProofs (disch := omega) only [sa_gi_s, sa_gi_n, sa_gi_j, sa_gi_A, sa_gi_B, sa_gj_s, sa_gj_n, sa_gj_i, sa_gj_A, sa_gj_B, sa_ga_s, sa_ga_n, sa_ga_i, sa_ga_j, sa_ga_B, sa_gb_s, sa_gb_n, sa_gb_i, sa_gb_j, sa_gb_A, sa_us, sa_un, sa_vs, sa_vn]; exact do' j hj
        obtain ⟨w1, w2⟩ := kR_set (c0 := b) (y := 0) (Nat.zero_le _) hwb hyT.2.2.2.2.1
        have hy1 := yR_c hB hyT w2 w1
        obtain ⟨X9, M9, s1, s2, s3⟩ := ih (t + 1) fX fM el1 _ _ _ _ (by omega) ht1 (by omega) (by omega) hy1
        refine ⟨X9, M9, ?_, ?_, s3⟩
        · rw [oX', sa_cl, show oX (some b) = nI b from rfl, fn_X2_run_69, if_neg (n_ne9 (by omega))]
          simp -implicitDefEqProofs (disch := omega) only [sa_ck, sa_sq, sa_cl9, sa_gi_s, sa_gi_n, sa_gi_j, sa_gi_A, sa_gi_B, sa_gj_s, sa_gj_n, sa_gj_i, sa_gj_A, sa_gj_B, sa_ga_s, sa_ga_n, sa_ga_i, sa_ga_j, sa_ga_B, sa_gb_s, sa_gb_n, sa_gb_i, sa_gb_j, sa_gb_A, sa_us, sa_un, sa_vs, sa_vn, d2, nI_add]
          rw [fn_X2_run_106, turn_X hn ht1 (by simp -implicitDefEqProofs (disch := omega) only [sa_gi_s, sa_gi_n, sa_gi_j, sa_gi_A, sa_gi_B, sa_gj_s, sa_gj_n, sa_gj_i, sa_gj_A, sa_gj_B, sa_ga_s, sa_ga_n, sa_ga_i, sa_ga_j, sa_ga_B, sa_gb_s, sa_gb_n, sa_gb_i, sa_gb_j, sa_gb_A, sa_us, sa_un, sa_vs, sa_vn]; exact d1) (by simp -implicitDefEqProofs (disch := omega) only [sa_gi_s, sa_gi_n, sa_gi_j, sa_gi_A, sa_gi_B, sa_gj_s, sa_gj_n, sa_gj_i, sa_gj_A, sa_gj_B, sa_ga_s, sa_ga_n, sa_ga_i, sa_ga_j, sa_ga_B, sa_gb_s, sa_gb_n, sa_gb_i, sa_gb_j, sa_gb_A, sa_us, sa_un, sa_vs, sa_vn]; exact p5), sa_cl, if_neg (by decide), fn_X2_changeKeeps, if_neg (n_ne9 (by omega)), (tn_at (n := bN B) (t := t)).1.2.1, nI_add, sa_ck _ (by omega) (by omega), sa_sq, sa_cl9 (by omega), sa_cv, nI_1]
          exact s1
        · rw [fn_X5_countByKeeps_147, oM', sa_cl, show oM (some b) = nI b from rfl, sa_ck _ (by omega) (by omega), sa_sq, sa_cl9 (by omega), r1, sa_cv, sa_ck _ (by omega) (by omega), sa_sq]
          exact s2
      · have hmu' : muB t el el1 e (sc_ga M3 7 (t - 1)) (sc_gb M3 13 (t - 1)) = false := by simpa using hmu
        have ht60 : t < 60 := by
          unfold muB at hmu'
          simp only [Bool.or_eq_false_iff, decide_eq_false_iff_not] at hmu'
          omega
        rw [hmu', if_pos (show b2i false = 0 from rfl), if_neg (by decide)]
        have hX5 : bX B (sc_mB X3 18 (vp_updL (sc_gb X3 18) t e)) := bX_f (fun k hk => by simp -implicitDefEqProofs (disch := omega) only [sa_gi_s, sa_gi_n, sa_gi_j, sa_gi_A, sa_gi_B, sa_gj_s, sa_gj_n, sa_gj_i, sa_gj_A, sa_gj_B, sa_ga_s, sa_ga_n, sa_ga_i, sa_ga_j, sa_ga_B, sa_gb_s, sa_gb_n, sa_gb_i, sa_gb_j, sa_gb_A, sa_us, sa_un, sa_vs, sa_vn]) (fun k hk => by simp -implicitDefEqProofs (disch := omega) only [sa_gi_s, sa_gi_n, sa_gi_j, sa_gi_A, sa_gi_B, sa_gj_s, sa_gj_n, sa_gj_i, sa_gj_A, sa_gj_B, sa_ga_s, sa_ga_n, sa_ga_i, sa_ga_j, sa_ga_B, sa_gb_s, sa_gb_n, sa_gb_i, sa_gb_j, sa_gb_A, sa_us, sa_un, sa_vs, sa_vn]) hX3
        have hh5 : hR B 3 t (sc_mB X3 18 (vp_updL (sc_gb X3 18) t e)) M3 := by
          refine hR_f hn hnp ⟨fun j hj => ?_, fun j hj => ?_, fun j hj => ?_⟩ (hKM_rfl _ _) hh3
          · simp -implicitDefEqProofs (disch := omega) only [sa_gi_s, sa_gi_n, sa_gi_j, sa_gi_A, sa_gi_B, sa_gj_s, sa_gj_n, sa_gj_i, sa_gj_A, sa_gj_B, sa_ga_s, sa_ga_n, sa_ga_i, sa_ga_j, sa_ga_B, sa_gb_s, sa_gb_n, sa_gb_i, sa_gb_j, sa_gb_A, sa_us, sa_un, sa_vs, sa_vn]; exact ⟨trivial, trivial, trivial, trivial, trivial, trivial, trivial⟩
          · simp -implicitDefEqProofs (disch := omega) only [sa_gi_s, sa_gi_n, sa_gi_j, sa_gi_A, sa_gi_B, sa_gj_s, sa_gj_n, sa_gj_i, sa_gj_A, sa_gj_B, sa_ga_s, sa_ga_n, sa_ga_i, sa_ga_j, sa_ga_B, sa_gb_s, sa_gb_n, sa_gb_i, sa_gb_j, sa_gb_A, sa_us, sa_un, sa_vs, sa_vn]; exact ⟨trivial, trivial, trivial⟩
          · simp -implicitDefEqProofs (disch := omega) only [sa_gi_s, sa_gi_n, sa_gi_j, sa_gi_A, sa_gi_B, sa_gj_s, sa_gj_n, sa_gj_i, sa_gj_A, sa_gj_B, sa_ga_s, sa_ga_n, sa_ga_i, sa_ga_j, sa_ga_B, sa_gb_s, sa_gb_n, sa_gb_i, sa_gb_j, sa_gb_A, sa_us, sa_un, sa_vs, sa_vn]; exact ⟨trivial, trivial⟩
        obtain ⟨M5, r1, r2, r3, r4⟩ := rec_hR (r := 3) (kd := 3) (wh := -9) (ex := e) hB ht hM3 p6M hh5 ⟨by simp -implicitDefEqProofs (disch := omega) only [sa_gi_s, sa_gi_n, sa_gi_j, sa_gi_A, sa_gi_B, sa_gj_s, sa_gj_n, sa_gj_i, sa_gj_A, sa_gj_B, sa_ga_s, sa_ga_n, sa_ga_i, sa_ga_j, sa_ga_B, sa_gb_s, sa_gb_n, sa_gb_i, sa_gb_j, sa_gb_A, sa_us, sa_un, sa_vs, sa_vn]; exact p12, by simp -implicitDefEqProofs (disch := omega) only [sa_gi_s, sa_gi_n, sa_gi_j, sa_gi_A, sa_gi_B, sa_gj_s, sa_gj_n, sa_gj_i, sa_gj_A, sa_gj_B, sa_ga_s, sa_ga_n, sa_ga_i, sa_ga_j, sa_ga_B, sa_gb_s, sa_gb_n, sa_gb_i, sa_gb_j, sa_gb_A, sa_us, sa_un, sa_vs, sa_vn]; exact p13, by simp -implicitDefEqProofs (disch := omega) only [sa_gi_s, sa_gi_n, sa_gi_j, sa_gi_A, sa_gi_B, sa_gj_s, sa_gj_n, sa_gj_i, sa_gj_A, sa_gj_B, sa_ga_s, sa_ga_n, sa_ga_i, sa_ga_j, sa_ga_B, sa_gb_s, sa_gb_n, sa_gb_i, sa_gb_j, sa_gb_A, sa_us, sa_un, sa_vs, sa_vn]; exact p15, by simp -implicitDefEqProofs (disch := omega) only [sa_gi_s, sa_gi_n, sa_gi_j, sa_gi_A, sa_gi_B, sa_gj_s, sa_gj_n, sa_gj_i, sa_gj_A, sa_gj_B, sa_ga_s, sa_ga_n, sa_ga_i, sa_ga_j, sa_ga_B, sa_gb_s, sa_gb_n, sa_gb_i, sa_gb_j, sa_gb_A, sa_us, sa_un, sa_vs, sa_vn]; exact p16, by simp -implicitDefEqProofs (disch := omega) only [sa_gi_s, sa_gi_n, sa_gi_j, sa_gi_A, sa_gi_B, sa_gj_s, sa_gj_n, sa_gj_i, sa_gj_A, sa_gj_B, sa_ga_s, sa_ga_n, sa_ga_i, sa_ga_j, sa_ga_B, sa_gb_s, sa_gb_n, sa_gb_i, sa_gb_j, sa_gb_A, sa_us, sa_un, sa_vs, sa_vn]; rw [c14, d5], by simp -implicitDefEqProofs (disch := omega) only [sa_gi_s, sa_gi_n, sa_gi_j, sa_gi_A, sa_gi_B, sa_gj_s, sa_gj_n, sa_gj_i, sa_gj_A, sa_gj_B, sa_ga_s, sa_ga_n, sa_ga_i, sa_ga_j, sa_ga_B, sa_gb_s, sa_gb_n, sa_gb_i, sa_gb_j, sa_gb_A, sa_us, sa_un, sa_vs, sa_vn]; rw [p17, p0M], by simp -implicitDefEqProofs (disch := omega) only [sa_gi_s, sa_gi_n, sa_gi_j, sa_gi_A, sa_gi_B, sa_gj_s, sa_gj_n, sa_gj_i, sa_gj_A, sa_gj_B, sa_ga_s, sa_ga_n, sa_ga_i, sa_ga_j, sa_ga_B, sa_gb_s, sa_gb_n, sa_gb_i, sa_gb_j, sa_gb_A, sa_us, sa_un, sa_vs, sa_vn]⟩ (fun c hc => ⟨by simp -implicitDefEqProofs (disch := omega) only [sa_gi_s, sa_gi_n, sa_gi_j, sa_gi_A, sa_gi_B, sa_gj_s, sa_gj_n, sa_gj_i, sa_gj_A, sa_gj_B, sa_ga_s, sa_ga_n, sa_ga_i, sa_ga_j, sa_ga_B, sa_gb_s, sa_gb_n, sa_gb_i, sa_gb_j, sa_gb_A, sa_us, sa_un, sa_vs, sa_vn]; rw [(dv c hc).1, (dv c hc).2], by simp -implicitDefEqProofs (disch := omega) only [sa_gi_s, sa_gi_n, sa_gi_j, sa_gi_A, sa_gi_B, sa_gj_s, sa_gj_n, sa_gj_i, sa_gj_A, sa_gj_B, sa_ga_s, sa_ga_n, sa_ga_i, sa_ga_j, sa_ga_B, sa_gb_s, sa_gb_n, sa_gb_i, sa_gb_j, sa_gb_A, sa_us, sa_un, sa_vs, sa_vn]; rw [(du c hc).1, (du c hc).2], by simp -implicitDefEqProofs (disch := omega) only [sa_gi_s, sa_gi_n, sa_gi_j, sa_gi_A, sa_gi_B, sa_gj_s, sa_gj_n, sa_gj_i, sa_gj_A, sa_gj_B, sa_ga_s, sa_ga_n, sa_ga_i, sa_ga_j, sa_ga_B, sa_gb_s, sa_gb_n, sa_gb_i, sa_gb_j, sa_gb_A, sa_us, sa_un, sa_vs, sa_vn]; exact vOKr c hc⟩) (fun h3 => by omega) (fun _ c hc h3 => by
          simp -implicitDefEqProofs (disch := omega) only [sa_gi_s, sa_gi_n, sa_gi_j, sa_gi_A, sa_gi_B, sa_gj_s, sa_gj_n, sa_gj_i, sa_gj_A, sa_gj_B, sa_ga_s, sa_ga_n, sa_ga_i, sa_ga_j, sa_ga_B, sa_gb_s, sa_gb_n, sa_gb_i, sa_gb_j, sa_gb_A, sa_us, sa_un, sa_vs, sa_vn]
          exact pkeep c hc (pw c hc (by rw [← (du c hc).2]; exact h3)))
        have hyT : yR B s (t + 1) el1 u1 kp (tnX (bN B) t 3 (-9) (sc_mB X3 18 (vp_updL (sc_gb X3 18) t e))) M5 := by
          refine yR_turn hB hX5 (bM_f (fun k hk => r3.1 k (by omega)) (fun k hk => r3.2.2.1 k (by omega) (by omega) (by omega) (by omega) (by omega)) hM3) ⟨p2, ?_, p3, ?_, d1, ?_, d3, ?_, r4⟩ ?_ (fun c hc => ⟨?_, ?_⟩) (fun c hc => ?_) hw1 (fun c hc => ?_) (fun j hj => ?_) r2 ⟨by omega, by omega⟩
          · rw [r3.1 2 (by decide)]; exact p2M
          · rw [r3.1 3 (by decide)]; exact p3M
          · rw [r3.1 4 (by decide)]; exact p4M
          · rw [r3.1 7 (by decide)]; exact d5
          · rw [r3.2.1]; simp -implicitDefEqProofs (disch := omega) only [sa_gi_s, sa_gi_n, sa_gi_j, sa_gi_A, sa_gi_B, sa_gj_s, sa_gj_n, sa_gj_i, sa_gj_A, sa_gj_B, sa_ga_s, sa_ga_n, sa_ga_i, sa_ga_j, sa_ga_B, sa_gb_s, sa_gb_n, sa_gb_i, sa_gb_j, sa_gb_A, sa_us, sa_un, sa_vs, sa_vn]; exact p16
          · simp -implicitDefEqProofs (disch := omega) only [sa_gi_s, sa_gi_n, sa_gi_j, sa_gi_A, sa_gi_B, sa_gj_s, sa_gj_n, sa_gj_i, sa_gj_A, sa_gj_B, sa_ga_s, sa_ga_n, sa_ga_i, sa_ga_j, sa_ga_B, sa_gb_s, sa_gb_n, sa_gb_i, sa_gb_j, sa_gb_A, sa_us, sa_un, sa_vs, sa_vn]; exact (du c hc).1
          · rw [r3.2.2.1 22 (by decide) (by decide) (by decide) (by decide) (by decide)]; exact (du c hc).2
          · rw [r3.2.2.2.1 23 (by decide) (by decide) (by decide) (by decide) (by decide) (by decide) (by decide)]; simp -implicitDefEqProofs (disch := omega) only [sa_gi_s, sa_gi_n, sa_gi_j, sa_gi_A, sa_gi_B, sa_gj_s, sa_gj_n, sa_gj_i, sa_gj_A, sa_gj_B, sa_ga_s, sa_ga_n, sa_ga_i, sa_ga_j, sa_ga_B, sa_gb_s, sa_gb_n, sa_gb_i, sa_gb_j, sa_gb_A, sa_us, sa_un, sa_vs, sa_vn]; exact pk c hc
          · simp -implicitDefEqProofs (disch := omega) only [sa_gi_s, sa_gi_n, sa_gi_j, sa_gi_A, sa_gi_B, sa_gj_s, sa_gj_n, sa_gj_i, sa_gj_A, sa_gj_B, sa_ga_s, sa_ga_n, sa_ga_i, sa_ga_j, sa_ga_B, sa_gb_s, sa_gb_n, sa_gb_i, sa_gb_j, sa_gb_A, sa_us, sa_un, sa_vs, sa_vn]; exact p11 c hc
          · rw [r3.2.2.1 20 (by decide) (by decide) (by decide) (by decide) (by decide)]; simp -implicitDefEqProofs (disch := omega) only [sa_gi_s, sa_gi_n, sa_gi_j, sa_gi_A, sa_gi_B, sa_gj_s, sa_gj_n, sa_gj_i, sa_gj_A, sa_gj_B, sa_ga_s, sa_ga_n, sa_ga_i, sa_ga_j, sa_ga_B, sa_gb_s, sa_gb_n, sa_gb_i, sa_gb_j, sa_gb_A, sa_us, sa_un, sa_vs, sa_vn]; exact do' j hj
        obtain ⟨⟨t1, t2, t3, t4, t5, t6, t7, t8⟩, t9⟩ := tn_at (n := bN B) (t := t) (kd := 3) (wh := -9) (S := sc_mB X3 18 (vp_updL (sc_gb X3 18) t e))
        obtain ⟨kp', X7, M6, w1, w2, w3, w4⟩ := ckp_both (q := q) (u := u1) (v := v) (x1 := b2i false) (k2 := fn_X5_countByKeeps_2 fM) hB ht1 hq hvb (fun c hc h1 => pw c hc (by rw [h1]; decide)) (bN B) 0 sc_FU sc_FU kp (tnX (bN B) t 3 (-9) (sc_mB X3 18 (vp_updL (sc_gb X3 18) t e))) M5 (Nat.zero_add _) (by rw [sa_FU]; omega) (by rw [sa_FU]; omega) hyT.2.1.2.2.2.2.1 t1 t2 hyT.1.2.1 (by rw [t7]; simp -implicitDefEqProofs (disch := omega) only [sa_gi_s, sa_gi_n, sa_gi_j, sa_gi_A, sa_gi_B, sa_gj_s, sa_gj_n, sa_gj_i, sa_gj_A, sa_gj_B, sa_ga_s, sa_ga_n, sa_ga_i, sa_ga_j, sa_ga_B, sa_gb_s, sa_gb_n, sa_gb_i, sa_gb_j, sa_gb_A, sa_us, sa_un, sa_vs, sa_vn]; exact p17) (by rw [r3.2.1]; exact p0M) hyT.2.2.2.1 (fun c hc => ⟨by rw [(t9 c hc).1]; simp -implicitDefEqProofs (disch := omega) only [sa_gi_s, sa_gi_n, sa_gi_j, sa_gi_A, sa_gi_B, sa_gj_s, sa_gj_n, sa_gj_i, sa_gj_A, sa_gj_B, sa_ga_s, sa_ga_n, sa_ga_i, sa_ga_j, sa_ga_B, sa_gb_s, sa_gb_n, sa_gb_i, sa_gb_j, sa_gb_A, sa_us, sa_un, sa_vs, sa_vn]; exact (dv c hc).1, by rw [r3.2.2.2.1 21 (by decide) (by decide) (by decide) (by decide) (by decide) (by decide) (by decide)]; exact (dv c hc).2⟩) hyT.2.2.2.2.1
        have hy1 := yR_c hB hyT w4 w3
        obtain ⟨X9, M9, s1, s2, s3⟩ := ih (t + 1) fX fM el1 _ _ _ _ (by omega) ht1 (by omega) (by omega) hy1
        refine ⟨X9, M9, ?_, ?_, s3⟩
        · rw [fn_X2_run_69, if_pos rfl, fn_X2_run_106, turn_X (S := sc_mB X3 18 (vp_updL (sc_gb X3 18) t e)) hn ht1 d1 p5, sa_cl, if_neg (by decide), fn_X2_changeKeeps, if_pos rfl, sa_l0, w1, sa_cv, nI_1]
          exact s1
        · rw [fn_X5_countByKeeps_180, r1, sa_cv, sa_l0, w2]
          exact s2
