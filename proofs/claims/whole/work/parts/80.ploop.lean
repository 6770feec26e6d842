/-! ===== the loop of the paper rules ===== -/
theorem zR_up {B : bT} {r s t el q : Nat} {u u2 : Nat → Int32} {v v2 : Nat → Nat} {pl pl2 : Nat → Option Nat} {vl cm vl2 cm2 : Nat → Nat} {kd wh kd2 wh2 : Int32} {X1 M1 M2 X3 M3 : sc_M} (hB : bOK B) (h : zR B r s t el q u v pl vl cm kd wh X1 M1) (hh : hR B r (t + 1) X1 M2) (hr : rMf t M1 M2) (w : wR B (t + 1) (bP B) u2 v2 pl2 vl2 cm2 X3 M3) (hI : pI B q (bN B) u2 v2 pl2) (hg : gFr (t + 1) (cpX (bP B) t (tnX (bN B) t kd2 wh2 X1)) M2 X3 M3) (hl2 : sc_gb X3 16 (t + 1) = sc_gj M3 2) (hle2 : el + hpN u2 (bN B) ≤ bN B) : zR B r s (t + 1) el q u2 v2 pl2 vl2 cm2 kd2 wh2 X3 M3 := by
  have hn := hB.1.2.1
  have hnp := hB.1.2.2
  obtain ⟨hw, _, ⟨g1, g2, g3, g4, g5, g6, g7, g8, g9⟩, ⟨k1, k2, k3, k4, k5, k6⟩, hl, ho, _, _⟩ := h
  obtain ⟨⟨f1, f2, f3, f4, f5, f6⟩, f7, f8⟩ := adv_fr (n := bN B) (np := bP B) (t := t) (kd := kd2) (wh := wh2) (SX := X1)
  obtain ⟨hkx, hkm⟩ := hK_gFr hg
  obtain ⟨⟨a1, a2, a3, a4, a5, a6⟩, a7, a8, a9, a10⟩ := hg
  obtain ⟨r1, r2, r3, r4, r5, r6, r7⟩ := hr
  refine ⟨w, hI, ⟨?_, ?_, ?_, ?_, ?_, ?_, ?_, ?_, ?_⟩, ⟨hl2, ?_, ?_, ?_, ?_, ?_⟩, fun c hc => ?_, fun k hk => ?_, ?_, hle2⟩
  · rw [a1, f1 2 (by decide) (by decide) (by decide)]; exact g1
  · rw [a7, r1 2 (by decide)]; exact g2
  · rw [a1, f1 3 (by decide) (by decide) (by decide)]; exact g3
  · rw [a7, r1 3 (by decide)]; exact g4
  · rw [a1, f1 4 (by decide) (by decide) (by decide)]; exact g5
  · rw [a7, r1 4 (by decide)]; exact g6
  · rw [a7, r1 5 (by decide)]; exact g7
  · rw [a1, f1 7 (by decide) (by decide) (by decide)]; exact g8
  · rw [a7, r1 7 (by decide)]; exact g9
  · rw [a3 17 (by decide) (by decide) (by decide), f4]; exact k2
  · rw [a8 0 (by decide) (by decide), r2]; exact k3
  · rw [a2 12 (by decide) (by decide)]; exact f7
  · rw [a2 13 (by decide) (by decide)]; exact f8
  · rw [a3 18 (by decide) (by decide) (by decide)]; exact f5
  · rw [a2 11 (by decide) (by decide), f2 11 (by decide)]; exact hl c hc
  · rw [a2 10 (by decide) (by decide), f2 10 (by decide), a9 20 (by decide) (by decide) (by decide), r3 20 (by decide) (by decide) (by decide) (by decide) (by decide)]; exact ho k hk
  · exact hR_f hn hnp hkx hkm (hR_f hn hnp f6 (hKM_rfl _ _) hh)
theorem poorX_r {S : sc_M} {n R : Nat} {u : Nat → Int32} {mr : Nat → Nat → Bool} (hn : n ≤ 12) (e4 : sc_gi S 4 = nI n) (e6 : sc_gi S 6 = nI R) (hR : R + 12 ≤ 864) (hu : ∀ c, c < n → sc_ga S 20 (R + c) = u c) (hmr : ∀ a b, a < n → b < n → fn_X1_hasMore S (nI a) (nI b) = some (b2i (mr a b), S)) : fn_X1_poorest S = some (oX (pick (fun c => decide (u c = 0)) (fun a b => mr b a) n), S) :=
  poor_X hn e4 e6 hR hu hmr n 0 sc_FU (Nat.zero_add n) (by rw [sa_FU]; omega)
theorem fewM_r {S : sc_M} {n : Nat} {u : Nat → Int32} {mr : Nat → Nat → Bool} (hn : n ≤ 12) (e0 : sc_gi S 0 = nI n) (hu : ∀ c, c < n → sc_ga S 22 c = u c) (hmr : ∀ a b, a < n → b < n → fn_X5_hasMore S (nI a) (nI b) = some (b2i (mr a b), S)) : fn_X5_fewest S = some (oM (pick (fun c => decide (u c = 0)) (fun a b => mr b a) n), S) :=
  few_M hn e0 hu hmr n 0 sc_FU (Nat.zero_add n) (by rw [sa_FU]; omega)
theorem run_p {B : bT} {r s q : Nat} (hB : bOK B) (hr : r < 3) (hs : s ≤ 12) (hq : q ≤ 4000000000) : ∀ (k t fX fM el : Nat) (u : Nat → Int32) (v : Nat → Nat) (pl : Nat → Option Nat) (vl cm : Nat → Nat) (kd wh : Int32) (SX SM : sc_M), phF u v q (bN B) < k → t + k ≤ 13 → k ≤ fX → k ≤ fM → kd < 3 → zR B r s t el q u v pl vl cm kd wh SX SM →
    ∃ (SX' SM' : sc_M), fn_X3_run_48 fX SX (nI (t + 1)) = some SX' ∧ sc_cl (fn_X5_ends SM) (fun r134 S134 => sc_cv (fn_X5_record S134 kd wh (0 : Int64)) (fun S143 => fn_X5_countByPiles_86 fM S143 r134)) = some SM' ∧ fin B r SX' SM' := by
  have hn := hB.1.2.1
  have hnp := hB.1.2.2
  intro k
  induction k with
  | zero => intro t fX fM el u v pl vl cm kd wh SX SM h; omega
  | succ k ih =>
    intro t fX fM el u v pl vl cm kd wh SX SM hph htk hfX hfM hkd h
    obtain ⟨fX, rfl⟩ : ∃ f', fX = f' + 1 := ⟨fX - 1, by omega⟩
    obtain ⟨fM, rfl⟩ : ∃ f', fM = f' + 1 := ⟨fM - 1, by omega⟩
    obtain ⟨over, u1, el1, X1, M1, a1, a2, z1, h14, hu1, hov⟩ := zR_settle hB hr hs (by omega) hq h
    obtain ⟨M2, b1, hh2, rm, m6⟩ := zR_rec hB hr (by omega) hq hkd z1 h14
    have hH := zR_H hB hq z1
    have z1' := z1
    obtain ⟨w1, I1, ⟨g1, g2, g3, g4, g5, g6, g7, g8, g9⟩, ⟨k1, k2, k3, k4, k5, k6⟩, hl, ho, hh, hle⟩ := z1
    have w1' := w1
    obtain ⟨⟨hX, hM⟩, ⟨e5, e6, e8, e9, m6'⟩, hu, hv, hid, hpp⟩ := w1
    have hM2 : bM B M2 := bM_f (S := M1) (fun k hk => rm.1 k (by omega)) (fun k hk => rm.2.2.1 k (by omega) (by omega) (by omega) (by omega) (by omega)) hM
    rw [fn_X3_run_48, a1, a2, sa_cl, sa_cl, b1, sa_cv, fn_X5_countByPiles_86]
    cases over with
    | true =>
      rw [if_neg (show ¬ b2i true = 0 by decide), if_neg (show ¬ b2i true = 0 by decide)]
      refine ⟨X1, M2, rfl, rfl, t + 1, el1, ⟨by omega, by omega, fun _ => by omega⟩, by omega, ⟨hX, hM2⟩, ⟨e5, m6, g5, ?_, g8, ?_, g1, ?_⟩, fun _ => ⟨e8, ?_⟩, fun k hk => ?_, hh2⟩
      · rw [rm.1 4 (by decide)]; exact g6
      · rw [rm.1 7 (by decide)]; exact g9
      · rw [rm.1 2 (by decide)]; exact g2
      · rw [rm.1 5 (by decide)]; exact g7
      · rw [rm.2.2.1 20 (by decide) (by decide) (by decide) (by decide) (by decide)]; exact ho k hk
    | false =>
      obtain ⟨c1, hc1, hc1u⟩ := hov rfl
      have hu0 : ∀ c, c < bN B → u1 c = 0 → u c = 0 := fun c hc e => by
        rcases hu1 c hc with e1 | ⟨e1, e2⟩
        · rw [← e1]; exact e
        · exact e1
      have hpos : 0 < phF u v q (bN B) := cnP_pos hc1 (by simp [hu0 c1 hc1 hc1u])
      have ht : t + 1 < 13 := by omega
      rw [if_pos (show b2i false = 0 from rfl), if_pos (show b2i false = 0 from rfl), if_neg (by rw [sa_l13, nI_leI (by omega) (by omega)]; omega)]
      have HX := hasX_p (SX := X1) hB hr (show t < 72 by omega) g1 e5 hl rfl hH
      have HM := hasM_q (SX := X1) (S := M2) hB hr (show t < 72 by omega) hM2 (by rw [rm.1 2 (by decide)]; exact g2) m6 (fun c hc => by rw [rm.2.2.2.1 21 (by decide) (by decide) (by decide) (by decide) (by decide) (by decide) (by decide), (hv c hc).2]; exact ((hv c hc).1).symm) (fun i hi c hc => ((hh2.2.1 i hi c hc).1).symm)
      have hu2 : ∀ c, c < bN B → sc_ga M2 22 c = u1 c := fun c hc => by rw [rm.2.2.1 22 (by decide) (by decide) (by decide) (by decide) (by decide)]; exact (hu c hc).2
      have hv2 : ∀ c, c < bN B → sc_gb M2 21 c = lN (v c) := fun c hc => by rw [rm.2.2.2.1 21 (by decide) (by decide) (by decide) (by decide) (by decide) (by decide) (by decide)]; exact (hv c hc).2
      have pX := mostX_r (s := 1) (ls := lN (q + 1)) (v := fun c => lN (v c)) hn g5 e6 (by omega) (fun c hc => (hu c hc).1) (fun c hc => (hv c hc).1) HX
      have pM := mostM_r (s := 1) (ls := lN (q + 1)) (v := fun c => lN (v c)) hn hM2.1 hu2 hv2 HM
      have rX : fn_X1_richest X1 = some (oX (pick (fun c => decide (u1 c = 1) && !decide (lN (v c) < lN (q + 1))) (fun a b => hm (Hx X1) (bL B) a b (t + 1)) (bN B)), X1) := by
        rw [fn_X1_richest, sa_quota (by omega) e5 k2, sa_cl, lN_1, pX, sa_cl]
      have mq2 : sc_gj M2 0 = lN q := by rw [rm.2.1]; exact k3
      rw [rX, sa_cl, mq2, lN_1, pM, sa_cl]
      have hvb := v_bound hB hq I1
      have qr : sc_gi M2 2 = nI r := by rw [rm.1 2 (by decide)]; exact g2
      cases hp : pick (fun c => decide (u1 c = 1) && !decide (lN (v c) < lN (q + 1))) (fun a b => hm (Hx X1) (bL B) a b (t + 1)) (bN B) with
      | some b =>
        obtain ⟨hb, hfit⟩ := pick_lt _ _ _ _ hp
        simp only [Bool.and_eq_true, decide_eq_true_eq, Bool.not_eq_true', decide_eq_false_iff_not] at hfit
        have hvbb := hvb b hb
        have hqb : q < v b := by
          have := hfit.2
          rw [pk_lLT (by omega) (by omega)] at this
          omega
        have wA := adv_X (kd := 1) (wh := nI b) hB w1' rm m6
        obtain ⟨⟨f1, f2, f3, f4, f5, f6⟩, f7, f8⟩ := adv_fr (n := bN B) (np := bP B) (t := t) (kd := 1) (wh := nI b) (SX := X1)
        obtain ⟨v3, pl3, vl3, cm3, X3, M3, s1, s2, s3, s4, s5, s6, s7, s8⟩ := sur_both (c0 := b) hB ht hb hr wA I1 (by rw [f1 2 (by decide) (by decide) (by decide)]; exact g1) qr (by rw [f4]; exact k2) mq2 (by rw [f3, rm.2.1]; exact k1) (by rw [hfit.1]; decide) hqb
        have z3 := zR_up hB z1' hh2 rm s3 s4 s5 s6 hle
        have hph3 : phF u1 v3 q (bN B) + 1 ≤ phF u v q (bN B) := by
          refine ph_lt (b := b) (fun c hc _ e => hu0 c hc e) (fun c hc hcb e e2 => ?_) hb (by rw [hfit.1]; decide) (fun _ => by rw [s7]; omega) ?_
          · rw [s8 c hcb (by rw [e]; decide)] at e2
            rcases hu1 c hc with e3 | ⟨e3, _⟩
            · exact Or.inr ⟨by rw [← e3]; exact e, e2⟩
            · exact Or.inl e3
          · rcases hu1 b hb with e3 | ⟨e3, _⟩
            · exact Or.inr ⟨by rw [← e3]; exact hfit.1, hqb⟩
            · exact Or.inl e3
        obtain ⟨X4, M4, d1, d2, d3⟩ := ih (t + 1) fX fM el1 u1 v3 pl3 vl3 cm3 1 (nI b) X3 M3 (by omega) (by omega) (by omega) (by omega) (by decide) z3
        refine ⟨X4, M4, ?_, ?_, d3⟩
        · rw [show oX (some b) = nI b from rfl, if_neg (n_ne9 (by omega)), fn_X3_run_84, if_neg (n_ne9 (by omega)), fn_X3_run_98, if_neg (n_ne9 (by omega)), turn_X hn (by omega) g5 e5, sa_cl, if_neg (by decide), copy_X hnp ht (by rw [tn_fr.1 8 (by decide) (by decide)]; exact e8) (by rw [tn_fr.1 9 (by decide) (by decide)]; exact e9), sa_cv, if_neg (n_ne9 (by omega)), s1, sa_cv, nI_1]
          exact d1
        · rw [show oM (some b) = nI b from rfl, if_neg (n_nlt0 (by omega)), s2, sa_cv, fn_X5_countByPiles_133]
          exact d2
      | none =>
        have qX := poorX_r hn g5 e6 (by omega) (fun c hc => (hu c hc).1) HX
        have qM := fewM_r hn hM2.1 hu2 HM
        obtain ⟨b, hpb⟩ := pick_ex (fun c => decide (u1 c = 0)) (fun a b => hm (Hx X1) (bL B) b a (t + 1)) hc1 (by simp [hc1u])
        obtain ⟨hb, hfit⟩ := pick_lt _ _ _ _ hpb
        simp only [decide_eq_true_eq] at hfit
        rw [hpb] at qX qM
        have wA := adv_X (kd := 2) (wh := nI b) hB w1' rm m6
        obtain ⟨⟨f1, f2, f3, f4, f5, f6⟩, f7, f8⟩ := adv_fr (n := bN B) (np := bP B) (t := t) (kd := 2) (wh := nI b) (SX := X1)
        obtain ⟨v3, pl3, vl3, cm3, X3, M3, s1, s2, s3, s4, s5, s6, s8⟩ := outS_both (c0 := b) hB ht hb wA I1 (by rw [f3, rm.2.1]; exact k1)
        have hdrop : hpN (upd u1 b 2) (bN B) + 1 ≤ hpN u1 (bN B) := hp_drop hb hfit (by decide)
        have z3 := zR_up hB z1' hh2 rm s3 s4 s5 s6 (by omega)
        have hph3 : phF (upd u1 b 2) v3 q (bN B) + 1 ≤ phF u v q (bN B) := by
          refine ph_lt (b := b) (fun c hc hcb e => ?_) (fun c hc hcb e e2 => ?_) hb (by rw [sa_us]; decide) (fun e => by rw [sa_us] at e; exact absurd e (by decide)) (Or.inl (hu0 b hb hfit))
          · rw [sa_un _ _ _ _ hcb] at e
            exact hu0 c hc e
          · rw [sa_un _ _ _ _ hcb] at e
            rw [s8 c hcb (by rw [e]; decide)] at e2
            rcases hu1 c hc with e3 | ⟨e3, _⟩
            · exact Or.inr ⟨by rw [← e3]; exact e, e2⟩
            · exact Or.inl e3
        obtain ⟨X4, M4, d1, d2, d3⟩ := ih (t + 1) fX fM el1 (upd u1 b 2) v3 pl3 vl3 cm3 2 (nI b) X3 M3 (by omega) (by omega) (by omega) (by omega) (by decide) z3
        refine ⟨X4, M4, ?_, ?_, d3⟩
        · rw [if_pos (show oX none = -9 from rfl), qX, sa_cl, show oX none = -9 from rfl, show oX (some b) = nI b from rfl, fn_X3_run_84, if_pos rfl, fn_X3_run_98, if_neg (n_ne9 (by omega)), turn_X hn (by omega) g5 e5, sa_cl, if_neg (by decide), copy_X hnp ht (by rw [tn_fr.1 8 (by decide) (by decide)]; exact e8) (by rw [tn_fr.1 9 (by decide) (by decide)]; exact e9), sa_cv, if_pos rfl, s1, sa_cv, nI_1]
          exact d1
        · rw [if_pos (show oM none < 0 by decide), qM, sa_cl, show oM (some b) = nI b from rfl, s2, sa_cv, fn_X5_countByPiles_133]
          exact d2
