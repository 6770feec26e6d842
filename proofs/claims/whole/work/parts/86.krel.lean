/-! ===== rule 3: from round to round ===== -/
def yR (B : bT) (s t el : Nat) (u : Nat → Int32) (kp : Nat → Nat) (SX SM : sc_M) : Prop :=
  (bX B SX ∧ bM B SM) ∧
  (sc_gi SX 2 = nI 3 ∧ sc_gi SM 2 = nI 3 ∧ sc_gi SX 3 = nI s ∧ sc_gi SM 3 = nI s ∧ sc_gi SX 4 = nI (bN B) ∧ sc_gi SM 4 = nI (bN B) ∧ sc_gi SX 7 = nI el ∧ sc_gi SM 7 = nI el ∧ sc_gi SX 5 = nI (t + 1) ∧ sc_gi SX 6 = nI (12 * t) ∧ sc_gi SM 6 = nI t) ∧
  (sc_gb SX 16 t = sc_gj SM 2 ∧ sc_ga SX 12 t = 3 ∧ sc_ga SX 13 t = -9 ∧ sc_gb SX 18 t = 0) ∧
  (∀ c, c < bN B → sc_ga SX 20 (12 * t + c) = u c ∧ sc_ga SM 22 c = u c) ∧ kR B t kp SX SM ∧
  (∀ c, c < bN B → bW B c ≠ 0 → u c = 3) ∧
  (∀ c, c < bN B → sc_ga SX 11 c = bL B c) ∧ (∀ k, k < el → sc_ga SX 10 k = sc_ga SM 20 k) ∧ hR B 3 t SX SM ∧
  (el + hpN u (bN B) ≤ bN B ∧ el + hpN u (bN B) ≤ 12 - (t - 60))
theorem hKX_t {n t : Nat} {kd wh : Int32} {S : sc_M} : hKX (t + 1) S (tnX n t kd wh S) := by
  obtain ⟨f1, f2, f3, f4, f5⟩ := tn_fr (n := n) (t := t) (kd := kd) (wh := wh) (S := S)
  refine ⟨fun j hj => ?_, fun j hj => f5 j hj, fun j hj => ?_⟩
  · obtain ⟨q1, q2, q3, q4, q5, q6⟩ := f4 j hj
    exact ⟨q1, q2, by rw [f2 14 (by decide) (by decide) (by decide) (by decide)], q3, q4, q5, q6⟩
  · rw [f2 22 (by decide) (by decide) (by decide) (by decide), f2 23 (by decide) (by decide) (by decide) (by decide)]
    exact ⟨rfl, rfl⟩
theorem yR_turn {B : bT} {s t el : Nat} {u : Nat → Int32} {kp : Nat → Nat} {SX SM : sc_M} (hB : bOK B) (hX : bX B SX) (hM : bM B SM)
    (hg : sc_gi SX 2 = nI 3 ∧ sc_gi SM 2 = nI 3 ∧ sc_gi SX 3 = nI s ∧ sc_gi SM 3 = nI s ∧ sc_gi SX 4 = nI (bN B) ∧ sc_gi SM 4 = nI (bN B) ∧ sc_gi SX 7 = nI el ∧ sc_gi SM 7 = nI el ∧ sc_gi SM 6 = nI (t + 1))
    (hl : sc_gb SX 16 t = sc_gj SM 2) (hu : ∀ c, c < bN B → sc_ga SX 20 (12 * t + c) = u c ∧ sc_ga SM 22 c = u c) (hk : kR B t kp SX SM) (hw : ∀ c, c < bN B → bW B c ≠ 0 → u c = 3) (hL : ∀ c, c < bN B → sc_ga SX 11 c = bL B c) (ho : ∀ k, k < el → sc_ga SX 10 k = sc_ga SM 20 k) (hh : hR B 3 (t + 1) SX SM) (hs : el + hpN u (bN B) ≤ bN B ∧ el + hpN u (bN B) ≤ 12 - (t + 1 - 60)) : yR B s (t + 1) el u kp (tnX (bN B) t 3 (-9) SX) SM := by
  have hn := hB.1.2.1
  have hnp := hB.1.2.2
  obtain ⟨⟨t1, t2, t3, t4, t5, t6, t7, t8⟩, t9⟩ := tn_at (n := bN B) (t := t) (kd := 3) (wh := -9) (S := SX)
  obtain ⟨f1, f2, f3, f4, f5⟩ := tn_fr (n := bN B) (t := t) (kd := 3) (wh := -9) (S := SX)
  obtain ⟨g1, g2, g3, g4, g5, g6, g7, g8, g9⟩ := hg
  refine ⟨⟨?_, hM⟩, ⟨?_, g2, ?_, g4, ?_, g6, ?_, g8, t1, t2, g9⟩, ⟨?_, t3, t4, t8⟩, fun c hc => ?_, fun c hc => ?_, hw, fun c hc => ?_, fun k hk => ?_, ?_, hs⟩
  · exact bX_f (fun k hk => f1 k (by omega) (by omega)) (fun k hk => f2 k (by omega) (by omega) (by omega) (by omega)) hX
  · rw [f1 2 (by decide) (by decide)]; exact g1
  · rw [f1 3 (by decide) (by decide)]; exact g3
  · rw [f1 4 (by decide) (by decide)]; exact g5
  · rw [f1 7 (by decide) (by decide)]; exact g7
  · rw [t6]; exact hl
  · rw [(t9 c hc).2.1]; exact hu c hc
  · rw [(t9 c hc).2.2]; exact hk c hc
  · rw [f2 11 (by decide) (by decide) (by decide) (by decide)]; exact hL c hc
  · rw [f2 10 (by decide) (by decide) (by decide) (by decide)]; exact ho k hk
  · exact hR_f hn hnp hKX_t (hKM_rfl _ _) hh
theorem yR_c {B : bT} {s t el : Nat} {u : Nat → Int32} {kp kp' : Nat → Nat} {SX SM SX' SM' : sc_M} (hB : bOK B) (h : yR B s t el u kp SX SM) (hf : cFr t SX SM SX' SM') (hk : kR B t kp' SX' SM') : yR B s t el u kp' SX' SM' := by
  have hn := hB.1.2.1
  have hnp := hB.1.2.2
  obtain ⟨⟨hX, hM⟩, hg, ⟨k1, k2, k3, k4⟩, hu, _, hw, hL, ho, hh, hs⟩ := h
  obtain ⟨⟨x1, x2, x3, x4⟩, m1, m2, m3, m4⟩ := hf
  refine ⟨⟨?_, ?_⟩, ?_, ⟨?_, ?_, ?_, ?_⟩, fun c hc => ?_, hk, hw, fun c hc => ?_, fun k hk => ?_, ?_, hs⟩
  · exact bX_f (fun k _ => x1 k) (fun k hk => x2 k (by omega)) hX
  · exact bM_f (fun k _ => m1 k) (fun k _ => m3 k) hM
  · rw [x1, m1, x1, m1, x1, m1, x1, m1, x1, x1, m1]; exact hg
  · rw [x3, m2]; exact k1
  · rw [x2 12 (by decide)]; exact k2
  · rw [x2 13 (by decide)]; exact k3
  · rw [x3]; exact k4
  · rw [x2 20 (by decide), m3]; exact hu c hc
  · rw [x2 11 (by decide)]; exact hL c hc
  · rw [x2 10 (by decide), m3]; exact ho k hk
  · refine hR_f hn hnp ⟨fun j hj => ?_, fun j hj => ?_, fun j hj => ?_⟩ (hKM_rows (fun k _ _ => m3 k) (fun k _ k2 => m4 k (by omega))) hh
    · rw [x2 12 (by decide), x2 13 (by decide), x2 14 (by decide), x3, x3, x3, x3]
      exact ⟨rfl, rfl, rfl, rfl, rfl, rfl, rfl⟩
    · rw [x3, x2 20 (by decide)]
      exact ⟨rfl, rfl, x4 j hj⟩
    · rw [x2 22 (by decide), x2 23 (by decide)]
      exact ⟨rfl, rfl⟩
theorem muB_eq {t el el' : Nat} {e ep ep' : Int64} {k k' : Int32} (h : 0 < t → k = k' ∧ ep = ep') : muB t el el' e k ep = muB t el el' e k' ep' := by
  unfold muB
  by_cases h0 : 0 < t
  · obtain ⟨h1, h2⟩ := h h0
    rw [h1, h2]
  · rw [decide_eq_false h0]
    simp
theorem hasX_3 {B : bT} {t : Nat} {v : Nat → Nat} {S : sc_M} (hB : bOK B) (ht : t < 72) (er : sc_gi S 2 = nI 3) (e5 : sc_gi S 5 = nI (t + 1)) (hl : ∀ c, c < bN B → sc_ga S 11 c = bL B c) (hv : ∀ c, c < bN B → sc_gb S 19 (12 * t + c) = lN (v c)) (hvb : ∀ c, c < bN B → v c ≤ 480000000000) : ∀ a b, a < bN B → b < bN B → fn_X1_hasMore S (nI a) (nI b) = some (b2i (hm (fun _ c => lN (v c)) (bL B) a b 1), S) :=
  fun _ _ ha hb => hmX_3 (v := fun c => lN (v c)) hB.1.2.1 ha hb er e5 (by omega) (by omega) hl (fun c hc => ⟨hv c hc, vOK_N (by have := hvb c hc; omega)⟩)
theorem hasM_3 {B : bT} {t : Nat} {v : Nat → Nat} {S : sc_M} (hB : bOK B) (ht : t < 72) (hM : bM B S) (er : sc_gi S 2 = nI 3) (e6 : sc_gi S 6 = nI t) (hv : ∀ c, c < bN B → sc_gb S 21 c = lN (v c)) : ∀ a b, a < bN B → b < bN B → fn_X5_hasMore S (nI a) (nI b) = some (b2i (hm (fun _ c => lN (v c)) (bL B) a b 1), S) :=
  fun _ _ ha hb => hmM_3 (v := fun c => lN (v c)) hB.1.2.1 ha hb er e6 (by omega) (fun c hc => hM.2.2.2.1 c (by have := hB.1.2.1; omega)) hv
