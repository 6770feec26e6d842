/-! ===== the stages that are told: they stay, and record adds one ===== -/
def hR (B : bT) (r t : Nat) (SX SM : sc_M) : Prop :=
  (∀ i, i < t → sc_ga SX 12 i = sc_ga SM 7 i ∧ sc_ga SX 13 i = sc_ga SM 8 i ∧ sc_gb SX 15 i = sc_gb SM 9 i ∧ sc_gb SX 16 i = sc_gb SM 10 i ∧ sc_ga SX 14 i = sc_ga SM 11 i ∧ sc_gb SX 17 i = sc_gb SM 12 i ∧ sc_gb SX 18 i = sc_gb SM 13 i) ∧
  (∀ i, i < t → ∀ c, c < bN B → sc_gb SX 19 (12 * i + c) = sc_gb SM 14 (12 * i + c) ∧ sc_ga SX 20 (12 * i + c) = sc_ga SM 15 (12 * i + c) ∧ sc_gb SM 19 (12 * i + c) = sc_gb SM 14 (12 * i + c) ∧ vOK (sc_gb SX 19 (12 * i + c))) ∧
  (r < 3 → ∀ i, i < t → ∀ p, p < bP B → (0 ≤ sc_ga SM 17 (80 * i + p) → sc_ga SX 22 (80 * i + p) = sc_ga SM 17 (80 * i + p)) ∧ (sc_ga SM 17 (80 * i + p) < 0 → sc_ga SX 22 (80 * i + p) = -9) ∧ sc_ga SX 23 (80 * i + p) = (sc_gb SM 18 (80 * i + p)).toInt32) ∧
  (r = 3 → ∀ i, i < t → ∀ c, c < bN B → sc_ga SM 15 (12 * i + c) ≠ 3 → sc_ga SX 21 (12 * i + c) = (sc_gb SM 16 (12 * i + c)).toInt32)
def hKX (t : Nat) (S S' : sc_M) : Prop := (∀ j, j < t → sc_ga S' 12 j = sc_ga S 12 j ∧ sc_ga S' 13 j = sc_ga S 13 j ∧ sc_ga S' 14 j = sc_ga S 14 j ∧ sc_gb S' 15 j = sc_gb S 15 j ∧ sc_gb S' 16 j = sc_gb S 16 j ∧ sc_gb S' 17 j = sc_gb S 17 j ∧ sc_gb S' 18 j = sc_gb S 18 j) ∧ (∀ j, j < 12 * t → sc_gb S' 19 j = sc_gb S 19 j ∧ sc_ga S' 20 j = sc_ga S 20 j ∧ sc_ga S' 21 j = sc_ga S 21 j) ∧ (∀ j, j < 80 * t → sc_ga S' 22 j = sc_ga S 22 j ∧ sc_ga S' 23 j = sc_ga S 23 j)
def hKM (t : Nat) (S S' : sc_M) : Prop := (∀ j, j < t → sc_ga S' 7 j = sc_ga S 7 j ∧ sc_ga S' 8 j = sc_ga S 8 j ∧ sc_ga S' 11 j = sc_ga S 11 j ∧ sc_gb S' 9 j = sc_gb S 9 j ∧ sc_gb S' 10 j = sc_gb S 10 j ∧ sc_gb S' 12 j = sc_gb S 12 j ∧ sc_gb S' 13 j = sc_gb S 13 j) ∧ (∀ j, j < 12 * t → sc_gb S' 14 j = sc_gb S 14 j ∧ sc_ga S' 15 j = sc_ga S 15 j ∧ sc_gb S' 16 j = sc_gb S 16 j ∧ sc_gb S' 19 j = sc_gb S 19 j) ∧ (∀ j, j < 80 * t → sc_ga S' 17 j = sc_ga S 17 j ∧ sc_gb S' 18 j = sc_gb S 18 j)
theorem hKM_rows {t : Nat} {S S' : sc_M} (h1 : ∀ k, 7 ≤ k → k < 18 → sc_ga S' k = sc_ga S k) (h2 : ∀ k, 9 ≤ k → k < 20 → sc_gb S' k = sc_gb S k) : hKM t S S' := by
  refine ⟨fun j _ => ?_, fun j _ => ?_, fun j _ => ?_⟩
  · rw [h1 7 (by omega) (by omega), h1 8 (by omega) (by omega), h1 11 (by omega) (by omega), h2 9 (by omega) (by omega), h2 10 (by omega) (by omega), h2 12 (by omega) (by omega), h2 13 (by omega) (by omega)]
    exact ⟨rfl, rfl, rfl, rfl, rfl, rfl, rfl⟩
  · rw [h2 14 (by omega) (by omega), h1 15 (by omega) (by omega), h2 16 (by omega) (by omega), h2 19 (by omega) (by omega)]
    exact ⟨rfl, rfl, rfl, rfl⟩
  · rw [h1 17 (by omega) (by omega), h2 18 (by omega) (by omega)]
    exact ⟨rfl, rfl⟩
theorem hR_f {B : bT} {r t : Nat} {SX SM SX' SM' : sc_M} (hn : bN B ≤ 12) (hnp : bP B ≤ 80) (hx : hKX t SX SX') (hm : hKM t SM SM') (h : hR B r t SX SM) : hR B r t SX' SM' := by
  obtain ⟨x1, x2, x3⟩ := hx
  obtain ⟨m1, m2, m3⟩ := hm
  obtain ⟨h1, h2, h3, h4⟩ := h
  refine ⟨fun i hi => ?_, fun i hi c hc => ?_, fun hr i hi p hp => ?_, fun hr i hi c hc => ?_⟩
  · obtain ⟨a1, a2, a3, a4, a5, a6, a7⟩ := x1 i hi
    obtain ⟨b1, b2, b3, b4, b5, b6, b7⟩ := m1 i hi
    rw [a1, a2, a3, a4, a5, a6, a7, b1, b2, b3, b4, b5, b6, b7]
    exact h1 i hi
  · obtain ⟨a1, a2, a3⟩ := x2 (12 * i + c) (by omega)
    obtain ⟨b1, b2, b3, b4⟩ := m2 (12 * i + c) (by omega)
    rw [a1, a2, b1, b2, b4]
    exact h2 i hi c hc
  · obtain ⟨a1, a2⟩ := x3 (80 * i + p) (by omega)
    obtain ⟨b1, b2⟩ := m3 (80 * i + p) (by omega)
    rw [a1, a2, b1, b2]
    exact h3 hr i hi p hp
  · obtain ⟨a1, a2, a3⟩ := x2 (12 * i + c) (by omega)
    obtain ⟨b1, b2, b3, b4⟩ := m2 (12 * i + c) (by omega)
    rw [a3, b2, b3]
    exact h4 hr i hi c hc
theorem hKX_rfl (t : Nat) (S : sc_M) : hKX t S S := ⟨fun _ _ => ⟨rfl, rfl, rfl, rfl, rfl, rfl, rfl⟩, fun _ _ => ⟨rfl, rfl, rfl⟩, fun _ _ => ⟨rfl, rfl⟩⟩
theorem hKM_rfl (t : Nat) (S : sc_M) : hKM t S S := ⟨fun _ _ => ⟨rfl, rfl, rfl, rfl, rfl, rfl, rfl⟩, fun _ _ => ⟨rfl, rfl, rfl, rfl⟩, fun _ _ => ⟨rfl, rfl⟩⟩
theorem hKX_g {t : Nat} {S S' : sc_M} (h : eXg t S S') : hKX t S S' := by
  obtain ⟨a1, a2, a3, a4, a5⟩ := h
  refine ⟨fun j hj => ?_, fun j hj => ?_, fun j hj => ?_⟩
  · rw [a2 12 (by decide) (by decide) (by decide), a2 13 (by decide) (by decide) (by decide), a5 j hj, a3, a3, a3, a3]
    exact ⟨rfl, rfl, rfl, rfl, rfl, rfl, rfl⟩
  · rw [a3, a4 j hj, a2 21 (by decide) (by decide) (by decide)]
    exact ⟨rfl, rfl, rfl⟩
  · rw [a2 22 (by decide) (by decide) (by decide), a2 23 (by decide) (by decide) (by decide)]
    exact ⟨rfl, rfl⟩
theorem hKM_e {t : Nat} {S S' : sc_M} (h : eMf S S') : hKM t S S' := hKM_rows (fun k k1 k2 => h.2.1 k (by omega) (by omega)) (fun k _ _ => h.2.2.1 k)
theorem hKM_r {t : Nat} {S S' : sc_M} (h : rMf t S S') : hKM t S S' := by
  obtain ⟨a1, a2, a3, a4, a5, a6, a7⟩ := h
  refine ⟨a5, fun j hj => ?_, a7⟩
  obtain ⟨b1, b2, b3⟩ := a6 j hj
  rw [b1, b2, b3, a4 16 (by decide) (by decide) (by decide) (by decide) (by decide) (by decide) (by decide)]
  exact ⟨rfl, rfl, rfl, rfl⟩
theorem hK_gFr {t : Nat} {SX SM SX' SM' : sc_M} (h : gFr t SX SM SX' SM') : hKX t SX SX' ∧ hKM t SM SM' := by
  obtain ⟨⟨a1, a2, a3, a4, a5, a6⟩, a7, a8, a9, a10⟩ := h
  refine ⟨⟨fun j hj => ?_, fun j hj => ?_, a6⟩, hKM_rows (fun k k1 k2 => a9 k (by omega) (by omega) (by omega)) (fun k k1 k2 => a10 k (by omega) (by omega))⟩
  · obtain ⟨b1, b2⟩ := a4 j hj
    rw [a2 12 (by decide) (by decide), a2 13 (by decide) (by decide), a2 14 (by decide) (by decide), b1, b2, a3 17 (by decide) (by decide) (by decide), a3 18 (by decide) (by decide) (by decide)]
    exact ⟨rfl, rfl, rfl, rfl, rfl, rfl, rfl⟩
  · obtain ⟨b1, b2⟩ := a5 j hj
    rw [b1, b2, a2 21 (by decide) (by decide)]
    exact ⟨rfl, rfl, rfl⟩
/-- record adds the stage that the class holds in its rows -/
theorem rec_hR {B : bT} {r t : Nat} {kd wh : Int32} {ex : Int64} {SX SM : sc_M} (hB : bOK B) (ht : t < 72) (hM : bM B SM) (e6 : sc_gi SM 6 = nI t) (h : hR B r t SX SM)
    (h1 : sc_ga SX 12 t = kd ∧ sc_ga SX 13 t = wh ∧ sc_gb SX 15 t = sc_gj SM 1 ∧ sc_gb SX 16 t = sc_gj SM 2 ∧ sc_ga SX 14 t = sc_gi SM 7 ∧ sc_gb SX 17 t = sc_gj SM 0 ∧ sc_gb SX 18 t = ex)
    (h2 : ∀ c, c < bN B → sc_gb SX 19 (12 * t + c) = sc_gb SM 21 c ∧ sc_ga SX 20 (12 * t + c) = sc_ga SM 22 c ∧ vOK (sc_gb SX 19 (12 * t + c)))
    (h3 : r < 3 → kd < 3 ∧ ∀ p, p < bP B → (0 ≤ sc_ga SM 24 p → sc_ga SX 22 (80 * t + p) = sc_ga SM 24 p ∧ sc_ga SX 23 (80 * t + p) = (sc_gb SM 25 p).toInt32) ∧ (sc_ga SM 24 p < 0 → sc_ga SX 22 (80 * t + p) = -9 ∧ sc_ga SX 23 (80 * t + p) = 0))
    (h4 : r = 3 → ∀ c, c < bN B → sc_ga SM 22 c ≠ 3 → sc_ga SX 21 (12 * t + c) = (sc_gb SM 16 (12 * t + c)).toInt32) :
    ∃ SM', fn_X5_record SM kd wh ex = some SM' ∧ hR B r (t + 1) SX SM' ∧ rMf t SM SM' ∧ sc_gi SM' 6 = nI (t + 1) := by
  have hn := hB.1.2.1
  have hnp := hB.1.2.2
  obtain ⟨S', a1, a2, a3, ⟨b1, b2, b3, b4, b5, b6, b7⟩, a5, a6⟩ := rec_M (kd := kd) (wh := wh) (ex := ex) hn hnp ht hM.1 hM.2.1 e6
  obtain ⟨g1, g2, g3, g4⟩ := hR_f hn hnp (hKX_rfl t SX) (hKM_r a2) h
  refine ⟨S', a1, ⟨fun i hi => ?_, fun i hi c hc => ?_, fun hr i hi p hp => ?_, fun hr i hi c hc => ?_⟩, a2, a3⟩
  · by_cases hit : i = t
    · rw [hit, b1, b2, b3, b4, b5, b6, b7]; exact h1
    · exact g1 i (by omega)
  · by_cases hit : i = t
    · obtain ⟨c1, c2, c3⟩ := a5 c hc
      obtain ⟨d1, d2, d3⟩ := h2 c hc
      rw [hit, c1, c2, c3]
      exact ⟨d1, d2, rfl, d3⟩
    · exact g2 i (by omega) c hc
  · by_cases hit : i = t
    · obtain ⟨k1, k2⟩ := h3 hr
      obtain ⟨c1, c2, c3⟩ := a6 k1 p hp
      obtain ⟨d1, d2⟩ := k2 p hp
      rw [hit, c1]
      by_cases h0 : 0 ≤ sc_ga SM 24 p
      · rw [c2 h0]
        exact ⟨fun _ => (d1 h0).1, fun q => absurd h0 (Int32.not_le.mpr q), (d1 h0).2⟩
      · rw [c3 h0]
        have hneg := Int32.not_le.mp h0
        exact ⟨fun q => absurd q h0, fun _ => (d2 hneg).1, (d2 hneg).2⟩
    · exact g3 hr i (by omega) p hp
  · by_cases hit : i = t
    · obtain ⟨c1, c2, c3⟩ := a5 c hc
      rw [hit, c2, a2.2.2.2.1 16 (by decide) (by decide) (by decide) (by decide) (by decide) (by decide) (by decide)]
      exact h4 hr c hc
    · exact g4 hr i (by omega) c hc
