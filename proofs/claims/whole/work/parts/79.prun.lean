/-! ===== the count by rules 0 to 2 ===== -/
abbrev Hx (S : sc_M) : Nat → Nat → Int64 := fun i c => sc_gb S 19 (12 * i + c)
theorem vOK_N {x : Nat} (h : x < 2 ^ 60) : vOK (lN x) := by
  unfold vOK
  rw [pk_lT (by omega)]
  omega
theorem hasX_p {B : bT} {r t : Nat} {SX S : sc_M} (hB : bOK B) (hr : r < 3) (ht : t < 72) (er : sc_gi S 2 = nI r) (e5 : sc_gi S 5 = nI (t + 1)) (hl : ∀ c, c < bN B → sc_ga S 11 c = bL B c) (e19 : sc_gb S 19 = sc_gb SX 19) (hH : ∀ i, i < t + 1 → ∀ c, c < bN B → vOK (Hx SX i c)) : ∀ a b, a < bN B → b < bN B → fn_X1_hasMore S (nI a) (nI b) = some (b2i (hm (Hx SX) (bL B) a b (t + 1)), S) :=
  fun _ _ ha hb => hmX_p hB.1.2.1 ha hb hr er e5 (by omega) hl (fun i hi c hc => ⟨by rw [e19], hH i hi c hc⟩)
theorem hasM_p {B : bT} {r t : Nat} {SX S : sc_M} (hB : bOK B) (hr : r < 3) (ht : t < 72) (hM : bM B S) (er : sc_gi S 2 = nI r) (e6 : sc_gi S 6 = nI t) (hv : ∀ c, c < bN B → sc_gb S 21 c = Hx SX t c) (hH : ∀ i, i < t → ∀ c, c < bN B → sc_gb S 14 (12 * i + c) = Hx SX i c) : ∀ a b, a < bN B → b < bN B → fn_X5_hasMore S (nI a) (nI b) = some (b2i (hm (Hx SX) (bL B) a b (t + 1)), S) := by
  intro a b ha hb
  have hn := hB.1.2.1
  rw [hmM_p (v := Hx SX t) (H := Hx SX) (lo := bL B) hn ha hb hr er e6 (by omega) (fun c hc => hM.2.2.2.1 c (by omega)) hv hH, hv_new (Hx SX t) (Hx SX) (bL B) a b t (fun _ => rfl)]
theorem hasM_q {B : bT} {r t : Nat} {SX S : sc_M} (hB : bOK B) (hr : r < 3) (ht : t < 72) (hM : bM B S) (er : sc_gi S 2 = nI r) (e6 : sc_gi S 6 = nI (t + 1)) (hv : ∀ c, c < bN B → sc_gb S 21 c = Hx SX t c) (hH : ∀ i, i < t + 1 → ∀ c, c < bN B → sc_gb S 14 (12 * i + c) = Hx SX i c) : ∀ a b, a < bN B → b < bN B → fn_X5_hasMore S (nI a) (nI b) = some (b2i (hm (Hx SX) (bL B) a b (t + 1)), S) := by
  intro a b ha hb
  have hn := hB.1.2.1
  rw [hmM_p (v := Hx SX t) (H := Hx SX) (lo := bL B) hn ha hb hr er e6 (by omega) (fun c hc => hM.2.2.2.1 c (by omega)) hv hH, hv_twice (Hx SX t) (Hx SX) (bL B) a b t (fun _ => rfl)]
def zR (B : bT) (r s t el q : Nat) (u : Nat → Int32) (v : Nat → Nat) (pl : Nat → Option Nat) (vl cm : Nat → Nat) (kd wh : Int32) (SX SM : sc_M) : Prop :=
  wR B t (bP B) u v pl vl cm SX SM ∧ pI B q (bN B) u v pl ∧
  (sc_gi SX 2 = nI r ∧ sc_gi SM 2 = nI r ∧ sc_gi SX 3 = nI s ∧ sc_gi SM 3 = nI s ∧ sc_gi SX 4 = nI (bN B) ∧ sc_gi SM 4 = nI (bN B) ∧ sc_gi SM 5 = nI (bP B) ∧ sc_gi SX 7 = nI el ∧ sc_gi SM 7 = nI el) ∧
  (sc_gb SX 16 t = sc_gj SM 2 ∧ sc_gb SX 17 t = lN q ∧ sc_gj SM 0 = lN q ∧ sc_ga SX 12 t = kd ∧ sc_ga SX 13 t = wh ∧ sc_gb SX 18 t = 0) ∧
  (∀ c, c < bN B → sc_ga SX 11 c = bL B c) ∧ (∀ k, k < el → sc_ga SX 10 k = sc_ga SM 20 k) ∧ hR B r t SX SM ∧ el + hpN u (bN B) ≤ bN B
theorem v_bound {B : bT} {q : Nat} {u : Nat → Int32} {v : Nat → Nat} {pl : Nat → Option Nat} (hB : bOK B) (hq : q ≤ 4000000000) (hI : pI B q (bN B) u v pl) : ∀ c, c < bN B → v c ≤ 4000000000 := by
  intro c hc
  by_cases h : q < v c
  · have h1 := hI c hc (by omega) (Or.inr h)
    have h2 := ppB_le hB pl c
    omega
  · omega
theorem zR_H {B : bT} {r s t el q : Nat} {u : Nat → Int32} {v : Nat → Nat} {pl : Nat → Option Nat} {vl cm : Nat → Nat} {kd wh : Int32} {SX SM : sc_M} (hB : bOK B) (hq : q ≤ 4000000000) (h : zR B r s t el q u v pl vl cm kd wh SX SM) : ∀ i, i < t + 1 → ∀ c, c < bN B → vOK (Hx SX i c) := by
  obtain ⟨hw, hI, -, -, -, -, hh, -⟩ := h
  intro i hi c hc
  by_cases hit : i = t
  · have := v_bound hB hq hI c hc
    show vOK (sc_gb SX 19 (12 * i + c))
    rw [hit, (hw.2.2.2.1 c hc).1]
    exact vOK_N (by omega)
  · exact (hh.2.1 i (by omega) c hc).2.2.2
theorem zR_settle {B : bT} {r s t el q : Nat} {u : Nat → Int32} {v : Nat → Nat} {pl : Nat → Option Nat} {vl cm : Nat → Nat} {kd wh : Int32} {SX SM : sc_M} (hB : bOK B) (hr : r < 3) (hs : s ≤ 12) (ht : t < 13) (hq : q ≤ 4000000000) (h : zR B r s t el q u v pl vl cm kd wh SX SM) :
    ∃ (over : Bool) (u' : Nat → Int32) (el' : Nat) (SX' SM' : sc_M), fn_X1_settle SX = some (b2i over, SX') ∧ fn_X5_ends SM = some (b2i over, SM') ∧ zR B r s t el' q u' v pl vl cm kd wh SX' SM' ∧ sc_ga SX' 14 t = nI el' ∧ (∀ c, c < bN B → u' c = u c ∨ (u c = 0 ∧ u' c = 1)) ∧ (over = false → ∃ c, c < bN B ∧ u' c = 0) := by
  have hn := hB.1.2.1
  have hnp := hB.1.2.2
  have hH := zR_H hB hq h
  obtain ⟨hw, hI, ⟨g1, g2, g3, g4, g5, g6, g7, g8, g9⟩, ⟨k1, k2, k3, k4, k5, k6⟩, hl, ho, hh, hle⟩ := h
  obtain ⟨⟨hX, hM⟩, ⟨e5, e6, e8, e9, m6⟩, hu, hv, hid, hpp⟩ := hw
  have hvb := v_bound hB hq hI
  have HX : ∀ S, eXf t SX S → ∀ a b, a < bN B → b < bN B → fn_X1_hasMore S (nI a) (nI b) = some (b2i (hm (Hx SX) (bL B) a b (t + 1)), S) := fun S hS => hasX_p hB hr (by omega) (by rw [hS.1 2 (by decide)]; exact g1) (by rw [hS.1 5 (by decide)]; exact e5) (fun c hc => by rw [hS.2.1 11 (by decide) (by decide)]; exact hl c hc) (hS.2.2.1 19) hH
  have HM : ∀ S, eMf SM S → ∀ a b, a < bN B → b < bN B → fn_X5_hasMore S (nI a) (nI b) = some (b2i (hm (Hx SX) (bL B) a b (t + 1)), S) := fun S hS => hasM_p hB hr (by omega) (bM_f (fun k hk => hS.1 k (by omega)) (fun k hk => hS.2.1 k (by omega) (by omega)) hM) (by rw [hS.1 2 (by decide)]; exact g2) (by rw [hS.1 6 (by decide)]; exact m6) (fun c hc => by rw [hS.2.2.1 21, (hv c hc).2]; exact ((hv c hc).1).symm) (fun i hi c hc => by rw [hS.2.2.1 14]; exact ((hh.2.1 i hi c hc).1).symm)
  obtain ⟨over, u', el', X1, M1, a1, a2, a3, a4, a5, a6, a7, a8, a9, a10, a11⟩ := se_both (v := fun c => lN (v c)) hn (show t < 72 by omega) hs HX HM hle ⟨⟨g5, e6, g8, hM.1, g9⟩, hu, hv, ho⟩ e5 g3 g4 (by rw [k2, k3]) (fun c hc => by
    have := hvb c hc
    rw [sa_L0, pk_lLT (by omega) (by omega)]
    omega)
  obtain ⟨⟨b1, b2, b3, b4, b5⟩, bu, bv, bo⟩ := a3
  have a4' := a4
  have a5' := a5
  obtain ⟨x1, x2, x3, x4, x5⟩ := a4
  obtain ⟨y1, y2, y3, y4⟩ := a5
  refine ⟨over, u', el', X1, M1, a1, a2, ⟨⟨⟨?_, ?_⟩, ⟨?_, ?_, ?_, ?_, ?_⟩, bu, bv, ?_, fun p hp => ?_⟩, ?_, ⟨?_, ?_, ?_, ?_, ?_, ?_, ?_, b3, b5⟩, ⟨?_, ?_, ?_, ?_, ?_, ?_⟩, ?_, bo, ?_, ?_⟩, a6, a8, fun h0 => (a9 h0).2⟩
  · exact bX_f (fun k hk => x1 k (by omega)) (fun k hk => x2 k (by omega) (by omega) (by omega)) hX
  · exact bM_f (fun k hk => y1 k (by omega)) (fun k hk => y2 k (by omega) (by omega)) hM
  · rw [x1 5 (by decide)]; exact e5
  · rw [x1 6 (by decide)]; exact e6
  · rw [x1 8 (by decide)]; exact e8
  · rw [x1 9 (by decide)]; exact e9
  · rw [y1 6 (by decide)]; exact m6
  · rw [x3, y4]; exact hid
  · have := hpp p hp
    unfold pR at this ⊢
    rw [y2 24 (by decide) (by decide), y2 26 (by decide) (by decide), y3 25, x2 22 (by decide) (by decide) (by decide), x2 23 (by decide) (by decide) (by decide), x2 24 (by decide) (by decide) (by decide)]
    exact this
  · intro c hc hcn hor
    refine hI c hc hcn ?_
    rcases a8 c hc with e | ⟨e1, e2⟩
    · rw [e] at hor; exact hor
    · exact Or.inl e1
  · rw [x1 2 (by decide)]; exact g1
  · rw [y1 2 (by decide)]; exact g2
  · rw [x1 3 (by decide)]; exact g3
  · rw [y1 3 (by decide)]; exact g4
  · rw [x1 4 (by decide)]; exact g5
  · rw [y1 4 (by decide)]; exact g6
  · rw [y1 5 (by decide)]; exact g7
  · rw [x3, y4]; exact k1
  · rw [x3]; exact k2
  · rw [y4]; exact k3
  · rw [x2 12 (by decide) (by decide) (by decide)]; exact k4
  · rw [x2 13 (by decide) (by decide) (by decide)]; exact k5
  · rw [x3]; exact k6
  · intro c hc; rw [x2 11 (by decide) (by decide) (by decide)]; exact hl c hc
  · exact hR_f hn hnp (hKX_g a4') (hKM_e a5') hh
  · omega
theorem zR_rec {B : bT} {r s t el q : Nat} {u : Nat → Int32} {v : Nat → Nat} {pl : Nat → Option Nat} {vl cm : Nat → Nat} {kd wh : Int32} {SX SM : sc_M} (hB : bOK B) (hr : r < 3) (ht : t < 13) (hq : q ≤ 4000000000) (hk : kd < 3) (h : zR B r s t el q u v pl vl cm kd wh SX SM) (h14 : sc_ga SX 14 t = nI el) :
    ∃ SM', fn_X5_record SM kd wh 0 = some SM' ∧ hR B r (t + 1) SX SM' ∧ rMf t SM SM' ∧ sc_gi SM' 6 = nI (t + 1) := by
  have hH := zR_H hB hq h
  obtain ⟨hw, hI, ⟨g1, g2, g3, g4, g5, g6, g7, g8, g9⟩, ⟨k1, k2, k3, k4, k5, k6⟩, hl, ho, hh, hle⟩ := h
  obtain ⟨⟨hX, hM⟩, ⟨e5, e6, e8, e9, m6⟩, hu, hv, hid, hpp⟩ := hw
  refine rec_hR hB (by omega) hM m6 hh ⟨k4, k5, hid, k1, by rw [h14, g9], by rw [k2, k3], k6⟩ (fun c hc => ⟨by rw [(hv c hc).1, (hv c hc).2], by rw [(hu c hc).1, (hu c hc).2], hH t (by omega) c hc⟩) (fun _ => ⟨hk, fun p hp => ?_⟩) (fun h3 => by omega)
  obtain ⟨p1, p2, p3, p4⟩ := hpp p hp
  rw [p1]
  cases hpl : pl p with
  | none =>
    rw [hpl] at p2
    exact ⟨fun q => absurd q (by decide), fun _ => ⟨p2, p3 hpl⟩⟩
  | some d =>
    obtain ⟨q1, q2, q3, q4, q5, q6, q7⟩ := p4 d hpl
    have hn := hB.1.2.1
    rw [hpl] at p2
    exact ⟨fun _ => ⟨p2, by rw [q4, q5, lN_i]⟩, fun q => absurd q (n_nlt0 (by omega))⟩
/-- what a count leaves -/
def fin (B : bT) (r : Nat) (SX SM : sc_M) : Prop := ∃ st el : Nat, (1 ≤ st ∧ st ≤ 72 ∧ (r < 3 → st ≤ 13)) ∧ el ≤ 12 ∧ (bX B SX ∧ bM B SM) ∧ (sc_gi SX 5 = nI st ∧ sc_gi SM 6 = nI st ∧ sc_gi SX 4 = nI (bN B) ∧ sc_gi SM 4 = nI (bN B) ∧ sc_gi SX 7 = nI el ∧ sc_gi SM 7 = nI el ∧ sc_gi SX 2 = nI r ∧ sc_gi SM 2 = nI r) ∧ (r < 3 → sc_gi SX 8 = nI (bP B) ∧ sc_gi SM 5 = nI (bP B)) ∧ (∀ k, k < el → sc_ga SX 10 k = sc_ga SM 20 k) ∧ hR B r st SX SM
def phF (u : Nat → Int32) (v : Nat → Nat) (q n : Nat) : Nat := cnP (fun c => decide (u c = 0) || (decide (u c = 1) && decide (q < v c))) n
theorem ph_lt {u u' : Nat → Int32} {v v' : Nat → Nat} {q n b : Nat} (h1 : ∀ c, c < n → c ≠ b → u' c = 0 → u c = 0) (h2 : ∀ c, c < n → c ≠ b → u' c = 1 → q < v' c → u c = 0 ∨ (u c = 1 ∧ q < v c)) (hb : b < n) (h3 : u' b ≠ 0) (h4 : u' b = 1 → ¬ q < v' b) (h5 : u b = 0 ∨ (u b = 1 ∧ q < v b)) : phF u' v' q n + 1 ≤ phF u v q n := by
  refine cnP_lt (b := b) n (fun c hc hp => ?_) hb ?_ ?_
  · by_cases hcb : c = b
    · rw [hcb]
      rcases h5 with e | ⟨e1, e2⟩
      · simp [e]
      · simp [e1, e2]
    · simp only [Bool.or_eq_true, Bool.and_eq_true, decide_eq_true_eq] at hp ⊢
      rcases hp with e | ⟨e1, e2⟩
      · exact Or.inl (h1 c hc hcb e)
      · exact h2 c hc hcb e1 e2
  · simp only [Bool.or_eq_false_iff, Bool.and_eq_false_iff, decide_eq_false_iff_not]
    refine ⟨h3, ?_⟩
    by_cases e : u' b = 1
    · exact Or.inr (h4 e)
    · exact Or.inl e
  · rcases h5 with e | ⟨e1, e2⟩
    · simp [e]
    · simp [e1, e2]
