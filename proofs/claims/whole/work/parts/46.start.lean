/-! ===== the start ===== -/
theorem so_init : ∃ SX SM, fn_X0_open sc_Z (3 : Int32) = some SX ∧ fn_X5_begin sc_Z (3 : Int32) = some SM ∧ sRel (sc_X0 SX) (sc_mi SM 2 (-9)) := by
  obtain ⟨SX, x1, x2, x3, x4, x5, x6, x7⟩ := xo_run sc_Z (3 : Int32)
  obtain ⟨SM, m1, m2, m3, m4, m5, m6, m7⟩ := mo_run sc_Z (3 : Int32)
  refine ⟨SX, SM, x1, m1, bEmpty 3, bEmpty_ok (by decide) (by decide), ⟨x2, x3, fun c hc => (x7 c hc).1, fun c hc => (x7 c hc).2, fun p hp => absurd hp (Nat.not_lt_zero p)⟩, ⟨?_, ?_, fun c hc => ?_, fun c hc => ?_, fun p hp => absurd hp (Nat.not_lt_zero p)⟩, ?_⟩
  · rw [sa_gi_n _ _ _ _ (by decide)]; exact m2
  · rw [sa_gi_n _ _ _ _ (by decide)]; exact m3
  · rw [sa_ga_i]; exact (m7 c hc).1
  · rw [sa_ga_i]; exact (m7 c hc).2
  · refine ⟨0, 0, 0, 0, ⟨by decide, by decide, by decide, by decide⟩, ⟨rfl, ?_, rfl, ?_, rfl, ?_, ?_⟩, Or.inl ⟨sa_gi_s _ _ _, rfl⟩, fun k hk => absurd hk (Nat.not_lt_zero k), fun i hi => absurd hi (Nat.not_lt_zero i), fun i hi => absurd hi (Nat.not_lt_zero i)⟩
    · rw [sa_gi_n _ _ _ _ (by decide), m4 6 (by decide)]; rfl
    · rw [sa_gi_n _ _ _ _ (by decide), m4 4 (by decide)]; rfl
    · rw [sa_gi_n _ _ _ _ (by decide), m4 7 (by decide)]; rfl
    · rw [sa_gi_s]; rfl
/-! ===== bits: one of 16 ===== -/
def oB (d : Nat) : Int32 := (1 : Int32) <<< (nI d &&& 31)
theorem oB_ne : ∀ d, d < 16 → oB d ≠ 0 := by decide
theorem oB_and : ∀ d, d < 16 → ∀ e, e < 16 → d ≠ e → oB d &&& oB e = 0 := by decide
theorem oB_self (d : Nat) : oB d &&& oB d = oB d := by simp
theorem o_or {x y : Int32} : x ||| y = 0 ↔ x = 0 ∧ y = 0 := by
  constructor
  · intro h
    have hb : x.toBitVec ||| y.toBitVec = 0#32 := congrArg Int32.toBitVec h
    rw [BitVec.or_eq_zero_iff] at hb
    exact ⟨Int32.toBitVec_inj.mp hb.1, Int32.toBitVec_inj.mp hb.2⟩
  · rintro ⟨rfl, rfl⟩; rfl
theorem oB_add {x : Int32} {d e : Nat} (hd : d < 16) (he : e < 16) : ((x ||| oB d) &&& oB e) = 0 ↔ (x &&& oB e) = 0 ∧ d ≠ e := by
  have hdis : (x ||| oB d) &&& oB e = (x &&& oB e) ||| (oB d &&& oB e) := by
    apply Int32.toBitVec_inj.mp
    show (x.toBitVec ||| (oB d).toBitVec) &&& (oB e).toBitVec = (x.toBitVec &&& (oB e).toBitVec) ||| ((oB d).toBitVec &&& (oB e).toBitVec)
    ext i hi
    simp only [BitVec.getElem_and, BitVec.getElem_or]
    exact Bool.and_or_distrib_right _ _ _
  rw [hdis, o_or]
  constructor
  · rintro ⟨h1, h2⟩
    refine ⟨h1, fun h => ?_⟩
    subst h
    rw [oB_self] at h2
    exact oB_ne d hd h2
  · rintro ⟨h1, h2⟩
    exact ⟨h1, oB_and d hd e he h2⟩
theorem oB_zero (e : Nat) : (0 : Int32) &&& oB e = 0 := by simp
/-! ===== digits ===== -/
def dgE (x : Int64) (k : Int32) : Int32 := ((x.toUInt64 >>> (((4 : Int32) * k).toInt64.toUInt64 &&& Int64.toUInt64 63)).toInt64 &&& (15 : Int64)).toInt32
theorem dg_and (y : Int64) : ∃ j : Nat, j < 16 ∧ (y &&& (15 : Int64)).toInt32 = nI j := by
  refine ⟨(y &&& (15 : Int64)).toBitVec.toNat, ?_, ?_⟩
  · have : (y &&& (15 : Int64)).toBitVec.toNat = y.toBitVec.toNat &&& 15 := by
      show (y.toBitVec &&& (15 : Int64).toBitVec).toNat = _
      rw [BitVec.toNat_and]; rfl
    rw [this]
    exact Nat.and_lt_two_pow _ (show 15 < 2 ^ 4 by decide)
  · have hlt : (y &&& (15 : Int64)).toBitVec.toNat < 16 := by
      have : (y &&& (15 : Int64)).toBitVec.toNat = y.toBitVec.toNat &&& 15 := by
        show (y.toBitVec &&& (15 : Int64).toBitVec).toNat = _
        rw [BitVec.toNat_and]; rfl
      rw [this]
      exact Nat.and_lt_two_pow _ (show 15 < 2 ^ 4 by decide)
    have e : (y &&& (15 : Int64)) = lN (y &&& (15 : Int64)).toBitVec.toNat := by
      apply Int64.toBitVec_inj.mp
      show _ = BitVec.ofNat 64 _
      rw [BitVec.ofNat_toNat, BitVec.setWidth_eq]
    generalize (y &&& (15 : Int64)).toBitVec.toNat = j at *
    rw [e, lN_i]
theorem dg_lt (x : Int64) (k : Int32) : ∃ j : Nat, j < 16 ∧ dgE x k = nI j := dg_and _
noncomputable def dg (x : Int64) (k : Nat) : Nat := (dg_lt x (nI k)).choose
theorem dg_16 (x : Int64) (k : Nat) : dg x k < 16 := (dg_lt x (nI k)).choose_spec.1
theorem dg_e (x : Int64) (k : Nat) : dgE x (nI k) = nI (dg x k) := (dg_lt x (nI k)).choose_spec.2
theorem dg_X (S : sc_M) (x : Int64) (k : Nat) : fn_X0_digitOf S x (nI k) = some (nI (dg x k), S) := by rw [← dg_e]; rfl
