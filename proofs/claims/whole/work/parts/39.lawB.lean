set_option maxHeartbeats 4000000 in
set_option maxRecDepth 100000 in
theorem lc_candidates {p : Program} {l : Launch} {e : Env} {s : State} {m : MethodId} {below : List Frame} {meth : Method} {c : Code} {b L : Nat} {xs : Nat → Int32} {dC : Nat → ClassId} {dI : Nat → Nat → Nat} {hX hM : Nat → Nat} {cX cM : Nat → ClassId} {Rel : sc_M → sc_M → Prop} (hsim : sm_all Rel) (hL : L ≤ 2560) (C0 : CallFix p m c code 4 s #[Value.ref b] wsL_law RL) (hXs : va_X b L xs s s.heap) (hbl : b < s.heap.size) (hF : lw_F dC dI s hX cX hM cM) {i : Nat} (hi : i + 5 ≤ L) (hend : ∀ (SX SM : sc_M) (H : Heap) (locs : List Loc) (ls : Array Slot), Rel SX SM → lw_W dC dI s hX cX hM cM H locs SX SM → lv_has ls 4 [(0, .ref b), (1, .ref (hX 0)), (2, .ref (hM 0)), (3, .int (nI i))] → W p l e room_1 s m #[Value.ref b] below meth c H locs 54 29131 (lw_Z below #[Value.ref b] s) (F0 m 835 ls [])) : ∀ (SX SM : sc_M) (H : Heap) (locs : List Loc) (ls : Array Slot), Rel SX SM → lw_W dC dI s hX cX hM cM H locs SX SM → lv_has ls 4 [(0, .ref b), (1, .ref (hX 0)), (2, .ref (hM 0)), (3, .int (nI i))] → W p l e room_1 s m #[Value.ref b] below meth c H locs 54 29131 (lw_Z below #[Value.ref b] s) (F0 m 132 ls []) := by
  obtain ⟨hx, hb, hml, hown, hts⟩ := id C0
  have hbA : ¬ lw_A s b := Nat.not_le.mpr hbl
  intro SX SM H locs ls hrel hW hl
  refine lv_aload_n hx hb dL_law_132 rfl (lv_at hl 1 rfl) ?_
  refine lv_aload_n hx hb dL_law_133 rfl (lv_at hl 0 rfl) ?_
  refine lv_iload_n hx hb dL_law_134 rfl (lv_at hl 3 rfl) ?_
  refine lv_iconst (v := (1 : Int32)) hx hb dL_law_135 (by decide) ?_
  refine lv_iadd hx hb dL_law_136 ?_
  refine va_sld hx hb hXs hbl hbA hW.2.2.2.2 (lw_in hL (show i + 1 < L by omega) rfl) dL_law_137 ?_
  obtain ⟨r, SX1, SM1, hfx, hfm, hrel1⟩ := hsim.1 SX SM ((xs ((nI i + (1 : Int32))).toNatClampNeg)) hrel
  refine sc_inVi (E := sc_EX dC dI hX cX) (A := lw_A s) (As := [.int (xs ((nI i + (1 : Int32))).toNatClampNeg)]) (rest := []) (q0 := 0) (ci := 3) sc_okX C0 hF.1 hW.1 hW.2.1 hW.2.2.2.2 hF.2.2.1 (sc_AEX hW.2.1 (fun q h => Nat.le_trans hW.2.2.2.2.1 h)) (ct_X4_candidates hfx) (cwV 1 hts gL_law_X4_candidates rfl rfl rfl (by decide +kernel) ⟨Nat.le_of_ble_eq_true rfl, Nat.le_of_ble_eq_true rfl⟩) rfl rfl rfl rfl hl.1 rfl (Nat.le_of_ble_eq_true rfl) dL_law_138 (Nat.le_refl _) (Nat.le_refl _) (fun H1 locs1 hz hk1 hP1 hD1 hS1 => ?_)
  replace hW : lw_W dC dI s hX cX hM cM H1 locs1 SX1 SM := ⟨hP1, hD1, sc_keepM hW.2.2.1 hF.2.2.2.1 hk1, hW.2.2.2.1, hS1⟩
  refine lv_aload_n hx hb dL_law_141 rfl (lv_at hl 2 rfl) ?_
  refine lv_aload_n hx hb dL_law_142 rfl (lv_at hl 0 rfl) ?_
  refine lv_iload_n hx hb dL_law_143 rfl (lv_at hl 3 rfl) ?_
  refine lv_iconst (v := (1 : Int32)) hx hb dL_law_144 (by decide) ?_
  refine lv_iadd hx hb dL_law_145 ?_
  refine va_sld hx hb hXs hbl hbA hW.2.2.2.2 (lw_in hL (show i + 1 < L by omega) rfl) dL_law_146 ?_
  refine sc_inVi (E := sc_EM dC dI hM cM) (A := lw_A s) (As := [.int (xs ((nI i + (1 : Int32))).toNatClampNeg)]) (rest := [.int r]) (q0 := 0) (ci := 4) sc_okM C0 hF.2.1 hW.2.2.1 hW.2.2.2.1 hW.2.2.2.2 trivial (sc_AEM hW.2.2.2.1 (fun q h => Nat.le_trans hW.2.2.2.2.1 h)) (ct_X5_candidates hfm) (cwV 1 hts gL_law_X5_candidates rfl rfl rfl (by decide +kernel) ⟨Nat.le_of_ble_eq_true rfl, Nat.le_of_ble_eq_true rfl⟩) rfl rfl rfl rfl hl.1 rfl (Nat.le_of_ble_eq_true rfl) dL_law_147 (Nat.le_refl _) (Nat.le_refl _) (fun H1 locs1 hz hk1 hP1 hD1 hS1 => ?_)
  replace hW : lw_W dC dI s hX cX hM cM H1 locs1 SX1 SM1 := ⟨sc_keepX hW.1 hF.2.2.2.2 hk1, hW.2.1, hP1, hD1, hS1⟩
  refine lv_icmp_eq (tgt := 835) hx hb dL_law_150 (by decide) (fun _ => ?_) (fun hc => absurd rfl hc)
  exact hend _ _ _ _ _ hrel1 hW hl
set_option maxHeartbeats 4000000 in
set_option maxRecDepth 100000 in
theorem lc_withdraw {p : Program} {l : Launch} {e : Env} {s : State} {m : MethodId} {below : List Frame} {meth : Method} {c : Code} {b L : Nat} {xs : Nat → Int32} {dC : Nat → ClassId} {dI : Nat → Nat → Nat} {hX hM : Nat → Nat} {cX cM : Nat → ClassId} {Rel : sc_M → sc_M → Prop} (hsim : sm_all Rel) (hL : L ≤ 2560) (C0 : CallFix p m c code 4 s #[Value.ref b] wsL_law RL) (hXs : va_X b L xs s s.heap) (hbl : b < s.heap.size) (hF : lw_F dC dI s hX cX hM cM) {i : Nat} (hi : i + 5 ≤ L) (hend : ∀ (SX SM : sc_M) (H : Heap) (locs : List Loc) (ls : Array Slot), Rel SX SM → lw_W dC dI s hX cX hM cM H locs SX SM → lv_has ls 4 [(0, .ref b), (1, .ref (hX 0)), (2, .ref (hM 0)), (3, .int (nI i))] → W p l e room_1 s m #[Value.ref b] below meth c H locs 54 29131 (lw_Z below #[Value.ref b] s) (F0 m 835 ls [])) : ∀ (SX SM : sc_M) (H : Heap) (locs : List Loc) (ls : Array Slot), Rel SX SM → lw_W dC dI s hX cX hM cM H locs SX SM → lv_has ls 4 [(0, .ref b), (1, .ref (hX 0)), (2, .ref (hM 0)), (3, .int (nI i))] → W p l e room_1 s m #[Value.ref b] below meth c H locs 54 29131 (lw_Z below #[Value.ref b] s) (F0 m 155 ls []) := by
  obtain ⟨hx, hb, hml, hown, hts⟩ := id C0
  have hbA : ¬ lw_A s b := Nat.not_le.mpr hbl
  intro SX SM H locs ls hrel hW hl
  refine lv_aload_n hx hb dL_law_155 rfl (lv_at hl 1 rfl) ?_
  refine lv_aload_n hx hb dL_law_156 rfl (lv_at hl 0 rfl) ?_
  refine lv_iload_n hx hb dL_law_157 rfl (lv_at hl 3 rfl) ?_
  refine lv_iconst (v := (1 : Int32)) hx hb dL_law_158 (by decide) ?_
  refine lv_iadd hx hb dL_law_159 ?_
  refine va_sld hx hb hXs hbl hbA hW.2.2.2.2 (lw_in hL (show i + 1 < L by omega) rfl) dL_law_160 ?_
  refine lv_aload_n hx hb dL_law_161 rfl (lv_at hl 0 rfl) ?_
  refine lv_iload_n hx hb dL_law_162 rfl (lv_at hl 3 rfl) ?_
  refine lv_iconst (v := (2 : Int32)) hx hb dL_law_163 (by decide) ?_
  refine lv_iadd hx hb dL_law_164 ?_
  refine va_sld hx hb hXs hbl hbA hW.2.2.2.2 (lw_in hL (show i + 2 < L by omega) rfl) dL_law_165 ?_
  refine lv_if_eq (tgt := 173) hx hb dL_law_166 (by decide) (fun hc1 => ?_) (fun hc1 => ?_)
  · refine lv_iconst (v := (0 : Int32)) hx hb dL_law_173 (by decide) ?_
    obtain ⟨r, SX1, SM1, hfx, hfm, hrel1⟩ := hsim.2.1 SX SM ((xs ((nI i + (1 : Int32))).toNatClampNeg)) ((0 : Int32)) hrel (Or.inl rfl)
    refine sc_inVi (E := sc_EX dC dI hX cX) (A := lw_A s) (As := [.int (xs ((nI i + (1 : Int32))).toNatClampNeg), .int (0 : Int32)]) (rest := []) (q0 := 0) (ci := 3) sc_okX C0 hF.1 hW.1 hW.2.1 hW.2.2.2.2 hF.2.2.1 (sc_AEX hW.2.1 (fun q h => Nat.le_trans hW.2.2.2.2.1 h)) (ct_X4_withdraw hfx) (cwV 2 hts gL_law_X4_withdraw rfl rfl rfl (by decide +kernel) ⟨Nat.le_of_ble_eq_true rfl, Nat.le_of_ble_eq_true rfl⟩) rfl rfl rfl rfl hl.1 rfl (Nat.le_of_ble_eq_true rfl) dL_law_174 (Nat.le_refl _) (Nat.le_refl _) (fun H1 locs1 hz hk1 hP1 hD1 hS1 => ?_)
    replace hW : lw_W dC dI s hX cX hM cM H1 locs1 SX1 SM := ⟨hP1, hD1, sc_keepM hW.2.2.1 hF.2.2.2.1 hk1, hW.2.2.2.1, hS1⟩
    refine lv_aload_n hx hb dL_law_177 rfl (lv_at hl 2 rfl) ?_
    refine lv_aload_n hx hb dL_law_178 rfl (lv_at hl 0 rfl) ?_
    refine lv_iload_n hx hb dL_law_179 rfl (lv_at hl 3 rfl) ?_
    refine lv_iconst (v := (1 : Int32)) hx hb dL_law_180 (by decide) ?_
    refine lv_iadd hx hb dL_law_181 ?_
    refine va_sld hx hb hXs hbl hbA hW.2.2.2.2 (lw_in hL (show i + 1 < L by omega) rfl) dL_law_182 ?_
    refine lv_aload_n hx hb dL_law_183 rfl (lv_at hl 0 rfl) ?_
    refine lv_iload_n hx hb dL_law_184 rfl (lv_at hl 3 rfl) ?_
    refine lv_iconst (v := (2 : Int32)) hx hb dL_law_185 (by decide) ?_
    refine lv_iadd hx hb dL_law_186 ?_
    refine va_sld hx hb hXs hbl hbA hW.2.2.2.2 (lw_in hL (show i + 2 < L by omega) rfl) dL_law_187 ?_
    refine lv_if_eq (tgt := 195) hx hb dL_law_188 (by decide) (fun _ => ?_) (fun hc2 => absurd hc1 hc2)
    refine lv_iconst (v := (0 : Int32)) hx hb dL_law_195 (by decide) ?_
    refine sc_inVi (E := sc_EM dC dI hM cM) (A := lw_A s) (As := [.int (xs ((nI i + (1 : Int32))).toNatClampNeg), .int (0 : Int32)]) (rest := [.int r]) (q0 := 0) (ci := 4) sc_okM C0 hF.2.1 hW.2.2.1 hW.2.2.2.1 hW.2.2.2.2 trivial (sc_AEM hW.2.2.2.1 (fun q h => Nat.le_trans hW.2.2.2.2.1 h)) (ct_X5_withdraw hfm) (cwV 2 hts gL_law_X5_withdraw rfl rfl rfl (by decide +kernel) ⟨Nat.le_of_ble_eq_true rfl, Nat.le_of_ble_eq_true rfl⟩) rfl rfl rfl rfl hl.1 rfl (Nat.le_of_ble_eq_true rfl) dL_law_196 (Nat.le_refl _) (Nat.le_refl _) (fun H1 locs1 hz hk1 hP1 hD1 hS1 => ?_)
    replace hW : lw_W dC dI s hX cX hM cM H1 locs1 SX1 SM1 := ⟨sc_keepX hW.1 hF.2.2.2.2 hk1, hW.2.1, hP1, hD1, hS1⟩
    refine lv_icmp_eq (tgt := 835) hx hb dL_law_199 (by decide) (fun _ => ?_) (fun hc => absurd rfl hc)
    exact hend _ _ _ _ _ hrel1 hW hl
  · refine lv_iconst (v := (1 : Int32)) hx hb dL_law_169 (by decide) ?_
    refine lv_goto (tgt := 174) hx hb dL_law_170 (by decide) ?_
    obtain ⟨r, SX1, SM1, hfx, hfm, hrel1⟩ := hsim.2.1 SX SM ((xs ((nI i + (1 : Int32))).toNatClampNeg)) ((1 : Int32)) hrel (Or.inr rfl)
    refine sc_inVi (E := sc_EX dC dI hX cX) (A := lw_A s) (As := [.int (xs ((nI i + (1 : Int32))).toNatClampNeg), .int (1 : Int32)]) (rest := []) (q0 := 0) (ci := 3) sc_okX C0 hF.1 hW.1 hW.2.1 hW.2.2.2.2 hF.2.2.1 (sc_AEX hW.2.1 (fun q h => Nat.le_trans hW.2.2.2.2.1 h)) (ct_X4_withdraw hfx) (cwV 2 hts gL_law_X4_withdraw rfl rfl rfl (by decide +kernel) ⟨Nat.le_of_ble_eq_true rfl, Nat.le_of_ble_eq_true rfl⟩) rfl rfl rfl rfl hl.1 rfl (Nat.le_of_ble_eq_true rfl) dL_law_174 (Nat.le_refl _) (Nat.le_refl _) (fun H1 locs1 hz hk1 hP1 hD1 hS1 => ?_)
    replace hW : lw_W dC dI s hX cX hM cM H1 locs1 SX1 SM := ⟨hP1, hD1, sc_keepM hW.2.2.1 hF.2.2.2.1 hk1, hW.2.2.2.1, hS1⟩
    refine lv_aload_n hx hb dL_law_177 rfl (lv_at hl 2 rfl) ?_
    refine lv_aload_n hx hb dL_law_178 rfl (lv_at hl 0 rfl) ?_
    refine lv_iload_n hx hb dL_law_179 rfl (lv_at hl 3 rfl) ?_
    refine lv_iconst (v := (1 : Int32)) hx hb dL_law_180 (by decide) ?_
    refine lv_iadd hx hb dL_law_181 ?_
    refine va_sld hx hb hXs hbl hbA hW.2.2.2.2 (lw_in hL (show i + 1 < L by omega) rfl) dL_law_182 ?_
    refine lv_aload_n hx hb dL_law_183 rfl (lv_at hl 0 rfl) ?_
    refine lv_iload_n hx hb dL_law_184 rfl (lv_at hl 3 rfl) ?_
    refine lv_iconst (v := (2 : Int32)) hx hb dL_law_185 (by decide) ?_
    refine lv_iadd hx hb dL_law_186 ?_
    refine va_sld hx hb hXs hbl hbA hW.2.2.2.2 (lw_in hL (show i + 2 < L by omega) rfl) dL_law_187 ?_
    refine lv_if_eq (tgt := 195) hx hb dL_law_188 (by decide) (fun hc2 => absurd hc2 hc1) (fun _ => ?_)
    refine lv_iconst (v := (1 : Int32)) hx hb dL_law_191 (by decide) ?_
    refine lv_goto (tgt := 196) hx hb dL_law_192 (by decide) ?_
    refine sc_inVi (E := sc_EM dC dI hM cM) (A := lw_A s) (As := [.int (xs ((nI i + (1 : Int32))).toNatClampNeg), .int (1 : Int32)]) (rest := [.int r]) (q0 := 0) (ci := 4) sc_okM C0 hF.2.1 hW.2.2.1 hW.2.2.2.1 hW.2.2.2.2 trivial (sc_AEM hW.2.2.2.1 (fun q h => Nat.le_trans hW.2.2.2.2.1 h)) (ct_X5_withdraw hfm) (cwV 2 hts gL_law_X5_withdraw rfl rfl rfl (by decide +kernel) ⟨Nat.le_of_ble_eq_true rfl, Nat.le_of_ble_eq_true rfl⟩) rfl rfl rfl rfl hl.1 rfl (Nat.le_of_ble_eq_true rfl) dL_law_196 (Nat.le_refl _) (Nat.le_refl _) (fun H1 locs1 hz hk1 hP1 hD1 hS1 => ?_)
    replace hW : lw_W dC dI s hX cX hM cM H1 locs1 SX1 SM1 := ⟨sc_keepX hW.1 hF.2.2.2.2 hk1, hW.2.1, hP1, hD1, hS1⟩
    refine lv_icmp_eq (tgt := 835) hx hb dL_law_199 (by decide) (fun _ => ?_) (fun hc => absurd rfl hc)
    exact hend _ _ _ _ _ hrel1 hW hl
set_option maxHeartbeats 4000000 in
set_option maxRecDepth 100000 in
theorem lc_lot {p : Program} {l : Launch} {e : Env} {s : State} {m : MethodId} {below : List Frame} {meth : Method} {c : Code} {b L : Nat} {xs : Nat → Int32} {dC : Nat → ClassId} {dI : Nat → Nat → Nat} {hX hM : Nat → Nat} {cX cM : Nat → ClassId} {Rel : sc_M → sc_M → Prop} (hsim : sm_all Rel) (hL : L ≤ 2560) (C0 : CallFix p m c code 4 s #[Value.ref b] wsL_law RL) (hXs : va_X b L xs s s.heap) (hbl : b < s.heap.size) (hF : lw_F dC dI s hX cX hM cM) {i : Nat} (hi : i + 5 ≤ L) (hend : ∀ (SX SM : sc_M) (H : Heap) (locs : List Loc) (ls : Array Slot), Rel SX SM → lw_W dC dI s hX cX hM cM H locs SX SM → lv_has ls 4 [(0, .ref b), (1, .ref (hX 0)), (2, .ref (hM 0)), (3, .int (nI i))] → W p l e room_1 s m #[Value.ref b] below meth c H locs 54 29131 (lw_Z below #[Value.ref b] s) (F0 m 835 ls [])) : ∀ (SX SM : sc_M) (H : Heap) (locs : List Loc) (ls : Array Slot), Rel SX SM → lw_W dC dI s hX cX hM cM H locs SX SM → lv_has ls 4 [(0, .ref b), (1, .ref (hX 0)), (2, .ref (hM 0)), (3, .int (nI i))] → W p l e room_1 s m #[Value.ref b] below meth c H locs 54 29131 (lw_Z below #[Value.ref b] s) (F0 m 204 ls []) := by
  obtain ⟨hx, hb, hml, hown, hts⟩ := id C0
  have hbA : ¬ lw_A s b := Nat.not_le.mpr hbl
  intro SX SM H locs ls hrel hW hl
  refine lv_aload_n hx hb dL_law_204 rfl (lv_at hl 1 rfl) ?_
  refine lv_aload_n hx hb dL_law_205 rfl (lv_at hl 0 rfl) ?_
  refine lv_iload_n hx hb dL_law_206 rfl (lv_at hl 3 rfl) ?_
  refine lv_iconst (v := (1 : Int32)) hx hb dL_law_207 (by decide) ?_
  refine lv_iadd hx hb dL_law_208 ?_
  refine va_sld hx hb hXs hbl hbA hW.2.2.2.2 (lw_in hL (show i + 1 < L by omega) rfl) dL_law_209 ?_
  refine lv_aload_n hx hb dL_law_210 rfl (lv_at hl 0 rfl) ?_
  refine lv_iload_n hx hb dL_law_211 rfl (lv_at hl 3 rfl) ?_
  refine lv_iconst (v := (2 : Int32)) hx hb dL_law_212 (by decide) ?_
  refine lv_iadd hx hb dL_law_213 ?_
  refine va_sld hx hb hXs hbl hbA hW.2.2.2.2 (lw_in hL (show i + 2 < L by omega) rfl) dL_law_214 ?_
  obtain ⟨r, SX1, SM1, hfx, hfm, hrel1⟩ := hsim.2.2.1 SX SM ((xs ((nI i + (1 : Int32))).toNatClampNeg)) ((xs ((nI i + (2 : Int32))).toNatClampNeg)) hrel
  refine sc_inVi (E := sc_EX dC dI hX cX) (A := lw_A s) (As := [.int (xs ((nI i + (1 : Int32))).toNatClampNeg), .int (xs ((nI i + (2 : Int32))).toNatClampNeg)]) (rest := []) (q0 := 0) (ci := 3) sc_okX C0 hF.1 hW.1 hW.2.1 hW.2.2.2.2 hF.2.2.1 (sc_AEX hW.2.1 (fun q h => Nat.le_trans hW.2.2.2.2.1 h)) (ct_X4_lot hfx) (cwV 2 hts gL_law_X4_lot rfl rfl rfl (by decide +kernel) ⟨Nat.le_of_ble_eq_true rfl, Nat.le_of_ble_eq_true rfl⟩) rfl rfl rfl rfl hl.1 rfl (Nat.le_of_ble_eq_true rfl) dL_law_215 (Nat.le_refl _) (Nat.le_refl _) (fun H1 locs1 hz hk1 hP1 hD1 hS1 => ?_)
  replace hW : lw_W dC dI s hX cX hM cM H1 locs1 SX1 SM := ⟨hP1, hD1, sc_keepM hW.2.2.1 hF.2.2.2.1 hk1, hW.2.2.2.1, hS1⟩
  refine lv_aload_n hx hb dL_law_218 rfl (lv_at hl 2 rfl) ?_
  refine lv_aload_n hx hb dL_law_219 rfl (lv_at hl 0 rfl) ?_
  refine lv_iload_n hx hb dL_law_220 rfl (lv_at hl 3 rfl) ?_
  refine lv_iconst (v := (1 : Int32)) hx hb dL_law_221 (by decide) ?_
  refine lv_iadd hx hb dL_law_222 ?_
  refine va_sld hx hb hXs hbl hbA hW.2.2.2.2 (lw_in hL (show i + 1 < L by omega) rfl) dL_law_223 ?_
  refine lv_aload_n hx hb dL_law_224 rfl (lv_at hl 0 rfl) ?_
  refine lv_iload_n hx hb dL_law_225 rfl (lv_at hl 3 rfl) ?_
  refine lv_iconst (v := (2 : Int32)) hx hb dL_law_226 (by decide) ?_
  refine lv_iadd hx hb dL_law_227 ?_
  refine va_sld hx hb hXs hbl hbA hW.2.2.2.2 (lw_in hL (show i + 2 < L by omega) rfl) dL_law_228 ?_
  refine sc_inVi (E := sc_EM dC dI hM cM) (A := lw_A s) (As := [.int (xs ((nI i + (1 : Int32))).toNatClampNeg), .int (xs ((nI i + (2 : Int32))).toNatClampNeg)]) (rest := [.int r]) (q0 := 0) (ci := 4) sc_okM C0 hF.2.1 hW.2.2.1 hW.2.2.2.1 hW.2.2.2.2 trivial (sc_AEM hW.2.2.2.1 (fun q h => Nat.le_trans hW.2.2.2.2.1 h)) (ct_X5_lot hfm) (cwV 2 hts gL_law_X5_lot rfl rfl rfl (by decide +kernel) ⟨Nat.le_of_ble_eq_true rfl, Nat.le_of_ble_eq_true rfl⟩) rfl rfl rfl rfl hl.1 rfl (Nat.le_of_ble_eq_true rfl) dL_law_229 (Nat.le_refl _) (Nat.le_refl _) (fun H1 locs1 hz hk1 hP1 hD1 hS1 => ?_)
  replace hW : lw_W dC dI s hX cX hM cM H1 locs1 SX1 SM1 := ⟨sc_keepX hW.1 hF.2.2.2.2 hk1, hW.2.1, hP1, hD1, hS1⟩
  refine lv_icmp_eq (tgt := 835) hx hb dL_law_232 (by decide) (fun _ => ?_) (fun hc => absurd rfl hc)
  exact hend _ _ _ _ _ hrel1 hW hl
set_option maxHeartbeats 4000000 in
set_option maxRecDepth 100000 in
theorem lc_pile {p : Program} {l : Launch} {e : Env} {s : State} {m : MethodId} {below : List Frame} {meth : Method} {c : Code} {b L : Nat} {xs : Nat → Int32} {dC : Nat → ClassId} {dI : Nat → Nat → Nat} {hX hM : Nat → Nat} {cX cM : Nat → ClassId} {Rel : sc_M → sc_M → Prop} (hsim : sm_all Rel) (hL : L ≤ 2560) (C0 : CallFix p m c code 4 s #[Value.ref b] wsL_law RL) (hXs : va_X b L xs s s.heap) (hbl : b < s.heap.size) (hF : lw_F dC dI s hX cX hM cM) {i : Nat} (hi : i + 5 ≤ L) (hend : ∀ (SX SM : sc_M) (H : Heap) (locs : List Loc) (ls : Array Slot), Rel SX SM → lw_W dC dI s hX cX hM cM H locs SX SM → lv_has ls 4 [(0, .ref b), (1, .ref (hX 0)), (2, .ref (hM 0)), (3, .int (nI i))] → W p l e room_1 s m #[Value.ref b] below meth c H locs 54 29131 (lw_Z below #[Value.ref b] s) (F0 m 835 ls [])) : ∀ (SX SM : sc_M) (H : Heap) (locs : List Loc) (ls : Array Slot), Rel SX SM → lw_W dC dI s hX cX hM cM H locs SX SM → lv_has ls 4 [(0, .ref b), (1, .ref (hX 0)), (2, .ref (hM 0)), (3, .int (nI i))] → W p l e room_1 s m #[Value.ref b] below meth c H locs 54 29131 (lw_Z below #[Value.ref b] s) (F0 m 237 ls []) := by
  obtain ⟨hx, hb, hml, hown, hts⟩ := id C0
  have hbA : ¬ lw_A s b := Nat.not_le.mpr hbl
  intro SX SM H locs ls hrel hW hl
  refine lv_aload_n hx hb dL_law_237 rfl (lv_at hl 1 rfl) ?_
  refine lv_aload_n hx hb dL_law_238 rfl (lv_at hl 0 rfl) ?_
  refine lv_iload_n hx hb dL_law_239 rfl (lv_at hl 3 rfl) ?_
  refine lv_iconst (v := (1 : Int32)) hx hb dL_law_240 (by decide) ?_
  refine lv_iadd hx hb dL_law_241 ?_
  refine va_sld hx hb hXs hbl hbA hW.2.2.2.2 (lw_in hL (show i + 1 < L by omega) rfl) dL_law_242 ?_
  refine lv_i2l hx hb dL_law_243 rfl ?_
  refine lv_bipush (v := (32 : Int32)) hx hb dL_law_244 (by decide) ?_
  refine lv_lshl hx hb dL_law_246 rfl ?_
  refine lv_aload_n hx hb dL_law_247 rfl (lv_at hl 0 rfl) ?_
  refine lv_iload_n hx hb dL_law_248 rfl (lv_at hl 3 rfl) ?_
  refine lv_iconst (v := (2 : Int32)) hx hb dL_law_249 (by decide) ?_
  refine lv_iadd hx hb dL_law_250 ?_
  refine va_sld hx hb hXs hbl hbA hW.2.2.2.2 (lw_in hL (show i + 2 < L by omega) rfl) dL_law_251 ?_
  refine lv_i2l hx hb dL_law_252 rfl ?_
  refine lv_ldc2 (v := (4294967295 : Int64)) hx hb hown (hts _ lk_L_28) dL_law_253 ?_
  refine lv_land hx hb dL_law_256 ?_
  refine lv_lor hx hb dL_law_257 ?_
  refine lv_aload_n hx hb dL_law_258 rfl (lv_at hl 0 rfl) ?_
  refine lv_iload_n hx hb dL_law_259 rfl (lv_at hl 3 rfl) ?_
  refine lv_iconst (v := (3 : Int32)) hx hb dL_law_260 (by decide) ?_
  refine lv_iadd hx hb dL_law_261 ?_
  refine va_sld hx hb hXs hbl hbA hW.2.2.2.2 (lw_in hL (show i + 3 < L by omega) rfl) dL_law_262 ?_
  obtain ⟨r, SX1, SM1, hfx, hfm, hrel1⟩ := hsim.2.2.2.1 SX SM ((((xs ((nI i + (1 : Int32))).toNatClampNeg).toInt64 <<< ((32 : Int32).toInt64 &&& 63)) ||| ((xs ((nI i + (2 : Int32))).toNatClampNeg).toInt64 &&& (4294967295 : Int64)))) ((xs ((nI i + (3 : Int32))).toNatClampNeg)) hrel
  refine sc_inVi (E := sc_EX dC dI hX cX) (A := lw_A s) (As := [.long (((xs ((nI i + (1 : Int32))).toNatClampNeg).toInt64 <<< ((32 : Int32).toInt64 &&& 63)) ||| ((xs ((nI i + (2 : Int32))).toNatClampNeg).toInt64 &&& (4294967295 : Int64))), .int (xs ((nI i + (3 : Int32))).toNatClampNeg)]) (rest := []) (q0 := 0) (ci := 3) sc_okX C0 hF.1 hW.1 hW.2.1 hW.2.2.2.2 hF.2.2.1 (sc_AEX hW.2.1 (fun q h => Nat.le_trans hW.2.2.2.2.1 h)) (ct_X4_pile hfx) (cwV 2 hts gL_law_X4_pile rfl rfl rfl (by decide +kernel) ⟨Nat.le_of_ble_eq_true rfl, Nat.le_of_ble_eq_true rfl⟩) rfl rfl rfl rfl hl.1 rfl (Nat.le_of_ble_eq_true rfl) dL_law_263 (Nat.le_refl _) (Nat.le_refl _) (fun H1 locs1 hz hk1 hP1 hD1 hS1 => ?_)
  replace hW : lw_W dC dI s hX cX hM cM H1 locs1 SX1 SM := ⟨hP1, hD1, sc_keepM hW.2.2.1 hF.2.2.2.1 hk1, hW.2.2.2.1, hS1⟩
  refine lv_aload_n hx hb dL_law_266 rfl (lv_at hl 2 rfl) ?_
  refine lv_aload_n hx hb dL_law_267 rfl (lv_at hl 0 rfl) ?_
  refine lv_iload_n hx hb dL_law_268 rfl (lv_at hl 3 rfl) ?_
  refine lv_iconst (v := (1 : Int32)) hx hb dL_law_269 (by decide) ?_
  refine lv_iadd hx hb dL_law_270 ?_
  refine va_sld hx hb hXs hbl hbA hW.2.2.2.2 (lw_in hL (show i + 1 < L by omega) rfl) dL_law_271 ?_
  refine lv_i2l hx hb dL_law_272 rfl ?_
  refine lv_bipush (v := (32 : Int32)) hx hb dL_law_273 (by decide) ?_
  refine lv_lshl hx hb dL_law_275 rfl ?_
  refine lv_aload_n hx hb dL_law_276 rfl (lv_at hl 0 rfl) ?_
  refine lv_iload_n hx hb dL_law_277 rfl (lv_at hl 3 rfl) ?_
  refine lv_iconst (v := (2 : Int32)) hx hb dL_law_278 (by decide) ?_
  refine lv_iadd hx hb dL_law_279 ?_
  refine va_sld hx hb hXs hbl hbA hW.2.2.2.2 (lw_in hL (show i + 2 < L by omega) rfl) dL_law_280 ?_
  refine lv_i2l hx hb dL_law_281 rfl ?_
  refine lv_ldc2 (v := (4294967295 : Int64)) hx hb hown (hts _ lk_L_28) dL_law_282 ?_
  refine lv_land hx hb dL_law_285 ?_
  refine lv_lor hx hb dL_law_286 ?_
  refine lv_aload_n hx hb dL_law_287 rfl (lv_at hl 0 rfl) ?_
  refine lv_iload_n hx hb dL_law_288 rfl (lv_at hl 3 rfl) ?_
  refine lv_iconst (v := (3 : Int32)) hx hb dL_law_289 (by decide) ?_
  refine lv_iadd hx hb dL_law_290 ?_
  refine va_sld hx hb hXs hbl hbA hW.2.2.2.2 (lw_in hL (show i + 3 < L by omega) rfl) dL_law_291 ?_
  refine sc_inVi (E := sc_EM dC dI hM cM) (A := lw_A s) (As := [.long (((xs ((nI i + (1 : Int32))).toNatClampNeg).toInt64 <<< ((32 : Int32).toInt64 &&& 63)) ||| ((xs ((nI i + (2 : Int32))).toNatClampNeg).toInt64 &&& (4294967295 : Int64))), .int (xs ((nI i + (3 : Int32))).toNatClampNeg)]) (rest := [.int r]) (q0 := 0) (ci := 4) sc_okM C0 hF.2.1 hW.2.2.1 hW.2.2.2.1 hW.2.2.2.2 trivial (sc_AEM hW.2.2.2.1 (fun q h => Nat.le_trans hW.2.2.2.2.1 h)) (ct_X5_pile hfm) (cwV 2 hts gL_law_X5_pile rfl rfl rfl (by decide +kernel) ⟨Nat.le_of_ble_eq_true rfl, Nat.le_of_ble_eq_true rfl⟩) rfl rfl rfl rfl hl.1 rfl (Nat.le_of_ble_eq_true rfl) dL_law_292 (Nat.le_refl _) (Nat.le_refl _) (fun H1 locs1 hz hk1 hP1 hD1 hS1 => ?_)
  replace hW : lw_W dC dI s hX cX hM cM H1 locs1 SX1 SM1 := ⟨sc_keepX hW.1 hF.2.2.2.2 hk1, hW.2.1, hP1, hD1, hS1⟩
  refine lv_icmp_eq (tgt := 835) hx hb dL_law_295 (by decide) (fun _ => ?_) (fun hc => absurd rfl hc)
  exact hend _ _ _ _ _ hrel1 hW hl
set_option maxHeartbeats 4000000 in
set_option maxRecDepth 100000 in
theorem lc_change {p : Program} {l : Launch} {e : Env} {s : State} {m : MethodId} {below : List Frame} {meth : Method} {c : Code} {b L : Nat} {xs : Nat → Int32} {dC : Nat → ClassId} {dI : Nat → Nat → Nat} {hX hM : Nat → Nat} {cX cM : Nat → ClassId} {Rel : sc_M → sc_M → Prop} (hsim : sm_all Rel) (hL : L ≤ 2560) (C0 : CallFix p m c code 4 s #[Value.ref b] wsL_law RL) (hXs : va_X b L xs s s.heap) (hbl : b < s.heap.size) (hF : lw_F dC dI s hX cX hM cM) {i : Nat} (hi : i + 5 ≤ L) (hend : ∀ (SX SM : sc_M) (H : Heap) (locs : List Loc) (ls : Array Slot), Rel SX SM → lw_W dC dI s hX cX hM cM H locs SX SM → lv_has ls 4 [(0, .ref b), (1, .ref (hX 0)), (2, .ref (hM 0)), (3, .int (nI i))] → W p l e room_1 s m #[Value.ref b] below meth c H locs 54 29131 (lw_Z below #[Value.ref b] s) (F0 m 835 ls [])) : ∀ (SX SM : sc_M) (H : Heap) (locs : List Loc) (ls : Array Slot), Rel SX SM → lw_W dC dI s hX cX hM cM H locs SX SM → lv_has ls 4 [(0, .ref b), (1, .ref (hX 0)), (2, .ref (hM 0)), (3, .int (nI i))] → W p l e room_1 s m #[Value.ref b] below meth c H locs 54 29131 (lw_Z below #[Value.ref b] s) (F0 m 300 ls []) := by
  obtain ⟨hx, hb, hml, hown, hts⟩ := id C0
  have hbA : ¬ lw_A s b := Nat.not_le.mpr hbl
  intro SX SM H locs ls hrel hW hl
  refine lv_aload_n hx hb dL_law_300 rfl (lv_at hl 1 rfl) ?_
  refine lv_aload_n hx hb dL_law_301 rfl (lv_at hl 0 rfl) ?_
  refine lv_iload_n hx hb dL_law_302 rfl (lv_at hl 3 rfl) ?_
  refine lv_iconst (v := (1 : Int32)) hx hb dL_law_303 (by decide) ?_
  refine lv_iadd hx hb dL_law_304 ?_
  refine va_sld hx hb hXs hbl hbA hW.2.2.2.2 (lw_in hL (show i + 1 < L by omega) rfl) dL_law_305 ?_
  refine lv_aload_n hx hb dL_law_306 rfl (lv_at hl 0 rfl) ?_
  refine lv_iload_n hx hb dL_law_307 rfl (lv_at hl 3 rfl) ?_
  refine lv_iconst (v := (2 : Int32)) hx hb dL_law_308 (by decide) ?_
  refine lv_iadd hx hb dL_law_309 ?_
  refine va_sld hx hb hXs hbl hbA hW.2.2.2.2 (lw_in hL (show i + 2 < L by omega) rfl) dL_law_310 ?_
  obtain ⟨r, SX1, SM1, hfx, hfm, hrel1⟩ := hsim.2.2.2.2.1 SX SM ((xs ((nI i + (1 : Int32))).toNatClampNeg)) ((xs ((nI i + (2 : Int32))).toNatClampNeg)) hrel
  refine sc_inVi (E := sc_EX dC dI hX cX) (A := lw_A s) (As := [.int (xs ((nI i + (1 : Int32))).toNatClampNeg), .int (xs ((nI i + (2 : Int32))).toNatClampNeg)]) (rest := []) (q0 := 0) (ci := 3) sc_okX C0 hF.1 hW.1 hW.2.1 hW.2.2.2.2 hF.2.2.1 (sc_AEX hW.2.1 (fun q h => Nat.le_trans hW.2.2.2.2.1 h)) (ct_X4_change hfx) (cwV 2 hts gL_law_X4_change rfl rfl rfl (by decide +kernel) ⟨Nat.le_of_ble_eq_true rfl, Nat.le_of_ble_eq_true rfl⟩) rfl rfl rfl rfl hl.1 rfl (Nat.le_of_ble_eq_true rfl) dL_law_311 (Nat.le_refl _) (Nat.le_refl _) (fun H1 locs1 hz hk1 hP1 hD1 hS1 => ?_)
  replace hW : lw_W dC dI s hX cX hM cM H1 locs1 SX1 SM := ⟨hP1, hD1, sc_keepM hW.2.2.1 hF.2.2.2.1 hk1, hW.2.2.2.1, hS1⟩
  refine lv_aload_n hx hb dL_law_314 rfl (lv_at hl 2 rfl) ?_
  refine lv_aload_n hx hb dL_law_315 rfl (lv_at hl 0 rfl) ?_
  refine lv_iload_n hx hb dL_law_316 rfl (lv_at hl 3 rfl) ?_
  refine lv_iconst (v := (1 : Int32)) hx hb dL_law_317 (by decide) ?_
  refine lv_iadd hx hb dL_law_318 ?_
  refine va_sld hx hb hXs hbl hbA hW.2.2.2.2 (lw_in hL (show i + 1 < L by omega) rfl) dL_law_319 ?_
  refine lv_aload_n hx hb dL_law_320 rfl (lv_at hl 0 rfl) ?_
  refine lv_iload_n hx hb dL_law_321 rfl (lv_at hl 3 rfl) ?_
  refine lv_iconst (v := (2 : Int32)) hx hb dL_law_322 (by decide) ?_
  refine lv_iadd hx hb dL_law_323 ?_
  refine va_sld hx hb hXs hbl hbA hW.2.2.2.2 (lw_in hL (show i + 2 < L by omega) rfl) dL_law_324 ?_
  refine sc_inVi (E := sc_EM dC dI hM cM) (A := lw_A s) (As := [.int (xs ((nI i + (1 : Int32))).toNatClampNeg), .int (xs ((nI i + (2 : Int32))).toNatClampNeg)]) (rest := [.int r]) (q0 := 0) (ci := 4) sc_okM C0 hF.2.1 hW.2.2.1 hW.2.2.2.1 hW.2.2.2.2 trivial (sc_AEM hW.2.2.2.1 (fun q h => Nat.le_trans hW.2.2.2.2.1 h)) (ct_X5_change hfm) (cwV 2 hts gL_law_X5_change rfl rfl rfl (by decide +kernel) ⟨Nat.le_of_ble_eq_true rfl, Nat.le_of_ble_eq_true rfl⟩) rfl rfl rfl rfl hl.1 rfl (Nat.le_of_ble_eq_true rfl) dL_law_325 (Nat.le_refl _) (Nat.le_refl _) (fun H1 locs1 hz hk1 hP1 hD1 hS1 => ?_)
  replace hW : lw_W dC dI s hX cX hM cM H1 locs1 SX1 SM1 := ⟨sc_keepX hW.1 hF.2.2.2.2 hk1, hW.2.1, hP1, hD1, hS1⟩
  refine lv_icmp_eq (tgt := 835) hx hb dL_law_328 (by decide) (fun _ => ?_) (fun hc => absurd rfl hc)
  exact hend _ _ _ _ _ hrel1 hW hl
set_option maxHeartbeats 4000000 in
set_option maxRecDepth 100000 in
theorem lc_about {p : Program} {l : Launch} {e : Env} {s : State} {m : MethodId} {below : List Frame} {meth : Method} {c : Code} {b L : Nat} {xs : Nat → Int32} {dC : Nat → ClassId} {dI : Nat → Nat → Nat} {hX hM : Nat → Nat} {cX cM : Nat → ClassId} {Rel : sc_M → sc_M → Prop} (hsim : sm_all Rel) (hL : L ≤ 2560) (C0 : CallFix p m c code 4 s #[Value.ref b] wsL_law RL) (hXs : va_X b L xs s s.heap) (hbl : b < s.heap.size) (hF : lw_F dC dI s hX cX hM cM) {i : Nat} (hi : i + 5 ≤ L) (hend : ∀ (SX SM : sc_M) (H : Heap) (locs : List Loc) (ls : Array Slot), Rel SX SM → lw_W dC dI s hX cX hM cM H locs SX SM → lv_has ls 4 [(0, .ref b), (1, .ref (hX 0)), (2, .ref (hM 0)), (3, .int (nI i))] → W p l e room_1 s m #[Value.ref b] below meth c H locs 54 29131 (lw_Z below #[Value.ref b] s) (F0 m 835 ls [])) : ∀ (SX SM : sc_M) (H : Heap) (locs : List Loc) (ls : Array Slot), Rel SX SM → lw_W dC dI s hX cX hM cM H locs SX SM → lv_has ls 4 [(0, .ref b), (1, .ref (hX 0)), (2, .ref (hM 0)), (3, .int (nI i))] → W p l e room_1 s m #[Value.ref b] below meth c H locs 54 29131 (lw_Z below #[Value.ref b] s) (F0 m 333 ls []) := by
  obtain ⟨hx, hb, hml, hown, hts⟩ := id C0
  have hbA : ¬ lw_A s b := Nat.not_le.mpr hbl
  intro SX SM H locs ls hrel hW hl
  refine lv_aload_n hx hb dL_law_333 rfl (lv_at hl 1 rfl) ?_
  refine lv_aload_n hx hb dL_law_334 rfl (lv_at hl 0 rfl) ?_
  refine lv_iload_n hx hb dL_law_335 rfl (lv_at hl 3 rfl) ?_
  refine lv_iconst (v := (1 : Int32)) hx hb dL_law_336 (by decide) ?_
  refine lv_iadd hx hb dL_law_337 ?_
  refine va_sld hx hb hXs hbl hbA hW.2.2.2.2 (lw_in hL (show i + 1 < L by omega) rfl) dL_law_338 ?_
  refine lv_aload_n hx hb dL_law_339 rfl (lv_at hl 0 rfl) ?_
  refine lv_iload_n hx hb dL_law_340 rfl (lv_at hl 3 rfl) ?_
  refine lv_iconst (v := (2 : Int32)) hx hb dL_law_341 (by decide) ?_
  refine lv_iadd hx hb dL_law_342 ?_
  refine va_sld hx hb hXs hbl hbA hW.2.2.2.2 (lw_in hL (show i + 2 < L by omega) rfl) dL_law_343 ?_
  obtain ⟨r, SX1, SM1, hfx, hfm, hrel1⟩ := hsim.2.2.2.2.2.1 SX SM ((xs ((nI i + (1 : Int32))).toNatClampNeg)) ((xs ((nI i + (2 : Int32))).toNatClampNeg)) hrel
  refine sc_inVi (E := sc_EX dC dI hX cX) (A := lw_A s) (As := [.int (xs ((nI i + (1 : Int32))).toNatClampNeg), .int (xs ((nI i + (2 : Int32))).toNatClampNeg)]) (rest := []) (q0 := 0) (ci := 3) sc_okX C0 hF.1 hW.1 hW.2.1 hW.2.2.2.2 hF.2.2.1 (sc_AEX hW.2.1 (fun q h => Nat.le_trans hW.2.2.2.2.1 h)) (ct_X4_about hfx) (cwV 2 hts gL_law_X4_about rfl rfl rfl (by decide +kernel) ⟨Nat.le_of_ble_eq_true rfl, Nat.le_of_ble_eq_true rfl⟩) rfl rfl rfl rfl hl.1 rfl (Nat.le_of_ble_eq_true rfl) dL_law_344 (Nat.le_refl _) (Nat.le_refl _) (fun H1 locs1 hz hk1 hP1 hD1 hS1 => ?_)
  replace hW : lw_W dC dI s hX cX hM cM H1 locs1 SX1 SM := ⟨hP1, hD1, sc_keepM hW.2.2.1 hF.2.2.2.1 hk1, hW.2.2.2.1, hS1⟩
  refine lv_aload_n hx hb dL_law_347 rfl (lv_at hl 2 rfl) ?_
  refine lv_aload_n hx hb dL_law_348 rfl (lv_at hl 0 rfl) ?_
  refine lv_iload_n hx hb dL_law_349 rfl (lv_at hl 3 rfl) ?_
  refine lv_iconst (v := (1 : Int32)) hx hb dL_law_350 (by decide) ?_
  refine lv_iadd hx hb dL_law_351 ?_
  refine va_sld hx hb hXs hbl hbA hW.2.2.2.2 (lw_in hL (show i + 1 < L by omega) rfl) dL_law_352 ?_
  refine lv_aload_n hx hb dL_law_353 rfl (lv_at hl 0 rfl) ?_
  refine lv_iload_n hx hb dL_law_354 rfl (lv_at hl 3 rfl) ?_
  refine lv_iconst (v := (2 : Int32)) hx hb dL_law_355 (by decide) ?_
  refine lv_iadd hx hb dL_law_356 ?_
  refine va_sld hx hb hXs hbl hbA hW.2.2.2.2 (lw_in hL (show i + 2 < L by omega) rfl) dL_law_357 ?_
  refine sc_inVi (E := sc_EM dC dI hM cM) (A := lw_A s) (As := [.int (xs ((nI i + (1 : Int32))).toNatClampNeg), .int (xs ((nI i + (2 : Int32))).toNatClampNeg)]) (rest := [.int r]) (q0 := 0) (ci := 4) sc_okM C0 hF.2.1 hW.2.2.1 hW.2.2.2.1 hW.2.2.2.2 trivial (sc_AEM hW.2.2.2.1 (fun q h => Nat.le_trans hW.2.2.2.2.1 h)) (ct_X5_about hfm) (cwV 2 hts gL_law_X5_about rfl rfl rfl (by decide +kernel) ⟨Nat.le_of_ble_eq_true rfl, Nat.le_of_ble_eq_true rfl⟩) rfl rfl rfl rfl hl.1 rfl (Nat.le_of_ble_eq_true rfl) dL_law_358 (Nat.le_refl _) (Nat.le_refl _) (fun H1 locs1 hz hk1 hP1 hD1 hS1 => ?_)
  replace hW : lw_W dC dI s hX cX hM cM H1 locs1 SX1 SM1 := ⟨sc_keepX hW.1 hF.2.2.2.2 hk1, hW.2.1, hP1, hD1, hS1⟩
  refine lv_icmp_eq (tgt := 835) hx hb dL_law_361 (by decide) (fun _ => ?_) (fun hc => absurd rfl hc)
  exact hend _ _ _ _ _ hrel1 hW hl
set_option maxHeartbeats 4000000 in
set_option maxRecDepth 100000 in
theorem lc_count {p : Program} {l : Launch} {e : Env} {s : State} {m : MethodId} {below : List Frame} {meth : Method} {c : Code} {b L : Nat} {xs : Nat → Int32} {dC : Nat → ClassId} {dI : Nat → Nat → Nat} {hX hM : Nat → Nat} {cX cM : Nat → ClassId} {Rel : sc_M → sc_M → Prop} (hsim : sm_all Rel) (hL : L ≤ 2560) (C0 : CallFix p m c code 4 s #[Value.ref b] wsL_law RL) (hXs : va_X b L xs s s.heap) (hbl : b < s.heap.size) (hF : lw_F dC dI s hX cX hM cM) {i : Nat} (hi : i + 5 ≤ L) (hend : ∀ (SX SM : sc_M) (H : Heap) (locs : List Loc) (ls : Array Slot), Rel SX SM → lw_W dC dI s hX cX hM cM H locs SX SM → lv_has ls 4 [(0, .ref b), (1, .ref (hX 0)), (2, .ref (hM 0)), (3, .int (nI i))] → W p l e room_1 s m #[Value.ref b] below meth c H locs 54 29131 (lw_Z below #[Value.ref b] s) (F0 m 835 ls [])) : ∀ (SX SM : sc_M) (H : Heap) (locs : List Loc) (ls : Array Slot), Rel SX SM → lw_W dC dI s hX cX hM cM H locs SX SM → lv_has ls 4 [(0, .ref b), (1, .ref (hX 0)), (2, .ref (hM 0)), (3, .int (nI i))] → W p l e room_1 s m #[Value.ref b] below meth c H locs 54 29131 (lw_Z below #[Value.ref b] s) (F0 m 366 ls []) := by
  obtain ⟨hx, hb, hml, hown, hts⟩ := id C0
  have hbA : ¬ lw_A s b := Nat.not_le.mpr hbl
  intro SX SM H locs ls hrel hW hl
  refine lv_aload_n hx hb dL_law_366 rfl (lv_at hl 1 rfl) ?_
  refine lv_aload_n hx hb dL_law_367 rfl (lv_at hl 0 rfl) ?_
  refine lv_iload_n hx hb dL_law_368 rfl (lv_at hl 3 rfl) ?_
  refine lv_iconst (v := (1 : Int32)) hx hb dL_law_369 (by decide) ?_
  refine lv_iadd hx hb dL_law_370 ?_
  refine va_sld hx hb hXs hbl hbA hW.2.2.2.2 (lw_in hL (show i + 1 < L by omega) rfl) dL_law_371 ?_
  refine lv_aload_n hx hb dL_law_372 rfl (lv_at hl 0 rfl) ?_
  refine lv_iload_n hx hb dL_law_373 rfl (lv_at hl 3 rfl) ?_
  refine lv_iconst (v := (2 : Int32)) hx hb dL_law_374 (by decide) ?_
  refine lv_iadd hx hb dL_law_375 ?_
  refine va_sld hx hb hXs hbl hbA hW.2.2.2.2 (lw_in hL (show i + 2 < L by omega) rfl) dL_law_376 ?_
  obtain ⟨r, SX1, SM1, hfx, hfm, hrel1⟩ := hsim.2.2.2.2.2.2.1 SX SM ((xs ((nI i + (1 : Int32))).toNatClampNeg)) ((xs ((nI i + (2 : Int32))).toNatClampNeg)) hrel
  refine sc_inVi (E := sc_EX dC dI hX cX) (A := lw_A s) (As := [.int (xs ((nI i + (1 : Int32))).toNatClampNeg), .int (xs ((nI i + (2 : Int32))).toNatClampNeg)]) (rest := []) (q0 := 0) (ci := 3) sc_okX C0 hF.1 hW.1 hW.2.1 hW.2.2.2.2 hF.2.2.1 (sc_AEX hW.2.1 (fun q h => Nat.le_trans hW.2.2.2.2.1 h)) (ct_X4_count hfx) (cwV 2 hts gL_law_X4_count rfl rfl rfl (by decide +kernel) ⟨Nat.le_of_ble_eq_true rfl, Nat.le_of_ble_eq_true rfl⟩) rfl rfl rfl rfl hl.1 rfl (Nat.le_of_ble_eq_true rfl) dL_law_377 (Nat.le_refl _) (Nat.le_refl _) (fun H1 locs1 hz hk1 hP1 hD1 hS1 => ?_)
  replace hW : lw_W dC dI s hX cX hM cM H1 locs1 SX1 SM := ⟨hP1, hD1, sc_keepM hW.2.2.1 hF.2.2.2.1 hk1, hW.2.2.2.1, hS1⟩
  refine lv_aload_n hx hb dL_law_380 rfl (lv_at hl 2 rfl) ?_
  refine lv_aload_n hx hb dL_law_381 rfl (lv_at hl 0 rfl) ?_
  refine lv_iload_n hx hb dL_law_382 rfl (lv_at hl 3 rfl) ?_
  refine lv_iconst (v := (1 : Int32)) hx hb dL_law_383 (by decide) ?_
  refine lv_iadd hx hb dL_law_384 ?_
  refine va_sld hx hb hXs hbl hbA hW.2.2.2.2 (lw_in hL (show i + 1 < L by omega) rfl) dL_law_385 ?_
  refine lv_aload_n hx hb dL_law_386 rfl (lv_at hl 0 rfl) ?_
  refine lv_iload_n hx hb dL_law_387 rfl (lv_at hl 3 rfl) ?_
  refine lv_iconst (v := (2 : Int32)) hx hb dL_law_388 (by decide) ?_
  refine lv_iadd hx hb dL_law_389 ?_
  refine va_sld hx hb hXs hbl hbA hW.2.2.2.2 (lw_in hL (show i + 2 < L by omega) rfl) dL_law_390 ?_
  refine sc_inVi (E := sc_EM dC dI hM cM) (A := lw_A s) (As := [.int (xs ((nI i + (1 : Int32))).toNatClampNeg), .int (xs ((nI i + (2 : Int32))).toNatClampNeg)]) (rest := [.int r]) (q0 := 0) (ci := 4) sc_okM C0 hF.2.1 hW.2.2.1 hW.2.2.2.1 hW.2.2.2.2 trivial (sc_AEM hW.2.2.2.1 (fun q h => Nat.le_trans hW.2.2.2.2.1 h)) (ct_X5_count hfm) (cwV 2 hts gL_law_X5_count rfl rfl rfl (by decide +kernel) ⟨Nat.le_of_ble_eq_true rfl, Nat.le_of_ble_eq_true rfl⟩) rfl rfl rfl rfl hl.1 rfl (Nat.le_of_ble_eq_true rfl) dL_law_391 (Nat.le_refl _) (Nat.le_refl _) (fun H1 locs1 hz hk1 hP1 hD1 hS1 => ?_)
  replace hW : lw_W dC dI s hX cX hM cM H1 locs1 SX1 SM1 := ⟨sc_keepX hW.1 hF.2.2.2.2 hk1, hW.2.1, hP1, hD1, hS1⟩
  refine lv_icmp_eq (tgt := 835) hx hb dL_law_394 (by decide) (fun _ => ?_) (fun hc => absurd rfl hc)
  exact hend _ _ _ _ _ hrel1 hW hl
set_option maxHeartbeats 4000000 in
set_option maxRecDepth 100000 in
theorem lc_stage {p : Program} {l : Launch} {e : Env} {s : State} {m : MethodId} {below : List Frame} {meth : Method} {c : Code} {b L : Nat} {xs : Nat → Int32} {dC : Nat → ClassId} {dI : Nat → Nat → Nat} {hX hM : Nat → Nat} {cX cM : Nat → ClassId} {Rel : sc_M → sc_M → Prop} (hsim : sm_all Rel) (hL : L ≤ 2560) (C0 : CallFix p m c code 4 s #[Value.ref b] wsL_law RL) (hXs : va_X b L xs s s.heap) (hbl : b < s.heap.size) (hF : lw_F dC dI s hX cX hM cM) {i : Nat} (hi : i + 5 ≤ L) (hend : ∀ (SX SM : sc_M) (H : Heap) (locs : List Loc) (ls : Array Slot), Rel SX SM → lw_W dC dI s hX cX hM cM H locs SX SM → lv_has ls 4 [(0, .ref b), (1, .ref (hX 0)), (2, .ref (hM 0)), (3, .int (nI i))] → W p l e room_1 s m #[Value.ref b] below meth c H locs 54 29131 (lw_Z below #[Value.ref b] s) (F0 m 835 ls [])) : ∀ (SX SM : sc_M) (H : Heap) (locs : List Loc) (ls : Array Slot), Rel SX SM → lw_W dC dI s hX cX hM cM H locs SX SM → lv_has ls 4 [(0, .ref b), (1, .ref (hX 0)), (2, .ref (hM 0)), (3, .int (nI i))] → W p l e room_1 s m #[Value.ref b] below meth c H locs 54 29131 (lw_Z below #[Value.ref b] s) (F0 m 399 ls []) := by
  obtain ⟨hx, hb, hml, hown, hts⟩ := id C0
  have hbA : ¬ lw_A s b := Nat.not_le.mpr hbl
  intro SX SM H locs ls hrel hW hl
  refine lv_aload_n hx hb dL_law_399 rfl (lv_at hl 1 rfl) ?_
  refine lv_aload_n hx hb dL_law_400 rfl (lv_at hl 0 rfl) ?_
  refine lv_iload_n hx hb dL_law_401 rfl (lv_at hl 3 rfl) ?_
  refine lv_iconst (v := (1 : Int32)) hx hb dL_law_402 (by decide) ?_
  refine lv_iadd hx hb dL_law_403 ?_
  refine va_sld hx hb hXs hbl hbA hW.2.2.2.2 (lw_in hL (show i + 1 < L by omega) rfl) dL_law_404 ?_
  refine lv_aload_n hx hb dL_law_405 rfl (lv_at hl 0 rfl) ?_
  refine lv_iload_n hx hb dL_law_406 rfl (lv_at hl 3 rfl) ?_
  refine lv_iconst (v := (2 : Int32)) hx hb dL_law_407 (by decide) ?_
  refine lv_iadd hx hb dL_law_408 ?_
  refine va_sld hx hb hXs hbl hbA hW.2.2.2.2 (lw_in hL (show i + 2 < L by omega) rfl) dL_law_409 ?_
  obtain ⟨r, SX1, SM1, hfx, hfm, hrel1⟩ := hsim.2.2.2.2.2.2.2.1 SX SM ((xs ((nI i + (1 : Int32))).toNatClampNeg)) ((xs ((nI i + (2 : Int32))).toNatClampNeg)) hrel
  refine sc_inVl (E := sc_EX dC dI hX cX) (A := lw_A s) (As := [.int (xs ((nI i + (1 : Int32))).toNatClampNeg), .int (xs ((nI i + (2 : Int32))).toNatClampNeg)]) (rest := []) (q0 := 0) (ci := 3) sc_okX C0 hF.1 hW.1 hW.2.1 hW.2.2.2.2 hF.2.2.1 (sc_AEX hW.2.1 (fun q h => Nat.le_trans hW.2.2.2.2.1 h)) (ct_X4_stage hfx) (cwV 2 hts gL_law_X4_stage rfl rfl rfl (by decide +kernel) ⟨Nat.le_of_ble_eq_true rfl, Nat.le_of_ble_eq_true rfl⟩) rfl rfl rfl rfl hl.1 rfl (Nat.le_of_ble_eq_true rfl) dL_law_410 (Nat.le_refl _) (Nat.le_refl _) (fun H1 locs1 hz hk1 hP1 hD1 hS1 => ?_)
  replace hW : lw_W dC dI s hX cX hM cM H1 locs1 SX1 SM := ⟨hP1, hD1, sc_keepM hW.2.2.1 hF.2.2.2.1 hk1, hW.2.2.2.1, hS1⟩
  refine lv_aload_n hx hb dL_law_413 rfl (lv_at hl 2 rfl) ?_
  refine lv_aload_n hx hb dL_law_414 rfl (lv_at hl 0 rfl) ?_
  refine lv_iload_n hx hb dL_law_415 rfl (lv_at hl 3 rfl) ?_
  refine lv_iconst (v := (1 : Int32)) hx hb dL_law_416 (by decide) ?_
  refine lv_iadd hx hb dL_law_417 ?_
  refine va_sld hx hb hXs hbl hbA hW.2.2.2.2 (lw_in hL (show i + 1 < L by omega) rfl) dL_law_418 ?_
  refine lv_aload_n hx hb dL_law_419 rfl (lv_at hl 0 rfl) ?_
  refine lv_iload_n hx hb dL_law_420 rfl (lv_at hl 3 rfl) ?_
  refine lv_iconst (v := (2 : Int32)) hx hb dL_law_421 (by decide) ?_
  refine lv_iadd hx hb dL_law_422 ?_
  refine va_sld hx hb hXs hbl hbA hW.2.2.2.2 (lw_in hL (show i + 2 < L by omega) rfl) dL_law_423 ?_
  refine sc_inVl (E := sc_EM dC dI hM cM) (A := lw_A s) (As := [.int (xs ((nI i + (1 : Int32))).toNatClampNeg), .int (xs ((nI i + (2 : Int32))).toNatClampNeg)]) (rest := [.long r]) (q0 := 0) (ci := 4) sc_okM C0 hF.2.1 hW.2.2.1 hW.2.2.2.1 hW.2.2.2.2 trivial (sc_AEM hW.2.2.2.1 (fun q h => Nat.le_trans hW.2.2.2.2.1 h)) (ct_X5_stage hfm) (cwV 2 hts gL_law_X5_stage rfl rfl rfl (by decide +kernel) ⟨Nat.le_of_ble_eq_true rfl, Nat.le_of_ble_eq_true rfl⟩) rfl rfl rfl rfl hl.1 rfl (Nat.le_of_ble_eq_true rfl) dL_law_424 (Nat.le_refl _) (Nat.le_refl _) (fun H1 locs1 hz hk1 hP1 hD1 hS1 => ?_)
  replace hW : lw_W dC dI s hX cX hM cM H1 locs1 SX1 SM1 := ⟨sc_keepX hW.1 hF.2.2.2.2 hk1, hW.2.1, hP1, hD1, hS1⟩
  refine W.lcmp hx hb dL_law_427 ?_
  refine lv_if_eq (tgt := 835) hx hb dL_law_428 (by decide) (fun _ => ?_) (fun hc => absurd ((lg_cmp_eq _ _).mpr rfl) hc)
  exact hend _ _ _ _ _ hrel1 hW hl
set_option maxHeartbeats 4000000 in
set_option maxRecDepth 100000 in
theorem lc_votes {p : Program} {l : Launch} {e : Env} {s : State} {m : MethodId} {below : List Frame} {meth : Method} {c : Code} {b L : Nat} {xs : Nat → Int32} {dC : Nat → ClassId} {dI : Nat → Nat → Nat} {hX hM : Nat → Nat} {cX cM : Nat → ClassId} {Rel : sc_M → sc_M → Prop} (hsim : sm_all Rel) (hL : L ≤ 2560) (C0 : CallFix p m c code 4 s #[Value.ref b] wsL_law RL) (hXs : va_X b L xs s s.heap) (hbl : b < s.heap.size) (hF : lw_F dC dI s hX cX hM cM) {i : Nat} (hi : i + 5 ≤ L) (hend : ∀ (SX SM : sc_M) (H : Heap) (locs : List Loc) (ls : Array Slot), Rel SX SM → lw_W dC dI s hX cX hM cM H locs SX SM → lv_has ls 4 [(0, .ref b), (1, .ref (hX 0)), (2, .ref (hM 0)), (3, .int (nI i))] → W p l e room_1 s m #[Value.ref b] below meth c H locs 54 29131 (lw_Z below #[Value.ref b] s) (F0 m 835 ls [])) : ∀ (SX SM : sc_M) (H : Heap) (locs : List Loc) (ls : Array Slot), Rel SX SM → lw_W dC dI s hX cX hM cM H locs SX SM → lv_has ls 4 [(0, .ref b), (1, .ref (hX 0)), (2, .ref (hM 0)), (3, .int (nI i))] → W p l e room_1 s m #[Value.ref b] below meth c H locs 54 29131 (lw_Z below #[Value.ref b] s) (F0 m 433 ls []) := by
  obtain ⟨hx, hb, hml, hown, hts⟩ := id C0
  have hbA : ¬ lw_A s b := Nat.not_le.mpr hbl
  intro SX SM H locs ls hrel hW hl
  refine lv_aload_n hx hb dL_law_433 rfl (lv_at hl 1 rfl) ?_
  refine lv_aload_n hx hb dL_law_434 rfl (lv_at hl 0 rfl) ?_
  refine lv_iload_n hx hb dL_law_435 rfl (lv_at hl 3 rfl) ?_
  refine lv_iconst (v := (1 : Int32)) hx hb dL_law_436 (by decide) ?_
  refine lv_iadd hx hb dL_law_437 ?_
  refine va_sld hx hb hXs hbl hbA hW.2.2.2.2 (lw_in hL (show i + 1 < L by omega) rfl) dL_law_438 ?_
  refine lv_aload_n hx hb dL_law_439 rfl (lv_at hl 0 rfl) ?_
  refine lv_iload_n hx hb dL_law_440 rfl (lv_at hl 3 rfl) ?_
  refine lv_iconst (v := (2 : Int32)) hx hb dL_law_441 (by decide) ?_
  refine lv_iadd hx hb dL_law_442 ?_
  refine va_sld hx hb hXs hbl hbA hW.2.2.2.2 (lw_in hL (show i + 2 < L by omega) rfl) dL_law_443 ?_
  obtain ⟨r, SX1, SM1, hfx, hfm, hrel1⟩ := hsim.2.2.2.2.2.2.2.2.1 SX SM ((xs ((nI i + (1 : Int32))).toNatClampNeg)) ((xs ((nI i + (2 : Int32))).toNatClampNeg)) hrel
  refine sc_inVl (E := sc_EX dC dI hX cX) (A := lw_A s) (As := [.int (xs ((nI i + (1 : Int32))).toNatClampNeg), .int (xs ((nI i + (2 : Int32))).toNatClampNeg)]) (rest := []) (q0 := 0) (ci := 3) sc_okX C0 hF.1 hW.1 hW.2.1 hW.2.2.2.2 hF.2.2.1 (sc_AEX hW.2.1 (fun q h => Nat.le_trans hW.2.2.2.2.1 h)) (ct_X4_votes hfx) (cwV 2 hts gL_law_X4_votes rfl rfl rfl (by decide +kernel) ⟨Nat.le_of_ble_eq_true rfl, Nat.le_of_ble_eq_true rfl⟩) rfl rfl rfl rfl hl.1 rfl (Nat.le_of_ble_eq_true rfl) dL_law_444 (Nat.le_refl _) (Nat.le_refl _) (fun H1 locs1 hz hk1 hP1 hD1 hS1 => ?_)
  replace hW : lw_W dC dI s hX cX hM cM H1 locs1 SX1 SM := ⟨hP1, hD1, sc_keepM hW.2.2.1 hF.2.2.2.1 hk1, hW.2.2.2.1, hS1⟩
  refine lv_aload_n hx hb dL_law_447 rfl (lv_at hl 2 rfl) ?_
  refine lv_aload_n hx hb dL_law_448 rfl (lv_at hl 0 rfl) ?_
  refine lv_iload_n hx hb dL_law_449 rfl (lv_at hl 3 rfl) ?_
  refine lv_iconst (v := (1 : Int32)) hx hb dL_law_450 (by decide) ?_
  refine lv_iadd hx hb dL_law_451 ?_
  refine va_sld hx hb hXs hbl hbA hW.2.2.2.2 (lw_in hL (show i + 1 < L by omega) rfl) dL_law_452 ?_
  refine lv_aload_n hx hb dL_law_453 rfl (lv_at hl 0 rfl) ?_
  refine lv_iload_n hx hb dL_law_454 rfl (lv_at hl 3 rfl) ?_
  refine lv_iconst (v := (2 : Int32)) hx hb dL_law_455 (by decide) ?_
  refine lv_iadd hx hb dL_law_456 ?_
  refine va_sld hx hb hXs hbl hbA hW.2.2.2.2 (lw_in hL (show i + 2 < L by omega) rfl) dL_law_457 ?_
  refine sc_inVl (E := sc_EM dC dI hM cM) (A := lw_A s) (As := [.int (xs ((nI i + (1 : Int32))).toNatClampNeg), .int (xs ((nI i + (2 : Int32))).toNatClampNeg)]) (rest := [.long r]) (q0 := 0) (ci := 4) sc_okM C0 hF.2.1 hW.2.2.1 hW.2.2.2.1 hW.2.2.2.2 trivial (sc_AEM hW.2.2.2.1 (fun q h => Nat.le_trans hW.2.2.2.2.1 h)) (ct_X5_votes hfm) (cwV 2 hts gL_law_X5_votes rfl rfl rfl (by decide +kernel) ⟨Nat.le_of_ble_eq_true rfl, Nat.le_of_ble_eq_true rfl⟩) rfl rfl rfl rfl hl.1 rfl (Nat.le_of_ble_eq_true rfl) dL_law_458 (Nat.le_refl _) (Nat.le_refl _) (fun H1 locs1 hz hk1 hP1 hD1 hS1 => ?_)
  replace hW : lw_W dC dI s hX cX hM cM H1 locs1 SX1 SM1 := ⟨sc_keepX hW.1 hF.2.2.2.2 hk1, hW.2.1, hP1, hD1, hS1⟩
  refine W.lcmp hx hb dL_law_461 ?_
  refine lv_if_eq (tgt := 835) hx hb dL_law_462 (by decide) (fun _ => ?_) (fun hc => absurd ((lg_cmp_eq _ _).mpr rfl) hc)
  exact hend _ _ _ _ _ hrel1 hW hl
set_option maxHeartbeats 4000000 in
set_option maxRecDepth 100000 in
theorem lc_status {p : Program} {l : Launch} {e : Env} {s : State} {m : MethodId} {below : List Frame} {meth : Method} {c : Code} {b L : Nat} {xs : Nat → Int32} {dC : Nat → ClassId} {dI : Nat → Nat → Nat} {hX hM : Nat → Nat} {cX cM : Nat → ClassId} {Rel : sc_M → sc_M → Prop} (hsim : sm_all Rel) (hL : L ≤ 2560) (C0 : CallFix p m c code 4 s #[Value.ref b] wsL_law RL) (hXs : va_X b L xs s s.heap) (hbl : b < s.heap.size) (hF : lw_F dC dI s hX cX hM cM) {i : Nat} (hi : i + 5 ≤ L) (hend : ∀ (SX SM : sc_M) (H : Heap) (locs : List Loc) (ls : Array Slot), Rel SX SM → lw_W dC dI s hX cX hM cM H locs SX SM → lv_has ls 4 [(0, .ref b), (1, .ref (hX 0)), (2, .ref (hM 0)), (3, .int (nI i))] → W p l e room_1 s m #[Value.ref b] below meth c H locs 54 29131 (lw_Z below #[Value.ref b] s) (F0 m 835 ls [])) : ∀ (SX SM : sc_M) (H : Heap) (locs : List Loc) (ls : Array Slot), Rel SX SM → lw_W dC dI s hX cX hM cM H locs SX SM → lv_has ls 4 [(0, .ref b), (1, .ref (hX 0)), (2, .ref (hM 0)), (3, .int (nI i))] → W p l e room_1 s m #[Value.ref b] below meth c H locs 54 29131 (lw_Z below #[Value.ref b] s) (F0 m 467 ls []) := by
  obtain ⟨hx, hb, hml, hown, hts⟩ := id C0
  have hbA : ¬ lw_A s b := Nat.not_le.mpr hbl
  intro SX SM H locs ls hrel hW hl
  refine lv_aload_n hx hb dL_law_467 rfl (lv_at hl 1 rfl) ?_
  refine lv_aload_n hx hb dL_law_468 rfl (lv_at hl 0 rfl) ?_
  refine lv_iload_n hx hb dL_law_469 rfl (lv_at hl 3 rfl) ?_
  refine lv_iconst (v := (1 : Int32)) hx hb dL_law_470 (by decide) ?_
  refine lv_iadd hx hb dL_law_471 ?_
  refine va_sld hx hb hXs hbl hbA hW.2.2.2.2 (lw_in hL (show i + 1 < L by omega) rfl) dL_law_472 ?_
  refine lv_aload_n hx hb dL_law_473 rfl (lv_at hl 0 rfl) ?_
  refine lv_iload_n hx hb dL_law_474 rfl (lv_at hl 3 rfl) ?_
  refine lv_iconst (v := (2 : Int32)) hx hb dL_law_475 (by decide) ?_
  refine lv_iadd hx hb dL_law_476 ?_
  refine va_sld hx hb hXs hbl hbA hW.2.2.2.2 (lw_in hL (show i + 2 < L by omega) rfl) dL_law_477 ?_
  obtain ⟨r, SX1, SM1, hfx, hfm, hrel1⟩ := hsim.2.2.2.2.2.2.2.2.2.1 SX SM ((xs ((nI i + (1 : Int32))).toNatClampNeg)) ((xs ((nI i + (2 : Int32))).toNatClampNeg)) hrel
  refine sc_inVi (E := sc_EX dC dI hX cX) (A := lw_A s) (As := [.int (xs ((nI i + (1 : Int32))).toNatClampNeg), .int (xs ((nI i + (2 : Int32))).toNatClampNeg)]) (rest := []) (q0 := 0) (ci := 3) sc_okX C0 hF.1 hW.1 hW.2.1 hW.2.2.2.2 hF.2.2.1 (sc_AEX hW.2.1 (fun q h => Nat.le_trans hW.2.2.2.2.1 h)) (ct_X4_status hfx) (cwV 2 hts gL_law_X4_status rfl rfl rfl (by decide +kernel) ⟨Nat.le_of_ble_eq_true rfl, Nat.le_of_ble_eq_true rfl⟩) rfl rfl rfl rfl hl.1 rfl (Nat.le_of_ble_eq_true rfl) dL_law_478 (Nat.le_refl _) (Nat.le_refl _) (fun H1 locs1 hz hk1 hP1 hD1 hS1 => ?_)
  replace hW : lw_W dC dI s hX cX hM cM H1 locs1 SX1 SM := ⟨hP1, hD1, sc_keepM hW.2.2.1 hF.2.2.2.1 hk1, hW.2.2.2.1, hS1⟩
  refine lv_aload_n hx hb dL_law_481 rfl (lv_at hl 2 rfl) ?_
  refine lv_aload_n hx hb dL_law_482 rfl (lv_at hl 0 rfl) ?_
  refine lv_iload_n hx hb dL_law_483 rfl (lv_at hl 3 rfl) ?_
  refine lv_iconst (v := (1 : Int32)) hx hb dL_law_484 (by decide) ?_
  refine lv_iadd hx hb dL_law_485 ?_
  refine va_sld hx hb hXs hbl hbA hW.2.2.2.2 (lw_in hL (show i + 1 < L by omega) rfl) dL_law_486 ?_
  refine lv_aload_n hx hb dL_law_487 rfl (lv_at hl 0 rfl) ?_
  refine lv_iload_n hx hb dL_law_488 rfl (lv_at hl 3 rfl) ?_
  refine lv_iconst (v := (2 : Int32)) hx hb dL_law_489 (by decide) ?_
  refine lv_iadd hx hb dL_law_490 ?_
  refine va_sld hx hb hXs hbl hbA hW.2.2.2.2 (lw_in hL (show i + 2 < L by omega) rfl) dL_law_491 ?_
  refine sc_inVi (E := sc_EM dC dI hM cM) (A := lw_A s) (As := [.int (xs ((nI i + (1 : Int32))).toNatClampNeg), .int (xs ((nI i + (2 : Int32))).toNatClampNeg)]) (rest := [.int r]) (q0 := 0) (ci := 4) sc_okM C0 hF.2.1 hW.2.2.1 hW.2.2.2.1 hW.2.2.2.2 trivial (sc_AEM hW.2.2.2.1 (fun q h => Nat.le_trans hW.2.2.2.2.1 h)) (ct_X5_status hfm) (cwV 2 hts gL_law_X5_status rfl rfl rfl (by decide +kernel) ⟨Nat.le_of_ble_eq_true rfl, Nat.le_of_ble_eq_true rfl⟩) rfl rfl rfl rfl hl.1 rfl (Nat.le_of_ble_eq_true rfl) dL_law_492 (Nat.le_refl _) (Nat.le_refl _) (fun H1 locs1 hz hk1 hP1 hD1 hS1 => ?_)
  replace hW : lw_W dC dI s hX cX hM cM H1 locs1 SX1 SM1 := ⟨sc_keepX hW.1 hF.2.2.2.2 hk1, hW.2.1, hP1, hD1, hS1⟩
  refine lv_icmp_eq (tgt := 835) hx hb dL_law_495 (by decide) (fun _ => ?_) (fun hc => absurd rfl hc)
  exact hend _ _ _ _ _ hrel1 hW hl
set_option maxHeartbeats 4000000 in
set_option maxRecDepth 100000 in
theorem lc_elected {p : Program} {l : Launch} {e : Env} {s : State} {m : MethodId} {below : List Frame} {meth : Method} {c : Code} {b L : Nat} {xs : Nat → Int32} {dC : Nat → ClassId} {dI : Nat → Nat → Nat} {hX hM : Nat → Nat} {cX cM : Nat → ClassId} {Rel : sc_M → sc_M → Prop} (hsim : sm_all Rel) (hL : L ≤ 2560) (C0 : CallFix p m c code 4 s #[Value.ref b] wsL_law RL) (hXs : va_X b L xs s s.heap) (hbl : b < s.heap.size) (hF : lw_F dC dI s hX cX hM cM) {i : Nat} (hi : i + 5 ≤ L) (hend : ∀ (SX SM : sc_M) (H : Heap) (locs : List Loc) (ls : Array Slot), Rel SX SM → lw_W dC dI s hX cX hM cM H locs SX SM → lv_has ls 4 [(0, .ref b), (1, .ref (hX 0)), (2, .ref (hM 0)), (3, .int (nI i))] → W p l e room_1 s m #[Value.ref b] below meth c H locs 54 29131 (lw_Z below #[Value.ref b] s) (F0 m 835 ls [])) : ∀ (SX SM : sc_M) (H : Heap) (locs : List Loc) (ls : Array Slot), Rel SX SM → lw_W dC dI s hX cX hM cM H locs SX SM → lv_has ls 4 [(0, .ref b), (1, .ref (hX 0)), (2, .ref (hM 0)), (3, .int (nI i))] → W p l e room_1 s m #[Value.ref b] below meth c H locs 54 29131 (lw_Z below #[Value.ref b] s) (F0 m 500 ls []) := by
  obtain ⟨hx, hb, hml, hown, hts⟩ := id C0
  have hbA : ¬ lw_A s b := Nat.not_le.mpr hbl
  intro SX SM H locs ls hrel hW hl
  refine lv_aload_n hx hb dL_law_500 rfl (lv_at hl 1 rfl) ?_
  refine lv_aload_n hx hb dL_law_501 rfl (lv_at hl 0 rfl) ?_
  refine lv_iload_n hx hb dL_law_502 rfl (lv_at hl 3 rfl) ?_
  refine lv_iconst (v := (1 : Int32)) hx hb dL_law_503 (by decide) ?_
  refine lv_iadd hx hb dL_law_504 ?_
  refine va_sld hx hb hXs hbl hbA hW.2.2.2.2 (lw_in hL (show i + 1 < L by omega) rfl) dL_law_505 ?_
  obtain ⟨r, SX1, SM1, hfx, hfm, hrel1⟩ := hsim.2.2.2.2.2.2.2.2.2.2.1 SX SM ((xs ((nI i + (1 : Int32))).toNatClampNeg)) hrel
  refine sc_inVi (E := sc_EX dC dI hX cX) (A := lw_A s) (As := [.int (xs ((nI i + (1 : Int32))).toNatClampNeg)]) (rest := []) (q0 := 0) (ci := 3) sc_okX C0 hF.1 hW.1 hW.2.1 hW.2.2.2.2 hF.2.2.1 (sc_AEX hW.2.1 (fun q h => Nat.le_trans hW.2.2.2.2.1 h)) (ct_X4_elected hfx) (cwV 1 hts gL_law_X4_elected rfl rfl rfl (by decide +kernel) ⟨Nat.le_of_ble_eq_true rfl, Nat.le_of_ble_eq_true rfl⟩) rfl rfl rfl rfl hl.1 rfl (Nat.le_of_ble_eq_true rfl) dL_law_506 (Nat.le_refl _) (Nat.le_refl _) (fun H1 locs1 hz hk1 hP1 hD1 hS1 => ?_)
  replace hW : lw_W dC dI s hX cX hM cM H1 locs1 SX1 SM := ⟨hP1, hD1, sc_keepM hW.2.2.1 hF.2.2.2.1 hk1, hW.2.2.2.1, hS1⟩
  refine lv_aload_n hx hb dL_law_509 rfl (lv_at hl 2 rfl) ?_
  refine lv_aload_n hx hb dL_law_510 rfl (lv_at hl 0 rfl) ?_
  refine lv_iload_n hx hb dL_law_511 rfl (lv_at hl 3 rfl) ?_
  refine lv_iconst (v := (1 : Int32)) hx hb dL_law_512 (by decide) ?_
  refine lv_iadd hx hb dL_law_513 ?_
  refine va_sld hx hb hXs hbl hbA hW.2.2.2.2 (lw_in hL (show i + 1 < L by omega) rfl) dL_law_514 ?_
  refine sc_inVi (E := sc_EM dC dI hM cM) (A := lw_A s) (As := [.int (xs ((nI i + (1 : Int32))).toNatClampNeg)]) (rest := [.int r]) (q0 := 0) (ci := 4) sc_okM C0 hF.2.1 hW.2.2.1 hW.2.2.2.1 hW.2.2.2.2 trivial (sc_AEM hW.2.2.2.1 (fun q h => Nat.le_trans hW.2.2.2.2.1 h)) (ct_X5_elected hfm) (cwV 1 hts gL_law_X5_elected rfl rfl rfl (by decide +kernel) ⟨Nat.le_of_ble_eq_true rfl, Nat.le_of_ble_eq_true rfl⟩) rfl rfl rfl rfl hl.1 rfl (Nat.le_of_ble_eq_true rfl) dL_law_515 (Nat.le_refl _) (Nat.le_refl _) (fun H1 locs1 hz hk1 hP1 hD1 hS1 => ?_)
  replace hW : lw_W dC dI s hX cX hM cM H1 locs1 SX1 SM1 := ⟨sc_keepX hW.1 hF.2.2.2.2 hk1, hW.2.1, hP1, hD1, hS1⟩
  refine lv_icmp_eq (tgt := 835) hx hb dL_law_518 (by decide) (fun _ => ?_) (fun hc => absurd rfl hc)
  exact hend _ _ _ _ _ hrel1 hW hl
set_option maxHeartbeats 4000000 in
set_option maxRecDepth 100000 in
theorem lc_keep {p : Program} {l : Launch} {e : Env} {s : State} {m : MethodId} {below : List Frame} {meth : Method} {c : Code} {b L : Nat} {xs : Nat → Int32} {dC : Nat → ClassId} {dI : Nat → Nat → Nat} {hX hM : Nat → Nat} {cX cM : Nat → ClassId} {Rel : sc_M → sc_M → Prop} (hsim : sm_all Rel) (hL : L ≤ 2560) (C0 : CallFix p m c code 4 s #[Value.ref b] wsL_law RL) (hXs : va_X b L xs s s.heap) (hbl : b < s.heap.size) (hF : lw_F dC dI s hX cX hM cM) {i : Nat} (hi : i + 5 ≤ L) (hend : ∀ (SX SM : sc_M) (H : Heap) (locs : List Loc) (ls : Array Slot), Rel SX SM → lw_W dC dI s hX cX hM cM H locs SX SM → lv_has ls 4 [(0, .ref b), (1, .ref (hX 0)), (2, .ref (hM 0)), (3, .int (nI i))] → W p l e room_1 s m #[Value.ref b] below meth c H locs 54 29131 (lw_Z below #[Value.ref b] s) (F0 m 835 ls [])) : ∀ (SX SM : sc_M) (H : Heap) (locs : List Loc) (ls : Array Slot), Rel SX SM → lw_W dC dI s hX cX hM cM H locs SX SM → lv_has ls 4 [(0, .ref b), (1, .ref (hX 0)), (2, .ref (hM 0)), (3, .int (nI i))] → W p l e room_1 s m #[Value.ref b] below meth c H locs 54 29131 (lw_Z below #[Value.ref b] s) (F0 m 523 ls []) := by
  obtain ⟨hx, hb, hml, hown, hts⟩ := id C0
  have hbA : ¬ lw_A s b := Nat.not_le.mpr hbl
  intro SX SM H locs ls hrel hW hl
  refine lv_aload_n hx hb dL_law_523 rfl (lv_at hl 1 rfl) ?_
  refine lv_aload_n hx hb dL_law_524 rfl (lv_at hl 0 rfl) ?_
  refine lv_iload_n hx hb dL_law_525 rfl (lv_at hl 3 rfl) ?_
  refine lv_iconst (v := (1 : Int32)) hx hb dL_law_526 (by decide) ?_
  refine lv_iadd hx hb dL_law_527 ?_
  refine va_sld hx hb hXs hbl hbA hW.2.2.2.2 (lw_in hL (show i + 1 < L by omega) rfl) dL_law_528 ?_
  refine lv_aload_n hx hb dL_law_529 rfl (lv_at hl 0 rfl) ?_
  refine lv_iload_n hx hb dL_law_530 rfl (lv_at hl 3 rfl) ?_
  refine lv_iconst (v := (2 : Int32)) hx hb dL_law_531 (by decide) ?_
  refine lv_iadd hx hb dL_law_532 ?_
  refine va_sld hx hb hXs hbl hbA hW.2.2.2.2 (lw_in hL (show i + 2 < L by omega) rfl) dL_law_533 ?_
  obtain ⟨r, SX1, SM1, hfx, hfm, hrel1⟩ := hsim.2.2.2.2.2.2.2.2.2.2.2.1 SX SM ((xs ((nI i + (1 : Int32))).toNatClampNeg)) ((xs ((nI i + (2 : Int32))).toNatClampNeg)) hrel
  refine sc_inVi (E := sc_EX dC dI hX cX) (A := lw_A s) (As := [.int (xs ((nI i + (1 : Int32))).toNatClampNeg), .int (xs ((nI i + (2 : Int32))).toNatClampNeg)]) (rest := []) (q0 := 0) (ci := 3) sc_okX C0 hF.1 hW.1 hW.2.1 hW.2.2.2.2 hF.2.2.1 (sc_AEX hW.2.1 (fun q h => Nat.le_trans hW.2.2.2.2.1 h)) (ct_X4_keep hfx) (cwV 2 hts gL_law_X4_keep rfl rfl rfl (by decide +kernel) ⟨Nat.le_of_ble_eq_true rfl, Nat.le_of_ble_eq_true rfl⟩) rfl rfl rfl rfl hl.1 rfl (Nat.le_of_ble_eq_true rfl) dL_law_534 (Nat.le_refl _) (Nat.le_refl _) (fun H1 locs1 hz hk1 hP1 hD1 hS1 => ?_)
  replace hW : lw_W dC dI s hX cX hM cM H1 locs1 SX1 SM := ⟨hP1, hD1, sc_keepM hW.2.2.1 hF.2.2.2.1 hk1, hW.2.2.2.1, hS1⟩
  refine lv_aload_n hx hb dL_law_537 rfl (lv_at hl 2 rfl) ?_
  refine lv_aload_n hx hb dL_law_538 rfl (lv_at hl 0 rfl) ?_
  refine lv_iload_n hx hb dL_law_539 rfl (lv_at hl 3 rfl) ?_
  refine lv_iconst (v := (1 : Int32)) hx hb dL_law_540 (by decide) ?_
  refine lv_iadd hx hb dL_law_541 ?_
  refine va_sld hx hb hXs hbl hbA hW.2.2.2.2 (lw_in hL (show i + 1 < L by omega) rfl) dL_law_542 ?_
  refine lv_aload_n hx hb dL_law_543 rfl (lv_at hl 0 rfl) ?_
  refine lv_iload_n hx hb dL_law_544 rfl (lv_at hl 3 rfl) ?_
  refine lv_iconst (v := (2 : Int32)) hx hb dL_law_545 (by decide) ?_
  refine lv_iadd hx hb dL_law_546 ?_
  refine va_sld hx hb hXs hbl hbA hW.2.2.2.2 (lw_in hL (show i + 2 < L by omega) rfl) dL_law_547 ?_
  refine sc_inVi (E := sc_EM dC dI hM cM) (A := lw_A s) (As := [.int (xs ((nI i + (1 : Int32))).toNatClampNeg), .int (xs ((nI i + (2 : Int32))).toNatClampNeg)]) (rest := [.int r]) (q0 := 0) (ci := 4) sc_okM C0 hF.2.1 hW.2.2.1 hW.2.2.2.1 hW.2.2.2.2 trivial (sc_AEM hW.2.2.2.1 (fun q h => Nat.le_trans hW.2.2.2.2.1 h)) (ct_X5_keep hfm) (cwV 2 hts gL_law_X5_keep rfl rfl rfl (by decide +kernel) ⟨Nat.le_of_ble_eq_true rfl, Nat.le_of_ble_eq_true rfl⟩) rfl rfl rfl rfl hl.1 rfl (Nat.le_of_ble_eq_true rfl) dL_law_548 (Nat.le_refl _) (Nat.le_refl _) (fun H1 locs1 hz hk1 hP1 hD1 hS1 => ?_)
  replace hW : lw_W dC dI s hX cX hM cM H1 locs1 SX1 SM1 := ⟨sc_keepX hW.1 hF.2.2.2.2 hk1, hW.2.1, hP1, hD1, hS1⟩
  refine lv_icmp_eq (tgt := 835) hx hb dL_law_551 (by decide) (fun _ => ?_) (fun hc => absurd rfl hc)
  exact hend _ _ _ _ _ hrel1 hW hl
set_option maxHeartbeats 4000000 in
set_option maxRecDepth 100000 in
theorem lc_lies {p : Program} {l : Launch} {e : Env} {s : State} {m : MethodId} {below : List Frame} {meth : Method} {c : Code} {b L : Nat} {xs : Nat → Int32} {dC : Nat → ClassId} {dI : Nat → Nat → Nat} {hX hM : Nat → Nat} {cX cM : Nat → ClassId} {Rel : sc_M → sc_M → Prop} (hsim : sm_all Rel) (hL : L ≤ 2560) (C0 : CallFix p m c code 4 s #[Value.ref b] wsL_law RL) (hXs : va_X b L xs s s.heap) (hbl : b < s.heap.size) (hF : lw_F dC dI s hX cX hM cM) {i : Nat} (hi : i + 5 ≤ L) (hend : ∀ (SX SM : sc_M) (H : Heap) (locs : List Loc) (ls : Array Slot), Rel SX SM → lw_W dC dI s hX cX hM cM H locs SX SM → lv_has ls 4 [(0, .ref b), (1, .ref (hX 0)), (2, .ref (hM 0)), (3, .int (nI i))] → W p l e room_1 s m #[Value.ref b] below meth c H locs 54 29131 (lw_Z below #[Value.ref b] s) (F0 m 835 ls [])) : ∀ (SX SM : sc_M) (H : Heap) (locs : List Loc) (ls : Array Slot), Rel SX SM → lw_W dC dI s hX cX hM cM H locs SX SM → lv_has ls 4 [(0, .ref b), (1, .ref (hX 0)), (2, .ref (hM 0)), (3, .int (nI i))] → W p l e room_1 s m #[Value.ref b] below meth c H locs 54 29131 (lw_Z below #[Value.ref b] s) (F0 m 556 ls []) := by
  obtain ⟨hx, hb, hml, hown, hts⟩ := id C0
  have hbA : ¬ lw_A s b := Nat.not_le.mpr hbl
  intro SX SM H locs ls hrel hW hl
  refine lv_aload_n hx hb dL_law_556 rfl (lv_at hl 1 rfl) ?_
  refine lv_aload_n hx hb dL_law_557 rfl (lv_at hl 0 rfl) ?_
  refine lv_iload_n hx hb dL_law_558 rfl (lv_at hl 3 rfl) ?_
  refine lv_iconst (v := (1 : Int32)) hx hb dL_law_559 (by decide) ?_
  refine lv_iadd hx hb dL_law_560 ?_
  refine va_sld hx hb hXs hbl hbA hW.2.2.2.2 (lw_in hL (show i + 1 < L by omega) rfl) dL_law_561 ?_
  refine lv_aload_n hx hb dL_law_562 rfl (lv_at hl 0 rfl) ?_
  refine lv_iload_n hx hb dL_law_563 rfl (lv_at hl 3 rfl) ?_
  refine lv_iconst (v := (2 : Int32)) hx hb dL_law_564 (by decide) ?_
  refine lv_iadd hx hb dL_law_565 ?_
  refine va_sld hx hb hXs hbl hbA hW.2.2.2.2 (lw_in hL (show i + 2 < L by omega) rfl) dL_law_566 ?_
  refine lv_aload_n hx hb dL_law_567 rfl (lv_at hl 0 rfl) ?_
  refine lv_iload_n hx hb dL_law_568 rfl (lv_at hl 3 rfl) ?_
  refine lv_iconst (v := (3 : Int32)) hx hb dL_law_569 (by decide) ?_
  refine lv_iadd hx hb dL_law_570 ?_
  refine va_sld hx hb hXs hbl hbA hW.2.2.2.2 (lw_in hL (show i + 3 < L by omega) rfl) dL_law_571 ?_
  obtain ⟨r, SX1, SM1, hfx, hfm, hrel1⟩ := hsim.2.2.2.2.2.2.2.2.2.2.2.2.1 SX SM ((xs ((nI i + (1 : Int32))).toNatClampNeg)) ((xs ((nI i + (2 : Int32))).toNatClampNeg)) ((xs ((nI i + (3 : Int32))).toNatClampNeg)) hrel
  refine sc_inVi (E := sc_EX dC dI hX cX) (A := lw_A s) (As := [.int (xs ((nI i + (1 : Int32))).toNatClampNeg), .int (xs ((nI i + (2 : Int32))).toNatClampNeg), .int (xs ((nI i + (3 : Int32))).toNatClampNeg)]) (rest := []) (q0 := 0) (ci := 3) sc_okX C0 hF.1 hW.1 hW.2.1 hW.2.2.2.2 hF.2.2.1 (sc_AEX hW.2.1 (fun q h => Nat.le_trans hW.2.2.2.2.1 h)) (ct_X4_lies hfx) (cwV 3 hts gL_law_X4_lies rfl rfl rfl (by decide +kernel) ⟨Nat.le_of_ble_eq_true rfl, Nat.le_of_ble_eq_true rfl⟩) rfl rfl rfl rfl hl.1 rfl (Nat.le_of_ble_eq_true rfl) dL_law_572 (Nat.le_refl _) (Nat.le_refl _) (fun H1 locs1 hz hk1 hP1 hD1 hS1 => ?_)
  replace hW : lw_W dC dI s hX cX hM cM H1 locs1 SX1 SM := ⟨hP1, hD1, sc_keepM hW.2.2.1 hF.2.2.2.1 hk1, hW.2.2.2.1, hS1⟩
  refine lv_aload_n hx hb dL_law_575 rfl (lv_at hl 2 rfl) ?_
  refine lv_aload_n hx hb dL_law_576 rfl (lv_at hl 0 rfl) ?_
  refine lv_iload_n hx hb dL_law_577 rfl (lv_at hl 3 rfl) ?_
  refine lv_iconst (v := (1 : Int32)) hx hb dL_law_578 (by decide) ?_
  refine lv_iadd hx hb dL_law_579 ?_
  refine va_sld hx hb hXs hbl hbA hW.2.2.2.2 (lw_in hL (show i + 1 < L by omega) rfl) dL_law_580 ?_
  refine lv_aload_n hx hb dL_law_581 rfl (lv_at hl 0 rfl) ?_
  refine lv_iload_n hx hb dL_law_582 rfl (lv_at hl 3 rfl) ?_
  refine lv_iconst (v := (2 : Int32)) hx hb dL_law_583 (by decide) ?_
  refine lv_iadd hx hb dL_law_584 ?_
  refine va_sld hx hb hXs hbl hbA hW.2.2.2.2 (lw_in hL (show i + 2 < L by omega) rfl) dL_law_585 ?_
  refine lv_aload_n hx hb dL_law_586 rfl (lv_at hl 0 rfl) ?_
  refine lv_iload_n hx hb dL_law_587 rfl (lv_at hl 3 rfl) ?_
  refine lv_iconst (v := (3 : Int32)) hx hb dL_law_588 (by decide) ?_
  refine lv_iadd hx hb dL_law_589 ?_
  refine va_sld hx hb hXs hbl hbA hW.2.2.2.2 (lw_in hL (show i + 3 < L by omega) rfl) dL_law_590 ?_
  refine sc_inVi (E := sc_EM dC dI hM cM) (A := lw_A s) (As := [.int (xs ((nI i + (1 : Int32))).toNatClampNeg), .int (xs ((nI i + (2 : Int32))).toNatClampNeg), .int (xs ((nI i + (3 : Int32))).toNatClampNeg)]) (rest := [.int r]) (q0 := 0) (ci := 4) sc_okM C0 hF.2.1 hW.2.2.1 hW.2.2.2.1 hW.2.2.2.2 trivial (sc_AEM hW.2.2.2.1 (fun q h => Nat.le_trans hW.2.2.2.2.1 h)) (ct_X5_lies hfm) (cwV 3 hts gL_law_X5_lies rfl rfl rfl (by decide +kernel) ⟨Nat.le_of_ble_eq_true rfl, Nat.le_of_ble_eq_true rfl⟩) rfl rfl rfl rfl hl.1 rfl (Nat.le_of_ble_eq_true rfl) dL_law_591 (Nat.le_refl _) (Nat.le_refl _) (fun H1 locs1 hz hk1 hP1 hD1 hS1 => ?_)
  replace hW : lw_W dC dI s hX cX hM cM H1 locs1 SX1 SM1 := ⟨sc_keepX hW.1 hF.2.2.2.2 hk1, hW.2.1, hP1, hD1, hS1⟩
  refine lv_icmp_eq (tgt := 835) hx hb dL_law_594 (by decide) (fun _ => ?_) (fun hc => absurd rfl hc)
  exact hend _ _ _ _ _ hrel1 hW hl
set_option maxHeartbeats 4000000 in
set_option maxRecDepth 100000 in
theorem lc_sheet {p : Program} {l : Launch} {e : Env} {s : State} {m : MethodId} {below : List Frame} {meth : Method} {c : Code} {b L : Nat} {xs : Nat → Int32} {dC : Nat → ClassId} {dI : Nat → Nat → Nat} {hX hM : Nat → Nat} {cX cM : Nat → ClassId} {Rel : sc_M → sc_M → Prop} (hsim : sm_all Rel) (hL : L ≤ 2560) (C0 : CallFix p m c code 4 s #[Value.ref b] wsL_law RL) (hXs : va_X b L xs s s.heap) (hbl : b < s.heap.size) (hF : lw_F dC dI s hX cX hM cM) {i : Nat} (hi : i + 5 ≤ L) (hend : ∀ (SX SM : sc_M) (H : Heap) (locs : List Loc) (ls : Array Slot), Rel SX SM → lw_W dC dI s hX cX hM cM H locs SX SM → lv_has ls 4 [(0, .ref b), (1, .ref (hX 0)), (2, .ref (hM 0)), (3, .int (nI i))] → W p l e room_1 s m #[Value.ref b] below meth c H locs 54 29131 (lw_Z below #[Value.ref b] s) (F0 m 835 ls [])) : ∀ (SX SM : sc_M) (H : Heap) (locs : List Loc) (ls : Array Slot), Rel SX SM → lw_W dC dI s hX cX hM cM H locs SX SM → lv_has ls 4 [(0, .ref b), (1, .ref (hX 0)), (2, .ref (hM 0)), (3, .int (nI i))] → W p l e room_1 s m #[Value.ref b] below meth c H locs 54 29131 (lw_Z below #[Value.ref b] s) (F0 m 599 ls []) := by
  obtain ⟨hx, hb, hml, hown, hts⟩ := id C0
  have hbA : ¬ lw_A s b := Nat.not_le.mpr hbl
  intro SX SM H locs ls hrel hW hl
  refine lv_aload_n hx hb dL_law_599 rfl (lv_at hl 1 rfl) ?_
  refine lv_aload_n hx hb dL_law_600 rfl (lv_at hl 0 rfl) ?_
  refine lv_iload_n hx hb dL_law_601 rfl (lv_at hl 3 rfl) ?_
  refine lv_iconst (v := (1 : Int32)) hx hb dL_law_602 (by decide) ?_
  refine lv_iadd hx hb dL_law_603 ?_
  refine va_sld hx hb hXs hbl hbA hW.2.2.2.2 (lw_in hL (show i + 1 < L by omega) rfl) dL_law_604 ?_
  refine lv_aload_n hx hb dL_law_605 rfl (lv_at hl 0 rfl) ?_
  refine lv_iload_n hx hb dL_law_606 rfl (lv_at hl 3 rfl) ?_
  refine lv_iconst (v := (2 : Int32)) hx hb dL_law_607 (by decide) ?_
  refine lv_iadd hx hb dL_law_608 ?_
  refine va_sld hx hb hXs hbl hbA hW.2.2.2.2 (lw_in hL (show i + 2 < L by omega) rfl) dL_law_609 ?_
  obtain ⟨r, SX1, SM1, hfx, hfm, hrel1⟩ := hsim.2.2.2.2.2.2.2.2.2.2.2.2.2.1 SX SM ((xs ((nI i + (1 : Int32))).toNatClampNeg)) ((xs ((nI i + (2 : Int32))).toNatClampNeg)) hrel
  refine sc_inVl (E := sc_EX dC dI hX cX) (A := lw_A s) (As := [.int (xs ((nI i + (1 : Int32))).toNatClampNeg), .int (xs ((nI i + (2 : Int32))).toNatClampNeg)]) (rest := []) (q0 := 0) (ci := 3) sc_okX C0 hF.1 hW.1 hW.2.1 hW.2.2.2.2 hF.2.2.1 (sc_AEX hW.2.1 (fun q h => Nat.le_trans hW.2.2.2.2.1 h)) (ct_X4_sheet hfx) (cwV 2 hts gL_law_X4_sheet rfl rfl rfl (by decide +kernel) ⟨Nat.le_of_ble_eq_true rfl, Nat.le_of_ble_eq_true rfl⟩) rfl rfl rfl rfl hl.1 rfl (Nat.le_of_ble_eq_true rfl) dL_law_610 (Nat.le_refl _) (Nat.le_refl _) (fun H1 locs1 hz hk1 hP1 hD1 hS1 => ?_)
  replace hW : lw_W dC dI s hX cX hM cM H1 locs1 SX1 SM := ⟨hP1, hD1, sc_keepM hW.2.2.1 hF.2.2.2.1 hk1, hW.2.2.2.1, hS1⟩
  refine lv_aload_n hx hb dL_law_613 rfl (lv_at hl 2 rfl) ?_
  refine lv_aload_n hx hb dL_law_614 rfl (lv_at hl 0 rfl) ?_
  refine lv_iload_n hx hb dL_law_615 rfl (lv_at hl 3 rfl) ?_
  refine lv_iconst (v := (1 : Int32)) hx hb dL_law_616 (by decide) ?_
  refine lv_iadd hx hb dL_law_617 ?_
  refine va_sld hx hb hXs hbl hbA hW.2.2.2.2 (lw_in hL (show i + 1 < L by omega) rfl) dL_law_618 ?_
  refine lv_aload_n hx hb dL_law_619 rfl (lv_at hl 0 rfl) ?_
  refine lv_iload_n hx hb dL_law_620 rfl (lv_at hl 3 rfl) ?_
  refine lv_iconst (v := (2 : Int32)) hx hb dL_law_621 (by decide) ?_
  refine lv_iadd hx hb dL_law_622 ?_
  refine va_sld hx hb hXs hbl hbA hW.2.2.2.2 (lw_in hL (show i + 2 < L by omega) rfl) dL_law_623 ?_
  refine sc_inVl (E := sc_EM dC dI hM cM) (A := lw_A s) (As := [.int (xs ((nI i + (1 : Int32))).toNatClampNeg), .int (xs ((nI i + (2 : Int32))).toNatClampNeg)]) (rest := [.long r]) (q0 := 0) (ci := 4) sc_okM C0 hF.2.1 hW.2.2.1 hW.2.2.2.1 hW.2.2.2.2 trivial (sc_AEM hW.2.2.2.1 (fun q h => Nat.le_trans hW.2.2.2.2.1 h)) (ct_X5_sheet hfm) (cwV 2 hts gL_law_X5_sheet rfl rfl rfl (by decide +kernel) ⟨Nat.le_of_ble_eq_true rfl, Nat.le_of_ble_eq_true rfl⟩) rfl rfl rfl rfl hl.1 rfl (Nat.le_of_ble_eq_true rfl) dL_law_624 (Nat.le_refl _) (Nat.le_refl _) (fun H1 locs1 hz hk1 hP1 hD1 hS1 => ?_)
  replace hW : lw_W dC dI s hX cX hM cM H1 locs1 SX1 SM1 := ⟨sc_keepX hW.1 hF.2.2.2.2 hk1, hW.2.1, hP1, hD1, hS1⟩
  refine W.lcmp hx hb dL_law_627 ?_
  refine lv_if_eq (tgt := 835) hx hb dL_law_628 (by decide) (fun _ => ?_) (fun hc => absurd ((lg_cmp_eq _ _).mpr rfl) hc)
  exact hend _ _ _ _ _ hrel1 hW hl
set_option maxHeartbeats 4000000 in
set_option maxRecDepth 100000 in
theorem lc_forge {p : Program} {l : Launch} {e : Env} {s : State} {m : MethodId} {below : List Frame} {meth : Method} {c : Code} {b L : Nat} {xs : Nat → Int32} {dC : Nat → ClassId} {dI : Nat → Nat → Nat} {hX hM : Nat → Nat} {cX cM : Nat → ClassId} {Rel : sc_M → sc_M → Prop} (hsim : sm_all Rel) (hL : L ≤ 2560) (C0 : CallFix p m c code 4 s #[Value.ref b] wsL_law RL) (hXs : va_X b L xs s s.heap) (hbl : b < s.heap.size) (hF : lw_F dC dI s hX cX hM cM) {i : Nat} (hi : i + 5 ≤ L) (hend : ∀ (SX SM : sc_M) (H : Heap) (locs : List Loc) (ls : Array Slot), Rel SX SM → lw_W dC dI s hX cX hM cM H locs SX SM → lv_has ls 4 [(0, .ref b), (1, .ref (hX 0)), (2, .ref (hM 0)), (3, .int (nI i))] → W p l e room_1 s m #[Value.ref b] below meth c H locs 54 29131 (lw_Z below #[Value.ref b] s) (F0 m 835 ls [])) : ∀ (SX SM : sc_M) (H : Heap) (locs : List Loc) (ls : Array Slot), Rel SX SM → lw_W dC dI s hX cX hM cM H locs SX SM → lv_has ls 4 [(0, .ref b), (1, .ref (hX 0)), (2, .ref (hM 0)), (3, .int (nI i))] → W p l e room_1 s m #[Value.ref b] below meth c H locs 54 29131 (lw_Z below #[Value.ref b] s) (F0 m 633 ls []) := by
  obtain ⟨hx, hb, hml, hown, hts⟩ := id C0
  have hbA : ¬ lw_A s b := Nat.not_le.mpr hbl
  intro SX SM H locs ls hrel hW hl
  refine lv_aload_n hx hb dL_law_633 rfl (lv_at hl 1 rfl) ?_
  refine lv_aload_n hx hb dL_law_634 rfl (lv_at hl 0 rfl) ?_
  refine lv_iload_n hx hb dL_law_635 rfl (lv_at hl 3 rfl) ?_
  refine lv_iconst (v := (1 : Int32)) hx hb dL_law_636 (by decide) ?_
  refine lv_iadd hx hb dL_law_637 ?_
  refine va_sld hx hb hXs hbl hbA hW.2.2.2.2 (lw_in hL (show i + 1 < L by omega) rfl) dL_law_638 ?_
  refine lv_aload_n hx hb dL_law_639 rfl (lv_at hl 0 rfl) ?_
  refine lv_iload_n hx hb dL_law_640 rfl (lv_at hl 3 rfl) ?_
  refine lv_iconst (v := (2 : Int32)) hx hb dL_law_641 (by decide) ?_
  refine lv_iadd hx hb dL_law_642 ?_
  refine va_sld hx hb hXs hbl hbA hW.2.2.2.2 (lw_in hL (show i + 2 < L by omega) rfl) dL_law_643 ?_
  refine lv_aload_n hx hb dL_law_644 rfl (lv_at hl 0 rfl) ?_
  refine lv_iload_n hx hb dL_law_645 rfl (lv_at hl 3 rfl) ?_
  refine lv_iconst (v := (3 : Int32)) hx hb dL_law_646 (by decide) ?_
  refine lv_iadd hx hb dL_law_647 ?_
  refine va_sld hx hb hXs hbl hbA hW.2.2.2.2 (lw_in hL (show i + 3 < L by omega) rfl) dL_law_648 ?_
  refine lv_i2l hx hb dL_law_649 rfl ?_
  refine lv_bipush (v := (32 : Int32)) hx hb dL_law_650 (by decide) ?_
  refine lv_lshl hx hb dL_law_652 rfl ?_
  refine lv_aload_n hx hb dL_law_653 rfl (lv_at hl 0 rfl) ?_
  refine lv_iload_n hx hb dL_law_654 rfl (lv_at hl 3 rfl) ?_
  refine lv_iconst (v := (4 : Int32)) hx hb dL_law_655 (by decide) ?_
  refine lv_iadd hx hb dL_law_656 ?_
  refine va_sld hx hb hXs hbl hbA hW.2.2.2.2 (lw_in hL (show i + 4 < L by omega) rfl) dL_law_657 ?_
  refine lv_i2l hx hb dL_law_658 rfl ?_
  refine lv_ldc2 (v := (4294967295 : Int64)) hx hb hown (hts _ lk_L_28) dL_law_659 ?_
  refine lv_land hx hb dL_law_662 ?_
  refine lv_lor hx hb dL_law_663 ?_
  obtain ⟨r, SX1, SM1, hfx, hfm, hrel1⟩ := hsim.2.2.2.2.2.2.2.2.2.2.2.2.2.2.1 SX SM ((xs ((nI i + (1 : Int32))).toNatClampNeg)) ((xs ((nI i + (2 : Int32))).toNatClampNeg)) ((((xs ((nI i + (3 : Int32))).toNatClampNeg).toInt64 <<< ((32 : Int32).toInt64 &&& 63)) ||| ((xs ((nI i + (4 : Int32))).toNatClampNeg).toInt64 &&& (4294967295 : Int64)))) hrel
  refine sc_inVl (E := sc_EX dC dI hX cX) (A := lw_A s) (As := [.int (xs ((nI i + (1 : Int32))).toNatClampNeg), .int (xs ((nI i + (2 : Int32))).toNatClampNeg), .long (((xs ((nI i + (3 : Int32))).toNatClampNeg).toInt64 <<< ((32 : Int32).toInt64 &&& 63)) ||| ((xs ((nI i + (4 : Int32))).toNatClampNeg).toInt64 &&& (4294967295 : Int64)))]) (rest := []) (q0 := 0) (ci := 3) sc_okX C0 hF.1 hW.1 hW.2.1 hW.2.2.2.2 hF.2.2.1 (sc_AEX hW.2.1 (fun q h => Nat.le_trans hW.2.2.2.2.1 h)) (ct_X4_forge hfx) (cwV 3 hts gL_law_X4_forge rfl rfl rfl (by decide +kernel) ⟨Nat.le_of_ble_eq_true rfl, Nat.le_of_ble_eq_true rfl⟩) rfl rfl rfl rfl hl.1 rfl (Nat.le_of_ble_eq_true rfl) dL_law_664 (Nat.le_refl _) (Nat.le_refl _) (fun H1 locs1 hz hk1 hP1 hD1 hS1 => ?_)
  replace hW : lw_W dC dI s hX cX hM cM H1 locs1 SX1 SM := ⟨hP1, hD1, sc_keepM hW.2.2.1 hF.2.2.2.1 hk1, hW.2.2.2.1, hS1⟩
  refine lv_aload_n hx hb dL_law_667 rfl (lv_at hl 2 rfl) ?_
  refine lv_aload_n hx hb dL_law_668 rfl (lv_at hl 0 rfl) ?_
  refine lv_iload_n hx hb dL_law_669 rfl (lv_at hl 3 rfl) ?_
  refine lv_iconst (v := (1 : Int32)) hx hb dL_law_670 (by decide) ?_
  refine lv_iadd hx hb dL_law_671 ?_
  refine va_sld hx hb hXs hbl hbA hW.2.2.2.2 (lw_in hL (show i + 1 < L by omega) rfl) dL_law_672 ?_
  refine lv_aload_n hx hb dL_law_673 rfl (lv_at hl 0 rfl) ?_
  refine lv_iload_n hx hb dL_law_674 rfl (lv_at hl 3 rfl) ?_
  refine lv_iconst (v := (2 : Int32)) hx hb dL_law_675 (by decide) ?_
  refine lv_iadd hx hb dL_law_676 ?_
  refine va_sld hx hb hXs hbl hbA hW.2.2.2.2 (lw_in hL (show i + 2 < L by omega) rfl) dL_law_677 ?_
  refine lv_aload_n hx hb dL_law_678 rfl (lv_at hl 0 rfl) ?_
  refine lv_iload_n hx hb dL_law_679 rfl (lv_at hl 3 rfl) ?_
  refine lv_iconst (v := (3 : Int32)) hx hb dL_law_680 (by decide) ?_
  refine lv_iadd hx hb dL_law_681 ?_
  refine va_sld hx hb hXs hbl hbA hW.2.2.2.2 (lw_in hL (show i + 3 < L by omega) rfl) dL_law_682 ?_
  refine lv_i2l hx hb dL_law_683 rfl ?_
  refine lv_bipush (v := (32 : Int32)) hx hb dL_law_684 (by decide) ?_
  refine lv_lshl hx hb dL_law_686 rfl ?_
  refine lv_aload_n hx hb dL_law_687 rfl (lv_at hl 0 rfl) ?_
  refine lv_iload_n hx hb dL_law_688 rfl (lv_at hl 3 rfl) ?_
  refine lv_iconst (v := (4 : Int32)) hx hb dL_law_689 (by decide) ?_
  refine lv_iadd hx hb dL_law_690 ?_
  refine va_sld hx hb hXs hbl hbA hW.2.2.2.2 (lw_in hL (show i + 4 < L by omega) rfl) dL_law_691 ?_
  refine lv_i2l hx hb dL_law_692 rfl ?_
  refine lv_ldc2 (v := (4294967295 : Int64)) hx hb hown (hts _ lk_L_28) dL_law_693 ?_
  refine lv_land hx hb dL_law_696 ?_
  refine lv_lor hx hb dL_law_697 ?_
  refine sc_inVl (E := sc_EM dC dI hM cM) (A := lw_A s) (As := [.int (xs ((nI i + (1 : Int32))).toNatClampNeg), .int (xs ((nI i + (2 : Int32))).toNatClampNeg), .long (((xs ((nI i + (3 : Int32))).toNatClampNeg).toInt64 <<< ((32 : Int32).toInt64 &&& 63)) ||| ((xs ((nI i + (4 : Int32))).toNatClampNeg).toInt64 &&& (4294967295 : Int64)))]) (rest := [.long r]) (q0 := 0) (ci := 4) sc_okM C0 hF.2.1 hW.2.2.1 hW.2.2.2.1 hW.2.2.2.2 trivial (sc_AEM hW.2.2.2.1 (fun q h => Nat.le_trans hW.2.2.2.2.1 h)) (ct_X5_forge hfm) (cwV 3 hts gL_law_X5_forge rfl rfl rfl (by decide +kernel) ⟨Nat.le_of_ble_eq_true rfl, Nat.le_of_ble_eq_true rfl⟩) rfl rfl rfl rfl hl.1 rfl (Nat.le_of_ble_eq_true rfl) dL_law_698 (Nat.le_refl _) (Nat.le_refl _) (fun H1 locs1 hz hk1 hP1 hD1 hS1 => ?_)
  replace hW : lw_W dC dI s hX cX hM cM H1 locs1 SX1 SM1 := ⟨sc_keepX hW.1 hF.2.2.2.2 hk1, hW.2.1, hP1, hD1, hS1⟩
  refine W.lcmp hx hb dL_law_701 ?_
  refine lv_if_eq (tgt := 835) hx hb dL_law_702 (by decide) (fun _ => ?_) (fun hc => absurd ((lg_cmp_eq _ _).mpr rfl) hc)
  exact hend _ _ _ _ _ hrel1 hW hl
set_option maxHeartbeats 4000000 in
set_option maxRecDepth 100000 in
theorem lc_check {p : Program} {l : Launch} {e : Env} {s : State} {m : MethodId} {below : List Frame} {meth : Method} {c : Code} {b L : Nat} {xs : Nat → Int32} {dC : Nat → ClassId} {dI : Nat → Nat → Nat} {hX hM : Nat → Nat} {cX cM : Nat → ClassId} {Rel : sc_M → sc_M → Prop} (hsim : sm_all Rel) (hL : L ≤ 2560) (C0 : CallFix p m c code 4 s #[Value.ref b] wsL_law RL) (hXs : va_X b L xs s s.heap) (hbl : b < s.heap.size) (hF : lw_F dC dI s hX cX hM cM) {i : Nat} (hi : i + 5 ≤ L) (hend : ∀ (SX SM : sc_M) (H : Heap) (locs : List Loc) (ls : Array Slot), Rel SX SM → lw_W dC dI s hX cX hM cM H locs SX SM → lv_has ls 4 [(0, .ref b), (1, .ref (hX 0)), (2, .ref (hM 0)), (3, .int (nI i))] → W p l e room_1 s m #[Value.ref b] below meth c H locs 54 29131 (lw_Z below #[Value.ref b] s) (F0 m 835 ls [])) : ∀ (SX SM : sc_M) (H : Heap) (locs : List Loc) (ls : Array Slot), Rel SX SM → lw_W dC dI s hX cX hM cM H locs SX SM → lv_has ls 4 [(0, .ref b), (1, .ref (hX 0)), (2, .ref (hM 0)), (3, .int (nI i))] → W p l e room_1 s m #[Value.ref b] below meth c H locs 54 29131 (lw_Z below #[Value.ref b] s) (F0 m 707 ls []) := by
  obtain ⟨hx, hb, hml, hown, hts⟩ := id C0
  have hbA : ¬ lw_A s b := Nat.not_le.mpr hbl
  intro SX SM H locs ls hrel hW hl
  refine lv_aload_n hx hb dL_law_707 rfl (lv_at hl 1 rfl) ?_
  obtain ⟨r, SX1, SM1, hfx, hfm, hrel1⟩ := hsim.2.2.2.2.2.2.2.2.2.2.2.2.2.2.2.1 SX SM  hrel
  refine sc_inVi (E := sc_EX dC dI hX cX) (A := lw_A s) (As := []) (rest := []) (q0 := 0) (ci := 3) sc_okX C0 hF.1 hW.1 hW.2.1 hW.2.2.2.2 hF.2.2.1 (sc_AEX hW.2.1 (fun q h => Nat.le_trans hW.2.2.2.2.1 h)) (ct_X4_check hfx) (cwV 0 hts gL_law_X4_check rfl rfl rfl (by decide +kernel) ⟨Nat.le_of_ble_eq_true rfl, Nat.le_of_ble_eq_true rfl⟩) rfl rfl rfl rfl hl.1 rfl (Nat.le_of_ble_eq_true rfl) dL_law_708 (Nat.le_refl _) (Nat.le_refl _) (fun H1 locs1 hz hk1 hP1 hD1 hS1 => ?_)
  replace hW : lw_W dC dI s hX cX hM cM H1 locs1 SX1 SM := ⟨hP1, hD1, sc_keepM hW.2.2.1 hF.2.2.2.1 hk1, hW.2.2.2.1, hS1⟩
  refine lv_aload_n hx hb dL_law_711 rfl (lv_at hl 2 rfl) ?_
  refine sc_inVi (E := sc_EM dC dI hM cM) (A := lw_A s) (As := []) (rest := [.int r]) (q0 := 0) (ci := 4) sc_okM C0 hF.2.1 hW.2.2.1 hW.2.2.2.1 hW.2.2.2.2 trivial (sc_AEM hW.2.2.2.1 (fun q h => Nat.le_trans hW.2.2.2.2.1 h)) (ct_X5_check hfm) (cwV 0 hts gL_law_X5_check rfl rfl rfl (by decide +kernel) ⟨Nat.le_of_ble_eq_true rfl, Nat.le_of_ble_eq_true rfl⟩) rfl rfl rfl rfl hl.1 rfl (Nat.le_of_ble_eq_true rfl) dL_law_712 (Nat.le_refl _) (Nat.le_refl _) (fun H1 locs1 hz hk1 hP1 hD1 hS1 => ?_)
  replace hW : lw_W dC dI s hX cX hM cM H1 locs1 SX1 SM1 := ⟨sc_keepX hW.1 hF.2.2.2.2 hk1, hW.2.1, hP1, hD1, hS1⟩
  refine lv_icmp_eq (tgt := 835) hx hb dL_law_715 (by decide) (fun _ => ?_) (fun hc => absurd rfl hc)
  exact hend _ _ _ _ _ hrel1 hW hl
set_option maxHeartbeats 4000000 in
set_option maxRecDepth 100000 in
theorem lc_prefer {p : Program} {l : Launch} {e : Env} {s : State} {m : MethodId} {below : List Frame} {meth : Method} {c : Code} {b L : Nat} {xs : Nat → Int32} {dC : Nat → ClassId} {dI : Nat → Nat → Nat} {hX hM : Nat → Nat} {cX cM : Nat → ClassId} {Rel : sc_M → sc_M → Prop} (hsim : sm_all Rel) (hL : L ≤ 2560) (C0 : CallFix p m c code 4 s #[Value.ref b] wsL_law RL) (hXs : va_X b L xs s s.heap) (hbl : b < s.heap.size) (hF : lw_F dC dI s hX cX hM cM) {i : Nat} (hi : i + 5 ≤ L) (hend : ∀ (SX SM : sc_M) (H : Heap) (locs : List Loc) (ls : Array Slot), Rel SX SM → lw_W dC dI s hX cX hM cM H locs SX SM → lv_has ls 4 [(0, .ref b), (1, .ref (hX 0)), (2, .ref (hM 0)), (3, .int (nI i))] → W p l e room_1 s m #[Value.ref b] below meth c H locs 54 29131 (lw_Z below #[Value.ref b] s) (F0 m 835 ls [])) : ∀ (SX SM : sc_M) (H : Heap) (locs : List Loc) (ls : Array Slot), Rel SX SM → lw_W dC dI s hX cX hM cM H locs SX SM → lv_has ls 4 [(0, .ref b), (1, .ref (hX 0)), (2, .ref (hM 0)), (3, .int (nI i))] → W p l e room_1 s m #[Value.ref b] below meth c H locs 54 29131 (lw_Z below #[Value.ref b] s) (F0 m 720 ls []) := by
  obtain ⟨hx, hb, hml, hown, hts⟩ := id C0
  have hbA : ¬ lw_A s b := Nat.not_le.mpr hbl
  intro SX SM H locs ls hrel hW hl
  refine lv_aload_n hx hb dL_law_720 rfl (lv_at hl 1 rfl) ?_
  refine lv_aload_n hx hb dL_law_721 rfl (lv_at hl 0 rfl) ?_
  refine lv_iload_n hx hb dL_law_722 rfl (lv_at hl 3 rfl) ?_
  refine lv_iconst (v := (1 : Int32)) hx hb dL_law_723 (by decide) ?_
  refine lv_iadd hx hb dL_law_724 ?_
  refine va_sld hx hb hXs hbl hbA hW.2.2.2.2 (lw_in hL (show i + 1 < L by omega) rfl) dL_law_725 ?_
  refine lv_aload_n hx hb dL_law_726 rfl (lv_at hl 0 rfl) ?_
  refine lv_iload_n hx hb dL_law_727 rfl (lv_at hl 3 rfl) ?_
  refine lv_iconst (v := (2 : Int32)) hx hb dL_law_728 (by decide) ?_
  refine lv_iadd hx hb dL_law_729 ?_
  refine va_sld hx hb hXs hbl hbA hW.2.2.2.2 (lw_in hL (show i + 2 < L by omega) rfl) dL_law_730 ?_
  obtain ⟨r, SX1, SM1, hfx, hfm, hrel1⟩ := hsim.2.2.2.2.2.2.2.2.2.2.2.2.2.2.2.2.1 SX SM ((xs ((nI i + (1 : Int32))).toNatClampNeg)) ((xs ((nI i + (2 : Int32))).toNatClampNeg)) hrel
  refine sc_inVi (E := sc_EX dC dI hX cX) (A := lw_A s) (As := [.int (xs ((nI i + (1 : Int32))).toNatClampNeg), .int (xs ((nI i + (2 : Int32))).toNatClampNeg)]) (rest := []) (q0 := 0) (ci := 3) sc_okX C0 hF.1 hW.1 hW.2.1 hW.2.2.2.2 hF.2.2.1 (sc_AEX hW.2.1 (fun q h => Nat.le_trans hW.2.2.2.2.1 h)) (ct_X4_prefer hfx) (cwV 2 hts gL_law_X4_prefer rfl rfl rfl (by decide +kernel) ⟨Nat.le_of_ble_eq_true rfl, Nat.le_of_ble_eq_true rfl⟩) rfl rfl rfl rfl hl.1 rfl (Nat.le_of_ble_eq_true rfl) dL_law_731 (Nat.le_refl _) (Nat.le_refl _) (fun H1 locs1 hz hk1 hP1 hD1 hS1 => ?_)
  replace hW : lw_W dC dI s hX cX hM cM H1 locs1 SX1 SM := ⟨hP1, hD1, sc_keepM hW.2.2.1 hF.2.2.2.1 hk1, hW.2.2.2.1, hS1⟩
  refine lv_aload_n hx hb dL_law_734 rfl (lv_at hl 2 rfl) ?_
  refine lv_aload_n hx hb dL_law_735 rfl (lv_at hl 0 rfl) ?_
  refine lv_iload_n hx hb dL_law_736 rfl (lv_at hl 3 rfl) ?_
  refine lv_iconst (v := (1 : Int32)) hx hb dL_law_737 (by decide) ?_
  refine lv_iadd hx hb dL_law_738 ?_
  refine va_sld hx hb hXs hbl hbA hW.2.2.2.2 (lw_in hL (show i + 1 < L by omega) rfl) dL_law_739 ?_
  refine lv_aload_n hx hb dL_law_740 rfl (lv_at hl 0 rfl) ?_
  refine lv_iload_n hx hb dL_law_741 rfl (lv_at hl 3 rfl) ?_
  refine lv_iconst (v := (2 : Int32)) hx hb dL_law_742 (by decide) ?_
  refine lv_iadd hx hb dL_law_743 ?_
  refine va_sld hx hb hXs hbl hbA hW.2.2.2.2 (lw_in hL (show i + 2 < L by omega) rfl) dL_law_744 ?_
  refine sc_inVi (E := sc_EM dC dI hM cM) (A := lw_A s) (As := [.int (xs ((nI i + (1 : Int32))).toNatClampNeg), .int (xs ((nI i + (2 : Int32))).toNatClampNeg)]) (rest := [.int r]) (q0 := 0) (ci := 4) sc_okM C0 hF.2.1 hW.2.2.1 hW.2.2.2.1 hW.2.2.2.2 trivial (sc_AEM hW.2.2.2.1 (fun q h => Nat.le_trans hW.2.2.2.2.1 h)) (ct_X5_prefer hfm) (cwV 2 hts gL_law_X5_prefer rfl rfl rfl (by decide +kernel) ⟨Nat.le_of_ble_eq_true rfl, Nat.le_of_ble_eq_true rfl⟩) rfl rfl rfl rfl hl.1 rfl (Nat.le_of_ble_eq_true rfl) dL_law_745 (Nat.le_refl _) (Nat.le_refl _) (fun H1 locs1 hz hk1 hP1 hD1 hS1 => ?_)
  replace hW : lw_W dC dI s hX cX hM cM H1 locs1 SX1 SM1 := ⟨sc_keepX hW.1 hF.2.2.2.2 hk1, hW.2.1, hP1, hD1, hS1⟩
  refine lv_icmp_eq (tgt := 835) hx hb dL_law_748 (by decide) (fun _ => ?_) (fun hc => absurd rfl hc)
  exact hend _ _ _ _ _ hrel1 hW hl
set_option maxHeartbeats 4000000 in
set_option maxRecDepth 100000 in
theorem lc_winner {p : Program} {l : Launch} {e : Env} {s : State} {m : MethodId} {below : List Frame} {meth : Method} {c : Code} {b L : Nat} {xs : Nat → Int32} {dC : Nat → ClassId} {dI : Nat → Nat → Nat} {hX hM : Nat → Nat} {cX cM : Nat → ClassId} {Rel : sc_M → sc_M → Prop} (hsim : sm_all Rel) (hL : L ≤ 2560) (C0 : CallFix p m c code 4 s #[Value.ref b] wsL_law RL) (hXs : va_X b L xs s s.heap) (hbl : b < s.heap.size) (hF : lw_F dC dI s hX cX hM cM) {i : Nat} (hi : i + 5 ≤ L) (hend : ∀ (SX SM : sc_M) (H : Heap) (locs : List Loc) (ls : Array Slot), Rel SX SM → lw_W dC dI s hX cX hM cM H locs SX SM → lv_has ls 4 [(0, .ref b), (1, .ref (hX 0)), (2, .ref (hM 0)), (3, .int (nI i))] → W p l e room_1 s m #[Value.ref b] below meth c H locs 54 29131 (lw_Z below #[Value.ref b] s) (F0 m 835 ls [])) : ∀ (SX SM : sc_M) (H : Heap) (locs : List Loc) (ls : Array Slot), Rel SX SM → lw_W dC dI s hX cX hM cM H locs SX SM → lv_has ls 4 [(0, .ref b), (1, .ref (hX 0)), (2, .ref (hM 0)), (3, .int (nI i))] → W p l e room_1 s m #[Value.ref b] below meth c H locs 54 29131 (lw_Z below #[Value.ref b] s) (F0 m 753 ls []) := by
  obtain ⟨hx, hb, hml, hown, hts⟩ := id C0
  have hbA : ¬ lw_A s b := Nat.not_le.mpr hbl
  intro SX SM H locs ls hrel hW hl
  refine lv_aload_n hx hb dL_law_753 rfl (lv_at hl 1 rfl) ?_
  obtain ⟨r, SX1, SM1, hfx, hfm, hrel1⟩ := hsim.2.2.2.2.2.2.2.2.2.2.2.2.2.2.2.2.2.1 SX SM  hrel
  refine sc_inVi (E := sc_EX dC dI hX cX) (A := lw_A s) (As := []) (rest := []) (q0 := 0) (ci := 3) sc_okX C0 hF.1 hW.1 hW.2.1 hW.2.2.2.2 hF.2.2.1 (sc_AEX hW.2.1 (fun q h => Nat.le_trans hW.2.2.2.2.1 h)) (ct_X4_winner hfx) (cwV 0 hts gL_law_X4_winner rfl rfl rfl (by decide +kernel) ⟨Nat.le_of_ble_eq_true rfl, Nat.le_of_ble_eq_true rfl⟩) rfl rfl rfl rfl hl.1 rfl (Nat.le_of_ble_eq_true rfl) dL_law_754 (Nat.le_refl _) (Nat.le_refl _) (fun H1 locs1 hz hk1 hP1 hD1 hS1 => ?_)
  replace hW : lw_W dC dI s hX cX hM cM H1 locs1 SX1 SM := ⟨hP1, hD1, sc_keepM hW.2.2.1 hF.2.2.2.1 hk1, hW.2.2.2.1, hS1⟩
  refine lv_aload_n hx hb dL_law_757 rfl (lv_at hl 2 rfl) ?_
  refine sc_inVi (E := sc_EM dC dI hM cM) (A := lw_A s) (As := []) (rest := [.int r]) (q0 := 0) (ci := 4) sc_okM C0 hF.2.1 hW.2.2.1 hW.2.2.2.1 hW.2.2.2.2 trivial (sc_AEM hW.2.2.2.1 (fun q h => Nat.le_trans hW.2.2.2.2.1 h)) (ct_X5_winner hfm) (cwV 0 hts gL_law_X5_winner rfl rfl rfl (by decide +kernel) ⟨Nat.le_of_ble_eq_true rfl, Nat.le_of_ble_eq_true rfl⟩) rfl rfl rfl rfl hl.1 rfl (Nat.le_of_ble_eq_true rfl) dL_law_758 (Nat.le_refl _) (Nat.le_refl _) (fun H1 locs1 hz hk1 hP1 hD1 hS1 => ?_)
  replace hW : lw_W dC dI s hX cX hM cM H1 locs1 SX1 SM1 := ⟨sc_keepX hW.1 hF.2.2.2.2 hk1, hW.2.1, hP1, hD1, hS1⟩
  refine lv_icmp_eq (tgt := 835) hx hb dL_law_761 (by decide) (fun _ => ?_) (fun hc => absurd rfl hc)
  exact hend _ _ _ _ _ hrel1 hW hl
set_option maxHeartbeats 4000000 in
set_option maxRecDepth 100000 in
theorem lc_leads {p : Program} {l : Launch} {e : Env} {s : State} {m : MethodId} {below : List Frame} {meth : Method} {c : Code} {b L : Nat} {xs : Nat → Int32} {dC : Nat → ClassId} {dI : Nat → Nat → Nat} {hX hM : Nat → Nat} {cX cM : Nat → ClassId} {Rel : sc_M → sc_M → Prop} (hsim : sm_all Rel) (hL : L ≤ 2560) (C0 : CallFix p m c code 4 s #[Value.ref b] wsL_law RL) (hXs : va_X b L xs s s.heap) (hbl : b < s.heap.size) (hF : lw_F dC dI s hX cX hM cM) {i : Nat} (hi : i + 5 ≤ L) (hend : ∀ (SX SM : sc_M) (H : Heap) (locs : List Loc) (ls : Array Slot), Rel SX SM → lw_W dC dI s hX cX hM cM H locs SX SM → lv_has ls 4 [(0, .ref b), (1, .ref (hX 0)), (2, .ref (hM 0)), (3, .int (nI i))] → W p l e room_1 s m #[Value.ref b] below meth c H locs 54 29131 (lw_Z below #[Value.ref b] s) (F0 m 835 ls [])) : ∀ (SX SM : sc_M) (H : Heap) (locs : List Loc) (ls : Array Slot), Rel SX SM → lw_W dC dI s hX cX hM cM H locs SX SM → lv_has ls 4 [(0, .ref b), (1, .ref (hX 0)), (2, .ref (hM 0)), (3, .int (nI i))] → W p l e room_1 s m #[Value.ref b] below meth c H locs 54 29131 (lw_Z below #[Value.ref b] s) (F0 m 766 ls []) := by
  obtain ⟨hx, hb, hml, hown, hts⟩ := id C0
  have hbA : ¬ lw_A s b := Nat.not_le.mpr hbl
  intro SX SM H locs ls hrel hW hl
  refine lv_aload_n hx hb dL_law_766 rfl (lv_at hl 1 rfl) ?_
  refine lv_aload_n hx hb dL_law_767 rfl (lv_at hl 0 rfl) ?_
  refine lv_iload_n hx hb dL_law_768 rfl (lv_at hl 3 rfl) ?_
  refine lv_iconst (v := (1 : Int32)) hx hb dL_law_769 (by decide) ?_
  refine lv_iadd hx hb dL_law_770 ?_
  refine va_sld hx hb hXs hbl hbA hW.2.2.2.2 (lw_in hL (show i + 1 < L by omega) rfl) dL_law_771 ?_
  obtain ⟨r, SX1, SM1, hfx, hfm, hrel1⟩ := hsim.2.2.2.2.2.2.2.2.2.2.2.2.2.2.2.2.2.2.1 SX SM ((xs ((nI i + (1 : Int32))).toNatClampNeg)) hrel
  refine sc_inVi (E := sc_EX dC dI hX cX) (A := lw_A s) (As := [.int (xs ((nI i + (1 : Int32))).toNatClampNeg)]) (rest := []) (q0 := 0) (ci := 3) sc_okX C0 hF.1 hW.1 hW.2.1 hW.2.2.2.2 hF.2.2.1 (sc_AEX hW.2.1 (fun q h => Nat.le_trans hW.2.2.2.2.1 h)) (ct_X4_leads hfx) (cwV 1 hts gL_law_X4_leads rfl rfl rfl (by decide +kernel) ⟨Nat.le_of_ble_eq_true rfl, Nat.le_of_ble_eq_true rfl⟩) rfl rfl rfl rfl hl.1 rfl (Nat.le_of_ble_eq_true rfl) dL_law_772 (Nat.le_refl _) (Nat.le_refl _) (fun H1 locs1 hz hk1 hP1 hD1 hS1 => ?_)
  replace hW : lw_W dC dI s hX cX hM cM H1 locs1 SX1 SM := ⟨hP1, hD1, sc_keepM hW.2.2.1 hF.2.2.2.1 hk1, hW.2.2.2.1, hS1⟩
  refine lv_aload_n hx hb dL_law_775 rfl (lv_at hl 2 rfl) ?_
  refine lv_aload_n hx hb dL_law_776 rfl (lv_at hl 0 rfl) ?_
  refine lv_iload_n hx hb dL_law_777 rfl (lv_at hl 3 rfl) ?_
  refine lv_iconst (v := (1 : Int32)) hx hb dL_law_778 (by decide) ?_
  refine lv_iadd hx hb dL_law_779 ?_
  refine va_sld hx hb hXs hbl hbA hW.2.2.2.2 (lw_in hL (show i + 1 < L by omega) rfl) dL_law_780 ?_
  refine sc_inVi (E := sc_EM dC dI hM cM) (A := lw_A s) (As := [.int (xs ((nI i + (1 : Int32))).toNatClampNeg)]) (rest := [.int r]) (q0 := 0) (ci := 4) sc_okM C0 hF.2.1 hW.2.2.1 hW.2.2.2.1 hW.2.2.2.2 trivial (sc_AEM hW.2.2.2.1 (fun q h => Nat.le_trans hW.2.2.2.2.1 h)) (ct_X5_leads hfm) (cwV 1 hts gL_law_X5_leads rfl rfl rfl (by decide +kernel) ⟨Nat.le_of_ble_eq_true rfl, Nat.le_of_ble_eq_true rfl⟩) rfl rfl rfl rfl hl.1 rfl (Nat.le_of_ble_eq_true rfl) dL_law_781 (Nat.le_refl _) (Nat.le_refl _) (fun H1 locs1 hz hk1 hP1 hD1 hS1 => ?_)
  replace hW : lw_W dC dI s hX cX hM cM H1 locs1 SX1 SM1 := ⟨sc_keepX hW.1 hF.2.2.2.2 hk1, hW.2.1, hP1, hD1, hS1⟩
  refine lv_icmp_eq (tgt := 835) hx hb dL_law_784 (by decide) (fun _ => ?_) (fun hc => absurd rfl hc)
  exact hend _ _ _ _ _ hrel1 hW hl
set_option maxHeartbeats 4000000 in
set_option maxRecDepth 100000 in
theorem lc_points {p : Program} {l : Launch} {e : Env} {s : State} {m : MethodId} {below : List Frame} {meth : Method} {c : Code} {b L : Nat} {xs : Nat → Int32} {dC : Nat → ClassId} {dI : Nat → Nat → Nat} {hX hM : Nat → Nat} {cX cM : Nat → ClassId} {Rel : sc_M → sc_M → Prop} (hsim : sm_all Rel) (hL : L ≤ 2560) (C0 : CallFix p m c code 4 s #[Value.ref b] wsL_law RL) (hXs : va_X b L xs s s.heap) (hbl : b < s.heap.size) (hF : lw_F dC dI s hX cX hM cM) {i : Nat} (hi : i + 5 ≤ L) (hend : ∀ (SX SM : sc_M) (H : Heap) (locs : List Loc) (ls : Array Slot), Rel SX SM → lw_W dC dI s hX cX hM cM H locs SX SM → lv_has ls 4 [(0, .ref b), (1, .ref (hX 0)), (2, .ref (hM 0)), (3, .int (nI i))] → W p l e room_1 s m #[Value.ref b] below meth c H locs 54 29131 (lw_Z below #[Value.ref b] s) (F0 m 835 ls [])) : ∀ (SX SM : sc_M) (H : Heap) (locs : List Loc) (ls : Array Slot), Rel SX SM → lw_W dC dI s hX cX hM cM H locs SX SM → lv_has ls 4 [(0, .ref b), (1, .ref (hX 0)), (2, .ref (hM 0)), (3, .int (nI i))] → W p l e room_1 s m #[Value.ref b] below meth c H locs 54 29131 (lw_Z below #[Value.ref b] s) (F0 m 789 ls []) := by
  obtain ⟨hx, hb, hml, hown, hts⟩ := id C0
  have hbA : ¬ lw_A s b := Nat.not_le.mpr hbl
  intro SX SM H locs ls hrel hW hl
  refine lv_aload_n hx hb dL_law_789 rfl (lv_at hl 1 rfl) ?_
  refine lv_aload_n hx hb dL_law_790 rfl (lv_at hl 0 rfl) ?_
  refine lv_iload_n hx hb dL_law_791 rfl (lv_at hl 3 rfl) ?_
  refine lv_iconst (v := (1 : Int32)) hx hb dL_law_792 (by decide) ?_
  refine lv_iadd hx hb dL_law_793 ?_
  refine va_sld hx hb hXs hbl hbA hW.2.2.2.2 (lw_in hL (show i + 1 < L by omega) rfl) dL_law_794 ?_
  obtain ⟨r, SX1, SM1, hfx, hfm, hrel1⟩ := hsim.2.2.2.2.2.2.2.2.2.2.2.2.2.2.2.2.2.2.2.1 SX SM ((xs ((nI i + (1 : Int32))).toNatClampNeg)) hrel
  refine sc_inVi (E := sc_EX dC dI hX cX) (A := lw_A s) (As := [.int (xs ((nI i + (1 : Int32))).toNatClampNeg)]) (rest := []) (q0 := 0) (ci := 3) sc_okX C0 hF.1 hW.1 hW.2.1 hW.2.2.2.2 hF.2.2.1 (sc_AEX hW.2.1 (fun q h => Nat.le_trans hW.2.2.2.2.1 h)) (ct_X4_points hfx) (cwV 1 hts gL_law_X4_points rfl rfl rfl (by decide +kernel) ⟨Nat.le_of_ble_eq_true rfl, Nat.le_of_ble_eq_true rfl⟩) rfl rfl rfl rfl hl.1 rfl (Nat.le_of_ble_eq_true rfl) dL_law_795 (Nat.le_refl _) (Nat.le_refl _) (fun H1 locs1 hz hk1 hP1 hD1 hS1 => ?_)
  replace hW : lw_W dC dI s hX cX hM cM H1 locs1 SX1 SM := ⟨hP1, hD1, sc_keepM hW.2.2.1 hF.2.2.2.1 hk1, hW.2.2.2.1, hS1⟩
  refine lv_aload_n hx hb dL_law_798 rfl (lv_at hl 2 rfl) ?_
  refine lv_aload_n hx hb dL_law_799 rfl (lv_at hl 0 rfl) ?_
  refine lv_iload_n hx hb dL_law_800 rfl (lv_at hl 3 rfl) ?_
  refine lv_iconst (v := (1 : Int32)) hx hb dL_law_801 (by decide) ?_
  refine lv_iadd hx hb dL_law_802 ?_
  refine va_sld hx hb hXs hbl hbA hW.2.2.2.2 (lw_in hL (show i + 1 < L by omega) rfl) dL_law_803 ?_
  refine sc_inVi (E := sc_EM dC dI hM cM) (A := lw_A s) (As := [.int (xs ((nI i + (1 : Int32))).toNatClampNeg)]) (rest := [.int r]) (q0 := 0) (ci := 4) sc_okM C0 hF.2.1 hW.2.2.1 hW.2.2.2.1 hW.2.2.2.2 trivial (sc_AEM hW.2.2.2.1 (fun q h => Nat.le_trans hW.2.2.2.2.1 h)) (ct_X5_points hfm) (cwV 1 hts gL_law_X5_points rfl rfl rfl (by decide +kernel) ⟨Nat.le_of_ble_eq_true rfl, Nat.le_of_ble_eq_true rfl⟩) rfl rfl rfl rfl hl.1 rfl (Nat.le_of_ble_eq_true rfl) dL_law_804 (Nat.le_refl _) (Nat.le_refl _) (fun H1 locs1 hz hk1 hP1 hD1 hS1 => ?_)
  replace hW : lw_W dC dI s hX cX hM cM H1 locs1 SX1 SM1 := ⟨sc_keepX hW.1 hF.2.2.2.2 hk1, hW.2.1, hP1, hD1, hS1⟩
  refine lv_icmp_eq (tgt := 835) hx hb dL_law_807 (by decide) (fun _ => ?_) (fun hc => absurd rfl hc)
  exact hend _ _ _ _ _ hrel1 hW hl
set_option maxHeartbeats 4000000 in
set_option maxRecDepth 100000 in
theorem lc_told {p : Program} {l : Launch} {e : Env} {s : State} {m : MethodId} {below : List Frame} {meth : Method} {c : Code} {b L : Nat} {xs : Nat → Int32} {dC : Nat → ClassId} {dI : Nat → Nat → Nat} {hX hM : Nat → Nat} {cX cM : Nat → ClassId} {Rel : sc_M → sc_M → Prop} (hsim : sm_all Rel) (hL : L ≤ 2560) (C0 : CallFix p m c code 4 s #[Value.ref b] wsL_law RL) (hXs : va_X b L xs s s.heap) (hbl : b < s.heap.size) (hF : lw_F dC dI s hX cX hM cM) {i : Nat} (hi : i + 5 ≤ L) (hend : ∀ (SX SM : sc_M) (H : Heap) (locs : List Loc) (ls : Array Slot), Rel SX SM → lw_W dC dI s hX cX hM cM H locs SX SM → lv_has ls 4 [(0, .ref b), (1, .ref (hX 0)), (2, .ref (hM 0)), (3, .int (nI i))] → W p l e room_1 s m #[Value.ref b] below meth c H locs 54 29131 (lw_Z below #[Value.ref b] s) (F0 m 835 ls [])) : ∀ (SX SM : sc_M) (H : Heap) (locs : List Loc) (ls : Array Slot), Rel SX SM → lw_W dC dI s hX cX hM cM H locs SX SM → lv_has ls 4 [(0, .ref b), (1, .ref (hX 0)), (2, .ref (hM 0)), (3, .int (nI i))] → W p l e room_1 s m #[Value.ref b] below meth c H locs 54 29131 (lw_Z below #[Value.ref b] s) (F0 m 812 ls []) := by
  obtain ⟨hx, hb, hml, hown, hts⟩ := id C0
  have hbA : ¬ lw_A s b := Nat.not_le.mpr hbl
  intro SX SM H locs ls hrel hW hl
  refine lv_aload_n hx hb dL_law_812 rfl (lv_at hl 1 rfl) ?_
  refine lv_aload_n hx hb dL_law_813 rfl (lv_at hl 0 rfl) ?_
  refine lv_iload_n hx hb dL_law_814 rfl (lv_at hl 3 rfl) ?_
  refine lv_iconst (v := (1 : Int32)) hx hb dL_law_815 (by decide) ?_
  refine lv_iadd hx hb dL_law_816 ?_
  refine va_sld hx hb hXs hbl hbA hW.2.2.2.2 (lw_in hL (show i + 1 < L by omega) rfl) dL_law_817 ?_
  obtain ⟨r, SX1, SM1, hfx, hfm, hrel1⟩ := hsim.2.2.2.2.2.2.2.2.2.2.2.2.2.2.2.2.2.2.2.2 SX SM ((xs ((nI i + (1 : Int32))).toNatClampNeg)) hrel
  refine sc_inVi (E := sc_EX dC dI hX cX) (A := lw_A s) (As := [.int (xs ((nI i + (1 : Int32))).toNatClampNeg)]) (rest := []) (q0 := 0) (ci := 3) sc_okX C0 hF.1 hW.1 hW.2.1 hW.2.2.2.2 hF.2.2.1 (sc_AEX hW.2.1 (fun q h => Nat.le_trans hW.2.2.2.2.1 h)) (ct_X4_told hfx) (cwV 1 hts gL_law_X4_told rfl rfl rfl (by decide +kernel) ⟨Nat.le_of_ble_eq_true rfl, Nat.le_of_ble_eq_true rfl⟩) rfl rfl rfl rfl hl.1 rfl (Nat.le_of_ble_eq_true rfl) dL_law_818 (Nat.le_refl _) (Nat.le_refl _) (fun H1 locs1 hz hk1 hP1 hD1 hS1 => ?_)
  replace hW : lw_W dC dI s hX cX hM cM H1 locs1 SX1 SM := ⟨hP1, hD1, sc_keepM hW.2.2.1 hF.2.2.2.1 hk1, hW.2.2.2.1, hS1⟩
  refine lv_aload_n hx hb dL_law_821 rfl (lv_at hl 2 rfl) ?_
  refine lv_aload_n hx hb dL_law_822 rfl (lv_at hl 0 rfl) ?_
  refine lv_iload_n hx hb dL_law_823 rfl (lv_at hl 3 rfl) ?_
  refine lv_iconst (v := (1 : Int32)) hx hb dL_law_824 (by decide) ?_
  refine lv_iadd hx hb dL_law_825 ?_
  refine va_sld hx hb hXs hbl hbA hW.2.2.2.2 (lw_in hL (show i + 1 < L by omega) rfl) dL_law_826 ?_
  refine sc_inVi (E := sc_EM dC dI hM cM) (A := lw_A s) (As := [.int (xs ((nI i + (1 : Int32))).toNatClampNeg)]) (rest := [.int r]) (q0 := 0) (ci := 4) sc_okM C0 hF.2.1 hW.2.2.1 hW.2.2.2.1 hW.2.2.2.2 trivial (sc_AEM hW.2.2.2.1 (fun q h => Nat.le_trans hW.2.2.2.2.1 h)) (ct_X5_told hfm) (cwV 1 hts gL_law_X5_told rfl rfl rfl (by decide +kernel) ⟨Nat.le_of_ble_eq_true rfl, Nat.le_of_ble_eq_true rfl⟩) rfl rfl rfl rfl hl.1 rfl (Nat.le_of_ble_eq_true rfl) dL_law_827 (Nat.le_refl _) (Nat.le_refl _) (fun H1 locs1 hz hk1 hP1 hD1 hS1 => ?_)
  replace hW : lw_W dC dI s hX cX hM cM H1 locs1 SX1 SM1 := ⟨sc_keepX hW.1 hF.2.2.2.2 hk1, hW.2.1, hP1, hD1, hS1⟩
  refine lv_icmp_eq (tgt := 835) hx hb dL_law_830 (by decide) (fun _ => ?_) (fun hc => absurd rfl hc)
  exact hend _ _ _ _ _ hrel1 hW hl
