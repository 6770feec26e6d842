set_option maxHeartbeats 4000000 in
set_option maxRecDepth 100000 in
theorem law_loop {p : Program} {l : Launch} {e : Env} {s : State} {m : MethodId} {below : List Frame} {meth : Method} {c : Code} {b L : Nat} {xs : Nat → Int32} {dC : Nat → ClassId} {dI : Nat → Nat → Nat} {hX hM : Nat → Nat} {cX cM : Nat → ClassId} {Rel : sc_M → sc_M → Prop} (hsim : sm_all Rel) (hL : L ≤ 2560) (C0 : CallFix p m c code 4 s #[Value.ref b] wsL_law RL) (hr : meth.sig.returnType = ret) (hlocks : meth.locks = false) (hXs : va_X b L xs s s.heap) (hbl : b < s.heap.size) (hF : lw_F dC dI s hX cX hM cM) : ∀ (n i : Nat), i ≤ L → L + 1 ≤ i + n → ∀ (SX SM : sc_M) (H : Heap) (locs : List Loc) (ls : Array Slot), Rel SX SM → lw_W dC dI s hX cX hM cM H locs SX SM → lv_has ls 4 [(0, .ref b), (1, .ref (hX 0)), (2, .ref (hM 0)), (3, .int (nI i))] → W p l e room_1 s m #[Value.ref b] below meth c H locs 54 29131 (lw_Z below #[Value.ref b] s) (F0 m 18 ls []) := by
  obtain ⟨hx, hb, hml, hown, hts⟩ := id C0
  have hbA : ¬ lw_A s b := Nat.not_le.mpr hbl
  intro n
  induction n with
  | zero => intro i h1 h2; omega
  | succ n ih =>
    intro i h1 h2 SX SM H locs ls hrel hW hl
    refine lv_iload_n hx hb dL_law_18 rfl (lv_at hl 3 rfl) ?_
    refine lv_aload_n hx hb dL_law_19 rfl (lv_at hl 0 rfl) ?_
    refine va_slen hx hb hXs hbl hbA hW.2.2.2.2 dL_law_20 ?_
    refine lv_iconst (v := (5 : Int32)) hx hb dL_law_21 (by decide) ?_
    refine lv_isub hx hb dL_law_22 ?_
    refine lv_icmp_gt (tgt := 841) hx hb dL_law_23 (by decide) (fun hc => ?_) (fun hc => ?_)
    · refine lv_iconst (v := 1) hx hb dL_law_841 (by decide) ?_
      refine va_forget hW.2.2.2.2.2.2 ?_
      exact lw_ret hx hb hr hlocks dL_law_842
    · have hi : i + 5 ≤ L := lw_step hL (by omega) hc
      have hend : ∀ (SX SM : sc_M) (H : Heap) (locs : List Loc) (ls : Array Slot), Rel SX SM → lw_W dC dI s hX cX hM cM H locs SX SM → lv_has ls 4 [(0, .ref b), (1, .ref (hX 0)), (2, .ref (hM 0)), (3, .int (nI i))] → W p l e room_1 s m #[Value.ref b] below meth c H locs 54 29131 (lw_Z below #[Value.ref b] s) (F0 m 835 ls []) := by
        intro SX SM H locs ls hrel hW hl
        refine lv_iinc (v := nI (i + 5)) (lv' := [(3, .int (nI (i + 5))), (0, .ref b), (1, .ref (hX 0)), (2, .ref (hM 0))]) hx hb dL_law_835 hl (k := 3) rfl (nI_add i 5) (by decide) rfl (fun ls hl => ?_)
        refine lv_goto (tgt := 18) hx hb dL_law_838 (by decide) ?_
        exact ih (i + 5) hi (by omega) SX SM H locs ls hrel hW (lv_sub hl [1, 2, 3, 0] rfl)
      refine lv_aload_n hx hb dL_law_26 rfl (lv_at hl 0 rfl) ?_
      refine lv_iload_n hx hb dL_law_27 rfl (lv_at hl 3 rfl) ?_
      refine va_sld hx hb hXs hbl hbA hW.2.2.2.2 (vp_in_nI (show i < L by omega) (by omega)) dL_law_28 ?_
      refine lv_bipush (v := (31 : Int32)) hx hb dL_law_29 (by decide) ?_
      refine lv_iand hx hb dL_law_31 ?_
      refine sc_topiL (fun x ex => ?_)
      rcases Decidable.em (x = 0) with hc0 | hc0
      · refine lv_tableIn (tgt := 132) hx hb dL_law_32 (by rw [hc0]; decide) (by rw [hc0]; decide) (by rw [hc0]; rfl) (by decide) ?_
        exact lc_candidates hsim hL C0 hXs hbl hF hi hend _ _ _ _ _ hrel hW hl
      rcases Decidable.em (x = 1) with hc1 | hc1
      · refine lv_tableIn (tgt := 155) hx hb dL_law_32 (by rw [hc1]; decide) (by rw [hc1]; decide) (by rw [hc1]; rfl) (by decide) ?_
        exact lc_withdraw hsim hL C0 hXs hbl hF hi hend _ _ _ _ _ hrel hW hl
      rcases Decidable.em (x = 2) with hc2 | hc2
      · refine lv_tableIn (tgt := 204) hx hb dL_law_32 (by rw [hc2]; decide) (by rw [hc2]; decide) (by rw [hc2]; rfl) (by decide) ?_
        exact lc_lot hsim hL C0 hXs hbl hF hi hend _ _ _ _ _ hrel hW hl
      rcases Decidable.em (x = 3) with hc3 | hc3
      · refine lv_tableIn (tgt := 237) hx hb dL_law_32 (by rw [hc3]; decide) (by rw [hc3]; decide) (by rw [hc3]; rfl) (by decide) ?_
        exact lc_pile hsim hL C0 hXs hbl hF hi hend _ _ _ _ _ hrel hW hl
      rcases Decidable.em (x = 4) with hc4 | hc4
      · refine lv_tableIn (tgt := 300) hx hb dL_law_32 (by rw [hc4]; decide) (by rw [hc4]; decide) (by rw [hc4]; rfl) (by decide) ?_
        exact lc_change hsim hL C0 hXs hbl hF hi hend _ _ _ _ _ hrel hW hl
      rcases Decidable.em (x = 5) with hc5 | hc5
      · refine lv_tableIn (tgt := 333) hx hb dL_law_32 (by rw [hc5]; decide) (by rw [hc5]; decide) (by rw [hc5]; rfl) (by decide) ?_
        exact lc_about hsim hL C0 hXs hbl hF hi hend _ _ _ _ _ hrel hW hl
      rcases Decidable.em (x = 6) with hc6 | hc6
      · refine lv_tableIn (tgt := 366) hx hb dL_law_32 (by rw [hc6]; decide) (by rw [hc6]; decide) (by rw [hc6]; rfl) (by decide) ?_
        exact lc_count hsim hL C0 hXs hbl hF hi hend _ _ _ _ _ hrel hW hl
      rcases Decidable.em (x = 7) with hc7 | hc7
      · refine lv_tableIn (tgt := 399) hx hb dL_law_32 (by rw [hc7]; decide) (by rw [hc7]; decide) (by rw [hc7]; rfl) (by decide) ?_
        exact lc_stage hsim hL C0 hXs hbl hF hi hend _ _ _ _ _ hrel hW hl
      rcases Decidable.em (x = 8) with hc8 | hc8
      · refine lv_tableIn (tgt := 433) hx hb dL_law_32 (by rw [hc8]; decide) (by rw [hc8]; decide) (by rw [hc8]; rfl) (by decide) ?_
        exact lc_votes hsim hL C0 hXs hbl hF hi hend _ _ _ _ _ hrel hW hl
      rcases Decidable.em (x = 9) with hc9 | hc9
      · refine lv_tableIn (tgt := 467) hx hb dL_law_32 (by rw [hc9]; decide) (by rw [hc9]; decide) (by rw [hc9]; rfl) (by decide) ?_
        exact lc_status hsim hL C0 hXs hbl hF hi hend _ _ _ _ _ hrel hW hl
      rcases Decidable.em (x = 10) with hc10 | hc10
      · refine lv_tableIn (tgt := 500) hx hb dL_law_32 (by rw [hc10]; decide) (by rw [hc10]; decide) (by rw [hc10]; rfl) (by decide) ?_
        exact lc_elected hsim hL C0 hXs hbl hF hi hend _ _ _ _ _ hrel hW hl
      rcases Decidable.em (x = 11) with hc11 | hc11
      · refine lv_tableIn (tgt := 523) hx hb dL_law_32 (by rw [hc11]; decide) (by rw [hc11]; decide) (by rw [hc11]; rfl) (by decide) ?_
        exact lc_keep hsim hL C0 hXs hbl hF hi hend _ _ _ _ _ hrel hW hl
      rcases Decidable.em (x = 12) with hc12 | hc12
      · refine lv_tableIn (tgt := 556) hx hb dL_law_32 (by rw [hc12]; decide) (by rw [hc12]; decide) (by rw [hc12]; rfl) (by decide) ?_
        exact lc_lies hsim hL C0 hXs hbl hF hi hend _ _ _ _ _ hrel hW hl
      rcases Decidable.em (x = 13) with hc13 | hc13
      · refine lv_tableIn (tgt := 599) hx hb dL_law_32 (by rw [hc13]; decide) (by rw [hc13]; decide) (by rw [hc13]; rfl) (by decide) ?_
        exact lc_sheet hsim hL C0 hXs hbl hF hi hend _ _ _ _ _ hrel hW hl
      rcases Decidable.em (x = 14) with hc14 | hc14
      · refine lv_tableIn (tgt := 633) hx hb dL_law_32 (by rw [hc14]; decide) (by rw [hc14]; decide) (by rw [hc14]; rfl) (by decide) ?_
        exact lc_forge hsim hL C0 hXs hbl hF hi hend _ _ _ _ _ hrel hW hl
      rcases Decidable.em (x = 15) with hc15 | hc15
      · refine lv_tableIn (tgt := 707) hx hb dL_law_32 (by rw [hc15]; decide) (by rw [hc15]; decide) (by rw [hc15]; rfl) (by decide) ?_
        exact lc_check hsim hL C0 hXs hbl hF hi hend _ _ _ _ _ hrel hW hl
      rcases Decidable.em (x = 16) with hc16 | hc16
      · refine lv_tableIn (tgt := 720) hx hb dL_law_32 (by rw [hc16]; decide) (by rw [hc16]; decide) (by rw [hc16]; rfl) (by decide) ?_
        exact lc_prefer hsim hL C0 hXs hbl hF hi hend _ _ _ _ _ hrel hW hl
      rcases Decidable.em (x = 17) with hc17 | hc17
      · refine lv_tableIn (tgt := 753) hx hb dL_law_32 (by rw [hc17]; decide) (by rw [hc17]; decide) (by rw [hc17]; rfl) (by decide) ?_
        exact lc_winner hsim hL C0 hXs hbl hF hi hend _ _ _ _ _ hrel hW hl
      rcases Decidable.em (x = 18) with hc18 | hc18
      · refine lv_tableIn (tgt := 766) hx hb dL_law_32 (by rw [hc18]; decide) (by rw [hc18]; decide) (by rw [hc18]; rfl) (by decide) ?_
        exact lc_leads hsim hL C0 hXs hbl hF hi hend _ _ _ _ _ hrel hW hl
      rcases Decidable.em (x = 19) with hc19 | hc19
      · refine lv_tableIn (tgt := 789) hx hb dL_law_32 (by rw [hc19]; decide) (by rw [hc19]; decide) (by rw [hc19]; rfl) (by decide) ?_
        exact lc_points hsim hL C0 hXs hbl hF hi hend _ _ _ _ _ hrel hW hl
      rcases Decidable.em (x = 20) with hc20 | hc20
      · refine lv_tableIn (tgt := 812) hx hb dL_law_32 (by rw [hc20]; decide) (by rw [hc20]; decide) (by rw [hc20]; rfl) (by decide) ?_
        exact lc_told hsim hL C0 hXs hbl hF hi hend _ _ _ _ _ hrel hW hl
      refine lv_tableOut (tgt := 835) hx hb dL_law_32 (sc_tbo 20 (by decide) (fun k hk => match k, hk with | 0, _ => hc0 | 1, _ => hc1 | 2, _ => hc2 | 3, _ => hc3 | 4, _ => hc4 | 5, _ => hc5 | 6, _ => hc6 | 7, _ => hc7 | 8, _ => hc8 | 9, _ => hc9 | 10, _ => hc10 | 11, _ => hc11 | 12, _ => hc12 | 13, _ => hc13 | 14, _ => hc14 | 15, _ => hc15 | 16, _ => hc16 | 17, _ => hc17 | 18, _ => hc18 | 19, _ => hc19 | 20, _ => hc20 | k + 21, hk => absurd hk (by omega))) (by decide) ?_
      exact hend _ _ _ _ _ hrel hW hl
