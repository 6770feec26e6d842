set_option maxRecDepth 20000 in
theorem inX0 : ∀ w ∈ wsX00, w ∈ lw_tbl := fun w h => (goodIn_p wsX00 [] (by decide +kernel) (by decide +kernel) w h).1
set_option maxRecDepth 20000 in
theorem inX1 : ∀ w ∈ wsX10, w ∈ lw_tbl := fun w h => (goodIn_p wsX10 [] (by decide +kernel) (by decide +kernel) w h).1
set_option maxRecDepth 20000 in
theorem inX3 : ∀ w ∈ wsX30, w ∈ lw_tbl := fun w h => (goodIn_p wsX30 [] (by decide +kernel) (by decide +kernel) w h).1
set_option maxRecDepth 20000 in
theorem inX4 : ∀ w ∈ wsX40, w ∈ lw_tbl := fun w h => (goodIn_p wsX40 [] (by decide +kernel) (by decide +kernel) w h).1
set_option maxRecDepth 20000 in
theorem inX5 : ∀ w ∈ wsX50, w ∈ lw_tbl := fun w h => (goodIn_p wsX50 [] (by decide +kernel) (by decide +kernel) w h).1
theorem wl_app {a b c : List Cond} (ha : ∀ w ∈ a, w ∈ c) (hb : ∀ w ∈ b, w ∈ c) : ∀ w ∈ a ++ b, w ∈ c := fun w h => (List.mem_append.mp h).elim (ha w) (hb w)
theorem wsL_law_in : ∀ w ∈ wsL_law, w ∈ lw_tbl := wl_app (wl_app (wl_app (wl_app (wl_app (wl_app (wl_app wl_r1 (wl_app wl_r2 (wl_app wl_r3 (wl_app wl_r4 (wl_app wl_r5 (wl_app wl_r6 (wl_app wl_r7 (wl_app wl_r8 (wl_app wl_r9 (wl_app wl_r10 (wl_app wl_r11 (wl_app wl_r12 (wl_app wl_r13 (wl_app wl_r14 (wl_app wl_r15 (wl_app wl_r16 (wl_app wl_r17 (wl_app wl_r18 (wl_app wl_r19 (wl_app wl_r20 (wl_app wl_r21 (wl_app wl_r22 (wl_app wl_r23 (wl_app wl_r24 (wl_app wl_r25 (wl_app wl_r26 (wl_app wl_r27 (wl_app wl_r28 (wl_app wl_r29 wl_r30))))))))))))))))))))))))))))) inX4) inX5) inX0) inX1) inX3) (fun _ h => absurd h List.not_mem_nil)
