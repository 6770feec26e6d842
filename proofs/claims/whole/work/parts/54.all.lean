/-! ===== all calls, but for count, which is still a hypothesis ===== -/
theorem so_all_open (hcount : sm_count sRel) : sm_all sRel := ⟨so_candidates, so_withdraw, so_lot, so_pile, so_change, so_about, hcount, so_stage, so_votes, so_status, so_elected, so_keep, so_lies, so_sheet, so_forge, so_check, so_prefer, so_winner, so_leads, so_points, so_told⟩
