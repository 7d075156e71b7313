theorem tr_good : lw_tbl.all goodWord = true := by decide +kernel
theorem tr_len : lw_tbl.length = 0 := by decide +kernel
