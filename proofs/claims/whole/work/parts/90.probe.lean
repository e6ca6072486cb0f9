set_option maxRecDepth 100000 in
theorem zz_probe : lw_tbl.all goodWord = true := by decide +kernel
