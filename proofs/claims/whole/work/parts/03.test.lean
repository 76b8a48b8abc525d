/-! A START OF THE ROW WITH S1's SCRIPT (REPORT.md, S1) -/
def rf_cells : Array Value := #[.int 2, .int 1500, .int 10, .int 0, .int 0, .int 0, .int 0, .int 0, .int 0, .int 10, .int 0, .int 119, .int 0, .int 0, .int 0, .int 0, .int 0, .int 0, .int 11, .int 0, .int 1, .int 1, .int 1, .int 0, .int 0, .int 0, .int 0, .int 25, .int 0, .int 40, .int 0, .int 0, .int 0, .int 0, .int 0, .int 0, .int 16, .int 0, .int 1, .int 1, .int 0, .int 0, .int 0, .int 0, .int 0, .int 19, .int 0, .int 0, .int 0, .int 0, .int 0, .int 2147483647, .int 0, .int 0]
def rf_s : State := start1.aboutOf rf_cells
set_option maxRecDepth 16384 in
theorem rf_thrown : rf_run start1.p0.tables start1.e0 20000 rf_s = true := (rf_frun_eq _ _ _ _).symm.trans (by decide +kernel)
