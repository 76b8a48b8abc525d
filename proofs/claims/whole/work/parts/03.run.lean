/-! THE RUN ITSELF, decided by the kernel -/
set_option maxRecDepth 16384 in
theorem rf_thrown : rf_run start1.p0.tables start1.e0 20000 rf_s = true := by decide +kernel
