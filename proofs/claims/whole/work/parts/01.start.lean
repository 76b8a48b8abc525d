/-! A START OF THE ROW WITH S1's SCRIPT (REPORT.md, S1) -/
def rf_cells : Array Value := #[.int 2, .int 1500, .int 10, .int 0, .int 0, .int 0, .int 0, .int 0, .int 0, .int 10, .int 0, .int 119, .int 0, .int 0, .int 0, .int 0, .int 0, .int 0, .int 11, .int 0, .int 1, .int 1, .int 1, .int 0, .int 0, .int 0, .int 0, .int 25, .int 0, .int 40, .int 0, .int 0, .int 0, .int 0, .int 0, .int 0, .int 16, .int 0, .int 1, .int 1, .int 0, .int 0, .int 0, .int 0, .int 0, .int 19, .int 0, .int 0, .int 0, .int 0, .int 0, .int 2147483647, .int 0, .int 0]
def rf_s : State := start1.aboutOf rf_cells
set_option maxRecDepth 16384 in
theorem rf_code {c : Jvm.Cond} (h : su_isCode c = true) : c.before start1.args0 rf_s = c.before start1.args0 start1.about := by
  cases c <;> first | (exact Bool.noConfusion (show false = true from h)) | rfl
set_option maxRecDepth 16384 in
theorem rf_o_1_0 : (tables_1_1.take 40).all (fun c => su_isCode c || c.before start1.args0 rf_s) = true := by decide +kernel
set_option maxRecDepth 16384 in
theorem rf_o_1_1 : ((tables_1_1.drop 40).take 40).all (fun c => su_isCode c || c.before start1.args0 rf_s) = true := by decide +kernel
set_option maxRecDepth 16384 in
theorem rf_o_1_2 : (((tables_1_1.drop 40).drop 40).take 40).all (fun c => su_isCode c || c.before start1.args0 rf_s) = true := by decide +kernel
set_option maxRecDepth 16384 in
theorem rf_o_1_3 : ((((tables_1_1.drop 40).drop 40).drop 40).take 40).all (fun c => su_isCode c || c.before start1.args0 rf_s) = true := by decide +kernel
set_option maxRecDepth 16384 in
theorem rf_o_1_4 : (((((tables_1_1.drop 40).drop 40).drop 40).drop 40).take 40).all (fun c => su_isCode c || c.before start1.args0 rf_s) = true := by decide +kernel
set_option maxRecDepth 16384 in
theorem rf_o_1_5 : ((((((tables_1_1.drop 40).drop 40).drop 40).drop 40).drop 40).take 40).all (fun c => su_isCode c || c.before start1.args0 rf_s) = true := by decide +kernel
set_option maxRecDepth 16384 in
theorem rf_o_1_6 : (((((((tables_1_1.drop 40).drop 40).drop 40).drop 40).drop 40).drop 40).take 40).all (fun c => su_isCode c || c.before start1.args0 rf_s) = true := by decide +kernel
set_option maxRecDepth 16384 in
theorem rf_o_1_7 : ((((((((tables_1_1.drop 40).drop 40).drop 40).drop 40).drop 40).drop 40).drop 40)).all (fun c => su_isCode c || c.before start1.args0 rf_s) = true := by decide +kernel
theorem rf_all_1 : tables_1_1.all (fun c => su_isCode c || c.before start1.args0 rf_s) = true := start1.su_all_split _ 40 tables_1_1 rf_o_1_0 (start1.su_all_split _ 40 (tables_1_1.drop 40) rf_o_1_1 (start1.su_all_split _ 40 ((tables_1_1.drop 40).drop 40) rf_o_1_2 (start1.su_all_split _ 40 (((tables_1_1.drop 40).drop 40).drop 40) rf_o_1_3 (start1.su_all_split _ 40 ((((tables_1_1.drop 40).drop 40).drop 40).drop 40) rf_o_1_4 (start1.su_all_split _ 40 (((((tables_1_1.drop 40).drop 40).drop 40).drop 40).drop 40) rf_o_1_5 (start1.su_all_split _ 40 ((((((tables_1_1.drop 40).drop 40).drop 40).drop 40).drop 40).drop 40) rf_o_1_6 (rf_o_1_7)))))))
theorem rf_w_1 : ∀ c ∈ tables_1_1, c.before start1.args0 rf_s = true := fun c h =>
  su_words (f := fun c => c.before start1.args0 rf_s) rf_all_1 (fun c hc => (rf_code (List.mem_filter.mp hc).2).trans (start1.codes_hold_1 c hc)) c h
set_option maxRecDepth 16384 in
theorem rf_o_2_0 : (tables_1_2.take 40).all (fun c => su_isCode c || c.before start1.args0 rf_s) = true := by decide +kernel
set_option maxRecDepth 16384 in
theorem rf_o_2_1 : ((tables_1_2.drop 40).take 40).all (fun c => su_isCode c || c.before start1.args0 rf_s) = true := by decide +kernel
set_option maxRecDepth 16384 in
theorem rf_o_2_2 : (((tables_1_2.drop 40).drop 40).take 40).all (fun c => su_isCode c || c.before start1.args0 rf_s) = true := by decide +kernel
set_option maxRecDepth 16384 in
theorem rf_o_2_3 : ((((tables_1_2.drop 40).drop 40).drop 40).take 40).all (fun c => su_isCode c || c.before start1.args0 rf_s) = true := by decide +kernel
set_option maxRecDepth 16384 in
theorem rf_o_2_4 : (((((tables_1_2.drop 40).drop 40).drop 40).drop 40).take 40).all (fun c => su_isCode c || c.before start1.args0 rf_s) = true := by decide +kernel
set_option maxRecDepth 16384 in
theorem rf_o_2_5 : ((((((tables_1_2.drop 40).drop 40).drop 40).drop 40).drop 40).take 40).all (fun c => su_isCode c || c.before start1.args0 rf_s) = true := by decide +kernel
set_option maxRecDepth 16384 in
theorem rf_o_2_6 : (((((((tables_1_2.drop 40).drop 40).drop 40).drop 40).drop 40).drop 40).take 40).all (fun c => su_isCode c || c.before start1.args0 rf_s) = true := by decide +kernel
set_option maxRecDepth 16384 in
theorem rf_o_2_7 : ((((((((tables_1_2.drop 40).drop 40).drop 40).drop 40).drop 40).drop 40).drop 40)).all (fun c => su_isCode c || c.before start1.args0 rf_s) = true := by decide +kernel
theorem rf_all_2 : tables_1_2.all (fun c => su_isCode c || c.before start1.args0 rf_s) = true := start1.su_all_split _ 40 tables_1_2 rf_o_2_0 (start1.su_all_split _ 40 (tables_1_2.drop 40) rf_o_2_1 (start1.su_all_split _ 40 ((tables_1_2.drop 40).drop 40) rf_o_2_2 (start1.su_all_split _ 40 (((tables_1_2.drop 40).drop 40).drop 40) rf_o_2_3 (start1.su_all_split _ 40 ((((tables_1_2.drop 40).drop 40).drop 40).drop 40) rf_o_2_4 (start1.su_all_split _ 40 (((((tables_1_2.drop 40).drop 40).drop 40).drop 40).drop 40) rf_o_2_5 (start1.su_all_split _ 40 ((((((tables_1_2.drop 40).drop 40).drop 40).drop 40).drop 40).drop 40) rf_o_2_6 (rf_o_2_7)))))))
theorem rf_w_2 : ∀ c ∈ tables_1_2, c.before start1.args0 rf_s = true := fun c h =>
  su_words (f := fun c => c.before start1.args0 rf_s) rf_all_2 (fun c hc => (rf_code (List.mem_filter.mp hc).2).trans (start1.codes_hold_2 c hc)) c h
set_option maxRecDepth 16384 in
theorem rf_o_3_0 : (tables_1_3.take 40).all (fun c => su_isCode c || c.before start1.args0 rf_s) = true := by decide +kernel
set_option maxRecDepth 16384 in
theorem rf_o_3_1 : ((tables_1_3.drop 40).take 40).all (fun c => su_isCode c || c.before start1.args0 rf_s) = true := by decide +kernel
set_option maxRecDepth 16384 in
theorem rf_o_3_2 : (((tables_1_3.drop 40).drop 40).take 40).all (fun c => su_isCode c || c.before start1.args0 rf_s) = true := by decide +kernel
set_option maxRecDepth 16384 in
theorem rf_o_3_3 : ((((tables_1_3.drop 40).drop 40).drop 40).take 40).all (fun c => su_isCode c || c.before start1.args0 rf_s) = true := by decide +kernel
set_option maxRecDepth 16384 in
theorem rf_o_3_4 : (((((tables_1_3.drop 40).drop 40).drop 40).drop 40).take 40).all (fun c => su_isCode c || c.before start1.args0 rf_s) = true := by decide +kernel
set_option maxRecDepth 16384 in
theorem rf_o_3_5 : ((((((tables_1_3.drop 40).drop 40).drop 40).drop 40).drop 40).take 40).all (fun c => su_isCode c || c.before start1.args0 rf_s) = true := by decide +kernel
set_option maxRecDepth 16384 in
theorem rf_o_3_6 : (((((((tables_1_3.drop 40).drop 40).drop 40).drop 40).drop 40).drop 40).take 40).all (fun c => su_isCode c || c.before start1.args0 rf_s) = true := by decide +kernel
set_option maxRecDepth 16384 in
theorem rf_o_3_7 : ((((((((tables_1_3.drop 40).drop 40).drop 40).drop 40).drop 40).drop 40).drop 40)).all (fun c => su_isCode c || c.before start1.args0 rf_s) = true := by decide +kernel
theorem rf_all_3 : tables_1_3.all (fun c => su_isCode c || c.before start1.args0 rf_s) = true := start1.su_all_split _ 40 tables_1_3 rf_o_3_0 (start1.su_all_split _ 40 (tables_1_3.drop 40) rf_o_3_1 (start1.su_all_split _ 40 ((tables_1_3.drop 40).drop 40) rf_o_3_2 (start1.su_all_split _ 40 (((tables_1_3.drop 40).drop 40).drop 40) rf_o_3_3 (start1.su_all_split _ 40 ((((tables_1_3.drop 40).drop 40).drop 40).drop 40) rf_o_3_4 (start1.su_all_split _ 40 (((((tables_1_3.drop 40).drop 40).drop 40).drop 40).drop 40) rf_o_3_5 (start1.su_all_split _ 40 ((((((tables_1_3.drop 40).drop 40).drop 40).drop 40).drop 40).drop 40) rf_o_3_6 (rf_o_3_7)))))))
theorem rf_w_3 : ∀ c ∈ tables_1_3, c.before start1.args0 rf_s = true := fun c h =>
  su_words (f := fun c => c.before start1.args0 rf_s) rf_all_3 (fun c hc => (rf_code (List.mem_filter.mp hc).2).trans (start1.codes_hold_3 c hc)) c h
set_option maxRecDepth 16384 in
theorem rf_o_4_0 : (tables_1_4.take 40).all (fun c => su_isCode c || c.before start1.args0 rf_s) = true := by decide +kernel
set_option maxRecDepth 16384 in
theorem rf_o_4_1 : ((tables_1_4.drop 40).take 40).all (fun c => su_isCode c || c.before start1.args0 rf_s) = true := by decide +kernel
set_option maxRecDepth 16384 in
theorem rf_o_4_2 : (((tables_1_4.drop 40).drop 40).take 40).all (fun c => su_isCode c || c.before start1.args0 rf_s) = true := by decide +kernel
set_option maxRecDepth 16384 in
theorem rf_o_4_3 : ((((tables_1_4.drop 40).drop 40).drop 40).take 40).all (fun c => su_isCode c || c.before start1.args0 rf_s) = true := by decide +kernel
set_option maxRecDepth 16384 in
theorem rf_o_4_4 : (((((tables_1_4.drop 40).drop 40).drop 40).drop 40).take 40).all (fun c => su_isCode c || c.before start1.args0 rf_s) = true := by decide +kernel
set_option maxRecDepth 16384 in
theorem rf_o_4_5 : ((((((tables_1_4.drop 40).drop 40).drop 40).drop 40).drop 40).take 40).all (fun c => su_isCode c || c.before start1.args0 rf_s) = true := by decide +kernel
set_option maxRecDepth 16384 in
theorem rf_o_4_6 : (((((((tables_1_4.drop 40).drop 40).drop 40).drop 40).drop 40).drop 40).take 40).all (fun c => su_isCode c || c.before start1.args0 rf_s) = true := by decide +kernel
set_option maxRecDepth 16384 in
theorem rf_o_4_7 : ((((((((tables_1_4.drop 40).drop 40).drop 40).drop 40).drop 40).drop 40).drop 40)).all (fun c => su_isCode c || c.before start1.args0 rf_s) = true := by decide +kernel
theorem rf_all_4 : tables_1_4.all (fun c => su_isCode c || c.before start1.args0 rf_s) = true := start1.su_all_split _ 40 tables_1_4 rf_o_4_0 (start1.su_all_split _ 40 (tables_1_4.drop 40) rf_o_4_1 (start1.su_all_split _ 40 ((tables_1_4.drop 40).drop 40) rf_o_4_2 (start1.su_all_split _ 40 (((tables_1_4.drop 40).drop 40).drop 40) rf_o_4_3 (start1.su_all_split _ 40 ((((tables_1_4.drop 40).drop 40).drop 40).drop 40) rf_o_4_4 (start1.su_all_split _ 40 (((((tables_1_4.drop 40).drop 40).drop 40).drop 40).drop 40) rf_o_4_5 (start1.su_all_split _ 40 ((((((tables_1_4.drop 40).drop 40).drop 40).drop 40).drop 40).drop 40) rf_o_4_6 (rf_o_4_7)))))))
theorem rf_w_4 : ∀ c ∈ tables_1_4, c.before start1.args0 rf_s = true := fun c h =>
  su_words (f := fun c => c.before start1.args0 rf_s) rf_all_4 (fun c hc => (rf_code (List.mem_filter.mp hc).2).trans (start1.codes_hold_4 c hc)) c h
set_option maxRecDepth 16384 in
theorem rf_o_5_0 : (tables_1_5.take 40).all (fun c => su_isCode c || c.before start1.args0 rf_s) = true := by decide +kernel
set_option maxRecDepth 16384 in
theorem rf_o_5_1 : ((tables_1_5.drop 40).take 40).all (fun c => su_isCode c || c.before start1.args0 rf_s) = true := by decide +kernel
set_option maxRecDepth 16384 in
theorem rf_o_5_2 : (((tables_1_5.drop 40).drop 40).take 40).all (fun c => su_isCode c || c.before start1.args0 rf_s) = true := by decide +kernel
set_option maxRecDepth 16384 in
theorem rf_o_5_3 : ((((tables_1_5.drop 40).drop 40).drop 40).take 40).all (fun c => su_isCode c || c.before start1.args0 rf_s) = true := by decide +kernel
set_option maxRecDepth 16384 in
theorem rf_o_5_4 : (((((tables_1_5.drop 40).drop 40).drop 40).drop 40).take 40).all (fun c => su_isCode c || c.before start1.args0 rf_s) = true := by decide +kernel
set_option maxRecDepth 16384 in
theorem rf_o_5_5 : ((((((tables_1_5.drop 40).drop 40).drop 40).drop 40).drop 40).take 40).all (fun c => su_isCode c || c.before start1.args0 rf_s) = true := by decide +kernel
set_option maxRecDepth 16384 in
theorem rf_o_5_6 : (((((((tables_1_5.drop 40).drop 40).drop 40).drop 40).drop 40).drop 40).take 40).all (fun c => su_isCode c || c.before start1.args0 rf_s) = true := by decide +kernel
set_option maxRecDepth 16384 in
theorem rf_o_5_7 : ((((((((tables_1_5.drop 40).drop 40).drop 40).drop 40).drop 40).drop 40).drop 40)).all (fun c => su_isCode c || c.before start1.args0 rf_s) = true := by decide +kernel
theorem rf_all_5 : tables_1_5.all (fun c => su_isCode c || c.before start1.args0 rf_s) = true := start1.su_all_split _ 40 tables_1_5 rf_o_5_0 (start1.su_all_split _ 40 (tables_1_5.drop 40) rf_o_5_1 (start1.su_all_split _ 40 ((tables_1_5.drop 40).drop 40) rf_o_5_2 (start1.su_all_split _ 40 (((tables_1_5.drop 40).drop 40).drop 40) rf_o_5_3 (start1.su_all_split _ 40 ((((tables_1_5.drop 40).drop 40).drop 40).drop 40) rf_o_5_4 (start1.su_all_split _ 40 (((((tables_1_5.drop 40).drop 40).drop 40).drop 40).drop 40) rf_o_5_5 (start1.su_all_split _ 40 ((((((tables_1_5.drop 40).drop 40).drop 40).drop 40).drop 40).drop 40) rf_o_5_6 (rf_o_5_7)))))))
theorem rf_w_5 : ∀ c ∈ tables_1_5, c.before start1.args0 rf_s = true := fun c h =>
  su_words (f := fun c => c.before start1.args0 rf_s) rf_all_5 (fun c hc => (rf_code (List.mem_filter.mp hc).2).trans (start1.codes_hold_5 c hc)) c h
set_option maxRecDepth 16384 in
theorem rf_o_6_0 : (tables_1_6.take 40).all (fun c => su_isCode c || c.before start1.args0 rf_s) = true := by decide +kernel
set_option maxRecDepth 16384 in
theorem rf_o_6_1 : ((tables_1_6.drop 40).take 40).all (fun c => su_isCode c || c.before start1.args0 rf_s) = true := by decide +kernel
set_option maxRecDepth 16384 in
theorem rf_o_6_2 : (((tables_1_6.drop 40).drop 40).take 40).all (fun c => su_isCode c || c.before start1.args0 rf_s) = true := by decide +kernel
set_option maxRecDepth 16384 in
theorem rf_o_6_3 : ((((tables_1_6.drop 40).drop 40).drop 40).take 40).all (fun c => su_isCode c || c.before start1.args0 rf_s) = true := by decide +kernel
set_option maxRecDepth 16384 in
theorem rf_o_6_4 : (((((tables_1_6.drop 40).drop 40).drop 40).drop 40).take 40).all (fun c => su_isCode c || c.before start1.args0 rf_s) = true := by decide +kernel
set_option maxRecDepth 16384 in
theorem rf_o_6_5 : ((((((tables_1_6.drop 40).drop 40).drop 40).drop 40).drop 40).take 40).all (fun c => su_isCode c || c.before start1.args0 rf_s) = true := by decide +kernel
set_option maxRecDepth 16384 in
theorem rf_o_6_6 : (((((((tables_1_6.drop 40).drop 40).drop 40).drop 40).drop 40).drop 40).take 40).all (fun c => su_isCode c || c.before start1.args0 rf_s) = true := by decide +kernel
set_option maxRecDepth 16384 in
theorem rf_o_6_7 : ((((((((tables_1_6.drop 40).drop 40).drop 40).drop 40).drop 40).drop 40).drop 40)).all (fun c => su_isCode c || c.before start1.args0 rf_s) = true := by decide +kernel
theorem rf_all_6 : tables_1_6.all (fun c => su_isCode c || c.before start1.args0 rf_s) = true := start1.su_all_split _ 40 tables_1_6 rf_o_6_0 (start1.su_all_split _ 40 (tables_1_6.drop 40) rf_o_6_1 (start1.su_all_split _ 40 ((tables_1_6.drop 40).drop 40) rf_o_6_2 (start1.su_all_split _ 40 (((tables_1_6.drop 40).drop 40).drop 40) rf_o_6_3 (start1.su_all_split _ 40 ((((tables_1_6.drop 40).drop 40).drop 40).drop 40) rf_o_6_4 (start1.su_all_split _ 40 (((((tables_1_6.drop 40).drop 40).drop 40).drop 40).drop 40) rf_o_6_5 (start1.su_all_split _ 40 ((((((tables_1_6.drop 40).drop 40).drop 40).drop 40).drop 40).drop 40) rf_o_6_6 (rf_o_6_7)))))))
theorem rf_w_6 : ∀ c ∈ tables_1_6, c.before start1.args0 rf_s = true := fun c h =>
  su_words (f := fun c => c.before start1.args0 rf_s) rf_all_6 (fun c hc => (rf_code (List.mem_filter.mp hc).2).trans (start1.codes_hold_6 c hc)) c h
set_option maxRecDepth 16384 in
theorem rf_o_7_0 : (tables_1_7.take 40).all (fun c => su_isCode c || c.before start1.args0 rf_s) = true := by decide +kernel
set_option maxRecDepth 16384 in
theorem rf_o_7_1 : ((tables_1_7.drop 40).take 40).all (fun c => su_isCode c || c.before start1.args0 rf_s) = true := by decide +kernel
set_option maxRecDepth 16384 in
theorem rf_o_7_2 : (((tables_1_7.drop 40).drop 40).take 40).all (fun c => su_isCode c || c.before start1.args0 rf_s) = true := by decide +kernel
set_option maxRecDepth 16384 in
theorem rf_o_7_3 : ((((tables_1_7.drop 40).drop 40).drop 40).take 40).all (fun c => su_isCode c || c.before start1.args0 rf_s) = true := by decide +kernel
set_option maxRecDepth 16384 in
theorem rf_o_7_4 : (((((tables_1_7.drop 40).drop 40).drop 40).drop 40).take 40).all (fun c => su_isCode c || c.before start1.args0 rf_s) = true := by decide +kernel
set_option maxRecDepth 16384 in
theorem rf_o_7_5 : ((((((tables_1_7.drop 40).drop 40).drop 40).drop 40).drop 40).take 40).all (fun c => su_isCode c || c.before start1.args0 rf_s) = true := by decide +kernel
set_option maxRecDepth 16384 in
theorem rf_o_7_6 : (((((((tables_1_7.drop 40).drop 40).drop 40).drop 40).drop 40).drop 40).take 40).all (fun c => su_isCode c || c.before start1.args0 rf_s) = true := by decide +kernel
set_option maxRecDepth 16384 in
theorem rf_o_7_7 : ((((((((tables_1_7.drop 40).drop 40).drop 40).drop 40).drop 40).drop 40).drop 40)).all (fun c => su_isCode c || c.before start1.args0 rf_s) = true := by decide +kernel
theorem rf_all_7 : tables_1_7.all (fun c => su_isCode c || c.before start1.args0 rf_s) = true := start1.su_all_split _ 40 tables_1_7 rf_o_7_0 (start1.su_all_split _ 40 (tables_1_7.drop 40) rf_o_7_1 (start1.su_all_split _ 40 ((tables_1_7.drop 40).drop 40) rf_o_7_2 (start1.su_all_split _ 40 (((tables_1_7.drop 40).drop 40).drop 40) rf_o_7_3 (start1.su_all_split _ 40 ((((tables_1_7.drop 40).drop 40).drop 40).drop 40) rf_o_7_4 (start1.su_all_split _ 40 (((((tables_1_7.drop 40).drop 40).drop 40).drop 40).drop 40) rf_o_7_5 (start1.su_all_split _ 40 ((((((tables_1_7.drop 40).drop 40).drop 40).drop 40).drop 40).drop 40) rf_o_7_6 (rf_o_7_7)))))))
theorem rf_w_7 : ∀ c ∈ tables_1_7, c.before start1.args0 rf_s = true := fun c h =>
  su_words (f := fun c => c.before start1.args0 rf_s) rf_all_7 (fun c hc => (rf_code (List.mem_filter.mp hc).2).trans (start1.codes_hold_7 c hc)) c h
set_option maxRecDepth 16384 in
theorem rf_o_8_0 : (tables_1_8.take 40).all (fun c => su_isCode c || c.before start1.args0 rf_s) = true := by decide +kernel
set_option maxRecDepth 16384 in
theorem rf_o_8_1 : ((tables_1_8.drop 40).take 40).all (fun c => su_isCode c || c.before start1.args0 rf_s) = true := by decide +kernel
set_option maxRecDepth 16384 in
theorem rf_o_8_2 : (((tables_1_8.drop 40).drop 40).take 40).all (fun c => su_isCode c || c.before start1.args0 rf_s) = true := by decide +kernel
set_option maxRecDepth 16384 in
theorem rf_o_8_3 : ((((tables_1_8.drop 40).drop 40).drop 40).take 40).all (fun c => su_isCode c || c.before start1.args0 rf_s) = true := by decide +kernel
set_option maxRecDepth 16384 in
theorem rf_o_8_4 : (((((tables_1_8.drop 40).drop 40).drop 40).drop 40).take 40).all (fun c => su_isCode c || c.before start1.args0 rf_s) = true := by decide +kernel
set_option maxRecDepth 16384 in
theorem rf_o_8_5 : ((((((tables_1_8.drop 40).drop 40).drop 40).drop 40).drop 40).take 40).all (fun c => su_isCode c || c.before start1.args0 rf_s) = true := by decide +kernel
set_option maxRecDepth 16384 in
theorem rf_o_8_6 : (((((((tables_1_8.drop 40).drop 40).drop 40).drop 40).drop 40).drop 40).take 40).all (fun c => su_isCode c || c.before start1.args0 rf_s) = true := by decide +kernel
set_option maxRecDepth 16384 in
theorem rf_o_8_7 : ((((((((tables_1_8.drop 40).drop 40).drop 40).drop 40).drop 40).drop 40).drop 40)).all (fun c => su_isCode c || c.before start1.args0 rf_s) = true := by decide +kernel
theorem rf_all_8 : tables_1_8.all (fun c => su_isCode c || c.before start1.args0 rf_s) = true := start1.su_all_split _ 40 tables_1_8 rf_o_8_0 (start1.su_all_split _ 40 (tables_1_8.drop 40) rf_o_8_1 (start1.su_all_split _ 40 ((tables_1_8.drop 40).drop 40) rf_o_8_2 (start1.su_all_split _ 40 (((tables_1_8.drop 40).drop 40).drop 40) rf_o_8_3 (start1.su_all_split _ 40 ((((tables_1_8.drop 40).drop 40).drop 40).drop 40) rf_o_8_4 (start1.su_all_split _ 40 (((((tables_1_8.drop 40).drop 40).drop 40).drop 40).drop 40) rf_o_8_5 (start1.su_all_split _ 40 ((((((tables_1_8.drop 40).drop 40).drop 40).drop 40).drop 40).drop 40) rf_o_8_6 (rf_o_8_7)))))))
theorem rf_w_8 : ∀ c ∈ tables_1_8, c.before start1.args0 rf_s = true := fun c h =>
  su_words (f := fun c => c.before start1.args0 rf_s) rf_all_8 (fun c hc => (rf_code (List.mem_filter.mp hc).2).trans (start1.codes_hold_8 c hc)) c h
set_option maxRecDepth 16384 in
theorem rf_o_9_0 : (tables_1_9.take 40).all (fun c => su_isCode c || c.before start1.args0 rf_s) = true := by decide +kernel
set_option maxRecDepth 16384 in
theorem rf_o_9_1 : ((tables_1_9.drop 40).take 40).all (fun c => su_isCode c || c.before start1.args0 rf_s) = true := by decide +kernel
set_option maxRecDepth 16384 in
theorem rf_o_9_2 : (((tables_1_9.drop 40).drop 40).take 40).all (fun c => su_isCode c || c.before start1.args0 rf_s) = true := by decide +kernel
set_option maxRecDepth 16384 in
theorem rf_o_9_3 : ((((tables_1_9.drop 40).drop 40).drop 40).take 40).all (fun c => su_isCode c || c.before start1.args0 rf_s) = true := by decide +kernel
set_option maxRecDepth 16384 in
theorem rf_o_9_4 : (((((tables_1_9.drop 40).drop 40).drop 40).drop 40).take 40).all (fun c => su_isCode c || c.before start1.args0 rf_s) = true := by decide +kernel
set_option maxRecDepth 16384 in
theorem rf_o_9_5 : ((((((tables_1_9.drop 40).drop 40).drop 40).drop 40).drop 40).take 40).all (fun c => su_isCode c || c.before start1.args0 rf_s) = true := by decide +kernel
set_option maxRecDepth 16384 in
theorem rf_o_9_6 : (((((((tables_1_9.drop 40).drop 40).drop 40).drop 40).drop 40).drop 40).take 40).all (fun c => su_isCode c || c.before start1.args0 rf_s) = true := by decide +kernel
set_option maxRecDepth 16384 in
theorem rf_o_9_7 : ((((((((tables_1_9.drop 40).drop 40).drop 40).drop 40).drop 40).drop 40).drop 40)).all (fun c => su_isCode c || c.before start1.args0 rf_s) = true := by decide +kernel
theorem rf_all_9 : tables_1_9.all (fun c => su_isCode c || c.before start1.args0 rf_s) = true := start1.su_all_split _ 40 tables_1_9 rf_o_9_0 (start1.su_all_split _ 40 (tables_1_9.drop 40) rf_o_9_1 (start1.su_all_split _ 40 ((tables_1_9.drop 40).drop 40) rf_o_9_2 (start1.su_all_split _ 40 (((tables_1_9.drop 40).drop 40).drop 40) rf_o_9_3 (start1.su_all_split _ 40 ((((tables_1_9.drop 40).drop 40).drop 40).drop 40) rf_o_9_4 (start1.su_all_split _ 40 (((((tables_1_9.drop 40).drop 40).drop 40).drop 40).drop 40) rf_o_9_5 (start1.su_all_split _ 40 ((((((tables_1_9.drop 40).drop 40).drop 40).drop 40).drop 40).drop 40) rf_o_9_6 (rf_o_9_7)))))))
theorem rf_w_9 : ∀ c ∈ tables_1_9, c.before start1.args0 rf_s = true := fun c h =>
  su_words (f := fun c => c.before start1.args0 rf_s) rf_all_9 (fun c hc => (rf_code (List.mem_filter.mp hc).2).trans (start1.codes_hold_9 c hc)) c h
theorem rf_words : ∀ c ∈ (Cond.code x code maxLocals ret :: tables_1), c.before start1.args0 rf_s = true := by
  intro c hc
  rcases List.mem_cons.mp hc with h | h
  · rw [h]; exact (rf_code rfl).trans start1.word_code
  · have h1 : c ∈ tables_1_1 ++ (tables_1_2 ++ (tables_1_3 ++ (tables_1_4 ++ (tables_1_5 ++ (tables_1_6 ++ (tables_1_7 ++ (tables_1_8 ++ tables_1_9))))))) := h
    rcases List.mem_append.mp h1 with h2 | h1
    · exact rf_w_1 c h2
    rcases List.mem_append.mp h1 with h2 | h1
    · exact rf_w_2 c h2
    rcases List.mem_append.mp h1 with h2 | h1
    · exact rf_w_3 c h2
    rcases List.mem_append.mp h1 with h2 | h1
    · exact rf_w_4 c h2
    rcases List.mem_append.mp h1 with h2 | h1
    · exact rf_w_5 c h2
    rcases List.mem_append.mp h1 with h2 | h1
    · exact rf_w_6 c h2
    rcases List.mem_append.mp h1 with h2 | h1
    · exact rf_w_7 c h2
    rcases List.mem_append.mp h1 with h2 | h1
    · exact rf_w_8 c h2
    exact rf_w_9 c h1
theorem rf_and {a b : Jvm.Cond} (h1 : a.before start1.args0 rf_s = true) (h2 : b.before start1.args0 rf_s = true) : (Jvm.Cond.and a b).before start1.args0 rf_s = true := by rw [Cond.before_and, Bool.and_eq_true]; exact ⟨h1, h2⟩
set_option maxRecDepth 16384 in
theorem rf_narrow_1_1 : narrow_1_1.before start1.args0 rf_s = true := by decide +kernel
set_option maxRecDepth 16384 in
theorem rf_narrow_1_2 : narrow_1_2.before start1.args0 rf_s = true := by decide +kernel
set_option maxRecDepth 16384 in
theorem rf_narrow_1_3 : narrow_1_3.before start1.args0 rf_s = true := by decide +kernel
set_option maxRecDepth 16384 in
theorem rf_narrow_1_4 : narrow_1_4.before start1.args0 rf_s = true := by decide +kernel
theorem rf_narrow : narrow_1.before start1.args0 rf_s = true := by
  unfold narrow_1
  exact (rf_and (rf_and rf_narrow_1_1 rf_narrow_1_2) (rf_and rf_narrow_1_3 rf_narrow_1_4))
set_option maxRecDepth 16384 in
theorem rf_start : AtStart classFile x code maxLocals ret World_1 tables_1 room_1 Calls_1 rest_1 Pre_1 launch0 start1.p0 start1.e0 rf_s ⟨0, 0⟩ start1.args0 Lib.HandBits.below0 :=
  ⟨lists_1, trivial, launch0.admits_env _ _ _, launch0.least_env, fairChoices_fair.cas, fairChoices_fair.clock, rfl, by decide +kernel, by decide +kernel,
    (Spec.applies_iff rfl).mpr ⟨rfl, rfl, rfl, by decide +kernel, by decide +kernel, by decide +kernel, launch0.hasRoom_least _ room_1 (by decide +kernel) (by decide +kernel) (by decide +kernel) (by decide +kernel) (by decide +kernel) (by decide +kernel), atoms_intro rf_words⟩,
    trivial, (show rest_1_c.before start1.args0 rf_s = true by decide +kernel), rf_and (show given_1.before start1.args0 rf_s = true by decide +kernel) rf_narrow⟩
