/-! A START OF THE ROW WITH S1's SCRIPT (REPORT.md, S1) -/
def rf_cells : Array Value := #[.int 2, .int 1500, .int 10, .int 0, .int 0, .int 0, .int 0, .int 0, .int 0, .int 10, .int 0, .int 119, .int 0, .int 0, .int 0, .int 0, .int 0, .int 0, .int 11, .int 0, .int 1, .int 1, .int 1, .int 0, .int 0, .int 0, .int 0, .int 25, .int 0, .int 40, .int 0, .int 0, .int 0, .int 0, .int 0, .int 0, .int 16, .int 0, .int 1, .int 1, .int 0, .int 0, .int 0, .int 0, .int 0, .int 19, .int 0, .int 0, .int 0, .int 0, .int 0, .int 2147483647, .int 0, .int 0]
def rf_s : State := start1.aboutOf rf_cells
/-- words that speak of the tables of classes alone -/
def rf_pure : Jvm.Cond → Bool
  | .code .. => true
  | .codeWith .. => true
  | .codeSync .. => true
  | .methodLink .. => true
  | .methodLinkNest .. => true
  | .fieldLink .. => true
  | .fieldLinkNest .. => true
  | .classLink .. => true
  | .instanceMethod .. => true
  | .selects .. => true
  | .soleField .. => true
  | .static .. => true
  | .lays .. => true
  | .laysFinal .. => true
  | .castable .. => true
  | .privateMethod .. => true
  | .publicMethod .. => true
  | .initialized .. => true
  | .instantiable .. => true
  | .superclass .. => true
  | .declares .. => true
  | .arrayOver .. => true
  | .interfaceEntry .. => true
  | .unhidden .. => true
  | .interfaceMethod .. => true
  | .constant .. => true
  | .arrayClass .. => true
  | .sameMethod .. => true
  | .sameField .. => true
  | .constantLong .. => true
  | .native .. => true
  | _ => false
theorem rf_pure_eq (s : State) (h : Heap) (n : Nat) (a : Array Value) {c : Jvm.Cond} (hc : rf_pure c = true) : c.before a { s with heap := h, slotsUsed := n } = c.before a s := by
  cases c <;> first | (exact Bool.noConfusion (show false = true from hc)) | rfl
theorem rf_s_eq : rf_s = { start1.about with heap := rf_s.heap, slotsUsed := rf_s.slotsUsed } := rfl
set_option maxRecDepth 16384 in
theorem rf_rest : (tables_1.filter fun c => !rf_pure c).all (fun c => c.before start1.args0 rf_s) = true := by decide +kernel
theorem rf_words : ∀ c ∈ (Cond.code x code maxLocals ret :: tables_1), c.before start1.args0 rf_s = true := by
  intro c hc
  cases hp : rf_pure c with
  | true => rw [rf_s_eq, rf_pure_eq _ _ _ _ hp]; exact start1.words c hc
  | false =>
    rcases List.mem_cons.mp hc with h | h
    · subst h; cases hp
    · exact List.all_eq_true.mp rf_rest c (List.mem_filter.mpr ⟨h, by rw [hp]; rfl⟩)
theorem rf_and {a b : Jvm.Cond} (h1 : a.before start1.args0 rf_s = true) (h2 : b.before start1.args0 rf_s = true) : (Jvm.Cond.and a b).before start1.args0 rf_s = true := by rw [Cond.before_and, Bool.and_eq_true]; exact ⟨h1, h2⟩
set_option maxRecDepth 16384 in
theorem rf_narrow_1_1 : narrow_1_1.before start1.args0 rf_s = true := by decide +kernel
set_option maxRecDepth 16384 in
theorem rf_narrow_1_2 : narrow_1_2.before start1.args0 rf_s = true := by decide +kernel
set_option maxRecDepth 16384 in
theorem rf_narrow_1_3 : narrow_1_3.before start1.args0 rf_s = true := by decide +kernel
set_option maxRecDepth 16384 in
theorem rf_narrow_1_4 : narrow_1_4.before start1.args0 rf_s = true := by decide +kernel
theorem rf_narrow : narrow_1.before start1.args0 rf_s = true := by
  unfold narrow_1
  exact (rf_and (rf_and rf_narrow_1_1 rf_narrow_1_2) (rf_and rf_narrow_1_3 rf_narrow_1_4))
set_option maxRecDepth 16384 in
theorem rf_start : AtStart classFile x code maxLocals ret World_1 tables_1 room_1 Calls_1 rest_1 Pre_1 launch0 start1.p0 start1.e0 rf_s ⟨0, 0⟩ start1.args0 Lib.HandBits.below0 :=
  ⟨lists_1, trivial, launch0.admits_env _ _ _, launch0.least_env, fairChoices_fair.cas, fairChoices_fair.clock, rfl, by decide +kernel, by decide +kernel,
    (Spec.applies_iff rfl).mpr ⟨rfl, rfl, rfl, by decide +kernel, by decide +kernel, by decide +kernel, launch0.hasRoom_least _ room_1 (by decide +kernel) (by decide +kernel) (by decide +kernel) (by decide +kernel) (by decide +kernel) (by decide +kernel), atoms_intro rf_words⟩,
    trivial, (show rest_1_c.before start1.args0 rf_s = true by decide +kernel), rf_and (show given_1.before start1.args0 rf_s = true by decide +kernel) rf_narrow⟩
