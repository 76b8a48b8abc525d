section
/-! A START OF THE ROW WITH S1's SCRIPT (REPORT.md, S1) -/
def rf_cells : Array Value := #[.int 2, .int 1500, .int 10, .int 0, .int 0, .int 0, .int 0, .int 0, .int 0, .int 10, .int 0, .int 119, .int 0, .int 0, .int 0, .int 0, .int 0, .int 0, .int 11, .int 0, .int 1, .int 1, .int 1, .int 0, .int 0, .int 0, .int 0, .int 25, .int 0, .int 40, .int 0, .int 0, .int 0, .int 0, .int 0, .int 0, .int 16, .int 0, .int 1, .int 1, .int 0, .int 0, .int 0, .int 0, .int 0, .int 19, .int 0, .int 0, .int 0, .int 0, .int 0, .int 2147483647, .int 0, .int 0]
def rf_s : State := start1.aboutOf rf_cells
/-- words that speak of the tables of classes alone -/
def rf_pure : Jvm.Cond → Bool
  | .code .. => true
  | .codeWith .. => true
  | .codeSync .. => true
  | .methodLink .. => true
  | .methodLinkNest .. => true
  | .fieldLink .. => true
  | .fieldLinkNest .. => true
  | .classLink .. => true
  | .instanceMethod .. => true
  | .selects .. => true
  | .soleField .. => true
  | .static .. => true
  | .lays .. => true
  | .laysFinal .. => true
  | .castable .. => true
  | .privateMethod .. => true
  | .publicMethod .. => true
  | .initialized .. => true
  | .instantiable .. => true
  | .superclass .. => true
  | .declares .. => true
  | .arrayOver .. => true
  | .interfaceEntry .. => true
  | .unhidden .. => true
  | .interfaceMethod .. => true
  | .constant .. => true
  | .arrayClass .. => true
  | .sameMethod .. => true
  | .sameField .. => true
  | .constantLong .. => true
  | .native .. => true
  | _ => false
theorem rf_pure_eq (s : State) (h : Heap) (n : Nat) (a : Array Value) {c : Jvm.Cond} (hc : rf_pure c = true) : c.before a { s with heap := h, slotsUsed := n } = c.before a s := by
  cases c <;> first | (exact Bool.noConfusion (show false = true from hc)) | rfl
theorem rf_s_eq : rf_s = { start1.about with heap := rf_s.heap, slotsUsed := rf_s.slotsUsed } := rfl
set_option maxRecDepth 16384 in
theorem rf_rest : (tables_1.filter fun c => !rf_pure c).all (fun c => c.before start1.args0 rf_s) = true := by decide +kernel
theorem rf_words : ∀ c ∈ (Cond.code x code maxLocals ret :: tables_1), c.before start1.args0 rf_s = true := by
  intro c hc
  cases hp : rf_pure c with
  | true => rw [rf_s_eq, rf_pure_eq _ _ _ _ hp]; exact start1.words c hc
  | false =>
    rcases List.mem_cons.mp hc with h | h
    · subst h; cases hp
    · exact List.all_eq_true.mp rf_rest c (List.mem_filter.mpr ⟨h, by rw [hp]; rfl⟩)
theorem rf_and {a b : Jvm.Cond} (h1 : a.before start1.args0 rf_s = true) (h2 : b.before start1.args0 rf_s = true) : (Jvm.Cond.and a b).before start1.args0 rf_s = true := by rw [Cond.before_and, Bool.and_eq_true]; exact ⟨h1, h2⟩
set_option maxRecDepth 16384 in
theorem rf_narrow_1_1 : narrow_1_1.before start1.args0 rf_s = true := by decide +kernel
set_option maxRecDepth 16384 in
theorem rf_narrow_1_2 : narrow_1_2.before start1.args0 rf_s = true := by decide +kernel
set_option maxRecDepth 16384 in
theorem rf_narrow_1_3 : narrow_1_3.before start1.args0 rf_s = true := by decide +kernel
set_option maxRecDepth 16384 in
theorem rf_narrow_1_4 : narrow_1_4.before start1.args0 rf_s = true := by decide +kernel
theorem rf_narrow : narrow_1.before start1.args0 rf_s = true := by
  unfold narrow_1
  exact (rf_and (rf_and rf_narrow_1_1 rf_narrow_1_2) (rf_and rf_narrow_1_3 rf_narrow_1_4))
set_option maxRecDepth 16384 in
theorem rf_start : AtStart classFile x code maxLocals ret World_1 tables_1 room_1 Calls_1 rest_1 Pre_1 launch0 start1.p0 start1.e0 rf_s ⟨0, 0⟩ start1.args0 Lib.HandBits.below0 :=
  ⟨lists_1, trivial, launch0.admits_env _ _ _, launch0.least_env, fairChoices_fair.cas, fairChoices_fair.clock, rfl, by decide +kernel, by decide +kernel,
    (Spec.applies_iff rfl).mpr ⟨rfl, rfl, rfl, by decide +kernel, by decide +kernel, by decide +kernel, launch0.hasRoom_least _ room_1 (by decide +kernel) (by decide +kernel) (by decide +kernel) (by decide +kernel) (by decide +kernel) (by decide +kernel), atoms_intro rf_words⟩,
    trivial, (show rest_1_c.before start1.args0 rf_s = true by decide +kernel), rf_and (show given_1.before start1.args0 rf_s = true by decide +kernel) rf_narrow⟩
end
section
/-! A RUN THAT ENDS BY A THROW: what is looked at, step by step -/
def rf_floor : Frame → Bool
  | .native ⟨⟨0, 0⟩, ⟨[]⟩, 0, ⟨[]⟩, false, none, none, 0⟩ => true
  | _ => false
theorem rf_floor_eq {f : Frame} (h : rf_floor f = true) : [f] = Lib.HandBits.below0 := by
  revert h; unfold rf_floor; split <;> intro h <;> first | rfl | cases h
def rf_onFloor : List Frame → Bool
  | [] => false
  | f :: r => match r with
    | [] => rf_floor f
    | _ :: _ => rf_onFloor r
theorem rf_onFloor_eq : ∀ (l : List Frame), rf_onFloor l = true → ∃ up, l = up ++ Lib.HandBits.below0
  | [], h => by cases h
  | [f], h => ⟨[], rf_floor_eq h⟩
  | f :: g :: r, h => by
    obtain ⟨up, hu⟩ := rf_onFloor_eq (g :: r) h
    exact ⟨f :: up, by rw [hu]; rfl⟩
def rf_out : List Frame → Bool
  | [.throwing _, f] => rf_floor f
  | _ => false
theorem rf_out_eq {l : List Frame} (h : rf_out l = true) : ∃ a, l = .throwing a :: Lib.HandBits.below0 := by
  revert h; unfold rf_out; split
  · rename_i a f
    intro h
    exact ⟨a, by rw [← rf_floor_eq h]⟩
  · intro h; cases h
def rf_up : List Frame → Bool
  | [] => false
  | _ :: r => rf_onFloor r
theorem rf_up_eq {l : List Frame} (h : rf_up l = true) (hn : rf_out l = false) : ∃ up, l = up ++ Lib.HandBits.below0 ∧ up ≠ [] ∧ ∀ a, up ≠ [.throwing a] := by
  match l, h, hn with
  | [], h, _ => cases h
  | f :: r, h, hn =>
    obtain ⟨up, hu⟩ := rf_onFloor_eq r h
    refine ⟨f :: up, by rw [hu]; rfl, by simp, fun a ha => ?_⟩
    injection ha with h1 h2
    subst h1 h2
    rw [hu] at hn
    exact Bool.noConfusion (show true = false from hn)
def rf_runs (s : State) : Bool := match s.status with | .running => true | _ => false
def rf_able (s : State) : Bool := match s.curStatus? with | some .runnable => true | _ => false
def rf_live (s : State) : Bool := rf_up s.frames && (rf_runs s && (rf_able s && s.alone))
theorem rf_live_eq {s : State} (h : rf_live s = true) : rf_up s.frames = true ∧ s.status = .running ∧ s.curStatus? = some .runnable ∧ s.alone = true := by
  simp only [rf_live, Bool.and_eq_true] at h
  obtain ⟨h1, h2, h3, h4⟩ := h
  refine ⟨h1, ?_, ?_, h4⟩
  · revert h2; unfold rf_runs; split <;> intro h2 <;> first | assumption | cases h2
  · revert h3; unfold rf_able; split <;> intro h3 <;> first | assumption | cases h3
def rf_run (tb : Tables) (e : Env) : Nat → State → Bool
  | 0, _ => false
  | n + 1, s => match rf_out s.frames with
    | true => true
    | false => match rf_live s with
      | true => rf_run tb e n (stepThread tb e s).1
      | false => false
def rf_walk (tb : Tables) (e : Env) : Nat → State → Bool
  | 0, _ => true
  | n + 1, s => match rf_live s with
    | true => rf_walk tb e n (stepThread tb e s).1
    | false => false
theorem rf_run_ends (tb : Tables) (e : Env) : ∀ (n : Nat) (s : State), rf_run tb e n s = true →
    ∃ k a, (∀ j, j < k → Within (stepsAlone tb e j s) Lib.HandBits.below0) ∧ (stepsAlone tb e k s).frames = .throwing a :: Lib.HandBits.below0 := by
  intro n
  induction n with
  | zero => intro s h; cases h
  | succ n ih =>
    intro s h
    cases ho : rf_out s.frames with
    | true =>
      obtain ⟨a, ha⟩ := rf_out_eq ho
      exact ⟨0, a, fun j hj => absurd hj (Nat.not_lt_zero j), ha⟩
    | false =>
      cases hl : rf_live s with
      | false => simp only [rf_run, ho, hl] at h; cases h
      | true =>
        simp only [rf_run, ho, hl] at h
        obtain ⟨k, a, hk, ha⟩ := ih _ h
        obtain ⟨h1, h2, h3, h4⟩ := rf_live_eq hl
        have hs : ∀ j, stepsAlone tb e (j + 1) s = stepsAlone tb e j (stepThread tb e s).1 := by
          intro j
          show (match s.status, s.curStatus?, s.alone with
            | .running, some .runnable, true => stepsAlone tb e j (stepThread tb e s).1
            | _, _, _ => s) = _
          rw [h2, h3, h4]
        refine ⟨k + 1, a, fun j hj => ?_, by rw [hs]; exact ha⟩
        cases j with
        | zero => exact rf_up_eq h1 ho
        | succ j => rw [hs]; exact hk j (by omega)
def rf_n {β : Type} (n : Nat) (k : Nat → β) : β := match n with
  | 0 => k 0
  | m + 1 => k (m + 1)
theorem rf_n_eq {β : Type} (n : Nat) (k : Nat → β) : rf_n n k = k n := by cases n <;> rfl
def rf_v {β : Type} (v : Value) (k : Value → β) : β := match v with
  | .int x => rf_n x.toUInt32.toNat fun n => k (.int ⟨UInt32.ofNat n⟩)
  | .long x => rf_n x.toUInt64.toNat fun n => k (.long ⟨UInt64.ofNat n⟩)
  | .ref a => rf_n a fun a => k (.ref a)
  | .null => k .null
  | .float x => k (.float x)
  | .double x => k (.double x)
  | .retAddr x => k (.retAddr x)
theorem rf_v_eq {β : Type} (v : Value) (k : Value → β) : rf_v v k = k v := by
  cases v with
  | int x => simp only [rf_v, rf_n_eq, UInt32.ofNat_toNat]
  | long x => simp only [rf_v, rf_n_eq, UInt64.ofNat_toNat]
  | ref a => simp only [rf_v, rf_n_eq]
  | _ => rfl
def rf_slots {β : Type} : List Slot → (List Slot → β) → β
  | [], k => k []
  | .val v :: r, k => rf_v v fun v => rf_slots r fun r => k (.val v :: r)
  | .unset :: r, k => rf_slots r fun r => k (.unset :: r)
  | .second :: r, k => rf_slots r fun r => k (.second :: r)
theorem rf_slots_eq {β : Type} : ∀ (l : List Slot) (k : List Slot → β), rf_slots l k = k l
  | [], _ => rfl
  | .val v :: r, k => by simp only [rf_slots, rf_v_eq, rf_slots_eq r]
  | .unset :: r, k => by simp only [rf_slots, rf_slots_eq r]
  | .second :: r, k => by simp only [rf_slots, rf_slots_eq r]
def rf_vals {β : Type} : List Value → (List Value → β) → β
  | [], k => k []
  | v :: r, k => rf_v v fun v => rf_vals r fun r => k (v :: r)
theorem rf_vals_eq {β : Type} : ∀ (l : List Value) (k : List Value → β), rf_vals l k = k l
  | [], _ => rfl
  | v :: r, k => by simp only [rf_vals, rf_v_eq, rf_vals_eq r]
def rf_spine {β : Type} : List Cell → (List Cell → β) → β
  | [], k => k []
  | c :: r, k => rf_spine r fun r => k (c :: r)
theorem rf_spine_eq {β : Type} : ∀ (l : List Cell) (k : List Cell → β), rf_spine l k = k l
  | [], _ => rfl
  | c :: r, k => by simp only [rf_spine, rf_spine_eq r]
def rf_tidy {β : Type} (s : State) (k : State → β) : β := match s with
  | ⟨⟨heap⟩, vm@(.mk ..), ⟨[⟨.java ⟨⟨c, i⟩, pc, ⟨locals⟩, stack, none, [], room⟩ :: rest, .runnable, none, false, false, t5, none, t7, t8⟩]⟩, cur, world@(.mk ..), drawn@(.mk ..), now, used, .running⟩ =>
    rf_n c fun c => rf_n i fun i => rf_n pc fun pc => rf_n used fun used => rf_n room fun room => rf_n cur fun cur => rf_n now fun now => rf_n t8 fun t8 => rf_v t7 fun t7 => rf_slots locals fun locals => rf_vals stack fun stack =>
      k ⟨⟨heap⟩, vm, ⟨[⟨.java ⟨⟨c, i⟩, pc, ⟨locals⟩, stack, none, [], room⟩ :: rest, .runnable, none, false, false, t5, none, t7, t8⟩]⟩, cur, world, drawn, now, used, .running⟩
  | s => k s
theorem rf_tidy_eq {β : Type} (s : State) (k : State → β) : rf_tidy s k = k s := by
  unfold rf_tidy
  split
  · simp only [rf_n_eq, rf_v_eq, rf_slots_eq, rf_vals_eq]
  · rfl
def rf_vm {β : Type _} (v : Vm) (k : Vm → β) : β := match v with
  | .mk a b c d e f g h i j l m n o p q r s t => k (.mk a b c d e f g h i j l m n o p q r s t)
theorem rf_vm_eq {β : Type _} (v : Vm) (k : Vm → β) : rf_vm v k = k v := by cases v; rfl
def rf_m {β : Type _} (n : Nat) (k : Nat → β) : β := match n with
  | 0 => k 0
  | m + 1 => k (m + 1)
theorem rf_m_eq {β : Type _} (n : Nat) (k : Nat → β) : rf_m n k = k n := by cases n <;> rfl
def rf_op {β : Type} {γ : Type _} (op : VmOp β) (K : VmOp β → γ) : γ := match op with
  | .resolveField d i => rf_m d fun d => rf_m i fun i => K (.resolveField d i)
  | .settleField d i => rf_m d fun d => rf_m i fun i => K (.settleField d i)
  | .resolveMethod d i => rf_m d fun d => rf_m i fun i => K (.resolveMethod d i)
  | .resolveClass d i => rf_m d fun d => rf_m i fun i => K (.resolveClass d i)
  | .arrayOf c => rf_m c fun c => K (.arrayOf c)
  | .getInit c => rf_m c fun c => K (.getInit c)
  | .askInit c => rf_m c fun c => K (.askInit c)
  | .link c => rf_m c fun c => K (.link c)
  | op => K op
theorem rf_op_eq {β : Type} {γ : Type _} (op : VmOp β) (K : VmOp β → γ) : rf_op op K = K op := by
  cases op <;> simp only [rf_op, rf_m_eq]
def rf_calm {β : Type} (op : VmOp β) : Bool := match op with
  | .resolveField .. => true
  | .settleField .. => true
  | .resolveMethod .. => true
  | .resolveClass .. => true
  | .arrayOf .. => true
  | .askInit .. => true
  | .link .. => true
  | .load .. => true
  | .loadFor .. => true
  | _ => false
def rf_get (l : List Cell) : Nat → Option Cell := match l with
  | [] => fun _ => none
  | c :: r => fun n => match n with
    | 0 => some c
    | m + 1 => rf_get r m
theorem rf_get_eq : ∀ (l : List Cell) (n : Nat), rf_get l n = l[n]?
  | [], n => by simp [rf_get]
  | c :: r, 0 => by simp [rf_get]
  | c :: r, m + 1 => by simp [rf_get, rf_get_eq r m]
def rf_getv (l : List Value) : Nat → Option Value := match l with
  | [] => fun _ => none
  | c :: r => fun n => match n with
    | 0 => some c
    | m + 1 => rf_getv r m
theorem rf_getv_eq : ∀ (l : List Value) (n : Nat), rf_getv l n = l[n]?
  | [], n => by simp [rf_getv]
  | c :: r, 0 => by simp [rf_getv]
  | c :: r, m + 1 => by simp [rf_getv, rf_getv_eq r m]
def rf_mod {β : Type} (g : Cell → (Cell → β) → β) : List Cell → Nat → (List Cell → β) → β
  | [], _, k => k []
  | c :: r, 0, k => g c fun c => k (c :: r)
  | c :: r, m + 1, k => rf_mod g r m fun r => k (c :: r)
theorem rf_mod_eq {β : Type} {g : Cell → (Cell → β) → β} {f : Cell → Cell} (hg : ∀ c k, g c k = k (f c)) : ∀ (l : List Cell) (n : Nat) (k : List Cell → β), rf_mod g l n k = k (l.modify n f)
  | [], n, k => by cases n <;> simp [rf_mod]
  | c :: r, 0, k => by simp [rf_mod, hg]
  | c :: r, m + 1, k => by simp [rf_mod, rf_mod_eq hg r m]
def rf_vs {β : Type} (v : Value) : List Value → Nat → (List Value → β) → β
  | [], _, k => k []
  | _ :: r, 0, k => k (v :: r)
  | c :: r, m + 1, k => rf_vs v r m fun r => k (c :: r)
theorem rf_vs_eq {β : Type} (v : Value) : ∀ (l : List Value) (n : Nat) (k : List Value → β), rf_vs v l n k = k (l.set n v)
  | [], n, k => by cases n <;> simp [rf_vs]
  | c :: r, 0, k => by simp [rf_vs]
  | c :: r, m + 1, k => by simp [rf_vs, rf_vs_eq v r m]
def rf_put {β : Type} (i : Nat) (v : Value) (c : Cell) (k : Cell → β) : β := match c with
  | ⟨cl, ⟨sl⟩, mo, ha, y⟩ => rf_vs v sl i fun sl => k ⟨cl, ⟨sl⟩, mo, ha, y⟩
theorem rf_put_eq {β : Type} (i : Nat) (v : Value) (c : Cell) (k : Cell → β) : rf_put i v c k = k { c with slots := c.slots.setIfInBounds i v } := by
  obtain ⟨cl, ⟨sl⟩, mo, ha, y⟩ := c
  simp [rf_put, rf_vs_eq]
def rf_unk (x : VmData) : Bool := match x with
  | .unknown => true
  | _ => false
theorem rf_unk_eq (x : VmData) : rf_unk x = (x == .unknown) := by cases x <;> simp [rf_unk]
def rf_fits (w : Vm) (c : ClassId) (x : VmData) (i : Nat) (v : Value) : Bool := State.fitsSlot { vm := w } c x i v
theorem rf_fits_eq (s : State) (c : ClassId) (x : VmData) (i : Nat) (v : Value) : rf_fits s.vm c x i v = s.fitsSlot c x i v := rfl
theorem rf_at_heap {s : State} {h : List Cell} {a : Nat} {c : Cell} (hs : s.heap = ⟨h⟩) (hg : rf_get h a = some c) : s.heap[a]? = some c := by
  rw [hs]
  rw [rf_get_eq] at hg
  simpa using hg
def rf_go {α : Type} : Sem α → Env → Bool → List Action → State → Res α
  | .look f k, e, d, acts, s => rf_vm s.vm fun v => rf_go (k (f e.toSetting v)) e d acts s
  | .vm op k, e, d, acts, s => match rf_calm op with
    | false => (Sem.vm op k).go e d acts s
    | true => rf_vm s.vm fun v => rf_op op fun op => match Nat.blt v.classes.size (op.run e.toSetting v).2.1.classes.size with
      | true => (Sem.vm op k).go e d acts s
      | false => rf_go (k (op.run e.toSetting v).1) e d ((op.run e.toSetting v).2.2.map .mark ++ acts) { s with vm := (op.run e.toSetting v).2.1 }
  | .mark r k, e, d, acts, s => rf_go k e d (.mark r :: acts) s
  | .frames k, e, d, acts, s => rf_go (k s.frames) e d acts s
  | .pop k, e, d, acts, s => match (Sem.pop .pure).go e d acts s with
    | Res.ok v s' acts' => rf_go (k v) e true acts' s'
    | Res.ctl c s' acts' => Res.ctl c s' acts'
  | .push v k, e, d, acts, s => match (Sem.push v (.pure ())).go e d acts s with
    | Res.ok _ s' acts' => rf_go k e true acts' s'
    | Res.ctl c s' acts' => Res.ctl c s' acts'
  | .read l m k, e, d, acts, s => match s.heap with
    | ⟨h⟩ => rf_n l.base fun b => match rf_get h b with
      | none => (Sem.read l m k).go e d acts s
      | some ⟨_, ⟨sl⟩, _, _, x⟩ => match rf_unk x with
        | true => (Sem.read l m k).go e d acts s
        | false => rf_n l.slot fun i => match rf_getv sl i with
          | none => (Sem.read l m k).go e d acts s
          | some v => rf_go (k v) e d (if m == .vm then acts else .read l m v :: acts) s
  | .cell a k, e, d, acts, s => match s.heap with
    | ⟨h⟩ => rf_n a fun a => match rf_get h a with
      | none => (Sem.cell a k).go e d acts s
      | some c => rf_n c.cls fun cl => rf_n c.slots.size fun n => rf_go (k ⟨cl, n, c.hash, c.vm⟩) e d acts s
  | .alloc c sl x k, e, d, acts, s => match (Sem.alloc c sl x .pure).go e d acts s with
    | Res.ok v s' acts' => match s'.heap with
      | ⟨h⟩ => rf_spine h fun h => rf_n v fun v => rf_go (k v) e d acts' { s' with heap := ⟨h⟩ }
    | Res.ctl c s' acts' => Res.ctl c s' acts'
  | .write l m v k, e, d, acts, s => match s.heap with
    | ⟨h⟩ => rf_n l.base fun b => match rf_get h b with
      | none => (Sem.write l m v k).go e d acts s
      | some ⟨cl, ⟨sl⟩, _, _, x⟩ => match rf_unk x with
        | true => (Sem.write l m v k).go e d acts s
        | false => rf_n l.slot fun i => rf_n cl fun cl => rf_v v fun w => match Nat.blt i sl.length && rf_vm s.vm fun y => rf_fits y cl x i w with
          | false => (Sem.write l m v k).go e d acts s
          | true => rf_mod (rf_put i w) h b fun h => rf_go k e true (if m == .vm then acts else .write l m v :: acts) { s with heap := ⟨h⟩ }
  | t, e, d, acts, s => t.go e d acts s
theorem rf_go_eq {α : Type} (t : Sem α) : ∀ (e : Env) (d : Bool) (acts : List Action) (s : State), rf_go t e d acts s = t.go e d acts s := by
  induction t with
  | look f k ih => intro e d acts s; simp only [rf_go, rf_vm_eq, ih, Sem.go]
  | vm op k ih =>
    intro e d acts s
    simp only [rf_go, rf_vm_eq, rf_op_eq]
    cases hc : rf_calm op with
    | false => rfl
    | true =>
      simp only []
      cases hb : Nat.blt s.vm.classes.size (op.run e.toSetting s.vm).2.1.classes.size with
      | true => rfl
      | false =>
        have hn : ¬ s.vm.classes.size < (op.run e.toSetting s.vm).2.1.classes.size := by
          intro hl
          have := (Nat.blt_eq).mpr hl
          rw [this] at hb; cases hb
        simp only [ih]
        cases op <;> first | (exact Bool.noConfusion (show false = true from hc)) | (simp only [Sem.go]; rw [if_neg hn])
  | mark r k ih => intro e d acts s; simp only [rf_go, ih, Sem.go]
  | frames k ih => intro e d acts s; simp only [rf_go, ih, Sem.go]
  | pop k ih =>
    intro e d acts s
    simp only [rf_go, Sem.go, ih]
    repeat' split
    all_goals first | rfl | simp_all [Sem.go.ill]
  | push v k ih =>
    intro e d acts s
    simp only [rf_go, Sem.go, ih]
    repeat' split
    all_goals first | rfl | simp_all [Sem.go.ill]
  | read l m k ih =>
    intro e d acts s
    cases hs : s.heap with
    | mk h =>
      simp only [rf_go, hs, rf_n_eq]
      cases hg : rf_get h l.base with
      | none => rfl
      | some c =>
        obtain ⟨cl, ⟨sl⟩, mo, ha, x⟩ := c
        simp only []
        cases hu : rf_unk x with
        | true => rfl
        | false =>
          simp only []
          cases hv : rf_getv sl l.slot with
          | none => rfl
          | some v =>
            have h1 := rf_at_heap hs hg
            have h2 : s.unknownAt l = false := by unfold State.unknownAt; rw [h1]; rw [rf_unk_eq] at hu; simpa using hu
            have h3 : s.at? l = some v := by
              unfold State.at?; rw [h1]; rw [rf_getv_eq] at hv
              simpa using hv
            simp only [ih, Sem.go, h2, h3]
            rfl
  | cell a k ih =>
    intro e d acts s
    cases hs : s.heap with
    | mk h =>
      simp only [rf_go, hs, rf_n_eq]
      cases hg : rf_get h a with
      | none => rfl
      | some c =>
        have h1 := rf_at_heap hs hg
        simp only [ih, Sem.go, h1]
  | alloc c sl x k ih =>
    intro e d acts s
    simp only [rf_go, Sem.go, ih, rf_n_eq, rf_spine_eq]
    by_cases h1 : s.heap.size ≥ e.platform.maxCells || s.slotsUsed + sl.size > e.platform.maxSlots
    · rw [if_pos h1, if_pos h1]
    · rw [if_neg h1, if_neg h1]
      by_cases h2 : ((List.range sl.size).all fun i => s.fitsSlot c x i (sl.getD i .null)) = true
      · rw [if_pos h2, if_pos h2]
      · rw [if_neg h2, if_neg h2]; rfl
  | write l m v k ih =>
    intro e d acts s
    cases hs : s.heap with
    | mk h =>
      simp only [rf_go, hs, rf_n_eq, rf_v_eq, rf_vm_eq]
      cases hg : rf_get h l.base with
      | none => rfl
      | some c =>
        obtain ⟨cl, ⟨sl⟩, mo, ha, x⟩ := c
        simp only []
        cases hu : rf_unk x with
        | true => rfl
        | false =>
          simp only []
          cases hf : (Nat.blt l.slot sl.length && rf_fits s.vm cl x l.slot v) with
          | false => rfl
          | true =>
            have h1 := rf_at_heap hs hg
            have h2 : s.unknownAt l = false := by unfold State.unknownAt; rw [h1]; rw [rf_unk_eq] at hu; simpa using hu
            have h3 : s.admits l v = true := by
              unfold State.admits; rw [h1]
              rw [Bool.and_eq_true] at hf
              rw [rf_fits_eq] at hf
              simp only [Bool.and_eq_true, decide_eq_true_eq]
              exact ⟨by have := Nat.blt_eq.mp hf.1; simpa using this, hf.2⟩
            have h4 : s.setAt l v = { s with heap := ⟨h.modify l.base fun c => { c with slots := c.slots.setIfInBounds l.slot v }⟩ } := by
              unfold State.setAt State.modifyCell; rw [hs]; simp
            simp only [rf_mod_eq (rf_put_eq l.slot v), ih, Sem.go, h2, h3, h4]
            rfl
  | _ => intro e d acts s; simp only [rf_go]
def rf_at (v : Vm) (c i pc : Nat) : Option (Except DecodeError (Instr × Nat)) := (((v.classes[c]?).bind fun k => k.methods[i]?).bind fun x => x.code).map fun k => decode k.code pc
def rf_at' (s : State) (f : JFrame) : Option (Except DecodeError (Instr × Nat)) := rf_vm s.vm fun v => rf_m f.method.cls fun c => rf_m f.method.idx fun i => rf_m f.pc fun pc => rf_at v c i pc
theorem rf_at_eq (s : State) (f : JFrame) : rf_at' s f = (s.code? f.method).map fun c => decode c.code f.pc := by
  simp only [rf_at', rf_vm_eq, rf_m_eq, rf_at]
  unfold State.code?
  cases s.vm.classes[f.method.cls]? with
  | none => rfl
  | some k => cases hk : k.methods[f.method.idx]? <;> simp [hk]
/-- a method of bytecode without a lock: its maxLocals -/
def rf_meth (v : Vm) (c i : Nat) : Option Nat := match v.method? ⟨c, i⟩ with
  | some meth => match meth.code with
    | some code => match meth.locks with
      | false => some code.maxLocals
      | true => none
    | none => none
  | none => none
def rf_inv (e : Env) (s : State) (acts : List Action) (m : MethodId) (args : Array Value) : State :=
  match rf_vm s.vm fun v => rf_m m.cls fun c => rf_m m.idx fun i => rf_meth v c i with
  | none => (doInvoke e s acts m args).1
  | some n => match e.platform.stackFull ((s.threads[s.cur]?).getD { frames := [] }) s.frames n with
    | true => (doInvoke e s acts m args).1
    | false => s.pushFrame (.java { method := m, pc := 0, locals := argsToLocals args n, stack := [], locked := none })
theorem rf_inv_eq (e : Env) (s : State) (acts : List Action) (m : MethodId) (args : Array Value) : rf_inv e s acts m args = (doInvoke e s acts m args).1 := by
  unfold rf_inv
  simp only [rf_vm_eq, rf_m_eq]
  cases hm : rf_meth s.vm m.cls m.idx with
  | none => rfl
  | some n =>
    simp only []
    cases hr : e.platform.stackFull ((s.threads[s.cur]?).getD { frames := [] }) s.frames n with
    | true => rfl
    | false =>
      simp only []
      unfold rf_meth at hm
      split at hm
      · rename_i meth h1
        split at hm
        · rename_i code h2
          split at hm
          · rename_i h3
            cases hm
            exact (doInvoke_java (m := m) (args := args) (acts := acts) h1 h2 h3 hr).1.symm
          · cases hm
        · cases hm
      · cases hm
def rf_free (v : Vm) (c i : Nat) : Bool := match v.method? ⟨c, i⟩ with
  | some meth => match meth.locks with
    | false => true
    | true => false
  | none => false
def rf_ret (e : Env) (s : State) (acts : List Action) (x : Option Value) : State :=
  match s.frames with
  | .java f :: .java g :: r => match f.locked, f.entered, (rf_vm s.vm fun v => rf_m f.method.cls fun c => rf_m f.method.idx fun i => rf_free v c i), rf_at' s g with
    | none, [], true, some (.ok (_, len)) => s.setFrames (.java { g with pc := g.pc + len, stack := x.toList ++ g.stack } :: r)
    | _, _, _, _ => (doReturn e s acts x).1
  | _ => (doReturn e s acts x).1
theorem rf_ret_eq (e : Env) (s : State) (acts : List Action) (x : Option Value) : rf_ret e s acts x = (doReturn e s acts x).1 := by
  unfold rf_ret
  split
  · rename_i f g r hf
    split
    · rename_i i len h1 h2 h3 h4
      simp only [rf_vm_eq, rf_m_eq, rf_free] at h3
      split at h3
      · rename_i meth hm
        split at h3
        · rename_i hl
          rw [rf_at_eq] at h4
          refine ((doReturn_plain (acts := acts) hf (meth := meth) hm hl h1 h2 ?_).1).symm
          simp only [handOver]
          cases hc : s.code? g.method with
          | none => rw [hc] at h4; cases h4
          | some c =>
            rw [hc] at h4
            simp only [Option.map_some, Option.some.injEq] at h4
            simp [h4, Except.toOption]
        · cases h3
      · cases h3
    · rfl
  · rfl
def rf_over (tb : Tables) (e : Env) (v : Vm) (c i : Nat) : Option NativeRow := overridden tb e { vm := v } { method := ⟨c, i⟩, pc := 0, locals := #[], stack := [], locked := none }
def rf_over' (tb : Tables) (e : Env) (s : State) (f : JFrame) : Option NativeRow := match f.pc with
  | 0 => rf_vm s.vm fun v => rf_m f.method.cls fun c => rf_m f.method.idx fun i => rf_over tb e v c i
  | _ + 1 => none
theorem rf_over_eq (tb : Tables) (e : Env) (s : State) (f : JFrame) : rf_over' tb e s f = overridden tb e s f := by
  unfold rf_over'
  split
  · rename_i h
    simp only [rf_vm_eq, rf_m_eq, rf_over]
    unfold overridden
    simp [h]
  · rename_i h
    unfold overridden
    simp [h]
def rf_after (e : Env) (len : Nat) (r : Res Unit) : State := match r with
  | .ctl (.invoke m args) s acts => rf_inv e s acts m args
  | .ctl (.ret v) s acts => rf_ret e s acts v
  | r => (afterInstr e len r).1
theorem rf_after_eq (e : Env) (len : Nat) (r : Res Unit) : rf_after e len r = (afterInstr e len r).1 := by
  unfold rf_after
  split
  · rw [rf_inv_eq]; rfl
  · rw [rf_ret_eq]; rfl
  · rfl
def rf_step (tb : Tables) (e : Env) (s : State) : State := match s.frames with
  | .java f :: _ => match rf_over' tb e s f with
    | some _ => (stepThread tb e s).1
    | none => match rf_at' s f with
      | some (.ok (i, len)) => rf_after e len (rf_go (tb.exec i) e false [] s)
      | _ => (stepThread tb e s).1
  | _ => (stepThread tb e s).1
theorem rf_step_eq (tb : Tables) (e : Env) (s : State) : rf_step tb e s = (stepThread tb e s).1 := by
  unfold rf_step
  split
  · rename_i f r hf
    split
    · rfl
    · rename_i ho
      rw [rf_over_eq] at ho
      split
      · rename_i i len ha
        rw [rf_at_eq] at ha
        rw [rf_after_eq, rf_go_eq]
        unfold stepThread
        simp only [hf, ho, ha]
        rfl
      · rfl
  · rfl
def rf_frun (tb : Tables) (e : Env) : Nat → State → Bool
  | 0, _ => false
  | n + 1, s => rf_tidy s fun s => match rf_out s.frames with
    | true => true
    | false => match rf_live s with
      | true => rf_frun tb e n (rf_step tb e s)
      | false => false
theorem rf_frun_eq (tb : Tables) (e : Env) : ∀ (n : Nat) (s : State), rf_frun tb e n s = rf_run tb e n s := by
  intro n
  induction n with
  | zero => intro s; rfl
  | succ n ih => intro s; simp only [rf_frun, rf_run, rf_tidy_eq, rf_step_eq, ih]
end
section
/-! THE RUN ITSELF, decided by the kernel -/
set_option maxRecDepth 16384 in
theorem rf_thrown : rf_run start1.p0.tables start1.e0 20000 rf_s = true := (rf_frun_eq _ _ _ _).symm.trans (by decide +kernel)
/-! SO THE ROW IS FALSE -/
theorem rf_falls (c : Jvm.Cond) (Post : Jvm.Tables → Jvm.Env → Array Jvm.Value → Jvm.State → Jvm.Outcome → Jvm.State → Prop)
    (hp : ∀ tb e a s o t, Post tb e a s o t → Jvm.D.postC c tb e a s o t) (hc : ∀ e a s b t, ¬ Jvm.D.postC c start1.p0.tables e a s (.threw b) t) :
    ¬ Jvm.D.ArmFor flags0 classFile x code maxLocals ret World_1 tables_1 room_1 Calls_1 rest_1 Pre_1 Post := by
  intro hA
  obtain ⟨hL, hW, had, -, hcas, hclk, hfr, hfit, hheap, happ, hcalls, hrest, hpre⟩ := rf_start
  obtain ⟨k, o, hin, -, hend, hpost⟩ := hA launch0 rfl hL hW start1.p0 start1.e0 had hcas hclk rf_s ⟨0, 0⟩ start1.args0 Lib.HandBits.below0 hfr hfit hheap happ ⟨hcalls, hrest, hpre⟩
  obtain ⟨n, a, hw, ht⟩ := rf_run_ends _ _ _ _ rf_thrown
  have he : Ended (stepsAlone start1.p0.tables start1.e0 n rf_s) Lib.HandBits.below0 (.threw a) := ht
  have hnk : n = k := by
    rcases Nat.lt_trichotomy n k with h | h | h
    · exact absurd (hin n h) he.not_within
    · exact h
    · exact absurd (hw k h) hend.not_within
  subst hnk
  have ho := he.outcome_unique hend
  subst ho
  exact hc _ _ _ _ _ (hp _ _ _ _ _ _ hpost)
theorem not_claimed_1_1 : ¬ Claimed_1_1 := by
  refine rf_falls limb_1_1 _ (fun _ _ _ _ _ _ h => h.1) (fun e a s b t h => ?_)
  have hv : Jvm.D.postC limb_1_1 start1.p0.tables e a s (.threw b) t = ((some false == some true) = true) := rfl
  rw [hv] at h
  exact absurd h (by decide)
theorem not_owed : ¬ (Claimed_1_1 ∧ Claimed_1_2) := fun h => not_claimed_1_1 h.1
end
