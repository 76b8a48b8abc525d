/-! A RUN THAT ENDS BY A THROW: what is looked at, step by step -/
def rf_floor : Frame → Bool
  | .native ⟨⟨0, 0⟩, ⟨[]⟩, 0, ⟨[]⟩, false, none, none, 0⟩ => true
  | _ => false
theorem rf_floor_eq {f : Frame} (h : rf_floor f = true) : [f] = Lib.HandBits.below0 := by
  revert h; unfold rf_floor; split <;> intro h <;> first | rfl | cases h
def rf_onFloor : List Frame → Bool
  | [] => false
  | f :: r => match r with
    | [] => rf_floor f
    | _ :: _ => rf_onFloor r
theorem rf_onFloor_eq : ∀ (l : List Frame), rf_onFloor l = true → ∃ up, l = up ++ Lib.HandBits.below0
  | [], h => by cases h
  | [f], h => ⟨[], rf_floor_eq h⟩
  | f :: g :: r, h => by
    obtain ⟨up, hu⟩ := rf_onFloor_eq (g :: r) h
    exact ⟨f :: up, by rw [hu]; rfl⟩
def rf_out : List Frame → Bool
  | [.throwing _, f] => rf_floor f
  | _ => false
theorem rf_out_eq {l : List Frame} (h : rf_out l = true) : ∃ a, l = .throwing a :: Lib.HandBits.below0 := by
  revert h; unfold rf_out; split
  · rename_i a f
    intro h
    exact ⟨a, by rw [← rf_floor_eq h]⟩
  · intro h; cases h
def rf_up : List Frame → Bool
  | [] => false
  | _ :: r => rf_onFloor r
theorem rf_up_eq {l : List Frame} (h : rf_up l = true) (hn : rf_out l = false) : ∃ up, l = up ++ Lib.HandBits.below0 ∧ up ≠ [] ∧ ∀ a, up ≠ [.throwing a] := by
  match l, h, hn with
  | [], h, _ => cases h
  | f :: r, h, hn =>
    obtain ⟨up, hu⟩ := rf_onFloor_eq r h
    refine ⟨f :: up, by rw [hu]; rfl, by simp, fun a ha => ?_⟩
    injection ha with h1 h2
    subst h1 h2
    rw [hu] at hn
    exact Bool.noConfusion (show true = false from hn)
def rf_runs (s : State) : Bool := match s.status with | .running => true | _ => false
def rf_able (s : State) : Bool := match s.curStatus? with | some .runnable => true | _ => false
def rf_live (s : State) : Bool := rf_up s.frames && (rf_runs s && (rf_able s && s.alone))
theorem rf_live_eq {s : State} (h : rf_live s = true) : rf_up s.frames = true ∧ s.status = .running ∧ s.curStatus? = some .runnable ∧ s.alone = true := by
  simp only [rf_live, Bool.and_eq_true] at h
  obtain ⟨h1, h2, h3, h4⟩ := h
  refine ⟨h1, ?_, ?_, h4⟩
  · revert h2; unfold rf_runs; split <;> intro h2 <;> first | assumption | cases h2
  · revert h3; unfold rf_able; split <;> intro h3 <;> first | assumption | cases h3
def rf_run (tb : Tables) (e : Env) : Nat → State → Bool
  | 0, _ => false
  | n + 1, s => match rf_out s.frames with
    | true => true
    | false => match rf_live s with
      | true => rf_run tb e n (stepThread tb e s).1
      | false => false
def rf_walk (tb : Tables) (e : Env) : Nat → State → Bool
  | 0, _ => true
  | n + 1, s => match rf_live s with
    | true => rf_walk tb e n (stepThread tb e s).1
    | false => false
theorem rf_run_ends (tb : Tables) (e : Env) : ∀ (n : Nat) (s : State), rf_run tb e n s = true →
    ∃ k a, (∀ j, j < k → Within (stepsAlone tb e j s) Lib.HandBits.below0) ∧ (stepsAlone tb e k s).frames = .throwing a :: Lib.HandBits.below0 := by
  intro n
  induction n with
  | zero => intro s h; cases h
  | succ n ih =>
    intro s h
    cases ho : rf_out s.frames with
    | true =>
      obtain ⟨a, ha⟩ := rf_out_eq ho
      exact ⟨0, a, fun j hj => absurd hj (Nat.not_lt_zero j), ha⟩
    | false =>
      cases hl : rf_live s with
      | false => simp only [rf_run, ho, hl] at h; cases h
      | true =>
        simp only [rf_run, ho, hl] at h
        obtain ⟨k, a, hk, ha⟩ := ih _ h
        obtain ⟨h1, h2, h3, h4⟩ := rf_live_eq hl
        have hs : ∀ j, stepsAlone tb e (j + 1) s = stepsAlone tb e j (stepThread tb e s).1 := by
          intro j
          show (match s.status, s.curStatus?, s.alone with
            | .running, some .runnable, true => stepsAlone tb e j (stepThread tb e s).1
            | _, _, _ => s) = _
          rw [h2, h3, h4]
        refine ⟨k + 1, a, fun j hj => ?_, by rw [hs]; exact ha⟩
        cases j with
        | zero => exact rf_up_eq h1 ho
        | succ j => rw [hs]; exact hk j (by omega)
