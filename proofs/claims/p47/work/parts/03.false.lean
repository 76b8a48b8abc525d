/-! THE RUN ITSELF, decided by the kernel -/
set_option maxRecDepth 16384 in
theorem rf_thrown : rf_run start1.p0.tables start1.e0 20000 rf_s = true := (rf_frun_eq _ _ _ _).symm.trans (by decide +kernel)
/-! SO THE ROW IS FALSE -/
theorem rf_falls (c : Jvm.Cond) (Post : Jvm.Tables → Jvm.Env → Array Jvm.Value → Jvm.State → Jvm.Outcome → Jvm.State → Prop)
    (hp : ∀ tb e a s o t, Post tb e a s o t → Jvm.D.postC c tb e a s o t) (hc : ∀ e a s b t, ¬ Jvm.D.postC c start1.p0.tables e a s (.threw b) t) :
    ¬ Jvm.D.ArmFor flags0 classFile x code maxLocals ret World_1 tables_1 room_1 Calls_1 rest_1 Pre_1 Post := by
  intro hA
  obtain ⟨hL, hW, had, -, hcas, hclk, hfr, hfit, hheap, happ, hcalls, hrest, hpre⟩ := rf_start
  obtain ⟨k, o, hin, -, hend, hpost⟩ := hA launch0 rfl hL hW start1.p0 start1.e0 had hcas hclk rf_s ⟨0, 0⟩ start1.args0 Lib.HandBits.below0 hfr hfit hheap happ ⟨hcalls, hrest, hpre⟩
  obtain ⟨n, a, hw, ht⟩ := rf_run_ends _ _ _ _ rf_thrown
  have he : Ended (stepsAlone start1.p0.tables start1.e0 n rf_s) Lib.HandBits.below0 (.threw a) := ht
  have hnk : n = k := by
    rcases Nat.lt_trichotomy n k with h | h | h
    · exact absurd (hin n h) he.not_within
    · exact h
    · exact absurd (hw k h) hend.not_within
  subst hnk
  have ho := he.outcome_unique hend
  subst ho
  exact hc _ _ _ _ _ (hp _ _ _ _ _ _ hpost)
theorem not_claimed_1_1 : ¬ Claimed_1_1 := by
  refine rf_falls limb_1_1 _ (fun _ _ _ _ _ _ h => h.1) (fun e a s b t h => ?_)
  have hv : Jvm.D.postC limb_1_1 start1.p0.tables e a s (.threw b) t = ((some false == some true) = true) := rfl
  rw [hv] at h
  exact absurd h (by decide)
theorem not_owed : ¬ (Claimed_1_1 ∧ Claimed_1_2) := fun h => not_claimed_1_1 h.1
