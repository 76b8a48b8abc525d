set_option maxRecDepth 100000 in
theorem g0_start {s : State} {b : Nat} (hts : ∀ w ∈ lw_tbl, w.before #[Value.ref b] s = true) (hgv : (Jvm.Cond.and given_1 narrow_1).before #[Value.ref b] s = true) : ∃ tC tE : Nat, G0 tC tE (fun q : Nat => s.heap.size ≤ q) s := by
  have hN := flat_of_before _ hgv
  have hA : ∀ a : Nat, a < s.heap.size → ¬ (fun q : Nat => s.heap.size ≤ q) a := fun a h => Nat.not_le.mpr h
  obtain ⟨tC, eC, hTC⟩ := va_Tof (s := s) (args := #[Value.ref b]) (tm := (.static "Lastroom" "CAUSES" "[C")) (ty := .char) (N := 5) (f := gx_fC) (A := fun q : Nat => s.heap.size ≤ q) (by decide) (hN (.arrayOf (.static "Lastroom" "CAUSES" "[C") .char) (by decide +kernel)) (va_eqt (hN (.eq (.length (.static "Lastroom" "CAUSES" "[C")) (.int 5)) (by decide +kernel))) (fun j hj => by
    rcases (show j = 0 ∨ j = 1 ∨ j = 2 ∨ j = 3 ∨ j = 4 by omega) with rfl | rfl | rfl | rfl | rfl
    · exact va_eqt (hN (.eq (.elem (.static "Lastroom" "CAUSES" "[C") (.int 0)) (.int 104)) (by decide +kernel))
    · exact va_eqt (hN (.eq (.elem (.static "Lastroom" "CAUSES" "[C") (.int 1)) (.int 107)) (by decide +kernel))
    · exact va_eqt (hN (.eq (.elem (.static "Lastroom" "CAUSES" "[C") (.int 2)) (.int 115)) (by decide +kernel))
    · exact va_eqt (hN (.eq (.elem (.static "Lastroom" "CAUSES" "[C") (.int 3)) (.int 103)) (by decide +kernel))
    · exact va_eqt (hN (.eq (.elem (.static "Lastroom" "CAUSES" "[C") (.int 4)) (.int 122)) (by decide +kernel))) hA
  obtain ⟨tE, eE, hTE⟩ := va_Tof (s := s) (args := #[Value.ref b]) (tm := (.static "java/util/ArrayList" "DEFAULTCAPACITY_EMPTY_ELEMENTDATA" "[Ljava/lang/Object;")) (ty := .object "java/lang/Object") (N := 0) (f := fun _ => .null) (A := fun q : Nat => s.heap.size ≤ q) (by decide) (hN (.arrayOf (.static "java/util/ArrayList" "DEFAULTCAPACITY_EMPTY_ELEMENTDATA" "[Ljava/lang/Object;") (.object "java/lang/Object")) (by decide +kernel)) (va_eqt (hN (.eq (.length (.static "java/util/ArrayList" "DEFAULTCAPACITY_EMPTY_ELEMENTDATA" "[Ljava/lang/Object;")) (.int 0)) (by decide +kernel))) (fun j hj => absurd hj (Nat.not_lt_zero _)) hA
  have sR : ∀ q ∈ gx_strs, Cond.stringRef q.1 q.2.1 q.2.2 ∈ lw_tbl := by decide +kernel
  have sX : ∀ q ∈ gx_strs, Cond.exactly (.string q.1 q.2.1) "java/lang/String" ∈ flatC (Jvm.Cond.and given_1 narrow_1) := by decide +kernel
  have sA : ∀ C ∈ gx_aos, Cond.arrayOver (.object C) ∈ lw_tbl := by decide +kernel
  have sF : ∀ q ∈ gx_fws, Cond.declares q.2.1 ∈ lw_tbl ∧ Cond.interfaceMethod q.2.1.cls q.2.1.cls q.2.1.name q.2.1.desc ∈ lw_tbl ∧ Cond.publicMethod q.2.2 ∈ lw_tbl ∧ Cond.unhidden q.1 q.2.1.name q.2.1.desc ∈ lw_tbl ∧ Cond.castable q.1 q.2.1.cls ∈ lw_tbl := by decide +kernel
  have sN : ∀ q ∈ gx_ncs, Cond.not (.castable q.1 q.2) ∈ flatC (Jvm.Cond.and given_1 narrow_1) := by decide +kernel
  have sC : ∀ q ∈ gx_cas, Cond.castable q.1 q.2 ∈ lw_tbl := by decide +kernel
  have sD : ∀ y ∈ gx_dcl, Cond.declares y ∈ lw_tbl := by decide +kernel
  refine ⟨tC, tE, vx_Zqof (args := #[Value.ref b]) (hts (.laysStatic Bundle.tN "UNASSIGNED_STACK" Bundle.steD) (by decide +kernel)) (hts (.initialized Bundle.tN) (by decide +kernel)) (hN (.isRef (.static Bundle.tN "UNASSIGNED_STACK" Bundle.steD)) (by decide +kernel)) hA,
    vx_Zqof (args := #[Value.ref b]) (hts (.laysStatic Bundle.tN "SUPPRESSED_SENTINEL" Bundle.listD) (by decide +kernel)) (hts (.initialized Bundle.tN) (by decide +kernel)) (hN (.isRef (.static Bundle.tN "SUPPRESSED_SENTINEL" Bundle.listD)) (by decide +kernel)) hA,
    va_Zof (args := #[Value.ref b]) (hts (.laysStatic "Lastroom" "CAUSES" "[C") (by decide +kernel)) (hts (.initialized "Lastroom") (by decide +kernel)) eC hA, hTC,
    va_Zof (args := #[Value.ref b]) (hts (.laysStatic "java/util/ArrayList" "DEFAULTCAPACITY_EMPTY_ELEMENTDATA" "[Ljava/lang/Object;") (by decide +kernel)) (hts (.initialized "java/util/ArrayList") (by decide +kernel)) eE hA, hTE, ?_⟩
  refine ⟨fun q hq => ?_, fun C hC => va_AO.of (hts _ (sA C hC)), fun q hq => ?_, fun q hq => va_Nc.of (hN _ (sN q hq)), fun q hq => va_Nw.of rfl (hts _ (sC q hq)), va_Nw.of rfl (hts _ (by decide +kernel)), fun y hy => va_Nw.of rfl (hts _ (sD y hy)), va_Nw.of rfl (hts _ (by decide +kernel))⟩
  · obtain ⟨a, _, _, _, q1, -⟩ := Cond.exactly_spec (args := #[Value.ref b]) (first := s) (o := none) (s := s) (idx := []) (hN _ (sX q hq))
    exact ⟨a, vk_R.of (hts _ (sR q hq)) q1⟩
  · obtain ⟨f1, f2, f3, f4, f5⟩ := sF q hq
    exact va_Fw.of (hts _ f1) (hts _ f2) (hts _ f3) (hts _ f4) (hts _ f5)
theorem and63 (a : Int32) : ∃ j : Nat, j < 64 ∧ a &&& 63 = nI j := by
  refine ⟨(a &&& 63).toBitVec.toNat, ?_, ?_⟩
  · show (a.toBitVec &&& (63 : Int32).toBitVec).toNat < 64
    rw [BitVec.toNat_and]
    exact Nat.lt_of_le_of_lt Nat.and_le_right (by decide)
  · apply Int32.toBitVec_inj.mp
    show _ = BitVec.ofNat 32 _
    rw [BitVec.ofNat_toNat, BitVec.setWidth_eq]
