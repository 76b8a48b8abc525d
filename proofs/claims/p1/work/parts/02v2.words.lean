-- ===== the law's words stand in the tables =====
theorem wl_1 : ∀ w ∈ wsL_law0_r1, w ∈ lw_tbl := by decide +kernel
theorem wl_2 : ∀ w ∈ wsL_law0_r2, w ∈ lw_tbl := by decide +kernel
theorem wl_3 : ∀ w ∈ wsL_law0_r3, w ∈ lw_tbl := by decide +kernel
theorem wl_4 : ∀ w ∈ wsL_law0_r4, w ∈ lw_tbl := by decide +kernel
theorem wl_5 : ∀ w ∈ wsL_law0_r5, w ∈ lw_tbl := by decide +kernel
theorem wl_6 : ∀ w ∈ wsL_law0_r6, w ∈ lw_tbl := by decide +kernel
theorem wl_7 : ∀ w ∈ wsL_law0_r7, w ∈ lw_tbl := by decide +kernel
theorem wl_8 : ∀ w ∈ wsL_law0_r8, w ∈ lw_tbl := by decide +kernel
theorem wl_9 : ∀ w ∈ wsL_law0_r9, w ∈ lw_tbl := by decide +kernel
theorem wl_10 : ∀ w ∈ wsL_law0_r10, w ∈ lw_tbl := by decide +kernel
theorem wl_11 : ∀ w ∈ wsL_law0_r11, w ∈ lw_tbl := by decide +kernel
theorem wl_12 : ∀ w ∈ wsL_law0_r12, w ∈ lw_tbl := by decide +kernel
theorem wl_13 : ∀ w ∈ wsL_law0_r13, w ∈ lw_tbl := by decide +kernel
theorem wl_14 : ∀ w ∈ wsL_law0_r14, w ∈ lw_tbl := by decide +kernel
theorem wl_15 : ∀ w ∈ wsL_law0_r15, w ∈ lw_tbl := by decide +kernel
theorem wl_16 : ∀ w ∈ wsL_law0_r16, w ∈ lw_tbl := by decide +kernel
theorem wl_17 : ∀ w ∈ wsL_law0_r17, w ∈ lw_tbl := by decide +kernel
theorem wl_18 : ∀ w ∈ wsL_law0_r18, w ∈ lw_tbl := by decide +kernel
theorem wl_19 : ∀ w ∈ wsL_law0_r19, w ∈ lw_tbl := by decide +kernel
theorem wl_20 : ∀ w ∈ wsL_law0_r20, w ∈ lw_tbl := by decide +kernel
theorem wl_21 : ∀ w ∈ wsL_law0_r21, w ∈ lw_tbl := by decide +kernel
theorem wl_22 : ∀ w ∈ wsL_law0_r22, w ∈ lw_tbl := by decide +kernel
theorem wl_23 : ∀ w ∈ wsL_law0_r23, w ∈ lw_tbl := by decide +kernel
theorem wl_24 : ∀ w ∈ wsL_law0_r24, w ∈ lw_tbl := by decide +kernel
theorem wl_25 : ∀ w ∈ wsL_law0_r25, w ∈ lw_tbl := by decide +kernel
theorem wl_26 : ∀ w ∈ wsL_law0_r26, w ∈ lw_tbl := by decide +kernel
theorem wl_27 : ∀ w ∈ wsL_law0_r27, w ∈ lw_tbl := by decide +kernel
theorem wl_28 : ∀ w ∈ wsL_law0_r28, w ∈ lw_tbl := by decide +kernel
theorem wl_29 : ∀ w ∈ wsL_law0_r29, w ∈ lw_tbl := by decide +kernel
theorem wl_30 : ∀ w ∈ wsL_law0_r30, w ∈ lw_tbl := by decide +kernel
theorem wl_31 : ∀ w ∈ wsL_law0_r31, w ∈ lw_tbl := by decide +kernel
theorem wl_32 : ∀ w ∈ wsL_law0_r32, w ∈ lw_tbl := by decide +kernel
theorem wl_33 : ∀ w ∈ wsL_law0_r33, w ∈ lw_tbl := by decide +kernel
theorem wl_34 : ∀ w ∈ wsL_law0_r34, w ∈ lw_tbl := by decide +kernel
theorem wl_35 : ∀ w ∈ wsL_law0_r35, w ∈ lw_tbl := by decide +kernel
theorem wl_36 : ∀ w ∈ wsL_law0_r36, w ∈ lw_tbl := by decide +kernel
theorem wl_37 : ∀ w ∈ wsL_law0_r37, w ∈ lw_tbl := by decide +kernel
theorem wl_38 : ∀ w ∈ wsL_law0_r38, w ∈ lw_tbl := by decide +kernel
theorem wl_39 : ∀ w ∈ wsL_law0_r39, w ∈ lw_tbl := by decide +kernel
theorem wl_40 : ∀ w ∈ wsL_law0_r40, w ∈ lw_tbl := by decide +kernel
theorem wl_41 : ∀ w ∈ wsL_law0_r41, w ∈ lw_tbl := by decide +kernel
theorem wl_42 : ∀ w ∈ wsL_law0_r42, w ∈ lw_tbl := by decide +kernel
theorem wl_43 : ∀ w ∈ wsL_law0_r43, w ∈ lw_tbl := by decide +kernel
theorem wl_44 : ∀ w ∈ wsL_law0_r44, w ∈ lw_tbl := by decide +kernel
theorem wl_45 : ∀ w ∈ wsL_law0_r45, w ∈ lw_tbl := by decide +kernel
theorem wl_46 : ∀ w ∈ wsL_law0_r46, w ∈ lw_tbl := by decide +kernel
theorem wl_47 : ∀ w ∈ wsL_law0_r47, w ∈ lw_tbl := by decide +kernel
theorem wl_48 : ∀ w ∈ wsL_law0_r48, w ∈ lw_tbl := by decide +kernel
theorem wl_49 : ∀ w ∈ wsL_law0_r49, w ∈ lw_tbl := by decide +kernel
theorem wl_50 : ∀ w ∈ wsL_law0_r50, w ∈ lw_tbl := by decide +kernel
theorem wl_51 : ∀ w ∈ wsL_law0_r51, w ∈ lw_tbl := by decide +kernel
theorem wl_52 : ∀ w ∈ wsL_law0_r52, w ∈ lw_tbl := by decide +kernel
theorem wl_53 : ∀ w ∈ wsL_law0_r53, w ∈ lw_tbl := by decide +kernel
theorem wl_54 : ∀ w ∈ wsL_law0_r54, w ∈ lw_tbl := by decide +kernel
theorem wl_55 : ∀ w ∈ wsL_law0_r55, w ∈ lw_tbl := by decide +kernel
theorem wl_56 : ∀ w ∈ wsL_law0_r56, w ∈ lw_tbl := by decide +kernel
theorem wl_57 : ∀ w ∈ wsL_law0_r57, w ∈ lw_tbl := by decide +kernel
theorem wl_58 : ∀ w ∈ wsL_law0_r58, w ∈ lw_tbl := by decide +kernel
theorem wl_59 : ∀ w ∈ wsL_law0_r59, w ∈ lw_tbl := by decide +kernel
theorem wl_60 : ∀ w ∈ wsL_law0_r60, w ∈ lw_tbl := by decide +kernel
theorem wsL_law_in0 : ∀ w ∈ wsL_law0, w ∈ lw_tbl := by
  unfold wsL_law0
  exact List.forall_mem_append.mpr ⟨wl_1, List.forall_mem_append.mpr ⟨wl_2, List.forall_mem_append.mpr ⟨wl_3, List.forall_mem_append.mpr ⟨wl_4, List.forall_mem_append.mpr ⟨wl_5, List.forall_mem_append.mpr ⟨wl_6, List.forall_mem_append.mpr ⟨wl_7, List.forall_mem_append.mpr ⟨wl_8, List.forall_mem_append.mpr ⟨wl_9, List.forall_mem_append.mpr ⟨wl_10, List.forall_mem_append.mpr ⟨wl_11, List.forall_mem_append.mpr ⟨wl_12, List.forall_mem_append.mpr ⟨wl_13, List.forall_mem_append.mpr ⟨wl_14, List.forall_mem_append.mpr ⟨wl_15, List.forall_mem_append.mpr ⟨wl_16, List.forall_mem_append.mpr ⟨wl_17, List.forall_mem_append.mpr ⟨wl_18, List.forall_mem_append.mpr ⟨wl_19, List.forall_mem_append.mpr ⟨wl_20, List.forall_mem_append.mpr ⟨wl_21, List.forall_mem_append.mpr ⟨wl_22, List.forall_mem_append.mpr ⟨wl_23, List.forall_mem_append.mpr ⟨wl_24, List.forall_mem_append.mpr ⟨wl_25, List.forall_mem_append.mpr ⟨wl_26, List.forall_mem_append.mpr ⟨wl_27, List.forall_mem_append.mpr ⟨wl_28, List.forall_mem_append.mpr ⟨wl_29, List.forall_mem_append.mpr ⟨wl_30, List.forall_mem_append.mpr ⟨wl_31, List.forall_mem_append.mpr ⟨wl_32, List.forall_mem_append.mpr ⟨wl_33, List.forall_mem_append.mpr ⟨wl_34, List.forall_mem_append.mpr ⟨wl_35, List.forall_mem_append.mpr ⟨wl_36, List.forall_mem_append.mpr ⟨wl_37, List.forall_mem_append.mpr ⟨wl_38, List.forall_mem_append.mpr ⟨wl_39, List.forall_mem_append.mpr ⟨wl_40, List.forall_mem_append.mpr ⟨wl_41, List.forall_mem_append.mpr ⟨wl_42, List.forall_mem_append.mpr ⟨wl_43, List.forall_mem_append.mpr ⟨wl_44, List.forall_mem_append.mpr ⟨wl_45, List.forall_mem_append.mpr ⟨wl_46, List.forall_mem_append.mpr ⟨wl_47, List.forall_mem_append.mpr ⟨wl_48, List.forall_mem_append.mpr ⟨wl_49, List.forall_mem_append.mpr ⟨wl_50, List.forall_mem_append.mpr ⟨wl_51, List.forall_mem_append.mpr ⟨wl_52, List.forall_mem_append.mpr ⟨wl_53, List.forall_mem_append.mpr ⟨wl_54, List.forall_mem_append.mpr ⟨wl_55, List.forall_mem_append.mpr ⟨wl_56, List.forall_mem_append.mpr ⟨wl_57, List.forall_mem_append.mpr ⟨wl_58, List.forall_mem_append.mpr ⟨wl_59, wl_60⟩⟩⟩⟩⟩⟩⟩⟩⟩⟩⟩⟩⟩⟩⟩⟩⟩⟩⟩⟩⟩⟩⟩⟩⟩⟩⟩⟩⟩⟩⟩⟩⟩⟩⟩⟩⟩⟩⟩⟩⟩⟩⟩⟩⟩⟩⟩⟩⟩⟩⟩⟩⟩⟩⟩⟩⟩⟩⟩
theorem wsL_law_in : ∀ w ∈ wsL_law, w ∈ lw_tbl := fun w h => (List.mem_append.mp h).elim (fun h => (List.mem_append.mp h).elim (fun h => (List.mem_append.mp h).elim (fun h => (List.mem_append.mp h).elim (fun h => (List.mem_append.mp h).elim (fun h => (List.mem_append.mp h).elim (fun h => (List.mem_append.mp h).elim (fun h => (List.mem_append.mp h).elim (fun h => wsL_law_in0 w h) (fun h => wsL_law_x0 w h)) (fun h => wsL_law_x1 w h)) (fun h => wsL_law_x2 w h)) (fun h => wsL_law_x3 w h)) (fun h => wsL_law_x4 w h)) (fun h => wsL_law_x5 w h)) (fun h => wsL_law_x6 w h)) (fun h => wsL_law_x7 w h)
theorem inX0 : ∀ w ∈ wsX00, w ∈ lw_tbl := fun w h => wsL_law_in w (inlX0 w h)
theorem inX1 : ∀ w ∈ wsX10, w ∈ lw_tbl := fun w h => wsL_law_in w (inlX1 w h)
theorem inX2 : ∀ w ∈ wsX20, w ∈ lw_tbl := fun w h => wsL_law_in w (inlX2 w h)
theorem inX3 : ∀ w ∈ wsX30, w ∈ lw_tbl := fun w h => wsL_law_in w (inlX3 w h)
theorem inX4 : ∀ w ∈ wsX40, w ∈ lw_tbl := fun w h => wsL_law_in w (inlX4 w h)
theorem inX5 : ∀ w ∈ wsX50, w ∈ lw_tbl := fun w h => wsL_law_in w (inlX5 w h)
theorem inX6 : ∀ w ∈ wsX60, w ∈ lw_tbl := fun w h => wsL_law_in w (inlX6 w h)
theorem inX7 : ∀ w ∈ wsX70, w ∈ lw_tbl := fun w h => wsL_law_in w (inlX7 w h)
theorem inX8 : ∀ w ∈ wsX80, w ∈ lw_tbl := fun w h => wsL_law_in w (inlX8 w h)
theorem inX9 : ∀ w ∈ wsX90, w ∈ lw_tbl := fun w h => wsL_law_in w (inlX9 w h)
theorem inX10 : ∀ w ∈ wsX100, w ∈ lw_tbl := fun w h => wsL_law_in w (inlX10 w h)
theorem inX11 : ∀ w ∈ wsX110, w ∈ lw_tbl := fun w h => wsL_law_in w (inlX11 w h)
theorem inX12 : ∀ w ∈ wsX120, w ∈ lw_tbl := fun w h => wsL_law_in w (inlX12 w h)
theorem inX13 : ∀ w ∈ wsX130, w ∈ lw_tbl := fun w h => wsL_law_in w (inlX13 w h)
theorem inJ0 : ∀ w ∈ wsJ00, w ∈ lw_tbl := fun w h => wsL_law_in w (inlJ0 w h)
theorem inJx35411 : ∀ w ∈ wsJx354110, w ∈ lw_tbl := fun w h => wsL_law_in w (inlJx35411 w h)
theorem inJx4a65c : ∀ w ∈ wsJx4a65c0, w ∈ lw_tbl := fun w h => wsL_law_in w (inlJx4a65c w h)
set_option maxRecDepth 100000 in
theorem k_start {s : State} {b : Nat} (hts : ∀ w ∈ lw_tbl, w.before #[Value.ref b] s = true) : ∃ D : va_G, va_K D vwCl [] s := by
  obtain ⟨c0, i0, hk0⟩ := u_known (C := RJ0) (T := TJ0) (N := 2) (n := 4) hts inJ0 (hts (.instantiable RJ0 4) (by decide +kernel))
  obtain ⟨c1, i1, hk1⟩ := u_known (C := RJx00060) (T := TJx00060) (N := 6) (n := 6) hts inJx00060 (hts (.instantiable RJx00060 6) (by decide +kernel))
  obtain ⟨c2, i2, hk2⟩ := u_known (C := RJx35411) (T := TJx35411) (N := 4) (n := 4) hts inJx35411 (hts (.instantiable RJx35411 4) (by decide +kernel))
  obtain ⟨c3, i3, hk3⟩ := u_known (C := RJx4a65c) (T := TJx4a65c) (N := 3) (n := 3) hts inJx4a65c (hts (.instantiable RJx4a65c 3) (by decide +kernel))
  obtain ⟨c4, i4, hk4⟩ := u_known (C := RX0) (T := TX0) (N := 7) (n := 7) hts inX0 (hts (.instantiable RX0 7) (by decide +kernel))
  obtain ⟨c5, i5, hk5⟩ := u_known (C := RX1) (T := TX1) (N := 4) (n := 4) hts inX1 (hts (.instantiable RX1 4) (by decide +kernel))
  obtain ⟨c6, i6, hk6⟩ := u_known (C := RX2) (T := TX2) (N := 2) (n := 2) hts inX2 (hts (.instantiable RX2 2) (by decide +kernel))
  obtain ⟨c7, i7, hk7⟩ := u_known (C := RX3) (T := TX3) (N := 3) (n := 3) hts inX3 (hts (.instantiable RX3 3) (by decide +kernel))
  obtain ⟨c8, i8, hk8⟩ := u_known (C := RX4) (T := TX4) (N := 4) (n := 4) hts inX4 (hts (.instantiable RX4 4) (by decide +kernel))
  obtain ⟨c9, i9, hk9⟩ := u_known (C := RX5) (T := TX5) (N := 5) (n := 5) hts inX5 (hts (.instantiable RX5 5) (by decide +kernel))
  obtain ⟨c10, i10, hk10⟩ := u_known (C := RX6) (T := TX6) (N := 4) (n := 4) hts inX6 (hts (.instantiable RX6 4) (by decide +kernel))
  obtain ⟨c11, i11, hk11⟩ := u_known (C := RX7) (T := TX7) (N := 8) (n := 8) hts inX7 (hts (.instantiable RX7 8) (by decide +kernel))
  obtain ⟨c12, i12, hk12⟩ := u_known (C := RX8) (T := TX8) (N := 13) (n := 13) hts inX8 (hts (.instantiable RX8 13) (by decide +kernel))
  obtain ⟨c13, i13, hk13⟩ := u_known (C := RX9) (T := TX9) (N := 14) (n := 14) hts inX9 (hts (.instantiable RX9 14) (by decide +kernel))
  obtain ⟨c14, i14, hk14⟩ := u_known (C := RX10) (T := TX10) (N := 4) (n := 4) hts inX10 (hts (.instantiable RX10 4) (by decide +kernel))
  obtain ⟨c15, i15, hk15⟩ := u_known (C := RX11) (T := TX11) (N := 7) (n := 7) hts inX11 (hts (.instantiable RX11 7) (by decide +kernel))
  obtain ⟨c16, i16, hk16⟩ := u_known (C := RX12) (T := TX12) (N := 14) (n := 14) hts inX12 (hts (.instantiable RX12 14) (by decide +kernel))
  obtain ⟨c17, i17, hk17⟩ := u_known (C := RX13) (T := TX13) (N := 13) (n := 13) hts inX13 (hts (.instantiable RX13 13) (by decide +kernel))
  refine ⟨(fun k => [c0, c1, c2, c3, c4, c5, c6, c7, c8, c9, c10, c11, c12, c13, c14, c15, c16, c17].getD k c0, fun k => [i0, i1, i2, i3, i4, i5, i6, i7, i8, i9, i10, i11, i12, i13, i14, i15, i16, i17].getD k i0), fun k q hq => ?_, fun k q h => by simp at h⟩
  match k, hq with
  | 0, hq => cases hq; exact hk0
  | 1, hq => cases hq; exact hk1
  | 2, hq => cases hq; exact hk2
  | 3, hq => cases hq; exact hk3
  | 4, hq => cases hq; exact hk4
  | 5, hq => cases hq; exact hk5
  | 6, hq => cases hq; exact hk6
  | 7, hq => cases hq; exact hk7
  | 8, hq => cases hq; exact hk8
  | 9, hq => cases hq; exact hk9
  | 10, hq => cases hq; exact hk10
  | 11, hq => cases hq; exact hk11
  | 12, hq => cases hq; exact hk12
  | 13, hq => cases hq; exact hk13
  | 14, hq => cases hq; exact hk14
  | 15, hq => cases hq; exact hk15
  | 16, hq => cases hq; exact hk16
  | 17, hq => cases hq; exact hk17
  | k + 18, hq => simp [vwCl] at hq
