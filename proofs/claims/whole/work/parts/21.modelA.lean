set_option maxRecDepth 100000 in
set_option maxHeartbeats 4000000 in
theorem c_X5_within (l : Launch) (G : lc_G) (σ : lc_S) (v lo hi : Int32) : lc_M l G yX5_within cX5_within 3 (some .boolean) { frames := 0, cells := 0, slots := 0, locals := 0 } [.int (v), .int (lo), .int (hi)] (σ) (some (.int (lc_bi (sp_win v lo hi)))) (σ) := by
  refine lc_entry [(0, .int (v)), (1, .int (lo)), (2, .int (hi))] (by decide) (Nat.le_of_ble_eq_true rfl) rfl rfl rfl ?_
  intro Γ hR
  refine lc_iload_n 0 dX5_within_0 rfl ?_
  refine lc_iload_n 1 dX5_within_1 rfl ?_
  refine lc_icmp_lt 14 dX5_within_2 (by decide) (fun c_1 => ?_) (fun c_1 => ?_)
  · skip
    refine lc_iconst (v := 0) dX5_within_14 (by decide) ?_
    exact lc_zret hR dX5_within_15 (by simp [sp_win, lc_bi, c_1]) (rfl)
  · skip
    refine lc_iload_n 0 dX5_within_5 rfl ?_
    refine lc_iload_n 2 dX5_within_6 rfl ?_
    refine lc_icmp_gt 14 dX5_within_7 (by decide) (fun c_2 => ?_) (fun c_2 => ?_)
    · skip
      refine lc_iconst (v := 0) dX5_within_14 (by decide) ?_
      exact lc_zret hR dX5_within_15 (by simp [sp_win, lc_bi, c_1, c_2]) (rfl)
    · skip
      refine lc_iconst (v := 1) dX5_within_10 (by decide) ?_
      refine lc_goto 15 dX5_within_11 (by decide) ?_
      exact lc_zret hR dX5_within_15 (by simp [sp_win, lc_bi, c_1, c_2]) (rfl)

set_option maxRecDepth 100000 in
set_option maxHeartbeats 4000000 in
theorem c_X5_isIn (l : Launch) (G : lc_G) (σ : lc_S) (b k : Int32) : lc_M l G yX5_isIn cX5_isIn 2 (some .boolean) { frames := 0, cells := 0, slots := 0, locals := 0 } [.int (b), .int (k)] (σ) (some (.int (lc_bi (sp_bit b k)))) (σ) := by
  refine lc_entry [(0, .int (b)), (1, .int (k))] (by decide) (Nat.le_of_ble_eq_true rfl) rfl rfl rfl ?_
  intro Γ hR
  refine lc_iload_n 0 dX5_isIn_0 rfl ?_
  refine lc_iload_n 1 dX5_isIn_1 rfl ?_
  refine lc_ishr dX5_isIn_2 ?_
  refine lc_iconst (v := 1) dX5_isIn_3 (by decide) ?_
  refine lc_iand dX5_isIn_4 ?_
  refine lc_iconst (v := 1) dX5_isIn_5 (by decide) ?_
  refine lc_icmp_ne 13 dX5_isIn_6 (by decide) (fun c_1 => ?_) (fun c_1 => ?_)
  · skip
    refine lc_iconst (v := 0) dX5_isIn_13 (by decide) ?_
    exact lc_zret hR dX5_isIn_14 (by simp [sp_bit, lc_bi, c_1]) (rfl)
  · skip
    refine lc_iconst (v := 1) dX5_isIn_9 (by decide) ?_
    refine lc_goto 14 dX5_isIn_10 (by decide) ?_
    exact lc_zret hR dX5_isIn_14 (by simp [sp_bit, lc_bi, c_1]) (rfl)

set_option maxRecDepth 100000 in
set_option maxHeartbeats 4000000 in
theorem c_X5_size (l : Launch) (G : lc_G) (σ : lc_S) (v : Int32) : lc_M l G yX5_size cX5_size 1 (some .int) { frames := 0, cells := 0, slots := 0, locals := 0 } [.int (v)] (σ) (some (.int (sp_abs v))) (σ) := by
  refine lc_entry [(0, .int (v))] (by decide) (Nat.le_of_ble_eq_true rfl) rfl rfl rfl ?_
  intro Γ hR
  refine lc_iload_n 0 dX5_size_0 rfl ?_
  refine lc_if_ge 9 dX5_size_1 (by decide) (fun c_1 => ?_) (fun c_1 => ?_)
  · skip
    refine lc_iload_n 0 dX5_size_9 rfl ?_
    exact lc_iret hR dX5_size_10 (by simp [sp_abs, lc_bi, c_1]) (rfl)
  · skip
    refine lc_iload_n 0 dX5_size_4 rfl ?_
    refine lc_ineg dX5_size_5 ?_
    refine lc_goto 10 dX5_size_6 (by decide) ?_
    exact lc_iret hR dX5_size_10 (by simp [sp_abs, lc_bi, c_1]) (rfl)

set_option maxRecDepth 100000 in
set_option maxHeartbeats 4000000 in
theorem c_X5_clear (l : Launch) (G : lc_G) (σ : lc_S) (x : lc_X) (i : Nat) (hi : i < 24) : lc_M l G yX5_clear cX5_clear 2 none { frames := 0, cells := 0, slots := 0, locals := 0 } [.ref (G.1 (14)), .int (nI i)] (lc_w σ 2 x) none (lc_w σ 2 ((sp_none x.1 i, x.2))) := by
  refine lc_entry [(0, .ref (G.1 (14))), (1, .int (nI i))] (by decide) (Nat.le_of_ble_eq_true rfl) rfl rfl rfl ?_
  intro Γ hR
  refine lc_aload_n 0 dX5_clear_0 rfl ?_
  refine lc_g_msort fl_X5_19 dX5_clear_1 ?_
  refine lc_iload_n 1 dX5_clear_4 rfl ?_
  refine lc_iconst (v := 0) dX5_clear_5 (by decide) ?_
  refine lc_sc_msort i (rfl) (by omega) dX5_clear_6 ?_
  refine lc_aload_n 0 dX5_clear_7 rfl ?_
  refine lc_g_mvalue fl_X5_22 dX5_clear_8 ?_
  refine lc_iload_n 1 dX5_clear_11 rfl ?_
  refine lc_iconst (v := (-1)) dX5_clear_12 (by decide) ?_
  refine lc_sc_mvalue i (rfl) (by omega) dX5_clear_13 ?_
  refine lc_aload_n 0 dX5_clear_14 rfl ?_
  refine lc_g_mstamp fl_X5_25 dX5_clear_15 ?_
  refine lc_iload_n 1 dX5_clear_18 rfl ?_
  refine lc_iconst (v := (-1)) dX5_clear_19 (by decide) ?_
  refine lc_sc_mstamp i (rfl) (by omega) dX5_clear_20 ?_
  refine lc_aload_n 0 dX5_clear_21 rfl ?_
  refine lc_g_mactive fl_X5_28 dX5_clear_22 ?_
  refine lc_iload_n 1 dX5_clear_25 rfl ?_
  refine lc_iconst (v := (-1)) dX5_clear_26 (by decide) ?_
  refine lc_sc_mactive i (rfl) (by omega) dX5_clear_27 ?_
  refine lc_aload_n 0 dX5_clear_28 rfl ?_
  refine lc_g_mkeepers fl_X5_31 dX5_clear_29 ?_
  refine lc_iload_n 1 dX5_clear_32 rfl ?_
  refine lc_iconst (v := (-1)) dX5_clear_33 (by decide) ?_
  refine lc_sc_mkeepers i (rfl) (by omega) dX5_clear_34 ?_
  refine lc_aload_n 0 dX5_clear_35 rfl ?_
  refine lc_g_mheat fl_X5_34 dX5_clear_36 ?_
  refine lc_iload_n 1 dX5_clear_39 rfl ?_
  refine lc_iconst (v := 0) dX5_clear_40 (by decide) ?_
  refine lc_sc_mheat i (rfl) (by omega) dX5_clear_41 ?_
  exact lc_vret hR dX5_clear_42 (rfl)

set_option maxRecDepth 100000 in
set_option maxHeartbeats 4000000 in
theorem c_X5_isDormant (l : Launch) (G : lc_G) (σ : lc_S) (x : lc_X) (i : Nat) (hi : i < 24) : lc_M l G yX5_isDormant cX5_isDormant 2 (some .boolean) { frames := 0, cells := 0, slots := 0, locals := 0 } [.ref (G.1 (14)), .int (nI i)] (lc_w σ 2 x) (some (.int (lc_bi (sp_dor x.1 i)))) (lc_w σ 2 x) := by
  refine lc_entry [(0, .ref (G.1 (14))), (1, .int (nI i))] (by decide) (Nat.le_of_ble_eq_true rfl) rfl rfl rfl ?_
  intro Γ hR
  refine lc_aload_n 0 dX5_isDormant_0 rfl ?_
  refine lc_g_msort fl_X5_19 dX5_isDormant_1 ?_
  refine lc_iload_n 1 dX5_isDormant_4 rfl ?_
  refine lc_iald (f := x.1 0) (18) i (by omega) (rfl) (rfl) (by omega) (by decide) dX5_isDormant_5 ?_
  refine lc_iconst (v := 2) dX5_isDormant_6 (by decide) ?_
  refine lc_icmp_ne 34 dX5_isDormant_7 (by decide) (fun c_1 => ?_) (fun c_1 => ?_)
  · skip
    refine lc_iconst (v := 0) dX5_isDormant_34 (by decide) ?_
    exact lc_zret hR dX5_isDormant_35 (by simp [sp_dor, lc_bi, c_1]) (rfl)
  · skip
    refine lc_aload_n 0 dX5_isDormant_10 rfl ?_
    refine lc_gMNow fl_X5_62 dX5_isDormant_11 ?_
    refine lc_aload_n 0 dX5_isDormant_14 rfl ?_
    refine lc_g_mactive fl_X5_28 dX5_isDormant_15 ?_
    refine lc_iload_n 1 dX5_isDormant_18 rfl ?_
    refine lc_iald (f := x.1 3) (21) i (by omega) (rfl) (rfl) (by omega) (by decide) dX5_isDormant_19 ?_
    refine lc_isub dX5_isDormant_20 ?_
    refine lc_aload_n 0 dX5_isDormant_21 rfl ?_
    refine lc_g_mtold fl_X5_16 dX5_isDormant_22 ?_
    refine lc_iconst (v := 0) dX5_isDormant_25 (by decide) ?_
    refine lc_iald (f := x.1 6) (17) 0 (by omega) (rfl) (rfl) (by omega) (by decide) dX5_isDormant_26 ?_
    refine lc_icmp_le 34 dX5_isDormant_27 (by decide) (fun c_2 => ?_) (fun c_2 => ?_)
    · skip
      refine lc_iconst (v := 0) dX5_isDormant_34 (by decide) ?_
      exact lc_zret hR dX5_isDormant_35 (by simp [sp_dor, lc_bi, c_1, c_2]) (rfl)
    · skip
      refine lc_iconst (v := 1) dX5_isDormant_30 (by decide) ?_
      refine lc_goto 35 dX5_isDormant_31 (by decide) ?_
      exact lc_zret hR dX5_isDormant_35 (by simp [sp_dor, lc_bi, c_1, c_2]) (rfl)

set_option maxRecDepth 100000 in
set_option maxHeartbeats 4000000 in
theorem c_X5_isAwake (l : Launch) (G : lc_G) (σ : lc_S) (x : lc_X) (i : Nat) (hi : i < 24) : lc_M l G yX5_isAwake cX5_isAwake 2 (some .boolean) { frames := 1, cells := 0, slots := 0, locals := 21 } [.ref (G.1 (14)), .int (nI i)] (lc_w σ 2 x) (some (.int (lc_bi (sp_awM x.1 i)))) (lc_w σ 2 x) := by
  refine lc_entry [(0, .ref (G.1 (14))), (1, .int (nI i))] (by decide) (Nat.le_of_ble_eq_true rfl) rfl rfl rfl ?_
  intro Γ hR
  refine lc_aload_n 0 dX5_isAwake_0 rfl ?_
  refine lc_g_msort fl_X5_19 dX5_isAwake_1 ?_
  refine lc_iload_n 1 dX5_isAwake_4 rfl ?_
  refine lc_iald (f := x.1 0) (18) i (by omega) (rfl) (rfl) (by omega) (by decide) dX5_isAwake_5 ?_
  refine lc_if_eq 21 dX5_isAwake_6 (by decide) (fun c_1 => ?_) (fun c_1 => ?_)
  · skip
    refine lc_iconst (v := 0) dX5_isAwake_21 (by decide) ?_
    exact lc_zret hR dX5_isAwake_22 (by simp [sp_awM, lc_bi, c_1]) (rfl)
  · skip
    refine lc_aload_n 0 dX5_isAwake_9 rfl ?_
    refine lc_iload_n 1 dX5_isAwake_10 rfl ?_
    refine lc_callV (14) (c_X5_isDormant l G σ x i (by omega)) hR.2.2.2.1 hR.2.2.2.2 mt_X5_isDormant (by omega) (rfl) rfl ml_X5_80 rfl rfl (Nat.le_of_ble_eq_true rfl) ⟨⟨rfl, rfl⟩, Nat.le_of_ble_eq_true rfl, Nat.le_of_ble_eq_true rfl⟩ dX5_isAwake_11 ?_
    show lc_V _ _ _ _ _ 14 _ [.int (lc_bi (sp_dor x.1 i))] (lc_w σ 2 x)
    refine lc_ifb_ne 21 dX5_isAwake_14 (by decide) (fun c_2 => ?_) (fun c_2 => ?_)
    · skip
      refine lc_iconst (v := 0) dX5_isAwake_21 (by decide) ?_
      exact lc_zret hR dX5_isAwake_22 (by simp [sp_awM, lc_bi, c_1, c_2]) (rfl)
    · skip
      refine lc_iconst (v := 1) dX5_isAwake_17 (by decide) ?_
      refine lc_goto 22 dX5_isAwake_18 (by decide) ?_
      exact lc_zret hR dX5_isAwake_22 (by simp [sp_awM, lc_bi, c_1, c_2]) (rfl)

set_option maxRecDepth 100000 in
set_option maxHeartbeats 4000000 in
theorem c_X5_isRecent (l : Launch) (G : lc_G) (σ : lc_S) (x : lc_X) (i : Nat) (hi : i < 24) : lc_M l G yX5_isRecent cX5_isRecent 2 (some .boolean) { frames := 2, cells := 0, slots := 0, locals := 42 } [.ref (G.1 (14)), .int (nI i)] (lc_w σ 2 x) (some (.int (lc_bi (sp_recM x.1 i)))) (lc_w σ 2 x) := by
  refine lc_entry [(0, .ref (G.1 (14))), (1, .int (nI i))] (by decide) (Nat.le_of_ble_eq_true rfl) rfl rfl rfl ?_
  intro Γ hR
  refine lc_aload_n 0 dX5_isRecent_0 rfl ?_
  refine lc_iload_n 1 dX5_isRecent_1 rfl ?_
  refine lc_callV (14) (c_X5_isAwake l G σ x i (by omega)) hR.2.2.2.1 hR.2.2.2.2 mt_X5_isAwake (by omega) (rfl) rfl ml_X5_114 rfl rfl (Nat.le_of_ble_eq_true rfl) ⟨⟨rfl, rfl⟩, Nat.le_of_ble_eq_true rfl, Nat.le_of_ble_eq_true rfl⟩ dX5_isRecent_2 ?_
  show lc_V _ _ _ _ _ 5 _ [.int (lc_bi (sp_awM x.1 i))] (lc_w σ 2 x)
  refine lc_ifb_eq 32 dX5_isRecent_5 (by decide) (fun c_1 => ?_) (fun c_1 => ?_)
  · skip
    refine lc_iconst (v := 0) dX5_isRecent_32 (by decide) ?_
    exact lc_zret hR dX5_isRecent_33 (by simp [sp_recM, lc_bi, c_1]) (rfl)
  · skip
    refine lc_aload_n 0 dX5_isRecent_8 rfl ?_
    refine lc_gMNow fl_X5_62 dX5_isRecent_9 ?_
    refine lc_aload_n 0 dX5_isRecent_12 rfl ?_
    refine lc_g_mactive fl_X5_28 dX5_isRecent_13 ?_
    refine lc_iload_n 1 dX5_isRecent_16 rfl ?_
    refine lc_iald (f := x.1 3) (21) i (by omega) (rfl) (rfl) (by omega) (by decide) dX5_isRecent_17 ?_
    refine lc_isub dX5_isRecent_18 ?_
    refine lc_aload_n 0 dX5_isRecent_19 rfl ?_
    refine lc_g_mtold fl_X5_16 dX5_isRecent_20 ?_
    refine lc_iconst (v := 3) dX5_isRecent_23 (by decide) ?_
    refine lc_iald (f := x.1 6) (17) 3 (by omega) (rfl) (rfl) (by omega) (by decide) dX5_isRecent_24 ?_
    refine lc_icmp_ge 32 dX5_isRecent_25 (by decide) (fun c_2 => ?_) (fun c_2 => ?_)
    · skip
      refine lc_iconst (v := 0) dX5_isRecent_32 (by decide) ?_
      exact lc_zret hR dX5_isRecent_33 (by simp [sp_recM, lc_bi, c_1, c_2]) (rfl)
    · skip
      refine lc_iconst (v := 1) dX5_isRecent_28 (by decide) ?_
      refine lc_goto 33 dX5_isRecent_29 (by decide) ?_
      exact lc_zret hR dX5_isRecent_33 (by simp [sp_recM, lc_bi, c_1, c_2]) (rfl)

set_option maxRecDepth 100000 in
set_option maxHeartbeats 4000000 in
theorem c_X5_isNewer (l : Launch) (G : lc_G) (σ : lc_S) (x : lc_X) (i k : Nat) (hi : i < 24) (hk : k < 24) : lc_M l G yX5_isNewer cX5_isNewer 3 (some .boolean) { frames := 0, cells := 0, slots := 0, locals := 0 } [.ref (G.1 (14)), .int (nI i), .int (nI k)] (lc_w σ 2 x) (some (.int (lc_bi (sp_new x.1 i k)))) (lc_w σ 2 x) := by
  refine lc_entry [(0, .ref (G.1 (14))), (1, .int (nI i)), (2, .int (nI k))] (by decide) (Nat.le_of_ble_eq_true rfl) rfl rfl rfl ?_
  intro Γ hR
  refine lc_aload_n 0 dX5_isNewer_0 rfl ?_
  refine lc_g_mstamp fl_X5_25 dX5_isNewer_1 ?_
  refine lc_iload_n 1 dX5_isNewer_4 rfl ?_
  refine lc_iald (f := x.1 2) (20) i (by omega) (rfl) (rfl) (by omega) (by decide) dX5_isNewer_5 ?_
  refine lc_aload_n 0 dX5_isNewer_6 rfl ?_
  refine lc_g_mstamp fl_X5_25 dX5_isNewer_7 ?_
  refine lc_iload_n 2 dX5_isNewer_10 rfl ?_
  refine lc_iald (f := x.1 2) (20) k (by omega) (rfl) (rfl) (by omega) (by decide) dX5_isNewer_11 ?_
  refine lc_icmp_gt 45 dX5_isNewer_12 (by decide) (fun c_1 => ?_) (fun c_1 => ?_)
  · skip
    refine lc_iconst (v := 1) dX5_isNewer_45 (by decide) ?_
    refine lc_goto 50 dX5_isNewer_46 (by decide) ?_
    exact lc_zret hR dX5_isNewer_50 (by simp [sp_new, lc_bi, c_1]) (rfl)
  · skip
    refine lc_aload_n 0 dX5_isNewer_15 rfl ?_
    refine lc_g_mstamp fl_X5_25 dX5_isNewer_16 ?_
    refine lc_iload_n 1 dX5_isNewer_19 rfl ?_
    refine lc_iald (f := x.1 2) (20) i (by omega) (rfl) (rfl) (by omega) (by decide) dX5_isNewer_20 ?_
    refine lc_aload_n 0 dX5_isNewer_21 rfl ?_
    refine lc_g_mstamp fl_X5_25 dX5_isNewer_22 ?_
    refine lc_iload_n 2 dX5_isNewer_25 rfl ?_
    refine lc_iald (f := x.1 2) (20) k (by omega) (rfl) (rfl) (by omega) (by decide) dX5_isNewer_26 ?_
    refine lc_icmp_ne 49 dX5_isNewer_27 (by decide) (fun c_2 => ?_) (fun c_2 => ?_)
    · skip
      refine lc_iconst (v := 0) dX5_isNewer_49 (by decide) ?_
      exact lc_zret hR dX5_isNewer_50 (by simp [sp_new, lc_bi, c_1, c_2]) (rfl)
    · skip
      refine lc_aload_n 0 dX5_isNewer_30 rfl ?_
      refine lc_g_mactive fl_X5_28 dX5_isNewer_31 ?_
      refine lc_iload_n 1 dX5_isNewer_34 rfl ?_
      refine lc_iald (f := x.1 3) (21) i (by omega) (rfl) (rfl) (by omega) (by decide) dX5_isNewer_35 ?_
      refine lc_aload_n 0 dX5_isNewer_36 rfl ?_
      refine lc_g_mactive fl_X5_28 dX5_isNewer_37 ?_
      refine lc_iload_n 2 dX5_isNewer_40 rfl ?_
      refine lc_iald (f := x.1 3) (21) k (by omega) (rfl) (rfl) (by omega) (by decide) dX5_isNewer_41 ?_
      refine lc_icmp_le 49 dX5_isNewer_42 (by decide) (fun c_3 => ?_) (fun c_3 => ?_)
      · skip
        refine lc_iconst (v := 0) dX5_isNewer_49 (by decide) ?_
        exact lc_zret hR dX5_isNewer_50 (by simp [sp_new, lc_bi, c_1, c_2, c_3]) (rfl)
      · skip
        refine lc_iconst (v := 1) dX5_isNewer_45 (by decide) ?_
        refine lc_goto 50 dX5_isNewer_46 (by decide) ?_
        exact lc_zret hR dX5_isNewer_50 (by simp [sp_new, lc_bi, c_1, c_2, c_3]) (rfl)

set_option maxRecDepth 100000 in
set_option maxHeartbeats 4000000 in
theorem c_X5_copy (l : Launch) (G : lc_G) (σ : lc_S) (x : lc_X) (i k : Nat) (hi : i < 24) (hk : k < 24) (h : Int32) : lc_M l G yX5_copy cX5_copy 4 none { frames := 0, cells := 0, slots := 0, locals := 0 } [.ref (G.1 (14)), .int (nI i), .int (nI k), .int (h)] (lc_w σ 2 x) none (lc_w σ 2 ((sp_copy x.1 k x.1 i h, x.2))) := by
  refine lc_entry [(0, .ref (G.1 (14))), (1, .int (nI i)), (2, .int (nI k)), (3, .int (h))] (by decide) (Nat.le_of_ble_eq_true rfl) rfl rfl rfl ?_
  intro Γ hR
  refine lc_aload_n 0 dX5_copy_0 rfl ?_
  refine lc_g_msort fl_X5_19 dX5_copy_1 ?_
  refine lc_iload_n 2 dX5_copy_4 rfl ?_
  refine lc_aload_n 0 dX5_copy_5 rfl ?_
  refine lc_g_msort fl_X5_19 dX5_copy_6 ?_
  refine lc_iload_n 1 dX5_copy_9 rfl ?_
  refine lc_iald (f := x.1 0) (18) i (by omega) (rfl) (rfl) (by omega) (by decide) dX5_copy_10 ?_
  refine lc_sc_msort k (rfl) (by omega) dX5_copy_11 ?_
  refine lc_aload_n 0 dX5_copy_12 rfl ?_
  refine lc_g_mvalue fl_X5_22 dX5_copy_13 ?_
  refine lc_iload_n 2 dX5_copy_16 rfl ?_
  refine lc_aload_n 0 dX5_copy_17 rfl ?_
  refine lc_g_mvalue fl_X5_22 dX5_copy_18 ?_
  refine lc_iload_n 1 dX5_copy_21 rfl ?_
  refine lc_iald (f := (lc_cu x.1 0 k (x.1 0 i)) 1) (19) i (by omega) (rfl) (rfl) (by omega) (by decide) dX5_copy_22 ?_
  refine lc_sc_mvalue k (rfl) (by omega) dX5_copy_23 ?_
  refine lc_aload_n 0 dX5_copy_24 rfl ?_
  refine lc_g_mstamp fl_X5_25 dX5_copy_25 ?_
  refine lc_iload_n 2 dX5_copy_28 rfl ?_
  refine lc_aload_n 0 dX5_copy_29 rfl ?_
  refine lc_g_mstamp fl_X5_25 dX5_copy_30 ?_
  refine lc_iload_n 1 dX5_copy_33 rfl ?_
  refine lc_iald (f := (lc_cu (lc_cu x.1 0 k (x.1 0 i)) 1 k ((lc_cu x.1 0 k (x.1 0 i)) 1 i)) 2) (20) i (by omega) (rfl) (rfl) (by omega) (by decide) dX5_copy_34 ?_
  refine lc_sc_mstamp k (rfl) (by omega) dX5_copy_35 ?_
  refine lc_aload_n 0 dX5_copy_36 rfl ?_
  refine lc_g_mactive fl_X5_28 dX5_copy_37 ?_
  refine lc_iload_n 2 dX5_copy_40 rfl ?_
  refine lc_aload_n 0 dX5_copy_41 rfl ?_
  refine lc_g_mactive fl_X5_28 dX5_copy_42 ?_
  refine lc_iload_n 1 dX5_copy_45 rfl ?_
  refine lc_iald (f := (lc_cu (lc_cu (lc_cu x.1 0 k (x.1 0 i)) 1 k ((lc_cu x.1 0 k (x.1 0 i)) 1 i)) 2 k ((lc_cu (lc_cu x.1 0 k (x.1 0 i)) 1 k ((lc_cu x.1 0 k (x.1 0 i)) 1 i)) 2 i)) 3) (21) i (by omega) (rfl) (rfl) (by omega) (by decide) dX5_copy_46 ?_
  refine lc_sc_mactive k (rfl) (by omega) dX5_copy_47 ?_
  refine lc_aload_n 0 dX5_copy_48 rfl ?_
  refine lc_g_mkeepers fl_X5_31 dX5_copy_49 ?_
  refine lc_iload_n 2 dX5_copy_52 rfl ?_
  refine lc_aload_n 0 dX5_copy_53 rfl ?_
  refine lc_g_mkeepers fl_X5_31 dX5_copy_54 ?_
  refine lc_iload_n 1 dX5_copy_57 rfl ?_
  refine lc_iald (f := (lc_cu (lc_cu (lc_cu (lc_cu x.1 0 k (x.1 0 i)) 1 k ((lc_cu x.1 0 k (x.1 0 i)) 1 i)) 2 k ((lc_cu (lc_cu x.1 0 k (x.1 0 i)) 1 k ((lc_cu x.1 0 k (x.1 0 i)) 1 i)) 2 i)) 3 k ((lc_cu (lc_cu (lc_cu x.1 0 k (x.1 0 i)) 1 k ((lc_cu x.1 0 k (x.1 0 i)) 1 i)) 2 k ((lc_cu (lc_cu x.1 0 k (x.1 0 i)) 1 k ((lc_cu x.1 0 k (x.1 0 i)) 1 i)) 2 i)) 3 i)) 4) (22) i (by omega) (rfl) (rfl) (by omega) (by decide) dX5_copy_58 ?_
  refine lc_sc_mkeepers k (rfl) (by omega) dX5_copy_59 ?_
  refine lc_aload_n 0 dX5_copy_60 rfl ?_
  refine lc_g_mheat fl_X5_34 dX5_copy_61 ?_
  refine lc_iload_n 2 dX5_copy_64 rfl ?_
  refine lc_iload_n 3 dX5_copy_65 rfl ?_
  refine lc_sc_mheat k (rfl) (by omega) dX5_copy_66 ?_
  exact lc_vret hR dX5_copy_67 (rfl)

set_option maxRecDepth 100000 in
set_option maxHeartbeats 4000000 in
theorem c_X5_wake (l : Launch) (G : lc_G) (σ : lc_S) (x : lc_X) (i : Nat) (hi : i < 24) : lc_M l G yX5_wake cX5_wake 2 none { frames := 0, cells := 0, slots := 0, locals := 0 } [.ref (G.1 (14)), .int (nI i)] (lc_w σ 2 x) none (lc_w σ 2 (sp_wake x i)) := by
  refine lc_entry [(0, .ref (G.1 (14))), (1, .int (nI i))] (by decide) (Nat.le_of_ble_eq_true rfl) rfl rfl rfl ?_
  intro Γ hR
  refine lc_aload_n 0 dX5_wake_0 rfl ?_
  refine lc_g_mactive fl_X5_28 dX5_wake_1 ?_
  refine lc_iload_n 1 dX5_wake_4 rfl ?_
  refine lc_aload_n 0 dX5_wake_5 rfl ?_
  refine lc_gMNow fl_X5_62 dX5_wake_6 ?_
  refine lc_sc_mactive i (rfl) (by omega) dX5_wake_9 ?_
  refine lc_aload_n 0 dX5_wake_10 rfl ?_
  refine lc_g_mheat fl_X5_34 dX5_wake_11 ?_
  refine lc_iload_n 1 dX5_wake_14 rfl ?_
  refine lc_aload_n 0 dX5_wake_15 rfl ?_
  refine lc_g_mtold fl_X5_16 dX5_wake_16 ?_
  refine lc_iconst (v := 2) dX5_wake_19 (by decide) ?_
  refine lc_iald (f := (lc_cu x.1 3 i (x.1 7 1)) 6) (17) 2 (by omega) (rfl) (rfl) (by omega) (by decide) dX5_wake_20 ?_
  refine lc_sc_mheat i (rfl) (by omega) dX5_wake_21 ?_
  refine lc_aload_n 0 dX5_wake_22 rfl ?_
  refine lc_dup dX5_wake_23 rfl ?_
  refine lc_gMWok fl_X5_71 dX5_wake_24 ?_
  refine lc_iconst (v := 1) dX5_wake_27 (by decide) ?_
  refine lc_iadd dX5_wake_28 ?_
  refine lc_pMWok ((((lc_cu (lc_cu x.1 3 i (x.1 7 1)) 5 i ((lc_cu x.1 3 i (x.1 7 1)) 6 2), x.2)).2.2.1) + 1) (Int32.add_assoc _ _ _) fl_X5_71 dX5_wake_29 ?_
  refine lc_eq (σ' := lc_w σ 2 ((((lc_cu (lc_cu x.1 3 i (x.1 7 1)) 5 i ((lc_cu x.1 3 i (x.1 7 1)) 6 2), x.2)).1, ((lc_cu (lc_cu x.1 3 i (x.1 7 1)) 5 i ((lc_cu x.1 3 i (x.1 7 1)) 6 2), x.2)).2.1, (((lc_cu (lc_cu x.1 3 i (x.1 7 1)) 5 i ((lc_cu x.1 3 i (x.1 7 1)) 6 2), x.2)).2.2.1) + 1, ((lc_cu (lc_cu x.1 3 i (x.1 7 1)) 5 i ((lc_cu x.1 3 i (x.1 7 1)) 6 2), x.2)).2.2.2))) rfl ?_
  exact lc_vret hR dX5_wake_32 (rfl)

set_option maxRecDepth 100000 in
set_option maxHeartbeats 4000000 in
theorem c_X5_purge (l : Launch) (G : lc_G) (σ : lc_S) (x : lc_X) (n : Nat) (hn : n ≤ 6) (hs : x.1 7 0 = nI n) : lc_M l G yX5_purge cX5_purge 4 (some .int) { frames := 1, cells := 0, slots := 0, locals := 21 } [.ref (G.1 (14))] (lc_w σ 2 x) (some (.int ((sp_drop n x).1))) (lc_w σ 2 ((sp_drop n x).2)) := by
  refine lc_entry [(0, .ref (G.1 (14)))] (by decide) (Nat.le_of_ble_eq_true rfl) rfl rfl rfl ?_
  intro Γ hR
  refine lc_iconst (v := 0) dX5_purge_0 (by decide) ?_
  refine lc_istore_n [(1, .int (0)), (0, .ref (G.1 (14)))] dX5_purge_1 (by decide) rfl ?_
  refine lc_iconst (v := 0) dX5_purge_2 (by decide) ?_
  refine lc_istore_n [(2, .int (0)), (1, .int (0)), (0, .ref (G.1 (14)))] dX5_purge_3 (by decide) rfl ?_
  refine lc_lv (lv' := [(0, .ref (G.1 (14))), (1, .int (0)), (2, .int (0))]) [2, 1, 0] rfl ?_
  refine lc_forI (α := Int32 × lc_X) (fun i z => lc_V G Γ cX5_purge 4 RX5 4 [(0, .ref (G.1 (14))), (1, .int (z.1)), (2, .int (nI i))] [] (lc_w σ 2 z.2)) (fun _ z => z.2.1 7 0 = nI n) (sp_dg) (4 * n) (fun i z _ h => by rw [sp_dg_7]; exact h) (fun i z hi hIi ki => ?_) ((0, x)) (hs) (fun hIi => ?_)
  · skip
    have hi24 : i < 24 := by omega
    show lc_V G Γ cX5_purge 4 RX5 4 [(0, .ref (G.1 (14))), (1, .int (z.1)), (2, .int (nI i))] [] (lc_w σ 2 z.2)
    refine lc_iload_n 2 dX5_purge_4 rfl ?_
    refine lc_iconst (v := 4) dX5_purge_5 (by decide) ?_
    refine lc_aload_n 0 dX5_purge_6 rfl ?_
    refine lc_gMSites fl_X5_55 dX5_purge_7 ?_
    refine lc_imul dX5_purge_10 ?_
    refine lc_icmp_ge 80 dX5_purge_11 (by decide) (fun h => absurd h.1 (by rw [hIi, lc_m4l]; exact nI_ge (b := 4 * n) hi (by omega))) (fun _ => ?_)
    refine lc_aload_n 0 dX5_purge_14 rfl ?_
    refine lc_g_mkeepers fl_X5_31 dX5_purge_15 ?_
    refine lc_iload_n 2 dX5_purge_18 rfl ?_
    refine lc_iald (f := z.2.1 4) (22) i (by omega) (rfl) (rfl) (by omega) (by decide) dX5_purge_19 ?_
    refine lc_iload_n 2 dX5_purge_20 rfl ?_
    refine lc_iconst (v := 4) dX5_purge_21 (by decide) ?_
    refine lc_idiv dX5_purge_22 (by decide) ?_
    refine lc_topi (nI (i / 4)) (lc_d4 i hi24) ?_
    refine lc_callS (c_X5_isIn l G (lc_w σ 2 z.2) (z.2.1 4 i) (nI (i / 4))) hR.2.2.2.1 hR.2.2.2.2 mt_X5_isIn ml_X5_84 rfl rfl (Nat.le_of_ble_eq_true rfl) ⟨⟨rfl, rfl⟩, Nat.le_of_ble_eq_true rfl, Nat.le_of_ble_eq_true rfl⟩ dX5_purge_23 ?_
    show lc_V _ _ _ _ _ 26 _ [.int (lc_bi (sp_bit (z.2.1 4 i) (nI (i / 4))))] (lc_w σ 2 z.2)
    refine lc_istore_n [(3, .int (lc_bi (sp_bit (z.2.1 4 i) (nI (i / 4))))), (0, .ref (G.1 (14))), (1, .int (z.1)), (2, .int (nI i))] dX5_purge_26 (by decide) rfl ?_
    refine lc_aload_n 1 dX5_purge_27 rfl ?_
    refine lc_iload_n 3 dX5_purge_28 rfl ?_
    refine lc_callV (14) (c_X5_isDormant l G σ z.2 i (by omega)) hR.2.2.2.1 hR.2.2.2.2 mt_X5_isDormant (by omega) (rfl) rfl ml_X5_80 rfl rfl (Nat.le_of_ble_eq_true rfl) ⟨⟨rfl, rfl⟩, Nat.le_of_ble_eq_true rfl, Nat.le_of_ble_eq_true rfl⟩ dX5_purge_29 ?_
    show lc_V _ _ _ _ _ 32 _ [.int (lc_bi (sp_dor z.2.1 i))] (lc_w σ 2 z.2)
    refine lc_ifb_eq 74 dX5_purge_32 (by decide) (fun c_2 => ?_) (fun c_2 => ?_)
    · skip
      refine lc_iinc 3 (nI (i + 1)) [(2, .int (nI (i + 1))), (3, .int (lc_bi (sp_bit (z.2.1 4 i) (nI (i / 4))))), (0, .ref (G.1 (14))), (1, .int (z.1))] dX5_purge_74 rfl (lc_inc1 i) (by decide) rfl ?_
      refine lc_goto 4 dX5_purge_77 (by decide) ?_
      refine lc_lv (lv' := [(0, .ref (G.1 (14))), (1, .int (z.1)), (2, .int (nI (i + 1)))]) [2, 3, 0] rfl ?_
      rw [show (sp_dg) i z = (z.1, z.2) from by simp [sp_dg, sp_kept, lc_d4 i hi24, c_2]] at ki
      exact ki
    · skip
      refine lc_iload_n 0 dX5_purge_35 rfl ?_
      refine lc_ifb_eq 66 dX5_purge_36 (by decide) (fun c_3 => ?_) (fun c_3 => ?_)
      · skip
        refine lc_aload_n 1 dX5_purge_66 rfl ?_
        refine lc_iload_n 3 dX5_purge_67 rfl ?_
        refine lc_callV (14) (c_X5_clear l G σ z.2 i (by omega)) hR.2.2.2.1 hR.2.2.2.2 mt_X5_clear (by omega) (rfl) rfl ml_X5_58 rfl rfl (Nat.le_of_ble_eq_true rfl) ⟨⟨rfl, rfl⟩, Nat.le_of_ble_eq_true rfl, Nat.le_of_ble_eq_true rfl⟩ dX5_purge_68 ?_
        show lc_V _ _ _ _ _ 71 _ [] (lc_w σ 2 ((sp_none z.2.1 i, z.2.2)))
        refine lc_iinc 2 (z.1 + 1) [(1, .int (z.1 + 1)), (3, .int (lc_bi (sp_bit (z.2.1 4 i) (nI (i / 4))))), (0, .ref (G.1 (14))), (2, .int (nI i))] dX5_purge_71 rfl rfl (by decide) rfl ?_
        refine lc_iinc 3 (nI (i + 1)) [(2, .int (nI (i + 1))), (1, .int (z.1 + 1)), (3, .int (lc_bi (sp_bit (z.2.1 4 i) (nI (i / 4))))), (0, .ref (G.1 (14)))] dX5_purge_74 rfl (lc_inc1 i) (by decide) rfl ?_
        refine lc_goto 4 dX5_purge_77 (by decide) ?_
        refine lc_lv (lv' := [(0, .ref (G.1 (14))), (1, .int (z.1 + 1)), (2, .int (nI (i + 1)))]) [3, 1, 0] rfl ?_
        rw [show (sp_dg) i z = (z.1 + 1, (sp_none z.2.1 i, z.2.2)) from by simp [sp_dg, sp_kept, lc_d4 i hi24, c_2, c_3]] at ki
        exact ki
      · skip
        refine lc_aload_n 1 dX5_purge_39 rfl ?_
        refine lc_gMNow fl_X5_62 dX5_purge_40 ?_
        refine lc_aload_n 1 dX5_purge_43 rfl ?_
        refine lc_g_mactive fl_X5_28 dX5_purge_44 ?_
        refine lc_iload_n 3 dX5_purge_47 rfl ?_
        refine lc_iald (f := z.2.1 3) (21) i (by omega) (rfl) (rfl) (by omega) (by decide) dX5_purge_48 ?_
        refine lc_isub dX5_purge_49 ?_
        refine lc_aload_n 1 dX5_purge_50 rfl ?_
        refine lc_g_mtold fl_X5_16 dX5_purge_51 ?_
        refine lc_iconst (v := 0) dX5_purge_54 (by decide) ?_
        refine lc_iald (f := z.2.1 6) (17) 0 (by omega) (rfl) (rfl) (by omega) (by decide) dX5_purge_55 ?_
        refine lc_aload_n 1 dX5_purge_56 rfl ?_
        refine lc_g_mtold fl_X5_16 dX5_purge_57 ?_
        refine lc_iconst (v := 1) dX5_purge_60 (by decide) ?_
        refine lc_iald (f := z.2.1 6) (17) 1 (by omega) (rfl) (rfl) (by omega) (by decide) dX5_purge_61 ?_
        refine lc_iadd dX5_purge_62 ?_
        refine lc_icmp_le 74 dX5_purge_63 (by decide) (fun c_4 => ?_) (fun c_4 => ?_)
        · skip
          refine lc_iinc 3 (nI (i + 1)) [(2, .int (nI (i + 1))), (3, .int (lc_bi (sp_bit (z.2.1 4 i) (nI (i / 4))))), (0, .ref (G.1 (14))), (1, .int (z.1))] dX5_purge_74 rfl (lc_inc1 i) (by decide) rfl ?_
          refine lc_goto 4 dX5_purge_77 (by decide) ?_
          refine lc_lv (lv' := [(0, .ref (G.1 (14))), (1, .int (z.1)), (2, .int (nI (i + 1)))]) [2, 3, 0] rfl ?_
          rw [show (sp_dg) i z = (z.1, z.2) from by simp [sp_dg, sp_kept, lc_d4 i hi24, c_2, c_3, c_4]] at ki
          exact ki
        · skip
          refine lc_aload_n 1 dX5_purge_66 rfl ?_
          refine lc_iload_n 3 dX5_purge_67 rfl ?_
          refine lc_callV (14) (c_X5_clear l G σ z.2 i (by omega)) hR.2.2.2.1 hR.2.2.2.2 mt_X5_clear (by omega) (rfl) rfl ml_X5_58 rfl rfl (Nat.le_of_ble_eq_true rfl) ⟨⟨rfl, rfl⟩, Nat.le_of_ble_eq_true rfl, Nat.le_of_ble_eq_true rfl⟩ dX5_purge_68 ?_
          show lc_V _ _ _ _ _ 71 _ [] (lc_w σ 2 ((sp_none z.2.1 i, z.2.2)))
          refine lc_iinc 2 (z.1 + 1) [(1, .int (z.1 + 1)), (3, .int (lc_bi (sp_bit (z.2.1 4 i) (nI (i / 4))))), (0, .ref (G.1 (14))), (2, .int (nI i))] dX5_purge_71 rfl rfl (by decide) rfl ?_
          refine lc_iinc 3 (nI (i + 1)) [(2, .int (nI (i + 1))), (1, .int (z.1 + 1)), (3, .int (lc_bi (sp_bit (z.2.1 4 i) (nI (i / 4))))), (0, .ref (G.1 (14)))] dX5_purge_74 rfl (lc_inc1 i) (by decide) rfl ?_
          refine lc_goto 4 dX5_purge_77 (by decide) ?_
          refine lc_lv (lv' := [(0, .ref (G.1 (14))), (1, .int (z.1 + 1)), (2, .int (nI (i + 1)))]) [3, 1, 0] rfl ?_
          rw [show (sp_dg) i z = (z.1 + 1, (sp_none z.2.1 i, z.2.2)) from by simp [sp_dg, sp_kept, lc_d4 i hi24, c_2, c_3, c_4]] at ki
          exact ki
  · skip
    rw [← sp_dropZ_flat] at hIi ⊢
    have hIj : (sp_dropZ n x).2.1 7 0 = nI n := hIi
    show lc_V G Γ cX5_purge 4 RX5 4 [(0, .ref (G.1 (14))), (1, .int (((sp_dropZ n x)).1)), (2, .int (nI (4 * n)))] [] (lc_w σ 2 (((sp_dropZ n x)).2))
    refine lc_iload_n 2 dX5_purge_4 rfl ?_
    refine lc_iconst (v := 4) dX5_purge_5 (by decide) ?_
    refine lc_aload_n 0 dX5_purge_6 rfl ?_
    refine lc_gMSites fl_X5_55 dX5_purge_7 ?_
    refine lc_imul dX5_purge_10 ?_
    refine lc_icmp_ge 80 dX5_purge_11 (by decide) (fun _ => ?_) (fun h => absurd h.1 (by rw [hIj, lc_m4l]; exact nI_nlt (a := 4 * n) (b := 4 * n) (Nat.le_refl _) (by omega)))
    refine lc_aload_n 0 dX5_purge_80 rfl ?_
    refine lc_dup dX5_purge_81 rfl ?_
    refine lc_gMGon fl_X5_74 dX5_purge_82 ?_
    refine lc_iload_n 1 dX5_purge_85 rfl ?_
    refine lc_iadd dX5_purge_86 ?_
    refine lc_pMGon (((((sp_dropZ n x)).2).2.2.2) + (((sp_dropZ n x)).1)) (Int32.add_assoc _ _ _) fl_X5_74 dX5_purge_87 ?_
    refine lc_eq (σ' := lc_w σ 2 (((((sp_dropZ n x)).2).1, (((sp_dropZ n x)).2).2.1, (((sp_dropZ n x)).2).2.2.1, ((((sp_dropZ n x)).2).2.2.2) + (((sp_dropZ n x)).1)))) rfl ?_
    refine lc_iload_n 1 dX5_purge_90 rfl ?_
    exact lc_iret hR dX5_purge_91 (rfl) (rfl)

set_option maxRecDepth 100000 in
set_option maxHeartbeats 4000000 in
theorem c_X5_isSite (l : Launch) (G : lc_G) (σ : lc_S) (x : lc_X) (n : Nat) (hn : n ≤ 6) (hs : x.1 7 0 = nI n) (s : Int32) : lc_M l G yX5_isSite cX5_isSite 2 (some .boolean) { frames := 1, cells := 0, slots := 0, locals := 22 } [.ref (G.1 (14)), .int (s)] (lc_w σ 2 x) (some (.int (lc_bi (sp_site x.1 s)))) (lc_w σ 2 x) := by
  refine lc_entry [(0, .ref (G.1 (14))), (1, .int (s))] (by decide) (Nat.le_of_ble_eq_true rfl) rfl rfl rfl ?_
  intro Γ hR
  refine lc_iload_n 1 dX5_isSite_0 rfl ?_
  refine lc_iconst (v := 0) dX5_isSite_1 (by decide) ?_
  refine lc_aload_n 0 dX5_isSite_2 rfl ?_
  refine lc_gMSites fl_X5_55 dX5_isSite_3 ?_
  refine lc_iconst (v := 1) dX5_isSite_6 (by decide) ?_
  refine lc_isub dX5_isSite_7 ?_
  refine lc_callS (c_X5_within l G (lc_w σ 2 x) s 0 (((x.1 7 0) - 1))) hR.2.2.2.1 hR.2.2.2.2 mt_X5_within ml_X5_43 rfl rfl (Nat.le_of_ble_eq_true rfl) ⟨⟨rfl, rfl⟩, Nat.le_of_ble_eq_true rfl, Nat.le_of_ble_eq_true rfl⟩ dX5_isSite_8 ?_
  show lc_V _ _ _ _ _ 11 _ [.int (lc_bi (sp_win s 0 (((x.1 7 0) - 1))))] (lc_w σ 2 x)
  exact lc_zret hR dX5_isSite_11 (by rw [sp_site_win hn hs]) (rfl)

set_option maxRecDepth 100000 in
set_option maxHeartbeats 4000000 in
theorem c_X5_isKey (l : Launch) (G : lc_G) (σ : lc_S) (k : Int32) : lc_M l G yX5_isKey cX5_isKey 1 (some .boolean) { frames := 1, cells := 0, slots := 0, locals := 22 } [.int (k)] (σ) (some (.int (lc_bi (sp_key k)))) (σ) := by
  refine lc_entry [(0, .int (k))] (by decide) (Nat.le_of_ble_eq_true rfl) rfl rfl rfl ?_
  intro Γ hR
  refine lc_iload_n 0 dX5_isKey_0 rfl ?_
  refine lc_iconst (v := 0) dX5_isKey_1 (by decide) ?_
  refine lc_iconst (v := 3) dX5_isKey_2 (by decide) ?_
  refine lc_callS (c_X5_within l G (σ) k 0 3) hR.2.2.2.1 hR.2.2.2.2 mt_X5_within ml_X5_43 rfl rfl (Nat.le_of_ble_eq_true rfl) ⟨⟨rfl, rfl⟩, Nat.le_of_ble_eq_true rfl, Nat.le_of_ble_eq_true rfl⟩ dX5_isKey_3 ?_
  show lc_V _ _ _ _ _ 6 _ [.int (lc_bi (sp_win k 0 3))] (σ)
  exact lc_zret hR dX5_isKey_6 (by rw [sp_key_win]) (rfl)

set_option maxRecDepth 100000 in
set_option maxHeartbeats 4000000 in
theorem c_X5_least (l : Launch) (G : lc_G) (σ : lc_S) (w : Int32) : lc_M l G yX5_least cX5_least 1 (some .int) { frames := 0, cells := 0, slots := 0, locals := 0 } [.int (w)] (σ) (some (.int (sp_le w))) (σ) := by
  refine lc_entry [(0, .int (w))] (by decide) (Nat.le_of_ble_eq_true rfl) rfl rfl rfl ?_
  intro Γ hR
  refine lc_iload_n 0 dX5_least_0 rfl ?_
  refine lc_if_eq 9 dX5_least_1 (by decide) (fun c_1 => ?_) (fun c_1 => ?_)
  · skip
    refine lc_iconst (v := 1) dX5_least_9 (by decide) ?_
    refine lc_goto 14 dX5_least_10 (by decide) ?_
    exact lc_iret hR dX5_least_14 (by simp [sp_le, lc_bi, c_1]) (rfl)
  · skip
    refine lc_iload_n 0 dX5_least_4 rfl ?_
    refine lc_iconst (v := 2) dX5_least_5 (by decide) ?_
    refine lc_icmp_ne 13 dX5_least_6 (by decide) (fun c_2 => ?_) (fun c_2 => ?_)
    · skip
      refine lc_iconst (v := 0) dX5_least_13 (by decide) ?_
      exact lc_iret hR dX5_least_14 (by simp [sp_le, lc_bi, c_1, c_2]) (rfl)
    · skip
      refine lc_iconst (v := 1) dX5_least_9 (by decide) ?_
      refine lc_goto 14 dX5_least_10 (by decide) ?_
      exact lc_iret hR dX5_least_14 (by simp [sp_le, lc_bi, c_1, c_2]) (rfl)

set_option maxRecDepth 100000 in
set_option maxHeartbeats 4000000 in
theorem c_X5_most (l : Launch) (G : lc_G) (σ : lc_S) (w : Int32) : lc_M l G yX5_most cX5_most 1 (some .int) { frames := 0, cells := 0, slots := 0, locals := 0 } [.int (w)] (σ) (some (.int (sp_mo w))) (σ) := by
  refine lc_entry [(0, .int (w))] (by decide) (Nat.le_of_ble_eq_true rfl) rfl rfl rfl ?_
  intro Γ hR
  refine lc_iload_n 0 dX5_most_0 rfl ?_
  refine lc_iconst (v := 1) dX5_most_1 (by decide) ?_
  refine lc_icmp_ne 11 dX5_most_2 (by decide) (fun c_1 => ?_) (fun c_1 => ?_)
  · skip
    refine lc_iload_n 0 dX5_most_11 rfl ?_
    refine lc_iconst (v := 2) dX5_most_12 (by decide) ?_
    refine lc_icmp_ne 20 dX5_most_13 (by decide) (fun c_2 => ?_) (fun c_2 => ?_)
    · skip
      refine lc_bipush (v := 50) dX5_most_20 (by decide) ?_
      exact lc_iret hR dX5_most_22 (by simp [sp_mo, lc_bi, c_1, c_2]) (rfl)
    · skip
      refine lc_iconst (v := 3) dX5_most_16 (by decide) ?_
      refine lc_goto 22 dX5_most_17 (by decide) ?_
      exact lc_iret hR dX5_most_22 (by simp [sp_mo, lc_bi, c_1, c_2]) (rfl)
  · skip
    refine lc_sipush (v := 200) dX5_most_5 (by decide) ?_
    refine lc_goto 22 dX5_most_8 (by decide) ?_
    exact lc_iret hR dX5_most_22 (by simp [sp_mo, lc_bi, c_1]) (rfl)

set_option maxRecDepth 100000 in
set_option maxHeartbeats 4000000 in
theorem c_X5_nearest (l : Launch) (G : lc_G) (σ : lc_S) (x : lc_X) (n a : Nat) (m : Int32) (hn : n ≤ 6) (ha : a < 6) (hs : x.1 7 0 = nI n) : lc_M l G yX5_nearest cX5_nearest 7 (some .int) { frames := 1, cells := 0, slots := 0, locals := 21 } [.ref (G.1 (14)), .int (nI a), .int (m)] (lc_w σ 2 x) (some (.int (sp_on (sp_nearsM (σ.2.1 8) a m n).1))) (lc_w σ 2 x) := by
  refine lc_entry [(0, .ref (G.1 (14))), (1, .int (nI a)), (2, .int (m))] (by decide) (Nat.le_of_ble_eq_true rfl) rfl rfl rfl ?_
  intro Γ hR
  refine lc_iconst (v := (-1)) dX5_nearest_0 (by decide) ?_
  refine lc_istore_n [(3, .int ((-1))), (0, .ref (G.1 (14))), (1, .int (nI a)), (2, .int (m))] dX5_nearest_1 (by decide) rfl ?_
  refine lc_sipush (v := 1000) dX5_nearest_2 (by decide) ?_
  refine lc_istore [(4, .int (1000)), (3, .int ((-1))), (0, .ref (G.1 (14))), (1, .int (nI a)), (2, .int (m))] dX5_nearest_5 (by decide) rfl ?_
  refine lc_iconst (v := 0) dX5_nearest_7 (by decide) ?_
  refine lc_istore [(5, .int (0)), (4, .int (1000)), (3, .int ((-1))), (0, .ref (G.1 (14))), (1, .int (nI a)), (2, .int (m))] dX5_nearest_8 (by decide) rfl ?_
  refine lc_lv (lv' := [(0, .ref (G.1 (14))), (1, .int (nI a)), (2, .int (m)), (3, .int ((-1))), (4, .int (1000)), (5, .int (0))]) [3, 4, 5, 2, 1, 0] rfl ?_
  refine lc_forI (α := Option Nat × Int32) (fun i z => lc_V G Γ cX5_nearest 7 RX5 10 [(0, .ref (G.1 (14))), (1, .int (nI a)), (2, .int (m)), (3, .int (sp_on z.1)), (4, .int (z.2)), (5, .int (nI i))] [] (lc_w σ 2 x)) (fun _ _ => True) (sp_nearM (σ.2.1 8) a m) n (fun _ _ _ _ => trivial) (fun i z hi hIi ki => ?_) ((none, 1000)) (trivial) (fun hIi => ?_)
  · skip
    show lc_V G Γ cX5_nearest 7 RX5 10 [(0, .ref (G.1 (14))), (1, .int (nI a)), (2, .int (m)), (3, .int (sp_on z.1)), (4, .int (z.2)), (5, .int (nI i))] [] (lc_w σ 2 x)
    refine lc_iload 5 dX5_nearest_10 rfl ?_
    refine lc_aload_n 0 dX5_nearest_12 rfl ?_
    refine lc_gMSites fl_X5_55 dX5_nearest_13 ?_
    refine lc_icmp_ge 67 dX5_nearest_16 (by decide) (fun h => absurd h.1 (by rw [hs]; exact nI_ge (b := n) hi (by omega))) (fun _ => ?_)
    refine lc_aload_n 0 dX5_nearest_19 rfl ?_
    refine lc_g_mpos fl_X5_13 dX5_nearest_20 ?_
    refine lc_iload 5 dX5_nearest_23 rfl ?_
    refine lc_iald (f := σ.2.1 8) (16) i (by omega) (rfl) (rfl) (by omega) (by decide) dX5_nearest_25 ?_
    refine lc_aload_n 0 dX5_nearest_26 rfl ?_
    refine lc_g_mpos fl_X5_13 dX5_nearest_27 ?_
    refine lc_iload_n 1 dX5_nearest_30 rfl ?_
    refine lc_iald (f := σ.2.1 8) (16) a (by omega) (rfl) (rfl) (by omega) (by decide) dX5_nearest_31 ?_
    refine lc_isub dX5_nearest_32 ?_
    refine lc_callS (c_X5_size l G (lc_w σ 2 x) (((σ.2.1 8 i) - (σ.2.1 8 a)))) hR.2.2.2.1 hR.2.2.2.2 mt_X5_size ml_X5_108 rfl rfl (Nat.le_of_ble_eq_true rfl) ⟨⟨rfl, rfl⟩, Nat.le_of_ble_eq_true rfl, Nat.le_of_ble_eq_true rfl⟩ dX5_nearest_33 ?_
    show lc_V _ _ _ _ _ 36 _ [.int (sp_abs (((σ.2.1 8 i) - (σ.2.1 8 a))))] (lc_w σ 2 x)
    refine lc_istore [(6, .int (sp_abs (((σ.2.1 8 i) - (σ.2.1 8 a))))), (0, .ref (G.1 (14))), (1, .int (nI a)), (2, .int (m)), (3, .int (sp_on z.1)), (4, .int (z.2)), (5, .int (nI i))] dX5_nearest_36 (by decide) rfl ?_
    refine lc_iload_n 3 dX5_nearest_38 rfl ?_
    refine lc_iload 6 dX5_nearest_39 rfl ?_
    refine lc_callS (c_X5_isIn l G (lc_w σ 2 x) m (nI i)) hR.2.2.2.1 hR.2.2.2.2 mt_X5_isIn ml_X5_84 rfl rfl (Nat.le_of_ble_eq_true rfl) ⟨⟨rfl, rfl⟩, Nat.le_of_ble_eq_true rfl, Nat.le_of_ble_eq_true rfl⟩ dX5_nearest_41 ?_
    show lc_V _ _ _ _ _ 44 _ [.int (lc_bi (sp_bit m (nI i)))] (lc_w σ 2 x)
    refine lc_ifb_ne 61 dX5_nearest_44 (by decide) (fun c_2 => ?_) (fun c_2 => ?_)
    · skip
      refine lc_iinc 6 (nI (i + 1)) [(5, .int (nI (i + 1))), (6, .int (sp_abs (((σ.2.1 8 i) - (σ.2.1 8 a))))), (0, .ref (G.1 (14))), (1, .int (nI a)), (2, .int (m)), (3, .int (sp_on z.1)), (4, .int (z.2))] dX5_nearest_61 rfl (lc_inc1 i) (by decide) rfl ?_
      refine lc_goto 10 dX5_nearest_64 (by decide) ?_
      refine lc_lv (lv' := [(0, .ref (G.1 (14))), (1, .int (nI a)), (2, .int (m)), (3, .int (sp_on z.1)), (4, .int (z.2)), (5, .int (nI (i + 1)))]) [2, 3, 4, 5, 6, 0] rfl ?_
      rw [show (sp_nearM (σ.2.1 8) a m) i z = z from by simp [sp_nearM, c_2]] at ki
      exact ki
    · skip
      refine lc_iload 0 dX5_nearest_47 rfl ?_
      refine lc_iload 5 dX5_nearest_49 rfl ?_
      refine lc_icmp_ge 61 dX5_nearest_51 (by decide) (fun c_3 => ?_) (fun c_3 => ?_)
      · skip
        refine lc_iinc 6 (nI (i + 1)) [(5, .int (nI (i + 1))), (6, .int (sp_abs (((σ.2.1 8 i) - (σ.2.1 8 a))))), (0, .ref (G.1 (14))), (1, .int (nI a)), (2, .int (m)), (3, .int (sp_on z.1)), (4, .int (z.2))] dX5_nearest_61 rfl (lc_inc1 i) (by decide) rfl ?_
        refine lc_goto 10 dX5_nearest_64 (by decide) ?_
        refine lc_lv (lv' := [(0, .ref (G.1 (14))), (1, .int (nI a)), (2, .int (m)), (3, .int (sp_on z.1)), (4, .int (z.2)), (5, .int (nI (i + 1)))]) [2, 3, 4, 5, 6, 0] rfl ?_
        rw [show (sp_nearM (σ.2.1 8) a m) i z = z from by simp [sp_nearM, c_2, c_3]] at ki
        exact ki
      · skip
        refine lc_iload 6 dX5_nearest_54 rfl ?_
        refine lc_istore_n [(3, .int (nI i)), (6, .int (sp_abs (((σ.2.1 8 i) - (σ.2.1 8 a))))), (0, .ref (G.1 (14))), (1, .int (nI a)), (2, .int (m)), (4, .int (z.2)), (5, .int (nI i))] dX5_nearest_56 (by decide) rfl ?_
        refine lc_iload 1 dX5_nearest_57 rfl ?_
        refine lc_istore [(4, .int (sp_abs (((σ.2.1 8 i) - (σ.2.1 8 a))))), (3, .int (nI i)), (6, .int (sp_abs (((σ.2.1 8 i) - (σ.2.1 8 a))))), (0, .ref (G.1 (14))), (1, .int (nI a)), (2, .int (m)), (5, .int (nI i))] dX5_nearest_59 (by decide) rfl ?_
        refine lc_iinc 6 (nI (i + 1)) [(5, .int (nI (i + 1))), (4, .int (sp_abs (((σ.2.1 8 i) - (σ.2.1 8 a))))), (3, .int (nI i)), (6, .int (sp_abs (((σ.2.1 8 i) - (σ.2.1 8 a))))), (0, .ref (G.1 (14))), (1, .int (nI a)), (2, .int (m))] dX5_nearest_61 rfl (lc_inc1 i) (by decide) rfl ?_
        refine lc_goto 10 dX5_nearest_64 (by decide) ?_
        refine lc_lv (lv' := [(0, .ref (G.1 (14))), (1, .int (nI a)), (2, .int (m)), (3, .int (nI i)), (4, .int (sp_abs (((σ.2.1 8 i) - (σ.2.1 8 a))))), (5, .int (nI (i + 1)))]) [4, 5, 6, 2, 1, 0] rfl ?_
        rw [show (sp_nearM (σ.2.1 8) a m) i z = (some i, sp_abs (((σ.2.1 8 i) - (σ.2.1 8 a)))) from by simp [sp_nearM, c_2, c_3]] at ki
        exact ki
  · skip
    show lc_V G Γ cX5_nearest 7 RX5 10 [(0, .ref (G.1 (14))), (1, .int (nI a)), (2, .int (m)), (3, .int (sp_on ((sp_nearsM (σ.2.1 8) a m n)).1)), (4, .int (((sp_nearsM (σ.2.1 8) a m n)).2)), (5, .int (nI n))] [] (lc_w σ 2 x)
    refine lc_iload 5 dX5_nearest_10 rfl ?_
    refine lc_aload_n 0 dX5_nearest_12 rfl ?_
    refine lc_gMSites fl_X5_55 dX5_nearest_13 ?_
    refine lc_icmp_ge 67 dX5_nearest_16 (by decide) (fun _ => ?_) (fun h => absurd h.1 (by rw [hs]; exact nI_nlt (a := n) (b := n) (Nat.le_refl _) (by omega)))
    refine lc_iload_n 3 dX5_nearest_67 rfl ?_
    exact lc_iret hR dX5_nearest_68 (rfl) (rfl)

set_option maxRecDepth 100000 in
set_option maxHeartbeats 4000000 in
theorem c_X5_near (l : Launch) (G : lc_G) (σ : lc_S) (x : lc_X) (n a m : Nat) (hn : n ≤ 6) (ha : a < 6) (hm : 1 ≤ m) (hm3 : m ≤ 3) (hs : x.1 7 0 = nI n) : lc_M l G yX5_near cX5_near 6 (some .int) { frames := 2, cells := 0, slots := 0, locals := 47 } [.ref (G.1 (14)), .int (nI a), .int (nI m)] (lc_w σ 2 x) (some (.int (sp_keepM (σ.2.1 8) a n m))) (lc_w σ 2 x) := by
  refine lc_entry [(0, .ref (G.1 (14))), (1, .int (nI a)), (2, .int (nI m))] (by decide) (Nat.le_of_ble_eq_true rfl) rfl rfl rfl ?_
  intro Γ hR
  refine lc_iconst (v := 1) dX5_near_0 (by decide) ?_
  refine lc_iload_n 1 dX5_near_1 rfl ?_
  refine lc_ishl dX5_near_2 ?_
  refine lc_istore_n [(3, .int (((1 : Int32) <<< ((nI a) &&& 31)))), (0, .ref (G.1 (14))), (1, .int (nI a)), (2, .int (nI m))] dX5_near_3 (by decide) rfl ?_
  refine lc_iconst (v := 1) dX5_near_4 (by decide) ?_
  refine lc_istore [(4, .int (1)), (3, .int (((1 : Int32) <<< ((nI a) &&& 31)))), (0, .ref (G.1 (14))), (1, .int (nI a)), (2, .int (nI m))] dX5_near_5 (by decide) rfl ?_
  refine lc_lv (lv' := [(0, .ref (G.1 (14))), (1, .int (nI a)), (2, .int (nI m)), (3, .int (((1 : Int32) <<< ((nI a) &&& 31)))), (4, .int (1))]) [2, 3, 4, 1, 0] rfl ?_
  refine lc_for (α := Int32) (fun i z => lc_V G Γ _ _ _ 7 [(0, .ref (G.1 (14))), (1, .int (nI a)), (2, .int (nI m)), (3, .int z), (4, .int (nI (i + 1)))] [] (lc_w σ 2 x)) (fun _ => sp_nrM (σ.2.1 8) a n) (m - 1) (fun i z hi ki => ?_) ((1 : Int32) <<< (nI a &&& 31)) ?_
  · skip
    show lc_V G Γ _ _ _ 7 [(0, .ref (G.1 (14))), (1, .int (nI a)), (2, .int (nI m)), (3, .int z), (4, .int (nI (i + 1)))] [] (lc_w σ 2 x)
    refine lc_iload 4 dX5_near_7 rfl ?_
    refine lc_iload_n 2 dX5_near_9 rfl ?_
    refine lc_icmp_ge 44 dX5_near_10 (by decide) (fun h => absurd h.1 (by exact nI_ge (b := m) (show i + 1 < m by omega) (by omega))) (fun _ => ?_)
    refine lc_aload_n 0 dX5_near_13 rfl ?_
    refine lc_iload_n 1 dX5_near_14 rfl ?_
    refine lc_iload_n 3 dX5_near_15 rfl ?_
    refine lc_callV (14) (c_X5_nearest l G σ x n a z hn (by omega) (hs)) hR.2.2.2.1 hR.2.2.2.2 mt_X5_nearest (by omega) (rfl) rfl ml_X5_104 rfl rfl (Nat.le_of_ble_eq_true rfl) ⟨⟨rfl, rfl⟩, Nat.le_of_ble_eq_true rfl, Nat.le_of_ble_eq_true rfl⟩ dX5_near_16 ?_
    show lc_V _ _ _ _ _ 19 _ [.int (sp_on (sp_nearsM (σ.2.1 8) a z n).1)] (lc_w σ 2 x)
    refine lc_istore [(5, .int (sp_on (sp_nearsM (σ.2.1 8) a z n).1)), (0, .ref (G.1 (14))), (1, .int (nI a)), (2, .int (nI m)), (3, .int (z)), (4, .int (nI (i + 1)))] dX5_near_19 (by decide) rfl ?_
    refine lc_iload_n 4 dX5_near_21 rfl ?_
    refine lc_iload 0 dX5_near_22 rfl ?_
    refine lc_iconst (v := (-1)) dX5_near_24 (by decide) ?_
    refine lc_icmp_ne 32 dX5_near_25 (by decide) (fun c_2 => ?_) (fun c_2 => ?_)
    · skip
      refine lc_iconst (v := 1) dX5_near_32 (by decide) ?_
      refine lc_iload 0 dX5_near_33 rfl ?_
      refine lc_ishl dX5_near_35 ?_
      refine lc_ior dX5_near_36 ?_
      refine lc_istore_n [(3, .int ((z ||| (((1 : Int32) <<< ((sp_on (sp_nearsM (σ.2.1 8) a z n).1) &&& 31)))))), (5, .int (sp_on (sp_nearsM (σ.2.1 8) a z n).1)), (0, .ref (G.1 (14))), (1, .int (nI a)), (2, .int (nI m)), (4, .int (nI (i + 1)))] dX5_near_37 (by decide) rfl ?_
      refine lc_iinc 5 (nI (i + 1 + 1)) [(4, .int (nI (i + 1 + 1))), (3, .int ((z ||| (((1 : Int32) <<< ((sp_on (sp_nearsM (σ.2.1 8) a z n).1) &&& 31)))))), (5, .int (sp_on (sp_nearsM (σ.2.1 8) a z n).1)), (0, .ref (G.1 (14))), (1, .int (nI a)), (2, .int (nI m))] dX5_near_38 rfl (lc_inc1 (i + 1)) (by decide) rfl ?_
      refine lc_goto 7 dX5_near_41 (by decide) ?_
      refine lc_lv (lv' := [(0, .ref (G.1 (14))), (1, .int (nI a)), (2, .int (nI m)), (3, .int ((z ||| (((1 : Int32) <<< ((sp_on (sp_nearsM (σ.2.1 8) a z n).1) &&& 31)))))), (4, .int (nI (i + 1 + 1)))]) [3, 4, 5, 1, 0] rfl ?_
      rw [show sp_nrM (σ.2.1 8) a n z = (z ||| (((1 : Int32) <<< ((sp_on (sp_nearsM (σ.2.1 8) a z n).1) &&& 31)))) from by simp [sp_nrM, c_2]] at ki
      exact ki
    · skip
      refine lc_iconst (v := 0) dX5_near_28 (by decide) ?_
      refine lc_goto 36 dX5_near_29 (by decide) ?_
      refine lc_ior dX5_near_36 ?_
      refine lc_istore_n [(3, .int ((z ||| 0))), (5, .int (sp_on (sp_nearsM (σ.2.1 8) a z n).1)), (0, .ref (G.1 (14))), (1, .int (nI a)), (2, .int (nI m)), (4, .int (nI (i + 1)))] dX5_near_37 (by decide) rfl ?_
      refine lc_iinc 5 (nI (i + 1 + 1)) [(4, .int (nI (i + 1 + 1))), (3, .int ((z ||| 0))), (5, .int (sp_on (sp_nearsM (σ.2.1 8) a z n).1)), (0, .ref (G.1 (14))), (1, .int (nI a)), (2, .int (nI m))] dX5_near_38 rfl (lc_inc1 (i + 1)) (by decide) rfl ?_
      refine lc_goto 7 dX5_near_41 (by decide) ?_
      refine lc_lv (lv' := [(0, .ref (G.1 (14))), (1, .int (nI a)), (2, .int (nI m)), (3, .int ((z ||| 0))), (4, .int (nI (i + 1 + 1)))]) [3, 4, 5, 1, 0] rfl ?_
      rw [show sp_nrM (σ.2.1 8) a n z = (z ||| 0) from by simp [sp_nrM, c_2]] at ki
      exact ki
  · skip
    show lc_V G Γ _ _ _ 7 [(0, .ref (G.1 (14))), (1, .int (nI a)), (2, .int (nI m)), (3, .int (sp_keepM (σ.2.1 8) a n m)), (4, .int (nI (m - 1 + 1)))] [] (lc_w σ 2 x)
    refine lc_iload 4 dX5_near_7 rfl ?_
    refine lc_iload_n 2 dX5_near_9 rfl ?_
    refine lc_icmp_ge 44 dX5_near_10 (by decide) (fun _ => ?_) (fun h => absurd h.1 (by rw [show m - 1 + 1 = m by omega]; exact nI_nlt (a := m) (b := m) (Nat.le_refl _) (by omega)))
    refine lc_iload_n 3 dX5_near_44 rfl ?_
    exact lc_iret hR dX5_near_45 (rfl) (rfl)

set_option maxRecDepth 100000 in
set_option maxHeartbeats 4000000 in
theorem c_X5_wakes (l : Launch) (G : lc_G) (σ : lc_S) (x : lc_X) (i k : Nat) (hi : i < 24) (hk : k < 24) : lc_M l G yX5_wakes cX5_wakes 3 (some .boolean) { frames := 1, cells := 0, slots := 0, locals := 21 } [.ref (G.1 (14)), .int (nI i), .int (nI k)] (lc_w σ 2 x) (some (.int (lc_bi (sp_dor x.1 i && sp_below x.1 k (x.1 2 i))))) (lc_w σ 2 x) := by
  refine lc_entry [(0, .ref (G.1 (14))), (1, .int (nI i)), (2, .int (nI k))] (by decide) (Nat.le_of_ble_eq_true rfl) rfl rfl rfl ?_
  intro Γ hR
  refine lc_aload_n 0 dX5_wakes_0 rfl ?_
  refine lc_iload_n 1 dX5_wakes_1 rfl ?_
  refine lc_callV (14) (c_X5_isDormant l G σ x i (by omega)) hR.2.2.2.1 hR.2.2.2.2 mt_X5_isDormant (by omega) (rfl) rfl ml_X5_80 rfl rfl (Nat.le_of_ble_eq_true rfl) ⟨⟨rfl, rfl⟩, Nat.le_of_ble_eq_true rfl, Nat.le_of_ble_eq_true rfl⟩ dX5_wakes_2 ?_
  show lc_V _ _ _ _ _ 5 _ [.int (lc_bi (sp_dor x.1 i))] (lc_w σ 2 x)
  refine lc_ifb_eq 36 dX5_wakes_5 (by decide) (fun c_1 => ?_) (fun c_1 => ?_)
  · skip
    refine lc_iconst (v := 0) dX5_wakes_36 (by decide) ?_
    exact lc_zret hR dX5_wakes_37 (by simp [sp_below, lc_bi, c_1]) (rfl)
  · skip
    refine lc_aload_n 0 dX5_wakes_8 rfl ?_
    refine lc_g_msort fl_X5_19 dX5_wakes_9 ?_
    refine lc_iload_n 2 dX5_wakes_12 rfl ?_
    refine lc_iald (f := x.1 0) (18) k (by omega) (rfl) (rfl) (by omega) (by decide) dX5_wakes_13 ?_
    refine lc_if_eq 36 dX5_wakes_14 (by decide) (fun c_2 => ?_) (fun c_2 => ?_)
    · skip
      refine lc_iconst (v := 0) dX5_wakes_36 (by decide) ?_
      exact lc_zret hR dX5_wakes_37 (by simp [sp_below, lc_bi, c_1, c_2]) (rfl)
    · skip
      refine lc_aload_n 0 dX5_wakes_17 rfl ?_
      refine lc_g_mstamp fl_X5_25 dX5_wakes_18 ?_
      refine lc_iload_n 2 dX5_wakes_21 rfl ?_
      refine lc_iald (f := x.1 2) (20) k (by omega) (rfl) (rfl) (by omega) (by decide) dX5_wakes_22 ?_
      refine lc_aload_n 0 dX5_wakes_23 rfl ?_
      refine lc_g_mstamp fl_X5_25 dX5_wakes_24 ?_
      refine lc_iload_n 1 dX5_wakes_27 rfl ?_
      refine lc_iald (f := x.1 2) (20) i (by omega) (rfl) (rfl) (by omega) (by decide) dX5_wakes_28 ?_
      refine lc_icmp_ge 36 dX5_wakes_29 (by decide) (fun c_3 => ?_) (fun c_3 => ?_)
      · skip
        refine lc_iconst (v := 0) dX5_wakes_36 (by decide) ?_
        exact lc_zret hR dX5_wakes_37 (by simp [sp_below, lc_bi, c_1, c_2, c_3]) (rfl)
      · skip
        refine lc_iconst (v := 1) dX5_wakes_32 (by decide) ?_
        refine lc_goto 37 dX5_wakes_33 (by decide) ?_
        exact lc_zret hR dX5_wakes_37 (by simp [sp_below, lc_bi, c_1, c_2, c_3]) (rfl)

set_option maxRecDepth 100000 in
set_option maxHeartbeats 4000000 in
theorem c_X5_goes (l : Launch) (G : lc_G) (σ : lc_S) (x : lc_X) (i k : Nat) (hi : i < 24) (hk : k < 24) : lc_M l G yX5_goes cX5_goes 3 (some .int) { frames := 2, cells := 0, slots := 0, locals := 42 } [.ref (G.1 (14)), .int (nI i), .int (nI k)] (lc_w σ 2 x) (some (.int ((sp_goes x i k).1))) (lc_w σ 2 ((sp_goes x i k).2)) := by
  refine lc_entry [(0, .ref (G.1 (14))), (1, .int (nI i)), (2, .int (nI k))] (by decide) (Nat.le_of_ble_eq_true rfl) rfl rfl rfl ?_
  intro Γ hR
  refine lc_aload_n 0 dX5_goes_0 rfl ?_
  refine lc_iload_n 1 dX5_goes_1 rfl ?_
  refine lc_callV (14) (c_X5_isAwake l G σ x i (by omega)) hR.2.2.2.1 hR.2.2.2.2 mt_X5_isAwake (by omega) (rfl) rfl ml_X5_114 rfl rfl (Nat.le_of_ble_eq_true rfl) ⟨⟨rfl, rfl⟩, Nat.le_of_ble_eq_true rfl, Nat.le_of_ble_eq_true rfl⟩ dX5_goes_2 ?_
  show lc_V _ _ _ _ _ 5 _ [.int (lc_bi (sp_awM x.1 i))] (lc_w σ 2 x)
  refine lc_ifb_eq 35 dX5_goes_5 (by decide) (fun c_1 => ?_) (fun c_1 => ?_)
  · skip
    refine lc_iconst (v := 0) dX5_goes_35 (by decide) ?_
    exact lc_iret hR dX5_goes_36 (by simp [sp_goes, lc_bi, c_1]) (by simp [sp_goes, lc_bi, c_1])
  · skip
    refine lc_aload_n 0 dX5_goes_8 rfl ?_
    refine lc_g_msort fl_X5_19 dX5_goes_9 ?_
    refine lc_iload_n 2 dX5_goes_12 rfl ?_
    refine lc_iald (f := x.1 0) (18) k (by omega) (rfl) (rfl) (by omega) (by decide) dX5_goes_13 ?_
    refine lc_if_eq 26 dX5_goes_14 (by decide) (fun c_2 => ?_) (fun c_2 => ?_)
    · skip
      refine lc_aload_n 0 dX5_goes_26 rfl ?_
      refine lc_iload_n 1 dX5_goes_27 rfl ?_
      refine lc_iload_n 2 dX5_goes_28 rfl ?_
      refine lc_iconst (v := 0) dX5_goes_29 (by decide) ?_
      refine lc_callV (14) (c_X5_copy l G σ x i k (by omega) (by omega) 0) hR.2.2.2.1 hR.2.2.2.2 mt_X5_copy (by omega) (rfl) rfl ml_X5_120 rfl rfl (Nat.le_of_ble_eq_true rfl) ⟨⟨rfl, rfl⟩, Nat.le_of_ble_eq_true rfl, Nat.le_of_ble_eq_true rfl⟩ dX5_goes_30 ?_
      show lc_V _ _ _ _ _ 33 _ [] (lc_w σ 2 ((sp_copy x.1 k x.1 i 0, x.2)))
      refine lc_iconst (v := 1) dX5_goes_33 (by decide) ?_
      exact lc_iret hR dX5_goes_34 (by simp [sp_goes, lc_bi, c_1, c_2]) (by simp [sp_goes, lc_bi, c_1, c_2])
    · skip
      refine lc_aload_n 0 dX5_goes_17 rfl ?_
      refine lc_iload_n 1 dX5_goes_18 rfl ?_
      refine lc_iload_n 2 dX5_goes_19 rfl ?_
      refine lc_callV (14) (c_X5_isNewer l G σ x i k (by omega) (by omega)) hR.2.2.2.1 hR.2.2.2.2 mt_X5_isNewer (by omega) (rfl) rfl ml_X5_117 rfl rfl (Nat.le_of_ble_eq_true rfl) ⟨⟨rfl, rfl⟩, Nat.le_of_ble_eq_true rfl, Nat.le_of_ble_eq_true rfl⟩ dX5_goes_20 ?_
      show lc_V _ _ _ _ _ 23 _ [.int (lc_bi (sp_new x.1 i k))] (lc_w σ 2 x)
      refine lc_ifb_eq 35 dX5_goes_23 (by decide) (fun c_3 => ?_) (fun c_3 => ?_)
      · skip
        refine lc_iconst (v := 0) dX5_goes_35 (by decide) ?_
        exact lc_iret hR dX5_goes_36 (by simp [sp_goes, lc_bi, c_1, c_2, c_3]) (by simp [sp_goes, lc_bi, c_1, c_2, c_3])
      · skip
        refine lc_aload_n 0 dX5_goes_26 rfl ?_
        refine lc_iload_n 1 dX5_goes_27 rfl ?_
        refine lc_iload_n 2 dX5_goes_28 rfl ?_
        refine lc_iconst (v := 0) dX5_goes_29 (by decide) ?_
        refine lc_callV (14) (c_X5_copy l G σ x i k (by omega) (by omega) 0) hR.2.2.2.1 hR.2.2.2.2 mt_X5_copy (by omega) (rfl) rfl ml_X5_120 rfl rfl (Nat.le_of_ble_eq_true rfl) ⟨⟨rfl, rfl⟩, Nat.le_of_ble_eq_true rfl, Nat.le_of_ble_eq_true rfl⟩ dX5_goes_30 ?_
        show lc_V _ _ _ _ _ 33 _ [] (lc_w σ 2 ((sp_copy x.1 k x.1 i 0, x.2)))
        refine lc_iconst (v := 1) dX5_goes_33 (by decide) ?_
        exact lc_iret hR dX5_goes_34 (by simp [sp_goes, lc_bi, c_1, c_2, c_3]) (by simp [sp_goes, lc_bi, c_1, c_2, c_3])

set_option maxRecDepth 100000 in
set_option maxHeartbeats 4000000 in
theorem c_X5_meet (l : Launch) (G : lc_G) (σ : lc_S) (x : lc_X) (a b : Nat) (ha : a < 6) (hb : b < 6) (k : Nat) (hk : k < 4) : lc_M l G yX5_meet cX5_meet 6 (some .int) { frames := 3, cells := 0, slots := 0, locals := 64 } [.ref (G.1 (14)), .int (nI a), .int (nI b), .int (nI k)] (lc_w σ 2 x) (some (.int ((sp_meetM x (4 * a + k) (4 * b + k)).1))) (lc_w σ 2 ((sp_meetM x (4 * a + k) (4 * b + k)).2)) := by
  refine lc_entry [(0, .ref (G.1 (14))), (1, .int (nI a)), (2, .int (nI b)), (3, .int (nI k))] (by decide) (Nat.le_of_ble_eq_true rfl) rfl rfl rfl ?_
  intro Γ hR
  have K51 : lc_V G Γ cX5_meet 6 RX5 51 [(0, .ref (G.1 (14))), (4, .int (nI (4 * a + k))), (5, .int (nI (4 * b + k)))] [] (lc_w σ 2 (sp_meetW x (4 * a + k) (4 * b + k))) := by
    refine lc_aload_n 0 dX5_meet_51 rfl ?_
    refine lc_iload 1 dX5_meet_52 rfl ?_
    refine lc_iload 2 dX5_meet_54 rfl ?_
    refine lc_callV (14) (c_X5_goes l G σ (sp_meetW x (4 * a + k) (4 * b + k)) (4 * a + k) (4 * b + k) (by omega) (by omega)) hR.2.2.2.1 hR.2.2.2.2 mt_X5_goes (by omega) (rfl) rfl ml_X5_130 rfl rfl (Nat.le_of_ble_eq_true rfl) ⟨⟨rfl, rfl⟩, Nat.le_of_ble_eq_true rfl, Nat.le_of_ble_eq_true rfl⟩ dX5_meet_56 ?_
    show lc_V _ _ _ _ _ 59 _ [.int ((sp_goes (sp_meetW x (4 * a + k) (4 * b + k)) (4 * a + k) (4 * b + k)).1)] (lc_w σ 2 ((sp_goes (sp_meetW x (4 * a + k) (4 * b + k)) (4 * a + k) (4 * b + k)).2))
    refine lc_aload_n 0 dX5_meet_59 rfl ?_
    refine lc_iload 2 dX5_meet_60 rfl ?_
    refine lc_iload 1 dX5_meet_62 rfl ?_
    refine lc_callV (14) (c_X5_goes l G σ ((sp_goes (sp_meetW x (4 * a + k) (4 * b + k)) (4 * a + k) (4 * b + k)).2) (4 * b + k) (4 * a + k) (by omega) (by omega)) hR.2.2.2.1 hR.2.2.2.2 mt_X5_goes (by omega) (rfl) rfl ml_X5_130 rfl rfl (Nat.le_of_ble_eq_true rfl) ⟨⟨rfl, rfl⟩, Nat.le_of_ble_eq_true rfl, Nat.le_of_ble_eq_true rfl⟩ dX5_meet_64 ?_
    show lc_V _ _ _ _ _ 67 _ [.int ((sp_goes ((sp_goes (sp_meetW x (4 * a + k) (4 * b + k)) (4 * a + k) (4 * b + k)).2) (4 * b + k) (4 * a + k)).1), .int ((sp_goes (sp_meetW x (4 * a + k) (4 * b + k)) (4 * a + k) (4 * b + k)).1)] (lc_w σ 2 ((sp_goes ((sp_goes (sp_meetW x (4 * a + k) (4 * b + k)) (4 * a + k) (4 * b + k)).2) (4 * b + k) (4 * a + k)).2))
    refine lc_iadd dX5_meet_67 ?_
    exact lc_iret hR dX5_meet_68 (rfl) (rfl)
  refine lc_iconst (v := 4) dX5_meet_0 (by decide) ?_
  refine lc_iload_n 1 dX5_meet_1 rfl ?_
  refine lc_imul dX5_meet_2 ?_
  refine lc_iload_n 3 dX5_meet_3 rfl ?_
  refine lc_iadd dX5_meet_4 ?_
  refine lc_topi (nI (4 * a + k)) (lc_m4la a k) ?_
  refine lc_istore [(4, .int (nI (4 * a + k))), (0, .ref (G.1 (14))), (1, .int (nI a)), (2, .int (nI b)), (3, .int (nI k))] dX5_meet_5 (by decide) rfl ?_
  refine lc_iconst (v := 4) dX5_meet_7 (by decide) ?_
  refine lc_iload_n 3 dX5_meet_8 rfl ?_
  refine lc_imul dX5_meet_9 ?_
  refine lc_iload_n 4 dX5_meet_10 rfl ?_
  refine lc_iadd dX5_meet_11 ?_
  refine lc_topi (nI (4 * b + k)) (lc_m4la b k) ?_
  refine lc_istore [(5, .int (nI (4 * b + k))), (4, .int (nI (4 * a + k))), (0, .ref (G.1 (14))), (1, .int (nI a)), (2, .int (nI b)), (3, .int (nI k))] dX5_meet_12 (by decide) rfl ?_
  refine lc_aload_n 2 dX5_meet_14 rfl ?_
  refine lc_iload 1 dX5_meet_15 rfl ?_
  refine lc_iload 0 dX5_meet_17 rfl ?_
  refine lc_callV (14) (c_X5_wakes l G σ x (4 * a + k) (4 * b + k) (by omega) (by omega)) hR.2.2.2.1 hR.2.2.2.2 mt_X5_wakes (by omega) (rfl) rfl ml_X5_124 rfl rfl (Nat.le_of_ble_eq_true rfl) ⟨⟨rfl, rfl⟩, Nat.le_of_ble_eq_true rfl, Nat.le_of_ble_eq_true rfl⟩ dX5_meet_19 ?_
  show lc_V _ _ _ _ _ 22 _ [.int (lc_bi (sp_dor x.1 (4 * a + k) && sp_below x.1 (4 * b + k) (x.1 2 (4 * a + k))))] (lc_w σ 2 x)
  refine lc_ifb_eq 34 dX5_meet_22 (by decide) (fun c_1 => ?_) (fun c_1 => ?_)
  · skip
    refine lc_aload_n 2 dX5_meet_34 rfl ?_
    refine lc_iload 0 dX5_meet_35 rfl ?_
    refine lc_iload 1 dX5_meet_37 rfl ?_
    refine lc_callV (14) (c_X5_wakes l G σ x (4 * b + k) (4 * a + k) (by omega) (by omega)) hR.2.2.2.1 hR.2.2.2.2 mt_X5_wakes (by omega) (rfl) rfl ml_X5_124 rfl rfl (Nat.le_of_ble_eq_true rfl) ⟨⟨rfl, rfl⟩, Nat.le_of_ble_eq_true rfl, Nat.le_of_ble_eq_true rfl⟩ dX5_meet_39 ?_
    show lc_V _ _ _ _ _ 42 _ [.int (lc_bi (sp_dor x.1 (4 * b + k) && sp_below x.1 (4 * a + k) (x.1 2 (4 * b + k))))] (lc_w σ 2 x)
    refine lc_ifb_eq 51 dX5_meet_42 (by decide) (fun c_2 => ?_) (fun c_2 => ?_)
    · skip
      refine lc_lv (lv' := [(0, .ref (G.1 (14))), (4, .int (nI (4 * a + k))), (5, .int (nI (4 * b + k)))]) [2, 1, 0] rfl ?_
      refine lc_eq (σ' := lc_w σ 2 (sp_meetW x (4 * a + k) (4 * b + k))) (by simp only [sp_meetW, c_1, c_2, if_true, if_false, Bool.false_eq_true]) ?_
      exact K51
    · skip
      refine lc_aload_n 2 dX5_meet_45 rfl ?_
      refine lc_iload 0 dX5_meet_46 rfl ?_
      refine lc_callV (14) (c_X5_wake l G σ x (4 * b + k) (by omega)) hR.2.2.2.1 hR.2.2.2.2 mt_X5_wake (by omega) (rfl) rfl ml_X5_127 rfl rfl (Nat.le_of_ble_eq_true rfl) ⟨⟨rfl, rfl⟩, Nat.le_of_ble_eq_true rfl, Nat.le_of_ble_eq_true rfl⟩ dX5_meet_48 ?_
      show lc_V _ _ _ _ _ 51 _ [] (lc_w σ 2 (sp_wake x (4 * b + k)))
      refine lc_lv (lv' := [(0, .ref (G.1 (14))), (4, .int (nI (4 * a + k))), (5, .int (nI (4 * b + k)))]) [2, 1, 0] rfl ?_
      refine lc_eq (σ' := lc_w σ 2 (sp_meetW x (4 * a + k) (4 * b + k))) (by simp only [sp_meetW, c_1, c_2, if_true, if_false, Bool.false_eq_true]) ?_
      exact K51
  · skip
    refine lc_aload_n 2 dX5_meet_25 rfl ?_
    refine lc_iload 1 dX5_meet_26 rfl ?_
    refine lc_callV (14) (c_X5_wake l G σ x (4 * a + k) (by omega)) hR.2.2.2.1 hR.2.2.2.2 mt_X5_wake (by omega) (rfl) rfl ml_X5_127 rfl rfl (Nat.le_of_ble_eq_true rfl) ⟨⟨rfl, rfl⟩, Nat.le_of_ble_eq_true rfl, Nat.le_of_ble_eq_true rfl⟩ dX5_meet_28 ?_
    show lc_V _ _ _ _ _ 31 _ [] (lc_w σ 2 (sp_wake x (4 * a + k)))
    refine lc_goto 51 dX5_meet_31 (by decide) ?_
    refine lc_lv (lv' := [(0, .ref (G.1 (14))), (4, .int (nI (4 * a + k))), (5, .int (nI (4 * b + k)))]) [2, 1, 0] rfl ?_
    refine lc_eq (σ' := lc_w σ 2 (sp_meetW x (4 * a + k) (4 * b + k))) (by simp only [sp_meetW, c_1, if_true, if_false, Bool.false_eq_true]) ?_
    exact K51

set_option maxRecDepth 100000 in
set_option maxHeartbeats 4000000 in
theorem c_X5_areSame (l : Launch) (G : lc_G) (σ : lc_S) (x : lc_X) (i k : Nat) (hi : i < 24) (hk : k < 24) : lc_M l G yX5_areSame cX5_areSame 4 (some .boolean) { frames := 2, cells := 0, slots := 0, locals := 42 } [.ref (G.1 (14)), .int (nI i), .int (nI k)] (lc_w σ 2 x) (some (.int (lc_bi (sp_sameM x.1 i k)))) (lc_w σ 2 x) := by
  refine lc_entry [(0, .ref (G.1 (14))), (1, .int (nI i)), (2, .int (nI k))] (by decide) (Nat.le_of_ble_eq_true rfl) rfl rfl rfl ?_
  intro Γ hR
  refine lc_aload_n 0 dX5_areSame_0 rfl ?_
  refine lc_iload_n 1 dX5_areSame_1 rfl ?_
  refine lc_callV (14) (c_X5_isAwake l G σ x i (by omega)) hR.2.2.2.1 hR.2.2.2.2 mt_X5_isAwake (by omega) (rfl) rfl ml_X5_114 rfl rfl (Nat.le_of_ble_eq_true rfl) ⟨⟨rfl, rfl⟩, Nat.le_of_ble_eq_true rfl, Nat.le_of_ble_eq_true rfl⟩ dX5_areSame_2 ?_
  show lc_V _ _ _ _ _ 5 _ [.int (lc_bi (sp_awM x.1 i))] (lc_w σ 2 x)
  refine lc_istore_n [(3, .int (lc_bi (sp_awM x.1 i))), (0, .ref (G.1 (14))), (1, .int (nI i)), (2, .int (nI k))] dX5_areSame_5 (by decide) rfl ?_
  refine lc_iload_n 0 dX5_areSame_6 rfl ?_
  refine lc_aload_n 1 dX5_areSame_7 rfl ?_
  refine lc_iload_n 3 dX5_areSame_8 rfl ?_
  refine lc_callV (14) (c_X5_isAwake l G σ x k (by omega)) hR.2.2.2.1 hR.2.2.2.2 mt_X5_isAwake (by omega) (rfl) rfl ml_X5_114 rfl rfl (Nat.le_of_ble_eq_true rfl) ⟨⟨rfl, rfl⟩, Nat.le_of_ble_eq_true rfl, Nat.le_of_ble_eq_true rfl⟩ dX5_areSame_9 ?_
  show lc_V _ _ _ _ _ 12 _ [.int (lc_bi (sp_awM x.1 k)), .int (lc_bi (sp_awM x.1 i))] (lc_w σ 2 x)
  refine lc_icmp_ne 53 dX5_areSame_12 (by decide) (fun c_1 => ?_) (fun c_1 => ?_)
  · skip
    refine lc_iconst (v := 0) dX5_areSame_53 (by decide) ?_
    exact lc_zret hR dX5_areSame_54 (by simp [sp_sameM, lc_bi_ne c_1.1, lc_bi]) (rfl)
  · skip
    refine lc_iload_n 0 dX5_areSame_15 rfl ?_
    refine lc_ifb_eq 49 dX5_areSame_16 (by decide) (fun c_2 => ?_) (fun c_2 => ?_)
    · skip
      refine lc_iconst (v := 1) dX5_areSame_49 (by decide) ?_
      refine lc_goto 54 dX5_areSame_50 (by decide) ?_
      exact lc_zret hR dX5_areSame_54 (by have e0 := lc_bi_inj c_1; simp [sp_sameM, ← e0, lc_bi, c_2]) (rfl)
    · skip
      refine lc_aload_n 1 dX5_areSame_19 rfl ?_
      refine lc_g_mstamp fl_X5_25 dX5_areSame_20 ?_
      refine lc_iload_n 2 dX5_areSame_23 rfl ?_
      refine lc_iald (f := x.1 2) (20) i (by omega) (rfl) (rfl) (by omega) (by decide) dX5_areSame_24 ?_
      refine lc_aload_n 1 dX5_areSame_25 rfl ?_
      refine lc_g_mstamp fl_X5_25 dX5_areSame_26 ?_
      refine lc_iload_n 3 dX5_areSame_29 rfl ?_
      refine lc_iald (f := x.1 2) (20) k (by omega) (rfl) (rfl) (by omega) (by decide) dX5_areSame_30 ?_
      refine lc_icmp_ne 53 dX5_areSame_31 (by decide) (fun c_3 => ?_) (fun c_3 => ?_)
      · skip
        refine lc_iconst (v := 0) dX5_areSame_53 (by decide) ?_
        exact lc_zret hR dX5_areSame_54 (by have e0 := lc_bi_inj c_1; simp [sp_sameM, ← e0, lc_bi, c_2, c_3]) (rfl)
      · skip
        refine lc_aload_n 1 dX5_areSame_34 rfl ?_
        refine lc_g_mactive fl_X5_28 dX5_areSame_35 ?_
        refine lc_iload_n 2 dX5_areSame_38 rfl ?_
        refine lc_iald (f := x.1 3) (21) i (by omega) (rfl) (rfl) (by omega) (by decide) dX5_areSame_39 ?_
        refine lc_aload_n 1 dX5_areSame_40 rfl ?_
        refine lc_g_mactive fl_X5_28 dX5_areSame_41 ?_
        refine lc_iload_n 3 dX5_areSame_44 rfl ?_
        refine lc_iald (f := x.1 3) (21) k (by omega) (rfl) (rfl) (by omega) (by decide) dX5_areSame_45 ?_
        refine lc_icmp_ne 53 dX5_areSame_46 (by decide) (fun c_4 => ?_) (fun c_4 => ?_)
        · skip
          refine lc_iconst (v := 0) dX5_areSame_53 (by decide) ?_
          exact lc_zret hR dX5_areSame_54 (by have e0 := lc_bi_inj c_1; simp [sp_sameM, ← e0, lc_bi, c_2, c_3, c_4]) (rfl)
        · skip
          refine lc_iconst (v := 1) dX5_areSame_49 (by decide) ?_
          refine lc_goto 54 dX5_areSame_50 (by decide) ?_
          exact lc_zret hR dX5_areSame_54 (by have e0 := lc_bi_inj c_1; simp [sp_sameM, ← e0, lc_bi, c_2, c_3, c_4]) (rfl)

set_option maxRecDepth 100000 in
set_option maxHeartbeats 4000000 in
theorem c_X5_areAlike (l : Launch) (G : lc_G) (σ : lc_S) (x : lc_X) (a b : Nat) (ha : a < 6) (hb : b < 6) : lc_M l G yX5_areAlike cX5_areAlike 5 (some .boolean) { frames := 3, cells := 0, slots := 0, locals := 65 } [.ref (G.1 (14)), .int (nI a), .int (nI b)] (lc_w σ 2 x) (some (.int (lc_bi (sp_alikeM x.1 a b)))) (lc_w σ 2 x) := by
  refine lc_entry [(0, .ref (G.1 (14))), (1, .int (nI a)), (2, .int (nI b))] (by decide) (Nat.le_of_ble_eq_true rfl) rfl rfl rfl ?_
  intro Γ hR
  refine lc_iconst (v := 1) dX5_areAlike_0 (by decide) ?_
  refine lc_istore_n [(3, .int (1)), (0, .ref (G.1 (14))), (1, .int (nI a)), (2, .int (nI b))] dX5_areAlike_1 (by decide) rfl ?_
  refine lc_iconst (v := 0) dX5_areAlike_2 (by decide) ?_
  refine lc_istore [(4, .int (0)), (3, .int (1)), (0, .ref (G.1 (14))), (1, .int (nI a)), (2, .int (nI b))] dX5_areAlike_3 (by decide) rfl ?_
  refine lc_lv (lv' := [(0, .ref (G.1 (14))), (1, .int (nI a)), (2, .int (nI b)), (3, .int (1)), (4, .int (0))]) [2, 3, 4, 1, 0] rfl ?_
  refine lc_forI (α := Bool) (fun k z => lc_V G Γ cX5_areAlike 5 RX5 5 [(0, .ref (G.1 (14))), (1, .int (nI a)), (2, .int (nI b)), (3, .int (lc_bi (z))), (4, .int (nI k))] [] (lc_w σ 2 x)) (fun _ _ => True) (fun k z => z && sp_sameM x.1 (4 * a + k) (4 * b + k)) 4 (fun _ _ _ _ => trivial) (fun k z hk hIk kk => ?_) true (trivial) (fun hIk => ?_)
  · skip
    show lc_V G Γ cX5_areAlike 5 RX5 5 [(0, .ref (G.1 (14))), (1, .int (nI a)), (2, .int (nI b)), (3, .int (lc_bi (z))), (4, .int (nI k))] [] (lc_w σ 2 x)
    refine lc_iload 4 dX5_areAlike_5 rfl ?_
    refine lc_iconst (v := 4) dX5_areAlike_7 (by decide) ?_
    refine lc_icmp_ge 46 dX5_areAlike_8 (by decide) (fun h => absurd h.1 (by exact nI_ge (b := 4) hk (by omega))) (fun _ => ?_)
    refine lc_iload_n 3 dX5_areAlike_11 rfl ?_
    refine lc_ifb_eq 38 dX5_areAlike_12 (by decide) (fun c_2 => ?_) (fun c_2 => ?_)
    · skip
      refine lc_iconst (v := 0) dX5_areAlike_38 (by decide) ?_
      refine lc_istore_n [(3, .int (0)), (0, .ref (G.1 (14))), (1, .int (nI a)), (2, .int (nI b)), (4, .int (nI k))] dX5_areAlike_39 (by decide) rfl ?_
      refine lc_iinc 4 (nI (k + 1)) [(4, .int (nI (k + 1))), (3, .int (0)), (0, .ref (G.1 (14))), (1, .int (nI a)), (2, .int (nI b))] dX5_areAlike_40 rfl (lc_inc1 k) (by decide) rfl ?_
      refine lc_goto 5 dX5_areAlike_43 (by decide) ?_
      refine lc_lv (lv' := [(0, .ref (G.1 (14))), (1, .int (nI a)), (2, .int (nI b)), (3, .int (0)), (4, .int (nI (k + 1)))]) [2, 3, 4, 1, 0] rfl ?_
      rw [show (z && sp_sameM x.1 (4 * a + k) (4 * b + k)) = false from by simp [c_2]] at kk
      exact kk
    · skip
      refine lc_aload_n 0 dX5_areAlike_15 rfl ?_
      refine lc_iconst (v := 4) dX5_areAlike_16 (by decide) ?_
      refine lc_iload_n 1 dX5_areAlike_17 rfl ?_
      refine lc_imul dX5_areAlike_18 ?_
      refine lc_iload 4 dX5_areAlike_19 rfl ?_
      refine lc_iadd dX5_areAlike_21 ?_
      refine lc_topi (nI (4 * a + k)) (lc_m4la a k) ?_
      refine lc_iconst (v := 4) dX5_areAlike_22 (by decide) ?_
      refine lc_iload_n 2 dX5_areAlike_23 rfl ?_
      refine lc_imul dX5_areAlike_24 ?_
      refine lc_iload 4 dX5_areAlike_25 rfl ?_
      refine lc_iadd dX5_areAlike_27 ?_
      refine lc_topi (nI (4 * b + k)) (lc_m4la b k) ?_
      refine lc_callV (14) (c_X5_areSame l G σ x (4 * a + k) (4 * b + k) (by omega) (by omega)) hR.2.2.2.1 hR.2.2.2.2 mt_X5_areSame (by omega) (rfl) rfl ml_X5_133 rfl rfl (Nat.le_of_ble_eq_true rfl) ⟨⟨rfl, rfl⟩, Nat.le_of_ble_eq_true rfl, Nat.le_of_ble_eq_true rfl⟩ dX5_areAlike_28 ?_
      show lc_V _ _ _ _ _ 31 _ [.int (lc_bi (sp_sameM x.1 (4 * a + k) (4 * b + k)))] (lc_w σ 2 x)
      refine lc_tern 38 39 dX5_areAlike_31 (by decide) dX5_areAlike_34 dX5_areAlike_35 (by decide) dX5_areAlike_38 rfl ?_
      refine lc_istore_n [(3, .int (lc_bi (sp_sameM x.1 (4 * a + k) (4 * b + k)))), (0, .ref (G.1 (14))), (1, .int (nI a)), (2, .int (nI b)), (4, .int (nI k))] dX5_areAlike_39 (by decide) rfl ?_
      refine lc_iinc 4 (nI (k + 1)) [(4, .int (nI (k + 1))), (3, .int (lc_bi (sp_sameM x.1 (4 * a + k) (4 * b + k)))), (0, .ref (G.1 (14))), (1, .int (nI a)), (2, .int (nI b))] dX5_areAlike_40 rfl (lc_inc1 k) (by decide) rfl ?_
      refine lc_goto 5 dX5_areAlike_43 (by decide) ?_
      refine lc_lv (lv' := [(0, .ref (G.1 (14))), (1, .int (nI a)), (2, .int (nI b)), (3, .int (lc_bi (sp_sameM x.1 (4 * a + k) (4 * b + k)))), (4, .int (nI (k + 1)))]) [2, 3, 4, 1, 0] rfl ?_
      rw [show (z && sp_sameM x.1 (4 * a + k) (4 * b + k)) = (sp_sameM x.1 (4 * a + k) (4 * b + k)) from by simp [c_2]] at kk
      exact kk
  · skip
    show lc_V G Γ cX5_areAlike 5 RX5 5 [(0, .ref (G.1 (14))), (1, .int (nI a)), (2, .int (nI b)), (3, .int (lc_bi ((sp_alikeM x.1 a b)))), (4, .int (nI 4))] [] (lc_w σ 2 x)
    refine lc_iload 4 dX5_areAlike_5 rfl ?_
    refine lc_iconst (v := 4) dX5_areAlike_7 (by decide) ?_
    refine lc_icmp_ge 46 dX5_areAlike_8 (by decide) (fun _ => ?_) (fun h => absurd h.1 (by exact nI_nlt (a := 4) (b := 4) (Nat.le_refl _) (by omega)))
    refine lc_iload_n 3 dX5_areAlike_46 rfl ?_
    exact lc_zret hR dX5_areAlike_47 (rfl) (rfl)

set_option maxRecDepth 100000 in
set_option maxHeartbeats 4000000 in
theorem c_X5_meetAll (l : Launch) (G : lc_G) (σ : lc_S) (x : lc_X) (a b : Nat) (ha : a < 6) (hb : b < 6) (keys : Int32) : lc_M l G yX5_meetAll cX5_meetAll 6 (some .int) { frames := 4, cells := 0, slots := 0, locals := 89 } [.ref (G.1 (14)), .int (nI a), .int (nI b), .int (keys)] (lc_w σ 2 x) (some (.int ((sp_mksM x a b keys).1))) (lc_w σ 2 ((sp_mksM x a b keys).2)) := by
  refine lc_entry [(0, .ref (G.1 (14))), (1, .int (nI a)), (2, .int (nI b)), (3, .int (keys))] (by decide) (Nat.le_of_ble_eq_true rfl) rfl rfl rfl ?_
  intro Γ hR
  refine lc_iconst (v := 0) dX5_meetAll_0 (by decide) ?_
  refine lc_istore [(4, .int (0)), (0, .ref (G.1 (14))), (1, .int (nI a)), (2, .int (nI b)), (3, .int (keys))] dX5_meetAll_1 (by decide) rfl ?_
  refine lc_lv (lv' := [(0, .ref (G.1 (14))), (1, .int (nI a)), (2, .int (nI b)), (3, .int (keys)), (4, .int (0))]) [1, 2, 3, 4, 0] rfl ?_
  refine lc_forI (α := lc_X) (fun k z => lc_V G Γ cX5_meetAll 6 RX5 3 [(0, .ref (G.1 (14))), (1, .int (nI a)), (2, .int (nI b)), (3, .int (keys)), (4, .int (nI k))] [] (lc_w σ 2 z)) (fun _ _ => True) (sp_trM a b keys) 4 (fun _ _ _ _ => trivial) (fun k z hk hIk kk => ?_) x (trivial) (fun hIk => ?_)
  · skip
    show lc_V G Γ cX5_meetAll 6 RX5 3 [(0, .ref (G.1 (14))), (1, .int (nI a)), (2, .int (nI b)), (3, .int (keys)), (4, .int (nI k))] [] (lc_w σ 2 z)
    refine lc_iload 4 dX5_meetAll_3 rfl ?_
    refine lc_iconst (v := 4) dX5_meetAll_5 (by decide) ?_
    refine lc_icmp_ge 78 dX5_meetAll_6 (by decide) (fun h => absurd h.1 (by exact nI_ge (b := 4) hk (by omega))) (fun _ => ?_)
    refine lc_iload_n 3 dX5_meetAll_9 rfl ?_
    refine lc_iload 4 dX5_meetAll_10 rfl ?_
    refine lc_callS (c_X5_isIn l G (lc_w σ 2 z) keys (nI k)) hR.2.2.2.1 hR.2.2.2.2 mt_X5_isIn ml_X5_84 rfl rfl (Nat.le_of_ble_eq_true rfl) ⟨⟨rfl, rfl⟩, Nat.le_of_ble_eq_true rfl, Nat.le_of_ble_eq_true rfl⟩ dX5_meetAll_12 ?_
    show lc_V _ _ _ _ _ 15 _ [.int (lc_bi (sp_bit keys (nI k)))] (lc_w σ 2 z)
    refine lc_ifb_eq 72 dX5_meetAll_15 (by decide) (fun c_2 => ?_) (fun c_2 => ?_)
    · skip
      refine lc_iinc 4 (nI (k + 1)) [(4, .int (nI (k + 1))), (0, .ref (G.1 (14))), (1, .int (nI a)), (2, .int (nI b)), (3, .int (keys))] dX5_meetAll_72 rfl (lc_inc1 k) (by decide) rfl ?_
      refine lc_goto 3 dX5_meetAll_75 (by decide) ?_
      refine lc_lv (lv' := [(0, .ref (G.1 (14))), (1, .int (nI a)), (2, .int (nI b)), (3, .int (keys)), (4, .int (nI (k + 1)))]) [1, 2, 3, 4, 0] rfl ?_
      rw [show (sp_trM a b keys) k z = z from by simp [sp_trM, sp_tr, c_2]] at kk
      exact kk
    · skip
      refine lc_aload_n 0 dX5_meetAll_18 rfl ?_
      refine lc_dup dX5_meetAll_19 rfl ?_
      refine lc_gMTra fl_X5_68 dX5_meetAll_20 ?_
      refine lc_aload_n 0 dX5_meetAll_23 rfl ?_
      refine lc_iconst (v := 4) dX5_meetAll_24 (by decide) ?_
      refine lc_iload_n 1 dX5_meetAll_25 rfl ?_
      refine lc_imul dX5_meetAll_26 ?_
      refine lc_iload 4 dX5_meetAll_27 rfl ?_
      refine lc_iadd dX5_meetAll_29 ?_
      refine lc_topi (nI (4 * a + k)) (lc_m4la a k) ?_
      refine lc_callV (14) (c_X5_isAwake l G σ z (4 * a + k) (by omega)) hR.2.2.2.1 hR.2.2.2.2 mt_X5_isAwake (by omega) (rfl) rfl ml_X5_114 rfl rfl (Nat.le_of_ble_eq_true rfl) ⟨⟨rfl, rfl⟩, Nat.le_of_ble_eq_true rfl, Nat.le_of_ble_eq_true rfl⟩ dX5_meetAll_30 ?_
      show lc_V _ _ _ _ _ 33 _ [.int (lc_bi (sp_awM z.1 (4 * a + k))), .int ((σ.2.1 2 0 + z.2.1)), .ref (G.1 (14))] (lc_w σ 2 z)
      refine lc_tern 40 41 dX5_meetAll_33 (by decide) dX5_meetAll_36 dX5_meetAll_37 (by decide) dX5_meetAll_40 rfl ?_
      refine lc_iadd dX5_meetAll_41 ?_
      refine lc_pMTra (z.2.1 + (lc_bi (sp_awM z.1 (4 * a + k)))) (Int32.add_assoc _ _ _) fl_X5_68 dX5_meetAll_42 ?_
      refine lc_eq (σ' := lc_w σ 2 ((z.1, z.2.1 + (lc_bi (sp_awM z.1 (4 * a + k))), z.2.2.1, z.2.2.2))) rfl ?_
      refine lc_aload_n 0 dX5_meetAll_45 rfl ?_
      refine lc_dup dX5_meetAll_46 rfl ?_
      refine lc_gMTra fl_X5_68 dX5_meetAll_47 ?_
      refine lc_aload_n 0 dX5_meetAll_50 rfl ?_
      refine lc_iconst (v := 4) dX5_meetAll_51 (by decide) ?_
      refine lc_iload_n 2 dX5_meetAll_52 rfl ?_
      refine lc_imul dX5_meetAll_53 ?_
      refine lc_iload 4 dX5_meetAll_54 rfl ?_
      refine lc_iadd dX5_meetAll_56 ?_
      refine lc_topi (nI (4 * b + k)) (lc_m4la b k) ?_
      refine lc_callV (14) (c_X5_isAwake l G σ ((z.1, z.2.1 + (lc_bi (sp_awM z.1 (4 * a + k))), z.2.2.1, z.2.2.2)) (4 * b + k) (by omega)) hR.2.2.2.1 hR.2.2.2.2 mt_X5_isAwake (by omega) (rfl) rfl ml_X5_114 rfl rfl (Nat.le_of_ble_eq_true rfl) ⟨⟨rfl, rfl⟩, Nat.le_of_ble_eq_true rfl, Nat.le_of_ble_eq_true rfl⟩ dX5_meetAll_57 ?_
      show lc_V _ _ _ _ _ 60 _ [.int (lc_bi (sp_awM z.1 (4 * b + k))), .int ((σ.2.1 2 0 + (z.2.1 + (lc_bi (sp_awM z.1 (4 * a + k)))))), .ref (G.1 (14))] (lc_w σ 2 ((z.1, z.2.1 + (lc_bi (sp_awM z.1 (4 * a + k))), z.2.2.1, z.2.2.2)))
      refine lc_tern 67 68 dX5_meetAll_60 (by decide) dX5_meetAll_63 dX5_meetAll_64 (by decide) dX5_meetAll_67 rfl ?_
      refine lc_iadd dX5_meetAll_68 ?_
      refine lc_pMTra ((z.2.1 + (lc_bi (sp_awM z.1 (4 * a + k)))) + (lc_bi (sp_awM z.1 (4 * b + k)))) (Int32.add_assoc _ _ _) fl_X5_68 dX5_meetAll_69 ?_
      refine lc_eq (σ' := lc_w σ 2 ((z.1, (z.2.1 + (lc_bi (sp_awM z.1 (4 * a + k)))) + (lc_bi (sp_awM z.1 (4 * b + k))), z.2.2.1, z.2.2.2))) rfl ?_
      refine lc_iinc 4 (nI (k + 1)) [(4, .int (nI (k + 1))), (0, .ref (G.1 (14))), (1, .int (nI a)), (2, .int (nI b)), (3, .int (keys))] dX5_meetAll_72 rfl (lc_inc1 k) (by decide) rfl ?_
      refine lc_goto 3 dX5_meetAll_75 (by decide) ?_
      refine lc_lv (lv' := [(0, .ref (G.1 (14))), (1, .int (nI a)), (2, .int (nI b)), (3, .int (keys)), (4, .int (nI (k + 1)))]) [1, 2, 3, 4, 0] rfl ?_
      rw [show (sp_trM a b keys) k z = (z.1, (z.2.1 + (lc_bi (sp_awM z.1 (4 * a + k)))) + (lc_bi (sp_awM z.1 (4 * b + k))), z.2.2.1, z.2.2.2) from by simp [sp_trM, sp_tr, c_2]] at kk
      exact kk
  · skip
    show lc_V G Γ cX5_meetAll 6 RX5 3 [(0, .ref (G.1 (14))), (1, .int (nI a)), (2, .int (nI b)), (3, .int (keys)), (4, .int (nI 4))] [] (lc_w σ 2 ((sp_it (sp_trM a b keys) 4 x)))
    refine lc_iload 4 dX5_meetAll_3 rfl ?_
    refine lc_iconst (v := 4) dX5_meetAll_5 (by decide) ?_
    refine lc_icmp_ge 78 dX5_meetAll_6 (by decide) (fun _ => ?_) (fun h => absurd h.1 (by exact nI_nlt (a := 4) (b := 4) (Nat.le_refl _) (by omega)))
    refine lc_iconst (v := 0) dX5_meetAll_78 (by decide) ?_
    refine lc_istore [(4, .int (0)), (0, .ref (G.1 (14))), (1, .int (nI a)), (2, .int (nI b)), (3, .int (keys))] dX5_meetAll_79 (by decide) rfl ?_
    refine lc_iconst (v := 0) dX5_meetAll_81 (by decide) ?_
    refine lc_istore [(5, .int (0)), (4, .int (0)), (0, .ref (G.1 (14))), (1, .int (nI a)), (2, .int (nI b)), (3, .int (keys))] dX5_meetAll_82 (by decide) rfl ?_
    refine lc_lv (lv' := [(0, .ref (G.1 (14))), (1, .int (nI a)), (2, .int (nI b)), (3, .int (keys)), (4, .int (0)), (5, .int (0))]) [2, 3, 4, 5, 1, 0] rfl ?_
    refine lc_forI (α := Int32 × lc_X) (fun k z => lc_V G Γ cX5_meetAll 6 RX5 84 [(0, .ref (G.1 (14))), (1, .int (nI a)), (2, .int (nI b)), (3, .int (keys)), (4, .int (z.1)), (5, .int (nI k))] [] (lc_w σ 2 z.2)) (fun _ _ => True) (sp_mkM a b keys) 4 (fun _ _ _ _ => trivial) (fun k z hk hIk kk => ?_) ((0, (sp_it (sp_trM a b keys) 4 x))) (trivial) (fun hIk => ?_)
    · skip
      show lc_V G Γ cX5_meetAll 6 RX5 84 [(0, .ref (G.1 (14))), (1, .int (nI a)), (2, .int (nI b)), (3, .int (keys)), (4, .int (z.1)), (5, .int (nI k))] [] (lc_w σ 2 z.2)
      refine lc_iload 5 dX5_meetAll_84 rfl ?_
      refine lc_iconst (v := 4) dX5_meetAll_86 (by decide) ?_
      refine lc_icmp_ge 122 dX5_meetAll_87 (by decide) (fun h => absurd h.1 (by exact nI_ge (b := 4) hk (by omega))) (fun _ => ?_)
      refine lc_iload 4 dX5_meetAll_90 rfl ?_
      refine lc_iload_n 3 dX5_meetAll_92 rfl ?_
      refine lc_iload 5 dX5_meetAll_93 rfl ?_
      refine lc_callS (c_X5_isIn l G (lc_w σ 2 z.2) keys (nI k)) hR.2.2.2.1 hR.2.2.2.2 mt_X5_isIn ml_X5_84 rfl rfl (Nat.le_of_ble_eq_true rfl) ⟨⟨rfl, rfl⟩, Nat.le_of_ble_eq_true rfl, Nat.le_of_ble_eq_true rfl⟩ dX5_meetAll_95 ?_
      show lc_V _ _ _ _ _ 98 _ [.int (lc_bi (sp_bit keys (nI k))), .int (z.1)] (lc_w σ 2 z.2)
      refine lc_ifb_eq 112 dX5_meetAll_98 (by decide) (fun c_7 => ?_) (fun c_7 => ?_)
      · skip
        refine lc_iconst (v := 0) dX5_meetAll_112 (by decide) ?_
        refine lc_iadd dX5_meetAll_113 ?_
        refine lc_istore [(4, .int ((z.1 + 0))), (0, .ref (G.1 (14))), (1, .int (nI a)), (2, .int (nI b)), (3, .int (keys)), (5, .int (nI k))] dX5_meetAll_114 (by decide) rfl ?_
        refine lc_iinc 5 (nI (k + 1)) [(5, .int (nI (k + 1))), (4, .int ((z.1 + 0))), (0, .ref (G.1 (14))), (1, .int (nI a)), (2, .int (nI b)), (3, .int (keys))] dX5_meetAll_116 rfl (lc_inc1 k) (by decide) rfl ?_
        refine lc_goto 84 dX5_meetAll_119 (by decide) ?_
        refine lc_lv (lv' := [(0, .ref (G.1 (14))), (1, .int (nI a)), (2, .int (nI b)), (3, .int (keys)), (4, .int ((z.1 + 0))), (5, .int (nI (k + 1)))]) [2, 3, 4, 5, 1, 0] rfl ?_
        rw [show (sp_mkM a b keys) k z = ((z.1 + 0), z.2) from by simp [sp_mkM, c_7]] at kk
        exact kk
      · skip
        refine lc_aload_n 0 dX5_meetAll_101 rfl ?_
        refine lc_iload_n 1 dX5_meetAll_102 rfl ?_
        refine lc_iload_n 2 dX5_meetAll_103 rfl ?_
        refine lc_iload 5 dX5_meetAll_104 rfl ?_
        refine lc_callV (14) (c_X5_meet l G σ z.2 a b (by omega) (by omega) k (by omega)) hR.2.2.2.1 hR.2.2.2.2 mt_X5_meet (by omega) (rfl) rfl ml_X5_136 rfl rfl (Nat.le_of_ble_eq_true rfl) ⟨⟨rfl, rfl⟩, Nat.le_of_ble_eq_true rfl, Nat.le_of_ble_eq_true rfl⟩ dX5_meetAll_106 ?_
        show lc_V _ _ _ _ _ 109 _ [.int ((sp_meetM z.2 (4 * a + k) (4 * b + k)).1), .int (z.1)] (lc_w σ 2 ((sp_meetM z.2 (4 * a + k) (4 * b + k)).2))
        refine lc_goto 113 dX5_meetAll_109 (by decide) ?_
        refine lc_iadd dX5_meetAll_113 ?_
        refine lc_istore [(4, .int ((z.1 + ((sp_meetM z.2 (4 * a + k) (4 * b + k)).1)))), (0, .ref (G.1 (14))), (1, .int (nI a)), (2, .int (nI b)), (3, .int (keys)), (5, .int (nI k))] dX5_meetAll_114 (by decide) rfl ?_
        refine lc_iinc 5 (nI (k + 1)) [(5, .int (nI (k + 1))), (4, .int ((z.1 + ((sp_meetM z.2 (4 * a + k) (4 * b + k)).1)))), (0, .ref (G.1 (14))), (1, .int (nI a)), (2, .int (nI b)), (3, .int (keys))] dX5_meetAll_116 rfl (lc_inc1 k) (by decide) rfl ?_
        refine lc_goto 84 dX5_meetAll_119 (by decide) ?_
        refine lc_lv (lv' := [(0, .ref (G.1 (14))), (1, .int (nI a)), (2, .int (nI b)), (3, .int (keys)), (4, .int ((z.1 + ((sp_meetM z.2 (4 * a + k) (4 * b + k)).1)))), (5, .int (nI (k + 1)))]) [2, 3, 4, 5, 1, 0] rfl ?_
        rw [show (sp_mkM a b keys) k z = ((z.1 + ((sp_meetM z.2 (4 * a + k) (4 * b + k)).1)), (sp_meetM z.2 (4 * a + k) (4 * b + k)).2) from by simp [sp_mkM, c_7]] at kk
        exact kk
    · skip
      show lc_V G Γ cX5_meetAll 6 RX5 84 [(0, .ref (G.1 (14))), (1, .int (nI a)), (2, .int (nI b)), (3, .int (keys)), (4, .int (((sp_mksM x a b keys)).1)), (5, .int (nI 4))] [] (lc_w σ 2 (((sp_mksM x a b keys)).2))
      refine lc_iload 5 dX5_meetAll_84 rfl ?_
      refine lc_iconst (v := 4) dX5_meetAll_86 (by decide) ?_
      refine lc_icmp_ge 122 dX5_meetAll_87 (by decide) (fun _ => ?_) (fun h => absurd h.1 (by exact nI_nlt (a := 4) (b := 4) (Nat.le_refl _) (by omega)))
      refine lc_iload 4 dX5_meetAll_122 rfl ?_
      exact lc_iret hR dX5_meetAll_124 (rfl) (rfl)

set_option maxRecDepth 100000 in
set_option maxHeartbeats 4000000 in
theorem c_X5_exchangeNow (l : Launch) (G : lc_G) (σ : lc_S) (x : lc_X) (a b : Nat) (ha : a < 6) (hb : b < 6) : lc_M l G yX5_exchangeNow cX5_exchangeNow 5 (some .int) { frames := 5, cells := 0, slots := 0, locals := 114 } [.ref (G.1 (14)), .int (nI a), .int (nI b)] (lc_w σ 2 x) (some (.int ((sp_cmpM x a b).1))) (lc_w σ 2 ((sp_cmpM x a b).2)) := by
  refine lc_entry [(0, .ref (G.1 (14))), (1, .int (nI a)), (2, .int (nI b))] (by decide) (Nat.le_of_ble_eq_true rfl) rfl rfl rfl ?_
  intro Γ hR
  refine lc_iconst (v := 0) dX5_exchangeNow_0 (by decide) ?_
  refine lc_istore_n [(3, .int (0)), (0, .ref (G.1 (14))), (1, .int (nI a)), (2, .int (nI b))] dX5_exchangeNow_1 (by decide) rfl ?_
  refine lc_iconst (v := 0) dX5_exchangeNow_2 (by decide) ?_
  refine lc_istore [(4, .int (0)), (3, .int (0)), (0, .ref (G.1 (14))), (1, .int (nI a)), (2, .int (nI b))] dX5_exchangeNow_3 (by decide) rfl ?_
  refine lc_lv (lv' := [(0, .ref (G.1 (14))), (1, .int (nI a)), (2, .int (nI b)), (3, .int (0)), (4, .int (0))]) [2, 3, 4, 1, 0] rfl ?_
  refine lc_forI (α := Int32) (fun k z => lc_V G Γ cX5_exchangeNow 5 RX5 5 [(0, .ref (G.1 (14))), (1, .int (nI a)), (2, .int (nI b)), (3, .int (z)), (4, .int (nI k))] [] (lc_w σ 2 x)) (fun _ _ => True) (sp_rkM x.1 a b) 4 (fun _ _ _ _ => trivial) (fun k z hk hIk kk => ?_) 0 (trivial) (fun hIk => ?_)
  · skip
    show lc_V G Γ cX5_exchangeNow 5 RX5 5 [(0, .ref (G.1 (14))), (1, .int (nI a)), (2, .int (nI b)), (3, .int (z)), (4, .int (nI k))] [] (lc_w σ 2 x)
    refine lc_iload 4 dX5_exchangeNow_5 rfl ?_
    refine lc_iconst (v := 4) dX5_exchangeNow_7 (by decide) ?_
    refine lc_icmp_ge 54 dX5_exchangeNow_8 (by decide) (fun h => absurd h.1 (by exact nI_ge (b := 4) hk (by omega))) (fun _ => ?_)
    refine lc_iload_n 3 dX5_exchangeNow_11 rfl ?_
    refine lc_aload_n 0 dX5_exchangeNow_12 rfl ?_
    refine lc_iconst (v := 4) dX5_exchangeNow_13 (by decide) ?_
    refine lc_iload_n 1 dX5_exchangeNow_14 rfl ?_
    refine lc_imul dX5_exchangeNow_15 ?_
    refine lc_iload 4 dX5_exchangeNow_16 rfl ?_
    refine lc_iadd dX5_exchangeNow_18 ?_
    refine lc_topi (nI (4 * a + k)) (lc_m4la a k) ?_
    refine lc_callV (14) (c_X5_isRecent l G σ x (4 * a + k) (by omega)) hR.2.2.2.1 hR.2.2.2.2 mt_X5_isRecent (by omega) (rfl) rfl ml_X5_140 rfl rfl (Nat.le_of_ble_eq_true rfl) ⟨⟨rfl, rfl⟩, Nat.le_of_ble_eq_true rfl, Nat.le_of_ble_eq_true rfl⟩ dX5_exchangeNow_19 ?_
    show lc_V _ _ _ _ _ 22 _ [.int (lc_bi (sp_recM x.1 (4 * a + k))), .int (z)] (lc_w σ 2 x)
    refine lc_ifb_ne 38 dX5_exchangeNow_22 (by decide) (fun c_2 => ?_) (fun c_2 => ?_)
    · skip
      refine lc_iconst (v := 1) dX5_exchangeNow_38 (by decide) ?_
      refine lc_iload 4 dX5_exchangeNow_39 rfl ?_
      refine lc_ishl dX5_exchangeNow_41 ?_
      refine lc_goto 46 dX5_exchangeNow_42 (by decide) ?_
      refine lc_ior dX5_exchangeNow_46 ?_
      refine lc_istore_n [(3, .int ((z ||| (((1 : Int32) <<< ((nI k) &&& 31)))))), (0, .ref (G.1 (14))), (1, .int (nI a)), (2, .int (nI b)), (4, .int (nI k))] dX5_exchangeNow_47 (by decide) rfl ?_
      refine lc_iinc 4 (nI (k + 1)) [(4, .int (nI (k + 1))), (3, .int ((z ||| (((1 : Int32) <<< ((nI k) &&& 31)))))), (0, .ref (G.1 (14))), (1, .int (nI a)), (2, .int (nI b))] dX5_exchangeNow_48 rfl (lc_inc1 k) (by decide) rfl ?_
      refine lc_goto 5 dX5_exchangeNow_51 (by decide) ?_
      refine lc_lv (lv' := [(0, .ref (G.1 (14))), (1, .int (nI a)), (2, .int (nI b)), (3, .int ((z ||| (((1 : Int32) <<< ((nI k) &&& 31)))))), (4, .int (nI (k + 1)))]) [2, 3, 4, 1, 0] rfl ?_
      rw [show (sp_rkM x.1 a b) k z = (z ||| (((1 : Int32) <<< ((nI k) &&& 31)))) from by simp [sp_rkM, c_2]] at kk
      exact kk
    · skip
      refine lc_aload_n 0 dX5_exchangeNow_25 rfl ?_
      refine lc_iconst (v := 4) dX5_exchangeNow_26 (by decide) ?_
      refine lc_iload_n 2 dX5_exchangeNow_27 rfl ?_
      refine lc_imul dX5_exchangeNow_28 ?_
      refine lc_iload 4 dX5_exchangeNow_29 rfl ?_
      refine lc_iadd dX5_exchangeNow_31 ?_
      refine lc_topi (nI (4 * b + k)) (lc_m4la b k) ?_
      refine lc_callV (14) (c_X5_isRecent l G σ x (4 * b + k) (by omega)) hR.2.2.2.1 hR.2.2.2.2 mt_X5_isRecent (by omega) (rfl) rfl ml_X5_140 rfl rfl (Nat.le_of_ble_eq_true rfl) ⟨⟨rfl, rfl⟩, Nat.le_of_ble_eq_true rfl, Nat.le_of_ble_eq_true rfl⟩ dX5_exchangeNow_32 ?_
      show lc_V _ _ _ _ _ 35 _ [.int (lc_bi (sp_recM x.1 (4 * b + k))), .int (z)] (lc_w σ 2 x)
      refine lc_ifb_eq 45 dX5_exchangeNow_35 (by decide) (fun c_3 => ?_) (fun c_3 => ?_)
      · skip
        refine lc_iconst (v := 0) dX5_exchangeNow_45 (by decide) ?_
        refine lc_ior dX5_exchangeNow_46 ?_
        refine lc_istore_n [(3, .int ((z ||| 0))), (0, .ref (G.1 (14))), (1, .int (nI a)), (2, .int (nI b)), (4, .int (nI k))] dX5_exchangeNow_47 (by decide) rfl ?_
        refine lc_iinc 4 (nI (k + 1)) [(4, .int (nI (k + 1))), (3, .int ((z ||| 0))), (0, .ref (G.1 (14))), (1, .int (nI a)), (2, .int (nI b))] dX5_exchangeNow_48 rfl (lc_inc1 k) (by decide) rfl ?_
        refine lc_goto 5 dX5_exchangeNow_51 (by decide) ?_
        refine lc_lv (lv' := [(0, .ref (G.1 (14))), (1, .int (nI a)), (2, .int (nI b)), (3, .int ((z ||| 0))), (4, .int (nI (k + 1)))]) [2, 3, 4, 1, 0] rfl ?_
        rw [show (sp_rkM x.1 a b) k z = (z ||| 0) from by simp [sp_rkM, c_2, c_3]] at kk
        exact kk
      · skip
        refine lc_iconst (v := 1) dX5_exchangeNow_38 (by decide) ?_
        refine lc_iload 4 dX5_exchangeNow_39 rfl ?_
        refine lc_ishl dX5_exchangeNow_41 ?_
        refine lc_goto 46 dX5_exchangeNow_42 (by decide) ?_
        refine lc_ior dX5_exchangeNow_46 ?_
        refine lc_istore_n [(3, .int ((z ||| (((1 : Int32) <<< ((nI k) &&& 31)))))), (0, .ref (G.1 (14))), (1, .int (nI a)), (2, .int (nI b)), (4, .int (nI k))] dX5_exchangeNow_47 (by decide) rfl ?_
        refine lc_iinc 4 (nI (k + 1)) [(4, .int (nI (k + 1))), (3, .int ((z ||| (((1 : Int32) <<< ((nI k) &&& 31)))))), (0, .ref (G.1 (14))), (1, .int (nI a)), (2, .int (nI b))] dX5_exchangeNow_48 rfl (lc_inc1 k) (by decide) rfl ?_
        refine lc_goto 5 dX5_exchangeNow_51 (by decide) ?_
        refine lc_lv (lv' := [(0, .ref (G.1 (14))), (1, .int (nI a)), (2, .int (nI b)), (3, .int ((z ||| (((1 : Int32) <<< ((nI k) &&& 31)))))), (4, .int (nI (k + 1)))]) [2, 3, 4, 1, 0] rfl ?_
        rw [show (sp_rkM x.1 a b) k z = (z ||| (((1 : Int32) <<< ((nI k) &&& 31)))) from by simp [sp_rkM, c_2, c_3]] at kk
        exact kk
  · skip
    show lc_V G Γ cX5_exchangeNow 5 RX5 5 [(0, .ref (G.1 (14))), (1, .int (nI a)), (2, .int (nI b)), (3, .int ((sp_rksM x.1 a b))), (4, .int (nI 4))] [] (lc_w σ 2 x)
    refine lc_iload 4 dX5_exchangeNow_5 rfl ?_
    refine lc_iconst (v := 4) dX5_exchangeNow_7 (by decide) ?_
    refine lc_icmp_ge 54 dX5_exchangeNow_8 (by decide) (fun _ => ?_) (fun h => absurd h.1 (by exact nI_nlt (a := 4) (b := 4) (Nat.le_refl _) (by omega)))
    refine lc_aload_n 0 dX5_exchangeNow_54 rfl ?_
    refine lc_iload_n 1 dX5_exchangeNow_55 rfl ?_
    refine lc_iload_n 2 dX5_exchangeNow_56 rfl ?_
    refine lc_iload_n 3 dX5_exchangeNow_57 rfl ?_
    refine lc_callV (14) (c_X5_meetAll l G σ x a b (by omega) (by omega) ((sp_rksM x.1 a b))) hR.2.2.2.1 hR.2.2.2.2 mt_X5_meetAll (by omega) (rfl) rfl ml_X5_143 rfl rfl (Nat.le_of_ble_eq_true rfl) ⟨⟨rfl, rfl⟩, Nat.le_of_ble_eq_true rfl, Nat.le_of_ble_eq_true rfl⟩ dX5_exchangeNow_58 ?_
    show lc_V _ _ _ _ _ 61 _ [.int ((sp_mksM x a b ((sp_rksM x.1 a b))).1)] (lc_w σ 2 ((sp_mksM x a b ((sp_rksM x.1 a b))).2))
    refine lc_istore [(4, .int ((sp_mksM x a b ((sp_rksM x.1 a b))).1)), (0, .ref (G.1 (14))), (1, .int (nI a)), (2, .int (nI b)), (3, .int ((sp_rksM x.1 a b)))] dX5_exchangeNow_61 (by decide) rfl ?_
    refine lc_aload_n 1 dX5_exchangeNow_63 rfl ?_
    refine lc_iload_n 2 dX5_exchangeNow_64 rfl ?_
    refine lc_iload_n 3 dX5_exchangeNow_65 rfl ?_
    refine lc_callV (14) (c_X5_areAlike l G σ ((sp_mksM x a b ((sp_rksM x.1 a b))).2) a b (by omega) (by omega)) hR.2.2.2.1 hR.2.2.2.2 mt_X5_areAlike (by omega) (rfl) rfl ml_X5_146 rfl rfl (Nat.le_of_ble_eq_true rfl) ⟨⟨rfl, rfl⟩, Nat.le_of_ble_eq_true rfl, Nat.le_of_ble_eq_true rfl⟩ dX5_exchangeNow_66 ?_
    show lc_V _ _ _ _ _ 69 _ [.int (lc_bi (sp_alikeM (((sp_mksM x a b ((sp_rksM x.1 a b))).2).1) a b))] (lc_w σ 2 ((sp_mksM x a b ((sp_rksM x.1 a b))).2))
    refine lc_ifb_eq 77 dX5_exchangeNow_69 (by decide) (fun c_5 => ?_) (fun c_5 => ?_)
    · skip
      refine lc_iload 0 dX5_exchangeNow_77 rfl ?_
      refine lc_aload_n 1 dX5_exchangeNow_79 rfl ?_
      refine lc_iload_n 2 dX5_exchangeNow_80 rfl ?_
      refine lc_iload_n 3 dX5_exchangeNow_81 rfl ?_
      refine lc_bipush (v := 15) dX5_exchangeNow_82 (by decide) ?_
      refine lc_iload_n 4 dX5_exchangeNow_84 rfl ?_
      refine lc_iconst (v := (-1)) dX5_exchangeNow_85 (by decide) ?_
      refine lc_ixor dX5_exchangeNow_86 ?_
      refine lc_iand dX5_exchangeNow_87 ?_
      refine lc_callV (14) (c_X5_meetAll l G σ ((sp_mksM x a b ((sp_rksM x.1 a b))).2) a b (by omega) (by omega) ((15 &&& ((((sp_rksM x.1 a b)) ^^^ ((-1))))))) hR.2.2.2.1 hR.2.2.2.2 mt_X5_meetAll (by omega) (rfl) rfl ml_X5_143 rfl rfl (Nat.le_of_ble_eq_true rfl) ⟨⟨rfl, rfl⟩, Nat.le_of_ble_eq_true rfl, Nat.le_of_ble_eq_true rfl⟩ dX5_exchangeNow_88 ?_
      show lc_V _ _ _ _ _ 91 _ [.int ((sp_mksM ((sp_mksM x a b ((sp_rksM x.1 a b))).2) a b ((15 &&& ((((sp_rksM x.1 a b)) ^^^ ((-1))))))).1), .int ((sp_mksM x a b ((sp_rksM x.1 a b))).1)] (lc_w σ 2 ((sp_mksM ((sp_mksM x a b ((sp_rksM x.1 a b))).2) a b ((15 &&& ((((sp_rksM x.1 a b)) ^^^ ((-1))))))).2))
      refine lc_iadd dX5_exchangeNow_91 ?_
      exact lc_iret hR dX5_exchangeNow_92 (by simp [sp_cmpM, lc_bi, c_5]) (by simp [sp_cmpM, lc_bi, c_5])
    · skip
      refine lc_iload 0 dX5_exchangeNow_72 rfl ?_
      refine lc_goto 92 dX5_exchangeNow_74 (by decide) ?_
      exact lc_iret hR dX5_exchangeNow_92 (by simp [sp_cmpM, lc_bi, c_5]) (by simp [sp_cmpM, lc_bi, c_5])

set_option maxRecDepth 100000 in
set_option maxHeartbeats 4000000 in
theorem c_X5_tell (l : Launch) (G : lc_G) (σ : lc_S) (x : lc_X) (i k : Nat) (hi : i < 24) (hk : k < 24) : lc_M l G yX5_tell cX5_tell 3 (some .int) { frames := 1, cells := 0, slots := 0, locals := 23 } [.ref (G.1 (14)), .int (nI i), .int (nI k)] (lc_w σ 2 x) (some (.int ((sp_tellM (sp_tr x 1) i k).1))) (lc_w σ 2 ((sp_tellM (sp_tr x 1) i k).2)) := by
  refine lc_entry [(0, .ref (G.1 (14))), (1, .int (nI i)), (2, .int (nI k))] (by decide) (Nat.le_of_ble_eq_true rfl) rfl rfl rfl ?_
  intro Γ hR
  refine lc_aload_n 0 dX5_tell_0 rfl ?_
  refine lc_dup dX5_tell_1 rfl ?_
  refine lc_gMTra fl_X5_68 dX5_tell_2 ?_
  refine lc_iconst (v := 1) dX5_tell_5 (by decide) ?_
  refine lc_iadd dX5_tell_6 ?_
  refine lc_pMTra (x.2.1 + 1) (Int32.add_assoc _ _ _) fl_X5_68 dX5_tell_7 ?_
  refine lc_eq (σ' := lc_w σ 2 ((x.1, x.2.1 + 1, x.2.2.1, x.2.2.2))) rfl ?_
  refine lc_eq (σ' := lc_w σ 2 ((sp_tr x 1))) (rfl) ?_
  refine lc_aload_n 0 dX5_tell_10 rfl ?_
  refine lc_g_msort fl_X5_19 dX5_tell_11 ?_
  refine lc_iload_n 2 dX5_tell_14 rfl ?_
  refine lc_iald (f := (((sp_tr x 1)).1) 0) (18) k (by omega) (rfl) (rfl) (by omega) (by decide) dX5_tell_15 ?_
  refine lc_if_eq 28 dX5_tell_16 (by decide) (fun c_1 => ?_) (fun c_1 => ?_)
  · skip
    refine lc_aload_n 0 dX5_tell_28 rfl ?_
    refine lc_iload_n 1 dX5_tell_29 rfl ?_
    refine lc_iload_n 2 dX5_tell_30 rfl ?_
    refine lc_aload_n 0 dX5_tell_31 rfl ?_
    refine lc_g_mtold fl_X5_16 dX5_tell_32 ?_
    refine lc_iconst (v := 2) dX5_tell_35 (by decide) ?_
    refine lc_iald (f := (((sp_tr x 1)).1) 6) (17) 2 (by omega) (rfl) (rfl) (by omega) (by decide) dX5_tell_36 ?_
    refine lc_callV (14) (c_X5_copy l G σ ((sp_tr x 1)) i k (by omega) (by omega) ((((sp_tr x 1)).1) 6 2)) hR.2.2.2.1 hR.2.2.2.2 mt_X5_copy (by omega) (rfl) rfl ml_X5_120 rfl rfl (Nat.le_of_ble_eq_true rfl) ⟨⟨rfl, rfl⟩, Nat.le_of_ble_eq_true rfl, Nat.le_of_ble_eq_true rfl⟩ dX5_tell_37 ?_
    show lc_V _ _ _ _ _ 40 _ [] (lc_w σ 2 ((sp_copy (((sp_tr x 1)).1) k (((sp_tr x 1)).1) i ((((sp_tr x 1)).1) 6 2), ((sp_tr x 1)).2)))
    refine lc_iconst (v := 1) dX5_tell_40 (by decide) ?_
    exact lc_iret hR dX5_tell_41 (by simp [sp_tellM, sp_tellMN, lc_bi, c_1]) (by simp [sp_tellM, sp_tellMN, lc_bi, c_1])
  · skip
    refine lc_aload_n 0 dX5_tell_19 rfl ?_
    refine lc_iload_n 1 dX5_tell_20 rfl ?_
    refine lc_iload_n 2 dX5_tell_21 rfl ?_
    refine lc_callV (14) (c_X5_isNewer l G σ ((sp_tr x 1)) i k (by omega) (by omega)) hR.2.2.2.1 hR.2.2.2.2 mt_X5_isNewer (by omega) (rfl) rfl ml_X5_117 rfl rfl (Nat.le_of_ble_eq_true rfl) ⟨⟨rfl, rfl⟩, Nat.le_of_ble_eq_true rfl, Nat.le_of_ble_eq_true rfl⟩ dX5_tell_22 ?_
    show lc_V _ _ _ _ _ 25 _ [.int (lc_bi (sp_new (((sp_tr x 1)).1) i k))] (lc_w σ 2 ((sp_tr x 1)))
    refine lc_ifb_eq 42 dX5_tell_25 (by decide) (fun c_2 => ?_) (fun c_2 => ?_)
    · skip
      refine lc_aload_n 0 dX5_tell_42 rfl ?_
      refine lc_g_mheat fl_X5_34 dX5_tell_43 ?_
      refine lc_iload_n 1 dX5_tell_46 rfl ?_
      refine lc_dup2 dX5_tell_47 rfl rfl ?_
      refine lc_iald (f := (((sp_tr x 1)).1) 5) (23) i (by omega) (rfl) (rfl) (by omega) (by decide) dX5_tell_48 ?_
      refine lc_iconst (v := 1) dX5_tell_49 (by decide) ?_
      refine lc_isub dX5_tell_50 ?_
      refine lc_sc_mheat i (rfl) (by omega) dX5_tell_51 ?_
      refine lc_aload_n 0 dX5_tell_52 rfl ?_
      refine lc_iload_n 2 dX5_tell_53 rfl ?_
      refine lc_callV (14) (c_X5_isDormant l G σ ((lc_cu (((sp_tr x 1)).1) 5 i ((((((sp_tr x 1)).1) 5 i) - 1)), ((sp_tr x 1)).2)) k (by omega)) hR.2.2.2.1 hR.2.2.2.2 mt_X5_isDormant (by omega) (rfl) rfl ml_X5_80 rfl rfl (Nat.le_of_ble_eq_true rfl) ⟨⟨rfl, rfl⟩, Nat.le_of_ble_eq_true rfl, Nat.le_of_ble_eq_true rfl⟩ dX5_tell_54 ?_
      show lc_V _ _ _ _ _ 57 _ [.int (lc_bi (sp_dor (lc_cu (((sp_tr x 1)).1) 5 i ((((((sp_tr x 1)).1) 5 i) - 1))) k))] (lc_w σ 2 ((lc_cu (((sp_tr x 1)).1) 5 i ((((((sp_tr x 1)).1) 5 i) - 1)), ((sp_tr x 1)).2)))
      refine lc_ifb_eq 80 dX5_tell_57 (by decide) (fun c_3 => ?_) (fun c_3 => ?_)
      · skip
        refine lc_iconst (v := 0) dX5_tell_80 (by decide) ?_
        exact lc_iret hR dX5_tell_81 (by simp [sp_tellM, sp_tellMN, lc_bi, c_1, c_2, c_3]) (by simp [sp_tellM, sp_tellMN, lc_bi, c_1, c_2, c_3])
      · skip
        refine lc_aload_n 0 dX5_tell_60 rfl ?_
        refine lc_g_mstamp fl_X5_25 dX5_tell_61 ?_
        refine lc_iload_n 2 dX5_tell_64 rfl ?_
        refine lc_iald (f := (lc_cu (((sp_tr x 1)).1) 5 i ((((((sp_tr x 1)).1) 5 i) - 1))) 2) (20) k (by omega) (rfl) (rfl) (by omega) (by decide) dX5_tell_65 ?_
        refine lc_aload_n 0 dX5_tell_66 rfl ?_
        refine lc_g_mstamp fl_X5_25 dX5_tell_67 ?_
        refine lc_iload_n 1 dX5_tell_70 rfl ?_
        refine lc_iald (f := (lc_cu (((sp_tr x 1)).1) 5 i ((((((sp_tr x 1)).1) 5 i) - 1))) 2) (20) i (by omega) (rfl) (rfl) (by omega) (by decide) dX5_tell_71 ?_
        refine lc_icmp_le 80 dX5_tell_72 (by decide) (fun c_4 => ?_) (fun c_4 => ?_)
        · skip
          refine lc_iconst (v := 0) dX5_tell_80 (by decide) ?_
          exact lc_iret hR dX5_tell_81 (by simp [sp_tellM, sp_tellMN, lc_bi, c_1, c_2, c_3, c_4]) (by simp [sp_tellM, sp_tellMN, lc_bi, c_1, c_2, c_3, c_4])
        · skip
          refine lc_aload_n 0 dX5_tell_75 rfl ?_
          refine lc_iload_n 2 dX5_tell_76 rfl ?_
          refine lc_callV (14) (c_X5_wake l G σ ((lc_cu (((sp_tr x 1)).1) 5 i ((((((sp_tr x 1)).1) 5 i) - 1)), ((sp_tr x 1)).2)) k (by omega)) hR.2.2.2.1 hR.2.2.2.2 mt_X5_wake (by omega) (rfl) rfl ml_X5_127 rfl rfl (Nat.le_of_ble_eq_true rfl) ⟨⟨rfl, rfl⟩, Nat.le_of_ble_eq_true rfl, Nat.le_of_ble_eq_true rfl⟩ dX5_tell_77 ?_
          show lc_V _ _ _ _ _ 80 _ [] (lc_w σ 2 (sp_wake ((lc_cu (((sp_tr x 1)).1) 5 i ((((((sp_tr x 1)).1) 5 i) - 1)), ((sp_tr x 1)).2)) k))
          refine lc_iconst (v := 0) dX5_tell_80 (by decide) ?_
          exact lc_iret hR dX5_tell_81 (by simp [sp_tellM, sp_tellMN, lc_bi, c_1, c_2, c_3, c_4]) (by simp [sp_tellM, sp_tellMN, lc_bi, c_1, c_2, c_3, c_4])
    · skip
      refine lc_aload_n 0 dX5_tell_28 rfl ?_
      refine lc_iload_n 1 dX5_tell_29 rfl ?_
      refine lc_iload_n 2 dX5_tell_30 rfl ?_
      refine lc_aload_n 0 dX5_tell_31 rfl ?_
      refine lc_g_mtold fl_X5_16 dX5_tell_32 ?_
      refine lc_iconst (v := 2) dX5_tell_35 (by decide) ?_
      refine lc_iald (f := (((sp_tr x 1)).1) 6) (17) 2 (by omega) (rfl) (rfl) (by omega) (by decide) dX5_tell_36 ?_
      refine lc_callV (14) (c_X5_copy l G σ ((sp_tr x 1)) i k (by omega) (by omega) ((((sp_tr x 1)).1) 6 2)) hR.2.2.2.1 hR.2.2.2.2 mt_X5_copy (by omega) (rfl) rfl ml_X5_120 rfl rfl (Nat.le_of_ble_eq_true rfl) ⟨⟨rfl, rfl⟩, Nat.le_of_ble_eq_true rfl, Nat.le_of_ble_eq_true rfl⟩ dX5_tell_37 ?_
      show lc_V _ _ _ _ _ 40 _ [] (lc_w σ 2 ((sp_copy (((sp_tr x 1)).1) k (((sp_tr x 1)).1) i ((((sp_tr x 1)).1) 6 2), ((sp_tr x 1)).2)))
      refine lc_iconst (v := 1) dX5_tell_40 (by decide) ?_
      exact lc_iret hR dX5_tell_41 (by simp [sp_tellM, sp_tellMN, lc_bi, c_1, c_2]) (by simp [sp_tellM, sp_tellMN, lc_bi, c_1, c_2])

set_option maxRecDepth 100000 in
set_option maxHeartbeats 4000000 in
theorem c_X5_rumourNow (l : Launch) (G : lc_G) (σ : lc_S) (x : lc_X) (a b : Nat) (ha : a < 6) (hb : b < 6) : lc_M l G yX5_rumourNow cX5_rumourNow 6 (some .int) { frames := 2, cells := 0, slots := 0, locals := 45 } [.ref (G.1 (14)), .int (nI a), .int (nI b)] (lc_w σ 2 x) (some (.int ((sp_hotsM x a b).1))) (lc_w σ 2 ((sp_hotsM x a b).2)) := by
  refine lc_entry [(0, .ref (G.1 (14))), (1, .int (nI a)), (2, .int (nI b))] (by decide) (Nat.le_of_ble_eq_true rfl) rfl rfl rfl ?_
  intro Γ hR
  refine lc_iconst (v := 0) dX5_rumourNow_0 (by decide) ?_
  refine lc_istore_n [(3, .int (0)), (0, .ref (G.1 (14))), (1, .int (nI a)), (2, .int (nI b))] dX5_rumourNow_1 (by decide) rfl ?_
  refine lc_iconst (v := 0) dX5_rumourNow_2 (by decide) ?_
  refine lc_istore [(4, .int (0)), (3, .int (0)), (0, .ref (G.1 (14))), (1, .int (nI a)), (2, .int (nI b))] dX5_rumourNow_3 (by decide) rfl ?_
  refine lc_lv (lv' := [(0, .ref (G.1 (14))), (1, .int (nI a)), (2, .int (nI b)), (3, .int (0)), (4, .int (0))]) [2, 3, 4, 1, 0] rfl ?_
  refine lc_forI (α := Int32 × lc_X) (fun k z => lc_V G Γ cX5_rumourNow 6 RX5 5 [(0, .ref (G.1 (14))), (1, .int (nI a)), (2, .int (nI b)), (3, .int (z.1)), (4, .int (nI k))] [] (lc_w σ 2 z.2)) (fun _ _ => True) (sp_hotM a b) 4 (fun _ _ _ _ => trivial) (fun k z hk hIk kk => ?_) ((0, x)) (trivial) (fun hIk => ?_)
  · skip
    show lc_V G Γ cX5_rumourNow 6 RX5 5 [(0, .ref (G.1 (14))), (1, .int (nI a)), (2, .int (nI b)), (3, .int (z.1)), (4, .int (nI k))] [] (lc_w σ 2 z.2)
    refine lc_iload 4 dX5_rumourNow_5 rfl ?_
    refine lc_iconst (v := 4) dX5_rumourNow_7 (by decide) ?_
    refine lc_icmp_ge 63 dX5_rumourNow_8 (by decide) (fun h => absurd h.1 (by exact nI_ge (b := 4) hk (by omega))) (fun _ => ?_)
    refine lc_iconst (v := 4) dX5_rumourNow_11 (by decide) ?_
    refine lc_iload_n 1 dX5_rumourNow_12 rfl ?_
    refine lc_imul dX5_rumourNow_13 ?_
    refine lc_iload 4 dX5_rumourNow_14 rfl ?_
    refine lc_iadd dX5_rumourNow_16 ?_
    refine lc_topi (nI (4 * a + k)) (lc_m4la a k) ?_
    refine lc_istore [(5, .int (nI (4 * a + k))), (0, .ref (G.1 (14))), (1, .int (nI a)), (2, .int (nI b)), (3, .int (z.1)), (4, .int (nI k))] dX5_rumourNow_17 (by decide) rfl ?_
    refine lc_iload_n 4 dX5_rumourNow_19 rfl ?_
    refine lc_aload_n 1 dX5_rumourNow_20 rfl ?_
    refine lc_g_mheat fl_X5_34 dX5_rumourNow_21 ?_
    refine lc_iload 0 dX5_rumourNow_24 rfl ?_
    refine lc_iald (f := z.2.1 5) (23) (4 * a + k) (by omega) (rfl) (rfl) (by omega) (by decide) dX5_rumourNow_26 ?_
    refine lc_if_le 54 dX5_rumourNow_27 (by decide) (fun c_2 => ?_) (fun c_2 => ?_)
    · skip
      refine lc_iconst (v := 0) dX5_rumourNow_54 (by decide) ?_
      refine lc_iadd dX5_rumourNow_55 ?_
      refine lc_istore_n [(3, .int ((z.1 + 0))), (5, .int (nI (4 * a + k))), (0, .ref (G.1 (14))), (1, .int (nI a)), (2, .int (nI b)), (4, .int (nI k))] dX5_rumourNow_56 (by decide) rfl ?_
      refine lc_iinc 5 (nI (k + 1)) [(4, .int (nI (k + 1))), (3, .int ((z.1 + 0))), (5, .int (nI (4 * a + k))), (0, .ref (G.1 (14))), (1, .int (nI a)), (2, .int (nI b))] dX5_rumourNow_57 rfl (lc_inc1 k) (by decide) rfl ?_
      refine lc_goto 5 dX5_rumourNow_60 (by decide) ?_
      refine lc_lv (lv' := [(0, .ref (G.1 (14))), (1, .int (nI a)), (2, .int (nI b)), (3, .int ((z.1 + 0))), (4, .int (nI (k + 1)))]) [3, 4, 5, 1, 0] rfl ?_
      rw [show (sp_hotM a b) k z = ((z.1 + 0), z.2) from by simp [sp_hotM, c_2]] at kk
      exact kk
    · skip
      refine lc_aload_n 1 dX5_rumourNow_30 rfl ?_
      refine lc_iload 0 dX5_rumourNow_31 rfl ?_
      refine lc_callV (14) (c_X5_isAwake l G σ z.2 (4 * a + k) (by omega)) hR.2.2.2.1 hR.2.2.2.2 mt_X5_isAwake (by omega) (rfl) rfl ml_X5_114 rfl rfl (Nat.le_of_ble_eq_true rfl) ⟨⟨rfl, rfl⟩, Nat.le_of_ble_eq_true rfl, Nat.le_of_ble_eq_true rfl⟩ dX5_rumourNow_33 ?_
      show lc_V _ _ _ _ _ 36 _ [.int (lc_bi (sp_awM z.2.1 (4 * a + k))), .int (z.1)] (lc_w σ 2 z.2)
      refine lc_ifb_eq 54 dX5_rumourNow_36 (by decide) (fun c_3 => ?_) (fun c_3 => ?_)
      · skip
        refine lc_iconst (v := 0) dX5_rumourNow_54 (by decide) ?_
        refine lc_iadd dX5_rumourNow_55 ?_
        refine lc_istore_n [(3, .int ((z.1 + 0))), (5, .int (nI (4 * a + k))), (0, .ref (G.1 (14))), (1, .int (nI a)), (2, .int (nI b)), (4, .int (nI k))] dX5_rumourNow_56 (by decide) rfl ?_
        refine lc_iinc 5 (nI (k + 1)) [(4, .int (nI (k + 1))), (3, .int ((z.1 + 0))), (5, .int (nI (4 * a + k))), (0, .ref (G.1 (14))), (1, .int (nI a)), (2, .int (nI b))] dX5_rumourNow_57 rfl (lc_inc1 k) (by decide) rfl ?_
        refine lc_goto 5 dX5_rumourNow_60 (by decide) ?_
        refine lc_lv (lv' := [(0, .ref (G.1 (14))), (1, .int (nI a)), (2, .int (nI b)), (3, .int ((z.1 + 0))), (4, .int (nI (k + 1)))]) [3, 4, 5, 1, 0] rfl ?_
        rw [show (sp_hotM a b) k z = ((z.1 + 0), z.2) from by simp [sp_hotM, c_2, c_3]] at kk
        exact kk
      · skip
        refine lc_aload_n 1 dX5_rumourNow_39 rfl ?_
        refine lc_iload 0 dX5_rumourNow_40 rfl ?_
        refine lc_iconst (v := 4) dX5_rumourNow_42 (by decide) ?_
        refine lc_iload_n 3 dX5_rumourNow_43 rfl ?_
        refine lc_imul dX5_rumourNow_44 ?_
        refine lc_iload 5 dX5_rumourNow_45 rfl ?_
        refine lc_iadd dX5_rumourNow_47 ?_
        refine lc_topi (nI (4 * b + k)) (lc_m4la b k) ?_
        refine lc_callV (14) (c_X5_tell l G σ z.2 (4 * a + k) (4 * b + k) (by omega) (by omega)) hR.2.2.2.1 hR.2.2.2.2 mt_X5_tell (by omega) (rfl) rfl ml_X5_155 rfl rfl (Nat.le_of_ble_eq_true rfl) ⟨⟨rfl, rfl⟩, Nat.le_of_ble_eq_true rfl, Nat.le_of_ble_eq_true rfl⟩ dX5_rumourNow_48 ?_
        show lc_V _ _ _ _ _ 51 _ [.int ((sp_tellM (sp_tr z.2 1) (4 * a + k) (4 * b + k)).1), .int (z.1)] (lc_w σ 2 ((sp_tellM (sp_tr z.2 1) (4 * a + k) (4 * b + k)).2))
        refine lc_goto 55 dX5_rumourNow_51 (by decide) ?_
        refine lc_iadd dX5_rumourNow_55 ?_
        refine lc_istore_n [(3, .int ((z.1 + ((sp_tellM (sp_tr z.2 1) (4 * a + k) (4 * b + k)).1)))), (5, .int (nI (4 * a + k))), (0, .ref (G.1 (14))), (1, .int (nI a)), (2, .int (nI b)), (4, .int (nI k))] dX5_rumourNow_56 (by decide) rfl ?_
        refine lc_iinc 5 (nI (k + 1)) [(4, .int (nI (k + 1))), (3, .int ((z.1 + ((sp_tellM (sp_tr z.2 1) (4 * a + k) (4 * b + k)).1)))), (5, .int (nI (4 * a + k))), (0, .ref (G.1 (14))), (1, .int (nI a)), (2, .int (nI b))] dX5_rumourNow_57 rfl (lc_inc1 k) (by decide) rfl ?_
        refine lc_goto 5 dX5_rumourNow_60 (by decide) ?_
        refine lc_lv (lv' := [(0, .ref (G.1 (14))), (1, .int (nI a)), (2, .int (nI b)), (3, .int ((z.1 + ((sp_tellM (sp_tr z.2 1) (4 * a + k) (4 * b + k)).1)))), (4, .int (nI (k + 1)))]) [3, 4, 5, 1, 0] rfl ?_
        rw [show (sp_hotM a b) k z = ((z.1 + ((sp_tellM (sp_tr z.2 1) (4 * a + k) (4 * b + k)).1)), (sp_tellM (sp_tr z.2 1) (4 * a + k) (4 * b + k)).2) from by simp [sp_hotM, c_2, c_3]] at kk
        exact kk
  · skip
    show lc_V G Γ cX5_rumourNow 6 RX5 5 [(0, .ref (G.1 (14))), (1, .int (nI a)), (2, .int (nI b)), (3, .int (((sp_hotsM x a b)).1)), (4, .int (nI 4))] [] (lc_w σ 2 (((sp_hotsM x a b)).2))
    refine lc_iload 4 dX5_rumourNow_5 rfl ?_
    refine lc_iconst (v := 4) dX5_rumourNow_7 (by decide) ?_
    refine lc_icmp_ge 63 dX5_rumourNow_8 (by decide) (fun _ => ?_) (fun h => absurd h.1 (by exact nI_nlt (a := 4) (b := 4) (Nat.le_refl _) (by omega)))
    refine lc_iload_n 3 dX5_rumourNow_63 rfl ?_
    exact lc_iret hR dX5_rumourNow_64 (rfl) (rfl)
