set_option maxRecDepth 100000 in
set_option maxHeartbeats 4000000 in
theorem c_X0_becomeCopy (l : Launch) (G : lc_G) (σ : lc_S) (j : Nat) (x : lc_X) (i k : Nat) (hj : j < 2) (hi : i < 24) (hk : k < 24) (h : Int32) : lc_M l G yX0_becomeCopy cX0_becomeCopy 3 none { frames := 0, cells := 0, slots := 0, locals := 0 } [.ref (G.1 (lc_it j i)), .ref (G.1 (lc_it j k)), .int (h)] (lc_w σ j x) none (lc_w σ j ((sp_copy x.1 i x.1 k h, x.2))) := by
  refine lc_entry [(0, .ref (G.1 (lc_it j i))), (1, .ref (G.1 (lc_it j k))), (2, .int (h))] (by decide) (Nat.le_of_ble_eq_true rfl) rfl rfl rfl ?_
  intro Γ hR
  refine lc_aload_n 0 dX0_becomeCopy_0 rfl ?_
  refine lc_aload_n 1 dX0_becomeCopy_1 rfl ?_
  refine lc_gIw j k 0 (by omega) (by omega) (by decide) fl_X0_14 dX0_becomeCopy_2 ?_
  refine lc_pIw j i 0 (by omega) (by omega) (by decide) fl_X0_14 dX0_becomeCopy_5 ?_
  refine lc_aload_n 0 dX0_becomeCopy_8 rfl ?_
  refine lc_aload_n 1 dX0_becomeCopy_9 rfl ?_
  refine lc_gIw j k 1 (by omega) (by omega) (by decide) fl_X0_18 dX0_becomeCopy_10 ?_
  refine lc_pIw j i 1 (by omega) (by omega) (by decide) fl_X0_18 dX0_becomeCopy_13 ?_
  refine lc_aload_n 0 dX0_becomeCopy_16 rfl ?_
  refine lc_aload_n 1 dX0_becomeCopy_17 rfl ?_
  refine lc_gIw j k 2 (by omega) (by omega) (by decide) fl_X0_21 dX0_becomeCopy_18 ?_
  refine lc_pIw j i 2 (by omega) (by omega) (by decide) fl_X0_21 dX0_becomeCopy_21 ?_
  refine lc_aload_n 0 dX0_becomeCopy_24 rfl ?_
  refine lc_aload_n 1 dX0_becomeCopy_25 rfl ?_
  refine lc_gIw j k 3 (by omega) (by omega) (by decide) fl_X0_24 dX0_becomeCopy_26 ?_
  refine lc_pIw j i 3 (by omega) (by omega) (by decide) fl_X0_24 dX0_becomeCopy_29 ?_
  refine lc_aload_n 0 dX0_becomeCopy_32 rfl ?_
  refine lc_aload_n 1 dX0_becomeCopy_33 rfl ?_
  refine lc_gIw j k 4 (by omega) (by omega) (by decide) fl_X0_27 dX0_becomeCopy_34 ?_
  refine lc_pIw j i 4 (by omega) (by omega) (by decide) fl_X0_27 dX0_becomeCopy_37 ?_
  refine lc_aload_n 0 dX0_becomeCopy_40 rfl ?_
  refine lc_iload_n 2 dX0_becomeCopy_41 rfl ?_
  refine lc_pIw j i 5 (by omega) (by omega) (by decide) fl_X0_30 dX0_becomeCopy_42 ?_
  exact lc_vret hR dX0_becomeCopy_45 (rfl)

set_option maxRecDepth 100000 in
set_option maxHeartbeats 4000000 in
theorem c_X0_becomeCopy_t (l : Launch) (G : lc_G) (σ : lc_S) (x : lc_X) (i k : Nat) (hi : i < 24) (hk : k < 24) (h : Int32) : lc_M l G yX0_becomeCopy cX0_becomeCopy 3 none { frames := 0, cells := 0, slots := 0, locals := 0 } [.ref (G.1 (lc_it 1 i)), .ref (G.1 (lc_it 0 k)), .int (h)] (lc_w σ 1 x) none (lc_w σ 1 ((sp_copy x.1 i (σ.1 0) k h, x.2))) := by
  refine lc_entry [(0, .ref (G.1 (lc_it 1 i))), (1, .ref (G.1 (lc_it 0 k))), (2, .int (h))] (by decide) (Nat.le_of_ble_eq_true rfl) rfl rfl rfl ?_
  intro Γ hR
  refine lc_aload_n 0 dX0_becomeCopy_0 rfl ?_
  refine lc_aload_n 1 dX0_becomeCopy_1 rfl ?_
  refine lc_gI 0 k 0 (by omega) (by omega) (by decide) fl_X0_14 dX0_becomeCopy_2 ?_
  refine lc_pIw 1 i 0 (by omega) (by omega) (by decide) fl_X0_14 dX0_becomeCopy_5 ?_
  refine lc_aload_n 0 dX0_becomeCopy_8 rfl ?_
  refine lc_aload_n 1 dX0_becomeCopy_9 rfl ?_
  refine lc_gI 0 k 1 (by omega) (by omega) (by decide) fl_X0_18 dX0_becomeCopy_10 ?_
  refine lc_pIw 1 i 1 (by omega) (by omega) (by decide) fl_X0_18 dX0_becomeCopy_13 ?_
  refine lc_aload_n 0 dX0_becomeCopy_16 rfl ?_
  refine lc_aload_n 1 dX0_becomeCopy_17 rfl ?_
  refine lc_gI 0 k 2 (by omega) (by omega) (by decide) fl_X0_21 dX0_becomeCopy_18 ?_
  refine lc_pIw 1 i 2 (by omega) (by omega) (by decide) fl_X0_21 dX0_becomeCopy_21 ?_
  refine lc_aload_n 0 dX0_becomeCopy_24 rfl ?_
  refine lc_aload_n 1 dX0_becomeCopy_25 rfl ?_
  refine lc_gI 0 k 3 (by omega) (by omega) (by decide) fl_X0_24 dX0_becomeCopy_26 ?_
  refine lc_pIw 1 i 3 (by omega) (by omega) (by decide) fl_X0_24 dX0_becomeCopy_29 ?_
  refine lc_aload_n 0 dX0_becomeCopy_32 rfl ?_
  refine lc_aload_n 1 dX0_becomeCopy_33 rfl ?_
  refine lc_gI 0 k 4 (by omega) (by omega) (by decide) fl_X0_27 dX0_becomeCopy_34 ?_
  refine lc_pIw 1 i 4 (by omega) (by omega) (by decide) fl_X0_27 dX0_becomeCopy_37 ?_
  refine lc_aload_n 0 dX0_becomeCopy_40 rfl ?_
  refine lc_iload_n 2 dX0_becomeCopy_41 rfl ?_
  refine lc_pIw 1 i 5 (by omega) (by omega) (by decide) fl_X0_30 dX0_becomeCopy_42 ?_
  exact lc_vret hR dX0_becomeCopy_45 (rfl)

set_option maxRecDepth 100000 in
set_option maxHeartbeats 4000000 in
theorem c_X3_isKept (l : Launch) (G : lc_G) (σ : lc_S) (j : Nat) (x : lc_X) (i : Nat) (hj : j < 2) (hi : i < 24) (s : Int32) : lc_M l G yX3_isKept cX3_isKept 4 (some .boolean) { frames := 0, cells := 0, slots := 0, locals := 0 } [.ref (G.1 (4 + j)), .ref (G.1 (lc_it j i)), .int (s)] (lc_w σ j x) (some (.int (lc_bi (sp_kept x.1 i s)))) (lc_w σ j x) := by
  refine lc_entry [(0, .ref (G.1 (4 + j))), (1, .ref (G.1 (lc_it j i))), (2, .int (s))] (by decide) (Nat.le_of_ble_eq_true rfl) rfl rfl rfl ?_
  intro Γ hR
  refine lc_aload_n 1 dX3_isKept_0 rfl ?_
  refine lc_gIw j i 4 (by omega) (by omega) (by decide) fl_X3_93 dX3_isKept_1 ?_
  refine lc_iload_n 2 dX3_isKept_4 rfl ?_
  refine lc_ishr dX3_isKept_5 ?_
  refine lc_iconst (v := 1) dX3_isKept_6 (by decide) ?_
  refine lc_iand dX3_isKept_7 ?_
  refine lc_iconst (v := 1) dX3_isKept_8 (by decide) ?_
  refine lc_icmp_ne 16 dX3_isKept_9 (by decide) (fun c_1 => ?_) (fun c_1 => ?_)
  · skip
    refine lc_iconst (v := 0) dX3_isKept_16 (by decide) ?_
    refine lc_istore_n [(3, .int (0)), (0, .ref (G.1 (4 + j))), (1, .ref (G.1 (lc_it j i))), (2, .int (s))] dX3_isKept_17 (by decide) rfl ?_
    refine lc_iload_n 0 dX3_isKept_18 rfl ?_
    refine lc_if_eq 51 dX3_isKept_19 (by decide) (fun _ => ?_) (fun h => absurd h (by decide))
    refine lc_iconst (v := 0) dX3_isKept_51 (by decide) ?_
    exact lc_zret hR dX3_isKept_52 (by simp [sp_kept, sp_bit, lc_bi, c_1]) (rfl)
  · skip
    refine lc_iconst (v := 1) dX3_isKept_12 (by decide) ?_
    refine lc_goto 17 dX3_isKept_13 (by decide) ?_
    refine lc_istore_n [(3, .int (1)), (0, .ref (G.1 (4 + j))), (1, .ref (G.1 (lc_it j i))), (2, .int (s))] dX3_isKept_17 (by decide) rfl ?_
    refine lc_iload_n 0 dX3_isKept_18 rfl ?_
    refine lc_if_eq 51 dX3_isKept_19 (by decide) (fun h => absurd h (by decide)) (fun _ => ?_)
    refine lc_aload_n 1 dX3_isKept_22 rfl ?_
    refine lc_gWNow j (by omega) fl_X3_37 dX3_isKept_23 ?_
    refine lc_aload_n 2 dX3_isKept_26 rfl ?_
    refine lc_gIw j i 3 (by omega) (by omega) (by decide) fl_X3_90 dX3_isKept_27 ?_
    refine lc_isub dX3_isKept_30 ?_
    refine lc_aload_n 1 dX3_isKept_31 rfl ?_
    refine lc_gWLim j (by omega) fl_X3_9 dX3_isKept_32 ?_
    refine lc_iconst (v := 0) dX3_isKept_35 (by decide) ?_
    refine lc_iald (6 + j) 0 (by omega) (lc_eLim j (by omega)) (rfl) (by omega) (by decide) dX3_isKept_36 ?_
    refine lc_aload_n 1 dX3_isKept_37 rfl ?_
    refine lc_gWLim j (by omega) fl_X3_9 dX3_isKept_38 ?_
    refine lc_iconst (v := 1) dX3_isKept_41 (by decide) ?_
    refine lc_iald (6 + j) 1 (by omega) (lc_eLim j (by omega)) (rfl) (by omega) (by decide) dX3_isKept_42 ?_
    refine lc_iadd dX3_isKept_43 ?_
    refine lc_icmp_gt 51 dX3_isKept_44 (by decide) (fun c_4 => ?_) (fun c_4 => ?_)
    · skip
      refine lc_iconst (v := 0) dX3_isKept_51 (by decide) ?_
      exact lc_zret hR dX3_isKept_52 (by simp [sp_kept, sp_bit, lc_bi, c_1, c_4]) (rfl)
    · skip
      refine lc_iconst (v := 1) dX3_isKept_47 (by decide) ?_
      refine lc_goto 52 dX3_isKept_48 (by decide) ?_
      exact lc_zret hR dX3_isKept_52 (by simp [sp_kept, sp_bit, lc_bi, c_1, c_4]) (rfl)

set_option maxRecDepth 100000 in
set_option maxHeartbeats 4000000 in
theorem c_X3_isRecent (l : Launch) (G : lc_G) (σ : lc_S) (j : Nat) (x : lc_X) (i : Nat) (hj : j < 2) (hi : i < 24) : lc_M l G yX3_isRecent cX3_isRecent 2 (some .boolean) { frames := 1, cells := 0, slots := 0, locals := 21 } [.ref (G.1 (4 + j)), .ref (G.1 (lc_it j i))] (lc_w σ j x) (some (.int (lc_bi (sp_rec x.1 i)))) (lc_w σ j x) := by
  refine lc_entry [(0, .ref (G.1 (4 + j))), (1, .ref (G.1 (lc_it j i)))] (by decide) (Nat.le_of_ble_eq_true rfl) rfl rfl rfl ?_
  intro Γ hR
  refine lc_aload_n 0 dX3_isRecent_0 rfl ?_
  refine lc_aload_n 1 dX3_isRecent_1 rfl ?_
  refine lc_callV (4 + j) (c_X3_isAwake l G σ j x i (by omega) (by omega)) hR.2.2.2.1 hR.2.2.2.2 mt_X3_isAwake (by omega) (lc_eW j (by omega)) rfl ml_X3_131 rfl rfl (Nat.le_of_ble_eq_true rfl) ⟨⟨rfl, rfl⟩, Nat.le_of_ble_eq_true rfl, Nat.le_of_ble_eq_true rfl⟩ dX3_isRecent_2 ?_
  show lc_V _ _ _ _ _ 5 _ [.int (lc_bi (sp_aw x.1 i))] (lc_w σ j x)
  refine lc_ifb_eq 30 dX3_isRecent_5 (by decide) (fun c_1 => ?_) (fun c_1 => ?_)
  · skip
    refine lc_iconst (v := 0) dX3_isRecent_30 (by decide) ?_
    exact lc_zret hR dX3_isRecent_31 (by simp [sp_rec, lc_bi, c_1]) (rfl)
  · skip
    refine lc_aload_n 0 dX3_isRecent_8 rfl ?_
    refine lc_gWNow j (by omega) fl_X3_37 dX3_isRecent_9 ?_
    refine lc_aload_n 1 dX3_isRecent_12 rfl ?_
    refine lc_gIw j i 3 (by omega) (by omega) (by decide) fl_X3_90 dX3_isRecent_13 ?_
    refine lc_isub dX3_isRecent_16 ?_
    refine lc_aload_n 0 dX3_isRecent_17 rfl ?_
    refine lc_gWLim j (by omega) fl_X3_9 dX3_isRecent_18 ?_
    refine lc_iconst (v := 3) dX3_isRecent_21 (by decide) ?_
    refine lc_iald (6 + j) 3 (by omega) (lc_eLim j (by omega)) (rfl) (by omega) (by decide) dX3_isRecent_22 ?_
    refine lc_icmp_ge 30 dX3_isRecent_23 (by decide) (fun c_2 => ?_) (fun c_2 => ?_)
    · skip
      refine lc_iconst (v := 0) dX3_isRecent_30 (by decide) ?_
      exact lc_zret hR dX3_isRecent_31 (by simp [sp_rec, lc_bi, c_1, c_2]) (rfl)
    · skip
      refine lc_iconst (v := 1) dX3_isRecent_26 (by decide) ?_
      refine lc_goto 31 dX3_isRecent_27 (by decide) ?_
      exact lc_zret hR dX3_isRecent_31 (by simp [sp_rec, lc_bi, c_1, c_2]) (rfl)

set_option maxRecDepth 100000 in
set_option maxHeartbeats 4000000 in
theorem c_X3_isSame (l : Launch) (G : lc_G) (σ : lc_S) (j : Nat) (x : lc_X) (i k : Nat) (hj : j < 2) (hi : i < 24) (hk : k < 24) : lc_M l G yX3_isSame cX3_isSame 3 (some .boolean) { frames := 1, cells := 0, slots := 0, locals := 21 } [.ref (G.1 (4 + j)), .ref (G.1 (lc_it j i)), .ref (G.1 (lc_it j k))] (lc_w σ j x) (some (.int (lc_bi (sp_same x.1 i k)))) (lc_w σ j x) := by
  refine lc_entry [(0, .ref (G.1 (4 + j))), (1, .ref (G.1 (lc_it j i))), (2, .ref (G.1 (lc_it j k)))] (by decide) (Nat.le_of_ble_eq_true rfl) rfl rfl rfl ?_
  intro Γ hR
  refine lc_aload_n 0 dX3_isSame_0 rfl ?_
  refine lc_aload_n 1 dX3_isSame_1 rfl ?_
  refine lc_callV (4 + j) (c_X3_isAwake l G σ j x i (by omega) (by omega)) hR.2.2.2.1 hR.2.2.2.2 mt_X3_isAwake (by omega) (lc_eW j (by omega)) rfl ml_X3_131 rfl rfl (Nat.le_of_ble_eq_true rfl) ⟨⟨rfl, rfl⟩, Nat.le_of_ble_eq_true rfl, Nat.le_of_ble_eq_true rfl⟩ dX3_isSame_2 ?_
  show lc_V _ _ _ _ _ 5 _ [.int (lc_bi (sp_aw x.1 i))] (lc_w σ j x)
  refine lc_ifb_eq 16 dX3_isSame_5 (by decide) (fun c_1 => ?_) (fun c_1 => ?_)
  · skip
    refine lc_aload_n 0 dX3_isSame_16 rfl ?_
    refine lc_aload_n 1 dX3_isSame_17 rfl ?_
    refine lc_callV (4 + j) (c_X3_isAwake l G σ j x i (by omega) (by omega)) hR.2.2.2.1 hR.2.2.2.2 mt_X3_isAwake (by omega) (lc_eW j (by omega)) rfl ml_X3_131 rfl rfl (Nat.le_of_ble_eq_true rfl) ⟨⟨rfl, rfl⟩, Nat.le_of_ble_eq_true rfl, Nat.le_of_ble_eq_true rfl⟩ dX3_isSame_18 ?_
    show lc_V _ _ _ _ _ 21 _ [.int (lc_bi (sp_aw x.1 i))] (lc_w σ j x)
    refine lc_ifb_ne 36 dX3_isSame_21 (by decide) (fun h => absurd (h.symm.trans c_1) (by decide)) (fun _ => ?_)
    refine lc_aload_n 0 dX3_isSame_24 rfl ?_
    refine lc_aload_n 2 dX3_isSame_25 rfl ?_
    refine lc_callV (4 + j) (c_X3_isAwake l G σ j x k (by omega) (by omega)) hR.2.2.2.1 hR.2.2.2.2 mt_X3_isAwake (by omega) (lc_eW j (by omega)) rfl ml_X3_131 rfl rfl (Nat.le_of_ble_eq_true rfl) ⟨⟨rfl, rfl⟩, Nat.le_of_ble_eq_true rfl, Nat.le_of_ble_eq_true rfl⟩ dX3_isSame_26 ?_
    show lc_V _ _ _ _ _ 29 _ [.int (lc_bi (sp_aw x.1 k))] (lc_w σ j x)
    refine lc_ifb_ne 36 dX3_isSame_29 (by decide) (fun c_3 => ?_) (fun c_3 => ?_)
    · skip
      refine lc_iconst (v := 0) dX3_isSame_36 (by decide) ?_
      exact lc_zret hR dX3_isSame_37 (by simp [sp_same, lc_bi, c_1, c_3]) (rfl)
    · skip
      refine lc_iconst (v := 1) dX3_isSame_32 (by decide) ?_
      refine lc_goto 37 dX3_isSame_33 (by decide) ?_
      exact lc_zret hR dX3_isSame_37 (by simp [sp_same, lc_bi, c_1, c_3]) (rfl)
  · skip
    refine lc_aload_n 0 dX3_isSame_8 rfl ?_
    refine lc_aload_n 2 dX3_isSame_9 rfl ?_
    refine lc_callV (4 + j) (c_X3_isAwake l G σ j x k (by omega) (by omega)) hR.2.2.2.1 hR.2.2.2.2 mt_X3_isAwake (by omega) (lc_eW j (by omega)) rfl ml_X3_131 rfl rfl (Nat.le_of_ble_eq_true rfl) ⟨⟨rfl, rfl⟩, Nat.le_of_ble_eq_true rfl, Nat.le_of_ble_eq_true rfl⟩ dX3_isSame_10 ?_
    show lc_V _ _ _ _ _ 13 _ [.int (lc_bi (sp_aw x.1 k))] (lc_w σ j x)
    refine lc_ifb_ne 38 dX3_isSame_13 (by decide) (fun c_4 => ?_) (fun c_4 => ?_)
    · skip
      refine lc_aload_n 1 dX3_isSame_38 rfl ?_
      refine lc_gIw j i 2 (by omega) (by omega) (by decide) fl_X3_138 dX3_isSame_39 ?_
      refine lc_aload_n 2 dX3_isSame_42 rfl ?_
      refine lc_gIw j k 2 (by omega) (by omega) (by decide) fl_X3_138 dX3_isSame_43 ?_
      refine lc_icmp_ne 64 dX3_isSame_46 (by decide) (fun c_5 => ?_) (fun c_5 => ?_)
      · skip
        refine lc_iconst (v := 0) dX3_isSame_64 (by decide) ?_
        exact lc_zret hR dX3_isSame_65 (by simp [sp_same, lc_bi, c_1, c_4, c_5]) (rfl)
      · skip
        refine lc_aload_n 1 dX3_isSame_49 rfl ?_
        refine lc_gIw j i 3 (by omega) (by omega) (by decide) fl_X3_90 dX3_isSame_50 ?_
        refine lc_aload_n 2 dX3_isSame_53 rfl ?_
        refine lc_gIw j k 3 (by omega) (by omega) (by decide) fl_X3_90 dX3_isSame_54 ?_
        refine lc_icmp_ne 64 dX3_isSame_57 (by decide) (fun c_6 => ?_) (fun c_6 => ?_)
        · skip
          refine lc_iconst (v := 0) dX3_isSame_64 (by decide) ?_
          exact lc_zret hR dX3_isSame_65 (by simp [sp_same, lc_bi, c_1, c_4, c_5, c_6]) (rfl)
        · skip
          refine lc_iconst (v := 1) dX3_isSame_60 (by decide) ?_
          refine lc_goto 65 dX3_isSame_61 (by decide) ?_
          exact lc_zret hR dX3_isSame_65 (by simp [sp_same, lc_bi, c_1, c_4, c_5, c_6]) (rfl)
    · skip
      refine lc_aload_n 0 dX3_isSame_16 rfl ?_
      refine lc_aload_n 1 dX3_isSame_17 rfl ?_
      refine lc_callV (4 + j) (c_X3_isAwake l G σ j x i (by omega) (by omega)) hR.2.2.2.1 hR.2.2.2.2 mt_X3_isAwake (by omega) (lc_eW j (by omega)) rfl ml_X3_131 rfl rfl (Nat.le_of_ble_eq_true rfl) ⟨⟨rfl, rfl⟩, Nat.le_of_ble_eq_true rfl, Nat.le_of_ble_eq_true rfl⟩ dX3_isSame_18 ?_
      show lc_V _ _ _ _ _ 21 _ [.int (lc_bi (sp_aw x.1 i))] (lc_w σ j x)
      refine lc_ifb_ne 36 dX3_isSame_21 (by decide) (fun _ => ?_) (fun h => absurd (h.symm.trans c_1) (by decide))
      refine lc_iconst (v := 0) dX3_isSame_36 (by decide) ?_
      exact lc_zret hR dX3_isSame_37 (by simp [sp_same, lc_bi, c_1, c_4]) (rfl)

set_option maxRecDepth 100000 in
set_option maxHeartbeats 4000000 in
theorem c_X3_wake (l : Launch) (G : lc_G) (σ : lc_S) (j : Nat) (x : lc_X) (i : Nat) (hj : j < 2) (hi : i < 24) : lc_M l G yX3_wake cX3_wake 2 none { frames := 0, cells := 0, slots := 0, locals := 0 } [.ref (G.1 (4 + j)), .ref (G.1 (lc_it j i))] (lc_w σ j x) none (lc_w σ j (sp_wake x i)) := by
  refine lc_entry [(0, .ref (G.1 (4 + j))), (1, .ref (G.1 (lc_it j i)))] (by decide) (Nat.le_of_ble_eq_true rfl) rfl rfl rfl ?_
  intro Γ hR
  refine lc_aload_n 1 dX3_wake_0 rfl ?_
  refine lc_aload_n 0 dX3_wake_1 rfl ?_
  refine lc_gWNow j (by omega) fl_X3_37 dX3_wake_2 ?_
  refine lc_pIw j i 3 (by omega) (by omega) (by decide) fl_X3_90 dX3_wake_5 ?_
  refine lc_aload_n 1 dX3_wake_8 rfl ?_
  refine lc_aload_n 0 dX3_wake_9 rfl ?_
  refine lc_gWLim j (by omega) fl_X3_9 dX3_wake_10 ?_
  refine lc_iconst (v := 2) dX3_wake_13 (by decide) ?_
  refine lc_iald (6 + j) 2 (by omega) (lc_eLim j (by omega)) (rfl) (by omega) (by decide) dX3_wake_14 ?_
  refine lc_pIw j i 5 (by omega) (by omega) (by decide) fl_X3_64 dX3_wake_15 ?_
  refine lc_aload_n 0 dX3_wake_18 rfl ?_
  refine lc_dup dX3_wake_19 rfl ?_
  refine lc_gWWok j (by omega) fl_X3_46 dX3_wake_20 ?_
  refine lc_iconst (v := 1) dX3_wake_23 (by decide) ?_
  refine lc_iadd dX3_wake_24 ?_
  refine lc_pWWok j ((((lc_cu (lc_cu x.1 3 i (x.1 7 1)) 5 i ((lc_cu x.1 3 i (x.1 7 1)) 6 2), x.2)).2.2.1) + 1) (Int32.add_assoc _ _ _) (by omega) fl_X3_46 dX3_wake_25 ?_
  refine lc_eq (σ' := lc_w σ j ((((lc_cu (lc_cu x.1 3 i (x.1 7 1)) 5 i ((lc_cu x.1 3 i (x.1 7 1)) 6 2), x.2)).1, ((lc_cu (lc_cu x.1 3 i (x.1 7 1)) 5 i ((lc_cu x.1 3 i (x.1 7 1)) 6 2), x.2)).2.1, (((lc_cu (lc_cu x.1 3 i (x.1 7 1)) 5 i ((lc_cu x.1 3 i (x.1 7 1)) 6 2), x.2)).2.2.1) + 1, ((lc_cu (lc_cu x.1 3 i (x.1 7 1)) 5 i ((lc_cu x.1 3 i (x.1 7 1)) 6 2), x.2)).2.2.2))) rfl ?_
  exact lc_vret hR dX3_wake_28 (rfl)

set_option maxRecDepth 100000 in
set_option maxHeartbeats 4000000 in
theorem c_X3_dropGone (l : Launch) (G : lc_G) (σ : lc_S) (j : Nat) (x : lc_X) (n : Nat) (hj : j < 2) (hn : n ≤ 6) (hs : x.1 7 0 = nI n) : lc_M l G yX3_dropGone cX3_dropGone 5 (some .int) { frames := 1, cells := 0, slots := 0, locals := 23 } [.ref (G.1 (4 + j))] (lc_w σ j x) (some (.int ((sp_drop n x).1))) (lc_w σ j ((sp_drop n x).2)) := by
  refine lc_entry [(0, .ref (G.1 (4 + j)))] (by decide) (Nat.le_of_ble_eq_true rfl) rfl rfl rfl ?_
  intro Γ hR
  refine lc_iconst (v := 0) dX3_dropGone_0 (by decide) ?_
  refine lc_istore_n [(1, .int (0)), (0, .ref (G.1 (4 + j)))] dX3_dropGone_1 (by decide) rfl ?_
  refine lc_iconst (v := 0) dX3_dropGone_2 (by decide) ?_
  refine lc_istore_n [(2, .int (0)), (1, .int (0)), (0, .ref (G.1 (4 + j)))] dX3_dropGone_3 (by decide) rfl ?_
  refine lc_lv (lv' := [(0, .ref (G.1 (4 + j))), (1, .int (0)), (2, .int (0))]) [2, 1, 0] rfl ?_
  refine lc_forI (α := Int32 × lc_X) (fun i z => lc_V G Γ _ _ _ 4 [(0, .ref (G.1 (4 + j))), (1, .int (z.1)), (2, .int (nI i))] [] (lc_w σ j z.2)) (fun _ z => z.2.1 7 0 = nI n) (sp_dgs) n (fun i z _ h => by rw [sp_dgs_7]; exact h) (fun i z hi hIi ki => ?_) ((0, x)) (hs) (fun hIi => ?_)
  · skip
    show lc_V G Γ _ _ _ 4 [(0, .ref (G.1 (4 + j))), (1, .int (z.1)), (2, .int (nI i))] [] (lc_w σ j z.2)
    refine lc_iload_n 2 dX3_dropGone_4 rfl ?_
    refine lc_aload_n 0 dX3_dropGone_5 rfl ?_
    refine lc_gWSites j (by omega) fl_X3_34 dX3_dropGone_6 ?_
    refine lc_icmp_ge 66 dX3_dropGone_9 (by decide) (fun h => absurd h.1 (by rw [hIi]; exact nI_ge (b := n) hi (by omega))) (fun _ => ?_)
    refine lc_iconst (v := 0) dX3_dropGone_12 (by decide) ?_
    refine lc_istore_n [(3, .int (0)), (0, .ref (G.1 (4 + j))), (1, .int (z.1)), (2, .int (nI i))] dX3_dropGone_13 (by decide) rfl ?_
    refine lc_lv (lv' := [(0, .ref (G.1 (4 + j))), (1, .int (z.1)), (2, .int (nI i)), (3, .int (0))]) [1, 2, 3, 0] rfl ?_
    refine lc_forI (α := Int32 × lc_X) (fun k y => lc_V G Γ _ _ _ 14 [(0, .ref (G.1 (4 + j))), (1, .int (y.1)), (2, .int (nI i)), (3, .int (nI k))] [] (lc_w σ j y.2)) (fun _ _ => True) (fun k => sp_dg (4 * i + k)) 4 (fun _ _ _ _ => trivial) (fun k y hk hIk kk => ?_) z (trivial) (fun hIk => ?_)
    · skip
      show lc_V G Γ _ _ _ 14 [(0, .ref (G.1 (4 + j))), (1, .int (y.1)), (2, .int (nI i)), (3, .int (nI k))] [] (lc_w σ j y.2)
      refine lc_iload_n 3 dX3_dropGone_14 rfl ?_
      refine lc_iconst (v := 4) dX3_dropGone_15 (by decide) ?_
      refine lc_icmp_ge 60 dX3_dropGone_16 (by decide) (fun h => absurd h.1 (by exact nI_ge (b := 4) hk (by omega))) (fun _ => ?_)
      refine lc_aload_n 0 dX3_dropGone_19 rfl ?_
      refine lc_iload_n 2 dX3_dropGone_20 rfl ?_
      refine lc_iload_n 3 dX3_dropGone_21 rfl ?_
      refine lc_callV (4 + j) (c_X3_itemAt l G (lc_w σ j y.2) j i k (by omega) (by omega) (by omega)) hR.2.2.2.1 hR.2.2.2.2 mt_X3_itemAt (by omega) (lc_eW j (by omega)) rfl ml_X3_75 rfl rfl (Nat.le_of_ble_eq_true rfl) ⟨⟨rfl, rfl⟩, Nat.le_of_ble_eq_true rfl, Nat.le_of_ble_eq_true rfl⟩ dX3_dropGone_22 ?_
      show lc_V _ _ _ _ _ 25 _ [.ref (G.1 (lc_it j (4 * i + k)))] (lc_w σ j y.2)
      refine lc_astore [(4, .ref (G.1 (lc_it j (4 * i + k)))), (0, .ref (G.1 (4 + j))), (1, .int (y.1)), (2, .int (nI i)), (3, .int (nI k))] dX3_dropGone_25 (by decide) rfl ?_
      refine lc_aload_n 1 dX3_dropGone_27 rfl ?_
      refine lc_aload 0 dX3_dropGone_28 rfl ?_
      refine lc_callV (4 + j) (c_X3_isDormant l G σ j y.2 (4 * i + k) (by omega) (by omega)) hR.2.2.2.1 hR.2.2.2.2 mt_X3_isDormant (by omega) (lc_eW j (by omega)) rfl ml_X3_79 rfl rfl (Nat.le_of_ble_eq_true rfl) ⟨⟨rfl, rfl⟩, Nat.le_of_ble_eq_true rfl, Nat.le_of_ble_eq_true rfl⟩ dX3_dropGone_30 ?_
      show lc_V _ _ _ _ _ 33 _ [.int (lc_bi (sp_dor y.2.1 (4 * i + k)))] (lc_w σ j y.2)
      refine lc_ifb_eq 54 dX3_dropGone_33 (by decide) (fun c_3 => ?_) (fun c_3 => ?_)
      · skip
        refine lc_iinc 4 (nI (k + 1)) [(3, .int (nI (k + 1))), (4, .ref (G.1 (lc_it j (4 * i + k)))), (0, .ref (G.1 (4 + j))), (1, .int (y.1)), (2, .int (nI i))] dX3_dropGone_54 rfl (lc_inc1 k) (by decide) rfl ?_
        refine lc_goto 14 dX3_dropGone_57 (by decide) ?_
        refine lc_lv (lv' := [(0, .ref (G.1 (4 + j))), (1, .int (y.1)), (2, .int (nI i)), (3, .int (nI (k + 1)))]) [2, 3, 4, 0] rfl ?_
        rw [show sp_dg (4 * i + k) y = (y.1, y.2) from by (have e4 : (4 * i + k) / 4 = i := (by omega)); simp [sp_dg, e4, c_3]] at kk
        exact kk
      · skip
        refine lc_aload_n 1 dX3_dropGone_36 rfl ?_
        refine lc_aload 0 dX3_dropGone_37 rfl ?_
        refine lc_iload_n 3 dX3_dropGone_39 rfl ?_
        refine lc_callV (4 + j) (c_X3_isKept l G σ j y.2 (4 * i + k) (by omega) (by omega) (nI i)) hR.2.2.2.1 hR.2.2.2.2 mt_X3_isKept (by omega) (lc_eW j (by omega)) rfl ml_X3_83 rfl rfl (Nat.le_of_ble_eq_true rfl) ⟨⟨rfl, rfl⟩, Nat.le_of_ble_eq_true rfl, Nat.le_of_ble_eq_true rfl⟩ dX3_dropGone_40 ?_
        show lc_V _ _ _ _ _ 43 _ [.int (lc_bi (sp_kept y.2.1 (4 * i + k) (nI i)))] (lc_w σ j y.2)
        refine lc_ifb_ne 54 dX3_dropGone_43 (by decide) (fun c_4 => ?_) (fun c_4 => ?_)
        · skip
          refine lc_iinc 4 (nI (k + 1)) [(3, .int (nI (k + 1))), (4, .ref (G.1 (lc_it j (4 * i + k)))), (0, .ref (G.1 (4 + j))), (1, .int (y.1)), (2, .int (nI i))] dX3_dropGone_54 rfl (lc_inc1 k) (by decide) rfl ?_
          refine lc_goto 14 dX3_dropGone_57 (by decide) ?_
          refine lc_lv (lv' := [(0, .ref (G.1 (4 + j))), (1, .int (y.1)), (2, .int (nI i)), (3, .int (nI (k + 1)))]) [2, 3, 4, 0] rfl ?_
          rw [show sp_dg (4 * i + k) y = (y.1, y.2) from by (have e4 : (4 * i + k) / 4 = i := (by omega)); simp [sp_dg, e4, c_3, c_4]] at kk
          exact kk
        · skip
          refine lc_aload 0 dX3_dropGone_46 rfl ?_
          refine lc_callV (lc_it j (4 * i + k)) (c_X0_becomeNothing l G σ j y.2 (4 * i + k) (by omega) (by omega)) hR.2.2.2.1 hR.2.2.2.2 mt_X0_becomeNothing (lc_it74 (by omega) (by omega)) (lc_ent_it G _ (by omega)) rfl ml_X3_55 rfl rfl (Nat.le_of_ble_eq_true rfl) ⟨⟨rfl, rfl⟩, Nat.le_of_ble_eq_true rfl, Nat.le_of_ble_eq_true rfl⟩ dX3_dropGone_48 ?_
          show lc_V _ _ _ _ _ 51 _ [] (lc_w σ j ((sp_none y.2.1 (4 * i + k), y.2.2)))
          refine lc_iinc 2 (y.1 + 1) [(1, .int (y.1 + 1)), (4, .ref (G.1 (lc_it j (4 * i + k)))), (0, .ref (G.1 (4 + j))), (2, .int (nI i)), (3, .int (nI k))] dX3_dropGone_51 rfl rfl (by decide) rfl ?_
          refine lc_iinc 4 (nI (k + 1)) [(3, .int (nI (k + 1))), (1, .int (y.1 + 1)), (4, .ref (G.1 (lc_it j (4 * i + k)))), (0, .ref (G.1 (4 + j))), (2, .int (nI i))] dX3_dropGone_54 rfl (lc_inc1 k) (by decide) rfl ?_
          refine lc_goto 14 dX3_dropGone_57 (by decide) ?_
          refine lc_lv (lv' := [(0, .ref (G.1 (4 + j))), (1, .int (y.1 + 1)), (2, .int (nI i)), (3, .int (nI (k + 1)))]) [3, 1, 4, 0] rfl ?_
          rw [show sp_dg (4 * i + k) y = (y.1 + 1, (sp_none y.2.1 (4 * i + k), y.2.2)) from by (have e4 : (4 * i + k) / 4 = i := (by omega)); simp [sp_dg, e4, c_3, c_4]] at kk
          exact kk
    · skip
      show lc_V G Γ _ _ _ 14 [(0, .ref (G.1 (4 + j))), (1, .int ((sp_dgs i z).1)), (2, .int (nI i)), (3, .int (nI 4))] [] (lc_w σ j ((sp_dgs i z).2))
      refine lc_iload_n 3 dX3_dropGone_14 rfl ?_
      refine lc_iconst (v := 4) dX3_dropGone_15 (by decide) ?_
      refine lc_icmp_ge 60 dX3_dropGone_16 (by decide) (fun _ => ?_) (fun h => absurd h.1 (by exact nI_nlt (a := 4) (b := 4) (Nat.le_refl _) (by omega)))
      refine lc_iinc 2 (nI (i + 1)) [(2, .int (nI (i + 1))), (0, .ref (G.1 (4 + j))), (1, .int ((sp_dgs i z).1)), (3, .int (nI 4))] dX3_dropGone_60 rfl (lc_inc1 i) (by decide) rfl ?_
      refine lc_goto 4 dX3_dropGone_63 (by decide) ?_
      refine lc_lv (lv' := [(0, .ref (G.1 (4 + j))), (1, .int ((sp_dgs i z).1)), (2, .int (nI (i + 1)))]) [1, 2, 0] rfl ?_
      rw [show (sp_dgs) i z = sp_dgs i z from rfl] at ki
      exact ki
  · skip
    have hIi : (sp_dropZ n x).2.1 7 0 = nI n := hIi
    show lc_V G Γ _ _ _ 4 [(0, .ref (G.1 (4 + j))), (1, .int ((sp_dropZ n x).1)), (2, .int (nI n))] [] (lc_w σ j ((sp_dropZ n x).2))
    refine lc_iload_n 2 dX3_dropGone_4 rfl ?_
    refine lc_aload_n 0 dX3_dropGone_5 rfl ?_
    refine lc_gWSites j (by omega) fl_X3_34 dX3_dropGone_6 ?_
    refine lc_icmp_ge 66 dX3_dropGone_9 (by decide) (fun _ => ?_) (fun h => absurd h.1 (by rw [hIi]; exact nI_nlt (a := n) (b := n) (Nat.le_refl _) (by omega)))
    refine lc_aload_n 0 dX3_dropGone_66 rfl ?_
    refine lc_dup dX3_dropGone_67 rfl ?_
    refine lc_gWGon j (by omega) fl_X3_49 dX3_dropGone_68 ?_
    refine lc_iload_n 1 dX3_dropGone_71 rfl ?_
    refine lc_iadd dX3_dropGone_72 ?_
    refine lc_pWGon j ((((sp_dropZ n x).2).2.2.2) + ((sp_dropZ n x).1)) (Int32.add_assoc _ _ _) (by omega) fl_X3_49 dX3_dropGone_73 ?_
    refine lc_eq (σ' := lc_w σ j ((((sp_dropZ n x).2).1, ((sp_dropZ n x).2).2.1, ((sp_dropZ n x).2).2.2.1, (((sp_dropZ n x).2).2.2.2) + ((sp_dropZ n x).1)))) rfl ?_
    refine lc_iload_n 1 dX3_dropGone_76 rfl ?_
    exact lc_iret hR dX3_dropGone_77 (rfl) (rfl)

set_option maxRecDepth 100000 in
set_option maxHeartbeats 4000000 in
theorem c_X3_advance (l : Launch) (G : lc_G) (σ : lc_S) (j : Nat) (x : lc_X) (n : Nat) (hj : j < 2) (hn : n ≤ 6) (hs : x.1 7 0 = nI n) (d : Int32) : lc_M l G yX3_advance cX3_advance 2 (some .int) { frames := 2, cells := 0, slots := 0, locals := 47 } [.ref (G.1 (4 + j)), .int (d)] (lc_w σ j x) (some (.int ((sp_adv n x d).1))) (lc_w σ j ((sp_adv n x d).2)) := by
  refine lc_entry [(0, .ref (G.1 (4 + j))), (1, .int (d))] (by decide) (Nat.le_of_ble_eq_true rfl) rfl rfl rfl ?_
  intro Γ hR
  refine lc_aload_n 0 dX3_advance_0 rfl ?_
  refine lc_dup dX3_advance_1 rfl ?_
  refine lc_gWNow j (by omega) fl_X3_37 dX3_advance_2 ?_
  refine lc_iload_n 1 dX3_advance_5 rfl ?_
  refine lc_iadd dX3_advance_6 ?_
  refine lc_pWNow j (by omega) fl_X3_37 dX3_advance_7 ?_
  refine lc_aload_n 0 dX3_advance_10 rfl ?_
  refine lc_callV (4 + j) (c_X3_dropGone l G σ j ((lc_cu x.1 7 1 (((x.1 7 1) + d)), x.2)) n (by omega) (by omega) (hs)) hR.2.2.2.1 hR.2.2.2.2 mt_X3_dropGone (by omega) (lc_eW j (by omega)) rfl ml_X3_71 rfl rfl (Nat.le_of_ble_eq_true rfl) ⟨⟨rfl, rfl⟩, Nat.le_of_ble_eq_true rfl, Nat.le_of_ble_eq_true rfl⟩ dX3_advance_11 ?_
  show lc_V _ _ _ _ _ 14 _ [.int ((sp_drop n ((lc_cu x.1 7 1 (((x.1 7 1) + d)), x.2))).1)] (lc_w σ j ((sp_drop n ((lc_cu x.1 7 1 (((x.1 7 1) + d)), x.2))).2))
  exact lc_iret hR dX3_advance_14 (rfl) (rfl)

set_option maxRecDepth 100000 in
set_option maxHeartbeats 4000000 in
theorem c_X3_meet (l : Launch) (G : lc_G) (σ : lc_S) (j : Nat) (x : lc_X) (i k : Nat) (hj : j < 2) (hi : i < 24) (hk : k < 24) : lc_M l G yX3_meet cX3_meet 3 (some .int) { frames := 1, cells := 0, slots := 0, locals := 22 } [.ref (G.1 (4 + j)), .ref (G.1 (lc_it j i)), .ref (G.1 (lc_it j k))] (lc_w σ j x) (some (.int ((sp_meet x i k).1))) (lc_w σ j ((sp_meet x i k).2)) := by
  refine lc_entry [(0, .ref (G.1 (4 + j))), (1, .ref (G.1 (lc_it j i))), (2, .ref (G.1 (lc_it j k)))] (by decide) (Nat.le_of_ble_eq_true rfl) rfl rfl rfl ?_
  intro Γ hR
  have K51 : lc_V G Γ cX3_meet 3 RX3 51 [(0, .ref (G.1 (4 + j))), (1, .ref (G.1 (lc_it j i))), (2, .ref (G.1 (lc_it j k)))] [] (lc_w σ j (sp_meetW x i k)) := by
    refine lc_aload_n 0 dX3_meet_51 rfl ?_
    refine lc_aload_n 1 dX3_meet_52 rfl ?_
    refine lc_callV (4 + j) (c_X3_isAwake l G σ j (sp_meetW x i k) i (by omega) (by omega)) hR.2.2.2.1 hR.2.2.2.2 mt_X3_isAwake (by omega) (lc_eW j (by omega)) rfl ml_X3_131 rfl rfl (Nat.le_of_ble_eq_true rfl) ⟨⟨rfl, rfl⟩, Nat.le_of_ble_eq_true rfl, Nat.le_of_ble_eq_true rfl⟩ dX3_meet_53 ?_
    show lc_V _ _ _ _ _ 56 _ [.int (lc_bi (sp_aw ((sp_meetW x i k).1) i))] (lc_w σ j (sp_meetW x i k))
    refine lc_ifb_eq 75 dX3_meet_56 (by decide) (fun c_1 => ?_) (fun c_1 => ?_)
    · skip
      refine lc_aload_n 0 dX3_meet_75 rfl ?_
      refine lc_aload_n 2 dX3_meet_76 rfl ?_
      refine lc_callV (4 + j) (c_X3_isAwake l G σ j (sp_meetW x i k) k (by omega) (by omega)) hR.2.2.2.1 hR.2.2.2.2 mt_X3_isAwake (by omega) (lc_eW j (by omega)) rfl ml_X3_131 rfl rfl (Nat.le_of_ble_eq_true rfl) ⟨⟨rfl, rfl⟩, Nat.le_of_ble_eq_true rfl, Nat.le_of_ble_eq_true rfl⟩ dX3_meet_77 ?_
      show lc_V _ _ _ _ _ 80 _ [.int (lc_bi (sp_aw ((sp_meetW x i k).1) k))] (lc_w σ j (sp_meetW x i k))
      refine lc_ifb_eq 99 dX3_meet_80 (by decide) (fun c_2 => ?_) (fun c_2 => ?_)
      · skip
        refine lc_iconst (v := 0) dX3_meet_99 (by decide) ?_
        exact lc_iret hR dX3_meet_100 (by simp [sp_meet, sp_meetC, lc_bi, c_1, c_2]) (by simp [sp_meet, sp_meetC, lc_bi, c_1, c_2])
      · skip
        refine lc_aload_n 2 dX3_meet_83 rfl ?_
        refine lc_aload_n 1 dX3_meet_84 rfl ?_
        refine lc_callV (lc_it j k) (c_X0_isNewer l G σ j (sp_meetW x i k) k i (by omega) (by omega) (by omega)) hR.2.2.2.1 hR.2.2.2.2 mt_X0_isNewer (lc_it74 (by omega) (by omega)) (lc_ent_it G _ (by omega)) rfl ml_X3_149 rfl rfl (Nat.le_of_ble_eq_true rfl) ⟨⟨rfl, rfl⟩, Nat.le_of_ble_eq_true rfl, Nat.le_of_ble_eq_true rfl⟩ dX3_meet_85 ?_
        show lc_V _ _ _ _ _ 88 _ [.int (lc_bi (sp_new ((sp_meetW x i k).1) k i))] (lc_w σ j (sp_meetW x i k))
        refine lc_ifb_eq 99 dX3_meet_88 (by decide) (fun c_3 => ?_) (fun c_3 => ?_)
        · skip
          refine lc_iconst (v := 0) dX3_meet_99 (by decide) ?_
          exact lc_iret hR dX3_meet_100 (by simp [sp_meet, sp_meetC, lc_bi, c_1, c_2, c_3]) (by simp [sp_meet, sp_meetC, lc_bi, c_1, c_2, c_3])
        · skip
          refine lc_aload_n 1 dX3_meet_91 rfl ?_
          refine lc_aload_n 2 dX3_meet_92 rfl ?_
          refine lc_iconst (v := 0) dX3_meet_93 (by decide) ?_
          refine lc_callV (lc_it j i) (c_X0_becomeCopy l G σ j (sp_meetW x i k) i k (by omega) (by omega) (by omega) 0) hR.2.2.2.1 hR.2.2.2.2 mt_X0_becomeCopy (lc_it74 (by omega) (by omega)) (lc_ent_it G _ (by omega)) rfl ml_X3_67 rfl rfl (Nat.le_of_ble_eq_true rfl) ⟨⟨rfl, rfl⟩, Nat.le_of_ble_eq_true rfl, Nat.le_of_ble_eq_true rfl⟩ dX3_meet_94 ?_
          show lc_V _ _ _ _ _ 97 _ [] (lc_w σ j ((sp_copy ((sp_meetW x i k).1) i ((sp_meetW x i k).1) k 0, (sp_meetW x i k).2)))
          refine lc_iconst (v := 1) dX3_meet_97 (by decide) ?_
          exact lc_iret hR dX3_meet_98 (by simp [sp_meet, sp_meetC, lc_bi, c_1, c_2, c_3]) (by simp [sp_meet, sp_meetC, lc_bi, c_1, c_2, c_3])
    · skip
      refine lc_aload_n 1 dX3_meet_59 rfl ?_
      refine lc_aload_n 2 dX3_meet_60 rfl ?_
      refine lc_callV (lc_it j i) (c_X0_isNewer l G σ j (sp_meetW x i k) i k (by omega) (by omega) (by omega)) hR.2.2.2.1 hR.2.2.2.2 mt_X0_isNewer (lc_it74 (by omega) (by omega)) (lc_ent_it G _ (by omega)) rfl ml_X3_149 rfl rfl (Nat.le_of_ble_eq_true rfl) ⟨⟨rfl, rfl⟩, Nat.le_of_ble_eq_true rfl, Nat.le_of_ble_eq_true rfl⟩ dX3_meet_61 ?_
      show lc_V _ _ _ _ _ 64 _ [.int (lc_bi (sp_new ((sp_meetW x i k).1) i k))] (lc_w σ j (sp_meetW x i k))
      refine lc_ifb_eq 75 dX3_meet_64 (by decide) (fun c_4 => ?_) (fun c_4 => ?_)
      · skip
        refine lc_aload_n 0 dX3_meet_75 rfl ?_
        refine lc_aload_n 2 dX3_meet_76 rfl ?_
        refine lc_callV (4 + j) (c_X3_isAwake l G σ j (sp_meetW x i k) k (by omega) (by omega)) hR.2.2.2.1 hR.2.2.2.2 mt_X3_isAwake (by omega) (lc_eW j (by omega)) rfl ml_X3_131 rfl rfl (Nat.le_of_ble_eq_true rfl) ⟨⟨rfl, rfl⟩, Nat.le_of_ble_eq_true rfl, Nat.le_of_ble_eq_true rfl⟩ dX3_meet_77 ?_
        show lc_V _ _ _ _ _ 80 _ [.int (lc_bi (sp_aw ((sp_meetW x i k).1) k))] (lc_w σ j (sp_meetW x i k))
        refine lc_ifb_eq 99 dX3_meet_80 (by decide) (fun c_5 => ?_) (fun c_5 => ?_)
        · skip
          refine lc_iconst (v := 0) dX3_meet_99 (by decide) ?_
          exact lc_iret hR dX3_meet_100 (by simp [sp_meet, sp_meetC, lc_bi, c_1, c_4, c_5]) (by simp [sp_meet, sp_meetC, lc_bi, c_1, c_4, c_5])
        · skip
          refine lc_aload_n 2 dX3_meet_83 rfl ?_
          refine lc_aload_n 1 dX3_meet_84 rfl ?_
          refine lc_callV (lc_it j k) (c_X0_isNewer l G σ j (sp_meetW x i k) k i (by omega) (by omega) (by omega)) hR.2.2.2.1 hR.2.2.2.2 mt_X0_isNewer (lc_it74 (by omega) (by omega)) (lc_ent_it G _ (by omega)) rfl ml_X3_149 rfl rfl (Nat.le_of_ble_eq_true rfl) ⟨⟨rfl, rfl⟩, Nat.le_of_ble_eq_true rfl, Nat.le_of_ble_eq_true rfl⟩ dX3_meet_85 ?_
          show lc_V _ _ _ _ _ 88 _ [.int (lc_bi (sp_new ((sp_meetW x i k).1) k i))] (lc_w σ j (sp_meetW x i k))
          refine lc_ifb_eq 99 dX3_meet_88 (by decide) (fun c_6 => ?_) (fun c_6 => ?_)
          · skip
            refine lc_iconst (v := 0) dX3_meet_99 (by decide) ?_
            exact lc_iret hR dX3_meet_100 (by simp [sp_meet, sp_meetC, lc_bi, c_1, c_4, c_5, c_6]) (by simp [sp_meet, sp_meetC, lc_bi, c_1, c_4, c_5, c_6])
          · skip
            refine lc_aload_n 1 dX3_meet_91 rfl ?_
            refine lc_aload_n 2 dX3_meet_92 rfl ?_
            refine lc_iconst (v := 0) dX3_meet_93 (by decide) ?_
            refine lc_callV (lc_it j i) (c_X0_becomeCopy l G σ j (sp_meetW x i k) i k (by omega) (by omega) (by omega) 0) hR.2.2.2.1 hR.2.2.2.2 mt_X0_becomeCopy (lc_it74 (by omega) (by omega)) (lc_ent_it G _ (by omega)) rfl ml_X3_67 rfl rfl (Nat.le_of_ble_eq_true rfl) ⟨⟨rfl, rfl⟩, Nat.le_of_ble_eq_true rfl, Nat.le_of_ble_eq_true rfl⟩ dX3_meet_94 ?_
            show lc_V _ _ _ _ _ 97 _ [] (lc_w σ j ((sp_copy ((sp_meetW x i k).1) i ((sp_meetW x i k).1) k 0, (sp_meetW x i k).2)))
            refine lc_iconst (v := 1) dX3_meet_97 (by decide) ?_
            exact lc_iret hR dX3_meet_98 (by simp [sp_meet, sp_meetC, lc_bi, c_1, c_4, c_5, c_6]) (by simp [sp_meet, sp_meetC, lc_bi, c_1, c_4, c_5, c_6])
      · skip
        refine lc_aload_n 2 dX3_meet_67 rfl ?_
        refine lc_aload_n 1 dX3_meet_68 rfl ?_
        refine lc_iconst (v := 0) dX3_meet_69 (by decide) ?_
        refine lc_callV (lc_it j k) (c_X0_becomeCopy l G σ j (sp_meetW x i k) k i (by omega) (by omega) (by omega) 0) hR.2.2.2.1 hR.2.2.2.2 mt_X0_becomeCopy (lc_it74 (by omega) (by omega)) (lc_ent_it G _ (by omega)) rfl ml_X3_67 rfl rfl (Nat.le_of_ble_eq_true rfl) ⟨⟨rfl, rfl⟩, Nat.le_of_ble_eq_true rfl, Nat.le_of_ble_eq_true rfl⟩ dX3_meet_70 ?_
        show lc_V _ _ _ _ _ 73 _ [] (lc_w σ j ((sp_copy ((sp_meetW x i k).1) k ((sp_meetW x i k).1) i 0, (sp_meetW x i k).2)))
        refine lc_iconst (v := 1) dX3_meet_73 (by decide) ?_
        exact lc_iret hR dX3_meet_74 (by simp [sp_meet, sp_meetC, lc_bi, c_1, c_4]) (by simp [sp_meet, sp_meetC, lc_bi, c_1, c_4])
  refine lc_aload_n 0 dX3_meet_0 rfl ?_
  refine lc_aload_n 1 dX3_meet_1 rfl ?_
  refine lc_callV (4 + j) (c_X3_isDormant l G σ j x i (by omega) (by omega)) hR.2.2.2.1 hR.2.2.2.2 mt_X3_isDormant (by omega) (lc_eW j (by omega)) rfl ml_X3_79 rfl rfl (Nat.le_of_ble_eq_true rfl) ⟨⟨rfl, rfl⟩, Nat.le_of_ble_eq_true rfl, Nat.le_of_ble_eq_true rfl⟩ dX3_meet_2 ?_
  show lc_V _ _ _ _ _ 5 _ [.int (lc_bi (sp_dor x.1 i))] (lc_w σ j x)
  refine lc_ifb_eq 27 dX3_meet_5 (by decide) (fun c_7 => ?_) (fun c_7 => ?_)
  · skip
    refine lc_aload_n 0 dX3_meet_27 rfl ?_
    refine lc_aload_n 2 dX3_meet_28 rfl ?_
    refine lc_callV (4 + j) (c_X3_isDormant l G σ j x k (by omega) (by omega)) hR.2.2.2.1 hR.2.2.2.2 mt_X3_isDormant (by omega) (lc_eW j (by omega)) rfl ml_X3_79 rfl rfl (Nat.le_of_ble_eq_true rfl) ⟨⟨rfl, rfl⟩, Nat.le_of_ble_eq_true rfl, Nat.le_of_ble_eq_true rfl⟩ dX3_meet_29 ?_
    show lc_V _ _ _ _ _ 32 _ [.int (lc_bi (sp_dor x.1 k))] (lc_w σ j x)
    refine lc_ifb_eq 51 dX3_meet_32 (by decide) (fun c_8 => ?_) (fun c_8 => ?_)
    · skip
      refine lc_lv (lv' := [(0, .ref (G.1 (4 + j))), (1, .ref (G.1 (lc_it j i))), (2, .ref (G.1 (lc_it j k)))]) [0, 1, 2] rfl ?_
      refine lc_eq (σ' := lc_w σ j (sp_meetW x i k)) (by simp [sp_meetW, c_7, c_8]) ?_
      exact K51
    · skip
      refine lc_aload_n 1 dX3_meet_35 rfl ?_
      refine lc_aload_n 2 dX3_meet_36 rfl ?_
      refine lc_gIw j k 2 (by omega) (by omega) (by decide) fl_X3_138 dX3_meet_37 ?_
      refine lc_callV (lc_it j i) (c_X0_isItemBelow l G σ j x i (by omega) (by omega) (x.1 2 k)) hR.2.2.2.1 hR.2.2.2.2 mt_X0_isItemBelow (lc_it74 (by omega) (by omega)) (lc_ent_it G _ (by omega)) rfl ml_X3_141 rfl rfl (Nat.le_of_ble_eq_true rfl) ⟨⟨rfl, rfl⟩, Nat.le_of_ble_eq_true rfl, Nat.le_of_ble_eq_true rfl⟩ dX3_meet_40 ?_
      show lc_V _ _ _ _ _ 43 _ [.int (lc_bi (sp_below x.1 i (x.1 2 k)))] (lc_w σ j x)
      refine lc_ifb_eq 51 dX3_meet_43 (by decide) (fun c_9 => ?_) (fun c_9 => ?_)
      · skip
        refine lc_lv (lv' := [(0, .ref (G.1 (4 + j))), (1, .ref (G.1 (lc_it j i))), (2, .ref (G.1 (lc_it j k)))]) [0, 1, 2] rfl ?_
        refine lc_eq (σ' := lc_w σ j (sp_meetW x i k)) (by simp [sp_meetW, c_7, c_8, c_9]) ?_
        exact K51
      · skip
        refine lc_aload_n 0 dX3_meet_46 rfl ?_
        refine lc_aload_n 2 dX3_meet_47 rfl ?_
        refine lc_callV (4 + j) (c_X3_wake l G σ j x k (by omega) (by omega)) hR.2.2.2.1 hR.2.2.2.2 mt_X3_wake (by omega) (lc_eW j (by omega)) rfl ml_X3_145 rfl rfl (Nat.le_of_ble_eq_true rfl) ⟨⟨rfl, rfl⟩, Nat.le_of_ble_eq_true rfl, Nat.le_of_ble_eq_true rfl⟩ dX3_meet_48 ?_
        show lc_V _ _ _ _ _ 51 _ [] (lc_w σ j (sp_wake x k))
        refine lc_lv (lv' := [(0, .ref (G.1 (4 + j))), (1, .ref (G.1 (lc_it j i))), (2, .ref (G.1 (lc_it j k)))]) [0, 1, 2] rfl ?_
        refine lc_eq (σ' := lc_w σ j (sp_meetW x i k)) (by simp [sp_meetW, c_7, c_8, c_9]) ?_
        exact K51
  · skip
    refine lc_aload_n 2 dX3_meet_8 rfl ?_
    refine lc_aload_n 1 dX3_meet_9 rfl ?_
    refine lc_gIw j i 2 (by omega) (by omega) (by decide) fl_X3_138 dX3_meet_10 ?_
    refine lc_callV (lc_it j k) (c_X0_isItemBelow l G σ j x k (by omega) (by omega) (x.1 2 i)) hR.2.2.2.1 hR.2.2.2.2 mt_X0_isItemBelow (lc_it74 (by omega) (by omega)) (lc_ent_it G _ (by omega)) rfl ml_X3_141 rfl rfl (Nat.le_of_ble_eq_true rfl) ⟨⟨rfl, rfl⟩, Nat.le_of_ble_eq_true rfl, Nat.le_of_ble_eq_true rfl⟩ dX3_meet_13 ?_
    show lc_V _ _ _ _ _ 16 _ [.int (lc_bi (sp_below x.1 k (x.1 2 i)))] (lc_w σ j x)
    refine lc_ifb_eq 27 dX3_meet_16 (by decide) (fun c_10 => ?_) (fun c_10 => ?_)
    · skip
      refine lc_aload_n 0 dX3_meet_27 rfl ?_
      refine lc_aload_n 2 dX3_meet_28 rfl ?_
      refine lc_callV (4 + j) (c_X3_isDormant l G σ j x k (by omega) (by omega)) hR.2.2.2.1 hR.2.2.2.2 mt_X3_isDormant (by omega) (lc_eW j (by omega)) rfl ml_X3_79 rfl rfl (Nat.le_of_ble_eq_true rfl) ⟨⟨rfl, rfl⟩, Nat.le_of_ble_eq_true rfl, Nat.le_of_ble_eq_true rfl⟩ dX3_meet_29 ?_
      show lc_V _ _ _ _ _ 32 _ [.int (lc_bi (sp_dor x.1 k))] (lc_w σ j x)
      refine lc_ifb_eq 51 dX3_meet_32 (by decide) (fun c_11 => ?_) (fun c_11 => ?_)
      · skip
        refine lc_lv (lv' := [(0, .ref (G.1 (4 + j))), (1, .ref (G.1 (lc_it j i))), (2, .ref (G.1 (lc_it j k)))]) [0, 1, 2] rfl ?_
        refine lc_eq (σ' := lc_w σ j (sp_meetW x i k)) (by simp [sp_meetW, c_7, c_10, c_11]) ?_
        exact K51
      · skip
        refine lc_aload_n 1 dX3_meet_35 rfl ?_
        refine lc_aload_n 2 dX3_meet_36 rfl ?_
        refine lc_gIw j k 2 (by omega) (by omega) (by decide) fl_X3_138 dX3_meet_37 ?_
        refine lc_callV (lc_it j i) (c_X0_isItemBelow l G σ j x i (by omega) (by omega) (x.1 2 k)) hR.2.2.2.1 hR.2.2.2.2 mt_X0_isItemBelow (lc_it74 (by omega) (by omega)) (lc_ent_it G _ (by omega)) rfl ml_X3_141 rfl rfl (Nat.le_of_ble_eq_true rfl) ⟨⟨rfl, rfl⟩, Nat.le_of_ble_eq_true rfl, Nat.le_of_ble_eq_true rfl⟩ dX3_meet_40 ?_
        show lc_V _ _ _ _ _ 43 _ [.int (lc_bi (sp_below x.1 i (x.1 2 k)))] (lc_w σ j x)
        refine lc_ifb_eq 51 dX3_meet_43 (by decide) (fun c_12 => ?_) (fun c_12 => ?_)
        · skip
          refine lc_lv (lv' := [(0, .ref (G.1 (4 + j))), (1, .ref (G.1 (lc_it j i))), (2, .ref (G.1 (lc_it j k)))]) [0, 1, 2] rfl ?_
          refine lc_eq (σ' := lc_w σ j (sp_meetW x i k)) (by simp [sp_meetW, c_7, c_10, c_11, c_12]) ?_
          exact K51
        · skip
          refine lc_aload_n 0 dX3_meet_46 rfl ?_
          refine lc_aload_n 2 dX3_meet_47 rfl ?_
          refine lc_callV (4 + j) (c_X3_wake l G σ j x k (by omega) (by omega)) hR.2.2.2.1 hR.2.2.2.2 mt_X3_wake (by omega) (lc_eW j (by omega)) rfl ml_X3_145 rfl rfl (Nat.le_of_ble_eq_true rfl) ⟨⟨rfl, rfl⟩, Nat.le_of_ble_eq_true rfl, Nat.le_of_ble_eq_true rfl⟩ dX3_meet_48 ?_
          show lc_V _ _ _ _ _ 51 _ [] (lc_w σ j (sp_wake x k))
          refine lc_lv (lv' := [(0, .ref (G.1 (4 + j))), (1, .ref (G.1 (lc_it j i))), (2, .ref (G.1 (lc_it j k)))]) [0, 1, 2] rfl ?_
          refine lc_eq (σ' := lc_w σ j (sp_meetW x i k)) (by simp [sp_meetW, c_7, c_10, c_11, c_12]) ?_
          exact K51
    · skip
      refine lc_aload_n 0 dX3_meet_19 rfl ?_
      refine lc_aload_n 1 dX3_meet_20 rfl ?_
      refine lc_callV (4 + j) (c_X3_wake l G σ j x i (by omega) (by omega)) hR.2.2.2.1 hR.2.2.2.2 mt_X3_wake (by omega) (lc_eW j (by omega)) rfl ml_X3_145 rfl rfl (Nat.le_of_ble_eq_true rfl) ⟨⟨rfl, rfl⟩, Nat.le_of_ble_eq_true rfl, Nat.le_of_ble_eq_true rfl⟩ dX3_meet_21 ?_
      show lc_V _ _ _ _ _ 24 _ [] (lc_w σ j (sp_wake x i))
      refine lc_goto 51 dX3_meet_24 (by decide) ?_
      refine lc_lv (lv' := [(0, .ref (G.1 (4 + j))), (1, .ref (G.1 (lc_it j i))), (2, .ref (G.1 (lc_it j k)))]) [0, 1, 2] rfl ?_
      refine lc_eq (σ' := lc_w σ j (sp_meetW x i k)) (by simp [sp_meetW, c_7, c_10]) ?_
      exact K51

set_option maxRecDepth 100000 in
set_option maxHeartbeats 4000000 in
theorem c_X3_meetKeys (l : Launch) (G : lc_G) (σ : lc_S) (j : Nat) (x : lc_X) (a b : Nat) (hj : j < 2) (ha : a < 6) (hb : b < 6) (keys : Int32) : lc_M l G yX3_meetKeys cX3_meetKeys 8 (some .int) { frames := 2, cells := 0, slots := 0, locals := 44 } [.ref (G.1 (4 + j)), .int (nI a), .int (nI b), .int (keys)] (lc_w σ j x) (some (.int ((sp_mks x a b keys).1))) (lc_w σ j ((sp_mks x a b keys).2)) := by
  refine lc_entry [(0, .ref (G.1 (4 + j))), (1, .int (nI a)), (2, .int (nI b)), (3, .int (keys))] (by decide) (Nat.le_of_ble_eq_true rfl) rfl rfl rfl ?_
  intro Γ hR
  refine lc_iconst (v := 0) dX3_meetKeys_0 (by decide) ?_
  refine lc_istore [(4, .int (0)), (0, .ref (G.1 (4 + j))), (1, .int (nI a)), (2, .int (nI b)), (3, .int (keys))] dX3_meetKeys_1 (by decide) rfl ?_
  refine lc_iconst (v := 0) dX3_meetKeys_3 (by decide) ?_
  refine lc_istore [(5, .int (0)), (4, .int (0)), (0, .ref (G.1 (4 + j))), (1, .int (nI a)), (2, .int (nI b)), (3, .int (keys))] dX3_meetKeys_4 (by decide) rfl ?_
  refine lc_lv (lv' := [(0, .ref (G.1 (4 + j))), (1, .int (nI a)), (2, .int (nI b)), (3, .int (keys)), (4, .int (0)), (5, .int (0))]) [2, 3, 4, 5, 1, 0] rfl ?_
  refine lc_forI (α := Int32 × lc_X) (fun k z => lc_V G Γ _ _ _ 6 [(0, .ref (G.1 (4 + j))), (1, .int (nI a)), (2, .int (nI b)), (3, .int (keys)), (4, .int (z.1)), (5, .int (nI k))] [] (lc_w σ j z.2)) (fun _ _ => True) (sp_mk a b keys) 4 (fun _ _ _ _ => trivial) (fun k z hk hIk kk => ?_) ((0, x)) (trivial) (fun hIk => ?_)
  · skip
    show lc_V G Γ _ _ _ 6 [(0, .ref (G.1 (4 + j))), (1, .int (nI a)), (2, .int (nI b)), (3, .int (keys)), (4, .int (z.1)), (5, .int (nI k))] [] (lc_w σ j z.2)
    refine lc_iload 5 dX3_meetKeys_6 rfl ?_
    refine lc_iconst (v := 4) dX3_meetKeys_8 (by decide) ?_
    refine lc_icmp_ge 97 dX3_meetKeys_9 (by decide) (fun h => absurd h.1 (by exact nI_ge (b := 4) hk (by omega))) (fun _ => ?_)
    refine lc_iload_n 3 dX3_meetKeys_12 rfl ?_
    refine lc_iload 5 dX3_meetKeys_13 rfl ?_
    refine lc_ishr dX3_meetKeys_15 ?_
    refine lc_iconst (v := 1) dX3_meetKeys_16 (by decide) ?_
    refine lc_iand dX3_meetKeys_17 ?_
    refine lc_iconst (v := 1) dX3_meetKeys_18 (by decide) ?_
    refine lc_icmp_ne 91 dX3_meetKeys_19 (by decide) (fun c_2 => ?_) (fun c_2 => ?_)
    · skip
      refine lc_iinc 5 (nI (k + 1)) [(5, .int (nI (k + 1))), (0, .ref (G.1 (4 + j))), (1, .int (nI a)), (2, .int (nI b)), (3, .int (keys)), (4, .int (z.1))] dX3_meetKeys_91 rfl (lc_inc1 k) (by decide) rfl ?_
      refine lc_goto 6 dX3_meetKeys_94 (by decide) ?_
      refine lc_lv (lv' := [(0, .ref (G.1 (4 + j))), (1, .int (nI a)), (2, .int (nI b)), (3, .int (keys)), (4, .int (z.1)), (5, .int (nI (k + 1)))]) [1, 2, 3, 4, 5, 0] rfl ?_
      rw [show (sp_mk a b keys) k z = (z.1, z.2) from by simp [sp_mk, sp_tr, sp_bit, c_2]] at kk
      exact kk
    · skip
      refine lc_aload_n 0 dX3_meetKeys_22 rfl ?_
      refine lc_iload_n 1 dX3_meetKeys_23 rfl ?_
      refine lc_iload 5 dX3_meetKeys_24 rfl ?_
      refine lc_callV (4 + j) (c_X3_itemAt l G (lc_w σ j z.2) j a k (by omega) (by omega) (by omega)) hR.2.2.2.1 hR.2.2.2.2 mt_X3_itemAt (by omega) (lc_eW j (by omega)) rfl ml_X3_75 rfl rfl (Nat.le_of_ble_eq_true rfl) ⟨⟨rfl, rfl⟩, Nat.le_of_ble_eq_true rfl, Nat.le_of_ble_eq_true rfl⟩ dX3_meetKeys_26 ?_
      show lc_V _ _ _ _ _ 29 _ [.ref (G.1 (lc_it j (4 * a + k)))] (lc_w σ j z.2)
      refine lc_astore [(6, .ref (G.1 (lc_it j (4 * a + k)))), (0, .ref (G.1 (4 + j))), (1, .int (nI a)), (2, .int (nI b)), (3, .int (keys)), (4, .int (z.1)), (5, .int (nI k))] dX3_meetKeys_29 (by decide) rfl ?_
      refine lc_aload_n 1 dX3_meetKeys_31 rfl ?_
      refine lc_iload_n 3 dX3_meetKeys_32 rfl ?_
      refine lc_iload 6 dX3_meetKeys_33 rfl ?_
      refine lc_callV (4 + j) (c_X3_itemAt l G (lc_w σ j z.2) j b k (by omega) (by omega) (by omega)) hR.2.2.2.1 hR.2.2.2.2 mt_X3_itemAt (by omega) (lc_eW j (by omega)) rfl ml_X3_75 rfl rfl (Nat.le_of_ble_eq_true rfl) ⟨⟨rfl, rfl⟩, Nat.le_of_ble_eq_true rfl, Nat.le_of_ble_eq_true rfl⟩ dX3_meetKeys_35 ?_
      show lc_V _ _ _ _ _ 38 _ [.ref (G.1 (lc_it j (4 * b + k)))] (lc_w σ j z.2)
      refine lc_astore [(7, .ref (G.1 (lc_it j (4 * b + k)))), (6, .ref (G.1 (lc_it j (4 * a + k)))), (0, .ref (G.1 (4 + j))), (1, .int (nI a)), (2, .int (nI b)), (3, .int (keys)), (4, .int (z.1)), (5, .int (nI k))] dX3_meetKeys_38 (by decide) rfl ?_
      refine lc_aload_n 2 dX3_meetKeys_40 rfl ?_
      refine lc_dup dX3_meetKeys_41 rfl ?_
      refine lc_gWTra j (by omega) fl_X3_43 dX3_meetKeys_42 ?_
      refine lc_aload_n 2 dX3_meetKeys_45 rfl ?_
      refine lc_aload 1 dX3_meetKeys_46 rfl ?_
      refine lc_callV (4 + j) (c_X3_isAwake l G σ j z.2 (4 * a + k) (by omega) (by omega)) hR.2.2.2.1 hR.2.2.2.2 mt_X3_isAwake (by omega) (lc_eW j (by omega)) rfl ml_X3_131 rfl rfl (Nat.le_of_ble_eq_true rfl) ⟨⟨rfl, rfl⟩, Nat.le_of_ble_eq_true rfl, Nat.le_of_ble_eq_true rfl⟩ dX3_meetKeys_48 ?_
      show lc_V _ _ _ _ _ 51 _ [.int (lc_bi (sp_aw z.2.1 (4 * a + k))), .int ((σ.2.1 j 0 + z.2.2.1)), .ref (G.1 (4 + j))] (lc_w σ j z.2)
      refine lc_tern 58 59 dX3_meetKeys_51 (by decide) dX3_meetKeys_54 dX3_meetKeys_55 (by decide) dX3_meetKeys_58 rfl ?_
      refine lc_aload_n 2 dX3_meetKeys_59 rfl ?_
      refine lc_aload 0 dX3_meetKeys_60 rfl ?_
      refine lc_callV (4 + j) (c_X3_isAwake l G σ j z.2 (4 * b + k) (by omega) (by omega)) hR.2.2.2.1 hR.2.2.2.2 mt_X3_isAwake (by omega) (lc_eW j (by omega)) rfl ml_X3_131 rfl rfl (Nat.le_of_ble_eq_true rfl) ⟨⟨rfl, rfl⟩, Nat.le_of_ble_eq_true rfl, Nat.le_of_ble_eq_true rfl⟩ dX3_meetKeys_62 ?_
      show lc_V _ _ _ _ _ 65 _ [.int (lc_bi (sp_aw z.2.1 (4 * b + k))), .int (lc_bi (sp_aw z.2.1 (4 * a + k))), .int ((σ.2.1 j 0 + z.2.2.1)), .ref (G.1 (4 + j))] (lc_w σ j z.2)
      refine lc_tern 72 73 dX3_meetKeys_65 (by decide) dX3_meetKeys_68 dX3_meetKeys_69 (by decide) dX3_meetKeys_72 rfl ?_
      refine lc_iadd dX3_meetKeys_73 ?_
      refine lc_iadd dX3_meetKeys_74 ?_
      refine lc_pWTra j (z.2.2.1 + (((lc_bi (sp_aw z.2.1 (4 * a + k))) + (lc_bi (sp_aw z.2.1 (4 * b + k)))))) (Int32.add_assoc _ _ _) (by omega) fl_X3_43 dX3_meetKeys_75 ?_
      refine lc_eq (σ' := lc_w σ j ((z.2.1, z.2.2.1 + (((lc_bi (sp_aw z.2.1 (4 * a + k))) + (lc_bi (sp_aw z.2.1 (4 * b + k))))), z.2.2.2.1, z.2.2.2.2))) rfl ?_
      refine lc_iload 6 dX3_meetKeys_78 rfl ?_
      refine lc_aload_n 2 dX3_meetKeys_80 rfl ?_
      refine lc_aload 1 dX3_meetKeys_81 rfl ?_
      refine lc_aload 0 dX3_meetKeys_83 rfl ?_
      refine lc_callV (4 + j) (c_X3_meet l G σ j ((z.2.1, z.2.2.1 + (((lc_bi (sp_aw z.2.1 (4 * a + k))) + (lc_bi (sp_aw z.2.1 (4 * b + k))))), z.2.2.2.1, z.2.2.2.2)) (4 * a + k) (4 * b + k) (by omega) (by omega) (by omega)) hR.2.2.2.1 hR.2.2.2.2 mt_X3_meet (by omega) (lc_eW j (by omega)) rfl ml_X3_134 rfl rfl (Nat.le_of_ble_eq_true rfl) ⟨⟨rfl, rfl⟩, Nat.le_of_ble_eq_true rfl, Nat.le_of_ble_eq_true rfl⟩ dX3_meetKeys_85 ?_
      show lc_V _ _ _ _ _ 88 _ [.int ((sp_meet ((z.2.1, z.2.2.1 + (((lc_bi (sp_aw z.2.1 (4 * a + k))) + (lc_bi (sp_aw z.2.1 (4 * b + k))))), z.2.2.2.1, z.2.2.2.2)) (4 * a + k) (4 * b + k)).1), .int (z.1)] (lc_w σ j ((sp_meet ((z.2.1, z.2.2.1 + (((lc_bi (sp_aw z.2.1 (4 * a + k))) + (lc_bi (sp_aw z.2.1 (4 * b + k))))), z.2.2.2.1, z.2.2.2.2)) (4 * a + k) (4 * b + k)).2))
      refine lc_iadd dX3_meetKeys_88 ?_
      refine lc_istore [(4, .int ((z.1 + ((sp_meet ((z.2.1, z.2.2.1 + (((lc_bi (sp_aw z.2.1 (4 * a + k))) + (lc_bi (sp_aw z.2.1 (4 * b + k))))), z.2.2.2.1, z.2.2.2.2)) (4 * a + k) (4 * b + k)).1)))), (7, .ref (G.1 (lc_it j (4 * b + k)))), (6, .ref (G.1 (lc_it j (4 * a + k)))), (0, .ref (G.1 (4 + j))), (1, .int (nI a)), (2, .int (nI b)), (3, .int (keys)), (5, .int (nI k))] dX3_meetKeys_89 (by decide) rfl ?_
      refine lc_iinc 7 (nI (k + 1)) [(5, .int (nI (k + 1))), (4, .int ((z.1 + ((sp_meet ((z.2.1, z.2.2.1 + (((lc_bi (sp_aw z.2.1 (4 * a + k))) + (lc_bi (sp_aw z.2.1 (4 * b + k))))), z.2.2.2.1, z.2.2.2.2)) (4 * a + k) (4 * b + k)).1)))), (7, .ref (G.1 (lc_it j (4 * b + k)))), (6, .ref (G.1 (lc_it j (4 * a + k)))), (0, .ref (G.1 (4 + j))), (1, .int (nI a)), (2, .int (nI b)), (3, .int (keys))] dX3_meetKeys_91 rfl (lc_inc1 k) (by decide) rfl ?_
      refine lc_goto 6 dX3_meetKeys_94 (by decide) ?_
      refine lc_lv (lv' := [(0, .ref (G.1 (4 + j))), (1, .int (nI a)), (2, .int (nI b)), (3, .int (keys)), (4, .int ((z.1 + ((sp_meet ((z.2.1, z.2.2.1 + (((lc_bi (sp_aw z.2.1 (4 * a + k))) + (lc_bi (sp_aw z.2.1 (4 * b + k))))), z.2.2.2.1, z.2.2.2.2)) (4 * a + k) (4 * b + k)).1)))), (5, .int (nI (k + 1)))]) [4, 5, 6, 7, 1, 0] rfl ?_
      rw [show (sp_mk a b keys) k z = ((z.1 + ((sp_meet ((z.2.1, z.2.2.1 + (((lc_bi (sp_aw z.2.1 (4 * a + k))) + (lc_bi (sp_aw z.2.1 (4 * b + k))))), z.2.2.2.1, z.2.2.2.2)) (4 * a + k) (4 * b + k)).1)), (sp_meet ((z.2.1, z.2.2.1 + (((lc_bi (sp_aw z.2.1 (4 * a + k))) + (lc_bi (sp_aw z.2.1 (4 * b + k))))), z.2.2.2.1, z.2.2.2.2)) (4 * a + k) (4 * b + k)).2) from by simp [sp_mk, sp_tr, sp_bit, c_2]] at kk
      exact kk
  · skip
    show lc_V G Γ _ _ _ 6 [(0, .ref (G.1 (4 + j))), (1, .int (nI a)), (2, .int (nI b)), (3, .int (keys)), (4, .int ((sp_mks x a b keys).1)), (5, .int (nI 4))] [] (lc_w σ j ((sp_mks x a b keys).2))
    refine lc_iload 5 dX3_meetKeys_6 rfl ?_
    refine lc_iconst (v := 4) dX3_meetKeys_8 (by decide) ?_
    refine lc_icmp_ge 97 dX3_meetKeys_9 (by decide) (fun _ => ?_) (fun h => absurd h.1 (by exact nI_nlt (a := 4) (b := 4) (Nat.le_refl _) (by omega)))
    refine lc_iload 4 dX3_meetKeys_97 rfl ?_
    exact lc_iret hR dX3_meetKeys_99 (rfl) (rfl)

set_option maxRecDepth 100000 in
set_option maxHeartbeats 4000000 in
theorem c_X3_recentKeys (l : Launch) (G : lc_G) (σ : lc_S) (j : Nat) (x : lc_X) (a b : Nat) (hj : j < 2) (ha : a < 6) (hb : b < 6) : lc_M l G yX3_recentKeys cX3_recentKeys 5 (some .int) { frames := 2, cells := 0, slots := 0, locals := 42 } [.ref (G.1 (4 + j)), .int (nI a), .int (nI b)] (lc_w σ j x) (some (.int (sp_rks x.1 a b))) (lc_w σ j x) := by
  refine lc_entry [(0, .ref (G.1 (4 + j))), (1, .int (nI a)), (2, .int (nI b))] (by decide) (Nat.le_of_ble_eq_true rfl) rfl rfl rfl ?_
  intro Γ hR
  refine lc_iconst (v := 0) dX3_recentKeys_0 (by decide) ?_
  refine lc_istore_n [(3, .int (0)), (0, .ref (G.1 (4 + j))), (1, .int (nI a)), (2, .int (nI b))] dX3_recentKeys_1 (by decide) rfl ?_
  refine lc_iconst (v := 0) dX3_recentKeys_2 (by decide) ?_
  refine lc_istore [(4, .int (0)), (3, .int (0)), (0, .ref (G.1 (4 + j))), (1, .int (nI a)), (2, .int (nI b))] dX3_recentKeys_3 (by decide) rfl ?_
  refine lc_lv (lv' := [(0, .ref (G.1 (4 + j))), (1, .int (nI a)), (2, .int (nI b)), (3, .int (0)), (4, .int (0))]) [2, 3, 4, 1, 0] rfl ?_
  refine lc_forI (α := Int32) (fun k z => lc_V G Γ _ _ _ 5 [(0, .ref (G.1 (4 + j))), (1, .int (nI a)), (2, .int (nI b)), (3, .int (z)), (4, .int (nI k))] [] (lc_w σ j x)) (fun _ _ => True) (sp_rk x.1 a b) 4 (fun _ _ _ _ => trivial) (fun k z hk hIk kk => ?_) 0 (trivial) (fun hIk => ?_)
  · skip
    show lc_V G Γ _ _ _ 5 [(0, .ref (G.1 (4 + j))), (1, .int (nI a)), (2, .int (nI b)), (3, .int (z)), (4, .int (nI k))] [] (lc_w σ j x)
    refine lc_iload 4 dX3_recentKeys_5 rfl ?_
    refine lc_iconst (v := 4) dX3_recentKeys_7 (by decide) ?_
    refine lc_icmp_ge 52 dX3_recentKeys_8 (by decide) (fun h => absurd h.1 (by exact nI_ge (b := 4) hk (by omega))) (fun _ => ?_)
    refine lc_aload_n 0 dX3_recentKeys_11 rfl ?_
    refine lc_aload_n 0 dX3_recentKeys_12 rfl ?_
    refine lc_iload_n 1 dX3_recentKeys_13 rfl ?_
    refine lc_iload 4 dX3_recentKeys_14 rfl ?_
    refine lc_callV (4 + j) (c_X3_itemAt l G (lc_w σ j x) j a k (by omega) (by omega) (by omega)) hR.2.2.2.1 hR.2.2.2.2 mt_X3_itemAt (by omega) (lc_eW j (by omega)) rfl ml_X3_75 rfl rfl (Nat.le_of_ble_eq_true rfl) ⟨⟨rfl, rfl⟩, Nat.le_of_ble_eq_true rfl, Nat.le_of_ble_eq_true rfl⟩ dX3_recentKeys_16 ?_
    show lc_V _ _ _ _ _ 19 _ [.ref (G.1 (lc_it j (4 * a + k))), .ref (G.1 (4 + j))] (lc_w σ j x)
    refine lc_callV (4 + j) (c_X3_isRecent l G σ j x (4 * a + k) (by omega) (by omega)) hR.2.2.2.1 hR.2.2.2.2 mt_X3_isRecent (by omega) (lc_eW j (by omega)) rfl ml_X3_128 rfl rfl (Nat.le_of_ble_eq_true rfl) ⟨⟨rfl, rfl⟩, Nat.le_of_ble_eq_true rfl, Nat.le_of_ble_eq_true rfl⟩ dX3_recentKeys_19 ?_
    show lc_V _ _ _ _ _ 22 _ [.int (lc_bi (sp_rec x.1 (4 * a + k)))] (lc_w σ j x)
    refine lc_ifb_ne 39 dX3_recentKeys_22 (by decide) (fun c_2 => ?_) (fun c_2 => ?_)
    · skip
      refine lc_iload_n 3 dX3_recentKeys_39 rfl ?_
      refine lc_iconst (v := 1) dX3_recentKeys_40 (by decide) ?_
      refine lc_iload 4 dX3_recentKeys_41 rfl ?_
      refine lc_ishl dX3_recentKeys_43 ?_
      refine lc_ior dX3_recentKeys_44 ?_
      refine lc_istore_n [(3, .int ((z ||| (((1 : Int32) <<< ((nI k) &&& 31)))))), (0, .ref (G.1 (4 + j))), (1, .int (nI a)), (2, .int (nI b)), (4, .int (nI k))] dX3_recentKeys_45 (by decide) rfl ?_
      refine lc_iinc 4 (nI (k + 1)) [(4, .int (nI (k + 1))), (3, .int ((z ||| (((1 : Int32) <<< ((nI k) &&& 31)))))), (0, .ref (G.1 (4 + j))), (1, .int (nI a)), (2, .int (nI b))] dX3_recentKeys_46 rfl (lc_inc1 k) (by decide) rfl ?_
      refine lc_goto 5 dX3_recentKeys_49 (by decide) ?_
      refine lc_lv (lv' := [(0, .ref (G.1 (4 + j))), (1, .int (nI a)), (2, .int (nI b)), (3, .int ((z ||| (((1 : Int32) <<< ((nI k) &&& 31)))))), (4, .int (nI (k + 1)))]) [2, 3, 4, 1, 0] rfl ?_
      rw [show (sp_rk x.1 a b) k z = (z ||| (((1 : Int32) <<< ((nI k) &&& 31)))) from by simp [sp_rk, c_2]] at kk
      exact kk
    · skip
      refine lc_aload_n 0 dX3_recentKeys_25 rfl ?_
      refine lc_aload_n 0 dX3_recentKeys_26 rfl ?_
      refine lc_iload_n 2 dX3_recentKeys_27 rfl ?_
      refine lc_iload 4 dX3_recentKeys_28 rfl ?_
      refine lc_callV (4 + j) (c_X3_itemAt l G (lc_w σ j x) j b k (by omega) (by omega) (by omega)) hR.2.2.2.1 hR.2.2.2.2 mt_X3_itemAt (by omega) (lc_eW j (by omega)) rfl ml_X3_75 rfl rfl (Nat.le_of_ble_eq_true rfl) ⟨⟨rfl, rfl⟩, Nat.le_of_ble_eq_true rfl, Nat.le_of_ble_eq_true rfl⟩ dX3_recentKeys_30 ?_
      show lc_V _ _ _ _ _ 33 _ [.ref (G.1 (lc_it j (4 * b + k))), .ref (G.1 (4 + j))] (lc_w σ j x)
      refine lc_callV (4 + j) (c_X3_isRecent l G σ j x (4 * b + k) (by omega) (by omega)) hR.2.2.2.1 hR.2.2.2.2 mt_X3_isRecent (by omega) (lc_eW j (by omega)) rfl ml_X3_128 rfl rfl (Nat.le_of_ble_eq_true rfl) ⟨⟨rfl, rfl⟩, Nat.le_of_ble_eq_true rfl, Nat.le_of_ble_eq_true rfl⟩ dX3_recentKeys_33 ?_
      show lc_V _ _ _ _ _ 36 _ [.int (lc_bi (sp_rec x.1 (4 * b + k)))] (lc_w σ j x)
      refine lc_ifb_eq 46 dX3_recentKeys_36 (by decide) (fun c_3 => ?_) (fun c_3 => ?_)
      · skip
        refine lc_iinc 4 (nI (k + 1)) [(4, .int (nI (k + 1))), (0, .ref (G.1 (4 + j))), (1, .int (nI a)), (2, .int (nI b)), (3, .int (z))] dX3_recentKeys_46 rfl (lc_inc1 k) (by decide) rfl ?_
        refine lc_goto 5 dX3_recentKeys_49 (by decide) ?_
        refine lc_lv (lv' := [(0, .ref (G.1 (4 + j))), (1, .int (nI a)), (2, .int (nI b)), (3, .int (z)), (4, .int (nI (k + 1)))]) [1, 2, 3, 4, 0] rfl ?_
        rw [show (sp_rk x.1 a b) k z = z from by simp [sp_rk, c_2, c_3]] at kk
        exact kk
      · skip
        refine lc_iload_n 3 dX3_recentKeys_39 rfl ?_
        refine lc_iconst (v := 1) dX3_recentKeys_40 (by decide) ?_
        refine lc_iload 4 dX3_recentKeys_41 rfl ?_
        refine lc_ishl dX3_recentKeys_43 ?_
        refine lc_ior dX3_recentKeys_44 ?_
        refine lc_istore_n [(3, .int ((z ||| (((1 : Int32) <<< ((nI k) &&& 31)))))), (0, .ref (G.1 (4 + j))), (1, .int (nI a)), (2, .int (nI b)), (4, .int (nI k))] dX3_recentKeys_45 (by decide) rfl ?_
        refine lc_iinc 4 (nI (k + 1)) [(4, .int (nI (k + 1))), (3, .int ((z ||| (((1 : Int32) <<< ((nI k) &&& 31)))))), (0, .ref (G.1 (4 + j))), (1, .int (nI a)), (2, .int (nI b))] dX3_recentKeys_46 rfl (lc_inc1 k) (by decide) rfl ?_
        refine lc_goto 5 dX3_recentKeys_49 (by decide) ?_
        refine lc_lv (lv' := [(0, .ref (G.1 (4 + j))), (1, .int (nI a)), (2, .int (nI b)), (3, .int ((z ||| (((1 : Int32) <<< ((nI k) &&& 31)))))), (4, .int (nI (k + 1)))]) [2, 3, 4, 1, 0] rfl ?_
        rw [show (sp_rk x.1 a b) k z = (z ||| (((1 : Int32) <<< ((nI k) &&& 31)))) from by simp [sp_rk, c_2, c_3]] at kk
        exact kk
  · skip
    show lc_V G Γ _ _ _ 5 [(0, .ref (G.1 (4 + j))), (1, .int (nI a)), (2, .int (nI b)), (3, .int (sp_rks x.1 a b)), (4, .int (nI 4))] [] (lc_w σ j x)
    refine lc_iload 4 dX3_recentKeys_5 rfl ?_
    refine lc_iconst (v := 4) dX3_recentKeys_7 (by decide) ?_
    refine lc_icmp_ge 52 dX3_recentKeys_8 (by decide) (fun _ => ?_) (fun h => absurd h.1 (by exact nI_nlt (a := 4) (b := 4) (Nat.le_refl _) (by omega)))
    refine lc_iload_n 3 dX3_recentKeys_52 rfl ?_
    exact lc_iret hR dX3_recentKeys_53 (rfl) (rfl)

set_option maxRecDepth 100000 in
set_option maxHeartbeats 4000000 in
theorem c_X3_areAlike (l : Launch) (G : lc_G) (σ : lc_S) (j : Nat) (x : lc_X) (a b : Nat) (hj : j < 2) (ha : a < 6) (hb : b < 6) : lc_M l G yX3_areAlike cX3_areAlike 4 (some .boolean) { frames := 2, cells := 0, slots := 0, locals := 43 } [.ref (G.1 (4 + j)), .int (nI a), .int (nI b)] (lc_w σ j x) (some (.int (lc_bi (sp_alike x.1 a b)))) (lc_w σ j x) := by
  refine lc_entry [(0, .ref (G.1 (4 + j))), (1, .int (nI a)), (2, .int (nI b))] (by decide) (Nat.le_of_ble_eq_true rfl) rfl rfl rfl ?_
  intro Γ hR
  refine lc_iconst (v := 0) dX3_areAlike_0 (by decide) ?_
  refine lc_istore_n [(3, .int (0)), (0, .ref (G.1 (4 + j))), (1, .int (nI a)), (2, .int (nI b))] dX3_areAlike_1 (by decide) rfl ?_
  refine lc_lv (lv' := [(0, .ref (G.1 (4 + j))), (1, .int (nI a)), (2, .int (nI b)), (3, .int (0))]) [1, 2, 3, 0] rfl ?_
  refine lc_forB (fun k => lc_V G Γ _ _ _ 2 [(0, .ref (G.1 (4 + j))), (1, .int (nI a)), (2, .int (nI b)), (3, .int (nI k))] [] (lc_w σ j x)) (fun k => sp_same x.1 (4 * a + k) (4 * b + k)) 4 (fun k hk kk => ?_) (fun hIk => ?_)
  · skip
    show lc_V G Γ _ _ _ 2 [(0, .ref (G.1 (4 + j))), (1, .int (nI a)), (2, .int (nI b)), (3, .int (nI k))] [] (lc_w σ j x)
    refine lc_iload_n 3 dX3_areAlike_2 rfl ?_
    refine lc_iconst (v := 4) dX3_areAlike_3 (by decide) ?_
    refine lc_icmp_ge 34 dX3_areAlike_4 (by decide) (fun h => absurd h.1 (by exact nI_ge (b := 4) hk (by omega))) (fun _ => ?_)
    refine lc_aload_n 0 dX3_areAlike_7 rfl ?_
    refine lc_aload_n 0 dX3_areAlike_8 rfl ?_
    refine lc_iload_n 1 dX3_areAlike_9 rfl ?_
    refine lc_iload_n 3 dX3_areAlike_10 rfl ?_
    refine lc_callV (4 + j) (c_X3_itemAt l G (lc_w σ j x) j a k (by omega) (by omega) (by omega)) hR.2.2.2.1 hR.2.2.2.2 mt_X3_itemAt (by omega) (lc_eW j (by omega)) rfl ml_X3_75 rfl rfl (Nat.le_of_ble_eq_true rfl) ⟨⟨rfl, rfl⟩, Nat.le_of_ble_eq_true rfl, Nat.le_of_ble_eq_true rfl⟩ dX3_areAlike_11 ?_
    show lc_V _ _ _ _ _ 14 _ [.ref (G.1 (lc_it j (4 * a + k))), .ref (G.1 (4 + j))] (lc_w σ j x)
    refine lc_aload_n 0 dX3_areAlike_14 rfl ?_
    refine lc_iload_n 2 dX3_areAlike_15 rfl ?_
    refine lc_iload_n 3 dX3_areAlike_16 rfl ?_
    refine lc_callV (4 + j) (c_X3_itemAt l G (lc_w σ j x) j b k (by omega) (by omega) (by omega)) hR.2.2.2.1 hR.2.2.2.2 mt_X3_itemAt (by omega) (lc_eW j (by omega)) rfl ml_X3_75 rfl rfl (Nat.le_of_ble_eq_true rfl) ⟨⟨rfl, rfl⟩, Nat.le_of_ble_eq_true rfl, Nat.le_of_ble_eq_true rfl⟩ dX3_areAlike_17 ?_
    show lc_V _ _ _ _ _ 20 _ [.ref (G.1 (lc_it j (4 * b + k))), .ref (G.1 (lc_it j (4 * a + k))), .ref (G.1 (4 + j))] (lc_w σ j x)
    refine lc_callV (4 + j) (c_X3_isSame l G σ j x (4 * a + k) (4 * b + k) (by omega) (by omega) (by omega)) hR.2.2.2.1 hR.2.2.2.2 mt_X3_isSame (by omega) (lc_eW j (by omega)) rfl ml_X3_155 rfl rfl (Nat.le_of_ble_eq_true rfl) ⟨⟨rfl, rfl⟩, Nat.le_of_ble_eq_true rfl, Nat.le_of_ble_eq_true rfl⟩ dX3_areAlike_20 ?_
    show lc_V _ _ _ _ _ 23 _ [.int (lc_bi (sp_same x.1 (4 * a + k) (4 * b + k)))] (lc_w σ j x)
    refine lc_ifb_ne 28 dX3_areAlike_23 (by decide) (fun c_2 => ?_) (fun c_2 => ?_)
    · skip
      refine lc_iinc 3 (nI (k + 1)) [(3, .int (nI (k + 1))), (0, .ref (G.1 (4 + j))), (1, .int (nI a)), (2, .int (nI b))] dX3_areAlike_28 rfl (lc_inc1 k) (by decide) rfl ?_
      refine lc_goto 2 dX3_areAlike_31 (by decide) ?_
      refine lc_lv (lv' := [(0, .ref (G.1 (4 + j))), (1, .int (nI a)), (2, .int (nI b)), (3, .int (nI (k + 1)))]) [1, 2, 3, 0] rfl ?_
      exact kk (c_2)
    · skip
      refine lc_iconst (v := 0) dX3_areAlike_26 (by decide) ?_
      exact lc_zret hR dX3_areAlike_27 (by rw [show sp_alike x.1 a b = false from sp_all_f hk c_2]; rfl) (rfl)
  · skip
    show lc_V G Γ _ _ _ 2 [(0, .ref (G.1 (4 + j))), (1, .int (nI a)), (2, .int (nI b)), (3, .int (nI 4))] [] (lc_w σ j x)
    refine lc_iload_n 3 dX3_areAlike_2 rfl ?_
    refine lc_iconst (v := 4) dX3_areAlike_3 (by decide) ?_
    refine lc_icmp_ge 34 dX3_areAlike_4 (by decide) (fun _ => ?_) (fun h => absurd h.1 (by exact nI_nlt (a := 4) (b := 4) (Nat.le_refl _) (by omega)))
    refine lc_iconst (v := 1) dX3_areAlike_34 (by decide) ?_
    exact lc_zret hR dX3_areAlike_35 (by rw [show sp_alike x.1 a b = true from hIk]; rfl) (rfl)

set_option maxRecDepth 100000 in
set_option maxHeartbeats 4000000 in
theorem c_X3_compareAll (l : Launch) (G : lc_G) (σ : lc_S) (j : Nat) (x : lc_X) (a b : Nat) (hj : j < 2) (ha : a < 6) (hb : b < 6) : lc_M l G yX3_compareAll cX3_compareAll 5 (some .int) { frames := 3, cells := 0, slots := 0, locals := 71 } [.ref (G.1 (4 + j)), .int (nI a), .int (nI b)] (lc_w σ j x) (some (.int ((sp_cmp x a b).1))) (lc_w σ j ((sp_cmp x a b).2)) := by
  refine lc_entry [(0, .ref (G.1 (4 + j))), (1, .int (nI a)), (2, .int (nI b))] (by decide) (Nat.le_of_ble_eq_true rfl) rfl rfl rfl ?_
  intro Γ hR
  refine lc_aload_n 0 dX3_compareAll_0 rfl ?_
  refine lc_iload_n 1 dX3_compareAll_1 rfl ?_
  refine lc_iload_n 2 dX3_compareAll_2 rfl ?_
  refine lc_callV (4 + j) (c_X3_recentKeys l G σ j x a b (by omega) (by omega) (by omega)) hR.2.2.2.1 hR.2.2.2.2 mt_X3_recentKeys (by omega) (lc_eW j (by omega)) rfl ml_X3_117 rfl rfl (Nat.le_of_ble_eq_true rfl) ⟨⟨rfl, rfl⟩, Nat.le_of_ble_eq_true rfl, Nat.le_of_ble_eq_true rfl⟩ dX3_compareAll_3 ?_
  show lc_V _ _ _ _ _ 6 _ [.int (sp_rks x.1 a b)] (lc_w σ j x)
  refine lc_istore_n [(3, .int (sp_rks x.1 a b)), (0, .ref (G.1 (4 + j))), (1, .int (nI a)), (2, .int (nI b))] dX3_compareAll_6 (by decide) rfl ?_
  refine lc_aload_n 1 dX3_compareAll_7 rfl ?_
  refine lc_iload_n 2 dX3_compareAll_8 rfl ?_
  refine lc_iload_n 3 dX3_compareAll_9 rfl ?_
  refine lc_iload_n 0 dX3_compareAll_10 rfl ?_
  refine lc_callV (4 + j) (c_X3_meetKeys l G σ j x a b (by omega) (by omega) (by omega) (sp_rks x.1 a b)) hR.2.2.2.1 hR.2.2.2.2 mt_X3_meetKeys (by omega) (lc_eW j (by omega)) rfl ml_X3_120 rfl rfl (Nat.le_of_ble_eq_true rfl) ⟨⟨rfl, rfl⟩, Nat.le_of_ble_eq_true rfl, Nat.le_of_ble_eq_true rfl⟩ dX3_compareAll_11 ?_
  show lc_V _ _ _ _ _ 14 _ [.int ((sp_mks x a b (sp_rks x.1 a b)).1)] (lc_w σ j ((sp_mks x a b (sp_rks x.1 a b)).2))
  refine lc_istore [(4, .int ((sp_mks x a b (sp_rks x.1 a b)).1)), (3, .int (sp_rks x.1 a b)), (0, .ref (G.1 (4 + j))), (1, .int (nI a)), (2, .int (nI b))] dX3_compareAll_14 (by decide) rfl ?_
  refine lc_aload_n 2 dX3_compareAll_16 rfl ?_
  refine lc_iload_n 3 dX3_compareAll_17 rfl ?_
  refine lc_iload_n 4 dX3_compareAll_18 rfl ?_
  refine lc_callV (4 + j) (c_X3_areAlike l G σ j ((sp_mks x a b (sp_rks x.1 a b)).2) a b (by omega) (by omega) (by omega)) hR.2.2.2.1 hR.2.2.2.2 mt_X3_areAlike (by omega) (lc_eW j (by omega)) rfl ml_X3_124 rfl rfl (Nat.le_of_ble_eq_true rfl) ⟨⟨rfl, rfl⟩, Nat.le_of_ble_eq_true rfl, Nat.le_of_ble_eq_true rfl⟩ dX3_compareAll_19 ?_
  show lc_V _ _ _ _ _ 22 _ [.int (lc_bi (sp_alike (((sp_mks x a b (sp_rks x.1 a b)).2).1) a b))] (lc_w σ j ((sp_mks x a b (sp_rks x.1 a b)).2))
  refine lc_ifb_ne 42 dX3_compareAll_22 (by decide) (fun c_1 => ?_) (fun c_1 => ?_)
  · skip
    refine lc_iload 0 dX3_compareAll_42 rfl ?_
    exact lc_iret hR dX3_compareAll_44 (by simp [sp_cmp, lc_bi, c_1]) (by simp [sp_cmp, lc_bi, c_1])
  · skip
    refine lc_iload 0 dX3_compareAll_25 rfl ?_
    refine lc_aload_n 2 dX3_compareAll_27 rfl ?_
    refine lc_iload_n 3 dX3_compareAll_28 rfl ?_
    refine lc_iload_n 4 dX3_compareAll_29 rfl ?_
    refine lc_bipush (v := 15) dX3_compareAll_30 (by decide) ?_
    refine lc_iload_n 1 dX3_compareAll_32 rfl ?_
    refine lc_iconst (v := (-1)) dX3_compareAll_33 (by decide) ?_
    refine lc_ixor dX3_compareAll_34 ?_
    refine lc_iand dX3_compareAll_35 ?_
    refine lc_callV (4 + j) (c_X3_meetKeys l G σ j ((sp_mks x a b (sp_rks x.1 a b)).2) a b (by omega) (by omega) (by omega) ((15 &&& (((sp_rks x.1 a b) ^^^ ((-1))))))) hR.2.2.2.1 hR.2.2.2.2 mt_X3_meetKeys (by omega) (lc_eW j (by omega)) rfl ml_X3_120 rfl rfl (Nat.le_of_ble_eq_true rfl) ⟨⟨rfl, rfl⟩, Nat.le_of_ble_eq_true rfl, Nat.le_of_ble_eq_true rfl⟩ dX3_compareAll_36 ?_
    show lc_V _ _ _ _ _ 39 _ [.int ((sp_mks ((sp_mks x a b (sp_rks x.1 a b)).2) a b ((15 &&& (((sp_rks x.1 a b) ^^^ ((-1))))))).1), .int ((sp_mks x a b (sp_rks x.1 a b)).1)] (lc_w σ j ((sp_mks ((sp_mks x a b (sp_rks x.1 a b)).2) a b ((15 &&& (((sp_rks x.1 a b) ^^^ ((-1))))))).2))
    refine lc_iadd dX3_compareAll_39 ?_
    refine lc_istore [(4, .int ((((sp_mks x a b (sp_rks x.1 a b)).1) + ((sp_mks ((sp_mks x a b (sp_rks x.1 a b)).2) a b ((15 &&& (((sp_rks x.1 a b) ^^^ ((-1))))))).1)))), (3, .int (sp_rks x.1 a b)), (0, .ref (G.1 (4 + j))), (1, .int (nI a)), (2, .int (nI b))] dX3_compareAll_40 (by decide) rfl ?_
    refine lc_iload 0 dX3_compareAll_42 rfl ?_
    exact lc_iret hR dX3_compareAll_44 (by simp [sp_cmp, lc_bi, c_1]) (by simp [sp_cmp, lc_bi, c_1])

set_option maxRecDepth 100000 in
set_option maxHeartbeats 4000000 in
theorem c_X3_tell (l : Launch) (G : lc_G) (σ : lc_S) (j : Nat) (x : lc_X) (i k : Nat) (hj : j < 2) (hi : i < 24) (hk : k < 24) : lc_M l G yX3_tell cX3_tell 3 (some .int) { frames := 1, cells := 0, slots := 0, locals := 22 } [.ref (G.1 (4 + j)), .ref (G.1 (lc_it j i)), .ref (G.1 (lc_it j k))] (lc_w σ j x) (some (.int ((sp_tell x i k).1))) (lc_w σ j ((sp_tell x i k).2)) := by
  refine lc_entry [(0, .ref (G.1 (4 + j))), (1, .ref (G.1 (lc_it j i))), (2, .ref (G.1 (lc_it j k)))] (by decide) (Nat.le_of_ble_eq_true rfl) rfl rfl rfl ?_
  intro Γ hR
  refine lc_aload_n 1 dX3_tell_0 rfl ?_
  refine lc_aload_n 2 dX3_tell_1 rfl ?_
  refine lc_callV (lc_it j i) (c_X0_isNewer l G σ j x i k (by omega) (by omega) (by omega)) hR.2.2.2.1 hR.2.2.2.2 mt_X0_isNewer (lc_it74 (by omega) (by omega)) (lc_ent_it G _ (by omega)) rfl ml_X3_149 rfl rfl (Nat.le_of_ble_eq_true rfl) ⟨⟨rfl, rfl⟩, Nat.le_of_ble_eq_true rfl, Nat.le_of_ble_eq_true rfl⟩ dX3_tell_2 ?_
  show lc_V _ _ _ _ _ 5 _ [.int (lc_bi (sp_new x.1 i k))] (lc_w σ j x)
  refine lc_ifb_eq 21 dX3_tell_5 (by decide) (fun c_1 => ?_) (fun c_1 => ?_)
  · skip
    refine lc_aload_n 1 dX3_tell_21 rfl ?_
    refine lc_dup dX3_tell_22 rfl ?_
    refine lc_gIw j i 5 (by omega) (by omega) (by decide) fl_X3_64 dX3_tell_23 ?_
    refine lc_iconst (v := 1) dX3_tell_26 (by decide) ?_
    refine lc_isub dX3_tell_27 ?_
    refine lc_pIw j i 5 (by omega) (by omega) (by decide) fl_X3_64 dX3_tell_28 ?_
    refine lc_aload_n 0 dX3_tell_31 rfl ?_
    refine lc_aload_n 2 dX3_tell_32 rfl ?_
    refine lc_callV (4 + j) (c_X3_isDormant l G σ j ((lc_cu x.1 5 i (((x.1 5 i) - 1)), x.2)) k (by omega) (by omega)) hR.2.2.2.1 hR.2.2.2.2 mt_X3_isDormant (by omega) (lc_eW j (by omega)) rfl ml_X3_79 rfl rfl (Nat.le_of_ble_eq_true rfl) ⟨⟨rfl, rfl⟩, Nat.le_of_ble_eq_true rfl, Nat.le_of_ble_eq_true rfl⟩ dX3_tell_33 ?_
    show lc_V _ _ _ _ _ 36 _ [.int (lc_bi (sp_dor (lc_cu x.1 5 i (((x.1 5 i) - 1))) k))] (lc_w σ j ((lc_cu x.1 5 i (((x.1 5 i) - 1)), x.2)))
    refine lc_ifb_eq 55 dX3_tell_36 (by decide) (fun c_2 => ?_) (fun c_2 => ?_)
    · skip
      refine lc_iconst (v := 0) dX3_tell_55 (by decide) ?_
      exact lc_iret hR dX3_tell_56 (by simp [sp_tell, sp_tellN, lc_bi, c_1, c_2]) (by simp [sp_tell, sp_tellN, lc_bi, c_1, c_2])
    · skip
      refine lc_aload_n 1 dX3_tell_39 rfl ?_
      refine lc_aload_n 2 dX3_tell_40 rfl ?_
      refine lc_gIw j k 2 (by omega) (by omega) (by decide) fl_X3_138 dX3_tell_41 ?_
      refine lc_callV (lc_it j i) (c_X0_isItemBelow l G σ j ((lc_cu x.1 5 i (((x.1 5 i) - 1)), x.2)) i (by omega) (by omega) ((lc_cu x.1 5 i (((x.1 5 i) - 1))) 2 k)) hR.2.2.2.1 hR.2.2.2.2 mt_X0_isItemBelow (lc_it74 (by omega) (by omega)) (lc_ent_it G _ (by omega)) rfl ml_X3_141 rfl rfl (Nat.le_of_ble_eq_true rfl) ⟨⟨rfl, rfl⟩, Nat.le_of_ble_eq_true rfl, Nat.le_of_ble_eq_true rfl⟩ dX3_tell_44 ?_
      show lc_V _ _ _ _ _ 47 _ [.int (lc_bi (sp_below (lc_cu x.1 5 i (((x.1 5 i) - 1))) i ((lc_cu x.1 5 i (((x.1 5 i) - 1))) 2 k)))] (lc_w σ j ((lc_cu x.1 5 i (((x.1 5 i) - 1)), x.2)))
      refine lc_ifb_eq 55 dX3_tell_47 (by decide) (fun c_3 => ?_) (fun c_3 => ?_)
      · skip
        refine lc_iconst (v := 0) dX3_tell_55 (by decide) ?_
        exact lc_iret hR dX3_tell_56 (by simp [sp_tell, sp_tellN, lc_bi, c_1, c_2, c_3]) (by simp [sp_tell, sp_tellN, lc_bi, c_1, c_2, c_3])
      · skip
        refine lc_aload_n 0 dX3_tell_50 rfl ?_
        refine lc_aload_n 2 dX3_tell_51 rfl ?_
        refine lc_callV (4 + j) (c_X3_wake l G σ j ((lc_cu x.1 5 i (((x.1 5 i) - 1)), x.2)) k (by omega) (by omega)) hR.2.2.2.1 hR.2.2.2.2 mt_X3_wake (by omega) (lc_eW j (by omega)) rfl ml_X3_145 rfl rfl (Nat.le_of_ble_eq_true rfl) ⟨⟨rfl, rfl⟩, Nat.le_of_ble_eq_true rfl, Nat.le_of_ble_eq_true rfl⟩ dX3_tell_52 ?_
        show lc_V _ _ _ _ _ 55 _ [] (lc_w σ j (sp_wake ((lc_cu x.1 5 i (((x.1 5 i) - 1)), x.2)) k))
        refine lc_iconst (v := 0) dX3_tell_55 (by decide) ?_
        exact lc_iret hR dX3_tell_56 (by simp [sp_tell, sp_tellN, lc_bi, c_1, c_2, c_3]) (by simp [sp_tell, sp_tellN, lc_bi, c_1, c_2, c_3])
  · skip
    refine lc_aload_n 2 dX3_tell_8 rfl ?_
    refine lc_aload_n 1 dX3_tell_9 rfl ?_
    refine lc_aload_n 0 dX3_tell_10 rfl ?_
    refine lc_gWLim j (by omega) fl_X3_9 dX3_tell_11 ?_
    refine lc_iconst (v := 2) dX3_tell_14 (by decide) ?_
    refine lc_iald (6 + j) 2 (by omega) (lc_eLim j (by omega)) (rfl) (by omega) (by decide) dX3_tell_15 ?_
    refine lc_callV (lc_it j k) (c_X0_becomeCopy l G σ j x k i (by omega) (by omega) (by omega) (x.1 6 2)) hR.2.2.2.1 hR.2.2.2.2 mt_X0_becomeCopy (lc_it74 (by omega) (by omega)) (lc_ent_it G _ (by omega)) rfl ml_X3_67 rfl rfl (Nat.le_of_ble_eq_true rfl) ⟨⟨rfl, rfl⟩, Nat.le_of_ble_eq_true rfl, Nat.le_of_ble_eq_true rfl⟩ dX3_tell_16 ?_
    show lc_V _ _ _ _ _ 19 _ [] (lc_w σ j ((sp_copy x.1 k x.1 i (x.1 6 2), x.2)))
    refine lc_iconst (v := 1) dX3_tell_19 (by decide) ?_
    exact lc_iret hR dX3_tell_20 (by simp [sp_tell, sp_tellN, lc_bi, c_1]) (by simp [sp_tell, sp_tellN, lc_bi, c_1])

set_option maxRecDepth 100000 in
set_option maxHeartbeats 4000000 in
theorem c_X3_tellHot (l : Launch) (G : lc_G) (σ : lc_S) (j : Nat) (x : lc_X) (a b : Nat) (hj : j < 2) (ha : a < 6) (hb : b < 6) : lc_M l G yX3_tellHot cX3_tellHot 6 (some .int) { frames := 2, cells := 0, slots := 0, locals := 44 } [.ref (G.1 (4 + j)), .int (nI a), .int (nI b)] (lc_w σ j x) (some (.int ((sp_hots x a b).1))) (lc_w σ j ((sp_hots x a b).2)) := by
  refine lc_entry [(0, .ref (G.1 (4 + j))), (1, .int (nI a)), (2, .int (nI b))] (by decide) (Nat.le_of_ble_eq_true rfl) rfl rfl rfl ?_
  intro Γ hR
  refine lc_iconst (v := 0) dX3_tellHot_0 (by decide) ?_
  refine lc_istore_n [(3, .int (0)), (0, .ref (G.1 (4 + j))), (1, .int (nI a)), (2, .int (nI b))] dX3_tellHot_1 (by decide) rfl ?_
  refine lc_iconst (v := 0) dX3_tellHot_2 (by decide) ?_
  refine lc_istore [(4, .int (0)), (3, .int (0)), (0, .ref (G.1 (4 + j))), (1, .int (nI a)), (2, .int (nI b))] dX3_tellHot_3 (by decide) rfl ?_
  refine lc_lv (lv' := [(0, .ref (G.1 (4 + j))), (1, .int (nI a)), (2, .int (nI b)), (3, .int (0)), (4, .int (0))]) [2, 3, 4, 1, 0] rfl ?_
  refine lc_forI (α := Int32 × lc_X) (fun k z => lc_V G Γ _ _ _ 5 [(0, .ref (G.1 (4 + j))), (1, .int (nI a)), (2, .int (nI b)), (3, .int (z.1)), (4, .int (nI k))] [] (lc_w σ j z.2)) (fun _ _ => True) (sp_hot a b) 4 (fun _ _ _ _ => trivial) (fun k z hk hIk kk => ?_) ((0, x)) (trivial) (fun hIk => ?_)
  · skip
    show lc_V G Γ _ _ _ 5 [(0, .ref (G.1 (4 + j))), (1, .int (nI a)), (2, .int (nI b)), (3, .int (z.1)), (4, .int (nI k))] [] (lc_w σ j z.2)
    refine lc_iload 4 dX3_tellHot_5 rfl ?_
    refine lc_iconst (v := 4) dX3_tellHot_7 (by decide) ?_
    refine lc_icmp_ge 69 dX3_tellHot_8 (by decide) (fun h => absurd h.1 (by exact nI_ge (b := 4) hk (by omega))) (fun _ => ?_)
    refine lc_aload_n 0 dX3_tellHot_11 rfl ?_
    refine lc_iload_n 1 dX3_tellHot_12 rfl ?_
    refine lc_iload 4 dX3_tellHot_13 rfl ?_
    refine lc_callV (4 + j) (c_X3_itemAt l G (lc_w σ j z.2) j a k (by omega) (by omega) (by omega)) hR.2.2.2.1 hR.2.2.2.2 mt_X3_itemAt (by omega) (lc_eW j (by omega)) rfl ml_X3_75 rfl rfl (Nat.le_of_ble_eq_true rfl) ⟨⟨rfl, rfl⟩, Nat.le_of_ble_eq_true rfl, Nat.le_of_ble_eq_true rfl⟩ dX3_tellHot_15 ?_
    show lc_V _ _ _ _ _ 18 _ [.ref (G.1 (lc_it j (4 * a + k)))] (lc_w σ j z.2)
    refine lc_astore [(5, .ref (G.1 (lc_it j (4 * a + k)))), (0, .ref (G.1 (4 + j))), (1, .int (nI a)), (2, .int (nI b)), (3, .int (z.1)), (4, .int (nI k))] dX3_tellHot_18 (by decide) rfl ?_
    refine lc_aload 0 dX3_tellHot_20 rfl ?_
    refine lc_gIw j (4 * a + k) 5 (by omega) (by omega) (by decide) fl_X3_64 dX3_tellHot_22 ?_
    refine lc_if_le 63 dX3_tellHot_25 (by decide) (fun c_2 => ?_) (fun c_2 => ?_)
    · skip
      refine lc_iinc 5 (nI (k + 1)) [(4, .int (nI (k + 1))), (5, .ref (G.1 (lc_it j (4 * a + k)))), (0, .ref (G.1 (4 + j))), (1, .int (nI a)), (2, .int (nI b)), (3, .int (z.1))] dX3_tellHot_63 rfl (lc_inc1 k) (by decide) rfl ?_
      refine lc_goto 5 dX3_tellHot_66 (by decide) ?_
      refine lc_lv (lv' := [(0, .ref (G.1 (4 + j))), (1, .int (nI a)), (2, .int (nI b)), (3, .int (z.1)), (4, .int (nI (k + 1)))]) [2, 3, 4, 5, 0] rfl ?_
      rw [show (sp_hot a b) k z = (z.1, z.2) from by simp [sp_hot, sp_tr, c_2]] at kk
      exact kk
    · skip
      refine lc_aload_n 1 dX3_tellHot_28 rfl ?_
      refine lc_aload 0 dX3_tellHot_29 rfl ?_
      refine lc_callV (4 + j) (c_X3_isAwake l G σ j z.2 (4 * a + k) (by omega) (by omega)) hR.2.2.2.1 hR.2.2.2.2 mt_X3_isAwake (by omega) (lc_eW j (by omega)) rfl ml_X3_131 rfl rfl (Nat.le_of_ble_eq_true rfl) ⟨⟨rfl, rfl⟩, Nat.le_of_ble_eq_true rfl, Nat.le_of_ble_eq_true rfl⟩ dX3_tellHot_31 ?_
      show lc_V _ _ _ _ _ 34 _ [.int (lc_bi (sp_aw z.2.1 (4 * a + k)))] (lc_w σ j z.2)
      refine lc_ifb_eq 63 dX3_tellHot_34 (by decide) (fun c_3 => ?_) (fun c_3 => ?_)
      · skip
        refine lc_iinc 5 (nI (k + 1)) [(4, .int (nI (k + 1))), (5, .ref (G.1 (lc_it j (4 * a + k)))), (0, .ref (G.1 (4 + j))), (1, .int (nI a)), (2, .int (nI b)), (3, .int (z.1))] dX3_tellHot_63 rfl (lc_inc1 k) (by decide) rfl ?_
        refine lc_goto 5 dX3_tellHot_66 (by decide) ?_
        refine lc_lv (lv' := [(0, .ref (G.1 (4 + j))), (1, .int (nI a)), (2, .int (nI b)), (3, .int (z.1)), (4, .int (nI (k + 1)))]) [2, 3, 4, 5, 0] rfl ?_
        rw [show (sp_hot a b) k z = (z.1, z.2) from by simp [sp_hot, sp_tr, c_2, c_3]] at kk
        exact kk
      · skip
        refine lc_aload_n 1 dX3_tellHot_37 rfl ?_
        refine lc_dup dX3_tellHot_38 rfl ?_
        refine lc_gWTra j (by omega) fl_X3_43 dX3_tellHot_39 ?_
        refine lc_iconst (v := 1) dX3_tellHot_42 (by decide) ?_
        refine lc_iadd dX3_tellHot_43 ?_
        refine lc_pWTra j (z.2.2.1 + 1) (Int32.add_assoc _ _ _) (by omega) fl_X3_43 dX3_tellHot_44 ?_
        refine lc_eq (σ' := lc_w σ j ((z.2.1, z.2.2.1 + 1, z.2.2.2.1, z.2.2.2.2))) rfl ?_
        refine lc_iload_n 4 dX3_tellHot_47 rfl ?_
        refine lc_aload_n 1 dX3_tellHot_48 rfl ?_
        refine lc_aload 0 dX3_tellHot_49 rfl ?_
        refine lc_aload_n 1 dX3_tellHot_51 rfl ?_
        refine lc_iload_n 3 dX3_tellHot_52 rfl ?_
        refine lc_iload 5 dX3_tellHot_53 rfl ?_
        refine lc_callV (4 + j) (c_X3_itemAt l G (lc_w σ j ((z.2.1, z.2.2.1 + 1, z.2.2.2.1, z.2.2.2.2))) j b k (by omega) (by omega) (by omega)) hR.2.2.2.1 hR.2.2.2.2 mt_X3_itemAt (by omega) (lc_eW j (by omega)) rfl ml_X3_75 rfl rfl (Nat.le_of_ble_eq_true rfl) ⟨⟨rfl, rfl⟩, Nat.le_of_ble_eq_true rfl, Nat.le_of_ble_eq_true rfl⟩ dX3_tellHot_55 ?_
        show lc_V _ _ _ _ _ 58 _ [.ref (G.1 (lc_it j (4 * b + k))), .ref (G.1 (lc_it j (4 * a + k))), .ref (G.1 (4 + j)), .int (z.1)] (lc_w σ j ((z.2.1, z.2.2.1 + 1, z.2.2.2.1, z.2.2.2.2)))
        refine lc_callV (4 + j) (c_X3_tell l G σ j ((z.2.1, z.2.2.1 + 1, z.2.2.2.1, z.2.2.2.2)) (4 * a + k) (4 * b + k) (by omega) (by omega) (by omega)) hR.2.2.2.1 hR.2.2.2.2 mt_X3_tell (by omega) (lc_eW j (by omega)) rfl ml_X3_152 rfl rfl (Nat.le_of_ble_eq_true rfl) ⟨⟨rfl, rfl⟩, Nat.le_of_ble_eq_true rfl, Nat.le_of_ble_eq_true rfl⟩ dX3_tellHot_58 ?_
        show lc_V _ _ _ _ _ 61 _ [.int ((sp_tell ((z.2.1, z.2.2.1 + 1, z.2.2.2.1, z.2.2.2.2)) (4 * a + k) (4 * b + k)).1), .int (z.1)] (lc_w σ j ((sp_tell ((z.2.1, z.2.2.1 + 1, z.2.2.2.1, z.2.2.2.2)) (4 * a + k) (4 * b + k)).2))
        refine lc_iadd dX3_tellHot_61 ?_
        refine lc_istore_n [(3, .int ((z.1 + ((sp_tell ((z.2.1, z.2.2.1 + 1, z.2.2.2.1, z.2.2.2.2)) (4 * a + k) (4 * b + k)).1)))), (5, .ref (G.1 (lc_it j (4 * a + k)))), (0, .ref (G.1 (4 + j))), (1, .int (nI a)), (2, .int (nI b)), (4, .int (nI k))] dX3_tellHot_62 (by decide) rfl ?_
        refine lc_iinc 5 (nI (k + 1)) [(4, .int (nI (k + 1))), (3, .int ((z.1 + ((sp_tell ((z.2.1, z.2.2.1 + 1, z.2.2.2.1, z.2.2.2.2)) (4 * a + k) (4 * b + k)).1)))), (5, .ref (G.1 (lc_it j (4 * a + k)))), (0, .ref (G.1 (4 + j))), (1, .int (nI a)), (2, .int (nI b))] dX3_tellHot_63 rfl (lc_inc1 k) (by decide) rfl ?_
        refine lc_goto 5 dX3_tellHot_66 (by decide) ?_
        refine lc_lv (lv' := [(0, .ref (G.1 (4 + j))), (1, .int (nI a)), (2, .int (nI b)), (3, .int ((z.1 + ((sp_tell ((z.2.1, z.2.2.1 + 1, z.2.2.2.1, z.2.2.2.2)) (4 * a + k) (4 * b + k)).1)))), (4, .int (nI (k + 1)))]) [3, 4, 5, 1, 0] rfl ?_
        rw [show (sp_hot a b) k z = ((z.1 + ((sp_tell ((z.2.1, z.2.2.1 + 1, z.2.2.2.1, z.2.2.2.2)) (4 * a + k) (4 * b + k)).1)), (sp_tell ((z.2.1, z.2.2.1 + 1, z.2.2.2.1, z.2.2.2.2)) (4 * a + k) (4 * b + k)).2) from by simp [sp_hot, sp_tr, c_2, c_3]] at kk
        exact kk
  · skip
    show lc_V G Γ _ _ _ 5 [(0, .ref (G.1 (4 + j))), (1, .int (nI a)), (2, .int (nI b)), (3, .int ((sp_hots x a b).1)), (4, .int (nI 4))] [] (lc_w σ j ((sp_hots x a b).2))
    refine lc_iload 4 dX3_tellHot_5 rfl ?_
    refine lc_iconst (v := 4) dX3_tellHot_7 (by decide) ?_
    refine lc_icmp_ge 69 dX3_tellHot_8 (by decide) (fun _ => ?_) (fun h => absurd h.1 (by exact nI_nlt (a := 4) (b := 4) (Nat.le_refl _) (by omega)))
    refine lc_iload_n 3 dX3_tellHot_69 rfl ?_
    exact lc_iret hR dX3_tellHot_70 (rfl) (rfl)
