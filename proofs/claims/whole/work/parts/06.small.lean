set_option maxRecDepth 100000 in
set_option maxHeartbeats 4000000 in
theorem c_X0_isNewer (l : Launch) (G : lc_G) (σ : lc_S) (j : Nat) (x : lc_X) (i k : Nat) (hj : j < 2) (hi : i < 24) (hk : k < 24) : lc_M l G yX0_isNewer cX0_isNewer 2 (some .boolean) { frames := 0, cells := 0, slots := 0, locals := 0 } [.ref (G.1 (lc_it j i)), .ref (G.1 (lc_it j k))] (lc_w σ j x) (some (.int (lc_bi (sp_new x.1 i k)))) (lc_w σ j x) := by
  refine lc_entry [(0, .ref (G.1 (lc_it j i))), (1, .ref (G.1 (lc_it j k)))] (by decide) (Nat.le_of_ble_eq_true rfl) rfl rfl rfl ?_
  intro Γ hR
  refine lc_aload_n 0 dX0_isNewer_0 rfl ?_
  refine lc_gIw j i 2 (by omega) (by omega) (by decide) fl_X0_21 dX0_isNewer_1 ?_
  refine lc_aload_n 1 dX0_isNewer_4 rfl ?_
  refine lc_gIw j k 2 (by omega) (by omega) (by decide) fl_X0_21 dX0_isNewer_5 ?_
  refine lc_icmp_gt 33 dX0_isNewer_8 (by decide) (fun c_1 => ?_) (fun c_1 => ?_)
  · skip
    refine lc_iconst (v := 1) dX0_isNewer_33 (by decide) ?_
    refine lc_goto 38 dX0_isNewer_34 (by decide) ?_
    exact lc_zret hR dX0_isNewer_38 (by simp [sp_new, lc_bi, c_1]) (rfl)
  · skip
    refine lc_aload_n 0 dX0_isNewer_11 rfl ?_
    refine lc_gIw j i 2 (by omega) (by omega) (by decide) fl_X0_21 dX0_isNewer_12 ?_
    refine lc_aload_n 1 dX0_isNewer_15 rfl ?_
    refine lc_gIw j k 2 (by omega) (by omega) (by decide) fl_X0_21 dX0_isNewer_16 ?_
    refine lc_icmp_ne 37 dX0_isNewer_19 (by decide) (fun c_2 => ?_) (fun c_2 => ?_)
    · skip
      refine lc_iconst (v := 0) dX0_isNewer_37 (by decide) ?_
      exact lc_zret hR dX0_isNewer_38 (by simp [sp_new, lc_bi, c_1, c_2]) (rfl)
    · skip
      refine lc_aload_n 0 dX0_isNewer_22 rfl ?_
      refine lc_gIw j i 3 (by omega) (by omega) (by decide) fl_X0_24 dX0_isNewer_23 ?_
      refine lc_aload_n 1 dX0_isNewer_26 rfl ?_
      refine lc_gIw j k 3 (by omega) (by omega) (by decide) fl_X0_24 dX0_isNewer_27 ?_
      refine lc_icmp_le 37 dX0_isNewer_30 (by decide) (fun c_3 => ?_) (fun c_3 => ?_)
      · skip
        refine lc_iconst (v := 0) dX0_isNewer_37 (by decide) ?_
        exact lc_zret hR dX0_isNewer_38 (by simp [sp_new, lc_bi, c_1, c_2, c_3]) (rfl)
      · skip
        refine lc_iconst (v := 1) dX0_isNewer_33 (by decide) ?_
        refine lc_goto 38 dX0_isNewer_34 (by decide) ?_
        exact lc_zret hR dX0_isNewer_38 (by simp [sp_new, lc_bi, c_1, c_2, c_3]) (rfl)

set_option maxRecDepth 100000 in
set_option maxHeartbeats 4000000 in
theorem c_X0_isItemBelow (l : Launch) (G : lc_G) (σ : lc_S) (j : Nat) (x : lc_X) (i : Nat) (hj : j < 2) (hi : i < 24) (s : Int32) : lc_M l G yX0_isItemBelow cX0_isItemBelow 2 (some .boolean) { frames := 0, cells := 0, slots := 0, locals := 0 } [.ref (G.1 (lc_it j i)), .int (s)] (lc_w σ j x) (some (.int (lc_bi (sp_below x.1 i s)))) (lc_w σ j x) := by
  refine lc_entry [(0, .ref (G.1 (lc_it j i))), (1, .int (s))] (by decide) (Nat.le_of_ble_eq_true rfl) rfl rfl rfl ?_
  intro Γ hR
  refine lc_aload_n 0 dX0_isItemBelow_0 rfl ?_
  refine lc_gIw j i 0 (by omega) (by omega) (by decide) fl_X0_14 dX0_isItemBelow_1 ?_
  refine lc_if_eq 19 dX0_isItemBelow_4 (by decide) (fun c_1 => ?_) (fun c_1 => ?_)
  · skip
    refine lc_iconst (v := 0) dX0_isItemBelow_19 (by decide) ?_
    exact lc_zret hR dX0_isItemBelow_20 (by simp [sp_below, lc_bi, c_1]) (rfl)
  · skip
    refine lc_aload_n 0 dX0_isItemBelow_7 rfl ?_
    refine lc_gIw j i 2 (by omega) (by omega) (by decide) fl_X0_21 dX0_isItemBelow_8 ?_
    refine lc_iload_n 1 dX0_isItemBelow_11 rfl ?_
    refine lc_icmp_ge 19 dX0_isItemBelow_12 (by decide) (fun c_2 => ?_) (fun c_2 => ?_)
    · skip
      refine lc_iconst (v := 0) dX0_isItemBelow_19 (by decide) ?_
      exact lc_zret hR dX0_isItemBelow_20 (by simp [sp_below, lc_bi, c_1, c_2]) (rfl)
    · skip
      refine lc_iconst (v := 1) dX0_isItemBelow_15 (by decide) ?_
      refine lc_goto 20 dX0_isItemBelow_16 (by decide) ?_
      exact lc_zret hR dX0_isItemBelow_20 (by simp [sp_below, lc_bi, c_1, c_2]) (rfl)

set_option maxRecDepth 100000 in
set_option maxHeartbeats 4000000 in
theorem c_X0_becomeNothing (l : Launch) (G : lc_G) (σ : lc_S) (j : Nat) (x : lc_X) (i : Nat) (hj : j < 2) (hi : i < 24) : lc_M l G yX0_becomeNothing cX0_becomeNothing 1 none { frames := 0, cells := 0, slots := 0, locals := 0 } [.ref (G.1 (lc_it j i))] (lc_w σ j x) none (lc_w σ j ((sp_none x.1 i, x.2))) := by
  refine lc_entry [(0, .ref (G.1 (lc_it j i)))] (by decide) (Nat.le_of_ble_eq_true rfl) rfl rfl rfl ?_
  intro Γ hR
  refine lc_aload_n 0 dX0_becomeNothing_0 rfl ?_
  refine lc_iconst (v := 0) dX0_becomeNothing_1 (by decide) ?_
  refine lc_pIw j i 0 (by omega) (by omega) (by decide) fl_X0_14 dX0_becomeNothing_2 ?_
  refine lc_aload_n 0 dX0_becomeNothing_5 rfl ?_
  refine lc_iconst (v := (-1)) dX0_becomeNothing_6 (by decide) ?_
  refine lc_pIw j i 1 (by omega) (by omega) (by decide) fl_X0_18 dX0_becomeNothing_7 ?_
  refine lc_aload_n 0 dX0_becomeNothing_10 rfl ?_
  refine lc_iconst (v := (-1)) dX0_becomeNothing_11 (by decide) ?_
  refine lc_pIw j i 2 (by omega) (by omega) (by decide) fl_X0_21 dX0_becomeNothing_12 ?_
  refine lc_aload_n 0 dX0_becomeNothing_15 rfl ?_
  refine lc_iconst (v := (-1)) dX0_becomeNothing_16 (by decide) ?_
  refine lc_pIw j i 3 (by omega) (by omega) (by decide) fl_X0_24 dX0_becomeNothing_17 ?_
  refine lc_aload_n 0 dX0_becomeNothing_20 rfl ?_
  refine lc_iconst (v := (-1)) dX0_becomeNothing_21 (by decide) ?_
  refine lc_pIw j i 4 (by omega) (by omega) (by decide) fl_X0_27 dX0_becomeNothing_22 ?_
  refine lc_aload_n 0 dX0_becomeNothing_25 rfl ?_
  refine lc_iconst (v := 0) dX0_becomeNothing_26 (by decide) ?_
  refine lc_pIw j i 5 (by omega) (by omega) (by decide) fl_X0_30 dX0_becomeNothing_27 ?_
  exact lc_vret hR dX0_becomeNothing_30 (rfl)

set_option maxRecDepth 100000 in
set_option maxHeartbeats 4000000 in
theorem c_X0_becomeValue (l : Launch) (G : lc_G) (σ : lc_S) (j : Nat) (x : lc_X) (i : Nat) (hj : j < 2) (hi : i < 24) (v n h : Int32) : lc_M l G yX0_becomeValue cX0_becomeValue 4 none { frames := 0, cells := 0, slots := 0, locals := 0 } [.ref (G.1 (lc_it j i)), .int (v), .int (n), .int (h)] (lc_w σ j x) none (lc_w σ j ((sp_val x.1 i v n h, x.2))) := by
  refine lc_entry [(0, .ref (G.1 (lc_it j i))), (1, .int (v)), (2, .int (n)), (3, .int (h))] (by decide) (Nat.le_of_ble_eq_true rfl) rfl rfl rfl ?_
  intro Γ hR
  refine lc_aload_n 0 dX0_becomeValue_0 rfl ?_
  refine lc_iconst (v := 1) dX0_becomeValue_1 (by decide) ?_
  refine lc_pIw j i 0 (by omega) (by omega) (by decide) fl_X0_14 dX0_becomeValue_2 ?_
  refine lc_aload_n 0 dX0_becomeValue_5 rfl ?_
  refine lc_iload_n 1 dX0_becomeValue_6 rfl ?_
  refine lc_pIw j i 1 (by omega) (by omega) (by decide) fl_X0_18 dX0_becomeValue_7 ?_
  refine lc_aload_n 0 dX0_becomeValue_10 rfl ?_
  refine lc_iload_n 2 dX0_becomeValue_11 rfl ?_
  refine lc_pIw j i 2 (by omega) (by omega) (by decide) fl_X0_21 dX0_becomeValue_12 ?_
  refine lc_aload_n 0 dX0_becomeValue_15 rfl ?_
  refine lc_iload_n 2 dX0_becomeValue_16 rfl ?_
  refine lc_pIw j i 3 (by omega) (by omega) (by decide) fl_X0_24 dX0_becomeValue_17 ?_
  refine lc_aload_n 0 dX0_becomeValue_20 rfl ?_
  refine lc_iconst (v := (-1)) dX0_becomeValue_21 (by decide) ?_
  refine lc_pIw j i 4 (by omega) (by omega) (by decide) fl_X0_27 dX0_becomeValue_22 ?_
  refine lc_aload_n 0 dX0_becomeValue_25 rfl ?_
  refine lc_iload_n 3 dX0_becomeValue_26 rfl ?_
  refine lc_pIw j i 5 (by omega) (by omega) (by decide) fl_X0_30 dX0_becomeValue_27 ?_
  exact lc_vret hR dX0_becomeValue_30 (rfl)

set_option maxRecDepth 100000 in
set_option maxHeartbeats 4000000 in
theorem c_X0_becomeCertificate (l : Launch) (G : lc_G) (σ : lc_S) (j : Nat) (x : lc_X) (i : Nat) (hj : j < 2) (hi : i < 24) (v n h : Int32) : lc_M l G yX0_becomeCertificate cX0_becomeCertificate 4 none { frames := 0, cells := 0, slots := 0, locals := 0 } [.ref (G.1 (lc_it j i)), .int (v), .int (n), .int (h)] (lc_w σ j x) none (lc_w σ j ((sp_cer x.1 i v n h, x.2))) := by
  refine lc_entry [(0, .ref (G.1 (lc_it j i))), (1, .int (v)), (2, .int (n)), (3, .int (h))] (by decide) (Nat.le_of_ble_eq_true rfl) rfl rfl rfl ?_
  intro Γ hR
  refine lc_aload_n 0 dX0_becomeCertificate_0 rfl ?_
  refine lc_iconst (v := 2) dX0_becomeCertificate_1 (by decide) ?_
  refine lc_pIw j i 0 (by omega) (by omega) (by decide) fl_X0_14 dX0_becomeCertificate_2 ?_
  refine lc_aload_n 0 dX0_becomeCertificate_5 rfl ?_
  refine lc_iconst (v := (-1)) dX0_becomeCertificate_6 (by decide) ?_
  refine lc_pIw j i 1 (by omega) (by omega) (by decide) fl_X0_18 dX0_becomeCertificate_7 ?_
  refine lc_aload_n 0 dX0_becomeCertificate_10 rfl ?_
  refine lc_iload_n 2 dX0_becomeCertificate_11 rfl ?_
  refine lc_pIw j i 2 (by omega) (by omega) (by decide) fl_X0_21 dX0_becomeCertificate_12 ?_
  refine lc_aload_n 0 dX0_becomeCertificate_15 rfl ?_
  refine lc_iload_n 2 dX0_becomeCertificate_16 rfl ?_
  refine lc_pIw j i 3 (by omega) (by omega) (by decide) fl_X0_24 dX0_becomeCertificate_17 ?_
  refine lc_aload_n 0 dX0_becomeCertificate_20 rfl ?_
  refine lc_iload_n 1 dX0_becomeCertificate_21 rfl ?_
  refine lc_pIw j i 4 (by omega) (by omega) (by decide) fl_X0_27 dX0_becomeCertificate_22 ?_
  refine lc_aload_n 0 dX0_becomeCertificate_25 rfl ?_
  refine lc_iload_n 3 dX0_becomeCertificate_26 rfl ?_
  refine lc_pIw j i 5 (by omega) (by omega) (by decide) fl_X0_30 dX0_becomeCertificate_27 ?_
  exact lc_vret hR dX0_becomeCertificate_30 (rfl)

set_option maxRecDepth 100000 in
set_option maxHeartbeats 4000000 in
theorem c_X3_knowsSite (l : Launch) (G : lc_G) (σ : lc_S) (j : Nat) (x : lc_X) (s : Int32) (hj : j < 2) : lc_M l G yX3_knowsSite cX3_knowsSite 2 (some .boolean) { frames := 0, cells := 0, slots := 0, locals := 0 } [.ref (G.1 (4 + j)), .int (s)] (lc_w σ j x) (some (.int (lc_bi (sp_site x.1 s)))) (lc_w σ j x) := by
  refine lc_entry [(0, .ref (G.1 (4 + j))), (1, .int (s))] (by decide) (Nat.le_of_ble_eq_true rfl) rfl rfl rfl ?_
  intro Γ hR
  refine lc_iload_n 1 dX3_knowsSite_0 rfl ?_
  refine lc_if_lt 16 dX3_knowsSite_1 (by decide) (fun c_1 => ?_) (fun c_1 => ?_)
  · skip
    refine lc_iconst (v := 0) dX3_knowsSite_16 (by decide) ?_
    exact lc_zret hR dX3_knowsSite_17 (by simp [sp_site, lc_bi, c_1]) (rfl)
  · skip
    refine lc_iload_n 1 dX3_knowsSite_4 rfl ?_
    refine lc_aload_n 0 dX3_knowsSite_5 rfl ?_
    refine lc_gWSites j (by omega) fl_X3_34 dX3_knowsSite_6 ?_
    refine lc_icmp_ge 16 dX3_knowsSite_9 (by decide) (fun c_2 => ?_) (fun c_2 => ?_)
    · skip
      refine lc_iconst (v := 0) dX3_knowsSite_16 (by decide) ?_
      exact lc_zret hR dX3_knowsSite_17 (by simp [sp_site, lc_bi, c_1, c_2]) (rfl)
    · skip
      refine lc_iconst (v := 1) dX3_knowsSite_12 (by decide) ?_
      refine lc_goto 17 dX3_knowsSite_13 (by decide) ?_
      exact lc_zret hR dX3_knowsSite_17 (by simp [sp_site, lc_bi, c_1, c_2]) (rfl)

set_option maxRecDepth 100000 in
set_option maxHeartbeats 4000000 in
theorem c_X3_isOff (l : Launch) (G : lc_G) (σ : lc_S) (j : Nat) (x : lc_X) (s : Int32) (hj : j < 2) : lc_M l G yX3_isOff cX3_isOff 2 (some .boolean) { frames := 0, cells := 0, slots := 0, locals := 0 } [.ref (G.1 (4 + j)), .int (s)] (lc_w σ j x) (some (.int (lc_bi (sp_bit (x.1 7 2) s)))) (lc_w σ j x) := by
  refine lc_entry [(0, .ref (G.1 (4 + j))), (1, .int (s))] (by decide) (Nat.le_of_ble_eq_true rfl) rfl rfl rfl ?_
  intro Γ hR
  refine lc_aload_n 0 dX3_isOff_0 rfl ?_
  refine lc_gWOff j (by omega) fl_X3_40 dX3_isOff_1 ?_
  refine lc_iload_n 1 dX3_isOff_4 rfl ?_
  refine lc_ishr dX3_isOff_5 ?_
  refine lc_iconst (v := 1) dX3_isOff_6 (by decide) ?_
  refine lc_iand dX3_isOff_7 ?_
  refine lc_iconst (v := 1) dX3_isOff_8 (by decide) ?_
  refine lc_icmp_ne 16 dX3_isOff_9 (by decide) (fun c_1 => ?_) (fun c_1 => ?_)
  · skip
    refine lc_iconst (v := 0) dX3_isOff_16 (by decide) ?_
    exact lc_zret hR dX3_isOff_17 (by simp [sp_bit, lc_bi, c_1]) (rfl)
  · skip
    refine lc_iconst (v := 1) dX3_isOff_12 (by decide) ?_
    refine lc_goto 17 dX3_isOff_13 (by decide) ?_
    exact lc_zret hR dX3_isOff_17 (by simp [sp_bit, lc_bi, c_1]) (rfl)

set_option maxRecDepth 100000 in
set_option maxHeartbeats 4000000 in
theorem c_X3_itemAt (l : Launch) (G : lc_G) (σ : lc_S) (j : Nat) (a k : Nat) (hj : j < 2) (ha : a < 6) (hk : k < 4) : lc_M l G yX3_itemAt cX3_itemAt 3 (some (.object "LateCopies$Item")) { frames := 0, cells := 0, slots := 0, locals := 0 } [.ref (G.1 (4 + j)), .int (nI a), .int (nI k)] (σ) (some (.ref (G.1 (lc_it j (4 * a + k))))) (σ) := by
  refine lc_entry [(0, .ref (G.1 (4 + j))), (1, .int (nI a)), (2, .int (nI k))] (by decide) (Nat.le_of_ble_eq_true rfl) rfl rfl rfl ?_
  intro Γ hR
  refine lc_aload_n 0 dX3_itemAt_0 rfl ?_
  refine lc_gWIts j (by omega) fl_X3_20 dX3_itemAt_1 ?_
  refine lc_iload_n 1 dX3_itemAt_4 rfl ?_
  refine lc_iconst (v := 4) dX3_itemAt_5 (by decide) ?_
  refine lc_imul dX3_itemAt_6 ?_
  refine lc_iload_n 2 dX3_itemAt_7 rfl ?_
  refine lc_iadd dX3_itemAt_8 ?_
  refine lc_aald j (4 * a + k) (by omega) (lc_m4ra a k) (by omega) dX3_itemAt_9 ?_
  exact lc_aret hR dX3_itemAt_10 (rfl) (rfl)

set_option maxRecDepth 100000 in
set_option maxHeartbeats 4000000 in
theorem c_X3_isDormant (l : Launch) (G : lc_G) (σ : lc_S) (j : Nat) (x : lc_X) (i : Nat) (hj : j < 2) (hi : i < 24) : lc_M l G yX3_isDormant cX3_isDormant 2 (some .boolean) { frames := 0, cells := 0, slots := 0, locals := 0 } [.ref (G.1 (4 + j)), .ref (G.1 (lc_it j i))] (lc_w σ j x) (some (.int (lc_bi (sp_dor x.1 i)))) (lc_w σ j x) := by
  refine lc_entry [(0, .ref (G.1 (4 + j))), (1, .ref (G.1 (lc_it j i)))] (by decide) (Nat.le_of_ble_eq_true rfl) rfl rfl rfl ?_
  intro Γ hR
  refine lc_aload_n 1 dX3_isDormant_0 rfl ?_
  refine lc_gIw j i 0 (by omega) (by omega) (by decide) fl_X3_87 dX3_isDormant_1 ?_
  refine lc_iconst (v := 2) dX3_isDormant_4 (by decide) ?_
  refine lc_icmp_ne 30 dX3_isDormant_5 (by decide) (fun c_1 => ?_) (fun c_1 => ?_)
  · skip
    refine lc_iconst (v := 0) dX3_isDormant_30 (by decide) ?_
    exact lc_zret hR dX3_isDormant_31 (by simp [sp_dor, lc_bi, c_1]) (rfl)
  · skip
    refine lc_aload_n 0 dX3_isDormant_8 rfl ?_
    refine lc_gWNow j (by omega) fl_X3_37 dX3_isDormant_9 ?_
    refine lc_aload_n 1 dX3_isDormant_12 rfl ?_
    refine lc_gIw j i 3 (by omega) (by omega) (by decide) fl_X3_90 dX3_isDormant_13 ?_
    refine lc_isub dX3_isDormant_16 ?_
    refine lc_aload_n 0 dX3_isDormant_17 rfl ?_
    refine lc_gWLim j (by omega) fl_X3_9 dX3_isDormant_18 ?_
    refine lc_iconst (v := 0) dX3_isDormant_21 (by decide) ?_
    refine lc_iald (6 + j) 0 (by omega) (lc_eLim j (by omega)) (rfl) (by omega) (by decide) dX3_isDormant_22 ?_
    refine lc_icmp_le 30 dX3_isDormant_23 (by decide) (fun c_2 => ?_) (fun c_2 => ?_)
    · skip
      refine lc_iconst (v := 0) dX3_isDormant_30 (by decide) ?_
      exact lc_zret hR dX3_isDormant_31 (by simp [sp_dor, lc_bi, c_1, c_2]) (rfl)
    · skip
      refine lc_iconst (v := 1) dX3_isDormant_26 (by decide) ?_
      refine lc_goto 31 dX3_isDormant_27 (by decide) ?_
      exact lc_zret hR dX3_isDormant_31 (by simp [sp_dor, lc_bi, c_1, c_2]) (rfl)

set_option maxRecDepth 100000 in
set_option maxHeartbeats 4000000 in
theorem c_X3_isAwake (l : Launch) (G : lc_G) (σ : lc_S) (j : Nat) (x : lc_X) (i : Nat) (hj : j < 2) (hi : i < 24) : lc_M l G yX3_isAwake cX3_isAwake 2 (some .boolean) { frames := 0, cells := 0, slots := 0, locals := 0 } [.ref (G.1 (4 + j)), .ref (G.1 (lc_it j i))] (lc_w σ j x) (some (.int (lc_bi (sp_aw x.1 i)))) (lc_w σ j x) := by
  refine lc_entry [(0, .ref (G.1 (4 + j))), (1, .ref (G.1 (lc_it j i)))] (by decide) (Nat.le_of_ble_eq_true rfl) rfl rfl rfl ?_
  intro Γ hR
  refine lc_aload_n 1 dX3_isAwake_0 rfl ?_
  refine lc_gIw j i 0 (by omega) (by omega) (by decide) fl_X3_87 dX3_isAwake_1 ?_
  refine lc_iconst (v := 1) dX3_isAwake_4 (by decide) ?_
  refine lc_icmp_eq 34 dX3_isAwake_5 (by decide) (fun c_1 => ?_) (fun c_1 => ?_)
  · skip
    refine lc_iconst (v := 1) dX3_isAwake_34 (by decide) ?_
    refine lc_goto 39 dX3_isAwake_35 (by decide) ?_
    exact lc_zret hR dX3_isAwake_39 (by simp [sp_aw, lc_bi, c_1]) (rfl)
  · skip
    refine lc_aload_n 1 dX3_isAwake_8 rfl ?_
    refine lc_gIw j i 0 (by omega) (by omega) (by decide) fl_X3_87 dX3_isAwake_9 ?_
    refine lc_iconst (v := 2) dX3_isAwake_12 (by decide) ?_
    refine lc_icmp_ne 38 dX3_isAwake_13 (by decide) (fun c_2 => ?_) (fun c_2 => ?_)
    · skip
      refine lc_iconst (v := 0) dX3_isAwake_38 (by decide) ?_
      exact lc_zret hR dX3_isAwake_39 (by simp [sp_aw, lc_bi, c_1, c_2]) (rfl)
    · skip
      refine lc_aload_n 0 dX3_isAwake_16 rfl ?_
      refine lc_gWNow j (by omega) fl_X3_37 dX3_isAwake_17 ?_
      refine lc_aload_n 1 dX3_isAwake_20 rfl ?_
      refine lc_gIw j i 3 (by omega) (by omega) (by decide) fl_X3_90 dX3_isAwake_21 ?_
      refine lc_isub dX3_isAwake_24 ?_
      refine lc_aload_n 0 dX3_isAwake_25 rfl ?_
      refine lc_gWLim j (by omega) fl_X3_9 dX3_isAwake_26 ?_
      refine lc_iconst (v := 0) dX3_isAwake_29 (by decide) ?_
      refine lc_iald (6 + j) 0 (by omega) (lc_eLim j (by omega)) (rfl) (by omega) (by decide) dX3_isAwake_30 ?_
      refine lc_icmp_gt 38 dX3_isAwake_31 (by decide) (fun c_3 => ?_) (fun c_3 => ?_)
      · skip
        refine lc_iconst (v := 0) dX3_isAwake_38 (by decide) ?_
        exact lc_zret hR dX3_isAwake_39 (by simp [sp_aw, lc_bi, c_1, c_2, c_3]) (rfl)
      · skip
        refine lc_iconst (v := 1) dX3_isAwake_34 (by decide) ?_
        refine lc_goto 39 dX3_isAwake_35 (by decide) ?_
        exact lc_zret hR dX3_isAwake_39 (by simp [sp_aw, lc_bi, c_1, c_2, c_3]) (rfl)
