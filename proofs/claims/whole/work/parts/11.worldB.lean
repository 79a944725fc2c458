set_option maxRecDepth 100000 in
set_option maxHeartbeats 4000000 in
theorem c_X3_othersOf (l : Launch) (G : lc_G) (σ : lc_S) (j : Nat) (x : lc_X) (s : Int32) (hj : j < 2) : lc_M l G yX3_othersOf cX3_othersOf 2 (some .int) { frames := 0, cells := 0, slots := 0, locals := 0 } [.ref (G.1 (4 + j)), .int (s)] (lc_w σ j x) (some (.int (sp_oth s (x.1 7 0)))) (lc_w σ j x) := by
  refine lc_entry [(0, .ref (G.1 (4 + j))), (1, .int (s))] (by decide) (Nat.le_of_ble_eq_true rfl) rfl rfl rfl ?_
  intro Γ hR
  refine lc_iconst (v := 1) dX3_othersOf_0 (by decide) ?_
  refine lc_aload_n 0 dX3_othersOf_1 rfl ?_
  refine lc_gWSites j (by omega) fl_X3_34 dX3_othersOf_2 ?_
  refine lc_ishl dX3_othersOf_5 ?_
  refine lc_iconst (v := 1) dX3_othersOf_6 (by decide) ?_
  refine lc_isub dX3_othersOf_7 ?_
  refine lc_iconst (v := 1) dX3_othersOf_8 (by decide) ?_
  refine lc_iload_n 1 dX3_othersOf_9 rfl ?_
  refine lc_ishl dX3_othersOf_10 ?_
  refine lc_iconst (v := (-1)) dX3_othersOf_11 (by decide) ?_
  refine lc_ixor dX3_othersOf_12 ?_
  refine lc_iand dX3_othersOf_13 ?_
  exact lc_iret hR dX3_othersOf_14 (rfl) (rfl)

set_option maxRecDepth 100000 in
set_option maxHeartbeats 4000000 in
theorem c_X3_othersOn (l : Launch) (G : lc_G) (σ : lc_S) (j : Nat) (x : lc_X) (s : Int32) (hj : j < 2) : lc_M l G yX3_othersOn cX3_othersOn 2 (some .int) { frames := 1, cells := 0, slots := 0, locals := 21 } [.ref (G.1 (4 + j)), .int (s)] (lc_w σ j x) (some (.int (sp_othOn x.1 s))) (lc_w σ j x) := by
  refine lc_entry [(0, .ref (G.1 (4 + j))), (1, .int (s))] (by decide) (Nat.le_of_ble_eq_true rfl) rfl rfl rfl ?_
  intro Γ hR
  refine lc_aload_n 0 dX3_othersOn_0 rfl ?_
  refine lc_iload_n 1 dX3_othersOn_1 rfl ?_
  refine lc_callV (4 + j) (c_X3_othersOf l G σ j x s (by omega)) hR.2.2.2.1 hR.2.2.2.2 mt_X3_othersOf (by omega) (lc_eW j (by omega)) rfl ml_X3_111 rfl rfl (Nat.le_of_ble_eq_true rfl) ⟨⟨rfl, rfl⟩, Nat.le_of_ble_eq_true rfl, Nat.le_of_ble_eq_true rfl⟩ dX3_othersOn_2 ?_
  show lc_V _ _ _ _ _ 5 _ [.int (sp_oth s (x.1 7 0))] (lc_w σ j x)
  refine lc_aload_n 0 dX3_othersOn_5 rfl ?_
  refine lc_gWOff j (by omega) fl_X3_40 dX3_othersOn_6 ?_
  refine lc_iconst (v := (-1)) dX3_othersOn_9 (by decide) ?_
  refine lc_ixor dX3_othersOn_10 ?_
  refine lc_iand dX3_othersOn_11 ?_
  exact lc_iret hR dX3_othersOn_12 (rfl) (rfl)

set_option maxRecDepth 100000 in
set_option maxHeartbeats 4000000 in
theorem c_J6_bitCount_0f7a4 (l : Launch) (G : lc_G) (σ : lc_S) (v : Int32) : lc_M l G yJ6_bitCount_0f7a4 cJ6_bitCount_0f7a4 1 (some .int) { frames := 0, cells := 0, slots := 0, locals := 0 } [.int (v)] (σ) (some (.int (sp_bc v))) (σ) := by
  refine lc_entry [(0, .int (v))] (by decide) (Nat.le_of_ble_eq_true rfl) rfl rfl rfl ?_
  intro Γ hR
  refine lc_iload_n 0 dJ6_bitCount_0f7a4_0 rfl ?_
  refine lc_iload_n 0 dJ6_bitCount_0f7a4_1 rfl ?_
  refine lc_iconst (v := 1) dJ6_bitCount_0f7a4_2 (by decide) ?_
  refine lc_iushr dJ6_bitCount_0f7a4_3 ?_
  refine lc_ldcw kc_J6_265 dJ6_bitCount_0f7a4_4 ?_
  refine lc_iand dJ6_bitCount_0f7a4_7 ?_
  refine lc_isub dJ6_bitCount_0f7a4_8 ?_
  refine lc_topi (sp_b1 v) rfl ?_
  refine lc_istore_n [(0, .int (sp_b1 v))] dJ6_bitCount_0f7a4_9 (by decide) rfl ?_
  refine lc_iload_n 0 dJ6_bitCount_0f7a4_10 rfl ?_
  refine lc_ldcw kc_J6_266 dJ6_bitCount_0f7a4_11 ?_
  refine lc_iand dJ6_bitCount_0f7a4_14 ?_
  refine lc_iload_n 0 dJ6_bitCount_0f7a4_15 rfl ?_
  refine lc_iconst (v := 2) dJ6_bitCount_0f7a4_16 (by decide) ?_
  refine lc_iushr dJ6_bitCount_0f7a4_17 ?_
  refine lc_ldcw kc_J6_266 dJ6_bitCount_0f7a4_18 ?_
  refine lc_iand dJ6_bitCount_0f7a4_21 ?_
  refine lc_iadd dJ6_bitCount_0f7a4_22 ?_
  refine lc_topi (sp_b2 (sp_b1 v)) rfl ?_
  refine lc_istore_n [(0, .int (sp_b2 (sp_b1 v)))] dJ6_bitCount_0f7a4_23 (by decide) rfl ?_
  refine lc_iload_n 0 dJ6_bitCount_0f7a4_24 rfl ?_
  refine lc_iload_n 0 dJ6_bitCount_0f7a4_25 rfl ?_
  refine lc_iconst (v := 4) dJ6_bitCount_0f7a4_26 (by decide) ?_
  refine lc_iushr dJ6_bitCount_0f7a4_27 ?_
  refine lc_iadd dJ6_bitCount_0f7a4_28 ?_
  refine lc_ldcw kc_J6_267 dJ6_bitCount_0f7a4_29 ?_
  refine lc_iand dJ6_bitCount_0f7a4_32 ?_
  refine lc_topi (sp_b3 (sp_b2 (sp_b1 v))) rfl ?_
  refine lc_istore_n [(0, .int (sp_b3 (sp_b2 (sp_b1 v))))] dJ6_bitCount_0f7a4_33 (by decide) rfl ?_
  refine lc_iload_n 0 dJ6_bitCount_0f7a4_34 rfl ?_
  refine lc_iload_n 0 dJ6_bitCount_0f7a4_35 rfl ?_
  refine lc_bipush (v := 8) dJ6_bitCount_0f7a4_36 (by decide) ?_
  refine lc_iushr dJ6_bitCount_0f7a4_38 ?_
  refine lc_iadd dJ6_bitCount_0f7a4_39 ?_
  refine lc_topi (sp_b4 (sp_b3 (sp_b2 (sp_b1 v)))) rfl ?_
  refine lc_istore_n [(0, .int (sp_b4 (sp_b3 (sp_b2 (sp_b1 v)))))] dJ6_bitCount_0f7a4_40 (by decide) rfl ?_
  refine lc_iload_n 0 dJ6_bitCount_0f7a4_41 rfl ?_
  refine lc_iload_n 0 dJ6_bitCount_0f7a4_42 rfl ?_
  refine lc_bipush (v := 16) dJ6_bitCount_0f7a4_43 (by decide) ?_
  refine lc_iushr dJ6_bitCount_0f7a4_45 ?_
  refine lc_iadd dJ6_bitCount_0f7a4_46 ?_
  refine lc_topi (sp_b5 (sp_b4 (sp_b3 (sp_b2 (sp_b1 v))))) rfl ?_
  refine lc_istore_n [(0, .int (sp_b5 (sp_b4 (sp_b3 (sp_b2 (sp_b1 v))))))] dJ6_bitCount_0f7a4_47 (by decide) rfl ?_
  refine lc_iload_n 0 dJ6_bitCount_0f7a4_48 rfl ?_
  refine lc_bipush (v := 63) dJ6_bitCount_0f7a4_49 (by decide) ?_
  refine lc_iand dJ6_bitCount_0f7a4_51 ?_
  exact lc_iret hR dJ6_bitCount_0f7a4_52 (rfl) (rfl)

set_option maxRecDepth 100000 in
set_option maxHeartbeats 4000000 in
theorem c_X3_weightOf (l : Launch) (G : lc_G) (σ : lc_S) (v : Int32) : lc_M l G yX3_weightOf cX3_weightOf 3 (some .int) { frames := 0, cells := 0, slots := 0, locals := 0 } [.int (v)] (σ) (some (.int (sp_wt v))) (σ) := by
  refine lc_entry [(0, .int (v))] (by decide) (Nat.le_of_ble_eq_true rfl) rfl rfl rfl ?_
  intro Γ hR
  refine lc_iconst (v := 0) dX3_weightOf_0 (by decide) ?_
  refine lc_istore_n [(1, .int (0)), (0, .int (v))] dX3_weightOf_1 (by decide) rfl ?_
  refine lc_iconst (v := 0) dX3_weightOf_2 (by decide) ?_
  refine lc_istore_n [(2, .int (0)), (1, .int (0)), (0, .int (v))] dX3_weightOf_3 (by decide) rfl ?_
  refine lc_lv (lv' := [(0, .int (v)), (1, .int (0)), (2, .int (0))]) [2, 1, 0] rfl ?_
  refine lc_forS (α := Int32) (fun i z => lc_V G Γ cX3_weightOf 3 RX3 4 [(0, .int (v)), (1, .int (z)), (2, .int (nI i))] [] (σ)) (fun z => lc_V G Γ cX3_weightOf 3 RX3 31 [(1, .int (z))] [] (σ)) (sp_wt1 v) 5 (fun i _ => decide (v ≤ nI i)) (fun i z hi h => ⟨by simp only [sp_wt1, if_pos (of_decide_eq_true h)], by rw [decide_eq_true_eq] at h ⊢; exact Int32.le_trans h (nI_le (by omega) (by omega))⟩) (fun i z hi ki ei => ?_) (fun z ei => ?_) 0 ?_
  · skip
    show lc_V G Γ cX3_weightOf 3 RX3 4 [(0, .int (v)), (1, .int (z)), (2, .int (nI i))] [] (σ)
    refine lc_iload_n 2 dX3_weightOf_4 rfl ?_
    refine lc_gsWEI fl_X3_179 dX3_weightOf_5 ?_
    refine lc_slWEI dX3_weightOf_8 ?_
    refine lc_icmp_ge 31 dX3_weightOf_9 (by decide) (fun h => absurd h.1 (by exact nI_ge (b := 5) hi (by omega))) (fun _ => ?_)
    refine lc_iload_n 2 dX3_weightOf_12 rfl ?_
    refine lc_iload_n 0 dX3_weightOf_13 rfl ?_
    refine lc_icmp_ge 31 dX3_weightOf_14 (by decide) (fun c_2 => ?_) (fun c_2 => ?_)
    · skip
      refine lc_lv (lv' := [(1, .int (z))]) [1] rfl ?_
      exact ei (decide_eq_true c_2.1)
    · skip
      refine lc_iload_n 1 dX3_weightOf_17 rfl ?_
      refine lc_gsWEI fl_X3_179 dX3_weightOf_18 ?_
      refine lc_iload_n 2 dX3_weightOf_21 rfl ?_
      refine lc_saWEI i (rfl) (by omega) dX3_weightOf_22 ?_
      refine lc_iadd dX3_weightOf_23 ?_
      refine lc_istore_n [(1, .int ((z + (lc_wei i)))), (0, .int (v)), (2, .int (nI i))] dX3_weightOf_24 (by decide) rfl ?_
      refine lc_iinc 2 (nI (i + 1)) [(2, .int (nI (i + 1))), (1, .int ((z + (lc_wei i)))), (0, .int (v))] dX3_weightOf_25 rfl (lc_inc1 i) (by decide) rfl ?_
      refine lc_goto 4 dX3_weightOf_28 (by decide) ?_
      refine lc_lv (lv' := [(0, .int (v)), (1, .int ((z + (lc_wei i)))), (2, .int (nI (i + 1)))]) [2, 1, 0] rfl ?_
      have ki := ki (decide_eq_false c_2.2)
      rw [show (sp_wt1 v) i z = (z + (lc_wei i)) from by simp only [sp_wt1, if_neg c_2.2]] at ki
      exact ki
  · skip
    show lc_V G Γ cX3_weightOf 3 RX3 4 [(0, .int (v)), (1, .int (z)), (2, .int (nI 5))] [] (σ)
    refine lc_iload_n 2 dX3_weightOf_4 rfl ?_
    refine lc_gsWEI fl_X3_179 dX3_weightOf_5 ?_
    refine lc_slWEI dX3_weightOf_8 ?_
    refine lc_icmp_ge 31 dX3_weightOf_9 (by decide) (fun _ => ?_) (fun h => absurd h.1 (by exact nI_nlt (a := 5) (b := 5) (Nat.le_refl _) (by omega)))
    refine lc_lv (lv' := [(1, .int (z))]) [1] rfl ?_
    exact ei
  · skip
    show lc_V G Γ _ _ _ 31 [(1, .int (sp_wt v))] [] (σ)
    refine lc_iload_n 0 dX3_weightOf_31 rfl ?_
    exact lc_iret hR dX3_weightOf_32 (rfl) (rfl)

set_option maxRecDepth 100000 in
set_option maxHeartbeats 4000000 in
theorem c_X3_nearest (l : Launch) (G : lc_G) (σ : lc_S) (j : Nat) (x : lc_X) (n a : Nat) (m : Int32) (hj : j < 2) (hn : n ≤ 6) (ha : a < 6) (hs : x.1 7 0 = nI n) : lc_M l G yX3_nearest cX3_nearest 8 (some .int) { frames := 1, cells := 0, slots := 0, locals := 13 } [.ref (G.1 (4 + j)), .int (nI a), .int (m)] (lc_w σ j x) (some (.int (sp_on (sp_nears (σ.2.1 (6 + j)) a m n).1))) (lc_w σ j x) := by
  refine lc_entry [(0, .ref (G.1 (4 + j))), (1, .int (nI a)), (2, .int (m))] (by decide) (Nat.le_of_ble_eq_true rfl) rfl rfl rfl ?_
  intro Γ hR
  refine lc_iconst (v := (-1)) dX3_nearest_0 (by decide) ?_
  refine lc_istore_n [(3, .int ((-1))), (0, .ref (G.1 (4 + j))), (1, .int (nI a)), (2, .int (m))] dX3_nearest_1 (by decide) rfl ?_
  refine lc_iconst (v := 0) dX3_nearest_2 (by decide) ?_
  refine lc_istore [(4, .int (0)), (3, .int ((-1))), (0, .ref (G.1 (4 + j))), (1, .int (nI a)), (2, .int (m))] dX3_nearest_3 (by decide) rfl ?_
  refine lc_iconst (v := 0) dX3_nearest_5 (by decide) ?_
  refine lc_istore [(5, .int (0)), (4, .int (0)), (3, .int ((-1))), (0, .ref (G.1 (4 + j))), (1, .int (nI a)), (2, .int (m))] dX3_nearest_6 (by decide) rfl ?_
  refine lc_lv (lv' := [(0, .ref (G.1 (4 + j))), (1, .int (nI a)), (2, .int (m)), (3, .int ((-1))), (4, .int (0)), (5, .int (0))]) [3, 4, 5, 2, 1, 0] rfl ?_
  refine lc_forI (α := Option Nat × Int32) (fun i z => lc_V G Γ _ _ _ 8 [(0, .ref (G.1 (4 + j))), (1, .int (nI a)), (2, .int (m)), (3, .int (sp_on z.1)), (4, .int z.2), (5, .int (nI i))] [] (lc_w σ j x)) (fun i z => ∀ b, z.1 = some b → b < i) (sp_near (σ.2.1 (6 + j)) a m) n (fun i z _ h => sp_near_I _ _ _ _ _ h) (fun i z hi hIi ki => ?_) (none, 0) (fun b h => by cases h) (fun _ => ?_)
  · skip
    rcases z with ⟨_ | b, d⟩
    · skip
      show lc_V G Γ _ _ _ 8 [(0, .ref (G.1 (4 + j))), (1, .int (nI a)), (2, .int (m)), (3, .int ((-1))), (4, .int (d)), (5, .int (nI i))] [] (lc_w σ j x)
      refine lc_iload 5 dX3_nearest_8 rfl ?_
      refine lc_aload_n 0 dX3_nearest_10 rfl ?_
      refine lc_gWSites j (by omega) fl_X3_34 dX3_nearest_11 ?_
      refine lc_icmp_ge 83 dX3_nearest_14 (by decide) (fun h => absurd h.1 (by rw [hs]; exact nI_ge (b := n) hi (by omega))) (fun _ => ?_)
      refine lc_aload_n 0 dX3_nearest_17 rfl ?_
      refine lc_gWPos j (by omega) fl_X3_15 dX3_nearest_18 ?_
      refine lc_iload 5 dX3_nearest_21 rfl ?_
      refine lc_iald (8 + j) i (by omega) (lc_ePosw j (by omega)) (rfl) (by omega) (by decide) dX3_nearest_23 ?_
      refine lc_aload_n 0 dX3_nearest_24 rfl ?_
      refine lc_gWPos j (by omega) fl_X3_15 dX3_nearest_25 ?_
      refine lc_iload_n 1 dX3_nearest_28 rfl ?_
      refine lc_iald (8 + j) a (by omega) (lc_ePosw j (by omega)) (rfl) (by omega) (by decide) dX3_nearest_29 ?_
      refine lc_isub dX3_nearest_30 ?_
      refine lc_mabs rfl (by rw [hR.2.2.2.2]; exact ⟨Nat.le_of_ble_eq_true rfl, Nat.le_of_ble_eq_true rfl⟩) dX3_nearest_31 ?_
      refine lc_istore [(6, .int (sp_abs (((σ.2.1 (6 + j) i) - (σ.2.1 (6 + j) a))))), (0, .ref (G.1 (4 + j))), (1, .int (nI a)), (2, .int (m)), (3, .int ((-1))), (4, .int (d)), (5, .int (nI i))] dX3_nearest_34 (by decide) rfl ?_
      refine lc_iload_n 3 dX3_nearest_36 rfl ?_
      refine lc_iload 6 dX3_nearest_37 rfl ?_
      refine lc_ishr dX3_nearest_39 ?_
      refine lc_iconst (v := 1) dX3_nearest_40 (by decide) ?_
      refine lc_iand dX3_nearest_41 ?_
      refine lc_iconst (v := 1) dX3_nearest_42 (by decide) ?_
      refine lc_icmp_ne 50 dX3_nearest_43 (by decide) (fun c_2 => ?_) (fun c_2 => ?_)
      · skip
        refine lc_iconst (v := 0) dX3_nearest_50 (by decide) ?_
        refine lc_istore [(7, .int (0)), (6, .int (sp_abs (((σ.2.1 (6 + j) i) - (σ.2.1 (6 + j) a))))), (0, .ref (G.1 (4 + j))), (1, .int (nI a)), (2, .int (m)), (3, .int ((-1))), (4, .int (d)), (5, .int (nI i))] dX3_nearest_51 (by decide) rfl ?_
        refine lc_iload 0 dX3_nearest_53 rfl ?_
        refine lc_if_eq 77 dX3_nearest_55 (by decide) (fun _ => ?_) (fun h => absurd h (by decide))
        refine lc_iinc 7 (nI (i + 1)) [(5, .int (nI (i + 1))), (7, .int (0)), (6, .int (sp_abs (((σ.2.1 (6 + j) i) - (σ.2.1 (6 + j) a))))), (0, .ref (G.1 (4 + j))), (1, .int (nI a)), (2, .int (m)), (3, .int ((-1))), (4, .int (d))] dX3_nearest_77 rfl (lc_inc1 i) (by decide) rfl ?_
        refine lc_goto 8 dX3_nearest_80 (by decide) ?_
        refine lc_lv (lv' := [(0, .ref (G.1 (4 + j))), (1, .int (nI a)), (2, .int (m)), (3, .int ((-1))), (4, .int (d)), (5, .int (nI (i + 1)))]) [3, 4, 5, 6, 7, 0] rfl ?_
        rw [show sp_near (σ.2.1 (6 + j)) a m i (none, d) = (none, d) from by simp [sp_near, sp_bit, c_2]] at ki
        exact ki
      · skip
        refine lc_iconst (v := 1) dX3_nearest_46 (by decide) ?_
        refine lc_goto 51 dX3_nearest_47 (by decide) ?_
        refine lc_istore [(7, .int (1)), (6, .int (sp_abs (((σ.2.1 (6 + j) i) - (σ.2.1 (6 + j) a))))), (0, .ref (G.1 (4 + j))), (1, .int (nI a)), (2, .int (m)), (3, .int ((-1))), (4, .int (d)), (5, .int (nI i))] dX3_nearest_51 (by decide) rfl ?_
        refine lc_iload 0 dX3_nearest_53 rfl ?_
        refine lc_if_eq 77 dX3_nearest_55 (by decide) (fun h => absurd h (by decide)) (fun _ => ?_)
        refine lc_iload_n 5 dX3_nearest_58 rfl ?_
        refine lc_iconst (v := (-1)) dX3_nearest_59 (by decide) ?_
        refine lc_icmp_eq 70 dX3_nearest_60 (by decide) (fun _ => ?_) (fun h => absurd h (by decide))
        refine lc_iload 7 dX3_nearest_70 rfl ?_
        refine lc_istore_n [(3, .int (nI i)), (7, .int (1)), (6, .int (sp_abs (((σ.2.1 (6 + j) i) - (σ.2.1 (6 + j) a))))), (0, .ref (G.1 (4 + j))), (1, .int (nI a)), (2, .int (m)), (4, .int (d)), (5, .int (nI i))] dX3_nearest_72 (by decide) rfl ?_
        refine lc_iload 2 dX3_nearest_73 rfl ?_
        refine lc_istore [(4, .int (sp_abs (((σ.2.1 (6 + j) i) - (σ.2.1 (6 + j) a))))), (3, .int (nI i)), (7, .int (1)), (6, .int (sp_abs (((σ.2.1 (6 + j) i) - (σ.2.1 (6 + j) a))))), (0, .ref (G.1 (4 + j))), (1, .int (nI a)), (2, .int (m)), (5, .int (nI i))] dX3_nearest_75 (by decide) rfl ?_
        refine lc_iinc 7 (nI (i + 1)) [(5, .int (nI (i + 1))), (4, .int (sp_abs (((σ.2.1 (6 + j) i) - (σ.2.1 (6 + j) a))))), (3, .int (nI i)), (7, .int (1)), (6, .int (sp_abs (((σ.2.1 (6 + j) i) - (σ.2.1 (6 + j) a))))), (0, .ref (G.1 (4 + j))), (1, .int (nI a)), (2, .int (m))] dX3_nearest_77 rfl (lc_inc1 i) (by decide) rfl ?_
        refine lc_goto 8 dX3_nearest_80 (by decide) ?_
        refine lc_lv (lv' := [(0, .ref (G.1 (4 + j))), (1, .int (nI a)), (2, .int (m)), (3, .int (nI i)), (4, .int (sp_abs (((σ.2.1 (6 + j) i) - (σ.2.1 (6 + j) a))))), (5, .int (nI (i + 1)))]) [5, 6, 7, 2, 1, 0] rfl ?_
        rw [show sp_near (σ.2.1 (6 + j)) a m i (none, d) = (some i, sp_abs (((σ.2.1 (6 + j) i) - (σ.2.1 (6 + j) a)))) from by simp [sp_near, sp_bit, c_2]] at ki
        exact ki
    · skip
      have hbb : b < 2 ^ 31 := by have := hIi b rfl; omega
      show lc_V G Γ _ _ _ 8 [(0, .ref (G.1 (4 + j))), (1, .int (nI a)), (2, .int (m)), (3, .int (nI b)), (4, .int (d)), (5, .int (nI i))] [] (lc_w σ j x)
      refine lc_iload 5 dX3_nearest_8 rfl ?_
      refine lc_aload_n 0 dX3_nearest_10 rfl ?_
      refine lc_gWSites j (by omega) fl_X3_34 dX3_nearest_11 ?_
      refine lc_icmp_ge 83 dX3_nearest_14 (by decide) (fun h => absurd h.1 (by rw [hs]; exact nI_ge (b := n) hi (by omega))) (fun _ => ?_)
      refine lc_aload_n 0 dX3_nearest_17 rfl ?_
      refine lc_gWPos j (by omega) fl_X3_15 dX3_nearest_18 ?_
      refine lc_iload 5 dX3_nearest_21 rfl ?_
      refine lc_iald (8 + j) i (by omega) (lc_ePosw j (by omega)) (rfl) (by omega) (by decide) dX3_nearest_23 ?_
      refine lc_aload_n 0 dX3_nearest_24 rfl ?_
      refine lc_gWPos j (by omega) fl_X3_15 dX3_nearest_25 ?_
      refine lc_iload_n 1 dX3_nearest_28 rfl ?_
      refine lc_iald (8 + j) a (by omega) (lc_ePosw j (by omega)) (rfl) (by omega) (by decide) dX3_nearest_29 ?_
      refine lc_isub dX3_nearest_30 ?_
      refine lc_mabs rfl (by rw [hR.2.2.2.2]; exact ⟨Nat.le_of_ble_eq_true rfl, Nat.le_of_ble_eq_true rfl⟩) dX3_nearest_31 ?_
      refine lc_istore [(6, .int (sp_abs (((σ.2.1 (6 + j) i) - (σ.2.1 (6 + j) a))))), (0, .ref (G.1 (4 + j))), (1, .int (nI a)), (2, .int (m)), (3, .int (nI b)), (4, .int (d)), (5, .int (nI i))] dX3_nearest_34 (by decide) rfl ?_
      refine lc_iload_n 3 dX3_nearest_36 rfl ?_
      refine lc_iload 6 dX3_nearest_37 rfl ?_
      refine lc_ishr dX3_nearest_39 ?_
      refine lc_iconst (v := 1) dX3_nearest_40 (by decide) ?_
      refine lc_iand dX3_nearest_41 ?_
      refine lc_iconst (v := 1) dX3_nearest_42 (by decide) ?_
      refine lc_icmp_ne 50 dX3_nearest_43 (by decide) (fun c_7 => ?_) (fun c_7 => ?_)
      · skip
        refine lc_iconst (v := 0) dX3_nearest_50 (by decide) ?_
        refine lc_istore [(7, .int (0)), (6, .int (sp_abs (((σ.2.1 (6 + j) i) - (σ.2.1 (6 + j) a))))), (0, .ref (G.1 (4 + j))), (1, .int (nI a)), (2, .int (m)), (3, .int (nI b)), (4, .int (d)), (5, .int (nI i))] dX3_nearest_51 (by decide) rfl ?_
        refine lc_iload 0 dX3_nearest_53 rfl ?_
        refine lc_if_eq 77 dX3_nearest_55 (by decide) (fun _ => ?_) (fun h => absurd h (by decide))
        refine lc_iinc 7 (nI (i + 1)) [(5, .int (nI (i + 1))), (7, .int (0)), (6, .int (sp_abs (((σ.2.1 (6 + j) i) - (σ.2.1 (6 + j) a))))), (0, .ref (G.1 (4 + j))), (1, .int (nI a)), (2, .int (m)), (3, .int (nI b)), (4, .int (d))] dX3_nearest_77 rfl (lc_inc1 i) (by decide) rfl ?_
        refine lc_goto 8 dX3_nearest_80 (by decide) ?_
        refine lc_lv (lv' := [(0, .ref (G.1 (4 + j))), (1, .int (nI a)), (2, .int (m)), (3, .int (nI b)), (4, .int (d)), (5, .int (nI (i + 1)))]) [3, 4, 5, 6, 7, 0] rfl ?_
        rw [show sp_near (σ.2.1 (6 + j)) a m i (some b, d) = (some b, d) from by simp [sp_near, sp_bit, c_7]] at ki
        exact ki
      · skip
        refine lc_iconst (v := 1) dX3_nearest_46 (by decide) ?_
        refine lc_goto 51 dX3_nearest_47 (by decide) ?_
        refine lc_istore [(7, .int (1)), (6, .int (sp_abs (((σ.2.1 (6 + j) i) - (σ.2.1 (6 + j) a))))), (0, .ref (G.1 (4 + j))), (1, .int (nI a)), (2, .int (m)), (3, .int (nI b)), (4, .int (d)), (5, .int (nI i))] dX3_nearest_51 (by decide) rfl ?_
        refine lc_iload 0 dX3_nearest_53 rfl ?_
        refine lc_if_eq 77 dX3_nearest_55 (by decide) (fun h => absurd h (by decide)) (fun _ => ?_)
        refine lc_iload_n 5 dX3_nearest_58 rfl ?_
        refine lc_iconst (v := (-1)) dX3_nearest_59 (by decide) ?_
        refine lc_icmp_eq 70 dX3_nearest_60 (by decide) (fun h => (lc_nm1b hbb h).elim) (fun _ => ?_)
        refine lc_iload 1 dX3_nearest_63 rfl ?_
        refine lc_iload 6 dX3_nearest_65 rfl ?_
        refine lc_icmp_ge 77 dX3_nearest_67 (by decide) (fun c_11 => ?_) (fun c_11 => ?_)
        · skip
          refine lc_iinc 7 (nI (i + 1)) [(5, .int (nI (i + 1))), (7, .int (1)), (6, .int (sp_abs (((σ.2.1 (6 + j) i) - (σ.2.1 (6 + j) a))))), (0, .ref (G.1 (4 + j))), (1, .int (nI a)), (2, .int (m)), (3, .int (nI b)), (4, .int (d))] dX3_nearest_77 rfl (lc_inc1 i) (by decide) rfl ?_
          refine lc_goto 8 dX3_nearest_80 (by decide) ?_
          refine lc_lv (lv' := [(0, .ref (G.1 (4 + j))), (1, .int (nI a)), (2, .int (m)), (3, .int (nI b)), (4, .int (d)), (5, .int (nI (i + 1)))]) [3, 4, 5, 6, 7, 0] rfl ?_
          rw [show sp_near (σ.2.1 (6 + j)) a m i (some b, d) = (some b, d) from by simp [sp_near, sp_bit, c_7, c_11]] at ki
          exact ki
        · skip
          refine lc_iload 7 dX3_nearest_70 rfl ?_
          refine lc_istore_n [(3, .int (nI i)), (7, .int (1)), (6, .int (sp_abs (((σ.2.1 (6 + j) i) - (σ.2.1 (6 + j) a))))), (0, .ref (G.1 (4 + j))), (1, .int (nI a)), (2, .int (m)), (4, .int (d)), (5, .int (nI i))] dX3_nearest_72 (by decide) rfl ?_
          refine lc_iload 2 dX3_nearest_73 rfl ?_
          refine lc_istore [(4, .int (sp_abs (((σ.2.1 (6 + j) i) - (σ.2.1 (6 + j) a))))), (3, .int (nI i)), (7, .int (1)), (6, .int (sp_abs (((σ.2.1 (6 + j) i) - (σ.2.1 (6 + j) a))))), (0, .ref (G.1 (4 + j))), (1, .int (nI a)), (2, .int (m)), (5, .int (nI i))] dX3_nearest_75 (by decide) rfl ?_
          refine lc_iinc 7 (nI (i + 1)) [(5, .int (nI (i + 1))), (4, .int (sp_abs (((σ.2.1 (6 + j) i) - (σ.2.1 (6 + j) a))))), (3, .int (nI i)), (7, .int (1)), (6, .int (sp_abs (((σ.2.1 (6 + j) i) - (σ.2.1 (6 + j) a))))), (0, .ref (G.1 (4 + j))), (1, .int (nI a)), (2, .int (m))] dX3_nearest_77 rfl (lc_inc1 i) (by decide) rfl ?_
          refine lc_goto 8 dX3_nearest_80 (by decide) ?_
          refine lc_lv (lv' := [(0, .ref (G.1 (4 + j))), (1, .int (nI a)), (2, .int (m)), (3, .int (nI i)), (4, .int (sp_abs (((σ.2.1 (6 + j) i) - (σ.2.1 (6 + j) a))))), (5, .int (nI (i + 1)))]) [5, 6, 7, 2, 1, 0] rfl ?_
          rw [show sp_near (σ.2.1 (6 + j)) a m i (some b, d) = (some i, sp_abs (((σ.2.1 (6 + j) i) - (σ.2.1 (6 + j) a)))) from by simp [sp_near, sp_bit, c_7, c_11]] at ki
          exact ki
  · skip
    show lc_V G Γ _ _ _ 8 [(0, .ref (G.1 (4 + j))), (1, .int (nI a)), (2, .int (m)), (3, .int (sp_on (sp_nears (σ.2.1 (6 + j)) a m n).1)), (4, .int (sp_nears (σ.2.1 (6 + j)) a m n).2), (5, .int (nI n))] [] (lc_w σ j x)
    refine lc_iload 5 dX3_nearest_8 rfl ?_
    refine lc_aload_n 0 dX3_nearest_10 rfl ?_
    refine lc_gWSites j (by omega) fl_X3_34 dX3_nearest_11 ?_
    refine lc_icmp_ge 83 dX3_nearest_14 (by decide) (fun _ => ?_) (fun h => absurd h.1 (by rw [hs]; exact nI_nlt (a := n) (b := n) (Nat.le_refl _) (by omega)))
    refine lc_iload_n 3 dX3_nearest_83 rfl ?_
    exact lc_iret hR dX3_nearest_84 (rfl) (rfl)

set_option maxRecDepth 100000 in
set_option maxHeartbeats 4000000 in
theorem c_X3_keepersOf (l : Launch) (G : lc_G) (σ : lc_S) (j : Nat) (x : lc_X) (n a m : Nat) (hj : j < 2) (hn : n ≤ 6) (ha : a < 6) (hm : 1 ≤ m) (hm3 : m ≤ 3) (hs : x.1 7 0 = nI n) : lc_M l G yX3_keepersOf cX3_keepersOf 7 (some .int) { frames := 2, cells := 0, slots := 0, locals := 40 } [.ref (G.1 (4 + j)), .int (nI a), .int (nI m)] (lc_w σ j x) (some (.int (sp_keepC (σ.2.1 (6 + j)) a n m (sp_oth (nI a) (x.1 7 0))))) (lc_w σ j x) := by
  refine lc_entry [(0, .ref (G.1 (4 + j))), (1, .int (nI a)), (2, .int (nI m))] (by decide) (Nat.le_of_ble_eq_true rfl) rfl rfl rfl ?_
  intro Γ hR
  refine lc_iconst (v := 1) dX3_keepersOf_0 (by decide) ?_
  refine lc_iload_n 1 dX3_keepersOf_1 rfl ?_
  refine lc_ishl dX3_keepersOf_2 ?_
  refine lc_istore_n [(3, .int (((1 : Int32) <<< ((nI a) &&& 31)))), (0, .ref (G.1 (4 + j))), (1, .int (nI a)), (2, .int (nI m))] dX3_keepersOf_3 (by decide) rfl ?_
  refine lc_aload_n 1 dX3_keepersOf_4 rfl ?_
  refine lc_iload_n 2 dX3_keepersOf_5 rfl ?_
  refine lc_callV (4 + j) (c_X3_othersOf l G σ j x (nI a) (by omega)) hR.2.2.2.1 hR.2.2.2.2 mt_X3_othersOf (by omega) (lc_eW j (by omega)) rfl ml_X3_111 rfl rfl (Nat.le_of_ble_eq_true rfl) ⟨⟨rfl, rfl⟩, Nat.le_of_ble_eq_true rfl, Nat.le_of_ble_eq_true rfl⟩ dX3_keepersOf_6 ?_
  show lc_V _ _ _ _ _ 9 _ [.int (sp_oth (nI a) (x.1 7 0))] (lc_w σ j x)
  refine lc_istore [(4, .int (sp_oth (nI a) (x.1 7 0))), (3, .int (((1 : Int32) <<< ((nI a) &&& 31)))), (0, .ref (G.1 (4 + j))), (1, .int (nI a)), (2, .int (nI m))] dX3_keepersOf_9 (by decide) rfl ?_
  refine lc_iconst (v := 1) dX3_keepersOf_11 (by decide) ?_
  refine lc_istore [(5, .int (1)), (4, .int (sp_oth (nI a) (x.1 7 0))), (3, .int (((1 : Int32) <<< ((nI a) &&& 31)))), (0, .ref (G.1 (4 + j))), (1, .int (nI a)), (2, .int (nI m))] dX3_keepersOf_12 (by decide) rfl ?_
  refine lc_lv (lv' := [(0, .ref (G.1 (4 + j))), (1, .int (nI a)), (2, .int (nI m)), (3, .int (((1 : Int32) <<< ((nI a) &&& 31)))), (4, .int (sp_oth (nI a) (x.1 7 0))), (5, .int (1))]) [3, 4, 5, 2, 1, 0] rfl ?_
  refine lc_forS (α := Int32 × Int32) (fun i z => lc_V G Γ cX3_keepersOf 7 RX3 14 [(0, .ref (G.1 (4 + j))), (1, .int (nI a)), (2, .int (nI m)), (3, .int (z.1)), (4, .int (z.2)), (5, .int (nI (i + 1)))] [] (lc_w σ j x)) (fun z => lc_V G Γ cX3_keepersOf 7 RX3 56 [(3, .int (z.1)), (4, .int (z.2))] [] (lc_w σ j x)) (fun _ => sp_kp (σ.2.1 (6 + j)) a n) (m - 1) (fun _ z => decide (z.2 = 0)) (fun i z _ h => ⟨by simp only [sp_kp, if_pos (of_decide_eq_true h)], h⟩) (fun i z hi ki ei => ?_) (fun z ei => ?_) (((1 : Int32) <<< (nI a &&& 31), sp_oth (nI a) (x.1 7 0))) ?_
  · skip
    show lc_V G Γ cX3_keepersOf 7 RX3 14 [(0, .ref (G.1 (4 + j))), (1, .int (nI a)), (2, .int (nI m)), (3, .int (z.1)), (4, .int (z.2)), (5, .int (nI (i + 1)))] [] (lc_w σ j x)
    refine lc_iload 5 dX3_keepersOf_14 rfl ?_
    refine lc_iload_n 2 dX3_keepersOf_16 rfl ?_
    refine lc_icmp_ge 56 dX3_keepersOf_17 (by decide) (fun h => absurd h.1 (by exact nI_ge (b := m) (show i + 1 < m by omega) (by omega))) (fun _ => ?_)
    refine lc_iload 4 dX3_keepersOf_20 rfl ?_
    refine lc_if_eq 56 dX3_keepersOf_22 (by decide) (fun c_2 => ?_) (fun c_2 => ?_)
    · skip
      refine lc_lv (lv' := [(3, .int (z.1)), (4, .int (z.2))]) [3, 4] rfl ?_
      exact ei (decide_eq_true c_2)
    · skip
      refine lc_iconst (v := 1) dX3_keepersOf_25 (by decide) ?_
      refine lc_aload_n 0 dX3_keepersOf_26 rfl ?_
      refine lc_iload_n 1 dX3_keepersOf_27 rfl ?_
      refine lc_iload 4 dX3_keepersOf_28 rfl ?_
      refine lc_callV (4 + j) (c_X3_nearest l G σ j x n a z.2 (by omega) (by omega) (by omega) (hs)) hR.2.2.2.1 hR.2.2.2.2 mt_X3_nearest (by omega) (lc_eW j (by omega)) rfl ml_X3_114 rfl rfl (Nat.le_of_ble_eq_true rfl) ⟨⟨rfl, rfl⟩, Nat.le_of_ble_eq_true rfl, Nat.le_of_ble_eq_true rfl⟩ dX3_keepersOf_30 ?_
      show lc_V _ _ _ _ _ 33 _ [.int (sp_on (sp_nears (σ.2.1 (6 + j)) a z.2 n).1), .int (1)] (lc_w σ j x)
      refine lc_ishl dX3_keepersOf_33 ?_
      refine lc_istore [(6, .int (((1 : Int32) <<< ((sp_on (sp_nears (σ.2.1 (6 + j)) a z.2 n).1) &&& 31)))), (0, .ref (G.1 (4 + j))), (1, .int (nI a)), (2, .int (nI m)), (3, .int (z.1)), (4, .int (z.2)), (5, .int (nI (i + 1)))] dX3_keepersOf_34 (by decide) rfl ?_
      refine lc_iload_n 4 dX3_keepersOf_36 rfl ?_
      refine lc_iload 0 dX3_keepersOf_37 rfl ?_
      refine lc_ior dX3_keepersOf_39 ?_
      refine lc_istore_n [(3, .int ((z.1 ||| (((1 : Int32) <<< ((sp_on (sp_nears (σ.2.1 (6 + j)) a z.2 n).1) &&& 31)))))), (6, .int (((1 : Int32) <<< ((sp_on (sp_nears (σ.2.1 (6 + j)) a z.2 n).1) &&& 31)))), (0, .ref (G.1 (4 + j))), (1, .int (nI a)), (2, .int (nI m)), (4, .int (z.2)), (5, .int (nI (i + 1)))] dX3_keepersOf_40 (by decide) rfl ?_
      refine lc_iload 5 dX3_keepersOf_41 rfl ?_
      refine lc_iload 1 dX3_keepersOf_43 rfl ?_
      refine lc_iconst (v := (-1)) dX3_keepersOf_45 (by decide) ?_
      refine lc_ixor dX3_keepersOf_46 ?_
      refine lc_iand dX3_keepersOf_47 ?_
      refine lc_istore [(4, .int ((z.2 &&& (((((1 : Int32) <<< ((sp_on (sp_nears (σ.2.1 (6 + j)) a z.2 n).1) &&& 31))) ^^^ ((-1))))))), (3, .int ((z.1 ||| (((1 : Int32) <<< ((sp_on (sp_nears (σ.2.1 (6 + j)) a z.2 n).1) &&& 31)))))), (6, .int (((1 : Int32) <<< ((sp_on (sp_nears (σ.2.1 (6 + j)) a z.2 n).1) &&& 31)))), (0, .ref (G.1 (4 + j))), (1, .int (nI a)), (2, .int (nI m)), (5, .int (nI (i + 1)))] dX3_keepersOf_48 (by decide) rfl ?_
      refine lc_iinc 6 (nI (i + 1 + 1)) [(5, .int (nI (i + 1 + 1))), (4, .int ((z.2 &&& (((((1 : Int32) <<< ((sp_on (sp_nears (σ.2.1 (6 + j)) a z.2 n).1) &&& 31))) ^^^ ((-1))))))), (3, .int ((z.1 ||| (((1 : Int32) <<< ((sp_on (sp_nears (σ.2.1 (6 + j)) a z.2 n).1) &&& 31)))))), (6, .int (((1 : Int32) <<< ((sp_on (sp_nears (σ.2.1 (6 + j)) a z.2 n).1) &&& 31)))), (0, .ref (G.1 (4 + j))), (1, .int (nI a)), (2, .int (nI m))] dX3_keepersOf_50 rfl (lc_inc1 (i + 1)) (by decide) rfl ?_
      refine lc_goto 14 dX3_keepersOf_53 (by decide) ?_
      refine lc_lv (lv' := [(0, .ref (G.1 (4 + j))), (1, .int (nI a)), (2, .int (nI m)), (3, .int ((z.1 ||| (((1 : Int32) <<< ((sp_on (sp_nears (σ.2.1 (6 + j)) a z.2 n).1) &&& 31)))))), (4, .int ((z.2 &&& (((((1 : Int32) <<< ((sp_on (sp_nears (σ.2.1 (6 + j)) a z.2 n).1) &&& 31))) ^^^ ((-1))))))), (5, .int (nI (i + 1 + 1)))]) [4, 5, 6, 2, 1, 0] rfl ?_
      have ki := ki (decide_eq_false c_2.1)
      rw [show sp_kp (σ.2.1 (6 + j)) a n z = ((z.1 ||| (((1 : Int32) <<< ((sp_on (sp_nears (σ.2.1 (6 + j)) a z.2 n).1) &&& 31)))), (z.2 &&& (((((1 : Int32) <<< ((sp_on (sp_nears (σ.2.1 (6 + j)) a z.2 n).1) &&& 31))) ^^^ ((-1)))))) from by simp only [sp_kp, if_neg c_2.1]] at ki
      exact ki
  · skip
    show lc_V G Γ cX3_keepersOf 7 RX3 14 [(0, .ref (G.1 (4 + j))), (1, .int (nI a)), (2, .int (nI m)), (3, .int (z.1)), (4, .int (z.2)), (5, .int (nI (m - 1 + 1)))] [] (lc_w σ j x)
    refine lc_iload 5 dX3_keepersOf_14 rfl ?_
    refine lc_iload_n 2 dX3_keepersOf_16 rfl ?_
    refine lc_icmp_ge 56 dX3_keepersOf_17 (by decide) (fun _ => ?_) (fun h => absurd h.1 (by rw [show m - 1 + 1 = m by omega]; exact nI_nlt (a := m) (b := m) (Nat.le_refl _) (by omega)))
    refine lc_lv (lv' := [(3, .int (z.1)), (4, .int (z.2))]) [3, 4] rfl ?_
    exact ei
  · skip
    show lc_V G Γ _ _ _ 56 [(3, .int (((sp_it (fun _ => sp_kp (σ.2.1 (6 + j)) a n) (m - 1) ((1 : Int32) <<< (nI a &&& 31), sp_oth (nI a) (x.1 7 0)))).1)), (4, .int (((sp_it (fun _ => sp_kp (σ.2.1 (6 + j)) a n) (m - 1) ((1 : Int32) <<< (nI a &&& 31), sp_oth (nI a) (x.1 7 0)))).2))] [] (lc_w σ j x)
    refine lc_iload_n 0 dX3_keepersOf_56 rfl ?_
    exact lc_iret hR dX3_keepersOf_57 (rfl) (rfl)

set_option maxRecDepth 100000 in
set_option maxHeartbeats 4000000 in
theorem c_X3_partnerBy (l : Launch) (G : lc_G) (σ : lc_S) (j : Nat) (x : lc_X) (n a : Nat) (seed : Int32) (hj : j < 2) (hn : n ≤ 6) (ha : a < 6) (hs : x.1 7 0 = nI n) : lc_M l G yX3_partnerBy cX3_partnerBy 9 (some .int) { frames := 2, cells := 0, slots := 0, locals := 42 } [.ref (G.1 (4 + j)), .int (nI a), .int (seed)] (lc_w σ j x) (some (.int (sp_partC x.1 (σ.2.1 (6 + j)) a n seed))) (lc_w σ j x) := by
  refine lc_entry [(0, .ref (G.1 (4 + j))), (1, .int (nI a)), (2, .int (seed))] (by decide) (Nat.le_of_ble_eq_true rfl) rfl rfl rfl ?_
  intro Γ hR
  refine lc_aload_n 0 dX3_partnerBy_0 rfl ?_
  refine lc_iload_n 1 dX3_partnerBy_1 rfl ?_
  refine lc_callV (4 + j) (c_X3_othersOn l G σ j x (nI a) (by omega)) hR.2.2.2.1 hR.2.2.2.2 mt_X3_othersOn (by omega) (lc_eW j (by omega)) rfl ml_X3_167 rfl rfl (Nat.le_of_ble_eq_true rfl) ⟨⟨rfl, rfl⟩, Nat.le_of_ble_eq_true rfl, Nat.le_of_ble_eq_true rfl⟩ dX3_partnerBy_2 ?_
  show lc_V _ _ _ _ _ 5 _ [.int (sp_othOn x.1 (nI a))] (lc_w σ j x)
  refine lc_istore_n [(3, .int (sp_othOn x.1 (nI a))), (0, .ref (G.1 (4 + j))), (1, .int (nI a)), (2, .int (seed))] dX3_partnerBy_5 (by decide) rfl ?_
  refine lc_iload_n 0 dX3_partnerBy_6 rfl ?_
  refine lc_callS (c_J6_bitCount_0f7a4 l G (lc_w σ j x) (sp_othOn x.1 (nI a))) hR.2.2.2.1 hR.2.2.2.2 mt_J6_bitCount_0f7a4 ml_X3_170 rfl rfl (Nat.le_of_ble_eq_true rfl) ⟨⟨rfl, rfl⟩, Nat.le_of_ble_eq_true rfl, Nat.le_of_ble_eq_true rfl⟩ dX3_partnerBy_7 ?_
  show lc_V _ _ _ _ _ 10 _ [.int (sp_bc (sp_othOn x.1 (nI a)))] (lc_w σ j x)
  refine lc_callS (c_X3_weightOf l G (lc_w σ j x) (sp_bc (sp_othOn x.1 (nI a)))) hR.2.2.2.1 hR.2.2.2.2 mt_X3_weightOf ml_X3_175 rfl rfl (Nat.le_of_ble_eq_true rfl) ⟨⟨rfl, rfl⟩, Nat.le_of_ble_eq_true rfl, Nat.le_of_ble_eq_true rfl⟩ dX3_partnerBy_10 ?_
  show lc_V _ _ _ _ _ 13 _ [.int (sp_wt (sp_bc (sp_othOn x.1 (nI a))))] (lc_w σ j x)
  refine lc_istore [(4, .int (sp_wt (sp_bc (sp_othOn x.1 (nI a))))), (3, .int (sp_othOn x.1 (nI a))), (0, .ref (G.1 (4 + j))), (1, .int (nI a)), (2, .int (seed))] dX3_partnerBy_13 (by decide) rfl ?_
  refine lc_iload 0 dX3_partnerBy_15 rfl ?_
  refine lc_if_gt 22 dX3_partnerBy_17 (by decide) (fun c_1 => ?_) (fun c_1 => ?_)
  · skip
    refine lc_iload_n 4 dX3_partnerBy_22 rfl ?_
    refine lc_ldc kc_X3_178 dX3_partnerBy_23 ?_
    refine lc_idiv dX3_partnerBy_25 (by decide) ?_
    refine lc_iload 0 dX3_partnerBy_26 rfl ?_
    refine lc_irem dX3_partnerBy_28 (fun e0 => c_1.2 (by rw [e0]; decide)) ?_
    refine lc_topi ((sp_rem (seed / 65536) (sp_wt (sp_bc (sp_othOn x.1 (nI a)))))) rfl ?_
    refine lc_istore [(5, .int ((sp_rem (seed / 65536) (sp_wt (sp_bc (sp_othOn x.1 (nI a))))))), (4, .int (sp_wt (sp_bc (sp_othOn x.1 (nI a))))), (3, .int (sp_othOn x.1 (nI a))), (0, .ref (G.1 (4 + j))), (1, .int (nI a)), (2, .int (seed))] dX3_partnerBy_29 (by decide) rfl ?_
    have hres : sp_partC x.1 (σ.2.1 (6 + j)) a n seed = sp_pbr (σ.2.1 (6 + j)) a n (sp_rem (seed / 65536) (sp_wt (sp_bc (sp_othOn x.1 (nI a))))) 5 0 (sp_othOn x.1 (nI a)) 0 := by simp [sp_partC, c_1]
    rw [hres] at hR
    refine lc_iconst (v := 0) dX3_partnerBy_31 (by decide) ?_
    refine lc_istore [(6, .int (0)), (5, .int ((sp_rem (seed / 65536) (sp_wt (sp_bc (sp_othOn x.1 (nI a))))))), (4, .int (sp_wt (sp_bc (sp_othOn x.1 (nI a))))), (3, .int (sp_othOn x.1 (nI a))), (0, .ref (G.1 (4 + j))), (1, .int (nI a)), (2, .int (seed))] dX3_partnerBy_32 (by decide) rfl ?_
    refine lc_iconst (v := 0) dX3_partnerBy_34 (by decide) ?_
    refine lc_istore [(7, .int (0)), (6, .int (0)), (5, .int ((sp_rem (seed / 65536) (sp_wt (sp_bc (sp_othOn x.1 (nI a))))))), (4, .int (sp_wt (sp_bc (sp_othOn x.1 (nI a))))), (3, .int (sp_othOn x.1 (nI a))), (0, .ref (G.1 (4 + j))), (1, .int (nI a)), (2, .int (seed))] dX3_partnerBy_35 (by decide) rfl ?_
    refine lc_lv (lv' := [(0, .ref (G.1 (4 + j))), (1, .int (nI a)), (2, .int (seed)), (3, .int (sp_othOn x.1 (nI a))), (4, .int (sp_wt (sp_bc (sp_othOn x.1 (nI a))))), (5, .int ((sp_rem (seed / 65536) (sp_wt (sp_bc (sp_othOn x.1 (nI a))))))), (6, .int (0)), (7, .int (0))]) [5, 6, 7, 4, 3, 2, 1, 0] rfl ?_
    have KL : ∀ (f rk : Nat) (o t : Int32), rk + f = 5 → sp_pbr (σ.2.1 (6 + j)) a n (sp_rem (seed / 65536) (sp_wt (sp_bc (sp_othOn x.1 (nI a))))) f rk o t = sp_pbr (σ.2.1 (6 + j)) a n (sp_rem (seed / 65536) (sp_wt (sp_bc (sp_othOn x.1 (nI a))))) 5 0 (sp_othOn x.1 (nI a)) 0 → lc_V G Γ cX3_partnerBy 9 RX3 37 [(0, .ref (G.1 (4 + j))), (1, .int (nI a)), (2, .int (seed)), (3, .int (o)), (4, .int (sp_wt (sp_bc (sp_othOn x.1 (nI a))))), (5, .int ((sp_rem (seed / 65536) (sp_wt (sp_bc (sp_othOn x.1 (nI a))))))), (6, .int (t)), (7, .int (nI rk))] [] (lc_w σ j x) := by
      intro f
      induction f with
      | zero =>
        intro rk o t hf hr 
        have hrk : rk = 5 := by omega
        refine lc_iload 7 dX3_partnerBy_37 rfl ?_
        refine lc_gsWEI fl_X3_179 dX3_partnerBy_39 ?_
        refine lc_slWEI dX3_partnerBy_42 ?_
        refine lc_icmp_ge 94 dX3_partnerBy_43 (by decide) (fun _ => ?_) (fun h => absurd h.1 (by rw [hrk]; exact nI_nlt (a := 5) (b := 5) (Nat.le_refl _) (by omega)))
        refine lc_iconst (v := (-1)) dX3_partnerBy_94 (by decide) ?_
        exact lc_iret hR dX3_partnerBy_95 (by rw [← hr]; simp [sp_pbr, ]) (rfl)
      | succ f ih =>
        intro rk o t hf hr 
        have hrk : rk < 5 := by omega
        refine lc_iload 7 dX3_partnerBy_37 rfl ?_
        refine lc_gsWEI fl_X3_179 dX3_partnerBy_39 ?_
        refine lc_slWEI dX3_partnerBy_42 ?_
        refine lc_icmp_ge 94 dX3_partnerBy_43 (by decide) (fun h => absurd h.1 (by exact nI_ge (b := 5) hrk (by omega))) (fun _ => ?_)
        refine lc_iload_n 3 dX3_partnerBy_46 rfl ?_
        refine lc_if_eq 94 dX3_partnerBy_47 (by decide) (fun c_4 => ?_) (fun c_4 => ?_)
        · skip
          refine lc_iconst (v := (-1)) dX3_partnerBy_94 (by decide) ?_
          exact lc_iret hR dX3_partnerBy_95 (by rw [← hr]; simp [sp_pbr, c_4]) (rfl)
        · skip
          refine lc_aload_n 0 dX3_partnerBy_50 rfl ?_
          refine lc_iload_n 1 dX3_partnerBy_51 rfl ?_
          refine lc_iload_n 3 dX3_partnerBy_52 rfl ?_
          refine lc_callV (4 + j) (c_X3_nearest l G σ j x n a o (by omega) (by omega) (by omega) (hs)) hR.2.2.2.1 hR.2.2.2.2 mt_X3_nearest (by omega) (lc_eW j (by omega)) rfl ml_X3_114 rfl rfl (Nat.le_of_ble_eq_true rfl) ⟨⟨rfl, rfl⟩, Nat.le_of_ble_eq_true rfl, Nat.le_of_ble_eq_true rfl⟩ dX3_partnerBy_53 ?_
          show lc_V _ _ _ _ _ 56 _ [.int (sp_on (sp_nears (σ.2.1 (6 + j)) a o n).1)] (lc_w σ j x)
          refine lc_istore [(8, .int (sp_on (sp_nears (σ.2.1 (6 + j)) a o n).1)), (0, .ref (G.1 (4 + j))), (1, .int (nI a)), (2, .int (seed)), (3, .int (o)), (4, .int (sp_wt (sp_bc (sp_othOn x.1 (nI a))))), (5, .int ((sp_rem (seed / 65536) (sp_wt (sp_bc (sp_othOn x.1 (nI a))))))), (6, .int (t)), (7, .int (nI rk))] dX3_partnerBy_56 (by decide) rfl ?_
          refine lc_iload 7 dX3_partnerBy_58 rfl ?_
          refine lc_gsWEI fl_X3_179 dX3_partnerBy_60 ?_
          refine lc_iload 8 dX3_partnerBy_63 rfl ?_
          refine lc_saWEI rk (rfl) (by omega) dX3_partnerBy_65 ?_
          refine lc_iadd dX3_partnerBy_66 ?_
          refine lc_istore [(6, .int ((t + (lc_wei rk)))), (8, .int (sp_on (sp_nears (σ.2.1 (6 + j)) a o n).1)), (0, .ref (G.1 (4 + j))), (1, .int (nI a)), (2, .int (seed)), (3, .int (o)), (4, .int (sp_wt (sp_bc (sp_othOn x.1 (nI a))))), (5, .int ((sp_rem (seed / 65536) (sp_wt (sp_bc (sp_othOn x.1 (nI a))))))), (7, .int (nI rk))] dX3_partnerBy_67 (by decide) rfl ?_
          refine lc_iload 0 dX3_partnerBy_69 rfl ?_
          refine lc_iload 7 dX3_partnerBy_71 rfl ?_
          refine lc_icmp_le 79 dX3_partnerBy_73 (by decide) (fun c_5 => ?_) (fun c_5 => ?_)
          · skip
            refine lc_iload_n 5 dX3_partnerBy_79 rfl ?_
            refine lc_iconst (v := 1) dX3_partnerBy_80 (by decide) ?_
            refine lc_iload 1 dX3_partnerBy_81 rfl ?_
            refine lc_ishl dX3_partnerBy_83 ?_
            refine lc_iconst (v := (-1)) dX3_partnerBy_84 (by decide) ?_
            refine lc_ixor dX3_partnerBy_85 ?_
            refine lc_iand dX3_partnerBy_86 ?_
            refine lc_istore_n [(3, .int ((o &&& (((((1 : Int32) <<< ((sp_on (sp_nears (σ.2.1 (6 + j)) a o n).1) &&& 31))) ^^^ ((-1))))))), (6, .int ((t + (lc_wei rk)))), (8, .int (sp_on (sp_nears (σ.2.1 (6 + j)) a o n).1)), (0, .ref (G.1 (4 + j))), (1, .int (nI a)), (2, .int (seed)), (4, .int (sp_wt (sp_bc (sp_othOn x.1 (nI a))))), (5, .int ((sp_rem (seed / 65536) (sp_wt (sp_bc (sp_othOn x.1 (nI a))))))), (7, .int (nI rk))] dX3_partnerBy_87 (by decide) rfl ?_
            refine lc_iinc 8 (nI (rk + 1)) [(7, .int (nI (rk + 1))), (3, .int ((o &&& (((((1 : Int32) <<< ((sp_on (sp_nears (σ.2.1 (6 + j)) a o n).1) &&& 31))) ^^^ ((-1))))))), (6, .int ((t + (lc_wei rk)))), (8, .int (sp_on (sp_nears (σ.2.1 (6 + j)) a o n).1)), (0, .ref (G.1 (4 + j))), (1, .int (nI a)), (2, .int (seed)), (4, .int (sp_wt (sp_bc (sp_othOn x.1 (nI a))))), (5, .int ((sp_rem (seed / 65536) (sp_wt (sp_bc (sp_othOn x.1 (nI a)))))))] dX3_partnerBy_88 rfl (lc_inc1 rk) (by decide) rfl ?_
            refine lc_goto 37 dX3_partnerBy_91 (by decide) ?_
            refine lc_lv (lv' := [(0, .ref (G.1 (4 + j))), (1, .int (nI a)), (2, .int (seed)), (3, .int ((o &&& (((((1 : Int32) <<< ((sp_on (sp_nears (σ.2.1 (6 + j)) a o n).1) &&& 31))) ^^^ ((-1))))))), (4, .int (sp_wt (sp_bc (sp_othOn x.1 (nI a))))), (5, .int ((sp_rem (seed / 65536) (sp_wt (sp_bc (sp_othOn x.1 (nI a))))))), (6, .int ((t + (lc_wei rk)))), (7, .int (nI (rk + 1)))]) [4, 5, 6, 1, 7, 8, 2, 0] rfl ?_
            exact ih (rk + 1) ((o &&& (((((1 : Int32) <<< ((sp_on (sp_nears (σ.2.1 (6 + j)) a o n).1) &&& 31))) ^^^ ((-1)))))) ((t + (lc_wei rk))) (by omega) (by rw [← hr]; simp [sp_pbr, c_4, c_5]) 
          · skip
            refine lc_iload 1 dX3_partnerBy_76 rfl ?_
            exact lc_iret hR dX3_partnerBy_78 (by rw [← hr]; simp [sp_pbr, c_4, c_5]) (rfl)
    exact KL 5 0 ((sp_othOn x.1 (nI a))) 0 (by omega) rfl 
  · skip
    refine lc_iconst (v := (-1)) dX3_partnerBy_20 (by decide) ?_
    exact lc_iret hR dX3_partnerBy_21 (by simp [sp_partC, c_1]) (rfl)

set_option maxRecDepth 100000 in
set_option maxHeartbeats 4000000 in
theorem c_X3_allOnAlike (l : Launch) (G : lc_G) (σ : lc_S) (j : Nat) (x : lc_X) (n : Nat) (hj : j < 2) (hn : n ≤ 6) (hs : x.1 7 0 = nI n) : lc_M l G yX3_allOnAlike cX3_allOnAlike 3 (some .boolean) { frames := 3, cells := 0, slots := 0, locals := 66 } [.ref (G.1 (4 + j))] (lc_w σ j x) (some (.int (lc_bi (sp_aaC x.1 n)))) (lc_w σ j x) := by
  refine lc_entry [(0, .ref (G.1 (4 + j)))] (by decide) (Nat.le_of_ble_eq_true rfl) rfl rfl rfl ?_
  intro Γ hR
  refine lc_iconst (v := (-1)) dX3_allOnAlike_0 (by decide) ?_
  refine lc_istore_n [(1, .int ((-1))), (0, .ref (G.1 (4 + j)))] dX3_allOnAlike_1 (by decide) rfl ?_
  refine lc_iconst (v := 0) dX3_allOnAlike_2 (by decide) ?_
  refine lc_istore_n [(2, .int (0)), (1, .int ((-1))), (0, .ref (G.1 (4 + j)))] dX3_allOnAlike_3 (by decide) rfl ?_
  refine lc_lv (lv' := [(0, .ref (G.1 (4 + j))), (1, .int ((-1))), (2, .int (0))]) [2, 1, 0] rfl ?_
  refine lc_forE (α := Option Nat) (fun i z => lc_V G Γ cX3_allOnAlike 3 RX3 4 [(0, .ref (G.1 (4 + j))), (1, .int (sp_on z)), (2, .int (nI i))] [] (lc_w σ j x)) (sp_aag x.1) (sp_aaf x.1) n none (fun i z hi hzi ki => ?_) (fun z hzi => ?_)
  · skip
    have hlt := sp_aa_lt x.1 _ z hzi
    rcases z with _ | p
    · skip
      show lc_V G Γ cX3_allOnAlike 3 RX3 4 [(0, .ref (G.1 (4 + j))), (1, .int ((-1))), (2, .int (nI i))] [] (lc_w σ j x)
      refine lc_iload_n 2 dX3_allOnAlike_4 rfl ?_
      refine lc_aload_n 0 dX3_allOnAlike_5 rfl ?_
      refine lc_gWSites j (by omega) fl_X3_34 dX3_allOnAlike_6 ?_
      refine lc_icmp_ge 44 dX3_allOnAlike_9 (by decide) (fun h => absurd h.1 (by rw [hs]; exact nI_ge (b := n) hi (by omega))) (fun _ => ?_)
      refine lc_aload_n 0 dX3_allOnAlike_12 rfl ?_
      refine lc_iload_n 2 dX3_allOnAlike_13 rfl ?_
      refine lc_callV (4 + j) (c_X3_isOff l G σ j x (nI i) (by omega)) hR.2.2.2.1 hR.2.2.2.2 mt_X3_isOff (by omega) (lc_eW j (by omega)) rfl ml_X3_159 rfl rfl (Nat.le_of_ble_eq_true rfl) ⟨⟨rfl, rfl⟩, Nat.le_of_ble_eq_true rfl, Nat.le_of_ble_eq_true rfl⟩ dX3_allOnAlike_14 ?_
      show lc_V _ _ _ _ _ 17 _ [.int (lc_bi (sp_bit (x.1 7 2) (nI i)))] (lc_w σ j x)
      refine lc_ifb_ne 38 dX3_allOnAlike_17 (by decide) (fun c_2 => ?_) (fun c_2 => ?_)
      · skip
        refine lc_iinc 2 (nI (i + 1)) [(2, .int (nI (i + 1))), (0, .ref (G.1 (4 + j))), (1, .int ((-1)))] dX3_allOnAlike_38 rfl (lc_inc1 i) (by decide) rfl ?_
        refine lc_goto 4 dX3_allOnAlike_41 (by decide) ?_
        refine lc_lv (lv' := [(0, .ref (G.1 (4 + j))), (1, .int ((-1))), (2, .int (nI (i + 1)))]) [1, 2, 0] rfl ?_
        have ki := ki (by simp [sp_aag, c_2])
        rw [show sp_aaf x.1 i none = none from by simp [sp_aaf, c_2]] at ki
        exact ki
      · skip
        refine lc_iload_n 1 dX3_allOnAlike_20 rfl ?_
        refine lc_iconst (v := (-1)) dX3_allOnAlike_21 (by decide) ?_
        refine lc_icmp_eq 36 dX3_allOnAlike_22 (by decide) (fun _ => ?_) (fun h => absurd h (by decide))
        refine lc_iload_n 2 dX3_allOnAlike_36 rfl ?_
        refine lc_istore_n [(1, .int (nI i)), (0, .ref (G.1 (4 + j))), (2, .int (nI i))] dX3_allOnAlike_37 (by decide) rfl ?_
        refine lc_iinc 2 (nI (i + 1)) [(2, .int (nI (i + 1))), (1, .int (nI i)), (0, .ref (G.1 (4 + j)))] dX3_allOnAlike_38 rfl (lc_inc1 i) (by decide) rfl ?_
        refine lc_goto 4 dX3_allOnAlike_41 (by decide) ?_
        refine lc_lv (lv' := [(0, .ref (G.1 (4 + j))), (1, .int (nI i)), (2, .int (nI (i + 1)))]) [2, 1, 0] rfl ?_
        have ki := ki (by simp [sp_aag, c_2])
        rw [show sp_aaf x.1 i none = some i from by simp [sp_aaf, c_2]] at ki
        exact ki
    · skip
      have hp := hlt p rfl
      show lc_V G Γ cX3_allOnAlike 3 RX3 4 [(0, .ref (G.1 (4 + j))), (1, .int (nI p)), (2, .int (nI i))] [] (lc_w σ j x)
      refine lc_iload_n 2 dX3_allOnAlike_4 rfl ?_
      refine lc_aload_n 0 dX3_allOnAlike_5 rfl ?_
      refine lc_gWSites j (by omega) fl_X3_34 dX3_allOnAlike_6 ?_
      refine lc_icmp_ge 44 dX3_allOnAlike_9 (by decide) (fun h => absurd h.1 (by rw [hs]; exact nI_ge (b := n) hi (by omega))) (fun _ => ?_)
      refine lc_aload_n 0 dX3_allOnAlike_12 rfl ?_
      refine lc_iload_n 2 dX3_allOnAlike_13 rfl ?_
      refine lc_callV (4 + j) (c_X3_isOff l G σ j x (nI i) (by omega)) hR.2.2.2.1 hR.2.2.2.2 mt_X3_isOff (by omega) (lc_eW j (by omega)) rfl ml_X3_159 rfl rfl (Nat.le_of_ble_eq_true rfl) ⟨⟨rfl, rfl⟩, Nat.le_of_ble_eq_true rfl, Nat.le_of_ble_eq_true rfl⟩ dX3_allOnAlike_14 ?_
      show lc_V _ _ _ _ _ 17 _ [.int (lc_bi (sp_bit (x.1 7 2) (nI i)))] (lc_w σ j x)
      refine lc_ifb_ne 38 dX3_allOnAlike_17 (by decide) (fun c_5 => ?_) (fun c_5 => ?_)
      · skip
        refine lc_iinc 2 (nI (i + 1)) [(2, .int (nI (i + 1))), (0, .ref (G.1 (4 + j))), (1, .int (nI p))] dX3_allOnAlike_38 rfl (lc_inc1 i) (by decide) rfl ?_
        refine lc_goto 4 dX3_allOnAlike_41 (by decide) ?_
        refine lc_lv (lv' := [(0, .ref (G.1 (4 + j))), (1, .int (nI p)), (2, .int (nI (i + 1)))]) [1, 2, 0] rfl ?_
        have ki := ki (by simp [sp_aag, c_5])
        rw [show sp_aaf x.1 i (some p) = (some p) from by simp [sp_aaf, c_5]] at ki
        exact ki
      · skip
        refine lc_iload_n 1 dX3_allOnAlike_20 rfl ?_
        refine lc_iconst (v := (-1)) dX3_allOnAlike_21 (by decide) ?_
        refine lc_icmp_eq 36 dX3_allOnAlike_22 (by decide) (fun h => absurd h (lc_nm1 (by omega))) (fun _ => ?_)
        refine lc_aload_n 0 dX3_allOnAlike_25 rfl ?_
        refine lc_iload_n 1 dX3_allOnAlike_26 rfl ?_
        refine lc_iload_n 2 dX3_allOnAlike_27 rfl ?_
        refine lc_callV (4 + j) (c_X3_areAlike l G σ j x p i (by omega) (by omega) (by omega)) hR.2.2.2.1 hR.2.2.2.2 mt_X3_areAlike (by omega) (lc_eW j (by omega)) rfl ml_X3_124 rfl rfl (Nat.le_of_ble_eq_true rfl) ⟨⟨rfl, rfl⟩, Nat.le_of_ble_eq_true rfl, Nat.le_of_ble_eq_true rfl⟩ dX3_allOnAlike_28 ?_
        show lc_V _ _ _ _ _ 31 _ [.int (lc_bi (sp_alike x.1 p i))] (lc_w σ j x)
        refine lc_ifb_ne 36 dX3_allOnAlike_31 (by decide) (fun c_7 => ?_) (fun c_7 => ?_)
        · skip
          refine lc_iload_n 2 dX3_allOnAlike_36 rfl ?_
          refine lc_istore_n [(1, .int (nI i)), (0, .ref (G.1 (4 + j))), (2, .int (nI i))] dX3_allOnAlike_37 (by decide) rfl ?_
          refine lc_iinc 2 (nI (i + 1)) [(2, .int (nI (i + 1))), (1, .int (nI i)), (0, .ref (G.1 (4 + j)))] dX3_allOnAlike_38 rfl (lc_inc1 i) (by decide) rfl ?_
          refine lc_goto 4 dX3_allOnAlike_41 (by decide) ?_
          refine lc_lv (lv' := [(0, .ref (G.1 (4 + j))), (1, .int (nI i)), (2, .int (nI (i + 1)))]) [2, 1, 0] rfl ?_
          have ki := ki (by simp [sp_aag, c_5, c_7])
          rw [show sp_aaf x.1 i (some p) = some i from by simp [sp_aaf, c_5, c_7]] at ki
          exact ki
        · skip
          refine lc_iconst (v := 0) dX3_allOnAlike_34 (by decide) ?_
          exact lc_zret hR dX3_allOnAlike_35 (by rw [show sp_aaC x.1 n = false by simp [sp_aaC, sp_itE_none hi hzi (show sp_aag x.1 i _ = false by simp [sp_aag, c_5, c_7])]]; rfl) (rfl)
  · skip
    have hlt := sp_aa_lt x.1 _ z hzi
    rcases z with _ | p
    · skip
      show lc_V G Γ cX3_allOnAlike 3 RX3 4 [(0, .ref (G.1 (4 + j))), (1, .int ((-1))), (2, .int (nI n))] [] (lc_w σ j x)
      refine lc_iload_n 2 dX3_allOnAlike_4 rfl ?_
      refine lc_aload_n 0 dX3_allOnAlike_5 rfl ?_
      refine lc_gWSites j (by omega) fl_X3_34 dX3_allOnAlike_6 ?_
      refine lc_icmp_ge 44 dX3_allOnAlike_9 (by decide) (fun _ => ?_) (fun h => absurd h.1 (by rw [hs]; exact nI_nlt (a := n) (b := n) (Nat.le_refl _) (by omega)))
      refine lc_iconst (v := 1) dX3_allOnAlike_44 (by decide) ?_
      exact lc_zret hR dX3_allOnAlike_45 (by rw [show sp_aaC x.1 n = true by simp [sp_aaC, hzi]]; rfl) (rfl)
    · skip
      have hp := hlt p rfl
      show lc_V G Γ cX3_allOnAlike 3 RX3 4 [(0, .ref (G.1 (4 + j))), (1, .int (nI p)), (2, .int (nI n))] [] (lc_w σ j x)
      refine lc_iload_n 2 dX3_allOnAlike_4 rfl ?_
      refine lc_aload_n 0 dX3_allOnAlike_5 rfl ?_
      refine lc_gWSites j (by omega) fl_X3_34 dX3_allOnAlike_6 ?_
      refine lc_icmp_ge 44 dX3_allOnAlike_9 (by decide) (fun _ => ?_) (fun h => absurd h.1 (by rw [hs]; exact nI_nlt (a := n) (b := n) (Nat.le_refl _) (by omega)))
      refine lc_iconst (v := 1) dX3_allOnAlike_44 (by decide) ?_
      exact lc_zret hR dX3_allOnAlike_45 (by rw [show sp_aaC x.1 n = true by simp [sp_aaC, hzi]]; rfl) (rfl)

set_option maxRecDepth 100000 in
set_option maxHeartbeats 4000000 in
theorem c_X3_risenSites (l : Launch) (G : lc_G) (σ : lc_S) (j : Nat) (x : lc_X) (n k : Nat) (hj : j < 2) (hn : n ≤ 6) (hs : x.1 7 0 = nI n) (hk : k < 4) : lc_M l G yX3_risenSites cX3_risenSites 5 (some .int) { frames := 1, cells := 0, slots := 0, locals := 22 } [.ref (G.1 (4 + j)), .int (nI k)] (lc_w σ j x) (some (.int (sp_rss x.1 (σ.2.1 (3 + j)) k n))) (lc_w σ j x) := by
  refine lc_entry [(0, .ref (G.1 (4 + j))), (1, .int (nI k))] (by decide) (Nat.le_of_ble_eq_true rfl) rfl rfl rfl ?_
  intro Γ hR
  refine lc_iconst (v := 0) dX3_risenSites_0 (by decide) ?_
  refine lc_istore_n [(2, .int (0)), (0, .ref (G.1 (4 + j))), (1, .int (nI k))] dX3_risenSites_1 (by decide) rfl ?_
  refine lc_iconst (v := 0) dX3_risenSites_2 (by decide) ?_
  refine lc_istore_n [(3, .int (0)), (2, .int (0)), (0, .ref (G.1 (4 + j))), (1, .int (nI k))] dX3_risenSites_3 (by decide) rfl ?_
  refine lc_lv (lv' := [(0, .ref (G.1 (4 + j))), (1, .int (nI k)), (2, .int (0)), (3, .int (0))]) [2, 3, 1, 0] rfl ?_
  refine lc_forI (α := Int32) (fun i z => lc_V G Γ cX3_risenSites 5 RX3 4 [(0, .ref (G.1 (4 + j))), (1, .int (nI k)), (2, .int (z)), (3, .int (nI i))] [] (lc_w σ j x)) (fun _ _ => True) (sp_rs x.1 (σ.2.1 (3 + j)) k) n (fun _ _ _ _ => trivial) (fun i z hi hIi ki => ?_) 0 (trivial) (fun hIi => ?_)
  · skip
    show lc_V G Γ cX3_risenSites 5 RX3 4 [(0, .ref (G.1 (4 + j))), (1, .int (nI k)), (2, .int (z)), (3, .int (nI i))] [] (lc_w σ j x)
    refine lc_iload_n 3 dX3_risenSites_4 rfl ?_
    refine lc_aload_n 0 dX3_risenSites_5 rfl ?_
    refine lc_gWSites j (by omega) fl_X3_34 dX3_risenSites_6 ?_
    refine lc_icmp_ge 55 dX3_risenSites_9 (by decide) (fun h => absurd h.1 (by rw [hs]; exact nI_ge (b := n) hi (by omega))) (fun _ => ?_)
    refine lc_aload_n 0 dX3_risenSites_12 rfl ?_
    refine lc_iload_n 3 dX3_risenSites_13 rfl ?_
    refine lc_iload_n 1 dX3_risenSites_14 rfl ?_
    refine lc_callV (4 + j) (c_X3_itemAt l G (lc_w σ j x) j i k (by omega) (by omega) (by omega)) hR.2.2.2.1 hR.2.2.2.2 mt_X3_itemAt (by omega) (lc_eW j (by omega)) rfl ml_X3_75 rfl rfl (Nat.le_of_ble_eq_true rfl) ⟨⟨rfl, rfl⟩, Nat.le_of_ble_eq_true rfl, Nat.le_of_ble_eq_true rfl⟩ dX3_risenSites_15 ?_
    show lc_V _ _ _ _ _ 18 _ [.ref (G.1 (lc_it j (4 * i + k)))] (lc_w σ j x)
    refine lc_astore [(4, .ref (G.1 (lc_it j (4 * i + k)))), (0, .ref (G.1 (4 + j))), (1, .int (nI k)), (2, .int (z)), (3, .int (nI i))] dX3_risenSites_18 (by decide) rfl ?_
    refine lc_aload 0 dX3_risenSites_20 rfl ?_
    refine lc_gIw j (4 * i + k) 0 (by omega) (by omega) (by decide) fl_X3_87 dX3_risenSites_22 ?_
    refine lc_iconst (v := 1) dX3_risenSites_25 (by decide) ?_
    refine lc_icmp_ne 49 dX3_risenSites_26 (by decide) (fun c_2 => ?_) (fun c_2 => ?_)
    · skip
      refine lc_iinc 4 (nI (i + 1)) [(3, .int (nI (i + 1))), (4, .ref (G.1 (lc_it j (4 * i + k)))), (0, .ref (G.1 (4 + j))), (1, .int (nI k)), (2, .int (z))] dX3_risenSites_49 rfl (lc_inc1 i) (by decide) rfl ?_
      refine lc_goto 4 dX3_risenSites_52 (by decide) ?_
      refine lc_lv (lv' := [(0, .ref (G.1 (4 + j))), (1, .int (nI k)), (2, .int (z)), (3, .int (nI (i + 1)))]) [2, 3, 4, 0] rfl ?_
      rw [show (sp_rs x.1 (σ.2.1 (3 + j)) k) i z = z from by simp [sp_rs, c_2]] at ki
      exact ki
    · skip
      refine lc_aload 0 dX3_risenSites_29 rfl ?_
      refine lc_gIw j (4 * i + k) 2 (by omega) (by omega) (by decide) fl_X3_138 dX3_risenSites_31 ?_
      refine lc_aload_n 1 dX3_risenSites_34 rfl ?_
      refine lc_gWLat j (by omega) fl_X3_24 dX3_risenSites_35 ?_
      refine lc_iload_n 2 dX3_risenSites_38 rfl ?_
      refine lc_iald (12 + j) k (by omega) (lc_eLatw j (by omega)) (rfl) (by omega) (by decide) dX3_risenSites_39 ?_
      refine lc_icmp_ge 49 dX3_risenSites_40 (by decide) (fun c_3 => ?_) (fun c_3 => ?_)
      · skip
        refine lc_iinc 4 (nI (i + 1)) [(3, .int (nI (i + 1))), (4, .ref (G.1 (lc_it j (4 * i + k)))), (0, .ref (G.1 (4 + j))), (1, .int (nI k)), (2, .int (z))] dX3_risenSites_49 rfl (lc_inc1 i) (by decide) rfl ?_
        refine lc_goto 4 dX3_risenSites_52 (by decide) ?_
        refine lc_lv (lv' := [(0, .ref (G.1 (4 + j))), (1, .int (nI k)), (2, .int (z)), (3, .int (nI (i + 1)))]) [2, 3, 4, 0] rfl ?_
        rw [show (sp_rs x.1 (σ.2.1 (3 + j)) k) i z = z from by simp [sp_rs, c_2, c_3]] at ki
        exact ki
      · skip
        refine lc_iload_n 3 dX3_risenSites_43 rfl ?_
        refine lc_iconst (v := 1) dX3_risenSites_44 (by decide) ?_
        refine lc_iload_n 4 dX3_risenSites_45 rfl ?_
        refine lc_ishl dX3_risenSites_46 ?_
        refine lc_ior dX3_risenSites_47 ?_
        refine lc_istore_n [(2, .int ((z ||| (((1 : Int32) <<< ((nI i) &&& 31)))))), (4, .ref (G.1 (lc_it j (4 * i + k)))), (0, .ref (G.1 (4 + j))), (1, .int (nI k)), (3, .int (nI i))] dX3_risenSites_48 (by decide) rfl ?_
        refine lc_iinc 4 (nI (i + 1)) [(3, .int (nI (i + 1))), (2, .int ((z ||| (((1 : Int32) <<< ((nI i) &&& 31)))))), (4, .ref (G.1 (lc_it j (4 * i + k)))), (0, .ref (G.1 (4 + j))), (1, .int (nI k))] dX3_risenSites_49 rfl (lc_inc1 i) (by decide) rfl ?_
        refine lc_goto 4 dX3_risenSites_52 (by decide) ?_
        refine lc_lv (lv' := [(0, .ref (G.1 (4 + j))), (1, .int (nI k)), (2, .int ((z ||| (((1 : Int32) <<< ((nI i) &&& 31)))))), (3, .int (nI (i + 1)))]) [3, 4, 1, 0] rfl ?_
        rw [show (sp_rs x.1 (σ.2.1 (3 + j)) k) i z = (z ||| (((1 : Int32) <<< ((nI i) &&& 31)))) from by simp [sp_rs, c_2, c_3]] at ki
        exact ki
  · skip
    show lc_V G Γ cX3_risenSites 5 RX3 4 [(0, .ref (G.1 (4 + j))), (1, .int (nI k)), (2, .int ((sp_rss x.1 (σ.2.1 (3 + j)) k n))), (3, .int (nI n))] [] (lc_w σ j x)
    refine lc_iload_n 3 dX3_risenSites_4 rfl ?_
    refine lc_aload_n 0 dX3_risenSites_5 rfl ?_
    refine lc_gWSites j (by omega) fl_X3_34 dX3_risenSites_6 ?_
    refine lc_icmp_ge 55 dX3_risenSites_9 (by decide) (fun _ => ?_) (fun h => absurd h.1 (by rw [hs]; exact nI_nlt (a := n) (b := n) (Nat.le_refl _) (by omega)))
    refine lc_iload_n 2 dX3_risenSites_55 rfl ?_
    exact lc_iret hR dX3_risenSites_56 (rfl) (rfl)

set_option maxRecDepth 100000 in
set_option maxHeartbeats 4000000 in
theorem c_X3_putValue (l : Launch) (G : lc_G) (σ : lc_S) (j : Nat) (x : lc_X) (n a k : Nat) (hj : j < 2) (hn : n ≤ 6) (hs : x.1 7 0 = nI n) (ha : a < 6) (hk : k < 4) (v : Int32) : lc_M l G yX3_putValue cX3_putValue 4 (some .int) { frames := 3, cells := 0, slots := 0, locals := 68 } [.ref (G.1 (4 + j)), .int (nI a), .int (nI k), .int (v)] (lc_w σ j x) (some (.int ((sp_putV n x a k v).1))) (lc_w σ j ((sp_putV n x a k v).2)) := by
  refine lc_entry [(0, .ref (G.1 (4 + j))), (1, .int (nI a)), (2, .int (nI k)), (3, .int (v))] (by decide) (Nat.le_of_ble_eq_true rfl) rfl rfl rfl ?_
  intro Γ hR
  refine lc_aload_n 0 dX3_putValue_0 rfl ?_
  refine lc_iconst (v := 1) dX3_putValue_1 (by decide) ?_
  refine lc_callV (4 + j) (c_X3_advance l G σ j x n (by omega) (by omega) (hs) 1) hR.2.2.2.1 hR.2.2.2.2 mt_X3_advance (by omega) (lc_eW j (by omega)) rfl ml_X3_96 rfl rfl (Nat.le_of_ble_eq_true rfl) ⟨⟨rfl, rfl⟩, Nat.le_of_ble_eq_true rfl, Nat.le_of_ble_eq_true rfl⟩ dX3_putValue_2 ?_
  show lc_V _ _ _ _ _ 5 _ [.int ((sp_adv n x 1).1)] (lc_w σ j ((sp_adv n x 1).2))
  refine lc_pop dX3_putValue_5 rfl ?_
  refine lc_aload_n 0 dX3_putValue_6 rfl ?_
  refine lc_iload_n 1 dX3_putValue_7 rfl ?_
  refine lc_iload_n 2 dX3_putValue_8 rfl ?_
  refine lc_callV (4 + j) (c_X3_itemAt l G (lc_w σ j ((sp_adv n x 1).2)) j a k (by omega) (by omega) (by omega)) hR.2.2.2.1 hR.2.2.2.2 mt_X3_itemAt (by omega) (lc_eW j (by omega)) rfl ml_X3_75 rfl rfl (Nat.le_of_ble_eq_true rfl) ⟨⟨rfl, rfl⟩, Nat.le_of_ble_eq_true rfl, Nat.le_of_ble_eq_true rfl⟩ dX3_putValue_9 ?_
  show lc_V _ _ _ _ _ 12 _ [.ref (G.1 (lc_it j (4 * a + k)))] (lc_w σ j ((sp_adv n x 1).2))
  refine lc_iload_n 3 dX3_putValue_12 rfl ?_
  refine lc_aload_n 0 dX3_putValue_13 rfl ?_
  refine lc_gWNow j (by omega) fl_X3_37 dX3_putValue_14 ?_
  refine lc_aload_n 0 dX3_putValue_17 rfl ?_
  refine lc_gWLim j (by omega) fl_X3_9 dX3_putValue_18 ?_
  refine lc_iconst (v := 2) dX3_putValue_21 (by decide) ?_
  refine lc_iald (6 + j) 2 (by omega) (lc_eLim j (by omega)) (rfl) (by omega) (by decide) dX3_putValue_22 ?_
  refine lc_callV (lc_it j (4 * a + k)) (c_X0_becomeValue l G σ j ((sp_adv n x 1).2) (4 * a + k) (by omega) (by omega) v ((((sp_adv n x 1).2).1) 7 1) ((((sp_adv n x 1).2).1) 6 2)) hR.2.2.2.1 hR.2.2.2.2 mt_X0_becomeValue (lc_it74 (by omega) (by omega)) (lc_ent_it G _ (by omega)) rfl ml_X3_100 rfl rfl (Nat.le_of_ble_eq_true rfl) ⟨⟨rfl, rfl⟩, Nat.le_of_ble_eq_true rfl, Nat.le_of_ble_eq_true rfl⟩ dX3_putValue_23 ?_
  show lc_V _ _ _ _ _ 26 _ [] (lc_w σ j ((sp_val (((sp_adv n x 1).2).1) (4 * a + k) v ((((sp_adv n x 1).2).1) 7 1) ((((sp_adv n x 1).2).1) 6 2), ((sp_adv n x 1).2).2)))
  refine lc_aload_n 0 dX3_putValue_26 rfl ?_
  refine lc_gWNow j (by omega) fl_X3_37 dX3_putValue_27 ?_
  exact lc_iret hR dX3_putValue_30 (rfl) (rfl)

set_option maxRecDepth 100000 in
set_option maxHeartbeats 4000000 in
theorem c_X3_removeValue (l : Launch) (G : lc_G) (σ : lc_S) (j : Nat) (x : lc_X) (n a k m : Nat) (hj : j < 2) (hn : n ≤ 6) (hs : x.1 7 0 = nI n) (ha : a < 6) (hk : k < 4) (hm : 1 ≤ m) (hm3 : m ≤ 3) : lc_M l G yX3_removeValue cX3_removeValue 4 (some .int) { frames := 3, cells := 0, slots := 0, locals := 68 } [.ref (G.1 (4 + j)), .int (nI a), .int (nI k), .int (nI m)] (lc_w σ j x) (some (.int ((sp_remV n x a k (sp_keepC (σ.2.1 (6 + j)) a n m (sp_oth (nI a) ((sp_adv n x 1).2.1 7 0)))).1))) (lc_w ((lc_uo σ (3 + j) k ((sp_adv n x 1).2.1 7 1))) j ((sp_remV n x a k (sp_keepC (σ.2.1 (6 + j)) a n m (sp_oth (nI a) ((sp_adv n x 1).2.1 7 0)))).2)) := by
  refine lc_entry [(0, .ref (G.1 (4 + j))), (1, .int (nI a)), (2, .int (nI k)), (3, .int (nI m))] (by decide) (Nat.le_of_ble_eq_true rfl) rfl rfl rfl ?_
  intro Γ hR
  refine lc_aload_n 0 dX3_removeValue_0 rfl ?_
  refine lc_iconst (v := 1) dX3_removeValue_1 (by decide) ?_
  refine lc_callV (4 + j) (c_X3_advance l G σ j x n (by omega) (by omega) (hs) 1) hR.2.2.2.1 hR.2.2.2.2 mt_X3_advance (by omega) (lc_eW j (by omega)) rfl ml_X3_96 rfl rfl (Nat.le_of_ble_eq_true rfl) ⟨⟨rfl, rfl⟩, Nat.le_of_ble_eq_true rfl, Nat.le_of_ble_eq_true rfl⟩ dX3_removeValue_2 ?_
  show lc_V _ _ _ _ _ 5 _ [.int ((sp_adv n x 1).1)] (lc_w σ j ((sp_adv n x 1).2))
  refine lc_pop dX3_removeValue_5 rfl ?_
  refine lc_aload_n 0 dX3_removeValue_6 rfl ?_
  refine lc_iload_n 1 dX3_removeValue_7 rfl ?_
  refine lc_iload_n 2 dX3_removeValue_8 rfl ?_
  refine lc_callV (4 + j) (c_X3_itemAt l G (lc_w σ j ((sp_adv n x 1).2)) j a k (by omega) (by omega) (by omega)) hR.2.2.2.1 hR.2.2.2.2 mt_X3_itemAt (by omega) (lc_eW j (by omega)) rfl ml_X3_75 rfl rfl (Nat.le_of_ble_eq_true rfl) ⟨⟨rfl, rfl⟩, Nat.le_of_ble_eq_true rfl, Nat.le_of_ble_eq_true rfl⟩ dX3_removeValue_9 ?_
  show lc_V _ _ _ _ _ 12 _ [.ref (G.1 (lc_it j (4 * a + k)))] (lc_w σ j ((sp_adv n x 1).2))
  refine lc_aload_n 0 dX3_removeValue_12 rfl ?_
  refine lc_iload_n 1 dX3_removeValue_13 rfl ?_
  refine lc_iload_n 3 dX3_removeValue_14 rfl ?_
  refine lc_callV (4 + j) (c_X3_keepersOf l G σ j ((sp_adv n x 1).2) n a m (by omega) (by omega) (by omega) (by omega) (by omega) (by rw [sp_adv_70]; exact hs)) hR.2.2.2.1 hR.2.2.2.2 mt_X3_keepersOf (by omega) (lc_eW j (by omega)) rfl ml_X3_104 rfl rfl (Nat.le_of_ble_eq_true rfl) ⟨⟨rfl, rfl⟩, Nat.le_of_ble_eq_true rfl, Nat.le_of_ble_eq_true rfl⟩ dX3_removeValue_15 ?_
  show lc_V _ _ _ _ _ 18 _ [.int (sp_keepC (σ.2.1 (6 + j)) a n m (sp_oth (nI a) ((((sp_adv n x 1).2).1) 7 0))), .ref (G.1 (lc_it j (4 * a + k)))] (lc_w σ j ((sp_adv n x 1).2))
  refine lc_aload_n 0 dX3_removeValue_18 rfl ?_
  refine lc_gWNow j (by omega) fl_X3_37 dX3_removeValue_19 ?_
  refine lc_aload_n 0 dX3_removeValue_22 rfl ?_
  refine lc_gWLim j (by omega) fl_X3_9 dX3_removeValue_23 ?_
  refine lc_iconst (v := 2) dX3_removeValue_26 (by decide) ?_
  refine lc_iald (6 + j) 2 (by omega) (lc_eLim j (by omega)) (rfl) (by omega) (by decide) dX3_removeValue_27 ?_
  refine lc_callV (lc_it j (4 * a + k)) (c_X0_becomeCertificate l G σ j ((sp_adv n x 1).2) (4 * a + k) (by omega) (by omega) (sp_keepC (σ.2.1 (6 + j)) a n m (sp_oth (nI a) ((((sp_adv n x 1).2).1) 7 0))) ((((sp_adv n x 1).2).1) 7 1) ((((sp_adv n x 1).2).1) 6 2)) hR.2.2.2.1 hR.2.2.2.2 mt_X0_becomeCertificate (lc_it74 (by omega) (by omega)) (lc_ent_it G _ (by omega)) rfl ml_X3_108 rfl rfl (Nat.le_of_ble_eq_true rfl) ⟨⟨rfl, rfl⟩, Nat.le_of_ble_eq_true rfl, Nat.le_of_ble_eq_true rfl⟩ dX3_removeValue_28 ?_
  show lc_V _ _ _ _ _ 31 _ [] (lc_w σ j ((sp_cer (((sp_adv n x 1).2).1) (4 * a + k) (sp_keepC (σ.2.1 (6 + j)) a n m (sp_oth (nI a) ((((sp_adv n x 1).2).1) 7 0))) ((((sp_adv n x 1).2).1) 7 1) ((((sp_adv n x 1).2).1) 6 2), ((sp_adv n x 1).2).2)))
  refine lc_aload_n 0 dX3_removeValue_31 rfl ?_
  refine lc_gWLat j (by omega) fl_X3_24 dX3_removeValue_32 ?_
  refine lc_iload_n 2 dX3_removeValue_35 rfl ?_
  refine lc_aload_n 0 dX3_removeValue_36 rfl ?_
  refine lc_gWNow j (by omega) fl_X3_37 dX3_removeValue_37 ?_
  refine lc_swLat j k (by omega) (rfl) (by omega) dX3_removeValue_40 ?_
  refine lc_aload_n 0 dX3_removeValue_41 rfl ?_
  refine lc_gWNow j (by omega) fl_X3_37 dX3_removeValue_42 ?_
  exact lc_iret hR dX3_removeValue_45 (rfl) (rfl)
