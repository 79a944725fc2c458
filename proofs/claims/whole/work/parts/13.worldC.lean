set_option maxRecDepth 100000 in
set_option maxHeartbeats 4000000 in
theorem c_X3_newestKey (l : Launch) (G : lc_G) (σ : lc_S) (j : Nat) (x : lc_X) (a : Nat) (kind : Int32) (hj : j < 2) (ha : a < 6) : lc_M l G yX3_newestKey cX3_newestKey 7 (some .int) { frames := 1, cells := 0, slots := 0, locals := 22 } [.ref (G.1 (4 + j)), .int (nI a), .int (kind)] (lc_w σ j x) (some (.int (sp_on (sp_nks x.1 a kind)))) (lc_w σ j x) := by
  refine lc_entry [(0, .ref (G.1 (4 + j))), (1, .int (nI a)), (2, .int (kind))] (by decide) (Nat.le_of_ble_eq_true rfl) rfl rfl rfl ?_
  intro Γ hR
  refine lc_iconst (v := (-1)) dX3_newestKey_0 (by decide) ?_
  refine lc_istore_n [(3, .int ((-1))), (0, .ref (G.1 (4 + j))), (1, .int (nI a)), (2, .int (kind))] dX3_newestKey_1 (by decide) rfl ?_
  refine lc_iconst (v := 0) dX3_newestKey_2 (by decide) ?_
  refine lc_istore [(4, .int (0)), (3, .int ((-1))), (0, .ref (G.1 (4 + j))), (1, .int (nI a)), (2, .int (kind))] dX3_newestKey_3 (by decide) rfl ?_
  refine lc_lv (lv' := [(0, .ref (G.1 (4 + j))), (1, .int (nI a)), (2, .int (kind)), (3, .int ((-1))), (4, .int (0))]) [2, 3, 4, 1, 0] rfl ?_
  refine lc_forI (α := Option Nat) (fun i z => lc_V G Γ _ _ _ 5 [(0, .ref (G.1 (4 + j))), (1, .int (nI a)), (2, .int (kind)), (3, .int (sp_on z)), (4, .int (nI i))] [] (lc_w σ j x)) (fun i z => ∀ b, z = some b → b < i) (sp_nk x.1 a kind) 4 (fun i z _ h => sp_nk_I _ _ _ _ _ h) (fun i z hi hIi ki => ?_) none (fun b h => by cases h) (fun _ => ?_)
  · skip
    rcases z with _ | b
    · skip
      show lc_V G Γ _ _ _ 5 [(0, .ref (G.1 (4 + j))), (1, .int (nI a)), (2, .int (kind)), (3, .int ((-1))), (4, .int (nI i))] [] (lc_w σ j x)
      refine lc_iload 4 dX3_newestKey_5 rfl ?_
      refine lc_iconst (v := 4) dX3_newestKey_7 (by decide) ?_
      refine lc_icmp_ge 89 dX3_newestKey_8 (by decide) (fun h => absurd h.1 (by exact nI_ge (b := 4) hi (by omega))) (fun _ => ?_)
      refine lc_aload_n 0 dX3_newestKey_11 rfl ?_
      refine lc_iload_n 1 dX3_newestKey_12 rfl ?_
      refine lc_iload 4 dX3_newestKey_13 rfl ?_
      refine lc_callV (4 + j) (c_X3_itemAt l G (lc_w σ j x) j a i (by omega) (by omega) (by omega)) hR.2.2.2.1 hR.2.2.2.2 mt_X3_itemAt (by omega) (lc_eW j (by omega)) rfl ml_X3_75 rfl rfl (Nat.le_of_ble_eq_true rfl) ⟨⟨rfl, rfl⟩, Nat.le_of_ble_eq_true rfl, Nat.le_of_ble_eq_true rfl⟩ dX3_newestKey_15 ?_
      show lc_V _ _ _ _ _ 18 _ [.ref (G.1 (lc_it j (4 * a + i)))] (lc_w σ j x)
      refine lc_astore [(5, .ref (G.1 (lc_it j (4 * a + i)))), (0, .ref (G.1 (4 + j))), (1, .int (nI a)), (2, .int (kind)), (3, .int ((-1))), (4, .int (nI i))] dX3_newestKey_18 (by decide) rfl ?_
      refine lc_iload_n 3 dX3_newestKey_20 rfl ?_
      refine lc_if_ne 40 dX3_newestKey_21 (by decide) (fun c_2 => ?_) (fun c_2 => ?_)
      · skip
        refine lc_aload 0 dX3_newestKey_40 rfl ?_
        refine lc_gIw j (4 * a + i) 0 (by omega) (by omega) (by decide) fl_X3_87 dX3_newestKey_42 ?_
        refine lc_iload_n 3 dX3_newestKey_45 rfl ?_
        refine lc_icmp_ne 53 dX3_newestKey_46 (by decide) (fun c_3 => ?_) (fun c_3 => ?_)
        · skip
          refine lc_iconst (v := 0) dX3_newestKey_53 (by decide) ?_
          refine lc_istore [(6, .int (0)), (5, .ref (G.1 (lc_it j (4 * a + i)))), (0, .ref (G.1 (4 + j))), (1, .int (nI a)), (2, .int (kind)), (3, .int ((-1))), (4, .int (nI i))] dX3_newestKey_54 (by decide) rfl ?_
          refine lc_iload 0 dX3_newestKey_56 rfl ?_
          refine lc_if_eq 83 dX3_newestKey_58 (by decide) (fun _ => ?_) (fun h => absurd h (by decide))
          refine lc_iinc 6 (nI (i + 1)) [(4, .int (nI (i + 1))), (6, .int (0)), (5, .ref (G.1 (lc_it j (4 * a + i)))), (0, .ref (G.1 (4 + j))), (1, .int (nI a)), (2, .int (kind)), (3, .int ((-1)))] dX3_newestKey_83 rfl (lc_inc1 i) (by decide) rfl ?_
          refine lc_goto 5 dX3_newestKey_86 (by decide) ?_
          refine lc_lv (lv' := [(0, .ref (G.1 (4 + j))), (1, .int (nI a)), (2, .int (kind)), (3, .int ((-1))), (4, .int (nI (i + 1)))]) [3, 4, 5, 6, 0] rfl ?_
          rw [show sp_nk x.1 a kind i (none) = none from by simp [sp_nk, c_2, c_3]] at ki
          exact ki
        · skip
          refine lc_iconst (v := 1) dX3_newestKey_49 (by decide) ?_
          refine lc_goto 54 dX3_newestKey_50 (by decide) ?_
          refine lc_istore [(6, .int (1)), (5, .ref (G.1 (lc_it j (4 * a + i)))), (0, .ref (G.1 (4 + j))), (1, .int (nI a)), (2, .int (kind)), (3, .int ((-1))), (4, .int (nI i))] dX3_newestKey_54 (by decide) rfl ?_
          refine lc_iload 0 dX3_newestKey_56 rfl ?_
          refine lc_if_eq 83 dX3_newestKey_58 (by decide) (fun h => absurd h (by decide)) (fun _ => ?_)
          refine lc_iload_n 5 dX3_newestKey_61 rfl ?_
          refine lc_iconst (v := (-1)) dX3_newestKey_62 (by decide) ?_
          refine lc_icmp_eq 80 dX3_newestKey_63 (by decide) (fun _ => ?_) (fun h => absurd h (by decide))
          refine lc_iload 6 dX3_newestKey_80 rfl ?_
          refine lc_istore_n [(3, .int (nI i)), (6, .int (1)), (5, .ref (G.1 (lc_it j (4 * a + i)))), (0, .ref (G.1 (4 + j))), (1, .int (nI a)), (2, .int (kind)), (4, .int (nI i))] dX3_newestKey_82 (by decide) rfl ?_
          refine lc_iinc 6 (nI (i + 1)) [(4, .int (nI (i + 1))), (3, .int (nI i)), (6, .int (1)), (5, .ref (G.1 (lc_it j (4 * a + i)))), (0, .ref (G.1 (4 + j))), (1, .int (nI a)), (2, .int (kind))] dX3_newestKey_83 rfl (lc_inc1 i) (by decide) rfl ?_
          refine lc_goto 5 dX3_newestKey_86 (by decide) ?_
          refine lc_lv (lv' := [(0, .ref (G.1 (4 + j))), (1, .int (nI a)), (2, .int (kind)), (3, .int (nI i)), (4, .int (nI (i + 1)))]) [4, 5, 6, 1, 0] rfl ?_
          rw [show sp_nk x.1 a kind i (none) = some i from by simp [sp_nk, c_2, c_3]] at ki
          exact ki
      · skip
        refine lc_aload 0 dX3_newestKey_24 rfl ?_
        refine lc_gIw j (4 * a + i) 0 (by omega) (by omega) (by decide) fl_X3_87 dX3_newestKey_26 ?_
        refine lc_if_eq 36 dX3_newestKey_29 (by decide) (fun c_7 => ?_) (fun c_7 => ?_)
        · skip
          refine lc_iconst (v := 0) dX3_newestKey_36 (by decide) ?_
          refine lc_goto 54 dX3_newestKey_37 (by decide) ?_
          refine lc_istore [(6, .int (0)), (5, .ref (G.1 (lc_it j (4 * a + i)))), (0, .ref (G.1 (4 + j))), (1, .int (nI a)), (2, .int (kind)), (3, .int ((-1))), (4, .int (nI i))] dX3_newestKey_54 (by decide) rfl ?_
          refine lc_iload 0 dX3_newestKey_56 rfl ?_
          refine lc_if_eq 83 dX3_newestKey_58 (by decide) (fun _ => ?_) (fun h => absurd h (by decide))
          refine lc_iinc 6 (nI (i + 1)) [(4, .int (nI (i + 1))), (6, .int (0)), (5, .ref (G.1 (lc_it j (4 * a + i)))), (0, .ref (G.1 (4 + j))), (1, .int (nI a)), (2, .int (kind)), (3, .int ((-1)))] dX3_newestKey_83 rfl (lc_inc1 i) (by decide) rfl ?_
          refine lc_goto 5 dX3_newestKey_86 (by decide) ?_
          refine lc_lv (lv' := [(0, .ref (G.1 (4 + j))), (1, .int (nI a)), (2, .int (kind)), (3, .int ((-1))), (4, .int (nI (i + 1)))]) [3, 4, 5, 6, 0] rfl ?_
          rw [show sp_nk x.1 a kind i (none) = none from by simp [sp_nk, c_2, c_7]] at ki
          exact ki
        · skip
          refine lc_iconst (v := 1) dX3_newestKey_32 (by decide) ?_
          refine lc_goto 54 dX3_newestKey_33 (by decide) ?_
          refine lc_istore [(6, .int (1)), (5, .ref (G.1 (lc_it j (4 * a + i)))), (0, .ref (G.1 (4 + j))), (1, .int (nI a)), (2, .int (kind)), (3, .int ((-1))), (4, .int (nI i))] dX3_newestKey_54 (by decide) rfl ?_
          refine lc_iload 0 dX3_newestKey_56 rfl ?_
          refine lc_if_eq 83 dX3_newestKey_58 (by decide) (fun h => absurd h (by decide)) (fun _ => ?_)
          refine lc_iload_n 5 dX3_newestKey_61 rfl ?_
          refine lc_iconst (v := (-1)) dX3_newestKey_62 (by decide) ?_
          refine lc_icmp_eq 80 dX3_newestKey_63 (by decide) (fun _ => ?_) (fun h => absurd h (by decide))
          refine lc_iload 6 dX3_newestKey_80 rfl ?_
          refine lc_istore_n [(3, .int (nI i)), (6, .int (1)), (5, .ref (G.1 (lc_it j (4 * a + i)))), (0, .ref (G.1 (4 + j))), (1, .int (nI a)), (2, .int (kind)), (4, .int (nI i))] dX3_newestKey_82 (by decide) rfl ?_
          refine lc_iinc 6 (nI (i + 1)) [(4, .int (nI (i + 1))), (3, .int (nI i)), (6, .int (1)), (5, .ref (G.1 (lc_it j (4 * a + i)))), (0, .ref (G.1 (4 + j))), (1, .int (nI a)), (2, .int (kind))] dX3_newestKey_83 rfl (lc_inc1 i) (by decide) rfl ?_
          refine lc_goto 5 dX3_newestKey_86 (by decide) ?_
          refine lc_lv (lv' := [(0, .ref (G.1 (4 + j))), (1, .int (nI a)), (2, .int (kind)), (3, .int (nI i)), (4, .int (nI (i + 1)))]) [4, 5, 6, 1, 0] rfl ?_
          rw [show sp_nk x.1 a kind i (none) = some i from by simp [sp_nk, c_2, c_7]] at ki
          exact ki
    · skip
      have hb4 : b < 4 := by have := hIi b rfl; omega
      have hbb : b < 2 ^ 31 := by omega
      show lc_V G Γ _ _ _ 5 [(0, .ref (G.1 (4 + j))), (1, .int (nI a)), (2, .int (kind)), (3, .int (nI b)), (4, .int (nI i))] [] (lc_w σ j x)
      refine lc_iload 4 dX3_newestKey_5 rfl ?_
      refine lc_iconst (v := 4) dX3_newestKey_7 (by decide) ?_
      refine lc_icmp_ge 89 dX3_newestKey_8 (by decide) (fun h => absurd h.1 (by exact nI_ge (b := 4) hi (by omega))) (fun _ => ?_)
      refine lc_aload_n 0 dX3_newestKey_11 rfl ?_
      refine lc_iload_n 1 dX3_newestKey_12 rfl ?_
      refine lc_iload 4 dX3_newestKey_13 rfl ?_
      refine lc_callV (4 + j) (c_X3_itemAt l G (lc_w σ j x) j a i (by omega) (by omega) (by omega)) hR.2.2.2.1 hR.2.2.2.2 mt_X3_itemAt (by omega) (lc_eW j (by omega)) rfl ml_X3_75 rfl rfl (Nat.le_of_ble_eq_true rfl) ⟨⟨rfl, rfl⟩, Nat.le_of_ble_eq_true rfl, Nat.le_of_ble_eq_true rfl⟩ dX3_newestKey_15 ?_
      show lc_V _ _ _ _ _ 18 _ [.ref (G.1 (lc_it j (4 * a + i)))] (lc_w σ j x)
      refine lc_astore [(5, .ref (G.1 (lc_it j (4 * a + i)))), (0, .ref (G.1 (4 + j))), (1, .int (nI a)), (2, .int (kind)), (3, .int (nI b)), (4, .int (nI i))] dX3_newestKey_18 (by decide) rfl ?_
      refine lc_iload_n 3 dX3_newestKey_20 rfl ?_
      refine lc_if_ne 40 dX3_newestKey_21 (by decide) (fun c_12 => ?_) (fun c_12 => ?_)
      · skip
        refine lc_aload 0 dX3_newestKey_40 rfl ?_
        refine lc_gIw j (4 * a + i) 0 (by omega) (by omega) (by decide) fl_X3_87 dX3_newestKey_42 ?_
        refine lc_iload_n 3 dX3_newestKey_45 rfl ?_
        refine lc_icmp_ne 53 dX3_newestKey_46 (by decide) (fun c_13 => ?_) (fun c_13 => ?_)
        · skip
          refine lc_iconst (v := 0) dX3_newestKey_53 (by decide) ?_
          refine lc_istore [(6, .int (0)), (5, .ref (G.1 (lc_it j (4 * a + i)))), (0, .ref (G.1 (4 + j))), (1, .int (nI a)), (2, .int (kind)), (3, .int (nI b)), (4, .int (nI i))] dX3_newestKey_54 (by decide) rfl ?_
          refine lc_iload 0 dX3_newestKey_56 rfl ?_
          refine lc_if_eq 83 dX3_newestKey_58 (by decide) (fun _ => ?_) (fun h => absurd h (by decide))
          refine lc_iinc 6 (nI (i + 1)) [(4, .int (nI (i + 1))), (6, .int (0)), (5, .ref (G.1 (lc_it j (4 * a + i)))), (0, .ref (G.1 (4 + j))), (1, .int (nI a)), (2, .int (kind)), (3, .int (nI b))] dX3_newestKey_83 rfl (lc_inc1 i) (by decide) rfl ?_
          refine lc_goto 5 dX3_newestKey_86 (by decide) ?_
          refine lc_lv (lv' := [(0, .ref (G.1 (4 + j))), (1, .int (nI a)), (2, .int (kind)), (3, .int (nI b)), (4, .int (nI (i + 1)))]) [3, 4, 5, 6, 0] rfl ?_
          rw [show sp_nk x.1 a kind i (some b) = some b from by simp [sp_nk, c_12, c_13]] at ki
          exact ki
        · skip
          refine lc_iconst (v := 1) dX3_newestKey_49 (by decide) ?_
          refine lc_goto 54 dX3_newestKey_50 (by decide) ?_
          refine lc_istore [(6, .int (1)), (5, .ref (G.1 (lc_it j (4 * a + i)))), (0, .ref (G.1 (4 + j))), (1, .int (nI a)), (2, .int (kind)), (3, .int (nI b)), (4, .int (nI i))] dX3_newestKey_54 (by decide) rfl ?_
          refine lc_iload 0 dX3_newestKey_56 rfl ?_
          refine lc_if_eq 83 dX3_newestKey_58 (by decide) (fun h => absurd h (by decide)) (fun _ => ?_)
          refine lc_iload_n 5 dX3_newestKey_61 rfl ?_
          refine lc_iconst (v := (-1)) dX3_newestKey_62 (by decide) ?_
          refine lc_icmp_eq 80 dX3_newestKey_63 (by decide) (fun h => (lc_nm1b hbb h).elim) (fun _ => ?_)
          refine lc_aload 1 dX3_newestKey_66 rfl ?_
          refine lc_aload_n 2 dX3_newestKey_68 rfl ?_
          refine lc_iload_n 3 dX3_newestKey_69 rfl ?_
          refine lc_iload_n 5 dX3_newestKey_70 rfl ?_
          refine lc_callV (4 + j) (c_X3_itemAt l G (lc_w σ j x) j a b (by omega) (by omega) (by omega)) hR.2.2.2.1 hR.2.2.2.2 mt_X3_itemAt (by omega) (lc_eW j (by omega)) rfl ml_X3_75 rfl rfl (Nat.le_of_ble_eq_true rfl) ⟨⟨rfl, rfl⟩, Nat.le_of_ble_eq_true rfl, Nat.le_of_ble_eq_true rfl⟩ dX3_newestKey_71 ?_
          show lc_V _ _ _ _ _ 74 _ [.ref (G.1 (lc_it j (4 * a + b))), .ref (G.1 (lc_it j (4 * a + i)))] (lc_w σ j x)
          refine lc_callV (lc_it j (4 * a + i)) (c_X0_isNewer l G σ j x (4 * a + i) (4 * a + b) (by omega) (by omega) (by omega)) hR.2.2.2.1 hR.2.2.2.2 mt_X0_isNewer (lc_it74 (by omega) (by omega)) (lc_ent_it G _ (by omega)) rfl ml_X3_149 rfl rfl (Nat.le_of_ble_eq_true rfl) ⟨⟨rfl, rfl⟩, Nat.le_of_ble_eq_true rfl, Nat.le_of_ble_eq_true rfl⟩ dX3_newestKey_74 ?_
          show lc_V _ _ _ _ _ 77 _ [.int (lc_bi (sp_new x.1 (4 * a + i) (4 * a + b)))] (lc_w σ j x)
          refine lc_ifb_eq 83 dX3_newestKey_77 (by decide) (fun c_17 => ?_) (fun c_17 => ?_)
          · skip
            refine lc_iinc 6 (nI (i + 1)) [(4, .int (nI (i + 1))), (6, .int (1)), (5, .ref (G.1 (lc_it j (4 * a + i)))), (0, .ref (G.1 (4 + j))), (1, .int (nI a)), (2, .int (kind)), (3, .int (nI b))] dX3_newestKey_83 rfl (lc_inc1 i) (by decide) rfl ?_
            refine lc_goto 5 dX3_newestKey_86 (by decide) ?_
            refine lc_lv (lv' := [(0, .ref (G.1 (4 + j))), (1, .int (nI a)), (2, .int (kind)), (3, .int (nI b)), (4, .int (nI (i + 1)))]) [3, 4, 5, 6, 0] rfl ?_
            rw [show sp_nk x.1 a kind i (some b) = some b from by simp [sp_nk, c_12, c_13, c_17]] at ki
            exact ki
          · skip
            refine lc_iload 6 dX3_newestKey_80 rfl ?_
            refine lc_istore_n [(3, .int (nI i)), (6, .int (1)), (5, .ref (G.1 (lc_it j (4 * a + i)))), (0, .ref (G.1 (4 + j))), (1, .int (nI a)), (2, .int (kind)), (4, .int (nI i))] dX3_newestKey_82 (by decide) rfl ?_
            refine lc_iinc 6 (nI (i + 1)) [(4, .int (nI (i + 1))), (3, .int (nI i)), (6, .int (1)), (5, .ref (G.1 (lc_it j (4 * a + i)))), (0, .ref (G.1 (4 + j))), (1, .int (nI a)), (2, .int (kind))] dX3_newestKey_83 rfl (lc_inc1 i) (by decide) rfl ?_
            refine lc_goto 5 dX3_newestKey_86 (by decide) ?_
            refine lc_lv (lv' := [(0, .ref (G.1 (4 + j))), (1, .int (nI a)), (2, .int (kind)), (3, .int (nI i)), (4, .int (nI (i + 1)))]) [4, 5, 6, 1, 0] rfl ?_
            rw [show sp_nk x.1 a kind i (some b) = some i from by simp [sp_nk, c_12, c_13, c_17]] at ki
            exact ki
      · skip
        refine lc_aload 0 dX3_newestKey_24 rfl ?_
        refine lc_gIw j (4 * a + i) 0 (by omega) (by omega) (by decide) fl_X3_87 dX3_newestKey_26 ?_
        refine lc_if_eq 36 dX3_newestKey_29 (by decide) (fun c_18 => ?_) (fun c_18 => ?_)
        · skip
          refine lc_iconst (v := 0) dX3_newestKey_36 (by decide) ?_
          refine lc_goto 54 dX3_newestKey_37 (by decide) ?_
          refine lc_istore [(6, .int (0)), (5, .ref (G.1 (lc_it j (4 * a + i)))), (0, .ref (G.1 (4 + j))), (1, .int (nI a)), (2, .int (kind)), (3, .int (nI b)), (4, .int (nI i))] dX3_newestKey_54 (by decide) rfl ?_
          refine lc_iload 0 dX3_newestKey_56 rfl ?_
          refine lc_if_eq 83 dX3_newestKey_58 (by decide) (fun _ => ?_) (fun h => absurd h (by decide))
          refine lc_iinc 6 (nI (i + 1)) [(4, .int (nI (i + 1))), (6, .int (0)), (5, .ref (G.1 (lc_it j (4 * a + i)))), (0, .ref (G.1 (4 + j))), (1, .int (nI a)), (2, .int (kind)), (3, .int (nI b))] dX3_newestKey_83 rfl (lc_inc1 i) (by decide) rfl ?_
          refine lc_goto 5 dX3_newestKey_86 (by decide) ?_
          refine lc_lv (lv' := [(0, .ref (G.1 (4 + j))), (1, .int (nI a)), (2, .int (kind)), (3, .int (nI b)), (4, .int (nI (i + 1)))]) [3, 4, 5, 6, 0] rfl ?_
          rw [show sp_nk x.1 a kind i (some b) = some b from by simp [sp_nk, c_12, c_18]] at ki
          exact ki
        · skip
          refine lc_iconst (v := 1) dX3_newestKey_32 (by decide) ?_
          refine lc_goto 54 dX3_newestKey_33 (by decide) ?_
          refine lc_istore [(6, .int (1)), (5, .ref (G.1 (lc_it j (4 * a + i)))), (0, .ref (G.1 (4 + j))), (1, .int (nI a)), (2, .int (kind)), (3, .int (nI b)), (4, .int (nI i))] dX3_newestKey_54 (by decide) rfl ?_
          refine lc_iload 0 dX3_newestKey_56 rfl ?_
          refine lc_if_eq 83 dX3_newestKey_58 (by decide) (fun h => absurd h (by decide)) (fun _ => ?_)
          refine lc_iload_n 5 dX3_newestKey_61 rfl ?_
          refine lc_iconst (v := (-1)) dX3_newestKey_62 (by decide) ?_
          refine lc_icmp_eq 80 dX3_newestKey_63 (by decide) (fun h => (lc_nm1b hbb h).elim) (fun _ => ?_)
          refine lc_aload 1 dX3_newestKey_66 rfl ?_
          refine lc_aload_n 2 dX3_newestKey_68 rfl ?_
          refine lc_iload_n 3 dX3_newestKey_69 rfl ?_
          refine lc_iload_n 5 dX3_newestKey_70 rfl ?_
          refine lc_callV (4 + j) (c_X3_itemAt l G (lc_w σ j x) j a b (by omega) (by omega) (by omega)) hR.2.2.2.1 hR.2.2.2.2 mt_X3_itemAt (by omega) (lc_eW j (by omega)) rfl ml_X3_75 rfl rfl (Nat.le_of_ble_eq_true rfl) ⟨⟨rfl, rfl⟩, Nat.le_of_ble_eq_true rfl, Nat.le_of_ble_eq_true rfl⟩ dX3_newestKey_71 ?_
          show lc_V _ _ _ _ _ 74 _ [.ref (G.1 (lc_it j (4 * a + b))), .ref (G.1 (lc_it j (4 * a + i)))] (lc_w σ j x)
          refine lc_callV (lc_it j (4 * a + i)) (c_X0_isNewer l G σ j x (4 * a + i) (4 * a + b) (by omega) (by omega) (by omega)) hR.2.2.2.1 hR.2.2.2.2 mt_X0_isNewer (lc_it74 (by omega) (by omega)) (lc_ent_it G _ (by omega)) rfl ml_X3_149 rfl rfl (Nat.le_of_ble_eq_true rfl) ⟨⟨rfl, rfl⟩, Nat.le_of_ble_eq_true rfl, Nat.le_of_ble_eq_true rfl⟩ dX3_newestKey_74 ?_
          show lc_V _ _ _ _ _ 77 _ [.int (lc_bi (sp_new x.1 (4 * a + i) (4 * a + b)))] (lc_w σ j x)
          refine lc_ifb_eq 83 dX3_newestKey_77 (by decide) (fun c_22 => ?_) (fun c_22 => ?_)
          · skip
            refine lc_iinc 6 (nI (i + 1)) [(4, .int (nI (i + 1))), (6, .int (1)), (5, .ref (G.1 (lc_it j (4 * a + i)))), (0, .ref (G.1 (4 + j))), (1, .int (nI a)), (2, .int (kind)), (3, .int (nI b))] dX3_newestKey_83 rfl (lc_inc1 i) (by decide) rfl ?_
            refine lc_goto 5 dX3_newestKey_86 (by decide) ?_
            refine lc_lv (lv' := [(0, .ref (G.1 (4 + j))), (1, .int (nI a)), (2, .int (kind)), (3, .int (nI b)), (4, .int (nI (i + 1)))]) [3, 4, 5, 6, 0] rfl ?_
            rw [show sp_nk x.1 a kind i (some b) = some b from by simp [sp_nk, c_12, c_18, c_22]] at ki
            exact ki
          · skip
            refine lc_iload 6 dX3_newestKey_80 rfl ?_
            refine lc_istore_n [(3, .int (nI i)), (6, .int (1)), (5, .ref (G.1 (lc_it j (4 * a + i)))), (0, .ref (G.1 (4 + j))), (1, .int (nI a)), (2, .int (kind)), (4, .int (nI i))] dX3_newestKey_82 (by decide) rfl ?_
            refine lc_iinc 6 (nI (i + 1)) [(4, .int (nI (i + 1))), (3, .int (nI i)), (6, .int (1)), (5, .ref (G.1 (lc_it j (4 * a + i)))), (0, .ref (G.1 (4 + j))), (1, .int (nI a)), (2, .int (kind))] dX3_newestKey_83 rfl (lc_inc1 i) (by decide) rfl ?_
            refine lc_goto 5 dX3_newestKey_86 (by decide) ?_
            refine lc_lv (lv' := [(0, .ref (G.1 (4 + j))), (1, .int (nI a)), (2, .int (kind)), (3, .int (nI i)), (4, .int (nI (i + 1)))]) [4, 5, 6, 1, 0] rfl ?_
            rw [show sp_nk x.1 a kind i (some b) = some i from by simp [sp_nk, c_12, c_18, c_22]] at ki
            exact ki
  · skip
    show lc_V G Γ _ _ _ 5 [(0, .ref (G.1 (4 + j))), (1, .int (nI a)), (2, .int (kind)), (3, .int (sp_on (sp_nks x.1 a kind))), (4, .int (nI 4))] [] (lc_w σ j x)
    refine lc_iload 4 dX3_newestKey_5 rfl ?_
    refine lc_iconst (v := 4) dX3_newestKey_7 (by decide) ?_
    refine lc_icmp_ge 89 dX3_newestKey_8 (by decide) (fun _ => ?_) (fun h => absurd h.1 (by exact nI_nlt (a := 4) (b := 4) (Nat.le_refl _) (by omega)))
    refine lc_iload_n 3 dX3_newestKey_89 rfl ?_
    exact lc_iret hR dX3_newestKey_90 (rfl) (rfl)

theorem sp_line_sim (σ : lc_S) (x : lc_X) : lc_sim (lc_w (sp_it (sp_zr 3) 4 (sp_it (sp_cpo 6 9 (fun v => v)) 6 σ)) 0 (sp_it sp_nn 24 ((((lc_cu (lc_cu (lc_cu x.1 7 0 (σ.2.1 10 0)) 7 1 0) 7 2 0, x.2)).1, (0 - σ.2.1 0 0), (0 - σ.2.1 0 1), (0 - σ.2.1 0 2))))) (sp_line σ 0 3 6 (σ.2.1 9) (x.1 6) (σ.2.1 10 0)) := by
  have hn := sp_nn_it ((((lc_cu (lc_cu (lc_cu x.1 7 0 (σ.2.1 10 0)) 7 1 0) 7 2 0, x.2)).1, (0 - σ.2.1 0 0), (0 - σ.2.1 0 1), (0 - σ.2.1 0 2))) 24
  have hz := sp_zr_it 3 (sp_it (sp_cpo 6 9 (fun v => v)) 6 σ) 4
  have hc := sp_cpo_it 6 9 (fun v => v) (by decide) σ 6
  generalize sp_it sp_nn 24 ((((lc_cu (lc_cu (lc_cu x.1 7 0 (σ.2.1 10 0)) 7 1 0) 7 2 0, x.2)).1, (0 - σ.2.1 0 0), (0 - σ.2.1 0 1), (0 - σ.2.1 0 2))) = y at hn ⊢
  generalize sp_it (sp_zr 3) 4 (sp_it (sp_cpo 6 9 (fun v => v)) 6 σ) = s2 at hz ⊢
  generalize sp_it (sp_cpo 6 9 (fun v => v)) 6 σ = s1 at hz hc
  obtain ⟨hn1, hn2⟩ := hn
  obtain ⟨hz1, hz2, hz3⟩ := hz
  obtain ⟨hc1, hc2, hc3⟩ := hc
  have o : ∀ r k, r ≠ 0 → (sp_line σ 0 3 6 (σ.2.1 9) (x.1 6) (σ.2.1 10 0)).2.1 r k = if r = 3 then 0 else if r = 6 then σ.2.1 9 k else σ.2.1 r k := by
    intro r k h
    unfold sp_line
    rw [lc_w_on _ _ h]
    unfold lc_ro
    by_cases h3 : r = 3
    · subst h3; simp
    · by_cases h6 : r = 6
      · subst h6; simp
      · simp [h, h3, h6]
  have o2 : ∀ r k, s2.2.1 r k = if r = 3 ∧ k < 4 then 0 else if r = 6 ∧ k < 6 then σ.2.1 9 k else σ.2.1 r k := by
    intro r k; rw [hz3, hc3]
  refine ⟨fun j f i hj hf hi => ?_, fun j i hj hi => ?_, fun j i hj hi => ?_, fun r i hr hi => ?_, fun r i h1 h2 hi => ?_, fun r i h1 h2 hi => ?_, fun i hi => ?_, fun i hi => ?_, fun i hi => ?_, fun i hi => ?_, ?_, ?_⟩
  · by_cases h : j = 0
    · subst h
      rw [lc_w_c]
      unfold sp_line
      rw [lc_w_c, hn2, if_pos ⟨hi, hf⟩]
      exact (sp_fresh_f (x.1 6) (σ.2.1 10 0) f i hf).symm
    · rw [lc_w_cn _ _ h]
      unfold sp_line
      rw [lc_w_cn _ _ h, hz1, hc1]
      rfl
  · by_cases h : j = 0
    · subst h
      rw [lc_w_c]
      unfold sp_line
      rw [lc_w_c, hn2, if_neg (fun z => absurd z.2 (by decide))]
      rfl
    · rw [lc_w_cn _ _ h]
      unfold sp_line
      rw [lc_w_cn _ _ h, hz1, hc1]
      rfl
  · by_cases h : j = 0
    · subst h
      rw [lc_w_c]
      unfold sp_line
      rw [lc_w_c, hn2, if_neg (fun z => absurd z.2 (by decide))]
      match i, hi with
      | 0, _ => rfl
      | 1, _ => rfl
      | 2, _ => rfl
    · rw [lc_w_cn _ _ h]
      unfold sp_line
      rw [lc_w_cn _ _ h, hz1, hc1]
      rfl
  · by_cases h : r = 0
    · subst h
      have e : ∀ k, s2.2.1 0 k = σ.2.1 0 k := fun k => by rw [o2]; simp
      match i, hi with
      | 0, _ => rw [lc_w_o0, hn1, e]; exact (lc_cz _).symm
      | 1, _ => rw [lc_w_o1, hn1, e]; exact (lc_cz _).symm
      | 2, _ => rw [lc_w_o2, hn1, e]; exact (lc_cz _).symm
    · rw [lc_w_on _ _ h, o _ _ h, o2]
      have h3 : ¬ r = 3 := by omega
      have h6 : ¬ r = 6 := by omega
      simp [h3, h6]
  · rw [lc_w_on _ _ (by omega), o _ _ (by omega), o2]
    have h6 : ¬ r = 6 := by omega
    simp [h6, hi]
  · rw [lc_w_on _ _ (by omega), o _ _ (by omega), o2]
    have h3 : ¬ r = 3 := by omega
    simp [h3, hi]
  · rw [lc_w_on _ _ (by decide), o _ _ (by decide), o2]; simp
  · rw [lc_w_on _ _ (by decide), o _ _ (by decide), o2]; simp
  · rw [lc_w_on _ _ (by decide), o _ _ (by decide), o2]; simp
  · rw [lc_w_on _ _ (by decide), o _ _ (by decide), o2]; simp
  · show s2.2.2 0 = σ.2.2 0
    rw [hz2, hc2]
  · show s2.2.2 1 = σ.2.2 1
    rw [hz2, hc2]

set_option maxRecDepth 100000 in
set_option maxHeartbeats 4000000 in
theorem c_X3_startLine (l : Launch) (G : lc_G) (σ : lc_S) (x : lc_X) : lc_M l G yX3_startLine cX3_startLine 3 none { frames := 1, cells := 0, slots := 0, locals := 20 } [.ref (G.1 (4)), .ref (G.1 (1))] (lc_w σ 0 x) none ((sp_line σ 0 3 6 (σ.2.1 9) (x.1 6) (σ.2.1 10 0))) := by
  refine lc_entry [(0, .ref (G.1 (4))), (1, .ref (G.1 (1)))] (by decide) (Nat.le_of_ble_eq_true rfl) rfl rfl rfl ?_
  intro Γ hR
  refine lc_aload_n 0 dX3_startLine_0 rfl ?_
  refine lc_aload_n 1 dX3_startLine_1 rfl ?_
  refine lc_gw_len 0 (by omega) fl_X3_28 dX3_startLine_2 ?_
  refine lc_pWSites 0 (by omega) fl_X3_34 dX3_startLine_5 ?_
  refine lc_aload_n 0 dX3_startLine_8 rfl ?_
  refine lc_iconst (v := 0) dX3_startLine_9 (by decide) ?_
  refine lc_pWNow 0 (by omega) fl_X3_37 dX3_startLine_10 ?_
  refine lc_aload_n 0 dX3_startLine_13 rfl ?_
  refine lc_iconst (v := 0) dX3_startLine_14 (by decide) ?_
  refine lc_pWOff 0 (by omega) fl_X3_40 dX3_startLine_15 ?_
  refine lc_aload_n 0 dX3_startLine_18 rfl ?_
  refine lc_iconst (v := 0) dX3_startLine_19 (by decide) ?_
  refine lc_pWTra 0 ((0 - σ.2.1 0 0)) (lc_cz _) (by omega) fl_X3_43 dX3_startLine_20 ?_
  refine lc_eq (σ' := lc_w σ 0 ((((lc_cu (lc_cu (lc_cu x.1 7 0 (σ.2.1 10 0)) 7 1 0) 7 2 0, x.2)).1, (0 - σ.2.1 0 0), ((lc_cu (lc_cu (lc_cu x.1 7 0 (σ.2.1 10 0)) 7 1 0) 7 2 0, x.2)).2.2.1, ((lc_cu (lc_cu (lc_cu x.1 7 0 (σ.2.1 10 0)) 7 1 0) 7 2 0, x.2)).2.2.2))) rfl ?_
  refine lc_aload_n 0 dX3_startLine_23 rfl ?_
  refine lc_iconst (v := 0) dX3_startLine_24 (by decide) ?_
  refine lc_pWWok 0 ((0 - σ.2.1 0 1)) (lc_cz _) (by omega) fl_X3_46 dX3_startLine_25 ?_
  refine lc_eq (σ' := lc_w σ 0 ((((lc_cu (lc_cu (lc_cu x.1 7 0 (σ.2.1 10 0)) 7 1 0) 7 2 0, x.2)).1, (0 - σ.2.1 0 0), (0 - σ.2.1 0 1), ((lc_cu (lc_cu (lc_cu x.1 7 0 (σ.2.1 10 0)) 7 1 0) 7 2 0, x.2)).2.2.2))) rfl ?_
  refine lc_aload_n 0 dX3_startLine_28 rfl ?_
  refine lc_iconst (v := 0) dX3_startLine_29 (by decide) ?_
  refine lc_pWGon 0 ((0 - σ.2.1 0 2)) (lc_cz _) (by omega) fl_X3_49 dX3_startLine_30 ?_
  refine lc_eq (σ' := lc_w σ 0 ((((lc_cu (lc_cu (lc_cu x.1 7 0 (σ.2.1 10 0)) 7 1 0) 7 2 0, x.2)).1, (0 - σ.2.1 0 0), (0 - σ.2.1 0 1), (0 - σ.2.1 0 2)))) rfl ?_
  refine lc_iconst (v := 0) dX3_startLine_33 (by decide) ?_
  refine lc_istore_n [(2, .int (0)), (0, .ref (G.1 (4))), (1, .ref (G.1 (1)))] dX3_startLine_34 (by decide) rfl ?_
  refine lc_lv (lv' := [(0, .ref (G.1 (4))), (1, .ref (G.1 (1))), (2, .int (0))]) [1, 2, 0] rfl ?_
  refine lc_forI (α := lc_S) (fun i z => lc_V G Γ cX3_startLine 3 RX3 35 [(0, .ref (G.1 (4))), (1, .ref (G.1 (1))), (2, .int (nI i))] [] (lc_w z 0 ((((lc_cu (lc_cu (lc_cu x.1 7 0 (σ.2.1 10 0)) 7 1 0) 7 2 0, x.2)).1, (0 - σ.2.1 0 0), (0 - σ.2.1 0 1), (0 - σ.2.1 0 2))))) (fun _ _ => True) (sp_cpo 6 9 (fun v => v)) 6 (fun _ _ _ _ => trivial) (fun i z hi hIi ki => ?_) σ (trivial) (fun hIi => ?_)
  · skip
    show lc_V G Γ cX3_startLine 3 RX3 35 [(0, .ref (G.1 (4))), (1, .ref (G.1 (1))), (2, .int (nI i))] [] (lc_w z 0 ((((lc_cu (lc_cu (lc_cu x.1 7 0 (σ.2.1 10 0)) 7 1 0) 7 2 0, x.2)).1, (0 - σ.2.1 0 0), (0 - σ.2.1 0 1), (0 - σ.2.1 0 2))))
    refine lc_iload_n 2 dX3_startLine_35 rfl ?_
    refine lc_bipush (v := 6) dX3_startLine_36 (by decide) ?_
    refine lc_icmp_ge 59 dX3_startLine_38 (by decide) (fun h => absurd h.1 (by exact nI_ge (b := 6) hi (by omega))) (fun _ => ?_)
    refine lc_aload_n 0 dX3_startLine_41 rfl ?_
    refine lc_gWPos 0 (by omega) fl_X3_15 dX3_startLine_42 ?_
    refine lc_iload_n 2 dX3_startLine_45 rfl ?_
    refine lc_aload_n 1 dX3_startLine_46 rfl ?_
    refine lc_g_codes fl_X3_52 dX3_startLine_47 ?_
    refine lc_iload_n 2 dX3_startLine_50 rfl ?_
    refine lc_iald (2) i (by omega) (rfl) (rfl) (by omega) (by decide) dX3_startLine_51 ?_
    refine lc_sw_pos0 0 i (by omega) (rfl) (by omega) dX3_startLine_52 ?_
    refine lc_iinc 2 (nI (i + 1)) [(2, .int (nI (i + 1))), (0, .ref (G.1 (4))), (1, .ref (G.1 (1)))] dX3_startLine_53 rfl (lc_inc1 i) (by decide) rfl ?_
    refine lc_goto 35 dX3_startLine_56 (by decide) ?_
    refine lc_lv (lv' := [(0, .ref (G.1 (4))), (1, .ref (G.1 (1))), (2, .int (nI (i + 1)))]) [1, 2, 0] rfl ?_
    rw [show (sp_cpo 6 9 (fun v => v)) i z = (lc_uo z (6) i (z.2.1 9 i)) from rfl] at ki
    exact ki
  · skip
    show lc_V G Γ cX3_startLine 3 RX3 35 [(0, .ref (G.1 (4))), (1, .ref (G.1 (1))), (2, .int (nI 6))] [] (lc_w ((sp_it (sp_cpo 6 9 (fun v => v)) 6 σ)) 0 ((((lc_cu (lc_cu (lc_cu x.1 7 0 (σ.2.1 10 0)) 7 1 0) 7 2 0, x.2)).1, (0 - σ.2.1 0 0), (0 - σ.2.1 0 1), (0 - σ.2.1 0 2))))
    refine lc_iload_n 2 dX3_startLine_35 rfl ?_
    refine lc_bipush (v := 6) dX3_startLine_36 (by decide) ?_
    refine lc_icmp_ge 59 dX3_startLine_38 (by decide) (fun _ => ?_) (fun h => absurd h.1 (by exact nI_nlt (a := 6) (b := 6) (Nat.le_refl _) (by omega)))
    refine lc_iconst (v := 0) dX3_startLine_59 (by decide) ?_
    refine lc_istore_n [(2, .int (0)), (0, .ref (G.1 (4))), (1, .ref (G.1 (1)))] dX3_startLine_60 (by decide) rfl ?_
    refine lc_lv (lv' := [(0, .ref (G.1 (4))), (1, .ref (G.1 (1))), (2, .int (0))]) [1, 2, 0] rfl ?_
    refine lc_forI (α := lc_S) (fun i z => lc_V G Γ cX3_startLine 3 RX3 61 [(0, .ref (G.1 (4))), (1, .ref (G.1 (1))), (2, .int (nI i))] [] (lc_w z 0 ((((lc_cu (lc_cu (lc_cu x.1 7 0 (σ.2.1 10 0)) 7 1 0) 7 2 0, x.2)).1, (0 - σ.2.1 0 0), (0 - σ.2.1 0 1), (0 - σ.2.1 0 2))))) (fun _ _ => True) (sp_zr 3) 4 (fun _ _ _ _ => trivial) (fun i z hi hIi ki => ?_) ((sp_it (sp_cpo 6 9 (fun v => v)) 6 σ)) (trivial) (fun hIi => ?_)
    · skip
      show lc_V G Γ cX3_startLine 3 RX3 61 [(0, .ref (G.1 (4))), (1, .ref (G.1 (1))), (2, .int (nI i))] [] (lc_w z 0 ((((lc_cu (lc_cu (lc_cu x.1 7 0 (σ.2.1 10 0)) 7 1 0) 7 2 0, x.2)).1, (0 - σ.2.1 0 0), (0 - σ.2.1 0 1), (0 - σ.2.1 0 2))))
      refine lc_iload_n 2 dX3_startLine_61 rfl ?_
      refine lc_iconst (v := 4) dX3_startLine_62 (by decide) ?_
      refine lc_icmp_ge 79 dX3_startLine_63 (by decide) (fun h => absurd h.1 (by exact nI_ge (b := 4) hi (by omega))) (fun _ => ?_)
      refine lc_aload_n 0 dX3_startLine_66 rfl ?_
      refine lc_gWLat 0 (by omega) fl_X3_24 dX3_startLine_67 ?_
      refine lc_iload_n 2 dX3_startLine_70 rfl ?_
      refine lc_iconst (v := 0) dX3_startLine_71 (by decide) ?_
      refine lc_sw_lat0 0 i (by omega) (rfl) (by omega) dX3_startLine_72 ?_
      refine lc_iinc 2 (nI (i + 1)) [(2, .int (nI (i + 1))), (0, .ref (G.1 (4))), (1, .ref (G.1 (1)))] dX3_startLine_73 rfl (lc_inc1 i) (by decide) rfl ?_
      refine lc_goto 61 dX3_startLine_76 (by decide) ?_
      refine lc_lv (lv' := [(0, .ref (G.1 (4))), (1, .ref (G.1 (1))), (2, .int (nI (i + 1)))]) [1, 2, 0] rfl ?_
      rw [show (sp_zr 3) i z = (lc_uo z (3) i 0) from rfl] at ki
      exact ki
    · skip
      show lc_V G Γ cX3_startLine 3 RX3 61 [(0, .ref (G.1 (4))), (1, .ref (G.1 (1))), (2, .int (nI 4))] [] (lc_w ((sp_it (sp_zr 3) 4 (sp_it (sp_cpo 6 9 (fun v => v)) 6 σ))) 0 ((((lc_cu (lc_cu (lc_cu x.1 7 0 (σ.2.1 10 0)) 7 1 0) 7 2 0, x.2)).1, (0 - σ.2.1 0 0), (0 - σ.2.1 0 1), (0 - σ.2.1 0 2))))
      refine lc_iload_n 2 dX3_startLine_61 rfl ?_
      refine lc_iconst (v := 4) dX3_startLine_62 (by decide) ?_
      refine lc_icmp_ge 79 dX3_startLine_63 (by decide) (fun _ => ?_) (fun h => absurd h.1 (by exact nI_nlt (a := 4) (b := 4) (Nat.le_refl _) (by omega)))
      refine lc_iconst (v := 0) dX3_startLine_79 (by decide) ?_
      refine lc_istore_n [(2, .int (0)), (0, .ref (G.1 (4))), (1, .ref (G.1 (1)))] dX3_startLine_80 (by decide) rfl ?_
      refine lc_lv (lv' := [(0, .ref (G.1 (4))), (1, .ref (G.1 (1))), (2, .int (0))]) [1, 2, 0] rfl ?_
      refine lc_forI (α := lc_X) (fun i z => lc_V G Γ cX3_startLine 3 RX3 81 [(0, .ref (G.1 (4))), (1, .ref (G.1 (1))), (2, .int (nI i))] [] (lc_w ((sp_it (sp_zr 3) 4 (sp_it (sp_cpo 6 9 (fun v => v)) 6 σ))) 0 z)) (fun _ _ => True) (sp_nn) 24 (fun _ _ _ _ => trivial) (fun i z hi hIi ki => ?_) ((((lc_cu (lc_cu (lc_cu x.1 7 0 (σ.2.1 10 0)) 7 1 0) 7 2 0, x.2)).1, (0 - σ.2.1 0 0), (0 - σ.2.1 0 1), (0 - σ.2.1 0 2))) (trivial) (fun hIi => ?_)
      · skip
        show lc_V G Γ cX3_startLine 3 RX3 81 [(0, .ref (G.1 (4))), (1, .ref (G.1 (1))), (2, .int (nI i))] [] (lc_w ((sp_it (sp_zr 3) 4 (sp_it (sp_cpo 6 9 (fun v => v)) 6 σ))) 0 z)
        refine lc_iload_n 2 dX3_startLine_81 rfl ?_
        refine lc_aload_n 0 dX3_startLine_82 rfl ?_
        refine lc_gWIts 0 (by omega) fl_X3_20 dX3_startLine_83 ?_
        refine lc_ilen 0 (by omega) dX3_startLine_86 ?_
        refine lc_icmp_ge 105 dX3_startLine_87 (by decide) (fun h => absurd h.1 (by exact nI_ge (b := 24) hi (by omega))) (fun _ => ?_)
        refine lc_aload_n 0 dX3_startLine_90 rfl ?_
        refine lc_gWIts 0 (by omega) fl_X3_20 dX3_startLine_91 ?_
        refine lc_iload_n 2 dX3_startLine_94 rfl ?_
        refine lc_aald 0 i (by omega) (rfl) (by omega) dX3_startLine_95 ?_
        refine lc_callV (lc_it 0 i) (c_X0_becomeNothing l G ((sp_it (sp_zr 3) 4 (sp_it (sp_cpo 6 9 (fun v => v)) 6 σ))) 0 z i (by omega) (by omega)) hR.2.2.2.1 hR.2.2.2.2 mt_X0_becomeNothing (lc_it74 (by omega) (by omega)) (lc_ent_it G _ (by omega)) rfl ml_X3_55 rfl rfl (Nat.le_of_ble_eq_true rfl) ⟨⟨rfl, rfl⟩, Nat.le_of_ble_eq_true rfl, Nat.le_of_ble_eq_true rfl⟩ dX3_startLine_96 ?_
        show lc_V _ _ _ _ _ 99 _ [] (lc_w ((sp_it (sp_zr 3) 4 (sp_it (sp_cpo 6 9 (fun v => v)) 6 σ))) 0 ((sp_none z.1 i, z.2)))
        refine lc_iinc 2 (nI (i + 1)) [(2, .int (nI (i + 1))), (0, .ref (G.1 (4))), (1, .ref (G.1 (1)))] dX3_startLine_99 rfl (lc_inc1 i) (by decide) rfl ?_
        refine lc_goto 81 dX3_startLine_102 (by decide) ?_
        refine lc_lv (lv' := [(0, .ref (G.1 (4))), (1, .ref (G.1 (1))), (2, .int (nI (i + 1)))]) [1, 2, 0] rfl ?_
        rw [show (sp_nn) i z = (sp_none z.1 i, z.2) from rfl] at ki
        exact ki
      · skip
        show lc_V G Γ cX3_startLine 3 RX3 81 [(0, .ref (G.1 (4))), (1, .ref (G.1 (1))), (2, .int (nI 24))] [] (lc_w ((sp_it (sp_zr 3) 4 (sp_it (sp_cpo 6 9 (fun v => v)) 6 σ))) 0 ((sp_it sp_nn 24 ((((lc_cu (lc_cu (lc_cu x.1 7 0 (σ.2.1 10 0)) 7 1 0) 7 2 0, x.2)).1, (0 - σ.2.1 0 0), (0 - σ.2.1 0 1), (0 - σ.2.1 0 2))))))
        refine lc_iload_n 2 dX3_startLine_81 rfl ?_
        refine lc_aload_n 0 dX3_startLine_82 rfl ?_
        refine lc_gWIts 0 (by omega) fl_X3_20 dX3_startLine_83 ?_
        refine lc_ilen 0 (by omega) dX3_startLine_86 ?_
        refine lc_icmp_ge 105 dX3_startLine_87 (by decide) (fun _ => ?_) (fun h => absurd h.1 (by exact nI_nlt (a := 24) (b := 24) (Nat.le_refl _) (by omega)))
        refine lc_gh (σ' := (sp_line σ 0 3 6 (σ.2.1 9) (x.1 6) (σ.2.1 10 0))) (sp_line_sim σ x) ?_
        exact lc_vret hR dX3_startLine_105 (rfl)

theorem sp_trial_sim (σ : lc_S) (x : lc_X) : lc_sim (lc_w ((lc_ro σ 7 (va_cpy (σ.2.1 6) (σ.2.1 7) 0 0 6))) 1 (sp_it (sp_cpt (σ.1 0)) 24 ((lc_cr (((lc_cu (lc_cu (lc_cu x.1 7 0 (σ.1 0 7 0)) 7 1 (σ.1 0 7 1)) 7 2 (σ.1 0 7 2), x.2)).1) 6 (va_cpy (σ.1 0 6) ((((lc_cu (lc_cu (lc_cu x.1 7 0 (σ.1 0 7 0)) 7 1 (σ.1 0 7 1)) 7 2 (σ.1 0 7 2), x.2)).1) 6) 0 0 4), ((0 - σ.2.1 1 0), ((lc_cu (lc_cu (lc_cu x.1 7 0 (σ.1 0 7 0)) 7 1 (σ.1 0 7 1)) 7 2 (σ.1 0 7 2), x.2)).2.2.1, ((lc_cu (lc_cu (lc_cu x.1 7 0 (σ.1 0 7 0)) 7 1 (σ.1 0 7 1)) 7 2 (σ.1 0 7 2), x.2)).2.2.2))))) (lc_w (sp_trial (lc_w σ 1 x)) 1 (σ.1 0, 0, 0, 0)) := by
  have hn := sp_cpt_it (σ.1 0) ((lc_cr (((lc_cu (lc_cu (lc_cu x.1 7 0 (σ.1 0 7 0)) 7 1 (σ.1 0 7 1)) 7 2 (σ.1 0 7 2), x.2)).1) 6 (va_cpy (σ.1 0 6) ((((lc_cu (lc_cu (lc_cu x.1 7 0 (σ.1 0 7 0)) 7 1 (σ.1 0 7 1)) 7 2 (σ.1 0 7 2), x.2)).1) 6) 0 0 4), ((0 - σ.2.1 1 0), ((lc_cu (lc_cu (lc_cu x.1 7 0 (σ.1 0 7 0)) 7 1 (σ.1 0 7 1)) 7 2 (σ.1 0 7 2), x.2)).2.2.1, ((lc_cu (lc_cu (lc_cu x.1 7 0 (σ.1 0 7 0)) 7 1 (σ.1 0 7 1)) 7 2 (σ.1 0 7 2), x.2)).2.2.2))) 24
  generalize sp_it (sp_cpt (σ.1 0)) 24 ((lc_cr (((lc_cu (lc_cu (lc_cu x.1 7 0 (σ.1 0 7 0)) 7 1 (σ.1 0 7 1)) 7 2 (σ.1 0 7 2), x.2)).1) 6 (va_cpy (σ.1 0 6) ((((lc_cu (lc_cu (lc_cu x.1 7 0 (σ.1 0 7 0)) 7 1 (σ.1 0 7 1)) 7 2 (σ.1 0 7 2), x.2)).1) 6) 0 0 4), ((0 - σ.2.1 1 0), ((lc_cu (lc_cu (lc_cu x.1 7 0 (σ.1 0 7 0)) 7 1 (σ.1 0 7 1)) 7 2 (σ.1 0 7 2), x.2)).2.2.1, ((lc_cu (lc_cu (lc_cu x.1 7 0 (σ.1 0 7 0)) 7 1 (σ.1 0 7 1)) 7 2 (σ.1 0 7 2), x.2)).2.2.2))) = y at hn ⊢
  obtain ⟨hn1, hn2⟩ := hn
  have c6 : ∀ k, k < 6 → va_cpy (σ.2.1 6) (σ.2.1 7) 0 0 6 k = σ.2.1 6 k := fun k hk => sb_cpy0 hk
  have o1 : ∀ r k, r ≠ 1 → (lc_w (sp_trial (lc_w σ 1 x)) 1 (σ.1 0, 0, 0, 0)).2.1 r k = if r = 7 then σ.2.1 6 k else σ.2.1 r k := by
    intro r k h
    rw [lc_w_on _ _ h]
    unfold sp_trial lc_ro
    by_cases h7 : r = 7
    · subst h7; simp only [if_true]; rw [lc_w_on _ _ (by decide)]
    · simp only [h, h7, if_false]; rw [lc_w_on _ _ h]
  have o2 : ∀ r k, r ≠ 1 → k < 6 → (lc_w ((lc_ro σ 7 (va_cpy (σ.2.1 6) (σ.2.1 7) 0 0 6))) 1 y).2.1 r k = if r = 7 then σ.2.1 6 k else σ.2.1 r k := by
    intro r k h hk
    rw [lc_w_on _ _ h]
    unfold lc_ro
    by_cases h7 : r = 7
    · subst h7; simp only [if_true]; exact c6 k hk
    · simp only [h7, if_false]
  refine ⟨fun j f i hj hf hi => ?_, fun j i hj hi => ?_, fun j i hj hi => ?_, fun r i hr hi => ?_, fun r i h1 h2 hi => ?_, fun r i h1 h2 hi => ?_, fun i hi => ?_, fun i hi => ?_, fun i hi => ?_, fun i hi => ?_, rfl, rfl⟩
  · by_cases h : j = 1
    · subst h
      rw [lc_w_c, lc_w_c, hn2, if_pos ⟨hi, hf⟩]
    · rw [lc_w_cn _ _ h, lc_w_cn _ _ h]
      show σ.1 j f i = (lc_w σ 1 x).1 j f i
      rw [lc_w_cn _ _ h]
  · by_cases h : j = 1
    · subst h
      rw [lc_w_c, lc_w_c, hn2, if_neg (fun z => absurd z.2 (by decide))]
      exact sb_cpy0 hi
    · rw [lc_w_cn _ _ h, lc_w_cn _ _ h]
      show σ.1 j 6 i = (lc_w σ 1 x).1 j 6 i
      rw [lc_w_cn _ _ h]
  · by_cases h : j = 1
    · subst h
      rw [lc_w_c, lc_w_c, hn2, if_neg (fun z => absurd z.2 (by decide))]
      match i, hi with
      | 0, _ => rfl
      | 1, _ => rfl
      | 2, _ => rfl
    · rw [lc_w_cn _ _ h, lc_w_cn _ _ h]
      show σ.1 j 7 i = (lc_w σ 1 x).1 j 7 i
      rw [lc_w_cn _ _ h]
  · by_cases h : r = 1
    · subst h
      match i, hi with
      | 0, _ => rw [lc_w_o0, lc_w_o0, hn1]; exact (lc_cz _).symm
      | 1, _ => rw [lc_w_o1, lc_w_o1, hn1]; show σ.2.1 1 1 + x.2.2.1 = (lc_w σ 1 x).2.1 1 1 + 0; rw [lc_w_o1, Int32.add_zero]
      | 2, _ => rw [lc_w_o2, lc_w_o2, hn1]; show σ.2.1 1 2 + x.2.2.2 = (lc_w σ 1 x).2.1 1 2 + 0; rw [lc_w_o2, Int32.add_zero]
    · rw [o1 _ _ h, o2 _ _ h (by omega)]
  · rw [o1 _ _ (by omega), o2 _ _ (by omega) (by omega)]
  · rw [o1 _ _ (by omega), o2 _ _ (by omega) hi]
  · rw [o1 _ _ (by decide), o2 _ _ (by decide) (by omega)]
  · rw [o1 _ _ (by decide), o2 _ _ (by decide) hi]
  · rw [o1 _ _ (by decide), o2 _ _ (by decide) (by omega)]
  · rw [lc_w_on _ _ (by decide), lc_w_on _ _ (by decide)]
    show σ.2.1 13 i = (lc_w σ 1 x).2.1 13 i
    rw [lc_w_on _ _ (by decide)]

set_option maxRecDepth 100000 in
set_option maxHeartbeats 4000000 in
theorem c_X3_startTrial (l : Launch) (G : lc_G) (σ : lc_S) (x : lc_X) : lc_M l G yX3_startTrial cX3_startTrial 3 none { frames := 1, cells := 0, slots := 0, locals := 22 } [.ref (G.1 (5)), .ref (G.1 (4))] (lc_w σ 1 x) none (lc_w ((sp_trial (lc_w σ 1 x))) 1 ((σ.1 0, 0, 0, 0))) := by
  refine lc_entry [(0, .ref (G.1 (5))), (1, .ref (G.1 (4)))] (by decide) (Nat.le_of_ble_eq_true rfl) rfl rfl rfl ?_
  intro Γ hR
  refine lc_aload_n 0 dX3_startTrial_0 rfl ?_
  refine lc_aload_n 1 dX3_startTrial_1 rfl ?_
  refine lc_gWoSites fl_X3_34 dX3_startTrial_2 ?_
  refine lc_pWSites 1 (by omega) fl_X3_34 dX3_startTrial_5 ?_
  refine lc_aload_n 0 dX3_startTrial_8 rfl ?_
  refine lc_aload_n 1 dX3_startTrial_9 rfl ?_
  refine lc_gWoNow fl_X3_37 dX3_startTrial_10 ?_
  refine lc_pWNow 1 (by omega) fl_X3_37 dX3_startTrial_13 ?_
  refine lc_aload_n 0 dX3_startTrial_16 rfl ?_
  refine lc_aload_n 1 dX3_startTrial_17 rfl ?_
  refine lc_gWoOff fl_X3_40 dX3_startTrial_18 ?_
  refine lc_pWOff 1 (by omega) fl_X3_40 dX3_startTrial_21 ?_
  refine lc_aload_n 0 dX3_startTrial_24 rfl ?_
  refine lc_iconst (v := 0) dX3_startTrial_25 (by decide) ?_
  refine lc_pWTra 1 ((0 - σ.2.1 1 0)) (lc_cz _) (by omega) fl_X3_43 dX3_startTrial_26 ?_
  refine lc_eq (σ' := lc_w σ 1 ((((lc_cu (lc_cu (lc_cu x.1 7 0 (σ.1 0 7 0)) 7 1 (σ.1 0 7 1)) 7 2 (σ.1 0 7 2), x.2)).1, (0 - σ.2.1 1 0), ((lc_cu (lc_cu (lc_cu x.1 7 0 (σ.1 0 7 0)) 7 1 (σ.1 0 7 1)) 7 2 (σ.1 0 7 2), x.2)).2.2.1, ((lc_cu (lc_cu (lc_cu x.1 7 0 (σ.1 0 7 0)) 7 1 (σ.1 0 7 1)) 7 2 (σ.1 0 7 2), x.2)).2.2.2))) rfl ?_
  refine lc_aload_n 1 dX3_startTrial_29 rfl ?_
  refine lc_gWLim 0 (by omega) fl_X3_9 dX3_startTrial_30 ?_
  refine lc_iconst (v := 0) dX3_startTrial_33 (by decide) ?_
  refine lc_aload_n 0 dX3_startTrial_34 rfl ?_
  refine lc_gWLim 1 (by omega) fl_X3_9 dX3_startTrial_35 ?_
  refine lc_iconst (v := 0) dX3_startTrial_38 (by decide) ?_
  refine lc_aload_n 0 dX3_startTrial_39 rfl ?_
  refine lc_gWLim 1 (by omega) fl_X3_9 dX3_startTrial_40 ?_
  refine lc_alen (7) (by omega) (lc_eLim 1 (by omega)) dX3_startTrial_43 ?_
  refine lc_copyLim rfl (by rw [hR.2.2.2.2]; exact ⟨Nat.le_of_ble_eq_true rfl, Nat.le_of_ble_eq_true rfl⟩) dX3_startTrial_44 ?_
  refine lc_aload_n 1 dX3_startTrial_47 rfl ?_
  refine lc_gWPos 0 (by omega) fl_X3_15 dX3_startTrial_48 ?_
  refine lc_iconst (v := 0) dX3_startTrial_51 (by decide) ?_
  refine lc_aload_n 0 dX3_startTrial_52 rfl ?_
  refine lc_gWPos 1 (by omega) fl_X3_15 dX3_startTrial_53 ?_
  refine lc_iconst (v := 0) dX3_startTrial_56 (by decide) ?_
  refine lc_bipush (v := 6) dX3_startTrial_57 (by decide) ?_
  refine lc_copyPos rfl (by rw [hR.2.2.2.2]; exact ⟨Nat.le_of_ble_eq_true rfl, Nat.le_of_ble_eq_true rfl⟩) dX3_startTrial_59 ?_
  refine lc_iconst (v := 0) dX3_startTrial_62 (by decide) ?_
  refine lc_istore_n [(2, .int (0)), (0, .ref (G.1 (5))), (1, .ref (G.1 (4)))] dX3_startTrial_63 (by decide) rfl ?_
  refine lc_lv (lv' := [(0, .ref (G.1 (5))), (1, .ref (G.1 (4))), (2, .int (0))]) [1, 2, 0] rfl ?_
  refine lc_forI (α := lc_X) (fun i z => lc_V G Γ cX3_startTrial 3 RX3 64 [(0, .ref (G.1 (5))), (1, .ref (G.1 (4))), (2, .int (nI i))] [] (lc_w ((lc_ro σ 7 (va_cpy (σ.2.1 6) (σ.2.1 7) 0 0 6))) 1 z)) (fun _ _ => True) (sp_cpt (σ.1 0)) 24 (fun _ _ _ _ => trivial) (fun i z hi hIi ki => ?_) ((lc_cr (((lc_cu (lc_cu (lc_cu x.1 7 0 (σ.1 0 7 0)) 7 1 (σ.1 0 7 1)) 7 2 (σ.1 0 7 2), x.2)).1) 6 (va_cpy (σ.1 0 6) ((((lc_cu (lc_cu (lc_cu x.1 7 0 (σ.1 0 7 0)) 7 1 (σ.1 0 7 1)) 7 2 (σ.1 0 7 2), x.2)).1) 6) 0 0 4), ((0 - σ.2.1 1 0), ((lc_cu (lc_cu (lc_cu x.1 7 0 (σ.1 0 7 0)) 7 1 (σ.1 0 7 1)) 7 2 (σ.1 0 7 2), x.2)).2.2.1, ((lc_cu (lc_cu (lc_cu x.1 7 0 (σ.1 0 7 0)) 7 1 (σ.1 0 7 1)) 7 2 (σ.1 0 7 2), x.2)).2.2.2))) (trivial) (fun hIi => ?_)
  · skip
    show lc_V G Γ cX3_startTrial 3 RX3 64 [(0, .ref (G.1 (5))), (1, .ref (G.1 (4))), (2, .int (nI i))] [] (lc_w ((lc_ro σ 7 (va_cpy (σ.2.1 6) (σ.2.1 7) 0 0 6))) 1 z)
    refine lc_iload_n 2 dX3_startTrial_64 rfl ?_
    refine lc_aload_n 0 dX3_startTrial_65 rfl ?_
    refine lc_gWIts 1 (by omega) fl_X3_20 dX3_startTrial_66 ?_
    refine lc_ilen 1 (by omega) dX3_startTrial_69 ?_
    refine lc_icmp_ge 103 dX3_startTrial_70 (by decide) (fun h => absurd h.1 (by exact nI_ge (b := 24) hi (by omega))) (fun _ => ?_)
    refine lc_aload_n 0 dX3_startTrial_73 rfl ?_
    refine lc_gWIts 1 (by omega) fl_X3_20 dX3_startTrial_74 ?_
    refine lc_iload_n 2 dX3_startTrial_77 rfl ?_
    refine lc_aald 1 i (by omega) (rfl) (by omega) dX3_startTrial_78 ?_
    refine lc_aload_n 1 dX3_startTrial_79 rfl ?_
    refine lc_gWIts 0 (by omega) fl_X3_20 dX3_startTrial_80 ?_
    refine lc_iload_n 2 dX3_startTrial_83 rfl ?_
    refine lc_aald 0 i (by omega) (rfl) (by omega) dX3_startTrial_84 ?_
    refine lc_aload_n 1 dX3_startTrial_85 rfl ?_
    refine lc_gWIts 0 (by omega) fl_X3_20 dX3_startTrial_86 ?_
    refine lc_iload_n 2 dX3_startTrial_89 rfl ?_
    refine lc_aald 0 i (by omega) (rfl) (by omega) dX3_startTrial_90 ?_
    refine lc_gIo i 5 (by omega) (by decide) fl_X3_64 dX3_startTrial_91 ?_
    refine lc_callV (lc_it 1 i) (c_X0_becomeCopy_t l G ((lc_ro σ 7 (va_cpy (σ.2.1 6) (σ.2.1 7) 0 0 6))) z i i (by omega) (by omega) (((lc_ro σ 7 (va_cpy (σ.2.1 6) (σ.2.1 7) 0 0 6))).1 0 5 i)) hR.2.2.2.1 hR.2.2.2.2 mt_X0_becomeCopy (lc_it74 (by omega) (by omega)) (lc_ent_it G _ (by omega)) rfl ml_X3_67 rfl rfl (Nat.le_of_ble_eq_true rfl) ⟨⟨rfl, rfl⟩, Nat.le_of_ble_eq_true rfl, Nat.le_of_ble_eq_true rfl⟩ dX3_startTrial_94 ?_
    show lc_V _ _ _ _ _ 97 _ [] (lc_w ((lc_ro σ 7 (va_cpy (σ.2.1 6) (σ.2.1 7) 0 0 6))) 1 ((sp_copy z.1 i (((lc_ro σ 7 (va_cpy (σ.2.1 6) (σ.2.1 7) 0 0 6))).1 0) i (((lc_ro σ 7 (va_cpy (σ.2.1 6) (σ.2.1 7) 0 0 6))).1 0 5 i), z.2)))
    refine lc_iinc 2 (nI (i + 1)) [(2, .int (nI (i + 1))), (0, .ref (G.1 (5))), (1, .ref (G.1 (4)))] dX3_startTrial_97 rfl (lc_inc1 i) (by decide) rfl ?_
    refine lc_goto 64 dX3_startTrial_100 (by decide) ?_
    refine lc_lv (lv' := [(0, .ref (G.1 (5))), (1, .ref (G.1 (4))), (2, .int (nI (i + 1)))]) [1, 2, 0] rfl ?_
    rw [show (sp_cpt (σ.1 0)) i z = (sp_copy z.1 i (((lc_ro σ 7 (va_cpy (σ.2.1 6) (σ.2.1 7) 0 0 6))).1 0) i (((lc_ro σ 7 (va_cpy (σ.2.1 6) (σ.2.1 7) 0 0 6))).1 0 5 i), z.2) from rfl] at ki
    exact ki
  · skip
    show lc_V G Γ cX3_startTrial 3 RX3 64 [(0, .ref (G.1 (5))), (1, .ref (G.1 (4))), (2, .int (nI 24))] [] (lc_w ((lc_ro σ 7 (va_cpy (σ.2.1 6) (σ.2.1 7) 0 0 6))) 1 ((sp_it (sp_cpt (σ.1 0)) 24 ((lc_cr (((lc_cu (lc_cu (lc_cu x.1 7 0 (σ.1 0 7 0)) 7 1 (σ.1 0 7 1)) 7 2 (σ.1 0 7 2), x.2)).1) 6 (va_cpy (σ.1 0 6) ((((lc_cu (lc_cu (lc_cu x.1 7 0 (σ.1 0 7 0)) 7 1 (σ.1 0 7 1)) 7 2 (σ.1 0 7 2), x.2)).1) 6) 0 0 4), ((0 - σ.2.1 1 0), ((lc_cu (lc_cu (lc_cu x.1 7 0 (σ.1 0 7 0)) 7 1 (σ.1 0 7 1)) 7 2 (σ.1 0 7 2), x.2)).2.2.1, ((lc_cu (lc_cu (lc_cu x.1 7 0 (σ.1 0 7 0)) 7 1 (σ.1 0 7 1)) 7 2 (σ.1 0 7 2), x.2)).2.2.2))))))
    refine lc_iload_n 2 dX3_startTrial_64 rfl ?_
    refine lc_aload_n 0 dX3_startTrial_65 rfl ?_
    refine lc_gWIts 1 (by omega) fl_X3_20 dX3_startTrial_66 ?_
    refine lc_ilen 1 (by omega) dX3_startTrial_69 ?_
    refine lc_icmp_ge 103 dX3_startTrial_70 (by decide) (fun _ => ?_) (fun h => absurd h.1 (by exact nI_nlt (a := 24) (b := 24) (Nat.le_refl _) (by omega)))
    refine lc_gh (σ' := lc_w (sp_trial (lc_w σ 1 x)) 1 (σ.1 0, 0, 0, 0)) (sp_trial_sim σ x) ?_
    exact lc_vret hR dX3_startTrial_103 (rfl)
