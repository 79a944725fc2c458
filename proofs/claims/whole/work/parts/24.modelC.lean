set_option maxRecDepth 100000 in
set_option maxHeartbeats 4000000 in
theorem c_X5_draw (l : Launch) (G : lc_G) (σ : lc_S) (sd : Int64) (x : lc_X) (d : Int32) (hd0 : ¬ d.toInt64 = 0) : lc_M l G yX5_draw cX5_draw 2 (some .int) { frames := 0, cells := 0, slots := 0, locals := 0 } [.ref (G.1 (14)), .int (d)] (lc_w ((lc_ul σ 0 sd)) 2 x) (some (.int (sp_drw (sp_nx sd) d))) (lc_w ((lc_ul σ 0 (sp_nx sd))) 2 x) := by
  refine lc_entry [(0, .ref (G.1 (14))), (1, .int (d))] (by decide) (Nat.le_of_ble_eq_true rfl) rfl rfl rfl ?_
  intro Γ hR
  refine lc_aload_n 0 dX5_draw_0 rfl ?_
  refine lc_ldc2 kc_X5_170 dX5_draw_1 ?_
  refine lc_aload_n 0 dX5_draw_4 rfl ?_
  refine lc_g_mseed fl_X5_172 dX5_draw_5 ?_
  refine lc_lmul dX5_draw_8 ?_
  refine lc_ldc2 kc_X5_176 dX5_draw_9 ?_
  refine lc_ladd dX5_draw_12 ?_
  refine lc_ldc2 kc_X5_178 dX5_draw_13 ?_
  refine lc_land dX5_draw_16 ?_
  refine lc_topl (sp_nx sd) (rfl) ?_
  refine lc_p_mseed fl_X5_172 dX5_draw_17 ?_
  refine lc_eq (σ' := lc_w ((lc_ul σ 0 (sp_nx sd))) 2 x) (by rw [lc_ul_ul]) ?_
  refine lc_aload_n 0 dX5_draw_20 rfl ?_
  refine lc_g_mseed fl_X5_172 dX5_draw_21 ?_
  refine lc_topl (sp_nx sd) (rfl) ?_
  refine lc_ldc2 kc_X5_180 dX5_draw_24 ?_
  refine lc_ldiv dX5_draw_27 (by decide) ?_
  refine lc_iload_n 1 dX5_draw_28 rfl ?_
  refine lc_i2l dX5_draw_29 ?_
  refine lc_lrem dX5_draw_30 (hd0) ?_
  refine lc_l2i dX5_draw_31 ?_
  exact lc_iret hR dX5_draw_32 (rfl) (rfl)

set_option maxRecDepth 100000 in
set_option maxHeartbeats 4000000 in
theorem c_X5_weight (l : Launch) (G : lc_G) (σ : lc_S) (r : Nat) (hr0 : r < 1000) : lc_M l G yX5_weight cX5_weight 1 (some .int) { frames := 0, cells := 0, slots := 0, locals := 0 } [.int (nI r)] (σ) (some (.int (sp_wgt r))) (σ) := by
  refine lc_entry [(0, .int (nI r))] (by decide) (Nat.le_of_ble_eq_true rfl) rfl rfl rfl ?_
  intro Γ hR
  refine lc_bipush (v := 60) dX5_weight_0 (by decide) ?_
  refine lc_iload_n 0 dX5_weight_2 rfl ?_
  refine lc_iconst (v := 1) dX5_weight_3 (by decide) ?_
  refine lc_iadd dX5_weight_4 ?_
  refine lc_idiv dX5_weight_5 (by rw [nI_1]; exact nI_ne0 (by omega) (by omega)) ?_
  exact lc_iret hR dX5_weight_6 (by show (60 : Int32) / (nI r + 1) = 60 / nI (r + 1); rw [nI_1]) (rfl)

set_option maxRecDepth 100000 in
set_option maxHeartbeats 4000000 in
theorem c_X5_partnerNow (l : Launch) (G : lc_G) (σ : lc_S) (sd : Int64) (x : lc_X) (n a : Nat) (hn : n ≤ 6) (han : a < n) (hs : x.1 7 0 = nI n) : lc_M l G yX5_partnerNow cX5_partnerNow 8 (some .int) { frames := 2, cells := 0, slots := 0, locals := 47 } [.ref (G.1 (14)), .int (nI a)] (lc_w ((lc_ul σ 0 sd)) 2 x) (some (.int ((sp_partM x.1 (σ.2.1 8) a n sd).1))) (lc_w ((lc_ul σ 0 ((sp_partM x.1 (σ.2.1 8) a n sd).2))) 2 x) := by
  refine lc_entry [(0, .ref (G.1 (14))), (1, .int (nI a))] (by decide) (Nat.le_of_ble_eq_true rfl) rfl rfl rfl ?_
  intro Γ hR
  refine lc_aload_n 0 dX5_partnerNow_0 rfl ?_
  refine lc_gMOff fl_X5_65 dX5_partnerNow_1 ?_
  refine lc_iconst (v := 1) dX5_partnerNow_4 (by decide) ?_
  refine lc_iload_n 1 dX5_partnerNow_5 rfl ?_
  refine lc_ishl dX5_partnerNow_6 ?_
  refine lc_ior dX5_partnerNow_7 ?_
  refine lc_topi (sp_out x.1 a) rfl ?_
  refine lc_istore_n [(2, .int (sp_out x.1 a)), (0, .ref (G.1 (14))), (1, .int (nI a))] dX5_partnerNow_8 (by decide) rfl ?_
  refine lc_iconst (v := 0) dX5_partnerNow_9 (by decide) ?_
  refine lc_istore_n [(3, .int (0)), (2, .int (sp_out x.1 a)), (0, .ref (G.1 (14))), (1, .int (nI a))] dX5_partnerNow_10 (by decide) rfl ?_
  refine lc_iconst (v := 0) dX5_partnerNow_11 (by decide) ?_
  refine lc_istore [(4, .int (0)), (3, .int (0)), (2, .int (sp_out x.1 a)), (0, .ref (G.1 (14))), (1, .int (nI a))] dX5_partnerNow_12 (by decide) rfl ?_
  refine lc_iconst (v := 0) dX5_partnerNow_14 (by decide) ?_
  refine lc_istore [(5, .int (0)), (4, .int (0)), (3, .int (0)), (2, .int (sp_out x.1 a)), (0, .ref (G.1 (14))), (1, .int (nI a))] dX5_partnerNow_15 (by decide) rfl ?_
  refine lc_lv (lv' := [(0, .ref (G.1 (14))), (1, .int (nI a)), (2, .int (sp_out x.1 a)), (3, .int (0)), (4, .int (0)), (5, .int (0))]) [4, 5, 3, 2, 1, 0] rfl ?_
  refine lc_forI (α := Nat × Int32) (fun i z => lc_V G Γ cX5_partnerNow 8 RX5 17 [(0, .ref (G.1 (14))), (1, .int (nI a)), (2, .int (sp_out x.1 a)), (3, .int (nI z.1)), (4, .int (z.2)), (5, .int (nI i))] [] (lc_w ((lc_ul σ 0 sd)) 2 x)) (fun i z => z.1 ≤ i) (sp_pc (sp_out x.1 a)) n (fun i z _ h => by unfold sp_pc; split <;> first | omega | (dsimp only; omega)) (fun i z hi hIi ki => ?_) ((0, 0)) (Nat.le_refl 0) (fun hIi => ?_)
  · skip
    show lc_V G Γ cX5_partnerNow 8 RX5 17 [(0, .ref (G.1 (14))), (1, .int (nI a)), (2, .int (sp_out x.1 a)), (3, .int (nI z.1)), (4, .int (z.2)), (5, .int (nI i))] [] (lc_w ((lc_ul σ 0 sd)) 2 x)
    refine lc_iload 5 dX5_partnerNow_17 rfl ?_
    refine lc_aload_n 0 dX5_partnerNow_19 rfl ?_
    refine lc_gMSites fl_X5_55 dX5_partnerNow_20 ?_
    refine lc_icmp_ge 53 dX5_partnerNow_23 (by decide) (fun h => absurd h.1 (by rw [hs]; exact nI_ge (b := n) hi (by omega))) (fun _ => ?_)
    refine lc_iload_n 2 dX5_partnerNow_26 rfl ?_
    refine lc_iload 5 dX5_partnerNow_27 rfl ?_
    refine lc_callS (c_X5_isIn l G (lc_w ((lc_ul σ 0 sd)) 2 x) (sp_out x.1 a) (nI i)) hR.2.2.2.1 hR.2.2.2.2 mt_X5_isIn ml_X5_84 rfl rfl (Nat.le_of_ble_eq_true rfl) ⟨⟨rfl, rfl⟩, Nat.le_of_ble_eq_true rfl, Nat.le_of_ble_eq_true rfl⟩ dX5_partnerNow_29 ?_
    show lc_V _ _ _ _ _ 32 _ [.int (lc_bi (sp_bit (sp_out x.1 a) (nI i)))] (lc_w ((lc_ul σ 0 sd)) 2 x)
    refine lc_ifb_ne 47 dX5_partnerNow_32 (by decide) (fun c_2 => ?_) (fun c_2 => ?_)
    · skip
      refine lc_iinc 5 (nI (i + 1)) [(5, .int (nI (i + 1))), (0, .ref (G.1 (14))), (1, .int (nI a)), (2, .int (sp_out x.1 a)), (3, .int (nI z.1)), (4, .int (z.2))] dX5_partnerNow_47 rfl (lc_inc1 i) (by decide) rfl ?_
      refine lc_goto 17 dX5_partnerNow_50 (by decide) ?_
      refine lc_lv (lv' := [(0, .ref (G.1 (14))), (1, .int (nI a)), (2, .int (sp_out x.1 a)), (3, .int (nI z.1)), (4, .int (z.2)), (5, .int (nI (i + 1)))]) [1, 2, 3, 4, 5, 0] rfl ?_
      rw [show (sp_pc (sp_out x.1 a)) i z = (z.1, z.2) from by simp [sp_pc, c_2]] at ki
      exact ki
    · skip
      refine lc_iload 4 dX5_partnerNow_35 rfl ?_
      refine lc_iload_n 3 dX5_partnerNow_37 rfl ?_
      refine lc_callS (c_X5_weight l G (lc_w ((lc_ul σ 0 sd)) 2 x) z.1 (by omega)) hR.2.2.2.1 hR.2.2.2.2 mt_X5_weight ml_X5_182 rfl rfl (Nat.le_of_ble_eq_true rfl) ⟨⟨rfl, rfl⟩, Nat.le_of_ble_eq_true rfl, Nat.le_of_ble_eq_true rfl⟩ dX5_partnerNow_38 ?_
      show lc_V _ _ _ _ _ 41 _ [.int (sp_wgt z.1), .int (z.2)] (lc_w ((lc_ul σ 0 sd)) 2 x)
      refine lc_iadd dX5_partnerNow_41 ?_
      refine lc_istore [(4, .int ((z.2 + (sp_wgt z.1)))), (0, .ref (G.1 (14))), (1, .int (nI a)), (2, .int (sp_out x.1 a)), (3, .int (nI z.1)), (5, .int (nI i))] dX5_partnerNow_42 (by decide) rfl ?_
      refine lc_iinc 4 (nI (z.1 + 1)) [(3, .int (nI (z.1 + 1))), (4, .int ((z.2 + (sp_wgt z.1)))), (0, .ref (G.1 (14))), (1, .int (nI a)), (2, .int (sp_out x.1 a)), (5, .int (nI i))] dX5_partnerNow_44 rfl (lc_inc1 z.1) (by decide) rfl ?_
      refine lc_iinc 5 (nI (i + 1)) [(5, .int (nI (i + 1))), (3, .int (nI (z.1 + 1))), (4, .int ((z.2 + (sp_wgt z.1)))), (0, .ref (G.1 (14))), (1, .int (nI a)), (2, .int (sp_out x.1 a))] dX5_partnerNow_47 rfl (lc_inc1 i) (by decide) rfl ?_
      refine lc_goto 17 dX5_partnerNow_50 (by decide) ?_
      refine lc_lv (lv' := [(0, .ref (G.1 (14))), (1, .int (nI a)), (2, .int (sp_out x.1 a)), (3, .int (nI (z.1 + 1))), (4, .int ((z.2 + (sp_wgt z.1)))), (5, .int (nI (i + 1)))]) [3, 4, 5, 1, 2, 0] rfl ?_
      rw [show (sp_pc (sp_out x.1 a)) i z = (z.1 + 1, (z.2 + (sp_wgt z.1))) from by simp [sp_pc, c_2]] at ki
      exact ki
  · skip
    show lc_V G Γ cX5_partnerNow 8 RX5 17 [(0, .ref (G.1 (14))), (1, .int (nI a)), (2, .int (sp_out x.1 a)), (3, .int (nI ((sp_pcs (sp_out x.1 a) n)).1)), (4, .int (((sp_pcs (sp_out x.1 a) n)).2)), (5, .int (nI n))] [] (lc_w ((lc_ul σ 0 sd)) 2 x)
    refine lc_iload 5 dX5_partnerNow_17 rfl ?_
    refine lc_aload_n 0 dX5_partnerNow_19 rfl ?_
    refine lc_gMSites fl_X5_55 dX5_partnerNow_20 ?_
    refine lc_icmp_ge 53 dX5_partnerNow_23 (by decide) (fun _ => ?_) (fun h => absurd h.1 (by rw [hs]; exact nI_nlt (a := n) (b := n) (Nat.le_refl _) (by omega)))
    have hI := sp_pcs_I (sp_out x.1 a) a n (by omega) (sp_bit_or _ _ (by omega))
    by_cases hM : (sp_pcs (sp_out x.1 a) n).1 = 0
    · skip
      refine lc_iload_n 3 dX5_partnerNow_53 rfl ?_
      refine lc_if_ne 59 dX5_partnerNow_54 (by decide) (fun h => absurd (by rw [hM]; rfl) h.1) (fun _ => ?_)
      refine lc_iconst (v := (-1)) dX5_partnerNow_57 (by decide) ?_
      exact lc_iret hR dX5_partnerNow_58 (by rw [sp_partM, if_pos hM]) (by rw [sp_partM, if_pos hM])
    · skip
      have hM5 : 0 < (sp_pcs (sp_out x.1 a) n).1 ∧ (sp_pcs (sp_out x.1 a) n).1 ≤ 5 := by have := hI.2.2 han; omega
      have hTp := sp_T_pos hM5.1 hM5.2
      refine lc_iload_n 3 dX5_partnerNow_53 rfl ?_
      refine lc_if_ne 59 dX5_partnerNow_54 (by decide) (fun _ => ?_) (fun h => absurd h (nI_ne0 (by omega) (by omega)))
      refine lc_aload_n 0 dX5_partnerNow_59 rfl ?_
      refine lc_iload 4 dX5_partnerNow_60 rfl ?_
      refine lc_callV (14) (c_X5_draw l G σ sd x (((sp_pcs (sp_out x.1 a) n)).2) (by rw [hI.1]; exact sp_lim_d _ hTp.1 hTp.2)) hR.2.2.2.1 hR.2.2.2.2 mt_X5_draw (by omega) (rfl) rfl ml_X5_185 rfl rfl (Nat.le_of_ble_eq_true rfl) ⟨⟨rfl, rfl⟩, Nat.le_of_ble_eq_true rfl, Nat.le_of_ble_eq_true rfl⟩ dX5_partnerNow_62 ?_
      show lc_V _ _ _ _ _ 65 _ [.int (sp_drw (sp_nx sd) (((sp_pcs (sp_out x.1 a) n)).2))] (lc_w ((lc_ul σ 0 (sp_nx sd))) 2 x)
      obtain ⟨kk, hkk, ekk⟩ := sp_nx_nat sd
      obtain ⟨L, hL, eL⟩ : ∃ L : Nat, L < sp_T (sp_pcs (sp_out x.1 a) n).1 ∧ sp_drw (sp_nx sd) (sp_pcs (sp_out x.1 a) n).2 = nI L := ⟨kk / 65536 % sp_T (sp_pcs (sp_out x.1 a) n).1, Nat.mod_lt _ hTp.1, by rw [hI.1]; exact sp_drw_nat _ kk _ hkk ekk hTp.1 (by omega)⟩
      refine lc_topi (nI L) eL ?_
      have hres : sp_partM x.1 (σ.2.1 8) a n sd = (sp_pm (σ.2.1 8) a n (sp_pcs (sp_out x.1 a) n).1 0 L (sp_out x.1 a) (sp_on (sp_nearsM (σ.2.1 8) a (sp_out x.1 a) n).1), sp_nx sd) := by unfold sp_partM; rw [if_neg hM, eL, nI_clamp (by omega)]
      rw [hres] at hR
      refine lc_lv (lv' := [(0, .ref (G.1 (14))), (1, .int (nI a)), (2, .int (sp_out x.1 a)), (5, .int (nI n))]) [0, 1, 2, 5] rfl ?_
      generalize (sp_pcs (sp_out x.1 a) n).1 = M at hL hM5 hTp hR hI hM
      refine lc_istore [(5, .int (nI L)), (0, .ref (G.1 (14))), (1, .int (nI a)), (2, .int (sp_out x.1 a))] dX5_partnerNow_65 (by decide) rfl ?_
      refine lc_aload_n 1 dX5_partnerNow_67 rfl ?_
      refine lc_iload_n 2 dX5_partnerNow_68 rfl ?_
      refine lc_iload_n 3 dX5_partnerNow_69 rfl ?_
      refine lc_callV (14) (c_X5_nearest l G ((lc_ul σ 0 (sp_nx sd))) x n a (sp_out x.1 a) hn (by omega) (hs)) hR.2.2.2.1 hR.2.2.2.2 mt_X5_nearest (by omega) (rfl) rfl ml_X5_104 rfl rfl (Nat.le_of_ble_eq_true rfl) ⟨⟨rfl, rfl⟩, Nat.le_of_ble_eq_true rfl, Nat.le_of_ble_eq_true rfl⟩ dX5_partnerNow_70 ?_
      show lc_V _ _ _ _ _ 73 _ [.int (sp_on (sp_nearsM (((lc_ul σ 0 (sp_nx sd))).2.1 8) a (sp_out x.1 a) n).1)] (lc_w ((lc_ul σ 0 (sp_nx sd))) 2 x)
      refine lc_istore [(6, .int (sp_on (sp_nearsM (((lc_ul σ 0 (sp_nx sd))).2.1 8) a (sp_out x.1 a) n).1)), (5, .int (nI L)), (0, .ref (G.1 (14))), (1, .int (nI a)), (2, .int (sp_out x.1 a))] dX5_partnerNow_73 (by decide) rfl ?_
      refine lc_iconst (v := 0) dX5_partnerNow_75 (by decide) ?_
      refine lc_istore [(7, .int (0)), (6, .int (sp_on (sp_nearsM (((lc_ul σ 0 (sp_nx sd))).2.1 8) a (sp_out x.1 a) n).1)), (5, .int (nI L)), (0, .ref (G.1 (14))), (1, .int (nI a)), (2, .int (sp_out x.1 a))] dX5_partnerNow_76 (by decide) rfl ?_
      refine lc_lv (lv' := [(0, .ref (G.1 (14))), (1, .int (nI a)), (2, .int (sp_out x.1 a)), (5, .int (nI L)), (6, .int (sp_on (sp_nearsM (((lc_ul σ 0 (sp_nx sd))).2.1 8) a (sp_out x.1 a) n).1)), (7, .int (0))]) [3, 4, 5, 2, 1, 0] rfl ?_
      have KL : ∀ (f i : Nat) (L0 : Nat) (out one : Int32), i + f = M → sp_pm (σ.2.1 8) a n f i L0 out one = sp_pm (σ.2.1 8) a n M 0 L (sp_out x.1 a) (sp_on (sp_nearsM (σ.2.1 8) a (sp_out x.1 a) n).1) → L0 < sp_T M - sp_T i → lc_V G Γ cX5_partnerNow 8 RX5 78 [(0, .ref (G.1 (14))), (1, .int (nI a)), (2, .int (out)), (5, .int (nI L0)), (6, .int (one)), (7, .int (nI i))] [] (lc_w ((lc_ul σ 0 (sp_nx sd))) 2 x) := by
        intro f
        induction f with
        | zero =>
          intro i L0 out one hf hr hl0
          have hi : i = M := by omega
          have hLb : L0 < 2 ^ 31 := by omega
          rw [hi] at hl0
          exact absurd hl0 (by omega)
        | succ f ih =>
          intro i L0 out one hf hr hl0
          have hi : i < M := by omega
          have hLb : L0 < 2 ^ 31 := by omega
          refine lc_iload 3 dX5_partnerNow_78 rfl ?_
          refine lc_iload 5 dX5_partnerNow_80 rfl ?_
          refine lc_callS (c_X5_weight l G (lc_w ((lc_ul σ 0 (sp_nx sd))) 2 x) i (by omega)) hR.2.2.2.1 hR.2.2.2.2 mt_X5_weight ml_X5_182 rfl rfl (Nat.le_of_ble_eq_true rfl) ⟨⟨rfl, rfl⟩, Nat.le_of_ble_eq_true rfl, Nat.le_of_ble_eq_true rfl⟩ dX5_partnerNow_82 ?_
          show lc_V _ _ _ _ _ 85 _ [.int (sp_wgt i), .int (nI L0)] (lc_w ((lc_ul σ 0 (sp_nx sd))) 2 x)
          refine lc_icmp_lt 119 dX5_partnerNow_85 (by decide) (fun c_6 => ?_) (fun c_6 => ?_)
          · skip
            refine lc_iload 4 dX5_partnerNow_119 rfl ?_
            exact lc_iret hR dX5_partnerNow_121 (by rw [← hr]; simp [sp_pm, c_6]) (rfl)
          · skip
            refine lc_iload 3 dX5_partnerNow_88 rfl ?_
            refine lc_iload 5 dX5_partnerNow_90 rfl ?_
            refine lc_callS (c_X5_weight l G (lc_w ((lc_ul σ 0 (sp_nx sd))) 2 x) i (by omega)) hR.2.2.2.1 hR.2.2.2.2 mt_X5_weight ml_X5_182 rfl rfl (Nat.le_of_ble_eq_true rfl) ⟨⟨rfl, rfl⟩, Nat.le_of_ble_eq_true rfl, Nat.le_of_ble_eq_true rfl⟩ dX5_partnerNow_92 ?_
            show lc_V _ _ _ _ _ 95 _ [.int (sp_wgt i), .int (nI L0)] (lc_w ((lc_ul σ 0 (sp_nx sd))) 2 x)
            refine lc_isub dX5_partnerNow_95 ?_
            have hW := sp_wgt_nat i (by omega)
            have hle : 60 / (i + 1) ≤ L0 := by have h9 := c_6.1; rw [hW] at h9; exact (nI_leI (Nat.lt_of_le_of_lt (Nat.div_le_self _ _) (by omega)) (by omega)).mp h9
            refine lc_topi (nI (L0 - 60 / (i + 1))) (by rw [hW]; exact pk_sub hle) ?_
            refine lc_istore [(5, .int (nI (L0 - 60 / (i + 1)))), (0, .ref (G.1 (14))), (1, .int (nI a)), (2, .int (out)), (6, .int (one)), (7, .int (nI i))] dX5_partnerNow_96 (by decide) rfl ?_
            refine lc_iload_n 3 dX5_partnerNow_98 rfl ?_
            refine lc_iconst (v := 1) dX5_partnerNow_99 (by decide) ?_
            refine lc_iload 4 dX5_partnerNow_100 rfl ?_
            refine lc_ishl dX5_partnerNow_102 ?_
            refine lc_ior dX5_partnerNow_103 ?_
            refine lc_istore_n [(2, .int ((out ||| (((1 : Int32) <<< (one &&& 31)))))), (5, .int (nI (L0 - 60 / (i + 1)))), (0, .ref (G.1 (14))), (1, .int (nI a)), (6, .int (one)), (7, .int (nI i))] dX5_partnerNow_104 (by decide) rfl ?_
            refine lc_aload_n 2 dX5_partnerNow_105 rfl ?_
            refine lc_iload_n 3 dX5_partnerNow_106 rfl ?_
            refine lc_iload_n 0 dX5_partnerNow_107 rfl ?_
            refine lc_callV (14) (c_X5_nearest l G ((lc_ul σ 0 (sp_nx sd))) x n a ((out ||| (((1 : Int32) <<< (one &&& 31))))) hn (by omega) (hs)) hR.2.2.2.1 hR.2.2.2.2 mt_X5_nearest (by omega) (rfl) rfl ml_X5_104 rfl rfl (Nat.le_of_ble_eq_true rfl) ⟨⟨rfl, rfl⟩, Nat.le_of_ble_eq_true rfl, Nat.le_of_ble_eq_true rfl⟩ dX5_partnerNow_108 ?_
            show lc_V _ _ _ _ _ 111 _ [.int (sp_on (sp_nearsM (((lc_ul σ 0 (sp_nx sd))).2.1 8) a ((out ||| (((1 : Int32) <<< (one &&& 31))))) n).1)] (lc_w ((lc_ul σ 0 (sp_nx sd))) 2 x)
            refine lc_istore [(6, .int (sp_on (sp_nearsM (((lc_ul σ 0 (sp_nx sd))).2.1 8) a ((out ||| (((1 : Int32) <<< (one &&& 31))))) n).1)), (2, .int ((out ||| (((1 : Int32) <<< (one &&& 31)))))), (5, .int (nI (L0 - 60 / (i + 1)))), (0, .ref (G.1 (14))), (1, .int (nI a)), (7, .int (nI i))] dX5_partnerNow_111 (by decide) rfl ?_
            refine lc_iinc 5 (nI (i + 1)) [(7, .int (nI (i + 1))), (6, .int (sp_on (sp_nearsM (((lc_ul σ 0 (sp_nx sd))).2.1 8) a ((out ||| (((1 : Int32) <<< (one &&& 31))))) n).1)), (2, .int ((out ||| (((1 : Int32) <<< (one &&& 31)))))), (5, .int (nI (L0 - 60 / (i + 1)))), (0, .ref (G.1 (14))), (1, .int (nI a))] dX5_partnerNow_113 rfl (lc_inc1 i) (by decide) rfl ?_
            refine lc_goto 78 dX5_partnerNow_116 (by decide) ?_
            refine lc_lv (lv' := [(0, .ref (G.1 (14))), (1, .int (nI a)), (2, .int ((out ||| (((1 : Int32) <<< (one &&& 31)))))), (5, .int (nI (L0 - 60 / (i + 1)))), (6, .int (sp_on (sp_nearsM (((lc_ul σ 0 (sp_nx sd))).2.1 8) a ((out ||| (((1 : Int32) <<< (one &&& 31))))) n).1)), (7, .int (nI (i + 1)))]) [4, 5, 2, 3, 1, 0] rfl ?_
            exact ih (i + 1) (L0 - 60 / (i + 1)) ((out ||| (((1 : Int32) <<< (one &&& 31))))) (sp_on (sp_nearsM (((lc_ul σ 0 (sp_nx sd))).2.1 8) a ((out ||| (((1 : Int32) <<< (one &&& 31))))) n).1) (by omega) (by rw [← hr]; simp only [sp_pm, if_neg c_6.2] <;> rfl) (by show _ < sp_T M - (sp_T i + 60 / (i + 1)); omega)
      exact KL M 0 L ((sp_out x.1 a)) ((sp_on (sp_nearsM (σ.2.1 8) a (sp_out x.1 a) n).1)) (by omega) rfl hL

set_option maxRecDepth 100000 in
set_option maxHeartbeats 4000000 in
theorem c_X5_partner (l : Launch) (G : lc_G) (σ : lc_S) (x : lc_X) (n : Nat) (hn : n ≤ 6) (hs : x.1 7 0 = nI n) (s1 seed what : Int32) : lc_M l G yX5_partner cX5_partner 5 (some .int) { frames := 3, cells := 0, slots := 0, locals := 74 } [.ref (G.1 (14)), .int (s1), .int (seed), .int (what)] (lc_w σ 2 x) (some (.int (sp_pnrM x.1 (σ.2.1 8) n s1 seed what))) (lc_w ((if (sp_site x.1 s1 && (decide (0 ≤ seed) && sp_win what 0 1)) = true then lc_ul σ 0 (sp_partM x.1 (σ.2.1 8) s1.toNatClampNeg n seed.toInt64).2 else σ)) 2 x) := by
  refine lc_entry [(0, .ref (G.1 (14))), (1, .int (s1)), (2, .int (seed)), (3, .int (what))] (by decide) (Nat.le_of_ble_eq_true rfl) rfl rfl rfl ?_
  intro Γ hR
  refine lc_aload_n 0 dX5_partner_0 rfl ?_
  refine lc_iload_n 1 dX5_partner_1 rfl ?_
  refine lc_callV (14) (c_X5_isSite l G σ x n hn (hs) s1) hR.2.2.2.1 hR.2.2.2.2 mt_X5_isSite (by omega) (rfl) rfl ml_X5_98 rfl rfl (Nat.le_of_ble_eq_true rfl) ⟨⟨rfl, rfl⟩, Nat.le_of_ble_eq_true rfl, Nat.le_of_ble_eq_true rfl⟩ dX5_partner_2 ?_
  show lc_V _ _ _ _ _ 5 _ [.int (lc_bi (sp_site x.1 s1))] (lc_w σ 2 x)
  refine lc_ifb_ne 12 dX5_partner_5 (by decide) (fun c_1 => ?_) (fun c_1 => ?_)
  · skip
    obtain ⟨a1, ha1, ea1⟩ := sp_site_nat hn (hs) c_1
    subst ea1
    refine lc_iload_n 2 dX5_partner_12 rfl ?_
    refine lc_if_lt 25 dX5_partner_13 (by decide) (fun c_2 => ?_) (fun c_2 => ?_)
    · skip
      refine lc_sipush (v := (-1002)) dX5_partner_25 (by decide) ?_
      exact lc_iret hR dX5_partner_28 (by simp [sp_pnrM, show sp_win (0 : Int32) 0 1 = true from by decide, c_1, c_2]) (by simp [sp_pnrM, show sp_win (0 : Int32) 0 1 = true from by decide, c_1, c_2])
    · skip
      refine lc_iload_n 3 dX5_partner_16 rfl ?_
      refine lc_iconst (v := 0) dX5_partner_17 (by decide) ?_
      refine lc_iconst (v := 1) dX5_partner_18 (by decide) ?_
      refine lc_callS (c_X5_within l G (lc_w σ 2 x) what 0 1) hR.2.2.2.1 hR.2.2.2.2 mt_X5_within ml_X5_43 rfl rfl (Nat.le_of_ble_eq_true rfl) ⟨⟨rfl, rfl⟩, Nat.le_of_ble_eq_true rfl, Nat.le_of_ble_eq_true rfl⟩ dX5_partner_19 ?_
      show lc_V _ _ _ _ _ 22 _ [.int (lc_bi (sp_win what 0 1))] (lc_w σ 2 x)
      refine lc_ifb_ne 29 dX5_partner_22 (by decide) (fun c_3 => ?_) (fun c_3 => ?_)
      · skip
        refine lc_aload_n 0 dX5_partner_29 rfl ?_
        refine lc_iload_n 2 dX5_partner_30 rfl ?_
        refine lc_i2l dX5_partner_31 ?_
        refine lc_p_mseed fl_X5_172 dX5_partner_32 ?_
        refine lc_aload_n 0 dX5_partner_35 rfl ?_
        refine lc_iload_n 1 dX5_partner_36 rfl ?_
        refine lc_callV (14) (c_X5_partnerNow l G σ seed.toInt64 x n a1 hn (by omega) (hs)) hR.2.2.2.1 hR.2.2.2.2 mt_X5_partnerNow (by omega) (rfl) rfl ml_X5_188 rfl rfl (Nat.le_of_ble_eq_true rfl) ⟨⟨rfl, rfl⟩, Nat.le_of_ble_eq_true rfl, Nat.le_of_ble_eq_true rfl⟩ dX5_partner_37 ?_
        show lc_V _ _ _ _ _ 40 _ [.int ((sp_partM x.1 (σ.2.1 8) a1 n seed.toInt64).1)] (lc_w ((lc_ul σ 0 ((sp_partM x.1 (σ.2.1 8) a1 n seed.toInt64).2))) 2 x)
        refine lc_istore [(4, .int ((sp_partM x.1 (σ.2.1 8) a1 n seed.toInt64).1)), (0, .ref (G.1 (14))), (1, .int (nI a1)), (2, .int (seed)), (3, .int (what))] dX5_partner_40 (by decide) rfl ?_
        refine lc_iload_n 4 dX5_partner_42 rfl ?_
        refine lc_if_ne 51 dX5_partner_43 (by decide) (fun c_4 => ?_) (fun c_4 => ?_)
        · skip
          refine lc_aload_n 1 dX5_partner_51 rfl ?_
          refine lc_g_mseed fl_X5_172 dX5_partner_52 ?_
          refine lc_topl ((sp_partM x.1 (σ.2.1 8) a1 n seed.toInt64).2) (rfl) ?_
          refine lc_l2i dX5_partner_55 ?_
          exact lc_iret hR dX5_partner_56 (by simp [sp_pnrM, show sp_win (0 : Int32) 0 1 = true from by decide, nI_clamp (show a1 < 2 ^ 31 by omega), c_1, c_2, c_3, c_4]) (by simp [sp_pnrM, show sp_win (0 : Int32) 0 1 = true from by decide, nI_clamp (show a1 < 2 ^ 31 by omega), c_1, c_2, c_3, c_4])
        · skip
          refine lc_iload 0 dX5_partner_46 rfl ?_
          refine lc_goto 56 dX5_partner_48 (by decide) ?_
          exact lc_iret hR dX5_partner_56 (by simp [sp_pnrM, show sp_win (0 : Int32) 0 1 = true from by decide, nI_clamp (show a1 < 2 ^ 31 by omega), c_1, c_2, c_3, c_4]) (by simp [sp_pnrM, show sp_win (0 : Int32) 0 1 = true from by decide, nI_clamp (show a1 < 2 ^ 31 by omega), c_1, c_2, c_3, c_4])
      · skip
        refine lc_sipush (v := (-1002)) dX5_partner_25 (by decide) ?_
        exact lc_iret hR dX5_partner_28 (by simp [sp_pnrM, show sp_win (0 : Int32) 0 1 = true from by decide, c_1, c_2, c_3]) (by simp [sp_pnrM, show sp_win (0 : Int32) 0 1 = true from by decide, c_1, c_2, c_3])
  · skip
    refine lc_sipush (v := (-1001)) dX5_partner_8 (by decide) ?_
    exact lc_iret hR dX5_partner_11 (by simp [sp_pnrM, show sp_win (0 : Int32) 0 1 = true from by decide, c_1]) (by simp [sp_pnrM, show sp_win (0 : Int32) 0 1 = true from by decide, c_1])

set_option maxRecDepth 100000 in
set_option maxHeartbeats 4000000 in
theorem c_X5_areAllAlike (l : Launch) (G : lc_G) (σ : lc_S) (x : lc_X) (n : Nat) (hn : n ≤ 6) (hs : x.1 7 0 = nI n) : lc_M l G yX5_areAllAlike cX5_areAllAlike 4 (some .boolean) { frames := 4, cells := 0, slots := 0, locals := 89 } [.ref (G.1 (14))] (lc_w σ 2 x) (some (.int (lc_bi (sp_aaM x.1 n)))) (lc_w σ 2 x) := by
  refine lc_entry [(0, .ref (G.1 (14)))] (by decide) (Nat.le_of_ble_eq_true rfl) rfl rfl rfl ?_
  intro Γ hR
  refine lc_iconst (v := 1) dX5_areAllAlike_0 (by decide) ?_
  refine lc_istore_n [(1, .int (1)), (0, .ref (G.1 (14)))] dX5_areAllAlike_1 (by decide) rfl ?_
  refine lc_iconst (v := 0) dX5_areAllAlike_2 (by decide) ?_
  refine lc_istore_n [(2, .int (0)), (1, .int (1)), (0, .ref (G.1 (14)))] dX5_areAllAlike_3 (by decide) rfl ?_
  refine lc_lv (lv' := [(0, .ref (G.1 (14))), (1, .int (1)), (2, .int (0))]) [2, 1, 0] rfl ?_
  refine lc_forI (α := Bool) (fun a z => lc_V G Γ cX5_areAllAlike 4 RX5 4 [(0, .ref (G.1 (14))), (1, .int (lc_bi (z))), (2, .int (nI a))] [] (lc_w σ 2 x)) (fun _ _ => True) (fun a z => sp_it (fun b z => z && (sp_bit (x.1 7 2) (nI a) || sp_bit (x.1 7 2) (nI b) || sp_alikeM x.1 a b)) a z) n (fun _ _ _ _ => trivial) (fun a z ha hIa ka => ?_) true (trivial) (fun hIa => ?_)
  · skip
    show lc_V G Γ cX5_areAllAlike 4 RX5 4 [(0, .ref (G.1 (14))), (1, .int (lc_bi (z))), (2, .int (nI a))] [] (lc_w σ 2 x)
    refine lc_iload_n 2 dX5_areAllAlike_4 rfl ?_
    refine lc_aload_n 0 dX5_areAllAlike_5 rfl ?_
    refine lc_gMSites fl_X5_55 dX5_areAllAlike_6 ?_
    refine lc_icmp_ge 72 dX5_areAllAlike_9 (by decide) (fun h => absurd h.1 (by rw [hs]; exact nI_ge (b := n) ha (by omega))) (fun _ => ?_)
    refine lc_iconst (v := 0) dX5_areAllAlike_12 (by decide) ?_
    refine lc_istore_n [(3, .int (0)), (0, .ref (G.1 (14))), (1, .int (lc_bi (z))), (2, .int (nI a))] dX5_areAllAlike_13 (by decide) rfl ?_
    refine lc_lv (lv' := [(0, .ref (G.1 (14))), (1, .int (lc_bi (z))), (2, .int (nI a)), (3, .int (0))]) [1, 2, 3, 0] rfl ?_
    refine lc_forI (α := Bool) (fun b y => lc_V G Γ cX5_areAllAlike 4 RX5 14 [(0, .ref (G.1 (14))), (1, .int (lc_bi (y))), (2, .int (nI a)), (3, .int (nI b))] [] (lc_w σ 2 x)) (fun _ _ => True) (fun b z => z && (sp_bit (x.1 7 2) (nI a) || sp_bit (x.1 7 2) (nI b) || sp_alikeM x.1 a b)) a (fun _ _ _ _ => trivial) (fun b y hb hIb kb => ?_) z (trivial) (fun hIb => ?_)
    · skip
      show lc_V G Γ cX5_areAllAlike 4 RX5 14 [(0, .ref (G.1 (14))), (1, .int (lc_bi (y))), (2, .int (nI a)), (3, .int (nI b))] [] (lc_w σ 2 x)
      refine lc_iload_n 3 dX5_areAllAlike_14 rfl ?_
      refine lc_iload_n 2 dX5_areAllAlike_15 rfl ?_
      refine lc_icmp_ge 66 dX5_areAllAlike_16 (by decide) (fun h => absurd h.1 (by exact nI_ge (b := a) hb (by omega))) (fun _ => ?_)
      refine lc_iload_n 1 dX5_areAllAlike_19 rfl ?_
      refine lc_ifb_eq 58 dX5_areAllAlike_20 (by decide) (fun c_3 => ?_) (fun c_3 => ?_)
      · skip
        refine lc_iconst (v := 0) dX5_areAllAlike_58 (by decide) ?_
        refine lc_istore_n [(1, .int (0)), (0, .ref (G.1 (14))), (2, .int (nI a)), (3, .int (nI b))] dX5_areAllAlike_59 (by decide) rfl ?_
        refine lc_iinc 3 (nI (b + 1)) [(3, .int (nI (b + 1))), (1, .int (0)), (0, .ref (G.1 (14))), (2, .int (nI a))] dX5_areAllAlike_60 rfl (lc_inc1 b) (by decide) rfl ?_
        refine lc_goto 14 dX5_areAllAlike_63 (by decide) ?_
        refine lc_lv (lv' := [(0, .ref (G.1 (14))), (1, .int (0)), (2, .int (nI a)), (3, .int (nI (b + 1)))]) [2, 1, 3, 0] rfl ?_
        rw [show (y && (sp_bit (x.1 7 2) (nI a) || sp_bit (x.1 7 2) (nI b) || sp_alikeM x.1 a b)) = false from by simp [c_3]] at kb
        exact kb
      · skip
        refine lc_aload_n 0 dX5_areAllAlike_23 rfl ?_
        refine lc_gMOff fl_X5_65 dX5_areAllAlike_24 ?_
        refine lc_iload_n 2 dX5_areAllAlike_27 rfl ?_
        refine lc_callS (c_X5_isIn l G (lc_w σ 2 x) (x.1 7 2) (nI a)) hR.2.2.2.1 hR.2.2.2.2 mt_X5_isIn ml_X5_84 rfl rfl (Nat.le_of_ble_eq_true rfl) ⟨⟨rfl, rfl⟩, Nat.le_of_ble_eq_true rfl, Nat.le_of_ble_eq_true rfl⟩ dX5_areAllAlike_28 ?_
        show lc_V _ _ _ _ _ 31 _ [.int (lc_bi (sp_bit (x.1 7 2) (nI a)))] (lc_w σ 2 x)
        refine lc_ifb_ne 54 dX5_areAllAlike_31 (by decide) (fun c_4 => ?_) (fun c_4 => ?_)
        · skip
          refine lc_iconst (v := 1) dX5_areAllAlike_54 (by decide) ?_
          refine lc_goto 59 dX5_areAllAlike_55 (by decide) ?_
          refine lc_istore_n [(1, .int (1)), (0, .ref (G.1 (14))), (2, .int (nI a)), (3, .int (nI b))] dX5_areAllAlike_59 (by decide) rfl ?_
          refine lc_iinc 3 (nI (b + 1)) [(3, .int (nI (b + 1))), (1, .int (1)), (0, .ref (G.1 (14))), (2, .int (nI a))] dX5_areAllAlike_60 rfl (lc_inc1 b) (by decide) rfl ?_
          refine lc_goto 14 dX5_areAllAlike_63 (by decide) ?_
          refine lc_lv (lv' := [(0, .ref (G.1 (14))), (1, .int (1)), (2, .int (nI a)), (3, .int (nI (b + 1)))]) [2, 1, 3, 0] rfl ?_
          rw [show (y && (sp_bit (x.1 7 2) (nI a) || sp_bit (x.1 7 2) (nI b) || sp_alikeM x.1 a b)) = true from by simp [c_3, c_4]] at kb
          exact kb
        · skip
          refine lc_aload_n 0 dX5_areAllAlike_34 rfl ?_
          refine lc_gMOff fl_X5_65 dX5_areAllAlike_35 ?_
          refine lc_iload_n 3 dX5_areAllAlike_38 rfl ?_
          refine lc_callS (c_X5_isIn l G (lc_w σ 2 x) (x.1 7 2) (nI b)) hR.2.2.2.1 hR.2.2.2.2 mt_X5_isIn ml_X5_84 rfl rfl (Nat.le_of_ble_eq_true rfl) ⟨⟨rfl, rfl⟩, Nat.le_of_ble_eq_true rfl, Nat.le_of_ble_eq_true rfl⟩ dX5_areAllAlike_39 ?_
          show lc_V _ _ _ _ _ 42 _ [.int (lc_bi (sp_bit (x.1 7 2) (nI b)))] (lc_w σ 2 x)
          refine lc_ifb_ne 54 dX5_areAllAlike_42 (by decide) (fun c_5 => ?_) (fun c_5 => ?_)
          · skip
            refine lc_iconst (v := 1) dX5_areAllAlike_54 (by decide) ?_
            refine lc_goto 59 dX5_areAllAlike_55 (by decide) ?_
            refine lc_istore_n [(1, .int (1)), (0, .ref (G.1 (14))), (2, .int (nI a)), (3, .int (nI b))] dX5_areAllAlike_59 (by decide) rfl ?_
            refine lc_iinc 3 (nI (b + 1)) [(3, .int (nI (b + 1))), (1, .int (1)), (0, .ref (G.1 (14))), (2, .int (nI a))] dX5_areAllAlike_60 rfl (lc_inc1 b) (by decide) rfl ?_
            refine lc_goto 14 dX5_areAllAlike_63 (by decide) ?_
            refine lc_lv (lv' := [(0, .ref (G.1 (14))), (1, .int (1)), (2, .int (nI a)), (3, .int (nI (b + 1)))]) [2, 1, 3, 0] rfl ?_
            rw [show (y && (sp_bit (x.1 7 2) (nI a) || sp_bit (x.1 7 2) (nI b) || sp_alikeM x.1 a b)) = true from by simp [c_3, c_4, c_5]] at kb
            exact kb
          · skip
            refine lc_aload_n 0 dX5_areAllAlike_45 rfl ?_
            refine lc_iload_n 2 dX5_areAllAlike_46 rfl ?_
            refine lc_iload_n 3 dX5_areAllAlike_47 rfl ?_
            refine lc_callV (14) (c_X5_areAlike l G σ x a b (by omega) (by omega)) hR.2.2.2.1 hR.2.2.2.2 mt_X5_areAlike (by omega) (rfl) rfl ml_X5_146 rfl rfl (Nat.le_of_ble_eq_true rfl) ⟨⟨rfl, rfl⟩, Nat.le_of_ble_eq_true rfl, Nat.le_of_ble_eq_true rfl⟩ dX5_areAllAlike_48 ?_
            show lc_V _ _ _ _ _ 51 _ [.int (lc_bi (sp_alikeM x.1 a b))] (lc_w σ 2 x)
            refine lc_tern 58 59 dX5_areAllAlike_51 (by decide) dX5_areAllAlike_54 dX5_areAllAlike_55 (by decide) dX5_areAllAlike_58 rfl ?_
            refine lc_istore_n [(1, .int (lc_bi (sp_alikeM x.1 a b))), (0, .ref (G.1 (14))), (2, .int (nI a)), (3, .int (nI b))] dX5_areAllAlike_59 (by decide) rfl ?_
            refine lc_iinc 3 (nI (b + 1)) [(3, .int (nI (b + 1))), (1, .int (lc_bi (sp_alikeM x.1 a b))), (0, .ref (G.1 (14))), (2, .int (nI a))] dX5_areAllAlike_60 rfl (lc_inc1 b) (by decide) rfl ?_
            refine lc_goto 14 dX5_areAllAlike_63 (by decide) ?_
            refine lc_lv (lv' := [(0, .ref (G.1 (14))), (1, .int (lc_bi (sp_alikeM x.1 a b))), (2, .int (nI a)), (3, .int (nI (b + 1)))]) [2, 1, 3, 0] rfl ?_
            rw [show (y && (sp_bit (x.1 7 2) (nI a) || sp_bit (x.1 7 2) (nI b) || sp_alikeM x.1 a b)) = (sp_alikeM x.1 a b) from by simp [c_3, c_4, c_5]] at kb
            exact kb
    · skip
      show lc_V G Γ cX5_areAllAlike 4 RX5 14 [(0, .ref (G.1 (14))), (1, .int (lc_bi ((sp_it (fun b z => z && (sp_bit (x.1 7 2) (nI a) || sp_bit (x.1 7 2) (nI b) || sp_alikeM x.1 a b)) a z)))), (2, .int (nI a)), (3, .int (nI a))] [] (lc_w σ 2 x)
      refine lc_iload_n 3 dX5_areAllAlike_14 rfl ?_
      refine lc_iload_n 2 dX5_areAllAlike_15 rfl ?_
      refine lc_icmp_ge 66 dX5_areAllAlike_16 (by decide) (fun _ => ?_) (fun h => absurd h.1 (by exact nI_nlt (a := a) (b := a) (Nat.le_refl _) (by omega)))
      refine lc_iinc 2 (nI (a + 1)) [(2, .int (nI (a + 1))), (0, .ref (G.1 (14))), (1, .int (lc_bi ((sp_it (fun b z => z && (sp_bit (x.1 7 2) (nI a) || sp_bit (x.1 7 2) (nI b) || sp_alikeM x.1 a b)) a z)))), (3, .int (nI a))] dX5_areAllAlike_66 rfl (lc_inc1 a) (by decide) rfl ?_
      refine lc_goto 4 dX5_areAllAlike_69 (by decide) ?_
      refine lc_lv (lv' := [(0, .ref (G.1 (14))), (1, .int (lc_bi ((sp_it (fun b z => z && (sp_bit (x.1 7 2) (nI a) || sp_bit (x.1 7 2) (nI b) || sp_alikeM x.1 a b)) a z)))), (2, .int (nI (a + 1)))]) [1, 2, 0] rfl ?_
      rw [show sp_it (fun b z => z && (sp_bit (x.1 7 2) (nI a) || sp_bit (x.1 7 2) (nI b) || sp_alikeM x.1 a b)) a z = sp_it (fun b z => z && (sp_bit (x.1 7 2) (nI a) || sp_bit (x.1 7 2) (nI b) || sp_alikeM x.1 a b)) a z from rfl] at ka
      exact ka
  · skip
    show lc_V G Γ cX5_areAllAlike 4 RX5 4 [(0, .ref (G.1 (14))), (1, .int (lc_bi ((sp_aaM x.1 n)))), (2, .int (nI n))] [] (lc_w σ 2 x)
    refine lc_iload_n 2 dX5_areAllAlike_4 rfl ?_
    refine lc_aload_n 0 dX5_areAllAlike_5 rfl ?_
    refine lc_gMSites fl_X5_55 dX5_areAllAlike_6 ?_
    refine lc_icmp_ge 72 dX5_areAllAlike_9 (by decide) (fun _ => ?_) (fun h => absurd h.1 (by rw [hs]; exact nI_nlt (a := n) (b := n) (Nat.le_refl _) (by omega)))
    refine lc_iload_n 1 dX5_areAllAlike_72 rfl ?_
    exact lc_zret hR dX5_areAllAlike_73 (rfl) (rfl)

set_option maxRecDepth 100000 in
set_option maxHeartbeats 4000000 in
theorem c_X5_goRound (l : Launch) (G : lc_G) (σ : lc_S) (sd : Int64) (x : lc_X) (n : Nat) (rum : Bool) (hn : n ≤ 6) (hs : x.1 7 0 = nI n) : lc_M l G yX5_goRound cX5_goRound 4 none { frames := 6, cells := 0, slots := 0, locals := 138 } [.ref (G.1 (14)), .int (lc_bi (rum))] (lc_w ((lc_ul σ 0 sd)) 2 x) none (lc_w ((lc_ul σ 0 ((sp_rdM (σ.2.1 8) n rum (sd, x)).1))) 2 ((sp_rdM (σ.2.1 8) n rum (sd, x)).2)) := by
  refine lc_entry [(0, .ref (G.1 (14))), (1, .int (lc_bi (rum)))] (by decide) (Nat.le_of_ble_eq_true rfl) rfl rfl rfl ?_
  intro Γ hR
  refine lc_aload_n 0 dX5_goRound_0 rfl ?_
  refine lc_dup dX5_goRound_1 rfl ?_
  refine lc_gMNow fl_X5_62 dX5_goRound_2 ?_
  refine lc_iconst (v := 1) dX5_goRound_5 (by decide) ?_
  refine lc_iadd dX5_goRound_6 ?_
  refine lc_pMNow fl_X5_62 dX5_goRound_7 ?_
  refine lc_aload_n 0 dX5_goRound_10 rfl ?_
  refine lc_callV (14) (c_X5_purge l G ((lc_ul σ 0 sd)) ((lc_cu x.1 7 1 (((x.1 7 1) + 1)), x.2)) n hn (hs)) hR.2.2.2.1 hR.2.2.2.2 mt_X5_purge (by omega) (rfl) rfl ml_X5_95 rfl rfl (Nat.le_of_ble_eq_true rfl) ⟨⟨rfl, rfl⟩, Nat.le_of_ble_eq_true rfl, Nat.le_of_ble_eq_true rfl⟩ dX5_goRound_11 ?_
  show lc_V _ _ _ _ _ 14 _ [.int ((sp_drop n ((lc_cu x.1 7 1 (((x.1 7 1) + 1)), x.2))).1)] (lc_w ((lc_ul σ 0 sd)) 2 ((sp_drop n ((lc_cu x.1 7 1 (((x.1 7 1) + 1)), x.2))).2))
  refine lc_eq (σ' := lc_w ((lc_ul σ 0 sd)) 2 ((sp_adv n x 1).2)) (rfl) ?_
  refine lc_pop dX5_goRound_14 rfl ?_
  refine lc_iconst (v := 0) dX5_goRound_15 (by decide) ?_
  refine lc_istore_n [(2, .int (0)), (0, .ref (G.1 (14))), (1, .int (lc_bi (rum)))] dX5_goRound_16 (by decide) rfl ?_
  refine lc_lv (lv' := [(0, .ref (G.1 (14))), (1, .int (lc_bi (rum))), (2, .int (0))]) [1, 2, 0] rfl ?_
  refine lc_forI (α := Int64 × lc_X) (fun i z => lc_V G Γ cX5_goRound 4 RX5 17 [(0, .ref (G.1 (14))), (1, .int (lc_bi (rum))), (2, .int (nI i))] [] (lc_w ((lc_ul σ 0 z.1)) 2 z.2)) (fun _ z => z.2.1 7 0 = nI n) (sp_tnM (σ.2.1 8) n rum) n (fun i z _ h => by rw [(sp_tnM_r _ _ _ _ _).2]; exact h) (fun i z hi hIi ki => ?_) ((sd, (sp_adv n x 1).2)) (by rw [sp_adv_70]; exact hs) (fun hIi => ?_)
  · skip
    show lc_V G Γ cX5_goRound 4 RX5 17 [(0, .ref (G.1 (14))), (1, .int (lc_bi (rum))), (2, .int (nI i))] [] (lc_w ((lc_ul σ 0 z.1)) 2 z.2)
    refine lc_iload_n 2 dX5_goRound_17 rfl ?_
    refine lc_aload_n 0 dX5_goRound_18 rfl ?_
    refine lc_gMSites fl_X5_55 dX5_goRound_19 ?_
    refine lc_icmp_ge 83 dX5_goRound_22 (by decide) (fun h => absurd h.1 (by rw [hIi]; exact nI_ge (b := n) hi (by omega))) (fun _ => ?_)
    refine lc_aload_n 0 dX5_goRound_25 rfl ?_
    refine lc_gMOff fl_X5_65 dX5_goRound_26 ?_
    refine lc_iload_n 2 dX5_goRound_29 rfl ?_
    refine lc_callS (c_X5_isIn l G (lc_w ((lc_ul σ 0 z.1)) 2 z.2) (z.2.1 7 2) (nI i)) hR.2.2.2.1 hR.2.2.2.2 mt_X5_isIn ml_X5_84 rfl rfl (Nat.le_of_ble_eq_true rfl) ⟨⟨rfl, rfl⟩, Nat.le_of_ble_eq_true rfl, Nat.le_of_ble_eq_true rfl⟩ dX5_goRound_30 ?_
    show lc_V _ _ _ _ _ 33 _ [.int (lc_bi (sp_bit (z.2.1 7 2) (nI i)))] (lc_w ((lc_ul σ 0 z.1)) 2 z.2)
    refine lc_ifb_eq 40 dX5_goRound_33 (by decide) (fun c_2 => ?_) (fun c_2 => ?_)
    · skip
      refine lc_aload_n 0 dX5_goRound_40 rfl ?_
      refine lc_iload_n 2 dX5_goRound_41 rfl ?_
      refine lc_callV (14) (c_X5_partnerNow l G σ z.1 z.2 n i hn (by omega) (hIi)) hR.2.2.2.1 hR.2.2.2.2 mt_X5_partnerNow (by omega) (rfl) rfl ml_X5_188 rfl rfl (Nat.le_of_ble_eq_true rfl) ⟨⟨rfl, rfl⟩, Nat.le_of_ble_eq_true rfl, Nat.le_of_ble_eq_true rfl⟩ dX5_goRound_42 ?_
      show lc_V _ _ _ _ _ 45 _ [.int ((sp_partM z.2.1 (σ.2.1 8) i n z.1).1)] (lc_w ((lc_ul σ 0 ((sp_partM z.2.1 (σ.2.1 8) i n z.1).2))) 2 z.2)
      rcases sp_partM_cases z.2.1 (σ.2.1 8) i n z.1 with hp | ⟨q, hq, hp⟩
      · skip
        refine lc_topi (-1) hp ?_
        refine lc_istore_n [(3, .int ((-1))), (0, .ref (G.1 (14))), (1, .int (lc_bi (rum))), (2, .int (nI i))] dX5_goRound_45 (by decide) rfl ?_
        refine lc_iload_n 0 dX5_goRound_46 rfl ?_
        refine lc_iconst (v := (-1)) dX5_goRound_47 (by decide) ?_
        refine lc_icmp_eq 65 dX5_goRound_48 (by decide) (fun _ => ?_) (fun h => absurd h (by decide))
        refine lc_iload_n 0 dX5_goRound_65 rfl ?_
        refine lc_iconst (v := (-1)) dX5_goRound_66 (by decide) ?_
        refine lc_icmp_eq 77 dX5_goRound_67 (by decide) (fun _ => ?_) (fun h => absurd h (by decide))
        refine lc_iinc 3 (nI (i + 1)) [(2, .int (nI (i + 1))), (3, .int ((-1))), (0, .ref (G.1 (14))), (1, .int (lc_bi (rum)))] dX5_goRound_77 rfl (lc_inc1 i) (by decide) rfl ?_
        refine lc_goto 17 dX5_goRound_80 (by decide) ?_
        refine lc_lv (lv' := [(0, .ref (G.1 (14))), (1, .int (lc_bi (rum))), (2, .int (nI (i + 1)))]) [2, 3, 0] rfl ?_
        rw [show (sp_tnM (σ.2.1 8) n rum) i z = (((sp_partM z.2.1 (σ.2.1 8) i n z.1).2), z.2) from by simp [sp_tnM, c_2, hp]] at ki
        exact ki
      · skip
        refine lc_topi (nI q) hp ?_
        have hq1 : ¬ nI q = -1 := lc_nm1 (by omega)
        have hq2 : (nI q).toNatClampNeg = q := nI_clamp (by omega)
        refine lc_istore_n [(3, .int (nI q)), (0, .ref (G.1 (14))), (1, .int (lc_bi (rum))), (2, .int (nI i))] dX5_goRound_45 (by decide) rfl ?_
        refine lc_iload_n 0 dX5_goRound_46 rfl ?_
        refine lc_iconst (v := (-1)) dX5_goRound_47 (by decide) ?_
        refine lc_icmp_eq 65 dX5_goRound_48 (by decide) (fun h => absurd h hq1) (fun _ => ?_)
        refine lc_iload_n 2 dX5_goRound_51 rfl ?_
        refine lc_ifb_eq 65 dX5_goRound_52 (by decide) (fun c_6 => ?_) (fun c_6 => ?_)
        · skip
          refine lc_iload_n 0 dX5_goRound_65 rfl ?_
          refine lc_iconst (v := (-1)) dX5_goRound_66 (by decide) ?_
          refine lc_icmp_eq 77 dX5_goRound_67 (by decide) (fun h => absurd h hq1) (fun _ => ?_)
          refine lc_aload_n 1 dX5_goRound_70 rfl ?_
          refine lc_iload_n 3 dX5_goRound_71 rfl ?_
          refine lc_iload_n 0 dX5_goRound_72 rfl ?_
          refine lc_callV (14) (c_X5_exchangeNow l G ((lc_ul σ 0 ((sp_partM z.2.1 (σ.2.1 8) i n z.1).2))) z.2 i q (by omega) (by omega)) hR.2.2.2.1 hR.2.2.2.2 mt_X5_exchangeNow (by omega) (rfl) rfl ml_X5_152 rfl rfl (Nat.le_of_ble_eq_true rfl) ⟨⟨rfl, rfl⟩, Nat.le_of_ble_eq_true rfl, Nat.le_of_ble_eq_true rfl⟩ dX5_goRound_73 ?_
          show lc_V _ _ _ _ _ 76 _ [.int ((sp_cmpM z.2 i q).1)] (lc_w ((lc_ul σ 0 ((sp_partM z.2.1 (σ.2.1 8) i n z.1).2))) 2 ((sp_cmpM z.2 i q).2))
          refine lc_pop dX5_goRound_76 rfl ?_
          refine lc_iinc 3 (nI (i + 1)) [(2, .int (nI (i + 1))), (3, .int (nI q)), (0, .ref (G.1 (14))), (1, .int (lc_bi (rum)))] dX5_goRound_77 rfl (lc_inc1 i) (by decide) rfl ?_
          refine lc_goto 17 dX5_goRound_80 (by decide) ?_
          refine lc_lv (lv' := [(0, .ref (G.1 (14))), (1, .int (lc_bi (rum))), (2, .int (nI (i + 1)))]) [2, 3, 0] rfl ?_
          rw [show (sp_tnM (σ.2.1 8) n rum) i z = (((sp_partM z.2.1 (σ.2.1 8) i n z.1).2), (sp_cmpM z.2 i q).2) from by simp [sp_tnM, c_2, hp, hq1, hq2, c_6]] at ki
          exact ki
        · skip
          refine lc_aload_n 1 dX5_goRound_55 rfl ?_
          refine lc_iload_n 3 dX5_goRound_56 rfl ?_
          refine lc_iload_n 0 dX5_goRound_57 rfl ?_
          refine lc_callV (14) (c_X5_rumourNow l G ((lc_ul σ 0 ((sp_partM z.2.1 (σ.2.1 8) i n z.1).2))) z.2 i q (by omega) (by omega)) hR.2.2.2.1 hR.2.2.2.2 mt_X5_rumourNow (by omega) (rfl) rfl ml_X5_158 rfl rfl (Nat.le_of_ble_eq_true rfl) ⟨⟨rfl, rfl⟩, Nat.le_of_ble_eq_true rfl, Nat.le_of_ble_eq_true rfl⟩ dX5_goRound_58 ?_
          show lc_V _ _ _ _ _ 61 _ [.int ((sp_hotsM z.2 i q).1)] (lc_w ((lc_ul σ 0 ((sp_partM z.2.1 (σ.2.1 8) i n z.1).2))) 2 ((sp_hotsM z.2 i q).2))
          refine lc_pop dX5_goRound_61 rfl ?_
          refine lc_goto 77 dX5_goRound_62 (by decide) ?_
          refine lc_iinc 3 (nI (i + 1)) [(2, .int (nI (i + 1))), (3, .int (nI q)), (0, .ref (G.1 (14))), (1, .int (lc_bi (rum)))] dX5_goRound_77 rfl (lc_inc1 i) (by decide) rfl ?_
          refine lc_goto 17 dX5_goRound_80 (by decide) ?_
          refine lc_lv (lv' := [(0, .ref (G.1 (14))), (1, .int (lc_bi (rum))), (2, .int (nI (i + 1)))]) [2, 3, 0] rfl ?_
          rw [show (sp_tnM (σ.2.1 8) n rum) i z = (((sp_partM z.2.1 (σ.2.1 8) i n z.1).2), (sp_hotsM z.2 i q).2) from by simp [sp_tnM, c_2, hp, hq1, hq2, c_6]] at ki
          exact ki
    · skip
      refine lc_iconst (v := (-1)) dX5_goRound_36 (by decide) ?_
      refine lc_goto 45 dX5_goRound_37 (by decide) ?_
      refine lc_istore_n [(3, .int ((-1))), (0, .ref (G.1 (14))), (1, .int (lc_bi (rum))), (2, .int (nI i))] dX5_goRound_45 (by decide) rfl ?_
      refine lc_iload_n 0 dX5_goRound_46 rfl ?_
      refine lc_iconst (v := (-1)) dX5_goRound_47 (by decide) ?_
      refine lc_icmp_eq 65 dX5_goRound_48 (by decide) (fun _ => ?_) (fun h => absurd h (by decide))
      refine lc_iload_n 0 dX5_goRound_65 rfl ?_
      refine lc_iconst (v := (-1)) dX5_goRound_66 (by decide) ?_
      refine lc_icmp_eq 77 dX5_goRound_67 (by decide) (fun _ => ?_) (fun h => absurd h (by decide))
      refine lc_iinc 3 (nI (i + 1)) [(2, .int (nI (i + 1))), (3, .int ((-1))), (0, .ref (G.1 (14))), (1, .int (lc_bi (rum)))] dX5_goRound_77 rfl (lc_inc1 i) (by decide) rfl ?_
      refine lc_goto 17 dX5_goRound_80 (by decide) ?_
      refine lc_lv (lv' := [(0, .ref (G.1 (14))), (1, .int (lc_bi (rum))), (2, .int (nI (i + 1)))]) [2, 3, 0] rfl ?_
      rw [show (sp_tnM (σ.2.1 8) n rum) i z = (z.1, z.2) from by simp [sp_tnM, c_2]] at ki
      exact ki
  · skip
    have hIi2 : (sp_rdM (σ.2.1 8) n rum (sd, x)).2.1 7 0 = nI n := hIi
    show lc_V G Γ cX5_goRound 4 RX5 17 [(0, .ref (G.1 (14))), (1, .int (lc_bi (rum))), (2, .int (nI n))] [] (lc_w ((lc_ul σ 0 (((sp_rdM (σ.2.1 8) n rum (sd, x))).1))) 2 (((sp_rdM (σ.2.1 8) n rum (sd, x))).2))
    refine lc_iload_n 2 dX5_goRound_17 rfl ?_
    refine lc_aload_n 0 dX5_goRound_18 rfl ?_
    refine lc_gMSites fl_X5_55 dX5_goRound_19 ?_
    refine lc_icmp_ge 83 dX5_goRound_22 (by decide) (fun _ => ?_) (fun h => absurd h.1 (by rw [hIi2]; exact nI_nlt (a := n) (b := n) (Nat.le_refl _) (by omega)))
    exact lc_vret hR dX5_goRound_83 (rfl)
