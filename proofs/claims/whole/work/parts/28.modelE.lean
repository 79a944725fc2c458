set_option maxRecDepth 100000 in
set_option maxHeartbeats 4000000 in
theorem c_X5_mixSettling (l : Launch) (G : lc_G) (σ : lc_S) (n : Nat) (rum : Bool) (hn : n ≤ 6) (hs : σ.1 2 7 0 = nI n) : lc_M l G yX5_mixSettling cX5_mixSettling 3 none { frames := 8, cells := 0, slots := 0, locals := 184 } [.ref (G.1 (14)), .int (lc_bi (rum))] (σ) none ((sp_msM σ n rum)) := by
  refine lc_entry [(0, .ref (G.1 (14))), (1, .int (lc_bi (rum)))] (by decide) (Nat.le_of_ble_eq_true rfl) rfl rfl rfl ?_
  intro Γ hR
  refine lc_aload_n 0 dX5_mixSettling_0 rfl ?_
  refine lc_bipush (v := 7) dX5_mixSettling_1 (by decide) ?_
  refine lc_iload_n 1 dX5_mixSettling_3 rfl ?_
  refine lc_callV (14) (c_X5_laySettling l G σ n 7 rum hn hs) hR.2.2.2.1 hR.2.2.2.2 mt_X5_laySettling (by omega) (rfl) rfl ml_X5_211 rfl rfl (Nat.le_of_ble_eq_true rfl) ⟨⟨rfl, rfl⟩, Nat.le_of_ble_eq_true rfl, Nat.le_of_ble_eq_true rfl⟩ dX5_mixSettling_4 ?_
  show lc_V _ _ _ _ _ 7 _ [] ((sp_stM σ n 7 rum))
  refine lc_eq (σ' := lc_w ((lc_ul (sp_stM σ n 7 rum) 1 (σ.2.2 1))) 2 (((sp_stM σ n 7 rum).1 2, 0, 0, 0))) (by rw [show σ.2.2 1 = (sp_stM σ n 7 rum).2.2 1 from rfl, lc_ul_id]; exact (lc_w_w _ 2).symm) ?_
  refine lc_iconst (v := 0) dX5_mixSettling_7 (by decide) ?_
  refine lc_istore_n [(2, .int (0)), (0, .ref (G.1 (14))), (1, .int (lc_bi (rum)))] dX5_mixSettling_8 (by decide) rfl ?_
  refine lc_iload_n 0 dX5_mixSettling_9 rfl ?_
  refine lc_iconst (v := 3) dX5_mixSettling_10 (by decide) ?_
  refine lc_icmp_ge 30 dX5_mixSettling_11 (by decide) (fun h => absurd h (by decide)) (fun _ => ?_)
  refine lc_aload_n 1 dX5_mixSettling_14 rfl ?_
  refine lc_aload_n 1 dX5_mixSettling_15 rfl ?_
  refine lc_iload_n 0 dX5_mixSettling_16 rfl ?_
  refine lc_callV (14) (c_X5_settledNow l G ((lc_ul (sp_stM σ n 7 rum) 1 (σ.2.2 1))) (((sp_stM σ n 7 rum).1 2, 0, 0, 0)) 0) hR.2.2.2.1 hR.2.2.2.2 mt_X5_settledNow (by omega) (rfl) rfl ml_X5_215 rfl rfl (Nat.le_of_ble_eq_true rfl) ⟨⟨rfl, rfl⟩, Nat.le_of_ble_eq_true rfl, Nat.le_of_ble_eq_true rfl⟩ dX5_mixSettling_17 ?_
  show lc_V _ _ _ _ _ 20 _ [.int (if 0 = 0 then ((lc_ul (sp_stM σ n 7 rum) 1 (σ.2.2 1))).2.1 12 2 else if 0 = 1 then ((lc_ul (sp_stM σ n 7 rum) 1 (σ.2.2 1))).2.1 12 3 else (((lc_ul (sp_stM σ n 7 rum) 1 (σ.2.2 1))).2.2 0).toInt32), .ref (G.1 (14))] (lc_w ((lc_ul (sp_stM σ n 7 rum) 1 (σ.2.2 1))) 2 (((sp_stM σ n 7 rum).1 2, 0, 0, 0)))
  refine lc_topi ((sp_RM σ n 7 rum).1) rfl ?_
  refine lc_i2l dX5_mixSettling_20 ?_
  refine lc_callV (14) (c_X5_mix l G (sp_stM σ n 7 rum) ((σ.2.2 1)) (((sp_RM σ n 7 rum).1).toInt64) (((sp_stM σ n 7 rum).1 2, 0, 0, 0))) hR.2.2.2.1 hR.2.2.2.2 mt_X5_mix (by omega) (rfl) rfl ml_X5_226 rfl rfl (Nat.le_of_ble_eq_true rfl) ⟨⟨rfl, rfl⟩, Nat.le_of_ble_eq_true rfl, Nat.le_of_ble_eq_true rfl⟩ dX5_mixSettling_21 ?_
  show lc_V _ _ _ _ _ 24 _ [] (lc_w ((lc_ul (sp_stM σ n 7 rum) 1 (31 * ((σ.2.2 1)) + (((sp_RM σ n 7 rum).1).toInt64)))) 2 (((sp_stM σ n 7 rum).1 2, 0, 0, 0)))
  refine lc_iinc 0 (1) [(2, .int (1)), (0, .ref (G.1 (14))), (1, .int (lc_bi (rum)))] dX5_mixSettling_24 rfl (by decide) (by decide) rfl ?_
  refine lc_goto 9 dX5_mixSettling_27 (by decide) ?_
  refine lc_iload_n 0 dX5_mixSettling_9 rfl ?_
  refine lc_iconst (v := 3) dX5_mixSettling_10 (by decide) ?_
  refine lc_icmp_ge 30 dX5_mixSettling_11 (by decide) (fun h => absurd h (by decide)) (fun _ => ?_)
  refine lc_aload_n 1 dX5_mixSettling_14 rfl ?_
  refine lc_aload_n 1 dX5_mixSettling_15 rfl ?_
  refine lc_iload_n 0 dX5_mixSettling_16 rfl ?_
  refine lc_callV (14) (c_X5_settledNow l G ((lc_ul (sp_stM σ n 7 rum) 1 (31 * ((σ.2.2 1)) + (((sp_RM σ n 7 rum).1).toInt64)))) (((sp_stM σ n 7 rum).1 2, 0, 0, 0)) 1) hR.2.2.2.1 hR.2.2.2.2 mt_X5_settledNow (by omega) (rfl) rfl ml_X5_215 rfl rfl (Nat.le_of_ble_eq_true rfl) ⟨⟨rfl, rfl⟩, Nat.le_of_ble_eq_true rfl, Nat.le_of_ble_eq_true rfl⟩ dX5_mixSettling_17 ?_
  show lc_V _ _ _ _ _ 20 _ [.int (if 1 = 0 then ((lc_ul (sp_stM σ n 7 rum) 1 (31 * ((σ.2.2 1)) + (((sp_RM σ n 7 rum).1).toInt64)))).2.1 12 2 else if 1 = 1 then ((lc_ul (sp_stM σ n 7 rum) 1 (31 * ((σ.2.2 1)) + (((sp_RM σ n 7 rum).1).toInt64)))).2.1 12 3 else (((lc_ul (sp_stM σ n 7 rum) 1 (31 * ((σ.2.2 1)) + (((sp_RM σ n 7 rum).1).toInt64)))).2.2 0).toInt32), .ref (G.1 (14))] (lc_w ((lc_ul (sp_stM σ n 7 rum) 1 (31 * ((σ.2.2 1)) + (((sp_RM σ n 7 rum).1).toInt64)))) 2 (((sp_stM σ n 7 rum).1 2, 0, 0, 0)))
  refine lc_topi ((sp_RM σ n 7 rum).2.2.2.1) rfl ?_
  refine lc_i2l dX5_mixSettling_20 ?_
  refine lc_callV (14) (c_X5_mix l G (sp_stM σ n 7 rum) ((31 * ((σ.2.2 1)) + (((sp_RM σ n 7 rum).1).toInt64))) (((sp_RM σ n 7 rum).2.2.2.1).toInt64) (((sp_stM σ n 7 rum).1 2, 0, 0, 0))) hR.2.2.2.1 hR.2.2.2.2 mt_X5_mix (by omega) (rfl) rfl ml_X5_226 rfl rfl (Nat.le_of_ble_eq_true rfl) ⟨⟨rfl, rfl⟩, Nat.le_of_ble_eq_true rfl, Nat.le_of_ble_eq_true rfl⟩ dX5_mixSettling_21 ?_
  show lc_V _ _ _ _ _ 24 _ [] (lc_w ((lc_ul (sp_stM σ n 7 rum) 1 (31 * ((31 * ((σ.2.2 1)) + (((sp_RM σ n 7 rum).1).toInt64))) + (((sp_RM σ n 7 rum).2.2.2.1).toInt64)))) 2 (((sp_stM σ n 7 rum).1 2, 0, 0, 0)))
  refine lc_iinc 0 (2) [(2, .int (2)), (0, .ref (G.1 (14))), (1, .int (lc_bi (rum)))] dX5_mixSettling_24 rfl (by decide) (by decide) rfl ?_
  refine lc_goto 9 dX5_mixSettling_27 (by decide) ?_
  refine lc_iload_n 0 dX5_mixSettling_9 rfl ?_
  refine lc_iconst (v := 3) dX5_mixSettling_10 (by decide) ?_
  refine lc_icmp_ge 30 dX5_mixSettling_11 (by decide) (fun h => absurd h (by decide)) (fun _ => ?_)
  refine lc_aload_n 1 dX5_mixSettling_14 rfl ?_
  refine lc_aload_n 1 dX5_mixSettling_15 rfl ?_
  refine lc_iload_n 0 dX5_mixSettling_16 rfl ?_
  refine lc_callV (14) (c_X5_settledNow l G ((lc_ul (sp_stM σ n 7 rum) 1 (31 * ((31 * ((σ.2.2 1)) + (((sp_RM σ n 7 rum).1).toInt64))) + (((sp_RM σ n 7 rum).2.2.2.1).toInt64)))) (((sp_stM σ n 7 rum).1 2, 0, 0, 0)) 2) hR.2.2.2.1 hR.2.2.2.2 mt_X5_settledNow (by omega) (rfl) rfl ml_X5_215 rfl rfl (Nat.le_of_ble_eq_true rfl) ⟨⟨rfl, rfl⟩, Nat.le_of_ble_eq_true rfl, Nat.le_of_ble_eq_true rfl⟩ dX5_mixSettling_17 ?_
  show lc_V _ _ _ _ _ 20 _ [.int (if 2 = 0 then ((lc_ul (sp_stM σ n 7 rum) 1 (31 * ((31 * ((σ.2.2 1)) + (((sp_RM σ n 7 rum).1).toInt64))) + (((sp_RM σ n 7 rum).2.2.2.1).toInt64)))).2.1 12 2 else if 2 = 1 then ((lc_ul (sp_stM σ n 7 rum) 1 (31 * ((31 * ((σ.2.2 1)) + (((sp_RM σ n 7 rum).1).toInt64))) + (((sp_RM σ n 7 rum).2.2.2.1).toInt64)))).2.1 12 3 else (((lc_ul (sp_stM σ n 7 rum) 1 (31 * ((31 * ((σ.2.2 1)) + (((sp_RM σ n 7 rum).1).toInt64))) + (((sp_RM σ n 7 rum).2.2.2.1).toInt64)))).2.2 0).toInt32), .ref (G.1 (14))] (lc_w ((lc_ul (sp_stM σ n 7 rum) 1 (31 * ((31 * ((σ.2.2 1)) + (((sp_RM σ n 7 rum).1).toInt64))) + (((sp_RM σ n 7 rum).2.2.2.1).toInt64)))) 2 (((sp_stM σ n 7 rum).1 2, 0, 0, 0)))
  refine lc_topi ((sp_RM σ n 7 rum).2.1.toInt32) rfl ?_
  refine lc_i2l dX5_mixSettling_20 ?_
  refine lc_callV (14) (c_X5_mix l G (sp_stM σ n 7 rum) ((31 * ((31 * ((σ.2.2 1)) + (((sp_RM σ n 7 rum).1).toInt64))) + (((sp_RM σ n 7 rum).2.2.2.1).toInt64))) (((sp_RM σ n 7 rum).2.1.toInt32).toInt64) (((sp_stM σ n 7 rum).1 2, 0, 0, 0))) hR.2.2.2.1 hR.2.2.2.2 mt_X5_mix (by omega) (rfl) rfl ml_X5_226 rfl rfl (Nat.le_of_ble_eq_true rfl) ⟨⟨rfl, rfl⟩, Nat.le_of_ble_eq_true rfl, Nat.le_of_ble_eq_true rfl⟩ dX5_mixSettling_21 ?_
  show lc_V _ _ _ _ _ 24 _ [] (lc_w ((lc_ul (sp_stM σ n 7 rum) 1 (31 * ((31 * ((31 * ((σ.2.2 1)) + (((sp_RM σ n 7 rum).1).toInt64))) + (((sp_RM σ n 7 rum).2.2.2.1).toInt64))) + (((sp_RM σ n 7 rum).2.1.toInt32).toInt64)))) 2 (((sp_stM σ n 7 rum).1 2, 0, 0, 0)))
  refine lc_iinc 0 (3) [(2, .int (3)), (0, .ref (G.1 (14))), (1, .int (lc_bi (rum)))] dX5_mixSettling_24 rfl (by decide) (by decide) rfl ?_
  refine lc_goto 9 dX5_mixSettling_27 (by decide) ?_
  refine lc_iload_n 0 dX5_mixSettling_9 rfl ?_
  refine lc_iconst (v := 3) dX5_mixSettling_10 (by decide) ?_
  refine lc_icmp_ge 30 dX5_mixSettling_11 (by decide) (fun _ => ?_) (fun h => absurd h (by decide))
  refine lc_eq (σ' := sp_msM σ n rum) (lc_w_w (sp_msM σ n rum) 2) ?_
  exact lc_vret hR dX5_mixSettling_30 (rfl)

set_option maxRecDepth 100000 in
set_option maxHeartbeats 4000000 in
theorem c_X5_digest (l : Launch) (G : lc_G) (σ : lc_S) (n p : Nat) (hn : n ≤ 6) (hs : σ.1 2 7 0 = nI n) (hp : σ.2.1 12 0 = nI p) (hp6 : p ≤ 6) : lc_M l G yX5_digest cX5_digest 2 (some .long) { frames := 9, cells := 0, slots := 0, locals := 206 } [.ref (G.1 (14))] (σ) (some (.long ((sp_digM σ n p).1))) ((sp_digM σ n p).2) := by
  refine lc_entry [(0, .ref (G.1 (14)))] (by decide) (Nat.le_of_ble_eq_true rfl) rfl rfl rfl ?_
  intro Γ hR
  refine lc_eq (σ' := lc_w σ 2 ((σ.1 2, 0, 0, 0))) ((lc_w_w σ 2).symm) ?_
  refine lc_aload_n 0 dX5_digest_0 rfl ?_
  refine lc_ldc2 kc_X5_230 dX5_digest_1 ?_
  refine lc_p_mh fl_X5_223 dX5_digest_4 ?_
  refine lc_iconst (v := 0) dX5_digest_7 (by decide) ?_
  refine lc_istore_n [(1, .int (0)), (0, .ref (G.1 (14)))] dX5_digest_8 (by decide) rfl ?_
  refine lc_lv (lv' := [(0, .ref (G.1 (14))), (1, .int (0))]) [1, 0] rfl ?_
  refine lc_forI (α := Int64) (fun i z => lc_V G Γ cX5_digest 2 RX5 9 [(0, .ref (G.1 (14))), (1, .int (nI i))] [] (lc_w ((lc_ul σ 1 z)) 2 ((σ.1 2, 0, 0, 0)))) (fun _ _ => True) (sp_msh sp_alikeM (σ.1 2) n) n (fun _ _ _ _ => trivial) (fun i z hi hIi ki => ?_) 1741 (trivial) (fun hIi => ?_)
  · skip
    show lc_V G Γ cX5_digest 2 RX5 9 [(0, .ref (G.1 (14))), (1, .int (nI i))] [] (lc_w ((lc_ul σ 1 z)) 2 ((σ.1 2, 0, 0, 0)))
    refine lc_iload_n 1 dX5_digest_9 rfl ?_
    refine lc_aload_n 0 dX5_digest_10 rfl ?_
    refine lc_gMSites fl_X5_55 dX5_digest_11 ?_
    refine lc_topi (σ.1 2 7 0) (rfl) ?_
    refine lc_icmp_ge 28 dX5_digest_14 (by decide) (fun h => absurd h.1 (by rw [hs]; exact nI_ge (b := n) hi (by omega))) (fun _ => ?_)
    refine lc_aload_n 0 dX5_digest_17 rfl ?_
    refine lc_iload_n 1 dX5_digest_18 rfl ?_
    refine lc_callV (14) (c_X5_mixSite l G σ ((σ.1 2, 0, 0, 0)) n i hn hs (by omega) z) hR.2.2.2.1 hR.2.2.2.2 mt_X5_mixSite (by omega) (rfl) rfl ml_X5_232 rfl rfl (Nat.le_of_ble_eq_true rfl) ⟨⟨rfl, rfl⟩, Nat.le_of_ble_eq_true rfl, Nat.le_of_ble_eq_true rfl⟩ dX5_digest_19 ?_
    show lc_V _ _ _ _ _ 22 _ [] (lc_w ((lc_ul σ 1 (sp_msh sp_alikeM (σ.1 2) n i z))) 2 ((σ.1 2, 0, 0, 0)))
    refine lc_iinc 1 (nI (i + 1)) [(1, .int (nI (i + 1))), (0, .ref (G.1 (14)))] dX5_digest_22 rfl (lc_inc1 i) (by decide) rfl ?_
    refine lc_goto 9 dX5_digest_25 (by decide) ?_
    refine lc_lv (lv' := [(0, .ref (G.1 (14))), (1, .int (nI (i + 1)))]) [1, 0] rfl ?_
    rw [show (sp_msh sp_alikeM (σ.1 2) n) i z = (sp_msh sp_alikeM (σ.1 2) n i z) from rfl] at ki
    exact ki
  · skip
    show lc_V G Γ cX5_digest 2 RX5 9 [(0, .ref (G.1 (14))), (1, .int (nI n))] [] (lc_w ((lc_ul σ 1 ((sp_it (sp_msh sp_alikeM (σ.1 2) n) n 1741)))) 2 ((σ.1 2, 0, 0, 0)))
    refine lc_iload_n 1 dX5_digest_9 rfl ?_
    refine lc_aload_n 0 dX5_digest_10 rfl ?_
    refine lc_gMSites fl_X5_55 dX5_digest_11 ?_
    refine lc_topi (σ.1 2 7 0) (rfl) ?_
    refine lc_icmp_ge 28 dX5_digest_14 (by decide) (fun _ => ?_) (fun h => absurd h.1 (by rw [hs]; exact nI_nlt (a := n) (b := n) (Nat.le_refl _) (by omega)))
    refine lc_iconst (v := 0) dX5_digest_28 (by decide) ?_
    refine lc_istore_n [(1, .int (0)), (0, .ref (G.1 (14)))] dX5_digest_29 (by decide) rfl ?_
    refine lc_lv (lv' := [(0, .ref (G.1 (14))), (1, .int (0))]) [1, 0] rfl ?_
    refine lc_forI (α := Int64) (fun k z => lc_V G Γ cX5_digest 2 RX5 30 [(0, .ref (G.1 (14))), (1, .int (nI k))] [] (lc_w ((lc_ul σ 1 z)) 2 ((σ.1 2, 0, 0, 0)))) (fun _ _ => True) (fun k h => sp_mx h (sp_rssM (σ.1 2) (σ.2.1 5) k n)) 4 (fun _ _ _ _ => trivial) (fun k z hk hIk kk => ?_) ((sp_it (sp_msh sp_alikeM (σ.1 2) n) n 1741)) (trivial) (fun hIk => ?_)
    · skip
      show lc_V G Γ cX5_digest 2 RX5 30 [(0, .ref (G.1 (14))), (1, .int (nI k))] [] (lc_w ((lc_ul σ 1 z)) 2 ((σ.1 2, 0, 0, 0)))
      refine lc_iload_n 1 dX5_digest_30 rfl ?_
      refine lc_iconst (v := 4) dX5_digest_31 (by decide) ?_
      refine lc_icmp_ge 51 dX5_digest_32 (by decide) (fun h => absurd h.1 (by exact nI_ge (b := 4) hk (by omega))) (fun _ => ?_)
      refine lc_aload_n 0 dX5_digest_35 rfl ?_
      refine lc_aload_n 0 dX5_digest_36 rfl ?_
      refine lc_iload_n 1 dX5_digest_37 rfl ?_
      refine lc_callV (14) (c_X5_risenNow l G ((lc_ul σ 1 z)) ((σ.1 2, 0, 0, 0)) n k hn (hs) (by omega)) hR.2.2.2.1 hR.2.2.2.2 mt_X5_risenNow (by omega) (rfl) rfl ml_X5_167 rfl rfl (Nat.le_of_ble_eq_true rfl) ⟨⟨rfl, rfl⟩, Nat.le_of_ble_eq_true rfl, Nat.le_of_ble_eq_true rfl⟩ dX5_digest_38 ?_
      show lc_V _ _ _ _ _ 41 _ [.int (sp_rssM (σ.1 2) (((lc_ul σ 1 z)).2.1 5) k n), .ref (G.1 (14))] (lc_w ((lc_ul σ 1 z)) 2 ((σ.1 2, 0, 0, 0)))
      refine lc_topi (sp_rssM (σ.1 2) (σ.2.1 5) k n) (rfl) ?_
      refine lc_i2l dX5_digest_41 ?_
      refine lc_callV (14) (c_X5_mix l G σ z ((sp_rssM (σ.1 2) (σ.2.1 5) k n).toInt64) ((σ.1 2, 0, 0, 0))) hR.2.2.2.1 hR.2.2.2.2 mt_X5_mix (by omega) (rfl) rfl ml_X5_226 rfl rfl (Nat.le_of_ble_eq_true rfl) ⟨⟨rfl, rfl⟩, Nat.le_of_ble_eq_true rfl, Nat.le_of_ble_eq_true rfl⟩ dX5_digest_42 ?_
      show lc_V _ _ _ _ _ 45 _ [] (lc_w ((lc_ul σ 1 (31 * z + ((sp_rssM (σ.1 2) (σ.2.1 5) k n).toInt64)))) 2 ((σ.1 2, 0, 0, 0)))
      refine lc_iinc 1 (nI (k + 1)) [(1, .int (nI (k + 1))), (0, .ref (G.1 (14)))] dX5_digest_45 rfl (lc_inc1 k) (by decide) rfl ?_
      refine lc_goto 30 dX5_digest_48 (by decide) ?_
      refine lc_lv (lv' := [(0, .ref (G.1 (14))), (1, .int (nI (k + 1)))]) [1, 0] rfl ?_
      rw [show sp_mx z (sp_rssM (σ.1 2) (σ.2.1 5) k n) = (31 * z + ((sp_rssM (σ.1 2) (σ.2.1 5) k n).toInt64)) from rfl] at kk
      exact kk
    · skip
      show lc_V G Γ cX5_digest 2 RX5 30 [(0, .ref (G.1 (14))), (1, .int (nI 4))] [] (lc_w ((lc_ul σ 1 ((sp_h2M (σ.1 2) (σ.2.1 5) n)))) 2 ((σ.1 2, 0, 0, 0)))
      refine lc_iload_n 1 dX5_digest_30 rfl ?_
      refine lc_iconst (v := 4) dX5_digest_31 (by decide) ?_
      refine lc_icmp_ge 51 dX5_digest_32 (by decide) (fun _ => ?_) (fun h => absurd h.1 (by exact nI_nlt (a := 4) (b := 4) (Nat.le_refl _) (by omega)))
      refine lc_aload_n 0 dX5_digest_51 rfl ?_
      refine lc_gMSites fl_X5_55 dX5_digest_52 ?_
      refine lc_topi (σ.1 2 7 0) rfl ?_
      by_cases h0 : n = 0
      · skip
        have hTM : sp_tM σ n = sp_aM σ n := if_pos h0
        refine lc_if_le 68 dX5_digest_55 (by decide) (fun _ => ?_) (fun h => absurd h.1 (by rw [hs, h0]; decide))
        refine lc_eq (σ' := lc_w ((lc_ul (sp_tM σ n) 1 ((sp_tM σ n).2.2 1))) 2 (((sp_tM σ n).1 2, 0, 0, 0))) (by rw [lc_ul_id, lc_w_w, hTM]; exact lc_w_w (sp_aM σ n) 2) ?_
        have hT11 : (sp_tM σ n).2.1 11 = σ.2.1 11 := by rw [hTM]; rfl
        have hT12 : (sp_tM σ n).2.1 12 0 = σ.2.1 12 0 := by rw [hTM]; rfl
        refine lc_iconst (v := 0) dX5_digest_68 (by decide) ?_
        refine lc_istore_n [(1, .int (0)), (0, .ref (G.1 (14)))] dX5_digest_69 (by decide) rfl ?_
        refine lc_lv (lv' := [(0, .ref (G.1 (14))), (1, .int (0))]) [1, 0] rfl ?_
        refine lc_forI (α := Int64) (fun i z => lc_V G Γ cX5_digest 2 RX5 70 [(0, .ref (G.1 (14))), (1, .int (nI i))] [] (lc_w ((lc_ul (sp_tM σ n) 1 z)) 2 (((sp_tM σ n).1 2, 0, 0, 0)))) (fun _ _ => True) (fun i h => sp_mx h (σ.2.1 11 i)) p (fun _ _ _ _ => trivial) (fun i z hi hIi ki => ?_) (((sp_tM σ n).2.2 1)) (trivial) (fun hIi => ?_)
        · skip
          show lc_V G Γ cX5_digest 2 RX5 70 [(0, .ref (G.1 (14))), (1, .int (nI i))] [] (lc_w ((lc_ul (sp_tM σ n) 1 z)) 2 (((sp_tM σ n).1 2, 0, 0, 0)))
          refine lc_iload_n 1 dX5_digest_70 rfl ?_
          refine lc_aload_n 0 dX5_digest_71 rfl ?_
          refine lc_gw_mlen 2 (by omega) fl_X5_47 dX5_digest_72 ?_
          refine lc_topi (σ.2.1 12 0) (hT12) ?_
          refine lc_icmp_ge 95 dX5_digest_75 (by decide) (fun h => absurd h.1 (by rw [hp]; exact nI_ge (b := p) hi (by omega))) (fun _ => ?_)
          refine lc_aload_n 0 dX5_digest_78 rfl ?_
          refine lc_aload_n 0 dX5_digest_79 rfl ?_
          refine lc_g_mpage fl_X5_7 dX5_digest_80 ?_
          refine lc_iload_n 1 dX5_digest_83 rfl ?_
          refine lc_iald (f := ((lc_ul (sp_tM σ n) 1 z)).2.1 11) (15) i (by omega) (rfl) (rfl) (by omega) (by decide) dX5_digest_84 ?_
          refine lc_topi (σ.2.1 11 i) (congrFun hT11 i) ?_
          refine lc_i2l dX5_digest_85 ?_
          refine lc_callV (14) (c_X5_mix l G (sp_tM σ n) z ((σ.2.1 11 i).toInt64) (((sp_tM σ n).1 2, 0, 0, 0))) hR.2.2.2.1 hR.2.2.2.2 mt_X5_mix (by omega) (rfl) rfl ml_X5_226 rfl rfl (Nat.le_of_ble_eq_true rfl) ⟨⟨rfl, rfl⟩, Nat.le_of_ble_eq_true rfl, Nat.le_of_ble_eq_true rfl⟩ dX5_digest_86 ?_
          show lc_V _ _ _ _ _ 89 _ [] (lc_w ((lc_ul (sp_tM σ n) 1 (31 * z + ((σ.2.1 11 i).toInt64)))) 2 (((sp_tM σ n).1 2, 0, 0, 0)))
          refine lc_iinc 1 (nI (i + 1)) [(1, .int (nI (i + 1))), (0, .ref (G.1 (14)))] dX5_digest_89 rfl (lc_inc1 i) (by decide) rfl ?_
          refine lc_goto 70 dX5_digest_92 (by decide) ?_
          refine lc_lv (lv' := [(0, .ref (G.1 (14))), (1, .int (nI (i + 1)))]) [1, 0] rfl ?_
          rw [show sp_mx z (σ.2.1 11 i) = (31 * z + ((σ.2.1 11 i).toInt64)) from rfl] at ki
          exact ki
        · skip
          show lc_V G Γ cX5_digest 2 RX5 70 [(0, .ref (G.1 (14))), (1, .int (nI p))] [] (lc_w ((lc_ul (sp_tM σ n) 1 ((sp_it (fun i h => sp_mx h (σ.2.1 11 i)) p ((sp_tM σ n).2.2 1))))) 2 (((sp_tM σ n).1 2, 0, 0, 0)))
          refine lc_iload_n 1 dX5_digest_70 rfl ?_
          refine lc_aload_n 0 dX5_digest_71 rfl ?_
          refine lc_gw_mlen 2 (by omega) fl_X5_47 dX5_digest_72 ?_
          refine lc_topi (σ.2.1 12 0) (hT12) ?_
          refine lc_icmp_ge 95 dX5_digest_75 (by decide) (fun _ => ?_) (fun h => absurd h.1 (by rw [hp]; exact nI_nlt (a := p) (b := p) (Nat.le_refl _) (by omega)))
          refine lc_iconst (v := 0) dX5_digest_95 (by decide) ?_
          refine lc_istore_n [(1, .int (0)), (0, .ref (G.1 (14)))] dX5_digest_96 (by decide) rfl ?_
          refine lc_lv (lv' := [(0, .ref (G.1 (14))), (1, .int (0))]) [1, 0] rfl ?_
          refine lc_forI (α := Int64) (fun w z => lc_V G Γ cX5_digest 2 RX5 97 [(0, .ref (G.1 (14))), (1, .int (nI w))] [] (lc_w ((lc_ul (sp_tM σ n) 1 z)) 2 (((sp_tM σ n).1 2, 0, 0, 0)))) (fun _ _ => True) (fun w h => sp_mx h (sp_cntv (sp_tM σ n) ((sp_tM σ n).1 2, 0, 0, 0) 2 12 w)) 12 (fun _ _ _ _ => trivial) (fun w z hw hIw kw => ?_) ((sp_it (fun i h => sp_mx h (σ.2.1 11 i)) p ((sp_tM σ n).2.2 1))) (trivial) (fun hIw => ?_)
          · skip
            show lc_V G Γ cX5_digest 2 RX5 97 [(0, .ref (G.1 (14))), (1, .int (nI w))] [] (lc_w ((lc_ul (sp_tM σ n) 1 z)) 2 (((sp_tM σ n).1 2, 0, 0, 0)))
            refine lc_iload_n 1 dX5_digest_97 rfl ?_
            refine lc_bipush (v := 12) dX5_digest_98 (by decide) ?_
            refine lc_icmp_ge 119 dX5_digest_100 (by decide) (fun h => absurd h.1 (by exact nI_ge (b := 12) hw (by omega))) (fun _ => ?_)
            refine lc_aload_n 0 dX5_digest_103 rfl ?_
            refine lc_aload_n 0 dX5_digest_104 rfl ?_
            refine lc_iload_n 1 dX5_digest_105 rfl ?_
            refine lc_callV (14) (c_X5_howMany l G ((lc_ul (sp_tM σ n) 1 z)) (((sp_tM σ n).1 2, 0, 0, 0)) (nI w)) hR.2.2.2.1 hR.2.2.2.2 mt_X5_howMany (by omega) (rfl) rfl ml_X5_218 rfl rfl (Nat.le_of_ble_eq_true rfl) ⟨⟨rfl, rfl⟩, Nat.le_of_ble_eq_true rfl, Nat.le_of_ble_eq_true rfl⟩ dX5_digest_106 ?_
            show lc_V _ _ _ _ _ 109 _ [.int (sp_count ((lc_ul (sp_tM σ n) 1 z)) (((sp_tM σ n).1 2, 0, 0, 0)) 2 12 (nI w)), .ref (G.1 (14))] (lc_w ((lc_ul (sp_tM σ n) 1 z)) 2 (((sp_tM σ n).1 2, 0, 0, 0)))
            refine lc_topi (sp_cntv (sp_tM σ n) ((sp_tM σ n).1 2, 0, 0, 0) 2 12 w) ((sp_count_in hw).trans rfl) ?_
            refine lc_i2l dX5_digest_109 ?_
            refine lc_callV (14) (c_X5_mix l G (sp_tM σ n) z ((sp_cntv (sp_tM σ n) ((sp_tM σ n).1 2, 0, 0, 0) 2 12 w).toInt64) (((sp_tM σ n).1 2, 0, 0, 0))) hR.2.2.2.1 hR.2.2.2.2 mt_X5_mix (by omega) (rfl) rfl ml_X5_226 rfl rfl (Nat.le_of_ble_eq_true rfl) ⟨⟨rfl, rfl⟩, Nat.le_of_ble_eq_true rfl, Nat.le_of_ble_eq_true rfl⟩ dX5_digest_110 ?_
            show lc_V _ _ _ _ _ 113 _ [] (lc_w ((lc_ul (sp_tM σ n) 1 (31 * z + ((sp_cntv (sp_tM σ n) ((sp_tM σ n).1 2, 0, 0, 0) 2 12 w).toInt64)))) 2 (((sp_tM σ n).1 2, 0, 0, 0)))
            refine lc_iinc 1 (nI (w + 1)) [(1, .int (nI (w + 1))), (0, .ref (G.1 (14)))] dX5_digest_113 rfl (lc_inc1 w) (by decide) rfl ?_
            refine lc_goto 97 dX5_digest_116 (by decide) ?_
            refine lc_lv (lv' := [(0, .ref (G.1 (14))), (1, .int (nI (w + 1)))]) [1, 0] rfl ?_
            rw [show sp_mx z (sp_cntv (sp_tM σ n) ((sp_tM σ n).1 2, 0, 0, 0) 2 12 w) = (31 * z + ((sp_cntv (sp_tM σ n) ((sp_tM σ n).1 2, 0, 0, 0) 2 12 w).toInt64)) from rfl] at kw
            exact kw
          · skip
            show lc_V G Γ cX5_digest 2 RX5 97 [(0, .ref (G.1 (14))), (1, .int (nI 12))] [] (lc_w ((lc_ul (sp_tM σ n) 1 ((sp_HM σ n p)))) 2 (((sp_tM σ n).1 2, 0, 0, 0)))
            refine lc_iload_n 1 dX5_digest_97 rfl ?_
            refine lc_bipush (v := 12) dX5_digest_98 (by decide) ?_
            refine lc_icmp_ge 119 dX5_digest_100 (by decide) (fun _ => ?_) (fun h => absurd h.1 (by exact nI_nlt (a := 12) (b := 12) (Nat.le_refl _) (by omega)))
            refine lc_aload_n 0 dX5_digest_119 rfl ?_
            refine lc_g_mh fl_X5_223 dX5_digest_120 ?_
            refine lc_topl (sp_HM σ n p) rfl ?_
            refine lc_eq (σ' := lc_ul (sp_tM σ n) 1 (sp_HM σ n p)) (lc_w_w (lc_ul (sp_tM σ n) 1 (sp_HM σ n p)) 2) ?_
            exact lc_lret hR dX5_digest_123 (rfl) (rfl)
      · skip
        have hTM : sp_tM σ n = sp_msM (sp_msM (sp_aM σ n) n false) n true := if_neg h0
        refine lc_if_le 68 dX5_digest_55 (by decide) (fun h => absurd h.1 (by rw [hs]; exact nI_nle (by omega) (by omega))) (fun _ => ?_)
        refine lc_eq (σ' := sp_aM σ n) (lc_w_w (sp_aM σ n) 2) ?_
        refine lc_aload_n 0 dX5_digest_58 rfl ?_
        refine lc_iconst (v := 0) dX5_digest_59 (by decide) ?_
        refine lc_topi (lc_bi false) rfl ?_
        refine lc_callV (14) (c_X5_mixSettling l G ((sp_aM σ n)) n false hn hs) hR.2.2.2.1 hR.2.2.2.2 mt_X5_mixSettling (by omega) (rfl) rfl ml_X5_235 rfl rfl (Nat.le_of_ble_eq_true rfl) ⟨⟨rfl, rfl⟩, Nat.le_of_ble_eq_true rfl, Nat.le_of_ble_eq_true rfl⟩ dX5_digest_60 ?_
        show lc_V _ _ _ _ _ 63 _ [] ((sp_msM ((sp_aM σ n)) n false))
        refine lc_aload_n 0 dX5_digest_63 rfl ?_
        refine lc_iconst (v := 1) dX5_digest_64 (by decide) ?_
        refine lc_topi (lc_bi true) rfl ?_
        refine lc_callV (14) (c_X5_mixSettling l G ((sp_msM ((sp_aM σ n)) n false)) n true hn hs) hR.2.2.2.1 hR.2.2.2.2 mt_X5_mixSettling (by omega) (rfl) rfl ml_X5_235 rfl rfl (Nat.le_of_ble_eq_true rfl) ⟨⟨rfl, rfl⟩, Nat.le_of_ble_eq_true rfl, Nat.le_of_ble_eq_true rfl⟩ dX5_digest_65 ?_
        show lc_V _ _ _ _ _ 68 _ [] ((sp_msM ((sp_msM ((sp_aM σ n)) n false)) n true))
        refine lc_eq (σ' := lc_w ((lc_ul (sp_tM σ n) 1 ((sp_tM σ n).2.2 1))) 2 (((sp_tM σ n).1 2, 0, 0, 0))) (by rw [lc_ul_id, lc_w_w, hTM]) ?_
        have hT11 : (sp_tM σ n).2.1 11 = σ.2.1 11 := by rw [hTM]; rfl
        have hT12 : (sp_tM σ n).2.1 12 0 = σ.2.1 12 0 := by rw [hTM]; rfl
        refine lc_iconst (v := 0) dX5_digest_68 (by decide) ?_
        refine lc_istore_n [(1, .int (0)), (0, .ref (G.1 (14)))] dX5_digest_69 (by decide) rfl ?_
        refine lc_lv (lv' := [(0, .ref (G.1 (14))), (1, .int (0))]) [1, 0] rfl ?_
        refine lc_forI (α := Int64) (fun i z => lc_V G Γ cX5_digest 2 RX5 70 [(0, .ref (G.1 (14))), (1, .int (nI i))] [] (lc_w ((lc_ul (sp_tM σ n) 1 z)) 2 (((sp_tM σ n).1 2, 0, 0, 0)))) (fun _ _ => True) (fun i h => sp_mx h (σ.2.1 11 i)) p (fun _ _ _ _ => trivial) (fun i z hi hIi ki => ?_) (((sp_tM σ n).2.2 1)) (trivial) (fun hIi => ?_)
        · skip
          show lc_V G Γ cX5_digest 2 RX5 70 [(0, .ref (G.1 (14))), (1, .int (nI i))] [] (lc_w ((lc_ul (sp_tM σ n) 1 z)) 2 (((sp_tM σ n).1 2, 0, 0, 0)))
          refine lc_iload_n 1 dX5_digest_70 rfl ?_
          refine lc_aload_n 0 dX5_digest_71 rfl ?_
          refine lc_gw_mlen 2 (by omega) fl_X5_47 dX5_digest_72 ?_
          refine lc_topi (σ.2.1 12 0) (hT12) ?_
          refine lc_icmp_ge 95 dX5_digest_75 (by decide) (fun h => absurd h.1 (by rw [hp]; exact nI_ge (b := p) hi (by omega))) (fun _ => ?_)
          refine lc_aload_n 0 dX5_digest_78 rfl ?_
          refine lc_aload_n 0 dX5_digest_79 rfl ?_
          refine lc_g_mpage fl_X5_7 dX5_digest_80 ?_
          refine lc_iload_n 1 dX5_digest_83 rfl ?_
          refine lc_iald (f := ((lc_ul (sp_tM σ n) 1 z)).2.1 11) (15) i (by omega) (rfl) (rfl) (by omega) (by decide) dX5_digest_84 ?_
          refine lc_topi (σ.2.1 11 i) (congrFun hT11 i) ?_
          refine lc_i2l dX5_digest_85 ?_
          refine lc_callV (14) (c_X5_mix l G (sp_tM σ n) z ((σ.2.1 11 i).toInt64) (((sp_tM σ n).1 2, 0, 0, 0))) hR.2.2.2.1 hR.2.2.2.2 mt_X5_mix (by omega) (rfl) rfl ml_X5_226 rfl rfl (Nat.le_of_ble_eq_true rfl) ⟨⟨rfl, rfl⟩, Nat.le_of_ble_eq_true rfl, Nat.le_of_ble_eq_true rfl⟩ dX5_digest_86 ?_
          show lc_V _ _ _ _ _ 89 _ [] (lc_w ((lc_ul (sp_tM σ n) 1 (31 * z + ((σ.2.1 11 i).toInt64)))) 2 (((sp_tM σ n).1 2, 0, 0, 0)))
          refine lc_iinc 1 (nI (i + 1)) [(1, .int (nI (i + 1))), (0, .ref (G.1 (14)))] dX5_digest_89 rfl (lc_inc1 i) (by decide) rfl ?_
          refine lc_goto 70 dX5_digest_92 (by decide) ?_
          refine lc_lv (lv' := [(0, .ref (G.1 (14))), (1, .int (nI (i + 1)))]) [1, 0] rfl ?_
          rw [show sp_mx z (σ.2.1 11 i) = (31 * z + ((σ.2.1 11 i).toInt64)) from rfl] at ki
          exact ki
        · skip
          show lc_V G Γ cX5_digest 2 RX5 70 [(0, .ref (G.1 (14))), (1, .int (nI p))] [] (lc_w ((lc_ul (sp_tM σ n) 1 ((sp_it (fun i h => sp_mx h (σ.2.1 11 i)) p ((sp_tM σ n).2.2 1))))) 2 (((sp_tM σ n).1 2, 0, 0, 0)))
          refine lc_iload_n 1 dX5_digest_70 rfl ?_
          refine lc_aload_n 0 dX5_digest_71 rfl ?_
          refine lc_gw_mlen 2 (by omega) fl_X5_47 dX5_digest_72 ?_
          refine lc_topi (σ.2.1 12 0) (hT12) ?_
          refine lc_icmp_ge 95 dX5_digest_75 (by decide) (fun _ => ?_) (fun h => absurd h.1 (by rw [hp]; exact nI_nlt (a := p) (b := p) (Nat.le_refl _) (by omega)))
          refine lc_iconst (v := 0) dX5_digest_95 (by decide) ?_
          refine lc_istore_n [(1, .int (0)), (0, .ref (G.1 (14)))] dX5_digest_96 (by decide) rfl ?_
          refine lc_lv (lv' := [(0, .ref (G.1 (14))), (1, .int (0))]) [1, 0] rfl ?_
          refine lc_forI (α := Int64) (fun w z => lc_V G Γ cX5_digest 2 RX5 97 [(0, .ref (G.1 (14))), (1, .int (nI w))] [] (lc_w ((lc_ul (sp_tM σ n) 1 z)) 2 (((sp_tM σ n).1 2, 0, 0, 0)))) (fun _ _ => True) (fun w h => sp_mx h (sp_cntv (sp_tM σ n) ((sp_tM σ n).1 2, 0, 0, 0) 2 12 w)) 12 (fun _ _ _ _ => trivial) (fun w z hw hIw kw => ?_) ((sp_it (fun i h => sp_mx h (σ.2.1 11 i)) p ((sp_tM σ n).2.2 1))) (trivial) (fun hIw => ?_)
          · skip
            show lc_V G Γ cX5_digest 2 RX5 97 [(0, .ref (G.1 (14))), (1, .int (nI w))] [] (lc_w ((lc_ul (sp_tM σ n) 1 z)) 2 (((sp_tM σ n).1 2, 0, 0, 0)))
            refine lc_iload_n 1 dX5_digest_97 rfl ?_
            refine lc_bipush (v := 12) dX5_digest_98 (by decide) ?_
            refine lc_icmp_ge 119 dX5_digest_100 (by decide) (fun h => absurd h.1 (by exact nI_ge (b := 12) hw (by omega))) (fun _ => ?_)
            refine lc_aload_n 0 dX5_digest_103 rfl ?_
            refine lc_aload_n 0 dX5_digest_104 rfl ?_
            refine lc_iload_n 1 dX5_digest_105 rfl ?_
            refine lc_callV (14) (c_X5_howMany l G ((lc_ul (sp_tM σ n) 1 z)) (((sp_tM σ n).1 2, 0, 0, 0)) (nI w)) hR.2.2.2.1 hR.2.2.2.2 mt_X5_howMany (by omega) (rfl) rfl ml_X5_218 rfl rfl (Nat.le_of_ble_eq_true rfl) ⟨⟨rfl, rfl⟩, Nat.le_of_ble_eq_true rfl, Nat.le_of_ble_eq_true rfl⟩ dX5_digest_106 ?_
            show lc_V _ _ _ _ _ 109 _ [.int (sp_count ((lc_ul (sp_tM σ n) 1 z)) (((sp_tM σ n).1 2, 0, 0, 0)) 2 12 (nI w)), .ref (G.1 (14))] (lc_w ((lc_ul (sp_tM σ n) 1 z)) 2 (((sp_tM σ n).1 2, 0, 0, 0)))
            refine lc_topi (sp_cntv (sp_tM σ n) ((sp_tM σ n).1 2, 0, 0, 0) 2 12 w) ((sp_count_in hw).trans rfl) ?_
            refine lc_i2l dX5_digest_109 ?_
            refine lc_callV (14) (c_X5_mix l G (sp_tM σ n) z ((sp_cntv (sp_tM σ n) ((sp_tM σ n).1 2, 0, 0, 0) 2 12 w).toInt64) (((sp_tM σ n).1 2, 0, 0, 0))) hR.2.2.2.1 hR.2.2.2.2 mt_X5_mix (by omega) (rfl) rfl ml_X5_226 rfl rfl (Nat.le_of_ble_eq_true rfl) ⟨⟨rfl, rfl⟩, Nat.le_of_ble_eq_true rfl, Nat.le_of_ble_eq_true rfl⟩ dX5_digest_110 ?_
            show lc_V _ _ _ _ _ 113 _ [] (lc_w ((lc_ul (sp_tM σ n) 1 (31 * z + ((sp_cntv (sp_tM σ n) ((sp_tM σ n).1 2, 0, 0, 0) 2 12 w).toInt64)))) 2 (((sp_tM σ n).1 2, 0, 0, 0)))
            refine lc_iinc 1 (nI (w + 1)) [(1, .int (nI (w + 1))), (0, .ref (G.1 (14)))] dX5_digest_113 rfl (lc_inc1 w) (by decide) rfl ?_
            refine lc_goto 97 dX5_digest_116 (by decide) ?_
            refine lc_lv (lv' := [(0, .ref (G.1 (14))), (1, .int (nI (w + 1)))]) [1, 0] rfl ?_
            rw [show sp_mx z (sp_cntv (sp_tM σ n) ((sp_tM σ n).1 2, 0, 0, 0) 2 12 w) = (31 * z + ((sp_cntv (sp_tM σ n) ((sp_tM σ n).1 2, 0, 0, 0) 2 12 w).toInt64)) from rfl] at kw
            exact kw
          · skip
            show lc_V G Γ cX5_digest 2 RX5 97 [(0, .ref (G.1 (14))), (1, .int (nI 12))] [] (lc_w ((lc_ul (sp_tM σ n) 1 ((sp_HM σ n p)))) 2 (((sp_tM σ n).1 2, 0, 0, 0)))
            refine lc_iload_n 1 dX5_digest_97 rfl ?_
            refine lc_bipush (v := 12) dX5_digest_98 (by decide) ?_
            refine lc_icmp_ge 119 dX5_digest_100 (by decide) (fun _ => ?_) (fun h => absurd h.1 (by exact nI_nlt (a := 12) (b := 12) (Nat.le_refl _) (by omega)))
            refine lc_aload_n 0 dX5_digest_119 rfl ?_
            refine lc_g_mh fl_X5_223 dX5_digest_120 ?_
            refine lc_topl (sp_HM σ n p) rfl ?_
            refine lc_eq (σ' := lc_ul (sp_tM σ n) 1 (sp_HM σ n p)) (lc_w_w (lc_ul (sp_tM σ n) 1 (sp_HM σ n p)) 2) ?_
            exact lc_lret hR dX5_digest_123 (rfl) (rfl)

set_option maxRecDepth 100000 in
set_option maxHeartbeats 4000000 in
theorem c_X5_line (l : Launch) (G : lc_G) (σ : lc_S) (x : lc_X) (p : Nat) (hp : σ.2.1 12 0 = nI p) (hp6 : p ≤ 6) : lc_M l G yX5_line cX5_line 2 (some .int) { frames := 2, cells := 0, slots := 0, locals := 44 } [.ref (G.1 (14))] (lc_w σ 2 x) (some (.int (if sp_isl (σ.2.1 11) p = true then σ.2.1 12 0 else -1003))) ((if sp_isl (σ.2.1 11) p = true then (lc_uo (lc_uo (sp_line σ 2 5 8 (sp_posM σ p) (x.1 6) (σ.2.1 12 0)) 12 1 (σ.2.1 12 1 + 1)) 12 0 0) else lc_w σ 2 x)) := by
  refine lc_entry [(0, .ref (G.1 (14)))] (by decide) (Nat.le_of_ble_eq_true rfl) rfl rfl rfl ?_
  intro Γ hR
  refine lc_aload_n 0 dX5_line_0 rfl ?_
  refine lc_gw_mlen 2 (by omega) fl_X5_47 dX5_line_1 ?_
  refine lc_iconst (v := 2) dX5_line_4 (by decide) ?_
  by_cases h2 : 2 ≤ p
  · skip
    refine lc_icmp_lt 19 dX5_line_5 (by decide) (fun h => absurd h.1 (by rw [hp]; exact nI_nlt (a := p) (b := 2) h2 (by omega))) (fun _ => ?_)
    refine lc_aload_n 0 dX5_line_8 rfl ?_
    refine lc_callV (14) (c_X5_fault l G σ x p hp hp6) hR.2.2.2.1 hR.2.2.2.2 mt_X5_fault (by omega) (rfl) rfl ml_X5_51 rfl rfl (Nat.le_of_ble_eq_true rfl) ⟨⟨rfl, rfl⟩, Nat.le_of_ble_eq_true rfl, Nat.le_of_ble_eq_true rfl⟩ dX5_line_9 ?_
    show lc_V _ _ _ _ _ 12 _ [.int (sp_fw (σ.2.1 11) p 0 48)] (lc_w σ 2 x)
    refine lc_aload_n 0 dX5_line_12 rfl ?_
    refine lc_gw_mlen 2 (by omega) fl_X5_47 dX5_line_13 ?_
    by_cases hf : sp_fw (σ.2.1 11) p 0 48 = nI p
    · skip
      have hisl : sp_isl (σ.2.1 11) p = true := by simp [sp_isl, h2, hf]
      refine lc_icmp_ge 23 dX5_line_16 (by decide) (fun _ => ?_) (fun h => absurd h.1 (by rw [hf, hp]; exact nI_nlt (a := p) (b := p) (Nat.le_refl _) (by omega)))
      refine lc_aload_n 0 dX5_line_23 rfl ?_
      refine lc_aload_n 0 dX5_line_24 rfl ?_
      refine lc_gw_mlen 2 (by omega) fl_X5_47 dX5_line_25 ?_
      refine lc_pMSites fl_X5_55 dX5_line_28 ?_
      refine lc_iconst (v := 0) dX5_line_31 (by decide) ?_
      refine lc_istore_n [(1, .int (0)), (0, .ref (G.1 (14)))] dX5_line_32 (by decide) rfl ?_
      refine lc_lv (lv' := [(0, .ref (G.1 (14))), (1, .int (0))]) [1, 0] rfl ?_
      refine lc_forI (α := lc_S) (fun i z => lc_V G Γ cX5_line 2 RX5 33 [(0, .ref (G.1 (14))), (1, .int (nI i))] [] (lc_w z 2 ((lc_cu x.1 7 0 (σ.2.1 12 0), x.2)))) (fun _ _ => True) (sp_cpo 8 11 (fun v => v - 48)) p (fun _ _ _ _ => trivial) (fun i z hi hIi ki => ?_) σ (trivial) (fun hIi => ?_)
      · skip
        show lc_V G Γ cX5_line 2 RX5 33 [(0, .ref (G.1 (14))), (1, .int (nI i))] [] (lc_w z 2 ((lc_cu x.1 7 0 (σ.2.1 12 0), x.2)))
        refine lc_iload_n 1 dX5_line_33 rfl ?_
        refine lc_aload_n 0 dX5_line_34 rfl ?_
        refine lc_gMSites fl_X5_55 dX5_line_35 ?_
        refine lc_topi (σ.2.1 12 0) (rfl) ?_
        refine lc_icmp_ge 62 dX5_line_38 (by decide) (fun h => absurd h.1 (by rw [hp]; exact nI_ge (b := p) hi (by omega))) (fun _ => ?_)
        refine lc_aload_n 0 dX5_line_41 rfl ?_
        refine lc_g_mpos fl_X5_13 dX5_line_42 ?_
        refine lc_iload_n 1 dX5_line_45 rfl ?_
        refine lc_aload_n 0 dX5_line_46 rfl ?_
        refine lc_g_mpage fl_X5_7 dX5_line_47 ?_
        refine lc_iload_n 1 dX5_line_50 rfl ?_
        refine lc_iald (f := z.2.1 11) (15) i (by omega) (rfl) (rfl) (by omega) (by decide) dX5_line_51 ?_
        refine lc_bipush (v := 48) dX5_line_52 (by decide) ?_
        refine lc_isub dX5_line_54 ?_
        refine lc_sw_mpos 2 i (by omega) (rfl) (by omega) dX5_line_55 ?_
        refine lc_iinc 1 (nI (i + 1)) [(1, .int (nI (i + 1))), (0, .ref (G.1 (14)))] dX5_line_56 rfl (lc_inc1 i) (by decide) rfl ?_
        refine lc_goto 33 dX5_line_59 (by decide) ?_
        refine lc_lv (lv' := [(0, .ref (G.1 (14))), (1, .int (nI (i + 1)))]) [1, 0] rfl ?_
        rw [show (sp_cpo 8 11 (fun v => v - 48)) i z = (lc_uo z 8 i (((z.2.1 11 i) - 48))) from rfl] at ki
        exact ki
      · skip
        show lc_V G Γ cX5_line 2 RX5 33 [(0, .ref (G.1 (14))), (1, .int (nI p))] [] (lc_w ((sp_it (sp_cpo 8 11 (fun v => v - 48)) p σ)) 2 ((lc_cu x.1 7 0 (σ.2.1 12 0), x.2)))
        refine lc_iload_n 1 dX5_line_33 rfl ?_
        refine lc_aload_n 0 dX5_line_34 rfl ?_
        refine lc_gMSites fl_X5_55 dX5_line_35 ?_
        refine lc_topi (σ.2.1 12 0) (rfl) ?_
        refine lc_icmp_ge 62 dX5_line_38 (by decide) (fun _ => ?_) (fun h => absurd h.1 (by rw [hp]; exact nI_nlt (a := p) (b := p) (Nat.le_refl _) (by omega)))
        refine lc_iconst (v := 0) dX5_line_62 (by decide) ?_
        refine lc_istore_n [(1, .int (0)), (0, .ref (G.1 (14)))] dX5_line_63 (by decide) rfl ?_
        refine lc_lv (lv' := [(0, .ref (G.1 (14))), (1, .int (0))]) [1, 0] rfl ?_
        refine lc_forI (α := lc_X) (fun i z => lc_V G Γ cX5_line 2 RX5 64 [(0, .ref (G.1 (14))), (1, .int (nI i))] [] (lc_w ((sp_it (sp_cpo 8 11 (fun v => v - 48)) p σ)) 2 z)) (fun _ _ => True) (sp_nn) 24 (fun _ _ _ _ => trivial) (fun i z hi hIi ki => ?_) ((lc_cu x.1 7 0 (σ.2.1 12 0), x.2)) (trivial) (fun hIi => ?_)
        · skip
          show lc_V G Γ cX5_line 2 RX5 64 [(0, .ref (G.1 (14))), (1, .int (nI i))] [] (lc_w ((sp_it (sp_cpo 8 11 (fun v => v - 48)) p σ)) 2 z)
          refine lc_iload_n 1 dX5_line_64 rfl ?_
          refine lc_bipush (v := 24) dX5_line_65 (by decide) ?_
          refine lc_icmp_ge 81 dX5_line_67 (by decide) (fun h => absurd h.1 (by exact nI_ge (b := 24) hi (by omega))) (fun _ => ?_)
          refine lc_aload_n 0 dX5_line_70 rfl ?_
          refine lc_iload_n 1 dX5_line_71 rfl ?_
          refine lc_callV (14) (c_X5_clear l G ((sp_it (sp_cpo 8 11 (fun v => v - 48)) p σ)) z i (by omega)) hR.2.2.2.1 hR.2.2.2.2 mt_X5_clear (by omega) (rfl) rfl ml_X5_58 rfl rfl (Nat.le_of_ble_eq_true rfl) ⟨⟨rfl, rfl⟩, Nat.le_of_ble_eq_true rfl, Nat.le_of_ble_eq_true rfl⟩ dX5_line_72 ?_
          show lc_V _ _ _ _ _ 75 _ [] (lc_w ((sp_it (sp_cpo 8 11 (fun v => v - 48)) p σ)) 2 ((sp_none z.1 i, z.2)))
          refine lc_iinc 1 (nI (i + 1)) [(1, .int (nI (i + 1))), (0, .ref (G.1 (14)))] dX5_line_75 rfl (lc_inc1 i) (by decide) rfl ?_
          refine lc_goto 64 dX5_line_78 (by decide) ?_
          refine lc_lv (lv' := [(0, .ref (G.1 (14))), (1, .int (nI (i + 1)))]) [1, 0] rfl ?_
          rw [show (sp_nn) i z = (sp_none z.1 i, z.2) from rfl] at ki
          exact ki
        · skip
          show lc_V G Γ cX5_line 2 RX5 64 [(0, .ref (G.1 (14))), (1, .int (nI 24))] [] (lc_w ((sp_it (sp_cpo 8 11 (fun v => v - 48)) p σ)) 2 ((sp_it sp_nn 24 ((lc_cu x.1 7 0 (σ.2.1 12 0), x.2)))))
          refine lc_iload_n 1 dX5_line_64 rfl ?_
          refine lc_bipush (v := 24) dX5_line_65 (by decide) ?_
          refine lc_icmp_ge 81 dX5_line_67 (by decide) (fun _ => ?_) (fun h => absurd h.1 (by exact nI_nlt (a := 24) (b := 24) (Nat.le_refl _) (by omega)))
          refine lc_iconst (v := 0) dX5_line_81 (by decide) ?_
          refine lc_istore_n [(1, .int (0)), (0, .ref (G.1 (14)))] dX5_line_82 (by decide) rfl ?_
          refine lc_lv (lv' := [(0, .ref (G.1 (14))), (1, .int (0))]) [1, 0] rfl ?_
          refine lc_forI (α := lc_S) (fun i z => lc_V G Γ cX5_line 2 RX5 83 [(0, .ref (G.1 (14))), (1, .int (nI i))] [] (lc_w z 2 ((sp_it sp_nn 24 ((lc_cu x.1 7 0 (σ.2.1 12 0), x.2)))))) (fun _ _ => True) (sp_zr 5) 4 (fun _ _ _ _ => trivial) (fun i z hi hIi ki => ?_) ((sp_it (sp_cpo 8 11 (fun v => v - 48)) p σ)) (trivial) (fun hIi => ?_)
          · skip
            show lc_V G Γ cX5_line 2 RX5 83 [(0, .ref (G.1 (14))), (1, .int (nI i))] [] (lc_w z 2 ((sp_it sp_nn 24 ((lc_cu x.1 7 0 (σ.2.1 12 0), x.2)))))
            refine lc_iload_n 1 dX5_line_83 rfl ?_
            refine lc_iconst (v := 4) dX5_line_84 (by decide) ?_
            refine lc_icmp_ge 101 dX5_line_85 (by decide) (fun h => absurd h.1 (by exact nI_ge (b := 4) hi (by omega))) (fun _ => ?_)
            refine lc_aload_n 0 dX5_line_88 rfl ?_
            refine lc_g_mlatest fl_X5_37 dX5_line_89 ?_
            refine lc_iload_n 1 dX5_line_92 rfl ?_
            refine lc_iconst (v := 0) dX5_line_93 (by decide) ?_
            refine lc_sw_mlatest 2 i (by omega) (rfl) (by omega) dX5_line_94 ?_
            refine lc_iinc 1 (nI (i + 1)) [(1, .int (nI (i + 1))), (0, .ref (G.1 (14)))] dX5_line_95 rfl (lc_inc1 i) (by decide) rfl ?_
            refine lc_goto 83 dX5_line_98 (by decide) ?_
            refine lc_lv (lv' := [(0, .ref (G.1 (14))), (1, .int (nI (i + 1)))]) [1, 0] rfl ?_
            rw [show (sp_zr 5) i z = (lc_uo z 5 i 0) from rfl] at ki
            exact ki
          · skip
            show lc_V G Γ cX5_line 2 RX5 83 [(0, .ref (G.1 (14))), (1, .int (nI 4))] [] (lc_w ((sp_it (sp_zr 5) 4 ((sp_it (sp_cpo 8 11 (fun v => v - 48)) p σ)))) 2 ((sp_it sp_nn 24 ((lc_cu x.1 7 0 (σ.2.1 12 0), x.2)))))
            refine lc_iload_n 1 dX5_line_83 rfl ?_
            refine lc_iconst (v := 4) dX5_line_84 (by decide) ?_
            refine lc_icmp_ge 101 dX5_line_85 (by decide) (fun _ => ?_) (fun h => absurd h.1 (by exact nI_nlt (a := 4) (b := 4) (Nat.le_refl _) (by omega)))
            refine lc_aload_n 0 dX5_line_101 rfl ?_
            refine lc_iconst (v := 0) dX5_line_102 (by decide) ?_
            refine lc_pMNow fl_X5_62 dX5_line_103 ?_
            refine lc_aload_n 0 dX5_line_106 rfl ?_
            refine lc_iconst (v := 0) dX5_line_107 (by decide) ?_
            refine lc_pMOff fl_X5_65 dX5_line_108 ?_
            refine lc_aload_n 0 dX5_line_111 rfl ?_
            refine lc_iconst (v := 0) dX5_line_112 (by decide) ?_
            refine lc_pMTra ((0 - ((sp_it (sp_zr 5) 4 ((sp_it (sp_cpo 8 11 (fun v => v - 48)) p σ)))).2.1 2 0)) (lc_cz _) fl_X5_68 dX5_line_113 ?_
            refine lc_eq (σ' := lc_w ((sp_it (sp_zr 5) 4 ((sp_it (sp_cpo 8 11 (fun v => v - 48)) p σ)))) 2 ((((lc_cu (lc_cu (((sp_it sp_nn 24 ((lc_cu x.1 7 0 (σ.2.1 12 0), x.2)))).1) 7 1 0) 7 2 0, ((sp_it sp_nn 24 ((lc_cu x.1 7 0 (σ.2.1 12 0), x.2)))).2)).1, (0 - ((sp_it (sp_zr 5) 4 ((sp_it (sp_cpo 8 11 (fun v => v - 48)) p σ)))).2.1 2 0), ((lc_cu (lc_cu (((sp_it sp_nn 24 ((lc_cu x.1 7 0 (σ.2.1 12 0), x.2)))).1) 7 1 0) 7 2 0, ((sp_it sp_nn 24 ((lc_cu x.1 7 0 (σ.2.1 12 0), x.2)))).2)).2.2.1, ((lc_cu (lc_cu (((sp_it sp_nn 24 ((lc_cu x.1 7 0 (σ.2.1 12 0), x.2)))).1) 7 1 0) 7 2 0, ((sp_it sp_nn 24 ((lc_cu x.1 7 0 (σ.2.1 12 0), x.2)))).2)).2.2.2))) rfl ?_
            refine lc_aload_n 0 dX5_line_116 rfl ?_
            refine lc_iconst (v := 0) dX5_line_117 (by decide) ?_
            refine lc_pMWok ((0 - ((sp_it (sp_zr 5) 4 ((sp_it (sp_cpo 8 11 (fun v => v - 48)) p σ)))).2.1 2 1)) (lc_cz _) fl_X5_71 dX5_line_118 ?_
            refine lc_eq (σ' := lc_w ((sp_it (sp_zr 5) 4 ((sp_it (sp_cpo 8 11 (fun v => v - 48)) p σ)))) 2 ((((lc_cu (lc_cu (((sp_it sp_nn 24 ((lc_cu x.1 7 0 (σ.2.1 12 0), x.2)))).1) 7 1 0) 7 2 0, ((sp_it sp_nn 24 ((lc_cu x.1 7 0 (σ.2.1 12 0), x.2)))).2)).1, (0 - ((sp_it (sp_zr 5) 4 ((sp_it (sp_cpo 8 11 (fun v => v - 48)) p σ)))).2.1 2 0), (0 - ((sp_it (sp_zr 5) 4 ((sp_it (sp_cpo 8 11 (fun v => v - 48)) p σ)))).2.1 2 1), ((lc_cu (lc_cu (((sp_it sp_nn 24 ((lc_cu x.1 7 0 (σ.2.1 12 0), x.2)))).1) 7 1 0) 7 2 0, ((sp_it sp_nn 24 ((lc_cu x.1 7 0 (σ.2.1 12 0), x.2)))).2)).2.2.2))) rfl ?_
            refine lc_aload_n 0 dX5_line_121 rfl ?_
            refine lc_iconst (v := 0) dX5_line_122 (by decide) ?_
            refine lc_pMGon ((0 - ((sp_it (sp_zr 5) 4 ((sp_it (sp_cpo 8 11 (fun v => v - 48)) p σ)))).2.1 2 2)) (lc_cz _) fl_X5_74 dX5_line_123 ?_
            refine lc_eq (σ' := lc_w ((sp_it (sp_zr 5) 4 ((sp_it (sp_cpo 8 11 (fun v => v - 48)) p σ)))) 2 ((((lc_cu (lc_cu (((sp_it sp_nn 24 ((lc_cu x.1 7 0 (σ.2.1 12 0), x.2)))).1) 7 1 0) 7 2 0, ((sp_it sp_nn 24 ((lc_cu x.1 7 0 (σ.2.1 12 0), x.2)))).2)).1, (0 - ((sp_it (sp_zr 5) 4 ((sp_it (sp_cpo 8 11 (fun v => v - 48)) p σ)))).2.1 2 0), (0 - ((sp_it (sp_zr 5) 4 ((sp_it (sp_cpo 8 11 (fun v => v - 48)) p σ)))).2.1 2 1), (0 - ((sp_it (sp_zr 5) 4 ((sp_it (sp_cpo 8 11 (fun v => v - 48)) p σ)))).2.1 2 2)))) rfl ?_
            refine lc_gh (σ' := (sp_line σ 2 5 8 (sp_posM σ p) (x.1 6) (σ.2.1 12 0))) (sp_lineM_sim σ x p _ _ rfl rfl) ?_
            refine lc_eq (σ' := lc_w ((sp_line σ 2 5 8 (sp_posM σ p) (x.1 6) (σ.2.1 12 0))) 2 (((sp_line σ 2 5 8 (sp_posM σ p) (x.1 6) (σ.2.1 12 0)).1 2, 0, 0, 0))) ((lc_w_w _ 2).symm) ?_
            refine lc_aload_n 0 dX5_line_126 rfl ?_
            refine lc_dup dX5_line_127 rfl ?_
            refine lc_gw_mlines 2 (by omega) fl_X5_77 dX5_line_128 ?_
            refine lc_iconst (v := 1) dX5_line_131 (by decide) ?_
            refine lc_iadd dX5_line_132 ?_
            refine lc_topi (σ.2.1 12 1 + 1) (rfl) ?_
            refine lc_pw_mlines 2 (by omega) fl_X5_77 dX5_line_133 ?_
            refine lc_aload_n 0 dX5_line_136 rfl ?_
            refine lc_iconst (v := 0) dX5_line_137 (by decide) ?_
            refine lc_pw_mlen 2 (by omega) fl_X5_47 dX5_line_138 ?_
            refine lc_aload_n 0 dX5_line_141 rfl ?_
            refine lc_gMSites fl_X5_55 dX5_line_142 ?_
            refine lc_topi (σ.2.1 12 0) rfl ?_
            refine lc_eq (σ' := (lc_uo (lc_uo (sp_line σ 2 5 8 (sp_posM σ p) (x.1 6) (σ.2.1 12 0)) 12 1 (σ.2.1 12 1 + 1)) 12 0 0)) (lc_w_w (lc_uo (lc_uo (sp_line σ 2 5 8 (sp_posM σ p) (x.1 6) (σ.2.1 12 0)) 12 1 (σ.2.1 12 1 + 1)) 12 0 0) 2) ?_
            exact lc_iret hR dX5_line_145 (by simp [hisl]) (by simp [hisl])
    · skip
      have hisl : sp_isl (σ.2.1 11) p = false := by simp [sp_isl, hf]
      obtain ⟨q, hq1, hq2⟩ := sp_fw_le (σ.2.1 11) p 0 48
      have hq3 : q < p := by have : ¬ q = p := fun z => hf (by rw [hq2, z]); omega
      refine lc_icmp_ge 23 dX5_line_16 (by decide) (fun h => absurd h.1 (by rw [hq2, hp]; exact nI_ge (b := p) hq3 (by omega))) (fun _ => ?_)
      refine lc_sipush (v := (-1003)) dX5_line_19 (by decide) ?_
      exact lc_iret hR dX5_line_22 (by simp [hisl]) (by simp [hisl])
  · skip
    have hisl : sp_isl (σ.2.1 11) p = false := by simp [sp_isl, h2]
    refine lc_icmp_lt 19 dX5_line_5 (by decide) (fun _ => ?_) (fun h => absurd h.1 (by rw [hp]; exact nI_ge (a := p) (b := 2) (by omega) (by omega)))
    refine lc_sipush (v := (-1003)) dX5_line_19 (by decide) ?_
    exact lc_iret hR dX5_line_22 (by simp [hisl]) (by simp [hisl])
