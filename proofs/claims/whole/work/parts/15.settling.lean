set_option maxRecDepth 100000 in
set_option maxHeartbeats 4000000 in
theorem c_X1_append (l : Launch) (G : lc_G) (σ : lc_S) (p : Nat) (code : Int32) (hp : σ.2.1 10 0 = nI p) (hp6 : p < 6) : lc_M l G yX1_append cX1_append 2 none { frames := 0, cells := 0, slots := 0, locals := 0 } [.ref (G.1 (1)), .int (code)] (σ) none (lc_uo (lc_uo σ 9 p code) 10 0 (nI (p + 1))) := by
  refine lc_entry [(0, .ref (G.1 (1))), (1, .int (code))] (by decide) (Nat.le_of_ble_eq_true rfl) rfl rfl rfl ?_
  intro Γ hR
  refine lc_aload_n 0 dX1_append_0 rfl ?_
  refine lc_g_len fl_X1_15 dX1_append_1 ?_
  refine lc_bipush (v := 6) dX1_append_4 (by decide) ?_
  refine lc_icmp_ge 29 dX1_append_6 (by decide) (fun h => absurd h.1 (by rw [hp]; exact nI_ge (b := 6) hp6 (by omega))) (fun _ => ?_)
  refine lc_aload_n 0 dX1_append_9 rfl ?_
  refine lc_g_codes fl_X1_9 dX1_append_10 ?_
  refine lc_aload_n 0 dX1_append_13 rfl ?_
  refine lc_g_len fl_X1_15 dX1_append_14 ?_
  refine lc_iload_n 1 dX1_append_17 rfl ?_
  refine lc_s_codes p (hp) (by omega) dX1_append_18 ?_
  refine lc_aload_n 0 dX1_append_19 rfl ?_
  refine lc_dup dX1_append_20 rfl ?_
  refine lc_g_len fl_X1_15 dX1_append_21 ?_
  refine lc_iconst (v := 1) dX1_append_24 (by decide) ?_
  refine lc_iadd dX1_append_25 ?_
  refine lc_topi (nI (p + 1)) (by show σ.2.1 10 0 + 1 = _; rw [hp]; exact nI_1 p) ?_
  refine lc_p_len fl_X1_15 dX1_append_26 ?_
  exact lc_vret hR dX1_append_29 (rfl)

set_option maxRecDepth 100000 in
set_option maxHeartbeats 4000000 in
theorem c_X1_firstWrongPlace (l : Launch) (G : lc_G) (σ : lc_S) (p : Nat) (hp : σ.2.1 10 0 = nI p) (hp6 : p ≤ 6) : lc_M l G yX1_firstWrongPlace cX1_firstWrongPlace 4 (some .int) { frames := 0, cells := 0, slots := 0, locals := 0 } [.ref (G.1 (1))] (σ) (some (.int (sp_fw (σ.2.1 9) p 0 48))) (σ) := by
  refine lc_entry [(0, .ref (G.1 (1)))] (by decide) (Nat.le_of_ble_eq_true rfl) rfl rfl rfl ?_
  intro Γ hR
  refine lc_bipush (v := 48) dX1_firstWrongPlace_0 (by decide) ?_
  refine lc_istore_n [(1, .int (48)), (0, .ref (G.1 (1)))] dX1_firstWrongPlace_2 (by decide) rfl ?_
  refine lc_iconst (v := 0) dX1_firstWrongPlace_3 (by decide) ?_
  refine lc_istore_n [(2, .int (0)), (1, .int (48)), (0, .ref (G.1 (1)))] dX1_firstWrongPlace_4 (by decide) rfl ?_
  refine lc_lv (lv' := [(0, .ref (G.1 (1))), (1, .int (48)), (2, .int (0))]) [2, 1, 0] rfl ?_
  have KL : ∀ (f i : Nat) (t : Int32), i + f = p → sp_fw (σ.2.1 9) f i t = sp_fw (σ.2.1 9) p 0 48 → lc_V G Γ cX1_firstWrongPlace 4 RX1 5 [(0, .ref (G.1 (1))), (1, .int (t)), (2, .int (nI i))] [] (σ) := by
    intro f
    induction f with
    | zero =>
      intro i t hf hr 
      have hi : i = p := by omega
      refine lc_iload_n 2 dX1_firstWrongPlace_5 rfl ?_
      refine lc_aload_n 0 dX1_firstWrongPlace_6 rfl ?_
      refine lc_g_len fl_X1_15 dX1_firstWrongPlace_7 ?_
      refine lc_icmp_ge 41 dX1_firstWrongPlace_10 (by decide) (fun _ => ?_) (fun h => absurd h.1 (by rw [hp]; rw [hi]; exact nI_nlt (a := p) (b := p) (Nat.le_refl _) (by omega)))
      refine lc_aload_n 0 dX1_firstWrongPlace_41 rfl ?_
      refine lc_g_len fl_X1_15 dX1_firstWrongPlace_42 ?_
      exact lc_iret hR dX1_firstWrongPlace_45 (by rw [hp, ← hr, hi]; rfl) (rfl)
    | succ f ih =>
      intro i t hf hr 
      have hi : i < p := by omega
      refine lc_iload_n 2 dX1_firstWrongPlace_5 rfl ?_
      refine lc_aload_n 0 dX1_firstWrongPlace_6 rfl ?_
      refine lc_g_len fl_X1_15 dX1_firstWrongPlace_7 ?_
      refine lc_icmp_ge 41 dX1_firstWrongPlace_10 (by decide) (fun h => absurd h.1 (by rw [hp]; exact nI_ge (b := p) hi (by omega))) (fun _ => ?_)
      refine lc_aload_n 0 dX1_firstWrongPlace_13 rfl ?_
      refine lc_g_codes fl_X1_9 dX1_firstWrongPlace_14 ?_
      refine lc_iload_n 2 dX1_firstWrongPlace_17 rfl ?_
      refine lc_iald (2) i (by omega) (rfl) (rfl) (by omega) (by decide) dX1_firstWrongPlace_18 ?_
      refine lc_istore_n [(3, .int (σ.2.1 9 i)), (0, .ref (G.1 (1))), (1, .int (t)), (2, .int (nI i))] dX1_firstWrongPlace_19 (by decide) rfl ?_
      refine lc_iload_n 0 dX1_firstWrongPlace_20 rfl ?_
      refine lc_iload_n 2 dX1_firstWrongPlace_21 rfl ?_
      refine lc_icmp_lt 31 dX1_firstWrongPlace_22 (by decide) (fun c_3 => ?_) (fun c_3 => ?_)
      · skip
        refine lc_iload_n 3 dX1_firstWrongPlace_31 rfl ?_
        exact lc_iret hR dX1_firstWrongPlace_32 (by rw [← hr]; simp [sp_fw, c_3]) (rfl)
      · skip
        refine lc_iload_n 0 dX1_firstWrongPlace_25 rfl ?_
        refine lc_bipush (v := 57) dX1_firstWrongPlace_26 (by decide) ?_
        refine lc_icmp_le 33 dX1_firstWrongPlace_28 (by decide) (fun c_4 => ?_) (fun c_4 => ?_)
        · skip
          refine lc_iload_n 0 dX1_firstWrongPlace_33 rfl ?_
          refine lc_istore_n [(1, .int (σ.2.1 9 i)), (3, .int (σ.2.1 9 i)), (0, .ref (G.1 (1))), (2, .int (nI i))] dX1_firstWrongPlace_34 (by decide) rfl ?_
          refine lc_iinc 3 (nI (i + 1)) [(2, .int (nI (i + 1))), (1, .int (σ.2.1 9 i)), (3, .int (σ.2.1 9 i)), (0, .ref (G.1 (1)))] dX1_firstWrongPlace_35 rfl (lc_inc1 i) (by decide) rfl ?_
          refine lc_goto 5 dX1_firstWrongPlace_38 (by decide) ?_
          refine lc_lv (lv' := [(0, .ref (G.1 (1))), (1, .int (σ.2.1 9 i)), (2, .int (nI (i + 1)))]) [3, 1, 0] rfl ?_
          exact ih (i + 1) (σ.2.1 9 i) (by omega) (by rw [← hr]; simp [sp_fw, c_3, c_4]) 
        · skip
          refine lc_iload_n 3 dX1_firstWrongPlace_31 rfl ?_
          exact lc_iret hR dX1_firstWrongPlace_32 (by rw [← hr]; simp [sp_fw, c_3, c_4]) (rfl)
  exact KL p 0 48 (by omega) rfl 

set_option maxRecDepth 100000 in
set_option maxHeartbeats 4000000 in
theorem c_X1_isLine (l : Launch) (G : lc_G) (σ : lc_S) (p : Nat) (hp : σ.2.1 10 0 = nI p) (hp6 : p ≤ 6) : lc_M l G yX1_isLine cX1_isLine 1 (some .boolean) { frames := 1, cells := 0, slots := 0, locals := 23 } [.ref (G.1 (1))] (σ) (some (.int (lc_bi (sp_isl (σ.2.1 9) p)))) (σ) := by
  refine lc_entry [(0, .ref (G.1 (1)))] (by decide) (Nat.le_of_ble_eq_true rfl) rfl rfl rfl ?_
  intro Γ hR
  refine lc_aload_n 0 dX1_isLine_0 rfl ?_
  refine lc_g_len fl_X1_15 dX1_isLine_1 ?_
  refine lc_iconst (v := 2) dX1_isLine_4 (by decide) ?_
  by_cases h2 : 2 ≤ p
  · skip
    refine lc_icmp_lt 23 dX1_isLine_5 (by decide) (fun h => absurd h.1 (by rw [hp]; exact nI_nlt (a := p) (b := 2) h2 (by omega))) (fun _ => ?_)
    refine lc_aload_n 0 dX1_isLine_8 rfl ?_
    refine lc_callV (1) (c_X1_firstWrongPlace l G (σ) p hp (by omega)) hR.2.2.2.1 hR.2.2.2.2 mt_X1_firstWrongPlace (by omega) (rfl) rfl ml_X1_19 rfl rfl (Nat.le_of_ble_eq_true rfl) ⟨⟨rfl, rfl⟩, Nat.le_of_ble_eq_true rfl, Nat.le_of_ble_eq_true rfl⟩ dX1_isLine_9 ?_
    show lc_V _ _ _ _ _ 12 _ [.int (sp_fw (σ.2.1 9) p 0 48)] (σ)
    refine lc_aload_n 0 dX1_isLine_12 rfl ?_
    refine lc_g_len fl_X1_15 dX1_isLine_13 ?_
    refine lc_icmp_ne 23 dX1_isLine_16 (by decide) (fun c_2 => ?_) (fun c_2 => ?_)
    · skip
      refine lc_iconst (v := 0) dX1_isLine_23 (by decide) ?_
      exact lc_zret hR dX1_isLine_24 (by rw [hp] at c_2; simp [sp_isl, h2, lc_bi, c_2]) (rfl)
    · skip
      refine lc_iconst (v := 1) dX1_isLine_19 (by decide) ?_
      refine lc_goto 24 dX1_isLine_20 (by decide) ?_
      exact lc_zret hR dX1_isLine_24 (by rw [hp] at c_2; simp [sp_isl, h2, lc_bi, c_2]) (rfl)
  · skip
    refine lc_icmp_lt 23 dX1_isLine_5 (by decide) (fun _ => ?_) (fun h => absurd h.1 (by rw [hp]; exact nI_ge (a := p) (b := 2) (by omega) (by omega)))
    refine lc_iconst (v := 0) dX1_isLine_23 (by decide) ?_
    exact lc_zret hR dX1_isLine_24 (by simp [sp_isl, h2, lc_bi]) (rfl)

set_option maxRecDepth 100000 in
set_option maxHeartbeats 4000000 in
theorem c_X4_isKey (l : Launch) (G : lc_G) (σ : lc_S) (k : Int32) : lc_M l G yX4_isKey cX4_isKey 1 (some .boolean) { frames := 0, cells := 0, slots := 0, locals := 0 } [.int (k)] (σ) (some (.int (lc_bi (sp_key k)))) (σ) := by
  refine lc_entry [(0, .int (k))] (by decide) (Nat.le_of_ble_eq_true rfl) rfl rfl rfl ?_
  intro Γ hR
  refine lc_iload_n 0 dX4_isKey_0 rfl ?_
  refine lc_if_lt 13 dX4_isKey_1 (by decide) (fun c_1 => ?_) (fun c_1 => ?_)
  · skip
    refine lc_iconst (v := 0) dX4_isKey_13 (by decide) ?_
    exact lc_zret hR dX4_isKey_14 (by simp [sp_key, lc_bi, c_1]) (rfl)
  · skip
    refine lc_iload_n 0 dX4_isKey_4 rfl ?_
    refine lc_iconst (v := 4) dX4_isKey_5 (by decide) ?_
    refine lc_icmp_ge 13 dX4_isKey_6 (by decide) (fun c_2 => ?_) (fun c_2 => ?_)
    · skip
      refine lc_iconst (v := 0) dX4_isKey_13 (by decide) ?_
      exact lc_zret hR dX4_isKey_14 (by simp [sp_key, lc_bi, c_1, c_2]) (rfl)
    · skip
      refine lc_iconst (v := 1) dX4_isKey_9 (by decide) ?_
      refine lc_goto 14 dX4_isKey_10 (by decide) ?_
      exact lc_zret hR dX4_isKey_14 (by simp [sp_key, lc_bi, c_1, c_2]) (rfl)

set_option maxRecDepth 100000 in
set_option maxHeartbeats 4000000 in
theorem c_X4_nextSeed (l : Launch) (G : lc_G) (σ : lc_S) (s : Int32) : lc_M l G yX4_nextSeed cX4_nextSeed 1 (some .int) { frames := 0, cells := 0, slots := 0, locals := 0 } [.int (s)] (σ) (some (.int (sp_next s))) (σ) := by
  refine lc_entry [(0, .int (s))] (by decide) (Nat.le_of_ble_eq_true rfl) rfl rfl rfl ?_
  intro Γ hR
  refine lc_ldc2 kc_X4_198 dX4_nextSeed_0 ?_
  refine lc_iload_n 0 dX4_nextSeed_3 rfl ?_
  refine lc_i2l dX4_nextSeed_4 ?_
  refine lc_lmul dX4_nextSeed_5 ?_
  refine lc_ldc2 kc_X4_200 dX4_nextSeed_6 ?_
  refine lc_ladd dX4_nextSeed_9 ?_
  refine lc_ldc2 kc_X4_202 dX4_nextSeed_10 ?_
  refine lc_land dX4_nextSeed_13 ?_
  refine lc_l2i dX4_nextSeed_14 ?_
  exact lc_iret hR dX4_nextSeed_15 (rfl) (rfl)

set_option maxRecDepth 100000 in
set_option maxHeartbeats 4000000 in
theorem c_X4_mix (l : Launch) (G : lc_G) (σ : lc_S) (h : Int64) (r : Int32) : lc_M l G yX4_mix cX4_mix 3 (some .long) { frames := 0, cells := 0, slots := 0, locals := 0 } [.long (h), .int (r)] (σ) (some (.long (sp_mx h r))) (σ) := by
  refine lc_entry [(0, .long (h)), (2, .int (r))] (by decide) (Nat.le_of_ble_eq_true rfl) rfl rfl rfl ?_
  intro Γ hR
  refine lc_ldc2 kc_X4_196 dX4_mix_0 ?_
  refine lc_lload_n 0 dX4_mix_3 rfl ?_
  refine lc_lmul dX4_mix_4 ?_
  refine lc_iload_n 1 dX4_mix_5 rfl ?_
  refine lc_i2l dX4_mix_6 ?_
  refine lc_ladd dX4_mix_7 ?_
  exact lc_lret hR dX4_mix_8 (rfl) (rfl)

set_option maxRecDepth 100000 in
set_option maxHeartbeats 4000000 in
theorem c_X2_playRound (l : Launch) (G : lc_G) (σ : lc_S) (sd : Int32) (y : lc_X) (n : Nat) (rum : Bool) (hn : n ≤ 6) (hs : y.1 7 0 = nI n) : lc_M l G yX2_playRound cX2_playRound 4 none { frames := 4, cells := 0, slots := 0, locals := 95 } [.ref (G.1 (3)), .int (lc_bi (rum))] (lc_w ((lc_uo σ 10 3 sd)) 1 y) none (lc_w ((lc_uo σ 10 3 (sp_rdC (σ.2.1 7) n rum (sd, y)).1)) 1 ((sp_rdC (σ.2.1 7) n rum (sd, y)).2)) := by
  refine lc_entry [(0, .ref (G.1 (3))), (1, .int (lc_bi (rum)))] (by decide) (Nat.le_of_ble_eq_true rfl) rfl rfl rfl ?_
  intro Γ hR
  refine lc_aload_n 0 dX2_playRound_0 rfl ?_
  refine lc_g_trial fl_X2_12 dX2_playRound_1 ?_
  refine lc_iconst (v := 1) dX2_playRound_4 (by decide) ?_
  refine lc_callV (5) (c_X3_advance l G ((lc_uo σ 10 3 sd)) 1 y n (by omega) (by omega) (hs) 1) hR.2.2.2.1 hR.2.2.2.2 mt_X3_advance (by omega) (rfl) rfl ml_X2_37 rfl rfl (Nat.le_of_ble_eq_true rfl) ⟨⟨rfl, rfl⟩, Nat.le_of_ble_eq_true rfl, Nat.le_of_ble_eq_true rfl⟩ dX2_playRound_5 ?_
  show lc_V _ _ _ _ _ 8 _ [.int ((sp_adv n y 1).1)] (lc_w ((lc_uo σ 10 3 sd)) 1 ((sp_adv n y 1).2))
  refine lc_pop dX2_playRound_8 rfl ?_
  refine lc_iconst (v := 0) dX2_playRound_9 (by decide) ?_
  refine lc_istore_n [(2, .int (0)), (0, .ref (G.1 (3))), (1, .int (lc_bi (rum)))] dX2_playRound_10 (by decide) rfl ?_
  refine lc_lv (lv' := [(0, .ref (G.1 (3))), (1, .int (lc_bi (rum))), (2, .int (0))]) [1, 2, 0] rfl ?_
  refine lc_forI (α := Int32 × lc_X) (fun i z => lc_V G Γ cX2_playRound 4 RX2 11 [(0, .ref (G.1 (3))), (1, .int (lc_bi (rum))), (2, .int (nI i))] [] (lc_w ((lc_uo σ 10 3 z.1)) 1 z.2)) (fun _ z => z.2.1 7 0 = nI n) (sp_trC (σ.2.1 7) n rum) n (fun i z _ h => by rw [(sp_trC_r _ _ _ _ _).2]; exact h) (fun i z hi hIi ki => ?_) ((sd, (sp_adv n y 1).2)) (by rw [sp_adv_70]; exact hs) (fun hIi => ?_)
  · skip
    show lc_V G Γ cX2_playRound 4 RX2 11 [(0, .ref (G.1 (3))), (1, .int (lc_bi (rum))), (2, .int (nI i))] [] (lc_w ((lc_uo σ 10 3 z.1)) 1 z.2)
    refine lc_iload_n 2 dX2_playRound_11 rfl ?_
    refine lc_aload_n 0 dX2_playRound_12 rfl ?_
    refine lc_g_trial fl_X2_12 dX2_playRound_13 ?_
    refine lc_gWSites 1 (by omega) fl_X2_41 dX2_playRound_16 ?_
    refine lc_icmp_ge 112 dX2_playRound_19 (by decide) (fun h => absurd h.1 (by rw [hIi]; exact nI_ge (b := n) hi (by omega))) (fun _ => ?_)
    refine lc_aload_n 0 dX2_playRound_22 rfl ?_
    refine lc_g_trial fl_X2_12 dX2_playRound_23 ?_
    refine lc_iload_n 2 dX2_playRound_26 rfl ?_
    refine lc_callV (5) (c_X3_isOff l G ((lc_uo σ 10 3 z.1)) 1 z.2 (nI i) (by omega)) hR.2.2.2.1 hR.2.2.2.2 mt_X3_isOff (by omega) (rfl) rfl ml_X2_44 rfl rfl (Nat.le_of_ble_eq_true rfl) ⟨⟨rfl, rfl⟩, Nat.le_of_ble_eq_true rfl, Nat.le_of_ble_eq_true rfl⟩ dX2_playRound_27 ?_
    show lc_V _ _ _ _ _ 30 _ [.int (lc_bi (sp_bit (z.2.1 7 2) (nI i)))] (lc_w ((lc_uo σ 10 3 z.1)) 1 z.2)
    refine lc_ifb_ne 106 dX2_playRound_30 (by decide) (fun c_2 => ?_) (fun c_2 => ?_)
    · skip
      refine lc_iinc 2 (nI (i + 1)) [(2, .int (nI (i + 1))), (0, .ref (G.1 (3))), (1, .int (lc_bi (rum)))] dX2_playRound_106 rfl (lc_inc1 i) (by decide) rfl ?_
      refine lc_goto 11 dX2_playRound_109 (by decide) ?_
      refine lc_lv (lv' := [(0, .ref (G.1 (3))), (1, .int (lc_bi (rum))), (2, .int (nI (i + 1)))]) [1, 2, 0] rfl ?_
      rw [show (sp_trC (σ.2.1 7) n rum) i z = (z.1, z.2) from by simp [sp_trC, c_2]] at ki
      exact ki
    · skip
      refine lc_aload_n 0 dX2_playRound_33 rfl ?_
      refine lc_g_trial fl_X2_12 dX2_playRound_34 ?_
      refine lc_iload_n 2 dX2_playRound_37 rfl ?_
      refine lc_callV (5) (c_X3_othersOn l G ((lc_uo σ 10 3 z.1)) 1 z.2 (nI i) (by omega)) hR.2.2.2.1 hR.2.2.2.2 mt_X3_othersOn (by omega) (rfl) rfl ml_X2_48 rfl rfl (Nat.le_of_ble_eq_true rfl) ⟨⟨rfl, rfl⟩, Nat.le_of_ble_eq_true rfl, Nat.le_of_ble_eq_true rfl⟩ dX2_playRound_38 ?_
      show lc_V _ _ _ _ _ 41 _ [.int (sp_othOn z.2.1 (nI i))] (lc_w ((lc_uo σ 10 3 z.1)) 1 z.2)
      refine lc_if_ne 47 dX2_playRound_41 (by decide) (fun c_3 => ?_) (fun c_3 => ?_)
      · skip
        refine lc_aload_n 0 dX2_playRound_47 rfl ?_
        refine lc_aload_n 0 dX2_playRound_48 rfl ?_
        refine lc_gw_seed 1 (by omega) fl_X2_22 dX2_playRound_49 ?_
        refine lc_topi (z.1) (rfl) ?_
        refine lc_callS (c_X4_nextSeed l G (lc_w ((lc_uo σ 10 3 z.1)) 1 z.2) z.1) hR.2.2.2.1 hR.2.2.2.2 mt_X4_nextSeed ml_X2_51 rfl rfl (Nat.le_of_ble_eq_true rfl) ⟨⟨rfl, rfl⟩, Nat.le_of_ble_eq_true rfl, Nat.le_of_ble_eq_true rfl⟩ dX2_playRound_52 ?_
        show lc_V _ _ _ _ _ 55 _ [.int (sp_next z.1), .ref (G.1 (3))] (lc_w ((lc_uo σ 10 3 z.1)) 1 z.2)
        refine lc_pw_seed 1 (by omega) fl_X2_22 dX2_playRound_55 ?_
        refine lc_eq (σ' := lc_w ((lc_uo σ 10 3 (sp_next z.1))) 1 z.2) (by rw [lc_uo_uo]) ?_
        refine lc_aload_n 0 dX2_playRound_58 rfl ?_
        refine lc_g_trial fl_X2_12 dX2_playRound_59 ?_
        refine lc_iload_n 2 dX2_playRound_62 rfl ?_
        refine lc_aload_n 0 dX2_playRound_63 rfl ?_
        refine lc_gw_seed 1 (by omega) fl_X2_22 dX2_playRound_64 ?_
        refine lc_topi (sp_next z.1) (rfl) ?_
        refine lc_callV (5) (c_X3_partnerBy l G ((lc_uo σ 10 3 (sp_next z.1))) 1 z.2 n i (sp_next z.1) (by omega) (by omega) (by omega) (hIi)) hR.2.2.2.1 hR.2.2.2.2 mt_X3_partnerBy (by omega) (rfl) rfl ml_X2_54 rfl rfl (Nat.le_of_ble_eq_true rfl) ⟨⟨rfl, rfl⟩, Nat.le_of_ble_eq_true rfl, Nat.le_of_ble_eq_true rfl⟩ dX2_playRound_67 ?_
        show lc_V _ _ _ _ _ 70 _ [.int (sp_partC z.2.1 (((lc_uo σ 10 3 (sp_next z.1))).2.1 7) i n (sp_next z.1))] (lc_w ((lc_uo σ 10 3 (sp_next z.1))) 1 z.2)
        refine lc_topi (sp_partC z.2.1 (σ.2.1 7) i n (sp_next z.1)) rfl ?_
        rcases sp_partC_cases z.2.1 (σ.2.1 7) i n (sp_next z.1) with hp | ⟨q, hq, hp⟩
        · skip
          refine lc_topi (-1) hp ?_
          refine lc_istore_n [(3, .int ((-1))), (0, .ref (G.1 (3))), (1, .int (lc_bi (rum))), (2, .int (nI i))] dX2_playRound_70 (by decide) rfl ?_
          refine lc_iload_n 0 dX2_playRound_71 rfl ?_
          refine lc_iconst (v := (-1)) dX2_playRound_72 (by decide) ?_
          refine lc_icmp_ne 79 dX2_playRound_73 (by decide) (fun h => absurd h (by decide)) (fun _ => ?_)
          refine lc_goto 106 dX2_playRound_76 (by decide) ?_
          refine lc_iinc 3 (nI (i + 1)) [(2, .int (nI (i + 1))), (3, .int ((-1))), (0, .ref (G.1 (3))), (1, .int (lc_bi (rum)))] dX2_playRound_106 rfl (lc_inc1 i) (by decide) rfl ?_
          refine lc_goto 11 dX2_playRound_109 (by decide) ?_
          refine lc_lv (lv' := [(0, .ref (G.1 (3))), (1, .int (lc_bi (rum))), (2, .int (nI (i + 1)))]) [2, 3, 0] rfl ?_
          rw [show (sp_trC (σ.2.1 7) n rum) i z = ((sp_next z.1), z.2) from by simp [sp_trC, c_2, c_3, hp]] at ki
          exact ki
        · skip
          refine lc_topi (nI q) hp ?_
          have hq1 : ¬ nI q = -1 := lc_nm1 (by omega)
          have hq2 : (nI q).toNatClampNeg = q := nI_clamp (by omega)
          refine lc_istore_n [(3, .int (nI q)), (0, .ref (G.1 (3))), (1, .int (lc_bi (rum))), (2, .int (nI i))] dX2_playRound_70 (by decide) rfl ?_
          refine lc_iload_n 0 dX2_playRound_71 rfl ?_
          refine lc_iconst (v := (-1)) dX2_playRound_72 (by decide) ?_
          refine lc_icmp_ne 79 dX2_playRound_73 (by decide) (fun _ => ?_) (fun h => absurd h hq1)
          refine lc_iload_n 2 dX2_playRound_79 rfl ?_
          refine lc_ifb_eq 96 dX2_playRound_80 (by decide) (fun c_6 => ?_) (fun c_6 => ?_)
          · skip
            refine lc_aload_n 1 dX2_playRound_96 rfl ?_
            refine lc_g_trial fl_X2_12 dX2_playRound_97 ?_
            refine lc_iload_n 3 dX2_playRound_100 rfl ?_
            refine lc_iload_n 0 dX2_playRound_101 rfl ?_
            refine lc_callV (5) (c_X3_compareAll l G ((lc_uo σ 10 3 (sp_next z.1))) 1 z.2 i q (by omega) (by omega) (by omega)) hR.2.2.2.1 hR.2.2.2.2 mt_X3_compareAll (by omega) (rfl) rfl ml_X2_61 rfl rfl (Nat.le_of_ble_eq_true rfl) ⟨⟨rfl, rfl⟩, Nat.le_of_ble_eq_true rfl, Nat.le_of_ble_eq_true rfl⟩ dX2_playRound_102 ?_
            show lc_V _ _ _ _ _ 105 _ [.int ((sp_cmp z.2 i q).1)] (lc_w ((lc_uo σ 10 3 (sp_next z.1))) 1 ((sp_cmp z.2 i q).2))
            refine lc_pop dX2_playRound_105 rfl ?_
            refine lc_iinc 3 (nI (i + 1)) [(2, .int (nI (i + 1))), (3, .int (nI q)), (0, .ref (G.1 (3))), (1, .int (lc_bi (rum)))] dX2_playRound_106 rfl (lc_inc1 i) (by decide) rfl ?_
            refine lc_goto 11 dX2_playRound_109 (by decide) ?_
            refine lc_lv (lv' := [(0, .ref (G.1 (3))), (1, .int (lc_bi (rum))), (2, .int (nI (i + 1)))]) [2, 3, 0] rfl ?_
            rw [show (sp_trC (σ.2.1 7) n rum) i z = ((sp_next z.1), (sp_cmp z.2 i q).2) from by simp [sp_trC, c_2, c_3, hp, hq1, hq2, c_6]] at ki
            exact ki
          · skip
            refine lc_aload_n 1 dX2_playRound_83 rfl ?_
            refine lc_g_trial fl_X2_12 dX2_playRound_84 ?_
            refine lc_iload_n 3 dX2_playRound_87 rfl ?_
            refine lc_iload_n 0 dX2_playRound_88 rfl ?_
            refine lc_callV (5) (c_X3_tellHot l G ((lc_uo σ 10 3 (sp_next z.1))) 1 z.2 i q (by omega) (by omega) (by omega)) hR.2.2.2.1 hR.2.2.2.2 mt_X3_tellHot (by omega) (rfl) rfl ml_X2_58 rfl rfl (Nat.le_of_ble_eq_true rfl) ⟨⟨rfl, rfl⟩, Nat.le_of_ble_eq_true rfl, Nat.le_of_ble_eq_true rfl⟩ dX2_playRound_89 ?_
            show lc_V _ _ _ _ _ 92 _ [.int ((sp_hots z.2 i q).1)] (lc_w ((lc_uo σ 10 3 (sp_next z.1))) 1 ((sp_hots z.2 i q).2))
            refine lc_pop dX2_playRound_92 rfl ?_
            refine lc_goto 106 dX2_playRound_93 (by decide) ?_
            refine lc_iinc 3 (nI (i + 1)) [(2, .int (nI (i + 1))), (3, .int (nI q)), (0, .ref (G.1 (3))), (1, .int (lc_bi (rum)))] dX2_playRound_106 rfl (lc_inc1 i) (by decide) rfl ?_
            refine lc_goto 11 dX2_playRound_109 (by decide) ?_
            refine lc_lv (lv' := [(0, .ref (G.1 (3))), (1, .int (lc_bi (rum))), (2, .int (nI (i + 1)))]) [2, 3, 0] rfl ?_
            rw [show (sp_trC (σ.2.1 7) n rum) i z = ((sp_next z.1), (sp_hots z.2 i q).2) from by simp [sp_trC, c_2, c_3, hp, hq1, hq2, c_6]] at ki
            exact ki
      · skip
        refine lc_goto 106 dX2_playRound_44 (by decide) ?_
        refine lc_iinc 2 (nI (i + 1)) [(2, .int (nI (i + 1))), (0, .ref (G.1 (3))), (1, .int (lc_bi (rum)))] dX2_playRound_106 rfl (lc_inc1 i) (by decide) rfl ?_
        refine lc_goto 11 dX2_playRound_109 (by decide) ?_
        refine lc_lv (lv' := [(0, .ref (G.1 (3))), (1, .int (lc_bi (rum))), (2, .int (nI (i + 1)))]) [1, 2, 0] rfl ?_
        rw [show (sp_trC (σ.2.1 7) n rum) i z = (z.1, z.2) from by simp [sp_trC, c_2, c_3]] at ki
        exact ki
  · skip
    have hIi2 : (sp_rdC (σ.2.1 7) n rum (sd, y)).2.1 7 0 = nI n := hIi
    show lc_V G Γ cX2_playRound 4 RX2 11 [(0, .ref (G.1 (3))), (1, .int (lc_bi (rum))), (2, .int (nI n))] [] (lc_w ((lc_uo σ 10 3 ((sp_rdC (σ.2.1 7) n rum (sd, y))).1)) 1 (((sp_rdC (σ.2.1 7) n rum (sd, y))).2))
    refine lc_iload_n 2 dX2_playRound_11 rfl ?_
    refine lc_aload_n 0 dX2_playRound_12 rfl ?_
    refine lc_g_trial fl_X2_12 dX2_playRound_13 ?_
    refine lc_gWSites 1 (by omega) fl_X2_41 dX2_playRound_16 ?_
    refine lc_icmp_ge 112 dX2_playRound_19 (by decide) (fun _ => ?_) (fun h => absurd h.1 (by rw [hIi2]; exact nI_nlt (a := n) (b := n) (Nat.le_refl _) (by omega)))
    exact lc_vret hR dX2_playRound_112 (rfl)

set_option maxRecDepth 100000 in
set_option maxHeartbeats 4000000 in
theorem c_X2_run (l : Launch) (G : lc_G) (σ : lc_S) (n : Nat) (seed : Int32) (rum : Bool) (hn : n ≤ 6) (hs : σ.1 0 7 0 = nI n) : lc_M l G yX2_run cX2_run 6 none { frames := 5, cells := 0, slots := 0, locals := 118 } [.ref (G.1 (3)), .ref (G.1 (4)), .int (seed), .int (lc_bi (rum))] (σ) none (lc_w ((lc_uo (lc_uo (sp_trial σ) 10 3 (sp_run (fun B => sp_aaC B n) (sp_rdC (σ.2.1 6) n rum) 40 0 (seed, (σ.1 0, 0, 0, 0))).2.1) 10 2 (sp_run (fun B => sp_aaC B n) (sp_rdC (σ.2.1 6) n rum) 40 0 (seed, (σ.1 0, 0, 0, 0))).1)) 1 ((sp_run (fun B => sp_aaC B n) (sp_rdC (σ.2.1 6) n rum) 40 0 (seed, (σ.1 0, 0, 0, 0))).2.2)) := by
  refine lc_entry [(0, .ref (G.1 (3))), (1, .ref (G.1 (4))), (2, .int (seed)), (3, .int (lc_bi (rum)))] (by decide) (Nat.le_of_ble_eq_true rfl) rfl rfl rfl ?_
  intro Γ hR
  refine lc_eq (σ' := lc_w σ 1 ((σ.1 1, 0, 0, 0))) ((lc_w_w σ 1).symm) ?_
  refine lc_aload_n 0 dX2_run_0 rfl ?_
  refine lc_g_trial fl_X2_12 dX2_run_1 ?_
  refine lc_aload_n 1 dX2_run_4 rfl ?_
  refine lc_callV (5) (c_X3_startTrial l G σ ((σ.1 1, 0, 0, 0))) hR.2.2.2.1 hR.2.2.2.2 mt_X3_startTrial (by omega) (rfl) rfl ml_X2_18 rfl rfl (Nat.le_of_ble_eq_true rfl) ⟨⟨rfl, rfl⟩, Nat.le_of_ble_eq_true rfl, Nat.le_of_ble_eq_true rfl⟩ dX2_run_5 ?_
  show lc_V _ _ _ _ _ 8 _ [] (lc_w ((sp_trial (lc_w σ 1 ((σ.1 1, 0, 0, 0))))) 1 ((σ.1 0, 0, 0, 0)))
  refine lc_eq (σ' := lc_w ((sp_trial σ)) 1 ((σ.1 0, 0, 0, 0))) (by rw [lc_w_w]) ?_
  refine lc_aload_n 0 dX2_run_8 rfl ?_
  refine lc_iload_n 2 dX2_run_9 rfl ?_
  refine lc_pw_seed 1 (by omega) fl_X2_22 dX2_run_10 ?_
  refine lc_aload_n 0 dX2_run_13 rfl ?_
  refine lc_g_trial fl_X2_12 dX2_run_14 ?_
  refine lc_callV (5) (c_X3_allOnAlike l G ((lc_uo ((sp_trial σ)) 10 3 seed)) 1 ((σ.1 0, 0, 0, 0)) n (by omega) (by omega) (hs)) hR.2.2.2.1 hR.2.2.2.2 mt_X3_allOnAlike (by omega) (rfl) rfl ml_X2_26 rfl rfl (Nat.le_of_ble_eq_true rfl) ⟨⟨rfl, rfl⟩, Nat.le_of_ble_eq_true rfl, Nat.le_of_ble_eq_true rfl⟩ dX2_run_17 ?_
  show lc_V _ _ _ _ _ 20 _ [.int (lc_bi (sp_aaC (σ.1 0) n))] (lc_w ((lc_uo ((sp_trial σ)) 10 3 seed)) 1 ((σ.1 0, 0, 0, 0)))
  refine lc_istore [(4, .int (lc_bi (sp_aaC (σ.1 0) n))), (0, .ref (G.1 (3))), (1, .ref (G.1 (4))), (2, .int (seed)), (3, .int (lc_bi (rum)))] dX2_run_20 (by decide) rfl ?_
  refine lc_iconst (v := 0) dX2_run_22 (by decide) ?_
  refine lc_istore [(5, .int (0)), (4, .int (lc_bi (sp_aaC (σ.1 0) n))), (0, .ref (G.1 (3))), (1, .ref (G.1 (4))), (2, .int (seed)), (3, .int (lc_bi (rum)))] dX2_run_23 (by decide) rfl ?_
  refine lc_lv (lv' := [(0, .ref (G.1 (3))), (1, .ref (G.1 (4))), (2, .int (seed)), (3, .int (lc_bi (rum))), (4, .int (lc_bi (sp_aaC (σ.1 0) n))), (5, .int (0))]) [2, 3, 4, 5, 1, 0] rfl ?_
  have KL : ∀ (f i : Nat) (sd : Int32) (y : lc_X), i + f = 40 → sp_run (fun B => sp_aaC B n) (sp_rdC (σ.2.1 6) n rum) f i (sd, y) = (sp_run (fun B => sp_aaC B n) (sp_rdC (σ.2.1 6) n rum) 40 0 (seed, (σ.1 0, 0, 0, 0))) → y.1 7 0 = nI n → lc_V G Γ cX2_run 6 RX2 25 [(0, .ref (G.1 (3))), (1, .ref (G.1 (4))), (2, .int (seed)), (3, .int (lc_bi (rum))), (4, .int (lc_bi (sp_aaC y.1 n))), (5, .int (nI i))] [] (lc_w ((lc_uo (sp_trial σ) 10 3 sd)) 1 y) := by
    intro f
    induction f with
    | zero =>
      intro i sd y hf hr hy
      have hi : i = 40 := by omega
      refine lc_iload 4 dX2_run_25 rfl ?_
      refine lc_ifb_ne 57 dX2_run_27 (by decide) (fun c_1 => ?_) (fun c_1 => ?_)
      · skip
        refine lc_aload_n 0 dX2_run_57 rfl ?_
        refine lc_iload 4 dX2_run_58 rfl ?_
        refine lc_ifb_eq 68 dX2_run_60 (by decide) (fun h => absurd (h.symm.trans c_1) (by decide)) (fun _ => ?_)
        refine lc_iload 5 dX2_run_63 rfl ?_
        refine lc_goto 69 dX2_run_65 (by decide) ?_
        refine lc_pw_rnd 1 (by omega) fl_X2_34 dX2_run_69 ?_
        exact lc_vret hR dX2_run_72 (by rw [← hr]; simp [sp_run, c_1])
      · skip
        refine lc_iload 5 dX2_run_30 rfl ?_
        refine lc_bipush (v := 40) dX2_run_32 (by decide) ?_
        refine lc_icmp_ge 57 dX2_run_34 (by decide) (fun _ => ?_) (fun h => absurd h.1 (by rw [hi]; exact nI_nlt (a := 40) (b := 40) (Nat.le_refl _) (by omega)))
        refine lc_aload_n 0 dX2_run_57 rfl ?_
        refine lc_iload 4 dX2_run_58 rfl ?_
        refine lc_ifb_eq 68 dX2_run_60 (by decide) (fun _ => ?_) (fun h => absurd (h.symm.trans c_1) (by decide))
        refine lc_iconst (v := (-1)) dX2_run_68 (by decide) ?_
        refine lc_pw_rnd 1 (by omega) fl_X2_34 dX2_run_69 ?_
        exact lc_vret hR dX2_run_72 (by rw [← hr]; simp [sp_run, c_1])
    | succ f ih =>
      intro i sd y hf hr hy
      have hi : i < 40 := by omega
      refine lc_iload 4 dX2_run_25 rfl ?_
      refine lc_ifb_ne 57 dX2_run_27 (by decide) (fun c_5 => ?_) (fun c_5 => ?_)
      · skip
        refine lc_aload_n 0 dX2_run_57 rfl ?_
        refine lc_iload 4 dX2_run_58 rfl ?_
        refine lc_ifb_eq 68 dX2_run_60 (by decide) (fun h => absurd (h.symm.trans c_5) (by decide)) (fun _ => ?_)
        refine lc_iload 5 dX2_run_63 rfl ?_
        refine lc_goto 69 dX2_run_65 (by decide) ?_
        refine lc_pw_rnd 1 (by omega) fl_X2_34 dX2_run_69 ?_
        exact lc_vret hR dX2_run_72 (by rw [← hr]; simp [sp_run, c_5])
      · skip
        refine lc_iload 5 dX2_run_30 rfl ?_
        refine lc_bipush (v := 40) dX2_run_32 (by decide) ?_
        refine lc_icmp_ge 57 dX2_run_34 (by decide) (fun h => absurd h.1 (by exact nI_ge (b := 40) hi (by omega))) (fun _ => ?_)
        refine lc_aload_n 0 dX2_run_37 rfl ?_
        refine lc_iload_n 3 dX2_run_38 rfl ?_
        refine lc_callV (3) (c_X2_playRound l G (sp_trial σ) sd y n rum hn hy) hR.2.2.2.1 hR.2.2.2.2 mt_X2_playRound (by omega) (rfl) rfl ml_X2_30 rfl rfl (Nat.le_of_ble_eq_true rfl) ⟨⟨rfl, rfl⟩, Nat.le_of_ble_eq_true rfl, Nat.le_of_ble_eq_true rfl⟩ dX2_run_39 ?_
        show lc_V _ _ _ _ _ 42 _ [] (lc_w ((lc_uo (sp_trial σ) 10 3 (sp_rdC (σ.2.1 6) n rum (sd, y)).1)) 1 ((sp_rdC (σ.2.1 6) n rum (sd, y)).2))
        refine lc_iinc 5 (nI (i + 1)) [(5, .int (nI (i + 1))), (0, .ref (G.1 (3))), (1, .ref (G.1 (4))), (2, .int (seed)), (3, .int (lc_bi (rum))), (4, .int (lc_bi (sp_aaC y.1 n)))] dX2_run_42 rfl (lc_inc1 i) (by decide) rfl ?_
        refine lc_aload_n 1 dX2_run_45 rfl ?_
        refine lc_g_trial fl_X2_12 dX2_run_46 ?_
        refine lc_callV (5) (c_X3_allOnAlike l G ((lc_uo (sp_trial σ) 10 3 (sp_rdC (σ.2.1 6) n rum (sd, y)).1)) 1 ((sp_rdC (σ.2.1 6) n rum (sd, y)).2) n (by omega) (by omega) (by rw [sp_rdC_r]; exact hy)) hR.2.2.2.1 hR.2.2.2.2 mt_X3_allOnAlike (by omega) (rfl) rfl ml_X2_26 rfl rfl (Nat.le_of_ble_eq_true rfl) ⟨⟨rfl, rfl⟩, Nat.le_of_ble_eq_true rfl, Nat.le_of_ble_eq_true rfl⟩ dX2_run_49 ?_
        show lc_V _ _ _ _ _ 52 _ [.int (lc_bi (sp_aaC (((sp_rdC (σ.2.1 6) n rum (sd, y)).2).1) n))] (lc_w ((lc_uo (sp_trial σ) 10 3 (sp_rdC (σ.2.1 6) n rum (sd, y)).1)) 1 ((sp_rdC (σ.2.1 6) n rum (sd, y)).2))
        refine lc_istore [(4, .int (lc_bi (sp_aaC (((sp_rdC (σ.2.1 6) n rum (sd, y)).2).1) n))), (5, .int (nI (i + 1))), (0, .ref (G.1 (3))), (1, .ref (G.1 (4))), (2, .int (seed)), (3, .int (lc_bi (rum)))] dX2_run_52 (by decide) rfl ?_
        refine lc_goto 25 dX2_run_54 (by decide) ?_
        refine lc_lv (lv' := [(0, .ref (G.1 (3))), (1, .ref (G.1 (4))), (2, .int (seed)), (3, .int (lc_bi (rum))), (4, .int (lc_bi (sp_aaC (((sp_rdC (σ.2.1 6) n rum (sd, y)).2).1) n))), (5, .int (nI (i + 1)))]) [2, 3, 4, 5, 0, 1] rfl ?_
        exact ih (i + 1) ((sp_rdC (σ.2.1 6) n rum (sd, y)).1) ((sp_rdC (σ.2.1 6) n rum (sd, y)).2) (by omega) (by rw [← hr]; simp [sp_run, c_5]) (by rw [sp_rdC_r]; exact hy)
  exact KL 40 0 seed ((σ.1 0, 0, 0, 0)) (by omega) rfl hs

set_option maxRecDepth 100000 in
set_option maxHeartbeats 4000000 in
theorem c_X2_outcome (l : Launch) (G : lc_G) (σ : lc_S) (x : lc_X) (what : Int32) : lc_M l G yX2_outcome cX2_outcome 2 (some .int) { frames := 0, cells := 0, slots := 0, locals := 0 } [.ref (G.1 (3)), .int (what)] (lc_w σ 1 x) (some (.int (if what = 0 then σ.2.1 10 2 else if what = 1 then σ.2.1 1 0 + x.2.1 else σ.2.1 10 3))) (lc_w σ 1 x) := by
  refine lc_entry [(0, .ref (G.1 (3))), (1, .int (what))] (by decide) (Nat.le_of_ble_eq_true rfl) rfl rfl rfl ?_
  intro Γ hR
  refine lc_iload_n 1 dX2_outcome_0 rfl ?_
  by_cases c_1 : what = 0
  · skip
    refine lc_look 28 dX2_outcome_1 (by decide) (by rw [c_1] <;> rfl) (by decide) ?_
    refine lc_aload_n 0 dX2_outcome_28 rfl ?_
    refine lc_gw_rnd 1 (by omega) fl_X2_34 dX2_outcome_29 ?_
    exact lc_iret hR dX2_outcome_32 (by simp [lc_bi, c_1]) (rfl)
  · skip
    by_cases c_2 : what = 1
    · skip
      refine lc_look 33 dX2_outcome_1 (by decide) (by rw [c_2] <;> rfl) (by decide) ?_
      refine lc_aload_n 0 dX2_outcome_33 rfl ?_
      refine lc_g_trial fl_X2_12 dX2_outcome_34 ?_
      refine lc_gWTra 1 (by omega) fl_X2_64 dX2_outcome_37 ?_
      exact lc_iret hR dX2_outcome_40 (by simp [lc_bi, c_1, c_2]) (rfl)
    · skip
      refine lc_look (off := 40) 41 dX2_outcome_1 (by decide) ((lv_osw c_1 rfl).trans ((lv_osw c_2 rfl).trans rfl)) (by decide) ?_
      refine lc_aload_n 0 dX2_outcome_41 rfl ?_
      refine lc_gw_seed 1 (by omega) fl_X2_22 dX2_outcome_42 ?_
      exact lc_iret hR dX2_outcome_45 (by simp [lc_bi, c_1, c_2]) (rfl)
