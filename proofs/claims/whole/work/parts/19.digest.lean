set_option maxRecDepth 100000 in
set_option maxHeartbeats 4000000 in
theorem c_X4_settle (l : Launch) (G : lc_G) (σ : lc_S) (n : Nat) (hn : n ≤ 6) (hs : σ.1 0 7 0 = nI n) (seed : Int32) (rum : Bool) (what : Int32) : lc_M l G yX4_settle cX4_settle 4 (some .int) { frames := 6, cells := 0, slots := 0, locals := 143 } [.ref (G.1 (0)), .int (seed), .int (lc_bi (rum)), .int (what)] (σ) (some (.int ((sp_stv σ n seed rum what).1))) ((sp_stv σ n seed rum what).2) := by
  refine lc_entry [(0, .ref (G.1 (0))), (1, .int (seed)), (2, .int (lc_bi (rum))), (3, .int (what))] (by decide) (Nat.le_of_ble_eq_true rfl) rfl rfl rfl ?_
  intro Γ hR
  refine lc_iload_n 1 dX4_settle_0 rfl ?_
  refine lc_if_lt 13 dX4_settle_1 (by decide) (fun c_1 => ?_) (fun c_1 => ?_)
  · skip
    refine lc_sipush (v := (-1002)) dX4_settle_13 (by decide) ?_
    exact lc_iret hR dX4_settle_16 (by simp [sp_stv, sp_win, c_1]) (by simp [sp_stv, sp_win, c_1])
  · skip
    refine lc_iload_n 3 dX4_settle_4 rfl ?_
    refine lc_if_lt 13 dX4_settle_5 (by decide) (fun c_2 => ?_) (fun c_2 => ?_)
    · skip
      refine lc_sipush (v := (-1002)) dX4_settle_13 (by decide) ?_
      exact lc_iret hR dX4_settle_16 (by simp [sp_stv, sp_win, c_1, c_2]) (by simp [sp_stv, sp_win, c_1, c_2])
    · skip
      refine lc_iload_n 3 dX4_settle_8 rfl ?_
      refine lc_iconst (v := 2) dX4_settle_9 (by decide) ?_
      refine lc_icmp_le 17 dX4_settle_10 (by decide) (fun c_3 => ?_) (fun c_3 => ?_)
      · skip
        refine lc_eq (σ' := lc_w σ 0 ((σ.1 0, 0, 0, 0))) ((lc_w_w σ 0).symm) ?_
        refine lc_aload_n 0 dX4_settle_17 rfl ?_
        refine lc_g_world fl_X4_19 dX4_settle_18 ?_
        refine lc_gWSites 0 (by omega) fl_X4_53 dX4_settle_21 ?_
        refine lc_topi (σ.1 0 7 0) (rfl) ?_
        refine lc_if_ne 31 dX4_settle_24 (by decide) (fun c_4 => ?_) (fun c_4 => ?_)
        · skip
          refine lc_eq (σ' := σ) (lc_w_w σ 0) ?_
          refine lc_aload_n 0 dX4_settle_31 rfl ?_
          refine lc_g_settling fl_X4_26 dX4_settle_32 ?_
          refine lc_aload_n 0 dX4_settle_35 rfl ?_
          refine lc_g_world fl_X4_19 dX4_settle_36 ?_
          refine lc_iload_n 1 dX4_settle_39 rfl ?_
          refine lc_iload_n 2 dX4_settle_40 rfl ?_
          refine lc_callV (3) (c_X2_run l G σ n seed rum hn hs) hR.2.2.2.1 hR.2.2.2.2 mt_X2_run (by omega) (rfl) rfl ml_X4_153 rfl rfl (Nat.le_of_ble_eq_true rfl) ⟨⟨rfl, rfl⟩, Nat.le_of_ble_eq_true rfl, Nat.le_of_ble_eq_true rfl⟩ dX4_settle_41 ?_
          show lc_V _ _ _ _ _ 44 _ [] (lc_w ((lc_uo (lc_uo (sp_trial σ) 10 3 (sp_RUN σ n seed rum).2.1) 10 2 (sp_RUN σ n seed rum).1)) 1 ((sp_RUN σ n seed rum).2.2))
          refine lc_aload_n 0 dX4_settle_44 rfl ?_
          refine lc_g_settling fl_X4_26 dX4_settle_45 ?_
          refine lc_iload_n 3 dX4_settle_48 rfl ?_
          refine lc_callV (3) (c_X2_outcome l G ((lc_uo (lc_uo (sp_trial σ) 10 3 (sp_RUN σ n seed rum).2.1) 10 2 (sp_RUN σ n seed rum).1)) ((sp_RUN σ n seed rum).2.2) what) hR.2.2.2.1 hR.2.2.2.2 mt_X2_outcome (by omega) (rfl) rfl ml_X4_157 rfl rfl (Nat.le_of_ble_eq_true rfl) ⟨⟨rfl, rfl⟩, Nat.le_of_ble_eq_true rfl, Nat.le_of_ble_eq_true rfl⟩ dX4_settle_49 ?_
          show lc_V _ _ _ _ _ 52 _ [.int (if what = 0 then ((lc_uo (lc_uo (sp_trial σ) 10 3 (sp_RUN σ n seed rum).2.1) 10 2 (sp_RUN σ n seed rum).1)).2.1 10 2 else if what = 1 then ((lc_uo (lc_uo (sp_trial σ) 10 3 (sp_RUN σ n seed rum).2.1) 10 2 (sp_RUN σ n seed rum).1)).2.1 1 0 + ((sp_RUN σ n seed rum).2.2).2.1 else ((lc_uo (lc_uo (sp_trial σ) 10 3 (sp_RUN σ n seed rum).2.1) 10 2 (sp_RUN σ n seed rum).1)).2.1 10 3)] (lc_w ((lc_uo (lc_uo (sp_trial σ) 10 3 (sp_RUN σ n seed rum).2.1) 10 2 (sp_RUN σ n seed rum).1)) 1 ((sp_RUN σ n seed rum).2.2))
          refine lc_topi (sp_pick what (sp_RUN σ n seed rum)) (by show (if what = 0 then (sp_RUN σ n seed rum).1 else if what = 1 then 0 + (sp_RUN σ n seed rum).2.2.2.1 else (sp_RUN σ n seed rum).2.1) = _; rw [Int32.zero_add]; rfl) ?_
          refine lc_eq (σ' := sp_stl σ n seed rum) rfl ?_
          exact lc_iret hR dX4_settle_52 (by simp [sp_stv, sp_win, c_1, c_2, c_3, c_4]) (by simp [sp_stv, sp_win, c_1, c_2, c_3, c_4])
        · skip
          refine lc_eq (σ' := σ) (lc_w_w σ 0) ?_
          refine lc_sipush (v := (-1003)) dX4_settle_27 (by decide) ?_
          exact lc_iret hR dX4_settle_30 (by simp [sp_stv, sp_win, c_1, c_2, c_3, c_4]) (by simp [sp_stv, sp_win, c_1, c_2, c_3, c_4])
      · skip
        refine lc_sipush (v := (-1002)) dX4_settle_13 (by decide) ?_
        exact lc_iret hR dX4_settle_16 (by simp [sp_stv, sp_win, c_1, c_2, c_3]) (by simp [sp_stv, sp_win, c_1, c_2, c_3])

set_option maxRecDepth 100000 in
set_option maxHeartbeats 4000000 in
theorem c_X4_mixSite (l : Launch) (G : lc_G) (σ : lc_S) (x : lc_X) (n s : Nat) (hn : n ≤ 6) (hs : x.1 7 0 = nI n) (hsn : s < n) (h : Int64) : lc_M l G yX4_mixSite cX4_mixSite 8 (some .long) { frames := 4, cells := 0, slots := 0, locals := 88 } [.ref (G.1 (0)), .long (h), .int (nI s)] (lc_w σ 0 x) (some (.long (sp_msh sp_alike x.1 n s h))) (lc_w σ 0 x) := by
  refine lc_entry [(0, .ref (G.1 (0))), (1, .long (h)), (3, .int (nI s))] (by decide) (Nat.le_of_ble_eq_true rfl) rfl rfl rfl ?_
  intro Γ hR
  refine lc_lload_n 1 dX4_mixSite_0 rfl ?_
  refine lc_lstore [(4, .long (h)), (0, .ref (G.1 (0))), (1, .long (h)), (3, .int (nI s))] dX4_mixSite_1 (by decide) rfl ?_
  refine lc_iconst (v := 0) dX4_mixSite_3 (by decide) ?_
  refine lc_istore [(6, .int (0)), (4, .long (h)), (0, .ref (G.1 (0))), (1, .long (h)), (3, .int (nI s))] dX4_mixSite_4 (by decide) rfl ?_
  refine lc_lv (lv' := [(0, .ref (G.1 (0))), (3, .int (nI s)), (4, .long (h)), (6, .int (0))]) [2, 4, 1, 0] rfl ?_
  refine lc_forI (α := Int64) (fun k z => lc_V G Γ cX4_mixSite 8 RX4 6 [(0, .ref (G.1 (0))), (3, .int (nI s)), (4, .long (z)), (6, .int (nI k))] [] (lc_w σ 0 x)) (fun _ _ => True) (sp_ksh x.1 s) 4 (fun _ _ _ _ => trivial) (fun k z hk hIk kk => ?_) h (trivial) (fun hIk => ?_)
  · skip
    show lc_V G Γ cX4_mixSite 8 RX4 6 [(0, .ref (G.1 (0))), (3, .int (nI s)), (4, .long (z)), (6, .int (nI k))] [] (lc_w σ 0 x)
    refine lc_iload 3 dX4_mixSite_6 rfl ?_
    refine lc_iconst (v := 4) dX4_mixSite_8 (by decide) ?_
    refine lc_icmp_ge 50 dX4_mixSite_9 (by decide) (fun h => absurd h.1 (by exact nI_ge (b := 4) hk (by omega))) (fun _ => ?_)
    refine lc_iconst (v := 0) dX4_mixSite_12 (by decide) ?_
    refine lc_istore [(7, .int (0)), (0, .ref (G.1 (0))), (3, .int (nI s)), (4, .long (z)), (6, .int (nI k))] dX4_mixSite_13 (by decide) rfl ?_
    refine lc_lv (lv' := [(0, .ref (G.1 (0))), (3, .int (nI s)), (4, .long (z)), (6, .int (nI k)), (7, .int (0))]) [1, 2, 3, 4, 0] rfl ?_
    refine lc_forI (α := Int64) (fun w y => lc_V G Γ cX4_mixSite 8 RX4 15 [(0, .ref (G.1 (0))), (3, .int (nI s)), (4, .long (y)), (6, .int (nI k)), (7, .int (nI w))] [] (lc_w σ 0 x)) (fun _ _ => True) (fun w h => sp_mx h (sp_hasv x.1 (4 * s + k) w)) 7 (fun _ _ _ _ => trivial) (fun w y hw hIw kw => ?_) z (trivial) (fun hIw => ?_)
    · skip
      show lc_V G Γ cX4_mixSite 8 RX4 15 [(0, .ref (G.1 (0))), (3, .int (nI s)), (4, .long (y)), (6, .int (nI k)), (7, .int (nI w))] [] (lc_w σ 0 x)
      refine lc_iload 4 dX4_mixSite_15 rfl ?_
      refine lc_bipush (v := 6) dX4_mixSite_17 (by decide) ?_
      refine lc_icmp_gt 44 dX4_mixSite_19 (by decide) (fun h => absurd h.1 (by exact nI_nlt (a := 6) (b := w) (by omega) (by omega))) (fun _ => ?_)
      refine lc_lload 2 dX4_mixSite_22 rfl ?_
      refine lc_aload_n 0 dX4_mixSite_24 rfl ?_
      refine lc_iload_n 1 dX4_mixSite_25 rfl ?_
      refine lc_iload 3 dX4_mixSite_26 rfl ?_
      refine lc_iload 4 dX4_mixSite_28 rfl ?_
      refine lc_callV (0) (c_X4_has l G σ x n hn hs (nI s) (nI k) (nI w)) hR.2.2.2.1 hR.2.2.2.2 mt_X4_has (by omega) (rfl) rfl ml_X4_187 rfl rfl (Nat.le_of_ble_eq_true rfl) ⟨⟨rfl, rfl⟩, Nat.le_of_ble_eq_true rfl, Nat.le_of_ble_eq_true rfl⟩ dX4_mixSite_30 ?_
      show lc_V _ _ _ _ _ 33 _ [.int (sp_has x.1 (nI s) (nI k) (nI w)), .long (y)] (lc_w σ 0 x)
      refine lc_topi (sp_hasv x.1 (4 * s + k) w) (sp_has_in hn hs hsn hk hw) ?_
      refine lc_callS (c_X4_mix l G (lc_w σ 0 x) y (sp_hasv x.1 (4 * s + k) w)) hR.2.2.2.1 hR.2.2.2.2 mt_X4_mix ml_X4_178 rfl rfl (Nat.le_of_ble_eq_true rfl) ⟨⟨rfl, rfl⟩, Nat.le_of_ble_eq_true rfl, Nat.le_of_ble_eq_true rfl⟩ dX4_mixSite_33 ?_
      show lc_V _ _ _ _ _ 36 _ [.long (sp_mx y (sp_hasv x.1 (4 * s + k) w))] (lc_w σ 0 x)
      refine lc_lstore [(4, .long (sp_mx y (sp_hasv x.1 (4 * s + k) w))), (0, .ref (G.1 (0))), (3, .int (nI s)), (6, .int (nI k)), (7, .int (nI w))] dX4_mixSite_36 (by decide) rfl ?_
      refine lc_iinc 4 (nI (w + 1)) [(7, .int (nI (w + 1))), (4, .long (sp_mx y (sp_hasv x.1 (4 * s + k) w))), (0, .ref (G.1 (0))), (3, .int (nI s)), (6, .int (nI k))] dX4_mixSite_38 rfl (lc_inc1 w) (by decide) rfl ?_
      refine lc_goto 15 dX4_mixSite_41 (by decide) ?_
      refine lc_lv (lv' := [(0, .ref (G.1 (0))), (3, .int (nI s)), (4, .long (sp_mx y (sp_hasv x.1 (4 * s + k) w))), (6, .int (nI k)), (7, .int (nI (w + 1)))]) [2, 3, 1, 4, 0] rfl ?_
      rw [show sp_mx y (sp_hasv x.1 (4 * s + k) w) = sp_mx y (sp_hasv x.1 (4 * s + k) w) from rfl] at kw
      exact kw
    · skip
      show lc_V G Γ cX4_mixSite 8 RX4 15 [(0, .ref (G.1 (0))), (3, .int (nI s)), (4, .long ((sp_ksh x.1 s k z))), (6, .int (nI k)), (7, .int (nI 7))] [] (lc_w σ 0 x)
      refine lc_iload 4 dX4_mixSite_15 rfl ?_
      refine lc_bipush (v := 6) dX4_mixSite_17 (by decide) ?_
      refine lc_icmp_gt 44 dX4_mixSite_19 (by decide) (fun _ => ?_) (fun h => absurd h.1 (by decide))
      refine lc_iinc 3 (nI (k + 1)) [(6, .int (nI (k + 1))), (0, .ref (G.1 (0))), (3, .int (nI s)), (4, .long ((sp_ksh x.1 s k z))), (7, .int (nI 7))] dX4_mixSite_44 rfl (lc_inc1 k) (by decide) rfl ?_
      refine lc_goto 6 dX4_mixSite_47 (by decide) ?_
      refine lc_lv (lv' := [(0, .ref (G.1 (0))), (3, .int (nI s)), (4, .long ((sp_ksh x.1 s k z))), (6, .int (nI (k + 1)))]) [1, 2, 3, 0] rfl ?_
      rw [show (sp_ksh x.1 s) k z = sp_ksh x.1 s k z from rfl] at kk
      exact kk
  · skip
    show lc_V G Γ cX4_mixSite 8 RX4 6 [(0, .ref (G.1 (0))), (3, .int (nI s)), (4, .long ((sp_it (sp_ksh x.1 s) 4 h))), (6, .int (nI 4))] [] (lc_w σ 0 x)
    refine lc_iload 3 dX4_mixSite_6 rfl ?_
    refine lc_iconst (v := 4) dX4_mixSite_8 (by decide) ?_
    refine lc_icmp_ge 50 dX4_mixSite_9 (by decide) (fun _ => ?_) (fun h => absurd h.1 (by exact nI_nlt (a := 4) (b := 4) (Nat.le_refl _) (by omega)))
    refine lc_iconst (v := 0) dX4_mixSite_50 (by decide) ?_
    refine lc_istore [(6, .int (0)), (0, .ref (G.1 (0))), (3, .int (nI s)), (4, .long ((sp_it (sp_ksh x.1 s) 4 h)))] dX4_mixSite_51 (by decide) rfl ?_
    refine lc_lv (lv' := [(0, .ref (G.1 (0))), (3, .int (nI s)), (4, .long ((sp_it (sp_ksh x.1 s) 4 h))), (6, .int (0))]) [1, 2, 3, 0] rfl ?_
    refine lc_forI (α := Int64) (fun kd z => lc_V G Γ cX4_mixSite 8 RX4 53 [(0, .ref (G.1 (0))), (3, .int (nI s)), (4, .long (z)), (6, .int (nI kd))] [] (lc_w σ 0 x)) (fun _ _ => True) (fun kd h => sp_mx h (sp_on (sp_nks x.1 s (nI kd)))) 3 (fun _ _ _ _ => trivial) (fun kd z hkd hIkd kkd => ?_) ((sp_it (sp_ksh x.1 s) 4 h)) (trivial) (fun hIkd => ?_)
    · skip
      show lc_V G Γ cX4_mixSite 8 RX4 53 [(0, .ref (G.1 (0))), (3, .int (nI s)), (4, .long (z)), (6, .int (nI kd))] [] (lc_w σ 0 x)
      refine lc_iload 3 dX4_mixSite_53 rfl ?_
      refine lc_iconst (v := 2) dX4_mixSite_55 (by decide) ?_
      refine lc_icmp_gt 79 dX4_mixSite_56 (by decide) (fun h => absurd h.1 (by exact nI_nlt (a := 2) (b := kd) (by omega) (by omega))) (fun _ => ?_)
      refine lc_lload 2 dX4_mixSite_59 rfl ?_
      refine lc_aload_n 0 dX4_mixSite_61 rfl ?_
      refine lc_iload_n 1 dX4_mixSite_62 rfl ?_
      refine lc_iload 3 dX4_mixSite_63 rfl ?_
      refine lc_callV (0) (c_X4_newest l G σ x n hn hs (nI s) (nI kd)) hR.2.2.2.1 hR.2.2.2.2 mt_X4_newest (by omega) (rfl) rfl ml_X4_190 rfl rfl (Nat.le_of_ble_eq_true rfl) ⟨⟨rfl, rfl⟩, Nat.le_of_ble_eq_true rfl, Nat.le_of_ble_eq_true rfl⟩ dX4_mixSite_65 ?_
      show lc_V _ _ _ _ _ 68 _ [.int (sp_newest x.1 (nI s) (nI kd)), .long (z)] (lc_w σ 0 x)
      refine lc_topi (sp_on (sp_nks x.1 s (nI kd))) (sp_newest_in hn hs hsn hkd) ?_
      refine lc_callS (c_X4_mix l G (lc_w σ 0 x) z (sp_on (sp_nks x.1 s (nI kd)))) hR.2.2.2.1 hR.2.2.2.2 mt_X4_mix ml_X4_178 rfl rfl (Nat.le_of_ble_eq_true rfl) ⟨⟨rfl, rfl⟩, Nat.le_of_ble_eq_true rfl, Nat.le_of_ble_eq_true rfl⟩ dX4_mixSite_68 ?_
      show lc_V _ _ _ _ _ 71 _ [.long (sp_mx z (sp_on (sp_nks x.1 s (nI kd))))] (lc_w σ 0 x)
      refine lc_lstore [(4, .long (sp_mx z (sp_on (sp_nks x.1 s (nI kd))))), (0, .ref (G.1 (0))), (3, .int (nI s)), (6, .int (nI kd))] dX4_mixSite_71 (by decide) rfl ?_
      refine lc_iinc 3 (nI (kd + 1)) [(6, .int (nI (kd + 1))), (4, .long (sp_mx z (sp_on (sp_nks x.1 s (nI kd))))), (0, .ref (G.1 (0))), (3, .int (nI s))] dX4_mixSite_73 rfl (lc_inc1 kd) (by decide) rfl ?_
      refine lc_goto 53 dX4_mixSite_76 (by decide) ?_
      refine lc_lv (lv' := [(0, .ref (G.1 (0))), (3, .int (nI s)), (4, .long (sp_mx z (sp_on (sp_nks x.1 s (nI kd))))), (6, .int (nI (kd + 1)))]) [2, 3, 1, 0] rfl ?_
      rw [show sp_mx z (sp_on (sp_nks x.1 s (nI kd))) = sp_mx z (sp_on (sp_nks x.1 s (nI kd))) from rfl] at kkd
      exact kkd
    · skip
      show lc_V G Γ cX4_mixSite 8 RX4 53 [(0, .ref (G.1 (0))), (3, .int (nI s)), (4, .long ((sp_it (fun kd h => sp_mx h (sp_on (sp_nks x.1 s (nI kd)))) 3 (sp_it (sp_ksh x.1 s) 4 h)))), (6, .int (nI 3))] [] (lc_w σ 0 x)
      refine lc_iload 3 dX4_mixSite_53 rfl ?_
      refine lc_iconst (v := 2) dX4_mixSite_55 (by decide) ?_
      refine lc_icmp_gt 79 dX4_mixSite_56 (by decide) (fun _ => ?_) (fun h => absurd h.1 (by decide))
      refine lc_iconst (v := 0) dX4_mixSite_79 (by decide) ?_
      refine lc_istore [(6, .int (0)), (0, .ref (G.1 (0))), (3, .int (nI s)), (4, .long ((sp_it (fun kd h => sp_mx h (sp_on (sp_nks x.1 s (nI kd)))) 3 (sp_it (sp_ksh x.1 s) 4 h))))] dX4_mixSite_80 (by decide) rfl ?_
      refine lc_lv (lv' := [(0, .ref (G.1 (0))), (3, .int (nI s)), (4, .long ((sp_it (fun kd h => sp_mx h (sp_on (sp_nks x.1 s (nI kd)))) 3 (sp_it (sp_ksh x.1 s) 4 h)))), (6, .int (0))]) [1, 2, 3, 0] rfl ?_
      refine lc_forI (α := Int64) (fun o z => lc_V G Γ cX4_mixSite 8 RX4 82 [(0, .ref (G.1 (0))), (3, .int (nI s)), (4, .long (z)), (6, .int (nI o))] [] (lc_w σ 0 x)) (fun _ _ => True) (fun o h => sp_mx h (lc_bi (sp_alike x.1 s o))) n (fun _ _ _ _ => trivial) (fun o z ho hIo ko => ?_) ((sp_it (fun kd h => sp_mx h (sp_on (sp_nks x.1 s (nI kd)))) 3 (sp_it (sp_ksh x.1 s) 4 h))) (trivial) (fun hIo => ?_)
      · skip
        show lc_V G Γ cX4_mixSite 8 RX4 82 [(0, .ref (G.1 (0))), (3, .int (nI s)), (4, .long (z)), (6, .int (nI o))] [] (lc_w σ 0 x)
        refine lc_iload 3 dX4_mixSite_82 rfl ?_
        refine lc_aload_n 0 dX4_mixSite_84 rfl ?_
        refine lc_g_world fl_X4_19 dX4_mixSite_85 ?_
        refine lc_gWSites 0 (by omega) fl_X4_53 dX4_mixSite_88 ?_
        refine lc_icmp_ge 114 dX4_mixSite_91 (by decide) (fun h => absurd h.1 (by rw [hs]; exact nI_ge (b := n) ho (by omega))) (fun _ => ?_)
        refine lc_lload 2 dX4_mixSite_94 rfl ?_
        refine lc_aload_n 0 dX4_mixSite_96 rfl ?_
        refine lc_iload_n 1 dX4_mixSite_97 rfl ?_
        refine lc_iload 3 dX4_mixSite_98 rfl ?_
        refine lc_callV (0) (c_X4_alike l G σ x n hn hs (nI s) (nI o)) hR.2.2.2.1 hR.2.2.2.2 mt_X4_alike (by omega) (rfl) rfl ml_X4_193 rfl rfl (Nat.le_of_ble_eq_true rfl) ⟨⟨rfl, rfl⟩, Nat.le_of_ble_eq_true rfl, Nat.le_of_ble_eq_true rfl⟩ dX4_mixSite_100 ?_
        show lc_V _ _ _ _ _ 103 _ [.int (sp_alk sp_alike x.1 (nI s) (nI o)), .long (z)] (lc_w σ 0 x)
        refine lc_topi (lc_bi (sp_alike x.1 s o)) (sp_alk_in hn hs hsn ho) ?_
        refine lc_callS (c_X4_mix l G (lc_w σ 0 x) z (lc_bi (sp_alike x.1 s o))) hR.2.2.2.1 hR.2.2.2.2 mt_X4_mix ml_X4_178 rfl rfl (Nat.le_of_ble_eq_true rfl) ⟨⟨rfl, rfl⟩, Nat.le_of_ble_eq_true rfl, Nat.le_of_ble_eq_true rfl⟩ dX4_mixSite_103 ?_
        show lc_V _ _ _ _ _ 106 _ [.long (sp_mx z (lc_bi (sp_alike x.1 s o)))] (lc_w σ 0 x)
        refine lc_lstore [(4, .long (sp_mx z (lc_bi (sp_alike x.1 s o)))), (0, .ref (G.1 (0))), (3, .int (nI s)), (6, .int (nI o))] dX4_mixSite_106 (by decide) rfl ?_
        refine lc_iinc 3 (nI (o + 1)) [(6, .int (nI (o + 1))), (4, .long (sp_mx z (lc_bi (sp_alike x.1 s o)))), (0, .ref (G.1 (0))), (3, .int (nI s))] dX4_mixSite_108 rfl (lc_inc1 o) (by decide) rfl ?_
        refine lc_goto 82 dX4_mixSite_111 (by decide) ?_
        refine lc_lv (lv' := [(0, .ref (G.1 (0))), (3, .int (nI s)), (4, .long (sp_mx z (lc_bi (sp_alike x.1 s o)))), (6, .int (nI (o + 1)))]) [2, 3, 1, 0] rfl ?_
        rw [show sp_mx z (lc_bi (sp_alike x.1 s o)) = sp_mx z (lc_bi (sp_alike x.1 s o)) from rfl] at ko
        exact ko
      · skip
        show lc_V G Γ cX4_mixSite 8 RX4 82 [(0, .ref (G.1 (0))), (3, .int (nI s)), (4, .long ((sp_msh sp_alike x.1 n s h))), (6, .int (nI n))] [] (lc_w σ 0 x)
        refine lc_iload 3 dX4_mixSite_82 rfl ?_
        refine lc_aload_n 0 dX4_mixSite_84 rfl ?_
        refine lc_g_world fl_X4_19 dX4_mixSite_85 ?_
        refine lc_gWSites 0 (by omega) fl_X4_53 dX4_mixSite_88 ?_
        refine lc_icmp_ge 114 dX4_mixSite_91 (by decide) (fun _ => ?_) (fun h => absurd h.1 (by rw [hs]; exact nI_nlt (a := n) (b := n) (Nat.le_refl _) (by omega)))
        refine lc_lload 2 dX4_mixSite_114 rfl ?_
        exact lc_lret hR dX4_mixSite_116 (rfl) (rfl)

set_option maxRecDepth 100000 in
set_option maxHeartbeats 4000000 in
theorem c_X4_digest (l : Launch) (G : lc_G) (σ : lc_S) (n p : Nat) (hn : n ≤ 6) (hs : σ.1 0 7 0 = nI n) (hp : σ.2.1 10 0 = nI p) (hp6 : p ≤ 6) : lc_M l G yX4_digest cX4_digest 5 (some .long) { frames := 6, cells := 0, slots := 0, locals := 143 } [.ref (G.1 (0))] (σ) (some (.long ((sp_digC σ n p).1))) ((sp_digC σ n p).2) := by
  refine lc_entry [(0, .ref (G.1 (0)))] (by decide) (Nat.le_of_ble_eq_true rfl) rfl rfl rfl ?_
  intro Γ hR
  refine lc_eq (σ' := lc_w σ 0 ((σ.1 0, 0, 0, 0))) ((lc_w_w σ 0).symm) ?_
  refine lc_ldc2 kc_X4_169 dX4_digest_0 ?_
  refine lc_lstore_n [(1, .long (1741)), (0, .ref (G.1 (0)))] dX4_digest_3 (by decide) rfl ?_
  refine lc_iconst (v := 0) dX4_digest_4 (by decide) ?_
  refine lc_istore_n [(3, .int (0)), (1, .long (1741)), (0, .ref (G.1 (0)))] dX4_digest_5 (by decide) rfl ?_
  refine lc_lv (lv' := [(0, .ref (G.1 (0))), (1, .long (1741)), (3, .int (0))]) [2, 1, 0] rfl ?_
  refine lc_forI (α := Int64) (fun i z => lc_V G Γ cX4_digest 5 RX4 6 [(0, .ref (G.1 (0))), (1, .long (z)), (3, .int (nI i))] [] (lc_w σ 0 ((σ.1 0, 0, 0, 0)))) (fun _ _ => True) (sp_msh sp_alike (σ.1 0) n) n (fun _ _ _ _ => trivial) (fun i z hi hIi ki => ?_) 1741 (trivial) (fun hIi => ?_)
  · skip
    show lc_V G Γ cX4_digest 5 RX4 6 [(0, .ref (G.1 (0))), (1, .long (z)), (3, .int (nI i))] [] (lc_w σ 0 ((σ.1 0, 0, 0, 0)))
    refine lc_iload_n 2 dX4_digest_6 rfl ?_
    refine lc_aload_n 0 dX4_digest_7 rfl ?_
    refine lc_g_world fl_X4_19 dX4_digest_8 ?_
    refine lc_gWSites 0 (by omega) fl_X4_53 dX4_digest_11 ?_
    refine lc_topi (σ.1 0 7 0) (rfl) ?_
    refine lc_icmp_ge 30 dX4_digest_14 (by decide) (fun h => absurd h.1 (by rw [hs]; exact nI_ge (b := n) hi (by omega))) (fun _ => ?_)
    refine lc_aload_n 0 dX4_digest_17 rfl ?_
    refine lc_lload_n 1 dX4_digest_18 rfl ?_
    refine lc_iload_n 2 dX4_digest_19 rfl ?_
    refine lc_callV (0) (c_X4_mixSite l G σ ((σ.1 0, 0, 0, 0)) n i hn hs (by omega) z) hR.2.2.2.1 hR.2.2.2.2 mt_X4_mixSite (by omega) (rfl) rfl ml_X4_171 rfl rfl (Nat.le_of_ble_eq_true rfl) ⟨⟨rfl, rfl⟩, Nat.le_of_ble_eq_true rfl, Nat.le_of_ble_eq_true rfl⟩ dX4_digest_20 ?_
    show lc_V _ _ _ _ _ 23 _ [.long (sp_msh sp_alike (σ.1 0) n i z)] (lc_w σ 0 ((σ.1 0, 0, 0, 0)))
    refine lc_lstore_n [(1, .long (sp_msh sp_alike (σ.1 0) n i z)), (0, .ref (G.1 (0))), (3, .int (nI i))] dX4_digest_23 (by decide) rfl ?_
    refine lc_iinc 2 (nI (i + 1)) [(3, .int (nI (i + 1))), (1, .long (sp_msh sp_alike (σ.1 0) n i z)), (0, .ref (G.1 (0)))] dX4_digest_24 rfl (lc_inc1 i) (by decide) rfl ?_
    refine lc_goto 6 dX4_digest_27 (by decide) ?_
    refine lc_lv (lv' := [(0, .ref (G.1 (0))), (1, .long (sp_msh sp_alike (σ.1 0) n i z)), (3, .int (nI (i + 1)))]) [2, 1, 0] rfl ?_
    rw [show (sp_msh sp_alike (σ.1 0) n) i z = sp_msh sp_alike (σ.1 0) n i z from rfl] at ki
    exact ki
  · skip
    show lc_V G Γ cX4_digest 5 RX4 6 [(0, .ref (G.1 (0))), (1, .long ((sp_it (sp_msh sp_alike (σ.1 0) n) n 1741))), (3, .int (nI n))] [] (lc_w σ 0 ((σ.1 0, 0, 0, 0)))
    refine lc_iload_n 2 dX4_digest_6 rfl ?_
    refine lc_aload_n 0 dX4_digest_7 rfl ?_
    refine lc_g_world fl_X4_19 dX4_digest_8 ?_
    refine lc_gWSites 0 (by omega) fl_X4_53 dX4_digest_11 ?_
    refine lc_topi (σ.1 0 7 0) (rfl) ?_
    refine lc_icmp_ge 30 dX4_digest_14 (by decide) (fun _ => ?_) (fun h => absurd h.1 (by rw [hs]; exact nI_nlt (a := n) (b := n) (Nat.le_refl _) (by omega)))
    refine lc_iconst (v := 0) dX4_digest_30 (by decide) ?_
    refine lc_istore_n [(3, .int (0)), (0, .ref (G.1 (0))), (1, .long ((sp_it (sp_msh sp_alike (σ.1 0) n) n 1741)))] dX4_digest_31 (by decide) rfl ?_
    refine lc_lv (lv' := [(0, .ref (G.1 (0))), (1, .long ((sp_it (sp_msh sp_alike (σ.1 0) n) n 1741))), (3, .int (0))]) [1, 2, 0] rfl ?_
    refine lc_forI (α := Int64) (fun k z => lc_V G Γ cX4_digest 5 RX4 32 [(0, .ref (G.1 (0))), (1, .long (z)), (3, .int (nI k))] [] (lc_w σ 0 ((σ.1 0, 0, 0, 0)))) (fun _ _ => True) (fun k h => sp_mx h (sp_rss (σ.1 0) (σ.2.1 3) k n)) 4 (fun _ _ _ _ => trivial) (fun k z hk hIk kk => ?_) ((sp_it (sp_msh sp_alike (σ.1 0) n) n 1741)) (trivial) (fun hIk => ?_)
    · skip
      show lc_V G Γ cX4_digest 5 RX4 32 [(0, .ref (G.1 (0))), (1, .long (z)), (3, .int (nI k))] [] (lc_w σ 0 ((σ.1 0, 0, 0, 0)))
      refine lc_iload_n 2 dX4_digest_32 rfl ?_
      refine lc_iconst (v := 4) dX4_digest_33 (by decide) ?_
      refine lc_icmp_ge 53 dX4_digest_34 (by decide) (fun h => absurd h.1 (by exact nI_ge (b := 4) hk (by omega))) (fun _ => ?_)
      refine lc_lload_n 1 dX4_digest_37 rfl ?_
      refine lc_aload_n 0 dX4_digest_38 rfl ?_
      refine lc_iload_n 2 dX4_digest_39 rfl ?_
      refine lc_callV (0) (c_X4_risen l G σ ((σ.1 0, 0, 0, 0)) n hn hs (nI k)) hR.2.2.2.1 hR.2.2.2.2 mt_X4_risen (by omega) (rfl) rfl ml_X4_175 rfl rfl (Nat.le_of_ble_eq_true rfl) ⟨⟨rfl, rfl⟩, Nat.le_of_ble_eq_true rfl, Nat.le_of_ble_eq_true rfl⟩ dX4_digest_40 ?_
      show lc_V _ _ _ _ _ 43 _ [.int (sp_risen (σ.1 0) (σ.2.1 3) n (nI k)), .long (z)] (lc_w σ 0 ((σ.1 0, 0, 0, 0)))
      refine lc_topi (sp_rss (σ.1 0) (σ.2.1 3) k n) (sp_risen_in hk) ?_
      refine lc_callS (c_X4_mix l G (lc_w σ 0 ((σ.1 0, 0, 0, 0))) z (sp_rss (σ.1 0) (σ.2.1 3) k n)) hR.2.2.2.1 hR.2.2.2.2 mt_X4_mix ml_X4_178 rfl rfl (Nat.le_of_ble_eq_true rfl) ⟨⟨rfl, rfl⟩, Nat.le_of_ble_eq_true rfl, Nat.le_of_ble_eq_true rfl⟩ dX4_digest_43 ?_
      show lc_V _ _ _ _ _ 46 _ [.long (sp_mx z (sp_rss (σ.1 0) (σ.2.1 3) k n))] (lc_w σ 0 ((σ.1 0, 0, 0, 0)))
      refine lc_lstore_n [(1, .long (sp_mx z (sp_rss (σ.1 0) (σ.2.1 3) k n))), (0, .ref (G.1 (0))), (3, .int (nI k))] dX4_digest_46 (by decide) rfl ?_
      refine lc_iinc 2 (nI (k + 1)) [(3, .int (nI (k + 1))), (1, .long (sp_mx z (sp_rss (σ.1 0) (σ.2.1 3) k n))), (0, .ref (G.1 (0)))] dX4_digest_47 rfl (lc_inc1 k) (by decide) rfl ?_
      refine lc_goto 32 dX4_digest_50 (by decide) ?_
      refine lc_lv (lv' := [(0, .ref (G.1 (0))), (1, .long (sp_mx z (sp_rss (σ.1 0) (σ.2.1 3) k n))), (3, .int (nI (k + 1)))]) [2, 1, 0] rfl ?_
      rw [show sp_mx z (sp_rss (σ.1 0) (σ.2.1 3) k n) = sp_mx z (sp_rss (σ.1 0) (σ.2.1 3) k n) from rfl] at kk
      exact kk
    · skip
      show lc_V G Γ cX4_digest 5 RX4 32 [(0, .ref (G.1 (0))), (1, .long ((sp_h2 sp_alike (σ.1 0) (σ.2.1 3) n))), (3, .int (nI 4))] [] (lc_w σ 0 ((σ.1 0, 0, 0, 0)))
      refine lc_iload_n 2 dX4_digest_32 rfl ?_
      refine lc_iconst (v := 4) dX4_digest_33 (by decide) ?_
      refine lc_icmp_ge 53 dX4_digest_34 (by decide) (fun _ => ?_) (fun h => absurd h.1 (by exact nI_nlt (a := 4) (b := 4) (Nat.le_refl _) (by omega)))
      refine lc_iconst (v := 0) dX4_digest_53 (by decide) ?_
      refine lc_istore_n [(3, .int (0)), (0, .ref (G.1 (0))), (1, .long ((sp_h2 sp_alike (σ.1 0) (σ.2.1 3) n)))] dX4_digest_54 (by decide) rfl ?_
      refine lc_iload_n 0 dX4_digest_55 rfl ?_
      refine lc_iconst (v := 2) dX4_digest_56 (by decide) ?_
      refine lc_icmp_ge 128 dX4_digest_57 (by decide) (fun h => absurd h (by decide)) (fun _ => ?_)
      by_cases h0 : n = 0
      · skip
        refine lc_aload_n 1 dX4_digest_60 rfl ?_
        refine lc_g_world fl_X4_19 dX4_digest_61 ?_
        refine lc_gWSites 0 (by omega) fl_X4_53 dX4_digest_64 ?_
        refine lc_topi (σ.1 0 7 0) (rfl) ?_
        refine lc_if_le 128 dX4_digest_67 (by decide) (fun _ => ?_) (fun h => absurd h.1 (by rw [hs, h0]; decide))
        refine lc_iconst (v := 0) dX4_digest_128 (by decide) ?_
        refine lc_istore_n [(3, .int (0)), (0, .ref (G.1 (0))), (1, .long ((sp_h2 sp_alike (σ.1 0) (σ.2.1 3) n)))] dX4_digest_129 (by decide) rfl ?_
        refine lc_lv (lv' := [(0, .ref (G.1 (0))), (1, .long ((sp_h2 sp_alike (σ.1 0) (σ.2.1 3) n))), (3, .int (0))]) [1, 2, 0] rfl ?_
        refine lc_forI (α := Int64) (fun i z => lc_V G Γ cX4_digest 5 RX4 130 [(0, .ref (G.1 (0))), (1, .long (z)), (3, .int (nI i))] [] (lc_w σ 0 ((σ.1 0, 0, 0, 0)))) (fun _ _ => True) (fun i h => sp_mx h (σ.2.1 9 i)) p (fun _ _ _ _ => trivial) (fun i z hi hIi ki => ?_) ((sp_h2 sp_alike (σ.1 0) (σ.2.1 3) n)) (trivial) (fun hIi => ?_)
        · skip
          show lc_V G Γ cX4_digest 5 RX4 130 [(0, .ref (G.1 (0))), (1, .long (z)), (3, .int (nI i))] [] (lc_w σ 0 ((σ.1 0, 0, 0, 0)))
          refine lc_iload_n 2 dX4_digest_130 rfl ?_
          refine lc_aload_n 0 dX4_digest_131 rfl ?_
          refine lc_g_page fl_X4_10 dX4_digest_132 ?_
          refine lc_gw_len 0 (by omega) fl_X4_30 dX4_digest_135 ?_
          refine lc_icmp_ge 161 dX4_digest_138 (by decide) (fun h => absurd h.1 (by exact (show ¬ (σ.2.1 10 0) ≤ nI i by rw [hp]; exact nI_ge (b := p) hi (by omega)))) (fun _ => ?_)
          refine lc_lload_n 1 dX4_digest_141 rfl ?_
          refine lc_aload_n 0 dX4_digest_142 rfl ?_
          refine lc_g_page fl_X4_10 dX4_digest_143 ?_
          refine lc_g_codes fl_X4_181 dX4_digest_146 ?_
          refine lc_iload_n 2 dX4_digest_149 rfl ?_
          refine lc_iald (2) i (by omega) (rfl) (rfl) (by omega) (by decide) dX4_digest_150 ?_
          refine lc_topi (σ.2.1 9 i) rfl ?_
          refine lc_callS (c_X4_mix l G (lc_w σ 0 ((σ.1 0, 0, 0, 0))) z (σ.2.1 9 i)) hR.2.2.2.1 hR.2.2.2.2 mt_X4_mix ml_X4_178 rfl rfl (Nat.le_of_ble_eq_true rfl) ⟨⟨rfl, rfl⟩, Nat.le_of_ble_eq_true rfl, Nat.le_of_ble_eq_true rfl⟩ dX4_digest_151 ?_
          show lc_V _ _ _ _ _ 154 _ [.long (sp_mx z (σ.2.1 9 i))] (lc_w σ 0 ((σ.1 0, 0, 0, 0)))
          refine lc_lstore_n [(1, .long (sp_mx z (σ.2.1 9 i))), (0, .ref (G.1 (0))), (3, .int (nI i))] dX4_digest_154 (by decide) rfl ?_
          refine lc_iinc 2 (nI (i + 1)) [(3, .int (nI (i + 1))), (1, .long (sp_mx z (σ.2.1 9 i))), (0, .ref (G.1 (0)))] dX4_digest_155 rfl (lc_inc1 i) (by decide) rfl ?_
          refine lc_goto 130 dX4_digest_158 (by decide) ?_
          refine lc_lv (lv' := [(0, .ref (G.1 (0))), (1, .long (sp_mx z (σ.2.1 9 i))), (3, .int (nI (i + 1)))]) [2, 1, 0] rfl ?_
          rw [show sp_mx z (σ.2.1 9 i) = sp_mx z (σ.2.1 9 i) from rfl] at ki
          exact ki
        · skip
          show lc_V G Γ cX4_digest 5 RX4 130 [(0, .ref (G.1 (0))), (1, .long ((sp_it (fun i h => sp_mx h (σ.2.1 9 i)) p ((sp_h2 sp_alike (σ.1 0) (σ.2.1 3) n))))), (3, .int (nI p))] [] (lc_w σ 0 ((σ.1 0, 0, 0, 0)))
          refine lc_iload_n 2 dX4_digest_130 rfl ?_
          refine lc_aload_n 0 dX4_digest_131 rfl ?_
          refine lc_g_page fl_X4_10 dX4_digest_132 ?_
          refine lc_gw_len 0 (by omega) fl_X4_30 dX4_digest_135 ?_
          refine lc_icmp_ge 161 dX4_digest_138 (by decide) (fun _ => ?_) (fun h => absurd h.1 (by exact (show ¬ nI p < (σ.2.1 10 0) by rw [hp]; exact nI_nlt (a := p) (b := p) (Nat.le_refl _) (by omega))))
          refine lc_iconst (v := 0) dX4_digest_161 (by decide) ?_
          refine lc_istore_n [(3, .int (0)), (0, .ref (G.1 (0))), (1, .long ((sp_it (fun i h => sp_mx h (σ.2.1 9 i)) p ((sp_h2 sp_alike (σ.1 0) (σ.2.1 3) n)))))] dX4_digest_162 (by decide) rfl ?_
          refine lc_lv (lv' := [(0, .ref (G.1 (0))), (1, .long ((sp_it (fun i h => sp_mx h (σ.2.1 9 i)) p ((sp_h2 sp_alike (σ.1 0) (σ.2.1 3) n))))), (3, .int (0))]) [1, 2, 0] rfl ?_
          refine lc_forI (α := Int64) (fun w z => lc_V G Γ cX4_digest 5 RX4 163 [(0, .ref (G.1 (0))), (1, .long (z)), (3, .int (nI w))] [] (lc_w σ 0 ((σ.1 0, 0, 0, 0)))) (fun _ _ => True) (fun w h => sp_mx h (sp_cntv σ ((σ.1 0, 0, 0, 0)) 0 10 w)) 12 (fun _ _ _ _ => trivial) (fun w z hw hIw kw => ?_) ((sp_it (fun i h => sp_mx h (σ.2.1 9 i)) p ((sp_h2 sp_alike (σ.1 0) (σ.2.1 3) n)))) (trivial) (fun hIw => ?_)
          · skip
            show lc_V G Γ cX4_digest 5 RX4 163 [(0, .ref (G.1 (0))), (1, .long (z)), (3, .int (nI w))] [] (lc_w σ 0 ((σ.1 0, 0, 0, 0)))
            refine lc_iload_n 2 dX4_digest_163 rfl ?_
            refine lc_bipush (v := 12) dX4_digest_164 (by decide) ?_
            refine lc_icmp_ge 185 dX4_digest_166 (by decide) (fun h => absurd h.1 (by exact nI_ge (b := 12) hw (by omega))) (fun _ => ?_)
            refine lc_lload_n 1 dX4_digest_169 rfl ?_
            refine lc_aload_n 0 dX4_digest_170 rfl ?_
            refine lc_iload_n 2 dX4_digest_171 rfl ?_
            refine lc_callV (0) (c_X4_count l G σ ((σ.1 0, 0, 0, 0)) n hn hs (nI w)) hR.2.2.2.1 hR.2.2.2.2 mt_X4_count (by omega) (rfl) rfl ml_X4_184 rfl rfl (Nat.le_of_ble_eq_true rfl) ⟨⟨rfl, rfl⟩, Nat.le_of_ble_eq_true rfl, Nat.le_of_ble_eq_true rfl⟩ dX4_digest_172 ?_
            show lc_V _ _ _ _ _ 175 _ [.int (sp_count σ ((σ.1 0, 0, 0, 0)) 0 10 (nI w)), .long (z)] (lc_w σ 0 ((σ.1 0, 0, 0, 0)))
            refine lc_topi (sp_cntv σ ((σ.1 0, 0, 0, 0)) 0 10 w) (sp_count_in hw) ?_
            refine lc_callS (c_X4_mix l G (lc_w σ 0 ((σ.1 0, 0, 0, 0))) z (sp_cntv σ ((σ.1 0, 0, 0, 0)) 0 10 w)) hR.2.2.2.1 hR.2.2.2.2 mt_X4_mix ml_X4_178 rfl rfl (Nat.le_of_ble_eq_true rfl) ⟨⟨rfl, rfl⟩, Nat.le_of_ble_eq_true rfl, Nat.le_of_ble_eq_true rfl⟩ dX4_digest_175 ?_
            show lc_V _ _ _ _ _ 178 _ [.long (sp_mx z (sp_cntv σ ((σ.1 0, 0, 0, 0)) 0 10 w))] (lc_w σ 0 ((σ.1 0, 0, 0, 0)))
            refine lc_lstore_n [(1, .long (sp_mx z (sp_cntv σ ((σ.1 0, 0, 0, 0)) 0 10 w))), (0, .ref (G.1 (0))), (3, .int (nI w))] dX4_digest_178 (by decide) rfl ?_
            refine lc_iinc 2 (nI (w + 1)) [(3, .int (nI (w + 1))), (1, .long (sp_mx z (sp_cntv σ ((σ.1 0, 0, 0, 0)) 0 10 w))), (0, .ref (G.1 (0)))] dX4_digest_179 rfl (lc_inc1 w) (by decide) rfl ?_
            refine lc_goto 163 dX4_digest_182 (by decide) ?_
            refine lc_lv (lv' := [(0, .ref (G.1 (0))), (1, .long (sp_mx z (sp_cntv σ ((σ.1 0, 0, 0, 0)) 0 10 w))), (3, .int (nI (w + 1)))]) [2, 1, 0] rfl ?_
            rw [show sp_mx z (sp_cntv σ ((σ.1 0, 0, 0, 0)) 0 10 w) = sp_mx z (sp_cntv σ ((σ.1 0, 0, 0, 0)) 0 10 w) from rfl] at kw
            exact kw
          · skip
            show lc_V G Γ cX4_digest 5 RX4 163 [(0, .ref (G.1 (0))), (1, .long ((sp_it (fun w h => sp_mx h (sp_cntv σ ((σ.1 0, 0, 0, 0)) 0 10 w)) 12 ((sp_it (fun i h => sp_mx h (σ.2.1 9 i)) p ((sp_h2 sp_alike (σ.1 0) (σ.2.1 3) n))))))), (3, .int (nI 12))] [] (lc_w σ 0 ((σ.1 0, 0, 0, 0)))
            refine lc_iload_n 2 dX4_digest_163 rfl ?_
            refine lc_bipush (v := 12) dX4_digest_164 (by decide) ?_
            refine lc_icmp_ge 185 dX4_digest_166 (by decide) (fun _ => ?_) (fun h => absurd h.1 (by exact nI_nlt (a := 12) (b := 12) (Nat.le_refl _) (by omega)))
            refine lc_eq (σ' := σ) (lc_w_w σ 0) ?_
            refine lc_lload_n 1 dX4_digest_185 rfl ?_
            exact lc_lret hR dX4_digest_186 (by rw [sp_digC, if_pos h0]; rfl) (by rw [sp_digC, if_pos h0])
      · skip
        refine lc_aload_n 1 dX4_digest_60 rfl ?_
        refine lc_g_world fl_X4_19 dX4_digest_61 ?_
        refine lc_gWSites 0 (by omega) fl_X4_53 dX4_digest_64 ?_
        refine lc_topi (σ.1 0 7 0) (rfl) ?_
        refine lc_if_le 128 dX4_digest_67 (by decide) (fun h => absurd h.1 (by rw [hs]; exact nI_nle (by omega) (by omega))) (fun _ => ?_)
        refine lc_eq (σ' := σ) (lc_w_w σ 0) ?_
        refine lc_aload_n 1 dX4_digest_70 rfl ?_
        refine lc_g_settling fl_X4_26 dX4_digest_71 ?_
        refine lc_aload_n 1 dX4_digest_74 rfl ?_
        refine lc_g_world fl_X4_19 dX4_digest_75 ?_
        refine lc_bipush (v := 7) dX4_digest_78 (by decide) ?_
        refine lc_iload_n 0 dX4_digest_80 rfl ?_
        refine lc_iconst (v := 1) dX4_digest_81 (by decide) ?_
        refine lc_icmp_ne 89 dX4_digest_82 (by decide) (fun _ => ?_) (fun h => absurd h (by decide))
        refine lc_iconst (v := 0) dX4_digest_89 (by decide) ?_
        refine lc_topi (lc_bi false) rfl ?_
        refine lc_callV (3) (c_X2_run l G σ n 7 false hn hs) hR.2.2.2.1 hR.2.2.2.2 mt_X2_run (by omega) (rfl) rfl ml_X4_153 rfl rfl (Nat.le_of_ble_eq_true rfl) ⟨⟨rfl, rfl⟩, Nat.le_of_ble_eq_true rfl, Nat.le_of_ble_eq_true rfl⟩ dX4_digest_90 ?_
        show lc_V _ _ _ _ _ 93 _ [] (lc_w ((lc_uo (lc_uo (sp_trial σ) 10 3 (sp_RUN σ n 7 false).2.1) 10 2 (sp_RUN σ n 7 false).1)) 1 ((sp_RUN σ n 7 false).2.2))
        refine lc_iconst (v := 0) dX4_digest_93 (by decide) ?_
        refine lc_istore [(4, .int (0)), (3, .int (0)), (0, .ref (G.1 (0))), (1, .long ((sp_h2 sp_alike (σ.1 0) (σ.2.1 3) n)))] dX4_digest_94 (by decide) rfl ?_
        refine lc_iload 0 dX4_digest_96 rfl ?_
        refine lc_iconst (v := 2) dX4_digest_98 (by decide) ?_
        refine lc_icmp_gt 122 dX4_digest_99 (by decide) (fun h => absurd h (by decide)) (fun _ => ?_)
        refine lc_lload_n 3 dX4_digest_102 rfl ?_
        refine lc_aload_n 2 dX4_digest_103 rfl ?_
        refine lc_g_settling fl_X4_26 dX4_digest_104 ?_
        refine lc_iload 0 dX4_digest_107 rfl ?_
        refine lc_callV (3) (c_X2_outcome l G ((lc_uo (lc_uo (sp_trial σ) 10 3 (sp_RUN σ n 7 false).2.1) 10 2 (sp_RUN σ n 7 false).1)) ((sp_RUN σ n 7 false).2.2) 0) hR.2.2.2.1 hR.2.2.2.2 mt_X2_outcome (by omega) (rfl) rfl ml_X4_157 rfl rfl (Nat.le_of_ble_eq_true rfl) ⟨⟨rfl, rfl⟩, Nat.le_of_ble_eq_true rfl, Nat.le_of_ble_eq_true rfl⟩ dX4_digest_109 ?_
        show lc_V _ _ _ _ _ 112 _ [.int (if 0 = 0 then ((lc_uo (lc_uo (sp_trial σ) 10 3 (sp_RUN σ n 7 false).2.1) 10 2 (sp_RUN σ n 7 false).1)).2.1 10 2 else if 0 = 1 then ((lc_uo (lc_uo (sp_trial σ) 10 3 (sp_RUN σ n 7 false).2.1) 10 2 (sp_RUN σ n 7 false).1)).2.1 1 0 + ((sp_RUN σ n 7 false).2.2).2.1 else ((lc_uo (lc_uo (sp_trial σ) 10 3 (sp_RUN σ n 7 false).2.1) 10 2 (sp_RUN σ n 7 false).1)).2.1 10 3), .long ((sp_h2 sp_alike (σ.1 0) (σ.2.1 3) n))] (lc_w ((lc_uo (lc_uo (sp_trial σ) 10 3 (sp_RUN σ n 7 false).2.1) 10 2 (sp_RUN σ n 7 false).1)) 1 ((sp_RUN σ n 7 false).2.2))
        refine lc_topi ((sp_RUN σ n 7 false).1) (rfl) ?_
        refine lc_callS (c_X4_mix l G (lc_w ((lc_uo (lc_uo (sp_trial σ) 10 3 (sp_RUN σ n 7 false).2.1) 10 2 (sp_RUN σ n 7 false).1)) 1 ((sp_RUN σ n 7 false).2.2)) ((sp_h2 sp_alike (σ.1 0) (σ.2.1 3) n)) ((sp_RUN σ n 7 false).1)) hR.2.2.2.1 hR.2.2.2.2 mt_X4_mix ml_X4_178 rfl rfl (Nat.le_of_ble_eq_true rfl) ⟨⟨rfl, rfl⟩, Nat.le_of_ble_eq_true rfl, Nat.le_of_ble_eq_true rfl⟩ dX4_digest_112 ?_
        show lc_V _ _ _ _ _ 115 _ [.long (sp_mx ((sp_h2 sp_alike (σ.1 0) (σ.2.1 3) n)) ((sp_RUN σ n 7 false).1))] (lc_w ((lc_uo (lc_uo (sp_trial σ) 10 3 (sp_RUN σ n 7 false).2.1) 10 2 (sp_RUN σ n 7 false).1)) 1 ((sp_RUN σ n 7 false).2.2))
        refine lc_lstore_n [(1, .long (sp_mx ((sp_h2 sp_alike (σ.1 0) (σ.2.1 3) n)) ((sp_RUN σ n 7 false).1))), (4, .int (0)), (3, .int (0)), (0, .ref (G.1 (0)))] dX4_digest_115 (by decide) rfl ?_
        refine lc_iinc 1 (1) [(4, .int (1)), (1, .long (sp_mx ((sp_h2 sp_alike (σ.1 0) (σ.2.1 3) n)) ((sp_RUN σ n 7 false).1))), (3, .int (0)), (0, .ref (G.1 (0)))] dX4_digest_116 rfl (by decide) (by decide) rfl ?_
        refine lc_goto 96 dX4_digest_119 (by decide) ?_
        refine lc_iload 0 dX4_digest_96 rfl ?_
        refine lc_iconst (v := 2) dX4_digest_98 (by decide) ?_
        refine lc_icmp_gt 122 dX4_digest_99 (by decide) (fun h => absurd h (by decide)) (fun _ => ?_)
        refine lc_lload_n 1 dX4_digest_102 rfl ?_
        refine lc_aload_n 3 dX4_digest_103 rfl ?_
        refine lc_g_settling fl_X4_26 dX4_digest_104 ?_
        refine lc_iload 0 dX4_digest_107 rfl ?_
        refine lc_callV (3) (c_X2_outcome l G ((lc_uo (lc_uo (sp_trial σ) 10 3 (sp_RUN σ n 7 false).2.1) 10 2 (sp_RUN σ n 7 false).1)) ((sp_RUN σ n 7 false).2.2) 1) hR.2.2.2.1 hR.2.2.2.2 mt_X2_outcome (by omega) (rfl) rfl ml_X4_157 rfl rfl (Nat.le_of_ble_eq_true rfl) ⟨⟨rfl, rfl⟩, Nat.le_of_ble_eq_true rfl, Nat.le_of_ble_eq_true rfl⟩ dX4_digest_109 ?_
        show lc_V _ _ _ _ _ 112 _ [.int (if 1 = 0 then ((lc_uo (lc_uo (sp_trial σ) 10 3 (sp_RUN σ n 7 false).2.1) 10 2 (sp_RUN σ n 7 false).1)).2.1 10 2 else if 1 = 1 then ((lc_uo (lc_uo (sp_trial σ) 10 3 (sp_RUN σ n 7 false).2.1) 10 2 (sp_RUN σ n 7 false).1)).2.1 1 0 + ((sp_RUN σ n 7 false).2.2).2.1 else ((lc_uo (lc_uo (sp_trial σ) 10 3 (sp_RUN σ n 7 false).2.1) 10 2 (sp_RUN σ n 7 false).1)).2.1 10 3), .long (sp_mx ((sp_h2 sp_alike (σ.1 0) (σ.2.1 3) n)) ((sp_RUN σ n 7 false).1))] (lc_w ((lc_uo (lc_uo (sp_trial σ) 10 3 (sp_RUN σ n 7 false).2.1) 10 2 (sp_RUN σ n 7 false).1)) 1 ((sp_RUN σ n 7 false).2.2))
        refine lc_topi ((sp_RUN σ n 7 false).2.2.2.1) (by show 0 + (sp_RUN σ n 7 false).2.2.2.1 = _; rw [Int32.zero_add]) ?_
        refine lc_callS (c_X4_mix l G (lc_w ((lc_uo (lc_uo (sp_trial σ) 10 3 (sp_RUN σ n 7 false).2.1) 10 2 (sp_RUN σ n 7 false).1)) 1 ((sp_RUN σ n 7 false).2.2)) (sp_mx ((sp_h2 sp_alike (σ.1 0) (σ.2.1 3) n)) ((sp_RUN σ n 7 false).1)) ((sp_RUN σ n 7 false).2.2.2.1)) hR.2.2.2.1 hR.2.2.2.2 mt_X4_mix ml_X4_178 rfl rfl (Nat.le_of_ble_eq_true rfl) ⟨⟨rfl, rfl⟩, Nat.le_of_ble_eq_true rfl, Nat.le_of_ble_eq_true rfl⟩ dX4_digest_112 ?_
        show lc_V _ _ _ _ _ 115 _ [.long (sp_mx (sp_mx ((sp_h2 sp_alike (σ.1 0) (σ.2.1 3) n)) ((sp_RUN σ n 7 false).1)) ((sp_RUN σ n 7 false).2.2.2.1))] (lc_w ((lc_uo (lc_uo (sp_trial σ) 10 3 (sp_RUN σ n 7 false).2.1) 10 2 (sp_RUN σ n 7 false).1)) 1 ((sp_RUN σ n 7 false).2.2))
        refine lc_lstore_n [(1, .long (sp_mx (sp_mx ((sp_h2 sp_alike (σ.1 0) (σ.2.1 3) n)) ((sp_RUN σ n 7 false).1)) ((sp_RUN σ n 7 false).2.2.2.1))), (4, .int (1)), (3, .int (0)), (0, .ref (G.1 (0)))] dX4_digest_115 (by decide) rfl ?_
        refine lc_iinc 1 (2) [(4, .int (2)), (1, .long (sp_mx (sp_mx ((sp_h2 sp_alike (σ.1 0) (σ.2.1 3) n)) ((sp_RUN σ n 7 false).1)) ((sp_RUN σ n 7 false).2.2.2.1))), (3, .int (0)), (0, .ref (G.1 (0)))] dX4_digest_116 rfl (by decide) (by decide) rfl ?_
        refine lc_goto 96 dX4_digest_119 (by decide) ?_
        refine lc_iload 0 dX4_digest_96 rfl ?_
        refine lc_iconst (v := 2) dX4_digest_98 (by decide) ?_
        refine lc_icmp_gt 122 dX4_digest_99 (by decide) (fun h => absurd h (by decide)) (fun _ => ?_)
        refine lc_lload_n 1 dX4_digest_102 rfl ?_
        refine lc_aload_n 3 dX4_digest_103 rfl ?_
        refine lc_g_settling fl_X4_26 dX4_digest_104 ?_
        refine lc_iload 0 dX4_digest_107 rfl ?_
        refine lc_callV (3) (c_X2_outcome l G ((lc_uo (lc_uo (sp_trial σ) 10 3 (sp_RUN σ n 7 false).2.1) 10 2 (sp_RUN σ n 7 false).1)) ((sp_RUN σ n 7 false).2.2) 2) hR.2.2.2.1 hR.2.2.2.2 mt_X2_outcome (by omega) (rfl) rfl ml_X4_157 rfl rfl (Nat.le_of_ble_eq_true rfl) ⟨⟨rfl, rfl⟩, Nat.le_of_ble_eq_true rfl, Nat.le_of_ble_eq_true rfl⟩ dX4_digest_109 ?_
        show lc_V _ _ _ _ _ 112 _ [.int (if 2 = 0 then ((lc_uo (lc_uo (sp_trial σ) 10 3 (sp_RUN σ n 7 false).2.1) 10 2 (sp_RUN σ n 7 false).1)).2.1 10 2 else if 2 = 1 then ((lc_uo (lc_uo (sp_trial σ) 10 3 (sp_RUN σ n 7 false).2.1) 10 2 (sp_RUN σ n 7 false).1)).2.1 1 0 + ((sp_RUN σ n 7 false).2.2).2.1 else ((lc_uo (lc_uo (sp_trial σ) 10 3 (sp_RUN σ n 7 false).2.1) 10 2 (sp_RUN σ n 7 false).1)).2.1 10 3), .long (sp_mx (sp_mx ((sp_h2 sp_alike (σ.1 0) (σ.2.1 3) n)) ((sp_RUN σ n 7 false).1)) ((sp_RUN σ n 7 false).2.2.2.1))] (lc_w ((lc_uo (lc_uo (sp_trial σ) 10 3 (sp_RUN σ n 7 false).2.1) 10 2 (sp_RUN σ n 7 false).1)) 1 ((sp_RUN σ n 7 false).2.2))
        refine lc_topi ((sp_RUN σ n 7 false).2.1) (rfl) ?_
        refine lc_callS (c_X4_mix l G (lc_w ((lc_uo (lc_uo (sp_trial σ) 10 3 (sp_RUN σ n 7 false).2.1) 10 2 (sp_RUN σ n 7 false).1)) 1 ((sp_RUN σ n 7 false).2.2)) (sp_mx (sp_mx ((sp_h2 sp_alike (σ.1 0) (σ.2.1 3) n)) ((sp_RUN σ n 7 false).1)) ((sp_RUN σ n 7 false).2.2.2.1)) ((sp_RUN σ n 7 false).2.1)) hR.2.2.2.1 hR.2.2.2.2 mt_X4_mix ml_X4_178 rfl rfl (Nat.le_of_ble_eq_true rfl) ⟨⟨rfl, rfl⟩, Nat.le_of_ble_eq_true rfl, Nat.le_of_ble_eq_true rfl⟩ dX4_digest_112 ?_
        show lc_V _ _ _ _ _ 115 _ [.long (sp_mx (sp_mx (sp_mx ((sp_h2 sp_alike (σ.1 0) (σ.2.1 3) n)) ((sp_RUN σ n 7 false).1)) ((sp_RUN σ n 7 false).2.2.2.1)) ((sp_RUN σ n 7 false).2.1))] (lc_w ((lc_uo (lc_uo (sp_trial σ) 10 3 (sp_RUN σ n 7 false).2.1) 10 2 (sp_RUN σ n 7 false).1)) 1 ((sp_RUN σ n 7 false).2.2))
        refine lc_lstore_n [(1, .long (sp_mx (sp_mx (sp_mx ((sp_h2 sp_alike (σ.1 0) (σ.2.1 3) n)) ((sp_RUN σ n 7 false).1)) ((sp_RUN σ n 7 false).2.2.2.1)) ((sp_RUN σ n 7 false).2.1))), (4, .int (2)), (3, .int (0)), (0, .ref (G.1 (0)))] dX4_digest_115 (by decide) rfl ?_
        refine lc_iinc 1 (3) [(4, .int (3)), (1, .long (sp_mx (sp_mx (sp_mx ((sp_h2 sp_alike (σ.1 0) (σ.2.1 3) n)) ((sp_RUN σ n 7 false).1)) ((sp_RUN σ n 7 false).2.2.2.1)) ((sp_RUN σ n 7 false).2.1))), (3, .int (0)), (0, .ref (G.1 (0)))] dX4_digest_116 rfl (by decide) (by decide) rfl ?_
        refine lc_goto 96 dX4_digest_119 (by decide) ?_
        refine lc_iload 0 dX4_digest_96 rfl ?_
        refine lc_iconst (v := 2) dX4_digest_98 (by decide) ?_
        refine lc_icmp_gt 122 dX4_digest_99 (by decide) (fun _ => ?_) (fun h => absurd h (by decide))
        refine lc_eq (σ' := lc_w (sp_stl σ n 7 false) 0 ((sp_stl σ n 7 false).1 0, 0, 0, 0)) ((lc_w_w (sp_stl σ n 7 false) 0).symm) ?_
        refine lc_iinc 2 (1) [(3, .int (1)), (4, .int (3)), (1, .long (sp_mx (sp_mx (sp_mx ((sp_h2 sp_alike (σ.1 0) (σ.2.1 3) n)) ((sp_RUN σ n 7 false).1)) ((sp_RUN σ n 7 false).2.2.2.1)) ((sp_RUN σ n 7 false).2.1))), (0, .ref (G.1 (0)))] dX4_digest_122 rfl (by decide) (by decide) rfl ?_
        refine lc_goto 55 dX4_digest_125 (by decide) ?_
        refine lc_iload_n 0 dX4_digest_55 rfl ?_
        refine lc_iconst (v := 2) dX4_digest_56 (by decide) ?_
        refine lc_icmp_ge 128 dX4_digest_57 (by decide) (fun h => absurd h (by decide)) (fun _ => ?_)
        refine lc_aload_n 3 dX4_digest_60 rfl ?_
        refine lc_g_world fl_X4_19 dX4_digest_61 ?_
        refine lc_gWSites 0 (by omega) fl_X4_53 dX4_digest_64 ?_
        refine lc_topi (σ.1 0 7 0) (rfl) ?_
        refine lc_if_le 128 dX4_digest_67 (by decide) (fun h => absurd h.1 (by rw [hs]; exact nI_nle (by omega) (by omega))) (fun _ => ?_)
        refine lc_eq (σ' := (sp_stl σ n 7 false)) (lc_w_w (sp_stl σ n 7 false) 0) ?_
        refine lc_aload_n 3 dX4_digest_70 rfl ?_
        refine lc_g_settling fl_X4_26 dX4_digest_71 ?_
        refine lc_aload_n 3 dX4_digest_74 rfl ?_
        refine lc_g_world fl_X4_19 dX4_digest_75 ?_
        refine lc_bipush (v := 7) dX4_digest_78 (by decide) ?_
        refine lc_iload_n 0 dX4_digest_80 rfl ?_
        refine lc_iconst (v := 1) dX4_digest_81 (by decide) ?_
        refine lc_icmp_ne 89 dX4_digest_82 (by decide) (fun h => absurd h (by decide)) (fun _ => ?_)
        refine lc_iconst (v := 1) dX4_digest_85 (by decide) ?_
        refine lc_goto 90 dX4_digest_86 (by decide) ?_
        refine lc_topi (lc_bi true) rfl ?_
        refine lc_callV (3) (c_X2_run l G ((sp_stl σ n 7 false)) n 7 true hn hs) hR.2.2.2.1 hR.2.2.2.2 mt_X2_run (by omega) (rfl) rfl ml_X4_153 rfl rfl (Nat.le_of_ble_eq_true rfl) ⟨⟨rfl, rfl⟩, Nat.le_of_ble_eq_true rfl, Nat.le_of_ble_eq_true rfl⟩ dX4_digest_90 ?_
        show lc_V _ _ _ _ _ 93 _ [] (lc_w ((lc_uo (lc_uo (sp_trial ((sp_stl σ n 7 false))) 10 3 (sp_RUN ((sp_stl σ n 7 false)) n 7 true).2.1) 10 2 (sp_RUN ((sp_stl σ n 7 false)) n 7 true).1)) 1 ((sp_RUN ((sp_stl σ n 7 false)) n 7 true).2.2))
        refine lc_iconst (v := 0) dX4_digest_93 (by decide) ?_
        refine lc_istore [(4, .int (0)), (3, .int (1)), (1, .long (sp_mx (sp_mx (sp_mx ((sp_h2 sp_alike (σ.1 0) (σ.2.1 3) n)) ((sp_RUN σ n 7 false).1)) ((sp_RUN σ n 7 false).2.2.2.1)) ((sp_RUN σ n 7 false).2.1))), (0, .ref (G.1 (0)))] dX4_digest_94 (by decide) rfl ?_
        refine lc_iload 0 dX4_digest_96 rfl ?_
        refine lc_iconst (v := 2) dX4_digest_98 (by decide) ?_
        refine lc_icmp_gt 122 dX4_digest_99 (by decide) (fun h => absurd h (by decide)) (fun _ => ?_)
        refine lc_lload_n 2 dX4_digest_102 rfl ?_
        refine lc_aload_n 3 dX4_digest_103 rfl ?_
        refine lc_g_settling fl_X4_26 dX4_digest_104 ?_
        refine lc_iload 0 dX4_digest_107 rfl ?_
        refine lc_callV (3) (c_X2_outcome l G ((lc_uo (lc_uo (sp_trial ((sp_stl σ n 7 false))) 10 3 (sp_RUN ((sp_stl σ n 7 false)) n 7 true).2.1) 10 2 (sp_RUN ((sp_stl σ n 7 false)) n 7 true).1)) ((sp_RUN ((sp_stl σ n 7 false)) n 7 true).2.2) 0) hR.2.2.2.1 hR.2.2.2.2 mt_X2_outcome (by omega) (rfl) rfl ml_X4_157 rfl rfl (Nat.le_of_ble_eq_true rfl) ⟨⟨rfl, rfl⟩, Nat.le_of_ble_eq_true rfl, Nat.le_of_ble_eq_true rfl⟩ dX4_digest_109 ?_
        show lc_V _ _ _ _ _ 112 _ [.int (if 0 = 0 then ((lc_uo (lc_uo (sp_trial ((sp_stl σ n 7 false))) 10 3 (sp_RUN ((sp_stl σ n 7 false)) n 7 true).2.1) 10 2 (sp_RUN ((sp_stl σ n 7 false)) n 7 true).1)).2.1 10 2 else if 0 = 1 then ((lc_uo (lc_uo (sp_trial ((sp_stl σ n 7 false))) 10 3 (sp_RUN ((sp_stl σ n 7 false)) n 7 true).2.1) 10 2 (sp_RUN ((sp_stl σ n 7 false)) n 7 true).1)).2.1 1 0 + ((sp_RUN ((sp_stl σ n 7 false)) n 7 true).2.2).2.1 else ((lc_uo (lc_uo (sp_trial ((sp_stl σ n 7 false))) 10 3 (sp_RUN ((sp_stl σ n 7 false)) n 7 true).2.1) 10 2 (sp_RUN ((sp_stl σ n 7 false)) n 7 true).1)).2.1 10 3), .long (sp_mx (sp_mx (sp_mx ((sp_h2 sp_alike (σ.1 0) (σ.2.1 3) n)) ((sp_RUN σ n 7 false).1)) ((sp_RUN σ n 7 false).2.2.2.1)) ((sp_RUN σ n 7 false).2.1))] (lc_w ((lc_uo (lc_uo (sp_trial ((sp_stl σ n 7 false))) 10 3 (sp_RUN ((sp_stl σ n 7 false)) n 7 true).2.1) 10 2 (sp_RUN ((sp_stl σ n 7 false)) n 7 true).1)) 1 ((sp_RUN ((sp_stl σ n 7 false)) n 7 true).2.2))
        refine lc_topi ((sp_RUN σ n 7 true).1) (rfl) ?_
        refine lc_callS (c_X4_mix l G (lc_w ((lc_uo (lc_uo (sp_trial ((sp_stl σ n 7 false))) 10 3 (sp_RUN ((sp_stl σ n 7 false)) n 7 true).2.1) 10 2 (sp_RUN ((sp_stl σ n 7 false)) n 7 true).1)) 1 ((sp_RUN ((sp_stl σ n 7 false)) n 7 true).2.2)) (sp_mx (sp_mx (sp_mx ((sp_h2 sp_alike (σ.1 0) (σ.2.1 3) n)) ((sp_RUN σ n 7 false).1)) ((sp_RUN σ n 7 false).2.2.2.1)) ((sp_RUN σ n 7 false).2.1)) ((sp_RUN σ n 7 true).1)) hR.2.2.2.1 hR.2.2.2.2 mt_X4_mix ml_X4_178 rfl rfl (Nat.le_of_ble_eq_true rfl) ⟨⟨rfl, rfl⟩, Nat.le_of_ble_eq_true rfl, Nat.le_of_ble_eq_true rfl⟩ dX4_digest_112 ?_
        show lc_V _ _ _ _ _ 115 _ [.long (sp_mx (sp_mx (sp_mx (sp_mx ((sp_h2 sp_alike (σ.1 0) (σ.2.1 3) n)) ((sp_RUN σ n 7 false).1)) ((sp_RUN σ n 7 false).2.2.2.1)) ((sp_RUN σ n 7 false).2.1)) ((sp_RUN σ n 7 true).1))] (lc_w ((lc_uo (lc_uo (sp_trial ((sp_stl σ n 7 false))) 10 3 (sp_RUN ((sp_stl σ n 7 false)) n 7 true).2.1) 10 2 (sp_RUN ((sp_stl σ n 7 false)) n 7 true).1)) 1 ((sp_RUN ((sp_stl σ n 7 false)) n 7 true).2.2))
        refine lc_lstore_n [(1, .long (sp_mx (sp_mx (sp_mx (sp_mx ((sp_h2 sp_alike (σ.1 0) (σ.2.1 3) n)) ((sp_RUN σ n 7 false).1)) ((sp_RUN σ n 7 false).2.2.2.1)) ((sp_RUN σ n 7 false).2.1)) ((sp_RUN σ n 7 true).1))), (4, .int (0)), (3, .int (1)), (0, .ref (G.1 (0)))] dX4_digest_115 (by decide) rfl ?_
        refine lc_iinc 1 (1) [(4, .int (1)), (1, .long (sp_mx (sp_mx (sp_mx (sp_mx ((sp_h2 sp_alike (σ.1 0) (σ.2.1 3) n)) ((sp_RUN σ n 7 false).1)) ((sp_RUN σ n 7 false).2.2.2.1)) ((sp_RUN σ n 7 false).2.1)) ((sp_RUN σ n 7 true).1))), (3, .int (1)), (0, .ref (G.1 (0)))] dX4_digest_116 rfl (by decide) (by decide) rfl ?_
        refine lc_goto 96 dX4_digest_119 (by decide) ?_
        refine lc_iload 0 dX4_digest_96 rfl ?_
        refine lc_iconst (v := 2) dX4_digest_98 (by decide) ?_
        refine lc_icmp_gt 122 dX4_digest_99 (by decide) (fun h => absurd h (by decide)) (fun _ => ?_)
        refine lc_lload_n 1 dX4_digest_102 rfl ?_
        refine lc_aload_n 3 dX4_digest_103 rfl ?_
        refine lc_g_settling fl_X4_26 dX4_digest_104 ?_
        refine lc_iload 0 dX4_digest_107 rfl ?_
        refine lc_callV (3) (c_X2_outcome l G ((lc_uo (lc_uo (sp_trial ((sp_stl σ n 7 false))) 10 3 (sp_RUN ((sp_stl σ n 7 false)) n 7 true).2.1) 10 2 (sp_RUN ((sp_stl σ n 7 false)) n 7 true).1)) ((sp_RUN ((sp_stl σ n 7 false)) n 7 true).2.2) 1) hR.2.2.2.1 hR.2.2.2.2 mt_X2_outcome (by omega) (rfl) rfl ml_X4_157 rfl rfl (Nat.le_of_ble_eq_true rfl) ⟨⟨rfl, rfl⟩, Nat.le_of_ble_eq_true rfl, Nat.le_of_ble_eq_true rfl⟩ dX4_digest_109 ?_
        show lc_V _ _ _ _ _ 112 _ [.int (if 1 = 0 then ((lc_uo (lc_uo (sp_trial ((sp_stl σ n 7 false))) 10 3 (sp_RUN ((sp_stl σ n 7 false)) n 7 true).2.1) 10 2 (sp_RUN ((sp_stl σ n 7 false)) n 7 true).1)).2.1 10 2 else if 1 = 1 then ((lc_uo (lc_uo (sp_trial ((sp_stl σ n 7 false))) 10 3 (sp_RUN ((sp_stl σ n 7 false)) n 7 true).2.1) 10 2 (sp_RUN ((sp_stl σ n 7 false)) n 7 true).1)).2.1 1 0 + ((sp_RUN ((sp_stl σ n 7 false)) n 7 true).2.2).2.1 else ((lc_uo (lc_uo (sp_trial ((sp_stl σ n 7 false))) 10 3 (sp_RUN ((sp_stl σ n 7 false)) n 7 true).2.1) 10 2 (sp_RUN ((sp_stl σ n 7 false)) n 7 true).1)).2.1 10 3), .long (sp_mx (sp_mx (sp_mx (sp_mx ((sp_h2 sp_alike (σ.1 0) (σ.2.1 3) n)) ((sp_RUN σ n 7 false).1)) ((sp_RUN σ n 7 false).2.2.2.1)) ((sp_RUN σ n 7 false).2.1)) ((sp_RUN σ n 7 true).1))] (lc_w ((lc_uo (lc_uo (sp_trial ((sp_stl σ n 7 false))) 10 3 (sp_RUN ((sp_stl σ n 7 false)) n 7 true).2.1) 10 2 (sp_RUN ((sp_stl σ n 7 false)) n 7 true).1)) 1 ((sp_RUN ((sp_stl σ n 7 false)) n 7 true).2.2))
        refine lc_topi ((sp_RUN σ n 7 true).2.2.2.1) (by show 0 + (sp_RUN σ n 7 true).2.2.2.1 = _; rw [Int32.zero_add]) ?_
        refine lc_callS (c_X4_mix l G (lc_w ((lc_uo (lc_uo (sp_trial ((sp_stl σ n 7 false))) 10 3 (sp_RUN ((sp_stl σ n 7 false)) n 7 true).2.1) 10 2 (sp_RUN ((sp_stl σ n 7 false)) n 7 true).1)) 1 ((sp_RUN ((sp_stl σ n 7 false)) n 7 true).2.2)) (sp_mx (sp_mx (sp_mx (sp_mx ((sp_h2 sp_alike (σ.1 0) (σ.2.1 3) n)) ((sp_RUN σ n 7 false).1)) ((sp_RUN σ n 7 false).2.2.2.1)) ((sp_RUN σ n 7 false).2.1)) ((sp_RUN σ n 7 true).1)) ((sp_RUN σ n 7 true).2.2.2.1)) hR.2.2.2.1 hR.2.2.2.2 mt_X4_mix ml_X4_178 rfl rfl (Nat.le_of_ble_eq_true rfl) ⟨⟨rfl, rfl⟩, Nat.le_of_ble_eq_true rfl, Nat.le_of_ble_eq_true rfl⟩ dX4_digest_112 ?_
        show lc_V _ _ _ _ _ 115 _ [.long (sp_mx (sp_mx (sp_mx (sp_mx (sp_mx ((sp_h2 sp_alike (σ.1 0) (σ.2.1 3) n)) ((sp_RUN σ n 7 false).1)) ((sp_RUN σ n 7 false).2.2.2.1)) ((sp_RUN σ n 7 false).2.1)) ((sp_RUN σ n 7 true).1)) ((sp_RUN σ n 7 true).2.2.2.1))] (lc_w ((lc_uo (lc_uo (sp_trial ((sp_stl σ n 7 false))) 10 3 (sp_RUN ((sp_stl σ n 7 false)) n 7 true).2.1) 10 2 (sp_RUN ((sp_stl σ n 7 false)) n 7 true).1)) 1 ((sp_RUN ((sp_stl σ n 7 false)) n 7 true).2.2))
        refine lc_lstore_n [(1, .long (sp_mx (sp_mx (sp_mx (sp_mx (sp_mx ((sp_h2 sp_alike (σ.1 0) (σ.2.1 3) n)) ((sp_RUN σ n 7 false).1)) ((sp_RUN σ n 7 false).2.2.2.1)) ((sp_RUN σ n 7 false).2.1)) ((sp_RUN σ n 7 true).1)) ((sp_RUN σ n 7 true).2.2.2.1))), (4, .int (1)), (3, .int (1)), (0, .ref (G.1 (0)))] dX4_digest_115 (by decide) rfl ?_
        refine lc_iinc 1 (2) [(4, .int (2)), (1, .long (sp_mx (sp_mx (sp_mx (sp_mx (sp_mx ((sp_h2 sp_alike (σ.1 0) (σ.2.1 3) n)) ((sp_RUN σ n 7 false).1)) ((sp_RUN σ n 7 false).2.2.2.1)) ((sp_RUN σ n 7 false).2.1)) ((sp_RUN σ n 7 true).1)) ((sp_RUN σ n 7 true).2.2.2.1))), (3, .int (1)), (0, .ref (G.1 (0)))] dX4_digest_116 rfl (by decide) (by decide) rfl ?_
        refine lc_goto 96 dX4_digest_119 (by decide) ?_
        refine lc_iload 0 dX4_digest_96 rfl ?_
        refine lc_iconst (v := 2) dX4_digest_98 (by decide) ?_
        refine lc_icmp_gt 122 dX4_digest_99 (by decide) (fun h => absurd h (by decide)) (fun _ => ?_)
        refine lc_lload_n 1 dX4_digest_102 rfl ?_
        refine lc_aload_n 3 dX4_digest_103 rfl ?_
        refine lc_g_settling fl_X4_26 dX4_digest_104 ?_
        refine lc_iload 0 dX4_digest_107 rfl ?_
        refine lc_callV (3) (c_X2_outcome l G ((lc_uo (lc_uo (sp_trial ((sp_stl σ n 7 false))) 10 3 (sp_RUN ((sp_stl σ n 7 false)) n 7 true).2.1) 10 2 (sp_RUN ((sp_stl σ n 7 false)) n 7 true).1)) ((sp_RUN ((sp_stl σ n 7 false)) n 7 true).2.2) 2) hR.2.2.2.1 hR.2.2.2.2 mt_X2_outcome (by omega) (rfl) rfl ml_X4_157 rfl rfl (Nat.le_of_ble_eq_true rfl) ⟨⟨rfl, rfl⟩, Nat.le_of_ble_eq_true rfl, Nat.le_of_ble_eq_true rfl⟩ dX4_digest_109 ?_
        show lc_V _ _ _ _ _ 112 _ [.int (if 2 = 0 then ((lc_uo (lc_uo (sp_trial ((sp_stl σ n 7 false))) 10 3 (sp_RUN ((sp_stl σ n 7 false)) n 7 true).2.1) 10 2 (sp_RUN ((sp_stl σ n 7 false)) n 7 true).1)).2.1 10 2 else if 2 = 1 then ((lc_uo (lc_uo (sp_trial ((sp_stl σ n 7 false))) 10 3 (sp_RUN ((sp_stl σ n 7 false)) n 7 true).2.1) 10 2 (sp_RUN ((sp_stl σ n 7 false)) n 7 true).1)).2.1 1 0 + ((sp_RUN ((sp_stl σ n 7 false)) n 7 true).2.2).2.1 else ((lc_uo (lc_uo (sp_trial ((sp_stl σ n 7 false))) 10 3 (sp_RUN ((sp_stl σ n 7 false)) n 7 true).2.1) 10 2 (sp_RUN ((sp_stl σ n 7 false)) n 7 true).1)).2.1 10 3), .long (sp_mx (sp_mx (sp_mx (sp_mx (sp_mx ((sp_h2 sp_alike (σ.1 0) (σ.2.1 3) n)) ((sp_RUN σ n 7 false).1)) ((sp_RUN σ n 7 false).2.2.2.1)) ((sp_RUN σ n 7 false).2.1)) ((sp_RUN σ n 7 true).1)) ((sp_RUN σ n 7 true).2.2.2.1))] (lc_w ((lc_uo (lc_uo (sp_trial ((sp_stl σ n 7 false))) 10 3 (sp_RUN ((sp_stl σ n 7 false)) n 7 true).2.1) 10 2 (sp_RUN ((sp_stl σ n 7 false)) n 7 true).1)) 1 ((sp_RUN ((sp_stl σ n 7 false)) n 7 true).2.2))
        refine lc_topi ((sp_RUN σ n 7 true).2.1) (rfl) ?_
        refine lc_callS (c_X4_mix l G (lc_w ((lc_uo (lc_uo (sp_trial ((sp_stl σ n 7 false))) 10 3 (sp_RUN ((sp_stl σ n 7 false)) n 7 true).2.1) 10 2 (sp_RUN ((sp_stl σ n 7 false)) n 7 true).1)) 1 ((sp_RUN ((sp_stl σ n 7 false)) n 7 true).2.2)) (sp_mx (sp_mx (sp_mx (sp_mx (sp_mx ((sp_h2 sp_alike (σ.1 0) (σ.2.1 3) n)) ((sp_RUN σ n 7 false).1)) ((sp_RUN σ n 7 false).2.2.2.1)) ((sp_RUN σ n 7 false).2.1)) ((sp_RUN σ n 7 true).1)) ((sp_RUN σ n 7 true).2.2.2.1)) ((sp_RUN σ n 7 true).2.1)) hR.2.2.2.1 hR.2.2.2.2 mt_X4_mix ml_X4_178 rfl rfl (Nat.le_of_ble_eq_true rfl) ⟨⟨rfl, rfl⟩, Nat.le_of_ble_eq_true rfl, Nat.le_of_ble_eq_true rfl⟩ dX4_digest_112 ?_
        show lc_V _ _ _ _ _ 115 _ [.long (sp_mx (sp_mx (sp_mx (sp_mx (sp_mx (sp_mx ((sp_h2 sp_alike (σ.1 0) (σ.2.1 3) n)) ((sp_RUN σ n 7 false).1)) ((sp_RUN σ n 7 false).2.2.2.1)) ((sp_RUN σ n 7 false).2.1)) ((sp_RUN σ n 7 true).1)) ((sp_RUN σ n 7 true).2.2.2.1)) ((sp_RUN σ n 7 true).2.1))] (lc_w ((lc_uo (lc_uo (sp_trial ((sp_stl σ n 7 false))) 10 3 (sp_RUN ((sp_stl σ n 7 false)) n 7 true).2.1) 10 2 (sp_RUN ((sp_stl σ n 7 false)) n 7 true).1)) 1 ((sp_RUN ((sp_stl σ n 7 false)) n 7 true).2.2))
        refine lc_lstore_n [(1, .long (sp_mx (sp_mx (sp_mx (sp_mx (sp_mx (sp_mx ((sp_h2 sp_alike (σ.1 0) (σ.2.1 3) n)) ((sp_RUN σ n 7 false).1)) ((sp_RUN σ n 7 false).2.2.2.1)) ((sp_RUN σ n 7 false).2.1)) ((sp_RUN σ n 7 true).1)) ((sp_RUN σ n 7 true).2.2.2.1)) ((sp_RUN σ n 7 true).2.1))), (4, .int (2)), (3, .int (1)), (0, .ref (G.1 (0)))] dX4_digest_115 (by decide) rfl ?_
        refine lc_iinc 1 (3) [(4, .int (3)), (1, .long (sp_mx (sp_mx (sp_mx (sp_mx (sp_mx (sp_mx ((sp_h2 sp_alike (σ.1 0) (σ.2.1 3) n)) ((sp_RUN σ n 7 false).1)) ((sp_RUN σ n 7 false).2.2.2.1)) ((sp_RUN σ n 7 false).2.1)) ((sp_RUN σ n 7 true).1)) ((sp_RUN σ n 7 true).2.2.2.1)) ((sp_RUN σ n 7 true).2.1))), (3, .int (1)), (0, .ref (G.1 (0)))] dX4_digest_116 rfl (by decide) (by decide) rfl ?_
        refine lc_goto 96 dX4_digest_119 (by decide) ?_
        refine lc_iload 0 dX4_digest_96 rfl ?_
        refine lc_iconst (v := 2) dX4_digest_98 (by decide) ?_
        refine lc_icmp_gt 122 dX4_digest_99 (by decide) (fun _ => ?_) (fun h => absurd h (by decide))
        refine lc_eq (σ' := lc_w (sp_st2 σ n) 0 ((sp_st2 σ n).1 0, 0, 0, 0)) ((lc_w_w (sp_st2 σ n) 0).symm) ?_
        refine lc_iinc 2 (2) [(3, .int (2)), (4, .int (3)), (1, .long (sp_mx (sp_mx (sp_mx (sp_mx (sp_mx (sp_mx ((sp_h2 sp_alike (σ.1 0) (σ.2.1 3) n)) ((sp_RUN σ n 7 false).1)) ((sp_RUN σ n 7 false).2.2.2.1)) ((sp_RUN σ n 7 false).2.1)) ((sp_RUN σ n 7 true).1)) ((sp_RUN σ n 7 true).2.2.2.1)) ((sp_RUN σ n 7 true).2.1))), (0, .ref (G.1 (0)))] dX4_digest_122 rfl (by decide) (by decide) rfl ?_
        refine lc_goto 55 dX4_digest_125 (by decide) ?_
        refine lc_iload_n 0 dX4_digest_55 rfl ?_
        refine lc_iconst (v := 2) dX4_digest_56 (by decide) ?_
        refine lc_icmp_ge 128 dX4_digest_57 (by decide) (fun _ => ?_) (fun h => absurd h (by decide))
        refine lc_iconst (v := 0) dX4_digest_128 (by decide) ?_
        refine lc_istore_n [(3, .int (0)), (4, .int (3)), (1, .long (sp_mx (sp_mx (sp_mx (sp_mx (sp_mx (sp_mx ((sp_h2 sp_alike (σ.1 0) (σ.2.1 3) n)) ((sp_RUN σ n 7 false).1)) ((sp_RUN σ n 7 false).2.2.2.1)) ((sp_RUN σ n 7 false).2.1)) ((sp_RUN σ n 7 true).1)) ((sp_RUN σ n 7 true).2.2.2.1)) ((sp_RUN σ n 7 true).2.1))), (0, .ref (G.1 (0)))] dX4_digest_129 (by decide) rfl ?_
        refine lc_lv (lv' := [(0, .ref (G.1 (0))), (1, .long (sp_mx (sp_mx (sp_mx (sp_mx (sp_mx (sp_mx ((sp_h2 sp_alike (σ.1 0) (σ.2.1 3) n)) ((sp_RUN σ n 7 false).1)) ((sp_RUN σ n 7 false).2.2.2.1)) ((sp_RUN σ n 7 false).2.1)) ((sp_RUN σ n 7 true).1)) ((sp_RUN σ n 7 true).2.2.2.1)) ((sp_RUN σ n 7 true).2.1))), (3, .int (0))]) [3, 2, 0] rfl ?_
        refine lc_forI (α := Int64) (fun i z => lc_V G Γ cX4_digest 5 RX4 130 [(0, .ref (G.1 (0))), (1, .long (z)), (3, .int (nI i))] [] (lc_w ((sp_st2 σ n)) 0 (((sp_st2 σ n).1 0, 0, 0, 0)))) (fun _ _ => True) (fun i h => sp_mx h (σ.2.1 9 i)) p (fun _ _ _ _ => trivial) (fun i z hi hIi ki => ?_) (sp_mx (sp_mx (sp_mx (sp_mx (sp_mx (sp_mx ((sp_h2 sp_alike (σ.1 0) (σ.2.1 3) n)) ((sp_RUN σ n 7 false).1)) ((sp_RUN σ n 7 false).2.2.2.1)) ((sp_RUN σ n 7 false).2.1)) ((sp_RUN σ n 7 true).1)) ((sp_RUN σ n 7 true).2.2.2.1)) ((sp_RUN σ n 7 true).2.1)) (trivial) (fun hIi => ?_)
        · skip
          show lc_V G Γ cX4_digest 5 RX4 130 [(0, .ref (G.1 (0))), (1, .long (z)), (3, .int (nI i))] [] (lc_w ((sp_st2 σ n)) 0 (((sp_st2 σ n).1 0, 0, 0, 0)))
          refine lc_iload_n 2 dX4_digest_130 rfl ?_
          refine lc_aload_n 0 dX4_digest_131 rfl ?_
          refine lc_g_page fl_X4_10 dX4_digest_132 ?_
          refine lc_gw_len 0 (by omega) fl_X4_30 dX4_digest_135 ?_
          refine lc_icmp_ge 161 dX4_digest_138 (by decide) (fun h => absurd h.1 (by exact (show ¬ (σ.2.1 10 0) ≤ nI i by rw [hp]; exact nI_ge (b := p) hi (by omega)))) (fun _ => ?_)
          refine lc_lload_n 1 dX4_digest_141 rfl ?_
          refine lc_aload_n 0 dX4_digest_142 rfl ?_
          refine lc_g_page fl_X4_10 dX4_digest_143 ?_
          refine lc_g_codes fl_X4_181 dX4_digest_146 ?_
          refine lc_iload_n 2 dX4_digest_149 rfl ?_
          refine lc_iald (2) i (by omega) (rfl) (rfl) (by omega) (by decide) dX4_digest_150 ?_
          refine lc_topi (σ.2.1 9 i) rfl ?_
          refine lc_callS (c_X4_mix l G (lc_w ((sp_st2 σ n)) 0 (((sp_st2 σ n).1 0, 0, 0, 0))) z (σ.2.1 9 i)) hR.2.2.2.1 hR.2.2.2.2 mt_X4_mix ml_X4_178 rfl rfl (Nat.le_of_ble_eq_true rfl) ⟨⟨rfl, rfl⟩, Nat.le_of_ble_eq_true rfl, Nat.le_of_ble_eq_true rfl⟩ dX4_digest_151 ?_
          show lc_V _ _ _ _ _ 154 _ [.long (sp_mx z (σ.2.1 9 i))] (lc_w ((sp_st2 σ n)) 0 (((sp_st2 σ n).1 0, 0, 0, 0)))
          refine lc_lstore_n [(1, .long (sp_mx z (σ.2.1 9 i))), (0, .ref (G.1 (0))), (3, .int (nI i))] dX4_digest_154 (by decide) rfl ?_
          refine lc_iinc 2 (nI (i + 1)) [(3, .int (nI (i + 1))), (1, .long (sp_mx z (σ.2.1 9 i))), (0, .ref (G.1 (0)))] dX4_digest_155 rfl (lc_inc1 i) (by decide) rfl ?_
          refine lc_goto 130 dX4_digest_158 (by decide) ?_
          refine lc_lv (lv' := [(0, .ref (G.1 (0))), (1, .long (sp_mx z (σ.2.1 9 i))), (3, .int (nI (i + 1)))]) [2, 1, 0] rfl ?_
          rw [show sp_mx z (σ.2.1 9 i) = sp_mx z (σ.2.1 9 i) from rfl] at ki
          exact ki
        · skip
          show lc_V G Γ cX4_digest 5 RX4 130 [(0, .ref (G.1 (0))), (1, .long ((sp_it (fun i h => sp_mx h (σ.2.1 9 i)) p (sp_mx (sp_mx (sp_mx (sp_mx (sp_mx (sp_mx ((sp_h2 sp_alike (σ.1 0) (σ.2.1 3) n)) ((sp_RUN σ n 7 false).1)) ((sp_RUN σ n 7 false).2.2.2.1)) ((sp_RUN σ n 7 false).2.1)) ((sp_RUN σ n 7 true).1)) ((sp_RUN σ n 7 true).2.2.2.1)) ((sp_RUN σ n 7 true).2.1))))), (3, .int (nI p))] [] (lc_w ((sp_st2 σ n)) 0 (((sp_st2 σ n).1 0, 0, 0, 0)))
          refine lc_iload_n 2 dX4_digest_130 rfl ?_
          refine lc_aload_n 0 dX4_digest_131 rfl ?_
          refine lc_g_page fl_X4_10 dX4_digest_132 ?_
          refine lc_gw_len 0 (by omega) fl_X4_30 dX4_digest_135 ?_
          refine lc_icmp_ge 161 dX4_digest_138 (by decide) (fun _ => ?_) (fun h => absurd h.1 (by exact (show ¬ nI p < (σ.2.1 10 0) by rw [hp]; exact nI_nlt (a := p) (b := p) (Nat.le_refl _) (by omega))))
          refine lc_iconst (v := 0) dX4_digest_161 (by decide) ?_
          refine lc_istore_n [(3, .int (0)), (0, .ref (G.1 (0))), (1, .long ((sp_it (fun i h => sp_mx h (σ.2.1 9 i)) p (sp_mx (sp_mx (sp_mx (sp_mx (sp_mx (sp_mx ((sp_h2 sp_alike (σ.1 0) (σ.2.1 3) n)) ((sp_RUN σ n 7 false).1)) ((sp_RUN σ n 7 false).2.2.2.1)) ((sp_RUN σ n 7 false).2.1)) ((sp_RUN σ n 7 true).1)) ((sp_RUN σ n 7 true).2.2.2.1)) ((sp_RUN σ n 7 true).2.1)))))] dX4_digest_162 (by decide) rfl ?_
          refine lc_lv (lv' := [(0, .ref (G.1 (0))), (1, .long ((sp_it (fun i h => sp_mx h (σ.2.1 9 i)) p (sp_mx (sp_mx (sp_mx (sp_mx (sp_mx (sp_mx ((sp_h2 sp_alike (σ.1 0) (σ.2.1 3) n)) ((sp_RUN σ n 7 false).1)) ((sp_RUN σ n 7 false).2.2.2.1)) ((sp_RUN σ n 7 false).2.1)) ((sp_RUN σ n 7 true).1)) ((sp_RUN σ n 7 true).2.2.2.1)) ((sp_RUN σ n 7 true).2.1))))), (3, .int (0))]) [1, 2, 0] rfl ?_
          refine lc_forI (α := Int64) (fun w z => lc_V G Γ cX4_digest 5 RX4 163 [(0, .ref (G.1 (0))), (1, .long (z)), (3, .int (nI w))] [] (lc_w ((sp_st2 σ n)) 0 (((sp_st2 σ n).1 0, 0, 0, 0)))) (fun _ _ => True) (fun w h => sp_mx h (sp_cntv ((sp_st2 σ n)) (((sp_st2 σ n).1 0, 0, 0, 0)) 0 10 w)) 12 (fun _ _ _ _ => trivial) (fun w z hw hIw kw => ?_) ((sp_it (fun i h => sp_mx h (σ.2.1 9 i)) p (sp_mx (sp_mx (sp_mx (sp_mx (sp_mx (sp_mx ((sp_h2 sp_alike (σ.1 0) (σ.2.1 3) n)) ((sp_RUN σ n 7 false).1)) ((sp_RUN σ n 7 false).2.2.2.1)) ((sp_RUN σ n 7 false).2.1)) ((sp_RUN σ n 7 true).1)) ((sp_RUN σ n 7 true).2.2.2.1)) ((sp_RUN σ n 7 true).2.1)))) (trivial) (fun hIw => ?_)
          · skip
            show lc_V G Γ cX4_digest 5 RX4 163 [(0, .ref (G.1 (0))), (1, .long (z)), (3, .int (nI w))] [] (lc_w ((sp_st2 σ n)) 0 (((sp_st2 σ n).1 0, 0, 0, 0)))
            refine lc_iload_n 2 dX4_digest_163 rfl ?_
            refine lc_bipush (v := 12) dX4_digest_164 (by decide) ?_
            refine lc_icmp_ge 185 dX4_digest_166 (by decide) (fun h => absurd h.1 (by exact nI_ge (b := 12) hw (by omega))) (fun _ => ?_)
            refine lc_lload_n 1 dX4_digest_169 rfl ?_
            refine lc_aload_n 0 dX4_digest_170 rfl ?_
            refine lc_iload_n 2 dX4_digest_171 rfl ?_
            refine lc_callV (0) (c_X4_count l G ((sp_st2 σ n)) (((sp_st2 σ n).1 0, 0, 0, 0)) n hn hs (nI w)) hR.2.2.2.1 hR.2.2.2.2 mt_X4_count (by omega) (rfl) rfl ml_X4_184 rfl rfl (Nat.le_of_ble_eq_true rfl) ⟨⟨rfl, rfl⟩, Nat.le_of_ble_eq_true rfl, Nat.le_of_ble_eq_true rfl⟩ dX4_digest_172 ?_
            show lc_V _ _ _ _ _ 175 _ [.int (sp_count ((sp_st2 σ n)) (((sp_st2 σ n).1 0, 0, 0, 0)) 0 10 (nI w)), .long (z)] (lc_w ((sp_st2 σ n)) 0 (((sp_st2 σ n).1 0, 0, 0, 0)))
            refine lc_topi (sp_cntv ((sp_st2 σ n)) (((sp_st2 σ n).1 0, 0, 0, 0)) 0 10 w) (sp_count_in hw) ?_
            refine lc_callS (c_X4_mix l G (lc_w ((sp_st2 σ n)) 0 (((sp_st2 σ n).1 0, 0, 0, 0))) z (sp_cntv ((sp_st2 σ n)) (((sp_st2 σ n).1 0, 0, 0, 0)) 0 10 w)) hR.2.2.2.1 hR.2.2.2.2 mt_X4_mix ml_X4_178 rfl rfl (Nat.le_of_ble_eq_true rfl) ⟨⟨rfl, rfl⟩, Nat.le_of_ble_eq_true rfl, Nat.le_of_ble_eq_true rfl⟩ dX4_digest_175 ?_
            show lc_V _ _ _ _ _ 178 _ [.long (sp_mx z (sp_cntv ((sp_st2 σ n)) (((sp_st2 σ n).1 0, 0, 0, 0)) 0 10 w))] (lc_w ((sp_st2 σ n)) 0 (((sp_st2 σ n).1 0, 0, 0, 0)))
            refine lc_lstore_n [(1, .long (sp_mx z (sp_cntv ((sp_st2 σ n)) (((sp_st2 σ n).1 0, 0, 0, 0)) 0 10 w))), (0, .ref (G.1 (0))), (3, .int (nI w))] dX4_digest_178 (by decide) rfl ?_
            refine lc_iinc 2 (nI (w + 1)) [(3, .int (nI (w + 1))), (1, .long (sp_mx z (sp_cntv ((sp_st2 σ n)) (((sp_st2 σ n).1 0, 0, 0, 0)) 0 10 w))), (0, .ref (G.1 (0)))] dX4_digest_179 rfl (lc_inc1 w) (by decide) rfl ?_
            refine lc_goto 163 dX4_digest_182 (by decide) ?_
            refine lc_lv (lv' := [(0, .ref (G.1 (0))), (1, .long (sp_mx z (sp_cntv ((sp_st2 σ n)) (((sp_st2 σ n).1 0, 0, 0, 0)) 0 10 w))), (3, .int (nI (w + 1)))]) [2, 1, 0] rfl ?_
            rw [show sp_mx z (sp_cntv ((sp_st2 σ n)) (((sp_st2 σ n).1 0, 0, 0, 0)) 0 10 w) = sp_mx z (sp_cntv ((sp_st2 σ n)) (((sp_st2 σ n).1 0, 0, 0, 0)) 0 10 w) from rfl] at kw
            exact kw
          · skip
            show lc_V G Γ cX4_digest 5 RX4 163 [(0, .ref (G.1 (0))), (1, .long ((sp_it (fun w h => sp_mx h (sp_cntv ((sp_st2 σ n)) (((sp_st2 σ n).1 0, 0, 0, 0)) 0 10 w)) 12 ((sp_it (fun i h => sp_mx h (σ.2.1 9 i)) p (sp_mx (sp_mx (sp_mx (sp_mx (sp_mx (sp_mx ((sp_h2 sp_alike (σ.1 0) (σ.2.1 3) n)) ((sp_RUN σ n 7 false).1)) ((sp_RUN σ n 7 false).2.2.2.1)) ((sp_RUN σ n 7 false).2.1)) ((sp_RUN σ n 7 true).1)) ((sp_RUN σ n 7 true).2.2.2.1)) ((sp_RUN σ n 7 true).2.1))))))), (3, .int (nI 12))] [] (lc_w ((sp_st2 σ n)) 0 (((sp_st2 σ n).1 0, 0, 0, 0)))
            refine lc_iload_n 2 dX4_digest_163 rfl ?_
            refine lc_bipush (v := 12) dX4_digest_164 (by decide) ?_
            refine lc_icmp_ge 185 dX4_digest_166 (by decide) (fun _ => ?_) (fun h => absurd h.1 (by exact nI_nlt (a := 12) (b := 12) (Nat.le_refl _) (by omega)))
            refine lc_eq (σ' := (sp_st2 σ n)) (lc_w_w (sp_st2 σ n) 0) ?_
            refine lc_lload_n 1 dX4_digest_185 rfl ?_
            exact lc_lret hR dX4_digest_186 (by rw [sp_digC, if_neg h0]; rfl) (by rw [sp_digC, if_neg h0])
