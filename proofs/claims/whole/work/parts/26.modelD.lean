set_option maxRecDepth 100000 in
set_option maxHeartbeats 4000000 in
theorem c_X5_save (l : Launch) (G : lc_G) (σ : lc_S) (x : lc_X) : lc_M l G yX5_save cX5_save 3 none { frames := 2, cells := 0, slots := 0, locals := 43 } [.ref (G.1 (14))] (lc_w σ 2 x) none (lc_w ((lc_ro σ 13 (sp_sv σ x))) 2 x) := by
  refine lc_entry [(0, .ref (G.1 (14)))] (by decide) (Nat.le_of_ble_eq_true rfl) rfl rfl rfl ?_
  intro Γ hR
  refine lc_iconst (v := 0) dX5_save_0 (by decide) ?_
  refine lc_istore_n [(1, .int (0)), (0, .ref (G.1 (14)))] dX5_save_1 (by decide) rfl ?_
  refine lc_lv (lv' := [(0, .ref (G.1 (14))), (1, .int (0))]) [1, 0] rfl ?_
  refine lc_forI (α := lc_S) (fun k z => lc_V G Γ cX5_save 3 RX5 2 [(0, .ref (G.1 (14))), (1, .int (nI k))] [] (lc_w z 2 x)) (fun _ _ => True) ((fun k s => sp_it (sp_svI x.1 k) 6 s)) 24 (fun _ _ _ _ => trivial) (fun k z hk hIk kk => ?_) σ (trivial) (fun hIk => ?_)
  · skip
    show lc_V G Γ cX5_save 3 RX5 2 [(0, .ref (G.1 (14))), (1, .int (nI k))] [] (lc_w z 2 x)
    refine lc_iload_n 1 dX5_save_2 rfl ?_
    refine lc_bipush (v := 24) dX5_save_3 (by decide) ?_
    refine lc_icmp_ge 55 dX5_save_5 (by decide) (fun h => absurd h.1 (by exact nI_ge (b := 24) hk (by omega))) (fun _ => ?_)
    refine lc_iconst (v := 0) dX5_save_8 (by decide) ?_
    refine lc_istore_n [(2, .int (0)), (0, .ref (G.1 (14))), (1, .int (nI k))] dX5_save_9 (by decide) rfl ?_
    refine lc_lv (lv' := [(0, .ref (G.1 (14))), (1, .int (nI k)), (2, .int (0))]) [1, 2, 0] rfl ?_
    refine lc_forI (α := lc_S) (fun w y => lc_V G Γ cX5_save 3 RX5 10 [(0, .ref (G.1 (14))), (1, .int (nI k)), (2, .int (nI w))] [] (lc_w y 2 x)) (fun _ _ => True) (sp_svI x.1 k) 6 (fun _ _ _ _ => trivial) (fun w y hw hIw kw => ?_) z (trivial) (fun hIw => ?_)
    · skip
      show lc_V G Γ cX5_save 3 RX5 10 [(0, .ref (G.1 (14))), (1, .int (nI k)), (2, .int (nI w))] [] (lc_w y 2 x)
      refine lc_iload_n 2 dX5_save_10 rfl ?_
      refine lc_bipush (v := 6) dX5_save_11 (by decide) ?_
      refine lc_icmp_ge 49 dX5_save_13 (by decide) (fun h => absurd h.1 (by exact nI_ge (b := 6) hw (by omega))) (fun _ => ?_)
      refine lc_aload_n 0 dX5_save_16 rfl ?_
      refine lc_g_msaved fl_X5_40 dX5_save_17 ?_
      refine lc_bipush (v := 6) dX5_save_20 (by decide) ?_
      refine lc_iload_n 1 dX5_save_22 rfl ?_
      refine lc_imul dX5_save_23 ?_
      refine lc_iload_n 2 dX5_save_24 rfl ?_
      refine lc_iadd dX5_save_25 ?_
      refine lc_topi (nI (6 * k + w)) (lc_m6la k w) ?_
      refine lc_aload_n 0 dX5_save_26 rfl ?_
      refine lc_iload_n 1 dX5_save_27 rfl ?_
      refine lc_iload_n 2 dX5_save_28 rfl ?_
      refine lc_iconst (v := 5) dX5_save_29 (by decide) ?_
      refine lc_icmp_ne 38 dX5_save_30 (by decide) (fun c_3 => ?_) (fun c_3 => ?_)
      · skip
        refine lc_iload_n 2 dX5_save_38 rfl ?_
        refine lc_callV (14) (c_X5_itemNow l G y x k (by omega) w (by omega)) hR.2.2.2.1 hR.2.2.2.2 mt_X5_itemNow (by omega) (rfl) rfl ml_X5_161 rfl rfl (Nat.le_of_ble_eq_true rfl) ⟨⟨rfl, rfl⟩, Nat.le_of_ble_eq_true rfl, Nat.le_of_ble_eq_true rfl⟩ dX5_save_39 ?_
        show lc_V _ _ _ _ _ 42 _ [.int (sp_hasv x.1 k w), .int (nI (6 * k + w)), .ref (G.1 (25))] (lc_w y 2 x)
        refine lc_sw_msaved 2 (6 * k + w) (by omega) (rfl) (by omega) dX5_save_42 ?_
        refine lc_iinc 2 (nI (w + 1)) [(2, .int (nI (w + 1))), (0, .ref (G.1 (14))), (1, .int (nI k))] dX5_save_43 rfl (lc_inc1 w) (by decide) rfl ?_
        refine lc_goto 10 dX5_save_46 (by decide) ?_
        refine lc_lv (lv' := [(0, .ref (G.1 (14))), (1, .int (nI k)), (2, .int (nI (w + 1)))]) [1, 2, 0] rfl ?_
        rw [show (sp_svI x.1 k) w y = (lc_uo y 13 (6 * k + w) (sp_hasv x.1 k w)) from by (have e5 : ¬ w = 5 := fun q => c_3.1 (by subst q; rfl)); (have e6 : ¬ w = 6 := (by omega)); simp only [sp_svI, sp_hasv, e5, e6, if_false]] at kw
        exact kw
      · skip
        refine lc_bipush (v := 6) dX5_save_33 (by decide) ?_
        refine lc_goto 39 dX5_save_35 (by decide) ?_
        refine lc_callV (14) (c_X5_itemNow l G y x k (by omega) 6 (by omega)) hR.2.2.2.1 hR.2.2.2.2 mt_X5_itemNow (by omega) (rfl) rfl ml_X5_161 rfl rfl (Nat.le_of_ble_eq_true rfl) ⟨⟨rfl, rfl⟩, Nat.le_of_ble_eq_true rfl, Nat.le_of_ble_eq_true rfl⟩ dX5_save_39 ?_
        show lc_V _ _ _ _ _ 42 _ [.int (sp_hasv x.1 k 6), .int (nI (6 * k + w)), .ref (G.1 (25))] (lc_w y 2 x)
        refine lc_sw_msaved 2 (6 * k + w) (by omega) (rfl) (by omega) dX5_save_42 ?_
        refine lc_iinc 2 (nI (w + 1)) [(2, .int (nI (w + 1))), (0, .ref (G.1 (14))), (1, .int (nI k))] dX5_save_43 rfl (lc_inc1 w) (by decide) rfl ?_
        refine lc_goto 10 dX5_save_46 (by decide) ?_
        refine lc_lv (lv' := [(0, .ref (G.1 (14))), (1, .int (nI k)), (2, .int (nI (w + 1)))]) [1, 2, 0] rfl ?_
        rw [show (sp_svI x.1 k) w y = (lc_uo y 13 (6 * k + w) (sp_hasv x.1 k 6)) from by have e5 := (nI_eq (b := 5) (by omega) (by omega)).mp c_3; subst e5; rfl] at kw
        exact kw
    · skip
      show lc_V G Γ cX5_save 3 RX5 10 [(0, .ref (G.1 (14))), (1, .int (nI k)), (2, .int (nI 6))] [] (lc_w ((sp_it (sp_svI x.1 k) 6 z)) 2 x)
      refine lc_iload_n 2 dX5_save_10 rfl ?_
      refine lc_bipush (v := 6) dX5_save_11 (by decide) ?_
      refine lc_icmp_ge 49 dX5_save_13 (by decide) (fun _ => ?_) (fun h => absurd h.1 (by exact nI_nlt (a := 6) (b := 6) (Nat.le_refl _) (by omega)))
      refine lc_iinc 1 (nI (k + 1)) [(1, .int (nI (k + 1))), (0, .ref (G.1 (14))), (2, .int (nI 6))] dX5_save_49 rfl (lc_inc1 k) (by decide) rfl ?_
      refine lc_goto 2 dX5_save_52 (by decide) ?_
      refine lc_lv (lv' := [(0, .ref (G.1 (14))), (1, .int (nI (k + 1)))]) [1, 0] rfl ?_
      rw [show sp_it (sp_svI x.1 k) 6 z = sp_it (sp_svI x.1 k) 6 z from rfl] at kk
      exact kk
  · skip
    show lc_V G Γ cX5_save 3 RX5 2 [(0, .ref (G.1 (14))), (1, .int (nI 24))] [] (lc_w ((sp_it (fun k s => sp_it (sp_svI x.1 k) 6 s) 24 σ)) 2 x)
    refine lc_iload_n 1 dX5_save_2 rfl ?_
    refine lc_bipush (v := 24) dX5_save_3 (by decide) ?_
    refine lc_icmp_ge 55 dX5_save_5 (by decide) (fun _ => ?_) (fun h => absurd h.1 (by exact nI_nlt (a := 24) (b := 24) (Nat.le_refl _) (by omega)))
    have hsv2 : ∀ k, (sp_it (fun k s => sp_it (sp_svI x.1 k) 6 s) 24 σ).2.1 2 k = σ.2.1 2 k := fun k => by rw [(sp_svP_it σ x.1 24).2.2 2 k, if_neg (fun z => absurd z.1 (by decide))]
    refine lc_aload_n 0 dX5_save_55 rfl ?_
    refine lc_g_msaved fl_X5_40 dX5_save_56 ?_
    refine lc_sipush (v := 144) dX5_save_59 (by decide) ?_
    refine lc_aload_n 0 dX5_save_62 rfl ?_
    refine lc_gMNow fl_X5_62 dX5_save_63 ?_
    refine lc_sw_msaved 2 144 (by omega) (rfl) (by omega) dX5_save_66 ?_
    refine lc_aload_n 0 dX5_save_67 rfl ?_
    refine lc_g_msaved fl_X5_40 dX5_save_68 ?_
    refine lc_sipush (v := 145) dX5_save_71 (by decide) ?_
    refine lc_aload_n 0 dX5_save_74 rfl ?_
    refine lc_gMTra fl_X5_68 dX5_save_75 ?_
    refine lc_topi (σ.2.1 2 0 + x.2.1) (by show (sp_it (fun k s => sp_it (sp_svI x.1 k) 6 s) 24 σ).2.1 2 0 + _ = _; rw [hsv2]) ?_
    refine lc_sw_msaved 2 145 (by omega) (rfl) (by omega) dX5_save_78 ?_
    refine lc_aload_n 0 dX5_save_79 rfl ?_
    refine lc_g_msaved fl_X5_40 dX5_save_80 ?_
    refine lc_sipush (v := 146) dX5_save_83 (by decide) ?_
    refine lc_aload_n 0 dX5_save_86 rfl ?_
    refine lc_gMWok fl_X5_71 dX5_save_87 ?_
    refine lc_topi (σ.2.1 2 1 + x.2.2.1) (by show (sp_it (fun k s => sp_it (sp_svI x.1 k) 6 s) 24 σ).2.1 2 1 + _ = _; rw [hsv2]) ?_
    refine lc_sw_msaved 2 146 (by omega) (rfl) (by omega) dX5_save_90 ?_
    refine lc_aload_n 0 dX5_save_91 rfl ?_
    refine lc_g_msaved fl_X5_40 dX5_save_92 ?_
    refine lc_sipush (v := 147) dX5_save_95 (by decide) ?_
    refine lc_aload_n 0 dX5_save_98 rfl ?_
    refine lc_gMGon fl_X5_74 dX5_save_99 ?_
    refine lc_topi (σ.2.1 2 2 + x.2.2.2) (by show (sp_it (fun k s => sp_it (sp_svI x.1 k) 6 s) 24 σ).2.1 2 2 + _ = _; rw [hsv2]) ?_
    refine lc_sw_msaved 2 147 (by omega) (rfl) (by omega) dX5_save_102 ?_
    refine lc_gh (σ' := lc_w ((lc_ro σ 13 (sp_sv σ x))) 2 x) (sp_sv_save σ x) ?_
    exact lc_vret hR dX5_save_103 (rfl)

set_option maxRecDepth 100000 in
set_option maxHeartbeats 4000000 in
theorem c_X5_back (l : Launch) (G : lc_G) (σ : lc_S) (x y : lc_X) (h13 : ∀ q, q < 148 → σ.2.1 13 q = sp_sv σ x q) (h6 : y.1 6 = x.1 6) (h70 : y.1 7 0 = x.1 7 0) (h72 : y.1 7 2 = x.1 7 2) : lc_M l G yX5_back cX5_back 2 none { frames := 0, cells := 0, slots := 0, locals := 0 } [.ref (G.1 (14))] (lc_w σ 2 y) none (lc_w σ 2 x) := by
  refine lc_entry [(0, .ref (G.1 (14)))] (by decide) (Nat.le_of_ble_eq_true rfl) rfl rfl rfl ?_
  intro Γ hR
  refine lc_iconst (v := 0) dX5_back_0 (by decide) ?_
  refine lc_istore_n [(1, .int (0)), (0, .ref (G.1 (14)))] dX5_back_1 (by decide) rfl ?_
  refine lc_lv (lv' := [(0, .ref (G.1 (14))), (1, .int (0))]) [1, 0] rfl ?_
  refine lc_forI (α := lc_X) (fun k z => lc_V G Γ cX5_back 2 RX5 2 [(0, .ref (G.1 (14))), (1, .int (nI k))] [] (lc_w σ 2 z)) (fun _ _ => True) (sp_cpt (fun f k => σ.2.1 13 (6 * k + f))) 24 (fun _ _ _ _ => trivial) (fun k z hk hIk kk => ?_) y (trivial) (fun hIk => ?_)
  · skip
    show lc_V G Γ cX5_back 2 RX5 2 [(0, .ref (G.1 (14))), (1, .int (nI k))] [] (lc_w σ 2 z)
    refine lc_iload_n 1 dX5_back_2 rfl ?_
    refine lc_bipush (v := 24) dX5_back_3 (by decide) ?_
    refine lc_icmp_ge 114 dX5_back_5 (by decide) (fun h => absurd h.1 (by exact nI_ge (b := 24) hk (by omega))) (fun _ => ?_)
    refine lc_aload_n 0 dX5_back_8 rfl ?_
    refine lc_g_msort fl_X5_19 dX5_back_9 ?_
    refine lc_iload_n 1 dX5_back_12 rfl ?_
    refine lc_aload_n 0 dX5_back_13 rfl ?_
    refine lc_g_msaved fl_X5_40 dX5_back_14 ?_
    refine lc_bipush (v := 6) dX5_back_17 (by decide) ?_
    refine lc_iload_n 1 dX5_back_19 rfl ?_
    refine lc_imul dX5_back_20 ?_
    refine lc_iald (f := σ.2.1 13) (25) (6 * k) (by omega) (rfl) (lc_m6l k) (by omega) (by decide) dX5_back_21 ?_
    refine lc_sc_msort k (rfl) (by omega) dX5_back_22 ?_
    refine lc_aload_n 0 dX5_back_23 rfl ?_
    refine lc_g_mvalue fl_X5_22 dX5_back_24 ?_
    refine lc_iload_n 1 dX5_back_27 rfl ?_
    refine lc_aload_n 0 dX5_back_28 rfl ?_
    refine lc_g_msaved fl_X5_40 dX5_back_29 ?_
    refine lc_bipush (v := 6) dX5_back_32 (by decide) ?_
    refine lc_iload_n 1 dX5_back_34 rfl ?_
    refine lc_imul dX5_back_35 ?_
    refine lc_iconst (v := 1) dX5_back_36 (by decide) ?_
    refine lc_iadd dX5_back_37 ?_
    refine lc_topi (nI (6 * k + 1)) (lc_m6la k 1) ?_
    refine lc_iald (f := σ.2.1 13) (25) (6 * k + 1) (by omega) (rfl) (rfl) (by omega) (by decide) dX5_back_38 ?_
    refine lc_sc_mvalue k (rfl) (by omega) dX5_back_39 ?_
    refine lc_aload_n 0 dX5_back_40 rfl ?_
    refine lc_g_mstamp fl_X5_25 dX5_back_41 ?_
    refine lc_iload_n 1 dX5_back_44 rfl ?_
    refine lc_aload_n 0 dX5_back_45 rfl ?_
    refine lc_g_msaved fl_X5_40 dX5_back_46 ?_
    refine lc_bipush (v := 6) dX5_back_49 (by decide) ?_
    refine lc_iload_n 1 dX5_back_51 rfl ?_
    refine lc_imul dX5_back_52 ?_
    refine lc_iconst (v := 2) dX5_back_53 (by decide) ?_
    refine lc_iadd dX5_back_54 ?_
    refine lc_topi (nI (6 * k + 2)) (lc_m6la k 2) ?_
    refine lc_iald (f := σ.2.1 13) (25) (6 * k + 2) (by omega) (rfl) (rfl) (by omega) (by decide) dX5_back_55 ?_
    refine lc_sc_mstamp k (rfl) (by omega) dX5_back_56 ?_
    refine lc_aload_n 0 dX5_back_57 rfl ?_
    refine lc_g_mactive fl_X5_28 dX5_back_58 ?_
    refine lc_iload_n 1 dX5_back_61 rfl ?_
    refine lc_aload_n 0 dX5_back_62 rfl ?_
    refine lc_g_msaved fl_X5_40 dX5_back_63 ?_
    refine lc_bipush (v := 6) dX5_back_66 (by decide) ?_
    refine lc_iload_n 1 dX5_back_68 rfl ?_
    refine lc_imul dX5_back_69 ?_
    refine lc_iconst (v := 3) dX5_back_70 (by decide) ?_
    refine lc_iadd dX5_back_71 ?_
    refine lc_topi (nI (6 * k + 3)) (lc_m6la k 3) ?_
    refine lc_iald (f := σ.2.1 13) (25) (6 * k + 3) (by omega) (rfl) (rfl) (by omega) (by decide) dX5_back_72 ?_
    refine lc_sc_mactive k (rfl) (by omega) dX5_back_73 ?_
    refine lc_aload_n 0 dX5_back_74 rfl ?_
    refine lc_g_mkeepers fl_X5_31 dX5_back_75 ?_
    refine lc_iload_n 1 dX5_back_78 rfl ?_
    refine lc_aload_n 0 dX5_back_79 rfl ?_
    refine lc_g_msaved fl_X5_40 dX5_back_80 ?_
    refine lc_bipush (v := 6) dX5_back_83 (by decide) ?_
    refine lc_iload_n 1 dX5_back_85 rfl ?_
    refine lc_imul dX5_back_86 ?_
    refine lc_iconst (v := 4) dX5_back_87 (by decide) ?_
    refine lc_iadd dX5_back_88 ?_
    refine lc_topi (nI (6 * k + 4)) (lc_m6la k 4) ?_
    refine lc_iald (f := σ.2.1 13) (25) (6 * k + 4) (by omega) (rfl) (rfl) (by omega) (by decide) dX5_back_89 ?_
    refine lc_sc_mkeepers k (rfl) (by omega) dX5_back_90 ?_
    refine lc_aload_n 0 dX5_back_91 rfl ?_
    refine lc_g_mheat fl_X5_34 dX5_back_92 ?_
    refine lc_iload_n 1 dX5_back_95 rfl ?_
    refine lc_aload_n 0 dX5_back_96 rfl ?_
    refine lc_g_msaved fl_X5_40 dX5_back_97 ?_
    refine lc_bipush (v := 6) dX5_back_100 (by decide) ?_
    refine lc_iload_n 1 dX5_back_102 rfl ?_
    refine lc_imul dX5_back_103 ?_
    refine lc_iconst (v := 5) dX5_back_104 (by decide) ?_
    refine lc_iadd dX5_back_105 ?_
    refine lc_topi (nI (6 * k + 5)) (lc_m6la k 5) ?_
    refine lc_iald (f := σ.2.1 13) (25) (6 * k + 5) (by omega) (rfl) (rfl) (by omega) (by decide) dX5_back_106 ?_
    refine lc_sc_mheat k (rfl) (by omega) dX5_back_107 ?_
    refine lc_iinc 1 (nI (k + 1)) [(1, .int (nI (k + 1))), (0, .ref (G.1 (14)))] dX5_back_108 rfl (lc_inc1 k) (by decide) rfl ?_
    refine lc_goto 2 dX5_back_111 (by decide) ?_
    refine lc_lv (lv' := [(0, .ref (G.1 (14))), (1, .int (nI (k + 1)))]) [1, 0] rfl ?_
    rw [show (sp_cpt (fun f k => σ.2.1 13 (6 * k + f))) k z = (lc_cu (lc_cu (lc_cu (lc_cu (lc_cu (lc_cu z.1 0 k (σ.2.1 13 (6 * k))) 1 k (σ.2.1 13 (6 * k + 1))) 2 k (σ.2.1 13 (6 * k + 2))) 3 k (σ.2.1 13 (6 * k + 3))) 4 k (σ.2.1 13 (6 * k + 4))) 5 k (σ.2.1 13 (6 * k + 5)), z.2) from rfl] at kk
    exact kk
  · skip
    show lc_V G Γ cX5_back 2 RX5 2 [(0, .ref (G.1 (14))), (1, .int (nI 24))] [] (lc_w σ 2 ((sp_it (sp_cpt (fun f k => σ.2.1 13 (6 * k + f))) 24 y)))
    refine lc_iload_n 1 dX5_back_2 rfl ?_
    refine lc_bipush (v := 24) dX5_back_3 (by decide) ?_
    refine lc_icmp_ge 114 dX5_back_5 (by decide) (fun _ => ?_) (fun h => absurd h.1 (by exact nI_nlt (a := 24) (b := 24) (Nat.le_refl _) (by omega)))
    refine lc_aload_n 0 dX5_back_114 rfl ?_
    refine lc_aload_n 0 dX5_back_115 rfl ?_
    refine lc_g_msaved fl_X5_40 dX5_back_116 ?_
    refine lc_sipush (v := 144) dX5_back_119 (by decide) ?_
    refine lc_iald (f := σ.2.1 13) (25) 144 (by omega) (rfl) (rfl) (by omega) (by decide) dX5_back_122 ?_
    refine lc_pMNow fl_X5_62 dX5_back_123 ?_
    refine lc_aload_n 0 dX5_back_126 rfl ?_
    refine lc_aload_n 0 dX5_back_127 rfl ?_
    refine lc_g_msaved fl_X5_40 dX5_back_128 ?_
    refine lc_sipush (v := 145) dX5_back_131 (by decide) ?_
    refine lc_iald (f := σ.2.1 13) (25) 145 (by omega) (rfl) (rfl) (by omega) (by decide) dX5_back_134 ?_
    refine lc_pMTra (σ.2.1 13 145 - σ.2.1 2 0) (lc_cv _ _) fl_X5_68 dX5_back_135 ?_
    refine lc_eq (σ' := lc_w σ 2 ((((lc_cu (((sp_it (sp_cpt (fun f k => σ.2.1 13 (6 * k + f))) 24 y)).1) 7 1 (σ.2.1 13 144), ((sp_it (sp_cpt (fun f k => σ.2.1 13 (6 * k + f))) 24 y)).2)).1, σ.2.1 13 145 - σ.2.1 2 0, ((lc_cu (((sp_it (sp_cpt (fun f k => σ.2.1 13 (6 * k + f))) 24 y)).1) 7 1 (σ.2.1 13 144), ((sp_it (sp_cpt (fun f k => σ.2.1 13 (6 * k + f))) 24 y)).2)).2.2.1, ((lc_cu (((sp_it (sp_cpt (fun f k => σ.2.1 13 (6 * k + f))) 24 y)).1) 7 1 (σ.2.1 13 144), ((sp_it (sp_cpt (fun f k => σ.2.1 13 (6 * k + f))) 24 y)).2)).2.2.2))) rfl ?_
    refine lc_aload_n 0 dX5_back_138 rfl ?_
    refine lc_aload_n 0 dX5_back_139 rfl ?_
    refine lc_g_msaved fl_X5_40 dX5_back_140 ?_
    refine lc_sipush (v := 146) dX5_back_143 (by decide) ?_
    refine lc_iald (f := σ.2.1 13) (25) 146 (by omega) (rfl) (rfl) (by omega) (by decide) dX5_back_146 ?_
    refine lc_pMWok (σ.2.1 13 146 - σ.2.1 2 1) (lc_cv _ _) fl_X5_71 dX5_back_147 ?_
    refine lc_eq (σ' := lc_w σ 2 ((((lc_cu (((sp_it (sp_cpt (fun f k => σ.2.1 13 (6 * k + f))) 24 y)).1) 7 1 (σ.2.1 13 144), ((sp_it (sp_cpt (fun f k => σ.2.1 13 (6 * k + f))) 24 y)).2)).1, σ.2.1 13 145 - σ.2.1 2 0, σ.2.1 13 146 - σ.2.1 2 1, ((lc_cu (((sp_it (sp_cpt (fun f k => σ.2.1 13 (6 * k + f))) 24 y)).1) 7 1 (σ.2.1 13 144), ((sp_it (sp_cpt (fun f k => σ.2.1 13 (6 * k + f))) 24 y)).2)).2.2.2))) rfl ?_
    refine lc_aload_n 0 dX5_back_150 rfl ?_
    refine lc_aload_n 0 dX5_back_151 rfl ?_
    refine lc_g_msaved fl_X5_40 dX5_back_152 ?_
    refine lc_sipush (v := 147) dX5_back_155 (by decide) ?_
    refine lc_iald (f := σ.2.1 13) (25) 147 (by omega) (rfl) (rfl) (by omega) (by decide) dX5_back_158 ?_
    refine lc_pMGon (σ.2.1 13 147 - σ.2.1 2 2) (lc_cv _ _) fl_X5_74 dX5_back_159 ?_
    refine lc_eq (σ' := lc_w σ 2 ((((lc_cu (((sp_it (sp_cpt (fun f k => σ.2.1 13 (6 * k + f))) 24 y)).1) 7 1 (σ.2.1 13 144), ((sp_it (sp_cpt (fun f k => σ.2.1 13 (6 * k + f))) 24 y)).2)).1, σ.2.1 13 145 - σ.2.1 2 0, σ.2.1 13 146 - σ.2.1 2 1, σ.2.1 13 147 - σ.2.1 2 2))) rfl ?_
    refine lc_gh (σ' := lc_w σ 2 x) (sp_sv_back σ x y h13 h6 h70 h72) ?_
    exact lc_vret hR dX5_back_162 (rfl)

theorem sp_sv_keep (σ : lc_S) (n : Nat) (seed : Int32) (rum : Bool) (sd : Int64) (q : Nat) (hq : q < 148) : (lc_uo (lc_uo (lc_ul (sp_bM σ) 0 sd) 12 2 (sp_RM σ n seed rum).1) 12 3 (sp_RM σ n seed rum).2.2.2.1).2.1 13 q = sp_sv (lc_uo (lc_uo (lc_ul (sp_bM σ) 0 sd) 12 2 (sp_RM σ n seed rum).1) 12 3 (sp_RM σ n seed rum).2.2.2.1) (σ.1 2, 0, 0, 0) q := by
  show sp_sv σ (σ.1 2, 0, 0, 0) q = _
  unfold sp_sv
  by_cases h1 : q < 144
  · rw [if_pos h1, if_pos h1]
  · rw [if_neg h1, if_neg h1]
    rcases (show q = 144 ∨ q = 145 ∨ q = 146 ∨ q = 147 by omega) with rfl | rfl | rfl | rfl <;> rfl

set_option maxRecDepth 100000 in
set_option maxHeartbeats 4000000 in
theorem c_X5_laySettling (l : Launch) (G : lc_G) (σ : lc_S) (n : Nat) (seed : Int32) (rum : Bool) (hn : n ≤ 6) (hs : σ.1 2 7 0 = nI n) : lc_M l G yX5_laySettling cX5_laySettling 4 none { frames := 7, cells := 0, slots := 0, locals := 161 } [.ref (G.1 (14)), .int (seed), .int (lc_bi (rum))] (σ) none ((sp_stM σ n seed rum)) := by
  refine lc_entry [(0, .ref (G.1 (14))), (1, .int (seed)), (2, .int (lc_bi (rum)))] (by decide) (Nat.le_of_ble_eq_true rfl) rfl rfl rfl ?_
  intro Γ hR
  refine lc_eq (σ' := lc_w σ 2 ((σ.1 2, 0, 0, 0))) ((lc_w_w σ 2).symm) ?_
  refine lc_aload_n 0 dX5_laySettling_0 rfl ?_
  refine lc_callV (14) (c_X5_save l G σ ((σ.1 2, 0, 0, 0))) hR.2.2.2.1 hR.2.2.2.2 mt_X5_save (by omega) (rfl) rfl ml_X5_191 rfl rfl (Nat.le_of_ble_eq_true rfl) ⟨⟨rfl, rfl⟩, Nat.le_of_ble_eq_true rfl, Nat.le_of_ble_eq_true rfl⟩ dX5_laySettling_1 ?_
  show lc_V _ _ _ _ _ 4 _ [] (lc_w ((lc_ro σ 13 (sp_sv σ ((σ.1 2, 0, 0, 0))))) 2 ((σ.1 2, 0, 0, 0)))
  refine lc_eq (σ' := lc_w ((sp_bM σ)) 2 ((σ.1 2, 0, 0, 0))) rfl ?_
  refine lc_aload_n 0 dX5_laySettling_4 rfl ?_
  refine lc_iload_n 1 dX5_laySettling_5 rfl ?_
  refine lc_i2l dX5_laySettling_6 ?_
  refine lc_p_mseed fl_X5_172 dX5_laySettling_7 ?_
  refine lc_aload_n 0 dX5_laySettling_10 rfl ?_
  refine lc_iconst (v := 0) dX5_laySettling_11 (by decide) ?_
  refine lc_pw_mrnd 2 (by omega) fl_X5_194 dX5_laySettling_12 ?_
  refine lc_aload_n 0 dX5_laySettling_15 rfl ?_
  refine lc_callV (14) (c_X5_areAllAlike l G ((lc_uo ((lc_ul ((sp_bM σ)) 0 seed.toInt64)) 12 2 0)) ((σ.1 2, 0, 0, 0)) n hn (hs)) hR.2.2.2.1 hR.2.2.2.2 mt_X5_areAllAlike (by omega) (rfl) rfl ml_X5_197 rfl rfl (Nat.le_of_ble_eq_true rfl) ⟨⟨rfl, rfl⟩, Nat.le_of_ble_eq_true rfl, Nat.le_of_ble_eq_true rfl⟩ dX5_laySettling_16 ?_
  show lc_V _ _ _ _ _ 19 _ [.int (lc_bi (sp_aaM (σ.1 2) n))] (lc_w ((lc_uo ((lc_ul ((sp_bM σ)) 0 seed.toInt64)) 12 2 0)) 2 ((σ.1 2, 0, 0, 0)))
  refine lc_istore_n [(3, .int (lc_bi (sp_aaM (σ.1 2) n))), (0, .ref (G.1 (14))), (1, .int (seed)), (2, .int (lc_bi (rum)))] dX5_laySettling_19 (by decide) rfl ?_
  refine lc_lv (lv' := [(0, .ref (G.1 (14))), (1, .int (seed)), (2, .int (lc_bi (rum))), (3, .int (lc_bi (sp_aaM (σ.1 2) n)))]) [1, 2, 3, 0] rfl ?_
  have KL : ∀ (f i : Nat) (sd : Int64) (y : lc_X), i + f = 40 → sp_run (fun B => sp_aaM B n) (sp_rdM (σ.2.1 8) n rum) f i (sd, y) = (sp_RM σ n seed rum) → (y.1 6 = σ.1 2 6 ∧ y.1 7 0 = σ.1 2 7 0 ∧ y.1 7 2 = σ.1 2 7 2) → lc_V G Γ cX5_laySettling 4 RX5 20 [(0, .ref (G.1 (14))), (1, .int (seed)), (2, .int (lc_bi (rum))), (3, .int (lc_bi (sp_aaM y.1 n)))] [] (lc_w ((lc_ul (lc_uo (sp_bM σ) 12 2 (nI i)) 0 sd)) 2 y) := by
    intro f
    induction f with
    | zero =>
      intro i sd y hf hr hy
      have hi : i = 40 := by omega
      refine lc_iload_n 3 dX5_laySettling_20 rfl ?_
      refine lc_ifb_ne 56 dX5_laySettling_21 (by decide) (fun c_1 => ?_) (fun c_1 => ?_)
      · skip
        refine lc_aload_n 0 dX5_laySettling_56 rfl ?_
        refine lc_iload_n 3 dX5_laySettling_57 rfl ?_
        refine lc_ifb_eq 68 dX5_laySettling_58 (by decide) (fun h => absurd (h.symm.trans c_1) (by decide)) (fun _ => ?_)
        refine lc_aload_n 0 dX5_laySettling_61 rfl ?_
        refine lc_gw_mrnd 2 (by omega) fl_X5_194 dX5_laySettling_62 ?_
        refine lc_topi (nI i) (rfl) ?_
        refine lc_goto 69 dX5_laySettling_65 (by decide) ?_
        refine lc_pw_mrnd 2 (by omega) fl_X5_194 dX5_laySettling_69 ?_
        have hRM : (sp_RM σ n seed rum) = (((nI i)), sd, y) := by rw [← hr]; simp [sp_run, c_1]
        refine lc_eq (σ' := lc_w ((lc_uo (lc_ul (sp_bM σ) 0 sd) 12 2 (sp_RM σ n seed rum).1)) 2 y) (by rw [hRM, lc_uo_ul, lc_uo_uo]; rfl) ?_
        refine lc_aload_n 0 dX5_laySettling_72 rfl ?_
        refine lc_aload_n 0 dX5_laySettling_73 rfl ?_
        refine lc_gMTra fl_X5_68 dX5_laySettling_74 ?_
        refine lc_aload_n 0 dX5_laySettling_77 rfl ?_
        refine lc_g_msaved fl_X5_40 dX5_laySettling_78 ?_
        refine lc_sipush (v := 145) dX5_laySettling_81 (by decide) ?_
        refine lc_iald (f := ((lc_uo (lc_ul (sp_bM σ) 0 sd) 12 2 (sp_RM σ n seed rum).1)).2.1 13) (25) 145 (by omega) (rfl) (rfl) (by omega) (by decide) dX5_laySettling_84 ?_
        refine lc_isub dX5_laySettling_85 ?_
        refine lc_topi ((sp_RM σ n seed rum).2.2.2.1) (by rw [hRM]; exact lc_cancel _ _) ?_
        refine lc_pw_mspent 2 (by omega) fl_X5_205 dX5_laySettling_86 ?_
        refine lc_aload_n 0 dX5_laySettling_89 rfl ?_
        refine lc_callV (14) (c_X5_back l G ((lc_uo ((lc_uo (lc_ul (sp_bM σ) 0 sd) 12 2 (sp_RM σ n seed rum).1)) 12 3 ((sp_RM σ n seed rum).2.2.2.1))) (σ.1 2, 0, 0, 0) y (fun q hq => sp_sv_keep σ n seed rum sd q hq) hy.1 hy.2.1 hy.2.2) hR.2.2.2.1 hR.2.2.2.2 mt_X5_back (by omega) (rfl) rfl ml_X5_208 rfl rfl (Nat.le_of_ble_eq_true rfl) ⟨⟨rfl, rfl⟩, Nat.le_of_ble_eq_true rfl, Nat.le_of_ble_eq_true rfl⟩ dX5_laySettling_90 ?_
        show lc_V _ _ _ _ _ 93 _ [] (lc_w ((lc_uo ((lc_uo (lc_ul (sp_bM σ) 0 sd) 12 2 (sp_RM σ n seed rum).1)) 12 3 ((sp_RM σ n seed rum).2.2.2.1))) 2 ((σ.1 2, 0, 0, 0)))
        refine lc_eq (σ' := sp_stM σ n seed rum) (by rw [sp_stM, hRM]; exact lc_w_w (lc_uo (lc_uo (lc_ul (sp_bM σ) 0 sd) 12 2 _) 12 3 _) 2) ?_
        exact lc_vret hR dX5_laySettling_93 (rfl)
      · skip
        refine lc_aload_n 0 dX5_laySettling_24 rfl ?_
        refine lc_gw_mrnd 2 (by omega) fl_X5_194 dX5_laySettling_25 ?_
        refine lc_topi (nI i) (rfl) ?_
        refine lc_bipush (v := 40) dX5_laySettling_28 (by decide) ?_
        refine lc_icmp_ge 56 dX5_laySettling_30 (by decide) (fun _ => ?_) (fun h => absurd h.1 (by rw [hi]; exact nI_nlt (a := 40) (b := 40) (Nat.le_refl _) (by omega)))
        refine lc_aload_n 0 dX5_laySettling_56 rfl ?_
        refine lc_iload_n 3 dX5_laySettling_57 rfl ?_
        refine lc_ifb_eq 68 dX5_laySettling_58 (by decide) (fun _ => ?_) (fun h => absurd (h.symm.trans c_1) (by decide))
        refine lc_iconst (v := (-1)) dX5_laySettling_68 (by decide) ?_
        refine lc_pw_mrnd 2 (by omega) fl_X5_194 dX5_laySettling_69 ?_
        have hRM : (sp_RM σ n seed rum) = ((((-1))), sd, y) := by rw [← hr]; simp [sp_run, c_1]
        refine lc_eq (σ' := lc_w ((lc_uo (lc_ul (sp_bM σ) 0 sd) 12 2 (sp_RM σ n seed rum).1)) 2 y) (by rw [hRM, lc_uo_ul, lc_uo_uo]; rfl) ?_
        refine lc_aload_n 0 dX5_laySettling_72 rfl ?_
        refine lc_aload_n 0 dX5_laySettling_73 rfl ?_
        refine lc_gMTra fl_X5_68 dX5_laySettling_74 ?_
        refine lc_aload_n 0 dX5_laySettling_77 rfl ?_
        refine lc_g_msaved fl_X5_40 dX5_laySettling_78 ?_
        refine lc_sipush (v := 145) dX5_laySettling_81 (by decide) ?_
        refine lc_iald (f := ((lc_uo (lc_ul (sp_bM σ) 0 sd) 12 2 (sp_RM σ n seed rum).1)).2.1 13) (25) 145 (by omega) (rfl) (rfl) (by omega) (by decide) dX5_laySettling_84 ?_
        refine lc_isub dX5_laySettling_85 ?_
        refine lc_topi ((sp_RM σ n seed rum).2.2.2.1) (by rw [hRM]; exact lc_cancel _ _) ?_
        refine lc_pw_mspent 2 (by omega) fl_X5_205 dX5_laySettling_86 ?_
        refine lc_aload_n 0 dX5_laySettling_89 rfl ?_
        refine lc_callV (14) (c_X5_back l G ((lc_uo ((lc_uo (lc_ul (sp_bM σ) 0 sd) 12 2 (sp_RM σ n seed rum).1)) 12 3 ((sp_RM σ n seed rum).2.2.2.1))) (σ.1 2, 0, 0, 0) y (fun q hq => sp_sv_keep σ n seed rum sd q hq) hy.1 hy.2.1 hy.2.2) hR.2.2.2.1 hR.2.2.2.2 mt_X5_back (by omega) (rfl) rfl ml_X5_208 rfl rfl (Nat.le_of_ble_eq_true rfl) ⟨⟨rfl, rfl⟩, Nat.le_of_ble_eq_true rfl, Nat.le_of_ble_eq_true rfl⟩ dX5_laySettling_90 ?_
        show lc_V _ _ _ _ _ 93 _ [] (lc_w ((lc_uo ((lc_uo (lc_ul (sp_bM σ) 0 sd) 12 2 (sp_RM σ n seed rum).1)) 12 3 ((sp_RM σ n seed rum).2.2.2.1))) 2 ((σ.1 2, 0, 0, 0)))
        refine lc_eq (σ' := sp_stM σ n seed rum) (by rw [sp_stM, hRM]; exact lc_w_w (lc_uo (lc_uo (lc_ul (sp_bM σ) 0 sd) 12 2 _) 12 3 _) 2) ?_
        exact lc_vret hR dX5_laySettling_93 (rfl)
    | succ f ih =>
      intro i sd y hf hr hy
      have hi : i < 40 := by omega
      refine lc_iload_n 3 dX5_laySettling_20 rfl ?_
      refine lc_ifb_ne 56 dX5_laySettling_21 (by decide) (fun c_5 => ?_) (fun c_5 => ?_)
      · skip
        refine lc_aload_n 0 dX5_laySettling_56 rfl ?_
        refine lc_iload_n 3 dX5_laySettling_57 rfl ?_
        refine lc_ifb_eq 68 dX5_laySettling_58 (by decide) (fun h => absurd (h.symm.trans c_5) (by decide)) (fun _ => ?_)
        refine lc_aload_n 0 dX5_laySettling_61 rfl ?_
        refine lc_gw_mrnd 2 (by omega) fl_X5_194 dX5_laySettling_62 ?_
        refine lc_topi (nI i) (rfl) ?_
        refine lc_goto 69 dX5_laySettling_65 (by decide) ?_
        refine lc_pw_mrnd 2 (by omega) fl_X5_194 dX5_laySettling_69 ?_
        have hRM : (sp_RM σ n seed rum) = (((nI i)), sd, y) := by rw [← hr]; simp [sp_run, c_5]
        refine lc_eq (σ' := lc_w ((lc_uo (lc_ul (sp_bM σ) 0 sd) 12 2 (sp_RM σ n seed rum).1)) 2 y) (by rw [hRM, lc_uo_ul, lc_uo_uo]; rfl) ?_
        refine lc_aload_n 0 dX5_laySettling_72 rfl ?_
        refine lc_aload_n 0 dX5_laySettling_73 rfl ?_
        refine lc_gMTra fl_X5_68 dX5_laySettling_74 ?_
        refine lc_aload_n 0 dX5_laySettling_77 rfl ?_
        refine lc_g_msaved fl_X5_40 dX5_laySettling_78 ?_
        refine lc_sipush (v := 145) dX5_laySettling_81 (by decide) ?_
        refine lc_iald (f := ((lc_uo (lc_ul (sp_bM σ) 0 sd) 12 2 (sp_RM σ n seed rum).1)).2.1 13) (25) 145 (by omega) (rfl) (rfl) (by omega) (by decide) dX5_laySettling_84 ?_
        refine lc_isub dX5_laySettling_85 ?_
        refine lc_topi ((sp_RM σ n seed rum).2.2.2.1) (by rw [hRM]; exact lc_cancel _ _) ?_
        refine lc_pw_mspent 2 (by omega) fl_X5_205 dX5_laySettling_86 ?_
        refine lc_aload_n 0 dX5_laySettling_89 rfl ?_
        refine lc_callV (14) (c_X5_back l G ((lc_uo ((lc_uo (lc_ul (sp_bM σ) 0 sd) 12 2 (sp_RM σ n seed rum).1)) 12 3 ((sp_RM σ n seed rum).2.2.2.1))) (σ.1 2, 0, 0, 0) y (fun q hq => sp_sv_keep σ n seed rum sd q hq) hy.1 hy.2.1 hy.2.2) hR.2.2.2.1 hR.2.2.2.2 mt_X5_back (by omega) (rfl) rfl ml_X5_208 rfl rfl (Nat.le_of_ble_eq_true rfl) ⟨⟨rfl, rfl⟩, Nat.le_of_ble_eq_true rfl, Nat.le_of_ble_eq_true rfl⟩ dX5_laySettling_90 ?_
        show lc_V _ _ _ _ _ 93 _ [] (lc_w ((lc_uo ((lc_uo (lc_ul (sp_bM σ) 0 sd) 12 2 (sp_RM σ n seed rum).1)) 12 3 ((sp_RM σ n seed rum).2.2.2.1))) 2 ((σ.1 2, 0, 0, 0)))
        refine lc_eq (σ' := sp_stM σ n seed rum) (by rw [sp_stM, hRM]; exact lc_w_w (lc_uo (lc_uo (lc_ul (sp_bM σ) 0 sd) 12 2 _) 12 3 _) 2) ?_
        exact lc_vret hR dX5_laySettling_93 (rfl)
      · skip
        refine lc_aload_n 0 dX5_laySettling_24 rfl ?_
        refine lc_gw_mrnd 2 (by omega) fl_X5_194 dX5_laySettling_25 ?_
        refine lc_topi (nI i) (rfl) ?_
        refine lc_bipush (v := 40) dX5_laySettling_28 (by decide) ?_
        refine lc_icmp_ge 56 dX5_laySettling_30 (by decide) (fun h => absurd h.1 (by exact nI_ge (b := 40) hi (by omega))) (fun _ => ?_)
        refine lc_aload_n 0 dX5_laySettling_33 rfl ?_
        refine lc_iload_n 2 dX5_laySettling_34 rfl ?_
        refine lc_callV (14) (c_X5_goRound l G (lc_uo (sp_bM σ) 12 2 (nI i)) sd y n rum hn (hy.2.1.trans hs)) hR.2.2.2.1 hR.2.2.2.2 mt_X5_goRound (by omega) (rfl) rfl ml_X5_201 rfl rfl (Nat.le_of_ble_eq_true rfl) ⟨⟨rfl, rfl⟩, Nat.le_of_ble_eq_true rfl, Nat.le_of_ble_eq_true rfl⟩ dX5_laySettling_35 ?_
        show lc_V _ _ _ _ _ 38 _ [] (lc_w ((lc_ul (lc_uo (sp_bM σ) 12 2 (nI i)) 0 (sp_rdM (σ.2.1 8) n rum (sd, y)).1)) 2 ((sp_rdM (σ.2.1 8) n rum (sd, y)).2))
        refine lc_aload_n 0 dX5_laySettling_38 rfl ?_
        refine lc_dup dX5_laySettling_39 rfl ?_
        refine lc_gw_mrnd 2 (by omega) fl_X5_194 dX5_laySettling_40 ?_
        refine lc_topi (nI i) (rfl) ?_
        refine lc_iconst (v := 1) dX5_laySettling_43 (by decide) ?_
        refine lc_iadd dX5_laySettling_44 ?_
        refine lc_pw_mrnd 2 (by omega) fl_X5_194 dX5_laySettling_45 ?_
        refine lc_eq (σ' := lc_w ((lc_ul (lc_uo (sp_bM σ) 12 2 (nI (i + 1))) 0 (sp_rdM (σ.2.1 8) n rum (sd, y)).1)) 2 ((sp_rdM (σ.2.1 8) n rum (sd, y)).2)) (by rw [lc_uo_ul, lc_uo_uo, nI_1]) ?_
        refine lc_aload_n 0 dX5_laySettling_48 rfl ?_
        refine lc_callV (14) (c_X5_areAllAlike l G ((lc_ul (lc_uo (sp_bM σ) 12 2 (nI (i + 1))) 0 (sp_rdM (σ.2.1 8) n rum (sd, y)).1)) ((sp_rdM (σ.2.1 8) n rum (sd, y)).2) n hn (by rw [(sp_rdM_r _ _ _ _).2.1]; exact hy.2.1.trans hs)) hR.2.2.2.1 hR.2.2.2.2 mt_X5_areAllAlike (by omega) (rfl) rfl ml_X5_197 rfl rfl (Nat.le_of_ble_eq_true rfl) ⟨⟨rfl, rfl⟩, Nat.le_of_ble_eq_true rfl, Nat.le_of_ble_eq_true rfl⟩ dX5_laySettling_49 ?_
        show lc_V _ _ _ _ _ 52 _ [.int (lc_bi (sp_aaM (((sp_rdM (σ.2.1 8) n rum (sd, y)).2).1) n))] (lc_w ((lc_ul (lc_uo (sp_bM σ) 12 2 (nI (i + 1))) 0 (sp_rdM (σ.2.1 8) n rum (sd, y)).1)) 2 ((sp_rdM (σ.2.1 8) n rum (sd, y)).2))
        refine lc_istore_n [(3, .int (lc_bi (sp_aaM (((sp_rdM (σ.2.1 8) n rum (sd, y)).2).1) n))), (0, .ref (G.1 (14))), (1, .int (seed)), (2, .int (lc_bi (rum)))] dX5_laySettling_52 (by decide) rfl ?_
        refine lc_goto 20 dX5_laySettling_53 (by decide) ?_
        refine lc_lv (lv' := [(0, .ref (G.1 (14))), (1, .int (seed)), (2, .int (lc_bi (rum))), (3, .int (lc_bi (sp_aaM (((sp_rdM (σ.2.1 8) n rum (sd, y)).2).1) n)))]) [1, 2, 3, 0] rfl ?_
        exact ih (i + 1) ((sp_rdM (σ.2.1 8) n rum (sd, y)).1) ((sp_rdM (σ.2.1 8) n rum (sd, y)).2) (by omega) (by rw [← hr]; simp [sp_run, c_5]) (by have h9 := sp_rdM_r (σ.2.1 8) n rum (sd, y); exact ⟨h9.1.trans hy.1, h9.2.1.trans hy.2.1, h9.2.2.trans hy.2.2⟩)
  exact KL 40 0 seed.toInt64 ((σ.1 2, 0, 0, 0)) (by omega) rfl ⟨rfl, rfl, rfl⟩

set_option maxRecDepth 100000 in
set_option maxHeartbeats 4000000 in
theorem c_X5_settledNow (l : Launch) (G : lc_G) (σ : lc_S) (x : lc_X) (what : Int32) : lc_M l G yX5_settledNow cX5_settledNow 2 (some .int) { frames := 0, cells := 0, slots := 0, locals := 0 } [.ref (G.1 (14)), .int (what)] (lc_w σ 2 x) (some (.int (if what = 0 then σ.2.1 12 2 else if what = 1 then σ.2.1 12 3 else (σ.2.2 0).toInt32))) (lc_w σ 2 x) := by
  refine lc_entry [(0, .ref (G.1 (14))), (1, .int (what))] (by decide) (Nat.le_of_ble_eq_true rfl) rfl rfl rfl ?_
  intro Γ hR
  refine lc_iload_n 1 dX5_settledNow_0 rfl ?_
  refine lc_if_ne 11 dX5_settledNow_1 (by decide) (fun c_1 => ?_) (fun c_1 => ?_)
  · skip
    refine lc_iload_n 1 dX5_settledNow_11 rfl ?_
    refine lc_iconst (v := 1) dX5_settledNow_12 (by decide) ?_
    refine lc_icmp_ne 23 dX5_settledNow_13 (by decide) (fun c_2 => ?_) (fun c_2 => ?_)
    · skip
      refine lc_aload_n 0 dX5_settledNow_23 rfl ?_
      refine lc_g_mseed fl_X5_172 dX5_settledNow_24 ?_
      refine lc_l2i dX5_settledNow_27 ?_
      exact lc_iret hR dX5_settledNow_28 (by simp [lc_bi, c_1, c_2]) (rfl)
    · skip
      refine lc_aload_n 0 dX5_settledNow_16 rfl ?_
      refine lc_gw_mspent 2 (by omega) fl_X5_205 dX5_settledNow_17 ?_
      refine lc_goto 28 dX5_settledNow_20 (by decide) ?_
      exact lc_iret hR dX5_settledNow_28 (by simp [lc_bi, c_1, c_2]) (rfl)
  · skip
    refine lc_aload_n 0 dX5_settledNow_4 rfl ?_
    refine lc_gw_mrnd 2 (by omega) fl_X5_194 dX5_settledNow_5 ?_
    refine lc_goto 28 dX5_settledNow_8 (by decide) ?_
    exact lc_iret hR dX5_settledNow_28 (by simp [lc_bi, c_1]) (rfl)

set_option maxRecDepth 100000 in
set_option maxHeartbeats 4000000 in
theorem c_X5_settle (l : Launch) (G : lc_G) (σ : lc_S) (n : Nat) (hn : n ≤ 6) (hs : σ.1 2 7 0 = nI n) (seed : Int32) (rum : Bool) (what : Int32) : lc_M l G yX5_settle cX5_settle 4 (some .int) { frames := 8, cells := 0, slots := 0, locals := 184 } [.ref (G.1 (14)), .int (seed), .int (lc_bi (rum)), .int (what)] (σ) (some (.int ((sp_stvM σ n seed rum what).1))) ((sp_stvM σ n seed rum what).2) := by
  refine lc_entry [(0, .ref (G.1 (14))), (1, .int (seed)), (2, .int (lc_bi (rum))), (3, .int (what))] (by decide) (Nat.le_of_ble_eq_true rfl) rfl rfl rfl ?_
  intro Γ hR
  refine lc_iload_n 1 dX5_settle_0 rfl ?_
  refine lc_if_lt 13 dX5_settle_1 (by decide) (fun c_1 => ?_) (fun c_1 => ?_)
  · skip
    refine lc_sipush (v := (-1002)) dX5_settle_13 (by decide) ?_
    exact lc_iret hR dX5_settle_16 (by simp [sp_stvM, c_1]) (by simp [sp_stvM, c_1])
  · skip
    refine lc_iload_n 3 dX5_settle_4 rfl ?_
    refine lc_iconst (v := 0) dX5_settle_5 (by decide) ?_
    refine lc_iconst (v := 2) dX5_settle_6 (by decide) ?_
    refine lc_callS (c_X5_within l G (σ) what 0 2) hR.2.2.2.1 hR.2.2.2.2 mt_X5_within ml_X5_43 rfl rfl (Nat.le_of_ble_eq_true rfl) ⟨⟨rfl, rfl⟩, Nat.le_of_ble_eq_true rfl, Nat.le_of_ble_eq_true rfl⟩ dX5_settle_7 ?_
    show lc_V _ _ _ _ _ 10 _ [.int (lc_bi (sp_win what 0 2))] (σ)
    refine lc_ifb_ne 17 dX5_settle_10 (by decide) (fun c_2 => ?_) (fun c_2 => ?_)
    · skip
      refine lc_eq (σ' := lc_w σ 2 ((σ.1 2, 0, 0, 0))) ((lc_w_w σ 2).symm) ?_
      refine lc_aload_n 0 dX5_settle_17 rfl ?_
      refine lc_gMSites fl_X5_55 dX5_settle_18 ?_
      refine lc_topi (σ.1 2 7 0) (rfl) ?_
      refine lc_if_ne 28 dX5_settle_21 (by decide) (fun c_3 => ?_) (fun c_3 => ?_)
      · skip
        refine lc_eq (σ' := σ) (lc_w_w σ 2) ?_
        refine lc_aload_n 0 dX5_settle_28 rfl ?_
        refine lc_iload_n 1 dX5_settle_29 rfl ?_
        refine lc_iload_n 2 dX5_settle_30 rfl ?_
        refine lc_callV (14) (c_X5_laySettling l G σ n seed rum hn hs) hR.2.2.2.1 hR.2.2.2.2 mt_X5_laySettling (by omega) (rfl) rfl ml_X5_211 rfl rfl (Nat.le_of_ble_eq_true rfl) ⟨⟨rfl, rfl⟩, Nat.le_of_ble_eq_true rfl, Nat.le_of_ble_eq_true rfl⟩ dX5_settle_31 ?_
        show lc_V _ _ _ _ _ 34 _ [] ((sp_stM σ n seed rum))
        refine lc_eq (σ' := lc_w ((sp_stM σ n seed rum)) 2 (((sp_stM σ n seed rum).1 2, 0, 0, 0))) ((lc_w_w (sp_stM σ n seed rum) 2).symm) ?_
        refine lc_aload_n 0 dX5_settle_34 rfl ?_
        refine lc_iload_n 3 dX5_settle_35 rfl ?_
        refine lc_callV (14) (c_X5_settledNow l G ((sp_stM σ n seed rum)) (((sp_stM σ n seed rum).1 2, 0, 0, 0)) what) hR.2.2.2.1 hR.2.2.2.2 mt_X5_settledNow (by omega) (rfl) rfl ml_X5_215 rfl rfl (Nat.le_of_ble_eq_true rfl) ⟨⟨rfl, rfl⟩, Nat.le_of_ble_eq_true rfl, Nat.le_of_ble_eq_true rfl⟩ dX5_settle_36 ?_
        show lc_V _ _ _ _ _ 39 _ [.int (if what = 0 then ((sp_stM σ n seed rum)).2.1 12 2 else if what = 1 then ((sp_stM σ n seed rum)).2.1 12 3 else (((sp_stM σ n seed rum)).2.2 0).toInt32)] (lc_w ((sp_stM σ n seed rum)) 2 (((sp_stM σ n seed rum).1 2, 0, 0, 0)))
        refine lc_topi (sp_pickM what (sp_RM σ n seed rum)) rfl ?_
        refine lc_eq (σ' := sp_stM σ n seed rum) (lc_w_w _ 2) ?_
        exact lc_iret hR dX5_settle_39 (by simp [sp_stvM, c_1, c_2, c_3]) (by simp [sp_stvM, c_1, c_2, c_3])
      · skip
        refine lc_eq (σ' := σ) (lc_w_w σ 2) ?_
        refine lc_sipush (v := (-1003)) dX5_settle_24 (by decide) ?_
        exact lc_iret hR dX5_settle_27 (by simp [sp_stvM, c_1, c_2, c_3]) (by simp [sp_stvM, c_1, c_2, c_3])
    · skip
      refine lc_sipush (v := (-1002)) dX5_settle_13 (by decide) ?_
      exact lc_iret hR dX5_settle_16 (by simp [sp_stvM, c_1, c_2]) (by simp [sp_stvM, c_1, c_2])

set_option maxRecDepth 100000 in
set_option maxHeartbeats 4000000 in
theorem c_X5_howMany (l : Launch) (G : lc_G) (σ : lc_S) (x : lc_X) (what : Int32) : lc_M l G yX5_howMany cX5_howMany 2 (some .int) { frames := 1, cells := 0, slots := 0, locals := 22 } [.ref (G.1 (14)), .int (what)] (lc_w σ 2 x) (some (.int (sp_count σ x 2 12 what))) (lc_w σ 2 x) := by
  refine lc_entry [(0, .ref (G.1 (14))), (1, .int (what))] (by decide) (Nat.le_of_ble_eq_true rfl) rfl rfl rfl ?_
  intro Γ hR
  refine lc_iload_n 1 dX5_howMany_0 rfl ?_
  rcases pk_ix what (n := 12) (by decide) with hw0 | hw0 | ⟨wi, hwi, ewi⟩
  · skip
    refine lc_tabOut 104 dX5_howMany_1 (Or.inl (Int32.lt_iff_toInt_lt.mp hw0)) (by decide) ?_
    refine lc_iload_n 1 dX5_howMany_104 rfl ?_
    refine lc_bipush (v := 7) dX5_howMany_105 (by decide) ?_
    refine lc_bipush (v := 10) dX5_howMany_107 (by decide) ?_
    refine lc_callS (c_X5_within l G (lc_w σ 2 x) what 7 10) hR.2.2.2.1 hR.2.2.2.2 mt_X5_within ml_X5_43 rfl rfl (Nat.le_of_ble_eq_true rfl) ⟨⟨rfl, rfl⟩, Nat.le_of_ble_eq_true rfl, Nat.le_of_ble_eq_true rfl⟩ dX5_howMany_109 ?_
    show lc_V _ _ _ _ _ 112 _ [.int (lc_bi (sp_win what 7 10))] (lc_w σ 2 x)
    refine lc_ifb_eq 127 dX5_howMany_112 (by decide) (fun _ => ?_) (fun h => absurd (h.symm.trans (sp_win_out (lo := 7) (hi := 10) (v := what) (Or.inl (Int32.lt_trans hw0 (by decide))))) (by decide))
    refine lc_sipush (v := (-1002)) dX5_howMany_127 (by decide) ?_
    exact lc_iret hR dX5_howMany_130 (by simp [sp_count, sp_win_out (lo := 0) (hi := 11) (v := what) (Or.inl hw0)]) (rfl)
  · skip
    refine lc_tabOut 104 dX5_howMany_1 (Or.inr (by have h9 := Int32.le_iff_toInt_le.mp hw0; rw [nI_toInt (by decide)] at h9; omega)) (by decide) ?_
    refine lc_iload_n 1 dX5_howMany_104 rfl ?_
    refine lc_bipush (v := 7) dX5_howMany_105 (by decide) ?_
    refine lc_bipush (v := 10) dX5_howMany_107 (by decide) ?_
    refine lc_callS (c_X5_within l G (lc_w σ 2 x) what 7 10) hR.2.2.2.1 hR.2.2.2.2 mt_X5_within ml_X5_43 rfl rfl (Nat.le_of_ble_eq_true rfl) ⟨⟨rfl, rfl⟩, Nat.le_of_ble_eq_true rfl, Nat.le_of_ble_eq_true rfl⟩ dX5_howMany_109 ?_
    show lc_V _ _ _ _ _ 112 _ [.int (lc_bi (sp_win what 7 10))] (lc_w σ 2 x)
    refine lc_ifb_eq 127 dX5_howMany_112 (by decide) (fun _ => ?_) (fun h => absurd (h.symm.trans (sp_win_out (lo := 7) (hi := 10) (v := what) (Or.inr (Int32.lt_of_lt_of_le (by decide) hw0)))) (by decide))
    refine lc_sipush (v := (-1002)) dX5_howMany_127 (by decide) ?_
    exact lc_iret hR dX5_howMany_130 (by simp [sp_count, sp_win_out (lo := 0) (hi := 11) (v := what) (Or.inr (Int32.lt_of_lt_of_le (by decide) hw0))]) (rfl)
  · skip
    subst ewi
    match wi, hwi with
    | 0, _ =>
      refine lc_tabIn 64 0 dX5_howMany_1 (by decide) (by decide) rfl (by decide) ?_
      refine lc_aload_n 0 dX5_howMany_64 rfl ?_
      refine lc_gw_mlen 2 (by omega) fl_X5_47 dX5_howMany_65 ?_
      exact lc_iret hR dX5_howMany_68 (rfl) (rfl)
    | 1, _ =>
      refine lc_tabIn 69 1 dX5_howMany_1 (by decide) (by decide) rfl (by decide) ?_
      refine lc_aload_n 0 dX5_howMany_69 rfl ?_
      refine lc_gMSites fl_X5_55 dX5_howMany_70 ?_
      exact lc_iret hR dX5_howMany_73 (rfl) (rfl)
    | 2, _ =>
      refine lc_tabIn 74 2 dX5_howMany_1 (by decide) (by decide) rfl (by decide) ?_
      refine lc_aload_n 0 dX5_howMany_74 rfl ?_
      refine lc_gMNow fl_X5_62 dX5_howMany_75 ?_
      exact lc_iret hR dX5_howMany_78 (rfl) (rfl)
    | 3, _ =>
      refine lc_tabIn 79 3 dX5_howMany_1 (by decide) (by decide) rfl (by decide) ?_
      refine lc_aload_n 0 dX5_howMany_79 rfl ?_
      refine lc_gMOff fl_X5_65 dX5_howMany_80 ?_
      exact lc_iret hR dX5_howMany_83 (rfl) (rfl)
    | 4, _ =>
      refine lc_tabIn 84 4 dX5_howMany_1 (by decide) (by decide) rfl (by decide) ?_
      refine lc_aload_n 0 dX5_howMany_84 rfl ?_
      refine lc_gMTra fl_X5_68 dX5_howMany_85 ?_
      exact lc_iret hR dX5_howMany_88 (rfl) (rfl)
    | 5, _ =>
      refine lc_tabIn 89 5 dX5_howMany_1 (by decide) (by decide) rfl (by decide) ?_
      refine lc_aload_n 0 dX5_howMany_89 rfl ?_
      refine lc_gMWok fl_X5_71 dX5_howMany_90 ?_
      exact lc_iret hR dX5_howMany_93 (rfl) (rfl)
    | 6, _ =>
      refine lc_tabIn 94 6 dX5_howMany_1 (by decide) (by decide) rfl (by decide) ?_
      refine lc_aload_n 0 dX5_howMany_94 rfl ?_
      refine lc_gMGon fl_X5_74 dX5_howMany_95 ?_
      exact lc_iret hR dX5_howMany_98 (rfl) (rfl)
    | 7, _ =>
      refine lc_tabIn 104 7 dX5_howMany_1 (by decide) (by decide) rfl (by decide) ?_
      refine lc_iload_n 1 dX5_howMany_104 rfl ?_
      refine lc_bipush (v := 7) dX5_howMany_105 (by decide) ?_
      refine lc_bipush (v := 10) dX5_howMany_107 (by decide) ?_
      refine lc_callS (c_X5_within l G (lc_w σ 2 x) (nI 7) 7 10) hR.2.2.2.1 hR.2.2.2.2 mt_X5_within ml_X5_43 rfl rfl (Nat.le_of_ble_eq_true rfl) ⟨⟨rfl, rfl⟩, Nat.le_of_ble_eq_true rfl, Nat.le_of_ble_eq_true rfl⟩ dX5_howMany_109 ?_
      show lc_V _ _ _ _ _ 112 _ [.int (lc_bi (sp_win (nI 7) 7 10))] (lc_w σ 2 x)
      refine lc_ifb_eq 127 dX5_howMany_112 (by decide) (fun h => absurd h (by decide)) (fun _ => ?_)
      refine lc_aload_n 0 dX5_howMany_115 rfl ?_
      refine lc_g_mtold fl_X5_16 dX5_howMany_116 ?_
      refine lc_iload_n 1 dX5_howMany_119 rfl ?_
      refine lc_bipush (v := 7) dX5_howMany_120 (by decide) ?_
      refine lc_isub dX5_howMany_122 ?_
      refine lc_topi (nI 0) (by decide) ?_
      refine lc_iald (f := x.1 6) (17) 0 (by omega) (rfl) (rfl) (by omega) (by decide) dX5_howMany_123 ?_
      refine lc_goto 130 dX5_howMany_124 (by decide) ?_
      exact lc_iret hR dX5_howMany_130 (rfl) (rfl)
    | 8, _ =>
      refine lc_tabIn 104 8 dX5_howMany_1 (by decide) (by decide) rfl (by decide) ?_
      refine lc_iload_n 1 dX5_howMany_104 rfl ?_
      refine lc_bipush (v := 7) dX5_howMany_105 (by decide) ?_
      refine lc_bipush (v := 10) dX5_howMany_107 (by decide) ?_
      refine lc_callS (c_X5_within l G (lc_w σ 2 x) (nI 8) 7 10) hR.2.2.2.1 hR.2.2.2.2 mt_X5_within ml_X5_43 rfl rfl (Nat.le_of_ble_eq_true rfl) ⟨⟨rfl, rfl⟩, Nat.le_of_ble_eq_true rfl, Nat.le_of_ble_eq_true rfl⟩ dX5_howMany_109 ?_
      show lc_V _ _ _ _ _ 112 _ [.int (lc_bi (sp_win (nI 8) 7 10))] (lc_w σ 2 x)
      refine lc_ifb_eq 127 dX5_howMany_112 (by decide) (fun h => absurd h (by decide)) (fun _ => ?_)
      refine lc_aload_n 0 dX5_howMany_115 rfl ?_
      refine lc_g_mtold fl_X5_16 dX5_howMany_116 ?_
      refine lc_iload_n 1 dX5_howMany_119 rfl ?_
      refine lc_bipush (v := 7) dX5_howMany_120 (by decide) ?_
      refine lc_isub dX5_howMany_122 ?_
      refine lc_topi (nI 1) (by decide) ?_
      refine lc_iald (f := x.1 6) (17) 1 (by omega) (rfl) (rfl) (by omega) (by decide) dX5_howMany_123 ?_
      refine lc_goto 130 dX5_howMany_124 (by decide) ?_
      exact lc_iret hR dX5_howMany_130 (rfl) (rfl)
    | 9, _ =>
      refine lc_tabIn 104 9 dX5_howMany_1 (by decide) (by decide) rfl (by decide) ?_
      refine lc_iload_n 1 dX5_howMany_104 rfl ?_
      refine lc_bipush (v := 7) dX5_howMany_105 (by decide) ?_
      refine lc_bipush (v := 10) dX5_howMany_107 (by decide) ?_
      refine lc_callS (c_X5_within l G (lc_w σ 2 x) (nI 9) 7 10) hR.2.2.2.1 hR.2.2.2.2 mt_X5_within ml_X5_43 rfl rfl (Nat.le_of_ble_eq_true rfl) ⟨⟨rfl, rfl⟩, Nat.le_of_ble_eq_true rfl, Nat.le_of_ble_eq_true rfl⟩ dX5_howMany_109 ?_
      show lc_V _ _ _ _ _ 112 _ [.int (lc_bi (sp_win (nI 9) 7 10))] (lc_w σ 2 x)
      refine lc_ifb_eq 127 dX5_howMany_112 (by decide) (fun h => absurd h (by decide)) (fun _ => ?_)
      refine lc_aload_n 0 dX5_howMany_115 rfl ?_
      refine lc_g_mtold fl_X5_16 dX5_howMany_116 ?_
      refine lc_iload_n 1 dX5_howMany_119 rfl ?_
      refine lc_bipush (v := 7) dX5_howMany_120 (by decide) ?_
      refine lc_isub dX5_howMany_122 ?_
      refine lc_topi (nI 2) (by decide) ?_
      refine lc_iald (f := x.1 6) (17) 2 (by omega) (rfl) (rfl) (by omega) (by decide) dX5_howMany_123 ?_
      refine lc_goto 130 dX5_howMany_124 (by decide) ?_
      exact lc_iret hR dX5_howMany_130 (rfl) (rfl)
    | 10, _ =>
      refine lc_tabIn 104 10 dX5_howMany_1 (by decide) (by decide) rfl (by decide) ?_
      refine lc_iload_n 1 dX5_howMany_104 rfl ?_
      refine lc_bipush (v := 7) dX5_howMany_105 (by decide) ?_
      refine lc_bipush (v := 10) dX5_howMany_107 (by decide) ?_
      refine lc_callS (c_X5_within l G (lc_w σ 2 x) (nI 10) 7 10) hR.2.2.2.1 hR.2.2.2.2 mt_X5_within ml_X5_43 rfl rfl (Nat.le_of_ble_eq_true rfl) ⟨⟨rfl, rfl⟩, Nat.le_of_ble_eq_true rfl, Nat.le_of_ble_eq_true rfl⟩ dX5_howMany_109 ?_
      show lc_V _ _ _ _ _ 112 _ [.int (lc_bi (sp_win (nI 10) 7 10))] (lc_w σ 2 x)
      refine lc_ifb_eq 127 dX5_howMany_112 (by decide) (fun h => absurd h (by decide)) (fun _ => ?_)
      refine lc_aload_n 0 dX5_howMany_115 rfl ?_
      refine lc_g_mtold fl_X5_16 dX5_howMany_116 ?_
      refine lc_iload_n 1 dX5_howMany_119 rfl ?_
      refine lc_bipush (v := 7) dX5_howMany_120 (by decide) ?_
      refine lc_isub dX5_howMany_122 ?_
      refine lc_topi (nI 3) (by decide) ?_
      refine lc_iald (f := x.1 6) (17) 3 (by omega) (rfl) (rfl) (by omega) (by decide) dX5_howMany_123 ?_
      refine lc_goto 130 dX5_howMany_124 (by decide) ?_
      exact lc_iret hR dX5_howMany_130 (rfl) (rfl)
    | 11, _ =>
      refine lc_tabIn 99 11 dX5_howMany_1 (by decide) (by decide) rfl (by decide) ?_
      refine lc_aload_n 0 dX5_howMany_99 rfl ?_
      refine lc_gw_mlines 2 (by omega) fl_X5_77 dX5_howMany_100 ?_
      exact lc_iret hR dX5_howMany_103 (rfl) (rfl)
    | wi + 12, h => exact absurd h (by omega)

set_option maxRecDepth 100000 in
set_option maxHeartbeats 4000000 in
theorem c_X5_count (l : Launch) (G : lc_G) (σ : lc_S) (x : lc_X) (what : Int32) : lc_M l G yX5_count cX5_count 2 (some .int) { frames := 2, cells := 0, slots := 0, locals := 43 } [.ref (G.1 (14)), .int (what)] (lc_w σ 2 x) (some (.int (sp_count σ x 2 12 what))) (lc_w σ 2 x) := by
  refine lc_entry [(0, .ref (G.1 (14))), (1, .int (what))] (by decide) (Nat.le_of_ble_eq_true rfl) rfl rfl rfl ?_
  intro Γ hR
  refine lc_aload_n 0 dX5_count_0 rfl ?_
  refine lc_iload_n 1 dX5_count_1 rfl ?_
  refine lc_callV (14) (c_X5_howMany l G σ x what) hR.2.2.2.1 hR.2.2.2.2 mt_X5_howMany (by omega) (rfl) rfl ml_X5_218 rfl rfl (Nat.le_of_ble_eq_true rfl) ⟨⟨rfl, rfl⟩, Nat.le_of_ble_eq_true rfl, Nat.le_of_ble_eq_true rfl⟩ dX5_count_2 ?_
  show lc_V _ _ _ _ _ 5 _ [.int (sp_count σ x 2 12 what)] (lc_w σ 2 x)
  exact lc_iret hR dX5_count_5 (rfl) (rfl)

set_option maxRecDepth 100000 in
set_option maxHeartbeats 4000000 in
theorem c_X5_mix (l : Launch) (G : lc_G) (σ : lc_S) (h v : Int64) (x : lc_X) : lc_M l G yX5_mix cX5_mix 3 none { frames := 0, cells := 0, slots := 0, locals := 0 } [.ref (G.1 (14)), .long (v)] (lc_w ((lc_ul σ 1 h)) 2 x) none (lc_w ((lc_ul σ 1 (31 * h + v))) 2 x) := by
  refine lc_entry [(0, .ref (G.1 (14))), (1, .long (v))] (by decide) (Nat.le_of_ble_eq_true rfl) rfl rfl rfl ?_
  intro Γ hR
  refine lc_aload_n 0 dX5_mix_0 rfl ?_
  refine lc_ldc2 kc_X5_221 dX5_mix_1 ?_
  refine lc_aload_n 0 dX5_mix_4 rfl ?_
  refine lc_g_mh fl_X5_223 dX5_mix_5 ?_
  refine lc_topl (h) (rfl) ?_
  refine lc_lmul dX5_mix_8 ?_
  refine lc_lload_n 1 dX5_mix_9 rfl ?_
  refine lc_ladd dX5_mix_10 ?_
  refine lc_topl (31 * h + v) (rfl) ?_
  refine lc_p_mh fl_X5_223 dX5_mix_11 ?_
  refine lc_eq (σ' := lc_w ((lc_ul σ 1 (31 * h + v))) 2 x) (by rw [lc_ul_ul]) ?_
  exact lc_vret hR dX5_mix_14 (rfl)

set_option maxRecDepth 100000 in
set_option maxHeartbeats 4000000 in
theorem c_X5_mixSite (l : Launch) (G : lc_G) (σ : lc_S) (x : lc_X) (n s : Nat) (hn : n ≤ 6) (hs : x.1 7 0 = nI n) (hsn : s < n) (h : Int64) : lc_M l G yX5_mixSite cX5_mixSite 4 none { frames := 4, cells := 0, slots := 0, locals := 89 } [.ref (G.1 (14)), .int (nI s)] (lc_w ((lc_ul σ 1 h)) 2 x) none (lc_w ((lc_ul σ 1 ((sp_msh sp_alikeM x.1 n s h)))) 2 x) := by
  refine lc_entry [(0, .ref (G.1 (14))), (1, .int (nI s))] (by decide) (Nat.le_of_ble_eq_true rfl) rfl rfl rfl ?_
  intro Γ hR
  refine lc_iconst (v := 0) dX5_mixSite_0 (by decide) ?_
  refine lc_istore_n [(2, .int (0)), (0, .ref (G.1 (14))), (1, .int (nI s))] dX5_mixSite_1 (by decide) rfl ?_
  refine lc_lv (lv' := [(0, .ref (G.1 (14))), (1, .int (nI s)), (2, .int (0))]) [1, 2, 0] rfl ?_
  refine lc_forI (α := Int64) (fun k z => lc_V G Γ cX5_mixSite 4 RX5 2 [(0, .ref (G.1 (14))), (1, .int (nI s)), (2, .int (nI k))] [] (lc_w ((lc_ul σ 1 z)) 2 x)) (fun _ _ => True) (sp_ksh x.1 s) 4 (fun _ _ _ _ => trivial) (fun k z hk hIk kk => ?_) h (trivial) (fun hIk => ?_)
  · skip
    show lc_V G Γ cX5_mixSite 4 RX5 2 [(0, .ref (G.1 (14))), (1, .int (nI s)), (2, .int (nI k))] [] (lc_w ((lc_ul σ 1 z)) 2 x)
    refine lc_iload_n 2 dX5_mixSite_2 rfl ?_
    refine lc_iconst (v := 4) dX5_mixSite_3 (by decide) ?_
    refine lc_icmp_ge 42 dX5_mixSite_4 (by decide) (fun h => absurd h.1 (by exact nI_ge (b := 4) hk (by omega))) (fun _ => ?_)
    refine lc_iconst (v := 0) dX5_mixSite_7 (by decide) ?_
    refine lc_istore_n [(3, .int (0)), (0, .ref (G.1 (14))), (1, .int (nI s)), (2, .int (nI k))] dX5_mixSite_8 (by decide) rfl ?_
    refine lc_lv (lv' := [(0, .ref (G.1 (14))), (1, .int (nI s)), (2, .int (nI k)), (3, .int (0))]) [1, 2, 3, 0] rfl ?_
    refine lc_forI (α := Int64) (fun w y => lc_V G Γ cX5_mixSite 4 RX5 9 [(0, .ref (G.1 (14))), (1, .int (nI s)), (2, .int (nI k)), (3, .int (nI w))] [] (lc_w ((lc_ul σ 1 y)) 2 x)) (fun _ _ => True) (fun w h => sp_mx h (sp_hasv x.1 (4 * s + k) w)) 7 (fun _ _ _ _ => trivial) (fun w y hw hIw kw => ?_) z (trivial) (fun hIw => ?_)
    · skip
      show lc_V G Γ cX5_mixSite 4 RX5 9 [(0, .ref (G.1 (14))), (1, .int (nI s)), (2, .int (nI k)), (3, .int (nI w))] [] (lc_w ((lc_ul σ 1 y)) 2 x)
      refine lc_iload_n 3 dX5_mixSite_9 rfl ?_
      refine lc_bipush (v := 7) dX5_mixSite_10 (by decide) ?_
      refine lc_icmp_ge 36 dX5_mixSite_12 (by decide) (fun h => absurd h.1 (by exact nI_ge (b := 7) hw (by omega))) (fun _ => ?_)
      refine lc_aload_n 0 dX5_mixSite_15 rfl ?_
      refine lc_aload_n 0 dX5_mixSite_16 rfl ?_
      refine lc_iconst (v := 4) dX5_mixSite_17 (by decide) ?_
      refine lc_iload_n 1 dX5_mixSite_18 rfl ?_
      refine lc_imul dX5_mixSite_19 ?_
      refine lc_iload_n 2 dX5_mixSite_20 rfl ?_
      refine lc_iadd dX5_mixSite_21 ?_
      refine lc_topi (nI (4 * s + k)) (lc_m4la s k) ?_
      refine lc_iload_n 3 dX5_mixSite_22 rfl ?_
      refine lc_callV (14) (c_X5_itemNow l G ((lc_ul σ 1 y)) x (4 * s + k) (by omega) w (by omega)) hR.2.2.2.1 hR.2.2.2.2 mt_X5_itemNow (by omega) (rfl) rfl ml_X5_161 rfl rfl (Nat.le_of_ble_eq_true rfl) ⟨⟨rfl, rfl⟩, Nat.le_of_ble_eq_true rfl, Nat.le_of_ble_eq_true rfl⟩ dX5_mixSite_23 ?_
      show lc_V _ _ _ _ _ 26 _ [.int (sp_hasv x.1 (4 * s + k) w), .ref (G.1 (14))] (lc_w ((lc_ul σ 1 y)) 2 x)
      refine lc_i2l dX5_mixSite_26 ?_
      refine lc_callV (14) (c_X5_mix l G σ y ((sp_hasv x.1 (4 * s + k) w).toInt64) x) hR.2.2.2.1 hR.2.2.2.2 mt_X5_mix (by omega) (rfl) rfl ml_X5_226 rfl rfl (Nat.le_of_ble_eq_true rfl) ⟨⟨rfl, rfl⟩, Nat.le_of_ble_eq_true rfl, Nat.le_of_ble_eq_true rfl⟩ dX5_mixSite_27 ?_
      show lc_V _ _ _ _ _ 30 _ [] (lc_w ((lc_ul σ 1 (31 * y + ((sp_hasv x.1 (4 * s + k) w).toInt64)))) 2 x)
      refine lc_iinc 3 (nI (w + 1)) [(3, .int (nI (w + 1))), (0, .ref (G.1 (14))), (1, .int (nI s)), (2, .int (nI k))] dX5_mixSite_30 rfl (lc_inc1 w) (by decide) rfl ?_
      refine lc_goto 9 dX5_mixSite_33 (by decide) ?_
      refine lc_lv (lv' := [(0, .ref (G.1 (14))), (1, .int (nI s)), (2, .int (nI k)), (3, .int (nI (w + 1)))]) [1, 2, 3, 0] rfl ?_
      rw [show sp_mx y (sp_hasv x.1 (4 * s + k) w) = (31 * y + ((sp_hasv x.1 (4 * s + k) w).toInt64)) from rfl] at kw
      exact kw
    · skip
      show lc_V G Γ cX5_mixSite 4 RX5 9 [(0, .ref (G.1 (14))), (1, .int (nI s)), (2, .int (nI k)), (3, .int (nI 7))] [] (lc_w ((lc_ul σ 1 ((sp_ksh x.1 s k z)))) 2 x)
      refine lc_iload_n 3 dX5_mixSite_9 rfl ?_
      refine lc_bipush (v := 7) dX5_mixSite_10 (by decide) ?_
      refine lc_icmp_ge 36 dX5_mixSite_12 (by decide) (fun _ => ?_) (fun h => absurd h.1 (by exact nI_nlt (a := 7) (b := 7) (Nat.le_refl _) (by omega)))
      refine lc_iinc 2 (nI (k + 1)) [(2, .int (nI (k + 1))), (0, .ref (G.1 (14))), (1, .int (nI s)), (3, .int (nI 7))] dX5_mixSite_36 rfl (lc_inc1 k) (by decide) rfl ?_
      refine lc_goto 2 dX5_mixSite_39 (by decide) ?_
      refine lc_lv (lv' := [(0, .ref (G.1 (14))), (1, .int (nI s)), (2, .int (nI (k + 1)))]) [1, 2, 0] rfl ?_
      rw [show (sp_ksh x.1 s) k z = sp_ksh x.1 s k z from rfl] at kk
      exact kk
  · skip
    show lc_V G Γ cX5_mixSite 4 RX5 2 [(0, .ref (G.1 (14))), (1, .int (nI s)), (2, .int (nI 4))] [] (lc_w ((lc_ul σ 1 ((sp_it (sp_ksh x.1 s) 4 h)))) 2 x)
    refine lc_iload_n 2 dX5_mixSite_2 rfl ?_
    refine lc_iconst (v := 4) dX5_mixSite_3 (by decide) ?_
    refine lc_icmp_ge 42 dX5_mixSite_4 (by decide) (fun _ => ?_) (fun h => absurd h.1 (by exact nI_nlt (a := 4) (b := 4) (Nat.le_refl _) (by omega)))
    refine lc_iconst (v := 0) dX5_mixSite_42 (by decide) ?_
    refine lc_istore_n [(2, .int (0)), (0, .ref (G.1 (14))), (1, .int (nI s))] dX5_mixSite_43 (by decide) rfl ?_
    refine lc_lv (lv' := [(0, .ref (G.1 (14))), (1, .int (nI s)), (2, .int (0))]) [1, 2, 0] rfl ?_
    refine lc_forI (α := Int64) (fun kd z => lc_V G Γ cX5_mixSite 4 RX5 44 [(0, .ref (G.1 (14))), (1, .int (nI s)), (2, .int (nI kd))] [] (lc_w ((lc_ul σ 1 z)) 2 x)) (fun _ _ => True) (fun kd h => sp_mx h (sp_on (sp_nks x.1 s (nI kd)))) 3 (fun _ _ _ _ => trivial) (fun kd z hkd hIkd kkd => ?_) ((sp_it (sp_ksh x.1 s) 4 h)) (trivial) (fun hIkd => ?_)
    · skip
      show lc_V G Γ cX5_mixSite 4 RX5 44 [(0, .ref (G.1 (14))), (1, .int (nI s)), (2, .int (nI kd))] [] (lc_w ((lc_ul σ 1 z)) 2 x)
      refine lc_iload_n 2 dX5_mixSite_44 rfl ?_
      refine lc_iconst (v := 3) dX5_mixSite_45 (by decide) ?_
      refine lc_icmp_ge 66 dX5_mixSite_46 (by decide) (fun h => absurd h.1 (by exact nI_ge (b := 3) hkd (by omega))) (fun _ => ?_)
      refine lc_aload_n 0 dX5_mixSite_49 rfl ?_
      refine lc_aload_n 0 dX5_mixSite_50 rfl ?_
      refine lc_iload_n 1 dX5_mixSite_51 rfl ?_
      refine lc_iload_n 2 dX5_mixSite_52 rfl ?_
      refine lc_callV (14) (c_X5_newestNow l G ((lc_ul σ 1 z)) x s (nI kd) (by omega)) hR.2.2.2.1 hR.2.2.2.2 mt_X5_newestNow (by omega) (rfl) rfl ml_X5_164 rfl rfl (Nat.le_of_ble_eq_true rfl) ⟨⟨rfl, rfl⟩, Nat.le_of_ble_eq_true rfl, Nat.le_of_ble_eq_true rfl⟩ dX5_mixSite_53 ?_
      show lc_V _ _ _ _ _ 56 _ [.int (sp_on (sp_nks x.1 s (nI kd))), .ref (G.1 (14))] (lc_w ((lc_ul σ 1 z)) 2 x)
      refine lc_i2l dX5_mixSite_56 ?_
      refine lc_callV (14) (c_X5_mix l G σ z ((sp_on (sp_nks x.1 s (nI kd))).toInt64) x) hR.2.2.2.1 hR.2.2.2.2 mt_X5_mix (by omega) (rfl) rfl ml_X5_226 rfl rfl (Nat.le_of_ble_eq_true rfl) ⟨⟨rfl, rfl⟩, Nat.le_of_ble_eq_true rfl, Nat.le_of_ble_eq_true rfl⟩ dX5_mixSite_57 ?_
      show lc_V _ _ _ _ _ 60 _ [] (lc_w ((lc_ul σ 1 (31 * z + ((sp_on (sp_nks x.1 s (nI kd))).toInt64)))) 2 x)
      refine lc_iinc 2 (nI (kd + 1)) [(2, .int (nI (kd + 1))), (0, .ref (G.1 (14))), (1, .int (nI s))] dX5_mixSite_60 rfl (lc_inc1 kd) (by decide) rfl ?_
      refine lc_goto 44 dX5_mixSite_63 (by decide) ?_
      refine lc_lv (lv' := [(0, .ref (G.1 (14))), (1, .int (nI s)), (2, .int (nI (kd + 1)))]) [1, 2, 0] rfl ?_
      rw [show sp_mx z (sp_on (sp_nks x.1 s (nI kd))) = (31 * z + ((sp_on (sp_nks x.1 s (nI kd))).toInt64)) from rfl] at kkd
      exact kkd
    · skip
      show lc_V G Γ cX5_mixSite 4 RX5 44 [(0, .ref (G.1 (14))), (1, .int (nI s)), (2, .int (nI 3))] [] (lc_w ((lc_ul σ 1 ((sp_it (fun kd h => sp_mx h (sp_on (sp_nks x.1 s (nI kd)))) 3 (sp_it (sp_ksh x.1 s) 4 h))))) 2 x)
      refine lc_iload_n 2 dX5_mixSite_44 rfl ?_
      refine lc_iconst (v := 3) dX5_mixSite_45 (by decide) ?_
      refine lc_icmp_ge 66 dX5_mixSite_46 (by decide) (fun _ => ?_) (fun h => absurd h.1 (by exact nI_nlt (a := 3) (b := 3) (Nat.le_refl _) (by omega)))
      refine lc_iconst (v := 0) dX5_mixSite_66 (by decide) ?_
      refine lc_istore_n [(2, .int (0)), (0, .ref (G.1 (14))), (1, .int (nI s))] dX5_mixSite_67 (by decide) rfl ?_
      refine lc_lv (lv' := [(0, .ref (G.1 (14))), (1, .int (nI s)), (2, .int (0))]) [1, 2, 0] rfl ?_
      refine lc_forI (α := Int64) (fun o z => lc_V G Γ cX5_mixSite 4 RX5 68 [(0, .ref (G.1 (14))), (1, .int (nI s)), (2, .int (nI o))] [] (lc_w ((lc_ul σ 1 z)) 2 x)) (fun _ _ => True) (fun o h => sp_mx h (lc_bi (sp_alikeM x.1 s o))) n (fun _ _ _ _ => trivial) (fun o z ho hIo ko => ?_) ((sp_it (fun kd h => sp_mx h (sp_on (sp_nks x.1 s (nI kd)))) 3 (sp_it (sp_ksh x.1 s) 4 h))) (trivial) (fun hIo => ?_)
      · skip
        show lc_V G Γ cX5_mixSite 4 RX5 68 [(0, .ref (G.1 (14))), (1, .int (nI s)), (2, .int (nI o))] [] (lc_w ((lc_ul σ 1 z)) 2 x)
        refine lc_iload_n 2 dX5_mixSite_68 rfl ?_
        refine lc_aload_n 0 dX5_mixSite_69 rfl ?_
        refine lc_gMSites fl_X5_55 dX5_mixSite_70 ?_
        refine lc_icmp_ge 100 dX5_mixSite_73 (by decide) (fun h => absurd h.1 (by rw [hs]; exact nI_ge (b := n) ho (by omega))) (fun _ => ?_)
        refine lc_aload_n 0 dX5_mixSite_76 rfl ?_
        refine lc_aload_n 0 dX5_mixSite_77 rfl ?_
        refine lc_iload_n 1 dX5_mixSite_78 rfl ?_
        refine lc_iload_n 2 dX5_mixSite_79 rfl ?_
        refine lc_callV (14) (c_X5_areAlike l G ((lc_ul σ 1 z)) x s o (by omega) (by omega)) hR.2.2.2.1 hR.2.2.2.2 mt_X5_areAlike (by omega) (rfl) rfl ml_X5_146 rfl rfl (Nat.le_of_ble_eq_true rfl) ⟨⟨rfl, rfl⟩, Nat.le_of_ble_eq_true rfl, Nat.le_of_ble_eq_true rfl⟩ dX5_mixSite_80 ?_
        show lc_V _ _ _ _ _ 83 _ [.int (lc_bi (sp_alikeM x.1 s o)), .ref (G.1 (14))] (lc_w ((lc_ul σ 1 z)) 2 x)
        refine lc_ifb_eq 90 dX5_mixSite_83 (by decide) (fun c_8 => ?_) (fun c_8 => ?_)
        · skip
          refine lc_lconst (v := 0) dX5_mixSite_90 (by decide) ?_
          refine lc_callV (14) (c_X5_mix l G σ z 0 x) hR.2.2.2.1 hR.2.2.2.2 mt_X5_mix (by omega) (rfl) rfl ml_X5_226 rfl rfl (Nat.le_of_ble_eq_true rfl) ⟨⟨rfl, rfl⟩, Nat.le_of_ble_eq_true rfl, Nat.le_of_ble_eq_true rfl⟩ dX5_mixSite_91 ?_
          show lc_V _ _ _ _ _ 94 _ [] (lc_w ((lc_ul σ 1 (31 * z + 0))) 2 x)
          refine lc_iinc 2 (nI (o + 1)) [(2, .int (nI (o + 1))), (0, .ref (G.1 (14))), (1, .int (nI s))] dX5_mixSite_94 rfl (lc_inc1 o) (by decide) rfl ?_
          refine lc_goto 68 dX5_mixSite_97 (by decide) ?_
          refine lc_lv (lv' := [(0, .ref (G.1 (14))), (1, .int (nI s)), (2, .int (nI (o + 1)))]) [1, 2, 0] rfl ?_
          rw [show sp_mx z (lc_bi (sp_alikeM x.1 s o)) = (31 * z + 0) from by rw [c_8]; rfl] at ko
          exact ko
        · skip
          refine lc_lconst (v := 1) dX5_mixSite_86 (by decide) ?_
          refine lc_goto 91 dX5_mixSite_87 (by decide) ?_
          refine lc_callV (14) (c_X5_mix l G σ z 1 x) hR.2.2.2.1 hR.2.2.2.2 mt_X5_mix (by omega) (rfl) rfl ml_X5_226 rfl rfl (Nat.le_of_ble_eq_true rfl) ⟨⟨rfl, rfl⟩, Nat.le_of_ble_eq_true rfl, Nat.le_of_ble_eq_true rfl⟩ dX5_mixSite_91 ?_
          show lc_V _ _ _ _ _ 94 _ [] (lc_w ((lc_ul σ 1 (31 * z + 1))) 2 x)
          refine lc_iinc 2 (nI (o + 1)) [(2, .int (nI (o + 1))), (0, .ref (G.1 (14))), (1, .int (nI s))] dX5_mixSite_94 rfl (lc_inc1 o) (by decide) rfl ?_
          refine lc_goto 68 dX5_mixSite_97 (by decide) ?_
          refine lc_lv (lv' := [(0, .ref (G.1 (14))), (1, .int (nI s)), (2, .int (nI (o + 1)))]) [1, 2, 0] rfl ?_
          rw [show sp_mx z (lc_bi (sp_alikeM x.1 s o)) = (31 * z + 1) from by rw [c_8]; rfl] at ko
          exact ko
      · skip
        show lc_V G Γ cX5_mixSite 4 RX5 68 [(0, .ref (G.1 (14))), (1, .int (nI s)), (2, .int (nI n))] [] (lc_w ((lc_ul σ 1 ((sp_msh sp_alikeM x.1 n s h)))) 2 x)
        refine lc_iload_n 2 dX5_mixSite_68 rfl ?_
        refine lc_aload_n 0 dX5_mixSite_69 rfl ?_
        refine lc_gMSites fl_X5_55 dX5_mixSite_70 ?_
        refine lc_icmp_ge 100 dX5_mixSite_73 (by decide) (fun _ => ?_) (fun h => absurd h.1 (by rw [hs]; exact nI_nlt (a := n) (b := n) (Nat.le_refl _) (by omega)))
        exact lc_vret hR dX5_mixSite_100 (rfl)
