set_option maxRecDepth 100000 in
set_option maxHeartbeats 4000000 in
theorem c_X4_letter (l : Launch) (G : lc_G) (σ : lc_S) (p : Nat) (hp : σ.2.1 10 0 = nI p) (hp6 : p ≤ 6) (code : Int32) : lc_M l G yX4_letter cX4_letter 2 (some .int) { frames := 1, cells := 0, slots := 0, locals := 21 } [.ref (G.1 (0)), .int (code)] (σ) (some (.int ((sp_letter σ 9 10 p code).1))) ((sp_letter σ 9 10 p code).2) := by
  refine lc_entry [(0, .ref (G.1 (0))), (1, .int (code))] (by decide) (Nat.le_of_ble_eq_true rfl) rfl rfl rfl ?_
  intro Γ hR
  refine lc_iload_n 1 dX4_letter_0 rfl ?_
  refine lc_bipush (v := 32) dX4_letter_1 (by decide) ?_
  refine lc_icmp_lt 12 dX4_letter_3 (by decide) (fun c_1 => ?_) (fun c_1 => ?_)
  · skip
    refine lc_sipush (v := (-1002)) dX4_letter_12 (by decide) ?_
    exact lc_iret hR dX4_letter_15 (by simp [sp_letter, sp_win, c_1]) (by simp [sp_letter, sp_win, c_1])
  · skip
    refine lc_iload_n 1 dX4_letter_6 rfl ?_
    refine lc_bipush (v := 126) dX4_letter_7 (by decide) ?_
    refine lc_icmp_le 16 dX4_letter_9 (by decide) (fun c_2 => ?_) (fun c_2 => ?_)
    · skip
      by_cases h6 : p = 6
      · skip
        refine lc_aload_n 0 dX4_letter_16 rfl ?_
        refine lc_g_page fl_X4_10 dX4_letter_17 ?_
        refine lc_g_len fl_X4_30 dX4_letter_20 ?_
        refine lc_bipush (v := 6) dX4_letter_23 (by decide) ?_
        refine lc_icmp_lt 32 dX4_letter_25 (by decide) (fun h => absurd h.1 (by rw [hp, h6]; exact nI_nlt (a := 6) (b := 6) (Nat.le_refl _) (by omega))) (fun _ => ?_)
        refine lc_sipush (v := (-1004)) dX4_letter_28 (by decide) ?_
        exact lc_iret hR dX4_letter_31 (by simp [sp_letter, sp_win, c_1, c_2, h6]) (by simp [sp_letter, sp_win, c_1, c_2, h6])
      · skip
        refine lc_aload_n 0 dX4_letter_16 rfl ?_
        refine lc_g_page fl_X4_10 dX4_letter_17 ?_
        refine lc_g_len fl_X4_30 dX4_letter_20 ?_
        refine lc_bipush (v := 6) dX4_letter_23 (by decide) ?_
        refine lc_icmp_lt 32 dX4_letter_25 (by decide) (fun _ => ?_) (fun h => absurd h.1 (by rw [hp]; exact nI_ge (b := 6) (by omega) (by omega)))
        refine lc_aload_n 0 dX4_letter_32 rfl ?_
        refine lc_g_page fl_X4_10 dX4_letter_33 ?_
        refine lc_iload_n 1 dX4_letter_36 rfl ?_
        refine lc_callV (1) (c_X1_append l G (σ) p code hp (by omega)) hR.2.2.2.1 hR.2.2.2.2 mt_X1_append (by omega) (rfl) rfl ml_X4_34 rfl rfl (Nat.le_of_ble_eq_true rfl) ⟨⟨rfl, rfl⟩, Nat.le_of_ble_eq_true rfl, Nat.le_of_ble_eq_true rfl⟩ dX4_letter_37 ?_
        show lc_V _ _ _ _ _ 40 _ [] (lc_uo (lc_uo σ 9 p code) 10 0 (nI (p + 1)))
        refine lc_aload_n 0 dX4_letter_40 rfl ?_
        refine lc_g_page fl_X4_10 dX4_letter_41 ?_
        refine lc_g_len fl_X4_30 dX4_letter_44 ?_
        refine lc_topi (nI (p + 1)) (rfl) ?_
        exact lc_iret hR dX4_letter_47 (by simp [sp_letter, sp_win, c_1, c_2, h6]) (by simp [sp_letter, sp_win, c_1, c_2, h6])
    · skip
      refine lc_sipush (v := (-1002)) dX4_letter_12 (by decide) ?_
      exact lc_iret hR dX4_letter_15 (by simp [sp_letter, sp_win, c_1, c_2]) (by simp [sp_letter, sp_win, c_1, c_2])

set_option maxRecDepth 100000 in
set_option maxHeartbeats 4000000 in
theorem c_X4_blank (l : Launch) (G : lc_G) (σ : lc_S) : lc_M l G yX4_blank cX4_blank 2 (some .int) { frames := 0, cells := 0, slots := 0, locals := 0 } [.ref (G.1 (0))] (σ) (some (.int (σ.2.1 10 0))) (lc_uo σ 10 0 0) := by
  refine lc_entry [(0, .ref (G.1 (0)))] (by decide) (Nat.le_of_ble_eq_true rfl) rfl rfl rfl ?_
  intro Γ hR
  refine lc_aload_n 0 dX4_blank_0 rfl ?_
  refine lc_g_page fl_X4_10 dX4_blank_1 ?_
  refine lc_g_len fl_X4_30 dX4_blank_4 ?_
  refine lc_istore_n [(1, .int (σ.2.1 10 0)), (0, .ref (G.1 (0)))] dX4_blank_7 (by decide) rfl ?_
  refine lc_aload_n 1 dX4_blank_8 rfl ?_
  refine lc_g_page fl_X4_10 dX4_blank_9 ?_
  refine lc_iconst (v := 0) dX4_blank_12 (by decide) ?_
  refine lc_p_len fl_X4_30 dX4_blank_13 ?_
  refine lc_iload_n 0 dX4_blank_16 rfl ?_
  exact lc_iret hR dX4_blank_17 (rfl) (rfl)

set_option maxRecDepth 100000 in
set_option maxHeartbeats 4000000 in
theorem c_X4_fault (l : Launch) (G : lc_G) (σ : lc_S) (p : Nat) (hp : σ.2.1 10 0 = nI p) (hp6 : p ≤ 6) : lc_M l G yX4_fault cX4_fault 1 (some .int) { frames := 1, cells := 0, slots := 0, locals := 23 } [.ref (G.1 (0))] (σ) (some (.int (sp_fw (σ.2.1 9) p 0 48))) (σ) := by
  refine lc_entry [(0, .ref (G.1 (0)))] (by decide) (Nat.le_of_ble_eq_true rfl) rfl rfl rfl ?_
  intro Γ hR
  refine lc_aload_n 0 dX4_fault_0 rfl ?_
  refine lc_g_page fl_X4_10 dX4_fault_1 ?_
  refine lc_callV (1) (c_X1_firstWrongPlace l G (σ) p hp (by omega)) hR.2.2.2.1 hR.2.2.2.2 mt_X1_firstWrongPlace (by omega) (rfl) rfl ml_X4_38 rfl rfl (Nat.le_of_ble_eq_true rfl) ⟨⟨rfl, rfl⟩, Nat.le_of_ble_eq_true rfl, Nat.le_of_ble_eq_true rfl⟩ dX4_fault_4 ?_
  show lc_V _ _ _ _ _ 7 _ [.int (sp_fw (σ.2.1 9) p 0 48)] (σ)
  exact lc_iret hR dX4_fault_7 (rfl) (rfl)

set_option maxRecDepth 100000 in
set_option maxHeartbeats 4000000 in
theorem c_X4_line (l : Launch) (G : lc_G) (σ : lc_S) (p : Nat) (hp : σ.2.1 10 0 = nI p) (hp6 : p ≤ 6) : lc_M l G yX4_line cX4_line 1 (some .int) { frames := 2, cells := 0, slots := 0, locals := 43 } [.ref (G.1 (0))] (σ) (some (.int (if sp_isl (σ.2.1 9) p = true then σ.2.1 10 0 else -1003))) ((if sp_isl (σ.2.1 9) p = true then (lc_uo (lc_uo (sp_line σ 0 3 6 (σ.2.1 9) (σ.1 0 6) (σ.2.1 10 0)) 10 0 0) 10 1 (σ.2.1 10 1 + 1)) else σ)) := by
  refine lc_entry [(0, .ref (G.1 (0)))] (by decide) (Nat.le_of_ble_eq_true rfl) rfl rfl rfl ?_
  intro Γ hR
  refine lc_aload_n 0 dX4_line_0 rfl ?_
  refine lc_g_page fl_X4_10 dX4_line_1 ?_
  refine lc_callV (1) (c_X1_isLine l G (σ) p hp (by omega)) hR.2.2.2.1 hR.2.2.2.2 mt_X1_isLine (by omega) (rfl) rfl ml_X4_42 rfl rfl (Nat.le_of_ble_eq_true rfl) ⟨⟨rfl, rfl⟩, Nat.le_of_ble_eq_true rfl, Nat.le_of_ble_eq_true rfl⟩ dX4_line_4 ?_
  show lc_V _ _ _ _ _ 7 _ [.int (lc_bi (sp_isl (σ.2.1 9) p))] (σ)
  refine lc_ifb_ne 14 dX4_line_7 (by decide) (fun c_1 => ?_) (fun c_1 => ?_)
  · skip
    refine lc_eq (σ' := lc_w σ 0 ((σ.1 0, 0, 0, 0))) ((lc_w_w σ 0).symm) ?_
    refine lc_aload_n 0 dX4_line_14 rfl ?_
    refine lc_g_world fl_X4_19 dX4_line_15 ?_
    refine lc_aload_n 0 dX4_line_18 rfl ?_
    refine lc_g_page fl_X4_10 dX4_line_19 ?_
    refine lc_callV (4) (c_X3_startLine l G σ ((σ.1 0, 0, 0, 0))) hR.2.2.2.1 hR.2.2.2.2 mt_X3_startLine (by omega) (rfl) rfl ml_X4_46 rfl rfl (Nat.le_of_ble_eq_true rfl) ⟨⟨rfl, rfl⟩, Nat.le_of_ble_eq_true rfl, Nat.le_of_ble_eq_true rfl⟩ dX4_line_22 ?_
    show lc_V _ _ _ _ _ 25 _ [] ((sp_line σ 0 3 6 (σ.2.1 9) ((σ.1 0) 6) (σ.2.1 10 0)))
    refine lc_eq (σ' := (sp_line σ 0 3 6 (σ.2.1 9) (σ.1 0 6) (σ.2.1 10 0))) (rfl) ?_
    refine lc_aload_n 0 dX4_line_25 rfl ?_
    refine lc_g_page fl_X4_10 dX4_line_26 ?_
    refine lc_iconst (v := 0) dX4_line_29 (by decide) ?_
    refine lc_p_len fl_X4_30 dX4_line_30 ?_
    refine lc_aload_n 0 dX4_line_33 rfl ?_
    refine lc_dup dX4_line_34 rfl ?_
    refine lc_g_lines fl_X4_50 dX4_line_35 ?_
    refine lc_iconst (v := 1) dX4_line_38 (by decide) ?_
    refine lc_iadd dX4_line_39 ?_
    refine lc_topi (σ.2.1 10 1 + 1) (rfl) ?_
    refine lc_p_lines fl_X4_50 dX4_line_40 ?_
    refine lc_eq (σ' := lc_w ((lc_uo (lc_uo (sp_line σ 0 3 6 (σ.2.1 9) (σ.1 0 6) (σ.2.1 10 0)) 10 0 0) 10 1 (σ.2.1 10 1 + 1))) 0 (((lc_uo (lc_uo (sp_line σ 0 3 6 (σ.2.1 9) (σ.1 0 6) (σ.2.1 10 0)) 10 0 0) 10 1 (σ.2.1 10 1 + 1)).1 0, 0, 0, 0))) ((lc_w_w (lc_uo (lc_uo (sp_line σ 0 3 6 (σ.2.1 9) (σ.1 0 6) (σ.2.1 10 0)) 10 0 0) 10 1 (σ.2.1 10 1 + 1)) 0).symm) ?_
    refine lc_aload_n 0 dX4_line_43 rfl ?_
    refine lc_g_world fl_X4_19 dX4_line_44 ?_
    refine lc_gWSites 0 (by omega) fl_X4_53 dX4_line_47 ?_
    refine lc_topi (σ.2.1 10 0) rfl ?_
    refine lc_eq (σ' := (lc_uo (lc_uo (sp_line σ 0 3 6 (σ.2.1 9) (σ.1 0 6) (σ.2.1 10 0)) 10 0 0) 10 1 (σ.2.1 10 1 + 1))) (lc_w_w _ 0) ?_
    exact lc_iret hR dX4_line_50 (by simp [lc_bi, c_1]) (by simp [lc_bi, c_1])
  · skip
    refine lc_sipush (v := (-1003)) dX4_line_10 (by decide) ?_
    exact lc_iret hR dX4_line_13 (by simp [lc_bi, c_1]) (by simp [lc_bi, c_1])

set_option maxRecDepth 100000 in
set_option maxHeartbeats 4000000 in
theorem c_X4_set (l : Launch) (G : lc_G) (σ : lc_S) (x : lc_X) (n : Nat) (hn : n ≤ 6) (hs : x.1 7 0 = nI n) (what v : Int32) : lc_M l G yX4_set cX4_set 4 (some .int) { frames := 2, cells := 0, slots := 0, locals := 47 } [.ref (G.1 (0)), .int (what), .int (v)] (lc_w σ 0 x) (some (.int ((sp_set n x what v).1))) (lc_w σ 0 ((sp_set n x what v).2)) := by
  refine lc_entry [(0, .ref (G.1 (0))), (1, .int (what)), (2, .int (v))] (by decide) (Nat.le_of_ble_eq_true rfl) rfl rfl rfl ?_
  intro Γ hR
  refine lc_iload_n 1 dX4_set_0 rfl ?_
  refine lc_if_lt 9 dX4_set_1 (by decide) (fun c_1 => ?_) (fun c_1 => ?_)
  · skip
    refine lc_sipush (v := (-1002)) dX4_set_9 (by decide) ?_
    exact lc_iret hR dX4_set_12 (by simp [sp_set, sp_win, c_1]) (by simp [sp_set, sp_win, c_1])
  · skip
    refine lc_iload_n 1 dX4_set_4 rfl ?_
    refine lc_iconst (v := 3) dX4_set_5 (by decide) ?_
    refine lc_icmp_le 13 dX4_set_6 (by decide) (fun c_2 => ?_) (fun c_2 => ?_)
    · skip
      obtain ⟨w0, -, hw3, ew⟩ := sp_rng_nat (lo := 0) (hi := 3) (a := 0) (b := 3) (by decide) (by decide) c_1.1 c_2.1
      subst ew
      have hwc : (nI w0).toNatClampNeg = w0 := nI_clamp (by omega)
      refine lc_iload_n 2 dX4_set_13 rfl ?_
      refine lc_gsLEAST fl_X4_56 dX4_set_14 ?_
      refine lc_iload_n 1 dX4_set_17 rfl ?_
      refine lc_saLEAST w0 (rfl) (by omega) dX4_set_18 ?_
      refine lc_icmp_lt 31 dX4_set_19 (by decide) (fun c_3 => ?_) (fun c_3 => ?_)
      · skip
        refine lc_sipush (v := (-1002)) dX4_set_31 (by decide) ?_
        exact lc_iret hR dX4_set_34 (by simp [sp_set, sp_win, c_1, c_2, hwc, c_3]) (by simp [sp_set, sp_win, c_1, c_2, hwc, c_3])
      · skip
        refine lc_iload_n 2 dX4_set_22 rfl ?_
        refine lc_gsMOST fl_X4_60 dX4_set_23 ?_
        refine lc_iload_n 1 dX4_set_26 rfl ?_
        refine lc_saMOST w0 (rfl) (by omega) dX4_set_27 ?_
        refine lc_icmp_le 35 dX4_set_28 (by decide) (fun c_4 => ?_) (fun c_4 => ?_)
        · skip
          refine lc_aload_n 0 dX4_set_35 rfl ?_
          refine lc_g_world fl_X4_19 dX4_set_36 ?_
          refine lc_gWLim 0 (by omega) fl_X4_63 dX4_set_39 ?_
          refine lc_iload_n 1 dX4_set_42 rfl ?_
          refine lc_iald (6) w0 (by omega) (lc_eLim 0 (by omega)) (rfl) (by omega) (by decide) dX4_set_43 ?_
          refine lc_istore_n [(3, .int (x.1 6 w0)), (0, .ref (G.1 (0))), (1, .int (nI w0)), (2, .int (v))] dX4_set_44 (by decide) rfl ?_
          refine lc_aload_n 1 dX4_set_45 rfl ?_
          refine lc_g_world fl_X4_19 dX4_set_46 ?_
          refine lc_gWLim 0 (by omega) fl_X4_63 dX4_set_49 ?_
          refine lc_iload_n 2 dX4_set_52 rfl ?_
          refine lc_iload_n 3 dX4_set_53 rfl ?_
          refine lc_sc_lim0 w0 (rfl) (by omega) dX4_set_54 ?_
          refine lc_aload_n 1 dX4_set_55 rfl ?_
          refine lc_g_world fl_X4_19 dX4_set_56 ?_
          refine lc_callV (4) (c_X3_dropGone l G σ 0 ((lc_cu x.1 6 w0 v, x.2)) n (by omega) (by omega) (hs)) hR.2.2.2.1 hR.2.2.2.2 mt_X3_dropGone (by omega) (rfl) rfl ml_X4_66 rfl rfl (Nat.le_of_ble_eq_true rfl) ⟨⟨rfl, rfl⟩, Nat.le_of_ble_eq_true rfl, Nat.le_of_ble_eq_true rfl⟩ dX4_set_59 ?_
          show lc_V _ _ _ _ _ 62 _ [.int ((sp_drop n ((lc_cu x.1 6 w0 v, x.2))).1)] (lc_w σ 0 ((sp_drop n ((lc_cu x.1 6 w0 v, x.2))).2))
          refine lc_pop dX4_set_62 rfl ?_
          refine lc_iload_n 0 dX4_set_63 rfl ?_
          exact lc_iret hR dX4_set_64 (by simp [sp_set, sp_win, c_1, c_2, hwc, c_3, c_4]) (by simp [sp_set, sp_win, c_1, c_2, hwc, c_3, c_4])
        · skip
          refine lc_sipush (v := (-1002)) dX4_set_31 (by decide) ?_
          exact lc_iret hR dX4_set_34 (by simp [sp_set, sp_win, c_1, c_2, hwc, c_3, c_4]) (by simp [sp_set, sp_win, c_1, c_2, hwc, c_3, c_4])
    · skip
      refine lc_sipush (v := (-1002)) dX4_set_9 (by decide) ?_
      exact lc_iret hR dX4_set_12 (by simp [sp_set, sp_win, c_1, c_2]) (by simp [sp_set, sp_win, c_1, c_2])

set_option maxRecDepth 100000 in
set_option maxHeartbeats 4000000 in
theorem c_X4_put (l : Launch) (G : lc_G) (σ : lc_S) (x : lc_X) (n : Nat) (hn : n ≤ 6) (hs : x.1 7 0 = nI n) (s1 k1 v : Int32) : lc_M l G yX4_put cX4_put 4 (some .int) { frames := 4, cells := 0, slots := 0, locals := 91 } [.ref (G.1 (0)), .int (s1), .int (k1), .int (v)] (lc_w σ 0 x) (some (.int ((sp_put (decide (9999 ≤ x.1 7 1)) n x s1 k1 v).1))) (lc_w σ 0 ((sp_put (decide (9999 ≤ x.1 7 1)) n x s1 k1 v).2)) := by
  refine lc_entry [(0, .ref (G.1 (0))), (1, .int (s1)), (2, .int (k1)), (3, .int (v))] (by decide) (Nat.le_of_ble_eq_true rfl) rfl rfl rfl ?_
  intro Γ hR
  refine lc_aload_n 0 dX4_put_0 rfl ?_
  refine lc_g_world fl_X4_19 dX4_put_1 ?_
  refine lc_iload_n 1 dX4_put_4 rfl ?_
  refine lc_callV (4) (c_X3_knowsSite l G σ 0 x s1 (by omega)) hR.2.2.2.1 hR.2.2.2.2 mt_X3_knowsSite (by omega) (rfl) rfl ml_X4_69 rfl rfl (Nat.le_of_ble_eq_true rfl) ⟨⟨rfl, rfl⟩, Nat.le_of_ble_eq_true rfl, Nat.le_of_ble_eq_true rfl⟩ dX4_put_5 ?_
  show lc_V _ _ _ _ _ 8 _ [.int (lc_bi (sp_site x.1 s1))] (lc_w σ 0 x)
  refine lc_ifb_eq 18 dX4_put_8 (by decide) (fun c_1 => ?_) (fun c_1 => ?_)
  · skip
    refine lc_sipush (v := (-1001)) dX4_put_18 (by decide) ?_
    exact lc_iret hR dX4_put_21 (by simp [sp_put, sp_win, c_1]) (by simp [sp_put, sp_win, c_1])
  · skip
    obtain ⟨a1, ha1, ea1⟩ := sp_site_nat hn (hs) c_1
    subst ea1
    refine lc_iload_n 2 dX4_put_11 rfl ?_
    refine lc_callS (c_X4_isKey l G (lc_w σ 0 x) k1) hR.2.2.2.1 hR.2.2.2.2 mt_X4_isKey ml_X4_73 rfl rfl (Nat.le_of_ble_eq_true rfl) ⟨⟨rfl, rfl⟩, Nat.le_of_ble_eq_true rfl, Nat.le_of_ble_eq_true rfl⟩ dX4_put_12 ?_
    show lc_V _ _ _ _ _ 15 _ [.int (lc_bi (sp_key k1))] (lc_w σ 0 x)
    refine lc_ifb_ne 22 dX4_put_15 (by decide) (fun c_2 => ?_) (fun c_2 => ?_)
    · skip
      obtain ⟨k2, hk2, ek2⟩ := sp_key_nat c_2
      subst ek2
      refine lc_iload_n 3 dX4_put_22 rfl ?_
      refine lc_if_lt 32 dX4_put_23 (by decide) (fun c_3 => ?_) (fun c_3 => ?_)
      · skip
        refine lc_sipush (v := (-1002)) dX4_put_32 (by decide) ?_
        exact lc_iret hR dX4_put_35 (by simp [sp_put, sp_win, c_1, c_2, c_3]) (by simp [sp_put, sp_win, c_1, c_2, c_3])
      · skip
        refine lc_iload_n 3 dX4_put_26 rfl ?_
        refine lc_bipush (v := 9) dX4_put_27 (by decide) ?_
        refine lc_icmp_le 36 dX4_put_29 (by decide) (fun c_4 => ?_) (fun c_4 => ?_)
        · skip
          refine lc_aload_n 0 dX4_put_36 rfl ?_
          refine lc_g_world fl_X4_19 dX4_put_37 ?_
          refine lc_iload_n 1 dX4_put_40 rfl ?_
          refine lc_callV (4) (c_X3_isOff l G σ 0 x (nI a1) (by omega)) hR.2.2.2.1 hR.2.2.2.2 mt_X3_isOff (by omega) (rfl) rfl ml_X4_76 rfl rfl (Nat.le_of_ble_eq_true rfl) ⟨⟨rfl, rfl⟩, Nat.le_of_ble_eq_true rfl, Nat.le_of_ble_eq_true rfl⟩ dX4_put_41 ?_
          show lc_V _ _ _ _ _ 44 _ [.int (lc_bi (sp_bit (x.1 7 2) (nI a1)))] (lc_w σ 0 x)
          refine lc_ifb_eq 51 dX4_put_44 (by decide) (fun c_5 => ?_) (fun c_5 => ?_)
          · skip
            refine lc_aload_n 0 dX4_put_51 rfl ?_
            refine lc_g_world fl_X4_19 dX4_put_52 ?_
            refine lc_gWNow 0 (by omega) fl_X4_79 dX4_put_55 ?_
            refine lc_sipush (v := 9999) dX4_put_58 (by decide) ?_
            refine lc_icmp_lt 68 dX4_put_61 (by decide) (fun c_6 => ?_) (fun c_6 => ?_)
            · skip
              refine lc_aload_n 0 dX4_put_68 rfl ?_
              refine lc_g_world fl_X4_19 dX4_put_69 ?_
              refine lc_iload_n 1 dX4_put_72 rfl ?_
              refine lc_iload_n 2 dX4_put_73 rfl ?_
              refine lc_iload_n 3 dX4_put_74 rfl ?_
              refine lc_callV (4) (c_X3_putValue l G σ 0 x n a1 k2 (by omega) (by omega) (hs) (by omega) (by omega) v) hR.2.2.2.1 hR.2.2.2.2 mt_X3_putValue (by omega) (rfl) rfl ml_X4_82 rfl rfl (Nat.le_of_ble_eq_true rfl) ⟨⟨rfl, rfl⟩, Nat.le_of_ble_eq_true rfl, Nat.le_of_ble_eq_true rfl⟩ dX4_put_75 ?_
              show lc_V _ _ _ _ _ 78 _ [.int ((sp_putV n x a1 k2 v).1)] (lc_w σ 0 ((sp_putV n x a1 k2 v).2))
              exact lc_iret hR dX4_put_78 (by simp [sp_put, sp_win, nI_clamp (show a1 < 2 ^ 31 by omega), nI_clamp (show k2 < 2 ^ 31 by omega), c_1, c_2, c_3, c_4, c_5, c_6]) (by simp [sp_put, sp_win, nI_clamp (show a1 < 2 ^ 31 by omega), nI_clamp (show k2 < 2 ^ 31 by omega), c_1, c_2, c_3, c_4, c_5, c_6])
            · skip
              refine lc_sipush (v := (-1004)) dX4_put_64 (by decide) ?_
              exact lc_iret hR dX4_put_67 (by simp [sp_put, sp_win, c_1, c_2, c_3, c_4, c_5, c_6]) (by simp [sp_put, sp_win, c_1, c_2, c_3, c_4, c_5, c_6])
          · skip
            refine lc_sipush (v := (-1003)) dX4_put_47 (by decide) ?_
            exact lc_iret hR dX4_put_50 (by simp [sp_put, sp_win, c_1, c_2, c_3, c_4, c_5]) (by simp [sp_put, sp_win, c_1, c_2, c_3, c_4, c_5])
        · skip
          refine lc_sipush (v := (-1002)) dX4_put_32 (by decide) ?_
          exact lc_iret hR dX4_put_35 (by simp [sp_put, sp_win, c_1, c_2, c_3, c_4]) (by simp [sp_put, sp_win, c_1, c_2, c_3, c_4])
    · skip
      refine lc_sipush (v := (-1001)) dX4_put_18 (by decide) ?_
      exact lc_iret hR dX4_put_21 (by simp [sp_put, sp_win, c_1, c_2]) (by simp [sp_put, sp_win, c_1, c_2])

set_option maxRecDepth 100000 in
set_option maxHeartbeats 4000000 in
theorem c_X4_remove (l : Launch) (G : lc_G) (σ : lc_S) (x : lc_X) (n : Nat) (hn : n ≤ 6) (hs : x.1 7 0 = nI n) (s1 k1 m1 : Int32) : lc_M l G yX4_remove cX4_remove 4 (some .int) { frames := 4, cells := 0, slots := 0, locals := 91 } [.ref (G.1 (0)), .int (s1), .int (k1), .int (m1)] (lc_w σ 0 x) (some (.int ((sp_remo (decide (9999 ≤ x.1 7 1)) (sp_keepC (σ.2.1 6) s1.toNatClampNeg n m1.toNatClampNeg (sp_oth s1 ((sp_adv n x 1).2.1 7 0))) 3 0 n σ x s1 k1 m1).1))) ((sp_remo (decide (9999 ≤ x.1 7 1)) (sp_keepC (σ.2.1 6) s1.toNatClampNeg n m1.toNatClampNeg (sp_oth s1 ((sp_adv n x 1).2.1 7 0))) 3 0 n σ x s1 k1 m1).2) := by
  refine lc_entry [(0, .ref (G.1 (0))), (1, .int (s1)), (2, .int (k1)), (3, .int (m1))] (by decide) (Nat.le_of_ble_eq_true rfl) rfl rfl rfl ?_
  intro Γ hR
  refine lc_aload_n 0 dX4_remove_0 rfl ?_
  refine lc_g_world fl_X4_19 dX4_remove_1 ?_
  refine lc_iload_n 1 dX4_remove_4 rfl ?_
  refine lc_callV (4) (c_X3_knowsSite l G σ 0 x s1 (by omega)) hR.2.2.2.1 hR.2.2.2.2 mt_X3_knowsSite (by omega) (rfl) rfl ml_X4_69 rfl rfl (Nat.le_of_ble_eq_true rfl) ⟨⟨rfl, rfl⟩, Nat.le_of_ble_eq_true rfl, Nat.le_of_ble_eq_true rfl⟩ dX4_remove_5 ?_
  show lc_V _ _ _ _ _ 8 _ [.int (lc_bi (sp_site x.1 s1))] (lc_w σ 0 x)
  refine lc_ifb_eq 18 dX4_remove_8 (by decide) (fun c_1 => ?_) (fun c_1 => ?_)
  · skip
    refine lc_sipush (v := (-1001)) dX4_remove_18 (by decide) ?_
    exact lc_iret hR dX4_remove_21 (by simp [sp_remo, sp_win, c_1]) (by simp [sp_remo, sp_win, c_1])
  · skip
    obtain ⟨a1, ha1, ea1⟩ := sp_site_nat hn (hs) c_1
    subst ea1
    refine lc_iload_n 2 dX4_remove_11 rfl ?_
    refine lc_callS (c_X4_isKey l G (lc_w σ 0 x) k1) hR.2.2.2.1 hR.2.2.2.2 mt_X4_isKey ml_X4_73 rfl rfl (Nat.le_of_ble_eq_true rfl) ⟨⟨rfl, rfl⟩, Nat.le_of_ble_eq_true rfl, Nat.le_of_ble_eq_true rfl⟩ dX4_remove_12 ?_
    show lc_V _ _ _ _ _ 15 _ [.int (lc_bi (sp_key k1))] (lc_w σ 0 x)
    refine lc_ifb_ne 22 dX4_remove_15 (by decide) (fun c_2 => ?_) (fun c_2 => ?_)
    · skip
      obtain ⟨k2, hk2, ek2⟩ := sp_key_nat c_2
      subst ek2
      refine lc_iload_n 3 dX4_remove_22 rfl ?_
      refine lc_iconst (v := 1) dX4_remove_23 (by decide) ?_
      refine lc_icmp_lt 32 dX4_remove_24 (by decide) (fun c_3 => ?_) (fun c_3 => ?_)
      · skip
        refine lc_sipush (v := (-1002)) dX4_remove_32 (by decide) ?_
        exact lc_iret hR dX4_remove_35 (by simp [sp_remo, sp_win, c_1, c_2, c_3]) (by simp [sp_remo, sp_win, c_1, c_2, c_3])
      · skip
        refine lc_iload_n 3 dX4_remove_27 rfl ?_
        refine lc_iconst (v := 3) dX4_remove_28 (by decide) ?_
        refine lc_icmp_le 36 dX4_remove_29 (by decide) (fun c_4 => ?_) (fun c_4 => ?_)
        · skip
          obtain ⟨m2, hm1, hm3, em⟩ := sp_rng_nat (lo := 1) (hi := 3) (a := 1) (b := 3) (by decide) (by decide) c_3.1 c_4.1
          subst em
          have q1 : (nI a1).toNatClampNeg = a1 := nI_clamp (by omega)
          have q2 : (nI k2).toNatClampNeg = k2 := nI_clamp (by omega)
          have q3 : (nI m2).toNatClampNeg = m2 := nI_clamp (by omega)
          refine lc_aload_n 0 dX4_remove_36 rfl ?_
          refine lc_g_world fl_X4_19 dX4_remove_37 ?_
          refine lc_iload_n 1 dX4_remove_40 rfl ?_
          refine lc_callV (4) (c_X3_isOff l G σ 0 x (nI a1) (by omega)) hR.2.2.2.1 hR.2.2.2.2 mt_X3_isOff (by omega) (rfl) rfl ml_X4_76 rfl rfl (Nat.le_of_ble_eq_true rfl) ⟨⟨rfl, rfl⟩, Nat.le_of_ble_eq_true rfl, Nat.le_of_ble_eq_true rfl⟩ dX4_remove_41 ?_
          show lc_V _ _ _ _ _ 44 _ [.int (lc_bi (sp_bit (x.1 7 2) (nI a1)))] (lc_w σ 0 x)
          refine lc_ifb_ne 63 dX4_remove_44 (by decide) (fun c_5 => ?_) (fun c_5 => ?_)
          · skip
            refine lc_sipush (v := (-1003)) dX4_remove_63 (by decide) ?_
            exact lc_iret hR dX4_remove_66 (by simp [sp_remo, sp_win, c_1, c_2, c_3, c_4, q1, q2, q3, c_5]) (by simp [sp_remo, sp_win, c_1, c_2, c_3, c_4, q1, q2, q3, c_5])
          · skip
            refine lc_aload_n 0 dX4_remove_47 rfl ?_
            refine lc_g_world fl_X4_19 dX4_remove_48 ?_
            refine lc_iload_n 1 dX4_remove_51 rfl ?_
            refine lc_iload_n 2 dX4_remove_52 rfl ?_
            refine lc_callV (4) (c_X3_itemAt l G (lc_w σ 0 x) 0 a1 k2 (by omega) (by omega) (by omega)) hR.2.2.2.1 hR.2.2.2.2 mt_X3_itemAt (by omega) (rfl) rfl ml_X4_86 rfl rfl (Nat.le_of_ble_eq_true rfl) ⟨⟨rfl, rfl⟩, Nat.le_of_ble_eq_true rfl, Nat.le_of_ble_eq_true rfl⟩ dX4_remove_53 ?_
            show lc_V _ _ _ _ _ 56 _ [.ref (G.1 (lc_it 0 (4 * a1 + k2)))] (lc_w σ 0 x)
            refine lc_gIw 0 (4 * a1 + k2) 0 (by omega) (by omega) (by decide) fl_X4_90 dX4_remove_56 ?_
            refine lc_iconst (v := 1) dX4_remove_59 (by decide) ?_
            refine lc_icmp_eq 67 dX4_remove_60 (by decide) (fun c_6 => ?_) (fun c_6 => ?_)
            · skip
              refine lc_aload_n 0 dX4_remove_67 rfl ?_
              refine lc_g_world fl_X4_19 dX4_remove_68 ?_
              refine lc_gWNow 0 (by omega) fl_X4_79 dX4_remove_71 ?_
              refine lc_sipush (v := 9999) dX4_remove_74 (by decide) ?_
              refine lc_icmp_lt 84 dX4_remove_77 (by decide) (fun c_7 => ?_) (fun c_7 => ?_)
              · skip
                refine lc_aload_n 0 dX4_remove_84 rfl ?_
                refine lc_g_world fl_X4_19 dX4_remove_85 ?_
                refine lc_iload_n 1 dX4_remove_88 rfl ?_
                refine lc_iload_n 2 dX4_remove_89 rfl ?_
                refine lc_iload_n 3 dX4_remove_90 rfl ?_
                refine lc_callV (4) (c_X3_removeValue l G σ 0 x n a1 k2 m2 (by omega) (by omega) hs (by omega) (by omega) (by omega) (by omega)) hR.2.2.2.1 hR.2.2.2.2 mt_X3_removeValue (by omega) (rfl) rfl ml_X4_95 rfl rfl (Nat.le_of_ble_eq_true rfl) ⟨⟨rfl, rfl⟩, Nat.le_of_ble_eq_true rfl, Nat.le_of_ble_eq_true rfl⟩ dX4_remove_91 ?_
                show lc_V _ _ _ _ _ 94 _ [.int ((sp_remV n x a1 k2 (sp_keepC (σ.2.1 6) a1 n m2 (sp_oth (nI a1) ((sp_adv n x 1).2.1 7 0)))).1)] (lc_w ((lc_uo σ 3 k2 ((sp_adv n x 1).2.1 7 1))) 0 ((sp_remV n x a1 k2 (sp_keepC (σ.2.1 6) a1 n m2 (sp_oth (nI a1) ((sp_adv n x 1).2.1 7 0)))).2))
                exact lc_iret hR dX4_remove_94 (by simp [sp_remo, sp_win, c_1, c_2, c_3, c_4, q1, q2, q3, c_5, c_6, c_7]) (by simp [sp_remo, sp_win, c_1, c_2, c_3, c_4, q1, q2, q3, c_5, c_6, c_7])
              · skip
                refine lc_sipush (v := (-1004)) dX4_remove_80 (by decide) ?_
                exact lc_iret hR dX4_remove_83 (by simp [sp_remo, sp_win, c_1, c_2, c_3, c_4, q1, q2, q3, c_5, c_6, c_7]) (by simp [sp_remo, sp_win, c_1, c_2, c_3, c_4, q1, q2, q3, c_5, c_6, c_7])
            · skip
              refine lc_sipush (v := (-1003)) dX4_remove_63 (by decide) ?_
              exact lc_iret hR dX4_remove_66 (by simp [sp_remo, sp_win, c_1, c_2, c_3, c_4, q1, q2, q3, c_5, c_6]) (by simp [sp_remo, sp_win, c_1, c_2, c_3, c_4, q1, q2, q3, c_5, c_6])
        · skip
          refine lc_sipush (v := (-1002)) dX4_remove_32 (by decide) ?_
          exact lc_iret hR dX4_remove_35 (by simp [sp_remo, sp_win, c_1, c_2, c_3, c_4]) (by simp [sp_remo, sp_win, c_1, c_2, c_3, c_4])
    · skip
      refine lc_sipush (v := (-1001)) dX4_remove_18 (by decide) ?_
      exact lc_iret hR dX4_remove_21 (by simp [sp_remo, sp_win, c_1, c_2]) (by simp [sp_remo, sp_win, c_1, c_2])

set_option maxRecDepth 100000 in
set_option maxHeartbeats 4000000 in
theorem c_X4_pass (l : Launch) (G : lc_G) (σ : lc_S) (x : lc_X) (n : Nat) (hn : n ≤ 6) (hs : x.1 7 0 = nI n) (d : Int32) : lc_M l G yX4_pass cX4_pass 2 (some .int) { frames := 3, cells := 0, slots := 0, locals := 68 } [.ref (G.1 (0)), .int (d)] (lc_w σ 0 x) (some (.int ((sp_pass (decide (9999 - d < x.1 7 1)) n x d).1))) (lc_w σ 0 ((sp_pass (decide (9999 - d < x.1 7 1)) n x d).2)) := by
  refine lc_entry [(0, .ref (G.1 (0))), (1, .int (d))] (by decide) (Nat.le_of_ble_eq_true rfl) rfl rfl rfl ?_
  intro Γ hR
  refine lc_iload_n 1 dX4_pass_0 rfl ?_
  refine lc_iconst (v := 1) dX4_pass_1 (by decide) ?_
  refine lc_icmp_lt 12 dX4_pass_2 (by decide) (fun c_1 => ?_) (fun c_1 => ?_)
  · skip
    refine lc_sipush (v := (-1002)) dX4_pass_12 (by decide) ?_
    exact lc_iret hR dX4_pass_15 (by simp [sp_pass, sp_win, c_1]) (by simp [sp_pass, sp_win, c_1])
  · skip
    refine lc_iload_n 1 dX4_pass_5 rfl ?_
    refine lc_sipush (v := 300) dX4_pass_6 (by decide) ?_
    refine lc_icmp_le 16 dX4_pass_9 (by decide) (fun c_2 => ?_) (fun c_2 => ?_)
    · skip
      refine lc_aload_n 0 dX4_pass_16 rfl ?_
      refine lc_g_world fl_X4_19 dX4_pass_17 ?_
      refine lc_gWSites 0 (by omega) fl_X4_53 dX4_pass_20 ?_
      refine lc_if_ne 30 dX4_pass_23 (by decide) (fun c_3 => ?_) (fun c_3 => ?_)
      · skip
        refine lc_aload_n 0 dX4_pass_30 rfl ?_
        refine lc_g_world fl_X4_19 dX4_pass_31 ?_
        refine lc_gWNow 0 (by omega) fl_X4_79 dX4_pass_34 ?_
        refine lc_sipush (v := 9999) dX4_pass_37 (by decide) ?_
        refine lc_iload_n 1 dX4_pass_40 rfl ?_
        refine lc_isub dX4_pass_41 ?_
        refine lc_icmp_le 49 dX4_pass_42 (by decide) (fun c_4 => ?_) (fun c_4 => ?_)
        · skip
          refine lc_aload_n 0 dX4_pass_49 rfl ?_
          refine lc_g_world fl_X4_19 dX4_pass_50 ?_
          refine lc_iload_n 1 dX4_pass_53 rfl ?_
          refine lc_callV (4) (c_X3_advance l G σ 0 x n (by omega) (by omega) (hs) d) hR.2.2.2.1 hR.2.2.2.2 mt_X3_advance (by omega) (rfl) rfl ml_X4_98 rfl rfl (Nat.le_of_ble_eq_true rfl) ⟨⟨rfl, rfl⟩, Nat.le_of_ble_eq_true rfl, Nat.le_of_ble_eq_true rfl⟩ dX4_pass_54 ?_
          show lc_V _ _ _ _ _ 57 _ [.int ((sp_adv n x d).1)] (lc_w σ 0 ((sp_adv n x d).2))
          exact lc_iret hR dX4_pass_57 (by simp [sp_pass, sp_win, c_1, c_2, c_3, c_4]) (by simp [sp_pass, sp_win, c_1, c_2, c_3, c_4])
        · skip
          refine lc_sipush (v := (-1004)) dX4_pass_45 (by decide) ?_
          exact lc_iret hR dX4_pass_48 (by simp [sp_pass, sp_win, c_1, c_2, c_3, c_4]) (by simp [sp_pass, sp_win, c_1, c_2, c_3, c_4])
      · skip
        refine lc_sipush (v := (-1003)) dX4_pass_26 (by decide) ?_
        exact lc_iret hR dX4_pass_29 (by simp [sp_pass, sp_win, c_1, c_2, c_3]) (by simp [sp_pass, sp_win, c_1, c_2, c_3])
    · skip
      refine lc_sipush (v := (-1002)) dX4_pass_12 (by decide) ?_
      exact lc_iret hR dX4_pass_15 (by simp [sp_pass, sp_win, c_1, c_2]) (by simp [sp_pass, sp_win, c_1, c_2])

set_option maxRecDepth 100000 in
set_option maxHeartbeats 4000000 in
theorem c_X4_off (l : Launch) (G : lc_G) (σ : lc_S) (x : lc_X) (n : Nat) (hn : n ≤ 6) (hs : x.1 7 0 = nI n) (s1 : Int32) (b : Bool) : lc_M l G yX4_off cX4_off 5 (some .int) { frames := 1, cells := 0, slots := 0, locals := 21 } [.ref (G.1 (0)), .int (s1), .int (lc_bi (b))] (lc_w σ 0 x) (some (.int ((sp_off x s1 b).1))) (lc_w σ 0 ((sp_off x s1 b).2)) := by
  refine lc_entry [(0, .ref (G.1 (0))), (1, .int (s1)), (2, .int (lc_bi (b)))] (by decide) (Nat.le_of_ble_eq_true rfl) rfl rfl rfl ?_
  intro Γ hR
  refine lc_aload_n 0 dX4_off_0 rfl ?_
  refine lc_g_world fl_X4_19 dX4_off_1 ?_
  refine lc_iload_n 1 dX4_off_4 rfl ?_
  refine lc_callV (4) (c_X3_knowsSite l G σ 0 x s1 (by omega)) hR.2.2.2.1 hR.2.2.2.2 mt_X3_knowsSite (by omega) (rfl) rfl ml_X4_69 rfl rfl (Nat.le_of_ble_eq_true rfl) ⟨⟨rfl, rfl⟩, Nat.le_of_ble_eq_true rfl, Nat.le_of_ble_eq_true rfl⟩ dX4_off_5 ?_
  show lc_V _ _ _ _ _ 8 _ [.int (lc_bi (sp_site x.1 s1))] (lc_w σ 0 x)
  refine lc_ifb_ne 15 dX4_off_8 (by decide) (fun c_1 => ?_) (fun c_1 => ?_)
  · skip
    refine lc_aload_n 0 dX4_off_15 rfl ?_
    refine lc_g_world fl_X4_19 dX4_off_16 ?_
    refine lc_iload_n 1 dX4_off_19 rfl ?_
    refine lc_callV (4) (c_X3_isOff l G σ 0 x s1 (by omega)) hR.2.2.2.1 hR.2.2.2.2 mt_X3_isOff (by omega) (rfl) rfl ml_X4_76 rfl rfl (Nat.le_of_ble_eq_true rfl) ⟨⟨rfl, rfl⟩, Nat.le_of_ble_eq_true rfl, Nat.le_of_ble_eq_true rfl⟩ dX4_off_20 ?_
    show lc_V _ _ _ _ _ 23 _ [.int (lc_bi (sp_bit (x.1 7 2) s1))] (lc_w σ 0 x)
    refine lc_tern 30 31 dX4_off_23 (by decide) dX4_off_26 dX4_off_27 (by decide) dX4_off_30 rfl ?_
    refine lc_istore_n [(3, .int (lc_bi (sp_bit (x.1 7 2) s1))), (0, .ref (G.1 (0))), (1, .int (s1)), (2, .int (lc_bi (b)))] dX4_off_31 (by decide) rfl ?_
    refine lc_iconst (v := 1) dX4_off_32 (by decide) ?_
    refine lc_iload_n 2 dX4_off_33 rfl ?_
    refine lc_ishl dX4_off_34 ?_
    refine lc_istore [(4, .int (((1 : Int32) <<< (s1 &&& 31)))), (3, .int (lc_bi (sp_bit (x.1 7 2) s1))), (0, .ref (G.1 (0))), (1, .int (s1)), (2, .int (lc_bi (b)))] dX4_off_35 (by decide) rfl ?_
    refine lc_aload_n 2 dX4_off_37 rfl ?_
    refine lc_g_world fl_X4_19 dX4_off_38 ?_
    refine lc_iload_n 4 dX4_off_41 rfl ?_
    refine lc_ifb_eq 58 dX4_off_42 (by decide) (fun c_3 => ?_) (fun c_3 => ?_)
    · skip
      refine lc_aload_n 2 dX4_off_58 rfl ?_
      refine lc_g_world fl_X4_19 dX4_off_59 ?_
      refine lc_gWOff 0 (by omega) fl_X4_102 dX4_off_62 ?_
      refine lc_iload 0 dX4_off_65 rfl ?_
      refine lc_iconst (v := (-1)) dX4_off_67 (by decide) ?_
      refine lc_ixor dX4_off_68 ?_
      refine lc_iand dX4_off_69 ?_
      refine lc_pWOff 0 (by omega) fl_X4_102 dX4_off_70 ?_
      refine lc_iload_n 1 dX4_off_73 rfl ?_
      exact lc_iret hR dX4_off_74 (by simp [sp_off, c_1, c_3]) (by simp [sp_off, c_1, c_3])
    · skip
      refine lc_aload_n 2 dX4_off_45 rfl ?_
      refine lc_g_world fl_X4_19 dX4_off_46 ?_
      refine lc_gWOff 0 (by omega) fl_X4_102 dX4_off_49 ?_
      refine lc_iload 0 dX4_off_52 rfl ?_
      refine lc_ior dX4_off_54 ?_
      refine lc_goto 70 dX4_off_55 (by decide) ?_
      refine lc_pWOff 0 (by omega) fl_X4_102 dX4_off_70 ?_
      refine lc_iload_n 1 dX4_off_73 rfl ?_
      exact lc_iret hR dX4_off_74 (by simp [sp_off, c_1, c_3]) (by simp [sp_off, c_1, c_3])
  · skip
    refine lc_sipush (v := (-1001)) dX4_off_11 (by decide) ?_
    exact lc_iret hR dX4_off_14 (by simp [sp_off, c_1]) (by simp [sp_off, c_1])

set_option maxRecDepth 100000 in
set_option maxHeartbeats 4000000 in
theorem c_X4_refusalOfPair (l : Launch) (G : lc_G) (σ : lc_S) (x : lc_X) (n : Nat) (hn : n ≤ 6) (hs : x.1 7 0 = nI n) (a1 b1 : Int32) : lc_M l G yX4_refusalOfPair cX4_refusalOfPair 3 (some .int) { frames := 1, cells := 0, slots := 0, locals := 21 } [.ref (G.1 (0)), .int (a1), .int (b1)] (lc_w σ 0 x) (some (.int (sp_pair x.1 a1 b1))) (lc_w σ 0 x) := by
  refine lc_entry [(0, .ref (G.1 (0))), (1, .int (a1)), (2, .int (b1))] (by decide) (Nat.le_of_ble_eq_true rfl) rfl rfl rfl ?_
  intro Γ hR
  refine lc_aload_n 0 dX4_refusalOfPair_0 rfl ?_
  refine lc_g_world fl_X4_19 dX4_refusalOfPair_1 ?_
  refine lc_iload_n 1 dX4_refusalOfPair_4 rfl ?_
  refine lc_callV (4) (c_X3_knowsSite l G σ 0 x a1 (by omega)) hR.2.2.2.1 hR.2.2.2.2 mt_X3_knowsSite (by omega) (rfl) rfl ml_X4_69 rfl rfl (Nat.le_of_ble_eq_true rfl) ⟨⟨rfl, rfl⟩, Nat.le_of_ble_eq_true rfl, Nat.le_of_ble_eq_true rfl⟩ dX4_refusalOfPair_5 ?_
  show lc_V _ _ _ _ _ 8 _ [.int (lc_bi (sp_site x.1 a1))] (lc_w σ 0 x)
  refine lc_ifb_eq 27 dX4_refusalOfPair_8 (by decide) (fun c_1 => ?_) (fun c_1 => ?_)
  · skip
    refine lc_sipush (v := (-1001)) dX4_refusalOfPair_27 (by decide) ?_
    exact lc_iret hR dX4_refusalOfPair_30 (by simp [sp_pair, c_1]) (rfl)
  · skip
    refine lc_aload_n 0 dX4_refusalOfPair_11 rfl ?_
    refine lc_g_world fl_X4_19 dX4_refusalOfPair_12 ?_
    refine lc_iload_n 2 dX4_refusalOfPair_15 rfl ?_
    refine lc_callV (4) (c_X3_knowsSite l G σ 0 x b1 (by omega)) hR.2.2.2.1 hR.2.2.2.2 mt_X3_knowsSite (by omega) (rfl) rfl ml_X4_69 rfl rfl (Nat.le_of_ble_eq_true rfl) ⟨⟨rfl, rfl⟩, Nat.le_of_ble_eq_true rfl, Nat.le_of_ble_eq_true rfl⟩ dX4_refusalOfPair_16 ?_
    show lc_V _ _ _ _ _ 19 _ [.int (lc_bi (sp_site x.1 b1))] (lc_w σ 0 x)
    refine lc_ifb_eq 27 dX4_refusalOfPair_19 (by decide) (fun c_2 => ?_) (fun c_2 => ?_)
    · skip
      refine lc_sipush (v := (-1001)) dX4_refusalOfPair_27 (by decide) ?_
      exact lc_iret hR dX4_refusalOfPair_30 (by simp [sp_pair, c_1, c_2]) (rfl)
    · skip
      refine lc_iload_n 1 dX4_refusalOfPair_22 rfl ?_
      refine lc_iload_n 2 dX4_refusalOfPair_23 rfl ?_
      refine lc_icmp_ne 31 dX4_refusalOfPair_24 (by decide) (fun c_3 => ?_) (fun c_3 => ?_)
      · skip
        refine lc_aload_n 0 dX4_refusalOfPair_31 rfl ?_
        refine lc_g_world fl_X4_19 dX4_refusalOfPair_32 ?_
        refine lc_iload_n 1 dX4_refusalOfPair_35 rfl ?_
        refine lc_callV (4) (c_X3_isOff l G σ 0 x a1 (by omega)) hR.2.2.2.1 hR.2.2.2.2 mt_X3_isOff (by omega) (rfl) rfl ml_X4_76 rfl rfl (Nat.le_of_ble_eq_true rfl) ⟨⟨rfl, rfl⟩, Nat.le_of_ble_eq_true rfl, Nat.le_of_ble_eq_true rfl⟩ dX4_refusalOfPair_36 ?_
        show lc_V _ _ _ _ _ 39 _ [.int (lc_bi (sp_bit (x.1 7 2) a1))] (lc_w σ 0 x)
        refine lc_ifb_ne 53 dX4_refusalOfPair_39 (by decide) (fun c_4 => ?_) (fun c_4 => ?_)
        · skip
          refine lc_sipush (v := (-1003)) dX4_refusalOfPair_53 (by decide) ?_
          refine lc_goto 60 dX4_refusalOfPair_56 (by decide) ?_
          exact lc_iret hR dX4_refusalOfPair_60 (by simp [sp_pair, c_1, c_2, c_3, c_4]) (rfl)
        · skip
          refine lc_aload_n 0 dX4_refusalOfPair_42 rfl ?_
          refine lc_g_world fl_X4_19 dX4_refusalOfPair_43 ?_
          refine lc_iload_n 2 dX4_refusalOfPair_46 rfl ?_
          refine lc_callV (4) (c_X3_isOff l G σ 0 x b1 (by omega)) hR.2.2.2.1 hR.2.2.2.2 mt_X3_isOff (by omega) (rfl) rfl ml_X4_76 rfl rfl (Nat.le_of_ble_eq_true rfl) ⟨⟨rfl, rfl⟩, Nat.le_of_ble_eq_true rfl, Nat.le_of_ble_eq_true rfl⟩ dX4_refusalOfPair_47 ?_
          show lc_V _ _ _ _ _ 50 _ [.int (lc_bi (sp_bit (x.1 7 2) b1))] (lc_w σ 0 x)
          refine lc_ifb_eq 59 dX4_refusalOfPair_50 (by decide) (fun c_5 => ?_) (fun c_5 => ?_)
          · skip
            refine lc_iconst (v := 0) dX4_refusalOfPair_59 (by decide) ?_
            exact lc_iret hR dX4_refusalOfPair_60 (by simp [sp_pair, c_1, c_2, c_3, c_4, c_5]) (rfl)
          · skip
            refine lc_sipush (v := (-1003)) dX4_refusalOfPair_53 (by decide) ?_
            refine lc_goto 60 dX4_refusalOfPair_56 (by decide) ?_
            exact lc_iret hR dX4_refusalOfPair_60 (by simp [sp_pair, c_1, c_2, c_3, c_4, c_5]) (rfl)
      · skip
        refine lc_sipush (v := (-1001)) dX4_refusalOfPair_27 (by decide) ?_
        exact lc_iret hR dX4_refusalOfPair_30 (by simp [sp_pair, c_1, c_2, c_3]) (rfl)

set_option maxRecDepth 100000 in
set_option maxHeartbeats 4000000 in
theorem c_X4_exchange (l : Launch) (G : lc_G) (σ : lc_S) (x : lc_X) (n : Nat) (hn : n ≤ 6) (hs : x.1 7 0 = nI n) (a1 b1 : Int32) : lc_M l G yX4_exchange cX4_exchange 4 (some .int) { frames := 4, cells := 0, slots := 0, locals := 95 } [.ref (G.1 (0)), .int (a1), .int (b1)] (lc_w σ 0 x) (some (.int ((sp_exch sp_cmp x a1 b1).1))) (lc_w σ 0 ((sp_exch sp_cmp x a1 b1).2)) := by
  refine lc_entry [(0, .ref (G.1 (0))), (1, .int (a1)), (2, .int (b1))] (by decide) (Nat.le_of_ble_eq_true rfl) rfl rfl rfl ?_
  intro Γ hR
  refine lc_aload_n 0 dX4_exchange_0 rfl ?_
  refine lc_iload_n 1 dX4_exchange_1 rfl ?_
  refine lc_iload_n 2 dX4_exchange_2 rfl ?_
  refine lc_callV (0) (c_X4_refusalOfPair l G σ x n hn hs a1 b1) hR.2.2.2.1 hR.2.2.2.2 mt_X4_refusalOfPair (by omega) (rfl) rfl ml_X4_105 rfl rfl (Nat.le_of_ble_eq_true rfl) ⟨⟨rfl, rfl⟩, Nat.le_of_ble_eq_true rfl, Nat.le_of_ble_eq_true rfl⟩ dX4_exchange_3 ?_
  show lc_V _ _ _ _ _ 6 _ [.int (sp_pair x.1 a1 b1)] (lc_w σ 0 x)
  refine lc_istore_n [(3, .int (sp_pair x.1 a1 b1)), (0, .ref (G.1 (0))), (1, .int (a1)), (2, .int (b1))] dX4_exchange_6 (by decide) rfl ?_
  refine lc_iload_n 0 dX4_exchange_7 rfl ?_
  refine lc_if_eq 15 dX4_exchange_8 (by decide) (fun c_1 => ?_) (fun c_1 => ?_)
  · skip
    obtain ⟨a2, b2, ha2, hb2, ea2, eb2⟩ := sp_pair_nat hn hs c_1
    subst ea2
    subst eb2
    have q1 : (nI a2).toNatClampNeg = a2 := nI_clamp (by omega)
    have q2 : (nI b2).toNatClampNeg = b2 := nI_clamp (by omega)
    refine lc_aload_n 1 dX4_exchange_15 rfl ?_
    refine lc_g_world fl_X4_19 dX4_exchange_16 ?_
    refine lc_iload_n 2 dX4_exchange_19 rfl ?_
    refine lc_iload_n 3 dX4_exchange_20 rfl ?_
    refine lc_callV (4) (c_X3_compareAll l G σ 0 x a2 b2 (by omega) (by omega) (by omega)) hR.2.2.2.1 hR.2.2.2.2 mt_X3_compareAll (by omega) (rfl) rfl ml_X4_109 rfl rfl (Nat.le_of_ble_eq_true rfl) ⟨⟨rfl, rfl⟩, Nat.le_of_ble_eq_true rfl, Nat.le_of_ble_eq_true rfl⟩ dX4_exchange_21 ?_
    show lc_V _ _ _ _ _ 24 _ [.int ((sp_cmp x a2 b2).1)] (lc_w σ 0 ((sp_cmp x a2 b2).2))
    exact lc_iret hR dX4_exchange_24 (by simp [sp_exch, c_1, q1, q2]) (by simp [sp_exch, c_1, q1, q2])
  · skip
    refine lc_iload_n 0 dX4_exchange_11 rfl ?_
    refine lc_goto 24 dX4_exchange_12 (by decide) ?_
    exact lc_iret hR dX4_exchange_24 (by simp [sp_exch, c_1]) (by simp [sp_exch, c_1])

set_option maxRecDepth 100000 in
set_option maxHeartbeats 4000000 in
theorem c_X4_rumour (l : Launch) (G : lc_G) (σ : lc_S) (x : lc_X) (n : Nat) (hn : n ≤ 6) (hs : x.1 7 0 = nI n) (a1 b1 : Int32) : lc_M l G yX4_rumour cX4_rumour 4 (some .int) { frames := 3, cells := 0, slots := 0, locals := 69 } [.ref (G.1 (0)), .int (a1), .int (b1)] (lc_w σ 0 x) (some (.int ((sp_exch sp_hots x a1 b1).1))) (lc_w σ 0 ((sp_exch sp_hots x a1 b1).2)) := by
  refine lc_entry [(0, .ref (G.1 (0))), (1, .int (a1)), (2, .int (b1))] (by decide) (Nat.le_of_ble_eq_true rfl) rfl rfl rfl ?_
  intro Γ hR
  refine lc_aload_n 0 dX4_rumour_0 rfl ?_
  refine lc_iload_n 1 dX4_rumour_1 rfl ?_
  refine lc_iload_n 2 dX4_rumour_2 rfl ?_
  refine lc_callV (0) (c_X4_refusalOfPair l G σ x n hn hs a1 b1) hR.2.2.2.1 hR.2.2.2.2 mt_X4_refusalOfPair (by omega) (rfl) rfl ml_X4_105 rfl rfl (Nat.le_of_ble_eq_true rfl) ⟨⟨rfl, rfl⟩, Nat.le_of_ble_eq_true rfl, Nat.le_of_ble_eq_true rfl⟩ dX4_rumour_3 ?_
  show lc_V _ _ _ _ _ 6 _ [.int (sp_pair x.1 a1 b1)] (lc_w σ 0 x)
  refine lc_istore_n [(3, .int (sp_pair x.1 a1 b1)), (0, .ref (G.1 (0))), (1, .int (a1)), (2, .int (b1))] dX4_rumour_6 (by decide) rfl ?_
  refine lc_iload_n 0 dX4_rumour_7 rfl ?_
  refine lc_if_eq 15 dX4_rumour_8 (by decide) (fun c_1 => ?_) (fun c_1 => ?_)
  · skip
    obtain ⟨a2, b2, ha2, hb2, ea2, eb2⟩ := sp_pair_nat hn hs c_1
    subst ea2
    subst eb2
    have q1 : (nI a2).toNatClampNeg = a2 := nI_clamp (by omega)
    have q2 : (nI b2).toNatClampNeg = b2 := nI_clamp (by omega)
    refine lc_aload_n 1 dX4_rumour_15 rfl ?_
    refine lc_g_world fl_X4_19 dX4_rumour_16 ?_
    refine lc_iload_n 2 dX4_rumour_19 rfl ?_
    refine lc_iload_n 3 dX4_rumour_20 rfl ?_
    refine lc_callV (4) (c_X3_tellHot l G σ 0 x a2 b2 (by omega) (by omega) (by omega)) hR.2.2.2.1 hR.2.2.2.2 mt_X3_tellHot (by omega) (rfl) rfl ml_X4_112 rfl rfl (Nat.le_of_ble_eq_true rfl) ⟨⟨rfl, rfl⟩, Nat.le_of_ble_eq_true rfl, Nat.le_of_ble_eq_true rfl⟩ dX4_rumour_21 ?_
    show lc_V _ _ _ _ _ 24 _ [.int ((sp_hots x a2 b2).1)] (lc_w σ 0 ((sp_hots x a2 b2).2))
    exact lc_iret hR dX4_rumour_24 (by simp [sp_exch, c_1, q1, q2]) (by simp [sp_exch, c_1, q1, q2])
  · skip
    refine lc_iload_n 0 dX4_rumour_11 rfl ?_
    refine lc_goto 24 dX4_rumour_12 (by decide) ?_
    exact lc_iret hR dX4_rumour_24 (by simp [sp_exch, c_1]) (by simp [sp_exch, c_1])

set_option maxRecDepth 100000 in
set_option maxHeartbeats 4000000 in
theorem c_X4_has (l : Launch) (G : lc_G) (σ : lc_S) (x : lc_X) (n : Nat) (hn : n ≤ 6) (hs : x.1 7 0 = nI n) (s1 k1 what : Int32) : lc_M l G yX4_has cX4_has 5 (some .int) { frames := 1, cells := 0, slots := 0, locals := 22 } [.ref (G.1 (0)), .int (s1), .int (k1), .int (what)] (lc_w σ 0 x) (some (.int (sp_has x.1 s1 k1 what))) (lc_w σ 0 x) := by
  refine lc_entry [(0, .ref (G.1 (0))), (1, .int (s1)), (2, .int (k1)), (3, .int (what))] (by decide) (Nat.le_of_ble_eq_true rfl) rfl rfl rfl ?_
  intro Γ hR
  refine lc_aload_n 0 dX4_has_0 rfl ?_
  refine lc_g_world fl_X4_19 dX4_has_1 ?_
  refine lc_iload_n 1 dX4_has_4 rfl ?_
  refine lc_callV (4) (c_X3_knowsSite l G σ 0 x s1 (by omega)) hR.2.2.2.1 hR.2.2.2.2 mt_X3_knowsSite (by omega) (rfl) rfl ml_X4_69 rfl rfl (Nat.le_of_ble_eq_true rfl) ⟨⟨rfl, rfl⟩, Nat.le_of_ble_eq_true rfl, Nat.le_of_ble_eq_true rfl⟩ dX4_has_5 ?_
  show lc_V _ _ _ _ _ 8 _ [.int (lc_bi (sp_site x.1 s1))] (lc_w σ 0 x)
  refine lc_ifb_eq 18 dX4_has_8 (by decide) (fun c_1 => ?_) (fun c_1 => ?_)
  · skip
    refine lc_sipush (v := (-1001)) dX4_has_18 (by decide) ?_
    exact lc_iret hR dX4_has_21 (by simp [sp_has, c_1]) (rfl)
  · skip
    obtain ⟨a1, ha1, ea1⟩ := sp_site_nat hn (hs) c_1
    subst ea1
    refine lc_iload_n 2 dX4_has_11 rfl ?_
    refine lc_callS (c_X4_isKey l G (lc_w σ 0 x) k1) hR.2.2.2.1 hR.2.2.2.2 mt_X4_isKey ml_X4_73 rfl rfl (Nat.le_of_ble_eq_true rfl) ⟨⟨rfl, rfl⟩, Nat.le_of_ble_eq_true rfl, Nat.le_of_ble_eq_true rfl⟩ dX4_has_12 ?_
    show lc_V _ _ _ _ _ 15 _ [.int (lc_bi (sp_key k1))] (lc_w σ 0 x)
    refine lc_ifb_ne 22 dX4_has_15 (by decide) (fun c_2 => ?_) (fun c_2 => ?_)
    · skip
      obtain ⟨k2, hk2, ek2⟩ := sp_key_nat c_2
      subst ek2
      refine lc_aload_n 0 dX4_has_22 rfl ?_
      refine lc_g_world fl_X4_19 dX4_has_23 ?_
      refine lc_iload_n 1 dX4_has_26 rfl ?_
      refine lc_iload_n 2 dX4_has_27 rfl ?_
      refine lc_callV (4) (c_X3_itemAt l G (lc_w σ 0 x) 0 a1 k2 (by omega) (by omega) (by omega)) hR.2.2.2.1 hR.2.2.2.2 mt_X3_itemAt (by omega) (rfl) rfl ml_X4_86 rfl rfl (Nat.le_of_ble_eq_true rfl) ⟨⟨rfl, rfl⟩, Nat.le_of_ble_eq_true rfl, Nat.le_of_ble_eq_true rfl⟩ dX4_has_28 ?_
      show lc_V _ _ _ _ _ 31 _ [.ref (G.1 (lc_it 0 (4 * a1 + k2)))] (lc_w σ 0 x)
      refine lc_astore [(4, .ref (G.1 (lc_it 0 (4 * a1 + k2)))), (0, .ref (G.1 (0))), (1, .int (nI a1)), (2, .int (nI k2)), (3, .int (what))] dX4_has_31 (by decide) rfl ?_
      refine lc_iload_n 4 dX4_has_33 rfl ?_
      rcases pk_ix what (n := 7) (by decide) with hw0 | hw0 | ⟨wi, hwi, ewi⟩
      · skip
        refine lc_tabOut 130 dX4_has_34 (Or.inl (Int32.lt_iff_toInt_lt.mp hw0)) (by decide) ?_
        refine lc_sipush (v := (-1002)) dX4_has_130 (by decide) ?_
        exact lc_iret hR dX4_has_133 (by simp [sp_has, sp_win_out (lo := 0) (hi := 6) (v := what) (Or.inl hw0), c_1, c_2]) (rfl)
      · skip
        refine lc_tabOut 130 dX4_has_34 (Or.inr (by have h9 := Int32.le_iff_toInt_le.mp hw0; rw [nI_toInt (by decide)] at h9; omega)) (by decide) ?_
        refine lc_sipush (v := (-1002)) dX4_has_130 (by decide) ?_
        exact lc_iret hR dX4_has_133 (by simp [sp_has, sp_win_out (lo := 0) (hi := 6) (v := what) (Or.inr (Int32.lt_of_lt_of_le (by decide) hw0)), c_1, c_2]) (rfl)
      · skip
        subst ewi
        match wi, hwi with
        | 0, _ =>
          refine lc_tabIn 76 0 dX4_has_34 (by decide) (by decide) rfl (by decide) ?_
          refine lc_aload 0 dX4_has_76 rfl ?_
          refine lc_gIw 0 (4 * a1 + k2) 0 (by omega) (by omega) (by decide) fl_X4_90 dX4_has_78 ?_
          exact lc_iret hR dX4_has_81 (by simp [sp_has, sp_hasv, show sp_win (nI 0) 0 6 = true by decide, show (nI 0).toNatClampNeg = 0 by decide, nI_clamp (show a1 < 2 ^ 31 by omega), nI_clamp (show k2 < 2 ^ 31 by omega), c_1, c_2]) (rfl)
        | 1, _ =>
          refine lc_tabIn 82 1 dX4_has_34 (by decide) (by decide) rfl (by decide) ?_
          refine lc_aload 0 dX4_has_82 rfl ?_
          refine lc_gIw 0 (4 * a1 + k2) 1 (by omega) (by omega) (by decide) fl_X4_115 dX4_has_84 ?_
          exact lc_iret hR dX4_has_87 (by simp [sp_has, sp_hasv, show sp_win (nI 1) 0 6 = true by decide, show (nI 1).toNatClampNeg = 1 by decide, nI_clamp (show a1 < 2 ^ 31 by omega), nI_clamp (show k2 < 2 ^ 31 by omega), c_1, c_2]) (rfl)
        | 2, _ =>
          refine lc_tabIn 88 2 dX4_has_34 (by decide) (by decide) rfl (by decide) ?_
          refine lc_aload 0 dX4_has_88 rfl ?_
          refine lc_gIw 0 (4 * a1 + k2) 2 (by omega) (by omega) (by decide) fl_X4_118 dX4_has_90 ?_
          exact lc_iret hR dX4_has_93 (by simp [sp_has, sp_hasv, show sp_win (nI 2) 0 6 = true by decide, show (nI 2).toNatClampNeg = 2 by decide, nI_clamp (show a1 < 2 ^ 31 by omega), nI_clamp (show k2 < 2 ^ 31 by omega), c_1, c_2]) (rfl)
        | 3, _ =>
          refine lc_tabIn 94 3 dX4_has_34 (by decide) (by decide) rfl (by decide) ?_
          refine lc_aload 0 dX4_has_94 rfl ?_
          refine lc_gIw 0 (4 * a1 + k2) 3 (by omega) (by omega) (by decide) fl_X4_121 dX4_has_96 ?_
          exact lc_iret hR dX4_has_99 (by simp [sp_has, sp_hasv, show sp_win (nI 3) 0 6 = true by decide, show (nI 3).toNatClampNeg = 3 by decide, nI_clamp (show a1 < 2 ^ 31 by omega), nI_clamp (show k2 < 2 ^ 31 by omega), c_1, c_2]) (rfl)
        | 4, _ =>
          refine lc_tabIn 100 4 dX4_has_34 (by decide) (by decide) rfl (by decide) ?_
          refine lc_aload 0 dX4_has_100 rfl ?_
          refine lc_gIw 0 (4 * a1 + k2) 4 (by omega) (by omega) (by decide) fl_X4_124 dX4_has_102 ?_
          exact lc_iret hR dX4_has_105 (by simp [sp_has, sp_hasv, show sp_win (nI 4) 0 6 = true by decide, show (nI 4).toNatClampNeg = 4 by decide, nI_clamp (show a1 < 2 ^ 31 by omega), nI_clamp (show k2 < 2 ^ 31 by omega), c_1, c_2]) (rfl)
        | 5, _ =>
          refine lc_tabIn 106 5 dX4_has_34 (by decide) (by decide) rfl (by decide) ?_
          refine lc_aload_n 1 dX4_has_106 rfl ?_
          refine lc_g_world fl_X4_19 dX4_has_107 ?_
          refine lc_aload 0 dX4_has_110 rfl ?_
          refine lc_callV (4) (c_X3_isDormant l G σ 0 x (4 * a1 + k2) (by omega) (by omega)) hR.2.2.2.1 hR.2.2.2.2 mt_X3_isDormant (by omega) (rfl) rfl ml_X4_127 rfl rfl (Nat.le_of_ble_eq_true rfl) ⟨⟨rfl, rfl⟩, Nat.le_of_ble_eq_true rfl, Nat.le_of_ble_eq_true rfl⟩ dX4_has_112 ?_
          show lc_V _ _ _ _ _ 115 _ [.int (lc_bi (sp_dor x.1 (4 * a1 + k2)))] (lc_w σ 0 x)
          refine lc_tern 122 123 dX4_has_115 (by decide) dX4_has_118 dX4_has_119 (by decide) dX4_has_122 rfl ?_
          exact lc_iret hR dX4_has_123 (by simp [sp_has, sp_hasv, show sp_win (nI 5) 0 6 = true by decide, show (nI 5).toNatClampNeg = 5 by decide, nI_clamp (show a1 < 2 ^ 31 by omega), nI_clamp (show k2 < 2 ^ 31 by omega), c_1, c_2]) (rfl)
        | 6, _ =>
          refine lc_tabIn 124 6 dX4_has_34 (by decide) (by decide) rfl (by decide) ?_
          refine lc_aload 0 dX4_has_124 rfl ?_
          refine lc_gIw 0 (4 * a1 + k2) 5 (by omega) (by omega) (by decide) fl_X4_131 dX4_has_126 ?_
          exact lc_iret hR dX4_has_129 (by simp [sp_has, sp_hasv, show sp_win (nI 6) 0 6 = true by decide, show (nI 6).toNatClampNeg = 6 by decide, nI_clamp (show a1 < 2 ^ 31 by omega), nI_clamp (show k2 < 2 ^ 31 by omega), c_1, c_2]) (rfl)
        | wi + 7, h => exact absurd h (by omega)
    · skip
      refine lc_sipush (v := (-1001)) dX4_has_18 (by decide) ?_
      exact lc_iret hR dX4_has_21 (by simp [sp_has, c_1, c_2]) (rfl)

set_option maxRecDepth 100000 in
set_option maxHeartbeats 4000000 in
theorem c_X4_newest (l : Launch) (G : lc_G) (σ : lc_S) (x : lc_X) (n : Nat) (hn : n ≤ 6) (hs : x.1 7 0 = nI n) (s1 kind : Int32) : lc_M l G yX4_newest cX4_newest 3 (some .int) { frames := 2, cells := 0, slots := 0, locals := 48 } [.ref (G.1 (0)), .int (s1), .int (kind)] (lc_w σ 0 x) (some (.int (sp_newest x.1 s1 kind))) (lc_w σ 0 x) := by
  refine lc_entry [(0, .ref (G.1 (0))), (1, .int (s1)), (2, .int (kind))] (by decide) (Nat.le_of_ble_eq_true rfl) rfl rfl rfl ?_
  intro Γ hR
  refine lc_aload_n 0 dX4_newest_0 rfl ?_
  refine lc_g_world fl_X4_19 dX4_newest_1 ?_
  refine lc_iload_n 1 dX4_newest_4 rfl ?_
  refine lc_callV (4) (c_X3_knowsSite l G σ 0 x s1 (by omega)) hR.2.2.2.1 hR.2.2.2.2 mt_X3_knowsSite (by omega) (rfl) rfl ml_X4_69 rfl rfl (Nat.le_of_ble_eq_true rfl) ⟨⟨rfl, rfl⟩, Nat.le_of_ble_eq_true rfl, Nat.le_of_ble_eq_true rfl⟩ dX4_newest_5 ?_
  show lc_V _ _ _ _ _ 8 _ [.int (lc_bi (sp_site x.1 s1))] (lc_w σ 0 x)
  refine lc_ifb_ne 15 dX4_newest_8 (by decide) (fun c_1 => ?_) (fun c_1 => ?_)
  · skip
    obtain ⟨a1, ha1, ea1⟩ := sp_site_nat hn (hs) c_1
    subst ea1
    refine lc_iload_n 2 dX4_newest_15 rfl ?_
    refine lc_if_lt 24 dX4_newest_16 (by decide) (fun c_2 => ?_) (fun c_2 => ?_)
    · skip
      refine lc_sipush (v := (-1002)) dX4_newest_24 (by decide) ?_
      exact lc_iret hR dX4_newest_27 (by simp [sp_newest, sp_win, c_1, c_2]) (rfl)
    · skip
      refine lc_iload_n 2 dX4_newest_19 rfl ?_
      refine lc_iconst (v := 2) dX4_newest_20 (by decide) ?_
      refine lc_icmp_le 28 dX4_newest_21 (by decide) (fun c_3 => ?_) (fun c_3 => ?_)
      · skip
        refine lc_aload_n 0 dX4_newest_28 rfl ?_
        refine lc_g_world fl_X4_19 dX4_newest_29 ?_
        refine lc_iload_n 1 dX4_newest_32 rfl ?_
        refine lc_iload_n 2 dX4_newest_33 rfl ?_
        refine lc_callV (4) (c_X3_newestKey l G σ 0 x a1 kind (by omega) (by omega)) hR.2.2.2.1 hR.2.2.2.2 mt_X3_newestKey (by omega) (rfl) rfl ml_X4_134 rfl rfl (Nat.le_of_ble_eq_true rfl) ⟨⟨rfl, rfl⟩, Nat.le_of_ble_eq_true rfl, Nat.le_of_ble_eq_true rfl⟩ dX4_newest_34 ?_
        show lc_V _ _ _ _ _ 37 _ [.int (sp_on (sp_nks x.1 a1 kind))] (lc_w σ 0 x)
        exact lc_iret hR dX4_newest_37 (by simp [sp_newest, sp_win, nI_clamp (show a1 < 2 ^ 31 by omega), c_1, c_2, c_3]) (rfl)
      · skip
        refine lc_sipush (v := (-1002)) dX4_newest_24 (by decide) ?_
        exact lc_iret hR dX4_newest_27 (by simp [sp_newest, sp_win, c_1, c_2, c_3]) (rfl)
  · skip
    refine lc_sipush (v := (-1001)) dX4_newest_11 (by decide) ?_
    exact lc_iret hR dX4_newest_14 (by simp [sp_newest, sp_win, c_1]) (rfl)

set_option maxRecDepth 100000 in
set_option maxHeartbeats 4000000 in
theorem c_X4_alike (l : Launch) (G : lc_G) (σ : lc_S) (x : lc_X) (n : Nat) (hn : n ≤ 6) (hs : x.1 7 0 = nI n) (s1 s2 : Int32) : lc_M l G yX4_alike cX4_alike 3 (some .int) { frames := 3, cells := 0, slots := 0, locals := 66 } [.ref (G.1 (0)), .int (s1), .int (s2)] (lc_w σ 0 x) (some (.int (sp_alk sp_alike x.1 s1 s2))) (lc_w σ 0 x) := by
  refine lc_entry [(0, .ref (G.1 (0))), (1, .int (s1)), (2, .int (s2))] (by decide) (Nat.le_of_ble_eq_true rfl) rfl rfl rfl ?_
  intro Γ hR
  refine lc_aload_n 0 dX4_alike_0 rfl ?_
  refine lc_g_world fl_X4_19 dX4_alike_1 ?_
  refine lc_iload_n 1 dX4_alike_4 rfl ?_
  refine lc_callV (4) (c_X3_knowsSite l G σ 0 x s1 (by omega)) hR.2.2.2.1 hR.2.2.2.2 mt_X3_knowsSite (by omega) (rfl) rfl ml_X4_69 rfl rfl (Nat.le_of_ble_eq_true rfl) ⟨⟨rfl, rfl⟩, Nat.le_of_ble_eq_true rfl, Nat.le_of_ble_eq_true rfl⟩ dX4_alike_5 ?_
  show lc_V _ _ _ _ _ 8 _ [.int (lc_bi (sp_site x.1 s1))] (lc_w σ 0 x)
  refine lc_ifb_eq 22 dX4_alike_8 (by decide) (fun c_1 => ?_) (fun c_1 => ?_)
  · skip
    refine lc_sipush (v := (-1001)) dX4_alike_22 (by decide) ?_
    exact lc_iret hR dX4_alike_25 (by simp [sp_alk, c_1]) (rfl)
  · skip
    obtain ⟨a1, ha1, ea1⟩ := sp_site_nat hn (hs) c_1
    subst ea1
    refine lc_aload_n 0 dX4_alike_11 rfl ?_
    refine lc_g_world fl_X4_19 dX4_alike_12 ?_
    refine lc_iload_n 2 dX4_alike_15 rfl ?_
    refine lc_callV (4) (c_X3_knowsSite l G σ 0 x s2 (by omega)) hR.2.2.2.1 hR.2.2.2.2 mt_X3_knowsSite (by omega) (rfl) rfl ml_X4_69 rfl rfl (Nat.le_of_ble_eq_true rfl) ⟨⟨rfl, rfl⟩, Nat.le_of_ble_eq_true rfl, Nat.le_of_ble_eq_true rfl⟩ dX4_alike_16 ?_
    show lc_V _ _ _ _ _ 19 _ [.int (lc_bi (sp_site x.1 s2))] (lc_w σ 0 x)
    refine lc_ifb_ne 26 dX4_alike_19 (by decide) (fun c_2 => ?_) (fun c_2 => ?_)
    · skip
      obtain ⟨a2, ha2, ea2⟩ := sp_site_nat hn (hs) c_2
      subst ea2
      refine lc_aload_n 0 dX4_alike_26 rfl ?_
      refine lc_g_world fl_X4_19 dX4_alike_27 ?_
      refine lc_iload_n 1 dX4_alike_30 rfl ?_
      refine lc_iload_n 2 dX4_alike_31 rfl ?_
      refine lc_callV (4) (c_X3_areAlike l G σ 0 x a1 a2 (by omega) (by omega) (by omega)) hR.2.2.2.1 hR.2.2.2.2 mt_X3_areAlike (by omega) (rfl) rfl ml_X4_137 rfl rfl (Nat.le_of_ble_eq_true rfl) ⟨⟨rfl, rfl⟩, Nat.le_of_ble_eq_true rfl, Nat.le_of_ble_eq_true rfl⟩ dX4_alike_32 ?_
      show lc_V _ _ _ _ _ 35 _ [.int (lc_bi (sp_alike x.1 a1 a2))] (lc_w σ 0 x)
      refine lc_tern 42 43 dX4_alike_35 (by decide) dX4_alike_38 dX4_alike_39 (by decide) dX4_alike_42 rfl ?_
      exact lc_iret hR dX4_alike_43 (by simp [sp_alk, nI_clamp (show a1 < 2 ^ 31 by omega), nI_clamp (show a2 < 2 ^ 31 by omega), c_1, c_2]) (rfl)
    · skip
      refine lc_sipush (v := (-1001)) dX4_alike_22 (by decide) ?_
      exact lc_iret hR dX4_alike_25 (by simp [sp_alk, c_1, c_2]) (rfl)

set_option maxRecDepth 100000 in
set_option maxHeartbeats 4000000 in
theorem c_X4_risen (l : Launch) (G : lc_G) (σ : lc_S) (x : lc_X) (n : Nat) (hn : n ≤ 6) (hs : x.1 7 0 = nI n) (k1 : Int32) : lc_M l G yX4_risen cX4_risen 2 (some .int) { frames := 2, cells := 0, slots := 0, locals := 46 } [.ref (G.1 (0)), .int (k1)] (lc_w σ 0 x) (some (.int (sp_risen x.1 (σ.2.1 3) n k1))) (lc_w σ 0 x) := by
  refine lc_entry [(0, .ref (G.1 (0))), (1, .int (k1))] (by decide) (Nat.le_of_ble_eq_true rfl) rfl rfl rfl ?_
  intro Γ hR
  refine lc_iload_n 1 dX4_risen_0 rfl ?_
  refine lc_callS (c_X4_isKey l G (lc_w σ 0 x) k1) hR.2.2.2.1 hR.2.2.2.2 mt_X4_isKey ml_X4_73 rfl rfl (Nat.le_of_ble_eq_true rfl) ⟨⟨rfl, rfl⟩, Nat.le_of_ble_eq_true rfl, Nat.le_of_ble_eq_true rfl⟩ dX4_risen_1 ?_
  show lc_V _ _ _ _ _ 4 _ [.int (lc_bi (sp_key k1))] (lc_w σ 0 x)
  refine lc_ifb_ne 11 dX4_risen_4 (by decide) (fun c_1 => ?_) (fun c_1 => ?_)
  · skip
    obtain ⟨k2, hk2, ek2⟩ := sp_key_nat c_1
    subst ek2
    refine lc_aload_n 0 dX4_risen_11 rfl ?_
    refine lc_g_world fl_X4_19 dX4_risen_12 ?_
    refine lc_iload_n 1 dX4_risen_15 rfl ?_
    refine lc_callV (4) (c_X3_risenSites l G σ 0 x n k2 (by omega) (by omega) (hs) (by omega)) hR.2.2.2.1 hR.2.2.2.2 mt_X3_risenSites (by omega) (rfl) rfl ml_X4_141 rfl rfl (Nat.le_of_ble_eq_true rfl) ⟨⟨rfl, rfl⟩, Nat.le_of_ble_eq_true rfl, Nat.le_of_ble_eq_true rfl⟩ dX4_risen_16 ?_
    show lc_V _ _ _ _ _ 19 _ [.int (sp_rss x.1 (σ.2.1 (3)) k2 n)] (lc_w σ 0 x)
    exact lc_iret hR dX4_risen_19 (by simp [sp_risen, nI_clamp (show k2 < 2 ^ 31 by omega), c_1]) (rfl)
  · skip
    refine lc_sipush (v := (-1001)) dX4_risen_7 (by decide) ?_
    exact lc_iret hR dX4_risen_10 (by simp [sp_risen, c_1]) (rfl)

set_option maxRecDepth 100000 in
set_option maxHeartbeats 4000000 in
theorem c_X4_partner (l : Launch) (G : lc_G) (σ : lc_S) (x : lc_X) (n : Nat) (hn : n ≤ 6) (hs : x.1 7 0 = nI n) (s1 seed what : Int32) : lc_M l G yX4_partner cX4_partner 5 (some .int) { frames := 3, cells := 0, slots := 0, locals := 70 } [.ref (G.1 (0)), .int (s1), .int (seed), .int (what)] (lc_w σ 0 x) (some (.int (sp_pnr x.1 (σ.2.1 6) n s1 seed what))) (lc_w σ 0 x) := by
  refine lc_entry [(0, .ref (G.1 (0))), (1, .int (s1)), (2, .int (seed)), (3, .int (what))] (by decide) (Nat.le_of_ble_eq_true rfl) rfl rfl rfl ?_
  intro Γ hR
  refine lc_aload_n 0 dX4_partner_0 rfl ?_
  refine lc_g_world fl_X4_19 dX4_partner_1 ?_
  refine lc_iload_n 1 dX4_partner_4 rfl ?_
  refine lc_callV (4) (c_X3_knowsSite l G σ 0 x s1 (by omega)) hR.2.2.2.1 hR.2.2.2.2 mt_X3_knowsSite (by omega) (rfl) rfl ml_X4_69 rfl rfl (Nat.le_of_ble_eq_true rfl) ⟨⟨rfl, rfl⟩, Nat.le_of_ble_eq_true rfl, Nat.le_of_ble_eq_true rfl⟩ dX4_partner_5 ?_
  show lc_V _ _ _ _ _ 8 _ [.int (lc_bi (sp_site x.1 s1))] (lc_w σ 0 x)
  refine lc_ifb_ne 15 dX4_partner_8 (by decide) (fun c_1 => ?_) (fun c_1 => ?_)
  · skip
    obtain ⟨a1, ha1, ea1⟩ := sp_site_nat hn (hs) c_1
    subst ea1
    refine lc_iload_n 2 dX4_partner_15 rfl ?_
    refine lc_if_lt 28 dX4_partner_16 (by decide) (fun c_2 => ?_) (fun c_2 => ?_)
    · skip
      refine lc_sipush (v := (-1002)) dX4_partner_28 (by decide) ?_
      exact lc_iret hR dX4_partner_31 (by simp [sp_pnr, sp_win, c_1, c_2]) (rfl)
    · skip
      refine lc_iload_n 3 dX4_partner_19 rfl ?_
      refine lc_if_lt 28 dX4_partner_20 (by decide) (fun c_3 => ?_) (fun c_3 => ?_)
      · skip
        refine lc_sipush (v := (-1002)) dX4_partner_28 (by decide) ?_
        exact lc_iret hR dX4_partner_31 (by simp [sp_pnr, sp_win, c_1, c_2, c_3]) (rfl)
      · skip
        refine lc_iload_n 3 dX4_partner_23 rfl ?_
        refine lc_iconst (v := 1) dX4_partner_24 (by decide) ?_
        refine lc_icmp_le 32 dX4_partner_25 (by decide) (fun c_4 => ?_) (fun c_4 => ?_)
        · skip
          refine lc_aload_n 0 dX4_partner_32 rfl ?_
          refine lc_g_world fl_X4_19 dX4_partner_33 ?_
          refine lc_iload_n 1 dX4_partner_36 rfl ?_
          refine lc_callV (4) (c_X3_othersOn l G σ 0 x (nI a1) (by omega)) hR.2.2.2.1 hR.2.2.2.2 mt_X3_othersOn (by omega) (rfl) rfl ml_X4_144 rfl rfl (Nat.le_of_ble_eq_true rfl) ⟨⟨rfl, rfl⟩, Nat.le_of_ble_eq_true rfl, Nat.le_of_ble_eq_true rfl⟩ dX4_partner_37 ?_
          show lc_V _ _ _ _ _ 40 _ [.int (sp_othOn x.1 (nI a1))] (lc_w σ 0 x)
          refine lc_if_ne 47 dX4_partner_40 (by decide) (fun c_5 => ?_) (fun c_5 => ?_)
          · skip
            refine lc_iload_n 2 dX4_partner_47 rfl ?_
            refine lc_callS (c_X4_nextSeed l G (lc_w σ 0 x) seed) hR.2.2.2.1 hR.2.2.2.2 mt_X4_nextSeed ml_X4_147 rfl rfl (Nat.le_of_ble_eq_true rfl) ⟨⟨rfl, rfl⟩, Nat.le_of_ble_eq_true rfl, Nat.le_of_ble_eq_true rfl⟩ dX4_partner_48 ?_
            show lc_V _ _ _ _ _ 51 _ [.int (sp_next seed)] (lc_w σ 0 x)
            refine lc_istore [(4, .int (sp_next seed)), (0, .ref (G.1 (0))), (1, .int (nI a1)), (2, .int (seed)), (3, .int (what))] dX4_partner_51 (by decide) rfl ?_
            refine lc_iload_n 4 dX4_partner_53 rfl ?_
            refine lc_if_ne 70 dX4_partner_54 (by decide) (fun c_6 => ?_) (fun c_6 => ?_)
            · skip
              refine lc_iload 0 dX4_partner_70 rfl ?_
              exact lc_iret hR dX4_partner_72 (by simp [sp_pnr, sp_win, c_1, c_2, c_3, c_4, c_5, c_6]) (rfl)
            · skip
              refine lc_aload_n 1 dX4_partner_57 rfl ?_
              refine lc_g_world fl_X4_19 dX4_partner_58 ?_
              refine lc_iload_n 2 dX4_partner_61 rfl ?_
              refine lc_iload 0 dX4_partner_62 rfl ?_
              refine lc_callV (4) (c_X3_partnerBy l G σ 0 x n a1 (sp_next seed) (by omega) (by omega) (by omega) (hs)) hR.2.2.2.1 hR.2.2.2.2 mt_X3_partnerBy (by omega) (rfl) rfl ml_X4_150 rfl rfl (Nat.le_of_ble_eq_true rfl) ⟨⟨rfl, rfl⟩, Nat.le_of_ble_eq_true rfl, Nat.le_of_ble_eq_true rfl⟩ dX4_partner_64 ?_
              show lc_V _ _ _ _ _ 67 _ [.int (sp_partC x.1 (σ.2.1 6) a1 n (sp_next seed))] (lc_w σ 0 x)
              refine lc_goto 72 dX4_partner_67 (by decide) ?_
              exact lc_iret hR dX4_partner_72 (by simp [sp_pnr, sp_win, nI_clamp (show a1 < 2 ^ 31 by omega), c_1, c_2, c_3, c_4, c_5, c_6]) (rfl)
          · skip
            refine lc_iload_n 2 dX4_partner_43 rfl ?_
            refine lc_goto 51 dX4_partner_44 (by decide) ?_
            refine lc_istore [(4, .int (seed)), (0, .ref (G.1 (0))), (1, .int (nI a1)), (2, .int (seed)), (3, .int (what))] dX4_partner_51 (by decide) rfl ?_
            refine lc_iload_n 4 dX4_partner_53 rfl ?_
            refine lc_if_ne 70 dX4_partner_54 (by decide) (fun c_7 => ?_) (fun c_7 => ?_)
            · skip
              refine lc_iload 0 dX4_partner_70 rfl ?_
              exact lc_iret hR dX4_partner_72 (by simp [sp_pnr, sp_win, c_1, c_2, c_3, c_4, c_5, c_7]) (rfl)
            · skip
              refine lc_aload_n 1 dX4_partner_57 rfl ?_
              refine lc_g_world fl_X4_19 dX4_partner_58 ?_
              refine lc_iload_n 2 dX4_partner_61 rfl ?_
              refine lc_iload 0 dX4_partner_62 rfl ?_
              refine lc_callV (4) (c_X3_partnerBy l G σ 0 x n a1 seed (by omega) (by omega) (by omega) (hs)) hR.2.2.2.1 hR.2.2.2.2 mt_X3_partnerBy (by omega) (rfl) rfl ml_X4_150 rfl rfl (Nat.le_of_ble_eq_true rfl) ⟨⟨rfl, rfl⟩, Nat.le_of_ble_eq_true rfl, Nat.le_of_ble_eq_true rfl⟩ dX4_partner_64 ?_
              show lc_V _ _ _ _ _ 67 _ [.int (sp_partC x.1 (σ.2.1 6) a1 n seed)] (lc_w σ 0 x)
              refine lc_goto 72 dX4_partner_67 (by decide) ?_
              exact lc_iret hR dX4_partner_72 (by simp [sp_pnr, sp_win, nI_clamp (show a1 < 2 ^ 31 by omega), c_1, c_2, c_3, c_4, c_5, c_7]) (rfl)
        · skip
          refine lc_sipush (v := (-1002)) dX4_partner_28 (by decide) ?_
          exact lc_iret hR dX4_partner_31 (by simp [sp_pnr, sp_win, c_1, c_2, c_3, c_4]) (rfl)
  · skip
    refine lc_sipush (v := (-1001)) dX4_partner_11 (by decide) ?_
    exact lc_iret hR dX4_partner_14 (by simp [sp_pnr, sp_win, c_1]) (rfl)

set_option maxRecDepth 100000 in
set_option maxHeartbeats 4000000 in
theorem c_X4_count (l : Launch) (G : lc_G) (σ : lc_S) (x : lc_X) (n : Nat) (hn : n ≤ 6) (hs : x.1 7 0 = nI n) (what : Int32) : lc_M l G yX4_count cX4_count 2 (some .int) { frames := 0, cells := 0, slots := 0, locals := 0 } [.ref (G.1 (0)), .int (what)] (lc_w σ 0 x) (some (.int (sp_count σ x 0 10 what))) (lc_w σ 0 x) := by
  refine lc_entry [(0, .ref (G.1 (0))), (1, .int (what))] (by decide) (Nat.le_of_ble_eq_true rfl) rfl rfl rfl ?_
  intro Γ hR
  refine lc_iload_n 1 dX4_count_0 rfl ?_
  rcases pk_ix what (n := 12) (by decide) with hw0 | hw0 | ⟨wi, hwi, ewi⟩
  · skip
    refine lc_tabOut 165 dX4_count_1 (Or.inl (Int32.lt_iff_toInt_lt.mp hw0)) (by decide) ?_
    refine lc_sipush (v := (-1002)) dX4_count_165 (by decide) ?_
    exact lc_iret hR dX4_count_168 (by simp [sp_count, sp_win_out (lo := 0) (hi := 11) (v := what) (Or.inl hw0)]) (rfl)
  · skip
    refine lc_tabOut 165 dX4_count_1 (Or.inr (by have h9 := Int32.le_iff_toInt_le.mp hw0; rw [nI_toInt (by decide)] at h9; omega)) (by decide) ?_
    refine lc_sipush (v := (-1002)) dX4_count_165 (by decide) ?_
    exact lc_iret hR dX4_count_168 (by simp [sp_count, sp_win_out (lo := 0) (hi := 11) (v := what) (Or.inr (Int32.lt_of_lt_of_le (by decide) hw0))]) (rfl)
  · skip
    subst ewi
    match wi, hwi with
    | 0, _ =>
      refine lc_tabIn 64 0 dX4_count_1 (by decide) (by decide) rfl (by decide) ?_
      refine lc_aload_n 0 dX4_count_64 rfl ?_
      refine lc_g_page fl_X4_10 dX4_count_65 ?_
      refine lc_gw_len 0 (by omega) fl_X4_30 dX4_count_68 ?_
      exact lc_iret hR dX4_count_71 (by simp [sp_count, sp_cntv, show sp_win (nI 0) 0 11 = true by decide, show (nI 0).toNatClampNeg = 0 by decide]) (rfl)
    | 1, _ =>
      refine lc_tabIn 72 1 dX4_count_1 (by decide) (by decide) rfl (by decide) ?_
      refine lc_aload_n 0 dX4_count_72 rfl ?_
      refine lc_g_world fl_X4_19 dX4_count_73 ?_
      refine lc_gWSites 0 (by omega) fl_X4_53 dX4_count_76 ?_
      exact lc_iret hR dX4_count_79 (by simp [sp_count, sp_cntv, show sp_win (nI 1) 0 11 = true by decide, show (nI 1).toNatClampNeg = 1 by decide]) (rfl)
    | 2, _ =>
      refine lc_tabIn 80 2 dX4_count_1 (by decide) (by decide) rfl (by decide) ?_
      refine lc_aload_n 0 dX4_count_80 rfl ?_
      refine lc_g_world fl_X4_19 dX4_count_81 ?_
      refine lc_gWNow 0 (by omega) fl_X4_79 dX4_count_84 ?_
      exact lc_iret hR dX4_count_87 (by simp [sp_count, sp_cntv, show sp_win (nI 2) 0 11 = true by decide, show (nI 2).toNatClampNeg = 2 by decide]) (rfl)
    | 3, _ =>
      refine lc_tabIn 88 3 dX4_count_1 (by decide) (by decide) rfl (by decide) ?_
      refine lc_aload_n 0 dX4_count_88 rfl ?_
      refine lc_g_world fl_X4_19 dX4_count_89 ?_
      refine lc_gWOff 0 (by omega) fl_X4_102 dX4_count_92 ?_
      exact lc_iret hR dX4_count_95 (by simp [sp_count, sp_cntv, show sp_win (nI 3) 0 11 = true by decide, show (nI 3).toNatClampNeg = 3 by decide]) (rfl)
    | 4, _ =>
      refine lc_tabIn 96 4 dX4_count_1 (by decide) (by decide) rfl (by decide) ?_
      refine lc_aload_n 0 dX4_count_96 rfl ?_
      refine lc_g_world fl_X4_19 dX4_count_97 ?_
      refine lc_gWTra 0 (by omega) fl_X4_160 dX4_count_100 ?_
      exact lc_iret hR dX4_count_103 (by simp [sp_count, sp_cntv, show sp_win (nI 4) 0 11 = true by decide, show (nI 4).toNatClampNeg = 4 by decide]) (rfl)
    | 5, _ =>
      refine lc_tabIn 104 5 dX4_count_1 (by decide) (by decide) rfl (by decide) ?_
      refine lc_aload_n 0 dX4_count_104 rfl ?_
      refine lc_g_world fl_X4_19 dX4_count_105 ?_
      refine lc_gWWok 0 (by omega) fl_X4_163 dX4_count_108 ?_
      exact lc_iret hR dX4_count_111 (by simp [sp_count, sp_cntv, show sp_win (nI 5) 0 11 = true by decide, show (nI 5).toNatClampNeg = 5 by decide]) (rfl)
    | 6, _ =>
      refine lc_tabIn 112 6 dX4_count_1 (by decide) (by decide) rfl (by decide) ?_
      refine lc_aload_n 0 dX4_count_112 rfl ?_
      refine lc_g_world fl_X4_19 dX4_count_113 ?_
      refine lc_gWGon 0 (by omega) fl_X4_166 dX4_count_116 ?_
      exact lc_iret hR dX4_count_119 (by simp [sp_count, sp_cntv, show sp_win (nI 6) 0 11 = true by decide, show (nI 6).toNatClampNeg = 6 by decide]) (rfl)
    | 7, _ =>
      refine lc_tabIn 120 7 dX4_count_1 (by decide) (by decide) rfl (by decide) ?_
      refine lc_aload_n 0 dX4_count_120 rfl ?_
      refine lc_g_world fl_X4_19 dX4_count_121 ?_
      refine lc_gWLim 0 (by omega) fl_X4_63 dX4_count_124 ?_
      refine lc_iconst (v := 0) dX4_count_127 (by decide) ?_
      refine lc_iald (6) 0 (by omega) (lc_eLim 0 (by omega)) (rfl) (by omega) (by decide) dX4_count_128 ?_
      exact lc_iret hR dX4_count_129 (by simp [sp_count, sp_cntv, show sp_win (nI 7) 0 11 = true by decide, show (nI 7).toNatClampNeg = 7 by decide]) (rfl)
    | 8, _ =>
      refine lc_tabIn 130 8 dX4_count_1 (by decide) (by decide) rfl (by decide) ?_
      refine lc_aload_n 0 dX4_count_130 rfl ?_
      refine lc_g_world fl_X4_19 dX4_count_131 ?_
      refine lc_gWLim 0 (by omega) fl_X4_63 dX4_count_134 ?_
      refine lc_iconst (v := 1) dX4_count_137 (by decide) ?_
      refine lc_iald (6) 1 (by omega) (lc_eLim 0 (by omega)) (rfl) (by omega) (by decide) dX4_count_138 ?_
      exact lc_iret hR dX4_count_139 (by simp [sp_count, sp_cntv, show sp_win (nI 8) 0 11 = true by decide, show (nI 8).toNatClampNeg = 8 by decide]) (rfl)
    | 9, _ =>
      refine lc_tabIn 140 9 dX4_count_1 (by decide) (by decide) rfl (by decide) ?_
      refine lc_aload_n 0 dX4_count_140 rfl ?_
      refine lc_g_world fl_X4_19 dX4_count_141 ?_
      refine lc_gWLim 0 (by omega) fl_X4_63 dX4_count_144 ?_
      refine lc_iconst (v := 2) dX4_count_147 (by decide) ?_
      refine lc_iald (6) 2 (by omega) (lc_eLim 0 (by omega)) (rfl) (by omega) (by decide) dX4_count_148 ?_
      exact lc_iret hR dX4_count_149 (by simp [sp_count, sp_cntv, show sp_win (nI 9) 0 11 = true by decide, show (nI 9).toNatClampNeg = 9 by decide]) (rfl)
    | 10, _ =>
      refine lc_tabIn 150 10 dX4_count_1 (by decide) (by decide) rfl (by decide) ?_
      refine lc_aload_n 0 dX4_count_150 rfl ?_
      refine lc_g_world fl_X4_19 dX4_count_151 ?_
      refine lc_gWLim 0 (by omega) fl_X4_63 dX4_count_154 ?_
      refine lc_iconst (v := 3) dX4_count_157 (by decide) ?_
      refine lc_iald (6) 3 (by omega) (lc_eLim 0 (by omega)) (rfl) (by omega) (by decide) dX4_count_158 ?_
      exact lc_iret hR dX4_count_159 (by simp [sp_count, sp_cntv, show sp_win (nI 10) 0 11 = true by decide, show (nI 10).toNatClampNeg = 10 by decide]) (rfl)
    | 11, _ =>
      refine lc_tabIn 160 11 dX4_count_1 (by decide) (by decide) rfl (by decide) ?_
      refine lc_aload_n 0 dX4_count_160 rfl ?_
      refine lc_gw_lines 0 (by omega) fl_X4_50 dX4_count_161 ?_
      exact lc_iret hR dX4_count_164 (by simp [sp_count, sp_cntv, show sp_win (nI 11) 0 11 = true by decide, show (nI 11).toNatClampNeg = 11 by decide]) (rfl)
    | wi + 12, h => exact absurd h (by omega)
