set_option maxRecDepth 100000 in
set_option maxHeartbeats 4000000 in
theorem c_X5_letter (l : Launch) (G : lc_G) (σ : lc_S) (x : lc_X) (p : Nat) (hp : σ.2.1 12 0 = nI p) (hp6 : p ≤ 6) (code : Int32) : lc_M l G yX5_letter cX5_letter 2 (some .int) { frames := 1, cells := 0, slots := 0, locals := 22 } [.ref (G.1 (14)), .int (code)] (lc_w σ 2 x) (some (.int ((sp_letter σ 11 12 p code).1))) (lc_w ((sp_letter σ 11 12 p code).2) 2 x) := by
  refine lc_entry [(0, .ref (G.1 (14))), (1, .int (code))] (by decide) (Nat.le_of_ble_eq_true rfl) rfl rfl rfl ?_
  intro Γ hR
  refine lc_iload_n 1 dX5_letter_0 rfl ?_
  refine lc_bipush (v := 32) dX5_letter_1 (by decide) ?_
  refine lc_bipush (v := 126) dX5_letter_3 (by decide) ?_
  refine lc_callS (c_X5_within l G (lc_w σ 2 x) code 32 126) hR.2.2.2.1 hR.2.2.2.2 mt_X5_within ml_X5_43 rfl rfl (Nat.le_of_ble_eq_true rfl) ⟨⟨rfl, rfl⟩, Nat.le_of_ble_eq_true rfl, Nat.le_of_ble_eq_true rfl⟩ dX5_letter_5 ?_
  show lc_V _ _ _ _ _ 8 _ [.int (lc_bi (sp_win code 32 126))] (lc_w σ 2 x)
  refine lc_ifb_ne 15 dX5_letter_8 (by decide) (fun c_1 => ?_) (fun c_1 => ?_)
  · skip
    by_cases h6 : p = 6
    · skip
      refine lc_aload_n 0 dX5_letter_15 rfl ?_
      refine lc_gw_mlen 2 (by omega) fl_X5_47 dX5_letter_16 ?_
      refine lc_bipush (v := 6) dX5_letter_19 (by decide) ?_
      refine lc_icmp_ne 28 dX5_letter_21 (by decide) (fun h => (fun q => absurd (by rw [hp, h6]; rfl) q.1) h) (fun _ => ?_)
      refine lc_sipush (v := (-1004)) dX5_letter_24 (by decide) ?_
      exact lc_iret hR dX5_letter_27 (by simp [sp_letter, c_1, h6]) (by simp [sp_letter, c_1, h6])
    · skip
      refine lc_aload_n 0 dX5_letter_15 rfl ?_
      refine lc_gw_mlen 2 (by omega) fl_X5_47 dX5_letter_16 ?_
      refine lc_bipush (v := 6) dX5_letter_19 (by decide) ?_
      refine lc_icmp_ne 28 dX5_letter_21 (by decide) (fun _ => ?_) (fun h => absurd h (by rw [hp]; exact fun q => h6 ((nI_eq (b := 6) (by omega) (by omega)).mp q)))
      refine lc_aload_n 0 dX5_letter_28 rfl ?_
      refine lc_g_mpage fl_X5_7 dX5_letter_29 ?_
      refine lc_aload_n 0 dX5_letter_32 rfl ?_
      refine lc_gw_mlen 2 (by omega) fl_X5_47 dX5_letter_33 ?_
      refine lc_iload_n 1 dX5_letter_36 rfl ?_
      refine lc_sw_mpage 2 p (by omega) (hp) (by omega) dX5_letter_37 ?_
      refine lc_aload_n 0 dX5_letter_38 rfl ?_
      refine lc_dup dX5_letter_39 rfl ?_
      refine lc_gw_mlen 2 (by omega) fl_X5_47 dX5_letter_40 ?_
      refine lc_iconst (v := 1) dX5_letter_43 (by decide) ?_
      refine lc_iadd dX5_letter_44 ?_
      refine lc_topi (nI (p + 1)) (by show σ.2.1 12 0 + 1 = _; rw [hp]; exact nI_1 p) ?_
      refine lc_pw_mlen 2 (by omega) fl_X5_47 dX5_letter_45 ?_
      refine lc_aload_n 0 dX5_letter_48 rfl ?_
      refine lc_gw_mlen 2 (by omega) fl_X5_47 dX5_letter_49 ?_
      refine lc_topi (nI (p + 1)) (rfl) ?_
      exact lc_iret hR dX5_letter_52 (by simp [sp_letter, c_1, h6]) (by simp [sp_letter, c_1, h6])
  · skip
    refine lc_sipush (v := (-1002)) dX5_letter_11 (by decide) ?_
    exact lc_iret hR dX5_letter_14 (by simp [sp_letter, c_1]) (by simp [sp_letter, c_1])

set_option maxRecDepth 100000 in
set_option maxHeartbeats 4000000 in
theorem c_X5_blank (l : Launch) (G : lc_G) (σ : lc_S) (x : lc_X) : lc_M l G yX5_blank cX5_blank 2 (some .int) { frames := 0, cells := 0, slots := 0, locals := 0 } [.ref (G.1 (14))] (lc_w σ 2 x) (some (.int (σ.2.1 12 0))) (lc_w ((lc_uo σ 12 0 0)) 2 x) := by
  refine lc_entry [(0, .ref (G.1 (14)))] (by decide) (Nat.le_of_ble_eq_true rfl) rfl rfl rfl ?_
  intro Γ hR
  refine lc_aload_n 0 dX5_blank_0 rfl ?_
  refine lc_gw_mlen 2 (by omega) fl_X5_47 dX5_blank_1 ?_
  refine lc_istore_n [(1, .int (σ.2.1 12 0)), (0, .ref (G.1 (14)))] dX5_blank_4 (by decide) rfl ?_
  refine lc_aload_n 1 dX5_blank_5 rfl ?_
  refine lc_iconst (v := 0) dX5_blank_6 (by decide) ?_
  refine lc_pw_mlen 2 (by omega) fl_X5_47 dX5_blank_7 ?_
  refine lc_iload_n 0 dX5_blank_10 rfl ?_
  exact lc_iret hR dX5_blank_11 (rfl) (rfl)

set_option maxRecDepth 100000 in
set_option maxHeartbeats 4000000 in
theorem c_X5_fault (l : Launch) (G : lc_G) (σ : lc_S) (x : lc_X) (p : Nat) (hp : σ.2.1 12 0 = nI p) (hp6 : p ≤ 6) : lc_M l G yX5_fault cX5_fault 3 (some .int) { frames := 1, cells := 0, slots := 0, locals := 22 } [.ref (G.1 (14))] (lc_w σ 2 x) (some (.int (sp_fw (σ.2.1 11) p 0 48))) (lc_w σ 2 x) := by
  refine lc_entry [(0, .ref (G.1 (14)))] (by decide) (Nat.le_of_ble_eq_true rfl) rfl rfl rfl ?_
  intro Γ hR
  refine lc_iconst (v := 0) dX5_fault_0 (by decide) ?_
  refine lc_istore_n [(1, .int (0)), (0, .ref (G.1 (14)))] dX5_fault_1 (by decide) rfl ?_
  refine lc_bipush (v := 48) dX5_fault_2 (by decide) ?_
  refine lc_istore_n [(2, .int (48)), (1, .int (0)), (0, .ref (G.1 (14)))] dX5_fault_4 (by decide) rfl ?_
  refine lc_lv (lv' := [(0, .ref (G.1 (14))), (1, .int (0)), (2, .int (48))]) [2, 1, 0] rfl ?_
  have KL : ∀ (f i : Nat) (t : Int32), i + f = p → sp_fw (σ.2.1 11) f i t = sp_fw (σ.2.1 11) p 0 48 → lc_V G Γ cX5_fault 3 RX5 5 [(0, .ref (G.1 (14))), (1, .int (nI i)), (2, .int (t))] [] (lc_w σ 2 x) := by
    intro f
    induction f with
    | zero =>
      intro i t hf hr 
      have hi : i = p := by omega
      refine lc_iload_n 1 dX5_fault_5 rfl ?_
      refine lc_aload_n 0 dX5_fault_6 rfl ?_
      refine lc_gw_mlen 2 (by omega) fl_X5_47 dX5_fault_7 ?_
      refine lc_icmp_ge 41 dX5_fault_10 (by decide) (fun _ => ?_) (fun h => absurd h.1 (by rw [hp]; rw [hi]; exact nI_nlt (a := p) (b := p) (Nat.le_refl _) (by omega)))
      refine lc_iload_n 1 dX5_fault_41 rfl ?_
      exact lc_iret hR dX5_fault_42 (by rw [← hr]; rfl) (rfl)
    | succ f ih =>
      intro i t hf hr 
      have hi : i < p := by omega
      refine lc_iload_n 1 dX5_fault_5 rfl ?_
      refine lc_aload_n 0 dX5_fault_6 rfl ?_
      refine lc_gw_mlen 2 (by omega) fl_X5_47 dX5_fault_7 ?_
      refine lc_icmp_ge 41 dX5_fault_10 (by decide) (fun h => absurd h.1 (by rw [hp]; exact nI_ge (b := p) hi (by omega))) (fun _ => ?_)
      refine lc_aload_n 0 dX5_fault_13 rfl ?_
      refine lc_g_mpage fl_X5_7 dX5_fault_14 ?_
      refine lc_iload_n 1 dX5_fault_17 rfl ?_
      refine lc_iald (f := σ.2.1 11) (15) i (by omega) (rfl) (rfl) (by omega) (by decide) dX5_fault_18 ?_
      refine lc_iload_n 2 dX5_fault_19 rfl ?_
      refine lc_bipush (v := 57) dX5_fault_20 (by decide) ?_
      refine lc_callS (c_X5_within l G (lc_w σ 2 x) (σ.2.1 11 i) t 57) hR.2.2.2.1 hR.2.2.2.2 mt_X5_within ml_X5_43 rfl rfl (Nat.le_of_ble_eq_true rfl) ⟨⟨rfl, rfl⟩, Nat.le_of_ble_eq_true rfl, Nat.le_of_ble_eq_true rfl⟩ dX5_fault_22 ?_
      show lc_V _ _ _ _ _ 25 _ [.int (lc_bi (sp_win (σ.2.1 11 i) t 57))] (lc_w σ 2 x)
      refine lc_ifb_eq 41 dX5_fault_25 (by decide) (fun c_3 => ?_) (fun c_3 => ?_)
      · skip
        refine lc_iload_n 1 dX5_fault_41 rfl ?_
        exact lc_iret hR dX5_fault_42 (by rw [← hr]; simp only [sp_fw]; rw [if_neg (show ¬ (decide (t ≤ σ.2.1 11 i) && decide (σ.2.1 11 i ≤ 57)) = true from fun q => absurd (q.symm.trans c_3) (by decide))]) (rfl)
      · skip
        refine lc_aload_n 0 dX5_fault_28 rfl ?_
        refine lc_g_mpage fl_X5_7 dX5_fault_29 ?_
        refine lc_iload_n 1 dX5_fault_32 rfl ?_
        refine lc_iald (f := σ.2.1 11) (15) i (by omega) (rfl) (rfl) (by omega) (by decide) dX5_fault_33 ?_
        refine lc_istore_n [(2, .int (σ.2.1 11 i)), (0, .ref (G.1 (14))), (1, .int (nI i))] dX5_fault_34 (by decide) rfl ?_
        refine lc_iinc 2 (nI (i + 1)) [(1, .int (nI (i + 1))), (2, .int (σ.2.1 11 i)), (0, .ref (G.1 (14)))] dX5_fault_35 rfl (lc_inc1 i) (by decide) rfl ?_
        refine lc_goto 5 dX5_fault_38 (by decide) ?_
        refine lc_lv (lv' := [(0, .ref (G.1 (14))), (1, .int (nI (i + 1))), (2, .int (σ.2.1 11 i))]) [2, 0, 1] rfl ?_
        exact ih (i + 1) (σ.2.1 11 i) (by omega) (by rw [← hr]; simp only [sp_fw]; rw [if_pos (show (decide (t ≤ σ.2.1 11 i) && decide (σ.2.1 11 i ≤ 57)) = true from c_3)]) 
  exact KL p 0 48 (by omega) rfl 

set_option maxRecDepth 100000 in
set_option maxHeartbeats 4000000 in
theorem c_X5_set (l : Launch) (G : lc_G) (σ : lc_S) (x : lc_X) (n : Nat) (hn : n ≤ 6) (hs : x.1 7 0 = nI n) (what v : Int32) : lc_M l G yX5_set cX5_set 4 (some .int) { frames := 2, cells := 0, slots := 0, locals := 44 } [.ref (G.1 (14)), .int (what), .int (v)] (lc_w σ 2 x) (some (.int ((sp_set n x what v).1))) (lc_w σ 2 ((sp_set n x what v).2)) := by
  refine lc_entry [(0, .ref (G.1 (14))), (1, .int (what)), (2, .int (v))] (by decide) (Nat.le_of_ble_eq_true rfl) rfl rfl rfl ?_
  intro Γ hR
  refine lc_iload_n 1 dX5_set_0 rfl ?_
  refine lc_iconst (v := 0) dX5_set_1 (by decide) ?_
  refine lc_iconst (v := 3) dX5_set_2 (by decide) ?_
  refine lc_callS (c_X5_within l G (lc_w σ 2 x) what 0 3) hR.2.2.2.1 hR.2.2.2.2 mt_X5_within ml_X5_43 rfl rfl (Nat.le_of_ble_eq_true rfl) ⟨⟨rfl, rfl⟩, Nat.le_of_ble_eq_true rfl, Nat.le_of_ble_eq_true rfl⟩ dX5_set_3 ?_
  show lc_V _ _ _ _ _ 6 _ [.int (lc_bi (sp_win what 0 3))] (lc_w σ 2 x)
  refine lc_ifb_eq 24 dX5_set_6 (by decide) (fun c_1 => ?_) (fun c_1 => ?_)
  · skip
    refine lc_sipush (v := (-1002)) dX5_set_24 (by decide) ?_
    exact lc_iret hR dX5_set_27 (by simp [sp_set, c_1]) (by simp [sp_set, c_1])
  · skip
    obtain ⟨w0, -, hw3, ew⟩ := sp_rng_nat (lo := 0) (hi := 3) (a := 0) (b := 3) (by decide) (by decide) (of_decide_eq_true (Bool.and_eq_true _ _ ▸ c_1 : _ ∧ _).1) (of_decide_eq_true (Bool.and_eq_true _ _ ▸ c_1 : _ ∧ _).2)
    subst ew
    have hwc : (nI w0).toNatClampNeg = w0 := nI_clamp (by omega)
    have hle := sp_le_nat hw3
    refine lc_iload_n 2 dX5_set_9 rfl ?_
    refine lc_iload_n 1 dX5_set_10 rfl ?_
    refine lc_callS (c_X5_least l G (lc_w σ 2 x) (nI w0)) hR.2.2.2.1 hR.2.2.2.2 mt_X5_least ml_X5_88 rfl rfl (Nat.le_of_ble_eq_true rfl) ⟨⟨rfl, rfl⟩, Nat.le_of_ble_eq_true rfl, Nat.le_of_ble_eq_true rfl⟩ dX5_set_11 ?_
    show lc_V _ _ _ _ _ 14 _ [.int (sp_le (nI w0)), .int (v)] (lc_w σ 2 x)
    refine lc_iload_n 1 dX5_set_14 rfl ?_
    refine lc_callS (c_X5_most l G (lc_w σ 2 x) (nI w0)) hR.2.2.2.1 hR.2.2.2.2 mt_X5_most ml_X5_92 rfl rfl (Nat.le_of_ble_eq_true rfl) ⟨⟨rfl, rfl⟩, Nat.le_of_ble_eq_true rfl, Nat.le_of_ble_eq_true rfl⟩ dX5_set_15 ?_
    show lc_V _ _ _ _ _ 18 _ [.int (sp_mo (nI w0)), .int (sp_le (nI w0)), .int (v)] (lc_w σ 2 x)
    refine lc_callS (c_X5_within l G (lc_w σ 2 x) v (sp_le (nI w0)) (sp_mo (nI w0))) hR.2.2.2.1 hR.2.2.2.2 mt_X5_within ml_X5_43 rfl rfl (Nat.le_of_ble_eq_true rfl) ⟨⟨rfl, rfl⟩, Nat.le_of_ble_eq_true rfl, Nat.le_of_ble_eq_true rfl⟩ dX5_set_18 ?_
    show lc_V _ _ _ _ _ 21 _ [.int (lc_bi (sp_win v (sp_le (nI w0)) (sp_mo (nI w0))))] (lc_w σ 2 x)
    refine lc_ifb_ne 28 dX5_set_21 (by decide) (fun c_2 => ?_) (fun c_2 => ?_)
    · skip
      refine lc_aload_n 0 dX5_set_28 rfl ?_
      refine lc_g_mtold fl_X5_16 dX5_set_29 ?_
      refine lc_iload_n 1 dX5_set_32 rfl ?_
      refine lc_iald (f := x.1 6) (17) w0 (by omega) (rfl) (rfl) (by omega) (by decide) dX5_set_33 ?_
      refine lc_istore_n [(3, .int (x.1 6 w0)), (0, .ref (G.1 (14))), (1, .int (nI w0)), (2, .int (v))] dX5_set_34 (by decide) rfl ?_
      refine lc_aload_n 1 dX5_set_35 rfl ?_
      refine lc_g_mtold fl_X5_16 dX5_set_36 ?_
      refine lc_iload_n 2 dX5_set_39 rfl ?_
      refine lc_iload_n 3 dX5_set_40 rfl ?_
      refine lc_sc_told w0 (rfl) (by omega) dX5_set_41 ?_
      refine lc_aload_n 1 dX5_set_42 rfl ?_
      refine lc_callV (14) (c_X5_purge l G σ ((lc_cu x.1 6 w0 v, x.2)) n hn (hs)) hR.2.2.2.1 hR.2.2.2.2 mt_X5_purge (by omega) (rfl) rfl ml_X5_95 rfl rfl (Nat.le_of_ble_eq_true rfl) ⟨⟨rfl, rfl⟩, Nat.le_of_ble_eq_true rfl, Nat.le_of_ble_eq_true rfl⟩ dX5_set_43 ?_
      show lc_V _ _ _ _ _ 46 _ [.int ((sp_drop n ((lc_cu x.1 6 w0 v, x.2))).1)] (lc_w σ 2 ((sp_drop n ((lc_cu x.1 6 w0 v, x.2))).2))
      refine lc_pop dX5_set_46 rfl ?_
      refine lc_iload_n 0 dX5_set_47 rfl ?_
      exact lc_iret hR dX5_set_48 (by simp [sp_set, hwc, ← hle.1, ← hle.2, c_1, c_2]) (by simp [sp_set, hwc, ← hle.1, ← hle.2, c_1, c_2])
    · skip
      refine lc_sipush (v := (-1002)) dX5_set_24 (by decide) ?_
      exact lc_iret hR dX5_set_27 (by simp [sp_set, hwc, ← hle.1, ← hle.2, c_1, c_2]) (by simp [sp_set, hwc, ← hle.1, ← hle.2, c_1, c_2])

set_option maxRecDepth 100000 in
set_option maxHeartbeats 4000000 in
theorem c_X5_put (l : Launch) (G : lc_G) (σ : lc_S) (x : lc_X) (n : Nat) (hn : n ≤ 6) (hs : x.1 7 0 = nI n) (s1 k1 v : Int32) : lc_M l G yX5_put cX5_put 5 (some .int) { frames := 2, cells := 0, slots := 0, locals := 44 } [.ref (G.1 (14)), .int (s1), .int (k1), .int (v)] (lc_w σ 2 x) (some (.int ((sp_put (decide (x.1 7 1 = 9999)) n x s1 k1 v).1))) (lc_w σ 2 ((sp_put (decide (x.1 7 1 = 9999)) n x s1 k1 v).2)) := by
  refine lc_entry [(0, .ref (G.1 (14))), (1, .int (s1)), (2, .int (k1)), (3, .int (v))] (by decide) (Nat.le_of_ble_eq_true rfl) rfl rfl rfl ?_
  intro Γ hR
  refine lc_aload_n 0 dX5_put_0 rfl ?_
  refine lc_iload_n 1 dX5_put_1 rfl ?_
  refine lc_callV (14) (c_X5_isSite l G σ x n hn (hs) s1) hR.2.2.2.1 hR.2.2.2.2 mt_X5_isSite (by omega) (rfl) rfl ml_X5_98 rfl rfl (Nat.le_of_ble_eq_true rfl) ⟨⟨rfl, rfl⟩, Nat.le_of_ble_eq_true rfl, Nat.le_of_ble_eq_true rfl⟩ dX5_put_2 ?_
  show lc_V _ _ _ _ _ 5 _ [.int (lc_bi (sp_site x.1 s1))] (lc_w σ 2 x)
  refine lc_ifb_eq 15 dX5_put_5 (by decide) (fun c_1 => ?_) (fun c_1 => ?_)
  · skip
    refine lc_sipush (v := (-1001)) dX5_put_15 (by decide) ?_
    exact lc_iret hR dX5_put_18 (by simp [sp_put, c_1]) (by simp [sp_put, c_1])
  · skip
    obtain ⟨a1, ha1, ea1⟩ := sp_site_nat hn (hs) c_1
    subst ea1
    refine lc_iload_n 2 dX5_put_8 rfl ?_
    refine lc_callS (c_X5_isKey l G (lc_w σ 2 x) k1) hR.2.2.2.1 hR.2.2.2.2 mt_X5_isKey ml_X5_101 rfl rfl (Nat.le_of_ble_eq_true rfl) ⟨⟨rfl, rfl⟩, Nat.le_of_ble_eq_true rfl, Nat.le_of_ble_eq_true rfl⟩ dX5_put_9 ?_
    show lc_V _ _ _ _ _ 12 _ [.int (lc_bi (sp_key k1))] (lc_w σ 2 x)
    refine lc_ifb_ne 19 dX5_put_12 (by decide) (fun c_2 => ?_) (fun c_2 => ?_)
    · skip
      obtain ⟨k2, hk2, ek2⟩ := sp_key_nat c_2
      subst ek2
      refine lc_iload_n 3 dX5_put_19 rfl ?_
      refine lc_iconst (v := 0) dX5_put_20 (by decide) ?_
      refine lc_bipush (v := 9) dX5_put_21 (by decide) ?_
      refine lc_callS (c_X5_within l G (lc_w σ 2 x) v 0 9) hR.2.2.2.1 hR.2.2.2.2 mt_X5_within ml_X5_43 rfl rfl (Nat.le_of_ble_eq_true rfl) ⟨⟨rfl, rfl⟩, Nat.le_of_ble_eq_true rfl, Nat.le_of_ble_eq_true rfl⟩ dX5_put_23 ?_
      show lc_V _ _ _ _ _ 26 _ [.int (lc_bi (sp_win v 0 9))] (lc_w σ 2 x)
      refine lc_ifb_ne 33 dX5_put_26 (by decide) (fun c_3 => ?_) (fun c_3 => ?_)
      · skip
        refine lc_aload_n 0 dX5_put_33 rfl ?_
        refine lc_gMOff fl_X5_65 dX5_put_34 ?_
        refine lc_iload_n 1 dX5_put_37 rfl ?_
        refine lc_callS (c_X5_isIn l G (lc_w σ 2 x) (x.1 7 2) (nI a1)) hR.2.2.2.1 hR.2.2.2.2 mt_X5_isIn ml_X5_84 rfl rfl (Nat.le_of_ble_eq_true rfl) ⟨⟨rfl, rfl⟩, Nat.le_of_ble_eq_true rfl, Nat.le_of_ble_eq_true rfl⟩ dX5_put_38 ?_
        show lc_V _ _ _ _ _ 41 _ [.int (lc_bi (sp_bit (x.1 7 2) (nI a1)))] (lc_w σ 2 x)
        refine lc_ifb_eq 48 dX5_put_41 (by decide) (fun c_4 => ?_) (fun c_4 => ?_)
        · skip
          refine lc_aload_n 0 dX5_put_48 rfl ?_
          refine lc_gMNow fl_X5_62 dX5_put_49 ?_
          refine lc_sipush (v := 9999) dX5_put_52 (by decide) ?_
          refine lc_icmp_ne 62 dX5_put_55 (by decide) (fun c_5 => ?_) (fun c_5 => ?_)
          · skip
            refine lc_aload_n 0 dX5_put_62 rfl ?_
            refine lc_dup dX5_put_63 rfl ?_
            refine lc_gMNow fl_X5_62 dX5_put_64 ?_
            refine lc_iconst (v := 1) dX5_put_67 (by decide) ?_
            refine lc_iadd dX5_put_68 ?_
            refine lc_pMNow fl_X5_62 dX5_put_69 ?_
            refine lc_aload_n 0 dX5_put_72 rfl ?_
            refine lc_callV (14) (c_X5_purge l G σ ((lc_cu x.1 7 1 (((x.1 7 1) + 1)), x.2)) n hn (hs)) hR.2.2.2.1 hR.2.2.2.2 mt_X5_purge (by omega) (rfl) rfl ml_X5_95 rfl rfl (Nat.le_of_ble_eq_true rfl) ⟨⟨rfl, rfl⟩, Nat.le_of_ble_eq_true rfl, Nat.le_of_ble_eq_true rfl⟩ dX5_put_73 ?_
            show lc_V _ _ _ _ _ 76 _ [.int ((sp_drop n ((lc_cu x.1 7 1 (((x.1 7 1) + 1)), x.2))).1)] (lc_w σ 2 ((sp_drop n ((lc_cu x.1 7 1 (((x.1 7 1) + 1)), x.2))).2))
            refine lc_eq (σ' := lc_w σ 2 ((sp_adv n x 1).2)) rfl ?_
            refine lc_pop dX5_put_76 rfl ?_
            refine lc_iconst (v := 4) dX5_put_77 (by decide) ?_
            refine lc_iload_n 1 dX5_put_78 rfl ?_
            refine lc_imul dX5_put_79 ?_
            refine lc_iload_n 2 dX5_put_80 rfl ?_
            refine lc_iadd dX5_put_81 ?_
            refine lc_topi (nI (4 * a1 + k2)) (lc_m4la a1 k2) ?_
            refine lc_istore [(4, .int (nI (4 * a1 + k2))), (0, .ref (G.1 (14))), (1, .int (nI a1)), (2, .int (nI k2)), (3, .int (v))] dX5_put_82 (by decide) rfl ?_
            refine lc_aload_n 1 dX5_put_84 rfl ?_
            refine lc_g_msort fl_X5_19 dX5_put_85 ?_
            refine lc_iload 0 dX5_put_88 rfl ?_
            refine lc_iconst (v := 1) dX5_put_90 (by decide) ?_
            refine lc_sc_msort (4 * a1 + k2) (rfl) (by omega) dX5_put_91 ?_
            refine lc_aload_n 1 dX5_put_92 rfl ?_
            refine lc_g_mvalue fl_X5_22 dX5_put_93 ?_
            refine lc_iload 0 dX5_put_96 rfl ?_
            refine lc_iload_n 4 dX5_put_98 rfl ?_
            refine lc_sc_mvalue (4 * a1 + k2) (rfl) (by omega) dX5_put_99 ?_
            refine lc_aload_n 1 dX5_put_100 rfl ?_
            refine lc_g_mstamp fl_X5_25 dX5_put_101 ?_
            refine lc_iload 0 dX5_put_104 rfl ?_
            refine lc_aload_n 1 dX5_put_106 rfl ?_
            refine lc_gMNow fl_X5_62 dX5_put_107 ?_
            refine lc_sc_mstamp (4 * a1 + k2) (rfl) (by omega) dX5_put_110 ?_
            refine lc_aload_n 1 dX5_put_111 rfl ?_
            refine lc_g_mactive fl_X5_28 dX5_put_112 ?_
            refine lc_iload 0 dX5_put_115 rfl ?_
            refine lc_aload_n 1 dX5_put_117 rfl ?_
            refine lc_gMNow fl_X5_62 dX5_put_118 ?_
            refine lc_sc_mactive (4 * a1 + k2) (rfl) (by omega) dX5_put_121 ?_
            refine lc_aload_n 1 dX5_put_122 rfl ?_
            refine lc_g_mkeepers fl_X5_31 dX5_put_123 ?_
            refine lc_iload 0 dX5_put_126 rfl ?_
            refine lc_iconst (v := (-1)) dX5_put_128 (by decide) ?_
            refine lc_sc_mkeepers (4 * a1 + k2) (rfl) (by omega) dX5_put_129 ?_
            refine lc_aload_n 1 dX5_put_130 rfl ?_
            refine lc_g_mheat fl_X5_34 dX5_put_131 ?_
            refine lc_iload 0 dX5_put_134 rfl ?_
            refine lc_aload_n 1 dX5_put_136 rfl ?_
            refine lc_g_mtold fl_X5_16 dX5_put_137 ?_
            refine lc_iconst (v := 2) dX5_put_140 (by decide) ?_
            refine lc_iald (f := (lc_cu (lc_cu (lc_cu (lc_cu (lc_cu (((sp_adv n x 1).2).1) 0 (4 * a1 + k2) 1) 1 (4 * a1 + k2) v) 2 (4 * a1 + k2) ((lc_cu (lc_cu (((sp_adv n x 1).2).1) 0 (4 * a1 + k2) 1) 1 (4 * a1 + k2) v) 7 1)) 3 (4 * a1 + k2) ((lc_cu (lc_cu (lc_cu (((sp_adv n x 1).2).1) 0 (4 * a1 + k2) 1) 1 (4 * a1 + k2) v) 2 (4 * a1 + k2) ((lc_cu (lc_cu (((sp_adv n x 1).2).1) 0 (4 * a1 + k2) 1) 1 (4 * a1 + k2) v) 7 1)) 7 1)) 4 (4 * a1 + k2) ((-1))) 6) (17) 2 (by omega) (rfl) (rfl) (by omega) (by decide) dX5_put_141 ?_
            refine lc_sc_mheat (4 * a1 + k2) (rfl) (by omega) dX5_put_142 ?_
            refine lc_aload_n 1 dX5_put_143 rfl ?_
            refine lc_gMNow fl_X5_62 dX5_put_144 ?_
            exact lc_iret hR dX5_put_147 (by simp only [sp_put, nI_clamp (show a1 < 2 ^ 31 by omega), nI_clamp (show k2 < 2 ^ 31 by omega), c_1, c_2, c_3, c_4, c_5, Bool.and_self, Bool.true_eq_false, Bool.false_eq_true, if_true, if_false, decide_false, not_false_eq_true]; rfl) (by simp only [sp_put, nI_clamp (show a1 < 2 ^ 31 by omega), nI_clamp (show k2 < 2 ^ 31 by omega), c_1, c_2, c_3, c_4, c_5, Bool.and_self, Bool.true_eq_false, Bool.false_eq_true, if_true, if_false, decide_false, not_false_eq_true]; rfl)
          · skip
            refine lc_sipush (v := (-1004)) dX5_put_58 (by decide) ?_
            exact lc_iret hR dX5_put_61 (by simp [sp_put, c_1, c_2, c_3, c_4, c_5]) (by simp [sp_put, c_1, c_2, c_3, c_4, c_5])
        · skip
          refine lc_sipush (v := (-1003)) dX5_put_44 (by decide) ?_
          exact lc_iret hR dX5_put_47 (by simp [sp_put, c_1, c_2, c_3, c_4]) (by simp [sp_put, c_1, c_2, c_3, c_4])
      · skip
        refine lc_sipush (v := (-1002)) dX5_put_29 (by decide) ?_
        exact lc_iret hR dX5_put_32 (by simp [sp_put, c_1, c_2, c_3]) (by simp [sp_put, c_1, c_2, c_3])
    · skip
      refine lc_sipush (v := (-1001)) dX5_put_15 (by decide) ?_
      exact lc_iret hR dX5_put_18 (by simp [sp_put, c_1, c_2]) (by simp [sp_put, c_1, c_2])

set_option maxRecDepth 100000 in
set_option maxHeartbeats 4000000 in
theorem c_X5_remove (l : Launch) (G : lc_G) (σ : lc_S) (x : lc_X) (n : Nat) (hn : n ≤ 6) (hs : x.1 7 0 = nI n) (s1 k1 m1 : Int32) : lc_M l G yX5_remove cX5_remove 5 (some .int) { frames := 3, cells := 0, slots := 0, locals := 72 } [.ref (G.1 (14)), .int (s1), .int (k1), .int (m1)] (lc_w σ 2 x) (some (.int ((sp_remo (decide (x.1 7 1 = 9999)) (sp_keepM (σ.2.1 8) s1.toNatClampNeg n m1.toNatClampNeg) 5 2 n σ x s1 k1 m1).1))) ((sp_remo (decide (x.1 7 1 = 9999)) (sp_keepM (σ.2.1 8) s1.toNatClampNeg n m1.toNatClampNeg) 5 2 n σ x s1 k1 m1).2) := by
  refine lc_entry [(0, .ref (G.1 (14))), (1, .int (s1)), (2, .int (k1)), (3, .int (m1))] (by decide) (Nat.le_of_ble_eq_true rfl) rfl rfl rfl ?_
  intro Γ hR
  refine lc_aload_n 0 dX5_remove_0 rfl ?_
  refine lc_iload_n 1 dX5_remove_1 rfl ?_
  refine lc_callV (14) (c_X5_isSite l G σ x n hn (hs) s1) hR.2.2.2.1 hR.2.2.2.2 mt_X5_isSite (by omega) (rfl) rfl ml_X5_98 rfl rfl (Nat.le_of_ble_eq_true rfl) ⟨⟨rfl, rfl⟩, Nat.le_of_ble_eq_true rfl, Nat.le_of_ble_eq_true rfl⟩ dX5_remove_2 ?_
  show lc_V _ _ _ _ _ 5 _ [.int (lc_bi (sp_site x.1 s1))] (lc_w σ 2 x)
  refine lc_ifb_eq 15 dX5_remove_5 (by decide) (fun c_1 => ?_) (fun c_1 => ?_)
  · skip
    refine lc_sipush (v := (-1001)) dX5_remove_15 (by decide) ?_
    exact lc_iret hR dX5_remove_18 (by simp [sp_remo, c_1]) (by simp [sp_remo, c_1])
  · skip
    obtain ⟨a1, ha1, ea1⟩ := sp_site_nat hn (hs) c_1
    subst ea1
    refine lc_iload_n 2 dX5_remove_8 rfl ?_
    refine lc_callS (c_X5_isKey l G (lc_w σ 2 x) k1) hR.2.2.2.1 hR.2.2.2.2 mt_X5_isKey ml_X5_101 rfl rfl (Nat.le_of_ble_eq_true rfl) ⟨⟨rfl, rfl⟩, Nat.le_of_ble_eq_true rfl, Nat.le_of_ble_eq_true rfl⟩ dX5_remove_9 ?_
    show lc_V _ _ _ _ _ 12 _ [.int (lc_bi (sp_key k1))] (lc_w σ 2 x)
    refine lc_ifb_ne 19 dX5_remove_12 (by decide) (fun c_2 => ?_) (fun c_2 => ?_)
    · skip
      obtain ⟨k2, hk2, ek2⟩ := sp_key_nat c_2
      subst ek2
      refine lc_iload_n 3 dX5_remove_19 rfl ?_
      refine lc_iconst (v := 1) dX5_remove_20 (by decide) ?_
      refine lc_iconst (v := 3) dX5_remove_21 (by decide) ?_
      refine lc_callS (c_X5_within l G (lc_w σ 2 x) m1 1 3) hR.2.2.2.1 hR.2.2.2.2 mt_X5_within ml_X5_43 rfl rfl (Nat.le_of_ble_eq_true rfl) ⟨⟨rfl, rfl⟩, Nat.le_of_ble_eq_true rfl, Nat.le_of_ble_eq_true rfl⟩ dX5_remove_22 ?_
      show lc_V _ _ _ _ _ 25 _ [.int (lc_bi (sp_win m1 1 3))] (lc_w σ 2 x)
      refine lc_ifb_ne 32 dX5_remove_25 (by decide) (fun c_3 => ?_) (fun c_3 => ?_)
      · skip
        obtain ⟨m2, hm1, hm3, em⟩ := sp_rng_nat (lo := 1) (hi := 3) (a := 1) (b := 3) (by decide) (by decide) (of_decide_eq_true (Bool.and_eq_true _ _ ▸ c_3 : _ ∧ _).1) (of_decide_eq_true (Bool.and_eq_true _ _ ▸ c_3 : _ ∧ _).2)
        subst em
        have q1 : (nI a1).toNatClampNeg = a1 := nI_clamp (by omega)
        have q2 : (nI k2).toNatClampNeg = k2 := nI_clamp (by omega)
        have q3 : (nI m2).toNatClampNeg = m2 := nI_clamp (by omega)
        refine lc_iconst (v := 4) dX5_remove_32 (by decide) ?_
        refine lc_iload_n 1 dX5_remove_33 rfl ?_
        refine lc_imul dX5_remove_34 ?_
        refine lc_iload_n 2 dX5_remove_35 rfl ?_
        refine lc_iadd dX5_remove_36 ?_
        refine lc_topi (nI (4 * a1 + k2)) (lc_m4la a1 k2) ?_
        refine lc_istore [(4, .int (nI (4 * a1 + k2))), (0, .ref (G.1 (14))), (1, .int (nI a1)), (2, .int (nI k2)), (3, .int (nI m2))] dX5_remove_37 (by decide) rfl ?_
        refine lc_aload_n 1 dX5_remove_39 rfl ?_
        refine lc_gMOff fl_X5_65 dX5_remove_40 ?_
        refine lc_iload_n 2 dX5_remove_43 rfl ?_
        refine lc_callS (c_X5_isIn l G (lc_w σ 2 x) (x.1 7 2) (nI a1)) hR.2.2.2.1 hR.2.2.2.2 mt_X5_isIn ml_X5_84 rfl rfl (Nat.le_of_ble_eq_true rfl) ⟨⟨rfl, rfl⟩, Nat.le_of_ble_eq_true rfl, Nat.le_of_ble_eq_true rfl⟩ dX5_remove_44 ?_
        show lc_V _ _ _ _ _ 47 _ [.int (lc_bi (sp_bit (x.1 7 2) (nI a1)))] (lc_w σ 2 x)
        refine lc_ifb_ne 61 dX5_remove_47 (by decide) (fun c_4 => ?_) (fun c_4 => ?_)
        · skip
          refine lc_sipush (v := (-1003)) dX5_remove_61 (by decide) ?_
          exact lc_iret hR dX5_remove_64 (by simp [sp_remo, c_1, c_2, c_3, q1, q2, q3, c_4]) (by simp [sp_remo, c_1, c_2, c_3, q1, q2, q3, c_4])
        · skip
          refine lc_aload_n 1 dX5_remove_50 rfl ?_
          refine lc_g_msort fl_X5_19 dX5_remove_51 ?_
          refine lc_iload 0 dX5_remove_54 rfl ?_
          refine lc_iald (f := x.1 0) (18) (4 * a1 + k2) (by omega) (rfl) (rfl) (by omega) (by decide) dX5_remove_56 ?_
          refine lc_iconst (v := 1) dX5_remove_57 (by decide) ?_
          refine lc_icmp_eq 65 dX5_remove_58 (by decide) (fun c_5 => ?_) (fun c_5 => ?_)
          · skip
            refine lc_aload_n 1 dX5_remove_65 rfl ?_
            refine lc_gMNow fl_X5_62 dX5_remove_66 ?_
            refine lc_sipush (v := 9999) dX5_remove_69 (by decide) ?_
            refine lc_icmp_ne 79 dX5_remove_72 (by decide) (fun c_6 => ?_) (fun c_6 => ?_)
            · skip
              refine lc_aload_n 1 dX5_remove_79 rfl ?_
              refine lc_dup dX5_remove_80 rfl ?_
              refine lc_gMNow fl_X5_62 dX5_remove_81 ?_
              refine lc_iconst (v := 1) dX5_remove_84 (by decide) ?_
              refine lc_iadd dX5_remove_85 ?_
              refine lc_pMNow fl_X5_62 dX5_remove_86 ?_
              refine lc_aload_n 1 dX5_remove_89 rfl ?_
              refine lc_callV (14) (c_X5_purge l G σ ((lc_cu x.1 7 1 (((x.1 7 1) + 1)), x.2)) n hn (hs)) hR.2.2.2.1 hR.2.2.2.2 mt_X5_purge (by omega) (rfl) rfl ml_X5_95 rfl rfl (Nat.le_of_ble_eq_true rfl) ⟨⟨rfl, rfl⟩, Nat.le_of_ble_eq_true rfl, Nat.le_of_ble_eq_true rfl⟩ dX5_remove_90 ?_
              show lc_V _ _ _ _ _ 93 _ [.int ((sp_drop n ((lc_cu x.1 7 1 (((x.1 7 1) + 1)), x.2))).1)] (lc_w σ 2 ((sp_drop n ((lc_cu x.1 7 1 (((x.1 7 1) + 1)), x.2))).2))
              refine lc_eq (σ' := lc_w σ 2 ((sp_adv n x 1).2)) rfl ?_
              refine lc_pop dX5_remove_93 rfl ?_
              refine lc_aload_n 1 dX5_remove_94 rfl ?_
              refine lc_g_msort fl_X5_19 dX5_remove_95 ?_
              refine lc_iload 0 dX5_remove_98 rfl ?_
              refine lc_iconst (v := 2) dX5_remove_100 (by decide) ?_
              refine lc_sc_msort (4 * a1 + k2) (rfl) (by omega) dX5_remove_101 ?_
              refine lc_aload_n 1 dX5_remove_102 rfl ?_
              refine lc_g_mvalue fl_X5_22 dX5_remove_103 ?_
              refine lc_iload 0 dX5_remove_106 rfl ?_
              refine lc_iconst (v := (-1)) dX5_remove_108 (by decide) ?_
              refine lc_sc_mvalue (4 * a1 + k2) (rfl) (by omega) dX5_remove_109 ?_
              refine lc_aload_n 1 dX5_remove_110 rfl ?_
              refine lc_g_mstamp fl_X5_25 dX5_remove_111 ?_
              refine lc_iload 0 dX5_remove_114 rfl ?_
              refine lc_aload_n 1 dX5_remove_116 rfl ?_
              refine lc_gMNow fl_X5_62 dX5_remove_117 ?_
              refine lc_sc_mstamp (4 * a1 + k2) (rfl) (by omega) dX5_remove_120 ?_
              refine lc_aload_n 1 dX5_remove_121 rfl ?_
              refine lc_g_mactive fl_X5_28 dX5_remove_122 ?_
              refine lc_iload 0 dX5_remove_125 rfl ?_
              refine lc_aload_n 1 dX5_remove_127 rfl ?_
              refine lc_gMNow fl_X5_62 dX5_remove_128 ?_
              refine lc_sc_mactive (4 * a1 + k2) (rfl) (by omega) dX5_remove_131 ?_
              refine lc_aload_n 1 dX5_remove_132 rfl ?_
              refine lc_g_mkeepers fl_X5_31 dX5_remove_133 ?_
              refine lc_iload 0 dX5_remove_136 rfl ?_
              refine lc_aload_n 1 dX5_remove_138 rfl ?_
              refine lc_iload_n 2 dX5_remove_139 rfl ?_
              refine lc_iload_n 4 dX5_remove_140 rfl ?_
              refine lc_callV (14) (c_X5_near l G σ ((lc_cu (lc_cu (lc_cu (lc_cu (((sp_adv n x 1).2).1) 0 (4 * a1 + k2) 2) 1 (4 * a1 + k2) ((-1))) 2 (4 * a1 + k2) ((lc_cu (lc_cu (((sp_adv n x 1).2).1) 0 (4 * a1 + k2) 2) 1 (4 * a1 + k2) ((-1))) 7 1)) 3 (4 * a1 + k2) ((lc_cu (lc_cu (lc_cu (((sp_adv n x 1).2).1) 0 (4 * a1 + k2) 2) 1 (4 * a1 + k2) ((-1))) 2 (4 * a1 + k2) ((lc_cu (lc_cu (((sp_adv n x 1).2).1) 0 (4 * a1 + k2) 2) 1 (4 * a1 + k2) ((-1))) 7 1)) 7 1), ((sp_adv n x 1).2).2)) n a1 m2 hn (by omega) (by omega) (by omega) (by show (sp_adv n x 1).2.1 7 0 = nI n; rw [sp_adv_70]; exact hs)) hR.2.2.2.1 hR.2.2.2.2 mt_X5_near (by omega) (rfl) rfl ml_X5_111 rfl rfl (Nat.le_of_ble_eq_true rfl) ⟨⟨rfl, rfl⟩, Nat.le_of_ble_eq_true rfl, Nat.le_of_ble_eq_true rfl⟩ dX5_remove_141 ?_
              show lc_V _ _ _ _ _ 144 _ [.int (sp_keepM (σ.2.1 8) a1 n m2), .int (nI (4 * a1 + k2)), .ref (G.1 (22))] (lc_w σ 2 ((lc_cu (lc_cu (lc_cu (lc_cu (((sp_adv n x 1).2).1) 0 (4 * a1 + k2) 2) 1 (4 * a1 + k2) ((-1))) 2 (4 * a1 + k2) ((lc_cu (lc_cu (((sp_adv n x 1).2).1) 0 (4 * a1 + k2) 2) 1 (4 * a1 + k2) ((-1))) 7 1)) 3 (4 * a1 + k2) ((lc_cu (lc_cu (lc_cu (((sp_adv n x 1).2).1) 0 (4 * a1 + k2) 2) 1 (4 * a1 + k2) ((-1))) 2 (4 * a1 + k2) ((lc_cu (lc_cu (((sp_adv n x 1).2).1) 0 (4 * a1 + k2) 2) 1 (4 * a1 + k2) ((-1))) 7 1)) 7 1), ((sp_adv n x 1).2).2)))
              refine lc_sc_mkeepers (4 * a1 + k2) (rfl) (by omega) dX5_remove_144 ?_
              refine lc_aload_n 1 dX5_remove_145 rfl ?_
              refine lc_g_mheat fl_X5_34 dX5_remove_146 ?_
              refine lc_iload 0 dX5_remove_149 rfl ?_
              refine lc_aload_n 1 dX5_remove_151 rfl ?_
              refine lc_g_mtold fl_X5_16 dX5_remove_152 ?_
              refine lc_iconst (v := 2) dX5_remove_155 (by decide) ?_
              refine lc_iald (f := (lc_cu (lc_cu (lc_cu (lc_cu (lc_cu (((sp_adv n x 1).2).1) 0 (4 * a1 + k2) 2) 1 (4 * a1 + k2) ((-1))) 2 (4 * a1 + k2) ((lc_cu (lc_cu (((sp_adv n x 1).2).1) 0 (4 * a1 + k2) 2) 1 (4 * a1 + k2) ((-1))) 7 1)) 3 (4 * a1 + k2) ((lc_cu (lc_cu (lc_cu (((sp_adv n x 1).2).1) 0 (4 * a1 + k2) 2) 1 (4 * a1 + k2) ((-1))) 2 (4 * a1 + k2) ((lc_cu (lc_cu (((sp_adv n x 1).2).1) 0 (4 * a1 + k2) 2) 1 (4 * a1 + k2) ((-1))) 7 1)) 7 1)) 4 (4 * a1 + k2) (sp_keepM (σ.2.1 8) a1 n m2)) 6) (17) 2 (by omega) (rfl) (rfl) (by omega) (by decide) dX5_remove_156 ?_
              refine lc_sc_mheat (4 * a1 + k2) (rfl) (by omega) dX5_remove_157 ?_
              refine lc_aload_n 1 dX5_remove_158 rfl ?_
              refine lc_g_mlatest fl_X5_37 dX5_remove_159 ?_
              refine lc_iload_n 3 dX5_remove_162 rfl ?_
              refine lc_aload_n 1 dX5_remove_163 rfl ?_
              refine lc_gMNow fl_X5_62 dX5_remove_164 ?_
              refine lc_sw_mlatest 2 k2 (by omega) (rfl) (by omega) dX5_remove_167 ?_
              refine lc_aload_n 1 dX5_remove_168 rfl ?_
              refine lc_gMNow fl_X5_62 dX5_remove_169 ?_
              exact lc_iret hR dX5_remove_172 (by simp only [sp_remo, c_1, c_2, c_3, q1, q2, q3, c_4, c_5, c_6, Bool.and_self, Bool.true_eq_false, Bool.false_eq_true, if_true, if_false, decide_true, decide_false, not_false_eq_true, Bool.or_self, Bool.not_true, Bool.or_false]; rfl) (by simp only [sp_remo, c_1, c_2, c_3, q1, q2, q3, c_4, c_5, c_6, Bool.and_self, Bool.true_eq_false, Bool.false_eq_true, if_true, if_false, decide_true, decide_false, not_false_eq_true, Bool.or_self, Bool.not_true, Bool.or_false]; rfl)
            · skip
              refine lc_sipush (v := (-1004)) dX5_remove_75 (by decide) ?_
              exact lc_iret hR dX5_remove_78 (by simp [sp_remo, c_1, c_2, c_3, q1, q2, q3, c_4, c_5, c_6]) (by simp [sp_remo, c_1, c_2, c_3, q1, q2, q3, c_4, c_5, c_6])
          · skip
            refine lc_sipush (v := (-1003)) dX5_remove_61 (by decide) ?_
            exact lc_iret hR dX5_remove_64 (by simp [sp_remo, c_1, c_2, c_3, q1, q2, q3, c_4, c_5]) (by simp [sp_remo, c_1, c_2, c_3, q1, q2, q3, c_4, c_5])
      · skip
        refine lc_sipush (v := (-1002)) dX5_remove_28 (by decide) ?_
        exact lc_iret hR dX5_remove_31 (by simp [sp_remo, c_1, c_2, c_3]) (by simp [sp_remo, c_1, c_2, c_3])
    · skip
      refine lc_sipush (v := (-1001)) dX5_remove_15 (by decide) ?_
      exact lc_iret hR dX5_remove_18 (by simp [sp_remo, c_1, c_2]) (by simp [sp_remo, c_1, c_2])

set_option maxRecDepth 100000 in
set_option maxHeartbeats 4000000 in
theorem c_X5_pass (l : Launch) (G : lc_G) (σ : lc_S) (x : lc_X) (n : Nat) (hn : n ≤ 6) (hs : x.1 7 0 = nI n) (d : Int32) : lc_M l G yX5_pass cX5_pass 2 (some .int) { frames := 2, cells := 0, slots := 0, locals := 44 } [.ref (G.1 (14)), .int (d)] (lc_w σ 2 x) (some (.int ((sp_pass (decide (9999 < x.1 7 1 + d)) n x d).1))) (lc_w σ 2 ((sp_pass (decide (9999 < x.1 7 1 + d)) n x d).2)) := by
  refine lc_entry [(0, .ref (G.1 (14))), (1, .int (d))] (by decide) (Nat.le_of_ble_eq_true rfl) rfl rfl rfl ?_
  intro Γ hR
  refine lc_iload_n 1 dX5_pass_0 rfl ?_
  refine lc_iconst (v := 1) dX5_pass_1 (by decide) ?_
  refine lc_sipush (v := 300) dX5_pass_2 (by decide) ?_
  refine lc_callS (c_X5_within l G (lc_w σ 2 x) d 1 300) hR.2.2.2.1 hR.2.2.2.2 mt_X5_within ml_X5_43 rfl rfl (Nat.le_of_ble_eq_true rfl) ⟨⟨rfl, rfl⟩, Nat.le_of_ble_eq_true rfl, Nat.le_of_ble_eq_true rfl⟩ dX5_pass_5 ?_
  show lc_V _ _ _ _ _ 8 _ [.int (lc_bi (sp_win d 1 300))] (lc_w σ 2 x)
  refine lc_ifb_ne 15 dX5_pass_8 (by decide) (fun c_1 => ?_) (fun c_1 => ?_)
  · skip
    refine lc_aload_n 0 dX5_pass_15 rfl ?_
    refine lc_gMSites fl_X5_55 dX5_pass_16 ?_
    refine lc_if_ne 26 dX5_pass_19 (by decide) (fun c_2 => ?_) (fun c_2 => ?_)
    · skip
      refine lc_aload_n 0 dX5_pass_26 rfl ?_
      refine lc_gMNow fl_X5_62 dX5_pass_27 ?_
      refine lc_iload_n 1 dX5_pass_30 rfl ?_
      refine lc_iadd dX5_pass_31 ?_
      refine lc_sipush (v := 9999) dX5_pass_32 (by decide) ?_
      refine lc_icmp_le 42 dX5_pass_35 (by decide) (fun c_3 => ?_) (fun c_3 => ?_)
      · skip
        refine lc_aload_n 0 dX5_pass_42 rfl ?_
        refine lc_dup dX5_pass_43 rfl ?_
        refine lc_gMNow fl_X5_62 dX5_pass_44 ?_
        refine lc_iload_n 1 dX5_pass_47 rfl ?_
        refine lc_iadd dX5_pass_48 ?_
        refine lc_pMNow fl_X5_62 dX5_pass_49 ?_
        refine lc_aload_n 0 dX5_pass_52 rfl ?_
        refine lc_callV (14) (c_X5_purge l G σ ((lc_cu x.1 7 1 (((x.1 7 1) + d)), x.2)) n hn (hs)) hR.2.2.2.1 hR.2.2.2.2 mt_X5_purge (by omega) (rfl) rfl ml_X5_95 rfl rfl (Nat.le_of_ble_eq_true rfl) ⟨⟨rfl, rfl⟩, Nat.le_of_ble_eq_true rfl, Nat.le_of_ble_eq_true rfl⟩ dX5_pass_53 ?_
        show lc_V _ _ _ _ _ 56 _ [.int ((sp_drop n ((lc_cu x.1 7 1 (((x.1 7 1) + d)), x.2))).1)] (lc_w σ 2 ((sp_drop n ((lc_cu x.1 7 1 (((x.1 7 1) + d)), x.2))).2))
        exact lc_iret hR dX5_pass_56 (by simp [sp_pass, sp_adv, c_1, c_2, c_3]) (by simp [sp_pass, sp_adv, c_1, c_2, c_3])
      · skip
        refine lc_sipush (v := (-1004)) dX5_pass_38 (by decide) ?_
        exact lc_iret hR dX5_pass_41 (by simp [sp_pass, sp_adv, c_1, c_2, c_3]) (by simp [sp_pass, sp_adv, c_1, c_2, c_3])
    · skip
      refine lc_sipush (v := (-1003)) dX5_pass_22 (by decide) ?_
      exact lc_iret hR dX5_pass_25 (by simp [sp_pass, sp_adv, c_1, c_2]) (by simp [sp_pass, sp_adv, c_1, c_2])
  · skip
    refine lc_sipush (v := (-1002)) dX5_pass_11 (by decide) ?_
    exact lc_iret hR dX5_pass_14 (by simp [sp_pass, sp_adv, c_1]) (by simp [sp_pass, sp_adv, c_1])

set_option maxRecDepth 100000 in
set_option maxHeartbeats 4000000 in
theorem c_X5_off (l : Launch) (G : lc_G) (σ : lc_S) (x : lc_X) (n : Nat) (hn : n ≤ 6) (hs : x.1 7 0 = nI n) (s1 : Int32) (b : Bool) : lc_M l G yX5_off cX5_off 4 (some .int) { frames := 2, cells := 0, slots := 0, locals := 43 } [.ref (G.1 (14)), .int (s1), .int (lc_bi (b))] (lc_w σ 2 x) (some (.int ((sp_off x s1 b).1))) (lc_w σ 2 ((sp_off x s1 b).2)) := by
  refine lc_entry [(0, .ref (G.1 (14))), (1, .int (s1)), (2, .int (lc_bi (b)))] (by decide) (Nat.le_of_ble_eq_true rfl) rfl rfl rfl ?_
  intro Γ hR
  refine lc_aload_n 0 dX5_off_0 rfl ?_
  refine lc_iload_n 1 dX5_off_1 rfl ?_
  refine lc_callV (14) (c_X5_isSite l G σ x n hn (hs) s1) hR.2.2.2.1 hR.2.2.2.2 mt_X5_isSite (by omega) (rfl) rfl ml_X5_98 rfl rfl (Nat.le_of_ble_eq_true rfl) ⟨⟨rfl, rfl⟩, Nat.le_of_ble_eq_true rfl, Nat.le_of_ble_eq_true rfl⟩ dX5_off_2 ?_
  show lc_V _ _ _ _ _ 5 _ [.int (lc_bi (sp_site x.1 s1))] (lc_w σ 2 x)
  refine lc_ifb_ne 12 dX5_off_5 (by decide) (fun c_1 => ?_) (fun c_1 => ?_)
  · skip
    refine lc_aload_n 0 dX5_off_12 rfl ?_
    refine lc_gMOff fl_X5_65 dX5_off_13 ?_
    refine lc_iload_n 1 dX5_off_16 rfl ?_
    refine lc_ishr dX5_off_17 ?_
    refine lc_iconst (v := 1) dX5_off_18 (by decide) ?_
    refine lc_iand dX5_off_19 ?_
    refine lc_topi (lc_bi (sp_bit (x.1 7 2) s1)) (sp_bit_val _ _) ?_
    refine lc_istore_n [(3, .int (lc_bi (sp_bit (x.1 7 2) s1))), (0, .ref (G.1 (14))), (1, .int (s1)), (2, .int (lc_bi (b)))] dX5_off_20 (by decide) rfl ?_
    refine lc_aload_n 1 dX5_off_21 rfl ?_
    refine lc_iload_n 3 dX5_off_22 rfl ?_
    refine lc_ifb_eq 37 dX5_off_23 (by decide) (fun c_2 => ?_) (fun c_2 => ?_)
    · skip
      refine lc_aload_n 1 dX5_off_37 rfl ?_
      refine lc_gMOff fl_X5_65 dX5_off_38 ?_
      refine lc_iconst (v := 1) dX5_off_41 (by decide) ?_
      refine lc_iload_n 2 dX5_off_42 rfl ?_
      refine lc_ishl dX5_off_43 ?_
      refine lc_iconst (v := (-1)) dX5_off_44 (by decide) ?_
      refine lc_ixor dX5_off_45 ?_
      refine lc_iand dX5_off_46 ?_
      refine lc_pMOff fl_X5_65 dX5_off_47 ?_
      refine lc_iload_n 0 dX5_off_50 rfl ?_
      exact lc_iret hR dX5_off_51 (by simp [sp_off, c_1, c_2]) (by simp [sp_off, c_1, c_2])
    · skip
      refine lc_aload_n 1 dX5_off_26 rfl ?_
      refine lc_gMOff fl_X5_65 dX5_off_27 ?_
      refine lc_iconst (v := 1) dX5_off_30 (by decide) ?_
      refine lc_iload_n 2 dX5_off_31 rfl ?_
      refine lc_ishl dX5_off_32 ?_
      refine lc_ior dX5_off_33 ?_
      refine lc_goto 47 dX5_off_34 (by decide) ?_
      refine lc_pMOff fl_X5_65 dX5_off_47 ?_
      refine lc_iload_n 0 dX5_off_50 rfl ?_
      exact lc_iret hR dX5_off_51 (by simp [sp_off, c_1, c_2]) (by simp [sp_off, c_1, c_2])
  · skip
    refine lc_sipush (v := (-1001)) dX5_off_8 (by decide) ?_
    exact lc_iret hR dX5_off_11 (by simp [sp_off, c_1]) (by simp [sp_off, c_1])

set_option maxRecDepth 100000 in
set_option maxHeartbeats 4000000 in
theorem c_X5_areTwo (l : Launch) (G : lc_G) (σ : lc_S) (x : lc_X) (n : Nat) (hn : n ≤ 6) (hs : x.1 7 0 = nI n) (a1 b1 : Int32) : lc_M l G yX5_areTwo cX5_areTwo 3 (some .boolean) { frames := 2, cells := 0, slots := 0, locals := 43 } [.ref (G.1 (14)), .int (a1), .int (b1)] (lc_w σ 2 x) (some (.int (lc_bi (sp_two x.1 a1 b1)))) (lc_w σ 2 x) := by
  refine lc_entry [(0, .ref (G.1 (14))), (1, .int (a1)), (2, .int (b1))] (by decide) (Nat.le_of_ble_eq_true rfl) rfl rfl rfl ?_
  intro Γ hR
  refine lc_aload_n 0 dX5_areTwo_0 rfl ?_
  refine lc_iload_n 1 dX5_areTwo_1 rfl ?_
  refine lc_callV (14) (c_X5_isSite l G σ x n hn (hs) a1) hR.2.2.2.1 hR.2.2.2.2 mt_X5_isSite (by omega) (rfl) rfl ml_X5_98 rfl rfl (Nat.le_of_ble_eq_true rfl) ⟨⟨rfl, rfl⟩, Nat.le_of_ble_eq_true rfl, Nat.le_of_ble_eq_true rfl⟩ dX5_areTwo_2 ?_
  show lc_V _ _ _ _ _ 5 _ [.int (lc_bi (sp_site x.1 a1))] (lc_w σ 2 x)
  refine lc_ifb_eq 25 dX5_areTwo_5 (by decide) (fun c_1 => ?_) (fun c_1 => ?_)
  · skip
    refine lc_iconst (v := 0) dX5_areTwo_25 (by decide) ?_
    exact lc_zret hR dX5_areTwo_26 (by simp [sp_two, lc_bi, c_1]) (rfl)
  · skip
    refine lc_aload_n 0 dX5_areTwo_8 rfl ?_
    refine lc_iload_n 2 dX5_areTwo_9 rfl ?_
    refine lc_callV (14) (c_X5_isSite l G σ x n hn (hs) b1) hR.2.2.2.1 hR.2.2.2.2 mt_X5_isSite (by omega) (rfl) rfl ml_X5_98 rfl rfl (Nat.le_of_ble_eq_true rfl) ⟨⟨rfl, rfl⟩, Nat.le_of_ble_eq_true rfl, Nat.le_of_ble_eq_true rfl⟩ dX5_areTwo_10 ?_
    show lc_V _ _ _ _ _ 13 _ [.int (lc_bi (sp_site x.1 b1))] (lc_w σ 2 x)
    refine lc_ifb_eq 25 dX5_areTwo_13 (by decide) (fun c_2 => ?_) (fun c_2 => ?_)
    · skip
      refine lc_iconst (v := 0) dX5_areTwo_25 (by decide) ?_
      exact lc_zret hR dX5_areTwo_26 (by simp [sp_two, lc_bi, c_1, c_2]) (rfl)
    · skip
      refine lc_iload_n 1 dX5_areTwo_16 rfl ?_
      refine lc_iload_n 2 dX5_areTwo_17 rfl ?_
      refine lc_icmp_eq 25 dX5_areTwo_18 (by decide) (fun c_3 => ?_) (fun c_3 => ?_)
      · skip
        refine lc_iconst (v := 0) dX5_areTwo_25 (by decide) ?_
        exact lc_zret hR dX5_areTwo_26 (by simp [sp_two, lc_bi, c_1, c_2, c_3]) (rfl)
      · skip
        refine lc_iconst (v := 1) dX5_areTwo_21 (by decide) ?_
        refine lc_goto 26 dX5_areTwo_22 (by decide) ?_
        exact lc_zret hR dX5_areTwo_26 (by simp [sp_two, lc_bi, c_1, c_2, c_3]) (rfl)

set_option maxRecDepth 100000 in
set_option maxHeartbeats 4000000 in
theorem c_X5_exchange (l : Launch) (G : lc_G) (σ : lc_S) (x : lc_X) (n : Nat) (hn : n ≤ 6) (hs : x.1 7 0 = nI n) (a1 b1 : Int32) : lc_M l G yX5_exchange cX5_exchange 3 (some .int) { frames := 6, cells := 0, slots := 0, locals := 138 } [.ref (G.1 (14)), .int (a1), .int (b1)] (lc_w σ 2 x) (some (.int ((sp_exch sp_cmpM x a1 b1).1))) (lc_w σ 2 ((sp_exch sp_cmpM x a1 b1).2)) := by
  refine lc_entry [(0, .ref (G.1 (14))), (1, .int (a1)), (2, .int (b1))] (by decide) (Nat.le_of_ble_eq_true rfl) rfl rfl rfl ?_
  intro Γ hR
  refine lc_aload_n 0 dX5_exchange_0 rfl ?_
  refine lc_iload_n 1 dX5_exchange_1 rfl ?_
  refine lc_iload_n 2 dX5_exchange_2 rfl ?_
  refine lc_callV (14) (c_X5_areTwo l G σ x n hn (hs) a1 b1) hR.2.2.2.1 hR.2.2.2.2 mt_X5_areTwo (by omega) (rfl) rfl ml_X5_149 rfl rfl (Nat.le_of_ble_eq_true rfl) ⟨⟨rfl, rfl⟩, Nat.le_of_ble_eq_true rfl, Nat.le_of_ble_eq_true rfl⟩ dX5_exchange_3 ?_
  show lc_V _ _ _ _ _ 6 _ [.int (lc_bi (sp_two x.1 a1 b1))] (lc_w σ 2 x)
  refine lc_ifb_ne 13 dX5_exchange_6 (by decide) (fun c_1 => ?_) (fun c_1 => ?_)
  · skip
    refine lc_aload_n 0 dX5_exchange_13 rfl ?_
    refine lc_gMOff fl_X5_65 dX5_exchange_14 ?_
    refine lc_iload_n 1 dX5_exchange_17 rfl ?_
    refine lc_callS (c_X5_isIn l G (lc_w σ 2 x) (x.1 7 2) a1) hR.2.2.2.1 hR.2.2.2.2 mt_X5_isIn ml_X5_84 rfl rfl (Nat.le_of_ble_eq_true rfl) ⟨⟨rfl, rfl⟩, Nat.le_of_ble_eq_true rfl, Nat.le_of_ble_eq_true rfl⟩ dX5_exchange_18 ?_
    show lc_V _ _ _ _ _ 21 _ [.int (lc_bi (sp_bit (x.1 7 2) a1))] (lc_w σ 2 x)
    refine lc_ifb_ne 35 dX5_exchange_21 (by decide) (fun c_2 => ?_) (fun c_2 => ?_)
    · skip
      refine lc_sipush (v := (-1003)) dX5_exchange_35 (by decide) ?_
      refine lc_goto 47 dX5_exchange_38 (by decide) ?_
      exact lc_iret hR dX5_exchange_47 (by simp [sp_exch, sp_pair, (show (sp_site x.1 a1 && sp_site x.1 b1 && !decide (a1 = b1)) = _ from c_1), c_2]) (by simp [sp_exch, sp_pair, (show (sp_site x.1 a1 && sp_site x.1 b1 && !decide (a1 = b1)) = _ from c_1), c_2])
    · skip
      refine lc_aload_n 0 dX5_exchange_24 rfl ?_
      refine lc_gMOff fl_X5_65 dX5_exchange_25 ?_
      refine lc_iload_n 2 dX5_exchange_28 rfl ?_
      refine lc_callS (c_X5_isIn l G (lc_w σ 2 x) (x.1 7 2) b1) hR.2.2.2.1 hR.2.2.2.2 mt_X5_isIn ml_X5_84 rfl rfl (Nat.le_of_ble_eq_true rfl) ⟨⟨rfl, rfl⟩, Nat.le_of_ble_eq_true rfl, Nat.le_of_ble_eq_true rfl⟩ dX5_exchange_29 ?_
      show lc_V _ _ _ _ _ 32 _ [.int (lc_bi (sp_bit (x.1 7 2) b1))] (lc_w σ 2 x)
      refine lc_ifb_eq 41 dX5_exchange_32 (by decide) (fun c_3 => ?_) (fun c_3 => ?_)
      · skip
        have hp0 : sp_pair x.1 a1 b1 = 0 := by simp [sp_pair, (show (sp_site x.1 a1 && sp_site x.1 b1 && !decide (a1 = b1)) = true from c_1), c_2, c_3]
        obtain ⟨a2, b2, ha2, hb2, ea2, eb2⟩ := sp_pair_nat hn hs hp0
        subst ea2
        subst eb2
        have q1 : (nI a2).toNatClampNeg = a2 := nI_clamp (by omega)
        have q2 : (nI b2).toNatClampNeg = b2 := nI_clamp (by omega)
        refine lc_aload_n 0 dX5_exchange_41 rfl ?_
        refine lc_iload_n 1 dX5_exchange_42 rfl ?_
        refine lc_iload_n 2 dX5_exchange_43 rfl ?_
        refine lc_callV (14) (c_X5_exchangeNow l G σ x a2 b2 (by omega) (by omega)) hR.2.2.2.1 hR.2.2.2.2 mt_X5_exchangeNow (by omega) (rfl) rfl ml_X5_152 rfl rfl (Nat.le_of_ble_eq_true rfl) ⟨⟨rfl, rfl⟩, Nat.le_of_ble_eq_true rfl, Nat.le_of_ble_eq_true rfl⟩ dX5_exchange_44 ?_
        show lc_V _ _ _ _ _ 47 _ [.int ((sp_cmpM x a2 b2).1)] (lc_w σ 2 ((sp_cmpM x a2 b2).2))
        exact lc_iret hR dX5_exchange_47 (by simp [sp_exch, hp0, q1, q2]) (by simp [sp_exch, hp0, q1, q2])
      · skip
        refine lc_sipush (v := (-1003)) dX5_exchange_35 (by decide) ?_
        refine lc_goto 47 dX5_exchange_38 (by decide) ?_
        exact lc_iret hR dX5_exchange_47 (by simp [sp_exch, sp_pair, (show (sp_site x.1 a1 && sp_site x.1 b1 && !decide (a1 = b1)) = _ from c_1), c_2, c_3]) (by simp [sp_exch, sp_pair, (show (sp_site x.1 a1 && sp_site x.1 b1 && !decide (a1 = b1)) = _ from c_1), c_2, c_3])
  · skip
    refine lc_sipush (v := (-1001)) dX5_exchange_9 (by decide) ?_
    exact lc_iret hR dX5_exchange_12 (by simp [sp_exch, sp_pair, (show (sp_site x.1 a1 && sp_site x.1 b1 && !decide (a1 = b1)) = _ from c_1)]) (by simp [sp_exch, sp_pair, (show (sp_site x.1 a1 && sp_site x.1 b1 && !decide (a1 = b1)) = _ from c_1)])

set_option maxRecDepth 100000 in
set_option maxHeartbeats 4000000 in
theorem c_X5_rumour (l : Launch) (G : lc_G) (σ : lc_S) (x : lc_X) (n : Nat) (hn : n ≤ 6) (hs : x.1 7 0 = nI n) (a1 b1 : Int32) : lc_M l G yX5_rumour cX5_rumour 3 (some .int) { frames := 3, cells := 0, slots := 0, locals := 70 } [.ref (G.1 (14)), .int (a1), .int (b1)] (lc_w σ 2 x) (some (.int ((sp_exch sp_hotsM x a1 b1).1))) (lc_w σ 2 ((sp_exch sp_hotsM x a1 b1).2)) := by
  refine lc_entry [(0, .ref (G.1 (14))), (1, .int (a1)), (2, .int (b1))] (by decide) (Nat.le_of_ble_eq_true rfl) rfl rfl rfl ?_
  intro Γ hR
  refine lc_aload_n 0 dX5_rumour_0 rfl ?_
  refine lc_iload_n 1 dX5_rumour_1 rfl ?_
  refine lc_iload_n 2 dX5_rumour_2 rfl ?_
  refine lc_callV (14) (c_X5_areTwo l G σ x n hn (hs) a1 b1) hR.2.2.2.1 hR.2.2.2.2 mt_X5_areTwo (by omega) (rfl) rfl ml_X5_149 rfl rfl (Nat.le_of_ble_eq_true rfl) ⟨⟨rfl, rfl⟩, Nat.le_of_ble_eq_true rfl, Nat.le_of_ble_eq_true rfl⟩ dX5_rumour_3 ?_
  show lc_V _ _ _ _ _ 6 _ [.int (lc_bi (sp_two x.1 a1 b1))] (lc_w σ 2 x)
  refine lc_ifb_ne 13 dX5_rumour_6 (by decide) (fun c_1 => ?_) (fun c_1 => ?_)
  · skip
    refine lc_aload_n 0 dX5_rumour_13 rfl ?_
    refine lc_gMOff fl_X5_65 dX5_rumour_14 ?_
    refine lc_iload_n 1 dX5_rumour_17 rfl ?_
    refine lc_callS (c_X5_isIn l G (lc_w σ 2 x) (x.1 7 2) a1) hR.2.2.2.1 hR.2.2.2.2 mt_X5_isIn ml_X5_84 rfl rfl (Nat.le_of_ble_eq_true rfl) ⟨⟨rfl, rfl⟩, Nat.le_of_ble_eq_true rfl, Nat.le_of_ble_eq_true rfl⟩ dX5_rumour_18 ?_
    show lc_V _ _ _ _ _ 21 _ [.int (lc_bi (sp_bit (x.1 7 2) a1))] (lc_w σ 2 x)
    refine lc_ifb_ne 35 dX5_rumour_21 (by decide) (fun c_2 => ?_) (fun c_2 => ?_)
    · skip
      refine lc_sipush (v := (-1003)) dX5_rumour_35 (by decide) ?_
      refine lc_goto 47 dX5_rumour_38 (by decide) ?_
      exact lc_iret hR dX5_rumour_47 (by simp [sp_exch, sp_pair, (show (sp_site x.1 a1 && sp_site x.1 b1 && !decide (a1 = b1)) = _ from c_1), c_2]) (by simp [sp_exch, sp_pair, (show (sp_site x.1 a1 && sp_site x.1 b1 && !decide (a1 = b1)) = _ from c_1), c_2])
    · skip
      refine lc_aload_n 0 dX5_rumour_24 rfl ?_
      refine lc_gMOff fl_X5_65 dX5_rumour_25 ?_
      refine lc_iload_n 2 dX5_rumour_28 rfl ?_
      refine lc_callS (c_X5_isIn l G (lc_w σ 2 x) (x.1 7 2) b1) hR.2.2.2.1 hR.2.2.2.2 mt_X5_isIn ml_X5_84 rfl rfl (Nat.le_of_ble_eq_true rfl) ⟨⟨rfl, rfl⟩, Nat.le_of_ble_eq_true rfl, Nat.le_of_ble_eq_true rfl⟩ dX5_rumour_29 ?_
      show lc_V _ _ _ _ _ 32 _ [.int (lc_bi (sp_bit (x.1 7 2) b1))] (lc_w σ 2 x)
      refine lc_ifb_eq 41 dX5_rumour_32 (by decide) (fun c_3 => ?_) (fun c_3 => ?_)
      · skip
        have hp0 : sp_pair x.1 a1 b1 = 0 := by simp [sp_pair, (show (sp_site x.1 a1 && sp_site x.1 b1 && !decide (a1 = b1)) = true from c_1), c_2, c_3]
        obtain ⟨a2, b2, ha2, hb2, ea2, eb2⟩ := sp_pair_nat hn hs hp0
        subst ea2
        subst eb2
        have q1 : (nI a2).toNatClampNeg = a2 := nI_clamp (by omega)
        have q2 : (nI b2).toNatClampNeg = b2 := nI_clamp (by omega)
        refine lc_aload_n 0 dX5_rumour_41 rfl ?_
        refine lc_iload_n 1 dX5_rumour_42 rfl ?_
        refine lc_iload_n 2 dX5_rumour_43 rfl ?_
        refine lc_callV (14) (c_X5_rumourNow l G σ x a2 b2 (by omega) (by omega)) hR.2.2.2.1 hR.2.2.2.2 mt_X5_rumourNow (by omega) (rfl) rfl ml_X5_158 rfl rfl (Nat.le_of_ble_eq_true rfl) ⟨⟨rfl, rfl⟩, Nat.le_of_ble_eq_true rfl, Nat.le_of_ble_eq_true rfl⟩ dX5_rumour_44 ?_
        show lc_V _ _ _ _ _ 47 _ [.int ((sp_hotsM x a2 b2).1)] (lc_w σ 2 ((sp_hotsM x a2 b2).2))
        exact lc_iret hR dX5_rumour_47 (by simp [sp_exch, hp0, q1, q2]) (by simp [sp_exch, hp0, q1, q2])
      · skip
        refine lc_sipush (v := (-1003)) dX5_rumour_35 (by decide) ?_
        refine lc_goto 47 dX5_rumour_38 (by decide) ?_
        exact lc_iret hR dX5_rumour_47 (by simp [sp_exch, sp_pair, (show (sp_site x.1 a1 && sp_site x.1 b1 && !decide (a1 = b1)) = _ from c_1), c_2, c_3]) (by simp [sp_exch, sp_pair, (show (sp_site x.1 a1 && sp_site x.1 b1 && !decide (a1 = b1)) = _ from c_1), c_2, c_3])
  · skip
    refine lc_sipush (v := (-1001)) dX5_rumour_9 (by decide) ?_
    exact lc_iret hR dX5_rumour_12 (by simp [sp_exch, sp_pair, (show (sp_site x.1 a1 && sp_site x.1 b1 && !decide (a1 = b1)) = _ from c_1)]) (by simp [sp_exch, sp_pair, (show (sp_site x.1 a1 && sp_site x.1 b1 && !decide (a1 = b1)) = _ from c_1)])

set_option maxRecDepth 100000 in
set_option maxHeartbeats 4000000 in
theorem c_X5_itemNow (l : Launch) (G : lc_G) (σ : lc_S) (x : lc_X) (i : Nat) (hi : i < 24) (w : Nat) (hw : w < 7) : lc_M l G yX5_itemNow cX5_itemNow 3 (some .int) { frames := 1, cells := 0, slots := 0, locals := 21 } [.ref (G.1 (14)), .int (nI i), .int (nI w)] (lc_w σ 2 x) (some (.int (sp_hasv x.1 i w))) (lc_w σ 2 x) := by
  refine lc_entry [(0, .ref (G.1 (14))), (1, .int (nI i)), (2, .int (nI w))] (by decide) (Nat.le_of_ble_eq_true rfl) rfl rfl rfl ?_
  intro Γ hR
  refine lc_iload_n 2 dX5_itemNow_0 rfl ?_
  match w, hw with
  | 0, _ =>
    refine lc_tabIn 40 0 dX5_itemNow_1 (by decide) (by decide) rfl (by decide) ?_
    refine lc_aload_n 0 dX5_itemNow_40 rfl ?_
    refine lc_g_msort fl_X5_19 dX5_itemNow_41 ?_
    refine lc_iload_n 1 dX5_itemNow_44 rfl ?_
    refine lc_iald (f := x.1 0) (18) i (by omega) (rfl) (rfl) (by omega) (by decide) dX5_itemNow_45 ?_
    exact lc_iret hR dX5_itemNow_46 (rfl) (rfl)
  | 1, _ =>
    refine lc_tabIn 47 1 dX5_itemNow_1 (by decide) (by decide) rfl (by decide) ?_
    refine lc_aload_n 0 dX5_itemNow_47 rfl ?_
    refine lc_g_mvalue fl_X5_22 dX5_itemNow_48 ?_
    refine lc_iload_n 1 dX5_itemNow_51 rfl ?_
    refine lc_iald (f := x.1 1) (19) i (by omega) (rfl) (rfl) (by omega) (by decide) dX5_itemNow_52 ?_
    exact lc_iret hR dX5_itemNow_53 (rfl) (rfl)
  | 2, _ =>
    refine lc_tabIn 54 2 dX5_itemNow_1 (by decide) (by decide) rfl (by decide) ?_
    refine lc_aload_n 0 dX5_itemNow_54 rfl ?_
    refine lc_g_mstamp fl_X5_25 dX5_itemNow_55 ?_
    refine lc_iload_n 1 dX5_itemNow_58 rfl ?_
    refine lc_iald (f := x.1 2) (20) i (by omega) (rfl) (rfl) (by omega) (by decide) dX5_itemNow_59 ?_
    exact lc_iret hR dX5_itemNow_60 (rfl) (rfl)
  | 3, _ =>
    refine lc_tabIn 61 3 dX5_itemNow_1 (by decide) (by decide) rfl (by decide) ?_
    refine lc_aload_n 0 dX5_itemNow_61 rfl ?_
    refine lc_g_mactive fl_X5_28 dX5_itemNow_62 ?_
    refine lc_iload_n 1 dX5_itemNow_65 rfl ?_
    refine lc_iald (f := x.1 3) (21) i (by omega) (rfl) (rfl) (by omega) (by decide) dX5_itemNow_66 ?_
    exact lc_iret hR dX5_itemNow_67 (rfl) (rfl)
  | 4, _ =>
    refine lc_tabIn 68 4 dX5_itemNow_1 (by decide) (by decide) rfl (by decide) ?_
    refine lc_aload_n 0 dX5_itemNow_68 rfl ?_
    refine lc_g_mkeepers fl_X5_31 dX5_itemNow_69 ?_
    refine lc_iload_n 1 dX5_itemNow_72 rfl ?_
    refine lc_iald (f := x.1 4) (22) i (by omega) (rfl) (rfl) (by omega) (by decide) dX5_itemNow_73 ?_
    exact lc_iret hR dX5_itemNow_74 (rfl) (rfl)
  | 5, _ =>
    refine lc_tabIn 75 5 dX5_itemNow_1 (by decide) (by decide) rfl (by decide) ?_
    refine lc_aload_n 0 dX5_itemNow_75 rfl ?_
    refine lc_iload_n 1 dX5_itemNow_76 rfl ?_
    refine lc_callV (14) (c_X5_isDormant l G σ x i (by omega)) hR.2.2.2.1 hR.2.2.2.2 mt_X5_isDormant (by omega) (rfl) rfl ml_X5_80 rfl rfl (Nat.le_of_ble_eq_true rfl) ⟨⟨rfl, rfl⟩, Nat.le_of_ble_eq_true rfl, Nat.le_of_ble_eq_true rfl⟩ dX5_itemNow_77 ?_
    show lc_V _ _ _ _ _ 80 _ [.int (lc_bi (sp_dor x.1 i))] (lc_w σ 2 x)
    refine lc_tern 87 88 dX5_itemNow_80 (by decide) dX5_itemNow_83 dX5_itemNow_84 (by decide) dX5_itemNow_87 rfl ?_
    exact lc_iret hR dX5_itemNow_88 (rfl) (rfl)
  | 6, _ =>
    refine lc_tabOut 89 dX5_itemNow_1 (Or.inr (by decide)) (by decide) ?_
    refine lc_aload_n 0 dX5_itemNow_89 rfl ?_
    refine lc_g_mheat fl_X5_34 dX5_itemNow_90 ?_
    refine lc_iload_n 1 dX5_itemNow_93 rfl ?_
    refine lc_iald (f := x.1 5) (23) i (by omega) (rfl) (rfl) (by omega) (by decide) dX5_itemNow_94 ?_
    exact lc_iret hR dX5_itemNow_95 (rfl) (rfl)
  | w + 7, h => exact absurd h (by omega)

set_option maxRecDepth 100000 in
set_option maxHeartbeats 4000000 in
theorem c_X5_has (l : Launch) (G : lc_G) (σ : lc_S) (x : lc_X) (n : Nat) (hn : n ≤ 6) (hs : x.1 7 0 = nI n) (s1 k1 what : Int32) : lc_M l G yX5_has cX5_has 4 (some .int) { frames := 2, cells := 0, slots := 0, locals := 43 } [.ref (G.1 (14)), .int (s1), .int (k1), .int (what)] (lc_w σ 2 x) (some (.int (sp_has x.1 s1 k1 what))) (lc_w σ 2 x) := by
  refine lc_entry [(0, .ref (G.1 (14))), (1, .int (s1)), (2, .int (k1)), (3, .int (what))] (by decide) (Nat.le_of_ble_eq_true rfl) rfl rfl rfl ?_
  intro Γ hR
  refine lc_aload_n 0 dX5_has_0 rfl ?_
  refine lc_iload_n 1 dX5_has_1 rfl ?_
  refine lc_callV (14) (c_X5_isSite l G σ x n hn (hs) s1) hR.2.2.2.1 hR.2.2.2.2 mt_X5_isSite (by omega) (rfl) rfl ml_X5_98 rfl rfl (Nat.le_of_ble_eq_true rfl) ⟨⟨rfl, rfl⟩, Nat.le_of_ble_eq_true rfl, Nat.le_of_ble_eq_true rfl⟩ dX5_has_2 ?_
  show lc_V _ _ _ _ _ 5 _ [.int (lc_bi (sp_site x.1 s1))] (lc_w σ 2 x)
  refine lc_ifb_eq 15 dX5_has_5 (by decide) (fun c_1 => ?_) (fun c_1 => ?_)
  · skip
    refine lc_sipush (v := (-1001)) dX5_has_15 (by decide) ?_
    exact lc_iret hR dX5_has_18 (by simp [sp_has, c_1]) (rfl)
  · skip
    obtain ⟨a1, ha1, ea1⟩ := sp_site_nat hn (hs) c_1
    subst ea1
    refine lc_iload_n 2 dX5_has_8 rfl ?_
    refine lc_callS (c_X5_isKey l G (lc_w σ 2 x) k1) hR.2.2.2.1 hR.2.2.2.2 mt_X5_isKey ml_X5_101 rfl rfl (Nat.le_of_ble_eq_true rfl) ⟨⟨rfl, rfl⟩, Nat.le_of_ble_eq_true rfl, Nat.le_of_ble_eq_true rfl⟩ dX5_has_9 ?_
    show lc_V _ _ _ _ _ 12 _ [.int (lc_bi (sp_key k1))] (lc_w σ 2 x)
    refine lc_ifb_ne 19 dX5_has_12 (by decide) (fun c_2 => ?_) (fun c_2 => ?_)
    · skip
      obtain ⟨k2, hk2, ek2⟩ := sp_key_nat c_2
      subst ek2
      refine lc_iload_n 3 dX5_has_19 rfl ?_
      refine lc_iconst (v := 0) dX5_has_20 (by decide) ?_
      refine lc_bipush (v := 6) dX5_has_21 (by decide) ?_
      refine lc_callS (c_X5_within l G (lc_w σ 2 x) what 0 6) hR.2.2.2.1 hR.2.2.2.2 mt_X5_within ml_X5_43 rfl rfl (Nat.le_of_ble_eq_true rfl) ⟨⟨rfl, rfl⟩, Nat.le_of_ble_eq_true rfl, Nat.le_of_ble_eq_true rfl⟩ dX5_has_23 ?_
      show lc_V _ _ _ _ _ 26 _ [.int (lc_bi (sp_win what 0 6))] (lc_w σ 2 x)
      refine lc_ifb_eq 42 dX5_has_26 (by decide) (fun c_3 => ?_) (fun c_3 => ?_)
      · skip
        refine lc_sipush (v := (-1002)) dX5_has_42 (by decide) ?_
        exact lc_iret hR dX5_has_45 (by simp [sp_has, c_1, c_2, c_3]) (rfl)
      · skip
        obtain ⟨w0, -, hw6, ew⟩ := sp_rng_nat (lo := 0) (hi := 6) (a := 0) (b := 6) (by decide) (by decide) (of_decide_eq_true (Bool.and_eq_true _ _ ▸ c_3 : _ ∧ _).1) (of_decide_eq_true (Bool.and_eq_true _ _ ▸ c_3 : _ ∧ _).2)
        subst ew
        refine lc_aload_n 0 dX5_has_29 rfl ?_
        refine lc_iconst (v := 4) dX5_has_30 (by decide) ?_
        refine lc_iload_n 1 dX5_has_31 rfl ?_
        refine lc_imul dX5_has_32 ?_
        refine lc_iload_n 2 dX5_has_33 rfl ?_
        refine lc_iadd dX5_has_34 ?_
        refine lc_topi (nI (4 * a1 + k2)) (lc_m4la a1 k2) ?_
        refine lc_iload_n 3 dX5_has_35 rfl ?_
        refine lc_callV (14) (c_X5_itemNow l G σ x (4 * a1 + k2) (by omega) w0 (by omega)) hR.2.2.2.1 hR.2.2.2.2 mt_X5_itemNow (by omega) (rfl) rfl ml_X5_161 rfl rfl (Nat.le_of_ble_eq_true rfl) ⟨⟨rfl, rfl⟩, Nat.le_of_ble_eq_true rfl, Nat.le_of_ble_eq_true rfl⟩ dX5_has_36 ?_
        show lc_V _ _ _ _ _ 39 _ [.int (sp_hasv x.1 (4 * a1 + k2) w0)] (lc_w σ 2 x)
        refine lc_goto 45 dX5_has_39 (by decide) ?_
        exact lc_iret hR dX5_has_45 (by simp [sp_has, nI_clamp (show a1 < 2 ^ 31 by omega), nI_clamp (show k2 < 2 ^ 31 by omega), nI_clamp (show w0 < 2 ^ 31 by omega), c_1, c_2, c_3]) (rfl)
    · skip
      refine lc_sipush (v := (-1001)) dX5_has_15 (by decide) ?_
      exact lc_iret hR dX5_has_18 (by simp [sp_has, c_1, c_2]) (rfl)

set_option maxRecDepth 100000 in
set_option maxHeartbeats 4000000 in
theorem c_X5_newestNow (l : Launch) (G : lc_G) (σ : lc_S) (x : lc_X) (a : Nat) (kind : Int32) (ha : a < 6) : lc_M l G yX5_newestNow cX5_newestNow 7 (some .int) { frames := 1, cells := 0, slots := 0, locals := 22 } [.ref (G.1 (14)), .int (nI a), .int (kind)] (lc_w σ 2 x) (some (.int (sp_on (sp_nks x.1 a kind)))) (lc_w σ 2 x) := by
  refine lc_entry [(0, .ref (G.1 (14))), (1, .int (nI a)), (2, .int (kind))] (by decide) (Nat.le_of_ble_eq_true rfl) rfl rfl rfl ?_
  intro Γ hR
  refine lc_iconst (v := (-1)) dX5_newestNow_0 (by decide) ?_
  refine lc_istore_n [(3, .int ((-1))), (0, .ref (G.1 (14))), (1, .int (nI a)), (2, .int (kind))] dX5_newestNow_1 (by decide) rfl ?_
  refine lc_iconst (v := 0) dX5_newestNow_2 (by decide) ?_
  refine lc_istore [(4, .int (0)), (3, .int ((-1))), (0, .ref (G.1 (14))), (1, .int (nI a)), (2, .int (kind))] dX5_newestNow_3 (by decide) rfl ?_
  refine lc_lv (lv' := [(0, .ref (G.1 (14))), (1, .int (nI a)), (2, .int (kind)), (3, .int ((-1))), (4, .int (0))]) [2, 3, 4, 1, 0] rfl ?_
  refine lc_forI (α := Option Nat) (fun i z => lc_V G Γ _ _ _ 5 [(0, .ref (G.1 (14))), (1, .int (nI a)), (2, .int (kind)), (3, .int (sp_on z)), (4, .int (nI i))] [] (lc_w σ 2 x)) (fun i z => ∀ b, z = some b → b < i) (sp_nk x.1 a kind) 4 (fun i z _ h => sp_nk_I _ _ _ _ _ h) (fun i z hi hIi ki => ?_) none (fun b h => by cases h) (fun _ => ?_)
  · skip
    rcases z with _ | b
    · skip
      show lc_V G Γ _ _ _ 5 [(0, .ref (G.1 (14))), (1, .int (nI a)), (2, .int (kind)), (3, .int ((-1))), (4, .int (nI i))] [] (lc_w σ 2 x)
      refine lc_iload 4 dX5_newestNow_5 rfl ?_
      refine lc_iconst (v := 4) dX5_newestNow_7 (by decide) ?_
      refine lc_icmp_ge 88 dX5_newestNow_8 (by decide) (fun h => absurd h.1 (by exact nI_ge (b := 4) hi (by omega))) (fun _ => ?_)
      refine lc_iconst (v := 4) dX5_newestNow_11 (by decide) ?_
      refine lc_iload_n 1 dX5_newestNow_12 rfl ?_
      refine lc_imul dX5_newestNow_13 ?_
      refine lc_iload 4 dX5_newestNow_14 rfl ?_
      refine lc_iadd dX5_newestNow_16 ?_
      refine lc_topi (nI (4 * a + i)) (lc_m4la a i) ?_
      refine lc_istore [(5, .int (nI (4 * a + i))), (0, .ref (G.1 (14))), (1, .int (nI a)), (2, .int (kind)), (3, .int ((-1))), (4, .int (nI i))] dX5_newestNow_17 (by decide) rfl ?_
      refine lc_aload_n 1 dX5_newestNow_19 rfl ?_
      refine lc_g_msort fl_X5_19 dX5_newestNow_20 ?_
      refine lc_iload 0 dX5_newestNow_23 rfl ?_
      refine lc_iald (f := x.1 0) (18) (4 * a + i) (by omega) (rfl) (rfl) (by omega) (by decide) dX5_newestNow_25 ?_
      refine lc_if_eq 48 dX5_newestNow_26 (by decide) (fun c_2 => ?_) (fun c_2 => ?_)
      · skip
        refine lc_iconst (v := 0) dX5_newestNow_48 (by decide) ?_
        refine lc_istore [(6, .int (0)), (5, .int (nI (4 * a + i))), (0, .ref (G.1 (14))), (1, .int (nI a)), (2, .int (kind)), (3, .int ((-1))), (4, .int (nI i))] dX5_newestNow_49 (by decide) rfl ?_
        refine lc_iload 0 dX5_newestNow_51 rfl ?_
        refine lc_if_eq 80 dX5_newestNow_53 (by decide) (fun _ => ?_) (fun h => absurd h (by decide))
        refine lc_iload_n 5 dX5_newestNow_80 rfl ?_
        refine lc_istore_n [(3, .int ((-1))), (6, .int (0)), (5, .int (nI (4 * a + i))), (0, .ref (G.1 (14))), (1, .int (nI a)), (2, .int (kind)), (4, .int (nI i))] dX5_newestNow_81 (by decide) rfl ?_
        refine lc_iinc 6 (nI (i + 1)) [(4, .int (nI (i + 1))), (3, .int ((-1))), (6, .int (0)), (5, .int (nI (4 * a + i))), (0, .ref (G.1 (14))), (1, .int (nI a)), (2, .int (kind))] dX5_newestNow_82 rfl (lc_inc1 i) (by decide) rfl ?_
        refine lc_goto 5 dX5_newestNow_85 (by decide) ?_
        refine lc_lv (lv' := [(0, .ref (G.1 (14))), (1, .int (nI a)), (2, .int (kind)), (3, .int ((-1))), (4, .int (nI (i + 1)))]) [4, 5, 6, 1, 0] rfl ?_
        rw [show sp_nk x.1 a kind i (none) = none from by first | (simp [sp_nk, c_2]; done) | (by_cases hk0 : kind = 0 <;> simp [sp_nk, hk0, c_2] <;> (intro q; exact absurd q.symm hk0))] at ki
        exact ki
      · skip
        refine lc_iload_n 3 dX5_newestNow_29 rfl ?_
        refine lc_if_eq 44 dX5_newestNow_30 (by decide) (fun c_4 => ?_) (fun c_4 => ?_)
        · skip
          refine lc_iconst (v := 1) dX5_newestNow_44 (by decide) ?_
          refine lc_goto 49 dX5_newestNow_45 (by decide) ?_
          refine lc_istore [(6, .int (1)), (5, .int (nI (4 * a + i))), (0, .ref (G.1 (14))), (1, .int (nI a)), (2, .int (kind)), (3, .int ((-1))), (4, .int (nI i))] dX5_newestNow_49 (by decide) rfl ?_
          refine lc_iload 0 dX5_newestNow_51 rfl ?_
          refine lc_if_eq 80 dX5_newestNow_53 (by decide) (fun h => absurd h (by decide)) (fun _ => ?_)
          refine lc_iload_n 5 dX5_newestNow_56 rfl ?_
          refine lc_iconst (v := (-1)) dX5_newestNow_57 (by decide) ?_
          refine lc_icmp_eq 75 dX5_newestNow_58 (by decide) (fun _ => ?_) (fun h => absurd h (by decide))
          refine lc_iload 6 dX5_newestNow_75 rfl ?_
          refine lc_goto 81 dX5_newestNow_77 (by decide) ?_
          refine lc_istore_n [(3, .int (nI i)), (6, .int (1)), (5, .int (nI (4 * a + i))), (0, .ref (G.1 (14))), (1, .int (nI a)), (2, .int (kind)), (4, .int (nI i))] dX5_newestNow_81 (by decide) rfl ?_
          refine lc_iinc 6 (nI (i + 1)) [(4, .int (nI (i + 1))), (3, .int (nI i)), (6, .int (1)), (5, .int (nI (4 * a + i))), (0, .ref (G.1 (14))), (1, .int (nI a)), (2, .int (kind))] dX5_newestNow_82 rfl (lc_inc1 i) (by decide) rfl ?_
          refine lc_goto 5 dX5_newestNow_85 (by decide) ?_
          refine lc_lv (lv' := [(0, .ref (G.1 (14))), (1, .int (nI a)), (2, .int (kind)), (3, .int (nI i)), (4, .int (nI (i + 1)))]) [4, 5, 6, 1, 0] rfl ?_
          rw [show sp_nk x.1 a kind i (none) = some i from by first | (simp [sp_nk, c_2, c_4]; done) | (by_cases hk0 : kind = 0 <;> simp [sp_nk, hk0, c_2, c_4] <;> (intro q; exact absurd q.symm hk0))] at ki
          exact ki
        · skip
          refine lc_aload_n 1 dX5_newestNow_33 rfl ?_
          refine lc_g_msort fl_X5_19 dX5_newestNow_34 ?_
          refine lc_iload 0 dX5_newestNow_37 rfl ?_
          refine lc_iald (f := x.1 0) (18) (4 * a + i) (by omega) (rfl) (rfl) (by omega) (by decide) dX5_newestNow_39 ?_
          refine lc_iload_n 3 dX5_newestNow_40 rfl ?_
          refine lc_icmp_ne 48 dX5_newestNow_41 (by decide) (fun c_7 => ?_) (fun c_7 => ?_)
          · skip
            refine lc_iconst (v := 0) dX5_newestNow_48 (by decide) ?_
            refine lc_istore [(6, .int (0)), (5, .int (nI (4 * a + i))), (0, .ref (G.1 (14))), (1, .int (nI a)), (2, .int (kind)), (3, .int ((-1))), (4, .int (nI i))] dX5_newestNow_49 (by decide) rfl ?_
            refine lc_iload 0 dX5_newestNow_51 rfl ?_
            refine lc_if_eq 80 dX5_newestNow_53 (by decide) (fun _ => ?_) (fun h => absurd h (by decide))
            refine lc_iload_n 5 dX5_newestNow_80 rfl ?_
            refine lc_istore_n [(3, .int ((-1))), (6, .int (0)), (5, .int (nI (4 * a + i))), (0, .ref (G.1 (14))), (1, .int (nI a)), (2, .int (kind)), (4, .int (nI i))] dX5_newestNow_81 (by decide) rfl ?_
            refine lc_iinc 6 (nI (i + 1)) [(4, .int (nI (i + 1))), (3, .int ((-1))), (6, .int (0)), (5, .int (nI (4 * a + i))), (0, .ref (G.1 (14))), (1, .int (nI a)), (2, .int (kind))] dX5_newestNow_82 rfl (lc_inc1 i) (by decide) rfl ?_
            refine lc_goto 5 dX5_newestNow_85 (by decide) ?_
            refine lc_lv (lv' := [(0, .ref (G.1 (14))), (1, .int (nI a)), (2, .int (kind)), (3, .int ((-1))), (4, .int (nI (i + 1)))]) [4, 5, 6, 1, 0] rfl ?_
            rw [show sp_nk x.1 a kind i (none) = none from by first | (simp [sp_nk, c_2, c_4, c_7]; done) | (by_cases hk0 : kind = 0 <;> simp [sp_nk, hk0, c_2, c_4, c_7] <;> (intro q; exact absurd q.symm hk0))] at ki
            exact ki
          · skip
            refine lc_iconst (v := 1) dX5_newestNow_44 (by decide) ?_
            refine lc_goto 49 dX5_newestNow_45 (by decide) ?_
            refine lc_istore [(6, .int (1)), (5, .int (nI (4 * a + i))), (0, .ref (G.1 (14))), (1, .int (nI a)), (2, .int (kind)), (3, .int ((-1))), (4, .int (nI i))] dX5_newestNow_49 (by decide) rfl ?_
            refine lc_iload 0 dX5_newestNow_51 rfl ?_
            refine lc_if_eq 80 dX5_newestNow_53 (by decide) (fun h => absurd h (by decide)) (fun _ => ?_)
            refine lc_iload_n 5 dX5_newestNow_56 rfl ?_
            refine lc_iconst (v := (-1)) dX5_newestNow_57 (by decide) ?_
            refine lc_icmp_eq 75 dX5_newestNow_58 (by decide) (fun _ => ?_) (fun h => absurd h (by decide))
            refine lc_iload 6 dX5_newestNow_75 rfl ?_
            refine lc_goto 81 dX5_newestNow_77 (by decide) ?_
            refine lc_istore_n [(3, .int (nI i)), (6, .int (1)), (5, .int (nI (4 * a + i))), (0, .ref (G.1 (14))), (1, .int (nI a)), (2, .int (kind)), (4, .int (nI i))] dX5_newestNow_81 (by decide) rfl ?_
            refine lc_iinc 6 (nI (i + 1)) [(4, .int (nI (i + 1))), (3, .int (nI i)), (6, .int (1)), (5, .int (nI (4 * a + i))), (0, .ref (G.1 (14))), (1, .int (nI a)), (2, .int (kind))] dX5_newestNow_82 rfl (lc_inc1 i) (by decide) rfl ?_
            refine lc_goto 5 dX5_newestNow_85 (by decide) ?_
            refine lc_lv (lv' := [(0, .ref (G.1 (14))), (1, .int (nI a)), (2, .int (kind)), (3, .int (nI i)), (4, .int (nI (i + 1)))]) [4, 5, 6, 1, 0] rfl ?_
            rw [show sp_nk x.1 a kind i (none) = some i from by first | (simp [sp_nk, c_2, c_4, c_7]; done) | (by_cases hk0 : kind = 0 <;> simp [sp_nk, hk0, c_2, c_4, c_7] <;> (intro q; exact absurd q.symm hk0))] at ki
            exact ki
    · skip
      have hb4 : b < 4 := by have := hIi b rfl; omega
      have hbb : b < 2 ^ 31 := by omega
      show lc_V G Γ _ _ _ 5 [(0, .ref (G.1 (14))), (1, .int (nI a)), (2, .int (kind)), (3, .int (nI b)), (4, .int (nI i))] [] (lc_w σ 2 x)
      refine lc_iload 4 dX5_newestNow_5 rfl ?_
      refine lc_iconst (v := 4) dX5_newestNow_7 (by decide) ?_
      refine lc_icmp_ge 88 dX5_newestNow_8 (by decide) (fun h => absurd h.1 (by exact nI_ge (b := 4) hi (by omega))) (fun _ => ?_)
      refine lc_iconst (v := 4) dX5_newestNow_11 (by decide) ?_
      refine lc_iload_n 1 dX5_newestNow_12 rfl ?_
      refine lc_imul dX5_newestNow_13 ?_
      refine lc_iload 4 dX5_newestNow_14 rfl ?_
      refine lc_iadd dX5_newestNow_16 ?_
      refine lc_topi (nI (4 * a + i)) (lc_m4la a i) ?_
      refine lc_istore [(5, .int (nI (4 * a + i))), (0, .ref (G.1 (14))), (1, .int (nI a)), (2, .int (kind)), (3, .int (nI b)), (4, .int (nI i))] dX5_newestNow_17 (by decide) rfl ?_
      refine lc_aload_n 1 dX5_newestNow_19 rfl ?_
      refine lc_g_msort fl_X5_19 dX5_newestNow_20 ?_
      refine lc_iload 0 dX5_newestNow_23 rfl ?_
      refine lc_iald (f := x.1 0) (18) (4 * a + i) (by omega) (rfl) (rfl) (by omega) (by decide) dX5_newestNow_25 ?_
      refine lc_if_eq 48 dX5_newestNow_26 (by decide) (fun c_12 => ?_) (fun c_12 => ?_)
      · skip
        refine lc_iconst (v := 0) dX5_newestNow_48 (by decide) ?_
        refine lc_istore [(6, .int (0)), (5, .int (nI (4 * a + i))), (0, .ref (G.1 (14))), (1, .int (nI a)), (2, .int (kind)), (3, .int (nI b)), (4, .int (nI i))] dX5_newestNow_49 (by decide) rfl ?_
        refine lc_iload 0 dX5_newestNow_51 rfl ?_
        refine lc_if_eq 80 dX5_newestNow_53 (by decide) (fun _ => ?_) (fun h => absurd h (by decide))
        refine lc_iload_n 5 dX5_newestNow_80 rfl ?_
        refine lc_istore_n [(3, .int (nI b)), (6, .int (0)), (5, .int (nI (4 * a + i))), (0, .ref (G.1 (14))), (1, .int (nI a)), (2, .int (kind)), (4, .int (nI i))] dX5_newestNow_81 (by decide) rfl ?_
        refine lc_iinc 6 (nI (i + 1)) [(4, .int (nI (i + 1))), (3, .int (nI b)), (6, .int (0)), (5, .int (nI (4 * a + i))), (0, .ref (G.1 (14))), (1, .int (nI a)), (2, .int (kind))] dX5_newestNow_82 rfl (lc_inc1 i) (by decide) rfl ?_
        refine lc_goto 5 dX5_newestNow_85 (by decide) ?_
        refine lc_lv (lv' := [(0, .ref (G.1 (14))), (1, .int (nI a)), (2, .int (kind)), (3, .int (nI b)), (4, .int (nI (i + 1)))]) [4, 5, 6, 1, 0] rfl ?_
        rw [show sp_nk x.1 a kind i (some b) = some b from by first | (simp [sp_nk, c_12]; done) | (by_cases hk0 : kind = 0 <;> simp [sp_nk, hk0, c_12] <;> (intro q; exact absurd q.symm hk0))] at ki
        exact ki
      · skip
        refine lc_iload_n 3 dX5_newestNow_29 rfl ?_
        refine lc_if_eq 44 dX5_newestNow_30 (by decide) (fun c_14 => ?_) (fun c_14 => ?_)
        · skip
          refine lc_iconst (v := 1) dX5_newestNow_44 (by decide) ?_
          refine lc_goto 49 dX5_newestNow_45 (by decide) ?_
          refine lc_istore [(6, .int (1)), (5, .int (nI (4 * a + i))), (0, .ref (G.1 (14))), (1, .int (nI a)), (2, .int (kind)), (3, .int (nI b)), (4, .int (nI i))] dX5_newestNow_49 (by decide) rfl ?_
          refine lc_iload 0 dX5_newestNow_51 rfl ?_
          refine lc_if_eq 80 dX5_newestNow_53 (by decide) (fun h => absurd h (by decide)) (fun _ => ?_)
          refine lc_iload_n 5 dX5_newestNow_56 rfl ?_
          refine lc_iconst (v := (-1)) dX5_newestNow_57 (by decide) ?_
          refine lc_icmp_eq 75 dX5_newestNow_58 (by decide) (fun h => (lc_nm1b hbb h).elim) (fun _ => ?_)
          refine lc_aload_n 2 dX5_newestNow_61 rfl ?_
          refine lc_iload 1 dX5_newestNow_62 rfl ?_
          refine lc_iconst (v := 4) dX5_newestNow_64 (by decide) ?_
          refine lc_iload_n 3 dX5_newestNow_65 rfl ?_
          refine lc_imul dX5_newestNow_66 ?_
          refine lc_iload_n 5 dX5_newestNow_67 rfl ?_
          refine lc_iadd dX5_newestNow_68 ?_
          refine lc_topi (nI (4 * a + b)) (lc_m4la a b) ?_
          refine lc_callV (14) (c_X5_isNewer l G σ x (4 * a + i) (4 * a + b) (by omega) (by omega)) hR.2.2.2.1 hR.2.2.2.2 mt_X5_isNewer (by omega) (rfl) rfl ml_X5_117 rfl rfl (Nat.le_of_ble_eq_true rfl) ⟨⟨rfl, rfl⟩, Nat.le_of_ble_eq_true rfl, Nat.le_of_ble_eq_true rfl⟩ dX5_newestNow_69 ?_
          show lc_V _ _ _ _ _ 72 _ [.int (lc_bi (sp_new x.1 (4 * a + i) (4 * a + b)))] (lc_w σ 2 x)
          refine lc_ifb_eq 80 dX5_newestNow_72 (by decide) (fun c_17 => ?_) (fun c_17 => ?_)
          · skip
            refine lc_iload_n 5 dX5_newestNow_80 rfl ?_
            refine lc_istore_n [(3, .int (nI b)), (6, .int (1)), (5, .int (nI (4 * a + i))), (0, .ref (G.1 (14))), (1, .int (nI a)), (2, .int (kind)), (4, .int (nI i))] dX5_newestNow_81 (by decide) rfl ?_
            refine lc_iinc 6 (nI (i + 1)) [(4, .int (nI (i + 1))), (3, .int (nI b)), (6, .int (1)), (5, .int (nI (4 * a + i))), (0, .ref (G.1 (14))), (1, .int (nI a)), (2, .int (kind))] dX5_newestNow_82 rfl (lc_inc1 i) (by decide) rfl ?_
            refine lc_goto 5 dX5_newestNow_85 (by decide) ?_
            refine lc_lv (lv' := [(0, .ref (G.1 (14))), (1, .int (nI a)), (2, .int (kind)), (3, .int (nI b)), (4, .int (nI (i + 1)))]) [4, 5, 6, 1, 0] rfl ?_
            rw [show sp_nk x.1 a kind i (some b) = some b from by first | (simp [sp_nk, c_12, c_14, c_17]; done) | (by_cases hk0 : kind = 0 <;> simp [sp_nk, hk0, c_12, c_14, c_17] <;> (intro q; exact absurd q.symm hk0))] at ki
            exact ki
          · skip
            refine lc_iload 6 dX5_newestNow_75 rfl ?_
            refine lc_goto 81 dX5_newestNow_77 (by decide) ?_
            refine lc_istore_n [(3, .int (nI i)), (6, .int (1)), (5, .int (nI (4 * a + i))), (0, .ref (G.1 (14))), (1, .int (nI a)), (2, .int (kind)), (4, .int (nI i))] dX5_newestNow_81 (by decide) rfl ?_
            refine lc_iinc 6 (nI (i + 1)) [(4, .int (nI (i + 1))), (3, .int (nI i)), (6, .int (1)), (5, .int (nI (4 * a + i))), (0, .ref (G.1 (14))), (1, .int (nI a)), (2, .int (kind))] dX5_newestNow_82 rfl (lc_inc1 i) (by decide) rfl ?_
            refine lc_goto 5 dX5_newestNow_85 (by decide) ?_
            refine lc_lv (lv' := [(0, .ref (G.1 (14))), (1, .int (nI a)), (2, .int (kind)), (3, .int (nI i)), (4, .int (nI (i + 1)))]) [4, 5, 6, 1, 0] rfl ?_
            rw [show sp_nk x.1 a kind i (some b) = some i from by first | (simp [sp_nk, c_12, c_14, c_17]; done) | (by_cases hk0 : kind = 0 <;> simp [sp_nk, hk0, c_12, c_14, c_17] <;> (intro q; exact absurd q.symm hk0))] at ki
            exact ki
        · skip
          refine lc_aload_n 1 dX5_newestNow_33 rfl ?_
          refine lc_g_msort fl_X5_19 dX5_newestNow_34 ?_
          refine lc_iload 0 dX5_newestNow_37 rfl ?_
          refine lc_iald (f := x.1 0) (18) (4 * a + i) (by omega) (rfl) (rfl) (by omega) (by decide) dX5_newestNow_39 ?_
          refine lc_iload_n 3 dX5_newestNow_40 rfl ?_
          refine lc_icmp_ne 48 dX5_newestNow_41 (by decide) (fun c_18 => ?_) (fun c_18 => ?_)
          · skip
            refine lc_iconst (v := 0) dX5_newestNow_48 (by decide) ?_
            refine lc_istore [(6, .int (0)), (5, .int (nI (4 * a + i))), (0, .ref (G.1 (14))), (1, .int (nI a)), (2, .int (kind)), (3, .int (nI b)), (4, .int (nI i))] dX5_newestNow_49 (by decide) rfl ?_
            refine lc_iload 0 dX5_newestNow_51 rfl ?_
            refine lc_if_eq 80 dX5_newestNow_53 (by decide) (fun _ => ?_) (fun h => absurd h (by decide))
            refine lc_iload_n 5 dX5_newestNow_80 rfl ?_
            refine lc_istore_n [(3, .int (nI b)), (6, .int (0)), (5, .int (nI (4 * a + i))), (0, .ref (G.1 (14))), (1, .int (nI a)), (2, .int (kind)), (4, .int (nI i))] dX5_newestNow_81 (by decide) rfl ?_
            refine lc_iinc 6 (nI (i + 1)) [(4, .int (nI (i + 1))), (3, .int (nI b)), (6, .int (0)), (5, .int (nI (4 * a + i))), (0, .ref (G.1 (14))), (1, .int (nI a)), (2, .int (kind))] dX5_newestNow_82 rfl (lc_inc1 i) (by decide) rfl ?_
            refine lc_goto 5 dX5_newestNow_85 (by decide) ?_
            refine lc_lv (lv' := [(0, .ref (G.1 (14))), (1, .int (nI a)), (2, .int (kind)), (3, .int (nI b)), (4, .int (nI (i + 1)))]) [4, 5, 6, 1, 0] rfl ?_
            rw [show sp_nk x.1 a kind i (some b) = some b from by first | (simp [sp_nk, c_12, c_14, c_18]; done) | (by_cases hk0 : kind = 0 <;> simp [sp_nk, hk0, c_12, c_14, c_18] <;> (intro q; exact absurd q.symm hk0))] at ki
            exact ki
          · skip
            refine lc_iconst (v := 1) dX5_newestNow_44 (by decide) ?_
            refine lc_goto 49 dX5_newestNow_45 (by decide) ?_
            refine lc_istore [(6, .int (1)), (5, .int (nI (4 * a + i))), (0, .ref (G.1 (14))), (1, .int (nI a)), (2, .int (kind)), (3, .int (nI b)), (4, .int (nI i))] dX5_newestNow_49 (by decide) rfl ?_
            refine lc_iload 0 dX5_newestNow_51 rfl ?_
            refine lc_if_eq 80 dX5_newestNow_53 (by decide) (fun h => absurd h (by decide)) (fun _ => ?_)
            refine lc_iload_n 5 dX5_newestNow_56 rfl ?_
            refine lc_iconst (v := (-1)) dX5_newestNow_57 (by decide) ?_
            refine lc_icmp_eq 75 dX5_newestNow_58 (by decide) (fun h => (lc_nm1b hbb h).elim) (fun _ => ?_)
            refine lc_aload_n 2 dX5_newestNow_61 rfl ?_
            refine lc_iload 1 dX5_newestNow_62 rfl ?_
            refine lc_iconst (v := 4) dX5_newestNow_64 (by decide) ?_
            refine lc_iload_n 3 dX5_newestNow_65 rfl ?_
            refine lc_imul dX5_newestNow_66 ?_
            refine lc_iload_n 5 dX5_newestNow_67 rfl ?_
            refine lc_iadd dX5_newestNow_68 ?_
            refine lc_topi (nI (4 * a + b)) (lc_m4la a b) ?_
            refine lc_callV (14) (c_X5_isNewer l G σ x (4 * a + i) (4 * a + b) (by omega) (by omega)) hR.2.2.2.1 hR.2.2.2.2 mt_X5_isNewer (by omega) (rfl) rfl ml_X5_117 rfl rfl (Nat.le_of_ble_eq_true rfl) ⟨⟨rfl, rfl⟩, Nat.le_of_ble_eq_true rfl, Nat.le_of_ble_eq_true rfl⟩ dX5_newestNow_69 ?_
            show lc_V _ _ _ _ _ 72 _ [.int (lc_bi (sp_new x.1 (4 * a + i) (4 * a + b)))] (lc_w σ 2 x)
            refine lc_ifb_eq 80 dX5_newestNow_72 (by decide) (fun c_22 => ?_) (fun c_22 => ?_)
            · skip
              refine lc_iload_n 5 dX5_newestNow_80 rfl ?_
              refine lc_istore_n [(3, .int (nI b)), (6, .int (1)), (5, .int (nI (4 * a + i))), (0, .ref (G.1 (14))), (1, .int (nI a)), (2, .int (kind)), (4, .int (nI i))] dX5_newestNow_81 (by decide) rfl ?_
              refine lc_iinc 6 (nI (i + 1)) [(4, .int (nI (i + 1))), (3, .int (nI b)), (6, .int (1)), (5, .int (nI (4 * a + i))), (0, .ref (G.1 (14))), (1, .int (nI a)), (2, .int (kind))] dX5_newestNow_82 rfl (lc_inc1 i) (by decide) rfl ?_
              refine lc_goto 5 dX5_newestNow_85 (by decide) ?_
              refine lc_lv (lv' := [(0, .ref (G.1 (14))), (1, .int (nI a)), (2, .int (kind)), (3, .int (nI b)), (4, .int (nI (i + 1)))]) [4, 5, 6, 1, 0] rfl ?_
              rw [show sp_nk x.1 a kind i (some b) = some b from by first | (simp [sp_nk, c_12, c_14, c_18, c_22]; done) | (by_cases hk0 : kind = 0 <;> simp [sp_nk, hk0, c_12, c_14, c_18, c_22] <;> (intro q; exact absurd q.symm hk0))] at ki
              exact ki
            · skip
              refine lc_iload 6 dX5_newestNow_75 rfl ?_
              refine lc_goto 81 dX5_newestNow_77 (by decide) ?_
              refine lc_istore_n [(3, .int (nI i)), (6, .int (1)), (5, .int (nI (4 * a + i))), (0, .ref (G.1 (14))), (1, .int (nI a)), (2, .int (kind)), (4, .int (nI i))] dX5_newestNow_81 (by decide) rfl ?_
              refine lc_iinc 6 (nI (i + 1)) [(4, .int (nI (i + 1))), (3, .int (nI i)), (6, .int (1)), (5, .int (nI (4 * a + i))), (0, .ref (G.1 (14))), (1, .int (nI a)), (2, .int (kind))] dX5_newestNow_82 rfl (lc_inc1 i) (by decide) rfl ?_
              refine lc_goto 5 dX5_newestNow_85 (by decide) ?_
              refine lc_lv (lv' := [(0, .ref (G.1 (14))), (1, .int (nI a)), (2, .int (kind)), (3, .int (nI i)), (4, .int (nI (i + 1)))]) [4, 5, 6, 1, 0] rfl ?_
              rw [show sp_nk x.1 a kind i (some b) = some i from by first | (simp [sp_nk, c_12, c_14, c_18, c_22]; done) | (by_cases hk0 : kind = 0 <;> simp [sp_nk, hk0, c_12, c_14, c_18, c_22] <;> (intro q; exact absurd q.symm hk0))] at ki
              exact ki
  · skip
    show lc_V G Γ _ _ _ 5 [(0, .ref (G.1 (14))), (1, .int (nI a)), (2, .int (kind)), (3, .int (sp_on (sp_nks x.1 a kind))), (4, .int (nI 4))] [] (lc_w σ 2 x)
    refine lc_iload 4 dX5_newestNow_5 rfl ?_
    refine lc_iconst (v := 4) dX5_newestNow_7 (by decide) ?_
    refine lc_icmp_ge 88 dX5_newestNow_8 (by decide) (fun _ => ?_) (fun h => absurd h.1 (by exact nI_nlt (a := 4) (b := 4) (Nat.le_refl _) (by omega)))
    refine lc_iload_n 3 dX5_newestNow_88 rfl ?_
    exact lc_iret hR dX5_newestNow_89 (rfl) (rfl)

set_option maxRecDepth 100000 in
set_option maxHeartbeats 4000000 in
theorem c_X5_newest (l : Launch) (G : lc_G) (σ : lc_S) (x : lc_X) (n : Nat) (hn : n ≤ 6) (hs : x.1 7 0 = nI n) (s1 kind : Int32) : lc_M l G yX5_newest cX5_newest 3 (some .int) { frames := 2, cells := 0, slots := 0, locals := 48 } [.ref (G.1 (14)), .int (s1), .int (kind)] (lc_w σ 2 x) (some (.int (sp_newest x.1 s1 kind))) (lc_w σ 2 x) := by
  refine lc_entry [(0, .ref (G.1 (14))), (1, .int (s1)), (2, .int (kind))] (by decide) (Nat.le_of_ble_eq_true rfl) rfl rfl rfl ?_
  intro Γ hR
  refine lc_aload_n 0 dX5_newest_0 rfl ?_
  refine lc_iload_n 1 dX5_newest_1 rfl ?_
  refine lc_callV (14) (c_X5_isSite l G σ x n hn (hs) s1) hR.2.2.2.1 hR.2.2.2.2 mt_X5_isSite (by omega) (rfl) rfl ml_X5_98 rfl rfl (Nat.le_of_ble_eq_true rfl) ⟨⟨rfl, rfl⟩, Nat.le_of_ble_eq_true rfl, Nat.le_of_ble_eq_true rfl⟩ dX5_newest_2 ?_
  show lc_V _ _ _ _ _ 5 _ [.int (lc_bi (sp_site x.1 s1))] (lc_w σ 2 x)
  refine lc_ifb_ne 12 dX5_newest_5 (by decide) (fun c_1 => ?_) (fun c_1 => ?_)
  · skip
    obtain ⟨a1, ha1, ea1⟩ := sp_site_nat hn (hs) c_1
    subst ea1
    refine lc_iload_n 2 dX5_newest_12 rfl ?_
    refine lc_iconst (v := 0) dX5_newest_13 (by decide) ?_
    refine lc_iconst (v := 2) dX5_newest_14 (by decide) ?_
    refine lc_callS (c_X5_within l G (lc_w σ 2 x) kind 0 2) hR.2.2.2.1 hR.2.2.2.2 mt_X5_within ml_X5_43 rfl rfl (Nat.le_of_ble_eq_true rfl) ⟨⟨rfl, rfl⟩, Nat.le_of_ble_eq_true rfl, Nat.le_of_ble_eq_true rfl⟩ dX5_newest_15 ?_
    show lc_V _ _ _ _ _ 18 _ [.int (lc_bi (sp_win kind 0 2))] (lc_w σ 2 x)
    refine lc_ifb_eq 30 dX5_newest_18 (by decide) (fun c_2 => ?_) (fun c_2 => ?_)
    · skip
      refine lc_sipush (v := (-1002)) dX5_newest_30 (by decide) ?_
      exact lc_iret hR dX5_newest_33 (by simp [sp_newest, c_1, c_2]) (rfl)
    · skip
      refine lc_aload_n 0 dX5_newest_21 rfl ?_
      refine lc_iload_n 1 dX5_newest_22 rfl ?_
      refine lc_iload_n 2 dX5_newest_23 rfl ?_
      refine lc_callV (14) (c_X5_newestNow l G σ x a1 kind (by omega)) hR.2.2.2.1 hR.2.2.2.2 mt_X5_newestNow (by omega) (rfl) rfl ml_X5_164 rfl rfl (Nat.le_of_ble_eq_true rfl) ⟨⟨rfl, rfl⟩, Nat.le_of_ble_eq_true rfl, Nat.le_of_ble_eq_true rfl⟩ dX5_newest_24 ?_
      show lc_V _ _ _ _ _ 27 _ [.int (sp_on (sp_nks x.1 a1 kind))] (lc_w σ 2 x)
      refine lc_goto 33 dX5_newest_27 (by decide) ?_
      exact lc_iret hR dX5_newest_33 (by simp [sp_newest, nI_clamp (show a1 < 2 ^ 31 by omega), c_1, c_2]) (rfl)
  · skip
    refine lc_sipush (v := (-1001)) dX5_newest_8 (by decide) ?_
    exact lc_iret hR dX5_newest_11 (by simp [sp_newest, c_1]) (rfl)

set_option maxRecDepth 100000 in
set_option maxHeartbeats 4000000 in
theorem c_X5_alike (l : Launch) (G : lc_G) (σ : lc_S) (x : lc_X) (n : Nat) (hn : n ≤ 6) (hs : x.1 7 0 = nI n) (s1 s2 : Int32) : lc_M l G yX5_alike cX5_alike 3 (some .int) { frames := 4, cells := 0, slots := 0, locals := 89 } [.ref (G.1 (14)), .int (s1), .int (s2)] (lc_w σ 2 x) (some (.int (sp_alk sp_alikeM x.1 s1 s2))) (lc_w σ 2 x) := by
  refine lc_entry [(0, .ref (G.1 (14))), (1, .int (s1)), (2, .int (s2))] (by decide) (Nat.le_of_ble_eq_true rfl) rfl rfl rfl ?_
  intro Γ hR
  refine lc_aload_n 0 dX5_alike_0 rfl ?_
  refine lc_iload_n 1 dX5_alike_1 rfl ?_
  refine lc_callV (14) (c_X5_isSite l G σ x n hn (hs) s1) hR.2.2.2.1 hR.2.2.2.2 mt_X5_isSite (by omega) (rfl) rfl ml_X5_98 rfl rfl (Nat.le_of_ble_eq_true rfl) ⟨⟨rfl, rfl⟩, Nat.le_of_ble_eq_true rfl, Nat.le_of_ble_eq_true rfl⟩ dX5_alike_2 ?_
  show lc_V _ _ _ _ _ 5 _ [.int (lc_bi (sp_site x.1 s1))] (lc_w σ 2 x)
  refine lc_ifb_eq 33 dX5_alike_5 (by decide) (fun c_1 => ?_) (fun c_1 => ?_)
  · skip
    refine lc_sipush (v := (-1001)) dX5_alike_33 (by decide) ?_
    exact lc_iret hR dX5_alike_36 (by simp [sp_alk, lc_bi, c_1]) (rfl)
  · skip
    obtain ⟨a1, ha1, ea1⟩ := sp_site_nat hn (hs) c_1
    subst ea1
    refine lc_aload_n 0 dX5_alike_8 rfl ?_
    refine lc_iload_n 2 dX5_alike_9 rfl ?_
    refine lc_callV (14) (c_X5_isSite l G σ x n hn (hs) s2) hR.2.2.2.1 hR.2.2.2.2 mt_X5_isSite (by omega) (rfl) rfl ml_X5_98 rfl rfl (Nat.le_of_ble_eq_true rfl) ⟨⟨rfl, rfl⟩, Nat.le_of_ble_eq_true rfl, Nat.le_of_ble_eq_true rfl⟩ dX5_alike_10 ?_
    show lc_V _ _ _ _ _ 13 _ [.int (lc_bi (sp_site x.1 s2))] (lc_w σ 2 x)
    refine lc_ifb_eq 33 dX5_alike_13 (by decide) (fun c_2 => ?_) (fun c_2 => ?_)
    · skip
      refine lc_sipush (v := (-1001)) dX5_alike_33 (by decide) ?_
      exact lc_iret hR dX5_alike_36 (by simp [sp_alk, lc_bi, c_1, c_2]) (rfl)
    · skip
      obtain ⟨a2, ha2, ea2⟩ := sp_site_nat hn (hs) c_2
      subst ea2
      refine lc_aload_n 0 dX5_alike_16 rfl ?_
      refine lc_iload_n 1 dX5_alike_17 rfl ?_
      refine lc_iload_n 2 dX5_alike_18 rfl ?_
      refine lc_callV (14) (c_X5_areAlike l G σ x a1 a2 (by omega) (by omega)) hR.2.2.2.1 hR.2.2.2.2 mt_X5_areAlike (by omega) (rfl) rfl ml_X5_146 rfl rfl (Nat.le_of_ble_eq_true rfl) ⟨⟨rfl, rfl⟩, Nat.le_of_ble_eq_true rfl, Nat.le_of_ble_eq_true rfl⟩ dX5_alike_19 ?_
      show lc_V _ _ _ _ _ 22 _ [.int (lc_bi (sp_alikeM x.1 a1 a2))] (lc_w σ 2 x)
      refine lc_ifb_eq 29 dX5_alike_22 (by decide) (fun c_3 => ?_) (fun c_3 => ?_)
      · skip
        refine lc_iconst (v := 0) dX5_alike_29 (by decide) ?_
        refine lc_goto 36 dX5_alike_30 (by decide) ?_
        exact lc_iret hR dX5_alike_36 (by simp [sp_alk, lc_bi, nI_clamp (show a1 < 2 ^ 31 by omega), nI_clamp (show a2 < 2 ^ 31 by omega), c_1, c_2, c_3]) (rfl)
      · skip
        refine lc_iconst (v := 1) dX5_alike_25 (by decide) ?_
        refine lc_goto 36 dX5_alike_26 (by decide) ?_
        exact lc_iret hR dX5_alike_36 (by simp [sp_alk, lc_bi, nI_clamp (show a1 < 2 ^ 31 by omega), nI_clamp (show a2 < 2 ^ 31 by omega), c_1, c_2, c_3]) (rfl)

set_option maxRecDepth 100000 in
set_option maxHeartbeats 4000000 in
theorem c_X5_risenNow (l : Launch) (G : lc_G) (σ : lc_S) (x : lc_X) (n k : Nat) (hn : n ≤ 6) (hs : x.1 7 0 = nI n) (hk : k < 4) : lc_M l G yX5_risenNow cX5_risenNow 5 (some .int) { frames := 0, cells := 0, slots := 0, locals := 0 } [.ref (G.1 (14)), .int (nI k)] (lc_w σ 2 x) (some (.int (sp_rssM x.1 (σ.2.1 5) k n))) (lc_w σ 2 x) := by
  refine lc_entry [(0, .ref (G.1 (14))), (1, .int (nI k))] (by decide) (Nat.le_of_ble_eq_true rfl) rfl rfl rfl ?_
  intro Γ hR
  refine lc_iconst (v := 0) dX5_risenNow_0 (by decide) ?_
  refine lc_istore_n [(2, .int (0)), (0, .ref (G.1 (14))), (1, .int (nI k))] dX5_risenNow_1 (by decide) rfl ?_
  refine lc_iconst (v := 0) dX5_risenNow_2 (by decide) ?_
  refine lc_istore_n [(3, .int (0)), (2, .int (0)), (0, .ref (G.1 (14))), (1, .int (nI k))] dX5_risenNow_3 (by decide) rfl ?_
  refine lc_lv (lv' := [(0, .ref (G.1 (14))), (1, .int (nI k)), (2, .int (0)), (3, .int (0))]) [2, 3, 1, 0] rfl ?_
  refine lc_forI (α := Int32) (fun i z => lc_V G Γ cX5_risenNow 5 RX5 4 [(0, .ref (G.1 (14))), (1, .int (nI k)), (2, .int (z)), (3, .int (nI i))] [] (lc_w σ 2 x)) (fun _ _ => True) (sp_rsM x.1 (σ.2.1 5) k) n (fun _ _ _ _ => trivial) (fun i z hi hIi ki => ?_) 0 (trivial) (fun hIi => ?_)
  · skip
    show lc_V G Γ cX5_risenNow 5 RX5 4 [(0, .ref (G.1 (14))), (1, .int (nI k)), (2, .int (z)), (3, .int (nI i))] [] (lc_w σ 2 x)
    refine lc_iload_n 3 dX5_risenNow_4 rfl ?_
    refine lc_aload_n 0 dX5_risenNow_5 rfl ?_
    refine lc_gMSites fl_X5_55 dX5_risenNow_6 ?_
    refine lc_icmp_ge 62 dX5_risenNow_9 (by decide) (fun h => absurd h.1 (by rw [hs]; exact nI_ge (b := n) hi (by omega))) (fun _ => ?_)
    refine lc_iconst (v := 4) dX5_risenNow_12 (by decide) ?_
    refine lc_iload_n 3 dX5_risenNow_13 rfl ?_
    refine lc_imul dX5_risenNow_14 ?_
    refine lc_iload_n 1 dX5_risenNow_15 rfl ?_
    refine lc_iadd dX5_risenNow_16 ?_
    refine lc_topi (nI (4 * i + k)) (lc_m4la i k) ?_
    refine lc_istore [(4, .int (nI (4 * i + k))), (0, .ref (G.1 (14))), (1, .int (nI k)), (2, .int (z)), (3, .int (nI i))] dX5_risenNow_17 (by decide) rfl ?_
    refine lc_iload_n 3 dX5_risenNow_19 rfl ?_
    refine lc_aload_n 1 dX5_risenNow_20 rfl ?_
    refine lc_g_msort fl_X5_19 dX5_risenNow_21 ?_
    refine lc_iload 0 dX5_risenNow_24 rfl ?_
    refine lc_iald (f := x.1 0) (18) (4 * i + k) (by omega) (rfl) (rfl) (by omega) (by decide) dX5_risenNow_26 ?_
    refine lc_iconst (v := 1) dX5_risenNow_27 (by decide) ?_
    refine lc_icmp_ne 53 dX5_risenNow_28 (by decide) (fun c_2 => ?_) (fun c_2 => ?_)
    · skip
      refine lc_iconst (v := 0) dX5_risenNow_53 (by decide) ?_
      refine lc_ior dX5_risenNow_54 ?_
      refine lc_istore_n [(2, .int ((z ||| 0))), (4, .int (nI (4 * i + k))), (0, .ref (G.1 (14))), (1, .int (nI k)), (3, .int (nI i))] dX5_risenNow_55 (by decide) rfl ?_
      refine lc_iinc 4 (nI (i + 1)) [(3, .int (nI (i + 1))), (2, .int ((z ||| 0))), (4, .int (nI (4 * i + k))), (0, .ref (G.1 (14))), (1, .int (nI k))] dX5_risenNow_56 rfl (lc_inc1 i) (by decide) rfl ?_
      refine lc_goto 4 dX5_risenNow_59 (by decide) ?_
      refine lc_lv (lv' := [(0, .ref (G.1 (14))), (1, .int (nI k)), (2, .int ((z ||| 0))), (3, .int (nI (i + 1)))]) [3, 4, 1, 0] rfl ?_
      rw [show (sp_rsM x.1 (σ.2.1 5) k) i z = (z ||| 0) from by simp [sp_rsM, c_2]] at ki
      exact ki
    · skip
      refine lc_aload_n 1 dX5_risenNow_31 rfl ?_
      refine lc_g_mstamp fl_X5_25 dX5_risenNow_32 ?_
      refine lc_iload 0 dX5_risenNow_35 rfl ?_
      refine lc_iald (f := x.1 2) (20) (4 * i + k) (by omega) (rfl) (rfl) (by omega) (by decide) dX5_risenNow_37 ?_
      refine lc_aload_n 1 dX5_risenNow_38 rfl ?_
      refine lc_g_mlatest fl_X5_37 dX5_risenNow_39 ?_
      refine lc_iload_n 2 dX5_risenNow_42 rfl ?_
      refine lc_iald (f := σ.2.1 5) (24) k (by omega) (rfl) (rfl) (by omega) (by decide) dX5_risenNow_43 ?_
      refine lc_icmp_ge 53 dX5_risenNow_44 (by decide) (fun c_3 => ?_) (fun c_3 => ?_)
      · skip
        refine lc_iconst (v := 0) dX5_risenNow_53 (by decide) ?_
        refine lc_ior dX5_risenNow_54 ?_
        refine lc_istore_n [(2, .int ((z ||| 0))), (4, .int (nI (4 * i + k))), (0, .ref (G.1 (14))), (1, .int (nI k)), (3, .int (nI i))] dX5_risenNow_55 (by decide) rfl ?_
        refine lc_iinc 4 (nI (i + 1)) [(3, .int (nI (i + 1))), (2, .int ((z ||| 0))), (4, .int (nI (4 * i + k))), (0, .ref (G.1 (14))), (1, .int (nI k))] dX5_risenNow_56 rfl (lc_inc1 i) (by decide) rfl ?_
        refine lc_goto 4 dX5_risenNow_59 (by decide) ?_
        refine lc_lv (lv' := [(0, .ref (G.1 (14))), (1, .int (nI k)), (2, .int ((z ||| 0))), (3, .int (nI (i + 1)))]) [3, 4, 1, 0] rfl ?_
        rw [show (sp_rsM x.1 (σ.2.1 5) k) i z = (z ||| 0) from by simp [sp_rsM, c_2, c_3]] at ki
        exact ki
      · skip
        refine lc_iconst (v := 1) dX5_risenNow_47 (by decide) ?_
        refine lc_iload_n 4 dX5_risenNow_48 rfl ?_
        refine lc_ishl dX5_risenNow_49 ?_
        refine lc_goto 54 dX5_risenNow_50 (by decide) ?_
        refine lc_ior dX5_risenNow_54 ?_
        refine lc_istore_n [(2, .int ((z ||| (((1 : Int32) <<< ((nI i) &&& 31)))))), (4, .int (nI (4 * i + k))), (0, .ref (G.1 (14))), (1, .int (nI k)), (3, .int (nI i))] dX5_risenNow_55 (by decide) rfl ?_
        refine lc_iinc 4 (nI (i + 1)) [(3, .int (nI (i + 1))), (2, .int ((z ||| (((1 : Int32) <<< ((nI i) &&& 31)))))), (4, .int (nI (4 * i + k))), (0, .ref (G.1 (14))), (1, .int (nI k))] dX5_risenNow_56 rfl (lc_inc1 i) (by decide) rfl ?_
        refine lc_goto 4 dX5_risenNow_59 (by decide) ?_
        refine lc_lv (lv' := [(0, .ref (G.1 (14))), (1, .int (nI k)), (2, .int ((z ||| (((1 : Int32) <<< ((nI i) &&& 31)))))), (3, .int (nI (i + 1)))]) [3, 4, 1, 0] rfl ?_
        rw [show (sp_rsM x.1 (σ.2.1 5) k) i z = (z ||| (((1 : Int32) <<< ((nI i) &&& 31)))) from by simp [sp_rsM, c_2, c_3]] at ki
        exact ki
  · skip
    show lc_V G Γ cX5_risenNow 5 RX5 4 [(0, .ref (G.1 (14))), (1, .int (nI k)), (2, .int ((sp_rssM x.1 (σ.2.1 5) k n))), (3, .int (nI n))] [] (lc_w σ 2 x)
    refine lc_iload_n 3 dX5_risenNow_4 rfl ?_
    refine lc_aload_n 0 dX5_risenNow_5 rfl ?_
    refine lc_gMSites fl_X5_55 dX5_risenNow_6 ?_
    refine lc_icmp_ge 62 dX5_risenNow_9 (by decide) (fun _ => ?_) (fun h => absurd h.1 (by rw [hs]; exact nI_nlt (a := n) (b := n) (Nat.le_refl _) (by omega)))
    refine lc_iload_n 2 dX5_risenNow_62 rfl ?_
    exact lc_iret hR dX5_risenNow_63 (rfl) (rfl)

set_option maxRecDepth 100000 in
set_option maxHeartbeats 4000000 in
theorem c_X5_risen (l : Launch) (G : lc_G) (σ : lc_S) (x : lc_X) (n : Nat) (hn : n ≤ 6) (hs : x.1 7 0 = nI n) (k1 : Int32) : lc_M l G yX5_risen cX5_risen 2 (some .int) { frames := 2, cells := 0, slots := 0, locals := 42 } [.ref (G.1 (14)), .int (k1)] (lc_w σ 2 x) (some (.int (sp_risenM x.1 (σ.2.1 5) n k1))) (lc_w σ 2 x) := by
  refine lc_entry [(0, .ref (G.1 (14))), (1, .int (k1))] (by decide) (Nat.le_of_ble_eq_true rfl) rfl rfl rfl ?_
  intro Γ hR
  refine lc_iload_n 1 dX5_risen_0 rfl ?_
  refine lc_callS (c_X5_isKey l G (lc_w σ 2 x) k1) hR.2.2.2.1 hR.2.2.2.2 mt_X5_isKey ml_X5_101 rfl rfl (Nat.le_of_ble_eq_true rfl) ⟨⟨rfl, rfl⟩, Nat.le_of_ble_eq_true rfl, Nat.le_of_ble_eq_true rfl⟩ dX5_risen_1 ?_
  show lc_V _ _ _ _ _ 4 _ [.int (lc_bi (sp_key k1))] (lc_w σ 2 x)
  refine lc_ifb_eq 15 dX5_risen_4 (by decide) (fun c_1 => ?_) (fun c_1 => ?_)
  · skip
    refine lc_sipush (v := (-1001)) dX5_risen_15 (by decide) ?_
    exact lc_iret hR dX5_risen_18 (by simp [sp_risenM, c_1]) (rfl)
  · skip
    obtain ⟨k2, hk2, ek2⟩ := sp_key_nat c_1
    subst ek2
    refine lc_aload_n 0 dX5_risen_7 rfl ?_
    refine lc_iload_n 1 dX5_risen_8 rfl ?_
    refine lc_callV (14) (c_X5_risenNow l G σ x n k2 hn (hs) (by omega)) hR.2.2.2.1 hR.2.2.2.2 mt_X5_risenNow (by omega) (rfl) rfl ml_X5_167 rfl rfl (Nat.le_of_ble_eq_true rfl) ⟨⟨rfl, rfl⟩, Nat.le_of_ble_eq_true rfl, Nat.le_of_ble_eq_true rfl⟩ dX5_risen_9 ?_
    show lc_V _ _ _ _ _ 12 _ [.int (sp_rssM x.1 (σ.2.1 5) k2 n)] (lc_w σ 2 x)
    refine lc_goto 18 dX5_risen_12 (by decide) ?_
    exact lc_iret hR dX5_risen_18 (by simp [sp_risenM, nI_clamp (show k2 < 2 ^ 31 by omega), c_1]) (rfl)
