theorem lc_h3 {G : lc_G} {σ σ' : lc_S} (q0 : Nat) (hfix : ∀ k, k < 26 → k ≠ q0 → lc_ent G σ' k = lc_ent G σ k) (hit : ∀ a b, a < 2 → b < 24 → ∀ f, f < 6 → σ'.1 a f b = σ.1 a f b) : ∀ i, i < 74 → i ≠ q0 → lc_ent G σ' i = lc_ent G σ i := by
  intro i hi hne
  by_cases h : i < 26
  · exact hfix i h hne
  · have e : i = lc_it ((i - 26) / 24) ((i - 26) % 24) := by unfold lc_it; omega
    have hb : (i - 26) % 24 < 24 := Nat.mod_lt _ (by decide)
    rw [e]
    rw [lc_ent_it G σ' hb, lc_ent_it G σ hb]
    exact lc_iE_eq (hit _ _ (by omega) hb)
theorem lc_uo_w (σ : lc_S) {j r : Nat} (k : Nat) (v : Int32) (x : lc_X) (h : r ≠ j) : lc_uo (lc_w σ j x) r k v = lc_w (lc_uo σ r k v) j x := by
  unfold lc_uo lc_w
  refine Prod.ext rfl (Prod.ext ?_ rfl)
  funext a b
  by_cases ha : a = j
  · subst ha
    have e : ¬ a = r := fun z => h z.symm
    simp [e]
  · simp [ha]
theorem lc_ul_w (σ : lc_S) (j : Nat) (k : Nat) (v : Int64) (x : lc_X) : lc_ul (lc_w σ j x) k v = lc_w (lc_ul σ k v) j x := rfl
theorem lc_uo_same (σ : lc_S) (r i : Nat) (v : Int32) : (lc_uo σ r i v).2.1 r = upd (σ.2.1 r) i v := by
  funext b
  by_cases hb : b = i <;> simp [lc_uo, upd, hb]
theorem lc_cu_same (B : lc_C) (r i : Nat) (v : Int32) : lc_cu B r i v r = upd (B r) i v := by
  funext b
  by_cases hb : b = i <;> simp [lc_cu, upd, hb]

section LCR2
variable {G : lc_G} {Γ : lc_Γ} {cc : ByteArray} {nL : Nat} {own : String} {pc : Nat} {lv : List (Nat × Value)} {st : List Value} {σ : lc_S} {x : lc_X} {idx : Nat}

theorem lc_g_lines (hl : lc_fl own idx (TX4 3)) (hd : decode cc pc = .ok (.getfield idx, 3)) (kk : lc_V G Γ cc nL own (pc + 3) lv (.int (σ.2.1 10 1) :: st) (σ)) : lc_V G Γ cc nL own (pc) lv (.ref (G.1 0) :: st) (σ) := lc_get 0 4 3 (by decide) rfl lc_cX4 (by decide) rfl hl hd kk
theorem lc_gw_lines (j : Nat) (hj : j < 3) (hl : lc_fl own idx (TX4 3)) (hd : decode cc pc = .ok (.getfield idx, 3)) (kk : lc_V G Γ cc nL own (pc + 3) lv (.int (σ.2.1 10 1) :: st) (lc_w σ j x)) : lc_V G Γ cc nL own (pc) lv (.ref (G.1 0) :: st) (lc_w σ j x) := lc_g_lines hl hd (by rw [lc_w_on σ x (show 10 ≠ j by omega)]; exact kk)
theorem lc_p_lines {v : Int32} (hl : lc_fl own idx (TX4 3)) (hd : decode cc pc = .ok (.putfield idx, 3)) (kk : lc_V G Γ cc nL own (pc + 3) lv (st) (lc_uo σ 10 1 v)) : lc_V G Γ cc nL own (pc) lv (.int v :: .ref (G.1 0) :: st) (σ) := lc_put (lc_uo σ 10 1 v) 0 4 3 tyX4 (ty := .int) tyX4_ok nmX4 (by decide) (fs := _) rfl lc_cX4 (by decide) rfl (by decide +kernel) rfl rfl (Nat.le_of_ble_eq_true rfl) rfl (lc_h3 _ (fun k hk hne => by
    match k, hk, hne with
    | 0, _, hne => first | rfl | exact absurd rfl hne
    | 1, _, hne => first | rfl | exact absurd rfl hne
    | 2, _, hne => first | rfl | exact absurd rfl hne
    | 3, _, hne => first | rfl | exact absurd rfl hne
    | 4, _, hne => first | rfl | exact absurd rfl hne
    | 5, _, hne => first | rfl | exact absurd rfl hne
    | 6, _, hne => first | rfl | exact absurd rfl hne
    | 7, _, hne => first | rfl | exact absurd rfl hne
    | 8, _, hne => first | rfl | exact absurd rfl hne
    | 9, _, hne => first | rfl | exact absurd rfl hne
    | 10, _, hne => first | rfl | exact absurd rfl hne
    | 11, _, hne => first | rfl | exact absurd rfl hne
    | 12, _, hne => first | rfl | exact absurd rfl hne
    | 13, _, hne => first | rfl | exact absurd rfl hne
    | 14, _, hne => first | rfl | exact absurd rfl hne
    | 15, _, hne => first | rfl | exact absurd rfl hne
    | 16, _, hne => first | rfl | exact absurd rfl hne
    | 17, _, hne => first | rfl | exact absurd rfl hne
    | 18, _, hne => first | rfl | exact absurd rfl hne
    | 19, _, hne => first | rfl | exact absurd rfl hne
    | 20, _, hne => first | rfl | exact absurd rfl hne
    | 21, _, hne => first | rfl | exact absurd rfl hne
    | 22, _, hne => first | rfl | exact absurd rfl hne
    | 23, _, hne => first | rfl | exact absurd rfl hne
    | 24, _, hne => first | rfl | exact absurd rfl hne
    | 25, _, hne => first | rfl | exact absurd rfl hne
    | k + 26, hk, _ => exact absurd hk (by omega)) (fun a b _ _ g hg => rfl)) hl hd kk
theorem lc_pw_lines {v : Int32} (j : Nat) (hj : j < 3) (hl : lc_fl own idx (TX4 3)) (hd : decode cc pc = .ok (.putfield idx, 3)) (kk : lc_V G Γ cc nL own (pc + 3) lv (st) (lc_w (lc_uo σ 10 1 v) j x)) : lc_V G Γ cc nL own (pc) lv (.int v :: .ref (G.1 0) :: st) (lc_w σ j x) := lc_p_lines hl hd (by rw [lc_uo_w σ 1 v x (show 10 ≠ j by omega)]; exact kk)
theorem lc_g_len (hl : lc_fl own idx (TX1 1)) (hd : decode cc pc = .ok (.getfield idx, 3)) (kk : lc_V G Γ cc nL own (pc + 3) lv (.int (σ.2.1 10 0) :: st) (σ)) : lc_V G Γ cc nL own (pc) lv (.ref (G.1 1) :: st) (σ) := lc_get 1 1 1 (by decide) rfl lc_cX1 (by decide) rfl hl hd kk
theorem lc_gw_len (j : Nat) (hj : j < 3) (hl : lc_fl own idx (TX1 1)) (hd : decode cc pc = .ok (.getfield idx, 3)) (kk : lc_V G Γ cc nL own (pc + 3) lv (.int (σ.2.1 10 0) :: st) (lc_w σ j x)) : lc_V G Γ cc nL own (pc) lv (.ref (G.1 1) :: st) (lc_w σ j x) := lc_g_len hl hd (by rw [lc_w_on σ x (show 10 ≠ j by omega)]; exact kk)
theorem lc_p_len {v : Int32} (hl : lc_fl own idx (TX1 1)) (hd : decode cc pc = .ok (.putfield idx, 3)) (kk : lc_V G Γ cc nL own (pc + 3) lv (st) (lc_uo σ 10 0 v)) : lc_V G Γ cc nL own (pc) lv (.int v :: .ref (G.1 1) :: st) (σ) := lc_put (lc_uo σ 10 0 v) 1 1 1 tyX1 (ty := .int) tyX1_ok nmX1 (by decide) (fs := _) rfl lc_cX1 (by decide) rfl (by decide +kernel) rfl rfl (Nat.le_of_ble_eq_true rfl) rfl (lc_h3 _ (fun k hk hne => by
    match k, hk, hne with
    | 0, _, hne => first | rfl | exact absurd rfl hne
    | 1, _, hne => first | rfl | exact absurd rfl hne
    | 2, _, hne => first | rfl | exact absurd rfl hne
    | 3, _, hne => first | rfl | exact absurd rfl hne
    | 4, _, hne => first | rfl | exact absurd rfl hne
    | 5, _, hne => first | rfl | exact absurd rfl hne
    | 6, _, hne => first | rfl | exact absurd rfl hne
    | 7, _, hne => first | rfl | exact absurd rfl hne
    | 8, _, hne => first | rfl | exact absurd rfl hne
    | 9, _, hne => first | rfl | exact absurd rfl hne
    | 10, _, hne => first | rfl | exact absurd rfl hne
    | 11, _, hne => first | rfl | exact absurd rfl hne
    | 12, _, hne => first | rfl | exact absurd rfl hne
    | 13, _, hne => first | rfl | exact absurd rfl hne
    | 14, _, hne => first | rfl | exact absurd rfl hne
    | 15, _, hne => first | rfl | exact absurd rfl hne
    | 16, _, hne => first | rfl | exact absurd rfl hne
    | 17, _, hne => first | rfl | exact absurd rfl hne
    | 18, _, hne => first | rfl | exact absurd rfl hne
    | 19, _, hne => first | rfl | exact absurd rfl hne
    | 20, _, hne => first | rfl | exact absurd rfl hne
    | 21, _, hne => first | rfl | exact absurd rfl hne
    | 22, _, hne => first | rfl | exact absurd rfl hne
    | 23, _, hne => first | rfl | exact absurd rfl hne
    | 24, _, hne => first | rfl | exact absurd rfl hne
    | 25, _, hne => first | rfl | exact absurd rfl hne
    | k + 26, hk, _ => exact absurd hk (by omega)) (fun a b _ _ g hg => rfl)) hl hd kk
theorem lc_pw_len {v : Int32} (j : Nat) (hj : j < 3) (hl : lc_fl own idx (TX1 1)) (hd : decode cc pc = .ok (.putfield idx, 3)) (kk : lc_V G Γ cc nL own (pc + 3) lv (st) (lc_w (lc_uo σ 10 0 v) j x)) : lc_V G Γ cc nL own (pc) lv (.int v :: .ref (G.1 1) :: st) (lc_w σ j x) := lc_p_len hl hd (by rw [lc_uo_w σ 0 v x (show 10 ≠ j by omega)]; exact kk)
theorem lc_g_rnd (hl : lc_fl own idx (TX2 1)) (hd : decode cc pc = .ok (.getfield idx, 3)) (kk : lc_V G Γ cc nL own (pc + 3) lv (.int (σ.2.1 10 2) :: st) (σ)) : lc_V G Γ cc nL own (pc) lv (.ref (G.1 3) :: st) (σ) := lc_get 3 2 1 (by decide) rfl lc_cX2 (by decide) rfl hl hd kk
theorem lc_gw_rnd (j : Nat) (hj : j < 3) (hl : lc_fl own idx (TX2 1)) (hd : decode cc pc = .ok (.getfield idx, 3)) (kk : lc_V G Γ cc nL own (pc + 3) lv (.int (σ.2.1 10 2) :: st) (lc_w σ j x)) : lc_V G Γ cc nL own (pc) lv (.ref (G.1 3) :: st) (lc_w σ j x) := lc_g_rnd hl hd (by rw [lc_w_on σ x (show 10 ≠ j by omega)]; exact kk)
theorem lc_p_rnd {v : Int32} (hl : lc_fl own idx (TX2 1)) (hd : decode cc pc = .ok (.putfield idx, 3)) (kk : lc_V G Γ cc nL own (pc + 3) lv (st) (lc_uo σ 10 2 v)) : lc_V G Γ cc nL own (pc) lv (.int v :: .ref (G.1 3) :: st) (σ) := lc_put (lc_uo σ 10 2 v) 3 2 1 tyX2 (ty := .int) tyX2_ok nmX2 (by decide) (fs := _) rfl lc_cX2 (by decide) rfl (by decide +kernel) rfl rfl (Nat.le_of_ble_eq_true rfl) rfl (lc_h3 _ (fun k hk hne => by
    match k, hk, hne with
    | 0, _, hne => first | rfl | exact absurd rfl hne
    | 1, _, hne => first | rfl | exact absurd rfl hne
    | 2, _, hne => first | rfl | exact absurd rfl hne
    | 3, _, hne => first | rfl | exact absurd rfl hne
    | 4, _, hne => first | rfl | exact absurd rfl hne
    | 5, _, hne => first | rfl | exact absurd rfl hne
    | 6, _, hne => first | rfl | exact absurd rfl hne
    | 7, _, hne => first | rfl | exact absurd rfl hne
    | 8, _, hne => first | rfl | exact absurd rfl hne
    | 9, _, hne => first | rfl | exact absurd rfl hne
    | 10, _, hne => first | rfl | exact absurd rfl hne
    | 11, _, hne => first | rfl | exact absurd rfl hne
    | 12, _, hne => first | rfl | exact absurd rfl hne
    | 13, _, hne => first | rfl | exact absurd rfl hne
    | 14, _, hne => first | rfl | exact absurd rfl hne
    | 15, _, hne => first | rfl | exact absurd rfl hne
    | 16, _, hne => first | rfl | exact absurd rfl hne
    | 17, _, hne => first | rfl | exact absurd rfl hne
    | 18, _, hne => first | rfl | exact absurd rfl hne
    | 19, _, hne => first | rfl | exact absurd rfl hne
    | 20, _, hne => first | rfl | exact absurd rfl hne
    | 21, _, hne => first | rfl | exact absurd rfl hne
    | 22, _, hne => first | rfl | exact absurd rfl hne
    | 23, _, hne => first | rfl | exact absurd rfl hne
    | 24, _, hne => first | rfl | exact absurd rfl hne
    | 25, _, hne => first | rfl | exact absurd rfl hne
    | k + 26, hk, _ => exact absurd hk (by omega)) (fun a b _ _ g hg => rfl)) hl hd kk
theorem lc_pw_rnd {v : Int32} (j : Nat) (hj : j < 3) (hl : lc_fl own idx (TX2 1)) (hd : decode cc pc = .ok (.putfield idx, 3)) (kk : lc_V G Γ cc nL own (pc + 3) lv (st) (lc_w (lc_uo σ 10 2 v) j x)) : lc_V G Γ cc nL own (pc) lv (.int v :: .ref (G.1 3) :: st) (lc_w σ j x) := lc_p_rnd hl hd (by rw [lc_uo_w σ 2 v x (show 10 ≠ j by omega)]; exact kk)
theorem lc_g_seed (hl : lc_fl own idx (TX2 2)) (hd : decode cc pc = .ok (.getfield idx, 3)) (kk : lc_V G Γ cc nL own (pc + 3) lv (.int (σ.2.1 10 3) :: st) (σ)) : lc_V G Γ cc nL own (pc) lv (.ref (G.1 3) :: st) (σ) := lc_get 3 2 2 (by decide) rfl lc_cX2 (by decide) rfl hl hd kk
theorem lc_gw_seed (j : Nat) (hj : j < 3) (hl : lc_fl own idx (TX2 2)) (hd : decode cc pc = .ok (.getfield idx, 3)) (kk : lc_V G Γ cc nL own (pc + 3) lv (.int (σ.2.1 10 3) :: st) (lc_w σ j x)) : lc_V G Γ cc nL own (pc) lv (.ref (G.1 3) :: st) (lc_w σ j x) := lc_g_seed hl hd (by rw [lc_w_on σ x (show 10 ≠ j by omega)]; exact kk)
theorem lc_p_seed {v : Int32} (hl : lc_fl own idx (TX2 2)) (hd : decode cc pc = .ok (.putfield idx, 3)) (kk : lc_V G Γ cc nL own (pc + 3) lv (st) (lc_uo σ 10 3 v)) : lc_V G Γ cc nL own (pc) lv (.int v :: .ref (G.1 3) :: st) (σ) := lc_put (lc_uo σ 10 3 v) 3 2 2 tyX2 (ty := .int) tyX2_ok nmX2 (by decide) (fs := _) rfl lc_cX2 (by decide) rfl (by decide +kernel) rfl rfl (Nat.le_of_ble_eq_true rfl) rfl (lc_h3 _ (fun k hk hne => by
    match k, hk, hne with
    | 0, _, hne => first | rfl | exact absurd rfl hne
    | 1, _, hne => first | rfl | exact absurd rfl hne
    | 2, _, hne => first | rfl | exact absurd rfl hne
    | 3, _, hne => first | rfl | exact absurd rfl hne
    | 4, _, hne => first | rfl | exact absurd rfl hne
    | 5, _, hne => first | rfl | exact absurd rfl hne
    | 6, _, hne => first | rfl | exact absurd rfl hne
    | 7, _, hne => first | rfl | exact absurd rfl hne
    | 8, _, hne => first | rfl | exact absurd rfl hne
    | 9, _, hne => first | rfl | exact absurd rfl hne
    | 10, _, hne => first | rfl | exact absurd rfl hne
    | 11, _, hne => first | rfl | exact absurd rfl hne
    | 12, _, hne => first | rfl | exact absurd rfl hne
    | 13, _, hne => first | rfl | exact absurd rfl hne
    | 14, _, hne => first | rfl | exact absurd rfl hne
    | 15, _, hne => first | rfl | exact absurd rfl hne
    | 16, _, hne => first | rfl | exact absurd rfl hne
    | 17, _, hne => first | rfl | exact absurd rfl hne
    | 18, _, hne => first | rfl | exact absurd rfl hne
    | 19, _, hne => first | rfl | exact absurd rfl hne
    | 20, _, hne => first | rfl | exact absurd rfl hne
    | 21, _, hne => first | rfl | exact absurd rfl hne
    | 22, _, hne => first | rfl | exact absurd rfl hne
    | 23, _, hne => first | rfl | exact absurd rfl hne
    | 24, _, hne => first | rfl | exact absurd rfl hne
    | 25, _, hne => first | rfl | exact absurd rfl hne
    | k + 26, hk, _ => exact absurd hk (by omega)) (fun a b _ _ g hg => rfl)) hl hd kk
theorem lc_pw_seed {v : Int32} (j : Nat) (hj : j < 3) (hl : lc_fl own idx (TX2 2)) (hd : decode cc pc = .ok (.putfield idx, 3)) (kk : lc_V G Γ cc nL own (pc + 3) lv (st) (lc_w (lc_uo σ 10 3 v) j x)) : lc_V G Γ cc nL own (pc) lv (.int v :: .ref (G.1 3) :: st) (lc_w σ j x) := lc_p_seed hl hd (by rw [lc_uo_w σ 3 v x (show 10 ≠ j by omega)]; exact kk)
theorem lc_g_mlen (hl : lc_fl own idx (TX5 0)) (hd : decode cc pc = .ok (.getfield idx, 3)) (kk : lc_V G Γ cc nL own (pc + 3) lv (.int (σ.2.1 12 0) :: st) (σ)) : lc_V G Γ cc nL own (pc) lv (.ref (G.1 14) :: st) (σ) := lc_get 14 5 0 (by decide) rfl lc_cX5 (by decide) rfl hl hd kk
theorem lc_gw_mlen (j : Nat) (hj : j < 3) (hl : lc_fl own idx (TX5 0)) (hd : decode cc pc = .ok (.getfield idx, 3)) (kk : lc_V G Γ cc nL own (pc + 3) lv (.int (σ.2.1 12 0) :: st) (lc_w σ j x)) : lc_V G Γ cc nL own (pc) lv (.ref (G.1 14) :: st) (lc_w σ j x) := lc_g_mlen hl hd (by rw [lc_w_on σ x (show 12 ≠ j by omega)]; exact kk)
theorem lc_p_mlen {v : Int32} (hl : lc_fl own idx (TX5 0)) (hd : decode cc pc = .ok (.putfield idx, 3)) (kk : lc_V G Γ cc nL own (pc + 3) lv (st) (lc_uo σ 12 0 v)) : lc_V G Γ cc nL own (pc) lv (.int v :: .ref (G.1 14) :: st) (σ) := lc_put (lc_uo σ 12 0 v) 14 5 0 tyX5 (ty := .int) tyX5_ok nmX5 (by decide) (fs := _) rfl lc_cX5 (by decide) rfl (by decide +kernel) rfl rfl (Nat.le_of_ble_eq_true rfl) rfl (lc_h3 _ (fun k hk hne => by
    match k, hk, hne with
    | 0, _, hne => first | rfl | exact absurd rfl hne
    | 1, _, hne => first | rfl | exact absurd rfl hne
    | 2, _, hne => first | rfl | exact absurd rfl hne
    | 3, _, hne => first | rfl | exact absurd rfl hne
    | 4, _, hne => first | rfl | exact absurd rfl hne
    | 5, _, hne => first | rfl | exact absurd rfl hne
    | 6, _, hne => first | rfl | exact absurd rfl hne
    | 7, _, hne => first | rfl | exact absurd rfl hne
    | 8, _, hne => first | rfl | exact absurd rfl hne
    | 9, _, hne => first | rfl | exact absurd rfl hne
    | 10, _, hne => first | rfl | exact absurd rfl hne
    | 11, _, hne => first | rfl | exact absurd rfl hne
    | 12, _, hne => first | rfl | exact absurd rfl hne
    | 13, _, hne => first | rfl | exact absurd rfl hne
    | 14, _, hne => first | rfl | exact absurd rfl hne
    | 15, _, hne => first | rfl | exact absurd rfl hne
    | 16, _, hne => first | rfl | exact absurd rfl hne
    | 17, _, hne => first | rfl | exact absurd rfl hne
    | 18, _, hne => first | rfl | exact absurd rfl hne
    | 19, _, hne => first | rfl | exact absurd rfl hne
    | 20, _, hne => first | rfl | exact absurd rfl hne
    | 21, _, hne => first | rfl | exact absurd rfl hne
    | 22, _, hne => first | rfl | exact absurd rfl hne
    | 23, _, hne => first | rfl | exact absurd rfl hne
    | 24, _, hne => first | rfl | exact absurd rfl hne
    | 25, _, hne => first | rfl | exact absurd rfl hne
    | k + 26, hk, _ => exact absurd hk (by omega)) (fun a b _ _ g hg => rfl)) hl hd kk
theorem lc_pw_mlen {v : Int32} (j : Nat) (hj : j < 3) (hl : lc_fl own idx (TX5 0)) (hd : decode cc pc = .ok (.putfield idx, 3)) (kk : lc_V G Γ cc nL own (pc + 3) lv (st) (lc_w (lc_uo σ 12 0 v) j x)) : lc_V G Γ cc nL own (pc) lv (.int v :: .ref (G.1 14) :: st) (lc_w σ j x) := lc_p_mlen hl hd (by rw [lc_uo_w σ 0 v x (show 12 ≠ j by omega)]; exact kk)
theorem lc_g_mlines (hl : lc_fl own idx (TX5 9)) (hd : decode cc pc = .ok (.getfield idx, 3)) (kk : lc_V G Γ cc nL own (pc + 3) lv (.int (σ.2.1 12 1) :: st) (σ)) : lc_V G Γ cc nL own (pc) lv (.ref (G.1 14) :: st) (σ) := lc_get 14 5 9 (by decide) rfl lc_cX5 (by decide) rfl hl hd kk
theorem lc_gw_mlines (j : Nat) (hj : j < 3) (hl : lc_fl own idx (TX5 9)) (hd : decode cc pc = .ok (.getfield idx, 3)) (kk : lc_V G Γ cc nL own (pc + 3) lv (.int (σ.2.1 12 1) :: st) (lc_w σ j x)) : lc_V G Γ cc nL own (pc) lv (.ref (G.1 14) :: st) (lc_w σ j x) := lc_g_mlines hl hd (by rw [lc_w_on σ x (show 12 ≠ j by omega)]; exact kk)
theorem lc_p_mlines {v : Int32} (hl : lc_fl own idx (TX5 9)) (hd : decode cc pc = .ok (.putfield idx, 3)) (kk : lc_V G Γ cc nL own (pc + 3) lv (st) (lc_uo σ 12 1 v)) : lc_V G Γ cc nL own (pc) lv (.int v :: .ref (G.1 14) :: st) (σ) := lc_put (lc_uo σ 12 1 v) 14 5 9 tyX5 (ty := .int) tyX5_ok nmX5 (by decide) (fs := _) rfl lc_cX5 (by decide) rfl (by decide +kernel) rfl rfl (Nat.le_of_ble_eq_true rfl) rfl (lc_h3 _ (fun k hk hne => by
    match k, hk, hne with
    | 0, _, hne => first | rfl | exact absurd rfl hne
    | 1, _, hne => first | rfl | exact absurd rfl hne
    | 2, _, hne => first | rfl | exact absurd rfl hne
    | 3, _, hne => first | rfl | exact absurd rfl hne
    | 4, _, hne => first | rfl | exact absurd rfl hne
    | 5, _, hne => first | rfl | exact absurd rfl hne
    | 6, _, hne => first | rfl | exact absurd rfl hne
    | 7, _, hne => first | rfl | exact absurd rfl hne
    | 8, _, hne => first | rfl | exact absurd rfl hne
    | 9, _, hne => first | rfl | exact absurd rfl hne
    | 10, _, hne => first | rfl | exact absurd rfl hne
    | 11, _, hne => first | rfl | exact absurd rfl hne
    | 12, _, hne => first | rfl | exact absurd rfl hne
    | 13, _, hne => first | rfl | exact absurd rfl hne
    | 14, _, hne => first | rfl | exact absurd rfl hne
    | 15, _, hne => first | rfl | exact absurd rfl hne
    | 16, _, hne => first | rfl | exact absurd rfl hne
    | 17, _, hne => first | rfl | exact absurd rfl hne
    | 18, _, hne => first | rfl | exact absurd rfl hne
    | 19, _, hne => first | rfl | exact absurd rfl hne
    | 20, _, hne => first | rfl | exact absurd rfl hne
    | 21, _, hne => first | rfl | exact absurd rfl hne
    | 22, _, hne => first | rfl | exact absurd rfl hne
    | 23, _, hne => first | rfl | exact absurd rfl hne
    | 24, _, hne => first | rfl | exact absurd rfl hne
    | 25, _, hne => first | rfl | exact absurd rfl hne
    | k + 26, hk, _ => exact absurd hk (by omega)) (fun a b _ _ g hg => rfl)) hl hd kk
theorem lc_pw_mlines {v : Int32} (j : Nat) (hj : j < 3) (hl : lc_fl own idx (TX5 9)) (hd : decode cc pc = .ok (.putfield idx, 3)) (kk : lc_V G Γ cc nL own (pc + 3) lv (st) (lc_w (lc_uo σ 12 1 v) j x)) : lc_V G Γ cc nL own (pc) lv (.int v :: .ref (G.1 14) :: st) (lc_w σ j x) := lc_p_mlines hl hd (by rw [lc_uo_w σ 1 v x (show 12 ≠ j by omega)]; exact kk)
theorem lc_g_mrnd (hl : lc_fl own idx (TX5 20)) (hd : decode cc pc = .ok (.getfield idx, 3)) (kk : lc_V G Γ cc nL own (pc + 3) lv (.int (σ.2.1 12 2) :: st) (σ)) : lc_V G Γ cc nL own (pc) lv (.ref (G.1 14) :: st) (σ) := lc_get 14 5 20 (by decide) rfl lc_cX5 (by decide) rfl hl hd kk
theorem lc_gw_mrnd (j : Nat) (hj : j < 3) (hl : lc_fl own idx (TX5 20)) (hd : decode cc pc = .ok (.getfield idx, 3)) (kk : lc_V G Γ cc nL own (pc + 3) lv (.int (σ.2.1 12 2) :: st) (lc_w σ j x)) : lc_V G Γ cc nL own (pc) lv (.ref (G.1 14) :: st) (lc_w σ j x) := lc_g_mrnd hl hd (by rw [lc_w_on σ x (show 12 ≠ j by omega)]; exact kk)
theorem lc_p_mrnd {v : Int32} (hl : lc_fl own idx (TX5 20)) (hd : decode cc pc = .ok (.putfield idx, 3)) (kk : lc_V G Γ cc nL own (pc + 3) lv (st) (lc_uo σ 12 2 v)) : lc_V G Γ cc nL own (pc) lv (.int v :: .ref (G.1 14) :: st) (σ) := lc_put (lc_uo σ 12 2 v) 14 5 20 tyX5 (ty := .int) tyX5_ok nmX5 (by decide) (fs := _) rfl lc_cX5 (by decide) rfl (by decide +kernel) rfl rfl (Nat.le_of_ble_eq_true rfl) rfl (lc_h3 _ (fun k hk hne => by
    match k, hk, hne with
    | 0, _, hne => first | rfl | exact absurd rfl hne
    | 1, _, hne => first | rfl | exact absurd rfl hne
    | 2, _, hne => first | rfl | exact absurd rfl hne
    | 3, _, hne => first | rfl | exact absurd rfl hne
    | 4, _, hne => first | rfl | exact absurd rfl hne
    | 5, _, hne => first | rfl | exact absurd rfl hne
    | 6, _, hne => first | rfl | exact absurd rfl hne
    | 7, _, hne => first | rfl | exact absurd rfl hne
    | 8, _, hne => first | rfl | exact absurd rfl hne
    | 9, _, hne => first | rfl | exact absurd rfl hne
    | 10, _, hne => first | rfl | exact absurd rfl hne
    | 11, _, hne => first | rfl | exact absurd rfl hne
    | 12, _, hne => first | rfl | exact absurd rfl hne
    | 13, _, hne => first | rfl | exact absurd rfl hne
    | 14, _, hne => first | rfl | exact absurd rfl hne
    | 15, _, hne => first | rfl | exact absurd rfl hne
    | 16, _, hne => first | rfl | exact absurd rfl hne
    | 17, _, hne => first | rfl | exact absurd rfl hne
    | 18, _, hne => first | rfl | exact absurd rfl hne
    | 19, _, hne => first | rfl | exact absurd rfl hne
    | 20, _, hne => first | rfl | exact absurd rfl hne
    | 21, _, hne => first | rfl | exact absurd rfl hne
    | 22, _, hne => first | rfl | exact absurd rfl hne
    | 23, _, hne => first | rfl | exact absurd rfl hne
    | 24, _, hne => first | rfl | exact absurd rfl hne
    | 25, _, hne => first | rfl | exact absurd rfl hne
    | k + 26, hk, _ => exact absurd hk (by omega)) (fun a b _ _ g hg => rfl)) hl hd kk
theorem lc_pw_mrnd {v : Int32} (j : Nat) (hj : j < 3) (hl : lc_fl own idx (TX5 20)) (hd : decode cc pc = .ok (.putfield idx, 3)) (kk : lc_V G Γ cc nL own (pc + 3) lv (st) (lc_w (lc_uo σ 12 2 v) j x)) : lc_V G Γ cc nL own (pc) lv (.int v :: .ref (G.1 14) :: st) (lc_w σ j x) := lc_p_mrnd hl hd (by rw [lc_uo_w σ 2 v x (show 12 ≠ j by omega)]; exact kk)
theorem lc_g_mspent (hl : lc_fl own idx (TX5 21)) (hd : decode cc pc = .ok (.getfield idx, 3)) (kk : lc_V G Γ cc nL own (pc + 3) lv (.int (σ.2.1 12 3) :: st) (σ)) : lc_V G Γ cc nL own (pc) lv (.ref (G.1 14) :: st) (σ) := lc_get 14 5 21 (by decide) rfl lc_cX5 (by decide) rfl hl hd kk
theorem lc_gw_mspent (j : Nat) (hj : j < 3) (hl : lc_fl own idx (TX5 21)) (hd : decode cc pc = .ok (.getfield idx, 3)) (kk : lc_V G Γ cc nL own (pc + 3) lv (.int (σ.2.1 12 3) :: st) (lc_w σ j x)) : lc_V G Γ cc nL own (pc) lv (.ref (G.1 14) :: st) (lc_w σ j x) := lc_g_mspent hl hd (by rw [lc_w_on σ x (show 12 ≠ j by omega)]; exact kk)
theorem lc_p_mspent {v : Int32} (hl : lc_fl own idx (TX5 21)) (hd : decode cc pc = .ok (.putfield idx, 3)) (kk : lc_V G Γ cc nL own (pc + 3) lv (st) (lc_uo σ 12 3 v)) : lc_V G Γ cc nL own (pc) lv (.int v :: .ref (G.1 14) :: st) (σ) := lc_put (lc_uo σ 12 3 v) 14 5 21 tyX5 (ty := .int) tyX5_ok nmX5 (by decide) (fs := _) rfl lc_cX5 (by decide) rfl (by decide +kernel) rfl rfl (Nat.le_of_ble_eq_true rfl) rfl (lc_h3 _ (fun k hk hne => by
    match k, hk, hne with
    | 0, _, hne => first | rfl | exact absurd rfl hne
    | 1, _, hne => first | rfl | exact absurd rfl hne
    | 2, _, hne => first | rfl | exact absurd rfl hne
    | 3, _, hne => first | rfl | exact absurd rfl hne
    | 4, _, hne => first | rfl | exact absurd rfl hne
    | 5, _, hne => first | rfl | exact absurd rfl hne
    | 6, _, hne => first | rfl | exact absurd rfl hne
    | 7, _, hne => first | rfl | exact absurd rfl hne
    | 8, _, hne => first | rfl | exact absurd rfl hne
    | 9, _, hne => first | rfl | exact absurd rfl hne
    | 10, _, hne => first | rfl | exact absurd rfl hne
    | 11, _, hne => first | rfl | exact absurd rfl hne
    | 12, _, hne => first | rfl | exact absurd rfl hne
    | 13, _, hne => first | rfl | exact absurd rfl hne
    | 14, _, hne => first | rfl | exact absurd rfl hne
    | 15, _, hne => first | rfl | exact absurd rfl hne
    | 16, _, hne => first | rfl | exact absurd rfl hne
    | 17, _, hne => first | rfl | exact absurd rfl hne
    | 18, _, hne => first | rfl | exact absurd rfl hne
    | 19, _, hne => first | rfl | exact absurd rfl hne
    | 20, _, hne => first | rfl | exact absurd rfl hne
    | 21, _, hne => first | rfl | exact absurd rfl hne
    | 22, _, hne => first | rfl | exact absurd rfl hne
    | 23, _, hne => first | rfl | exact absurd rfl hne
    | 24, _, hne => first | rfl | exact absurd rfl hne
    | 25, _, hne => first | rfl | exact absurd rfl hne
    | k + 26, hk, _ => exact absurd hk (by omega)) (fun a b _ _ g hg => rfl)) hl hd kk
theorem lc_pw_mspent {v : Int32} (j : Nat) (hj : j < 3) (hl : lc_fl own idx (TX5 21)) (hd : decode cc pc = .ok (.putfield idx, 3)) (kk : lc_V G Γ cc nL own (pc + 3) lv (st) (lc_w (lc_uo σ 12 3 v) j x)) : lc_V G Γ cc nL own (pc) lv (.int v :: .ref (G.1 14) :: st) (lc_w σ j x) := lc_p_mspent hl hd (by rw [lc_uo_w σ 3 v x (show 12 ≠ j by omega)]; exact kk)
theorem lc_g_page (hl : lc_fl own idx (TX4 0)) (hd : decode cc pc = .ok (.getfield idx, 3)) (kk : lc_V G Γ cc nL own (pc + 3) lv (.ref (G.1 1) :: st) (σ)) : lc_V G Γ cc nL own (pc) lv (.ref (G.1 0) :: st) (σ) := lc_get 0 4 0 (by decide) rfl lc_cX4 (by decide) rfl hl hd kk
theorem lc_g_world (hl : lc_fl own idx (TX4 1)) (hd : decode cc pc = .ok (.getfield idx, 3)) (kk : lc_V G Γ cc nL own (pc + 3) lv (.ref (G.1 4) :: st) (σ)) : lc_V G Γ cc nL own (pc) lv (.ref (G.1 0) :: st) (σ) := lc_get 0 4 1 (by decide) rfl lc_cX4 (by decide) rfl hl hd kk
theorem lc_g_settling (hl : lc_fl own idx (TX4 2)) (hd : decode cc pc = .ok (.getfield idx, 3)) (kk : lc_V G Γ cc nL own (pc + 3) lv (.ref (G.1 3) :: st) (σ)) : lc_V G Γ cc nL own (pc) lv (.ref (G.1 0) :: st) (σ) := lc_get 0 4 2 (by decide) rfl lc_cX4 (by decide) rfl hl hd kk
theorem lc_g_codes (hl : lc_fl own idx (TX1 0)) (hd : decode cc pc = .ok (.getfield idx, 3)) (kk : lc_V G Γ cc nL own (pc + 3) lv (.ref (G.1 2) :: st) (σ)) : lc_V G Γ cc nL own (pc) lv (.ref (G.1 1) :: st) (σ) := lc_get 1 1 0 (by decide) rfl lc_cX1 (by decide) rfl hl hd kk
theorem lc_g_trial (hl : lc_fl own idx (TX2 0)) (hd : decode cc pc = .ok (.getfield idx, 3)) (kk : lc_V G Γ cc nL own (pc + 3) lv (.ref (G.1 5) :: st) (σ)) : lc_V G Γ cc nL own (pc) lv (.ref (G.1 3) :: st) (σ) := lc_get 3 2 0 (by decide) rfl lc_cX2 (by decide) rfl hl hd kk
theorem lc_g_mpage (hl : lc_fl own idx (TX5 1)) (hd : decode cc pc = .ok (.getfield idx, 3)) (kk : lc_V G Γ cc nL own (pc + 3) lv (.ref (G.1 15) :: st) (σ)) : lc_V G Γ cc nL own (pc) lv (.ref (G.1 14) :: st) (σ) := lc_get 14 5 1 (by decide) rfl lc_cX5 (by decide) rfl hl hd kk
theorem lc_g_mpos (hl : lc_fl own idx (TX5 3)) (hd : decode cc pc = .ok (.getfield idx, 3)) (kk : lc_V G Γ cc nL own (pc + 3) lv (.ref (G.1 16) :: st) (σ)) : lc_V G Γ cc nL own (pc) lv (.ref (G.1 14) :: st) (σ) := lc_get 14 5 3 (by decide) rfl lc_cX5 (by decide) rfl hl hd kk
theorem lc_g_mtold (hl : lc_fl own idx (TX5 10)) (hd : decode cc pc = .ok (.getfield idx, 3)) (kk : lc_V G Γ cc nL own (pc + 3) lv (.ref (G.1 17) :: st) (σ)) : lc_V G Γ cc nL own (pc) lv (.ref (G.1 14) :: st) (σ) := lc_get 14 5 10 (by decide) rfl lc_cX5 (by decide) rfl hl hd kk
theorem lc_g_msort (hl : lc_fl own idx (TX5 11)) (hd : decode cc pc = .ok (.getfield idx, 3)) (kk : lc_V G Γ cc nL own (pc + 3) lv (.ref (G.1 18) :: st) (σ)) : lc_V G Γ cc nL own (pc) lv (.ref (G.1 14) :: st) (σ) := lc_get 14 5 11 (by decide) rfl lc_cX5 (by decide) rfl hl hd kk
theorem lc_g_mvalue (hl : lc_fl own idx (TX5 12)) (hd : decode cc pc = .ok (.getfield idx, 3)) (kk : lc_V G Γ cc nL own (pc + 3) lv (.ref (G.1 19) :: st) (σ)) : lc_V G Γ cc nL own (pc) lv (.ref (G.1 14) :: st) (σ) := lc_get 14 5 12 (by decide) rfl lc_cX5 (by decide) rfl hl hd kk
theorem lc_g_mstamp (hl : lc_fl own idx (TX5 13)) (hd : decode cc pc = .ok (.getfield idx, 3)) (kk : lc_V G Γ cc nL own (pc + 3) lv (.ref (G.1 20) :: st) (σ)) : lc_V G Γ cc nL own (pc) lv (.ref (G.1 14) :: st) (σ) := lc_get 14 5 13 (by decide) rfl lc_cX5 (by decide) rfl hl hd kk
theorem lc_g_mactive (hl : lc_fl own idx (TX5 14)) (hd : decode cc pc = .ok (.getfield idx, 3)) (kk : lc_V G Γ cc nL own (pc + 3) lv (.ref (G.1 21) :: st) (σ)) : lc_V G Γ cc nL own (pc) lv (.ref (G.1 14) :: st) (σ) := lc_get 14 5 14 (by decide) rfl lc_cX5 (by decide) rfl hl hd kk
theorem lc_g_mkeepers (hl : lc_fl own idx (TX5 15)) (hd : decode cc pc = .ok (.getfield idx, 3)) (kk : lc_V G Γ cc nL own (pc + 3) lv (.ref (G.1 22) :: st) (σ)) : lc_V G Γ cc nL own (pc) lv (.ref (G.1 14) :: st) (σ) := lc_get 14 5 15 (by decide) rfl lc_cX5 (by decide) rfl hl hd kk
theorem lc_g_mheat (hl : lc_fl own idx (TX5 16)) (hd : decode cc pc = .ok (.getfield idx, 3)) (kk : lc_V G Γ cc nL own (pc + 3) lv (.ref (G.1 23) :: st) (σ)) : lc_V G Γ cc nL own (pc) lv (.ref (G.1 14) :: st) (σ) := lc_get 14 5 16 (by decide) rfl lc_cX5 (by decide) rfl hl hd kk
theorem lc_g_mlatest (hl : lc_fl own idx (TX5 17)) (hd : decode cc pc = .ok (.getfield idx, 3)) (kk : lc_V G Γ cc nL own (pc + 3) lv (.ref (G.1 24) :: st) (σ)) : lc_V G Γ cc nL own (pc) lv (.ref (G.1 14) :: st) (σ) := lc_get 14 5 17 (by decide) rfl lc_cX5 (by decide) rfl hl hd kk
theorem lc_g_msaved (hl : lc_fl own idx (TX5 19)) (hd : decode cc pc = .ok (.getfield idx, 3)) (kk : lc_V G Γ cc nL own (pc + 3) lv (.ref (G.1 25) :: st) (σ)) : lc_V G Γ cc nL own (pc) lv (.ref (G.1 14) :: st) (σ) := lc_get 14 5 19 (by decide) rfl lc_cX5 (by decide) rfl hl hd kk
theorem lc_g_mseed (hl : lc_fl own idx (TX5 18)) (hd : decode cc pc = .ok (.getfield idx, 3)) (kk : lc_V G Γ cc nL own (pc + 3) lv (.long (σ.2.2 0) :: st) (lc_w σ 2 x)) : lc_V G Γ cc nL own (pc) lv (.ref (G.1 14) :: st) (lc_w σ 2 x) := lc_get 14 5 18 (by decide) rfl lc_cX5 (by decide) rfl hl hd kk
theorem lc_p_mseed {v : Int64} (hl : lc_fl own idx (TX5 18)) (hd : decode cc pc = .ok (.putfield idx, 3)) (kk : lc_V G Γ cc nL own (pc + 3) lv (st) (lc_w (lc_ul σ 0 v) 2 x)) : lc_V G Γ cc nL own (pc) lv (.long v :: .ref (G.1 14) :: st) (lc_w σ 2 x) := lc_put (lc_w (lc_ul σ 0 v) 2 x) 14 5 18 tyX5 (ty := .long) tyX5_ok nmX5 (by decide) (fs := _) rfl lc_cX5 (by decide) rfl (by decide +kernel) rfl rfl (Nat.le_of_ble_eq_true rfl) rfl (lc_h3 _ (fun k hk hne => by
    match k, hk, hne with
    | 0, _, hne => first | rfl | exact absurd rfl hne
    | 1, _, hne => first | rfl | exact absurd rfl hne
    | 2, _, hne => first | rfl | exact absurd rfl hne
    | 3, _, hne => first | rfl | exact absurd rfl hne
    | 4, _, hne => first | rfl | exact absurd rfl hne
    | 5, _, hne => first | rfl | exact absurd rfl hne
    | 6, _, hne => first | rfl | exact absurd rfl hne
    | 7, _, hne => first | rfl | exact absurd rfl hne
    | 8, _, hne => first | rfl | exact absurd rfl hne
    | 9, _, hne => first | rfl | exact absurd rfl hne
    | 10, _, hne => first | rfl | exact absurd rfl hne
    | 11, _, hne => first | rfl | exact absurd rfl hne
    | 12, _, hne => first | rfl | exact absurd rfl hne
    | 13, _, hne => first | rfl | exact absurd rfl hne
    | 14, _, hne => first | rfl | exact absurd rfl hne
    | 15, _, hne => first | rfl | exact absurd rfl hne
    | 16, _, hne => first | rfl | exact absurd rfl hne
    | 17, _, hne => first | rfl | exact absurd rfl hne
    | 18, _, hne => first | rfl | exact absurd rfl hne
    | 19, _, hne => first | rfl | exact absurd rfl hne
    | 20, _, hne => first | rfl | exact absurd rfl hne
    | 21, _, hne => first | rfl | exact absurd rfl hne
    | 22, _, hne => first | rfl | exact absurd rfl hne
    | 23, _, hne => first | rfl | exact absurd rfl hne
    | 24, _, hne => first | rfl | exact absurd rfl hne
    | 25, _, hne => first | rfl | exact absurd rfl hne
    | k + 26, hk, _ => exact absurd hk (by omega)) (fun a b _ _ g hg => rfl)) hl hd kk
theorem lc_g_mh (hl : lc_fl own idx (TX5 22)) (hd : decode cc pc = .ok (.getfield idx, 3)) (kk : lc_V G Γ cc nL own (pc + 3) lv (.long (σ.2.2 1) :: st) (lc_w σ 2 x)) : lc_V G Γ cc nL own (pc) lv (.ref (G.1 14) :: st) (lc_w σ 2 x) := lc_get 14 5 22 (by decide) rfl lc_cX5 (by decide) rfl hl hd kk
theorem lc_p_mh {v : Int64} (hl : lc_fl own idx (TX5 22)) (hd : decode cc pc = .ok (.putfield idx, 3)) (kk : lc_V G Γ cc nL own (pc + 3) lv (st) (lc_w (lc_ul σ 1 v) 2 x)) : lc_V G Γ cc nL own (pc) lv (.long v :: .ref (G.1 14) :: st) (lc_w σ 2 x) := lc_put (lc_w (lc_ul σ 1 v) 2 x) 14 5 22 tyX5 (ty := .long) tyX5_ok nmX5 (by decide) (fs := _) rfl lc_cX5 (by decide) rfl (by decide +kernel) rfl rfl (Nat.le_of_ble_eq_true rfl) rfl (lc_h3 _ (fun k hk hne => by
    match k, hk, hne with
    | 0, _, hne => first | rfl | exact absurd rfl hne
    | 1, _, hne => first | rfl | exact absurd rfl hne
    | 2, _, hne => first | rfl | exact absurd rfl hne
    | 3, _, hne => first | rfl | exact absurd rfl hne
    | 4, _, hne => first | rfl | exact absurd rfl hne
    | 5, _, hne => first | rfl | exact absurd rfl hne
    | 6, _, hne => first | rfl | exact absurd rfl hne
    | 7, _, hne => first | rfl | exact absurd rfl hne
    | 8, _, hne => first | rfl | exact absurd rfl hne
    | 9, _, hne => first | rfl | exact absurd rfl hne
    | 10, _, hne => first | rfl | exact absurd rfl hne
    | 11, _, hne => first | rfl | exact absurd rfl hne
    | 12, _, hne => first | rfl | exact absurd rfl hne
    | 13, _, hne => first | rfl | exact absurd rfl hne
    | 14, _, hne => first | rfl | exact absurd rfl hne
    | 15, _, hne => first | rfl | exact absurd rfl hne
    | 16, _, hne => first | rfl | exact absurd rfl hne
    | 17, _, hne => first | rfl | exact absurd rfl hne
    | 18, _, hne => first | rfl | exact absurd rfl hne
    | 19, _, hne => first | rfl | exact absurd rfl hne
    | 20, _, hne => first | rfl | exact absurd rfl hne
    | 21, _, hne => first | rfl | exact absurd rfl hne
    | 22, _, hne => first | rfl | exact absurd rfl hne
    | 23, _, hne => first | rfl | exact absurd rfl hne
    | 24, _, hne => first | rfl | exact absurd rfl hne
    | 25, _, hne => first | rfl | exact absurd rfl hne
    | k + 26, hk, _ => exact absurd hk (by omega)) (fun a b _ _ g hg => rfl)) hl hd kk
theorem lc_gMSites (hl : lc_fl own idx (TX5 2)) (hd : decode cc pc = .ok (.getfield idx, 3)) (kk : lc_V G Γ cc nL own (pc + 3) lv (.int (x.1 7 0) :: st) (lc_w σ 2 x)) : lc_V G Γ cc nL own (pc) lv (.ref (G.1 14) :: st) (lc_w σ 2 x) := lc_get 14 5 2 (by decide) rfl lc_cX5 (by decide) rfl hl hd kk
theorem lc_pMSites {v : Int32} (hl : lc_fl own idx (TX5 2)) (hd : decode cc pc = .ok (.putfield idx, 3)) (kk : lc_V G Γ cc nL own (pc + 3) lv (st) (lc_w σ 2 (lc_cu x.1 7 0 v, x.2))) : lc_V G Γ cc nL own (pc) lv (.int v :: .ref (G.1 14) :: st) (lc_w σ 2 x) := lc_put (lc_w σ 2 (lc_cu x.1 7 0 v, x.2)) 14 5 2 tyX5 (ty := .int) tyX5_ok nmX5 (by decide) (fs := _) rfl lc_cX5 (by decide) rfl (by decide +kernel) rfl rfl (Nat.le_of_ble_eq_true rfl) rfl (lc_h3 _ (fun k hk hne => by
    match k, hk, hne with
    | 0, _, hne => first | rfl | exact absurd rfl hne
    | 1, _, hne => first | rfl | exact absurd rfl hne
    | 2, _, hne => first | rfl | exact absurd rfl hne
    | 3, _, hne => first | rfl | exact absurd rfl hne
    | 4, _, hne => first | rfl | exact absurd rfl hne
    | 5, _, hne => first | rfl | exact absurd rfl hne
    | 6, _, hne => first | rfl | exact absurd rfl hne
    | 7, _, hne => first | rfl | exact absurd rfl hne
    | 8, _, hne => first | rfl | exact absurd rfl hne
    | 9, _, hne => first | rfl | exact absurd rfl hne
    | 10, _, hne => first | rfl | exact absurd rfl hne
    | 11, _, hne => first | rfl | exact absurd rfl hne
    | 12, _, hne => first | rfl | exact absurd rfl hne
    | 13, _, hne => first | rfl | exact absurd rfl hne
    | 14, _, hne => first | rfl | exact absurd rfl hne
    | 15, _, hne => first | rfl | exact absurd rfl hne
    | 16, _, hne => first | rfl | exact absurd rfl hne
    | 17, _, hne => first | rfl | exact absurd rfl hne
    | 18, _, hne => first | rfl | exact absurd rfl hne
    | 19, _, hne => first | rfl | exact absurd rfl hne
    | 20, _, hne => first | rfl | exact absurd rfl hne
    | 21, _, hne => first | rfl | exact absurd rfl hne
    | 22, _, hne => first | rfl | exact absurd rfl hne
    | 23, _, hne => first | rfl | exact absurd rfl hne
    | 24, _, hne => first | rfl | exact absurd rfl hne
    | 25, _, hne => first | rfl | exact absurd rfl hne
    | k + 26, hk, _ => exact absurd hk (by omega)) (fun a b ha _ g hg => by
    have h2 : ¬ a = 2 := by omega
    simp [lc_w, h2])) hl hd kk
theorem lc_gMNow (hl : lc_fl own idx (TX5 4)) (hd : decode cc pc = .ok (.getfield idx, 3)) (kk : lc_V G Γ cc nL own (pc + 3) lv (.int (x.1 7 1) :: st) (lc_w σ 2 x)) : lc_V G Γ cc nL own (pc) lv (.ref (G.1 14) :: st) (lc_w σ 2 x) := lc_get 14 5 4 (by decide) rfl lc_cX5 (by decide) rfl hl hd kk
theorem lc_pMNow {v : Int32} (hl : lc_fl own idx (TX5 4)) (hd : decode cc pc = .ok (.putfield idx, 3)) (kk : lc_V G Γ cc nL own (pc + 3) lv (st) (lc_w σ 2 (lc_cu x.1 7 1 v, x.2))) : lc_V G Γ cc nL own (pc) lv (.int v :: .ref (G.1 14) :: st) (lc_w σ 2 x) := lc_put (lc_w σ 2 (lc_cu x.1 7 1 v, x.2)) 14 5 4 tyX5 (ty := .int) tyX5_ok nmX5 (by decide) (fs := _) rfl lc_cX5 (by decide) rfl (by decide +kernel) rfl rfl (Nat.le_of_ble_eq_true rfl) rfl (lc_h3 _ (fun k hk hne => by
    match k, hk, hne with
    | 0, _, hne => first | rfl | exact absurd rfl hne
    | 1, _, hne => first | rfl | exact absurd rfl hne
    | 2, _, hne => first | rfl | exact absurd rfl hne
    | 3, _, hne => first | rfl | exact absurd rfl hne
    | 4, _, hne => first | rfl | exact absurd rfl hne
    | 5, _, hne => first | rfl | exact absurd rfl hne
    | 6, _, hne => first | rfl | exact absurd rfl hne
    | 7, _, hne => first | rfl | exact absurd rfl hne
    | 8, _, hne => first | rfl | exact absurd rfl hne
    | 9, _, hne => first | rfl | exact absurd rfl hne
    | 10, _, hne => first | rfl | exact absurd rfl hne
    | 11, _, hne => first | rfl | exact absurd rfl hne
    | 12, _, hne => first | rfl | exact absurd rfl hne
    | 13, _, hne => first | rfl | exact absurd rfl hne
    | 14, _, hne => first | rfl | exact absurd rfl hne
    | 15, _, hne => first | rfl | exact absurd rfl hne
    | 16, _, hne => first | rfl | exact absurd rfl hne
    | 17, _, hne => first | rfl | exact absurd rfl hne
    | 18, _, hne => first | rfl | exact absurd rfl hne
    | 19, _, hne => first | rfl | exact absurd rfl hne
    | 20, _, hne => first | rfl | exact absurd rfl hne
    | 21, _, hne => first | rfl | exact absurd rfl hne
    | 22, _, hne => first | rfl | exact absurd rfl hne
    | 23, _, hne => first | rfl | exact absurd rfl hne
    | 24, _, hne => first | rfl | exact absurd rfl hne
    | 25, _, hne => first | rfl | exact absurd rfl hne
    | k + 26, hk, _ => exact absurd hk (by omega)) (fun a b ha _ g hg => by
    have h2 : ¬ a = 2 := by omega
    simp [lc_w, h2])) hl hd kk
theorem lc_gMOff (hl : lc_fl own idx (TX5 5)) (hd : decode cc pc = .ok (.getfield idx, 3)) (kk : lc_V G Γ cc nL own (pc + 3) lv (.int (x.1 7 2) :: st) (lc_w σ 2 x)) : lc_V G Γ cc nL own (pc) lv (.ref (G.1 14) :: st) (lc_w σ 2 x) := lc_get 14 5 5 (by decide) rfl lc_cX5 (by decide) rfl hl hd kk
theorem lc_pMOff {v : Int32} (hl : lc_fl own idx (TX5 5)) (hd : decode cc pc = .ok (.putfield idx, 3)) (kk : lc_V G Γ cc nL own (pc + 3) lv (st) (lc_w σ 2 (lc_cu x.1 7 2 v, x.2))) : lc_V G Γ cc nL own (pc) lv (.int v :: .ref (G.1 14) :: st) (lc_w σ 2 x) := lc_put (lc_w σ 2 (lc_cu x.1 7 2 v, x.2)) 14 5 5 tyX5 (ty := .int) tyX5_ok nmX5 (by decide) (fs := _) rfl lc_cX5 (by decide) rfl (by decide +kernel) rfl rfl (Nat.le_of_ble_eq_true rfl) rfl (lc_h3 _ (fun k hk hne => by
    match k, hk, hne with
    | 0, _, hne => first | rfl | exact absurd rfl hne
    | 1, _, hne => first | rfl | exact absurd rfl hne
    | 2, _, hne => first | rfl | exact absurd rfl hne
    | 3, _, hne => first | rfl | exact absurd rfl hne
    | 4, _, hne => first | rfl | exact absurd rfl hne
    | 5, _, hne => first | rfl | exact absurd rfl hne
    | 6, _, hne => first | rfl | exact absurd rfl hne
    | 7, _, hne => first | rfl | exact absurd rfl hne
    | 8, _, hne => first | rfl | exact absurd rfl hne
    | 9, _, hne => first | rfl | exact absurd rfl hne
    | 10, _, hne => first | rfl | exact absurd rfl hne
    | 11, _, hne => first | rfl | exact absurd rfl hne
    | 12, _, hne => first | rfl | exact absurd rfl hne
    | 13, _, hne => first | rfl | exact absurd rfl hne
    | 14, _, hne => first | rfl | exact absurd rfl hne
    | 15, _, hne => first | rfl | exact absurd rfl hne
    | 16, _, hne => first | rfl | exact absurd rfl hne
    | 17, _, hne => first | rfl | exact absurd rfl hne
    | 18, _, hne => first | rfl | exact absurd rfl hne
    | 19, _, hne => first | rfl | exact absurd rfl hne
    | 20, _, hne => first | rfl | exact absurd rfl hne
    | 21, _, hne => first | rfl | exact absurd rfl hne
    | 22, _, hne => first | rfl | exact absurd rfl hne
    | 23, _, hne => first | rfl | exact absurd rfl hne
    | 24, _, hne => first | rfl | exact absurd rfl hne
    | 25, _, hne => first | rfl | exact absurd rfl hne
    | k + 26, hk, _ => exact absurd hk (by omega)) (fun a b ha _ g hg => by
    have h2 : ¬ a = 2 := by omega
    simp [lc_w, h2])) hl hd kk
theorem lc_gMTra (hl : lc_fl own idx (TX5 6)) (hd : decode cc pc = .ok (.getfield idx, 3)) (kk : lc_V G Γ cc nL own (pc + 3) lv (.int (σ.2.1 2 0 + x.2.1) :: st) (lc_w σ 2 x)) : lc_V G Γ cc nL own (pc) lv (.ref (G.1 14) :: st) (lc_w σ 2 x) := lc_get 14 5 6 (by decide) rfl lc_cX5 (by decide) rfl hl hd kk
theorem lc_pMTra {v : Int32} (t : Int32) (hv : v = σ.2.1 2 0 + t) (hl : lc_fl own idx (TX5 6)) (hd : decode cc pc = .ok (.putfield idx, 3)) (kk : lc_V G Γ cc nL own (pc + 3) lv (st) (lc_w σ 2 (x.1, t, x.2.2.1, x.2.2.2))) : lc_V G Γ cc nL own (pc) lv (.int v :: .ref (G.1 14) :: st) (lc_w σ 2 x) := by
  subst hv
  exact lc_put (lc_w σ 2 (x.1, t, x.2.2.1, x.2.2.2)) 14 5 6 tyX5 (ty := .int) tyX5_ok nmX5 (by decide) (fs := _) rfl lc_cX5 (by decide) rfl (by decide +kernel) rfl rfl (Nat.le_of_ble_eq_true rfl) rfl (lc_h3 _ (fun k hk hne => by
    match k, hk, hne with
    | 0, _, hne => first | rfl | exact absurd rfl hne
    | 1, _, hne => first | rfl | exact absurd rfl hne
    | 2, _, hne => first | rfl | exact absurd rfl hne
    | 3, _, hne => first | rfl | exact absurd rfl hne
    | 4, _, hne => first | rfl | exact absurd rfl hne
    | 5, _, hne => first | rfl | exact absurd rfl hne
    | 6, _, hne => first | rfl | exact absurd rfl hne
    | 7, _, hne => first | rfl | exact absurd rfl hne
    | 8, _, hne => first | rfl | exact absurd rfl hne
    | 9, _, hne => first | rfl | exact absurd rfl hne
    | 10, _, hne => first | rfl | exact absurd rfl hne
    | 11, _, hne => first | rfl | exact absurd rfl hne
    | 12, _, hne => first | rfl | exact absurd rfl hne
    | 13, _, hne => first | rfl | exact absurd rfl hne
    | 14, _, hne => first | rfl | exact absurd rfl hne
    | 15, _, hne => first | rfl | exact absurd rfl hne
    | 16, _, hne => first | rfl | exact absurd rfl hne
    | 17, _, hne => first | rfl | exact absurd rfl hne
    | 18, _, hne => first | rfl | exact absurd rfl hne
    | 19, _, hne => first | rfl | exact absurd rfl hne
    | 20, _, hne => first | rfl | exact absurd rfl hne
    | 21, _, hne => first | rfl | exact absurd rfl hne
    | 22, _, hne => first | rfl | exact absurd rfl hne
    | 23, _, hne => first | rfl | exact absurd rfl hne
    | 24, _, hne => first | rfl | exact absurd rfl hne
    | 25, _, hne => first | rfl | exact absurd rfl hne
    | k + 26, hk, _ => exact absurd hk (by omega)) (fun a b ha _ g hg => by
    have h2 : ¬ a = 2 := by omega
    simp [lc_w, h2])) hl hd kk
theorem lc_gMWok (hl : lc_fl own idx (TX5 7)) (hd : decode cc pc = .ok (.getfield idx, 3)) (kk : lc_V G Γ cc nL own (pc + 3) lv (.int (σ.2.1 2 1 + x.2.2.1) :: st) (lc_w σ 2 x)) : lc_V G Γ cc nL own (pc) lv (.ref (G.1 14) :: st) (lc_w σ 2 x) := lc_get 14 5 7 (by decide) rfl lc_cX5 (by decide) rfl hl hd kk
theorem lc_pMWok {v : Int32} (t : Int32) (hv : v = σ.2.1 2 1 + t) (hl : lc_fl own idx (TX5 7)) (hd : decode cc pc = .ok (.putfield idx, 3)) (kk : lc_V G Γ cc nL own (pc + 3) lv (st) (lc_w σ 2 (x.1, x.2.1, t, x.2.2.2))) : lc_V G Γ cc nL own (pc) lv (.int v :: .ref (G.1 14) :: st) (lc_w σ 2 x) := by
  subst hv
  exact lc_put (lc_w σ 2 (x.1, x.2.1, t, x.2.2.2)) 14 5 7 tyX5 (ty := .int) tyX5_ok nmX5 (by decide) (fs := _) rfl lc_cX5 (by decide) rfl (by decide +kernel) rfl rfl (Nat.le_of_ble_eq_true rfl) rfl (lc_h3 _ (fun k hk hne => by
    match k, hk, hne with
    | 0, _, hne => first | rfl | exact absurd rfl hne
    | 1, _, hne => first | rfl | exact absurd rfl hne
    | 2, _, hne => first | rfl | exact absurd rfl hne
    | 3, _, hne => first | rfl | exact absurd rfl hne
    | 4, _, hne => first | rfl | exact absurd rfl hne
    | 5, _, hne => first | rfl | exact absurd rfl hne
    | 6, _, hne => first | rfl | exact absurd rfl hne
    | 7, _, hne => first | rfl | exact absurd rfl hne
    | 8, _, hne => first | rfl | exact absurd rfl hne
    | 9, _, hne => first | rfl | exact absurd rfl hne
    | 10, _, hne => first | rfl | exact absurd rfl hne
    | 11, _, hne => first | rfl | exact absurd rfl hne
    | 12, _, hne => first | rfl | exact absurd rfl hne
    | 13, _, hne => first | rfl | exact absurd rfl hne
    | 14, _, hne => first | rfl | exact absurd rfl hne
    | 15, _, hne => first | rfl | exact absurd rfl hne
    | 16, _, hne => first | rfl | exact absurd rfl hne
    | 17, _, hne => first | rfl | exact absurd rfl hne
    | 18, _, hne => first | rfl | exact absurd rfl hne
    | 19, _, hne => first | rfl | exact absurd rfl hne
    | 20, _, hne => first | rfl | exact absurd rfl hne
    | 21, _, hne => first | rfl | exact absurd rfl hne
    | 22, _, hne => first | rfl | exact absurd rfl hne
    | 23, _, hne => first | rfl | exact absurd rfl hne
    | 24, _, hne => first | rfl | exact absurd rfl hne
    | 25, _, hne => first | rfl | exact absurd rfl hne
    | k + 26, hk, _ => exact absurd hk (by omega)) (fun a b ha _ g hg => by
    have h2 : ¬ a = 2 := by omega
    simp [lc_w, h2])) hl hd kk
theorem lc_gMGon (hl : lc_fl own idx (TX5 8)) (hd : decode cc pc = .ok (.getfield idx, 3)) (kk : lc_V G Γ cc nL own (pc + 3) lv (.int (σ.2.1 2 2 + x.2.2.2) :: st) (lc_w σ 2 x)) : lc_V G Γ cc nL own (pc) lv (.ref (G.1 14) :: st) (lc_w σ 2 x) := lc_get 14 5 8 (by decide) rfl lc_cX5 (by decide) rfl hl hd kk
theorem lc_pMGon {v : Int32} (t : Int32) (hv : v = σ.2.1 2 2 + t) (hl : lc_fl own idx (TX5 8)) (hd : decode cc pc = .ok (.putfield idx, 3)) (kk : lc_V G Γ cc nL own (pc + 3) lv (st) (lc_w σ 2 (x.1, x.2.1, x.2.2.1, t))) : lc_V G Γ cc nL own (pc) lv (.int v :: .ref (G.1 14) :: st) (lc_w σ 2 x) := by
  subst hv
  exact lc_put (lc_w σ 2 (x.1, x.2.1, x.2.2.1, t)) 14 5 8 tyX5 (ty := .int) tyX5_ok nmX5 (by decide) (fs := _) rfl lc_cX5 (by decide) rfl (by decide +kernel) rfl rfl (Nat.le_of_ble_eq_true rfl) rfl (lc_h3 _ (fun k hk hne => by
    match k, hk, hne with
    | 0, _, hne => first | rfl | exact absurd rfl hne
    | 1, _, hne => first | rfl | exact absurd rfl hne
    | 2, _, hne => first | rfl | exact absurd rfl hne
    | 3, _, hne => first | rfl | exact absurd rfl hne
    | 4, _, hne => first | rfl | exact absurd rfl hne
    | 5, _, hne => first | rfl | exact absurd rfl hne
    | 6, _, hne => first | rfl | exact absurd rfl hne
    | 7, _, hne => first | rfl | exact absurd rfl hne
    | 8, _, hne => first | rfl | exact absurd rfl hne
    | 9, _, hne => first | rfl | exact absurd rfl hne
    | 10, _, hne => first | rfl | exact absurd rfl hne
    | 11, _, hne => first | rfl | exact absurd rfl hne
    | 12, _, hne => first | rfl | exact absurd rfl hne
    | 13, _, hne => first | rfl | exact absurd rfl hne
    | 14, _, hne => first | rfl | exact absurd rfl hne
    | 15, _, hne => first | rfl | exact absurd rfl hne
    | 16, _, hne => first | rfl | exact absurd rfl hne
    | 17, _, hne => first | rfl | exact absurd rfl hne
    | 18, _, hne => first | rfl | exact absurd rfl hne
    | 19, _, hne => first | rfl | exact absurd rfl hne
    | 20, _, hne => first | rfl | exact absurd rfl hne
    | 21, _, hne => first | rfl | exact absurd rfl hne
    | 22, _, hne => first | rfl | exact absurd rfl hne
    | 23, _, hne => first | rfl | exact absurd rfl hne
    | 24, _, hne => first | rfl | exact absurd rfl hne
    | 25, _, hne => first | rfl | exact absurd rfl hne
    | k + 26, hk, _ => exact absurd hk (by omega)) (fun a b ha _ g hg => by
    have h2 : ¬ a = 2 := by omega
    simp [lc_w, h2])) hl hd kk
theorem lc_s_codes (i : Nat) {z v : Int32} (hx : z = nI i) (hi : i < 6) (hd : decode cc pc = .ok (.iastore, 1)) (kk : lc_V G Γ cc nL own (pc + 1) lv (st) (lc_uo σ 9 i v)) : lc_V G Γ cc nL own (pc) lv (.int v :: .int z :: .ref (G.1 2) :: st) (σ) := lc_iast (lc_uo σ 9 i v) 2 i (by decide) (n := 6) (f := σ.2.1 9) rfl hx hi (by decide) (by show lc_aE G 6 _ = _; rw [lc_uo_same]) (lc_h3 _ (fun k hk hne => by
    match k, hk, hne with
    | 0, _, hne => first | rfl | exact absurd rfl hne
    | 1, _, hne => first | rfl | exact absurd rfl hne
    | 2, _, hne => first | rfl | exact absurd rfl hne
    | 3, _, hne => first | rfl | exact absurd rfl hne
    | 4, _, hne => first | rfl | exact absurd rfl hne
    | 5, _, hne => first | rfl | exact absurd rfl hne
    | 6, _, hne => first | rfl | exact absurd rfl hne
    | 7, _, hne => first | rfl | exact absurd rfl hne
    | 8, _, hne => first | rfl | exact absurd rfl hne
    | 9, _, hne => first | rfl | exact absurd rfl hne
    | 10, _, hne => first | rfl | exact absurd rfl hne
    | 11, _, hne => first | rfl | exact absurd rfl hne
    | 12, _, hne => first | rfl | exact absurd rfl hne
    | 13, _, hne => first | rfl | exact absurd rfl hne
    | 14, _, hne => first | rfl | exact absurd rfl hne
    | 15, _, hne => first | rfl | exact absurd rfl hne
    | 16, _, hne => first | rfl | exact absurd rfl hne
    | 17, _, hne => first | rfl | exact absurd rfl hne
    | 18, _, hne => first | rfl | exact absurd rfl hne
    | 19, _, hne => first | rfl | exact absurd rfl hne
    | 20, _, hne => first | rfl | exact absurd rfl hne
    | 21, _, hne => first | rfl | exact absurd rfl hne
    | 22, _, hne => first | rfl | exact absurd rfl hne
    | 23, _, hne => first | rfl | exact absurd rfl hne
    | 24, _, hne => first | rfl | exact absurd rfl hne
    | 25, _, hne => first | rfl | exact absurd rfl hne
    | k + 26, hk, _ => exact absurd hk (by omega)) (fun a b _ _ g hg => rfl)) hd kk
theorem lc_sw_codes (j i : Nat) {z v : Int32} (hj : j < 3) (hx : z = nI i) (hi : i < 6) (hd : decode cc pc = .ok (.iastore, 1)) (kk : lc_V G Γ cc nL own (pc + 1) lv (st) (lc_w (lc_uo σ 9 i v) j x)) : lc_V G Γ cc nL own (pc) lv (.int v :: .int z :: .ref (G.1 2) :: st) (lc_w σ j x) := lc_s_codes i hx hi hd (by rw [lc_uo_w σ i v x (show 9 ≠ j by omega)]; exact kk)
theorem lc_s_pos0 (i : Nat) {z v : Int32} (hx : z = nI i) (hi : i < 6) (hd : decode cc pc = .ok (.iastore, 1)) (kk : lc_V G Γ cc nL own (pc + 1) lv (st) (lc_uo σ 6 i v)) : lc_V G Γ cc nL own (pc) lv (.int v :: .int z :: .ref (G.1 8) :: st) (σ) := lc_iast (lc_uo σ 6 i v) 8 i (by decide) (n := 6) (f := σ.2.1 6) rfl hx hi (by decide) (by show lc_aE G 6 _ = _; rw [lc_uo_same]) (lc_h3 _ (fun k hk hne => by
    match k, hk, hne with
    | 0, _, hne => first | rfl | exact absurd rfl hne
    | 1, _, hne => first | rfl | exact absurd rfl hne
    | 2, _, hne => first | rfl | exact absurd rfl hne
    | 3, _, hne => first | rfl | exact absurd rfl hne
    | 4, _, hne => first | rfl | exact absurd rfl hne
    | 5, _, hne => first | rfl | exact absurd rfl hne
    | 6, _, hne => first | rfl | exact absurd rfl hne
    | 7, _, hne => first | rfl | exact absurd rfl hne
    | 8, _, hne => first | rfl | exact absurd rfl hne
    | 9, _, hne => first | rfl | exact absurd rfl hne
    | 10, _, hne => first | rfl | exact absurd rfl hne
    | 11, _, hne => first | rfl | exact absurd rfl hne
    | 12, _, hne => first | rfl | exact absurd rfl hne
    | 13, _, hne => first | rfl | exact absurd rfl hne
    | 14, _, hne => first | rfl | exact absurd rfl hne
    | 15, _, hne => first | rfl | exact absurd rfl hne
    | 16, _, hne => first | rfl | exact absurd rfl hne
    | 17, _, hne => first | rfl | exact absurd rfl hne
    | 18, _, hne => first | rfl | exact absurd rfl hne
    | 19, _, hne => first | rfl | exact absurd rfl hne
    | 20, _, hne => first | rfl | exact absurd rfl hne
    | 21, _, hne => first | rfl | exact absurd rfl hne
    | 22, _, hne => first | rfl | exact absurd rfl hne
    | 23, _, hne => first | rfl | exact absurd rfl hne
    | 24, _, hne => first | rfl | exact absurd rfl hne
    | 25, _, hne => first | rfl | exact absurd rfl hne
    | k + 26, hk, _ => exact absurd hk (by omega)) (fun a b _ _ g hg => rfl)) hd kk
theorem lc_sw_pos0 (j i : Nat) {z v : Int32} (hj : j < 3) (hx : z = nI i) (hi : i < 6) (hd : decode cc pc = .ok (.iastore, 1)) (kk : lc_V G Γ cc nL own (pc + 1) lv (st) (lc_w (lc_uo σ 6 i v) j x)) : lc_V G Γ cc nL own (pc) lv (.int v :: .int z :: .ref (G.1 8) :: st) (lc_w σ j x) := lc_s_pos0 i hx hi hd (by rw [lc_uo_w σ i v x (show 6 ≠ j by omega)]; exact kk)
theorem lc_s_pos1 (i : Nat) {z v : Int32} (hx : z = nI i) (hi : i < 6) (hd : decode cc pc = .ok (.iastore, 1)) (kk : lc_V G Γ cc nL own (pc + 1) lv (st) (lc_uo σ 7 i v)) : lc_V G Γ cc nL own (pc) lv (.int v :: .int z :: .ref (G.1 9) :: st) (σ) := lc_iast (lc_uo σ 7 i v) 9 i (by decide) (n := 6) (f := σ.2.1 7) rfl hx hi (by decide) (by show lc_aE G 6 _ = _; rw [lc_uo_same]) (lc_h3 _ (fun k hk hne => by
    match k, hk, hne with
    | 0, _, hne => first | rfl | exact absurd rfl hne
    | 1, _, hne => first | rfl | exact absurd rfl hne
    | 2, _, hne => first | rfl | exact absurd rfl hne
    | 3, _, hne => first | rfl | exact absurd rfl hne
    | 4, _, hne => first | rfl | exact absurd rfl hne
    | 5, _, hne => first | rfl | exact absurd rfl hne
    | 6, _, hne => first | rfl | exact absurd rfl hne
    | 7, _, hne => first | rfl | exact absurd rfl hne
    | 8, _, hne => first | rfl | exact absurd rfl hne
    | 9, _, hne => first | rfl | exact absurd rfl hne
    | 10, _, hne => first | rfl | exact absurd rfl hne
    | 11, _, hne => first | rfl | exact absurd rfl hne
    | 12, _, hne => first | rfl | exact absurd rfl hne
    | 13, _, hne => first | rfl | exact absurd rfl hne
    | 14, _, hne => first | rfl | exact absurd rfl hne
    | 15, _, hne => first | rfl | exact absurd rfl hne
    | 16, _, hne => first | rfl | exact absurd rfl hne
    | 17, _, hne => first | rfl | exact absurd rfl hne
    | 18, _, hne => first | rfl | exact absurd rfl hne
    | 19, _, hne => first | rfl | exact absurd rfl hne
    | 20, _, hne => first | rfl | exact absurd rfl hne
    | 21, _, hne => first | rfl | exact absurd rfl hne
    | 22, _, hne => first | rfl | exact absurd rfl hne
    | 23, _, hne => first | rfl | exact absurd rfl hne
    | 24, _, hne => first | rfl | exact absurd rfl hne
    | 25, _, hne => first | rfl | exact absurd rfl hne
    | k + 26, hk, _ => exact absurd hk (by omega)) (fun a b _ _ g hg => rfl)) hd kk
theorem lc_sw_pos1 (j i : Nat) {z v : Int32} (hj : j < 3) (hx : z = nI i) (hi : i < 6) (hd : decode cc pc = .ok (.iastore, 1)) (kk : lc_V G Γ cc nL own (pc + 1) lv (st) (lc_w (lc_uo σ 7 i v) j x)) : lc_V G Γ cc nL own (pc) lv (.int v :: .int z :: .ref (G.1 9) :: st) (lc_w σ j x) := lc_s_pos1 i hx hi hd (by rw [lc_uo_w σ i v x (show 7 ≠ j by omega)]; exact kk)
theorem lc_s_lat0 (i : Nat) {z v : Int32} (hx : z = nI i) (hi : i < 4) (hd : decode cc pc = .ok (.iastore, 1)) (kk : lc_V G Γ cc nL own (pc + 1) lv (st) (lc_uo σ 3 i v)) : lc_V G Γ cc nL own (pc) lv (.int v :: .int z :: .ref (G.1 12) :: st) (σ) := lc_iast (lc_uo σ 3 i v) 12 i (by decide) (n := 4) (f := σ.2.1 3) rfl hx hi (by decide) (by show lc_aE G 4 _ = _; rw [lc_uo_same]) (lc_h3 _ (fun k hk hne => by
    match k, hk, hne with
    | 0, _, hne => first | rfl | exact absurd rfl hne
    | 1, _, hne => first | rfl | exact absurd rfl hne
    | 2, _, hne => first | rfl | exact absurd rfl hne
    | 3, _, hne => first | rfl | exact absurd rfl hne
    | 4, _, hne => first | rfl | exact absurd rfl hne
    | 5, _, hne => first | rfl | exact absurd rfl hne
    | 6, _, hne => first | rfl | exact absurd rfl hne
    | 7, _, hne => first | rfl | exact absurd rfl hne
    | 8, _, hne => first | rfl | exact absurd rfl hne
    | 9, _, hne => first | rfl | exact absurd rfl hne
    | 10, _, hne => first | rfl | exact absurd rfl hne
    | 11, _, hne => first | rfl | exact absurd rfl hne
    | 12, _, hne => first | rfl | exact absurd rfl hne
    | 13, _, hne => first | rfl | exact absurd rfl hne
    | 14, _, hne => first | rfl | exact absurd rfl hne
    | 15, _, hne => first | rfl | exact absurd rfl hne
    | 16, _, hne => first | rfl | exact absurd rfl hne
    | 17, _, hne => first | rfl | exact absurd rfl hne
    | 18, _, hne => first | rfl | exact absurd rfl hne
    | 19, _, hne => first | rfl | exact absurd rfl hne
    | 20, _, hne => first | rfl | exact absurd rfl hne
    | 21, _, hne => first | rfl | exact absurd rfl hne
    | 22, _, hne => first | rfl | exact absurd rfl hne
    | 23, _, hne => first | rfl | exact absurd rfl hne
    | 24, _, hne => first | rfl | exact absurd rfl hne
    | 25, _, hne => first | rfl | exact absurd rfl hne
    | k + 26, hk, _ => exact absurd hk (by omega)) (fun a b _ _ g hg => rfl)) hd kk
theorem lc_sw_lat0 (j i : Nat) {z v : Int32} (hj : j < 3) (hx : z = nI i) (hi : i < 4) (hd : decode cc pc = .ok (.iastore, 1)) (kk : lc_V G Γ cc nL own (pc + 1) lv (st) (lc_w (lc_uo σ 3 i v) j x)) : lc_V G Γ cc nL own (pc) lv (.int v :: .int z :: .ref (G.1 12) :: st) (lc_w σ j x) := lc_s_lat0 i hx hi hd (by rw [lc_uo_w σ i v x (show 3 ≠ j by omega)]; exact kk)
theorem lc_s_lat1 (i : Nat) {z v : Int32} (hx : z = nI i) (hi : i < 4) (hd : decode cc pc = .ok (.iastore, 1)) (kk : lc_V G Γ cc nL own (pc + 1) lv (st) (lc_uo σ 4 i v)) : lc_V G Γ cc nL own (pc) lv (.int v :: .int z :: .ref (G.1 13) :: st) (σ) := lc_iast (lc_uo σ 4 i v) 13 i (by decide) (n := 4) (f := σ.2.1 4) rfl hx hi (by decide) (by show lc_aE G 4 _ = _; rw [lc_uo_same]) (lc_h3 _ (fun k hk hne => by
    match k, hk, hne with
    | 0, _, hne => first | rfl | exact absurd rfl hne
    | 1, _, hne => first | rfl | exact absurd rfl hne
    | 2, _, hne => first | rfl | exact absurd rfl hne
    | 3, _, hne => first | rfl | exact absurd rfl hne
    | 4, _, hne => first | rfl | exact absurd rfl hne
    | 5, _, hne => first | rfl | exact absurd rfl hne
    | 6, _, hne => first | rfl | exact absurd rfl hne
    | 7, _, hne => first | rfl | exact absurd rfl hne
    | 8, _, hne => first | rfl | exact absurd rfl hne
    | 9, _, hne => first | rfl | exact absurd rfl hne
    | 10, _, hne => first | rfl | exact absurd rfl hne
    | 11, _, hne => first | rfl | exact absurd rfl hne
    | 12, _, hne => first | rfl | exact absurd rfl hne
    | 13, _, hne => first | rfl | exact absurd rfl hne
    | 14, _, hne => first | rfl | exact absurd rfl hne
    | 15, _, hne => first | rfl | exact absurd rfl hne
    | 16, _, hne => first | rfl | exact absurd rfl hne
    | 17, _, hne => first | rfl | exact absurd rfl hne
    | 18, _, hne => first | rfl | exact absurd rfl hne
    | 19, _, hne => first | rfl | exact absurd rfl hne
    | 20, _, hne => first | rfl | exact absurd rfl hne
    | 21, _, hne => first | rfl | exact absurd rfl hne
    | 22, _, hne => first | rfl | exact absurd rfl hne
    | 23, _, hne => first | rfl | exact absurd rfl hne
    | 24, _, hne => first | rfl | exact absurd rfl hne
    | 25, _, hne => first | rfl | exact absurd rfl hne
    | k + 26, hk, _ => exact absurd hk (by omega)) (fun a b _ _ g hg => rfl)) hd kk
theorem lc_sw_lat1 (j i : Nat) {z v : Int32} (hj : j < 3) (hx : z = nI i) (hi : i < 4) (hd : decode cc pc = .ok (.iastore, 1)) (kk : lc_V G Γ cc nL own (pc + 1) lv (st) (lc_w (lc_uo σ 4 i v) j x)) : lc_V G Γ cc nL own (pc) lv (.int v :: .int z :: .ref (G.1 13) :: st) (lc_w σ j x) := lc_s_lat1 i hx hi hd (by rw [lc_uo_w σ i v x (show 4 ≠ j by omega)]; exact kk)
theorem lc_s_mpage (i : Nat) {z v : Int32} (hx : z = nI i) (hi : i < 6) (hd : decode cc pc = .ok (.iastore, 1)) (kk : lc_V G Γ cc nL own (pc + 1) lv (st) (lc_uo σ 11 i v)) : lc_V G Γ cc nL own (pc) lv (.int v :: .int z :: .ref (G.1 15) :: st) (σ) := lc_iast (lc_uo σ 11 i v) 15 i (by decide) (n := 6) (f := σ.2.1 11) rfl hx hi (by decide) (by show lc_aE G 6 _ = _; rw [lc_uo_same]) (lc_h3 _ (fun k hk hne => by
    match k, hk, hne with
    | 0, _, hne => first | rfl | exact absurd rfl hne
    | 1, _, hne => first | rfl | exact absurd rfl hne
    | 2, _, hne => first | rfl | exact absurd rfl hne
    | 3, _, hne => first | rfl | exact absurd rfl hne
    | 4, _, hne => first | rfl | exact absurd rfl hne
    | 5, _, hne => first | rfl | exact absurd rfl hne
    | 6, _, hne => first | rfl | exact absurd rfl hne
    | 7, _, hne => first | rfl | exact absurd rfl hne
    | 8, _, hne => first | rfl | exact absurd rfl hne
    | 9, _, hne => first | rfl | exact absurd rfl hne
    | 10, _, hne => first | rfl | exact absurd rfl hne
    | 11, _, hne => first | rfl | exact absurd rfl hne
    | 12, _, hne => first | rfl | exact absurd rfl hne
    | 13, _, hne => first | rfl | exact absurd rfl hne
    | 14, _, hne => first | rfl | exact absurd rfl hne
    | 15, _, hne => first | rfl | exact absurd rfl hne
    | 16, _, hne => first | rfl | exact absurd rfl hne
    | 17, _, hne => first | rfl | exact absurd rfl hne
    | 18, _, hne => first | rfl | exact absurd rfl hne
    | 19, _, hne => first | rfl | exact absurd rfl hne
    | 20, _, hne => first | rfl | exact absurd rfl hne
    | 21, _, hne => first | rfl | exact absurd rfl hne
    | 22, _, hne => first | rfl | exact absurd rfl hne
    | 23, _, hne => first | rfl | exact absurd rfl hne
    | 24, _, hne => first | rfl | exact absurd rfl hne
    | 25, _, hne => first | rfl | exact absurd rfl hne
    | k + 26, hk, _ => exact absurd hk (by omega)) (fun a b _ _ g hg => rfl)) hd kk
theorem lc_sw_mpage (j i : Nat) {z v : Int32} (hj : j < 3) (hx : z = nI i) (hi : i < 6) (hd : decode cc pc = .ok (.iastore, 1)) (kk : lc_V G Γ cc nL own (pc + 1) lv (st) (lc_w (lc_uo σ 11 i v) j x)) : lc_V G Γ cc nL own (pc) lv (.int v :: .int z :: .ref (G.1 15) :: st) (lc_w σ j x) := lc_s_mpage i hx hi hd (by rw [lc_uo_w σ i v x (show 11 ≠ j by omega)]; exact kk)
theorem lc_s_mpos (i : Nat) {z v : Int32} (hx : z = nI i) (hi : i < 6) (hd : decode cc pc = .ok (.iastore, 1)) (kk : lc_V G Γ cc nL own (pc + 1) lv (st) (lc_uo σ 8 i v)) : lc_V G Γ cc nL own (pc) lv (.int v :: .int z :: .ref (G.1 16) :: st) (σ) := lc_iast (lc_uo σ 8 i v) 16 i (by decide) (n := 6) (f := σ.2.1 8) rfl hx hi (by decide) (by show lc_aE G 6 _ = _; rw [lc_uo_same]) (lc_h3 _ (fun k hk hne => by
    match k, hk, hne with
    | 0, _, hne => first | rfl | exact absurd rfl hne
    | 1, _, hne => first | rfl | exact absurd rfl hne
    | 2, _, hne => first | rfl | exact absurd rfl hne
    | 3, _, hne => first | rfl | exact absurd rfl hne
    | 4, _, hne => first | rfl | exact absurd rfl hne
    | 5, _, hne => first | rfl | exact absurd rfl hne
    | 6, _, hne => first | rfl | exact absurd rfl hne
    | 7, _, hne => first | rfl | exact absurd rfl hne
    | 8, _, hne => first | rfl | exact absurd rfl hne
    | 9, _, hne => first | rfl | exact absurd rfl hne
    | 10, _, hne => first | rfl | exact absurd rfl hne
    | 11, _, hne => first | rfl | exact absurd rfl hne
    | 12, _, hne => first | rfl | exact absurd rfl hne
    | 13, _, hne => first | rfl | exact absurd rfl hne
    | 14, _, hne => first | rfl | exact absurd rfl hne
    | 15, _, hne => first | rfl | exact absurd rfl hne
    | 16, _, hne => first | rfl | exact absurd rfl hne
    | 17, _, hne => first | rfl | exact absurd rfl hne
    | 18, _, hne => first | rfl | exact absurd rfl hne
    | 19, _, hne => first | rfl | exact absurd rfl hne
    | 20, _, hne => first | rfl | exact absurd rfl hne
    | 21, _, hne => first | rfl | exact absurd rfl hne
    | 22, _, hne => first | rfl | exact absurd rfl hne
    | 23, _, hne => first | rfl | exact absurd rfl hne
    | 24, _, hne => first | rfl | exact absurd rfl hne
    | 25, _, hne => first | rfl | exact absurd rfl hne
    | k + 26, hk, _ => exact absurd hk (by omega)) (fun a b _ _ g hg => rfl)) hd kk
theorem lc_sw_mpos (j i : Nat) {z v : Int32} (hj : j < 3) (hx : z = nI i) (hi : i < 6) (hd : decode cc pc = .ok (.iastore, 1)) (kk : lc_V G Γ cc nL own (pc + 1) lv (st) (lc_w (lc_uo σ 8 i v) j x)) : lc_V G Γ cc nL own (pc) lv (.int v :: .int z :: .ref (G.1 16) :: st) (lc_w σ j x) := lc_s_mpos i hx hi hd (by rw [lc_uo_w σ i v x (show 8 ≠ j by omega)]; exact kk)
theorem lc_s_mlatest (i : Nat) {z v : Int32} (hx : z = nI i) (hi : i < 4) (hd : decode cc pc = .ok (.iastore, 1)) (kk : lc_V G Γ cc nL own (pc + 1) lv (st) (lc_uo σ 5 i v)) : lc_V G Γ cc nL own (pc) lv (.int v :: .int z :: .ref (G.1 24) :: st) (σ) := lc_iast (lc_uo σ 5 i v) 24 i (by decide) (n := 4) (f := σ.2.1 5) rfl hx hi (by decide) (by show lc_aE G 4 _ = _; rw [lc_uo_same]) (lc_h3 _ (fun k hk hne => by
    match k, hk, hne with
    | 0, _, hne => first | rfl | exact absurd rfl hne
    | 1, _, hne => first | rfl | exact absurd rfl hne
    | 2, _, hne => first | rfl | exact absurd rfl hne
    | 3, _, hne => first | rfl | exact absurd rfl hne
    | 4, _, hne => first | rfl | exact absurd rfl hne
    | 5, _, hne => first | rfl | exact absurd rfl hne
    | 6, _, hne => first | rfl | exact absurd rfl hne
    | 7, _, hne => first | rfl | exact absurd rfl hne
    | 8, _, hne => first | rfl | exact absurd rfl hne
    | 9, _, hne => first | rfl | exact absurd rfl hne
    | 10, _, hne => first | rfl | exact absurd rfl hne
    | 11, _, hne => first | rfl | exact absurd rfl hne
    | 12, _, hne => first | rfl | exact absurd rfl hne
    | 13, _, hne => first | rfl | exact absurd rfl hne
    | 14, _, hne => first | rfl | exact absurd rfl hne
    | 15, _, hne => first | rfl | exact absurd rfl hne
    | 16, _, hne => first | rfl | exact absurd rfl hne
    | 17, _, hne => first | rfl | exact absurd rfl hne
    | 18, _, hne => first | rfl | exact absurd rfl hne
    | 19, _, hne => first | rfl | exact absurd rfl hne
    | 20, _, hne => first | rfl | exact absurd rfl hne
    | 21, _, hne => first | rfl | exact absurd rfl hne
    | 22, _, hne => first | rfl | exact absurd rfl hne
    | 23, _, hne => first | rfl | exact absurd rfl hne
    | 24, _, hne => first | rfl | exact absurd rfl hne
    | 25, _, hne => first | rfl | exact absurd rfl hne
    | k + 26, hk, _ => exact absurd hk (by omega)) (fun a b _ _ g hg => rfl)) hd kk
theorem lc_sw_mlatest (j i : Nat) {z v : Int32} (hj : j < 3) (hx : z = nI i) (hi : i < 4) (hd : decode cc pc = .ok (.iastore, 1)) (kk : lc_V G Γ cc nL own (pc + 1) lv (st) (lc_w (lc_uo σ 5 i v) j x)) : lc_V G Γ cc nL own (pc) lv (.int v :: .int z :: .ref (G.1 24) :: st) (lc_w σ j x) := lc_s_mlatest i hx hi hd (by rw [lc_uo_w σ i v x (show 5 ≠ j by omega)]; exact kk)
theorem lc_s_msaved (i : Nat) {z v : Int32} (hx : z = nI i) (hi : i < 148) (hd : decode cc pc = .ok (.iastore, 1)) (kk : lc_V G Γ cc nL own (pc + 1) lv (st) (lc_uo σ 13 i v)) : lc_V G Γ cc nL own (pc) lv (.int v :: .int z :: .ref (G.1 25) :: st) (σ) := lc_iast (lc_uo σ 13 i v) 25 i (by decide) (n := 148) (f := σ.2.1 13) rfl hx hi (by decide) (by show lc_aE G 148 _ = _; rw [lc_uo_same]) (lc_h3 _ (fun k hk hne => by
    match k, hk, hne with
    | 0, _, hne => first | rfl | exact absurd rfl hne
    | 1, _, hne => first | rfl | exact absurd rfl hne
    | 2, _, hne => first | rfl | exact absurd rfl hne
    | 3, _, hne => first | rfl | exact absurd rfl hne
    | 4, _, hne => first | rfl | exact absurd rfl hne
    | 5, _, hne => first | rfl | exact absurd rfl hne
    | 6, _, hne => first | rfl | exact absurd rfl hne
    | 7, _, hne => first | rfl | exact absurd rfl hne
    | 8, _, hne => first | rfl | exact absurd rfl hne
    | 9, _, hne => first | rfl | exact absurd rfl hne
    | 10, _, hne => first | rfl | exact absurd rfl hne
    | 11, _, hne => first | rfl | exact absurd rfl hne
    | 12, _, hne => first | rfl | exact absurd rfl hne
    | 13, _, hne => first | rfl | exact absurd rfl hne
    | 14, _, hne => first | rfl | exact absurd rfl hne
    | 15, _, hne => first | rfl | exact absurd rfl hne
    | 16, _, hne => first | rfl | exact absurd rfl hne
    | 17, _, hne => first | rfl | exact absurd rfl hne
    | 18, _, hne => first | rfl | exact absurd rfl hne
    | 19, _, hne => first | rfl | exact absurd rfl hne
    | 20, _, hne => first | rfl | exact absurd rfl hne
    | 21, _, hne => first | rfl | exact absurd rfl hne
    | 22, _, hne => first | rfl | exact absurd rfl hne
    | 23, _, hne => first | rfl | exact absurd rfl hne
    | 24, _, hne => first | rfl | exact absurd rfl hne
    | 25, _, hne => first | rfl | exact absurd rfl hne
    | k + 26, hk, _ => exact absurd hk (by omega)) (fun a b _ _ g hg => rfl)) hd kk
theorem lc_sw_msaved (j i : Nat) {z v : Int32} (hj : j < 3) (hx : z = nI i) (hi : i < 148) (hd : decode cc pc = .ok (.iastore, 1)) (kk : lc_V G Γ cc nL own (pc + 1) lv (st) (lc_w (lc_uo σ 13 i v) j x)) : lc_V G Γ cc nL own (pc) lv (.int v :: .int z :: .ref (G.1 25) :: st) (lc_w σ j x) := lc_s_msaved i hx hi hd (by rw [lc_uo_w σ i v x (show 13 ≠ j by omega)]; exact kk)
theorem lc_swLat (j i : Nat) {z v : Int32} (hj : j < 2) (hx : z = nI i) (hi : i < 4) (hd : decode cc pc = .ok (.iastore, 1)) (kk : lc_V G Γ cc nL own (pc + 1) lv (st) (lc_w (lc_uo σ (3 + j) i v) j x)) : lc_V G Γ cc nL own (pc) lv (.int v :: .int z :: .ref (G.1 (12 + j)) :: st) (lc_w σ j x) := by
  rcases (show j = 0 ∨ j = 1 by omega) with rfl | rfl
  · exact lc_sw_lat0 0 i (by decide) hx hi hd kk
  · exact lc_sw_lat1 1 i (by decide) hx hi hd kk
theorem lc_swPos (j i : Nat) {z v : Int32} (hj : j < 2) (hx : z = nI i) (hi : i < 6) (hd : decode cc pc = .ok (.iastore, 1)) (kk : lc_V G Γ cc nL own (pc + 1) lv (st) (lc_w (lc_uo σ (6 + j) i v) j x)) : lc_V G Γ cc nL own (pc) lv (.int v :: .int z :: .ref (G.1 (8 + j)) :: st) (lc_w σ j x) := by
  rcases (show j = 0 ∨ j = 1 by omega) with rfl | rfl
  · exact lc_sw_pos0 0 i (by decide) hx hi hd kk
  · exact lc_sw_pos1 1 i (by decide) hx hi hd kk
theorem lc_sc_lim0 (i : Nat) {z v : Int32} (hx : z = nI i) (hi : i < 4) (hd : decode cc pc = .ok (.iastore, 1)) (kk : lc_V G Γ cc nL own (pc + 1) lv (st) (lc_w σ 0 (lc_cu x.1 6 i v, x.2))) : lc_V G Γ cc nL own (pc) lv (.int v :: .int z :: .ref (G.1 6) :: st) (lc_w σ 0 x) := lc_iast (lc_w σ 0 (lc_cu x.1 6 i v, x.2)) 6 i (by decide) (n := 4) (f := x.1 6) rfl hx hi (by decide) (by show lc_aE G 4 (lc_cu x.1 6 i v 6) = _; rw [lc_cu_same]) (lc_h3 _ (fun k hk hne => by
    match k, hk, hne with
    | 0, _, hne => first | rfl | exact absurd rfl hne
    | 1, _, hne => first | rfl | exact absurd rfl hne
    | 2, _, hne => first | rfl | exact absurd rfl hne
    | 3, _, hne => first | rfl | exact absurd rfl hne
    | 4, _, hne => first | rfl | exact absurd rfl hne
    | 5, _, hne => first | rfl | exact absurd rfl hne
    | 6, _, hne => first | rfl | exact absurd rfl hne
    | 7, _, hne => first | rfl | exact absurd rfl hne
    | 8, _, hne => first | rfl | exact absurd rfl hne
    | 9, _, hne => first | rfl | exact absurd rfl hne
    | 10, _, hne => first | rfl | exact absurd rfl hne
    | 11, _, hne => first | rfl | exact absurd rfl hne
    | 12, _, hne => first | rfl | exact absurd rfl hne
    | 13, _, hne => first | rfl | exact absurd rfl hne
    | 14, _, hne => first | rfl | exact absurd rfl hne
    | 15, _, hne => first | rfl | exact absurd rfl hne
    | 16, _, hne => first | rfl | exact absurd rfl hne
    | 17, _, hne => first | rfl | exact absurd rfl hne
    | 18, _, hne => first | rfl | exact absurd rfl hne
    | 19, _, hne => first | rfl | exact absurd rfl hne
    | 20, _, hne => first | rfl | exact absurd rfl hne
    | 21, _, hne => first | rfl | exact absurd rfl hne
    | 22, _, hne => first | rfl | exact absurd rfl hne
    | 23, _, hne => first | rfl | exact absurd rfl hne
    | 24, _, hne => first | rfl | exact absurd rfl hne
    | 25, _, hne => first | rfl | exact absurd rfl hne
    | k + 26, hk, _ => exact absurd hk (by omega)) (fun a b ha _ g hg => by
    by_cases h : a = 0
    · subst h
      have e : ¬ g = 6 := by omega
      simp [lc_w, lc_cu, e]
    · simp [lc_w, h])) hd kk
theorem lc_sc_told (i : Nat) {z v : Int32} (hx : z = nI i) (hi : i < 4) (hd : decode cc pc = .ok (.iastore, 1)) (kk : lc_V G Γ cc nL own (pc + 1) lv (st) (lc_w σ 2 (lc_cu x.1 6 i v, x.2))) : lc_V G Γ cc nL own (pc) lv (.int v :: .int z :: .ref (G.1 17) :: st) (lc_w σ 2 x) := lc_iast (lc_w σ 2 (lc_cu x.1 6 i v, x.2)) 17 i (by decide) (n := 4) (f := x.1 6) rfl hx hi (by decide) (by show lc_aE G 4 (lc_cu x.1 6 i v 6) = _; rw [lc_cu_same]) (lc_h3 _ (fun k hk hne => by
    match k, hk, hne with
    | 0, _, hne => first | rfl | exact absurd rfl hne
    | 1, _, hne => first | rfl | exact absurd rfl hne
    | 2, _, hne => first | rfl | exact absurd rfl hne
    | 3, _, hne => first | rfl | exact absurd rfl hne
    | 4, _, hne => first | rfl | exact absurd rfl hne
    | 5, _, hne => first | rfl | exact absurd rfl hne
    | 6, _, hne => first | rfl | exact absurd rfl hne
    | 7, _, hne => first | rfl | exact absurd rfl hne
    | 8, _, hne => first | rfl | exact absurd rfl hne
    | 9, _, hne => first | rfl | exact absurd rfl hne
    | 10, _, hne => first | rfl | exact absurd rfl hne
    | 11, _, hne => first | rfl | exact absurd rfl hne
    | 12, _, hne => first | rfl | exact absurd rfl hne
    | 13, _, hne => first | rfl | exact absurd rfl hne
    | 14, _, hne => first | rfl | exact absurd rfl hne
    | 15, _, hne => first | rfl | exact absurd rfl hne
    | 16, _, hne => first | rfl | exact absurd rfl hne
    | 17, _, hne => first | rfl | exact absurd rfl hne
    | 18, _, hne => first | rfl | exact absurd rfl hne
    | 19, _, hne => first | rfl | exact absurd rfl hne
    | 20, _, hne => first | rfl | exact absurd rfl hne
    | 21, _, hne => first | rfl | exact absurd rfl hne
    | 22, _, hne => first | rfl | exact absurd rfl hne
    | 23, _, hne => first | rfl | exact absurd rfl hne
    | 24, _, hne => first | rfl | exact absurd rfl hne
    | 25, _, hne => first | rfl | exact absurd rfl hne
    | k + 26, hk, _ => exact absurd hk (by omega)) (fun a b ha _ g hg => by
    have h2 : ¬ a = 2 := by omega
    simp [lc_w, h2])) hd kk
theorem lc_sc_msort (i : Nat) {z v : Int32} (hx : z = nI i) (hi : i < 24) (hd : decode cc pc = .ok (.iastore, 1)) (kk : lc_V G Γ cc nL own (pc + 1) lv (st) (lc_w σ 2 (lc_cu x.1 0 i v, x.2))) : lc_V G Γ cc nL own (pc) lv (.int v :: .int z :: .ref (G.1 18) :: st) (lc_w σ 2 x) := lc_iast (lc_w σ 2 (lc_cu x.1 0 i v, x.2)) 18 i (by decide) (n := 24) (f := x.1 0) rfl hx hi (by decide) (by show lc_aE G 24 (lc_cu x.1 0 i v 0) = _; rw [lc_cu_same]) (lc_h3 _ (fun k hk hne => by
    match k, hk, hne with
    | 0, _, hne => first | rfl | exact absurd rfl hne
    | 1, _, hne => first | rfl | exact absurd rfl hne
    | 2, _, hne => first | rfl | exact absurd rfl hne
    | 3, _, hne => first | rfl | exact absurd rfl hne
    | 4, _, hne => first | rfl | exact absurd rfl hne
    | 5, _, hne => first | rfl | exact absurd rfl hne
    | 6, _, hne => first | rfl | exact absurd rfl hne
    | 7, _, hne => first | rfl | exact absurd rfl hne
    | 8, _, hne => first | rfl | exact absurd rfl hne
    | 9, _, hne => first | rfl | exact absurd rfl hne
    | 10, _, hne => first | rfl | exact absurd rfl hne
    | 11, _, hne => first | rfl | exact absurd rfl hne
    | 12, _, hne => first | rfl | exact absurd rfl hne
    | 13, _, hne => first | rfl | exact absurd rfl hne
    | 14, _, hne => first | rfl | exact absurd rfl hne
    | 15, _, hne => first | rfl | exact absurd rfl hne
    | 16, _, hne => first | rfl | exact absurd rfl hne
    | 17, _, hne => first | rfl | exact absurd rfl hne
    | 18, _, hne => first | rfl | exact absurd rfl hne
    | 19, _, hne => first | rfl | exact absurd rfl hne
    | 20, _, hne => first | rfl | exact absurd rfl hne
    | 21, _, hne => first | rfl | exact absurd rfl hne
    | 22, _, hne => first | rfl | exact absurd rfl hne
    | 23, _, hne => first | rfl | exact absurd rfl hne
    | 24, _, hne => first | rfl | exact absurd rfl hne
    | 25, _, hne => first | rfl | exact absurd rfl hne
    | k + 26, hk, _ => exact absurd hk (by omega)) (fun a b ha _ g hg => by
    have h2 : ¬ a = 2 := by omega
    simp [lc_w, h2])) hd kk
theorem lc_sc_mvalue (i : Nat) {z v : Int32} (hx : z = nI i) (hi : i < 24) (hd : decode cc pc = .ok (.iastore, 1)) (kk : lc_V G Γ cc nL own (pc + 1) lv (st) (lc_w σ 2 (lc_cu x.1 1 i v, x.2))) : lc_V G Γ cc nL own (pc) lv (.int v :: .int z :: .ref (G.1 19) :: st) (lc_w σ 2 x) := lc_iast (lc_w σ 2 (lc_cu x.1 1 i v, x.2)) 19 i (by decide) (n := 24) (f := x.1 1) rfl hx hi (by decide) (by show lc_aE G 24 (lc_cu x.1 1 i v 1) = _; rw [lc_cu_same]) (lc_h3 _ (fun k hk hne => by
    match k, hk, hne with
    | 0, _, hne => first | rfl | exact absurd rfl hne
    | 1, _, hne => first | rfl | exact absurd rfl hne
    | 2, _, hne => first | rfl | exact absurd rfl hne
    | 3, _, hne => first | rfl | exact absurd rfl hne
    | 4, _, hne => first | rfl | exact absurd rfl hne
    | 5, _, hne => first | rfl | exact absurd rfl hne
    | 6, _, hne => first | rfl | exact absurd rfl hne
    | 7, _, hne => first | rfl | exact absurd rfl hne
    | 8, _, hne => first | rfl | exact absurd rfl hne
    | 9, _, hne => first | rfl | exact absurd rfl hne
    | 10, _, hne => first | rfl | exact absurd rfl hne
    | 11, _, hne => first | rfl | exact absurd rfl hne
    | 12, _, hne => first | rfl | exact absurd rfl hne
    | 13, _, hne => first | rfl | exact absurd rfl hne
    | 14, _, hne => first | rfl | exact absurd rfl hne
    | 15, _, hne => first | rfl | exact absurd rfl hne
    | 16, _, hne => first | rfl | exact absurd rfl hne
    | 17, _, hne => first | rfl | exact absurd rfl hne
    | 18, _, hne => first | rfl | exact absurd rfl hne
    | 19, _, hne => first | rfl | exact absurd rfl hne
    | 20, _, hne => first | rfl | exact absurd rfl hne
    | 21, _, hne => first | rfl | exact absurd rfl hne
    | 22, _, hne => first | rfl | exact absurd rfl hne
    | 23, _, hne => first | rfl | exact absurd rfl hne
    | 24, _, hne => first | rfl | exact absurd rfl hne
    | 25, _, hne => first | rfl | exact absurd rfl hne
    | k + 26, hk, _ => exact absurd hk (by omega)) (fun a b ha _ g hg => by
    have h2 : ¬ a = 2 := by omega
    simp [lc_w, h2])) hd kk
theorem lc_sc_mstamp (i : Nat) {z v : Int32} (hx : z = nI i) (hi : i < 24) (hd : decode cc pc = .ok (.iastore, 1)) (kk : lc_V G Γ cc nL own (pc + 1) lv (st) (lc_w σ 2 (lc_cu x.1 2 i v, x.2))) : lc_V G Γ cc nL own (pc) lv (.int v :: .int z :: .ref (G.1 20) :: st) (lc_w σ 2 x) := lc_iast (lc_w σ 2 (lc_cu x.1 2 i v, x.2)) 20 i (by decide) (n := 24) (f := x.1 2) rfl hx hi (by decide) (by show lc_aE G 24 (lc_cu x.1 2 i v 2) = _; rw [lc_cu_same]) (lc_h3 _ (fun k hk hne => by
    match k, hk, hne with
    | 0, _, hne => first | rfl | exact absurd rfl hne
    | 1, _, hne => first | rfl | exact absurd rfl hne
    | 2, _, hne => first | rfl | exact absurd rfl hne
    | 3, _, hne => first | rfl | exact absurd rfl hne
    | 4, _, hne => first | rfl | exact absurd rfl hne
    | 5, _, hne => first | rfl | exact absurd rfl hne
    | 6, _, hne => first | rfl | exact absurd rfl hne
    | 7, _, hne => first | rfl | exact absurd rfl hne
    | 8, _, hne => first | rfl | exact absurd rfl hne
    | 9, _, hne => first | rfl | exact absurd rfl hne
    | 10, _, hne => first | rfl | exact absurd rfl hne
    | 11, _, hne => first | rfl | exact absurd rfl hne
    | 12, _, hne => first | rfl | exact absurd rfl hne
    | 13, _, hne => first | rfl | exact absurd rfl hne
    | 14, _, hne => first | rfl | exact absurd rfl hne
    | 15, _, hne => first | rfl | exact absurd rfl hne
    | 16, _, hne => first | rfl | exact absurd rfl hne
    | 17, _, hne => first | rfl | exact absurd rfl hne
    | 18, _, hne => first | rfl | exact absurd rfl hne
    | 19, _, hne => first | rfl | exact absurd rfl hne
    | 20, _, hne => first | rfl | exact absurd rfl hne
    | 21, _, hne => first | rfl | exact absurd rfl hne
    | 22, _, hne => first | rfl | exact absurd rfl hne
    | 23, _, hne => first | rfl | exact absurd rfl hne
    | 24, _, hne => first | rfl | exact absurd rfl hne
    | 25, _, hne => first | rfl | exact absurd rfl hne
    | k + 26, hk, _ => exact absurd hk (by omega)) (fun a b ha _ g hg => by
    have h2 : ¬ a = 2 := by omega
    simp [lc_w, h2])) hd kk
theorem lc_sc_mactive (i : Nat) {z v : Int32} (hx : z = nI i) (hi : i < 24) (hd : decode cc pc = .ok (.iastore, 1)) (kk : lc_V G Γ cc nL own (pc + 1) lv (st) (lc_w σ 2 (lc_cu x.1 3 i v, x.2))) : lc_V G Γ cc nL own (pc) lv (.int v :: .int z :: .ref (G.1 21) :: st) (lc_w σ 2 x) := lc_iast (lc_w σ 2 (lc_cu x.1 3 i v, x.2)) 21 i (by decide) (n := 24) (f := x.1 3) rfl hx hi (by decide) (by show lc_aE G 24 (lc_cu x.1 3 i v 3) = _; rw [lc_cu_same]) (lc_h3 _ (fun k hk hne => by
    match k, hk, hne with
    | 0, _, hne => first | rfl | exact absurd rfl hne
    | 1, _, hne => first | rfl | exact absurd rfl hne
    | 2, _, hne => first | rfl | exact absurd rfl hne
    | 3, _, hne => first | rfl | exact absurd rfl hne
    | 4, _, hne => first | rfl | exact absurd rfl hne
    | 5, _, hne => first | rfl | exact absurd rfl hne
    | 6, _, hne => first | rfl | exact absurd rfl hne
    | 7, _, hne => first | rfl | exact absurd rfl hne
    | 8, _, hne => first | rfl | exact absurd rfl hne
    | 9, _, hne => first | rfl | exact absurd rfl hne
    | 10, _, hne => first | rfl | exact absurd rfl hne
    | 11, _, hne => first | rfl | exact absurd rfl hne
    | 12, _, hne => first | rfl | exact absurd rfl hne
    | 13, _, hne => first | rfl | exact absurd rfl hne
    | 14, _, hne => first | rfl | exact absurd rfl hne
    | 15, _, hne => first | rfl | exact absurd rfl hne
    | 16, _, hne => first | rfl | exact absurd rfl hne
    | 17, _, hne => first | rfl | exact absurd rfl hne
    | 18, _, hne => first | rfl | exact absurd rfl hne
    | 19, _, hne => first | rfl | exact absurd rfl hne
    | 20, _, hne => first | rfl | exact absurd rfl hne
    | 21, _, hne => first | rfl | exact absurd rfl hne
    | 22, _, hne => first | rfl | exact absurd rfl hne
    | 23, _, hne => first | rfl | exact absurd rfl hne
    | 24, _, hne => first | rfl | exact absurd rfl hne
    | 25, _, hne => first | rfl | exact absurd rfl hne
    | k + 26, hk, _ => exact absurd hk (by omega)) (fun a b ha _ g hg => by
    have h2 : ¬ a = 2 := by omega
    simp [lc_w, h2])) hd kk
theorem lc_sc_mkeepers (i : Nat) {z v : Int32} (hx : z = nI i) (hi : i < 24) (hd : decode cc pc = .ok (.iastore, 1)) (kk : lc_V G Γ cc nL own (pc + 1) lv (st) (lc_w σ 2 (lc_cu x.1 4 i v, x.2))) : lc_V G Γ cc nL own (pc) lv (.int v :: .int z :: .ref (G.1 22) :: st) (lc_w σ 2 x) := lc_iast (lc_w σ 2 (lc_cu x.1 4 i v, x.2)) 22 i (by decide) (n := 24) (f := x.1 4) rfl hx hi (by decide) (by show lc_aE G 24 (lc_cu x.1 4 i v 4) = _; rw [lc_cu_same]) (lc_h3 _ (fun k hk hne => by
    match k, hk, hne with
    | 0, _, hne => first | rfl | exact absurd rfl hne
    | 1, _, hne => first | rfl | exact absurd rfl hne
    | 2, _, hne => first | rfl | exact absurd rfl hne
    | 3, _, hne => first | rfl | exact absurd rfl hne
    | 4, _, hne => first | rfl | exact absurd rfl hne
    | 5, _, hne => first | rfl | exact absurd rfl hne
    | 6, _, hne => first | rfl | exact absurd rfl hne
    | 7, _, hne => first | rfl | exact absurd rfl hne
    | 8, _, hne => first | rfl | exact absurd rfl hne
    | 9, _, hne => first | rfl | exact absurd rfl hne
    | 10, _, hne => first | rfl | exact absurd rfl hne
    | 11, _, hne => first | rfl | exact absurd rfl hne
    | 12, _, hne => first | rfl | exact absurd rfl hne
    | 13, _, hne => first | rfl | exact absurd rfl hne
    | 14, _, hne => first | rfl | exact absurd rfl hne
    | 15, _, hne => first | rfl | exact absurd rfl hne
    | 16, _, hne => first | rfl | exact absurd rfl hne
    | 17, _, hne => first | rfl | exact absurd rfl hne
    | 18, _, hne => first | rfl | exact absurd rfl hne
    | 19, _, hne => first | rfl | exact absurd rfl hne
    | 20, _, hne => first | rfl | exact absurd rfl hne
    | 21, _, hne => first | rfl | exact absurd rfl hne
    | 22, _, hne => first | rfl | exact absurd rfl hne
    | 23, _, hne => first | rfl | exact absurd rfl hne
    | 24, _, hne => first | rfl | exact absurd rfl hne
    | 25, _, hne => first | rfl | exact absurd rfl hne
    | k + 26, hk, _ => exact absurd hk (by omega)) (fun a b ha _ g hg => by
    have h2 : ¬ a = 2 := by omega
    simp [lc_w, h2])) hd kk
theorem lc_sc_mheat (i : Nat) {z v : Int32} (hx : z = nI i) (hi : i < 24) (hd : decode cc pc = .ok (.iastore, 1)) (kk : lc_V G Γ cc nL own (pc + 1) lv (st) (lc_w σ 2 (lc_cu x.1 5 i v, x.2))) : lc_V G Γ cc nL own (pc) lv (.int v :: .int z :: .ref (G.1 23) :: st) (lc_w σ 2 x) := lc_iast (lc_w σ 2 (lc_cu x.1 5 i v, x.2)) 23 i (by decide) (n := 24) (f := x.1 5) rfl hx hi (by decide) (by show lc_aE G 24 (lc_cu x.1 5 i v 5) = _; rw [lc_cu_same]) (lc_h3 _ (fun k hk hne => by
    match k, hk, hne with
    | 0, _, hne => first | rfl | exact absurd rfl hne
    | 1, _, hne => first | rfl | exact absurd rfl hne
    | 2, _, hne => first | rfl | exact absurd rfl hne
    | 3, _, hne => first | rfl | exact absurd rfl hne
    | 4, _, hne => first | rfl | exact absurd rfl hne
    | 5, _, hne => first | rfl | exact absurd rfl hne
    | 6, _, hne => first | rfl | exact absurd rfl hne
    | 7, _, hne => first | rfl | exact absurd rfl hne
    | 8, _, hne => first | rfl | exact absurd rfl hne
    | 9, _, hne => first | rfl | exact absurd rfl hne
    | 10, _, hne => first | rfl | exact absurd rfl hne
    | 11, _, hne => first | rfl | exact absurd rfl hne
    | 12, _, hne => first | rfl | exact absurd rfl hne
    | 13, _, hne => first | rfl | exact absurd rfl hne
    | 14, _, hne => first | rfl | exact absurd rfl hne
    | 15, _, hne => first | rfl | exact absurd rfl hne
    | 16, _, hne => first | rfl | exact absurd rfl hne
    | 17, _, hne => first | rfl | exact absurd rfl hne
    | 18, _, hne => first | rfl | exact absurd rfl hne
    | 19, _, hne => first | rfl | exact absurd rfl hne
    | 20, _, hne => first | rfl | exact absurd rfl hne
    | 21, _, hne => first | rfl | exact absurd rfl hne
    | 22, _, hne => first | rfl | exact absurd rfl hne
    | 23, _, hne => first | rfl | exact absurd rfl hne
    | 24, _, hne => first | rfl | exact absurd rfl hne
    | 25, _, hne => first | rfl | exact absurd rfl hne
    | k + 26, hk, _ => exact absurd hk (by omega)) (fun a b ha _ g hg => by
    have h2 : ¬ a = 2 := by omega
    simp [lc_w, h2])) hd kk
theorem lc_gsLEAST (hl : lc_fl own idx ("LateCopies", "LEAST_LIMITS", "[I", true)) (hd : decode cc pc = .ok (.getstatic idx, 3)) (kk : lc_V G Γ cc nL own (pc + 3) lv (.ref G.2.2.2.2.2.1 :: st) (σ)) : lc_V G Γ cc nL own (pc) lv (st) (σ) := by
  intro C H locs ls hP hl'
  rcases hl with h | ⟨host, h⟩
  · exact va_gets C.1 C.2.1 C.2.2.2.2.2.2.2.2.1.1.1 hP.2 C.2.2.2.1 (C.2.2.2.2.1.use _ h) (fun _ h9 => h9) hd (kk C H locs ls hP hl')
  · exact va_getsN C.1 C.2.1 C.2.2.2.2.2.2.2.2.1.1.1 hP.2 C.2.2.2.1 (C.2.2.2.2.1.use _ h) (fun _ h9 => h9) hd (kk C H locs ls hP hl')
theorem lc_slLEAST (hd : decode cc pc = .ok (.arraylength, 1)) (kk : lc_V G Γ cc nL own (pc + 1) lv (.int 4 :: st) (σ)) : lc_V G Γ cc nL own (pc) lv (.ref G.2.2.2.2.2.1 :: st) (σ) := fun C H locs ls hP hl => va_tlen C.1 C.2.1 C.2.2.2.2.2.2.2.2.1.1.2 hP.2 rfl hd (kk C H locs ls hP hl)
theorem lc_saLEAST (i : Nat) {z : Int32} (hx : z = nI i) (hi : i < 4) (hd : decode cc pc = .ok (.iaload, 1)) (kk : lc_V G Γ cc nL own (pc + 1) lv (.int (lc_least i) :: st) (σ)) : lc_V G Γ cc nL own (pc) lv (.int z :: .ref G.2.2.2.2.2.1 :: st) (σ) := by
  intro C H locs ls hP hl
  subst hx
  exact va_ti C.1 C.2.1 C.2.2.2.2.2.2.2.2.1.1.2 hP.2 (vp_in_nI hi (by omega)) (v := .int (lc_least i)) (by rw [nI_clamp (by omega)]) hd (kk C H locs ls hP hl)
theorem lc_gsMOST (hl : lc_fl own idx ("LateCopies", "MOST_LIMITS", "[I", true)) (hd : decode cc pc = .ok (.getstatic idx, 3)) (kk : lc_V G Γ cc nL own (pc + 3) lv (.ref G.2.2.2.2.2.2.1 :: st) (σ)) : lc_V G Γ cc nL own (pc) lv (st) (σ) := by
  intro C H locs ls hP hl'
  rcases hl with h | ⟨host, h⟩
  · exact va_gets C.1 C.2.1 C.2.2.2.2.2.2.2.2.1.2.1.1 hP.2 C.2.2.2.1 (C.2.2.2.2.1.use _ h) (fun _ h9 => h9) hd (kk C H locs ls hP hl')
  · exact va_getsN C.1 C.2.1 C.2.2.2.2.2.2.2.2.1.2.1.1 hP.2 C.2.2.2.1 (C.2.2.2.2.1.use _ h) (fun _ h9 => h9) hd (kk C H locs ls hP hl')
theorem lc_slMOST (hd : decode cc pc = .ok (.arraylength, 1)) (kk : lc_V G Γ cc nL own (pc + 1) lv (.int 4 :: st) (σ)) : lc_V G Γ cc nL own (pc) lv (.ref G.2.2.2.2.2.2.1 :: st) (σ) := fun C H locs ls hP hl => va_tlen C.1 C.2.1 C.2.2.2.2.2.2.2.2.1.2.1.2 hP.2 rfl hd (kk C H locs ls hP hl)
theorem lc_saMOST (i : Nat) {z : Int32} (hx : z = nI i) (hi : i < 4) (hd : decode cc pc = .ok (.iaload, 1)) (kk : lc_V G Γ cc nL own (pc + 1) lv (.int (lc_most i) :: st) (σ)) : lc_V G Γ cc nL own (pc) lv (.int z :: .ref G.2.2.2.2.2.2.1 :: st) (σ) := by
  intro C H locs ls hP hl
  subst hx
  exact va_ti C.1 C.2.1 C.2.2.2.2.2.2.2.2.1.2.1.2 hP.2 (vp_in_nI hi (by omega)) (v := .int (lc_most i)) (by rw [nI_clamp (by omega)]) hd (kk C H locs ls hP hl)
theorem lc_gsWEI (hl : lc_fl own idx ("LateCopies", "WEIGHTS", "[I", true)) (hd : decode cc pc = .ok (.getstatic idx, 3)) (kk : lc_V G Γ cc nL own (pc + 3) lv (.ref G.2.2.2.2.2.2.2 :: st) (σ)) : lc_V G Γ cc nL own (pc) lv (st) (σ) := by
  intro C H locs ls hP hl'
  rcases hl with h | ⟨host, h⟩
  · exact va_gets C.1 C.2.1 C.2.2.2.2.2.2.2.2.1.2.2.1 hP.2 C.2.2.2.1 (C.2.2.2.2.1.use _ h) (fun _ h9 => h9) hd (kk C H locs ls hP hl')
  · exact va_getsN C.1 C.2.1 C.2.2.2.2.2.2.2.2.1.2.2.1 hP.2 C.2.2.2.1 (C.2.2.2.2.1.use _ h) (fun _ h9 => h9) hd (kk C H locs ls hP hl')
theorem lc_slWEI (hd : decode cc pc = .ok (.arraylength, 1)) (kk : lc_V G Γ cc nL own (pc + 1) lv (.int 5 :: st) (σ)) : lc_V G Γ cc nL own (pc) lv (.ref G.2.2.2.2.2.2.2 :: st) (σ) := fun C H locs ls hP hl => va_tlen C.1 C.2.1 C.2.2.2.2.2.2.2.2.1.2.2.2 hP.2 rfl hd (kk C H locs ls hP hl)
theorem lc_saWEI (i : Nat) {z : Int32} (hx : z = nI i) (hi : i < 5) (hd : decode cc pc = .ok (.iaload, 1)) (kk : lc_V G Γ cc nL own (pc + 1) lv (.int (lc_wei i) :: st) (σ)) : lc_V G Γ cc nL own (pc) lv (.int z :: .ref G.2.2.2.2.2.2.2 :: st) (σ) := by
  intro C H locs ls hP hl
  subst hx
  exact va_ti C.1 C.2.1 C.2.2.2.2.2.2.2.2.1.2.2.2 hP.2 (vp_in_nI hi (by omega)) (v := .int (lc_wei i)) (by rw [nI_clamp (by omega)]) hd (kk C H locs ls hP hl)
theorem lc_tern {b : Bool} {off off2 : Int} (t m : Nat) (hd1 : decode cc pc = .ok (.ifCond .eq off, 3)) (ht1 : (pc : Int) + off = (t : Int)) (hd2 : decode cc (pc + 3) = .ok (.iconst 1, 1)) (hd3 : decode cc (pc + 3 + 1) = .ok (.goto off2, 3)) (ht2 : ((pc + 3 + 1 : Nat) : Int) + off2 = (m : Int)) (hd4 : decode cc t = .ok (.iconst 0, 1)) (hm : m = t + 1) (kk : lc_V G Γ cc nL own m lv (.int (lc_bi b) :: st) σ) : lc_V G Γ cc nL own pc lv (.int (lc_bi b) :: st) σ := by
  subst hm
  refine lc_ifb_eq t hd1 ht1 (fun h => ?_) (fun h => ?_)
  · rw [h] at kk
    exact lc_iconst (v := 0) hd4 (by decide) kk
  · rw [h] at kk
    exact lc_iconst (v := 1) hd2 (by decide) (lc_goto (t + 1) hd3 ht2 kk)
end LCR2
def sp_it {α : Type} (f : Nat → α → α) : Nat → α → α
  | 0, z => z
  | n + 1, z => f n (sp_it f n z)
theorem lc_forI {α : Type} (P : Nat → α → Prop) (I : Nat → α → Prop) (f : Nat → α → α) (n : Nat) (hI : ∀ i z, i < n → I i z → I (i + 1) (f i z)) (step : ∀ i z, i < n → I i z → P (i + 1) (f i z) → P i z) (z : α) (h0 : I 0 z) (done : I n (sp_it f n z) → P n (sp_it f n z)) : P 0 z := by
  have key : ∀ m, m ≤ n → I m (sp_it f m z) ∧ (P m (sp_it f m z) → P 0 z) := by
    intro m
    induction m with
    | zero => intro _; exact ⟨h0, fun h => h⟩
    | succ m ih =>
      intro hm
      obtain ⟨h1, h2⟩ := ih (by omega)
      exact ⟨hI m _ (by omega) h1, fun h => h2 (step m _ (by omega) h1 h)⟩
  obtain ⟨h1, h2⟩ := key n (Nat.le_refl n)
  exact h2 (done h1)
theorem lc_for {α : Type} (P : Nat → α → Prop) (f : Nat → α → α) (n : Nat) (step : ∀ i z, i < n → P (i + 1) (f i z) → P i z) (z : α) (done : P n (sp_it f n z)) : P 0 z := lc_forI P (fun _ _ => True) f n (fun _ _ _ _ => trivial) (fun i z h _ => step i z h) z trivial (fun _ => done)
theorem sp_it_I {α : Type} (I : Nat → α → Prop) (f : Nat → α → α) (n : Nat) (hI : ∀ i z, i < n → I i z → I (i + 1) (f i z)) (z : α) (h0 : I 0 z) : I n (sp_it f n z) := by
  have key : ∀ m, m ≤ n → I m (sp_it f m z) := by
    intro m
    induction m with
    | zero => intro _; exact h0
    | succ m ih => intro hm; exact hI m _ (by omega) (ih (by omega))
  exact key n (Nat.le_refl n)
theorem sp_it_congr {α : Type} (I : Nat → α → Prop) (f g : Nat → α → α) (n : Nat) (hI : ∀ i z, i < n → I i z → I (i + 1) (f i z)) (he : ∀ i z, i < n → I i z → f i z = g i z) (z : α) (h0 : I 0 z) : sp_it f n z = sp_it g n z := by
  have key : ∀ m, m ≤ n → sp_it f m z = sp_it g m z := by
    intro m
    induction m with
    | zero => intro _; rfl
    | succ m ih =>
      intro hm
      have h1 : I m (sp_it f m z) := sp_it_I I f m (fun i z h => hI i z (by omega)) z h0
      show f m (sp_it f m z) = g m (sp_it g m z)
      rw [he m _ (by omega) h1, ih (by omega)]
  exact key n (Nat.le_refl n)
def sp_all (f : Nat → Bool) : Nat → Bool
  | 0 => true
  | n + 1 => sp_all f n && f n
theorem sp_all_iff {f : Nat → Bool} {n : Nat} : sp_all f n = true ↔ ∀ i, i < n → f i = true := by
  induction n with
  | zero => simp [sp_all]
  | succ n ih =>
    simp only [sp_all, Bool.and_eq_true, ih]
    constructor
    · intro h i hi
      by_cases e : i = n
      · rw [e]; exact h.2
      · exact h.1 i (by omega)
    · intro h
      exact ⟨fun i hi => h i (by omega), h n (by omega)⟩
theorem sp_all_f {f : Nat → Bool} {n i : Nat} (hi : i < n) (h : f i = false) : sp_all f n = false := by
  cases e : sp_all f n with
  | false => rfl
  | true => rw [sp_all_iff.mp e i hi] at h; cases h
theorem lc_forB (P : Nat → Prop) (f : Nat → Bool) (n : Nat) (step : ∀ i, i < n → (f i = true → P (i + 1)) → P i) (done : sp_all f n = true → P n) : P 0 := by
  have key : ∀ m, m ≤ n → (sp_all f m = true → P m) → P 0 := by
    intro m
    induction m with
    | zero => intro _ h; exact h rfl
    | succ m ih =>
      intro hm h
      refine ih (by omega) (fun ha => step m (by omega) (fun hf => h ?_))
      show (sp_all f m && f m) = true
      rw [ha, hf]
      rfl
  exact key n (Nat.le_refl n) done
theorem sp_it_nest {α : Type} (f : Nat → α → α) (n : Nat) (z : α) : sp_it f (4 * n) z = sp_it (fun a => sp_it (fun k => f (4 * a + k)) 4) n z := by
  induction n with
  | zero => rfl
  | succ n ih =>
    show sp_it f (4 * n + 4) z = sp_it (fun k => f (4 * n + k)) 4 (sp_it (fun a => sp_it (fun k => f (4 * a + k)) 4) n z)
    rw [← ih]
    rfl

