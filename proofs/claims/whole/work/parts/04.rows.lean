def lc_sc (σ : lc_S) (j : Nat) (B : lc_C) : lc_S := (fun a => if a = j then B else σ.1 a, σ.2)
theorem lc_w_c (σ : lc_S) (j : Nat) (x : lc_X) : (lc_w σ j x).1 j = x.1 := by simp [lc_w]
theorem lc_w_cn (σ : lc_S) {j k : Nat} (x : lc_X) (h : k ≠ j) : (lc_w σ j x).1 k = σ.1 k := by simp [lc_w, h]
theorem lc_w_on (σ : lc_S) {j r : Nat} (x : lc_X) (h : r ≠ j) : (lc_w σ j x).2.1 r = σ.2.1 r := by simp [lc_w, h]
theorem lc_w_o0 (σ : lc_S) (j : Nat) (x : lc_X) : (lc_w σ j x).2.1 j 0 = σ.2.1 j 0 + x.2.1 := by simp [lc_w, lc_ad]
theorem lc_w_o1 (σ : lc_S) (j : Nat) (x : lc_X) : (lc_w σ j x).2.1 j 1 = σ.2.1 j 1 + x.2.2.1 := by simp [lc_w, lc_ad]
theorem lc_w_o2 (σ : lc_S) (j : Nat) (x : lc_X) : (lc_w σ j x).2.1 j 2 = σ.2.1 j 2 + x.2.2.2 := by simp [lc_w, lc_ad]
theorem lc_sc_w (σ : lc_S) (j : Nat) (x : lc_X) (B : lc_C) : lc_sc (lc_w σ j x) j B = lc_w σ j (B, x.2) := by
  unfold lc_sc lc_w
  refine Prod.ext ?_ rfl
  funext a
  by_cases h : a = j <;> simp [h]
theorem lc_w_w (σ : lc_S) (j : Nat) : lc_w σ j (σ.1 j, 0, 0, 0) = σ := by
  unfold lc_w lc_ad
  refine Prod.ext ?_ (Prod.ext ?_ rfl)
  · funext a
    by_cases h : a = j <;> simp [h]
  · funext r
    by_cases h : r = j
    · subst h
      simp only [if_true]
      funext k
      by_cases h0 : k = 0
      · simp [h0]
      · by_cases h1 : k = 1
        · simp [h1]
        · by_cases h2 : k = 2 <;> simp [h0, h1, h2]
    · simp [h]
theorem lc_iE_eq {σ σ' : lc_S} {a b : Nat} (h : ∀ f, f < 6 → σ'.1 a f b = σ.1 a f b) : lc_iE σ' a b = lc_iE σ a b := by
  unfold lc_iE
  rw [h 0 (by decide), h 1 (by decide), h 2 (by decide), h 3 (by decide), h 4 (by decide), h 5 (by decide)]
theorem lc_h2 {G : lc_G} {σ σ' : lc_S} (q0 : Nat) (hfix : ∀ k, k < 26 → k ≠ q0 → lc_ent G σ' k = lc_ent G σ k) (hit : ∀ a b, b < 24 → lc_it a b ≠ q0 → ∀ f, f < 6 → σ'.1 a f b = σ.1 a f b) : ∀ i, i < 74 → i ≠ q0 → lc_ent G σ' i = lc_ent G σ i := by
  intro i hi hne
  by_cases h : i < 26
  · exact hfix i h hne
  · have e : i = lc_it ((i - 26) / 24) ((i - 26) % 24) := by unfold lc_it; omega
    have hb : (i - 26) % 24 < 24 := Nat.mod_lt _ (by decide)
    rw [e] at hne ⊢
    rw [lc_ent_it G σ' hb, lc_ent_it G σ hb]
    exact lc_iE_eq (hit _ _ hb hne)
theorem lc_f6 {P : Nat → Prop} (h0 : P 0) (h1 : P 1) (h2 : P 2) (h3 : P 3) (h4 : P 4) (h5 : P 5) : ∀ f, f < 6 → P f := by
  intro f hf
  match f, hf with
  | 0, _ => exact h0
  | 1, _ => exact h1
  | 2, _ => exact h2
  | 3, _ => exact h3
  | 4, _ => exact h4
  | 5, _ => exact h5

section LCR
variable {G : lc_G} {Γ : lc_Γ} {cc : ByteArray} {nL : Nat} {own : String} {pc : Nat} {lv : List (Nat × Value)} {st : List Value} {σ : lc_S} {x : lc_X} {idx : Nat}

theorem lc_gI (j i f : Nat) (hj : j < 2) (hi : i < 24) (hf : f < 6) (hl : lc_fl own idx (TX0 f)) (hd : decode cc pc = .ok (.getfield idx, 3)) (kk : lc_V G Γ cc nL own (pc + 3) lv (.int (σ.1 j f i) :: st) (σ)) : lc_V G Γ cc nL own (pc) lv (.ref (G.1 (lc_it j i)) :: st) (σ) := by
  have key : ∀ f, f < 6 → ([.int (σ.1 j 0 i), .int (σ.1 j 1 i), .int (σ.1 j 2 i), .int (σ.1 j 3 i), .int (σ.1 j 4 i), .int (σ.1 j 5 i)] : List Value)[f]? = some (.int (σ.1 j f i)) := lc_f6 rfl rfl rfl rfl rfl rfl
  exact lc_get (lc_it j i) 0 f (by unfold lc_it; omega) (lc_ent_it G σ hi) lc_cX0 hf (key f hf) hl hd kk
theorem lc_gIw (j i f : Nat) (hj : j < 2) (hi : i < 24) (hf : f < 6) (hl : lc_fl own idx (TX0 f)) (hd : decode cc pc = .ok (.getfield idx, 3)) (kk : lc_V G Γ cc nL own (pc + 3) lv (.int (x.1 f i) :: st) (lc_w σ j x)) : lc_V G Γ cc nL own (pc) lv (.ref (G.1 (lc_it j i)) :: st) (lc_w σ j x) := lc_gI j i f hj hi hf hl hd (by rw [lc_w_c]; exact kk)
theorem lc_pI (j i f : Nat) {v : Int32} (hj : j < 2) (hi : i < 24) (hf : f < 6) (hl : lc_fl own idx (TX0 f)) (hd : decode cc pc = .ok (.putfield idx, 3)) (kk : lc_V G Γ cc nL own (pc + 3) lv (st) (lc_sc σ j (lc_cu (σ.1 j) f i v))) : lc_V G Γ cc nL own (pc) lv (.int v :: .ref (G.1 (lc_it j i)) :: st) (σ) := by
  have hit : ∀ a b, b < 24 → lc_it a b ≠ lc_it j i → ∀ g, g < 6 → (lc_sc σ j (lc_cu (σ.1 j) f i v)).1 a g b = σ.1 a g b := by
    intro a b hb hne g hg
    unfold lc_sc lc_cu
    by_cases ha : a = j
    · subst ha
      have hbi : ¬ b = i := fun e => hne (by rw [e])
      simp [hbi]
    · simp [ha]
  have hq : lc_it j i < 74 := by unfold lc_it; omega
  have h0 : ∀ g, g < 6 → (lc_sc σ j (lc_cu (σ.1 j) f i v)).1 j g i = if g = f then v else σ.1 j g i := by
    intro g _
    by_cases e : g = f <;> simp [lc_sc, lc_cu, e]
  have hfix : ∀ k, k < 26 → k ≠ lc_it j i → lc_ent G (lc_sc σ j (lc_cu (σ.1 j) f i v)) k = lc_ent G σ k := by
    intro k hk _
    have c6 : ∀ B : lc_C, lc_cu B f i v 6 = B 6 := by intro B; funext b; have h : ¬ 6 = f := by omega
                                                      simp [lc_cu, h]
    have c7 : ∀ B : lc_C, lc_cu B f i v 7 = B 7 := by intro B; funext b; have h : ¬ 7 = f := by omega
                                                      simp [lc_cu, h]
    rcases (show j = 0 ∨ j = 1 by omega) with rfl | rfl <;>
      (match k, hk with
       | 0, _ => first | rfl | (simp [lc_ent, lc_sc, c6, c7]; done)
       | 1, _ => first | rfl | (simp [lc_ent, lc_sc, c6, c7]; done)
       | 2, _ => first | rfl | (simp [lc_ent, lc_sc, c6, c7]; done)
       | 3, _ => first | rfl | (simp [lc_ent, lc_sc, c6, c7]; done)
       | 4, _ => first | rfl | (simp [lc_ent, lc_sc, c6, c7]; done)
       | 5, _ => first | rfl | (simp [lc_ent, lc_sc, c6, c7]; done)
       | 6, _ => first | rfl | (simp [lc_ent, lc_sc, c6, c7]; done)
       | 7, _ => first | rfl | (simp [lc_ent, lc_sc, c6, c7]; done)
       | 8, _ => first | rfl | (simp [lc_ent, lc_sc, c6, c7]; done)
       | 9, _ => first | rfl | (simp [lc_ent, lc_sc, c6, c7]; done)
       | 10, _ => first | rfl | (simp [lc_ent, lc_sc, c6, c7]; done)
       | 11, _ => first | rfl | (simp [lc_ent, lc_sc, c6, c7]; done)
       | 12, _ => first | rfl | (simp [lc_ent, lc_sc, c6, c7]; done)
       | 13, _ => first | rfl | (simp [lc_ent, lc_sc, c6, c7]; done)
       | 14, _ => first | rfl | (simp [lc_ent, lc_sc, c6, c7]; done)
       | 15, _ => first | rfl | (simp [lc_ent, lc_sc, c6, c7]; done)
       | 16, _ => first | rfl | (simp [lc_ent, lc_sc, c6, c7]; done)
       | 17, _ => first | rfl | (simp [lc_ent, lc_sc, c6, c7]; done)
       | 18, _ => first | rfl | (simp [lc_ent, lc_sc, c6, c7]; done)
       | 19, _ => first | rfl | (simp [lc_ent, lc_sc, c6, c7]; done)
       | 20, _ => first | rfl | (simp [lc_ent, lc_sc, c6, c7]; done)
       | 21, _ => first | rfl | (simp [lc_ent, lc_sc, c6, c7]; done)
       | 22, _ => first | rfl | (simp [lc_ent, lc_sc, c6, c7]; done)
       | 23, _ => first | rfl | (simp [lc_ent, lc_sc, c6, c7]; done)
       | 24, _ => first | rfl | (simp [lc_ent, lc_sc, c6, c7]; done)
       | 25, _ => first | rfl | (simp [lc_ent, lc_sc, c6, c7]; done)
       | k + 26, hk => exact absurd hk (by omega))
  have hv : ∀ f, f < 6 → (TX0 f).2.2.2 = false ∧ parseFieldDescriptor (TX0 f).2.2.1 = some .int := lc_f6 (by decide +kernel) (by decide +kernel) (by decide +kernel) (by decide +kernel) (by decide +kernel) (by decide +kernel)
  refine lc_put (lc_sc σ j (lc_cu (σ.1 j) f i v)) (lc_it j i) 0 f tyX0 (ty := .int) tyX0_ok nmX0 hq (lc_ent_it G σ hi) lc_cX0 hf (hv f hf).1 (hv f hf).2 rfl rfl hf ?_ (lc_h2 _ hfix hit) hl hd kk
  rw [lc_ent_it G _ hi]
  unfold lc_iE
  rw [h0 0 (by decide), h0 1 (by decide), h0 2 (by decide), h0 3 (by decide), h0 4 (by decide), h0 5 (by decide)]
  exact lc_f6 (P := fun f => (.inr (0, [.int (if 0 = f then v else σ.1 j 0 i), .int (if 1 = f then v else σ.1 j 1 i), .int (if 2 = f then v else σ.1 j 2 i), .int (if 3 = f then v else σ.1 j 3 i), .int (if 4 = f then v else σ.1 j 4 i), .int (if 5 = f then v else σ.1 j 5 i)]) : va_E) = .inr (0, [.int (σ.1 j 0 i), .int (σ.1 j 1 i), .int (σ.1 j 2 i), .int (σ.1 j 3 i), .int (σ.1 j 4 i), .int (σ.1 j 5 i)].set f (.int v))) rfl rfl rfl rfl rfl rfl f hf
theorem lc_pIw (j i f : Nat) {v : Int32} (hj : j < 2) (hi : i < 24) (hf : f < 6) (hl : lc_fl own idx (TX0 f)) (hd : decode cc pc = .ok (.putfield idx, 3)) (kk : lc_V G Γ cc nL own (pc + 3) lv (st) (lc_w σ j (lc_cu x.1 f i v, x.2))) : lc_V G Γ cc nL own (pc) lv (.int v :: .ref (G.1 (lc_it j i)) :: st) (lc_w σ j x) := lc_pI j i f hj hi hf hl hd (by rw [lc_sc_w, lc_w_c]; exact kk)

theorem lc_gWLim (j : Nat) (hj : j < 2) (hl : lc_fl own idx (TX3 0)) (hd : decode cc pc = .ok (.getfield idx, 3)) (kk : lc_V G Γ cc nL own (pc + 3) lv (.ref (G.1 (6 + j)) :: st) (σ)) : lc_V G Γ cc nL own (pc) lv (.ref (G.1 (4 + j)) :: st) (σ) := by
  rcases (show j = 0 ∨ j = 1 by omega) with rfl | rfl
  · exact lc_get 4 3 0 (by decide) rfl lc_cX3 (by decide) rfl hl hd kk
  · exact lc_get 5 3 0 (by decide) rfl lc_cX3 (by decide) rfl hl hd kk
theorem lc_gWPos (j : Nat) (hj : j < 2) (hl : lc_fl own idx (TX3 1)) (hd : decode cc pc = .ok (.getfield idx, 3)) (kk : lc_V G Γ cc nL own (pc + 3) lv (.ref (G.1 (8 + j)) :: st) (σ)) : lc_V G Γ cc nL own (pc) lv (.ref (G.1 (4 + j)) :: st) (σ) := by
  rcases (show j = 0 ∨ j = 1 by omega) with rfl | rfl
  · exact lc_get 4 3 1 (by decide) rfl lc_cX3 (by decide) rfl hl hd kk
  · exact lc_get 5 3 1 (by decide) rfl lc_cX3 (by decide) rfl hl hd kk
theorem lc_gWIts (j : Nat) (hj : j < 2) (hl : lc_fl own idx (TX3 2)) (hd : decode cc pc = .ok (.getfield idx, 3)) (kk : lc_V G Γ cc nL own (pc + 3) lv (.ref (G.1 (10 + j)) :: st) (σ)) : lc_V G Γ cc nL own (pc) lv (.ref (G.1 (4 + j)) :: st) (σ) := by
  rcases (show j = 0 ∨ j = 1 by omega) with rfl | rfl
  · exact lc_get 4 3 2 (by decide) rfl lc_cX3 (by decide) rfl hl hd kk
  · exact lc_get 5 3 2 (by decide) rfl lc_cX3 (by decide) rfl hl hd kk
theorem lc_gWLat (j : Nat) (hj : j < 2) (hl : lc_fl own idx (TX3 3)) (hd : decode cc pc = .ok (.getfield idx, 3)) (kk : lc_V G Γ cc nL own (pc + 3) lv (.ref (G.1 (12 + j)) :: st) (σ)) : lc_V G Γ cc nL own (pc) lv (.ref (G.1 (4 + j)) :: st) (σ) := by
  rcases (show j = 0 ∨ j = 1 by omega) with rfl | rfl
  · exact lc_get 4 3 3 (by decide) rfl lc_cX3 (by decide) rfl hl hd kk
  · exact lc_get 5 3 3 (by decide) rfl lc_cX3 (by decide) rfl hl hd kk
theorem lc_gWSites (j : Nat) (hj : j < 2) (hl : lc_fl own idx (TX3 4)) (hd : decode cc pc = .ok (.getfield idx, 3)) (kk : lc_V G Γ cc nL own (pc + 3) lv (.int (x.1 7 0) :: st) (lc_w σ j x)) : lc_V G Γ cc nL own (pc) lv (.ref (G.1 (4 + j)) :: st) (lc_w σ j x) := by
  rcases (show j = 0 ∨ j = 1 by omega) with rfl | rfl
  · exact lc_get 4 3 4 (by decide) rfl lc_cX3 (by decide) rfl hl hd kk
  · exact lc_get 5 3 4 (by decide) rfl lc_cX3 (by decide) rfl hl hd kk
theorem lc_gWNow (j : Nat) (hj : j < 2) (hl : lc_fl own idx (TX3 5)) (hd : decode cc pc = .ok (.getfield idx, 3)) (kk : lc_V G Γ cc nL own (pc + 3) lv (.int (x.1 7 1) :: st) (lc_w σ j x)) : lc_V G Γ cc nL own (pc) lv (.ref (G.1 (4 + j)) :: st) (lc_w σ j x) := by
  rcases (show j = 0 ∨ j = 1 by omega) with rfl | rfl
  · exact lc_get 4 3 5 (by decide) rfl lc_cX3 (by decide) rfl hl hd kk
  · exact lc_get 5 3 5 (by decide) rfl lc_cX3 (by decide) rfl hl hd kk
theorem lc_gWOff (j : Nat) (hj : j < 2) (hl : lc_fl own idx (TX3 6)) (hd : decode cc pc = .ok (.getfield idx, 3)) (kk : lc_V G Γ cc nL own (pc + 3) lv (.int (x.1 7 2) :: st) (lc_w σ j x)) : lc_V G Γ cc nL own (pc) lv (.ref (G.1 (4 + j)) :: st) (lc_w σ j x) := by
  rcases (show j = 0 ∨ j = 1 by omega) with rfl | rfl
  · exact lc_get 4 3 6 (by decide) rfl lc_cX3 (by decide) rfl hl hd kk
  · exact lc_get 5 3 6 (by decide) rfl lc_cX3 (by decide) rfl hl hd kk
theorem lc_gWTra (j : Nat) (hj : j < 2) (hl : lc_fl own idx (TX3 7)) (hd : decode cc pc = .ok (.getfield idx, 3)) (kk : lc_V G Γ cc nL own (pc + 3) lv (.int (σ.2.1 j 0 + x.2.1) :: st) (lc_w σ j x)) : lc_V G Γ cc nL own (pc) lv (.ref (G.1 (4 + j)) :: st) (lc_w σ j x) := by
  rcases (show j = 0 ∨ j = 1 by omega) with rfl | rfl
  · exact lc_get 4 3 7 (by decide) rfl lc_cX3 (by decide) rfl hl hd kk
  · exact lc_get 5 3 7 (by decide) rfl lc_cX3 (by decide) rfl hl hd kk
theorem lc_gWWok (j : Nat) (hj : j < 2) (hl : lc_fl own idx (TX3 8)) (hd : decode cc pc = .ok (.getfield idx, 3)) (kk : lc_V G Γ cc nL own (pc + 3) lv (.int (σ.2.1 j 1 + x.2.2.1) :: st) (lc_w σ j x)) : lc_V G Γ cc nL own (pc) lv (.ref (G.1 (4 + j)) :: st) (lc_w σ j x) := by
  rcases (show j = 0 ∨ j = 1 by omega) with rfl | rfl
  · exact lc_get 4 3 8 (by decide) rfl lc_cX3 (by decide) rfl hl hd kk
  · exact lc_get 5 3 8 (by decide) rfl lc_cX3 (by decide) rfl hl hd kk
theorem lc_gWGon (j : Nat) (hj : j < 2) (hl : lc_fl own idx (TX3 9)) (hd : decode cc pc = .ok (.getfield idx, 3)) (kk : lc_V G Γ cc nL own (pc + 3) lv (.int (σ.2.1 j 2 + x.2.2.2) :: st) (lc_w σ j x)) : lc_V G Γ cc nL own (pc) lv (.ref (G.1 (4 + j)) :: st) (lc_w σ j x) := by
  rcases (show j = 0 ∨ j = 1 by omega) with rfl | rfl
  · exact lc_get 4 3 9 (by decide) rfl lc_cX3 (by decide) rfl hl hd kk
  · exact lc_get 5 3 9 (by decide) rfl lc_cX3 (by decide) rfl hl hd kk
theorem lc_pWSites (j : Nat) {v : Int32} (hj : j < 2) (hl : lc_fl own idx (TX3 4)) (hd : decode cc pc = .ok (.putfield idx, 3)) (kk : lc_V G Γ cc nL own (pc + 3) lv (st) (lc_w σ j (lc_cu x.1 7 0 v, x.2))) : lc_V G Γ cc nL own (pc) lv (.int v :: .ref (G.1 (4 + j)) :: st) (lc_w σ j x) := by
  rcases (show j = 0 ∨ j = 1 by omega) with rfl | rfl
  · refine lc_put (lc_w σ 0 (lc_cu x.1 7 0 v, x.2)) 4 3 4 tyX3 (ty := .int) tyX3_ok nmX3 (by decide) (fs := _) rfl lc_cX3 (by decide) rfl (by decide +kernel) rfl rfl (Nat.le_of_ble_eq_true rfl) rfl (lc_h2 _ (fun k hk hne => by
    match k, hk, hne with
    | 0, _, hne => first | rfl | exact absurd rfl hne
    | 1, _, hne => first | rfl | exact absurd rfl hne
    | 2, _, hne => first | rfl | exact absurd rfl hne
    | 3, _, hne => first | rfl | exact absurd rfl hne
    | 4, _, hne => first | rfl | exact absurd rfl hne
    | 5, _, hne => first | rfl | exact absurd rfl hne
    | 6, _, hne => first | rfl | exact absurd rfl hne
    | 7, _, hne => first | rfl | exact absurd rfl hne
    | 8, _, hne => first | rfl | exact absurd rfl hne
    | 9, _, hne => first | rfl | exact absurd rfl hne
    | 10, _, hne => first | rfl | exact absurd rfl hne
    | 11, _, hne => first | rfl | exact absurd rfl hne
    | 12, _, hne => first | rfl | exact absurd rfl hne
    | 13, _, hne => first | rfl | exact absurd rfl hne
    | 14, _, hne => first | rfl | exact absurd rfl hne
    | 15, _, hne => first | rfl | exact absurd rfl hne
    | 16, _, hne => first | rfl | exact absurd rfl hne
    | 17, _, hne => first | rfl | exact absurd rfl hne
    | 18, _, hne => first | rfl | exact absurd rfl hne
    | 19, _, hne => first | rfl | exact absurd rfl hne
    | 20, _, hne => first | rfl | exact absurd rfl hne
    | 21, _, hne => first | rfl | exact absurd rfl hne
    | 22, _, hne => first | rfl | exact absurd rfl hne
    | 23, _, hne => first | rfl | exact absurd rfl hne
    | 24, _, hne => first | rfl | exact absurd rfl hne
    | 25, _, hne => first | rfl | exact absurd rfl hne
    | k + 26, hk, _ => exact absurd hk (by omega)) (fun a b _ _ g hg => by
    by_cases ha : a = 0 <;> simp [lc_w, lc_cu, ha] <;> omega)) hl hd kk
  · refine lc_put (lc_w σ 1 (lc_cu x.1 7 0 v, x.2)) 5 3 4 tyX3 (ty := .int) tyX3_ok nmX3 (by decide) (fs := _) rfl lc_cX3 (by decide) rfl (by decide +kernel) rfl rfl (Nat.le_of_ble_eq_true rfl) rfl (lc_h2 _ (fun k hk hne => by
    match k, hk, hne with
    | 0, _, hne => first | rfl | exact absurd rfl hne
    | 1, _, hne => first | rfl | exact absurd rfl hne
    | 2, _, hne => first | rfl | exact absurd rfl hne
    | 3, _, hne => first | rfl | exact absurd rfl hne
    | 4, _, hne => first | rfl | exact absurd rfl hne
    | 5, _, hne => first | rfl | exact absurd rfl hne
    | 6, _, hne => first | rfl | exact absurd rfl hne
    | 7, _, hne => first | rfl | exact absurd rfl hne
    | 8, _, hne => first | rfl | exact absurd rfl hne
    | 9, _, hne => first | rfl | exact absurd rfl hne
    | 10, _, hne => first | rfl | exact absurd rfl hne
    | 11, _, hne => first | rfl | exact absurd rfl hne
    | 12, _, hne => first | rfl | exact absurd rfl hne
    | 13, _, hne => first | rfl | exact absurd rfl hne
    | 14, _, hne => first | rfl | exact absurd rfl hne
    | 15, _, hne => first | rfl | exact absurd rfl hne
    | 16, _, hne => first | rfl | exact absurd rfl hne
    | 17, _, hne => first | rfl | exact absurd rfl hne
    | 18, _, hne => first | rfl | exact absurd rfl hne
    | 19, _, hne => first | rfl | exact absurd rfl hne
    | 20, _, hne => first | rfl | exact absurd rfl hne
    | 21, _, hne => first | rfl | exact absurd rfl hne
    | 22, _, hne => first | rfl | exact absurd rfl hne
    | 23, _, hne => first | rfl | exact absurd rfl hne
    | 24, _, hne => first | rfl | exact absurd rfl hne
    | 25, _, hne => first | rfl | exact absurd rfl hne
    | k + 26, hk, _ => exact absurd hk (by omega)) (fun a b _ _ g hg => by
    by_cases ha : a = 1 <;> simp [lc_w, lc_cu, ha] <;> omega)) hl hd kk
theorem lc_pWNow (j : Nat) {v : Int32} (hj : j < 2) (hl : lc_fl own idx (TX3 5)) (hd : decode cc pc = .ok (.putfield idx, 3)) (kk : lc_V G Γ cc nL own (pc + 3) lv (st) (lc_w σ j (lc_cu x.1 7 1 v, x.2))) : lc_V G Γ cc nL own (pc) lv (.int v :: .ref (G.1 (4 + j)) :: st) (lc_w σ j x) := by
  rcases (show j = 0 ∨ j = 1 by omega) with rfl | rfl
  · refine lc_put (lc_w σ 0 (lc_cu x.1 7 1 v, x.2)) 4 3 5 tyX3 (ty := .int) tyX3_ok nmX3 (by decide) (fs := _) rfl lc_cX3 (by decide) rfl (by decide +kernel) rfl rfl (Nat.le_of_ble_eq_true rfl) rfl (lc_h2 _ (fun k hk hne => by
    match k, hk, hne with
    | 0, _, hne => first | rfl | exact absurd rfl hne
    | 1, _, hne => first | rfl | exact absurd rfl hne
    | 2, _, hne => first | rfl | exact absurd rfl hne
    | 3, _, hne => first | rfl | exact absurd rfl hne
    | 4, _, hne => first | rfl | exact absurd rfl hne
    | 5, _, hne => first | rfl | exact absurd rfl hne
    | 6, _, hne => first | rfl | exact absurd rfl hne
    | 7, _, hne => first | rfl | exact absurd rfl hne
    | 8, _, hne => first | rfl | exact absurd rfl hne
    | 9, _, hne => first | rfl | exact absurd rfl hne
    | 10, _, hne => first | rfl | exact absurd rfl hne
    | 11, _, hne => first | rfl | exact absurd rfl hne
    | 12, _, hne => first | rfl | exact absurd rfl hne
    | 13, _, hne => first | rfl | exact absurd rfl hne
    | 14, _, hne => first | rfl | exact absurd rfl hne
    | 15, _, hne => first | rfl | exact absurd rfl hne
    | 16, _, hne => first | rfl | exact absurd rfl hne
    | 17, _, hne => first | rfl | exact absurd rfl hne
    | 18, _, hne => first | rfl | exact absurd rfl hne
    | 19, _, hne => first | rfl | exact absurd rfl hne
    | 20, _, hne => first | rfl | exact absurd rfl hne
    | 21, _, hne => first | rfl | exact absurd rfl hne
    | 22, _, hne => first | rfl | exact absurd rfl hne
    | 23, _, hne => first | rfl | exact absurd rfl hne
    | 24, _, hne => first | rfl | exact absurd rfl hne
    | 25, _, hne => first | rfl | exact absurd rfl hne
    | k + 26, hk, _ => exact absurd hk (by omega)) (fun a b _ _ g hg => by
    by_cases ha : a = 0 <;> simp [lc_w, lc_cu, ha] <;> omega)) hl hd kk
  · refine lc_put (lc_w σ 1 (lc_cu x.1 7 1 v, x.2)) 5 3 5 tyX3 (ty := .int) tyX3_ok nmX3 (by decide) (fs := _) rfl lc_cX3 (by decide) rfl (by decide +kernel) rfl rfl (Nat.le_of_ble_eq_true rfl) rfl (lc_h2 _ (fun k hk hne => by
    match k, hk, hne with
    | 0, _, hne => first | rfl | exact absurd rfl hne
    | 1, _, hne => first | rfl | exact absurd rfl hne
    | 2, _, hne => first | rfl | exact absurd rfl hne
    | 3, _, hne => first | rfl | exact absurd rfl hne
    | 4, _, hne => first | rfl | exact absurd rfl hne
    | 5, _, hne => first | rfl | exact absurd rfl hne
    | 6, _, hne => first | rfl | exact absurd rfl hne
    | 7, _, hne => first | rfl | exact absurd rfl hne
    | 8, _, hne => first | rfl | exact absurd rfl hne
    | 9, _, hne => first | rfl | exact absurd rfl hne
    | 10, _, hne => first | rfl | exact absurd rfl hne
    | 11, _, hne => first | rfl | exact absurd rfl hne
    | 12, _, hne => first | rfl | exact absurd rfl hne
    | 13, _, hne => first | rfl | exact absurd rfl hne
    | 14, _, hne => first | rfl | exact absurd rfl hne
    | 15, _, hne => first | rfl | exact absurd rfl hne
    | 16, _, hne => first | rfl | exact absurd rfl hne
    | 17, _, hne => first | rfl | exact absurd rfl hne
    | 18, _, hne => first | rfl | exact absurd rfl hne
    | 19, _, hne => first | rfl | exact absurd rfl hne
    | 20, _, hne => first | rfl | exact absurd rfl hne
    | 21, _, hne => first | rfl | exact absurd rfl hne
    | 22, _, hne => first | rfl | exact absurd rfl hne
    | 23, _, hne => first | rfl | exact absurd rfl hne
    | 24, _, hne => first | rfl | exact absurd rfl hne
    | 25, _, hne => first | rfl | exact absurd rfl hne
    | k + 26, hk, _ => exact absurd hk (by omega)) (fun a b _ _ g hg => by
    by_cases ha : a = 1 <;> simp [lc_w, lc_cu, ha] <;> omega)) hl hd kk
theorem lc_pWOff (j : Nat) {v : Int32} (hj : j < 2) (hl : lc_fl own idx (TX3 6)) (hd : decode cc pc = .ok (.putfield idx, 3)) (kk : lc_V G Γ cc nL own (pc + 3) lv (st) (lc_w σ j (lc_cu x.1 7 2 v, x.2))) : lc_V G Γ cc nL own (pc) lv (.int v :: .ref (G.1 (4 + j)) :: st) (lc_w σ j x) := by
  rcases (show j = 0 ∨ j = 1 by omega) with rfl | rfl
  · refine lc_put (lc_w σ 0 (lc_cu x.1 7 2 v, x.2)) 4 3 6 tyX3 (ty := .int) tyX3_ok nmX3 (by decide) (fs := _) rfl lc_cX3 (by decide) rfl (by decide +kernel) rfl rfl (Nat.le_of_ble_eq_true rfl) rfl (lc_h2 _ (fun k hk hne => by
    match k, hk, hne with
    | 0, _, hne => first | rfl | exact absurd rfl hne
    | 1, _, hne => first | rfl | exact absurd rfl hne
    | 2, _, hne => first | rfl | exact absurd rfl hne
    | 3, _, hne => first | rfl | exact absurd rfl hne
    | 4, _, hne => first | rfl | exact absurd rfl hne
    | 5, _, hne => first | rfl | exact absurd rfl hne
    | 6, _, hne => first | rfl | exact absurd rfl hne
    | 7, _, hne => first | rfl | exact absurd rfl hne
    | 8, _, hne => first | rfl | exact absurd rfl hne
    | 9, _, hne => first | rfl | exact absurd rfl hne
    | 10, _, hne => first | rfl | exact absurd rfl hne
    | 11, _, hne => first | rfl | exact absurd rfl hne
    | 12, _, hne => first | rfl | exact absurd rfl hne
    | 13, _, hne => first | rfl | exact absurd rfl hne
    | 14, _, hne => first | rfl | exact absurd rfl hne
    | 15, _, hne => first | rfl | exact absurd rfl hne
    | 16, _, hne => first | rfl | exact absurd rfl hne
    | 17, _, hne => first | rfl | exact absurd rfl hne
    | 18, _, hne => first | rfl | exact absurd rfl hne
    | 19, _, hne => first | rfl | exact absurd rfl hne
    | 20, _, hne => first | rfl | exact absurd rfl hne
    | 21, _, hne => first | rfl | exact absurd rfl hne
    | 22, _, hne => first | rfl | exact absurd rfl hne
    | 23, _, hne => first | rfl | exact absurd rfl hne
    | 24, _, hne => first | rfl | exact absurd rfl hne
    | 25, _, hne => first | rfl | exact absurd rfl hne
    | k + 26, hk, _ => exact absurd hk (by omega)) (fun a b _ _ g hg => by
    by_cases ha : a = 0 <;> simp [lc_w, lc_cu, ha] <;> omega)) hl hd kk
  · refine lc_put (lc_w σ 1 (lc_cu x.1 7 2 v, x.2)) 5 3 6 tyX3 (ty := .int) tyX3_ok nmX3 (by decide) (fs := _) rfl lc_cX3 (by decide) rfl (by decide +kernel) rfl rfl (Nat.le_of_ble_eq_true rfl) rfl (lc_h2 _ (fun k hk hne => by
    match k, hk, hne with
    | 0, _, hne => first | rfl | exact absurd rfl hne
    | 1, _, hne => first | rfl | exact absurd rfl hne
    | 2, _, hne => first | rfl | exact absurd rfl hne
    | 3, _, hne => first | rfl | exact absurd rfl hne
    | 4, _, hne => first | rfl | exact absurd rfl hne
    | 5, _, hne => first | rfl | exact absurd rfl hne
    | 6, _, hne => first | rfl | exact absurd rfl hne
    | 7, _, hne => first | rfl | exact absurd rfl hne
    | 8, _, hne => first | rfl | exact absurd rfl hne
    | 9, _, hne => first | rfl | exact absurd rfl hne
    | 10, _, hne => first | rfl | exact absurd rfl hne
    | 11, _, hne => first | rfl | exact absurd rfl hne
    | 12, _, hne => first | rfl | exact absurd rfl hne
    | 13, _, hne => first | rfl | exact absurd rfl hne
    | 14, _, hne => first | rfl | exact absurd rfl hne
    | 15, _, hne => first | rfl | exact absurd rfl hne
    | 16, _, hne => first | rfl | exact absurd rfl hne
    | 17, _, hne => first | rfl | exact absurd rfl hne
    | 18, _, hne => first | rfl | exact absurd rfl hne
    | 19, _, hne => first | rfl | exact absurd rfl hne
    | 20, _, hne => first | rfl | exact absurd rfl hne
    | 21, _, hne => first | rfl | exact absurd rfl hne
    | 22, _, hne => first | rfl | exact absurd rfl hne
    | 23, _, hne => first | rfl | exact absurd rfl hne
    | 24, _, hne => first | rfl | exact absurd rfl hne
    | 25, _, hne => first | rfl | exact absurd rfl hne
    | k + 26, hk, _ => exact absurd hk (by omega)) (fun a b _ _ g hg => by
    by_cases ha : a = 1 <;> simp [lc_w, lc_cu, ha] <;> omega)) hl hd kk
theorem lc_pWTra (j : Nat) {v : Int32} (t : Int32) (hv : v = σ.2.1 j 0 + t) (hj : j < 2) (hl : lc_fl own idx (TX3 7)) (hd : decode cc pc = .ok (.putfield idx, 3)) (kk : lc_V G Γ cc nL own (pc + 3) lv (st) (lc_w σ j (x.1, t, x.2.2.1, x.2.2.2))) : lc_V G Γ cc nL own (pc) lv (.int v :: .ref (G.1 (4 + j)) :: st) (lc_w σ j x) := by
  subst hv
  rcases (show j = 0 ∨ j = 1 by omega) with rfl | rfl
  · refine lc_put (lc_w σ 0 (x.1, t, x.2.2.1, x.2.2.2)) 4 3 7 tyX3 (ty := .int) tyX3_ok nmX3 (by decide) (fs := _) rfl lc_cX3 (by decide) rfl (by decide +kernel) rfl rfl (Nat.le_of_ble_eq_true rfl) rfl (lc_h2 _ (fun k hk hne => by
    match k, hk, hne with
    | 0, _, hne => first | rfl | exact absurd rfl hne
    | 1, _, hne => first | rfl | exact absurd rfl hne
    | 2, _, hne => first | rfl | exact absurd rfl hne
    | 3, _, hne => first | rfl | exact absurd rfl hne
    | 4, _, hne => first | rfl | exact absurd rfl hne
    | 5, _, hne => first | rfl | exact absurd rfl hne
    | 6, _, hne => first | rfl | exact absurd rfl hne
    | 7, _, hne => first | rfl | exact absurd rfl hne
    | 8, _, hne => first | rfl | exact absurd rfl hne
    | 9, _, hne => first | rfl | exact absurd rfl hne
    | 10, _, hne => first | rfl | exact absurd rfl hne
    | 11, _, hne => first | rfl | exact absurd rfl hne
    | 12, _, hne => first | rfl | exact absurd rfl hne
    | 13, _, hne => first | rfl | exact absurd rfl hne
    | 14, _, hne => first | rfl | exact absurd rfl hne
    | 15, _, hne => first | rfl | exact absurd rfl hne
    | 16, _, hne => first | rfl | exact absurd rfl hne
    | 17, _, hne => first | rfl | exact absurd rfl hne
    | 18, _, hne => first | rfl | exact absurd rfl hne
    | 19, _, hne => first | rfl | exact absurd rfl hne
    | 20, _, hne => first | rfl | exact absurd rfl hne
    | 21, _, hne => first | rfl | exact absurd rfl hne
    | 22, _, hne => first | rfl | exact absurd rfl hne
    | 23, _, hne => first | rfl | exact absurd rfl hne
    | 24, _, hne => first | rfl | exact absurd rfl hne
    | 25, _, hne => first | rfl | exact absurd rfl hne
    | k + 26, hk, _ => exact absurd hk (by omega)) (fun a b _ _ g hg => rfl)) hl hd kk
  · refine lc_put (lc_w σ 1 (x.1, t, x.2.2.1, x.2.2.2)) 5 3 7 tyX3 (ty := .int) tyX3_ok nmX3 (by decide) (fs := _) rfl lc_cX3 (by decide) rfl (by decide +kernel) rfl rfl (Nat.le_of_ble_eq_true rfl) rfl (lc_h2 _ (fun k hk hne => by
    match k, hk, hne with
    | 0, _, hne => first | rfl | exact absurd rfl hne
    | 1, _, hne => first | rfl | exact absurd rfl hne
    | 2, _, hne => first | rfl | exact absurd rfl hne
    | 3, _, hne => first | rfl | exact absurd rfl hne
    | 4, _, hne => first | rfl | exact absurd rfl hne
    | 5, _, hne => first | rfl | exact absurd rfl hne
    | 6, _, hne => first | rfl | exact absurd rfl hne
    | 7, _, hne => first | rfl | exact absurd rfl hne
    | 8, _, hne => first | rfl | exact absurd rfl hne
    | 9, _, hne => first | rfl | exact absurd rfl hne
    | 10, _, hne => first | rfl | exact absurd rfl hne
    | 11, _, hne => first | rfl | exact absurd rfl hne
    | 12, _, hne => first | rfl | exact absurd rfl hne
    | 13, _, hne => first | rfl | exact absurd rfl hne
    | 14, _, hne => first | rfl | exact absurd rfl hne
    | 15, _, hne => first | rfl | exact absurd rfl hne
    | 16, _, hne => first | rfl | exact absurd rfl hne
    | 17, _, hne => first | rfl | exact absurd rfl hne
    | 18, _, hne => first | rfl | exact absurd rfl hne
    | 19, _, hne => first | rfl | exact absurd rfl hne
    | 20, _, hne => first | rfl | exact absurd rfl hne
    | 21, _, hne => first | rfl | exact absurd rfl hne
    | 22, _, hne => first | rfl | exact absurd rfl hne
    | 23, _, hne => first | rfl | exact absurd rfl hne
    | 24, _, hne => first | rfl | exact absurd rfl hne
    | 25, _, hne => first | rfl | exact absurd rfl hne
    | k + 26, hk, _ => exact absurd hk (by omega)) (fun a b _ _ g hg => rfl)) hl hd kk
theorem lc_pWWok (j : Nat) {v : Int32} (t : Int32) (hv : v = σ.2.1 j 1 + t) (hj : j < 2) (hl : lc_fl own idx (TX3 8)) (hd : decode cc pc = .ok (.putfield idx, 3)) (kk : lc_V G Γ cc nL own (pc + 3) lv (st) (lc_w σ j (x.1, x.2.1, t, x.2.2.2))) : lc_V G Γ cc nL own (pc) lv (.int v :: .ref (G.1 (4 + j)) :: st) (lc_w σ j x) := by
  subst hv
  rcases (show j = 0 ∨ j = 1 by omega) with rfl | rfl
  · refine lc_put (lc_w σ 0 (x.1, x.2.1, t, x.2.2.2)) 4 3 8 tyX3 (ty := .int) tyX3_ok nmX3 (by decide) (fs := _) rfl lc_cX3 (by decide) rfl (by decide +kernel) rfl rfl (Nat.le_of_ble_eq_true rfl) rfl (lc_h2 _ (fun k hk hne => by
    match k, hk, hne with
    | 0, _, hne => first | rfl | exact absurd rfl hne
    | 1, _, hne => first | rfl | exact absurd rfl hne
    | 2, _, hne => first | rfl | exact absurd rfl hne
    | 3, _, hne => first | rfl | exact absurd rfl hne
    | 4, _, hne => first | rfl | exact absurd rfl hne
    | 5, _, hne => first | rfl | exact absurd rfl hne
    | 6, _, hne => first | rfl | exact absurd rfl hne
    | 7, _, hne => first | rfl | exact absurd rfl hne
    | 8, _, hne => first | rfl | exact absurd rfl hne
    | 9, _, hne => first | rfl | exact absurd rfl hne
    | 10, _, hne => first | rfl | exact absurd rfl hne
    | 11, _, hne => first | rfl | exact absurd rfl hne
    | 12, _, hne => first | rfl | exact absurd rfl hne
    | 13, _, hne => first | rfl | exact absurd rfl hne
    | 14, _, hne => first | rfl | exact absurd rfl hne
    | 15, _, hne => first | rfl | exact absurd rfl hne
    | 16, _, hne => first | rfl | exact absurd rfl hne
    | 17, _, hne => first | rfl | exact absurd rfl hne
    | 18, _, hne => first | rfl | exact absurd rfl hne
    | 19, _, hne => first | rfl | exact absurd rfl hne
    | 20, _, hne => first | rfl | exact absurd rfl hne
    | 21, _, hne => first | rfl | exact absurd rfl hne
    | 22, _, hne => first | rfl | exact absurd rfl hne
    | 23, _, hne => first | rfl | exact absurd rfl hne
    | 24, _, hne => first | rfl | exact absurd rfl hne
    | 25, _, hne => first | rfl | exact absurd rfl hne
    | k + 26, hk, _ => exact absurd hk (by omega)) (fun a b _ _ g hg => rfl)) hl hd kk
  · refine lc_put (lc_w σ 1 (x.1, x.2.1, t, x.2.2.2)) 5 3 8 tyX3 (ty := .int) tyX3_ok nmX3 (by decide) (fs := _) rfl lc_cX3 (by decide) rfl (by decide +kernel) rfl rfl (Nat.le_of_ble_eq_true rfl) rfl (lc_h2 _ (fun k hk hne => by
    match k, hk, hne with
    | 0, _, hne => first | rfl | exact absurd rfl hne
    | 1, _, hne => first | rfl | exact absurd rfl hne
    | 2, _, hne => first | rfl | exact absurd rfl hne
    | 3, _, hne => first | rfl | exact absurd rfl hne
    | 4, _, hne => first | rfl | exact absurd rfl hne
    | 5, _, hne => first | rfl | exact absurd rfl hne
    | 6, _, hne => first | rfl | exact absurd rfl hne
    | 7, _, hne => first | rfl | exact absurd rfl hne
    | 8, _, hne => first | rfl | exact absurd rfl hne
    | 9, _, hne => first | rfl | exact absurd rfl hne
    | 10, _, hne => first | rfl | exact absurd rfl hne
    | 11, _, hne => first | rfl | exact absurd rfl hne
    | 12, _, hne => first | rfl | exact absurd rfl hne
    | 13, _, hne => first | rfl | exact absurd rfl hne
    | 14, _, hne => first | rfl | exact absurd rfl hne
    | 15, _, hne => first | rfl | exact absurd rfl hne
    | 16, _, hne => first | rfl | exact absurd rfl hne
    | 17, _, hne => first | rfl | exact absurd rfl hne
    | 18, _, hne => first | rfl | exact absurd rfl hne
    | 19, _, hne => first | rfl | exact absurd rfl hne
    | 20, _, hne => first | rfl | exact absurd rfl hne
    | 21, _, hne => first | rfl | exact absurd rfl hne
    | 22, _, hne => first | rfl | exact absurd rfl hne
    | 23, _, hne => first | rfl | exact absurd rfl hne
    | 24, _, hne => first | rfl | exact absurd rfl hne
    | 25, _, hne => first | rfl | exact absurd rfl hne
    | k + 26, hk, _ => exact absurd hk (by omega)) (fun a b _ _ g hg => rfl)) hl hd kk
theorem lc_pWGon (j : Nat) {v : Int32} (t : Int32) (hv : v = σ.2.1 j 2 + t) (hj : j < 2) (hl : lc_fl own idx (TX3 9)) (hd : decode cc pc = .ok (.putfield idx, 3)) (kk : lc_V G Γ cc nL own (pc + 3) lv (st) (lc_w σ j (x.1, x.2.1, x.2.2.1, t))) : lc_V G Γ cc nL own (pc) lv (.int v :: .ref (G.1 (4 + j)) :: st) (lc_w σ j x) := by
  subst hv
  rcases (show j = 0 ∨ j = 1 by omega) with rfl | rfl
  · refine lc_put (lc_w σ 0 (x.1, x.2.1, x.2.2.1, t)) 4 3 9 tyX3 (ty := .int) tyX3_ok nmX3 (by decide) (fs := _) rfl lc_cX3 (by decide) rfl (by decide +kernel) rfl rfl (Nat.le_of_ble_eq_true rfl) rfl (lc_h2 _ (fun k hk hne => by
    match k, hk, hne with
    | 0, _, hne => first | rfl | exact absurd rfl hne
    | 1, _, hne => first | rfl | exact absurd rfl hne
    | 2, _, hne => first | rfl | exact absurd rfl hne
    | 3, _, hne => first | rfl | exact absurd rfl hne
    | 4, _, hne => first | rfl | exact absurd rfl hne
    | 5, _, hne => first | rfl | exact absurd rfl hne
    | 6, _, hne => first | rfl | exact absurd rfl hne
    | 7, _, hne => first | rfl | exact absurd rfl hne
    | 8, _, hne => first | rfl | exact absurd rfl hne
    | 9, _, hne => first | rfl | exact absurd rfl hne
    | 10, _, hne => first | rfl | exact absurd rfl hne
    | 11, _, hne => first | rfl | exact absurd rfl hne
    | 12, _, hne => first | rfl | exact absurd rfl hne
    | 13, _, hne => first | rfl | exact absurd rfl hne
    | 14, _, hne => first | rfl | exact absurd rfl hne
    | 15, _, hne => first | rfl | exact absurd rfl hne
    | 16, _, hne => first | rfl | exact absurd rfl hne
    | 17, _, hne => first | rfl | exact absurd rfl hne
    | 18, _, hne => first | rfl | exact absurd rfl hne
    | 19, _, hne => first | rfl | exact absurd rfl hne
    | 20, _, hne => first | rfl | exact absurd rfl hne
    | 21, _, hne => first | rfl | exact absurd rfl hne
    | 22, _, hne => first | rfl | exact absurd rfl hne
    | 23, _, hne => first | rfl | exact absurd rfl hne
    | 24, _, hne => first | rfl | exact absurd rfl hne
    | 25, _, hne => first | rfl | exact absurd rfl hne
    | k + 26, hk, _ => exact absurd hk (by omega)) (fun a b _ _ g hg => rfl)) hl hd kk
  · refine lc_put (lc_w σ 1 (x.1, x.2.1, x.2.2.1, t)) 5 3 9 tyX3 (ty := .int) tyX3_ok nmX3 (by decide) (fs := _) rfl lc_cX3 (by decide) rfl (by decide +kernel) rfl rfl (Nat.le_of_ble_eq_true rfl) rfl (lc_h2 _ (fun k hk hne => by
    match k, hk, hne with
    | 0, _, hne => first | rfl | exact absurd rfl hne
    | 1, _, hne => first | rfl | exact absurd rfl hne
    | 2, _, hne => first | rfl | exact absurd rfl hne
    | 3, _, hne => first | rfl | exact absurd rfl hne
    | 4, _, hne => first | rfl | exact absurd rfl hne
    | 5, _, hne => first | rfl | exact absurd rfl hne
    | 6, _, hne => first | rfl | exact absurd rfl hne
    | 7, _, hne => first | rfl | exact absurd rfl hne
    | 8, _, hne => first | rfl | exact absurd rfl hne
    | 9, _, hne => first | rfl | exact absurd rfl hne
    | 10, _, hne => first | rfl | exact absurd rfl hne
    | 11, _, hne => first | rfl | exact absurd rfl hne
    | 12, _, hne => first | rfl | exact absurd rfl hne
    | 13, _, hne => first | rfl | exact absurd rfl hne
    | 14, _, hne => first | rfl | exact absurd rfl hne
    | 15, _, hne => first | rfl | exact absurd rfl hne
    | 16, _, hne => first | rfl | exact absurd rfl hne
    | 17, _, hne => first | rfl | exact absurd rfl hne
    | 18, _, hne => first | rfl | exact absurd rfl hne
    | 19, _, hne => first | rfl | exact absurd rfl hne
    | 20, _, hne => first | rfl | exact absurd rfl hne
    | 21, _, hne => first | rfl | exact absurd rfl hne
    | 22, _, hne => first | rfl | exact absurd rfl hne
    | 23, _, hne => first | rfl | exact absurd rfl hne
    | 24, _, hne => first | rfl | exact absurd rfl hne
    | 25, _, hne => first | rfl | exact absurd rfl hne
    | k + 26, hk, _ => exact absurd hk (by omega)) (fun a b _ _ g hg => rfl)) hl hd kk
theorem lc_eLim (j : Nat) (hj : j < 2) : lc_ent G (lc_w σ j x) (6 + j) = lc_aE G 4 (x.1 6) := by
  rcases (show j = 0 ∨ j = 1 by omega) with rfl | rfl <;> rfl
theorem lc_eW (j : Nat) (hj : j < 2) : lc_ent G σ (4 + j) = lc_wE G σ j := by
  rcases (show j = 0 ∨ j = 1 by omega) with rfl | rfl <;> rfl
theorem lc_ePos (j : Nat) (hj : j < 2) : lc_ent G σ (8 + j) = lc_aE G 6 (σ.2.1 (6 + j)) := by
  rcases (show j = 0 ∨ j = 1 by omega) with rfl | rfl <;> rfl
theorem lc_eLat (j : Nat) (hj : j < 2) : lc_ent G σ (12 + j) = lc_aE G 4 (σ.2.1 (3 + j)) := by
  rcases (show j = 0 ∨ j = 1 by omega) with rfl | rfl <;> rfl

end LCR
