def lc_cr (B : lc_C) (r : Nat) (f : Nat → Int32) : lc_C := fun a b => if a = r then f b else B a b
def lc_ro (σ : lc_S) (r : Nat) (f : Nat → Int32) : lc_S := (σ.1, fun a => if a = r then f else σ.2.1 a, σ.2.2)
theorem lc_ro_w (σ : lc_S) {j r : Nat} (f : Nat → Int32) (x : lc_X) (h : r ≠ j) : lc_ro (lc_w σ j x) r f = lc_w (lc_ro σ r f) j x := by
  unfold lc_ro lc_w
  refine Prod.ext rfl (Prod.ext ?_ rfl)
  funext a
  by_cases ha : a = j
  · subst ha
    have e : ¬ a = r := fun z => h z.symm
    simp [e]
  · simp [ha]
section LCR3
variable {G : lc_G} {Γ : lc_Γ} {cc : ByteArray} {nL : Nat} {own : String} {pc : Nat} {lv : List (Nat × Value)} {st : List Value} {σ : lc_S} {x : lc_X} {idx : Nat}

theorem lc_iushr {a b : Int32} (hd : decode cc pc = .ok (.iushr, 1)) (kk : lc_V G Γ cc nL own (pc + 1) lv (.int (a.toUInt32 >>> (b.toUInt32 &&& Int32.toUInt32 31)).toInt32 :: st) (σ)) : lc_V G Γ cc nL own (pc) lv (.int b :: .int a :: st) (σ) := fun C H locs ls hP hl => lv_iushr C.1 C.2.1 hd rfl (kk C H locs ls hP hl)
theorem lc_ldcw {v : Int32} (hw : Cond.constant own idx v ∈ lc_T) (hd : decode cc pc = .ok (.ldc_w idx, 3)) (kk : lc_V G Γ cc nL own (pc + 3) lv (.int v :: st) (σ)) : lc_V G Γ cc nL own (pc) lv (st) (σ) := fun C H locs ls hP hl => lv_ldcw C.1 C.2.1 C.2.2.2.1 (C.2.2.2.2.1.use _ hw) hd (kk C H locs ls hP hl)
theorem lc_look {dflt : Int} {ps : Array (Int × Int)} {len : Nat} {a : Int32} {off : Int} (tgt : Nat) (hd : decode cc pc = .ok (.lookupswitch dflt ps, len)) (hp : (ps.toList.zip (ps.toList.drop 1)).all (fun (a, next) => a.1 < next.1) = true) (ho : Op.lookupswitch.offset ps.toList dflt a.toInt = off) (ht : (pc : Int) + off = (tgt : Int)) (kk : lc_V G Γ cc nL own (tgt) lv (st) (σ)) : lc_V G Γ cc nL own (pc) lv (.int a :: st) (σ) := fun C H locs ls hP hl => lv_lookup C.1 C.2.1 hd hp ho ht (kk C H locs ls hP hl)
theorem lc_tabIn {dflt hi : Int} {offs : Array Int} {len : Nat} {off : Int} (tgt i : Nat) (hd : decode cc pc = .ok (.tableswitch dflt 0 hi offs, len)) (h2 : (i : Int) ≤ hi) (hs : i < 2 ^ 31) (ho : offs[i]? = some off) (ht : (pc : Int) + off = (tgt : Int)) (kk : lc_V G Γ cc nL own (tgt) lv (st) (σ)) : lc_V G Γ cc nL own (pc) lv (.int (nI i) :: st) (σ) := fun C H locs ls hP hl => lv_tableIn C.1 C.2.1 hd (by rw [nI_toInt hs]; omega) (by rw [nI_toInt hs]; omega) (by rw [nI_toInt hs]; simpa using ho) ht (kk C H locs ls hP hl)
theorem lc_tabOut {dflt hi : Int} {offs : Array Int} {len : Nat} {a : Int32} (tgt : Nat) (hd : decode cc pc = .ok (.tableswitch dflt 0 hi offs, len)) (h : a.toInt < 0 ∨ hi < a.toInt) (ht : (pc : Int) + dflt = (tgt : Int)) (kk : lc_V G Γ cc nL own (tgt) lv (st) (σ)) : lc_V G Γ cc nL own (pc) lv (.int a :: st) (σ) := fun C H locs ls hP hl => lv_tableOut C.1 C.2.1 hd h ht (kk C H locs ls hP hl)
theorem lc_eLatw (j : Nat) (hj : j < 2) : lc_ent G (lc_w σ j x) (12 + j) = lc_aE G 4 (σ.2.1 (3 + j)) := by rw [lc_eLat j hj, lc_w_on σ x (by omega)]
theorem lc_ePosw (j : Nat) (hj : j < 2) : lc_ent G (lc_w σ j x) (8 + j) = lc_aE G 6 (σ.2.1 (6 + j)) := by rw [lc_ePos j hj, lc_w_on σ x (by omega)]
theorem lc_arr_eq {cA : ClassId} {n : Nat} {f g : Nat → Int32} (h : ∀ i, i < n → f i = g i) : vp_cell cA (n, .inl f) = vp_cell cA (n, .inl g) := by
  rw [vp_cell_i, vp_cell_i]
  unfold arrV
  congr 1
  apply congrArg
  funext i
  show Value.int (f i.val) = Value.int (g i.val)
  rw [h i.val i.isLt]
/-- two states that no cell tells apart -/
def lc_sim (σ σ' : lc_S) : Prop := (∀ j f i, j < 3 → f < 6 → i < 24 → σ.1 j f i = σ'.1 j f i) ∧ (∀ j i, j < 3 → i < 4 → σ.1 j 6 i = σ'.1 j 6 i) ∧ (∀ j i, j < 3 → i < 3 → σ.1 j 7 i = σ'.1 j 7 i) ∧ (∀ r i, r < 3 → i < 3 → σ.2.1 r i = σ'.2.1 r i) ∧ (∀ r i, 3 ≤ r → r < 6 → i < 4 → σ.2.1 r i = σ'.2.1 r i) ∧ (∀ r i, 6 ≤ r → r < 10 → i < 6 → σ.2.1 r i = σ'.2.1 r i) ∧ (∀ i, i < 4 → σ.2.1 10 i = σ'.2.1 10 i) ∧ (∀ i, i < 6 → σ.2.1 11 i = σ'.2.1 11 i) ∧ (∀ i, i < 4 → σ.2.1 12 i = σ'.2.1 12 i) ∧ (∀ i, i < 148 → σ.2.1 13 i = σ'.2.1 13 i) ∧ σ.2.2 0 = σ'.2.2 0 ∧ σ.2.2 1 = σ'.2.2 1
theorem lc_P_sim {σ σ' : lc_S} {H : Heap} (h : lc_sim σ σ') (hP : lc_P G σ H) : lc_P G σ' H := by
  obtain ⟨h0, h6, h7, hc, hl, hp, h10, h11, h12, h13, hs0, hs1⟩ := h
  intro k q hq
  obtain ⟨hk, rfl⟩ := lc_ws_mem hq
  have hP1 := hP k _ (lc_ws_get G σ hk)
  by_cases h26 : k < 26
  · match k, h26 with
    | 0, _ => rw [show lc_ent G σ' 0 = lc_ent G σ 0 by simp only [lc_ent]; rw [h10 1 (by decide)]]; exact hP1
    | 1, _ => rw [show lc_ent G σ' 1 = lc_ent G σ 1 by simp only [lc_ent]; rw [h10 0 (by decide)]]; exact hP1
    | 2, _ => exact hP1.trans (congrArg some (lc_arr_eq (fun i hi => hp 9 i (by decide) (by decide) hi)))
    | 3, _ => rw [show lc_ent G σ' 3 = lc_ent G σ 3 by simp only [lc_ent]; rw [h10 2 (by decide), h10 3 (by decide)]]; exact hP1
    | 4, _ => rw [show lc_ent G σ' 4 = lc_ent G σ 4 by simp only [lc_ent, lc_wE]; rw [h7 0 0 (by decide) (by decide), h7 0 1 (by decide) (by decide), h7 0 2 (by decide) (by decide), hc 0 0 (by decide) (by decide), hc 0 1 (by decide) (by decide), hc 0 2 (by decide) (by decide)]]; exact hP1
    | 5, _ => rw [show lc_ent G σ' 5 = lc_ent G σ 5 by simp only [lc_ent, lc_wE]; rw [h7 1 0 (by decide) (by decide), h7 1 1 (by decide) (by decide), h7 1 2 (by decide) (by decide), hc 1 0 (by decide) (by decide), hc 1 1 (by decide) (by decide), hc 1 2 (by decide) (by decide)]]; exact hP1
    | 6, _ => exact hP1.trans (congrArg some (lc_arr_eq (fun i hi => h6 0 i (by decide) hi)))
    | 7, _ => exact hP1.trans (congrArg some (lc_arr_eq (fun i hi => h6 1 i (by decide) hi)))
    | 8, _ => exact hP1.trans (congrArg some (lc_arr_eq (fun i hi => hp 6 i (by decide) (by decide) hi)))
    | 9, _ => exact hP1.trans (congrArg some (lc_arr_eq (fun i hi => hp 7 i (by decide) (by decide) hi)))
    | 10, _ => exact hP1
    | 11, _ => exact hP1
    | 12, _ => exact hP1.trans (congrArg some (lc_arr_eq (fun i hi => hl 3 i (by decide) (by decide) hi)))
    | 13, _ => exact hP1.trans (congrArg some (lc_arr_eq (fun i hi => hl 4 i (by decide) (by decide) hi)))
    | 14, _ => rw [show lc_ent G σ' 14 = lc_ent G σ 14 by simp only [lc_ent, lc_mE]; rw [h7 2 0 (by decide) (by decide), h7 2 1 (by decide) (by decide), h7 2 2 (by decide) (by decide), hc 2 0 (by decide) (by decide), hc 2 1 (by decide) (by decide), hc 2 2 (by decide) (by decide), h12 0 (by decide), h12 1 (by decide), h12 2 (by decide), h12 3 (by decide), hs0, hs1]]; exact hP1
    | 15, _ => exact hP1.trans (congrArg some (lc_arr_eq (fun i hi => h11 i hi)))
    | 16, _ => exact hP1.trans (congrArg some (lc_arr_eq (fun i hi => hp 8 i (by decide) (by decide) hi)))
    | 17, _ => exact hP1.trans (congrArg some (lc_arr_eq (fun i hi => h6 2 i (by decide) hi)))
    | 18, _ => exact hP1.trans (congrArg some (lc_arr_eq (fun i hi => h0 2 0 i (by decide) (by decide) hi)))
    | 19, _ => exact hP1.trans (congrArg some (lc_arr_eq (fun i hi => h0 2 1 i (by decide) (by decide) hi)))
    | 20, _ => exact hP1.trans (congrArg some (lc_arr_eq (fun i hi => h0 2 2 i (by decide) (by decide) hi)))
    | 21, _ => exact hP1.trans (congrArg some (lc_arr_eq (fun i hi => h0 2 3 i (by decide) (by decide) hi)))
    | 22, _ => exact hP1.trans (congrArg some (lc_arr_eq (fun i hi => h0 2 4 i (by decide) (by decide) hi)))
    | 23, _ => exact hP1.trans (congrArg some (lc_arr_eq (fun i hi => h0 2 5 i (by decide) (by decide) hi)))
    | 24, _ => exact hP1.trans (congrArg some (lc_arr_eq (fun i hi => hl 5 i (by decide) (by decide) hi)))
    | 25, _ => exact hP1.trans (congrArg some (lc_arr_eq (fun i hi => h13 i hi)))
    | k + 26, h => exact absurd h (by omega)
  · have e : k = lc_it ((k - 26) / 24) ((k - 26) % 24) := by unfold lc_it; omega
    have hb : (k - 26) % 24 < 24 := Nat.mod_lt _ (by decide)
    have ha : (k - 26) / 24 < 2 := by omega
    rw [show lc_ent G σ' k = lc_ent G σ k by
      rw [e, lc_ent_it G σ' hb, lc_ent_it G σ hb]
      exact lc_iE_eq (fun f hf => (h0 _ f _ (by omega) hf hb).symm)]
    exact hP1
theorem lc_gh {σ' : lc_S} (h : lc_sim σ σ') (kk : lc_V G Γ cc nL own (pc) lv (st) (σ')) : lc_V G Γ cc nL own (pc) lv (st) (σ) := fun C H locs ls hP hl => kk C H locs ls ⟨lc_P_sim h hP.1, hP.2⟩ hl
theorem lc_copyLim (hw : own = RX3) (hf : 1 ≤ (lc_γR Γ).frames ∧ (st.map fun v => v.category).sum + 18 ≤ (lc_γR Γ).locals) (hd : decode cc pc = .ok (.invokestatic 58, 3)) (kk : lc_V G Γ cc nL own (pc + 3) lv (st) (lc_w σ 1 (lc_cr x.1 6 (va_cpy (σ.1 0 6) (x.1 6) 0 0 4), x.2))) : lc_V G Γ cc nL own (pc) lv (.int (nI 4) :: .int 0 :: .ref (G.1 7) :: .int 0 :: .ref (G.1 6) :: st) (lc_w σ 1 x) := by
  intro C H locs ls hP hl
  subst hw
  have hT := C.2.2.2.2.1
  have hD : va_D (lc_γA Γ) (lc_ws G (lc_w σ 1 x)) := lc_D C.2.2.2.2.2.2.1 C.2.2.2.2.2.2.2.1
  have hse := lc_ws_set G (lc_w σ 1 x) (lc_w σ 1 (lc_cr x.1 6 (va_cpy (σ.1 0 6) (x.1 6) 0 0 4), x.2)) (k := 7) (E := lc_aE G 4 (va_cpy (σ.1 0 6) (x.1 6) 0 0 4)) rfl (lc_h3 7 (fun k hk hne => by
    match k, hk, hne with
    | 0, _, hne => first | rfl | exact absurd rfl hne
    | 1, _, hne => first | rfl | exact absurd rfl hne
    | 2, _, hne => first | rfl | exact absurd rfl hne
    | 3, _, hne => first | rfl | exact absurd rfl hne
    | 4, _, hne => first | rfl | exact absurd rfl hne
    | 5, _, hne => first | rfl | exact absurd rfl hne
    | 6, _, hne => first | rfl | exact absurd rfl hne
    | 7, _, hne => first | rfl | exact absurd rfl hne
    | 8, _, hne => first | rfl | exact absurd rfl hne
    | 9, _, hne => first | rfl | exact absurd rfl hne
    | 10, _, hne => first | rfl | exact absurd rfl hne
    | 11, _, hne => first | rfl | exact absurd rfl hne
    | 12, _, hne => first | rfl | exact absurd rfl hne
    | 13, _, hne => first | rfl | exact absurd rfl hne
    | 14, _, hne => first | rfl | exact absurd rfl hne
    | 15, _, hne => first | rfl | exact absurd rfl hne
    | 16, _, hne => first | rfl | exact absurd rfl hne
    | 17, _, hne => first | rfl | exact absurd rfl hne
    | 18, _, hne => first | rfl | exact absurd rfl hne
    | 19, _, hne => first | rfl | exact absurd rfl hne
    | 20, _, hne => first | rfl | exact absurd rfl hne
    | 21, _, hne => first | rfl | exact absurd rfl hne
    | 22, _, hne => first | rfl | exact absurd rfl hne
    | 23, _, hne => first | rfl | exact absurd rfl hne
    | 24, _, hne => first | rfl | exact absurd rfl hne
    | 25, _, hne => first | rfl | exact absurd rfl hne
    | k + 26, hk, _ => exact absurd hk (by omega)) (fun a b _ _ g hg => by
    by_cases h : a = 1
    · subst h
      have e : ¬ g = 6 := by omega
      simp [lc_w, lc_cr, e]
    · simp [lc_w, h]))
  refine va_copyi (D := (G.2.1, G.2.2.1)) C.1 C.2.1 (C.2.2.1.trans hl.1.symm) C.2.2.2.1 (hT.use _ (lc_in 494 (by decide +kernel) rfl)) (hT.use _ (lc_in 496 (by decide +kernel) rfl)) (hT.use _ (lc_in 495 (by decide +kernel) rfl)) (hT.use _ (lc_in 89 (by decide +kernel) rfl)) C.2.2.2.2.2.1 hP.1 hD hP.2 6 7 0 0 (lc_ws_get G _ (by decide)) (lc_ws_get G _ (by decide)) rfl rfl (ty := .int) rfl (by decide) (by decide) (by decide) (Nat.le_of_ble_eq_true rfl) (Nat.le_of_ble_eq_true rfl) (fun _ _ => rfl) hf.1 hf.2 hd (fun H1 locs1 hP1 hD1 hS1 => ?_)
  have hP2 : lc_P G (lc_w σ 1 (lc_cr x.1 6 (va_cpy (σ.1 0 6) (x.1 6) 0 0 4), x.2)) H1 := by
    unfold lc_P
    rw [← hse]
    exact hP1
  exact kk C H1 locs1 ls ⟨hP2, hS1⟩ hl
theorem lc_copyPos (hw : own = RX3) (hf : 1 ≤ (lc_γR Γ).frames ∧ (st.map fun v => v.category).sum + 18 ≤ (lc_γR Γ).locals) (hd : decode cc pc = .ok (.invokestatic 58, 3)) (kk : lc_V G Γ cc nL own (pc + 3) lv (st) (lc_w (lc_ro σ 7 (va_cpy (σ.2.1 6) (σ.2.1 7) 0 0 6)) 1 x)) : lc_V G Γ cc nL own (pc) lv (.int 6 :: .int 0 :: .ref (G.1 9) :: .int 0 :: .ref (G.1 8) :: st) (lc_w σ 1 x) := by
  intro C H locs ls hP hl
  subst hw
  have hT := C.2.2.2.2.1
  have hD : va_D (lc_γA Γ) (lc_ws G (lc_w σ 1 x)) := lc_D C.2.2.2.2.2.2.1 C.2.2.2.2.2.2.2.1
  have hse := lc_ws_set G (lc_w σ 1 x) (lc_w (lc_ro σ 7 (va_cpy (σ.2.1 6) (σ.2.1 7) 0 0 6)) 1 x) (k := 9) (E := lc_aE G 6 (va_cpy (σ.2.1 6) (σ.2.1 7) 0 0 6)) rfl (lc_h3 9 (fun k hk hne => by
    match k, hk, hne with
    | 0, _, hne => first | rfl | exact absurd rfl hne
    | 1, _, hne => first | rfl | exact absurd rfl hne
    | 2, _, hne => first | rfl | exact absurd rfl hne
    | 3, _, hne => first | rfl | exact absurd rfl hne
    | 4, _, hne => first | rfl | exact absurd rfl hne
    | 5, _, hne => first | rfl | exact absurd rfl hne
    | 6, _, hne => first | rfl | exact absurd rfl hne
    | 7, _, hne => first | rfl | exact absurd rfl hne
    | 8, _, hne => first | rfl | exact absurd rfl hne
    | 9, _, hne => first | rfl | exact absurd rfl hne
    | 10, _, hne => first | rfl | exact absurd rfl hne
    | 11, _, hne => first | rfl | exact absurd rfl hne
    | 12, _, hne => first | rfl | exact absurd rfl hne
    | 13, _, hne => first | rfl | exact absurd rfl hne
    | 14, _, hne => first | rfl | exact absurd rfl hne
    | 15, _, hne => first | rfl | exact absurd rfl hne
    | 16, _, hne => first | rfl | exact absurd rfl hne
    | 17, _, hne => first | rfl | exact absurd rfl hne
    | 18, _, hne => first | rfl | exact absurd rfl hne
    | 19, _, hne => first | rfl | exact absurd rfl hne
    | 20, _, hne => first | rfl | exact absurd rfl hne
    | 21, _, hne => first | rfl | exact absurd rfl hne
    | 22, _, hne => first | rfl | exact absurd rfl hne
    | 23, _, hne => first | rfl | exact absurd rfl hne
    | 24, _, hne => first | rfl | exact absurd rfl hne
    | 25, _, hne => first | rfl | exact absurd rfl hne
    | k + 26, hk, _ => exact absurd hk (by omega)) (fun a b _ _ g hg => rfl))
  refine va_copyi (D := (G.2.1, G.2.2.1)) C.1 C.2.1 (C.2.2.1.trans hl.1.symm) C.2.2.2.1 (hT.use _ (lc_in 494 (by decide +kernel) rfl)) (hT.use _ (lc_in 496 (by decide +kernel) rfl)) (hT.use _ (lc_in 495 (by decide +kernel) rfl)) (hT.use _ (lc_in 89 (by decide +kernel) rfl)) C.2.2.2.2.2.1 hP.1 hD hP.2 8 9 0 0 (lc_ws_get G _ (by decide)) (lc_ws_get G _ (by decide)) rfl rfl (ty := .int) rfl (by decide) (by decide) (by decide) (Nat.le_of_ble_eq_true rfl) (Nat.le_of_ble_eq_true rfl) (fun _ _ => rfl) hf.1 hf.2 hd (fun H1 locs1 hP1 hD1 hS1 => ?_)
  have hP2 : lc_P G (lc_w (lc_ro σ 7 (va_cpy (σ.2.1 6) (σ.2.1 7) 0 0 6)) 1 x) H1 := by
    unfold lc_P
    rw [← hse]
    exact hP1
  exact kk C H1 locs1 ls ⟨hP2, hS1⟩ hl
theorem lc_gWoLim (hl : lc_fl own idx (TX3 0)) (hd : decode cc pc = .ok (.getfield idx, 3)) (kk : lc_V G Γ cc nL own (pc + 3) lv (.ref (G.1 6) :: st) (σ)) : lc_V G Γ cc nL own (pc) lv (.ref (G.1 4) :: st) (σ) := lc_get 4 3 0 (by decide) rfl lc_cX3 (by decide) rfl hl hd kk
theorem lc_gWoSites (hl : lc_fl own idx (TX3 4)) (hd : decode cc pc = .ok (.getfield idx, 3)) (kk : lc_V G Γ cc nL own (pc + 3) lv (.int (σ.1 0 7 0) :: st) (lc_w σ 1 x)) : lc_V G Γ cc nL own (pc) lv (.ref (G.1 4) :: st) (lc_w σ 1 x) := lc_get 4 3 4 (by decide) rfl lc_cX3 (by decide) rfl hl hd kk
theorem lc_gWoNow (hl : lc_fl own idx (TX3 5)) (hd : decode cc pc = .ok (.getfield idx, 3)) (kk : lc_V G Γ cc nL own (pc + 3) lv (.int (σ.1 0 7 1) :: st) (lc_w σ 1 x)) : lc_V G Γ cc nL own (pc) lv (.ref (G.1 4) :: st) (lc_w σ 1 x) := lc_get 4 3 5 (by decide) rfl lc_cX3 (by decide) rfl hl hd kk
theorem lc_gWoOff (hl : lc_fl own idx (TX3 6)) (hd : decode cc pc = .ok (.getfield idx, 3)) (kk : lc_V G Γ cc nL own (pc + 3) lv (.int (σ.1 0 7 2) :: st) (lc_w σ 1 x)) : lc_V G Γ cc nL own (pc) lv (.ref (G.1 4) :: st) (lc_w σ 1 x) := lc_get 4 3 6 (by decide) rfl lc_cX3 (by decide) rfl hl hd kk
theorem lc_gIo (i f : Nat) (hi : i < 24) (hf : f < 6) (hl : lc_fl own idx (TX0 f)) (hd : decode cc pc = .ok (.getfield idx, 3)) (kk : lc_V G Γ cc nL own (pc + 3) lv (.int (σ.1 0 f i) :: st) (lc_w σ 1 x)) : lc_V G Γ cc nL own (pc) lv (.ref (G.1 (lc_it 0 i)) :: st) (lc_w σ 1 x) := lc_gI 0 i f (by decide) hi hf hl hd (by rw [lc_w_cn σ x (by decide)]; exact kk)
end LCR3
theorem lc_nm1 {p : Nat} (h : p < 2 ^ 31) : ¬ nI p = -1 := by
  intro e
  have h1 := nI_toInt h
  rw [e] at h1
  have h2 : (-1 : Int32).toInt = -1 := by decide
  omega
/-- a loop that may be left early for its end -/
theorem sp_it_stop {α : Type} (f : Nat → α → α) (n : Nat) (stop : Nat → α → Bool) (hst : ∀ i z, i < n → stop i z = true → f i z = z ∧ stop (i + 1) z = true) (z : α) (i : Nat) (h : stop i (sp_it f i z) = true) : ∀ m, i + m ≤ n → sp_it f (i + m) z = sp_it f i z ∧ stop (i + m) (sp_it f (i + m) z) = true := by
  intro m
  induction m with
  | zero => intro _; exact ⟨rfl, h⟩
  | succ m ih =>
    intro hm
    have ih := ih (by omega)
    have h1 := hst (i + m) _ (by omega) ih.2
    have e : sp_it f (i + (m + 1)) z = sp_it f (i + m) z := h1.1
    refine ⟨e.trans ih.1, ?_⟩
    rw [e]
    exact h1.2
theorem lc_forS {α : Type} (P : Nat → α → Prop) (E : α → Prop) (f : Nat → α → α) (n : Nat) (stop : Nat → α → Bool) (hst : ∀ i z, i < n → stop i z = true → f i z = z ∧ stop (i + 1) z = true) (step : ∀ i z, i < n → (stop i z = false → P (i + 1) (f i z)) → (stop i z = true → E z) → P i z) (last : ∀ z, E z → P n z) (z : α) (hE : E (sp_it f n z)) : P 0 z := by
  have key : ∀ k i, i + k = n → P i (sp_it f i z) := by
    intro k
    induction k with
    | zero =>
      intro i hi
      have e : i = n := by omega
      rw [e]
      exact last _ hE
    | succ k ih =>
      intro i hi
      refine step i _ (by omega) (fun _ => ih (i + 1) (by omega)) (fun h => ?_)
      have h1 := (sp_it_stop f n stop hst z i h (n - i) (by omega)).1
      rw [show i + (n - i) = n by omega] at h1
      rw [← h1]
      exact hE
  exact key n 0 (by omega)
/-- a loop that may be left early with an answer -/
def sp_itE {α : Type} (g : Nat → α → Bool) (f : Nat → α → α) : Nat → α → Option α
  | 0, z => some z
  | n + 1, z => match sp_itE g f n z with
    | none => none
    | some y => if g n y = true then some (f n y) else none
theorem sp_itE_none {α : Type} {g : Nat → α → Bool} {f : Nat → α → α} {z0 z : α} {i n : Nat} (hi : i < n) (hz : sp_itE g f i z0 = some z) (hg : g i z = false) : sp_itE g f n z0 = none := by
  have key : ∀ m, sp_itE g f (i + 1 + m) z0 = none := by
    intro m
    induction m with
    | zero => show (match sp_itE g f i z0 with | none => none | some y => if g i y = true then some (f i y) else none) = none; rw [hz]; simp [hg]
    | succ m ih => show (match sp_itE g f (i + 1 + m) z0 with | none => none | some y => if g (i + 1 + m) y = true then some (f (i + 1 + m) y) else none) = none; rw [ih]
  have h := key (n - (i + 1))
  rw [show i + 1 + (n - (i + 1)) = n by omega] at h
  exact h
theorem sp_itE_I {α : Type} (I : Nat → α → Prop) (g : Nat → α → Bool) (f : Nat → α → α) (hI : ∀ i z, I i z → g i z = true → I (i + 1) (f i z)) (z0 : α) (h0 : I 0 z0) : ∀ n z, sp_itE g f n z0 = some z → I n z := by
  intro n
  induction n with
  | zero => intro z h; cases h; exact h0
  | succ n ih =>
    intro z h
    have h : (match sp_itE g f n z0 with | none => none | some y => if g n y = true then some (f n y) else none) = some z := h
    cases e : sp_itE g f n z0 with
    | none => rw [e] at h; cases h
    | some y =>
      rw [e] at h
      by_cases hg : g n y = true
      · simp only [hg, if_true] at h
        cases h
        exact hI n y (ih y e) hg
      · simp only [hg, if_false] at h
        cases h
theorem lc_forE {α : Type} (P : Nat → α → Prop) (g : Nat → α → Bool) (f : Nat → α → α) (n : Nat) (z0 : α) (step : ∀ i z, i < n → sp_itE g f i z0 = some z → (g i z = true → P (i + 1) (f i z)) → P i z) (done : ∀ z, sp_itE g f n z0 = some z → P n z) : P 0 z0 := by
  have key : ∀ m, m ≤ n → (∀ z, sp_itE g f m z0 = some z → P m z) → P 0 z0 := by
    intro m
    induction m with
    | zero => intro _ h; exact h z0 rfl
    | succ m ih =>
      intro hm h
      refine ih (by omega) (fun z hz => step m z (by omega) hz (fun hg => h _ ?_))
      show (match sp_itE g f m z0 with | none => none | some y => if g m y = true then some (f m y) else none) = _
      rw [hz]
      simp [hg]
  exact key n (Nat.le_refl n) done
theorem lc_cz (b : Int32) : 0 = b + (0 - b) := by
  rw [Int32.zero_sub, Int32.add_neg_eq_sub, Int32.sub_self]

