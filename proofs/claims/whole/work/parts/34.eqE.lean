/-! class against reference: the steps of letter, blank, line, remove, settle, digest -/
theorem eq_letter {σ : lc_S} {n p : Nat} (h : eq_R σ n p) (code : Int32) : (sp_letter (sp_letter σ 9 10 p code).2 11 12 p code).1 = (sp_letter σ 9 10 p code).1 ∧ ∃ q, eq_R (sp_letter (sp_letter σ 9 10 p code).2 11 12 p code).2 n q := by
  unfold sp_letter
  by_cases h1 : sp_win code 32 126 = false
  · rw [if_pos h1, if_pos h1]
    exact ⟨rfl, p, h⟩
  · rw [if_neg h1, if_neg h1]
    by_cases h2 : p = 6
    · rw [if_pos h2, if_pos h2]
      exact ⟨rfl, p, h⟩
    · rw [if_neg h2, if_neg h2]
      refine ⟨rfl, p + 1, ?_⟩
      obtain ⟨h1, h2', h3, h4, h5, h6, h7, h8, h9, h10, h11, h12⟩ := h
      refine ⟨h1, by omega, h3, rfl, rfl, h6, h7, ?_, h9, h10, h11, h12⟩
      funext k
      show (if 11 = 11 ∧ k = p then code else σ.2.1 11 k) = (if 9 = 9 ∧ k = p then code else σ.2.1 9 k)
      rw [h8]
      by_cases hk : k = p <;> simp [hk]
theorem eq_blank {σ : lc_S} {n p : Nat} (h : eq_R σ n p) : eq_R (lc_uo (lc_uo σ 10 0 0) 12 0 0) n 0 := by
  obtain ⟨h1, h2', h3, h4, h5, h6, h7, h8, h9, h10, h11, h12⟩ := h
  exact ⟨h1, by omega, h3, rfl, rfl, h6, h7, h8, h9, h10, h11, h12⟩
theorem eq_fw (codes : Nat → Int32) : ∀ (f i : Nat) (least : Int32), i + f ≤ 1000 → (48 : Int32) ≤ least → sp_fw codes f i least = nI (i + f) → ∀ k, i ≤ k → k < i + f → (48 : Int32) ≤ codes k ∧ codes k ≤ 57 := by
  intro f
  induction f with
  | zero => intro i least _ _ _ k h1 h2; exact absurd h2 (by omega)
  | succ f ih =>
    intro i least hb hl he k h1 h2
    unfold sp_fw at he
    split at he
    · rename_i hc
      rw [Bool.and_eq_true, decide_eq_true_eq, decide_eq_true_eq] at hc
      have h48 : (48 : Int32) ≤ codes i := Int32.le_trans hl hc.1
      by_cases hk : k = i
      · rw [hk]; exact ⟨h48, hc.2⟩
      · exact ih (i + 1) (codes i) (by omega) h48 (by rw [he]; congr 1; omega) k (by omega) (by omega)
    · have := (nI_eq (a := i) (b := i + (f + 1)) (by omega) (by omega)).mp he
      omega
theorem eq_lpos {codes : Nat → Int32} {p : Nat} (hp : p ≤ 6) (h : sp_isl codes p = true) (Q : Nat → Int32) (hQ : ∀ k, k < p → Q k = codes k - 48) : eq_pos codes Q p := by
  unfold sp_isl at h
  rw [Bool.and_eq_true, decide_eq_true_eq, decide_eq_true_eq] at h
  intro k hk
  have hf := eq_fw codes p 0 48 (by omega) (Int32.le_refl _) (by rw [h.2]; congr 1; omega) k (by omega) (by omega)
  obtain ⟨c, hc1, hc2, e⟩ := sp_rng_nat (a := 48) (b := 57) (by decide) (by decide) hf.1 hf.2
  refine ⟨c - 48, by omega, ?_, ?_⟩
  · rw [hQ k hk, e]
    exact pk_sub (a := c) (b := 48) hc1
  · rw [e]
    have : nI (c - 48) + 48 = nI (c - 48 + 48) := nI_add (c - 48) 48
    rw [this]
    congr 1
    omega
theorem eq_fresh_I (lim : Nat → Int32) (len : Int32) : eq_I (sp_fresh lim len) := fun _ => Or.inl ⟨rfl, rfl⟩
def eq_lC (σ : lc_S) : lc_S := lc_uo (lc_uo (sp_line σ 0 3 6 (σ.2.1 9) (σ.1 0 6) (σ.2.1 10 0)) 10 0 0) 10 1 (σ.2.1 10 1 + 1)
def eq_lM (σ : lc_S) (p : Nat) : lc_S := lc_uo (lc_uo (sp_line σ 2 5 8 (sp_posM σ p) (σ.1 2 6) (σ.2.1 12 0)) 12 1 (σ.2.1 12 1 + 1)) 12 0 0
theorem eq_line {σ : lc_S} {n p : Nat} (h : eq_R σ n p) (hl : sp_isl (σ.2.1 9) p = true) : eq_R (eq_lM (eq_lC σ) p) p 0 := by
  obtain ⟨h1, h2, h3, h4, h5, h6, h7, h8, h9, h10, h11, h12⟩ := h
  have e67 : sp_fresh (σ.1 2 6) (σ.2.1 12 0) = sp_fresh (σ.1 0 6) (σ.2.1 10 0) := by rw [h6, h5, h4]
  refine ⟨h2, by omega, ?_, rfl, rfl, ?_, ?_, h8, ?_, rfl, rfl, fun hn => ⟨?_, ?_, ?_, 0, by omega, rfl⟩⟩
  · show sp_fresh (σ.1 0 6) (σ.2.1 10 0) 7 0 = nI p
    exact h4
  · show sp_fresh (σ.1 2 6) (σ.2.1 12 0) 6 = sp_fresh (σ.1 0 6) (σ.2.1 10 0) 6
    rw [e67]
  · show sp_fresh (σ.1 2 6) (σ.2.1 12 0) 7 = sp_fresh (σ.1 0 6) (σ.2.1 10 0) 7
    rw [e67]
  · show σ.2.1 12 1 + 1 = σ.2.1 10 1 + 1
    rw [h9]
  · show sp_fresh (σ.1 2 6) (σ.2.1 12 0) = sp_fresh (σ.1 0 6) (σ.2.1 10 0)
    exact e67
  · exact eq_fresh_I _ _
  · show eq_pos (σ.2.1 9) (sp_posM (eq_lC σ) p) p
    refine eq_lpos h2 hl _ (fun k hk => ?_)
    unfold sp_posM
    rw [if_pos hk]
    show σ.2.1 11 k - 48 = _
    rw [h8]
theorem eq_R_ul {σ : lc_S} {n p : Nat} (h : eq_R σ n p) (k : Nat) (v : Int64) : eq_R (lc_ul σ k v) n p := h
theorem eq_R_lat {σ : lc_S} {n p : Nat} (h : eq_R σ n p) (k : Nat) (v : Int32) : eq_R (lc_uo (lc_uo σ 3 k v) 5 k v) n p := by
  obtain ⟨h1, h2, h3, h4, h5, h6, h7, h8, h9, h10, h11, h12⟩ := h
  refine ⟨h1, h2, h3, h4, h5, h6, h7, h8, h9, h10, ?_, h12⟩
  funext a
  show (if 5 = 5 ∧ a = k then v else σ.2.1 5 a) = (if 3 = 3 ∧ a = k then v else σ.2.1 3 a)
  rw [h11]
  by_cases ha : a = k <;> simp [ha]
theorem eq_uo_w (σ : lc_S) (x : lc_X) (k : Nat) (v : Int32) : lc_uo (lc_w σ 0 x) 5 k v = lc_w (lc_uo σ 5 k v) 0 x := by
  unfold lc_uo lc_w
  refine Prod.ext rfl (Prod.ext ?_ rfl)
  funext a b
  show (if a = 5 ∧ b = k then v else (if a = 0 then lc_ad (σ.2.1 0) x.2.1 x.2.2.1 x.2.2.2 else σ.2.1 a) b) = (if a = 0 then lc_ad (σ.2.1 0) x.2.1 x.2.2.1 x.2.2.2 else (fun b => if a = 5 ∧ b = k then v else σ.2.1 a b)) b
  by_cases h0 : a = 0
  · subst h0
    simp
  · simp [h0]
def eq_rmC (σ : lc_S) (n : Nat) (s k m : Int32) : Int32 × lc_S := sp_remo (decide (9999 ≤ (eq_x σ 0).1 7 1)) (sp_keepC (σ.2.1 6) s.toNatClampNeg n m.toNatClampNeg (sp_oth s ((sp_adv n (eq_x σ 0) 1).2.1 7 0))) 3 0 n σ (eq_x σ 0) s k m
def eq_rmM (σ : lc_S) (n : Nat) (s k m : Int32) : Int32 × lc_S := sp_remo (decide ((eq_x σ 2).1 7 1 = 9999)) (sp_keepM (σ.2.1 8) s.toNatClampNeg n m.toNatClampNeg) 5 2 n σ (eq_x σ 2) s k m
theorem eq_remove {σ : lc_S} {n p : Nat} (h : eq_R σ n p) (s k m : Int32) : (eq_rmM (eq_rmC σ n s k m).2 n s k m).1 = (eq_rmC σ n s k m).1 ∧ eq_R (eq_rmM (eq_rmC σ n s k m).2 n s k m).2 n p := by
  have w0 : lc_w σ 0 (eq_x σ 0) = σ := lc_w_w σ 0
  have w2 : lc_w σ 2 (eq_x σ 2) = σ := lc_w_w σ 2
  have fC : ∀ r, eq_rmC σ n s k m = (r, lc_w σ 0 (eq_x σ 0)) → eq_rmM σ n s k m = (r, lc_w σ 2 (eq_x σ 2)) → ((eq_rmM (eq_rmC σ n s k m).2 n s k m).1 = (eq_rmC σ n s k m).1 ∧ eq_R (eq_rmM (eq_rmC σ n s k m).2 n s k m).2 n p) := by
    intro r h1 h2
    rw [h1]
    dsimp only
    rw [w0, h2, w2]
    exact ⟨rfl, h⟩
  have es := eq_site2 h s
  by_cases c1 : (sp_site (σ.1 0) s && sp_key k) = false
  · refine fC (-1001) ?_ ?_
    · unfold eq_rmC sp_remo; exact if_pos c1
    · unfold eq_rmM sp_remo; rw [if_pos (by show (sp_site (σ.1 2) s && sp_key k) = false; rw [es]; exact c1)]
  have hn : n ≠ 0 := fun z => c1 (by rw [eq_site0 (B := σ.1 0) (by rw [h.2.2.1, z]) s]; rfl)
  have hR := h
  obtain ⟨h1, h2, h3, h4, h5, h6, h7, h8, h9, h10, h11, h12⟩ := h
  obtain ⟨g1, g2, g3, t, g4, g5⟩ := h12 hn
  have e : eq_x σ 2 = eq_x σ 0 := by unfold eq_x; rw [g1]
  have ef := eq_full (B := (eq_x σ 0).1) g4 g5
  have c1' : ¬ (sp_site (eq_x σ 0).1 s && sp_key k) = false := c1
  by_cases c2 : sp_win m 1 3 = false
  · refine fC (-1002) ?_ ?_
    · unfold eq_rmC sp_remo; rw [if_neg c1', if_pos c2]
    · unfold eq_rmM sp_remo; rw [e, if_neg c1', if_pos c2]
  by_cases c3 : (sp_bit ((eq_x σ 0).1 7 2) s || !decide ((eq_x σ 0).1 0 (4 * s.toNatClampNeg + k.toNatClampNeg) = 1)) = true
  · refine fC (-1003) ?_ ?_
    · unfold eq_rmC sp_remo; rw [if_neg c1', if_neg c2, if_pos c3]
    · unfold eq_rmM sp_remo; rw [e, if_neg c1', if_neg c2, if_pos c3]
  by_cases c4 : decide ((9999 : Int32) ≤ (eq_x σ 0).1 7 1) = true
  · refine fC (-1004) ?_ ?_
    · unfold eq_rmC sp_remo; rw [if_neg c1', if_neg c2, if_neg c3, if_pos c4]
    · unfold eq_rmM sp_remo; rw [e, ef, if_neg c1', if_neg c2, if_neg c3, if_pos c4]
  obtain ⟨a, ha, rfl⟩ := sp_site_nat (B := σ.1 0) h1 h3 (by cases hz : sp_site (σ.1 0) s with | true => rfl | false => rw [hz] at c1; exact absurd rfl c1)
  have ek : sp_keepC (σ.2.1 6) (nI a).toNatClampNeg n m.toNatClampNeg (sp_oth (nI a) ((sp_adv n (eq_x σ 0) 1).2.1 7 0)) = sp_keepM (σ.2.1 8) (nI a).toNatClampNeg n m.toNatClampNeg := by
    rw [sp_adv_70, show (eq_x σ 0).1 7 0 = nI n from h3, nI_clamp (by omega)]
    exact eq_keep g3 h1 ha _
  have hC : eq_rmC σ n (nI a) k m = ((sp_remV n (eq_x σ 0) (nI a).toNatClampNeg k.toNatClampNeg (sp_keepM (σ.2.1 8) (nI a).toNatClampNeg n m.toNatClampNeg)).1, lc_w (lc_uo σ 3 k.toNatClampNeg ((sp_adv n (eq_x σ 0) 1).2.1 7 1)) 0 (sp_remV n (eq_x σ 0) (nI a).toNatClampNeg k.toNatClampNeg (sp_keepM (σ.2.1 8) (nI a).toNatClampNeg n m.toNatClampNeg)).2) := by
    unfold eq_rmC sp_remo; rw [if_neg c1', if_neg c2, if_neg c3, if_neg c4, ek]
  have ht := eq_nfull (B := (eq_x σ 0).1) g4 g5 c4
  rw [hC]
  dsimp only
  have e71 : (sp_adv n (eq_x σ 0) 1).2.1 7 1 = nI (t + 1) := by
    rw [sp_adv_71, show (eq_x σ 0).1 7 1 = nI t from g5]
    exact nI_1 t
  generalize hkp : sp_keepM (σ.2.1 8) (nI a).toNatClampNeg n m.toNatClampNeg = kp
  generalize hx : sp_remV n (eq_x σ 0) (nI a).toNatClampNeg k.toNatClampNeg kp = y
  generalize hv : (sp_adv n (eq_x σ 0) 1).2.1 7 1 = v at e71 ⊢
  have hM : eq_rmM (lc_w (lc_uo σ 3 k.toNatClampNeg v) 0 y.2) n (nI a) k m = (y.1, lc_w (lc_uo (lc_w (lc_uo σ 3 k.toNatClampNeg v) 0 y.2) 5 k.toNatClampNeg v) 2 y.2) := by
    have ex : eq_x (lc_w (lc_uo σ 3 k.toNatClampNeg v) 0 y.2) 2 = eq_x σ 0 := e
    have e8 : (lc_w (lc_uo σ 3 k.toNatClampNeg v) 0 y.2).2.1 8 = σ.2.1 8 := rfl
    unfold eq_rmM sp_remo
    rw [ex, e8, hkp, ef, if_neg c1', if_neg c2, if_neg c3, if_neg c4, hx, hv]
  rw [hM]
  refine ⟨rfl, ?_⟩
  dsimp only
  rw [eq_uo_w]
  refine eq_R_w (eq_R_lat hR _ _) (y := y) (y' := y) ?_
  rw [← hx]
  unfold sp_remV
  refine eq_S_same ?_ ?_ ⟨t + 1, ht, ?_⟩
  · refine eq_I_cer (eq_I_adv n 1 g2) _ _ _ _ ?_
    rw [hv, e71]
    exact nI_pos' (by omega)
  · show (sp_adv n (eq_x σ 0) 1).2.1 7 0 = _
    rw [sp_adv_70]; exact h3
  · show (sp_adv n (eq_x σ 0) 1).2.1 7 1 = _
    rw [hv, e71]
/-! settling and the digest -/
theorem eq_R_stl {σ : lc_S} {n p : Nat} (h : eq_R σ n p) (m : Nat) (seed : Int32) (rum : Bool) : eq_R (sp_stl σ m seed rum) n p := by
  obtain ⟨h1, h2, h3, h4, h5, h6, h7, h8, h9, h10, h11, h12⟩ := h
  exact ⟨h1, h2, h3, h4, h5, h6, h7, h8, h9, h10, h11, h12⟩
theorem eq_R_stM {σ : lc_S} {n p : Nat} (h : eq_R σ n p) (m : Nat) (seed : Int32) (rum : Bool) : eq_R (sp_stM σ m seed rum) n p := by
  obtain ⟨h1, h2, h3, h4, h5, h6, h7, h8, h9, h10, h11, h12⟩ := h
  exact ⟨h1, h2, h3, h4, h5, h6, h7, h8, h9, h10, h11, h12⟩
theorem eq_settle {σ : lc_S} {n p : Nat} (h : eq_R σ n p) (seed : Int32) (rum : Bool) (what : Int32) : (sp_stvM (sp_stv σ n seed rum what).2 n seed rum what).1 = (sp_stv σ n seed rum what).1 ∧ eq_R (sp_stvM (sp_stv σ n seed rum what).2 n seed rum what).2 n p := by
  by_cases c1 : (decide (0 ≤ seed) && sp_win what 0 2) = false
  · have hC : sp_stv σ n seed rum what = (-1002, σ) := by unfold sp_stv; rw [if_pos c1]
    have hM : sp_stvM σ n seed rum what = (-1002, σ) := by unfold sp_stvM; rw [if_pos c1]
    rw [hC]
    dsimp only
    rw [hM]
    exact ⟨rfl, h⟩
  by_cases c2 : σ.1 0 7 0 = 0
  · have hC : sp_stv σ n seed rum what = (-1003, σ) := by unfold sp_stv; rw [if_neg c1, if_pos c2]
    have hM : sp_stvM σ n seed rum what = (-1003, σ) := by unfold sp_stvM; rw [if_neg c1, if_pos (by rw [h.2.2.2.2.2.2.1]; exact c2)]
    rw [hC]
    dsimp only
    rw [hM]
    exact ⟨rfl, h⟩
  have hn : n ≠ 0 := fun z => c2 (by rw [h.2.2.1, z]; rfl)
  have hq := h.2.2.2.2.2.2.2.2.2.2.2 hn
  have hC : sp_stv σ n seed rum what = (sp_pick what (sp_RUN σ n seed rum), sp_stl σ n seed rum) := by unfold sp_stv; rw [if_neg c1, if_neg c2]
  rw [hC]
  dsimp only
  have h2 := eq_R_stl h n seed rum
  have hM : sp_stvM (sp_stl σ n seed rum) n seed rum what = (sp_pickM what (sp_RM (sp_stl σ n seed rum) n seed rum), sp_stM (sp_stl σ n seed rum) n seed rum) := by
    unfold sp_stvM
    rw [if_neg c1, if_neg (by rw [h2.2.2.2.2.2.2.1]; exact c2)]
  rw [hM]
  refine ⟨?_, eq_R_stM h2 n seed rum⟩
  show sp_pickM what (sp_RM (sp_stl σ n seed rum) n seed rum) = _
  rw [eq_RUN (σ := σ) (τ := sp_stl σ n seed rum) h.1 hq.2.2.1 hq.2.1 h.2.2.1 hq.1 seed rum, eq_pick]
theorem eq_msh {B : lc_C} (h : eq_I B) (n s : Nat) (g : Int64) : sp_msh sp_alikeM B n s g = sp_msh sp_alike B n s g := by
  unfold sp_msh
  simp only [eq_alike h]
theorem eq_h2 {σ : lc_S} {n p : Nat} (h : eq_R σ n p) : sp_h2M (σ.1 2) (σ.2.1 5) n = sp_h2 sp_alike (σ.1 0) (σ.2.1 3) n := by
  unfold sp_h2M sp_h2
  simp only [eq_rsq h]
  suffices e : sp_it (sp_msh sp_alikeM (σ.1 2) n) n (1741 : Int64) = sp_it (sp_msh sp_alike (σ.1 0) n) n 1741 by rw [e]
  by_cases hn : n = 0
  · have e : ∀ (f : Nat → Int64 → Int64) (z : Int64), sp_it f 0 z = z := fun _ _ => rfl
    rw [hn, e, e]
  · have hq := h.2.2.2.2.2.2.2.2.2.2.2 hn
    rw [hq.1]
    exact sp_it_congr (fun _ _ => True) _ _ n (fun _ _ _ _ => trivial) (fun i z _ _ => eq_msh hq.2.1 n i z) _ trivial
theorem eq_RM_c {σ τ : lc_S} (h8 : τ.2.1 8 = σ.2.1 8) (h2 : τ.1 2 = σ.1 2) (n : Nat) (seed : Int32) (rum : Bool) : sp_RM τ n seed rum = sp_RM σ n seed rum := by
  unfold sp_RM
  rw [h8, h2]
theorem eq_ul_at (σ : lc_S) (k : Nat) (v : Int64) : (lc_ul σ k v).2.2 k = v := by
  unfold lc_ul
  exact if_pos rfl
theorem eq_msM_l (ρ : lc_S) (n : Nat) (rum : Bool) : (sp_msM ρ n rum).2.2 1 = sp_mx (sp_mx (sp_mx (ρ.2.2 1) (sp_RM ρ n 7 rum).1) (sp_RM ρ n 7 rum).2.2.2.1) (sp_RM ρ n 7 rum).2.1.toInt32 := by
  unfold sp_msM
  exact eq_ul_at _ _ _
theorem eq_msM_8 (ρ : lc_S) (n : Nat) (rum : Bool) : (sp_msM ρ n rum).2.1 8 = ρ.2.1 8 := by
  unfold sp_msM sp_stM sp_bM
  generalize sp_RM ρ n 7 rum = z
  rfl
theorem eq_msM_2 (ρ : lc_S) (n : Nat) (rum : Bool) : (sp_msM ρ n rum).1 2 = ρ.1 2 := by
  unfold sp_msM sp_stM sp_bM
  generalize sp_RM ρ n 7 rum = z
  rfl
theorem eq_stl_8 (ρ : lc_S) (n : Nat) (seed : Int32) (rum : Bool) : (sp_stl ρ n seed rum).2.1 8 = ρ.2.1 8 := by
  unfold sp_stl
  generalize sp_RUN ρ n seed rum = z
  rfl
theorem eq_stl_2 (ρ : lc_S) (n : Nat) (seed : Int32) (rum : Bool) : (sp_stl ρ n seed rum).1 2 = ρ.1 2 := by
  unfold sp_stl
  generalize sp_RUN ρ n seed rum = z
  rfl
theorem eq_stl_r (ρ : lc_S) (n : Nat) (seed : Int32) (rum : Bool) : (sp_stl ρ n seed rum).2.1 5 = ρ.2.1 5 ∧ (sp_stl ρ n seed rum).2.1 11 = ρ.2.1 11 := by
  unfold sp_stl
  generalize sp_RUN ρ n seed rum = z
  exact ⟨rfl, rfl⟩
theorem eq_cnt_f {σ : lc_S} {n p : Nat} (h : eq_R σ n p) : sp_cntv σ (σ.1 2, 0, 0, 0) 2 12 = sp_cntv σ (σ.1 0, 0, 0, 0) 0 10 := by
  funext w
  exact eq_cntv (h.2.2.2.2.1.trans h.2.2.2.1.symm) h.2.2.2.2.2.2.2.2.1 h.2.2.2.2.2.1 h.2.2.2.2.2.2.1 h.2.2.2.2.2.2.2.2.2.1 w
theorem eq_msM_c (ρ : lc_S) (n m : Nat) (rum : Bool) (w : Nat) : sp_cntv (sp_msM ρ n rum) ((sp_msM ρ n rum).1 2, 0, 0, 0) 2 12 w = sp_cntv ρ (ρ.1 2, 0, 0, 0) 2 12 w := by
  unfold sp_msM sp_stM sp_bM
  generalize sp_RM ρ n 7 rum = z
  rfl
theorem eq_R_msM {σ : lc_S} {n p : Nat} (h : eq_R σ n p) (rum : Bool) : eq_R (sp_msM σ n rum) n p := by
  unfold sp_msM
  exact eq_R_ul (eq_R_stM h n 7 rum) 1 _
theorem eq_digest {σ : lc_S} {n p : Nat} (h : eq_R σ n p) : (sp_digM (sp_digC σ n p).2 n p).1 = (sp_digC σ n p).1 ∧ eq_R (sp_digM (sp_digC σ n p).2 n p).2 n p := by
  have e0 := eq_h2 h
  have hd : ∀ τ : lc_S, sp_digM τ n p = (sp_HM τ n p, lc_ul (sp_tM τ n) 1 (sp_HM τ n p)) := fun _ => rfl
  have la : ∀ τ : lc_S, (sp_aM τ n).2.2 1 = sp_h2M (τ.1 2) (τ.2.1 5) n := fun τ => by unfold sp_aM; exact eq_ul_at _ _ _
  have lr : ∀ (τ : lc_S) (rum : Bool), sp_RM (sp_aM τ n) n 7 rum = sp_RM τ n 7 rum := fun τ rum => eq_RM_c (σ := τ) (τ := sp_aM τ n) rfl rfl n 7 rum
  by_cases hn : n = 0
  · have hC : sp_digC σ n p = (sp_h5 (σ.2.1 9) p (sp_cntv σ (σ.1 0, 0, 0, 0) 0 10) (sp_h2 sp_alike (σ.1 0) (σ.2.1 3) n), σ) := by unfold sp_digC; rw [if_pos hn]
    have hM : sp_tM σ n = sp_aM σ n := by unfold sp_tM; rw [if_pos hn]
    rw [hC]
    dsimp only
    rw [hd]
    dsimp only
    have hRa : eq_R (sp_aM σ n) n p := eq_R_ul h 1 _
    refine ⟨?_, ?_⟩
    · unfold sp_HM
      rw [hM, h.2.2.2.2.2.2.2.1, eq_cnt_f hRa, la, e0]
      rfl
    · rw [hM]
      exact eq_R_ul hRa 1 _
  · have hq := h.2.2.2.2.2.2.2.2.2.2.2 hn
    have r1 := eq_RUN (σ := σ) (τ := σ) h.1 hq.2.2.1 hq.2.1 h.2.2.1 hq.1 7 false
    have r2 := eq_RUN (σ := σ) (τ := σ) h.1 hq.2.2.1 hq.2.1 h.2.2.1 hq.1 7 true
    have hR2 : eq_R (sp_st2 σ n) n p := eq_R_stl (eq_R_stl h n 7 false) n 7 true
    have hC : sp_digC σ n p = (sp_h5 (σ.2.1 9) p (sp_cntv (sp_st2 σ n) ((sp_st2 σ n).1 0, 0, 0, 0) 0 10) (sp_h3 (sp_h2 sp_alike (σ.1 0) (σ.2.1 3) n) (sp_RUN σ n 7 false).1 (sp_RUN σ n 7 false).2.2.2.1 (sp_RUN σ n 7 false).2.1 (sp_RUN σ n 7 true).1 (sp_RUN σ n 7 true).2.2.2.1 (sp_RUN σ n 7 true).2.1), sp_st2 σ n) := by unfold sp_digC; rw [if_neg hn]
    rw [hC]
    dsimp only
    rw [hd]
    dsimp only
    have k8 : (sp_st2 σ n).2.1 8 = σ.2.1 8 := by unfold sp_st2; rw [eq_stl_8, eq_stl_8]
    have k2 : (sp_st2 σ n).1 2 = σ.1 2 := by unfold sp_st2; rw [eq_stl_2, eq_stl_2]
    have k5 : (sp_st2 σ n).2.1 5 = σ.2.1 5 := by unfold sp_st2; rw [(eq_stl_r _ _ _ _).1, (eq_stl_r _ _ _ _).1]
    have k11 : (sp_st2 σ n).2.1 11 = σ.2.1 9 := by unfold sp_st2; rw [(eq_stl_r _ _ _ _).2, (eq_stl_r _ _ _ _).2]; exact h.2.2.2.2.2.2.2.1
    have q1 := eq_RM_c k8 k2 n 7 false
    have q2 := eq_RM_c k8 k2 n 7 true
    generalize sp_st2 σ n = τ at hR2 q1 q2 k2 k5 k8 k11 ⊢
    have hM : sp_tM τ n = sp_msM (sp_msM (sp_aM τ n) n false) n true := by unfold sp_tM; rw [if_neg hn]
    have hRa : eq_R (sp_aM τ n) n p := eq_R_ul hR2 1 _
    refine ⟨?_, ?_⟩
    · unfold sp_HM
      have ec : sp_cntv (sp_msM (sp_msM (sp_aM τ n) n false) n true) ((sp_msM (sp_msM (sp_aM τ n) n false) n true).1 2, 0, 0, 0) 2 12 = sp_cntv τ (τ.1 0, 0, 0, 0) 0 10 := by
        funext w
        rw [eq_msM_c _ _ n, eq_msM_c _ _ n, eq_cnt_f hRa]
        rfl
      have l2 : sp_RM (sp_msM (sp_aM τ n) n false) n 7 true = sp_RM (sp_aM τ n) n 7 true := eq_RM_c (eq_msM_8 _ _ _) (eq_msM_2 _ _ _) n 7 true
      rw [hM, ec, eq_msM_l, l2, eq_msM_l, la, lr, lr, q1, q2, r1, r2, k2, k5, e0, k11]
      unfold eq_zr sp_h3
      dsimp only
      rw [Int32.toInt32_toInt64, Int32.toInt32_toInt64]
    · rw [hM]
      exact eq_R_ul (eq_R_msM (eq_R_msM hRa false) true) 1 _
