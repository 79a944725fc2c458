/-! class against reference: what holds between two calls of the law, and every call's step -/
def eq_R (σ : lc_S) (n p : Nat) : Prop := n ≤ 6 ∧ p ≤ 6 ∧ σ.1 0 7 0 = nI n ∧ σ.2.1 10 0 = nI p ∧ σ.2.1 12 0 = nI p ∧ σ.1 2 6 = σ.1 0 6 ∧ σ.1 2 7 = σ.1 0 7 ∧ σ.2.1 11 = σ.2.1 9 ∧ σ.2.1 12 1 = σ.2.1 10 1 ∧ σ.2.1 2 = σ.2.1 0 ∧ σ.2.1 5 = σ.2.1 3 ∧ (n ≠ 0 → σ.1 2 = σ.1 0 ∧ eq_I (σ.1 0) ∧ eq_pos (σ.2.1 6) (σ.2.1 8) n ∧ ∃ t : Nat, t ≤ 9999 ∧ σ.1 0 7 1 = nI t)
def eq_S (n : Nat) (y y' : Int32 × lc_X) : Prop := y'.1 = y.1 ∧ y'.2.2 = y.2.2 ∧ y'.2.1 6 = y.2.1 6 ∧ y'.2.1 7 = y.2.1 7 ∧ y.2.1 7 0 = nI n ∧ (n ≠ 0 → y'.2.1 = y.2.1 ∧ eq_I y.2.1 ∧ ∃ t : Nat, t ≤ 9999 ∧ y.2.1 7 1 = nI t)
theorem eq_R_w {σ : lc_S} {n p : Nat} (h : eq_R σ n p) {y y' : Int32 × lc_X} (s : eq_S n y y') : eq_R (lc_w (lc_w σ 0 y.2) 2 y'.2) n p := by
  obtain ⟨h1, h2, h3, h4, h5, h6, h7, h8, h9, h10, h11, h12⟩ := h
  obtain ⟨s1, s2, s3, s4, s5, s6⟩ := s
  refine ⟨h1, h2, s5, h4, h5, s3, s4, h8, h9, ?_, h11, fun hn => ⟨(s6 hn).1, (s6 hn).2.1, (h12 hn).2.2.1, (s6 hn).2.2⟩⟩
  show lc_ad (σ.2.1 2) y'.2.2.1 y'.2.2.2.1 y'.2.2.2.2 = lc_ad (σ.2.1 0) y.2.2.1 y.2.2.2.1 y.2.2.2.2
  rw [h10, s2]
/-- the bank of the class and of the reference -/
def eq_x (σ : lc_S) (j : Nat) : lc_X := (σ.1 j, 0, 0, 0)
theorem eq_S_0 {σ : lc_S} {n p : Nat} (h : eq_R σ n p) (r : Int32) : eq_S n (r, eq_x σ 0) (r, eq_x σ 2) := by
  obtain ⟨h1, h2, h3, h4, h5, h6, h7, h8, h9, h10, h11, h12⟩ := h
  exact ⟨rfl, rfl, h6, h7, h3, fun hn => ⟨(h12 hn).1, (h12 hn).2.1, (h12 hn).2.2.2⟩⟩
theorem eq_S_same {n : Nat} {y : Int32 × lc_X} (hI : eq_I y.2.1) (hs : y.2.1 7 0 = nI n) (ht : ∃ t : Nat, t ≤ 9999 ∧ y.2.1 7 1 = nI t) : eq_S n y y := ⟨rfl, rfl, rfl, rfl, hs, fun _ => ⟨rfl, hI, ht⟩⟩
theorem eq_site0 {B : lc_C} (h : B 7 0 = nI 0) (s : Int32) : sp_site B s = false := by
  unfold sp_site
  rw [h]
  by_cases hs : 0 ≤ s
  · rw [decide_eq_false (p := s < nI 0) (fun z => absurd hs (Int32.not_le.mpr z)), Bool.and_false]
  · rw [decide_eq_false hs, Bool.false_and]
theorem eq_site2 {σ : lc_S} {n p : Nat} (h : eq_R σ n p) (s : Int32) : sp_site (σ.1 2) s = sp_site (σ.1 0) s := by
  unfold sp_site
  rw [h.2.2.2.2.2.2.1]
theorem eq_set {σ : lc_S} {n p : Nat} (h : eq_R σ n p) (what v : Int32) : eq_S n (sp_set n (eq_x σ 0) what v) (sp_set n (eq_x σ 2) what v) := by
  unfold sp_set
  split
  · exact eq_S_0 h _
  · split
    · exact eq_S_0 h _
    · generalize what.toNatClampNeg = w
      obtain ⟨h1, h2, h3, h4, h5, h6, h7, h8, h9, h10, h11, h12⟩ := h
      have e6 : lc_cu (σ.1 2) 6 w v 6 = lc_cu (σ.1 0) 6 w v 6 := by
        unfold lc_cu
        rw [h6]
      by_cases hn : n = 0
      · subst hn
        refine ⟨congrFun h6 w, rfl, e6, h7, h3, fun z => absurd rfl z⟩
      · have hq := h12 hn
        have e : eq_x σ 2 = eq_x σ 0 := by unfold eq_x; rw [hq.1]
        rw [e]
        refine eq_S_same ?_ ?_ ?_
        · exact eq_I_drop (x := (lc_cu (σ.1 0) 6 w v, (eq_x σ 0).2)) n (eq_I_cu hq.2.1 6 w v (by decide) (by decide))
        · show (sp_drop n (lc_cu (σ.1 0) 6 w v, (eq_x σ 0).2)).2.1 7 0 = _
          rw [sp_drop_7]
          exact h3
        · show ∃ t : Nat, t ≤ 9999 ∧ (sp_drop n (lc_cu (σ.1 0) 6 w v, (eq_x σ 0).2)).2.1 7 1 = nI t
          rw [sp_drop_7]
          exact hq.2.2.2
theorem eq_I_val {B : lc_C} (h : eq_I B) (i : Nat) (v m g : Int32) (hm : 0 ≤ m) : eq_I (sp_val B i v m g) := by
  intro k
  by_cases hk : k = i
  · subst hk
    right
    refine ⟨Or.inl ?_, ?_⟩
    · simp [sp_val, lc_cu]
    · simpa [sp_val, lc_cu] using hm
  · have e0 : sp_val B i v m g 0 k = B 0 k := by simp [sp_val, lc_cu, hk]
    have e2 : sp_val B i v m g 2 k = B 2 k := by simp [sp_val, lc_cu, hk]
    rw [e0, e2]
    exact h k
theorem eq_I_cer {B : lc_C} (h : eq_I B) (i : Nat) (kp m g : Int32) (hm : 0 ≤ m) : eq_I (sp_cer B i kp m g) := by
  intro k
  by_cases hk : k = i
  · subst hk
    right
    refine ⟨Or.inr ?_, ?_⟩
    · simp [sp_cer, lc_cu]
    · simpa [sp_cer, lc_cu] using hm
  · have e0 : sp_cer B i kp m g 0 k = B 0 k := by simp [sp_cer, lc_cu, hk]
    have e2 : sp_cer B i kp m g 2 k = B 2 k := by simp [sp_cer, lc_cu, hk]
    rw [e0, e2]
    exact h k
theorem eq_full {B : lc_C} {t : Nat} (ht : t ≤ 9999) (e : B 7 1 = nI t) : decide (B 7 1 = 9999) = decide ((9999 : Int32) ≤ B 7 1) := by
  rw [e, decide_eq_decide]
  constructor
  · intro h; rw [h]; exact Int32.le_refl _
  · intro h
    have h1 : (9999 : Nat) ≤ t := (nI_leI (a := 9999) (b := t) (by omega) (by omega)).mp h
    rw [show t = 9999 by omega]; rfl
theorem eq_nfull {B : lc_C} {t : Nat} (ht : t ≤ 9999) (e : B 7 1 = nI t) (h : ¬ decide ((9999 : Int32) ≤ B 7 1) = true) : t + 1 ≤ 9999 := by
  rw [e, decide_eq_true_eq] at h
  rcases Nat.lt_or_ge t 9999 with k | k
  · exact k
  · exact absurd (nI_le (a := 9999) (b := t) k (by omega)) h
theorem eq_put {σ : lc_S} {n p : Nat} (h : eq_R σ n p) (s k v : Int32) : eq_S n (sp_put (decide (9999 ≤ (eq_x σ 0).1 7 1)) n (eq_x σ 0) s k v) (sp_put (decide ((eq_x σ 2).1 7 1 = 9999)) n (eq_x σ 2) s k v) := by
  by_cases hn : n = 0
  · have e0 := eq_site0 (B := σ.1 0) (by rw [h.2.2.1, hn]) s
    have e2 : sp_site (σ.1 2) s = false := (eq_site2 h s).trans e0
    have f0 : ∀ b, sp_put b n (eq_x σ 0) s k v = (-1001, eq_x σ 0) := fun b => by
      unfold sp_put
      rw [show sp_site (eq_x σ 0).1 s = false from e0, Bool.false_and, if_pos rfl]
    have f2 : ∀ b, sp_put b n (eq_x σ 2) s k v = (-1001, eq_x σ 2) := fun b => by
      unfold sp_put
      rw [show sp_site (eq_x σ 2).1 s = false from e2, Bool.false_and, if_pos rfl]
    rw [f0, f2]
    exact eq_S_0 h _
  · have h0 := h
    obtain ⟨h1, h2, h3, h4, h5, h6, h7, h8, h9, h10, h11, h12⟩ := h
    obtain ⟨g1, g2, g3, t, g4, g5⟩ := h12 hn
    have e : eq_x σ 2 = eq_x σ 0 := by unfold eq_x; rw [g1]
    rw [e, eq_full (B := (eq_x σ 0).1) g4 g5]
    have hS : ∀ r, eq_S n (r, eq_x σ 0) (r, eq_x σ 0) := fun r => eq_S_same (y := (r, eq_x σ 0)) g2 h3 ⟨t, g4, g5⟩
    unfold sp_put
    split
    · exact hS _
    · split
      · exact hS _
      · split
        · exact hS _
        · split
          · exact hS _
          · rename_i hf
            have ht := eq_nfull (B := (eq_x σ 0).1) g4 g5 hf
            have e71 : (sp_adv n (eq_x σ 0) 1).2.1 7 1 = nI (t + 1) := by
              rw [sp_adv_71, show (eq_x σ 0).1 7 1 = nI t from g5]
              exact nI_1 t
            unfold sp_putV
            rw [e71]
            refine eq_S_same ?_ ?_ ⟨t + 1, ht, ?_⟩
            · exact eq_I_val (eq_I_adv n 1 g2) _ _ _ _ (nI_pos' (by omega))
            · show (sp_adv n (eq_x σ 0) 1).2.1 7 0 = _
              rw [sp_adv_70]; exact h3
            · exact e71
theorem eq_pass {σ : lc_S} {n p : Nat} (h : eq_R σ n p) (d : Int32) : eq_S n (sp_pass (decide (9999 - d < (eq_x σ 0).1 7 1)) n (eq_x σ 0) d) (sp_pass (decide (9999 < (eq_x σ 2).1 7 1 + d)) n (eq_x σ 2) d) := by
  unfold sp_pass
  by_cases hw : sp_win d 1 300 = false
  · rw [if_pos hw, if_pos hw]
    exact eq_S_0 h _
  · rw [if_neg hw, if_neg hw]
    have e7 : (eq_x σ 2).1 7 = (eq_x σ 0).1 7 := h.2.2.2.2.2.2.1
    rw [e7]
    by_cases hn : (eq_x σ 0).1 7 0 = 0
    · rw [if_pos hn, if_pos hn]
      exact eq_S_0 h _
    · rw [if_neg hn, if_neg hn]
      have hn0 : n ≠ 0 := fun z => hn (by rw [show (eq_x σ 0).1 7 0 = nI n from h.2.2.1, z]; rfl)
      obtain ⟨h1, h2, h3, h4, h5, h6, h7, h8, h9, h10, h11, h12⟩ := h
      obtain ⟨g1, g2, g3, t, g4, g5⟩ := h12 hn0
      have e : eq_x σ 2 = eq_x σ 0 := by unfold eq_x; rw [g1]
      rw [e]
      unfold sp_win at hw
      rw [Bool.not_eq_false, Bool.and_eq_true, decide_eq_true_eq, decide_eq_true_eq] at hw
      obtain ⟨k, hk1, hk2, rfl⟩ := sp_rng_nat (a := 1) (b := 300) (by decide) (by decide) hw.1 hw.2
      have g5' : (eq_x σ 0).1 7 1 = nI t := g5
      have ed : decide ((9999 : Int32) < (eq_x σ 0).1 7 1 + nI k) = decide (9999 - nI k < (eq_x σ 0).1 7 1) := by
        rw [g5', nI_add, decide_eq_decide]
        have e1 : (9999 : Int32) - nI k = nI (9999 - k) := pk_sub (a := 9999) (b := k) (by omega)
        have a1 : ((9999 : Int32) < nI (t + k)) ↔ 9999 < t + k := nI_ltI (a := 9999) (by omega) (by omega)
        rw [e1, nI_ltI (by omega) (by omega), a1]
        omega
      rw [ed]
      split
      · exact eq_S_same (y := (_, eq_x σ 0)) g2 h3 ⟨t, g4, g5⟩
      · rename_i hf
        have ht : t + k ≤ 9999 := by
          rw [← ed, g5', nI_add, decide_eq_true_eq] at hf
          have a1 : ((9999 : Int32) < nI (t + k)) ↔ 9999 < t + k := nI_ltI (a := 9999) (by omega) (by omega)
          rw [a1] at hf
          omega
        refine eq_S_same (eq_I_adv n _ g2) ?_ ⟨t + k, ht, ?_⟩
        · rw [sp_adv_70]; exact h3
        · rw [sp_adv_71, g5', nI_add]
theorem eq_off {σ : lc_S} {n p : Nat} (h : eq_R σ n p) (s : Int32) (b : Bool) : eq_S n (sp_off (eq_x σ 0) s b) (sp_off (eq_x σ 2) s b) := by
  unfold sp_off
  rw [show sp_site (eq_x σ 2).1 s = sp_site (eq_x σ 0).1 s from eq_site2 h s, show (eq_x σ 2).1 7 = (eq_x σ 0).1 7 from h.2.2.2.2.2.2.1]
  split
  · exact eq_S_0 h _
  · rename_i hs
    have hn : n ≠ 0 := fun z => hs (eq_site0 (B := σ.1 0) (by rw [h.2.2.1, z]) s)
    obtain ⟨h1, h2, h3, h4, h5, h6, h7, h8, h9, h10, h11, h12⟩ := h
    obtain ⟨g1, g2, g3, t, g4, g5⟩ := h12 hn
    have e : eq_x σ 2 = eq_x σ 0 := by unfold eq_x; rw [g1]
    rw [e]
    exact eq_S_same (eq_I_cu g2 7 2 _ (by decide) (by decide)) h3 ⟨t, g4, g5⟩
theorem eq_exch {σ : lc_S} {n p : Nat} (h : eq_R σ n p) (cmp cmpM : lc_X → Nat → Nat → Int32 × lc_X) (hc : ∀ x a b, eq_I x.1 → cmpM x a b = cmp x a b) (hI : ∀ x a b, eq_I x.1 → eq_I (cmp x a b).2.1) (hr : ∀ x a b, (cmp x a b).2.1 7 = x.1 7) (a b : Int32) : eq_S n (sp_exch cmp (eq_x σ 0) a b) (sp_exch cmpM (eq_x σ 2) a b) := by
  by_cases hn : n = 0
  · have e0 : ∀ s, sp_site (σ.1 0) s = false := eq_site0 (B := σ.1 0) (by rw [h.2.2.1, hn])
    have f : ∀ (B : lc_C), (∀ s, sp_site B s = false) → sp_pair B a b = -1001 := fun B hB => by
      unfold sp_pair
      rw [hB, Bool.false_and, Bool.false_and, if_pos rfl]
    unfold sp_exch
    rw [f (eq_x σ 0).1 e0, f (eq_x σ 2).1 (fun s => (eq_site2 h s).trans (e0 s)), if_neg (by decide), if_neg (by decide)]
    exact eq_S_0 h _
  · obtain ⟨h1, h2, h3, h4, h5, h6, h7, h8, h9, h10, h11, h12⟩ := h
    obtain ⟨g1, g2, g3, t, g4, g5⟩ := h12 hn
    have e : eq_x σ 2 = eq_x σ 0 := by unfold eq_x; rw [g1]
    rw [e]
    unfold sp_exch
    split
    · rw [hc _ _ _ g2]
      refine eq_S_same (hI _ _ _ g2) ?_ ?_
      · rw [hr]; exact h3
      · rw [hr]; exact ⟨t, g4, g5⟩
    · exact eq_S_same (y := (_, eq_x σ 0)) g2 h3 ⟨t, g4, g5⟩
/-! calls that only tell -/
theorem eq_has {σ : lc_S} {n p : Nat} (h : eq_R σ n p) (s k w : Int32) : sp_has (σ.1 2) s k w = sp_has (σ.1 0) s k w := by
  by_cases hn : n = 0
  · unfold sp_has
    rw [eq_site2 h s, eq_site0 (B := σ.1 0) (by rw [h.2.2.1, hn]) s, Bool.false_and, if_pos rfl, if_pos rfl]
  · rw [(h.2.2.2.2.2.2.2.2.2.2.2 hn).1]
theorem eq_newest {σ : lc_S} {n p : Nat} (h : eq_R σ n p) (s k : Int32) : sp_newest (σ.1 2) s k = sp_newest (σ.1 0) s k := by
  by_cases hn : n = 0
  · unfold sp_newest
    rw [eq_site2 h s, eq_site0 (B := σ.1 0) (by rw [h.2.2.1, hn]) s, if_pos rfl, if_pos rfl]
  · rw [(h.2.2.2.2.2.2.2.2.2.2.2 hn).1]
theorem eq_alk {σ : lc_S} {n p : Nat} (h : eq_R σ n p) (a b : Int32) : sp_alk sp_alikeM (σ.1 2) a b = sp_alk sp_alike (σ.1 0) a b := by
  unfold sp_alk
  rw [eq_site2 h, eq_site2 h]
  by_cases hn : n = 0
  · rw [eq_site0 (B := σ.1 0) (by rw [h.2.2.1, hn]) a, Bool.false_and, if_pos rfl, if_pos rfl]
  · have hq := h.2.2.2.2.2.2.2.2.2.2.2 hn
    rw [hq.1, eq_alike hq.2.1]
theorem eq_rsq {σ : lc_S} {n p : Nat} (h : eq_R σ n p) (k : Nat) : sp_rssM (σ.1 2) (σ.2.1 5) k n = sp_rss (σ.1 0) (σ.2.1 3) k n := by
  rw [eq_rss, h.2.2.2.2.2.2.2.2.2.2.1]
  by_cases hn : n = 0
  · have e : ∀ B : lc_C, sp_rss B (σ.2.1 3) k 0 = 0 := fun _ => rfl
    rw [hn, e, e]
  · rw [(h.2.2.2.2.2.2.2.2.2.2.2 hn).1]
theorem eq_risen {σ : lc_S} {n p : Nat} (h : eq_R σ n p) (k : Int32) : sp_risenM (σ.1 2) (σ.2.1 5) n k = sp_risen (σ.1 0) (σ.2.1 3) n k := by
  unfold sp_risenM sp_risen
  rw [eq_rsq h]
theorem eq_partner {σ : lc_S} {n p : Nat} (h : eq_R σ n p) (s seed w : Int32) : sp_pnrM (σ.1 2) (σ.2.1 8) n s seed w = sp_pnr (σ.1 0) (σ.2.1 6) n s seed w := by
  by_cases hn : n = 0
  · unfold sp_pnrM sp_pnr
    rw [eq_site2 h s, eq_site0 (B := σ.1 0) (by rw [h.2.2.1, hn]) s, if_pos rfl, if_pos rfl]
  · have hq := h.2.2.2.2.2.2.2.2.2.2.2 hn
    rw [hq.1]
    exact eq_pnr hq.2.2.1 h.1 h.2.2.1 s seed w
theorem eq_cntv {σ τ : lc_S} (e10 : σ.2.1 12 0 = τ.2.1 10 0) (e11 : σ.2.1 12 1 = τ.2.1 10 1) (e6 : σ.1 2 6 = τ.1 0 6) (e7 : σ.1 2 7 = τ.1 0 7) (e2 : σ.2.1 2 = τ.2.1 0) (w : Nat) : sp_cntv σ (σ.1 2, 0, 0, 0) 2 12 w = sp_cntv τ (τ.1 0, 0, 0, 0) 0 10 w := by
  unfold sp_cntv
  dsimp only
  rw [e6, e7, e2, e10, e11]
theorem eq_count {σ : lc_S} {n p : Nat} (h : eq_R σ n p) (w : Int32) : sp_count σ (eq_x σ 2) 2 12 w = sp_count σ (eq_x σ 0) 0 10 w := by
  unfold sp_count
  rw [show eq_x σ 2 = (σ.1 2, 0, 0, 0) from rfl, show eq_x σ 0 = (σ.1 0, 0, 0, 0) from rfl, eq_cntv (h.2.2.2.2.1.trans h.2.2.2.1.symm) h.2.2.2.2.2.2.2.2.1 h.2.2.2.2.2.1 h.2.2.2.2.2.2.1 h.2.2.2.2.2.2.2.2.2.1]
