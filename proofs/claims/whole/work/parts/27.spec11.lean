def sp_aM (σ : lc_S) (n : Nat) : lc_S := lc_ul σ 1 (sp_h2M (σ.1 2) (σ.2.1 5) n)
def sp_tM (σ : lc_S) (n : Nat) : lc_S := if n = 0 then sp_aM σ n else sp_msM (sp_msM (sp_aM σ n) n false) n true
def sp_HM (σ : lc_S) (n p : Nat) : Int64 := sp_h5 (σ.2.1 11) p (sp_cntv (sp_tM σ n) ((sp_tM σ n).1 2, 0, 0, 0) 2 12) ((sp_tM σ n).2.2 1)
def sp_digM (σ : lc_S) (n p : Nat) : Int64 × lc_S := (sp_HM σ n p, lc_ul (sp_tM σ n) 1 (sp_HM σ n p))
theorem sp_fw_le (codes : Nat → Int32) : ∀ (f i : Nat) (t : Int32), ∃ q, q ≤ i + f ∧ sp_fw codes f i t = nI q := by
  intro f
  induction f with
  | zero => intro i t; exact ⟨i, by omega, rfl⟩
  | succ f ih =>
    intro i t
    unfold sp_fw
    split
    · obtain ⟨q, h1, h2⟩ := ih (i + 1) (codes i)
      exact ⟨q, by omega, h2⟩
    · exact ⟨i, by omega, rfl⟩
def sp_posM (σ : lc_S) (p k : Nat) : Int32 := if k < p then σ.2.1 11 k - 48 else σ.2.1 8 k
theorem sp_lineM_sim (σ : lc_S) (x : lc_X) (p : Nat) (s2 : lc_S) (y : lc_X) (hs2 : s2 = sp_it (sp_zr 5) 4 (sp_it (sp_cpo 8 11 (fun v => v - 48)) p σ)) (hy : y = sp_it sp_nn 24 (lc_cu x.1 7 0 (σ.2.1 12 0), x.2)) : lc_sim (lc_w s2 2 (lc_cu (lc_cu y.1 7 1 0) 7 2 0, 0 - s2.2.1 2 0, 0 - s2.2.1 2 1, 0 - s2.2.1 2 2)) (sp_line σ 2 5 8 (sp_posM σ p) (x.1 6) (σ.2.1 12 0)) := by
  have hn := sp_nn_it (lc_cu x.1 7 0 (σ.2.1 12 0), x.2) 24
  have hz := sp_zr_it 5 (sp_it (sp_cpo 8 11 (fun v => v - 48)) p σ) 4
  have hc := sp_cpo_it 8 11 (fun v => v - 48) (by decide) σ p
  rw [← hy] at hn
  rw [← hs2] at hz
  generalize sp_it (sp_cpo 8 11 (fun v => v - 48)) p σ = s1 at hz hc
  obtain ⟨hn1, hn2⟩ := hn
  obtain ⟨hz1, hz2, hz3⟩ := hz
  obtain ⟨hc1, hc2, hc3⟩ := hc
  have o : ∀ r k, r ≠ 2 → (sp_line σ 2 5 8 (sp_posM σ p) (x.1 6) (σ.2.1 12 0)).2.1 r k = if r = 5 then 0 else if r = 8 then sp_posM σ p k else σ.2.1 r k := by
    intro r k h
    unfold sp_line
    rw [lc_w_on _ _ h]
    unfold lc_ro
    by_cases h3 : r = 5
    · subst h3; simp
    · by_cases h6 : r = 8
      · subst h6; simp
      · simp [h, h3, h6]
  have o2 : ∀ r k, s2.2.1 r k = if r = 5 ∧ k < 4 then 0 else if r = 8 ∧ k < p then σ.2.1 11 k - 48 else σ.2.1 r k := by
    intro r k; rw [hz3, hc3]
  refine ⟨fun j f i hj hf hi => ?_, fun j i hj hi => ?_, fun j i hj hi => ?_, fun r i hr hi => ?_, fun r i h1 h2 hi => ?_, fun r i h1 h2 hi => ?_, fun i hi => ?_, fun i hi => ?_, fun i hi => ?_, fun i hi => ?_, ?_, ?_⟩
  · by_cases h : j = 2
    · subst h
      rw [lc_w_c]
      unfold sp_line
      have e7 : ¬ f = 7 := by omega
      rw [lc_w_c]
      show (if f = 7 ∧ i = 2 then (0 : Int32) else (if f = 7 ∧ i = 1 then 0 else y.1 f i)) = _
      rw [if_neg (fun z => e7 z.1), if_neg (fun z => e7 z.1), hn2, if_pos ⟨hi, hf⟩]
      exact (sp_fresh_f (x.1 6) (σ.2.1 12 0) f i hf).symm
    · rw [lc_w_cn _ _ h]
      unfold sp_line
      rw [lc_w_cn _ _ h, hz1, hc1]
      rfl
  · by_cases h : j = 2
    · subst h
      rw [lc_w_c]
      unfold sp_line
      rw [lc_w_c]
      show y.1 6 i = _
      rw [hn2, if_neg (fun z => absurd z.2 (by decide))]
      rfl
    · rw [lc_w_cn _ _ h]
      unfold sp_line
      rw [lc_w_cn _ _ h, hz1, hc1]
      rfl
  · by_cases h : j = 2
    · subst h
      rw [lc_w_c]
      unfold sp_line
      rw [lc_w_c]
      match i, hi with
      | 0, _ => show y.1 7 0 = _; rw [hn2, if_neg (fun z => absurd z.2 (by decide))]; rfl
      | 1, _ => rfl
      | 2, _ => rfl
    · rw [lc_w_cn _ _ h]
      unfold sp_line
      rw [lc_w_cn _ _ h, hz1, hc1]
      rfl
  · by_cases h : r = 2
    · subst h
      match i, hi with
      | 0, _ => rw [lc_w_o0]; exact (lc_cz _).symm
      | 1, _ => rw [lc_w_o1]; exact (lc_cz _).symm
      | 2, _ => rw [lc_w_o2]; exact (lc_cz _).symm
    · rw [lc_w_on _ _ h, o _ _ h, o2]
      have h3 : ¬ r = 5 := by omega
      have h6 : ¬ r = 8 := by omega
      simp [h3, h6]
  · rw [lc_w_on _ _ (by omega), o _ _ (by omega), o2]
    have h6 : ¬ r = 8 := by omega
    simp [h6, hi]
  · rw [lc_w_on _ _ (by omega), o _ _ (by omega), o2]
    have h3 : ¬ r = 5 := by omega
    by_cases h8 : r = 8
    · subst h8
      unfold sp_posM
      by_cases hk : i < p <;> simp [hk]
    · simp [h3, h8]
  · rw [lc_w_on _ _ (by decide), o _ _ (by decide), o2]; simp
  · rw [lc_w_on _ _ (by decide), o _ _ (by decide), o2]; simp
  · rw [lc_w_on _ _ (by decide), o _ _ (by decide), o2]; simp
  · rw [lc_w_on _ _ (by decide), o _ _ (by decide), o2]; simp
  · show s2.2.2 0 = σ.2.2 0
    rw [hz2, hc2]
  · show s2.2.2 1 = σ.2.2 1
    rw [hz2, hc2]
