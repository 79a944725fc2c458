/-! pure words of the reference: keeping and putting back, settling, its digest -/
def sp_sv (σ : lc_S) (x : lc_X) (q : Nat) : Int32 := if q < 144 then x.1 (q % 6) (q / 6) else if q = 144 then x.1 7 1 else if q = 145 then σ.2.1 2 0 + x.2.1 else if q = 146 then σ.2.1 2 1 + x.2.2.1 else if q = 147 then σ.2.1 2 2 + x.2.2.2 else σ.2.1 13 q
def sp_svI (B : lc_C) (k w : Nat) (s : lc_S) : lc_S := lc_uo s 13 (6 * k + w) (B w k)
def sp_svP (σ : lc_S) (B : lc_C) (m : Nat) (s : lc_S) : Prop := s.1 = σ.1 ∧ s.2.2 = σ.2.2 ∧ ∀ r q, s.2.1 r q = if r = 13 ∧ q < m then B (q % 6) (q / 6) else σ.2.1 r q
theorem sp_svP_step {σ : lc_S} {B : lc_C} {k w : Nat} {s : lc_S} (hw : w < 6) (h : sp_svP σ B (6 * k + w) s) : sp_svP σ B (6 * k + (w + 1)) (sp_svI B k w s) := by
  obtain ⟨h1, h2, h3⟩ := h
  refine ⟨h1, h2, fun r q => ?_⟩
  show (if r = 13 ∧ q = 6 * k + w then B w k else s.2.1 r q) = _
  rw [h3]
  by_cases hr : r = 13
  · by_cases hq : q = 6 * k + w
    · have e1 : q % 6 = w := by omega
      have e2 : q / 6 = k := by omega
      have e3 : q < 6 * k + (w + 1) := by omega
      rw [if_pos ⟨hr, hq⟩, if_pos ⟨hr, e3⟩, e1, e2]
    · by_cases hl : q < 6 * k + w
      · rw [if_neg (fun z => hq z.2), if_pos ⟨hr, hl⟩, if_pos ⟨hr, by omega⟩]
      · rw [if_neg (fun z => hq z.2), if_neg (fun z => hl z.2), if_neg (fun z => absurd z.2 (by omega))]
  · rw [if_neg (fun z => hr z.1), if_neg (fun z => hr z.1), if_neg (fun z => hr z.1)]
theorem sp_svP_it (σ : lc_S) (B : lc_C) (n : Nat) : sp_svP σ B (6 * n) (sp_it (fun k s => sp_it (sp_svI B k) 6 s) n σ) := by
  refine sp_it_I (fun k s => sp_svP σ B (6 * k) s) (fun k s => sp_it (sp_svI B k) 6 s) n (fun k s _ h => ?_) σ ⟨rfl, rfl, fun r q => by rw [if_neg (fun z => absurd z.2 (by omega))]⟩
  have h2 := sp_it_I (fun w s => sp_svP σ B (6 * k + w) s) (sp_svI B k) 6 (fun w s hw h => sp_svP_step hw h) s h
  exact h2
theorem lc_cv (v b : Int32) : v = b + (v - b) := by rw [Int32.add_comm, Int32.sub_add_cancel]
def sp_x2 (σ : lc_S) : lc_X := (σ.1 2, 0, 0, 0)
def sp_RM (σ : lc_S) (n : Nat) (seed : Int32) (rum : Bool) : Int32 × Int64 × lc_X := sp_run (fun B => sp_aaM B n) (sp_rdM (σ.2.1 8) n rum) 40 0 (seed.toInt64, (σ.1 2, 0, 0, 0))
def sp_bM (σ : lc_S) : lc_S := lc_ro σ 13 (sp_sv σ (σ.1 2, 0, 0, 0))
def sp_stM (σ : lc_S) (n : Nat) (seed : Int32) (rum : Bool) : lc_S := lc_uo (lc_uo (lc_ul (sp_bM σ) 0 (sp_RM σ n seed rum).2.1) 12 2 (sp_RM σ n seed rum).1) 12 3 (sp_RM σ n seed rum).2.2.2.1
def sp_pickM (what : Int32) (r : Int32 × Int64 × lc_X) : Int32 := if what = 0 then r.1 else if what = 1 then r.2.2.2.1 else r.2.1.toInt32
def sp_stvM (σ : lc_S) (n : Nat) (seed : Int32) (rum : Bool) (what : Int32) : Int32 × lc_S := if (decide (0 ≤ seed) && sp_win what 0 2) = false then (-1002, σ) else if σ.1 2 7 0 = 0 then (-1003, σ) else (sp_pickM what (sp_RM σ n seed rum), sp_stM σ n seed rum)
theorem lc_uo_ul (σ : lc_S) (a r k : Nat) (s : Int64) (v : Int32) : lc_uo (lc_ul σ a s) r k v = lc_ul (lc_uo σ r k v) a s := rfl
theorem lc_cancel (b t : Int32) : b + t - (b + 0) = t := by
  rw [Int32.add_zero, Int32.add_comm, Int32.add_sub_cancel]
def sp_h2M (B : lc_C) (lat : Nat → Int32) (n : Nat) : Int64 := sp_it (fun k h => sp_mx h (sp_rssM B lat k n)) 4 (sp_it (sp_msh sp_alikeM B n) n 1741)
/-- the reference's state behind a settling that is told to h -/
def sp_msM (σ : lc_S) (n : Nat) (rum : Bool) : lc_S := lc_ul (sp_stM σ n 7 rum) 1 (sp_mx (sp_mx (sp_mx (σ.2.2 1) (sp_RM σ n 7 rum).1) (sp_RM σ n 7 rum).2.2.2.1) (sp_RM σ n 7 rum).2.1.toInt32)
theorem sp_sv_back (σ : lc_S) (x y : lc_X) (h13 : ∀ q, q < 148 → σ.2.1 13 q = sp_sv σ x q) (h6 : y.1 6 = x.1 6) (h70 : y.1 7 0 = x.1 7 0) (h72 : y.1 7 2 = x.1 7 2) : lc_sim (lc_w σ 2 (lc_cu (sp_it (sp_cpt (fun f k => σ.2.1 13 (6 * k + f))) 24 y).1 7 1 (σ.2.1 13 144), σ.2.1 13 145 - σ.2.1 2 0, σ.2.1 13 146 - σ.2.1 2 1, σ.2.1 13 147 - σ.2.1 2 2)) (lc_w σ 2 x) := by
  have hn := sp_cpt_it (fun f k => σ.2.1 13 (6 * k + f)) y 24
  generalize sp_it (sp_cpt (fun f k => σ.2.1 13 (6 * k + f))) 24 y = v at hn ⊢
  obtain ⟨hn1, hn2⟩ := hn
  have e145 : σ.2.1 13 145 = σ.2.1 2 0 + x.2.1 := by rw [h13 145 (by decide)]; rfl
  have e146 : σ.2.1 13 146 = σ.2.1 2 1 + x.2.2.1 := by rw [h13 146 (by decide)]; rfl
  have e147 : σ.2.1 13 147 = σ.2.1 2 2 + x.2.2.2 := by rw [h13 147 (by decide)]; rfl
  have e144 : σ.2.1 13 144 = x.1 7 1 := by rw [h13 144 (by decide)]; rfl
  have o : ∀ r k, r ≠ 2 → ∀ z w : lc_X, (lc_w σ 2 z).2.1 r k = (lc_w σ 2 w).2.1 r k := by
    intro r k h z w
    rw [lc_w_on _ _ h, lc_w_on _ _ h]
  refine ⟨fun j f i hj hf hi => ?_, fun j i hj hi => ?_, fun j i hj hi => ?_, fun r i hr hi => ?_, fun r i h1 h2 hi => o _ _ (by omega) _ _, fun r i h1 h2 hi => o _ _ (by omega) _ _, fun i hi => o _ _ (by decide) _ _, fun i hi => o _ _ (by decide) _ _, fun i hi => o _ _ (by decide) _ _, fun i hi => o _ _ (by decide) _ _, rfl, rfl⟩
  · by_cases h : j = 2
    · subst h
      rw [lc_w_c, lc_w_c]
      have e7 : ¬ f = 7 := by omega
      show (if f = 7 ∧ i = 1 then _ else v.1 f i) = _
      rw [if_neg (fun z => e7 z.1), hn2, if_pos ⟨hi, hf⟩, h13 _ (by omega)]
      unfold sp_sv
      rw [if_pos (by omega), show (6 * i + f) % 6 = f by omega, show (6 * i + f) / 6 = i by omega]
    · rw [lc_w_cn _ _ h, lc_w_cn _ _ h]
  · by_cases h : j = 2
    · subst h
      rw [lc_w_c, lc_w_c]
      show v.1 6 i = _
      rw [hn2, if_neg (fun z => absurd z.2 (by decide)), h6]
    · rw [lc_w_cn _ _ h, lc_w_cn _ _ h]
  · by_cases h : j = 2
    · subst h
      rw [lc_w_c, lc_w_c]
      match i, hi with
      | 0, _ => show v.1 7 0 = _; rw [hn2, if_neg (fun z => absurd z.2 (by decide)), h70]
      | 1, _ => exact e144
      | 2, _ => show v.1 7 2 = _; rw [hn2, if_neg (fun z => absurd z.2 (by decide)), h72]
    · rw [lc_w_cn _ _ h, lc_w_cn _ _ h]
  · by_cases h : r = 2
    · subst h
      match i, hi with
      | 0, _ => rw [lc_w_o0, lc_w_o0]; exact (lc_cv _ _).symm.trans e145
      | 1, _ => rw [lc_w_o1, lc_w_o1]; exact (lc_cv _ _).symm.trans e146
      | 2, _ => rw [lc_w_o2, lc_w_o2]; exact (lc_cv _ _).symm.trans e147
    · exact o _ _ h _ _
theorem sp_sv_save (σ : lc_S) (x : lc_X) : lc_sim (lc_w (lc_uo (lc_uo (lc_uo (lc_uo (sp_it (fun k s => sp_it (sp_svI x.1 k) 6 s) 24 σ) 13 144 (x.1 7 1)) 13 145 (σ.2.1 2 0 + x.2.1)) 13 146 (σ.2.1 2 1 + x.2.2.1)) 13 147 (σ.2.1 2 2 + x.2.2.2)) 2 x) (lc_w (lc_ro σ 13 (sp_sv σ x)) 2 x) := by
  have h := sp_svP_it σ x.1 24
  generalize sp_it (fun k s => sp_it (sp_svI x.1 k) 6 s) 24 σ = s at h ⊢
  obtain ⟨h1, h2, h3⟩ := h
  have on : ∀ r k, r ≠ 13 → (lc_uo (lc_uo (lc_uo (lc_uo s 13 144 (x.1 7 1)) 13 145 (σ.2.1 2 0 + x.2.1)) 13 146 (σ.2.1 2 1 + x.2.2.1)) 13 147 (σ.2.1 2 2 + x.2.2.2)).2.1 r k = (lc_ro σ 13 (sp_sv σ x)).2.1 r k := by
    intro r k hr
    simp only [lc_uo, lc_ro, hr, false_and, if_false]
    rw [h3, if_neg (fun z => hr z.1)]
  have cn : ∀ j, (lc_uo (lc_uo (lc_uo (lc_uo s 13 144 (x.1 7 1)) 13 145 (σ.2.1 2 0 + x.2.1)) 13 146 (σ.2.1 2 1 + x.2.2.1)) 13 147 (σ.2.1 2 2 + x.2.2.2)).1 j = (lc_ro σ 13 (sp_sv σ x)).1 j := by
    intro j
    show s.1 j = σ.1 j
    rw [h1]
  refine ⟨fun j f i hj hf hi => ?_, fun j i hj hi => ?_, fun j i hj hi => ?_, fun r i hr hi => ?_, fun r i h1 h2 hi => ?_, fun r i h1 h2 hi => ?_, fun i hi => ?_, fun i hi => ?_, fun i hi => ?_, fun i hi => ?_, ?_, ?_⟩
  · by_cases h : j = 2
    · subst h; rw [lc_w_c, lc_w_c]
    · rw [lc_w_cn _ _ h, lc_w_cn _ _ h, cn]
  · by_cases h : j = 2
    · subst h; rw [lc_w_c, lc_w_c]
    · rw [lc_w_cn _ _ h, lc_w_cn _ _ h, cn]
  · by_cases h : j = 2
    · subst h; rw [lc_w_c, lc_w_c]
    · rw [lc_w_cn _ _ h, lc_w_cn _ _ h, cn]
  · by_cases h : r = 2
    · subst h
      match i, hi with
      | 0, _ => rw [lc_w_o0, lc_w_o0, on _ _ (by decide)]
      | 1, _ => rw [lc_w_o1, lc_w_o1, on _ _ (by decide)]
      | 2, _ => rw [lc_w_o2, lc_w_o2, on _ _ (by decide)]
    · rw [lc_w_on _ _ h, lc_w_on _ _ h, on _ _ (by omega)]
  · rw [lc_w_on _ _ (by omega), lc_w_on _ _ (by omega), on _ _ (by omega)]
  · rw [lc_w_on _ _ (by omega), lc_w_on _ _ (by omega), on _ _ (by omega)]
  · rw [lc_w_on _ _ (by decide), lc_w_on _ _ (by decide), on _ _ (by decide)]
  · rw [lc_w_on _ _ (by decide), lc_w_on _ _ (by decide), on _ _ (by decide)]
  · rw [lc_w_on _ _ (by decide), lc_w_on _ _ (by decide), on _ _ (by decide)]
  · rw [lc_w_on _ _ (by decide), lc_w_on _ _ (by decide)]
    show _ = sp_sv σ x i
    unfold sp_sv
    by_cases hq : i < 144
    · have a1 : ¬ i = 144 := by omega
      have a2 : ¬ i = 145 := by omega
      have a3 : ¬ i = 146 := by omega
      have a4 : ¬ i = 147 := by omega
      simp only [lc_uo, a1, a2, a3, a4, and_false, if_false]
      rw [h3, if_pos ⟨rfl, hq⟩, if_pos hq]
    · rcases (show i = 144 ∨ i = 145 ∨ i = 146 ∨ i = 147 by omega) with rfl | rfl | rfl | rfl <;> rfl
  · show s.2.2 0 = σ.2.2 0
    rw [h2]
  · show s.2.2 1 = σ.2.2 1
    rw [h2]
