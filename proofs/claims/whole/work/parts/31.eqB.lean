/-! class against reference: who is near, keepers, partners -/
def eq_pos (P Q : Nat → Int32) (n : Nat) : Prop := ∀ k, k < n → ∃ j, j < 10 ∧ Q k = nI j ∧ P k = nI j + 48
def eq_mask (o out : Int32) (n : Nat) : Prop := ∀ i, i < 32 → bt o i = (decide (i < n) && !bt out i)
theorem eq_dist0 : ∀ i, i < 10 → ∀ j, j < 10 → nI i + 48 - (nI j + 48) = nI i - nI j ∧ sp_abs (nI i - nI j) < 1000 := by decide +kernel
theorem eq_dist {P Q : Nat → Int32} {n s a : Nat} (h : eq_pos P Q n) (hs : s < n) (ha : a < n) : P s - P a = Q s - Q a ∧ sp_abs (Q s - Q a) < 1000 := by
  obtain ⟨i, hi, e1, e2⟩ := h s hs
  obtain ⟨j, hj, e3, e4⟩ := h a ha
  rw [e1, e2, e3, e4]
  exact eq_dist0 i hi j hj
theorem eq_nears_m {P Q : Nat → Int32} {n a : Nat} {o out : Int32} (hp : eq_pos P Q n) (hn : n ≤ 6) (ha : a < n) (hm : eq_mask o out n) (m : Nat) (hmn : m ≤ n) : ((sp_it (sp_near P a o) m (none, 0)).1 = none ∧ sp_it (sp_nearM Q a out) m (none, 1000) = (none, 1000) ∧ ∀ s, s < m → bt o s = false) ∨ (sp_it (sp_near P a o) m (none, 0) = sp_it (sp_nearM Q a out) m (none, 1000) ∧ ∃ b, (sp_it (sp_near P a o) m (none, 0)).1 = some b ∧ b < m ∧ bt o b = true) := by
  induction m with
  | zero => exact Or.inl ⟨rfl, rfl, fun s h => absurd h (by omega)⟩
  | succ m ih =>
    have e1 : sp_it (sp_near P a o) (m + 1) (none, 0) = sp_near P a o m (sp_it (sp_near P a o) m (none, 0)) := rfl
    have e2 : sp_it (sp_nearM Q a out) (m + 1) (none, 1000) = sp_nearM Q a out m (sp_it (sp_nearM Q a out) m (none, 1000)) := rfl
    rw [e1, e2]
    have ih := ih (by omega)
    generalize sp_it (sp_near P a o) m (none, 0) = c at ih ⊢
    generalize sp_it (sp_nearM Q a out) m (none, 1000) = d at ih ⊢
    obtain ⟨hd1, hd2⟩ := eq_dist hp (s := m) (a := a) (by omega) ha
    have hb : bt o m = !bt out m := by
      rw [hm m (by omega), decide_eq_true (by omega : m < n)]; rfl
    unfold sp_near sp_nearM
    rw [sp_bit_bt _ _ (by omega), sp_bit_bt _ _ (by omega), hd1, ← hb]
    rcases ih with ⟨h1, h2, h3⟩ | ⟨h1, b, h2, h3, h4⟩
    · subst h2
      cases hbit : bt o m
      · left
        rw [Bool.false_and, Bool.false_and, if_neg (by decide), if_neg (by decide)]
        refine ⟨h1, rfl, fun s hs => ?_⟩
        by_cases e : s = m
        · rw [e]; exact hbit
        · exact h3 s (by omega)
      · right
        have k1 : (true && (c.1.isNone || decide (sp_abs (Q m - Q a) < c.2))) = true := by rw [h1]; rfl
        have k2 : (true && decide (sp_abs (Q m - Q a) < (1000 : Int32))) = true := by rw [decide_eq_true hd2]; rfl
        rw [if_pos k1, if_pos k2]
        exact ⟨rfl, m, rfl, by omega, hbit⟩
    · subst h1
      have k : (c.1.isNone || decide (sp_abs (Q m - Q a) < c.2)) = decide (sp_abs (Q m - Q a) < c.2) := by rw [h2]; rfl
      rw [k]
      right
      refine ⟨rfl, ?_⟩
      split
      · rename_i hc
        rw [Bool.and_eq_true] at hc
        exact ⟨m, rfl, by omega, hc.1⟩
      · exact ⟨b, h2, by omega, h4⟩
theorem eq_nears {P Q : Nat → Int32} {n a : Nat} {o out : Int32} (hp : eq_pos P Q n) (hn : n ≤ 6) (ha : a < n) (hm : eq_mask o out n) : ((sp_nears P a o n).1 = none ∧ (sp_nearsM Q a out n).1 = none ∧ ∀ s, s < n → bt out s = true) ∨ (∃ b, (sp_nears P a o n).1 = some b ∧ (sp_nearsM Q a out n).1 = some b ∧ b < n ∧ bt out b = false) := by
  rcases eq_nears_m hp hn ha hm n (Nat.le_refl n) with ⟨h1, h2, h3⟩ | ⟨h1, b, h2, h3, h4⟩
  · left
    refine ⟨h1, ?_, fun s hs => ?_⟩
    · show (sp_it (sp_nearM Q a out) n (none, 1000)).1 = none
      rw [h2]
    · have e := h3 s hs
      rw [hm s (by omega), decide_eq_true hs] at e
      simpa using e
  · right
    refine ⟨b, h2, ?_, h3, ?_⟩
    · show (sp_it (sp_nearM Q a out) n (none, 1000)).1 = some b
      rw [← h1]; exact h2
    · rw [hm b (by omega), decide_eq_true h3] at h4
      simpa using h4
theorem eq_mask0 {o out : Int32} {n : Nat} (hm : eq_mask o out n) : o = 0 ↔ ∀ s, s < n → s < 32 → bt out s = true := by
  constructor
  · intro h s hs h32
    have e := hm s h32
    rw [h, b_0, decide_eq_true hs] at e
    simpa using e.symm
  · intro h
    apply b_ext
    intro i hi
    rw [hm i hi, b_0]
    by_cases hin : i < n
    · rw [h i hin hi]; simp
    · rw [decide_eq_false hin]; rfl
theorem eq_one (b i : Nat) (hb : b < 32) (hi : i < 32) : bt ((1 : Int32) <<< (nI b &&& 31)) i = decide (i = b) := by
  rw [b_shl b hb 1 hi]
  by_cases h : b ≤ i
  · rw [b_1 _ (by omega), decide_eq_true h]
    by_cases e : i = b
    · subst e; simp
    · rw [decide_eq_false e, decide_eq_false (by omega)]; rfl
  · rw [decide_eq_false h, decide_eq_false (by omega)]; rfl
theorem eq_mask_set {o out : Int32} {n b : Nat} (hm : eq_mask o out n) (hb : b < 32) : eq_mask (o &&& (((1 : Int32) <<< (nI b &&& 31)) ^^^ (-1))) (out ||| ((1 : Int32) <<< (nI b &&& 31))) n := by
  intro i hi
  rw [b_and, b_xor, b_or, eq_one b i hb hi, b_m1 i hi, hm i hi]
  cases decide (i < n) <;> cases bt out i <;> cases decide (i = b) <;> rfl
theorem eq_oth0 : ∀ n, n < 7 → ∀ i, i < 32 → bt (((1 : Int32) <<< (nI n &&& 31)) - 1) i = decide (i < n) := by decide +kernel
theorem eq_oth {n a : Nat} (hn : n ≤ 6) (ha : a < 32) : eq_mask (sp_oth (nI a) (nI n)) ((1 : Int32) <<< (nI a &&& 31)) n := by
  intro i hi
  unfold sp_oth
  rw [b_and, b_xor, eq_oth0 n (by omega) i hi, b_m1 i hi]
  cases decide (i < n) <;> cases bt ((1 : Int32) <<< (nI a &&& 31)) i <;> rfl
theorem eq_keep {P Q : Nat → Int32} {n a : Nat} (hp : eq_pos P Q n) (hn : n ≤ 6) (ha : a < n) (m : Nat) : sp_keepC P a n m (sp_oth (nI a) (nI n)) = sp_keepM Q a n m := by
  unfold sp_keepC sp_keepM
  have key : ∀ k, (sp_it (fun _ => sp_kp P a n) k ((1 : Int32) <<< (nI a &&& 31), sp_oth (nI a) (nI n))).1 = sp_it (fun _ => sp_nrM Q a n) k ((1 : Int32) <<< (nI a &&& 31)) ∧ eq_mask (sp_it (fun _ => sp_kp P a n) k ((1 : Int32) <<< (nI a &&& 31), sp_oth (nI a) (nI n))).2 (sp_it (fun _ => sp_nrM Q a n) k ((1 : Int32) <<< (nI a &&& 31))) n := by
    intro k
    induction k with
    | zero => exact ⟨rfl, eq_oth hn (by omega)⟩
    | succ k ih =>
      have e1 : sp_it (fun _ => sp_kp P a n) (k + 1) ((1 : Int32) <<< (nI a &&& 31), sp_oth (nI a) (nI n)) = sp_kp P a n (sp_it (fun _ => sp_kp P a n) k ((1 : Int32) <<< (nI a &&& 31), sp_oth (nI a) (nI n))) := rfl
      have e2 : sp_it (fun _ => sp_nrM Q a n) (k + 1) ((1 : Int32) <<< (nI a &&& 31)) = sp_nrM Q a n (sp_it (fun _ => sp_nrM Q a n) k ((1 : Int32) <<< (nI a &&& 31))) := rfl
      rw [e1, e2]
      generalize sp_it (fun _ => sp_kp P a n) k ((1 : Int32) <<< (nI a &&& 31), sp_oth (nI a) (nI n)) = z at ih ⊢
      generalize sp_it (fun _ => sp_nrM Q a n) k ((1 : Int32) <<< (nI a &&& 31)) = out at ih ⊢
      obtain ⟨h1, h2⟩ := ih
      unfold sp_kp sp_nrM
      rcases eq_nears hp hn ha h2 with ⟨g1, g2, g3⟩ | ⟨b, g1, g2, g3, g4⟩
      · have z0 : z.2 = 0 := (eq_mask0 h2).mpr (fun s hs _ => g3 s hs)
        have on : sp_on (none : Option Nat) = -1 := rfl
        rw [if_pos z0, g2, if_pos on, Int32.or_zero]
        exact ⟨h1, h2⟩
      · have z0 : ¬ z.2 = 0 := fun h => by
          have := (eq_mask0 h2).mp h b g3 (by omega)
          rw [g4] at this
          cases this
        have on : ¬ sp_on (some b) = -1 := fun h => lc_nm1b (b := b) (by omega) h
        rw [if_neg z0, g1, g2, if_neg on]
        exact ⟨by dsimp only; rw [h1], eq_mask_set h2 (by omega)⟩
  exact (key _).1
/-- how many are not in -/
def eq_cn (g : Nat → Bool) : Nat → Nat
  | 0 => 0
  | n + 1 => if g n = true then eq_cn g n else eq_cn g n + 1
theorem eq_cn_pcs (out : Int32) (n : Nat) (hn : n ≤ 32) : (sp_pcs out n).1 = eq_cn (bt out) n := by
  induction n with
  | zero => rfl
  | succ n ih =>
    have e : sp_pcs out (n + 1) = sp_pc out n (sp_pcs out n) := rfl
    rw [e]
    unfold sp_pc eq_cn
    rw [sp_bit_bt _ _ (by omega)]
    split
    · exact ih (by omega)
    · show (sp_pcs out n).1 + 1 = _
      rw [ih (by omega)]
theorem eq_cn_congr {g h : Nat → Bool} {n : Nat} (e : ∀ i, i < n → g i = h i) : eq_cn g n = eq_cn h n := by
  induction n with
  | zero => rfl
  | succ n ih =>
    unfold eq_cn
    rw [e n (by omega), ih (fun i hi => e i (by omega))]
theorem eq_cn_set {g h : Nat → Bool} {n b : Nat} (hb : b < n) (hg : g b = false) (e : ∀ i, i < n → h i = (g i || decide (i = b))) : eq_cn h n + 1 = eq_cn g n := by
  induction n with
  | zero => exact absurd hb (by omega)
  | succ n ih =>
    unfold eq_cn
    by_cases hbn : b = n
    · subst hbn
      have e1 : h b = true := by rw [e b (by omega)]; simp
      have e2 : eq_cn h b = eq_cn g b := eq_cn_congr (fun i hi => by rw [e i (by omega), decide_eq_false (by omega), Bool.or_false])
      rw [if_pos e1, hg, if_neg (by decide), e2]
    · have e1 : h n = g n := by rw [e n (by omega), decide_eq_false (by omega), Bool.or_false]
      have e2 := ih (by omega) (fun i hi => e i (by omega))
      rw [e1]
      split
      · exact e2
      · omega
theorem eq_cn_0 {g : Nat → Bool} {n : Nat} (h : eq_cn g n = 0) : ∀ i, i < n → g i = true := by
  induction n with
  | zero => intro i hi; exact absurd hi (by omega)
  | succ n ih =>
    unfold eq_cn at h
    intro i hi
    split at h
    · rename_i hg
      by_cases e : i = n
      · rw [e]; exact hg
      · exact ih h i (by omega)
    · exact absurd h (by omega)
theorem eq_cn_a {g : Nat → Bool} {n : Nat} (h : ∀ i, i < n → g i = true) : eq_cn g n = 0 := by
  induction n with
  | zero => rfl
  | succ n ih =>
    unfold eq_cn
    rw [if_pos (h n (by omega))]
    exact ih (fun i hi => h i (by omega))
theorem eq_cn_le (g : Nat → Bool) (n : Nat) : eq_cn g n ≤ n := by
  induction n with
  | zero => exact Nat.le_refl 0
  | succ n ih =>
    unfold eq_cn
    split <;> omega
theorem eq_cn_min (g : Nat → Bool) (n m : Nat) : eq_cn (fun i => !(decide (i < n) && !g i)) m = eq_cn g (min m n) := by
  induction m with
  | zero => rw [Nat.zero_min]; rfl
  | succ m ih =>
    have e : eq_cn (fun i => !(decide (i < n) && !g i)) (m + 1) = if (!(decide (m < n) && !g m)) = true then eq_cn (fun i => !(decide (i < n) && !g i)) m else eq_cn (fun i => !(decide (i < n) && !g i)) m + 1 := rfl
    rw [e, ih]
    by_cases hm : m < n
    · rw [show min (m + 1) n = m + 1 by omega, show min m n = m by omega, decide_eq_true hm]
      show _ = if g m = true then eq_cn g m else eq_cn g m + 1
      cases g m <;> rfl
    · rw [show min (m + 1) n = n by omega, show min m n = n by omega, decide_eq_false hm]
      rfl
theorem eq_bc0 : ∀ v, v < 64 → sp_bc (nI v) = nI (eq_cn (fun i => !bt (nI v) i) 6) := by decide +kernel
theorem eq_b63 : ∀ i, i < 32 → bt 63 i = decide (i < 6) := by decide +kernel
theorem eq_bc {o out : Int32} {n : Nat} (hn : n ≤ 6) (hm : eq_mask o out n) : sp_bc o = nI (eq_cn (bt out) n) := by
  have e : o &&& 63 = o := by
    apply b_ext
    intro i hi
    rw [b_and, eq_b63 i hi, hm i hi]
    by_cases h : i < n
    · rw [decide_eq_true (by omega : i < 6), Bool.and_true]
    · rw [decide_eq_false h]; rfl
  obtain ⟨v, hv, ev⟩ := pk_andE o (m := 63) 6 (by decide)
  have ev : o = nI v := e.symm.trans ev
  rw [ev, eq_bc0 v hv, ← ev]
  congr 1
  rw [eq_cn_congr (h := fun i => !(decide (i < n) && !bt out i)) (fun i hi => by rw [hm i (by omega)]), eq_cn_min, show min 6 n = n by omega]
theorem eq_wt0 : ∀ c, c < 6 → sp_wt (nI c) = nI (sp_T c) := by decide +kernel
theorem eq_wei : ∀ r, r < 5 → lc_wei r = nI (60 / (r + 1)) := by decide +kernel
theorem eq_Tm : ∀ r, r < 6 → sp_T r ≤ 137 := by decide
theorem eq_pbr {P Q : Nat → Int32} {n a : Nat} (hp : eq_pos P Q n) (hn : n ≤ 6) (ha : a < n) (D c : Nat) (hc : c ≤ 5) (hD : D < sp_T c) : ∀ (f r : Nat) (o out : Int32), r + f = c → 1 ≤ f → eq_mask o out n → eq_cn (bt out) n = f → sp_T r ≤ D → sp_pbr P a n (nI D) (5 - r) r o (nI (sp_T r)) = sp_pm Q a n f r (D - sp_T r) out (sp_on (sp_nearsM Q a out n).1) := by
  intro f
  induction f with
  | zero => intro r o out h1 h2; exact absurd h2 (by omega)
  | succ f ih =>
    intro r o out h1 _ hm hcn hT
    have hTc := eq_Tm c (by omega)
    have hr5 : r < 5 := by omega
    have hTr : sp_T (r + 1) = sp_T r + 60 / (r + 1) := rfl
    have hTr1 := eq_Tm (r + 1) (by omega)
    have o0 : ¬ o = 0 := fun h => by
      have h0 := eq_cn_a (g := bt out) (n := n) (fun i hi => (eq_mask0 hm).mp h i hi (by omega))
      omega
    rw [show 5 - r = (4 - r) + 1 by omega]
    unfold sp_pbr sp_pm
    rw [if_neg o0, eq_wei r hr5, nI_add, sp_wgt_nat r (by omega), ← hTr]
    rcases eq_nears hp hn ha hm with ⟨g1, g2, g3⟩ | ⟨b, g1, g2, g3, g4⟩
    · have h0 := eq_cn_a (g := bt out) (n := n) g3
      omega
    · rw [g1, g2]
      by_cases hlt : D < sp_T (r + 1)
      · rw [if_pos (nI_lt hlt (by omega)), if_pos (nI_lt (by omega) (by omega))]
      · rw [if_neg (nI_nlt (by omega) (by omega)), if_neg (nI_nlt (by omega) (by omega))]
        have hf : 1 ≤ f := by
          rcases Nat.eq_zero_or_pos f with e | e
          · subst e
            rw [show c = r + 1 by omega] at hD
            omega
          · exact e
        have hm' := eq_mask_set hm (b := b) (by omega)
        have hcn' := eq_cn_set (h := bt (out ||| ((1 : Int32) <<< (nI b &&& 31)))) g3 g4 (fun i hi => by rw [b_or, eq_one b i (by omega) (by omega)])
        have e := ih (r + 1) _ _ (by omega) hf hm' (by omega) (by omega)
        rw [show 5 - (r + 1) = 4 - r by omega] at e
        rw [show D - sp_T r - 60 / (r + 1) = D - sp_T (r + 1) by omega]
        exact e
theorem eq_othOn {B : lc_C} {n a : Nat} (hn : n ≤ 6) (ha : a < 32) (hs : B 7 0 = nI n) : eq_mask (sp_othOn B (nI a)) (sp_out B a) n := by
  intro i hi
  unfold sp_othOn sp_out
  rw [hs, b_and, b_or, b_xor, b_m1 i hi, eq_oth hn ha i hi]
  cases decide (i < n) <;> cases bt ((1 : Int32) <<< (nI a &&& 31)) i <;> cases bt (B 7 2) i <;> rfl
theorem eq_next (s : Int32) : ∃ k : Nat, k < 2 ^ 31 ∧ sp_next s = nI k ∧ sp_nx s.toInt64 = lN k := by
  obtain ⟨k, hk, e⟩ := sp_nx_nat s.toInt64
  refine ⟨k, hk, ?_, e⟩
  show (sp_nx s.toInt64).toInt32 = _
  rw [e, lN_i]
theorem eq_next64 (s : Int32) : (sp_next s).toInt64 = sp_nx s.toInt64 := by
  obtain ⟨k, hk, e1, e2⟩ := eq_next s
  rw [e1, e2, nI_l hk]
theorem eq_part {B : lc_C} {P Q : Nat → Int32} {n a : Nat} (hp : eq_pos P Q n) (hn : n ≤ 6) (ha : a < n) (hs : B 7 0 = nI n) (seed : Int32) : (sp_othOn B (nI a) = 0 ∧ (sp_pcs (sp_out B a) n).1 = 0 ∧ (∀ s, sp_partC B P a n s = -1)) ∨ (¬ sp_othOn B (nI a) = 0 ∧ ¬ (sp_pcs (sp_out B a) n).1 = 0 ∧ sp_partC B P a n (sp_next seed) = (sp_partM B Q a n seed.toInt64).1) := by
  have hm := eq_othOn (B := B) (n := n) (a := a) hn (by omega) hs
  have hbc := eq_bc hn hm
  have hcn := eq_cn_pcs (sp_out B a) n (by omega)
  have hI := sp_pcs_I (sp_out B a) a n (by omega) (by unfold sp_out; exact sp_bit_or _ _ (by omega))
  by_cases h0 : sp_othOn B (nI a) = 0
  · left
    have hc0 := eq_cn_a (g := bt (sp_out B a)) (n := n) (fun i hi => (eq_mask0 hm).mp h0 i hi (by omega))
    refine ⟨h0, by rw [hcn]; exact hc0, fun s => ?_⟩
    unfold sp_partC
    rw [hbc, hc0, eq_wt0 0 (by decide), if_pos (by decide)]
  · right
    have hc0 : ¬ eq_cn (bt (sp_out B a)) n = 0 := fun h => h0 ((eq_mask0 hm).mpr (fun s hs _ => eq_cn_0 h s hs))
    have hc5 : eq_cn (bt (sp_out B a)) n ≤ 5 := by
      have := hI.2.2 ha
      rw [hcn] at this
      omega
    refine ⟨h0, by rw [hcn]; exact hc0, ?_⟩
    unfold sp_partC sp_partM
    have hT := sp_T_pos (k := eq_cn (bt (sp_out B a)) n) (by omega) hc5
    rw [hbc, eq_wt0 _ (by omega), if_neg (nI_nle hT.1 (by omega)), if_neg (by rw [hcn]; exact hc0)]
    obtain ⟨k, hk, e1, e2⟩ := eq_next seed
    dsimp only
    rw [hI.1, hcn, sp_drw_nat _ k _ hk e2 hT.1 (by omega), e1]
    have e3 : sp_rem (nI k / 65536) (nI (sp_T (eq_cn (bt (sp_out B a)) n))) = nI (k / 65536 % sp_T (eq_cn (bt (sp_out B a)) n)) := by
      unfold sp_rem
      have e4 : nI k / 65536 = nI (k / 65536) := pk_div (a := k) (d := 65536) (by omega) (by omega) (by omega)
      rw [e4]
      exact pk_rem (by omega) hT.1 (by omega)
    have hlt : k / 65536 % sp_T (eq_cn (bt (sp_out B a)) n) < sp_T (eq_cn (bt (sp_out B a)) n) := Nat.mod_lt _ hT.1
    rw [e3, nI_clamp (by omega)]
    exact eq_pbr hp hn ha _ _ hc5 hlt (eq_cn (bt (sp_out B a)) n) 0 _ _ (by omega) (by omega) hm rfl (Nat.zero_le _)
