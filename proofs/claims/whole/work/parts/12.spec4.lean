/-! pure words: a line's start, a trial's start, the page, rounds -/
def sp_cpo (dst src : Nat) (g : Int32 → Int32) (i : Nat) (s : lc_S) : lc_S := lc_uo s dst i (g (s.2.1 src i))
def sp_zr (r : Nat) (i : Nat) (s : lc_S) : lc_S := lc_uo s r i 0
def sp_nn (i : Nat) (y : lc_X) : lc_X := (sp_none y.1 i, y.2)
def sp_cpt (E : lc_C) (i : Nat) (y : lc_X) : lc_X := (sp_copy y.1 i E i (E 5 i), y.2)
theorem sp_cpo_it (dst src : Nat) (g : Int32 → Int32) (hd : dst ≠ src) (σ : lc_S) (n : Nat) : (sp_it (sp_cpo dst src g) n σ).1 = σ.1 ∧ (sp_it (sp_cpo dst src g) n σ).2.2 = σ.2.2 ∧ ∀ r k, (sp_it (sp_cpo dst src g) n σ).2.1 r k = if r = dst ∧ k < n then g (σ.2.1 src k) else σ.2.1 r k := by
  induction n with
  | zero => exact ⟨rfl, rfl, fun r k => by simp [sp_it]⟩
  | succ n ih =>
    obtain ⟨h1, h2, h3⟩ := ih
    refine ⟨h1, h2, fun r k => ?_⟩
    show (if r = dst ∧ k = n then g ((sp_it (sp_cpo dst src g) n σ).2.1 src n) else (sp_it (sp_cpo dst src g) n σ).2.1 r k) = _
    rw [h3, h3]
    by_cases hr : r = dst
    · by_cases hk : k = n
      · subst hk
        have e : ¬ src = dst := fun z => hd z.symm
        simp [hr, e]
      · by_cases hl : k < n
        · have h' : k < n + 1 := by omega
          simp [hr, hk, hl, h']
        · have h' : ¬ k < n + 1 := by omega
          simp [hr, hk, hl, h']
    · simp [hr]
theorem sp_zr_it (q : Nat) (σ : lc_S) (n : Nat) : (sp_it (sp_zr q) n σ).1 = σ.1 ∧ (sp_it (sp_zr q) n σ).2.2 = σ.2.2 ∧ ∀ r k, (sp_it (sp_zr q) n σ).2.1 r k = if r = q ∧ k < n then 0 else σ.2.1 r k := by
  induction n with
  | zero => exact ⟨rfl, rfl, fun r k => by simp [sp_it]⟩
  | succ n ih =>
    obtain ⟨h1, h2, h3⟩ := ih
    refine ⟨h1, h2, fun r k => ?_⟩
    show (if r = q ∧ k = n then 0 else (sp_it (sp_zr q) n σ).2.1 r k) = _
    rw [h3]
    by_cases hr : r = q
    · by_cases hk : k = n
      · have h' : k < n + 1 := by omega
        simp [hr, hk]
      · by_cases hl : k < n
        · have h' : k < n + 1 := by omega
          simp [hr, hk, hl, h']
        · have h' : ¬ k < n + 1 := by omega
          simp [hr, hk, hl, h']
    · simp [hr]
theorem sp_none_at (B : lc_C) (i f k : Nat) : sp_none B i f k = if k = i ∧ f < 6 then sp_fresh (fun _ => 0) 0 f 0 else B f k := by
  by_cases hk : k = i
  · subst hk
    match f with
    | 0 => simp [sp_none, lc_cu, sp_fresh]
    | 1 => simp [sp_none, lc_cu, sp_fresh]
    | 2 => simp [sp_none, lc_cu, sp_fresh]
    | 3 => simp [sp_none, lc_cu, sp_fresh]
    | 4 => simp [sp_none, lc_cu, sp_fresh]
    | 5 => simp [sp_none, lc_cu, sp_fresh]
    | f + 6 =>
      have h6 : ¬ f + 6 < 6 := by omega
      simp [sp_none, lc_cu, h6]
  · simp [sp_none, lc_cu, hk]
theorem sp_nn_it (y : lc_X) (n : Nat) : (sp_it sp_nn n y).2 = y.2 ∧ ∀ f k, (sp_it sp_nn n y).1 f k = if k < n ∧ f < 6 then sp_fresh (fun _ => 0) 0 f 0 else y.1 f k := by
  induction n with
  | zero => exact ⟨rfl, fun f k => by simp [sp_it]⟩
  | succ n ih =>
    obtain ⟨h1, h2⟩ := ih
    refine ⟨h1, fun f k => ?_⟩
    show sp_none (sp_it sp_nn n y).1 n f k = _
    rw [sp_none_at, h2]
    by_cases hk : k = n
    · have h' : k < n + 1 := by omega
      by_cases hf : f < 6 <;> simp [hk, hf]
    · by_cases hl : k < n
      · have h' : k < n + 1 := by omega
        simp [hk, hl, h']
      · have h' : ¬ k < n + 1 := by omega
        simp [hk, hl, h']
theorem sp_copy_at (B E : lc_C) (i f k : Nat) : sp_copy B i E i (E 5 i) f k = if k = i ∧ f < 6 then E f i else B f k := by
  by_cases hk : k = i
  · subst hk
    match f with
    | 0 => simp [sp_copy, lc_cu]
    | 1 => simp [sp_copy, lc_cu]
    | 2 => simp [sp_copy, lc_cu]
    | 3 => simp [sp_copy, lc_cu]
    | 4 => simp [sp_copy, lc_cu]
    | 5 => simp [sp_copy, lc_cu]
    | f + 6 =>
      have h6 : ¬ f + 6 < 6 := by omega
      simp [sp_copy, lc_cu, h6]
  · simp [sp_copy, lc_cu, hk]
theorem sp_cpt_it (E : lc_C) (y : lc_X) (n : Nat) : (sp_it (sp_cpt E) n y).2 = y.2 ∧ ∀ f k, (sp_it (sp_cpt E) n y).1 f k = if k < n ∧ f < 6 then E f k else y.1 f k := by
  induction n with
  | zero => exact ⟨rfl, fun f k => by simp [sp_it]⟩
  | succ n ih =>
    obtain ⟨h1, h2⟩ := ih
    refine ⟨h1, fun f k => ?_⟩
    show sp_copy (sp_it (sp_cpt E) n y).1 n E n (E 5 n) f k = _
    rw [sp_copy_at, h2]
    by_cases hk : k = n
    · have h' : k < n + 1 := by omega
      by_cases hf : f < 6 <;> simp [hk, hf]
    · by_cases hl : k < n
      · have h' : k < n + 1 := by omega
        simp [hk, hl, h']
      · have h' : ¬ k < n + 1 := by omega
        simp [hk, hl, h']
theorem sp_fresh_f (lim : Nat → Int32) (len : Int32) (f k : Nat) (hf : f < 6) : sp_fresh lim len f k = sp_fresh (fun _ => 0) 0 f 0 := by
  match f, hf with
  | 0, _ => rfl
  | 1, _ => rfl
  | 2, _ => rfl
  | 3, _ => rfl
  | 4, _ => rfl
  | 5, _ => rfl
/-- the state behind a line's start: world j, its latest in row rl, its positions (row rp) as told -/
def sp_line (σ : lc_S) (j rl rp : Nat) (pos : Nat → Int32) (lim : Nat → Int32) (len : Int32) : lc_S := lc_w (lc_ro (lc_ro (lc_ro σ j (fun _ => 0)) rl (fun _ => 0)) rp pos) j (sp_fresh lim len, 0, 0, 0)
/-- the state behind a trial's start -/
def sp_trial (σ : lc_S) : lc_S := lc_ro (lc_ro σ 1 (fun k => if k = 0 then 0 else σ.2.1 1 k)) 7 (σ.2.1 6)
def sp_fw (codes : Nat → Int32) : Nat → Nat → Int32 → Int32
  | 0, i, _ => nI i
  | f + 1, i, least => if (decide (least ≤ codes i) && decide (codes i ≤ 57)) = true then sp_fw codes f (i + 1) (codes i) else nI i
def sp_isl (codes : Nat → Int32) (p : Nat) : Bool := decide (2 ≤ p) && decide (sp_fw codes p 0 48 = nI p)
def sp_next (s : Int32) : Int32 := ((1103515245 * s.toInt64 + 12345) &&& 2147483647).toInt32
theorem lc_uo_uo (σ : lc_S) (r k : Nat) (v w : Int32) : lc_uo (lc_uo σ r k v) r k w = lc_uo σ r k w := by
  unfold lc_uo
  refine Prod.ext rfl (Prod.ext ?_ rfl)
  funext a b
  by_cases h : a = r ∧ b = k <;> simp [h]
theorem lc_uo_id (σ : lc_S) (r k : Nat) : lc_uo σ r k (σ.2.1 r k) = σ := by
  unfold lc_uo
  refine Prod.ext rfl (Prod.ext ?_ rfl)
  funext a b
  by_cases h : a = r ∧ b = k
  · simp [h]
  · simp [h]
/-- one site's turn, a round, rounds till all are alike -/
def sp_trC (pos : Nat → Int32) (n : Nat) (rum : Bool) (s : Nat) (z : Int32 × lc_X) : Int32 × lc_X :=
  if sp_bit (z.2.1 7 2) (nI s) = true then z else if sp_othOn z.2.1 (nI s) = 0 then z
  else if sp_partC z.2.1 pos s n (sp_next z.1) = -1 then (sp_next z.1, z.2)
  else (sp_next z.1, if rum = true then (sp_hots z.2 s (sp_partC z.2.1 pos s n (sp_next z.1)).toNatClampNeg).2 else (sp_cmp z.2 s (sp_partC z.2.1 pos s n (sp_next z.1)).toNatClampNeg).2)
def sp_rdC (pos : Nat → Int32) (n : Nat) (rum : Bool) (z : Int32 × lc_X) : Int32 × lc_X := sp_it (sp_trC pos n rum) n (z.1, (sp_adv n z.2 1).2)
def sp_run {α : Type} (aa : lc_C → Bool) (rd : α × lc_X → α × lc_X) : Nat → Nat → α × lc_X → Int32 × α × lc_X
  | 0, i, z => (if aa z.2.1 = true then nI i else -1, z)
  | f + 1, i, z => if aa z.2.1 = true then (nI i, z) else sp_run aa rd f (i + 1) (rd z)
theorem sp_pbr_cases (pos : Nat → Int32) (a n : Nat) (draw : Int32) : ∀ (k r : Nat) (o s : Int32), sp_pbr pos a n draw k r o s = -1 ∨ ∃ q, q < n ∧ sp_pbr pos a n draw k r o s = nI q := by
  intro k
  induction k with
  | zero => intro r o s; exact Or.inl rfl
  | succ k ih =>
    intro r o s
    unfold sp_pbr
    split
    · exact Or.inl rfl
    · split
      · cases h : (sp_nears pos a o n).1 with
        | none => exact Or.inl rfl
        | some b => exact Or.inr ⟨b, sp_near_lt pos a o n b h, rfl⟩
      · exact ih _ _ _
theorem sp_partC_cases (B : lc_C) (pos : Nat → Int32) (a n : Nat) (seed : Int32) : sp_partC B pos a n seed = -1 ∨ ∃ q, q < n ∧ sp_partC B pos a n seed = nI q := by
  unfold sp_partC
  split
  · exact Or.inl rfl
  · exact sp_pbr_cases _ _ _ _ _ _ _ _
/-- rows 6 and 7 (the limits; sites, now, off) are kept by what meets and tells -/
theorem sp_wake_r (x : lc_X) (i : Nat) : (sp_wake x i).1 6 = x.1 6 ∧ (sp_wake x i).1 7 = x.1 7 := ⟨rfl, rfl⟩
theorem sp_meet_r (x : lc_X) (p q : Nat) : (sp_meet x p q).2.1 6 = x.1 6 ∧ (sp_meet x p q).2.1 7 = x.1 7 := by
  have hw : (sp_meetW x p q).1 6 = x.1 6 ∧ (sp_meetW x p q).1 7 = x.1 7 := by
    unfold sp_meetW
    split
    · exact ⟨rfl, rfl⟩
    · split <;> exact ⟨rfl, rfl⟩
  unfold sp_meet sp_meetC
  split
  · exact hw
  · split <;> exact hw
theorem sp_mks_r (x : lc_X) (a b : Nat) (keys : Int32) : (sp_mks x a b keys).2.1 6 = x.1 6 ∧ (sp_mks x a b keys).2.1 7 = x.1 7 := by
  refine sp_it_I (fun _ z => z.2.1 6 = x.1 6 ∧ z.2.1 7 = x.1 7) (sp_mk a b keys) 4 (fun i z _ h => ?_) (0, x) ⟨rfl, rfl⟩
  unfold sp_mk
  split
  · obtain ⟨h1, h2⟩ := sp_meet_r (sp_tr z.2 (lc_bi (sp_aw z.2.1 (4 * a + i)) + lc_bi (sp_aw z.2.1 (4 * b + i)))) (4 * a + i) (4 * b + i)
    exact ⟨h1.trans h.1, h2.trans h.2⟩
  · exact h
theorem sp_cmp_r (x : lc_X) (a b : Nat) : (sp_cmp x a b).2.1 6 = x.1 6 ∧ (sp_cmp x a b).2.1 7 = x.1 7 := by
  unfold sp_cmp
  have h1 := sp_mks_r x a b (sp_rks x.1 a b)
  split
  · exact h1
  · have h2 := sp_mks_r (sp_mks x a b (sp_rks x.1 a b)).2 a b (15 &&& (sp_rks x.1 a b ^^^ (-1)))
    exact ⟨h2.1.trans h1.1, h2.2.trans h1.2⟩
theorem sp_tell_r (x : lc_X) (p q : Nat) : (sp_tell x p q).2.1 6 = x.1 6 ∧ (sp_tell x p q).2.1 7 = x.1 7 := by
  unfold sp_tell
  split
  · exact ⟨rfl, rfl⟩
  · show (sp_tellN x p q).1 6 = _ ∧ (sp_tellN x p q).1 7 = _
    unfold sp_tellN
    split <;> exact ⟨rfl, rfl⟩
theorem sp_hots_r (x : lc_X) (a b : Nat) : (sp_hots x a b).2.1 6 = x.1 6 ∧ (sp_hots x a b).2.1 7 = x.1 7 := by
  refine sp_it_I (fun _ z => z.2.1 6 = x.1 6 ∧ z.2.1 7 = x.1 7) (sp_hot a b) 4 (fun i z _ h => ?_) (0, x) ⟨rfl, rfl⟩
  unfold sp_hot
  split
  · obtain ⟨h1, h2⟩ := sp_tell_r (sp_tr z.2 1) (4 * a + i) (4 * b + i)
    exact ⟨h1.trans h.1, h2.trans h.2⟩
  · exact h
theorem sp_trC_r (pos : Nat → Int32) (n : Nat) (rum : Bool) (s : Nat) (z : Int32 × lc_X) : (sp_trC pos n rum s z).2.1 6 = z.2.1 6 ∧ (sp_trC pos n rum s z).2.1 7 = z.2.1 7 := by
  unfold sp_trC
  generalize (sp_partC z.2.1 pos s n (sp_next z.1)).toNatClampNeg = q
  split
  · exact ⟨rfl, rfl⟩
  · split
    · exact ⟨rfl, rfl⟩
    · split
      · exact ⟨rfl, rfl⟩
      · by_cases hr : rum = true
        · rw [if_pos hr]; dsimp only; exact sp_hots_r z.2 s q
        · rw [if_neg hr]; dsimp only; exact sp_cmp_r z.2 s q
theorem sp_rdC_r (pos : Nat → Int32) (n : Nat) (rum : Bool) (z : Int32 × lc_X) : (sp_rdC pos n rum z).2.1 7 0 = z.2.1 7 0 := by
  have h : (sp_rdC pos n rum z).2.1 7 = (sp_adv n z.2 1).2.1 7 := by
    refine sp_it_I (fun _ w => w.2.1 7 = (sp_adv n z.2 1).2.1 7) (sp_trC pos n rum) n (fun i w _ h => ?_) (z.1, (sp_adv n z.2 1).2) rfl
    rw [(sp_trC_r pos n rum i w).2]; exact h
  rw [h, sp_adv_70]
theorem sp_nk_I (B : lc_C) (a : Nat) (kind : Int32) (i : Nat) (z : Option Nat) (h : ∀ b, z = some b → b < i) : ∀ b, sp_nk B a kind i z = some b → b < i + 1 := by
  intro b hb
  have key : ∀ c : Bool, (if c = true then some i else z) = some b → b < i + 1 := by
    intro c hc
    cases c
    · have := h b (by simpa using hc)
      omega
    · have := Option.some.inj (by simpa using hc : some i = some b)
      omega
  exact key _ hb
