/-! pure words of the reference: lines, partners -/
def sp_nx (s : Int64) : Int64 := (1103515245 * s + 12345) &&& 2147483647
def sp_drw (s : Int64) (d : Int32) : Int32 := (s / 65536 - s / 65536 / d.toInt64 * d.toInt64).toInt32
def sp_wgt (r : Nat) : Int32 := 60 / nI (r + 1)
theorem sp_wgt_nat (r : Nat) (h : r < 1000) : sp_wgt r = nI (60 / (r + 1)) := pk_div (a := 60) (d := r + 1) (by omega) (by omega) (by omega)
def sp_T : Nat → Nat
  | 0 => 0
  | k + 1 => sp_T k + 60 / (k + 1)
def sp_pc (out : Int32) (s : Nat) (z : Nat × Int32) : Nat × Int32 := if sp_bit out (nI s) = true then z else (z.1 + 1, z.2 + sp_wgt z.1)
def sp_pcs (out : Int32) (n : Nat) : Nat × Int32 := sp_it (sp_pc out) n (0, 0)
theorem sp_pcs_I (out : Int32) (a n : Nat) (hn : n ≤ 1000) (ha : sp_bit out (nI a) = true) : (sp_pcs out n).2 = nI (sp_T (sp_pcs out n).1) ∧ (sp_pcs out n).1 ≤ n ∧ (a < n → (sp_pcs out n).1 + 1 ≤ n) := by
  have key : ∀ m, m ≤ 1000 → (sp_pcs out m).2 = nI (sp_T (sp_pcs out m).1) ∧ (sp_pcs out m).1 ≤ m ∧ (a < m → (sp_pcs out m).1 + 1 ≤ m) := by
    intro m
    induction m with
    | zero => intro _; exact ⟨rfl, Nat.le_refl _, fun h => absurd h (by omega)⟩
    | succ m ih =>
      intro hm
      obtain ⟨h1, h2, h3⟩ := ih (by omega)
      have e : sp_pcs out (m + 1) = sp_pc out m (sp_pcs out m) := rfl
      rw [e]
      unfold sp_pc
      by_cases hb : sp_bit out (nI m) = true
      · rw [if_pos hb]
        refine ⟨h1, by omega, fun h => ?_⟩
        omega
      · rw [if_neg hb]
        refine ⟨?_, ?_, fun h => ?_⟩
        · show (sp_pcs out m).2 + sp_wgt (sp_pcs out m).1 = nI (sp_T ((sp_pcs out m).1 + 1))
          rw [h1, sp_wgt_nat _ (by omega)]
          exact nI_add _ _
        · show (sp_pcs out m).1 + 1 ≤ m + 1
          omega
        · show (sp_pcs out m).1 + 1 + 1 ≤ m + 1
          have hne : ¬ a = m := fun z => hb (by rw [← z]; exact ha)
          have := h3 (by omega)
          omega
  exact key n hn
def sp_pm (pos : Nat → Int32) (a n : Nat) : Nat → Nat → Nat → Int32 → Int32 → Int32
  | 0, _, _, _, one => one
  | f + 1, r, L, out, one => if nI L < sp_wgt r then one else sp_pm pos a n f (r + 1) (L - 60 / (r + 1)) (out ||| ((1 : Int32) <<< (one &&& 31))) (sp_on (sp_nearsM pos a (out ||| ((1 : Int32) <<< (one &&& 31))) n).1)
def sp_out (B : lc_C) (a : Nat) : Int32 := B 7 2 ||| ((1 : Int32) <<< (nI a &&& 31))
def sp_partM (B : lc_C) (pos : Nat → Int32) (a n : Nat) (seed : Int64) : Int32 × Int64 := if (sp_pcs (sp_out B a) n).1 = 0 then (-1, seed) else (sp_pm pos a n (sp_pcs (sp_out B a) n).1 0 (sp_drw (sp_nx seed) (sp_pcs (sp_out B a) n).2).toNatClampNeg (sp_out B a) (sp_on (sp_nearsM pos a (sp_out B a) n).1), sp_nx seed)
theorem sp_T_pos {k : Nat} (h0 : 0 < k) (h : k ≤ 5) : 0 < sp_T k ∧ sp_T k ≤ 137 := by
  match k, h0, h with
  | 1, _, _ => decide
  | 2, _, _ => decide
  | 3, _, _ => decide
  | 4, _, _ => decide
  | 5, _, _ => decide
theorem sp_nx_nat (s : Int64) : ∃ k : Nat, k < 2 ^ 31 ∧ sp_nx s = lN k := by
  unfold sp_nx
  generalize 1103515245 * s + 12345 = v
  obtain ⟨n, hn, rfl⟩ := wb_of v
  exact ⟨n % 2 ^ 31, Nat.mod_lt _ (by decide), wb_mask (k := 31) hn (by decide)⟩
theorem sp_drw_nat (s : Int64) (k t : Nat) (hk : k < 2 ^ 31) (hs : s = lN k) (h0 : 0 < t) (ht : t ≤ 1000) : sp_drw s (nI t) = nI (k / 65536 % t) := by
  unfold sp_drw
  subst hs
  have e1 : lN k / 65536 = lN (k / 65536) := pk_lDiv (a := k) (b := 65536) (by omega) (by omega) (by omega)
  rw [e1, nI_l (by omega), pk_lRem (by omega) h0 (by omega), lN_i]
def sp_aaM (B : lc_C) (n : Nat) : Bool := sp_it (fun a z => sp_it (fun b z => z && (sp_bit (B 7 2) (nI a) || sp_bit (B 7 2) (nI b) || sp_alikeM B a b)) a z) n true
theorem lc_topl {G : lc_G} {Γ : lc_Γ} {cc : ByteArray} {nL : Nat} {own : String} {pc : Nat} {lv : List (Nat × Value)} {st : List Value} {σ : lc_S} {x : Int64} (y : Int64) (h : x = y) (kk : lc_V G Γ cc nL own pc lv (.long y :: st) σ) : lc_V G Γ cc nL own pc lv (.long x :: st) σ := h ▸ kk
theorem lc_ul_ul (σ : lc_S) (k : Nat) (v w : Int64) : lc_ul (lc_ul σ k v) k w = lc_ul σ k w := by
  unfold lc_ul
  refine Prod.ext rfl (Prod.ext rfl ?_)
  funext a
  by_cases h : a = k <;> simp [h]
theorem lc_ul_id (σ : lc_S) (k : Nat) : lc_ul σ k (σ.2.2 k) = σ := by
  unfold lc_ul
  refine Prod.ext rfl (Prod.ext rfl ?_)
  funext a
  by_cases h : a = k
  · simp [h]
  · simp [h]
theorem sp_pm_cases (pos : Nat → Int32) (a n : Nat) : ∀ (f r L : Nat) (out one : Int32), (one = -1 ∨ ∃ q, q < n ∧ one = nI q) → (sp_pm pos a n f r L out one = -1 ∨ ∃ q, q < n ∧ sp_pm pos a n f r L out one = nI q) := by
  intro f
  induction f with
  | zero => intro r L out one h; exact h
  | succ f ih =>
    intro r L out one h
    unfold sp_pm
    split
    · exact h
    · apply ih
      cases e : (sp_nearsM pos a (out ||| ((1 : Int32) <<< (one &&& 31))) n).1 with
      | none => exact Or.inl rfl
      | some b => exact Or.inr ⟨b, sp_nearM_lt pos a _ n b e, rfl⟩
theorem sp_partM_cases (B : lc_C) (pos : Nat → Int32) (a n : Nat) (seed : Int64) : (sp_partM B pos a n seed).1 = -1 ∨ ∃ q, q < n ∧ (sp_partM B pos a n seed).1 = nI q := by
  unfold sp_partM
  split
  · exact Or.inl rfl
  · apply sp_pm_cases
    cases e : (sp_nearsM pos a (sp_out B a) n).1 with
    | none => exact Or.inl rfl
    | some b => exact Or.inr ⟨b, sp_nearM_lt pos a _ n b e, rfl⟩
/-- a site's turn, a round -/
def sp_tnM (pos : Nat → Int32) (n : Nat) (rum : Bool) (s : Nat) (z : Int64 × lc_X) : Int64 × lc_X :=
  if sp_bit (z.2.1 7 2) (nI s) = true then z
  else if (sp_partM z.2.1 pos s n z.1).1 = -1 then ((sp_partM z.2.1 pos s n z.1).2, z.2)
  else ((sp_partM z.2.1 pos s n z.1).2, if rum = true then (sp_hotsM z.2 s (sp_partM z.2.1 pos s n z.1).1.toNatClampNeg).2 else (sp_cmpM z.2 s (sp_partM z.2.1 pos s n z.1).1.toNatClampNeg).2)
def sp_rdM (pos : Nat → Int32) (n : Nat) (rum : Bool) (z : Int64 × lc_X) : Int64 × lc_X := sp_it (sp_tnM pos n rum) n (z.1, (sp_adv n z.2 1).2)
theorem sp_goes_r (x : lc_X) (p q : Nat) : (sp_goes x p q).2.1 6 = x.1 6 ∧ (sp_goes x p q).2.1 7 = x.1 7 := by
  unfold sp_goes
  split <;> exact ⟨rfl, rfl⟩
theorem sp_meetM_r (x : lc_X) (p q : Nat) : (sp_meetM x p q).2.1 6 = x.1 6 ∧ (sp_meetM x p q).2.1 7 = x.1 7 := by
  have hw : (sp_meetW x p q).1 6 = x.1 6 ∧ (sp_meetW x p q).1 7 = x.1 7 := by
    unfold sp_meetW
    split
    · exact ⟨rfl, rfl⟩
    · split <;> exact ⟨rfl, rfl⟩
  have h1 := sp_goes_r (sp_meetW x p q) p q
  have h2 := sp_goes_r (sp_goes (sp_meetW x p q) p q).2 q p
  exact ⟨h2.1.trans (h1.1.trans hw.1), h2.2.trans (h1.2.trans hw.2)⟩
theorem sp_mksM_r (x : lc_X) (a b : Nat) (keys : Int32) : (sp_mksM x a b keys).2.1 6 = x.1 6 ∧ (sp_mksM x a b keys).2.1 7 = x.1 7 := by
  have h0 : (sp_it (sp_trM a b keys) 4 x).1 = x.1 := by
    refine sp_it_I (fun _ z => z.1 = x.1) (sp_trM a b keys) 4 (fun i z _ h => ?_) x rfl
    unfold sp_trM
    split <;> exact h
  refine sp_it_I (fun _ z => z.2.1 6 = x.1 6 ∧ z.2.1 7 = x.1 7) (sp_mkM a b keys) 4 (fun i z _ h => ?_) (0, sp_it (sp_trM a b keys) 4 x) (by dsimp only; rw [h0]; exact ⟨rfl, rfl⟩)
  unfold sp_mkM
  split
  · obtain ⟨h1, h2⟩ := sp_meetM_r z.2 (4 * a + i) (4 * b + i)
    exact ⟨h1.trans h.1, h2.trans h.2⟩
  · exact h
theorem sp_cmpM_r (x : lc_X) (a b : Nat) : (sp_cmpM x a b).2.1 6 = x.1 6 ∧ (sp_cmpM x a b).2.1 7 = x.1 7 := by
  unfold sp_cmpM
  have h1 := sp_mksM_r x a b (sp_rksM x.1 a b)
  split
  · exact h1
  · have h2 := sp_mksM_r (sp_mksM x a b (sp_rksM x.1 a b)).2 a b (15 &&& (sp_rksM x.1 a b ^^^ (-1)))
    exact ⟨h2.1.trans h1.1, h2.2.trans h1.2⟩
theorem sp_tellM_r (x : lc_X) (p q : Nat) : (sp_tellM x p q).2.1 6 = x.1 6 ∧ (sp_tellM x p q).2.1 7 = x.1 7 := by
  unfold sp_tellM
  split
  · exact ⟨rfl, rfl⟩
  · show (sp_tellMN x p q).1 6 = _ ∧ (sp_tellMN x p q).1 7 = _
    unfold sp_tellMN
    split <;> exact ⟨rfl, rfl⟩
theorem sp_hotsM_r (x : lc_X) (a b : Nat) : (sp_hotsM x a b).2.1 6 = x.1 6 ∧ (sp_hotsM x a b).2.1 7 = x.1 7 := by
  refine sp_it_I (fun _ z => z.2.1 6 = x.1 6 ∧ z.2.1 7 = x.1 7) (sp_hotM a b) 4 (fun i z _ h => ?_) (0, x) ⟨rfl, rfl⟩
  unfold sp_hotM
  split
  · obtain ⟨h1, h2⟩ := sp_tellM_r (sp_tr z.2 1) (4 * a + i) (4 * b + i)
    exact ⟨h1.trans h.1, h2.trans h.2⟩
  · exact h
theorem sp_tnM_r (pos : Nat → Int32) (n : Nat) (rum : Bool) (s : Nat) (z : Int64 × lc_X) : (sp_tnM pos n rum s z).2.1 6 = z.2.1 6 ∧ (sp_tnM pos n rum s z).2.1 7 = z.2.1 7 := by
  unfold sp_tnM
  generalize (sp_partM z.2.1 pos s n z.1).1.toNatClampNeg = q
  generalize sp_partM z.2.1 pos s n z.1 = pp
  split
  · exact ⟨rfl, rfl⟩
  · split
    · exact ⟨rfl, rfl⟩
    · by_cases hr : rum = true
      · rw [if_pos hr]; dsimp only; exact sp_hotsM_r z.2 s q
      · rw [if_neg hr]; dsimp only; exact sp_cmpM_r z.2 s q
theorem sp_rdM_r (pos : Nat → Int32) (n : Nat) (rum : Bool) (z : Int64 × lc_X) : (sp_rdM pos n rum z).2.1 6 = z.2.1 6 ∧ (sp_rdM pos n rum z).2.1 7 0 = z.2.1 7 0 ∧ (sp_rdM pos n rum z).2.1 7 2 = z.2.1 7 2 := by
  have h : (sp_rdM pos n rum z).2.1 6 = (sp_adv n z.2 1).2.1 6 ∧ (sp_rdM pos n rum z).2.1 7 = (sp_adv n z.2 1).2.1 7 := by
    refine sp_it_I (fun _ w => w.2.1 6 = (sp_adv n z.2 1).2.1 6 ∧ w.2.1 7 = (sp_adv n z.2 1).2.1 7) (sp_tnM pos n rum) n (fun i w _ h => ?_) (z.1, (sp_adv n z.2 1).2) ⟨rfl, rfl⟩
    exact ⟨(sp_tnM_r pos n rum i w).1.trans h.1, (sp_tnM_r pos n rum i w).2.trans h.2⟩
  rw [h.1, h.2, sp_adv_70, sp_adv_72, sp_adv_6]
  exact ⟨rfl, rfl, rfl⟩
def sp_pnrM (B : lc_C) (pos : Nat → Int32) (n : Nat) (s seed w : Int32) : Int32 := if sp_site B s = false then -1001 else if (decide (0 ≤ seed) && sp_win w 0 1) = false then -1002 else if w = 0 then (sp_partM B pos s.toNatClampNeg n seed.toInt64).1 else (sp_partM B pos s.toNatClampNeg n seed.toInt64).2.toInt32
def sp_two (B : lc_C) (a b : Int32) : Bool := sp_site B a && sp_site B b && !decide (a = b)
theorem sp_lim_d (n : Nat) (h0 : 0 < n) (hn : n ≤ 137) : ¬ (nI n).toInt64 = 0 := by
  rw [nI_l (by omega)]
  intro z
  have h := (lN_eq (a := n) (b := 0) (by omega) (by omega)).mp z
  omega
