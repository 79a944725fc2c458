/-! class against reference: all alike, rounds, runs, partners -/
def eq_ky (B : lc_C) (i : Nat) : Option (Int32 × Int32) := if sp_aw B i = true then some (B 2 i, B 3 i) else none
theorem eq_same_ky (B : lc_C) (i k : Nat) : sp_same B i k = true ↔ eq_ky B i = eq_ky B k := by
  unfold sp_same eq_ky
  cases sp_aw B i <;> cases sp_aw B k <;> simp
theorem eq_alike_ky (B : lc_C) (a b : Nat) : sp_alike B a b = true ↔ ∀ k, k < 4 → eq_ky B (4 * a + k) = eq_ky B (4 * b + k) := by
  unfold sp_alike
  rw [sp_all_iff]
  constructor
  · intro h k hk; exact (eq_same_ky _ _ _).mp (h k hk)
  · intro h k hk; exact (eq_same_ky _ _ _).mpr (h k hk)
theorem eq_alike_s {B : lc_C} {a b : Nat} (h : sp_alike B a b = true) : sp_alike B b a = true := (eq_alike_ky B b a).mpr (fun k hk => ((eq_alike_ky B a b).mp h k hk).symm)
theorem eq_alike_t {B : lc_C} {a b c : Nat} (h : sp_alike B a b = true) (g : sp_alike B b c = true) : sp_alike B a c = true := (eq_alike_ky B a c).mpr (fun k hk => ((eq_alike_ky B a b).mp h k hk).trans ((eq_alike_ky B b c).mp g k hk))
theorem eq_alike_r (B : lc_C) (a : Nat) : sp_alike B a a = true := (eq_alike_ky B a a).mpr (fun _ _ => rfl)
theorem eq_itall (f : Nat → Bool) (m : Nat) (z : Bool) : sp_it (fun k z => z && f k) m z = (z && sp_all f m) := by
  induction m with
  | zero => show z = (z && true); rw [Bool.and_true]
  | succ m ih =>
    show (sp_it (fun k z => z && f k) m z && f m) = (z && (sp_all f m && f m))
    rw [ih, Bool.and_assoc]
def eq_A (B : lc_C) (n : Nat) : Prop := ∀ a, a < n → ∀ b, b < a → sp_bit (B 7 2) (nI a) = true ∨ sp_bit (B 7 2) (nI b) = true ∨ sp_alike B a b = true
theorem eq_aaM {B : lc_C} (h : eq_I B) (n : Nat) : sp_aaM B n = true ↔ eq_A B n := by
  unfold sp_aaM eq_A
  simp only [eq_itall, Bool.true_and, eq_alike h]
  rw [sp_all_iff]
  constructor
  · intro g a ha b hb
    have := (sp_all_iff.mp (g a ha)) b hb
    simpa [or_assoc] using this
  · intro g a ha
    rw [sp_all_iff]
    intro b hb
    simpa [or_assoc] using g a ha b hb
def eq_last (B : lc_C) (n : Nat) (z : Option Nat) : Prop := match z with
  | none => ∀ s, s < n → sp_bit (B 7 2) (nI s) = true
  | some p => p < n ∧ sp_bit (B 7 2) (nI p) = false ∧ ∀ s, s < n → sp_bit (B 7 2) (nI s) = true ∨ sp_alike B p s = true
theorem sp_itE_s {α : Type} (g : Nat → α → Bool) (f : Nat → α → α) (n : Nat) (z : α) : sp_itE g f (n + 1) z = match sp_itE g f n z with | none => none | some y => if g n y = true then some (f n y) else none := rfl
theorem eq_aaC_m (B : lc_C) (n : Nat) : (sp_itE (sp_aag B) (sp_aaf B) n none = none ∧ ¬ eq_A B n) ∨ (∃ z, sp_itE (sp_aag B) (sp_aaf B) n none = some z ∧ eq_A B n ∧ eq_last B n z) := by
  induction n with
  | zero => exact Or.inr ⟨none, rfl, fun a ha => absurd ha (by omega), fun s hs => absurd hs (by omega)⟩
  | succ n ih =>
    rw [sp_itE_s]
    rcases ih with ⟨h1, h2⟩ | ⟨z, h1, h2, h3⟩
    · rw [h1]
      exact Or.inl ⟨rfl, fun g => h2 (fun a ha b hb => g a (by omega) b hb)⟩
    · rw [h1]
      dsimp only
      unfold sp_aag sp_aaf
      cases hb : sp_bit (B 7 2) (nI n)
      · cases z with
        | none =>
          right
          refine ⟨some n, rfl, fun a ha b hb' => ?_, by omega, hb, fun s hs => ?_⟩
          · exact Or.inr (Or.inl (h3 b (by omega)))
          · by_cases es : s = n
            · right; rw [es]; exact eq_alike_r B n
            · exact Or.inl (h3 s (by omega))
        | some p =>
          obtain ⟨g1, g2, g3⟩ := h3
          cases hal : sp_alike B p n
          · left
            refine ⟨by simp [hal], fun g => ?_⟩
            rcases g n (by omega) p g1 with k | k | k
            · rw [hb] at k; cases k
            · rw [g2] at k; cases k
            · rw [eq_alike_s k] at hal; cases hal
          · right
            refine ⟨some n, by simp [hal], fun a ha b hb' => ?_, by omega, hb, fun s hs => ?_⟩
            · by_cases ea : a = n
              · subst ea
                rcases g3 b (by omega) with k | k
                · exact Or.inr (Or.inl k)
                · exact Or.inr (Or.inr (eq_alike_t (eq_alike_s hal) k))
              · exact h2 a (by omega) b hb'
            · by_cases es : s = n
              · right; rw [es]; exact eq_alike_r B n
              · rcases g3 s (by omega) with k | k
                · exact Or.inl k
                · exact Or.inr (eq_alike_t (eq_alike_s hal) k)
      · right
        refine ⟨z, by simp, fun a ha b hb' => ?_, ?_⟩
        · by_cases ea : a = n
          · subst ea; exact Or.inl hb
          · exact h2 a (by omega) b hb'
        · cases z with
          | none =>
            intro s hs
            by_cases es : s = n
            · rw [es]; exact hb
            · exact h3 s (by omega)
          | some p =>
            obtain ⟨g1, g2, g3⟩ := h3
            refine ⟨by omega, g2, fun s hs => ?_⟩
            by_cases es : s = n
            · rw [es]; exact Or.inl hb
            · exact g3 s (by omega)
theorem eq_aa {B : lc_C} (h : eq_I B) (n : Nat) : sp_aaM B n = sp_aaC B n := by
  rw [Bool.eq_iff_iff, eq_aaM h]
  unfold sp_aaC
  rcases eq_aaC_m B n with ⟨h1, h2⟩ | ⟨z, h1, h2, _⟩
  · rw [h1]
    exact ⟨fun g => absurd g h2, fun g => by cases g⟩
  · rw [h1]
    exact ⟨fun _ => rfl, fun _ => h2⟩
def eq_z (z : Int32 × lc_X) : Int64 × lc_X := (z.1.toInt64, z.2)
def eq_J (n : Nat) (x : lc_X) : Prop := eq_I x.1 ∧ x.1 7 0 = nI n
theorem eq_trn {P Q : Nat → Int32} {n s : Nat} (hp : eq_pos P Q n) (hn : n ≤ 6) (hs : s < n) (rum : Bool) {z : Int32 × lc_X} (h : eq_J n z.2) : sp_tnM Q n rum s (eq_z z) = eq_z (sp_trC P n rum s z) := by
  unfold sp_tnM sp_trC
  show (if sp_bit (z.2.1 7 2) (nI s) = true then eq_z z else if (sp_partM z.2.1 Q s n z.1.toInt64).1 = -1 then ((sp_partM z.2.1 Q s n z.1.toInt64).2, z.2) else ((sp_partM z.2.1 Q s n z.1.toInt64).2, if rum = true then (sp_hotsM z.2 s (sp_partM z.2.1 Q s n z.1.toInt64).1.toNatClampNeg).2 else (sp_cmpM z.2 s (sp_partM z.2.1 Q s n z.1.toInt64).1.toNatClampNeg).2)) = _
  by_cases hb : sp_bit (z.2.1 7 2) (nI s) = true
  · rw [if_pos hb, if_pos hb]
  · rw [if_neg hb, if_neg hb]
    rcases eq_part hp hn hs h.2 z.1 with ⟨g1, g2, g3⟩ | ⟨g1, g2, g3⟩
    · have e : sp_partM z.2.1 Q s n z.1.toInt64 = (-1, z.1.toInt64) := by unfold sp_partM; rw [if_pos g2]
      rw [e, if_pos rfl, if_pos g1]
      rfl
    · have e : (sp_partM z.2.1 Q s n z.1.toInt64).2 = (sp_next z.1).toInt64 := by
        unfold sp_partM
        rw [if_neg g2, eq_next64]
      rw [e, ← g3, if_neg g1]
      generalize sp_partC z.2.1 P s n (sp_next z.1) = w
      by_cases hw : w = -1
      · rw [if_pos hw, if_pos hw]
        rfl
      · rw [if_neg hw, if_neg hw, eq_hots h.1, eq_cmp h.1]
        rfl
theorem eq_J_tr (P : Nat → Int32) (n s : Nat) (rum : Bool) {z : Int32 × lc_X} (h : eq_J n z.2) : eq_J n (sp_trC P n rum s z).2 := by
  have hr := sp_trC_r P n rum s z
  refine ⟨?_, by rw [hr.2]; exact h.2⟩
  unfold sp_trC
  generalize (sp_partC z.2.1 P s n (sp_next z.1)).toNatClampNeg = q
  split
  · exact h.1
  · split
    · exact h.1
    · split
      · exact h.1
      · by_cases hr : rum = true
        · rw [if_pos hr]; dsimp only; exact eq_I_hots h.1 s q
        · rw [if_neg hr]; dsimp only; exact eq_I_cmp h.1 s q
theorem eq_rd {P Q : Nat → Int32} {n : Nat} (hp : eq_pos P Q n) (hn : n ≤ 6) (rum : Bool) {z : Int32 × lc_X} (h : eq_J n z.2) : sp_rdM Q n rum (eq_z z) = eq_z (sp_rdC P n rum z) ∧ eq_J n (sp_rdC P n rum z).2 := by
  have key : ∀ m, m ≤ n → ∀ w : Int32 × lc_X, eq_J n w.2 → sp_it (sp_tnM Q n rum) m (eq_z w) = eq_z (sp_it (sp_trC P n rum) m w) ∧ eq_J n (sp_it (sp_trC P n rum) m w).2 := by
    intro m
    induction m with
    | zero => intro _ w hw; exact ⟨rfl, hw⟩
    | succ m ih =>
      intro hm w hw
      obtain ⟨h1, h2⟩ := ih (by omega) w hw
      constructor
      · show sp_tnM Q n rum m (sp_it (sp_tnM Q n rum) m (eq_z w)) = eq_z (sp_trC P n rum m (sp_it (sp_trC P n rum) m w))
        rw [h1]
        exact eq_trn hp hn (by omega) rum h2
      · exact eq_J_tr P n m rum h2
  exact key n (Nat.le_refl n) (z.1, (sp_adv n z.2 1).2) ⟨eq_I_adv n 1 h.1, by show (sp_adv n z.2 1).2.1 7 0 = _; rw [sp_adv_70]; exact h.2⟩
def eq_zr (r : Int32 × Int32 × lc_X) : Int32 × Int64 × lc_X := (r.1, r.2.1.toInt64, r.2.2)
theorem eq_run {P Q : Nat → Int32} {n : Nat} (hp : eq_pos P Q n) (hn : n ≤ 6) (rum : Bool) : ∀ (f i : Nat) (z : Int32 × lc_X), eq_J n z.2 → sp_run (fun B => sp_aaM B n) (sp_rdM Q n rum) f i (eq_z z) = eq_zr (sp_run (fun B => sp_aaC B n) (sp_rdC P n rum) f i z) := by
  intro f
  induction f with
  | zero =>
    intro i z h
    unfold sp_run
    show ((if sp_aaM z.2.1 n = true then nI i else -1), eq_z z) = _
    rw [eq_aa h.1]
    rfl
  | succ f ih =>
    intro i z h
    unfold sp_run
    show (if sp_aaM z.2.1 n = true then (nI i, eq_z z) else sp_run (fun B => sp_aaM B n) (sp_rdM Q n rum) f (i + 1) (sp_rdM Q n rum (eq_z z))) = _
    rw [eq_aa h.1]
    obtain ⟨h1, h2⟩ := eq_rd hp hn rum h
    by_cases ha : sp_aaC z.2.1 n = true
    · rw [if_pos ha, if_pos ha]
      rfl
    · rw [if_neg ha, if_neg ha, h1]
      exact ih (i + 1) _ h2
theorem eq_RUN {σ τ : lc_S} {n : Nat} (hn : n ≤ 6) (hp : eq_pos (σ.2.1 6) (τ.2.1 8) n) (hI : eq_I (σ.1 0)) (hs : σ.1 0 7 0 = nI n) (he : τ.1 2 = σ.1 0) (seed : Int32) (rum : Bool) : sp_RM τ n seed rum = eq_zr (sp_RUN σ n seed rum) := by
  unfold sp_RM sp_RUN
  rw [he]
  exact eq_run hp hn rum 40 0 (seed, (σ.1 0, 0, 0, 0)) ⟨hI, hs⟩
theorem eq_pick (what : Int32) (r : Int32 × Int32 × lc_X) : sp_pickM what (eq_zr r) = sp_pick what r := by
  unfold sp_pickM sp_pick eq_zr
  dsimp only
  rw [Int32.toInt32_toInt64]
theorem eq_pnr {B : lc_C} {P Q : Nat → Int32} {n : Nat} (hp : eq_pos P Q n) (hn : n ≤ 6) (hs : B 7 0 = nI n) (s seed w : Int32) : sp_pnrM B Q n s seed w = sp_pnr B P n s seed w := by
  unfold sp_pnrM sp_pnr
  by_cases h1 : sp_site B s = false
  · rw [if_pos h1, if_pos h1]
  · rw [if_neg h1, if_neg h1]
    by_cases h2 : (decide (0 ≤ seed) && sp_win w 0 1) = false
    · rw [if_pos h2, if_pos h2]
    · rw [if_neg h2, if_neg h2]
      obtain ⟨a, ha, rfl⟩ := sp_site_nat hn hs (by simpa using h1)
      rw [nI_clamp (by omega)]
      rcases eq_part hp hn ha hs seed with ⟨g1, g2, g3⟩ | ⟨g1, g2, g3⟩
      · have e : sp_partM B Q a n seed.toInt64 = (-1, seed.toInt64) := by unfold sp_partM; rw [if_pos g2]
        rw [e, if_pos g1, if_pos g1, g3, Int32.toInt32_toInt64]
      · have e : (sp_partM B Q a n seed.toInt64).2 = (sp_next seed).toInt64 := by
          unfold sp_partM
          rw [if_neg g2, eq_next64]
        rw [e, ← g3, if_neg g1, if_neg g1, Int32.toInt32_toInt64]
