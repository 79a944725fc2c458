/-! class against reference: single things, meetings, tellings -/
def eq_I (B : lc_C) : Prop := ∀ i, (B 0 i = 0 ∧ B 2 i = -1) ∨ ((B 0 i = 1 ∨ B 0 i = 2) ∧ 0 ≤ B 2 i)
theorem eq_sort {B : lc_C} (h : eq_I B) (i : Nat) : B 0 i = 0 ∨ B 0 i = 1 ∨ B 0 i = 2 := by
  rcases h i with h | h
  · exact Or.inl h.1
  · exact Or.inr h.1
theorem eq_aw {B : lc_C} (h : eq_I B) (i : Nat) : sp_awM B i = sp_aw B i := by
  unfold sp_awM sp_aw sp_dor
  generalize B 7 1 - B 3 i = d
  have e1 : decide ((1 : Int32) = 0) = false := by decide
  have e2 : decide ((2 : Int32) = 0) = false := by decide
  have e3 : decide ((1 : Int32) = 2) = false := by decide
  have e4 : decide ((2 : Int32) = 1) = false := by decide
  have e5 : decide ((0 : Int32) = 1) = false := by decide
  have e6 : decide ((0 : Int32) = 2) = false := by decide
  rcases eq_sort h i with e | e | e <;> rw [e]
  · rw [e5, e6]; simp
  · rw [e1, e3]; simp
  · rw [e2, e4]
    by_cases hd : d ≤ B 6 0
    · simp [hd, Int32.not_lt.mpr hd]
    · simp [hd, Int32.not_le.mp hd]
theorem eq_rec {B : lc_C} (h : eq_I B) (i : Nat) : sp_recM B i = sp_rec B i := by
  unfold sp_recM sp_rec
  rw [eq_aw h]
theorem eq_same {B : lc_C} (h : eq_I B) (i k : Nat) : sp_sameM B i k = sp_same B i k := by
  unfold sp_sameM sp_same
  rw [eq_aw h, eq_aw h]
  cases sp_aw B i <;> cases sp_aw B k <;> simp
theorem eq_alike {B : lc_C} (h : eq_I B) (a b : Nat) : sp_alikeM B a b = sp_alike B a b := by
  unfold sp_alikeM sp_alike
  simp only [eq_same h]
  have e : ∀ (f : Nat → Bool) (m : Nat), sp_it (fun k z => z && f k) m true = sp_all f m := by
    intro f m
    induction m with
    | zero => rfl
    | succ m ih =>
      show (sp_it (fun k z => z && f k) m true && f m) = _
      rw [ih]
      rfl
  exact e (fun k => sp_same B (4 * a + k) (4 * b + k)) 4
theorem eq_awp {B : lc_C} (h : eq_I B) {i : Nat} (ha : sp_aw B i = true) : 0 ≤ B 2 i ∧ ¬ B 0 i = 0 := by
  have e5 : decide ((0 : Int32) = 1) = false := by decide
  have e6 : decide ((0 : Int32) = 2) = false := by decide
  rcases h i with e | e
  · unfold sp_aw at ha
    rw [e.1, e5, e6] at ha
    simp at ha
  · refine ⟨e.2, ?_⟩
    rcases e.1 with e1 | e1 <;> rw [e1] <;> decide
theorem eq_none_new {B : lc_C} (h : eq_I B) {p q : Nat} (hp : 0 ≤ B 2 p) (hq : B 0 q = 0) : sp_new B p q = true := by
  unfold sp_new
  rcases h q with e | e
  · rw [e.2]
    have : (-1 : Int32) < B 2 p := by
      rw [Int32.lt_iff_toInt_lt]
      have := Int32.le_iff_toInt_le.mp hp
      have e4 : (0 : Int32).toInt = 0 := by decide
      have e5 : (-1 : Int32).toInt = -1 := by decide
      omega
    rw [decide_eq_true this]; rfl
  · rcases e.1 with e1 | e1 <;> rw [e1] at hq <;> exact absurd hq (by decide)
theorem eq_newq {B : lc_C} (h : eq_I B) {p q : Nat} (hp : 0 ≤ B 2 p) : (decide (B 0 q = 0) || sp_new B p q) = sp_new B p q := by
  by_cases hq : B 0 q = 0
  · rw [eq_none_new h hp hq]; simp
  · simp [hq]
/-! the invariant of things is kept -/
theorem eq_I_cu {B : lc_C} (h : eq_I B) (r k : Nat) (v : Int32) (h0 : r ≠ 0) (h2 : r ≠ 2) : eq_I (lc_cu B r k v) := by
  intro i
  have e0 : lc_cu B r k v 0 i = B 0 i := if_neg (fun z => h0 z.1.symm)
  have e2 : lc_cu B r k v 2 i = B 2 i := if_neg (fun z => h2 z.1.symm)
  rw [e0, e2]
  exact h i
theorem eq_I_row {B D : lc_C} (h : eq_I B) (h0 : D 0 = B 0) (h2 : D 2 = B 2) : eq_I D := by
  intro i
  rw [h0, h2]
  exact h i
theorem eq_I_none {B : lc_C} (h : eq_I B) (k : Nat) : eq_I (sp_none B k) := by
  intro i
  rw [sp_none_at, sp_none_at]
  by_cases hi : i = k
  · rw [if_pos ⟨hi, by decide⟩, if_pos ⟨hi, by decide⟩]
    exact Or.inl ⟨rfl, rfl⟩
  · rw [if_neg (fun z => hi z.1), if_neg (fun z => hi z.1)]
    exact h i
theorem sp_copy_atg (B E : lc_C) (i f k p : Nat) (hh : Int32) : sp_copy B i E p hh f k = if k = i ∧ f < 6 then (if f = 5 then hh else E f p) else B f k := by
  by_cases hk : k = i
  · subst hk
    match f with
    | 0 => simp [sp_copy, lc_cu]
    | 1 => simp [sp_copy, lc_cu]
    | 2 => simp [sp_copy, lc_cu]
    | 3 => simp [sp_copy, lc_cu]
    | 4 => simp [sp_copy, lc_cu]
    | 5 => simp [sp_copy, lc_cu]
    | f + 6 =>
      have h6 : ¬ f + 6 < 6 := by omega
      simp [sp_copy, lc_cu, h6]
  · simp [sp_copy, lc_cu, hk]
theorem eq_I_copy {B : lc_C} (h : eq_I B) (q p : Nat) (hh : Int32) : eq_I (sp_copy B q B p hh) := by
  intro i
  rw [sp_copy_atg, sp_copy_atg]
  by_cases hi : i = q
  · have e1 : ∀ f, f < 6 → f ≠ 5 → (if i = q ∧ f < 6 then (if f = 5 then hh else B f p) else B f i) = B f p := fun f hf hf5 => by rw [if_pos ⟨hi, hf⟩, if_neg hf5]
    rw [e1 0 (by decide) (by decide), e1 2 (by decide) (by decide)]
    exact h p
  · rw [if_neg (fun z => hi z.1), if_neg (fun z => hi z.1)]
    exact h i
theorem eq_I_wake {x : lc_X} (h : eq_I x.1) (i : Nat) : eq_I (sp_wake x i).1 := eq_I_cu (eq_I_cu h 3 i _ (by decide) (by decide)) 5 i _ (by decide) (by decide)
theorem eq_I_meetW {x : lc_X} (h : eq_I x.1) (p q : Nat) : eq_I (sp_meetW x p q).1 := by
  unfold sp_meetW
  split
  · exact eq_I_wake h p
  · split
    · exact eq_I_wake h q
    · exact h
theorem eq_I_meet {x : lc_X} (h : eq_I x.1) (p q : Nat) : eq_I (sp_meet x p q).2.1 := by
  have hw := eq_I_meetW h p q
  unfold sp_meet sp_meetC
  split
  · exact eq_I_copy hw q p 0
  · split
    · exact eq_I_copy hw p q 0
    · exact hw
theorem eq_I_mks {x : lc_X} (h : eq_I x.1) (a b : Nat) (keys : Int32) : eq_I (sp_mks x a b keys).2.1 := by
  refine sp_it_I (fun _ z => eq_I z.2.1) (sp_mk a b keys) 4 (fun i z _ hz => ?_) (0, x) h
  unfold sp_mk
  split
  · exact eq_I_meet (x := sp_tr z.2 _) hz _ _
  · exact hz
theorem eq_I_cmp {x : lc_X} (h : eq_I x.1) (a b : Nat) : eq_I (sp_cmp x a b).2.1 := by
  unfold sp_cmp
  split
  · exact eq_I_mks h a b _
  · exact eq_I_mks (eq_I_mks h a b _) a b _
theorem eq_I_tell {x : lc_X} (h : eq_I x.1) (p q : Nat) : eq_I (sp_tell x p q).2.1 := by
  unfold sp_tell
  split
  · exact eq_I_copy h q p _
  · show eq_I (sp_tellN x p q).1
    have h1 : eq_I (lc_cu x.1 5 p (x.1 5 p - 1)) := eq_I_cu h 5 p _ (by decide) (by decide)
    unfold sp_tellN
    split
    · exact eq_I_wake (x := (lc_cu x.1 5 p (x.1 5 p - 1), x.2)) h1 q
    · exact h1
theorem eq_I_hots {x : lc_X} (h : eq_I x.1) (a b : Nat) : eq_I (sp_hots x a b).2.1 := by
  refine sp_it_I (fun _ z => eq_I z.2.1) (sp_hot a b) 4 (fun i z _ hz => ?_) (0, x) h
  unfold sp_hot
  split
  · exact eq_I_tell (x := sp_tr z.2 1) hz _ _
  · exact hz
theorem eq_I_drop {x : lc_X} (n : Nat) (h : eq_I x.1) : eq_I (sp_drop n x).2.1 := by
  show eq_I (sp_dropZ n x).2.1
  rw [sp_dropZ_flat]
  refine sp_it_I (fun _ z => eq_I z.2.1) sp_dg (4 * n) (fun i z _ hz => ?_) (0, x) h
  unfold sp_dg
  split
  · exact eq_I_none hz i
  · exact hz
theorem eq_I_adv {x : lc_X} (n : Nat) (d : Int32) (h : eq_I x.1) : eq_I (sp_adv n x d).2.1 := eq_I_drop (x := (lc_cu x.1 7 1 (x.1 7 1 + d), x.2)) n (eq_I_cu h 7 1 _ (by decide) (by decide))
/-! meetings -/
theorem eq_meet {x : lc_X} (h : eq_I x.1) {p q : Nat} : sp_meetM x p q = sp_meet x p q := by
  unfold sp_meetM sp_meet sp_meetC
  have hw := eq_I_meetW h p q
  generalize sp_meetW x p q = y at hw ⊢
  have g : ∀ (z : lc_X) (u v : Nat), eq_I z.1 → sp_goes z u v = if (sp_aw z.1 u && sp_new z.1 u v) = true then (1, (sp_copy z.1 v z.1 u 0, z.2)) else (0, z) := by
    intro z u v hz
    unfold sp_goes
    rw [eq_aw hz]
    cases ha : sp_aw z.1 u
    · simp
    · rw [eq_newq hz (eq_awp hz ha).1]
  rw [g y p q hw]
  by_cases hc : (sp_aw y.1 p && sp_new y.1 p q) = true
  · rw [if_pos hc, if_pos hc]
    dsimp only
    rw [g _ q p (eq_I_copy hw q p 0)]
    have e2 : sp_new (sp_copy y.1 q y.1 p 0) q p = false := by
      unfold sp_new
      have hqp : ¬ p = q := fun e => by
        rw [Bool.and_eq_true, e] at hc
        have n1 : ¬ y.1 2 q < y.1 2 q := Int32.lt_irrefl
        have n2 : ¬ y.1 3 q < y.1 3 q := Int32.lt_irrefl
        have := hc.2
        unfold sp_new at this
        simp [n1, n2] at this
      have k1 : sp_copy y.1 q y.1 p 0 2 q = y.1 2 p := by rw [sp_copy_atg, if_pos ⟨rfl, by decide⟩, if_neg (by decide)]
      have k2 : sp_copy y.1 q y.1 p 0 2 p = y.1 2 p := by rw [sp_copy_atg, if_neg (fun z => hqp z.1)]
      have k3 : sp_copy y.1 q y.1 p 0 3 q = y.1 3 p := by rw [sp_copy_atg, if_pos ⟨rfl, by decide⟩, if_neg (by decide)]
      have k4 : sp_copy y.1 q y.1 p 0 3 p = y.1 3 p := by rw [sp_copy_atg, if_neg (fun z => hqp z.1)]
      rw [k1, k2, k3, k4]
      have n1 : ¬ y.1 2 p < y.1 2 p := Int32.lt_irrefl
      have n2 : ¬ y.1 3 p < y.1 3 p := Int32.lt_irrefl
      simp [n1, n2]
    rw [e2, Bool.and_false, if_neg (by decide)]
    rfl
  · rw [if_neg hc, if_neg hc]
    dsimp only
    rw [g y q p hw]
    by_cases hd : (sp_aw y.1 q && sp_new y.1 q p) = true
    · rw [if_pos hd]
      rfl
    · rw [if_neg hd]
      rfl
theorem eq_meet_tr (x : lc_X) (d : Int32) (p q : Nat) : sp_meet (sp_tr x d) p q = ((sp_meet x p q).1, sp_tr (sp_meet x p q).2 d) := by
  have hw : sp_meetW (sp_tr x d) p q = sp_tr (sp_meetW x p q) d := by
    unfold sp_meetW
    show (if (sp_dor x.1 p && sp_below x.1 q (x.1 2 p)) = true then sp_wake (sp_tr x d) p else if (sp_dor x.1 q && sp_below x.1 p (x.1 2 q)) = true then sp_wake (sp_tr x d) q else sp_tr x d) = _
    split
    · rfl
    · split <;> rfl
  unfold sp_meet
  rw [hw]
  generalize sp_meetW x p q = y
  unfold sp_meetC
  show (if (sp_aw y.1 p && sp_new y.1 p q) = true then ((1 : Int32), (sp_copy y.1 q y.1 p 0, (sp_tr y d).2)) else if (sp_aw y.1 q && sp_new y.1 q p) = true then (1, (sp_copy y.1 p y.1 q 0, (sp_tr y d).2)) else (0, sp_tr y d)) = _
  split
  · rfl
  · split <;> rfl
theorem eq_meet_loc (x : lc_X) (p q r i : Nat) (hp : i ≠ p) (hq : i ≠ q) : (sp_meet x p q).2.1 r i = x.1 r i := by
  have hw : (sp_meetW x p q).1 r i = x.1 r i := by
    have wk : ∀ k, i ≠ k → (sp_wake x k).1 r i = x.1 r i := by
      intro k hk
      show (if r = 5 ∧ i = k then _ else (if r = 3 ∧ i = k then _ else x.1 r i)) = _
      rw [if_neg (fun z => hk z.2), if_neg (fun z => hk z.2)]
    unfold sp_meetW
    split
    · exact wk p hp
    · split
      · exact wk q hq
      · rfl
  unfold sp_meet
  generalize sp_meetW x p q = y at hw ⊢
  unfold sp_meetC
  split
  · show sp_copy y.1 q y.1 p 0 r i = _
    rw [sp_copy_atg, if_neg (fun z => hq z.1)]
    exact hw
  · split
    · show sp_copy y.1 p y.1 q 0 r i = _
      rw [sp_copy_atg, if_neg (fun z => hp z.1)]
      exact hw
    · exact hw
theorem eq_tr0 (x : lc_X) : sp_tr x 0 = x := by
  unfold sp_tr
  rw [Int32.add_zero]
theorem eq_tr2 (x : lc_X) (d e : Int32) : sp_tr (sp_tr x d) e = sp_tr x (d + e) := by
  unfold sp_tr
  dsimp only
  rw [Int32.add_assoc]
/-- what the traffic of key k is -/
def eq_t (B : lc_C) (a b : Nat) (keys : Int32) (k : Nat) : Int32 := if sp_bit keys (nI k) = true then lc_bi (sp_aw B (4 * a + k)) + lc_bi (sp_aw B (4 * b + k)) else 0
def eq_T (B : lc_C) (a b : Nat) (keys : Int32) : Nat → Int32
  | 0 => 0
  | k + 1 => eq_T B a b keys k + eq_t B a b keys k
theorem eq_trM {x : lc_X} (h : eq_I x.1) (a b : Nat) (keys : Int32) (m : Nat) : sp_it (sp_trM a b keys) m x = sp_tr x (eq_T x.1 a b keys m) := by
  induction m with
  | zero => exact (eq_tr0 x).symm
  | succ m ih =>
    show sp_trM a b keys m (sp_it (sp_trM a b keys) m x) = _
    rw [ih, show eq_T x.1 a b keys (m + 1) = eq_T x.1 a b keys m + eq_t x.1 a b keys m from rfl]
    generalize eq_T x.1 a b keys m = T
    unfold sp_trM eq_t
    rw [eq_aw (B := (sp_tr x T).1) h, eq_aw (B := (sp_tr x T).1) h]
    show (if sp_bit keys (nI m) = true then sp_tr (sp_tr (sp_tr x T) (lc_bi (sp_aw x.1 (4 * a + m)))) (lc_bi (sp_aw x.1 (4 * b + m))) else sp_tr x T) = _
    split
    · rw [eq_tr2, eq_tr2]
    · rw [Int32.add_zero]
def eq_mk (a b : Nat) (keys : Int32) (k : Nat) (z : Int32 × lc_X) : Int32 × lc_X := if sp_bit keys (nI k) = true then (z.1 + (sp_meet z.2 (4 * a + k) (4 * b + k)).1, (sp_meet z.2 (4 * a + k) (4 * b + k)).2) else z
theorem eq_aw_loc {B D : lc_C} {i : Nat} (h0 : D 0 i = B 0 i) (h3 : D 3 i = B 3 i) (h6 : D 6 = B 6) (h7 : D 7 = B 7) : sp_aw D i = sp_aw B i := by
  unfold sp_aw
  rw [h0, h3, h6, h7]
theorem eq_mk_I (a b : Nat) (keys : Int32) (x : lc_X) (m : Nat) (hm : m ≤ 4) : (∀ r k, m ≤ k → k < 4 → (sp_it (eq_mk a b keys) m (0, x)).2.1 r (4 * a + k) = x.1 r (4 * a + k) ∧ (sp_it (eq_mk a b keys) m (0, x)).2.1 r (4 * b + k) = x.1 r (4 * b + k)) ∧ (sp_it (eq_mk a b keys) m (0, x)).2.1 6 = x.1 6 ∧ (sp_it (eq_mk a b keys) m (0, x)).2.1 7 = x.1 7 := by
  induction m with
  | zero => exact ⟨fun _ _ _ _ => ⟨rfl, rfl⟩, rfl, rfl⟩
  | succ m ih =>
    obtain ⟨h1, h2, h3⟩ := ih (by omega)
    have e : sp_it (eq_mk a b keys) (m + 1) (0, x) = eq_mk a b keys m (sp_it (eq_mk a b keys) m (0, x)) := rfl
    rw [e]
    generalize sp_it (eq_mk a b keys) m (0, x) = z at h1 h2 h3 ⊢
    unfold eq_mk
    split
    · have hr := sp_meet_r z.2 (4 * a + m) (4 * b + m)
      refine ⟨fun r k hk hk4 => ?_, hr.1.trans h2, hr.2.trans h3⟩
      have hl := h1 r k (by omega) hk4
      dsimp only
      rw [eq_meet_loc _ _ _ _ _ (by omega) (by omega), eq_meet_loc _ _ _ _ _ (by omega) (by omega)]
      exact hl
    · exact ⟨fun r k hk hk4 => h1 r k (by omega) hk4, h2, h3⟩
theorem eq_mkC (a b : Nat) (keys : Int32) (x : lc_X) (m : Nat) (hm : m ≤ 4) : sp_it (sp_mk a b keys) m (0, x) = ((sp_it (eq_mk a b keys) m (0, x)).1, sp_tr (sp_it (eq_mk a b keys) m (0, x)).2 (eq_T x.1 a b keys m)) := by
  induction m with
  | zero => exact Prod.ext rfl (eq_tr0 x).symm
  | succ m ih =>
    show sp_mk a b keys m (sp_it (sp_mk a b keys) m (0, x)) = _
    rw [ih (by omega)]
    obtain ⟨h1, h2, h3⟩ := eq_mk_I a b keys x m (by omega)
    have e : sp_it (eq_mk a b keys) (m + 1) (0, x) = eq_mk a b keys m (sp_it (eq_mk a b keys) m (0, x)) := rfl
    rw [e, show eq_T x.1 a b keys (m + 1) = eq_T x.1 a b keys m + eq_t x.1 a b keys m from rfl]
    generalize sp_it (eq_mk a b keys) m (0, x) = z at h1 h2 h3 ⊢
    generalize eq_T x.1 a b keys m = T
    unfold sp_mk eq_mk eq_t
    have ea : sp_aw (sp_tr z.2 T).1 (4 * a + m) = sp_aw x.1 (4 * a + m) := eq_aw_loc (h1 0 m (by omega) (by omega)).1 (h1 3 m (by omega) (by omega)).1 h2 h3
    have eb : sp_aw (sp_tr z.2 T).1 (4 * b + m) = sp_aw x.1 (4 * b + m) := eq_aw_loc (h1 0 m (by omega) (by omega)).2 (h1 3 m (by omega) (by omega)).2 h2 h3
    dsimp only
    rw [ea, eb]
    split
    · rw [eq_tr2, eq_meet_tr]
    · rw [Int32.add_zero]
theorem eq_mkD (a b : Nat) (keys : Int32) (x : lc_X) (d : Int32) (m : Nat) : sp_it (eq_mk a b keys) m (0, sp_tr x d) = ((sp_it (eq_mk a b keys) m (0, x)).1, sp_tr (sp_it (eq_mk a b keys) m (0, x)).2 d) := by
  induction m with
  | zero => rfl
  | succ m ih =>
    show eq_mk a b keys m (sp_it (eq_mk a b keys) m (0, sp_tr x d)) = _
    have e : sp_it (eq_mk a b keys) (m + 1) (0, x) = eq_mk a b keys m (sp_it (eq_mk a b keys) m (0, x)) := rfl
    rw [ih, e]
    generalize sp_it (eq_mk a b keys) m (0, x) = z
    unfold eq_mk
    dsimp only
    split
    · rw [eq_meet_tr]
    · rfl
theorem eq_mkM {x : lc_X} (h : eq_I x.1) {a b : Nat} (keys : Int32) (m : Nat) : sp_it (sp_mkM a b keys) m (0, x) = sp_it (eq_mk a b keys) m (0, x) := by
  refine sp_it_congr (fun _ z => eq_I z.2.1) (sp_mkM a b keys) (eq_mk a b keys) m (fun i z _ hz => ?_) (fun i z _ hz => ?_) (0, x) h
  · unfold sp_mkM
    split
    · rw [eq_meet hz]
      exact eq_I_meet hz _ _
    · exact hz
  · unfold sp_mkM eq_mk
    split
    · rw [eq_meet hz]
    · rw [Int32.add_zero]
theorem eq_mks {x : lc_X} (h : eq_I x.1) {a b : Nat} (keys : Int32) : sp_mksM x a b keys = sp_mks x a b keys := by
  unfold sp_mksM sp_mks
  rw [eq_trM h, eq_mkM (x := sp_tr x (eq_T x.1 a b keys 4)) h, eq_mkD, eq_mkC _ _ _ _ 4 (Nat.le_refl _)]
theorem eq_rks {B : lc_C} (h : eq_I B) (a b : Nat) : sp_rksM B a b = sp_rks B a b := by
  unfold sp_rksM sp_rks
  refine sp_it_congr (fun _ _ => True) _ _ 4 (fun _ _ _ _ => trivial) (fun i z _ _ => ?_) 0 trivial
  unfold sp_rkM sp_rk
  rw [eq_rec h, eq_rec h]
  split
  · rfl
  · exact Int32.or_zero
theorem eq_cmp {x : lc_X} (h : eq_I x.1) {a b : Nat} : sp_cmpM x a b = sp_cmp x a b := by
  unfold sp_cmpM sp_cmp
  have h1 := eq_I_mks h a b (sp_rks x.1 a b)
  rw [eq_rks h, eq_mks h, eq_alike h1, eq_mks h1]
theorem eq_tell {x : lc_X} (h : eq_I x.1) {p q : Nat} (ha : sp_aw x.1 p = true) : sp_tellM x p q = sp_tell x p q := by
  obtain ⟨h1, h2⟩ := eq_awp h ha
  unfold sp_tellM sp_tell
  rw [eq_newq h h1]
  split
  · rfl
  · congr 1
    unfold sp_tellMN sp_tellN sp_below
    have e : decide (lc_cu x.1 5 p (x.1 5 p - 1) 0 p = 0) = false := decide_eq_false h2
    rw [e]
    rfl
theorem eq_hots {x : lc_X} (h : eq_I x.1) (a b : Nat) : sp_hotsM x a b = sp_hots x a b := by
  unfold sp_hotsM sp_hots
  have ee : ∀ i (z : Int32 × lc_X), eq_I z.2.1 → sp_hotM a b i z = sp_hot a b i z := by
    intro i z hz
    unfold sp_hotM sp_hot
    rw [eq_aw hz]
    split
    · rename_i hc
      rw [Bool.and_eq_true] at hc
      rw [eq_tell (x := sp_tr z.2 1) hz hc.2]
    · rw [Int32.add_zero]
  refine sp_it_congr (fun _ z => eq_I z.2.1) (sp_hotM a b) (sp_hot a b) 4 (fun i z _ hz => ?_) (fun i z _ hz => ee i z hz) (0, x) h
  rw [ee i z hz]
  unfold sp_hot
  split
  · exact eq_I_tell (x := sp_tr z.2 1) hz _ _
  · exact hz
theorem eq_rss (B : lc_C) (lat : Nat → Int32) (k n : Nat) : sp_rssM B lat k n = sp_rss B lat k n := by
  unfold sp_rssM sp_rss
  refine sp_it_congr (fun _ _ => True) _ _ n (fun _ _ _ _ => trivial) (fun i z _ _ => ?_) 0 trivial
  unfold sp_rsM sp_rs
  split
  · rfl
  · exact Int32.or_zero
