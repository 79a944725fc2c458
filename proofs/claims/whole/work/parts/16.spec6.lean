theorem sp_pair_nat {B : lc_C} {a b : Int32} {n : Nat} (hn : n ≤ 6) (hs : B 7 0 = nI n) (h : sp_pair B a b = 0) : ∃ p q, p < n ∧ q < n ∧ a = nI p ∧ b = nI q := by
  unfold sp_pair at h
  split at h
  · exact absurd h (by decide)
  · rename_i h1
    rw [Bool.not_eq_false, Bool.and_eq_true, Bool.and_eq_true] at h1
    obtain ⟨p, hp, ep⟩ := sp_site_nat hn hs h1.1.1
    obtain ⟨q, hq, eq⟩ := sp_site_nat hn hs h1.1.2
    exact ⟨p, q, hp, hq, ep, eq⟩
