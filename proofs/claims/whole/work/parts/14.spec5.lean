/-! pure words of the class's own calls -/
def sp_win (v lo hi : Int32) : Bool := decide (lo ≤ v) && decide (v ≤ hi)
def sp_key (k : Int32) : Bool := decide (0 ≤ k) && decide (k < 4)
theorem sp_rng_nat {v lo hi : Int32} {a b : Nat} (ha : lo.toInt = a) (hb : hi.toInt = b) (h1 : lo ≤ v) (h2 : v ≤ hi) : ∃ k : Nat, a ≤ k ∧ k ≤ b ∧ v = nI k := by
  have e1 := Int32.le_iff_toInt_le.mp h1
  have e2 := Int32.le_iff_toInt_le.mp h2
  have h0 : ¬ v < 0 := by
    intro z
    have e3 := Int32.lt_iff_toInt_lt.mp z
    have e4 : (0 : Int32).toInt = 0 := by decide
    omega
  obtain ⟨j, hj, rfl⟩ := nI_of h0
  rw [nI_toInt hj] at e1 e2
  exact ⟨j, by omega, by omega, rfl⟩
theorem sp_site_nat {B : lc_C} {s : Int32} {n : Nat} (hn : n ≤ 6) (hs : B 7 0 = nI n) (h : sp_site B s = true) : ∃ a, a < n ∧ s = nI a := by
  unfold sp_site at h
  rw [Bool.and_eq_true, decide_eq_true_eq, decide_eq_true_eq, hs] at h
  obtain ⟨j, hj, rfl⟩ := nI_of (fun z => absurd z (Int32.not_lt.mpr h.1))
  exact ⟨j, (nI_ltI hj (by omega)).mp h.2, rfl⟩
theorem sp_key_nat {k : Int32} (h : sp_key k = true) : ∃ a, a < 4 ∧ k = nI a := by
  unfold sp_key at h
  rw [Bool.and_eq_true, decide_eq_true_eq, decide_eq_true_eq] at h
  obtain ⟨j, hj, rfl⟩ := nI_of (fun z => absurd z (Int32.not_lt.mpr h.1))
  exact ⟨j, (nI_ltI (b := 4) hj (by omega)).mp h.2, rfl⟩
def sp_letter (σ : lc_S) (rc rl p : Nat) (code : Int32) : Int32 × lc_S := if sp_win code 32 126 = false then (-1002, σ) else if p = 6 then (-1004, σ) else (nI (p + 1), lc_uo (lc_uo σ rc p code) rl 0 (nI (p + 1)))
def sp_set (n : Nat) (x : lc_X) (what v : Int32) : Int32 × lc_X := if sp_win what 0 3 = false then (-1002, x) else if sp_win v (lc_least what.toNatClampNeg) (lc_most what.toNatClampNeg) = false then (-1002, x) else (x.1 6 what.toNatClampNeg, (sp_drop n (lc_cu x.1 6 what.toNatClampNeg v, x.2)).2)
def sp_put (full : Bool) (n : Nat) (x : lc_X) (s k v : Int32) : Int32 × lc_X := if (sp_site x.1 s && sp_key k) = false then (-1001, x) else if sp_win v 0 9 = false then (-1002, x) else if sp_bit (x.1 7 2) s = true then (-1003, x) else if full = true then (-1004, x) else sp_putV n x s.toNatClampNeg k.toNatClampNeg v
/-- what remove() does to the rest: the latest removal -/
def sp_remo (full : Bool) (kp : Int32) (rl j n : Nat) (σ : lc_S) (x : lc_X) (s k m : Int32) : Int32 × lc_S := if (sp_site x.1 s && sp_key k) = false then (-1001, lc_w σ j x) else if sp_win m 1 3 = false then (-1002, lc_w σ j x) else if (sp_bit (x.1 7 2) s || !decide (x.1 0 (4 * s.toNatClampNeg + k.toNatClampNeg) = 1)) = true then (-1003, lc_w σ j x) else if full = true then (-1004, lc_w σ j x) else ((sp_remV n x s.toNatClampNeg k.toNatClampNeg kp).1, lc_w (lc_uo σ rl k.toNatClampNeg ((sp_adv n x 1).2.1 7 1)) j (sp_remV n x s.toNatClampNeg k.toNatClampNeg kp).2)
def sp_pass (full : Bool) (n : Nat) (x : lc_X) (d : Int32) : Int32 × lc_X := if sp_win d 1 300 = false then (-1002, x) else if x.1 7 0 = 0 then (-1003, x) else if full = true then (-1004, x) else sp_adv n x d
def sp_off (x : lc_X) (s : Int32) (b : Bool) : Int32 × lc_X := if sp_site x.1 s = false then (-1001, x) else (lc_bi (sp_bit (x.1 7 2) s), (lc_cu x.1 7 2 (if b = true then x.1 7 2 ||| ((1 : Int32) <<< (s &&& 31)) else x.1 7 2 &&& (((1 : Int32) <<< (s &&& 31)) ^^^ (-1))), x.2))
def sp_pair (B : lc_C) (a b : Int32) : Int32 := if (sp_site B a && sp_site B b && !decide (a = b)) = false then -1001 else if (sp_bit (B 7 2) a || sp_bit (B 7 2) b) = true then -1003 else 0
def sp_exch (cmp : lc_X → Nat → Nat → Int32 × lc_X) (x : lc_X) (a b : Int32) : Int32 × lc_X := if sp_pair x.1 a b = 0 then cmp x a.toNatClampNeg b.toNatClampNeg else (sp_pair x.1 a b, x)
def sp_hasv (B : lc_C) (i w : Nat) : Int32 := if w = 5 then lc_bi (sp_dor B i) else if w = 6 then B 5 i else B w i
def sp_has (B : lc_C) (s k w : Int32) : Int32 := if (sp_site B s && sp_key k) = false then -1001 else if sp_win w 0 6 = false then -1002 else sp_hasv B (4 * s.toNatClampNeg + k.toNatClampNeg) w.toNatClampNeg
def sp_newest (B : lc_C) (s kind : Int32) : Int32 := if sp_site B s = false then -1001 else if sp_win kind 0 2 = false then -1002 else sp_on (sp_nks B s.toNatClampNeg kind)
def sp_alk (al : lc_C → Nat → Nat → Bool) (B : lc_C) (a b : Int32) : Int32 := if (sp_site B a && sp_site B b) = false then -1001 else lc_bi (al B a.toNatClampNeg b.toNatClampNeg)
def sp_risen (B : lc_C) (lat : Nat → Int32) (n : Nat) (k : Int32) : Int32 := if sp_key k = false then -1001 else sp_rss B lat k.toNatClampNeg n
def sp_pnr (B : lc_C) (pos : Nat → Int32) (n : Nat) (s seed w : Int32) : Int32 := if sp_site B s = false then -1001 else if (decide (0 ≤ seed) && sp_win w 0 1) = false then -1002 else if w = 0 then (if sp_othOn B s = 0 then sp_partC B pos s.toNatClampNeg n seed else sp_partC B pos s.toNatClampNeg n (sp_next seed)) else (if sp_othOn B s = 0 then seed else sp_next seed)
def sp_cntv (σ : lc_S) (x : lc_X) (j rl : Nat) (w : Nat) : Int32 := match w with
  | 0 => σ.2.1 rl 0
  | 1 => x.1 7 0
  | 2 => x.1 7 1
  | 3 => x.1 7 2
  | 4 => σ.2.1 j 0 + x.2.1
  | 5 => σ.2.1 j 1 + x.2.2.1
  | 6 => σ.2.1 j 2 + x.2.2.2
  | 7 => x.1 6 0
  | 8 => x.1 6 1
  | 9 => x.1 6 2
  | 10 => x.1 6 3
  | 11 => σ.2.1 rl 1
  | _ => -1002
def sp_count (σ : lc_S) (x : lc_X) (j rl : Nat) (w : Int32) : Int32 := if sp_win w 0 11 = false then -1002 else sp_cntv σ x j rl w.toNatClampNeg
def sp_mx (h : Int64) (r : Int32) : Int64 := 31 * h + r.toInt64
def sp_ksh (B : lc_C) (s k : Nat) (h : Int64) : Int64 := sp_it (fun w h => sp_mx h (sp_hasv B (4 * s + k) w)) 7 h
def sp_msh (al : lc_C → Nat → Nat → Bool) (B : lc_C) (n s : Nat) (h : Int64) : Int64 := sp_it (fun o h => sp_mx h (lc_bi (al B s o))) n (sp_it (fun kd h => sp_mx h (sp_on (sp_nks B s (nI kd)))) 3 (sp_it (sp_ksh B s) 4 h))
theorem sp_win_out {v lo hi : Int32} (h : v < lo ∨ hi < v) : sp_win v lo hi = false := by
  unfold sp_win
  rcases h with h | h
  · rw [decide_eq_false (Int32.not_le.mpr h)]; rfl
  · rw [decide_eq_false (p := v ≤ hi) (Int32.not_le.mpr h), Bool.and_false]
theorem sp_win_in {a lo hi : Nat} (h1 : lo ≤ a) (h2 : a ≤ hi) (hb : hi < 2 ^ 31) : sp_win (nI a) (nI lo) (nI hi) = true := by
  unfold sp_win
  rw [decide_eq_true (nI_le h1 (by omega)), decide_eq_true (nI_le h2 hb)]
  rfl
