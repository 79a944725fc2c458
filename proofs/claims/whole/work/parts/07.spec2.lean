/-! pure words of a world: what its methods do -/
theorem lc_it74 {j i : Nat} (hj : j < 2) (hi : i < 24) : lc_it j i < 74 := by unfold lc_it; omega
def sp_dg (i : Nat) (z : Int32 × lc_X) : Int32 × lc_X := if (sp_dor z.2.1 i && !sp_kept z.2.1 i (nI (i / 4))) = true then (z.1 + 1, (sp_none z.2.1 i, z.2.2)) else z
def sp_dgs (a : Nat) (z : Int32 × lc_X) : Int32 × lc_X := sp_it (fun k => sp_dg (4 * a + k)) 4 z
def sp_dropZ (n : Nat) (x : lc_X) : Int32 × lc_X := sp_it sp_dgs n (0, x)
def sp_drop (n : Nat) (x : lc_X) : Int32 × lc_X := ((sp_dropZ n x).1, ((sp_dropZ n x).2.1, (sp_dropZ n x).2.2.1, (sp_dropZ n x).2.2.2.1, (sp_dropZ n x).2.2.2.2 + (sp_dropZ n x).1))
def sp_adv (n : Nat) (x : lc_X) (d : Int32) : Int32 × lc_X := sp_drop n (lc_cu x.1 7 1 (x.1 7 1 + d), x.2)
theorem sp_dg_7 (i : Nat) (z : Int32 × lc_X) : (sp_dg i z).2.1 7 = z.2.1 7 := by
  unfold sp_dg
  split <;> rfl
theorem sp_dg_6 (i : Nat) (z : Int32 × lc_X) : (sp_dg i z).2.1 6 = z.2.1 6 := by
  unfold sp_dg
  split <;> rfl
theorem sp_dgs_7 (a : Nat) (z : Int32 × lc_X) : (sp_dgs a z).2.1 7 = z.2.1 7 := by
  refine sp_it_I (fun _ w => w.2.1 7 = z.2.1 7) _ 4 (fun i w _ h => ?_) z rfl
  rw [sp_dg_7]; exact h
theorem sp_dgs_6 (a : Nat) (z : Int32 × lc_X) : (sp_dgs a z).2.1 6 = z.2.1 6 := by
  refine sp_it_I (fun _ w => w.2.1 6 = z.2.1 6) _ 4 (fun i w _ h => ?_) z rfl
  rw [sp_dg_6]; exact h
theorem sp_drop_7 (n : Nat) (x : lc_X) : (sp_drop n x).2.1 7 = x.1 7 := by
  refine sp_it_I (fun _ w => w.2.1 7 = x.1 7) sp_dgs n (fun i w _ h => ?_) (0, x) rfl
  rw [sp_dgs_7]; exact h
theorem sp_drop_6 (n : Nat) (x : lc_X) : (sp_drop n x).2.1 6 = x.1 6 := by
  refine sp_it_I (fun _ w => w.2.1 6 = x.1 6) sp_dgs n (fun i w _ h => ?_) (0, x) rfl
  rw [sp_dgs_6]; exact h
def sp_meetW (x : lc_X) (p q : Nat) : lc_X := if (sp_dor x.1 p && sp_below x.1 q (x.1 2 p)) = true then sp_wake x p else if (sp_dor x.1 q && sp_below x.1 p (x.1 2 q)) = true then sp_wake x q else x
def sp_meetC (x : lc_X) (p q : Nat) : Int32 × lc_X := if (sp_aw x.1 p && sp_new x.1 p q) = true then (1, (sp_copy x.1 q x.1 p 0, x.2)) else if (sp_aw x.1 q && sp_new x.1 q p) = true then (1, (sp_copy x.1 p x.1 q 0, x.2)) else (0, x)
def sp_meet (x : lc_X) (p q : Nat) : Int32 × lc_X := sp_meetC (sp_meetW x p q) p q
def sp_tr (x : lc_X) (d : Int32) : lc_X := (x.1, x.2.1 + d, x.2.2.1, x.2.2.2)
def sp_mk (a b : Nat) (keys : Int32) (k : Nat) (z : Int32 × lc_X) : Int32 × lc_X := if sp_bit keys (nI k) = true then (z.1 + (sp_meet (sp_tr z.2 (lc_bi (sp_aw z.2.1 (4 * a + k)) + lc_bi (sp_aw z.2.1 (4 * b + k)))) (4 * a + k) (4 * b + k)).1, (sp_meet (sp_tr z.2 (lc_bi (sp_aw z.2.1 (4 * a + k)) + lc_bi (sp_aw z.2.1 (4 * b + k)))) (4 * a + k) (4 * b + k)).2) else z
def sp_mks (x : lc_X) (a b : Nat) (keys : Int32) : Int32 × lc_X := sp_it (sp_mk a b keys) 4 (0, x)
def sp_rk (B : lc_C) (a b k : Nat) (f : Int32) : Int32 := if (sp_rec B (4 * a + k) || sp_rec B (4 * b + k)) = true then f ||| ((1 : Int32) <<< (nI k &&& 31)) else f
def sp_rks (B : lc_C) (a b : Nat) : Int32 := sp_it (sp_rk B a b) 4 0
def sp_alike (B : lc_C) (a b : Nat) : Bool := sp_all (fun k => sp_same B (4 * a + k) (4 * b + k)) 4
def sp_cmp (x : lc_X) (a b : Nat) : Int32 × lc_X := if sp_alike (sp_mks x a b (sp_rks x.1 a b)).2.1 a b = true then sp_mks x a b (sp_rks x.1 a b) else ((sp_mks x a b (sp_rks x.1 a b)).1 + (sp_mks (sp_mks x a b (sp_rks x.1 a b)).2 a b (15 &&& (sp_rks x.1 a b ^^^ (-1)))).1, (sp_mks (sp_mks x a b (sp_rks x.1 a b)).2 a b (15 &&& (sp_rks x.1 a b ^^^ (-1)))).2)
def sp_tellN (x : lc_X) (p q : Nat) : lc_X := if (sp_dor (lc_cu x.1 5 p (x.1 5 p - 1)) q && sp_below (lc_cu x.1 5 p (x.1 5 p - 1)) p (lc_cu x.1 5 p (x.1 5 p - 1) 2 q)) = true then sp_wake (lc_cu x.1 5 p (x.1 5 p - 1), x.2) q else (lc_cu x.1 5 p (x.1 5 p - 1), x.2)
def sp_tell (x : lc_X) (p q : Nat) : Int32 × lc_X := if sp_new x.1 p q = true then (1, (sp_copy x.1 q x.1 p (x.1 6 2), x.2)) else (0, sp_tellN x p q)
def sp_hot (a b k : Nat) (z : Int32 × lc_X) : Int32 × lc_X := if (decide (0 < z.2.1 5 (4 * a + k)) && sp_aw z.2.1 (4 * a + k)) = true then (z.1 + (sp_tell (sp_tr z.2 1) (4 * a + k) (4 * b + k)).1, (sp_tell (sp_tr z.2 1) (4 * a + k) (4 * b + k)).2) else z
def sp_hots (x : lc_X) (a b : Nat) : Int32 × lc_X := sp_it (sp_hot a b) 4 (0, x)
def sp_nk (B : lc_C) (a : Nat) (kind : Int32) (k : Nat) (best : Option Nat) : Option Nat := if ((if kind = 0 then !decide (B 0 (4 * a + k) = 0) else decide (B 0 (4 * a + k) = kind)) && (match best with | none => true | some b => sp_new B (4 * a + k) (4 * a + b))) = true then some k else best
def sp_nks (B : lc_C) (a : Nat) (kind : Int32) : Option Nat := sp_it (sp_nk B a kind) 4 none
def sp_on (o : Option Nat) : Int32 := match o with | none => -1 | some k => nI k
def sp_rs (B : lc_C) (lat : Nat → Int32) (k s : Nat) (bits : Int32) : Int32 := if (decide (B 0 (4 * s + k) = 1) && decide (B 2 (4 * s + k) < lat k)) = true then bits ||| ((1 : Int32) <<< (nI s &&& 31)) else bits
def sp_rss (B : lc_C) (lat : Nat → Int32) (k n : Nat) : Int32 := sp_it (sp_rs B lat k) n 0
def sp_oth (s n : Int32) : Int32 := (((1 : Int32) <<< (n &&& 31)) - 1) &&& (((1 : Int32) <<< (s &&& 31)) ^^^ (-1))
def sp_othOn (B : lc_C) (s : Int32) : Int32 := sp_oth s (B 7 0) &&& (B 7 2 ^^^ (-1))
def sp_abs (v : Int32) : Int32 := if v < 0 then -v else v
