/-! pure words of the reference, where they are other than the class's -/
theorem sp_dropZ_flat (n : Nat) (x : lc_X) : sp_dropZ n x = sp_it sp_dg (4 * n) (0, x) := (sp_it_nest sp_dg n (0, x)).symm
def sp_awM (B : lc_C) (i : Nat) : Bool := !decide (B 0 i = 0) && !sp_dor B i
def sp_recM (B : lc_C) (i : Nat) : Bool := sp_awM B i && decide (B 7 1 - B 3 i < B 6 3)
def sp_sameM (B : lc_C) (i k : Nat) : Bool := (sp_awM B i == sp_awM B k) && (!sp_awM B i || (decide (B 2 i = B 2 k) && decide (B 3 i = B 3 k)))
def sp_alikeM (B : lc_C) (a b : Nat) : Bool := sp_it (fun k z => z && sp_sameM B (4 * a + k) (4 * b + k)) 4 true
theorem sp_site_win {B : lc_C} {s : Int32} {n : Nat} (hn : n ≤ 6) (hs : B 7 0 = nI n) : sp_win s 0 (B 7 0 - 1) = sp_site B s := by
  unfold sp_win sp_site
  congr 1
  rw [decide_eq_decide, hs]
  have e1 : (nI n - 1).toInt = (n : Int) - 1 := pk_sub_toInt (a := n) (b := 1) (by omega) (by omega)
  rw [Int32.le_iff_toInt_le, Int32.lt_iff_toInt_lt, e1, nI_toInt (by omega)]
  omega
theorem sp_key_win {k : Int32} : sp_win k 0 3 = sp_key k := by
  unfold sp_win sp_key
  congr 1
  rw [decide_eq_decide, Int32.le_iff_toInt_le, Int32.lt_iff_toInt_lt]
  have e3 : (3 : Int32).toInt = 3 := by decide
  have e4 : (4 : Int32).toInt = 4 := by decide
  omega
def sp_le (w : Int32) : Int32 := if w = 0 then 1 else if w = 2 then 1 else 0
def sp_mo (w : Int32) : Int32 := if w = 1 then 200 else if w = 2 then 3 else 50
theorem sp_le_nat {w : Nat} (h : w ≤ 3) : sp_le (nI w) = lc_least w ∧ sp_mo (nI w) = lc_most w := by
  match w, h with
  | 0, _ => decide
  | 1, _ => decide
  | 2, _ => decide
  | 3, _ => decide
def sp_nearM (pos : Nat → Int32) (a : Nat) (but : Int32) (s : Nat) (z : Option Nat × Int32) : Option Nat × Int32 := if (!sp_bit but (nI s) && decide (sp_abs (pos s - pos a) < z.2)) = true then (some s, sp_abs (pos s - pos a)) else z
def sp_nearsM (pos : Nat → Int32) (a : Nat) (but : Int32) (n : Nat) : Option Nat × Int32 := sp_it (sp_nearM pos a but) n (none, 1000)
theorem sp_nearM_I (pos : Nat → Int32) (a : Nat) (but : Int32) (i : Nat) (z : Option Nat × Int32) (h : ∀ b, z.1 = some b → b < i) : ∀ b, (sp_nearM pos a but i z).1 = some b → b < i + 1 := by
  intro b hb
  unfold sp_nearM at hb
  split at hb
  · cases hb; omega
  · have := h b hb; omega
theorem sp_nearM_lt (pos : Nat → Int32) (a : Nat) (but : Int32) (n : Nat) : ∀ b, (sp_nearsM pos a but n).1 = some b → b < n := sp_it_I (fun i z => ∀ b, z.1 = some b → b < i) (sp_nearM pos a but) n (fun i z _ h => sp_nearM_I pos a but i z h) (none, 1000) (fun b h => by cases h)
def sp_nrM (pos : Nat → Int32) (a n : Nat) (bits : Int32) : Int32 := bits ||| (if sp_on (sp_nearsM pos a bits n).1 = -1 then 0 else (1 : Int32) <<< (sp_on (sp_nearsM pos a bits n).1 &&& 31))
def sp_keepM (pos : Nat → Int32) (a n m : Nat) : Int32 := sp_it (fun _ => sp_nrM pos a n) (m - 1) ((1 : Int32) <<< (nI a &&& 31))
theorem sp_bit_val (b k : Int32) : (b >>> (k &&& 31)) &&& 1 = lc_bi (sp_bit b k) := by
  unfold sp_bit
  generalize b >>> (k &&& 31) = v
  obtain ⟨j, hj, e⟩ := pk_andE v (m := 1) 1 (by decide)
  rw [e]
  match j, hj with
  | 0, _ => decide
  | 1, _ => decide
def sp_goes (x : lc_X) (p q : Nat) : Int32 × lc_X := if (sp_awM x.1 p && (decide (x.1 0 q = 0) || sp_new x.1 p q)) = true then (1, (sp_copy x.1 q x.1 p 0, x.2)) else (0, x)
def sp_meetM (x : lc_X) (p q : Nat) : Int32 × lc_X := ((sp_goes (sp_meetW x p q) p q).1 + (sp_goes (sp_goes (sp_meetW x p q) p q).2 q p).1, (sp_goes (sp_goes (sp_meetW x p q) p q).2 q p).2)
def sp_trM (a b : Nat) (keys : Int32) (k : Nat) (x : lc_X) : lc_X := if sp_bit keys (nI k) = true then sp_tr (sp_tr x (lc_bi (sp_awM x.1 (4 * a + k)))) (lc_bi (sp_awM x.1 (4 * b + k))) else x
def sp_mkM (a b : Nat) (keys : Int32) (k : Nat) (z : Int32 × lc_X) : Int32 × lc_X := if sp_bit keys (nI k) = true then (z.1 + (sp_meetM z.2 (4 * a + k) (4 * b + k)).1, (sp_meetM z.2 (4 * a + k) (4 * b + k)).2) else (z.1 + 0, z.2)
def sp_mksM (x : lc_X) (a b : Nat) (keys : Int32) : Int32 × lc_X := sp_it (sp_mkM a b keys) 4 (0, sp_it (sp_trM a b keys) 4 x)
def sp_rkM (B : lc_C) (a b k : Nat) (f : Int32) : Int32 := f ||| (if (sp_recM B (4 * a + k) || sp_recM B (4 * b + k)) = true then ((1 : Int32) <<< (nI k &&& 31)) else 0)
def sp_rksM (B : lc_C) (a b : Nat) : Int32 := sp_it (sp_rkM B a b) 4 0
def sp_cmpM (x : lc_X) (a b : Nat) : Int32 × lc_X := if sp_alikeM (sp_mksM x a b (sp_rksM x.1 a b)).2.1 a b = true then sp_mksM x a b (sp_rksM x.1 a b) else ((sp_mksM x a b (sp_rksM x.1 a b)).1 + (sp_mksM (sp_mksM x a b (sp_rksM x.1 a b)).2 a b (15 &&& (sp_rksM x.1 a b ^^^ (-1)))).1, (sp_mksM (sp_mksM x a b (sp_rksM x.1 a b)).2 a b (15 &&& (sp_rksM x.1 a b ^^^ (-1)))).2)
def sp_tellMN (x : lc_X) (p q : Nat) : lc_X := if (sp_dor (lc_cu x.1 5 p (x.1 5 p - 1)) q && decide (lc_cu x.1 5 p (x.1 5 p - 1) 2 p < lc_cu x.1 5 p (x.1 5 p - 1) 2 q)) = true then sp_wake (lc_cu x.1 5 p (x.1 5 p - 1), x.2) q else (lc_cu x.1 5 p (x.1 5 p - 1), x.2)
def sp_tellM (x : lc_X) (p q : Nat) : Int32 × lc_X := if (decide (x.1 0 q = 0) || sp_new x.1 p q) = true then (1, (sp_copy x.1 q x.1 p (x.1 6 2), x.2)) else (0, sp_tellMN x p q)
def sp_hotM (a b k : Nat) (z : Int32 × lc_X) : Int32 × lc_X := if (decide (0 < z.2.1 5 (4 * a + k)) && sp_awM z.2.1 (4 * a + k)) = true then (z.1 + (sp_tellM (sp_tr z.2 1) (4 * a + k) (4 * b + k)).1, (sp_tellM (sp_tr z.2 1) (4 * a + k) (4 * b + k)).2) else (z.1 + 0, z.2)
def sp_hotsM (x : lc_X) (a b : Nat) : Int32 × lc_X := sp_it (sp_hotM a b) 4 (0, x)
def sp_rsM (B : lc_C) (lat : Nat → Int32) (k s : Nat) (bits : Int32) : Int32 := bits ||| (if (decide (B 0 (4 * s + k) = 1) && decide (B 2 (4 * s + k) < lat k)) = true then ((1 : Int32) <<< (nI s &&& 31)) else 0)
def sp_rssM (B : lc_C) (lat : Nat → Int32) (k n : Nat) : Int32 := sp_it (sp_rsM B lat k) n 0
def sp_risenM (B : lc_C) (lat : Nat → Int32) (n : Nat) (k : Int32) : Int32 := if sp_key k = false then -1001 else sp_rssM B lat k.toNatClampNeg n
theorem lc_d4 (i : Nat) (h : i < 24) : nI i / 4 = nI (i / 4) := pk_div (a := i) (d := 4) (by omega) (by omega) (by omega)
theorem lc_bi_inj {a b : Bool} (h : lc_bi a = lc_bi b) : a = b := by cases a <;> cases b <;> first | rfl | exact absurd h (by decide)
theorem lc_bi_ne {a b : Bool} (h : ¬ lc_bi a = lc_bi b) : (a == b) = false := by cases a <;> cases b <;> first | rfl | exact absurd rfl h
