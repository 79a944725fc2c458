/-! pure words of the reference: lines, partners -/
def sp_nx (s : Int64) : Int64 := (1103515245 * s + 12345) &&& 2147483647
def sp_drw (s : Int64) (d : Int32) : Int32 := (s / 65536 - s / 65536 / d.toInt64 * d.toInt64).toInt32
def sp_wgt (r : Nat) : Int32 := 60 / nI (r + 1)
theorem sp_wgt_nat (r : Nat) (h : r < 1000) : sp_wgt r = nI (60 / (r + 1)) := pk_div (a := 60) (d := r + 1) (by omega) (by omega) (by omega)
def sp_T : Nat → Nat
  | 0 => 0
  | k + 1 => sp_T k + 60 / (k + 1)
def sp_pc (out : Int32) (s : Nat) (z : Nat × Int32) : Nat × Int32 := if sp_bit out (nI s) = true then z else (z.1 + 1, z.2 + sp_wgt z.1)
def sp_pcs (out : Int32) (n : Nat) : Nat × Int32 := sp_it (sp_pc out) n (0, 0)
theorem sp_pcs_I (out : Int32) (a n : Nat) (hn : n ≤ 1000) (ha : sp_bit out (nI a) = true) : (sp_pcs out n).2 = nI (sp_T (sp_pcs out n).1) ∧ (sp_pcs out n).1 ≤ n ∧ (a < n → (sp_pcs out n).1 + 1 ≤ n) := by
  have key : ∀ m, m ≤ 1000 → (sp_pcs out m).2 = nI (sp_T (sp_pcs out m).1) ∧ (sp_pcs out m).1 ≤ m ∧ (a < m → (sp_pcs out m).1 + 1 ≤ m) := by
    intro m
    induction m with
    | zero => intro _; exact ⟨rfl, Nat.le_refl _, fun h => absurd h (by omega)⟩
    | succ m ih =>
      intro hm
      obtain ⟨h1, h2, h3⟩ := ih (by omega)
      have e : sp_pcs out (m + 1) = sp_pc out m (sp_pcs out m) := rfl
      rw [e]
      unfold sp_pc
      by_cases hb : sp_bit out (nI m) = true
      · rw [if_pos hb]
        refine ⟨h1, by omega, fun h => ?_⟩
        omega
      · rw [if_neg hb]
        refine ⟨?_, ?_, fun h => ?_⟩
        · show (sp_pcs out m).2 + sp_wgt (sp_pcs out m).1 = nI (sp_T ((sp_pcs out m).1 + 1))
          rw [h1, sp_wgt_nat _ (by omega)]
          exact nI_add _ _
        · show (sp_pcs out m).1 + 1 ≤ m + 1
          omega
        · show (sp_pcs out m).1 + 1 + 1 ≤ m + 1
          have hne : ¬ a = m := fun z => hb (by rw [← z]; exact ha)
          have := h3 (by omega)
          omega
  exact key n hn
def sp_pm (pos : Nat → Int32) (a n : Nat) : Nat → Nat → Nat → Int32 → Int32 → Int32
  | 0, _, _, _, one => one
  | f + 1, r, L, out, one => if nI L < sp_wgt r then one else sp_pm pos a n f (r + 1) (L - 60 / (r + 1)) (out ||| ((1 : Int32) <<< (one &&& 31))) (sp_on (sp_nearsM pos a (out ||| ((1 : Int32) <<< (one &&& 31))) n).1)
def sp_out (B : lc_C) (a : Nat) : Int32 := B 7 2 ||| ((1 : Int32) <<< (nI a &&& 31))
def sp_partM (B : lc_C) (pos : Nat → Int32) (a n : Nat) (seed : Int64) : Int32 × Int64 := if (sp_pcs (sp_out B a) n).1 = 0 then (-1, seed) else (sp_pm pos a n (sp_pcs (sp_out B a) n).1 0 (sp_drw (sp_nx seed) (sp_pcs (sp_out B a) n).2).toNatClampNeg (sp_out B a) (sp_on (sp_nearsM pos a (sp_out B a) n).1), sp_nx seed)
theorem sp_T_pos {k : Nat} (h0 : 0 < k) (h : k ≤ 5) : 0 < sp_T k ∧ sp_T k ≤ 137 := by
  match k, h0, h with
  | 1, _, _ => decide
  | 2, _, _ => decide
  | 3, _, _ => decide
  | 4, _, _ => decide
  | 5, _, _ => decide
theorem sp_nx_nat (s : Int64) : ∃ k : Nat, k < 2 ^ 31 ∧ sp_nx s = lN k := by
  unfold sp_nx
  generalize 1103515245 * s + 12345 = v
  obtain ⟨n, hn, rfl⟩ := wb_of v
  exact ⟨n % 2 ^ 31, Nat.mod_lt _ (by decide), wb_mask (k := 31) hn (by decide)⟩
theorem sp_drw_nat (s : Int64) (k t : Nat) (hk : k < 2 ^ 31) (hs : s = lN k) (h0 : 0 < t) (ht : t ≤ 1000) : sp_drw s (nI t) = nI (k / 65536 % t) := by
  unfold sp_drw
  subst hs
  have e1 : lN k / 65536 = lN (k / 65536) := pk_lDiv (a := k) (b := 65536) (by omega) (by omega) (by omega)
  rw [e1, nI_l (by omega), pk_lRem (by omega) h0 (by omega), lN_i]
def sp_aaM (B : lc_C) (n : Nat) : Bool := sp_it (fun a z => sp_it (fun b z => z && (sp_bit (B 7 2) (nI a) || sp_bit (B 7 2) (nI b) || sp_alikeM B a b)) a z) n true
