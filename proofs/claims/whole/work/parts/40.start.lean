/-! the world at the law's loop: numbers, addresses -/
def lw_S0 : lc_S := (fun j => if j = 2 then (fun r k => if r = 6 then k_lim k else 0) else sp_fresh k_lim 0, fun _ _ => 0, fun _ => 0)
theorem lw_R0 : eq_R lw_S0 0 0 := by
  refine ⟨by omega, by omega, rfl, rfl, rfl, rfl, ?_, rfl, rfl, rfl, rfl, fun h => absurd rfl h⟩
  funext k
  show (0 : Int32) = if k = 0 then 0 else 0
  split <;> rfl
def lw_ad (a0 : Nat) (z : k_S4) (a1 : Nat) (g : Nat → Nat) : Nat → Nat := fun k => match k with
  | 0 => a0
  | 1 => z.1.1
  | 2 => z.1.2
  | 3 => z.2.2.1
  | 4 => z.2.1.1
  | 5 => z.2.2.2.1
  | 6 => z.2.1.2.1.1
  | 7 => z.2.2.2.2.1.1
  | 8 => z.2.1.2.1.2.1
  | 9 => z.2.2.2.2.1.2.1
  | 10 => z.2.1.2.1.2.2.1
  | 11 => z.2.2.2.2.1.2.2.1
  | 12 => z.2.1.2.1.2.2.2
  | 13 => z.2.2.2.2.1.2.2.2
  | 14 => a1
  | 15 => g 0
  | 16 => g 1
  | 17 => g 2
  | 18 => g 3
  | 19 => g 4
  | 20 => g 5
  | 21 => g 6
  | 22 => g 7
  | 23 => g 8
  | 24 => g 9
  | 25 => g 10
  | k + 26 => if k < 24 then z.2.1.2.2 k else z.2.2.2.2.2 (k - 24)
def lw_pos (k : Nat) : Nat := match k with
  | 0 => 0
  | 1 => 1
  | 2 => 2
  | 3 => 32
  | 4 => 3
  | 5 => 33
  | 6 => 4
  | 7 => 34
  | 8 => 5
  | 9 => 35
  | 10 => 6
  | 11 => 36
  | 12 => 7
  | 13 => 37
  | 14 => 62
  | 15 => 63
  | 16 => 64
  | 17 => 65
  | 18 => 66
  | 19 => 67
  | 20 => 68
  | 21 => 69
  | 22 => 70
  | 23 => 71
  | 24 => 72
  | 25 => 73
  | k + 26 => if k < 24 then k + 8 else k + 14
theorem lw_pos_inj {i j : Nat} (hi : i < 74) (hj : j < 74) (h : lw_pos i = lw_pos j) : i = j := (by decide +kernel : ∀ i, i < 74 → ∀ j, j < 74 → lw_pos i = lw_pos j → i = j) i hi j hj h
abbrev lw_G (E : lk_E) (t : Nat × Nat × Nat) (a0 : Nat) (z : k_S4) (a1 : Nat) (g : Nat → Nat) : lc_G := (lw_ad a0 z a1 g, E.1.1, E.1.2, E.2.1, E.2.2, t.1, t.2.1, t.2.2)
def lw_ws (E : lk_E) (a0 : Nat) (z : k_S4) (a1 : Nat) (g : Nat → Nat) : va_W := k_LX4 E a0 z ++ k_LX5 E a1 g
def lw_en (E : lk_E) (t : Nat × Nat × Nat) (a0 : Nat) (z : k_S4) (a1 : Nat) (g : Nat → Nat) (k : Nat) : va_E := match k with
  | 10 => .inl (E.2.2, 24, .inr (.inr (.inr (.inr (fun j => if j < 24 then some (z.2.1.2.2 j) else none)))))
  | 11 => .inl (E.2.2, 24, .inr (.inr (.inr (.inr (fun j => if j < 24 then some (z.2.2.2.2.2 j) else none)))))
  | k => lc_ent (lw_G E t a0 z a1 g) lw_S0 k
theorem lw_itl (X base Y : va_W) (f : Nat → Nat × va_E) (N i : Nat) (hi : i < 24) (hN : X.length + base.length = N) : ((X ++ (base ++ (List.range 24).map f)) ++ Y)[N + i]? = some (f i) := by
  rw [List.getElem?_append_left (by simp; omega), List.getElem?_append_right (by omega), List.getElem?_append_right (by omega), List.getElem?_map, List.getElem?_range (by omega)]
  rw [show N + i - X.length - base.length = i by omega]
  rfl
theorem lw_at (E : lk_E) (t : Nat × Nat × Nat) (a0 : Nat) (z : k_S4) (a1 : Nat) (g : Nat → Nat) (k : Nat) (hk : k < 74) : (lw_ws E a0 z a1 g)[lw_pos k]? = some (lw_ad a0 z a1 g k, lw_en E t a0 z a1 g k) := by
  by_cases h26 : k < 26
  · match k, h26 with
    | 0, _ => rfl
    | 1, _ => rfl
    | 2, _ => rfl
    | 3, _ => rfl
    | 4, _ => rfl
    | 5, _ => rfl
    | 6, _ => rfl
    | 7, _ => rfl
    | 8, _ => rfl
    | 9, _ => rfl
    | 10, _ => rfl
    | 11, _ => rfl
    | 12, _ => rfl
    | 13, _ => rfl
    | 14, _ => rfl
    | 15, _ => rfl
    | 16, _ => rfl
    | 17, _ => rfl
    | 18, _ => rfl
    | 19, _ => rfl
    | 20, _ => rfl
    | 21, _ => rfl
    | 22, _ => rfl
    | 23, _ => rfl
    | 24, _ => rfl
    | 25, _ => rfl
    | k + 26, h => exact absurd h (by omega)
  · obtain ⟨i, rfl⟩ : ∃ i, k = i + 26 := ⟨k - 26, by omega⟩
    have en : lw_en E t a0 z a1 g (i + 26) = k_it := by
      show lc_iE lw_S0 (i / 24) (i % 24) = k_it
      have : i / 24 = 0 ∨ i / 24 = 1 := by omega
      rcases this with h | h <;> rw [h] <;> rfl
    rw [en]
    show (lw_ws E a0 z a1 g)[if i < 24 then i + 8 else i + 14]? = some ((if i < 24 then z.2.1.2.2 i else z.2.2.2.2.2 (i - 24)), k_it)
    unfold lw_ws k_LX4
    by_cases hi : i < 24
    · rw [if_pos hi, if_pos hi, List.append_assoc _ (k_LX2 E z.2.2.1 z.2.2.2) _, Nat.add_comm i 8]
      exact lw_itl _ _ _ (fun j => (z.2.1.2.2 j, k_it)) 8 i hi rfl
    · rw [if_neg hi, if_neg hi]
      unfold k_LX2
      rw [← List.append_assoc _ [_] (k_LX3 E z.2.2.2.1 z.2.2.2.2), show i + 14 = 38 + (i - 24) by omega]
      refine lw_itl _ _ _ (fun j => (z.2.2.2.2.2 j, k_it)) 38 (i - 24) (by omega) ?_
      simp [k_LX1, k_LX3, k_W_len]
theorem lw_arq {cA : ClassId} {n : Nat} {f g : Nat → Option Nat} (h : ∀ i, i < n → f i = g i) : vp_cell cA (n, .inr (.inr (.inr (.inr f)))) = vp_cell cA (n, .inr (.inr (.inr (.inr g)))) := by
  rw [vp_cell_q, vp_cell_q]
  unfold arrV
  congr 1
  apply congrArg
  funext i
  show va_rf (f i.val) = va_rf (g i.val)
  rw [h i.val i.isLt]
theorem lw_P0 {E : lk_E} (t : Nat × Nat × Nat) {a0 : Nat} {z : k_S4} {a1 : Nat} {g : Nat → Nat} {H : Heap} (hP : va_P E.1 vwCl (lw_ws E a0 z a1 g) H) : lc_P (lw_G E t a0 z a1 g) lw_S0 H := by
  intro k q hq
  obtain ⟨hk, rfl⟩ := lc_ws_mem hq
  have h := hP (lw_pos k) _ (lw_at E t a0 z a1 g k hk)
  by_cases h10 : k = 10
  · subst h10
    refine Eq.trans h (congrArg some (lw_arq (fun i hi => ?_)))
    show (if i < 24 then some (z.2.1.2.2 i) else none) = some (lw_ad a0 z a1 g (26 + 24 * 0 + i))
    rw [if_pos hi, show 26 + 24 * 0 + i = i + 26 by omega]
    show _ = some (if i < 24 then z.2.1.2.2 i else z.2.2.2.2.2 (i - 24))
    rw [if_pos hi]
  · by_cases h11 : k = 11
    · subst h11
      refine Eq.trans h (congrArg some (lw_arq (fun i hi => ?_)))
      show (if i < 24 then some (z.2.2.2.2.2 i) else none) = some (lw_ad a0 z a1 g (26 + 24 * 1 + i))
      rw [if_pos hi, show 26 + 24 * 1 + i = (24 + i) + 26 by omega]
      show _ = some (if 24 + i < 24 then z.2.1.2.2 (24 + i) else z.2.2.2.2.2 (24 + i - 24))
      rw [if_neg (by omega), show 24 + i - 24 = i by omega]
    · have e : lw_en E t a0 z a1 g k = lc_ent (lw_G E t a0 z a1 g) lw_S0 k := by
        unfold lw_en
        split
        · exact absurd rfl h10
        · exact absurd rfl h11
        · rfl
      rw [e] at h
      exact h
theorem lw_D0 {E : lk_E} (t : Nat × Nat × Nat) {a0 : Nat} {z : k_S4} {a1 : Nat} {g : Nat → Nat} {A : Nat → Prop} (hD : va_D A (lw_ws E a0 z a1 g)) : lc_Ap (lw_G E t a0 z a1 g) ∧ ∀ k, k < 74 → A ((lw_G E t a0 z a1 g).1 k) := by
  refine ⟨fun i j hi hj h => ?_, fun k hk => hD.2 _ _ (lw_at E t a0 z a1 g k hk)⟩
  exact lw_pos_inj hi hj (hD.1 _ _ _ _ (lw_at E t a0 z a1 g i hi) (lw_at E t a0 z a1 g j hj) h)

