/-! constructors: what they make -/
theorem mi_X0 : lk_mi yX0_init cX0_init 1 := ⟨⟨(lc_in 127 (by decide +kernel) rfl), (lc_in 84 (by decide +kernel) rfl), (lc_in 126 (by decide +kernel) rfl)⟩, ⟨by decide +kernel, by decide +kernel⟩, by decide +kernel⟩
theorem mi_X1 : lk_mi yX1_init cX1_init 1 := ⟨⟨(lc_in 102 (by decide +kernel) rfl), (lc_in 82 (by decide +kernel) rfl), (lc_in 101 (by decide +kernel) rfl)⟩, ⟨by decide +kernel, by decide +kernel⟩, by decide +kernel⟩
theorem mi_X2 : lk_mi yX2_init cX2_init 1 := ⟨⟨(lc_in 207 (by decide +kernel) rfl), (lc_in 85 (by decide +kernel) rfl), (lc_in 206 (by decide +kernel) rfl)⟩, ⟨by decide +kernel, by decide +kernel⟩, by decide +kernel⟩
theorem mi_X3 : lk_mi yX3_init cX3_init 2 := ⟨⟨(lc_in 120 (by decide +kernel) rfl), (lc_in 83 (by decide +kernel) rfl), (lc_in 119 (by decide +kernel) rfl)⟩, ⟨by decide +kernel, by decide +kernel⟩, by decide +kernel⟩
theorem mi_X4 : lk_mi yX4_init cX4_init 1 := ⟨⟨(lc_in 94 (by decide +kernel) rfl), (lc_in 81 (by decide +kernel) rfl), (lc_in 93 (by decide +kernel) rfl)⟩, ⟨by decide +kernel, by decide +kernel⟩, by decide +kernel⟩
theorem mi_X5 : lk_mi yX5_init cX5_init 1 := ⟨⟨(lc_in 543 (by decide +kernel) rfl), (lc_in 86 (by decide +kernel) rfl), (lc_in 542 (by decide +kernel) rfl)⟩, ⟨by decide +kernel, by decide +kernel⟩, by decide +kernel⟩
def k_it : va_E := .inr (0, [.int 0, .int (-1), .int (-1), .int (-1), .int (-1), .int 0])
theorem k_X0_becomeNothing (l : Launch) (E : lk_E) (a : Nat) : lk_M l E yX0_becomeNothing cX0_becomeNothing 1 { frames := 0, cells := 0, slots := 0, locals := 0 } a (.inr (0, [.int 0, .int 0, .int 0, .int 0, .int 0, .int 0])) (fun _ : Unit => [(a, k_it)]) 0 0 := by
  refine lk_entry (by decide) (by decide) (fun Γ hR hin => ?_)
  refine lk_aload_n 0 dX0_becomeNothing_0 rfl ?_
  refine lk_iconst (v := 0) dX0_becomeNothing_1 (by decide) ?_
  refine lk_put 0 0 tyX0 (ty := tyX0 0) [(a, .inr (0, [.int 0, .int 0, .int 0, .int 0, .int 0, .int 0]))] tyX0_ok nmX0 rfl lc_cX0 (by decide) (lc_in 133 (by decide +kernel) rfl) rfl (tyX0_ok 0 (by decide)) rfl rfl (Nat.le_of_ble_eq_true rfl) rfl dX0_becomeNothing_2 ?_
  refine lk_aload_n 0 dX0_becomeNothing_5 rfl ?_
  refine lk_iconst (v := (-1)) dX0_becomeNothing_6 (by decide) ?_
  refine lk_put 0 1 tyX0 (ty := tyX0 1) [(a, .inr (0, [.int 0, .int (-1), .int 0, .int 0, .int 0, .int 0]))] tyX0_ok nmX0 rfl lc_cX0 (by decide) (lc_in 136 (by decide +kernel) rfl) rfl (tyX0_ok 1 (by decide)) rfl rfl (Nat.le_of_ble_eq_true rfl) rfl dX0_becomeNothing_7 ?_
  refine lk_aload_n 0 dX0_becomeNothing_10 rfl ?_
  refine lk_iconst (v := (-1)) dX0_becomeNothing_11 (by decide) ?_
  refine lk_put 0 2 tyX0 (ty := tyX0 2) [(a, .inr (0, [.int 0, .int (-1), .int (-1), .int 0, .int 0, .int 0]))] tyX0_ok nmX0 rfl lc_cX0 (by decide) (lc_in 138 (by decide +kernel) rfl) rfl (tyX0_ok 2 (by decide)) rfl rfl (Nat.le_of_ble_eq_true rfl) rfl dX0_becomeNothing_12 ?_
  refine lk_aload_n 0 dX0_becomeNothing_15 rfl ?_
  refine lk_iconst (v := (-1)) dX0_becomeNothing_16 (by decide) ?_
  refine lk_put 0 3 tyX0 (ty := tyX0 3) [(a, .inr (0, [.int 0, .int (-1), .int (-1), .int (-1), .int 0, .int 0]))] tyX0_ok nmX0 rfl lc_cX0 (by decide) (lc_in 141 (by decide +kernel) rfl) rfl (tyX0_ok 3 (by decide)) rfl rfl (Nat.le_of_ble_eq_true rfl) rfl dX0_becomeNothing_17 ?_
  refine lk_aload_n 0 dX0_becomeNothing_20 rfl ?_
  refine lk_iconst (v := (-1)) dX0_becomeNothing_21 (by decide) ?_
  refine lk_put 0 4 tyX0 (ty := tyX0 4) [(a, .inr (0, [.int 0, .int (-1), .int (-1), .int (-1), .int (-1), .int 0]))] tyX0_ok nmX0 rfl lc_cX0 (by decide) (lc_in 144 (by decide +kernel) rfl) rfl (tyX0_ok 4 (by decide)) rfl rfl (Nat.le_of_ble_eq_true rfl) rfl dX0_becomeNothing_22 ?_
  refine lk_aload_n 0 dX0_becomeNothing_25 rfl ?_
  refine lk_iconst (v := 0) dX0_becomeNothing_26 (by decide) ?_
  refine lk_put 0 5 tyX0 (ty := tyX0 5) [(a, .inr (0, [.int 0, .int (-1), .int (-1), .int (-1), .int (-1), .int 0]))] tyX0_ok nmX0 rfl lc_cX0 (by decide) (lc_in 147 (by decide +kernel) rfl) rfl (tyX0_ok 5 (by decide)) rfl rfl (Nat.le_of_ble_eq_true rfl) rfl dX0_becomeNothing_27 ?_
  exact lk_vret () hR rfl dX0_becomeNothing_30
def k_LX0 (_ : lk_E) (a : Nat) (_ : Unit) : va_W := [(a, k_it)]
theorem k_X0 (l : Launch) (E : lk_E) (a : Nat) : lk_M l E yX0_init cX0_init 1 { frames := 1, cells := 0, slots := 0, locals := 20 } a (.inr (0, [.int 0, .int 0, .int 0, .int 0, .int 0, .int 0])) (k_LX0 E a) 0 0 := by
  refine lk_entry (by decide) (by decide) (fun Γ hR hin => ?_)
  refine lk_aload_n 0 dX0_init_0 rfl ?_
  refine lk_obj hR.2.2.2.2 (lc_in 128 (by decide +kernel) rfl) (Nat.le_of_ble_eq_true rfl) (Nat.le_of_ble_eq_true rfl) dX0_init_1 ?_
  refine lk_aload_n 0 dX0_init_4 rfl ?_
  refine lk_callV [] (k_X0_becomeNothing l E a) rfl hR.2.2.2.1 hR.2.2.2.2 mt_X0_becomeNothing rfl (lc_in 129 (by decide +kernel) rfl) (Nat.le_of_ble_eq_true rfl) ⟨⟨rfl, rfl⟩, (Nat.le_of_ble_eq_true rfl), (Nat.le_of_ble_eq_true rfl)⟩ ⟨(Nat.le_of_ble_eq_true rfl), (Nat.le_of_ble_eq_true rfl)⟩ dX0_init_5 (fun _ => ?_)
  refine lk_ws [(a, .inr (0, [.int 0, .int (-1), .int (-1), .int (-1), .int (-1), .int 0]))] rfl ?_
  exact lk_vret () hR rfl dX0_init_8
def k_LX1 (E : lk_E) (a q : Nat) : va_W := [(a, .inr (1, [.ref q, .int 0])), (q, .inl (E.2.1, 6, .inl (fun _ => 0)))]
theorem k_X1 (l : Launch) (E : lk_E) (a : Nat) : lk_M l E yX1_init cX1_init 1 { frames := 1, cells := 1, slots := 6, locals := 20 } a (.inr (1, [.null, .int 0])) (k_LX1 E a) 1 6 := by
  refine lk_entry (by decide) (by decide) (fun Γ hR hin => ?_)
  refine lk_aload_n 0 dX1_init_0 rfl ?_
  refine lk_obj hR.2.2.2.2 (lc_in 103 (by decide +kernel) rfl) (Nat.le_of_ble_eq_true rfl) (Nat.le_of_ble_eq_true rfl) dX1_init_1 ?_
  refine lk_aload_n 0 dX1_init_4 rfl ?_
  refine lk_bipush (v := 6) dX1_init_5 (by decide) ?_
  refine lk_newI 6 hR.2.2.2.2 rfl (by omega) (Nat.le_of_ble_eq_true rfl) (Nat.le_of_ble_eq_true rfl) dX1_init_7 (fun q0 => ?_)
  refine lk_ws [(a, .inr (1, [.null, .int 0])), (q0, .inl (E.2.1, 6, .inl (fun _ => 0)))] rfl ?_
  refine lk_kn 1 6 rfl rfl ?_
  refine lk_putF 0 0 tyX1 (ty := tyX1 0) [(a, .inr (1, [.ref q0, .int 0])), (q0, .inl (E.2.1, 6, .inl (fun _ => 0)))] hin tyX1_ok nmX1 rfl lc_cX1 (by decide) (lc_in 104 (by decide +kernel) rfl) rfl rfl (tyX1_ok 0 (by decide)) rfl rfl (Nat.le_of_ble_eq_true rfl) rfl dX1_init_9 ?_
  exact lk_vret q0 hR rfl dX1_init_12
abbrev k_lim : Nat → Int32 := upd (upd (upd (upd (fun _ => 0) 0 10) 1 40) 2 2) 3 5
abbrev k_S3 := (Nat × Nat × Nat × Nat) × (Nat → Nat)
def k_W (E : lk_E) (a : Nat) (z : k_S3) (i : Nat) : va_W := [(a, .inr (3, [.ref z.1.1, .ref z.1.2.1, .ref z.1.2.2.1, .ref z.1.2.2.2, .int 0, .int 0, .int 0, .int 0, .int 0, .int 0])), (z.1.1, .inl (E.2.1, 4, .inl k_lim)), (z.1.2.1, .inl (E.2.1, 6, .inl (fun _ => 0))), (z.1.2.2.1, .inl (E.2.2, 24, .inr (.inr (.inr (.inr (fun j => if j < i then some (z.2 j) else none)))))), (z.1.2.2.2, .inl (E.2.1, 4, .inl (fun _ => 0)))] ++ (List.range i).map (fun j => (z.2 j, k_it))
def k_LX3 (E : lk_E) (a : Nat) (z : k_S3) : va_W := k_W E a z 24
theorem k_W_len (E : lk_E) (a : Nat) (z : k_S3) (i : Nat) : (k_W E a z i).length = 5 + i := by
  unfold k_W
  simp
  omega
theorem k_W_next (E : lk_E) (a : Nat) (z : k_S3) (i q : Nat) : (k_W E a z i ++ [(q, k_it)]).set 3 (z.1.2.2.1, .inl (E.2.2, 24, .inr (.inr (.inr (.inr (va_up (fun j => if j < i then some (z.2 j) else none) i (some q))))))) = k_W E a (z.1, fun j => if j = i then q else z.2 j) (i + 1) := by
  have e1 : va_up (fun j => if j < i then some (z.2 j) else none) i (some q) = (fun j => if j < i + 1 then some (if j = i then q else z.2 j) else none) := by
    funext j
    unfold va_up
    by_cases h : j = i
    · have h1 : j < i + 1 := by omega
      simp [h]
    · by_cases h2 : j < i
      · have h1 : j < i + 1 := by omega
        simp [h, h2, h1]
      · have h1 : ¬ j < i + 1 := by omega
        simp [h, h2, h1]
  have e2 : (List.range i).map (fun j => (z.2 j, k_it)) ++ [(q, k_it)] = (List.range (i + 1)).map (fun j => ((if j = i then q else z.2 j), k_it)) := by
    rw [List.range_succ, List.map_append]
    congr 1
    · apply List.map_congr_left
      intro j hj
      have : j < i := List.mem_range.mp hj
      rw [if_neg (by omega)]
    · simp
  rw [e1]
  unfold k_W
  rw [List.append_assoc, e2]
  rfl
theorem k_X3_loop (l : Launch) (E : lk_E) (a : Nat) {Γ : lc_Γ} (hR : lk_Ret E Γ l { frames := 2, cells := 28, slots := 182, locals := 40 } a (k_LX3 E a) 28 182) (hin : (lc_γmeth Γ).name = "<init>") : ∀ (f i : Nat) (z : k_S3), i + f = 24 → lk_V E Γ cX3_init 2 RX3 55 [(1, .int (nI i)), (0, .ref a)] [] (k_W E a z i) (4 + i) (38 + 6 * i) := by
  intro f
  have hget : ∀ (z : k_S3) (i : Nat), (k_W E a z i)[0]? = some (a, .inr (3, [.ref z.1.1, .ref z.1.2.1, .ref z.1.2.2.1, .ref z.1.2.2.2, .int 0, .int 0, .int 0, .int 0, .int 0, .int 0])) := fun _ _ => rfl
  have harr : ∀ (z : k_S3) (i : Nat), (k_W E a z i)[3]? = some (z.1.2.2.1, .inl (E.2.2, 24, .inr (.inr (.inr (.inr (fun j => if j < i then some (z.2 j) else none)))))) := fun _ _ => rfl
  induction f with
  | zero =>
    intro i z hi
    have hi : i = 24 := by omega
    subst hi
    refine lk_iload_n 0 dX3_init_55 rfl ?_
    refine lk_aload_n 1 dX3_init_56 rfl ?_
    refine lk_get 0 2 (hget z 24) lc_cX3 (by decide) rfl (lc_in 166 (by decide +kernel) rfl) dX3_init_57 ?_
    refine lk_len 3 (harr z 24) dX3_init_60 ?_
    refine lk_icmp_ge 83 dX3_init_61 (by omega) (fun _ => ?_) (fun h => absurd (Int32.le_refl _) h)
    exact lk_vret z hR rfl dX3_init_83
  | succ f ih =>
    intro i z hi
    refine lk_iload_n 0 dX3_init_55 rfl ?_
    refine lk_aload_n 1 dX3_init_56 rfl ?_
    refine lk_get 0 2 (hget z i) lc_cX3 (by decide) rfl (lc_in 166 (by decide +kernel) rfl) dX3_init_57 ?_
    refine lk_len 3 (harr z i) dX3_init_60 ?_
    refine lk_icmp_ge 83 dX3_init_61 (by omega) (fun h => absurd h (nI_ge (by omega) (by omega))) (fun _ => ?_)
    refine lk_aload_n 1 dX3_init_64 rfl ?_
    refine lk_get 0 2 (hget z i) lc_cX3 (by decide) rfl (lc_in 166 (by decide +kernel) rfl) dX3_init_65 ?_
    refine lk_iload_n 0 dX3_init_68 rfl ?_
    refine lk_new tyX0 [.int 0, .int 0, .int 0, .int 0, .int 0, .int 0] hR.2.2.2.2 lc_cX0 tyX0_ok (lc_in 122 (by decide +kernel) rfl) (lc_in 124 (by decide +kernel) rfl) (lc_in 84 (by decide +kernel) rfl) (fun j hj => by
    match j, hj with
    | 0, _ => rfl
    | 1, _ => rfl
    | 2, _ => rfl
    | 3, _ => rfl
    | 4, _ => rfl
    | 5, _ => rfl
    | j + 6, h => exact absurd h (by omega)) (by show 4 + i + 1 ≤ 28; omega) (by show 38 + 6 * i + 6 ≤ 182; omega) dX3_init_69 (fun q => ?_)
    refine lk_dup dX3_init_72 rfl ?_
    refine lk_callI (k_W E a z i) (k_X0 l E q) rfl hR.2.2.2.1 hR.2.2.2.2 mi_X0 rfl ml_X3_27 (Nat.le_of_ble_eq_true rfl) ⟨⟨rfl, rfl⟩, (Nat.le_of_ble_eq_true rfl), (Nat.le_of_ble_eq_true rfl)⟩ ⟨by show 4 + i + 1 + 0 ≤ 28; omega, by show 38 + 6 * i + 6 + 0 ≤ 182; omega⟩ dX3_init_73 (fun _ => ?_)
    have hl3 : (k_W E a z i ++ [(q, k_it)])[3]? = some (z.1.2.2.1, .inl (E.2.2, 24, .inr (.inr (.inr (.inr (fun j => if j < i then some (z.2 j) else none)))))) := rfl
    have hlq : (k_W E a z i ++ [(q, k_it)])[5 + i]? = some (q, k_it) := by
      rw [List.getElem?_append_right (by rw [k_W_len]; omega), k_W_len, Nat.sub_self]
      rfl
    refine lk_ast 3 (5 + i) i (k_W E a (z.1, fun j => if j = i then q else z.2 j) (i + 1)) hl3 hlq rfl (by omega) (by omega) (k_W_next E a z i q) dX3_init_76 ?_
    refine lk_iinc 0 (nI (i + 1)) [(1, .int (nI (i + 1))), (0, .ref a)] dX3_init_77 rfl (nI_1 i) (by decide) rfl ?_
    refine lk_goto 55 dX3_init_80 (by omega) ?_
    refine lk_kn (4 + (i + 1)) (38 + 6 * (i + 1)) (by omega) (by omega) ?_
    exact ih (i + 1) (z.1, fun j => if j = i then q else z.2 j) (by omega)
theorem k_X3 (l : Launch) (E : lk_E) (a : Nat) : lk_M l E yX3_init cX3_init 2 { frames := 2, cells := 28, slots := 182, locals := 40 } a (.inr (3, [.null, .null, .null, .null, .int 0, .int 0, .int 0, .int 0, .int 0, .int 0])) (k_LX3 E a) 28 182 := by
  refine lk_entry (by decide) (by decide) (fun Γ hR hin => ?_)
  refine lk_aload_n 0 dX3_init_0 rfl ?_
  refine lk_obj hR.2.2.2.2 (lc_in 121 (by decide +kernel) rfl) (Nat.le_of_ble_eq_true rfl) (Nat.le_of_ble_eq_true rfl) dX3_init_1 ?_
  refine lk_aload_n 0 dX3_init_4 rfl ?_
  refine lk_iconst (v := 4) dX3_init_5 (by decide) ?_
  refine lk_newI 4 hR.2.2.2.2 rfl (by omega) (Nat.le_of_ble_eq_true rfl) (Nat.le_of_ble_eq_true rfl) dX3_init_6 (fun q0 => ?_)
  refine lk_ws [(a, .inr (3, [.null, .null, .null, .null, .int 0, .int 0, .int 0, .int 0, .int 0, .int 0])), (q0, .inl (E.2.1, 4, .inl (fun _ => 0)))] rfl ?_
  refine lk_kn 1 4 rfl rfl ?_
  refine lk_dup dX3_init_8 rfl ?_
  refine lk_iconst (v := 0) dX3_init_9 (by decide) ?_
  refine lk_bipush (v := 10) dX3_init_10 (by decide) ?_
  refine lk_iast 1 0 [(a, .inr (3, [.null, .null, .null, .null, .int 0, .int 0, .int 0, .int 0, .int 0, .int 0])), (q0, .inl (E.2.1, 4, .inl (upd (fun _ => 0) 0 10)))] rfl rfl (by omega) (by omega) rfl dX3_init_12 ?_
  refine lk_dup dX3_init_13 rfl ?_
  refine lk_iconst (v := 1) dX3_init_14 (by decide) ?_
  refine lk_bipush (v := 40) dX3_init_15 (by decide) ?_
  refine lk_iast 1 1 [(a, .inr (3, [.null, .null, .null, .null, .int 0, .int 0, .int 0, .int 0, .int 0, .int 0])), (q0, .inl (E.2.1, 4, .inl (upd (upd (fun _ => 0) 0 10) 1 40)))] rfl rfl (by omega) (by omega) rfl dX3_init_17 ?_
  refine lk_dup dX3_init_18 rfl ?_
  refine lk_iconst (v := 2) dX3_init_19 (by decide) ?_
  refine lk_iconst (v := 2) dX3_init_20 (by decide) ?_
  refine lk_iast 1 2 [(a, .inr (3, [.null, .null, .null, .null, .int 0, .int 0, .int 0, .int 0, .int 0, .int 0])), (q0, .inl (E.2.1, 4, .inl (upd (upd (upd (fun _ => 0) 0 10) 1 40) 2 2)))] rfl rfl (by omega) (by omega) rfl dX3_init_21 ?_
  refine lk_dup dX3_init_22 rfl ?_
  refine lk_iconst (v := 3) dX3_init_23 (by decide) ?_
  refine lk_iconst (v := 5) dX3_init_24 (by decide) ?_
  refine lk_iast 1 3 [(a, .inr (3, [.null, .null, .null, .null, .int 0, .int 0, .int 0, .int 0, .int 0, .int 0])), (q0, .inl (E.2.1, 4, .inl (upd (upd (upd (upd (fun _ => 0) 0 10) 1 40) 2 2) 3 5)))] rfl rfl (by omega) (by omega) rfl dX3_init_25 ?_
  refine lk_putF 0 0 tyX3 (ty := tyX3 0) [(a, .inr (3, [.ref q0, .null, .null, .null, .int 0, .int 0, .int 0, .int 0, .int 0, .int 0])), (q0, .inl (E.2.1, 4, .inl (upd (upd (upd (upd (fun _ => 0) 0 10) 1 40) 2 2) 3 5)))] hin tyX3_ok nmX3 rfl lc_cX3 (by decide) (lc_in 163 (by decide +kernel) rfl) rfl rfl (tyX3_ok 0 (by decide)) rfl rfl (Nat.le_of_ble_eq_true rfl) rfl dX3_init_26 ?_
  refine lk_aload_n 0 dX3_init_29 rfl ?_
  refine lk_bipush (v := 6) dX3_init_30 (by decide) ?_
  refine lk_newI 6 hR.2.2.2.2 rfl (by omega) (Nat.le_of_ble_eq_true rfl) (Nat.le_of_ble_eq_true rfl) dX3_init_32 (fun q1 => ?_)
  refine lk_ws [(a, .inr (3, [.ref q0, .null, .null, .null, .int 0, .int 0, .int 0, .int 0, .int 0, .int 0])), (q0, .inl (E.2.1, 4, .inl (upd (upd (upd (upd (fun _ => 0) 0 10) 1 40) 2 2) 3 5))), (q1, .inl (E.2.1, 6, .inl (fun _ => 0)))] rfl ?_
  refine lk_kn 2 10 rfl rfl ?_
  refine lk_putF 0 1 tyX3 (ty := tyX3 1) [(a, .inr (3, [.ref q0, .ref q1, .null, .null, .int 0, .int 0, .int 0, .int 0, .int 0, .int 0])), (q0, .inl (E.2.1, 4, .inl (upd (upd (upd (upd (fun _ => 0) 0 10) 1 40) 2 2) 3 5))), (q1, .inl (E.2.1, 6, .inl (fun _ => 0)))] hin tyX3_ok nmX3 rfl lc_cX3 (by decide) (lc_in 165 (by decide +kernel) rfl) rfl rfl (tyX3_ok 1 (by decide)) rfl rfl (Nat.le_of_ble_eq_true rfl) rfl dX3_init_34 ?_
  refine lk_aload_n 0 dX3_init_37 rfl ?_
  refine lk_bipush (v := 24) dX3_init_38 (by decide) ?_
  refine lk_newO 24 hR.2.2.2.2 (lc_in 122 (by decide +kernel) rfl) rfl (by omega) (Nat.le_of_ble_eq_true rfl) (Nat.le_of_ble_eq_true rfl) dX3_init_40 (fun q2 => ?_)
  refine lk_ws [(a, .inr (3, [.ref q0, .ref q1, .null, .null, .int 0, .int 0, .int 0, .int 0, .int 0, .int 0])), (q0, .inl (E.2.1, 4, .inl (upd (upd (upd (upd (fun _ => 0) 0 10) 1 40) 2 2) 3 5))), (q1, .inl (E.2.1, 6, .inl (fun _ => 0))), (q2, .inl (E.2.2, 24, .inr (.inr (.inr (.inr (fun _ => none))))))] rfl ?_
  refine lk_kn 3 34 rfl rfl ?_
  refine lk_putF 0 2 tyX3 (ty := tyX3 2) [(a, .inr (3, [.ref q0, .ref q1, .ref q2, .null, .int 0, .int 0, .int 0, .int 0, .int 0, .int 0])), (q0, .inl (E.2.1, 4, .inl (upd (upd (upd (upd (fun _ => 0) 0 10) 1 40) 2 2) 3 5))), (q1, .inl (E.2.1, 6, .inl (fun _ => 0))), (q2, .inl (E.2.2, 24, .inr (.inr (.inr (.inr (fun _ => none))))))] hin tyX3_ok nmX3 rfl lc_cX3 (by decide) (lc_in 166 (by decide +kernel) rfl) rfl rfl (tyX3_ok 2 (by decide)) rfl rfl (Nat.le_of_ble_eq_true rfl) rfl dX3_init_43 ?_
  refine lk_aload_n 0 dX3_init_46 rfl ?_
  refine lk_iconst (v := 4) dX3_init_47 (by decide) ?_
  refine lk_newI 4 hR.2.2.2.2 rfl (by omega) (Nat.le_of_ble_eq_true rfl) (Nat.le_of_ble_eq_true rfl) dX3_init_48 (fun q3 => ?_)
  refine lk_ws [(a, .inr (3, [.ref q0, .ref q1, .ref q2, .null, .int 0, .int 0, .int 0, .int 0, .int 0, .int 0])), (q0, .inl (E.2.1, 4, .inl (upd (upd (upd (upd (fun _ => 0) 0 10) 1 40) 2 2) 3 5))), (q1, .inl (E.2.1, 6, .inl (fun _ => 0))), (q2, .inl (E.2.2, 24, .inr (.inr (.inr (.inr (fun _ => none)))))), (q3, .inl (E.2.1, 4, .inl (fun _ => 0)))] rfl ?_
  refine lk_kn 4 38 rfl rfl ?_
  refine lk_putF 0 3 tyX3 (ty := tyX3 3) [(a, .inr (3, [.ref q0, .ref q1, .ref q2, .ref q3, .int 0, .int 0, .int 0, .int 0, .int 0, .int 0])), (q0, .inl (E.2.1, 4, .inl (upd (upd (upd (upd (fun _ => 0) 0 10) 1 40) 2 2) 3 5))), (q1, .inl (E.2.1, 6, .inl (fun _ => 0))), (q2, .inl (E.2.2, 24, .inr (.inr (.inr (.inr (fun _ => none)))))), (q3, .inl (E.2.1, 4, .inl (fun _ => 0)))] hin tyX3_ok nmX3 rfl lc_cX3 (by decide) (lc_in 167 (by decide +kernel) rfl) rfl rfl (tyX3_ok 3 (by decide)) rfl rfl (Nat.le_of_ble_eq_true rfl) rfl dX3_init_50 ?_
  refine lk_ws (k_W E a ((q0, q1, q2, q3), fun _ => 0) 0) ?_ ?_
  · unfold k_W
    rfl
  refine lk_iconst (v := nI 0) dX3_init_53 (by decide) ?_
  refine lk_istore_n [(1, .int (nI 0)), (0, .ref a)] dX3_init_54 (by decide) rfl ?_
  exact k_X3_loop l E a hR hin 24 0 _ (by omega)
abbrev k_S2 := Nat × k_S3
def k_LX2 (E : lk_E) (a : Nat) (z : k_S2) : va_W := [(a, .inr (2, [.ref z.1, .int 0, .int 0]))] ++ k_LX3 E z.1 z.2
theorem k_X2 (l : Launch) (E : lk_E) (a : Nat) : lk_M l E yX2_init cX2_init 1 { frames := 3, cells := 29, slots := 192, locals := 61 } a (.inr (2, [.null, .int 0, .int 0])) (k_LX2 E a) 29 192 := by
  refine lk_entry (by decide) (by decide) (fun Γ hR hin => ?_)
  refine lk_aload_n 0 dX2_init_0 rfl ?_
  refine lk_obj hR.2.2.2.2 (lc_in 208 (by decide +kernel) rfl) (Nat.le_of_ble_eq_true rfl) (Nat.le_of_ble_eq_true rfl) dX2_init_1 ?_
  refine lk_aload_n 0 dX2_init_4 rfl ?_
  refine lk_new tyX3 [.null, .null, .null, .null, .int 0, .int 0, .int 0, .int 0, .int 0, .int 0] hR.2.2.2.2 lc_cX3 tyX3_ok (lc_in 209 (by decide +kernel) rfl) (lc_in 117 (by decide +kernel) rfl) (lc_in 83 (by decide +kernel) rfl) (fun j hj => by
    match j, hj with
    | 0, _ => rfl
    | 1, _ => rfl
    | 2, _ => rfl
    | 3, _ => rfl
    | 4, _ => rfl
    | 5, _ => rfl
    | 6, _ => rfl
    | 7, _ => rfl
    | 8, _ => rfl
    | 9, _ => rfl
    | j + 10, h => exact absurd h (by omega)) (Nat.le_of_ble_eq_true rfl) (Nat.le_of_ble_eq_true rfl) dX2_init_5 (fun q0 => ?_)
  refine lk_kn 1 10 rfl rfl ?_
  refine lk_dup dX2_init_8 rfl ?_
  refine lk_callI [(a, .inr (2, [.null, .int 0, .int 0]))] (k_X3 l E q0) rfl hR.2.2.2.1 hR.2.2.2.2 mi_X3 rfl ml_X2_11 (Nat.le_of_ble_eq_true rfl) ⟨⟨rfl, rfl⟩, (Nat.le_of_ble_eq_true rfl), (Nat.le_of_ble_eq_true rfl)⟩ ⟨(Nat.le_of_ble_eq_true rfl), (Nat.le_of_ble_eq_true rfl)⟩ dX2_init_9 (fun g0 => ?_)
  refine lk_kn 29 192 rfl rfl ?_
  refine lk_putF 0 0 tyX2 (ty := tyX2 0) ([(a, .inr (2, [.ref q0, .int 0, .int 0]))] ++ k_LX3 E q0 g0) hin tyX2_ok nmX2 rfl lc_cX2 (by decide) (lc_in 211 (by decide +kernel) rfl) rfl rfl (tyX2_ok 0 (by decide)) rfl rfl (Nat.le_of_ble_eq_true rfl) rfl dX2_init_12 ?_
  exact lk_vret (q0, g0) hR rfl dX2_init_15
abbrev k_S4 := (Nat × Nat) × (Nat × k_S3) × (Nat × k_S2)
def k_LX4 (E : lk_E) (a : Nat) (z : k_S4) : va_W := [(a, .inr (4, [.ref z.1.1, .ref z.2.1.1, .ref z.2.2.1, .int 0]))] ++ k_LX1 E z.1.1 z.1.2 ++ k_LX3 E z.2.1.1 z.2.1.2 ++ k_LX2 E z.2.2.1 z.2.2.2
theorem k_X4 (l : Launch) (E : lk_E) (a : Nat) : lk_M l E yX4_init cX4_init 1 { frames := 4, cells := 61, slots := 395, locals := 81 } a (.inr (4, [.null, .null, .null, .int 0])) (k_LX4 E a) 61 395 := by
  refine lk_entry (by decide) (by decide) (fun Γ hR hin => ?_)
  refine lk_aload_n 0 dX4_init_0 rfl ?_
  refine lk_obj hR.2.2.2.2 (lc_in 95 (by decide +kernel) rfl) (Nat.le_of_ble_eq_true rfl) (Nat.le_of_ble_eq_true rfl) dX4_init_1 ?_
  refine lk_aload_n 0 dX4_init_4 rfl ?_
  refine lk_new tyX1 [.null, .int 0] hR.2.2.2.2 lc_cX1 tyX1_ok (lc_in 98 (by decide +kernel) rfl) (lc_in 99 (by decide +kernel) rfl) (lc_in 82 (by decide +kernel) rfl) (fun j hj => by
    match j, hj with
    | 0, _ => rfl
    | 1, _ => rfl
    | j + 2, h => exact absurd h (by omega)) (Nat.le_of_ble_eq_true rfl) (Nat.le_of_ble_eq_true rfl) dX4_init_5 (fun q0 => ?_)
  refine lk_kn 1 2 rfl rfl ?_
  refine lk_dup dX4_init_8 rfl ?_
  refine lk_callI [(a, .inr (4, [.null, .null, .null, .int 0]))] (k_X1 l E q0) rfl hR.2.2.2.1 hR.2.2.2.2 mi_X1 rfl ml_X4_9 (Nat.le_of_ble_eq_true rfl) ⟨⟨rfl, rfl⟩, (Nat.le_of_ble_eq_true rfl), (Nat.le_of_ble_eq_true rfl)⟩ ⟨(Nat.le_of_ble_eq_true rfl), (Nat.le_of_ble_eq_true rfl)⟩ dX4_init_9 (fun g0 => ?_)
  refine lk_kn 2 8 rfl rfl ?_
  refine lk_putF 0 0 tyX4 (ty := tyX4 0) ([(a, .inr (4, [.ref q0, .null, .null, .int 0]))] ++ k_LX1 E q0 g0) hin tyX4_ok nmX4 rfl lc_cX4 (by decide) (lc_in 221 (by decide +kernel) rfl) rfl rfl (tyX4_ok 0 (by decide)) rfl rfl (Nat.le_of_ble_eq_true rfl) rfl dX4_init_12 ?_
  refine lk_aload_n 0 dX4_init_15 rfl ?_
  refine lk_new tyX3 [.null, .null, .null, .null, .int 0, .int 0, .int 0, .int 0, .int 0, .int 0] hR.2.2.2.2 lc_cX3 tyX3_ok (lc_in 116 (by decide +kernel) rfl) (lc_in 117 (by decide +kernel) rfl) (lc_in 83 (by decide +kernel) rfl) (fun j hj => by
    match j, hj with
    | 0, _ => rfl
    | 1, _ => rfl
    | 2, _ => rfl
    | 3, _ => rfl
    | 4, _ => rfl
    | 5, _ => rfl
    | 6, _ => rfl
    | 7, _ => rfl
    | 8, _ => rfl
    | 9, _ => rfl
    | j + 10, h => exact absurd h (by omega)) (Nat.le_of_ble_eq_true rfl) (Nat.le_of_ble_eq_true rfl) dX4_init_16 (fun q1 => ?_)
  refine lk_kn 3 18 rfl rfl ?_
  refine lk_dup dX4_init_19 rfl ?_
  refine lk_callI ([(a, .inr (4, [.ref q0, .null, .null, .int 0]))] ++ k_LX1 E q0 g0) (k_X3 l E q1) rfl hR.2.2.2.1 hR.2.2.2.2 mi_X3 rfl ml_X4_18 (Nat.le_of_ble_eq_true rfl) ⟨⟨rfl, rfl⟩, (Nat.le_of_ble_eq_true rfl), (Nat.le_of_ble_eq_true rfl)⟩ ⟨(Nat.le_of_ble_eq_true rfl), (Nat.le_of_ble_eq_true rfl)⟩ dX4_init_20 (fun g1 => ?_)
  refine lk_kn 31 200 rfl rfl ?_
  refine lk_putF 0 1 tyX4 (ty := tyX4 1) (([(a, .inr (4, [.ref q0, .ref q1, .null, .int 0]))] ++ k_LX1 E q0 g0) ++ k_LX3 E q1 g1) hin tyX4_ok nmX4 rfl lc_cX4 (by decide) (lc_in 222 (by decide +kernel) rfl) rfl rfl (tyX4_ok 1 (by decide)) rfl rfl (Nat.le_of_ble_eq_true rfl) rfl dX4_init_23 ?_
  refine lk_aload_n 0 dX4_init_26 rfl ?_
  refine lk_new tyX2 [.null, .int 0, .int 0] hR.2.2.2.2 lc_cX2 tyX2_ok (lc_in 203 (by decide +kernel) rfl) (lc_in 204 (by decide +kernel) rfl) (lc_in 85 (by decide +kernel) rfl) (fun j hj => by
    match j, hj with
    | 0, _ => rfl
    | 1, _ => rfl
    | 2, _ => rfl
    | j + 3, h => exact absurd h (by omega)) (Nat.le_of_ble_eq_true rfl) (Nat.le_of_ble_eq_true rfl) dX4_init_27 (fun q2 => ?_)
  refine lk_kn 32 203 rfl rfl ?_
  refine lk_dup dX4_init_30 rfl ?_
  refine lk_callI (([(a, .inr (4, [.ref q0, .ref q1, .null, .int 0]))] ++ k_LX1 E q0 g0) ++ k_LX3 E q1 g1) (k_X2 l E q2) rfl hR.2.2.2.1 hR.2.2.2.2 mi_X2 rfl ml_X4_25 (Nat.le_of_ble_eq_true rfl) ⟨⟨rfl, rfl⟩, (Nat.le_of_ble_eq_true rfl), (Nat.le_of_ble_eq_true rfl)⟩ ⟨(Nat.le_of_ble_eq_true rfl), (Nat.le_of_ble_eq_true rfl)⟩ dX4_init_31 (fun g2 => ?_)
  refine lk_kn 61 395 rfl rfl ?_
  refine lk_putF 0 2 tyX4 (ty := tyX4 2) ((([(a, .inr (4, [.ref q0, .ref q1, .ref q2, .int 0]))] ++ k_LX1 E q0 g0) ++ k_LX3 E q1 g1) ++ k_LX2 E q2 g2) hin tyX4_ok nmX4 rfl lc_cX4 (by decide) (lc_in 223 (by decide +kernel) rfl) rfl rfl (tyX4_ok 2 (by decide)) rfl rfl (Nat.le_of_ble_eq_true rfl) rfl dX4_init_34 ?_
  exact lk_vret ((q0, g0), (q1, g1), (q2, g2)) hR rfl dX4_init_37
def k_LX5 (E : lk_E) (a : Nat) (g : Nat → Nat) : va_W := [(a, .inr (5, [.int 0, .ref (g 0), .int 0, .ref (g 1), .int 0, .int 0, .int 0, .int 0, .int 0, .int 0, .ref (g 2), .ref (g 3), .ref (g 4), .ref (g 5), .ref (g 6), .ref (g 7), .ref (g 8), .ref (g 9), .long 0, .ref (g 10), .int 0, .int 0, .long 0])), ((g 0), .inl (E.2.1, 6, .inl (fun _ => 0))), ((g 1), .inl (E.2.1, 6, .inl (fun _ => 0))), ((g 2), .inl (E.2.1, 4, .inl (upd (upd (upd (upd (fun _ => 0) 0 10) 1 40) 2 2) 3 5))), ((g 3), .inl (E.2.1, 24, .inl (fun _ => 0))), ((g 4), .inl (E.2.1, 24, .inl (fun _ => 0))), ((g 5), .inl (E.2.1, 24, .inl (fun _ => 0))), ((g 6), .inl (E.2.1, 24, .inl (fun _ => 0))), ((g 7), .inl (E.2.1, 24, .inl (fun _ => 0))), ((g 8), .inl (E.2.1, 24, .inl (fun _ => 0))), ((g 9), .inl (E.2.1, 4, .inl (fun _ => 0))), ((g 10), .inl (E.2.1, 148, .inl (fun _ => 0)))]
theorem k_X5 (l : Launch) (E : lk_E) (a : Nat) : lk_M l E yX5_init cX5_init 1 { frames := 1, cells := 11, slots := 312, locals := 20 } a (.inr (5, [.int 0, .null, .int 0, .null, .int 0, .int 0, .int 0, .int 0, .int 0, .int 0, .null, .null, .null, .null, .null, .null, .null, .null, .long 0, .null, .int 0, .int 0, .long 0])) (k_LX5 E a) 11 312 := by
  refine lk_entry (by decide) (by decide) (fun Γ hR hin => ?_)
  refine lk_aload_n 0 dX5_init_0 rfl ?_
  refine lk_obj hR.2.2.2.2 (lc_in 544 (by decide +kernel) rfl) (Nat.le_of_ble_eq_true rfl) (Nat.le_of_ble_eq_true rfl) dX5_init_1 ?_
  refine lk_aload_n 0 dX5_init_4 rfl ?_
  refine lk_bipush (v := 6) dX5_init_5 (by decide) ?_
  refine lk_newI 6 hR.2.2.2.2 rfl (by omega) (Nat.le_of_ble_eq_true rfl) (Nat.le_of_ble_eq_true rfl) dX5_init_7 (fun q0 => ?_)
  refine lk_ws [(a, .inr (5, [.int 0, .null, .int 0, .null, .int 0, .int 0, .int 0, .int 0, .int 0, .int 0, .null, .null, .null, .null, .null, .null, .null, .null, .long 0, .null, .int 0, .int 0, .long 0])), (q0, .inl (E.2.1, 6, .inl (fun _ => 0)))] rfl ?_
  refine lk_kn 1 6 rfl rfl ?_
  refine lk_putF 0 1 tyX5 (ty := tyX5 1) [(a, .inr (5, [.int 0, .ref q0, .int 0, .null, .int 0, .int 0, .int 0, .int 0, .int 0, .int 0, .null, .null, .null, .null, .null, .null, .null, .null, .long 0, .null, .int 0, .int 0, .long 0])), (q0, .inl (E.2.1, 6, .inl (fun _ => 0)))] hin tyX5_ok nmX5 rfl lc_cX5 (by decide) (lc_in 546 (by decide +kernel) rfl) rfl rfl (tyX5_ok 1 (by decide)) rfl rfl (Nat.le_of_ble_eq_true rfl) rfl dX5_init_9 ?_
  refine lk_aload_n 0 dX5_init_12 rfl ?_
  refine lk_bipush (v := 6) dX5_init_13 (by decide) ?_
  refine lk_newI 6 hR.2.2.2.2 rfl (by omega) (Nat.le_of_ble_eq_true rfl) (Nat.le_of_ble_eq_true rfl) dX5_init_15 (fun q1 => ?_)
  refine lk_ws [(a, .inr (5, [.int 0, .ref q0, .int 0, .null, .int 0, .int 0, .int 0, .int 0, .int 0, .int 0, .null, .null, .null, .null, .null, .null, .null, .null, .long 0, .null, .int 0, .int 0, .long 0])), (q0, .inl (E.2.1, 6, .inl (fun _ => 0))), (q1, .inl (E.2.1, 6, .inl (fun _ => 0)))] rfl ?_
  refine lk_kn 2 12 rfl rfl ?_
  refine lk_putF 0 3 tyX5 (ty := tyX5 3) [(a, .inr (5, [.int 0, .ref q0, .int 0, .ref q1, .int 0, .int 0, .int 0, .int 0, .int 0, .int 0, .null, .null, .null, .null, .null, .null, .null, .null, .long 0, .null, .int 0, .int 0, .long 0])), (q0, .inl (E.2.1, 6, .inl (fun _ => 0))), (q1, .inl (E.2.1, 6, .inl (fun _ => 0)))] hin tyX5_ok nmX5 rfl lc_cX5 (by decide) (lc_in 548 (by decide +kernel) rfl) rfl rfl (tyX5_ok 3 (by decide)) rfl rfl (Nat.le_of_ble_eq_true rfl) rfl dX5_init_17 ?_
  refine lk_aload_n 0 dX5_init_20 rfl ?_
  refine lk_iconst (v := 4) dX5_init_21 (by decide) ?_
  refine lk_newI 4 hR.2.2.2.2 rfl (by omega) (Nat.le_of_ble_eq_true rfl) (Nat.le_of_ble_eq_true rfl) dX5_init_22 (fun q2 => ?_)
  refine lk_ws [(a, .inr (5, [.int 0, .ref q0, .int 0, .ref q1, .int 0, .int 0, .int 0, .int 0, .int 0, .int 0, .null, .null, .null, .null, .null, .null, .null, .null, .long 0, .null, .int 0, .int 0, .long 0])), (q0, .inl (E.2.1, 6, .inl (fun _ => 0))), (q1, .inl (E.2.1, 6, .inl (fun _ => 0))), (q2, .inl (E.2.1, 4, .inl (fun _ => 0)))] rfl ?_
  refine lk_kn 3 16 rfl rfl ?_
  refine lk_putF 0 10 tyX5 (ty := tyX5 10) [(a, .inr (5, [.int 0, .ref q0, .int 0, .ref q1, .int 0, .int 0, .int 0, .int 0, .int 0, .int 0, .ref q2, .null, .null, .null, .null, .null, .null, .null, .long 0, .null, .int 0, .int 0, .long 0])), (q0, .inl (E.2.1, 6, .inl (fun _ => 0))), (q1, .inl (E.2.1, 6, .inl (fun _ => 0))), (q2, .inl (E.2.1, 4, .inl (fun _ => 0)))] hin tyX5_ok nmX5 rfl lc_cX5 (by decide) (lc_in 555 (by decide +kernel) rfl) rfl rfl (tyX5_ok 10 (by decide)) rfl rfl (Nat.le_of_ble_eq_true rfl) rfl dX5_init_24 ?_
  refine lk_aload_n 0 dX5_init_27 rfl ?_
  refine lk_bipush (v := 24) dX5_init_28 (by decide) ?_
  refine lk_newI 24 hR.2.2.2.2 rfl (by omega) (Nat.le_of_ble_eq_true rfl) (Nat.le_of_ble_eq_true rfl) dX5_init_30 (fun q3 => ?_)
  refine lk_ws [(a, .inr (5, [.int 0, .ref q0, .int 0, .ref q1, .int 0, .int 0, .int 0, .int 0, .int 0, .int 0, .ref q2, .null, .null, .null, .null, .null, .null, .null, .long 0, .null, .int 0, .int 0, .long 0])), (q0, .inl (E.2.1, 6, .inl (fun _ => 0))), (q1, .inl (E.2.1, 6, .inl (fun _ => 0))), (q2, .inl (E.2.1, 4, .inl (fun _ => 0))), (q3, .inl (E.2.1, 24, .inl (fun _ => 0)))] rfl ?_
  refine lk_kn 4 40 rfl rfl ?_
  refine lk_putF 0 11 tyX5 (ty := tyX5 11) [(a, .inr (5, [.int 0, .ref q0, .int 0, .ref q1, .int 0, .int 0, .int 0, .int 0, .int 0, .int 0, .ref q2, .ref q3, .null, .null, .null, .null, .null, .null, .long 0, .null, .int 0, .int 0, .long 0])), (q0, .inl (E.2.1, 6, .inl (fun _ => 0))), (q1, .inl (E.2.1, 6, .inl (fun _ => 0))), (q2, .inl (E.2.1, 4, .inl (fun _ => 0))), (q3, .inl (E.2.1, 24, .inl (fun _ => 0)))] hin tyX5_ok nmX5 rfl lc_cX5 (by decide) (lc_in 556 (by decide +kernel) rfl) rfl rfl (tyX5_ok 11 (by decide)) rfl rfl (Nat.le_of_ble_eq_true rfl) rfl dX5_init_32 ?_
  refine lk_aload_n 0 dX5_init_35 rfl ?_
  refine lk_bipush (v := 24) dX5_init_36 (by decide) ?_
  refine lk_newI 24 hR.2.2.2.2 rfl (by omega) (Nat.le_of_ble_eq_true rfl) (Nat.le_of_ble_eq_true rfl) dX5_init_38 (fun q4 => ?_)
  refine lk_ws [(a, .inr (5, [.int 0, .ref q0, .int 0, .ref q1, .int 0, .int 0, .int 0, .int 0, .int 0, .int 0, .ref q2, .ref q3, .null, .null, .null, .null, .null, .null, .long 0, .null, .int 0, .int 0, .long 0])), (q0, .inl (E.2.1, 6, .inl (fun _ => 0))), (q1, .inl (E.2.1, 6, .inl (fun _ => 0))), (q2, .inl (E.2.1, 4, .inl (fun _ => 0))), (q3, .inl (E.2.1, 24, .inl (fun _ => 0))), (q4, .inl (E.2.1, 24, .inl (fun _ => 0)))] rfl ?_
  refine lk_kn 5 64 rfl rfl ?_
  refine lk_putF 0 12 tyX5 (ty := tyX5 12) [(a, .inr (5, [.int 0, .ref q0, .int 0, .ref q1, .int 0, .int 0, .int 0, .int 0, .int 0, .int 0, .ref q2, .ref q3, .ref q4, .null, .null, .null, .null, .null, .long 0, .null, .int 0, .int 0, .long 0])), (q0, .inl (E.2.1, 6, .inl (fun _ => 0))), (q1, .inl (E.2.1, 6, .inl (fun _ => 0))), (q2, .inl (E.2.1, 4, .inl (fun _ => 0))), (q3, .inl (E.2.1, 24, .inl (fun _ => 0))), (q4, .inl (E.2.1, 24, .inl (fun _ => 0)))] hin tyX5_ok nmX5 rfl lc_cX5 (by decide) (lc_in 557 (by decide +kernel) rfl) rfl rfl (tyX5_ok 12 (by decide)) rfl rfl (Nat.le_of_ble_eq_true rfl) rfl dX5_init_40 ?_
  refine lk_aload_n 0 dX5_init_43 rfl ?_
  refine lk_bipush (v := 24) dX5_init_44 (by decide) ?_
  refine lk_newI 24 hR.2.2.2.2 rfl (by omega) (Nat.le_of_ble_eq_true rfl) (Nat.le_of_ble_eq_true rfl) dX5_init_46 (fun q5 => ?_)
  refine lk_ws [(a, .inr (5, [.int 0, .ref q0, .int 0, .ref q1, .int 0, .int 0, .int 0, .int 0, .int 0, .int 0, .ref q2, .ref q3, .ref q4, .null, .null, .null, .null, .null, .long 0, .null, .int 0, .int 0, .long 0])), (q0, .inl (E.2.1, 6, .inl (fun _ => 0))), (q1, .inl (E.2.1, 6, .inl (fun _ => 0))), (q2, .inl (E.2.1, 4, .inl (fun _ => 0))), (q3, .inl (E.2.1, 24, .inl (fun _ => 0))), (q4, .inl (E.2.1, 24, .inl (fun _ => 0))), (q5, .inl (E.2.1, 24, .inl (fun _ => 0)))] rfl ?_
  refine lk_kn 6 88 rfl rfl ?_
  refine lk_putF 0 13 tyX5 (ty := tyX5 13) [(a, .inr (5, [.int 0, .ref q0, .int 0, .ref q1, .int 0, .int 0, .int 0, .int 0, .int 0, .int 0, .ref q2, .ref q3, .ref q4, .ref q5, .null, .null, .null, .null, .long 0, .null, .int 0, .int 0, .long 0])), (q0, .inl (E.2.1, 6, .inl (fun _ => 0))), (q1, .inl (E.2.1, 6, .inl (fun _ => 0))), (q2, .inl (E.2.1, 4, .inl (fun _ => 0))), (q3, .inl (E.2.1, 24, .inl (fun _ => 0))), (q4, .inl (E.2.1, 24, .inl (fun _ => 0))), (q5, .inl (E.2.1, 24, .inl (fun _ => 0)))] hin tyX5_ok nmX5 rfl lc_cX5 (by decide) (lc_in 558 (by decide +kernel) rfl) rfl rfl (tyX5_ok 13 (by decide)) rfl rfl (Nat.le_of_ble_eq_true rfl) rfl dX5_init_48 ?_
  refine lk_aload_n 0 dX5_init_51 rfl ?_
  refine lk_bipush (v := 24) dX5_init_52 (by decide) ?_
  refine lk_newI 24 hR.2.2.2.2 rfl (by omega) (Nat.le_of_ble_eq_true rfl) (Nat.le_of_ble_eq_true rfl) dX5_init_54 (fun q6 => ?_)
  refine lk_ws [(a, .inr (5, [.int 0, .ref q0, .int 0, .ref q1, .int 0, .int 0, .int 0, .int 0, .int 0, .int 0, .ref q2, .ref q3, .ref q4, .ref q5, .null, .null, .null, .null, .long 0, .null, .int 0, .int 0, .long 0])), (q0, .inl (E.2.1, 6, .inl (fun _ => 0))), (q1, .inl (E.2.1, 6, .inl (fun _ => 0))), (q2, .inl (E.2.1, 4, .inl (fun _ => 0))), (q3, .inl (E.2.1, 24, .inl (fun _ => 0))), (q4, .inl (E.2.1, 24, .inl (fun _ => 0))), (q5, .inl (E.2.1, 24, .inl (fun _ => 0))), (q6, .inl (E.2.1, 24, .inl (fun _ => 0)))] rfl ?_
  refine lk_kn 7 112 rfl rfl ?_
  refine lk_putF 0 14 tyX5 (ty := tyX5 14) [(a, .inr (5, [.int 0, .ref q0, .int 0, .ref q1, .int 0, .int 0, .int 0, .int 0, .int 0, .int 0, .ref q2, .ref q3, .ref q4, .ref q5, .ref q6, .null, .null, .null, .long 0, .null, .int 0, .int 0, .long 0])), (q0, .inl (E.2.1, 6, .inl (fun _ => 0))), (q1, .inl (E.2.1, 6, .inl (fun _ => 0))), (q2, .inl (E.2.1, 4, .inl (fun _ => 0))), (q3, .inl (E.2.1, 24, .inl (fun _ => 0))), (q4, .inl (E.2.1, 24, .inl (fun _ => 0))), (q5, .inl (E.2.1, 24, .inl (fun _ => 0))), (q6, .inl (E.2.1, 24, .inl (fun _ => 0)))] hin tyX5_ok nmX5 rfl lc_cX5 (by decide) (lc_in 559 (by decide +kernel) rfl) rfl rfl (tyX5_ok 14 (by decide)) rfl rfl (Nat.le_of_ble_eq_true rfl) rfl dX5_init_56 ?_
  refine lk_aload_n 0 dX5_init_59 rfl ?_
  refine lk_bipush (v := 24) dX5_init_60 (by decide) ?_
  refine lk_newI 24 hR.2.2.2.2 rfl (by omega) (Nat.le_of_ble_eq_true rfl) (Nat.le_of_ble_eq_true rfl) dX5_init_62 (fun q7 => ?_)
  refine lk_ws [(a, .inr (5, [.int 0, .ref q0, .int 0, .ref q1, .int 0, .int 0, .int 0, .int 0, .int 0, .int 0, .ref q2, .ref q3, .ref q4, .ref q5, .ref q6, .null, .null, .null, .long 0, .null, .int 0, .int 0, .long 0])), (q0, .inl (E.2.1, 6, .inl (fun _ => 0))), (q1, .inl (E.2.1, 6, .inl (fun _ => 0))), (q2, .inl (E.2.1, 4, .inl (fun _ => 0))), (q3, .inl (E.2.1, 24, .inl (fun _ => 0))), (q4, .inl (E.2.1, 24, .inl (fun _ => 0))), (q5, .inl (E.2.1, 24, .inl (fun _ => 0))), (q6, .inl (E.2.1, 24, .inl (fun _ => 0))), (q7, .inl (E.2.1, 24, .inl (fun _ => 0)))] rfl ?_
  refine lk_kn 8 136 rfl rfl ?_
  refine lk_putF 0 15 tyX5 (ty := tyX5 15) [(a, .inr (5, [.int 0, .ref q0, .int 0, .ref q1, .int 0, .int 0, .int 0, .int 0, .int 0, .int 0, .ref q2, .ref q3, .ref q4, .ref q5, .ref q6, .ref q7, .null, .null, .long 0, .null, .int 0, .int 0, .long 0])), (q0, .inl (E.2.1, 6, .inl (fun _ => 0))), (q1, .inl (E.2.1, 6, .inl (fun _ => 0))), (q2, .inl (E.2.1, 4, .inl (fun _ => 0))), (q3, .inl (E.2.1, 24, .inl (fun _ => 0))), (q4, .inl (E.2.1, 24, .inl (fun _ => 0))), (q5, .inl (E.2.1, 24, .inl (fun _ => 0))), (q6, .inl (E.2.1, 24, .inl (fun _ => 0))), (q7, .inl (E.2.1, 24, .inl (fun _ => 0)))] hin tyX5_ok nmX5 rfl lc_cX5 (by decide) (lc_in 560 (by decide +kernel) rfl) rfl rfl (tyX5_ok 15 (by decide)) rfl rfl (Nat.le_of_ble_eq_true rfl) rfl dX5_init_64 ?_
  refine lk_aload_n 0 dX5_init_67 rfl ?_
  refine lk_bipush (v := 24) dX5_init_68 (by decide) ?_
  refine lk_newI 24 hR.2.2.2.2 rfl (by omega) (Nat.le_of_ble_eq_true rfl) (Nat.le_of_ble_eq_true rfl) dX5_init_70 (fun q8 => ?_)
  refine lk_ws [(a, .inr (5, [.int 0, .ref q0, .int 0, .ref q1, .int 0, .int 0, .int 0, .int 0, .int 0, .int 0, .ref q2, .ref q3, .ref q4, .ref q5, .ref q6, .ref q7, .null, .null, .long 0, .null, .int 0, .int 0, .long 0])), (q0, .inl (E.2.1, 6, .inl (fun _ => 0))), (q1, .inl (E.2.1, 6, .inl (fun _ => 0))), (q2, .inl (E.2.1, 4, .inl (fun _ => 0))), (q3, .inl (E.2.1, 24, .inl (fun _ => 0))), (q4, .inl (E.2.1, 24, .inl (fun _ => 0))), (q5, .inl (E.2.1, 24, .inl (fun _ => 0))), (q6, .inl (E.2.1, 24, .inl (fun _ => 0))), (q7, .inl (E.2.1, 24, .inl (fun _ => 0))), (q8, .inl (E.2.1, 24, .inl (fun _ => 0)))] rfl ?_
  refine lk_kn 9 160 rfl rfl ?_
  refine lk_putF 0 16 tyX5 (ty := tyX5 16) [(a, .inr (5, [.int 0, .ref q0, .int 0, .ref q1, .int 0, .int 0, .int 0, .int 0, .int 0, .int 0, .ref q2, .ref q3, .ref q4, .ref q5, .ref q6, .ref q7, .ref q8, .null, .long 0, .null, .int 0, .int 0, .long 0])), (q0, .inl (E.2.1, 6, .inl (fun _ => 0))), (q1, .inl (E.2.1, 6, .inl (fun _ => 0))), (q2, .inl (E.2.1, 4, .inl (fun _ => 0))), (q3, .inl (E.2.1, 24, .inl (fun _ => 0))), (q4, .inl (E.2.1, 24, .inl (fun _ => 0))), (q5, .inl (E.2.1, 24, .inl (fun _ => 0))), (q6, .inl (E.2.1, 24, .inl (fun _ => 0))), (q7, .inl (E.2.1, 24, .inl (fun _ => 0))), (q8, .inl (E.2.1, 24, .inl (fun _ => 0)))] hin tyX5_ok nmX5 rfl lc_cX5 (by decide) (lc_in 561 (by decide +kernel) rfl) rfl rfl (tyX5_ok 16 (by decide)) rfl rfl (Nat.le_of_ble_eq_true rfl) rfl dX5_init_72 ?_
  refine lk_aload_n 0 dX5_init_75 rfl ?_
  refine lk_iconst (v := 4) dX5_init_76 (by decide) ?_
  refine lk_newI 4 hR.2.2.2.2 rfl (by omega) (Nat.le_of_ble_eq_true rfl) (Nat.le_of_ble_eq_true rfl) dX5_init_77 (fun q9 => ?_)
  refine lk_ws [(a, .inr (5, [.int 0, .ref q0, .int 0, .ref q1, .int 0, .int 0, .int 0, .int 0, .int 0, .int 0, .ref q2, .ref q3, .ref q4, .ref q5, .ref q6, .ref q7, .ref q8, .null, .long 0, .null, .int 0, .int 0, .long 0])), (q0, .inl (E.2.1, 6, .inl (fun _ => 0))), (q1, .inl (E.2.1, 6, .inl (fun _ => 0))), (q2, .inl (E.2.1, 4, .inl (fun _ => 0))), (q3, .inl (E.2.1, 24, .inl (fun _ => 0))), (q4, .inl (E.2.1, 24, .inl (fun _ => 0))), (q5, .inl (E.2.1, 24, .inl (fun _ => 0))), (q6, .inl (E.2.1, 24, .inl (fun _ => 0))), (q7, .inl (E.2.1, 24, .inl (fun _ => 0))), (q8, .inl (E.2.1, 24, .inl (fun _ => 0))), (q9, .inl (E.2.1, 4, .inl (fun _ => 0)))] rfl ?_
  refine lk_kn 10 164 rfl rfl ?_
  refine lk_putF 0 17 tyX5 (ty := tyX5 17) [(a, .inr (5, [.int 0, .ref q0, .int 0, .ref q1, .int 0, .int 0, .int 0, .int 0, .int 0, .int 0, .ref q2, .ref q3, .ref q4, .ref q5, .ref q6, .ref q7, .ref q8, .ref q9, .long 0, .null, .int 0, .int 0, .long 0])), (q0, .inl (E.2.1, 6, .inl (fun _ => 0))), (q1, .inl (E.2.1, 6, .inl (fun _ => 0))), (q2, .inl (E.2.1, 4, .inl (fun _ => 0))), (q3, .inl (E.2.1, 24, .inl (fun _ => 0))), (q4, .inl (E.2.1, 24, .inl (fun _ => 0))), (q5, .inl (E.2.1, 24, .inl (fun _ => 0))), (q6, .inl (E.2.1, 24, .inl (fun _ => 0))), (q7, .inl (E.2.1, 24, .inl (fun _ => 0))), (q8, .inl (E.2.1, 24, .inl (fun _ => 0))), (q9, .inl (E.2.1, 4, .inl (fun _ => 0)))] hin tyX5_ok nmX5 rfl lc_cX5 (by decide) (lc_in 562 (by decide +kernel) rfl) rfl rfl (tyX5_ok 17 (by decide)) rfl rfl (Nat.le_of_ble_eq_true rfl) rfl dX5_init_79 ?_
  refine lk_aload_n 0 dX5_init_82 rfl ?_
  refine lk_sipush (v := 148) dX5_init_83 (by decide) ?_
  refine lk_newI 148 hR.2.2.2.2 rfl (by omega) (Nat.le_of_ble_eq_true rfl) (Nat.le_of_ble_eq_true rfl) dX5_init_86 (fun q10 => ?_)
  refine lk_ws [(a, .inr (5, [.int 0, .ref q0, .int 0, .ref q1, .int 0, .int 0, .int 0, .int 0, .int 0, .int 0, .ref q2, .ref q3, .ref q4, .ref q5, .ref q6, .ref q7, .ref q8, .ref q9, .long 0, .null, .int 0, .int 0, .long 0])), (q0, .inl (E.2.1, 6, .inl (fun _ => 0))), (q1, .inl (E.2.1, 6, .inl (fun _ => 0))), (q2, .inl (E.2.1, 4, .inl (fun _ => 0))), (q3, .inl (E.2.1, 24, .inl (fun _ => 0))), (q4, .inl (E.2.1, 24, .inl (fun _ => 0))), (q5, .inl (E.2.1, 24, .inl (fun _ => 0))), (q6, .inl (E.2.1, 24, .inl (fun _ => 0))), (q7, .inl (E.2.1, 24, .inl (fun _ => 0))), (q8, .inl (E.2.1, 24, .inl (fun _ => 0))), (q9, .inl (E.2.1, 4, .inl (fun _ => 0))), (q10, .inl (E.2.1, 148, .inl (fun _ => 0)))] rfl ?_
  refine lk_kn 11 312 rfl rfl ?_
  refine lk_putF 0 19 tyX5 (ty := tyX5 19) [(a, .inr (5, [.int 0, .ref q0, .int 0, .ref q1, .int 0, .int 0, .int 0, .int 0, .int 0, .int 0, .ref q2, .ref q3, .ref q4, .ref q5, .ref q6, .ref q7, .ref q8, .ref q9, .long 0, .ref q10, .int 0, .int 0, .long 0])), (q0, .inl (E.2.1, 6, .inl (fun _ => 0))), (q1, .inl (E.2.1, 6, .inl (fun _ => 0))), (q2, .inl (E.2.1, 4, .inl (fun _ => 0))), (q3, .inl (E.2.1, 24, .inl (fun _ => 0))), (q4, .inl (E.2.1, 24, .inl (fun _ => 0))), (q5, .inl (E.2.1, 24, .inl (fun _ => 0))), (q6, .inl (E.2.1, 24, .inl (fun _ => 0))), (q7, .inl (E.2.1, 24, .inl (fun _ => 0))), (q8, .inl (E.2.1, 24, .inl (fun _ => 0))), (q9, .inl (E.2.1, 4, .inl (fun _ => 0))), (q10, .inl (E.2.1, 148, .inl (fun _ => 0)))] hin tyX5_ok nmX5 rfl lc_cX5 (by decide) (lc_in 564 (by decide +kernel) rfl) rfl rfl (tyX5_ok 19 (by decide)) rfl rfl (Nat.le_of_ble_eq_true rfl) rfl dX5_init_88 ?_
  refine lk_aload_n 0 dX5_init_91 rfl ?_
  refine lk_get 0 10 rfl lc_cX5 (by decide) rfl (lc_in 555 (by decide +kernel) rfl) dX5_init_92 ?_
  refine lk_iconst (v := 0) dX5_init_95 (by decide) ?_
  refine lk_bipush (v := 10) dX5_init_96 (by decide) ?_
  refine lk_iast 3 0 [(a, .inr (5, [.int 0, .ref q0, .int 0, .ref q1, .int 0, .int 0, .int 0, .int 0, .int 0, .int 0, .ref q2, .ref q3, .ref q4, .ref q5, .ref q6, .ref q7, .ref q8, .ref q9, .long 0, .ref q10, .int 0, .int 0, .long 0])), (q0, .inl (E.2.1, 6, .inl (fun _ => 0))), (q1, .inl (E.2.1, 6, .inl (fun _ => 0))), (q2, .inl (E.2.1, 4, .inl (upd (fun _ => 0) 0 10))), (q3, .inl (E.2.1, 24, .inl (fun _ => 0))), (q4, .inl (E.2.1, 24, .inl (fun _ => 0))), (q5, .inl (E.2.1, 24, .inl (fun _ => 0))), (q6, .inl (E.2.1, 24, .inl (fun _ => 0))), (q7, .inl (E.2.1, 24, .inl (fun _ => 0))), (q8, .inl (E.2.1, 24, .inl (fun _ => 0))), (q9, .inl (E.2.1, 4, .inl (fun _ => 0))), (q10, .inl (E.2.1, 148, .inl (fun _ => 0)))] rfl rfl (by omega) (by omega) rfl dX5_init_98 ?_
  refine lk_aload_n 0 dX5_init_99 rfl ?_
  refine lk_get 0 10 rfl lc_cX5 (by decide) rfl (lc_in 555 (by decide +kernel) rfl) dX5_init_100 ?_
  refine lk_iconst (v := 1) dX5_init_103 (by decide) ?_
  refine lk_bipush (v := 40) dX5_init_104 (by decide) ?_
  refine lk_iast 3 1 [(a, .inr (5, [.int 0, .ref q0, .int 0, .ref q1, .int 0, .int 0, .int 0, .int 0, .int 0, .int 0, .ref q2, .ref q3, .ref q4, .ref q5, .ref q6, .ref q7, .ref q8, .ref q9, .long 0, .ref q10, .int 0, .int 0, .long 0])), (q0, .inl (E.2.1, 6, .inl (fun _ => 0))), (q1, .inl (E.2.1, 6, .inl (fun _ => 0))), (q2, .inl (E.2.1, 4, .inl (upd (upd (fun _ => 0) 0 10) 1 40))), (q3, .inl (E.2.1, 24, .inl (fun _ => 0))), (q4, .inl (E.2.1, 24, .inl (fun _ => 0))), (q5, .inl (E.2.1, 24, .inl (fun _ => 0))), (q6, .inl (E.2.1, 24, .inl (fun _ => 0))), (q7, .inl (E.2.1, 24, .inl (fun _ => 0))), (q8, .inl (E.2.1, 24, .inl (fun _ => 0))), (q9, .inl (E.2.1, 4, .inl (fun _ => 0))), (q10, .inl (E.2.1, 148, .inl (fun _ => 0)))] rfl rfl (by omega) (by omega) rfl dX5_init_106 ?_
  refine lk_aload_n 0 dX5_init_107 rfl ?_
  refine lk_get 0 10 rfl lc_cX5 (by decide) rfl (lc_in 555 (by decide +kernel) rfl) dX5_init_108 ?_
  refine lk_iconst (v := 2) dX5_init_111 (by decide) ?_
  refine lk_iconst (v := 2) dX5_init_112 (by decide) ?_
  refine lk_iast 3 2 [(a, .inr (5, [.int 0, .ref q0, .int 0, .ref q1, .int 0, .int 0, .int 0, .int 0, .int 0, .int 0, .ref q2, .ref q3, .ref q4, .ref q5, .ref q6, .ref q7, .ref q8, .ref q9, .long 0, .ref q10, .int 0, .int 0, .long 0])), (q0, .inl (E.2.1, 6, .inl (fun _ => 0))), (q1, .inl (E.2.1, 6, .inl (fun _ => 0))), (q2, .inl (E.2.1, 4, .inl (upd (upd (upd (fun _ => 0) 0 10) 1 40) 2 2))), (q3, .inl (E.2.1, 24, .inl (fun _ => 0))), (q4, .inl (E.2.1, 24, .inl (fun _ => 0))), (q5, .inl (E.2.1, 24, .inl (fun _ => 0))), (q6, .inl (E.2.1, 24, .inl (fun _ => 0))), (q7, .inl (E.2.1, 24, .inl (fun _ => 0))), (q8, .inl (E.2.1, 24, .inl (fun _ => 0))), (q9, .inl (E.2.1, 4, .inl (fun _ => 0))), (q10, .inl (E.2.1, 148, .inl (fun _ => 0)))] rfl rfl (by omega) (by omega) rfl dX5_init_113 ?_
  refine lk_aload_n 0 dX5_init_114 rfl ?_
  refine lk_get 0 10 rfl lc_cX5 (by decide) rfl (lc_in 555 (by decide +kernel) rfl) dX5_init_115 ?_
  refine lk_iconst (v := 3) dX5_init_118 (by decide) ?_
  refine lk_iconst (v := 5) dX5_init_119 (by decide) ?_
  refine lk_iast 3 3 [(a, .inr (5, [.int 0, .ref q0, .int 0, .ref q1, .int 0, .int 0, .int 0, .int 0, .int 0, .int 0, .ref q2, .ref q3, .ref q4, .ref q5, .ref q6, .ref q7, .ref q8, .ref q9, .long 0, .ref q10, .int 0, .int 0, .long 0])), (q0, .inl (E.2.1, 6, .inl (fun _ => 0))), (q1, .inl (E.2.1, 6, .inl (fun _ => 0))), (q2, .inl (E.2.1, 4, .inl (upd (upd (upd (upd (fun _ => 0) 0 10) 1 40) 2 2) 3 5))), (q3, .inl (E.2.1, 24, .inl (fun _ => 0))), (q4, .inl (E.2.1, 24, .inl (fun _ => 0))), (q5, .inl (E.2.1, 24, .inl (fun _ => 0))), (q6, .inl (E.2.1, 24, .inl (fun _ => 0))), (q7, .inl (E.2.1, 24, .inl (fun _ => 0))), (q8, .inl (E.2.1, 24, .inl (fun _ => 0))), (q9, .inl (E.2.1, 4, .inl (fun _ => 0))), (q10, .inl (E.2.1, 148, .inl (fun _ => 0)))] rfl rfl (by omega) (by omega) rfl dX5_init_120 ?_
  exact lk_vret (fun k => match k with | 0 => q0 | 1 => q1 | 2 => q2 | 3 => q3 | 4 => q4 | 5 => q5 | 6 => q6 | 7 => q7 | 8 => q8 | 9 => q9 | 10 => q10 | _ => 0) hR rfl dX5_init_121
