section LAW3
variable {p : Program} {l : Launch} {e : Env} {s : State} {m : MethodId} {below : List Frame} {meth : Method} {c : Code} {b L : Nat} {xs : Nat → Int32}
/-- from both objects made to the loop -/
theorem lw_go {E : lk_E} (t : Nat × Nat × Nat) {a0 : Nat} {z : k_S4} {a1 : Nat} {g : Nat → Nat} {k n : Nat} (hX : va_X b L xs s s.heap) (hbl : b < s.heap.size) (hL : L ≤ 2048) (hret : meth.sig.returnType = ret) (hk : k ≤ 600000) (hn : n ≤ 7302250) (hSt : ∀ G : lc_G, G.2.2.2.2.2 = t → lc_St G (fun q => s.heap.size ≤ q) s s.heap) : lk_V E (lw_Γ p l e s m below meth c b) cL_law 4 RL 18 (lw_lv (lw_G E t a0 z a1 g) b 0) [] (lw_ws E a0 z a1 g) k n := by
  intro C H locs ls hP hD hS hl
  refine W.widen hk hn ?_
  obtain ⟨hap, hA⟩ := lw_D0 t hD
  have hc1 : lc_γk (lw_Γ p l e s m below meth c b) ≤ (lc_γR (lw_Γ p l e s m below meth c b)).cells := Nat.le_refl 600000
  have hc2 : lc_γn (lw_Γ p l e s m below meth c b) ≤ (lc_γR (lw_Γ p l e s m below meth c b)).slots := Nat.le_refl 7302250
  exact lw_loop (G := lw_G E t a0 z a1 g) hX hbl hL hret L 0 lw_S0 0 0 (by omega) (by omega) lw_R0 ⟨C.1, C.2.1, C.2.2.1, C.2.2.2.1, C.2.2.2.2.1, C.2.2.2.2.2.1.1, hap, hA, hSt _ rfl, C.2.2.2.2.2.2.2, hc1, hc2⟩ H locs ls ⟨lw_P0 t hP, hS⟩ hl
theorem lw_make {E : lk_E} (t : Nat × Nat × Nat) (hX : va_X b L xs s s.heap) (hbl : b < s.heap.size) (hL : L ≤ 2048) (hret : meth.sig.returnType = ret) (hSt : ∀ G : lc_G, G.2.2.2.2.2 = t → lc_St G (fun q => s.heap.size ≤ q) s s.heap) : lk_V E (lw_Γ p l e s m below meth c b) cL_law 4 RL 0 [(0, .ref b)] [] [] 0 0 := by
  refine lk_new tyX4 [.null, .null, .null, .int 0] rfl lc_cX4 tyX4_ok (lc_in 90 (by decide +kernel) rfl) (lc_in 91 (by decide +kernel) rfl) (lc_in 81 (by decide +kernel) rfl) (fun j hj => by
    match j, hj with
    | 0, _ => rfl
    | 1, _ => rfl
    | 2, _ => rfl
    | 3, _ => rfl
    | j + 4, h => exact absurd h (by omega)) (Nat.le_of_ble_eq_true rfl) (Nat.le_of_ble_eq_true rfl) dL_law_0 (fun a0 => ?_)
  refine lk_kn 1 4 rfl rfl ?_
  refine lk_dup dL_law_3 rfl ?_
  refine lk_callI [] (k_X4 l E a0) rfl rfl rfl mi_X4 rfl ml_L_9 (Nat.le_of_ble_eq_true rfl) ⟨⟨rfl, rfl⟩, (Nat.le_of_ble_eq_true rfl), (Nat.le_of_ble_eq_true rfl)⟩ ⟨(Nat.le_of_ble_eq_true rfl), (Nat.le_of_ble_eq_true rfl)⟩ dL_law_4 (fun z => ?_)
  refine lk_kn 62 399 rfl rfl ?_
  refine lk_ws (k_LX4 E a0 z) rfl ?_
  refine lk_astore_n [(1, .ref a0), (0, .ref b)] dL_law_7 (by decide) rfl ?_
  refine lk_new tyX5 [.int 0, .null, .int 0, .null, .int 0, .int 0, .int 0, .int 0, .int 0, .int 0, .null, .null, .null, .null, .null, .null, .null, .null, .long 0, .null, .int 0, .int 0, .long 0] rfl lc_cX5 tyX5_ok (lc_in 539 (by decide +kernel) rfl) (lc_in 540 (by decide +kernel) rfl) (lc_in 86 (by decide +kernel) rfl) (fun j hj => by
    match j, hj with
    | 0, _ => rfl
    | 1, _ => rfl
    | 2, _ => rfl
    | 3, _ => rfl
    | 4, _ => rfl
    | 5, _ => rfl
    | 6, _ => rfl
    | 7, _ => rfl
    | 8, _ => rfl
    | 9, _ => rfl
    | 10, _ => rfl
    | 11, _ => rfl
    | 12, _ => rfl
    | 13, _ => rfl
    | 14, _ => rfl
    | 15, _ => rfl
    | 16, _ => rfl
    | 17, _ => rfl
    | 18, _ => rfl
    | 19, _ => rfl
    | 20, _ => rfl
    | 21, _ => rfl
    | 22, _ => rfl
    | j + 23, h => exact absurd h (by omega)) (Nat.le_of_ble_eq_true rfl) (Nat.le_of_ble_eq_true rfl) dL_law_8 (fun a1 => ?_)
  refine lk_kn 63 422 rfl rfl ?_
  refine lk_dup dL_law_11 rfl ?_
  refine lk_callI (k_LX4 E a0 z) (k_X5 l E a1) rfl rfl rfl mi_X5 rfl ml_L_12 (Nat.le_of_ble_eq_true rfl) ⟨⟨rfl, rfl⟩, (Nat.le_of_ble_eq_true rfl), (Nat.le_of_ble_eq_true rfl)⟩ ⟨(Nat.le_of_ble_eq_true rfl), (Nat.le_of_ble_eq_true rfl)⟩ dL_law_12 (fun g => ?_)
  refine lk_kn 74 734 rfl rfl ?_
  refine lk_ws (lw_ws E a0 z a1 g) rfl ?_
  refine lk_astore_n [(2, .ref a1), (1, .ref a0), (0, .ref b)] dL_law_15 (by decide) rfl ?_
  refine lk_iconst (v := nI 0) dL_law_16 (by decide) ?_
  refine lk_istore_n [(3, .int (nI 0)), (2, .ref a1), (1, .ref a0), (0, .ref b)] dL_law_17 (by decide) rfl ?_
  refine lk_lv [3, 2, 1, 0] (lv' := lw_lv (lw_G E t a0 z a1 g) b 0) rfl ?_
  exact lw_go t hX hbl hL hret (Nat.le_of_ble_eq_true rfl) (Nat.le_of_ble_eq_true rfl) hSt
end LAW3
