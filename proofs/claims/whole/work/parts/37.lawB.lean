/-! the law's loop and its end -/
section LAW2
variable {p : Program} {l : Launch} {e : Env} {s : State} {m : MethodId} {below : List Frame} {meth : Method} {c : Code} {b L : Nat} {xs : Nat → Int32} {G : lc_G}
theorem lw_end {σ : lc_S} {lv : List (Nat × Value)} (hret : meth.sig.returnType = ret) : lc_V G (lw_Γ p l e s m below meth c b) cL_law 4 RL 720 lv [] σ := by
  refine lc_iconst (v := 1) dL_law_720 (by decide) ?_
  intro C H locs ls hP hl
  refine va_forget (fun q hq => hP.2.2.2 q hq) ?_
  exact lw_ret C.1 C.2.1 hret C.2.2.2.2.2.2.2.2.2.1 dL_law_721
theorem lw_out {σ : lc_S} {lv : List (Nat × Value)} {x : Int32} (h : x.toInt < 0 ∨ 18 < x.toInt) (kk : lc_V G (lw_Γ p l e s m below meth c b) cL_law 4 RL 714 lv [] σ) : lc_V G (lw_Γ p l e s m below meth c b) cL_law 4 RL 32 lv [.int x] σ := fun C H locs ls hP hl => lv_tableOut (tgt := 714) C.1 C.2.1 dL_law_32 h (by omega) (kk C H locs ls hP hl)
theorem lw_in {σ : lc_S} {lv : List (Nat × Value)} {x : Int32} (v : Nat) (tgt : Nat) (hx : x.toInt = v) (hv : v ≤ 18) {off : Int} (ho : #[(92 : Int), 115, 128, 141, 154, 187, 230, 273, 296, 345, 378, 411, 454, 487, 520, 543, 586, 645, 668][v]? = some off) (ht : (32 : Int) + off = (tgt : Int)) (kk : lc_V G (lw_Γ p l e s m below meth c b) cL_law 4 RL tgt lv [] σ) : lc_V G (lw_Γ p l e s m below meth c b) cL_law 4 RL 32 lv [.int x] σ := fun C H locs ls hP hl => lv_tableIn (tgt := tgt) (off := off) C.1 C.2.1 dL_law_32 (by rw [hx]; omega) (by rw [hx]; omega) (by rw [hx, show ((v : Int) - 0).toNat = v by omega]; exact ho) ht (kk C H locs ls hP hl)
theorem lw_step {σ : lc_S} {i n q : Nat} (hX : va_X b L xs s s.heap) (hbl : b < s.heap.size) (hL : L ≤ 2048) (hret : meth.sig.returnType = ret) (hi0 : i ≤ 2048) (h : eq_R σ n q) (rec : i + 4 ≤ L → ∀ (σ' : lc_S) (n' q' : Nat), eq_R σ' n' q' → lc_V G (lw_Γ p l e s m below meth c b) cL_law 4 RL 18 (lw_lv G b (i + 4)) [] σ') : lc_V G (lw_Γ p l e s m below meth c b) cL_law 4 RL 18 (lw_lv G b i) [] σ := by
  refine lc_iload_n 3 dL_law_18 rfl ?_
  refine lc_aload_n 0 dL_law_19 rfl ?_
  refine lw_len hX hbl dL_law_20 ?_
  refine lc_iconst (v := 4) dL_law_21 (by decide) ?_
  refine lc_isub dL_law_22 ?_
  have e4 : (nI L - 4).toInt = (L : Int) - 4 := pk_sub_toInt (a := L) (b := 4) (by omega) (by omega)
  have ei : (nI i).toInt = (i : Int) := nI_toInt (by omega)
  refine lc_icmp_gt 720 dL_law_23 (by omega) (fun _ => lw_end hret) (fun hle => ?_)
  have hi : i + 4 ≤ L := by
    have := Int32.le_iff_toInt_le.mp hle.1
    omega
  have kk : ∀ (σ' : lc_S) (n' q' : Nat), eq_R σ' n' q' → lc_V G (lw_Γ p l e s m below meth c b) cL_law 4 RL 714 (lw_lv G b i) [] σ' := by
    intro σ' n' q' h'
    refine lc_iinc 3 (nI (i + 4)) ((3, .int (nI (i + 4))) :: [(0, .ref b), (1, .ref (G.1 0)), (2, .ref (G.1 14))]) dL_law_714 rfl (nI_add i 4) (by omega) rfl ?_
    refine lc_goto 18 dL_law_717 (by omega) ?_
    exact lc_lv [1, 2, 3, 0] rfl (rec hi σ' n' q' h')
  refine lc_aload_n 0 dL_law_26 rfl ?_
  refine lc_iload_n 3 dL_law_27 rfl ?_
  refine lw_ld hX hbl hL (k := i) rfl (by omega) dL_law_28 ?_
  refine lc_bipush (v := 31) dL_law_29 (by decide) ?_
  refine lc_iand dL_law_31 ?_
  obtain ⟨v, hv, ev⟩ := pk_andE (xs i) (m := 31) 5 (by decide)
  refine lc_topi (nI v) ev ?_
  have et : (nI v).toInt = (v : Int) := nI_toInt (by omega)
  match v, hv, et with
  | 0, _, et => exact lw_in (off := 92) 0 124 et (by omega) rfl (by omega) (lw_letter hX hbl hL hi h kk)
  | 1, _, et => exact lw_in (off := 115) 1 147 et (by omega) rfl (by omega) (lw_blank hX hbl hL hi h kk)
  | 2, _, et => exact lw_in (off := 128) 2 160 et (by omega) rfl (by omega) (lw_fault hX hbl hL hi h kk)
  | 3, _, et => exact lw_in (off := 141) 3 173 et (by omega) rfl (by omega) (lw_line hX hbl hL hi h kk)
  | 4, _, et => exact lw_in (off := 154) 4 186 et (by omega) rfl (by omega) (lw_set hX hbl hL hi h kk)
  | 5, _, et => exact lw_in (off := 187) 5 219 et (by omega) rfl (by omega) (lw_put hX hbl hL hi h kk)
  | 6, _, et => exact lw_in (off := 230) 6 262 et (by omega) rfl (by omega) (lw_remove hX hbl hL hi h kk)
  | 7, _, et => exact lw_in (off := 273) 7 305 et (by omega) rfl (by omega) (lw_pass hX hbl hL hi h kk)
  | 8, _, et => exact lw_in (off := 296) 8 328 et (by omega) rfl (by omega) (lw_off hX hbl hL hi h kk)
  | 9, _, et => exact lw_in (off := 345) 9 377 et (by omega) rfl (by omega) (lw_exchange hX hbl hL hi h kk)
  | 10, _, et => exact lw_in (off := 378) 10 410 et (by omega) rfl (by omega) (lw_rumour hX hbl hL hi h kk)
  | 11, _, et => exact lw_in (off := 411) 11 443 et (by omega) rfl (by omega) (lw_has hX hbl hL hi h kk)
  | 12, _, et => exact lw_in (off := 454) 12 486 et (by omega) rfl (by omega) (lw_newest hX hbl hL hi h kk)
  | 13, _, et => exact lw_in (off := 487) 13 519 et (by omega) rfl (by omega) (lw_alike hX hbl hL hi h kk)
  | 14, _, et => exact lw_in (off := 520) 14 552 et (by omega) rfl (by omega) (lw_risen hX hbl hL hi h kk)
  | 15, _, et => exact lw_in (off := 543) 15 575 et (by omega) rfl (by omega) (lw_partner hX hbl hL hi h kk)
  | 16, _, et => exact lw_in (off := 586) 16 618 et (by omega) rfl (by omega) (lw_settle hX hbl hL hi h kk)
  | 17, _, et => exact lw_in (off := 645) 17 677 et (by omega) rfl (by omega) (lw_count hX hbl hL hi h kk)
  | 18, _, et => exact lw_in (off := 668) 18 700 et (by omega) rfl (by omega) (lw_digest hX hbl hL hi h kk)
  | v + 19, _, et => exact lw_out (Or.inr (by rw [et]; omega)) (kk σ n q h)
theorem lw_loop (hX : va_X b L xs s s.heap) (hbl : b < s.heap.size) (hL : L ≤ 2048) (hret : meth.sig.returnType = ret) : ∀ (f i : Nat) (σ : lc_S) (n q : Nat), L ≤ i + f → i ≤ 2048 → eq_R σ n q → lc_V G (lw_Γ p l e s m below meth c b) cL_law 4 RL 18 (lw_lv G b i) [] σ := by
  intro f
  induction f with
  | zero => intro i σ n q hf hi h; exact lw_step hX hbl hL hret hi h (fun z => absurd z (by omega))
  | succ f ih => intro i σ n q hf hi h; exact lw_step hX hbl hL hret hi h (fun z σ' n' q' h' => ih (i + 4) σ' n' q' (by omega) (by omega) h')
end LAW2
