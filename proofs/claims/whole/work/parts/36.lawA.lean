def R_law : String := "LateCopiesLaw"
def lw_P (b : Addr) (xs : List Int32) (args : Array Value) (s : State) : Prop := args = #[.ref b] ∧ s.IntsAt b xs ∧ xs.length ≤ 2048 ∧ (Jvm.Cond.and given_1 narrow_1).before args s = true
def lw_Q (_ : Array Value) (s : State) (o : Outcome) (t : State) : Prop := o = .returned (some (.int 1)) ∧ Framed s o t [] 600000 7302250
def lw_Z (below : List Frame) (a : Array Value) (s : State) : State → Prop := fun t => ∃ o, t.status = .running ∧ Ended t below o ∧ lw_Q a s o t
/-- the law's own end, with 1 on the stack, nothing written that was there before, its room as the claim has it -/
theorem lw_ret {p : Program} {l : Launch} {e : Env} {s : State} {m : MethodId} {below : List Frame} {meth : Method} {c : Code} {b : Nat} (hx : p.tables.exec = Jvm.exec) (hb : c.code = code) (hr : meth.sig.returnType = ret) (hlocks : meth.locks = false) {pc : Nat} {H : Heap} {ls : Array Slot} (hdg : decode code pc = .ok (.ireturn, 1)) : W p l e room_1 s m #[Value.ref b] below meth c H [] 600000 7302250 (lw_Z below #[Value.ref b] s) (F0 m pc ls [.int 1]) := by
  intro T hT X
  obtain ⟨fs, hret, hrun, hended, hW, hframe⟩ := X.leave (v := some (.int 1)) (hlocks := hlocks) (fun h => by rw [hr] at h; cases h)
  have hmeth' : T.vm.method? m = some meth := X.method'
  refine ⟨T.setFrames fs, ?_, .returned (some (.int 1)), hrun, hended, rfl, ⟨_, rfl⟩, hW, hframe⟩
  jvm_step X.here [X.here.top, hx, hb, hdg, hmeth', hr, ret, narrow_b1]
  (try refine ⟨rfl, ?_⟩); (try refine ⟨rfl, ?_⟩)
  first | (intro acts; rw [hret _ acts rfl rfl rfl]) | rw [hret _ _ rfl rfl rfl]
  exact Steps.refl _
/-- what holds at the law's entry: the machine, the code, the tables' words (any of lw_tbl by 'hts w (by decide +kernel)'), the script of L ints xs at the cell b, what the Statement gives of the start (any of its parts by flat_of_before) -/
def lw_At (p : Program) (s : State) (m : MethodId) (meth : Method) (c : Code) (b L : Nat) (xs : Nat → Int32) : Prop :=
  p.tables.exec = Jvm.exec ∧ c.code = code ∧ meth.sig.returnType = ret ∧ c.maxLocals = 4 ∧ s.vm.findClass R_law = some m.cls ∧ (∀ w ∈ lw_tbl, w.before #[Value.ref b] s = true) ∧ va_X b L xs s s.heap ∧ b < s.heap.size ∧ meth.locks = false ∧ (Jvm.Cond.and given_1 narrow_1).before #[Value.ref b] s = true
/-! the law: its rows -/
def lw_Γ (p : Program) (l : Launch) (e : Env) (s : State) (m : MethodId) (below : List Frame) (meth : Method) (c : Code) (b : Nat) : lc_Γ := (p, l, e, room_1, s, m, #[Value.ref b], below, meth, c, lw_Z below #[Value.ref b] s, fun q => s.heap.size ≤ q, 600000, 7302250)
def lw_lv (G : lc_G) (b i : Nat) : List (Nat × Value) := [(0, .ref b), (1, .ref (G.1 0)), (2, .ref (G.1 14)), (3, .int (nI i))]
section LAW
variable {p : Program} {l : Launch} {e : Env} {s : State} {m : MethodId} {below : List Frame} {meth : Method} {c : Code} {b L : Nat} {xs : Nat → Int32} {G : lc_G} {σ : lc_S} {i pc n q : Nat} {st : List Value}
theorem lw_ld {x : Int32} {k : Nat} (hX : va_X b L xs s s.heap) (hbl : b < s.heap.size) (hL : L ≤ 2048) (hx : x = nI k) (hk : k < L) (hd : decode cL_law pc = .ok (.iaload, 1)) {lv : List (Nat × Value)} (kk : lc_V G (lw_Γ p l e s m below meth c b) cL_law 4 RL (pc + 1) lv (.int (xs k) :: st) σ) : lc_V G (lw_Γ p l e s m below meth c b) cL_law 4 RL pc lv (.int x :: .ref b :: st) σ := by
  intro C H locs ls hP hl
  subst hx
  refine va_sld (H0 := s.heap) C.1 C.2.1 hX hbl (fun z => absurd hbl (Nat.not_lt.mpr z)) hP.2 (vp_in_nI hk (by omega)) hd ?_
  rw [nI_clamp (by omega)]
  exact kk C H locs ls hP hl
theorem lw_len (hX : va_X b L xs s s.heap) (hbl : b < s.heap.size) (hd : decode cL_law pc = .ok (.arraylength, 1)) {lv : List (Nat × Value)} (kk : lc_V G (lw_Γ p l e s m below meth c b) cL_law 4 RL (pc + 1) lv (.int (nI L) :: st) σ) : lc_V G (lw_Γ p l e s m below meth c b) cL_law 4 RL pc lv (.ref b :: st) σ := by
  intro C H locs ls hP hl
  exact va_slen (H0 := s.heap) C.1 C.2.1 hX hbl (fun z => absurd hbl (Nat.not_lt.mpr z)) hP.2 hd (kk C H locs ls hP hl)
theorem lw_arg (k : Nat) {z : Int} (hX : va_X b L xs s s.heap) (hbl : b < s.heap.size) (hL : L ≤ 2048) (hi : i + 4 ≤ L) (hk : k < 4) (hz : Int32.ofInt z = nI k) (h0 : decode cL_law pc = .ok (.aload_n 0, 1)) (h1 : decode cL_law (pc + 1) = .ok (.iload_n 3, 1)) (h2 : decode cL_law (pc + 1 + 1) = .ok (.iconst z, 1)) (h3 : decode cL_law (pc + 1 + 1 + 1) = .ok (.iadd, 1)) (h4 : decode cL_law (pc + 1 + 1 + 1 + 1) = .ok (.iaload, 1)) (kk : lc_V G (lw_Γ p l e s m below meth c b) cL_law 4 RL (pc + 1 + 1 + 1 + 1 + 1) (lw_lv G b i) (.int (xs (i + k)) :: st) σ) : lc_V G (lw_Γ p l e s m below meth c b) cL_law 4 RL pc (lw_lv G b i) st σ := by
  refine lc_aload_n 0 h0 rfl ?_
  refine lc_iload_n 3 h1 rfl ?_
  refine lc_iconst h2 hz ?_
  refine lc_iadd h3 ?_
  exact lw_ld hX hbl hL (k := i + k) (nI_add i k) (by omega) h4 kk
theorem lw_barg (hX : va_X b L xs s s.heap) (hbl : b < s.heap.size) (hL : L ≤ 2048) (hi : i + 4 ≤ L) (h0 : decode cL_law pc = .ok (.aload_n 0, 1)) (h1 : decode cL_law (pc + 1) = .ok (.iload_n 3, 1)) (h2 : decode cL_law (pc + 1 + 1) = .ok (.iconst 2, 1)) (h3 : decode cL_law (pc + 1 + 1 + 1) = .ok (.iadd, 1)) (h4 : decode cL_law (pc + 1 + 1 + 1 + 1) = .ok (.iaload, 1)) (h5 : decode cL_law (pc + 5) = .ok (.ifCond .eq 7, 3)) (h6 : decode cL_law (pc + 5 + 3) = .ok (.iconst 1, 1)) (h7 : decode cL_law (pc + 5 + 3 + 1) = .ok (.goto 4, 3)) (h8 : decode cL_law (pc + 12) = .ok (.iconst 0, 1)) (kk : lc_V G (lw_Γ p l e s m below meth c b) cL_law 4 RL (pc + 13) (lw_lv G b i) (.int (lc_bi (!decide (xs (i + 2) = 0))) :: st) σ) : lc_V G (lw_Γ p l e s m below meth c b) cL_law 4 RL pc (lw_lv G b i) st σ := by
  refine lw_arg 2 (z := 2) hX hbl hL hi (by omega) (by decide) h0 h1 h2 h3 h4 ?_
  refine lc_if_eq (pc + 12) h5 (by omega) (fun hz => ?_) (fun hz => ?_)
  · refine lc_iconst (v := 0) h8 (by decide) ?_
    rw [hz] at kk
    exact kk
  · refine lc_iconst (v := 1) h6 (by decide) ?_
    refine lc_goto (pc + 13) h7 (by omega) ?_
    rw [decide_eq_false hz.1] at kk
    exact kk
theorem lw_cmp {v1 v2 : Int32} {off : Int} (tgt : Nat) {lv : List (Nat × Value)} (h : v2 = v1) (hd : decode cL_law pc = .ok (.if_icmp .eq off, 3)) (ht : (pc : Int) + off = (tgt : Int)) (kk : lc_V G (lw_Γ p l e s m below meth c b) cL_law 4 RL tgt lv st σ) : lc_V G (lw_Γ p l e s m below meth c b) cL_law 4 RL pc lv (.int v2 :: .int v1 :: st) σ := lc_icmp_eq tgt hd ht (fun _ => kk) (fun z => absurd h z.2)
end LAW
theorem lw_id {ρ τ : lc_S} {j : Nat} (h : ρ.1 j = τ.1 j) : lc_w ρ j (eq_x τ j) = ρ := by
  unfold eq_x
  rw [← h]
  exact lc_w_w ρ j
theorem lw_let {σ : lc_S} {p : Nat} {code : Int32} {rc rl : Nat} : (sp_letter σ rc rl p code).2.1 = σ.1 := by
  unfold sp_letter
  split
  · rfl
  · split <;> rfl
theorem lw_let12 {σ : lc_S} {p : Nat} {code : Int32} : (sp_letter σ 9 10 p code).2.2.1 12 0 = σ.2.1 12 0 := by
  unfold sp_letter
  split
  · rfl
  · split <;> rfl
theorem lw_rm2 (σ : lc_S) (n : Nat) (s k m : Int32) : (eq_rmC σ n s k m).2.1 2 = σ.1 2 := by
  unfold eq_rmC sp_remo
  split
  · rfl
  · split
    · rfl
    · split
      · rfl
      · split <;> rfl
theorem lw_st2 (σ : lc_S) (n : Nat) (seed : Int32) (rum : Bool) (what : Int32) : (sp_stv σ n seed rum what).2.1 2 = σ.1 2 := by
  unfold sp_stv
  split
  · rfl
  · split
    · rfl
    · exact eq_stl_2 _ _ _ _
theorem lw_stl12 (ρ : lc_S) (n : Nat) (seed : Int32) (rum : Bool) : (sp_stl ρ n seed rum).2.1 12 0 = ρ.2.1 12 0 := by
  unfold sp_stl
  generalize sp_RUN ρ n seed rum = z
  rfl
theorem lw_dg2 (σ : lc_S) (n p : Nat) : (sp_digC σ n p).2.1 2 = σ.1 2 ∧ (sp_digC σ n p).2.2.1 12 0 = σ.2.1 12 0 := by
  unfold sp_digC
  split
  · exact ⟨rfl, rfl⟩
  · dsimp only
    unfold sp_st2
    rw [eq_stl_2, eq_stl_2, lw_stl12, lw_stl12]
    exact ⟨rfl, rfl⟩

theorem lw_letter {p : Program} {l : Launch} {e : Env} {s : State} {m : MethodId} {below : List Frame} {meth : Method} {c : Code} {b L : Nat} {xs : Nat → Int32} {G : lc_G} {σ : lc_S} {i n q : Nat} (hX : va_X b L xs s s.heap) (hbl : b < s.heap.size) (hL : L ≤ 2048) (hi : i + 4 ≤ L) (h : eq_R σ n q) (kk : ∀ (σ' : lc_S) (n' q' : Nat), eq_R σ' n' q' → lc_V G (lw_Γ p l e s m below meth c b) cL_law 4 RL 714 (lw_lv G b i) [] σ') : lc_V G (lw_Γ p l e s m below meth c b) cL_law 4 RL 124 (lw_lv G b i) [] σ := by
  have hn := h.1
  have hs : (eq_x σ 0).1 7 0 = nI n := h.2.2.1
  have hs2 : (eq_x σ 2).1 7 0 = nI n := (congrFun h.2.2.2.2.2.2.1 0).trans h.2.2.1
  obtain ⟨hq, q2, hR2⟩ := eq_letter h (xs (i + 1))
  refine lc_aload_n 1 dL_law_124 rfl ?_
  refine lw_arg 1 (z := 1) hX hbl hL hi (by omega) (by decide) dL_law_125 dL_law_126 dL_law_127 dL_law_128 dL_law_129 ?_
  refine lc_callV (0) (c_X4_letter l G σ q h.2.2.2.1 h.2.1 (xs (i + 1))) rfl rfl mt_X4_letter (by omega) rfl rfl ml_L_13 rfl rfl (Nat.le_of_ble_eq_true rfl) ⟨⟨rfl, rfl⟩, Nat.le_of_ble_eq_true rfl, Nat.le_of_ble_eq_true rfl⟩ dL_law_130 ?_
  have e12 := (lw_let12 (σ := σ) (p := q) (code := xs (i + 1))).trans h.2.2.2.2.1
  generalize (sp_letter σ 9 10 q (xs (i + 1))).2 = τ at hq hR2 e12 ⊢
  refine lc_eq (show τ = lc_w τ 2 (eq_x τ 2) from (lc_w_w τ 2).symm) ?_
  refine lc_aload_n 2 dL_law_133 rfl ?_
  refine lw_arg 1 (z := 1) hX hbl hL hi (by omega) (by decide) dL_law_134 dL_law_135 dL_law_136 dL_law_137 dL_law_138 ?_
  refine lc_callV (14) (c_X5_letter l G τ (eq_x τ 2) q e12 h.2.1 (xs (i + 1))) rfl rfl mt_X5_letter (by omega) rfl rfl ml_L_17 rfl rfl (Nat.le_of_ble_eq_true rfl) ⟨⟨rfl, rfl⟩, Nat.le_of_ble_eq_true rfl, Nat.le_of_ble_eq_true rfl⟩ dL_law_139 ?_
  refine lw_cmp 714 hq dL_law_142 (by omega) ?_
  refine lc_eq (lw_id (ρ := (sp_letter τ 11 12 q (xs (i + 1))).2) (τ := τ) (congrFun lw_let 2)) ?_
  exact kk _ n q2 hR2
theorem lw_blank {p : Program} {l : Launch} {e : Env} {s : State} {m : MethodId} {below : List Frame} {meth : Method} {c : Code} {b L : Nat} {xs : Nat → Int32} {G : lc_G} {σ : lc_S} {i n q : Nat} (hX : va_X b L xs s s.heap) (hbl : b < s.heap.size) (hL : L ≤ 2048) (hi : i + 4 ≤ L) (h : eq_R σ n q) (kk : ∀ (σ' : lc_S) (n' q' : Nat), eq_R σ' n' q' → lc_V G (lw_Γ p l e s m below meth c b) cL_law 4 RL 714 (lw_lv G b i) [] σ') : lc_V G (lw_Γ p l e s m below meth c b) cL_law 4 RL 147 (lw_lv G b i) [] σ := by
  have hn := h.1
  have hs : (eq_x σ 0).1 7 0 = nI n := h.2.2.1
  have hs2 : (eq_x σ 2).1 7 0 = nI n := (congrFun h.2.2.2.2.2.2.1 0).trans h.2.2.1
  refine lc_aload_n 1 dL_law_147 rfl ?_
  refine lc_callV (0) (c_X4_blank l G σ) rfl rfl mt_X4_blank (by omega) rfl rfl ml_L_18 rfl rfl (Nat.le_of_ble_eq_true rfl) ⟨⟨rfl, rfl⟩, Nat.le_of_ble_eq_true rfl, Nat.le_of_ble_eq_true rfl⟩ dL_law_148 ?_
  refine lc_eq (show lc_uo σ 10 0 0 = lc_w (lc_uo σ 10 0 0) 2 (eq_x σ 2) from (lc_w_w (lc_uo σ 10 0 0) 2).symm) ?_
  refine lc_aload_n 2 dL_law_151 rfl ?_
  refine lc_callV (14) (c_X5_blank l G (lc_uo σ 10 0 0) (eq_x σ 2)) rfl rfl mt_X5_blank (by omega) rfl rfl ml_L_22 rfl rfl (Nat.le_of_ble_eq_true rfl) ⟨⟨rfl, rfl⟩, Nat.le_of_ble_eq_true rfl, Nat.le_of_ble_eq_true rfl⟩ dL_law_152 ?_
  refine lw_cmp 714 (show (lc_uo σ 10 0 0).2.1 12 0 = σ.2.1 10 0 from h.2.2.2.2.1.trans h.2.2.2.1.symm) dL_law_155 (by omega) ?_
  refine lc_eq (lw_id (ρ := lc_uo (lc_uo σ 10 0 0) 12 0 0) (τ := σ) rfl) ?_
  exact kk _ n 0 (eq_blank h)
theorem lw_fault {p : Program} {l : Launch} {e : Env} {s : State} {m : MethodId} {below : List Frame} {meth : Method} {c : Code} {b L : Nat} {xs : Nat → Int32} {G : lc_G} {σ : lc_S} {i n q : Nat} (hX : va_X b L xs s s.heap) (hbl : b < s.heap.size) (hL : L ≤ 2048) (hi : i + 4 ≤ L) (h : eq_R σ n q) (kk : ∀ (σ' : lc_S) (n' q' : Nat), eq_R σ' n' q' → lc_V G (lw_Γ p l e s m below meth c b) cL_law 4 RL 714 (lw_lv G b i) [] σ') : lc_V G (lw_Γ p l e s m below meth c b) cL_law 4 RL 160 (lw_lv G b i) [] σ := by
  have hn := h.1
  have hs : (eq_x σ 0).1 7 0 = nI n := h.2.2.1
  have hs2 : (eq_x σ 2).1 7 0 = nI n := (congrFun h.2.2.2.2.2.2.1 0).trans h.2.2.1
  refine lc_aload_n 1 dL_law_160 rfl ?_
  refine lc_callV (0) (c_X4_fault l G σ q h.2.2.2.1 h.2.1) rfl rfl mt_X4_fault (by omega) rfl rfl ml_L_23 rfl rfl (Nat.le_of_ble_eq_true rfl) ⟨⟨rfl, rfl⟩, Nat.le_of_ble_eq_true rfl, Nat.le_of_ble_eq_true rfl⟩ dL_law_161 ?_
  refine lc_eq (show σ = lc_w σ 2 (eq_x σ 2) from (lc_w_w σ 2).symm) ?_
  refine lc_aload_n 2 dL_law_164 rfl ?_
  refine lc_callV (14) (c_X5_fault l G σ (eq_x σ 2) q h.2.2.2.2.1 h.2.1) rfl rfl mt_X5_fault (by omega) rfl rfl ml_L_26 rfl rfl (Nat.le_of_ble_eq_true rfl) ⟨⟨rfl, rfl⟩, Nat.le_of_ble_eq_true rfl, Nat.le_of_ble_eq_true rfl⟩ dL_law_165 ?_
  refine lw_cmp 714 (by rw [h.2.2.2.2.2.2.2.1]) dL_law_168 (by omega) ?_
  refine lc_eq (lw_id (ρ := σ) (τ := σ) rfl) ?_
  exact kk _ n q h
theorem lw_line {p : Program} {l : Launch} {e : Env} {s : State} {m : MethodId} {below : List Frame} {meth : Method} {c : Code} {b L : Nat} {xs : Nat → Int32} {G : lc_G} {σ : lc_S} {i n q : Nat} (hX : va_X b L xs s s.heap) (hbl : b < s.heap.size) (hL : L ≤ 2048) (hi : i + 4 ≤ L) (h : eq_R σ n q) (kk : ∀ (σ' : lc_S) (n' q' : Nat), eq_R σ' n' q' → lc_V G (lw_Γ p l e s m below meth c b) cL_law 4 RL 714 (lw_lv G b i) [] σ') : lc_V G (lw_Γ p l e s m below meth c b) cL_law 4 RL 173 (lw_lv G b i) [] σ := by
  have hn := h.1
  have hs : (eq_x σ 0).1 7 0 = nI n := h.2.2.1
  have hs2 : (eq_x σ 2).1 7 0 = nI n := (congrFun h.2.2.2.2.2.2.1 0).trans h.2.2.1
  by_cases hl : sp_isl (σ.2.1 9) q = true
  · have hR2 := eq_line h hl
    refine lc_aload_n 1 dL_law_173 rfl ?_
    refine lc_callV (0) (c_X4_line l G σ q h.2.2.2.1 h.2.1) rfl rfl mt_X4_line (by omega) rfl rfl ml_L_27 rfl rfl (Nat.le_of_ble_eq_true rfl) ⟨⟨rfl, rfl⟩, Nat.le_of_ble_eq_true rfl, Nat.le_of_ble_eq_true rfl⟩ dL_law_174 ?_
    rw [if_pos hl, if_pos hl]
    refine lc_eq (show lc_uo (lc_uo (sp_line σ 0 3 6 (σ.2.1 9) (σ.1 0 6) (σ.2.1 10 0)) 10 0 0) 10 1 (σ.2.1 10 1 + 1) = eq_lC σ from rfl) ?_
    have e12 : (eq_lC σ).2.1 12 0 = nI q := h.2.2.2.2.1
    have e11 : (eq_lC σ).2.1 11 = σ.2.1 9 := h.2.2.2.2.2.2.2.1
    have hl2 : sp_isl ((eq_lC σ).2.1 11) q = true := by rw [e11]; exact hl
    have ev : (eq_lC σ).2.1 12 0 = σ.2.1 10 0 := h.2.2.2.2.1.trans h.2.2.2.1.symm
    generalize eq_lC σ = τ at hR2 e12 hl2 ev ⊢
    refine lc_eq (show τ = lc_w τ 2 (eq_x τ 2) from (lc_w_w τ 2).symm) ?_
    refine lc_aload_n 2 dL_law_177 rfl ?_
    refine lc_callV (14) (c_X5_line l G τ (eq_x τ 2) q e12 h.2.1) rfl rfl mt_X5_line (by omega) rfl rfl ml_L_30 rfl rfl (Nat.le_of_ble_eq_true rfl) ⟨⟨rfl, rfl⟩, Nat.le_of_ble_eq_true rfl, Nat.le_of_ble_eq_true rfl⟩ dL_law_178 ?_
    rw [if_pos hl2, if_pos hl2]
    refine lw_cmp 714 ev dL_law_181 (by omega) ?_
    exact kk _ q 0 hR2
  · refine lc_aload_n 1 dL_law_173 rfl ?_
    refine lc_callV (0) (c_X4_line l G σ q h.2.2.2.1 h.2.1) rfl rfl mt_X4_line (by omega) rfl rfl ml_L_27 rfl rfl (Nat.le_of_ble_eq_true rfl) ⟨⟨rfl, rfl⟩, Nat.le_of_ble_eq_true rfl, Nat.le_of_ble_eq_true rfl⟩ dL_law_174 ?_
    rw [if_neg hl, if_neg hl]
    have hl2 : ¬ sp_isl (σ.2.1 11) q = true := by rw [h.2.2.2.2.2.2.2.1]; exact hl
    refine lc_eq (show σ = lc_w σ 2 (eq_x σ 2) from (lc_w_w σ 2).symm) ?_
    refine lc_aload_n 2 dL_law_177 rfl ?_
    refine lc_callV (14) (c_X5_line l G σ (eq_x σ 2) q h.2.2.2.2.1 h.2.1) rfl rfl mt_X5_line (by omega) rfl rfl ml_L_30 rfl rfl (Nat.le_of_ble_eq_true rfl) ⟨⟨rfl, rfl⟩, Nat.le_of_ble_eq_true rfl, Nat.le_of_ble_eq_true rfl⟩ dL_law_178 ?_
    rw [if_neg hl2, if_neg hl2]
    refine lw_cmp 714 rfl dL_law_181 (by omega) ?_
    refine lc_eq (lw_id (ρ := σ) (τ := σ) rfl) ?_
    exact kk _ n q h
theorem lw_set {p : Program} {l : Launch} {e : Env} {s : State} {m : MethodId} {below : List Frame} {meth : Method} {c : Code} {b L : Nat} {xs : Nat → Int32} {G : lc_G} {σ : lc_S} {i n q : Nat} (hX : va_X b L xs s s.heap) (hbl : b < s.heap.size) (hL : L ≤ 2048) (hi : i + 4 ≤ L) (h : eq_R σ n q) (kk : ∀ (σ' : lc_S) (n' q' : Nat), eq_R σ' n' q' → lc_V G (lw_Γ p l e s m below meth c b) cL_law 4 RL 714 (lw_lv G b i) [] σ') : lc_V G (lw_Γ p l e s m below meth c b) cL_law 4 RL 186 (lw_lv G b i) [] σ := by
  have hn := h.1
  have hs : (eq_x σ 0).1 7 0 = nI n := h.2.2.1
  have hs2 : (eq_x σ 2).1 7 0 = nI n := (congrFun h.2.2.2.2.2.2.1 0).trans h.2.2.1
  have hq := eq_set h (xs (i + 1)) (xs (i + 2))
  refine lc_eq (show σ = lc_w σ 0 (eq_x σ 0) from (lc_w_w σ 0).symm) ?_
  refine lc_aload_n 1 dL_law_186 rfl ?_
  refine lw_arg 1 (z := 1) hX hbl hL hi (by omega) (by decide) dL_law_187 dL_law_188 dL_law_189 dL_law_190 dL_law_191 ?_
  refine lw_arg 2 (z := 2) hX hbl hL hi (by omega) (by decide) dL_law_192 dL_law_193 dL_law_194 dL_law_195 dL_law_196 ?_
  refine lc_callV (0) (c_X4_set l G σ (eq_x σ 0) n hn hs (xs (i + 1)) (xs (i + 2))) rfl rfl mt_X4_set (by omega) rfl rfl ml_L_31 rfl rfl (Nat.le_of_ble_eq_true rfl) ⟨⟨rfl, rfl⟩, Nat.le_of_ble_eq_true rfl, Nat.le_of_ble_eq_true rfl⟩ dL_law_197 ?_
  refine lc_eq (show lc_w σ 0 (sp_set n (eq_x σ 0) (xs (i + 1)) (xs (i + 2))).2 = lc_w (lc_w σ 0 (sp_set n (eq_x σ 0) (xs (i + 1)) (xs (i + 2))).2) 2 (eq_x σ 2) from (lc_w_w (lc_w σ 0 (sp_set n (eq_x σ 0) (xs (i + 1)) (xs (i + 2))).2) 2).symm) ?_
  refine lc_aload_n 2 dL_law_200 rfl ?_
  refine lw_arg 1 (z := 1) hX hbl hL hi (by omega) (by decide) dL_law_201 dL_law_202 dL_law_203 dL_law_204 dL_law_205 ?_
  refine lw_arg 2 (z := 2) hX hbl hL hi (by omega) (by decide) dL_law_206 dL_law_207 dL_law_208 dL_law_209 dL_law_210 ?_
  refine lc_callV (14) (c_X5_set l G (lc_w σ 0 (sp_set n (eq_x σ 0) (xs (i + 1)) (xs (i + 2))).2) (eq_x σ 2) n hn hs2 (xs (i + 1)) (xs (i + 2))) rfl rfl mt_X5_set (by omega) rfl rfl ml_L_35 rfl rfl (Nat.le_of_ble_eq_true rfl) ⟨⟨rfl, rfl⟩, Nat.le_of_ble_eq_true rfl, Nat.le_of_ble_eq_true rfl⟩ dL_law_211 ?_
  refine lw_cmp 714 hq.1 dL_law_214 (by omega) ?_
  exact kk _ n q (eq_R_w h hq)
theorem lw_put {p : Program} {l : Launch} {e : Env} {s : State} {m : MethodId} {below : List Frame} {meth : Method} {c : Code} {b L : Nat} {xs : Nat → Int32} {G : lc_G} {σ : lc_S} {i n q : Nat} (hX : va_X b L xs s s.heap) (hbl : b < s.heap.size) (hL : L ≤ 2048) (hi : i + 4 ≤ L) (h : eq_R σ n q) (kk : ∀ (σ' : lc_S) (n' q' : Nat), eq_R σ' n' q' → lc_V G (lw_Γ p l e s m below meth c b) cL_law 4 RL 714 (lw_lv G b i) [] σ') : lc_V G (lw_Γ p l e s m below meth c b) cL_law 4 RL 219 (lw_lv G b i) [] σ := by
  have hn := h.1
  have hs : (eq_x σ 0).1 7 0 = nI n := h.2.2.1
  have hs2 : (eq_x σ 2).1 7 0 = nI n := (congrFun h.2.2.2.2.2.2.1 0).trans h.2.2.1
  have hq := eq_put h (xs (i + 1)) (xs (i + 2)) (xs (i + 3))
  refine lc_eq (show σ = lc_w σ 0 (eq_x σ 0) from (lc_w_w σ 0).symm) ?_
  refine lc_aload_n 1 dL_law_219 rfl ?_
  refine lw_arg 1 (z := 1) hX hbl hL hi (by omega) (by decide) dL_law_220 dL_law_221 dL_law_222 dL_law_223 dL_law_224 ?_
  refine lw_arg 2 (z := 2) hX hbl hL hi (by omega) (by decide) dL_law_225 dL_law_226 dL_law_227 dL_law_228 dL_law_229 ?_
  refine lw_arg 3 (z := 3) hX hbl hL hi (by omega) (by decide) dL_law_230 dL_law_231 dL_law_232 dL_law_233 dL_law_234 ?_
  refine lc_callV (0) (c_X4_put l G σ (eq_x σ 0) n hn hs (xs (i + 1)) (xs (i + 2)) (xs (i + 3))) rfl rfl mt_X4_put (by omega) rfl rfl ml_L_36 rfl rfl (Nat.le_of_ble_eq_true rfl) ⟨⟨rfl, rfl⟩, Nat.le_of_ble_eq_true rfl, Nat.le_of_ble_eq_true rfl⟩ dL_law_235 ?_
  refine lc_eq (show lc_w σ 0 (sp_put (decide (9999 ≤ (eq_x σ 0).1 7 1)) n (eq_x σ 0) (xs (i + 1)) (xs (i + 2)) (xs (i + 3))).2 = lc_w (lc_w σ 0 (sp_put (decide (9999 ≤ (eq_x σ 0).1 7 1)) n (eq_x σ 0) (xs (i + 1)) (xs (i + 2)) (xs (i + 3))).2) 2 (eq_x σ 2) from (lc_w_w (lc_w σ 0 (sp_put (decide (9999 ≤ (eq_x σ 0).1 7 1)) n (eq_x σ 0) (xs (i + 1)) (xs (i + 2)) (xs (i + 3))).2) 2).symm) ?_
  refine lc_aload_n 2 dL_law_238 rfl ?_
  refine lw_arg 1 (z := 1) hX hbl hL hi (by omega) (by decide) dL_law_239 dL_law_240 dL_law_241 dL_law_242 dL_law_243 ?_
  refine lw_arg 2 (z := 2) hX hbl hL hi (by omega) (by decide) dL_law_244 dL_law_245 dL_law_246 dL_law_247 dL_law_248 ?_
  refine lw_arg 3 (z := 3) hX hbl hL hi (by omega) (by decide) dL_law_249 dL_law_250 dL_law_251 dL_law_252 dL_law_253 ?_
  refine lc_callV (14) (c_X5_put l G (lc_w σ 0 (sp_put (decide (9999 ≤ (eq_x σ 0).1 7 1)) n (eq_x σ 0) (xs (i + 1)) (xs (i + 2)) (xs (i + 3))).2) (eq_x σ 2) n hn hs2 (xs (i + 1)) (xs (i + 2)) (xs (i + 3))) rfl rfl mt_X5_put (by omega) rfl rfl ml_L_40 rfl rfl (Nat.le_of_ble_eq_true rfl) ⟨⟨rfl, rfl⟩, Nat.le_of_ble_eq_true rfl, Nat.le_of_ble_eq_true rfl⟩ dL_law_254 ?_
  refine lw_cmp 714 hq.1 dL_law_257 (by omega) ?_
  exact kk _ n q (eq_R_w h hq)
theorem lw_remove {p : Program} {l : Launch} {e : Env} {s : State} {m : MethodId} {below : List Frame} {meth : Method} {c : Code} {b L : Nat} {xs : Nat → Int32} {G : lc_G} {σ : lc_S} {i n q : Nat} (hX : va_X b L xs s s.heap) (hbl : b < s.heap.size) (hL : L ≤ 2048) (hi : i + 4 ≤ L) (h : eq_R σ n q) (kk : ∀ (σ' : lc_S) (n' q' : Nat), eq_R σ' n' q' → lc_V G (lw_Γ p l e s m below meth c b) cL_law 4 RL 714 (lw_lv G b i) [] σ') : lc_V G (lw_Γ p l e s m below meth c b) cL_law 4 RL 262 (lw_lv G b i) [] σ := by
  have hn := h.1
  have hs : (eq_x σ 0).1 7 0 = nI n := h.2.2.1
  have hs2 : (eq_x σ 2).1 7 0 = nI n := (congrFun h.2.2.2.2.2.2.1 0).trans h.2.2.1
  have hq := eq_remove h (xs (i + 1)) (xs (i + 2)) (xs (i + 3))
  have hM : lc_M l G yX4_remove cX4_remove 4 (some .int) { frames := 4, cells := 0, slots := 0, locals := 91 } [.ref (G.1 (0)), .int (xs (i + 1)), .int (xs (i + 2)), .int (xs (i + 3))] (lc_w σ 0 (eq_x σ 0)) (some (.int ((eq_rmC σ n (xs (i + 1)) (xs (i + 2)) (xs (i + 3))).1))) ((eq_rmC σ n (xs (i + 1)) (xs (i + 2)) (xs (i + 3))).2) := c_X4_remove l G σ (eq_x σ 0) n hn hs (xs (i + 1)) (xs (i + 2)) (xs (i + 3))
  refine lc_eq (show σ = lc_w σ 0 (eq_x σ 0) from (lc_w_w σ 0).symm) ?_
  refine lc_aload_n 1 dL_law_262 rfl ?_
  refine lw_arg 1 (z := 1) hX hbl hL hi (by omega) (by decide) dL_law_263 dL_law_264 dL_law_265 dL_law_266 dL_law_267 ?_
  refine lw_arg 2 (z := 2) hX hbl hL hi (by omega) (by decide) dL_law_268 dL_law_269 dL_law_270 dL_law_271 dL_law_272 ?_
  refine lw_arg 3 (z := 3) hX hbl hL hi (by omega) (by decide) dL_law_273 dL_law_274 dL_law_275 dL_law_276 dL_law_277 ?_
  refine lc_callV (0) (hM) rfl rfl mt_X4_remove (by omega) rfl rfl ml_L_41 rfl rfl (Nat.le_of_ble_eq_true rfl) ⟨⟨rfl, rfl⟩, Nat.le_of_ble_eq_true rfl, Nat.le_of_ble_eq_true rfl⟩ dL_law_278 ?_
  have e2 := lw_rm2 σ n (xs (i + 1)) (xs (i + 2)) (xs (i + 3))
  generalize (eq_rmC σ n (xs (i + 1)) (xs (i + 2)) (xs (i + 3))).2 = τ at hq e2 ⊢
  have hs3 : (eq_x τ 2).1 7 0 = nI n := (show (eq_x τ 2).1 7 0 = (eq_x σ 2).1 7 0 from congrFun (congrFun e2 7) 0).trans hs2
  refine lc_eq (show τ = lc_w τ 2 (eq_x τ 2) from (lc_w_w τ 2).symm) ?_
  refine lc_aload_n 2 dL_law_281 rfl ?_
  refine lw_arg 1 (z := 1) hX hbl hL hi (by omega) (by decide) dL_law_282 dL_law_283 dL_law_284 dL_law_285 dL_law_286 ?_
  refine lw_arg 2 (z := 2) hX hbl hL hi (by omega) (by decide) dL_law_287 dL_law_288 dL_law_289 dL_law_290 dL_law_291 ?_
  refine lw_arg 3 (z := 3) hX hbl hL hi (by omega) (by decide) dL_law_292 dL_law_293 dL_law_294 dL_law_295 dL_law_296 ?_
  have hM2 : lc_M l G yX5_remove cX5_remove 5 (some .int) { frames := 3, cells := 0, slots := 0, locals := 72 } [.ref (G.1 (14)), .int (xs (i + 1)), .int (xs (i + 2)), .int (xs (i + 3))] (lc_w τ 2 (eq_x τ 2)) (some (.int ((eq_rmM τ n (xs (i + 1)) (xs (i + 2)) (xs (i + 3))).1))) ((eq_rmM τ n (xs (i + 1)) (xs (i + 2)) (xs (i + 3))).2) := c_X5_remove l G τ (eq_x τ 2) n hn hs3 (xs (i + 1)) (xs (i + 2)) (xs (i + 3))
  refine lc_callV (14) (hM2) rfl rfl mt_X5_remove (by omega) rfl rfl ml_L_44 rfl rfl (Nat.le_of_ble_eq_true rfl) ⟨⟨rfl, rfl⟩, Nat.le_of_ble_eq_true rfl, Nat.le_of_ble_eq_true rfl⟩ dL_law_297 ?_
  refine lw_cmp 714 hq.1 dL_law_300 (by omega) ?_
  exact kk _ n q hq.2
theorem lw_pass {p : Program} {l : Launch} {e : Env} {s : State} {m : MethodId} {below : List Frame} {meth : Method} {c : Code} {b L : Nat} {xs : Nat → Int32} {G : lc_G} {σ : lc_S} {i n q : Nat} (hX : va_X b L xs s s.heap) (hbl : b < s.heap.size) (hL : L ≤ 2048) (hi : i + 4 ≤ L) (h : eq_R σ n q) (kk : ∀ (σ' : lc_S) (n' q' : Nat), eq_R σ' n' q' → lc_V G (lw_Γ p l e s m below meth c b) cL_law 4 RL 714 (lw_lv G b i) [] σ') : lc_V G (lw_Γ p l e s m below meth c b) cL_law 4 RL 305 (lw_lv G b i) [] σ := by
  have hn := h.1
  have hs : (eq_x σ 0).1 7 0 = nI n := h.2.2.1
  have hs2 : (eq_x σ 2).1 7 0 = nI n := (congrFun h.2.2.2.2.2.2.1 0).trans h.2.2.1
  have hq := eq_pass h (xs (i + 1))
  refine lc_eq (show σ = lc_w σ 0 (eq_x σ 0) from (lc_w_w σ 0).symm) ?_
  refine lc_aload_n 1 dL_law_305 rfl ?_
  refine lw_arg 1 (z := 1) hX hbl hL hi (by omega) (by decide) dL_law_306 dL_law_307 dL_law_308 dL_law_309 dL_law_310 ?_
  refine lc_callV (0) (c_X4_pass l G σ (eq_x σ 0) n hn hs (xs (i + 1))) rfl rfl mt_X4_pass (by omega) rfl rfl ml_L_45 rfl rfl (Nat.le_of_ble_eq_true rfl) ⟨⟨rfl, rfl⟩, Nat.le_of_ble_eq_true rfl, Nat.le_of_ble_eq_true rfl⟩ dL_law_311 ?_
  refine lc_eq (show lc_w σ 0 (sp_pass (decide (9999 - (xs (i + 1)) < (eq_x σ 0).1 7 1)) n (eq_x σ 0) (xs (i + 1))).2 = lc_w (lc_w σ 0 (sp_pass (decide (9999 - (xs (i + 1)) < (eq_x σ 0).1 7 1)) n (eq_x σ 0) (xs (i + 1))).2) 2 (eq_x σ 2) from (lc_w_w (lc_w σ 0 (sp_pass (decide (9999 - (xs (i + 1)) < (eq_x σ 0).1 7 1)) n (eq_x σ 0) (xs (i + 1))).2) 2).symm) ?_
  refine lc_aload_n 2 dL_law_314 rfl ?_
  refine lw_arg 1 (z := 1) hX hbl hL hi (by omega) (by decide) dL_law_315 dL_law_316 dL_law_317 dL_law_318 dL_law_319 ?_
  refine lc_callV (14) (c_X5_pass l G (lc_w σ 0 (sp_pass (decide (9999 - (xs (i + 1)) < (eq_x σ 0).1 7 1)) n (eq_x σ 0) (xs (i + 1))).2) (eq_x σ 2) n hn hs2 (xs (i + 1))) rfl rfl mt_X5_pass (by omega) rfl rfl ml_L_48 rfl rfl (Nat.le_of_ble_eq_true rfl) ⟨⟨rfl, rfl⟩, Nat.le_of_ble_eq_true rfl, Nat.le_of_ble_eq_true rfl⟩ dL_law_320 ?_
  refine lw_cmp 714 hq.1 dL_law_323 (by omega) ?_
  exact kk _ n q (eq_R_w h hq)
theorem lw_off {p : Program} {l : Launch} {e : Env} {s : State} {m : MethodId} {below : List Frame} {meth : Method} {c : Code} {b L : Nat} {xs : Nat → Int32} {G : lc_G} {σ : lc_S} {i n q : Nat} (hX : va_X b L xs s s.heap) (hbl : b < s.heap.size) (hL : L ≤ 2048) (hi : i + 4 ≤ L) (h : eq_R σ n q) (kk : ∀ (σ' : lc_S) (n' q' : Nat), eq_R σ' n' q' → lc_V G (lw_Γ p l e s m below meth c b) cL_law 4 RL 714 (lw_lv G b i) [] σ') : lc_V G (lw_Γ p l e s m below meth c b) cL_law 4 RL 328 (lw_lv G b i) [] σ := by
  have hn := h.1
  have hs : (eq_x σ 0).1 7 0 = nI n := h.2.2.1
  have hs2 : (eq_x σ 2).1 7 0 = nI n := (congrFun h.2.2.2.2.2.2.1 0).trans h.2.2.1
  have hq := eq_off h (xs (i + 1)) (!decide (xs (i + 2) = 0))
  refine lc_eq (show σ = lc_w σ 0 (eq_x σ 0) from (lc_w_w σ 0).symm) ?_
  refine lc_aload_n 1 dL_law_328 rfl ?_
  refine lw_arg 1 (z := 1) hX hbl hL hi (by omega) (by decide) dL_law_329 dL_law_330 dL_law_331 dL_law_332 dL_law_333 ?_
  refine lw_barg hX hbl hL hi dL_law_334 dL_law_335 dL_law_336 dL_law_337 dL_law_338 dL_law_339 dL_law_342 dL_law_343 dL_law_346 ?_
  refine lc_callV (0) (c_X4_off l G σ (eq_x σ 0) n hn hs (xs (i + 1)) (!decide (xs (i + 2) = 0))) rfl rfl mt_X4_off (by omega) rfl rfl ml_L_49 rfl rfl (Nat.le_of_ble_eq_true rfl) ⟨⟨rfl, rfl⟩, Nat.le_of_ble_eq_true rfl, Nat.le_of_ble_eq_true rfl⟩ dL_law_347 ?_
  refine lc_eq (show lc_w σ 0 (sp_off (eq_x σ 0) (xs (i + 1)) (!decide (xs (i + 2) = 0))).2 = lc_w (lc_w σ 0 (sp_off (eq_x σ 0) (xs (i + 1)) (!decide (xs (i + 2) = 0))).2) 2 (eq_x σ 2) from (lc_w_w (lc_w σ 0 (sp_off (eq_x σ 0) (xs (i + 1)) (!decide (xs (i + 2) = 0))).2) 2).symm) ?_
  refine lc_aload_n 2 dL_law_350 rfl ?_
  refine lw_arg 1 (z := 1) hX hbl hL hi (by omega) (by decide) dL_law_351 dL_law_352 dL_law_353 dL_law_354 dL_law_355 ?_
  refine lw_barg hX hbl hL hi dL_law_356 dL_law_357 dL_law_358 dL_law_359 dL_law_360 dL_law_361 dL_law_364 dL_law_365 dL_law_368 ?_
  refine lc_callV (14) (c_X5_off l G (lc_w σ 0 (sp_off (eq_x σ 0) (xs (i + 1)) (!decide (xs (i + 2) = 0))).2) (eq_x σ 2) n hn hs2 (xs (i + 1)) (!decide (xs (i + 2) = 0))) rfl rfl mt_X5_off (by omega) rfl rfl ml_L_53 rfl rfl (Nat.le_of_ble_eq_true rfl) ⟨⟨rfl, rfl⟩, Nat.le_of_ble_eq_true rfl, Nat.le_of_ble_eq_true rfl⟩ dL_law_369 ?_
  refine lw_cmp 714 hq.1 dL_law_372 (by omega) ?_
  exact kk _ n q (eq_R_w h hq)
theorem lw_exchange {p : Program} {l : Launch} {e : Env} {s : State} {m : MethodId} {below : List Frame} {meth : Method} {c : Code} {b L : Nat} {xs : Nat → Int32} {G : lc_G} {σ : lc_S} {i n q : Nat} (hX : va_X b L xs s s.heap) (hbl : b < s.heap.size) (hL : L ≤ 2048) (hi : i + 4 ≤ L) (h : eq_R σ n q) (kk : ∀ (σ' : lc_S) (n' q' : Nat), eq_R σ' n' q' → lc_V G (lw_Γ p l e s m below meth c b) cL_law 4 RL 714 (lw_lv G b i) [] σ') : lc_V G (lw_Γ p l e s m below meth c b) cL_law 4 RL 377 (lw_lv G b i) [] σ := by
  have hn := h.1
  have hs : (eq_x σ 0).1 7 0 = nI n := h.2.2.1
  have hs2 : (eq_x σ 2).1 7 0 = nI n := (congrFun h.2.2.2.2.2.2.1 0).trans h.2.2.1
  have hq := eq_exch h sp_cmp sp_cmpM (fun x a b hx => eq_cmp hx) (fun x a b hx => eq_I_cmp hx a b) (fun x a b => (sp_cmp_r x a b).2) (xs (i + 1)) (xs (i + 2))
  refine lc_eq (show σ = lc_w σ 0 (eq_x σ 0) from (lc_w_w σ 0).symm) ?_
  refine lc_aload_n 1 dL_law_377 rfl ?_
  refine lw_arg 1 (z := 1) hX hbl hL hi (by omega) (by decide) dL_law_378 dL_law_379 dL_law_380 dL_law_381 dL_law_382 ?_
  refine lw_arg 2 (z := 2) hX hbl hL hi (by omega) (by decide) dL_law_383 dL_law_384 dL_law_385 dL_law_386 dL_law_387 ?_
  refine lc_callV (0) (c_X4_exchange l G σ (eq_x σ 0) n hn hs (xs (i + 1)) (xs (i + 2))) rfl rfl mt_X4_exchange (by omega) rfl rfl ml_L_54 rfl rfl (Nat.le_of_ble_eq_true rfl) ⟨⟨rfl, rfl⟩, Nat.le_of_ble_eq_true rfl, Nat.le_of_ble_eq_true rfl⟩ dL_law_388 ?_
  refine lc_eq (show lc_w σ 0 (sp_exch sp_cmp (eq_x σ 0) (xs (i + 1)) (xs (i + 2))).2 = lc_w (lc_w σ 0 (sp_exch sp_cmp (eq_x σ 0) (xs (i + 1)) (xs (i + 2))).2) 2 (eq_x σ 2) from (lc_w_w (lc_w σ 0 (sp_exch sp_cmp (eq_x σ 0) (xs (i + 1)) (xs (i + 2))).2) 2).symm) ?_
  refine lc_aload_n 2 dL_law_391 rfl ?_
  refine lw_arg 1 (z := 1) hX hbl hL hi (by omega) (by decide) dL_law_392 dL_law_393 dL_law_394 dL_law_395 dL_law_396 ?_
  refine lw_arg 2 (z := 2) hX hbl hL hi (by omega) (by decide) dL_law_397 dL_law_398 dL_law_399 dL_law_400 dL_law_401 ?_
  refine lc_callV (14) (c_X5_exchange l G (lc_w σ 0 (sp_exch sp_cmp (eq_x σ 0) (xs (i + 1)) (xs (i + 2))).2) (eq_x σ 2) n hn hs2 (xs (i + 1)) (xs (i + 2))) rfl rfl mt_X5_exchange (by omega) rfl rfl ml_L_57 rfl rfl (Nat.le_of_ble_eq_true rfl) ⟨⟨rfl, rfl⟩, Nat.le_of_ble_eq_true rfl, Nat.le_of_ble_eq_true rfl⟩ dL_law_402 ?_
  refine lw_cmp 714 hq.1 dL_law_405 (by omega) ?_
  exact kk _ n q (eq_R_w h hq)
theorem lw_rumour {p : Program} {l : Launch} {e : Env} {s : State} {m : MethodId} {below : List Frame} {meth : Method} {c : Code} {b L : Nat} {xs : Nat → Int32} {G : lc_G} {σ : lc_S} {i n q : Nat} (hX : va_X b L xs s s.heap) (hbl : b < s.heap.size) (hL : L ≤ 2048) (hi : i + 4 ≤ L) (h : eq_R σ n q) (kk : ∀ (σ' : lc_S) (n' q' : Nat), eq_R σ' n' q' → lc_V G (lw_Γ p l e s m below meth c b) cL_law 4 RL 714 (lw_lv G b i) [] σ') : lc_V G (lw_Γ p l e s m below meth c b) cL_law 4 RL 410 (lw_lv G b i) [] σ := by
  have hn := h.1
  have hs : (eq_x σ 0).1 7 0 = nI n := h.2.2.1
  have hs2 : (eq_x σ 2).1 7 0 = nI n := (congrFun h.2.2.2.2.2.2.1 0).trans h.2.2.1
  have hq := eq_exch h sp_hots sp_hotsM (fun x a b hx => eq_hots hx a b) (fun x a b hx => eq_I_hots hx a b) (fun x a b => (sp_hots_r x a b).2) (xs (i + 1)) (xs (i + 2))
  refine lc_eq (show σ = lc_w σ 0 (eq_x σ 0) from (lc_w_w σ 0).symm) ?_
  refine lc_aload_n 1 dL_law_410 rfl ?_
  refine lw_arg 1 (z := 1) hX hbl hL hi (by omega) (by decide) dL_law_411 dL_law_412 dL_law_413 dL_law_414 dL_law_415 ?_
  refine lw_arg 2 (z := 2) hX hbl hL hi (by omega) (by decide) dL_law_416 dL_law_417 dL_law_418 dL_law_419 dL_law_420 ?_
  refine lc_callV (0) (c_X4_rumour l G σ (eq_x σ 0) n hn hs (xs (i + 1)) (xs (i + 2))) rfl rfl mt_X4_rumour (by omega) rfl rfl ml_L_58 rfl rfl (Nat.le_of_ble_eq_true rfl) ⟨⟨rfl, rfl⟩, Nat.le_of_ble_eq_true rfl, Nat.le_of_ble_eq_true rfl⟩ dL_law_421 ?_
  refine lc_eq (show lc_w σ 0 (sp_exch sp_hots (eq_x σ 0) (xs (i + 1)) (xs (i + 2))).2 = lc_w (lc_w σ 0 (sp_exch sp_hots (eq_x σ 0) (xs (i + 1)) (xs (i + 2))).2) 2 (eq_x σ 2) from (lc_w_w (lc_w σ 0 (sp_exch sp_hots (eq_x σ 0) (xs (i + 1)) (xs (i + 2))).2) 2).symm) ?_
  refine lc_aload_n 2 dL_law_424 rfl ?_
  refine lw_arg 1 (z := 1) hX hbl hL hi (by omega) (by decide) dL_law_425 dL_law_426 dL_law_427 dL_law_428 dL_law_429 ?_
  refine lw_arg 2 (z := 2) hX hbl hL hi (by omega) (by decide) dL_law_430 dL_law_431 dL_law_432 dL_law_433 dL_law_434 ?_
  refine lc_callV (14) (c_X5_rumour l G (lc_w σ 0 (sp_exch sp_hots (eq_x σ 0) (xs (i + 1)) (xs (i + 2))).2) (eq_x σ 2) n hn hs2 (xs (i + 1)) (xs (i + 2))) rfl rfl mt_X5_rumour (by omega) rfl rfl ml_L_61 rfl rfl (Nat.le_of_ble_eq_true rfl) ⟨⟨rfl, rfl⟩, Nat.le_of_ble_eq_true rfl, Nat.le_of_ble_eq_true rfl⟩ dL_law_435 ?_
  refine lw_cmp 714 hq.1 dL_law_438 (by omega) ?_
  exact kk _ n q (eq_R_w h hq)
theorem lw_has {p : Program} {l : Launch} {e : Env} {s : State} {m : MethodId} {below : List Frame} {meth : Method} {c : Code} {b L : Nat} {xs : Nat → Int32} {G : lc_G} {σ : lc_S} {i n q : Nat} (hX : va_X b L xs s s.heap) (hbl : b < s.heap.size) (hL : L ≤ 2048) (hi : i + 4 ≤ L) (h : eq_R σ n q) (kk : ∀ (σ' : lc_S) (n' q' : Nat), eq_R σ' n' q' → lc_V G (lw_Γ p l e s m below meth c b) cL_law 4 RL 714 (lw_lv G b i) [] σ') : lc_V G (lw_Γ p l e s m below meth c b) cL_law 4 RL 443 (lw_lv G b i) [] σ := by
  have hn := h.1
  have hs : (eq_x σ 0).1 7 0 = nI n := h.2.2.1
  have hs2 : (eq_x σ 2).1 7 0 = nI n := (congrFun h.2.2.2.2.2.2.1 0).trans h.2.2.1
  have hq := eq_has h (xs (i + 1)) (xs (i + 2)) (xs (i + 3))
  refine lc_eq (show σ = lc_w σ 0 (eq_x σ 0) from (lc_w_w σ 0).symm) ?_
  refine lc_aload_n 1 dL_law_443 rfl ?_
  refine lw_arg 1 (z := 1) hX hbl hL hi (by omega) (by decide) dL_law_444 dL_law_445 dL_law_446 dL_law_447 dL_law_448 ?_
  refine lw_arg 2 (z := 2) hX hbl hL hi (by omega) (by decide) dL_law_449 dL_law_450 dL_law_451 dL_law_452 dL_law_453 ?_
  refine lw_arg 3 (z := 3) hX hbl hL hi (by omega) (by decide) dL_law_454 dL_law_455 dL_law_456 dL_law_457 dL_law_458 ?_
  refine lc_callV (0) (c_X4_has l G σ (eq_x σ 0) n hn hs (xs (i + 1)) (xs (i + 2)) (xs (i + 3))) rfl rfl mt_X4_has (by omega) rfl rfl ml_L_62 rfl rfl (Nat.le_of_ble_eq_true rfl) ⟨⟨rfl, rfl⟩, Nat.le_of_ble_eq_true rfl, Nat.le_of_ble_eq_true rfl⟩ dL_law_459 ?_
  refine lc_eq (show lc_w σ 0 (eq_x σ 0) = σ from lc_w_w σ 0) ?_
  refine lc_eq (show σ = lc_w σ 2 (eq_x σ 2) from (lc_w_w σ 2).symm) ?_
  refine lc_aload_n 2 dL_law_462 rfl ?_
  refine lw_arg 1 (z := 1) hX hbl hL hi (by omega) (by decide) dL_law_463 dL_law_464 dL_law_465 dL_law_466 dL_law_467 ?_
  refine lw_arg 2 (z := 2) hX hbl hL hi (by omega) (by decide) dL_law_468 dL_law_469 dL_law_470 dL_law_471 dL_law_472 ?_
  refine lw_arg 3 (z := 3) hX hbl hL hi (by omega) (by decide) dL_law_473 dL_law_474 dL_law_475 dL_law_476 dL_law_477 ?_
  refine lc_callV (14) (c_X5_has l G σ (eq_x σ 2) n hn hs2 (xs (i + 1)) (xs (i + 2)) (xs (i + 3))) rfl rfl mt_X5_has (by omega) rfl rfl ml_L_65 rfl rfl (Nat.le_of_ble_eq_true rfl) ⟨⟨rfl, rfl⟩, Nat.le_of_ble_eq_true rfl, Nat.le_of_ble_eq_true rfl⟩ dL_law_478 ?_
  refine lw_cmp 714 hq dL_law_481 (by omega) ?_
  refine lc_eq (lw_id (ρ := σ) (τ := σ) rfl) ?_
  exact kk _ n q h
theorem lw_newest {p : Program} {l : Launch} {e : Env} {s : State} {m : MethodId} {below : List Frame} {meth : Method} {c : Code} {b L : Nat} {xs : Nat → Int32} {G : lc_G} {σ : lc_S} {i n q : Nat} (hX : va_X b L xs s s.heap) (hbl : b < s.heap.size) (hL : L ≤ 2048) (hi : i + 4 ≤ L) (h : eq_R σ n q) (kk : ∀ (σ' : lc_S) (n' q' : Nat), eq_R σ' n' q' → lc_V G (lw_Γ p l e s m below meth c b) cL_law 4 RL 714 (lw_lv G b i) [] σ') : lc_V G (lw_Γ p l e s m below meth c b) cL_law 4 RL 486 (lw_lv G b i) [] σ := by
  have hn := h.1
  have hs : (eq_x σ 0).1 7 0 = nI n := h.2.2.1
  have hs2 : (eq_x σ 2).1 7 0 = nI n := (congrFun h.2.2.2.2.2.2.1 0).trans h.2.2.1
  have hq := eq_newest h (xs (i + 1)) (xs (i + 2))
  refine lc_eq (show σ = lc_w σ 0 (eq_x σ 0) from (lc_w_w σ 0).symm) ?_
  refine lc_aload_n 1 dL_law_486 rfl ?_
  refine lw_arg 1 (z := 1) hX hbl hL hi (by omega) (by decide) dL_law_487 dL_law_488 dL_law_489 dL_law_490 dL_law_491 ?_
  refine lw_arg 2 (z := 2) hX hbl hL hi (by omega) (by decide) dL_law_492 dL_law_493 dL_law_494 dL_law_495 dL_law_496 ?_
  refine lc_callV (0) (c_X4_newest l G σ (eq_x σ 0) n hn hs (xs (i + 1)) (xs (i + 2))) rfl rfl mt_X4_newest (by omega) rfl rfl ml_L_66 rfl rfl (Nat.le_of_ble_eq_true rfl) ⟨⟨rfl, rfl⟩, Nat.le_of_ble_eq_true rfl, Nat.le_of_ble_eq_true rfl⟩ dL_law_497 ?_
  refine lc_eq (show lc_w σ 0 (eq_x σ 0) = σ from lc_w_w σ 0) ?_
  refine lc_eq (show σ = lc_w σ 2 (eq_x σ 2) from (lc_w_w σ 2).symm) ?_
  refine lc_aload_n 2 dL_law_500 rfl ?_
  refine lw_arg 1 (z := 1) hX hbl hL hi (by omega) (by decide) dL_law_501 dL_law_502 dL_law_503 dL_law_504 dL_law_505 ?_
  refine lw_arg 2 (z := 2) hX hbl hL hi (by omega) (by decide) dL_law_506 dL_law_507 dL_law_508 dL_law_509 dL_law_510 ?_
  refine lc_callV (14) (c_X5_newest l G σ (eq_x σ 2) n hn hs2 (xs (i + 1)) (xs (i + 2))) rfl rfl mt_X5_newest (by omega) rfl rfl ml_L_69 rfl rfl (Nat.le_of_ble_eq_true rfl) ⟨⟨rfl, rfl⟩, Nat.le_of_ble_eq_true rfl, Nat.le_of_ble_eq_true rfl⟩ dL_law_511 ?_
  refine lw_cmp 714 hq dL_law_514 (by omega) ?_
  refine lc_eq (lw_id (ρ := σ) (τ := σ) rfl) ?_
  exact kk _ n q h
theorem lw_alike {p : Program} {l : Launch} {e : Env} {s : State} {m : MethodId} {below : List Frame} {meth : Method} {c : Code} {b L : Nat} {xs : Nat → Int32} {G : lc_G} {σ : lc_S} {i n q : Nat} (hX : va_X b L xs s s.heap) (hbl : b < s.heap.size) (hL : L ≤ 2048) (hi : i + 4 ≤ L) (h : eq_R σ n q) (kk : ∀ (σ' : lc_S) (n' q' : Nat), eq_R σ' n' q' → lc_V G (lw_Γ p l e s m below meth c b) cL_law 4 RL 714 (lw_lv G b i) [] σ') : lc_V G (lw_Γ p l e s m below meth c b) cL_law 4 RL 519 (lw_lv G b i) [] σ := by
  have hn := h.1
  have hs : (eq_x σ 0).1 7 0 = nI n := h.2.2.1
  have hs2 : (eq_x σ 2).1 7 0 = nI n := (congrFun h.2.2.2.2.2.2.1 0).trans h.2.2.1
  have hq := eq_alk h (xs (i + 1)) (xs (i + 2))
  refine lc_eq (show σ = lc_w σ 0 (eq_x σ 0) from (lc_w_w σ 0).symm) ?_
  refine lc_aload_n 1 dL_law_519 rfl ?_
  refine lw_arg 1 (z := 1) hX hbl hL hi (by omega) (by decide) dL_law_520 dL_law_521 dL_law_522 dL_law_523 dL_law_524 ?_
  refine lw_arg 2 (z := 2) hX hbl hL hi (by omega) (by decide) dL_law_525 dL_law_526 dL_law_527 dL_law_528 dL_law_529 ?_
  refine lc_callV (0) (c_X4_alike l G σ (eq_x σ 0) n hn hs (xs (i + 1)) (xs (i + 2))) rfl rfl mt_X4_alike (by omega) rfl rfl ml_L_70 rfl rfl (Nat.le_of_ble_eq_true rfl) ⟨⟨rfl, rfl⟩, Nat.le_of_ble_eq_true rfl, Nat.le_of_ble_eq_true rfl⟩ dL_law_530 ?_
  refine lc_eq (show lc_w σ 0 (eq_x σ 0) = σ from lc_w_w σ 0) ?_
  refine lc_eq (show σ = lc_w σ 2 (eq_x σ 2) from (lc_w_w σ 2).symm) ?_
  refine lc_aload_n 2 dL_law_533 rfl ?_
  refine lw_arg 1 (z := 1) hX hbl hL hi (by omega) (by decide) dL_law_534 dL_law_535 dL_law_536 dL_law_537 dL_law_538 ?_
  refine lw_arg 2 (z := 2) hX hbl hL hi (by omega) (by decide) dL_law_539 dL_law_540 dL_law_541 dL_law_542 dL_law_543 ?_
  refine lc_callV (14) (c_X5_alike l G σ (eq_x σ 2) n hn hs2 (xs (i + 1)) (xs (i + 2))) rfl rfl mt_X5_alike (by omega) rfl rfl ml_L_73 rfl rfl (Nat.le_of_ble_eq_true rfl) ⟨⟨rfl, rfl⟩, Nat.le_of_ble_eq_true rfl, Nat.le_of_ble_eq_true rfl⟩ dL_law_544 ?_
  refine lw_cmp 714 hq dL_law_547 (by omega) ?_
  refine lc_eq (lw_id (ρ := σ) (τ := σ) rfl) ?_
  exact kk _ n q h
theorem lw_risen {p : Program} {l : Launch} {e : Env} {s : State} {m : MethodId} {below : List Frame} {meth : Method} {c : Code} {b L : Nat} {xs : Nat → Int32} {G : lc_G} {σ : lc_S} {i n q : Nat} (hX : va_X b L xs s s.heap) (hbl : b < s.heap.size) (hL : L ≤ 2048) (hi : i + 4 ≤ L) (h : eq_R σ n q) (kk : ∀ (σ' : lc_S) (n' q' : Nat), eq_R σ' n' q' → lc_V G (lw_Γ p l e s m below meth c b) cL_law 4 RL 714 (lw_lv G b i) [] σ') : lc_V G (lw_Γ p l e s m below meth c b) cL_law 4 RL 552 (lw_lv G b i) [] σ := by
  have hn := h.1
  have hs : (eq_x σ 0).1 7 0 = nI n := h.2.2.1
  have hs2 : (eq_x σ 2).1 7 0 = nI n := (congrFun h.2.2.2.2.2.2.1 0).trans h.2.2.1
  have hq := eq_risen h (xs (i + 1))
  refine lc_eq (show σ = lc_w σ 0 (eq_x σ 0) from (lc_w_w σ 0).symm) ?_
  refine lc_aload_n 1 dL_law_552 rfl ?_
  refine lw_arg 1 (z := 1) hX hbl hL hi (by omega) (by decide) dL_law_553 dL_law_554 dL_law_555 dL_law_556 dL_law_557 ?_
  refine lc_callV (0) (c_X4_risen l G σ (eq_x σ 0) n hn hs (xs (i + 1))) rfl rfl mt_X4_risen (by omega) rfl rfl ml_L_74 rfl rfl (Nat.le_of_ble_eq_true rfl) ⟨⟨rfl, rfl⟩, Nat.le_of_ble_eq_true rfl, Nat.le_of_ble_eq_true rfl⟩ dL_law_558 ?_
  refine lc_eq (show lc_w σ 0 (eq_x σ 0) = σ from lc_w_w σ 0) ?_
  refine lc_eq (show σ = lc_w σ 2 (eq_x σ 2) from (lc_w_w σ 2).symm) ?_
  refine lc_aload_n 2 dL_law_561 rfl ?_
  refine lw_arg 1 (z := 1) hX hbl hL hi (by omega) (by decide) dL_law_562 dL_law_563 dL_law_564 dL_law_565 dL_law_566 ?_
  refine lc_callV (14) (c_X5_risen l G σ (eq_x σ 2) n hn hs2 (xs (i + 1))) rfl rfl mt_X5_risen (by omega) rfl rfl ml_L_77 rfl rfl (Nat.le_of_ble_eq_true rfl) ⟨⟨rfl, rfl⟩, Nat.le_of_ble_eq_true rfl, Nat.le_of_ble_eq_true rfl⟩ dL_law_567 ?_
  refine lw_cmp 714 hq dL_law_570 (by omega) ?_
  refine lc_eq (lw_id (ρ := σ) (τ := σ) rfl) ?_
  exact kk _ n q h
theorem lw_partner {p : Program} {l : Launch} {e : Env} {s : State} {m : MethodId} {below : List Frame} {meth : Method} {c : Code} {b L : Nat} {xs : Nat → Int32} {G : lc_G} {σ : lc_S} {i n q : Nat} (hX : va_X b L xs s s.heap) (hbl : b < s.heap.size) (hL : L ≤ 2048) (hi : i + 4 ≤ L) (h : eq_R σ n q) (kk : ∀ (σ' : lc_S) (n' q' : Nat), eq_R σ' n' q' → lc_V G (lw_Γ p l e s m below meth c b) cL_law 4 RL 714 (lw_lv G b i) [] σ') : lc_V G (lw_Γ p l e s m below meth c b) cL_law 4 RL 575 (lw_lv G b i) [] σ := by
  have hn := h.1
  have hs : (eq_x σ 0).1 7 0 = nI n := h.2.2.1
  have hs2 : (eq_x σ 2).1 7 0 = nI n := (congrFun h.2.2.2.2.2.2.1 0).trans h.2.2.1
  have hq := eq_partner h (xs (i + 1)) (xs (i + 2)) (xs (i + 3))
  refine lc_eq (show σ = lc_w σ 0 (eq_x σ 0) from (lc_w_w σ 0).symm) ?_
  refine lc_aload_n 1 dL_law_575 rfl ?_
  refine lw_arg 1 (z := 1) hX hbl hL hi (by omega) (by decide) dL_law_576 dL_law_577 dL_law_578 dL_law_579 dL_law_580 ?_
  refine lw_arg 2 (z := 2) hX hbl hL hi (by omega) (by decide) dL_law_581 dL_law_582 dL_law_583 dL_law_584 dL_law_585 ?_
  refine lw_arg 3 (z := 3) hX hbl hL hi (by omega) (by decide) dL_law_586 dL_law_587 dL_law_588 dL_law_589 dL_law_590 ?_
  refine lc_callV (0) (c_X4_partner l G σ (eq_x σ 0) n hn hs (xs (i + 1)) (xs (i + 2)) (xs (i + 3))) rfl rfl mt_X4_partner (by omega) rfl rfl ml_L_78 rfl rfl (Nat.le_of_ble_eq_true rfl) ⟨⟨rfl, rfl⟩, Nat.le_of_ble_eq_true rfl, Nat.le_of_ble_eq_true rfl⟩ dL_law_591 ?_
  refine lc_eq (show lc_w σ 0 (eq_x σ 0) = σ from lc_w_w σ 0) ?_
  refine lc_eq (show σ = lc_w σ 2 (eq_x σ 2) from (lc_w_w σ 2).symm) ?_
  refine lc_aload_n 2 dL_law_594 rfl ?_
  refine lw_arg 1 (z := 1) hX hbl hL hi (by omega) (by decide) dL_law_595 dL_law_596 dL_law_597 dL_law_598 dL_law_599 ?_
  refine lw_arg 2 (z := 2) hX hbl hL hi (by omega) (by decide) dL_law_600 dL_law_601 dL_law_602 dL_law_603 dL_law_604 ?_
  refine lw_arg 3 (z := 3) hX hbl hL hi (by omega) (by decide) dL_law_605 dL_law_606 dL_law_607 dL_law_608 dL_law_609 ?_
  refine lc_callV (14) (c_X5_partner l G σ (eq_x σ 2) n hn hs2 (xs (i + 1)) (xs (i + 2)) (xs (i + 3))) rfl rfl mt_X5_partner (by omega) rfl rfl ml_L_81 rfl rfl (Nat.le_of_ble_eq_true rfl) ⟨⟨rfl, rfl⟩, Nat.le_of_ble_eq_true rfl, Nat.le_of_ble_eq_true rfl⟩ dL_law_610 ?_
  refine lw_cmp 714 hq dL_law_613 (by omega) ?_
  by_cases hc : (sp_site (eq_x σ 2).1 (xs (i + 1)) && (decide (0 ≤ (xs (i + 2))) && sp_win (xs (i + 3)) 0 1)) = true
  · rw [if_pos hc]
    refine lc_eq (lw_id (ρ := lc_ul σ 0 _) (τ := σ) rfl) ?_
    exact kk _ n q (eq_R_ul h 0 _)
  · rw [if_neg hc]
    refine lc_eq (lw_id (ρ := σ) (τ := σ) rfl) ?_
    exact kk _ n q h
theorem lw_settle {p : Program} {l : Launch} {e : Env} {s : State} {m : MethodId} {below : List Frame} {meth : Method} {c : Code} {b L : Nat} {xs : Nat → Int32} {G : lc_G} {σ : lc_S} {i n q : Nat} (hX : va_X b L xs s s.heap) (hbl : b < s.heap.size) (hL : L ≤ 2048) (hi : i + 4 ≤ L) (h : eq_R σ n q) (kk : ∀ (σ' : lc_S) (n' q' : Nat), eq_R σ' n' q' → lc_V G (lw_Γ p l e s m below meth c b) cL_law 4 RL 714 (lw_lv G b i) [] σ') : lc_V G (lw_Γ p l e s m below meth c b) cL_law 4 RL 618 (lw_lv G b i) [] σ := by
  have hn := h.1
  have hs : (eq_x σ 0).1 7 0 = nI n := h.2.2.1
  have hs2 : (eq_x σ 2).1 7 0 = nI n := (congrFun h.2.2.2.2.2.2.1 0).trans h.2.2.1
  have hq := eq_settle h (xs (i + 1)) (!decide (xs (i + 2) = 0)) (xs (i + 3))
  refine lc_aload_n 1 dL_law_618 rfl ?_
  refine lw_arg 1 (z := 1) hX hbl hL hi (by omega) (by decide) dL_law_619 dL_law_620 dL_law_621 dL_law_622 dL_law_623 ?_
  refine lw_barg hX hbl hL hi dL_law_624 dL_law_625 dL_law_626 dL_law_627 dL_law_628 dL_law_629 dL_law_632 dL_law_633 dL_law_636 ?_
  refine lw_arg 3 (z := 3) hX hbl hL hi (by omega) (by decide) dL_law_637 dL_law_638 dL_law_639 dL_law_640 dL_law_641 ?_
  refine lc_callV (0) (c_X4_settle l G σ n hn h.2.2.1 (xs (i + 1)) (!decide (xs (i + 2) = 0)) (xs (i + 3))) rfl rfl mt_X4_settle (by omega) rfl rfl ml_L_82 rfl rfl (Nat.le_of_ble_eq_true rfl) ⟨⟨rfl, rfl⟩, Nat.le_of_ble_eq_true rfl, Nat.le_of_ble_eq_true rfl⟩ dL_law_642 ?_
  have e2 := lw_st2 σ n (xs (i + 1)) (!decide (xs (i + 2) = 0)) (xs (i + 3))
  generalize (sp_stv σ n (xs (i + 1)) (!decide (xs (i + 2) = 0)) (xs (i + 3))).2 = τ at hq e2 ⊢
  have hs3 : τ.1 2 7 0 = nI n := (congrFun (congrFun e2 7) 0).trans hs2
  refine lc_aload_n 2 dL_law_645 rfl ?_
  refine lw_arg 1 (z := 1) hX hbl hL hi (by omega) (by decide) dL_law_646 dL_law_647 dL_law_648 dL_law_649 dL_law_650 ?_
  refine lw_barg hX hbl hL hi dL_law_651 dL_law_652 dL_law_653 dL_law_654 dL_law_655 dL_law_656 dL_law_659 dL_law_660 dL_law_663 ?_
  refine lw_arg 3 (z := 3) hX hbl hL hi (by omega) (by decide) dL_law_664 dL_law_665 dL_law_666 dL_law_667 dL_law_668 ?_
  refine lc_callV (14) (c_X5_settle l G τ n hn hs3 (xs (i + 1)) (!decide (xs (i + 2) = 0)) (xs (i + 3))) rfl rfl mt_X5_settle (by omega) rfl rfl ml_L_86 rfl rfl (Nat.le_of_ble_eq_true rfl) ⟨⟨rfl, rfl⟩, Nat.le_of_ble_eq_true rfl, Nat.le_of_ble_eq_true rfl⟩ dL_law_669 ?_
  refine lw_cmp 714 hq.1 dL_law_672 (by omega) ?_
  exact kk _ n q hq.2
theorem lw_count {p : Program} {l : Launch} {e : Env} {s : State} {m : MethodId} {below : List Frame} {meth : Method} {c : Code} {b L : Nat} {xs : Nat → Int32} {G : lc_G} {σ : lc_S} {i n q : Nat} (hX : va_X b L xs s s.heap) (hbl : b < s.heap.size) (hL : L ≤ 2048) (hi : i + 4 ≤ L) (h : eq_R σ n q) (kk : ∀ (σ' : lc_S) (n' q' : Nat), eq_R σ' n' q' → lc_V G (lw_Γ p l e s m below meth c b) cL_law 4 RL 714 (lw_lv G b i) [] σ') : lc_V G (lw_Γ p l e s m below meth c b) cL_law 4 RL 677 (lw_lv G b i) [] σ := by
  have hn := h.1
  have hs : (eq_x σ 0).1 7 0 = nI n := h.2.2.1
  have hs2 : (eq_x σ 2).1 7 0 = nI n := (congrFun h.2.2.2.2.2.2.1 0).trans h.2.2.1
  have hq := eq_count h (xs (i + 1))
  refine lc_eq (show σ = lc_w σ 0 (eq_x σ 0) from (lc_w_w σ 0).symm) ?_
  refine lc_aload_n 1 dL_law_677 rfl ?_
  refine lw_arg 1 (z := 1) hX hbl hL hi (by omega) (by decide) dL_law_678 dL_law_679 dL_law_680 dL_law_681 dL_law_682 ?_
  refine lc_callV (0) (c_X4_count l G σ (eq_x σ 0) n hn hs (xs (i + 1))) rfl rfl mt_X4_count (by omega) rfl rfl ml_L_87 rfl rfl (Nat.le_of_ble_eq_true rfl) ⟨⟨rfl, rfl⟩, Nat.le_of_ble_eq_true rfl, Nat.le_of_ble_eq_true rfl⟩ dL_law_683 ?_
  refine lc_eq (show lc_w σ 0 (eq_x σ 0) = σ from lc_w_w σ 0) ?_
  refine lc_eq (show σ = lc_w σ 2 (eq_x σ 2) from (lc_w_w σ 2).symm) ?_
  refine lc_aload_n 2 dL_law_686 rfl ?_
  refine lw_arg 1 (z := 1) hX hbl hL hi (by omega) (by decide) dL_law_687 dL_law_688 dL_law_689 dL_law_690 dL_law_691 ?_
  refine lc_callV (14) (c_X5_count l G σ (eq_x σ 2) (xs (i + 1))) rfl rfl mt_X5_count (by omega) rfl rfl ml_L_90 rfl rfl (Nat.le_of_ble_eq_true rfl) ⟨⟨rfl, rfl⟩, Nat.le_of_ble_eq_true rfl, Nat.le_of_ble_eq_true rfl⟩ dL_law_692 ?_
  refine lw_cmp 714 hq dL_law_695 (by omega) ?_
  refine lc_eq (lw_id (ρ := σ) (τ := σ) rfl) ?_
  exact kk _ n q h
theorem lw_cmp0 (x : Int64) : lg_cmp x x = 0 := by
  unfold lg_cmp
  simp
theorem lw_digest {p : Program} {l : Launch} {e : Env} {s : State} {m : MethodId} {below : List Frame} {meth : Method} {c : Code} {b L : Nat} {xs : Nat → Int32} {G : lc_G} {σ : lc_S} {i n q : Nat} (hX : va_X b L xs s s.heap) (hbl : b < s.heap.size) (hL : L ≤ 2048) (hi : i + 4 ≤ L) (h : eq_R σ n q) (kk : ∀ (σ' : lc_S) (n' q' : Nat), eq_R σ' n' q' → lc_V G (lw_Γ p l e s m below meth c b) cL_law 4 RL 714 (lw_lv G b i) [] σ') : lc_V G (lw_Γ p l e s m below meth c b) cL_law 4 RL 700 (lw_lv G b i) [] σ := by
  have hn := h.1
  have hs : (eq_x σ 0).1 7 0 = nI n := h.2.2.1
  have hs2 : (eq_x σ 2).1 7 0 = nI n := (congrFun h.2.2.2.2.2.2.1 0).trans h.2.2.1
  have hq := eq_digest h
  refine lc_aload_n 1 dL_law_700 rfl ?_
  refine lc_callV (0) (c_X4_digest l G σ n q hn h.2.2.1 h.2.2.2.1 h.2.1) rfl rfl mt_X4_digest (by omega) rfl rfl ml_L_91 rfl rfl (Nat.le_of_ble_eq_true rfl) ⟨⟨rfl, rfl⟩, Nat.le_of_ble_eq_true rfl, Nat.le_of_ble_eq_true rfl⟩ dL_law_701 ?_
  have e2 := lw_dg2 σ n q
  generalize (sp_digC σ n q).2 = τ at hq e2 ⊢
  have hs3 : τ.1 2 7 0 = nI n := (congrFun (congrFun e2.1 7) 0).trans hs2
  refine lc_aload_n 2 dL_law_704 rfl ?_
  refine lc_callV (14) (c_X5_digest l G τ n q hn hs3 (e2.2.trans h.2.2.2.2.1) h.2.1) rfl rfl mt_X5_digest (by omega) rfl rfl ml_L_95 rfl rfl (Nat.le_of_ble_eq_true rfl) ⟨⟨rfl, rfl⟩, Nat.le_of_ble_eq_true rfl, Nat.le_of_ble_eq_true rfl⟩ dL_law_705 ?_
  refine lc_lcmp dL_law_708 ?_
  refine lc_if_eq 714 dL_law_709 (by omega) (fun _ => ?_) (fun z => absurd (by rw [hq.1]; exact lw_cmp0 _) z.1)
  exact kk _ n q hq.2
