/-! the state of both systems, as numbers; the cells that hold it; the walk's judgement lc_V -/
abbrev lc_C : Type := Nat → Nat → Int32
abbrev lc_X : Type := lc_C × Int32 × Int32 × Int32
abbrev lc_S : Type := (Nat → lc_C) × (Nat → Nat → Int32) × (Nat → Int64)
abbrev lc_G := (Nat → Nat) × (Nat → ClassId) × (Nat → Nat → Nat) × ClassId × ClassId × Nat × Nat × Nat
def lc_cu (B : lc_C) (r k : Nat) (v : Int32) : lc_C := fun a b => if a = r ∧ b = k then v else B a b
def lc_uo (σ : lc_S) (r k : Nat) (v : Int32) : lc_S := (σ.1, fun a b => if a = r ∧ b = k then v else σ.2.1 a b, σ.2.2)
def lc_ul (σ : lc_S) (k : Nat) (v : Int64) : lc_S := (σ.1, σ.2.1, fun a => if a = k then v else σ.2.2 a)
def lc_ad (f : Nat → Int32) (t w g : Int32) : Nat → Int32 := fun k => if k = 0 then f 0 + t else if k = 1 then f 1 + w else if k = 2 then f 2 + g else f k
def lc_w (σ : lc_S) (j : Nat) (x : lc_X) : lc_S := (fun a => if a = j then x.1 else σ.1 a, fun r => if r = j then lc_ad (σ.2.1 j) x.2.1 x.2.2.1 x.2.2.2 else σ.2.1 r, σ.2.2)
abbrev lc_it (j i : Nat) : Nat := 26 + 24 * j + i
def lc_bi (b : Bool) : Int32 := if b = true then 1 else 0
abbrev lc_iE (σ : lc_S) (j i : Nat) : va_E := .inr (0, [.int (σ.1 j 0 i), .int (σ.1 j 1 i), .int (σ.1 j 2 i), .int (σ.1 j 3 i), .int (σ.1 j 4 i), .int (σ.1 j 5 i)])
abbrev lc_wE (G : lc_G) (σ : lc_S) (j : Nat) : va_E := .inr (3, [.ref (G.1 (6 + j)), .ref (G.1 (8 + j)), .ref (G.1 (10 + j)), .ref (G.1 (12 + j)), .int (σ.1 j 7 0), .int (σ.1 j 7 1), .int (σ.1 j 7 2), .int (σ.2.1 j 0), .int (σ.2.1 j 1), .int (σ.2.1 j 2)])
abbrev lc_mE (G : lc_G) (σ : lc_S) : va_E := .inr (5, [.int (σ.2.1 12 0), .ref (G.1 15), .int (σ.1 2 7 0), .ref (G.1 16), .int (σ.1 2 7 1), .int (σ.1 2 7 2), .int (σ.2.1 2 0), .int (σ.2.1 2 1), .int (σ.2.1 2 2), .int (σ.2.1 12 1), .ref (G.1 17), .ref (G.1 18), .ref (G.1 19), .ref (G.1 20), .ref (G.1 21), .ref (G.1 22), .ref (G.1 23), .ref (G.1 24), .long (σ.2.2 0), .ref (G.1 25), .int (σ.2.1 12 2), .int (σ.2.1 12 3), .long (σ.2.2 1)])
abbrev lc_aE (G : lc_G) (n : Nat) (f : Nat → Int32) : va_E := .inl (G.2.2.2.1, n, .inl f)
def lc_ent (G : lc_G) (σ : lc_S) (k : Nat) : va_E := match k with
  | 0 => .inr (4, [.ref (G.1 1), .ref (G.1 4), .ref (G.1 3), .int (σ.2.1 10 1)])
  | 1 => .inr (1, [.ref (G.1 2), .int (σ.2.1 10 0)])
  | 2 => lc_aE G 6 (σ.2.1 9)
  | 3 => .inr (2, [.ref (G.1 5), .int (σ.2.1 10 2), .int (σ.2.1 10 3)])
  | 4 => lc_wE G σ 0
  | 5 => lc_wE G σ 1
  | 6 => lc_aE G 4 (σ.1 0 6)
  | 7 => lc_aE G 4 (σ.1 1 6)
  | 8 => lc_aE G 6 (σ.2.1 6)
  | 9 => lc_aE G 6 (σ.2.1 7)
  | 10 => .inl (G.2.2.2.2.1, 24, .inr (.inr (.inr (.inr (fun i => some (G.1 (lc_it 0 i)))))))
  | 11 => .inl (G.2.2.2.2.1, 24, .inr (.inr (.inr (.inr (fun i => some (G.1 (lc_it 1 i)))))))
  | 12 => lc_aE G 4 (σ.2.1 3)
  | 13 => lc_aE G 4 (σ.2.1 4)
  | 14 => lc_mE G σ
  | 15 => lc_aE G 6 (σ.2.1 11)
  | 16 => lc_aE G 6 (σ.2.1 8)
  | 17 => lc_aE G 4 (σ.1 2 6)
  | 18 => lc_aE G 24 (σ.1 2 0)
  | 19 => lc_aE G 24 (σ.1 2 1)
  | 20 => lc_aE G 24 (σ.1 2 2)
  | 21 => lc_aE G 24 (σ.1 2 3)
  | 22 => lc_aE G 24 (σ.1 2 4)
  | 23 => lc_aE G 24 (σ.1 2 5)
  | 24 => lc_aE G 4 (σ.2.1 5)
  | 25 => lc_aE G 148 (σ.2.1 13)
  | k + 26 => lc_iE σ (k / 24) (k % 24)
theorem lc_ent_it (G : lc_G) (σ : lc_S) {j i : Nat} (hi : i < 24) : lc_ent G σ (lc_it j i) = lc_iE σ j i := by
  have e : lc_it j i = (24 * j + i) + 26 := by unfold lc_it; omega
  rw [e]
  show lc_iE σ ((24 * j + i) / 24) ((24 * j + i) % 24) = _
  have h1 : (24 * j + i) / 24 = j := by omega
  have h2 : (24 * j + i) % 24 = i := by omega
  rw [h1, h2]
def lc_ws (G : lc_G) (σ : lc_S) : va_W := (List.range 74).map (fun k => (G.1 k, lc_ent G σ k))
theorem lc_ws_get (G : lc_G) (σ : lc_S) {k : Nat} (hk : k < 74) : (lc_ws G σ)[k]? = some (G.1 k, lc_ent G σ k) := by
  simp [lc_ws, List.getElem?_map, List.getElem?_range hk]
theorem lc_ws_len (G : lc_G) (σ : lc_S) : (lc_ws G σ).length = 74 := by simp [lc_ws]
theorem lc_ws_set (G : lc_G) (σ σ' : lc_S) {k : Nat} {E : va_E} (h1 : lc_ent G σ' k = E) (h2 : ∀ i, i < 74 → i ≠ k → lc_ent G σ' i = lc_ent G σ i) : (lc_ws G σ).set k (G.1 k, E) = lc_ws G σ' := by
  apply List.ext_getElem?
  intro i
  by_cases hi : i < 74
  · by_cases hk : k = i
    · subst hk
      rw [List.getElem?_set_self (by rw [lc_ws_len]; exact hi), lc_ws_get G σ' hi, h1]
    · rw [List.getElem?_set_ne hk, lc_ws_get G σ hi, lc_ws_get G σ' hi, h2 i hi (fun e => hk e.symm)]
  · rw [List.getElem?_eq_none (by rw [List.length_set, lc_ws_len]; omega), List.getElem?_eq_none (by rw [lc_ws_len]; omega)]
theorem lc_ws_mem {G : lc_G} {σ : lc_S} {i : Nat} {q : Nat × va_E} (h : (lc_ws G σ)[i]? = some q) : i < 74 ∧ q = (G.1 i, lc_ent G σ i) := by
  have hi : i < 74 := by have := (List.getElem?_eq_some_iff.mp h).1; rw [lc_ws_len] at this; exact this
  rw [lc_ws_get G σ hi] at h
  exact ⟨hi, (Option.some.inj h).symm⟩
/-- the tables' words that a walk uses -/
def lc_gw (w : Cond) : Bool := goodWord w || (match w with | .fieldLinkNest _ _ _ _ _ _ => true | .methodLinkNest _ _ _ _ => true | _ => false)
def lc_T : List Cond := lw_tbl.filter lc_gw
def lc_Tb (U : State) : Prop := ∀ w ∈ lc_T, w.before #[] U = true
theorem lc_gw_nest {w : Cond} (h : lc_gw w = true) (hg : ¬ goodWord w = true) : (∃ a i b n d h, w = .fieldLinkNest a i b n d h) ∨ (∃ a i x h, w = .methodLinkNest a i x h) := by
  unfold lc_gw at h
  cases w <;> first | exact Or.inl ⟨_, _, _, _, _, _, rfl⟩ | exact Or.inr ⟨_, _, _, _, rfl⟩ | (exfalso; simp only [Bool.or_false] at h; exact hg h)
theorem lc_Tb.warm {s U : State} (hW : s.WarmedH U.vm) (h : lc_Tb s) : lc_Tb U := by
  intro w hw
  have hg : lc_gw w = true := (List.mem_filter.mp hw).2
  by_cases hq : goodWord w = true
  · exact word_at hW (good_of_word hq) (h w hw)
  · rcases lc_gw_nest hg hq with ⟨a, i, b, n, d, hh, rfl⟩ | ⟨a, i, x, hh, rfl⟩
    · exact va_Nw.warmF hW (h _ hw)
    · exact va_Nw.warmM hW (h _ hw)
theorem lc_Tb.use {s : State} (h : lc_Tb s) (args : Array Value) {w : Cond} (hw : w ∈ lc_T) : w.before args s = true := by
  have hg : lc_gw w = true := (List.mem_filter.mp hw).2
  by_cases hq : goodWord w = true
  · exact word_at (State.WarmedH.refl s) (good_of_word hq) (h w hw)
  · rcases lc_gw_nest hg hq with ⟨a, i, b, n, d, hh, rfl⟩ | ⟨a, i, x, hh, rfl⟩
    · exact va_Nw.use rfl (h _ hw)
    · exact va_Nw.use rfl (h _ hw)
theorem lc_in {w : Cond} (i : Nat) (h : lw_tbl[i]? = some w) (hg : lc_gw w = true) : w ∈ lc_T := List.mem_filter.mpr ⟨List.mem_of_getElem? h, hg⟩
def lc_K (G : lc_G) (U : State) : Prop := va_K (G.2.1, G.2.2.1) vwCl [(G.2.2.2.1, .int), (G.2.2.2.2.1, .object "LateCopies$Item")] U
def lc_P (G : lc_G) (σ : lc_S) (H : Heap) : Prop := va_P (G.2.1, G.2.2.1) vwCl (lc_ws G σ) H
def lc_Ap (G : lc_G) : Prop := ∀ i j, i < 74 → j < 74 → G.1 i = G.1 j → i = j
def lc_A (G : lc_G) : Nat → Prop := fun q => ∃ k, k < 74 ∧ q = G.1 k
def lc_least : Nat → Int32 := fun k => match k with | 0 => 1 | 1 => 0 | 2 => 1 | _ => 0
def lc_most : Nat → Int32 := fun k => match k with | 0 => 50 | 1 => 200 | 2 => 3 | _ => 50
def lc_wei : Nat → Int32 := fun k => match k with | 0 => 60 | 1 => 30 | 2 => 20 | 3 => 15 | _ => 12
def lc_St (G : lc_G) (A : Nat → Prop) (U : State) (H : Heap) : Prop :=
  (va_Z "LateCopies" "LEAST_LIMITS" "[I" (.ref G.2.2.2.2.2.1) A U H ∧ va_T .int G.2.2.2.2.2.1 4 (fun k => .int (lc_least k)) A U H) ∧
  (va_Z "LateCopies" "MOST_LIMITS" "[I" (.ref G.2.2.2.2.2.2.1) A U H ∧ va_T .int G.2.2.2.2.2.2.1 4 (fun k => .int (lc_most k)) A U H) ∧
  (va_Z "LateCopies" "WEIGHTS" "[I" (.ref G.2.2.2.2.2.2.2) A U H ∧ va_T .int G.2.2.2.2.2.2.2 5 (fun k => .int (lc_wei k)) A U H)
theorem lc_St.moved {G : lc_G} {A : Nat → Prop} {u U : State} {H : Heap} (hvm : u.vm.Alike U.vm) (h : lc_St G A u H) : lc_St G A U H :=
  ⟨⟨h.1.1.moved hvm, h.1.2.moved hvm⟩, ⟨h.2.1.1.moved hvm, h.2.1.2.moved hvm⟩, h.2.2.1.moved hvm, h.2.2.2.moved hvm⟩
theorem lc_St.kept {G : lc_G} {A : Nat → Prop} {U : State} {H H1 : Heap} (h : lc_St G A U H) (hq : ∀ a : Nat, a < H.size → ¬ A a → H1[a]? = H[a]?) : lc_St G A U H1 :=
  ⟨⟨h.1.1.kept hq, h.1.2.kept hq⟩, ⟨h.2.1.1.kept hq, h.2.1.2.kept hq⟩, h.2.2.1.kept hq, h.2.2.2.kept hq⟩
theorem lc_St.narrow {G : lc_G} {A B : Nat → Prop} {U : State} {H : Heap} (h : lc_St G A U H) (hAB : ∀ q, B q → A q) : lc_St G B U H :=
  ⟨⟨h.1.1.narrow hAB, h.1.2.narrow hAB⟩, ⟨h.2.1.1.narrow hAB, h.2.1.2.narrow hAB⟩, h.2.2.1.narrow hAB, h.2.2.2.narrow hAB⟩
/-- what holds at the start of every method of the two systems -/
def lc_Pre (G : lc_G) (σ : lc_S) (U : State) : Prop := lc_Tb U ∧ lc_K G U ∧ lc_P G σ U.heap ∧ lc_Ap G ∧ lc_St G (lc_A G) U U.heap
def lc_Post (G : lc_G) (o : Option Value) (σ' : lc_S) : Array Value → State → Outcome → State → Prop := fun _ st oc t => oc = .returned o ∧ lc_P G σ' t.heap ∧ va_F (lc_A G) st t
/-- a method's contract: from the state σ it answers o and leaves σ' -/
def lc_M (l : Launch) (G : lc_G) (y : MethodName) (cc : ByteArray) (nL : Nat) (ret : Option FieldType) (rm : Room) (av : List Value) (σ : lc_S) (o : Option Value) (σ' : lc_S) : Prop :=
  Met l y [.code y cc nL ret] rm (va_Pc av (lc_Pre G σ)) (lc_Post G o σ') 0 0 (lc_A G)
abbrev lc_Γ := Program × Launch × Env × Room × State × MethodId × Array Value × List Frame × Method × Code × (State → Prop) × (Nat → Prop) × Nat × Nat
abbrev lc_γR (Γ : lc_Γ) : Room := Γ.2.2.2.1
abbrev lc_γs (Γ : lc_Γ) : State := Γ.2.2.2.2.1
abbrev lc_γm (Γ : lc_Γ) : MethodId := Γ.2.2.2.2.2.1
abbrev lc_γargs (Γ : lc_Γ) : Array Value := Γ.2.2.2.2.2.2.1
abbrev lc_γbelow (Γ : lc_Γ) : List Frame := Γ.2.2.2.2.2.2.2.1
abbrev lc_γmeth (Γ : lc_Γ) : Method := Γ.2.2.2.2.2.2.2.2.1
abbrev lc_γc (Γ : lc_Γ) : Code := Γ.2.2.2.2.2.2.2.2.2.1
abbrev lc_γQ (Γ : lc_Γ) : State → Prop := Γ.2.2.2.2.2.2.2.2.2.2.1
abbrev lc_γA (Γ : lc_Γ) : Nat → Prop := Γ.2.2.2.2.2.2.2.2.2.2.2.1
abbrev lc_γk (Γ : lc_Γ) : Nat := Γ.2.2.2.2.2.2.2.2.2.2.2.2.1
abbrev lc_γn (Γ : lc_Γ) : Nat := Γ.2.2.2.2.2.2.2.2.2.2.2.2.2
abbrev lc_WW (Γ : lc_Γ) (H : Heap) (locs : List Loc) (g : JFrame) : Prop := W Γ.1 Γ.2.1 Γ.2.2.1 (lc_γR Γ) (lc_γs Γ) (lc_γm Γ) (lc_γargs Γ) (lc_γbelow Γ) (lc_γmeth Γ) (lc_γc Γ) H locs (lc_γk Γ) (lc_γn Γ) (lc_γQ Γ) g
def lc_Cx (G : lc_G) (Γ : lc_Γ) (cc : ByteArray) (nL : Nat) (own : String) : Prop :=
  Γ.1.tables.exec = Jvm.exec ∧ (lc_γc Γ).code = cc ∧ (lc_γc Γ).maxLocals = nL ∧ (lc_γs Γ).vm.findClass own = some (lc_γm Γ).cls ∧ lc_Tb (lc_γs Γ) ∧ lc_K G (lc_γs Γ) ∧ lc_Ap G ∧ (∀ k, k < 74 → lc_γA Γ (G.1 k)) ∧ lc_St G (lc_γA Γ) (lc_γs Γ) (lc_γs Γ).heap ∧ (lc_γmeth Γ).locks = false ∧ lc_γk Γ ≤ (lc_γR Γ).cells ∧ lc_γn Γ ≤ (lc_γR Γ).slots
def lc_Hp (G : lc_G) (Γ : lc_Γ) (σ : lc_S) (H : Heap) (locs : List Loc) : Prop := lc_P G σ H ∧ va_S (lc_γA Γ) (lc_γs Γ).heap H locs
/-- the walk stands at pc with these locals, this operand stack, this state, and comes to its end -/
def lc_V (G : lc_G) (Γ : lc_Γ) (cc : ByteArray) (nL : Nat) (own : String) (pc : Nat) (lv : List (Nat × Value)) (st : List Value) (σ : lc_S) : Prop :=
  lc_Cx G Γ cc nL own → ∀ (H : Heap) (locs : List Loc) (ls : Array Slot), lc_Hp G Γ σ H locs → lv_has ls nL lv → lc_WW Γ H locs (F0 (lc_γm Γ) pc ls st)
theorem lc_D {G : lc_G} {σ : lc_S} {A : Nat → Prop} (hap : lc_Ap G) (hA : ∀ k, k < 74 → A (G.1 k)) : va_D A (lc_ws G σ) := by
  refine ⟨fun i j p q hp hq e => ?_, fun k q hq => ?_⟩
  · obtain ⟨h1, rfl⟩ := lc_ws_mem hp
    obtain ⟨h2, rfl⟩ := lc_ws_mem hq
    exact hap i j h1 h2 e
  · obtain ⟨h1, rfl⟩ := lc_ws_mem hq
    exact hA k h1

section LCV
variable {G : lc_G} {Γ : lc_Γ} {cc : ByteArray} {nL : Nat} {own : String} {pc : Nat} {lv lv' : List (Nat × Value)} {st : List Value} {σ : lc_S}

theorem lc_iconst {n : Int} {v : Int32} (hd : decode cc pc = .ok (.iconst n, 1)) (hv : Int32.ofInt n = v) (kk : lc_V G Γ cc nL own (pc + 1) (lv) (.int v :: st) (σ)) : lc_V G Γ cc nL own (pc) (lv) (st) (σ) := fun C H locs ls hP hl => lv_iconst C.1 C.2.1 hd hv (kk C H locs ls hP hl)
theorem lc_bipush {n : Int} {v : Int32} (hd : decode cc pc = .ok (.bipush n, 2)) (hv : (Int8.ofInt n).toInt32 = v) (kk : lc_V G Γ cc nL own (pc + 2) (lv) (.int v :: st) (σ)) : lc_V G Γ cc nL own (pc) (lv) (st) (σ) := fun C H locs ls hP hl => lv_bipush C.1 C.2.1 hd hv (kk C H locs ls hP hl)
theorem lc_sipush {n : Int} {v : Int32} (hd : decode cc pc = .ok (.sipush n, 3)) (hv : (Int16.ofInt n).toInt32 = v) (kk : lc_V G Γ cc nL own (pc + 3) (lv) (.int v :: st) (σ)) : lc_V G Γ cc nL own (pc) (lv) (st) (σ) := fun C H locs ls hP hl => lv_sipush C.1 C.2.1 hd hv (kk C H locs ls hP hl)
theorem lc_lconst {n : Fin 2} {v : Int64} (hd : decode cc pc = .ok (.lconst n, 1)) (hv : Int64.ofNat (n : Nat) = v) (kk : lc_V G Γ cc nL own (pc + 1) (lv) (.long v :: st) (σ)) : lc_V G Γ cc nL own (pc) (lv) (st) (σ) := fun C H locs ls hP hl => lv_lconst C.1 C.2.1 hd hv (kk C H locs ls hP hl)
theorem lc_iload_n (k : Nat) {i : Fin 4} {x : Int32} (hd : decode cc pc = .ok (.iload_n i, 1)) (hk : lv[k]? = some ((i : Nat), .int x)) (kk : lc_V G Γ cc nL own (pc + 1) (lv) (.int x :: st) (σ)) : lc_V G Γ cc nL own (pc) (lv) (st) (σ) := fun C H locs ls hP hl => lv_iload_n C.1 C.2.1 hd rfl (lv_at hl k hk) (kk C H locs ls hP hl)
theorem lc_iload (k : Nat) {i : Nat} {x : Int32} (hd : decode cc pc = .ok (.iload i, 2)) (hk : lv[k]? = some (i, .int x)) (kk : lc_V G Γ cc nL own (pc + 2) (lv) (.int x :: st) (σ)) : lc_V G Γ cc nL own (pc) (lv) (st) (σ) := fun C H locs ls hP hl => lv_iload C.1 C.2.1 hd (lv_at hl k hk) (kk C H locs ls hP hl)
theorem lc_lload_n (k : Nat) {i : Fin 4} {x : Int64} (hd : decode cc pc = .ok (.lload_n i, 1)) (hk : lv[k]? = some ((i : Nat), .long x)) (kk : lc_V G Γ cc nL own (pc + 1) (lv) (.long x :: st) (σ)) : lc_V G Γ cc nL own (pc) (lv) (st) (σ) := fun C H locs ls hP hl => lv_lload_n C.1 C.2.1 hd rfl (lv_at hl k hk) (kk C H locs ls hP hl)
theorem lc_lload (k : Nat) {i : Nat} {x : Int64} (hd : decode cc pc = .ok (.lload i, 2)) (hk : lv[k]? = some (i, .long x)) (kk : lc_V G Γ cc nL own (pc + 2) (lv) (.long x :: st) (σ)) : lc_V G Γ cc nL own (pc) (lv) (st) (σ) := fun C H locs ls hP hl => lv_lload C.1 C.2.1 hd (lv_at hl k hk) (kk C H locs ls hP hl)
theorem lc_aload_n (k : Nat) {i : Fin 4} {x : Nat} (hd : decode cc pc = .ok (.aload_n i, 1)) (hk : lv[k]? = some ((i : Nat), .ref x)) (kk : lc_V G Γ cc nL own (pc + 1) (lv) (.ref x :: st) (σ)) : lc_V G Γ cc nL own (pc) (lv) (st) (σ) := fun C H locs ls hP hl => lv_aload_n C.1 C.2.1 hd rfl (lv_at hl k hk) (kk C H locs ls hP hl)
theorem lc_aload (k : Nat) {i : Nat} {x : Nat} (hd : decode cc pc = .ok (.aload i, 2)) (hk : lv[k]? = some (i, .ref x)) (kk : lc_V G Γ cc nL own (pc + 2) (lv) (.ref x :: st) (σ)) : lc_V G Γ cc nL own (pc) (lv) (st) (σ) := fun C H locs ls hP hl => lv_aload C.1 C.2.1 hd (lv_at hl k hk) (kk C H locs ls hP hl)
theorem lc_istore_n {i : Fin 4} {x : Int32} (lv' : List (Nat × Value)) (hd : decode cc pc = .ok (.istore_n i, 1)) (hn : (i : Nat) < nL) (hv : ((i : Nat), Value.int x) :: lv.filter (fun q => !(q.1 == (i : Nat)) && !(q.1 + 1 == (i : Nat) && q.2.category == 2)) = lv') (kk : lc_V G Γ cc nL own (pc + 1) (lv') (st) (σ)) : lc_V G Γ cc nL own (pc) (lv) (.int x :: st) (σ) := fun C H locs ls hP hl => lv_istore_n C.1 C.2.1 hd rfl hl hn hv (fun ls' hl' => kk C H locs ls' hP hl')
theorem lc_istore {i : Nat} {x : Int32} (lv' : List (Nat × Value)) (hd : decode cc pc = .ok (.istore i, 2)) (hn : i < nL) (hv : (i, Value.int x) :: lv.filter (fun q => !(q.1 == i) && !(q.1 + 1 == i && q.2.category == 2)) = lv') (kk : lc_V G Γ cc nL own (pc + 2) (lv') (st) (σ)) : lc_V G Γ cc nL own (pc) (lv) (.int x :: st) (σ) := fun C H locs ls hP hl => lv_istore C.1 C.2.1 hd hl hn hv (fun ls' hl' => kk C H locs ls' hP hl')
theorem lc_astore_n {i : Fin 4} {x : Nat} (lv' : List (Nat × Value)) (hd : decode cc pc = .ok (.astore_n i, 1)) (hn : (i : Nat) < nL) (hv : ((i : Nat), Value.ref x) :: lv.filter (fun q => !(q.1 == (i : Nat)) && !(q.1 + 1 == (i : Nat) && q.2.category == 2)) = lv') (kk : lc_V G Γ cc nL own (pc + 1) (lv') (st) (σ)) : lc_V G Γ cc nL own (pc) (lv) (.ref x :: st) (σ) := fun C H locs ls hP hl => lv_astore_n C.1 C.2.1 hd rfl hl hn hv (fun ls' hl' => kk C H locs ls' hP hl')
theorem lc_astore {i : Nat} {x : Nat} (lv' : List (Nat × Value)) (hd : decode cc pc = .ok (.astore i, 2)) (hn : i < nL) (hv : (i, Value.ref x) :: lv.filter (fun q => !(q.1 == i) && !(q.1 + 1 == i && q.2.category == 2)) = lv') (kk : lc_V G Γ cc nL own (pc + 2) (lv') (st) (σ)) : lc_V G Γ cc nL own (pc) (lv) (.ref x :: st) (σ) := fun C H locs ls hP hl => lv_astore C.1 C.2.1 hd hl hn hv (fun ls' hl' => kk C H locs ls' hP hl')
theorem lc_lstore_n {i : Fin 4} {x : Int64} (lv' : List (Nat × Value)) (hd : decode cc pc = .ok (.lstore_n i, 1)) (hn : (i : Nat) + 1 < nL) (hv : ((i : Nat), Value.long x) :: lv.filter (fun q => !(q.1 == (i : Nat)) && (!(q.1 == (i : Nat) + 1) && !(q.1 + 1 == (i : Nat) && q.2.category == 2))) = lv') (kk : lc_V G Γ cc nL own (pc + 1) (lv') (st) (σ)) : lc_V G Γ cc nL own (pc) (lv) (.long x :: st) (σ) := fun C H locs ls hP hl => lv_lstore_n C.1 C.2.1 hd rfl hl hn hv (fun ls' hl' => kk C H locs ls' hP hl')
theorem lc_lstore {i : Nat} {x : Int64} (lv' : List (Nat × Value)) (hd : decode cc pc = .ok (.lstore i, 2)) (hn : i + 1 < nL) (hv : (i, Value.long x) :: lv.filter (fun q => !(q.1 == i) && (!(q.1 == i + 1) && !(q.1 + 1 == i && q.2.category == 2))) = lv') (kk : lc_V G Γ cc nL own (pc + 2) (lv') (st) (σ)) : lc_V G Γ cc nL own (pc) (lv) (.long x :: st) (σ) := fun C H locs ls hP hl => lv_lstore C.1 C.2.1 hd hl hn hv (fun ls' hl' => kk C H locs ls' hP hl')
theorem lc_iinc (k : Nat) {i : Nat} {n : Int} {x : Int32} (v : Int32) (lv' : List (Nat × Value)) (hd : decode cc pc = .ok (.iinc i n, 3)) (hk : lv[k]? = some (i, .int x)) (hx : x + Int32.ofInt n = v) (hn : i < nL) (hv : (i, Value.int v) :: lv.filter (fun q => !(q.1 == i) && !(q.1 + 1 == i && q.2.category == 2)) = lv') (kk : lc_V G Γ cc nL own (pc + 3) (lv') (st) (σ)) : lc_V G Γ cc nL own (pc) (lv) (st) (σ) := fun C H locs ls hP hl => lv_iinc C.1 C.2.1 hd hl hk hx hn hv (fun ls' hl' => kk C H locs ls' hP hl')
theorem lc_iadd {x y : Int32} (hd : decode cc pc = .ok (.iadd, 1)) (kk : lc_V G Γ cc nL own (pc + 1) (lv) (.int (x + y) :: st) (σ)) : lc_V G Γ cc nL own (pc) (lv) (.int y :: .int x :: st) (σ) := fun C H locs ls hP hl => lv_iadd C.1 C.2.1 hd (kk C H locs ls hP hl)
theorem lc_isub {x y : Int32} (hd : decode cc pc = .ok (.isub, 1)) (kk : lc_V G Γ cc nL own (pc + 1) (lv) (.int (x - y) :: st) (σ)) : lc_V G Γ cc nL own (pc) (lv) (.int y :: .int x :: st) (σ) := fun C H locs ls hP hl => lv_isub C.1 C.2.1 hd (kk C H locs ls hP hl)
theorem lc_imul {x y : Int32} (hd : decode cc pc = .ok (.imul, 1)) (kk : lc_V G Γ cc nL own (pc + 1) (lv) (.int (x * y) :: st) (σ)) : lc_V G Γ cc nL own (pc) (lv) (.int y :: .int x :: st) (σ) := fun C H locs ls hP hl => lv_imul C.1 C.2.1 hd (kk C H locs ls hP hl)
theorem lc_iand {x y : Int32} (hd : decode cc pc = .ok (.iand, 1)) (kk : lc_V G Γ cc nL own (pc + 1) (lv) (.int (x &&& y) :: st) (σ)) : lc_V G Γ cc nL own (pc) (lv) (.int y :: .int x :: st) (σ) := fun C H locs ls hP hl => lv_iand C.1 C.2.1 hd (kk C H locs ls hP hl)
theorem lc_ior {x y : Int32} (hd : decode cc pc = .ok (.ior, 1)) (kk : lc_V G Γ cc nL own (pc + 1) (lv) (.int (x ||| y) :: st) (σ)) : lc_V G Γ cc nL own (pc) (lv) (.int y :: .int x :: st) (σ) := fun C H locs ls hP hl => lv_ior C.1 C.2.1 hd (kk C H locs ls hP hl)
theorem lc_ixor {x y : Int32} (hd : decode cc pc = .ok (.ixor, 1)) (kk : lc_V G Γ cc nL own (pc + 1) (lv) (.int (x ^^^ y) :: st) (σ)) : lc_V G Γ cc nL own (pc) (lv) (.int y :: .int x :: st) (σ) := fun C H locs ls hP hl => lv_ixor C.1 C.2.1 hd (kk C H locs ls hP hl)
theorem lc_ishl {x y : Int32} (hd : decode cc pc = .ok (.ishl, 1)) (kk : lc_V G Γ cc nL own (pc + 1) (lv) (.int (x <<< (y &&& 31)) :: st) (σ)) : lc_V G Γ cc nL own (pc) (lv) (.int y :: .int x :: st) (σ) := fun C H locs ls hP hl => lv_ishl C.1 C.2.1 hd (kk C H locs ls hP hl)
theorem lc_ishr {x y : Int32} (hd : decode cc pc = .ok (.ishr, 1)) (kk : lc_V G Γ cc nL own (pc + 1) (lv) (.int (x >>> (y &&& 31)) :: st) (σ)) : lc_V G Γ cc nL own (pc) (lv) (.int y :: .int x :: st) (σ) := fun C H locs ls hP hl => lv_ishr C.1 C.2.1 hd (kk C H locs ls hP hl)
theorem lc_idiv {x y : Int32} (hd : decode cc pc = .ok (.idiv, 1)) (hne : ¬ y = 0) (kk : lc_V G Γ cc nL own (pc + 1) (lv) (.int (x / y) :: st) (σ)) : lc_V G Γ cc nL own (pc) (lv) (.int y :: .int x :: st) (σ) := fun C H locs ls hP hl => lv_idiv C.1 C.2.1 hd hne (kk C H locs ls hP hl)
theorem lc_irem {x y : Int32} (hd : decode cc pc = .ok (.irem, 1)) (hne : ¬ y = 0) (kk : lc_V G Γ cc nL own (pc + 1) (lv) (.int (x - x / y * y) :: st) (σ)) : lc_V G Γ cc nL own (pc) (lv) (.int y :: .int x :: st) (σ) := fun C H locs ls hP hl => lv_irem C.1 C.2.1 hd hne (kk C H locs ls hP hl)
theorem lc_ineg {x : Int32} (hd : decode cc pc = .ok (.ineg, 1)) (kk : lc_V G Γ cc nL own (pc + 1) (lv) (.int (-x) :: st) (σ)) : lc_V G Γ cc nL own (pc) (lv) (.int x :: st) (σ) := fun C H locs ls hP hl => lv_ineg C.1 C.2.1 hd (kk C H locs ls hP hl)
theorem lc_ladd {x y : Int64} (hd : decode cc pc = .ok (.ladd, 1)) (kk : lc_V G Γ cc nL own (pc + 1) (lv) (.long (x + y) :: st) (σ)) : lc_V G Γ cc nL own (pc) (lv) (.long y :: .long x :: st) (σ) := fun C H locs ls hP hl => lv_ladd C.1 C.2.1 hd (kk C H locs ls hP hl)
theorem lc_lsub {x y : Int64} (hd : decode cc pc = .ok (.lsub, 1)) (kk : lc_V G Γ cc nL own (pc + 1) (lv) (.long (x - y) :: st) (σ)) : lc_V G Γ cc nL own (pc) (lv) (.long y :: .long x :: st) (σ) := fun C H locs ls hP hl => lv_lsub C.1 C.2.1 hd (kk C H locs ls hP hl)
theorem lc_lmul {x y : Int64} (hd : decode cc pc = .ok (.lmul, 1)) (kk : lc_V G Γ cc nL own (pc + 1) (lv) (.long (x * y) :: st) (σ)) : lc_V G Γ cc nL own (pc) (lv) (.long y :: .long x :: st) (σ) := fun C H locs ls hP hl => lv_lmul C.1 C.2.1 hd (kk C H locs ls hP hl)
theorem lc_land {x y : Int64} (hd : decode cc pc = .ok (.land, 1)) (kk : lc_V G Γ cc nL own (pc + 1) (lv) (.long (x &&& y) :: st) (σ)) : lc_V G Γ cc nL own (pc) (lv) (.long y :: .long x :: st) (σ) := fun C H locs ls hP hl => lv_land C.1 C.2.1 hd (kk C H locs ls hP hl)
theorem lc_ldiv {x y : Int64} (hd : decode cc pc = .ok (.ldiv, 1)) (hne : ¬ y = 0) (kk : lc_V G Γ cc nL own (pc + 1) (lv) (.long (x / y) :: st) (σ)) : lc_V G Γ cc nL own (pc) (lv) (.long y :: .long x :: st) (σ) := fun C H locs ls hP hl => lv_ldiv C.1 C.2.1 hd hne (kk C H locs ls hP hl)
theorem lc_lrem {x y : Int64} (hd : decode cc pc = .ok (.lrem, 1)) (hne : ¬ y = 0) (kk : lc_V G Γ cc nL own (pc + 1) (lv) (.long (x - x / y * y) :: st) (σ)) : lc_V G Γ cc nL own (pc) (lv) (.long y :: .long x :: st) (σ) := fun C H locs ls hP hl => lv_lrem C.1 C.2.1 hd hne (kk C H locs ls hP hl)
theorem lc_i2l {x : Int32} (hd : decode cc pc = .ok (.i2l, 1)) (kk : lc_V G Γ cc nL own (pc + 1) (lv) (.long x.toInt64 :: st) (σ)) : lc_V G Γ cc nL own (pc) (lv) (.int x :: st) (σ) := fun C H locs ls hP hl => lv_i2l C.1 C.2.1 hd rfl (kk C H locs ls hP hl)
theorem lc_l2i {x : Int64} (hd : decode cc pc = .ok (.l2i, 1)) (kk : lc_V G Γ cc nL own (pc + 1) (lv) (.int x.toInt32 :: st) (σ)) : lc_V G Γ cc nL own (pc) (lv) (.long x :: st) (σ) := fun C H locs ls hP hl => lv_l2i C.1 C.2.1 hd rfl (kk C H locs ls hP hl)
theorem lc_lcmp {x y : Int64} (hd : decode cc pc = .ok (.lcmp, 1)) (kk : lc_V G Γ cc nL own (pc + 1) (lv) (.int (lg_cmp x y) :: st) (σ)) : lc_V G Γ cc nL own (pc) (lv) (.long y :: .long x :: st) (σ) := fun C H locs ls hP hl => W.lcmp C.1 C.2.1 hd (kk C H locs ls hP hl)
theorem lc_dup {va : Value} (hd : decode cc pc = .ok (.dup, 1)) (hc : va.category = 1) (kk : lc_V G Γ cc nL own (pc + 1) (lv) (va :: va :: st) (σ)) : lc_V G Γ cc nL own (pc) (lv) (va :: st) (σ) := fun C H locs ls hP hl => lv_dup C.1 C.2.1 hd hc (kk C H locs ls hP hl)
theorem lc_pop {va : Value} (hd : decode cc pc = .ok (.pop, 1)) (hc : va.category = 1) (kk : lc_V G Γ cc nL own (pc + 1) (lv) (st) (σ)) : lc_V G Γ cc nL own (pc) (lv) (va :: st) (σ) := fun C H locs ls hP hl => lv_pop C.1 C.2.1 hd hc (kk C H locs ls hP hl)
theorem lc_dup2 {va vb : Value} (hd : decode cc pc = .ok (.dup2, 1)) (hc : va.category = 1) (hc2 : vb.category = 1) (kk : lc_V G Γ cc nL own (pc + 1) (lv) (va :: vb :: va :: vb :: st) (σ)) : lc_V G Γ cc nL own (pc) (lv) (va :: vb :: st) (σ) := fun C H locs ls hP hl => lv_dup2_11 C.1 C.2.1 hd hc hc2 (kk C H locs ls hP hl)
theorem lc_if_eq {x : Int32} {off : Int} (tgt : Nat) (hd : decode cc pc = .ok (.ifCond .eq off, 3)) (ht : (pc : Int) + off = (tgt : Int)) (kt : x = 0 → lc_V G Γ cc nL own (tgt) (lv) (st) (σ)) (kf : (¬ x = 0 ∧ ¬ 0 = x) → lc_V G Γ cc nL own (pc + 3) (lv) (st) (σ)) : lc_V G Γ cc nL own (pc) (lv) (.int x :: st) (σ) := fun C H locs ls hP hl => lv_if_eq C.1 C.2.1 hd ht (fun q => kt q C H locs ls hP hl) (fun q => kf ⟨q, fun z => q z.symm⟩ C H locs ls hP hl)
theorem lc_icmp_eq {x y : Int32} {off : Int} (tgt : Nat) (hd : decode cc pc = .ok (.if_icmp .eq off, 3)) (ht : (pc : Int) + off = (tgt : Int)) (kt : x = y → lc_V G Γ cc nL own (tgt) (lv) (st) (σ)) (kf : (¬ x = y ∧ ¬ y = x) → lc_V G Γ cc nL own (pc + 3) (lv) (st) (σ)) : lc_V G Γ cc nL own (pc) (lv) (.int y :: .int x :: st) (σ) := fun C H locs ls hP hl => lv_icmp_eq C.1 C.2.1 hd ht (fun q => kt q C H locs ls hP hl) (fun q => kf ⟨q, fun z => q z.symm⟩ C H locs ls hP hl)
theorem lc_if_ne {x : Int32} {off : Int} (tgt : Nat) (hd : decode cc pc = .ok (.ifCond .ne off, 3)) (ht : (pc : Int) + off = (tgt : Int)) (kt : (¬ x = 0 ∧ ¬ 0 = x) → lc_V G Γ cc nL own (tgt) (lv) (st) (σ)) (kf : x = 0 → lc_V G Γ cc nL own (pc + 3) (lv) (st) (σ)) : lc_V G Γ cc nL own (pc) (lv) (.int x :: st) (σ) := fun C H locs ls hP hl => lv_if_ne C.1 C.2.1 hd ht (fun q => kt ⟨q, fun z => q z.symm⟩ C H locs ls hP hl) (fun q => kf q C H locs ls hP hl)
theorem lc_icmp_ne {x y : Int32} {off : Int} (tgt : Nat) (hd : decode cc pc = .ok (.if_icmp .ne off, 3)) (ht : (pc : Int) + off = (tgt : Int)) (kt : (¬ x = y ∧ ¬ y = x) → lc_V G Γ cc nL own (tgt) (lv) (st) (σ)) (kf : x = y → lc_V G Γ cc nL own (pc + 3) (lv) (st) (σ)) : lc_V G Γ cc nL own (pc) (lv) (.int y :: .int x :: st) (σ) := fun C H locs ls hP hl => lv_icmp_ne C.1 C.2.1 hd ht (fun q => kt ⟨q, fun z => q z.symm⟩ C H locs ls hP hl) (fun q => kf q C H locs ls hP hl)
theorem lc_if_lt {x : Int32} {off : Int} (tgt : Nat) (hd : decode cc pc = .ok (.ifCond .lt off, 3)) (ht : (pc : Int) + off = (tgt : Int)) (kt : (x < 0 ∧ ¬ 0 ≤ x) → lc_V G Γ cc nL own (tgt) (lv) (st) (σ)) (kf : (0 ≤ x ∧ ¬ x < 0) → lc_V G Γ cc nL own (pc + 3) (lv) (st) (σ)) : lc_V G Γ cc nL own (pc) (lv) (.int x :: st) (σ) := fun C H locs ls hP hl => lv_if_lt C.1 C.2.1 hd ht (fun q => kt ⟨q, fun z => absurd q (Int32.not_lt.mpr z)⟩ C H locs ls hP hl) (fun q => kf ⟨Int32.not_lt.mp q, q⟩ C H locs ls hP hl)
theorem lc_icmp_lt {x y : Int32} {off : Int} (tgt : Nat) (hd : decode cc pc = .ok (.if_icmp .lt off, 3)) (ht : (pc : Int) + off = (tgt : Int)) (kt : (x < y ∧ ¬ y ≤ x) → lc_V G Γ cc nL own (tgt) (lv) (st) (σ)) (kf : (y ≤ x ∧ ¬ x < y) → lc_V G Γ cc nL own (pc + 3) (lv) (st) (σ)) : lc_V G Γ cc nL own (pc) (lv) (.int y :: .int x :: st) (σ) := fun C H locs ls hP hl => lv_icmp_lt C.1 C.2.1 hd ht (fun q => kt ⟨q, fun z => absurd q (Int32.not_lt.mpr z)⟩ C H locs ls hP hl) (fun q => kf ⟨Int32.not_lt.mp q, q⟩ C H locs ls hP hl)
theorem lc_if_ge {x : Int32} {off : Int} (tgt : Nat) (hd : decode cc pc = .ok (.ifCond .ge off, 3)) (ht : (pc : Int) + off = (tgt : Int)) (kt : (0 ≤ x ∧ ¬ x < 0) → lc_V G Γ cc nL own (tgt) (lv) (st) (σ)) (kf : (x < 0 ∧ ¬ 0 ≤ x) → lc_V G Γ cc nL own (pc + 3) (lv) (st) (σ)) : lc_V G Γ cc nL own (pc) (lv) (.int x :: st) (σ) := fun C H locs ls hP hl => lv_if_ge C.1 C.2.1 hd ht (fun q => kt ⟨q, fun z => absurd q (Int32.not_le.mpr z)⟩ C H locs ls hP hl) (fun q => kf ⟨Int32.not_le.mp q, q⟩ C H locs ls hP hl)
theorem lc_icmp_ge {x y : Int32} {off : Int} (tgt : Nat) (hd : decode cc pc = .ok (.if_icmp .ge off, 3)) (ht : (pc : Int) + off = (tgt : Int)) (kt : (y ≤ x ∧ ¬ x < y) → lc_V G Γ cc nL own (tgt) (lv) (st) (σ)) (kf : (x < y ∧ ¬ y ≤ x) → lc_V G Γ cc nL own (pc + 3) (lv) (st) (σ)) : lc_V G Γ cc nL own (pc) (lv) (.int y :: .int x :: st) (σ) := fun C H locs ls hP hl => lv_icmp_ge C.1 C.2.1 hd ht (fun q => kt ⟨q, fun z => absurd q (Int32.not_le.mpr z)⟩ C H locs ls hP hl) (fun q => kf ⟨Int32.not_le.mp q, q⟩ C H locs ls hP hl)
theorem lc_if_gt {x : Int32} {off : Int} (tgt : Nat) (hd : decode cc pc = .ok (.ifCond .gt off, 3)) (ht : (pc : Int) + off = (tgt : Int)) (kt : (0 < x ∧ ¬ x ≤ 0) → lc_V G Γ cc nL own (tgt) (lv) (st) (σ)) (kf : (x ≤ 0 ∧ ¬ 0 < x) → lc_V G Γ cc nL own (pc + 3) (lv) (st) (σ)) : lc_V G Γ cc nL own (pc) (lv) (.int x :: st) (σ) := fun C H locs ls hP hl => lv_if_gt C.1 C.2.1 hd ht (fun q => kt ⟨q, fun z => absurd q (Int32.not_lt.mpr z)⟩ C H locs ls hP hl) (fun q => kf ⟨Int32.not_lt.mp q, q⟩ C H locs ls hP hl)
theorem lc_icmp_gt {x y : Int32} {off : Int} (tgt : Nat) (hd : decode cc pc = .ok (.if_icmp .gt off, 3)) (ht : (pc : Int) + off = (tgt : Int)) (kt : (y < x ∧ ¬ x ≤ y) → lc_V G Γ cc nL own (tgt) (lv) (st) (σ)) (kf : (x ≤ y ∧ ¬ y < x) → lc_V G Γ cc nL own (pc + 3) (lv) (st) (σ)) : lc_V G Γ cc nL own (pc) (lv) (.int y :: .int x :: st) (σ) := fun C H locs ls hP hl => lv_icmp_gt C.1 C.2.1 hd ht (fun q => kt ⟨q, fun z => absurd q (Int32.not_lt.mpr z)⟩ C H locs ls hP hl) (fun q => kf ⟨Int32.not_lt.mp q, q⟩ C H locs ls hP hl)
theorem lc_if_le {x : Int32} {off : Int} (tgt : Nat) (hd : decode cc pc = .ok (.ifCond .le off, 3)) (ht : (pc : Int) + off = (tgt : Int)) (kt : (x ≤ 0 ∧ ¬ 0 < x) → lc_V G Γ cc nL own (tgt) (lv) (st) (σ)) (kf : (0 < x ∧ ¬ x ≤ 0) → lc_V G Γ cc nL own (pc + 3) (lv) (st) (σ)) : lc_V G Γ cc nL own (pc) (lv) (.int x :: st) (σ) := fun C H locs ls hP hl => lv_if_le C.1 C.2.1 hd ht (fun q => kt ⟨q, fun z => absurd q (Int32.not_le.mpr z)⟩ C H locs ls hP hl) (fun q => kf ⟨Int32.not_le.mp q, q⟩ C H locs ls hP hl)
theorem lc_icmp_le {x y : Int32} {off : Int} (tgt : Nat) (hd : decode cc pc = .ok (.if_icmp .le off, 3)) (ht : (pc : Int) + off = (tgt : Int)) (kt : (x ≤ y ∧ ¬ y < x) → lc_V G Γ cc nL own (tgt) (lv) (st) (σ)) (kf : (y < x ∧ ¬ x ≤ y) → lc_V G Γ cc nL own (pc + 3) (lv) (st) (σ)) : lc_V G Γ cc nL own (pc) (lv) (.int y :: .int x :: st) (σ) := fun C H locs ls hP hl => lv_icmp_le C.1 C.2.1 hd ht (fun q => kt ⟨q, fun z => absurd q (Int32.not_le.mpr z)⟩ C H locs ls hP hl) (fun q => kf ⟨Int32.not_le.mp q, q⟩ C H locs ls hP hl)
theorem lc_bi_0 {b : Bool} : lc_bi b = 0 ↔ b = false := by cases b <;> decide
theorem lc_bi_t : lc_bi true = 1 := rfl
theorem lc_bi_f : lc_bi false = 0 := rfl
theorem lc_ifb_eq {b : Bool} {off : Int} (tgt : Nat) (hd : decode cc pc = .ok (.ifCond .eq off, 3)) (ht : (pc : Int) + off = (tgt : Int)) (kt : b = false → lc_V G Γ cc nL own (tgt) (lv) (st) (σ)) (kf : b = true → lc_V G Γ cc nL own (pc + 3) (lv) (st) (σ)) : lc_V G Γ cc nL own (pc) (lv) (.int (lc_bi b) :: st) (σ) := lc_if_eq tgt hd ht (fun q => kt (lc_bi_0.mp q)) (fun q => kf (by cases b; exact absurd rfl q.1; rfl))
theorem lc_ifb_ne {b : Bool} {off : Int} (tgt : Nat) (hd : decode cc pc = .ok (.ifCond .ne off, 3)) (ht : (pc : Int) + off = (tgt : Int)) (kt : b = true → lc_V G Γ cc nL own (tgt) (lv) (st) (σ)) (kf : b = false → lc_V G Γ cc nL own (pc + 3) (lv) (st) (σ)) : lc_V G Γ cc nL own (pc) (lv) (.int (lc_bi b) :: st) (σ) := lc_if_ne tgt hd ht (fun q => kt (by cases b; exact absurd rfl q.1; rfl)) (fun q => kf (lc_bi_0.mp q))
theorem lc_goto {off : Int} (tgt : Nat) (hd : decode cc pc = .ok (.goto off, 3)) (ht : (pc : Int) + off = (tgt : Int)) (kk : lc_V G Γ cc nL own (tgt) (lv) (st) (σ)) : lc_V G Γ cc nL own (pc) (lv) (st) (σ) := fun C H locs ls hP hl => lv_goto C.1 C.2.1 hd ht (kk C H locs ls hP hl)
theorem lc_topi {x : Int32} (y : Int32) (h : x = y) (kk : lc_V G Γ cc nL own (pc) (lv) (.int y :: st) (σ)) : lc_V G Γ cc nL own (pc) (lv) (.int x :: st) (σ) := h ▸ kk
theorem lc_eq {σ' : lc_S} (h : σ = σ') (kk : lc_V G Γ cc nL own (pc) (lv) (st) (σ')) : lc_V G Γ cc nL own (pc) (lv) (st) (σ) := h ▸ kk
theorem lc_lv (ks : List Nat) (h : lv_pick lv ks = lv') (kk : lc_V G Γ cc nL own (pc) (lv') (st) (σ)) : lc_V G Γ cc nL own (pc) (lv) (st) (σ) := fun C H locs ls hP hl => kk C H locs ls hP (lv_sub hl ks h)
theorem lc_ldc {idx : Nat} {v : Int32} (hw : Cond.constant own idx v ∈ lc_T) (hd : decode cc pc = .ok (.ldc idx, 2)) (kk : lc_V G Γ cc nL own (pc + 2) (lv) (.int v :: st) (σ)) : lc_V G Γ cc nL own (pc) (lv) (st) (σ) := fun C H locs ls hP hl => W.ldc C.1 C.2.1 C.2.2.2.1 (C.2.2.2.2.1.use _ hw) rfl hd (kk C H locs ls hP hl)
theorem lc_ldc2 {idx : Nat} {v : Int64} (hw : Cond.constantLong own idx v ∈ lc_T) (hd : decode cc pc = .ok (.ldc2_w idx, 3)) (kk : lc_V G Γ cc nL own (pc + 3) (lv) (.long v :: st) (σ)) : lc_V G Γ cc nL own (pc) (lv) (st) (σ) := fun C H locs ls hP hl => W.ldc2 C.1 C.2.1 C.2.2.2.1 (C.2.2.2.2.1.use _ hw) rfl hd (kk C H locs ls hP hl)

/-- an entry of a class's pool that links a field -/
def lc_fl (own : String) (idx : Nat) (q : String × String × String × Bool) : Prop := Cond.fieldLink own idx q.1 q.2.1 q.2.2.1 ∈ lc_T ∨ ∃ host, Cond.fieldLinkNest own idx q.1 q.2.1 q.2.2.1 host ∈ lc_T
def lc_ml (own : String) (idx : Nat) (y : MethodName) : Prop := Cond.methodLink own idx y ∈ lc_T ∨ ∃ host, Cond.methodLinkNest own idx y host ∈ lc_T
/-- what a row of classes must be for its fields to be read -/
def lc_cl (ci : Nat) (Cn : String) (T : u_T) (N : Nat) : Prop := vwCl[ci]? = some (Cn, T, N) ∧ ∀ w ∈ u_ws Cn T N, w ∈ lc_T
theorem lc_get {idx : Nat} (q0 ci slot : Nat) {Cn : String} {T : u_T} {N : Nat} {fs : List Value} {v : Value} (hq : q0 < 74) (he : lc_ent G σ q0 = .inr (ci, fs)) (hc : lc_cl ci Cn T N) (hs : slot < N) (hv : fs[slot]? = some v) (hl : lc_fl own idx (T slot)) (hd : decode cc pc = .ok (.getfield idx, 3)) (kk : lc_V G Γ cc nL own (pc + 3) lv (v :: st) σ) : lc_V G Γ cc nL own pc lv (.ref (G.1 q0) :: st) σ := by
  intro C H locs ls hP hl'
  have hw : (lc_ws G σ)[q0]? = some (G.1 q0, .inr (ci, fs)) := by rw [lc_ws_get G σ hq, he]
  rcases hl with h | ⟨host, h⟩
  · exact va_get (D := (G.2.1, G.2.2.1)) C.1 C.2.1 (fun w hw => C.2.2.2.2.1.use _ hw) hc.2 C.2.2.2.1 C.2.2.2.2.2.1 hP.1 q0 hw hc.1 slot hs (C.2.2.2.2.1.use _ h) (fun _ h9 => h9) hv hd (kk C H locs ls hP hl')
  · exact va_getN (D := (G.2.1, G.2.2.1)) C.1 C.2.1 (fun w hw => C.2.2.2.2.1.use _ hw) hc.2 C.2.2.2.1 C.2.2.2.2.2.1 hP.1 q0 hw hc.1 slot hs (C.2.2.2.2.1.use _ h) (fun _ h9 => h9) hv hd (kk C H locs ls hP hl')
theorem lc_put {idx : Nat} (σ' : lc_S) (q0 ci slot : Nat) {Cn : String} {T : u_T} {N : Nat} (ty0 : Nat → FieldType) {ty : FieldType} {fs : List Value} {v : Value} (hty : ∀ k, k < N → parseFieldDescriptor (T k).2.2.1 = some (ty0 k)) (hnm : ∀ a, a < N → ∀ b, b < N → a ≠ b → (T a).2.1 ≠ (T b).2.1) (hq : q0 < 74) (he : lc_ent G σ q0 = .inr (ci, fs)) (hc : lc_cl ci Cn T N) (hs : slot < N) (hfin : (T slot).2.2.2 = false) (hpd : parseFieldDescriptor (T slot).2.2.1 = some ty) (hn : narrow ty v = v) (hfit : fits ty v = true) (hlen : slot < fs.length)
    (h1 : lc_ent G σ' q0 = .inr (ci, fs.set slot v)) (h2 : ∀ i, i < 74 → i ≠ q0 → lc_ent G σ' i = lc_ent G σ i) (hl : lc_fl own idx (T slot)) (hd : decode cc pc = .ok (.putfield idx, 3)) (kk : lc_V G Γ cc nL own (pc + 3) lv st σ') : lc_V G Γ cc nL own pc lv (v :: .ref (G.1 q0) :: st) σ := by
  intro C H locs ls hP hl'
  have hw : (lc_ws G σ)[q0]? = some (G.1 q0, .inr (ci, fs)) := by rw [lc_ws_get G σ hq, he]
  have hD : va_D (lc_γA Γ) (lc_ws G σ) := lc_D C.2.2.2.2.2.2.1 C.2.2.2.2.2.2.2.1
  have hse := lc_ws_set G σ σ' h1 h2
  rcases hl with h | ⟨host, h⟩
  · refine va_put (D := (G.2.1, G.2.2.1)) C.1 C.2.1 (fun w hw => C.2.2.2.2.1.use _ hw) hc.2 ty0 hty hnm C.2.2.2.1 C.2.2.2.2.2.1 hP.1 hD hP.2 q0 hw hc.1 slot hs (C.2.2.2.2.1.use _ h) (fun _ h9 => h9) hfin hpd hn hfit hlen hd (fun H1 locs1 hP1 hD1 hS1 => ?_)
    rw [hse] at hP1
    exact kk C H1 locs1 ls ⟨hP1, hS1⟩ hl'
  · refine va_putN (D := (G.2.1, G.2.2.1)) C.1 C.2.1 (fun w hw => C.2.2.2.2.1.use _ hw) hc.2 ty0 hty hnm C.2.2.2.1 C.2.2.2.2.2.1 hP.1 hD hP.2 q0 hw hc.1 slot hs (C.2.2.2.2.1.use _ h) (fun _ h9 => h9) hfin hpd hn hfit hlen hd (fun H1 locs1 hP1 hD1 hS1 => ?_)
    rw [hse] at hP1
    exact kk C H1 locs1 ls ⟨hP1, hS1⟩ hl'
theorem lc_iald (q0 i : Nat) {n : Nat} {f : Nat → Int32} {x : Int32} (hq : q0 < 74) (he : lc_ent G σ q0 = lc_aE G n f) (hx : x = nI i) (hi : i < n) (hn : n ≤ 148) (hd : decode cc pc = .ok (.iaload, 1)) (kk : lc_V G Γ cc nL own (pc + 1) lv (.int (f i) :: st) σ) : lc_V G Γ cc nL own pc lv (.int x :: .ref (G.1 q0) :: st) σ := by
  intro C H locs ls hP hl
  subst hx
  have hw : (lc_ws G σ)[q0]? = some (G.1 q0, .inl (G.2.2.2.1, n, .inl f)) := by rw [lc_ws_get G σ hq, he]
  refine va_iald (D := (G.2.1, G.2.2.1)) C.1 C.2.1 C.2.2.2.2.2.1 hP.1 q0 0 hw rfl (vp_in_nI hi (by omega)) hd ?_
  rw [nI_clamp (by omega)]
  exact kk C H locs ls hP hl
theorem lc_iast (σ' : lc_S) (q0 i : Nat) {n : Nat} {f : Nat → Int32} {x v : Int32} (hq : q0 < 74) (he : lc_ent G σ q0 = lc_aE G n f) (hx : x = nI i) (hi : i < n) (hn : n ≤ 148) (h1 : lc_ent G σ' q0 = lc_aE G n (upd f i v)) (h2 : ∀ k, k < 74 → k ≠ q0 → lc_ent G σ' k = lc_ent G σ k) (hd : decode cc pc = .ok (.iastore, 1)) (kk : lc_V G Γ cc nL own (pc + 1) lv st σ') : lc_V G Γ cc nL own pc lv (.int v :: .int x :: .ref (G.1 q0) :: st) σ := by
  intro C H locs ls hP hl
  subst hx
  have hw : (lc_ws G σ)[q0]? = some (G.1 q0, .inl (G.2.2.2.1, n, .inl f)) := by rw [lc_ws_get G σ hq, he]
  have hD : va_D (lc_γA Γ) (lc_ws G σ) := lc_D C.2.2.2.2.2.2.1 C.2.2.2.2.2.2.2.1
  have hse := lc_ws_set G σ σ' h1 h2
  refine va_iast (D := (G.2.1, G.2.2.1)) C.1 C.2.1 C.2.2.2.2.2.1 hP.1 hD hP.2 q0 0 hw rfl (vp_in_nI hi (by omega)) hd (fun H1 locs1 hP1 hD1 hS1 => ?_)
  rw [nI_clamp (by omega), hse] at hP1
  exact kk C H1 locs1 ls ⟨hP1, hS1⟩ hl
theorem lc_alen (q0 : Nat) {n : Nat} {f : Nat → Int32} (hq : q0 < 74) (he : lc_ent G σ q0 = lc_aE G n f) (hd : decode cc pc = .ok (.arraylength, 1)) (kk : lc_V G Γ cc nL own (pc + 1) lv (.int (nI n) :: st) σ) : lc_V G Γ cc nL own pc lv (.ref (G.1 q0) :: st) σ := by
  intro C H locs ls hP hl
  have hw : (lc_ws G σ)[q0]? = some (G.1 q0, .inl (G.2.2.2.1, n, .inl f)) := by rw [lc_ws_get G σ hq, he]
  exact va_alen (D := (G.2.1, G.2.2.1)) C.1 C.2.1 C.2.2.2.2.2.1 hP.1 q0 0 hw (ty := .int) rfl rfl hd (kk C H locs ls hP hl)
theorem lc_ilen (j : Nat) (hj : j < 2) (hd : decode cc pc = .ok (.arraylength, 1)) (kk : lc_V G Γ cc nL own (pc + 1) lv (.int 24 :: st) σ) : lc_V G Γ cc nL own pc lv (.ref (G.1 (10 + j)) :: st) σ := by
  intro C H locs ls hP hl
  have hw : (lc_ws G σ)[10 + j]? = some (G.1 (10 + j), .inl (G.2.2.2.2.1, 24, .inr (.inr (.inr (.inr (fun i => some (G.1 (lc_it j i)))))))) := by
    rw [lc_ws_get G σ (by omega)]
    rcases (show j = 0 ∨ j = 1 by omega) with rfl | rfl <;> rfl
  exact va_alen (D := (G.2.1, G.2.2.1)) C.1 C.2.1 C.2.2.2.2.2.1 hP.1 (10 + j) 1 hw (ty := .object "LateCopies$Item") rfl rfl hd (kk C H locs ls hP hl)
theorem lc_aald (j i : Nat) {x : Int32} (hj : j < 2) (hx : x = nI i) (hi : i < 24) (hd : decode cc pc = .ok (.aaload, 1)) (kk : lc_V G Γ cc nL own (pc + 1) lv (.ref (G.1 (lc_it j i)) :: st) σ) : lc_V G Γ cc nL own pc lv (.int x :: .ref (G.1 (10 + j)) :: st) σ := by
  intro C H locs ls hP hl
  subst hx
  have hw : (lc_ws G σ)[10 + j]? = some (G.1 (10 + j), .inl (G.2.2.2.2.1, 24, .inr (.inr (.inr (.inr (fun i => some (G.1 (lc_it j i)))))))) := by
    rw [lc_ws_get G σ (by omega)]
    rcases (show j = 0 ∨ j = 1 by omega) with rfl | rfl <;> rfl
  refine va_aldq (D := (G.2.1, G.2.2.1)) C.1 C.2.1 C.2.2.2.2.2.1 hP.1 (10 + j) 1 (C := "LateCopies$Item") hw rfl (vp_in_nI hi (by omega)) hd ?_
  rw [nI_clamp (by omega)]
  exact kk C H locs ls hP hl
/-- what a method's walk comes to -/
def lc_Ret (G : lc_G) (Γ : lc_Γ) (l : Launch) (rm : Room) (ret : Option FieldType) (o : Option Value) (σ' : lc_S) : Prop :=
  lc_γQ Γ = MQ (lc_γbelow Γ) (lc_Post G o σ') (lc_γargs Γ) (lc_γs Γ) (lc_γk Γ) (lc_γn Γ) (lc_A G) ∧ (lc_γmeth Γ).sig.returnType = ret ∧ lc_γA Γ = lc_A G ∧ Γ.2.1 = l ∧ lc_γR Γ = rm
theorem lc_entry {l : Launch} {y : MethodName} {ret : Option FieldType} {rm : Room} {av : List Value} {o : Option Value} {σ' : lc_S} (lv0 : List (Nat × Value)) (hy : plainName y.cls = true) (hlen : (lg_sl av).length ≤ nL) (hlv : lv_args 0 av = lv0) (hrc : rm.cells = 0) (hrs : rm.slots = 0)
    (body : ∀ Γ : lc_Γ, lc_Ret G Γ l rm ret o σ' → lc_V G Γ cc nL y.cls 0 lv0 [] σ) : lc_M l G y cc nL ret rm av σ o σ' := by
  refine Met.ofW (cc := cc) (maxL := nL) (ret := ret) (ws' := []) hy rfl ?_
  intro p e s m args below meth c s₁ B hml hv
  obtain ⟨rfl, hT, hK, hP, hap, hSt⟩ := hv
  have hl := lv_entry av (n := nL) hlen
  rw [lg_entry_eq]
  rw [hlv] at hl
  have hA : ∀ k, k < 74 → lc_A G (G.1 k) := fun k hk => ⟨k, hk, rfl⟩
  have hown : s.vm.findClass y.cls = some m.cls := findClass_of_methodNamed B.named
  exact body (p, l, e, (headSpec [.code y cc nL ret] rm).room, s, m, av.toArray, below, meth, c, MQ below (lc_Post G o σ') av.toArray s 0 0 (lc_A G), lc_A G, 0, 0) ⟨rfl, B.returns, rfl, rfl, rfl⟩ ⟨B.exec, B.bytes, hml, hown, hT, hK, hap, hA, hSt, B.notSynchronized, Nat.zero_le _, Nat.zero_le _⟩ s.heap [] _ ⟨hP, va_S.rf⟩ hl
theorem lc_post {Γ : lc_Γ} {l : Launch} {rm : Room} {ret : Option FieldType} {o : Option Value} {σ σ' : lc_S} {H : Heap} {locs : List Loc} (hR : lc_Ret G Γ l rm ret o σ') (hσ : σ = σ') (hP : lc_Hp G Γ σ H locs) (v : Option Value) (hv : v = o) : ∀ t : State, t.heap = H → (lc_γs Γ).WarmedH t.vm → lc_Post G o σ' (lc_γargs Γ) (lc_γs Γ) (.returned v) t := by
  intro t ht _
  subst hσ hv
  refine ⟨rfl, by rw [ht]; exact hP.1, ?_⟩
  have h := hP.2.F ht
  rw [hR.2.2.1] at h
  exact h
theorem lc_iret {l : Launch} {rm : Room} {v w : Int32} {σ' : lc_S} (hR : lc_Ret G Γ l rm (some .int) (some (.int w)) σ') (hd : decode cc pc = .ok (.ireturn, 1)) (hv : v = w) (hσ : σ = σ') : lc_V G Γ cc nL own pc lv [.int v] σ := by
  intro C H locs ls hP hl
  have h := lc_post hR hσ hP (some (.int v)) (by rw [hv])
  show W _ _ _ _ _ _ _ _ _ _ _ _ _ _ (lc_γQ Γ) _
  rw [hR.1]
  exact W.iret C.1 C.2.1 hR.2.1 h (fun q hq => by have := hP.2.2.2 q hq; rw [hR.2.2.1] at this; exact this) hd C.2.2.2.2.2.2.2.2.2.1
theorem lc_zret {l : Launch} {rm : Room} {v : Int32} {b : Bool} {σ' : lc_S} (hR : lc_Ret G Γ l rm (some .boolean) (some (.int (lc_bi b))) σ') (hd : decode cc pc = .ok (.ireturn, 1)) (hv : v = lc_bi b) (hσ : σ = σ') : lc_V G Γ cc nL own pc lv [.int v] σ := by
  intro C H locs ls hP hl
  have h := lc_post hR hσ hP (some (.int v)) (by rw [hv])
  show W _ _ _ _ _ _ _ _ _ _ _ _ _ _ (lc_γQ Γ) _
  rw [hR.1]
  exact W.zret C.1 C.2.1 hR.2.1 (by rw [hv]; cases b <;> rfl) h (fun q hq => by have := hP.2.2.2 q hq; rw [hR.2.2.1] at this; exact this) hd C.2.2.2.2.2.2.2.2.2.1
theorem lc_lret {l : Launch} {rm : Room} {v w : Int64} {σ' : lc_S} (hR : lc_Ret G Γ l rm (some .long) (some (.long w)) σ') (hd : decode cc pc = .ok (.lreturn, 1)) (hv : v = w) (hσ : σ = σ') : lc_V G Γ cc nL own pc lv [.long v] σ := by
  intro C H locs ls hP hl
  have h := lc_post hR hσ hP (some (.long v)) (by rw [hv])
  show W _ _ _ _ _ _ _ _ _ _ _ _ _ _ (lc_γQ Γ) _
  rw [hR.1]
  exact W.lret C.1 C.2.1 hR.2.1 h (fun q hq => by have := hP.2.2.2 q hq; rw [hR.2.2.1] at this; exact this) hd C.2.2.2.2.2.2.2.2.2.1
theorem lc_vret {l : Launch} {rm : Room} {σ' : lc_S} (hR : lc_Ret G Γ l rm none none σ') (hd : decode cc pc = .ok (.return_, 1)) (hσ : σ = σ') : lc_V G Γ cc nL own pc lv [] σ := by
  intro C H locs ls hP hl
  have h := lc_post hR hσ hP none rfl
  show W _ _ _ _ _ _ _ _ _ _ _ _ _ _ (lc_γQ Γ) _
  rw [hR.1]
  exact W.vret C.1 C.2.1 hR.2.1 h (fun q hq => by have := hP.2.2.2 q hq; rw [hR.2.2.1] at this; exact this) hd C.2.2.2.2.2.2.2.2.2.1
theorem lc_aret {l : Launch} {rm : Room} {v w : Nat} {n : String} {σ' : lc_S} (hR : lc_Ret G Γ l rm (some (.object n)) (some (.ref w)) σ') (hd : decode cc pc = .ok (.areturn, 1)) (hv : v = w) (hσ : σ = σ') : lc_V G Γ cc nL own pc lv [.ref v] σ := by
  intro C H locs ls hP hl
  have h := lc_post hR hσ hP (some (.ref v)) (by rw [hv])
  show W _ _ _ _ _ _ _ _ _ _ _ _ _ _ (lc_γQ Γ) _
  rw [hR.1]
  exact W.aret C.1 C.2.1 hR.2.1 (Or.inl ⟨_, rfl⟩) (Or.inr ⟨_, rfl⟩) h (fun q hq => by have := hP.2.2.2 q hq; rw [hR.2.2.1] at this; exact this) hd C.2.2.2.2.2.2.2.2.2.1

theorem lc_blind {G : lc_G} {σ : lc_S} {av : List Value} : FrameBlind (va_Pc av (lc_Pre G σ)) := by
  intro a U g mk q
  obtain ⟨q0, hT, hK, hP, hap, hSt⟩ := q
  have hW : U.WarmedH (U.calling g mk a).vm := State.WarmedH.refl U
  exact ⟨q0, hT.warm hW, va_K.moved (u := U) (U := U.calling g mk a) (Vm.Alike.refl U.vm) hK, hP, hap, hSt.moved (u := U) (U := U.calling g mk a) (Vm.Alike.refl U.vm)⟩
theorem lc_pre (C : lc_Cx G Γ cc nL own) {H : Heap} {locs : List Loc} (hP : lc_Hp G Γ σ H locs) (av : List Value) : ∀ U : State, U.heap = H → (lc_γs Γ).WarmedH U.vm → va_Pc av (lc_Pre G σ) av.toArray U := by
  intro U hU hW
  have hsub : ∀ q, lc_A G q → lc_γA Γ q := fun q ⟨k, hk, e⟩ => by rw [e]; exact C.2.2.2.2.2.2.2.1 k hk
  have hSt : lc_St G (lc_γA Γ) (lc_γs Γ) H := C.2.2.2.2.2.2.2.2.1.kept hP.2.2.1
  refine ⟨rfl, C.2.2.2.2.1.warm hW, va_K.moved hW.alike C.2.2.2.2.2.1, by rw [hU]; exact hP.1, C.2.2.2.2.2.2.1, ?_⟩
  rw [hU]
  exact (hSt.narrow hsub).moved hW.alike
theorem lc_run {o : Option Value} {σ' : lc_S} {rest st0 : List Value} {a : Array Value} {H : Heap} {locs : List Loc} {ls : Array Slot} (C : lc_Cx G Γ cc nL own) (hP : lc_Hp G Γ σ H locs) (hl : lv_has ls nL lv)
    (hr : va_Run Γ.1 Γ.2.1 Γ.2.2.1 (lc_γR Γ) (lc_γs Γ) (lc_γm Γ) (lc_γargs Γ) (lc_γbelow Γ) (lc_γmeth Γ) (lc_γc Γ) H locs (lc_γk Γ) (lc_γn Γ) 0 0 (F0 (lc_γm Γ) pc ls st0) rest (lc_Post G o σ' a) (lc_A G)) (kk : lc_V G Γ cc nL own (pc + 3) lv (o.toList ++ rest) σ') : lc_WW Γ H locs (F0 (lc_γm Γ) pc ls st0) := by
  intro T hT X
  obtain ⟨v, st₀, t, T', L, h0, X', hL, e1, e2, ⟨hv, hp, hz, hk⟩, st⟩ := hr T hT X
  cases hv
  rw [h0] at hz hk
  have hsub : ∀ q, lc_A G q → lc_γA Γ q := fun q ⟨k, hk, e⟩ => by rw [e]; exact C.2.2.2.2.2.2.2.1 k hk
  have hH : lc_Hp G Γ σ' T'.heap (locs ++ L) := by
    refine ⟨by rw [e1]; exact hp, Nat.le_trans hP.2.1 (by rw [e1]; exact hz), fun q h1 h2 => ?_, fun q hq => ?_⟩
    · rw [e1, hk q (Nat.lt_of_lt_of_le h1 hP.2.1) (fun z => h2 (hsub q z))]; exact hP.2.2.1 q h1 h2
    · rcases List.mem_append.mp hq with h | h
      · exact hP.2.2.2 q h
      · exact hsub _ (hL q h)
  obtain ⟨t2, a1, b1⟩ := kk C T'.heap (locs ++ L) ls hH hl T' rfl X'
  exact ⟨t2, st t2 a1, b1⟩
/-- the words of a call -/
theorem lc_cw {y : MethodName} {bytes : ByteArray} {maxL : Nat} {ret : Option FieldType} (C : lc_Cx G Γ cc nL own) (hc : Cond.code y bytes maxL ret ∈ lc_T) : ∀ w ∈ [Cond.code y bytes maxL ret], ∀ (a' : Array Value) (U : State), (lc_γs Γ).WarmedH U.vm → w.before a' U = true := by
  intro w hw a' U hW
  rw [List.mem_singleton.mp hw]
  exact (C.2.2.2.2.1.warm hW).use a' hc
/-- what a caller knows of a method by the tables: its code, that its class is ready, its kind -/
def lc_mv (y : MethodName) (bytes : ByteArray) (maxL : Nat) (ret : Option FieldType) (n : Nat) : Prop := (Cond.code y bytes maxL ret ∈ lc_T ∧ Cond.initialized y.cls ∈ lc_T ∧ Cond.instanceMethod y ∈ lc_T ∧ Cond.selects y.cls y y ∈ lc_T) ∧ (y.cls ≠ "java/lang/invoke/MethodHandle" ∧ y.cls ≠ "java/lang/invoke/VarHandle") ∧ (parseMethodDescriptor y.desc).map (fun d => d.parameters.length) = some n
def lc_ms (y : MethodName) (bytes : ByteArray) (maxL : Nat) (ret : Option FieldType) (n : Nat) : Prop := (Cond.code y bytes maxL ret ∈ lc_T ∧ Cond.initialized y.cls ∈ lc_T ∧ Cond.static y ∈ lc_T) ∧ (y.cls ≠ "java/lang/invoke/MethodHandle" ∧ y.cls ≠ "java/lang/invoke/VarHandle") ∧ (parseMethodDescriptor y.desc).map (fun d => d.parameters.length) = some n
theorem lc_plen {y : MethodName} {n : Nat} (h : (parseMethodDescriptor y.desc).map (fun d => d.parameters.length) = some n) : ∀ sig, parseMethodDescriptor y.desc = some sig → n = sig.parameters.length := by
  intro sig hs
  rw [hs] at h
  exact (Option.some.inj h).symm
theorem lc_callV {l : Launch} {y : MethodName} {bytes : ByteArray} {maxL n idx : Nat} {ret : Option FieldType} {rm rm0 : Room} (q0 : Nat) {ci : Nat} {T : u_T} {N : Nat} {fs : List Value} {As : List Value} {o : Option Value} {σ' : lc_S} {st0 : List Value} (hM : lc_M l G y bytes maxL ret rm (.ref (G.1 q0) :: As) σ o σ') (hΓ : Γ.2.1 = l) (hR : lc_γR Γ = rm0) (hy : lc_mv y bytes maxL ret n) (hq : q0 < 74) (he : lc_ent G σ q0 = .inr (ci, fs)) (hci : vwCl[ci]? = some (y.cls, T, N)) (hml : lc_ml own idx y) (hn : As.length = n) (hst : st0 = As.reverse ++ .ref (G.1 q0) :: st) (hW : (st.map fun v => v.category).sum ≤ 8) (hro : (rm.cells = 0 ∧ rm.slots = 0) ∧ rm.frames + 1 ≤ rm0.frames ∧ 8 + (maxL + 11) + rm.locals ≤ rm0.locals) (hd : decode cc pc = .ok (.invokevirtual idx, 3)) (kk : lc_V G Γ cc nL own (pc + 3) lv (o.toList ++ st) σ') : lc_V G Γ cc nL own pc lv st0 σ := by
  intro C H locs ls hP hl
  subst hΓ hR
  have hT := C.2.2.2.2.1
  have hw : (lc_ws G σ)[q0]? = some (G.1 q0, .inr (ci, fs)) := by rw [lc_ws_get G σ hq, he]
  have hf : lc_γk Γ + 0 ≤ (lc_γR Γ).cells ∧ lc_γn Γ + 0 ≤ (lc_γR Γ).slots := ⟨C.2.2.2.2.2.2.2.2.2.2.1, C.2.2.2.2.2.2.2.2.2.2.2⟩
  have hpv : PreV (lc_γs Γ) H y.cls (G.1 q0) (va_Pc (.ref (G.1 q0) :: As) (lc_Pre G σ)) As := ⟨lc_blind, va_recv C.2.2.2.2.2.1 hP.1 hci hw, lc_pre C hP _⟩
  rcases hml with h | ⟨host, h⟩
  · refine lc_run C hP hl (va_runV (Ts := lc_T) (C := y.cls) (bytes := bytes) (maxL := maxL) (ret := ret) (n := n) (index := idx) (As := As) (rest := st) ⟨C.1, C.2.1, C.2.2.1, C.2.2.2.1, fun w hw => hT.use _ hw⟩ hM ⟨⟨hro.1.1, hro.1.2, hro.2.1, hro.2.2, lc_cw C hy.1.1, List.mem_singleton.mpr rfl, hT.use _ hy.1.1, hT.use _ hy.1.2.1, hy.2.1, lc_plen hy.2.2, hT.use _ h⟩, hT.use _ hy.1.2.2.1, hT.use _ hy.1.2.2.2⟩ hpv rfl hn hl.1 hst (lv_room hW) hd hf) kk
  · refine lc_run C hP hl (va_runVN (Ts := lc_T) (C := y.cls) (host := host) (bytes := bytes) (maxL := maxL) (ret := ret) (n := n) (index := idx) (As := As) (rest := st) ⟨C.1, C.2.1, C.2.2.1, C.2.2.2.1, fun w hw => hT.use _ hw⟩ hM ⟨⟨⟨hro.1.1, hro.1.2, hro.2.1, hro.2.2, lc_cw C hy.1.1, List.mem_singleton.mpr rfl⟩, hT.use _ hy.1.1, hT.use _ hy.1.2.1, hy.2.1, lc_plen hy.2.2, hT.use _ h⟩, hT.use _ hy.1.2.2.1, hT.use _ hy.1.2.2.2⟩ hpv rfl hn hl.1 hst (lv_room hW) hd hf) kk
theorem lc_callS {l : Launch} {y : MethodName} {bytes : ByteArray} {maxL n idx : Nat} {ret : Option FieldType} {rm rm0 : Room} {As : List Value} {o : Option Value} {σ' : lc_S} {st0 : List Value} (hM : lc_M l G y bytes maxL ret rm As σ o σ') (hΓ : Γ.2.1 = l) (hR : lc_γR Γ = rm0) (hy : lc_ms y bytes maxL ret n) (hml : lc_ml own idx y) (hn : As.length = n) (hst : st0 = As.reverse ++ st) (hW : (st.map fun v => v.category).sum ≤ 8) (hro : (rm.cells = 0 ∧ rm.slots = 0) ∧ rm.frames + 1 ≤ rm0.frames ∧ 8 + (maxL + 11) + rm.locals ≤ rm0.locals) (hd : decode cc pc = .ok (.invokestatic idx, 3)) (kk : lc_V G Γ cc nL own (pc + 3) lv (o.toList ++ st) σ') : lc_V G Γ cc nL own pc lv st0 σ := by
  intro C H locs ls hP hl
  subst hΓ hR
  have hT := C.2.2.2.2.1
  have hf : lc_γk Γ + 0 ≤ (lc_γR Γ).cells ∧ lc_γn Γ + 0 ≤ (lc_γR Γ).slots := ⟨C.2.2.2.2.2.2.2.2.2.2.1, C.2.2.2.2.2.2.2.2.2.2.2⟩
  have hpv : PreS (lc_γs Γ) H (va_Pc As (lc_Pre G σ)) As := ⟨lc_blind, lc_pre C hP _⟩
  rcases hml with h | ⟨host, h⟩
  · refine lc_run C hP hl (va_runS (Ts := lc_T) (bytes := bytes) (maxL := maxL) (ret := ret) (n := n) (index := idx) (As := As) (rest := st) ⟨C.1, C.2.1, C.2.2.1, C.2.2.2.1, fun w hw => hT.use _ hw⟩ hM ⟨⟨hro.1.1, hro.1.2, hro.2.1, hro.2.2, lc_cw C hy.1.1, List.mem_singleton.mpr rfl, hT.use _ hy.1.1, hT.use _ hy.1.2.1, hy.2.1, lc_plen hy.2.2, hT.use _ h⟩, hT.use _ hy.1.2.2⟩ hpv rfl hn hl.1 hst (lv_room hW) hd hf) kk
  · refine lc_run C hP hl (va_runSN (Ts := lc_T) (host := host) (bytes := bytes) (maxL := maxL) (ret := ret) (n := n) (index := idx) (As := As) (rest := st) ⟨C.1, C.2.1, C.2.2.1, C.2.2.2.1, fun w hw => hT.use _ hw⟩ hM ⟨⟨⟨hro.1.1, hro.1.2, hro.2.1, hro.2.2, lc_cw C hy.1.1, List.mem_singleton.mpr rfl⟩, hT.use _ hy.1.1, hT.use _ hy.1.2.1, hy.2.1, lc_plen hy.2.2, hT.use _ h⟩, hT.use _ hy.1.2.2, trivial⟩ hpv rfl hn hl.1 hst (lv_room hW) hd hf) kk

theorem lc_inc1 (a : Nat) : nI a + Int32.ofInt 1 = nI (a + 1) := nI_1 a
theorem lc_m4r (a : Nat) : nI a * 4 = nI (4 * a) := by rw [Nat.mul_comm]; exact pk_mul a 4
theorem lc_m4l (a : Nat) : 4 * nI a = nI (4 * a) := pk_mul 4 a
theorem lc_m6l (a : Nat) : 6 * nI a = nI (6 * a) := pk_mul 6 a
theorem lc_m4ra (a k : Nat) : nI a * 4 + nI k = nI (4 * a + k) := by rw [lc_m4r]; exact nI_add _ _
theorem lc_m4la (a k : Nat) : 4 * nI a + nI k = nI (4 * a + k) := by rw [lc_m4l]; exact nI_add _ _
theorem lc_m6la (a k : Nat) : 6 * nI a + nI k = nI (6 * a + k) := by rw [lc_m6l]; exact nI_add _ _
end LCV
