/-! constructors: their judgement lk_V over a list of cells that grows -/
abbrev lk_E := va_G × ClassId × ClassId
def lk_K (E : lk_E) (U : State) : Prop := va_K E.1 vwCl [(E.2.1, .int), (E.2.2, .object "LateCopies$Item")] U ∧ va_AO "LateCopies$Item" U
theorem lk_K.moved {E : lk_E} {u U : State} (hvm : u.vm.Alike U.vm) (h : lk_K E u) : lk_K E U := ⟨va_K.moved hvm h.1, va_AO.moved hvm h.2⟩
def lk_Cx (E : lk_E) (Γ : lc_Γ) (cc : ByteArray) (nL : Nat) (own : String) : Prop := Γ.1.tables.exec = Jvm.exec ∧ (lc_γc Γ).code = cc ∧ (lc_γc Γ).maxLocals = nL ∧ (lc_γs Γ).vm.findClass own = some (lc_γm Γ).cls ∧ lc_Tb (lc_γs Γ) ∧ lk_K E (lc_γs Γ) ∧ (∀ q : Nat, (lc_γs Γ).heap.size ≤ q → lc_γA Γ q) ∧ (lc_γmeth Γ).locks = false
abbrev lk_WW (Γ : lc_Γ) (H : Heap) (locs : List Loc) (k n : Nat) (g : JFrame) : Prop := W Γ.1 Γ.2.1 Γ.2.2.1 (lc_γR Γ) (lc_γs Γ) (lc_γm Γ) (lc_γargs Γ) (lc_γbelow Γ) (lc_γmeth Γ) (lc_γc Γ) H locs k n (lc_γQ Γ) g
def lk_V (E : lk_E) (Γ : lc_Γ) (cc : ByteArray) (nL : Nat) (own : String) (pc : Nat) (lv : List (Nat × Value)) (st : List Value) (ws : va_W) (k n : Nat) : Prop :=
  lk_Cx E Γ cc nL own → ∀ (H : Heap) (locs : List Loc) (ls : Array Slot), va_P E.1 vwCl ws H → va_D (lc_γA Γ) ws → va_S (lc_γA Γ) (lc_γs Γ).heap H locs → lv_has ls nL lv → lk_WW Γ H locs k n (F0 (lc_γm Γ) pc ls st)
def lk_A (a sz : Nat) : Nat → Prop := fun q => q = a ∨ sz ≤ q
def lk_Pre (E : lk_E) (a : Nat) (e0 : va_E) (sz : Nat) (U : State) : Prop := U.heap.size = sz ∧ lc_Tb U ∧ lk_K E U ∧ va_P E.1 vwCl [(a, e0)] U.heap
def lk_Post (E : lk_E) (a : Nat) {S : Type} (L : S → va_W) (sz : Nat) : Array Value → State → Outcome → State → Prop := fun _ st oc t => oc = .returned none ∧ (∃ g : S, va_P E.1 vwCl (L g) t.heap ∧ va_D (lk_A a sz) (L g)) ∧ va_F (lk_A a sz) st t
/-- a constructor's contract: of the bare cell a it makes the cells L g -/
def lk_M (l : Launch) (E : lk_E) (y : MethodName) (cc : ByteArray) (nL : Nat) (rm : Room) (a : Nat) (e0 : va_E) {S : Type} (L : S → va_W) (mc ms : Nat) : Prop :=
  ∀ sz, Met l y [.code y cc nL none] rm (va_Pc [.ref a] (lk_Pre E a e0 sz)) (lk_Post E a L sz) mc ms (lk_A a sz)
def lk_Ret (E : lk_E) (Γ : lc_Γ) (l : Launch) (rm : Room) (a : Nat) {S : Type} (L : S → va_W) (mc ms : Nat) : Prop :=
  lc_γQ Γ = MQ (lc_γbelow Γ) (lk_Post E a L (lc_γs Γ).heap.size) (lc_γargs Γ) (lc_γs Γ) mc ms (lk_A a (lc_γs Γ).heap.size) ∧ (lc_γmeth Γ).sig.returnType = none ∧ lc_γA Γ = lk_A a (lc_γs Γ).heap.size ∧ Γ.2.1 = l ∧ lc_γR Γ = rm
theorem lk_entry {l : Launch} {E : lk_E} {y : MethodName} {cc : ByteArray} {nL : Nat} {rm : Room} {a : Nat} {e0 : va_E} {S : Type} {L : S → va_W} {mc ms : Nat} (hy : plainName y.cls = true) (hlen : 1 ≤ nL)
    (body : ∀ Γ : lc_Γ, lk_Ret E Γ l rm a L mc ms → ((lc_γmeth Γ).name = y.name) → lk_V E Γ cc nL y.cls 0 [(0, .ref a)] [] [(a, e0)] 0 0) : lk_M l E y cc nL rm a e0 L mc ms := by
  intro sz
  refine Met.ofW (cc := cc) (maxL := nL) (ret := none) (ws' := []) hy rfl ?_
  intro p e s m args below meth c s₁ B hml hv
  obtain ⟨rfl, rfl, hT, hK, hP⟩ := hv
  have hl := lv_entry [.ref a] (n := nL) hlen
  rw [lg_entry_eq]
  have hown : s.vm.findClass y.cls = some m.cls := findClass_of_methodNamed B.named
  have hname : meth.name = y.name := (name_of_methodNamed B.named B.method).1
  have hD : va_D (lk_A a s.heap.size) [(a, e0)] := by
    refine ⟨fun i j p q hp hq _ => ?_, fun k q hq => ?_⟩
    · have h1 : i < 1 := (List.getElem?_eq_some_iff.mp hp).1
      have h2 : j < 1 := (List.getElem?_eq_some_iff.mp hq).1
      omega
    · have h1 : k < 1 := (List.getElem?_eq_some_iff.mp hq).1
      rw [show k = 0 by omega] at hq
      cases hq
      exact Or.inl rfl
  exact body (p, l, e, (headSpec [.code y cc nL none] rm).room, s, m, [Value.ref a].toArray, below, meth, c, MQ below (lk_Post E a L s.heap.size) [Value.ref a].toArray s mc ms (lk_A a s.heap.size), lk_A a s.heap.size, 0, 0) ⟨rfl, B.returns, rfl, rfl, rfl⟩ hname ⟨B.exec, B.bytes, hml, hown, hT, hK, fun q hq => Or.inr hq, B.notSynchronized⟩ s.heap [] _ hP hD va_S.rf hl
section LKV
variable {E : lk_E} {Γ : lc_Γ} {cc : ByteArray} {nL : Nat} {own : String} {pc : Nat} {lv lv' : List (Nat × Value)} {st : List Value} {ws : va_W} {k n : Nat}
theorem lk_aload_n (j : Nat) {i : Fin 4} {x : Nat} (hd : decode cc pc = .ok (.aload_n i, 1)) (hk : lv[j]? = some ((i : Nat), .ref x)) (kk : lk_V E Γ cc nL own (pc + 1) lv (.ref x :: st) ws k n) : lk_V E Γ cc nL own pc lv st ws k n := fun C H locs ls hP hD hS hl => lv_aload_n C.1 C.2.1 hd rfl (lv_at hl j hk) (kk C H locs ls hP hD hS hl)
theorem lk_iload_n (j : Nat) {i : Fin 4} {x : Int32} (hd : decode cc pc = .ok (.iload_n i, 1)) (hk : lv[j]? = some ((i : Nat), .int x)) (kk : lk_V E Γ cc nL own (pc + 1) lv (.int x :: st) ws k n) : lk_V E Γ cc nL own pc lv st ws k n := fun C H locs ls hP hD hS hl => lv_iload_n C.1 C.2.1 hd rfl (lv_at hl j hk) (kk C H locs ls hP hD hS hl)
theorem lk_iconst {z : Int} {v : Int32} (hd : decode cc pc = .ok (.iconst z, 1)) (hv : Int32.ofInt z = v) (kk : lk_V E Γ cc nL own (pc + 1) lv (.int v :: st) ws k n) : lk_V E Γ cc nL own pc lv st ws k n := fun C H locs ls hP hD hS hl => lv_iconst C.1 C.2.1 hd hv (kk C H locs ls hP hD hS hl)
theorem lk_bipush {z : Int} {v : Int32} (hd : decode cc pc = .ok (.bipush z, 2)) (hv : (Int8.ofInt z).toInt32 = v) (kk : lk_V E Γ cc nL own (pc + 2) lv (.int v :: st) ws k n) : lk_V E Γ cc nL own pc lv st ws k n := fun C H locs ls hP hD hS hl => lv_bipush C.1 C.2.1 hd hv (kk C H locs ls hP hD hS hl)
theorem lk_sipush {z : Int} {v : Int32} (hd : decode cc pc = .ok (.sipush z, 3)) (hv : (Int16.ofInt z).toInt32 = v) (kk : lk_V E Γ cc nL own (pc + 3) lv (.int v :: st) ws k n) : lk_V E Γ cc nL own pc lv st ws k n := fun C H locs ls hP hD hS hl => lv_sipush C.1 C.2.1 hd hv (kk C H locs ls hP hD hS hl)
theorem lk_dup {va : Value} (hd : decode cc pc = .ok (.dup, 1)) (hc : va.category = 1) (kk : lk_V E Γ cc nL own (pc + 1) lv (va :: va :: st) ws k n) : lk_V E Γ cc nL own pc lv (va :: st) ws k n := fun C H locs ls hP hD hS hl => lv_dup C.1 C.2.1 hd hc (kk C H locs ls hP hD hS hl)
theorem lk_istore_n {i : Fin 4} {x : Int32} (lv' : List (Nat × Value)) (hd : decode cc pc = .ok (.istore_n i, 1)) (hn : (i : Nat) < nL) (hv : ((i : Nat), Value.int x) :: lv.filter (fun q => !(q.1 == (i : Nat)) && !(q.1 + 1 == (i : Nat) && q.2.category == 2)) = lv') (kk : lk_V E Γ cc nL own (pc + 1) lv' st ws k n) : lk_V E Γ cc nL own pc lv (.int x :: st) ws k n := fun C H locs ls hP hD hS hl => lv_istore_n C.1 C.2.1 hd rfl hl hn hv (fun ls' hl' => kk C H locs ls' hP hD hS hl')
theorem lk_astore_n {i : Fin 4} {x : Nat} (lv' : List (Nat × Value)) (hd : decode cc pc = .ok (.astore_n i, 1)) (hn : (i : Nat) < nL) (hv : ((i : Nat), Value.ref x) :: lv.filter (fun q => !(q.1 == (i : Nat)) && !(q.1 + 1 == (i : Nat) && q.2.category == 2)) = lv') (kk : lk_V E Γ cc nL own (pc + 1) lv' st ws k n) : lk_V E Γ cc nL own pc lv (.ref x :: st) ws k n := fun C H locs ls hP hD hS hl => lv_astore_n C.1 C.2.1 hd rfl hl hn hv (fun ls' hl' => kk C H locs ls' hP hD hS hl')
theorem lk_iinc (j : Nat) {i : Nat} {z : Int} {x : Int32} (v : Int32) (lv' : List (Nat × Value)) (hd : decode cc pc = .ok (.iinc i z, 3)) (hk : lv[j]? = some (i, .int x)) (hx : x + Int32.ofInt z = v) (hn : i < nL) (hv : (i, Value.int v) :: lv.filter (fun q => !(q.1 == i) && !(q.1 + 1 == i && q.2.category == 2)) = lv') (kk : lk_V E Γ cc nL own (pc + 3) lv' st ws k n) : lk_V E Γ cc nL own pc lv st ws k n := fun C H locs ls hP hD hS hl => lv_iinc C.1 C.2.1 hd hl hk hx hn hv (fun ls' hl' => kk C H locs ls' hP hD hS hl')
theorem lk_goto {off : Int} (tgt : Nat) (hd : decode cc pc = .ok (.goto off, 3)) (ht : (pc : Int) + off = (tgt : Int)) (kk : lk_V E Γ cc nL own tgt lv st ws k n) : lk_V E Γ cc nL own pc lv st ws k n := fun C H locs ls hP hD hS hl => lv_goto C.1 C.2.1 hd ht (kk C H locs ls hP hD hS hl)
theorem lk_icmp_ge {x y : Int32} {off : Int} (tgt : Nat) (hd : decode cc pc = .ok (.if_icmp .ge off, 3)) (ht : (pc : Int) + off = (tgt : Int)) (kt : y ≤ x → lk_V E Γ cc nL own tgt lv st ws k n) (kf : ¬ y ≤ x → lk_V E Γ cc nL own (pc + 3) lv st ws k n) : lk_V E Γ cc nL own pc lv (.int y :: .int x :: st) ws k n := fun C H locs ls hP hD hS hl => lv_icmp_ge C.1 C.2.1 hd ht (fun q => kt q C H locs ls hP hD hS hl) (fun q => kf q C H locs ls hP hD hS hl)
theorem lk_lv (ks : List Nat) (h : lv_pick lv ks = lv') (kk : lk_V E Γ cc nL own pc lv' st ws k n) : lk_V E Γ cc nL own pc lv st ws k n := fun C H locs ls hP hD hS hl => kk C H locs ls hP hD hS (lv_sub hl ks h)
theorem lk_ws (ws' : va_W) (h : ws = ws') (kk : lk_V E Γ cc nL own pc lv st ws' k n) : lk_V E Γ cc nL own pc lv st ws k n := h ▸ kk
theorem lk_kn (k' n' : Nat) (h : k = k') (h2 : n = n') (kk : lk_V E Γ cc nL own pc lv st ws k' n') : lk_V E Γ cc nL own pc lv st ws k n := h ▸ h2 ▸ kk
theorem lk_obj {idx x : Nat} {rm0 : Room} (hR : lc_γR Γ = rm0) (hml : Cond.methodLink own idx objectInit ∈ lc_T) (hf : 1 ≤ rm0.frames) (hlo : (st.map fun v => v.category).sum + 12 ≤ rm0.locals) (hd : decode cc pc = .ok (.invokespecial idx, 3)) (kk : lk_V E Γ cc nL own (pc + 3) lv st ws k n) : lk_V E Γ cc nL own pc lv (.ref x :: st) ws k n := by
  intro C H locs ls hP hD hS hl
  subst hR
  have hT := C.2.2.2.2.1
  refine W.objInit C.1 C.2.1 C.2.2.2.1 (hT.use _ hml) (hT.use _ (lc_in 96 (by decide +kernel) rfl)) (hT.use _ (lc_in 97 (by decide +kernel) rfl)) rfl (hl.1.trans C.2.2.1.symm) rfl hd hf (by show 2 * 0 + _ + 12 ≤ _; omega) ?_
  exact kk C H locs ls hP hD hS hl
theorem lk_newI {v : Int32} {rm0 : Room} (N : Nat) (hR : lc_γR Γ = rm0) (hv : v = nI N) (hN : N ≤ 148) (hk : k + 1 ≤ rm0.cells) (hn : n + N ≤ rm0.slots) (hd : decode cc pc = .ok (.newarray .int, 2)) (kk : ∀ q : Nat, lk_V E Γ cc nL own (pc + 2) lv (.ref q :: st) (ws ++ [(q, .inl (E.2.1, N, .inl (fun _ => 0)))]) (k + 1) (n + N)) : lk_V E Γ cc nL own pc lv (.int v :: st) ws k n := by
  intro C H locs ls hP hD hS hl
  subst hR hv
  have hT := C.2.2.2.2.1
  refine va_newa (atype := .int) (ty := .int) (a0 := (N, .inl (fun _ => 0))) C.1 C.2.1 (hT.use _ (lc_in 115 (by decide +kernel) rfl)) rfl C.2.2.2.2.2.1.1 hP hD hS C.2.2.2.2.2.2.1 (fun _ => rfl) (nI_pos (by omega)) (nI_clamp (by omega)) (by show N * 4 ≤ _; omega) hk hn hd (fun q cA H1 hK1 hP1 hD1 hS1 => ?_)
  have h1 : (lc_γs Γ).vm.findClass ("[" ++ (FieldType.int).toString) = some cA := (hK1.2 2 (cA, .int) rfl).2
  have h2 : (lc_γs Γ).vm.findClass ("[" ++ (FieldType.int).toString) = some E.2.1 := (C.2.2.2.2.2.1.1.2 0 (E.2.1, .int) rfl).2
  have e : cA = E.2.1 := Option.some.inj (h1.symm.trans h2)
  subst e
  exact kk q C H1 locs ls hP1 hD1 hS1 hl
theorem lk_newO {v : Int32} {rm0 : Room} {idx : Nat} (N : Nat) (hR : lc_γR Γ = rm0) (hcl : Cond.classLink own idx "LateCopies$Item" ∈ lc_T) (hv : v = nI N) (hN : N ≤ 148) (hk : k + 1 ≤ rm0.cells) (hn : n + N ≤ rm0.slots) (hd : decode cc pc = .ok (.anewarray idx, 3)) (kk : ∀ q : Nat, lk_V E Γ cc nL own (pc + 3) lv (.ref q :: st) (ws ++ [(q, .inl (E.2.2, N, .inr (.inr (.inr (.inr (fun _ => none))))))]) (k + 1) (n + N)) : lk_V E Γ cc nL own pc lv (.int v :: st) ws k n := by
  intro C H locs ls hP hD hS hl
  subst hR hv
  have hT := C.2.2.2.2.1
  refine va_newq C.1 C.2.1 C.2.2.2.1 (hT.use _ hcl) C.2.2.2.2.2.1.2 C.2.2.2.2.2.1.1 hP hD hS C.2.2.2.2.2.2.1 (nI_pos (by omega)) (nI_clamp (by omega)) (by omega) hk hn hd (fun q cA H1 hK1 hP1 hD1 hS1 => ?_)
  obtain ⟨_, _, _, _, _, h1⟩ := (hK1.2 2 (cA, .object "LateCopies$Item") rfl).2
  obtain ⟨_, _, _, _, _, h2⟩ := (C.2.2.2.2.2.1.1.2 1 (E.2.2, .object "LateCopies$Item") rfl).2
  have e : cA = E.2.2 := Option.some.inj (h1.symm.trans h2)
  subst e
  exact kk q C H1 locs ls hP1 hD1 hS1 hl
theorem lk_new {idx ci : Nat} {Cn : String} {T : u_T} {N : Nat} {rm0 : Room} (ty : Nat → FieldType) (fs : List Value) (hR : lc_γR Γ = rm0) (hc : lc_cl ci Cn T N) (hty : ∀ k, k < N → parseFieldDescriptor (T k).2.2.1 = some (ty k)) (hcl : Cond.classLink own idx Cn ∈ lc_T) (hinst : Cond.instantiable Cn N ∈ lc_T) (hini : Cond.initialized Cn ∈ lc_T) (hfs : ∀ j, j < N → defaultValue (ty j) = vp_V fs j) (hk : k + 1 ≤ rm0.cells) (hn : n + N ≤ rm0.slots) (hd : decode cc pc = .ok (.new idx, 3)) (kk : ∀ q : Nat, lk_V E Γ cc nL own (pc + 3) lv (.ref q :: st) (ws ++ [(q, .inr (ci, fs))]) (k + 1) (n + N)) : lk_V E Γ cc nL own pc lv st ws k n := by
  intro C H locs ls hP hD hS hl
  subst hR
  have hT := C.2.2.2.2.1
  exact va_new (Ts := lc_T) (C := Cn) (T := T) (N := N) (ci := ci) (fs := fs) C.1 C.2.1 (fun w hw => hT.use _ hw) hc.2 ty hty C.2.2.2.1 (hT.use _ hcl) (hT.use _ hinst) (hT.use _ hini) C.2.2.2.2.2.1.1 hP hD hS C.2.2.2.2.2.2.1 hc.1 hfs hk hn hd (fun q H1 hP1 hD1 hS1 => kk q C H1 locs ls hP1 hD1 hS1 hl)
theorem lk_put {idx : Nat} (q0 slot : Nat) {ci a : Nat} {Cn : String} {T : u_T} {N : Nat} (ty0 : Nat → FieldType) {ty : FieldType} {fs : List Value} {v : Value} (ws' : va_W) (hty : ∀ k, k < N → parseFieldDescriptor (T k).2.2.1 = some (ty0 k)) (hnm : ∀ a, a < N → ∀ b, b < N → a ≠ b → (T a).2.1 ≠ (T b).2.1) (he : ws[q0]? = some (a, .inr (ci, fs))) (hc : lc_cl ci Cn T N) (hs : slot < N) (hl0 : Cond.fieldLink own idx (T slot).1 (T slot).2.1 (T slot).2.2.1 ∈ lc_T) (hfin : (T slot).2.2.2 = false) (hpd : parseFieldDescriptor (T slot).2.2.1 = some ty) (hn : narrow ty v = v) (hfit : fits ty v = true) (hlen : slot < fs.length) (hw : ws.set q0 (a, .inr (ci, fs.set slot v)) = ws') (hd : decode cc pc = .ok (.putfield idx, 3)) (kk : lk_V E Γ cc nL own (pc + 3) lv st ws' k n) : lk_V E Γ cc nL own pc lv (v :: .ref a :: st) ws k n := by
  intro C H locs ls hP hD hS hl
  subst hw
  have hT := C.2.2.2.2.1
  exact va_put (Ts := lc_T) (D := E.1) (C := Cn) (T := T) (N := N) (ci := ci) C.1 C.2.1 (fun w hw => hT.use _ hw) hc.2 ty0 hty hnm C.2.2.2.1 C.2.2.2.2.2.1.1 hP hD hS q0 he hc.1 slot hs (hT.use _ hl0) (fun _ h9 => h9) hfin hpd hn hfit hlen hd (fun H1 locs1 hP1 hD1 hS1 => kk C H1 locs1 ls hP1 hD1 hS1 hl)
theorem lk_putF {idx : Nat} (q0 slot : Nat) {ci a : Nat} {Cn : String} {T : u_T} {N : Nat} (ty0 : Nat → FieldType) {ty : FieldType} {fs : List Value} {v : Value} (ws' : va_W) (hin : (lc_γmeth Γ).name = "<init>") (hty : ∀ k, k < N → parseFieldDescriptor (T k).2.2.1 = some (ty0 k)) (hnm : ∀ a, a < N → ∀ b, b < N → a ≠ b → (T a).2.1 ≠ (T b).2.1) (he : ws[q0]? = some (a, .inr (ci, fs))) (hc : lc_cl ci Cn T N) (hs : slot < N) (hl0 : Cond.fieldLink own idx (T slot).1 (T slot).2.1 (T slot).2.2.1 ∈ lc_T) (hfin : (T slot).2.2.2 = true) (hdecl : (T slot).1 = own) (hpd : parseFieldDescriptor (T slot).2.2.1 = some ty) (hn : narrow ty v = v) (hfit : fits ty v = true) (hlen : slot < fs.length) (hw : ws.set q0 (a, .inr (ci, fs.set slot v)) = ws') (hd : decode cc pc = .ok (.putfield idx, 3)) (kk : lk_V E Γ cc nL own (pc + 3) lv st ws' k n) : lk_V E Γ cc nL own pc lv (v :: .ref a :: st) ws k n := by
  intro C H locs ls hP hD hS hl
  subst hw
  have hT := C.2.2.2.2.1
  exact va_putF (Ts := lc_T) (D := E.1) (C := Cn) (T := T) (N := N) (ci := ci) C.1 C.2.1 (fun w hw => hT.use _ hw) hc.2 ty0 hty hnm C.2.2.2.1 C.2.2.2.2.2.1.1 hP hD hS q0 he hc.1 slot hs (hT.use _ hl0) (fun _ h9 => h9) hfin hin hdecl hpd hn hfit hlen hd (fun H1 locs1 hP1 hD1 hS1 => kk C H1 locs1 ls hP1 hD1 hS1 hl)
theorem lk_get {idx : Nat} (q0 slot : Nat) {ci a : Nat} {Cn : String} {T : u_T} {N : Nat} {fs : List Value} {v : Value} (he : ws[q0]? = some (a, .inr (ci, fs))) (hc : lc_cl ci Cn T N) (hs : slot < N) (hv : fs[slot]? = some v) (hl0 : Cond.fieldLink own idx (T slot).1 (T slot).2.1 (T slot).2.2.1 ∈ lc_T) (hd : decode cc pc = .ok (.getfield idx, 3)) (kk : lk_V E Γ cc nL own (pc + 3) lv (v :: st) ws k n) : lk_V E Γ cc nL own pc lv (.ref a :: st) ws k n := by
  intro C H locs ls hP hD hS hl
  have hT := C.2.2.2.2.1
  exact va_get (D := E.1) C.1 C.2.1 (fun w hw => hT.use _ hw) hc.2 C.2.2.2.1 C.2.2.2.2.2.1.1 hP q0 he hc.1 slot hs (hT.use _ hl0) (fun _ h9 => h9) hv hd (kk C H locs ls hP hD hS hl)
theorem lk_iast (q0 i : Nat) {a N : Nat} {f : Nat → Int32} {x v : Int32} (ws' : va_W) (he : ws[q0]? = some (a, .inl (E.2.1, N, .inl f))) (hx : x = nI i) (hi : i < N) (hN : N ≤ 148) (hw : ws.set q0 (a, .inl (E.2.1, N, .inl (upd f i v))) = ws') (hd : decode cc pc = .ok (.iastore, 1)) (kk : lk_V E Γ cc nL own (pc + 1) lv st ws' k n) : lk_V E Γ cc nL own pc lv (.int v :: .int x :: .ref a :: st) ws k n := by
  intro C H locs ls hP hD hS hl
  subst hw hx
  refine va_iast (D := E.1) C.1 C.2.1 C.2.2.2.2.2.1.1 hP hD hS q0 0 he rfl (vp_in_nI hi (by omega)) hd (fun H1 locs1 hP1 hD1 hS1 => ?_)
  rw [nI_clamp (by omega)] at hP1 hD1
  exact kk C H1 locs1 ls hP1 hD1 hS1 hl
theorem lk_ast (q0 qk i : Nat) {a v N : Nat} {f : Nat → Option Nat} {vs : List Value} {x : Int32} (ws' : va_W) (he : ws[q0]? = some (a, .inl (E.2.2, N, .inr (.inr (.inr (.inr f)))))) (hv : ws[qk]? = some (v, .inr (0, vs))) (hx : x = nI i) (hi : i < N) (hN : N ≤ 148) (hw : ws.set q0 (a, .inl (E.2.2, N, .inr (.inr (.inr (.inr (va_up f i (some v))))))) = ws') (hd : decode cc pc = .ok (.aastore, 1)) (kk : lk_V E Γ cc nL own (pc + 1) lv st ws' k n) : lk_V E Γ cc nL own pc lv (.ref v :: .int x :: .ref a :: st) ws k n := by
  intro C H locs ls hP hD hS hl
  subst hw hx
  refine va_astq (D := E.1) (r := (RX0, TX0, 6)) C.1 C.2.1 C.2.2.2.2.2.1.1 hP hD hS q0 1 qk 0 he rfl hv rfl (vp_in_nI hi (by omega)) hd (fun H1 locs1 hP1 hD1 hS1 => ?_)
  rw [nI_clamp (by omega)] at hP1 hD1
  exact kk C H1 locs1 ls hP1 hD1 hS1 hl
theorem lk_len (q0 : Nat) {a N : Nat} {f : Nat → Option Nat} (he : ws[q0]? = some (a, .inl (E.2.2, N, .inr (.inr (.inr (.inr f)))))) (hd : decode cc pc = .ok (.arraylength, 1)) (kk : lk_V E Γ cc nL own (pc + 1) lv (.int (nI N) :: st) ws k n) : lk_V E Γ cc nL own pc lv (.ref a :: st) ws k n := by
  intro C H locs ls hP hD hS hl
  exact va_alen (D := E.1) C.1 C.2.1 C.2.2.2.2.2.1.1 hP q0 1 he (ty := .object "LateCopies$Item") rfl rfl hd (kk C H locs ls hP hD hS hl)
theorem lk_vret {l : Launch} {rm : Room} {a : Nat} {S : Type} {L : S → va_W} {mc ms : Nat} (g : S) (hR : lk_Ret E Γ l rm a L mc ms) (hw : ws = L g) (hd : decode cc pc = .ok (.return_, 1)) : lk_V E Γ cc nL own pc lv [] ws mc ms := by
  intro C H locs ls hP hD hS hl
  subst hw
  have hS' := hS
  have hD' := hD
  rw [hR.2.2.1] at hS' hD'
  show W _ _ _ _ _ _ _ _ _ _ _ _ _ _ (lc_γQ Γ) _
  rw [hR.1]
  exact W.vret C.1 C.2.1 hR.2.1 (fun t ht hW => ⟨rfl, ⟨g, by rw [ht]; exact hP, hD'⟩, hS'.F ht⟩) hS'.2.2 hd C.2.2.2.2.2.2.2
theorem lk_join {A0 : Nat → Prop} {D : va_G} {wr w1 : va_W} {a : Nat} {e0 : va_E} {H0 H H1 : Heap} (hP : va_P D vwCl (wr ++ [(a, e0)]) H) (hD : va_D A0 (wr ++ [(a, e0)])) (hA : ∀ q : Nat, H0.size ≤ q → A0 q) (hs : H0.size ≤ H.size) (hk : ∀ q : Nat, q < H.size → ¬ lk_A a H.size q → H1[q]? = H[q]?) (hP1 : va_P D vwCl w1 H1) (hD1 : va_D (lk_A a H.size) w1) : va_P D vwCl (wr ++ w1) H1 ∧ va_D A0 (wr ++ w1) := by
  have ha : A0 a := hD.2 wr.length (a, e0) (by rw [List.getElem?_append_right (Nat.le_refl _)]; simp)
  have apart : ∀ (i : Nat) (q : Nat × va_E), wr[i]? = some q → q.1 < H.size ∧ ¬ lk_A a H.size q.1 := by
    intro i q hq
    have hi : i < wr.length := (List.getElem?_eq_some_iff.mp hq).1
    have hq' : (wr ++ [(a, e0)])[i]? = some q := by rw [List.getElem?_append_left hi]; exact hq
    have hl := (hP i q hq').lt
    refine ⟨hl, fun z => ?_⟩
    rcases z with z | z
    · have := hD.1 i wr.length q (a, e0) hq' (by rw [List.getElem?_append_right (Nat.le_refl _)]; simp) z
      omega
    · omega
  refine ⟨va_P.app (fun i q hq => ?_) hP1, va_D.app ⟨fun i j x y hx hy hxy => ?_, fun i q hq => ?_⟩ (hD1.weaken (fun i q _ h => ?_)) (fun i j x y hx hy hxy => ?_)⟩
  · have hi : i < wr.length := (List.getElem?_eq_some_iff.mp hq).1
    have hq' : (wr ++ [(a, e0)])[i]? = some q := by rw [List.getElem?_append_left hi]; exact hq
    exact (hP i q hq').kept (hk q.1 (apart i q hq).1 (apart i q hq).2)
  · have hi : i < wr.length := (List.getElem?_eq_some_iff.mp hx).1
    have hj : j < wr.length := (List.getElem?_eq_some_iff.mp hy).1
    exact hD.1 i j x y (by rw [List.getElem?_append_left hi]; exact hx) (by rw [List.getElem?_append_left hj]; exact hy) hxy
  · have hi : i < wr.length := (List.getElem?_eq_some_iff.mp hq).1
    exact hD.2 i q (by rw [List.getElem?_append_left hi]; exact hq)
  · rcases h with h | h
    · rw [h]; exact ha
    · exact hA _ (Nat.le_trans hs h)
  · exact (apart i x hx).2 (by rw [hxy]; exact hD1.2 j y hy)
theorem lk_blind {a : Nat} {e0 : va_E} {sz : Nat} : FrameBlind (va_Pc [.ref a] (lk_Pre E a e0 sz)) := by
  intro b U g mk q
  obtain ⟨q0, q1, hT, hK, hP⟩ := q
  exact ⟨q0, q1, hT.warm (State.WarmedH.refl U), lk_K.moved (u := U) (U := U.calling g mk b) (Vm.Alike.refl U.vm) hK, hP⟩
/-- what is known of a constructor, or of a method without arguments and answer -/
def lk_mi (y : MethodName) (bytes : ByteArray) (maxL : Nat) : Prop := (Cond.code y bytes maxL none ∈ lc_T ∧ Cond.initialized y.cls ∈ lc_T ∧ Cond.instanceMethod y ∈ lc_T) ∧ (y.cls ≠ "java/lang/invoke/MethodHandle" ∧ y.cls ≠ "java/lang/invoke/VarHandle") ∧ (parseMethodDescriptor y.desc).map (fun d => d.parameters.length) = some 0
theorem lk_cw {y : MethodName} {bytes : ByteArray} {maxL : Nat} {ret : Option FieldType} (C : lk_Cx E Γ cc nL own) (hc : Cond.code y bytes maxL ret ∈ lc_T) : ∀ w ∈ [Cond.code y bytes maxL ret], ∀ (a' : Array Value) (U : State), (lc_γs Γ).WarmedH U.vm → w.before a' U = true := by
  intro w hw a' U hW
  rw [List.mem_singleton.mp hw]
  exact (C.2.2.2.2.1.warm hW).use a' hc
theorem lk_run {a : Nat} {e0 : va_E} {wr : va_W} {S : Type} {L : S → va_W} {mc ms : Nat} {st0 : List Value} {ar : Array Value} {H : Heap} {locs : List Loc} {ls : Array Slot} (C : lk_Cx E Γ cc nL own) (hP : va_P E.1 vwCl (wr ++ [(a, e0)]) H) (hD : va_D (lc_γA Γ) (wr ++ [(a, e0)])) (hS : va_S (lc_γA Γ) (lc_γs Γ).heap H locs) (hl : lv_has ls nL lv)
    (hr : va_Run Γ.1 Γ.2.1 Γ.2.2.1 (lc_γR Γ) (lc_γs Γ) (lc_γm Γ) (lc_γargs Γ) (lc_γbelow Γ) (lc_γmeth Γ) (lc_γc Γ) H locs k n mc ms (F0 (lc_γm Γ) pc ls st0) st (lk_Post E a L H.size ar) (lk_A a H.size)) (kk : ∀ g : S, lk_V E Γ cc nL own (pc + 3) lv st (wr ++ L g) (k + mc) (n + ms)) : lk_WW Γ H locs k n (F0 (lc_γm Γ) pc ls st0) := by
  intro T hT X
  obtain ⟨v, st₀, t, T', Lo, h0, X', hL, e1, e2, ⟨hv, ⟨g, hp, hd⟩, hz, hk⟩, stp⟩ := hr T hT X
  cases hv
  rw [h0] at hz hk
  obtain ⟨hP1, hD1⟩ := lk_join (H1 := T'.heap) hP hD C.2.2.2.2.2.2.1 hS.1 (fun q h1 h2 => by rw [e1]; exact hk q h1 h2) (by rw [e1]; exact hp) hd
  have ha : lc_γA Γ a := hD.2 wr.length (a, e0) (by rw [List.getElem?_append_right (Nat.le_refl _)]; simp)
  have hsub : ∀ q, lk_A a H.size q → lc_γA Γ q := fun q h => by
    rcases h with h | h
    · rw [h]; exact ha
    · exact C.2.2.2.2.2.2.1 q (Nat.le_trans hS.1 h)
  have hS1 : va_S (lc_γA Γ) (lc_γs Γ).heap T'.heap (locs ++ Lo) := by
    refine ⟨Nat.le_trans hS.1 (by rw [e1]; exact hz), fun q h1 h2 => ?_, fun q hq => ?_⟩
    · rw [e1, hk q (Nat.lt_of_lt_of_le h1 hS.1) (fun z => h2 (hsub q z))]; exact hS.2.1 q h1 h2
    · rcases List.mem_append.mp hq with h | h
      · exact hS.2.2 q h
      · exact hsub _ (hL q h)
  obtain ⟨t2, a1, b1⟩ := kk g C T'.heap (locs ++ Lo) ls hP1 hD1 hS1 hl T' rfl X'
  exact ⟨t2, stp t2 a1, b1⟩
theorem lk_preS {a : Nat} {e0 : va_E} {wr : va_W} {H : Heap} (C : lk_Cx E Γ cc nL own) (hP : va_P E.1 vwCl (wr ++ [(a, e0)]) H) : ∀ U : State, U.heap = H → (lc_γs Γ).WarmedH U.vm → va_Pc [.ref a] (lk_Pre E a e0 H.size) [Value.ref a].toArray U := by
  intro U hU hW
  refine ⟨rfl, by rw [hU], C.2.2.2.2.1.warm hW, lk_K.moved hW.alike C.2.2.2.2.2.1, ?_⟩
  rw [hU]
  intro i q hq
  have h1 : i < 1 := (List.getElem?_eq_some_iff.mp hq).1
  rw [show i = 0 by omega] at hq
  cases hq
  exact hP wr.length (a, e0) (by rw [List.getElem?_append_right (Nat.le_refl _)]; simp)
theorem lk_callI {l : Launch} {y : MethodName} {bytes : ByteArray} {maxL idx : Nat} {rm rm0 : Room} {a : Nat} {e0 : va_E} {S : Type} {L : S → va_W} {mc ms : Nat} (wr : va_W) (hM : lk_M l E y bytes maxL rm a e0 L mc ms) (hws : ws = wr ++ [(a, e0)]) (hΓ : Γ.2.1 = l) (hR : lc_γR Γ = rm0) (hy : lk_mi y bytes maxL) (hyi : y.name = "<init>") (hml : lc_ml own idx y) (hW : (st.map fun v => v.category).sum ≤ 8) (hro : (rm.cells = mc ∧ rm.slots = ms) ∧ rm.frames + 1 ≤ rm0.frames ∧ 8 + (maxL + 11) + rm.locals ≤ rm0.locals) (hf : k + mc ≤ rm0.cells ∧ n + ms ≤ rm0.slots) (hd : decode cc pc = .ok (.invokespecial idx, 3)) (kk : ∀ g : S, lk_V E Γ cc nL own (pc + 3) lv st (wr ++ L g) (k + mc) (n + ms)) : lk_V E Γ cc nL own pc lv (.ref a :: st) ws k n := by
  intro C H locs ls hP hD hS hl
  subst hΓ hR hws
  have hT := C.2.2.2.2.1
  have hps : PreS (lc_γs Γ) H (va_Pc [.ref a] (lk_Pre E a e0 H.size)) [.ref a] := ⟨lk_blind, lk_preS C hP⟩
  rcases hml with h | ⟨host, h⟩
  · exact lk_run C hP hD hS hl (va_runI (Ts := lc_T) (bytes := bytes) (maxL := maxL) (n := 0) (index := idx) (b := a) (As := []) (rest := st) ⟨C.1, C.2.1, C.2.2.1, C.2.2.2.1, fun w hw => hT.use _ hw⟩ (hM H.size) ⟨⟨hro.1.1, hro.1.2, hro.2.1, hro.2.2, lk_cw C hy.1.1, List.mem_singleton.mpr rfl, hT.use _ hy.1.1, hT.use _ hy.1.2.1, hy.2.1, lc_plen hy.2.2, hT.use _ h⟩, hyi, hT.use _ hy.1.2.2⟩ hps rfl rfl hl.1 rfl (lv_room hW) hd hf) kk
  · exact lk_run C hP hD hS hl (va_runIN (Ts := lc_T) (host := host) (bytes := bytes) (maxL := maxL) (n := 0) (index := idx) (b := a) (As := []) (rest := st) ⟨C.1, C.2.1, C.2.2.1, C.2.2.2.1, fun w hw => hT.use _ hw⟩ (hM H.size) ⟨⟨⟨hro.1.1, hro.1.2, hro.2.1, hro.2.2, lk_cw C hy.1.1, List.mem_singleton.mpr rfl⟩, hT.use _ hy.1.1, hT.use _ hy.1.2.1, hy.2.1, lc_plen hy.2.2, hT.use _ h⟩, hyi, hT.use _ hy.1.2.2⟩ hps rfl rfl hl.1 rfl (lv_room hW) hd hf) kk
theorem lk_callV {l : Launch} {y : MethodName} {bytes : ByteArray} {maxL idx : Nat} {rm rm0 : Room} {a ci : Nat} {T : u_T} {N : Nat} {fs : List Value} {S : Type} {L : S → va_W} {mc ms : Nat} (wr : va_W) (hM : lk_M l E y bytes maxL rm a (.inr (ci, fs)) L mc ms) (hws : ws = wr ++ [(a, .inr (ci, fs))]) (hΓ : Γ.2.1 = l) (hR : lc_γR Γ = rm0) (hy : lc_mv y bytes maxL none 0) (hci : vwCl[ci]? = some (y.cls, T, N)) (hml : Cond.methodLink own idx y ∈ lc_T) (hW : (st.map fun v => v.category).sum ≤ 8) (hro : (rm.cells = mc ∧ rm.slots = ms) ∧ rm.frames + 1 ≤ rm0.frames ∧ 8 + (maxL + 11) + rm.locals ≤ rm0.locals) (hf : k + mc ≤ rm0.cells ∧ n + ms ≤ rm0.slots) (hd : decode cc pc = .ok (.invokevirtual idx, 3)) (kk : ∀ g : S, lk_V E Γ cc nL own (pc + 3) lv st (wr ++ L g) (k + mc) (n + ms)) : lk_V E Γ cc nL own pc lv (.ref a :: st) ws k n := by
  intro C H locs ls hP hD hS hl
  subst hΓ hR hws
  have hT := C.2.2.2.2.1
  have hw : (wr ++ [(a, .inr (ci, fs))])[wr.length]? = some (a, (.inr (ci, fs) : va_E)) := by rw [List.getElem?_append_right (Nat.le_refl _)]; simp
  have hpv : PreV (lc_γs Γ) H y.cls a (va_Pc [.ref a] (lk_Pre E a (.inr (ci, fs)) H.size)) [] := ⟨lk_blind, va_recv C.2.2.2.2.2.1.1 hP hci hw, lk_preS C hP⟩
  exact lk_run C hP hD hS hl (va_runV (Ts := lc_T) (C := y.cls) (bytes := bytes) (maxL := maxL) (ret := none) (n := 0) (index := idx) (As := []) (rest := st) ⟨C.1, C.2.1, C.2.2.1, C.2.2.2.1, fun w hw => hT.use _ hw⟩ (hM H.size) ⟨⟨hro.1.1, hro.1.2, hro.2.1, hro.2.2, lk_cw C hy.1.1, List.mem_singleton.mpr rfl, hT.use _ hy.1.1, hT.use _ hy.1.2.1, hy.2.1, lc_plen hy.2.2, hT.use _ hml⟩, hT.use _ hy.1.2.2.1, hT.use _ hy.1.2.2.2⟩ hpv rfl rfl hl.1 rfl (lv_room hW) hd hf) kk
end LKV
