/-! the tables, the statics, the classes at the law's entry -/
theorem lw_Tb {s : State} {b : Nat} (hts : ∀ w ∈ lw_tbl, w.before #[Value.ref b] s = true) : lc_Tb s := by
  intro w hw
  have hm := List.mem_filter.mp hw
  by_cases hq : goodWord w = true
  · exact word_at (State.WarmedH.refl s) (good_of_word hq) (hts w hm.1)
  · rcases lc_gw_nest hm.2 hq with ⟨a, i, b, n, d, hh, rfl⟩ | ⟨a, i, x, hh, rfl⟩
    · exact va_tabs rfl rfl (hts _ hm.1)
    · exact va_tabs rfl rfl (hts _ hm.1)
theorem lw_known {s : State} (hT : lc_Tb s) {A : Array Value} (hO : (Cond.arrayOver (.object "LateCopies$Item")).before A s = true) : ∃ E : lk_E, lk_K E s := by
  have u : ∀ w ∈ lc_T, w.before #[] s = true := fun w hw => hT.use _ hw
  obtain ⟨c0, i0, h0⟩ := u_known (C := RX0) (T := TX0) (N := 6) (n := 6) u lc_cX0.2 (u _ (lc_in 124 (by decide +kernel) rfl))
  obtain ⟨c1, i1, h1⟩ := u_known (C := RX1) (T := TX1) (N := 2) (n := 2) u lc_cX1.2 (u _ (lc_in 99 (by decide +kernel) rfl))
  obtain ⟨c2, i2, h2⟩ := u_known (C := RX2) (T := TX2) (N := 3) (n := 3) u lc_cX2.2 (u _ (lc_in 204 (by decide +kernel) rfl))
  obtain ⟨c3, i3, h3⟩ := u_known (C := RX3) (T := TX3) (N := 10) (n := 10) u lc_cX3.2 (u _ (lc_in 117 (by decide +kernel) rfl))
  obtain ⟨c4, i4, h4⟩ := u_known (C := RX4) (T := TX4) (N := 4) (n := 4) u lc_cX4.2 (u _ (lc_in 91 (by decide +kernel) rfl))
  obtain ⟨c5, i5, h5⟩ := u_known (C := RX5) (T := TX5) (N := 23) (n := 23) u lc_cX5.2 (u _ (lc_in 540 (by decide +kernel) rfl))
  obtain ⟨cI, kI, compI, n1, n2, n3⟩ := Cond.arrayClass_spec (u (.arrayClass .int) (lc_in 115 (by decide +kernel) rfl))
  obtain ⟨compO, cO, kO, m1, m2, m3, m4, m5⟩ := Cond.arrayOver_spec hO
  refine ⟨((fun k => match k with | 0 => c0 | 1 => c1 | 2 => c2 | 3 => c3 | 4 => c4 | _ => c5, fun k => match k with | 0 => i0 | 1 => i1 | 2 => i2 | 3 => i3 | 4 => i4 | _ => i5), cI, cO), ⟨fun k q hq => ?_, fun k q hq => ?_⟩, va_AO.of hO⟩
  · match k, hq with
    | 0, hq => cases hq; exact h0
    | 1, hq => cases hq; exact h1
    | 2, hq => cases hq; exact h2
    | 3, hq => cases hq; exact h3
    | 4, hq => cases hq; exact h4
    | 5, hq => cases hq; exact h5
    | k + 6, hq => simp [vwCl] at hq
  · match k, hq with
    | 0, hq => cases hq; exact ⟨fun n z => ⟨fun k h => (by cases h), kI, n2, compI, n3⟩, n1⟩
    | 1, hq => cases hq; exact ⟨fun n z => ⟨fun k h => (by cases h), kO, m3, compO, m4⟩, kO, compO, m3, m4, m1, m5⟩
    | k + 2, hq => simp at hq
theorem lw_stat {s : State} {b : Nat} (hts : ∀ w ∈ lw_tbl, w.before #[Value.ref b] s = true) (hgv : (Jvm.Cond.and given_1 narrow_1).before #[Value.ref b] s = true) : ∃ t : Nat × Nat × Nat, ∀ G : lc_G, G.2.2.2.2.2 = t → lc_St G (fun q => s.heap.size ≤ q) s s.heap := by
  have hs := flat_of_before _ hgv
  have hA : ∀ a : Nat, a < s.heap.size → ¬ (fun q : Nat => s.heap.size ≤ q) a := fun a h z => absurd h (Nat.not_lt.mpr z)
  have hini := hts (.initialized "LateCopies") (List.mem_of_getElem? (i := 81) (by decide +kernel))
  obtain ⟨tL, eL, hTL⟩ := va_Tof (N := 4) (f := fun k => .int (lc_least k)) (A := fun q : Nat => s.heap.size ≤ q) (by decide) (hs (.arrayOf (Term.static "LateCopies" "LEAST_LIMITS" "[I") .int) (by decide +kernel)) (va_eqt (hs (.eq (.length (Term.static "LateCopies" "LEAST_LIMITS" "[I")) (.int 4)) (by decide +kernel))) (fun j hj => by
    match j, hj with
    | 0, _ => exact va_eqt (hs (.eq (.elem (Term.static "LateCopies" "LEAST_LIMITS" "[I") (.int 0)) (.int 1)) (by decide +kernel))
    | 1, _ => exact va_eqt (hs (.eq (.elem (Term.static "LateCopies" "LEAST_LIMITS" "[I") (.int 1)) (.int 0)) (by decide +kernel))
    | 2, _ => exact va_eqt (hs (.eq (.elem (Term.static "LateCopies" "LEAST_LIMITS" "[I") (.int 2)) (.int 1)) (by decide +kernel))
    | 3, _ => exact va_eqt (hs (.eq (.elem (Term.static "LateCopies" "LEAST_LIMITS" "[I") (.int 3)) (.int 0)) (by decide +kernel))
    | j + 4, h => exact absurd h (by omega)) hA
  have hZL := va_Zof (A := fun q : Nat => s.heap.size ≤ q) (hts (.laysStatic "LateCopies" "LEAST_LIMITS" "[I") (List.mem_of_getElem? (i := 273) (by decide +kernel))) hini eL hA
  obtain ⟨tM, eM, hTM⟩ := va_Tof (N := 4) (f := fun k => .int (lc_most k)) (A := fun q : Nat => s.heap.size ≤ q) (by decide) (hs (.arrayOf (Term.static "LateCopies" "MOST_LIMITS" "[I") .int) (by decide +kernel)) (va_eqt (hs (.eq (.length (Term.static "LateCopies" "MOST_LIMITS" "[I")) (.int 4)) (by decide +kernel))) (fun j hj => by
    match j, hj with
    | 0, _ => exact va_eqt (hs (.eq (.elem (Term.static "LateCopies" "MOST_LIMITS" "[I") (.int 0)) (.int 50)) (by decide +kernel))
    | 1, _ => exact va_eqt (hs (.eq (.elem (Term.static "LateCopies" "MOST_LIMITS" "[I") (.int 1)) (.int 200)) (by decide +kernel))
    | 2, _ => exact va_eqt (hs (.eq (.elem (Term.static "LateCopies" "MOST_LIMITS" "[I") (.int 2)) (.int 3)) (by decide +kernel))
    | 3, _ => exact va_eqt (hs (.eq (.elem (Term.static "LateCopies" "MOST_LIMITS" "[I") (.int 3)) (.int 50)) (by decide +kernel))
    | j + 4, h => exact absurd h (by omega)) hA
  have hZM := va_Zof (A := fun q : Nat => s.heap.size ≤ q) (hts (.laysStatic "LateCopies" "MOST_LIMITS" "[I") (List.mem_of_getElem? (i := 275) (by decide +kernel))) hini eM hA
  obtain ⟨tW, eW, hTW⟩ := va_Tof (N := 5) (f := fun k => .int (lc_wei k)) (A := fun q : Nat => s.heap.size ≤ q) (by decide) (hs (.arrayOf (Term.static "LateCopies" "WEIGHTS" "[I") .int) (by decide +kernel)) (va_eqt (hs (.eq (.length (Term.static "LateCopies" "WEIGHTS" "[I")) (.int 5)) (by decide +kernel))) (fun j hj => by
    match j, hj with
    | 0, _ => exact va_eqt (hs (.eq (.elem (Term.static "LateCopies" "WEIGHTS" "[I") (.int 0)) (.int 60)) (by decide +kernel))
    | 1, _ => exact va_eqt (hs (.eq (.elem (Term.static "LateCopies" "WEIGHTS" "[I") (.int 1)) (.int 30)) (by decide +kernel))
    | 2, _ => exact va_eqt (hs (.eq (.elem (Term.static "LateCopies" "WEIGHTS" "[I") (.int 2)) (.int 20)) (by decide +kernel))
    | 3, _ => exact va_eqt (hs (.eq (.elem (Term.static "LateCopies" "WEIGHTS" "[I") (.int 3)) (.int 15)) (by decide +kernel))
    | 4, _ => exact va_eqt (hs (.eq (.elem (Term.static "LateCopies" "WEIGHTS" "[I") (.int 4)) (.int 12)) (by decide +kernel))
    | j + 5, h => exact absurd h (by omega)) hA
  have hZW := va_Zof (A := fun q : Nat => s.heap.size ≤ q) (hts (.laysStatic "LateCopies" "WEIGHTS" "[I") (List.mem_of_getElem? (i := 480) (by decide +kernel))) hini eW hA
  refine ⟨(tL, tM, tW), fun G hG => ?_⟩
  have g1 : G.2.2.2.2.2.1 = tL := congrArg Prod.fst hG
  have g2 : G.2.2.2.2.2.2.1 = tM := congrArg (fun x => x.2.1) hG
  have g3 : G.2.2.2.2.2.2.2 = tW := congrArg (fun x => x.2.2) hG
  unfold lc_St
  rw [g1, g2, g3]
  exact ⟨⟨hZL, hTL⟩, ⟨hZM, hTM⟩, hZW, hTW⟩
/-- YOUR PART: from the entry, for every script of at most 2048 ints, the law comes to its end with true ('hflags': the launch's flags, for a law that throws: no stack traces) -/
theorem whole_start {p : Program} {e : Env} {s : State} {m : MethodId} {below : List Frame} {meth : Method} {c : Code} (l : Launch) (hflags : l.flags = flags0) {b L : Nat} {xs : Nat → Int32} (hL : L ≤ 2048) (C0 : lw_At p s m meth c b L xs) : W p l e room_1 s m #[Value.ref b] below meth c s.heap [] 0 0 (lw_Z below #[Value.ref b] s) (entryFrame m ([Value.ref b] : List Value).toArray 4) := by
  obtain ⟨hx, hb, hr, hml, hown, hts, hX, hbl, hlocks, hgv⟩ := C0
  have hT : lc_Tb s := lw_Tb hts
  obtain ⟨t, hSt⟩ := lw_stat hts hgv
  obtain ⟨E, hK⟩ := lw_known hT (hts (.arrayOver (.object "LateCopies$Item")) (List.mem_of_getElem? (i := 123) (by decide +kernel)))
  have hl := lv_entry ([.ref b]) (n := 4) (Nat.le_of_ble_eq_true rfl)
  rw [lg_entry_eq]
  exact lw_make (p := p) (l := l) (e := e) (below := below) (E := E) t hX hbl hL hr hSt ⟨hx, hb, hml, hown, hT, hK, fun _ h => h, hlocks⟩ s.heap [] _ (fun k q h => by simp at h) ⟨fun i j p q h => by simp at h, fun k q h => by simp at h⟩ va_S.rf hl
set_option maxHeartbeats 4000000 in
theorem lw_walk (l : Launch) (hflags : l.flags = flags0) (b : Addr) (xs : List Int32) : MetFree l x (headSpec (Jvm.Cond.code x code maxLocals ret :: tables_1) room_1) (lw_P b xs) (fun _ _ _ _ _ => True) lw_Q := by
  refine MetFree.of_bodyS (code := code) (maxLocals := maxLocals) (ret := ret) (by decide) ?_ ?_
  · intro args s m h hn
    obtain ⟨meth, c, h1, h2, h3, h4, h5, h6, -, -⟩ := Cond.code_spec hn (atoms_spec (ws := Jvm.Cond.code x code maxLocals ret :: tables_1) h _ List.mem_cons_self)
    exact ⟨meth, c, h1, h2, h3, h4, h5, h6⟩
  · intro p e s m args below meth c s₁ B hml0 hP _
    obtain ⟨rfl, hx, hbd, hgv⟩ := hP
    obtain ⟨scr, harrAt, hlist, hof, hsmall⟩ := hx
    obtain ⟨hcb, hkn, -, -⟩ := State.arrayAt?_spec harrAt
    have hown : s.vm.findClass R_law = some m.cls := findClass_of_methodNamed B.named
    have hts0 : ∀ c ∈ (Jvm.Cond.code x code maxLocals ret :: tables_1), c.before #[Value.ref b] s = true := atoms_spec (ws := Jvm.Cond.code x code maxLocals ret :: tables_1) B.pre
    have hts : ∀ w ∈ lw_tbl, w.before #[Value.ref b] s = true := k2_hts_sels lw_privs (fun w hw => hts0 w (List.mem_cons_of_mem _ hw)) lw_privs_ok
    have hml : c.maxLocals = 4 := B.maxLocals_eq (hts0 _ List.mem_cons_self)
    have X₀ : Stand p l e room_1 s m #[Value.ref b] below meth c s₁ [] 0 0 := Stand.of_body B
    have hh0 : s₁.heap = s.heap := by rw [B.state]; rfl
    have hsz : scr.slots.size = xs.length := by rw [← Array.length_toList, hlist, List.length_map]
    have hval : ∀ j : Nat, j < xs.length → scr.slots[j]? = some (.int (xs.getD j 0)) := fun j hj => by
      rw [← Array.getElem?_toList, hlist]
      simp [hj]
    have hbl : b < s.heap.size := (Array.getElem?_eq_some_iff.mp hcb).1
    have hX : va_X b xs.length (fun j => xs.getD j 0) s s.heap := ⟨scr, hcb, hof, hkn, hsz, hval⟩
    have K : W p l e room_1 s m #[Value.ref b] below meth c s₁.heap [] 0 0 (lw_Z below #[Value.ref b] s) (entryFrame m ([Value.ref b] : List Value).toArray 4) := by
      rw [hh0]
      exact whole_start l hflags hbd ⟨B.exec, B.bytes, B.returns, hml, hown, hts, hX, hbl, B.notSynchronized, hgv⟩
    obtain ⟨t, a1, o, b1, b2, b3⟩ := K s₁ rfl X₀
    exact ⟨t, o, a1, b1, b2, b3⟩
theorem lw_pre_spec {args : Array Value} {s : State} (h : (Jvm.Cond.and given_1 narrow_1).before args s = true) (hr : rest_1_c.before args s = true) : ∃ (b : Addr) (xs : List Int32), lw_P b xs args s := by
  have hs := flat_of_before _ h
  have hq := flat_of_before _ hr
  have hc : (Cond.count 1).before args s = true := hs _ (by decide +kernel)
  have harr : (Cond.arrayOf (.arg 0) .int).before args s = true := hs _ (by decide +kernel)
  have hle : (Cond.le (.length (.arg 0)) (.int 2048)).before args s = true := hs _ (by decide +kernel)
  have hlen : (Cond.isInt (.length (.arg 0))).before args s = true := hq _ (by decide +kernel)
  have hall : (Cond.all (.arg 0) (.isInt (.elem (.arg 0) (.index 0)))).before args s = true := hq _ (by decide +kernel)
  obtain ⟨b, xs, hb, hx⟩ := State.ints_of_pre rfl harr hlen hall
  have hsm : xs.length < 2 ^ 31 := hx.choose_spec.2.2.2
  have hev : (Term.length (.arg 0)).eval args s none [] s = some (.int xs.length.toInt32) := hx.length_eval hb
  have hv := Cond.le_ints hev (show (Term.int 2048).eval args s none [] s = some (.int 2048) from rfl)
  have hd : xs.length.toInt32 ≤ 2048 := by
    simpa [Cond.before, Cond.holds, hv] using hle
  have hN : xs.length ≤ 2048 := (Int32.ofNat_le_ofNat hsm (by decide)).mp (show Int32.ofNat xs.length ≤ Int32.ofNat 2048 from hd)
  exact ⟨b, xs, Cond.one_arg hc (show args[0]? = some (.ref b) from hb), hx, hN, h⟩
theorem lw_comes (l : Launch) (hflags : l.flags = flags0) : Comes l x (Jvm.Cond.code x code maxLocals ret :: tables_1) room_1 (fun tb e args s => Calls_1 tb e args s ∧ rest_1 tb e args s ∧ Pre_1 tb e args s)
    (fun _ _ args s o t => lw_Q args s o t) := by
  intro p e ha hc hk s m args below hf hfit hheap happ hpre
  obtain ⟨b, xs, hP⟩ := lw_pre_spec hpre.2.2 hpre.2.1
  obtain ⟨k, o, h1, h2, h3, hQ⟩ := lw_walk l hflags b xs p e ha hc hk s m args below hf ((Spec.applies_iff_loose hf).mp happ).1 hP trivial
  exact ⟨k, o, h1, h2, h3, hQ⟩
theorem lw_frame {s t : State} {o : Outcome} {args : Array Value} (h : Framed s o t [] 600000 7302250) :
    Framed s o t (fieldLocs frame_1_writes args s ++ arrayLocs frame_1_arrays args s ++ staticLocs frame_1_statics s) 600000 7302250 := h
theorem lw_limb (L : Cond) (hL : ∀ (args : Array Value) (s t : State), L.after args s (.returned (some (.int 1))) t = true) :
    ArmFor flags0 classFile x code maxLocals ret World_1 tables_1 room_1 Calls_1 rest_1 Pre_1
      (fun tb e a s o t => postC L tb e a s o t ∧ Framed s o t (fieldLocs frame_1_writes a s ++ arrayLocs frame_1_arrays a s ++ staticLocs frame_1_statics s) 600000 7302250) := by
  intro l hflags _ _ p e ha hc hk s m args below hf hfit hheap happ hpre
  obtain ⟨k, o, h1, h2, h3, rfl, hF⟩ := lw_comes l hflags p e ha hc hk s m args below hf hfit hheap happ hpre
  exact ⟨k, _, h1, h2, h3, hL args s _, lw_frame hF⟩
theorem i_vc : Claimed_1_1 ∧ Claimed_1_2 := ⟨lw_limb limb_1_1 (fun args s t => by simp [limb_1_1, Cond.after, Cond.holds, Cond.value]), lw_limb limb_1_2 (fun args s t => Cond.after_iff.mpr (by
  first | (rw [show limb_1_2 = Cond.eq .result (.int 1) from rfl, Cond.eq_ints (x := 1) (y := 1) rfl rfl]; simp; done) | (simp [limb_1_2, Cond.value, Term.eval]; done)))⟩
