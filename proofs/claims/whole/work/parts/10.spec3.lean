/-! pure words of a world: who is near, partners, putting, removing, a line's start -/
def sp_near (pos : Nat → Int32) (a : Nat) (among : Int32) (s : Nat) (z : Option Nat × Int32) : Option Nat × Int32 := if (sp_bit among (nI s) && (z.1.isNone || decide (sp_abs (pos s - pos a) < z.2))) = true then (some s, sp_abs (pos s - pos a)) else z
def sp_nears (pos : Nat → Int32) (a : Nat) (among : Int32) (n : Nat) : Option Nat × Int32 := sp_it (sp_near pos a among) n (none, 0)
theorem sp_near_I (pos : Nat → Int32) (a : Nat) (among : Int32) (i : Nat) (z : Option Nat × Int32) (h : ∀ b, z.1 = some b → b < i) : ∀ b, (sp_near pos a among i z).1 = some b → b < i + 1 := by
  intro b hb
  unfold sp_near at hb
  split at hb
  · cases hb; omega
  · have := h b hb; omega
theorem sp_near_lt (pos : Nat → Int32) (a : Nat) (among : Int32) (n : Nat) : ∀ b, (sp_nears pos a among n).1 = some b → b < n := sp_it_I (fun i z => ∀ b, z.1 = some b → b < i) (sp_near pos a among) n (fun i z _ h => sp_near_I pos a among i z h) (none, 0) (fun b h => by cases h)
def sp_kp (pos : Nat → Int32) (a n : Nat) (z : Int32 × Int32) : Int32 × Int32 := if z.2 = 0 then z else (z.1 ||| ((1 : Int32) <<< (sp_on (sp_nears pos a z.2 n).1 &&& 31)), z.2 &&& (((1 : Int32) <<< (sp_on (sp_nears pos a z.2 n).1 &&& 31)) ^^^ (-1)))
def sp_keepC (pos : Nat → Int32) (a n m : Nat) (o : Int32) : Int32 := (sp_it (fun _ => sp_kp pos a n) (m - 1) ((1 : Int32) <<< (nI a &&& 31), o)).1
def sp_ush (v k : Int32) : Int32 := (v.toUInt32 >>> (k.toUInt32 &&& Int32.toUInt32 31)).toInt32
def sp_b1 (v : Int32) : Int32 := v - (sp_ush v 1 &&& 1431655765)
def sp_b2 (v : Int32) : Int32 := (v &&& 858993459) + (sp_ush v 2 &&& 858993459)
def sp_b3 (v : Int32) : Int32 := (v + sp_ush v 4) &&& 252645135
def sp_b4 (v : Int32) : Int32 := v + sp_ush v 8
def sp_b5 (v : Int32) : Int32 := v + sp_ush v 16
def sp_bc (v : Int32) : Int32 := sp_b5 (sp_b4 (sp_b3 (sp_b2 (sp_b1 v)))) &&& 63
def sp_wt1 (v : Int32) (i : Nat) (z : Int32) : Int32 := if v ≤ nI i then z else z + lc_wei i
def sp_wt (v : Int32) : Int32 := sp_it (sp_wt1 v) 5 0
def sp_pbr (pos : Nat → Int32) (a n : Nat) (draw : Int32) : Nat → Nat → Int32 → Int32 → Int32
  | 0, _, _, _ => -1
  | k + 1, r, o, s => if o = 0 then -1 else if draw < s + lc_wei r then sp_on (sp_nears pos a o n).1 else sp_pbr pos a n draw k (r + 1) (o &&& (((1 : Int32) <<< (sp_on (sp_nears pos a o n).1 &&& 31)) ^^^ (-1))) (s + lc_wei r)
def sp_rem (a b : Int32) : Int32 := a - a / b * b
def sp_partC (B : lc_C) (pos : Nat → Int32) (a n : Nat) (seed : Int32) : Int32 := if sp_wt (sp_bc (sp_othOn B (nI a))) ≤ 0 then -1 else sp_pbr pos a n (sp_rem (seed / 65536) (sp_wt (sp_bc (sp_othOn B (nI a))))) 5 0 (sp_othOn B (nI a)) 0
def sp_aag (B : lc_C) (s : Nat) (z : Option Nat) : Bool := sp_bit (B 7 2) (nI s) || (match z with | none => true | some p => sp_alike B p s)
def sp_aaf (B : lc_C) (s : Nat) (z : Option Nat) : Option Nat := if sp_bit (B 7 2) (nI s) = true then z else some s
def sp_aaC (B : lc_C) (n : Nat) : Bool := (sp_itE (sp_aag B) (sp_aaf B) n none).isSome
theorem sp_aa_lt (B : lc_C) (n : Nat) (z : Option Nat) (h : sp_itE (sp_aag B) (sp_aaf B) n none = some z) : ∀ p, z = some p → p < n := by
  refine sp_itE_I (fun i z => ∀ p, z = some p → p < i) (sp_aag B) (sp_aaf B) (fun i z hz _ p hp => ?_) none (fun p hp => by cases hp) n z h
  unfold sp_aaf at hp
  split at hp
  · have := hz p hp; omega
  · cases hp; omega
def sp_putV (n : Nat) (x : lc_X) (a k : Nat) (v : Int32) : Int32 × lc_X := ((sp_adv n x 1).2.1 7 1, (sp_val (sp_adv n x 1).2.1 (4 * a + k) v ((sp_adv n x 1).2.1 7 1) ((sp_adv n x 1).2.1 6 2), (sp_adv n x 1).2.2))
def sp_remV (n : Nat) (x : lc_X) (a k : Nat) (kp : Int32) : Int32 × lc_X := ((sp_adv n x 1).2.1 7 1, (sp_cer (sp_adv n x 1).2.1 (4 * a + k) kp ((sp_adv n x 1).2.1 7 1) ((sp_adv n x 1).2.1 6 2), (sp_adv n x 1).2.2))
theorem sp_adv_70 (n : Nat) (x : lc_X) (d : Int32) : (sp_adv n x d).2.1 7 0 = x.1 7 0 := by
  unfold sp_adv
  rw [sp_drop_7]
  rfl
theorem sp_adv_71 (n : Nat) (x : lc_X) (d : Int32) : (sp_adv n x d).2.1 7 1 = x.1 7 1 + d := by
  unfold sp_adv
  rw [sp_drop_7]
  rfl
theorem sp_adv_72 (n : Nat) (x : lc_X) (d : Int32) : (sp_adv n x d).2.1 7 2 = x.1 7 2 := by
  unfold sp_adv
  rw [sp_drop_7]
  rfl
theorem sp_adv_6 (n : Nat) (x : lc_X) (d : Int32) : (sp_adv n x d).2.1 6 = x.1 6 := by
  unfold sp_adv
  rw [sp_drop_6]
  rfl
def sp_fresh (lim : Nat → Int32) (len : Int32) : lc_C := fun r k => match r with
  | 0 => 0
  | 1 => -1
  | 2 => -1
  | 3 => -1
  | 4 => -1
  | 5 => 0
  | 6 => lim k
  | 7 => if k = 0 then len else 0
  | _ => 0
theorem lc_mabs {G : lc_G} {Γ : lc_Γ} {cc : ByteArray} {nL : Nat} {own : String} {pc : Nat} {lv : List (Nat × Value)} {st : List Value} {σ : lc_S} {v : Int32} (hw : own = RX3) (hf : 1 ≤ (lc_γR Γ).frames ∧ (st.map fun v => v.category).sum + 13 ≤ (lc_γR Γ).locals) (hd : decode cc pc = .ok (.invokestatic 162, 3)) (kk : lc_V G Γ cc nL own (pc + 3) lv (.int (sp_abs v) :: st) σ) : lc_V G Γ cc nL own pc lv (.int v :: st) σ := by
  intro C H locs ls hP hl
  subst hw
  have hT := C.2.2.2.2.1
  refine va_mabs C.1 C.2.1 (C.2.2.1.trans hl.1.symm) C.2.2.2.1 (hT.use _ (lc_in 341 (by decide +kernel) rfl)) (hT.use _ (lc_in 342 (by decide +kernel) rfl)) (hT.use _ (lc_in 87 (by decide +kernel) rfl)) (hT.use _ (lc_in 343 (by decide +kernel) rfl)) hf.1 hf.2 C.2.2.2.2.2.2.2.2.2.2.1 C.2.2.2.2.2.2.2.2.2.2.2 hd ?_
  have e : (if 0 ≤ v then v else 0 - v) = sp_abs v := by
    unfold sp_abs
    by_cases h : v < 0
    · rw [if_pos h, if_neg (fun z => absurd h (Int32.not_lt.mpr z)), Int32.zero_sub]
    · rw [if_neg h, if_pos (Int32.not_lt.mp h)]
  rw [e]
  exact kk C H locs ls hP hl
theorem lc_nm1b {b : Nat} (hb : b < 2 ^ 31) (h : nI b = -1) : False := lc_nm1 hb h
