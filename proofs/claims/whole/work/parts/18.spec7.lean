/-! pure words: settling, the digest -/
def sp_RUN (σ : lc_S) (n : Nat) (seed : Int32) (rum : Bool) : Int32 × Int32 × lc_X := sp_run (fun B => sp_aaC B n) (sp_rdC (σ.2.1 6) n rum) 40 0 (seed, (σ.1 0, 0, 0, 0))
def sp_stl (σ : lc_S) (n : Nat) (seed : Int32) (rum : Bool) : lc_S := lc_w (lc_uo (lc_uo (sp_trial σ) 10 3 (sp_RUN σ n seed rum).2.1) 10 2 (sp_RUN σ n seed rum).1) 1 (sp_RUN σ n seed rum).2.2
def sp_pick (what : Int32) (r : Int32 × Int32 × lc_X) : Int32 := if what = 0 then r.1 else if what = 1 then r.2.2.2.1 else r.2.1
def sp_stv (σ : lc_S) (n : Nat) (seed : Int32) (rum : Bool) (what : Int32) : Int32 × lc_S := if (decide (0 ≤ seed) && sp_win what 0 2) = false then (-1002, σ) else if σ.1 0 7 0 = 0 then (-1003, σ) else (sp_pick what (sp_RUN σ n seed rum), sp_stl σ n seed rum)
theorem sp_site_in {B : lc_C} {n s : Nat} (hn : n ≤ 6) (hs : B 7 0 = nI n) (h : s < n) : sp_site B (nI s) = true := by
  unfold sp_site
  rw [hs, decide_eq_true (nI_pos' (by omega)), decide_eq_true (nI_lt h (by omega))]
  rfl
theorem sp_key_in {k : Nat} (h : k < 4) : sp_key (nI k) = true := by
  unfold sp_key
  rw [decide_eq_true (nI_pos' (by omega)), decide_eq_true (show nI k < 4 from nI_lt (b := 4) h (by omega))]
  rfl
theorem sp_has_in {B : lc_C} {n s k w : Nat} (hn : n ≤ 6) (hs : B 7 0 = nI n) (h1 : s < n) (h2 : k < 4) (h3 : w < 7) : sp_has B (nI s) (nI k) (nI w) = sp_hasv B (4 * s + k) w := by
  have e : sp_win (nI w) 0 6 = true := sp_win_in (a := w) (lo := 0) (hi := 6) (by omega) (by omega) (by omega)
  unfold sp_has
  rw [sp_site_in hn hs h1, sp_key_in h2, e, nI_clamp (by omega), nI_clamp (by omega), nI_clamp (by omega)]
  rfl
theorem sp_newest_in {B : lc_C} {n s w : Nat} (hn : n ≤ 6) (hs : B 7 0 = nI n) (h1 : s < n) (h3 : w < 3) : sp_newest B (nI s) (nI w) = sp_on (sp_nks B s (nI w)) := by
  have e : sp_win (nI w) 0 2 = true := sp_win_in (a := w) (lo := 0) (hi := 2) (by omega) (by omega) (by omega)
  unfold sp_newest
  rw [sp_site_in hn hs h1, e, nI_clamp (by omega)]
  rfl
theorem sp_alk_in {al : lc_C → Nat → Nat → Bool} {B : lc_C} {n s o : Nat} (hn : n ≤ 6) (hs : B 7 0 = nI n) (h1 : s < n) (h2 : o < n) : sp_alk al B (nI s) (nI o) = lc_bi (al B s o) := by
  unfold sp_alk
  rw [sp_site_in hn hs h1, sp_site_in hn hs h2, nI_clamp (by omega), nI_clamp (by omega)]
  rfl
theorem sp_risen_in {B : lc_C} {lat : Nat → Int32} {n k : Nat} (h2 : k < 4) : sp_risen B lat n (nI k) = sp_rss B lat k n := by
  unfold sp_risen
  rw [sp_key_in h2, nI_clamp (by omega)]
  rfl
theorem sp_count_in {σ : lc_S} {x : lc_X} {j rl w : Nat} (h : w < 12) : sp_count σ x j rl (nI w) = sp_cntv σ x j rl w := by
  have e : sp_win (nI w) 0 11 = true := sp_win_in (a := w) (lo := 0) (hi := 11) (by omega) (by omega) (by omega)
  unfold sp_count
  rw [e, nI_clamp (by omega)]
  rfl
def sp_h2 (al : lc_C → Nat → Nat → Bool) (B : lc_C) (lat : Nat → Int32) (n : Nat) : Int64 := sp_it (fun k h => sp_mx h (sp_rss B lat k n)) 4 (sp_it (sp_msh al B n) n 1741)
def sp_h3 (h : Int64) (a0 a1 a2 b0 b1 b2 : Int32) : Int64 := sp_mx (sp_mx (sp_mx (sp_mx (sp_mx (sp_mx h a0) a1) a2) b0) b1) b2
def sp_h5 (codes : Nat → Int32) (p : Nat) (cnt : Nat → Int32) (h : Int64) : Int64 := sp_it (fun w h => sp_mx h (cnt w)) 12 (sp_it (fun i h => sp_mx h (codes i)) p h)
def sp_st2 (σ : lc_S) (n : Nat) : lc_S := sp_stl (sp_stl σ n 7 false) n 7 true
def sp_digC (σ : lc_S) (n p : Nat) : Int64 × lc_S := if n = 0 then (sp_h5 (σ.2.1 9) p (sp_cntv σ (σ.1 0, 0, 0, 0) 0 10) (sp_h2 sp_alike (σ.1 0) (σ.2.1 3) n), σ) else (sp_h5 (σ.2.1 9) p (sp_cntv (sp_st2 σ n) ((sp_st2 σ n).1 0, 0, 0, 0) 0 10) (sp_h3 (sp_h2 sp_alike (σ.1 0) (σ.2.1 3) n) (sp_RUN σ n 7 false).1 (sp_RUN σ n 7 false).2.2.2.1 (sp_RUN σ n 7 false).2.1 (sp_RUN σ n 7 true).1 (sp_RUN σ n 7 true).2.2.2.1 (sp_RUN σ n 7 true).2.1), sp_st2 σ n)
