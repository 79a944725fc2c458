/-! pure words: what single things are, by the numbers of a core -/
def sp_new (B : lc_C) (i k : Nat) : Bool := decide (B 2 k < B 2 i) || (decide (B 2 i = B 2 k) && decide (B 3 k < B 3 i))
def sp_below (B : lc_C) (i : Nat) (s : Int32) : Bool := !decide (B 0 i = 0) && decide (B 2 i < s)
def sp_dor (B : lc_C) (i : Nat) : Bool := decide (B 0 i = 2) && decide (B 6 0 < B 7 1 - B 3 i)
def sp_aw (B : lc_C) (i : Nat) : Bool := decide (B 0 i = 1) || (decide (B 0 i = 2) && decide (B 7 1 - B 3 i ≤ B 6 0))
def sp_bit (b k : Int32) : Bool := decide ((b >>> (k &&& 31)) &&& 1 = 1)
def sp_kept (B : lc_C) (i : Nat) (s : Int32) : Bool := sp_bit (B 4 i) s && decide (B 7 1 - B 3 i ≤ B 6 0 + B 6 1)
def sp_rec (B : lc_C) (i : Nat) : Bool := sp_aw B i && decide (B 7 1 - B 3 i < B 6 3)
def sp_same (B : lc_C) (i k : Nat) : Bool := if sp_aw B i && sp_aw B k then decide (B 2 i = B 2 k) && decide (B 3 i = B 3 k) else !sp_aw B i && !sp_aw B k
def sp_site (B : lc_C) (s : Int32) : Bool := decide (0 ≤ s) && decide (s < B 7 0)
def sp_none (B : lc_C) (i : Nat) : lc_C := lc_cu (lc_cu (lc_cu (lc_cu (lc_cu (lc_cu B 0 i 0) 1 i (-1)) 2 i (-1)) 3 i (-1)) 4 i (-1)) 5 i 0
def sp_val (B : lc_C) (i : Nat) (v n h : Int32) : lc_C := lc_cu (lc_cu (lc_cu (lc_cu (lc_cu (lc_cu B 0 i 1) 1 i v) 2 i n) 3 i n) 4 i (-1)) 5 i h
def sp_cer (B : lc_C) (i : Nat) (k n h : Int32) : lc_C := lc_cu (lc_cu (lc_cu (lc_cu (lc_cu (lc_cu B 0 i 2) 1 i (-1)) 2 i n) 3 i n) 4 i k) 5 i h
def sp_copy (B : lc_C) (i : Nat) (E : lc_C) (k : Nat) (h : Int32) : lc_C := lc_cu (lc_cu (lc_cu (lc_cu (lc_cu (lc_cu B 0 i (E 0 k)) 1 i (E 1 k)) 2 i (E 2 k)) 3 i (E 3 k)) 4 i (E 4 k)) 5 i h
def sp_wake (x : lc_X) (i : Nat) : lc_X := (lc_cu (lc_cu x.1 3 i (x.1 7 1)) 5 i (x.1 6 2), x.2.1, x.2.2.1 + 1, x.2.2.2)
