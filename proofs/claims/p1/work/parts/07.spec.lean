def sp_keeper (s v : Int32) : Int32 := if 0 ≤ s.toInt ∧ s.toInt ≤ 5 ∧ 1 ≤ v.toInt ∧ v.toInt ≤ 8 then 0 else -1
def sp_keep (s k : Int32) : Int32 := if 0 ≤ s.toInt ∧ s.toInt ≤ 5 ∧ k.toInt = -1 then 1 else -1
def sp_row (s t n : Int32) : Int32 := if ¬ (0 ≤ s.toInt ∧ s.toInt ≤ 5) ∨ ¬ (0 ≤ t.toInt ∧ t.toInt ≤ 4) ∨ 60 < n.toInt then -1 else if n.toInt < 0 then -14 else 1
def sp_put (s : Int32) : Int32 := if 0 ≤ s.toInt ∧ s.toInt ≤ 5 then -11 else -1
def sp_shift (s o : Int32) : Int32 := if (0 ≤ s.toInt ∧ s.toInt ≤ 5) ∧ 0 ≤ o.toInt ∧ o.toInt ≤ 5 then -11 else -1
def sp_taken (s k : Int32) : Int32 := if (0 ≤ s.toInt ∧ s.toInt ≤ 5) ∧ 0 ≤ k.toInt ∧ k.toInt ≤ 6 then -11 else -1
def sp_names (s n : Int32) : Int32 := if (0 ≤ s.toInt ∧ s.toInt ≤ 5) ∧ 1 ≤ n.toInt ∧ n.toInt ≤ 20 then 0 else -1
def sp_count (w : Int32) : Int32 := if 0 ≤ w.toInt ∧ w.toInt ≤ 7 then 0 else -1
