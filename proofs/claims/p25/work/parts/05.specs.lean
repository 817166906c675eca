-- what the first call on a fresh object answers
def sp_make (s c n : Int32) : Int32 := if 0 ≤ s.toInt ∧ s.toInt < 12 ∧ 0 ≤ c.toInt ∧ c.toInt ≤ 4 then (if c.toInt = 2 ∧ ¬ (0 ≤ n.toInt ∧ n.toInt ≤ 1000) then (-18) else 1) else (-1)
