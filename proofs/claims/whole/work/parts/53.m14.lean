/-- more digits of a number: n at most; what is read, where, what is wrong -/
def mNumL (tx : Nat → Int32) (sz : Nat) (le : Int32) (mo : Int64) : Nat → Int64 → Nat → Int32 × Nat × Int32
  | 0, v, he => (v.toInt32, he, -1)
  | n + 1, v, he => if v ≤ 0 then (v.toInt32, he, -1) else if xIn (mSee tx sz he).toInt64 48 57 = 0 then (v.toInt32, he, -1) else if 10 * v + (mSee tx sz he).toInt64 - 48 ≤ mo then mNumL tx sz le mo n (10 * v + (mSee tx sz he).toInt64 - 48) (he + 1) else (le, he, nI he)
termination_by n => n
def mNum (tx : Nat → Int32) (sz he : Nat) (wr le : Int32) (mo : Int64) : Int32 × Nat × Int32 := if wr = -1 then (if xIn (mSee tx sz he).toInt64 48 57 = 0 then (le, he, nI he) else if (mSee tx sz he - 48).toInt64 < le.toInt64 then (le, he, nI he) else if (mSee tx sz he - 48).toInt64 ≤ mo then mNumL tx sz le mo 8 (mSee tx sz he - 48).toInt64 (he + 1) else (le, he, nI he)) else (le, he, wr)
