/-! the kinds, as the class tells them -/
def so_pl (s c b : Int32) : Bool := decide (hz_rem s (nI 41) = nI 0) && decide (b - c < nI 20)
def so_old (s c b : Int32) : Bool := so_pl s c (b - nI 10)
def so_wi (s c b : Int32) : Bool := so_pl s c b || (decide (hz_rem s (nI 41) = nI 20) && decide (b - c < nI 10))
def so_ph (s : Int32) : Bool := decide (hz_rem s (nI 30) = nI 7)
def so_fr (s c b : Int32) : Bool := decide (¬ c < nI 5) && so_old s c b
def so_of (k : Nat) (s c b : Int32) : Bool := if k = 1 then so_old s c b else if k = 2 then so_wi s c b else if k = 4 then so_ph s else if k = 5 then so_fr s c b else so_pl s c b
def lo_of (k : Nat) : Nat := if k = 2 then 40 else if k = 3 then 8 else if k = 4 then 9 else 20
def sd_of (k : Nat) : Bool := decide (k = 3) || decide (k = 4)
def so_ev (k : Nat) (c b : Int32) : Bool := so_of k (nI 0) c b || (so_of k (nI 7) c b || so_of k (nI 20) c b)
