/-! what the calls answer, and what they make of the state: plain ones -/
def okStep (s : Int) : Prop := 0 ≤ s ∧ s ≤ 11
def comeA (g : Int → Int) (step side n : Int) : Int := if (0 ≤ step ∧ step ≤ 11) ∧ (0 ≤ side ∧ side ≤ 1) then (if 0 ≤ n ∧ n ≤ 6 then g (12 * side + step) else -2) else -1
def comeG (g : Int → Int) (step side n : Int) : Int → Int := if (0 ≤ step ∧ step ≤ 11) ∧ (0 ≤ side ∧ side ≤ 1) then (if 0 ≤ n ∧ n ≤ 6 then upI g (12 * side + step) n else g) else g
def pondA (cur most n : Int) : Int := if 0 ≤ n ∧ n ≤ most then cur else -2
def pondN (cur most n : Int) : Int := if 0 ≤ n ∧ n ≤ most then n else cur
def ruleA (cnt k n : Int) : Int := if 0 ≤ k ∧ k ≤ 6 then (if 0 ≤ n ∧ n ≤ 20 then (if cnt = 12 then -4 else cnt) else -2) else -1
def ruleOk (cnt k n : Int) : Prop := (0 ≤ k ∧ k ≤ 6) ∧ (0 ≤ n ∧ n ≤ 20) ∧ ¬ cnt = 12
def rowA (cnt : Int) (kd hd : Int → Int) (q n : Int) : Int := if 0 ≤ q ∧ q ≤ cnt - 1 then (if 0 ≤ n ∧ n ≤ 1 then (if kd q = 6 then (if hd q = 12 then -4 else hd q + 1) else -3) else -2) else -1
def rowOk (cnt : Int) (kd hd : Int → Int) (q n : Int) : Prop := (0 ≤ q ∧ q ≤ cnt - 1) ∧ (0 ≤ n ∧ n ≤ 1) ∧ kd q = 6 ∧ ¬ hd q = 12
def offerA (cnt s n p : Int) : Int := if 0 ≤ s ∧ s ≤ 3 then (if (1 ≤ n ∧ n ≤ 20) ∧ (0 ≤ p ∧ p ≤ 99) then (if cnt = 4 then -4 else cnt) else -2) else -1
def offerOk (cnt s n p : Int) : Prop := (0 ≤ s ∧ s ≤ 3) ∧ ((1 ≤ n ∧ n ≤ 20) ∧ (0 ≤ p ∧ p ≤ 99)) ∧ ¬ cnt = 4
def traceA (ran : Int) (bo : Int → Int) (i : Int) : Int := if (0 ≤ i ∧ i ≤ 19) ∧ i < ran then bo i else -1
def takenA (cnt : Int) (kd : Int → Int) (q k : Int) : Int := if 0 ≤ k ∧ k ≤ 6 then (if 0 ≤ q ∧ q ≤ cnt - 1 then (if k = 0 ∨ kd q = k ∨ (k = 4 ∧ kd q = 5) then kd q else -12) else -11) else -2
def countA (cl ru off fed the ran what : Int) : Int := if what = 0 then cl else if what = 1 then ru else if what = 2 then off else if what = 3 then fed else if what = 4 then (if the < 0 then -5 else the) else if what = 5 then ran else -2
def tapeA (t s n : Int) : Int := if 0 ≤ t ∧ t ≤ 5 then (if -1 ≤ s ∧ s ≤ 4 then (if 0 ≤ s ∧ 60 < n then -2 else if 0 ≤ s ∧ n < 0 then -14 else 1) else -2) else -1
def tapeOk (t s n : Int) : Prop := (0 ≤ t ∧ t ≤ 5) ∧ (-1 ≤ s ∧ s ≤ 4) ∧ ¬ (0 ≤ s ∧ 60 < n) ∧ ¬ (0 ≤ s ∧ n < 0)
def tapeL (s n : Int) : Int := if s < 0 then 0 else n
def tapeI (it : Int → Int) (t : Int) : Int → Int := fun j => if 60 * t ≤ j ∧ j < 60 * t + 60 then 0 else it j
def nar (s v : Int) : Int := if s = 0 then (iZ v).toInt8.toInt32.toInt else if s = 1 then (iZ v).toInt16.toInt32.toInt else if s = 2 then (iZ v).toInt else if s = 4 then (if v = 0 then 0 else 1) else v
def itemA (so le : Int → Int) (t i : Int) : Int := if 0 ≤ t ∧ t ≤ 5 then (if so t < 0 then -11 else if 0 ≤ i ∧ i ≤ le t - 1 then 1 else -13) else -1
def itemOk (so le : Int → Int) (t i : Int) : Prop := (0 ≤ t ∧ t ≤ 5) ∧ ¬ so t < 0 ∧ (0 ≤ i ∧ i ≤ le t - 1)
def readOk (so le : Int → Int) (t i : Int) : Prop := (0 ≤ t ∧ t ≤ 5) ∧ ¬ so t < 0 ∧ (0 ≤ i ∧ i ≤ le t - 1)
def shiftA (so le : Int → Int) (t i o j n : Int) : Int := if (0 ≤ t ∧ t ≤ 5) ∧ (0 ≤ o ∧ o ≤ 5) then (if so t < 0 ∨ so o < 0 then -11 else if ¬ so t = so o then -12 else if n < 0 ∨ i < 0 ∨ j < 0 ∨ le t - n < i ∨ le o - n < j then -13 else n) else -1
def shiftOk (so le : Int → Int) (t i o j n : Int) : Prop := ((0 ≤ t ∧ t ≤ 5) ∧ (0 ≤ o ∧ o ≤ 5)) ∧ (¬ so t < 0 ∧ ¬ so o < 0) ∧ so t = so o ∧ ¬ (n < 0 ∨ i < 0 ∨ j < 0 ∨ le t - n < i ∨ le o - n < j)
def shiftI (it : Int → Int) (t i o j n : Int) : Int → Int := fun q => if 60 * o + j ≤ q ∧ q < 60 * o + j + n then it (60 * t + i + (q - (60 * o + j))) else it q
