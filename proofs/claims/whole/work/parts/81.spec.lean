/-! what the document says of sets, over the reference's own numbers: n animals; a set, the males: masks s, M; wt, fm: worth and family of each; kn, br: at 12 a + b -/
/-- the sum of worths of those below the bound; the one tested counts so much more -/
def wsT (wt : Nat → Int32) (td tb : Int32) (s : Nat) : Nat → Int32
  | 0 => 0
  | a + 1 => if s.testBit a = true then (if nI a = td then wsT wt td tb s a + wt a + tb else wsT wt td tb s a + wt a) else wsT wt td tb s a
def wsm (wt : Nat → Int32) (s : Nat) : Nat → Int32
  | 0 => 0
  | a + 1 => if s.testBit a = true then wsm wt s a + wt a else wsm wt s a
/-- kin of a with those below the bound -/
def rowS (kn : Nat → Int32) (s a : Nat) : Nat → Int32
  | 0 => 0
  | b + 1 => if s.testBit b = true then rowS kn s a b + kn (12 * a + b) else rowS kn s a b
def kinS (kn : Nat → Int32) (s n : Nat) : Nat → Int32
  | 0 => 0
  | a + 1 => if s.testBit a = true then kinS kn s n a + rowS kn s a n else kinS kn s n a
/-- how many of family f -/
def fcn (fm : Nat → Int32) (f s : Nat) : Nat → Nat
  | 0 => 0
  | a + 1 => if s.testBit a = true ∧ fm a = nI f then fcn fm f s a + 1 else fcn fm f s a
def famOK1 (fm ls : Nat → Int32) (mo : Int32) (s n f : Nat) : Bool := (decide (mo = 0) || decide (nI (fcn fm f s n) ≤ mo)) && decide (ls f ≤ nI (fcn fm f s n))
def famOK (fm ls : Nat → Int32) (mo : Int32) (s n : Nat) : Nat → Bool
  | 0 => true
  | f + 1 => famOK fm ls mo s n f && famOK1 fm ls mo s n f
def fitsS (fm kn ls : Nat → Int32) (lim mo : Int32) (n k s : Nat) : Bool := decide (kinS kn s n n ≤ 4 * nI k * nI k * lim) && famOK fm ls mo s n 8
/-- the bits below n, upwards -/
def bl (x n : Nat) : List Nat := (List.range n).filter (fun a => x.testBit a)
/-- the first of g j, g (j + 1) .. (k of them) that is there -/
def firstF {α : Type} (g : Nat → Option α) : Nat → Nat → Option α
  | _, 0 => none
  | j, k + 1 => match g j with
    | some x => some x
    | none => firstF g (j + 1) k
/-- males paired with females of the mask: each with the least that leaves a way for the rest -/
def pairM (br : Nat → Int32) (n : Nat) : List Nat → Nat → Option (List Nat)
  | [], _ => some []
  | m :: ms, G => firstF (fun f => if G.testBit f = true ∧ br (12 * m + f) = 0 then (pairM br n ms (dif G (2 ^ f))).map (fun l => f :: l) else none) 0 n
def mayS (M : Nat) (fm kn br ls : Nat → Int32) (lim mo : Int32) (n k s : Nat) : Bool :=
  decide (pcn n (s &&& M) = k) && decide (pcn n (dif s M) = k) && fitsS fm kn ls lim mo n k s && (pairM br n (bl (s &&& M) n) (dif s M)).isSome
/-- the better of two sets: of more worth, or of the same and with the least animal in which they differ -/
def bstep (ws : Nat → Int32) (st : Option Nat) (s : Nat) : Option Nat := match st with
  | none => some s
  | some b => if ws b < ws s ∨ (ws s = ws b ∧ ¬ ((nI s &&& (nI s ^^^ nI b)) &&& (-(nI s ^^^ nI b))) = 0) then some s else some b
def bst (ws : Nat → Int32) (l : List Nat) : Option Nat := l.foldl (bstep ws) none
/-- the sets below x, within A, that may be -/
def lsS (M : Nat) (fm kn br ls : Nat → Int32) (lim mo : Int32) (n k A x : Nat) : List Nat := (List.range x).filter (fun s => decide (dif s A = 0) && mayS M fm kn br ls lim mo n k s)
