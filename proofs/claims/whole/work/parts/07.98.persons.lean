/-! who may be one; persons: pure pictures -/
def homS (d : Nat → Nat → Int32) (l : Nat) : Bool := decide (ix (d 9 l) < 3)
def oneS (d : Nat → Nat → Int32) (a b : Nat) : Bool := decide (d 10 a = d 10 b ∧ doorS d a = doorS d b)
def agD (d : Nat → Nat → Int32) (a b : Nat) : Int32 := (d 12 a - d 12 b) - (gS d a - gS d b)
def ageS (d : Nat → Nat → Int32) (a b : Nat) : Bool := decide (d 12 a = -1000000 ∨ d 12 b = -1000000 ∨ (-2 ≤ (agD d a b).toInt ∧ (agD d a b).toInt ≤ 2))
def twoS (d : Nat → Nat → Int32) (a b : Nat) : Bool := homS d a && homS d b && decide (gS d a = gS d b) && !oneS d a b
def mayS (d : Nat → Nat → Int32) (a b : Nat) : Bool := likeS d a b && ageS d a b && !twoS d a b
def sumB (f : Nat → Nat) : Nat → Nat
  | 0 => 0
  | n + 1 => sumB f n + f n
def dif (s t : Nat) : Nat := s ^^^ (s &&& t)
/-- the first from i on, among m -/
def fndB (p : Nat → Bool) : Nat → Nat → Nat
  | 0, i => i
  | m + 1, i => if p i then i else fndB p m (i + 1)
def lowN (s : Nat) : Nat := fndB (fun i => s.testBit i) 12 0
def clqB (may : Nat → Nat → Bool) (t : Nat) : Bool := !anyB (fun x => anyB (fun y => t.testBit x && t.testBit y && decide (x < y) && !may x y) 12) 12
def okpB (may : Nat → Nat → Bool) (bo s t : Nat) : Bool := decide (t &&& s = t) && t.testBit (lowN s) && clqB may t && !(decide (t &&& bo ≠ 0) && decide (dif s t &&& bo ≠ 0))
/-- how many ways to part s into so many persons -/
def cntP (may : Nat → Nat → Bool) (bo : Nat) : Nat → Nat → Nat
  | 0, s => if s = 0 then 1 else 0
  | k + 1, s => if s = 0 then 0 else sumB (fun t => if okpB may bo s t then cntP may bo k (dif s t) else 0) 4096
/-- f is the fewest, w the ways -/
def RT (may : Nat → Nat → Bool) (bo s f w : Nat) : Prop := (∀ k, k < f → cntP may bo k s = 0) ∧ cntP may bo f s = w ∧ 0 < w
def pickS (may : Nat → Nat → Bool) (fw : Nat → Nat) (s : Nat) : Nat := fndB (fun t => okpB may 0 s t && decide (fw (dif s t) + 1 = fw s)) s 0
def prsS (may : Nat → Nat → Bool) (fw : Nat → Nat) (l : Nat) : Nat → Nat → Nat
  | 0, s => s
  | k + 1, s => if (pickS may fw s).testBit l then pickS may fw s else prsS may fw l k (dif s (pickS may fw s))
def kP (d : Nat → Nat → Int32) : Nat → Nat → Int32 := fun o => if o = 0 then (fun j => if j = 10 then d 0 10 else if j = 18 then d 0 18 else 0) else if o = 4 then d 4 else if o = 5 then d 5 else if o = 8 then d 8 else if o = 9 then d 9 else if o = 10 then d 10 else if o = 11 then d 11 else if o = 12 then d 12 else if o = 13 then d 13 else if o = 14 then d 14 else if o = 15 then d 15 else if o = 16 then d 16 else if o = 17 then d 17 else if o = 18 then d 18 else fun _ => 0
def kPc (c : Nat → Nat → Int32) : Nat → Nat → Int32 := fun o => if o = 9 then (fun j => if j = 5 then c 9 5 else 0) else if o = 40 then c 40 else if o = 41 then c 41 else if o = 42 then c 42 else if o = 43 then c 43 else fun _ => 0
/-- what the tables hold of the set s: its fewest and its ways; or nothing yet, where it has LINE 0 and isn't all -/
def TE (n s f w : Nat) (x y : Int32) : Prop := (x = nI f ∧ y = nI w) ∨ (s.testBit 0 = true ∧ s + 1 ≠ 2 ^ n ∧ x = 0)
/-- the class's tables of persons, where they are up to date -/
def PT (c d : Nat → Nat → Int32) : Prop := c 9 5 = 1 ∨ (c 9 5 = 0 ∧ ∃ fw wy : Nat → Nat, (∀ s, s < 2 ^ ix (d 0 10) → RT (mayS d) 0 s (fw s) (wy s) ∧ TE (ix (d 0 10)) s (fw s) (wy s) (c 42 s) (c 43 s)) ∧ ∀ l, l < ix (d 0 10) → (∀ j, j < 32 → bt (c 40 l) j = (decide (j < ix (d 0 10)) && mayS d l j)) ∧ c 41 l = nI (prsS (mayS d) fw l 12 (2 ^ ix (d 0 10) - 1)))
theorem mayS_kP (m : Nat → Nat → Int32) : mayS (kP m) = mayS (kM m) := rfl
