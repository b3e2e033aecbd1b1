/-! what of the memories lasts; pure pictures of what the data say -/
def kM (m : Nat → Nat → Int32) : Nat → Nat → Int32 := fun o => if o = 0 then (fun j => if j = 1 then m 0 1 else if j = 5 then m 0 5 else if j = 10 then m 0 10 else if j = 18 then m 0 18 else if j = 23 then m 0 23 else if j = 29 then m 0 29 else if j = 30 then m 0 30 else if j = 53 then m 0 53 else 0) else if o = 1 then m 1 else if o = 2 then m 2 else if o = 3 then m 3 else if o = 4 then m 4 else if o = 5 then m 5 else if o = 6 then m 6 else if o = 7 then m 7 else if o = 8 then m 8 else if o = 9 then m 9 else if o = 10 then m 10 else if o = 11 then m 11 else if o = 12 then m 12 else if o = 13 then m 13 else if o = 14 then m 14 else if o = 15 then m 15 else if o = 16 then m 16 else if o = 17 then m 17 else if o = 18 then m 18 else if o = 19 then m 19 else if o = 20 then m 20 else if o = 21 then m 21 else if o = 22 then m 22 else if o = 23 then m 23 else if o = 32 then m 32 else fun _ => 0
def kC (c : Nat → Nat → Int32) : Nat → Nat → Int32 := fun o => if o = 0 then (fun j => if j = 11 then c 0 11 else if j = 12 then c 0 12 else 0) else if o = 2 then (fun j => if j = 1 then c 2 1 else 0) else if o = 3 then (fun j => if j = 3 then c 3 3 else 0) else if o = 4 then (fun j => if j = 4 then c 4 4 else 0) else if o = 5 then (fun j => if j = 4 then c 5 4 else 0) else if o = 6 then (fun j => if j = 8 then c 6 8 else 0) else if o = 9 then (fun j => if j = 5 then c 9 5 else 0) else if o = 11 then (fun j => if j = 2 then c 11 2 else 0) else if o = 13 then c 13 else if o = 14 then c 14 else if o = 15 then c 15 else if o = 16 then c 16 else if o = 17 then c 17 else if o = 18 then c 18 else if o = 19 then c 19 else if o = 20 then c 20 else if o = 21 then c 21 else if o = 22 then c 22 else if o = 23 then c 23 else if o = 24 then c 24 else if o = 25 then c 25 else if o = 26 then c 26 else if o = 27 then c 27 else if o = 28 then c 28 else if o = 29 then c 29 else if o = 30 then c 30 else if o = 31 then c 31 else if o = 32 then c 32 else if o = 33 then c 33 else if o = 34 then c 34 else if o = 35 then c 35 else if o = 37 then c 37 else if o = 38 then c 38 else if o = 39 then c 39 else if o = 40 then c 40 else if o = 41 then c 41 else if o = 42 then c 42 else if o = 43 then c 43 else if o = 47 then c 47 else fun _ => 0
theorem kM_thrown {M : Mem} : kM (mset M 0 0 0).1 = kM M.1 := rfl
/-- GATHERED -/
def gS (d : Nat → Nat → Int32) (l : Nat) : Int32 := d 4 (ix (d 8 l)) - d 5 (ix (d 8 l))
/-- orders by years, of one year as they were told -/
def insO (y : Nat → Int32) (k : Nat) : List Nat → List Nat
  | [] => [k]
  | a :: t => if y k < y a then k :: a :: t else a :: insO y k t
def srtO (y : Nat → Int32) : Nat → List Nat
  | 0 => []
  | n + 1 => insO y n (srtO y n)
def tdy (d : Nat → Nat → Int32) (s y now : Int32) (k : Nat) : Int32 := if y < d 15 k ∧ d 16 k = s ∧ d 17 k = now then d 18 k else now
def ordS (d : Nat → Nat → Int32) : List Nat := srtO (d 15) (ix (d 0 18))
def todayS (d : Nat → Nat → Int32) (s n y : Int32) : Int32 := (ordS d).foldl (tdy d s y) n
def doorS (d : Nat → Nat → Int32) (l : Nat) : Int32 := todayS d (d 10 l) (d 11 l) (gS d l)
def cdN (x : Nat) : Nat := ix (codes26.getD x 0)
def earR (f : Nat → Nat) : Nat → Nat × Nat × Nat
  | 0 => (0, 0, 0)
  | k + 1 => if f (k + 1) = 0 ∨ f (k + 1) = (earR f k).2.2 ∨ 3 ≤ (earR f k).1 then earR f k else ((earR f k).1 + 1, 10 * (earR f k).2.1 + f (k + 1), f (k + 1))
def earN (d : Nat → Nat → Int32) (l : Nat) : Nat := 1000 * ix (d 14 (8 * l)) + (earR (fun k => cdN (ix (d 14 (8 * l + k)))) (ix (d 13 l) - 1)).2.1 * 10 ^ (3 - (earR (fun k => cdN (ix (d 14 (8 * l + k)))) (ix (d 13 l) - 1)).1)
def hdI (p : Nat → Nat) (e : Nat → Bool) (i : Nat) : Nat → Nat
  | 0 => i
  | j + 1 => min (p j + if e j then 0 else 1) (1 + min (p (j + 1)) (hdI p e i j))
def hdN (e : Nat → Nat → Bool) : Nat → Nat → Nat
  | 0 => fun j => j
  | i + 1 => hdI (hdN e i) (e i) (i + 1)
def handS (d : Nat → Nat → Int32) (a b : Nat) : Nat := hdN (fun i j => d 14 (8 * a + i) == d 14 (8 * b + j)) (ix (d 13 a)) (ix (d 13 b))
def likeS (d : Nat → Nat → Int32) (a b : Nat) : Bool := decide (earN d a = earN d b) || decide (handS d a b < 2)
def okB (d : Nat → Nat → Int32) (b : Nat) : Prop := (∃ g, 1 ≤ g ∧ g ≤ 9998 ∧ d 4 b - d 5 b = nI g) ∧ (∃ p, 1 ≤ p ∧ p ≤ 99 ∧ d 6 b = nI p) ∧ (d 7 b = 0 ∨ d 7 b = 1)
def okL (d : Nat → Nat → Int32) (l : Nat) : Prop := (∃ b, b < ix (d 0 5) ∧ d 8 l = nI b) ∧ (∃ s, s < 5 ∧ d 9 l = nI s) ∧ (∃ s, s < 4 ∧ d 10 l = nI s) ∧ (∃ n, 1 ≤ n ∧ n ≤ 99 ∧ d 11 l = nI n) ∧ (d 12 l = -1000000 ∨ ∃ a, a ≤ 120 ∧ d 12 l = nI a) ∧ ∃ z, 1 ≤ z ∧ z ≤ 8 ∧ d 13 l = nI z ∧ ∀ k, k < z → ∃ x, x < 26 ∧ d 14 (8 * l + k) = nI x
def okO (d : Nat → Nat → Int32) (o : Nat) : Prop := (∃ y, 1 ≤ y ∧ y ≤ 9998 ∧ d 15 o = nI y) ∧ (∃ s, s < 4 ∧ d 16 o = nI s) ∧ (∃ n, 1 ≤ n ∧ n ≤ 99 ∧ d 17 o = nI n) ∧ (∃ n, 1 ≤ n ∧ n ≤ 99 ∧ d 18 o = nI n)
def okH (d : Nat → Nat → Int32) (h : Nat) : Prop := (∃ s, s < 4 ∧ d 19 h = nI s) ∧ (∃ n, 1 ≤ n ∧ n ≤ 99 ∧ d 20 h = nI n) ∧ ∃ f t, f < t ∧ t ≤ 9999 ∧ d 21 h = nI f ∧ d 22 h = nI t
def WFm (d : Nat → Nat → Int32) : Prop := (d 0 5 = nI (ix (d 0 5)) ∧ ix (d 0 5) ≤ 10) ∧ (d 0 10 = nI (ix (d 0 10)) ∧ ix (d 0 10) ≤ 12) ∧ (d 0 18 = nI (ix (d 0 18)) ∧ ix (d 0 18) ≤ 20) ∧ (d 0 23 = nI (ix (d 0 23)) ∧ ix (d 0 23) ≤ 20) ∧ (∀ b, b < ix (d 0 5) → okB d b) ∧ (∀ l, l < ix (d 0 10) → okL d l) ∧ (∀ o, o < ix (d 0 18) → okO d o) ∧ (∀ h, h < ix (d 0 23) → okH d h)
/-- what the class holds of a line -/
def tieL (c d : Nat → Nat → Int32) (l : Nat) : Prop := c 28 l = d 8 l ∧ c 29 l = d 9 l ∧ c 30 l = d 10 l ∧ c 31 l = d 11 l ∧ c 32 l = d 12 l ∧ c 33 l = gS d l ∧ c 34 l = doorS d l ∧ c 38 l = d 13 l ∧ c 39 l = nI (earN d l) ∧ (∀ k, k < ix (d 13 l) → c 35 (8 * l + k) = d 14 (8 * l + k)) ∧ ∀ j, j < 32 → (c 37 l >>> (nI j &&& 31)) &&& 1 = if decide (j < ix (d 0 10)) && likeS d l j then 1 else 0
def TieC (c d : Nat → Nat → Int32) : Prop := (c 3 3 = d 0 5 ∧ c 6 8 = d 0 10 ∧ c 4 4 = d 0 18 ∧ c 5 4 = d 0 23) ∧ (∀ b, b < ix (d 0 5) → c 17 b = d 4 b - d 5 b ∧ c 18 b = d 6 b ∧ c 19 b = d 7 b) ∧ (∀ b, ix (d 0 5) ≤ b → b < 10 → c 19 b = 0) ∧ (∀ l, l < ix (d 0 10) → tieL c d l) ∧ (∀ i, i < ix (d 0 18) → c 20 i = d 15 ((ordS d).getD i 0) ∧ c 21 i = d 16 ((ordS d).getD i 0) ∧ c 22 i = d 17 ((ordS d).getD i 0) ∧ c 23 i = d 18 ((ordS d).getD i 0)) ∧ (∀ h, h < ix (d 0 23) → c 24 h = d 19 h ∧ c 25 h = d 20 h ∧ c 26 h = d 21 h ∧ c 27 h = d 22 h)
