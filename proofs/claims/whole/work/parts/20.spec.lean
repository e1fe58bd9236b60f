/-! what the two programs compute, in plain functions -/
/-- a text: churches, relics, pilgrims; how far; homes, needs, gifts; which relics are true; the laws as functions of what they look at; the seed -/
abbrev tx : Type := Nat × Nat × Nat × (Nat → Nat → Int32) × (Nat → Nat) × (Nat → Int32) × (Nat → Int32) × (Nat → Bool) × (Nat → (Nat → Int32) → Int32) × Int32
abbrev tC (T : tx) : Nat := T.1
abbrev tR (T : tx) : Nat := T.2.1
abbrev tP (T : tx) : Nat := T.2.2.1
abbrev tF (T : tx) : Nat → Nat → Int32 := T.2.2.2.1
abbrev tH (T : tx) : Nat → Nat := T.2.2.2.2.1
abbrev tN (T : tx) : Nat → Int32 := T.2.2.2.2.2.1
abbrev tG (T : tx) : Nat → Int32 := T.2.2.2.2.2.2.1
abbrev tT (T : tx) : Nat → Bool := T.2.2.2.2.2.2.2.1
abbrev tL (T : tx) : Nat → (Nat → Int32) → Int32 := T.2.2.2.2.2.2.2.2.1
abbrev tS (T : tx) : Int32 := T.2.2.2.2.2.2.2.2.2
def b1 (b : Bool) : Int32 := if b then nI 1 else nI 0
/-- a text as it is when it has been read -/
def tok (T : tx) : Prop := tC T ≤ 6 ∧ tR T ≤ 6 ∧ tP T ≤ 5 ∧ (∀ a, a < tP T → tH T a < tC T) ∧ (∀ e, tR T ≤ e → tT T e = false) ∧ (∀ a b, a < tC T → b < tC T → ∃ n, n ≤ 999 ∧ tF T a b = nI n) ∧ (∀ k f g, (∀ j, j < 9 → f j = g j) → tL T k f = tL T k g)
def mixS (h w : Int32) : Int32 := ((h ^^^ w) * nI 1103515245 + nI 12345) ^^^ ((((h ^^^ w) * nI 1103515245 + nI 12345).toUInt32 >>> ((nI 15).toUInt32 &&& Int32.toUInt32 31)).toInt32)
def lotS (sd w : Int32) : Int32 := ((mixS (mixS sd (nI 111)) w).toUInt32 >>> ((nI 1).toUInt32 &&& Int32.toUInt32 31)).toInt32
/-- the lot, of a hundred -/
def lotH (sd w : Int32) : Int32 := lotS sd w - lotS sd w / nI 100 * nI 100
def heldS (v m : Int32) : Int32 := if v < nI 0 then nI 0 else if m < v then m else v
/-- a row of what goes on: watchers 0, where relics are 6, wonders of churches 12, what they took 18, wonders of relics 24, carried 30, given 36, wonders of pilgrims 41, year 46, tried 47, caught 48 -/
abbrev rw_ : Type := Nat → Int32
def atC (r : rw_) (c e : Nat) : Bool := decide (r (6 + e) = nI c)
def bs6 (b0 b1 b2 b3 b4 b5 : Bool) : Nat := (if b0 then 1 else 0) + (if b1 then 2 else 0) + (if b2 then 4 else 0) + (if b3 then 8 else 0) + (if b4 then 16 else 0) + (if b5 then 32 else 0)
def cn6 (b0 b1 b2 b3 b4 b5 : Bool) : Nat := (if b0 then 1 else 0) + (if b1 then 1 else 0) + (if b2 then 1 else 0) + (if b3 then 1 else 0) + (if b4 then 1 else 0) + (if b5 then 1 else 0)
def bsF (f : Nat → Bool) : Nat := bs6 (f 0) (f 1) (f 2) (f 3) (f 4) (f 5)
def cnF (f : Nat → Bool) : Nat := cn6 (f 0) (f 1) (f 2) (f 3) (f 4) (f 5)
/-- what a law looks at, beside pilgrims: the relics at a church, the year -/
def vs0 (r : rw_) (c : Nat) : Nat → Int32 := fun k => if k = 0 then nI (cnF (atC r c)) else if k = 7 then r 46 else nI 0
def vsP (T : tx) (r : rw_) (a c : Nat) : Nat → Int32 := fun k => if k = 1 then r (12 + c) else if k = 2 then tF T (tH T a) c else if k = 3 then tN T a else if k = 4 then tG T a else vs0 r c k
def vsV (T : tx) (r : rw_) (a c : Nat) : Nat → Int32 := fun k => if k = 6 then r c else if k = 8 then nI (cnF (fun e => atC r c e && tT T e)) else vsP T r a c k
def drawS (T : tx) (r : rw_) (a c : Nat) : Int32 := tL T 0 (vsV T r a c)
def giveS (T : tx) (r : rw_) (a c : Nat) : Int32 := heldS (tL T 2 (vsV T r a c)) (nI 99)
def healS (T : tx) (r : rw_) (c a : Nat) (tr : Int32) : Int32 := heldS (tL T 1 (fun k => if k = 8 then tr else vsP T r a c k)) (nI 100)
def leavS (T : tx) (r : rw_) (c e n : Nat) : Int32 := heldS (tL T 3 (fun k => if k = 8 then b1 (tT T e) else if k = 5 then nI n else if k = 1 then r (12 + c) else vs0 r c k)) (nI 100)
def caugS (T : tx) (r : rw_) (c : Nat) (w : Int32) (n : Nat) : Int32 := heldS (tL T 4 (fun k => if k = 6 then w else if k = 5 then nI n else vs0 r c k)) (nI 100)
/-- where a pilgrim goes: by the churches before c -/
def goalL (T : tx) (r : rw_) (a : Nat) : Nat → Int32 × Int32
  | 0 => (-2, nI 0)
  | c + 1 => if tF T (tH T a) c = nI 999 ∨ cnF (atC r c) = 0 then goalL T r a c else if (goalL T r a c).1 < nI 0 ∨ (goalL T r a c).2 < drawS T r a c then (nI c, drawS T r a c) else goalL T r a c
def goalS (T : tx) (r : rw_) (a : Nat) : Int32 := (goalL T r a (tC T)).1
def up1 (r : rw_) (k : Nat) (v : Int32) : rw_ := fun j => if j = k then r j + v else r j
/-- a pilgrim at a church: the relics before e -/
def visL (T : tx) (sd : Int32) (a c : Nat) (r : rw_) : Nat → rw_ × Nat
  | 0 => (r, 0)
  | e + 1 => if (visL T sd a c r e).1 (6 + e) = nI c ∧ lotH sd (nI 64 * (visL T sd a c r e).1 46 + nI (8 * a) + nI e) < healS T (visL T sd a c r e).1 c a (b1 (tT T e)) then (up1 (up1 (up1 (visL T sd a c r e).1 (12 + c) (nI 1)) (24 + e) (nI 1)) (41 + a) (nI 1), (visL T sd a c r e).2 + 2 ^ e) else visL T sd a c r e
def visR (T : tx) (sd : Int32) (a c : Nat) (r : rw_) : rw_ := up1 (up1 (visL T sd a c r 6).1 (18 + c) (giveS T (visL T sd a c r 6).1 a c)) (36 + a) (giveS T (visL T sd a c r 6).1 a c)
def visW (T : tx) (sd : Int32) (a c : Nat) (r : rw_) : Nat := (visL T sd a c r 6).2
def glS (T : tx) (r : rw_) (a : Nat) : Int32 := if a < tP T then goalS T r a else -2
/-- a year: the pilgrims before a, by the goals of the year's start; the relics at which a wonder was written, as bits -/
def yrL (T : tx) (sd : Int32) (r : rw_) : Nat → rw_ × (Nat → Nat)
  | 0 => (r, fun _ => 0)
  | a + 1 => if glS T r a < nI 0 then ((yrL T sd r a).1, fun j => if j = a then 0 else (yrL T sd r a).2 j) else (visR T sd a (glS T r a).toNatClampNeg (yrL T sd r a).1, fun j => if j = a then visW T sd a (glS T r a).toNatClampNeg (yrL T sd r a).1 else (yrL T sd r a).2 j)
def yrS (T : tx) (sd : Int32) (r : rw_) : rw_ := up1 (yrL T sd r 5).1 46 (nI 1)
def yrW (T : tx) (sd : Int32) (r : rw_) : Nat → Nat := (yrL T sd r 5).2
def yrsS (T : tx) (sd : Int32) (r : rw_) : Nat → rw_
  | 0 => r
  | n + 1 => yrS T sd (yrsS T sd r n)
/-- a row as the class keeps it: 55 cells -/
def cst (r : rw_) (k : Nat) : Int32 := if k < 6 then r k else if k < 18 then r (k + 6) else if k < 24 then nI (bsF (atC r (k - 18))) else if k < 30 then r (k - 18) else r (k - 6)
/-- where the relics are: at churches, or nowhere -/
def rok (T : tx) (r : rw_) : Prop := (∀ e, e < tR T → r (6 + e) = -1 ∨ ∃ c, c < tC T ∧ r (6 + e) = nI c) ∧ ∀ e, tR T ≤ e → e < 6 → r (6 + e) = -1
