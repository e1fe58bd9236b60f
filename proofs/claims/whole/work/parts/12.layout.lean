/-! the cells behind the two constructors, by wip/whole/lay.py: shapes and references -/
def SHl : List ab_Sh := [.inl 10, .inl 7, .inl 2, .inr (.int, 420), .inr (.int, 420), .inr (.int, 5), .inr (.int, 9), .inr (.int, 20), .inr (.long, 17), .inr (.long, 6), .inr (.int, 6), .inr (.int, 36), .inr (.int, 6), .inr (.int, 5), .inr (.int, 5), .inr (.int, 5), .inl 7, .inl 2, .inr (.int, 420), .inr (.int, 420), .inr (.int, 5), .inr (.int, 9), .inr (.int, 20), .inr (.long, 17), .inr (.long, 6), .inr (.int, 6), .inr (.int, 36), .inr (.int, 6), .inr (.int, 5), .inr (.int, 5), .inr (.int, 5), .inl 6, .inr (.byte, 2000), .inl 4, .inl 8, .inr (.long, 24), .inr (.int, 402), .inr (.int, 402), .inr (.long, 402), .inl 5, .inr (.int, 55), .inl 0, .inr (.int, 5), .inr (.int, 5), .inl 1, .inl 5, .inr (.int, 55), .inr (.int, 6), .inl 3, .inr (.int, 2200), .inr (.int, 165), .inr (.boolean, 3), .inl 9, .inr (.int, 20), .inr (.boolean, 20), .inl 11, .inr (.byte, 2000), .inr (.byte, 2000), .inr (.int, 403), .inr (.int, 403), .inr (.int, 403), .inr (.long, 403), .inr (.long, 24), .inr (.long, 17), .inr (.int, 17), .inr (.int, 2), .inr (.int, 12), .inr (.int, 2), .inr (.int, 72), .inr (.int, 2), .inr (.int, 12), .inr (.int, 12), .inr (.int, 2), .inr (.int, 10), .inr (.int, 10), .inr (.int, 10), .inr (.int, 2), .inr (.int, 10), .inr (.int, 10), .inr (.boolean, 260), .inr (.int, 260), .inr (.int, 260), .inr (.int, 260), .inr (.int, 260), .inr (.int, 840), .inr (.int, 840), .inr (.int, 64), .inr (.int, 9), .inr (.int, 400), .inr (.int, 36), .inr (.int, 49), .inr (.int, 49), .inr (.int, 5), .inr (.boolean, 30), .inr (.int, 1960), .inr (.int, 20), .inr (.boolean, 20), .inr (.boolean, 3), .inr (.int, 147)]
def SH (Lx a : Nat) : ab_Sh := match SHl[a]? with
  | some q => q
  | none => if a < 1000000 then .inl 999 else ab_spS Lx a
def PLl : List (List (Option Nat)) := [[some 1, some 16, some 31, some 33, some 39, some 41, some 44, some 48, some 52], [some 2, some 8, some 9, some 10, some 11, some 12, some 13, some 14, some 15, none, none, none, none, none, none, none], [some 3, some 4, some 5, some 6, some 7, none], [], [], [], [], [], [], [], [], [], [], [], [], [], [some 17, some 23, some 24, some 25, some 26, some 27, some 28, some 29, some 30, none, none, none, none, none, none, none], [some 18, some 19, some 20, some 21, some 22, none], [], [], [], [], [], [], [], [], [], [], [], [], [], [some 32, none], [], [some 34, some 16, some 17, none, none, none, none, none, none], [some 35, some 36, some 37, some 38, none], [], [], [], [], [some 40], [], [some 42, some 43, some 1, some 2], [], [], [some 41, some 39, some 45, some 47], [some 46], [], [], [some 49, some 50, some 51, none, none], [], [], [], [some 53, some 54, none], [], [], [none, some 56, none, some 57, none, some 58, some 59, some 60, some 61, some 62, none, none, none, none, none, none, none, none, none, none, none, some 63, some 64, some 65, some 66, some 67, some 68, some 69, some 70, some 71, some 72, some 73, some 74, some 75, some 76, some 77, some 78, none, some 79, some 80, some 81, some 82, some 83, none, some 84, some 85, some 86, none, some 87, some 88, none, some 89, some 90, some 91, none, some 92, some 93, none, some 94, none, none, none, some 95, some 96, some 97, some 98], [], [], [], [], [], [], [], [], [], [], [], [], [], [], [], [], [], [], [], [], [], [], [], [], [], [], [], [], [], [], [], [], [], [], [], [], [], [], [], [], [], [], []]
def PL (c k : Nat) : Option Nat := match PLl[c]? with
  | some q => q.getD k none
  | none => ab_spP c k
/-- the references: the text that is read, the reader's text, the course's text are the moving ones -/
def PF (t rt u c k : Nat) : Option Nat := match c with
  | 0 => match k with
    | 0 => some t
    | 1 => some (17 - t)
    | _ => PL 0 k
  | 33 => match k with
    | 1 => some rt
    | 2 => some (rt + 1)
    | _ => PL 33 k
  | 41 => match k with
    | 2 => some u
    | 3 => some (u + 1)
    | _ => PL 41 k
  | _ => PL c k
abbrev hp (Lx t rt u : Nat) (I : Nat → Nat → Int32) (G : Nat → Nat → Int64) : ab_H := (99, SH Lx, I, G, PF t rt u)
