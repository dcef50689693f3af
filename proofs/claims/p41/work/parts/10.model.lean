/-! ===== THE REFERENCE: its state as two tables: numbers that are natural by slot and place, other numbers by slot and place ===== -/
abbrev Sg : Type := (Nat → Nat → Nat) × (Nat → Nat → Int32)
def sN (σ : Sg) (k j v : Nat) : Sg := (fun a b => if a = k ∧ b = j then v else σ.1 a b, σ.2)
def sV (σ : Sg) (k j : Nat) (v : Int32) : Sg := (σ.1, fun a b => if a = k ∧ b = j then v else σ.2 a b)
def nCo (σ : Sg) : Nat := σ.1 2 0
def nSt (σ : Sg) : Nat := σ.1 5 0
def nLe (σ : Sg) : Nat := σ.1 7 0
def nEx (σ : Sg) : Nat := σ.1 11 0
def nAn (σ : Sg) : Nat := σ.1 19 0
def nAp (σ : Sg) : Nat := σ.1 27 0
def nHa (σ : Sg) : Nat := σ.1 29 0
def nCr (σ : Sg) : Nat := σ.1 32 0
def nCe (σ : Sg) : Nat := σ.1 35 0
def nSz (σ : Sg) : Nat := σ.1 43 0
def dayV (σ : Sg) : Int32 := σ.2 1 0
def coh (σ : Sg) (i : Nat) : Nat := σ.1 6 i
def les (σ : Sg) (i : Nat) : Nat := σ.1 12 i
def cas (σ : Sg) (i : Nat) : Nat := σ.1 16 i
def wei (σ : Sg) (i : Nat) : Nat := σ.1 18 i
def stu (σ : Sg) (i : Nat) : Nat := σ.1 20 i
def exe (σ : Sg) (i : Nat) : Nat := σ.1 21 i
def app (σ : Sg) (i : Nat) : Nat := σ.1 28 i
def har (σ : Sg) (i : Nat) : Nat := σ.1 30 i
def hol (σ : Sg) (i : Nat) : Nat := σ.1 36 i
def cou (σ : Sg) (i : Nat) : Nat := σ.1 37 i
def eTh (σ : Sg) (i : Nat) : Nat := σ.1 39 i
def aTh (σ : Sg) (i : Nat) : Nat := σ.1 40 i
