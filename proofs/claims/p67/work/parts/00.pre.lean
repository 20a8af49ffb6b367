def kTexts : List String := ["hall 1 6 3;die 1 1 1 1 1 1;die 0 1 1 4;player ann;player bob;player cid;throw ann 0 6;throw bob 1 8;throw ann 1 3;audit;throw cid 0 2;", "hall", "die", "player", "throw", "audit", "absolve", "forgive", "hall ", "player cy;player ab;player b;"]
def kLen : List Nat := kTexts.map String.length
def kByt : List (List Int32) := kTexts.map fun t => t.toList.map fun ch => Int32.ofNat ch.toNat
def inb (i : Int32) (n : Nat) : Bool := decide (¬ (i < 0 ∨ n ≤ i.toNatClampNeg))
def gd {α : Type} (b : Bool) (e : Option α) : Option α := if b = true then e else none
def sbd {α β : Type} (x : Option (String ⊕ α)) (g : α → Option (String ⊕ β)) : Option (String ⊕ β) := x.bind fun t => Sum.elim (fun c => some (.inl c)) g t
def cpok (sp dp w : Int32) (n0 n1 : Nat) : Bool := decide (¬ sp < 0 ∧ ¬ dp < 0 ∧ ¬ w < 0 ∧ sp.toNatClampNeg + w.toNatClampNeg ≤ n0 ∧ dp.toNatClampNeg + w.toNatClampNeg ≤ n1)
def nz (y : Int32) : Bool := decide (¬ y = 0)
/-- a String constant's length() and charAt(i) -/
def kSn (j : Nat) : Nat := kLen.getD j 0
def kSl (j : Nat) : Int32 := nI (kLen.getD j 0) >>> ((0 : Int32) &&& 31)
def kSc (j : Nat) (i : Int32) : Int32 := (((kByt.getD j []).getD i.toNatClampNeg 0 &&& 255).toUInt32 % 65536).toInt32
def hbd {α β : Type} (o : Option (String ⊕ α)) (g : String → Option β) (k : α → Option β) : Option β := match o with
  | none => none
  | some (.inl C) => g C
  | some (.inr t) => k t
def hbdw {ω α β : Type} (o : Option ((String × ω) ⊕ α)) (g : String → ω → Option β) (k : α → Option β) : Option β := match o with
  | none => none
  | some (.inl C) => g C.1 C.2
  | some (.inr t) => k t
