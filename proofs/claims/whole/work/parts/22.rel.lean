/-! THE RELATION between the store of the class (X) and that of the reference (M) -/
/-- within bounds, as a whole number -/
def inR (x : Int32) (lo hi : Int) : Prop := ∃ a : Int, lo ≤ a ∧ a ≤ hi ∧ x = iI a
/-- a shape and a row (of a cavern, or of an act) -/
def ShR (X : St) (i : Nat) (r : Int → Int32) : Prop :=
  (∀ l : Int, 0 ≤ l ∧ l < 30 → X 512 i l.toNat = r l) ∧ X 516 i 0 = r 120 ∧ X 519 i 0 = r 121 ∧ X 520 i 0 = r 122 ∧ X 521 i 0 = r 123 ∧ X 517 i 0 = r 125 ∧ X 518 i 0 = r 126 ∧ X 515 i 0 = r 135 + iI (-1)
/-- a shape with roof a, bottom b; the floor is at most F -/
def ShV (X : St) (i : Nat) (a b F : Int) : Prop :=
  0 ≤ a ∧ a ≤ b ∧ b < 30 ∧ X 513 i 0 = iI a ∧ X 514 i 0 = iI b ∧
  (∃ u : Int, a < u ∧ u ≤ b + 1 ∧ X 515 i 0 = iI (u - 1) ∧ inR (X 519 i 0) a (u - 1) ∧ inR (X 520 i 0) a (u - 1) ∧ inR (X 521 i 0) a (u - 1)) ∧
  inR (X 516 i 0) 0 F ∧
  (∀ l : Int, a ≤ l ∧ l ≤ b → inR (X 512 i l.toNat) 1 99999) ∧ (∀ l : Int, 0 ≤ l ∧ l < 30 → ¬ (a ≤ l ∧ l ≤ b) → X 512 i l.toNat = iI 0)
def SkS (X : St) (i : Nat) : Nat → Int
  | 0 => 0
  | n + 1 => SkS X i n + (X 577 i n).toInt
/-- a stock and a row -/
def SkR (X : St) (i : Nat) (r : Int → Int32) : Prop :=
  ∃ k : Nat, k ≤ 30 ∧ X 578 i 0 = iI k ∧ r 130 = iI k ∧ X 579 i 0 = r 127 ∧ X 580 i 0 = r 128 ∧ inR (X 579 i 0) 0 99999 ∧ inR (X 580 i 0) 0 99999 ∧
  (∀ j : Nat, j < k → X 576 i j = r (60 + j) ∧ X 577 i j = r (90 + j) ∧ inR (X 576 i j) 0 5 ∧ inR (X 577 i j) 1 99999) ∧ X 579 i 0 = iI (SkS X i k)
def stF (r : Int → Int32) : Int32 := if r 134 = iI 1 then iI 4 else if r 133 = iI 1 then iI 3 else if r 132 = iI 1 then iI 2 else if r 131 = iI 1 then iI 1 else iI 0
/-- a state and the flags of a row -/
def FlR (x : Int32) (r : Int → Int32) : Prop :=
  x = stF r ∧ inR (r 131) 0 1 ∧ inR (r 132) 0 1 ∧ inR (r 133) 0 1 ∧ inR (r 134) 0 1 ∧ (r 132 ≠ iI 1 → r 127 = iI 0 ∧ r 128 = iI 0)
/-- what a cavern has beside its shape (made or not) -/
def CvK (X M : St) (c : Nat) (n : Nat) : Prop :=
  SkR X c (rw_ M c) ∧ FlR (X 198 c 0) (rw_ M c) ∧ X 199 c 0 = rw_ M c 124 ∧ inR (X 199 c 0) 0 1 ∧
  (∀ l : Int, 0 ≤ l ∧ l < 30 → X 195 c l.toNat = rw_ M c (30 + l) ∧ inR (X 195 c l.toNat) 0 1) ∧
  X 200 c 0 = rw_ M c 129 ∧ inR (X 200 c 0) 0 (60 * 3000000) ∧ X 201 c 0 = M 803 0 c ∧ inR (X 201 c 0) 0 999 ∧
  (∃ k : Nat, k ≤ 6 ∧ X 261 c 0 = iI k ∧ M 796 0 c = iI k ∧ ∀ j : Nat, j < k →
    X 256 c j = M 797 0 (6 * c + j) ∧ X 257 c j = M 798 0 (6 * c + j) ∧ X 258 c j = M 799 0 (6 * c + j) ∧ X 259 c j = M 800 0 (6 * c + j) ∧ X 260 c j = M 801 0 (6 * c + j) ∧
    inR (X 256 c j) 1 99 ∧ inR (X 257 c j) 0 9999 ∧ inR (X 258 c j) 0 99 ∧ inR (X 259 c j) (-99) 99 ∧ inR (X 260 c j) (-99) 99 ∧ (X 259 c j).toInt ≤ (X 260 c j).toInt)
/-- a cavern that is made -/
def CvM (X M : St) (c : Nat) (n : Nat) : Prop :=
  ∃ a b : Int, ShV X c a b (n * 100000) ∧ M 778 0 c = iI a ∧ M 779 0 c = iI b ∧ ShR X c (rw_ M c) ∧ X 197 c 0 = M 777 0 c ∧ inR (X 197 c 0) 0 999
/-- one that is not yet -/
def CvN (M : St) (c : Nat) : Prop := ∀ k : Int, 0 ≤ k ∧ k < 136 → rw_ M c k = iI 0
def CvR (X M : St) (n cnt : Nat) : Prop := cnt ≤ 5 ∧ X 707 0 0 = iI cnt ∧ M 781 0 0 = iI cnt ∧ (∀ c : Nat, c < 5 → CvK X M c n) ∧ (∀ c : Nat, c < cnt → CvM X M c n) ∧ ∀ c : Nat, cnt ≤ c ∧ c < 5 → CvN M c
def ar_ (M : St) (j : Nat) (k : Int) : Int32 := M 812 0 (136 * (j : Int) + k).toNat
/-- an act that is kept at j of the reference, at a of the class -/
def AcR1 (X M : St) (n cnt a j : Nat) : Prop :=
  ∃ (c : Nat) (p q : Int), c < cnt ∧ X 0 a 0 = iI c ∧ M 811 0 j = iI c ∧ ShV X (a + 12) p q (n * 100000) ∧ X 513 c 0 = iI p ∧ X 514 c 0 = iI q ∧ ShR X (a + 12) (ar_ M j) ∧ SkR X (a + 5) (ar_ M j) ∧ FlR (X 3 a 0) (ar_ M j) ∧
  (∀ k : Int, 30 ≤ k ∧ k < 60 → ar_ M j k = rw_ M c k) ∧ ar_ M j 129 = rw_ M c 129 ∧ ∀ k : Nat, k < 6 → X 4 a k = M 813 0 (6 * j + k)
def AcR (X M : St) (n cnt : Nat) : Prop :=
  ∃ f k : Nat, f < 200 ∧ k ≤ 200 ∧ X 65 0 0 = iI f ∧ X 66 0 0 = iI k ∧ M 814 0 0 = iI k ∧ ∀ j : Nat, j < k → AcR1 X M n cnt ((f + j) % 200) j
def TxR (X M : St) : Prop := ∃ t : Nat, t ≤ 60 ∧ X 129 0 0 = iI t ∧ M 773 0 0 = iI t ∧ ∀ k : Nat, k < t → X 128 0 k = M 769 0 k ∧ inR (X 128 0 k) 0 255
def BdR (X M : St) : Prop := ∀ l : Nat, l < 30 → X 448 0 l = M 770 0 l ∧ inR (X 448 0 l) 0 10
def LwR (X M : St) : Prop := ∀ l : Nat, l < 10 → X 449 0 l = M 782 0 l ∧ inR (X 449 0 l) 0 99
def SeR (X M : St) : Prop := (∀ k : Nat, k < 4 → X 709 0 k = M 784 0 k) ∧ inR (X 709 0 0) 0 99 ∧ inR (X 709 0 1) 0 99 ∧ inR (X 709 0 2) 0 999 ∧ inR (X 709 0 3) 1 99
def SmR (X M : St) : Prop := X 708 0 0 = M 785 0 0 ∧ inR (X 708 0 0) 0 60 ∧ X 710 0 0 = M 788 0 0 ∧ inR (X 710 0 0) 0 5 ∧ X 712 0 0 = M 786 0 0 ∧ inR (X 712 0 0) 0 999
def DrR (X M : St) : Prop := ∀ k : Nat, k < 6 → X 711 0 k = M 787 0 k
def RdR (X M : St) : Prop := ∃ t : Nat, t ≤ 40 ∧ X 388 0 0 = iI t ∧ M 793 0 0 = iI t ∧ ∀ k : Nat, k < t → X 384 0 k = M 789 0 k ∧ X 385 0 k = M 790 0 k ∧ X 386 0 k = M 791 0 k ∧ X 387 0 k = M 792 0 k ∧ inR (X 384 0 k) 0 4 ∧ inR (X 385 0 k) 0 29 ∧ inR (X 386 0 k) 0 999 ∧ inR (X 387 0 k) 0 99
def RfR (X M : St) : Prop := ∀ k : Nat, k < 8 → X 717 0 k = M 768 0 k
def NdR (X M : St) : Prop := ∀ k : Nat, k < 12 → X 640 0 k = M 802 0 k ∧ inR (X 640 0 k) 0 999
def AmR (X M : St) : Prop := ∀ k : Nat, k < 30 → X 320 0 k = M 804 0 k ∧ inR (X 320 0 k) 0 99999
def ChR (X M : St) : Prop := ∃ t : Nat, t ≤ 5 ∧ X 324 0 0 = iI t ∧ M 810 0 0 = iI t ∧ ∀ k : Nat, k < t → X 321 0 k = M 805 0 k ∧ X 322 0 k = M 806 0 k ∧ X 323 0 k = M 807 0 k ∧ inR (X 321 0 k) 0 29 ∧ inR (X 322 0 k) 0 29 ∧ inR (X 323 0 k) 1 99
/-- what is lost by creep: at most so much a year -/
def LoR (X : St) : Prop := ∃ y : Int, 0 ≤ y ∧ y ≤ 60 ∧ X 708 0 0 = iI y ∧ ∀ c : Nat, c < 5 → inR (X 200 c 0) 0 (y * 3000000)
/-- behind n calls -/
def Rel (n : Nat) (X M : St) : Prop := ∃ cnt : Nat, CvR X M n cnt ∧ AcR X M n cnt ∧ TxR X M ∧ BdR X M ∧ LwR X M ∧ SeR X M ∧ SmR X M ∧ DrR X M ∧ RdR X M ∧ RfR X M ∧ NdR X M ∧ AmR X M ∧ ChR X M ∧ LoR X
/-- a call of both: the same answer, and related again -/
def Both (n : Nat) (fx : Option (Int32 × St)) (fm : Option (Int32 × St)) : Prop := ∃ r X' M', fx = some (r, X') ∧ fm = some (r, M') ∧ Rel (n + 1) X' M'
