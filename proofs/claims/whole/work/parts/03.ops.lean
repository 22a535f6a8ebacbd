/-! THE OPS -/
def mx32 (x y : Int32) : Int32 := if x < y then y else x
def mn32 (x y : Int32) : Int32 := if y < x then y else x
def ab32 (x : Int32) : Int32 := if 0 ≤ x then x else 0 - x
def zn (x : Int32) : Int32 := x &&& 1
abbrev Tg : Type := Nat × Option (List Bool)
def msk : List Bool → Pl → Pl
  | _, [] => []
  | [], l => l
  | b :: bs, a :: l => (bif b then a else none) :: msk bs l
def gom (o : Option (List Bool)) (pl : Pl) : Pl := o.elim pl (fun bs => msk bs pl)
def cf (m : Nat) (t : Tg) (pl : Pl) (st : List PV) (S : St) : Cfg := (m, t.1, gom t.2 pl, st, S)
def nx (m : Nat) (t : Tg) (pl : Pl) (st : List PV) (S : St) : Act := some (.inl (cf m t pl st S))
def nth : Pl → Nat → Option PV
  | [], _ => none
  | a :: _, 0 => a
  | _ :: l, n + 1 => nth l n
def isL : PV → Bool
  | .inr (.inl _) => true
  | _ => false
def isLo (o : Option PV) : Bool := o.elim false isL
def clr1 : Pl → Pl
  | [] => []
  | _ :: l => none :: l
def setL : Pl → Nat → PV → Pl
  | [], _, _ => []
  | _ :: l, 0, v => some v :: (bif isL v then clr1 l else l)
  | a :: l, 1, v => (bif isLo a then none else a) :: setL l 0 v
  | a :: l, n + 2, v => a :: setL l (n + 1) v
def oPush (v : PV) (t : Tg) : Op := fun m pl st S => nx m t pl (v :: st) S
def oLdI (i : Nat) (t : Tg) : Op := fun m pl st S => match nth pl i with
  | some (.inl x) => nx m t pl (.inl x :: st) S
  | _ => none
def oLdL (i : Nat) (t : Tg) : Op := fun m pl st S => match nth pl i with
  | some (.inr (.inl x)) => nx m t pl (.inr (.inl x) :: st) S
  | _ => none
def oLdR (i : Nat) (t : Tg) : Op := fun m pl st S => match nth pl i with
  | some (.inr (.inr o)) => nx m t pl (.inr (.inr o) :: st) S
  | _ => none
def oStI (i : Nat) (t : Tg) : Op := fun m pl st S => match st with
  | .inl x :: st => nx m t (setL pl i (.inl x)) st S
  | _ => none
def oStL (i : Nat) (t : Tg) : Op := fun m pl st S => match st with
  | .inr (.inl x) :: st => nx m t (setL pl i (.inr (.inl x))) st S
  | _ => none
def oStR (i : Nat) (t : Tg) : Op := fun m pl st S => match st with
  | .inr (.inr o) :: st => nx m t (setL pl i (.inr (.inr o))) st S
  | _ => none
def oInc (i : Nat) (n : Int32) (t : Tg) : Op := fun m pl st S => match nth pl i with
  | some (.inl x) => nx m t (setL pl i (.inl (x + n))) st S
  | _ => none
def oB (f : Int32 → Int32 → Int32) (t : Tg) : Op := fun m pl st S => match st with
  | .inl y :: .inl x :: st => nx m t pl (.inl (f x y) :: st) S
  | _ => none
def oBd (f : Int32 → Int32 → Int32) (t : Tg) : Op := fun m pl st S => match st with
  | .inl y :: .inl x :: st => some (.inr (.inl (!decide (y = 0), cf m t pl (.inl (f x y) :: st) S, none)))
  | _ => none
def oU (f : Int32 → Int32) (t : Tg) : Op := fun m pl st S => match st with
  | .inl x :: st => nx m t pl (.inl (f x) :: st) S
  | _ => none
def oBl (f : Int64 → Int64 → Int64) (t : Tg) : Op := fun m pl st S => match st with
  | .inr (.inl y) :: .inr (.inl x) :: st => nx m t pl (.inr (.inl (f x y)) :: st) S
  | _ => none
def oBld (f : Int64 → Int64 → Int64) (t : Tg) : Op := fun m pl st S => match st with
  | .inr (.inl y) :: .inr (.inl x) :: st => some (.inr (.inl (!decide (y = 0), cf m t pl (.inr (.inl (f x y)) :: st) S, none)))
  | _ => none
def oSl (f : Int64 → Int32 → Int64) (t : Tg) : Op := fun m pl st S => match st with
  | .inl y :: .inr (.inl x) :: st => nx m t pl (.inr (.inl (f x y)) :: st) S
  | _ => none
def oCmpL (t : Tg) : Op := fun m pl st S => match st with
  | .inr (.inl y) :: .inr (.inl x) :: st => nx m t pl (.inl (lg_cmp x y) :: st) S
  | _ => none
def oI2L (t : Tg) : Op := fun m pl st S => match st with
  | .inl x :: st => nx m t pl (.inr (.inl x.toInt64) :: st) S
  | _ => none
def oL2I (t : Tg) : Op := fun m pl st S => match st with
  | .inr (.inl x) :: st => nx m t pl (.inl x.toInt32 :: st) S
  | _ => none
def oGo (t : Tg) : Op := fun m pl st S => nx m t pl st S
def oC (p : Int32 → Int32 → Bool) (a t : Tg) : Op := fun m pl st S => match st with
  | .inl y :: .inl x :: st => some (.inr (.inl (p x y, cf m a pl st S, some (cf m t pl st S))))
  | _ => none
def oZ (p : Int32 → Bool) (a t : Tg) : Op := fun m pl st S => match st with
  | .inl x :: st => some (.inr (.inl (p x, cf m a pl st S, some (cf m t pl st S))))
  | _ => none
def oN (a t : Tg) : Op := fun m pl st S => match st with
  | .inr (.inr none) :: st => nx m a pl st S
  | .inr (.inr (some _)) :: st => nx m t pl st S
  | _ => none
def oSw (ks : List (Int32 × Tg)) (d : Tg) : Op := fun m pl st S => match st with
  | .inl x :: st => some (.inr (.inr (.inl (x, ks.map (fun q => (q.1, cf m q.2 pl st S)), cf m d pl st S))))
  | _ => none
def oPop (t : Tg) : Op := fun m pl st S => match st with
  | v :: st => bif isL v then none else nx m t pl st S
  | _ => none
def oDup (t : Tg) : Op := fun m pl st S => match st with
  | v :: st => bif isL v then none else nx m t pl (v :: v :: st) S
  | _ => none
def oDup2 (t : Tg) : Op := fun m pl st S => match st with
  | v :: w :: st => bif isL v then none else bif isL w then none else nx m t pl (v :: w :: v :: w :: st) S
  | _ => none
/-- what a field is: 0 int, 5 boolean; 1 an object (its kind, how far its number is off); 2 a row of ints (its length), 3 of booleans, 4 of objects (length, their kind, how far off) -/
def gN {α : Type} : List α → Nat → Option α
  | [], _ => none
  | a :: _, 0 => some a
  | _ :: l, n + 1 => gN l n
def gT : List (List (Nat × Nat × Nat × Nat)) := [[(0, 0, 0, 0), (1, 8, 12, 0), (1, 9, 5, 0), (0, 0, 0, 0), (2, 6, 0, 0)], [(4, 200, 0, 0), (0, 0, 0, 0), (0, 0, 0, 0)], [(2, 60, 0, 0), (0, 0, 0, 0), (2, 30, 0, 0), (0, 0, 0, 0), (2, 3, 0, 0), (0, 0, 0, 0), (0, 0, 0, 0), (0, 0, 0, 0)], [(1, 8, 0, 0), (1, 9, 0, 0), (1, 4, 0, 0), (3, 30, 0, 0), (2, 30, 0, 0), (0, 0, 0, 0), (0, 0, 0, 0), (5, 0, 0, 0), (0, 0, 0, 0), (0, 0, 0, 0)], [(2, 6, 0, 0), (2, 6, 0, 0), (2, 6, 0, 0), (2, 6, 0, 0), (2, 6, 0, 0), (0, 0, 0, 0)], [(2, 30, 0, 0), (2, 5, 0, 0), (2, 5, 0, 0), (2, 5, 0, 0), (0, 0, 0, 0), (4, 6, 8, 6), (2, 5, 0, 0), (2, 5, 0, 0), (0, 0, 0, 0)], [(2, 40, 0, 0), (2, 40, 0, 0), (2, 40, 0, 0), (2, 40, 0, 0), (0, 0, 0, 0), (0, 0, 0, 0), (0, 0, 0, 0)], [(2, 30, 0, 0), (2, 10, 0, 0)], [(2, 30, 0, 0), (0, 0, 0, 0), (0, 0, 0, 0), (0, 0, 0, 0), (0, 0, 0, 0), (0, 0, 0, 0), (0, 0, 0, 0), (0, 0, 0, 0), (0, 0, 0, 0), (0, 0, 0, 0)], [(2, 30, 0, 0), (2, 30, 0, 0), (0, 0, 0, 0), (0, 0, 0, 0), (0, 0, 0, 0)], [(2, 12, 0, 0), (0, 0, 0, 0)], [(1, 2, 0, 0), (1, 7, 0, 0), (4, 5, 3, 0), (0, 0, 0, 0), (0, 0, 0, 0), (2, 4, 0, 0), (0, 0, 0, 0), (2, 6, 0, 0), (0, 0, 0, 0), (1, 6, 0, 0), (1, 10, 0, 0), (1, 5, 0, 0), (1, 1, 0, 0), (2, 8, 0, 0), (1, 8, 5, 0), (2, 30, 0, 0)], [(2, 8, 0, 0), (2, 60, 0, 0), (2, 30, 0, 0), (2, 64, 0, 0), (2, 4, 0, 0), (0, 0, 0, 0), (0, 0, 0, 0), (0, 0, 0, 0), (0, 0, 0, 0), (2, 5, 0, 0), (2, 5, 0, 0), (2, 5, 0, 0), (2, 680, 0, 0), (0, 0, 0, 0), (2, 10, 0, 0), (2, 136, 0, 0), (2, 4, 0, 0), (0, 0, 0, 0), (0, 0, 0, 0), (2, 6, 0, 0), (0, 0, 0, 0), (2, 40, 0, 0), (2, 40, 0, 0), (2, 40, 0, 0), (2, 40, 0, 0), (0, 0, 0, 0), (0, 0, 0, 0), (0, 0, 0, 0), (2, 5, 0, 0), (2, 30, 0, 0), (2, 30, 0, 0), (2, 30, 0, 0), (2, 30, 0, 0), (2, 30, 0, 0), (2, 12, 0, 0), (2, 5, 0, 0), (2, 30, 0, 0), (2, 5, 0, 0), (2, 5, 0, 0), (2, 5, 0, 0), (2, 5, 0, 0), (2, 136, 0, 0), (0, 0, 0, 0), (2, 200, 0, 0), (2, 27200, 0, 0), (2, 1200, 0, 0), (0, 0, 0, 0)]]
/-- how many objects of each class there are -/
def gCnt : List Nat := [200, 1, 1, 5, 5, 1, 1, 1, 212, 205, 1, 1, 1]
def gF (f : Nat) : Nat × Nat × Nat × Nat := ((gN gT (f / 64)).bind (fun l => gN l (f % 64))).getD (9, 0, 0, 0)
def gA (k : Nat) : Nat × Nat × Nat × Nat := bif Nat.ble 1000 k then gF (k - 1000) else (9, 0, 0, 0)
def oGet (ci f : Nat) (t : Tg) : Op := fun m pl st S => match st with
  | .inr (.inr (some (k, i))) :: st => bif Nat.beq k ci then nx m t pl (.inl (S f i 0) :: st) S else none
  | _ => none
def oGetO (ci _f tk off : Nat) (t : Tg) : Op := fun m pl st S => match st with
  | .inr (.inr (some (k, i))) :: st => bif Nat.beq k ci then nx m t pl (.inr (.inr (some (tk, i + off))) :: st) S else none
  | _ => none
def oGetA (ci f : Nat) (t : Tg) : Op := fun m pl st S => match st with
  | .inr (.inr (some (k, i))) :: st => bif Nat.beq k ci then nx m t pl (.inr (.inr (some (1000 + f, i))) :: st) S else none
  | _ => none
def oPut (ci f : Nat) (t : Tg) : Op := fun m pl st S => match st with
  | .inl x :: .inr (.inr (some (k, i))) :: st => bif Nat.beq k ci then nx m t pl st (st_wr S f i 0 x) else none
  | _ => none
def isZ01 (x : Int32) : Bool := decide (x = 0) || decide (x = 1)
def oPutZ (ci f : Nat) (t : Tg) : Op := fun m pl st S => match st with
  | .inl x :: .inr (.inr (some (k, i))) :: st => bif Nat.beq k ci then some (.inr (.inl (isZ01 x, cf m t pl st (st_wr S f i 0 x), none))) else none
  | _ => none
def inb (x : Int32) (n : Nat) : Bool := !(decide (x < 0) || Nat.ble n x.toNatClampNeg)
def oIald (t : Tg) : Op := fun m pl st S => match st with
  | .inl x :: .inr (.inr (some (k, i))) :: st => bif Nat.beq (gA k).1 2 then some (.inr (.inl (inb x (gA k).2.1, cf m t pl (.inl (S (k - 1000) i x.toNatClampNeg) :: st) S, none))) else none
  | _ => none
def oZald (t : Tg) : Op := fun m pl st S => match st with
  | .inl x :: .inr (.inr (some (k, i))) :: st => bif Nat.beq (gA k).1 3 then some (.inr (.inl (inb x (gA k).2.1, cf m t pl (.inl (S (k - 1000) i x.toNatClampNeg) :: st) S, none))) else none
  | _ => none
def oAald (t : Tg) : Op := fun m pl st S => match st with
  | .inl x :: .inr (.inr (some (k, _i))) :: st => bif Nat.beq (gA k).1 4 then some (.inr (.inl (inb x (gA k).2.1, cf m t pl (.inr (.inr (some ((gA k).2.2.1, x.toNatClampNeg + (gA k).2.2.2))) :: st) S, none))) else none
  | _ => none
def oIast (t : Tg) : Op := fun m pl st S => match st with
  | .inl v :: .inl x :: .inr (.inr (some (k, i))) :: st => bif Nat.beq (gA k).1 2 then some (.inr (.inl (inb x (gA k).2.1, cf m t pl st (st_wr S (k - 1000) i x.toNatClampNeg v), none))) else none
  | _ => none
def oZast (t : Tg) : Op := fun m pl st S => match st with
  | .inl v :: .inl x :: .inr (.inr (some (k, i))) :: st => bif Nat.beq (gA k).1 3 then bif isZ01 v then some (.inr (.inl (inb x (gA k).2.1, cf m t pl st (st_wr S (k - 1000) i x.toNatClampNeg v), none))) else none else none
  | _ => none
def oAlen (t : Tg) : Op := fun m pl st S => match st with
  | .inr (.inr (some (k, _i))) :: st => bif Nat.ble 2 (gA k).1 && Nat.ble (gA k).1 4 then nx m t pl (.inl (Int32.ofNat (gA k).2.1) :: st) S else none
  | _ => none
def cpOk (n dp sp : Int32) (n0 n1 : Nat) : Bool := !(decide (sp < 0)) && (!(decide (dp < 0)) && (!(decide (n < 0)) && (Nat.ble (sp.toNatClampNeg + n.toNatClampNeg) n0 && Nat.ble (dp.toNatClampNeg + n.toNatClampNeg) n1)))
def wd (v : PV) : Nat := bif isL v then 2 else 1
def wds (st : List PV) : Nat := st.foldr (fun v n => wd v + n) 0
def oCopy (t : Tg) : Op := fun m pl st S => match st with
  | .inl n :: .inl dp :: .inr (.inr (some (k1, i1))) :: .inl sp :: .inr (.inr (some (k0, i0))) :: st => bif Nat.beq (gA k1).1 2 && (Nat.beq (gA k0).1 2 && Nat.ble (wds st) 8) then some (.inr (.inl (cpOk n dp sp (gA k0).2.1 (gA k1).2.1, cf m t pl st (st_up S (k1 - 1000) i1 (va_cpy (S (k0 - 1000) i0) (S (k1 - 1000) i1) sp.toNatClampNeg dp.toNatClampNeg n.toNatClampNeg)), none))) else none
  | _ => none
def oM2 (f : Int32 → Int32 → Int32) (t : Tg) : Op := fun m pl st S => match st with
  | .inl y :: .inl x :: st => bif Nat.ble (wds st) 8 then nx m t pl (.inl (f x y) :: st) S else none
  | _ => none
def oAbs (t : Tg) : Op := fun m pl st S => match st with
  | .inl x :: st => bif Nat.ble (wds st) 8 then nx m t pl (.inl (ab32 x) :: st) S else none
  | _ => none
def lay : List PV → Pl
  | [] => []
  | v :: l => bif isL v then some v :: none :: lay l else some v :: lay l
def pad : Nat → Pl → Pl
  | 0, l => l
  | n + 1, [] => none :: pad n []
  | n + 1, a :: l => a :: pad n l
def entry (m mL : Nat) (args : List PV) (S : St) : Cfg := (m, 0, pad mL (lay args), [], S)
def pushR (v : Option PV) (st : List PV) : List PV := v.elim st (fun v => v :: st)
/-- a call of a static method: its number, how many it is given, what it answers, its locals -/
def oCalS (m' n rty mL : Nat) (t : Tg) : Op := fun m pl st S =>
  bif Nat.beq (st.take n).length n && (Nat.ble (lay (st.take n).reverse).length mL && Nat.ble (wds (st.drop n)) 8) then some (.inr (.inr (.inr (.inr (rty, entry m' mL (st.take n).reverse S, fun v S' => cf m t pl (pushR v (st.drop n)) S'))))) else none
def oCalV (m' n kd rty mL : Nat) (t : Tg) : Op := fun m pl st S => match st.drop n with
  | .inr (.inr (some (k, i))) :: st' => bif Nat.beq (st.take n).length n && (Nat.beq k kd && (Nat.ble (lay (vR k i :: (st.take n).reverse)).length mL && Nat.ble (wds st') 8)) then some (.inr (.inr (.inr (.inr (rty, entry m' mL (vR k i :: (st.take n).reverse) S, fun v S' => cf m t pl (pushR v st') S'))))) else none
  | _ => none
def oRetV : Op := fun _ _ st S => match st with
  | [] => some (.inr (.inr (.inr (.inl (none, S)))))
  | _ => none
def oRetI : Op := fun _ _ st S => match st with
  | [.inl x] => some (.inr (.inr (.inr (.inl (some (.inl x), S)))))
  | _ => none
def oRetZ : Op := fun _ _ st S => match st with
  | [.inl x] => some (.inr (.inr (.inr (.inl (some (.inl (zn x)), S)))))
  | _ => none
def oRetR : Op := fun _ _ st S => match st with
  | [.inr (.inr o)] => some (.inr (.inr (.inr (.inl (some (.inr (.inr o)), S)))))
  | _ => none
