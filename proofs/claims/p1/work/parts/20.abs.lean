/-! RUNS WITH UNKNOWN INTS: '.retAddr k' stands for any int of an interval that k tells; an array whose elements are unknown is '.inr (100 + kind, [.ref length])'. The kernel runs these; part 21 says what they mean. -/
/-- 2 ^ 70: above it the number of an unknown that has one (0: none) -/
def aI0 : Nat := 1180591620717411303424
def aId (k : Nat) : Nat := k / aI0
def aLo (k : Nat) : Int := ((k % aI0) / 8589934592 : Nat) - 4294967296
def aHi (k : Nat) : Int := ((k % aI0) % 8589934592 : Nat) - 4294967296
/-- the interval from lo to hi -/
def aK (lo hi : Int) : Nat := (lo + 4294967296).toNat * 8589934592 + (hi + 4294967296).toNat
def aT : Nat := aK (-2147483648) 2147483647
def aVlo (v : Value) : Option Int := match v with
  | .int x => some x.toInt
  | .retAddr k => some (aLo k)
  | _ => none
def aVhi (v : Value) : Option Int := match v with
  | .int x => some x.toInt
  | .retAddr k => some (aHi k)
  | _ => none
def aIsI (v : Value) : Bool := match v with
  | .int _ => true
  | .retAddr _ => true
  | _ => false
/-- a comparison of intervals: decided, or none -/
def aCnd (q : ClassFile.Cond) (l1 h1 l2 h2 : Int) : Option Bool := match q with
  | .eq => bif decide (h1 < l2) || decide (h2 < l1) then some false else bif decide (l1 = h1) && (decide (l2 = h2) && decide (l1 = l2)) then some true else none
  | .ne => bif decide (h1 < l2) || decide (h2 < l1) then some true else bif decide (l1 = h1) && (decide (l2 = h2) && decide (l1 = l2)) then some false else none
  | .lt => bif decide (h1 < l2) then some true else bif decide (h2 ≤ l1) then some false else none
  | .ge => bif decide (h2 ≤ l1) then some true else bif decide (h1 < l2) then some false else none
  | .gt => bif decide (h2 < l1) then some true else bif decide (h1 ≤ l2) then some false else none
  | .le => bif decide (h1 ≤ l2) then some true else bif decide (h2 < l1) then some false else none
/-- what is known of two numbered unknowns: 1 is below 2; 4 isn't below 3 -/
def aRel (q : ClassFile.Cond) (i j : Nat) : Option Bool := match q, i, j with
  | .lt, 1, 2 => some true
  | .ge, 1, 2 => some false
  | .lt, 4, 3 => some false
  | .ge, 4, 3 => some true
  | _, _, _ => none
def aIdv (v : Value) : Nat := match v with
  | .retAddr k => aId k
  | _ => 0
def aCmp (q : ClassFile.Cond) (a b : Value) : Option Bool := match a, b with
  | .int x, .int y => some (mzCnd q x y)
  | _, _ => (match aVlo a, aVhi a, aVlo b, aVhi b with
    | some l1, some h1, some l2, some h2 => (match aCnd q l1 h1 l2 h2 with
      | some t => some t
      | none => aRel q (aIdv a) (aIdv b))
    | _, _, _, _ => none)
noncomputable def aIld (i : Nat) (k : mzK) : mzK := fun lv st H c s => match mzGet i lv with
  | some v => bif aIsI v then k lv (v :: st) H c s else none
  | _ => none
noncomputable def aIst (n i : Nat) (k : mzK) : mzK := fun lv st H c s => match st with
  | v :: r => bif aIsI v && Nat.blt i n then k (mzSt1 i v lv) r H c s else none
  | _ => none
noncomputable def aInc (n i : Nat) (d : Int) (k : mzK) : mzK := fun lv st H c s => match mzGet i lv with
  | some (.int v) => bif Nat.blt i n then k (mzSt1 i (.int (v + Int32.ofInt d)) lv) st H c s else none
  | some (.retAddr _) => bif Nat.blt i n then k (mzSt1 i (.retAddr aT) lv) st H c s else none
  | _ => none
def aI2 (g : Int32 → Int32 → Int32) (k : mzK) : mzK := fun lv st H c s => match st with
  | .int b :: .int a :: r => k lv (.int (g a b) :: r) H c s
  | b :: a :: r => bif aIsI a && aIsI b then k lv (.retAddr aT :: r) H c s else none
  | _ => none
def aI2b (k : mzK) : mzK := fun lv st H c s => match st with
  | .int a :: r => k lv (.int a.toInt8.toInt32 :: r) H c s
  | .retAddr _ :: r => k lv (.retAddr aT :: r) H c s
  | _ => none
def aIf (q : ClassFile.Cond) (kt kf : mzK) : mzK := fun lv st H c s => match st with
  | a :: r => (match aCmp q a (.int 0) with
    | some true => kt lv r H c s
    | some false => kf lv r H c s
    | none => none)
  | _ => none
def aIf2 (q : ClassFile.Cond) (kt kf : mzK) : mzK := fun lv st H c s => match st with
  | b :: a :: r => (match aCmp q a b with
    | some true => kt lv r H c s
    | some false => kf lv r H c s
    | none => none)
  | _ => none
noncomputable def aSw (lo hi : Int) (ts : List Nat) (kd : mzK) (kt : Nat → mzK) : mzK := fun lv st H c s => match st with
  | .int a :: r => bif decide (a.toInt < lo) || decide (hi < a.toInt) then kd lv r H c s else (match mzNq ts (a.toInt - lo).toNat with
    | some b => kt b lv r H c s
    | none => none)
  | .retAddr m :: r => bif decide (aHi m < lo) || decide (hi < aLo m) then kd lv r H c s else none
  | _ => none
def aFit (t : Nat) (v : Value) : Bool := match t, v with
  | 0, .retAddr _ => true
  | _, _ => mzFit t v
noncomputable def aPf (ci f t : Nat) (k : mzK) : mzK := fun lv st H c s => match st with
  | v :: .ref a :: r => (match mzNq H a with
    | some (.inr (d, fs)) => bif Nat.blt d 100 && (Nat.beq d ci && (Nat.blt f fs.length && aFit t v)) then mzSetK fs f v (fun gs => mzSetK H a (.inr (d, gs)) (fun G => k lv r G c s)) else none
    | _ => none)
  | _ => none
noncomputable def aGf (ci f : Nat) (k : mzK) : mzK := fun lv st H c s => match st with
  | .ref a :: r => (match mzNq H a with
    | some (.inr (d, fs)) => bif Nat.blt d 100 && Nat.beq d ci then (match mzNq fs f with
      | some v => k lv (v :: r) H c s
      | none => none) else none
    | _ => none)
  | _ => none
/-- all elements are one -/
def aAll : List Int32 → Option Int32
  | [] => none
  | x :: l => bif l.all (fun y => decide (y = x)) then some x else none
noncomputable def aAl (b : Bool) (k : mzK) : mzK := fun lv st H c s => match st with
  | .int i :: .ref a :: r => (match mzNq H a with
    | some (.inl (d, l)) => bif Bool.xor b (Nat.beq d 0) then (match mzIx l i with
      | some v => k lv (.int v :: r) H c s
      | none => none) else none
    | some (.inr (d, [.ref n])) => bif Nat.ble 100 d && (Bool.xor b (Nat.beq (d - 100) 0) && (decide (0 ≤ i.toInt) && decide (i.toInt < n))) then k lv (.retAddr aT :: r) H c s else none
    | _ => none)
  | .retAddr m :: .ref a :: r => (match mzNq H a with
    | some (.inl (d, l)) => bif Bool.xor b (Nat.beq d 0) && (decide (0 ≤ aLo m) && decide (aHi m < l.length)) then (match aAll l with
      | some v => k lv (.int v :: r) H c s
      | none => none) else none
    | _ => none)
  | _ => none
noncomputable def aAs (b : Bool) (k : mzK) : mzK := fun lv st H c s => match st with
  | x :: .int i :: .ref a :: r => (match mzNq H a with
    | some (.inl (d, l)) => bif Bool.xor b (Nat.beq d 0) && (Nat.ble d 2 && (decide (0 ≤ i.toInt) && decide (i.toInt < l.length))) then (match x with
      | .int v => mzSetK l (mzN i) (vp_nar (mzTy d) v) (fun m => mzSetK H a (.inl (d, m)) (fun G => k lv r G c s))
      | .retAddr _ => mzSetK H a (.inr (100 + d, [.ref l.length])) (fun G => k lv r G c s)
      | _ => none) else none
    | some (.inr (d, [.ref n])) => bif Nat.ble 100 d && (aIsI x && (Bool.xor b (Nat.beq (d - 100) 0) && (decide (0 ≤ i.toInt) && decide (i.toInt < n)))) then k lv r H c s else none
    | _ => none)
  | _ => none
noncomputable def aRcv (na ci : Nat) (st : List Value) (H : mzH) : Bool := match mzNq st (na - 1) with
  | some (.ref a) => (match mzNq H a with
    | some (.inr (d, _)) => Nat.beq d ci && Nat.blt d 100
    | _ => false)
  | _ => false
def aIret (b : Nat) : mzK := fun _ st H _ _ => match st with
  | [.int v] => (match b with
    | 0 => some (some (.int v), H)
    | _ => bif decide (v = 0) || decide (v = 1) then some (some (.int v), H) else none)
  | [.retAddr m] => (match b with
    | 0 => some (some (.retAddr m), H)
    | _ => none)
  | _ => none
noncomputable def ahIload (i : Nat) : mzHd := fun ih nL bl x y ts r => aIld i (ih nL bl r)
noncomputable def ahIstore (i : Nat) : mzHd := fun ih nL bl x y ts r => aIst nL i (ih nL bl r)
noncomputable def ahIinc (i : Nat) (d : Int) : mzHd := fun ih nL bl x y ts r => aInc nL i d (ih nL bl r)
noncomputable def ahI2 (g : Int32 → Int32 → Int32) : mzHd := fun ih nL bl x y ts r => aI2 g (ih nL bl r)
noncomputable def ahI2b : mzHd := fun ih nL bl x y ts r => aI2b (ih nL bl r)
noncomputable def ahIf (q : ClassFile.Cond) : mzHd := fun ih nL bl x y ts r => aIf q (ih nL bl (mzBlk bl x)) (ih nL bl r)
noncomputable def ahIf2 (q : ClassFile.Cond) : mzHd := fun ih nL bl x y ts r => aIf2 q (ih nL bl (mzBlk bl x)) (ih nL bl r)
noncomputable def ahSw (lo hi : Int) : mzHd := fun ih nL bl x y ts r => aSw lo hi ts (ih nL bl (mzBlk bl x)) (fun b => ih nL bl (mzBlk bl b))
noncomputable def ahGf : mzHd := fun ih nL bl x y ts r => (match ts with | [_] => aGf x y (ih nL bl r) | _ => mzNo)
noncomputable def ahPf : mzHd := fun ih nL bl x y ts r => (match ts with | [t] => aPf x y t (ih nL bl r) | _ => mzNo)
noncomputable def ahAl (b : Bool) : mzHd := fun ih nL bl x y ts r => aAl b (ih nL bl r)
noncomputable def ahAs (b : Bool) : mzHd := fun ih nL bl x y ts r => aAs b (ih nL bl r)
noncomputable def ahInvV : mzHd := fun ih nL bl x y ts r => (match ts with | [na, mc, ms] => mzInv (aRcv na y) (zN x) (ih (zN x) (zB x) (mzBlk (zB x) 0)) na mc ms (ih nL bl r) | _ => mzNo)
noncomputable def ahIret : mzHd := fun ih nL bl x y ts r => aIret x
noncomputable def aSem (i : Instr) : mzHd := @Instr.rec (fun _ => mzHd)
  mhNo
  mhNo
  mhNo
  (fun k => (mh_aload k))
  (fun k => (mh_aload_n k))
  (fun _ => mhNo)
  mh_areturn
  mh_arraylength
  (fun k => (mh_astore k))
  (fun k => (mh_astore_n k))
  mhNo
  (ahAl true)
  (ahAs true)
  (fun n => (mh_bipush n))
  mhNo
  mhNo
  (fun _ => mhNo)
  mhNo
  mhNo
  mhNo
  mhNo
  mhNo
  mhNo
  (fun _ => mhNo)
  (fun _ => mhNo)
  mhNo
  (fun _ => mhNo)
  (fun _ => mhNo)
  mhNo
  mhNo
  mhNo
  mhNo
  (fun _ => mhNo)
  (fun _ => mhNo)
  mhNo
  mh_dup
  mhNo
  mhNo
  mh_dup2
  mhNo
  mhNo
  mhNo
  mhNo
  mhNo
  mhNo
  mhNo
  mhNo
  (fun _ => mhNo)
  (fun _ => mhNo)
  mhNo
  (fun _ => mhNo)
  (fun _ => mhNo)
  mhNo
  mhNo
  mhNo
  mhNo
  (fun _ => mhNo)
  (fun _ => mhNo)
  mhNo
  (fun _ => ahGf)
  (fun _ => mhNo)
  (fun _ => mh_goto)
  (fun _ => mhNo)
  ahI2b
  mhNo
  mhNo
  mhNo
  mhNo
  mhNo
  (ahI2 (fun a b => a + b))
  (ahAl false)
  (ahI2 (fun a b => a &&& b))
  (ahAs false)
  (fun n => (mh_iconst n))
  mhNo
  (fun _ _ => mhNo)
  (fun q _ => (ahIf2 q))
  (fun q _ => (ahIf q))
  (fun _ => mhNo)
  (fun _ => mhNo)
  (fun k d => (ahIinc k d))
  (fun k => (ahIload k))
  (fun k => (ahIload (k : Nat)))
  (ahI2 (fun a b => a * b))
  mhNo
  (fun _ => mhNo)
  (fun _ => mhNo)
  (fun _ _ => mhNo)
  (fun _ => mhNo)
  (fun _ => mh_invokestatic)
  (fun _ => ahInvV)
  (ahI2 (fun a b => a ||| b))
  mh_irem
  ahIret
  (ahI2 (fun a b => a <<< (b &&& 31)))
  (ahI2 (fun a b => a >>> (b &&& 31)))
  (fun k => (ahIstore k))
  (fun k => (ahIstore (k : Nat)))
  (ahI2 (fun a b => a - b))
  (ahI2 (fun a b => (a.toUInt32 >>> (b.toUInt32 &&& Int32.toUInt32 31)).toInt32))
  mhNo
  (fun _ => mhNo)
  (fun _ => mhNo)
  mhNo
  mhNo
  mhNo
  mhNo
  mhNo
  mh_land
  mhNo
  mh_lcmp
  (fun n => (mh_lconst n))
  (fun _ => mh_ldc)
  (fun _ => mhNo)
  (fun _ => mhNo)
  mhNo
  (fun k => (mh_lload k))
  (fun k => (mh_lload_n k))
  mhNo
  mhNo
  (fun _ _ => mhNo)
  mh_lor
  mhNo
  mh_lreturn
  mhNo
  mhNo
  (fun k => (mh_lstore k))
  (fun k => (mh_lstore_n k))
  mhNo
  mh_lushr
  mhNo
  mhNo
  mhNo
  (fun _ _ => mhNo)
  (fun _ => mhNo)
  (fun _ => mhNo)
  mh_nop
  mh_pop
  mhNo
  (fun _ => ahPf)
  (fun _ => mhNo)
  (fun _ => mhNo)
  mh_return_
  mhNo
  mhNo
  (fun n => (mh_sipush n))
  mhNo
  (fun _ lo hi _ => (ahSw lo hi))
  i
noncomputable def aStp (ih : Nat → mzB → List mzO → mzK) (nL : Nat) (bl : mzB) (ops : List mzO) : mzK :=
  match ops with
  | [] => mzNo
  | (_, i, x, y, ts) :: r => aSem i ih nL bl x y ts r
noncomputable def aEx (f : Nat) : Nat → mzB → List mzO → mzK :=
  Nat.rec (fun _ _ _ => mzNo) (fun _ ih => aStp ih) f
