/-! what the class's methods answer and leave, in numbers: written after the Java, cell by cell -/
def rAt (n : Nat) (f : Nat → Int32) (i : Int32) : Int32 := if i < 0 then 0 else if i < nI n then f i.toNatClampNeg else 0
def rPut (n : Nat) (f : Nat → Int32) (i v : Int32) : Nat → Int32 := if i < 0 then f else if i < nI n then upd f i.toNatClampNeg v else f
def rAdd (n : Nat) (f : Nat → Int32) (i v : Int32) : Nat → Int32 := if i < 0 then f else if i < nI n then upd f i.toNatClampNeg (f i.toNatClampNeg + v) else f
def rSum (f : Nat → Int32) : Nat → Int32
  | 0 => 0
  | k + 1 => rSum f k + f k
def rFits (n : Nat) (i k : Int32) : Int32 := if i < 0 then 0 else if k < 0 then 0 else if nI n - k < i then 0 else 1
def fillF (f : Nat → Int32) (i j : Nat) (v : Int32) : Nat → Int32 := fun k => if i ≤ k ∧ k < j then v else f k
def rFill (n : Nat) (f : Nat → Int32) (i k v : Int32) : Nat → Int32 := if rFits n i k = 0 then f else fillF f i.toNatClampNeg (i + k).toNatClampNeg v
def rSlide (n : Nat) (f : Nat → Int32) (i j k : Int32) : Nat → Int32 := if rFits n i k = 0 then f else if rFits n j k = 0 then f else va_cpy f f i.toNatClampNeg j.toNatClampNeg k.toNatClampNeg
def oAt (r n : Nat) (σ : St) (i : Int32) : Int32 := rAt n (σ.1 r) i
def oPut (r n : Nat) (σ : St) (i v : Int32) : St := rput σ r (rPut n (σ.1 r) i v)
def oAdd (r n : Nat) (σ : St) (i v : Int32) : St := rput σ r (rAdd n (σ.1 r) i v)
def oFill (r n : Nat) (σ : St) (i k v : Int32) : St := rput σ r (rFill n (σ.1 r) i k v)
def oSlide (r n : Nat) (σ : St) (i j k : Int32) : St := rput σ r (rSlide n (σ.1 r) i j k)
-- ports
def pUp (σ : St) (p : Int32) : Int32 := if oAt 1 8 σ p = 1 then 1 else 0
def pOpen (σ : St) (p : Int32) : Int32 := if oAt 1 8 σ p = 1 then (if oAt 2 8 σ p = 0 then 1 else 0) else 0
def pTurn (σ : St) (p up : Int32) : St := oPut 1 8 σ p (if up = 0 then 0 else 1)
def pOnes (σ : St) : Nat → Int32
  | 0 => 0
  | k + 1 => if pOpen σ (nI k) = 0 then pOnes σ k else pOnes σ k ||| ((1 : Int32) <<< (nI k &&& 31))
def pBegin (σ : St) (p sec why : Int32) : St := oPut 3 8 (oPut 2 8 σ p sec) p why
def pEnd (σ : St) (p : Int32) : St := oPut 2 8 σ p 0
def pQuar (σ : St) : Nat → Int32
  | 0 => 0
  | k + 1 => if 0 < oAt 2 8 σ (nI k) then pQuar σ k + 1 else pQuar σ k
def pFar (σ : St) (p : Int32) : Int32 := oAt 4 8 σ p
def pTie (σ : St) (p q : Int32) : St := oPut 4 8 (oPut 4 8 σ p q) q p
def pUntie (σ : St) (p q : Int32) : St := oPut 4 8 (oPut 4 8 σ p (-4)) q (-4)
def pCab (σ : St) : Nat → Int32
  | 0 => 0
  | k + 1 => if oAt 4 8 σ (nI k) = -4 then pCab σ k else pCab σ k + 1
def pCredit (σ : St) (p w v : Int32) : St := oAdd 6 88 σ (p * 11 + w) v
def pCredited (σ : St) (p w : Int32) : Int32 := oAt 6 88 σ (p * 11 + w)
def pAll (σ : St) : Nat → Int32
  | 0 => 0
  | k + 1 => pAll σ k + pCredited σ (nI k) 0
def pDec (σ : St) : Nat → St
  | 0 => σ
  | k + 1 => if 0 < oAt 2 8 (pDec σ k) (nI k) then oAdd 2 8 (pDec σ k) (nI k) (-1) else pDec σ k
def pEndSec (σ : St) : St := oFill 5 8 (pDec σ 8) 0 8 0
-- queues
def qCell (p k : Int32) : Int32 := (p * 12 + k) * 4
def qPart (σ : St) (p k w : Int32) : Int32 := oAt 8 384 σ (qCell p k + w)
def qFull (σ : St) (p : Int32) : Int32 := if oAt 7 8 σ p < 12 then 0 else 1
def qSlot (σ : St) (p pr : Int32) : Nat → Int32
  | 0 => 0
  | n + 1 => if qPart σ p (nI (n + 1) - 1) 2 < pr then qSlot σ p pr n else nI (n + 1)
def qPlace (σ : St) (p pr : Int32) : Int32 := if 0 < oAt 7 8 σ p then qSlot σ p pr (oAt 7 8 σ p).toNatClampNeg else oAt 7 8 σ p
def qWrite (σ : St) (c s d pr num : Int32) : St := oPut 8 384 (oPut 8 384 (oPut 8 384 (oPut 8 384 σ (c + 0) s) (c + 1) d) (c + 2) pr) (c + 3) num
def qIns (σ : St) (p s d pr num : Int32) : St :=
  oPut 7 8 (qWrite (oSlide 8 384 σ (qCell p (qPlace σ p pr)) (qCell p (qPlace σ p pr) + 4) ((oAt 7 8 σ p - qPlace σ p pr) * 4)) (qCell p (qPlace σ p pr)) s d pr num) p (oAt 7 8 σ p + 1)
def qRem (σ : St) (p k : Int32) : St := oPut 7 8 (oSlide 8 384 σ (qCell p k) (qCell p 0) ((oAt 7 8 σ p - k) * 4)) p (oAt 7 8 σ p - k)
-- table
def tPort (σ : St) (a : Int32) : Int32 := oAt 9 100 σ a
def tRemove (σ : St) (a : Int32) : St := sput (oPut 9 100 σ a (-4)) 3 (σ.2 3 - 1)
def tOldest (σ : St) : Nat → Int32
  | 0 => 0
  | k + 1 => if oAt 9 100 σ (nI (k + 1)) = -4 then tOldest σ k else if tOldest σ k = 0 then nI (k + 1) else if oAt 10 100 σ (nI (k + 1)) < oAt 10 100 σ (tOldest σ k) then nI (k + 1) else tOldest σ k
def tRoom (σ : St) : St := if σ.2 3 < 20 then sput σ 3 (σ.2 3 + 1) else sput (tRemove σ (tOldest σ 99)) 3 ((tRemove σ (tOldest σ 99)).2 3 + 1)
def tLearn (σ : St) (a p t : Int32) : St := if oAt 9 100 σ a = -4 then oPut 10 100 (oPut 9 100 (tRoom σ) a p) a t else oPut 10 100 (oPut 9 100 σ a p) a t
def tRemAll (σ : St) (p : Int32) : Nat → St
  | 0 => σ
  | k + 1 => if oAt 9 100 (tRemAll σ p k) (nI (k + 1)) = p then tRemove (tRemAll σ p k) (nI (k + 1)) else tRemAll σ p k
def tUntil (σ : St) (t : Int32) : Nat → St
  | 0 => σ
  | k + 1 => if oAt 9 100 (tUntil σ t k) (nI (k + 1)) = -4 then tUntil σ t k else if t < oAt 10 100 (tUntil σ t k) (nI (k + 1)) then tUntil σ t k else tRemove (tUntil σ t k) (nI (k + 1))
def tWith (σ : St) (p : Int32) : Nat → Int32
  | 0 => 0
  | k + 1 => if oAt 9 100 σ (nI (k + 1)) = p then tWith σ p k + 1 else tWith σ p k
/-- the address of an entry: from the address k on (k + n = 100), so many entries before it -/
def tAddr (σ : St) (x : Int32) : Nat → Nat → Int32 → Int32
  | 0, _, _ => -4
  | n + 1, k, b => if oAt 9 100 σ (nI k) = -4 then tAddr σ x n (k + 1) b else if b = x then nI k else tAddr σ x n (k + 1) (b + 1)
-- moves
def mSec (c : Int32) : Int32 := (c - c / 10 * 10) * 100
def mAdd (σ : St) (a c : Int32) : St := oAdd 11 1000 σ (mSec c + a) 1
def mLate (σ : St) (a : Int32) : Nat → Int32
  | 0 => 0
  | k + 1 => mLate σ a k + oAt 11 1000 σ (nI k * 100 + a)
def mBegin (σ : St) (c : Int32) : St := oFill 11 1000 σ (mSec c) 100 0
-- a state
def sDrop (σ : St) (p : Int32) : St := pCredit (qRem σ p (oAt 7 8 σ p)) p 8 (oAt 7 8 σ p)
def sQuar (σ : St) (p why : Int32) : St := sput (tRemAll (pBegin σ p (oAt 0 4 σ 1) why) p 99) 2 ((tRemAll (pBegin σ p (oAt 0 4 σ 1) why) p 99).2 2 + 1)
def sDec (σ : St) (p d : Int32) : Int32 × St :=
  if tPort σ d = p then (1, σ) else if tPort σ d = -4 then (if oAt 5 8 σ p < oAt 0 4 σ 2 then (3, oAdd 5 8 σ p 1) else (5, sQuar σ p 2)) else if pOpen σ (tPort σ d) = 0 then (6, σ) else (2, σ)
def sMoved (σ : St) (p s d : Int32) : Int32 × St := if mLate σ s 10 < 3 then sDec σ p d else (4, sQuar σ p 1)
def sLD (σ : St) (p s d : Int32) : Int32 × St :=
  if pOpen σ p = 0 then (0, σ) else if tPort σ s = -4 then sDec (tLearn σ s p (σ.2 0)) p d else if tPort σ s = p then sDec (tLearn σ s p (σ.2 0)) p d else sMoved (mAdd (tLearn σ s p (σ.2 0)) s ((tLearn σ s p (σ.2 0)).2 0)) p s d
def sWaysOut (σ : St) (fate p d : Int32) : Int32 := if fate = 2 then (1 : Int32) <<< (tPort σ d &&& 31) else if fate = 3 then pOnes σ 8 &&& (((1 : Int32) <<< (p &&& 31)) ^^^ (-1)) else 0
def sOut (σ : St) (p s d pr : Int32) : St :=
  if qFull σ p = 0 then sput (pCredit (qIns σ p s d pr (σ.2 1)) p 7 1) 1 ((pCredit (qIns σ p s d pr (σ.2 1)) p 7 1).2 1 + 1) else pCredit σ p 8 1
def sGo (σ : St) (ways s d pr : Int32) : Nat → St
  | 0 => σ
  | k + 1 => if (ways >>> (nI k &&& 31)) &&& 1 = 1 then sOut (sGo σ ways s d pr k) (nI k) s d pr else sGo σ ways s d pr k
def sAcc (fate : Int32) : Int32 := if fate = 6 then 6 else if fate = 4 then 5 else if fate = 5 then 5 else fate + 1
def sCome (σ : St) (p s d pr : Int32) : Int32 × St :=
  ((sLD σ p s d).1, pCredit (pCredit (sGo (sLD σ p s d).2 (sWaysOut (sLD σ p s d).2 (sLD σ p s d).1 p d) s d pr 8) p 0 1) p (sAcc (sLD σ p s d).1) 1)
def sTick (σ : St) : St := pEndSec (sput σ 0 (σ.2 0 + 1))
def sEnd (σ : St) : St := mBegin (tUntil (sTick σ) ((sTick σ).2 0 - oAt 0 4 (sTick σ) 0) 99) ((tUntil (sTick σ) ((sTick σ).2 0 - oAt 0 4 (sTick σ) 0) 99).2 0)
def bitC (x : Int32) : Int32 :=
  let a := x - ((x.toUInt32 >>> ((1 : Int32).toUInt32 &&& Int32.toUInt32 31)).toInt32 &&& 1431655765)
  let b := (a &&& 858993459) + ((a.toUInt32 >>> ((2 : Int32).toUInt32 &&& Int32.toUInt32 31)).toInt32 &&& 858993459)
  let c := (b + (b.toUInt32 >>> ((4 : Int32).toUInt32 &&& Int32.toUInt32 31)).toInt32) &&& 252645135
  let d := c + (c.toUInt32 >>> ((8 : Int32).toUInt32 &&& Int32.toUInt32 31)).toInt32
  let e := d + (d.toUInt32 >>> ((16 : Int32).toUInt32 &&& Int32.toUInt32 31)).toInt32
  e &&& 63
def xPut (S : Sy) (i v : Int32) : Sy := xar S 1 (rPut 384 (S.2.2 1) i v)
