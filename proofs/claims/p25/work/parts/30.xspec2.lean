/-! the whole class in numbers: arrivals, text, history, and the calls -/
theorem xst_st2 {D : DD} {h : HF} {b i : Nat} {S : Sy} {τ υ : St} (hi : i < 7) : hput D (xput D h b (xst S i τ)) (b + xoff i) υ = xput D h b (xst S i υ) := by
  rw [xst_st hi]
  congr 1
  unfold xst
  dsimp only
  congr 1
  funext j
  by_cases c : j = i
  · rw [if_pos c, if_pos c]
  · rw [if_neg c, if_neg c, if_neg c]
theorem xst_self {S : Sy} {i : Nat} : xst S i (S.1 i) = S := by
  unfold xst
  have e : (fun j => if j = i then S.1 i else S.1 j) = S.1 := by
    funext j
    by_cases c : j = i
    · rw [if_pos c, c]
    · rw [if_neg c]
  rw [e]
theorem cl_lt {x : Int32} {k : Nat} (h : k < x.toNatClampNeg) : nI k < x := by
  have hb := fb_rng' x
  have hx : x.toNatClampNeg = x.toInt.toNat := rfl
  rw [Int32.lt_iff_toInt_lt, nI_toInt (by omega)]
  omega
theorem cl_nlt (x : Int32) : ¬ nI x.toNatClampNeg < x := by
  have hb := fb_rng' x
  have hx : x.toNatClampNeg = x.toInt.toNat := rfl
  rw [Int32.lt_iff_toInt_lt, nI_toInt (by omega)]
  omega
theorem sw_out (n : Nat) (hn : n < 1000) {x : Int32} (h : ∀ k, k < n → ¬ x = nI k) : x.toInt < 0 ∨ (n : Int) - 1 < x.toInt := by
  rcases Int.lt_or_le x.toInt 0 with q | q
  · exact Or.inl q
  · refine Or.inr ?_
    rcases Int.lt_or_le ((n : Int) - 1) x.toInt with q2 | q2
    · exact q2
    · exfalso
      refine h x.toInt.toNat (by omega) ?_
      apply Int32.toInt_inj.mp
      rw [nI_toInt (by omega)]
      omega
theorem cx_r {l : Launch} {y : MethodName} {b : ByteArray} {n : Nat} {ret : Option FieldType} {fr lo : Nat} {as : List Value} {D : DD} {B z : Nat} {h h' : HF} (r : Int32) (c : CT l y b n ret fr lo as D B z h (some (.int r)) 0 0 h') : CT l y b n ret fr lo as D B z h (some (.int r)) 0 0 h' := c
-- arrivals
def xApp4 (S : Sy) (c p s d pr : Int32) : Sy := xPut (xPut (xPut (xPut S (c + 0) s) (c + 1) d) (c + 2) pr) (c + 3) p
def xApp (S : Sy) (p s d pr : Int32) : Sy := if S.2.1 5 < 96 then xsc (xApp4 S (S.2.1 5 * 4) p s d pr) 5 ((xApp4 S (S.2.1 5 * 4) p s d pr).2.1 5 + 1) else S
def xPart (S : Sy) (k w : Int32) : Int32 := rAt 384 (S.2.2 1) (k * 4 + w)
-- what comes in, what is sent
def xLet (S : Sy) : Nat → Int32 × St
  | 0 => (0, S.1 0)
  | k + 1 => (if (sCome (xLet S k).2 (xPart S (nI k) 3) (xPart S (nI k) 0) (xPart S (nI k) 1) (xPart S (nI k) 2)).1 = 0 then (xLet S k).1 else (xLet S k).1 + 1, (sCome (xLet S k).2 (xPart S (nI k) 3) (xPart S (nI k) 0) (xPart S (nI k) 1) (xPart S (nI k) 2)).2)
def xLetIn (S : Sy) : Int32 × Sy := ((xLet S (S.2.1 5).toNatClampNeg).1, xst S 0 (xLet S (S.2.1 5).toNatClampNeg).2)
def fFrames (σ : St) (p : Int32) : Int32 := if oAt 7 8 σ p < oAt 0 4 σ 3 then oAt 7 8 σ p else oAt 0 4 σ 3
def xSL (S : Sy) (p q : Int32) : Nat → Sy
  | 0 => S
  | k + 1 => xApp (xSL S p q k) q (qPart ((xSL S p q k).1 0) p (nI k) 0) (qPart ((xSL S p q k).1 0) p (nI k) 1) (qPart ((xSL S p q k).1 0) p (nI k) 2)
def xSN (q f : Int32) : Nat := if q = -4 then 0 else f.toNatClampNeg
def xS1 (S : Sy) (p q f : Int32) : Sy := xSL S p q (xSN q f)
def xS2 (S : Sy) (p f : Int32) : Sy := xst S 0 (pCredit (qRem (S.1 0) p f) p 9 f)
def xS3 (S : Sy) (p q f : Int32) : Sy := if q = -4 then xst S 0 (pCredit (S.1 0) p 10 f) else S
def xSend (S : Sy) (p : Int32) : Int32 × Sy := (fFrames (S.1 0) p, xS3 (xS2 (xS1 S p (pFar (S.1 0) p) (fFrames (S.1 0) p)) p (fFrames (S.1 0) p)) p (pFar (S.1 0) p) (fFrames (S.1 0) p))
def xSendK (S : Sy) : Nat → Int32 × Sy
  | 0 => (0, xsc S 5 0)
  | k + 1 => if pOpen ((xSendK S k).2.1 0) (nI k) = 0 then xSendK S k else ((xSendK S k).1 + (xSend (xSendK S k).2 (nI k)).1, (xSend (xSendK S k).2 (nI k)).2)
-- the text
def tSign (S : Sy) (i : Int32) : Int32 := if i < 0 then -1 else if i < S.2.1 3 then (if i < 70 then S.2.2 0 i.toNatClampNeg else -1) else -1
def tAppend (S : Sy) (c : Int32) : Int32 × Sy :=
  if S.2.1 3 < 0 then (0, S) else if S.2.1 3 < 70 then (1, xsc (xar S 0 (upd (S.2.2 0) (S.2.1 3).toNatClampNeg (vp_nar .char c))) 3 (S.2.1 3 + 1)) else (0, S)
def tSkip (S : Sy) (c : Int32) : Int32 × Sy := if tSign S (S.2.1 4) = c then (1, xsc S 4 (S.2.1 4 + 1)) else (0, S)
def tDigit (S : Sy) (lo hi : Int32) : Int32 × Sy :=
  if tSign S (S.2.1 4) - 48 < lo then (-4, S) else if hi < tSign S (S.2.1 4) - 48 then (-4, S) else (tSign S (S.2.1 4) - 48, xsc S 4 (S.2.1 4 + 1))
def tAddress (S : Sy) : Int32 × Sy :=
  if (tDigit S 1 9).1 = -4 then (-4, (tDigit S 1 9).2) else if (tDigit (tDigit S 1 9).2 0 9).1 = -4 then ((tDigit S 1 9).1, (tDigit (tDigit S 1 9).2 0 9).2) else ((tDigit S 1 9).1 * 10 + (tDigit (tDigit S 1 9).2 0 9).1, (tDigit (tDigit S 1 9).2 0 9).2)
def tF5 (S : Sy) (s d pr : Int32) : Int32 × Sy := if (tDigit S 0 7).1 = -4 then (0, (tDigit S 0 7).2) else (1, xApp (tDigit S 0 7).2 (tDigit S 0 7).1 s d pr)
def tF4b (S : Sy) (s d pr : Int32) : Int32 × Sy := if (tSkip S 64).1 = 0 then (0, (tSkip S 64).2) else tF5 (tSkip S 64).2 s d pr
def tF4 (S : Sy) (s d pr : Int32) : Int32 × Sy := if pr = -4 then (0, S) else tF4b S s d pr
def tF3b (S : Sy) (s d : Int32) : Int32 × Sy := if (tSkip S 33).1 = 0 then tF4b (tSkip S 33).2 s d 0 else tF4 (tDigit (tSkip S 33).2 0 3).2 s d (tDigit (tSkip S 33).2 0 3).1
def tF3 (S : Sy) (s d : Int32) : Int32 × Sy := if d = -4 then (0, S) else tF3b S s d
def tF2 (S : Sy) (s : Int32) : Int32 × Sy := if (tSkip S 42).1 = 0 then tF3 (tAddress (tSkip S 42).2).2 s (tAddress (tSkip S 42).2).1 else tF3b (tSkip S 42).2 s 0
def tFrame (S : Sy) : Int32 × Sy :=
  if (tAddress S).1 = -4 then (0, (tAddress S).2) else if (tSkip (tAddress S).2 62).1 = 0 then (0, (tSkip (tAddress S).2 62).2) else tF2 (tSkip (tAddress S).2 62).2 (tAddress S).1
def tInto : Nat → Nat → Sy → Int32 × Sy
  | 0, _, S => (S.2.1 4, S)
  | n + 1, k, S => if S.2.1 3 < nI k then (S.2.1 4, S) else if (tFrame S).1 = 0 then ((tFrame S).2.2.1 4, (tFrame S).2) else if (tFrame S).2.2.1 4 = (tFrame S).2.2.1 3 then (-1, (tFrame S).2)
    else if (tSkip (tFrame S).2 59).1 = 0 then ((tSkip (tFrame S).2 59).2.2.1 4, (tSkip (tFrame S).2 59).2) else tInto n (k + 1) (tSkip (tFrame S).2 59).2
def tRead (S : Sy) : Int32 × Sy := tInto 72 0 (xsc (xsc S 5 0) 4 0)
-- history
def rem4 (x : Int32) : Int32 := x - x / 4 * 4
def xRec (nx : Nat) (S : Sy) : Sy := xsc (xsc (xst S (3 + nx) (S.1 0)) 1 (rem4 (S.2.1 1 + 1))) 2 (if 4 < S.2.1 2 + 1 then 4 else S.2.1 2 + 1)
def xBack (nx : Nat) (S : Sy) : Int32 × Sy :=
  if S.2.1 2 = 0 then (0, S) else (1, xsc (xsc (xst S 0 (S.1 (3 + (nx + 3) % 4))) 1 (rem4 (S.2.1 1 + 4 - 1))) 2 (S.2.1 2 - 1))
-- the calls
def isPort (p : Int32) : Int32 := if p < 0 then 0 else if p < 8 then 1 else 0
def isAddr (x : Int32) : Int32 := if x < 1 then 0 else if 99 < x then 0 else 1
def isDest (x : Int32) : Int32 := if x = 0 then 1 else if isAddr x = 0 then 0 else 1
def isSet (x : Int32) : Int32 := if x < 0 then 0 else if x < 4 then 1 else 0
def xSetPort (nx : Nat) (S : Sy) (p up : Int32) : Int32 × Sy :=
  if isPort p = 0 then (-1, S) else if pUp (S.1 0) p = up then (-4, S) else
    if up = 0 then (bitC (pOnes (sDrop (pTurn ((xRec nx S).1 0) p up) p) 8), xst (xRec nx S) 0 (sDrop (pTurn ((xRec nx S).1 0) p up) p))
    else (bitC (pOnes (pTurn ((xRec nx S).1 0) p up) 8), xst (xRec nx S) 0 (pTurn ((xRec nx S).1 0) p up))
def xJoin (nx : Nat) (S : Sy) (p q : Int32) : Int32 × Sy :=
  if isPort p = 0 then (-1, S) else if isPort q = 0 then (-1, S) else if p = q then (-2, S) else if pFar (S.1 0) p = -4 then (if pFar (S.1 0) q = -4 then
    (pCab (pTie ((xRec nx S).1 0) p q) 8 / 2, xst (xRec nx S) 0 (pTie ((xRec nx S).1 0) p q)) else (-3, S)) else (-3, S)
def xPartC (nx : Nat) (S : Sy) (p : Int32) : Int32 × Sy :=
  if isPort p = 0 then (-1, S) else if pFar (S.1 0) p = -4 then (-4, S) else (pFar (S.1 0) p, xst (xRec nx S) 0 (pUntie ((xRec nx S).1 0) p (pFar (S.1 0) p)))
def xRelease (nx : Nat) (S : Sy) (p : Int32) : Int32 × Sy :=
  if isPort p = 0 then (-1, S) else if oAt 2 8 (S.1 0) p = 0 then (-4, S) else (oAt 2 8 (S.1 0) p, xst (xRec nx S) 0 (pEnd ((xRec nx S).1 0) p))
def xSet (nx : Nat) (S : Sy) (w v : Int32) : Int32 × Sy :=
  if isSet w = 0 then (-2, S) else if v < 1 then (-2, S) else if fsG w.toNatClampNeg < v then (-2, S) else if oAt 0 4 (S.1 0) w = v then (-4, S) else (oAt 0 4 (S.1 0) w, xst (xRec nx S) 0 (oPut 0 4 ((xRec nx S).1 0) w v))
def xFrame (nx : Nat) (S : Sy) (p s d pr : Int32) : Int32 × Sy :=
  if isPort p = 0 then (-1, S) else if isAddr s = 0 then (-2, S) else if isDest d = 0 then (-2, S) else if pr < 0 then (-2, S) else if 3 < pr then (-2, S) else
    ((sCome ((xRec nx S).1 0) p s d pr).1, xst (xRec nx S) 0 (sCome ((xRec nx S).1 0) p s d pr).2)
def xForget (nx : Nat) (S : Sy) (x : Int32) : Int32 × Sy :=
  if isAddr x = 0 then (-2, S) else if tPort (S.1 0) x = -4 then (-4, S) else (tPort (S.1 0) x, xst (xRec nx S) 0 (tRemove ((xRec nx S).1 0) x))
def xSec (S : Sy) : Sy := xst (xLetIn (xSendK S 8).2).2 0 (sEnd ((xLetIn (xSendK S 8).2).2.1 0))
def xPassK (S : Sy) : Nat → Int32 × Sy
  | 0 => (0, S)
  | k + 1 => ((xPassK S k).1 + (xSendK (xPassK S k).2 8).1, xSec (xPassK S k).2)
def xPass (nx : Nat) (S : Sy) (n : Int32) : Int32 × Sy := if n < 1 then (-2, S) else if 10 < n then (-2, S) else xPassK (xRec nx S) n.toNatClampNeg
def xType (S : Sy) (c : Int32) : Int32 × Sy := if (tAppend S c).1 = 0 then (-3, (tAppend S c).2) else ((tAppend S c).2.2.1 3, (tAppend S c).2)
def xReadFrames (nx : Nat) (S : Sy) : Int32 × Sy := if (tRead S).1 = -1 then xLetIn (xRec nx (tRead S).2) else (-100 - (tRead S).1, (tRead S).2)
def xUndo (nx : Nat) (S : Sy) : Int32 × Sy := if (xBack nx S).1 = 0 then (-4, (xBack nx S).2) else ((xBack nx S).2.2.1 2, (xBack nx S).2)
def xKeep (S : Sy) : Int32 × Sy := ((S.1 0).2 0, xsc (xst S 1 (S.1 0)) 0 1)
def xRestore (nx : Nat) (S : Sy) : Int32 × Sy := if S.2.1 0 = 0 then (-4, S) else (((xRec nx S).1 1).2 0, xst (xRec nx S) 0 ((xRec nx S).1 1))
def xPort (S : Sy) (p w : Int32) : Int32 :=
  if isPort p = 0 then -1 else if w = 0 then (if pUp (S.1 0) p = 0 then 0 else 1) else if w = 1 then (if pOpen (S.1 0) p = 0 then 0 else 1) else if w = 2 then oAt 2 8 (S.1 0) p else if w = 3 then oAt 3 8 (S.1 0) p
  else if w = 4 then pFar (S.1 0) p else if w = 5 then oAt 7 8 (S.1 0) p else if w = 6 then tWith (S.1 0) p 99 else if w = 7 then oAt 5 8 (S.1 0) p else -2
def xAccount (S : Sy) (p w : Int32) : Int32 := if isPort p = 0 then -1 else if w < 0 then -2 else if w < 11 then pCredited (S.1 0) p w else -2
def xEntry (S : Sy) (x w : Int32) : Int32 :=
  if x < 0 then -2 else if w < 0 then -2 else if 3 < w then -2 else if x < (S.1 0).2 3 then
    (if w = 0 then tAddr (S.1 0) x 99 1 0 else if w = 1 then tPort (S.1 0) (tAddr (S.1 0) x 99 1 0) else if w = 2 then (S.1 0).2 0 - oAt 10 100 (S.1 0) (tAddr (S.1 0) x 99 1 0) else mLate (S.1 0) (tAddr (S.1 0) x 99 1 0) 10) else -4
def xWhere (S : Sy) (x : Int32) : Int32 := if isAddr x = 0 then -2 else tPort (S.1 0) x
def xQueued (S : Sy) (p k w : Int32) : Int32 :=
  if isPort p = 0 then -1 else if k < 0 then -2 else if w < 0 then -2 else if w < 4 then (if k < oAt 7 8 (S.1 0) p then qPart (S.1 0) p k w else -4) else -2
def xWouldGo (S : Sy) (p s d : Int32) : Int32 × Sy :=
  if isPort p = 0 then (-1, S) else if isAddr s = 0 then (-2, S) else if isDest d = 0 then (-2, S) else
    (sWaysOut (sLD (S.1 0) p s d).2 (sLD (S.1 0) p s d).1 p d, xst S 2 (sLD (S.1 0) p s d).2)
def xLoopK (σ : St) : Nat → Int32
  | 0 => 0
  | k + 1 => if pFar σ (nI k) = -4 then xLoopK σ k else if (pOnes σ 8 >>> (nI k &&& 31)) &&& 1 = 1 then (if (pOnes σ 8 >>> (pFar σ (nI k) &&& 31)) &&& 1 = 1 then xLoopK σ k ||| ((1 : Int32) <<< (nI k &&& 31)) else xLoopK σ k) else xLoopK σ k
def xCount (S : Sy) (w : Int32) : Int32 :=
  if w = 0 then oAt 0 4 (S.1 0) w else if w = 1 then oAt 0 4 (S.1 0) w else if w = 2 then oAt 0 4 (S.1 0) w else if w = 3 then oAt 0 4 (S.1 0) w else if w = 4 then (S.1 0).2 0 else if w = 5 then (S.1 0).2 3
  else if w = 6 then bitC (pOnes (S.1 0) 8) else if w = 7 then pQuar (S.1 0) 8 else if w = 8 then pCab (S.1 0) 8 / 2 else if w = 9 then rSum ((S.1 0).1 7) 8 else if w = 10 then pAll (S.1 0) 8
  else if w = 11 then (S.1 0).2 2 else if w = 12 then (S.1 0).2 1 else if w = 13 then S.2.1 2 else if w = 14 then S.2.1 3 else -2
theorem isSet_in {w : Int32} (h : ¬ isSet w = 0) : vp_in w 4 := by
  unfold isSet at h
  by_cases c1 : w < 0
  · rw [if_pos c1] at h; exact absurd rfl h
  rw [if_neg c1] at h
  by_cases c2 : w < 4
  · exact vp_in_c (n := 4) (by decide) c1 c2
  rw [if_neg c2] at h; exact absurd rfl h
theorem tSkip_len (S : Sy) (c : Int32) : (tSkip S c).2.2.1 3 = S.2.1 3 := by unfold tSkip; split <;> rfl
theorem tDigit_len (S : Sy) (a b : Int32) : (tDigit S a b).2.2.1 3 = S.2.1 3 := by unfold tDigit; split; rfl; split <;> rfl
theorem tAddress_len (S : Sy) : (tAddress S).2.2.1 3 = S.2.1 3 := by
  have e1 := tDigit_len S 1 9
  have e2 := tDigit_len (tDigit S 1 9).2 0 9
  rw [e1] at e2
  unfold tAddress
  generalize tDigit S 1 9 = T1 at *
  generalize tDigit T1.2 0 9 = T2 at *
  by_cases c1 : T1.1 = -4
  · rw [if_pos c1]; exact e1
  rw [if_neg c1]
  by_cases c2 : T2.1 = -4
  · rw [if_pos c2]; exact e2
  · rw [if_neg c2]; exact e2
theorem xApp_len (S : Sy) (p s d pr : Int32) : (xApp S p s d pr).2.1 3 = S.2.1 3 := by
  unfold xApp
  by_cases c : S.2.1 5 < 96
  · rw [if_pos c]; rfl
  · rw [if_neg c]
theorem tF5_len (S : Sy) (s d pr : Int32) : (tF5 S s d pr).2.2.1 3 = S.2.1 3 := by
  have e1 := tDigit_len S 0 7
  have e2 := xApp_len (tDigit S 0 7).2 (tDigit S 0 7).1 s d pr
  rw [e1] at e2
  unfold tF5
  generalize xApp (tDigit S 0 7).2 (tDigit S 0 7).1 s d pr = T2 at *
  generalize tDigit S 0 7 = T1 at *
  by_cases c : T1.1 = -4
  · rw [if_pos c]; exact e1
  · rw [if_neg c]; exact e2
theorem tF4b_len (S : Sy) (s d pr : Int32) : (tF4b S s d pr).2.2.1 3 = S.2.1 3 := by
  have e1 := tSkip_len S 64
  have e2 := tF5_len (tSkip S 64).2 s d pr
  rw [e1] at e2
  unfold tF4b
  generalize tF5 (tSkip S 64).2 s d pr = T2 at *
  generalize tSkip S 64 = T1 at *
  by_cases c : T1.1 = 0
  · rw [if_pos c]; exact e1
  · rw [if_neg c]; exact e2
theorem tF4_len (S : Sy) (s d pr : Int32) : (tF4 S s d pr).2.2.1 3 = S.2.1 3 := by
  have e1 := tF4b_len S s d pr
  unfold tF4
  by_cases c : pr = -4
  · rw [if_pos c]
  · rw [if_neg c]; exact e1
theorem tF3b_len (S : Sy) (s d : Int32) : (tF3b S s d).2.2.1 3 = S.2.1 3 := by
  have e1 := tSkip_len S 33
  have e2 := tF4b_len (tSkip S 33).2 s d 0
  have e3 := tDigit_len (tSkip S 33).2 0 3
  have e4 := tF4_len (tDigit (tSkip S 33).2 0 3).2 s d (tDigit (tSkip S 33).2 0 3).1
  rw [e1] at e2 e3
  rw [e3] at e4
  unfold tF3b
  generalize tF4 (tDigit (tSkip S 33).2 0 3).2 s d (tDigit (tSkip S 33).2 0 3).1 = T4 at *
  generalize tF4b (tSkip S 33).2 s d 0 = T2 at *
  generalize tDigit (tSkip S 33).2 0 3 = T3 at *
  generalize tSkip S 33 = T1 at *
  by_cases c : T1.1 = 0
  · rw [if_pos c]; exact e2
  · rw [if_neg c]; exact e4
theorem tF3_len (S : Sy) (s d : Int32) : (tF3 S s d).2.2.1 3 = S.2.1 3 := by
  have e1 := tF3b_len S s d
  unfold tF3
  by_cases c : d = -4
  · rw [if_pos c]
  · rw [if_neg c]; exact e1
theorem tF2_len (S : Sy) (s : Int32) : (tF2 S s).2.2.1 3 = S.2.1 3 := by
  have e1 := tSkip_len S 42
  have e2 := tAddress_len (tSkip S 42).2
  have e3 := tF3_len (tAddress (tSkip S 42).2).2 s (tAddress (tSkip S 42).2).1
  have e4 := tF3b_len (tSkip S 42).2 s 0
  rw [e1] at e2 e4
  rw [e2] at e3
  unfold tF2
  generalize tF3 (tAddress (tSkip S 42).2).2 s (tAddress (tSkip S 42).2).1 = T3 at *
  generalize tF3b (tSkip S 42).2 s 0 = T4 at *
  generalize tAddress (tSkip S 42).2 = T2 at *
  generalize tSkip S 42 = T1 at *
  by_cases c : T1.1 = 0
  · rw [if_pos c]; exact e3
  · rw [if_neg c]; exact e4
theorem tFrame_len (S : Sy) : (tFrame S).2.2.1 3 = S.2.1 3 := by
  have e1 := tAddress_len S
  have e2 := tSkip_len (tAddress S).2 62
  have e3 := tF2_len (tSkip (tAddress S).2 62).2 (tAddress S).1
  rw [e1] at e2
  rw [e2] at e3
  unfold tFrame
  generalize tF2 (tSkip (tAddress S).2 62).2 (tAddress S).1 = T3 at *
  generalize tAddress S = T1 at *
  generalize tSkip T1.2 62 = T2 at *
  by_cases c : T1.1 = -4
  · rw [if_pos c]; exact e1
  rw [if_neg c]
  by_cases c : T2.1 = 0
  · rw [if_pos c]; exact e2
  · rw [if_neg c]; exact e3
