/-! what reading a text leaves as it was -/
def tSame (S T : Sy) : Prop := T.1 = S.1 ∧ (∀ j, j ≠ 4 → j ≠ 5 → T.2.1 j = S.2.1 j) ∧ T.2.2 0 = S.2.2 0
theorem tSame.rf {S : Sy} : tSame S S := ⟨rfl, fun _ _ _ => rfl, rfl⟩
theorem tSame.tr {S T U : Sy} (h : tSame S T) (h2 : tSame T U) : tSame S U := ⟨h2.1.trans h.1, fun j a b => (h2.2.1 j a b).trans (h.2.1 j a b), h2.2.2.trans h.2.2⟩
theorem same_sc4 (S : Sy) (v : Int32) : tSame S (xsc S 4 v) := ⟨rfl, fun j a _ => if_neg a, rfl⟩
theorem same_sc5 (S : Sy) (v : Int32) : tSame S (xsc S 5 v) := ⟨rfl, fun j _ b => if_neg b, rfl⟩
theorem same_put (S : Sy) (i v : Int32) : tSame S (xPut S i v) := ⟨rfl, fun _ _ _ => rfl, rfl⟩
theorem tSkip_same (S : Sy) (c : Int32) : tSame S (tSkip S c).2 := by
  unfold tSkip
  by_cases h : tSign S (S.2.1 4) = c
  · rw [if_pos h]; exact same_sc4 _ _
  · rw [if_neg h]; exact tSame.rf
theorem tDigit_same (S : Sy) (lo hi : Int32) : tSame S (tDigit S lo hi).2 := by
  unfold tDigit
  by_cases h : tSign S (S.2.1 4) - 48 < lo
  · rw [if_pos h]; exact tSame.rf
  rw [if_neg h]
  by_cases h : hi < tSign S (S.2.1 4) - 48
  · rw [if_pos h]; exact tSame.rf
  · rw [if_neg h]; exact same_sc4 _ _
theorem tAddress_same (S : Sy) : tSame S (tAddress S).2 := by
  have e1 := tDigit_same S 1 9
  have e2 := e1.tr (tDigit_same (tDigit S 1 9).2 0 9)
  unfold tAddress
  generalize tDigit S 1 9 = T1 at *
  generalize tDigit T1.2 0 9 = T2 at *
  by_cases c1 : T1.1 = -4
  · rw [if_pos c1]; exact e1
  rw [if_neg c1]
  by_cases c2 : T2.1 = -4
  · rw [if_pos c2]; exact e2
  · rw [if_neg c2]; exact e2
theorem xApp_same (S : Sy) (p s d pr : Int32) : tSame S (xApp S p s d pr) := by
  unfold xApp
  by_cases c : S.2.1 5 < 96
  · rw [if_pos c]
    refine tSame.tr (T := xApp4 S (S.2.1 5 * 4) p s d pr) ?_ (same_sc5 _ _)
    exact (((same_put _ _ _).tr (same_put _ _ _)).tr (same_put _ _ _)).tr (same_put _ _ _)
  · rw [if_neg c]; exact tSame.rf
theorem tF5_same (S : Sy) (s d pr : Int32) : tSame S (tF5 S s d pr).2 := by
  have e1 := tDigit_same S 0 7
  have e2 := e1.tr (xApp_same (tDigit S 0 7).2 (tDigit S 0 7).1 s d pr)
  unfold tF5
  generalize xApp (tDigit S 0 7).2 (tDigit S 0 7).1 s d pr = T2 at *
  generalize tDigit S 0 7 = T1 at *
  by_cases c : T1.1 = -4
  · rw [if_pos c]; exact e1
  · rw [if_neg c]; exact e2
theorem tF4b_same (S : Sy) (s d pr : Int32) : tSame S (tF4b S s d pr).2 := by
  have e1 := tSkip_same S 64
  have e2 := e1.tr (tF5_same (tSkip S 64).2 s d pr)
  unfold tF4b
  generalize tF5 (tSkip S 64).2 s d pr = T2 at *
  generalize tSkip S 64 = T1 at *
  by_cases c : T1.1 = 0
  · rw [if_pos c]; exact e1
  · rw [if_neg c]; exact e2
theorem tF4_same (S : Sy) (s d pr : Int32) : tSame S (tF4 S s d pr).2 := by
  have e1 := tF4b_same S s d pr
  unfold tF4
  by_cases c : pr = -4
  · rw [if_pos c]; exact tSame.rf
  · rw [if_neg c]; exact e1
theorem tF3b_same (S : Sy) (s d : Int32) : tSame S (tF3b S s d).2 := by
  have e1 := tSkip_same S 33
  have e2 := e1.tr (tF4b_same (tSkip S 33).2 s d 0)
  have e3 := e1.tr (tDigit_same (tSkip S 33).2 0 3)
  have e4 := e3.tr (tF4_same (tDigit (tSkip S 33).2 0 3).2 s d (tDigit (tSkip S 33).2 0 3).1)
  unfold tF3b
  generalize tF4 (tDigit (tSkip S 33).2 0 3).2 s d (tDigit (tSkip S 33).2 0 3).1 = T4 at *
  generalize tF4b (tSkip S 33).2 s d 0 = T2 at *
  generalize tSkip S 33 = T1 at *
  by_cases c : T1.1 = 0
  · rw [if_pos c]; exact e2
  · rw [if_neg c]; exact e4
theorem tF3_same (S : Sy) (s d : Int32) : tSame S (tF3 S s d).2 := by
  have e1 := tF3b_same S s d
  unfold tF3
  by_cases c : d = -4
  · rw [if_pos c]; exact tSame.rf
  · rw [if_neg c]; exact e1
theorem tF2_same (S : Sy) (s : Int32) : tSame S (tF2 S s).2 := by
  have e1 := tSkip_same S 42
  have e2 := e1.tr (tAddress_same (tSkip S 42).2)
  have e3 := e2.tr (tF3_same (tAddress (tSkip S 42).2).2 s (tAddress (tSkip S 42).2).1)
  have e4 := e1.tr (tF3b_same (tSkip S 42).2 s 0)
  unfold tF2
  generalize tF3 (tAddress (tSkip S 42).2).2 s (tAddress (tSkip S 42).2).1 = T3 at *
  generalize tF3b (tSkip S 42).2 s 0 = T4 at *
  generalize tSkip S 42 = T1 at *
  by_cases c : T1.1 = 0
  · rw [if_pos c]; exact e3
  · rw [if_neg c]; exact e4
theorem tFrame_same (S : Sy) : tSame S (tFrame S).2 := by
  have e1 := tAddress_same S
  have e2 := e1.tr (tSkip_same (tAddress S).2 62)
  have e3 := e2.tr (tF2_same (tSkip (tAddress S).2 62).2 (tAddress S).1)
  unfold tFrame
  generalize tF2 (tSkip (tAddress S).2 62).2 (tAddress S).1 = T3 at *
  generalize tAddress S = T1 at *
  generalize tSkip T1.2 62 = T2 at *
  by_cases c : T1.1 = -4
  · rw [if_pos c]; exact e1
  rw [if_neg c]
  by_cases c : T2.1 = 0
  · rw [if_pos c]; exact e2
  · rw [if_neg c]; exact e3
theorem tInto_same : ∀ (n k : Nat) (S : Sy), tSame S (tInto n k S).2
  | 0, _, _ => tSame.rf
  | n + 1, k, S => by
    have e1 := tFrame_same S
    have e2 := e1.tr (tSkip_same (tFrame S).2 59)
    have e3 := e2.tr (tInto_same n (k + 1) (tSkip (tFrame S).2 59).2)
    unfold tInto
    generalize tInto n (k + 1) (tSkip (tFrame S).2 59).2 = T3 at *
    generalize tFrame S = T1 at *
    generalize tSkip T1.2 59 = T2 at *
    by_cases c : S.2.1 3 < nI k
    · rw [if_pos c]; exact tSame.rf
    rw [if_neg c]
    by_cases c : T1.1 = 0
    · rw [if_pos c]; exact e1
    rw [if_neg c]
    by_cases c : T1.2.2.1 4 = T1.2.2.1 3
    · rw [if_pos c]; exact e1
    rw [if_neg c]
    by_cases c : T2.1 = 0
    · rw [if_pos c]; exact e2
    · rw [if_neg c]; exact e3
theorem tRead_same (S : Sy) : tSame S (tRead S).2 := ((same_sc5 S 0).tr (same_sc4 _ 0)).tr (tInto_same 72 0 _)
theorem tRead_nx (S : Sy) : (tRead S).2.2.1 1 = S.2.1 1 := (tRead_same S).2.1 1 (by decide) (by decide)
