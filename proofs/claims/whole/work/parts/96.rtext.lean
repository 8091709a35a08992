/-! the text, on both sides -/
def AF (A F : Nat → Int32) (i : Nat) : Prop := (A (4 * i) = F (4 * i) ∧ A (4 * i + 1) = F (4 * i + 1) ∧ A (4 * i + 2) = F (4 * i + 2) ∧ A (4 * i + 3) = F (4 * i + 3)) ∧ AS (F (4 * i)) ∧ AD (F (4 * i + 1)) ∧ WH (F (4 * i + 2)) 4 ∧ PO (F (4 * i + 3))
def TC (m : Nat) (S : Sy) (ν : Mo) : Prop := m ≤ 70 ∧ S.2.1 3 = nI m ∧ ν.1 4 = nI m ∧ ∀ i, i < m → S.2.2 0 i = ν.2 5 i ∧ ∃ ch : Nat, ch < 65536 ∧ ν.2 5 i = nI ch
def TT (m a k : Nat) (S : Sy) (ν : Mo) : Prop := TC m S ν ∧ (a ≤ m ∧ S.2.1 4 = nI a ∧ ν.1 5 = nI a) ∧ (S.2.1 5 = nI k ∧ ν.1 6 = nI k) ∧ ∀ i, i < k → AF (S.2.2 1) (ν.2 6) i
theorem sign_t {m a k : Nat} {S : Sy} {ν : Mo} (h : TT m a k S ν) : (a < m ∧ ∃ ch : Nat, ch < 65536 ∧ tSign S (S.2.1 4) = nI ch ∧ ν.2 5 (ν.1 5).toNatClampNeg = nI ch ∧ ν.1 5 < ν.1 4) ∨ (a = m ∧ tSign S (S.2.1 4) = -1 ∧ ¬ ν.1 5 < ν.1 4) := by
  obtain ⟨⟨h1, h2, h3, h4⟩, ⟨h5, h6, h7⟩, _, _⟩ := h
  unfold tSign
  rw [h6, h2, h7, h3, if_neg (nI_pos (by omega)), nI_clamp (by omega)]
  by_cases c : a < m
  · obtain ⟨q1, ch, q2, q3⟩ := h4 a c
    refine Or.inl ⟨c, ch, q2, ?_, q3, nI_lt c (by omega)⟩
    rw [if_pos (nI_lt c (by omega)), if_pos (nlt_lit (b := 70) (by omega) (by decide)), q1, q3]
  · refine Or.inr ⟨by omega, ?_, nI_nlt (by omega) (by omega)⟩
    rw [if_neg (nI_nlt (by omega) (by omega))]
theorem tt_step {m a k : Nat} {S : Sy} {ν : Mo} (h : TT m a k S ν) (c : a < m) : TT m (a + 1) k (xsc S 4 (S.2.1 4 + 1)) (msc ν 5 (ν.1 5 + 1)) := by
  obtain ⟨h1, ⟨h5, h6, h7⟩, h8, h9⟩ := h
  refine ⟨h1, ⟨c, ?_, ?_⟩, h8, h9⟩
  · show S.2.1 4 + 1 = _
    rw [h6, nI_succ]
  · show ν.1 5 + 1 = _
    rw [h7, nI_succ]
theorem fs_4 {S : Sy} {v : Int32} : FS S (xsc S 4 v) := ⟨fun _ _ => rfl, fun i _ h => if_neg h, rfl⟩
theorem skip_t {m a k : Nat} {S : Sy} {ν : Mo} (cc : Nat) (hcc : cc < 65536) {c : Int32} (ec : c = nI cc) (h : TT m a k S ν) : (tSkip S c).1 = (mTakes ν c).1 ∧ (∃ a', TT m a' k (tSkip S c).2 (mTakes ν c).2 ∧ ((mTakes ν c).1 = 0 → a' = a)) ∧ FS S (tSkip S c).2 ∧ (mTakes ν c).2.2 = ν.2 := by
  unfold tSkip mTakes
  rcases sign_t h with ⟨q0, ch, q1, q2, q3, q4⟩ | ⟨q0, q1, q2⟩
  · rw [q2, q3, if_pos q4]
    by_cases e : nI ch = c
    · rw [if_pos e, if_pos e]
      exact ⟨rfl, ⟨a + 1, tt_step h q0, fun q => absurd q (show ¬ (1 : Int32) = 0 by decide)⟩, fs_4, rfl⟩
    · rw [if_neg e, if_neg e]
      exact ⟨rfl, ⟨a, h, fun _ => rfl⟩, fs_r S, rfl⟩
  · have e : ¬ (-1 : Int32) = c := fun q => absurd (by rw [← ec, ← q]; decide) (nI_pos (n := cc) (by omega))
    rw [q1, if_neg e, if_neg q2]
    exact ⟨rfl, ⟨a, h, fun _ => rfl⟩, fs_r S, rfl⟩
theorem digit_t {m a k : Nat} {S : Sy} {ν : Mo} (l u : Nat) (hl : l < 10) (hu : u < 10) {lo hi : Int32} (el : lo = nI l) (eu : hi = nI u) (h : TT m a k S ν) : (tDigit S lo hi).1 = (mDigit ν lo hi).1 ∧ (∃ a', TT m a' k (tDigit S lo hi).2 (mDigit ν lo hi).2) ∧ FS S (tDigit S lo hi).2 ∧ (mDigit ν lo hi).2.2 = ν.2 ∧ (¬ (mDigit ν lo hi).1 = -4 → ∃ v, l ≤ v ∧ v ≤ u ∧ (mDigit ν lo hi).1 = nI v) := by
  subst el eu
  unfold tDigit mDigit
  rcases sign_t h with ⟨q0, ch, q1, q2, q3, q4⟩ | ⟨q0, q1, q2⟩
  · have e5 : (ν.1 5 + 1 - 1) = ν.1 5 := by
      rw [h.2.1.2.2, ← nI_succ]
      exact nI_pred a
    rw [q2, e5, q3, if_pos q4]
    unfold mIn
    have t1 : (nI ch - 48 : Int32).toInt = (ch : Int) - 48 := pk_sub_toInt (b := 48) (by omega) (by decide)
    have t2 : (48 + nI l : Int32) = nI (48 + l) := nI_add 48 l
    have t3 : (48 + nI u : Int32) = nI (48 + u) := nI_add 48 u
    have i1 : nI ch - 48 < nI l ↔ nI ch < 48 + nI l := by
      rw [Int32.lt_iff_toInt_lt, t1, nI_toInt (by omega), t2, nI_ltI (by omega) (by omega)]
      omega
    have i2 : nI u < nI ch - 48 ↔ 48 + nI u < nI ch := by
      rw [Int32.lt_iff_toInt_lt, t1, nI_toInt (by omega), t3, nI_ltI (by omega) (by omega)]
      omega
    by_cases c1 : nI ch < 48 + nI l
    · rw [if_pos (i1.mpr c1), if_pos c1, if_pos rfl]
      exact ⟨rfl, ⟨a, h⟩, fs_r S, rfl, fun q => absurd rfl q⟩
    · rw [if_neg (fun q => c1 (i1.mp q)), if_neg c1]
      by_cases c2 : 48 + nI u < nI ch
      · rw [if_pos (i2.mpr c2), if_pos c2, if_pos rfl]
        exact ⟨rfl, ⟨a, h⟩, fs_r S, rfl, fun q => absurd rfl q⟩
      · rw [if_neg (fun q => c2 (i2.mp q)), if_neg c2, if_neg (show ¬ (1 : Int32) = 0 by decide)]
        refine ⟨rfl, ⟨a + 1, tt_step h q0⟩, fs_4, rfl, fun _ => ?_⟩
        rw [t2, nI_ltI (by omega) (by omega)] at c1
        rw [t3, nI_ltI (by omega) (by omega)] at c2
        exact ⟨ch - 48, by omega, by omega, pk_sub (b := 48) (by omega)⟩
  · have e : (-1 - 48 : Int32) < nI l := by
      rw [Int32.lt_iff_toInt_lt, nI_toInt (by omega)]
      have : (-1 - 48 : Int32).toInt = -49 := by decide
      omega
    rw [q1, if_pos e, if_neg q2]
    exact ⟨rfl, ⟨a, h⟩, fs_r S, rfl, fun q => absurd rfl q⟩
theorem addr_t {m a k : Nat} {S : Sy} {ν : Mo} (h : TT m a k S ν) : (tAddress S).1 = (mAddr ν).1 ∧ (∃ a', TT m a' k (tAddress S).2 (mAddr ν).2) ∧ FS S (tAddress S).2 ∧ (mAddr ν).2.2 = ν.2 ∧ (¬ (mAddr ν).1 = -4 → AS (mAddr ν).1) := by
  obtain ⟨d1, ⟨a1, d2⟩, d3, d4, d5⟩ := digit_t 1 9 (by decide) (by decide) (lo := 1) (hi := 9) rfl rfl h
  obtain ⟨f1, ⟨a2, f2⟩, f3, f4, f5⟩ := digit_t 0 9 (by decide) (by decide) (lo := 0) (hi := 9) rfl rfl d2
  unfold tAddress mAddr
  rw [d1, f1]
  by_cases c1 : (mDigit ν 1 9).1 = -4
  · rw [if_pos c1, if_pos c1]
    exact ⟨rfl, ⟨a1, d2⟩, d3, d4, fun q => absurd rfl q⟩
  · rw [if_neg c1, if_neg c1]
    obtain ⟨v, v1, v2, v3⟩ := d5 c1
    by_cases c2 : (mDigit (mDigit ν 1 9).2 0 9).1 = -4
    · rw [if_pos c2, if_pos c2]
      exact ⟨rfl, ⟨a2, f2⟩, fs_t d3 f3, f4.trans d4, fun _ => ⟨v, v1, by omega, v3⟩⟩
    · rw [if_neg c2, if_neg c2]
      obtain ⟨w, w1, w2, w3⟩ := f5 c2
      refine ⟨?_, ⟨a2, f2⟩, fs_t d3 f3, f4.trans d4, fun _ => ?_⟩
      · show (mDigit ν 1 9).1 * 10 + _ = 10 * (mDigit ν 1 9).1 + _
        rw [Int32.mul_comm]
      · show AS (10 * (mDigit ν 1 9).1 + (mDigit (mDigit ν 1 9).2 0 9).1)
        rw [v3, w3, show (10 : Int32) = nI 10 from rfl, pk_mul, nI_add]
        exact ⟨10 * v + w, by omega, by omega, rfl⟩
-- a frame of the text
def FE (m k : Nat) (S0 : Sy) (X : Int32 × Sy) (Y : Int32 × Mo) : Prop := FS S0 X.2 ∧ ((X.1 = 0 ∧ Y.1 = 0 ∧ ∃ a', a' ≤ 70 ∧ X.2.2.1 4 = nI a' ∧ Y.2.1 5 = nI a') ∨ (¬ X.1 = 0 ∧ ∃ a', TT m a' (k + 1) X.2 Y.2 ∧ Y.1 = if a' = m then 1 else if Y.2.2 5 a' = 59 then 1 else 0))
theorem fe_0 {m a k : Nat} {S0 S : Sy} {ν : Mo} (hf : FS S0 S) (h : TT m a k S ν) : FE m k S0 (0, S) (0, ν) := ⟨hf, Or.inl ⟨rfl, rfl, a, Nat.le_trans h.2.1.1 h.1.1, h.2.1.2.1, h.2.1.2.2⟩⟩
theorem fe_t {m k : Nat} {S0 S1 : Sy} {X : Int32 × Sy} {Y : Int32 × Mo} (hf : FS S0 S1) (h : FE m k S1 X Y) : FE m k S0 X Y := ⟨fs_t hf h.1, h.2⟩
theorem tt_set {m a k n : Nat} {S : Sy} {ν : Mo} {v : Int32} (hn : 4 * k ≤ n) (hn2 : n < 2147483648) (h : TT m a k S ν) : TT m a k S (setA ν 6 (nI n) v) := by
  refine ⟨h.1, h.2.1, h.2.2.1, fun i hi => ?_⟩
  rw [setA6 hn2]
  have := h.2.2.2 i hi
  unfold AF at *
  simp (disch := omega) only [upd_n]
  exact this
theorem fe5 {m a k : Nat} {S : Sy} {ν : Mo} {s d pr : Int32} (hk : k < 90) (h : TT m a k S ν) (es : ν.2 6 (4 * k) = s) (ed : ν.2 6 (4 * k + 1) = d) (ep : ν.2 6 (4 * k + 2) = pr) (hs : AS s) (hd : AD d) (hp : WH pr 4) : FE m k S (tF5 S s d pr) (mR5 ν (nI (4 * k))) := by
  obtain ⟨d1, ⟨a1, d2⟩, d3, d4, d5⟩ := digit_t 0 7 (by decide) (by decide) (lo := 0) (hi := 7) rfl rfl h
  unfold tF5 mR5
  rw [c4_3, ga6 (by omega), setA6 (by omega), upd_s, d1]
  by_cases c : (mDigit ν 0 7).1 = -4
  · rw [if_pos c, if_pos c]
    exact fe_0 d3 (tt_set (by omega) (by omega) d2)
  · rw [if_neg c, if_neg c]
    obtain ⟨v, v1, v2, v3⟩ := d5 c
    have h' := tt_set (n := 4 * k + 3) (v := (mDigit ν 0 7).1) (by omega) (by omega) d2
    have e6 : (setA (mDigit ν 0 7).2 6 (nI (4 * k + 3)) (mDigit ν 0 7).1).1 6 = nI k := h'.2.2.1.2
    have row : (setA (mDigit ν 0 7).2 6 (nI (4 * k + 3)) (mDigit ν 0 7).1).2 6 = upd (ν.2 6) (4 * k + 3) (nI v) := by
      rw [setA6 (by omega), d4, v3]
    have ha := h'.2.2.2
    rw [row] at ha
    have tt : TT m a1 (k + 1) (xApp (tDigit S 0 7).2 (mDigit ν 0 7).1 s d pr) (msc (setA (mDigit ν 0 7).2 6 (nI (4 * k + 3)) (mDigit ν 0 7).1) 6 ((setA (mDigit ν 0 7).2 6 (nI (4 * k + 3)) (mDigit ν 0 7).1).1 6 + 1)) := by
      have fs := app_fs (S := (tDigit S 0 7).2) (q := (mDigit ν 0 7).1) (s := s) (d := d) (pr := pr)
      refine ⟨⟨h'.1.1, ?_, h'.1.2.2.1, fun i hi => ?_⟩, ⟨h'.2.1.1, ?_, h'.2.1.2.2⟩, ⟨?_, ?_⟩, fun i hi => ?_⟩
      · rw [fs.2.1 3 (by decide) (by decide)]; exact h'.1.2.1
      · rw [fs.2.2]; exact h'.1.2.2.2 i hi
      · have e : (xApp (tDigit S 0 7).2 (mDigit ν 0 7).1 s d pr).2.1 4 = (tDigit S 0 7).2.2.1 4 := by
          unfold xApp
          rw [d2.2.2.1.1, if_pos (nlt_lit (b := 96) (by omega) (by decide))]
          rfl
        rw [e]; exact d2.2.1.2.1
      · rw [app_5 (by omega) d2.2.2.1.1]
      · show (setA (mDigit ν 0 7).2 6 (nI (4 * k + 3)) (mDigit ν 0 7).1).1 6 + 1 = _
        rw [e6, nI_succ]
      · rw [app_row (by omega) d2.2.2.1.1]
        show AF _ ((setA (mDigit ν 0 7).2 6 (nI (4 * k + 3)) (mDigit ν 0 7).1).2 6) i
        rw [row]
        by_cases ci : i = k
        · subst ci
          unfold AF
          simp (disch := omega) only [upd_s, upd_n]
          rw [es, ed, ep, v3]
          exact ⟨⟨rfl, rfl, rfl, rfl⟩, hs, hd, hp, v, by omega, rfl⟩
        · have := ha i (by omega)
          unfold AF at *
          simp (disch := omega) only [upd_n] at *
          exact this
    refine ⟨fs_t d3 app_fs, Or.inr ⟨show ¬ (1 : Int32) = 0 by decide, a1, ?_, ?_⟩⟩
    · unfold mR6
      by_cases q : (msc (setA (mDigit ν 0 7).2 6 (nI (4 * k + 3)) (mDigit ν 0 7).1) 6 ((setA (mDigit ν 0 7).2 6 (nI (4 * k + 3)) (mDigit ν 0 7).1).1 6 + 1)).1 5 = (msc (setA (mDigit ν 0 7).2 6 (nI (4 * k + 3)) (mDigit ν 0 7).1) 6 ((setA (mDigit ν 0 7).2 6 (nI (4 * k + 3)) (mDigit ν 0 7).1).1 6 + 1)).1 4
      · rw [if_pos q]; exact tt
      · rw [if_neg q]
        split
        · exact tt
        · exact tt
    · have e5 := tt.2.1.2.2
      have e4 := tt.1.2.2.1
      have hb := tt.2.1.1
      have hm := tt.1.1
      generalize msc (setA (mDigit ν 0 7).2 6 (nI (4 * k + 3)) (mDigit ν 0 7).1) 6 ((setA (mDigit ν 0 7).2 6 (nI (4 * k + 3)) (mDigit ν 0 7).1).1 6 + 1) = ρ at *
      unfold mR6
      rw [e5, e4, nI_clamp (by omega)]
      by_cases q : a1 = m
      · rw [if_pos (show nI a1 = nI m by rw [q]), if_pos q]
      · rw [if_neg (show ¬ nI a1 = nI m from fun z => q ((nI_eq (by omega) (by omega)).mp z)), if_neg q]
        by_cases q2 : ρ.2 5 a1 = 59
        · rw [if_pos q2, if_pos q2]
        · rw [if_neg q2, if_neg q2]
theorem fe4b {m a k : Nat} {S : Sy} {ν : Mo} {s d pr : Int32} (hk : k < 90) (h : TT m a k S ν) (es : ν.2 6 (4 * k) = s) (ed : ν.2 6 (4 * k + 1) = d) (ep : ν.2 6 (4 * k + 2) = pr) (hs : AS s) (hd : AD d) (hp : WH pr 4) : FE m k S (tF4b S s d pr) (mR4 ν (nI (4 * k))) := by
  obtain ⟨d1, ⟨a1, d2, _⟩, d3, d4⟩ := skip_t 64 (by decide) (c := 64) rfl h
  have np : ¬ pr = -4 := by
    obtain ⟨j, hj, e⟩ := hp
    rw [e]
    exact fun q => absurd (by rw [q]; decide) (nI_pos (n := j) (by omega))
  unfold tF4b mR4
  rw [c4_2, ga6 (by omega), ep, if_neg np, d1]
  by_cases c : (mTakes ν 64).1 = 0
  · rw [if_pos c, if_pos c]
    exact fe_0 d3 d2
  · rw [if_neg c, if_neg c]
    exact fe_t d3 (fe5 hk d2 (by rw [d4]; exact es) (by rw [d4]; exact ed) (by rw [d4]; exact ep) hs hd hp)
theorem fe3b {m a k : Nat} {S : Sy} {ν : Mo} {s d : Int32} (hk : k < 90) (h : TT m a k S ν) (es : ν.2 6 (4 * k) = s) (ed : ν.2 6 (4 * k + 1) = d) (hs : AS s) (hd : AD d) : FE m k S (tF3b S s d) (mR3 ν (nI (4 * k))) := by
  obtain ⟨d1, ⟨a1, d2, _⟩, d3, d4⟩ := skip_t 33 (by decide) (c := 33) rfl h
  have nd : ¬ d = -4 := by
    obtain ⟨j, hj, e⟩ := hd
    rw [e]
    exact fun q => absurd (by rw [q]; decide) (nI_pos (n := j) (by omega))
  unfold tF3b mR3
  rw [c4_1, c4_2, ga6 (by omega), ed, if_neg nd, d1]
  by_cases c : (mTakes ν 33).1 = 0
  · rw [if_pos c, if_pos c]
    have t := tt_set (n := 4 * k + 2) (v := 0) (by omega) (by omega) d2
    refine fe_t d3 (fe4b hk t ?_ ?_ ?_ hs hd ⟨0, by decide, rfl⟩)
    · rw [setA6 (by omega), upd_n (by omega), d4]; exact es
    · rw [setA6 (by omega), upd_n (by omega), d4]; exact ed
    · rw [setA6 (by omega), upd_s]
  · rw [if_neg c, if_neg c]
    obtain ⟨f1, ⟨a2, f2⟩, f3, f4, f5⟩ := digit_t 0 3 (by decide) (by decide) (lo := 0) (hi := 3) rfl rfl d2
    have t := tt_set (n := 4 * k + 2) (v := (mDigit (mTakes ν 33).2 0 3).1) (by omega) (by omega) f2
    refine fe_t (fs_t d3 f3) ?_
    unfold tF4
    rw [f1]
    by_cases c2 : (mDigit (mTakes ν 33).2 0 3).1 = -4
    · rw [if_pos c2]
      unfold mR4
      rw [c4_2, ga6 (by omega), setA6 (by omega), upd_s, if_pos c2]
      exact fe_0 (fs_r _) t
    · rw [if_neg c2]
      obtain ⟨v, v1, v2, v3⟩ := f5 c2
      refine fe4b hk t ?_ ?_ ?_ hs hd ⟨v, by omega, v3⟩
      · rw [setA6 (by omega), upd_n (by omega), f4, d4]; exact es
      · rw [setA6 (by omega), upd_n (by omega), f4, d4]; exact ed
      · rw [setA6 (by omega), upd_s]
theorem fe2 {m a k : Nat} {S : Sy} {ν : Mo} {s : Int32} (hk : k < 90) (h : TT m a k S ν) (es : ν.2 6 (4 * k) = s) (hs : AS s) : FE m k S (tF2 S s) (mR2 ν (nI (4 * k))) := by
  obtain ⟨d1, ⟨a1, d2, _⟩, d3, d4⟩ := skip_t 42 (by decide) (c := 42) rfl h
  unfold tF2 mR2
  rw [c4_1, d1]
  by_cases c : (mTakes ν 42).1 = 0
  · rw [if_pos c, if_pos c]
    obtain ⟨f1, ⟨a2, f2⟩, f3, f4, f5⟩ := addr_t d2
    have t := tt_set (n := 4 * k + 1) (v := (mAddr (mTakes ν 42).2).1) (by omega) (by omega) f2
    refine fe_t (fs_t d3 f3) ?_
    unfold tF3
    rw [f1]
    by_cases c2 : (mAddr (mTakes ν 42).2).1 = -4
    · rw [if_pos c2]
      unfold mR3
      rw [c4_1, ga6 (by omega), setA6 (by omega), upd_s, if_pos c2]
      exact fe_0 (fs_r _) t
    · rw [if_neg c2]
      refine fe3b hk t ?_ ?_ hs (as_ad (f5 c2))
      · rw [setA6 (by omega), upd_n (by omega), f4, d4]; exact es
      · rw [setA6 (by omega), upd_s]
  · rw [if_neg c, if_neg c]
    have t := tt_set (n := 4 * k + 1) (v := 0) (by omega) (by omega) d2
    refine fe_t d3 (fe3b hk t ?_ ?_ hs ⟨0, by decide, rfl⟩)
    · rw [setA6 (by omega), upd_n (by omega), d4]; exact es
    · rw [setA6 (by omega), upd_s]
theorem fe_frame {m a k : Nat} {S : Sy} {ν : Mo} (hk : k < 90) (h : TT m a k S ν) : FE m k S (tFrame S) (mReads ν) := by
  obtain ⟨f1, ⟨a2, f2⟩, f3, f4, f5⟩ := addr_t h
  unfold tFrame mReads
  rw [h.2.2.1.2, x4k, f1]
  have t := tt_set (n := 4 * k) (v := (mAddr ν).1) (by omega) (by omega) f2
  unfold mR1
  rw [ga6 (by omega), setA6 (by omega), upd_s]
  by_cases c : (mAddr ν).1 = -4
  · rw [if_pos c, if_pos c]
    exact fe_0 f3 t
  · rw [if_neg c, if_neg c]
    obtain ⟨d1, ⟨a1, d2, _⟩, d3, d4⟩ := skip_t 62 (by decide) (c := 62) rfl t
    rw [d1]
    by_cases c2 : (mTakes (setA (mAddr ν).2 6 (nI (4 * k)) (mAddr ν).1) 62).1 = 0
    · rw [if_pos c2, if_pos c2]
      exact fe_0 (fs_t f3 d3) d2
    · rw [if_neg c2, if_neg c2]
      refine fe_t (fs_t f3 d3) (fe2 hk d2 ?_ (f5 c))
      rw [d4, setA6 (by omega), upd_s]
