/-! queues as rows of frames: one sorted, one in the order of numbers -/
abbrev Fr : Type := Int32 × Int32 × Int32 × Int32
def fl (g : Nat → Fr) (m : Nat) : List Fr := (List.range m).map g
theorem fl_len (g : Nat → Fr) (m : Nat) : (fl g m).length = m := by
  unfold fl
  rw [List.length_map, List.length_range]
theorem fl_get {g : Nat → Fr} {m i : Nat} (h : i < m) : (fl g m)[i]? = some (g i) := by
  unfold fl
  rw [List.getElem?_map, List.getElem?_range h]
  rfl
theorem fl_none {g : Nat → Fr} {m i : Nat} (h : m ≤ i) : (fl g m)[i]? = none := List.getElem?_eq_none (by rw [fl_len]; exact h)
theorem fl_ext {L : List Fr} {g : Nat → Fr} {m : Nat} (hl : L.length = m) (h : ∀ i, i < m → L[i]? = some (g i)) : L = fl g m := by
  refine List.ext_getElem? fun i => ?_
  by_cases c : i < m
  · rw [h i c, fl_get c]
  · rw [fl_none (by omega), List.getElem?_eq_none (by omega)]
theorem fl_mem {g : Nat → Fr} {m : Nat} {x : Fr} : x ∈ fl g m ↔ ∃ i, i < m ∧ g i = x := by
  unfold fl
  rw [List.mem_map]
  constructor
  · rintro ⟨i, h1, h2⟩
    exact ⟨i, List.mem_range.mp h1, h2⟩
  · rintro ⟨i, h1, h2⟩
    exact ⟨i, List.mem_range.mpr h1, h2⟩
theorem fl_succ (g : Nat → Fr) (m : Nat) : fl g (m + 1) = fl g m ++ [g m] := by
  unfold fl
  rw [List.range_succ, List.map_append]
  rfl
theorem fl_cg {g g' : Nat → Fr} {m : Nat} (h : ∀ i, i < m → g i = g' i) : fl g m = fl g' m := fl_ext (fl_len _ _) fun i hi => by rw [fl_get hi, h i hi]
def insF (g : Nat → Fr) (j : Nat) (x : Fr) : Nat → Fr := fun i => if i < j then g i else if i = j then x else g (i - 1)
def delF (g : Nat → Fr) (j : Nat) : Nat → Fr := fun i => if i < j then g i else g (i + 1)
theorem fl_ins {g : Nat → Fr} {x : Fr} {m j : Nat} (hj : j ≤ m) : fl (insF g j x) (m + 1) = (fl g m).insertIdx j x := by
  refine (fl_ext ?_ fun i hi => ?_).symm
  · rw [List.length_insertIdx_of_le_length (by rw [fl_len]; exact hj), fl_len]
  · rw [List.getElem?_insertIdx]
    unfold insF
    by_cases c : i < j
    · rw [if_pos c, if_pos c, fl_get (by omega)]
    · rw [if_neg c, if_neg c]
      by_cases c2 : i = j
      · rw [if_pos c2, if_pos c2, if_pos (by rw [fl_len]; omega)]
      · rw [if_neg c2, if_neg c2, fl_get (by omega)]
theorem fl_insp {g : Nat → Fr} {x : Fr} {m j : Nat} (hj : j ≤ m) : (fl (insF g j x) (m + 1)).Perm (x :: fl g m) := by
  rw [fl_ins hj]
  exact List.perm_insertIdx x _ (by rw [fl_len]; exact hj)
theorem del_ins {g : Nat → Fr} {j i : Nat} : insF (delF g j) j (g j) i = g i := by
  unfold insF delF
  by_cases c : i < j
  · rw [if_pos c, if_pos c]
  · rw [if_neg c]
    by_cases c2 : i = j
    · rw [if_pos c2, c2]
    · rw [if_neg c2, if_neg (by omega), show i - 1 + 1 = i by omega]
theorem fl_delp {g : Nat → Fr} {m j : Nat} (hj : j ≤ m) : (fl g (m + 1)).Perm (g j :: fl (delF g j) m) := by
  have e := fl_insp (g := delF g j) (x := g j) (m := m) (j := j) hj
  rw [fl_cg (fun i _ => del_ins)] at e
  exact e
def cn (p : Nat → Bool) : Nat → Nat
  | 0 => 0
  | n + 1 => if p n = true then cn p n + 1 else cn p n
theorem cn_le (p : Nat → Bool) : ∀ n, cn p n ≤ n
  | 0 => Nat.le_refl 0
  | n + 1 => by
    have := cn_le p n
    unfold cn
    by_cases c : p n = true
    · rw [if_pos c]; omega
    · rw [if_neg c]; omega
theorem cn_lt {p : Nat → Bool} : ∀ {n k : Nat}, k < n → ¬ p k = true → cn p n < n
  | 0, k, h, _ => absurd h (Nat.not_lt_zero k)
  | n + 1, k, h, hk => by
    have h1 := cn_le p n
    unfold cn
    by_cases c : p n = true
    · rw [if_pos c]
      have : k ≠ n := fun e => hk (e ▸ c)
      have := cn_lt (p := p) (n := n) (k := k) (by omega) hk
      omega
    · rw [if_neg c]; omega
theorem cn_cg {p q : Nat → Bool} : ∀ {n : Nat}, (∀ k, k < n → p k = q k) → cn p n = cn q n
  | 0, _ => rfl
  | n + 1, h => by
    unfold cn
    rw [h n (by omega), cn_cg (n := n) (fun k hk => h k (by omega))]
theorem fl_cnt (P : Fr → Bool) (g : Nat → Fr) : ∀ m, (fl g m).countP P = cn (fun i => P (g i)) m
  | 0 => rfl
  | m + 1 => by
    rw [fl_succ, List.countP_append, fl_cnt P g m, List.countP_singleton]
    show _ = if P (g m) = true then _ else _
    by_cases c : P (g m) = true
    · rw [if_pos c, if_pos c]
    · rw [if_neg c, if_neg c]; rfl
def Bf (x y : Fr) : Prop := y.2.2.1.toInt < x.2.2.1.toInt ∨ (x.2.2.1.toInt = y.2.2.1.toInt ∧ x.2.2.2.toInt < y.2.2.2.toInt)
def bf (x y : Fr) : Bool := decide (y.2.2.1.toInt < x.2.2.1.toInt ∨ (x.2.2.1.toInt = y.2.2.1.toInt ∧ x.2.2.2.toInt < y.2.2.2.toInt))
theorem bf_iff {x y : Fr} : bf x y = true ↔ Bf x y := decide_eq_true_iff
theorem bf_irr (x : Fr) : ¬ Bf x x := by
  unfold Bf
  omega
theorem bf_asym {x y : Fr} (h : Bf x y) : ¬ Bf y x := by
  unfold Bf at *
  omega
def Srt (g : Nat → Fr) (m : Nat) : Prop := ∀ i j, i < j → j < m → Bf (g i) (g j)
theorem srt_cnt {g : Nat → Fr} {m i : Nat} (hs : Srt g m) (hi : i < m) : ∀ n, n ≤ m → cn (fun q => bf (g q) (g i)) n = min n i
  | 0, _ => by
    show 0 = _
    omega
  | n + 1, hn => by
    unfold cn
    rw [srt_cnt hs hi n (by omega)]
    by_cases c : n < i
    · rw [if_pos (bf_iff.mpr (hs n i c hi))]; omega
    · rw [if_neg]
      · omega
      · intro hb
        have hb := bf_iff.mp hb
        by_cases c2 : n = i
        · subst c2; exact bf_irr _ hb
        · exact bf_asym (hs i n (by omega) (by omega)) hb
def QL (g h : Nat → Fr) (m : Nat) : Prop := (fl g m).Perm (fl h m) ∧ Srt g m
theorem ql_ex {g h : Nat → Fr} {m i : Nat} (q : QL g h m) (hi : i < m) : ∃ j, j < m ∧ h j = g i := fl_mem.mp (q.1.mem_iff.mp (fl_mem.mpr ⟨i, hi, rfl⟩))
theorem ql_ahead {g h : Nat → Fr} {m j : Nat} (q : QL g h m) (hj : j < m) : ∃ i, i < m ∧ h j = g i ∧ cn (fun k => bf (h k) (h j)) m = i := by
  obtain ⟨i, hi, e⟩ := fl_mem.mp (q.1.mem_iff.mpr (fl_mem.mpr ⟨j, hj, rfl⟩))
  refine ⟨i, hi, e.symm, ?_⟩
  rw [← fl_cnt (fun y => bf y (h j)) h m, ← q.1.countP_eq, fl_cnt, ← e, srt_cnt q.2 hi m (Nat.le_refl m)]
  omega
theorem ql_at {g h : Nat → Fr} {m j i : Nat} (q : QL g h m) (hj : j < m) (e : cn (fun k => bf (h k) (h j)) m = i) : i < m ∧ h j = g i := by
  obtain ⟨i', h1, h2, h3⟩ := ql_ahead q hj
  have : i' = i := h3.symm.trans e
  subst this
  exact ⟨h1, h2⟩
theorem ql_0 {g h : Nat → Fr} : QL g h 0 := ⟨List.Perm.refl _, fun _ _ _ h => absurd h (Nat.not_lt_zero _)⟩
theorem ql_cg {g g' h h' : Nat → Fr} {m : Nat} (q : QL g h m) (hg : ∀ i, i < m → g' i = g i) (hh : ∀ i, i < m → h' i = h i) : QL g' h' m := by
  refine ⟨?_, fun i j hij hj => ?_⟩
  · rw [fl_cg hg, fl_cg hh]; exact q.1
  · rw [hg i (by omega), hg j hj]; exact q.2 i j hij hj
/-- the first one is sent -/
theorem ql_send {g h : Nat → Fr} {m j : Nat} (q : QL g h (m + 1)) (hj : j < m + 1) (e : h j = g 0) : QL (fun i => g (i + 1)) (delF h j) m := by
  refine ⟨?_, fun a b hab hb => q.2 (a + 1) (b + 1) (by omega) (by omega)⟩
  have h1 := fl_delp (g := h) (m := m) (j := j) (by omega)
  have h2 := fl_delp (g := g) (m := m) (j := 0) (by omega)
  rw [e] at h1
  have h3 := (h2.symm.trans (q.1.trans h1)).cons_inv
  rwa [fl_cg (g := delF g 0) (g' := fun i => g (i + 1)) (fun i _ => if_neg (Nat.not_lt_zero i))] at h3
/-- one more -/
theorem ql_put {g h : Nat → Fr} {x : Fr} {m j : Nat} (q : QL g h m) (hj : j ≤ m) (h1 : ∀ i, i < j → Bf (g i) x) (h2 : ∀ i, j ≤ i → i < m → Bf x (g i)) : QL (insF g j x) (insF h m x) (m + 1) := by
  refine ⟨?_, ?_⟩
  · exact (fl_insp hj).trans (((List.Perm.cons x q.1)).trans (fl_insp (Nat.le_refl m)).symm)
  · intro a b hab hb
    unfold insF
    by_cases ca : a < j
    · rw [if_pos ca]
      by_cases cb : b < j
      · rw [if_pos cb]; exact q.2 a b hab (by omega)
      · rw [if_neg cb]
        by_cases cb2 : b = j
        · rw [if_pos cb2]; exact h1 a ca
        · rw [if_neg cb2]; exact q.2 a (b - 1) (by omega) (by omega)
    · rw [if_neg ca, if_neg (show ¬ b < j by omega), if_neg (show ¬ b = j by omega)]
      by_cases ca2 : a = j
      · rw [if_pos ca2]; exact h2 (b - 1) (by omega) (by omega)
      · rw [if_neg ca2]; exact q.2 (a - 1) (b - 1) (by omega) (by omega)
