/-! the system: present, snapshot, imagined, history; the calls -/
def XV (M nx : Nat) (S : Sy) : Prop := (∀ i, i < 7 → IM M (S.1 i)) ∧ (nx < 4 ∧ S.2.1 1 = nI nx) ∧ ∃ q, q ≤ 4 ∧ S.2.1 2 = nI q
theorem XV.mono {M M' nx : Nat} {S : Sy} (h : XV M nx S) (hM : M ≤ M') : XV M' nx S := ⟨fun i hi => (h.1 i hi).mono hM, h.2⟩
theorem rem4_n : ∀ n : Fin 4, rem4 (nI n.val + 1) = nI ((n.val + 1) % 4) := by decide +kernel
theorem rem4_b : ∀ n : Fin 4, rem4 (nI n.val + 4 - 1) = nI ((n.val + 3) % 4) := by decide +kernel
theorem rec_x {nx : Nat} {S : Sy} : (xRec nx S).1 0 = S.1 0 := by
  show (if 0 = 3 + nx then S.1 0 else S.1 0) = _
  rw [if_neg (by omega)]
theorem rec_xi {nx i : Nat} {S : Sy} (h : i ≠ 3 + nx) : (xRec nx S).1 i = S.1 i := if_neg h
theorem rec_xn {nx : Nat} {S : Sy} : (xRec nx S).1 (3 + nx) = S.1 0 := if_pos rfl
theorem rec_1 {nx : Nat} {S : Sy} : (xRec nx S).2.1 1 = rem4 (S.2.1 1 + 1) := rfl
theorem rec_2 {nx : Nat} {S : Sy} : (xRec nx S).2.1 2 = if 4 < S.2.1 2 + 1 then 4 else S.2.1 2 + 1 := rfl
theorem rec_0 {nx : Nat} {S : Sy} : (xRec nx S).2.1 0 = S.2.1 0 := rfl
theorem siz_k {q : Nat} (hq : q ≤ 4) : (if (4 : Int32) < nI q + 1 then 4 else nI q + 1) = nI (if q = 4 then 4 else q + 1) := by
  rcases (show q = 0 ∨ q = 1 ∨ q = 2 ∨ q = 3 ∨ q = 4 by omega) with rfl | rfl | rfl | rfl | rfl <;> decide
theorem xv_rec {M nx : Nat} {S : Sy} (h : XV M nx S) : XV M ((nx + 1) % 4) (xRec nx S) := by
  obtain ⟨h1, ⟨n1, n2⟩, q, q1, q2⟩ := h
  refine ⟨fun i hi => ?_, ⟨Nat.mod_lt _ (by decide), ?_⟩, if q = 4 then 4 else q + 1, ?_, ?_⟩
  · by_cases c : i = 3 + nx
    · subst c; rw [rec_xn]; exact h1 0 (by decide)
    · rw [rec_xi c]; exact h1 i hi
  · rw [rec_1, n2]; exact rem4_n ⟨nx, n1⟩
  · by_cases c : q = 4
    · rw [if_pos c]; omega
    · rw [if_neg c]; omega
  · rw [rec_2, q2]; exact siz_k q1
theorem xs_ne {S : Sy} {i j : Nat} {σ : St} (h : j ≠ i) : (xst S i σ).1 j = S.1 j := if_neg h
theorem xst_at {S : Sy} {i : Nat} {σ : St} : (xst S i σ).1 i = σ := if_pos rfl
theorem xv_st {M nx i : Nat} {S : Sy} {τ : St} (h : XV M nx S) (hτ : IM M τ) : XV M nx (xst S i τ) := by
  refine ⟨fun j hj => ?_, h.2⟩
  by_cases c : j = i
  · subst c; rw [xst_at]; exact hτ
  · rw [xs_ne c]; exact h.1 j hj
theorem xv_fs {M nx : Nat} {S T : Sy} (h : XV M nx S) (hf : FS S T) (hT : IM M (T.1 0)) : XV M nx T := by
  obtain ⟨h1, ⟨n1, n2⟩, q, q1, q2⟩ := h
  refine ⟨fun i hi => ?_, ⟨n1, ?_⟩, q, q1, ?_⟩
  · by_cases c : i = 0
    · subst c; exact hT
    · rw [hf.1 i c]; exact h1 i hi
  · rw [hf.2.1 1 (by decide) (by decide)]; exact n2
  · rw [hf.2.1 2 (by decide) (by decide)]; exact q2
/-- a call that is no act, or an act that is recorded -/
def Act (nx : Nat) (S S' : Sy) : Prop := S' = S ∨ ∃ τ, S' = xst (xRec nx S) 0 τ
theorem act_xv {M nx : Nat} {S : Sy} {τ : St} (h : XV M nx S) (hτ : IM M τ) : XV M ((nx + 1) % 4) (xst (xRec nx S) 0 τ) := xv_st (xv_rec h) hτ
theorem undo_k {M nx : Nat} {S : Sy} {τ : St} (h : XV M nx S) (hτ : IM M τ) : ∃ q, q ≤ 4 ∧ S.2.1 2 = nI q ∧ (xUndo ((nx + 1) % 4) (xst (xRec nx S) 0 τ)).1 = nI (if q = 4 then 3 else q) ∧ (xUndo ((nx + 1) % 4) (xst (xRec nx S) 0 τ)).2.1 0 = S.1 0 ∧ XV M nx (xUndo ((nx + 1) % 4) (xst (xRec nx S) 0 τ)).2 := by
  have ha := act_xv h hτ
  obtain ⟨h1, ⟨n1, n2⟩, q, q1, q2⟩ := h
  have e2 : (xst (xRec nx S) 0 τ).2.1 2 = nI (if q = 4 then 4 else q + 1) := by
    rw [xst_r, rec_2, q2]; exact siz_k q1
  have e1 : (xst (xRec nx S) 0 τ).2.1 1 = nI ((nx + 1) % 4) := ha.2.1.2
  have en : ((nx + 1) % 4 + 3) % 4 = nx := by omega
  have e3 : (xst (xRec nx S) 0 τ).1 (3 + ((nx + 1) % 4 + 3) % 4) = S.1 0 := by
    rw [en, xs_ne (by omega), rec_xn]
  have hs : ¬ (xst (xRec nx S) 0 τ).2.1 2 = 0 := by
    rw [e2]
    refine nI_ne0 ?_ ?_
    · by_cases c : q = 4
      · rw [if_pos c]; omega
      · rw [if_neg c]; omega
    · by_cases c : q = 4
      · rw [if_pos c]; omega
      · rw [if_neg c]; omega
  have eb : xBack ((nx + 1) % 4) (xst (xRec nx S) 0 τ) = (1, xsc (xsc (xst (xst (xRec nx S) 0 τ) 0 (S.1 0)) 1 (rem4 (nI ((nx + 1) % 4) + 4 - 1))) 2 (nI (if q = 4 then 4 else q + 1) - 1)) := by
    unfold xBack
    rw [if_neg hs, e3, e1, e2]
  have e5 : nI (if q = 4 then 4 else q + 1) - 1 = nI (if q = 4 then 3 else q) := by
    rcases (show q = 0 ∨ q = 1 ∨ q = 2 ∨ q = 3 ∨ q = 4 by omega) with rfl | rfl | rfl | rfl | rfl <;> decide
  refine ⟨q, q1, q2, ?_⟩
  unfold xUndo
  rw [eb, if_neg (show ¬ (1 : Int32) = 0 by decide), e5]
  dsimp only
  refine ⟨rfl, rfl, fun i hi => ?_, ⟨n1, ?_⟩, if q = 4 then 3 else q, ?_, rfl⟩
  · show IM M ((xst (xst (xRec nx S) 0 τ) 0 (S.1 0)).1 i)
    by_cases c : i = 0
    · subst c; rw [xst_at]; exact h1 0 (by decide)
    · rw [xs_ne c]; exact ha.1 i hi
  · show rem4 (nI ((nx + 1) % 4) + 4 - 1) = nI nx
    rw [rem4_b ⟨(nx + 1) % 4, Nat.mod_lt _ (by decide)⟩]
    show nI (((nx + 1) % 4 + 3) % 4) = _
    rw [en]
  · by_cases c : q = 4
    · rw [if_pos c]; omega
    · rw [if_neg c]; omega
theorem im_of {C N K M : Nat} {σ : St} (h : IV C N K σ) (h1 : C ≤ M) (h2 : N ≤ M) (h3 : K ≤ M) : IM M σ := ⟨C, N, K, h1, h2, h3, h⟩
-- keep, restore, seconds
theorem keep_k {M nx : Nat} {S : Sy} (h : XV M nx S) : XV M nx (xKeep S).2 ∧ (xKeep S).2.1 0 = S.1 0 ∧ (xKeep S).2.1 1 = S.1 0 ∧ (xKeep S).2.2.1 0 = 1 ∧ (xKeep S).1 = (S.1 0).2 0 := by
  have a := xv_st (i := 1) h (h.1 0 (by decide))
  exact ⟨⟨a.1, a.2⟩, rfl, rfl, rfl, rfl⟩
set_option maxRecDepth 100000 in
theorem pass_xv {M nx n : Nat} {S : Sy} (hM : M < 100000000) (hn1 : 1 ≤ n) (hn : n ≤ 10) (h : XV M nx S) : xPass nx S (nI n) = xPassK (xRec nx S) n ∧ XV (M + 10000) ((nx + 1) % 4) (xPassK (xRec nx S) n).2 ∧ YG ((xPassK (xRec nx S) n).2.1 0) ∧ FS (xRec nx S) (xPassK (xRec nx S) n).2 := by
  have hr := xv_rec h
  obtain ⟨C, N, K, c1, c2, c3, i⟩ := hr.1 0 (by decide)
  obtain ⟨-, -, ⟨N', p3, p4⟩, p5, p6⟩ := pass_k (S := xRec nx S) (T := xRec nx S) (by omega) (by omega) rfl i n hn
  refine ⟨?_, xv_fs (hr.mono (by omega)) p6 (im_of p4 (by omega) (by omega) (by omega)), p5 (by omega), p6⟩
  unfold xPass
  rw [if_neg (show ¬ nI n < (1 : Int32) from nI_nlt (b := 1) hn1 (by omega)), if_neg (show ¬ (10 : Int32) < nI n from nI_nlt (a := 10) hn (by omega)), nI_clamp (by omega)]
theorem rest_k {M nx : Nat} {S : Sy} (h : XV M nx S) (h0 : S.2.1 0 = 1) : xRestore nx S = ((S.1 1).2 0, xst (xRec nx S) 0 (S.1 1)) ∧ XV M ((nx + 1) % 4) (xst (xRec nx S) 0 (S.1 1)) := by
  refine ⟨?_, act_xv h (h.1 1 (by decide))⟩
  unfold xRestore
  rw [h0, if_neg (show ¬ (1 : Int32) = 0 by decide), rec_xi (show 1 ≠ 3 + nx by omega)]
/-- seconds at once, and in two parts -/
def PT (M nx a b : Nat) (S : Sy) : Prop := ∃ S1 S2 S3 S4 S5 : Sy, ∃ n2 n3 n4 n5 : Nat, ∃ ck t f1 f2 : Int32,
  xKeep S = (ck, S1) ∧ XV M nx S1 ∧ xPass nx S1 (nI (a + b)) = (t, S2) ∧ XV M n2 S2 ∧ YG (S2.1 0) ∧ (S2.1 0).2 0 = ck + nI a + nI b ∧
  xRestore n2 S2 = (ck, S3) ∧ XV M n3 S3 ∧ xPass n3 S3 (nI a) = (f1, S4) ∧ XV M n4 S4 ∧ xPass n4 S4 (nI b) = (f2, S5) ∧ XV M n5 S5 ∧ f1 + f2 = t ∧ S5.1 0 = S2.1 0
set_option maxRecDepth 100000 in
theorem parts_k {M nx a b : Nat} {S : Sy} (hM : M < 10000000) (ha1 : 1 ≤ a) (ha : a ≤ 4) (hb1 : 1 ≤ b) (hb : b ≤ 4) (h : XV M nx S) : PT (M + 40000) nx a b S := by
  obtain ⟨k1, k2, k3, k4, k5⟩ := keep_k h
  generalize hS1 : (xKeep S).2 = S1 at *
  obtain ⟨p1, p2, p3, p4⟩ := pass_xv (n := a + b) (by omega) (by omega) (by omega) k1
  generalize hS2 : (xPassK (xRec nx S1) (a + b)).2 = S2 at *
  have e20 : S2.2.1 0 = 1 := by rw [p4.2.1 0 (by decide) (by decide), rec_0]; exact k4
  have e21 : S2.1 1 = S.1 0 := by rw [p4.1 1 (by decide), rec_xi (by omega)]; exact k3
  obtain ⟨r1, r2⟩ := rest_k p2 e20
  rw [e21] at r1 r2
  generalize hS3 : xst (xRec ((nx + 1) % 4) S2) 0 (S.1 0) = S3 at *
  have e30 : S3.1 0 = S.1 0 := by rw [← hS3]; rfl
  obtain ⟨q1, q2, -, -⟩ := pass_xv (n := a) (by omega) ha1 (by omega) r2
  obtain ⟨u1, u2, -, -⟩ := pass_xv (n := b) (by omega) hb1 (by omega) q2
  have hr := xv_rec k1
  obtain ⟨C, N, K, c1, c2, c3, i⟩ := hr.1 0 (by decide)
  have eA : (xRec nx S1).1 0 = S.1 0 := rec_x.trans k2
  have hi0 := i
  obtain ⟨w1, w2, ⟨Nw, w3, w4⟩, -, -⟩ := pass_k (S := xRec nx S1) (T := xRec ((((nx + 1) % 4) + 1) % 4) S3) (by omega) (by omega) (by rw [rec_x, e30, eA]) i a (by omega)
  obtain ⟨v1, v2, -, -, -⟩ := pass_k (S := (xPassK (xRec nx S1) a).2) (T := xRec ((((((nx + 1) % 4) + 1) % 4) + 1) % 4) (xPassK (xRec ((((nx + 1) % 4) + 1) % 4) S3) a).2) (by omega) (by omega) (by rw [rec_x]; exact w2) w4 b (by omega)
  have ad := pass_add (xRec nx S1) a b
  have e51 : (xPassK (xRec ((((((nx + 1) % 4) + 1) % 4) + 1) % 4) (xPassK (xRec ((((nx + 1) % 4) + 1) % 4) S3) a).2) b).2.1 0 = S2.1 0 := by
    rw [v2, ← hS2, ad]
  have eck : (S2.1 0).2 0 = (xKeep S).1 + nI a + nI b := by
    obtain ⟨-, -, ⟨N', -, z⟩, -, -⟩ := pass_k (S := xRec nx S1) (T := xRec nx S1) (by omega) (by omega) rfl hi0 (a + b) (by omega)
    rw [hS2] at z
    rw [z.1, k5, ← eA, hi0.1, nI_add, nI_add, Nat.add_assoc]
  have et : (xPassK (xRec ((((nx + 1) % 4) + 1) % 4) S3) a).1 + (xPassK (xRec ((((((nx + 1) % 4) + 1) % 4) + 1) % 4) (xPassK (xRec ((((nx + 1) % 4) + 1) % 4) S3) a).2) b).1 = (xPassK (xRec nx S1) (a + b)).1 := by
    rw [w1, v1, ad]
  refine ⟨S1, S2, S3, _, _, _, _, _, _, (xKeep S).1, (xPassK (xRec nx S1) (a + b)).1, _, _, by rw [← hS1], k1.mono (by omega), by rw [p1, ← hS2], p2.mono (by omega), p3, eck, by rw [r1, k5], r2.mono (by omega), q1, q2.mono (by omega), u1, u2.mono (by omega), et, e51⟩
