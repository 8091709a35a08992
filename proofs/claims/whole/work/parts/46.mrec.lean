set_option maxRecDepth 100000 in
set_option maxHeartbeats 8000000 in
theorem c_X10_record (l : Launch) {D : DD} {B z : Nat} {h : HF} {b : Nat} {μ : Mo} {q : Nat} (hq : q ≤ 4) (eq : μ.1 0 = nI q)  : CT l yX10_record cX10_record 2 none 0 0 [.ref b] D B z (mput D h b μ) none 0 0 (mput D h b (mRec μ)) := by
  refine CT.of (L := [(0, .ref b)]) (by decide +kernel) (Nat.le_of_ble_eq_true rfl) rfl ?_
  intro P E S0 M0 AR BL ME CO X hr hnm
  have tail : ∀ (ν : Mo) (r : Nat), r ≤ 3 → ν.1 0 = nI r → mRec1 ν = mRec μ → J P l E { frames := 0, cells := 0, slots := 0, locals := 0 } S0 M0 AR BL ME CO D B 2 (MQ BL (QC none D B (z + 0) (mput D h b (mRec μ))) AR S0 0 0 (aB B)) 0 0 z (mput D h b ν) [(0, .ref b)] [] 49 := by
    intro ν r hr3 er em
    refine j_iconst X (v := 0) dX10_record_49 (by decide) ?_
    refine j_istore_n X (L' := [(1, .int 0), (0, .ref b)]) dX10_record_50 rfl (by decide) rfl ?_
    have loop51 : ∀ (n k : Nat), k + n = 1752 → J P l E { frames := 0, cells := 0, slots := 0, locals := 0 } S0 M0 AR BL ME CO D B 2 (MQ BL (QC none D B (z + 0) (mput D h b (mRec μ))) AR S0 0 0 (aB B)) 0 0 z (mput D h b (mar ν 1 (blk (ν.2 1) (ν.2 0) (1752 * r) k))) [(0, .ref b), (1, .int (nI k))] [] 51 := by
      intro n
      induction n with
      | zero =>
        intro k hk
        obtain rfl : k = 1752 := by omega
        refine j_iload_n X 1 dX10_record_51 rfl rfl ?_
        refine j_sipush X (v := 1752) dX10_record_52 (by decide) ?_
        refine j_icmp_ge X (tgt := 85) dX10_record_55 (by decide) (fun c_55 => ?_) (fun c_55 => absurd c_55 (by decide))
        refine j_aload_n X 0 dX10_record_85 rfl rfl ?_
        refine j_dup X dX10_record_86 rfl ?_
        refine j_get X fG_RX10_40 mput_0 rfl rfl dX10_record_87 ?_
        refine j_iconst X (v := 1) dX10_record_90 (by decide) ?_
        refine j_iadd X dX10_record_91 ?_
        refine j_put X fG_RX10_40 fW_10_2 mput_0 rfl rfl rfl (Nat.le_of_ble_eq_true rfl) dX10_record_92 ?_
        refine j_heap (h' := mput D h b (msc (mar ν 1 (blk (ν.2 1) (ν.2 0) (1752 * r) 1752)) 0 (((mar ν 1 (blk (ν.2 1) (ν.2 0) (1752 * r) 1752)).1 0) + 1))) mput_s0 ?_
        exact j_vret X hr rfl (by rw [← em, mRec1, er, nI_clamp (by omega)]; rw [← er]; rfl) dX10_record_95
      | succ n ih =>
        intro k hk
        have hlt : nI k < 1752 := nlt_lit (b := 1752) (by omega) (by decide)
        refine j_iload_n X 1 dX10_record_51 rfl rfl ?_
        refine j_sipush X (v := 1752) dX10_record_52 (by decide) ?_
        refine j_icmp_ge X (tgt := 85) dX10_record_55 (by decide) (fun c_55 => absurd hlt c_55) (fun c_55 => ?_)
        refine j_aload_n X 0 dX10_record_58 rfl rfl ?_
        refine j_get X fG_RX10_13 mput_0 rfl rfl dX10_record_59 ?_
        refine j_sipush X (v := 1752) dX10_record_62 (by decide) ?_
        refine j_aload_n X 0 dX10_record_65 rfl rfl ?_
        refine j_get X fG_RX10_40 mput_0 rfl rfl dX10_record_66 ?_
        refine j_imul X dX10_record_69 ?_
        refine j_iload_n X 1 dX10_record_70 rfl rfl ?_
        refine j_iadd X dX10_record_71 ?_
        refine j_aload_n X 0 dX10_record_72 rfl rfl ?_
        refine j_get X fG_RX10_7 mput_0 rfl rfl dX10_record_73 ?_
        refine j_iload_n X 1 dX10_record_76 rfl rfl ?_
        refine j_ldM X (vp_in_nI (by omega) (by decide)) dX10_record_77 ?_
        refine j_iast X (mput_k 2 (by decide)) rfl (by show vp_in (1752 * ν.1 0 + nI k) 7008; rw [er]; exact in_rec hr3 (by omega)) dX10_record_78 ?_
        refine j_heap (h' := mput D h b (mar (mar ν 1 (blk (ν.2 1) (ν.2 0) (1752 * r) k)) 1 (upd ((mar ν 1 (blk (ν.2 1) (ν.2 0) (1752 * r) k)).2 1) ((1752 * ((mar ν 1 (blk (ν.2 1) (ν.2 0) (1752 * r) k)).1 0)) + (nI k)).toNatClampNeg (now (mar ν 1 (blk (ν.2 1) (ν.2 0) (1752 * r) k)) (nI k))))) mput_a1 ?_
        obtain ⟨v1, ev1⟩ : ∃ y : Int32, (nI k) + 1 = y := ⟨_, rfl⟩
        refine j_iinc X 1 (k := 1) (v := v1) (L' := [(1, .int v1), (0, .ref b)]) dX10_record_79 rfl (by decide) (by decide) ev1 rfl ?_
        refine j_goto X (tgt := 51) dX10_record_82 (by decide) ?_
        refine j_sub [1, 0] (L' := [(0, .ref b), (1, .int (nI (k + 1)))]) (by subst ev1; first | with_reducible rfl | (simp only [nI_succ k, if_pos c_55]; done) | (simp only [nI_succ k, if_pos c_55]; rfl) | rfl) ?_
        refine j_heap (h' := mput D h b (mar ν 1 (blk (ν.2 1) (ν.2 0) (1752 * r) (k + 1)))) (by subst ev1; exact congrArg (mput D h b) (cp_at (by show (1752 * ν.1 0 + nI k).toNatClampNeg = _; rw [er]; exact ix_rec hr3 (by omega)) (by rw [now_nI (by omega)]; rfl))) ?_
        exact ih (k + 1) (by omega)
    refine j_sub [1, 0] (L' := [(0, .ref b), (1, .int (nI 0))]) (by first | with_reducible rfl | (simp only []; done) | (simp only []; rfl) | rfl) ?_
    refine j_heap (h' := mput D h b (mar ν 1 (blk (ν.2 1) (ν.2 0) (1752 * r) 0))) (congrArg (mput D h b) cp_0) ?_
    exact loop51 1752 0 rfl
  refine j_aload_n X 0 dX10_record_0 rfl rfl ?_
  refine j_get X fG_RX10_40 mput_0 rfl rfl dX10_record_1 ?_
  refine j_iconst X (v := 4) dX10_record_4 (by decide) ?_
  refine j_icmp_ne X (tgt := 49) dX10_record_5 (by decide) (fun c_5 => ?_) (fun c_5 => ?_)
  · exact tail μ q (by rcases Nat.lt_or_ge q 4 with h_ | h_; omega; exact absurd (by rw [eq, show q = 4 by omega]; rfl) c_5) eq (by rw [mRec, if_neg c_5])
  · refine j_iconst X (v := 0) dX10_record_8 (by decide) ?_
    refine j_istore_n X (L' := [(1, .int 0), (0, .ref b)]) dX10_record_9 rfl (by decide) rfl ?_
    have loop10 : ∀ (n k : Nat), k + n = 5256 → J P l E { frames := 0, cells := 0, slots := 0, locals := 0 } S0 M0 AR BL ME CO D B 2 (MQ BL (QC none D B (z + 0) (mput D h b (mRec μ))) AR S0 0 0 (aB B)) 0 0 z (mput D h b (mar μ 1 (blk (μ.2 1) (fun j => μ.2 1 (j + 1752)) 0 k))) [(0, .ref b), (1, .int (nI k))] [] 10 := by
      intro n
      induction n with
      | zero =>
        intro k hk
        obtain rfl : k = 5256 := by omega
        refine j_iload_n X 1 dX10_record_10 rfl rfl ?_
        refine j_sipush X (v := 5256) dX10_record_11 (by decide) ?_
        refine j_icmp_ge X (tgt := 39) dX10_record_14 (by decide) (fun c_14 => ?_) (fun c_14 => absurd c_14 (by decide))
        refine j_aload_n X 0 dX10_record_39 rfl rfl ?_
        refine j_dup X dX10_record_40 rfl ?_
        refine j_get X fG_RX10_40 mput_0 rfl rfl dX10_record_41 ?_
        refine j_iconst X (v := 1) dX10_record_44 (by decide) ?_
        refine j_isub X dX10_record_45 ?_
        refine j_put X fG_RX10_40 fW_10_2 mput_0 rfl rfl rfl (Nat.le_of_ble_eq_true rfl) dX10_record_46 ?_
        refine j_heap (h' := mput D h b (msc (mar μ 1 (blk (μ.2 1) (fun j => μ.2 1 (j + 1752)) 0 5256)) 0 (((mar μ 1 (blk (μ.2 1) (fun j => μ.2 1 (j + 1752)) 0 5256)).1 0) - 1))) mput_s0 ?_
        refine j_sub [0] (L' := [(0, .ref b)]) rfl ?_
        exact tail (mShift μ) 3 (by decide) (by show μ.1 0 - 1 = nI 3; rw [c_5]; rfl) (by rw [mRec, if_pos c_5])
      | succ n ih =>
        intro k hk
        have hlt : nI k < 5256 := nlt_lit (b := 5256) (by omega) (by decide)
        refine j_iload_n X 1 dX10_record_10 rfl rfl ?_
        refine j_sipush X (v := 5256) dX10_record_11 (by decide) ?_
        refine j_icmp_ge X (tgt := 39) dX10_record_14 (by decide) (fun c_14 => absurd hlt c_14) (fun c_14 => ?_)
        refine j_aload_n X 0 dX10_record_17 rfl rfl ?_
        refine j_get X fG_RX10_13 mput_0 rfl rfl dX10_record_18 ?_
        refine j_iload_n X 1 dX10_record_21 rfl rfl ?_
        refine j_aload_n X 0 dX10_record_22 rfl rfl ?_
        refine j_get X fG_RX10_13 mput_0 rfl rfl dX10_record_23 ?_
        refine j_iload_n X 1 dX10_record_26 rfl rfl ?_
        refine j_sipush X (v := 1752) dX10_record_27 (by decide) ?_
        refine j_iadd X dX10_record_30 ?_
        refine j_iald X (mput_k 2 (by decide)) rfl (in_shift (by omega)) dX10_record_31 ?_
        refine j_iast X (mput_k 2 (by decide)) rfl (vp_in_nI (by omega) (by decide)) dX10_record_32 ?_
        refine j_heap (h' := mput D h b (mar (mar μ 1 (blk (μ.2 1) (fun j => μ.2 1 (j + 1752)) 0 k)) 1 (upd ((mar μ 1 (blk (μ.2 1) (fun j => μ.2 1 (j + 1752)) 0 k)).2 1) (nI k).toNatClampNeg (((mar μ 1 (blk (μ.2 1) (fun j => μ.2 1 (j + 1752)) 0 k)).2 1) ((nI k) + 1752).toNatClampNeg)))) mput_a1 ?_
        obtain ⟨v2, ev2⟩ : ∃ y : Int32, (nI k) + 1 = y := ⟨_, rfl⟩
        refine j_iinc X 1 (k := 1) (v := v2) (L' := [(1, .int v2), (0, .ref b)]) dX10_record_33 rfl (by decide) (by decide) ev2 rfl ?_
        refine j_goto X (tgt := 10) dX10_record_36 (by decide) ?_
        refine j_sub [1, 0] (L' := [(0, .ref b), (1, .int (nI (k + 1)))]) (by subst ev2; first | with_reducible rfl | (simp only [nI_succ k, if_pos c_5, if_pos c_14]; done) | (simp only [nI_succ k, if_pos c_5, if_pos c_14]; rfl) | rfl) ?_
        refine j_heap (h' := mput D h b (mar μ 1 (blk (μ.2 1) (fun j => μ.2 1 (j + 1752)) 0 (k + 1)))) (by subst ev2; exact congrArg (mput D h b) (cp_at (by rw [nI_clamp (by omega)]; omega) (by rw [mar_at, show (1752 : Int32) = nI 1752 from rfl, nI_add, nI_clamp (by omega)]; exact blk_out (by omega)))) ?_
        exact ih (k + 1) (by omega)
    refine j_sub [1, 0] (L' := [(0, .ref b), (1, .int (nI 0))]) (by first | with_reducible rfl | (simp only [if_pos c_5]; done) | (simp only [if_pos c_5]; rfl) | rfl) ?_
    refine j_heap (h' := mput D h b (mar μ 1 (blk (μ.2 1) (fun j => μ.2 1 (j + 1752)) 0 0))) (congrArg (mput D h b) cp_0) ?_
    exact loop10 5256 0 rfl
