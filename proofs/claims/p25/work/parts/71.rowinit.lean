/-! a Row is made -/
set_option maxRecDepth 100000 in
theorem c_X5_init (l : Launch) {D : DD} {B : Nat} {h : HF} {r N : Nat} (hN : N ≤ 1000) (hr_ : h r = some (.inr (5, [.null]))) : CT l yX5_init cX5_init 2 none 1 29 [.ref r, .int (nI N)] D B (r + 1) h none 1 N (hupd (hupd h (r + 1) (arrE D N (fun _ => 0))) r (rowE (r + 1))) := by
  refine CT.of (L := [(0, .ref r), (1, .int (nI N))]) (by decide +kernel) (Nat.le_of_ble_eq_true rfl) rfl ?_
  intro P E S0 M0 AR BL ME CO X hr hnm
  refine j_aload_n X 0 dX5_init_0 rfl rfl ?_
  refine j_objInit X kM_RX5_1 ⟨Nat.le_of_ble_eq_true rfl, Nat.le_of_ble_eq_true rfl⟩ dX5_init_1 ?_
  refine j_aload_n X 0 dX5_init_4 rfl rfl ?_
  refine j_iload_n X 1 dX5_init_5 rfl rfl ?_
  refine j_iconst X (v := 0) dX5_init_6 (by decide) ?_
  refine j_mmax X kM_RX5_7 ⟨Nat.le_of_ble_eq_true rfl, Nat.le_of_ble_eq_true rfl, Nat.zero_le _, Nat.zero_le _⟩ dX5_init_7 ?_
  refine j_tops (fun v ev => ?_)
  have hv : v = nI N := by rw [← ev]; exact if_neg (nI_nlt (a := N) (b := 0) (by omega) (by omega))
  refine j_newi X (N := N) (by rw [hv]; exact nI_nlt (a := N) (b := 0) (by omega) (by omega)) (by rw [hv, nI_clamp (by omega)]) (by omega) ⟨Nat.le_refl _, by show 0 + N ≤ N; omega⟩ dX5_init_10 ?_
  refine j_putF X hnm fG_RX5_13 fF_5_0 ((hupd_ne (by omega)).trans hr_) rfl rfl rfl (Nat.le_of_ble_eq_true rfl) dX5_init_12 ?_
  have main : J P l E { frames := 1, cells := 1, slots := N, locals := 29 } S0 M0 AR BL ME CO D B 2 (MQ BL (QC none D B (r + 1 + 1) (hupd (hupd h (r + 1) (arrE D N (fun _ => 0))) r (rowE (r + 1)))) AR S0 1 N (aB B)) 1 N (r + 1 + 1) (hupd (hupd h (r + 1) (arrE D N (fun _ => 0))) r (rowE (r + 1))) [(0, .ref r), (1, .int (nI N))] [] 15 := j_vret X hr rfl rfl dX5_init_15
  rw [Nat.zero_add, Nat.zero_add]
  exact main
