theorem la_gt {N k : Nat} (hN : N ≤ 3072) (hk : k ≤ 4000) (h : ¬ nI N - nI 6 < nI k) : k + 6 ≤ N := by
  rw [Int32.lt_iff_toInt_lt, pk_sub_toInt (by omega) (by omega), nI_toInt (by omega)] at h
  omega
theorem mo_dv : ∀ j, j < 70 → defaultValue (ty_12 j) = vp_V ((List.range 70).map mo_F0) j := fun j hj => by
  match j, hj with
  | 0, _ => rfl
  | 1, _ => rfl
  | 2, _ => rfl
  | 3, _ => rfl
  | 4, _ => rfl
  | 5, _ => rfl
  | 6, _ => rfl
  | 7, _ => rfl
  | 8, _ => rfl
  | 9, _ => rfl
  | 10, _ => rfl
  | 11, _ => rfl
  | 12, _ => rfl
  | 13, _ => rfl
  | 14, _ => rfl
  | 15, _ => rfl
  | 16, _ => rfl
  | 17, _ => rfl
  | 18, _ => rfl
  | 19, _ => rfl
  | 20, _ => rfl
  | 21, _ => rfl
  | 22, _ => rfl
  | 23, _ => rfl
  | 24, _ => rfl
  | 25, _ => rfl
  | 26, _ => rfl
  | 27, _ => rfl
  | 28, _ => rfl
  | 29, _ => rfl
  | 30, _ => rfl
  | 31, _ => rfl
  | 32, _ => rfl
  | 33, _ => rfl
  | 34, _ => rfl
  | 35, _ => rfl
  | 36, _ => rfl
  | 37, _ => rfl
  | 38, _ => rfl
  | 39, _ => rfl
  | 40, _ => rfl
  | 41, _ => rfl
  | 42, _ => rfl
  | 43, _ => rfl
  | 44, _ => rfl
  | 45, _ => rfl
  | 46, _ => rfl
  | 47, _ => rfl
  | 48, _ => rfl
  | 49, _ => rfl
  | 50, _ => rfl
  | 51, _ => rfl
  | 52, _ => rfl
  | 53, _ => rfl
  | 54, _ => rfl
  | 55, _ => rfl
  | 56, _ => rfl
  | 57, _ => rfl
  | 58, _ => rfl
  | 59, _ => rfl
  | 60, _ => rfl
  | 61, _ => rfl
  | 62, _ => rfl
  | 63, _ => rfl
  | 64, _ => rfl
  | 65, _ => rfl
  | 66, _ => rfl
  | 67, _ => rfl
  | 68, _ => rfl
  | 69, _ => rfl
  | q + 70, h => exact absurd h (by omega)
theorem mo_fv (G : px_G) : ((List.range 70).map mo_F0).map (px_v G) = (List.range 70).map mo_F0 := by
  rw [List.map_map]
  refine List.map_congr_left fun k _ => ?_
  show px_v G (mo_F0 k) = mo_F0 k
  unfold mo_F0
  split <;> rfl
section LAL
variable {G : px_G} {nm : String} {Q : Option Value → px_H → Prop}
theorem la_head {C S k : Nat} {h : px_H} (hN : G.2.2.2.2.1 ≤ 3072) (hk : k ≤ 4000) (hQ : ∀ h, Q (some (.int 1)) h) (kk : k + 6 ≤ G.2.2.2.2.1 → px_W G 30 C S (m_La nm) 27 (la_ls (nI k)) [] h Q) : px_W G 30 C S (m_La nm) 18 (la_ls (nI k)) [] h Q := by
  refine wp_iload_n d_La_law_18 rfl rfl ?_
  refine wp_aload_n d_La_law_19 rfl rfl rfl ?_
  refine wp_slen (v := nI G.2.2.2.2.1) d_La_law_20 rfl ?_
  refine wp_bipush (v := nI 6) d_La_law_21 (by decide) ?_
  refine wp_isub d_La_law_23 ?_
  refine wp_icmp_gt (t := 1392) d_La_law_24 (by decide) (fun c => ?_) (fun c => kk (la_gt hN hk c))
  refine wp_iconst (v := 1) d_La_law_1392 rfl ?_
  refine wp_ireturn d_La_law_1393 rfl rfl ?_
  exact hQ _
theorem la_in {k j : Nat} (hN : G.2.2.2.2.1 ≤ 3072) (h : k + 6 ≤ G.2.2.2.2.1) (hj : j < 6) : vp_in (nI k + nI j) G.2.2.2.2.1 := by
  rw [nI_add]
  exact vp_in_nI (by omega) (by omega)
theorem la_loop (hN : G.2.2.2.2.1 ≤ 3072) (hQ : ∀ h, Q (some (.int 1)) h) : ∀ (q k : Nat), G.2.2.2.2.1 ≤ k + 6 * q → k ≤ 4000 → ∀ (K : tc_K) (I : Nat → Int32) (A : Nat → Nat → Int32) (L : Nat → Nat → Int64) (r : tc_r), JI K I A L r → px_W G 30 (5 * q) (2420 * q) (m_La nm) 18 (la_ls (nI k)) [] (HT K (JM I A L) r) Q := by
  intro q
  induction q with
  | zero =>
    intro k h1 hk K I A L r hJ
    exact la_head hN hk hQ (fun h6 => by omega)
  | succ q ih =>
    intro k h1 hk K I A L r hJ
    refine la_head hN hk hQ (fun h6 => ?_)
    refine wp_room (C' := 5 + 5 * q) (S' := 2420 + 2420 * q) (by omega) (by omega) ?_
    refine la_round (vp_in_nI (by omega) (by omega)) (la_in (j := 1) hN h6 (by omega)) (la_in (j := 2) hN h6 (by omega)) (la_in (j := 3) hN h6 (by omega)) (la_in (j := 4) hN h6 (by omega)) (la_in (j := 5) hN h6 (by omega)) hJ (fun K2 I2 A2 L2 r2 hJ2 => ?_)
    refine wp_iinc (v := nI (k + 6)) (ls' := la_ls (nI (k + 6))) d_La_law_1386 (Nat.le_of_ble_eq_true rfl) rfl (nI_add k 6) rfl ?_
    refine wp_goto (t := 18) d_La_law_1389 (by decide) ?_
    exact ih (k + 6) (by omega) (by omega) K2 I2 A2 L2 r2 hJ2
theorem la_start (hN : G.2.2.2.2.1 ≤ 3072) (hQ : ∀ h, Q (some (.int 1)) h) : px_W G 30 2662 1244298 (m_La nm) 0 [some (.retAddr 0), none, none, none] [] [] Q := by
  refine wp_new (ci := 0) (N := 11) (C' := 2661) (S' := 1244287) (fs := [.null, .null, .null, .null, .null, .null, .null, .null, .int 0, .int 0, .int 0]) d_La_law_0 ⟨(R_0, T_0, 11), rfl, rfl, w_94, w_95, w_73, fun j hj => by
    match j, hj with
    | 0, _ => exact ⟨_, rfl, rfl⟩
    | 1, _ => exact ⟨_, rfl, rfl⟩
    | 2, _ => exact ⟨_, rfl, rfl⟩
    | 3, _ => exact ⟨_, rfl, rfl⟩
    | 4, _ => exact ⟨_, rfl, rfl⟩
    | 5, _ => exact ⟨_, rfl, rfl⟩
    | 6, _ => exact ⟨_, rfl, rfl⟩
    | 7, _ => exact ⟨_, rfl, rfl⟩
    | 8, _ => exact ⟨_, rfl, rfl⟩
    | 9, _ => exact ⟨_, rfl, rfl⟩
    | 10, _ => exact ⟨_, rfl, rfl⟩⟩ rfl rfl rfl ?_
  show px_W _ _ _ _ _ _ _ [.ref 0] [.inr (0, [.null, .null, .null, .null, .null, .null, .null, .null, .int 0, .int 0, .int 0])] _
  refine wp_dup d_La_law_3 rfl ?_
  refine wp_callI (M' := m_TC_init) (as := []) (D' := 29) (C1 := 57) (C2 := 2604) (S1 := 955) (S2 := 1243332) rfl d_La_law_4 rfl w_96 w_97 k_TC_init (Nat.le_of_ble_eq_true rfl) rfl (Nat.le_of_ble_eq_true rfl) (by omega) rfl rfl ?_
  refine c_TC_init (by decide) ?_
  show px_W _ _ _ _ _ 7 _ [.ref 0] (HC tc_K0 (fun _ => 0)) _
  refine wp_astore_n (ls' := [_, _, _, _]) d_La_law_7 rfl (Nat.le_of_ble_eq_true rfl) rfl rfl ?_
  refine wp_new (ci := 12) (N := 70) (C' := 2603) (S' := 1243262) (fs := (List.range 70).map mo_F0) d_La_law_8 ⟨(R_12, T_12, 70), rfl, rfl, w_987, w_988, w_80, fun j hj => ⟨ty_12 j, ty_12_ok j hj, mo_dv j hj⟩⟩ (mo_fv G) rfl rfl ?_
  show px_W _ _ _ _ _ _ _ (.ref (HC tc_K0 (fun _ => 0)).length :: _) (HI (HC tc_K0 (fun _ => 0)) mo_F0 []) _
  refine wp_dup d_La_law_11 rfl ?_
  refine wp_callI (M' := m_Mo_init) (as := []) (D' := 29) (C1 := 38) (C2 := 2565) (S1 := 1802) (S2 := 1241460) rfl d_La_law_12 rfl w_989 w_990 k_Mo_init (Nat.le_of_ble_eq_true rfl) rfl (Nat.le_of_ble_eq_true rfl) (by omega) rfl rfl ?_
  refine c_Mo_init (by decide) ?_
  rw [HM_0]
  show px_W _ _ _ _ _ 15 _ [.ref 58] (HT tc_K0 (JM mo_I0 mo_A0 mo_L0) (fun _ => 0, [])) _
  refine wp_astore_n (ls' := [_, _, _, _]) d_La_law_15 rfl (Nat.le_of_ble_eq_true rfl) rfl rfl ?_
  refine wp_iconst (v := nI 0) d_La_law_16 rfl ?_
  refine wp_istore_n (ls' := la_ls (nI 0)) d_La_law_17 rfl (Nat.le_of_ble_eq_true rfl) rfl ?_
  exact la_loop hN hQ 513 0 (by omega) (by omega) _ _ _ _ _ JI_0
end LAL
