section TDJ
variable {G : px_G} {D : Nat} {K K1 : tc_K} {MZ h : px_H} {r r1 : tc_r} {Q : Option Value → px_H → Prop} {mn : tc_mn} {sc : tc_sc} {B : Nat} {S : sp_St} {t0 : Int32} {hl fr : Nat → Int32}
theorem w_told {C S pc : Nat} {M : px_M} {ls : px_L} {st : List Value} {y k0 : Nat} {fs : List Value} (hM : M.1.cls = "TubeChain") (hk : k0 < 7) (he : h[y]? = some (.inr (5 + k0, fs))) (d : decode M.2.1 pc = .ok (.instanceof 94, 3)) (kt : k0 = 6 → px_W G D C S M (pc + 3) ls (.int 1 :: st) h Q) (kf : k0 ≠ 6 → px_W G D C S M (pc + 3) ls (.int 0 :: st) h Q) : px_W G D C S M pc ls (.ref y :: st) h Q := by
  match k0, hk, he with
  | 6, _, he => exact wp_instY d rfl (by rw [hM]; exact w_383) he (kt rfl)
  | 0, _, he => exact wp_instN d rfl (by decide) (by rw [hM]; exact w_383) he (kf (by decide))
  | 1, _, he => exact wp_instN d rfl (by decide) (by rw [hM]; exact w_383) he (kf (by decide))
  | 2, _, he => exact wp_instN d rfl (by decide) (by rw [hM]; exact w_383) he (kf (by decide))
  | 3, _, he => exact wp_instN d rfl (by decide) (by rw [hM]; exact w_383) he (kf (by decide))
  | 4, _, he => exact wp_instN d rfl (by decide) (by rw [hM]; exact w_383) he (kf (by decide))
  | 5, _, he => exact wp_instN d rfl (by decide) (by rw [hM]; exact w_383) he (kf (by decide))
set_option maxRecDepth 4000 in
theorem c_TC_of {n : Nat} {kd vd : Nat → Int32} {ln : Nat → Nat} {cl : List sp_Cl} {m y : Int32} (hD : 10 ≤ D) (hR : tc_R mn sc MZ r) (hst : st_ok mn sc K 0 n B kd vd ln cl) (hB : B ≤ 20000) (h7 : K.1 0 7 = nI n) (hal : hall mn (K.2.2.1 0) n kd vd) (hpl : ∀ mm, mm < n → ∃ a, a < n ∧ K.2.1 0 4 a = nI mm ∧ ∀ q, q < a → K.2.1 0 4 q ≠ nI mm) (kn : ¬ (0 ≤ m ∧ m < nI n) → Q (some (.int (-1))) (HT K MZ r)) (k0' : ∀ mm a, mm < n → m = nI mm → a < n → K.2.1 0 4 a = nI mm → y = 0 → Q (some (.int (kd mm))) (HT K MZ r)) (k1 : ∀ mm a, mm < n → m = nI mm → a < n → K.2.1 0 4 a = nI mm → y = 1 → Q (some (.int (vd mm))) (HT K MZ r)) (k2 : ∀ mm a, mm < n → m = nI mm → a < n → K.2.1 0 4 a = nI mm → y = 2 → Q (some (.int (K.2.1 0 1 mm))) (HT K MZ r)) (k3 : ∀ mm a, mm < n → m = nI mm → a < n → K.2.1 0 4 a = nI mm → y = 3 → Q (some (.int (K.2.1 0 2 mm))) (HT K MZ r)) (k4 : ∀ mm a, mm < n → m = nI mm → a < n → K.2.1 0 4 a = nI mm → (∀ q, q < a → K.2.1 0 4 q ≠ nI mm) → y = 4 → Q (some (.int (nI a))) (HT K MZ r)) (k5 : ∀ mm a, mm < n → m = nI mm → a < n → K.2.1 0 4 a = nI mm → y = 5 → ∀ r2 : tc_r, tc_R mn sc MZ r2 → Q (some (.int (sp_pace (sp_fact kd vd (K.2.1 0 1) mm a) cl))) (HT K MZ r2)) (k6 : ∀ mm a, mm < n → m = nI mm → a < n → K.2.1 0 4 a = nI mm → y = 6 → ∀ r2 : tc_r, tc_R mn sc MZ r2 → Q (some (.int (sp_hold (kd, vd, K.2.1 0 3, ln, n, cl) (K.2.1 0 1) a))) (HT K MZ r2)) (kd0 : ∀ mm a, mm < n → m = nI mm → a < n → K.2.1 0 4 a = nI mm → y ≠ 0 → y ≠ 1 → y ≠ 2 → y ≠ 3 → y ≠ 4 → y ≠ 5 → y ≠ 6 → Q (some (.int (-1))) (HT K MZ r)) : px_W G D 0 0 m_TC_of 0 (px_ent 3 [.ref 0, .int m, .int y]) [] (HT K MZ r) Q := by
  show px_W _ _ _ _ _ _ [some (.ref 0), some (.int m), some (.int y)] [] _ _
  refine wp_aload_n d_TC_of_0 rfl rfl rfl ?_
  refine wp_iload_n d_TC_of_1 rfl rfl ?_
  refine wp_callV (r := (R_0, T_0, 11)) (M' := m_TC_isNoMan) (as := [_]) (D' := D - 1) (C1 := 0) (C2 := 0) (S1 := 0) (S2 := 0) d_TC_of_2 rfl w_407 w_409 w_0 tt_0 k_TC_isNoMan (Nat.le_of_ble_eq_true rfl) rfl (Nat.le_of_ble_eq_true rfl) (by omega) rfl rfl ?_
  refine c_TC_isNoMan (by omega) h7 (fun hm => ?_) (fun hm => ?_)
  · skip
    refine wp_if_eq (t := 10) d_TC_of_5 (by decide) (fun c_5 => (absurd c_5 (by decide))) (fun c_5 => ?_)
    refine wp_iconst (v := (-1)) d_TC_of_8 rfl ?_
    refine wp_ireturn d_TC_of_9 rfl rfl ?_
    exact kn hm
  · skip
    refine wp_if_eq (t := 10) d_TC_of_5 (by decide) (fun c_5 => ?_) (fun c_5 => (absurd c_5 (by decide)))
    obtain ⟨mm, hmn, rfl⟩ := (i_rng (by have := hst.1.1; omega)).mp hm
    have hn6 := hst.1.1
    obtain ⟨pm, k0, v0, hwm, hmm, hkd, hvd⟩ := hal mm hmn
    obtain ⟨hk, -, hv10, -⟩ := hR.2.1 pm k0 mm v0 hmm
    obtain ⟨a, ha, he, hmin⟩ := hpl mm hmn
    have hla : ln a = mm := (nI_eq (by have := (hst.1.2.2 a ha).1; omega) (by omega)).mp ((hst.1.2.2 a ha).2.1.symm.trans he)
    refine wp_iload_n d_TC_of_10 rfl rfl ?_
    refine wp_topi (fun y_11 e_11 => ?_)
    by_cases s_11_0 : y_11 = 0
    · rw [s_11_0]
      refine wp_tableIn (off := 41) (t := 52) d_TC_of_11 (by decide) (by decide) rfl (by decide) ?_
      refine wp_aload_n d_TC_of_52 rfl rfl rfl ?_
      refine gC_0 gf_TC_24_0 d_TC_of_53 ?_
      refine gK_0 (s := 0) (by decide) gf_TC_101_1 d_TC_of_56 ?_
      refine wp_iload_n d_TC_of_59 rfl rfl ?_
      refine lK_0 (s := 0) (by decide) d_TC_of_60 (vp_in_nI (by omega) (by decide)) ?_
      rw [nI_clamp (by omega), hwm]
      show px_W _ _ _ _ _ _ _ (.ref pm :: _) _ _
      refine v_kind_TC rfl hk (hR.man hmm) d_TC_of_61 (Nat.le_of_ble_eq_true rfl) (by omega) ?_
      refine wp_ireturn d_TC_of_64 rfl rfl ?_
      rw [← hkd]
      exact k0' mm a hmn rfl ha he (e_11.symm.trans s_11_0)
    by_cases s_11_1 : y_11 = 1
    · rw [s_11_1]
      refine wp_tableIn (off := 54) (t := 65) d_TC_of_11 (by decide) (by decide) rfl (by decide) ?_
      refine wp_aload_n d_TC_of_65 rfl rfl rfl ?_
      refine gC_0 gf_TC_24_0 d_TC_of_66 ?_
      refine gK_0 (s := 0) (by decide) gf_TC_101_1 d_TC_of_69 ?_
      refine wp_iload_n d_TC_of_72 rfl rfl ?_
      refine lK_0 (s := 0) (by decide) d_TC_of_73 (vp_in_nI (by omega) (by decide)) ?_
      rw [nI_clamp (by omega), hwm]
      show px_W _ _ _ _ _ _ _ (.ref pm :: _) _ _
      refine wp_getf d_TC_of_74 (gk_TC_109 _ hk) (hR.man hmm) rfl ?_
      refine wp_ireturn d_TC_of_77 rfl rfl ?_
      rw [← hvd]
      exact k1 mm a hmn rfl ha he (e_11.symm.trans s_11_1)
    by_cases s_11_2 : y_11 = 2
    · rw [s_11_2]
      refine wp_tableIn (off := 67) (t := 78) d_TC_of_11 (by decide) (by decide) rfl (by decide) ?_
      refine wp_aload_n d_TC_of_78 rfl rfl rfl ?_
      refine gC_0 gf_TC_24_0 d_TC_of_79 ?_
      refine gK_1 (s := 0) (by decide) gf_TC_112_1 d_TC_of_82 ?_
      refine wp_iload_n d_TC_of_85 rfl rfl ?_
      refine lK_1 (s := 0) (by decide) d_TC_of_86 (vp_in_nI (by omega) (by decide)) ?_
      rw [nI_clamp (by omega)]
      refine wp_ireturn d_TC_of_87 rfl rfl ?_
      exact k2 mm a hmn rfl ha he (e_11.symm.trans s_11_2)
    by_cases s_11_3 : y_11 = 3
    · rw [s_11_3]
      refine wp_tableIn (off := 77) (t := 88) d_TC_of_11 (by decide) (by decide) rfl (by decide) ?_
      refine wp_aload_n d_TC_of_88 rfl rfl rfl ?_
      refine gC_0 gf_TC_24_0 d_TC_of_89 ?_
      refine gK_2 (s := 0) (by decide) gf_TC_115_1 d_TC_of_92 ?_
      refine wp_iload_n d_TC_of_95 rfl rfl ?_
      refine lK_2 (s := 0) (by decide) d_TC_of_96 (vp_in_nI (by omega) (by decide)) ?_
      rw [nI_clamp (by omega)]
      refine wp_ireturn d_TC_of_97 rfl rfl ?_
      exact k3 mm a hmn rfl ha he (e_11.symm.trans s_11_3)
    by_cases s_11_4 : y_11 = 4
    · rw [s_11_4]
      refine wp_tableIn (off := 87) (t := 98) d_TC_of_11 (by decide) (by decide) rfl (by decide) ?_
      refine wp_aload_n d_TC_of_98 rfl rfl rfl ?_
      refine gC_0 gf_TC_24_0 d_TC_of_99 ?_
      refine wp_iload_n d_TC_of_102 rfl rfl ?_
      refine toS 0 ?_
      refine wp_callV (r := (R_1, T_1, 15)) (M' := m_Si_placeOf) (as := [_]) (D' := D - 1) (C1 := 0) (C2 := 0) (S1 := 0) (S2 := 0) d_TC_of_103 rfl w_434 w_435 w_436 (ts_0 (by decide)) k_Si_placeOf (Nat.le_of_ble_eq_true rfl) rfl (Nat.le_of_ble_eq_true rfl) (by omega) rfl rfl ?_
      refine c_Si_placeOf (by omega) (by decide) hst.1.2.1 hst.1.1 ha he hmin ?_
      rw [ks_id]
      refine wp_ireturn d_TC_of_106 rfl rfl ?_
      exact k4 mm a hmn rfl ha he hmin (e_11.symm.trans s_11_4)
    by_cases s_11_5 : y_11 = 5
    · rw [s_11_5]
      refine wp_tableIn (off := 96) (t := 107) d_TC_of_11 (by decide) (by decide) rfl (by decide) ?_
      refine wp_aload_n d_TC_of_107 rfl rfl rfl ?_
      refine gC_0 gf_TC_24_0 d_TC_of_108 ?_
      refine wp_aload_n d_TC_of_111 rfl rfl rfl ?_
      refine gC_0 gf_TC_24_0 d_TC_of_112 ?_
      refine wp_iload_n d_TC_of_115 rfl rfl ?_
      refine toS 0 ?_
      refine wp_callV (r := (R_1, T_1, 15)) (M' := m_Si_placeOf) (as := [_]) (D' := D - 1) (C1 := 0) (C2 := 0) (S1 := 0) (S2 := 0) d_TC_of_116 rfl w_434 w_435 w_436 (ts_0 (by decide)) k_Si_placeOf (Nat.le_of_ble_eq_true rfl) rfl (Nat.le_of_ble_eq_true rfl) (by omega) rfl rfl ?_
      refine c_Si_placeOf (by omega) (by decide) hst.1.2.1 hst.1.1 ha he hmin ?_
      rw [ks_id]
      refine toS 0 ?_
      refine wp_callV (r := (R_1, T_1, 15)) (M' := m_Si_paceAt) (as := [_]) (D' := D - 1) (C1 := 0) (C2 := 0) (S1 := 0) (S2 := 0) d_TC_of_119 rfl w_438 w_439 w_440 (ts_0 (by decide)) k_Si_paceAt (Nat.le_of_ble_eq_true rfl) rfl (Nat.le_of_ble_eq_true rfl) (by omega) rfl rfl ?_
      refine c_Si_paceAt (by omega) (by decide) hR hst.2.2.2.2.1 hst.1 ha hst.2.1 (by omega) (fun r2 hR2 => ?_)
      rw [ks_id]
      refine wp_ireturn d_TC_of_122 rfl rfl ?_
      have k2 := k5 mm a hmn rfl ha he (e_11.symm.trans s_11_5) r2 hR2
      rw [hla]
      exact k2
    by_cases s_11_6 : y_11 = 6
    · rw [s_11_6]
      refine wp_tableIn (off := 112) (t := 123) d_TC_of_11 (by decide) (by decide) rfl (by decide) ?_
      refine wp_aload_n d_TC_of_123 rfl rfl rfl ?_
      refine gC_0 gf_TC_24_0 d_TC_of_124 ?_
      refine wp_aload_n d_TC_of_127 rfl rfl rfl ?_
      refine gC_0 gf_TC_24_0 d_TC_of_128 ?_
      refine wp_iload_n d_TC_of_131 rfl rfl ?_
      refine toS 0 ?_
      refine wp_callV (r := (R_1, T_1, 15)) (M' := m_Si_placeOf) (as := [_]) (D' := D - 1) (C1 := 0) (C2 := 0) (S1 := 0) (S2 := 0) d_TC_of_132 rfl w_434 w_435 w_436 (ts_0 (by decide)) k_Si_placeOf (Nat.le_of_ble_eq_true rfl) rfl (Nat.le_of_ble_eq_true rfl) (by omega) rfl rfl ?_
      refine c_Si_placeOf (by omega) (by decide) hst.1.2.1 hst.1.1 ha he hmin ?_
      rw [ks_id]
      refine toS 0 ?_
      refine wp_callV (r := (R_1, T_1, 15)) (M' := m_Si_holdsAt) (as := [_]) (D' := D - 1) (C1 := 0) (C2 := 0) (S1 := 0) (S2 := 0) d_TC_of_135 rfl w_460 w_461 w_462 (ts_0 (by decide)) k_Si_holdsAt (Nat.le_of_ble_eq_true rfl) rfl (Nat.le_of_ble_eq_true rfl) (by omega) rfl rfl ?_
      refine c_Si_holdsAt (by omega) (by decide) hR hst.2.2.2.2.1 hst.1 ha hst.2.1 (by omega) (fun r2 hR2 => ?_)
      rw [ks_id]
      refine wp_ireturn d_TC_of_138 rfl rfl ?_
      exact k6 mm a hmn rfl ha he (e_11.symm.trans s_11_6) r2 hR2
    have n_11_0 : y_11.toInt ≠ 0 := lv_neT s_11_0 rfl
    have n_11_1 : y_11.toInt ≠ 1 := lv_neT s_11_1 rfl
    have n_11_2 : y_11.toInt ≠ 2 := lv_neT s_11_2 rfl
    have n_11_3 : y_11.toInt ≠ 3 := lv_neT s_11_3 rfl
    have n_11_4 : y_11.toInt ≠ 4 := lv_neT s_11_4 rfl
    have n_11_5 : y_11.toInt ≠ 5 := lv_neT s_11_5 rfl
    have n_11_6 : y_11.toInt ≠ 6 := lv_neT s_11_6 rfl
    refine wp_tableOut (t := 139) d_TC_of_11 (by omega) (by decide) ?_
    refine wp_iconst (v := (-1)) d_TC_of_139 rfl ?_
    refine wp_ireturn d_TC_of_140 rfl rfl ?_
    exact kd0 mm a hmn rfl ha he (fun z => s_11_0 (e_11.trans z)) (fun z => s_11_1 (e_11.trans z)) (fun z => s_11_2 (e_11.trans z)) (fun z => s_11_3 (e_11.trans z)) (fun z => s_11_4 (e_11.trans z)) (fun z => s_11_5 (e_11.trans z)) (fun z => s_11_6 (e_11.trans z))
set_option maxRecDepth 4000 in
theorem c_TC_held {n : Nat} {kd vd : Nat → Int32} {ln : Nat → Nat} {cl : List sp_Cl} {m x : Int32} (hD : 2 ≤ D) (hR : tc_R mn sc MZ r) (hst : st_ok mn sc K 0 n B kd vd ln cl) (hB : B ≤ 20000) (h7 : K.1 0 7 = nI n) (kn : ¬ (0 ≤ m ∧ m < nI n) → Q (some (.int (-1))) (HT K MZ r)) (kb : ∀ mm, mm < n → m = nI mm → ¬ (0 ≤ x ∧ x ≤ 9999) → Q (some (.int (-2))) (HT K MZ r)) (kk : ∀ mm, mm < n → m = nI mm → (0 ≤ x ∧ x ≤ 9999) → Q (some (.int (K.2.1 0 1 mm))) (HT (ks K 0 (K.1 0) (va_up (K.2.1 0) 1 (upd (K.2.1 0 1) mm x)) (K.2.2.1 0) (K.2.2.2.1 0)) MZ r)) : px_W G D 0 0 m_TC_held 0 (px_ent 4 [.ref 0, .int m, .int x]) [] (HT K MZ r) Q := by
  show px_W _ _ _ _ _ _ [some (.ref 0), some (.int m), some (.int x), none] [] _ _
  refine wp_aload_n d_TC_held_0 rfl rfl rfl ?_
  refine wp_iload_n d_TC_held_1 rfl rfl ?_
  refine wp_callV (r := (R_0, T_0, 11)) (M' := m_TC_isNoMan) (as := [_]) (D' := D - 1) (C1 := 0) (C2 := 0) (S1 := 0) (S2 := 0) d_TC_held_2 rfl w_407 w_409 w_0 tt_0 k_TC_isNoMan (Nat.le_of_ble_eq_true rfl) rfl (Nat.le_of_ble_eq_true rfl) (by omega) rfl rfl ?_
  refine c_TC_isNoMan (by omega) h7 (fun hm => ?_) (fun hm => ?_)
  · skip
    refine wp_if_eq (t := 10) d_TC_held_5 (by decide) (fun c_5 => (absurd c_5 (by decide))) (fun c_5 => ?_)
    refine wp_iconst (v := (-1)) d_TC_held_8 rfl ?_
    refine wp_ireturn d_TC_held_9 rfl rfl ?_
    exact kn hm
  · skip
    refine wp_if_eq (t := 10) d_TC_held_5 (by decide) (fun c_5 => ?_) (fun c_5 => (absurd c_5 (by decide)))
    obtain ⟨mm, hmn, rfl⟩ := (i_rng (by have := hst.1.1; omega)).mp hm
    have hn6 := hst.1.1
    refine wp_iload_n d_TC_held_10 rfl rfl ?_
    refine wp_if_lt (t := 21) d_TC_held_11 (by decide) (fun c_11 => ?_) (fun c_11 => ?_)
    · skip
      refine wp_bipush (v := (-2)) d_TC_held_21 (by decide) ?_
      refine wp_ireturn d_TC_held_23 rfl rfl ?_
      first
        | exact kb mm hmn rfl (fun z => absurd z.1 (Int32.not_le.mpr c_11))
        | exact kb mm hmn rfl (fun z => c_18 z.2)
    · skip
      refine wp_iload_n d_TC_held_14 rfl rfl ?_
      refine wp_sipush (v := 9999) d_TC_held_15 (by decide) ?_
      refine wp_icmp_le (t := 24) d_TC_held_18 (by decide) (fun c_18 => ?_) (fun c_18 => ?_)
      · skip
        refine wp_aload_n d_TC_held_24 rfl rfl rfl ?_
        refine gC_0 gf_TC_24_0 d_TC_held_25 ?_
        refine gK_1 (s := 0) (by decide) gf_TC_112_1 d_TC_held_28 ?_
        refine wp_iload_n d_TC_held_31 rfl rfl ?_
        refine lK_1 (s := 0) (by decide) d_TC_held_32 (vp_in_nI (by omega) (by decide)) ?_
        rw [nI_clamp (by omega)]
        refine wp_istore_n (ls' := [_, _, _, _]) d_TC_held_33 rfl (by decide) rfl ?_
        refine wp_aload_n d_TC_held_34 rfl rfl rfl ?_
        refine gC_0 gf_TC_24_0 d_TC_held_35 ?_
        refine gK_1 (s := 0) (by decide) gf_TC_112_1 d_TC_held_38 ?_
        refine wp_iload_n d_TC_held_41 rfl rfl ?_
        refine wp_iload_n d_TC_held_42 rfl rfl ?_
        refine toS 0 ?_
        refine sS_1 (by decide) d_TC_held_43 (vp_in_nI (by omega) (by decide)) ?_
        refine wp_iload_n d_TC_held_44 rfl rfl ?_
        refine wp_ireturn d_TC_held_45 rfl rfl ?_
        rw [nI_clamp (by omega)]
        exact kk mm hmn rfl ⟨Int32.not_lt.mp c_11, c_18⟩
      · skip
        refine wp_bipush (v := (-2)) d_TC_held_21 (by decide) ?_
        refine wp_ireturn d_TC_held_23 rfl rfl ?_
        first
          | exact kb mm hmn rfl (fun z => absurd z.1 (Int32.not_le.mpr c_11))
          | exact kb mm hmn rfl (fun z => c_18 z.2)
set_option maxRecDepth 4000 in
theorem c_TC_row {n : Nat} {kd vd : Nat → Int32} {ln : Nat → Nat} {cl : List sp_Cl} {m pt x : Int32} (hD : 2 ≤ D) (hR : tc_R mn sc MZ r) (hst : st_ok mn sc K 0 n B kd vd ln cl) (hB : B ≤ 20000) (h7 : K.1 0 7 = nI n) (hal : hall mn (K.2.2.1 0) n kd vd) (kn : ¬ ((0 ≤ m ∧ m < nI n) ∧ (0 ≤ pt ∧ pt ≤ 3)) → Q (some (.int (-1))) (HT K MZ r)) (kb : ∀ mm pp, mm < n → m = nI mm → pp < 4 → pt = nI pp → ¬ (0 ≤ x ∧ x ≤ 9) → Q (some (.int (-2))) (HT K MZ r)) (ks6 : ∀ mm pp, mm < n → m = nI mm → pp < 4 → pt = nI pp → (0 ≤ x ∧ x ≤ 9) → ¬ kd mm = 6 → Q (some (.int (-3))) (HT K MZ r)) (kk : ∀ mm pp, mm < n → m = nI mm → pp < 4 → pt = nI pp → (0 ≤ x ∧ x ≤ 9) → kd mm = 6 → Q (some (.int (K.2.1 0 3 (4 * mm + pp)))) (HT (ks K 0 (K.1 0) (va_up (K.2.1 0) 3 (upd (K.2.1 0 3) (4 * mm + pp) x)) (K.2.2.1 0) (K.2.2.2.1 0)) MZ r)) : px_W G D 0 0 m_TC_row 0 (px_ent 5 [.ref 0, .int m, .int pt, .int x]) [] (HT K MZ r) Q := by
  show px_W _ _ _ _ _ _ [some (.ref 0), some (.int m), some (.int pt), some (.int x), none] [] _ _
  refine wp_aload_n d_TC_row_0 rfl rfl rfl ?_
  refine wp_iload_n d_TC_row_1 rfl rfl ?_
  refine wp_callV (r := (R_0, T_0, 11)) (M' := m_TC_isNoMan) (as := [_]) (D' := D - 1) (C1 := 0) (C2 := 0) (S1 := 0) (S2 := 0) d_TC_row_2 rfl w_407 w_409 w_0 tt_0 k_TC_isNoMan (Nat.le_of_ble_eq_true rfl) rfl (Nat.le_of_ble_eq_true rfl) (by omega) rfl rfl ?_
  refine c_TC_isNoMan (by omega) h7 (fun hm => ?_) (fun hm => ?_)
  · skip
    refine wp_if_ne (t := 17) d_TC_row_5 (by decide) (fun c_5 => ?_) (fun c_5 => (absurd c_5 (by decide)))
    refine wp_iconst (v := (-1)) d_TC_row_17 rfl ?_
    refine wp_ireturn d_TC_row_18 rfl rfl ?_
    first
      | exact kn (fun z => hm z.1)
      | exact kn (fun z => absurd z.2.1 (Int32.not_le.mpr c_9))
      | exact kn (fun z => c_14 ((i_lt (a := 4) (b := 3) rfl).mpr z.2.2))
  · skip
    refine wp_if_ne (t := 17) d_TC_row_5 (by decide) (fun c_5 => (absurd c_5 (by decide))) (fun c_5 => ?_)
    refine wp_iload_n d_TC_row_8 rfl rfl ?_
    refine wp_if_lt (t := 17) d_TC_row_9 (by decide) (fun c_9 => ?_) (fun c_9 => ?_)
    · skip
      refine wp_iconst (v := (-1)) d_TC_row_17 rfl ?_
      refine wp_ireturn d_TC_row_18 rfl rfl ?_
      first
        | exact kn (fun z => hm z.1)
        | exact kn (fun z => absurd z.2.1 (Int32.not_le.mpr c_9))
        | exact kn (fun z => c_14 ((i_lt (a := 4) (b := 3) rfl).mpr z.2.2))
    · skip
      refine wp_iload_n d_TC_row_12 rfl rfl ?_
      refine wp_iconst (v := 4) d_TC_row_13 rfl ?_
      refine wp_icmp_lt (t := 19) d_TC_row_14 (by decide) (fun c_14 => ?_) (fun c_14 => ?_)
      · skip
        obtain ⟨mm, hmn, rfl⟩ := (i_rng (by have := hst.1.1; omega)).mp hm
        have hn6 := hst.1.1
        obtain ⟨pm, k0, v0, hwm, hmm, hkd, hvd⟩ := hal mm hmn
        obtain ⟨hk, -, hv10, -⟩ := hR.2.1 pm k0 mm v0 hmm
        obtain ⟨pp, hp4, rfl⟩ := (i_rng (m := pt) (n := 4) (by decide)).mp ⟨Int32.not_lt.mp c_9, c_14⟩
        refine wp_iload_n d_TC_row_19 rfl rfl ?_
        refine wp_if_lt (t := 29) d_TC_row_20 (by decide) (fun c_20 => ?_) (fun c_20 => ?_)
        · skip
          refine wp_bipush (v := (-2)) d_TC_row_29 (by decide) ?_
          refine wp_ireturn d_TC_row_31 rfl rfl ?_
          first
            | exact kb mm pp hmn rfl hp4 rfl (fun z => absurd z.1 (Int32.not_le.mpr c_20))
            | exact kb mm pp hmn rfl hp4 rfl (fun z => c_26 z.2)
        · skip
          refine wp_iload_n d_TC_row_23 rfl rfl ?_
          refine wp_bipush (v := 9) d_TC_row_24 (by decide) ?_
          refine wp_icmp_le (t := 32) d_TC_row_26 (by decide) (fun c_26 => ?_) (fun c_26 => ?_)
          · skip
            have hx : 0 ≤ x ∧ x ≤ 9 := ⟨Int32.not_lt.mp c_20, c_26⟩
            refine wp_aload_n d_TC_row_32 rfl rfl rfl ?_
            refine gC_0 gf_TC_24_0 d_TC_row_33 ?_
            refine gK_0 (s := 0) (by decide) gf_TC_101_1 d_TC_row_36 ?_
            refine wp_iload_n d_TC_row_39 rfl rfl ?_
            refine lK_0 (s := 0) (by decide) d_TC_row_40 (vp_in_nI (by omega) (by decide)) ?_
            rw [nI_clamp (by omega), hwm]
            show px_W _ _ _ _ _ _ _ (.ref pm :: _) _ _
            refine w_told rfl hk (hR.man hmm) d_TC_row_41 (fun hk6 => ?_) (fun hk6 => ?_)
            · skip
              refine wp_if_ne (t := 50) d_TC_row_44 (by decide) (fun c_44 => ?_) (fun c_44 => (absurd c_44 (by decide)))
              refine wp_aload_n d_TC_row_50 rfl rfl rfl ?_
              refine gC_0 gf_TC_24_0 d_TC_row_51 ?_
              refine gK_3 (s := 0) (by decide) gf_TC_128_1 d_TC_row_54 ?_
              refine wp_iload_n d_TC_row_57 rfl rfl ?_
              refine wp_iconst (v := 4) d_TC_row_58 rfl ?_
              refine wp_imul d_TC_row_59 ?_
              refine wp_iload_n d_TC_row_60 rfl rfl ?_
              refine wp_iadd d_TC_row_61 ?_
              rw [show nI mm * 4 + nI pp = nI (4 * mm + pp) from by rw [show nI mm * 4 = nI (mm * 4) from pk_mul mm 4, nI_add, Nat.mul_comm]]
              refine lK_3 (s := 0) (by decide) d_TC_row_62 (vp_in_nI (by omega) (by decide)) ?_
              rw [nI_clamp (by omega)]
              refine wp_istore (ls' := [_, _, _, _, _]) d_TC_row_63 (by decide) rfl ?_
              refine wp_aload_n d_TC_row_65 rfl rfl rfl ?_
              refine gC_0 gf_TC_24_0 d_TC_row_66 ?_
              refine gK_3 (s := 0) (by decide) gf_TC_128_1 d_TC_row_69 ?_
              refine wp_iload_n d_TC_row_72 rfl rfl ?_
              refine wp_iconst (v := 4) d_TC_row_73 rfl ?_
              refine wp_imul d_TC_row_74 ?_
              refine wp_iload_n d_TC_row_75 rfl rfl ?_
              refine wp_iadd d_TC_row_76 ?_
              rw [show nI mm * 4 + nI pp = nI (4 * mm + pp) from by rw [show nI mm * 4 = nI (mm * 4) from pk_mul mm 4, nI_add, Nat.mul_comm]]
              refine wp_iload_n d_TC_row_77 rfl rfl ?_
              refine toS 0 ?_
              refine sS_3 (by decide) d_TC_row_78 (vp_in_nI (by omega) (by decide)) ?_
              refine wp_iload d_TC_row_79 rfl ?_
              refine wp_ireturn d_TC_row_81 rfl rfl ?_
              rw [nI_clamp (by omega)]
              exact kk mm pp hmn rfl hp4 rfl hx (by rw [hkd, hk6]; rfl)
            · skip
              refine wp_if_ne (t := 50) d_TC_row_44 (by decide) (fun c_44 => (absurd c_44 (by decide))) (fun c_44 => ?_)
              refine wp_bipush (v := (-3)) d_TC_row_47 (by decide) ?_
              refine wp_ireturn d_TC_row_49 rfl rfl ?_
              exact ks6 mm pp hmn rfl hp4 rfl hx (fun z => hk6 ((nI_eq (b := 6) (by omega) (by decide)).mp (hkd.symm.trans z)))
          · skip
            refine wp_bipush (v := (-2)) d_TC_row_29 (by decide) ?_
            refine wp_ireturn d_TC_row_31 rfl rfl ?_
            first
              | exact kb mm pp hmn rfl hp4 rfl (fun z => absurd z.1 (Int32.not_le.mpr c_20))
              | exact kb mm pp hmn rfl hp4 rfl (fun z => c_26 z.2)
      · skip
        refine wp_iconst (v := (-1)) d_TC_row_17 rfl ?_
        refine wp_ireturn d_TC_row_18 rfl rfl ?_
        first
          | exact kn (fun z => hm z.1)
          | exact kn (fun z => absurd z.2.1 (Int32.not_le.mpr c_9))
          | exact kn (fun z => c_14 ((i_lt (a := 4) (b := 3) rfl).mpr z.2.2))
set_option maxRecDepth 4000 in
theorem c_TC_place {n : Nat} {kd vd : Nat → Int32} {ln : Nat → Nat} {cl : List sp_Cl} {m x : Int32} (hD : 3 ≤ D) (hR : tc_R mn sc MZ r) (hst : st_ok mn sc K 0 n B kd vd ln cl) (hB : B ≤ 20000) (h7 : K.1 0 7 = nI n) (hpl : ∀ mm, mm < n → ∃ a, a < n ∧ K.2.1 0 4 a = nI mm ∧ ∀ q, q < a → K.2.1 0 4 q ≠ nI mm) (kn : ¬ ((0 ≤ m ∧ m < nI n) ∧ (0 ≤ x ∧ x < nI n)) → Q (some (.int (-1))) (HT K MZ r)) (kk : ∀ mm kx a, mm < n → m = nI mm → kx < n → x = nI kx → a < n → K.2.1 0 4 a = nI mm → (∀ q, q < a → K.2.1 0 4 q ≠ nI mm) → ∀ j2 b2, j2 = upd (upd (K.1 0) 8 (nI (n - 1))) 8 (nI (n - 1 + 1)) → b2 4 = upd (va_cpy (va_cpy (K.2.1 0 4) (K.2.1 0 4) (a + 1) a (n - a - 1)) (va_cpy (K.2.1 0 4) (K.2.1 0 4) (a + 1) a (n - a - 1)) kx (kx + 1) (n - 1 - kx)) kx (nI mm) → (∀ q, q ≠ 4 → b2 q = K.2.1 0 q) → Q (some (.int (nI a))) (HT (ks K 0 j2 b2 (K.2.2.1 0) (K.2.2.2.1 0)) MZ r)) : px_W G D 0 0 m_TC_place 0 (px_ent 4 [.ref 0, .int m, .int x]) [] (HT K MZ r) Q := by
  show px_W _ _ _ _ _ _ [some (.ref 0), some (.int m), some (.int x), none] [] _ _
  refine wp_aload_n d_TC_place_0 rfl rfl rfl ?_
  refine wp_iload_n d_TC_place_1 rfl rfl ?_
  refine wp_callV (r := (R_0, T_0, 11)) (M' := m_TC_isNoMan) (as := [_]) (D' := D - 1) (C1 := 0) (C2 := 0) (S1 := 0) (S2 := 0) d_TC_place_2 rfl w_407 w_409 w_0 tt_0 k_TC_isNoMan (Nat.le_of_ble_eq_true rfl) rfl (Nat.le_of_ble_eq_true rfl) (by omega) rfl rfl ?_
  refine c_TC_isNoMan (by omega) h7 (fun hm => ?_) (fun hm => ?_)
  · skip
    refine wp_if_ne (t := 23) d_TC_place_5 (by decide) (fun c_5 => ?_) (fun c_5 => (absurd c_5 (by decide)))
    refine wp_iconst (v := (-1)) d_TC_place_23 rfl ?_
    refine wp_ireturn d_TC_place_24 rfl rfl ?_
    first
      | exact kn (fun z => hm z.1)
      | exact kn (fun z => absurd z.2.1 (Int32.not_le.mpr c_9))
      | exact kn (fun z => c_20 z.2.2)
  · skip
    refine wp_if_ne (t := 23) d_TC_place_5 (by decide) (fun c_5 => (absurd c_5 (by decide))) (fun c_5 => ?_)
    refine wp_iload_n d_TC_place_8 rfl rfl ?_
    refine wp_if_lt (t := 23) d_TC_place_9 (by decide) (fun c_9 => ?_) (fun c_9 => ?_)
    · skip
      refine wp_iconst (v := (-1)) d_TC_place_23 rfl ?_
      refine wp_ireturn d_TC_place_24 rfl rfl ?_
      first
        | exact kn (fun z => hm z.1)
        | exact kn (fun z => absurd z.2.1 (Int32.not_le.mpr c_9))
        | exact kn (fun z => c_20 z.2.2)
    · skip
      refine wp_iload_n d_TC_place_12 rfl rfl ?_
      refine wp_aload_n d_TC_place_13 rfl rfl rfl ?_
      refine gC_0 gf_TC_24_0 d_TC_place_14 ?_
      refine gK_8 (s := 0) (by decide) gf_TC_131_1 d_TC_place_17 ?_
      rw [hst.1.2.1]
      refine wp_icmp_lt (t := 25) d_TC_place_20 (by decide) (fun c_20 => ?_) (fun c_20 => ?_)
      · skip
        obtain ⟨mm, hmn, rfl⟩ := (i_rng (by have := hst.1.1; omega)).mp hm
        have hn6 := hst.1.1
        obtain ⟨kx, hkx, rfl⟩ := (i_rng (m := x) (n := n) (by omega)).mp ⟨Int32.not_lt.mp c_9, c_20⟩
        obtain ⟨a, ha, he, hmin⟩ := hpl mm hmn
        refine wp_aload_n d_TC_place_25 rfl rfl rfl ?_
        refine gC_0 gf_TC_24_0 d_TC_place_26 ?_
        refine wp_iload_n d_TC_place_29 rfl rfl ?_
        refine toS 0 ?_
        refine wp_callV (r := (R_1, T_1, 15)) (M' := m_Si_placeOf) (as := [_]) (D' := D - 1) (C1 := 0) (C2 := 0) (S1 := 0) (S2 := 0) d_TC_place_30 rfl w_434 w_435 w_436 (ts_0 (by decide)) k_Si_placeOf (Nat.le_of_ble_eq_true rfl) rfl (Nat.le_of_ble_eq_true rfl) (by omega) rfl rfl ?_
        refine c_Si_placeOf (by omega) (by decide) hst.1.2.1 hst.1.1 ha he hmin ?_
        rw [ks_id]
        refine wp_istore_n (ls' := [_, _, _, _]) d_TC_place_33 rfl (by decide) rfl ?_
        refine wp_aload_n d_TC_place_34 rfl rfl rfl ?_
        refine gC_0 gf_TC_24_0 d_TC_place_35 ?_
        refine wp_iload_n d_TC_place_38 rfl rfl ?_
        refine toS 0 ?_
        refine wp_callV (r := (R_1, T_1, 15)) (M' := m_Si_removeAt) (as := [_]) (D' := D - 1) (C1 := 0) (C2 := 0) (S1 := 0) (S2 := 0) d_TC_place_39 rfl w_501 w_502 w_503 (ts_0 (by decide)) k_Si_removeAt (Nat.le_of_ble_eq_true rfl) rfl (Nat.le_of_ble_eq_true rfl) (by omega) rfl rfl ?_
        refine c_Si_removeAt (by omega) (by decide) hst.1.2.1 hst.1.1 ha ?_
        skip
        refine wp_aload_n d_TC_place_42 rfl rfl rfl ?_
        refine gC_0 gf_TC_24_0 d_TC_place_43 ?_
        refine wp_iload_n d_TC_place_46 rfl rfl ?_
        refine wp_iload_n d_TC_place_47 rfl rfl ?_
        refine toS 0 ?_
        refine wp_callV (r := (R_1, T_1, 15)) (M' := m_Si_insertAt) (as := [_, _]) (D' := D - 1) (C1 := 0) (C2 := 0) (S1 := 0) (S2 := 0) d_TC_place_48 rfl w_505 w_397 w_398 (ts_0 (by decide)) k_Si_insertAt (Nat.le_of_ble_eq_true rfl) rfl (Nat.le_of_ble_eq_true rfl) (by omega) rfl rfl ?_
        refine c_Si_insertAt (n := n - 1) (by omega) (by decide) rfl (by omega) (by omega) ?_
        rw [ks_tw]
        refine wp_iload_n d_TC_place_51 rfl rfl ?_
        refine wp_ireturn d_TC_place_52 rfl rfl ?_
        exact kk mm kx a hmn rfl hkx rfl ha he hmin _ _ rfl rfl (fun q hq => by
      first
        | exact (if_neg hq).trans (if_neg hq)
        | exact (va_up_ne _ _ hq).trans (va_up_ne _ _ hq))
      · skip
        refine wp_iconst (v := (-1)) d_TC_place_23 rfl ?_
        refine wp_ireturn d_TC_place_24 rfl rfl ?_
        first
          | exact kn (fun z => hm z.1)
          | exact kn (fun z => absurd z.2.1 (Int32.not_le.mpr c_9))
          | exact kn (fun z => c_20 z.2.2)
set_option maxRecDepth 4000 in
theorem c_TC_told {n : Nat} {kd vd : Nat → Int32} {ln : Nat → Nat} {cl : List sp_Cl} {x : Int32} (hD : 2 ≤ D) (hR : tc_R mn sc MZ r) (hst : st_ok mn sc K 0 n B kd vd ln cl) (hB : B ≤ 20000) (k0 : x = 0 → Q (some (.int (K.1 0 9))) (HT K MZ r)) (k1 : x = 1 → Q (some (.int (K.1 0 10))) (HT K MZ r)) (k2 : x = 2 → Q (some (.int (K.1 0 11))) (HT K MZ r)) (k3 : x = 3 → Q (some (.int (sp_rise cl))) (HT K MZ r)) (k4 : x = 4 → Q (some (.int (sp_rest cl))) (HT K MZ r)) (k5 : x = 5 → Q (some (.int (sp_pull cl))) (HT K MZ r)) (kk : ∀ p, p < n → x = nI (10 + p) → Q (some (.int (K.2.1 0 4 p))) (HT K MZ r)) (kn : x ≠ 0 → x ≠ 1 → x ≠ 2 → x ≠ 3 → x ≠ 4 → x ≠ 5 → (∀ p, p < n → x ≠ nI (10 + p)) → Q (some (.int (-1))) (HT K MZ r)) : px_W G D 0 0 m_TC_told 0 (px_ent 2 [.ref 0, .int x]) [] (HT K MZ r) Q := by
  obtain ⟨fs, hfs, f7, f8, f9⟩ := hR.sca (K := K) hst.2.2.2.2.1
  show px_W _ _ _ _ _ _ [some (.ref 0), some (.int x)] [] _ _
  refine wp_iload_n d_TC_told_0 rfl rfl ?_
  refine wp_topi (fun y_1 e_1 => ?_)
  by_cases s_1_0 : y_1 = 0
  · rw [s_1_0]
    refine wp_tableIn (off := 39) (t := 40) d_TC_told_1 (by decide) (by decide) rfl (by decide) ?_
    refine wp_aload_n d_TC_told_40 rfl rfl rfl ?_
    refine gC_0 gf_TC_24_0 d_TC_told_41 ?_
    refine gK_9 (s := 0) (by decide) gf_TC_154_1 d_TC_told_44 ?_
    refine wp_ireturn d_TC_told_47 rfl rfl ?_
    exact k0 (e_1.symm.trans s_1_0)
  by_cases s_1_1 : y_1 = 1
  · rw [s_1_1]
    refine wp_tableIn (off := 47) (t := 48) d_TC_told_1 (by decide) (by decide) rfl (by decide) ?_
    refine wp_aload_n d_TC_told_48 rfl rfl rfl ?_
    refine gC_0 gf_TC_24_0 d_TC_told_49 ?_
    refine gK_10 (s := 0) (by decide) gf_TC_157_1 d_TC_told_52 ?_
    refine wp_ireturn d_TC_told_55 rfl rfl ?_
    exact k1 (e_1.symm.trans s_1_1)
  by_cases s_1_2 : y_1 = 2
  · rw [s_1_2]
    refine wp_tableIn (off := 55) (t := 56) d_TC_told_1 (by decide) (by decide) rfl (by decide) ?_
    refine wp_aload_n d_TC_told_56 rfl rfl rfl ?_
    refine gC_0 gf_TC_24_0 d_TC_told_57 ?_
    refine gK_11 (s := 0) (by decide) gf_TC_160_1 d_TC_told_60 ?_
    refine wp_ireturn d_TC_told_63 rfl rfl ?_
    exact k2 (e_1.symm.trans s_1_2)
  by_cases s_1_3 : y_1 = 3
  · rw [s_1_3]
    refine wp_tableIn (off := 63) (t := 64) d_TC_told_1 (by decide) (by decide) rfl (by decide) ?_
    refine wp_aload_n d_TC_told_64 rfl rfl rfl ?_
    refine gC_0 gf_TC_24_0 d_TC_told_65 ?_
    refine gK_14 (s := 0) (by decide) gf_TC_150_1 d_TC_told_68 ?_
    refine wp_getf d_TC_told_71 gf_TC_163_3 hfs f7 ?_
    refine wp_ireturn d_TC_told_74 rfl rfl ?_
    exact k3 (e_1.symm.trans s_1_3)
  by_cases s_1_4 : y_1 = 4
  · rw [s_1_4]
    refine wp_tableIn (off := 74) (t := 75) d_TC_told_1 (by decide) (by decide) rfl (by decide) ?_
    refine wp_aload_n d_TC_told_75 rfl rfl rfl ?_
    refine gC_0 gf_TC_24_0 d_TC_told_76 ?_
    refine gK_14 (s := 0) (by decide) gf_TC_150_1 d_TC_told_79 ?_
    refine wp_getf d_TC_told_82 gf_TC_166_3 hfs f8 ?_
    refine wp_ireturn d_TC_told_85 rfl rfl ?_
    exact k4 (e_1.symm.trans s_1_4)
  by_cases s_1_5 : y_1 = 5
  · rw [s_1_5]
    refine wp_tableIn (off := 85) (t := 86) d_TC_told_1 (by decide) (by decide) rfl (by decide) ?_
    refine wp_aload_n d_TC_told_86 rfl rfl rfl ?_
    refine gC_0 gf_TC_24_0 d_TC_told_87 ?_
    refine gK_14 (s := 0) (by decide) gf_TC_150_1 d_TC_told_90 ?_
    refine wp_getf d_TC_told_93 gf_TC_169_3 hfs f9 ?_
    refine wp_ireturn d_TC_told_96 rfl rfl ?_
    exact k5 (e_1.symm.trans s_1_5)
  have n_1_0 : y_1.toInt ≠ 0 := lv_neT s_1_0 rfl
  have n_1_1 : y_1.toInt ≠ 1 := lv_neT s_1_1 rfl
  have n_1_2 : y_1.toInt ≠ 2 := lv_neT s_1_2 rfl
  have n_1_3 : y_1.toInt ≠ 3 := lv_neT s_1_3 rfl
  have n_1_4 : y_1.toInt ≠ 4 := lv_neT s_1_4 rfl
  have n_1_5 : y_1.toInt ≠ 5 := lv_neT s_1_5 rfl
  refine wp_tableOut (t := 97) d_TC_told_1 (by omega) (by decide) ?_
  refine wp_iload_n d_TC_told_97 rfl rfl ?_
  refine wp_bipush (v := (nI 10)) d_TC_told_98 (by decide) ?_
  refine wp_icmp_lt (t := 117) d_TC_told_100 (by decide) (fun c_100 => ?_) (fun c_100 => ?_)
  · skip
    refine wp_iconst (v := (-1)) d_TC_told_117 rfl ?_
    refine wp_ireturn d_TC_told_118 rfl rfl ?_
    have hn6 := hst.1.1
    first
      | (refine kn (fun z => s_1_0 (e_1.trans z)) (fun z => s_1_1 (e_1.trans z)) (fun z => s_1_2 (e_1.trans z)) (fun z => s_1_3 (e_1.trans z)) (fun z => s_1_4 (e_1.trans z)) (fun z => s_1_5 (e_1.trans z)) (fun p hp z => ?_)
         rw [z] at c_100
         exact absurd c_100 (nI_nlt (by omega) (by omega)))
      | (refine kn (fun z => s_1_0 (e_1.trans z)) (fun z => s_1_1 (e_1.trans z)) (fun z => s_1_2 (e_1.trans z)) (fun z => s_1_3 (e_1.trans z)) (fun z => s_1_4 (e_1.trans z)) (fun z => s_1_5 (e_1.trans z)) (fun p hp z => ?_)
         rw [z] at c_114
         exact c_114 (nI_lt (by omega) (by omega)))
  · skip
    refine wp_iload_n d_TC_told_103 rfl rfl ?_
    refine wp_bipush (v := (nI 10)) d_TC_told_104 (by decide) ?_
    refine wp_aload_n d_TC_told_106 rfl rfl rfl ?_
    refine gC_0 gf_TC_24_0 d_TC_told_107 ?_
    refine gK_8 (s := 0) (by decide) gf_TC_131_1 d_TC_told_110 ?_
    refine wp_iadd d_TC_told_113 ?_
    rw [hst.1.2.1, nI_add]
    refine wp_icmp_lt (t := 119) d_TC_told_114 (by decide) (fun c_114 => ?_) (fun c_114 => ?_)
    · skip
      have hn6 := hst.1.1
      obtain ⟨xx, hxx, rfl⟩ := nI_of (x := x) (fun z => absurd (Int32.lt_trans z (show (0 : Int32) < nI 10 from by decide)) c_100)
      have h10 : 10 ≤ xx := by
        have c2 := Int32.not_lt.mp c_100
        exact (nI_leI (a := 10) (by decide) hxx).mp c2
      have hp : xx - 10 < n := by
        have c2 := (nI_ltI hxx (by omega)).mp c_114
        omega
      have hxp : xx = 10 + (xx - 10) := by omega
      refine wp_aload_n d_TC_told_119 rfl rfl rfl ?_
      refine gC_0 gf_TC_24_0 d_TC_told_120 ?_
      refine gK_4 (s := 0) (by decide) gf_TC_172_1 d_TC_told_123 ?_
      refine wp_iload_n d_TC_told_126 rfl rfl ?_
      refine wp_bipush (v := (nI 10)) d_TC_told_127 (by decide) ?_
      refine wp_isub d_TC_told_129 ?_
      rw [show nI xx - nI 10 = nI (xx - 10) from by rw [show nI xx = nI (xx - 10 + 10) from congrArg nI (by omega), ← nI_add, Int32.sub_eq_add_neg, Int32.add_assoc, Int32.add_right_neg, Int32.add_zero]]
      refine lK_4 (s := 0) (by decide) d_TC_told_130 (vp_in_nI (by omega) (by decide)) ?_
      rw [nI_clamp (by omega)]
      refine wp_ireturn d_TC_told_131 rfl rfl ?_
      exact kk (xx - 10) hp (congrArg nI hxp)
    · skip
      refine wp_iconst (v := (-1)) d_TC_told_117 rfl ?_
      refine wp_ireturn d_TC_told_118 rfl rfl ?_
      have hn6 := hst.1.1
      first
        | (refine kn (fun z => s_1_0 (e_1.trans z)) (fun z => s_1_1 (e_1.trans z)) (fun z => s_1_2 (e_1.trans z)) (fun z => s_1_3 (e_1.trans z)) (fun z => s_1_4 (e_1.trans z)) (fun z => s_1_5 (e_1.trans z)) (fun p hp z => ?_)
           rw [z] at c_100
           exact absurd c_100 (nI_nlt (by omega) (by omega)))
        | (refine kn (fun z => s_1_0 (e_1.trans z)) (fun z => s_1_1 (e_1.trans z)) (fun z => s_1_2 (e_1.trans z)) (fun z => s_1_3 (e_1.trans z)) (fun z => s_1_4 (e_1.trans z)) (fun z => s_1_5 (e_1.trans z)) (fun p hp z => ?_)
           rw [z] at c_114
           exact c_114 (nI_lt (by omega) (by omega)))
set_option maxRecDepth 4000 in
theorem c_TC_up {n : Nat} {kd vd : Nat → Int32} {ln : Nat → Nat} {cl : List sp_Cl} {bt : Int32} (hD : 9 ≤ D) (hR : tc_R mn sc MZ r) (hst : st_ok mn sc K 0 n B kd vd ln cl) (hB : B ≤ 20000) (kb : ¬ (1 ≤ bt ∧ bt ≤ 99) → Q (some (.int (-2))) (HT K MZ r)) (ks0 : (1 ≤ bt ∧ bt ≤ 99) → (999999 < K.1 0 9 + bt ∨ 9999 ≤ K.1 0 10 ∨ 9999 ≤ K.1 0 11) → Q (some (.int (-3))) (HT K MZ r)) (kk : (1 ≤ bt ∧ bt ≤ 99) → ¬ (999999 < K.1 0 9 + bt ∨ 9999 ≤ K.1 0 10 ∨ 9999 ≤ K.1 0 11) → ∀ (j2 : Nat → Int32) (b2 : Nat → Nat → Int32) (r2 : tc_r), tc_R mn sc MZ r2 → ms [9, 10, 11] [1, 2] (K.1 0) j2 (K.2.1 0) b2 → j2 9 = K.1 0 9 + bt → b2 1 = (sp_throw (kd, vd, K.2.1 0 3, ln, n, cl) 2000000000 (K.1 0 9) (K.2.1 0 1) (K.2.1 0 2)).2.2.1 → b2 2 = (sp_throw (kd, vd, K.2.1 0 3, ln, n, cl) 2000000000 (K.1 0 9) (K.2.1 0 1) (K.2.1 0 2)).2.2.2 → (match (sp_throw (kd, vd, K.2.1 0 3, ln, n, cl) 2000000000 (K.1 0 9) (K.2.1 0 1) (K.2.1 0 2)).1 with
  | none => j2 10 = K.1 0 10 + 1 → j2 11 = K.1 0 11 → Q (some (.int ((sp_throw (kd, vd, K.2.1 0 3, ln, n, cl) 2000000000 (K.1 0 9) (K.2.1 0 1) (K.2.1 0 2)).2.1 - K.1 0 9))) (HT (ks K 0 j2 (va_up b2 1 (sp_cap (b2 1) 6)) (K.2.2.1 0) (K.2.2.2.1 0)) MZ r2)
  | some m => m < 6 → j2 10 = K.1 0 10 → j2 11 = K.1 0 11 + 1 → Q (some (.int (-10 - nI m))) (HT (ks K 0 j2 (va_up b2 1 (sp_cap (b2 1) 6)) (K.2.2.1 0) (K.2.2.2.1 0)) MZ r2))) : px_W G D 0 0 m_TC_up 0 (px_ent 3 [.ref 0, .int bt]) [] (HT K MZ r) Q := by
  show px_W _ _ _ _ _ _ [some (.ref 0), some (.int bt), none] [] _ _
  refine wp_iload_n d_TC_up_0 rfl rfl ?_
  refine wp_callS (M' := m_TC_isNoBeat) (as := [_]) (D' := D - 1) (C1 := 0) (C2 := 0) (S1 := 0) (S2 := 0) d_TC_up_1 w_669 w_670 k_TC_isNoBeat (Nat.le_of_ble_eq_true rfl) rfl (Nat.le_of_ble_eq_true rfl) (by omega) rfl rfl ?_
  refine c_TC_isNoBeat (by omega)  (fun hbt => ?_) (fun hbt => ?_)
  · skip
    refine wp_if_eq (t := 10) d_TC_up_4 (by decide) (fun c_4 => (absurd c_4 (by decide))) (fun c_4 => ?_)
    refine wp_bipush (v := (-2)) d_TC_up_7 (by decide) ?_
    refine wp_ireturn d_TC_up_9 rfl rfl ?_
    exact kb hbt
  · skip
    refine wp_if_eq (t := 10) d_TC_up_4 (by decide) (fun c_4 => ?_) (fun c_4 => (absurd c_4 (by decide)))
    refine wp_aload_n d_TC_up_10 rfl rfl rfl ?_
    refine gC_0 gf_TC_24_0 d_TC_up_11 ?_
    refine gK_9 (s := 0) (by decide) gf_TC_154_1 d_TC_up_14 ?_
    refine wp_iload_n d_TC_up_17 rfl rfl ?_
    refine wp_iadd d_TC_up_18 ?_
    refine wp_ldc d_TC_up_19 w_672 ?_
    refine wp_icmp_gt (t := 50) d_TC_up_21 (by decide) (fun c_21 => ?_) (fun c_21 => ?_)
    · skip
      refine wp_bipush (v := (-3)) d_TC_up_50 (by decide) ?_
      refine wp_ireturn d_TC_up_52 rfl rfl ?_
      first
        | exact ks0 hbt (Or.inl c_21)
        | exact ks0 hbt (Or.inr (Or.inl c_34))
        | exact ks0 hbt (Or.inr (Or.inr (Int32.not_lt.mp c_47)))
    · skip
      refine wp_aload_n d_TC_up_24 rfl rfl rfl ?_
      refine gC_0 gf_TC_24_0 d_TC_up_25 ?_
      refine gK_10 (s := 0) (by decide) gf_TC_157_1 d_TC_up_28 ?_
      refine wp_sipush (v := 9999) d_TC_up_31 (by decide) ?_
      refine wp_icmp_ge (t := 50) d_TC_up_34 (by decide) (fun c_34 => ?_) (fun c_34 => ?_)
      · skip
        refine wp_bipush (v := (-3)) d_TC_up_50 (by decide) ?_
        refine wp_ireturn d_TC_up_52 rfl rfl ?_
        first
          | exact ks0 hbt (Or.inl c_21)
          | exact ks0 hbt (Or.inr (Or.inl c_34))
          | exact ks0 hbt (Or.inr (Or.inr (Int32.not_lt.mp c_47)))
      · skip
        refine wp_aload_n d_TC_up_37 rfl rfl rfl ?_
        refine gC_0 gf_TC_24_0 d_TC_up_38 ?_
        refine gK_11 (s := 0) (by decide) gf_TC_160_1 d_TC_up_41 ?_
        refine wp_sipush (v := 9999) d_TC_up_44 (by decide) ?_
        refine wp_icmp_lt (t := 53) d_TC_up_47 (by decide) (fun c_47 => ?_) (fun c_47 => ?_)
        · skip
          have hc : ¬ (999999 < K.1 0 9 + bt ∨ 9999 ≤ K.1 0 10 ∨ 9999 ≤ K.1 0 11) := fun z => z.elim (fun z => c_21 z) (fun z => z.elim (fun z => absurd z c_34) (fun z => absurd z (Int32.not_le.mpr c_47)))
          refine wp_aload_n d_TC_up_53 rfl rfl rfl ?_
          refine gC_0 gf_TC_24_0 d_TC_up_54 ?_
          refine wp_iload_n d_TC_up_57 rfl rfl ?_
          refine toS 0 ?_
          refine wp_callV (r := (R_1, T_1, 15)) (M' := m_Si_throwTube) (as := [_]) (D' := D - 1) (C1 := 0) (C2 := 0) (S1 := 0) (S2 := 0) d_TC_up_58 rfl w_673 w_674 w_675 (ts_0 (by decide)) k_Si_throwTube (Nat.le_of_ble_eq_true rfl) rfl (Nat.le_of_ble_eq_true rfl) (by omega) rfl rfl ?_
          refine c_Si_throwTube (by omega) (by decide) hst.2.2.2.2.1 hst.1 (by omega) hR hst.2.1 ?_
          intro j2 b2 r2 hR2 hm2 h92 e1 e2 hh2
          have k2 := kk hbt hc j2 b2 r2 hR2 hm2 h92 e1 e2
          cases hres : (sp_throw (kd, vd, K.2.1 0 3, ln, n, cl) 2000000000 (K.1 0 9) (K.2.1 0 1) (K.2.1 0 2)).1 with
          | none =>
            intro g10 g11
            rw [hres] at k2
            refine wp_istore_n (ls' := [_, _, _]) d_TC_up_61 rfl (by decide) rfl ?_
            refine wp_aload_n d_TC_up_62 rfl rfl rfl ?_
            refine gC_0 gf_TC_24_0 d_TC_up_63 ?_
            refine toS 0 ?_
            refine wp_callV (r := (R_1, T_1, 15)) (M' := m_Si_capHeld) (as := []) (D' := D - 1) (C1 := 0) (C2 := 0) (S1 := 0) (S2 := 0) d_TC_up_66 rfl w_691 w_692 w_693 (ts_0 (by decide)) k_Si_capHeld (Nat.le_of_ble_eq_true rfl) rfl (Nat.le_of_ble_eq_true rfl) (by omega) rfl rfl ?_
            refine c_Si_capHeld (by omega) (by decide) ?_
            refine wp_iload_n d_TC_up_69 rfl rfl ?_
            refine wp_ireturn d_TC_up_70 rfl rfl ?_
            rw [ks_tw]
            exact k2 g10 g11
          | some m =>
            intro hm6 g10 g11
            rw [hres] at k2
            refine wp_istore_n (ls' := [_, _, _]) d_TC_up_61 rfl (by decide) rfl ?_
            refine wp_aload_n d_TC_up_62 rfl rfl rfl ?_
            refine gC_0 gf_TC_24_0 d_TC_up_63 ?_
            refine toS 0 ?_
            refine wp_callV (r := (R_1, T_1, 15)) (M' := m_Si_capHeld) (as := []) (D' := D - 1) (C1 := 0) (C2 := 0) (S1 := 0) (S2 := 0) d_TC_up_66 rfl w_691 w_692 w_693 (ts_0 (by decide)) k_Si_capHeld (Nat.le_of_ble_eq_true rfl) rfl (Nat.le_of_ble_eq_true rfl) (by omega) rfl rfl ?_
            refine c_Si_capHeld (by omega) (by decide) ?_
            refine wp_iload_n d_TC_up_69 rfl rfl ?_
            refine wp_ireturn d_TC_up_70 rfl rfl ?_
            rw [ks_tw]
            exact k2 hm6 g10 g11
        · skip
          refine wp_bipush (v := (-3)) d_TC_up_50 (by decide) ?_
          refine wp_ireturn d_TC_up_52 rfl rfl ?_
          first
            | exact ks0 hbt (Or.inl c_21)
            | exact ks0 hbt (Or.inr (Or.inl c_34))
            | exact ks0 hbt (Or.inr (Or.inr (Int32.not_lt.mp c_47)))
set_option maxRecDepth 4000 in
theorem c_TC_pause {x : Int32} (hD : 0 ≤ D) (kb : ¬ (0 ≤ x ∧ x ≤ 9999) → Q (some (.int (-2))) (HT K MZ r)) (ks0 : (0 ≤ x ∧ x ≤ 9999) → ¬ (K.1 0 9 + x ≤ 999999) → Q (some (.int (-3))) (HT K MZ r)) (kk : (0 ≤ x ∧ x ≤ 9999) → K.1 0 9 + x ≤ 999999 → Q (some (.int (K.1 0 9 + x))) (HT (ks K 0 (upd (K.1 0) 9 (K.1 0 9 + x)) (K.2.1 0) (K.2.2.1 0) (K.2.2.2.1 0)) MZ r)) : px_W G D 0 0 m_TC_pause 0 (px_ent 2 [.ref 0, .int x]) [] (HT K MZ r) Q := by
  show px_W _ _ _ _ _ _ [some (.ref 0), some (.int x)] [] _ _
  refine wp_iload_n d_TC_pause_0 rfl rfl ?_
  refine wp_if_lt (t := 11) d_TC_pause_1 (by decide) (fun c_1 => ?_) (fun c_1 => ?_)
  · skip
    refine wp_bipush (v := (-2)) d_TC_pause_11 (by decide) ?_
    refine wp_ireturn d_TC_pause_13 rfl rfl ?_
    first
      | exact kb (fun z => absurd z.1 (Int32.not_le.mpr c_1))
      | exact kb (fun z => c_8 z.2)
  · skip
    refine wp_iload_n d_TC_pause_4 rfl rfl ?_
    refine wp_sipush (v := 9999) d_TC_pause_5 (by decide) ?_
    refine wp_icmp_le (t := 14) d_TC_pause_8 (by decide) (fun c_8 => ?_) (fun c_8 => ?_)
    · skip
      refine wp_aload_n d_TC_pause_14 rfl rfl rfl ?_
      refine gC_0 gf_TC_24_0 d_TC_pause_15 ?_
      refine gK_9 (s := 0) (by decide) gf_TC_154_1 d_TC_pause_18 ?_
      refine wp_iload_n d_TC_pause_21 rfl rfl ?_
      refine wp_iadd d_TC_pause_22 ?_
      refine wp_ldc d_TC_pause_23 w_672 ?_
      refine wp_icmp_le (t := 31) d_TC_pause_25 (by decide) (fun c_25 => ?_) (fun c_25 => ?_)
      · skip
        refine wp_aload_n d_TC_pause_31 rfl rfl rfl ?_
        refine gC_0 gf_TC_24_0 d_TC_pause_32 ?_
        refine wp_dup d_TC_pause_35 rfl ?_
        refine gK_9 (s := 0) (by decide) gf_TC_154_1 d_TC_pause_36 ?_
        refine wp_iload_n d_TC_pause_39 rfl rfl ?_
        refine wp_iadd d_TC_pause_40 ?_
        refine toS 0 ?_
        refine pS_9 (by decide) pgf_TC_154_1 d_TC_pause_41 ?_
        refine wp_aload_n d_TC_pause_44 rfl rfl rfl ?_
        refine gC_0 gf_TC_24_0 d_TC_pause_45 ?_
        refine gK_9 (s := 0) (by decide) gf_TC_154_1 d_TC_pause_48 ?_
        refine wp_ireturn d_TC_pause_51 rfl rfl ?_
        exact kk ⟨Int32.not_lt.mp c_1, c_8⟩ c_25
      · skip
        refine wp_bipush (v := (-3)) d_TC_pause_28 (by decide) ?_
        refine wp_ireturn d_TC_pause_30 rfl rfl ?_
        exact ks0 ⟨Int32.not_lt.mp c_1, c_8⟩ c_25
    · skip
      refine wp_bipush (v := (-2)) d_TC_pause_11 (by decide) ?_
      refine wp_ireturn d_TC_pause_13 rfl rfl ?_
      first
        | exact kb (fun z => absurd z.1 (Int32.not_le.mpr c_1))
        | exact kb (fun z => c_8 z.2)
end TDJ
