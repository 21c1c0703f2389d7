/-- the chain's places from a on until i, one down; from i on until a, one up -/
def sp_s1 (f : Nat → Int32) (a i : Nat) : Nat → Int32 := fun j => if a ≤ j ∧ j < i then f (j + 1) else f j
def sp_s2 (f : Nat → Int32) (a i : Nat) : Nat → Int32 := fun j => if i < j ∧ j ≤ a then f (j - 1) else f j
theorem sp_s1_s {f : Nat → Int32} {a i : Nat} (h : a ≤ i) : upd (sp_s1 f a i) i (sp_s1 f a i (i + 1)) = sp_s1 f a (i + 1) := by
  funext j
  show (if j = i then (if a ≤ i + 1 ∧ i + 1 < i then f (i + 1 + 1) else f (i + 1)) else if a ≤ j ∧ j < i then f (j + 1) else f j) = if a ≤ j ∧ j < i + 1 then f (j + 1) else f j
  rw [if_neg (show ¬ (a ≤ i + 1 ∧ i + 1 < i) by omega)]
  by_cases hj : j = i
  · subst hj; rw [if_pos rfl, if_pos (by omega)]
  · rw [if_neg hj]
    by_cases h2 : a ≤ j ∧ j < i
    · rw [if_pos h2, if_pos (by omega)]
    · rw [if_neg h2, if_neg (by omega)]
theorem sp_s2_s {f : Nat → Int32} {a i : Nat} (h : i ≤ a) (h0 : 0 < i) : upd (sp_s2 f a i) i (sp_s2 f a i (i - 1)) = sp_s2 f a (i - 1) := by
  funext j
  show (if j = i then (if i < i - 1 ∧ i - 1 ≤ a then f (i - 1 - 1) else f (i - 1)) else if i < j ∧ j ≤ a then f (j - 1) else f j) = if i - 1 < j ∧ j ≤ a then f (j - 1) else f j
  rw [if_neg (show ¬ (i < i - 1 ∧ i - 1 ≤ a) by omega)]
  by_cases hj : j = i
  · subst hj; rw [if_pos rfl, if_pos (by omega)]
  · rw [if_neg hj]
    by_cases h2 : i < j ∧ j ≤ a
    · rw [if_pos h2, if_pos (by omega)]
    · rw [if_neg h2, if_neg (by omega)]
theorem sp_s1_0 {f : Nat → Int32} {a i : Nat} (h : i ≤ a) : sp_s1 f a i = f := by funext j; exact if_neg (by omega)
theorem sp_s2_0 {f : Nat → Int32} {a i : Nat} (h : a ≤ i) : sp_s2 f a i = f := by funext j; exact if_neg (by omega)
def sp_plc (f : Nat → Int32) (a k : Nat) (m : Int32) : Nat → Int32 := upd (sp_s2 (sp_s1 f a k) a k) k m
section MO8
variable {G : px_G} {D : Nat} {X E : px_H} {I : Nat → Int32} {A : Nat → Nat → Int32} {L : Nat → Nat → Int64} {Q : Option Value → px_H → Prop}
set_option maxRecDepth 4000 in
theorem c_Mo_told {x : Int32} {b : Nat} {cl : List sp_Cl} (hD : 4 ≤ D) (h : mo_cur I A b cl) (hv : (10 ≤ x ∧ x ≤ 9 + I 0) → vp_in (x - 10) 6) (kc : (10 ≤ x ∧ x ≤ 9 + I 0) → Q (some (.int (A 10 (x - 10).toNatClampNeg))) (HM X I A L E)) (k0 : ¬ (10 ≤ x ∧ x ≤ 9 + I 0) → x = 0 → Q (some (.int (I 2))) (HM X I A L E)) (k1 : ¬ (10 ≤ x ∧ x ≤ 9 + I 0) → x = 1 → Q (some (.int (I 3))) (HM X I A L E)) (k2 : ¬ (10 ≤ x ∧ x ≤ 9 + I 0) → x = 2 → Q (some (.int (I 4))) (HM X I A L E)) (k3 : ¬ (10 ≤ x ∧ x ≤ 9 + I 0) → x = 3 → Q (some (.int (sp_rise cl))) (HM X I A L E)) (k4 : ¬ (10 ≤ x ∧ x ≤ 9 + I 0) → x = 4 → Q (some (.int (sp_rest cl))) (HM X I A L E)) (k5 : ¬ (10 ≤ x ∧ x ≤ 9 + I 0) → x = 5 → Q (some (.int (sp_pull cl))) (HM X I A L E)) (kn : ¬ (10 ≤ x ∧ x ≤ 9 + I 0) → ¬ x = 0 → ¬ x = 1 → ¬ x = 2 → ¬ x = 3 → ¬ x = 4 → ¬ x = 5 → Q (some (.int (-1))) (HM X I A L E)) : px_W G D 0 0 m_Mo_told 0 (px_ent 2 [.ref X.length, .int x]) [] (HM X I A L E) Q := by
  show px_W _ _ _ _ _ _ [some (.ref X.length), some (.int x)] [] _ _
  refine wp_aload_n d_Mo_told_0 rfl rfl rfl ?_
  refine wp_iload_n d_Mo_told_1 rfl rfl ?_
  refine wp_bipush (v := 10) d_Mo_told_2 (by decide) ?_
  refine wp_bipush (v := 9) d_Mo_told_4 (by decide) ?_
  refine wp_aload_n d_Mo_told_6 rfl rfl rfl ?_
  refine gM_0 rfl d_Mo_told_7 ?_
  refine wp_iadd d_Mo_told_10 ?_
  refine wp_callV (r := (R_12, T_12, 70)) (M' := m_Mo_in) (as := [_, _, _]) (D' := D - 1) (C1 := 0) (C2 := 0) (S1 := 0) (S2 := 0) d_Mo_told_11 rfl w_1209 w_1211 w_15 hm_0 k_Mo_in (Nat.le_of_ble_eq_true rfl) rfl (Nat.le_of_ble_eq_true rfl) (by omega) rfl rfl ?_
  refine c_Mo_in (by omega)  (fun c_11 => ?_) (fun c_11 => ?_)
  · skip
    refine wp_if_eq (t := 27) d_Mo_told_14 (by decide) (fun c_14 => (absurd c_14 (by decide))) (fun c_14 => ?_)
    refine wp_aload_n d_Mo_told_17 rfl rfl rfl ?_
    refine gM_10 rfl d_Mo_told_18 ?_
    refine wp_iload_n d_Mo_told_21 rfl rfl ?_
    refine wp_bipush (v := 10) d_Mo_told_22 (by decide) ?_
    refine wp_isub d_Mo_told_24 ?_
    refine lM_10 d_Mo_told_25 (hv c_11) ?_
    refine wp_ireturn d_Mo_told_26 rfl rfl ?_
    exact kc c_11
  · skip
    refine wp_if_eq (t := 27) d_Mo_told_14 (by decide) (fun c_14 => ?_) (fun c_14 => (absurd c_14 (by decide)))
    refine wp_iload_n d_Mo_told_27 rfl rfl ?_
    refine wp_topi (fun y_28 e_28 => ?_)
    by_cases s_28_0 : y_28 = 0
    · rw [s_28_0]
      refine wp_tableIn (off := 40) (t := 68) d_Mo_told_28 (by decide) (by decide) rfl (by decide) ?_
      refine wp_aload_n d_Mo_told_68 rfl rfl rfl ?_
      refine gM_2 rfl d_Mo_told_69 ?_
      refine wp_ireturn d_Mo_told_72 rfl rfl ?_
      exact k0 c_11 (e_28.symm.trans s_28_0)
    by_cases s_28_1 : y_28 = 1
    · rw [s_28_1]
      refine wp_tableIn (off := 45) (t := 73) d_Mo_told_28 (by decide) (by decide) rfl (by decide) ?_
      refine wp_aload_n d_Mo_told_73 rfl rfl rfl ?_
      refine gM_3 rfl d_Mo_told_74 ?_
      refine wp_ireturn d_Mo_told_77 rfl rfl ?_
      exact k1 c_11 (e_28.symm.trans s_28_1)
    by_cases s_28_2 : y_28 = 2
    · rw [s_28_2]
      refine wp_tableIn (off := 50) (t := 78) d_Mo_told_28 (by decide) (by decide) rfl (by decide) ?_
      refine wp_aload_n d_Mo_told_78 rfl rfl rfl ?_
      refine gM_4 rfl d_Mo_told_79 ?_
      refine wp_ireturn d_Mo_told_82 rfl rfl ?_
      exact k2 c_11 (e_28.symm.trans s_28_2)
    by_cases s_28_3 : y_28 = 3
    · rw [s_28_3]
      refine wp_tableIn (off := 55) (t := 83) d_Mo_told_28 (by decide) (by decide) rfl (by decide) ?_
      refine wp_aload_n d_Mo_told_83 rfl rfl rfl ?_
      refine wp_callV (r := (R_12, T_12, 70)) (M' := m_Mo_rise) (as := []) (D' := D - 1) (C1 := 0) (C2 := 0) (S1 := 0) (S2 := 0) d_Mo_told_84 rfl w_1341 w_1343 w_41 hm_0 k_Mo_rise (Nat.le_of_ble_eq_true rfl) rfl (Nat.le_of_ble_eq_true rfl) (by omega) rfl rfl ?_
      refine c_Mo_rise (by omega) h ?_
      refine wp_ireturn d_Mo_told_87 rfl rfl ?_
      exact k3 c_11 (e_28.symm.trans s_28_3)
    by_cases s_28_4 : y_28 = 4
    · rw [s_28_4]
      refine wp_tableIn (off := 60) (t := 88) d_Mo_told_28 (by decide) (by decide) rfl (by decide) ?_
      refine wp_aload_n d_Mo_told_88 rfl rfl rfl ?_
      refine wp_callV (r := (R_12, T_12, 70)) (M' := m_Mo_rest) (as := []) (D' := D - 1) (C1 := 0) (C2 := 0) (S1 := 0) (S2 := 0) d_Mo_told_89 rfl w_1349 w_1351 w_43 hm_0 k_Mo_rest (Nat.le_of_ble_eq_true rfl) rfl (Nat.le_of_ble_eq_true rfl) (by omega) rfl rfl ?_
      refine c_Mo_rest (by omega) h ?_
      refine wp_ireturn d_Mo_told_92 rfl rfl ?_
      exact k4 c_11 (e_28.symm.trans s_28_4)
    by_cases s_28_5 : y_28 = 5
    · rw [s_28_5]
      refine wp_tableIn (off := 65) (t := 93) d_Mo_told_28 (by decide) (by decide) rfl (by decide) ?_
      refine wp_aload_n d_Mo_told_93 rfl rfl rfl ?_
      refine wp_callV (r := (R_12, T_12, 70)) (M' := m_Mo_pull) (as := []) (D' := D - 1) (C1 := 0) (C2 := 0) (S1 := 0) (S2 := 0) d_Mo_told_94 rfl w_1353 w_1355 w_44 hm_0 k_Mo_pull (Nat.le_of_ble_eq_true rfl) rfl (Nat.le_of_ble_eq_true rfl) (by omega) rfl rfl ?_
      refine c_Mo_pull (by omega) h ?_
      refine wp_ireturn d_Mo_told_97 rfl rfl ?_
      exact k5 c_11 (e_28.symm.trans s_28_5)
    have n_28_0 : y_28.toInt ≠ 0 := lv_neT s_28_0 rfl
    have n_28_1 : y_28.toInt ≠ 1 := lv_neT s_28_1 rfl
    have n_28_2 : y_28.toInt ≠ 2 := lv_neT s_28_2 rfl
    have n_28_3 : y_28.toInt ≠ 3 := lv_neT s_28_3 rfl
    have n_28_4 : y_28.toInt ≠ 4 := lv_neT s_28_4 rfl
    have n_28_5 : y_28.toInt ≠ 5 := lv_neT s_28_5 rfl
    refine wp_tableOut (t := 98) d_Mo_told_28 (by omega) (by decide) ?_
    refine wp_iconst (v := (-1)) d_Mo_told_98 rfl ?_
    refine wp_ireturn d_Mo_told_99 rfl rfl ?_
    exact kn c_11 (fun z => s_28_0 (e_28.trans z)) (fun z => s_28_1 (e_28.trans z)) (fun z => s_28_2 (e_28.trans z)) (fun z => s_28_3 (e_28.trans z)) (fun z => s_28_4 (e_28.trans z)) (fun z => s_28_5 (e_28.trans z))
set_option maxRecDepth 4000 in
theorem c_Mo_of {m x : Int32} {mm p n b : Nat} {ln : Nat → Nat} {cl : List sp_Cl} (hD : 4 ≤ D) (hw : mo_w I A n ln b cl) (hh : mo_h A) (hM : (0 ≤ m ∧ m ≤ I 0 - 1) → m = nI mm ∧ mm < 6 ∧ p < 6 ∧ A 10 p = nI mm ∧ ∀ j, j < p → A 10 j ≠ nI mm) (kn : ¬ (0 ≤ m ∧ m ≤ I 0 - 1) → Q (some (.int (-1))) (HM X I A L E)) (k0 : (0 ≤ m ∧ m ≤ I 0 - 1) → x = 0 → Q (some (.int (A 5 mm))) (HM X I A L E)) (k1 : (0 ≤ m ∧ m ≤ I 0 - 1) → x = 1 → Q (some (.int (A 6 mm))) (HM X I A L E)) (k2 : (0 ≤ m ∧ m ≤ I 0 - 1) → x = 2 → Q (some (.int (A 7 mm))) (HM X I A L E)) (k3 : (0 ≤ m ∧ m ≤ I 0 - 1) → x = 3 → Q (some (.int (A 8 mm))) (HM X I A L E)) (k4 : (0 ≤ m ∧ m ≤ I 0 - 1) → x = 4 → Q (some (.int (nI p))) (HM X I A L E)) (k5 : (0 ≤ m ∧ m ≤ I 0 - 1) → x = 5 → ∀ (I' : Nat → Int32) (A' : Nat → Nat → Int32), ms [29] [28] I I' A A' → Q (some (.int (sp_pace (sp_fact (A 5) (A 6) (A 7) mm p) cl))) (HM X I' A' L E)) (k6 : (0 ≤ m ∧ m ≤ I 0 - 1) → x = 6 → ∀ (I' : Nat → Int32) (A' : Nat → Nat → Int32), ms [29] [28] I I' A A' → Q (some (.int (sp_holds (A 5 mm) (A 6 mm) (A 7 mm) (A 9 (4 * mm + (A 7 mm).toNatClampNeg % 4)) (sp_pace (sp_fact (A 5) (A 6) (A 7) mm p) cl)))) (HM X I' A' L E)) (kd : (0 ≤ m ∧ m ≤ I 0 - 1) → ¬ x = 0 → ¬ x = 1 → ¬ x = 2 → ¬ x = 3 → ¬ x = 4 → ¬ x = 5 → ¬ x = 6 → Q (some (.int (-1))) (HM X I A L E)) : px_W G D 0 0 m_Mo_of 0 (px_ent 3 [.ref X.length, .int m, .int x]) [] (HM X I A L E) Q := by
  show px_W _ _ _ _ _ _ [some (.ref X.length), some (.int m), some (.int x)] [] _ _
  refine wp_aload_n d_Mo_of_0 rfl rfl rfl ?_
  refine wp_iload_n d_Mo_of_1 rfl rfl ?_
  refine wp_callV (r := (R_12, T_12, 70)) (M' := m_Mo_isMan) (as := [_]) (D' := D - 1) (C1 := 0) (C2 := 0) (S1 := 0) (S2 := 0) d_Mo_of_2 rfl w_1217 w_1219 w_16 hm_0 k_Mo_isMan (Nat.le_of_ble_eq_true rfl) rfl (Nat.le_of_ble_eq_true rfl) (by omega) rfl rfl ?_
  refine c_Mo_isMan (by omega)  (fun c_2 => ?_) (fun c_2 => ?_)
  · skip
    refine wp_if_ne (t := 10) d_Mo_of_5 (by decide) (fun c_5 => ?_) (fun c_5 => (absurd c_5 (by decide)))
    obtain ⟨rfl, hm6, hp6, hch, hmin⟩ := hM c_2
    obtain ⟨hh0, hhl, ehh⟩ := hh mm hm6
    refine wp_iload_n d_Mo_of_10 rfl rfl ?_
    refine wp_topi (fun y_11 e_11 => ?_)
    by_cases s_11_0 : y_11 = 0
    · rw [s_11_0]
      refine wp_tableIn (off := 41) (t := 52) d_Mo_of_11 (by decide) (by decide) rfl (by decide) ?_
      refine wp_aload_n d_Mo_of_52 rfl rfl rfl ?_
      refine gM_5 rfl d_Mo_of_53 ?_
      refine wp_iload_n d_Mo_of_56 rfl rfl ?_
      refine lM_5 d_Mo_of_57 (vp_in_nI (by omega) (by decide)) ?_
      refine wp_ireturn d_Mo_of_58 rfl rfl ?_
      rw [nI_clamp (by omega)]
      exact k0 c_2 (e_11.symm.trans s_11_0)
    by_cases s_11_1 : y_11 = 1
    · rw [s_11_1]
      refine wp_tableIn (off := 48) (t := 59) d_Mo_of_11 (by decide) (by decide) rfl (by decide) ?_
      refine wp_aload_n d_Mo_of_59 rfl rfl rfl ?_
      refine gM_6 rfl d_Mo_of_60 ?_
      refine wp_iload_n d_Mo_of_63 rfl rfl ?_
      refine lM_6 d_Mo_of_64 (vp_in_nI (by omega) (by decide)) ?_
      refine wp_ireturn d_Mo_of_65 rfl rfl ?_
      rw [nI_clamp (by omega)]
      exact k1 c_2 (e_11.symm.trans s_11_1)
    by_cases s_11_2 : y_11 = 2
    · rw [s_11_2]
      refine wp_tableIn (off := 55) (t := 66) d_Mo_of_11 (by decide) (by decide) rfl (by decide) ?_
      refine wp_aload_n d_Mo_of_66 rfl rfl rfl ?_
      refine gM_7 rfl d_Mo_of_67 ?_
      refine wp_iload_n d_Mo_of_70 rfl rfl ?_
      refine lM_7 d_Mo_of_71 (vp_in_nI (by omega) (by decide)) ?_
      refine wp_ireturn d_Mo_of_72 rfl rfl ?_
      rw [nI_clamp (by omega)]
      exact k2 c_2 (e_11.symm.trans s_11_2)
    by_cases s_11_3 : y_11 = 3
    · rw [s_11_3]
      refine wp_tableIn (off := 62) (t := 73) d_Mo_of_11 (by decide) (by decide) rfl (by decide) ?_
      refine wp_aload_n d_Mo_of_73 rfl rfl rfl ?_
      refine gM_8 rfl d_Mo_of_74 ?_
      refine wp_iload_n d_Mo_of_77 rfl rfl ?_
      refine lM_8 d_Mo_of_78 (vp_in_nI (by omega) (by decide)) ?_
      refine wp_ireturn d_Mo_of_79 rfl rfl ?_
      rw [nI_clamp (by omega)]
      exact k3 c_2 (e_11.symm.trans s_11_3)
    by_cases s_11_4 : y_11 = 4
    · rw [s_11_4]
      refine wp_tableIn (off := 69) (t := 80) d_Mo_of_11 (by decide) (by decide) rfl (by decide) ?_
      refine wp_aload_n d_Mo_of_80 rfl rfl rfl ?_
      refine wp_iload_n d_Mo_of_81 rfl rfl ?_
      refine wp_callV (r := (R_12, T_12, 70)) (M' := m_Mo_placeOf) (as := [_]) (D' := D - 1) (C1 := 0) (C2 := 0) (S1 := 0) (S2 := 0) d_Mo_of_82 rfl w_1229 w_1231 w_17 hm_0 k_Mo_placeOf (Nat.le_of_ble_eq_true rfl) rfl (Nat.le_of_ble_eq_true rfl) (by omega) rfl rfl ?_
      refine c_Mo_placeOf (by omega) hp6 hch hmin ?_
      refine wp_ireturn d_Mo_of_85 rfl rfl ?_
      exact k4 c_2 (e_11.symm.trans s_11_4)
    by_cases s_11_5 : y_11 = 5
    · rw [s_11_5]
      refine wp_tableIn (off := 75) (t := 86) d_Mo_of_11 (by decide) (by decide) rfl (by decide) ?_
      refine wp_aload_n d_Mo_of_86 rfl rfl rfl ?_
      refine wp_aload_n d_Mo_of_87 rfl rfl rfl ?_
      refine wp_iload_n d_Mo_of_88 rfl rfl ?_
      refine wp_callV (r := (R_12, T_12, 70)) (M' := m_Mo_placeOf) (as := [_]) (D' := D - 1) (C1 := 0) (C2 := 0) (S1 := 0) (S2 := 0) d_Mo_of_89 rfl w_1229 w_1231 w_17 hm_0 k_Mo_placeOf (Nat.le_of_ble_eq_true rfl) rfl (Nat.le_of_ble_eq_true rfl) (by omega) rfl rfl ?_
      refine c_Mo_placeOf (by omega) hp6 hch hmin ?_
      refine wp_callV (r := (R_12, T_12, 70)) (M' := m_Mo_pace) (as := [_]) (D' := D - 1) (C1 := 0) (C2 := 0) (S1 := 0) (S2 := 0) d_Mo_of_92 rfl w_1305 w_1307 w_33 hm_0 k_Mo_pace (Nat.le_of_ble_eq_true rfl) rfl (Nat.le_of_ble_eq_true rfl) (by omega) rfl rfl ?_
      refine c_Mo_pace (by omega) hw.2.2.2.2.1 hm6 hp6 hch (fun f => ?_)
      refine wp_ireturn d_Mo_of_95 rfl rfl ?_
      exact k5 c_2 (e_11.symm.trans s_11_5) _ _ ((ms.rf.i 29 (by decide) (nI p)).a 28 (by decide) f)
    by_cases s_11_6 : y_11 = 6
    · rw [s_11_6]
      refine wp_tableIn (off := 85) (t := 96) d_Mo_of_11 (by decide) (by decide) rfl (by decide) ?_
      refine wp_aload_n d_Mo_of_96 rfl rfl rfl ?_
      refine wp_aload_n d_Mo_of_97 rfl rfl rfl ?_
      refine wp_iload_n d_Mo_of_98 rfl rfl ?_
      refine wp_callV (r := (R_12, T_12, 70)) (M' := m_Mo_placeOf) (as := [_]) (D' := D - 1) (C1 := 0) (C2 := 0) (S1 := 0) (S2 := 0) d_Mo_of_99 rfl w_1229 w_1231 w_17 hm_0 k_Mo_placeOf (Nat.le_of_ble_eq_true rfl) rfl (Nat.le_of_ble_eq_true rfl) (by omega) rfl rfl ?_
      refine c_Mo_placeOf (by omega) hp6 hch hmin ?_
      refine wp_callV (r := (R_12, T_12, 70)) (M' := m_Mo_holdsFor) (as := [_]) (D' := D - 1) (C1 := 0) (C2 := 0) (S1 := 0) (S2 := 0) d_Mo_of_102 rfl w_1329 w_1331 w_39 hm_0 k_Mo_holdsFor (Nat.le_of_ble_eq_true rfl) rfl (Nat.le_of_ble_eq_true rfl) (by omega) rfl rfl ?_
      refine c_Mo_holdsFor (by omega) hw.2.2.2.2.1 hm6 hp6 hch hhl ehh (fun f => ?_)
      refine wp_ireturn d_Mo_of_105 rfl rfl ?_
      exact k6 c_2 (e_11.symm.trans s_11_6) _ _ ((ms.rf.i 29 (by decide) (nI p)).a 28 (by decide) f)
    have n_11_0 : y_11.toInt ≠ 0 := lv_neT s_11_0 rfl
    have n_11_1 : y_11.toInt ≠ 1 := lv_neT s_11_1 rfl
    have n_11_2 : y_11.toInt ≠ 2 := lv_neT s_11_2 rfl
    have n_11_3 : y_11.toInt ≠ 3 := lv_neT s_11_3 rfl
    have n_11_4 : y_11.toInt ≠ 4 := lv_neT s_11_4 rfl
    have n_11_5 : y_11.toInt ≠ 5 := lv_neT s_11_5 rfl
    have n_11_6 : y_11.toInt ≠ 6 := lv_neT s_11_6 rfl
    refine wp_tableOut (t := 106) d_Mo_of_11 (by omega) (by decide) ?_
    refine wp_iconst (v := (-1)) d_Mo_of_106 rfl ?_
    refine wp_ireturn d_Mo_of_107 rfl rfl ?_
    exact kd c_2 (fun z => s_11_0 (e_11.trans z)) (fun z => s_11_1 (e_11.trans z)) (fun z => s_11_2 (e_11.trans z)) (fun z => s_11_3 (e_11.trans z)) (fun z => s_11_4 (e_11.trans z)) (fun z => s_11_5 (e_11.trans z)) (fun z => s_11_6 (e_11.trans z))
  · skip
    refine wp_if_ne (t := 10) d_Mo_of_5 (by decide) (fun c_5 => (absurd c_5 (by decide))) (fun c_5 => ?_)
    refine wp_iconst (v := (-1)) d_Mo_of_8 rfl ?_
    refine wp_ireturn d_Mo_of_9 rfl rfl ?_
    exact kn c_2
set_option maxRecDepth 4000 in
theorem l_Mo_place_65 {mm a k0 : Nat} (ha : a < 6) (hk0 : k0 < 6) (k : Q (some (.int (nI a))) (HM X I (va_up A 10 (sp_plc (A 10) a k0 (nI mm))) L E)) : ∀ (q i : Nat), i = k0 + q ∨ (i ≤ k0 ∧ q = 0) → i ≤ a → (k0 ≤ a ∨ i = a) → px_W G D 0 0 m_Mo_place 65 [some (.ref X.length), some (.int (nI mm)), some (.int (nI k0)), some (.int (nI a)), some (.int (nI i))] [] (HM X I (va_up A 10 (sp_s2 (sp_s1 (A 10) a k0) a (if k0 ≤ i then i else k0))) L E) Q := by
  intro q
  induction q with
  | zero =>
    intro i hi hia hka
    have hik : i ≤ k0 := by omega
    have hif : (if k0 ≤ i then i else k0) = k0 := by by_cases h : k0 ≤ i; rw [if_pos h]; omega; exact if_neg h
    rw [hif]
    refine wp_iload d_Mo_place_65 rfl ?_
    refine wp_iload_n d_Mo_place_67 rfl rfl ?_
    refine wp_icmp_le (t := 93) d_Mo_place_68 (by decide) (fun c_68 => ?_) (fun c_68 => absurd (nI_le (by omega) (by omega)) c_68)
    refine wp_aload_n d_Mo_place_93 rfl rfl rfl ?_
    refine gM_10 rfl d_Mo_place_94 ?_
    refine wp_iload_n d_Mo_place_97 rfl rfl ?_
    refine wp_iload_n d_Mo_place_98 rfl rfl ?_
    refine sM_10 d_Mo_place_99 (vp_in_nI (by omega) (by decide)) ?_
    refine wp_iload_n d_Mo_place_100 rfl rfl ?_
    refine wp_ireturn d_Mo_place_101 rfl rfl ?_
    rw [bx_uu, nI_clamp (by omega)]
    exact k
  | succ q ih =>
    intro i hi hia hka
    have hik : k0 < i := by omega
    rw [if_pos (by omega)]
    have em : nI i - 1 = nI (i - 1) := pk_sub (b := 1) (by omega)
    have ea : nI i + -1 = nI (i - 1) := by rw [show i = (i - 1) + 1 by omega]; exact pk_m1 (i - 1)
    refine wp_iload d_Mo_place_65 rfl ?_
    refine wp_iload_n d_Mo_place_67 rfl rfl ?_
    refine wp_icmp_le (t := 93) d_Mo_place_68 (by decide) (fun c_68 => absurd c_68 (nI_ge (by omega) (by omega))) (fun c_68 => ?_)
    refine wp_aload_n d_Mo_place_71 rfl rfl rfl ?_
    refine gM_10 rfl d_Mo_place_72 ?_
    refine wp_iload d_Mo_place_75 rfl ?_
    refine wp_aload_n d_Mo_place_77 rfl rfl rfl ?_
    refine gM_10 rfl d_Mo_place_78 ?_
    refine wp_iload d_Mo_place_81 rfl ?_
    refine wp_iconst (v := 1) d_Mo_place_83 rfl ?_
    refine wp_isub d_Mo_place_84 ?_
    rw [em]
    refine lM_10 d_Mo_place_85 (vp_in_nI (by omega) (by decide)) ?_
    refine sM_10 d_Mo_place_86 (vp_in_nI (by omega) (by decide)) ?_
    refine wp_iinc (v := _ + (-1)) (ls' := [_, _, _, _, _]) d_Mo_place_87 (by decide) rfl rfl rfl ?_
    refine wp_goto (t := 65) d_Mo_place_90 (by decide) ?_
    rw [bx_uu, nI_clamp (by omega), nI_clamp (by omega), ea]
    rw [show upd (va_up A 10 (sp_s2 (sp_s1 (A 10) a k0) a i) 10) i (va_up A 10 (sp_s2 (sp_s1 (A 10) a k0) a i) 10 (i - 1)) = sp_s2 (sp_s1 (A 10) a k0) a (i - 1) from sp_s2_s hia (by omega)]
    have h2 := ih (i - 1) (by omega) (by omega) (by omega)
    rw [if_pos (by omega)] at h2
    exact h2
set_option maxRecDepth 4000 in
theorem l_Mo_place_34 {mm a k0 : Nat} (ha : a < 6) (hk0 : k0 < 6) (k : Q (some (.int (nI a))) (HM X I (va_up A 10 (sp_plc (A 10) a k0 (nI mm))) L E)) : ∀ (q i : Nat), (i + q = k0 ∨ (k0 ≤ i ∧ q = 0)) → a ≤ i → (i = a ∨ i ≤ k0) → px_W G D 0 0 m_Mo_place 34 [some (.ref X.length), some (.int (nI mm)), some (.int (nI k0)), some (.int (nI a)), some (.int (nI i))] [] (HM X I (va_up A 10 (sp_s1 (A 10) a i)) L E) Q := by
  intro q
  induction q with
  | zero =>
    intro i hi hai hk
    have hkk : k0 ≤ i := by omega
    refine wp_iload d_Mo_place_34 rfl ?_
    refine wp_iload_n d_Mo_place_36 rfl rfl ?_
    refine wp_icmp_ge (t := 62) d_Mo_place_37 (by decide) (fun c_37 => ?_) (fun c_37 => absurd (nI_le (by omega) (by omega)) c_37)
    refine wp_iload_n d_Mo_place_62 rfl rfl ?_
    refine wp_istore (ls' := [_, _, _, _, _]) d_Mo_place_63 (by decide) rfl ?_
    have es : sp_s1 (A 10) a i = sp_s2 (sp_s1 (A 10) a k0) a (if k0 ≤ a then a else k0) := by
      by_cases h : k0 ≤ a
      · rw [if_pos h, sp_s2_0 (Nat.le_refl _), sp_s1_0 h, sp_s1_0 (by omega)]
      · rw [if_neg h, sp_s2_0 (by omega), show i = k0 by omega]
    rw [es]
    exact l_Mo_place_65 ha hk0 k (a - k0) a (by omega) (Nat.le_refl _) (Or.inr rfl)
  | succ q ih =>
    intro i hi hai hk
    refine wp_iload d_Mo_place_34 rfl ?_
    refine wp_iload_n d_Mo_place_36 rfl rfl ?_
    refine wp_icmp_ge (t := 62) d_Mo_place_37 (by decide) (fun c_37 => absurd c_37 (nI_ge (by omega) (by omega))) (fun c_37 => ?_)
    refine wp_aload_n d_Mo_place_40 rfl rfl rfl ?_
    refine gM_10 rfl d_Mo_place_41 ?_
    refine wp_iload d_Mo_place_44 rfl ?_
    refine wp_aload_n d_Mo_place_46 rfl rfl rfl ?_
    refine gM_10 rfl d_Mo_place_47 ?_
    refine wp_iload d_Mo_place_50 rfl ?_
    refine wp_iconst (v := 1) d_Mo_place_52 rfl ?_
    refine wp_iadd d_Mo_place_53 ?_
    rw [show nI i + 1 = nI (i + 1) from nI_1 i]
    refine lM_10 d_Mo_place_54 (vp_in_nI (by omega) (by decide)) ?_
    refine sM_10 d_Mo_place_55 (vp_in_nI (by omega) (by decide)) ?_
    refine wp_iinc (v := _ + 1) (ls' := [_, _, _, _, _]) d_Mo_place_56 (by decide) rfl rfl rfl ?_
    refine wp_goto (t := 34) d_Mo_place_59 (by decide) ?_
    rw [bx_uu, nI_clamp (by omega), nI_clamp (by omega), show nI i + 1 = nI (i + 1) from nI_1 i]
    rw [show upd (va_up A 10 (sp_s1 (A 10) a i) 10) i (va_up A 10 (sp_s1 (A 10) a i) 10 (i + 1)) = sp_s1 (A 10) a (i + 1) from sp_s1_s hai]
    exact ih (i + 1) (by omega) (by omega) (by omega)
set_option maxRecDepth 4000 in
theorem c_Mo_place {m x : Int32} {mm a k0 : Nat} (hD : 2 ≤ D) (hM : ((0 ≤ m ∧ m ≤ I 0 - 1) ∧ (0 ≤ x ∧ x ≤ I 0 - 1)) → m = nI mm ∧ x = nI k0 ∧ a < 6 ∧ k0 < 6 ∧ A 10 a = nI mm ∧ ∀ j, j < a → A 10 j ≠ nI mm) (kn : ¬ ((0 ≤ m ∧ m ≤ I 0 - 1) ∧ (0 ≤ x ∧ x ≤ I 0 - 1)) → Q (some (.int (-1))) (HM X I A L E)) (kk : ((0 ≤ m ∧ m ≤ I 0 - 1) ∧ (0 ≤ x ∧ x ≤ I 0 - 1)) → Q (some (.int (nI a))) (HM X I (va_up A 10 (sp_plc (A 10) a k0 (nI mm))) L E)) : px_W G D 0 0 m_Mo_place 0 (px_ent 5 [.ref X.length, .int m, .int x]) [] (HM X I A L E) Q := by
  show px_W _ _ _ _ _ _ [some (.ref X.length), some (.int m), some (.int x), none, none] [] _ _
  refine wp_aload_n d_Mo_place_0 rfl rfl rfl ?_
  refine wp_iload_n d_Mo_place_1 rfl rfl ?_
  refine wp_callV (r := (R_12, T_12, 70)) (M' := m_Mo_isMan) (as := [_]) (D' := D - 1) (C1 := 0) (C2 := 0) (S1 := 0) (S2 := 0) d_Mo_place_2 rfl w_1217 w_1219 w_16 hm_0 k_Mo_isMan (Nat.le_of_ble_eq_true rfl) rfl (Nat.le_of_ble_eq_true rfl) (by omega) rfl rfl ?_
  refine c_Mo_isMan (by omega)  (fun c_2 => ?_) (fun c_2 => ?_)
  · skip
    refine wp_if_eq (t := 23) d_Mo_place_5 (by decide) (fun c_5 => (absurd c_5 (by decide))) (fun c_5 => ?_)
    refine wp_aload_n d_Mo_place_8 rfl rfl rfl ?_
    refine wp_iload_n d_Mo_place_9 rfl rfl ?_
    refine wp_iconst (v := 0) d_Mo_place_10 rfl ?_
    refine wp_aload_n d_Mo_place_11 rfl rfl rfl ?_
    refine gM_0 rfl d_Mo_place_12 ?_
    refine wp_iconst (v := 1) d_Mo_place_15 rfl ?_
    refine wp_isub d_Mo_place_16 ?_
    refine wp_callV (r := (R_12, T_12, 70)) (M' := m_Mo_in) (as := [_, _, _]) (D' := D - 1) (C1 := 0) (C2 := 0) (S1 := 0) (S2 := 0) d_Mo_place_17 rfl w_1209 w_1211 w_15 hm_0 k_Mo_in (Nat.le_of_ble_eq_true rfl) rfl (Nat.le_of_ble_eq_true rfl) (by omega) rfl rfl ?_
    refine c_Mo_in (by omega)  (fun c_17 => ?_) (fun c_17 => ?_)
    · skip
      refine wp_if_ne (t := 25) d_Mo_place_20 (by decide) (fun c_20 => ?_) (fun c_20 => (absurd c_20 (by decide)))
      obtain ⟨rfl, rfl, ha, hk0, hch, hmin⟩ := hM ⟨c_2, c_17⟩
      refine wp_aload_n d_Mo_place_25 rfl rfl rfl ?_
      refine wp_iload_n d_Mo_place_26 rfl rfl ?_
      refine wp_callV (r := (R_12, T_12, 70)) (M' := m_Mo_placeOf) (as := [_]) (D' := D - 1) (C1 := 0) (C2 := 0) (S1 := 0) (S2 := 0) d_Mo_place_27 rfl w_1229 w_1231 w_17 hm_0 k_Mo_placeOf (Nat.le_of_ble_eq_true rfl) rfl (Nat.le_of_ble_eq_true rfl) (by omega) rfl rfl ?_
      refine c_Mo_placeOf (by omega) ha hch hmin ?_
      refine wp_istore_n (ls' := [_, _, _, _, _]) d_Mo_place_30 rfl (by decide) rfl ?_
      refine wp_iload_n d_Mo_place_31 rfl rfl ?_
      refine wp_istore (ls' := [_, _, _, _, _]) d_Mo_place_32 (by decide) rfl ?_
      rw [show HM X I A L E = HM X I (va_up A 10 (sp_s1 (A 10) a a)) L E from by rw [sp_s1_0 (Nat.le_refl _), va_us]]
      exact l_Mo_place_34 ha hk0 (kk ⟨c_2, c_17⟩) (k0 - a) a (by omega) (Nat.le_refl _) (Or.inl rfl)
    · skip
      refine wp_if_ne (t := 25) d_Mo_place_20 (by decide) (fun c_20 => (absurd c_20 (by decide))) (fun c_20 => ?_)
      refine wp_iconst (v := (-1)) d_Mo_place_23 rfl ?_
      refine wp_ireturn d_Mo_place_24 rfl rfl ?_
      first | exact kn (fun z => c_2 z.1) | exact kn (fun z => c_17 z.2)
  · skip
    refine wp_if_eq (t := 23) d_Mo_place_5 (by decide) (fun c_5 => ?_) (fun c_5 => (absurd c_5 (by decide)))
    refine wp_iconst (v := (-1)) d_Mo_place_23 rfl ?_
    refine wp_ireturn d_Mo_place_24 rfl rfl ?_
    first | exact kn (fun z => c_2 z.1) | exact kn (fun z => c_17 z.2)
set_option maxRecDepth 4000 in
theorem l_Mo_judge_34 {t n : Nat} {i : Int32} (ht : t < 6) (hl : ∃ len, len ≤ 60 ∧ A 67 t = nI len) (hn : I 0 = nI n) (hn6 : n ≤ 6) : ∀ (q m : Nat), m + q = n → Q (some (.int (sp_jdg (A 8) (fun m => L 68 (nI (60 * t) + i + nI m).toNatClampNeg) (A 66 t) (A 67 t) i q m))) (HM X I A L E) → px_W G D 0 0 m_Mo_judge 34 [some (.ref X.length), some (.int (nI t)), some (.int i), some (.int (nI m))] [] (HM X I A L E) Q := by
  intro q
  induction q with
  | zero =>
    intro m hm hq
    refine wp_iload_n d_Mo_judge_34 rfl rfl ?_
    refine wp_aload_n d_Mo_judge_35 rfl rfl rfl ?_
    refine gM_0 rfl d_Mo_judge_36 ?_
    refine wp_icmp_ge (t := 106) d_Mo_judge_39 (by decide) (fun c_39 => ?_) (fun c_39 => absurd (by rw [hn]; exact nI_le (by omega) (by omega)) c_39)
    refine wp_bipush (v := (-5)) d_Mo_judge_106 (by decide) ?_
    refine wp_ireturn d_Mo_judge_108 rfl rfl ?_
    exact hq
  | succ q ih =>
    intro m hm hq
    obtain ⟨len, hlen, el⟩ := hl
    have ect : (nI t).toNatClampNeg = t := nI_clamp (by omega)
    have e60 : (60 : Int32) * nI t = nI (60 * t) := pk_mul 60 t
    have hin : ¬ i < 0 → ¬ A 67 t - nI m - 1 < i → ∃ z, i = nI z ∧ z + m < 60 := fun h1 h2 => by
      obtain ⟨z, hz, rfl⟩ := nI_of h1
      rw [el] at h2
      rw [Int32.lt_iff_toInt_lt] at h2
      have e3 : (nI len - nI m - 1).toInt = (len : Int) - m - 1 := by
        by_cases hml : m + 1 ≤ len
        · rw [pk_sub (by omega), show nI (len - m) - 1 = nI (len - m - 1) from pk_sub (b := 1) (by omega), nI_toInt (by omega)]
          omega
        · have e4 : nI len - nI m - 1 = nI len - nI (m + 1) := by
            rw [← nI_1 m]
            simp only [Int32.sub_eq_add_neg, Int32.neg_add, Int32.add_assoc]
          rw [e4, pk_sub_toInt (by omega) (by omega)]
          omega
      rw [e3, nI_toInt hz] at h2
      exact ⟨z, rfl, by omega⟩
    have hst : sp_jdg (A 8) (fun m => L 68 (nI (60 * t) + i + nI m).toNatClampNeg) (A 66 t) (A 67 t) i (q + 1) m = if A 66 t < 0 ∨ i < 0 ∨ A 67 t - nI m - 1 < i then 100 + nI m else if lg_cmp (L 68 (nI (60 * t) + i + nI m).toNatClampNeg) (A 8 m).toInt64 = 0 then sp_jdg (A 8) (fun m => L 68 (nI (60 * t) + i + nI m).toNatClampNeg) (A 66 t) (A 67 t) i q (m + 1) else nI m := rfl
    rw [hst] at hq
    refine wp_iload_n d_Mo_judge_34 rfl rfl ?_
    refine wp_aload_n d_Mo_judge_35 rfl rfl rfl ?_
    refine gM_0 rfl d_Mo_judge_36 ?_
    refine wp_icmp_ge (t := 106) d_Mo_judge_39 (by decide) (fun c_39 => absurd c_39 (by rw [hn]; exact nI_ge (by omega) (by omega))) (fun c_39 => ?_)
    refine wp_aload_n d_Mo_judge_42 rfl rfl rfl ?_
    refine gM_66 rfl d_Mo_judge_43 ?_
    refine wp_iload_n d_Mo_judge_46 rfl rfl ?_
    refine lM_66 d_Mo_judge_47 (vp_in_nI (by omega) (by decide)) ?_
    rw [ect]
    refine wp_if_lt (t := 69) d_Mo_judge_48 (by decide) (fun c_48 => ?_) (fun c_48 => ?_)
    · skip
      refine wp_bipush (v := 100) d_Mo_judge_69 (by decide) ?_
      refine wp_iload_n d_Mo_judge_71 rfl rfl ?_
      refine wp_iadd d_Mo_judge_72 ?_
      refine wp_ireturn d_Mo_judge_73 rfl rfl ?_
      rw [if_pos (by first | exact Or.inl c_48 | exact Or.inr (Or.inl c_52) | exact Or.inr (Or.inr (Int32.not_le.mp c_66)))] at hq
      exact hq
    · skip
      refine wp_iload_n d_Mo_judge_51 rfl rfl ?_
      refine wp_if_lt (t := 69) d_Mo_judge_52 (by decide) (fun c_52 => ?_) (fun c_52 => ?_)
      · skip
        refine wp_bipush (v := 100) d_Mo_judge_69 (by decide) ?_
        refine wp_iload_n d_Mo_judge_71 rfl rfl ?_
        refine wp_iadd d_Mo_judge_72 ?_
        refine wp_ireturn d_Mo_judge_73 rfl rfl ?_
        rw [if_pos (by first | exact Or.inl c_48 | exact Or.inr (Or.inl c_52) | exact Or.inr (Or.inr (Int32.not_le.mp c_66)))] at hq
        exact hq
      · skip
        refine wp_iload_n d_Mo_judge_55 rfl rfl ?_
        refine wp_aload_n d_Mo_judge_56 rfl rfl rfl ?_
        refine gM_67 rfl d_Mo_judge_57 ?_
        refine wp_iload_n d_Mo_judge_60 rfl rfl ?_
        refine lM_67 d_Mo_judge_61 (vp_in_nI (by omega) (by decide)) ?_
        rw [ect]
        refine wp_iload_n d_Mo_judge_62 rfl rfl ?_
        refine wp_isub d_Mo_judge_63 ?_
        refine wp_iconst (v := 1) d_Mo_judge_64 rfl ?_
        refine wp_isub d_Mo_judge_65 ?_
        refine wp_icmp_le (t := 74) d_Mo_judge_66 (by decide) (fun c_66 => ?_) (fun c_66 => ?_)
        · skip
          refine wp_aload_n d_Mo_judge_74 rfl rfl rfl ?_
          refine gM_68 rfl d_Mo_judge_75 ?_
          refine wp_bipush (v := 60) d_Mo_judge_78 (by decide) ?_
          refine wp_iload_n d_Mo_judge_80 rfl rfl ?_
          refine wp_imul d_Mo_judge_81 ?_
          refine wp_iload_n d_Mo_judge_82 rfl rfl ?_
          rw [e60]
          refine wp_iadd d_Mo_judge_83 ?_
          refine wp_iload_n d_Mo_judge_84 rfl rfl ?_
          refine wp_iadd d_Mo_judge_85 ?_
          refine lM_68 d_Mo_judge_86 (by obtain ⟨z, hz1, hz2⟩ := hin c_52 (Int32.not_lt.mpr c_66); rw [hz1, nI_add, nI_add]; exact vp_in_nI (by omega) (by decide)) ?_
          refine wp_aload_n d_Mo_judge_87 rfl rfl rfl ?_
          refine gM_8 rfl d_Mo_judge_88 ?_
          refine wp_iload_n d_Mo_judge_91 rfl rfl ?_
          refine lM_8 d_Mo_judge_92 (vp_in_nI (by omega) (by decide)) ?_
          rw [nI_clamp (n := m) (by omega)]
          refine wp_i2l d_Mo_judge_93 ?_
          refine wp_lcmp d_Mo_judge_94 ?_
          refine wp_if_eq (t := 100) d_Mo_judge_95 (by decide) (fun c_95 => ?_) (fun c_95 => ?_)
          · skip
            refine wp_iinc (v := _ + 1) (ls' := [_, _, _, _]) d_Mo_judge_100 (by decide) rfl rfl rfl ?_
            refine wp_goto (t := 34) d_Mo_judge_103 (by decide) ?_
            rw [if_neg (fun z => z.elim c_48 (fun z => z.elim c_52 (fun z => absurd z (Int32.not_lt.mpr c_66)))), if_pos c_95] at hq
            rw [show nI m + 1 = nI (m + 1) from nI_1 m]
            exact ih (m + 1) (by omega) hq
          · skip
            refine wp_iload_n d_Mo_judge_98 rfl rfl ?_
            refine wp_ireturn d_Mo_judge_99 rfl rfl ?_
            rw [if_neg (fun z => z.elim c_48 (fun z => z.elim c_52 (fun z => absurd z (Int32.not_lt.mpr c_66)))), if_neg c_95] at hq
            exact hq
        · skip
          refine wp_bipush (v := 100) d_Mo_judge_69 (by decide) ?_
          refine wp_iload_n d_Mo_judge_71 rfl rfl ?_
          refine wp_iadd d_Mo_judge_72 ?_
          refine wp_ireturn d_Mo_judge_73 rfl rfl ?_
          rw [if_pos (by first | exact Or.inl c_48 | exact Or.inr (Or.inl c_52) | exact Or.inr (Or.inr (Int32.not_le.mp c_66)))] at hq
          exact hq
set_option maxRecDepth 4000 in
theorem c_Mo_judge {t i : Int32} {tt n : Nat} (hD : 2 ≤ D) (hT : (0 ≤ t ∧ t ≤ 5) → I 0 = nI n ∧ n ≤ 6 ∧ t = nI tt ∧ tt < 6 ∧ ∃ len, len ≤ 60 ∧ A 67 tt = nI len) (kn : ¬ (0 ≤ t ∧ t ≤ 5) → Q (some (.int (-1))) (HM X I A L E)) (kc : (0 ≤ t ∧ t ≤ 5) → ¬ (A 66 tt < 0 ∨ A 66 tt = 2) → Q (some (.int (-12))) (HM X I A L E)) (kk : (0 ≤ t ∧ t ≤ 5) → (A 66 tt < 0 ∨ A 66 tt = 2) → Q (some (.int (sp_jdg (A 8) (fun m => L 68 (nI (60 * tt) + i + nI m).toNatClampNeg) (A 66 tt) (A 67 tt) i n 0))) (HM X I A L E)) : px_W G D 0 0 m_Mo_judge 0 (px_ent 4 [.ref X.length, .int t, .int i]) [] (HM X I A L E) Q := by
  show px_W _ _ _ _ _ _ [some (.ref X.length), some (.int t), some (.int i), none] [] _ _
  refine wp_aload_n d_Mo_judge_0 rfl rfl rfl ?_
  refine wp_iload_n d_Mo_judge_1 rfl rfl ?_
  refine wp_callV (r := (R_12, T_12, 70)) (M' := m_Mo_isTape) (as := [_]) (D' := D - 1) (C1 := 0) (C2 := 0) (S1 := 0) (S2 := 0) d_Mo_judge_2 rfl w_1507 w_1509 w_62 hm_0 k_Mo_isTape (Nat.le_of_ble_eq_true rfl) rfl (Nat.le_of_ble_eq_true rfl) (by omega) rfl rfl ?_
  refine c_Mo_isTape (by omega)  (fun c_2 => ?_) (fun c_2 => ?_)
  · skip
    refine wp_if_ne (t := 10) d_Mo_judge_5 (by decide) (fun c_5 => ?_) (fun c_5 => (absurd c_5 (by decide)))
    obtain ⟨hn, hn6, rfl, htt, hl⟩ := hT c_2
    refine wp_aload_n d_Mo_judge_10 rfl rfl rfl ?_
    refine gM_66 rfl d_Mo_judge_11 ?_
    refine wp_iload_n d_Mo_judge_14 rfl rfl ?_
    refine lM_66 d_Mo_judge_15 (vp_in_nI (by omega) (by decide)) ?_
    rw [nI_clamp (by omega)]
    refine wp_if_lt (t := 32) d_Mo_judge_16 (by decide) (fun c_16 => ?_) (fun c_16 => ?_)
    · skip
      refine wp_iconst (v := 0) d_Mo_judge_32 rfl ?_
      refine wp_istore_n (ls' := [_, _, _, _]) d_Mo_judge_33 rfl (by decide) rfl ?_
      exact l_Mo_judge_34 htt hl hn hn6 n 0 (by omega) (kk c_2 (by first | exact Or.inl c_16 | exact Or.inr c_26))
    · skip
      refine wp_aload_n d_Mo_judge_19 rfl rfl rfl ?_
      refine gM_66 rfl d_Mo_judge_20 ?_
      refine wp_iload_n d_Mo_judge_23 rfl rfl ?_
      refine lM_66 d_Mo_judge_24 (vp_in_nI (by omega) (by decide)) ?_
      rw [nI_clamp (by omega)]
      refine wp_iconst (v := 2) d_Mo_judge_25 rfl ?_
      refine wp_icmp_eq (t := 32) d_Mo_judge_26 (by decide) (fun c_26 => ?_) (fun c_26 => ?_)
      · skip
        refine wp_iconst (v := 0) d_Mo_judge_32 rfl ?_
        refine wp_istore_n (ls' := [_, _, _, _]) d_Mo_judge_33 rfl (by decide) rfl ?_
        exact l_Mo_judge_34 htt hl hn hn6 n 0 (by omega) (kk c_2 (by first | exact Or.inl c_16 | exact Or.inr c_26))
      · skip
        refine wp_bipush (v := (-12)) d_Mo_judge_29 (by decide) ?_
        refine wp_ireturn d_Mo_judge_31 rfl rfl ?_
        exact kc c_2 (fun z => z.elim c_16 c_26)
  · skip
    refine wp_if_ne (t := 10) d_Mo_judge_5 (by decide) (fun c_5 => (absurd c_5 (by decide))) (fun c_5 => ?_)
    refine wp_iconst (v := (-1)) d_Mo_judge_8 rfl ?_
    refine wp_ireturn d_Mo_judge_9 rfl rfl ?_
    exact kn c_2
end MO8
